/-! copies begun -/
section COPIES
variable {g : Nat → Nat → Option Nat} {cf : Nat → Nat → Nat} {nm : Nat → Int32} {A : Nat → Nat → Nat} {M : MP} {nd nb nr fe co : Nat} {W : Nat → Nat} {DL BT CT : List Nat} {C : CS} {S : RS} {b c a : Nat} {z : Int32}
theorem g_orderer (u : Int32) (hLN : LN (A 2) C 207 13 CT) (hq : ∀ a, a ∈ CT → C.2 128 (A 2 a) = some (A 1 (W a)) ∧ W a < 40 ∧ C.1 131 (A 2 a) = S 11 (W a)) (h3 : VW (A 1) 40 (C.1 3) (S 5)) : ∀ (fu j : Nat), j ≤ CT.length → CT.length - j < fu → (∀ i (h : i < CT.length), i < j → ¬ (S 5 (W CT[i]) = 5 ∧ S 11 (W CT[i]) = u)) → ok (gX9_firstOrderer_2 C g cf nm (some none) fu u (nI j)) (fun q => (q = none ∧ ∀ i (h : i < CT.length), ¬ (S 5 (W CT[i]) = 5 ∧ S 11 (W CT[i]) = u)) ∨ ∃ k, ∃ h : k < CT.length, q = some (A 2 CT[k]) ∧ (S 5 (W CT[k]) = 5 ∧ S 11 (W CT[k]) = u) ∧ ∀ i (h : i < CT.length), i < k → ¬ (S 5 (W CT[i]) = 5 ∧ S 11 (W CT[i]) = u)) := by
  intro fu
  induction fu with
  | zero => intro j hj hf; omega
  | succ fu ih =>
    intro j hj hf hno
    obtain ⟨n1, n2, n3⟩ := id hLN
    rw [gX9_firstOrderer_2, nI_1 j]
    refine ok_ite (fun c => ?_) (fun c => ?_)
    · have hjn : j = CT.length := by
        have := (nI_leI (a := CT.length) (b := j) (by omega) (by omega)).mp (n1 ▸ c)
        omega
      exact ok_some (Or.inl ⟨rfl, fun i h => hno i h (by omega)⟩)
    have hjl : j < CT.length := nl n1 (by omega) (by omega) c
    have hat := g_at2 (g := g) (cf := cf) (nm := nm) hLN (i := j) (by omega)
    rw [dif_pos hjl] at hat
    obtain ⟨q1, q2, q3⟩ := hq CT[j] (List.getElem_mem hjl)
    have hskip : ¬ (S 5 (W CT[j]) = 5 ∧ S 11 (W CT[j]) = u) → ok (gX9_firstOrderer_2 C g cf nm (some none) fu u (nI (j + 1))) (fun q => (q = none ∧ ∀ i (h : i < CT.length), ¬ (S 5 (W CT[i]) = 5 ∧ S 11 (W CT[i]) = u)) ∨ ∃ k, ∃ h : k < CT.length, q = some (A 2 CT[k]) ∧ (S 5 (W CT[k]) = 5 ∧ S 11 (W CT[k]) = u) ∧ ∀ i (h : i < CT.length), i < k → ¬ (S 5 (W CT[i]) = 5 ∧ S 11 (W CT[i]) = u)) := fun hn => ih (j + 1) (by omega) (by omega) (fun i h hi => by
      by_cases e : i = j
      · subst e; exact hn
      · exact hno i h (by omega))
    refine ok_bd1 (P := fun q => q = some (A 2 CT[j])) ⟨_, hat, rfl⟩ (fun q hq9 => c_ocs hq9 (ok_bd1 (g_awaits (S := S) 5 q1 q2 h3) (fun y hy => ok_ite (fun k => hskip (fun h9 => absurd k (hy.mpr h9.1))) (fun k => ?_))))
    rw [q3]
    exact ok_ite (fun k2 => ok_some (Or.inr ⟨j, hjl, rfl, ⟨hy.mp k, k2⟩, hno⟩)) (fun k2 => hskip (fun h9 => k2 h9.2))
theorem r_copyBox (u : Int32) (hnb : nb ≤ 40) (es : S 0 2 = nI nb) : ∀ (fu j : Nat) (v : Int32), j ≤ nb → nb - j < fu → ((v = -1 ∧ ∀ x, x < j → ¬ (S 5 x = 5 ∧ S 11 x = u)) ∨ ∃ w, w < j ∧ v = nI w ∧ (S 5 w = 5 ∧ S 11 w = u) ∧ ∀ x, x < j → (S 5 x = 5 ∧ S 11 x = u) → S 9 w ≤ S 9 x) → ok (gX10_copyBox_4 S (fun v2_14 => some v2_14) fu u v (nI j)) (fun y => (y = -1 ∧ ∀ x, x < nb → ¬ (S 5 x = 5 ∧ S 11 x = u)) ∨ ∃ w, w < nb ∧ y = nI w ∧ (S 5 w = 5 ∧ S 11 w = u) ∧ ∀ x, x < nb → (S 5 x = 5 ∧ S 11 x = u) → S 9 w ≤ S 9 x) := by
  intro fu
  induction fu with
  | zero => intro j v hj hf; omega
  | succ fu ih =>
    intro j v hj hf hv
    rw [gX10_copyBox_4, nI_1 j]
    refine ok_ite (fun c => ?_) (fun c => ?_)
    · have hjn : j = nb := by
        have := (nI_leI (a := nb) (b := j) (by omega) (by omega)).mp (es ▸ c)
        omega
      subst hjn
      exact ok_some hv
    have hjb : j < nb := nl es (by omega) (by omega) c
    have hj40 : j < 40 := by omega
    have hskip : ¬ (S 5 j = 5 ∧ S 11 j = u) → ok (gX10_copyBox_4 S (fun v2_14 => some v2_14) fu u v (nI (j + 1))) (fun y => (y = -1 ∧ ∀ x, x < nb → ¬ (S 5 x = 5 ∧ S 11 x = u)) ∨ ∃ w, w < nb ∧ y = nI w ∧ (S 5 w = 5 ∧ S 11 w = u) ∧ ∀ x, x < nb → (S 5 x = 5 ∧ S 11 x = u) → S 9 w ≤ S 9 x) := fun hn => by
      refine ih (j + 1) v (by omega) (by omega) ?_
      rcases hv with ⟨k1, k2⟩ | ⟨w, w1, w2, w3, w5⟩
      · refine Or.inl ⟨k1, fun x hx => ?_⟩
        by_cases e : x = j
        · subst e; exact hn
        · exact k2 x (by omega)
      · refine Or.inr ⟨w, by omega, w2, w3, fun x hx k3 => ?_⟩
        by_cases e : x = j
        · subst e; exact absurd k3 hn
        · exact w5 x (by omega) k3
    refine ok_ld rfl hj40 (by decide) (fun y2 e2 => ok_ite (fun k => ?_) (fun k => hskip (fun h9 => k (e2.trans h9.1))))
    refine ok_ld rfl hj40 (by decide) (fun y5 e5 => ok_ite (fun k5 => ?_) (fun k5 => hskip (fun h9 => k5 (e5.trans h9.2))))
    have p0 : S 5 j = 5 ∧ S 11 j = u := ⟨e2.symm.trans k, e5.symm.trans k5⟩
    refine ok_ite (fun kv => ?_) (fun kv => ?_)
    · refine ih (j + 1) (nI j) (by omega) (by omega) (Or.inr ⟨j, by omega, rfl, p0, fun x hx k3 => ?_⟩)
      rcases hv with ⟨_, k2⟩ | ⟨w, w1, w2, _⟩
      · by_cases e : x = j
        · subst e; exact Int32.le_refl _
        · exact absurd k3 (k2 x (by omega))
      · exact absurd (w2.symm.trans kv) (nI_nm (by omega))
    · rcases hv with ⟨k1, _⟩ | ⟨w, w1, rfl, w3, w5⟩
      · exact absurd k1 kv
      refine ok_ld rfl hj40 (by decide) (fun y9 e9 => ok_ld rfl (by omega) (by decide) (fun y11 e11 => ok_ite (fun k9 => ?_) (fun k9 => ?_)))
      · refine ih (j + 1) (nI w) (by omega) (by omega) (Or.inr ⟨w, by omega, rfl, w3, fun x hx k3 => ?_⟩)
        by_cases e : x = j
        · subst e
          rw [e9, e11] at k9
          exact k9
        · exact w5 x (by omega) k3
      · refine ih (j + 1) (nI j) (by omega) (by omega) (Or.inr ⟨j, by omega, rfl, p0, fun x hx k3 => ?_⟩)
        by_cases e : x = j
        · subst e; exact Int32.le_refl _
        · rw [e9, e11] at k9
          exact Int32.le_trans (Int32.le_of_lt (nle_lt k9)) (w5 x (by omega) k3)
theorem b_orderer (he : EN g cf nm A) (h : Rel M A cf nd nb nr fe co W DL BT CT C S) (u : Int32) : ok2 (gX9_firstOrderer g cf nm C u) (gX10_copyBox S u) (fun q y => (q = none ∧ y = -1) ∨ ∃ a, a < nr ∧ q = some (A 2 a) ∧ y = nI (W a) ∧ S 15 a = 4 ∧ S 5 (W a) = 5 ∧ S 11 (W a) = u) := by
  obtain ⟨⟨t, bl, ms, hst⟩, hM, h1, h2, h3, h4, h5, h6, h7, h8, h9, h10, h11, h12⟩ := h
  obtain ⟨⟨⟨e1, b1⟩, ⟨e2, b2⟩, ⟨e3, b3⟩, _⟩, hR, hJ⟩ := id hst
  have hin : ∀ a, a ∈ CT → a < nr ∧ S 15 a = 4 := fun a ha => (h8.2.2.2.1 a).mp ha
  have hq : ∀ a, a ∈ CT → C.2 128 (A 2 a) = some (A 1 (W a)) ∧ W a < 40 ∧ C.1 131 (A 2 a) = S 11 (W a) := fun a ha => by
    obtain ⟨k1, k2⟩ := hin a ha
    have k3 := h7.2.2.1 a (by omega)
    rw [if_pos (Or.inr k2)] at k3
    have k4 := (h7.2.2.2.2.2 a (by omega) k2).1
    exact ⟨k3, by omega, (h7.2.2.2.1 a (by omega) k2).2⟩
  obtain ⟨q, eq, hq1⟩ := g_orderer (g := g) (cf := cf) (nm := nm) (S := S) (W := W) u h8.2.2.1 hq h3.2.2.1 1000 0 (Nat.zero_le _) (by have := h8.2.2.1.2.1; omega) (fun i h hi => absurd hi (Nat.not_lt_zero i))
  obtain ⟨y, ey, hy⟩ := r_copyBox (S := S) u b2 e2 1000 0 (-1) (Nat.zero_le _) (by omega) (Or.inl ⟨rfl, fun x hx => absurd hx (Nat.not_lt_zero x)⟩)
  refine ⟨q, y, eq, ey, ?_⟩
  have hbox : ∀ x, x < nb → S 5 x = 5 → ∃ i, ∃ hi : i < CT.length, W CT[i] = x := fun x hx k => by
    have k6 := h9.2.1 x hx k
    rcases hR.2.2.2.2.1 x with k2 | ⟨a, ha, k2⟩
    · exact absurd k2 k6
    · have s4 : S 15 a = 4 := by
        rcases hJ.2.2.2.2.1 x a hx ha k2 with k3 | ⟨_, k3⟩
        · rw [k] at k3; exact absurd k3 (by decide)
        · exact k3
      have har : a < nr := by
        rcases Nat.lt_or_ge a nr with k3 | k3
        · exact k3
        · have := hJ.1 a k3
          rw [s4] at this
          exact absurd this (by decide)
      obtain ⟨i, hi, e⟩ := List.mem_iff_getElem.mp ((h8.2.2.2.1 a).mpr ⟨har, s4⟩)
      obtain ⟨w1, w2, w3⟩ := h7.2.2.2.2.2 a ha s4
      exact ⟨i, hi, by rw [e]; exact hJ.2.2.2.2.2.1 (W a) x a w1 hx ha w2 k2 (by rcases w3 with w3 | w3 <;> (rw [w3]; decide)) (by rw [k]; decide)⟩
  rcases hq1 with ⟨rfl, n1⟩ | ⟨k, hk, rfl, k1, k2⟩
  · rcases hy with ⟨rfl, _⟩ | ⟨w, w1, w2, w3, w5⟩
    · exact Or.inl ⟨rfl, rfl⟩
    · obtain ⟨i, hi, e⟩ := hbox w w1 w3.1
      exact absurd (e ▸ w3) (n1 i hi)
  · obtain ⟨z1, z2⟩ := hin _ (List.getElem_mem hk)
    obtain ⟨v1, v2, v3⟩ := h7.2.2.2.2.2 _ (by omega) z2
    rcases hy with ⟨rfl, n1⟩ | ⟨w, w1, rfl, w3, w5⟩
    · exact absurd k1 (n1 _ v1)
    · obtain ⟨i, hi, e⟩ := hbox w w1 w3.1
      have hik : i = k := by
        rcases Nat.lt_trichotomy i k with h | h | h
        · exact absurd (e.symm ▸ w3) (k2 i hi h)
        · exact h
        · have hlt := List.pairwise_iff_getElem.mp h8.2.2.2.2 k i hk hi h
          have hle := w5 _ v1 k1
          rw [← e] at hle
          exact absurd hle (lt_nle hlt)
      subst hik
      exact Or.inr ⟨CT[i], z1, rfl, by rw [e], z2, k1.1, k1.2⟩
/-- a copy begun -/
theorem Rel_begin (he : EN g cf nm A) (h : Rel M A cf nd nb nr fe co W DL BT CT C S) (hpos : 0 < S 0 4) (hc : c < co) (hb : b < nb) (ecb : S 33 c = -1) (p5 : S 5 b = 5) {pg : Int32} {q : Option Nat} (hz : ∃ u, u ≤ 3 ∧ z = nI u) : Rel M A cf nd nb nr fe co W DL BT CT (wi (wi (wq (wq (wi C 3 (A 1 b) 6) 160 (A 4 c) (some (A 1 b))) 161 (A 4 c) q) 162 (A 4 c) pg) 200 8 z) (wr (wr (wr (wr S 0 23 z) 5 b 6) 33 c (nI b)) 34 c pg) := by
  obtain ⟨⟨t, bl, ms, hst⟩, hM, h1, h2, h3, h4, h5, h6, h7, h8, h9, h10, h11, h12⟩ := h
  have b2 := hst.1.2.1.2
  have b8 := hst.1.2.2.2.2.1.2
  have hJ := hst.2.2
  have hc3 : c < 3 := by omega
  have hb40 : b < 40 := by omega
  refine ⟨⟨t, bl, ms, hst.1, R_cB hst.2.1 (Or.inr ⟨b, hb40, rfl⟩), J_begin hJ hc3 hb hb40 ecb p5⟩, hM, ⟨⟨h1.1.1, h1.1.2.1, h1.1.2.2.1, h1.1.2.2.2.1, h1.1.2.2.2.2.1, h1.1.2.2.2.2.2.1, h1.1.2.2.2.2.2.2.1, h1.1.2.2.2.2.2.2.2.1, rfl, h1.1.2.2.2.2.2.2.2.2.2.1, h1.1.2.2.2.2.2.2.2.2.2.2.1, hz⟩, h1.2⟩, h2, R3_pl he h3 hb b2 6, h4, R5_fr h5 (fun x => by simp only [wi, wq, kp, ln, rls, va_p1, wr_pl, Nat.reduceLT]) rfl rfl rfl, ?_, R7_pl h7 (fun _ _ _ _ => Or.inr rfl), h8, R9_pl h9 (fun k => absurd k (by decide)) (fun f' x hf' hx k => ?_), ?_, h11, h12⟩
  · obtain ⟨a1, a2, a3, a4⟩ := h6
    refine ⟨fun x hx => (va_up_ne _ _ (inj34 he x c hx hc3)).trans (a1 x hx), VQ_up a2 (fun i hi e => inj4 he i c hi hc3 e) (rfI_s _ (by omega)).symm, fun x hx => ?_, fun x hx => ?_⟩
    · show (¬ S 30 x = -1 → va_up (C.2 161) (A 4 c) q (A 3 x) = rfI (A 2) (S 32 x) ∧ upd (C.1 162) (A 4 c) pg (A 3 x) = S 31 x) ∧ (S 30 x = -1 → upd (C.1 162) (A 4 c) pg (A 3 x) = 0)
      rw [va_up_ne _ _ (inj34 he x c hx hc3), ua_n _ _ (inj34 he x c hx hc3)]
      exact a3 x hx
    · show (¬ upd (S 33) c (nI b) x = -1 → upd (C.1 162) (A 4 c) pg (A 4 x) = upd (S 34) c pg x) ∧ (upd (S 33) c (nI b) x = -1 → upd (C.1 162) (A 4 c) pg (A 4 x) = 0)
      by_cases e : x = c
      · subst e
        rw [ua_s, ua_s, ua_s]
        exact ⟨fun _ => rfl, fun k => absurd k (nI_nm (by omega))⟩
      · have hne : A 4 x ≠ A 4 c := fun k => e (inj4 he x c hx hc3 k)
        rw [ua_n _ _ e, ua_n _ _ hne, ua_n _ _ e]
        exact a4 x hx
  · refine Or.inr ⟨fun e => ?_, k, rfl⟩
    subst e
    rcases (hJ.2.2.2.2.2.2.2.1 f' x hf' hx k).2 with k3 | k3 <;> (rw [p5] at k3; exact absurd k3 (by decide))
  · refine ⟨h10.1, fun x hx hx3 => ?_, fun k => absurd hpos k⟩
    have e : x ≠ c := by omega
    exact (ua_n _ _ e).trans (h10.2.1 x hx hx3)
end COPIES
