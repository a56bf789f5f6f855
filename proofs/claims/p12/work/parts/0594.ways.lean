/-! fetchers sent -/
section WAYS
variable {g : Nat → Nat → Option Nat} {cf : Nat → Nat → Nat} {nm : Nat → Int32} {A : Nat → Nat → Nat} {M : MP} {nd nb nr fe co : Nat} {W : Nat → Nat} {DL BT CT : List Nat} {C : CS} {S : RS} {r b f : Nat}
theorem b_left (hA : ∀ i, i < 40 → g 1 i = some (A 1 i)) (hnb : nb ≤ 40) (ec : C.1 200 1 = nI nb) (es : S 0 2 = nI nb) (h3 : VW (A 1) 40 (C.1 3) (S 5)) : ∀ (fu j : Nat), j ≤ nb → nb - j < fu → ok2 (gX9_firstLeftBox_2 C g cf nm (some none) fu (nI j)) (gX10_leftBox_2 S (some (-1)) fu (nI j)) (fun q y => (q = none ∧ y = -1) ∨ ∃ b, b < nb ∧ q = some (A 1 b) ∧ y = nI b ∧ S 5 b = 2) := by
  intro fu
  induction fu with
  | zero => intro j hj hf; omega
  | succ fu ih =>
    intro j hj hf
    rw [gX9_firstLeftBox_2, gX10_leftBox_2, nI_1 j]
    refine b_ite (by rw [ec, es]) (fun _ _ => b_some (Or.inl ⟨rfl, rfl⟩)) (fun q _ => ?_)
    have hjb : j < nb := nl ec (by omega) (by omega) q
    have hj40 : j < 40 := by omega
    refine l_ga rfl hj40 (by decide) (hA j hj40) (r_ld rfl hj40 (by decide) (fun y ey => b_ite (by rw [h3 j hj40, ey]) (fun k k2 => ?_) (fun _ _ => ih (j + 1) (by omega) (by omega))))
    exact l_ga rfl hj40 (by decide) (hA j hj40) (b_some (Or.inr ⟨j, hjb, rfl, rfl, ey.symm.trans k2⟩))
theorem g_awaits {a : Nat} (v : Int32) (hq : C.2 128 (A 2 a) = some (A 1 (W a))) (hw : W a < 40) (h3 : VW (A 1) 40 (C.1 3) (S 5)) : ok (gX6_awaitsAt g cf nm C (A 2 a) v) (fun y => ¬ y = 0 ↔ S 5 (W a) = v) := by
  unfold gX6_awaitsAt
  refine ok_bnd (c_ocs hq (ok_bnd (c_sm hq ?_)))
  rw [h3 (W a) hw]
  exact ok_ite (fun k => ok_some ⟨fun _ => k, fun _ => by decide⟩) (fun k => ok_some ⟨fun h => absurd rfl h, fun h => absurd h k⟩)
theorem g_asker (hLN : LN (A 2) C 206 12 BT) (hq : ∀ a, a ∈ BT → C.2 128 (A 2 a) = some (A 1 (W a)) ∧ W a < 40) (h3 : VW (A 1) 40 (C.1 3) (S 5)) : ∀ (fu j : Nat), j ≤ BT.length → BT.length - j < fu → (∀ i (h : i < BT.length), i < j → ¬ S 5 (W BT[i]) = 0) → ok (gX9_firstAskerOfHomeBox_2 C g cf nm (some none) fu (nI j)) (fun q => (q = none ∧ ∀ i (h : i < BT.length), ¬ S 5 (W BT[i]) = 0) ∨ ∃ k, ∃ h : k < BT.length, q = some (A 2 BT[k]) ∧ S 5 (W BT[k]) = 0 ∧ ∀ i (h : i < BT.length), i < k → ¬ S 5 (W BT[i]) = 0) := by
  intro fu
  induction fu with
  | zero => intro j hj hf; omega
  | succ fu ih =>
    intro j hj hf hno
    obtain ⟨n1, n2, n3⟩ := id hLN
    rw [gX9_firstAskerOfHomeBox_2, nI_1 j]
    refine ok_ite (fun c => ?_) (fun c => ?_)
    · have hjn : j = BT.length := by
        have := (nI_leI (a := BT.length) (b := j) (by omega) (by omega)).mp (n1 ▸ c)
        omega
      exact ok_some (Or.inl ⟨rfl, fun i h => hno i h (by omega)⟩)
    have hjl : j < BT.length := nl n1 (by omega) (by omega) c
    have hat := g_at1 (g := g) (cf := cf) (nm := nm) hLN (i := j) (by omega)
    rw [dif_pos hjl] at hat
    obtain ⟨q1, q2⟩ := hq BT[j] (List.getElem_mem hjl)
    refine ok_bd1 (P := fun q => q = some (A 2 BT[j])) ⟨_, hat, rfl⟩ (fun q hq9 => c_ocs hq9 (ok_bd1 (g_awaits (S := S) 0 q1 q2 h3) (fun y hy => ok_ite (fun k => ?_) (fun k => ?_))))
    · refine ih (j + 1) (by omega) (by omega) (fun i h hi => ?_)
      by_cases e : i = j
      · subst e
        exact fun h9 => absurd k (hy.mpr h9)
      · exact hno i h (by omega)
    · exact ok_some (Or.inr ⟨j, hjl, rfl, hy.mp k, hno⟩)
theorem r_wanted (hnb : nb ≤ 40) (es : S 0 2 = nI nb) : ∀ (fu j : Nat) (v : Int32), j ≤ nb → nb - j < fu → ((v = -1 ∧ ∀ x, x < j → S 5 x = 0 → S 7 x = -1) ∨ ∃ w, w < j ∧ v = nI w ∧ S 5 w = 0 ∧ ¬ S 7 w = -1 ∧ ∀ x, x < j → S 5 x = 0 → ¬ S 7 x = -1 → S 8 w ≤ S 8 x) → ok (gX10_wantedBox_4 S (fun v1_14 => some v1_14) fu v (nI j)) (fun y => (y = -1 ∧ ∀ x, x < nb → S 5 x = 0 → S 7 x = -1) ∨ ∃ w, w < nb ∧ y = nI w ∧ S 5 w = 0 ∧ ¬ S 7 w = -1 ∧ ∀ x, x < nb → S 5 x = 0 → ¬ S 7 x = -1 → S 8 w ≤ S 8 x) := by
  intro fu
  induction fu with
  | zero => intro j v hj hf; omega
  | succ fu ih =>
    intro j v hj hf hv
    rw [gX10_wantedBox_4, nI_1 j]
    refine ok_ite (fun c => ?_) (fun c => ?_)
    · have hjn : j = nb := by
        have := (nI_leI (a := nb) (b := j) (by omega) (by omega)).mp (es ▸ c)
        omega
      subst hjn
      exact ok_some hv
    have hjb : j < nb := nl es (by omega) (by omega) c
    have hj40 : j < 40 := by omega
    have hskip : (S 5 j = 0 → S 7 j = -1) → ok (gX10_wantedBox_4 S (fun v1_14 => some v1_14) fu v (nI (j + 1))) (fun y => (y = -1 ∧ ∀ x, x < nb → S 5 x = 0 → S 7 x = -1) ∨ ∃ w, w < nb ∧ y = nI w ∧ S 5 w = 0 ∧ ¬ S 7 w = -1 ∧ ∀ x, x < nb → S 5 x = 0 → ¬ S 7 x = -1 → S 8 w ≤ S 8 x) := fun hn => by
      refine ih (j + 1) v (by omega) (by omega) ?_
      rcases hv with ⟨k1, k2⟩ | ⟨w, w1, w2, w3, w4, w5⟩
      · refine Or.inl ⟨k1, fun x hx => ?_⟩
        by_cases e : x = j
        · subst e; exact hn
        · exact k2 x (by omega)
      · refine Or.inr ⟨w, by omega, w2, w3, w4, fun x hx k3 k4 => ?_⟩
        by_cases e : x = j
        · subst e; exact absurd (hn k3) k4
        · exact w5 x (by omega) k3 k4
    refine ok_ld rfl hj40 (by decide) (fun y2 e2 => ok_ite (fun k => ?_) (fun k => hskip (fun h9 => absurd (e2.trans h9) k)))
    refine ok_ld rfl hj40 (by decide) (fun y5 e5 => ok_ite (fun k5 => hskip (fun _ => e5.symm.trans k5)) (fun k5 => ?_))
    have p0 : S 5 j = 0 := e2.symm.trans k
    have t7 : ¬ S 7 j = -1 := fun h9 => k5 (e5.trans h9)
    refine ok_ite (fun kv => ?_) (fun kv => ?_)
    · refine ih (j + 1) (nI j) (by omega) (by omega) (Or.inr ⟨j, by omega, rfl, p0, t7, fun x hx k3 k4 => ?_⟩)
      rcases hv with ⟨_, k2⟩ | ⟨w, w1, w2, _⟩
      · by_cases e : x = j
        · subst e; exact Int32.le_refl _
        · exact absurd (k2 x (by omega) k3) k4
      · exact absurd (w2.symm.trans kv) (nI_nm (by omega))
    · rcases hv with ⟨k1, _⟩ | ⟨w, w1, rfl, w3, w4, w5⟩
      · exact absurd k1 kv
      refine ok_ld rfl hj40 (by decide) (fun y9 e9 => ok_ld rfl (by omega) (by decide) (fun y11 e11 => ok_ite (fun k9 => ?_) (fun k9 => ?_)))
      · refine ih (j + 1) (nI w) (by omega) (by omega) (Or.inr ⟨w, by omega, rfl, w3, w4, fun x hx k3 k4 => ?_⟩)
        by_cases e : x = j
        · subst e
          rw [e9, e11] at k9
          exact k9
        · exact w5 x (by omega) k3 k4
      · refine ih (j + 1) (nI j) (by omega) (by omega) (Or.inr ⟨j, by omega, rfl, p0, t7, fun x hx k3 k4 => ?_⟩)
        by_cases e : x = j
        · subst e; exact Int32.le_refl _
        · rw [e9, e11] at k9
          exact Int32.le_trans (Int32.le_of_lt (nle_lt k9)) (w5 x (by omega) k3 k4)
/-- the box to fetch: both -/
theorem b_wanted (he : EN g cf nm A) (h : Rel M A cf nd nb nr fe co W DL BT CT C S) : ok2 (gX9_firstAskerOfHomeBox g cf nm C) (gX10_wantedBox S) (fun q y => (q = none ∧ y = -1) ∨ ∃ a, a < nr ∧ q = some (A 2 a) ∧ y = nI (W a) ∧ S 15 a = 2 ∧ S 5 (W a) = 0) := by
  obtain ⟨⟨t, bl, ms, hst⟩, hM, h1, h2, h3, h4, h5, h6, h7, h8, h9, h10, h11, h12⟩ := h
  obtain ⟨⟨⟨e1, b1⟩, ⟨e2, b2⟩, ⟨e3, b3⟩, _⟩, hR, hJ⟩ := id hst
  have hin : ∀ a, a ∈ BT → a < nr ∧ S 15 a = 2 := fun a ha => (h8.2.1.2.1 a).mp ha
  have hq : ∀ a, a ∈ BT → C.2 128 (A 2 a) = some (A 1 (W a)) ∧ W a < 40 := fun a ha => by
    obtain ⟨k1, k2⟩ := hin a ha
    have := h7.2.2.1 a (by omega)
    rw [if_pos (Or.inl k2)] at this
    have := (h7.2.2.2.2.1 a (by omega) k2).1
    exact ⟨by assumption, by omega⟩
  obtain ⟨q, eq, hq1⟩ := g_asker (g := g) (cf := cf) (nm := nm) (S := S) (W := W) h8.2.1.1 hq h3.2.2.1 1000 0 (Nat.zero_le _) (by have := h8.2.1.1.2.1; omega) (fun i h hi => absurd hi (Nat.not_lt_zero i))
  obtain ⟨y, ey, hy⟩ := r_wanted (S := S) b2 e2 1000 0 (-1) (Nat.zero_le _) (by omega) (Or.inl ⟨rfl, fun x hx => absurd hx (Nat.not_lt_zero x)⟩)
  refine ⟨q, y, eq, ey, ?_⟩
  -- a box with a ticket is what its reader waits for
  have hbox : ∀ x, x < nb → ¬ S 7 x = -1 → ∃ i, ∃ hi : i < BT.length, W BT[i] = x := fun x hx k => by
    rcases hR.2.2.2.1 x with k2 | ⟨a, ha, k2⟩
    · exact absurd k2 k
    · have s2 := hJ.2.2.1 x a hx ha k2
      have har : a < nr := by
        rcases Nat.lt_or_ge a nr with k3 | k3
        · exact k3
        · have := hJ.1 a k3
          rw [s2] at this
          exact absurd this (by decide)
      obtain ⟨i, hi, e⟩ := List.mem_iff_getElem.mp ((h8.2.1.2.1 a).mpr ⟨har, s2⟩)
      obtain ⟨w1, w2⟩ := h7.2.2.2.2.1 a ha s2
      exact ⟨i, hi, by rw [e]; exact hJ.2.2.2.1 (W a) x a w1 hx ha w2 k2⟩
  rcases hq1 with ⟨rfl, n1⟩ | ⟨k, hk, rfl, k1, k2⟩
  · rcases hy with ⟨rfl, _⟩ | ⟨w, w1, w2, w3, w4, w5⟩
    · exact Or.inl ⟨rfl, rfl⟩
    · obtain ⟨i, hi, e⟩ := hbox w w1 w4
      exact absurd (e ▸ w3) (n1 i hi)
  · obtain ⟨z1, z2⟩ := hin _ (List.getElem_mem hk)
    obtain ⟨v1, v2⟩ := h7.2.2.2.2.1 _ (by omega) z2
    have v3 : ¬ S 7 (W BT[k]) = -1 := fun h => nI_nm (by omega) (v2.symm.trans h)
    rcases hy with ⟨rfl, n1⟩ | ⟨w, w1, rfl, w3, w4, w5⟩
    · exact absurd (n1 _ v1 k1) v3
    · obtain ⟨i, hi, e⟩ := hbox w w1 w4
      have hik : i = k := by
        rcases Nat.lt_trichotomy i k with h | h | h
        · exact absurd (e.symm ▸ w3) (k2 i hi h)
        · exact h
        · have hlt := List.pairwise_iff_getElem.mp h8.2.1.2.2 k i hk hi h
          have hle := w5 _ v1 k1 v3
          rw [← e] at hle
          exact absurd hle (lt_nle hlt)
      subst hik
      exact Or.inr ⟨BT[i], z1, rfl, by rw [e], z2, k1⟩
end WAYS
