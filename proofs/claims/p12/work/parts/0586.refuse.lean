section REFUSE
variable {g : Nat → Nat → Option Nat} {cf : Nat → Nat → Nat} {nm : Nat → Int32} {A : Nat → Nat → Nat} {M : MP} {nd nb nr fe co : Nat} {W : Nat → Nat} {DL BT CT : List Nat} {C : CS} {S : RS} {r b q s : Nat}
/-- a change of plans alone -/
theorem Rel_plan (h : Rel M A cf nd nb nr fe co W DL BT CT C S) {I' : RS} {S' : RS} (e : ∀ k, k < 1000 → k ≠ 105 → k ≠ 107 → I' k = C.1 k) (hrow : ∀ k, k ≠ 17 → k ≠ 23 → k ≠ 24 → k ≠ 26 → k ≠ 27 → k ≠ 28 → k ≠ 29 → S' k = S k) (hS : ∃ t bl ms, St nd nb nr fe co t bl ms S') (h5 : R5 A cf nb I' (S' 17) (S' 18) (S' 23) (S' 24) (S' 26) (S' 27) (S' 28) (S' 29)) : Rel M A cf nd nb nr fe co W DL BT CT (I', C.2) S' := by
  obtain ⟨_, hM, h1, h2, h3, h4, _, h6, h7, h8, h9, h10, h11, h12⟩ := h
  have k : ∀ x, x < 1000 → x ≠ 105 ∧ x ≠ 107 → (I', C.2).1 x = C.1 x := fun x hx hn => e x hx hn.1 hn.2
  have z : ∀ x, (x ≠ 17 ∧ x ≠ 23 ∧ x ≠ 24 ∧ x ≠ 26 ∧ x ≠ 27 ∧ x ≠ 28 ∧ x ≠ 29) → S' x = S x := fun x hn => hrow x hn.1 hn.2.1 hn.2.2.1 hn.2.2.2.1 hn.2.2.2.2.1 hn.2.2.2.2.2.1 hn.2.2.2.2.2.2
  refine ⟨hS, ?_, ?_, ?_, ?_, ?_, h5, ?_, ?_, ?_, ?_, ?_, ?_, ?_⟩
  · rw [k 200 (by decide) (by decide), k 201 (by decide) (by decide), k 202 (by decide) (by decide), k 203 (by decide) (by decide), z 0 (by decide), z 39 (by decide), z 40 (by decide), z 41 (by decide)]
    exact hM
  · rw [k 200 (by decide) (by decide), z 0 (by decide)]
    exact h1
  · rw [k 21 (by decide) (by decide), z 1 (by decide), z 2 (by decide), z 16 (by decide)]
    exact h2
  · rw [k 1 (by decide) (by decide), k 2 (by decide) (by decide), k 3 (by decide) (by decide), z 3 (by decide), z 4 (by decide), z 5 (by decide), z 6 (by decide), z 7 (by decide)]
    exact h3
  · rw [k 122 (by decide) (by decide), k 123 (by decide) (by decide), k 124 (by decide) (by decide), k 126 (by decide) (by decide), k 132 (by decide) (by decide), k 133 (by decide) (by decide), k 134 (by decide) (by decide), k 135 (by decide) (by decide), k 136 (by decide) (by decide), z 12 (by decide), z 13 (by decide), z 14 (by decide), z 20 (by decide), z 21 (by decide), z 22 (by decide), z 25 (by decide)]
    exact h4
  · rw [k 162 (by decide) (by decide), z 30 (by decide), z 31 (by decide), z 32 (by decide), z 33 (by decide), z 34 (by decide)]
    exact h6
  · rw [k 125 (by decide) (by decide), k 129 (by decide) (by decide), k 130 (by decide) (by decide), k 131 (by decide) (by decide), z 5 (by decide), z 6 (by decide), z 7 (by decide), z 10 (by decide), z 11 (by decide), z 15 (by decide), z 19 (by decide)]
    exact h7
  · rw [k 200 (by decide) (by decide), z 8 (by decide), z 9 (by decide), z 12 (by decide), z 13 (by decide), z 15 (by decide)]
    exact h8
  · rw [z 0 (by decide), z 5 (by decide), z 6 (by decide), z 7 (by decide), z 8 (by decide), z 9 (by decide), z 11 (by decide), z 15 (by decide), z 18 (by decide), z 30 (by decide), z 32 (by decide)]
    exact h9
  · rw [z 0 (by decide), z 30 (by decide), z 33 (by decide)]
    exact h10
  · rw [z 15 (by decide), z 2 (by decide)]
    exact h11
  · rw [z 6 (by decide), z 15 (by decide), z 16 (by decide)]
    exact h12
theorem b_refuse (he : EN g cf nm A) (h : Rel M A cf nd nb nr fe co W DL BT CT C S) (hr : r < 20) {m : Nat} (eq : S 18 r = nI q) (e2 : S 23 r = nI m) (hm : m < q) (hq : q ≤ 16) (v : Int32) : ok2 (gX9_refuse g cf nm C (A 2 r) v) (gX10_refuses S (nI r) v) (fun C' S' => Rel M A cf nd nb nr fe co W DL BT CT C' S' ∧ S' 18 = S 18 ∧ S' 17 = S 17) := by
  obtain ⟨⟨t, bl, ms, hst⟩, hM, h1, h2, h3, h4, h5, hrest⟩ := id h
  obtain ⟨p1, p2, p3, p4, p5⟩ := id h5
  have e107 : C.1 107 (cf 0 (A 2 r)) = nI m := (p3 r hr).trans e2
  have ei : (16 : Int32) * nI r + nI m = nI (16 * r + m) := ix16 r m
  unfold gX9_refuse gX10_refuses gX5_noteRefusal
  refine l_bnd (l_bd (P := fun C' => C' = (wr (wr C.1 (1000 + cf 5 (cf 0 (A 2 r))) m v) 107 (cf 0 (A 2 r)) (nI (m + 1)), C.2)) ?_ (fun C' hC' => ?_))
  · refine ok_f (fun c => ?_) (ok_bnd (c_si e107 (by omega) (by decide) (ok_bnd (ok_some ?_))))
    · rw [e107] at c
      have := (nI_leI (a := 16) (by omega) (by omega)).mp c
      omega
    · show (wr (wr C.1 (1000 + cf 5 (cf 0 (A 2 r))) m v) 107 (cf 0 (A 2 r)) (wr C.1 (1000 + cf 5 (cf 0 (A 2 r))) m v 107 (cf 0 (A 2 r)) + 1), C.2) = _
      rw [wr_n _ _ _ _ (show 107 ≠ 1000 + cf 5 (cf 0 (A 2 r)) by omega), e107, nI_1]
  subst hC'
  refine r_ld rfl hr (by decide) (fun y1 ey1 => ?_)
  obtain rfl := ey1.trans e2
  refine r_sv ei (by omega) (by decide) (r_ld rfl hr (by decide) (fun y5 ey5 => ?_))
  rw [show y5 = nI m from ey5.trans e2, nI_1]
  refine r_sv rfl hr (by decide) ?_
  have hst' : St nd nb nr fe co t bl ms (wr (wr S 24 (16 * r + m) v) 23 r (nI (m + 1))) := ⟨hst.1, R_rf hst.2.1 eq e2 hm hq, hst.2.2⟩
  have hne : ∀ k x, x < 20 → 1 ≤ k → k ≤ 5 → (x ≠ r ∨ k ≠ 5) → 1000 + cf k (cf 0 (A 2 x)) ≠ 1000 + cf 5 (cf 0 (A 2 r)) := fun k x hx k1 k5 hd hc => by
    obtain ⟨z1, z2⟩ := inja he x r k 5 hx hr k1 k5 (by omega) (by omega) (by omega)
    rcases hd with hd | hd
    · exact hd z1
    · exact hd z2
  have hrowI : ∀ k x, x < 20 → 1 ≤ k → k ≤ 5 → (x ≠ r ∨ k ≠ 5) → wr (wr C.1 (1000 + cf 5 (cf 0 (A 2 r))) m v) 107 (cf 0 (A 2 r)) (nI (m + 1)) (1000 + cf k (cf 0 (A 2 x))) = C.1 (1000 + cf k (cf 0 (A 2 x))) := fun k x hx k1 k5 hd => by
    rw [wr_n _ _ _ _ (show 1000 + cf k (cf 0 (A 2 x)) ≠ 107 by omega), wr_n _ _ _ _ (hne k x hx k1 k5 hd)]
  have hR := Rel_plan h (I' := wr (wr C.1 (1000 + cf 5 (cf 0 (A 2 r))) m v) 107 (cf 0 (A 2 r)) (nI (m + 1))) (S' := wr (wr S 24 (16 * r + m) v) 23 r (nI (m + 1))) (fun k hk _ h7 => by rw [wr_n _ _ _ _ h7, wr_n _ _ _ _ (show k ≠ 1000 + cf 5 (cf 0 (A 2 r)) by omega)]) (fun k _ k23 k24 _ _ _ _ => by rw [wr_n _ _ _ _ k23, wr_n _ _ _ _ k24]) ⟨t, bl, ms, hst'⟩ (by
      refine ⟨?_, ?_, ?_, fun x n hx hn k i hi => ?_, fun x n hx hn k i hi => ?_⟩
      · rw [wr_n _ _ _ _ (by decide), wr_n _ _ _ _ (show 105 ≠ 1000 + cf 5 (cf 0 (A 2 r)) by omega)]
        exact p1
      · rw [wr_n _ _ _ _ (by decide), wr_n _ _ _ _ (show 106 ≠ 1000 + cf 5 (cf 0 (A 2 r)) by omega)]
        exact p2
      · rw [wr_s, wr_n _ _ _ _ (show 107 ≠ 1000 + cf 5 (cf 0 (A 2 r)) by omega)]
        exact VW_up p3 (fun i hi e => injp he i r hi hr e) (nI (m + 1))
      · rw [hrowI 1 x hx (by omega) (by omega) (Or.inr (by omega)), hrowI 2 x hx (by omega) (by omega) (Or.inr (by omega)), hrowI 3 x hx (by omega) (by omega) (Or.inr (by omega)), hrowI 4 x hx (by omega) (by omega) (Or.inr (by omega))]
        exact p4 x n hx hn k i hi
      · by_cases ex : x = r
        · subst ex
          have hn2 : n = m + 1 := by
            have k2 : nI (m + 1) = nI n := (ua_s (S 23) x (nI (m + 1))).symm.trans k
            exact (nI_inj (by omega) (by omega) k2).symm
          subst hn2
          rw [wr_n _ _ _ _ (show 1000 + cf 5 (cf 0 (A 2 x)) ≠ 107 by omega), wr_s]
          show upd (C.1 (1000 + cf 5 (cf 0 (A 2 x)))) m v i = upd (S 24) (16 * x + m) v (16 * x + i)
          by_cases ei2 : i = m
          · subst ei2
            rw [ua_s, ua_s]
          · rw [ua_n _ _ ei2, ua_n _ _ (by omega)]
            exact p5 x m hx (by omega) e2 i (by omega)
        · rw [hrowI 5 x hx (by omega) (by omega) (Or.inl ex)]
          have k2 : S 23 x = nI n := (ua_n (S 23) (nI (m + 1)) ex).symm.trans k
          show C.1 (1000 + cf 5 (cf 0 (A 2 x))) i = upd (S 24) (16 * r + m) v (16 * x + i)
          rw [ua_n _ _ (by omega)]
          exact p5 x n hx hn k2 i hi)
  refine l_keep (C := (wr (wr C.1 (1000 + cf 5 (cf 0 (A 2 r))) m v) 107 (cf 0 (A 2 r)) (nI (m + 1)), C.2)) hR.2.2.1.2 (fun v1 f hv1 => r_ev hst' (fun v' f1 f2 f3 f4 hv' => b_some ⟨Rel_evr (Rel_kp hR f hv1) f1 f2 f3 f4 hv', rfl, rfl⟩))
/-- a box given back -/
theorem Rel_back (he : EN g cf nm A) (h : Rel M A cf nd nb nr fe co W DL BT CT C S) (hr : r < nr) (hb : b < nb) (s8 : S 15 r = 8) (n6 : S 6 b = nI r) : Rel M A cf nd nb nr fe co W DL BT CT (wi (wq C 4 (A 1 b) none) 3 (A 1 b) 2) (wr (wr S 5 b 2) 6 b (-1)) := by
  obtain ⟨⟨t, bl, ms, hst⟩, hM, h1, h2, h3, h4, h5, h6, h7, h8, h9, h10, h11, h12⟩ := h
  have b2 := hst.1.2.1.2
  have b3 := hst.1.2.2.1.2
  have hJ := hst.2.2
  have hr20 : r < 20 := by omega
  have hp1 : S 5 b = 1 := by
    rcases hJ.2.2.2.2.1 b r hb hr20 n6 with k | ⟨_, k⟩
    · exact k
    · rw [s8] at k
      exact absurd k (by decide)
  obtain ⟨w1, w2, w3, w4, w5, w6⟩ := h7
  obtain ⟨a1, a2, a3, a4⟩ := h9
  refine ⟨⟨t, bl, ms, hst.1, R_hs hst.2.1 (Or.inl rfl), J_left hJ hb hr20 n6 (by rw [hp1]; decide)⟩, hM, h1, h2, R3_hs he (R3_pl he h3 hb b2 2) hb b2 (rfI_n _).symm, h4, R5_fr h5 (fun x => by simp only [wi, wq, kp, ln, rls, va_p1, wr_pl, Nat.reduceLT]) rfl rfl rfl, h6, ⟨w1, w2, w3, w4, w5, fun y hy k => ?_⟩, h8, ⟨fun y hy k => ?_, fun y hy k => ?_, fun f y hf hy k => ?_, a4⟩, h10, h11, R12_no h12 b⟩
  · obtain ⟨u1, u2, u3⟩ := w6 y hy k
    have e : W y ≠ b := fun e => by
      rw [e, n6] at u2
      have k9 := nI_inj (by omega) (by omega) u2
      have k : S 15 y = 4 := k
      rw [← k9, s8] at k
      exact absurd k (by decide)
    have k3 : upd (S 5) b 2 (W y) = S 5 (W y) := ua_n _ _ e
    exact ⟨u1, (ua_n _ _ e).trans u2, u3.elim (fun w => Or.inl (k3.trans w)) (fun w => Or.inr (k3.trans w))⟩
  · by_cases e : y = b
    · subst e
      exact absurd (ua_s (S 6) y (-1)) k
    · exact a1 y hy (fun k2 => k ((ua_n _ _ e).trans k2))
  · by_cases e : y = b
    · subst e
      exact absurd ((ua_s (S 5) y 2).symm.trans k) (by decide)
    · exact fun k2 => a2 y hy ((ua_n _ _ e).symm.trans k) ((ua_n _ _ e).symm.trans k2)
  · have e : y ≠ b := fun e => by
      subst e
      rcases (hJ.2.2.2.2.2.2.2.1 f y hf hy k).2 with k2 | k2 <;> (rw [hp1] at k2; exact absurd k2 (by decide))
    have k3 : upd (S 5) b 2 y = S 5 y := ua_n _ _ e
    rcases a3 f y hf hy k with ⟨z1, z2⟩ | ⟨z1, z2⟩
    · exact Or.inl ⟨k3.trans z1, z2⟩
    · exact Or.inr ⟨k3.trans z1, z2⟩
/-- reading begun -/
theorem Rel_read (he : EN g cf nm A) (h : Rel M A cf nd nb nr fe co W DL BT CT C S) (hr : r < nr) (s8 : S 15 r = 8) {n : Nat} (n1 : 1 ≤ n) (n5 : n ≤ 50) : Rel M A cf nd nb nr fe co W DL BT CT (wi (wi C 129 (A 2 r) (nI n)) 125 (A 2 r) 3) (wr (wr S 15 r 3) 19 r (nI n)) := by
  obtain ⟨⟨t, bl, ms, hst⟩, hM, h1, h2, h3, h4, h5, h6, h7, h8, h9, h10, h11, h12⟩ := h
  have b3 := hst.1.2.2.1.2
  have hr20 : r < 20 := by omega
  have hd := hst.2.2.2.1 r (Or.inr (Or.inr (Or.inr s8)))
  obtain ⟨w1, w2, w3, w4, w5, w6⟩ := h7
  obtain ⟨⟨d1, d2, d3⟩, ⟨c1, c2, c3⟩, ⟨x1, x2, x3⟩⟩ := h8
  refine ⟨⟨t, bl, ms, hst.1, hst.2.1, J_state hst.2.2 hr (by rw [s8]; decide) (by rw [s8]; decide) (fun _ => hd) (by decide) (by decide)⟩, hM, h1, h2, h3, h4, R5_fr h5 (fun x => by simp only [wi, wq, kp, ln, rls, va_p1, wr_pl, Nat.reduceLT]) rfl rfl rfl, h6, ⟨VW_up w1 (fun i hi e => inj2 he i r hi hr20 e) 3, fun y hy => ?_, fun y hy => ?_, fun y hy k => ?_, fun y hy k => ?_, fun y hy k => ?_⟩, ⟨⟨d1, mem_same (fun e => absurd (s8.symm.trans e) (by decide)) (by decide) d2, d3⟩, ⟨c1, mem_same (fun e => absurd (s8.symm.trans e) (by decide)) (by decide) c2, c3⟩, ⟨x1, mem_same (fun e => absurd (s8.symm.trans e) (by decide)) (by decide) x2, x3⟩⟩, R9_st h9 (by decide) (by decide) h9.1 h9.2.1 h9.2.2.1, h10, R11_up h11 r ⟨3, by omega, rfl⟩, R12_st h12 hr20 (Or.inr (Or.inl rfl)) (by decide)⟩
  · by_cases e : y = r
    · subst e
      exact ⟨fun _ => ⟨(ua_s _ _ _).trans (ua_s _ _ _).symm, n, n1, n5, ua_s _ _ _⟩, fun k => absurd (ua_s (S 15) y 3) k⟩
    · have k1 : upd (S 15) r 3 y = S 15 y := ua_n _ _ e
      have k2 : upd (C.1 129) (A 2 r) (nI n) (A 2 y) = C.1 129 (A 2 y) := ua_n _ _ (fun k => e (inj2 he y r hy hr20 k))
      have k3 : upd (S 19) r (nI n) y = S 19 y := ua_n _ _ e
      show (upd (S 15) r 3 y = 3 → upd (C.1 129) (A 2 r) (nI n) (A 2 y) = upd (S 19) r (nI n) y ∧ ∃ t, 1 ≤ t ∧ t ≤ 50 ∧ upd (S 19) r (nI n) y = nI t) ∧ (¬ upd (S 15) r 3 y = 3 → upd (S 19) r (nI n) y = 0)
      rw [k1, k2, k3]
      exact w2 y hy
  · by_cases e : y = r
    · subst e
      have := w3 y hy
      rw [if_neg (by rw [s8]; decide)] at this
      show C.2 128 (A 2 y) = if upd (S 15) y 3 y = 2 ∨ upd (S 15) y 3 y = 4 then _ else none
      rw [ua_s, if_neg (by decide)]
      exact this
    · have k1 : upd (S 15) r 3 y = S 15 y := ua_n _ _ e
      show C.2 128 (A 2 y) = if upd (S 15) r 3 y = 2 ∨ upd (S 15) r 3 y = 4 then _ else none
      rw [k1]
      exact w3 y hy
  · have e : y ≠ r := fun e => by subst e; exact absurd ((ua_s (S 15) y 3).symm.trans k) (by decide)
    exact w4 y hy ((ua_n _ _ e).symm.trans k)
  · have e : y ≠ r := fun e => by subst e; exact absurd ((ua_s (S 15) y 3).symm.trans k) (by decide)
    exact w5 y hy ((ua_n _ _ e).symm.trans k)
  · have e : y ≠ r := fun e => by subst e; exact absurd ((ua_s (S 15) y 3).symm.trans k) (by decide)
    exact w6 y hy ((ua_n _ _ e).symm.trans k)
end REFUSE
