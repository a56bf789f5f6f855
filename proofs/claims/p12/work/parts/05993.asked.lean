section ASKED
variable {g : Nat → Nat → Option Nat} {cf : Nat → Nat → Nat} {nm : Nat → Int32} {A : Nat → Nat → Nat} {M : MP} {nd nb nr fe co : Nat} {W : Nat → Nat} {DL BT CT : List Nat} {C : CS} {S : RS}
/-- a reader's number from its reference -/
theorem g_num (he : EN g cf nm A) {v : Int32} (hv : oi 20 v) : gX9_numberOf g cf nm C (rfI (A 2) v) = some v := by
  unfold gX9_numberOf
  rcases hv with e | ⟨j, hj, e⟩
  · rw [e, rfI_n]
    rfl
  · rw [e, rfI_s _ (by omega)]
    show some (nm (A 2 j)) = _
    rw [(he.2.2.1 j hj).2.1]
theorem w_place (he : EN g cf nm A) (h : RX M A cf C S) (v : Int32) : ok2 (gX9_place g cf nm C v) (gX10_place S v) (fun x y => x = y.1 ∧ RX M A cf C y.2) := by
  have hd := RX_0 h 0
  unfold gX9_place gX10_place
  refine r_bnd ?_
  generalize wr S 0 0 0 = S1 at hd ⊢
  obtain ⟨nd, nb, nr, fe, co, W, DL, BT, CT, ⟨t, bl, ms, hst⟩, hM, h1, h2, h3, hrest⟩ := id hd
  have b2 := hst.1.2.1.2
  rcases b_isB (g := g) (cf := cf) (nm := nm) (by omega) (h1.1.2.1.trans hst.1.2.1.1) hst.1.2.1.1 v with ⟨b, hb, rfl, g1, r1⟩ | ⟨_, g1, r1⟩
  · exact l_eq g1 (l_f (by decide) (r_eq r1 (r_f (by decide) (l_ga rfl (by omega) (by decide) (he.2.1 b (by omega)).1 (r_ld rfl (by omega) (by decide) (fun y ey => b_some ⟨(h3.2.2.1 b (by omega)).trans ey.symm, hd⟩))))))
  · exact l_eq g1 (l_t rfl (r_eq r1 (r_t rfl (b_some ⟨rfl, hd⟩))))
theorem w_whose (he : EN g cf nm A) (h : RX M A cf C S) (v : Int32) : ok2 (gX9_whose g cf nm C v) (gX10_whose S v) (fun x y => x = y.1 ∧ RX M A cf C y.2) := by
  have hd := RX_0 h 0
  unfold gX9_whose gX10_whose
  refine r_bnd ?_
  generalize wr S 0 0 0 = S1 at hd ⊢
  obtain ⟨nd, nb, nr, fe, co, W, DL, BT, CT, ⟨t, bl, ms, hst⟩, hM, h1, h2, h3, hrest⟩ := id hd
  have b2 := hst.1.2.1.2
  rcases b_isB (g := g) (cf := cf) (nm := nm) (by omega) (h1.1.2.1.trans hst.1.2.1.1) hst.1.2.1.1 v with ⟨b, hb, rfl, g1, r1⟩ | ⟨_, g1, r1⟩
  · refine l_eq g1 (l_f (by decide) (r_eq r1 (r_f (by decide) (l_ga rfl (by omega) (by decide) (he.2.1 b (by omega)).1 (l_bnd (r_ld rfl (by omega) (by decide) (fun y ey => ?_)))))))
    have q4 := h3.2.2.2.1 b hb
    have q5 := h3.2.2.2.2.1 b hb
    rcases hst.2.1.2.2.2.2.1 b with e | ⟨j, hj, e⟩
    · rw [e, rfI_n] at q4
      refine l_ocn q4 (r_t (ey.trans e) (l_ga rfl (by omega) (by decide) (he.2.1 b (by omega)).1 (l_bnd (r_ld rfl (by omega) (by decide) (fun y2 ey2 => ?_)))))
      rw [q5]
      exact l_eq (g_num he (hst.2.1.2.2.2.1 b)) (b_some ⟨ey2.symm, hd⟩)
    · have q6 := q4
      rw [e, rfI_s _ (by omega)] at q6
      refine l_ocs q6 (r_f (fun c => nI_nm (i := j) (by omega) (e.symm.trans (ey.symm.trans c))) (r_ld rfl (by omega) (by decide) (fun y2 ey2 => ?_)))
      rw [← q6, q4]
      exact l_eq (g_num he (hst.2.1.2.2.2.2.1 b)) (b_some ⟨ey2.symm, hd⟩)
  · exact l_eq g1 (l_t rfl (r_eq r1 (r_t rfl (b_some ⟨rfl, hd⟩))))
theorem w_seated (he : EN g cf nm A) (h : RX M A cf C S) (v : Int32) : ok2 (gX9_seated g cf nm C v) (gX10_seated S v) (fun x y => x = y.1 ∧ RX M A cf C y.2) := by
  have hd := RX_0 h 0
  unfold gX9_seated gX10_seated
  refine r_bnd ?_
  generalize wr S 0 0 0 = S1 at hd ⊢
  obtain ⟨nd, nb, nr, fe, co, W, DL, BT, CT, ⟨t, bl, ms, hst⟩, hM, h1, h2, h3, h4, h5, h6, h7, h8, h9, h10, h11, h12⟩ := id hd
  have b1 := hst.1.1.2
  have e1 := hst.1.1.1
  rw [h1.1.1, e1]
  refine l_eq (g_within v 0 (nI nd - 1)) (r_eq (g_in v 0 (nI nd - 1)) (b_ite Iff.rfl (fun _ _ => b_some ⟨rfl, hd⟩) (fun c _ => ?_)))
  obtain ⟨j, hj, rfl⟩ := (in_sub (by omega)).mp c
  refine l_ga rfl (by omega) (by decide) (he.1 j (by omega)).1 (l_bnd (r_ld rfl (by omega) (by decide) (fun y ey => ?_)))
  rw [h2.2.1 j hj]
  exact l_eq (g_num he (h11.2 j)) (b_some ⟨ey.symm, hd⟩)
theorem w_refused (he : EN g cf nm A) (h : RX M A cf C S) (v w : Int32) : ok2 (gX9_refused g cf nm C v w) (gX10_refused S v w) (fun x y => x = y.1 ∧ RX M A cf C y.2) := by
  have hd := RX_0 h 0
  unfold gX9_refused gX10_refused
  refine r_bnd ?_
  generalize wr S 0 0 0 = S1 at hd ⊢
  obtain ⟨nd, nb, nr, fe, co, W, DL, BT, CT, ⟨t, bl, ms, hst⟩, hM, h1, h2, h3, h4, h5, h6, h7, h8, h9, h10, h11, h12⟩ := id hd
  have b3 := hst.1.2.2.1.2
  rcases b_isR (g := g) (cf := cf) (nm := nm) (by omega) (h1.1.2.2.1.trans hst.1.2.2.1.1) hst.1.2.2.1.1 v with ⟨r, hr, rfl, g1, r1⟩ | ⟨_, g1, r1⟩
  · have hr20 : r < 20 := by omega
    obtain ⟨s, q, m, a1, a2, a3, f1, f2, f3⟩ := hst.2.1.2.1 r
    refine l_eq g1 (l_f (by decide) (r_eq r1 (r_f (by decide) (l_ga rfl hr20 (by decide) (he.2.2.1 r hr20).1 (l_bnd (r_ld rfl hr20 (by decide) (fun y ey => ?_)))))))
    rw [show y = nI m from ey.trans f3]
    unfold gX5_refusalRule
    rw [show C.1 107 (cf 0 (A 2 r)) = nI m from (h5.2.2.1 r hr20).trans f3]
    rcases pin (n := m) (by omega) w with ⟨j, hj, rfl, p0, p1, p2⟩ | ⟨_, p1, p2⟩
    · refine r_eq (g_in (nI j) 0 (nI m - 1)) (r_f (by rw [p2]; decide) (r_ld (ix16 r j) (by omega) (by decide) (fun y2 ey2 => ?_)))
      refine l_bd (P := fun x => x = y2) (ok_f p0 (ok_f p1 (ok_bnd (c_ld rfl (by omega) (by decide) (fun z ez => ok_some ?_))))) (fun x hx => ?_)
      · rw [ez, ey2]
        exact h5.2.2.2.2 r m hr20 (by omega) f3 j hj
      · subst hx
        exact b_some ⟨rfl, hd⟩
    · refine r_eq (g_in w 0 (nI m - 1)) (r_t p2 (l_eq (a := -1) ?_ (b_some ⟨rfl, hd⟩)))
      by_cases p0 : w < 0
      · rw [if_pos p0]
      · rw [if_neg p0, if_pos (p1.elim (fun k => absurd k p0) id)]
  · exact l_eq g1 (l_t rfl (r_eq r1 (r_t rfl (b_some ⟨rfl, hd⟩))))
/-- who holds which -/
theorem has_iff {b : Nat} (he : EN g cf nm A) (hst : oi 20 (S 6 b)) {r : Nat} (hr : r < 20) (q4 : C.2 4 (A 1 b) = rfI (A 2) (S 6 b)) : C.2 4 (A 1 b) = some (A 2 r) ↔ S 6 b = nI r := by
  rw [q4]
  exact rfI_e (m := A 2) hst (by decide) hr (fun i k hi hk e => inj2 he i k hi hk e)
theorem b_held19 (he : EN g cf nm A) (h : Rel M A cf nd nb nr fe co W DL BT CT C S) {r : Nat} (hr : r < 20) {Q : Int32 → Int32 × RS → Prop} (hQ : ∀ v, Q v (v, S)) :
    ∀ (fu j : Nat) (v : Int32), j ≤ nb → nb - j < fu → ok2 (gX9_held_19 C g cf nm (some (-1)) fu (nI r) v (nI j)) (gX10_held_24 (fun S14 => some ((-1), S14)) fu (nI r) v (nI j) S) Q := by
  obtain ⟨⟨t, bl, ms, hst⟩, hM, h1, h2, h3, hrest⟩ := id h
  have b2 := hst.1.2.1.2
  have e2 := hst.1.2.1.1
  have c2 : C.1 200 1 = nI nb := h1.1.2.1.trans e2
  intro fu
  induction fu with
  | zero => intro j v hj hf; omega
  | succ fu ih =>
    intro j v hj hf
    rw [gX9_held_19, gX10_held_24, nI_1 j]
    refine b_ite (by rw [c2, e2]) (fun _ _ => b_some (hQ _)) (fun c _ => ?_)
    have hjb : j < nb := nl c2 (by omega) (by omega) c
    refine l_ga rfl (by omega) (by decide) (he.2.1 j (by omega)).1 (l_bnd (l_ga rfl hr (by decide) (he.2.2.1 r hr).1 (r_ld rfl (by omega) (by decide) (fun y ey => ?_))))
    refine b_ite (by rw [ey]; exact has_iff he (hst.2.1.2.2.2.2.1 j) hr (h3.2.2.2.1 j hjb)) (fun _ _ => ?_) (fun _ _ => ih (j + 1) v (by omega) (by omega))
    exact b_ite Iff.rfl (fun _ _ => b_some (hQ _)) (fun _ _ => ih (j + 1) _ (by omega) (by omega))
theorem w_heldq (he : EN g cf nm A) (h : RX M A cf C S) (v w : Int32) : ok2 (gX9_held g cf nm C v w) (gX10_held S v w) (fun x y => x = y.1 ∧ RX M A cf C y.2) := by
  have hd := RX_0 h 0
  unfold gX9_held gX10_held
  refine r_bnd ?_
  generalize wr S 0 0 0 = S1 at hd ⊢
  obtain ⟨nd, nb, nr, fe, co, W, DL, BT, CT, hr⟩ := id hd
  obtain ⟨⟨t, bl, ms, hst⟩, hM, h1, hrest⟩ := id hr
  have b3 := hst.1.2.2.1.2
  have b2 := hst.1.2.1.2
  rcases b_isR (g := g) (cf := cf) (nm := nm) (by omega) (h1.1.2.2.1.trans hst.1.2.2.1.1) hst.1.2.2.1.1 v with ⟨r, hr9, rfl, g1, r1⟩ | ⟨_, g1, r1⟩
  · refine l_eq g1 (l_f (by decide) (r_eq r1 (r_f (by decide) (b_ite Iff.rfl (fun _ _ => ?_) (fun _ _ => b_some ⟨rfl, hd⟩)))))
    have h19 := b_held19 he hr (r := r) (by omega) (Q := fun x y => x = y.1 ∧ RX M A cf C y.2) (fun v => ⟨rfl, hd⟩) 1000 0 w (Nat.zero_le _) (by omega)
    rw [show (0 : Int32) = nI 0 from rfl]
    exact h19
  · exact l_eq g1 (l_t rfl (r_eq r1 (r_t rfl (b_some ⟨rfl, hd⟩))))
theorem w_about (he : EN g cf nm A) (h : RX M A cf C S) (v w : Int32) : ok2 (gX9_about g cf nm C v w) (gX10_about S v w) (fun x y => x = y.1 ∧ RX M A cf C y.2) := by
  have hd := RX_0 h 0
  unfold gX9_about gX10_about
  refine r_bnd ?_
  generalize wr S 0 0 0 = S1 at hd ⊢
  obtain ⟨nd, nb, nr, fe, co, W, DL, BT, CT, ⟨t, bl, ms, hst⟩, hM, h1, h2, h3, h4, h5, h6, h7, h8, h9, h10, h11, h12⟩ := id hd
  have b3 := hst.1.2.2.1.2
  have b2 := hst.1.2.1.2
  have e2 := hst.1.2.1.1
  have c2 : C.1 200 1 = nI nb := h1.1.2.1.trans e2
  rcases b_isR (g := g) (cf := cf) (nm := nm) (by omega) (h1.1.2.2.1.trans hst.1.2.2.1.1) hst.1.2.2.1.1 v with ⟨r, hr, rfl, g1, r1⟩ | ⟨_, g1, r1⟩
  · have hr20 : r < 20 := by omega
    obtain ⟨f1, f2, f3, f4, f5, f6, f7, f8, f9⟩ := h4
    refine l_eq g1 (l_f (by decide) (r_eq r1 (r_f (by decide) (l_ga rfl hr20 (by decide) (he.2.2.1 r hr20).1 ?_))))
    have l20 : ∀ (k : Nat) (z : Int32), z = S1 k r → ok2 (some z) (ld S1 k 20 (nI r) fun y => some (y, S1)) (fun x y => x = y.1 ∧ RX M A cf C y.2) := fun k z hz => r_ld rfl hr20 (by decide) (fun y ey => b_some ⟨hz.trans ey.symm, hd⟩)
    have l60 : ∀ (k x : Nat) (z : Int32), x = k + 5 → k < 3 → z = S1 25 (3 * r + k) → ok2 (some z) (ld S1 25 60 (((3 * nI r) + nI x) - 5) fun y => some (y, S1)) (fun x y => x = y.1 ∧ RX M A cf C y.2) := fun k x z hx hk hz => r_ld (j := 3 * r + k) (by rw [ix3, show (5 : Int32) = nI 5 from rfl, pk_sub (by omega), show 3 * r + x - 5 = 3 * r + k by omega]) (by omega) (by decide) (fun y ey => b_some ⟨hz.trans ey.symm, hd⟩)
    refine b_ite Iff.rfl (fun _ _ => l20 15 _ (h7.1 r hr20)) (fun _ _ => b_ite Iff.rfl (fun _ _ => ?_) (fun _ _ => b_ite Iff.rfl (fun _ _ => l_bnd (l20 18 _ (h5.2.1 r hr20))) (fun _ _ => b_ite Iff.rfl (fun _ _ => ?_) (fun _ _ => b_ite Iff.rfl (fun _ _ => ?_) (fun _ _ => ?_)))))
    · have q127 := h2.2.2.2.1 r hr
      rcases hst.2.1.1 r with e | ⟨d, hd12, e⟩
      · rw [e, rfI_n] at q127
        exact l_bnd (l_ocn q127 (l20 16 _ e.symm))
      · rw [e, rfI_s _ (by omega)] at q127
        exact l_bnd (l_ocs q127 (l_bnd (l_sm q127 (l20 16 _ ((he.1 d hd12).2.trans e.symm)))))
    · have hb := b_held (α := Nat) (β := Nat) (g := g) (cf := cf) (nm := nm) (A := A) (r := r) (C := C) (S := S1) (fun i hi => (he.2.1 i hi).1) b2 c2 e2 (fun x hx => has_iff he (hst.2.1.2.2.2.2.1 x) hr20 (h3.2.2.2.1 x hx)) (K := fun v => some v) (K' := fun v => some v) (Q := fun x y => x = y) (fun v => b_some rfl) 1000 0 0 (Nat.zero_le _) (by omega)
      refine b_bd (P := fun x y => x = y) ?_ (fun x y hxy => b_some ⟨hxy, hd⟩)
      unfold gX9_heldBy gX10_hasMany
      exact hb
    · by_cases s3 : S1 15 r = 3
      · exact l_t ((h7.1 r hr20).trans s3) (l20 19 _ ((h7.2.1 r hr20).1 s3).1)
      · exact l_f (fun c => s3 ((h7.1 r hr20).symm.trans c)) (l20 19 _ ((h7.2.1 r hr20).2 s3).symm)
    · refine b_ite Iff.rfl (fun c _ => ?_) (fun _ _ => b_ite Iff.rfl (fun c _ => ?_) (fun _ _ => b_ite Iff.rfl (fun c _ => ?_) (fun _ _ => ?_)))
      · rw [c]
        exact l60 0 5 _ rfl (by decide) (f7 r hr20)
      · rw [c]
        exact l60 1 6 _ rfl (by decide) (f8 r hr20)
      · rw [c]
        exact l60 2 7 _ rfl (by decide) (f9 r hr20)
      · exact b_ite Iff.rfl (fun _ _ => l20 21 _ (f5 r hr20)) (fun _ _ => b_ite Iff.rfl (fun _ _ => l20 22 _ (f6 r hr20)) (fun _ _ => b_ite Iff.rfl (fun _ _ => l_bnd (l20 23 _ (h5.2.2.1 r hr20))) (fun _ _ => b_some ⟨rfl, hd⟩)))
  · exact l_eq g1 (l_t rfl (r_eq r1 (r_t rfl (b_some ⟨rfl, hd⟩))))
theorem g_box (he : EN g cf nm A) {v : Int32} (hv : oi 40 v) {q : Option Nat} (hq : q = rfI (A 1) v) : ok (bnd q fun q21 => oc q21 (some (-1)) fun b22 => bnd q fun q23 => sm q23 fun b24 => some (nm b24)) (fun x => x = v) := by
  refine ok_bnd ?_
  rcases hv with e | ⟨j, hj, e⟩
  · rw [e, rfI_n] at hq
    exact c_ocn hq (ok_some e.symm)
  · rw [e, rfI_s _ (by omega)] at hq
    exact c_ocs hq (ok_bnd (c_sm hq (ok_some ((he.2.1 j hj).2.trans e.symm))))
theorem w_worker (he : EN g cf nm A) (h : RX M A cf C S) (k w v : Int32) : ok2 (gX9_worker g cf nm C k w v) (gX10_worker S k w v) (fun x y => x = y.1 ∧ RX M A cf C y.2) := by
  have hd := RX_0 h 0
  unfold gX9_worker gX10_worker
  refine r_bnd ?_
  generalize wr S 0 0 0 = S1 at hd ⊢
  obtain ⟨nd, nb, nr, fe, co, W, DL, BT, CT, ⟨t, bl, ms, ⟨⟨e1, b1⟩, ⟨e2, b2⟩, ⟨e3, b3⟩, ⟨e7, b7⟩, ⟨e8, b8⟩, e4, e5, hm, hev⟩, hR, hJ⟩, hM, h1, h2, h3, h4, h5, h6, h7, h8, h9, h10, h11, h12⟩ := id hd
  obtain ⟨i1, i2, i3, i4, i5, i6, i7, i8, i9, i10, i11, i12⟩ := id h1.1
  have per1 : (∃ j, j < fe ∧ w = nI j ∧ gX9_isPerson g cf nm C 1 w = some 1 ∧ sp_in w 0 (S1 0 7 - 1) = 1) ∨ (gX9_isPerson g cf nm C 1 w = some 0 ∧ sp_in w 0 (S1 0 7 - 1) = 0) := by
    rw [e7]
    rcases b_hasW0 (g := g) (cf := cf) (nm := nm) (C := C) (n := fe) b7 (i10.trans e7) w with ⟨j, hj, e, g1, r1⟩ | ⟨_, g1, r1⟩
    · refine Or.inl ⟨j, hj, e, ?_, r1⟩
      unfold gX9_isPerson
      rw [if_neg (by decide), if_pos rfl, g1]
      rfl
    · refine Or.inr ⟨?_, r1⟩
      unfold gX9_isPerson
      rw [if_neg (by decide), if_pos rfl, g1]
      rfl
  have per2 : (∃ j, j < co ∧ w = nI j ∧ gX9_isPerson g cf nm C 2 w = some 1 ∧ sp_in w 0 (S1 0 8 - 1) = 1) ∨ (gX9_isPerson g cf nm C 2 w = some 0 ∧ sp_in w 0 (S1 0 8 - 1) = 0) := by
    rw [e8]
    rcases b_hasW1 (g := g) (cf := cf) (nm := nm) (C := C) (n := co) b8 (i11.trans e8) w with ⟨j, hj, e, g1, r1⟩ | ⟨_, g1, r1⟩
    · refine Or.inl ⟨j, hj, e, ?_, r1⟩
      unfold gX9_isPerson
      rw [if_neg (by decide), if_neg (by decide), if_pos rfl, g1]
      rfl
    · refine Or.inr ⟨?_, r1⟩
      unfold gX9_isPerson
      rw [if_neg (by decide), if_neg (by decide), if_pos rfl, g1]
      rfl
  have per3 : ¬ k = 0 → ¬ k = 1 → ¬ k = 2 → gX9_isPerson g cf nm C k w = some 0 := fun k0 k1 k2 => by
    unfold gX9_isPerson
    rw [if_neg k0, if_neg k1, if_neg k2]
  have hk12 : ¬ k = 1 → ¬ k = 2 → sp_in k 1 2 = 0 := fun v0 v1 => by
    rcases in01 k 1 2 with e | e
    · exact e
    · obtain ⟨j, j1, j2, e9⟩ := in_nI (v := k) (lo := 1) (hi := 2) (a := 1) (b := 2) rfl rfl (by omega) (by rw [e]; decide) (by omega)
      have : j = 1 ∨ j = 2 := by omega
      rcases this with rfl | rfl
      · exact absurd e9 v0
      · exact absurd e9 v1
  have hv2 : ¬ v = 0 → ¬ v = 1 → sp_in v 0 1 = 0 := fun v0 v1 => by
    rcases pin (n := 2) (by omega) v with ⟨j, hj, e, _⟩ | ⟨_, _, e⟩
    · have : j = 0 ∨ j = 1 := by omega
      rcases this with rfl | rfl
      · exact absurd e v0
      · exact absurd e v1
    · exact e
  refine r_eq (g_in v 0 1) ?_
  by_cases v01 : v = 0 ∨ v = 1
  · have hv : ¬ sp_in v 0 1 = 0 := by
      rcases v01 with rfl | rfl <;> decide
    refine r_f hv (r_eq (g_in k 1 2) ?_)
    by_cases k1 : k = 1
    · subst k1
      refine r_f (by decide) (r_t rfl (l_f (by decide) ?_))
      rcases per1 with ⟨j, hj, rfl, g1, r1⟩ | ⟨g1, r1⟩
      · have hj4 : j < 4 := by omega
        refine l_eq g1 (l_f (by decide) (l_t rfl (l_ga rfl hj4 (by decide) (he.2.2.2.1 j hj4).1 (r_eq (g_in (nI j) 0 (S1 0 7 - 1)) (r_f (by rw [r1]; decide) (r_t rfl (r_ld rfl hj4 (by decide) (fun y ey => ?_))))))))
        rcases v01 with rfl | rfl
        · exact l_t rfl (r_t rfl (l_bd' (g_box he (hR.2.2.2.2.2.1 j) (h6.1 j hj4)) (fun a ha => b_some ⟨ha.trans ey.symm, hd⟩)))
        · refine l_f (by decide) (l_t rfl (r_f (by decide) ?_))
          by_cases y1 : S1 30 j = -1
          · exact r_t (ey.trans y1) (b_some ⟨(h6.2.2.1 j hj4).2 y1, hd⟩)
          · exact r_f (fun c => y1 (ey.symm.trans c)) (r_t rfl (r_ld rfl hj4 (by decide) (fun y2 ey2 => b_some ⟨((h6.2.2.1 j hj4).1 y1).2.trans ey2.symm, hd⟩)))
      · exact l_eq g1 (l_t rfl (r_eq (g_in w 0 (S1 0 7 - 1)) (r_t r1 (b_some ⟨rfl, hd⟩))))
    by_cases k2 : k = 2
    · subst k2
      refine r_f (by decide) (r_f (by decide) (l_f (by decide) ?_))
      rcases per2 with ⟨j, hj, rfl, g1, r1⟩ | ⟨g1, r1⟩
      · have hj3 : j < 3 := by omega
        refine l_eq g1 (l_f (by decide) (l_f (by decide) (l_ga rfl hj3 (by decide) (he.2.2.2.2 j hj3).1 (r_eq (g_in (nI j) 0 (S1 0 8 - 1)) (r_f (by rw [r1]; decide) (r_f (by decide) (r_ld rfl hj3 (by decide) (fun y ey => ?_))))))))
        rcases v01 with rfl | rfl
        · exact l_t rfl (r_t rfl (l_bd' (g_box he (hR.2.2.2.2.2.2.2.1 j) (h6.2.1 j hj3)) (fun a ha => b_some ⟨ha.trans ey.symm, hd⟩)))
        · refine l_f (by decide) (l_t rfl (r_f (by decide) ?_))
          by_cases y1 : S1 33 j = -1
          · exact r_t (ey.trans y1) (b_some ⟨(h6.2.2.2 j hj3).2 y1, hd⟩)
          · exact r_f (fun c => y1 (ey.symm.trans c)) (r_f (by decide) (r_ld rfl hj3 (by decide) (fun y2 ey2 => b_some ⟨((h6.2.2.2 j hj3).1 y1).trans ey2.symm, hd⟩)))
      · exact l_eq g1 (l_t rfl (r_eq (g_in w 0 (S1 0 8 - 1)) (r_t r1 (b_some ⟨rfl, hd⟩))))
    refine r_t (hk12 k1 k2) ?_
    by_cases k0 : k = 0
    · exact l_t k0 (b_some ⟨rfl, hd⟩)
    · exact l_f k0 (l_eq (per3 k0 k1 k2) (l_t rfl (b_some ⟨rfl, hd⟩)))
  · have v0 : ¬ v = 0 := fun e => v01 (Or.inl e)
    have v1 : ¬ v = 1 := fun e => v01 (Or.inr e)
    refine r_t (hv2 v0 v1) ?_
    by_cases k0 : k = 0
    · exact l_t k0 (b_some ⟨rfl, hd⟩)
    refine l_f k0 ?_
    by_cases k1 : k = 1
    · subst k1
      rcases per1 with ⟨j, hj, rfl, g1, r1⟩ | ⟨g1, r1⟩
      · have hj4 : j < 4 := by omega
        exact l_eq g1 (l_f (by decide) (l_t rfl (l_ga rfl hj4 (by decide) (he.2.2.2.1 j hj4).1 (l_f v0 (l_f v1 (b_some ⟨rfl, hd⟩))))))
      · exact l_eq g1 (l_t rfl (b_some ⟨rfl, hd⟩))
    by_cases k2 : k = 2
    · subst k2
      rcases per2 with ⟨j, hj, rfl, g1, r1⟩ | ⟨g1, r1⟩
      · have hj3 : j < 3 := by omega
        exact l_eq g1 (l_f (by decide) (l_f (by decide) (l_ga rfl hj3 (by decide) (he.2.2.2.2 j hj3).1 (l_f v0 (l_f v1 (b_some ⟨rfl, hd⟩))))))
      · exact l_eq g1 (l_t rfl (b_some ⟨rfl, hd⟩))
    exact l_eq (per3 k0 k1 k2) (l_t rfl (b_some ⟨rfl, hd⟩))
end ASKED
