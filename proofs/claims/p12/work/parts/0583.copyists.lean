section COPYISTS
variable {g : Nat → Nat → Option Nat} {cf : Nat → Nat → Nat} {nm : Nat → Int32} {A : Nat → Nat → Nat} {M : MP} {nd nb nr fe co : Nat}
theorem R1_made {c s : Nat → Int32} (h : R1 c s) {x y : Int32} (e : x = y) : R1 (upd c 6 x) (upd s 22 y) := ⟨⟨h.1.1, h.1.2.1, h.1.2.2.1, h.1.2.2.2.1, h.1.2.2.2.2.1, h.1.2.2.2.2.2.1, e, h.1.2.2.2.2.2.2.2⟩, h.2⟩
set_option maxHeartbeats 4000000 in
theorem b_copyists (he : EN g cf nm A) {K : CS → Option CS} {K' : RS → Option RS} {Q : CS → RS → Prop} (hK : ∀ C S, RQ M A cf nd nb nr fe co C S → ok2 (K C) (K' S) Q) :
    ∀ (fu j : Nat) (C : CS) (S : RS), j ≤ co → co - j < fu → RQ M A cf nd nb nr fe co C S → ok2 (gX9_copyistsWork_2 g cf nm K fu (nI j) C) (gX10_doCopyists_2 K' fu (nI j) S) Q := by
  intro fu
  induction fu with
  | zero => intro j C S hj hf; omega
  | succ fu ih =>
    intro j C S hj hf h
    obtain ⟨W, DL, BT, CT, h⟩ := h
    obtain ⟨⟨t, bl, ms, hst⟩, hM, h1, h2, h3, h4, h5, h6, h7, h8, h9, h10, h11, h12⟩ := id h
    obtain ⟨⟨e1, b1⟩, ⟨e2, b2⟩, ⟨e3, b3⟩, ⟨e7, b7⟩, ⟨e8, b8⟩, e4, e5, hm, hev⟩ := hst.1
    have ec : C.1 200 10 = nI co := h1.1.2.2.2.2.2.2.2.2.2.2.1.trans e8
    rw [gX9_copyistsWork_2, gX10_doCopyists_2, nI_1 j]
    refine b_ite (by rw [ec, e8]) (fun q _ => hK C S ⟨W, DL, BT, CT, h⟩) (fun q _ => ?_)
    have hjc : j < co := nl ec (by omega) (by omega) q
    have hj3 : j < 3 := by omega
    refine l_ga rfl hj3 (by decide) (he.2.2.2.2 j hj3).1 (l_bnd (r_ld rfl hj3 (by decide) (fun y ey => ?_)))
    have hq := h6.2.1 j hj3
    rcases hst.2.1.2.2.2.2.2.2.2.1 j with e | ⟨b, hb, e⟩
    · rw [e, rfI_n] at hq
      exact l_ocn hq (r_t (ey.trans e) (ih (j + 1) C S (by omega) (by omega) ⟨W, DL, BT, CT, h⟩))
    rw [e, rfI_s _ (by omega)] at hq
    have hne : ¬ S 33 j = -1 := fun q2 => nI_nm (i := b) (by omega) (e.symm.trans q2)
    obtain ⟨hbx, hp⟩ := hst.2.2.2.2.2.2.2.2.1 j b hj3 hb e
    have w2 := (h6.2.2.2 j hj3).1 hne
    obtain rfl := ey.trans e
    refine l_ocs hq (r_f (nI_nm (by omega)) (l_bnd (r_ld rfl hj3 (by decide) (fun y7 ey7 => r_sv rfl hj3 (by decide) (r_ld rfl hj3 (by decide) (fun y11 ey11 => ?_))))))
    subst ey7
    rw [w2]
    generalize hx : S 34 j - 1 = x at ey11 ⊢
    have hR1 := Rel_stepC he h hj3 hne x
    have f11 : y11 = x := ey11.trans (ua_s _ _ _)
    have f162 : (wi C 162 (A 4 j) x).1 162 (A 4 j) = x := ua_s _ _ _
    by_cases hx0 : 0 < x
    · exact l_t (by rw [f162]; exact hx0) (r_f (by rw [f11]; exact lt_nle hx0) (ih (j + 1) _ _ (by omega) (by omega) ⟨W, DL, BT, CT, hR1⟩))
    refine l_f (by rw [f162]; exact hx0) (r_t (by rw [f11]; exact nlt_le hx0) (r_sv rfl hj3 (by decide) (r_bnd (r_ld rfl hb (by decide) (fun y15 ey15 => ?_)))))
    have e' : wr S 34 j x 33 j = nI b := e
    have hkeep : ∃ e, e ≤ 400 ∧ C.1 200 15 = nI e := h1.2
    have hh := h3.2.2.2.1 b hbx
    have f15 : y15 = S 6 b := ey15
    rcases hst.2.1.2.2.2.2.1 b with g2 | ⟨r, hr, g2⟩
    · rw [g2, rfI_n] at hh
      obtain ⟨k0, kM, k1, k2, k3, k4, k5, k6⟩ := Rel_stopC he hR1 hj3 hb e' 2 (Or.inr ⟨rfl, g2⟩)
      refine l_bd (P := fun C' => C' = wi (wi (wi C 162 (A 4 j) x) 200 6 (C.1 200 6 + 1)) 3 (A 1 b) 2) ?_ (fun C' hC' => ?_)
      · unfold gX9_finishCopy
        exact ok_bnd (ok_bnd (c_ocn hh (ok_bnd (ok_some rfl))))
      subst hC'
      refine l_rls (r_t (f15.trans g2) (r_sv rfl hb (by decide) ?_))
      exact ih (j + 1) _ _ (by omega) (by omega) ⟨W, DL, BT, CT, k0, kM, R1_made k1 (by rw [h1.1.2.2.2.2.2.2.1]; rfl), k2, k3, k4, R5_fr k5 (fun x => by simp only [wi, wq, kp, ln, rls, va_p1, wr_pl, Nat.reduceLT]) rfl rfl rfl, k6⟩
    rw [g2, rfI_s _ (by omega)] at hh
    obtain rfl := f15.trans g2
    have hCl : ∀ a, a ∈ CT → a < 20 := fun a ha => by have := ((h8.2.2.2.1 a).mp ha).1; omega
    refine l_bd (P := fun C' => ∃ f2 v f, LF (A 2) (rmv CT r) f2 ∧ (∃ e, e ≤ 400 ∧ v = nI e) ∧ C' = kp (wi (wi (wq (wi (ln (wi (wi C 162 (A 4 j) x) 200 6 (C.1 200 6 + 1)) 207 13 f2 (rmv CT r).length) 3 (A 1 b) 1) 128 (A 2 r) none) 125 (A 2 r) 8) 136 (A 2 r) (C.1 136 (A 2 r) + 1)) v f) ?_ (fun C' hC' => ?_)
    · unfold gX9_finishCopy
      refine ok_bnd (ok_bnd (c_ocs hh (ok_bd1 (g_rem2 (C := wi (wi C 162 (A 4 j) x) 200 6 (C.1 200 6 + 1)) (l := CT) (fun a ha e => inj2 he a r (hCl a ha) hr e) h8.2.2.1) (fun C1 hC1 => ?_))))
      obtain ⟨f2, hf2, rfl⟩ := hC1
      refine ok_bnd (ok_bnd (ok_bnd (ok_bnd (ok_bd1 (g_keep (C := wi (wi (wq (wi (ln (wi (wi C 162 (A 4 j) x) 200 6 (C.1 200 6 + 1)) 207 13 f2 (rmv CT r).length) 3 (A 1 b) 1) 128 (A 2 r) none) 125 (A 2 r) 8) 136 (A 2 r) (C.1 136 (A 2 r) + 1)) hkeep _ _ _ _) (fun C' h' => ok_some ?_)))))
      obtain ⟨v, f, hv, rfl⟩ := h'
      exact ⟨f2, v, f, hf2, hv, rfl⟩
    obtain ⟨f2, v, f, hf2, hv, rfl⟩ := hC'
    have hG := Rel_copied he hR1 hj3 hb hr e' g2 hf2 hv f
    obtain ⟨t', bl', ms', k0'⟩ := hG.1
    refine l_rls (r_f (nI_nm (by omega)) (r_sv rfl hb (by decide) (r_sv rfl hr (by decide) (r_ld rfl hr (by decide) (fun y22 ey22 => ?_)))))
    rw [show y22 = S 22 r from ey22]
    refine r_sv rfl hr (by decide) (r_ev k0' (fun v' f1 f2 f3 f4 hv' => ?_))
    exact ih (j + 1) _ _ (by omega) (by omega) ⟨W, DL, BT, rmv CT r, Rel_evr hG f1 f2 f3 f4 hv'⟩
/-- who reads -/
theorem b_reads (he : EN g cf nm A) {K : CS → Option CS} {K' : RS → Option RS} {Q : CS → RS → Prop} (hK : ∀ C S, RQ M A cf nd nb nr fe co C S → ok2 (K C) (K' S) Q) :
    ∀ (fu j : Nat) (C : CS) (S : RS), j ≤ nr → nr - j < fu → RQ M A cf nd nb nr fe co C S → ok2 (gX9_readersRead_2 g cf nm K fu (nI j) C) (gX10_oneTurn_28 K' fu (nI j) S) Q := by
  intro fu
  induction fu with
  | zero => intro j C S hj hf; omega
  | succ fu ih =>
    intro j C S hj hf h
    obtain ⟨W, DL, BT, CT, h⟩ := h
    obtain ⟨⟨t, bl, ms, hst⟩, hM, h1, h2, h3, h4, h5, h6, h7, h8, h9, h10, h11, h12⟩ := id h
    obtain ⟨⟨e1, b1⟩, ⟨e2, b2⟩, ⟨e3, b3⟩, ⟨e7, b7⟩, ⟨e8, b8⟩, e4, e5, hm, hev⟩ := hst.1
    have ec : C.1 200 2 = nI nr := h1.1.2.2.1.trans e3
    rw [gX9_readersRead_2, gX10_oneTurn_28, nI_1 j]
    refine b_ite (by rw [ec, e3]) (fun q _ => hK C S ⟨W, DL, BT, CT, h⟩) (fun q _ => ?_)
    have hjr : j < nr := nl ec (by omega) (by omega) q
    have hj20 : j < 20 := by omega
    refine l_ga rfl hj20 (by decide) (he.2.2.1 j hj20).1 (r_ld rfl hj20 (by decide) (fun y ey => ?_))
    have es := h7.1 j hj20
    refine b_ite (by rw [es, ey]) (fun q1 q2 => ?_) (fun q1 q2 => ih (j + 1) C S (by omega) (by omega) ⟨W, DL, BT, CT, h⟩)
    have s3 : S 15 j = 3 := es.symm.trans q1
    obtain ⟨w1, n, n1, n5, w2⟩ := (h7.2.1 j hj20).1 s3
    refine l_bnd (r_ld rfl hj20 (by decide) (fun y26 ey26 => r_sv rfl hj20 (by decide) (r_ld rfl hj20 (by decide) (fun y30 ey30 => ?_))))
    subst ey26
    obtain ⟨n', rfl⟩ : ∃ n', n = n' + 1 := ⟨n - 1, by omega⟩
    have hx : S 19 j - 1 = nI n' := by rw [w2, nI_pred]
    have hx2 : C.1 129 (A 2 j) - 1 = nI n' := by rw [w1, hx]
    rw [hx] at ey30 ⊢
    rw [hx2]
    have f30 : y30 = nI n' := ey30.trans (ua_s _ _ _)
    have f129 : (wi C 129 (A 2 j) (nI n')).1 129 (A 2 j) = nI n' := ua_s _ _ _
    cases n' with
    | zero =>
      refine l_f (by rw [f129]; decide) (r_t (by rw [f30]; rfl) (l_bnd (r_sv rfl hj20 (by decide) ?_)))
      have hd : ¬ S 16 j = -1 := hst.2.2.2.1 j (Or.inr (Or.inl s3))
      refine ih (j + 1) _ _ (by omega) (by omega) ⟨W, DL, BT, CT, ⟨t, bl, ms, hst.1, hst.2.1, J_state hst.2.2 hjr (by rw [s3]; decide) (by rw [s3]; decide) (fun _ => hd) (by decide) (by decide)⟩, hM, h1, h2, h3, h4, R5_fr h5 (fun x => by simp only [wi, wq, kp, ln, rls, va_p1, wr_pl, Nat.reduceLT]) rfl rfl rfl, h6, R7_st he h7 hj20 (by decide) (by decide) (by decide) ?_ (fun _ _ _ => rfl) (fun q hq hne => ua_n _ _ (fun k => hne (inj2 he q j hq hj20 k))) (ua_s _ _ _) (fun q hq hne => ua_n _ _ hne) (fun q hq hne k => (h7.2.2.2.2.1 q hq k).2) (fun q hq hne k => (h7.2.2.2.2.2 q hq k).2), ?_, R9_st h9 (by decide) (by decide) h9.1 h9.2.1 h9.2.2.1, h10, R11_up h11 j ⟨8, by omega, rfl⟩, R12_st h12 hj20 (Or.inr (Or.inr (Or.inr rfl))) (by decide)⟩
      · have := h7.2.2.1 j hj20
        rw [s3] at this
        exact this
      · obtain ⟨⟨a1, a2, a3⟩, ⟨c1, c2, c3⟩, ⟨d1, d2, d3⟩⟩ := h8
        exact ⟨⟨a1, mem_same (fun e => absurd (s3.symm.trans e) (by decide)) (by decide) a2, a3⟩, ⟨c1, mem_same (fun e => absurd (s3.symm.trans e) (by decide)) (by decide) c2, c3⟩, ⟨d1, mem_same (fun e => absurd (s3.symm.trans e) (by decide)) (by decide) d2, d3⟩⟩
    | succ n' =>
      refine l_t (by rw [f129]; exact nI_lt (a := 0) (by omega) (by omega)) (r_f (by rw [f30]; exact nI_ne0 (by omega) (by omega)) ?_)
      obtain ⟨a1, a2, a3⟩ := h7
      refine ih (j + 1) _ _ (by omega) (by omega) ⟨W, DL, BT, CT, ⟨t, bl, ms, hst⟩, hM, h1, h2, h3, h4, R5_fr h5 (fun x => by simp only [wi, wq, kp, ln, rls, va_p1, wr_pl, Nat.reduceLT]) rfl rfl rfl, h6, ⟨a1, fun q hq => ?_, a3⟩, h8, h9, h10, h11, h12⟩
      by_cases e : q = j
      · subst e
        refine ⟨fun _ => ⟨(ua_s _ _ _).trans (ua_s _ _ _).symm, n' + 1, by omega, by omega, ua_s _ _ _⟩, fun k => absurd s3 k⟩
      · have k1 : upd (C.1 129) (A 2 j) (nI (n' + 1)) (A 2 q) = C.1 129 (A 2 q) := ua_n _ _ (fun k => e (inj2 he q j hq hj20 k))
        have k2 : upd (S 19) j (nI (n' + 1)) q = S 19 q := ua_n _ _ e
        show (S 15 q = 3 → upd (C.1 129) (A 2 j) (nI (n' + 1)) (A 2 q) = upd (S 19) j (nI (n' + 1)) q ∧ ∃ t, 1 ≤ t ∧ t ≤ 50 ∧ upd (S 19) j (nI (n' + 1)) q = nI t) ∧ (¬ S 15 q = 3 → upd (S 19) j (nI (n' + 1)) q = 0)
        rw [k1, k2]
        exact a2 q hq
end COPYISTS
