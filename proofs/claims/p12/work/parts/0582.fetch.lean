section FETCH
variable {g : Nat → Nat → Option Nat} {cf : Nat → Nat → Nat} {nm : Nat → Int32} {A : Nat → Nat → Nat} {M : MP} {nd nb nr fe co : Nat}
set_option maxHeartbeats 4000000 in
theorem b_fetch (he : EN g cf nm A) {K : CS → Option CS} {K' : RS → Option RS} {Q : CS → RS → Prop} (hK : ∀ C S, RQ M A cf nd nb nr fe co C S → ok2 (K C) (K' S) Q) :
    ∀ (fu j : Nat) (C : CS) (S : RS), j ≤ fe → fe - j < fu → RQ M A cf nd nb nr fe co C S → ok2 (gX9_fetchersWalk_2 g cf nm K fu (nI j) C) (gX10_doFetchers_2 K' fu (nI j) S) Q := by
  intro fu
  induction fu with
  | zero => intro j C S hj hf; omega
  | succ fu ih =>
    intro j C S hj hf h
    obtain ⟨W, DL, BT, CT, h⟩ := h
    obtain ⟨⟨t, bl, ms, hst⟩, hM, h1, h2, h3, h4, h5, h6, h7, h8, h9, h10, h11, h12⟩ := id h
    obtain ⟨⟨e1, b1⟩, ⟨e2, b2⟩, ⟨e3, b3⟩, ⟨e7, b7⟩, ⟨e8, b8⟩, e4, e5, hm, hev⟩ := hst.1
    have ec : C.1 200 9 = nI fe := h1.1.2.2.2.2.2.2.2.2.2.1.trans e7
    rw [gX9_fetchersWalk_2, gX10_doFetchers_2, nI_1 j]
    refine b_ite (by rw [ec, e7]) (fun q _ => hK C S ⟨W, DL, BT, CT, h⟩) (fun q _ => ?_)
    have hjf : j < fe := nl ec (by omega) (by omega) q
    have hj4 : j < 4 := by omega
    refine l_ga rfl hj4 (by decide) (he.2.2.2.1 j hj4).1 (l_bnd (r_ld rfl hj4 (by decide) (fun y ey => r_ld rfl hj4 (by decide) (fun y4 ey4 => ?_))))
    have hq := h6.1 j hj4
    rcases hst.2.1.2.2.2.2.2.1 j with e | ⟨b, hb, e⟩
    · rw [e, rfI_n] at hq
      exact l_ocn hq (r_t (ey.trans e) (ih (j + 1) C S (by omega) (by omega) ⟨W, DL, BT, CT, h⟩))
    rw [e, rfI_s _ (by omega)] at hq
    have hne : ¬ S 30 j = -1 := fun q2 => nI_nm (i := b) (by omega) (e.symm.trans q2)
    obtain ⟨hbx, hp⟩ := hst.2.2.2.2.2.2.2.2.2.1 j b hj4 hb e
    obtain ⟨w1, w2⟩ := (h6.2.2.1 j hj4).1 hne
    obtain rfl := ey.trans e
    refine l_ocs hq (r_f (nI_nm (by omega)) (l_bnd (r_ld rfl hj4 (by decide) (fun y7 ey7 => r_sv rfl hj4 (by decide) (r_ld rfl hj4 (by decide) (fun y11 ey11 => ?_))))))
    subst ey7
    rw [w2]
    generalize hx : S 31 j - 1 = x at ey11 ⊢
    have hR1 := Rel_stepF he h hj4 hne x
    have f11 : y11 = x := ey11.trans (ua_s _ _ _)
    have f162 : (wi C 162 (A 3 j) x).1 162 (A 3 j) = x := ua_s _ _ _
    by_cases hx0 : 0 < x
    · exact l_t (by rw [f162]; exact hx0) (r_f (by rw [f11]; exact lt_nle hx0) (ih (j + 1) _ _ (by omega) (by omega) ⟨W, DL, BT, CT, hR1⟩))
    refine l_f (by rw [f162]; exact hx0) (r_t (by rw [f11]; exact nlt_le hx0) (l_bnd (r_sv rfl hj4 (by decide) ?_)))
    have e' : wr S 31 j x 30 j = nI b := e
    have hkeep : ∃ e, e ≤ 400 ∧ C.1 200 15 = nI e := h1.2
    rcases hst.2.1.2.2.2.2.2.2.1 j with g2 | ⟨r, hr, g2⟩
    · rw [g2, rfI_n] at w1
      have hst0 := Rel_stopF he hR1 hj4 hb e' 0 (Or.inl rfl)
      refine l_bd (P := fun C' => ∃ v f, (∃ e, e ≤ 400 ∧ v = nI e) ∧ C' = kp (wi (wi C 162 (A 3 j) x) 3 (A 1 b) 0) v f) ?_ (fun C' hC' => ?_)
      · unfold gX9_bring
        exact c_ocn w1 (ok_bnd (ok_bd1 (g_keep (C := wi (wi C 162 (A 3 j) x) 3 (A 1 b) 0) hkeep _ _ _ _) (fun C' h' => ok_some h')))
      obtain ⟨v, f, hv, rfl⟩ := hC'
      obtain ⟨k0, kM, k1, k2, k3, k4, k5, k6⟩ := hst0
      obtain ⟨t', bl', ms', k0'⟩ := id k0
      refine l_rls (r_t (ey4.trans g2) (r_sv rfl hb (by decide) (r_ev k0' (fun v' f1 f2 f3 f4 hv' => ?_))))
      exact ih (j + 1) _ _ (by omega) (by omega) ⟨W, DL, BT, CT, Rel_evr (C := rls (kp (wi (wi C 162 (A 3 j) x) 3 (A 1 b) 0) v f) (A 3 j)) (S := wr (wr (wr S 31 j x) 30 j (-1)) 5 b 0) ⟨k0, kM, ⟨k1.1, hv⟩, k2, k3, k4, R5_fr k5 (fun x => by simp only [wi, wq, kp, ln, rls, va_p1, wr_pl, Nat.reduceLT]) rfl rfl rfl, k6⟩ f1 f2 f3 f4 hv'⟩
    rw [g2, rfI_s _ (by omega)] at w1
    obtain rfl := ey4.trans g2
    have hiff := rfI_e (m := A 2) (hst.2.1.2.2.2.1 b) (by decide) hr (fun i k hi hk e => inj2 he i k hi hk e)
    rw [← h3.2.2.2.2.1 b hbx] at hiff
    refine r_f (nI_nm (by omega)) (r_ld rfl hb (by decide) (fun y17 ey17 => ?_))
    by_cases et : S 7 b = nI r
    · have hBl : ∀ a, a ∈ BT → a < 20 := fun a ha => by have := ((h8.2.1.2.1 a).mp ha).1; omega
      refine l_bd (P := fun C' => ∃ f1 v f, LF (A 2) (rmv BT r) f1 ∧ (∃ e, e ≤ 400 ∧ v = nI e) ∧ C' = kp (wi (wq (wi (wq (wq (ln (wi C 162 (A 3 j) x) 206 12 f1 (rmv BT r).length) 5 (A 1 b) none) 4 (A 1 b) (some (A 2 r))) 3 (A 1 b) 1) 128 (A 2 r) none) 125 (A 2 r) 8) v f) ?_ (fun C' hC' => ?_)
      · unfold gX9_bring
        refine c_ocs w1 (ok_bnd (ok_t (hiff.mpr et) (ok_bd1 (g_rem1 (C := wi C 162 (A 3 j) x) (l := BT) (fun a ha e => inj2 he a r (hBl a ha) hr e) h8.2.1.1) (fun C1 hC1 => ?_))))
        obtain ⟨f1, hf1, rfl⟩ := hC1
        refine ok_bnd (ok_bnd (ok_bnd (ok_bnd (ok_bnd (ok_bd1 (g_keep (C := wi (wq (wi (wq (wq (ln (wi C 162 (A 3 j) x) 206 12 f1 (rmv BT r).length) 5 (A 1 b) none) 4 (A 1 b) (some (A 2 r))) 3 (A 1 b) 1) 128 (A 2 r) none) 125 (A 2 r) 8) hkeep _ _ _ _) (fun C' h' => ok_some ?_))))))
        obtain ⟨v, f, hv, rfl⟩ := h'
        exact ⟨f1, v, f, hf1, hv, rfl⟩
      obtain ⟨f1, v, f, hf1, hv, rfl⟩ := hC'
      have hG := Rel_given he hR1 hj4 hb hr e' et hf1 hv f
      obtain ⟨t', bl', ms', k0'⟩ := hG.1
      refine l_rls (r_t (ey17.trans et) (r_sv rfl hb (by decide) (r_sv rfl hb (by decide) (r_sv rfl hb (by decide) (r_sv rfl hr (by decide) (r_ev k0' (fun v' f1 f2 f3 f4 hv' => ?_)))))))
      exact ih (j + 1) _ _ (by omega) (by omega) ⟨W, DL, rmv BT r, CT, Rel_evr hG f1 f2 f3 f4 hv'⟩
    · have hst2 := Rel_stopF he hR1 hj4 hb e' 2 (Or.inr rfl)
      refine l_bd (P := fun C' => C' = wi (wi C 162 (A 3 j) x) 3 (A 1 b) 2) ?_ (fun C' hC' => ?_)
      · unfold gX9_bring
        exact c_ocs w1 (ok_bnd (ok_f (fun q2 => et (hiff.mp q2)) (ok_bnd (ok_some rfl))))
      subst hC'
      refine l_rls (r_f (fun q2 => et (ey17.symm.trans q2)) (r_sv rfl hb (by decide) ?_))
      exact ih (j + 1) _ _ (by omega) (by omega) ⟨W, DL, BT, CT, hst2⟩
/-- a copy finished for who still holds the box -/
theorem Rel_copied {W : Nat → Nat} {DL BT CT : List Nat} {C : CS} {S : RS} {c b r : Nat} (he : EN g cf nm A) (h : Rel M A cf nd nb nr fe co W DL BT CT C S) (hc : c < 3) (hb : b < 40) (hr : r < 20) (e : S 33 c = nI b) (et : S 6 b = nI r) {f2 : Nat → Option Nat} (hf2 : LF (A 2) (rmv CT r) f2) {v : Int32} (hv : ∃ e, e ≤ 400 ∧ v = nI e) (fe9 : Nat → Int32) : Rel M A cf nd nb nr fe co W DL BT (rmv CT r) (rls (kp (wi (wi (wq (wi (ln (wi C 200 6 (C.1 200 6 + 1)) 207 13 f2 (rmv CT r).length) 3 (A 1 b) 1) 128 (A 2 r) none) 125 (A 2 r) 8) 136 (A 2 r) (C.1 136 (A 2 r) + 1)) v fe9) (A 4 c)) (wr (wr (wr (wr (wr S 33 c (-1)) 0 22 (S 0 22 + 1)) 5 b 1) 15 r 8) 22 r (S 22 r + 1)) := by
  obtain ⟨⟨t, bl, ms, hst⟩, hM, h1, h2, h3, h4, h5, h6, h7, h8, h9, h10, h11, h12⟩ := h
  have b2 := hst.1.2.1.2
  have b3 := hst.1.2.2.1.2
  have hJ := hst.2.2
  have hR := hst.2.1
  obtain ⟨hbx, hp⟩ := hJ.2.2.2.2.2.2.1 c b hc hb e
  have s4 : S 15 r = 4 := by
    rcases hJ.2.2.2.2.1 b r hbx hr et with k | ⟨_, k⟩
    · rw [hp] at k; exact absurd k (by decide)
    · exact k
  have hw : ∀ q, q < 20 → S 15 q = 4 → W q = b → q = r := fun q hq k k2 => by
    have := (h7.2.2.2.2.2 q hq k).2.1
    rw [k2, et] at this
    exact (nI_inj (by omega) (by omega) this).symm
  refine ⟨⟨t, bl, ms, hst.1, R_cB hR (Or.inl rfl), J_copied hJ hc hb hr e et⟩, hM, ⟨⟨h1.1.1, h1.1.2.1, h1.1.2.2.1, h1.1.2.2.2.1, h1.1.2.2.2.2.1, h1.1.2.2.2.2.2.1, ?_, h1.1.2.2.2.2.2.2.2⟩, hv⟩, h2, R3_pl he h3 hbx b2 1, ?_, R5_fr h5 (fun x => by simp only [wi, wq, kp, ln, rls, va_p1, wr_pl, Nat.reduceLT]) rfl rfl rfl, R6_rC he h6 hc (fun _ _ => rfl), R7_st he h7 hr (by decide) (by decide) (by decide) (va_up_self _ _ _) (fun q hq hne => va_up_ne _ _ (fun k => hne (inj2 he q r hq hr k))) (fun _ _ _ => rfl) ((h7.2.1 r hr).2 (by rw [s4]; decide)) (fun _ _ _ => rfl) (fun q hq hne k => (h7.2.2.2.2.1 q hq k).2) (fun q hq hne k => ?_), ?_, R9_st h9 (by decide) (by decide) h9.1 (fun x hx k => ?_) (fun f' x hf' hx k => ?_), R10_C h10 c, R11_up h11 r ⟨8, by omega, rfl⟩, R12_st h12 hr (Or.inr (Or.inr (Or.inr rfl))) (by decide)⟩
  · show C.1 200 6 + 1 = S 0 22 + 1
    rw [h1.1.2.2.2.2.2.2.1]
  · obtain ⟨a1, a2, a3, a4, a5, a6, a7⟩ := h4
    refine ⟨a1, a2, a3, a4, a5, ?_, a7⟩
    have := VW_up a6 (fun i hi e => inj2 he i r hi hr e) (S 22 r + 1)
    rw [← a6 r hr] at this ⊢
    exact this
  · obtain ⟨w1, w2, w3⟩ := h7.2.2.2.2.2 q hq k
    have hne2 : W q ≠ b := fun k2 => hne (hw q hq k k2)
    have k3 : upd (S 5) b 1 (W q) = S 5 (W q) := ua_n _ _ hne2
    exact ⟨w2, w3.elim (fun w => Or.inl (k3.trans w)) (fun w => Or.inr (k3.trans w))⟩
  · obtain ⟨⟨a1, a2, a3⟩, ⟨c1, c2, c3⟩, ⟨⟨_, d2, _⟩, d4, d5⟩⟩ := h8
    exact ⟨⟨a1, mem_same (fun e => absurd (s4.symm.trans e) (by decide)) (by decide) a2, a3⟩, ⟨c1, mem_same (fun e => absurd (s4.symm.trans e) (by decide)) (by decide) c2, c3⟩, ⟨⟨rfl, Nat.le_trans (rmv_len _ _) d2, hf2⟩, mem_gone (by decide) d4, rmv_pw d5 r⟩⟩
  · by_cases e2 : x = b
    · subst e2
      exact absurd ((ua_s (S 5) x 1).symm.trans k) (by decide)
    · exact h9.2.1 x hx ((ua_n _ _ e2).symm.trans k)
  · have hne : x ≠ b := fun q => by
      subst q
      rcases (hJ.2.2.2.2.2.2.2.1 f' x hf' hx k).2 with k2 | k2 <;> (rw [hp] at k2; exact absurd k2 (by decide))
    have k3 : upd (S 5) b 1 x = S 5 x := ua_n _ _ hne
    rcases h9.2.2.1 f' x hf' hx k with ⟨w1, w2⟩ | ⟨w1, w2⟩
    · exact Or.inl ⟨k3.trans w1, w2⟩
    · exact Or.inr ⟨k3.trans w1, w2⟩
end FETCH
