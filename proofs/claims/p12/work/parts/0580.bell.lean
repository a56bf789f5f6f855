section BELL
variable {g : Nat → Nat → Option Nat} {cf : Nat → Nat → Nat} {nm : Nat → Int32} {A : Nat → Nat → Nat} {M : MP} {nd nb nr fe co : Nat} {W : Nat → Nat} {DL BT CT : List Nat} {C : CS} {S : RS} {r : Nat} {N : Int32 → Prop}
/-- told mishaps alike, and N of the turn -/
def RMN (N : Int32 → Prop) : MP := fun n c1 c2 c3 m s1 s2 s3 t => RM n c1 c2 c3 m s1 s2 s3 t ∧ N t
theorem b_mishaps (he : EN g cf nm A) (h : RQ (RMN N) A cf nd nb nr fe co C S) : ok2 (gX9_sufferMishaps g cf nm C) (gX10_doMishaps S) (fun C' S' => RQ (RMN N) A cf nd nb nr fe co C' S') := by
  obtain ⟨W, DL, BT, CT, ⟨t, bl, ms, ⟨e1, e2, e3, e7, e8, e4, e5, ⟨m, hm, em, eml⟩, hev⟩, hR, hJ⟩, ⟨⟨hn, hrm⟩, hN⟩, h1, hrest⟩ := id h
  have hrm' : ∀ x, x < m → C.1 201 x = S 39 x ∧ C.1 202 x = S 40 x ∧ C.1 203 x = S 41 x ∧ (S 40 x = 0 ∨ S 40 x = 1 ∨ S 40 x = 2) := fun x hx => hrm x (by rw [em]; exact nI_lt hx (by omega)) (by omega)
  have hc : ∀ x, x < m → ∃ j, C.1 203 x = nI j ∧ ((C.1 202 x = 0 ∧ j < 20) ∨ (C.1 202 x = 1 ∧ j < 4) ∨ (C.1 202 x = 2 ∧ j < 3)) := fun x hx => by
    obtain ⟨q1, q2, q3, q4⟩ := hrm' x hx
    obtain ⟨j, p1, p2, p3, p4⟩ := hJ.2.2.2.2.2.2.2.2.2.2.2 x
    refine ⟨j, q3.trans p1, ?_⟩
    rw [q2]
    rcases q4 with k | k | k
    · exact Or.inl ⟨k, p2⟩
    · exact Or.inr (Or.inl ⟨k, p3 k⟩)
    · exact Or.inr (Or.inr ⟨k, p4 (by rw [k]; decide) (by rw [k]; decide)⟩)
  have hgo := b_mis (K := fun S14 => bd1 (gX4_dropTurn g cf nm S14 (S14.1 200 4)) fun S16 => some S16) (K' := fun v1_26 S27 => bnd (wr S27 0 52 v1_26) fun S28 => some S28) (Q := fun C' S' => RQ (RMN N) A cf nd nb nr fe co C' S') he hm (c1 := C.1 201) (c2 := C.1 202) (c3 := C.1 203) (τ := S 0 4) hc (fun C1 S1 k1 => ?_) 1000 0 C S (Nat.zero_le _) (by omega) (RL_M h (fun _ => ⟨⟨hn.trans em, rfl, rfl, rfl, em, rfl⟩, fun x _ hx => ⟨(hrm' x hx).1.symm, (hrm' x hx).2.1.symm, (hrm' x hx).2.2.1.symm⟩, fun x hx => absurd hx (Nat.not_lt_zero x)⟩))
  · exact hgo
  obtain ⟨W', DL', BT', CT', ⟨t', bl', ms', ⟨f1, f2, f3, f7, f8, f4, f5, fm, fev⟩, fR, fJ⟩, ⟨⟨n1, n2, n3, n4, n5, n6⟩, hs, hk⟩, k1, krest⟩ := k1
  have hl : (KI (C.1 201) (S 0 4) m).length ≤ m := KI_len _ _ _
  have et : C1.1 200 4 = S 0 4 := k1.1.2.2.2.2.1.trans n6
  refine l_bi (ok2_l ?_)
  unfold gX4_dropTurn
  rw [et]
  have hgo2 := g_dt (g := g) (cf := cf) (nm := nm) hm (C0 := C1) (τ := S 0 4) n1 (K := fun v2_17 S18 => bnd (wi S18 200 14 v2_17) fun S19 => some S19) (P := fun C' => ok (bnd (wr S1 0 52 (nI (KI (C.1 201) (S 0 4) m).length)) fun S28 => some S28) (fun S' => RQ (RMN N) A cf nd nb nr fe co C' S')) (fun d1 d2 d3 hkr => ok_bnd (ok_some (ok_bnd (ok_some ?_)))) 1000 0 (C1.1 201) (C1.1 202) (C1.1 203) (Nat.zero_le _) (by omega) (fun x hx => absurd hx (Nat.not_lt_zero x)) (fun x _ => ⟨rfl, rfl, rfl⟩)
  · have e0 : va_up (va_up (va_up C1.1 201 (C1.1 201)) 202 (C1.1 202)) 203 (C1.1 203) = C1.1 := by
      rw [va_id C1.1 201, va_id C1.1 202, va_id C1.1 203]
    rw [e0] at hgo2
    exact hgo2
  rw [n2] at hkr
  refine ⟨W', DL', BT', CT', ⟨t', bl', _, ⟨f1, f2, f3, f7, f8, f4, f5, ⟨_, Nat.le_trans hl hm, rfl, rfl⟩, fev⟩, fR, fJ⟩, ⟨⟨?_, fun i hi hi30 => ?_⟩, ?_⟩, k1, krest.1, krest.2.1, krest.2.2.1, R5_fr krest.2.2.2.1 (fun x => by simp only [wi, wq, kp, ln, rls, va_p1, wr_pl, Nat.reduceLT]) rfl rfl rfl, krest.2.2.2.2⟩
  · show nI (KI (C1.1 201) (S 0 4) m).length = _
    rw [n2]
    rfl
  · have hi2 : i < (KI (C.1 201) (S 0 4) m).length := (nI_ltI (by omega) (by omega)).mp hi
    obtain ⟨a1, a2, a3⟩ := hk i hi2
    obtain ⟨b1, b2, b3⟩ := hkr i hi2
    have hlt := KI_lt hi2
    refine ⟨b1.trans a1.symm, ?_, ?_, ?_⟩
    · refine b2.trans (Eq.trans ?_ a2.symm)
      rw [n3]
    · refine b3.trans (Eq.trans ?_ a3.symm)
      rw [n4]
    · show S1 40 i = 0 ∨ S1 40 i = 1 ∨ S1 40 i = 2
      rw [a2, (hrm' _ hlt).2.1]
      exact (hrm' _ hlt).2.2.2
  · show N (S1 0 4)
    rw [n6]
    exact hN
theorem g_away {s15 : Nat → Int32} (h : VW (A 2) 20 (C.1 125) s15) (hr : r < 20) : gX9_isAway g cf nm C (A 2 r) = some (if s15 r = 5 ∨ s15 r = 6 ∨ s15 r = 7 then 1 else 0) := by
  unfold gX9_isAway
  rw [h r hr]
  by_cases a : s15 r = 5
  · rw [if_pos a, if_pos (Or.inl a)]
  rw [if_neg a]
  by_cases b : s15 r = 6
  · rw [if_pos b, if_pos (Or.inr (Or.inl b))]
  rw [if_neg b]
  by_cases c : s15 r = 7
  · rw [if_pos c, if_pos (Or.inr (Or.inr c))]
  rw [if_neg c, if_neg (fun h9 => h9.elim a (fun h9 => h9.elim b c))]
/-- who came not yet, and is sent home: its state alone changes -/
theorem away_0 (h : Rel M A cf nd nb nr fe co W DL BT CT C S) (hr : r < nr) (e0 : S 15 r = 0) (v : Int32) (hv : ¬ (v = 2 ∨ v = 3 ∨ v = 4 ∨ v = 8)) : gX10_sentAway S (nI r) v = gX10_event (wr S 15 r v) (nI r) 8 v 1 := by
  obtain ⟨⟨t, bl, ms, hst⟩, hM, h1, h2, h3, h4, h5, h6, h7, h8, h9, h10, h11, h12⟩ := h
  obtain ⟨⟨⟨e1, b1⟩, ⟨e2, b2⟩, ⟨e3, b3⟩, ⟨e7, b7⟩, ⟨e8, b8⟩, e4, e5, hm, hev⟩, hR, hJ⟩ := id hst
  have hr20 : r < 20 := by omega
  have haw : aw nb r 0 S = S := by
    funext k b
    unfold aw
    by_cases c : 0 ≤ b ∧ b < nb
    · rw [if_pos c]
      have t7 : ¬ S 7 b = nI r := fun e => by
        have := hJ.2.2.1 b r c.2 hr20 e
        rw [e0] at this
        exact absurd this (by decide)
      have t6 : ¬ S 6 b = nI r := fun e => by
        have := h12.1 b r c.2 hr20 e
        rw [e0] at this
        exact absurd this (by decide)
      rw [if_neg t7, if_neg t6, if_neg (fun h : S 6 b = nI r ∧ ¬ S 5 b = 6 => t6 h.1)]
      by_cases k7 : k = 7
      · rw [if_pos k7, k7]
      rw [if_neg k7]
      by_cases k6 : k = 6
      · rw [if_pos k6, k6]
      rw [if_neg k6]
      by_cases k5 : k = 5
      · rw [if_pos k5, k5]
      rw [if_neg k5]
    · rw [if_neg c]
  have e16 : S 16 r = -1 := h12.2 r hr (Or.inl e0)
  have e19 : S 19 r = 0 := (h7.2.1 r hr20).2 (by rw [e0]; decide)
  have hfd : wr (fd S r) 19 r 0 = S := by
    unfold fd
    rw [if_pos e16]
    have k1 := wr_id S 16 r
    rw [e16] at k1
    rw [k1]
    have k2 := wr_id S 19 r
    rw [e19] at k2
    exact k2
  have hs' : St nd nb nr fe co t bl ms (wr S 15 r v) := ⟨hst.1, hR, J_state hJ hr (by rw [e0]; decide) (by rw [e0]; decide) (fun q => absurd q hv) (fun q => hv (Or.inl q)) (fun q => hv (Or.inr (Or.inr (Or.inl q))))⟩
  obtain ⟨y, ey, _⟩ := t_ev hs' (nI r) 8 v 1
  have key : ok (gX10_sentAway S (nI r) v) (fun z => z = y) := by
    unfold gX10_sentAway
    refine aw_loop (β := Nat) (bx := nb) 1000 0 S e2 b2 (by omega) (by omega) ?_
    rw [haw]
    refine t_free hr20 (hR.1 r) (ok_sv rfl hr20 (by decide) (ok_sv rfl hr20 (by decide) ?_))
    rw [hfd, ey]
    exact ok_some rfl
  obtain ⟨z, ez, rfl⟩ := key
  rw [ez, ey]
theorem b_bell1 (he : EN g cf nm A) {K : CS → Option CS} {K' : RS → Option RS} {Q : CS → RS → Prop} (hK : ∀ C S, RQ M A cf nd nb nr fe co C S → ok2 (K C) (K' S) Q) :
    ∀ (fu j : Nat) (C : CS) (S : RS), j ≤ nr → nr - j < fu → RQ M A cf nd nb nr fe co C S → ok2 (gX9_ringBell_2 g cf nm K fu (nI j) C) (gX10_doBell_14 K' fu (nI j) S) Q := by
  intro fu
  induction fu with
  | zero => intro j C S hj hf; omega
  | succ fu ih =>
    intro j C S hj hf h
    obtain ⟨W, DL, BT, CT, h⟩ := h
    obtain ⟨⟨t, bl, ms, hst⟩, hM, h1, h2, h3, h4, h5, h6, h7, h8, h9, h10, h11, h12⟩ := id h
    obtain ⟨⟨e1, b1⟩, ⟨e2, b2⟩, ⟨e3, b3⟩, ⟨e7, b7⟩, ⟨e8, b8⟩, e4, e5, hm, hev⟩ := hst.1
    have ec : C.1 200 2 = nI nr := h1.1.2.2.1.trans e3
    rw [gX9_ringBell_2, gX10_doBell_14, nI_1 j]
    refine b_ite (by rw [ec, e3]) (fun q _ => hK C S ⟨W, DL, BT, CT, h⟩) (fun q _ => ?_)
    have hjr : j < nr := nl ec (by omega) (by omega) q
    have hj20 : j < 20 := by omega
    have hg := (he.2.2.1 j hj20).1
    obtain ⟨x, y, ex, ey, exy, ex2⟩ := b_here he h hj20
    obtain ⟨k, hk, ek⟩ := h11.1 j hj20
    refine l_ga rfl hj20 (by decide) hg (l_eq (g_away h7.1 hj20) (r_ld rfl hj20 (by decide) (fun s es => ?_)))
    have hgone : ok2 (gX9_depart g cf nm C (A 2 j) 6) (gX10_sentAway S (nI j) 6) (fun C' S' => RQ M A cf nd nb nr fe co C' S') := ok2_mono (b_gone he h hjr (Or.inr (Or.inl rfl))) (fun _ _ h' => ⟨_, _, _, _, h'⟩)
    by_cases s0 : S 15 j = 0
    · rw [if_neg (show ¬ (S 15 j = 5 ∨ S 15 j = 6 ∨ S 15 j = 7) by rw [s0]; decide)]
      refine l_t rfl (r_t (es.trans s0) (r_sv rfl hj20 (by decide) (l_ga rfl hj20 (by decide) hg ?_)))
      rw [← away_0 h hjr s0 6 (by decide)]
      exact b_bd hgone (fun C' S' h' => ih (j + 1) C' S' (by omega) (by omega) h')
    · refine r_f (fun q2 => s0 (es.symm.trans q2)) (r_eq ey ?_)
      by_cases s5 : S 15 j = 5 ∨ S 15 j = 6 ∨ S 15 j = 7
      · rw [if_pos s5]
        refine l_f (by decide) (r_t (exy.mp (ex2.mpr ?_)) (ih (j + 1) C S (by omega) (by omega) ⟨W, DL, BT, CT, h⟩))
        rcases s5 with q5 | q5 | q5 <;> (rw [q5]; decide)
      · rw [if_neg s5]
        have hin : S 15 j = 1 ∨ S 15 j = 2 ∨ S 15 j = 3 ∨ S 15 j = 4 ∨ S 15 j = 8 := by
          have : k = 0 ∨ k = 1 ∨ k = 2 ∨ k = 3 ∨ k = 4 ∨ k = 5 ∨ k = 6 ∨ k = 7 ∨ k = 8 := by omega
          rw [ek] at s0 s5 ⊢
          rcases this with rfl | rfl | rfl | rfl | rfl | rfl | rfl | rfl | rfl
          · exact absurd rfl s0
          · exact Or.inl rfl
          · exact Or.inr (Or.inl rfl)
          · exact Or.inr (Or.inr (Or.inl rfl))
          · exact Or.inr (Or.inr (Or.inr (Or.inl rfl)))
          · exact absurd (Or.inl rfl) s5
          · exact absurd (Or.inr (Or.inl rfl)) s5
          · exact absurd (Or.inr (Or.inr rfl)) s5
          · exact Or.inr (Or.inr (Or.inr (Or.inr rfl)))
        refine l_t rfl (r_f (fun q2 => ex2.mp (exy.mpr q2) hin) (l_ga rfl hj20 (by decide) hg ?_))
        exact b_bd hgone (fun C' S' h' => ih (j + 1) C' S' (by omega) (by omega) h')
theorem b_bell2 (he : EN g cf nm A) {K : CS → Option CS} {K' : RS → Option RS} {Q : CS → RS → Prop} (hK : ∀ C S, RQ M A cf nd nb nr fe co C S → ok2 (K C) (K' S) Q) :
    ∀ (fu j : Nat) (C : CS) (S : RS), j ≤ fe → fe - j < fu → RQ M A cf nd nb nr fe co C S → ok2 (gX9_ringBell_42 g cf nm K fu (nI j) C) (gX10_doBell_75 K' fu (nI j) S) Q := by
  intro fu
  induction fu with
  | zero => intro j C S hj hf; omega
  | succ fu ih =>
    intro j C S hj hf h
    obtain ⟨W, DL, BT, CT, h⟩ := h
    obtain ⟨⟨t, bl, ms, hst⟩, hM, h1, h2, h3, h4, h5, h6, h7, h8, h9, h10, h11, h12⟩ := id h
    obtain ⟨⟨e1, b1⟩, ⟨e2, b2⟩, ⟨e3, b3⟩, ⟨e7, b7⟩, ⟨e8, b8⟩, e4, e5, hm, hev⟩ := hst.1
    have ec : C.1 200 9 = nI fe := h1.1.2.2.2.2.2.2.2.2.2.1.trans e7
    rw [gX9_ringBell_42, gX10_doBell_75, nI_1 j]
    refine b_ite (by rw [ec, e7]) (fun q _ => hK C S ⟨W, DL, BT, CT, h⟩) (fun q _ => ?_)
    have hjf : j < fe := nl ec (by omega) (by omega) q
    have hj4 : j < 4 := by omega
    have hnext := ih (j + 1) C S (by omega) (by omega) ⟨W, DL, BT, CT, h⟩
    refine l_ga rfl hj4 (by decide) (he.2.2.2.1 j hj4).1 (l_bnd (r_ld rfl hj4 (by decide) (fun y ey => ?_)))
    have hq := h6.1 j hj4
    rcases hst.2.1.2.2.2.2.2.1 j with e | ⟨b, hb, e⟩
    · rw [e, rfI_n] at hq
      exact l_ocn hq (r_t (ey.trans e) hnext)
    · rw [e, rfI_s _ (by omega)] at hq
      have hpl := h3.2.2.1 b hb
      refine l_ocs hq (l_bnd (l_sm hq (r_f (fun q2 => nI_nm (i := b) (by omega) (e.symm.trans (ey.symm.trans q2))) (r_ld rfl hj4 (by decide) (fun y2 ey2 => ?_)))))
      rcases h9.2.2.1 j b hj4 hb e with ⟨k1, k2⟩ | ⟨k1, k2⟩
      · refine l_t (hpl.trans k1) (r_f (fun q2 => k2 (ey2.symm.trans q2)) ?_)
        unfold gX9_stopFetcher
        refine l_bd (P := fun C' => C' = rls (wi C 3 (A 1 b) 0) (A 3 j)) (ok_bnd (c_ocs hq (ok_t (hpl.trans k1) (ok_bnd (ok_some rfl))))) (fun C' hC' => ?_)
        subst hC'
        refine r_ld rfl hj4 (by decide) (fun y3 ey3 => ?_)
        rw [ey3, e]
        exact r_sv rfl hb (by decide) (r_sv rfl hj4 (by decide) (ih (j + 1) _ _ (by omega) (by omega) ⟨W, DL, BT, CT, Rel_stopF he h hj4 hb e 0 (Or.inl rfl)⟩))
      · refine l_f (fun q2 => ?_) (r_t (ey2.trans k2) hnext)
        have := (hpl.symm.trans q2).symm.trans k1
        exact absurd this (by decide)
theorem b_ring (he : EN g cf nm A) (h : RQ M A cf nd nb nr fe co C S) (e : S 0 4 = S 0 5) : ok2 (gX9_ringBell g cf nm C) (gX10_doBell S) (fun C' S' => RQ M A cf nd nb nr fe co C' S') := by
  have b3 : nr ≤ 20 := by
    obtain ⟨W, DL, BT, CT, ⟨t, bl, ms, hst⟩, _⟩ := h
    exact hst.1.2.2.1.2
  have b7 : fe ≤ 4 := by
    obtain ⟨W, DL, BT, CT, ⟨t, bl, ms, hst⟩, _⟩ := h
    exact hst.1.2.2.2.1.2
  unfold gX9_ringBell gX10_doBell
  rw [show (0 : Int32) = nI 0 from rfl]
  exact r_t e (b_bell1 he (fun C1 S1 h1 => b_bell2 he (fun C2 S2 h2 => b_some h2) 1000 0 C1 S1 (Nat.zero_le _) (by omega) h1) 1000 0 C S (Nat.zero_le _) (by omega) h)
end BELL
