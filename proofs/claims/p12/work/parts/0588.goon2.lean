section GOON2
variable {g : Nat → Nat → Option Nat} {cf : Nat → Nat → Nat} {nm : Nat → Int32} {A : Nat → Nat → Nat} {M : MP} {nd nb nr fe co : Nat} {W : Nat → Nat} {DL BT CT : List Nat} {C : CS} {S : RS} {r b q s : Nat}
theorem nar01 {x : Int32} (h : b01 x) : vp_nar .boolean x = x := by
  rcases h with rfl | rfl <;> rfl
theorem b_order (he : EN g cf nm A) (h : Rel M A cf nd nb nr fe co W DL BT CT C S) (hT : SL S) (hr : r < nr) (hb : b < nb) (s8 : S 15 r = 8) {m q1 : Nat} (hq1 : q1 < 16) (eq : S 18 r = nI q) (e2 : S 23 r = nI m) (hm : m < q) (hq : q ≤ 16) {pg ug : Int32} (ep : pg = S 28 (16 * r + q1)) (eu : ug = S 29 (16 * r + q1)) (hu : b01 ug) : ok2 (gX9_orderCopy g cf nm C (A 2 r) (A 1 b) pg ug) (rest S (nI r) (nI q1) (nI b) 2) (SR M A cf nd nb nr fe co S) := by
  obtain ⟨⟨t, bl, ms, hst⟩, hM, h1, h2, h3, h4, h5, h6, h7, h8, h9, h10⟩ := id h
  have b2 := hst.1.2.1.2
  have b3 := hst.1.2.2.1.2
  have hr20 : r < 20 := by omega
  have hb40 : b < 40 := by omega
  have hiff := rfI_e (m := A 2) (hst.2.1.2.2.2.2.1 b) (by decide) hr20 (fun i k hi hk e => inj2 he i k hi hk e)
  rw [← h3.2.2.2.1 b hb] at hiff
  have ei : (16 : Int32) * nI r + nI q1 = nI (16 * r + q1) := ix16 r q1
  unfold gX9_orderCopy rest
  refine r_f (by decide) (r_f (by decide) (r_t rfl (l_bnd (r_ld rfl hb40 (by decide) (fun y ey => b_ite (by rw [ey]; exact hiff) (fun k _ => ?_) (fun k _ => ?_))))))
  · have n6 := hiff.mp k
    have hlen : CT.length < 20 := len_lt (fun a k => i_lt_irr k) h8.2.2.2.2 (r := r) (fun k => by
      have := ((h8.2.2.2.1 r).mp k).2
      rw [s8] at this
      exact absurd this (by decide)) hr20 (fun y hy => by have := ((h8.2.2.2.1 y).mp hy).1; omega)
    refine l_bnd (l_bnd (l_bnd (l_ck hu (l_bnd (l_bnd (l_bi (l_bd' (g_app2 (g := g) (cf := cf) (nm := nm) (ρ := A 2) (r := r) (C := wi (wi (wi (wq (wi C 3 (A 1 b) 5) 128 (A 2 r) (some (A 1 b))) 130 (A 2 r) pg) 131 (A 2 r) ug) 125 (A 2 r) 4) (l := CT) h8.2.2.1 hlen) (fun C1 hC1 => ?_))))))))
    obtain ⟨f2, hf2, rfl⟩ := hC1
    have hO := Rel_order he h hT hr hb s8 n6 (pg := pg) hu hf2
    refine r_sv rfl hb40 (by decide) (r_sv rfl hb40 (by decide) (r_bnd (r_ld ei (by omega) (by decide) (fun y51 e51 => ?_))))
    rw [show y51 = pg from e51.trans ep.symm]
    refine r_sv rfl hb40 (by decide) (r_ld ei (by omega) (by decide) (fun y55 e55 => ?_))
    rw [show y55 = ug from e55.trans eu.symm, nar01 hu]
    exact r_sv rfl hb40 (by decide) (r_sv rfl hr20 (by decide) (b_some ⟨⟨_, _, _, _, hO⟩, rfl, rfl⟩))
  · exact l_bi (r_bi (ok2_mono (b_refuse he h hr20 eq e2 hm hq 5) (fun C' S' h' => ⟨⟨_, _, _, _, h'.1⟩, h'.2⟩)))
theorem b_back (he : EN g cf nm A) (h : Rel M A cf nd nb nr fe co W DL BT CT C S) (hr : r < nr) (hb : b < nb) (s8 : S 15 r = 8) {m : Nat} (eq : S 18 r = nI q) (e2 : S 23 r = nI m) (hm : m < q) (hq : q ≤ 16) (y1 : Int32) {k9 : Int32} (k0 : ¬ k9 = 0) (k1 : ¬ k9 = 1) (k2 : ¬ k9 = 2) : ok2 (gX9_giveBack g cf nm C (A 2 r) (A 1 b)) (rest S (nI r) y1 (nI b) k9) (SR M A cf nd nb nr fe co S) := by
  obtain ⟨⟨t, bl, ms, hst⟩, hM, h1, h2, h3, h4, h5, h6, h7, h8, h9, h10⟩ := id h
  have b2 := hst.1.2.1.2
  have b3 := hst.1.2.2.1.2
  have hr20 : r < 20 := by omega
  have hb40 : b < 40 := by omega
  have hiff := rfI_e (m := A 2) (hst.2.1.2.2.2.2.1 b) (by decide) hr20 (fun i k hi hk e => inj2 he i k hi hk e)
  rw [← h3.2.2.2.1 b hb] at hiff
  unfold gX9_giveBack rest
  refine r_f k0 (r_f k1 (r_f k2 (l_bnd (r_ld rfl hb40 (by decide) (fun y ey => b_ite (by rw [ey]; exact hiff) (fun k _ => ?_) (fun k _ => ?_))))))
  · have hB := Rel_back he h hr hb s8 (hiff.mp k)
    obtain ⟨t', bl', ms', hst'⟩ := hB.1
    refine l_bnd (l_bnd (l_keep (C := wi (wq C 4 (A 1 b) none) 3 (A 1 b) 2) h1.2 (fun v f hv => ok2_r (t_left hb40 (ok2_r' (r_ev hst' (fun v' g1 g2 g3 g4 hv' => b_some ⟨⟨_, _, _, _, Rel_evr (Rel_kp hB f hv) g1 g2 g3 g4 hv'⟩, rfl, rfl⟩)))))))
  · exact l_bi (r_bi (ok2_mono (b_refuse he h hr20 eq e2 hm hq 5) (fun C' S' h' => ⟨⟨_, _, _, _, h'.1⟩, h'.2⟩)))
theorem g_isB {j : Nat} (e : C.1 200 1 = nI nb) (hn : nb ≤ 40) (hj : j < nb) : gX9_isBox g cf nm C (nI j) = some 1 := by
  unfold gX9_isBox
  rw [if_neg (nI_pos (by omega)), e, if_neg (fun h9 => by have := (nI_leI (by omega) (by omega)).mp h9; omega)]
theorem g_isB0 : gX9_isBox g cf nm C (-1) = some 0 := by
  unfold gX9_isBox
  exact if_pos (by decide)
theorem b_goes (he : EN g cf nm A) (hr : r < nr) : ∀ (fu q s : Nat) (C : CS) (S : RS), RQ M A cf nd nb nr fe co C S → S 18 r = nI q → S 17 r = nI s → q ≤ s → s ≤ 16 → s - q + 2 ≤ fu → ok2 (gX9_goOn_10 g cf nm (fun v1_53 S54 => if (S54.1 125 v1_53) = 8 then (bd1 (gX9_depart g cf nm S54 v1_53 5) fun S57 => some S57) else (some S54)) fu (A 2 r) (cf 0 (A 2 r)) (nI q) C) (gX10_goesOn_0 (fun S37 => some S37) fu (nI r) S) (fun C' S' => RQ M A cf nd nb nr fe co C' S') := by
  intro fu
  induction fu with
  | zero => intro q s C S _ _ _ _ _ hf; omega
  | succ fu ih =>
    intro q s C S h eq es hqs hs16 hf
    obtain ⟨W, DL, BT, CT, h⟩ := h
    obtain ⟨⟨t, bl, ms, hst⟩, hM, h1, h2, h3, h4, h5, h6, h7, h8, h9, h10, h11, h12⟩ := id h
    obtain ⟨⟨⟨e1, b1⟩, ⟨e2, b2⟩, ⟨e3, b3⟩, ⟨e7, b7⟩, ⟨e8, b8⟩, e4, e5, hm, hev⟩, hR, hJ⟩ := id hst
    have hr20 : r < 20 := by omega
    have e15 : C.1 125 (A 2 r) = S 15 r := h7.1 r hr20
    have e105 : C.1 105 (cf 0 (A 2 r)) = nI s := (h5.1 r hr20).trans es
    rw [gX9_goOn_10, gX10_goesOn_0]
    refine r_ld rfl hr20 (by decide) (fun y1 ey1 => ?_)
    by_cases s8 : S 15 r = 8
    · refine r_t (ey1.trans s8) (r_ld rfl hr20 (by decide) (fun y4 ey4 => r_ld rfl hr20 (by decide) (fun y6 ey6 => ?_)))
      rw [show y4 = nI q from ey4.trans eq, show y6 = nI s from ey6.trans es, e105]
      by_cases hq : s ≤ q
      · have hle : nI s ≤ nI q := nI_le hq (by omega)
        refine l_t hle (r_t hle (l_t (e15.trans s8) ?_))
        obtain ⟨C', S', eC, hRel, h15, hgo⟩ := r_leave he h hr s8
        refine l_eq eC (ok2_r (hgo _ _ (ok2_r' ?_)))
        obtain ⟨fu', rfl⟩ : ∃ f', fu = f' + 1 := ⟨fu - 1, by omega⟩
        rw [gX10_goesOn_0]
        exact r_ld rfl hr20 (by decide) (fun y ey => r_f (by rw [ey, h15]; decide) (b_some ⟨_, _, _, _, hRel⟩))
      · have hq2 : q < s := by omega
        have hle : ¬ nI s ≤ nI q := nI_ge hq2 (by omega)
        refine l_f hle (r_f hle (l_t (e15.trans s8) (l_bnd ?_)))
        obtain ⟨hN, hSL⟩ := Rel_next he h hr20 eq es hq2 hs16
        rw [nI_1, rs_eq hr20 eq (by omega)]
        obtain ⟨p1, p3, p4, p4b, pr, pn⟩ := h5.2.2.2.1 r s hr20 hs16 es q hq2
        have hrow : ∀ x, (wi C 106 (cf 0 (A 2 r)) (nI (q + 1))).1 (1000 + x) = C.1 (1000 + x) := fun x => by simp only [wi, wq, kp, ln, rls, va_p1, wr_pl, Nat.reduceLT]
        have eq' : wr S 18 r (nI (q + 1)) 18 r = nI (q + 1) := ua_s _ _ _
        have es' : wr S 18 r (nI (q + 1)) 17 r = nI s := es
        obtain ⟨s9, q9, m, m1, m2, m3, g1, g2, g3⟩ := hR.2.1 r
        have hmq : m < q + 1 := by
          have : q9 = q := nI_inj (by omega) (by omega) (g2.symm.trans eq)
          omega
        refine l_bnd (l_ld rfl (by omega) (by decide) (fun y6 e6 => ?_))
        rw [hrow] at e6
        by_cases k1 : S 26 (16 * r + q) = 1
        · obtain ⟨x1, n, n1, n5, x2⟩ := pr k1
          rw [show y6 = -1 from e6.trans x1]
          refine l_eq g_isB0 (l_t rfl (l_bnd (l_ld rfl (by omega) (by decide) (fun y15 e15' => ?_))))
          rw [hrow] at e15'
          rw [show y15 = nI n from e15'.trans (p3.trans x2)]
          have hRd := Rel_read he hN hr s8 n1 n5
          unfold rest
          rw [k1]
          refine l_bnd (l_bnd (r_bd (P := fun S' => S' = wr (wr (wr S 18 r (nI (q + 1))) 15 r 3) 19 r (nI n)) ?_ (fun S' hS' => ?_)))
          · refine ok_f (by decide) (ok_t rfl (ok_sv rfl hr20 (by decide) (ok_ld (ix16 r q) (by omega) (by decide) (fun y38 e38 => ok_sv rfl hr20 (by decide) (ok_some ?_)))))
            rw [show y38 = nI n from e38.trans x2]
          · subst hS'
            exact ih (q + 1) s _ _ ⟨W, DL, BT, CT, hRd⟩ eq' es' (by omega) hs16 (by omega)
        · obtain ⟨b, hb, x1, x2⟩ := pn k1
          have hb40 : b < 40 := by omega
          rw [show y6 = nI b from e6.trans x2, x1]
          refine l_eq (g_isB (h1.1.2.1.trans e2) b2 hb) (l_f (by decide) (l_bnd (l_ld rfl (by omega) (by decide) (fun y20 e20 => ?_))))
          rw [hrow] at e20
          rw [show y20 = nI b from e20.trans x2]
          refine l_ga rfl hb40 (by decide) (he.2.1 b hb40).1 (l_bnd (l_ld rfl (by omega) (by decide) (fun y25 e25 => ?_)))
          rw [hrow] at e25
          rw [show y25 = S 26 (16 * r + q) from e25.trans p1]
          by_cases k0 : S 26 (16 * r + q) = 0
          · rw [k0]
            refine l_t rfl (b_bd (b_ask he hN hSL hr hb s8 eq' g3 hmq (by omega) (nI q)) (fun C' S' h' => ih (q + 1) s C' S' h'.1 (by rw [h'.2.1]; exact eq') (by rw [h'.2.2]; exact es') (by omega) hs16 (by omega)))
          · refine l_f k0 (l_bnd (l_ld rfl (by omega) (by decide) (fun y29 e29 => ?_)))
            rw [hrow] at e29
            rw [show y29 = S 26 (16 * r + q) from e29.trans p1]
            by_cases k2 : S 26 (16 * r + q) = 2
            · rw [k2]
              refine l_t rfl (l_bnd (l_ld rfl (by omega) (by decide) (fun y38 e38 => l_bnd (l_ld rfl (by omega) (by decide) (fun y41 e41 => ?_)))))
              rw [hrow] at e38 e41
              have f41 : y41 = S 29 (16 * r + q) := e41.trans p4
              exact b_bd (b_order he hN hSL hr hb s8 (q1 := q) (by omega) eq' g3 hmq (by omega) (e38.trans p3) f41 (by rw [f41]; exact p4b)) (fun C' S' h' => ih (q + 1) s C' S' h'.1 (by rw [h'.2.1]; exact eq') (by rw [h'.2.2]; exact es') (by omega) hs16 (by omega))
            · exact l_f k2 (b_bd (b_back he hN hr hb s8 eq' g3 hmq (by omega) (nI q) k0 k1 k2) (fun C' S' h' => ih (q + 1) s C' S' h'.1 (by rw [h'.2.1]; exact eq') (by rw [h'.2.2]; exact es') (by omega) hs16 (by omega)))
    · refine r_f (fun k => s8 (ey1.symm.trans k)) ?_
      have hn : ¬ C.1 125 (A 2 r) = 8 := fun k => s8 (e15.symm.trans k)
      rw [e105]
      by_cases hq : s ≤ q
      · exact l_t (nI_le hq (by omega)) (l_f hn (b_some ⟨W, DL, BT, CT, h⟩))
      · exact l_f (nI_ge (by omega) (by omega)) (l_f hn (l_f hn (b_some ⟨W, DL, BT, CT, h⟩)))
theorem b_go84 (he : EN g cf nm A) {K : CS → Option CS} {K' : RS → Option RS} {Q : CS → RS → Prop} (hK : ∀ C S, RQ M A cf nd nb nr fe co C S → ok2 (K C) (K' S) Q) :
    ∀ (fu j : Nat) (C : CS) (S : RS), j ≤ nr → nr - j < fu → RQ M A cf nd nb nr fe co C S → ok2 (gX9_readersGoOn_2 g cf nm K fu (nI j) C) (gX10_oneTurn_84 K' fu (nI j) S) Q := by
  intro fu
  induction fu with
  | zero => intro j C S hj hf; omega
  | succ fu ih =>
    intro j C S hj hf h
    obtain ⟨W, DL, BT, CT, h0, hM, h1, h2, h3, h4, h5, h6, h7, hrest⟩ := id h
    obtain ⟨t, bl, ms, hst⟩ := h0
    obtain ⟨⟨⟨e1, b1⟩, ⟨e2, b2⟩, ⟨e3, b3⟩, ⟨e7, b7⟩, ⟨e8, b8⟩, e4, e5, hm, hev⟩, hR, hJ⟩ := id hst
    have ec : C.1 200 2 = nI nr := h1.1.2.2.1.trans e3
    rw [gX9_readersGoOn_2, gX10_oneTurn_84, nI_1 j]
    refine b_ite (by rw [ec, e3]) (fun _ _ => hK C S h) (fun q _ => ?_)
    have hjr : j < nr := nl ec (by omega) (by omega) q
    have hj20 : j < 20 := by omega
    have hg := (he.2.2.1 j hj20).1
    have e15 : C.1 125 (A 2 j) = S 15 j := h7.1 j hj20
    obtain ⟨s9, q9, m, m1, m2, m3, g1, g2, g3⟩ := hR.2.1 j
    have e106 : C.1 106 (cf 0 (A 2 j)) = nI q9 := (h5.2.1 j hj20).trans g2
    refine l_ga rfl hj20 (by decide) hg ?_
    by_cases s8 : S 15 j = 8
    · refine l_t (e15.trans s8) (l_ga rfl hj20 (by decide) hg ?_)
      unfold gX9_goOn gX10_goesOn
      have hgo := b_goes he hjr 1000 q9 s9 C S h g2 g1 m2 m3 (by omega)
      rw [← e106] at hgo
      exact b_bd hgo (fun C' S' h' => ih (j + 1) C' S' (by omega) (by omega) h')
    · refine l_f (fun k => s8 (e15.symm.trans k)) (r_eq (a := S) ?_ (ih (j + 1) C S (by omega) (by omega) h))
      unfold gX10_goesOn
      rw [gX10_goesOn_0]
      exact (ld_nI (j := j) rfl hj20 (by decide)).trans (if_neg s8)
end GOON2
