/-! a reader goes on -/
/-- the reference's step, its entry read -/
def rest (S8 : RS) (p1 y1 y3 y9 : Int32) : Option RS := if y9 = 0 then (bd1 (gX10_rule S8 p1 y3) fun r12 => if r12 ≤ 0 then (sv S8 7 40 y3 p1 fun S19 => sv S19 8 40 y3 (S19 0 20) fun S21 => bnd (wr S21 0 20 ((S21 0 20) + 1)) fun S22 => sv S22 15 20 p1 2 fun S24 => bd1 (gX10_event S24 p1 3 y3 1) fun S26 => some S26) else (bd1 (gX10_refuses S8 p1 r12) fun S31 => some S31)) else if y9 = 1 then (sv S8 15 20 p1 3 fun S37 => ld S37 28 320 ((16 * p1) + y1) fun y38 => sv S37 19 20 p1 y38 fun S41 => some S41) else if y9 = 2 then (ld S8 6 40 y3 fun y43 => if y43 = p1 then (sv S8 5 40 y3 5 fun S47 => sv S47 9 40 y3 (S47 0 20) fun S49 => bnd (wr S49 0 20 ((S49 0 20) + 1)) fun S50 => ld S50 28 320 ((16 * p1) + y1) fun y51 => sv S50 10 40 y3 y51 fun S54 => ld S54 29 320 ((16 * p1) + y1) fun y55 => sv S54 11 40 y3 (vp_nar .boolean y55) fun S58 => sv S58 15 20 p1 4 fun S60 => some S60) else (bd1 (gX10_refuses S8 p1 5) fun S62 => some S62)) else (ld S8 6 40 y3 fun y66 => if y66 = p1 then (bd1 (gX10_isLeft S8 y3) fun S70 => bd1 (gX10_event S70 p1 7 y3 1) fun S75 => some S75) else (bd1 (gX10_refuses S8 p1 5) fun S80 => some S80))
section GOON
variable {g : Nat → Nat → Option Nat} {cf : Nat → Nat → Nat} {nm : Nat → Int32} {A : Nat → Nat → Nat} {M : MP} {nd nb nr fe co : Nat} {W : Nat → Nat} {DL BT CT : List Nat} {C : CS} {S : RS} {r b q s : Nat}
theorem rs_eq (hr : r < 20) (eq : S 18 r = nI q) (hq : q < 16) : gX10_oneStep S (nI r) = rest (wr S 18 r (nI (q + 1))) (nI r) (nI q) (S 27 (16 * r + q)) (S 26 (16 * r + q)) := by
  unfold gX10_oneStep
  refine (ld_nI (j := r) rfl hr (by decide)).trans ?_
  rw [eq]
  refine (ld_nI (j := 16 * r + q) (ix16 r q) (by omega) (by decide)).trans ?_
  refine (ld_nI (j := r) rfl hr (by decide)).trans ?_
  rw [eq, nI_1]
  refine (sv_nI (j := r) rfl hr (by decide)).trans ?_
  exact ld_nI (j := 16 * r + q) (ix16 r q) (by omega) (by decide)
/-- who leaves: as one sent away -/
theorem r_leave (he : EN g cf nm A) (h : Rel M A cf nd nb nr fe co W DL BT CT C S) (hr : r < nr) (s8 : S 15 r = 8) : ∃ C' S', gX9_depart g cf nm C (A 2 r) 5 = some C' ∧ Rel M A cf nd nb nr fe co W (rmv DL r) (rmv BT r) (rmv CT r) C' S' ∧ S' 15 r = 5 ∧ ∀ (K : Int32 → RS → Option RS) (Q : RS → Prop), ok (K (nI r) S') Q → ok (gX10_goesOn_36 (fun v1_18 S19 => bd1 (gX10_freeDesk S19 v1_18) fun S21 => sv S21 15 20 v1_18 5 fun S26 => bd1 (gX10_event S26 v1_18 8 5 1) fun S28 => K v1_18 S28) 1000 (nI r) 0 S) Q := by
  obtain ⟨C', S', eC, eS, hRel⟩ := b_gone he h hr (Or.inl rfl)
  obtain ⟨⟨t, bl, ms, hst⟩, hM, h1, h2, h3, h4, h5, h6, h7, h8, h9, h10, h11, h12⟩ := h
  obtain ⟨⟨⟨e1, b1⟩, ⟨e2, b2⟩, ⟨e3, b3⟩, ⟨e7, b7⟩, ⟨e8, b8⟩, e4, e5, hm, hev⟩, hR, hJ⟩ := id hst
  have hr20 : r < 20 := by omega
  have hla : lw nb r 0 S = aw nb r 0 S := by
    funext k x
    unfold lw aw
    by_cases c : 0 ≤ x ∧ x < nb
    · rw [if_pos c, if_pos c]
      have t7 : ¬ S 7 x = nI r := fun e => by
        have := hJ.2.2.1 x r c.2 hr20 e
        rw [s8] at this
        exact absurd this (by decide)
      rw [if_neg t7]
      by_cases k7 : k = 7
      · subst k7
        rw [if_pos rfl, if_neg (by decide), if_neg (by decide)]
      rw [if_neg k7]
      by_cases t6 : S 6 x = nI r
      · have hp : ¬ S 5 x = 6 := by
          rcases hJ.2.2.2.2.1 x r c.2 hr20 t6 with k2 | ⟨_, k2⟩
          · rw [k2]; decide
          · rw [s8] at k2; exact absurd k2 (by decide)
        by_cases k6 : k = 6
        · rw [if_pos k6, if_pos k6]
        rw [if_neg k6, if_neg k6]
        by_cases k5 : k = 5
        · rw [if_pos k5, if_pos k5, if_pos t6, if_pos (show S 6 x = nI r ∧ ¬ S 5 x = 6 from ⟨t6, hp⟩)]
        rw [if_neg k5, if_neg k5]
      · by_cases k6 : k = 6
        · rw [if_pos k6, if_pos k6]
        rw [if_neg k6, if_neg k6]
        by_cases k5 : k = 5
        · rw [if_pos k5, if_pos k5, if_neg t6, if_neg (fun k2 : S 6 x = nI r ∧ ¬ S 5 x = 6 => t6 k2.1)]
        rw [if_neg k5, if_neg k5]
    · rw [if_neg c, if_neg c]
  have hA16 : aw nb r 0 S 16 = S 16 := aw_row _ _ _ _ _ (by decide)
  have ho : oi 12 (aw nb r 0 S 16 r) := by rw [hA16]; exact hR.1 r
  have e19 : wr (fd (aw nb r 0 S) r) 19 r 0 = fd (aw nb r 0 S) r := by
    have k1 : fd (aw nb r 0 S) r 19 r = 0 := by
      rw [fd_row _ _ _ (by decide) (by decide), aw_row _ _ _ _ _ (by decide)]
      exact (h7.2.1 r hr20).2 (by rw [s8]; decide)
    have k2 := wr_id (fd (aw nb r 0 S) r) 19 r
    rw [k1] at k2
    exact k2
  have hsa := St_aw hst hr (v := 5) (by decide)
  rw [e19] at hsa
  obtain ⟨y, ey, hy, hy2, hy3⟩ := t_ev hsa (nI r) 8 5 1
  have key : ok (gX10_sentAway S (nI r) 5) (fun z => z = y) := by
    unfold gX10_sentAway
    refine aw_loop (β := Nat) (bx := nb) 1000 0 S e2 b2 (by omega) (by omega) ?_
    refine t_free hr20 ho (ok_sv rfl hr20 (by decide) (ok_sv rfl hr20 (by decide) ?_))
    rw [e19, ey]
    exact ok_some rfl
  obtain ⟨z, ez, rfl⟩ := key
  obtain rfl := Option.some.inj (ez.symm.trans eS)
  refine ⟨C', z, eC, hRel, ?_, fun K Q hq => ?_⟩
  · rw [hy2 15 (by decide) (by decide) (by decide) (by decide) (by decide), wr_s, ua_s]
  · refine lw_loop (bx := nb) 1000 0 S e2 b2 (by omega) (by omega) ?_
    rw [hla]
    refine t_free hr20 ho (ok_sv rfl hr20 (by decide) ?_)
    rw [ey]
    exact hq
/-- what a step leaves -/
def SR (M : MP) (A : Nat → Nat → Nat) (cf : Nat → Nat → Nat) (nd nb nr fe co : Nat) (S : RS) (C' : CS) (S' : RS) : Prop := RQ M A cf nd nb nr fe co C' S' ∧ S' 18 = S 18 ∧ S' 17 = S 17
theorem b_ask (he : EN g cf nm A) (h : Rel M A cf nd nb nr fe co W DL BT CT C S) (hT : SL S) (hr : r < nr) (hb : b < nb) (s8 : S 15 r = 8) {m : Nat} (eq : S 18 r = nI q) (e2 : S 23 r = nI m) (hm : m < q) (hq : q ≤ 16) (y1 : Int32) : ok2 (gX9_askFor g cf nm C (A 2 r) (A 1 b)) (rest S (nI r) y1 (nI b) 0) (SR M A cf nd nb nr fe co S) := by
  obtain ⟨t, bl, ms, hst⟩ := h.1
  have b2 := hst.1.2.1.2
  have b3 := hst.1.2.2.1.2
  have hr20 : r < 20 := by omega
  unfold gX9_askFor rest
  refine r_t rfl (l_keep h.2.2.1.2 (fun v f hv => ?_))
  have hk := Rel_kp h f hv
  obtain ⟨x, y, ex, ey, hxy⟩ := b_rule he hk hr hb s8
  refine l_eq ex (r_eq ey ?_)
  rcases hxy with ⟨rfl, rfl, n6, n7⟩ | ⟨rfl, hy⟩
  · refine l_t rfl (r_t (by decide) (l_bnd (l_bnd (l_bnd ?_))))
    obtain ⟨_, _, _, _, _, _, _, _, _, h8, _⟩ := id hk
    have hlen : BT.length < 20 := len_lt (fun a k => i_lt_irr k) h8.2.1.2.2 (r := r) (fun k => by
      have := ((h8.2.1.2.1 r).mp k).2
      rw [s8] at this
      exact absurd this (by decide)) hr20 (fun y hy => by have := ((h8.2.1.2.1 y).mp hy).1; omega)
    refine l_bi (l_bd' (g_app1 (g := g) (cf := cf) (nm := nm) (ρ := A 2) (r := r) (C := wi (wq (wq (kp C v f) 5 (A 1 b) (some (A 2 r))) 128 (A 2 r) (some (A 1 b))) 125 (A 2 r) 2) (l := BT) h8.2.1.1 hlen) (fun C1 hC1 => ?_))
    obtain ⟨f1, hf1, rfl⟩ := hC1
    have hA := Rel_ask he hk hT hr hb s8 n6 n7 hf1
    obtain ⟨t', bl', ms', hst'⟩ := hA.1
    refine r_sv rfl (by omega) (by decide) (r_sv rfl (by omega) (by decide) (r_bnd (r_sv rfl hr20 (by decide) (r_ev hst' (fun v' g1 g2 g3 g4 hv' => b_some ⟨⟨_, _, _, _, Rel_evr hA g1 g2 g3 g4 hv'⟩, rfl, rfl⟩)))))
  · refine l_f (fun k => ?_) (r_f (fun k => ?_) (l_bi (r_bi (ok2_mono (b_refuse he hk hr20 eq e2 hm hq x) (fun C' S' h' => ⟨⟨_, _, _, _, h'.1⟩, h'.2⟩)))))
    · rcases hy with k2 | k2 | k2 | k2 <;> (rw [k2] at k; exact absurd k (by decide))
    · rcases hy with k2 | k2 | k2 | k2 <;> (rw [k2] at k; exact absurd k (by decide))
end GOON
