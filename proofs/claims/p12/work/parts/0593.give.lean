section GIVE
variable {g : Nat → Nat → Option Nat} {cf : Nat → Nat → Nat} {nm : Nat → Int32} {A : Nat → Nat → Nat} {M : MP} {nd nb nr fe co : Nat} {W : Nat → Nat} {DL BT CT : List Nat} {C : CS} {S : RS} {r d : Nat}
/-- a desk given -/
theorem Rel_seat (he : EN g cf nm A) (h : Rel M A cf nd nb nr fe co W DL BT CT C S) (hr : r < nr) (hd : d < nd) (s1 : S 15 r = 1) {f0 : Nat → Option Nat} (hf0 : LF (A 2) (rmv DL r) f0) {o o' : Nat → Int32} (ho : VW (A 2) 20 o o') : Rel M A cf nd nb nr fe co W (rmv DL r) BT CT (va_up (wi (wq (wq (ln C 205 11 f0 (rmv DL r).length) 22 (A 0 d) (some (A 2 r))) 127 (A 2 r) (some (A 0 d))) 125 (A 2 r) 8).1 135 o, (wi (wq (wq (ln C 205 11 f0 (rmv DL r).length) 22 (A 0 d) (some (A 2 r))) 127 (A 2 r) (some (A 0 d))) 125 (A 2 r) 8).2) (va_up (wr (wr (wr S 2 d (nI r)) 16 r (nI d)) 15 r 8) 21 o') := by
  obtain ⟨⟨t, bl, ms, hst⟩, hM, h1, h2, h3, h4, h5, h6, h7, h8, h9, h10, h11, h12⟩ := h
  have b1 := hst.1.1.2
  have b3 := hst.1.2.2.1.2
  have hr20 : r < 20 := by omega
  obtain ⟨⟨⟨_, d1, _⟩, d2, d3⟩, ⟨c1, c2, c3⟩, ⟨x1, x2, x3⟩⟩ := h8
  have q128 := h7.2.2.1 r hr20
  rw [if_neg (by rw [s1]; decide)] at q128
  refine ⟨⟨t, bl, ms, hst.1, R_dk hst.2.1 (Or.inr ⟨d, by omega, rfl⟩), J_seat hst.2.2 hr (by rw [s1]; decide) (by rw [s1]; decide) (nI_nm (by omega))⟩, hM, h1, ⟨h2.1, VQ_up h2.2.1 (fun i hi e => inj0 he i d (by omega) (by omega) e) (rfI_s _ (by omega)).symm, fun i hi hi2 => (va_up_ne _ _ (fun k => by have := inj0 he i d hi2 (by omega) k; omega)).trans (h2.2.2.1 i hi hi2), VQ_up h2.2.2.2.1 (fun i hi e => inj2 he i r (by omega) hr20 e) (rfI_s _ (by omega)).symm, fun i hi hi2 => (va_up_ne _ _ (fun k => by have := inj2 he i r hi2 hr20 k; omega)).trans (h2.2.2.2.2 i hi hi2)⟩, h3, ?_, R5_fr h5 (fun x => by simp only [wi, wq, kp, ln, rls, va_p1, wr_pl, Nat.reduceLT]) rfl rfl rfl, h6, R7_st he h7 hr20 (by decide) (by decide) (by decide) q128 (fun _ _ _ => rfl) (fun _ _ _ => rfl) ((h7.2.1 r hr20).2 (by rw [s1]; decide)) (fun _ _ _ => rfl) (fun y hy hne k => (h7.2.2.2.2.1 y hy k).2) (fun y hy hne k => (h7.2.2.2.2.2 y hy k).2), ⟨⟨⟨rfl, Nat.le_trans (rmv_len _ _) d1, hf0⟩, mem_gone (by decide) d2, rmv_pw d3 r⟩, ⟨c1, mem_same (fun e => absurd (s1.symm.trans e) (by decide)) (by decide) c2, c3⟩, ⟨x1, mem_same (fun e => absurd (s1.symm.trans e) (by decide)) (by decide) x2, x3⟩⟩, R9_st h9 (by decide) (by decide) h9.1 h9.2.1 h9.2.2.1, h10, R11_d (R11_up h11 r ⟨8, by omega, rfl⟩) d (Or.inr ⟨r, hr20, rfl⟩), ?_⟩
  · obtain ⟨a1, a2, a3, a4, a5, a6⟩ := h4
    exact ⟨a1, a2, a3, a4, ho, a6⟩
  · have k := R12_st (r := r) (v := 8) h12 hr20 (Or.inr (Or.inr (Or.inr rfl))) (by decide)
    refine ⟨k.1, fun y hy k2 => ?_⟩
    have e : y ≠ r := fun e => by
      subst e
      rcases k2 with k2 | k2 <;> exact absurd ((ua_s (S 15) y 8).symm.trans k2) (by decide)
    exact (ua_n _ _ e).trans (k.2 y hy k2)
theorem g_seat (he : EN g cf nm A) {l : List Nat} {ca : Nat → Int32} (hr : r < 20) (hl : ∀ a, a ∈ l → a < 20) (hnd : l.Pairwise (fun a b => a ≠ b)) (hLN : LN (A 2) C 205 11 l) (hca : VW (A 2) 20 (C.1 126) ca) (hk : ∃ e, e ≤ 400 ∧ C.1 200 15 = nI e) : ok (gX9_seat g cf nm C (A 2 r) (A 0 d)) (fun C' => ∃ f0 o v f, LF (A 2) (rmv l r) f0 ∧ (∀ a, a < 20 → (a ∈ rmv l r ∧ ovt ca r a → o (A 2 a) = C.1 135 (A 2 a) + 1) ∧ (¬ (a ∈ rmv l r ∧ ovt ca r a) → o (A 2 a) = C.1 135 (A 2 a))) ∧ (∃ e, e ≤ 400 ∧ v = nI e) ∧ C' = kp (va_up (wi (wq (wq (ln C 205 11 f0 (rmv l r).length) 22 (A 0 d) (some (A 2 r))) 127 (A 2 r) (some (A 0 d))) 125 (A 2 r) 8).1 135 o, (wi (wq (wq (ln C 205 11 f0 (rmv l r).length) 22 (A 0 d) (some (A 2 r))) 127 (A 2 r) (some (A 0 d))) 125 (A 2 r) 8).2) v f) := by
  unfold gX9_seat
  refine ok_bd1 (g_rem0 (fun a ha e => inj2 he a r (hl a ha) hr e) hLN) (fun C1 hC1 => ?_)
  obtain ⟨f0, hf0, rfl⟩ := hC1
  refine ok_bnd (ok_bnd (ok_bnd ?_))
  obtain ⟨CX, eX⟩ : ∃ z, z = wi (wq (wq (ln C 205 11 f0 (rmv l r).length) 22 (A 0 d) (some (A 2 r))) 127 (A 2 r) (some (A 0 d))) 125 (A 2 r) 8 := ⟨_, rfl⟩
  have x11 : CX.1 200 11 = nI (rmv l r).length := by rw [eX]; rfl
  have x205 : CX.2 205 = f0 := by rw [eX]; rfl
  have x126 : CX.1 126 = C.1 126 := by rw [eX]; rfl
  have x135 : CX.1 135 = C.1 135 := by rw [eX]; rfl
  have x15 : CX.1 200 15 = C.1 200 15 := by rw [eX]; rfl
  have xe : ∀ o : Nat → Int32, (va_up CX.1 135 o, CX.2) = (va_up (wi (wq (wq (ln C 205 11 f0 (rmv l r).length) 22 (A 0 d) (some (A 2 r))) 127 (A 2 r) (some (A 0 d))) 125 (A 2 r) 8).1 135 o, (wi (wq (wq (ln C 205 11 f0 (rmv l r).length) 22 (A 0 d) (some (A 2 r))) 127 (A 2 r) (some (A 0 d))) 125 (A 2 r) 8).2) := fun o => by rw [eX]
  rw [← eX]
  have hlen : (rmv l r).length ≤ 20 := Nat.le_trans (rmv_len _ _) hLN.2.1
  have hLX : LN (A 2) CX 205 11 (rmv l r) := ⟨x11, hlen, fun i hi => by rw [x205]; exact hf0 i hi⟩
  have hcX : VW (A 2) 20 (CX.1 126) ca := by rw [x126]; exact hca
  have hgo := g_over (g := g) (cf := cf) (nm := nm) he hr (l := rmv l r) (fun a ha => hl a (mem_rmv.mp ha).1) (rmv_pw hnd r) (C0 := CX) hLX hcX (d := A 0 d) (K := fun v1_23 v2_24 S25 => bd1 (gX2_keep g cf nm S25 (S25.1 200 4) (nm v1_23) 2 (nm v2_24)) fun S27 => some S27) (P := fun C' => ∃ f0 o v f, LF (A 2) (rmv l r) f0 ∧ (∀ a, a < 20 → (a ∈ rmv l r ∧ ovt ca r a → o (A 2 a) = C.1 135 (A 2 a) + 1) ∧ (¬ (a ∈ rmv l r ∧ ovt ca r a) → o (A 2 a) = C.1 135 (A 2 a))) ∧ (∃ e, e ≤ 400 ∧ v = nI e) ∧ C' = kp (va_up (wi (wq (wq (ln C 205 11 f0 (rmv l r).length) 22 (A 0 d) (some (A 2 r))) 127 (A 2 r) (some (A 0 d))) 125 (A 2 r) 8).1 135 o, (wi (wq (wq (ln C 205 11 f0 (rmv l r).length) 22 (A 0 d) (some (A 2 r))) 127 (A 2 r) (some (A 0 d))) 125 (A 2 r) 8).2) v f) (fun o ho => ?_) 1000 0 (CX.1 135) (Nat.zero_le _) (by omega) (fun a _ => ⟨fun k => absurd k.1 (by simp), fun _ => rfl⟩)
  · have e : (va_up CX.1 135 (CX.1 135), CX.2) = CX := by rw [va_id]
    rw [e] at hgo
    exact hgo
  · refine ok_bd1 (g_keep (C := (va_up CX.1 135 o, CX.2)) ?_ _ _ _ _) (fun C' h' => ok_some ?_)
    · show ∃ e, e ≤ 400 ∧ va_up CX.1 135 o 200 15 = nI e
      rw [va_up_ne _ _ (by decide), x15]
      exact hk
    · obtain ⟨v, f, hv, rfl⟩ := h'
      rw [x135] at ho
      exact ⟨f0, o, v, f, hf0, ho, hv, congrArg (fun z => kp z v f) (xe o)⟩
set_option maxHeartbeats 4000000 in
theorem b_desks (he : EN g cf nm A) {L0 : List Nat} : ∀ (fu i : Nat) (pre : List Nat) (C : CS) (S : RS), Rel M A cf nd nb nr fe co W (pre ++ L0.drop i) BT CT C S → S 0 57 = nI L0.length → L42 L0 (S 42) → i ≤ L0.length → L0.length ≤ nr → nr - i < fu → ok2 (gX9_giveDesks_4 g cf nm (fun S19 => some S19) fu (nI pre.length) (nI i) C) (gX10_doDesks_6 (fun S51 => some S51) fu (nI i) S) (fun C' S' => RQ M A cf nd nb nr fe co C' S') := by
  intro fu
  induction fu with
  | zero => intro i pre C S _ _ _ hi hl hf; omega
  | succ fu ih =>
    intro i pre C S h e57 hL hi hl hf
    obtain ⟨⟨t, bl, ms, hst⟩, hM, h1, h2, h3, h4, h5, h6, h7, h8, h9, h10, h11, h12⟩ := id h
    obtain ⟨⟨e1, b1⟩, ⟨e2, b2⟩, ⟨e3, b3⟩, ⟨e7, b7⟩, ⟨e8, b8⟩, e4, e5, hm, hev⟩ := hst.1
    have ec : C.1 200 2 = nI nr := h1.1.2.2.1.trans e3
    have hlen20 : (pre ++ L0.drop i).length ≤ 20 := h8.1.1.2.1
    have hpl : pre.length ≤ 20 := by rw [List.length_append] at hlen20; omega
    have hat := g_at0 (g := g) (cf := cf) (nm := nm) (C := C) (ρ := A 2) (l := pre ++ L0.drop i) h8.1.1 (i := pre.length) (by omega)
    rw [gX9_giveDesks_4, gX10_doDesks_6, nI_1 i, nI_1 pre.length]
    rcases Nat.lt_or_ge i L0.length with hil | hil
    · have hle : ¬ nI L0.length ≤ nI i := nI_ge hil (by omega)
      have hle2 : ¬ nI nr ≤ nI i := nI_ge (by omega) (by omega)
      have hdrop : L0.drop i = L0[i] :: L0.drop (i + 1) := List.drop_eq_getElem_cons hil
      have hlt : pre.length < (pre ++ L0.drop i).length := by rw [List.length_append, hdrop, List.length_cons]; omega
      have hget : (pre ++ L0.drop i)[pre.length] = L0[i] := by
        rw [List.getElem_append_right (Nat.le_refl _)]
        simp only [List.getElem_drop, Nat.sub_self, Nat.add_zero]
      rw [dif_pos hlt, hget] at hat
      have hin : L0[i] ∈ pre ++ L0.drop i := by
        rw [hdrop]
        exact List.mem_append_right _ List.mem_cons_self
      obtain ⟨hr, s1⟩ := (h8.1.2.1 L0[i]).mp hin
      have hr20 : L0[i] < 20 := by omega
      refine l_f (by rw [ec]; exact hle2) (l_eq hat (r_f (by rw [e57]; exact hle) (r_ld rfl (by omega) (by decide) (fun y7 e7' => ?_))))
      rw [show y7 = nI L0[i] from e7'.trans (hL i hil)]
      refine l_ocs rfl ?_
      obtain ⟨q, y, eq, ey, hqy⟩ := b_desk he h (fun x _ => h11.2 x) hr20
      refine l_eq eq (r_eq ey ?_)
      rcases hqy with ⟨rfl, rfl⟩ | ⟨d, hd, rfl, rfl, f2⟩
      · refine l_ocn rfl (r_t rfl ?_)
        have hgo := ih (i + 1) (pre ++ [L0[i]]) C S (by rw [List.append_assoc]; rw [hdrop] at h; exact h) e57 hL (by omega) hl (by omega)
        rw [List.length_append] at hgo
        exact hgo
      · have hd12 : d < 12 := by omega
        have hnd := h8.1.2.2
        have hmid : rmv (pre ++ L0.drop i) L0[i] = pre ++ L0.drop (i + 1) := by
          rw [hdrop] at hnd ⊢
          obtain ⟨p1, p2, p3⟩ := List.pairwise_append.mp hnd
          obtain ⟨p4, p5⟩ := List.pairwise_cons.mp p2
          exact rmv_mid (fun k => bf_as _ _ (p3 _ k _ List.mem_cons_self) (p3 _ k _ List.mem_cons_self)) (fun k => bf_as _ _ (p4 _ k) (p4 _ k))
        have hDl : ∀ a, a ∈ pre ++ L0.drop i → a < 20 := fun a ha => by have := ((h8.1.2.1 a).mp ha).1; omega
        refine l_ocs rfl (r_f (nI_nm (by omega)) (r_sv rfl hd12 (by decide) (r_sv rfl hr20 (by decide) (r_sv rfl hr20 (by decide) ?_))))
        have hc135 : VW (A 2) 20 (C.1 135) (S 21) := h4.2.2.2.2.1
        have hca : VW (A 2) 20 (C.1 126) (S 20) := h4.2.2.2.1
        have hmg := mem_gone (r := L0[i]) (v := 8) (by decide) h8.1.2.1
        refine l_bd (g_seat (d := d) he hr20 hDl (hnd.imp (fun {a b} hab e => by subst e; exact bf_as a a hab hab)) h8.1.1 hca h1.2) (fun C' hC' => ?_)
        obtain ⟨f0, o, v, f, hf0, ho, hv, rfl⟩ := hC'
        obtain ⟨t3, bl3, ms3, hst3⟩ := (Rel_seat he h hr hd s1 hf0 hc135).1
        refine r_ev hst3 (fun v' g1 g2 g3 g4 hv' => ok2_r ?_)
        have hgo := r_over (S0 := evr (wr (wr (wr S 2 d (nI L0[i])) 16 L0[i] (nI d)) 15 L0[i] 8) v' g1 g2 g3 g4) e3 b3 hr20 (v := nI i) (K := fun v1_49 S50 => gX10_doDesks_6 (fun S51 => some S51) fu (v1_49 + 1) S50) (P := fun b => ok (gX9_giveDesks_4 g cf nm (fun S19 => some S19) fu (nI pre.length) (nI (i + 1)) (kp (va_up (wi (wq (wq (ln C 205 11 f0 (rmv (pre ++ L0.drop i) L0[i]).length) 22 (A 0 d) (some (A 2 L0[i]))) 127 (A 2 L0[i]) (some (A 0 d))) 125 (A 2 L0[i]) 8).1 135 o, (wi (wq (wq (ln C 205 11 f0 (rmv (pre ++ L0.drop i) L0[i]).length) 22 (A 0 d) (some (A 2 L0[i]))) 127 (A 2 L0[i]) (some (A 0 d))) 125 (A 2 L0[i]) 8).2) v f)) (fun a => RQ M A cf nd nb nr fe co a b)) (fun o' ho' => ok2_r' ?_) 1000 0 (S 21) (Nat.zero_le _) (by omega) (fun a => ⟨fun k => absurd k.1 (Nat.not_lt_zero a), fun _ => rfl⟩)
        · have e : va_up (evr (wr (wr (wr S 2 d (nI L0[i])) 16 L0[i] (nI d)) 15 L0[i] 8) v' g1 g2 g3 g4) 21 (S 21) = evr (wr (wr (wr S 2 d (nI L0[i])) 16 L0[i] (nI d)) 15 L0[i] 8) v' g1 g2 g3 g4 := va_id _ 21
          rw [e] at hgo
          exact hgo
        · have hoo : VW (A 2) 20 o o' := fun a ha => by
            have hiff : (a ∈ rmv (pre ++ L0.drop i) L0[i] ∧ ovt (S 20) L0[i] a) ↔ (a < nr ∧ upd (S 15) L0[i] 8 a = 1 ∧ ovt (S 20) L0[i] a) := by
              rw [hmg a, and_assoc]
            by_cases k : a ∈ rmv (pre ++ L0.drop i) L0[i] ∧ ovt (S 20) L0[i] a
            · rw [(ho a ha).1 k, (ho' a).1 (hiff.mp k), hc135 a ha]
              rfl
            · rw [(ho a ha).2 k, (ho' a).2 (fun k2 => k (hiff.mpr k2)), hc135 a ha]
              rfl
          have hR := Rel_evr (Rel_kp (Rel_seat he h hr hd s1 hf0 hoo) f hv) g1 g2 g3 g4 hv'
          rw [hmid] at hR
          rw [nI_1]
          have hn := ih (i + 1) pre (kp (va_up (wi (wq (wq (ln C 205 11 f0 (pre ++ L0.drop (i + 1)).length) 22 (A 0 d) (some (A 2 L0[i]))) 127 (A 2 L0[i]) (some (A 0 d))) 125 (A 2 L0[i]) 8).1 135 o, (wi (wq (wq (ln C 205 11 f0 (pre ++ L0.drop (i + 1)).length) 22 (A 0 d) (some (A 2 L0[i]))) 127 (A 2 L0[i]) (some (A 0 d))) 125 (A 2 L0[i]) 8).2) v f) (va_up (evr (wr (wr (wr S 2 d (nI L0[i])) 16 L0[i] (nI d)) 15 L0[i] 8) v' g1 g2 g3 g4) 21 o') hR e57 hL (by omega) hl (by omega)
          rw [← hmid] at hn
          exact hn
    · have hie : i = L0.length := by omega
      have hdrop : L0.drop i = [] := List.drop_eq_nil_of_le hil
      rw [dif_neg (by rw [hdrop, List.append_nil]; omega)] at hat
      refine r_t (by rw [e57]; exact nI_le hil (by omega)) ?_
      by_cases hn : nI nr ≤ nI i
      · exact l_t (by rw [ec]; exact hn) (b_some ⟨_, _, _, _, h⟩)
      · exact l_f (by rw [ec]; exact hn) (l_eq hat (l_ocn rfl (b_some ⟨_, _, _, _, h⟩)))
theorem b_giveDesks (he : EN g cf nm A) (h : RQ M A cf nd nb nr fe co C S) : ok2 (gX9_giveDesks g cf nm C) (gX10_doDesks S) (fun C' S' => RQ M A cf nd nb nr fe co C' S') := by
  obtain ⟨W, DL, BT, CT, h⟩ := h
  unfold gX9_giveDesks gX10_doDesks
  refine r_bd (r_find h) (fun S1 hS1 => ?_)
  obtain ⟨f, hf, e, hR⟩ := hS1
  have h8 := h.2.2.2.2.2.2.2.2.2.1
  obtain ⟨t, bl, ms, hst⟩ := h.1
  have hlen : DL.length ≤ nr := nd_len nr DL (h8.1.2.2.imp (fun {a b} hab e => by subst e; exact bf_as a a hab hab)) (fun a ha => ((h8.1.2.1 a).mp ha).1)
  refine b_desks he 1000 0 [] C S1 hR (by rw [e]; rfl) (by rw [e]; exact hf) (Nat.zero_le _) hlen (by have := hst.1.2.2.1.2; omega)
end GIVE
