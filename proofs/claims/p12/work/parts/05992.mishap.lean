section MIS
variable {g : Nat → Nat → Option Nat} {cf : Nat → Nat → Nat} {nm : Nat → Int32} {A : Nat → Nat → Nat} {M : MP} {nd nb nr fe co : Nat} {W : Nat → Nat} {DL BT CT : List Nat} {C : CS} {S : RS} {N : Int32 → Prop}
theorem b_hasW0 {n : Nat} (hn : n ≤ 4) (ec : C.1 200 9 = nI n) (v : Int32) : (∃ j, j < n ∧ v = nI j ∧ gX7_hasWorker_0 g cf nm C v = some 1 ∧ sp_in v 0 (nI n - 1) = 1) ∨ ((∀ j, j < n → ¬ v = nI j) ∧ gX7_hasWorker_0 g cf nm C v = some 0 ∧ sp_in v 0 (nI n - 1) = 0) := by
  unfold gX7_hasWorker_0
  rw [ec]
  rcases pin (n := n) (by omega) v with ⟨j, hj, e, h0, h1, h2⟩ | ⟨hj, h01, h2⟩
  · refine Or.inl ⟨j, hj, e, ?_, h2⟩
    rw [if_neg h0, if_neg h1, if_neg (fun c => ?_)]
    rw [e] at c
    have := (nI_leI (a := 4) (by omega) (by omega)).mp c
    omega
  · refine Or.inr ⟨hj, ?_, h2⟩
    by_cases h0 : v < 0
    · rw [if_pos h0]
    · rw [if_neg h0, if_pos (h01.elim (fun k => absurd k h0) id)]
theorem b_hasW1 {n : Nat} (hn : n ≤ 3) (ec : C.1 200 10 = nI n) (v : Int32) : (∃ j, j < n ∧ v = nI j ∧ gX7_hasWorker_1 g cf nm C v = some 1 ∧ sp_in v 0 (nI n - 1) = 1) ∨ ((∀ j, j < n → ¬ v = nI j) ∧ gX7_hasWorker_1 g cf nm C v = some 0 ∧ sp_in v 0 (nI n - 1) = 0) := by
  unfold gX7_hasWorker_1
  rw [ec]
  rcases pin (n := n) (by omega) v with ⟨j, hj, e, h0, h1, h2⟩ | ⟨hj, h01, h2⟩
  · refine Or.inl ⟨j, hj, e, ?_, h2⟩
    rw [if_neg h0, if_neg h1, if_neg (fun c => ?_)]
    rw [e] at c
    have := (nI_leI (a := 3) (by omega) (by omega)).mp c
    omega
  · refine Or.inr ⟨hj, ?_, h2⟩
    by_cases h0 : v < 0
    · rw [if_pos h0]
    · rw [if_neg h0, if_pos (h01.elim (fun k => absurd k h0) id)]
/-- a mishap told: the list's end -/
theorem b_mtail (h : Rel (RMN N) A cf nd nb nr fe co W DL BT CT C S) (v k w : Int32) (hk : k = 0 ∨ k = 1 ∨ k = 2) (hp : pwk k w) : ok2 (bd2 (gX4_append g cf nm C v k w) fun r8 S9 => some (r8, S9)) (if (S 0 52) = 30 then (some (0, S)) else (sv S 39 30 (S 0 52) v fun S60 => sv S60 40 30 (S60 0 52) k fun S62 => sv S62 41 30 (S62 0 52) w fun S64 => bnd (wr S64 0 52 ((S64 0 52) + 1)) fun S65 => some (1, S65))) (fun x y => x.1 = y.1 ∧ RX (RMN N) A cf x.2 y.2) := by
  obtain ⟨⟨t, bl, ms, ⟨⟨e1, b1⟩, ⟨e2, b2⟩, ⟨e3, b3⟩, ⟨e7, b7⟩, ⟨e8, b8⟩, e4, e5, ⟨m, hm, em, eml⟩, hev⟩, hR, hJ⟩, ⟨⟨hn, hrm⟩, hN⟩, h1, h2, h3, h4, h5, h6, h7, h8, h9, h10, h11, h12⟩ := id h
  have c14 : C.1 200 14 = nI m := hn.trans em
  unfold gX4_append
  by_cases k30 : m < 30
  · refine r_f (fun e => ?_) ?_
    · have := nI_inj (j := 30) (by omega) (by omega) (em.symm.trans e)
      omega
    refine l_bd2 (P := fun x => x = (1, wi (wi (wi (wi C 201 m v) 202 m k) 203 m w) 200 14 (nI m + 1))) (ok_t (by rw [c14]; exact nI_lt (b := 30) k30 (by omega)) (c_si c14 k30 (by decide) (c_si (j := m) c14 k30 (by decide) (c_si (j := m) c14 k30 (by decide) (ok_bnd (ok_some ?_)))))) (fun a b hab => ?_)
    · show (1, wi (wi (wi (wi C 201 m v) 202 m k) 203 m w) 200 14 (C.1 200 14 + 1)) = _
      rw [c14]
    obtain ⟨rfl, rfl⟩ := Prod.mk.inj hab
    refine r_sv em k30 (by decide) (r_sv em k30 (by decide) (r_sv em k30 (by decide) (r_bnd (b_some ⟨rfl, nd, nb, nr, fe, co, W, DL, BT, CT, ⟨t, bl, _, ⟨⟨e1, b1⟩, ⟨e2, b2⟩, ⟨e3, b3⟩, ⟨e7, b7⟩, ⟨e8, b8⟩, e4, e5, ⟨m + 1, by omega, ?_, rfl⟩, hev⟩, hR, J_mis hJ hp⟩, ⟨⟨?_, fun i hi hi30 => ?_⟩, hN⟩, h1, h2, h3, h4, R5_fr h5 (fun x => by simp only [wi, wq, kp, ln, rls, va_p1, wr_pl, Nat.reduceLT]) rfl rfl rfl, h6, h7, h8, h9, h10, h11, h12⟩))))
    · show S 0 52 + 1 = nI (m + 1)
      rw [em, nI_1]
    · show nI m + 1 = S 0 52 + 1
      rw [em]
    · have hi2 : i < m + 1 := by
        have k9 : nI i < S 0 52 + 1 := hi
        rw [em, nI_1] at k9
        exact (nI_ltI (by omega) (by omega)).mp k9
      show upd (C.1 201) m v i = upd (S 39) m v i ∧ upd (C.1 202) m k i = upd (S 40) m k i ∧ upd (C.1 203) m w i = upd (S 41) m w i ∧ (upd (S 40) m k i = 0 ∨ upd (S 40) m k i = 1 ∨ upd (S 40) m k i = 2)
      by_cases e : i = m
      · subst e
        rw [ua_s, ua_s, ua_s, ua_s, ua_s, ua_s]
        exact ⟨rfl, rfl, rfl, hk⟩
      · rw [ua_n _ _ e, ua_n _ _ e, ua_n _ _ e, ua_n _ _ e, ua_n _ _ e, ua_n _ _ e]
        exact hrm i (by rw [em]; exact nI_lt (show i < m by omega) (by omega)) hi30
  · have k3 : m = 30 := by omega
    refine r_t (by rw [em, k3]; rfl) (l_bd2 (P := fun x => x = (0, C)) (ok_f (fun c => ?_) (ok_some rfl)) (fun a b hab => ?_))
    · rw [c14, k3] at c
      exact absurd c (by decide)
    · obtain ⟨rfl, rfl⟩ := Prod.mk.inj hab
      exact b_some ⟨rfl, nd, nb, nr, fe, co, W, DL, BT, CT, h⟩
theorem w_mishap (h : RX (RMN N) A cf C S) (v k w : Int32) : ok2 (gX9_mishap g cf nm C v k w) (gX10_mishap S v k w) (fun x y => x.1 = y.1 ∧ RX (RMN N) A cf x.2 y.2) := by
  have hd := RX_0 h 0
  unfold gX9_mishap gX10_mishap
  refine r_bnd ?_
  generalize wr S 0 0 0 = S1 at hd ⊢
  obtain ⟨nd, nb, nr, fe, co, W, DL, BT, CT, hr⟩ := id hd
  obtain ⟨⟨t, bl, ms, ⟨⟨e1, b1⟩, ⟨e2, b2⟩, ⟨e3, b3⟩, ⟨e7, b7⟩, ⟨e8, b8⟩, e4, e5, hm, hev⟩, hR, hJ⟩, hM, h1, hrest⟩ := id hr
  obtain ⟨i1, i2, i3, i4, i5, i6, i7, i8, i9, i10, i11, i12⟩ := id h1.1
  by_cases k0 : k = 0
  · subst k0
    refine r_t rfl (b_ite (by rw [i5]) (fun _ _ => b_some ⟨rfl, hd⟩) (fun _ _ => ?_))
    unfold gX9_isPerson
    rw [if_pos rfl]
    rcases b_isR (g := g) (cf := cf) (nm := nm) (C := C) (S := S1) (n := nr) (by omega) (i3.trans e3) e3 w with ⟨j, hj, e, g1, r1⟩ | ⟨_, g1, r1⟩
    · have r2 : sp_in w 0 (S1 0 3 - 1) = 1 := by
        unfold gX10_isReader at r1
        rw [g_in] at r1
        exact Option.some.inj r1
      refine l_eq (a := 1) (by rw [g1]; rfl) (l_f (by decide) (r_eq (g_in w 0 (S1 0 3 - 1)) (r_f (by rw [r2]; decide) (b_mtail hr v 0 w (Or.inl rfl) ⟨j, e, by omega, fun c => absurd c (by decide), fun c => absurd rfl c⟩))))
    · have r2 : sp_in w 0 (S1 0 3 - 1) = 0 := by
        unfold gX10_isReader at r1
        rw [g_in] at r1
        exact Option.some.inj r1
      exact l_eq (a := 0) (by rw [g1]; rfl) (l_t rfl (r_eq (g_in w 0 (S1 0 3 - 1)) (r_t r2 (b_some ⟨rfl, hd⟩))))
  refine r_f k0 ?_
  by_cases k1 : k = 1
  · subst k1
    refine r_t rfl (b_ite (by rw [i5]) (fun _ _ => b_some ⟨rfl, hd⟩) (fun _ _ => ?_))
    unfold gX9_isPerson
    rw [if_neg k0, if_pos rfl, e7]
    rcases b_hasW0 (g := g) (cf := cf) (nm := nm) (C := C) (n := fe) b7 (i10.trans e7) w with ⟨j, hj, e, g1, r1⟩ | ⟨_, g1, r1⟩
    · exact l_eq (a := 1) (by rw [g1]; rfl) (l_f (by decide) (r_eq (g_in w 0 (nI fe - 1)) (r_f (by rw [r1]; decide) (b_mtail hr v 1 w (Or.inr (Or.inl rfl)) ⟨j, e, by omega, fun _ => by omega, fun _ c => absurd rfl c⟩))))
    · exact l_eq (a := 0) (by rw [g1]; rfl) (l_t rfl (r_eq (g_in w 0 (nI fe - 1)) (r_t r1 (b_some ⟨rfl, hd⟩))))
  refine r_f k1 ?_
  by_cases k2 : k = 2
  · subst k2
    refine r_t rfl (b_ite (by rw [i5]) (fun _ _ => b_some ⟨rfl, hd⟩) (fun _ _ => ?_))
    unfold gX9_isPerson
    rw [if_neg k0, if_neg k1, if_pos rfl, e8]
    rcases b_hasW1 (g := g) (cf := cf) (nm := nm) (C := C) (n := co) b8 (i11.trans e8) w with ⟨j, hj, e, g1, r1⟩ | ⟨_, g1, r1⟩
    · exact l_eq (a := 1) (by rw [g1]; rfl) (l_f (by decide) (r_eq (g_in w 0 (nI co - 1)) (r_f (by rw [r1]; decide) (b_mtail hr v 2 w (Or.inr (Or.inr rfl)) ⟨j, e, by omega, fun c => absurd c (by decide), fun _ _ => by omega⟩))))
    · exact l_eq (a := 0) (by rw [g1]; rfl) (l_t rfl (r_eq (g_in w 0 (nI co - 1)) (r_t r1 (b_some ⟨rfl, hd⟩))))
  refine r_f k2 (b_ite (by rw [i5]) (fun _ _ => b_some ⟨rfl, hd⟩) (fun _ _ => ?_))
  have hz : sp_in w 0 (-1) = 0 := by
    rcases pin (n := 0) (by omega) w with ⟨j, hj, _⟩ | ⟨_, _, e⟩
    · omega
    · exact e
  unfold gX9_isPerson
  rw [if_neg k0, if_neg k1, if_neg k2]
  exact l_eq (a := 0) rfl (l_t rfl (r_eq (g_in w 0 (-1)) (r_t hz (b_some ⟨rfl, hd⟩))))
end MIS
