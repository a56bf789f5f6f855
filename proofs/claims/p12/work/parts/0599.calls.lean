/-! whole calls: the class beside the reference -/
section CALLS
variable {g : Nat → Nat → Option Nat} {cf : Nat → Nat → Nat} {nm : Nat → Int32} {A : Nat → Nat → Nat} {M : MP} {nd nb nr fe co : Nat} {C : CS} {S : RS}
theorem l_bd2 {α β γ τ : Type} {o : Option (γ × τ)} {p : Option β} {P : γ × τ → Prop} {K : γ → τ → Option α} {Q : α → β → Prop} (h : ok o P) (hk : ∀ a b, P (a, b) → ok2 (K a b) p Q) : ok2 (bd2 o K) p Q := by
  obtain ⟨⟨a, b⟩, e, h⟩ := h
  rw [e]
  exact hk a b h
theorem l_eq2 {α β γ τ : Type} {o : Option (γ × τ)} {p : Option β} {a : γ} {b : τ} {K : γ → τ → Option α} {Q : α → β → Prop} (e : o = some (a, b)) (hk : ok2 (K a b) p Q) : ok2 (bd2 o K) p Q := by
  rw [e]
  exact hk
theorem b_bd2 {α β γ τ γ' τ' : Type} {o : Option (γ × τ)} {p : Option (γ' × τ')} {P : γ × τ → γ' × τ' → Prop} {K : γ → τ → Option α} {K' : γ' → τ' → Option β} {Q : α → β → Prop} (h : ok2 o p P) (hk : ∀ a b c d, P (a, b) (c, d) → ok2 (K a b) (K' c d) Q) : ok2 (bd2 o K) (bd2 p K') Q := by
  obtain ⟨⟨a, b⟩, ⟨c, d⟩, e1, e2, h⟩ := h
  rw [e1, e2]
  exact hk a b c d h
theorem in01 (v lo hi : Int32) : sp_in v lo hi = 0 ∨ sp_in v lo hi = 1 := by
  unfold sp_in
  split
  · exact Or.inl rfl
  · split
    · exact Or.inl rfl
    · exact Or.inr rfl
theorem g_within (v lo hi : Int32) : gX9_isWithin g cf nm C v lo hi = some (sp_in v lo hi) := by
  unfold gX9_isWithin sp_in
  split
  · rfl
  · split <;> rfl
/-- a number below n, or not -/
theorem pin {n : Nat} (hn : n < 1000) (v : Int32) : (∃ j, j < n ∧ v = nI j ∧ ¬ v < 0 ∧ ¬ nI n ≤ v ∧ sp_in v 0 (nI n - 1) = 1) ∨ ((∀ j, j < n → ¬ v = nI j) ∧ (v < 0 ∨ nI n ≤ v) ∧ sp_in v 0 (nI n - 1) = 0) := by
  have hin := in_sub (v := v) (c := n) (by omega)
  by_cases k : ∃ j, j < n ∧ v = nI j
  · obtain ⟨j, hj, e⟩ := id k
    refine Or.inl ⟨j, hj, e, ?_, ?_, ?_⟩
    · rw [e]
      exact nI_pos (by omega)
    · rw [e]
      exact fun c => by
        have := (nI_leI (a := n) (b := j) (by omega) (by omega)).mp c
        omega
    · rcases in01 v 0 (nI n - 1) with e2 | e2
      · exact absurd e2 (hin.mpr k)
      · exact e2
  · refine Or.inr ⟨fun j hj e => k ⟨j, hj, e⟩, ?_, ?_⟩
    · by_cases c0 : v < 0
      · exact Or.inl c0
      · by_cases c1 : nI n ≤ v
        · exact Or.inr c1
        · exact absurd (ix_of c0 c1 (by omega)) k
    · rcases in01 v 0 (nI n - 1) with e2 | e2
      · exact e2
      · exact absurd (hin.mp (by rw [e2]; decide)) k
theorem b_isR {n : Nat} (hn : n < 1000) (ec : C.1 200 2 = nI n) (es : S 0 3 = nI n) (v : Int32) : (∃ j, j < n ∧ v = nI j ∧ gX9_isReader g cf nm C v = some 1 ∧ gX10_isReader S v = some 1) ∨ ((∀ j, j < n → ¬ v = nI j) ∧ gX9_isReader g cf nm C v = some 0 ∧ gX10_isReader S v = some 0) := by
  have hr : gX10_isReader S v = some (sp_in v 0 (nI n - 1)) := by
    unfold gX10_isReader
    rw [es, g_in]
    rfl
  unfold gX9_isReader
  rw [ec, hr]
  rcases pin hn v with ⟨j, hj, e, h0, h1, h2⟩ | ⟨hj, h01, h2⟩
  · exact Or.inl ⟨j, hj, e, by rw [if_neg h0, if_neg h1], by rw [h2]⟩
  · refine Or.inr ⟨hj, ?_, by rw [h2]⟩
    by_cases h0 : v < 0
    · rw [if_pos h0]
    · rw [if_neg h0, if_pos (h01.elim (fun k => absurd k h0) id)]
theorem b_isB {n : Nat} (hn : n < 1000) (ec : C.1 200 1 = nI n) (es : S 0 2 = nI n) (v : Int32) : (∃ j, j < n ∧ v = nI j ∧ gX9_isBox g cf nm C v = some 1 ∧ gX10_isBox S v = some 1) ∨ ((∀ j, j < n → ¬ v = nI j) ∧ gX9_isBox g cf nm C v = some 0 ∧ gX10_isBox S v = some 0) := by
  have hr : gX10_isBox S v = some (sp_in v 0 (nI n - 1)) := by
    unfold gX10_isBox
    rw [es, g_in]
    rfl
  unfold gX9_isBox
  rw [ec, hr]
  rcases pin hn v with ⟨j, hj, e, h0, h1, h2⟩ | ⟨hj, h01, h2⟩
  · exact Or.inl ⟨j, hj, e, by rw [if_neg h0, if_neg h1], by rw [h2]⟩
  · refine Or.inr ⟨hj, ?_, by rw [h2]⟩
    by_cases h0 : v < 0
    · rw [if_pos h0]
    · rw [if_neg h0, if_pos (h01.elim (fun k => absurd k h0) id)]
theorem RL_0 (h : RQ M A cf nd nb nr fe co C S) (v : Int32) : RQ M A cf nd nb nr fe co C (wr S 0 0 v) := by
  obtain ⟨W, DL, BT, CT, ⟨t, bl, ms, hst⟩, hM, h1, h2, h3, h4, h5, h6, h7, h8, h9, h10, h11, h12⟩ := h
  exact ⟨W, DL, BT, CT, ⟨t, bl, ms, hst⟩, hM, h1, h2, h3, h4, h5, h6, h7, h8, h9, h10, h11, h12⟩
theorem RL_B {a B B' : Nat} (h : RQ (RMN (NTB a B)) A cf nd nb nr fe co C S) (hb : B ≤ B') : RQ (RMN (NTB 0 B')) A cf nd nb nr fe co C S := RL_M h (fun k => by
  obtain ⟨k1, n, e, k2, k3⟩ := k
  exact ⟨k1, n, e, Nat.zero_le _, Nat.le_trans k3 hb⟩)
/-- in step, whatever there is -/
def RX (M : MP) (A : Nat → Nat → Nat) (cf : Nat → Nat → Nat) (C : CS) (S : RS) : Prop := ∃ nd nb nr fe co, RQ M A cf nd nb nr fe co C S
theorem RX_0 (h : RX M A cf C S) (v : Int32) : RX M A cf C (wr S 0 0 v) := by
  obtain ⟨nd, nb, nr, fe, co, h⟩ := h
  exact ⟨nd, nb, nr, fe, co, RL_0 h v⟩
theorem RX_B {a B B' : Nat} (h : RX (RMN (NTB a B)) A cf C S) (hb : B ≤ B') : RX (RMN (NTB 0 B')) A cf C S := by
  obtain ⟨nd, nb, nr, fe, co, h⟩ := h
  exact ⟨nd, nb, nr, fe, co, RL_B h hb⟩
theorem b_run15 (he : EN g cf nm A) {n B : Nat} (hn : n ≤ 200) (hB : B + n < 2 ^ 31) {K : CS → Option (Int32 × CS)} {K' : RS → Option (Int32 × RS)} {Q : Int32 × CS → Int32 × RS → Prop} (hK : ∀ C S, RQ (RMN (NTB 0 (B + n))) A cf nd nb nr fe co C S → ok2 (K C) (K' S) Q) :
    ∀ (fu j : Nat) (C : CS) (S : RS), j ≤ n → n - j < fu → RQ (RMN (NTB 0 (B + j))) A cf nd nb nr fe co C S → ok2 (gX9_run_15 g cf nm K fu (nI n) (nI j) C) (gX10_run_20 K' fu (nI n) (nI j) S) Q := by
  intro fu
  induction fu with
  | zero => intro j C S hj hf; omega
  | succ fu ih =>
    intro j C S hj hf h
    rw [gX9_run_15, gX10_run_20, nI_1 j]
    refine b_ite Iff.rfl (fun c _ => ?_) (fun c _ => ?_)
    · have hjn : j = n := by
        have := (nI_leI (a := n) (b := j) (by omega) (by omega)).mp c
        omega
      subst hjn
      exact hK C S h
    · have hjn : j < n := nl rfl (by omega) (by omega) c
      exact b_bd (b_turn he (B := B + j) (by omega) h) (fun C' S' h' => ih (j + 1) C' S' (by omega) (by omega) (RL_B h' (Nat.le_refl _)))
theorem w_run (he : EN g cf nm A) {B : Nat} (hB : B + 200 < 2 ^ 31) (h : RX (RMN (NTB 0 B)) A cf C S) (v : Int32) : ok2 (gX9_run g cf nm C v) (gX10_run S v) (fun x y => x.1 = y.1 ∧ RX (RMN (NTB 0 (B + 200))) A cf x.2 y.2) := by
  obtain ⟨nd, nb, nr, fe, co, h⟩ := h
  have h0 := RL_0 h 0
  unfold gX9_run gX10_run
  refine r_bnd ?_
  generalize wr S 0 0 0 = S1 at h0 ⊢
  refine l_eq (g_within v 0 200) (r_eq (g_in v 0 200) (b_ite Iff.rfl (fun _ _ => b_some ⟨rfl, nd, nb, nr, fe, co, RL_B h0 (Nat.le_add_right _ _)⟩) (fun c _ => ?_)))
  obtain ⟨n, _, n2, rfl⟩ := in_nI (a := 0) (b := 200) rfl rfl (by omega) c (by omega)
  rw [show (0 : Int32) = nI 0 from rfl]
  refine b_run15 he n2 (by omega) (fun C' S' h' => b_some ⟨?_, nd, nb, nr, fe, co, RL_B h' (by omega)⟩) 1000 0 C S1 (Nat.zero_le _) (by omega) h0
  obtain ⟨W, DL, BT, CT, _, _, k1, _⟩ := h'
  exact k1.1.2.2.2.2.1
theorem VQ_push {r m : Nat → Nat} {n : Nat} {q : Nat → Option Nat} {s : Nat → Int32} (h : VQ r m n q s) (hq : q (m n) = none) : VQ r m (n + 1) q (upd s n (-1)) := fun i hi => by
  by_cases e : i = n
  · subst e
    rw [ua_s, rfI_n]
    exact hq
  · rw [ua_n _ _ e]
    exact h i (by omega)
theorem b01_up {s : Nat → Int32} {j : Nat} {v : Int32} (h : ∀ i, b01 (s i)) (hv : b01 v) : ∀ i, b01 (upd s j v i) := fun i => by
  by_cases e : i = j
  · subst e
    rw [ua_s]
    exact hv
  · rw [ua_n _ _ e]
    exact h i
theorem w_desk (he : EN g cf nm A) (h : RX M A cf C S) {w : Int32} (hw : b01 w) : ok2 (gX9_desk g cf nm C w) (gX10_desk S w) (fun x y => x.1 = y.1 ∧ RX M A cf x.2 y.2) := by
  have hd := RX_0 h 0
  unfold gX9_desk gX10_desk
  refine r_bnd ?_
  generalize wr S 0 0 0 = S1 at hd ⊢
  obtain ⟨nd, nb, nr, fe, co, W, DL, BT, CT, ⟨t, bl, ms, ⟨⟨e1, b1⟩, ⟨e2, b2⟩, ⟨e3, b3⟩, ⟨e7, b7⟩, ⟨e8, b8⟩, e4, e5, hm, hev⟩, hR, hJ⟩, hM, h1, h2, h3, h4, h5, h6, h7, h8, h9, h10, h11, h12⟩ := id hd
  have c4 : C.1 200 4 = S1 0 4 := h1.1.2.2.2.2.1
  have c0 : C.1 200 0 = nI nd := h1.1.1.trans e1
  refine b_ite (by rw [c4]) (fun _ _ => b_some ⟨rfl, hd⟩) (fun _ _ => ?_)
  by_cases k : nd < 12
  · refine l_t (by rw [c0]; exact nI_lt (b := 12) k (by omega)) (r_f (fun e => ?_) ?_)
    · have := nI_inj (j := 12) (by omega) (by omega) (e1.symm.trans e)
      omega
    rw [nar01 hw]
    refine l_ga c0 k (by decide) (he.1 nd k).1 (l_ck hw (l_bnd (l_bnd (r_sv e1 k (by decide) (r_sv e1 k (by decide) (r_bnd (b_some ⟨?_, nd + 1, nb, nr, fe, co, W, DL, BT, CT, ⟨t, bl, ms, ⟨⟨?_, by omega⟩, ⟨e2, b2⟩, ⟨e3, b3⟩, ⟨e7, b7⟩, ⟨e8, b8⟩, e4, e5, hm, hev⟩, hR, hJ⟩, hM, ⟨⟨?_, h1.1.2⟩, h1.2⟩, ⟨⟨VW_up h2.1.1 (fun i hi e => inj0 he i nd hi k e) w, b01_up h2.1.2 hw⟩, VQ_push h2.2.1 (h2.2.2.1 nd (Nat.le_refl _) k), fun d hd1 hd2 => h2.2.2.1 d (by omega) hd2, h2.2.2.2⟩, h3, h4, R5_fr h5 (fun x => by simp only [wi, wq, kp, ln, rls, va_p1, wr_pl, Nat.reduceLT]) rfl rfl rfl, h6, h7, h8, h9, h10, R11_d h11 nd (Or.inl rfl), h12⟩)))))))
    · show C.1 200 0 = S1 0 1 + 1 - 1
      rw [sub1]
      exact h1.1.1
    · show S1 0 1 + 1 = nI (nd + 1)
      rw [e1, nI_1]
    · show C.1 200 0 + 1 = S1 0 1 + 1
      rw [h1.1.1]
  · have k12 : nd = 12 := by omega
    refine l_f (fun c => ?_) (r_t (by rw [e1, k12]; rfl) (b_some ⟨rfl, hd⟩))
    rw [c0] at c
    have := (nI_ltI (b := 12) (by omega) (by omega)).mp c
    omega
theorem w_box (he : EN g cf nm A) (h : RX M A cf C S) (fo : Int32) {w : Int32} (hw : b01 w) : ok2 (gX9_box g cf nm C fo w) (gX10_box S fo w) (fun x y => x.1 = y.1 ∧ RX M A cf x.2 y.2) := by
  have hd := RX_0 h 0
  unfold gX9_box gX10_box
  refine r_bnd ?_
  generalize wr S 0 0 0 = S1 at hd ⊢
  obtain ⟨nd, nb, nr, fe, co, W, DL, BT, CT, ⟨t, bl, ms, ⟨⟨e1, b1⟩, ⟨e2, b2⟩, ⟨e3, b3⟩, ⟨e7, b7⟩, ⟨e8, b8⟩, e4, e5, hm, hev⟩, hR, hJ⟩, hM, h1, h2, h3, h4, h5, h6, h7, h8, h9, h10, h11, h12⟩ := id hd
  have c4 : C.1 200 4 = S1 0 4 := h1.1.2.2.2.2.1
  have c0 : C.1 200 1 = nI nb := h1.1.2.1.trans e2
  refine b_ite (by rw [c4]) (fun _ _ => b_some ⟨rfl, hd⟩) (fun _ _ => ?_)
  by_cases k : nb < 40
  · refine l_f (fun c => ?_) (r_f (fun e => ?_) (l_eq (g_within fo 0 9) (r_eq (g_in fo 0 9) (b_ite Iff.rfl (fun _ _ => b_some ⟨rfl, hd⟩) (fun _ _ => ?_)))))
    · rw [c0] at c
      have := (nI_leI (a := 40) (by omega) (by omega)).mp c
      omega
    · have := nI_inj (j := 40) (by omega) (by omega) (e2.symm.trans e)
      omega
    rw [nar01 hw]
    have hg := (he.2.1 nb k).1
    obtain ⟨p1, p2, p3, p4, p5⟩ := h5
    obtain ⟨w1, w2, w3, w4, w5, w6⟩ := h7
    obtain ⟨a1, a2, a3, a4⟩ := h9
    obtain ⟨z1, z2, z3, z4, z5, z6⟩ := h3
    have hp : ∀ x, (wi (wi (wi C 1 (A 1 nb) fo) 2 (A 1 nb) w) 200 1 (C.1 200 1 + 1)).1 (1000 + x) = C.1 (1000 + x) := fun x => by simp only [wi, wq, kp, ln, rls, va_p1, wr_pl, Nat.reduceLT]
    refine l_ga c0 k (by decide) hg (l_bnd (l_ga c0 k (by decide) hg (l_ck hw (l_bnd (l_bnd (r_sv e2 k (by decide) (r_sv e2 k (by decide) (r_sv e2 k (by decide) (r_sv e2 k (by decide) (r_bnd (b_some ⟨?_, nd, nb + 1, nr, fe, co, W, DL, BT, CT, ⟨t, bl, ms, ⟨⟨e1, b1⟩, ⟨?_, by omega⟩, ⟨e3, b3⟩, ⟨e7, b7⟩, ⟨e8, b8⟩, e4, e5, hm, hev⟩, R_tk (R_hs hR (Or.inl rfl)) (Or.inl rfl), J_box hJ k⟩, hM, ⟨⟨h1.1.1, ?_, h1.1.2.2⟩, h1.2⟩, h2, ⟨VW_up z1 (fun i hi e => inj1 he i nb hi k e) fo, VW_up z2 (fun i hi e => inj1 he i nb hi k e) w, z3, VQ_push z4 (z6 nb (Nat.le_refl _) k).1, VQ_push z5 (z6 nb (Nat.le_refl _) k).2.1, fun b hb1 hb2 => z6 b (by omega) hb2⟩, h4, ⟨p1, p2, p3, fun r n hr hn e i hi => ?_, fun r n hr hn e i hi => ?_⟩, h6, ⟨w1, w2, w3, w4, fun r hr e => ?_, fun r hr e => ?_⟩, h8, ⟨fun b hb e => ?_, fun b hb e => ?_, a3, a4⟩, h10, h11, fun b r hb hr e => ?_, h12.2⟩)))))))))))
    · show C.1 200 1 = S1 0 2 + 1 - 1
      rw [sub1]
      exact h1.1.2.1
    · show S1 0 2 + 1 = nI (nb + 1)
      rw [e2, nI_1]
    · show C.1 200 1 + 1 = S1 0 2 + 1
      rw [h1.1.2.1]
    · simp only [hp]
      obtain ⟨q1, q2, q3, q4, q5, q6⟩ := p4 r n hr hn e i hi
      refine ⟨q1, q2, q3, q4, q5, fun e => ?_⟩
      obtain ⟨b, hb, hb2⟩ := q6 e
      exact ⟨b, by omega, hb2⟩
    · simp only [hp]
      exact p5 r n hr hn e i hi
    · obtain ⟨q1, q2⟩ := w5 r hr e
      exact ⟨by omega, (ua_n _ _ (by omega)).trans q2⟩
    · obtain ⟨q1, q2, q3⟩ := w6 r hr e
      exact ⟨by omega, (ua_n _ _ (by omega)).trans q2, q3⟩
    · by_cases eb : b = nb
      · subst eb
        exact absurd (ua_s (S1 6) b (-1)) e
      · exact (ua_n _ _ eb).trans (a1 b (by omega) (fun k9 => e ((ua_n _ _ eb).trans k9)))
    · by_cases eb : b = nb
      · subst eb
        have e9 : S1 5 b = 5 := e
        rw [(z6 b (Nat.le_refl _) k).2.2] at e9
        exact absurd e9 (by decide)
      · exact fun k9 => a2 b (by omega) e ((ua_n _ _ eb).symm.trans k9)
    · by_cases eb : b = nb
      · subst eb
        exact absurd ((ua_s (S1 6) b (-1)).symm.trans e).symm (nI_nm (by omega))
      · exact h12.1 b r (by omega) hr ((ua_n _ _ eb).symm.trans e)
  · have k40 : nb = 40 := by omega
    refine l_t ?_ (r_t (by rw [e2, k40]; rfl) (b_some ⟨rfl, hd⟩))
    rw [c0, k40]
    exact (nI_leI (a := 40) (b := 40) (by omega) (by omega)).mpr (Nat.le_refl _)
theorem w_people (h : RX M A cf C S) (f c w : Int32) : ok2 (gX9_people g cf nm C f c w) (gX10_people S f c w) (fun x y => x.1 = y.1 ∧ RX M A cf x.2 y.2) := by
  have hd := RX_0 h 0
  unfold gX9_people gX10_people
  refine r_bnd ?_
  generalize wr S 0 0 0 = S1 at hd ⊢
  obtain ⟨nd, nb, nr, fe, co, W, DL, BT, CT, ⟨t, bl, ms, ⟨⟨e1, b1⟩, ⟨e2, b2⟩, ⟨e3, b3⟩, ⟨e7, b7⟩, ⟨e8, b8⟩, e4, e5, hm, hev⟩, hR, hJ⟩, hM, h1, h2, h3, h4, h5, h6, h7, h8, h9, h10, h11, h12⟩ := id hd
  have c4 : C.1 200 4 = S1 0 4 := h1.1.2.2.2.2.1
  refine b_ite (by rw [c4]) (fun _ _ => b_some ⟨rfl, hd⟩) (fun _ k0 => ?_)
  refine l_eq (g_within f 1 4) (r_eq (g_in f 1 4) (b_ite Iff.rfl (fun _ _ => b_some ⟨rfl, hd⟩) (fun kf _ => ?_)))
  refine l_eq (g_within c 1 3) (r_eq (g_in c 1 3) (b_ite Iff.rfl (fun _ _ => b_some ⟨rfl, hd⟩) (fun kc _ => ?_)))
  refine l_eq (g_within w 1 5) (r_eq (g_in w 1 5) (b_ite Iff.rfl (fun _ _ => b_some ⟨rfl, hd⟩) (fun kw _ => ?_)))
  obtain ⟨n, _, hn, rfl⟩ := in_nI (a := 1) (b := 4) rfl rfl (by omega) kf (by omega)
  obtain ⟨m, _, hm2, rfl⟩ := in_nI (a := 1) (b := 3) rfl rfl (by omega) kc (by omega)
  obtain ⟨i1, i2, i3, i4, i5, i6, i7, i8, i9, i10, i11, i12⟩ := h1.1
  obtain ⟨o1, o2⟩ := h10.2.2 k0
  exact l_bnd (l_bnd (l_bnd (r_bnd (r_bnd (r_bnd (b_some ⟨rfl, nd, nb, nr, n, m, W, DL, BT, CT, ⟨t, bl, ms, ⟨⟨e1, b1⟩, ⟨e2, b2⟩, ⟨e3, b3⟩, ⟨rfl, hn⟩, ⟨rfl, hm2⟩, e4, e5, hm, hev⟩, hR, hJ⟩, hM, ⟨⟨i1, i2, i3, rfl, i5, i6, i7, i8, i9, rfl, rfl, i12⟩, h1.2⟩, h2, h3, h4, R5_fr h5 (fun x => by simp only [wi, wq, kp, ln, rls, va_p1, wr_pl, Nat.reduceLT]) rfl rfl rfl, h6, h7, h8, h9, ⟨fun f _ hf => o1 f hf, fun c _ hc => o2 c hc, fun _ => ⟨o1, o2⟩⟩, h11, h12⟩))))))
theorem w_bell (h : RX M A cf C S) (v : Int32) : ok2 (gX9_bell g cf nm C v) (gX10_bell S v) (fun x y => x.1 = y.1 ∧ RX M A cf x.2 y.2) := by
  have hd := RX_0 h 0
  unfold gX9_bell gX10_bell
  refine r_bnd ?_
  generalize wr S 0 0 0 = S1 at hd ⊢
  obtain ⟨nd, nb, nr, fe, co, W, DL, BT, CT, ⟨t, bl, ms, ⟨⟨e1, b1⟩, ⟨e2, b2⟩, ⟨e3, b3⟩, ⟨e7, b7⟩, ⟨e8, b8⟩, e4, e5, hm, hev⟩, hR, hJ⟩, hM, h1, h2, h3, h4, h5, h6, h7, h8, h9, h10, h11, h12⟩ := id hd
  obtain ⟨i1, i2, i3, i4, i5, i6, i7⟩ := h1.1
  by_cases k5 : S1 0 5 = -1
  · by_cases k4 : S1 0 4 < v
    · refine l_f (by rw [i5]; exact lt_nle k4) (l_t (by rw [i6]; exact k5) (r_t k5 (r_t k4 (l_bnd (r_bnd (b_some ⟨rfl, nd, nb, nr, fe, co, W, DL, BT, CT, ⟨t, v, ms, ⟨⟨e1, b1⟩, ⟨e2, b2⟩, ⟨e3, b3⟩, ⟨e7, b7⟩, ⟨e8, b8⟩, e4, rfl, hm, hev⟩, hR, hJ⟩, hM, ⟨⟨i1, i2, i3, i4, i5, rfl, i7⟩, h1.2⟩, h2, h3, h4, R5_fr h5 (fun x => by simp only [wi, wq, kp, ln, rls, va_p1, wr_pl, Nat.reduceLT]) rfl rfl rfl, h6, h7, h8, h9, h10, h11, h12⟩))))))
    · exact l_t (by rw [i5]; exact nlt_le k4) (r_t k5 (r_f k4 (b_some ⟨rfl, hd⟩)))
  · refine r_f k5 ?_
    by_cases k4 : v ≤ S1 0 4
    · exact l_t (by rw [i5]; exact k4) (b_some ⟨rfl, hd⟩)
    · exact l_f (by rw [i5]; exact k4) (l_f (by rw [i6]; exact k5) (b_some ⟨rfl, hd⟩))
theorem bf_up {ra ar : Nat → Int32} {n : Nat} {x y : Int32} {a b : Nat} (ha : a ≠ n) (hb : b ≠ n) (h : bf ra ar a b) : bf (upd ra n x) (upd ar n y) a b := by
  unfold bf at h ⊢
  rw [ua_n _ _ ha, ua_n _ _ hb, ua_n _ _ ha, ua_n _ _ hb]
  exact h
theorem mem_push {l : List Nat} {s15 : Nat → Int32} {k : Int32} (h0 : ¬ s15 nr = k) (h : ∀ r, r ∈ l ↔ r < nr ∧ s15 r = k) : ∀ r, r ∈ l ↔ r < nr + 1 ∧ s15 r = k := fun r => by
  rw [h r]
  refine ⟨fun q => ⟨by omega, q.2⟩, fun q => ⟨?_, q.2⟩⟩
  have : r ≠ nr := fun e => h0 (e ▸ q.2)
  omega
theorem w_reader (he : EN g cf nm A) (h : RX M A cf C S) (ar rk : Int32) {w : Int32} (hw : b01 w) : ok2 (gX9_reader g cf nm C ar rk w) (gX10_reader S ar rk w) (fun x y => x.1 = y.1 ∧ RX M A cf x.2 y.2) := by
  have hd := RX_0 h 0
  unfold gX9_reader gX10_reader
  refine r_bnd ?_
  generalize wr S 0 0 0 = S1 at hd ⊢
  obtain ⟨nd, nb, nr, fe, co, W, DL, BT, CT, ⟨t, bl, ms, ⟨⟨e1, b1⟩, ⟨e2, b2⟩, ⟨e3, b3⟩, ⟨e7, b7⟩, ⟨e8, b8⟩, e4, e5, hm, hev⟩, hR, hJ⟩, hM, h1, h2, h3, h4, h5, h6, h7, h8, h9, h10, h11, h12⟩ := id hd
  obtain ⟨i1, i2, i3, i4, i5, i6, i7⟩ := id h1.1
  have c0 : C.1 200 2 = nI nr := i3.trans e3
  by_cases k : nr < 20
  · refine l_f (fun c => ?_) (r_f (fun e => ?_) ?_)
    · rw [c0] at c
      have := (nI_leI (a := 20) (by omega) (by omega)).mp c
      omega
    · have := nI_inj (j := 20) (by omega) (by omega) (e3.symm.trans e)
      omega
    refine l_eq (g_within ar 1 1000) (r_eq (g_in ar 1 1000) (b_ite Iff.rfl (fun _ _ => b_some ⟨rfl, hd⟩) (fun _ _ => ?_)))
    refine l_eq (g_within rk 0 3) (r_eq (g_in rk 0 3) (b_ite Iff.rfl (fun _ _ => b_some ⟨rfl, hd⟩) (fun _ _ => ?_)))
    rw [nar01 hw]
    have hz : S1 15 nr = 0 := hJ.1 nr (Nat.le_refl _)
    have hne : ∀ {l : List Nat} {x : Int32}, (∀ r, r ∈ l ↔ r < nr ∧ S1 15 r = x) → ∀ a, a ∈ l → a ≠ nr := fun hl a ha e => by
      have := ((hl a).mp ha).1
      omega
    obtain ⟨⟨d1, d2, d3⟩, ⟨y1, y2, y3⟩, ⟨x1, x2, x3⟩⟩ := h8
    obtain ⟨f1, f2, f3, f4, f5, f6, f7, f8, f9⟩ := h4
    have inj : ∀ i, i < 20 → A 2 i = A 2 nr → i = nr := fun i hi e => inj2 he i nr hi k e
    have tail : ok2 (ga g 2 20 (C.1 200 2) fun b21 => bnd (wi C 122 b21 ar) fun S22 => bnd (wi S22 123 b21 rk) fun S23 => ck w fun _ => bnd (wi S23 124 b21 w) fun S24 => bnd (wi S24 200 2 ((C.1 200 2) + 1)) fun S25 => some ((C.1 200 2), S25)) (sv S1 12 20 (S1 0 3) ar fun S17 => sv S17 13 20 (S17 0 3) rk fun S19 => sv S19 14 20 (S19 0 3) w fun S21 => sv S21 16 20 (S21 0 3) (-1) fun S23 => bnd (wr S23 0 3 ((S23 0 3) + 1)) fun S24 => some (((S24 0 3) - 1), S24)) (fun x y => x.1 = y.1 ∧ RX M A cf x.2 y.2) := by
      refine l_ga c0 k (by decide) (he.2.2.1 nr k).1 (l_bnd (l_bnd (l_ck hw (l_bnd (l_bnd (r_sv e3 k (by decide) (r_sv e3 k (by decide) (r_sv e3 k (by decide) (r_sv e3 k (by decide) (r_bnd (b_some ⟨?_, nd, nb, nr + 1, fe, co, W, DL, BT, CT, ⟨t, bl, ms, ⟨⟨e1, b1⟩, ⟨e2, b2⟩, ⟨?_, by omega⟩, ⟨e7, b7⟩, ⟨e8, b8⟩, e4, e5, hm, hev⟩, R_dk hR (Or.inl rfl), J_reader hJ k⟩, hM, ⟨⟨i1, i2, ?_, i4, i5, i6, i7⟩, h1.2⟩, ⟨h2.1, h2.2.1, h2.2.2.1, VQ_push h2.2.2.2.1 (h2.2.2.2.2 nr (Nat.le_refl _) k), fun r hr1 hr2 => h2.2.2.2.2 r (by omega) hr2⟩, h3, ⟨VW_up f1 inj ar, VW_up f2 inj rk, ⟨VW_up f3.1 inj w, b01_up f3.2 hw⟩, f4, f5, f6, f7, f8, f9⟩, R5_fr h5 (fun x => by simp only [wi, wq, kp, ln, rls, va_p1, wr_pl, Nat.reduceLT]) rfl rfl rfl, h6, h7, ⟨⟨d1, mem_push (fun e => absurd (hz.symm.trans e) (by decide)) d2, List.Pairwise.imp_of_mem (fun {a b} ha hb hab => bf_up (hne d2 a ha) (hne d2 b hb) hab) d3⟩, ⟨y1, mem_push (fun e => absurd (hz.symm.trans e) (by decide)) y2, y3⟩, ⟨x1, mem_push (fun e => absurd (hz.symm.trans e) (by decide)) x2, x3⟩⟩, h9, h10, h11, h12.1, fun r hr e => ?_⟩)))))))))))
      · show C.1 200 2 = S1 0 3 + 1 - 1
        rw [sub1]
        exact i3
      · show S1 0 3 + 1 = nI (nr + 1)
        rw [e3, nI_1]
      · show C.1 200 2 + 1 = S1 0 3 + 1
        rw [i3]
      · by_cases er : r = nr
        · subst er
          exact ua_s _ _ _
        · exact (ua_n _ _ er).trans (h12.2 r (by omega) e)
    by_cases k5 : S1 0 5 = -1
    · exact l_eq (a := 0) (by unfold gX9_bellHasBeen; rw [i6, if_pos k5]) (l_t rfl (r_t k5 tail))
    · refine r_f k5 ?_
      by_cases k4 : S1 0 4 < S1 0 5
      · exact l_eq (a := 0) (by unfold gX9_bellHasBeen; rw [i6, i5, if_neg k5, if_pos k4]) (l_t rfl (r_t k4 tail))
      · exact l_eq (a := 1) (by unfold gX9_bellHasBeen; rw [i6, i5, if_neg k5, if_neg k4]) (l_f (by decide) (r_f k4 (b_some ⟨rfl, hd⟩)))
  · have k20 : nr = 20 := by omega
    refine l_t ?_ (r_t (by rw [e3, k20]; rfl) (b_some ⟨rfl, hd⟩))
    rw [c0, k20]
    exact (nI_leI (a := 20) (b := 20) (by omega) (by omega)).mpr (Nat.le_refl _)
end CALLS
