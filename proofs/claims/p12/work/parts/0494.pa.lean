section PUA
variable {d bx rd fe co : Nat} {t bl : Int32} {ms : List Int32} {S : RS}
theorem g_in (v lo hi : Int32) : gX10_in v lo hi = some (sp_in v lo hi) := by
  unfold gX10_in sp_in
  split
  · rfl
  · split <;> rfl
theorem St_n (h : St d bx rd fe co t bl ms S) {k : Nat} (v : Int32) (hk : k = 0 ∨ k = 6 ∨ k = 20 ∨ k = 21 ∨ k = 22 ∨ k = 23 ∨ k = 57) : St d bx rd fe co t bl ms (wr S 0 k v) := by
  rcases hk with rfl | rfl | rfl | rfl | rfl | rfl | rfl <;> exact h
theorem t_in {β : Type} {v lo hi : Int32} {K : Int32 → Option β} {Q : β → Prop} (h : ok (K (sp_in v lo hi)) Q) : ok (bd1 (gX10_in v lo hi) K) Q := by
  rw [g_in]
  exact h
theorem t_desk (h : St d bx rd fe co t bl ms S) (w : Int32) : ok (gX10_desk S w) (fun q => ∃ s' : AB, (q.1, s') = sp_desk (d, bx, rd, fe, co, t, bl, ms) ∧ StA s' q.2) := by
  unfold gX10_desk
  refine ok_bnd ?_
  have h1 := St_n h 0 (k := 0) (Or.inl rfl)
  generalize wr S 0 0 0 = S1 at h1 ⊢
  obtain ⟨⟨⟨e1, b1⟩, ⟨e2, b2⟩, ⟨e3, b3⟩, ⟨e7, b7⟩, ⟨e8, b8⟩, e4, e5, hm, hev⟩, hR, hJ⟩ := id h1
  refine ok_ite (fun c => ok_some ⟨(d, bx, rd, fe, co, t, bl, ms), ?_, h1⟩) (fun c => ?_)
  · unfold sp_desk
    exact (if_pos (by rw [e4] at c; exact c)).symm
  have c' : ¬ 0 < t := by rw [e4] at c; exact c
  refine ok_ite (fun c2 => ok_some ⟨(d, bx, rd, fe, co, t, bl, ms), ?_, h1⟩) (fun c2 => ?_)
  · unfold sp_desk
    have hd : d = 12 := nI_inj (by omega) (by omega) (e1.symm.trans c2)
    exact ((if_neg c').trans (if_pos (by show 12 ≤ d; omega))).symm
  have hd : d < 12 := by
    rcases Nat.lt_or_ge d 12 with h9 | h9
    · exact h9
    · exact absurd (e1.trans (congrArg nI (show d = 12 by omega))) c2
  refine ok_sv e1 hd (by decide) ?_
  refine ok_sv (j := d) e1 hd (by decide) ?_
  refine ok_bnd ?_
  refine ok_some ⟨(d + 1, bx, rd, fe, co, t, bl, ms), ?_, ?_⟩
  · show (S1 0 1 + 1 - 1, _) = _
    rw [sub1, e1]
    unfold sp_desk
    exact ((if_neg c').trans (if_neg (by show ¬ 12 ≤ d; omega))).symm
  · exact ⟨⟨⟨by show S1 0 1 + 1 = _; rw [e1, nI_1], by show d + 1 ≤ 12; omega⟩, ⟨e2, b2⟩, ⟨e3, b3⟩, ⟨e7, b7⟩, ⟨e8, b8⟩, e4, e5, hm, hev⟩, hR, hJ⟩
theorem t_box (h : St d bx rd fe co t bl ms S) (fo w : Int32) : ok (gX10_box S fo w) (fun q => ∃ s' : AB, (q.1, s') = sp_box fo (d, bx, rd, fe, co, t, bl, ms) ∧ StA s' q.2) := by
  unfold gX10_box
  refine ok_bnd ?_
  have h1 := St_n h 0 (k := 0) (Or.inl rfl)
  generalize wr S 0 0 0 = S1 at h1 ⊢
  obtain ⟨⟨⟨e1, b1⟩, ⟨e2, b2⟩, ⟨e3, b3⟩, ⟨e7, b7⟩, ⟨e8, b8⟩, e4, e5, hm, hev⟩, hR, hJ⟩ := id h1
  refine ok_ite (fun c => ok_some ⟨(d, bx, rd, fe, co, t, bl, ms), ?_, h1⟩) (fun c => ?_)
  · unfold sp_box
    exact (if_pos (by rw [e4] at c; exact c)).symm
  have c' : ¬ 0 < t := by rw [e4] at c; exact c
  refine ok_ite (fun c2 => ok_some ⟨(d, bx, rd, fe, co, t, bl, ms), ?_, h1⟩) (fun c2 => ?_)
  · unfold sp_box
    have hd : bx = 40 := nI_inj (by omega) (by omega) (e2.symm.trans c2)
    exact ((if_neg c').trans (if_pos (by show 40 ≤ bx; omega))).symm
  have hd : bx < 40 := by
    rcases Nat.lt_or_ge bx 40 with h9 | h9
    · exact h9
    · exact absurd (e2.trans (congrArg nI (show bx = 40 by omega))) c2
  refine t_in ?_
  refine ok_ite (fun c3 => ok_some ⟨(d, bx, rd, fe, co, t, bl, ms), ?_, h1⟩) (fun c3 => ?_)
  · unfold sp_box
    exact ((if_neg c').trans ((if_neg (by show ¬ 40 ≤ bx; omega)).trans (if_pos c3))).symm
  refine ok_sv e2 hd (by decide) ?_
  refine ok_sv (j := bx) e2 hd (by decide) ?_
  refine ok_sv (j := bx) e2 hd (by decide) ?_
  refine ok_sv (j := bx) e2 hd (by decide) ?_
  refine ok_bnd ?_
  refine ok_some ⟨(d, bx + 1, rd, fe, co, t, bl, ms), ?_, ?_⟩
  · show (S1 0 2 + 1 - 1, _) = _
    rw [sub1, e2]
    unfold sp_box
    exact ((if_neg c').trans ((if_neg (by show ¬ 40 ≤ bx; omega)).trans (if_neg c3))).symm
  · exact ⟨⟨⟨e1, b1⟩, ⟨by show S1 0 2 + 1 = _; rw [e2, nI_1], by show bx + 1 ≤ 40; omega⟩, ⟨e3, b3⟩, ⟨e7, b7⟩, ⟨e8, b8⟩, e4, e5, hm, hev⟩, R_hs (R_tk hR (Or.inl rfl)) (Or.inl rfl), J_box hJ hd⟩
theorem t_people (h : St d bx rd fe co t bl ms S) (f c w : Int32) : ok (gX10_people S f c w) (fun q => ∃ s' : AB, (q.1, s') = sp_people f c w (d, bx, rd, fe, co, t, bl, ms) ∧ StA s' q.2) := by
  unfold gX10_people
  refine ok_bnd ?_
  have h1 := St_n h 0 (k := 0) (Or.inl rfl)
  generalize wr S 0 0 0 = S1 at h1 ⊢
  obtain ⟨⟨⟨e1, b1⟩, ⟨e2, b2⟩, ⟨e3, b3⟩, ⟨e7, b7⟩, ⟨e8, b8⟩, e4, e5, hm, hev⟩, hR, hJ⟩ := id h1
  refine ok_ite (fun c => ok_some ⟨(d, bx, rd, fe, co, t, bl, ms), ?_, h1⟩) (fun c => ?_)
  · unfold sp_people
    exact (if_pos (by rw [e4] at c; exact c)).symm
  have c' : ¬ 0 < t := by rw [e4] at c; exact c
  refine t_in (ok_ite (fun c2 => ok_some ⟨(d, bx, rd, fe, co, t, bl, ms), ?_, h1⟩) (fun c2 => ?_))
  · unfold sp_people
    exact ((if_neg c').trans (if_pos c2)).symm
  refine t_in (ok_ite (fun c3 => ok_some ⟨(d, bx, rd, fe, co, t, bl, ms), ?_, h1⟩) (fun c3 => ?_))
  · unfold sp_people
    exact ((if_neg c').trans ((if_neg c2).trans (if_pos c3))).symm
  refine t_in (ok_ite (fun c4 => ok_some ⟨(d, bx, rd, fe, co, t, bl, ms), ?_, h1⟩) (fun c4 => ?_))
  · unfold sp_people
    exact ((if_neg c').trans ((if_neg c2).trans ((if_neg c3).trans (if_pos c4)))).symm
  obtain ⟨jf, hf0, hf, rfl⟩ := in_nI (a := 1) (b := 4) rfl rfl (by decide) c2 (by decide)
  obtain ⟨jc, hc0, hc, rfl⟩ := in_nI (a := 1) (b := 3) rfl rfl (by decide) c3 (by decide)
  refine ok_bnd (ok_bnd (ok_bnd (ok_some ⟨(d, bx, rd, jf, jc, t, bl, ms), ?_, ?_⟩)))
  · unfold sp_people
    rw [nI_clamp (by omega), nI_clamp (by omega)]
    exact ((if_neg c').trans ((if_neg c2).trans ((if_neg c3).trans (if_neg c4)))).symm
  · exact ⟨⟨⟨e1, b1⟩, ⟨e2, b2⟩, ⟨e3, b3⟩, ⟨rfl, hf⟩, ⟨rfl, hc⟩, e4, e5, hm, hev⟩, hR, hJ⟩
theorem t_rtail (h1 : St d bx rd fe co t bl ms S) (hd : rd < 20) (ar rk w : Int32) (Q : Int32 × RS → Prop) (hQ : ∀ S', St d bx (rd + 1) fe co t bl ms S' → Q (nI rd, S')) : ok (sv S 12 20 (S 0 3) ar fun S17 => sv S17 13 20 (S17 0 3) rk fun S19 => sv S19 14 20 (S19 0 3) (vp_nar .boolean w) fun S21 => sv S21 16 20 (S21 0 3) (-1) fun S23 => bnd (wr S23 0 3 ((S23 0 3) + 1)) fun S24 => some (((S24 0 3) - 1), S24)) Q := by
  obtain ⟨⟨⟨e1, b1⟩, ⟨e2, b2⟩, ⟨e3, b3⟩, ⟨e7, b7⟩, ⟨e8, b8⟩, e4, e5, hm, hev⟩, hR, hJ⟩ := id h1
  refine ok_sv e3 hd (by decide) ?_
  refine ok_sv (j := rd) e3 hd (by decide) ?_
  refine ok_sv (j := rd) e3 hd (by decide) ?_
  refine ok_sv (j := rd) e3 hd (by decide) ?_
  refine ok_bnd (ok_some ?_)
  have hq := hQ (wr (wr (wr (wr (wr S 12 rd ar) 13 rd rk) 14 rd (vp_nar .boolean w)) 16 rd (-1)) 0 3 (S 0 3 + 1)) ⟨⟨⟨e1, b1⟩, ⟨e2, b2⟩, ⟨by show S 0 3 + 1 = _; rw [e3, nI_1], by omega⟩, ⟨e7, b7⟩, ⟨e8, b8⟩, e4, e5, hm, hev⟩, R_dk hR (Or.inl rfl), J_reader hJ hd⟩
  show Q (S 0 3 + 1 - 1, _)
  rw [sub1, e3]
  exact hq
theorem t_reader (h : St d bx rd fe co t bl ms S) (ar rk w : Int32) : ok (gX10_reader S ar rk w) (fun q => ∃ s' : AB, (q.1, s') = sp_reader ar rk (d, bx, rd, fe, co, t, bl, ms) ∧ StA s' q.2) := by
  unfold gX10_reader
  refine ok_bnd ?_
  have h1 := St_n h 0 (k := 0) (Or.inl rfl)
  generalize wr S 0 0 0 = S1 at h1 ⊢
  obtain ⟨⟨⟨e1, b1⟩, ⟨e2, b2⟩, ⟨e3, b3⟩, ⟨e7, b7⟩, ⟨e8, b8⟩, e4, e5, hm, hev⟩, hR, hJ⟩ := id h1
  refine ok_ite (fun c2 => ok_some ⟨(d, bx, rd, fe, co, t, bl, ms), ?_, h1⟩) (fun c2 => ?_)
  · unfold sp_reader
    have hd : rd = 20 := nI_inj (by omega) (by omega) (e3.symm.trans c2)
    exact (if_pos (by show 20 ≤ rd; omega)).symm
  have hd : rd < 20 := by
    rcases Nat.lt_or_ge rd 20 with h9 | h9
    · exact h9
    · exact absurd (e3.trans (congrArg nI (show rd = 20 by omega))) c2
  have hd' : ¬ 20 ≤ rd := by omega
  refine t_in (ok_ite (fun c3 => ok_some ⟨(d, bx, rd, fe, co, t, bl, ms), ?_, h1⟩) (fun c3 => ?_))
  · unfold sp_reader
    exact ((if_neg hd').trans (if_pos c3)).symm
  refine t_in (ok_ite (fun c4 => ok_some ⟨(d, bx, rd, fe, co, t, bl, ms), ?_, h1⟩) (fun c4 => ?_))
  · unfold sp_reader
    exact ((if_neg hd').trans ((if_neg c3).trans (if_pos c4))).symm
  rw [e5]
  refine ok_ite (fun c5 => t_rtail h1 hd _ _ _ _ (fun S' hS' => ⟨(d, bx, rd + 1, fe, co, t, bl, ms), ?_, hS'⟩)) (fun c5 => ?_)
  · unfold sp_reader
    exact ((if_neg hd').trans ((if_neg c3).trans ((if_neg c4).trans (if_neg (fun h9 => h9.1 c5))))).symm
  rw [e4]
  refine ok_ite (fun c6 => t_rtail h1 hd _ _ _ _ (fun S' hS' => ⟨(d, bx, rd + 1, fe, co, t, bl, ms), ?_, hS'⟩)) (fun c6 => ok_some ⟨(d, bx, rd, fe, co, t, bl, ms), ?_, h1⟩)
  · unfold sp_reader
    exact ((if_neg hd').trans ((if_neg c3).trans ((if_neg c4).trans (if_neg (fun h9 => lt_nle c6 h9.2))))).symm
  · unfold sp_reader
    exact ((if_neg hd').trans ((if_neg c3).trans ((if_neg c4).trans (if_pos ⟨c5, nlt_le c6⟩)))).symm
theorem t_bell (h : St d bx rd fe co t bl ms S) (v : Int32) : ok (gX10_bell S v) (fun q => ∃ s' : AB, (q.1, s') = sp_bell v (d, bx, rd, fe, co, t, bl, ms) ∧ StA s' q.2) := by
  unfold gX10_bell
  refine ok_bnd ?_
  have h1 := St_n h 0 (k := 0) (Or.inl rfl)
  generalize wr S 0 0 0 = S1 at h1 ⊢
  obtain ⟨⟨⟨e1, b1⟩, ⟨e2, b2⟩, ⟨e3, b3⟩, ⟨e7, b7⟩, ⟨e8, b8⟩, e4, e5, hm, hev⟩, hR, hJ⟩ := id h1
  rw [e5, e4]
  refine ok_ite (fun c => ?_) (fun c => ok_some ⟨(d, bx, rd, fe, co, t, bl, ms), ?_, h1⟩)
  · refine ok_ite (fun c2 => ok_bnd (ok_some ⟨(d, bx, rd, fe, co, t, v, ms), ?_, ⟨⟨e1, b1⟩, ⟨e2, b2⟩, ⟨e3, b3⟩, ⟨e7, b7⟩, ⟨e8, b8⟩, e4, rfl, hm, hev⟩, hR, hJ⟩)) (fun c2 => ok_some ⟨(d, bx, rd, fe, co, t, bl, ms), ?_, h1⟩)
    · unfold sp_bell
      exact ((if_neg (lt_nle c2)).trans (if_neg (fun h9 => h9 c))).symm
    · unfold sp_bell
      exact (if_pos (nlt_le c2)).symm
  · unfold sp_bell
    by_cases c2 : v ≤ t
    · exact (if_pos c2).symm
    · exact ((if_neg c2).trans (if_pos c)).symm
theorem t_mtail (h1 : St d bx rd fe co t bl ms S) (v k w x : Int32) (c : Nat) (hc : c ≤ 20) (hx : x = nI c) (hp : ∀ j, j < c → pwk k (nI j)) : ok (if v ≤ (S 0 4) then (some (0, S)) else (bd1 (gX10_in w 0 (x - 1)) fun r52 => if r52 = 0 then (some (0, S)) else (if (S 0 52) = 30 then (some (0, S)) else (sv S 39 30 (S 0 52) v fun S60 => sv S60 40 30 (S60 0 52) k fun S62 => sv S62 41 30 (S62 0 52) w fun S64 => bnd (wr S64 0 52 ((S64 0 52) + 1)) fun S65 => some (1, S65))))) (fun q => ∃ s' : AB, (q.1, s') = (if v ≤ t then (0, (d, bx, rd, fe, co, t, bl, ms)) else if c ≤ w.toNatClampNeg ∨ w < 0 then (0, (d, bx, rd, fe, co, t, bl, ms)) else (mz_ok ms, (d, bx, rd, fe, co, t, bl, mz_app ms v))) ∧ StA s' q.2) := by
  obtain ⟨⟨⟨e1, b1⟩, ⟨e2, b2⟩, ⟨e3, b3⟩, ⟨e7, b7⟩, ⟨e8, b8⟩, e4, e5, ⟨m, hm, em, eml⟩, hev⟩, hR, hJ⟩ := id h1
  rw [e4]
  refine ok_ite (fun c1 => ok_some ⟨(d, bx, rd, fe, co, t, bl, ms), (if_pos c1).symm, h1⟩) (fun c1 => t_in ?_)
  subst hx
  refine ok_ite (fun c2 => ok_some ⟨(d, bx, rd, fe, co, t, bl, ms), ?_, h1⟩) (fun c2 => ?_)
  · refine ((if_neg c1).trans (if_pos ((pers_iff (by omega)).mpr (fun h9 => (in_sub (by omega)).mpr h9 c2)))).symm
  obtain ⟨j, hj, rfl⟩ := (in_sub (by omega)).mp c2
  have hlen : ms.length = m := by rw [← eml, ml_len]
  have hno : ¬ (c ≤ (nI j).toNatClampNeg ∨ nI j < 0) := fun h9 => (pers_iff (by omega)).mp h9 ⟨j, hj, rfl⟩
  refine ok_ite (fun c3 => ok_some ⟨(d, bx, rd, fe, co, t, bl, ms), ?_, h1⟩) (fun c3 => ?_)
  · have hm30 : m = 30 := nI_inj (by omega) (by omega) (em.symm.trans c3)
    refine Eq.trans ?_ ((if_neg c1).trans (if_neg hno)).symm
    unfold mz_ok mz_app
    rw [hlen, if_neg (by omega), if_neg (by omega)]
  have hm30 : m < 30 := by
    rcases Nat.lt_or_ge m 30 with h9 | h9
    · exact h9
    · exact absurd (em.trans (congrArg nI (show m = 30 by omega))) c3
  refine ok_sv em hm30 (by decide) ?_
  refine ok_sv (j := m) em hm30 (by decide) ?_
  refine ok_sv (j := m) em hm30 (by decide) ?_
  refine ok_bnd (ok_some ⟨(d, bx, rd, fe, co, t, bl, mz_app ms v), ?_, ?_⟩)
  · refine Eq.trans ?_ ((if_neg c1).trans (if_neg hno)).symm
    unfold mz_ok
    rw [hlen, if_pos (by omega)]
  · refine ⟨⟨⟨e1, b1⟩, ⟨e2, b2⟩, ⟨e3, b3⟩, ⟨e7, b7⟩, ⟨e8, b8⟩, e4, e5, ⟨m + 1, by omega, ?_, ?_⟩, hev⟩, hR, J_mis hJ (hp j hj)⟩
    · show S 0 52 + 1 = _
      rw [em, nI_1]
    · show ml (upd (S 39) m v) (m + 1) = mz_app ms v
      unfold mz_app
      rw [ml_put, eml, hlen, if_pos (by omega)]
theorem t_mishap (h : St d bx rd fe co t bl ms S) (v k w : Int32) : ok (gX10_mishap S v k w) (fun q => ∃ s' : AB, (q.1, s') = sp_mishap v k w (d, bx, rd, fe, co, t, bl, ms) ∧ StA s' q.2) := by
  unfold gX10_mishap
  refine ok_bnd ?_
  have h1 := St_n h 0 (k := 0) (Or.inl rfl)
  generalize wr S 0 0 0 = S1 at h1 ⊢
  obtain ⟨⟨⟨e1, b1⟩, ⟨e2, b2⟩, ⟨e3, b3⟩, ⟨e7, b7⟩, ⟨e8, b8⟩, e4, e5, hm, hev⟩, hR, hJ⟩ := id h1
  refine ok_ite (fun c => ?_) (fun c => ?_)
  · subst c
    exact t_mtail h1 v 0 w _ rd b3 e3 (fun j hj => ⟨j, rfl, by omega, fun h9 => absurd h9 (by decide), fun h9 => absurd rfl h9⟩)
  refine ok_ite (fun c2 => ?_) (fun c2 => ?_)
  · subst c2
    exact t_mtail h1 v 1 w _ fe (by omega) e7 (fun j hj => ⟨j, rfl, by omega, fun _ => by omega, fun _ h9 => absurd rfl h9⟩)
  refine ok_ite (fun c3 => ?_) (fun c3 => ?_)
  · subst c3
    exact t_mtail h1 v 2 w _ co (by omega) e8 (fun j hj => ⟨j, rfl, by omega, fun h9 => absurd h9 (by decide), fun _ _ => by omega⟩)
  · refine ok_mono (t_mtail h1 v k w (nI 0) 0 (by omega) rfl (fun j hj => absurd hj (Nat.not_lt_zero j))) (fun q h9 => ?_)
    obtain ⟨s', e', h'⟩ := h9
    refine ⟨s', e'.trans ?_, h'⟩
    unfold sp_mishap
    rw [pcn_3 c c2 c3]
theorem t_isReader (h : St d bx rd fe co t bl ms S) (v : Int32) : ok (gX10_isReader S v) (fun r => ¬ r = 0 ↔ ∃ j, j < rd ∧ v = nI j) := by
  obtain ⟨⟨⟨e1, b1⟩, ⟨e2, b2⟩, ⟨e3, b3⟩, _⟩, _⟩ := id h
  unfold gX10_isReader
  refine t_in (ok_some ?_)
  rw [e3]
  exact in_sub (by omega)
theorem t_isBox (h : St d bx rd fe co t bl ms S) (v : Int32) : ok (gX10_isBox S v) (fun r => ¬ r = 0 ↔ ∃ j, j < bx ∧ v = nI j) := by
  obtain ⟨⟨⟨e1, b1⟩, ⟨e2, b2⟩, _⟩, _⟩ := id h
  unfold gX10_isBox
  refine t_in (ok_some ?_)
  rw [e2]
  exact in_sub (by omega)
theorem t_canPlan (h : St d bx rd fe co t bl ms S) (v : Int32) : ok (gX10_canPlan S v) (fun r => ¬ r = 0 → ∃ j s, j < rd ∧ v = nI j ∧ s < 16 ∧ S 17 j = nI s) := by
  obtain ⟨⟨⟨e1, b1⟩, ⟨e2, b2⟩, ⟨e3, b3⟩, ⟨e7, b7⟩, ⟨e8, b8⟩, e4, e5, hm, hev⟩, hR, hJ⟩ := id h
  unfold gX10_canPlan
  refine ok_bd1 (t_isReader h v) (fun r hr => ok_ite (fun c => ok_some (fun h9 => absurd rfl h9)) (fun c => ?_))
  obtain ⟨j, hj, rfl⟩ := hr.mp c
  obtain ⟨s, q, m, a1, a2, a3, f1, f2, f3⟩ := hR.2.1 j
  refine ok_ld rfl (by omega) (by decide) (fun y ey => ok_ite (fun c2 => ok_some (fun h9 => absurd rfl h9)) (fun c2 => ?_))
  refine ok_ld rfl (by omega) (by decide) (fun y2 ey2 => t_in (ok_ite (fun c3 => ok_some (fun _ => ⟨j, s, hj, rfl, ?_, f1⟩)) (fun c3 => ok_some (fun h9 => absurd rfl h9))))
  rw [ey, f1] at c2
  rcases Nat.lt_or_ge s 16 with h9 | h9
  · exact h9
  · exact absurd (show (nI 16 : Int32) ≤ nI s from nI_le h9 (by omega)) c2
theorem t_plans (h : St d bx rd fe co t bl ms S) {r s : Nat} (hr : r < rd) (hs : s < 16) (e : S 17 r = nI s) (k b a u : Int32) (hb : ixn 40 b) (hk : k = 1 ∨ ∃ b', b' < bx ∧ b = nI b') : ok (gX10_plans S (nI r) k b a u) (fun q => St d bx rd fe co t bl ms q.2) := by
  obtain ⟨⟨⟨e1, b1⟩, ⟨e2, b2⟩, ⟨e3, b3⟩, ⟨e7, b7⟩, ⟨e8, b8⟩, e4, e5, hm, hev⟩, hR, hJ⟩ := id h
  unfold gX10_plans
  refine ok_ld rfl (by omega) (by decide) (fun y ey => ?_)
  obtain rfl := ey.trans e
  have ei : (16 : Int32) * nI r + nI s = nI (16 * r + s) := ix16 r s
  refine ok_sv ei (by omega) (by decide) (ok_sv ei (by omega) (by decide) (ok_sv ei (by omega) (by decide) (ok_sv ei (by omega) (by decide) (ok_ld rfl (by omega) (by decide) (fun y2 ey2 => ok_sv rfl (by omega) (by decide) (ok_some ?_))))))
  have ey2' : y2 = nI s := ey2.trans e
  subst ey2'
  rw [nI_1]
  exact ⟨⟨⟨e1, b1⟩, ⟨e2, b2⟩, ⟨e3, b3⟩, ⟨e7, b7⟩, ⟨e8, b8⟩, e4, e5, hm, hev⟩, R_sp (R_sb hR hb) e hs, J_plan hJ (by omega) hs e hk⟩
theorem t_ask (h : St d bx rd fe co t bl ms S) (r b : Int32) : ok (gX10_ask S r b) (fun q => St d bx rd fe co t bl ms q.2) := by
  unfold gX10_ask
  refine ok_bnd ?_
  have h1 := St_n h 0 (k := 0) (Or.inl rfl)
  generalize wr S 0 0 0 = S1 at h1 ⊢
  have b2 := h1.1.2.1.2
  refine ok_bd1 (t_canPlan h1 r) (fun y hy => ok_ite (fun c => ok_some h1) (fun c => ?_))
  obtain ⟨j, s, hj, rfl, hs, e⟩ := hy c
  refine ok_bd1 (t_isBox h1 b) (fun y2 hy2 => ok_ite (fun c => ok_some h1) (fun c => ?_))
  obtain ⟨b', hb, rfl⟩ := hy2.mp c
  refine ok_bd2 (t_plans h1 hj hs e 0 (nI b') 0 0 ⟨b', by omega, rfl⟩ (Or.inr ⟨b', hb, rfl⟩)) (fun a S2 h2 => ok_ite (fun _ => ok_some h2) (fun _ => ok_some h2))
theorem t_back (h : St d bx rd fe co t bl ms S) (r b : Int32) : ok (gX10_back S r b) (fun q => St d bx rd fe co t bl ms q.2) := by
  unfold gX10_back
  refine ok_bnd ?_
  have h1 := St_n h 0 (k := 0) (Or.inl rfl)
  generalize wr S 0 0 0 = S1 at h1 ⊢
  have b2 := h1.1.2.1.2
  refine ok_bd1 (t_canPlan h1 r) (fun y hy => ok_ite (fun c => ok_some h1) (fun c => ?_))
  obtain ⟨j, s, hj, rfl, hs, e⟩ := hy c
  refine ok_bd1 (t_isBox h1 b) (fun y2 hy2 => ok_ite (fun c => ok_some h1) (fun c => ?_))
  obtain ⟨b', hb, rfl⟩ := hy2.mp c
  refine ok_bd2 (t_plans h1 hj hs e 3 (nI b') 0 0 ⟨b', by omega, rfl⟩ (Or.inr ⟨b', hb, rfl⟩)) (fun a S2 h2 => ok_ite (fun _ => ok_some h2) (fun _ => ok_some h2))
theorem t_copy (h : St d bx rd fe co t bl ms S) (r b p u : Int32) : ok (gX10_copy S r b p u) (fun q => St d bx rd fe co t bl ms q.2) := by
  unfold gX10_copy
  refine ok_bnd ?_
  have h1 := St_n h 0 (k := 0) (Or.inl rfl)
  generalize wr S 0 0 0 = S1 at h1 ⊢
  have b2 := h1.1.2.1.2
  refine ok_bd1 (t_canPlan h1 r) (fun y hy => ok_ite (fun c => ok_some h1) (fun c => ?_))
  obtain ⟨j, s, hj, rfl, hs, e⟩ := hy c
  refine ok_bd1 (t_isBox h1 b) (fun y2 hy2 => ok_ite (fun c => ok_some h1) (fun c => ?_))
  obtain ⟨b', hb, rfl⟩ := hy2.mp c
  refine t_in (ok_ite (fun c => ok_some h1) (fun c => ?_))
  refine ok_bd2 (t_plans h1 hj hs e 2 (nI b') p u ⟨b', by omega, rfl⟩ (Or.inr ⟨b', hb, rfl⟩)) (fun a S2 h2 => ok_ite (fun _ => ok_some h2) (fun _ => ok_some h2))
theorem t_read (h : St d bx rd fe co t bl ms S) (r n : Int32) : ok (gX10_read S r n) (fun q => St d bx rd fe co t bl ms q.2) := by
  unfold gX10_read
  refine ok_bnd ?_
  have h1 := St_n h 0 (k := 0) (Or.inl rfl)
  generalize wr S 0 0 0 = S1 at h1 ⊢
  refine ok_bd1 (t_canPlan h1 r) (fun y hy => ok_ite (fun c => ok_some h1) (fun c => ?_))
  obtain ⟨j, s, hj, rfl, hs, e⟩ := hy c
  refine t_in (ok_ite (fun c => ok_some h1) (fun c => ?_))
  refine ok_bd2 (t_plans h1 hj hs e 1 0 n 0 ⟨0, by omega, rfl⟩ (Or.inl rfl)) (fun a S2 h2 => ok_ite (fun _ => ok_some h2) (fun _ => ok_some h2))
end PUA
