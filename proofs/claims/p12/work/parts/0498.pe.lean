section PUE
variable {d bx rd fe co : Nat} {t bl : Int32} {ms : List Int32} {S : RS}
theorem t_ways {K : RS → Option RS} {Q : RS → Prop} (hK : ∀ S', St d bx rd fe co t bl ms S' → ok (K S') Q) : ∀ (fu j : Nat) (S : RS), St d bx rd fe co t bl ms S → j ≤ fe → fe - j < fu → ok (gX10_doWays_2 K fu (nI j) S) Q := by
  intro fu
  induction fu with
  | zero => intro j S h hj hf; omega
  | succ fu ih =>
    intro j S h hj hf
    rw [gX10_doWays_2, nI_1 j]
    obtain ⟨⟨⟨e1, b1⟩, ⟨e2, b2⟩, ⟨e3, b3⟩, ⟨e7, b7⟩, ⟨e8, b8⟩, e4, e5, hm, hev⟩, hR, hJ⟩ := id h
    refine ok_ite (fun c => hK S h) (fun c => ?_)
    have hj2 : j < fe := nl e7 (by omega) (by omega) c
    have hj4 : j < 4 := by omega
    have go2 := ih (j + 1) S h (by omega) (by omega)
    refine ok_ld rfl hj4 (by decide) (fun y ey => ok_ite (fun cy => ?_) (fun _ => go2))
    have ef : S 30 j = -1 := ey.symm.trans cy
    refine ok_bd1 (t_leftBox h) (fun v hv => ok_ite (fun _ => ?_) (fun cv => ?_))
    · refine ok_bd1 (t_wantedBox h) (fun v2 hv2 => ok_ite (fun _ => go2) (fun cv2 => ?_))
      rcases hv2 with e | ⟨b, hb, rfl, hp⟩
      · exact absurd e cv2
      have hb40 : b < 40 := by omega
      refine ok_sv rfl hb40 (by decide) (ok_sv rfl hj4 (by decide) (ok_ld rfl hb40 (by decide) (fun y2 ey2 => ok_sv rfl hj4 (by decide) (ok_sv rfl hj4 (by decide) (ok_bnd (ih (j + 1) _ ?_ (by omega) (by omega)))))))
      exact ⟨h.1, R_fT (R_fB hR (Or.inr ⟨b, hb40, rfl⟩)) (by rw [show y2 = S 7 b from ey2]; exact hR.2.2.2.1 b), J_way hJ hj4 hb hb40 ef (Or.inr hp) (Or.inl rfl)⟩
    · rcases hv with e | ⟨b, hb, rfl, hp⟩
      · exact absurd e cv
      have hb40 : b < 40 := by omega
      refine ok_ite (fun _ => go2) (fun _ => ok_sv rfl hb40 (by decide) (ok_sv rfl hj4 (by decide) (ok_sv rfl hj4 (by decide) (ok_sv rfl hj4 (by decide) (ok_bnd (ih (j + 1) _ ?_ (by omega) (by omega)))))))
      exact ⟨h.1, R_fT (R_fB hR (Or.inr ⟨b, hb40, rfl⟩)) (Or.inl rfl), J_way hJ hj4 hb hb40 ef (Or.inl hp) (Or.inr rfl)⟩
theorem t_doWays (h : St d bx rd fe co t bl ms S) : ok (gX10_doWays S) (fun S' => St d bx rd fe co t bl ms S') := by
  have b7 := h.1.2.2.2.1.2
  unfold gX10_doWays
  exact t_ways (fun S2 h2 => ok_some h2) 1000 0 S h (by omega) (by omega)
theorem t_cbeg {b j : Nat} (h : St d bx rd fe co t bl ms S) (hb : b < bx) (hj3 : j < 3) (ec : S 33 j = -1) (hp : S 5 b = 5) {β : Type} {K : RS → Option β} {Q : β → Prop} (hK : ∀ S', St d bx rd fe co t bl ms S' → ok (K S') Q) : ok (ld S 11 40 (nI b) fun y17 => if y17 = 0 then (bnd (wr S 0 23 0) fun S20 => sv S20 5 40 (nI b) 6 fun S22 => sv S22 33 3 (nI j) (nI b) fun S24 => ld S24 10 40 (nI b) fun y25 => sv S24 34 3 (nI j) y25 fun S28 => K S28) else (bnd (if ((S 0 23) + 1) < 3 then ((S 0 23) + 1) else 3) fun y29 => bnd (wr S 0 23 y29) fun S30 => sv S30 5 40 (nI b) 6 fun S32 => sv S32 33 3 (nI j) (nI b) fun S34 => ld S34 10 40 (nI b) fun y35 => sv S34 34 3 (nI j) y35 fun S38 => K S38)) Q := by
  have b2 := h.1.2.1.2
  have hb40 : b < 40 := by omega
  have go : ∀ v w, ok (K (wr (wr (wr (wr S 0 23 v) 5 b 6) 33 j (nI b)) 34 j w)) Q := fun v w => hK _ ⟨h.1, R_cB h.2.1 (Or.inr ⟨b, hb40, rfl⟩), J_begin h.2.2 hj3 hb hb40 ec hp⟩
  refine ok_ld rfl hb40 (by decide) (fun y _ => ok_ite (fun _ => ok_bnd ?_) (fun _ => ok_bnd (ok_bnd ?_)))
  · exact ok_sv rfl hb40 (by decide) (ok_sv rfl hj3 (by decide) (ok_ld rfl hb40 (by decide) (fun y2 _ => ok_sv rfl hj3 (by decide) (go _ _))))
  · exact ok_sv rfl hb40 (by decide) (ok_sv rfl hj3 (by decide) (ok_ld rfl hb40 (by decide) (fun y2 _ => ok_sv rfl hj3 (by decide) (go _ _))))
theorem t_copies {K : RS → Option RS} {Q : RS → Prop} (hK : ∀ S', St d bx rd fe co t bl ms S' → ok (K S') Q) : ∀ (fu j : Nat) (S : RS), St d bx rd fe co t bl ms S → j ≤ co → co - j < fu → ok (gX10_doCopies_2 K fu (nI j) S) Q := by
  intro fu
  induction fu with
  | zero => intro j S h hj hf; omega
  | succ fu ih =>
    intro j S h hj hf
    rw [gX10_doCopies_2, nI_1 j]
    have e8 := h.1.2.2.2.2.1.1
    have b8 := h.1.2.2.2.2.1.2
    refine ok_ite (fun c => hK S h) (fun c => ?_)
    have hj2 : j < co := nl e8 (by omega) (by omega) c
    have hj3 : j < 3 := by omega
    have go2 := ih (j + 1) S h (by omega) (by omega)
    refine ok_ld rfl hj3 (by decide) (fun y ey => ok_ite (fun cy => ?_) (fun _ => go2))
    have ec : S 33 j = -1 := ey.symm.trans cy
    refine ok_bd1 (t_copyBox h 1) (fun u hu => ok_bd1 (t_copyBox h 0) (fun v hv => ?_))
    have tail : ∀ x, bxp bx (fun b => S 5 b = 5) x → ¬ x = -1 → ok (ld S 11 40 x fun y17 => if y17 = 0 then (bnd (wr S 0 23 0) fun S20 => sv S20 5 40 x 6 fun S22 => sv S22 33 3 (nI j) x fun S24 => ld S24 10 40 x fun y25 => sv S24 34 3 (nI j) y25 fun S28 => gX10_doCopies_2 K fu (nI (j + 1)) S28) else (bnd (if ((S 0 23) + 1) < 3 then ((S 0 23) + 1) else 3) fun y29 => bnd (wr S 0 23 y29) fun S30 => sv S30 5 40 x 6 fun S32 => sv S32 33 3 (nI j) x fun S34 => ld S34 10 40 x fun y35 => sv S34 34 3 (nI j) y35 fun S38 => gX10_doCopies_2 K fu (nI (j + 1)) S38)) Q := fun x hx cx => by
      rcases hx with e | ⟨b, hb, rfl, hp⟩
      · exact absurd e cx
      exact t_cbeg h hb hj3 ec hp (fun S' h' => ih (j + 1) S' h' (by omega) (by omega))
    refine ok_ite (fun cu => ok_ite (fun _ => go2) (fun cv => tail v hv cv)) (fun cu => ok_ite (fun _ => ok_ite (fun cv => ok_ite (fun _ => go2) (fun _ => tail u hu cu)) (fun cv => ok_ite (fun _ => go2) (fun _ => tail v hv cv))) (fun _ => ok_ite (fun _ => go2) (fun _ => tail u hu cu)))
theorem t_doCopies (h : St d bx rd fe co t bl ms S) : ok (gX10_doCopies S) (fun S' => St d bx rd fe co t bl ms S') := by
  have b8 := h.1.2.2.2.2.1.2
  unfold gX10_doCopies
  exact t_copies (fun S2 h2 => ok_some h2) 1000 0 S h (by omega) (by omega)
theorem t_wait {K : RS → Option RS} {Q : RS → Prop} (hK : ∀ S', St d bx rd fe co t bl ms S' → ok (K S') Q) : ∀ (fu j : Nat) (S : RS), St d bx rd fe co t bl ms S → j ≤ rd → rd - j < fu → ok (gX10_oneTurn_183 K fu (nI j) S) Q := by
  intro fu
  induction fu with
  | zero => intro j S h hj hf; omega
  | succ fu ih =>
    intro j S h hj hf
    rw [gX10_oneTurn_183, nI_1 j]
    have b3 := h.1.2.2.1.2
    refine ok_ite (fun c => hK S h) (fun c => ?_)
    have hj2 : j < rd := nl h.1.2.2.1.1 (by omega) (by omega) c
    have go : ∀ i v, ok (gX10_oneTurn_183 K fu (nI (j + 1)) (wr S 25 i v)) Q := fun i v => ih (j + 1) _ h (by omega) (by omega)
    refine ok_ld rfl (by omega) (by decide) (fun _ _ => ok_ite (fun _ => ?_) (fun _ => ?_))
    · exact ok_ld (ix3 j 0) (by omega) (by decide) (fun _ _ => ok_sv (ix3 j 0) (by omega) (by decide) (go _ _))
    refine ok_ld rfl (by omega) (by decide) (fun _ _ => ok_ite (fun _ => ?_) (fun _ => ?_))
    · exact ok_ld (ix3 j 1) (by omega) (by decide) (fun _ _ => ok_sv (ix3 j 1) (by omega) (by decide) (go _ _))
    refine ok_ld rfl (by omega) (by decide) (fun _ _ => ok_ite (fun _ => ?_) (fun _ => ih (j + 1) S h (by omega) (by omega)))
    exact ok_ld (ix3 j 2) (by omega) (by decide) (fun _ _ => ok_sv (ix3 j 2) (by omega) (by decide) (go _ _))
theorem t_oneTurn (h : St d bx rd fe co t bl ms S) : ok (gX10_oneTurn S) (fun S' => St d bx rd fe co (t + 1) bl (md ms (t + 1)) S') := by
  have b3 := h.1.2.2.1.2
  unfold gX10_oneTurn
  rw [show (0 : Int32) = nI 0 from rfl]
  refine ok_bnd ?_
  have h1 : St d bx rd fe co (t + 1) bl ms (wr S 0 4 (S 0 4 + 1)) := by
    obtain ⟨⟨a1, a2, a3, a4, a5, a6, a7, a8, a9⟩, hR, hJ⟩ := h
    exact ⟨⟨a1, a2, a3, a4, a5, by show S 0 4 + 1 = _; rw [a6], a7, a8, a9⟩, hR, hJ⟩
  refine ok_bd1 (t_doMishaps h1) (fun S2 h2 => ok_bd1 (t_doBell h2) (fun S3 h3 => ok_bd1 (t_doFetchers h3) (fun S4 h4 => ok_bd1 (t_doCopyists h4) (fun S5 h5 => ?_))))
  refine t_reads (fun S6 h6 => ?_) 1000 0 S5 h5 (by omega) (by omega)
  refine t_go84 (fun S7 h7 => ?_) 1000 0 S6 h6 (by omega) (by omega)
  refine t_come (fun S8 h8 => ?_) 1000 0 S7 h7 (by omega) (by omega)
  refine ok_bd1 (t_doDesks h8) (fun S9 h9 => ok_bd1 (t_doWays h9) (fun S10 h10 => ok_bd1 (t_doCopies h10) (fun S11 h11 => ?_)))
  exact t_wait (fun S12 h12 => ok_some h12) 1000 0 S11 h11 (by omega) (by omega)
theorem t_run20 {n : Nat} (hn : n ≤ 200) {s : AB} {K : RS → Option (Int32 × RS)} {Q : Int32 × RS → Prop} (hK : ∀ S', StA (ticks n s) S' → ok (K S') Q) : ∀ (fu j : Nat) (S : RS), StA (ticks j s) S → j ≤ n → n - j < fu → ok (gX10_run_20 K fu (nI n) (nI j) S) Q := by
  intro fu
  induction fu with
  | zero => intro j S h hj hf; omega
  | succ fu ih =>
    intro j S h hj hf
    rw [gX10_run_20, nI_1 j]
    refine ok_ite (fun c => ?_) (fun c => ?_)
    · rw [nI_leI (by omega) (by omega)] at c
      obtain rfl : j = n := by omega
      exact hK S h
    · have hj2 : j < n := nl rfl (by omega) (by omega) c
      exact ok_bd1 (t_oneTurn h) (fun S' h' => ih (j + 1) S' h' (by omega) (by omega))
theorem t_run (h : St d bx rd fe co t bl ms S) (v : Int32) : ok (gX10_run S v) (fun q => ∃ s' : AB, (q.1, s') = sp_run v (d, bx, rd, fe, co, t, bl, ms) ∧ StA s' q.2) := by
  unfold gX10_run
  refine ok_bnd ?_
  have h1 := St_n h 0 (k := 0) (Or.inl rfl)
  generalize wr S 0 0 0 = S1 at h1 ⊢
  refine t_in (ok_ite (fun c => ok_some ⟨(d, bx, rd, fe, co, t, bl, ms), ?_, h1⟩) (fun c => ?_))
  · unfold sp_run
    exact (if_pos c).symm
  obtain ⟨n, hn0, hn, rfl⟩ := in_nI (a := 0) (b := 200) rfl rfl (by decide) c (by decide)
  refine t_run20 (s := (d, bx, rd, fe, co, t, bl, ms)) hn (fun S2 h2 => ok_some ⟨_, ?_, h2⟩) 1000 0 S1 h1 (by omega) (by omega)
  unfold sp_run
  rw [if_neg c, nI_clamp (by omega)]
  have e4 := h2.1.2.2.2.2.2.1
  show (S2 0 4, _) = _
  rw [e4]
end PUE
