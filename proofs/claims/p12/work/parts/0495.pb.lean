section PUB
variable {d bx rd fe co : Nat} {t bl : Int32} {ms : List Int32} {S : RS}
theorem t_ev (h : St d bx rd fe co t bl ms S) (a b c x : Int32) : ok (gX10_event S a b c x) (fun S' => St d bx rd fe co t bl ms S' ∧ (∀ k, k ≠ 0 → k ≠ 35 → k ≠ 36 → k ≠ 37 → k ≠ 38 → S' k = S k) ∧ ∀ j, j ≠ 47 → S' 0 j = S 0 j) := by
  obtain ⟨⟨⟨e1, b1⟩, ⟨e2, b2⟩, ⟨e3, b3⟩, ⟨e7, b7⟩, ⟨e8, b8⟩, e4, e5, hm, ⟨ev, hev, eev⟩⟩, hR, hJ⟩ := id h
  unfold gX10_event
  refine ok_ite (fun c9 => ok_some ⟨h, fun _ _ _ _ _ _ => rfl, fun _ _ => rfl⟩) (fun c9 => ?_)
  have hl : ev < 400 := by
    rcases Nat.lt_or_ge ev 400 with h9 | h9
    · exact h9
    · exact absurd (eev.trans (congrArg nI (show ev = 400 by omega))) c9
  refine ok_sv eev hl (by decide) ?_
  refine ok_sv (j := ev) eev hl (by decide) ?_
  refine ok_sv (j := ev) eev hl (by decide) ?_
  refine ok_sv (j := ev) eev hl (by decide) ?_
  refine ok_bnd (ok_some ⟨?_, ?_, ?_⟩)
  · exact ⟨⟨⟨e1, b1⟩, ⟨e2, b2⟩, ⟨e3, b3⟩, ⟨e7, b7⟩, ⟨e8, b8⟩, e4, e5, hm, ⟨ev + 1, by omega, by show S 0 47 + 1 = _; rw [eev, nI_1]⟩⟩, hR, hJ⟩
  · intro k k0 k35 k36 k37 k38
    rw [wr_n _ _ _ _ k0, wr_n _ _ _ _ k38, wr_n _ _ _ _ k37, wr_n _ _ _ _ k36, wr_n _ _ _ _ k35]
  · intro j hj
    rw [wr_s]
    exact (pk_un hj)
theorem t_left {β : Type} {b : Nat} (hb : b < 40) {K : RS → Option β} {Q : β → Prop} (h : ok (K (wr (wr S 5 b 2) 6 b (-1))) Q) : ok (bd1 (gX10_isLeft S (nI b)) K) Q := by
  unfold gX10_isLeft
  rw [sv_nI rfl hb (by decide), sv_nI rfl hb (by decide)]
  exact h
/-- a reader's desk is free -/
def fd (S : RS) (r : Nat) : RS := if S 16 r = -1 then wr S 16 r (-1) else wr (wr S 2 (S 16 r).toNatClampNeg (-1)) 16 r (-1)
theorem t_free {β : Type} {r : Nat} (hr : r < 20) (ho : oi 12 (S 16 r)) {K : RS → Option β} {Q : β → Prop} (h : ok (K (fd S r)) Q) : ok (bd1 (gX10_freeDesk S (nI r)) K) Q := by
  unfold gX10_freeDesk
  unfold fd at h
  rw [ld_nI rfl hr (by decide)]
  by_cases c : S 16 r = -1
  · rw [if_pos c] at h ⊢
    rw [sv_nI rfl hr (by decide)]
    exact h
  · rw [if_neg c] at h ⊢
    rcases ho with e | ⟨j, hj, e⟩
    · exact absurd e c
    rw [e, nI_clamp (by omega)] at h
    rw [ld_nI rfl hr (by decide), sv_nI e hj (by decide), sv_nI rfl hr (by decide)]
    exact h
theorem fd_row (S : RS) (r k : Nat) (h2 : k ≠ 2) (h16 : k ≠ 16) : fd S r k = S k := by
  unfold fd
  split
  · rw [wr_n _ _ _ _ h16]
  · rw [wr_n _ _ _ _ h16, wr_n _ _ _ _ h2]
theorem fd_16 (S : RS) (r : Nat) : fd S r 16 = upd (S 16) r (-1) := by
  unfold fd
  split
  · rw [wr_s]
  · rw [wr_s, wr_n _ _ _ _ (by decide)]
/-- what is left behind by one that is sent away (j: boxes from j on) -/
def aw (bx r j : Nat) (S : RS) : RS := fun k b => if j ≤ b ∧ b < bx then (if k = 7 then (if S 7 b = nI r then -1 else S 7 b) else if k = 6 then (if S 6 b = nI r then -1 else S 6 b) else if k = 5 then (if S 6 b = nI r ∧ ¬ S 5 b = 6 then 2 else S 5 b) else S k b) else S k b
def aw1 (r j : Nat) (S : RS) : RS := fun k b => if b = j then (if k = 7 then (if S 7 b = nI r then -1 else S 7 b) else if k = 6 then (if S 6 b = nI r then -1 else S 6 b) else if k = 5 then (if S 6 b = nI r ∧ ¬ S 5 b = 6 then 2 else S 5 b) else S k b) else S k b
theorem aw_end (bx r : Nat) (S : RS) : aw bx r bx S = S := by
  funext k b
  unfold aw
  rw [if_neg (by omega)]
theorem aw_next (bx r j : Nat) (S : RS) (hj : j < bx) : aw bx r (j + 1) (aw1 r j S) = aw bx r j S := by
  funext k b
  unfold aw aw1
  grind
theorem aw_loop {β : Type} {r : Nat} {v : Int32} {K : Int32 → Int32 → RS → Option RS} {Q : RS → Prop} : ∀ (fu j : Nat) (S : RS), S 0 2 = nI bx → bx ≤ 40 → j ≤ bx → bx - j < fu → ok (K (nI r) v (aw bx r j S)) Q → ok (gX10_sentAway_2 K fu (nI r) v (nI j) S) Q := by
  intro fu
  induction fu with
  | zero => intro j S e hb hj hf hk; omega
  | succ fu ih =>
    intro j S e hb hj hf hk
    rw [gX10_sentAway_2, nI_1 j]
    refine ok_ite (fun c => ?_) (fun c => ?_)
    · rcases Nat.lt_or_ge j bx with h9 | h9
      · rw [e] at c
        exact absurd c (nI_ge h9 (by omega))
      · obtain rfl : j = bx := by omega
        rwa [aw_end] at hk
    have hj2 : j < bx := nl e (by omega) (by omega) c
    rw [← aw_next bx r j S hj2] at hk
    have go : ∀ S1, S1 = aw1 r j S → S1 0 2 = nI bx → ok (gX10_sentAway_2 K fu (nI r) v (nI (j + 1)) S1) Q := fun S1 e1 e0 => ih (j + 1) S1 e0 hb (by omega) (by omega) (by rw [e1]; exact hk)
    refine ok_ld rfl (by omega) (by decide) (fun y7 e7 => ok_ite (fun c7 => ?_) (fun c7 => ?_))
    · refine ok_sv rfl (by omega) (by decide) (ok_ld rfl (by omega) (by decide) (fun y6 e6 => ok_ite (fun c6 => ?_) (fun c6 => ?_)))
      · refine ok_ld rfl (by omega) (by decide) (fun y5 e5 => ok_ite (fun c5 => ?_) (fun c5 => ?_))
        · refine ok_sv rfl (by omega) (by decide) (go _ ?_ e)
          funext k b
          have e6' : y6 = S 6 j := e6
          have e5' : y5 = S 5 j := e5
          simp only [wr_ap, aw1]
          grind
        · refine t_left (by omega) (go _ ?_ e)
          funext k b
          have e6' : y6 = S 6 j := e6
          have e5' : y5 = S 5 j := e5
          simp only [wr_ap, aw1]
          grind
      · refine go _ ?_ e
        funext k b
        have e6' : y6 = S 6 j := e6
        simp only [wr_ap, aw1]
        grind
    · refine ok_ld rfl (by omega) (by decide) (fun y6 e6 => ok_ite (fun c6 => ?_) (fun c6 => ?_))
      · refine ok_ld rfl (by omega) (by decide) (fun y5 e5 => ok_ite (fun c5 => ?_) (fun c5 => ?_))
        · refine ok_sv rfl (by omega) (by decide) (go _ ?_ e)
          funext k b
          simp only [wr_ap, aw1]
          grind
        · refine t_left (by omega) (go _ ?_ e)
          funext k b
          simp only [wr_ap, aw1]
          grind
      · refine go _ ?_ e
        funext k b
        simp only [aw1]
        grind
theorem R_gone {dk sp nx rf sb tk hs fB fT cB ln tk' hs' : Nat → Int32} (h : R0 dk sp nx rf sb tk hs fB fT cB ln) (r : Nat) (e7 : ∀ i, tk' i = tk i ∨ tk' i = -1) (e6 : ∀ i, hs' i = hs i ∨ hs' i = -1) : R0 (upd dk r (-1)) sp nx rf sb tk' hs' fB fT cB ln := by
  obtain ⟨r1, r2, r3, r4, r5, r6⟩ := R_dk h (i := r) (v := -1) (Or.inl rfl)
  refine ⟨r1, r2, r3, fun i => ?_, fun i => ?_, r6⟩
  · rcases e7 i with e | e
    · rw [e]; exact r4 i
    · exact Or.inl e
  · rcases e6 i with e | e
    · rw [e]; exact r5 i
    · exact Or.inl e
/-- the state behind one that went: rows 5, 6, 7 told, its desk free, its state set -/
theorem St_gone (h : St d bx rd fe co t bl ms S) {S2 : RS} {r : Nat} {v : Int32} (hr : r < rd) (hv : ¬ (v = 2 ∨ v = 3 ∨ v = 4 ∨ v = 8))
    (hrow : ∀ k, k ≠ 2 ∧ k ≠ 5 ∧ k ≠ 6 ∧ k ≠ 7 ∧ k ≠ 16 ∧ k ≠ 19 → S2 k = S k) (h16 : S2 16 = upd (S 16) r (-1)) (e7 : ∀ i, S2 7 i = S 7 i ∨ S2 7 i = -1) (e6 : ∀ i, S2 6 i = S 6 i ∨ S2 6 i = -1)
    (f7 : ∀ b, b < bx → S2 7 b = if S 7 b = nI r then -1 else S 7 b) (f6 : ∀ b, b < bx → S2 6 b = if S 6 b = nI r then -1 else S 6 b) (f5 : ∀ b, b < bx → S2 5 b = if S 6 b = nI r ∧ ¬ S 5 b = 6 then 2 else S 5 b) : St d bx rd fe co t bl ms (wr S2 15 r v) := by
  obtain ⟨hS, hR, hJ⟩ := h
  have b2 := hS.2.1.2
  have b3 := hS.2.2.1.2
  show Sc d bx rd fe co t bl ms (S2 0) (S2 39) ∧ R0 (S2 16) (S2 17) (S2 18) (S2 23) (S2 27) (S2 7) (S2 6) (S2 30) (S2 32) (S2 33) (S2 42) ∧ J0 bx rd (S2 5) (S2 6) (S2 7) (upd (S2 15) r v) (S2 16) (S2 17) (S2 26) (S2 27) (S2 30) (S2 33) (S2 40) (S2 41)
  rw [hrow 0 (by decide), hrow 39 (by decide), hrow 17 (by decide), hrow 18 (by decide), hrow 23 (by decide), hrow 27 (by decide), hrow 30 (by decide), hrow 32 (by decide), hrow 33 (by decide), hrow 42 (by decide), hrow 15 (by decide), hrow 26 (by decide), hrow 40 (by decide), hrow 41 (by decide), h16]
  exact ⟨hS, R_gone hR r e7 e6, J_gone hJ hr (by omega) b2 hv f7 f6 f5⟩
theorem aw_row (bx r j : Nat) (S : RS) (k : Nat) (h : k ≠ 5 ∧ k ≠ 6 ∧ k ≠ 7) : aw bx r j S k = S k := by
  funext b
  unfold aw
  rw [if_neg h.2.2, if_neg h.2.1, if_neg h.1]
  split <;> rfl
theorem t_away (h : St d bx rd fe co t bl ms S) {r : Nat} (hr : r < rd) {v : Int32} (hv : ¬ (v = 2 ∨ v = 3 ∨ v = 4 ∨ v = 8)) : ok (gX10_sentAway S (nI r) v) (fun S' => St d bx rd fe co t bl ms S') := by
  obtain ⟨⟨⟨e1, b1⟩, ⟨e2, b2⟩, ⟨e3, b3⟩, ⟨e7, b7⟩, ⟨e8, b8⟩, e4, e5, hm, hev⟩, hR, hJ⟩ := id h
  unfold gX10_sentAway
  refine aw_loop (β := Nat) (bx := bx) 1000 0 S e2 b2 (by omega) (by omega) ?_
  have hA16 : aw bx r 0 S 16 = S 16 := aw_row _ _ _ _ _ (by decide)
  refine t_free (by omega) (by rw [hA16]; exact hR.1 r) ?_
  refine ok_sv rfl (by omega) (by decide) (ok_sv rfl (by omega) (by decide) ?_)
  have hs : St d bx rd fe co t bl ms (wr (wr (fd (aw bx r 0 S) r) 19 r 0) 15 r v) := by
    refine St_gone h hr hv (fun k hk => ?_) ?_ (fun i => ?_) (fun i => ?_) (fun b hb => ?_) (fun b hb => ?_) (fun b hb => ?_)
    · rw [wr_n _ _ _ _ hk.2.2.2.2.2, fd_row _ _ _ hk.1 hk.2.2.2.2.1, aw_row _ _ _ _ _ ⟨hk.2.1, hk.2.2.1, hk.2.2.2.1⟩]
    · rw [wr_n _ _ _ _ (by decide), fd_16, hA16]
    · rw [wr_n _ _ _ _ (by decide), fd_row _ _ _ (by decide) (by decide)]
      unfold aw
      grind
    · rw [wr_n _ _ _ _ (by decide), fd_row _ _ _ (by decide) (by decide)]
      unfold aw
      grind
    · rw [wr_n _ _ _ _ (by decide), fd_row _ _ _ (by decide) (by decide)]
      unfold aw
      rw [if_pos ⟨by omega, hb⟩, if_pos rfl]
    · rw [wr_n _ _ _ _ (by decide), fd_row _ _ _ (by decide) (by decide)]
      unfold aw
      rw [if_pos ⟨by omega, hb⟩, if_neg (by decide), if_pos rfl]
    · rw [wr_n _ _ _ _ (by decide), fd_row _ _ _ (by decide) (by decide)]
      unfold aw
      rw [if_pos ⟨by omega, hb⟩, if_neg (by decide), if_neg (by decide), if_pos rfl]
  exact ok_bd1 (t_ev hs _ _ _ _) (fun S' h' => ok_some h'.1)
theorem t_isHere {r : Nat} (hr : r < 20) : ok (gX10_isHere S (nI r)) (fun y => ¬ y = 0 → ¬ S 15 r = 0) := by
  unfold gX10_isHere
  refine ok_ld rfl hr (by decide) (fun y ey => t_in (ok_ite (fun c => ok_ld rfl hr (by decide) (fun y2 e2 => ok_ite (fun c2 => ok_some (fun _ h9 => ?_)) (fun c2 => ok_some (fun h9 => absurd rfl h9)))) (fun c => ok_some (fun _ h9 => ?_))))
  · rw [e2, h9] at c2
    exact absurd c2 (by decide)
  · rw [ey, h9] at c
    exact absurd (show sp_in 0 1 4 = 0 by decide) c
theorem t_mof (h : St d bx rd fe co t bl ms S) {k w : Int32} (hp : pwk k w) : ok (gX10_mishapOf S k w) (fun S' => St d bx rd fe co t bl ms S') := by
  obtain ⟨⟨⟨e1, b1⟩, ⟨e2, b2⟩, ⟨e3, b3⟩, ⟨e7, b7⟩, ⟨e8, b8⟩, e4, e5, hm, hev⟩, hR, hJ⟩ := id h
  obtain ⟨j, rfl, hj, hj1, hj2⟩ := hp
  unfold gX10_mishapOf
  refine ok_ite (fun c => ?_) (fun c => ok_ite (fun c2 => ?_) (fun c2 => ?_))
  · refine ok_bd1 (t_isHere hj) (fun y hy => ok_ite (fun _ => ok_some h) (fun cy => ?_))
    have hr : j < rd := by
      rcases Nat.lt_or_ge j rd with h9 | h9
      · exact h9
      · exact absurd (hJ.1 j h9) (hy cy)
    exact ok_bd1 (t_away h hr (by decide)) (fun S' h' => ok_some h')
  · have hj4 := hj1 c2
    refine ok_ld rfl hj4 (by decide) (fun y ey => ok_ite (fun _ => ok_some h) (fun cy => ?_))
    rcases hR.2.2.2.2.2.1 j with e | ⟨b, hb, e⟩
    · exact absurd (ey.trans e) cy
    obtain rfl := ey.trans e
    refine ok_ld rfl hj4 (by decide) (fun y2 ey2 => ok_ite (fun _ => ?_) (fun _ => ?_))
    · refine ok_sv rfl hb (by decide) (ok_sv rfl hj4 (by decide) (ok_some ⟨⟨⟨e1, b1⟩, ⟨e2, b2⟩, ⟨e3, b3⟩, ⟨e7, b7⟩, ⟨e8, b8⟩, e4, e5, hm, hev⟩, R_fB hR (Or.inl rfl), J_stopF hJ hj4 hb e⟩))
    · refine ok_sv rfl hb (by decide) (ok_sv rfl hj4 (by decide) (ok_some ⟨⟨⟨e1, b1⟩, ⟨e2, b2⟩, ⟨e3, b3⟩, ⟨e7, b7⟩, ⟨e8, b8⟩, e4, e5, hm, hev⟩, R_fB hR (Or.inl rfl), J_stopF hJ hj4 hb e⟩))
  · have hj3 := hj2 c c2
    refine ok_ld rfl hj3 (by decide) (fun y ey => ok_ite (fun _ => ok_some h) (fun cy => ?_))
    rcases hR.2.2.2.2.2.2.2.1 j with e | ⟨b, hb, e⟩
    · exact absurd (ey.trans e) cy
    obtain rfl := ey.trans e
    refine ok_ld rfl hb (by decide) (fun y2 ey2 => ok_ite (fun cy2 => ?_) (fun cy2 => ?_))
    · refine ok_sv rfl hb (by decide) (ok_sv rfl hj3 (by decide) (ok_some ⟨⟨⟨e1, b1⟩, ⟨e2, b2⟩, ⟨e3, b3⟩, ⟨e7, b7⟩, ⟨e8, b8⟩, e4, e5, hm, hev⟩, R_cB hR (Or.inl rfl), J_stopC hJ hj3 hb e (Or.inr (ey2.symm.trans cy2))⟩))
    · refine ok_sv rfl hb (by decide) (ok_sv rfl hj3 (by decide) (ok_some ⟨⟨⟨e1, b1⟩, ⟨e2, b2⟩, ⟨e3, b3⟩, ⟨e7, b7⟩, ⟨e8, b8⟩, e4, e5, hm, hev⟩, R_cB hR (Or.inl rfl), J_stopC hJ hj3 hb e (Or.inl rfl)⟩))
theorem St_ms {ms' : List Int32} (h : St d bx rd fe co t bl ms S) {m : Nat} (hm : m ≤ 30) (e : S 0 52 = nI m) (e2 : ml (S 39) m = ms') : St d bx rd fe co t bl ms' S := by
  obtain ⟨⟨a1, a2, a3, a4, a5, a6, a7, a8, a9⟩, hR, hJ⟩ := h
  exact ⟨⟨a1, a2, a3, a4, a5, a6, a7, ⟨m, hm, e, e2⟩, a9⟩, hR, hJ⟩
theorem t_dm {m : Nat} (hm : m ≤ 30) {mt : Nat → Int32} {K : Int32 → RS → Option RS} {Q : RS → Prop} (hK : ∀ (kq : Nat) (S' : RS) (ms' : List Int32), kq ≤ m → St d bx rd fe co t bl ms' S' → S' 0 52 = nI m → ml (S' 39) kq = md (ml mt m) t → ok (K (nI kq) S') Q) : ∀ (fu j kq : Nat) (S : RS) (ms1 : List Int32), St d bx rd fe co t bl ms1 S → S 0 52 = nI m → kq ≤ j → j ≤ m → ml (S 39) kq = md (ml mt j) t → (∀ i, j ≤ i → i < m → S 39 i = mt i) → m - j < fu → ok (gX10_doMishaps_4 K fu (nI kq) (nI j) S) Q := by
  intro fu
  induction fu with
  | zero => intro j kq S ms1 h e hk hj hml hrs hf; omega
  | succ fu ih =>
    intro j kq S ms1 h e hk hj hml hrs hf
    rw [gX10_doMishaps_4, nI_1 j, nI_1 kq]
    obtain ⟨⟨⟨e1, b1⟩, ⟨e2, b2⟩, ⟨e3, b3⟩, ⟨e7, b7⟩, ⟨e8, b8⟩, e4, e5, ⟨m', hm', em', eml'⟩, hev⟩, hR, hJ⟩ := id h
    refine ok_ite (fun c => ?_) (fun c => ?_)
    · rcases Nat.lt_or_ge j m with h9 | h9
      · rw [e] at c
        exact absurd c (nI_ge h9 (by omega))
      · obtain rfl : j = m := by omega
        exact hK kq S ms1 hk h e hml
    have hj2 : j < m := nl e (by omega) (by omega) c
    have hmt := hrs j (Nat.le_refl _) hj2
    refine ok_ld rfl (by omega) (by decide) (fun y ey => ok_ite (fun cy => ?_) (fun cy => ?_))
    · refine ok_ld rfl (by omega) (by decide) (fun yk ek => ok_ld rfl (by omega) (by decide) (fun yw ew => ?_))
      have hp : pwk yk yw := by rw [ek, ew]; exact hJ.2.2.2.2.2.2.2.2.2.2.2 j
      refine ok_bd1 (t_mof h hp) (fun S2 h2 => ?_)
      obtain ⟨m2, hm2, em2, eml2⟩ := h2.1.2.2.2.2.2.2.2.1
      have hmm : m' = m := nI_inj (by omega) (by omega) (em'.symm.trans e)
      subst hmm
      obtain ⟨q1, q2⟩ := ml_get (eml'.trans eml2.symm)
      subst q1
      refine ih (j + 1) kq S2 ms1 h2 em2 (by omega) (by omega) ?_ (fun i hi hi2 => ?_) (by omega)
      · rw [md_e mt j t (by rw [← hmt, ← ey, cy]; exact e4), ← hml]
        unfold ml
        exact List.map_congr_left (fun i hi => (q2 i (by have := List.mem_range.mp hi; omega)).symm)
      · rw [← q2 i hi2]
        exact hrs i (by omega) hi2
    · have hne : ¬ mt j = t := fun h9 => cy (by rw [ey, hmt, h9]; exact e4.symm)
      refine ok_ld rfl (by omega) (by decide) (fun y2 ey2 => ok_sv rfl (by omega) (by decide) (ok_ld rfl (by omega) (by decide) (fun y3 ey3 => ok_sv rfl (by omega) (by decide) (ok_ld rfl (by omega) (by decide) (fun y4 ey4 => ok_sv rfl (by omega) (by decide) ?_)))))
      have hp : pwk y3 y4 := by
        have a3 : y3 = S 40 j := ey3
        have a4 : y4 = S 41 j := ey4
        rw [a3, a4]; exact hJ.2.2.2.2.2.2.2.2.2.2.2 j
      refine ih (j + 1) (kq + 1) _ (ml (upd (S 39) kq y2) m) ⟨⟨⟨e1, b1⟩, ⟨e2, b2⟩, ⟨e3, b3⟩, ⟨e7, b7⟩, ⟨e8, b8⟩, e4, e5, ⟨m, hm, e, rfl⟩, hev⟩, hR, J_mis hJ hp⟩ e (by omega) (by omega) ?_ (fun i hi hi2 => ?_) (by omega)
      · show ml (upd (S 39) kq y2) (kq + 1) = _
        rw [ml_put, hml, md_n mt j t hne, ey2, hmt]
      · show upd (S 39) kq y2 i = mt i
        rw [pk_un (by omega)]
        exact hrs i (by omega) hi2
theorem t_doMishaps (h : St d bx rd fe co t bl ms S) : ok (gX10_doMishaps S) (fun S' => St d bx rd fe co t bl (md ms t) S') := by
  obtain ⟨m, hm, em, eml⟩ := h.1.2.2.2.2.2.2.2.1
  unfold gX10_doMishaps
  refine t_dm (d := d) (bx := bx) (rd := rd) (fe := fe) (co := co) (t := t) (bl := bl) (m := m) hm (mt := S 39) (fun kq S' ms' hk h' e' hml => ?_) 1000 0 0 S ms h em (by omega) (by omega) rfl (fun _ _ _ => rfl) (by omega)
  refine ok_bnd (ok_some ?_)
  obtain ⟨⟨a1, a2, a3, a4, a5, a6, a7, a8, a9⟩, hR, hJ⟩ := h'
  exact ⟨⟨a1, a2, a3, a4, a5, a6, a7, ⟨kq, by omega, rfl, by rw [← eml]; exact hml⟩, a9⟩, hR, hJ⟩
theorem t_bell1 {K : RS → Option RS} {Q : RS → Prop} (hK : ∀ S', St d bx rd fe co t bl ms S' → ok (K S') Q) : ∀ (fu j : Nat) (S : RS), St d bx rd fe co t bl ms S → j ≤ rd → rd - j < fu → ok (gX10_doBell_14 K fu (nI j) S) Q := by
  intro fu
  induction fu with
  | zero => intro j S h hj hf; omega
  | succ fu ih =>
    intro j S h hj hf
    rw [gX10_doBell_14, nI_1 j]
    obtain ⟨⟨⟨e1, b1⟩, ⟨e2, b2⟩, ⟨e3, b3⟩, ⟨e7, b7⟩, ⟨e8, b8⟩, e4, e5, hm, hev⟩, hR, hJ⟩ := id h
    refine ok_ite (fun c => hK S h) (fun c => ?_)
    have hj2 : j < rd := nl e3 (by omega) (by omega) c
    refine ok_ld rfl (by omega) (by decide) (fun y ey => ok_ite (fun cy => ?_) (fun cy => ?_))
    · refine ok_sv rfl (by omega) (by decide) ?_
      have h2 : St d bx rd fe co t bl ms (wr S 15 j 6) := ⟨⟨⟨e1, b1⟩, ⟨e2, b2⟩, ⟨e3, b3⟩, ⟨e7, b7⟩, ⟨e8, b8⟩, e4, e5, hm, hev⟩, hR, J_state hJ hj2 (by rw [← ey, cy]; decide) (by rw [← ey, cy]; decide) (fun h9 => absurd h9 (by decide)) (by decide) (by decide)⟩
      exact ok_bd1 (t_ev h2 _ _ _ _) (fun S' h' => ih (j + 1) S' h'.1 (by omega) (by omega))
    · refine ok_bd1 (t_isHere (by omega)) (fun y2 hy2 => ok_ite (fun _ => ih (j + 1) S h (by omega) (by omega)) (fun _ => ?_))
      exact ok_bd1 (t_away h hj2 (by decide)) (fun S' h' => ih (j + 1) S' h' (by omega) (by omega))
theorem t_bell2 {K : RS → Option RS} {Q : RS → Prop} (hK : ∀ S', St d bx rd fe co t bl ms S' → ok (K S') Q) : ∀ (fu j : Nat) (S : RS), St d bx rd fe co t bl ms S → j ≤ fe → fe - j < fu → ok (gX10_doBell_75 K fu (nI j) S) Q := by
  intro fu
  induction fu with
  | zero => intro j S h hj hf; omega
  | succ fu ih =>
    intro j S h hj hf
    rw [gX10_doBell_75, nI_1 j]
    obtain ⟨⟨⟨e1, b1⟩, ⟨e2, b2⟩, ⟨e3, b3⟩, ⟨e7, b7⟩, ⟨e8, b8⟩, e4, e5, hm, hev⟩, hR, hJ⟩ := id h
    refine ok_ite (fun c => hK S h) (fun c => ?_)
    have hj2 : j < fe := nl e7 (by omega) (by omega) c
    refine ok_ld rfl (by omega) (by decide) (fun y ey => ok_ite (fun _ => ih (j + 1) S h (by omega) (by omega)) (fun cy => ?_))
    refine ok_ld rfl (by omega) (by decide) (fun y2 ey2 => ok_ite (fun _ => ih (j + 1) S h (by omega) (by omega)) (fun cy2 => ?_))
    refine ok_ld rfl (by omega) (by decide) (fun y3 ey3 => ?_)
    rcases hR.2.2.2.2.2.1 j with e | ⟨b, hb, e⟩
    · exact absurd (ey.trans e) cy
    obtain rfl := ey3.trans e
    exact ok_sv rfl hb (by decide) (ok_sv rfl (by omega) (by decide) (ih (j + 1) _ ⟨⟨⟨e1, b1⟩, ⟨e2, b2⟩, ⟨e3, b3⟩, ⟨e7, b7⟩, ⟨e8, b8⟩, e4, e5, hm, hev⟩, R_fB hR (Or.inl rfl), J_stopF hJ (by omega) hb e⟩ (by omega) (by omega)))
theorem t_doBell (h : St d bx rd fe co t bl ms S) : ok (gX10_doBell S) (fun S' => St d bx rd fe co t bl ms S') := by
  have b3 := h.1.2.2.1.2
  have b7 := h.1.2.2.2.1.2
  unfold gX10_doBell
  rw [show (0 : Int32) = nI 0 from rfl]
  exact ok_ite (fun _ => t_bell1 (fun S1 h1 => t_bell2 (fun S2 h2 => ok_some h2) 1000 0 S1 h1 (by omega) (by omega)) 1000 0 S h (by omega) (by omega)) (fun _ => ok_some h)
theorem t_fetch {K : RS → Option RS} {Q : RS → Prop} (hK : ∀ S', St d bx rd fe co t bl ms S' → ok (K S') Q) : ∀ (fu j : Nat) (S : RS), St d bx rd fe co t bl ms S → j ≤ fe → fe - j < fu → ok (gX10_doFetchers_2 K fu (nI j) S) Q := by
  intro fu
  induction fu with
  | zero => intro j S h hj hf; omega
  | succ fu ih =>
    intro j S h hj hf
    rw [gX10_doFetchers_2, nI_1 j]
    obtain ⟨⟨⟨e1, b1⟩, ⟨e2, b2⟩, ⟨e3, b3⟩, ⟨e7, b7⟩, ⟨e8, b8⟩, e4, e5, hm, hev⟩, hR, hJ⟩ := id h
    refine ok_ite (fun c => hK S h) (fun c => ?_)
    have hj2 : j < fe := nl e7 (by omega) (by omega) c
    have hj4 : j < 4 := by omega
    refine ok_ld rfl hj4 (by decide) (fun y ey => ok_ld rfl hj4 (by decide) (fun yr er => ok_ite (fun _ => ih (j + 1) S h (by omega) (by omega)) (fun cy => ?_)))
    rcases hR.2.2.2.2.2.1 j with e | ⟨b, hb, e⟩
    · exact absurd (ey.trans e) cy
    obtain rfl := ey.trans e
    refine ok_ld rfl hj4 (by decide) (fun y3 ey3 => ok_sv rfl hj4 (by decide) (ok_ld rfl hj4 (by decide) (fun y4 ey4 => ok_ite (fun _ => ?_) (fun _ => ih (j + 1) _ h (by omega) (by omega)))))
    refine ok_sv rfl hj4 (by decide) (ok_ite (fun cr => ?_) (fun cr => ?_))
    · refine ok_sv rfl hb (by decide) ?_
      have h2 : St d bx rd fe co t bl ms (wr (wr (wr S 31 j (y3 - 1)) 30 j (-1)) 5 b 0) := ⟨⟨⟨e1, b1⟩, ⟨e2, b2⟩, ⟨e3, b3⟩, ⟨e7, b7⟩, ⟨e8, b8⟩, e4, e5, hm, hev⟩, R_fB hR (Or.inl rfl), J_stopF hJ hj4 hb e⟩
      exact ok_bd1 (t_ev h2 _ _ _ _) (fun S' h' => ih (j + 1) S' h'.1 (by omega) (by omega))
    · refine ok_ld rfl hb (by decide) (fun y5 ey5 => ok_ite (fun c5 => ?_) (fun c5 => ?_))
      · rcases hR.2.2.2.2.2.2.1 j with e' | ⟨r, hr, e'⟩
        · exact absurd (er.trans e') cr
        obtain rfl := er.trans e'
        have e2' : S 7 b = nI r := (show y5 = S 7 b from ey5).symm.trans c5
        refine ok_sv rfl hb (by decide) (ok_sv rfl hb (by decide) (ok_sv rfl hb (by decide) (ok_sv rfl hr (by decide) ?_)))
        have h2 : St d bx rd fe co t bl ms (wr (wr (wr (wr (wr (wr S 31 j (y3 - 1)) 30 j (-1)) 7 b (-1)) 5 b 1) 6 b (nI r)) 15 r 8) := ⟨⟨⟨e1, b1⟩, ⟨e2, b2⟩, ⟨e3, b3⟩, ⟨e7, b7⟩, ⟨e8, b8⟩, e4, e5, hm, hev⟩, R_hs (R_tk (R_fB hR (Or.inl rfl)) (Or.inl rfl)) (Or.inr ⟨r, hr, rfl⟩), J_brings hJ hj4 hb hr e e2'⟩
        exact ok_bd1 (t_ev h2 _ _ _ _) (fun S' h' => ih (j + 1) S' h'.1 (by omega) (by omega))
      · exact ok_sv rfl hb (by decide) (ih (j + 1) _ ⟨⟨⟨e1, b1⟩, ⟨e2, b2⟩, ⟨e3, b3⟩, ⟨e7, b7⟩, ⟨e8, b8⟩, e4, e5, hm, hev⟩, R_fB hR (Or.inl rfl), J_stopF hJ hj4 hb e⟩ (by omega) (by omega))
theorem t_doFetchers (h : St d bx rd fe co t bl ms S) : ok (gX10_doFetchers S) (fun S' => St d bx rd fe co t bl ms S') := by
  have b7 := h.1.2.2.2.1.2
  unfold gX10_doFetchers
  exact t_fetch (fun S2 h2 => ok_some h2) 1000 0 S h (by omega) (by omega)
theorem t_copyist {K : RS → Option RS} {Q : RS → Prop} (hK : ∀ S', St d bx rd fe co t bl ms S' → ok (K S') Q) : ∀ (fu j : Nat) (S : RS), St d bx rd fe co t bl ms S → j ≤ co → co - j < fu → ok (gX10_doCopyists_2 K fu (nI j) S) Q := by
  intro fu
  induction fu with
  | zero => intro j S h hj hf; omega
  | succ fu ih =>
    intro j S h hj hf
    rw [gX10_doCopyists_2, nI_1 j]
    obtain ⟨⟨⟨e1, b1⟩, ⟨e2, b2⟩, ⟨e3, b3⟩, ⟨e7, b7⟩, ⟨e8, b8⟩, e4, e5, hm, hev⟩, hR, hJ⟩ := id h
    refine ok_ite (fun c => hK S h) (fun c => ?_)
    have hj2 : j < co := nl e8 (by omega) (by omega) c
    have hj3 : j < 3 := by omega
    refine ok_ld rfl hj3 (by decide) (fun y ey => ok_ite (fun _ => ih (j + 1) S h (by omega) (by omega)) (fun cy => ?_))
    rcases hR.2.2.2.2.2.2.2.1 j with e | ⟨b, hb, e⟩
    · exact absurd (ey.trans e) cy
    obtain rfl := ey.trans e
    refine ok_ld rfl hj3 (by decide) (fun y3 ey3 => ok_sv rfl hj3 (by decide) (ok_ld rfl hj3 (by decide) (fun y4 ey4 => ok_ite (fun _ => ?_) (fun _ => ih (j + 1) _ h (by omega) (by omega)))))
    refine ok_sv rfl hj3 (by decide) (ok_bnd (ok_ld rfl hb (by decide) (fun y5 ey5 => ok_ite (fun c5 => ?_) (fun c5 => ?_))))
    · exact ok_sv rfl hb (by decide) (ih (j + 1) _ ⟨⟨⟨e1, b1⟩, ⟨e2, b2⟩, ⟨e3, b3⟩, ⟨e7, b7⟩, ⟨e8, b8⟩, e4, e5, hm, hev⟩, R_cB hR (Or.inl rfl), J_stopC hJ hj3 hb e (Or.inr ((show y5 = S 6 b from ey5).symm.trans c5))⟩ (by omega) (by omega))
    · rcases hR.2.2.2.2.1 b with e' | ⟨r, hr, e'⟩
      · exact absurd ((show y5 = S 6 b from ey5).trans e') c5
      obtain rfl := (show y5 = S 6 b from ey5).trans e'
      refine ok_sv rfl hb (by decide) (ok_sv rfl hr (by decide) (ok_ld rfl hr (by decide) (fun y6 ey6 => ok_sv rfl hr (by decide) ?_)))
      have h2 : St d bx rd fe co t bl ms (wr (wr (wr (wr (wr (wr S 34 j (y3 - 1)) 33 j (-1)) 0 22 (S 0 22 + 1)) 5 b 1) 15 r 8) 22 r (y6 + 1)) := ⟨⟨⟨e1, b1⟩, ⟨e2, b2⟩, ⟨e3, b3⟩, ⟨e7, b7⟩, ⟨e8, b8⟩, e4, e5, hm, hev⟩, R_cB hR (Or.inl rfl), J_copied hJ hj3 hb hr e e'⟩
      exact ok_bd1 (t_ev h2 _ _ _ _) (fun S' h' => ih (j + 1) S' h'.1 (by omega) (by omega))
theorem t_doCopyists (h : St d bx rd fe co t bl ms S) : ok (gX10_doCopyists S) (fun S' => St d bx rd fe co t bl ms S') := by
  have b8 := h.1.2.2.2.2.1.2
  unfold gX10_doCopyists
  exact t_copyist (fun S2 h2 => ok_some h2) 1000 0 S h (by omega) (by omega)
theorem t_reads {K : RS → Option RS} {Q : RS → Prop} (hK : ∀ S', St d bx rd fe co t bl ms S' → ok (K S') Q) : ∀ (fu j : Nat) (S : RS), St d bx rd fe co t bl ms S → j ≤ rd → rd - j < fu → ok (gX10_oneTurn_28 K fu (nI j) S) Q := by
  intro fu
  induction fu with
  | zero => intro j S h hj hf; omega
  | succ fu ih =>
    intro j S h hj hf
    rw [gX10_oneTurn_28, nI_1 j]
    obtain ⟨⟨⟨e1, b1⟩, ⟨e2, b2⟩, ⟨e3, b3⟩, ⟨e7, b7⟩, ⟨e8, b8⟩, e4, e5, hm, hev⟩, hR, hJ⟩ := id h
    refine ok_ite (fun c => hK S h) (fun c => ?_)
    have hj2 : j < rd := nl e3 (by omega) (by omega) c
    refine ok_ld rfl (by omega) (by decide) (fun y ey => ok_ite (fun cy => ?_) (fun cy => ih (j + 1) S h (by omega) (by omega)))
    have es : S 15 j = 3 := ey.symm.trans cy
    refine ok_ld rfl (by omega) (by decide) (fun y2 ey2 => ok_sv rfl (by omega) (by decide) (ok_ld rfl (by omega) (by decide) (fun y3 ey3 => ok_ite (fun _ => ?_) (fun _ => ih (j + 1) _ h (by omega) (by omega)))))
    exact ok_sv rfl (by omega) (by decide) (ih (j + 1) _ ⟨⟨⟨e1, b1⟩, ⟨e2, b2⟩, ⟨e3, b3⟩, ⟨e7, b7⟩, ⟨e8, b8⟩, e4, e5, hm, hev⟩, hR, J_state hJ hj2 (by rw [es]; decide) (by rw [es]; decide) (fun _ => hJ.2.1 j (Or.inr (Or.inl es))) (by decide) (by decide)⟩ (by omega) (by omega))
end PUB
