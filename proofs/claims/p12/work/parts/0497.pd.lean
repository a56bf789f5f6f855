section PUD
variable {d bx rd fe co : Nat} {t bl : Int32} {ms : List Int32} {S : RS}
theorem t_goesOn (h : St d bx rd fe co t bl ms S) {r : Nat} (hr : r < rd) : ok (gX10_goesOn S (nI r)) (fun S' => St d bx rd fe co t bl ms S') := by
  obtain ⟨s, q, m, a1, a2, a3, f1, f2, f3⟩ := h.2.1.2.1 r
  unfold gX10_goesOn
  exact t_goes hr (fun S' h' => ok_some h') 1000 q s S h f2 f1 (by omega) (by omega) (by omega)
theorem t_go84 {K : RS → Option RS} {Q : RS → Prop} (hK : ∀ S', St d bx rd fe co t bl ms S' → ok (K S') Q) : ∀ (fu j : Nat) (S : RS), St d bx rd fe co t bl ms S → j ≤ rd → rd - j < fu → ok (gX10_oneTurn_84 K fu (nI j) S) Q := by
  intro fu
  induction fu with
  | zero => intro j S h hj hf; omega
  | succ fu ih =>
    intro j S h hj hf
    rw [gX10_oneTurn_84, nI_1 j]
    have b3 := h.1.2.2.1.2
    refine ok_ite (fun c => hK S h) (fun c => ?_)
    have hj2 : j < rd := nl h.1.2.2.1.1 (by omega) (by omega) c
    exact ok_bd1 (t_goesOn h hj2) (fun S' h' => ih (j + 1) S' h' (by omega) (by omega))
theorem t_come {K : RS → Option RS} {Q : RS → Prop} (hK : ∀ S', St d bx rd fe co t bl ms S' → ok (K S') Q) : ∀ (fu j : Nat) (S : RS), St d bx rd fe co t bl ms S → j ≤ rd → rd - j < fu → ok (gX10_oneTurn_105 K fu (nI j) S) Q := by
  intro fu
  induction fu with
  | zero => intro j S h hj hf; omega
  | succ fu ih =>
    intro j S h hj hf
    rw [gX10_oneTurn_105, nI_1 j]
    obtain ⟨⟨⟨e1, b1⟩, ⟨e2, b2⟩, ⟨e3, b3⟩, ⟨e7, b7⟩, ⟨e8, b8⟩, e4, e5, hm, hev⟩, hR, hJ⟩ := id h
    refine ok_ite (fun c => hK S h) (fun c => ?_)
    have hj2 : j < rd := nl e3 (by omega) (by omega) c
    refine ok_ld rfl (by omega) (by decide) (fun y ey => ok_ite (fun cy => ?_) (fun cy => ih (j + 1) S h (by omega) (by omega)))
    have es : S 15 j = 0 := ey.symm.trans cy
    refine ok_ld rfl (by omega) (by decide) (fun y2 ey2 => ok_ite (fun _ => ?_) (fun _ => ih (j + 1) S h (by omega) (by omega)))
    refine ok_sv rfl (by omega) (by decide) (ok_sv rfl (by omega) (by decide) ?_)
    have h2 : St d bx rd fe co t bl ms (wr (wr S 15 j 1) 20 j (S 0 4)) := ⟨⟨⟨e1, b1⟩, ⟨e2, b2⟩, ⟨e3, b3⟩, ⟨e7, b7⟩, ⟨e8, b8⟩, e4, e5, hm, hev⟩, hR, J_state hJ hj2 (by rw [es]; decide) (by rw [es]; decide) (fun h9 => absurd h9 (by decide)) (by decide) (by decide)⟩
    exact ok_bd1 (t_ev h2 _ _ _ _) (fun S' h' => ih (j + 1) S' h'.1 (by omega) (by omega))
theorem t_isAhead {a b : Nat} (ha : a < 20) (hb : b < 20) : ok (gX10_isAhead S (nI a) (nI b)) (fun _ => True) := by
  unfold gX10_isAhead
  refine ok_ld rfl ha (by decide) (fun _ _ => ok_ld rfl hb (by decide) (fun _ _ => ok_ite (fun _ => ?_) (fun _ => ?_)))
  · refine ok_ld rfl ha (by decide) (fun _ _ => ok_ld rfl hb (by decide) (fun _ _ => ok_ite (fun _ => ok_ite (fun _ => ok_some trivial) (fun _ => ok_some trivial)) (fun _ => ?_)))
    exact ok_ld rfl ha (by decide) (fun _ _ => ok_ld rfl hb (by decide) (fun _ _ => ok_ite (fun _ => ok_some trivial) (fun _ => ok_some trivial)))
  · exact ok_ld rfl ha (by decide) (fun _ _ => ok_ld rfl hb (by decide) (fun _ _ => ok_ite (fun _ => ok_some trivial) (fun _ => ok_some trivial)))
theorem t_ins {r n : Nat} (hn : n < 20) (hr : r < 20) {P : Int32 → Prop} (hP : ∀ v, P v → ixn 20 v) {K : Int32 → Int32 → RS → Option RS} {Q : RS → Prop} (hK : ∀ (k : Nat) (S' : RS), k ≤ n → St d bx rd fe co t bl ms S' → (∀ j, j ≠ 42 → S' j = S j) → (∀ i, i ≤ n → i ≠ k → P (S' 42 i)) → ok (K (nI r) (nI k) S') Q) : ∀ (fu k : Nat) (S1 : RS), k ≤ n → k < fu → St d bx rd fe co t bl ms S1 → (∀ j, j ≠ 42 → S1 j = S j) → (∀ i, i ≤ n → i ≠ k → P (S1 42 i)) → ok (gX10_findLine_33 K fu (nI r) (nI k) S1) Q := by
  intro fu
  induction fu with
  | zero => intro k S1 hk hf; omega
  | succ fu ih =>
    intro k S1 hk hf h hrow hp
    rw [gX10_findLine_33]
    refine ok_ite (fun c => hK k S1 hk h hrow hp) (fun c => ?_)
    cases k with
    | zero => exact absurd (show nI 0 ≤ nI 0 from nI_le (Nat.le_refl 0) (by omega)) c
    | succ k =>
      rw [nI_pred, pk_m1]
      obtain ⟨a, ha, ea⟩ := hP _ (hp k (by omega) (by omega))
      refine ok_ld rfl (by omega) (by decide) (fun y ey => ?_)
      obtain rfl := ey.trans ea
      refine ok_bd1 (t_isAhead hr ha) (fun y2 _ => ok_ite (fun _ => hK (k + 1) S1 hk h hrow hp) (fun _ => ?_))
      refine ok_ld rfl (by omega) (by decide) (fun y3 ey3 => ok_sv rfl (by omega) (by decide) ?_)
      refine ih k _ (by omega) (by omega) ⟨h.1, R_ln h.2.1 (by rw [ey3]; exact hP _ (hp k (by omega) (by omega))), h.2.2⟩ (fun j hj => ?_) (fun i hi hik => ?_)
      · rw [wr_n _ _ _ _ hj]
        exact hrow j hj
      · rw [wr_ap, if_pos rfl]
        by_cases e : i = k + 1
        · rw [if_pos e, ey3]
          exact hp k (by omega) (by omega)
        · rw [if_neg e]
          exact hp i hi e
theorem t_line {P : Int32 → Prop} (hP : ∀ v, P v → ixn 20 v) {K : RS → Option RS} {Q : RS → Prop} (hin : ∀ r, r < rd → S 15 r = 1 → P (nI r)) (hK : ∀ (n : Nat) (S' : RS), n ≤ rd → St d bx rd fe co t bl ms S' → S' 0 57 = nI n → (∀ j, j ≠ 0 → j ≠ 42 → S' j = S j) → (∀ i, i < n → P (S' 42 i)) → ok (K S') Q) : ∀ (fu j n : Nat) (S1 : RS), j ≤ rd → rd - j < fu → n ≤ j → St d bx rd fe co t bl ms S1 → S1 0 57 = nI n → (∀ j, j ≠ 0 → j ≠ 42 → S1 j = S j) → (∀ i, i < n → P (S1 42 i)) → ok (gX10_findLine_7 K fu (nI j) S1) Q := by
  intro fu
  induction fu with
  | zero => intro j n S1 hj hf; omega
  | succ fu ih =>
    intro j n S1 hj hf hnj h e57 hrow hp
    have b3 := h.1.2.2.1.2
    rw [gX10_findLine_7, nI_1 j]
    refine ok_ite (fun c => hK n S1 (by omega) h e57 hrow hp) (fun c => ?_)
    have hj2 : j < rd := nl h.1.2.2.1.1 (by omega) (by omega) c
    refine ok_ld rfl (by omega) (by decide) (fun y ey => ok_ite (fun cy => ?_) (fun cy => ih (j + 1) n S1 (by omega) (by omega) (by omega) h e57 hrow hp))
    rw [e57]
    have hpj : P (nI j) := hin j hj2 (by rw [← hrow 15 (by decide) (by decide), ← ey, cy])
    refine t_ins (S := S1) (n := n) (by omega) (by omega) hP (fun k S2 hk h2 hrow2 hp2 => ?_) 1000 n S1 (Nat.le_refl n) (by omega) h (fun _ _ => rfl) (fun i hi hi2 => hp i (by omega))
    refine ok_sv rfl (by omega) (by decide) (ok_bnd ?_)
    rw [nI_1 j]
    have e57' : S2 0 57 = nI n := by rw [hrow2 0 (by decide)]; exact e57
    refine ih (j + 1) (n + 1) _ (by omega) (by omega) (by omega) ⟨h2.1, R_ln h2.2.1 (hP _ hpj), h2.2.2⟩ (by show S2 0 57 + 1 = _; rw [e57', nI_1]) (fun i hi0 hi42 => ?_) (fun i hi => ?_)
    · rw [wr_n _ _ _ _ hi0, wr_n _ _ _ _ hi42, hrow2 i hi42]
      exact hrow i hi0 hi42
    · rw [wr_n _ _ _ _ (by decide), wr_ap, if_pos rfl]
      by_cases e : i = k
      · rw [if_pos e]; exact hpj
      · rw [if_neg e]; exact hp2 i (by omega) e
theorem t_findLine (h : St d bx rd fe co t bl ms S) : ok (gX10_findLine S) (fun S' => St d bx rd fe co t bl ms S' ∧ (∀ j, j ≠ 0 → j ≠ 42 → S' j = S j) ∧ ∃ n, n ≤ rd ∧ S' 0 57 = nI n ∧ ∀ i, i < n → ∃ a, a < rd ∧ S' 42 i = nI a ∧ S 15 a = 1) := by
  have b3 := h.1.2.2.1.2
  unfold gX10_findLine
  refine ok_bnd ?_
  rw [show (0 : Int32) = nI 0 from rfl]
  refine t_line (S := S) (P := fun v => ∃ a, a < rd ∧ v = nI a ∧ S 15 a = 1) (fun v ⟨a, ha, ev, _⟩ => ⟨a, by omega, ev⟩) (fun r hr e => ⟨r, hr, rfl, e⟩) (fun n S' hn h' e' hrow hp => ok_some ⟨h', hrow, n, hn, e', hp⟩) 1000 0 0 _ (by omega) (by omega) (by omega) (St_n h _ (by decide)) (by rw [wr_ap]; simp) (fun j h0 _ => wr_n _ _ _ _ h0) (fun i hi => absurd hi (Nat.not_lt_zero i))
theorem t_desk4 {r : Nat} (hr : r < 20) (e : S 0 1 = nI d) (hd : d ≤ 12) {K : Int32 → Option Int32} {Q : Int32 → Prop} (hK : ∀ v, oi 12 v → ok (K v) Q) (hq : ∀ v, oi 12 v → Q v) : ∀ (fu j : Nat) (v : Int32), oi 12 v → j ≤ d → d - j < fu → ok (gX10_deskFor_4 S K fu (nI r) v (nI j)) Q := by
  intro fu
  induction fu with
  | zero => intro j v hv hj hf; omega
  | succ fu ih =>
    intro j v hv hj hf
    rw [gX10_deskFor_4, nI_1 j]
    refine ok_ite (fun c => hK v hv) (fun c => ?_)
    have hj2 : j < d := nl e (by omega) (by omega) c
    have oj : oi 12 (nI j) := Or.inr ⟨j, by omega, rfl⟩
    refine ok_ld rfl (by omega) (by decide) (fun _ _ => ok_ite (fun _ => ?_) (fun _ => ih (j + 1) v hv (by omega) (by omega)))
    refine ok_ld rfl (by omega) (by decide) (fun _ _ => ok_ld rfl hr (by decide) (fun _ _ => ok_ite (fun _ => ok_some (hq _ oj)) (fun _ => ?_)))
    refine ok_ld rfl hr (by decide) (fun _ _ => ok_ite (fun _ => ok_ite (fun _ => ih (j + 1) _ oj (by omega) (by omega)) (fun _ => ih (j + 1) v hv (by omega) (by omega))) (fun _ => ih (j + 1) v hv (by omega) (by omega)))
theorem t_deskFor (h : St d bx rd fe co t bl ms S) {r : Nat} (hr : r < 20) : ok (gX10_deskFor S (nI r)) (fun v => oi 12 v) := by
  have b1 := h.1.1.2
  unfold gX10_deskFor
  exact t_desk4 hr h.1.1.1 b1 (fun v hv => ok_some hv) (fun v hv => hv) 1000 0 (-1) (Or.inl rfl) (by omega) (by omega)
theorem t_over {k r : Nat} (hr : r < 20) {K : Int32 → RS → Option RS} {Q : RS → Prop} (hK : ∀ S', St d bx rd fe co t bl ms S' → (∀ j, j ≠ 21 → S' j = S j) → ok (K (nI k) S') Q) : ∀ (fu j : Nat) (S1 : RS), St d bx rd fe co t bl ms S1 → (∀ j, j ≠ 21 → S1 j = S j) → j ≤ rd → rd - j < fu → ok (gX10_doDesks_68 K fu (nI k) (nI r) (nI j) S1) Q := by
  intro fu
  induction fu with
  | zero => intro j S1 h hrow hj hf; omega
  | succ fu ih =>
    intro j S1 h hrow hj hf
    have b3 := h.1.2.2.1.2
    rw [gX10_doDesks_68, nI_1 j]
    refine ok_ite (fun c => hK S1 h hrow) (fun c => ?_)
    have hj2 : j < rd := nl h.1.2.2.1.1 (by omega) (by omega) c
    have go : ∀ v, ok (gX10_doDesks_68 K fu (nI k) (nI r) (nI (j + 1)) (wr S1 21 j v)) Q := fun v => ih (j + 1) _ h (fun i hi => by rw [wr_n _ _ _ _ hi]; exact hrow i hi) (by omega) (by omega)
    have go2 := ih (j + 1) S1 h hrow (by omega) (by omega)
    refine ok_ld rfl (by omega) (by decide) (fun _ _ => ok_ite (fun _ => ?_) (fun _ => go2))
    refine ok_ld rfl (by omega) (by decide) (fun _ _ => ok_ld rfl hr (by decide) (fun _ _ => ok_ite (fun _ => ?_) (fun _ => ?_)))
    · exact ok_ld rfl (by omega) (by decide) (fun _ _ => ok_sv rfl (by omega) (by decide) (go _))
    · refine ok_ld rfl (by omega) (by decide) (fun _ _ => ok_ld rfl hr (by decide) (fun _ _ => ok_ite (fun _ => ok_ite (fun _ => go2) (fun _ => ?_)) (fun _ => go2)))
      exact ok_ld rfl (by omega) (by decide) (fun _ _ => ok_sv rfl (by omega) (by decide) (go _))
theorem t_desks6 {n : Nat} (hn : n ≤ 20) {K : RS → Option RS} {Q : RS → Prop} (hK : ∀ S', St d bx rd fe co t bl ms S' → ok (K S') Q) : ∀ (fu j : Nat) (S : RS), St d bx rd fe co t bl ms S → S 0 57 = nI n → (∀ i, i < n → ∃ a, a < rd ∧ S 42 i = nI a ∧ (S 15 a = 1 ∨ S 15 a = 8)) → j ≤ n → n - j < fu → ok (gX10_doDesks_6 K fu (nI j) S) Q := by
  intro fu
  induction fu with
  | zero => intro j S h e57 hp hj hf; omega
  | succ fu ih =>
    intro j S h e57 hp hj hf
    obtain ⟨⟨⟨e1, b1⟩, ⟨e2, b2⟩, ⟨e3, b3⟩, ⟨e7, b7⟩, ⟨e8, b8⟩, e4, e5, hm, hev⟩, hR, hJ⟩ := id h
    rw [gX10_doDesks_6, nI_1 j]
    refine ok_ite (fun c => hK S h) (fun c => ?_)
    have hj2 : j < n := nl e57 (by omega) (by omega) c
    obtain ⟨a, ha, ea, es⟩ := hp j hj2
    have ha20 : a < 20 := by omega
    refine ok_ld rfl (by omega) (by decide) (fun y ey => ?_)
    obtain rfl := ey.trans ea
    refine ok_bd1 (t_deskFor h ha20) (fun dd hdd => ok_ite (fun _ => ih (j + 1) S h e57 hp (by omega) (by omega)) (fun cd => ?_))
    rcases hdd with e | ⟨k, hk, rfl⟩
    · exact absurd e cd
    refine ok_sv rfl hk (by decide) (ok_sv rfl ha20 (by decide) (ok_sv rfl ha20 (by decide) ?_))
    have h2 : St d bx rd fe co t bl ms (wr (wr (wr S 2 k (nI a)) 16 a (nI k)) 15 a 8) := ⟨⟨⟨e1, b1⟩, ⟨e2, b2⟩, ⟨e3, b3⟩, ⟨e7, b7⟩, ⟨e8, b8⟩, e4, e5, hm, hev⟩, R_dk hR (Or.inr ⟨k, hk, rfl⟩), J_seat hJ ha (by rcases es with e | e <;> rw [e] <;> decide) (by rcases es with e | e <;> rw [e] <;> decide) cd⟩
    refine ok_bd1 (t_ev h2 _ _ _ _) (fun S3 h3 => ?_)
    rw [show (0 : Int32) = nI 0 from rfl]
    refine t_over (S := S3) (k := j) ha20 (fun S4 h4 hrow4 => ?_) 1000 0 S3 h3.1 (fun _ _ => rfl) (by omega) (by omega)
    rw [nI_1 j]
    refine ih (j + 1) S4 h4 ?_ (fun i hi => ?_) (by omega) (by omega)
    · rw [hrow4 0 (by decide), h3.2.2 57 (by decide)]
      exact e57
    · obtain ⟨a', ha', ea', es'⟩ := hp i hi
      refine ⟨a', ha', ?_, ?_⟩
      · rw [hrow4 42 (by decide), h3.2.1 42 (by decide) (by decide) (by decide) (by decide) (by decide)]
        exact ea'
      · rw [hrow4 15 (by decide), h3.2.1 15 (by decide) (by decide) (by decide) (by decide) (by decide), wr_ap, if_pos rfl]
        by_cases e : a' = a
        · rw [if_pos e]; exact Or.inr rfl
        · rw [if_neg e]; exact es'
theorem t_doDesks (h : St d bx rd fe co t bl ms S) : ok (gX10_doDesks S) (fun S' => St d bx rd fe co t bl ms S') := by
  have b3 := h.1.2.2.1.2
  unfold gX10_doDesks
  refine ok_bd1 (t_findLine h) (fun S1 ⟨h1, hrow, n, hn, e57, hp⟩ => ?_)
  refine t_desks6 (n := n) (by omega) (fun S' h' => ok_some h') 1000 0 S1 h1 e57 (fun i hi => ?_) (by omega) (by omega)
  obtain ⟨a, ha, ea, es⟩ := hp i hi
  exact ⟨a, ha, ea, Or.inl (by rw [hrow 15 (by decide) (by decide)]; exact es)⟩
/-- a box that is looked for: none, or one with a place -/
def bxp (bx : Nat) (P : Nat → Prop) (v : Int32) : Prop := v = -1 ∨ ∃ b, b < bx ∧ v = nI b ∧ P b
theorem t_leftBox (h : St d bx rd fe co t bl ms S) : ok (gX10_leftBox S) (fun v => bxp bx (fun b => S 5 b = 2) v) := by
  have e2 := h.1.2.1.1
  have b2 := h.1.2.1.2
  have go : ∀ (fu j : Nat), j ≤ bx → bx - j < fu → ok (gX10_leftBox_2 S (some (-1)) fu (nI j)) (fun v => bxp bx (fun b => S 5 b = 2) v) := by
    intro fu
    induction fu with
    | zero => intro j hj hf; omega
    | succ fu ih =>
      intro j hj hf
      rw [gX10_leftBox_2, nI_1 j]
      refine ok_ite (fun c => ok_some (Or.inl rfl)) (fun c => ?_)
      have hj2 : j < bx := nl e2 (by omega) (by omega) c
      exact ok_ld rfl (by omega) (by decide) (fun y ey => ok_ite (fun cy => ok_some (Or.inr ⟨j, hj2, rfl, ey.symm.trans cy⟩)) (fun _ => ih (j + 1) (by omega) (by omega)))
  unfold gX10_leftBox
  exact go 1000 0 (by omega) (by omega)
theorem t_wantedBox (h : St d bx rd fe co t bl ms S) : ok (gX10_wantedBox S) (fun v => bxp bx (fun b => S 5 b = 0) v) := by
  have e2 := h.1.2.1.1
  have b2 := h.1.2.1.2
  have go : ∀ (fu j : Nat) (v : Int32), bxp bx (fun b => S 5 b = 0) v → j ≤ bx → bx - j < fu → ok (gX10_wantedBox_4 S (fun v => some v) fu v (nI j)) (fun v => bxp bx (fun b => S 5 b = 0) v) := by
    intro fu
    induction fu with
    | zero => intro j v hv hj hf; omega
    | succ fu ih =>
      intro j v hv hj hf
      rw [gX10_wantedBox_4, nI_1 j]
      refine ok_ite (fun c => ok_some hv) (fun c => ?_)
      have hj2 : j < bx := nl e2 (by omega) (by omega) c
      have go2 := ih (j + 1) v hv (by omega) (by omega)
      refine ok_ld rfl (by omega) (by decide) (fun y ey => ok_ite (fun cy => ?_) (fun _ => go2))
      have go3 := ih (j + 1) (nI j) (Or.inr ⟨j, hj2, rfl, ey.symm.trans cy⟩) (by omega) (by omega)
      refine ok_ld rfl (by omega) (by decide) (fun y2 ey2 => ok_ite (fun _ => go2) (fun _ => ok_ite (fun _ => go3) (fun cv => ?_)))
      rcases hv with e | ⟨b, hb, rfl, _⟩
      · exact absurd e cv
      exact ok_ld rfl (by omega) (by decide) (fun _ _ => ok_ld rfl (by omega) (by decide) (fun _ _ => ok_ite (fun _ => go2) (fun _ => go3)))
  unfold gX10_wantedBox
  exact go 1000 0 (-1) (Or.inl rfl) (by omega) (by omega)
theorem t_copyBox (h : St d bx rd fe co t bl ms S) (u : Int32) : ok (gX10_copyBox S u) (fun v => bxp bx (fun b => S 5 b = 5) v) := by
  have e2 := h.1.2.1.1
  have b2 := h.1.2.1.2
  have go : ∀ (fu j : Nat) (v : Int32), bxp bx (fun b => S 5 b = 5) v → j ≤ bx → bx - j < fu → ok (gX10_copyBox_4 S (fun v => some v) fu u v (nI j)) (fun v => bxp bx (fun b => S 5 b = 5) v) := by
    intro fu
    induction fu with
    | zero => intro j v hv hj hf; omega
    | succ fu ih =>
      intro j v hv hj hf
      rw [gX10_copyBox_4, nI_1 j]
      refine ok_ite (fun c => ok_some hv) (fun c => ?_)
      have hj2 : j < bx := nl e2 (by omega) (by omega) c
      have go2 := ih (j + 1) v hv (by omega) (by omega)
      refine ok_ld rfl (by omega) (by decide) (fun y ey => ok_ite (fun cy => ?_) (fun _ => go2))
      have go3 := ih (j + 1) (nI j) (Or.inr ⟨j, hj2, rfl, ey.symm.trans cy⟩) (by omega) (by omega)
      refine ok_ld rfl (by omega) (by decide) (fun y2 ey2 => ok_ite (fun _ => ok_ite (fun _ => go3) (fun cv => ?_)) (fun _ => go2))
      rcases hv with e | ⟨b, hb, rfl, _⟩
      · exact absurd e cv
      exact ok_ld rfl (by omega) (by decide) (fun _ _ => ok_ld rfl (by omega) (by decide) (fun _ _ => ok_ite (fun _ => go2) (fun _ => go3)))
  unfold gX10_copyBox
  exact go 1000 0 (-1) (Or.inl rfl) (by omega) (by omega)
end PUD
