section COUNT
variable {g : Nat → Nat → Option Nat} {cf : Nat → Nat → Nat} {nm : Nat → Int32} {A : Nat → Nat → Nat} {M : MP} {nd nb nr fe co : Nat} {W : Nat → Nat} {DL BT CT : List Nat} {C : CS} {S : RS}
/-! count: safe on both sides; its answers aren't compared here -/
theorem g_home (he : EN g cf nm A) (hb : nb ≤ 40) (ec : C.1 200 1 = nI nb) : ok (gX9_boxesAtHome g cf nm C) (fun _ => True) := by
  have go : ∀ (fu j : Nat) (x : Int32), j ≤ nb → nb - j < fu → ok (gX9_boxesAtHome_4 C g cf nm (fun v => some v) fu x (nI j)) (fun _ => True) := by
    intro fu
    induction fu with
    | zero => intro j x hj hf; omega
    | succ fu ih =>
      intro j x hj hf
      rw [gX9_boxesAtHome_4, nI_1 j]
      refine ok_ite (fun _ => ok_some trivial) (fun c => ?_)
      have hjb : j < nb := nl ec (by omega) (by omega) c
      exact c_ga rfl (by omega) (by decide) (he.2.1 j (by omega)).1 (ok_ite (fun _ => ih (j + 1) _ (by omega) (by omega)) (fun _ => ih (j + 1) _ (by omega) (by omega)))
  unfold gX9_boxesAtHome
  exact go 1000 0 0 (Nat.zero_le _) (by omega)
theorem g_awayok {r : Nat} : ok (gX9_isAway g cf nm C r) (fun _ => True) := by
  unfold gX9_isAway
  exact ok_ite (fun _ => ok_some trivial) (fun _ => ok_ite (fun _ => ok_some trivial) (fun _ => ok_ite (fun _ => ok_some trivial) (fun _ => ok_some trivial)))
theorem g_quiet (he : EN g cf nm A) (hb : nb ≤ 40) (ec : C.1 200 1 = nI nb) (hr : nr ≤ 20) (er : C.1 200 2 = nI nr) : ok (gX9_isQuiet g cf nm C) (fun _ => True) := by
  have go : ∀ (K : Option Int32) (fu j : Nat), ok K (fun _ => True) → j ≤ nr → nr - j < fu → ok (gX9_isQuiet_2 C g cf nm K fu (nI j)) (fun _ => True) := by
    intro K fu
    induction fu with
    | zero => intro j hk hj hf; omega
    | succ fu ih =>
      intro j hk hj hf
      rw [gX9_isQuiet_2, nI_1 j]
      refine ok_ite (fun _ => hk) (fun c => ?_)
      have hjr : j < nr := nl er (by omega) (by omega) c
      exact c_ga rfl (by omega) (by decide) (he.2.2.1 j (by omega)).1 (ok_bd1 g_awayok (fun _ _ => ok_ite (fun _ => ok_some trivial) (fun _ => ih (j + 1) hk (by omega) (by omega))))
  unfold gX9_isQuiet
  exact go _ 1000 0 (ok_bd1 (g_home he hb ec) (fun _ _ => ok_ite (fun _ => ok_some trivial) (fun _ => ok_some trivial))) (Nat.zero_le _) (by omega)
theorem g_great (he : EN g cf nm A) (hr : nr ≤ 20) (er : C.1 200 2 = nI nr) (v : Int32) : ok (gX9_greatestWaited g cf nm C v) (fun _ => True) := by
  have go : ∀ (fu j : Nat) (x : Int32), j ≤ nr → nr - j < fu → ok (gX9_greatestWaited_4 C g cf nm (fun v => some v) fu v x (nI j)) (fun _ => True) := by
    intro fu
    induction fu with
    | zero => intro j x hj hf; omega
    | succ fu ih =>
      intro j x hj hf
      rw [gX9_greatestWaited_4, nI_1 j]
      refine ok_ite (fun _ => ok_some trivial) (fun c => ?_)
      have hjr : j < nr := nl er (by omega) (by omega) c
      exact c_ga rfl (by omega) (by decide) (he.2.2.1 j (by omega)).1 (ok_ite (fun _ => ok_bnd (ih (j + 1) _ (by omega) (by omega))) (fun _ => ok_ite (fun _ => ok_bnd (ih (j + 1) _ (by omega) (by omega))) (fun _ => ok_bnd (ih (j + 1) _ (by omega) (by omega)))))
  unfold gX9_greatestWaited
  exact go 1000 0 0 (Nat.zero_le _) (by omega)
theorem g_count (he : EN g cf nm A) (h : Rel M A cf nd nb nr fe co W DL BT CT C S) (v : Int32) : ok (gX9_count g cf nm C v) (fun _ => True) := by
  obtain ⟨⟨t, bl, ms, hst⟩, hM, h1, hrest⟩ := id h
  have b2 := hst.1.2.1.2
  have c2 : C.1 200 1 = nI nb := h1.1.2.1.trans hst.1.2.1.1
  have b3 := hst.1.2.2.1.2
  have c3 : C.1 200 2 = nI nr := h1.1.2.2.1.trans hst.1.2.2.1.1
  have s : ∀ z : Int32, ok (some z) (fun _ => True) := fun _ => ok_some trivial
  have w : ∀ v, ok (bd1 (gX9_greatestWaited g cf nm C v) fun r => some r) (fun _ => True) := fun v => ok_bd1 (g_great he b3 c3 v) (fun _ _ => ok_some trivial)
  unfold gX9_count
  refine ok_ite (fun _ => s _) (fun _ => ok_ite (fun _ => s _) (fun _ => ok_ite (fun _ => s _) (fun _ => ok_ite (fun _ => s _) (fun _ => ok_ite (fun _ => s _) (fun _ => ok_ite (fun _ => ok_bd1 (g_home he b2 c2) (fun _ _ => s _)) (fun _ => ok_ite (fun _ => ok_bd1 (g_quiet he b2 c2 b3 c3) (fun _ _ => ok_ite (fun _ => s _) (fun _ => s _))) (fun _ => ?_)))))))
  refine ok_ite (fun _ => w _) (fun _ => ok_ite (fun _ => w _) (fun _ => ok_ite (fun _ => w _) (fun _ => ?_)))
  exact ok_ite (fun _ => s _) (fun _ => ok_ite (fun _ => s _) (fun _ => ok_ite (fun _ => s _) (fun _ => ok_ite (fun _ => s _) (fun _ => ok_ite (fun _ => s _) (fun _ => s _)))))
/-- the reference's count leaves all but the answer's place as it was -/
theorem u_count {t bl : Int32} {ms : List Int32} (h : St nd nb nr fe co t bl ms S) (v : Int32) : ok (gX10_count S v) (fun q => q.2 = wr S 0 0 0) := by
  unfold gX10_count
  refine ok_bnd ?_
  have h1 := St_n h 0 (k := 0) (Or.inl rfl)
  generalize wr S 0 0 0 = S1 at h1 ⊢
  have b3 := h1.1.2.2.1.2
  have s : ∀ y : Int32, ok (some (y, S1)) (fun q : Int32 × RS => q.2 = S1) := fun y => ok_some rfl
  have c129 : ∀ (k x : Nat), x = k + 7 → k < 3 → ∀ (fu j : Nat) (y : Int32), j ≤ nr → nr - j < fu → ok (gX10_count_129 (fun v S => some (v, S)) fu (nI x) y (nI j) S1) (fun q => q.2 = S1) := by
    intro k x hx hk fu
    induction fu with
    | zero => intro j y hj hf; omega
    | succ fu ih =>
      intro j y hj hf
      rw [gX10_count_129, nI_1 j]
      refine ok_ite (fun _ => s y) (fun c => ?_)
      have hj2 : j < nr := nl h1.1.2.2.1.1 (by omega) (by omega) c
      have ei : (3 : Int32) * nI j + nI x - 7 = nI (3 * j + k) := by rw [ix3, show (7 : Int32) = nI 7 from rfl, pk_sub (by omega), show 3 * j + x - 7 = 3 * j + k by omega]
      exact ok_ld ei (by omega) (by decide) (fun _ _ => ok_ite (fun _ => ih (j + 1) _ (by omega) (by omega)) (fun _ => ok_ld ei (by omega) (by decide) (fun _ _ => ih (j + 1) _ (by omega) (by omega))))
  refine ok_ite (fun _ => s _) (fun _ => ok_ite (fun _ => s _) (fun _ => ok_ite (fun _ => s _) (fun _ => ok_ite (fun _ => s _) (fun _ => ok_ite (fun _ => s _) (fun _ => ok_ite (fun _ => ok_bd1 (t_home h1) (fun _ _ => s _)) (fun _ => ok_ite (fun _ => ok_bd1 (t_isQuiet h1) (fun _ _ => ok_ite (fun _ => s _) (fun _ => s _))) (fun _ => ?_)))))))
  refine ok_ite (fun c => by rw [c]; exact c129 0 7 rfl (by decide) 1000 0 0 (Nat.zero_le _) (by omega)) (fun _ => ok_ite (fun c => by rw [c]; exact c129 1 8 rfl (by decide) 1000 0 0 (Nat.zero_le _) (by omega)) (fun _ => ok_ite (fun c => by rw [c]; exact c129 2 9 rfl (by decide) 1000 0 0 (Nat.zero_le _) (by omega)) (fun _ => ?_)))
  exact ok_ite (fun _ => s _) (fun _ => ok_ite (fun _ => s _) (fun _ => ok_ite (fun _ => s _) (fun _ => ok_ite (fun _ => s _) (fun _ => ok_ite (fun _ => s _) (fun _ => s _)))))
theorem w_count (he : EN g cf nm A) (h : RX M A cf C S) (v : Int32) : ok2 (gX9_count g cf nm C v) (gX10_count S v) (fun _ y => RX M A cf C y.2) := by
  obtain ⟨nd, nb, nr, fe, co, W, DL, BT, CT, hr⟩ := id h
  obtain ⟨a, ea, _⟩ := g_count he hr v
  obtain ⟨t, bl, ms, hst⟩ := hr.1
  obtain ⟨b, eb, hb⟩ := u_count hst v
  exact ⟨a, b, ea, eb, by show RX M A cf C b.2; rw [hb]; exact RX_0 h 0⟩
theorem u_event (h : RX M A cf C S) (v w : Int32) : ok (gX10_event_ S v w) (fun q => RX M A cf C q.2) := by
  obtain ⟨nd, nb, nr, fe, co, W, DL, BT, CT, ⟨t, bl, ms, hst⟩, hrest⟩ := id h
  obtain ⟨ev, hev, eev⟩ := hst.1.2.2.2.2.2.2.2.2
  unfold gX10_event_
  have h1 : ∀ x, RX M A cf C (wr S 0 0 x) := fun x => RX_0 h x
  refine t_in (ok_ite (fun _ => ok_bnd (ok_f ?_ (ok_some (h1 1)))) (fun c => t_in (ok_ite (fun _ => ok_bnd (ok_f ?_ (ok_some (h1 1)))) (fun c2 => ok_bnd ?_))))
  · show ¬ (1 : Int32) ≤ 0
    decide
  · show ¬ (1 : Int32) ≤ 0
    decide
  · rw [eev] at c
    obtain ⟨i, hi, rfl⟩ := (in_sub (by omega)).mp c
    refine ok_ite (fun _ => ?_) (fun _ => ok_some (h1 0))
    exact ok_ite (fun _ => ok_ld rfl (by omega) (by decide) (fun _ _ => ok_some (h1 0))) (fun _ => ok_ite (fun _ => ok_ld rfl (by omega) (by decide) (fun _ _ => ok_some (h1 0))) (fun _ => ok_ite (fun _ => ok_ld rfl (by omega) (by decide) (fun _ _ => ok_some (h1 0))) (fun _ => ok_ld rfl (by omega) (by decide) (fun _ _ => ok_some (h1 0)))))
/-- the class's event rows -/
theorem g_entry (h : RX M A cf C S) (v w : Int32) : (∃ x, gX2_hasEntry g cf nm C v w = some x) ∧ ∃ x, gX2_entry g cf nm C v w = some x := by
  obtain ⟨nd, nb, nr, fe, co, W, DL, BT, CT, _, _, h1, _⟩ := h
  obtain ⟨e, he, ee⟩ := h1.2
  have hh : ok (gX2_hasEntry g cf nm C v w) (fun x => ¬ x = 0 → ∃ i j, i < e ∧ j < 4 ∧ v = nI i ∧ w = nI j) := by
    unfold gX2_hasEntry
    rw [ee]
    refine ok_ite (fun _ => ok_some (fun c => absurd rfl c)) (fun c1 => ok_ite (fun _ => ok_some (fun c => absurd rfl c)) (fun c2 => ok_ite (fun _ => ok_some (fun c => absurd rfl c)) (fun c3 => ok_ite (fun _ => ok_some (fun c => absurd rfl c)) (fun c4 => ok_some (fun _ => ?_)))))
    obtain ⟨i, hi, ei⟩ := ix_of c1 c2 (by omega)
    obtain ⟨j, hj, ej⟩ := ix_of (c := 4) c3 c4 (by omega)
    exact ⟨i, j, hi, hj, ei, ej⟩
  refine ⟨?_, ?_⟩
  · obtain ⟨x, ex, _⟩ := hh
    exact ⟨x, ex⟩
  · have : ok (gX2_entry g cf nm C v w) (fun _ => True) := by
      unfold gX2_entry
      refine ok_bd1 hh (fun x hx => ok_ite (fun _ => ok_some trivial) (fun c => ?_))
      obtain ⟨i, j, hi, hj, rfl, rfl⟩ := hx c
      exact c_ld (j := i * 4 + j) (by rw [ix4, nI_add]) (by omega) (by decide) (fun _ _ => ok_some trivial)
    obtain ⟨x, ex, _⟩ := this
    exact ⟨x, ex⟩
/-! queue: safe on both sides -/
theorem g_still (v : Int32) (r : Nat) : ok (gX9_waitsStill g cf nm C v r) (fun _ => True) := by
  have aw : ∀ k, ok (gX6_awaitsAt g cf nm C r k) (fun _ => True) := fun k => by
    unfold gX6_awaitsAt
    refine ok_bnd (c_oc (fun _ => ok_some trivial) (fun b hb => ok_bnd (c_sm hb (ok_ite (fun _ => ok_some trivial) (fun _ => ok_some trivial)))))
  unfold gX9_waitsStill
  exact ok_ite (fun _ => ok_bd1 (aw 3) (fun _ _ => ok_ite (fun _ => ok_some trivial) (fun _ => ok_some trivial))) (fun _ => ok_ite (fun _ => ok_bd1 (aw 5) (fun _ _ => ok_ite (fun _ => ok_some trivial) (fun _ => ok_some trivial))) (fun _ => ok_some trivial))
theorem g_queue (h : Rel M A cf nd nb nr fe co W DL BT CT C S) (v w : Int32) : ok (gX9_queue g cf nm C v w) (fun _ => True) := by
  have h8 := h.2.2.2.2.2.2.2.2.2.1
  obtain ⟨⟨l0, _⟩, ⟨l1, _⟩, ⟨l2, _⟩⟩ := h8
  have s : ∀ z : Int32, ok (some z) (fun _ => True) := fun _ => ok_some trivial
  have fin : ∀ a b : Int32, ok (if a = (-1) then (some b) else (some (-1))) (fun _ => True) := fun a b => ok_ite (fun _ => s _) (fun _ => s _)
  have q0 : ∀ (fu j : Nat) (x : Int32), j ≤ DL.length → DL.length - j < fu → ok (gX9_queue_23 C g cf nm (fun a b => if a = (-1) then (some b) else (some (-1))) fu v w x (nI j)) (fun _ => True) := by
    intro fu
    induction fu with
    | zero => intro j x hj hf; omega
    | succ fu ih =>
      intro j x hj hf
      rw [gX9_queue_23, nI_1 j]
      refine ok_ite (fun _ => fin _ _) (fun c => ?_)
      have hl := l0.2.1
      have hjl : j < DL.length := nl l0.1 (by omega) (by omega) c
      rw [g_at0 (g := g) (cf := cf) (nm := nm) (C := C) l0 (by omega), dif_pos hjl, bd1_e]
      exact c_ocs rfl (ok_bd1 (g_still _ _) (fun _ _ => ok_ite (fun _ => ih (j + 1) _ (by omega) (by omega)) (fun _ => ok_ite (fun _ => s _) (fun _ => ih (j + 1) _ (by omega) (by omega)))))
  have q1 : ∀ (fu j : Nat) (x : Int32), j ≤ BT.length → BT.length - j < fu → ok (gX9_queue_1023 C g cf nm (fun a b => if a = (-1) then (some b) else (some (-1))) fu v w x (nI j)) (fun _ => True) := by
    intro fu
    induction fu with
    | zero => intro j x hj hf; omega
    | succ fu ih =>
      intro j x hj hf
      rw [gX9_queue_1023, nI_1 j]
      refine ok_ite (fun _ => fin _ _) (fun c => ?_)
      have hl := l1.2.1
      have hjl : j < BT.length := nl l1.1 (by omega) (by omega) c
      rw [g_at1 (g := g) (cf := cf) (nm := nm) (C := C) l1 (by omega), dif_pos hjl, bd1_e]
      exact c_ocs rfl (ok_bd1 (g_still _ _) (fun _ _ => ok_ite (fun _ => ih (j + 1) _ (by omega) (by omega)) (fun _ => ok_ite (fun _ => s _) (fun _ => ih (j + 1) _ (by omega) (by omega)))))
  have q2 : ∀ (fu j : Nat) (x : Int32), j ≤ CT.length → CT.length - j < fu → ok (gX9_queue_2023 C g cf nm (fun a b => if a = (-1) then (some b) else (some (-1))) fu v w x (nI j)) (fun _ => True) := by
    intro fu
    induction fu with
    | zero => intro j x hj hf; omega
    | succ fu ih =>
      intro j x hj hf
      rw [gX9_queue_2023, nI_1 j]
      refine ok_ite (fun _ => fin _ _) (fun c => ?_)
      have hl := l2.2.1
      have hjl : j < CT.length := nl l2.1 (by omega) (by omega) c
      rw [g_at2 (g := g) (cf := cf) (nm := nm) (C := C) l2 (by omega), dif_pos hjl, bd1_e]
      exact c_ocs rfl (ok_bd1 (g_still _ _) (fun _ _ => ok_ite (fun _ => ih (j + 1) _ (by omega) (by omega)) (fun _ => ok_ite (fun _ => s _) (fun _ => ih (j + 1) _ (by omega) (by omega)))))
  have m0 := l0.2.1
  have m1 := l1.2.1
  have m2 := l2.2.1
  unfold gX9_queue
  rw [show (0 : Int32) = nI 0 from rfl]
  exact ok_ite (fun _ => ok_ite (fun _ => q0 1000 0 _ (Nat.zero_le _) (by omega)) (fun _ => s _)) (fun _ => ok_ite (fun _ => ok_ite (fun _ => q1 1000 0 _ (Nat.zero_le _) (by omega)) (fun _ => s _)) (fun _ => ok_ite (fun _ => ok_ite (fun _ => q2 1000 0 _ (Nat.zero_le _) (by omega)) (fun _ => s _)) (fun _ => s _)))
theorem u_q77 {t bl : Int32} {ms : List Int32} (h : St nd nb nr fe co t bl ms S) {v1 v2 v4 : Int32} {K : Int32 → Int32 → Int32 → Int32 → RS → Option (Int32 × RS)} (hK : ∀ x, ok (K v1 v2 x v4 S) (fun q => q.2 = S)) : ∀ (fu j : Nat) (x : Int32), j ≤ nb → nb - j < fu → ok (gX10_queue_77 K fu v1 v2 x v4 (nI j) S) (fun q => q.2 = S) := by
  have b2 := h.1.2.1.2
  intro fu
  induction fu with
  | zero => intro j x hj hf; omega
  | succ fu ih =>
    intro j x hj hf
    rw [gX10_queue_77, nI_1 j]
    refine ok_ite (fun _ => hK x) (fun c => ?_)
    have hj2 : j < nb := nl h.1.2.1.1 (by omega) (by omega) c
    have go : ∀ x, ok (gX10_queue_77 K fu v1 v2 x v4 (nI (j + 1)) S) (fun q => q.2 = S) := fun x => ih (j + 1) x (by omega) (by omega)
    have en : ok (if v1 = 1 then (ld S 7 40 (nI j) fun y38 => some (y38, S)) else (ld S 6 40 (nI j) fun y36 => some (y36, S))) (fun q => q.2 = S) := ok_ite (fun _ => ok_ld rfl (by omega) (by decide) (fun _ _ => ok_some rfl)) (fun _ => ok_ld rfl (by omega) (by decide) (fun _ _ => ok_some rfl))
    refine ok_ite (fun _ => ?_) (fun _ => ?_)
    · refine ok_ld rfl (by omega) (by decide) (fun _ _ => ok_ite (fun _ => go _) (fun _ => ok_ld rfl (by omega) (by decide) (fun _ _ => ok_ite (fun _ => ?_) (fun _ => go _))))
      exact ok_ld rfl (by omega) (by decide) (fun _ _ => ok_ite (fun _ => go _) (fun _ => ok_ite (fun _ => en) (fun _ => go _)))
    · refine ok_ld rfl (by omega) (by decide) (fun _ _ => ok_ite (fun _ => ?_) (fun _ => go _))
      exact ok_ld rfl (by omega) (by decide) (fun _ _ => ok_ite (fun _ => ok_ite (fun _ => en) (fun _ => go _)) (fun _ => go _))
theorem u_q65 {t bl : Int32} {ms : List Int32} (h : St nd nb nr fe co t bl ms S) {v1 v2 : Int32} {K : Int32 → Int32 → RS → Option (Int32 × RS)} (hK : ∀ x, ok (K v2 x S) (fun q => q.2 = S)) {n : Nat} (hn : n < 2 ^ 31) (e : S 0 20 ≤ nI n) : ∀ (fu j : Nat) (x : Int32), j ≤ n → n - j < fu → ok (gX10_queue_65 K fu v1 v2 x (nI j) S) (fun q => q.2 = S) := by
  have b2 := h.1.2.1.2
  intro fu
  induction fu with
  | zero => intro j x hj hf; omega
  | succ fu ih =>
    intro j x hj hf
    rw [gX10_queue_65]
    refine ok_ite (fun _ => hK x) (fun c => ?_)
    have hj2 : j < n := by
      rcases Nat.lt_or_ge j n with h9 | h9
      · exact h9
      · obtain rfl : j = n := by omega
        exact absurd e c
    rw [show (0 : Int32) = nI 0 from rfl]
    refine u_q77 h (fun y => ?_) 1000 0 x (by omega) (by omega)
    rw [nI_1 j]
    exact ih (j + 1) y (by omega) (by omega)
theorem u_queue (h : RX M A cf C S) (k v : Int32) : ok (gX10_queue S k v) (fun q => RX M A cf C q.2) := by
  have hd := RX_0 h 0
  unfold gX10_queue
  refine ok_bnd ?_
  generalize wr S 0 0 0 = S1 at hd ⊢
  obtain ⟨nd, nb, nr, fe, co, W, DL, BT, CT, hr⟩ := id hd
  obtain ⟨t, bl, ms, hst⟩ := hr.1
  have h8 := hr.2.2.2.2.2.2.2.2.2.1
  refine t_in (ok_ite (fun _ => ok_some hd) (fun _ => ok_ite (fun cv => ok_ite (fun _ => ?_) (fun _ => ?_)) (fun _ => ok_some hd)))
  · refine ok_bd1 (r_find hr) (fun S2 ⟨f, hf, e2, h2⟩ => ?_)
    have h2 : RX M A cf C S2 := ⟨nd, nb, nr, fe, co, W, DL, BT, CT, h2⟩
    have e57 : S2 0 57 = nI DL.length := by
      rw [e2]
      rfl
    have hl := h8.1.1.2.1
    refine ok_ite (fun _ => ok_some h2) (fun c => ok_ite (fun _ => ok_some h2) (fun c2 => ?_))
    have k0 : (0 : Int32).toInt = 0 := by decide
    have k1 : (-1 : Int32).toInt = -1 := by decide
    have hv0 : ¬ v < 0 := by
      rw [fa_lt, k0]
      rw [fa_le, k1] at cv
      rw [fa_eq, k1] at c
      omega
    rw [e57] at c2
    obtain ⟨i, hi, rfl⟩ := ix_of hv0 c2 (by omega)
    exact ok_ld rfl (by omega) (by decide) (fun _ _ => ok_some h2)
  · have hl : ∃ n, n < 2 ^ 31 ∧ S1 0 20 ≤ nI n := by
      refine ⟨2 ^ 31 - 1, by omega, ?_⟩
      rw [fa_le, nI_toInt (by omega)]
      have := Int32.toInt_lt (S1 0 20)
      omega
    obtain ⟨n, hn, en⟩ := hl
    rw [show (0 : Int32) = nI 0 from rfl]
    have h1q : ∀ y, ok (some (y, S1)) (fun q : Int32 × RS => q.2 = S1) := fun y => ok_some rfl
    refine ok_mono (u_q65 hst (fun x => ok_ite (fun _ => h1q x) (fun _ => h1q (-1))) hn en 3000000000 0 _ (by omega) (by omega)) (fun q hq => ?_)
    rw [hq]
    exact hd
theorem w_queue0 (h : RX M A cf C S) (k v : Int32) : ok2 (gX9_queue g cf nm C k v) (gX10_queue S k v) (fun _ y => RX M A cf C y.2) := by
  obtain ⟨nd, nb, nr, fe, co, W, DL, BT, CT, hr⟩ := id h
  obtain ⟨a, ea, _⟩ := g_queue (g := g) (nm := nm) hr k v
  obtain ⟨b, eb, hb⟩ := u_queue h k v
  exact ⟨a, b, ea, eb, hb⟩
end COUNT
