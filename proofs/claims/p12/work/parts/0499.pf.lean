section PUF
variable {d bx rd fe co : Nat} {t bl : Int32} {ms : List Int32} {S : RS}
theorem t_about (h : St d bx rd fe co t bl ms S) (r v : Int32) : ok (gX10_about S r v) (fun q => St d bx rd fe co t bl ms q.2) := by
  unfold gX10_about
  refine ok_bnd ?_
  have h1 := St_n h 0 (k := 0) (Or.inl rfl)
  generalize wr S 0 0 0 = S1 at h1 ⊢
  have b3 := h1.1.2.2.1.2
  refine ok_bd1 (t_isReader h1 r) (fun y hy => ok_ite (fun _ => ok_some h1) (fun c => ?_))
  obtain ⟨j, hj, rfl⟩ := hy.mp c
  have l20 : ∀ k, ok (ld S1 k 20 (nI j) fun y => some (y, S1)) (fun q => St d bx rd fe co t bl ms q.2) := fun k => ok_ld rfl (by omega) (by decide) (fun _ _ => ok_some h1)
  have l60 : ∀ k x : Nat, x = k + 5 → k < 3 → ok (ld S1 25 60 (((3 * nI j) + nI x) - 5) fun y => some (y, S1)) (fun q => St d bx rd fe co t bl ms q.2) := fun k x hx hk => ok_ld (j := 3 * j + k) (by rw [ix3, show (5 : Int32) = nI 5 from rfl, pk_sub (by omega), show 3 * j + x - 5 = 3 * j + k by omega]) (by omega) (by decide) (fun _ _ => ok_some h1)
  refine ok_ite (fun _ => l20 15) (fun _ => ok_ite (fun _ => l20 16) (fun _ => ok_ite (fun _ => l20 18) (fun _ => ok_ite (fun _ => ok_bd1 (t_many h1 _) (fun _ _ => ok_some h1)) (fun _ => ok_ite (fun _ => l20 19) (fun _ => ?_)))))
  refine ok_ite (fun c5 => by rw [c5]; exact l60 0 5 rfl (by decide)) (fun _ => ok_ite (fun c5 => by rw [c5]; exact l60 1 6 rfl (by decide)) (fun _ => ok_ite (fun c5 => by rw [c5]; exact l60 2 7 rfl (by decide)) (fun _ => ok_ite (fun _ => l20 21) (fun _ => ok_ite (fun _ => l20 22) (fun _ => ok_ite (fun _ => l20 23) (fun _ => ok_some h1))))))
theorem t_held (h : St d bx rd fe co t bl ms S) (r v : Int32) : ok (gX10_held S r v) (fun q => St d bx rd fe co t bl ms q.2) := by
  unfold gX10_held
  refine ok_bnd ?_
  have h1 := St_n h 0 (k := 0) (Or.inl rfl)
  generalize wr S 0 0 0 = S1 at h1 ⊢
  have b2 := h1.1.2.1.2
  have go : ∀ (fu j : Nat) (x : Int32), j ≤ bx → bx - j < fu → ok (gX10_held_24 (fun S14 => some ((-1), S14)) fu r x (nI j) S1) (fun q => St d bx rd fe co t bl ms q.2) := by
    intro fu
    induction fu with
    | zero => intro j x hj hf; omega
    | succ fu ih =>
      intro j x hj hf
      rw [gX10_held_24, nI_1 j]
      refine ok_ite (fun _ => ok_some h1) (fun c => ?_)
      have hj2 : j < bx := nl h1.1.2.1.1 (by omega) (by omega) c
      exact ok_ld rfl (by omega) (by decide) (fun _ _ => ok_ite (fun _ => ok_ite (fun _ => ok_some h1) (fun _ => ih (j + 1) _ (by omega) (by omega))) (fun _ => ih (j + 1) _ (by omega) (by omega)))
  exact ok_bd1 (t_isReader h1 r) (fun y hy => ok_ite (fun _ => ok_some h1) (fun c => ok_ite (fun _ => go 1000 0 v (by omega) (by omega)) (fun _ => ok_some h1)))
theorem t_refused (h : St d bx rd fe co t bl ms S) (r v : Int32) : ok (gX10_refused S r v) (fun q => St d bx rd fe co t bl ms q.2) := by
  unfold gX10_refused
  refine ok_bnd ?_
  have h1 := St_n h 0 (k := 0) (Or.inl rfl)
  generalize wr S 0 0 0 = S1 at h1 ⊢
  have b3 := h1.1.2.2.1.2
  refine ok_bd1 (t_isReader h1 r) (fun y hy => ok_ite (fun _ => ok_some h1) (fun c => ?_))
  obtain ⟨j, hj, rfl⟩ := hy.mp c
  obtain ⟨s, q, m, a1, a2, a3, f1, f2, f3⟩ := h1.2.1.2.1 j
  refine ok_ld rfl (by omega) (by decide) (fun y2 ey2 => t_in (ok_ite (fun _ => ok_some h1) (fun c2 => ?_)))
  rw [ey2, f3] at c2
  obtain ⟨i, hi, rfl⟩ := (in_sub (by omega)).mp c2
  exact ok_ld (ix16 j i) (by omega) (by decide) (fun _ _ => ok_some h1)
theorem t_place (h : St d bx rd fe co t bl ms S) (v : Int32) : ok (gX10_place S v) (fun q => St d bx rd fe co t bl ms q.2) := by
  unfold gX10_place
  refine ok_bnd ?_
  have h1 := St_n h 0 (k := 0) (Or.inl rfl)
  generalize wr S 0 0 0 = S1 at h1 ⊢
  have b2 := h1.1.2.1.2
  refine ok_bd1 (t_isBox h1 v) (fun y hy => ok_ite (fun _ => ok_some h1) (fun c => ?_))
  obtain ⟨j, hj, rfl⟩ := hy.mp c
  exact ok_ld rfl (by omega) (by decide) (fun _ _ => ok_some h1)
theorem t_whose (h : St d bx rd fe co t bl ms S) (v : Int32) : ok (gX10_whose S v) (fun q => St d bx rd fe co t bl ms q.2) := by
  unfold gX10_whose
  refine ok_bnd ?_
  have h1 := St_n h 0 (k := 0) (Or.inl rfl)
  generalize wr S 0 0 0 = S1 at h1 ⊢
  have b2 := h1.1.2.1.2
  refine ok_bd1 (t_isBox h1 v) (fun y hy => ok_ite (fun _ => ok_some h1) (fun c => ?_))
  obtain ⟨j, hj, rfl⟩ := hy.mp c
  exact ok_ld rfl (by omega) (by decide) (fun _ _ => ok_ite (fun _ => ok_ld rfl (by omega) (by decide) (fun _ _ => ok_some h1)) (fun _ => ok_ld rfl (by omega) (by decide) (fun _ _ => ok_some h1)))
theorem t_seated (h : St d bx rd fe co t bl ms S) (v : Int32) : ok (gX10_seated S v) (fun q => St d bx rd fe co t bl ms q.2) := by
  unfold gX10_seated
  refine ok_bnd ?_
  have h1 := St_n h 0 (k := 0) (Or.inl rfl)
  generalize wr S 0 0 0 = S1 at h1 ⊢
  have b1 := h1.1.1.2
  refine t_in (ok_ite (fun _ => ok_some h1) (fun c => ?_))
  rw [h1.1.1.1] at c
  obtain ⟨j, hj, rfl⟩ := (in_sub (by omega)).mp c
  exact ok_ld rfl (by omega) (by decide) (fun _ _ => ok_some h1)
theorem t_worker (h : St d bx rd fe co t bl ms S) (k w v : Int32) : ok (gX10_worker S k w v) (fun q => St d bx rd fe co t bl ms q.2) := by
  unfold gX10_worker
  refine ok_bnd ?_
  have h1 := St_n h 0 (k := 0) (Or.inl rfl)
  generalize wr S 0 0 0 = S1 at h1 ⊢
  have e7 := h1.1.2.2.2.1.1
  have b7 := h1.1.2.2.2.1.2
  have e8 := h1.1.2.2.2.2.1.1
  have b8 := h1.1.2.2.2.2.1.2
  refine t_in (ok_ite (fun _ => ok_some h1) (fun _ => t_in (ok_ite (fun _ => ok_some h1) (fun _ => ok_ite (fun ck => t_in (ok_ite (fun _ => ok_some h1) (fun c => ?_))) (fun ck => t_in (ok_ite (fun _ => ok_some h1) (fun c => ?_)))))))
  · rw [e7] at c
    obtain ⟨j, hj, rfl⟩ := (in_sub (by omega)).mp c
    refine ok_t ck (ok_ld rfl (by omega) (by decide) (fun _ _ => ok_ite (fun _ => ok_some h1) (fun _ => ok_ite (fun _ => ok_some h1) (fun _ => ok_t ck (ok_ld rfl (by omega) (by decide) (fun _ _ => ok_some h1))))))
  · rw [e8] at c
    obtain ⟨j, hj, rfl⟩ := (in_sub (by omega)).mp c
    refine ok_f ck (ok_ld rfl (by omega) (by decide) (fun _ _ => ok_ite (fun _ => ok_some h1) (fun _ => ok_ite (fun _ => ok_some h1) (fun _ => ok_f ck (ok_ld rfl (by omega) (by decide) (fun _ _ => ok_some h1))))))
theorem t_q77 (h : St d bx rd fe co t bl ms S) {v1 v2 v4 : Int32} {K : Int32 → Int32 → Int32 → Int32 → RS → Option (Int32 × RS)} (hK : ∀ x, ok (K v1 v2 x v4 S) (fun q => St d bx rd fe co t bl ms q.2)) : ∀ (fu j : Nat) (x : Int32), j ≤ bx → bx - j < fu → ok (gX10_queue_77 K fu v1 v2 x v4 (nI j) S) (fun q => St d bx rd fe co t bl ms q.2) := by
  have b2 := h.1.2.1.2
  intro fu
  induction fu with
  | zero => intro j x hj hf; omega
  | succ fu ih =>
    intro j x hj hf
    rw [gX10_queue_77, nI_1 j]
    refine ok_ite (fun _ => hK x) (fun c => ?_)
    have hj2 : j < bx := nl h.1.2.1.1 (by omega) (by omega) c
    have go : ∀ x, ok (gX10_queue_77 K fu v1 v2 x v4 (nI (j + 1)) S) (fun q => St d bx rd fe co t bl ms q.2) := fun x => ih (j + 1) x (by omega) (by omega)
    have en : ok (if v1 = 1 then (ld S 7 40 (nI j) fun y38 => some (y38, S)) else (ld S 6 40 (nI j) fun y36 => some (y36, S))) (fun q => St d bx rd fe co t bl ms q.2) := ok_ite (fun _ => ok_ld rfl (by omega) (by decide) (fun _ _ => ok_some h)) (fun _ => ok_ld rfl (by omega) (by decide) (fun _ _ => ok_some h))
    refine ok_ite (fun _ => ?_) (fun _ => ?_)
    · refine ok_ld rfl (by omega) (by decide) (fun _ _ => ok_ite (fun _ => go _) (fun _ => ok_ld rfl (by omega) (by decide) (fun _ _ => ok_ite (fun _ => ?_) (fun _ => go _))))
      exact ok_ld rfl (by omega) (by decide) (fun _ _ => ok_ite (fun _ => go _) (fun _ => ok_ite (fun _ => en) (fun _ => go _)))
    · refine ok_ld rfl (by omega) (by decide) (fun _ _ => ok_ite (fun _ => ?_) (fun _ => go _))
      exact ok_ld rfl (by omega) (by decide) (fun _ _ => ok_ite (fun _ => ok_ite (fun _ => en) (fun _ => go _)) (fun _ => go _))
theorem t_q65 (h : St d bx rd fe co t bl ms S) {v1 v2 : Int32} {K : Int32 → Int32 → RS → Option (Int32 × RS)} (hK : ∀ x, ok (K v2 x S) (fun q => St d bx rd fe co t bl ms q.2)) {n : Nat} (hn : n < 2 ^ 31) (e : S 0 20 ≤ nI n) : ∀ (fu j : Nat) (x : Int32), j ≤ n → n - j < fu → ok (gX10_queue_65 K fu v1 v2 x (nI j) S) (fun q => St d bx rd fe co t bl ms q.2) := by
  have b2 := h.1.2.1.2
  intro fu
  induction fu with
  | zero => intro j x hj hf; omega
  | succ fu ih =>
    intro j x hj hf
    rw [gX10_queue_65]
    refine ok_ite (fun _ => hK x) (fun c => ?_)
    have hj2 : j < n := by
      rcases Nat.lt_or_ge j n with h9 | h9
      · exact h9
      · obtain rfl : j = n := by omega
        exact absurd e c
    rw [show (0 : Int32) = nI 0 from rfl]
    refine t_q77 h (fun y => ?_) 1000 0 x (by omega) (by omega)
    rw [nI_1 j]
    exact ih (j + 1) y (by omega) (by omega)
theorem t_queue (h : St d bx rd fe co t bl ms S) (k v : Int32) : ok (gX10_queue S k v) (fun q => St d bx rd fe co t bl ms q.2) := by
  unfold gX10_queue
  refine ok_bnd ?_
  have h1 := St_n h 0 (k := 0) (Or.inl rfl)
  generalize wr S 0 0 0 = S1 at h1 ⊢
  have b3 := h1.1.2.2.1.2
  refine t_in (ok_ite (fun _ => ok_some h1) (fun _ => ok_ite (fun cv => ok_ite (fun _ => ?_) (fun _ => ?_)) (fun _ => ok_some h1)))
  · refine ok_bd1 (t_findLine h1) (fun S2 ⟨h2, hrow, n, hn, e57, hp⟩ => ok_ite (fun _ => ok_some h2) (fun c => ok_ite (fun _ => ok_some h2) (fun c2 => ?_)))
    have k0 : (0 : Int32).toInt = 0 := by decide
    have k1 : (-1 : Int32).toInt = -1 := by decide
    have hv0 : ¬ v < 0 := by
      rw [fa_lt, k0]
      rw [fa_le, k1] at cv
      rw [fa_eq, k1] at c
      omega
    rw [e57] at c2
    obtain ⟨i, hi, rfl⟩ := ix_of hv0 c2 (by omega)
    exact ok_ld rfl (by omega) (by decide) (fun _ _ => ok_some h2)
  · have hl : ∃ n, n < 2 ^ 31 ∧ S1 0 20 ≤ nI n := by
      refine ⟨2 ^ 31 - 1, by omega, ?_⟩
      rw [fa_le, nI_toInt (by omega)]
      have := Int32.toInt_lt (S1 0 20)
      omega
    obtain ⟨n, hn, en⟩ := hl
    rw [show (0 : Int32) = nI 0 from rfl]
    have h1q : ∀ y, ok (some (y, S1)) (fun q : Int32 × RS => St d bx rd fe co t bl ms q.2) := fun y => ok_some h1
    exact t_q65 h1 (fun x => ok_ite (fun _ => h1q x) (fun _ => h1q (-1))) hn en 3000000000 0 _ (by omega) (by omega)
theorem t_event_ (h : St d bx rd fe co t bl ms S) (v w : Int32) : ok (gX10_event_ S v w) (fun q => St d bx rd fe co t bl ms q.2) := by
  obtain ⟨ev, hev, eev⟩ := h.1.2.2.2.2.2.2.2.2
  unfold gX10_event_
  have k1 : ∀ x, ¬ (wr S 0 0 x) 0 0 ≤ 0 → True := fun _ _ => trivial
  have h1 : ∀ x, St d bx rd fe co t bl ms (wr S 0 0 x) := fun x => St_n h x (Or.inl rfl)
  refine t_in (ok_ite (fun _ => ok_bnd (ok_f ?_ (ok_some (h1 1)))) (fun c => t_in (ok_ite (fun _ => ok_bnd (ok_f ?_ (ok_some (h1 1)))) (fun c2 => ok_bnd ?_))))
  · show ¬ (1 : Int32) ≤ 0
    decide
  · show ¬ (1 : Int32) ≤ 0
    decide
  · rw [eev] at c
    obtain ⟨i, hi, rfl⟩ := (in_sub (by omega)).mp c
    refine ok_ite (fun _ => ?_) (fun _ => ok_some (h1 0))
    exact ok_ite (fun _ => ok_ld rfl (by omega) (by decide) (fun _ _ => ok_some (h1 0))) (fun _ => ok_ite (fun _ => ok_ld rfl (by omega) (by decide) (fun _ _ => ok_some (h1 0))) (fun _ => ok_ite (fun _ => ok_ld rfl (by omega) (by decide) (fun _ _ => ok_some (h1 0))) (fun _ => ok_ld rfl (by omega) (by decide) (fun _ _ => ok_some (h1 0)))))
theorem t_home (h : St d bx rd fe co t bl ms S) : ok (gX10_home S) (fun _ => True) := by
  have b2 := h.1.2.1.2
  have go : ∀ (fu j : Nat) (x : Int32), j ≤ bx → bx - j < fu → ok (gX10_home_4 S (fun v => some v) fu x (nI j)) (fun _ => True) := by
    intro fu
    induction fu with
    | zero => intro j x hj hf; omega
    | succ fu ih =>
      intro j x hj hf
      rw [gX10_home_4, nI_1 j]
      refine ok_ite (fun _ => ok_some trivial) (fun c => ?_)
      have hj2 : j < bx := nl h.1.2.1.1 (by omega) (by omega) c
      exact ok_ld rfl (by omega) (by decide) (fun _ _ => ok_ite (fun _ => ih (j + 1) _ (by omega) (by omega)) (fun _ => ih (j + 1) _ (by omega) (by omega)))
  unfold gX10_home
  exact go 1000 0 0 (by omega) (by omega)
theorem t_isQuiet (h : St d bx rd fe co t bl ms S) : ok (gX10_isQuiet S) (fun _ => True) := by
  have b3 := h.1.2.2.1.2
  have go : ∀ (K : Option Int32) (fu j : Nat), ok K (fun _ => True) → j ≤ rd → rd - j < fu → ok (gX10_isQuiet_2 S K fu (nI j)) (fun _ => True) := by
    intro K fu
    induction fu with
    | zero => intro j hk hj hf; omega
    | succ fu ih =>
      intro j hk hj hf
      rw [gX10_isQuiet_2, nI_1 j]
      refine ok_ite (fun _ => hk) (fun c => ?_)
      have hj2 : j < rd := nl h.1.2.2.1.1 (by omega) (by omega) c
      exact ok_ld rfl (by omega) (by decide) (fun _ _ => t_in (ok_ite (fun _ => ok_some trivial) (fun _ => ih (j + 1) hk (by omega) (by omega))))
  unfold gX10_isQuiet
  exact go _ 1000 0 (ok_bd1 (t_home h) (fun _ _ => ok_ite (fun _ => ok_some trivial) (fun _ => ok_some trivial))) (by omega) (by omega)
theorem t_c129 (h : St d bx rd fe co t bl ms S) {k x : Nat} (hx : x = k + 7) (hk : k < 3) {K : Int32 → RS → Option (Int32 × RS)} (hK : ∀ y, ok (K y S) (fun q => St d bx rd fe co t bl ms q.2)) : ∀ (fu j : Nat) (y : Int32), j ≤ rd → rd - j < fu → ok (gX10_count_129 K fu (nI x) y (nI j) S) (fun q => St d bx rd fe co t bl ms q.2) := by
  have b3 := h.1.2.2.1.2
  intro fu
  induction fu with
  | zero => intro j y hj hf; omega
  | succ fu ih =>
    intro j y hj hf
    rw [gX10_count_129, nI_1 j]
    refine ok_ite (fun _ => hK y) (fun c => ?_)
    have hj2 : j < rd := nl h.1.2.2.1.1 (by omega) (by omega) c
    have ei : (3 : Int32) * nI j + nI x - 7 = nI (3 * j + k) := by rw [ix3, show (7 : Int32) = nI 7 from rfl, pk_sub (by omega), show 3 * j + x - 7 = 3 * j + k by omega]
    exact ok_ld ei (by omega) (by decide) (fun _ _ => ok_ite (fun _ => ih (j + 1) _ (by omega) (by omega)) (fun _ => ok_ld ei (by omega) (by decide) (fun _ _ => ih (j + 1) _ (by omega) (by omega))))
theorem t_count (h : St d bx rd fe co t bl ms S) (v : Int32) : ok (gX10_count S v) (fun q => St d bx rd fe co t bl ms q.2) := by
  unfold gX10_count
  refine ok_bnd ?_
  have h1 := St_n h 0 (k := 0) (Or.inl rfl)
  generalize wr S 0 0 0 = S1 at h1 ⊢
  have b3 := h1.1.2.2.1.2
  refine ok_ite (fun _ => ok_some h1) (fun _ => ok_ite (fun _ => ok_some h1) (fun _ => ok_ite (fun _ => ok_some h1) (fun _ => ok_ite (fun _ => ok_some h1) (fun _ => ok_ite (fun _ => ok_some h1) (fun _ => ok_ite (fun _ => ok_bd1 (t_home h1) (fun _ _ => ok_some h1)) (fun _ => ok_ite (fun _ => ok_bd1 (t_isQuiet h1) (fun _ _ => ok_ite (fun _ => ok_some h1) (fun _ => ok_some h1))) (fun _ => ?_)))))))
  have h1q : ∀ y, ok (some (y, S1)) (fun q : Int32 × RS => St d bx rd fe co t bl ms q.2) := fun y => ok_some h1
  refine ok_ite (fun c => by rw [c]; exact t_c129 h1 (k := 0) (x := 7) rfl (by decide) (fun y => h1q y) 1000 0 0 (by omega) (by omega)) (fun _ => ok_ite (fun c => by rw [c]; exact t_c129 h1 (k := 1) (x := 8) rfl (by decide) (fun y => h1q y) 1000 0 0 (by omega) (by omega)) (fun _ => ok_ite (fun c => by rw [c]; exact t_c129 h1 (k := 2) (x := 9) rfl (by decide) (fun y => h1q y) 1000 0 0 (by omega) (by omega)) (fun _ => ?_)))
  exact ok_ite (fun _ => ok_some h1) (fun _ => ok_ite (fun _ => ok_some h1) (fun _ => ok_ite (fun _ => ok_some h1) (fun _ => ok_ite (fun _ => ok_some h1) (fun _ => ok_ite (fun _ => ok_some h1) (fun _ => ok_some h1)))))
end PUF
