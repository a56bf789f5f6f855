/-! events: kept on both sides, not compared -/
theorem wr_id (S : RS) (k i : Nat) : wr S k i (S k i) = S := by
  funext j b
  rw [wr_ap]
  by_cases h : j = k
  · subst h
    rw [if_pos rfl]
    by_cases e : b = i
    · rw [if_pos e, e]
    · rw [if_neg e]
  · rw [if_neg h]
theorem wr_pl (I : RS) {k : Nat} (hk : k < 1000) (a : Nat) (v : Int32) (x : Nat) : wr I k a v (1000 + x) = I (1000 + x) := wr_n _ _ _ _ (by omega)
theorem va_p1 (I : RS) {k : Nat} (hk : k < 1000) (f : Nat → Int32) (x : Nat) : va_up I k f (1000 + x) = I (1000 + x) := va_up_ne _ _ (by omega)
theorem R5_fr {A : Nat → Nat → Nat} {cf : Nat → Nat → Nat} {nb : Nat} {I I' : RS} {s17 s18 s23 s24 s26 s27 s28 s29 : Nat → Int32} (h : R5 A cf nb I s17 s18 s23 s24 s26 s27 s28 s29) (hp : ∀ x, I' (1000 + x) = I (1000 + x)) (e5 : I' 105 = I 105) (e6 : I' 106 = I 106) (e7 : I' 107 = I 107) : R5 A cf nb I' s17 s18 s23 s24 s26 s27 s28 s29 := by
  obtain ⟨a, b, c, d, e⟩ := h
  refine ⟨by rw [e5]; exact a, by rw [e6]; exact b, by rw [e7]; exact c, fun r n hr hn hs i hi => ?_, fun r n hr hn hs i hi => ?_⟩
  · simp only [hp]
    exact d r n hr hn hs i hi
  · simp only [hp]
    exact e r n hr hn hs i hi
/-- a worker's release -/
abbrev rls (C : CS) (a : Nat) : CS := (wr C.1 162 a 0, va_up (va_up C.2 160 (va_up (C.2 160) a none)) 161 (va_up (C.2 161) a none))
abbrev kp (C : CS) (v : Int32) (f : Nat → Int32) : CS := (va_up (wr C.1 200 15 v) 204 f, C.2)
theorem kp_eq {C C' : CS} (h : ∀ k, k ≠ 204 → C'.1 k = C.1 k) (h2 : C'.2 = C.2) (v : Int32) : wi C' 200 15 v = kp C v (C'.1 204) := by
  unfold wi
  rw [h2]
  refine congrArg (fun x => (x, C.2)) ?_
  funext k
  by_cases e : k = 204
  · subst e
    rw [va_up_self, wr_n _ _ _ _ (by decide)]
  · rw [va_up_ne _ _ e]
    by_cases e2 : k = 200
    · subst e2
      rw [wr_s, wr_s, h 200 (by decide)]
    · rw [wr_n _ _ _ _ e2, wr_n _ _ _ _ e2, h k e]
theorem ix4 (e : Nat) : nI e * 4 = nI (e * 4) := (Int32.ofNat_mul e 4).symm
theorem g_keep {g : Nat → Nat → Option Nat} {cf : Nat → Nat → Nat} {nm : Nat → Int32} {C : CS} (h : ∃ e, e ≤ 400 ∧ C.1 200 15 = nI e) (a b c d : Int32) : ok (gX2_keep g cf nm C a b c d) (fun C' => ∃ v f, (∃ e, e ≤ 400 ∧ v = nI e) ∧ C' = kp C v f) := by
  obtain ⟨e, he, ee⟩ := h
  unfold gX2_keep
  refine ok_ite (fun c9 => ?_) (fun c9 => ok_some ⟨C.1 200 15, C.1 204, ⟨e, he, ee⟩, ?_⟩)
  · have he4 : e < 400 := by
      rw [ee] at c9
      exact (nI_ltI (b := 400) (by omega) (by omega)).mp c9
    have i0 : C.1 200 15 * 4 = nI (e * 4) := by rw [ee, ix4]
    have i1 : C.1 200 15 * 4 + 1 = nI (e * 4 + 1) := by rw [i0, nI_1]
    have i2 : C.1 200 15 * 4 + 2 = nI (e * 4 + 2) := by rw [i0]; exact nI_add (e * 4) 2
    have i3 : C.1 200 15 * 4 + 3 = nI (e * 4 + 3) := by rw [i0]; exact nI_add (e * 4) 3
    refine c_si i0 (by omega) (by decide) (c_si i1 (by omega) (by decide) (c_si i2 (by omega) (by decide) (c_si i3 (by omega) (by decide) (ok_bnd (ok_some ⟨_, _, ⟨e + 1, by omega, ?_⟩, kp_eq (C := C) (C' := wi (wi (wi (wi C 204 (e * 4) a) 204 (e * 4 + 1) b) 204 (e * 4 + 2) c) 204 (e * 4 + 3) d) (fun k hk => ?_) rfl _⟩)))))
    · show C.1 200 15 + 1 = _
      rw [ee, nI_1]
    · show wr (wr (wr (wr C.1 204 _ _) 204 _ _) 204 _ _) 204 _ _ k = _
      rw [wr_n _ _ _ _ hk, wr_n _ _ _ _ hk, wr_n _ _ _ _ hk, wr_n _ _ _ _ hk]
  · have := kp_eq (C := C) (C' := C) (fun _ _ => rfl) rfl (C.1 200 15)
    rw [← this]
    unfold wi
    rw [wr_id]
abbrev evr (S : RS) (v : Int32) (f1 f2 f3 f4 : Nat → Int32) : RS := va_up (va_up (va_up (va_up (wr S 0 47 v) 35 f1) 36 f2) 37 f3) 38 f4
theorem evr_eq {S S' : RS} (h2 : ∀ k, k ≠ 0 → k ≠ 35 → k ≠ 36 → k ≠ 37 → k ≠ 38 → S' k = S k) (h3 : ∀ j, j ≠ 47 → S' 0 j = S 0 j) : S' = evr S (S' 0 47) (S' 35) (S' 36) (S' 37) (S' 38) := by
  funext k
  show S' k = va_up (va_up (va_up (va_up (wr S 0 47 (S' 0 47)) 35 (S' 35)) 36 (S' 36)) 37 (S' 37)) 38 (S' 38) k
  by_cases e8 : k = 38
  · subst e8; rw [va_up_self]
  rw [va_up_ne _ _ e8]
  by_cases e7 : k = 37
  · subst e7; rw [va_up_self]
  rw [va_up_ne _ _ e7]
  by_cases e6 : k = 36
  · subst e6; rw [va_up_self]
  rw [va_up_ne _ _ e6]
  by_cases e5 : k = 35
  · subst e5; rw [va_up_self]
  rw [va_up_ne _ _ e5]
  by_cases e0 : k = 0
  · subst e0
    funext j
    rw [wr_ap, if_pos rfl]
    by_cases e : j = 47
    · rw [if_pos e, e]
    · rw [if_neg e, h3 j e]
  · rw [wr_n _ _ _ _ e0, h2 k e0 e5 e6 e7 e8]
section KEEP
variable {g : Nat → Nat → Option Nat} {cf : Nat → Nat → Nat} {nm : Nat → Int32} {A : Nat → Nat → Nat} {M : MP} {nd nb nr fe co : Nat} {W : Nat → Nat} {DL BT CT : List Nat} {C : CS} {S : RS} {t bl : Int32} {ms : List Int32} {α β : Type} {o : Option α} {p : Option β} {Q : α → β → Prop}
theorem r_event (h : St nd nb nr fe co t bl ms S) (a b c x : Int32) : ok (gX10_event S a b c x) (fun S' => ∃ v f1 f2 f3 f4, (∃ e, e ≤ 400 ∧ v = nI e) ∧ S' = evr S v f1 f2 f3 f4) := ok_mono (t_ev h a b c x) (fun S' h9 => ⟨S' 0 47, S' 35, S' 36, S' 37, S' 38, h9.1.1.2.2.2.2.2.2.2.2, evr_eq h9.2.1 h9.2.2⟩)
theorem l_keep {a b c d : Int32} {K : CS → Option α} (h : ∃ e, e ≤ 400 ∧ C.1 200 15 = nI e) (hk : ∀ v f, (∃ e, e ≤ 400 ∧ v = nI e) → ok2 (K (kp C v f)) p Q) : ok2 (bd1 (gX2_keep g cf nm C a b c d) K) p Q := l_bd (g_keep h a b c d) (fun C' h9 => by
  obtain ⟨v, f, hv, rfl⟩ := h9
  exact hk v f hv)
theorem r_ev {a b c x : Int32} {K : RS → Option β} (h : St nd nb nr fe co t bl ms S) (hk : ∀ v f1 f2 f3 f4, (∃ e, e ≤ 400 ∧ v = nI e) → ok2 o (K (evr S v f1 f2 f3 f4)) Q) : ok2 o (bd1 (gX10_event S a b c x) K) Q := r_bd (r_event h a b c x) (fun S' h9 => by
  obtain ⟨v, f1, f2, f3, f4, hv, rfl⟩ := h9
  exact hk v f1 f2 f3 f4 hv)
theorem Rel_kp (h : Rel M A cf nd nb nr fe co W DL BT CT C S) {v : Int32} (f : Nat → Int32) (hv : ∃ e, e ≤ 400 ∧ v = nI e) : Rel M A cf nd nb nr fe co W DL BT CT (kp C v f) S := by
  obtain ⟨h0, hM, h1, h2, h3, h4, h5, h6, h7, h8, h9⟩ := h
  refine ⟨h0, hM, ⟨h1.1, hv⟩, h2, h3, h4, R5_fr h5 (fun x => ?_) rfl rfl rfl, h6, h7, h8, h9⟩
  show va_up (wr C.1 200 15 v) 204 f (1000 + x) = _
  rw [va_p1 _ (by decide), wr_pl _ (by decide)]
theorem Rel_evr (h : Rel M A cf nd nb nr fe co W DL BT CT C S) {v : Int32} (f1 f2 f3 f4 : Nat → Int32) (hv : ∃ e, e ≤ 400 ∧ v = nI e) : Rel M A cf nd nb nr fe co W DL BT CT C (evr S v f1 f2 f3 f4) := by
  obtain ⟨⟨t, bl, ms, ⟨e1, e2, e3, e7, e8, e4, e5, hm, hev⟩, hR, hJ⟩, hM, h1, h2, h3, h4, h5, h6, h7, h8, h9⟩ := h
  exact ⟨⟨t, bl, ms, ⟨e1, e2, e3, e7, e8, e4, e5, hm, hv⟩, hR, hJ⟩, hM, h1, h2, h3, h4, h5, h6, h7, h8, h9⟩
/-- an event on both sides -/
theorem b_keep {a b c d a' b' c' x' : Int32} {K : CS → Option α} {K' : RS → Option β} (h : Rel M A cf nd nb nr fe co W DL BT CT C S) (hk : ∀ C' S', Rel M A cf nd nb nr fe co W DL BT CT C' S' → ok2 (K C') (K' S') Q) : ok2 (bd1 (gX2_keep g cf nm C a b c d) K) (bd1 (gX10_event S a' b' c' x') K') Q := by
  obtain ⟨t, bl, ms, hs⟩ := h.1
  exact l_keep h.2.2.1.2 (fun v f hv => r_ev hs (fun v' f1 f2 f3 f4 hv' => hk _ _ (Rel_evr (Rel_kp h f hv) f1 f2 f3 f4 hv')))
end KEEP
