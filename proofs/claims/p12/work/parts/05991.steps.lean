section STEPS
variable {g : Nat → Nat → Option Nat} {cf : Nat → Nat → Nat} {nm : Nat → Int32} {A : Nat → Nat → Nat} {M : MP} {nd nb nr fe co : Nat} {W : Nat → Nat} {DL BT CT : List Nat} {C : CS} {S : RS}
theorem bd1_e {α β : Type} (a : α) (K : α → Option β) : bd1 (some a) K = K a := rfl
/-- one more step for a reader's plan -/
theorem b_app (he : EN g cf nm A) (h : Rel M A cf nd nb nr fe co W DL BT CT C S) {r s : Nat} (hr : r < nr) (hs : s < 16) (es : S 17 r = nI s) {k cb rb am ug : Int32} (hu : b01 ug) (hrb : ixn 40 rb) (hk1 : k = 1 → cb = -1 ∧ ∃ t, 1 ≤ t ∧ t ≤ 50 ∧ am = nI t) (hk2 : ¬ k = 1 → ∃ b, b < nb ∧ rb = nI b ∧ cb = nI b) : ok2 (gX5_append g cf nm C (cf 0 (A 2 r)) k cb am ug) (gX10_plans S (nI r) k rb am ug) (fun x y => x.1 = 1 ∧ y.1 = 1 ∧ Rel M A cf nd nb nr fe co W DL BT CT x.2 y.2) := by
  obtain ⟨⟨t, bl, ms, hst⟩, hM, h1, h2, h3, h4, h5, hrest⟩ := id h
  obtain ⟨p1, p2, p3, p4, p5⟩ := id h5
  have b3 := hst.1.2.2.1.2
  have hr20 : r < 20 := by omega
  have e105 : C.1 105 (cf 0 (A 2 r)) = nI s := (p1 r hr20).trans es
  have ei : (16 : Int32) * nI r + nI s = nI (16 * r + s) := ix16 r s
  have hhk : k = 1 ∨ ∃ b, b < nb ∧ rb = nI b := by
    by_cases c : k = 1
    · exact Or.inl c
    · obtain ⟨b, hb, e, _⟩ := hk2 c
      exact Or.inr ⟨b, hb, e⟩
  have hst' : St nd nb nr fe co t bl ms (wr (wr (wr (wr (wr S 26 (16 * r + s) k) 27 (16 * r + s) rb) 28 (16 * r + s) am) 29 (16 * r + s) ug) 17 r (nI (s + 1))) := ⟨hst.1, R_sp (R_sb hst.2.1 hrb) es hs, J_plan hst.2.2 hr20 hs es hhk⟩
  have n105 : ∀ j, (105 : Nat) ≠ 1000 + cf j (cf 0 (A 2 r)) := fun j => by omega
  unfold gX5_append gX10_plans
  rw [nar01 hu]
  refine l_t (by rw [e105]; exact nI_lt (b := 16) hs (by omega)) (l_bnd (l_si e105 hs (by decide) (l_bnd (l_si (j := s) ?_ hs (by decide) (l_bnd (l_si (j := s) ?_ hs (by decide) (l_bnd (l_si (j := s) ?_ hs (by decide) (l_bnd ?_)))))))))
  · show wr C.1 (1000 + cf 1 (cf 0 (A 2 r))) s k 105 (cf 0 (A 2 r)) = nI s
    rw [wr_n _ _ _ _ (n105 1)]
    exact e105
  · show wr (wr C.1 (1000 + cf 1 (cf 0 (A 2 r))) s k) (1000 + cf 2 (cf 0 (A 2 r))) s cb 105 (cf 0 (A 2 r)) = nI s
    rw [wr_n _ _ _ _ (n105 2), wr_n _ _ _ _ (n105 1)]
    exact e105
  · show wr (wr (wr C.1 (1000 + cf 1 (cf 0 (A 2 r))) s k) (1000 + cf 2 (cf 0 (A 2 r))) s cb) (1000 + cf 3 (cf 0 (A 2 r))) s am 105 (cf 0 (A 2 r)) = nI s
    rw [wr_n _ _ _ _ (n105 3), wr_n _ _ _ _ (n105 2), wr_n _ _ _ _ (n105 1)]
    exact e105
  have e9 : wr (wr (wr (wr C.1 (1000 + cf 1 (cf 0 (A 2 r))) s k) (1000 + cf 2 (cf 0 (A 2 r))) s cb) (1000 + cf 3 (cf 0 (A 2 r))) s am) (1000 + cf 4 (cf 0 (A 2 r))) s ug 105 (cf 0 (A 2 r)) = nI s := by
    rw [wr_n _ _ _ _ (n105 4), wr_n _ _ _ _ (n105 3), wr_n _ _ _ _ (n105 2), wr_n _ _ _ _ (n105 1)]
    exact e105
  refine r_ld rfl hr20 (by decide) (fun y1 ey1 => ?_)
  obtain rfl := ey1.trans es
  refine r_sv ei (by omega) (by decide) (r_sv ei (by omega) (by decide) (r_sv ei (by omega) (by decide) (r_sv ei (by omega) (by decide) (r_ld rfl hr20 (by decide) (fun y2 ey2 => ?_)))))
  rw [show y2 = nI s from ey2.trans es, nI_1]
  refine r_sv rfl hr20 (by decide) (b_some ⟨rfl, rfl, ?_⟩)
  have hfin : wi (wi (wi (wi (wi C (1000 + cf 1 (cf 0 (A 2 r))) s k) (1000 + cf 2 (cf 0 (A 2 r))) s cb) (1000 + cf 3 (cf 0 (A 2 r))) s am) (1000 + cf 4 (cf 0 (A 2 r))) s ug) 105 (cf 0 (A 2 r)) ((wi (wi (wi (wi C (1000 + cf 1 (cf 0 (A 2 r))) s k) (1000 + cf 2 (cf 0 (A 2 r))) s cb) (1000 + cf 3 (cf 0 (A 2 r))) s am) (1000 + cf 4 (cf 0 (A 2 r))) s ug).1 105 (cf 0 (A 2 r)) + 1) = (wr (wr (wr (wr (wr C.1 (1000 + cf 1 (cf 0 (A 2 r))) s k) (1000 + cf 2 (cf 0 (A 2 r))) s cb) (1000 + cf 3 (cf 0 (A 2 r))) s am) (1000 + cf 4 (cf 0 (A 2 r))) s ug) 105 (cf 0 (A 2 r)) (nI (s + 1)), C.2) := by
    show (wr (wr (wr (wr (wr C.1 (1000 + cf 1 (cf 0 (A 2 r))) s k) (1000 + cf 2 (cf 0 (A 2 r))) s cb) (1000 + cf 3 (cf 0 (A 2 r))) s am) (1000 + cf 4 (cf 0 (A 2 r))) s ug) 105 (cf 0 (A 2 r)) (wr (wr (wr (wr C.1 (1000 + cf 1 (cf 0 (A 2 r))) s k) (1000 + cf 2 (cf 0 (A 2 r))) s cb) (1000 + cf 3 (cf 0 (A 2 r))) s am) (1000 + cf 4 (cf 0 (A 2 r))) s ug 105 (cf 0 (A 2 r)) + 1), C.2) = _
    rw [e9, nI_1]
  show Rel M A cf nd nb nr fe co W DL BT CT (wi (wi (wi (wi (wi C (1000 + cf 1 (cf 0 (A 2 r))) s k) (1000 + cf 2 (cf 0 (A 2 r))) s cb) (1000 + cf 3 (cf 0 (A 2 r))) s am) (1000 + cf 4 (cf 0 (A 2 r))) s ug) 105 (cf 0 (A 2 r)) ((wi (wi (wi (wi C (1000 + cf 1 (cf 0 (A 2 r))) s k) (1000 + cf 2 (cf 0 (A 2 r))) s cb) (1000 + cf 3 (cf 0 (A 2 r))) s am) (1000 + cf 4 (cf 0 (A 2 r))) s ug).1 105 (cf 0 (A 2 r)) + 1)) (wr (wr (wr (wr (wr S 26 (16 * r + s) k) 27 (16 * r + s) rb) 28 (16 * r + s) am) 29 (16 * r + s) ug) 17 r (nI (s + 1)))
  rw [hfin]
  -- a plan's row of another reader, or of another kind, stays; its own has the new entry
  have hne : ∀ j l x, x < 20 → 1 ≤ j → j ≤ 5 → 1 ≤ l → l ≤ 5 → (x ≠ r ∨ j ≠ l) → 1000 + cf j (cf 0 (A 2 x)) ≠ 1000 + cf l (cf 0 (A 2 r)) := fun j l x hx j1 j5 l1 l5 hd hc => by
    obtain ⟨z1, z2⟩ := inja he x r j l hx hr20 j1 j5 l1 l5 (by omega)
    rcases hd with hd | hd
    · exact hd z1
    · exact hd z2
  have g105 : ∀ j x, (1000 + cf j (cf 0 (A 2 x)) : Nat) ≠ 105 := fun j x => by omega
  have row_n : ∀ j x, x < 20 → 1 ≤ j → j ≤ 5 → (x ≠ r ∨ j = 5) → wr (wr (wr (wr (wr C.1 (1000 + cf 1 (cf 0 (A 2 r))) s k) (1000 + cf 2 (cf 0 (A 2 r))) s cb) (1000 + cf 3 (cf 0 (A 2 r))) s am) (1000 + cf 4 (cf 0 (A 2 r))) s ug) 105 (cf 0 (A 2 r)) (nI (s + 1)) (1000 + cf j (cf 0 (A 2 x))) = C.1 (1000 + cf j (cf 0 (A 2 x))) := fun j x hx j1 j5 hd => by
    have q : ∀ l, 1 ≤ l → l ≤ 4 → 1000 + cf j (cf 0 (A 2 x)) ≠ 1000 + cf l (cf 0 (A 2 r)) := fun l l1 l4 => hne j l x hx j1 j5 l1 (by omega) (by rcases hd with hd | hd; exact Or.inl hd; exact Or.inr (by omega))
    rw [wr_n _ _ _ _ (g105 j x), wr_n _ _ _ _ (q 4 (by omega) (by omega)), wr_n _ _ _ _ (q 3 (by omega) (by omega)), wr_n _ _ _ _ (q 2 (by omega) (by omega)), wr_n _ _ _ _ (q 1 (by omega) (by omega))]
  have row_1 : wr (wr (wr (wr (wr C.1 (1000 + cf 1 (cf 0 (A 2 r))) s k) (1000 + cf 2 (cf 0 (A 2 r))) s cb) (1000 + cf 3 (cf 0 (A 2 r))) s am) (1000 + cf 4 (cf 0 (A 2 r))) s ug) 105 (cf 0 (A 2 r)) (nI (s + 1)) (1000 + cf 1 (cf 0 (A 2 r))) = upd (C.1 (1000 + cf 1 (cf 0 (A 2 r)))) s k := by
    rw [wr_n _ _ _ _ (g105 1 r), wr_n _ _ _ _ (hne 1 4 r hr20 (by omega) (by omega) (by omega) (by omega) (Or.inr (by omega))), wr_n _ _ _ _ (hne 1 3 r hr20 (by omega) (by omega) (by omega) (by omega) (Or.inr (by omega))), wr_n _ _ _ _ (hne 1 2 r hr20 (by omega) (by omega) (by omega) (by omega) (Or.inr (by omega))), wr_s]
  have row_2 : wr (wr (wr (wr (wr C.1 (1000 + cf 1 (cf 0 (A 2 r))) s k) (1000 + cf 2 (cf 0 (A 2 r))) s cb) (1000 + cf 3 (cf 0 (A 2 r))) s am) (1000 + cf 4 (cf 0 (A 2 r))) s ug) 105 (cf 0 (A 2 r)) (nI (s + 1)) (1000 + cf 2 (cf 0 (A 2 r))) = upd (C.1 (1000 + cf 2 (cf 0 (A 2 r)))) s cb := by
    rw [wr_n _ _ _ _ (g105 2 r), wr_n _ _ _ _ (hne 2 4 r hr20 (by omega) (by omega) (by omega) (by omega) (Or.inr (by omega))), wr_n _ _ _ _ (hne 2 3 r hr20 (by omega) (by omega) (by omega) (by omega) (Or.inr (by omega))), wr_s, wr_n _ _ _ _ (hne 2 1 r hr20 (by omega) (by omega) (by omega) (by omega) (Or.inr (by omega)))]
  have row_3 : wr (wr (wr (wr (wr C.1 (1000 + cf 1 (cf 0 (A 2 r))) s k) (1000 + cf 2 (cf 0 (A 2 r))) s cb) (1000 + cf 3 (cf 0 (A 2 r))) s am) (1000 + cf 4 (cf 0 (A 2 r))) s ug) 105 (cf 0 (A 2 r)) (nI (s + 1)) (1000 + cf 3 (cf 0 (A 2 r))) = upd (C.1 (1000 + cf 3 (cf 0 (A 2 r)))) s am := by
    rw [wr_n _ _ _ _ (g105 3 r), wr_n _ _ _ _ (hne 3 4 r hr20 (by omega) (by omega) (by omega) (by omega) (Or.inr (by omega))), wr_s, wr_n _ _ _ _ (hne 3 2 r hr20 (by omega) (by omega) (by omega) (by omega) (Or.inr (by omega))), wr_n _ _ _ _ (hne 3 1 r hr20 (by omega) (by omega) (by omega) (by omega) (Or.inr (by omega)))]
  have row_4 : wr (wr (wr (wr (wr C.1 (1000 + cf 1 (cf 0 (A 2 r))) s k) (1000 + cf 2 (cf 0 (A 2 r))) s cb) (1000 + cf 3 (cf 0 (A 2 r))) s am) (1000 + cf 4 (cf 0 (A 2 r))) s ug) 105 (cf 0 (A 2 r)) (nI (s + 1)) (1000 + cf 4 (cf 0 (A 2 r))) = upd (C.1 (1000 + cf 4 (cf 0 (A 2 r)))) s ug := by
    rw [wr_n _ _ _ _ (g105 4 r), wr_s, wr_n _ _ _ _ (hne 4 3 r hr20 (by omega) (by omega) (by omega) (by omega) (Or.inr (by omega))), wr_n _ _ _ _ (hne 4 2 r hr20 (by omega) (by omega) (by omega) (by omega) (Or.inr (by omega))), wr_n _ _ _ _ (hne 4 1 r hr20 (by omega) (by omega) (by omega) (by omega) (Or.inr (by omega)))]
  have hlow : ∀ x, x < 1000 → x ≠ 105 → wr (wr (wr (wr (wr C.1 (1000 + cf 1 (cf 0 (A 2 r))) s k) (1000 + cf 2 (cf 0 (A 2 r))) s cb) (1000 + cf 3 (cf 0 (A 2 r))) s am) (1000 + cf 4 (cf 0 (A 2 r))) s ug) 105 (cf 0 (A 2 r)) (nI (s + 1)) x = C.1 x := fun x hx h5 => by
    rw [wr_n _ _ _ _ h5, wr_n _ _ _ _ (by omega), wr_n _ _ _ _ (by omega), wr_n _ _ _ _ (by omega), wr_n _ _ _ _ (by omega)]
  have h105 : wr (wr (wr (wr (wr C.1 (1000 + cf 1 (cf 0 (A 2 r))) s k) (1000 + cf 2 (cf 0 (A 2 r))) s cb) (1000 + cf 3 (cf 0 (A 2 r))) s am) (1000 + cf 4 (cf 0 (A 2 r))) s ug) 105 (cf 0 (A 2 r)) (nI (s + 1)) 105 = upd (C.1 105) (cf 0 (A 2 r)) (nI (s + 1)) := by
    rw [wr_s, wr_n _ _ _ _ (n105 4), wr_n _ _ _ _ (n105 3), wr_n _ _ _ _ (n105 2), wr_n _ _ _ _ (n105 1)]
  generalize wr (wr (wr (wr (wr C.1 (1000 + cf 1 (cf 0 (A 2 r))) s k) (1000 + cf 2 (cf 0 (A 2 r))) s cb) (1000 + cf 3 (cf 0 (A 2 r))) s am) (1000 + cf 4 (cf 0 (A 2 r))) s ug) 105 (cf 0 (A 2 r)) (nI (s + 1)) = I' at row_n row_1 row_2 row_3 row_4 hlow h105 ⊢
  refine Rel_plan h (I' := I') (fun x hx n5 _ => hlow x hx n5) (fun x n17 _ _ n26 n27 n28 n29 => by rw [wr_n _ _ _ _ n17, wr_n _ _ _ _ n29, wr_n _ _ _ _ n28, wr_n _ _ _ _ n27, wr_n _ _ _ _ n26]) ⟨t, bl, ms, hst'⟩ ⟨?_, ?_, ?_, fun x n hx hn e i hi => ?_, fun x n hx hn e i hi => ?_⟩
  · rw [h105]
    exact VW_up p1 (fun i hi e => injp he i r hi hr20 e) (nI (s + 1))
  · rw [hlow 106 (by decide) (by decide)]
    exact p2
  · rw [hlow 107 (by decide) (by decide)]
    exact p3
  · show I' (1000 + cf 1 (cf 0 (A 2 x))) i = upd (S 26) (16 * r + s) k (16 * x + i) ∧ I' (1000 + cf 3 (cf 0 (A 2 x))) i = upd (S 28) (16 * r + s) am (16 * x + i) ∧ I' (1000 + cf 4 (cf 0 (A 2 x))) i = upd (S 29) (16 * r + s) ug (16 * x + i) ∧ b01 (upd (S 29) (16 * r + s) ug (16 * x + i)) ∧ (upd (S 26) (16 * r + s) k (16 * x + i) = 1 → I' (1000 + cf 2 (cf 0 (A 2 x))) i = -1 ∧ ∃ t, 1 ≤ t ∧ t ≤ 50 ∧ upd (S 28) (16 * r + s) am (16 * x + i) = nI t) ∧ (¬ upd (S 26) (16 * r + s) k (16 * x + i) = 1 → ∃ b, b < nb ∧ upd (S 27) (16 * r + s) rb (16 * x + i) = nI b ∧ I' (1000 + cf 2 (cf 0 (A 2 x))) i = nI b)
    by_cases ex : x = r
    · subst ex
      have hn2 : n = s + 1 := by
        have k2 : nI (s + 1) = nI n := (ua_s (S 17) x (nI (s + 1))).symm.trans e
        exact (nI_inj (by omega) (by omega) k2).symm
      subst hn2
      rw [row_1, row_2, row_3, row_4]
      by_cases eis : i = s
      · subst eis
        rw [ua_s, ua_s, ua_s, ua_s, ua_s, ua_s, ua_s, ua_s]
        refine ⟨rfl, rfl, rfl, hu, hk1, fun c => ?_⟩
        obtain ⟨b, hb, e1, e2⟩ := hk2 c
        exact ⟨b, hb, e1, e2⟩
      · have nx : 16 * x + i ≠ 16 * x + s := by omega
        rw [ua_n _ _ eis, ua_n _ _ eis, ua_n _ _ eis, ua_n _ _ eis, ua_n _ _ nx, ua_n _ _ nx, ua_n _ _ nx, ua_n _ _ nx]
        exact p4 x s hx (by omega) es i (by omega)
    · have nx : 16 * x + i ≠ 16 * r + s := by omega
      have k2 : S 17 x = nI n := (ua_n (S 17) (nI (s + 1)) ex).symm.trans e
      rw [row_n 1 x hx (by omega) (by omega) (Or.inl ex), row_n 2 x hx (by omega) (by omega) (Or.inl ex), row_n 3 x hx (by omega) (by omega) (Or.inl ex), row_n 4 x hx (by omega) (by omega) (Or.inl ex), ua_n _ _ nx, ua_n _ _ nx, ua_n _ _ nx, ua_n _ _ nx]
      exact p4 x n hx hn k2 i hi
  · rw [row_n 5 x hx (by omega) (by omega) (Or.inr rfl)]
    exact p5 x n hx hn e i hi
/-- may this reader plan: both -/
theorem b_can (he : EN g cf nm A) (h : Rel M A cf nd nb nr fe co W DL BT CT C S) (v : Int32) : (∃ r s, r < nr ∧ v = nI r ∧ s < 16 ∧ S 17 r = nI s ∧ gX10_canPlan S v = some 1 ∧ ∀ k cb am ug, gX9_addStep g cf nm C v k cb am ug = bd2 (gX5_append g cf nm C (cf 0 (A 2 r)) k cb am ug) fun r18 S19 => some (r18, S19)) ∨ (gX10_canPlan S v = some 0 ∧ ∀ k cb am ug, gX9_addStep g cf nm C v k cb am ug = some (0, C)) := by
  obtain ⟨⟨t, bl, ms, hst⟩, hM, h1, h2, h3, h4, h5, h6, h7, hrest⟩ := id h
  have e3 := hst.1.2.2.1.1
  have b3 := hst.1.2.2.1.2
  have c2 : C.1 200 2 = nI nr := h1.1.2.2.1.trans e3
  rcases b_isR (g := g) (cf := cf) (nm := nm) (by omega) c2 e3 v with ⟨r, hr, rfl, g1, r1⟩ | ⟨_, g1, r1⟩
  · have hr20 : r < 20 := by omega
    have hg := (he.2.2.1 r hr20).1
    obtain ⟨s, q, m, a1, a2, a3, f1, f2, f3⟩ := hst.2.1.2.1 r
    have haw := g_away (g := g) (cf := cf) (nm := nm) h7.1 hr20
    obtain ⟨kk, hkk, ekk⟩ := hrest.2.2.2.1.1 r hr20
    have hga : ∀ {β : Type} (K : Nat → Option β), ga g 2 20 (nI r) K = K (A 2 r) := fun K => by
      unfold ga
      rw [if_pos (inb_nI hr20 (by omega)), nI_clamp (by omega), hg]
      rfl
    have hadd : ∀ k cb am ug, gX9_addStep g cf nm C (nI r) k cb am ug = if (if S 15 r = 5 ∨ S 15 r = 6 ∨ S 15 r = 7 then (1 : Int32) else 0) = 0 then (bd2 (gX5_append g cf nm C (cf 0 (A 2 r)) k cb am ug) fun r18 S19 => some (r18, S19)) else some (0, C) := fun k cb am ug => by
      unfold gX9_addStep
      rw [g1, bd1_e, if_neg (by decide), hga, haw, bd1_e, hga]
      rfl
    have hin : sp_in (S 15 r) 5 7 = if S 15 r = 5 ∨ S 15 r = 6 ∨ S 15 r = 7 then 1 else 0 := by
      rw [ekk]
      have : kk = 0 ∨ kk = 1 ∨ kk = 2 ∨ kk = 3 ∨ kk = 4 ∨ kk = 5 ∨ kk = 6 ∨ kk = 7 ∨ kk = 8 := by omega
      rcases this with rfl | rfl | rfl | rfl | rfl | rfl | rfl | rfl | rfl <;> decide
    have hcan : gX10_canPlan S (nI r) = if 16 ≤ nI s then some 0 else if (if S 15 r = 5 ∨ S 15 r = 6 ∨ S 15 r = 7 then (1 : Int32) else 0) = 0 then some 1 else some 0 := by
      unfold gX10_canPlan
      rw [r1, bd1_e, if_neg (by decide), ld_nI (j := r) rfl hr20 (by decide), f1, ld_nI (j := r) rfl hr20 (by decide), g_in, hin]
      rfl
    by_cases hs : s < 16
    · have n16 : ¬ (16 : Int32) ≤ nI s := fun c => by
        have := (nI_leI (a := 16) (by omega) (by omega)).mp c
        omega
      rw [if_neg n16] at hcan
      by_cases aw : S 15 r = 5 ∨ S 15 r = 6 ∨ S 15 r = 7
      · rw [if_pos aw, if_neg (by decide)] at hcan
        refine Or.inr ⟨hcan, fun k cb am ug => ?_⟩
        rw [hadd, if_pos aw, if_neg (by decide)]
      · rw [if_neg aw, if_pos rfl] at hcan
        refine Or.inl ⟨r, s, hr, rfl, hs, f1, hcan, fun k cb am ug => ?_⟩
        rw [hadd, if_neg aw, if_pos rfl]
    · have e16 : s = 16 := by omega
      subst e16
      rw [if_pos (show (16 : Int32) ≤ nI 16 by decide)] at hcan
      refine Or.inr ⟨hcan, fun k cb am ug => ?_⟩
      rw [hadd]
      by_cases aw : S 15 r = 5 ∨ S 15 r = 6 ∨ S 15 r = 7
      · rw [if_pos aw, if_neg (by decide)]
      · rw [if_neg aw, if_pos rfl]
        have e105 : C.1 105 (cf 0 (A 2 r)) = nI 16 := (h5.1 r hr20).trans f1
        unfold gX5_append
        rw [e105, if_neg (by decide)]
        rfl
  · refine Or.inr ⟨?_, fun k cb am ug => ?_⟩
    · unfold gX10_canPlan
      rw [r1]
      rfl
    · unfold gX9_addStep
      rw [g1]
      rfl
theorem b_askbox (he : EN g cf nm A) (h : RX M A cf C S) (v w k : Int32) (hk : ¬ k = 1) : ok2 (bd1 (gX9_isBox g cf nm C w) fun r1 => if r1 = 0 then (some ((0 : Int32), C)) else (bd2 (gX9_addStep g cf nm C v k w 0 0) fun r7 S8 => if r7 = 0 then (some (0, S8)) else (some (1, S8)))) (bd1 (gX10_canPlan S v) fun r2 => if r2 = 0 then (some ((0 : Int32), S)) else (bd1 (gX10_isBox S w) fun r8 => if r8 = 0 then (some (0, S)) else (bd2 (gX10_plans S v k w 0 0) fun r14 S15 => if r14 = 0 then (some (0, S15)) else (some (1, S15))))) (fun x y => x.1 = y.1 ∧ RX M A cf x.2 y.2) := by
  obtain ⟨nd, nb, nr, fe, co, W, DL, BT, CT, hr⟩ := id h
  obtain ⟨⟨t, bl, ms, hst⟩, hM, h1, hrest⟩ := id hr
  have b2 := hst.1.2.1.2
  rcases b_isB (g := g) (cf := cf) (nm := nm) (by omega) (h1.1.2.1.trans hst.1.2.1.1) hst.1.2.1.1 w with ⟨b, hb, rfl, g1, r1⟩ | ⟨_, g1, r1⟩
  · refine l_eq g1 (l_f (by decide) ?_)
    rcases b_can he hr v with ⟨r, s, hrr, rfl, hs, es, hcan, hadd⟩ | ⟨hcan, hadd⟩
    · refine r_eq hcan (r_f (by decide) (r_eq r1 (r_f (by decide) ?_)))
      rw [hadd]
      refine b_bd2 (P := fun x y => x.1 = 1 ∧ y.1 = 1 ∧ RX M A cf x.2 y.2) ?_ (fun a C' c S' hp => ?_)
      · obtain ⟨⟨x1, x2⟩, y, ex, ey, h9, h8, h7⟩ := b_app he hr hrr hs es (k := k) (cb := nI b) (rb := nI b) (am := 0) (ug := 0) (Or.inl rfl) ⟨b, by omega, rfl⟩ (fun c => absurd c hk) (fun _ => ⟨b, hb, rfl, rfl⟩)
        exact ⟨(x1, x2), y, by rw [ex]; rfl, ey, h9, h8, nd, nb, nr, fe, co, W, DL, BT, CT, h7⟩
      · obtain ⟨q1, q2, q3⟩ := hp
        have q1 : a = 1 := q1
        have q2 : c = 1 := q2
        subst q1
        subst q2
        exact l_f (by decide) (r_f (by decide) (b_some ⟨rfl, q3⟩))
    · exact l_eq2 (hadd k (nI b) 0 0) (l_t rfl (r_eq hcan (r_t rfl (b_some ⟨rfl, h⟩))))
  · refine l_eq g1 (l_t rfl ?_)
    rcases b_can he hr v with ⟨r, s, hrr, rfl, hs, es, hcan, hadd⟩ | ⟨hcan, hadd⟩
    · exact r_eq hcan (r_f (by decide) (r_eq r1 (r_t rfl (b_some ⟨rfl, h⟩))))
    · exact r_eq hcan (r_t rfl (b_some ⟨rfl, h⟩))
theorem w_ask (he : EN g cf nm A) (h : RX M A cf C S) (v w : Int32) : ok2 (gX9_ask g cf nm C v w) (gX10_ask S v w) (fun x y => x.1 = y.1 ∧ RX M A cf x.2 y.2) := by
  unfold gX9_ask gX10_ask
  exact r_bnd (b_askbox he (RX_0 h 0) v w 0 (by decide))
theorem w_back (he : EN g cf nm A) (h : RX M A cf C S) (v w : Int32) : ok2 (gX9_back g cf nm C v w) (gX10_back S v w) (fun x y => x.1 = y.1 ∧ RX M A cf x.2 y.2) := by
  unfold gX9_back gX10_back
  exact r_bnd (b_askbox he (RX_0 h 0) v w 3 (by decide))
theorem w_read (he : EN g cf nm A) (h : RX M A cf C S) (v w : Int32) : ok2 (gX9_read g cf nm C v w) (gX10_read S v w) (fun x y => x.1 = y.1 ∧ RX M A cf x.2 y.2) := by
  have hd := RX_0 h 0
  unfold gX9_read gX10_read
  refine r_bnd ?_
  generalize wr S 0 0 0 = S1 at hd ⊢
  obtain ⟨nd, nb, nr, fe, co, W, DL, BT, CT, hr⟩ := id hd
  refine l_eq (g_within w 1 50) ?_
  by_cases kw : sp_in w 1 50 = 0
  · rw [kw]
    refine l_t rfl ?_
    rcases b_can he hr v with ⟨r, s, hrr, rfl, hs, es, hcan, hadd⟩ | ⟨hcan, hadd⟩
    · exact r_eq hcan (r_f (by decide) (r_eq (g_in w 1 50) (r_t kw (b_some ⟨rfl, hd⟩))))
    · exact r_eq hcan (r_t rfl (b_some ⟨rfl, hd⟩))
  · refine l_f kw ?_
    rcases b_can he hr v with ⟨r, s, hrr, rfl, hs, es, hcan, hadd⟩ | ⟨hcan, hadd⟩
    · refine r_eq hcan (r_f (by decide) (r_eq (g_in w 1 50) (r_f kw ?_)))
      obtain ⟨n, n1, n2, rfl⟩ := in_nI (a := 1) (b := 50) rfl rfl (by omega) kw (by omega)
      rw [hadd]
      refine b_bd2 (P := fun x y => x.1 = 1 ∧ y.1 = 1 ∧ RX M A cf x.2 y.2) ?_ (fun a C' c S' hp => ?_)
      · obtain ⟨⟨x1, x2⟩, y, ex, ey, h9, h8, h7⟩ := b_app he hr hrr hs es (k := 1) (cb := -1) (rb := 0) (am := nI n) (ug := 0) (Or.inl rfl) ⟨0, by omega, rfl⟩ (fun _ => ⟨rfl, n, n1, n2, rfl⟩) (fun c => absurd rfl c)
        exact ⟨(x1, x2), y, by rw [ex]; rfl, ey, h9, h8, nd, nb, nr, fe, co, W, DL, BT, CT, h7⟩
      · obtain ⟨q1, q2, q3⟩ := hp
        have q1 : a = 1 := q1
        have q2 : c = 1 := q2
        subst q1
        subst q2
        exact l_f (by decide) (r_f (by decide) (b_some ⟨rfl, q3⟩))
    · exact l_eq2 (hadd 1 (-1) w 0) (l_t rfl (r_eq hcan (r_t rfl (b_some ⟨rfl, hd⟩))))
theorem w_copy (he : EN g cf nm A) (h : RX M A cf C S) (v w p : Int32) {u : Int32} (hu : b01 u) : ok2 (gX9_copy g cf nm C v w p u) (gX10_copy S v w p u) (fun x y => x.1 = y.1 ∧ RX M A cf x.2 y.2) := by
  have hd := RX_0 h 0
  unfold gX9_copy gX10_copy
  refine r_bnd ?_
  generalize wr S 0 0 0 = S1 at hd ⊢
  obtain ⟨nd, nb, nr, fe, co, W, DL, BT, CT, hr⟩ := id hd
  obtain ⟨⟨t, bl, ms, hst⟩, hM, h1, hrest⟩ := id hr
  have b2 := hst.1.2.1.2
  rcases b_isB (g := g) (cf := cf) (nm := nm) (by omega) (h1.1.2.1.trans hst.1.2.1.1) hst.1.2.1.1 w with ⟨b, hb, rfl, g1, r1⟩ | ⟨_, g1, r1⟩
  · refine l_eq g1 (l_f (by decide) (l_eq (g_within p 1 30) ?_))
    by_cases kw : sp_in p 1 30 = 0
    · refine l_t kw ?_
      rcases b_can he hr v with ⟨r, s, hrr, rfl, hs, es, hcan, hadd⟩ | ⟨hcan, hadd⟩
      · exact r_eq hcan (r_f (by decide) (r_eq r1 (r_f (by decide) (r_eq (g_in p 1 30) (r_t kw (b_some ⟨rfl, hd⟩))))))
      · exact r_eq hcan (r_t rfl (b_some ⟨rfl, hd⟩))
    · refine l_f kw ?_
      rcases b_can he hr v with ⟨r, s, hrr, rfl, hs, es, hcan, hadd⟩ | ⟨hcan, hadd⟩
      · refine r_eq hcan (r_f (by decide) (r_eq r1 (r_f (by decide) (r_eq (g_in p 1 30) (r_f kw ?_)))))
        rw [hadd]
        refine b_bd2 (P := fun x y => x.1 = 1 ∧ y.1 = 1 ∧ RX M A cf x.2 y.2) ?_ (fun a C' c S' hp => ?_)
        · obtain ⟨⟨x1, x2⟩, y, ex, ey, h9, h8, h7⟩ := b_app he hr hrr hs es (k := 2) (cb := nI b) (rb := nI b) (am := p) (ug := u) hu ⟨b, by omega, rfl⟩ (fun c => absurd c (by decide)) (fun _ => ⟨b, hb, rfl, rfl⟩)
          exact ⟨(x1, x2), y, by rw [ex]; rfl, ey, h9, h8, nd, nb, nr, fe, co, W, DL, BT, CT, h7⟩
        · obtain ⟨q1, q2, q3⟩ := hp
          have q1 : a = 1 := q1
          have q2 : c = 1 := q2
          subst q1
          subst q2
          exact l_f (by decide) (r_f (by decide) (b_some ⟨rfl, q3⟩))
      · exact l_eq2 (hadd 2 (nI b) p u) (l_t rfl (r_eq hcan (r_t rfl (b_some ⟨rfl, hd⟩))))
  · refine l_eq g1 (l_t rfl ?_)
    rcases b_can he hr v with ⟨r, s, hrr, rfl, hs, es, hcan, hadd⟩ | ⟨hcan, hadd⟩
    · exact r_eq hcan (r_f (by decide) (r_eq r1 (r_t rfl (b_some ⟨rfl, hd⟩))))
    · exact r_eq hcan (r_t rfl (b_some ⟨rfl, hd⟩))
end STEPS
