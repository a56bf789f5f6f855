section PUC
variable {d bx rd fe co : Nat} {t bl : Int32} {ms : List Int32} {S : RS}
theorem t_hasMany {v : Int32} {K : Int32 → Option Int32} {Q : Int32 → Prop} (e : S 0 2 = nI bx) (hb : bx ≤ 40) (hK : ∀ y, ok (K y) Q) : ∀ (fu j : Nat) (x : Int32), j ≤ bx → bx - j < fu → ok (gX10_hasMany_4 S K fu v x (nI j)) Q := by
  intro fu
  induction fu with
  | zero => intro j x hj hf; omega
  | succ fu ih =>
    intro j x hj hf
    rw [gX10_hasMany_4, nI_1 j]
    refine ok_ite (fun c => hK x) (fun c => ?_)
    have hj2 : j < bx := nl e (by omega) (by omega) c
    exact ok_ld rfl (by omega) (by decide) (fun y ey => ok_ite (fun _ => ih (j + 1) _ (by omega) (by omega)) (fun _ => ih (j + 1) _ (by omega) (by omega)))
theorem t_many (h : St d bx rd fe co t bl ms S) (v : Int32) : ok (gX10_hasMany S v) (fun _ => True) := by
  have b2 := h.1.2.1.2
  unfold gX10_hasMany
  exact t_hasMany h.1.2.1.1 b2 (fun y => ok_some trivial) 1000 0 0 (by omega) (by omega)
theorem t_rule50 {v : Int32} {b : Nat} {K : Option Int32} {Q : Int32 → Prop} (e : S 0 2 = nI bx) (hb : bx ≤ 40) (hbb : b < 40) (hK : ok K Q) (h4 : Q 4) : ∀ (fu j : Nat), j ≤ bx → bx - j < fu → ok (gX10_rule_50 S K fu v (nI b) (nI j)) Q := by
  intro fu
  induction fu with
  | zero => intro j hj hf; omega
  | succ fu ih =>
    intro j hj hf
    rw [gX10_rule_50, nI_1 j]
    refine ok_ite (fun c => hK) (fun c => ?_)
    have hj2 : j < bx := nl e (by omega) (by omega) c
    have go := ih (j + 1) (by omega) (by omega)
    refine ok_ld rfl (by omega) (by decide) (fun y ey => ok_ld rfl hbb (by decide) (fun y2 ey2 => ok_ite (fun _ => ?_) (fun _ => go)))
    refine ok_ld rfl (by omega) (by decide) (fun y3 ey3 => ok_ite (fun _ => ?_) (fun _ => ?_))
    · refine ok_ld rfl (by omega) (by decide) (fun y4 ey4 => ok_ite (fun _ => go) (fun _ => ok_ld rfl (by omega) (by decide) (fun y5 ey5 => ok_ite (fun _ => go) (fun _ => ok_some h4))))
    · refine ok_ld rfl (by omega) (by decide) (fun y4 ey4 => ok_ite (fun _ => ok_ld rfl (by omega) (by decide) (fun y5 ey5 => ok_ite (fun _ => go) (fun _ => ok_ld rfl (by omega) (by decide) (fun y6 ey6 => ok_ite (fun _ => go) (fun _ => ok_some h4))))) (fun _ => ok_some h4))
theorem t_rule (h : St d bx rd fe co t bl ms S) {r b : Nat} (hr : r < 20) (hb : b < 40) (hd : ¬ S 16 r = -1) : ok (gX10_rule S (nI r) (nI b)) (fun _ => True) := by
  have e2 := h.1.2.1.1
  have b2 := h.1.2.1.2
  unfold gX10_rule
  refine ok_bd1 (t_many h _) (fun y _ => ok_ite (fun _ => ?_) (fun _ => ok_some trivial))
  have go : ok (gX10_rule_50 S (some 0) 1000 (nI r) (nI b) 0) (fun _ => True) := t_rule50 e2 b2 hb (ok_some trivial) trivial 1000 0 (by omega) (by omega)
  refine ok_ld rfl hb (by decide) (fun y2 ey2 => ok_ite (fun _ => ok_ld rfl hb (by decide) (fun y3 ey3 => ok_ite (fun _ => ok_some trivial) (fun _ => go))) (fun _ => ?_))
  refine ok_ld rfl hr (by decide) (fun y3 ey3 => ?_)
  rcases h.2.1.1 r with e | ⟨k, hk, e⟩
  · exact absurd e hd
  exact ok_ld (ey3.trans e) hk (by decide) (fun y4 ey4 => ok_ite (fun _ => ok_some trivial) (fun _ => ok_ld rfl hb (by decide) (fun y5 ey5 => ok_ite (fun _ => ok_some trivial) (fun _ => go))))
theorem t_refuses (h : St d bx rd fe co t bl ms S) {r q m : Nat} (hr : r < 20) (e : S 18 r = nI q) (e2 : S 23 r = nI m) (hm : m < q) (hq : q ≤ 16) (v : Int32) : ok (gX10_refuses S (nI r) v) (fun S' => St d bx rd fe co t bl ms S' ∧ S' 18 = S 18 ∧ S' 17 = S 17) := by
  unfold gX10_refuses
  refine ok_ld rfl hr (by decide) (fun y ey => ?_)
  obtain rfl := ey.trans e2
  refine ok_sv (ix16 r m) (by omega) (by decide) (ok_ld rfl hr (by decide) (fun y2 ey2 => ok_sv rfl hr (by decide) ?_))
  obtain rfl := (show y2 = S 23 r from ey2).trans e2
  rw [nI_1]
  have h2 : St d bx rd fe co t bl ms (wr (wr S 24 (16 * r + m) v) 23 r (nI (m + 1))) := ⟨h.1, R_rf h.2.1 e e2 hm hq, h.2.2⟩
  exact ok_bd1 (t_ev h2 _ _ _ _) (fun S' h' => ok_some ⟨h'.1, h'.2.1 18 (by decide) (by decide) (by decide) (by decide) (by decide), h'.2.1 17 (by decide) (by decide) (by decide) (by decide) (by decide)⟩)
theorem t_oneStep (h : St d bx rd fe co t bl ms S) {r q s : Nat} (hr : r < rd) (es : S 15 r = 8) (eq : S 18 r = nI q) (esp : S 17 r = nI s) (hq : q < s) (hs : s ≤ 16) : ok (gX10_oneStep S (nI r)) (fun S' => St d bx rd fe co t bl ms S' ∧ S' 18 r = nI (q + 1) ∧ S' 17 r = nI s) := by
  obtain ⟨⟨⟨e1, b1⟩, ⟨e2, b2⟩, ⟨e3, b3⟩, ⟨e7, b7⟩, ⟨e8, b8⟩, e4, e5, hm, hev⟩, hR, hJ⟩ := id h
  have hr20 : r < 20 := by omega
  have ei := ix16 r q
  have hi : 16 * r + q < 320 := by omega
  obtain ⟨s', q', m, a1, a2, a3, f1, f2, f3⟩ := hR.2.1 r
  obtain rfl : s' = s := nI_inj (by omega) (by omega) (f1.symm.trans esp)
  obtain rfl : q' = q := nI_inj (by omega) (by omega) (f2.symm.trans eq)
  have hdk : ¬ S 16 r = -1 := hJ.2.1 r (Or.inr (Or.inr (Or.inr es)))
  have hstep := hJ.2.2.2.2.2.2.2.2.2.2.1 r q' s' hr20 hq hs esp
  unfold gX10_oneStep
  refine ok_ld rfl hr20 (by decide) (fun y1 ey1 => ?_)
  obtain rfl := ey1.trans eq
  refine ok_ld ei hi (by decide) (fun y3 ey3 => ok_ld rfl hr20 (by decide) (fun y5 ey5 => ok_sv rfl hr20 (by decide) ?_))
  obtain rfl := ey5.trans eq
  rw [nI_1]
  have h8 : St d bx rd fe co t bl ms (wr S 18 r (nI (q' + 1))) := ⟨h.1, R_nx hR esp eq hq hs, hJ⟩
  have g18 : wr S 18 r (nI (q' + 1)) 18 r = nI (q' + 1) := by rw [wr_ap]; simp
  refine ok_ld ei hi (by decide) (fun y9 ey9 => ?_)
  have ek : y9 = S 26 (16 * r + q') := ey9
  have hboxof : ¬ y9 = 1 → ∃ b, b < bx ∧ y3 = nI b := fun h9 => by
    rcases hstep with hh | ⟨b, hb, hh⟩
    · exact absurd (ek.trans hh) h9
    · exact ⟨b, hb, ey3.trans hh⟩
  refine ok_ite (fun c0 => ?_) (fun c0 => ok_ite (fun c1 => ?_) (fun c1 => ok_ite (fun c2 => ?_) (fun c2 => ?_)))
  · obtain ⟨b, hb, rfl⟩ := hboxof (by rw [c0]; decide)
    have hb40 : b < 40 := by omega
    refine ok_bd1 (t_rule h8 hr20 hb40 hdk) (fun y12 _ => ok_ite (fun _ => ?_) (fun _ => ?_))
    · refine ok_sv rfl hb40 (by decide) (ok_sv rfl hb40 (by decide) (ok_bnd (ok_sv rfl hr20 (by decide) ?_)))
      have h9 : St d bx rd fe co t bl ms (wr (wr (wr (wr (wr S 18 r (nI (q' + 1))) 7 b (nI r)) 8 b (S 0 20)) 0 20 (S 0 20 + 1)) 15 r 2) := ⟨h.1, R_tk (R_nx hR esp eq hq hs) (Or.inr ⟨r, hr20, rfl⟩), J_ask hJ hb hr20 hr es⟩
      exact ok_bd1 (t_ev h9 _ _ _ _) (fun S' h' => ok_some ⟨h'.1, by rw [h'.2.1 18 (by decide) (by decide) (by decide) (by decide) (by decide)]; exact g18, by rw [h'.2.1 17 (by decide) (by decide) (by decide) (by decide) (by decide)]; exact esp⟩)
    · exact ok_bd1 (t_refuses h8 hr20 g18 f3 (by omega) (by omega) _) (fun S' h' => ok_some ⟨h'.1, by rw [h'.2.1]; exact g18, by rw [h'.2.2]; exact esp⟩)
  · refine ok_sv rfl hr20 (by decide) (ok_ld ei hi (by decide) (fun y38 _ => ok_sv rfl hr20 (by decide) (ok_some ⟨?_, g18, esp⟩)))
    exact ⟨h.1, R_nx hR esp eq hq hs, J_state hJ hr (by rw [es]; decide) (by rw [es]; decide) (fun _ => hdk) (by decide) (by decide)⟩
  · obtain ⟨b, hb, rfl⟩ := hboxof c1
    have hb40 : b < 40 := by omega
    refine ok_ld rfl hb40 (by decide) (fun y43 ey43 => ok_ite (fun ch => ?_) (fun _ => ?_))
    · have eh : S 6 b = nI r := (show y43 = S 6 b from ey43).symm.trans ch
      refine ok_sv rfl hb40 (by decide) (ok_sv rfl hb40 (by decide) (ok_bnd (ok_ld ei hi (by decide) (fun y51 _ => ok_sv rfl hb40 (by decide) (ok_ld ei hi (by decide) (fun y55 _ => ok_sv rfl hb40 (by decide) (ok_sv rfl hr20 (by decide) (ok_some ⟨?_, g18, esp⟩))))))))
      exact ⟨h.1, R_nx hR esp eq hq hs, J_order hJ hb hr20 hr es eh⟩
    · exact ok_bd1 (t_refuses h8 hr20 g18 f3 (by omega) (by omega) _) (fun S' h' => ok_some ⟨h'.1, by rw [h'.2.1]; exact g18, by rw [h'.2.2]; exact esp⟩)
  · obtain ⟨b, hb, rfl⟩ := hboxof c1
    have hb40 : b < 40 := by omega
    refine ok_ld rfl hb40 (by decide) (fun y66 ey66 => ok_ite (fun ch => ?_) (fun _ => ?_))
    · have eh : S 6 b = nI r := (show y66 = S 6 b from ey66).symm.trans ch
      refine t_left hb40 ?_
      have h9 : St d bx rd fe co t bl ms (wr (wr (wr S 18 r (nI (q' + 1))) 5 b 2) 6 b (-1)) := ⟨h.1, R_hs (R_nx hR esp eq hq hs) (Or.inl rfl), J_left hJ hb hr20 eh (fun h6 => by
        rcases hJ.2.2.2.2.1 b r hb hr20 eh with hh | ⟨_, hh⟩
        · rw [h6] at hh; exact absurd hh (by decide)
        · rw [es] at hh; exact absurd hh (by decide))⟩
      exact ok_bd1 (t_ev h9 _ _ _ _) (fun S' h' => ok_some ⟨h'.1, by rw [h'.2.1 18 (by decide) (by decide) (by decide) (by decide) (by decide)]; exact g18, by rw [h'.2.1 17 (by decide) (by decide) (by decide) (by decide) (by decide)]; exact esp⟩)
    · exact ok_bd1 (t_refuses h8 hr20 g18 f3 (by omega) (by omega) _) (fun S' h' => ok_some ⟨h'.1, by rw [h'.2.1]; exact g18, by rw [h'.2.2]; exact esp⟩)
/-- what one that leaves had -/
def lw (bx r j : Nat) (S : RS) : RS := fun k b => if j ≤ b ∧ b < bx then (if k = 6 then (if S 6 b = nI r then -1 else S 6 b) else if k = 5 then (if S 6 b = nI r then 2 else S 5 b) else S k b) else S k b
def lw1 (r j : Nat) (S : RS) : RS := fun k b => if b = j then (if k = 6 then (if S 6 b = nI r then -1 else S 6 b) else if k = 5 then (if S 6 b = nI r then 2 else S 5 b) else S k b) else S k b
theorem lw_end (bx r : Nat) (S : RS) : lw bx r bx S = S := by
  funext k b
  unfold lw
  rw [if_neg (by omega)]
theorem lw_next (bx r j : Nat) (S : RS) (hj : j < bx) : lw bx r (j + 1) (lw1 r j S) = lw bx r j S := by
  funext k b
  unfold lw lw1
  grind
theorem lw_row (bx r j : Nat) (S : RS) (k : Nat) (h : k ≠ 5 ∧ k ≠ 6) : lw bx r j S k = S k := by
  funext b
  unfold lw
  rw [if_neg h.2, if_neg h.1]
  split <;> rfl
theorem lw_loop {r : Nat} {K : Int32 → RS → Option RS} {Q : RS → Prop} : ∀ (fu j : Nat) (S : RS), S 0 2 = nI bx → bx ≤ 40 → j ≤ bx → bx - j < fu → ok (K (nI r) (lw bx r j S)) Q → ok (gX10_goesOn_36 K fu (nI r) (nI j) S) Q := by
  intro fu
  induction fu with
  | zero => intro j S e hb hj hf hk; omega
  | succ fu ih =>
    intro j S e hb hj hf hk
    rw [gX10_goesOn_36, nI_1 j]
    refine ok_ite (fun c => ?_) (fun c => ?_)
    · rcases Nat.lt_or_ge j bx with h9 | h9
      · rw [e] at c
        exact absurd c (nI_ge h9 (by omega))
      · obtain rfl : j = bx := by omega
        rwa [lw_end] at hk
    have hj2 : j < bx := nl e (by omega) (by omega) c
    rw [← lw_next bx r j S hj2] at hk
    have go : ∀ S1, S1 = lw1 r j S → S1 0 2 = nI bx → ok (gX10_goesOn_36 K fu (nI r) (nI (j + 1)) S1) Q := fun S1 e1 e0 => ih (j + 1) S1 e0 hb (by omega) (by omega) (by rw [e1]; exact hk)
    refine ok_ld rfl (by omega) (by decide) (fun y6 e6 => ok_ite (fun c6 => ?_) (fun c6 => ?_))
    · refine t_left (by omega) (go _ ?_ e)
      funext k b
      simp only [wr_ap, lw1]
      grind
    · refine go _ ?_ e
      funext k b
      simp only [lw1]
      grind
theorem t_goes {r : Nat} (hr : r < rd) {K : RS → Option RS} {Q : RS → Prop} (hK : ∀ S', St d bx rd fe co t bl ms S' → ok (K S') Q) : ∀ (fu q s : Nat) (S : RS), St d bx rd fe co t bl ms S → S 18 r = nI q → S 17 r = nI s → q ≤ 16 → s ≤ 16 → s - q + 2 ≤ fu → ok (gX10_goesOn_0 K fu (nI r) S) Q := by
  intro fu
  induction fu with
  | zero => intro q s S h e18 e17 hq16 hs16 hf; omega
  | succ fu ih =>
    intro q s S h e18 e17 hq16 hs16 hf
    obtain ⟨⟨⟨e1, b1⟩, ⟨e2, b2⟩, ⟨e3, b3⟩, ⟨e7, b7⟩, ⟨e8, b8⟩, e4, e5, hm, hev⟩, hR, hJ⟩ := id h
    have hr20 : r < 20 := by omega
    obtain ⟨s', q', m, a1, a2, a3, f1, f2, f3⟩ := hR.2.1 r
    obtain rfl : s' = s := nI_inj (by omega) (by omega) (f1.symm.trans e17)
    obtain rfl : q' = q := nI_inj (by omega) (by omega) (f2.symm.trans e18)
    rw [gX10_goesOn_0]
    refine ok_ld rfl hr20 (by decide) (fun y ey => ok_ite (fun cy => ?_) (fun _ => hK S h))
    have es : S 15 r = 8 := ey.symm.trans cy
    refine ok_ld rfl hr20 (by decide) (fun y4 ey4 => ok_ld rfl hr20 (by decide) (fun y6 ey6 => ?_))
    obtain rfl := ey4.trans e18
    obtain rfl := ey6.trans e17
    refine ok_ite (fun c => ?_) (fun c => ?_)
    · refine lw_loop (bx := bx) 1000 0 S e2 b2 (by omega) (by omega) ?_
      have hA16 : lw bx r 0 S 16 = S 16 := lw_row _ _ _ _ _ (by decide)
      refine t_free hr20 (by rw [hA16]; exact hR.1 r) (ok_sv rfl hr20 (by decide) ?_)
      have hs2 : St d bx rd fe co t bl ms (wr (fd (lw bx r 0 S) r) 15 r 5) := by
        refine St_gone h hr (by decide) (fun k hk => ?_) ?_ (fun i => ?_) (fun i => ?_) (fun b hb => ?_) (fun b hb => ?_) (fun b hb => ?_)
        · rw [fd_row _ _ _ hk.1 hk.2.2.2.2.1, lw_row _ _ _ _ _ ⟨hk.2.1, hk.2.2.1⟩]
        · rw [fd_16, hA16]
        · rw [fd_row _ _ _ (by decide) (by decide), lw_row _ _ _ _ _ (by decide)]
          exact Or.inl rfl
        · rw [fd_row _ _ _ (by decide) (by decide)]
          unfold lw
          grind
        · rw [fd_row _ _ _ (by decide) (by decide), lw_row _ _ _ _ _ (by decide), if_neg (fun h9 => ?_)]
          have := hJ.2.2.1 b r hb hr20 h9
          rw [es] at this
          exact absurd this (by decide)
        · rw [fd_row _ _ _ (by decide) (by decide)]
          unfold lw
          rw [if_pos ⟨by omega, hb⟩, if_pos rfl]
        · rw [fd_row _ _ _ (by decide) (by decide)]
          unfold lw
          rw [if_pos ⟨by omega, hb⟩, if_neg (by decide), if_pos rfl]
          by_cases h6 : S 6 b = nI r
          · have hne : ¬ S 5 b = 6 := fun h9 => by
              rcases hJ.2.2.2.2.1 b r hb hr20 h6 with hh | ⟨_, hh⟩
              · rw [h9] at hh; exact absurd hh (by decide)
              · rw [es] at hh; exact absurd hh (by decide)
            rw [if_pos h6, if_pos ⟨h6, hne⟩]
          · rw [if_neg h6, if_neg (fun h9 => h6 h9.1)]
      refine ok_bd1 (t_ev hs2 _ _ _ _) (fun S' h' => ?_)
      obtain ⟨fu', rfl⟩ : ∃ z, fu = z + 1 := ⟨fu - 1, by omega⟩
      rw [gX10_goesOn_0]
      refine ok_ld rfl hr20 (by decide) (fun y9 ey9 => ok_f ?_ (hK S' h'.1))
      rw [ey9, h'.2.1 15 (by decide) (by decide) (by decide) (by decide) (by decide), wr_ap, if_pos rfl, if_pos rfl]
      decide
    · have hlt : q' < s' := nl rfl (by omega) (by omega) c
      exact ok_bd1 (t_oneStep h hr es e18 e17 hlt a3) (fun S' h' => ih (q' + 1) s' S' h'.1 h'.2.1 h'.2.2 (by omega) (by omega) (by omega))
end PUC
