theorem ok2_r {α β : Type} {o : Option α} {p : Option β} {Q : α → β → Prop} (h : ok p (fun b => ok o (fun a => Q a b))) : ok2 o p Q := by
  obtain ⟨b, e2, a, e1, h⟩ := h
  exact ⟨a, b, e1, e2, h⟩
theorem ok2_r' {α β : Type} {o : Option α} {p : Option β} {Q : α → β → Prop} (h : ok2 o p Q) : ok p (fun b => ok o (fun a => Q a b)) := by
  obtain ⟨a, b, e1, e2, h⟩ := h
  exact ⟨b, e2, a, e1, h⟩
theorem ok2_l {α β : Type} {o : Option α} {p : Option β} {Q : α → β → Prop} (h : ok o (fun a => ok p (fun b => Q a b))) : ok2 o p Q := by
  obtain ⟨a, e1, b, e2, h⟩ := h
  exact ⟨a, b, e1, e2, h⟩
theorem ok2_l' {α β : Type} {o : Option α} {p : Option β} {Q : α → β → Prop} (h : ok2 o p Q) : ok o (fun a => ok p (fun b => Q a b)) := by
  obtain ⟨a, b, e1, e2, h⟩ := h
  exact ⟨a, e1, b, e2, h⟩
theorem VQ_same {r m : Nat → Nat} {n j : Nat} {q : Nat → Option Nat} {s : Nat → Int32} {v : Int32} (h : VQ r m n q s) (e : s j = v) : VQ r m n q (upd s j v) := fun i hi => by
  by_cases e2 : i = j
  · subst e2; rw [ua_s, ← e]; exact h i hi
  · rw [ua_n _ _ e2]; exact h i hi
section GONE2
variable {g : Nat → Nat → Option Nat} {cf : Nat → Nat → Nat} {nm : Nat → Int32} {A : Nat → Nat → Nat} {M : MP} {nd nb nr fe co : Nat} {W : Nat → Nat} {DL BT CT : List Nat} {C : CS} {S : RS} {r : Nat} {t bl : Int32} {ms : List Int32}
theorem g_dep (he : EN g cf nm A) (hr : r < 20) (hnb : nb ≤ 40) {v : Int32} {C0 : CS} (e2 : C0.1 200 1 = nI nb) {K : Nat → Int32 → CS → Option CS} {P : CS → Prop}
    (hK : ∀ i3 q4, (∀ b, b < nb → q4 (A 1 b) = if C0.2 4 (A 1 b) = some (A 2 r) then none else C0.2 4 (A 1 b)) → (∀ b, b < nb → i3 (A 1 b) = if C0.2 4 (A 1 b) = some (A 2 r) ∧ ¬ C0.1 3 (A 1 b) = 6 then 2 else C0.1 3 (A 1 b)) → (∀ b, nb ≤ b → b < 40 → q4 (A 1 b) = C0.2 4 (A 1 b) ∧ i3 (A 1 b) = C0.1 3 (A 1 b)) → ok (K (A 2 r) v (va_up C0.1 3 i3, va_up C0.2 4 q4)) P) : ok (gX9_depart_15 g cf nm K 1000 (A 2 r) v 0 C0) P := by
  have h := g_dep15 he hr hnb e2 hK 1000 0 (C0.1 3) (C0.2 4) (Nat.zero_le _) (by omega) (fun b hb => absurd hb (Nat.not_lt_zero b)) (fun b hb => absurd hb (Nat.not_lt_zero b)) (fun b _ _ => ⟨rfl, rfl⟩)
  rw [va_id, va_id] at h
  exact h
theorem St_aw (h : St nd nb nr fe co t bl ms S) (hr : r < nr) {v : Int32} (hv : ¬ (v = 2 ∨ v = 3 ∨ v = 4 ∨ v = 8)) : St nd nb nr fe co t bl ms (wr (wr (fd (aw nb r 0 S) r) 19 r 0) 15 r v) := by
  have hA16 : aw nb r 0 S 16 = S 16 := aw_row _ _ _ _ _ (by decide)
  refine St_gone h hr hv (fun k hk => ?_) ?_ (fun i => ?_) (fun i => ?_) (fun b hb => ?_) (fun b hb => ?_) (fun b hb => ?_)
  · rw [wr_n _ _ _ _ hk.2.2.2.2.2, fd_row _ _ _ hk.1 hk.2.2.2.2.1, aw_row _ _ _ _ _ ⟨hk.2.1, hk.2.2.1, hk.2.2.2.1⟩]
  · rw [wr_n _ _ _ _ (by decide), fd_16, hA16]
  · rw [wr_n _ _ _ _ (by decide), fd_row _ _ _ (by decide) (by decide)]
    unfold aw
    grind
  · rw [wr_n _ _ _ _ (by decide), fd_row _ _ _ (by decide) (by decide)]
    unfold aw
    grind
  · rw [wr_n _ _ _ _ (by decide), fd_row _ _ _ (by decide) (by decide)]
    unfold aw
    rw [if_pos ⟨by omega, hb⟩, if_pos rfl]
  · rw [wr_n _ _ _ _ (by decide), fd_row _ _ _ (by decide) (by decide)]
    unfold aw
    rw [if_pos ⟨by omega, hb⟩, if_neg (by decide), if_pos rfl]
  · rw [wr_n _ _ _ _ (by decide), fd_row _ _ _ (by decide) (by decide)]
    unfold aw
    rw [if_pos ⟨by omega, hb⟩, if_neg (by decide), if_neg (by decide), if_pos rfl]
/-- the reference's boxes behind one that went -/
theorem aw_ex (nb r : Nat) (S : RS) : ∃ g5 g6 g7, aw nb r 0 S = va_up (va_up (va_up S 5 g5) 6 g6) 7 g7 ∧ (∀ b, b < nb → g7 b = if S 7 b = nI r then -1 else S 7 b) ∧ (∀ b, b < nb → g6 b = if S 6 b = nI r then -1 else S 6 b) ∧ (∀ b, b < nb → g5 b = if S 6 b = nI r ∧ ¬ S 5 b = 6 then 2 else S 5 b) ∧ ∀ b, nb ≤ b → g5 b = S 5 b := by
  refine ⟨aw nb r 0 S 5, aw nb r 0 S 6, aw nb r 0 S 7, ?_, fun b hb => ?_, fun b hb => ?_, fun b hb => ?_, fun b hb => ?_⟩
  · funext k
    by_cases e7 : k = 7
    · subst e7; rw [va_up_self]
    rw [va_up_ne _ _ e7]
    by_cases e6 : k = 6
    · subst e6; rw [va_up_self]
    rw [va_up_ne _ _ e6]
    by_cases e5 : k = 5
    · subst e5; rw [va_up_self]
    rw [va_up_ne _ _ e5]
    exact aw_row _ _ _ _ _ ⟨e5, e6, e7⟩
  · unfold aw
    rw [if_pos ⟨by omega, hb⟩, if_pos rfl]
  · unfold aw
    rw [if_pos ⟨by omega, hb⟩, if_neg (by decide), if_pos rfl]
  · unfold aw
    rw [if_pos ⟨by omega, hb⟩, if_neg (by decide), if_neg (by decide), if_pos rfl]
  · unfold aw
    rw [if_neg (by omega)]
theorem b_gone (he : EN g cf nm A) (h : Rel M A cf nd nb nr fe co W DL BT CT C S) (hr : r < nr) {v : Int32} (hv : v = 5 ∨ v = 6 ∨ v = 7) : ok2 (gX9_depart g cf nm C (A 2 r) v) (gX10_sentAway S (nI r) v) (fun C' S' => Rel M A cf nd nb nr fe co W (rmv DL r) (rmv BT r) (rmv CT r) C' S') := by
  obtain ⟨⟨t, bl, ms, hst⟩, hM, h1, h2, h3, h4, h5, h6, h7, h8, h9, h10, h11, h12⟩ := id h
  obtain ⟨⟨⟨e1, b1⟩, ⟨e2, b2⟩, ⟨e3, b3⟩, ⟨e7, b7⟩, ⟨e8, b8⟩, e4, e5, hm, hev⟩, hR, hJ⟩ := id hst
  have hr20 : r < 20 := by omega
  have hv1 : ¬ v = 1 := by rcases hv with rfl | rfl | rfl <;> decide
  have hv2 : ¬ v = 2 := by rcases hv with rfl | rfl | rfl <;> decide
  have hv3 : ¬ v = 3 := by rcases hv with rfl | rfl | rfl <;> decide
  have hv4 : ¬ v = 4 := by rcases hv with rfl | rfl | rfl <;> decide
  have hv8 : ¬ v = 8 := by rcases hv with rfl | rfl | rfl <;> decide
  have hv11 : ∃ k, k ≤ 8 ∧ v = nI k := by
    rcases hv with rfl | rfl | rfl
    · exact ⟨5, by omega, rfl⟩
    · exact ⟨6, by omega, rfl⟩
    · exact ⟨7, by omega, rfl⟩
  have hvs : ¬ (v = 2 ∨ v = 3 ∨ v = 4 ∨ v = 8) := fun q => q.elim hv2 (fun q => q.elim hv3 (fun q => q.elim hv4 hv8))
  have hsa := St_aw hst hr hvs
  have hDl : ∀ a, a ∈ DL → a < 20 := fun a ha => by have := ((h8.1.2.1 a).mp ha).1; omega
  have hBl : ∀ a, a ∈ BT → a < 20 := fun a ha => by have := ((h8.2.1.2.1 a).mp ha).1; omega
  have hCl : ∀ a, a ∈ CT → a < 20 := fun a ha => by have := ((h8.2.2.2.1 a).mp ha).1; omega
  have hx : (C.2 128 (A 2 r) = none ∧ ∀ b, b < nb → ¬ S 7 b = nI r) ∨ ∃ w, w < nb ∧ C.2 128 (A 2 r) = some (A 1 w) ∧ ∀ b, b < nb → b ≠ w → ¬ S 7 b = nI r := by
    have q := h7.2.2.1 r hr20
    by_cases s2 : S 15 r = 2
    · obtain ⟨w1, w2⟩ := h7.2.2.2.2.1 r hr20 s2
      rw [if_pos (Or.inl s2)] at q
      exact Or.inr ⟨W r, w1, q, fun b hb hne hb2 => hne (hJ.2.2.2.1 b (W r) r hb w1 hr20 hb2 w2)⟩
    · have hno : ∀ b, b < nb → ¬ S 7 b = nI r := fun b hb hb2 => s2 (hJ.2.2.1 b r hb hr20 hb2)
      by_cases s4 : S 15 r = 4
      · obtain ⟨w1, w2⟩ := h7.2.2.2.2.2 r hr20 s4
        rw [if_pos (Or.inr s4)] at q
        exact Or.inr ⟨W r, w1, q, fun b hb _ => hno b hb⟩
      · rw [if_neg (fun h => h.elim s2 s4)] at q
        exact Or.inl ⟨q, hno⟩
  have hfb : ∀ f b, f < 4 → b < 40 → S 30 f = nI b → b < nb ∧ ¬ S 6 b = nI r := fun f b hf hb hfb => by
    obtain ⟨k1, k2⟩ := hJ.2.2.2.2.2.2.2.1 f b hf hb hfb
    refine ⟨k1, fun hh => ?_⟩
    rcases hJ.2.2.2.2.1 b r k1 hr20 hh with k | ⟨k, _⟩
    · rw [k] at k2; exact absurd k2 (by decide)
    · rcases k with k | k <;> (rw [k] at k2; exact absurd k2 (by decide))
  unfold gX9_depart gX10_sentAway
  refine l_bd (g_rem0 (fun a ha e => inj2 he a r (hDl a ha) hr20 e) h8.1.1) (fun C1 q1 => ?_)
  obtain ⟨f0, hf0, rfl⟩ := q1
  refine l_bd (g_drop he hr20 hBl hCl (C := ln C 205 11 f0 (rmv DL r).length) h8.2.1.1 h8.2.2.1 b2 (s7 := S 7) h3.2.2.2.2.1 hR.2.2.2.1 hx) (fun C2 q2 => ?_)
  obtain ⟨f1, f2, q5, hf1, hf2, hq5, hq5b, rfl⟩ := q2
  refine ok2_r (aw_loop (β := Nat) (bx := nb) 1000 0 S e2 b2 (by omega) (by omega) (ok2_r' ?_))
  have hA16 : aw nb r 0 S 16 = S 16 := aw_row _ _ _ _ _ (by decide)
  refine ok2_r (t_free hr20 (by rw [hA16]; exact hR.1 r) (ok2_r' ?_))
  refine r_sv rfl hr20 (by decide) (r_sv rfl hr20 (by decide) ?_)
  refine ok2_l (g_dep he hr20 b2 ?_ (fun i3 q4 k4 k3 ks => ok2_l' ?_))
  · exact h1.1.2.1.trans e2
  have hr6 : ∀ b, b < nb → (C.2 4 (A 1 b) = some (A 2 r) ↔ S 6 b = nI r) := fun b hb => by
    rw [h3.2.2.2.1 b hb]
    exact rfI_e (hR.2.2.2.2.1 b) (by decide) hr20 (fun i k hi hk e => inj2 he i k hi hk e)
  have hr127 := h2.2.2.2.1 r hr
  obtain ⟨g5, g6, g7, haw, y7, y6, y5, y5b⟩ := aw_ex nb r S
  have hR3 : R3 A nb (C.1 1) (C.1 2) i3 q4 q5 (S 3) (S 4) g5 g6 g7 := by
    refine ⟨h3.1, h3.2.1, fun b hb => ?_, fun b hb => ?_, fun b hb => ?_, fun b hb hb4 => ?_⟩
    · rcases Nat.lt_or_ge b nb with hbn | hbn
      · rw [k3 b hbn, y5 b hbn]
        show (if C.2 4 (A 1 b) = some (A 2 r) ∧ ¬ C.1 3 (A 1 b) = 6 then 2 else C.1 3 (A 1 b)) = _
        rw [h3.2.2.1 b hb]
        simp only [hr6 b hbn]
      · rw [(ks b hbn hb).2, y5b b hbn]
        exact h3.2.2.1 b hb
    · rw [k4 b hb, y6 b hb]
      show (if C.2 4 (A 1 b) = some (A 2 r) then none else C.2 4 (A 1 b)) = _
      by_cases e : S 6 b = nI r
      · rw [if_pos ((hr6 b hb).mpr e), if_pos e, rfI_n]
      · rw [if_neg (fun h => e ((hr6 b hb).mp h)), if_neg e]
        exact h3.2.2.2.1 b hb
    · rw [hq5 b hb, y7 b hb]
    · obtain ⟨z1, z2, z3⟩ := h3.2.2.2.2.2 b hb hb4
      exact ⟨(ks b hb hb4).1.trans z1, (hq5b b hb hb4).trans z2, (y5b b hb).trans z3⟩
  have hR7 := R7_gone (v := v) he h7 hr20 hv2 hv3 hv4 y7 y6 y5
  have hR9 := R9_gone (v := v) h9 b2 hv2 hv4 hfb y7 y6 y5
  have hR12 : R12 nb nr g6 (upd (S 15) r v) (upd (S 16) r (-1)) := by
    refine ⟨fun b q hb hq h9 => ?_, fun q hq h9 => ?_⟩
    · rw [y6 b hb] at h9
      by_cases e9 : S 6 b = nI r
      · rw [if_pos e9] at h9
        exact absurd h9.symm (nI_nm (by omega))
      · rw [if_neg e9] at h9
        have hne : q ≠ r := fun e => e9 (e ▸ h9)
        rw [ua_n _ _ hne]
        exact h12.1 b q hb hq h9
    · by_cases e9 : q = r
      · subst e9
        exact ua_s _ _ _
      · rw [ua_n _ _ e9] at h9 ⊢
        exact h12.2 q hq h9
  refine l_bnd ?_
  rcases hR.1 r with e | ⟨d, hd, e⟩
  · rw [show fd (aw nb r 0 S) r = wr (aw nb r 0 S) 16 r (-1) from if_pos (by rw [hA16]; exact e), haw] at hsa ⊢
    rw [e, rfI_n] at hr127
    refine l_ocn hr127 (l_bnd (l_keep h1.2 (fun v' f hv' => r_ev hsa (fun w' y1 y2 y3 y4 hw' => b_some ?_))))
    refine Rel_evr (Rel_kp (C := (wr (va_up (wr (wr (wr C.1 200 11 (nI (rmv DL r).length)) 200 12 (nI (rmv BT r).length)) 200 13 (nI (rmv CT r).length)) 3 i3) 125 (A 2 r) v, va_up (va_up (va_up (va_up (va_up (va_up C.2 205 f0) 206 f1) 207 f2) 5 q5) 128 (va_up (C.2 128) (A 2 r) none)) 4 q4)) ?_ f hv') y1 y2 y3 y4 hw'
    exact ⟨⟨t, bl, ms, hsa⟩, hM, h1, ⟨h2.1, h2.2.1, h2.2.2.1, VQ_same h2.2.2.2.1 e, h2.2.2.2.2⟩, hR3, h4, R5_fr h5 (fun x => by simp only [wi, wq, kp, ln, rls, va_p1, wr_pl, Nat.reduceLT]) rfl rfl rfl, h6, hR7, R8_gone h8 hv1 hv2 hv4 rfl rfl rfl hf0 hf1 hf2, hR9, h10, R11_up h11 r hv11, hR12⟩
  · rw [show fd (aw nb r 0 S) r = wr (wr (aw nb r 0 S) 2 d (-1)) 16 r (-1) from by unfold fd; rw [hA16, e, if_neg (nI_nm (by omega)), nI_clamp (by omega)], haw] at hsa ⊢
    rw [e, rfI_s _ (by omega)] at hr127
    refine l_ocs hr127 (l_bnd (l_sm hr127 (l_bnd (l_bnd (l_bnd (l_keep h1.2 (fun v' f hv' => r_ev hsa (fun w' y1 y2 y3 y4 hw' => b_some ?_))))))))
    refine Rel_evr (Rel_kp (C := (wr (va_up (wr (wr (wr C.1 200 11 (nI (rmv DL r).length)) 200 12 (nI (rmv BT r).length)) 200 13 (nI (rmv CT r).length)) 3 i3) 125 (A 2 r) v, va_up (va_up (va_up (va_up (va_up (va_up (va_up (va_up C.2 205 f0) 206 f1) 207 f2) 5 q5) 128 (va_up (C.2 128) (A 2 r) none)) 4 q4) 22 (va_up (C.2 22) (A 0 d) none)) 127 (va_up (C.2 127) (A 2 r) none))) ?_ f hv') y1 y2 y3 y4 hw'
    exact ⟨⟨t, bl, ms, hsa⟩, hM, h1, ⟨h2.1, VQ_up h2.2.1 (fun i hi e => inj0 he i d (by omega) hd e) (rfI_n _).symm, fun i hi hi2 => by
        by_cases e9 : i = d
        · subst e9; exact va_up_self _ _ _
        · exact (va_up_ne _ _ (fun h => e9 (inj0 he i d hi2 hd h))).trans (h2.2.2.1 i hi hi2), VQ_up h2.2.2.2.1 (fun i hi e => inj2 he i r (by omega) hr20 e) (rfI_n _).symm, fun i hi hi2 => (va_up_ne _ _ (fun h => by have := inj2 he i r hi2 hr20 h; omega)).trans (h2.2.2.2.2 i hi hi2)⟩, hR3, h4, R5_fr h5 (fun x => by simp only [wi, wq, kp, ln, rls, va_p1, wr_pl, Nat.reduceLT]) rfl rfl rfl, h6, hR7, R8_gone h8 hv1 hv2 hv4 rfl rfl rfl hf0 hf1 hf2, hR9, h10, R11_d (R11_up h11 r hv11) d (Or.inl rfl), hR12⟩
end GONE2
