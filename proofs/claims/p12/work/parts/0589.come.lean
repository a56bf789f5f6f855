/-! readers come; the line for the desks -/
section COME
variable {g : Nat → Nat → Option Nat} {cf : Nat → Nat → Nat} {nm : Nat → Int32} {A : Nat → Nat → Nat} {M : MP} {nd nb nr fe co : Nat} {W : Nat → Nat} {DL BT CT : List Nat} {C : CS} {S : RS} {r : Nat}
theorem Rel_come (he : EN g cf nm A) (h : Rel M A cf nd nb nr fe co W DL BT CT C S) (hr : r < nr) (s0 : S 15 r = 0) {l' : List Nat} {f : Nat → Option Nat} (hmem : ∀ a, a ∈ l' ↔ a = r ∨ a ∈ DL) (hl : l'.length ≤ 20) (hpw : l'.Pairwise (bf (S 13) (S 12))) (hf : LF (A 2) l' f) : Rel M A cf nd nb nr fe co W l' BT CT (ln (wi (wi C 125 (A 2 r) 1) 126 (A 2 r) (C.1 200 4)) 205 11 f l'.length) (wr (wr S 15 r 1) 20 r (S 0 4)) := by
  obtain ⟨⟨t, bl, ms, hst⟩, hM, h1, h2, h3, h4, h5, h6, h7, h8, h9, h10, h11, h12⟩ := h
  have b3 := hst.1.2.2.1.2
  have hr20 : r < 20 := by omega
  obtain ⟨⟨d1, d2, d3⟩, ⟨c1, c2, c3⟩, ⟨x1, x2, x3⟩⟩ := h8
  have q128 := h7.2.2.1 r hr20
  rw [if_neg (by rw [s0]; decide)] at q128
  refine ⟨⟨t, bl, ms, hst.1, hst.2.1, J_state hst.2.2 hr (by rw [s0]; decide) (by rw [s0]; decide) (fun k => absurd k (by decide)) (by decide) (by decide)⟩, hM, h1, h2, h3, ?_, R5_fr h5 (fun x => by simp only [wi, wq, kp, ln, rls, va_p1, wr_pl, Nat.reduceLT]) rfl rfl rfl, h6, R7_st he h7 hr20 (by decide) (by decide) (by decide) q128 (fun _ _ _ => rfl) (fun _ _ _ => rfl) ((h7.2.1 r hr20).2 (by rw [s0]; decide)) (fun _ _ _ => rfl) (fun y hy hne k => (h7.2.2.2.2.1 y hy k).2) (fun y hy hne k => (h7.2.2.2.2.2 y hy k).2), ⟨⟨⟨rfl, hl, hf⟩, fun y => ?_, hpw⟩, ⟨c1, mem_same (fun e => absurd (s0.symm.trans e) (by decide)) (by decide) c2, c3⟩, ⟨x1, mem_same (fun e => absurd (s0.symm.trans e) (by decide)) (by decide) x2, x3⟩⟩, R9_st h9 (by decide) (by decide) h9.1 h9.2.1 h9.2.2.1, h10, R11_up h11 r ⟨1, by omega, rfl⟩, ⟨fun b y hb hy k => ?_, fun y hy k => ?_⟩⟩
  · obtain ⟨a1, a2, a3, a4, a5⟩ := h4
    have e4 : C.1 200 4 = S 0 4 := h1.1.2.2.2.2.1
    have := VW_up a4 (fun i hi e => inj2 he i r hi hr20 e) (S 0 4)
    rw [← e4] at this ⊢
    exact ⟨a1, a2, a3, this, a5⟩
  · rw [hmem y, d2 y]
    by_cases e : y = r
    · subst e
      exact ⟨fun _ => ⟨hr, ua_s _ _ _⟩, fun _ => Or.inl rfl⟩
    · have k2 : upd (S 15) r 1 y = S 15 y := ua_n _ _ e
      show _ ↔ y < nr ∧ upd (S 15) r 1 y = 1
      rw [k2]
      exact ⟨fun k => k.elim (fun k => absurd k e) id, Or.inr⟩
  · have k2 := h12.1 b y hb hy k
    have e : y ≠ r := fun e => by rw [e, s0] at k2; exact absurd k2 (by decide)
    show upd (S 15) r 1 y = 2 ∨ upd (S 15) r 1 y = 3 ∨ upd (S 15) r 1 y = 4 ∨ upd (S 15) r 1 y = 8
    rw [ua_n _ _ e]
    exact k2
  · by_cases e : y = r
    · subst e
      exact h12.2 y hy (Or.inl s0)
    · exact h12.2 y hy (k.elim (fun k => Or.inl ((ua_n _ _ e).symm.trans k)) (fun k => Or.inr ((ua_n _ _ e).symm.trans k)))
theorem b_come (he : EN g cf nm A) {K : CS → Option CS} {K' : RS → Option RS} {Q : CS → RS → Prop} (hK : ∀ C S, RQ M A cf nd nb nr fe co C S → ok2 (K C) (K' S) Q) :
    ∀ (fu j : Nat) (C : CS) (S : RS), j ≤ nr → nr - j < fu → RQ M A cf nd nb nr fe co C S → ok2 (gX9_readersCome_2 g cf nm K fu (nI j) C) (gX10_oneTurn_105 K' fu (nI j) S) Q := by
  intro fu
  induction fu with
  | zero => intro j C S hj hf; omega
  | succ fu ih =>
    intro j C S hj hf h
    obtain ⟨W, DL, BT, CT, h⟩ := h
    obtain ⟨⟨t, bl, ms, hst⟩, hM, h1, h2, h3, h4, h5, h6, h7, h8, h9, h10, h11, h12⟩ := id h
    obtain ⟨⟨e1, b1⟩, ⟨e2, b2⟩, ⟨e3, b3⟩, ⟨e7, b7⟩, ⟨e8, b8⟩, e4, e5, hm, hev⟩ := hst.1
    have ec : C.1 200 2 = nI nr := h1.1.2.2.1.trans e3
    rw [gX9_readersCome_2, gX10_oneTurn_105, nI_1 j]
    refine b_ite (by rw [ec, e3]) (fun _ _ => hK C S ⟨W, DL, BT, CT, h⟩) (fun q _ => ?_)
    have hjr : j < nr := nl ec (by omega) (by omega) q
    have hj20 : j < 20 := by omega
    have hnext := ih (j + 1) C S (by omega) (by omega) ⟨W, DL, BT, CT, h⟩
    refine l_ga rfl hj20 (by decide) (he.2.2.1 j hj20).1 (r_ld rfl hj20 (by decide) (fun y ey => b_ite (by rw [h7.1 j hj20, ey]) (fun k _ => ?_) (fun _ _ => hnext)))
    have s0 : S 15 j = 0 := (h7.1 j hj20).symm.trans k
    refine r_ld rfl hj20 (by decide) (fun y47 e47 => ?_)
    have e12 : C.1 122 (A 2 j) = S 12 j := h4.1 j hj20
    have et : C.1 200 4 = S 0 4 := h1.1.2.2.2.2.1
    by_cases hc : S 0 4 < S 12 j
    · exact l_t (by rw [et, e12]; exact hc) (r_f (by rw [e47]; exact lt_nle hc) hnext)
    refine l_f (by rw [et, e12]; exact hc) (r_t (by rw [e47]; exact nlt_le hc) (l_bnd (l_bnd ?_)))
    have hDl : ∀ a, a ∈ DL → a < 20 := fun a ha => by have := ((h8.1.2.1 a).mp ha).1; omega
    have hrD : j ∉ DL := fun k => by
      have := ((h8.1.2.1 j).mp k).2
      rw [s0] at this
      exact absurd this (by decide)
    have hlen : DL.length < 20 := len_lt (fun a k => bf_as a a k k) h8.1.2.2 hrD hj20 hDl
    refine l_bd (g_ins he hj20 hDl hrD hlen (C := wi (wi C 125 (A 2 j) 1) 126 (A 2 j) (C.1 200 4)) (ra := S 13) (ar := S 12) h4.2.1 h4.1 h8.1.1 h8.1.2.2) (fun C1 hC1 => ?_)
    obtain ⟨l', f, k1, k2, k3, k4, rfl⟩ := hC1
    have hR := Rel_come he h hjr s0 k1 (by omega) k3 k4
    refine r_sv rfl hj20 (by decide) (r_sv rfl hj20 (by decide) (b_keep hR (fun C' S' h' => ih (j + 1) C' S' (by omega) (by omega) ⟨_, _, _, _, h'⟩)))
/-- who is ahead, in the reference -/
theorem r_ahead {a b : Nat} (ha : a < 20) (hb : b < 20) : ok (gX10_isAhead S (nI a) (nI b)) (fun y => ¬ y = 0 ↔ bf (S 13) (S 12) a b) := by
  unfold gX10_isAhead bf
  refine ok_ld rfl ha (by decide) (fun y1 e1 => ok_ld rfl hb (by decide) (fun y3 e3 => ?_))
  subst e1 e3
  refine ok_ite (fun c => ?_) (fun c => ?_)
  · rw [if_pos c]
    refine ok_ld rfl ha (by decide) (fun y6 e6 => ok_ld rfl hb (by decide) (fun y8 e8 => ?_))
    subst e6 e8
    refine ok_ite (fun c2 => ?_) (fun c2 => ?_)
    · rw [if_pos c2]
      refine ok_ite (fun c3 => ok_some ⟨fun h => absurd rfl h, fun h => ?_⟩) (fun c3 => ok_some ⟨fun _ => ?_, fun _ => by decide⟩)
      · have := (nI_leI (by omega) (by omega)).mp c3
        omega
      · rcases Nat.lt_or_ge a b with h | h
        · exact h
        · exact absurd ((nI_leI (by omega) (by omega)).mpr h) c3
    · rw [if_neg c2]
      refine ok_ld rfl ha (by decide) (fun y6 e6 => ok_ld rfl hb (by decide) (fun y8 e8 => ?_))
      subst e6 e8
      exact ok_ite (fun c3 => ok_some ⟨fun h => absurd rfl h, fun h => absurd c3 (lt_nle h)⟩) (fun c3 => ok_some ⟨fun _ => nle_lt c3, fun _ => by decide⟩)
  · rw [if_neg c]
    refine ok_ld rfl ha (by decide) (fun y6 e6 => ok_ld rfl hb (by decide) (fun y8 e8 => ?_))
    subst e6 e8
    exact ok_ite (fun c3 => ok_some ⟨fun h => absurd rfl h, fun h => absurd c3 (lt_nle h)⟩) (fun c3 => ok_some ⟨fun _ => nle_lt c3, fun _ => by decide⟩)
/-- the reference's line: row 42 holds l -/
def L42 (l : List Nat) (f : Nat → Int32) : Prop := ∀ i (h : i < l.length), f i = nI l[i]
theorem r_ins {l : List Nat} {S0 : RS} (hr : r < 20) (hl : ∀ a, a ∈ l → a < 20) (hn : l.length < 20) {K : Int32 → Int32 → RS → Option RS} {P : RS → Prop}
    (hK : ∀ (k : Nat) (f : Nat → Int32), k ≤ l.length → (∀ i (h : i < l.length), i < k → f i = nI l[i]) → (∀ i (h : i < l.length), k ≤ i → f (i + 1) = nI l[i]) → (∀ i (h : i < l.length), k ≤ i → bf (S0 13) (S0 12) r l[i]) → (k = 0 ∨ ∃ h : k - 1 < l.length, ¬ bf (S0 13) (S0 12) r l[k - 1]) → ok (K (nI r) (nI k) (va_up S0 42 f)) P) :
    ∀ (fu k : Nat) (f : Nat → Int32), k ≤ l.length → k < fu → (∀ i (h : i < l.length), i < k → f i = nI l[i]) → (∀ i (h : i < l.length), k ≤ i → f (i + 1) = nI l[i]) → (∀ i (h : i < l.length), k ≤ i → bf (S0 13) (S0 12) r l[i]) → ok (gX10_findLine_33 K fu (nI r) (nI k) (va_up S0 42 f)) P := by
  intro fu
  induction fu with
  | zero => intro k f hk hf; omega
  | succ fu ih =>
    intro k f hk hf e3 e4 e5
    rw [gX10_findLine_33]
    cases k with
    | zero => exact ok_t (show (nI 0 : Int32) ≤ 0 by decide) (hK 0 f hk e3 e4 e5 (Or.inl rfl))
    | succ k =>
      refine ok_f (fun c => ?_) ?_
      · have := (nI_leI (a := k + 1) (b := 0) (by omega) (by omega)).mp c
        omega
      rw [nI_pred, pk_m1]
      have hy := e3 k (by omega) (by omega)
      have ha : l[k] < 20 := hl _ (List.getElem_mem _)
      refine ok_ld rfl (by omega) (by decide) (fun y ey => ?_)
      rw [show y = nI l[k] from ey.trans hy]
      refine ok_bd1 (r_ahead (S := va_up S0 42 f) hr ha) (fun s hs9 => ok_ite (fun c => ?_) (fun c => ?_))
      · exact hK (k + 1) f hk e3 e4 e5 (Or.inr ⟨by omega, fun h9 => absurd c (hs9.mpr h9)⟩)
      · refine ok_ld rfl (by omega) (by decide) (fun y2 ey2 => ok_sv rfl (by omega) (by decide) ?_)
        rw [show y2 = nI l[k] from ey2.trans hy]
        have hgo := ih k (upd f (k + 1) (nI l[k])) (by omega) (by omega) (fun i h hi => ?_) (fun i h hi => ?_) (fun i h hi => ?_)
        · refine Eq.mp (congrArg (fun z => ok (gX10_findLine_33 K fu (nI r) (nI k) z) P) ?_) hgo
          funext w
          by_cases e : w = 42
          · subst e
            rw [va_up_self, wr_s, va_up_self]
          · rw [va_up_ne _ _ e, wr_n _ _ _ _ e, va_up_ne _ _ e]
        · rw [ua_n _ _ (by omega)]
          exact e3 i h (by omega)
        · by_cases ei : i = k
          · subst ei
            exact ua_s _ _ _
          · rw [ua_n _ _ (by omega)]
            exact e4 i h (by omega)
        · by_cases ei : i = k
          · subst ei
            exact hs9.mp c
          · exact e5 i h (by omega)
end COME
