/-! the rules against an asking -/
section RULE
variable {g : Nat → Nat → Option Nat} {cf : Nat → Nat → Nat} {nm : Nat → Int32} {A : Nat → Nat → Nat} {M : MP} {nd nb nr fe co : Nat} {W : Nat → Nat} {DL BT CT : List Nat} {C : CS} {S : RS} {r b : Nat}
theorem b_held {α β : Type} (hA : ∀ i, i < 40 → g 1 i = some (A 1 i)) (hnb : nb ≤ 40) (ec : C.1 200 1 = nI nb) (es : S 0 2 = nI nb) (h6 : ∀ x, x < nb → (C.2 4 (A 1 x) = some (A 2 r) ↔ S 6 x = nI r)) {K : Int32 → Option Int32} {K' : Int32 → Option Int32} {Q : Int32 → Int32 → Prop} (hK : ∀ v, ok2 (K v) (K' v) Q) :
    ∀ (fu j : Nat) (v : Int32), j ≤ nb → nb - j < fu → ok2 (gX9_heldBy_4 C g cf nm K fu (A 2 r) v (nI j)) (gX10_hasMany_4 S K' fu (nI r) v (nI j)) Q := by
  intro fu
  induction fu with
  | zero => intro j v hj hf; omega
  | succ fu ih =>
    intro j v hj hf
    rw [gX9_heldBy_4, gX10_hasMany_4, nI_1 j]
    refine b_ite (by rw [ec, es]) (fun _ _ => hK v) (fun q _ => ?_)
    have hjb : j < nb := nl ec (by omega) (by omega) q
    refine l_ga rfl (by omega) (by decide) (hA j (by omega)) (l_bnd (r_ld rfl (by omega) (by decide) (fun y ey => ?_)))
    refine b_ite (by rw [ey]; exact h6 j hjb) (fun _ _ => ih (j + 1) (v + 1) (by omega) (by omega)) (fun _ _ => ?_)
    rw [show v + 0 = v from Int32.add_zero v]
    exact ih (j + 1) v (by omega) (by omega)
/-- nobody else has or wants a box of this fonds -/
def FreeF (nb r : Nat) (fo : Int32) (s3 s6 s7 : Nat → Int32) (j : Nat) : Prop := ∀ x, j ≤ x → x < nb → s3 x = fo → (s6 x = -1 ∨ s6 x = nI r) ∧ (s7 x = -1 ∨ s7 x = nI r)
theorem b_taken (hA : ∀ i, i < 40 → g 1 i = some (A 1 i)) (hr : r < 20) (hnb : nb ≤ 40) (hb : b < nb) (ec : C.1 200 1 = nI nb) (es : S 0 2 = nI nb) (h3 : VW (A 1) 40 (C.1 1) (S 3)) (h6 : VQ (A 2) (A 1) nb (C.2 4) (S 6)) (h7 : VQ (A 2) (A 1) nb (C.2 5) (S 7)) (h9 : ∀ x, x < nb → ¬ S 6 x = -1 → S 7 x = -1) (o6 : ∀ i, oi 20 (S 6 i)) (o7 : ∀ i, oi 20 (S 7 i)) (inj : ∀ i k, i < 20 → k < 20 → A 2 i = A 2 k → i = k) :
    ∀ (fu j : Nat), j ≤ nb → nb - j < fu → ok2 (gX9_isTakenByAnother_2 C g cf nm (some 0) fu (C.1 1 (A 1 b)) (A 2 r) (nI j)) (gX10_rule_50 S (some 0) fu (nI r) (nI b) (nI j)) (fun x y => (x = 0 ∧ y = 0 ∧ FreeF nb r (S 3 b) (S 3) (S 6) (S 7) j) ∨ (x = 1 ∧ y = 4)) := by
  intro fu
  induction fu with
  | zero => intro j hj hf; omega
  | succ fu ih =>
    intro j hj hf
    rw [gX9_isTakenByAnother_2, gX10_rule_50, nI_1 j]
    refine b_ite (by rw [ec, es]) (fun q _ => b_some (Or.inl ⟨rfl, rfl, fun x h1 h2 => ?_⟩)) (fun q _ => ?_)
    · have := (nI_leI (a := nb) (b := j) (by omega) (by omega)).mp (ec ▸ q)
      omega
    have hjb : j < nb := nl ec (by omega) (by omega) q
    have efo : C.1 1 (A 1 b) = S 3 b := h3 b (by omega)
    have efj : C.1 1 (A 1 j) = S 3 j := h3 j (by omega)
    have q6 := h6 j hjb
    have q7 := h7 j hjb
    have hin : ∀ (P : FreeF nb r (S 3 b) (S 3) (S 6) (S 7) (j + 1) → S 3 j = S 3 b → (S 6 j = -1 ∨ S 6 j = nI r) ∧ (S 7 j = -1 ∨ S 7 j = nI r)), ok2 (gX9_isTakenByAnother_2 C g cf nm (some 0) fu (C.1 1 (A 1 b)) (A 2 r) (nI (j + 1))) (gX10_rule_50 S (some 0) fu (nI r) (nI b) (nI (j + 1))) (fun x y => (x = 0 ∧ y = 0 ∧ FreeF nb r (S 3 b) (S 3) (S 6) (S 7) j) ∨ (x = 1 ∧ y = 4)) := fun P => by
      refine ok2_mono (ih (j + 1) (by omega) (by omega)) (fun x y h => ?_)
      rcases h with ⟨a, c, d⟩ | h
      · refine Or.inl ⟨a, c, fun z hz hz2 hz3 => ?_⟩
        by_cases e : z = j
        · subst e
          exact P d hz3
        · exact d z (by omega) hz2 hz3
      · exact Or.inr h
    refine l_ga rfl (by omega) (by decide) (hA j (by omega)) (l_bnd (r_ld rfl (by omega) (by decide) (fun y14 e14 => r_ld rfl (by omega) (by decide) (fun y16 e16 => ?_))))
    by_cases hfo : S 3 j = S 3 b
    · refine r_t (by rw [e14, e16]; exact hfo) (r_ld rfl (by omega) (by decide) (fun y19 e19 => ?_))
      rcases o6 j with k6 | ⟨a, ha, k6⟩
      · rw [k6, rfI_n] at q6
        refine l_ocn q6 (l_bnd (l_t (by rw [efj, efo]; exact hfo) (r_t (e19.trans k6) (r_ld rfl (by omega) (by decide) (fun y22 e22 => ?_)))))
        rcases o7 j with k7 | ⟨a, ha, k7⟩
        · rw [k7, rfI_n] at q7
          exact l_ocn q7 (r_t (e22.trans k7) (hin (fun _ _ => ⟨Or.inl k6, Or.inl k7⟩)))
        · rw [k7, rfI_s _ (by omega)] at q7
          refine l_ocs q7 (r_f (fun k => nI_nm (i := a) (by omega) (k7.symm.trans (e22.symm.trans k))) (r_ld rfl (by omega) (by decide) (fun y25 e25 => ?_)))
          refine b_ite (c := some (A 2 a) = some (A 2 r)) (by rw [e25, k7]; exact ⟨fun k => by rw [inj a r ha hr (Option.some.inj k)], fun k => by rw [nI_inj (by omega) (by omega) k]⟩) (fun _ k => hin (fun _ _ => ⟨Or.inl k6, Or.inr (e25.symm.trans k)⟩)) (fun _ _ => b_some (Or.inr ⟨rfl, rfl⟩))
      · rw [k6, rfI_s _ (by omega)] at q6
        have k7 := h9 j hjb (fun k => nI_nm (i := a) (by omega) (k6.symm.trans k))
        refine l_ocs q6 (l_bnd (l_t (by rw [efj, efo]; exact hfo) (l_ocs q6 (r_f (fun k => nI_nm (i := a) (by omega) (k6.symm.trans (e19.symm.trans k))) (r_ld rfl (by omega) (by decide) (fun y28 e28 => ?_))))))
        refine b_ite (c := some (A 2 a) = some (A 2 r)) (by rw [e28, k6]; exact ⟨fun k => by rw [inj a r ha hr (Option.some.inj k)], fun k => by rw [nI_inj (by omega) (by omega) k]⟩) (fun _ k => r_ld rfl (by omega) (by decide) (fun y31 e31 => r_t (e31.trans k7) (hin (fun _ _ => ⟨Or.inr (e28.symm.trans k), Or.inl k7⟩)))) (fun _ _ => b_some (Or.inr ⟨rfl, rfl⟩))
    · refine r_f (by rw [e14, e16]; exact hfo) ?_
      have hf2 : ¬ C.1 1 (A 1 j) = C.1 1 (A 1 b) := by rw [efj, efo]; exact hfo
      have hgo := hin (fun _ k => absurd k hfo)
      rcases o6 j with k6 | ⟨a, ha, k6⟩
      · rw [k6, rfI_n] at q6
        exact l_ocn q6 (l_bnd (l_f hf2 hgo))
      · rw [k6, rfI_s _ (by omega)] at q6
        exact l_ocs q6 (l_bnd (l_f hf2 hgo))
/-- the rule against r's asking for b: class -1, reference 0 where none -/
theorem b_rule (he : EN g cf nm A) (h : Rel M A cf nd nb nr fe co W DL BT CT C S) (hr : r < nr) (hb : b < nb) (s8 : S 15 r = 8) : ok2 (gX9_ruleAgainst g cf nm C (A 2 r) (A 1 b)) (gX10_rule S (nI r) (nI b)) (fun x y => (x = -1 ∧ y = 0 ∧ S 6 b = -1 ∧ S 7 b = -1) ∨ (x = y ∧ (y = 1 ∨ y = 2 ∨ y = 3 ∨ y = 4))) := by
  obtain ⟨⟨t, bl, ms, hst⟩, hM, h1, h2, h3, h4, h5, h6, h7, h8, h9, h10, h11, h12⟩ := h
  obtain ⟨⟨⟨e1, b1⟩, ⟨e2, b2⟩, ⟨e3, b3⟩, ⟨e7, b7⟩, ⟨e8, b8⟩, e4, e5, hm, hev⟩, hR, hJ⟩ := id hst
  have hr20 : r < 20 := by omega
  have hb40 : b < 40 := by omega
  have ec : C.1 200 1 = nI nb := h1.1.2.1.trans e2
  have hA : ∀ i, i < 40 → g 1 i = some (A 1 i) := fun i hi => (he.2.1 i hi).1
  have inj : ∀ i k, i < 20 → k < 20 → A 2 i = A 2 k → i = k := inj2 he
  have hr6 : ∀ x, x < nb → (C.2 4 (A 1 x) = some (A 2 r) ↔ S 6 x = nI r) := fun x hx => by
    rw [h3.2.2.2.1 x hx]
    exact rfI_e (hR.2.2.2.2.1 x) (by decide) hr20 inj
  have no7 : ∀ x, x < nb → ¬ S 7 x = nI r := fun x hx k => by
    have := hJ.2.2.1 x r hx hr20 k
    rw [s8] at this
    exact absurd this (by decide)
  have tail : ok2 (bnd (C.2 4 (A 1 b)) fun q8 => if q8 = (some (A 2 r)) then (some 3) else (bd1 (gX9_isTakenByAnother g cf nm C (C.1 1 (A 1 b)) (A 2 r)) fun r10 => if r10 = 0 then (some (-1)) else (some 4))) (ld S 6 40 (nI b) fun y10 => if y10 = (nI r) then (some 3) else (gX10_rule_50 S (some 0) 1000 (nI r) (nI b) 0)) (fun x y => (x = -1 ∧ y = 0 ∧ S 6 b = -1 ∧ S 7 b = -1) ∨ (x = y ∧ (y = 1 ∨ y = 2 ∨ y = 3 ∨ y = 4))) := by
    refine l_bnd (r_ld rfl hb40 (by decide) (fun y10 e10 => b_ite (by rw [e10]; exact hr6 b hb) (fun _ _ => b_some (Or.inr ⟨rfl, Or.inr (Or.inr (Or.inl rfl))⟩)) (fun k _ => ?_)))
    have n6 : ¬ S 6 b = nI r := fun k2 => k ((hr6 b hb).mpr k2)
    unfold gX9_isTakenByAnother
    obtain ⟨x, y, ex, ey, hxy⟩ := b_taken (cf := cf) (nm := nm) hA hr20 b2 hb ec e2 h3.1 h3.2.2.2.1 h3.2.2.2.2.1 h9.1 hR.2.2.2.2.1 hR.2.2.2.1 inj 1000 0 (Nat.zero_le _) (by omega)
    refine l_eq ex ?_
    refine ⟨(if x = 0 then -1 else 4), y, ?_, ey, ?_⟩
    · rcases hxy with ⟨rfl, _⟩ | ⟨rfl, _⟩ <;> rfl
    · rcases hxy with ⟨rfl, rfl, hF⟩ | ⟨rfl, rfl⟩
      · obtain ⟨z1, z2⟩ := hF b (Nat.zero_le _) hb rfl
        refine Or.inl ⟨rfl, rfl, z1.elim id (fun k2 => absurd k2 n6), z2.elim id (fun k2 => absurd k2 (no7 b hb))⟩
      · exact Or.inr ⟨rfl, Or.inr (Or.inr (Or.inr rfl))⟩
  unfold gX9_ruleAgainst gX10_rule gX9_heldBy gX10_hasMany
  refine b_bd (P := fun x y => x = y) (b_held (α := Nat) (β := Nat) hA b2 ec e2 hr6 (fun v => b_some rfl) 1000 0 0 (Nat.zero_le _) (by omega)) (fun x y hxy => ?_)
  subst hxy
  refine b_ite Iff.rfl (fun _ _ => r_ld rfl hb40 (by decide) (fun y7 ey7 => ?_)) (fun _ _ => b_some (Or.inr ⟨rfl, Or.inl rfl⟩))
  have ep : C.1 2 (A 1 b) = S 4 b := h3.2.1 b hb40
  refine b_ite (by rw [ep, ey7]) (fun _ _ => tail) (fun _ _ => ?_)
  have hd := hJ.2.1 r (Or.inr (Or.inr (Or.inr s8)))
  rcases hR.1 r with k | ⟨d, hd12, k⟩
  · exact absurd k hd
  have q127 := h2.2.2.2.1 r hr
  rw [k, rfI_s _ (by omega)] at q127
  refine l_bnd (l_ocs q127 (l_bnd (l_sm q127 (r_ld rfl hr20 (by decide) (fun y37 e37 => ?_)))))
  rw [e37, k]
  exact r_ld rfl hd12 (by decide) (fun y39 e39 => b_ite (by rw [h2.1.1 d hd12, e39]) (fun _ _ => b_some (Or.inr ⟨rfl, Or.inr (Or.inl rfl)⟩)) (fun _ _ => tail))
end RULE
