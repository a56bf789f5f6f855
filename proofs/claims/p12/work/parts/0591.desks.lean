section DESKS
variable {g : Nat → Nat → Option Nat} {cf : Nat → Nat → Nat} {nm : Nat → Int32} {A : Nat → Nat → Nat} {M : MP} {nd nb nr fe co : Nat} {W : Nat → Nat} {DL BT CT : List Nat} {C : CS} {S : RS} {r : Nat}
/-- first free desk of the kind, or, for who may sit anywhere, first free desk -/
def DF (nd : Nat) (s1 s2 : Nat → Int32) (w y : Int32) : Prop := (∃ d, d < nd ∧ y = nI d ∧ s2 d = -1 ∧ s1 d = w ∧ ∀ x, x < d → ¬ (s2 x = -1 ∧ s1 x = w)) ∨ ((∀ x, x < nd → ¬ (s2 x = -1 ∧ s1 x = w)) ∧ ((y = -1 ∧ (¬ w = 0 ∨ ∀ x, x < nd → ¬ s2 x = -1)) ∨ (w = 0 ∧ ∃ d, d < nd ∧ y = nI d ∧ s2 d = -1 ∧ ∀ x, x < d → ¬ s2 x = -1)))
theorem r_desk4 (hr : r < 20) (hnd : nd ≤ 12) (e1 : S 0 1 = nI nd) : ∀ (fu j : Nat) (v : Int32), j ≤ nd → nd - j < fu → (∀ x, x < j → ¬ (S 2 x = -1 ∧ S 1 x = S 14 r)) → ((v = -1 ∧ (¬ S 14 r = 0 ∨ ∀ x, x < j → ¬ S 2 x = -1)) ∨ (S 14 r = 0 ∧ ∃ d, d < j ∧ v = nI d ∧ S 2 d = -1 ∧ ∀ x, x < d → ¬ S 2 x = -1)) → ok (gX10_deskFor_4 S (fun v2_14 => some v2_14) fu (nI r) v (nI j)) (DF nd (S 1) (S 2) (S 14 r)) := by
  intro fu
  induction fu with
  | zero => intro j v hj hf; omega
  | succ fu ih =>
    intro j v hj hf hno hv
    rw [gX10_deskFor_4, nI_1 j]
    refine ok_ite (fun c => ?_) (fun c => ?_)
    · have hjn : j = nd := by
        have := (nI_leI (a := nd) (b := j) (by omega) (by omega)).mp (e1 ▸ c)
        omega
      subst hjn
      exact ok_some (Or.inr ⟨hno, hv⟩)
    have hjd : j < nd := nl e1 (by omega) (by omega) c
    have hj12 : j < 12 := by omega
    have hno' : ¬ (S 2 j = -1 ∧ S 1 j = S 14 r) → ∀ x, x < j + 1 → ¬ (S 2 x = -1 ∧ S 1 x = S 14 r) := fun hn x hx => by
      by_cases e : x = j
      · subst e; exact hn
      · exact hno x (by omega)
    refine ok_ld rfl hj12 (by decide) (fun y2 e2 => ok_ite (fun k => ?_) (fun k => ?_))
    · have f2 : S 2 j = -1 := e2.symm.trans k
      refine ok_ld rfl hj12 (by decide) (fun y5 e5 => ok_ld rfl hr (by decide) (fun y7 e7 => ok_ite (fun k2 => ?_) (fun k2 => ?_)))
      · exact ok_some (Or.inl ⟨j, hjd, rfl, f2, by rw [← e5, k2, e7], hno⟩)
      have hn : ¬ (S 2 j = -1 ∧ S 1 j = S 14 r) := fun h9 => k2 (by rw [e5, e7]; exact h9.2)
      refine ok_ld rfl hr (by decide) (fun y10 e10 => ok_ite (fun k3 => ?_) (fun k3 => ?_))
      · have w0 : S 14 r = 0 := e10.symm.trans k3
        refine ok_ite (fun k4 => ?_) (fun k4 => ?_)
        · refine ih (j + 1) (nI j) (by omega) (by omega) (hno' hn) (Or.inr ⟨w0, j, by omega, rfl, f2, ?_⟩)
          rcases hv with ⟨_, h9⟩ | ⟨_, d, hd, h9, _⟩
          · exact h9.elim (fun h9 => absurd w0 h9) id
          · rw [k4] at h9
            exact absurd h9.symm (nI_nm (by omega))
        · refine ih (j + 1) v (by omega) (by omega) (hno' hn) ?_
          rcases hv with ⟨h9, _⟩ | ⟨h8, d, hd, h9⟩
          · exact absurd h9 k4
          · exact Or.inr ⟨h8, d, by omega, h9⟩
      · have w0 : ¬ S 14 r = 0 := fun h9 => k3 (e10.trans h9)
        refine ih (j + 1) v (by omega) (by omega) (hno' hn) ?_
        rcases hv with ⟨h9, _⟩ | ⟨h8, _⟩
        · exact Or.inl ⟨h9, Or.inl w0⟩
        · exact absurd h8 w0
    · have f2 : ¬ S 2 j = -1 := fun h9 => k (e2.trans h9)
      refine ih (j + 1) v (by omega) (by omega) (hno' (fun h9 => f2 h9.1)) ?_
      rcases hv with ⟨h9, h8⟩ | ⟨h8, d, hd, h9⟩
      · refine Or.inl ⟨h9, h8.elim Or.inl (fun h8 => Or.inr (fun x hx => ?_))⟩
        by_cases e : x = j
        · subst e; exact f2
        · exact h8 x (by omega)
      · exact Or.inr ⟨h8, d, by omega, h9⟩
/-- a free desk for r: both -/
theorem b_desk (he : EN g cf nm A) (h : Rel M A cf nd nb nr fe co W DL BT CT C S) (o2 : ∀ x, x < nd → oi 20 (S 2 x)) (hr : r < 20) : ok2 (gX9_freeDeskFor g cf nm C (A 2 r)) (gX10_deskFor S (nI r)) (fun q y => (q = none ∧ y = -1) ∨ ∃ d, d < nd ∧ q = some (A 0 d) ∧ y = nI d ∧ S 2 d = -1) := by
  obtain ⟨⟨t, bl, ms, hst⟩, hM, h1, h2, h3, h4, hrest⟩ := h
  obtain ⟨⟨e1, b1⟩, _⟩ := hst.1
  have ec : C.1 200 0 = nI nd := h1.1.1.trans e1
  have hA : ∀ i, i < 12 → g 0 i = some (A 0 i) := fun i hi => (he.1 i hi).1
  have hd := r_desk4 (S := S) (r := r) hr b1 e1 1000 0 (-1) (Nat.zero_le _) (by omega) (fun x hx => absurd hx (Nat.not_lt_zero x)) (Or.inl ⟨rfl, Or.inr (fun x hx => absurd hx (Nat.not_lt_zero x))⟩)
  obtain ⟨y, ey, hy⟩ := hd
  have hf := fun w => g_free (g := g) (cf := cf) (nm := nm) b1 ec hA h2.1.1 h2.2.1 o2 w 1000 0 (Nat.zero_le _) (by omega) (fun x hx => absurd hx (Nat.not_lt_zero x))
  obtain ⟨q1, eq1, hq1⟩ := hf 1
  obtain ⟨q0, eq0, hq0⟩ := hf 0
  have e14 : C.1 124 (A 2 r) = S 14 r := h4.2.2.1.1 r hr
  have b14 : b01 (S 14 r) := h4.2.2.1.2 r
  have bs1 : ∀ x, b01 (S 1 x) := h2.1.2
  have fst : ∀ {P : Nat → Prop} {d d' : Nat}, P d → P d' → (∀ x, x < d → ¬ P x) → (∀ x, x < d' → ¬ P x) → d = d' := fun {P d d'} p1 p2 m1 m2 => by
    rcases Nat.lt_trichotomy d d' with k | k | k
    · exact absurd p1 (m2 d k)
    · exact k
    · exact absurd p2 (m1 d' k)
  have eq1' : gX9_firstFreeDesk g cf nm C 1 = some q1 := by
    unfold gX9_firstFreeDesk
    exact eq1
  have eq0' : gX9_firstFreeDesk g cf nm C 0 = some q0 := by
    unfold gX9_firstFreeDesk
    exact eq0
  refine ⟨if S 14 r = 0 then (q0.elim q1 some) else q1, y, ?_, ?_, ?_⟩
  · unfold gX9_freeDeskFor
    rw [eq1']
    show (if C.1 124 (A 2 r) = 0 then _ else _) = _
    rw [e14]
    by_cases w0 : S 14 r = 0
    · rw [if_pos w0, if_pos w0, eq0']
      cases q0 with
      | none => rfl
      | some a => rfl
    · rw [if_neg w0, if_neg w0]
  · unfold gX10_deskFor
    exact ey
  · by_cases w0 : S 14 r = 0
    · rw [if_pos w0]
      rw [w0] at hy
      rcases hq0 with ⟨rfl, n0⟩ | ⟨d, d1, rfl, d2, d3, d4⟩
      · show (q1 = none ∧ y = -1) ∨ _
        rcases hy with ⟨d, k1, k2, k3, k4, _⟩ | ⟨_, hy⟩
        · exact absurd ⟨k3, k4⟩ (n0 d k1)
        rcases hq1 with ⟨rfl, n1⟩ | ⟨d, d1, rfl, d2, d3, d4⟩
        · rcases hy with ⟨k, _⟩ | ⟨_, d, k1, k2, k3, k4⟩
          · exact Or.inl ⟨rfl, k⟩
          · rcases bs1 d with k | k
            · exact absurd ⟨k3, k⟩ (n0 d k1)
            · exact absurd ⟨k3, k⟩ (n1 d k1)
        · rcases hy with ⟨k, k2⟩ | ⟨_, d', k1, k2, k3, k4⟩
          · rcases k2 with k2 | k2
            · exact absurd rfl k2
            · exact absurd d2 (k2 d d1)
          · have f1 : S 1 d' = 1 := (bs1 d').elim (fun k => absurd ⟨k3, k⟩ (n0 d' k1)) id
            have e : d = d' := fst (P := fun x => S 2 x = -1 ∧ S 1 x = 1) ⟨d2, d3⟩ ⟨k3, f1⟩ d4 (fun x hx h9 => k4 x hx h9.1)
            subst e
            exact Or.inr ⟨d, d1, rfl, k2, k3⟩
      · show (some (A 0 d) = none ∧ y = -1) ∨ _
        rcases hy with ⟨d', k1, k2, k3, k4, k5⟩ | ⟨n0, _⟩
        · have e : d = d' := fst (P := fun x => S 2 x = -1 ∧ S 1 x = 0) ⟨d2, d3⟩ ⟨k3, k4⟩ d4 k5
          subst e
          exact Or.inr ⟨d, d1, rfl, k2, k3⟩
        · exact absurd ⟨d2, d3⟩ (n0 d d1)
    · rw [if_neg w0]
      have w1 : S 14 r = 1 := b14.elim (fun k => absurd k w0) id
      rw [w1] at hy
      rcases hq1 with ⟨rfl, n1⟩ | ⟨d, d1, rfl, d2, d3, d4⟩
      · rcases hy with ⟨d, k1, k2, k3, k4, _⟩ | ⟨_, hy⟩
        · exact absurd ⟨k3, k4⟩ (n1 d k1)
        rcases hy with ⟨k, _⟩ | ⟨k, _⟩
        · exact Or.inl ⟨rfl, k⟩
        · exact absurd k (by decide)
      · rcases hy with ⟨d', k1, k2, k3, k4, k5⟩ | ⟨n0, _⟩
        · have e : d = d' := fst (P := fun x => S 2 x = -1 ∧ S 1 x = 1) ⟨d2, d3⟩ ⟨k3, k4⟩ d4 k5
          subst e
          exact Or.inr ⟨d, d1, rfl, k2, k3⟩
        · exact absurd ⟨d2, d3⟩ (n0 d d1)
end DESKS
