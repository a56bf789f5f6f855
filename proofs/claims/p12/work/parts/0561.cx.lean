/-! the class over a plain state: numbers and references by (row, address); rows of a kind ci and field k: 20 * ci + k; 200 the room's numbers; 201 to 204 mishaps and events; 205 to 207 the lines; 1000 + address: a plan's row -/
abbrev QS : Type := Nat → Nat → Option Nat
abbrev CS : Type := RS × QS
abbrev ZW (x : Nat → Nat) (cy : Nat → ClassId) (g : Nat → Nat → Option Nat) (C : CS) : va_W := [(x 0, .inr (9, [.ref (x 1), .ref (x 2), .ref (x 3), .ref (x 4), .ref (x 6), .ref (x 8), .ref (x 10), .ref (x 12), .ref (x 14), .ref (x 18), .int (C.1 200 0), .int (C.1 200 1), .int (C.1 200 2), .int (C.1 200 3), .int (C.1 200 4), .int (C.1 200 5), .int (C.1 200 6), .int (C.1 200 7), .int (C.1 200 8)])), (x 1, .inl (cy 2, 12, .inr (.inr (.inr (.inr (g 0)))))), (x 2, .inl (cy 3, 40, .inr (.inr (.inr (.inr (g 1)))))), (x 3, .inl (cy 4, 20, .inr (.inr (.inr (.inr (g 2)))))), (x 4, .inr (7, [.ref (x 5), .int (C.1 200 9)])), (x 5, .inl (cy 5, 4, .inr (.inr (.inr (.inr (g 3)))))), (x 6, .inr (7, [.ref (x 7), .int (C.1 200 10)])), (x 7, .inl (cy 5, 3, .inr (.inr (.inr (.inr (g 4)))))), (x 8, .inr (3, [.ref (x 9), .int (C.1 200 11)])), (x 9, .inl (cy 4, 20, .inr (.inr (.inr (.inr (C.2 205)))))), (x 10, .inr (3, [.ref (x 11), .int (C.1 200 12)])), (x 11, .inl (cy 4, 20, .inr (.inr (.inr (.inr (C.2 206)))))), (x 12, .inr (3, [.ref (x 13), .int (C.1 200 13)])), (x 13, .inl (cy 4, 20, .inr (.inr (.inr (.inr (C.2 207)))))), (x 14, .inr (4, [.ref (x 15), .ref (x 16), .ref (x 17), .int (C.1 200 14)])), (x 15, .inl (cy 0, 30, .inl (C.1 201))), (x 16, .inl (cy 0, 30, .inl (C.1 202))), (x 17, .inl (cy 0, 30, .inl (C.1 203))), (x 18, .inr (2, [.ref (x 19), .int (C.1 200 15)])), (x 19, .inl (cy 0, 1600, .inl (C.1 204)))]
def pf (cy : Nat → ClassId) (K : Nat → Nat) (cf : Nat → Nat → Nat) (nm : Nat → Int32) (C : CS) (a : Nat) : va_E := match K a with
  | 0 => .inr (0, [.int (nm a), .int (C.1 1 a), .int (C.1 2 a), .int (C.1 3 a), va_rf (C.2 4 a), va_rf (C.2 5 a)])
  | 1 => .inr (1, [.int (nm a), .int (C.1 21 a), va_rf (C.2 22 a)])
  | 5 => .inr (5, [.ref (cf 1 a), .ref (cf 2 a), .ref (cf 3 a), .ref (cf 4 a), .ref (cf 5 a), .int (C.1 105 a), .int (C.1 106 a), .int (C.1 107 a)])
  | 6 => .inr (6, [.int (nm a), .ref (cf 0 a), .int (C.1 122 a), .int (C.1 123 a), .int (C.1 124 a), .int (C.1 125 a), .int (C.1 126 a), va_rf (C.2 127 a), va_rf (C.2 128 a), .int (C.1 129 a), .int (C.1 130 a), .int (C.1 131 a), .int (C.1 132 a), .int (C.1 133 a), .int (C.1 134 a), .int (C.1 135 a), .int (C.1 136 a)])
  | 8 => .inr (8, [va_rf (C.2 160 a), va_rf (C.2 161 a), .int (C.1 162 a)])
  | 12 => .inl (cy 0, 16, .inl (C.1 (1000 + a)))
  | _ => .inl (cy 1, 16, .inl (C.1 (1000 + a)))
def wi (C : CS) (k a : Nat) (v : Int32) : CS := (wr C.1 k a v, C.2)
def wq (C : CS) (k a : Nat) (q : Option Nat) : CS := (C.1, va_up C.2 k (va_up (C.2 k) a q))
theorem wq_ap (C : CS) (k a : Nat) (q : Option Nat) (j b : Nat) : (wq C k a q).2 j b = if j = k then (if b = a then q else C.2 j b) else C.2 j b := by
  show va_up C.2 k (va_up (C.2 k) a q) j b = _
  unfold va_up
  by_cases h : j = k
  · subst h; rw [if_pos rfl, if_pos rfl]
  · rw [if_neg h, if_neg h]
theorem wi_ap (C : CS) (k a : Nat) (v : Int32) (j b : Nat) : (wi C k a v).1 j b = if j = k then (if b = a then v else C.1 j b) else C.1 j b := wr_ap C.1 k a v j b
def tk (k : Nat) : Nat := if k = 127 then 1 else if k = 128 then 0 else if k = 160 then 0 else 6
def WT (L : List Nat) (K : Nat → Nat) (Q : QS) : Prop := ∀ k a, rok L K (tk k) (Q k a)
theorem WT_up {L : List Nat} {K : Nat → Nat} {C : CS} (h : WT L K C.2) (k a : Nat) {q : Option Nat} (hq : rok L K (tk k) q) : WT L K (wq C k a q).2 := fun j b => by
  rw [wq_ap]
  by_cases e : j = k
  · subst e
    rw [if_pos rfl]
    by_cases e2 : b = a
    · rw [if_pos e2]; exact hq
    · rw [if_neg e2]; exact h j b
  · rw [if_neg e]; exact h j b
def ck {β : Type} (v : Int32) (K : Unit → Option β) : Option β := if v = 0 ∨ v = 1 then K () else none
theorem ck_s {β : Type} {v : Int32} {K : Unit → Option β} {R : β} (h : ck v K = some R) : b01 v ∧ K () = some R := by
  unfold ck at h
  by_cases c : v = 0 ∨ v = 1
  · rw [if_pos c] at h; exact ⟨c, h⟩
  · rw [if_neg c] at h; cases h
def sm {β : Type} (q : Option Nat) (K : Nat → Option β) : Option β := match q with
  | none => none
  | some b => K b
theorem sm_s {β : Type} {q : Option Nat} {K : Nat → Option β} {R : β} (h : sm q K = some R) : ∃ b, q = some b ∧ K b = some R := by
  cases q with
  | none => cases h
  | some b => exact ⟨b, rfl, h⟩
def oc {β : Type} (q : Option Nat) (A : Option β) (B : Nat → Option β) : Option β := match q with
  | none => A
  | some b => B b
theorem oc_n {β : Type} {A : Option β} {B : Nat → Option β} {R : β} (h : oc none A B = some R) : A = some R := h
theorem oc_b {β : Type} {A : Option β} {B : Nat → Option β} {R : β} {b : Nat} (h : oc (some b) A B = some R) : B b = some R := h
def ga {β : Type} (g : Nat → Nat → Option Nat) (k n : Nat) (i : Int32) (K : Nat → Option β) : Option β := if inb i n = true then sm (g k i.toNatClampNeg) K else none
theorem ga_s {β : Type} {g : Nat → Nat → Option Nat} {k n : Nat} {i : Int32} {K : Nat → Option β} {R : β} (h : ga g k n i K = some R) : vp_in i n ∧ ∃ b, g k i.toNatClampNeg = some b ∧ K b = some R := by
  unfold ga at h
  by_cases c : inb i n = true
  · rw [if_pos c] at h; exact ⟨inb_in c, sm_s h⟩
  · rw [if_neg c] at h; cases h
def lq {β : Type} (Q : QS) (k n : Nat) (i : Int32) (K : Option Nat → Option β) : Option β := if inb i n = true then K (Q k i.toNatClampNeg) else none
theorem lq_s {β : Type} {Q : QS} {k n : Nat} {i : Int32} {K : Option Nat → Option β} {R : β} (h : lq Q k n i K = some R) : vp_in i n ∧ ∀ q, q = Q k i.toNatClampNeg → K q = some R := by
  unfold lq at h
  by_cases c : inb i n = true
  · rw [if_pos c] at h; exact ⟨inb_in c, fun q e => by rw [e]; exact h⟩
  · rw [if_neg c] at h; cases h
def si {β : Type} (C : CS) (k n : Nat) (i v : Int32) (K : CS → Option β) : Option β := if inb i n = true then K (wi C k i.toNatClampNeg v) else none
theorem si_s {β : Type} {C : CS} {k n : Nat} {i v : Int32} {K : CS → Option β} {R : β} (h : si C k n i v K = some R) : vp_in i n ∧ ∀ z, z = wi C k i.toNatClampNeg v → K z = some R := by
  unfold si at h
  by_cases c : inb i n = true
  · rw [if_pos c] at h; exact ⟨inb_in c, fun q e => by rw [e]; exact h⟩
  · rw [if_neg c] at h; cases h
def sq {β : Type} (C : CS) (k n : Nat) (i : Int32) (q : Option Nat) (K : CS → Option β) : Option β := if inb i n = true then K (wq C k i.toNatClampNeg q) else none
theorem sq_s {β : Type} {C : CS} {k n : Nat} {i : Int32} {q : Option Nat} {K : CS → Option β} {R : β} (h : sq C k n i q K = some R) : vp_in i n ∧ ∀ z, z = wq C k i.toNatClampNeg q → K z = some R := by
  unfold sq at h
  by_cases c : inb i n = true
  · rw [if_pos c] at h; exact ⟨inb_in c, fun q e => by rw [e]; exact h⟩
  · rw [if_neg c] at h; cases h
section PFL
variable {cy : Nat → ClassId} {K : Nat → Nat} {cf : Nat → Nat → Nat} {nm : Nat → Int32} {C : CS} {a : Nat} {L : List Nat} {g : Nat → Nat → Option Nat}
theorem pf_0 (h : K a = 0) : pf cy K cf nm C a = .inr (0, [.int (nm a), .int (C.1 1 a), .int (C.1 2 a), .int (C.1 3 a), va_rf (C.2 4 a), va_rf (C.2 5 a)]) := by
  unfold pf
  rw [h]
  rfl
theorem pf_1 (h : K a = 1) : pf cy K cf nm C a = .inr (1, [.int (nm a), .int (C.1 21 a), va_rf (C.2 22 a)]) := by
  unfold pf
  rw [h]
  rfl
theorem pf_5 (h : K a = 5) : pf cy K cf nm C a = .inr (5, [.ref (cf 1 a), .ref (cf 2 a), .ref (cf 3 a), .ref (cf 4 a), .ref (cf 5 a), .int (C.1 105 a), .int (C.1 106 a), .int (C.1 107 a)]) := by
  unfold pf
  rw [h]
  rfl
theorem pf_6 (h : K a = 6) : pf cy K cf nm C a = .inr (6, [.int (nm a), .ref (cf 0 a), .int (C.1 122 a), .int (C.1 123 a), .int (C.1 124 a), .int (C.1 125 a), .int (C.1 126 a), va_rf (C.2 127 a), va_rf (C.2 128 a), .int (C.1 129 a), .int (C.1 130 a), .int (C.1 131 a), .int (C.1 132 a), .int (C.1 133 a), .int (C.1 134 a), .int (C.1 135 a), .int (C.1 136 a)]) := by
  unfold pf
  rw [h]
  rfl
theorem pf_8 (h : K a = 8) : pf cy K cf nm C a = .inr (8, [va_rf (C.2 160 a), va_rf (C.2 161 a), .int (C.1 162 a)]) := by
  unfold pf
  rw [h]
  rfl
theorem pf_12 (h : K a = 12) : pf cy K cf nm C a = .inl (cy 0, 16, .inl (C.1 (1000 + a))) := by
  unfold pf
  rw [h]
  rfl
theorem pf_13 (h : K a = 13) : pf cy K cf nm C a = .inl (cy 1, 16, .inl (C.1 (1000 + a))) := by
  unfold pf
  rw [h]
  rfl
theorem pf_ne_i {k b : Nat} {v : Int32} (hk : k < 1000) (h : b ≠ a) : pf cy K cf nm (wi C k a v) b = pf cy K cf nm C b := by
  have e1 : ∀ j, (wi C k a v).1 j b = C.1 j b := fun j => by
    rw [wi_ap, if_neg h]
    split <;> rfl
  have e2 : (wi C k a v).1 (1000 + b) = C.1 (1000 + b) := by
    funext i
    rw [wi_ap, if_neg (by omega)]
  have e3 : (wi C k a v).2 = C.2 := rfl
  unfold pf
  simp only [e1, e2, e3]
theorem pf_ne_q {k b : Nat} {q : Option Nat} (h : b ≠ a) : pf cy K cf nm (wq C k a q) b = pf cy K cf nm C b := by
  have e1 : ∀ j, (wq C k a q).2 j b = C.2 j b := fun j => by
    rw [wq_ap, if_neg h]
    split <;> rfl
  have e3 : (wq C k a q).1 = C.1 := rfl
  unfold pf
  simp only [e1, e3]
theorem pf_ne_a {b i : Nat} {v : Int32} (h : b ≠ a) : pf cy K cf nm (wi C (1000 + a) i v) b = pf cy K cf nm C b := by
  have e1 : ∀ j, j < 1000 → (wi C (1000 + a) i v).1 j b = C.1 j b := fun j hj => by rw [wi_ap, if_neg (by omega)]
  have e2 : (wi C (1000 + a) i v).1 (1000 + b) = C.1 (1000 + b) := by
    funext z
    rw [wi_ap, if_neg (by omega)]
  have e3 : (wi C (1000 + a) i v).2 = C.2 := rfl
  unfold pf
  simp only [e2, e3, e1 1 (by decide), e1 2 (by decide), e1 3 (by decide), e1 21 (by decide), e1 105 (by decide), e1 106 (by decide), e1 107 (by decide), e1 122 (by decide), e1 123 (by decide), e1 124 (by decide), e1 125 (by decide), e1 126 (by decide), e1 129 (by decide), e1 130 (by decide), e1 131 (by decide), e1 132 (by decide), e1 133 (by decide), e1 134 (by decide), e1 135 (by decide), e1 136 (by decide), e1 162 (by decide)]
theorem pu_0_1 {v : Int32} (h : K a = 0) : va_up (pf cy K cf nm C) a (.inr (0, [.int (nm a), .int v, .int (C.1 2 a), .int (C.1 3 a), va_rf (C.2 4 a), va_rf (C.2 5 a)])) = pf cy K cf nm (wi C 1 a v) := by
  funext b
  by_cases e : b = a
  · subst e
    rw [va_up_self, pf_0 h]
    simp [wr_ap, wi]
  · rw [va_up_ne _ _ e, pf_ne_i (by decide) e]
theorem pu_0_2 {v : Int32} (h : K a = 0) : va_up (pf cy K cf nm C) a (.inr (0, [.int (nm a), .int (C.1 1 a), .int v, .int (C.1 3 a), va_rf (C.2 4 a), va_rf (C.2 5 a)])) = pf cy K cf nm (wi C 2 a v) := by
  funext b
  by_cases e : b = a
  · subst e
    rw [va_up_self, pf_0 h]
    simp [wr_ap, wi]
  · rw [va_up_ne _ _ e, pf_ne_i (by decide) e]
theorem pu_0_3 {v : Int32} (h : K a = 0) : va_up (pf cy K cf nm C) a (.inr (0, [.int (nm a), .int (C.1 1 a), .int (C.1 2 a), .int v, va_rf (C.2 4 a), va_rf (C.2 5 a)])) = pf cy K cf nm (wi C 3 a v) := by
  funext b
  by_cases e : b = a
  · subst e
    rw [va_up_self, pf_0 h]
    simp [wr_ap, wi]
  · rw [va_up_ne _ _ e, pf_ne_i (by decide) e]
theorem pu_0_4 {q : Option Nat} (h : K a = 0) : va_up (pf cy K cf nm C) a (.inr (0, [.int (nm a), .int (C.1 1 a), .int (C.1 2 a), .int (C.1 3 a), va_rf q, va_rf (C.2 5 a)])) = pf cy K cf nm (wq C 4 a q) := by
  funext b
  by_cases e : b = a
  · subst e
    rw [va_up_self, pf_0 h]
    simp [wq_ap, wq, va_up]
  · rw [va_up_ne _ _ e, pf_ne_q e]
theorem pu_0_5 {q : Option Nat} (h : K a = 0) : va_up (pf cy K cf nm C) a (.inr (0, [.int (nm a), .int (C.1 1 a), .int (C.1 2 a), .int (C.1 3 a), va_rf (C.2 4 a), va_rf q])) = pf cy K cf nm (wq C 5 a q) := by
  funext b
  by_cases e : b = a
  · subst e
    rw [va_up_self, pf_0 h]
    simp [wq_ap, wq, va_up]
  · rw [va_up_ne _ _ e, pf_ne_q e]
theorem pu_1_1 {v : Int32} (h : K a = 1) : va_up (pf cy K cf nm C) a (.inr (1, [.int (nm a), .int v, va_rf (C.2 22 a)])) = pf cy K cf nm (wi C 21 a v) := by
  funext b
  by_cases e : b = a
  · subst e
    rw [va_up_self, pf_1 h]
    simp [wr_ap, wi]
  · rw [va_up_ne _ _ e, pf_ne_i (by decide) e]
theorem pu_1_2 {q : Option Nat} (h : K a = 1) : va_up (pf cy K cf nm C) a (.inr (1, [.int (nm a), .int (C.1 21 a), va_rf q])) = pf cy K cf nm (wq C 22 a q) := by
  funext b
  by_cases e : b = a
  · subst e
    rw [va_up_self, pf_1 h]
    simp [wq_ap, wq, va_up]
  · rw [va_up_ne _ _ e, pf_ne_q e]
theorem pu_5_5 {v : Int32} (h : K a = 5) : va_up (pf cy K cf nm C) a (.inr (5, [.ref (cf 1 a), .ref (cf 2 a), .ref (cf 3 a), .ref (cf 4 a), .ref (cf 5 a), .int v, .int (C.1 106 a), .int (C.1 107 a)])) = pf cy K cf nm (wi C 105 a v) := by
  funext b
  by_cases e : b = a
  · subst e
    rw [va_up_self, pf_5 h]
    simp [wr_ap, wi]
  · rw [va_up_ne _ _ e, pf_ne_i (by decide) e]
theorem pu_5_6 {v : Int32} (h : K a = 5) : va_up (pf cy K cf nm C) a (.inr (5, [.ref (cf 1 a), .ref (cf 2 a), .ref (cf 3 a), .ref (cf 4 a), .ref (cf 5 a), .int (C.1 105 a), .int v, .int (C.1 107 a)])) = pf cy K cf nm (wi C 106 a v) := by
  funext b
  by_cases e : b = a
  · subst e
    rw [va_up_self, pf_5 h]
    simp [wr_ap, wi]
  · rw [va_up_ne _ _ e, pf_ne_i (by decide) e]
theorem pu_5_7 {v : Int32} (h : K a = 5) : va_up (pf cy K cf nm C) a (.inr (5, [.ref (cf 1 a), .ref (cf 2 a), .ref (cf 3 a), .ref (cf 4 a), .ref (cf 5 a), .int (C.1 105 a), .int (C.1 106 a), .int v])) = pf cy K cf nm (wi C 107 a v) := by
  funext b
  by_cases e : b = a
  · subst e
    rw [va_up_self, pf_5 h]
    simp [wr_ap, wi]
  · rw [va_up_ne _ _ e, pf_ne_i (by decide) e]
theorem pu_6_2 {v : Int32} (h : K a = 6) : va_up (pf cy K cf nm C) a (.inr (6, [.int (nm a), .ref (cf 0 a), .int v, .int (C.1 123 a), .int (C.1 124 a), .int (C.1 125 a), .int (C.1 126 a), va_rf (C.2 127 a), va_rf (C.2 128 a), .int (C.1 129 a), .int (C.1 130 a), .int (C.1 131 a), .int (C.1 132 a), .int (C.1 133 a), .int (C.1 134 a), .int (C.1 135 a), .int (C.1 136 a)])) = pf cy K cf nm (wi C 122 a v) := by
  funext b
  by_cases e : b = a
  · subst e
    rw [va_up_self, pf_6 h]
    simp [wr_ap, wi]
  · rw [va_up_ne _ _ e, pf_ne_i (by decide) e]
theorem pu_6_3 {v : Int32} (h : K a = 6) : va_up (pf cy K cf nm C) a (.inr (6, [.int (nm a), .ref (cf 0 a), .int (C.1 122 a), .int v, .int (C.1 124 a), .int (C.1 125 a), .int (C.1 126 a), va_rf (C.2 127 a), va_rf (C.2 128 a), .int (C.1 129 a), .int (C.1 130 a), .int (C.1 131 a), .int (C.1 132 a), .int (C.1 133 a), .int (C.1 134 a), .int (C.1 135 a), .int (C.1 136 a)])) = pf cy K cf nm (wi C 123 a v) := by
  funext b
  by_cases e : b = a
  · subst e
    rw [va_up_self, pf_6 h]
    simp [wr_ap, wi]
  · rw [va_up_ne _ _ e, pf_ne_i (by decide) e]
theorem pu_6_4 {v : Int32} (h : K a = 6) : va_up (pf cy K cf nm C) a (.inr (6, [.int (nm a), .ref (cf 0 a), .int (C.1 122 a), .int (C.1 123 a), .int v, .int (C.1 125 a), .int (C.1 126 a), va_rf (C.2 127 a), va_rf (C.2 128 a), .int (C.1 129 a), .int (C.1 130 a), .int (C.1 131 a), .int (C.1 132 a), .int (C.1 133 a), .int (C.1 134 a), .int (C.1 135 a), .int (C.1 136 a)])) = pf cy K cf nm (wi C 124 a v) := by
  funext b
  by_cases e : b = a
  · subst e
    rw [va_up_self, pf_6 h]
    simp [wr_ap, wi]
  · rw [va_up_ne _ _ e, pf_ne_i (by decide) e]
theorem pu_6_5 {v : Int32} (h : K a = 6) : va_up (pf cy K cf nm C) a (.inr (6, [.int (nm a), .ref (cf 0 a), .int (C.1 122 a), .int (C.1 123 a), .int (C.1 124 a), .int v, .int (C.1 126 a), va_rf (C.2 127 a), va_rf (C.2 128 a), .int (C.1 129 a), .int (C.1 130 a), .int (C.1 131 a), .int (C.1 132 a), .int (C.1 133 a), .int (C.1 134 a), .int (C.1 135 a), .int (C.1 136 a)])) = pf cy K cf nm (wi C 125 a v) := by
  funext b
  by_cases e : b = a
  · subst e
    rw [va_up_self, pf_6 h]
    simp [wr_ap, wi]
  · rw [va_up_ne _ _ e, pf_ne_i (by decide) e]
theorem pu_6_6 {v : Int32} (h : K a = 6) : va_up (pf cy K cf nm C) a (.inr (6, [.int (nm a), .ref (cf 0 a), .int (C.1 122 a), .int (C.1 123 a), .int (C.1 124 a), .int (C.1 125 a), .int v, va_rf (C.2 127 a), va_rf (C.2 128 a), .int (C.1 129 a), .int (C.1 130 a), .int (C.1 131 a), .int (C.1 132 a), .int (C.1 133 a), .int (C.1 134 a), .int (C.1 135 a), .int (C.1 136 a)])) = pf cy K cf nm (wi C 126 a v) := by
  funext b
  by_cases e : b = a
  · subst e
    rw [va_up_self, pf_6 h]
    simp [wr_ap, wi]
  · rw [va_up_ne _ _ e, pf_ne_i (by decide) e]
theorem pu_6_7 {q : Option Nat} (h : K a = 6) : va_up (pf cy K cf nm C) a (.inr (6, [.int (nm a), .ref (cf 0 a), .int (C.1 122 a), .int (C.1 123 a), .int (C.1 124 a), .int (C.1 125 a), .int (C.1 126 a), va_rf q, va_rf (C.2 128 a), .int (C.1 129 a), .int (C.1 130 a), .int (C.1 131 a), .int (C.1 132 a), .int (C.1 133 a), .int (C.1 134 a), .int (C.1 135 a), .int (C.1 136 a)])) = pf cy K cf nm (wq C 127 a q) := by
  funext b
  by_cases e : b = a
  · subst e
    rw [va_up_self, pf_6 h]
    simp [wq_ap, wq, va_up]
  · rw [va_up_ne _ _ e, pf_ne_q e]
theorem pu_6_8 {q : Option Nat} (h : K a = 6) : va_up (pf cy K cf nm C) a (.inr (6, [.int (nm a), .ref (cf 0 a), .int (C.1 122 a), .int (C.1 123 a), .int (C.1 124 a), .int (C.1 125 a), .int (C.1 126 a), va_rf (C.2 127 a), va_rf q, .int (C.1 129 a), .int (C.1 130 a), .int (C.1 131 a), .int (C.1 132 a), .int (C.1 133 a), .int (C.1 134 a), .int (C.1 135 a), .int (C.1 136 a)])) = pf cy K cf nm (wq C 128 a q) := by
  funext b
  by_cases e : b = a
  · subst e
    rw [va_up_self, pf_6 h]
    simp [wq_ap, wq, va_up]
  · rw [va_up_ne _ _ e, pf_ne_q e]
theorem pu_6_9 {v : Int32} (h : K a = 6) : va_up (pf cy K cf nm C) a (.inr (6, [.int (nm a), .ref (cf 0 a), .int (C.1 122 a), .int (C.1 123 a), .int (C.1 124 a), .int (C.1 125 a), .int (C.1 126 a), va_rf (C.2 127 a), va_rf (C.2 128 a), .int v, .int (C.1 130 a), .int (C.1 131 a), .int (C.1 132 a), .int (C.1 133 a), .int (C.1 134 a), .int (C.1 135 a), .int (C.1 136 a)])) = pf cy K cf nm (wi C 129 a v) := by
  funext b
  by_cases e : b = a
  · subst e
    rw [va_up_self, pf_6 h]
    simp [wr_ap, wi]
  · rw [va_up_ne _ _ e, pf_ne_i (by decide) e]
theorem pu_6_10 {v : Int32} (h : K a = 6) : va_up (pf cy K cf nm C) a (.inr (6, [.int (nm a), .ref (cf 0 a), .int (C.1 122 a), .int (C.1 123 a), .int (C.1 124 a), .int (C.1 125 a), .int (C.1 126 a), va_rf (C.2 127 a), va_rf (C.2 128 a), .int (C.1 129 a), .int v, .int (C.1 131 a), .int (C.1 132 a), .int (C.1 133 a), .int (C.1 134 a), .int (C.1 135 a), .int (C.1 136 a)])) = pf cy K cf nm (wi C 130 a v) := by
  funext b
  by_cases e : b = a
  · subst e
    rw [va_up_self, pf_6 h]
    simp [wr_ap, wi]
  · rw [va_up_ne _ _ e, pf_ne_i (by decide) e]
theorem pu_6_11 {v : Int32} (h : K a = 6) : va_up (pf cy K cf nm C) a (.inr (6, [.int (nm a), .ref (cf 0 a), .int (C.1 122 a), .int (C.1 123 a), .int (C.1 124 a), .int (C.1 125 a), .int (C.1 126 a), va_rf (C.2 127 a), va_rf (C.2 128 a), .int (C.1 129 a), .int (C.1 130 a), .int v, .int (C.1 132 a), .int (C.1 133 a), .int (C.1 134 a), .int (C.1 135 a), .int (C.1 136 a)])) = pf cy K cf nm (wi C 131 a v) := by
  funext b
  by_cases e : b = a
  · subst e
    rw [va_up_self, pf_6 h]
    simp [wr_ap, wi]
  · rw [va_up_ne _ _ e, pf_ne_i (by decide) e]
theorem pu_6_12 {v : Int32} (h : K a = 6) : va_up (pf cy K cf nm C) a (.inr (6, [.int (nm a), .ref (cf 0 a), .int (C.1 122 a), .int (C.1 123 a), .int (C.1 124 a), .int (C.1 125 a), .int (C.1 126 a), va_rf (C.2 127 a), va_rf (C.2 128 a), .int (C.1 129 a), .int (C.1 130 a), .int (C.1 131 a), .int v, .int (C.1 133 a), .int (C.1 134 a), .int (C.1 135 a), .int (C.1 136 a)])) = pf cy K cf nm (wi C 132 a v) := by
  funext b
  by_cases e : b = a
  · subst e
    rw [va_up_self, pf_6 h]
    simp [wr_ap, wi]
  · rw [va_up_ne _ _ e, pf_ne_i (by decide) e]
theorem pu_6_13 {v : Int32} (h : K a = 6) : va_up (pf cy K cf nm C) a (.inr (6, [.int (nm a), .ref (cf 0 a), .int (C.1 122 a), .int (C.1 123 a), .int (C.1 124 a), .int (C.1 125 a), .int (C.1 126 a), va_rf (C.2 127 a), va_rf (C.2 128 a), .int (C.1 129 a), .int (C.1 130 a), .int (C.1 131 a), .int (C.1 132 a), .int v, .int (C.1 134 a), .int (C.1 135 a), .int (C.1 136 a)])) = pf cy K cf nm (wi C 133 a v) := by
  funext b
  by_cases e : b = a
  · subst e
    rw [va_up_self, pf_6 h]
    simp [wr_ap, wi]
  · rw [va_up_ne _ _ e, pf_ne_i (by decide) e]
theorem pu_6_14 {v : Int32} (h : K a = 6) : va_up (pf cy K cf nm C) a (.inr (6, [.int (nm a), .ref (cf 0 a), .int (C.1 122 a), .int (C.1 123 a), .int (C.1 124 a), .int (C.1 125 a), .int (C.1 126 a), va_rf (C.2 127 a), va_rf (C.2 128 a), .int (C.1 129 a), .int (C.1 130 a), .int (C.1 131 a), .int (C.1 132 a), .int (C.1 133 a), .int v, .int (C.1 135 a), .int (C.1 136 a)])) = pf cy K cf nm (wi C 134 a v) := by
  funext b
  by_cases e : b = a
  · subst e
    rw [va_up_self, pf_6 h]
    simp [wr_ap, wi]
  · rw [va_up_ne _ _ e, pf_ne_i (by decide) e]
theorem pu_6_15 {v : Int32} (h : K a = 6) : va_up (pf cy K cf nm C) a (.inr (6, [.int (nm a), .ref (cf 0 a), .int (C.1 122 a), .int (C.1 123 a), .int (C.1 124 a), .int (C.1 125 a), .int (C.1 126 a), va_rf (C.2 127 a), va_rf (C.2 128 a), .int (C.1 129 a), .int (C.1 130 a), .int (C.1 131 a), .int (C.1 132 a), .int (C.1 133 a), .int (C.1 134 a), .int v, .int (C.1 136 a)])) = pf cy K cf nm (wi C 135 a v) := by
  funext b
  by_cases e : b = a
  · subst e
    rw [va_up_self, pf_6 h]
    simp [wr_ap, wi]
  · rw [va_up_ne _ _ e, pf_ne_i (by decide) e]
theorem pu_6_16 {v : Int32} (h : K a = 6) : va_up (pf cy K cf nm C) a (.inr (6, [.int (nm a), .ref (cf 0 a), .int (C.1 122 a), .int (C.1 123 a), .int (C.1 124 a), .int (C.1 125 a), .int (C.1 126 a), va_rf (C.2 127 a), va_rf (C.2 128 a), .int (C.1 129 a), .int (C.1 130 a), .int (C.1 131 a), .int (C.1 132 a), .int (C.1 133 a), .int (C.1 134 a), .int (C.1 135 a), .int v])) = pf cy K cf nm (wi C 136 a v) := by
  funext b
  by_cases e : b = a
  · subst e
    rw [va_up_self, pf_6 h]
    simp [wr_ap, wi]
  · rw [va_up_ne _ _ e, pf_ne_i (by decide) e]
theorem pu_8_0 {q : Option Nat} (h : K a = 8) : va_up (pf cy K cf nm C) a (.inr (8, [va_rf q, va_rf (C.2 161 a), .int (C.1 162 a)])) = pf cy K cf nm (wq C 160 a q) := by
  funext b
  by_cases e : b = a
  · subst e
    rw [va_up_self, pf_8 h]
    simp [wq_ap, wq, va_up]
  · rw [va_up_ne _ _ e, pf_ne_q e]
theorem pu_8_1 {q : Option Nat} (h : K a = 8) : va_up (pf cy K cf nm C) a (.inr (8, [va_rf (C.2 160 a), va_rf q, .int (C.1 162 a)])) = pf cy K cf nm (wq C 161 a q) := by
  funext b
  by_cases e : b = a
  · subst e
    rw [va_up_self, pf_8 h]
    simp [wq_ap, wq, va_up]
  · rw [va_up_ne _ _ e, pf_ne_q e]
theorem pu_8_2 {v : Int32} (h : K a = 8) : va_up (pf cy K cf nm C) a (.inr (8, [va_rf (C.2 160 a), va_rf (C.2 161 a), .int v])) = pf cy K cf nm (wi C 162 a v) := by
  funext b
  by_cases e : b = a
  · subst e
    rw [va_up_self, pf_8 h]
    simp [wr_ap, wi]
  · rw [va_up_ne _ _ e, pf_ne_i (by decide) e]
theorem pu_12 {i : Nat} {v : Int32} (h : K a = 12) : va_up (pf cy K cf nm C) a (.inl (cy 0, 16, .inl (upd (C.1 (1000 + a)) i v))) = pf cy K cf nm (wi C (1000 + a) i v) := by
  funext b
  by_cases e : b = a
  · subst e
    rw [va_up_self, pf_12 h, show (wi C (1000 + b) i v).1 (1000 + b) = upd (C.1 (1000 + b)) i v from wr_s _ _ _ _]
  · rw [va_up_ne _ _ e, pf_ne_a e]
theorem pu_13 {i : Nat} {v : Int32} (h : K a = 13) : va_up (pf cy K cf nm C) a (.inl (cy 1, 16, .inl (upd (C.1 (1000 + a)) i v))) = pf cy K cf nm (wi C (1000 + a) i v) := by
  funext b
  by_cases e : b = a
  · subst e
    rw [va_up_self, pf_13 h, show (wi C (1000 + b) i v).1 (1000 + b) = upd (C.1 (1000 + b)) i v from wr_s _ _ _ _]
  · rw [va_up_ne _ _ e, pf_ne_a e]
theorem pf_fi {k i : Nat} {v : Int32} (h0 : 200 ≤ k) (h1 : k < 1000) : pf cy K cf nm (wi C k i v) = pf cy K cf nm C := by
  funext b
  have e1 : ∀ j, j < 200 → (wi C k i v).1 j b = C.1 j b := fun j hj => by rw [wi_ap, if_neg (by omega)]
  have e2 : (wi C k i v).1 (1000 + b) = C.1 (1000 + b) := by
    funext z
    rw [wi_ap, if_neg (by omega)]
  have e3 : (wi C k i v).2 = C.2 := rfl
  unfold pf
  simp only [e2, e3, e1 1 (by decide), e1 2 (by decide), e1 3 (by decide), e1 21 (by decide), e1 105 (by decide), e1 106 (by decide), e1 107 (by decide), e1 122 (by decide), e1 123 (by decide), e1 124 (by decide), e1 125 (by decide), e1 126 (by decide), e1 129 (by decide), e1 130 (by decide), e1 131 (by decide), e1 132 (by decide), e1 133 (by decide), e1 134 (by decide), e1 135 (by decide), e1 136 (by decide), e1 162 (by decide)]
theorem pf_fq {k i : Nat} {q : Option Nat} (h0 : 200 ≤ k) : pf cy K cf nm (wq C k i q) = pf cy K cf nm C := by
  funext b
  have e1 : ∀ j, j < 200 → (wq C k i q).2 j b = C.2 j b := fun j hj => by rw [wq_ap, if_neg (by omega)]
  have e3 : (wq C k i q).1 = C.1 := rfl
  unfold pf
  simp only [e3, e1 4 (by decide), e1 5 (by decide), e1 22 (by decide), e1 127 (by decide), e1 128 (by decide), e1 160 (by decide), e1 161 (by decide)]
theorem pf_200 {i : Nat} {v : Int32} : pf cy K cf nm (wi C 200 i v) = pf cy K cf nm C := pf_fi (by decide) (by decide)
theorem pf_201 {i : Nat} {v : Int32} : pf cy K cf nm (wi C 201 i v) = pf cy K cf nm C := pf_fi (by decide) (by decide)
theorem pf_202 {i : Nat} {v : Int32} : pf cy K cf nm (wi C 202 i v) = pf cy K cf nm C := pf_fi (by decide) (by decide)
theorem pf_203 {i : Nat} {v : Int32} : pf cy K cf nm (wi C 203 i v) = pf cy K cf nm C := pf_fi (by decide) (by decide)
theorem pf_204 {i : Nat} {v : Int32} : pf cy K cf nm (wi C 204 i v) = pf cy K cf nm C := pf_fi (by decide) (by decide)
theorem pf_205 {i : Nat} {q : Option Nat} : pf cy K cf nm (wq C 205 i q) = pf cy K cf nm C := pf_fq (by decide)
theorem pf_206 {i : Nat} {q : Option Nat} : pf cy K cf nm (wq C 206 i q) = pf cy K cf nm C := pf_fq (by decide)
theorem pf_207 {i : Nat} {q : Option Nat} : pf cy K cf nm (wq C 207 i q) = pf cy K cf nm C := pf_fq (by decide)
theorem zw_a {x : Nat → Nat} {i : Nat} {v : Int32} : ZW x cy g (wi C (1000 + a) i v) = ZW x cy g C := by
  have e1 : ∀ k, k < 1000 → (wi C (1000 + a) i v).1 k = C.1 k := fun k hk => wr_n _ _ _ _ (by omega)
  have e3 : (wi C (1000 + a) i v).2 = C.2 := rfl
  simp only [ZW, e3, e1 200 (by decide), e1 201 (by decide), e1 202 (by decide), e1 203 (by decide), e1 204 (by decide)]
theorem GO_0 (hG : GO L K g) {i : Int32} {b : Nat} (hi : vp_in i 12) (e : g 0 i.toNatClampNeg = some b) : b ∈ L ∧ K b = 1 := by
  obtain ⟨j, hj, rfl⟩ := vp_in_of hi (by decide)
  rw [nI_clamp (by omega)] at e
  obtain ⟨b2, e2, h2⟩ := hG.1 j hj
  cases e.symm.trans e2
  exact h2
theorem GO_1 (hG : GO L K g) {i : Int32} {b : Nat} (hi : vp_in i 40) (e : g 1 i.toNatClampNeg = some b) : b ∈ L ∧ K b = 0 := by
  obtain ⟨j, hj, rfl⟩ := vp_in_of hi (by decide)
  rw [nI_clamp (by omega)] at e
  obtain ⟨b2, e2, h2⟩ := hG.2.1 j hj
  cases e.symm.trans e2
  exact h2
theorem GO_2 (hG : GO L K g) {i : Int32} {b : Nat} (hi : vp_in i 20) (e : g 2 i.toNatClampNeg = some b) : b ∈ L ∧ K b = 6 := by
  obtain ⟨j, hj, rfl⟩ := vp_in_of hi (by decide)
  rw [nI_clamp (by omega)] at e
  obtain ⟨b2, e2, h2⟩ := hG.2.2.1 j hj
  cases e.symm.trans e2
  exact h2
theorem GO_3 (hG : GO L K g) {i : Int32} {b : Nat} (hi : vp_in i 4) (e : g 3 i.toNatClampNeg = some b) : b ∈ L ∧ K b = 8 := by
  obtain ⟨j, hj, rfl⟩ := vp_in_of hi (by decide)
  rw [nI_clamp (by omega)] at e
  obtain ⟨b2, e2, h2⟩ := hG.2.2.2.1 j hj
  cases e.symm.trans e2
  exact h2
theorem GO_4 (hG : GO L K g) {i : Int32} {b : Nat} (hi : vp_in i 3) (e : g 4 i.toNatClampNeg = some b) : b ∈ L ∧ K b = 8 := by
  obtain ⟨j, hj, rfl⟩ := vp_in_of hi (by decide)
  rw [nI_clamp (by omega)] at e
  obtain ⟨b2, e2, h2⟩ := hG.2.2.2.2 j hj
  cases e.symm.trans e2
  exact h2
end PFL
section LQS
variable {p : Program} {l : Launch} {e : Env} {R : Room} {s : State} {m : MethodId} {args : Array Value} {below : List Frame} {meth : Method} {c : Code} {H : Heap} {locs : List Loc} {cells slots : Nat} {Q : State → Prop} {cc : ByteArray} {pc : Nat} {ls : Array Slot} {rest : List Value} {q : Option Nat}
theorem lq_aload_n (hexec : p.tables.exec = Jvm.exec) (hb : c.code = cc) {k : Fin 4} {i : Nat} (hdg : decode cc pc = .ok (.aload_n k, 1)) (hi : (k : Nat) = i) (hl : ls[i]? = some (.val (va_rf q))) (kk : W p l e R s m args below meth c H locs cells slots Q (F0 m (pc + 1) ls (va_rf q :: rest))) : W p l e R s m args below meth c H locs cells slots Q (F0 m pc ls rest) := by
  cases q with
  | none => exact lv_aload_nN hexec hb hdg hi hl kk
  | some x => exact lv_aload_n hexec hb hdg hi hl kk
theorem lq_aload (hexec : p.tables.exec = Jvm.exec) (hb : c.code = cc) {i : Nat} (hdg : decode cc pc = .ok (.aload i, 2)) (hl : ls[i]? = some (.val (va_rf q))) (kk : W p l e R s m args below meth c H locs cells slots Q (F0 m (pc + 2) ls (va_rf q :: rest))) : W p l e R s m args below meth c H locs cells slots Q (F0 m pc ls rest) := by
  cases q with
  | none => exact lv_aloadN hexec hb hdg hl kk
  | some x => exact lv_aload hexec hb hdg hl kk
theorem lq_astore_n (hexec : p.tables.exec = Jvm.exec) (hb : c.code = cc) {k : Fin 4} {i nL : Nat} {lv lv' : List (Nat × Value)} (hdg : decode cc pc = .ok (.astore_n k, 1)) (hi : (k : Nat) = i) (h : lv_has ls nL lv) (hn : i < nL) (hl : (i, va_rf q) :: lv.filter (fun q => !(q.1 == i) && !(q.1 + 1 == i && q.2.category == 2)) = lv') (kk : ∀ ls' : Array Slot, lv_has ls' nL lv' → W p l e R s m args below meth c H locs cells slots Q (F0 m (pc + 1) ls' rest)) : W p l e R s m args below meth c H locs cells slots Q (F0 m pc ls (va_rf q :: rest)) := by
  cases q with
  | none => exact lv_astore_nN hexec hb hdg hi h hn hl kk
  | some x => exact lv_astore_n hexec hb hdg hi h hn hl kk
theorem lq_astore (hexec : p.tables.exec = Jvm.exec) (hb : c.code = cc) {i nL : Nat} {lv lv' : List (Nat × Value)} (hdg : decode cc pc = .ok (.astore i, 2)) (h : lv_has ls nL lv) (hn : i < nL) (hl : (i, va_rf q) :: lv.filter (fun q => !(q.1 == i) && !(q.1 + 1 == i && q.2.category == 2)) = lv') (kk : ∀ ls' : Array Slot, lv_has ls' nL lv' → W p l e R s m args below meth c H locs cells slots Q (F0 m (pc + 2) ls' rest)) : W p l e R s m args below meth c H locs cells slots Q (F0 m pc ls (va_rf q :: rest)) := by
  cases q with
  | none => exact lv_astoreN hexec hb hdg h hn hl kk
  | some x => exact lv_astore hexec hb hdg h hn hl kk
end LQS
