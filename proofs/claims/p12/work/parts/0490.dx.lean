/-! programs over a plain state: arrays of numbers by (row, place); row 0 holds the object's own numbers -/
abbrev RS : Type := Nat → Nat → Int32
def inb (i : Int32) (n : Nat) : Bool := decide (¬ (i < 0 ∨ n ≤ i.toNatClampNeg))
theorem inb_in {i : Int32} {n : Nat} (h : inb i n = true) : vp_in i n := of_decide_eq_true (p := ¬ (i < 0 ∨ n ≤ i.toNatClampNeg)) h
theorem inb_nI {i n : Nat} (h : i < n) (hn : n < 2 ^ 31) : inb (nI i) n = true := decide_eq_true (p := ¬ (nI i < 0 ∨ n ≤ (nI i).toNatClampNeg)) (vp_in_nI h hn)
def wr (S : RS) (k i : Nat) (v : Int32) : RS := va_up S k (upd (S k) i v)
def ld {β : Type} (S : RS) (k n : Nat) (i : Int32) (K : Int32 → Option β) : Option β := if inb i n = true then K (S k i.toNatClampNeg) else none
def sv {β : Type} (S : RS) (k n : Nat) (i v : Int32) (K : RS → Option β) : Option β := if inb i n = true then K (wr S k i.toNatClampNeg v) else none
def bnd {α β : Type} (a : α) (K : α → Option β) : Option β := K a
def bd1 {α β : Type} (o : Option α) (K : α → Option β) : Option β := match o with
  | none => none
  | some a => K a
def bd2 {α γ β : Type} (o : Option (α × γ)) (K : α → γ → Option β) : Option β := match o with
  | none => none
  | some (a, b) => K a b
theorem ld_s {β : Type} {S : RS} {k n : Nat} {i : Int32} {K : Int32 → Option β} {R : β} (h : ld S k n i K = some R) : vp_in i n ∧ ∀ y, y = S k i.toNatClampNeg → K y = some R := by
  unfold ld at h
  by_cases c : inb i n = true
  · rw [if_pos c] at h
    exact ⟨inb_in c, fun y e => by rw [e]; exact h⟩
  · rw [if_neg c] at h
    cases h
theorem sv_s {β : Type} {S : RS} {k n : Nat} {i v : Int32} {K : RS → Option β} {R : β} (h : sv S k n i v K = some R) : vp_in i n ∧ ∀ z, z = wr S k i.toNatClampNeg v → K z = some R := by
  unfold sv at h
  by_cases c : inb i n = true
  · rw [if_pos c] at h
    exact ⟨inb_in c, fun y e => by rw [e]; exact h⟩
  · rw [if_neg c] at h
    cases h
theorem bnd_s {α β : Type} {a : α} {K : α → Option β} {R : β} (h : bnd a K = some R) : ∀ z, z = a → K z = some R := fun z e => by rw [e]; exact h
theorem bd1_s {α β : Type} {o : Option α} {K : α → Option β} {R : β} (h : bd1 o K = some R) : ∃ a, o = some a ∧ K a = some R := by
  cases o with
  | none => cases h
  | some a => exact ⟨a, rfl, h⟩
theorem bd2_s {α γ β : Type} {o : Option (α × γ)} {K : α → γ → Option β} {R : β} (h : bd2 o K = some R) : ∃ a b, o = some (a, b) ∧ K a b = some R := by
  cases o with
  | none => cases h
  | some q => exact ⟨q.1, q.2, rfl, h⟩
theorem ret2 {α γ : Type} {a a' : α} {b b' : γ} (h : some (a, b) = some (a', b')) : a = a' ∧ b = b' := by
  cases h
  exact ⟨rfl, rfl⟩
abbrev YW (y : Nat → Nat) (cy : Nat → ClassId) (S : RS) : va_W := [(y 0, .inr (10, [.int (S 0 0), .int (S 0 1), .int (S 0 2), .int (S 0 3), .int (S 0 4), .int (S 0 5), .int (S 0 6), .int (S 0 7), .int (S 0 8), .ref (y 1), .ref (y 2), .ref (y 3), .ref (y 4), .ref (y 5), .ref (y 6), .ref (y 7), .ref (y 8), .ref (y 9), .ref (y 10), .ref (y 11), .int (S 0 20), .int (S 0 21), .int (S 0 22), .int (S 0 23), .ref (y 12), .ref (y 13), .ref (y 14), .ref (y 15), .ref (y 16), .ref (y 17), .ref (y 18), .ref (y 19), .ref (y 20), .ref (y 21), .ref (y 22), .ref (y 23), .ref (y 24), .ref (y 25), .ref (y 26), .ref (y 27), .ref (y 28), .ref (y 29), .ref (y 30), .ref (y 31), .ref (y 32), .ref (y 33), .ref (y 34), .int (S 0 47), .ref (y 35), .ref (y 36), .ref (y 37), .ref (y 38), .int (S 0 52), .ref (y 39), .ref (y 40), .ref (y 41), .ref (y 42), .int (S 0 57)])), (y 1, .inl (cy 1, 12, .inl (S 1))), (y 2, .inl (cy 0, 12, .inl (S 2))), (y 3, .inl (cy 0, 40, .inl (S 3))), (y 4, .inl (cy 1, 40, .inl (S 4))), (y 5, .inl (cy 0, 40, .inl (S 5))), (y 6, .inl (cy 0, 40, .inl (S 6))), (y 7, .inl (cy 0, 40, .inl (S 7))), (y 8, .inl (cy 0, 40, .inl (S 8))), (y 9, .inl (cy 0, 40, .inl (S 9))), (y 10, .inl (cy 0, 40, .inl (S 10))), (y 11, .inl (cy 1, 40, .inl (S 11))), (y 12, .inl (cy 0, 20, .inl (S 12))), (y 13, .inl (cy 0, 20, .inl (S 13))), (y 14, .inl (cy 1, 20, .inl (S 14))), (y 15, .inl (cy 0, 20, .inl (S 15))), (y 16, .inl (cy 0, 20, .inl (S 16))), (y 17, .inl (cy 0, 20, .inl (S 17))), (y 18, .inl (cy 0, 20, .inl (S 18))), (y 19, .inl (cy 0, 20, .inl (S 19))), (y 20, .inl (cy 0, 20, .inl (S 20))), (y 21, .inl (cy 0, 20, .inl (S 21))), (y 22, .inl (cy 0, 20, .inl (S 22))), (y 23, .inl (cy 0, 20, .inl (S 23))), (y 24, .inl (cy 0, 320, .inl (S 24))), (y 25, .inl (cy 0, 60, .inl (S 25))), (y 26, .inl (cy 0, 320, .inl (S 26))), (y 27, .inl (cy 0, 320, .inl (S 27))), (y 28, .inl (cy 0, 320, .inl (S 28))), (y 29, .inl (cy 1, 320, .inl (S 29))), (y 30, .inl (cy 0, 4, .inl (S 30))), (y 31, .inl (cy 0, 4, .inl (S 31))), (y 32, .inl (cy 0, 4, .inl (S 32))), (y 33, .inl (cy 0, 3, .inl (S 33))), (y 34, .inl (cy 0, 3, .inl (S 34))), (y 35, .inl (cy 0, 400, .inl (S 35))), (y 36, .inl (cy 0, 400, .inl (S 36))), (y 37, .inl (cy 0, 400, .inl (S 37))), (y 38, .inl (cy 0, 400, .inl (S 38))), (y 39, .inl (cy 0, 30, .inl (S 39))), (y 40, .inl (cy 0, 30, .inl (S 40))), (y 41, .inl (cy 0, 30, .inl (S 41))), (y 42, .inl (cy 0, 20, .inl (S 42)))]
