/-! two programs side by side -/
def ok2 {α β : Type} (o : Option α) (p : Option β) (Q : α → β → Prop) : Prop := ∃ a b, o = some a ∧ p = some b ∧ Q a b
section OK2
variable {α β γ τ : Type} {o : Option α} {p : Option β} {Q : α → β → Prop}
theorem b_some {a : α} {b : β} (h : Q a b) : ok2 (some a) (some b) Q := ⟨a, b, rfl, rfl, h⟩
theorem ok2_mono {Q' : α → β → Prop} (h : ok2 o p Q) (hq : ∀ a b, Q a b → Q' a b) : ok2 o p Q' := by
  obtain ⟨a, b, e1, e2, h⟩ := h
  exact ⟨a, b, e1, e2, hq a b h⟩
theorem b_bd {o1 : Option γ} {p1 : Option τ} {P : γ → τ → Prop} {K : γ → Option α} {K' : τ → Option β} (h : ok2 o1 p1 P) (hk : ∀ a b, P a b → ok2 (K a) (K' b) Q) : ok2 (bd1 o1 K) (bd1 p1 K') Q := by
  obtain ⟨a, b, e1, e2, h⟩ := h
  rw [e1, e2]
  exact hk a b h
theorem l_bd {o1 : Option γ} {P : γ → Prop} {K : γ → Option α} (h : ok o1 P) (hk : ∀ a, P a → ok2 (K a) p Q) : ok2 (bd1 o1 K) p Q := by
  obtain ⟨a, e1, h⟩ := h
  rw [e1]
  exact hk a h
theorem r_bd {p1 : Option γ} {P : γ → Prop} {K : γ → Option β} (h : ok p1 P) (hk : ∀ a, P a → ok2 o (K a) Q) : ok2 o (bd1 p1 K) Q := by
  obtain ⟨a, e1, h⟩ := h
  rw [e1]
  exact hk a h
theorem l_eq {o1 : Option γ} {a : γ} {K : γ → Option α} (e : o1 = some a) (hk : ok2 (K a) p Q) : ok2 (bd1 o1 K) p Q := by
  rw [e]
  exact hk
theorem r_eq {p1 : Option γ} {a : γ} {K : γ → Option β} (e : p1 = some a) (hk : ok2 o (K a) Q) : ok2 o (bd1 p1 K) Q := by
  rw [e]
  exact hk
theorem l_bd' {o1 : Option α} {P : α → Prop} (h : ok o1 P) (hk : ∀ a, P a → ok2 (some a) p Q) : ok2 o1 p Q := by
  obtain ⟨a, e1, h⟩ := h
  rw [e1]
  exact hk a h
theorem l_bnd {a : γ} {K : γ → Option α} (h : ok2 (K a) p Q) : ok2 (bnd a K) p Q := h
theorem r_bnd {a : γ} {K : γ → Option β} (h : ok2 o (K a) Q) : ok2 o (bnd a K) Q := h
theorem l_t {c : Prop} [Decidable c] {A B : Option α} (h : c) (k : ok2 A p Q) : ok2 (if c then A else B) p Q := by rw [if_pos h]; exact k
theorem l_f {c : Prop} [Decidable c] {A B : Option α} (h : ¬ c) (k : ok2 B p Q) : ok2 (if c then A else B) p Q := by rw [if_neg h]; exact k
theorem r_t {c : Prop} [Decidable c] {A B : Option β} (h : c) (k : ok2 o A Q) : ok2 o (if c then A else B) Q := by rw [if_pos h]; exact k
theorem r_f {c : Prop} [Decidable c] {A B : Option β} (h : ¬ c) (k : ok2 o B Q) : ok2 o (if c then A else B) Q := by rw [if_neg h]; exact k
/-- the same question on both sides -/
theorem b_ite {c d : Prop} [Decidable c] [Decidable d] {A B : Option α} {A' B' : Option β} (e : c ↔ d) (ha : c → d → ok2 A A' Q) (hb : ¬ c → ¬ d → ok2 B B' Q) : ok2 (if c then A else B) (if d then A' else B') Q := by
  by_cases h : c
  · rw [if_pos h, if_pos (e.mp h)]; exact ha h (e.mp h)
  · rw [if_neg h, if_neg (fun h2 => h (e.mpr h2))]; exact hb h (fun h2 => h (e.mpr h2))
theorem l_ocn {q : Option Nat} {A : Option α} {B : Nat → Option α} (e : q = none) (k : ok2 A p Q) : ok2 (oc q A B) p Q := by rw [e]; exact k
theorem l_ocs {q : Option Nat} {A : Option α} {B : Nat → Option α} {b : Nat} (e : q = some b) (k : ok2 (B b) p Q) : ok2 (oc q A B) p Q := by rw [e]; exact k
theorem l_sm {q : Option Nat} {B : Nat → Option α} {b : Nat} (e : q = some b) (k : ok2 (B b) p Q) : ok2 (sm q B) p Q := by rw [e]; exact k
theorem l_ck {v : Int32} {K : Unit → Option α} (h : b01 v) (k : ok2 (K ()) p Q) : ok2 (ck v K) p Q := by
  unfold ck
  rw [if_pos (show v = 0 ∨ v = 1 from h)]
  exact k
theorem l_ga {g : Nat → Nat → Option Nat} {k n j b : Nat} {i : Int32} {K : Nat → Option α} (ei : i = nI j) (hj : j < n) (hn : n < 10000) (e : g k j = some b) (h : ok2 (K b) p Q) : ok2 (ga g k n i K) p Q := by
  subst ei
  unfold ga
  rw [if_pos (inb_nI hj (by omega)), nI_clamp (by omega), e]
  exact h
theorem l_ld {S : RS} {k n j : Nat} {i : Int32} {K : Int32 → Option α} (ei : i = nI j) (hj : j < n) (hn : n < 10000) (h : ∀ y, y = S k j → ok2 (K y) p Q) : ok2 (ld S k n i K) p Q := by
  subst ei
  unfold ld
  rw [if_pos (inb_nI hj (by omega)), nI_clamp (by omega)]
  exact h _ rfl
theorem r_ld {S : RS} {k n j : Nat} {i : Int32} {K : Int32 → Option β} (ei : i = nI j) (hj : j < n) (hn : n < 10000) (h : ∀ y, y = S k j → ok2 o (K y) Q) : ok2 o (ld S k n i K) Q := by
  subst ei
  unfold ld
  rw [if_pos (inb_nI hj (by omega)), nI_clamp (by omega)]
  exact h _ rfl
theorem r_sv {S : RS} {k n j : Nat} {i v : Int32} {K : RS → Option β} (ei : i = nI j) (hj : j < n) (hn : n < 10000) (h : ok2 o (K (wr S k j v)) Q) : ok2 o (sv S k n i v K) Q := by
  subst ei
  unfold sv
  rw [if_pos (inb_nI hj (by omega)), nI_clamp (by omega)]
  exact h
theorem l_lq {Z : QS} {k n j : Nat} {i : Int32} {K : Option Nat → Option α} (ei : i = nI j) (hj : j < n) (hn : n < 10000) (h : ∀ y, y = Z k j → ok2 (K y) p Q) : ok2 (lq Z k n i K) p Q := by
  subst ei
  unfold lq
  rw [if_pos (inb_nI hj (by omega)), nI_clamp (by omega)]
  exact h _ rfl
theorem l_si {C : CS} {k n j : Nat} {i v : Int32} {K : CS → Option α} (ei : i = nI j) (hj : j < n) (hn : n < 10000) (h : ok2 (K (wi C k j v)) p Q) : ok2 (si C k n i v K) p Q := by
  subst ei
  unfold si
  rw [if_pos (inb_nI hj (by omega)), nI_clamp (by omega)]
  exact h
theorem l_sq {C : CS} {k n j : Nat} {i : Int32} {q : Option Nat} {K : CS → Option α} (ei : i = nI j) (hj : j < n) (hn : n < 10000) (h : ok2 (K (wq C k j q)) p Q) : ok2 (sq C k n i q K) p Q := by
  subst ei
  unfold sq
  rw [if_pos (inb_nI hj (by omega)), nI_clamp (by omega)]
  exact h
end OK2
/-! one program of the class -/
section OKC
variable {β : Type} {Q : β → Prop}
theorem c_ocn {q : Option Nat} {A : Option β} {B : Nat → Option β} (e : q = none) (k : ok A Q) : ok (oc q A B) Q := by rw [e]; exact k
theorem c_ocs {q : Option Nat} {A : Option β} {B : Nat → Option β} {b : Nat} (e : q = some b) (k : ok (B b) Q) : ok (oc q A B) Q := by rw [e]; exact k
theorem c_oc {q : Option Nat} {A : Option β} {B : Nat → Option β} (ha : q = none → ok A Q) (hb : ∀ b, q = some b → ok (B b) Q) : ok (oc q A B) Q := by
  cases q with
  | none => exact ha rfl
  | some b => exact hb b rfl
theorem c_sm {q : Option Nat} {B : Nat → Option β} {b : Nat} (e : q = some b) (k : ok (B b) Q) : ok (sm q B) Q := by rw [e]; exact k
theorem c_ga {g : Nat → Nat → Option Nat} {k n j b : Nat} {i : Int32} {K : Nat → Option β} (ei : i = nI j) (hj : j < n) (hn : n < 10000) (e : g k j = some b) (h : ok (K b) Q) : ok (ga g k n i K) Q := by
  subst ei
  unfold ga
  rw [if_pos (inb_nI hj (by omega)), nI_clamp (by omega), e]
  exact h
theorem c_lq {Z : QS} {k n j : Nat} {i : Int32} {K : Option Nat → Option β} (ei : i = nI j) (hj : j < n) (hn : n < 10000) (h : ∀ y, y = Z k j → ok (K y) Q) : ok (lq Z k n i K) Q := by
  subst ei
  unfold lq
  rw [if_pos (inb_nI hj (by omega)), nI_clamp (by omega)]
  exact h _ rfl
theorem c_ld {S : RS} {k n j : Nat} {i : Int32} {K : Int32 → Option β} (ei : i = nI j) (hj : j < n) (hn : n < 10000) (h : ∀ y, y = S k j → ok (K y) Q) : ok (ld S k n i K) Q := by
  subst ei
  unfold ld
  rw [if_pos (inb_nI hj (by omega)), nI_clamp (by omega)]
  exact h _ rfl
theorem c_si {C : CS} {k n j : Nat} {i v : Int32} {K : CS → Option β} (ei : i = nI j) (hj : j < n) (hn : n < 10000) (h : ok (K (wi C k j v)) Q) : ok (si C k n i v K) Q := by
  subst ei
  unfold si
  rw [if_pos (inb_nI hj (by omega)), nI_clamp (by omega)]
  exact h
theorem c_sq {C : CS} {k n j : Nat} {i : Int32} {q : Option Nat} {K : CS → Option β} (ei : i = nI j) (hj : j < n) (hn : n < 10000) (h : ok (K (wq C k j q)) Q) : ok (sq C k n i q K) Q := by
  subst ei
  unfold sq
  rw [if_pos (inb_nI hj (by omega)), nI_clamp (by omega)]
  exact h
end OKC
/-- what changes from C to C': only these rows -/
def sameI (C C' : CS) (P : Nat → Prop) : Prop := ∀ k, ¬ P k → C'.1 k = C.1 k
/-- a line: row w, its size at place z of the room's numbers, holds the readers l -/
def LN (ρ : Nat → Nat) (C : CS) (w z : Nat) (l : List Nat) : Prop := C.1 200 z = nI l.length ∧ l.length ≤ 20 ∧ ∀ i (h : i < l.length), C.2 w i = some (ρ l[i])
/-- the lines' removal, for any line -/
def gRem (w z : Nat) (K : Int32 → CS → Option CS) : Nat → Nat → Int32 → Int32 → CS → Option CS
  | 0, _, _, _, _ => none
  | fu + 1, v1, v2, v3, S => if (S.1 200 z) ≤ v3 then (K v2 S) else (lq S.2 w 20 v3 fun q3 => if q3 = (some v1) then (gRem w z K fu v1 v2 (v3 + 1) S) else (lq S.2 w 20 v3 fun q6 => sm q6 fun b7 => sq S w 20 v2 (some b7) fun S10 => gRem w z K fu v1 (v2 + 1) (v3 + 1) S10))
theorem rem_0 {g : Nat → Nat → Option Nat} {cf : Nat → Nat → Nat} {nm : Nat → Int32} {K : Int32 → CS → Option CS} : ∀ (fu v1 : Nat) (v2 v3 : Int32) (S : CS), gX3_remove_0_4 g cf nm K fu v1 v2 v3 S = gRem 205 11 K fu v1 v2 v3 S := by
  intro fu
  induction fu with
  | zero => intro v1 v2 v3 S; rfl
  | succ fu ih => intro v1 v2 v3 S; rw [gX3_remove_0_4, gRem]; simp only [ih]
theorem rem_1 {g : Nat → Nat → Option Nat} {cf : Nat → Nat → Nat} {nm : Nat → Int32} {K : Int32 → CS → Option CS} : ∀ (fu v1 : Nat) (v2 v3 : Int32) (S : CS), gX3_remove_1_4 g cf nm K fu v1 v2 v3 S = gRem 206 12 K fu v1 v2 v3 S := by
  intro fu
  induction fu with
  | zero => intro v1 v2 v3 S; rfl
  | succ fu ih => intro v1 v2 v3 S; rw [gX3_remove_1_4, gRem]; simp only [ih]
theorem rem_2 {g : Nat → Nat → Option Nat} {cf : Nat → Nat → Nat} {nm : Nat → Int32} {K : Int32 → CS → Option CS} : ∀ (fu v1 : Nat) (v2 v3 : Int32) (S : CS), gX3_remove_2_4 g cf nm K fu v1 v2 v3 S = gRem 207 13 K fu v1 v2 v3 S := by
  intro fu
  induction fu with
  | zero => intro v1 v2 v3 S; rfl
  | succ fu ih => intro v1 v2 v3 S; rw [gX3_remove_2_4, gRem]; simp only [ih]
