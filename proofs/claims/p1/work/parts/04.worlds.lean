
theorem fa_lt (a b : Int32) : a < b ↔ a.toInt < b.toInt := Int32.lt_iff_toInt_lt
theorem fa_le (a b : Int32) : a ≤ b ↔ a.toInt ≤ b.toInt := Int32.le_iff_toInt_le
theorem fa_eq (a b : Int32) : a = b ↔ a.toInt = b.toInt := Int32.toInt_inj.symm
theorem nlt_le {a b : Int32} (h : ¬ a < b) : b ≤ a := by
  rw [fa_lt] at h
  rw [fa_le]
  omega
theorem nle_lt {a b : Int32} (h : ¬ a ≤ b) : b < a := by
  rw [fa_le] at h
  rw [fa_lt]
  omega
theorem nlt_of_le {a b : Int32} (h : a ≤ b) : ¬ b < a := by
  rw [fa_le] at h
  rw [fa_lt]
  omega
theorem nz01 {a : Int32} (h : a = 0 ∨ a = 1) : narrow .boolean (.int a) = .int a ∧ fits .boolean (.int a) = true := by
  rcases h with rfl | rfl <;> exact ⟨by decide, by decide⟩
/-- a number between two: 1 or 0 -/
def sp_in (v lo hi : Int32) : Int32 := if v < lo then 0 else if hi < v then 0 else 1
theorem sp_in01 (v lo hi : Int32) : sp_in v lo hi = 0 ∨ sp_in v lo hi = 1 := by
  unfold sp_in
  by_cases h1 : v < lo
  · exact Or.inl (if_pos h1)
  · rw [if_neg h1]
    by_cases h2 : hi < v
    · exact Or.inl (if_pos h2)
    · exact Or.inr (if_neg h2)
theorem sp_in_m1 (v : Int32) : sp_in v 0 (-1) = 0 := by
  unfold sp_in
  by_cases h1 : v < 0
  · exact if_pos h1
  · rw [if_neg h1]
    refine if_pos ?_
    rw [fa_lt] at h1 ⊢
    have k0 : (0 : Int32).toInt = 0 := by decide
    have k1 : (-1 : Int32).toInt = -1 := by decide
    omega
def sp_person (k w : Int32) : Int32 := if k = 1 then sp_in w 0 1 else if k = 2 then sp_in w 0 0 else 0
theorem ts_out {x : Int32} {n : Nat} (hn : n < 2 ^ 31) (h : ∀ j, j < n → x ≠ nI j) : x.toInt < 0 ∨ (n : Int) - 1 < x.toInt := by
  rcases pk_ix x hn with h1 | h1 | ⟨j, hj, e⟩
  · rw [fa_lt] at h1
    exact Or.inl h1
  · rw [fa_le, nI_toInt hn] at h1
    exact Or.inr (by omega)
  · exact absurd e (h j hj)
theorem in01_no {x : Int32} (h : sp_in x 0 1 = 0) : ¬ x = 0 ∧ ¬ x = 1 := by
  constructor <;> (intro e; subst e; exact absurd h (by decide))
theorem in01_yes {x : Int32} (h : ¬ sp_in x 0 1 = 0) (h0 : ¬ x = 0) : x = 1 := by
  unfold sp_in at h
  by_cases a : x < 0
  · exact absurd (if_pos a) h
  · rw [if_neg a] at h
    by_cases b : 1 < x
    · exact absurd (if_pos b) h
    · rw [fa_lt] at a b
      rw [fa_eq] at h0 ⊢
      have k0 : (0 : Int32).toInt = 0 := by decide
      have k1 : (1 : Int32).toInt = 1 := by decide
      omega
theorem wno1 {k n : Int32} (hk : k = 1) (h9 : k = 0 ∨ sp_person k n = 0) : sp_in n 0 1 = 0 := by
  subst hk
  rcases h9 with h | h
  · exact absurd h (by decide)
  · exact h
theorem wno2 {k n : Int32} (h2 : ¬ sp_in k 1 2 = 0) (h1 : ¬ k = 1) (h9 : k = 0 ∨ sp_person k n = 0) : sp_in n 0 0 = 0 := by
  have hk : k = 2 := by
    unfold sp_in at h2
    by_cases a : k < 1
    · exact absurd (if_pos a) h2
    · rw [if_neg a] at h2
      by_cases b : 2 < k
      · exact absurd (if_pos b) h2
      · rw [fa_lt] at a b
        rw [fa_eq] at h1 ⊢
        have k2 : (2 : Int32).toInt = 2 := by decide
        have k1 : (1 : Int32).toInt = 1 := by decide
        omega
  subst hk
  rcases h9 with h | h
  · exact absurd h (by decide)
  · exact h
theorem q_ge {i : Int32} (h : -1 ≤ i) (h2 : ¬ i = -1) : 0 ≤ i := by
  rw [fa_le] at h ⊢
  rw [fa_eq] at h2
  have k0 : (0 : Int32).toInt = 0 := by decide
  have k1 : (-1 : Int32).toInt = -1 := by decide
  omega
theorem in02_no {k : Int32} (n0 : ¬ k = 0) (n1 : ¬ k = 1) (n2 : ¬ k = 2) : sp_in k 0 2 = 0 := by
  unfold sp_in
  by_cases a : k < 0
  · exact if_pos a
  · rw [if_neg a]
    refine if_pos ?_
    rw [fa_lt] at a ⊢
    rw [fa_eq] at n0 n1 n2
    have k0 : (0 : Int32).toInt = 0 := by decide
    have k1 : (1 : Int32).toInt = 1 := by decide
    have k2 : (2 : Int32).toInt = 2 := by decide
    omega
abbrev TYS (cy : Nat → ClassId) : List (ClassId × FieldType) := [(cy 0, .int), (cy 1, .boolean), (cy 2, .object "FondsRoom$Desk"), (cy 3, .object "FondsRoom$Box"), (cy 4, .object "FondsRoom$Reader"), (cy 5, .object "FondsRoom$Worker")]
abbrev FW (q : Nat → Nat) (cy : Nat → ClassId) (g : Nat → Nat → Option Nat) (t : Int32) : va_W := [(q 0, .inr (9, [.ref (q 1), .ref (q 3), .ref (q 5), .ref (q 7), .ref (q 11), .ref (q 14), .ref (q 15), .ref (q 16), .ref (q 17), .ref (q 21), .int 0, .int 0, .int 0, .int 2, .int t, .int (-1), .int 0, .int 0, .int 0])), (q 1, .inl (cy 2, 12, .inr (.inr (.inr (.inr (va_up (g 0) 0 (some (q 2)))))))), (q 2, .inr (1, [.int 0, .int 0, .null])), (q 3, .inl (cy 3, 40, .inr (.inr (.inr (.inr (va_up (g 1) 0 (some (q 4)))))))), (q 4, .inr (0, [.int 0, .int 0, .int 0, .int 0, .null, .null])), (q 5, .inl (cy 4, 20, .inr (.inr (.inr (.inr (va_up (g 2) 0 (some (q 6)))))))), (q 6, .inr (6, [.int 0, .ref (q 26), .int 0, .int 0, .int 0, .int 0, .int 0, .null, .null, .int 0, .int 0, .int 0, .int 0, .int 0, .int 0, .int 0, .int 0])), (q 7, .inr (7, [.ref (q 8), .int 2])), (q 8, .inl (cy 5, 4, .inr (.inr (.inr (.inr (va_up (va_up (g 3) 0 (some (q 9))) 1 (some (q 10)))))))), (q 9, .inr (8, [.null, .null, .int 0])), (q 10, .inr (8, [.null, .null, .int 0])), (q 11, .inr (7, [.ref (q 12), .int 1])), (q 12, .inl (cy 5, 3, .inr (.inr (.inr (.inr (va_up (g 4) 0 (some (q 13)))))))), (q 13, .inr (8, [.null, .null, .int 0])), (q 14, .inr (3, [.ref (q 22), .int 0])), (q 15, .inr (3, [.ref (q 23), .int 0])), (q 16, .inr (3, [.ref (q 24), .int 0])), (q 17, .inr (4, [.ref (q 18), .ref (q 19), .ref (q 20), .int 0])), (q 18, .inl (cy 0, 30, .inl (fun _ => 0))), (q 19, .inl (cy 0, 30, .inl (fun _ => 0))), (q 20, .inl (cy 0, 30, .inl (fun _ => 0))), (q 21, .inr (2, [.ref (q 25), .int 0]))]
abbrev MWe (z : Nat → Nat) (cy : Nat → ClassId) (t : Int32) : va_W := [(z 58, .inr (10, [.int 1, .int 0, .int 0, .int 0, .int t, .int (-1), .int 2, .int 2, .int 1, .ref (z 9), .ref (z 10), .ref (z 11), .ref (z 12), .ref (z 13), .ref (z 14), .ref (z 15), .ref (z 16), .ref (z 17), .ref (z 18), .ref (z 19), .int 0, .int 0, .int 0, .int 0, .ref (z 24), .ref (z 25), .ref (z 26), .ref (z 27), .ref (z 28), .ref (z 29), .ref (z 30), .ref (z 31), .ref (z 32), .ref (z 33), .ref (z 34), .ref (z 35), .ref (z 36), .ref (z 37), .ref (z 38), .ref (z 39), .ref (z 40), .ref (z 41), .ref (z 42), .ref (z 43), .ref (z 44), .ref (z 45), .ref (z 46), .int 0, .ref (z 48), .ref (z 49), .ref (z 50), .ref (z 51), .int 0, .ref (z 53), .ref (z 54), .ref (z 55), .ref (z 56), .int 0])), (z 9, .inl (cy 1, 12, .inl (fun _ => 0))), (z 10, .inl (cy 0, 12, .inl (fun _ => 0))), (z 11, .inl (cy 0, 40, .inl (fun _ => 0))), (z 12, .inl (cy 1, 40, .inl (fun _ => 0))), (z 14, .inl (cy 0, 40, .inl (fun _ => 0))), (z 15, .inl (cy 0, 40, .inl (fun _ => 0))), (z 24, .inl (cy 0, 20, .inl (fun _ => 0))), (z 25, .inl (cy 0, 20, .inl (fun _ => 0))), (z 26, .inl (cy 1, 20, .inl (fun _ => 0))), (z 28, .inl (cy 0, 20, .inl (fun _ => 0))), (z 42, .inl (cy 0, 4, .inl (upd (upd (upd (upd (fun _ => 0) 0 (-1)) 1 (-1)) 2 (-1)) 3 (-1)))), (z 44, .inl (cy 0, 4, .inl (fun _ => 0))), (z 45, .inl (cy 0, 3, .inl (upd (upd (upd (fun _ => 0) 0 (-1)) 1 (-1)) 2 (-1)))), (z 53, .inl (cy 0, 30, .inl (fun _ => 0))), (z 54, .inl (cy 0, 30, .inl (fun _ => 0))), (z 55, .inl (cy 0, 30, .inl (fun _ => 0)))]
abbrev MW (z : Nat → Nat) (cy : Nat → ClassId) (t : Int32) : va_W := [(z 58, .inr (10, [.int 0, .int 0, .int 0, .int 0, .int t, .int (-1), .int 2, .int 2, .int 1, .ref (z 9), .ref (z 10), .ref (z 11), .ref (z 12), .ref (z 13), .ref (z 14), .ref (z 15), .ref (z 16), .ref (z 17), .ref (z 18), .ref (z 19), .int 0, .int 0, .int 0, .int 0, .ref (z 24), .ref (z 25), .ref (z 26), .ref (z 27), .ref (z 28), .ref (z 29), .ref (z 30), .ref (z 31), .ref (z 32), .ref (z 33), .ref (z 34), .ref (z 35), .ref (z 36), .ref (z 37), .ref (z 38), .ref (z 39), .ref (z 40), .ref (z 41), .ref (z 42), .ref (z 43), .ref (z 44), .ref (z 45), .ref (z 46), .int 0, .ref (z 48), .ref (z 49), .ref (z 50), .ref (z 51), .int 0, .ref (z 53), .ref (z 54), .ref (z 55), .ref (z 56), .int 0])), (z 9, .inl (cy 1, 12, .inl (fun _ => 0))), (z 10, .inl (cy 0, 12, .inl (fun _ => 0))), (z 11, .inl (cy 0, 40, .inl (fun _ => 0))), (z 12, .inl (cy 1, 40, .inl (fun _ => 0))), (z 14, .inl (cy 0, 40, .inl (fun _ => 0))), (z 15, .inl (cy 0, 40, .inl (fun _ => 0))), (z 24, .inl (cy 0, 20, .inl (fun _ => 0))), (z 25, .inl (cy 0, 20, .inl (fun _ => 0))), (z 26, .inl (cy 1, 20, .inl (fun _ => 0))), (z 28, .inl (cy 0, 20, .inl (fun _ => 0))), (z 42, .inl (cy 0, 4, .inl (upd (upd (upd (upd (fun _ => 0) 0 (-1)) 1 (-1)) 2 (-1)) 3 (-1)))), (z 44, .inl (cy 0, 4, .inl (fun _ => 0))), (z 45, .inl (cy 0, 3, .inl (upd (upd (upd (fun _ => 0) 0 (-1)) 1 (-1)) 2 (-1)))), (z 53, .inl (cy 0, 30, .inl (fun _ => 0))), (z 54, .inl (cy 0, 30, .inl (fun _ => 0))), (z 55, .inl (cy 0, 30, .inl (fun _ => 0)))]
def sp_box (f : Int32) : Int32 := if sp_in f 0 9 = 0 then -1 else 0
def sp_people (f c w : Int32) : Int32 := if sp_in f 1 4 = 0 then 0 else if sp_in c 1 3 = 0 then 0 else if sp_in w 1 5 = 0 then 0 else 1
def sp_reader (a r : Int32) : Int32 := if sp_in a 1 1000 = 0 then -1 else if sp_in r 0 3 = 0 then -1 else 0
def sp_bell (t : Int32) : Int32 := if t ≤ 0 then 0 else 1
def sp_mishap (t k w : Int32) : Int32 := if t ≤ 0 then 0 else if sp_person k w = 0 then 0 else 1
def sp_worker (x : Int32) : Int32 := if x = 0 then -1 else if x = 1 then 0 else -1
def sp_queue (i : Int32) : Int32 := if i < -1 then -1 else if i = -1 then 0 else -1
def sp_count (k : Int32) : Int32 := if k = 0 then 0 else if k = 1 then 0 else if k = 2 then 0 else if k = 3 then 0 else if k = 4 then 0 else if k = 5 then 0 else if k = 6 then 1 else if k = 7 then 0 else if k = 8 then 0 else if k = 9 then 0 else if k = 10 then 0 else if k = 11 then 0 else if k = 12 then -1 else if k = 13 then 0 else if k = 14 then 0 else -1
