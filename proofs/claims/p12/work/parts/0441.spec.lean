/-- what the compared answers hang on: desks, boxes, readers, fetchers, copyists, turn, bell, the told mishaps' turns -/
abbrev AB : Type := Nat × Nat × Nat × Nat × Nat × Int32 × Int32 × List Int32
abbrev ab (N : Nat → Nat) (n : Nat → Int32) (a : Nat → Nat → Int32) : AB := (N 0, N 1, N 2, N 3, N 4, n 1, n 2, ml (a 0) (N 8))
theorem ab_SM {N N' : Nat → Nat} {n n' : Nat → Int32} {a a' : Nat → Nat → Int32} (h : SM N N' n n') (h2 : MM N N' a a') : ab N' n' a' = ab N n a := by
  show (N' 0, N' 1, N' 2, N' 3, N' 4, n' 1, n' 2, ml (a' 0) (N' 8)) = _
  rw [h.1 0 (by decide), h.1 1 (by decide), h.1 2 (by decide), h.1 3 (by decide), h.1 4 (by decide), h.2.1, h.2.2, h2.1, h2.2]
def tick (s : AB) : AB := (s.1, s.2.1, s.2.2.1, s.2.2.2.1, s.2.2.2.2.1, s.2.2.2.2.2.1 + 1, s.2.2.2.2.2.2.1, md s.2.2.2.2.2.2.2 (s.2.2.2.2.2.1 + 1))
def ticks (k : Nat) (s : AB) : AB := match k with
  | 0 => s
  | k + 1 => tick (ticks k s)
theorem tick_of {N N' : Nat → Nat} {n n' : Nat → Int32} {a a' : Nat → Nat → Int32} (h : ∀ k, k < 5 → N' k = N k) (h1 : n' 1 = n 1 + 1) (h2 : n' 2 = n 2) (h3 : ml (a' 0) (N' 8) = md (ml (a 0) (N 8)) (n 1 + 1)) : ab N' n' a' = tick (ab N n a) := by
  show (N' 0, N' 1, N' 2, N' 3, N' 4, n' 1, n' 2, ml (a' 0) (N' 8)) = (N 0, N 1, N 2, N 3, N 4, n 1 + 1, n 2, md (ml (a 0) (N 8)) (n 1 + 1))
  rw [h 0 (by decide), h 1 (by decide), h 2 (by decide), h 3 (by decide), h 4 (by decide), h1, h2, h3]
def pcn (r f c : Nat) (k : Int32) : Nat := if k = 0 then r else if k = 1 then f else if k = 2 then c else 0
theorem pcn_0 {r f c : Nat} {k : Int32} (h : k = 0) : pcn r f c k = r := if_pos h
theorem pcn_1 {r f c : Nat} {k : Int32} (h : k = 1) : pcn r f c k = f := by
  unfold pcn
  rw [if_neg (by rw [h]; decide), if_pos h]
theorem pcn_2 {r f c : Nat} {k : Int32} (h : k = 2) : pcn r f c k = c := by
  unfold pcn
  rw [if_neg (by rw [h]; decide), if_neg (by rw [h]; decide), if_pos h]
theorem pcn_3 {r f c : Nat} {k : Int32} (h0 : ¬ k = 0) (h1 : ¬ k = 1) (h2 : ¬ k = 2) : pcn r f c k = 0 := by
  unfold pcn
  rw [if_neg h0, if_neg h1, if_neg h2]
theorem pcn_le {r f c : Nat} {k : Int32} (h0 : ¬ k = 0) (h1 : ¬ k = 1) : pcn r f c k ≤ c := by
  unfold pcn
  rw [if_neg h0, if_neg h1]
  split
  · exact Nat.le_refl _
  · exact Nat.zero_le _
theorem in_nI {v lo hi : Int32} {a b : Nat} (ha : lo = nI a) (hb : hi = nI b) (h31 : b < 2 ^ 31) (h : ¬ sp_in v lo hi = 0) (hab : a < 2 ^ 31) : ∃ j, a ≤ j ∧ j ≤ b ∧ v = nI j := by
  unfold sp_in at h
  by_cases h1 : v < lo
  · exact absurd (if_pos h1) h
  · rw [if_neg h1] at h
    by_cases h2 : hi < v
    · exact absurd (if_pos h2) h
    · rw [ha, fa_lt, nI_toInt hab] at h1
      rw [hb, fa_lt, nI_toInt h31] at h2
      have k0 : (0 : Int32).toInt = 0 := by decide
      obtain ⟨j, hj, e⟩ := nI_of (x := v) (by rw [fa_lt, k0]; omega)
      refine ⟨j, ?_, ?_, e⟩ <;> rw [e, nI_toInt hj] at h1 h2 <;> omega
/-- the compared calls: answer and what is left -/
def sp_desk (s : AB) : Int32 × AB := if 0 < s.2.2.2.2.2.1 then (-1, s) else if 12 ≤ s.1 then (-1, s) else (nI s.1, s.1 + 1, s.2)
def sp_box (fo : Int32) (s : AB) : Int32 × AB := if 0 < s.2.2.2.2.2.1 then (-1, s) else if 40 ≤ s.2.1 then (-1, s) else if sp_in fo 0 9 = 0 then (-1, s) else (nI s.2.1, s.1, s.2.1 + 1, s.2.2)
def sp_people (f c w : Int32) (s : AB) : Int32 × AB := if 0 < s.2.2.2.2.2.1 then (0, s) else if sp_in f 1 4 = 0 then (0, s) else if sp_in c 1 3 = 0 then (0, s) else if sp_in w 1 5 = 0 then (0, s) else (1, s.1, s.2.1, s.2.2.1, f.toNatClampNeg, c.toNatClampNeg, s.2.2.2.2.2)
def sp_reader (ar rk : Int32) (s : AB) : Int32 × AB := if 20 ≤ s.2.2.1 then (-1, s) else if sp_in ar 1 1000 = 0 then (-1, s) else if sp_in rk 0 3 = 0 then (-1, s) else if ¬ s.2.2.2.2.2.2.1 = -1 ∧ s.2.2.2.2.2.2.1 ≤ s.2.2.2.2.2.1 then (-1, s) else (nI s.2.2.1, s.1, s.2.1, s.2.2.1 + 1, s.2.2.2)
def sp_bell (v : Int32) (s : AB) : Int32 × AB := if v ≤ s.2.2.2.2.2.1 then (0, s) else if ¬ s.2.2.2.2.2.2.1 = -1 then (0, s) else (1, s.1, s.2.1, s.2.2.1, s.2.2.2.1, s.2.2.2.2.1, s.2.2.2.2.2.1, v, s.2.2.2.2.2.2.2)
def sp_mishap (v k w : Int32) (s : AB) : Int32 × AB := if v ≤ s.2.2.2.2.2.1 then (0, s) else if pcn s.2.2.1 s.2.2.2.1 s.2.2.2.2.1 k ≤ w.toNatClampNeg ∨ w < 0 then (0, s) else (mz_ok s.2.2.2.2.2.2.2, s.1, s.2.1, s.2.2.1, s.2.2.2.1, s.2.2.2.2.1, s.2.2.2.2.2.1, s.2.2.2.2.2.2.1, mz_app s.2.2.2.2.2.2.2 v)
def sp_run (v : Int32) (s : AB) : Int32 × AB := if sp_in v 0 200 = 0 then (-1, s) else ((ticks v.toNatClampNeg s).2.2.2.2.2.1, ticks v.toNatClampNeg s)
theorem pers_iff {c : Nat} {w : Int32} (hc : c < 2 ^ 31) : (c ≤ w.toNatClampNeg ∨ w < 0) ↔ ¬ ∃ j, j < c ∧ w = nI j := by
  constructor
  · rintro h ⟨j, hj, e⟩
    rw [e, nI_clamp (by omega)] at h
    rcases h with h | h
    · omega
    · exact nI_pos (by omega) h
  · intro h
    by_cases h0 : w < 0
    · exact Or.inr h0
    · obtain ⟨j, hj, e⟩ := nI_of h0
      refine Or.inl (Nat.not_lt.mp (fun h9 => h ⟨j, ?_, e⟩))
      rwa [e, nI_clamp hj] at h9
theorem le_nlt {a b : Int32} (h : a ≤ b) : ¬ b < a := by
  rw [fa_le] at h
  rw [fa_lt]
  omega
theorem lt_nle {a b : Int32} (h : a < b) : ¬ b ≤ a := by
  rw [fa_lt] at h
  rw [fa_le]
  omega
theorem in_sub {v : Int32} {c : Nat} (hc : c < 2 ^ 31) : ¬ sp_in v 0 (nI c - 1) = 0 ↔ ∃ j, j < c ∧ v = nI j := by
  have k0 : (0 : Int32).toInt = 0 := by decide
  have km : (nI c - 1).toInt = (c : Int) - 1 := by
    cases c with
    | zero => decide
    | succ c => rw [nI_pred, nI_toInt (by omega)]; omega
  unfold sp_in
  constructor
  · intro h
    by_cases h1 : v < 0
    · exact absurd (if_pos h1) h
    · rw [if_neg h1] at h
      by_cases h2 : nI c - 1 < v
      · exact absurd (if_pos h2) h
      · obtain ⟨j, hj, e⟩ := nI_of h1
        rw [fa_lt, km, e, nI_toInt hj] at h2
        exact ⟨j, by omega, e⟩
  · rintro ⟨j, hj, e⟩
    rw [e, if_neg (nI_pos (by omega)), if_neg (by rw [fa_lt, km, nI_toInt (by omega)]; omega)]
    decide
theorem ab_of {N N' : Nat → Nat} {n n' : Nat → Int32} {a' : Nat → Nat → Int32} {l : List Int32} (h : SM N N' n n') (h2 : ml (a' 0) (N' 8) = l) : ab N' n' a' = (N 0, N 1, N 2, N 3, N 4, n 1, n 2, l) := by
  show (N' 0, N' 1, N' 2, N' 3, N' 4, n' 1, n' 2, ml (a' 0) (N' 8)) = _
  rw [h.1 0 (by decide), h.1 1 (by decide), h.1 2 (by decide), h.1 3 (by decide), h.1 4 (by decide), h.2.1, h.2.2, h2]
