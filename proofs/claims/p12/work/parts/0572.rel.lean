/-! the class beside the reference: addresses by number (A 0 desks, 1 boxes, 2 readers, 3 fetchers, 4 copyists), and what the two states have in common -/
def EN (g : Nat → Nat → Option Nat) (cf : Nat → Nat → Nat) (nm : Nat → Int32) (A : Nat → Nat → Nat) : Prop :=
  (∀ i, i < 12 → g 0 i = some (A 0 i) ∧ nm (A 0 i) = nI i) ∧ (∀ i, i < 40 → g 1 i = some (A 1 i) ∧ nm (A 1 i) = nI i) ∧
  (∀ i, i < 20 → g 2 i = some (A 2 i) ∧ nm (A 2 i) = nI i ∧ nm (cf 0 (A 2 i)) = nI i ∧ ∀ j, 1 ≤ j → j ≤ 5 → nm (cf j (cf 0 (A 2 i))) = nI (8 * i + j)) ∧
  (∀ i, i < 4 → g 3 i = some (A 3 i) ∧ nm (A 3 i) = nI i) ∧ (∀ i, i < 3 → g 4 i = some (A 4 i) ∧ nm (A 4 i) = nI (10 + i))
theorem EN_of {L : List Nat} {K : Nat → Nat} {cf : Nat → Nat → Nat} {nm : Nat → Int32} {g : Nat → Nat → Option Nat} (h : INI L K cf nm g) : EN g cf nm (fun k i => (g k i).getD 0) := by
  obtain ⟨⟨_, h1, h0, h2⟩, h3, h4⟩ := h
  refine ⟨fun i hi => ?_, fun i hi => ?_, fun i hi => ?_, fun i hi => ?_, fun i hi => ?_⟩
  · obtain ⟨b, a1, a2, a3, a4⟩ := h1 i hi
    simp only [a1, Option.getD_some]
    rw [Nat.zero_add] at a4
    exact ⟨trivial, a4⟩
  · obtain ⟨b, a1, a2, a3, a4⟩ := h0 i hi
    simp only [a1, Option.getD_some]
    rw [Nat.zero_add] at a4
    exact ⟨trivial, a4⟩
  · obtain ⟨b, a1, a2, a3, a4, a5, a6⟩ := h2 i hi
    simp only [a1, Option.getD_some]
    exact ⟨trivial, a4, a5, a6⟩
  · obtain ⟨b, a1, a2, a3, a4⟩ := h3 i hi
    simp only [a1, Option.getD_some]
    rw [Nat.zero_add] at a4
    exact ⟨trivial, a4⟩
  · obtain ⟨b, a1, a2, a3, a4⟩ := h4 i hi
    simp only [a1, Option.getD_some]
    exact ⟨trivial, a4⟩
section ENS
variable {g : Nat → Nat → Option Nat} {cf : Nat → Nat → Nat} {nm : Nat → Int32} {A : Nat → Nat → Nat}
theorem inj0 (h : EN g cf nm A) : ∀ i j, i < 12 → j < 12 → A 0 i = A 0 j → i = j := fun i j hi hj e => nI_inj (by omega) (by omega) ((h.1 i hi).2.symm.trans ((congrArg nm e).trans (h.1 j hj).2))
theorem inj1 (h : EN g cf nm A) : ∀ i j, i < 40 → j < 40 → A 1 i = A 1 j → i = j := fun i j hi hj e => nI_inj (by omega) (by omega) ((h.2.1 i hi).2.symm.trans ((congrArg nm e).trans (h.2.1 j hj).2))
theorem inj2 (h : EN g cf nm A) : ∀ i j, i < 20 → j < 20 → A 2 i = A 2 j → i = j := fun i j hi hj e => nI_inj (by omega) (by omega) ((h.2.2.1 i hi).2.1.symm.trans ((congrArg nm e).trans (h.2.2.1 j hj).2.1))
theorem injp (h : EN g cf nm A) : ∀ i j, i < 20 → j < 20 → cf 0 (A 2 i) = cf 0 (A 2 j) → i = j := fun i j hi hj e => nI_inj (by omega) (by omega) ((h.2.2.1 i hi).2.2.1.symm.trans ((congrArg nm e).trans (h.2.2.1 j hj).2.2.1))
theorem inja (h : EN g cf nm A) : ∀ i j k l, i < 20 → j < 20 → 1 ≤ k → k ≤ 5 → 1 ≤ l → l ≤ 5 → cf k (cf 0 (A 2 i)) = cf l (cf 0 (A 2 j)) → i = j ∧ k = l := fun i j k l hi hj k1 k5 l1 l5 e => by
  have := nI_inj (by omega) (by omega) (((h.2.2.1 i hi).2.2.2 k k1 k5).symm.trans ((congrArg nm e).trans ((h.2.2.1 j hj).2.2.2 l l1 l5)))
  omega
theorem inj3 (h : EN g cf nm A) : ∀ i j, i < 4 → j < 4 → A 3 i = A 3 j → i = j := fun i j hi hj e => nI_inj (by omega) (by omega) ((h.2.2.2.1 i hi).2.symm.trans ((congrArg nm e).trans (h.2.2.2.1 j hj).2))
theorem inj4 (h : EN g cf nm A) : ∀ i j, i < 3 → j < 3 → A 4 i = A 4 j → i = j := fun i j hi hj e => by
  have := nI_inj (by omega) (by omega) ((h.2.2.2.2 i hi).2.symm.trans ((congrArg nm e).trans (h.2.2.2.2 j hj).2))
  omega
theorem inj34 (h : EN g cf nm A) : ∀ i j, i < 4 → j < 3 → A 3 i ≠ A 4 j := fun i j hi hj e => by
  have := nI_inj (by omega) (by omega) ((h.2.2.2.1 i hi).2.symm.trans ((congrArg nm e).trans (h.2.2.2.2 j hj).2))
  omega
end ENS
/-- a number as a reference: -1 is none -/
def rfI (m : Nat → Nat) (v : Int32) : Option Nat := if v = -1 then none else some (m v.toNatClampNeg)
theorem rfI_n (m : Nat → Nat) : rfI m (-1) = none := if_pos rfl
theorem rfI_s (m : Nat → Nat) {j : Nat} (h : j < 1000) : rfI m (nI j) = some (m j) := by
  unfold rfI
  rw [if_neg (nI_nm h), nI_clamp (by omega)]
theorem rfI_e {m : Nat → Nat} {v : Int32} {n j : Nat} (ho : oi n v) (hn : n ≤ 1000) (hj : j < n) (hi : ∀ i k, i < n → k < n → m i = m k → i = k) : rfI m v = some (m j) ↔ v = nI j := by
  constructor
  · intro h
    rcases ho with e | ⟨i, hi2, e⟩
    · rw [e, rfI_n] at h; cases h
    · rw [e, rfI_s m (by omega)] at h
      rw [e, hi i j hi2 hj (Option.some.inj h)]
  · intro h
    rw [h, rfI_s m (by omega)]
theorem rfI_0 {m : Nat → Nat} {v : Int32} : rfI m v = none ↔ v = -1 := by
  unfold rfI
  by_cases e : v = -1
  · rw [if_pos e]; exact ⟨fun _ => e, fun _ => rfl⟩
  · rw [if_neg e]; exact ⟨fun h => (by cases h), fun h => absurd h e⟩
def VW (m : Nat → Nat) (n : Nat) (c s : Nat → Int32) : Prop := ∀ i, i < n → c (m i) = s i
def VQ (r m : Nat → Nat) (n : Nat) (q : Nat → Option Nat) (s : Nat → Int32) : Prop := ∀ i, i < n → q (m i) = rfI r (s i)
theorem ua_s (f : Nat → Int32) (i : Nat) (v : Int32) : upd f i v i = v := by
  unfold upd
  exact if_pos rfl
theorem ua_n (f : Nat → Int32) {i j : Nat} (v : Int32) (h : j ≠ i) : upd f i v j = f j := by
  unfold upd
  exact if_neg h
theorem va_id {γ : Type} (f : Nat → γ) (k : Nat) : va_up f k (f k) = f := by
  funext j
  by_cases e : j = k
  · subst e; exact va_up_self _ _ _
  · exact va_up_ne _ _ e
theorem VW_up {m : Nat → Nat} {n j : Nat} {c s : Nat → Int32} (h : VW m n c s) (hi : ∀ i, i < n → m i = m j → i = j) (v : Int32) : VW m n (upd c (m j) v) (upd s j v) := fun i hi2 => by
  by_cases e : i = j
  · subst e; rw [ua_s, ua_s]
  · rw [ua_n _ _ e, ua_n _ _ (fun h9 => e (hi i hi2 h9))]
    exact h i hi2
theorem VQ_up {r m : Nat → Nat} {n j : Nat} {q : Nat → Option Nat} {s : Nat → Int32} (h : VQ r m n q s) (hi : ∀ i, i < n → m i = m j → i = j) {v : Int32} {z : Option Nat} (hv : z = rfI r v) : VQ r m n (va_up q (m j) z) (upd s j v) := fun i hi2 => by
  by_cases e : i = j
  · subst e; rw [ua_s, va_up_self]; exact hv
  · rw [ua_n _ _ e, va_up_ne _ _ (fun h9 => e (hi i hi2 h9))]
    exact h i hi2
/-- counts -/
def R1 (c s : Nat → Int32) : Prop := (c 0 = s 1 ∧ c 1 = s 2 ∧ c 2 = s 3 ∧ c 3 = s 6 ∧ c 4 = s 4 ∧ c 5 = s 5 ∧ c 6 = s 22 ∧ c 7 = s 21 ∧ c 8 = s 23 ∧ c 9 = s 7 ∧ c 10 = s 8 ∧ ∃ u, u ≤ 3 ∧ s 23 = nI u) ∧ ∃ e, e ≤ 400 ∧ c 15 = nI e
/-- told mishaps: number and rows of both; the turn -/
abbrev MP : Type := Int32 → (Nat → Int32) → (Nat → Int32) → (Nat → Int32) → Int32 → (Nat → Int32) → (Nat → Int32) → (Nat → Int32) → Int32 → Prop
def RM : MP := fun n c1 c2 c3 m s1 s2 s3 _ => n = m ∧ ∀ i, nI i < m → i < 30 → c1 i = s1 i ∧ c2 i = s2 i ∧ c3 i = s3 i ∧ (s2 i = 0 ∨ s2 i = 1 ∨ s2 i = 2)
/-- desks -/
def R2 (A : Nat → Nat → Nat) (nd nr : Nat) (c21 : Nat → Int32) (q22 q127 : Nat → Option Nat) (s1 s2 s16 : Nat → Int32) : Prop := (VW (A 0) 12 c21 s1 ∧ ∀ i, b01 (s1 i)) ∧ VQ (A 2) (A 0) nd q22 s2 ∧ (∀ d, nd ≤ d → d < 12 → q22 (A 0 d) = none) ∧ VQ (A 0) (A 2) nr q127 s16 ∧ ∀ r, nr ≤ r → r < 20 → q127 (A 2 r) = none
/-- boxes -/
def R3 (A : Nat → Nat → Nat) (nb : Nat) (c1 c2 c3 : Nat → Int32) (q4 q5 : Nat → Option Nat) (s3 s4 s5 s6 s7 : Nat → Int32) : Prop := VW (A 1) 40 c1 s3 ∧ VW (A 1) 40 c2 s4 ∧ VW (A 1) 40 c3 s5 ∧ VQ (A 2) (A 1) nb q4 s6 ∧ VQ (A 2) (A 1) nb q5 s7 ∧ ∀ b, nb ≤ b → b < 40 → q4 (A 1 b) = none ∧ q5 (A 1 b) = none ∧ s5 b = 0
/-- readers' numbers -/
def R4 (A : Nat → Nat → Nat) (c122 c123 c124 c126 c132 c133 c134 c135 c136 s12 s13 s14 s20 s21 s22 s25 : Nat → Int32) : Prop := VW (A 2) 20 c122 s12 ∧ VW (A 2) 20 c123 s13 ∧ (VW (A 2) 20 c124 s14 ∧ ∀ i, b01 (s14 i)) ∧ VW (A 2) 20 c126 s20 ∧ VW (A 2) 20 c135 s21 ∧ VW (A 2) 20 c136 s22 ∧ VW (A 2) 20 c132 (fun r => s25 (3 * r)) ∧ VW (A 2) 20 c133 (fun r => s25 (3 * r + 1)) ∧ VW (A 2) 20 c134 (fun r => s25 (3 * r + 2))
/-- plans: I the class's numbers -/
def R5 (A : Nat → Nat → Nat) (cf : Nat → Nat → Nat) (nb : Nat) (I : RS) (s17 s18 s23 s24 s26 s27 s28 s29 : Nat → Int32) : Prop := VW (fun i => cf 0 (A 2 i)) 20 (I 105) s17 ∧ VW (fun i => cf 0 (A 2 i)) 20 (I 106) s18 ∧ VW (fun i => cf 0 (A 2 i)) 20 (I 107) s23 ∧
  (∀ r n, r < 20 → n ≤ 16 → s17 r = nI n → ∀ i, i < n → I (1000 + cf 1 (cf 0 (A 2 r))) i = s26 (16 * r + i) ∧ I (1000 + cf 3 (cf 0 (A 2 r))) i = s28 (16 * r + i) ∧ I (1000 + cf 4 (cf 0 (A 2 r))) i = s29 (16 * r + i) ∧ b01 (s29 (16 * r + i)) ∧ (s26 (16 * r + i) = 1 → I (1000 + cf 2 (cf 0 (A 2 r))) i = -1 ∧ ∃ t, 1 ≤ t ∧ t ≤ 50 ∧ s28 (16 * r + i) = nI t) ∧ (¬ s26 (16 * r + i) = 1 → ∃ b, b < nb ∧ s27 (16 * r + i) = nI b ∧ I (1000 + cf 2 (cf 0 (A 2 r))) i = nI b)) ∧
  ∀ r n, r < 20 → n ≤ 16 → s23 r = nI n → ∀ i, i < n → I (1000 + cf 5 (cf 0 (A 2 r))) i = s24 (16 * r + i)
/-- fetchers, copyists -/
def R6 (A : Nat → Nat → Nat) (c162 : Nat → Int32) (q160 q161 : Nat → Option Nat) (s30 s31 s32 s33 s34 : Nat → Int32) : Prop := VQ (A 1) (A 3) 4 q160 s30 ∧ VQ (A 1) (A 4) 3 q160 s33 ∧ (∀ f, f < 4 → (¬ s30 f = -1 → q161 (A 3 f) = rfI (A 2) (s32 f) ∧ c162 (A 3 f) = s31 f) ∧ (s30 f = -1 → c162 (A 3 f) = 0)) ∧ ∀ c, c < 3 → (¬ s33 c = -1 → c162 (A 4 c) = s34 c) ∧ (s33 c = -1 → c162 (A 4 c) = 0)
/-- who waits for what: W the box -/
def R7 (A : Nat → Nat → Nat) (nb : Nat) (W : Nat → Nat) (c125 c129 c130 c131 : Nat → Int32) (q128 : Nat → Option Nat) (s5 s6 s7 s10 s11 s15 s19 : Nat → Int32) : Prop := VW (A 2) 20 c125 s15 ∧ (∀ r, r < 20 → (s15 r = 3 → c129 (A 2 r) = s19 r ∧ ∃ t, 1 ≤ t ∧ t ≤ 50 ∧ s19 r = nI t) ∧ (¬ s15 r = 3 → s19 r = 0)) ∧ (∀ r, r < 20 → q128 (A 2 r) = if s15 r = 2 ∨ s15 r = 4 then some (A 1 (W r)) else none) ∧ (∀ r, r < 20 → s15 r = 4 → c130 (A 2 r) = s10 (W r) ∧ c131 (A 2 r) = s11 (W r)) ∧ (∀ r, r < 20 → s15 r = 2 → W r < nb ∧ s7 (W r) = nI r) ∧ ∀ r, r < 20 → s15 r = 4 → W r < nb ∧ s6 (W r) = nI r ∧ (s5 (W r) = 5 ∨ s5 (W r) = 6)
/-- a line's size and places -/
def LM (ρ : Nat → Nat) (v : Int32) (f : Nat → Option Nat) (l : List Nat) : Prop := v = nI l.length ∧ l.length ≤ 20 ∧ ∀ i (h : i < l.length), f i = some (ρ l[i])
/-- the lines -/
def R8 (A : Nat → Nat → Nat) (nr : Nat) (W : Nat → Nat) (DL BT CT : List Nat) (c : Nat → Int32) (q5 q6 q7 : Nat → Option Nat) (s8 s9 s12 s13 s15 : Nat → Int32) : Prop := (LM (A 2) (c 11) q5 DL ∧ (∀ r, r ∈ DL ↔ r < nr ∧ s15 r = 1) ∧ DL.Pairwise (bf s13 s12)) ∧ (LM (A 2) (c 12) q6 BT ∧ (∀ r, r ∈ BT ↔ r < nr ∧ s15 r = 2) ∧ BT.Pairwise (fun a b => s8 (W a) < s8 (W b))) ∧ (LM (A 2) (c 13) q7 CT ∧ (∀ r, r ∈ CT ↔ r < nr ∧ s15 r = 4) ∧ CT.Pairwise (fun a b => s9 (W a) < s9 (W b)))
/-- the sum of a number for each of n readers -/
def sumN (f : Nat → Nat) : Nat → Nat
  | 0 => 0
  | n + 1 => sumN f n + f n
/-- the reference's own -/
def R9 (nb : Nat) (W : Nat → Nat) (s s5 s6 s7 s8 s9 s11 s15 s18 s30 s32 : Nat → Int32) : Prop := (∀ b, b < nb → ¬ s6 b = -1 → s7 b = -1) ∧ (∀ b, b < nb → s5 b = 5 → ¬ s6 b = -1) ∧ (∀ f b, f < 4 → b < 40 → s30 f = nI b → (s5 b = 3 ∧ ¬ s32 f = -1) ∨ (s5 b = 4 ∧ s32 f = -1)) ∧ (∀ b, b01 (s11 b)) ∧ ∃ T, s 20 = nI T ∧ T + sumN (fun r => 16 - (s18 r).toNatClampNeg) 20 ≤ 320 ∧ (∀ r, r < 20 → s15 r = 2 → ∃ t, t < T ∧ s8 (W r) = nI t) ∧ ∀ r, r < 20 → s15 r = 4 → ∃ t, t < T ∧ s9 (W r) = nI t
/-- who is not hired does nothing; nobody works before the first turn -/
def R10 (fe co : Nat) (s s30 s33 : Nat → Int32) : Prop := (∀ f, fe ≤ f → f < 4 → s30 f = -1) ∧ (∀ c, co ≤ c → c < 3 → s33 c = -1) ∧ (¬ 0 < s 4 → (∀ f, f < 4 → s30 f = -1) ∧ ∀ c, c < 3 → s33 c = -1)
/-- states; who sits at a desk is a reader -/
def R11 (s15 s2 : Nat → Int32) : Prop := (∀ r, r < 20 → ∃ k, k ≤ 8 ∧ s15 r = nI k) ∧ ∀ x, oi 20 (s2 x)
theorem R11_up {s15 s2 : Nat → Int32} (h : R11 s15 s2) (r : Nat) {v : Int32} (hv : ∃ k, k ≤ 8 ∧ v = nI k) : R11 (upd s15 r v) s2 := ⟨fun q hq => by
  by_cases e : q = r
  · subst e; rw [ua_s]; exact hv
  · rw [ua_n _ _ e]; exact h.1 q hq, h.2⟩
theorem R11_d {s15 s2 : Nat → Int32} (h : R11 s15 s2) (d : Nat) {v : Int32} (hv : oi 20 v) : R11 s15 (upd s2 d v) := ⟨h.1, fun x => by
  by_cases e : x = d
  · subst e; rw [ua_s]; exact hv
  · rw [ua_n _ _ e]; exact h.2 x⟩
/-- who holds a box sits; who came not yet, or waits for a desk, has none -/
def R12 (nb nr : Nat) (s6 s15 s16 : Nat → Int32) : Prop := (∀ b r, b < nb → r < 20 → s6 b = nI r → s15 r = 2 ∨ s15 r = 3 ∨ s15 r = 4 ∨ s15 r = 8) ∧ ∀ r, r < nr → s15 r = 0 ∨ s15 r = 1 → s16 r = -1
/-- class and reference in step; M: what is known of the told mishaps -/
abbrev Rel (M : MP) (A : Nat → Nat → Nat) (cf : Nat → Nat → Nat) (nd nb nr fe co : Nat) (W : Nat → Nat) (DL BT CT : List Nat) (C : CS) (S : RS) : Prop :=
  (∃ t bl ms, St nd nb nr fe co t bl ms S) ∧ M (C.1 200 14) (C.1 201) (C.1 202) (C.1 203) (S 0 52) (S 39) (S 40) (S 41) (S 0 4) ∧ R1 (C.1 200) (S 0) ∧ R2 A nd nr (C.1 21) (C.2 22) (C.2 127) (S 1) (S 2) (S 16) ∧ R3 A nb (C.1 1) (C.1 2) (C.1 3) (C.2 4) (C.2 5) (S 3) (S 4) (S 5) (S 6) (S 7) ∧ R4 A (C.1 122) (C.1 123) (C.1 124) (C.1 126) (C.1 132) (C.1 133) (C.1 134) (C.1 135) (C.1 136) (S 12) (S 13) (S 14) (S 20) (S 21) (S 22) (S 25) ∧ R5 A cf nb C.1 (S 17) (S 18) (S 23) (S 24) (S 26) (S 27) (S 28) (S 29) ∧ R6 A (C.1 162) (C.2 160) (C.2 161) (S 30) (S 31) (S 32) (S 33) (S 34) ∧ R7 A nb W (C.1 125) (C.1 129) (C.1 130) (C.1 131) (C.2 128) (S 5) (S 6) (S 7) (S 10) (S 11) (S 15) (S 19) ∧ R8 A nr W DL BT CT (C.1 200) (C.2 205) (C.2 206) (C.2 207) (S 8) (S 9) (S 12) (S 13) (S 15) ∧ R9 nb W (S 0) (S 5) (S 6) (S 7) (S 8) (S 9) (S 11) (S 15) (S 18) (S 30) (S 32) ∧ R10 fe co (S 0) (S 30) (S 33) ∧ R11 (S 15) (S 2) ∧ R12 nb nr (S 6) (S 15) (S 16)
