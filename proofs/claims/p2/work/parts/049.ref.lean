abbrev YW (y : Nat → Nat) (cy : Nat → ClassId) (N : Nat → Nat) (n : Nat → Int32) (a : Nat → Nat → Int32) : va_W := [(y 0, .inr (10, [.int (n 3), .int (nI (N 0)), .int (nI (N 1)), .int (nI (N 2)), .int (n 1), .int (n 2), .int (n 0), .int (nI (N 3)), .int (nI (N 4)), .ref (y 1), .ref (y 2), .ref (y 3), .ref (y 4), .ref (y 5), .ref (y 6), .ref (y 7), .ref (y 8), .ref (y 9), .ref (y 10), .ref (y 11), .int (n 7), .int (n 4), .int (n 5), .int (n 6), .ref (y 12), .ref (y 13), .ref (y 14), .ref (y 15), .ref (y 16), .ref (y 17), .ref (y 18), .ref (y 19), .ref (y 20), .ref (y 21), .ref (y 22), .ref (y 23), .ref (y 24), .ref (y 25), .ref (y 26), .ref (y 27), .ref (y 28), .ref (y 29), .ref (y 30), .ref (y 31), .ref (y 32), .ref (y 33), .ref (y 34), .int (nI (N 9)), .ref (y 35), .ref (y 36), .ref (y 37), .ref (y 38), .int (nI (N 8)), .ref (y 39), .ref (y 40), .ref (y 41), .ref (y 42), .int (nI (N 5))])), (y 1, .inl (cy 1, 12, .inl (a 1))), (y 2, .inl (cy 0, 12, .inl (a 2))), (y 3, .inl (cy 0, 40, .inl (a 3))), (y 4, .inl (cy 1, 40, .inl (a 4))), (y 5, .inl (cy 0, 40, .inl (a 5))), (y 6, .inl (cy 0, 40, .inl (a 6))), (y 7, .inl (cy 0, 40, .inl (a 7))), (y 8, .inl (cy 0, 40, .inl (a 8))), (y 9, .inl (cy 0, 40, .inl (a 9))), (y 10, .inl (cy 0, 40, .inl (a 10))), (y 11, .inl (cy 1, 40, .inl (a 11))), (y 12, .inl (cy 0, 20, .inl (a 12))), (y 13, .inl (cy 0, 20, .inl (a 13))), (y 14, .inl (cy 1, 20, .inl (a 14))), (y 15, .inl (cy 0, 20, .inl (a 15))), (y 16, .inl (cy 0, 20, .inl (a 16))), (y 17, .inl (cy 0, 20, .inl (a 17))), (y 18, .inl (cy 0, 20, .inl (a 18))), (y 19, .inl (cy 0, 20, .inl (a 19))), (y 20, .inl (cy 0, 20, .inl (a 20))), (y 21, .inl (cy 0, 20, .inl (a 21))), (y 22, .inl (cy 0, 20, .inl (a 22))), (y 23, .inl (cy 0, 20, .inl (a 23))), (y 24, .inl (cy 0, 320, .inl (a 24))), (y 25, .inl (cy 0, 60, .inl (a 25))), (y 26, .inl (cy 0, 320, .inl (a 26))), (y 27, .inl (cy 0, 320, .inl (a 27))), (y 28, .inl (cy 0, 320, .inl (a 28))), (y 29, .inl (cy 1, 320, .inl (a 29))), (y 30, .inl (cy 0, 4, .inl (a 30))), (y 31, .inl (cy 0, 4, .inl (a 31))), (y 32, .inl (cy 0, 4, .inl (a 32))), (y 33, .inl (cy 0, 3, .inl (a 33))), (y 34, .inl (cy 0, 3, .inl (a 34))), (y 35, .inl (cy 0, 400, .inl (a 35))), (y 36, .inl (cy 0, 400, .inl (a 36))), (y 37, .inl (cy 0, 400, .inl (a 37))), (y 38, .inl (cy 0, 400, .inl (a 38))), (y 39, .inl (cy 0, 30, .inl (a 0))), (y 40, .inl (cy 0, 30, .inl (a 40))), (y 41, .inl (cy 0, 30, .inl (a 41))), (y 42, .inl (cy 0, 20, .inl (a 42)))]
def oi (n : Nat) (v : Int32) : Prop := v = -1 ∨ ∃ j, j < n ∧ v = nI j
def ixn (n : Nat) (v : Int32) : Prop := ∃ j, j < n ∧ v = nI j
theorem nI_inj {i j : Nat} (hi : i < 1000) (hj : j < 1000) (h : nI i = nI j) : i = j := (nI_eq (by omega) (by omega)).mp h
theorem nI_nm {i : Nat} (hi : i < 1000) : ¬ nI i = -1 := fun h => by
  have h2 := congrArg Int32.toInt h
  rw [nI_toInt (by omega)] at h2
  have k1 : (-1 : Int32).toInt = -1 := by decide
  omega
/-- a mishap's person has a place in its array -/
def pwk (k w : Int32) : Prop := ∃ j, w = nI j ∧ j < 20 ∧ (k = 1 → j < 4) ∧ (¬ k = 0 → ¬ k = 1 → j < 3)
/-- what keeps the reference within its arrays -/
def J0 (bx rd : Nat) (pl hs tk st dk sp sk sb fB cB mk mw : Nat → Int32) : Prop :=
  (∀ r, rd ≤ r → st r = 0) ∧
  (∀ r, (st r = 2 ∨ st r = 3 ∨ st r = 4 ∨ st r = 8) → ¬ dk r = -1) ∧
  (∀ b r, b < bx → r < 20 → tk b = nI r → st r = 2) ∧
  (∀ b b' r, b < bx → b' < bx → r < 20 → tk b = nI r → tk b' = nI r → b = b') ∧
  (∀ b r, b < bx → r < 20 → hs b = nI r → (pl b = 1 ∨ ((pl b = 5 ∨ pl b = 6) ∧ st r = 4))) ∧
  (∀ b b' r, b < bx → b' < bx → r < 20 → hs b = nI r → hs b' = nI r → ¬ pl b = 1 → ¬ pl b' = 1 → b = b') ∧
  (∀ c b, c < 3 → b < 40 → cB c = nI b → b < bx ∧ pl b = 6) ∧
  (∀ f b, f < 4 → b < 40 → fB f = nI b → b < bx ∧ (pl b = 3 ∨ pl b = 4)) ∧
  (∀ f f' b, f < 4 → f' < 4 → b < 40 → fB f = nI b → fB f' = nI b → f = f') ∧
  (∀ c c' b, c < 3 → c' < 3 → b < 40 → cB c = nI b → cB c' = nI b → c = c') ∧
  (∀ r i s, r < 20 → i < s → s ≤ 16 → sp r = nI s → (sk (16 * r + i) = 1 ∨ ∃ b, b < bx ∧ sb (16 * r + i) = nI b)) ∧
  (∀ k, pwk (mk k) (mw k))
/-- numbers that serve as indexes are within -/
def R0 (dk sp nx rf sb tk hs fB fT cB ln : Nat → Int32) : Prop :=
  (∀ i, oi 12 (dk i)) ∧ (∀ i, ∃ s q m, m ≤ q ∧ q ≤ s ∧ s ≤ 16 ∧ sp i = nI s ∧ nx i = nI q ∧ rf i = nI m) ∧ (∀ i, ixn 40 (sb i)) ∧ (∀ i, oi 20 (tk i)) ∧ (∀ i, oi 20 (hs i)) ∧ (∀ i, oi 40 (fB i)) ∧ (∀ i, oi 20 (fT i)) ∧ (∀ i, oi 40 (cB i)) ∧ (∀ i, ixn 20 (ln i))
abbrev Rng (a : Nat → Nat → Int32) : Prop := R0 (a 16) (a 17) (a 18) (a 23) (a 27) (a 7) (a 6) (a 30) (a 32) (a 33) (a 42)
abbrev JJ (N : Nat → Nat) (a : Nat → Nat → Int32) : Prop := J0 (N 1) (N 2) (a 5) (a 6) (a 7) (a 15) (a 16) (a 17) (a 26) (a 27) (a 30) (a 33) (a 40) (a 41)
section J0S
variable {bx rd : Nat} {pl hs tk st dk sp sk sb fB cB mk mw nx rf fT ln : Nat → Int32}
theorem J_box (h : J0 bx rd pl hs tk st dk sp sk sb fB cB mk mw) (hb : bx < 40) : J0 (bx + 1) rd pl (upd hs bx (-1)) (upd tk bx (-1)) st dk sp sk sb fB cB mk mw := by
  obtain ⟨h0, h1, h2, h3, h5, h6, h7, h8, h9, hc, hs1, hw⟩ := h
  have hi : ∀ i j : Nat, i < 40 → j < 40 → nI i = nI j → i = j := fun i j a b c => nI_inj (by omega) (by omega) c
  have hn : ∀ i : Nat, i < 40 → ¬ nI i = -1 := fun i a => nI_nm (by omega)
  refine ⟨?_, ?_, ?_, ?_, ?_, ?_, ?_, ?_, ?_, ?_, ?_, ?_⟩ <;> (try unfold upd)
  all_goals first | assumption | grind

theorem J_reader (h : J0 bx rd pl hs tk st dk sp sk sb fB cB mk mw) (hr : rd < 20) : J0 bx (rd + 1) pl hs tk st (upd dk rd (-1)) sp sk sb fB cB mk mw := by
  obtain ⟨h0, h1, h2, h3, h5, h6, h7, h8, h9, hc, hs1, hw⟩ := h
  have hi : ∀ i j : Nat, i < 40 → j < 40 → nI i = nI j → i = j := fun i j a b c => nI_inj (by omega) (by omega) c
  have hn : ∀ i : Nat, i < 40 → ¬ nI i = -1 := fun i a => nI_nm (by omega)
  refine ⟨?_, ?_, ?_, ?_, ?_, ?_, ?_, ?_, ?_, ?_, ?_, ?_⟩ <;> (try unfold upd)
  all_goals first | assumption | grind

theorem J_plan (h : J0 bx rd pl hs tk st dk sp sk sb fB cB mk mw) {r s : Nat} {k v : Int32} (hr : r < 20) (hs9 : s < 16) (e : sp r = nI s) (hk : k = 1 ∨ ∃ b, b < bx ∧ v = nI b) : J0 bx rd pl hs tk st dk (upd sp r (nI (s + 1))) (upd sk (16 * r + s) k) (upd sb (16 * r + s) v) fB cB mk mw := by
  obtain ⟨h0, h1, h2, h3, h5, h6, h7, h8, h9, hc, hs1, hw⟩ := h
  have hi : ∀ i j : Nat, i < 40 → j < 40 → nI i = nI j → i = j := fun i j a b c => nI_inj (by omega) (by omega) c
  have hn : ∀ i : Nat, i < 40 → ¬ nI i = -1 := fun i a => nI_nm (by omega)
  refine ⟨?_, ?_, ?_, ?_, ?_, ?_, ?_, ?_, ?_, ?_, ?_, ?_⟩ <;> (try unfold upd)
  all_goals first | assumption | grind

theorem J_mis (h : J0 bx rd pl hs tk st dk sp sk sb fB cB mk mw) {i : Nat} {k w : Int32} (hp : pwk k w) : J0 bx rd pl hs tk st dk sp sk sb fB cB (upd mk i k) (upd mw i w) := by
  obtain ⟨h0, h1, h2, h3, h5, h6, h7, h8, h9, hc, hs1, hw⟩ := h
  have hi : ∀ i j : Nat, i < 40 → j < 40 → nI i = nI j → i = j := fun i j a b c => nI_inj (by omega) (by omega) c
  have hn : ∀ i : Nat, i < 40 → ¬ nI i = -1 := fun i a => nI_nm (by omega)
  refine ⟨?_, ?_, ?_, ?_, ?_, ?_, ?_, ?_, ?_, ?_, ?_, ?_⟩ <;> (try unfold upd)
  all_goals first | assumption | grind

theorem J_stopF (h : J0 bx rd pl hs tk st dk sp sk sb fB cB mk mw) {f b : Nat} {v : Int32} (hf : f < 4) (hb : b < 40) (e1 : fB f = nI b) : J0 bx rd (upd pl b v) hs tk st dk sp sk sb (upd fB f (-1)) cB mk mw := by
  obtain ⟨h0, h1, h2, h3, h5, h6, h7, h8, h9, hc, hs1, hw⟩ := h
  have hi : ∀ i j : Nat, i < 40 → j < 40 → nI i = nI j → i = j := fun i j a b c => nI_inj (by omega) (by omega) c
  have hn : ∀ i : Nat, i < 40 → ¬ nI i = -1 := fun i a => nI_nm (by omega)
  obtain ⟨hbx, hp⟩ := h8 f b hf hb e1
  refine ⟨?_, ?_, ?_, ?_, ?_, ?_, ?_, ?_, ?_, ?_, ?_, ?_⟩ <;> (try unfold upd)
  all_goals first | assumption | grind

theorem J_stopC (h : J0 bx rd pl hs tk st dk sp sk sb fB cB mk mw) {c b : Nat} {v : Int32} (hc9 : c < 3) (hb : b < 40) (e1 : cB c = nI b) (hv : v = 5 ∨ hs b = -1) : J0 bx rd (upd pl b v) hs tk st dk sp sk sb fB (upd cB c (-1)) mk mw := by
  obtain ⟨h0, h1, h2, h3, h5, h6, h7, h8, h9, hc, hs1, hw⟩ := h
  have hi : ∀ i j : Nat, i < 40 → j < 40 → nI i = nI j → i = j := fun i j a b c => nI_inj (by omega) (by omega) c
  have hn : ∀ i : Nat, i < 40 → ¬ nI i = -1 := fun i a => nI_nm (by omega)
  obtain ⟨hbx, hp⟩ := h7 c b hc9 hb e1
  refine ⟨?_, ?_, ?_, ?_, ?_, ?_, ?_, ?_, ?_, ?_, ?_, ?_⟩ <;> (try unfold upd)
  all_goals first | assumption | grind

theorem J_state (h : J0 bx rd pl hs tk st dk sp sk sb fB cB mk mw) {r : Nat} {v : Int32} (hr : r < rd) (e2 : ¬ st r = 2) (e4 : ¬ st r = 4) (hv : (v = 2 ∨ v = 3 ∨ v = 4 ∨ v = 8) → ¬ dk r = -1) (hv2 : ¬ v = 2) (hv4 : ¬ v = 4) : J0 bx rd pl hs tk (upd st r v) dk sp sk sb fB cB mk mw := by
  obtain ⟨h0, h1, h2, h3, h5, h6, h7, h8, h9, hc, hs1, hw⟩ := h
  have hi : ∀ i j : Nat, i < 40 → j < 40 → nI i = nI j → i = j := fun i j a b c => nI_inj (by omega) (by omega) c
  have hn : ∀ i : Nat, i < 40 → ¬ nI i = -1 := fun i a => nI_nm (by omega)
  refine ⟨?_, ?_, ?_, ?_, ?_, ?_, ?_, ?_, ?_, ?_, ?_, ?_⟩ <;> (try unfold upd)
  all_goals first | assumption | grind

theorem J_tk (h : J0 bx rd pl hs tk st dk sp sk sb fB cB mk mw) {b : Nat} : J0 bx rd pl hs (upd tk b (-1)) st dk sp sk sb fB cB mk mw := by
  obtain ⟨h0, h1, h2, h3, h5, h6, h7, h8, h9, hc, hs1, hw⟩ := h
  have hi : ∀ i j : Nat, i < 40 → j < 40 → nI i = nI j → i = j := fun i j a b c => nI_inj (by omega) (by omega) c
  have hn : ∀ i : Nat, i < 40 → ¬ nI i = -1 := fun i a => nI_nm (by omega)
  refine ⟨?_, ?_, ?_, ?_, ?_, ?_, ?_, ?_, ?_, ?_, ?_, ?_⟩ <;> (try unfold upd)
  all_goals first | assumption | grind

theorem J_hs (h : J0 bx rd pl hs tk st dk sp sk sb fB cB mk mw) {b : Nat} : J0 bx rd pl (upd hs b (-1)) tk st dk sp sk sb fB cB mk mw := by
  obtain ⟨h0, h1, h2, h3, h5, h6, h7, h8, h9, hc, hs1, hw⟩ := h
  have hi : ∀ i j : Nat, i < 40 → j < 40 → nI i = nI j → i = j := fun i j a b c => nI_inj (by omega) (by omega) c
  have hn : ∀ i : Nat, i < 40 → ¬ nI i = -1 := fun i a => nI_nm (by omega)
  refine ⟨?_, ?_, ?_, ?_, ?_, ?_, ?_, ?_, ?_, ?_, ?_, ?_⟩ <;> (try unfold upd)
  all_goals first | assumption | grind

theorem J_left (h : J0 bx rd pl hs tk st dk sp sk sb fB cB mk mw) {b r : Nat} (hb : b < bx) (hr : r < 20) (e : hs b = nI r) (hp6 : ¬ pl b = 6) : J0 bx rd (upd pl b 2) (upd hs b (-1)) tk st dk sp sk sb fB cB mk mw := by
  obtain ⟨h0, h1, h2, h3, h5, h6, h7, h8, h9, hc, hs1, hw⟩ := h
  have hi : ∀ i j : Nat, i < 40 → j < 40 → nI i = nI j → i = j := fun i j a b c => nI_inj (by omega) (by omega) c
  have hn : ∀ i : Nat, i < 40 → ¬ nI i = -1 := fun i a => nI_nm (by omega)
  refine ⟨?_, ?_, ?_, ?_, ?_, ?_, ?_, ?_, ?_, ?_, ?_, ?_⟩ <;> (try unfold upd)
  all_goals first | assumption | grind

theorem J_away (h : J0 bx rd pl hs tk st dk sp sk sb fB cB mk mw) {r : Nat} {v : Int32} (hr : r < rd) (et : ∀ b, b < bx → ¬ tk b = nI r) (eh : ∀ b, b < bx → ¬ hs b = nI r) (hv : ¬ (v = 2 ∨ v = 3 ∨ v = 4 ∨ v = 8)) : J0 bx rd pl hs tk (upd st r v) (upd dk r (-1)) sp sk sb fB cB mk mw := by
  obtain ⟨h0, h1, h2, h3, h5, h6, h7, h8, h9, hc, hs1, hw⟩ := h
  have hi : ∀ i j : Nat, i < 40 → j < 40 → nI i = nI j → i = j := fun i j a b c => nI_inj (by omega) (by omega) c
  have hn : ∀ i : Nat, i < 40 → ¬ nI i = -1 := fun i a => nI_nm (by omega)
  refine ⟨?_, ?_, ?_, ?_, ?_, ?_, ?_, ?_, ?_, ?_, ?_, ?_⟩ <;> (try unfold upd)
  all_goals first | assumption | grind

theorem J_brings (h : J0 bx rd pl hs tk st dk sp sk sb fB cB mk mw) {f b r : Nat} (hf : f < 4) (hb : b < 40) (hr : r < 20) (e1 : fB f = nI b) (e2 : tk b = nI r) : J0 bx rd (upd pl b 1) (upd hs b (nI r)) (upd tk b (-1)) (upd st r 8) dk sp sk sb (upd fB f (-1)) cB mk mw := by
  obtain ⟨h0, h1, h2, h3, h5, h6, h7, h8, h9, hc, hs1, hw⟩ := h
  have hi : ∀ i j : Nat, i < 40 → j < 40 → nI i = nI j → i = j := fun i j a b c => nI_inj (by omega) (by omega) c
  have hn : ∀ i : Nat, i < 40 → ¬ nI i = -1 := fun i a => nI_nm (by omega)
  obtain ⟨hbx, hp⟩ := h8 f b hf hb e1
  have hst := h2 b r hbx hr e2
  refine ⟨?_, ?_, ?_, ?_, ?_, ?_, ?_, ?_, ?_, ?_, ?_, ?_⟩ <;> (try unfold upd)
  all_goals first | assumption | grind

theorem J_copied (h : J0 bx rd pl hs tk st dk sp sk sb fB cB mk mw) {c b r : Nat} (hc9 : c < 3) (hb : b < 40) (hr : r < 20) (e1 : cB c = nI b) (e2 : hs b = nI r) : J0 bx rd (upd pl b 1) hs tk (upd st r 8) dk sp sk sb fB (upd cB c (-1)) mk mw := by
  obtain ⟨h0, h1, h2, h3, h5, h6, h7, h8, h9, hc, hs1, hw⟩ := h
  have hi : ∀ i j : Nat, i < 40 → j < 40 → nI i = nI j → i = j := fun i j a b c => nI_inj (by omega) (by omega) c
  have hn : ∀ i : Nat, i < 40 → ¬ nI i = -1 := fun i a => nI_nm (by omega)
  obtain ⟨hbx, hp⟩ := h7 c b hc9 hb e1
  have hst : st r = 4 := by grind
  refine ⟨?_, ?_, ?_, ?_, ?_, ?_, ?_, ?_, ?_, ?_, ?_, ?_⟩ <;> (try unfold upd)
  all_goals first | assumption | grind

theorem J_ask (h : J0 bx rd pl hs tk st dk sp sk sb fB cB mk mw) {b r : Nat} (hb : b < bx) (hr : r < 20) (hrd : r < rd) (e : st r = 8) : J0 bx rd pl hs (upd tk b (nI r)) (upd st r 2) dk sp sk sb fB cB mk mw := by
  obtain ⟨h0, h1, h2, h3, h5, h6, h7, h8, h9, hc, hs1, hw⟩ := h
  have hi : ∀ i j : Nat, i < 40 → j < 40 → nI i = nI j → i = j := fun i j a b c => nI_inj (by omega) (by omega) c
  have hn : ∀ i : Nat, i < 40 → ¬ nI i = -1 := fun i a => nI_nm (by omega)
  refine ⟨?_, ?_, ?_, ?_, ?_, ?_, ?_, ?_, ?_, ?_, ?_, ?_⟩ <;> (try unfold upd)
  all_goals first | assumption | grind

theorem J_order (h : J0 bx rd pl hs tk st dk sp sk sb fB cB mk mw) {b r : Nat} (hb : b < bx) (hr : r < 20) (hrd : r < rd) (e : st r = 8) (e2 : hs b = nI r) : J0 bx rd (upd pl b 5) hs tk (upd st r 4) dk sp sk sb fB cB mk mw := by
  obtain ⟨h0, h1, h2, h3, h5, h6, h7, h8, h9, hc, hs1, hw⟩ := h
  have hi : ∀ i j : Nat, i < 40 → j < 40 → nI i = nI j → i = j := fun i j a b c => nI_inj (by omega) (by omega) c
  have hn : ∀ i : Nat, i < 40 → ¬ nI i = -1 := fun i a => nI_nm (by omega)
  refine ⟨?_, ?_, ?_, ?_, ?_, ?_, ?_, ?_, ?_, ?_, ?_, ?_⟩ <;> (try unfold upd)
  all_goals first | assumption | grind

theorem J_seat (h : J0 bx rd pl hs tk st dk sp sk sb fB cB mk mw) {r : Nat} {d : Int32} (hr : r < rd) (e2 : ¬ st r = 2) (e4 : ¬ st r = 4) (hd : ¬ d = -1) : J0 bx rd pl hs tk (upd st r 8) (upd dk r d) sp sk sb fB cB mk mw := by
  obtain ⟨h0, h1, h2, h3, h5, h6, h7, h8, h9, hc, hs1, hw⟩ := h
  have hi : ∀ i j : Nat, i < 40 → j < 40 → nI i = nI j → i = j := fun i j a b c => nI_inj (by omega) (by omega) c
  have hn : ∀ i : Nat, i < 40 → ¬ nI i = -1 := fun i a => nI_nm (by omega)
  refine ⟨?_, ?_, ?_, ?_, ?_, ?_, ?_, ?_, ?_, ?_, ?_, ?_⟩ <;> (try unfold upd)
  all_goals first | assumption | grind

theorem J_way (h : J0 bx rd pl hs tk st dk sp sk sb fB cB mk mw) {f b : Nat} {v : Int32} (hf : f < 4) (hb : b < bx) (hb4 : b < 40) (e1 : fB f = -1) (ep : pl b = 2 ∨ pl b = 0) (hv : v = 3 ∨ v = 4) : J0 bx rd (upd pl b v) hs tk st dk sp sk sb (upd fB f (nI b)) cB mk mw := by
  obtain ⟨h0, h1, h2, h3, h5, h6, h7, h8, h9, hc, hs1, hw⟩ := h
  have hi : ∀ i j : Nat, i < 40 → j < 40 → nI i = nI j → i = j := fun i j a b c => nI_inj (by omega) (by omega) c
  have hn : ∀ i : Nat, i < 40 → ¬ nI i = -1 := fun i a => nI_nm (by omega)
  refine ⟨?_, ?_, ?_, ?_, ?_, ?_, ?_, ?_, ?_, ?_, ?_, ?_⟩ <;> (try unfold upd)
  all_goals first | assumption | grind

theorem J_begin (h : J0 bx rd pl hs tk st dk sp sk sb fB cB mk mw) {c b : Nat} (hc9 : c < 3) (hb : b < bx) (hb4 : b < 40) (e1 : cB c = -1) (ep : pl b = 5) : J0 bx rd (upd pl b 6) hs tk st dk sp sk sb fB (upd cB c (nI b)) mk mw := by
  obtain ⟨h0, h1, h2, h3, h5, h6, h7, h8, h9, hc, hs1, hw⟩ := h
  have hi : ∀ i j : Nat, i < 40 → j < 40 → nI i = nI j → i = j := fun i j a b c => nI_inj (by omega) (by omega) c
  have hn : ∀ i : Nat, i < 40 → ¬ nI i = -1 := fun i a => nI_nm (by omega)
  refine ⟨?_, ?_, ?_, ?_, ?_, ?_, ?_, ?_, ?_, ?_, ?_, ?_⟩ <;> (try unfold upd)
  all_goals first | assumption | grind
theorem R_dk (h : R0 dk sp nx rf sb tk hs fB fT cB ln) {i : Nat} {v : Int32} (hv : oi 12 v) : R0 (upd dk i v) sp nx rf sb tk hs fB fT cB ln := by
  obtain ⟨r1, r2, r3, r4, r5, r6, r7, r8, r9⟩ := h
  have hi : ∀ i j : Nat, i < 40 → j < 40 → nI i = nI j → i = j := fun i j a b c => nI_inj (by omega) (by omega) c
  refine ⟨?_, ?_, ?_, ?_, ?_, ?_, ?_, ?_, ?_⟩ <;> (try unfold upd)
  all_goals first | assumption | grind

theorem R_sb (h : R0 dk sp nx rf sb tk hs fB fT cB ln) {i : Nat} {v : Int32} (hv : ixn 40 v) : R0 dk sp nx rf (upd sb i v) tk hs fB fT cB ln := by
  obtain ⟨r1, r2, r3, r4, r5, r6, r7, r8, r9⟩ := h
  have hi : ∀ i j : Nat, i < 40 → j < 40 → nI i = nI j → i = j := fun i j a b c => nI_inj (by omega) (by omega) c
  refine ⟨?_, ?_, ?_, ?_, ?_, ?_, ?_, ?_, ?_⟩ <;> (try unfold upd)
  all_goals first | assumption | grind

theorem R_tk (h : R0 dk sp nx rf sb tk hs fB fT cB ln) {i : Nat} {v : Int32} (hv : oi 20 v) : R0 dk sp nx rf sb (upd tk i v) hs fB fT cB ln := by
  obtain ⟨r1, r2, r3, r4, r5, r6, r7, r8, r9⟩ := h
  have hi : ∀ i j : Nat, i < 40 → j < 40 → nI i = nI j → i = j := fun i j a b c => nI_inj (by omega) (by omega) c
  refine ⟨?_, ?_, ?_, ?_, ?_, ?_, ?_, ?_, ?_⟩ <;> (try unfold upd)
  all_goals first | assumption | grind

theorem R_hs (h : R0 dk sp nx rf sb tk hs fB fT cB ln) {i : Nat} {v : Int32} (hv : oi 20 v) : R0 dk sp nx rf sb tk (upd hs i v) fB fT cB ln := by
  obtain ⟨r1, r2, r3, r4, r5, r6, r7, r8, r9⟩ := h
  have hi : ∀ i j : Nat, i < 40 → j < 40 → nI i = nI j → i = j := fun i j a b c => nI_inj (by omega) (by omega) c
  refine ⟨?_, ?_, ?_, ?_, ?_, ?_, ?_, ?_, ?_⟩ <;> (try unfold upd)
  all_goals first | assumption | grind

theorem R_fB (h : R0 dk sp nx rf sb tk hs fB fT cB ln) {i : Nat} {v : Int32} (hv : oi 40 v) : R0 dk sp nx rf sb tk hs (upd fB i v) fT cB ln := by
  obtain ⟨r1, r2, r3, r4, r5, r6, r7, r8, r9⟩ := h
  have hi : ∀ i j : Nat, i < 40 → j < 40 → nI i = nI j → i = j := fun i j a b c => nI_inj (by omega) (by omega) c
  refine ⟨?_, ?_, ?_, ?_, ?_, ?_, ?_, ?_, ?_⟩ <;> (try unfold upd)
  all_goals first | assumption | grind

theorem R_fT (h : R0 dk sp nx rf sb tk hs fB fT cB ln) {i : Nat} {v : Int32} (hv : oi 20 v) : R0 dk sp nx rf sb tk hs fB (upd fT i v) cB ln := by
  obtain ⟨r1, r2, r3, r4, r5, r6, r7, r8, r9⟩ := h
  have hi : ∀ i j : Nat, i < 40 → j < 40 → nI i = nI j → i = j := fun i j a b c => nI_inj (by omega) (by omega) c
  refine ⟨?_, ?_, ?_, ?_, ?_, ?_, ?_, ?_, ?_⟩ <;> (try unfold upd)
  all_goals first | assumption | grind

theorem R_cB (h : R0 dk sp nx rf sb tk hs fB fT cB ln) {i : Nat} {v : Int32} (hv : oi 40 v) : R0 dk sp nx rf sb tk hs fB fT (upd cB i v) ln := by
  obtain ⟨r1, r2, r3, r4, r5, r6, r7, r8, r9⟩ := h
  have hi : ∀ i j : Nat, i < 40 → j < 40 → nI i = nI j → i = j := fun i j a b c => nI_inj (by omega) (by omega) c
  refine ⟨?_, ?_, ?_, ?_, ?_, ?_, ?_, ?_, ?_⟩ <;> (try unfold upd)
  all_goals first | assumption | grind

theorem R_ln (h : R0 dk sp nx rf sb tk hs fB fT cB ln) {i : Nat} {v : Int32} (hv : ixn 20 v) : R0 dk sp nx rf sb tk hs fB fT cB (upd ln i v) := by
  obtain ⟨r1, r2, r3, r4, r5, r6, r7, r8, r9⟩ := h
  have hi : ∀ i j : Nat, i < 40 → j < 40 → nI i = nI j → i = j := fun i j a b c => nI_inj (by omega) (by omega) c
  refine ⟨?_, ?_, ?_, ?_, ?_, ?_, ?_, ?_, ?_⟩ <;> (try unfold upd)
  all_goals first | assumption | grind

theorem R_sp (h : R0 dk sp nx rf sb tk hs fB fT cB ln) {i : Nat} {s : Nat} (e : sp i = nI s) (hs9 : s < 16) : R0 dk (upd sp i (nI (s + 1))) nx rf sb tk hs fB fT cB ln := by
  obtain ⟨r1, r2, r3⟩ := h
  refine ⟨r1, fun k => ?_, r3⟩
  obtain ⟨s', q', m', a1, a2, a3, e1, e2, e3⟩ := r2 k
  by_cases hk : k = i
  · subst hk
    have := nI_inj (by omega) (by omega) (e.symm.trans e1)
    exact ⟨s + 1, q', m', a1, by omega, by omega, pk_us, e2, e3⟩
  · exact ⟨s', q', m', a1, a2, a3, (pk_un hk).trans e1, e2, e3⟩
theorem R_nx (h : R0 dk sp nx rf sb tk hs fB fT cB ln) {i : Nat} {s q : Nat} (e : sp i = nI s) (e2 : nx i = nI q) (hq : q < s) (h16 : s ≤ 16) : R0 dk sp (upd nx i (nI (q + 1))) rf sb tk hs fB fT cB ln := by
  obtain ⟨r1, r2, r3⟩ := h
  refine ⟨r1, fun k => ?_, r3⟩
  obtain ⟨s', q', m', a1, a2, a3, f1, f2, f3⟩ := r2 k
  by_cases hk : k = i
  · subst hk
    have h1 := nI_inj (by omega) (by omega) (e.symm.trans f1)
    have h2 := nI_inj (by omega) (by omega) (e2.symm.trans f2)
    exact ⟨s', q + 1, m', by omega, by omega, a3, f1, pk_us, f3⟩
  · exact ⟨s', q', m', a1, a2, a3, f1, (pk_un hk).trans f2, f3⟩
theorem R_rf (h : R0 dk sp nx rf sb tk hs fB fT cB ln) {i : Nat} {q m : Nat} (e : nx i = nI q) (e2 : rf i = nI m) (hq : m < q) (h16 : q ≤ 16) : R0 dk sp nx (upd rf i (nI (m + 1))) sb tk hs fB fT cB ln := by
  obtain ⟨r1, r2, r3⟩ := h
  refine ⟨r1, fun k => ?_, r3⟩
  obtain ⟨s', q', m', a1, a2, a3, f1, f2, f3⟩ := r2 k
  by_cases hk : k = i
  · subst hk
    have h1 := nI_inj (by omega) (by omega) (e.symm.trans f2)
    exact ⟨s', q', m + 1, by omega, a2, a3, f1, f2, pk_us⟩
  · exact ⟨s', q', m', a1, a2, a3, f1, f2, (pk_un hk).trans f3⟩
end J0S
abbrev RT : Type := (Nat → Nat) × (Nat → Int32) × (Nat → Nat → Int32)
