/-! programs that end well: what they leave -/
def ok {β : Type} (o : Option β) (Q : β → Prop) : Prop := ∃ r, o = some r ∧ Q r
theorem ok_some {β : Type} {r : β} {Q : β → Prop} (h : Q r) : ok (some r) Q := ⟨r, rfl, h⟩
theorem ok_mono {β : Type} {o : Option β} {Q Q' : β → Prop} (h : ok o Q) (hq : ∀ r, Q r → Q' r) : ok o Q' := by
  obtain ⟨r, e, h⟩ := h
  exact ⟨r, e, hq r h⟩
theorem ok_ite {β : Type} {c : Prop} [Decidable c] {A B : Option β} {Q : β → Prop} (ha : c → ok A Q) (hb : ¬ c → ok B Q) : ok (if c then A else B) Q := by
  by_cases h : c
  · rw [if_pos h]; exact ha h
  · rw [if_neg h]; exact hb h
theorem ok_t {β : Type} {c : Prop} [Decidable c] {A B : Option β} {Q : β → Prop} (h : c) (ha : ok A Q) : ok (if c then A else B) Q := by rw [if_pos h]; exact ha
theorem ok_f {β : Type} {c : Prop} [Decidable c] {A B : Option β} {Q : β → Prop} (h : ¬ c) (hb : ok B Q) : ok (if c then A else B) Q := by rw [if_neg h]; exact hb
theorem ok_bnd {α β : Type} {a : α} {K : α → Option β} {Q : β → Prop} (h : ok (K a) Q) : ok (bnd a K) Q := h
theorem ok_bd1 {α β : Type} {o : Option α} {K : α → Option β} {P : α → Prop} {Q : β → Prop} (h : ok o P) (hk : ∀ a, P a → ok (K a) Q) : ok (bd1 o K) Q := by
  obtain ⟨a, e, h⟩ := h
  rw [e]
  exact hk a h
theorem ok_bd2 {α γ β : Type} {o : Option (α × γ)} {K : α → γ → Option β} {P : α × γ → Prop} {Q : β → Prop} (h : ok o P) (hk : ∀ a b, P (a, b) → ok (K a b) Q) : ok (bd2 o K) Q := by
  obtain ⟨⟨a, b⟩, e, h⟩ := h
  rw [e]
  exact hk a b h
theorem ld_nI {β : Type} {S : RS} {k n j : Nat} {i : Int32} {K : Int32 → Option β} (e : i = nI j) (h : j < n) (hn : n < 1000) : ld S k n i K = K (S k j) := by
  subst e
  unfold ld
  rw [if_pos (inb_nI h (by omega)), nI_clamp (by omega)]
theorem sv_nI {β : Type} {S : RS} {k n j : Nat} {i v : Int32} {K : RS → Option β} (e : i = nI j) (h : j < n) (hn : n < 1000) : sv S k n i v K = K (wr S k j v) := by
  subst e
  unfold sv
  rw [if_pos (inb_nI h (by omega)), nI_clamp (by omega)]
theorem ok_ld {β : Type} {S : RS} {k n j : Nat} {i : Int32} {K : Int32 → Option β} {Q : β → Prop} (e : i = nI j) (h : j < n) (hn : n < 1000) (hk : ∀ y, y = S k j → ok (K y) Q) : ok (ld S k n i K) Q := by
  rw [ld_nI e h hn]
  exact hk _ rfl
theorem ok_sv {β : Type} {S : RS} {k n j : Nat} {i v : Int32} {K : RS → Option β} {Q : β → Prop} (e : i = nI j) (h : j < n) (hn : n < 1000) (hk : ok (K (wr S k j v)) Q) : ok (sv S k n i v K) Q := by
  rw [sv_nI e h hn]
  exact hk
theorem wr_s (S : RS) (k i : Nat) (v : Int32) : wr S k i v k = upd (S k) i v := va_up_self _ _ _
theorem wr_n (S : RS) (k i : Nat) (v : Int32) {j : Nat} (h : j ≠ k) : wr S k i v j = S j := va_up_ne _ _ h
theorem wr_ap (S : RS) (k i : Nat) (v : Int32) (j b : Nat) : wr S k i v j b = if j = k then (if b = i then v else S j b) else S j b := by
  unfold wr va_up upd
  by_cases h : j = k
  · subst h; rw [if_pos rfl, if_pos rfl]
  · rw [if_neg h, if_neg h]
def oi (n : Nat) (v : Int32) : Prop := v = -1 ∨ ∃ j, j < n ∧ v = nI j
def ixn (n : Nat) (v : Int32) : Prop := ∃ j, j < n ∧ v = nI j
theorem nI_inj {i j : Nat} (hi : i < 1000) (hj : j < 1000) (h : nI i = nI j) : i = j := (nI_eq (by omega) (by omega)).mp h
theorem nI_nm {i : Nat} (hi : i < 1000) : ¬ nI i = -1 := fun h => by
  have h2 := congrArg Int32.toInt h
  rw [nI_toInt (by omega)] at h2
  have k1 : (-1 : Int32).toInt = -1 := by decide
  omega
/-- a mishap's person has a place in its array -/
def pwk (k w : Int32) : Prop := ∃ j, w = nI j ∧ j < 20 ∧ (k = 1 → j < 4) ∧ (¬ k = 0 → ¬ k = 1 → j < 3)
/-- what keeps the reference within its arrays -/
def J0 (bx rd : Nat) (pl hs tk st dk sp sk sb fB cB mk mw : Nat → Int32) : Prop :=
  (∀ r, rd ≤ r → st r = 0) ∧
  (∀ r, (st r = 2 ∨ st r = 3 ∨ st r = 4 ∨ st r = 8) → ¬ dk r = -1) ∧
  (∀ b r, b < bx → r < 20 → tk b = nI r → st r = 2) ∧
  (∀ b b' r, b < bx → b' < bx → r < 20 → tk b = nI r → tk b' = nI r → b = b') ∧
  (∀ b r, b < bx → r < 20 → hs b = nI r → (pl b = 1 ∨ ((pl b = 5 ∨ pl b = 6) ∧ st r = 4))) ∧
  (∀ b b' r, b < bx → b' < bx → r < 20 → hs b = nI r → hs b' = nI r → ¬ pl b = 1 → ¬ pl b' = 1 → b = b') ∧
  (∀ c b, c < 3 → b < 40 → cB c = nI b → b < bx ∧ pl b = 6) ∧
  (∀ f b, f < 4 → b < 40 → fB f = nI b → b < bx ∧ (pl b = 3 ∨ pl b = 4)) ∧
  (∀ f f' b, f < 4 → f' < 4 → b < 40 → fB f = nI b → fB f' = nI b → f = f') ∧
  (∀ c c' b, c < 3 → c' < 3 → b < 40 → cB c = nI b → cB c' = nI b → c = c') ∧
  (∀ r i s, r < 20 → i < s → s ≤ 16 → sp r = nI s → (sk (16 * r + i) = 1 ∨ ∃ b, b < bx ∧ sb (16 * r + i) = nI b)) ∧
  (∀ k, pwk (mk k) (mw k))
/-- numbers that serve as indexes are within -/
def R0 (dk sp nx rf sb tk hs fB fT cB ln : Nat → Int32) : Prop :=
  (∀ i, oi 12 (dk i)) ∧ (∀ i, ∃ s q m, m ≤ q ∧ q ≤ s ∧ s ≤ 16 ∧ sp i = nI s ∧ nx i = nI q ∧ rf i = nI m) ∧ (∀ i, ixn 40 (sb i)) ∧ (∀ i, oi 20 (tk i)) ∧ (∀ i, oi 20 (hs i)) ∧ (∀ i, oi 40 (fB i)) ∧ (∀ i, oi 20 (fT i)) ∧ (∀ i, oi 40 (cB i)) ∧ (∀ i, ixn 20 (ln i))
section J0S
variable {bx rd : Nat} {pl hs tk st dk sp sk sb fB cB mk mw nx rf fT ln : Nat → Int32}
theorem J_box (h : J0 bx rd pl hs tk st dk sp sk sb fB cB mk mw) (hb : bx < 40) : J0 (bx + 1) rd pl (upd hs bx (-1)) (upd tk bx (-1)) st dk sp sk sb fB cB mk mw := by
  obtain ⟨h0, h1, h2, h3, h5, h6, h7, h8, h9, hc, hs1, hw⟩ := h
  have hi : ∀ i j : Nat, i < 40 → j < 40 → nI i = nI j → i = j := fun i j a b c => nI_inj (by omega) (by omega) c
  have hn : ∀ i : Nat, i < 40 → ¬ nI i = -1 := fun i a => nI_nm (by omega)
  refine ⟨?_, ?_, ?_, ?_, ?_, ?_, ?_, ?_, ?_, ?_, ?_, ?_⟩ <;> (try unfold upd)
  all_goals first | assumption | grind

theorem J_reader (h : J0 bx rd pl hs tk st dk sp sk sb fB cB mk mw) (hr : rd < 20) : J0 bx (rd + 1) pl hs tk st (upd dk rd (-1)) sp sk sb fB cB mk mw := by
  obtain ⟨h0, h1, h2, h3, h5, h6, h7, h8, h9, hc, hs1, hw⟩ := h
  have hi : ∀ i j : Nat, i < 40 → j < 40 → nI i = nI j → i = j := fun i j a b c => nI_inj (by omega) (by omega) c
  have hn : ∀ i : Nat, i < 40 → ¬ nI i = -1 := fun i a => nI_nm (by omega)
  refine ⟨?_, ?_, ?_, ?_, ?_, ?_, ?_, ?_, ?_, ?_, ?_, ?_⟩ <;> (try unfold upd)
  all_goals first | assumption | grind

theorem J_plan (h : J0 bx rd pl hs tk st dk sp sk sb fB cB mk mw) {r s : Nat} {k v : Int32} (hr : r < 20) (hs9 : s < 16) (e : sp r = nI s) (hk : k = 1 ∨ ∃ b, b < bx ∧ v = nI b) : J0 bx rd pl hs tk st dk (upd sp r (nI (s + 1))) (upd sk (16 * r + s) k) (upd sb (16 * r + s) v) fB cB mk mw := by
  obtain ⟨h0, h1, h2, h3, h5, h6, h7, h8, h9, hc, hs1, hw⟩ := h
  have hi : ∀ i j : Nat, i < 40 → j < 40 → nI i = nI j → i = j := fun i j a b c => nI_inj (by omega) (by omega) c
  have hn : ∀ i : Nat, i < 40 → ¬ nI i = -1 := fun i a => nI_nm (by omega)
  refine ⟨?_, ?_, ?_, ?_, ?_, ?_, ?_, ?_, ?_, ?_, ?_, ?_⟩ <;> (try unfold upd)
  all_goals first | assumption | grind

theorem J_mis (h : J0 bx rd pl hs tk st dk sp sk sb fB cB mk mw) {i : Nat} {k w : Int32} (hp : pwk k w) : J0 bx rd pl hs tk st dk sp sk sb fB cB (upd mk i k) (upd mw i w) := by
  obtain ⟨h0, h1, h2, h3, h5, h6, h7, h8, h9, hc, hs1, hw⟩ := h
  have hi : ∀ i j : Nat, i < 40 → j < 40 → nI i = nI j → i = j := fun i j a b c => nI_inj (by omega) (by omega) c
  have hn : ∀ i : Nat, i < 40 → ¬ nI i = -1 := fun i a => nI_nm (by omega)
  refine ⟨?_, ?_, ?_, ?_, ?_, ?_, ?_, ?_, ?_, ?_, ?_, ?_⟩ <;> (try unfold upd)
  all_goals first | assumption | grind

theorem J_stopF (h : J0 bx rd pl hs tk st dk sp sk sb fB cB mk mw) {f b : Nat} {v : Int32} (hf : f < 4) (hb : b < 40) (e1 : fB f = nI b) : J0 bx rd (upd pl b v) hs tk st dk sp sk sb (upd fB f (-1)) cB mk mw := by
  obtain ⟨h0, h1, h2, h3, h5, h6, h7, h8, h9, hc, hs1, hw⟩ := h
  have hi : ∀ i j : Nat, i < 40 → j < 40 → nI i = nI j → i = j := fun i j a b c => nI_inj (by omega) (by omega) c
  have hn : ∀ i : Nat, i < 40 → ¬ nI i = -1 := fun i a => nI_nm (by omega)
  obtain ⟨hbx, hp⟩ := h8 f b hf hb e1
  refine ⟨?_, ?_, ?_, ?_, ?_, ?_, ?_, ?_, ?_, ?_, ?_, ?_⟩ <;> (try unfold upd)
  all_goals first | assumption | grind

theorem J_stopC (h : J0 bx rd pl hs tk st dk sp sk sb fB cB mk mw) {c b : Nat} {v : Int32} (hc9 : c < 3) (hb : b < 40) (e1 : cB c = nI b) (hv : v = 5 ∨ hs b = -1) : J0 bx rd (upd pl b v) hs tk st dk sp sk sb fB (upd cB c (-1)) mk mw := by
  obtain ⟨h0, h1, h2, h3, h5, h6, h7, h8, h9, hc, hs1, hw⟩ := h
  have hi : ∀ i j : Nat, i < 40 → j < 40 → nI i = nI j → i = j := fun i j a b c => nI_inj (by omega) (by omega) c
  have hn : ∀ i : Nat, i < 40 → ¬ nI i = -1 := fun i a => nI_nm (by omega)
  obtain ⟨hbx, hp⟩ := h7 c b hc9 hb e1
  refine ⟨?_, ?_, ?_, ?_, ?_, ?_, ?_, ?_, ?_, ?_, ?_, ?_⟩ <;> (try unfold upd)
  all_goals first | assumption | grind

theorem J_state (h : J0 bx rd pl hs tk st dk sp sk sb fB cB mk mw) {r : Nat} {v : Int32} (hr : r < rd) (e2 : ¬ st r = 2) (e4 : ¬ st r = 4) (hv : (v = 2 ∨ v = 3 ∨ v = 4 ∨ v = 8) → ¬ dk r = -1) (hv2 : ¬ v = 2) (hv4 : ¬ v = 4) : J0 bx rd pl hs tk (upd st r v) dk sp sk sb fB cB mk mw := by
  obtain ⟨h0, h1, h2, h3, h5, h6, h7, h8, h9, hc, hs1, hw⟩ := h
  have hi : ∀ i j : Nat, i < 40 → j < 40 → nI i = nI j → i = j := fun i j a b c => nI_inj (by omega) (by omega) c
  have hn : ∀ i : Nat, i < 40 → ¬ nI i = -1 := fun i a => nI_nm (by omega)
  refine ⟨?_, ?_, ?_, ?_, ?_, ?_, ?_, ?_, ?_, ?_, ?_, ?_⟩ <;> (try unfold upd)
  all_goals first | assumption | grind

theorem J_tk (h : J0 bx rd pl hs tk st dk sp sk sb fB cB mk mw) {b : Nat} : J0 bx rd pl hs (upd tk b (-1)) st dk sp sk sb fB cB mk mw := by
  obtain ⟨h0, h1, h2, h3, h5, h6, h7, h8, h9, hc, hs1, hw⟩ := h
  have hi : ∀ i j : Nat, i < 40 → j < 40 → nI i = nI j → i = j := fun i j a b c => nI_inj (by omega) (by omega) c
  have hn : ∀ i : Nat, i < 40 → ¬ nI i = -1 := fun i a => nI_nm (by omega)
  refine ⟨?_, ?_, ?_, ?_, ?_, ?_, ?_, ?_, ?_, ?_, ?_, ?_⟩ <;> (try unfold upd)
  all_goals first | assumption | grind

theorem J_hs (h : J0 bx rd pl hs tk st dk sp sk sb fB cB mk mw) {b : Nat} : J0 bx rd pl (upd hs b (-1)) tk st dk sp sk sb fB cB mk mw := by
  obtain ⟨h0, h1, h2, h3, h5, h6, h7, h8, h9, hc, hs1, hw⟩ := h
  have hi : ∀ i j : Nat, i < 40 → j < 40 → nI i = nI j → i = j := fun i j a b c => nI_inj (by omega) (by omega) c
  have hn : ∀ i : Nat, i < 40 → ¬ nI i = -1 := fun i a => nI_nm (by omega)
  refine ⟨?_, ?_, ?_, ?_, ?_, ?_, ?_, ?_, ?_, ?_, ?_, ?_⟩ <;> (try unfold upd)
  all_goals first | assumption | grind

theorem J_left (h : J0 bx rd pl hs tk st dk sp sk sb fB cB mk mw) {b r : Nat} (hb : b < bx) (hr : r < 20) (e : hs b = nI r) (hp6 : ¬ pl b = 6) : J0 bx rd (upd pl b 2) (upd hs b (-1)) tk st dk sp sk sb fB cB mk mw := by
  obtain ⟨h0, h1, h2, h3, h5, h6, h7, h8, h9, hc, hs1, hw⟩ := h
  have hi : ∀ i j : Nat, i < 40 → j < 40 → nI i = nI j → i = j := fun i j a b c => nI_inj (by omega) (by omega) c
  have hn : ∀ i : Nat, i < 40 → ¬ nI i = -1 := fun i a => nI_nm (by omega)
  refine ⟨?_, ?_, ?_, ?_, ?_, ?_, ?_, ?_, ?_, ?_, ?_, ?_⟩ <;> (try unfold upd)
  all_goals first | assumption | grind

theorem J_away (h : J0 bx rd pl hs tk st dk sp sk sb fB cB mk mw) {r : Nat} {v : Int32} (hr : r < rd) (et : ∀ b, b < bx → ¬ tk b = nI r) (eh : ∀ b, b < bx → ¬ hs b = nI r) (hv : ¬ (v = 2 ∨ v = 3 ∨ v = 4 ∨ v = 8)) : J0 bx rd pl hs tk (upd st r v) (upd dk r (-1)) sp sk sb fB cB mk mw := by
  obtain ⟨h0, h1, h2, h3, h5, h6, h7, h8, h9, hc, hs1, hw⟩ := h
  have hi : ∀ i j : Nat, i < 40 → j < 40 → nI i = nI j → i = j := fun i j a b c => nI_inj (by omega) (by omega) c
  have hn : ∀ i : Nat, i < 40 → ¬ nI i = -1 := fun i a => nI_nm (by omega)
  refine ⟨?_, ?_, ?_, ?_, ?_, ?_, ?_, ?_, ?_, ?_, ?_, ?_⟩ <;> (try unfold upd)
  all_goals first | assumption | grind

theorem J_brings (h : J0 bx rd pl hs tk st dk sp sk sb fB cB mk mw) {f b r : Nat} (hf : f < 4) (hb : b < 40) (hr : r < 20) (e1 : fB f = nI b) (e2 : tk b = nI r) : J0 bx rd (upd pl b 1) (upd hs b (nI r)) (upd tk b (-1)) (upd st r 8) dk sp sk sb (upd fB f (-1)) cB mk mw := by
  obtain ⟨h0, h1, h2, h3, h5, h6, h7, h8, h9, hc, hs1, hw⟩ := h
  have hi : ∀ i j : Nat, i < 40 → j < 40 → nI i = nI j → i = j := fun i j a b c => nI_inj (by omega) (by omega) c
  have hn : ∀ i : Nat, i < 40 → ¬ nI i = -1 := fun i a => nI_nm (by omega)
  obtain ⟨hbx, hp⟩ := h8 f b hf hb e1
  have hst := h2 b r hbx hr e2
  refine ⟨?_, ?_, ?_, ?_, ?_, ?_, ?_, ?_, ?_, ?_, ?_, ?_⟩ <;> (try unfold upd)
  all_goals first | assumption | grind

theorem J_copied (h : J0 bx rd pl hs tk st dk sp sk sb fB cB mk mw) {c b r : Nat} (hc9 : c < 3) (hb : b < 40) (hr : r < 20) (e1 : cB c = nI b) (e2 : hs b = nI r) : J0 bx rd (upd pl b 1) hs tk (upd st r 8) dk sp sk sb fB (upd cB c (-1)) mk mw := by
  obtain ⟨h0, h1, h2, h3, h5, h6, h7, h8, h9, hc, hs1, hw⟩ := h
  have hi : ∀ i j : Nat, i < 40 → j < 40 → nI i = nI j → i = j := fun i j a b c => nI_inj (by omega) (by omega) c
  have hn : ∀ i : Nat, i < 40 → ¬ nI i = -1 := fun i a => nI_nm (by omega)
  obtain ⟨hbx, hp⟩ := h7 c b hc9 hb e1
  have hst : st r = 4 := by grind
  refine ⟨?_, ?_, ?_, ?_, ?_, ?_, ?_, ?_, ?_, ?_, ?_, ?_⟩ <;> (try unfold upd)
  all_goals first | assumption | grind

theorem J_ask (h : J0 bx rd pl hs tk st dk sp sk sb fB cB mk mw) {b r : Nat} (hb : b < bx) (hr : r < 20) (hrd : r < rd) (e : st r = 8) : J0 bx rd pl hs (upd tk b (nI r)) (upd st r 2) dk sp sk sb fB cB mk mw := by
  obtain ⟨h0, h1, h2, h3, h5, h6, h7, h8, h9, hc, hs1, hw⟩ := h
  have hi : ∀ i j : Nat, i < 40 → j < 40 → nI i = nI j → i = j := fun i j a b c => nI_inj (by omega) (by omega) c
  have hn : ∀ i : Nat, i < 40 → ¬ nI i = -1 := fun i a => nI_nm (by omega)
  refine ⟨?_, ?_, ?_, ?_, ?_, ?_, ?_, ?_, ?_, ?_, ?_, ?_⟩ <;> (try unfold upd)
  all_goals first | assumption | grind

theorem J_order (h : J0 bx rd pl hs tk st dk sp sk sb fB cB mk mw) {b r : Nat} (hb : b < bx) (hr : r < 20) (hrd : r < rd) (e : st r = 8) (e2 : hs b = nI r) : J0 bx rd (upd pl b 5) hs tk (upd st r 4) dk sp sk sb fB cB mk mw := by
  obtain ⟨h0, h1, h2, h3, h5, h6, h7, h8, h9, hc, hs1, hw⟩ := h
  have hi : ∀ i j : Nat, i < 40 → j < 40 → nI i = nI j → i = j := fun i j a b c => nI_inj (by omega) (by omega) c
  have hn : ∀ i : Nat, i < 40 → ¬ nI i = -1 := fun i a => nI_nm (by omega)
  refine ⟨?_, ?_, ?_, ?_, ?_, ?_, ?_, ?_, ?_, ?_, ?_, ?_⟩ <;> (try unfold upd)
  all_goals first | assumption | grind

theorem J_seat (h : J0 bx rd pl hs tk st dk sp sk sb fB cB mk mw) {r : Nat} {d : Int32} (hr : r < rd) (e2 : ¬ st r = 2) (e4 : ¬ st r = 4) (hd : ¬ d = -1) : J0 bx rd pl hs tk (upd st r 8) (upd dk r d) sp sk sb fB cB mk mw := by
  obtain ⟨h0, h1, h2, h3, h5, h6, h7, h8, h9, hc, hs1, hw⟩ := h
  have hi : ∀ i j : Nat, i < 40 → j < 40 → nI i = nI j → i = j := fun i j a b c => nI_inj (by omega) (by omega) c
  have hn : ∀ i : Nat, i < 40 → ¬ nI i = -1 := fun i a => nI_nm (by omega)
  refine ⟨?_, ?_, ?_, ?_, ?_, ?_, ?_, ?_, ?_, ?_, ?_, ?_⟩ <;> (try unfold upd)
  all_goals first | assumption | grind

theorem J_way (h : J0 bx rd pl hs tk st dk sp sk sb fB cB mk mw) {f b : Nat} {v : Int32} (hf : f < 4) (hb : b < bx) (hb4 : b < 40) (e1 : fB f = -1) (ep : pl b = 2 ∨ pl b = 0) (hv : v = 3 ∨ v = 4) : J0 bx rd (upd pl b v) hs tk st dk sp sk sb (upd fB f (nI b)) cB mk mw := by
  obtain ⟨h0, h1, h2, h3, h5, h6, h7, h8, h9, hc, hs1, hw⟩ := h
  have hi : ∀ i j : Nat, i < 40 → j < 40 → nI i = nI j → i = j := fun i j a b c => nI_inj (by omega) (by omega) c
  have hn : ∀ i : Nat, i < 40 → ¬ nI i = -1 := fun i a => nI_nm (by omega)
  refine ⟨?_, ?_, ?_, ?_, ?_, ?_, ?_, ?_, ?_, ?_, ?_, ?_⟩ <;> (try unfold upd)
  all_goals first | assumption | grind

theorem J_begin (h : J0 bx rd pl hs tk st dk sp sk sb fB cB mk mw) {c b : Nat} (hc9 : c < 3) (hb : b < bx) (hb4 : b < 40) (e1 : cB c = -1) (ep : pl b = 5) : J0 bx rd (upd pl b 6) hs tk st dk sp sk sb fB (upd cB c (nI b)) mk mw := by
  obtain ⟨h0, h1, h2, h3, h5, h6, h7, h8, h9, hc, hs1, hw⟩ := h
  have hi : ∀ i j : Nat, i < 40 → j < 40 → nI i = nI j → i = j := fun i j a b c => nI_inj (by omega) (by omega) c
  have hn : ∀ i : Nat, i < 40 → ¬ nI i = -1 := fun i a => nI_nm (by omega)
  refine ⟨?_, ?_, ?_, ?_, ?_, ?_, ?_, ?_, ?_, ?_, ?_, ?_⟩ <;> (try unfold upd)
  all_goals first | assumption | grind
theorem R_dk (h : R0 dk sp nx rf sb tk hs fB fT cB ln) {i : Nat} {v : Int32} (hv : oi 12 v) : R0 (upd dk i v) sp nx rf sb tk hs fB fT cB ln := by
  obtain ⟨r1, r2, r3, r4, r5, r6, r7, r8, r9⟩ := h
  have hi : ∀ i j : Nat, i < 40 → j < 40 → nI i = nI j → i = j := fun i j a b c => nI_inj (by omega) (by omega) c
  refine ⟨?_, ?_, ?_, ?_, ?_, ?_, ?_, ?_, ?_⟩ <;> (try unfold upd)
  all_goals first | assumption | grind

theorem R_sb (h : R0 dk sp nx rf sb tk hs fB fT cB ln) {i : Nat} {v : Int32} (hv : ixn 40 v) : R0 dk sp nx rf (upd sb i v) tk hs fB fT cB ln := by
  obtain ⟨r1, r2, r3, r4, r5, r6, r7, r8, r9⟩ := h
  have hi : ∀ i j : Nat, i < 40 → j < 40 → nI i = nI j → i = j := fun i j a b c => nI_inj (by omega) (by omega) c
  refine ⟨?_, ?_, ?_, ?_, ?_, ?_, ?_, ?_, ?_⟩ <;> (try unfold upd)
  all_goals first | assumption | grind

theorem R_tk (h : R0 dk sp nx rf sb tk hs fB fT cB ln) {i : Nat} {v : Int32} (hv : oi 20 v) : R0 dk sp nx rf sb (upd tk i v) hs fB fT cB ln := by
  obtain ⟨r1, r2, r3, r4, r5, r6, r7, r8, r9⟩ := h
  have hi : ∀ i j : Nat, i < 40 → j < 40 → nI i = nI j → i = j := fun i j a b c => nI_inj (by omega) (by omega) c
  refine ⟨?_, ?_, ?_, ?_, ?_, ?_, ?_, ?_, ?_⟩ <;> (try unfold upd)
  all_goals first | assumption | grind

theorem R_hs (h : R0 dk sp nx rf sb tk hs fB fT cB ln) {i : Nat} {v : Int32} (hv : oi 20 v) : R0 dk sp nx rf sb tk (upd hs i v) fB fT cB ln := by
  obtain ⟨r1, r2, r3, r4, r5, r6, r7, r8, r9⟩ := h
  have hi : ∀ i j : Nat, i < 40 → j < 40 → nI i = nI j → i = j := fun i j a b c => nI_inj (by omega) (by omega) c
  refine ⟨?_, ?_, ?_, ?_, ?_, ?_, ?_, ?_, ?_⟩ <;> (try unfold upd)
  all_goals first | assumption | grind

theorem R_fB (h : R0 dk sp nx rf sb tk hs fB fT cB ln) {i : Nat} {v : Int32} (hv : oi 40 v) : R0 dk sp nx rf sb tk hs (upd fB i v) fT cB ln := by
  obtain ⟨r1, r2, r3, r4, r5, r6, r7, r8, r9⟩ := h
  have hi : ∀ i j : Nat, i < 40 → j < 40 → nI i = nI j → i = j := fun i j a b c => nI_inj (by omega) (by omega) c
  refine ⟨?_, ?_, ?_, ?_, ?_, ?_, ?_, ?_, ?_⟩ <;> (try unfold upd)
  all_goals first | assumption | grind

theorem R_fT (h : R0 dk sp nx rf sb tk hs fB fT cB ln) {i : Nat} {v : Int32} (hv : oi 20 v) : R0 dk sp nx rf sb tk hs fB (upd fT i v) cB ln := by
  obtain ⟨r1, r2, r3, r4, r5, r6, r7, r8, r9⟩ := h
  have hi : ∀ i j : Nat, i < 40 → j < 40 → nI i = nI j → i = j := fun i j a b c => nI_inj (by omega) (by omega) c
  refine ⟨?_, ?_, ?_, ?_, ?_, ?_, ?_, ?_, ?_⟩ <;> (try unfold upd)
  all_goals first | assumption | grind

theorem R_cB (h : R0 dk sp nx rf sb tk hs fB fT cB ln) {i : Nat} {v : Int32} (hv : oi 40 v) : R0 dk sp nx rf sb tk hs fB fT (upd cB i v) ln := by
  obtain ⟨r1, r2, r3, r4, r5, r6, r7, r8, r9⟩ := h
  have hi : ∀ i j : Nat, i < 40 → j < 40 → nI i = nI j → i = j := fun i j a b c => nI_inj (by omega) (by omega) c
  refine ⟨?_, ?_, ?_, ?_, ?_, ?_, ?_, ?_, ?_⟩ <;> (try unfold upd)
  all_goals first | assumption | grind

theorem R_ln (h : R0 dk sp nx rf sb tk hs fB fT cB ln) {i : Nat} {v : Int32} (hv : ixn 20 v) : R0 dk sp nx rf sb tk hs fB fT cB (upd ln i v) := by
  obtain ⟨r1, r2, r3, r4, r5, r6, r7, r8, r9⟩ := h
  have hi : ∀ i j : Nat, i < 40 → j < 40 → nI i = nI j → i = j := fun i j a b c => nI_inj (by omega) (by omega) c
  refine ⟨?_, ?_, ?_, ?_, ?_, ?_, ?_, ?_, ?_⟩ <;> (try unfold upd)
  all_goals first | assumption | grind

theorem R_sp (h : R0 dk sp nx rf sb tk hs fB fT cB ln) {i : Nat} {s : Nat} (e : sp i = nI s) (hs9 : s < 16) : R0 dk (upd sp i (nI (s + 1))) nx rf sb tk hs fB fT cB ln := by
  obtain ⟨r1, r2, r3⟩ := h
  refine ⟨r1, fun k => ?_, r3⟩
  obtain ⟨s', q', m', a1, a2, a3, e1, e2, e3⟩ := r2 k
  by_cases hk : k = i
  · subst hk
    have := nI_inj (by omega) (by omega) (e.symm.trans e1)
    exact ⟨s + 1, q', m', a1, by omega, by omega, pk_us, e2, e3⟩
  · exact ⟨s', q', m', a1, a2, a3, (pk_un hk).trans e1, e2, e3⟩
theorem R_nx (h : R0 dk sp nx rf sb tk hs fB fT cB ln) {i : Nat} {s q : Nat} (e : sp i = nI s) (e2 : nx i = nI q) (hq : q < s) (h16 : s ≤ 16) : R0 dk sp (upd nx i (nI (q + 1))) rf sb tk hs fB fT cB ln := by
  obtain ⟨r1, r2, r3⟩ := h
  refine ⟨r1, fun k => ?_, r3⟩
  obtain ⟨s', q', m', a1, a2, a3, f1, f2, f3⟩ := r2 k
  by_cases hk : k = i
  · subst hk
    have h1 := nI_inj (by omega) (by omega) (e.symm.trans f1)
    have h2 := nI_inj (by omega) (by omega) (e2.symm.trans f2)
    exact ⟨s', q + 1, m', by omega, by omega, a3, f1, pk_us, f3⟩
  · exact ⟨s', q', m', a1, a2, a3, f1, (pk_un hk).trans f2, f3⟩
theorem R_rf (h : R0 dk sp nx rf sb tk hs fB fT cB ln) {i : Nat} {q m : Nat} (e : nx i = nI q) (e2 : rf i = nI m) (hq : m < q) (h16 : q ≤ 16) : R0 dk sp nx (upd rf i (nI (m + 1))) sb tk hs fB fT cB ln := by
  obtain ⟨r1, r2, r3⟩ := h
  refine ⟨r1, fun k => ?_, r3⟩
  obtain ⟨s', q', m', a1, a2, a3, f1, f2, f3⟩ := r2 k
  by_cases hk : k = i
  · subst hk
    have h1 := nI_inj (by omega) (by omega) (e.symm.trans f2)
    exact ⟨s', q', m + 1, by omega, a2, a3, f1, f2, pk_us⟩
  · exact ⟨s', q', m', a1, a2, a3, f1, f2, (pk_un hk).trans f3⟩
end J0S

/-- what a reader that is sent away, or leaves, had -/
theorem J_gone {bx rd : Nat} {pl hs tk st dk sp sk sb fB cB mk mw pl' hs' tk' : Nat → Int32} (h : J0 bx rd pl hs tk st dk sp sk sb fB cB mk mw) {r : Nat} {v : Int32} (hr : r < rd) (hr20 : r < 20) (hbx : bx ≤ 40) (hv : ¬ (v = 2 ∨ v = 3 ∨ v = 4 ∨ v = 8))
    (e7 : ∀ b, b < bx → tk' b = if tk b = nI r then -1 else tk b) (e6 : ∀ b, b < bx → hs' b = if hs b = nI r then -1 else hs b) (e5 : ∀ b, b < bx → pl' b = if hs b = nI r ∧ ¬ pl b = 6 then 2 else pl b) : J0 bx rd pl' hs' tk' (upd st r v) (upd dk r (-1)) sp sk sb fB cB mk mw := by
  obtain ⟨h0, h1, h2, h3, h5, h6, h7, h8, h9, hc, hs1, hw⟩ := h
  have hi : ∀ i j : Nat, i < 40 → j < 40 → nI i = nI j → i = j := fun i j a b c => nI_inj (by omega) (by omega) c
  have hn : ∀ i : Nat, i < 40 → ¬ nI i = -1 := fun i a => nI_nm (by omega)
  refine ⟨?_, ?_, ?_, ?_, ?_, ?_, ?_, ?_, ?_, ?_, ?_, ?_⟩ <;> (try unfold upd)
  all_goals first | assumption | grind
/-- numbers that tell how much there is -/
abbrev Sc (d bx rd fe co : Nat) (t bl : Int32) (ms : List Int32) (z mt : Nat → Int32) : Prop := (z 1 = nI d ∧ d ≤ 12) ∧ (z 2 = nI bx ∧ bx ≤ 40) ∧ (z 3 = nI rd ∧ rd ≤ 20) ∧ (z 7 = nI fe ∧ fe ≤ 4) ∧ (z 8 = nI co ∧ co ≤ 3) ∧ z 4 = t ∧ z 5 = bl ∧ (∃ m, m ≤ 30 ∧ z 52 = nI m ∧ ml mt m = ms) ∧ ∃ ev, ev ≤ 400 ∧ z 47 = nI ev
abbrev St (d bx rd fe co : Nat) (t bl : Int32) (ms : List Int32) (S : RS) : Prop := Sc d bx rd fe co t bl ms (S 0) (S 39) ∧ R0 (S 16) (S 17) (S 18) (S 23) (S 27) (S 7) (S 6) (S 30) (S 32) (S 33) (S 42) ∧ J0 bx rd (S 5) (S 6) (S 7) (S 15) (S 16) (S 17) (S 26) (S 27) (S 30) (S 33) (S 40) (S 41)
theorem sub1 (x : Int32) : x + 1 - 1 = x := by
  apply Int32.toBitVec_inj.mp
  simp
abbrev StA (s : AB) (S : RS) : Prop := St s.1 s.2.1 s.2.2.1 s.2.2.2.1 s.2.2.2.2.1 s.2.2.2.2.2.1 s.2.2.2.2.2.2.1 s.2.2.2.2.2.2.2 S
theorem ix16 (r s : Nat) : (16 : Int32) * nI r + nI s = nI (16 * r + s) := by
  rw [show (16 : Int32) = nI 16 from rfl, pk_mul, nI_add]
theorem ix3 (r s : Nat) : (3 : Int32) * nI r + nI s = nI (3 * r + s) := by
  rw [show (3 : Int32) = nI 3 from rfl, pk_mul, nI_add]
theorem nl {a b : Nat} {x : Int32} (e : x = nI a) (ha : a < 1000) (hb : b < 1000) (h : ¬ x ≤ nI b) : b < a := by
  rw [e, nI_leI (by omega) (by omega)] at h
  omega
theorem nle_of {a b : Nat} {x : Int32} (e : x = nI a) (ha : a < 1000) (hb : b < 1000) (h : a ≤ b) : x ≤ nI b := by
  rw [e, nI_leI (by omega) (by omega)]
  exact h
theorem ml_get {a b : Nat → Int32} {c c' : Nat} (h : ml a c = ml b c') : c = c' ∧ ∀ i, i < c → a i = b i := by
  have hl := congrArg List.length h
  rw [ml_len, ml_len] at hl
  subst hl
  refine ⟨rfl, fun i hi => ?_⟩
  have h2 := congrArg (fun l => l[i]?) h
  simp only [ml, List.getElem?_map, List.getElem?_range hi, Option.map_some] at h2
  exact Option.some.inj h2
