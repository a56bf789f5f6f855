/-! the lines' own operations, in exact form -/
/-- a line's new content and size -/
abbrev ln (C : CS) (w z : Nat) (f : Nat → Option Nat) (n : Nat) : CS := (wr C.1 200 z (nI n), va_up C.2 w f)
def LF (ρ : Nat → Nat) (l : List Nat) (f : Nat → Option Nat) : Prop := ∀ i (h : i < l.length), f i = some (ρ l[i])
theorem ln_eq {C C' : CS} {w z : Nat} {v : Int32} (h1 : C'.1 = C.1) (h2 : ∀ k, k ≠ w → C'.2 k = C.2 k) : wi C' 200 z v = (wr C.1 200 z v, va_up C.2 w (C'.2 w)) := by
  unfold wi
  rw [h1]
  refine congrArg (Prod.mk (wr C.1 200 z v)) ?_
  funext k
  by_cases e : k = w
  · subst e; exact (va_up_self _ _ _).symm
  · rw [h2 k e]; exact (va_up_ne _ _ e).symm
theorem rem_any {ρ : Nat → Nat} {w z r : Nat} {l : List Nat} {C : CS} (hinj : ∀ a, a ∈ l → ρ a = ρ r → a = r) (h : LN ρ C w z l) : ok (gRem w z (fun v S => bnd (wi S 200 z v) fun S => some S) 1000 (ρ r) 0 0 C) (fun C' => ∃ f, LF ρ (rmv l r) f ∧ C' = ln C w z f (rmv l r).length) := by
  obtain ⟨h1, h2, h3⟩ := h
  exact rem_loop (ρ := ρ) (w := w) (z := z) (r := r) (l := l) hinj h2 (C0 := C) (K := fun v S => bnd (wi S 200 z v) fun S => some S) (P := fun C' => ∃ f, LF ρ (rmv l r) f ∧ C' = ln C w z f (rmv l r).length) (fun C' e1 e2 e3 => ok_bnd (ok_some ⟨C'.2 w, e3, ln_eq e1 e2⟩)) 1000 0 [] C (Nat.zero_le _) (by omega) (by simp [rmv]) rfl (fun k hk => rfl) h1 (fun i h => absurd h (Nat.not_lt_zero _)) (fun i h _ => h3 i h)
section LNS
variable {g : Nat → Nat → Option Nat} {cf : Nat → Nat → Nat} {nm : Nat → Int32} {A : Nat → Nat → Nat} {ρ : Nat → Nat} {C : CS} {l : List Nat} {r : Nat}
theorem g_rem0 (hinj : ∀ a, a ∈ l → ρ a = ρ r → a = r) (h : LN ρ C 205 11 l) : ok (gX3_remove_0 g cf nm C (ρ r)) (fun C' => ∃ f, LF ρ (rmv l r) f ∧ C' = ln C 205 11 f (rmv l r).length) := by
  unfold gX3_remove_0
  rw [rem_0]
  exact rem_any hinj h
theorem g_rem1 (hinj : ∀ a, a ∈ l → ρ a = ρ r → a = r) (h : LN ρ C 206 12 l) : ok (gX3_remove_1 g cf nm C (ρ r)) (fun C' => ∃ f, LF ρ (rmv l r) f ∧ C' = ln C 206 12 f (rmv l r).length) := by
  unfold gX3_remove_1
  rw [rem_1]
  exact rem_any hinj h
theorem g_rem2 (hinj : ∀ a, a ∈ l → ρ a = ρ r → a = r) (h : LN ρ C 207 13 l) : ok (gX3_remove_2 g cf nm C (ρ r)) (fun C' => ∃ f, LF ρ (rmv l r) f ∧ C' = ln C 207 13 f (rmv l r).length) := by
  unfold gX3_remove_2
  rw [rem_2]
  exact rem_any hinj h
theorem LF_app {f : Nat → Option Nat} (h : LF ρ l f) : LF ρ (l ++ [r]) (va_up f l.length (some (ρ r))) := by
  intro i hi
  rw [List.length_append] at hi
  by_cases e : i = l.length
  · subst e
    rw [va_up_self]
    simp
  · have hi2 : i < l.length := by
      have : ([r] : List Nat).length = 1 := rfl
      omega
    rw [va_up_ne _ _ e, h i hi2, List.getElem_append_left hi2]
theorem g_app1 (h : LN ρ C 206 12 l) (hl : l.length < 20) : ok (gX3_append_1 g cf nm C (ρ r)) (fun C' => ∃ f, LF ρ (l ++ [r]) f ∧ C' = ln C 206 12 f (l.length + 1)) := by
  obtain ⟨h1, h2, h3⟩ := h
  unfold gX3_append_1
  refine ok_f (fun c => ?_) (c_sq h1 hl (by decide) (ok_bnd (ok_some ⟨_, LF_app (f := C.2 206) h3, ?_⟩)))
  · rw [h1] at c
    have := (nI_leI (a := 20) (by omega) (by omega)).mp c
    omega
  · show (wr C.1 200 12 (C.1 200 12 + 1), va_up C.2 206 (va_up (C.2 206) l.length (some (ρ r)))) = _
    rw [h1, nI_1]
theorem g_app2 (h : LN ρ C 207 13 l) (hl : l.length < 20) : ok (gX3_append_2 g cf nm C (ρ r)) (fun C' => ∃ f, LF ρ (l ++ [r]) f ∧ C' = ln C 207 13 f (l.length + 1)) := by
  obtain ⟨h1, h2, h3⟩ := h
  unfold gX3_append_2
  refine ok_f (fun c => ?_) (c_sq h1 hl (by decide) (ok_bnd (ok_some ⟨_, LF_app (f := C.2 207) h3, ?_⟩)))
  · rw [h1] at c
    have := (nI_leI (a := 20) (by omega) (by omega)).mp c
    omega
  · show (wr C.1 200 13 (C.1 200 13 + 1), va_up C.2 207 (va_up (C.2 207) l.length (some (ρ r)))) = _
    rw [h1, nI_1]
/-- who is served before whom, in the class -/
theorem g_served (he : EN g cf nm A) {a : Nat} (hr : r < 20) (ha : a < 20) {ra ar : Nat → Int32} (h1 : VW (A 2) 20 (C.1 123) ra) (h2 : VW (A 2) 20 (C.1 122) ar) : ok (gX6_isServedBefore g cf nm C (A 2 r) (A 2 a)) (fun y => ¬ y = 0 ↔ bf ra ar r a) := by
  unfold gX6_isServedBefore bf
  rw [h1 r hr, h1 a ha, h2 r hr, h2 a ha, (he.2.2.1 a ha).2.1, (he.2.2.1 r hr).2.1]
  refine ok_ite (fun c => ?_) (fun c => ?_)
  · rw [if_pos c]
    refine ok_ite (fun c2 => ?_) (fun c2 => ?_)
    · rw [if_pos c2]
      refine ok_ite (fun c3 => ok_some ⟨fun h => absurd rfl h, fun h => ?_⟩) (fun c3 => ok_some ⟨fun _ => ?_, fun _ => by decide⟩)
      · have := (nI_leI (by omega) (by omega)).mp c3
        omega
      · rcases Nat.lt_or_ge r a with h | h
        · exact h
        · exact absurd ((nI_leI (by omega) (by omega)).mpr h) c3
    · rw [if_neg c2]
      exact ok_ite (fun c3 => ok_some ⟨fun h => absurd rfl h, fun h => absurd c3 (lt_nle h)⟩) (fun c3 => ok_some ⟨fun _ => nle_lt c3, fun _ => by decide⟩)
  · rw [if_neg c]
    exact ok_ite (fun c3 => ok_some ⟨fun h => absurd rfl h, fun h => absurd c3 (lt_nle h)⟩) (fun c3 => ok_some ⟨fun _ => nle_lt c3, fun _ => by decide⟩)
/-- putting a reader in by rank: the loop -/
theorem ins_loop (he : EN g cf nm A) (hr : r < 20) {ra ar : Nat → Int32} (hl : ∀ a, a ∈ l → a < 20) (hn : l.length < 20) {C0 : CS} (h1 : VW (A 2) 20 (C0.1 123) ra) (h2 : VW (A 2) 20 (C0.1 122) ar) {K : Nat → Int32 → CS → Option CS} {P : CS → Prop}
    (hK : ∀ (k : Nat) (C : CS), k ≤ l.length → C.1 = C0.1 → (∀ w, w ≠ 205 → C.2 w = C0.2 w) → (∀ i (h : i < l.length), i < k → C.2 205 i = some (A 2 l[i])) → (∀ i (h : i < l.length), k ≤ i → C.2 205 (i + 1) = some (A 2 l[i])) → (∀ i (h : i < l.length), k ≤ i → bf ra ar r l[i]) → (k = 0 ∨ ∃ h : k - 1 < l.length, ¬ bf ra ar r l[k - 1]) → ok (K (A 2 r) (nI k) C) P) :
    ∀ (fu k : Nat) (C : CS), k ≤ l.length → k < fu → C.1 = C0.1 → (∀ w, w ≠ 205 → C.2 w = C0.2 w) → (∀ i (h : i < l.length), i < k → C.2 205 i = some (A 2 l[i])) → (∀ i (h : i < l.length), k ≤ i → C.2 205 (i + 1) = some (A 2 l[i])) → (∀ i (h : i < l.length), k ≤ i → bf ra ar r l[i]) → ok (gX3_insertByRank_15 g cf nm K fu (A 2 r) (nI k) C) P := by
  intro fu
  induction fu with
  | zero => intro k C hk hf; omega
  | succ fu ih =>
    intro k C hk hf e1 e2 e3 e4 e5
    rw [gX3_insertByRank_15]
    cases k with
    | zero => exact ok_t (show (nI 0 : Int32) ≤ 0 by decide) (hK 0 C hk e1 e2 e3 e4 e5 (Or.inl rfl))
    | succ k =>
      have hy := e3 k (by omega) (by omega)
      refine ok_f (fun c => ?_) ?_
      · have := (nI_leI (a := k + 1) (b := 0) (by omega) (by omega)).mp c
        omega
      rw [nI_pred, pk_m1]
      refine c_lq rfl (by omega) (by decide) (fun y ey => c_sm (ey.trans hy) (ok_bd1 (g_served he hr (hl _ (List.getElem_mem _)) (e1 ▸ h1) (e1 ▸ h2)) (fun s hs9 => ok_ite (fun c => ?_) (fun c => ?_))))
      · exact hK (k + 1) C hk e1 e2 e3 e4 e5 (Or.inr ⟨by omega, fun h9 => absurd c (hs9.mpr h9)⟩)
      · refine c_lq rfl (by omega) (by decide) (fun y2 ey2 => c_sm (ey2.trans hy) (c_sq rfl (by omega) (by decide) ?_))
        refine ih k _ (by omega) (by omega) e1 (fun w hw => ?_) (fun i h hi => ?_) (fun i h hi => ?_) (fun i h hi => ?_)
        · funext b
          rw [wq_ap, if_neg hw, e2 w hw]
        · rw [wq_ap, if_pos rfl, if_neg (by omega)]
          exact e3 i h (by omega)
        · rw [wq_ap, if_pos rfl]
          by_cases ei : i = k
          · subst ei
            rw [if_pos rfl]
          · rw [if_neg (by omega)]
            exact e4 i h (by omega)
        · by_cases ei : i = k
          · subst ei
            exact hs9.mp c
          · exact e5 i h (by omega)
theorem g_ins (he : EN g cf nm A) (hr : r < 20) {ra ar : Nat → Int32} (hl : ∀ a, a ∈ l → a < 20) (hrl : r ∉ l) (hn : l.length < 20) (h1 : VW (A 2) 20 (C.1 123) ra) (h2 : VW (A 2) 20 (C.1 122) ar) (h : LN (A 2) C 205 11 l) (hp : l.Pairwise (bf ra ar)) : ok (gX3_insertByRank g cf nm C (A 2 r)) (fun C' => ∃ l' f, (∀ a, a ∈ l' ↔ a = r ∨ a ∈ l) ∧ l'.length = l.length + 1 ∧ l'.Pairwise (bf ra ar) ∧ LF (A 2) l' f ∧ C' = ln C 205 11 f l'.length) := by
  obtain ⟨e1, e2, e3⟩ := h
  unfold gX3_insertByRank
  refine ok_t ?_ ?_
  · rw [e1]
    exact nle_lt (fun c => by have := (nI_leI (a := 20) (by omega) (by omega)).mp c; omega)
  rw [e1]
  refine ins_loop he hr hl hn (C0 := C) h1 h2 (fun k C' hk q1 q2 q3 q4 q5 q6 => ?_) 1000 l.length C (Nat.le_refl _) (by omega) rfl (fun w hw => rfl) (fun i h _ => e3 i h) (fun i h hi => absurd h (by omega)) (fun i h hi => absurd h (by omega))
  refine c_sq rfl (by omega) (by decide) (ok_bnd (ok_some ⟨put l k r, va_up (C'.2 205) k (some (A 2 r)), fun a => mem_put, put_len, put_pw bf_tr bf_tot hp hrl hk q5 q6, fun i hi => ?_, ?_⟩))
  · refine put_get hk hi (fun a => va_up (C'.2 205) k (some (A 2 r)) i = some (A 2 a)) (fun h c1 => ?_) (fun c2 => ?_) (fun h c3 => ?_)
    · rw [va_up_ne _ _ (by omega)]
      exact q3 i h c1
    · subst c2
      exact va_up_self _ _ _
    · rw [va_up_ne _ _ (by omega)]
      have := q4 (i - 1) h (by omega)
      rw [show i - 1 + 1 = i by omega] at this
      exact this
  · show (wr C'.1 200 11 (C'.1 200 11 + 1), va_up C'.2 205 (va_up (C'.2 205) k (some (A 2 r)))) = _
    rw [q1, e1, nI_1, put_len]
    refine congrArg (Prod.mk (wr C.1 200 11 (nI (l.length + 1)))) ?_
    funext w
    by_cases e : w = 205
    · subst e
      rw [va_up_self, va_up_self]
    · rw [va_up_ne _ _ e, va_up_ne _ _ e, q2 w e]
/-- reading a line -/
theorem g_at0 (h : LN ρ C 205 11 l) {i : Nat} (hi : i < 1000) : gX3_at_0 g cf nm C (nI i) = some (if h : i < l.length then some (ρ l[i]) else none) := by
  obtain ⟨e1, e2, e3⟩ := h
  unfold gX3_at_0
  rw [if_neg (nI_pos (by omega)), e1]
  by_cases c : i < l.length
  · rw [dif_pos c, if_neg (fun h9 => by have := (nI_leI (by omega) (by omega)).mp h9; omega)]
    unfold lq
    rw [if_pos (inb_nI (by omega) (by omega)), nI_clamp (by omega), e3 i c]
  · rw [dif_neg c, if_pos ((nI_leI (by omega) (by omega)).mpr (by omega))]
theorem g_at1 (h : LN ρ C 206 12 l) {i : Nat} (hi : i < 1000) : gX3_at_1 g cf nm C (nI i) = some (if h : i < l.length then some (ρ l[i]) else none) := by
  obtain ⟨e1, e2, e3⟩ := h
  unfold gX3_at_1
  rw [if_neg (nI_pos (by omega)), e1]
  by_cases c : i < l.length
  · rw [dif_pos c, if_neg (fun h9 => by have := (nI_leI (by omega) (by omega)).mp h9; omega)]
    unfold lq
    rw [if_pos (inb_nI (by omega) (by omega)), nI_clamp (by omega), e3 i c]
  · rw [dif_neg c, if_pos ((nI_leI (by omega) (by omega)).mpr (by omega))]
theorem g_at2 (h : LN ρ C 207 13 l) {i : Nat} (hi : i < 1000) : gX3_at_2 g cf nm C (nI i) = some (if h : i < l.length then some (ρ l[i]) else none) := by
  obtain ⟨e1, e2, e3⟩ := h
  unfold gX3_at_2
  rw [if_neg (nI_pos (by omega)), e1]
  by_cases c : i < l.length
  · rw [dif_pos c, if_neg (fun h9 => by have := (nI_leI (by omega) (by omega)).mp h9; omega)]
    unfold lq
    rw [if_pos (inb_nI (by omega) (by omega)), nI_clamp (by omega), e3 i c]
  · rw [dif_neg c, if_pos ((nI_leI (by omega) (by omega)).mpr (by omega))]
end LNS
