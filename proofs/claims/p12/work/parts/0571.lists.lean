/-! lists: sorted ones, removal, insertion -/
theorem sorted_eq {R : Nat → Nat → Prop} (hR : ∀ a b, R a b → ¬ R b a) : ∀ (l1 l2 : List Nat), l1.Pairwise R → l2.Pairwise R → (∀ a, a ∈ l1 ↔ a ∈ l2) → l1 = l2 := by
  have irr : ∀ a, ¬ R a a := fun a h => hR a a h h
  intro l1
  induction l1 with
  | nil =>
    intro l2 _ _ h
    cases l2 with
    | nil => rfl
    | cons b t => exact absurd ((h b).mpr (List.mem_cons_self)) (by simp)
  | cons a t ih =>
    intro l2 h1 h2 h
    cases l2 with
    | nil => exact absurd ((h a).mp (List.mem_cons_self)) (by simp)
    | cons b t2 =>
      obtain ⟨p1, q1⟩ := List.pairwise_cons.mp h1
      obtain ⟨p2, q2⟩ := List.pairwise_cons.mp h2
      have hab : a = b := by
        rcases List.mem_cons.mp ((h a).mp List.mem_cons_self) with e | e
        · exact e
        · rcases List.mem_cons.mp ((h b).mpr List.mem_cons_self) with e2 | e2
          · exact e2.symm
          · exact absurd (p1 b e2) (hR b a (p2 a e))
      subst hab
      rw [ih t2 q1 q2 (fun x => ⟨fun hx => ?_, fun hx => ?_⟩)]
      · rcases List.mem_cons.mp ((h x).mp (List.mem_cons_of_mem _ hx)) with e | e
        · subst e; exact absurd (p1 x hx) (irr x)
        · exact e
      · rcases List.mem_cons.mp ((h x).mpr (List.mem_cons_of_mem _ hx)) with e | e
        · subst e; exact absurd (p2 x hx) (irr x)
        · exact e
def rmv (l : List Nat) (r : Nat) : List Nat := l.filter (fun a => decide (a ≠ r))
theorem mem_rmv {l : List Nat} {r a : Nat} : a ∈ rmv l r ↔ a ∈ l ∧ a ≠ r := by
  unfold rmv
  rw [List.mem_filter]
  simp
theorem rmv_len (l : List Nat) (r : Nat) : (rmv l r).length ≤ l.length := List.length_filter_le _ _
theorem rmv_ne {l : List Nat} {r : Nat} (h : r ∉ l) : rmv l r = l := by
  unfold rmv
  rw [List.filter_eq_self]
  intro a ha
  exact decide_eq_true (fun e => h (e ▸ ha))
theorem rmv_pw {R : Nat → Nat → Prop} {l : List Nat} (h : l.Pairwise R) (r : Nat) : (rmv l r).Pairwise R := List.Pairwise.filter _ h
theorem rmv_take {l : List Nat} {r j : Nat} (h : j < l.length) : rmv (l.take (j + 1)) r = rmv (l.take j) r ++ (if l[j] = r then [] else [l[j]]) := by
  unfold rmv
  rw [List.take_succ, List.getElem?_eq_getElem h, List.filter_append]
  congr 1
  by_cases e : l[j] = r
  · simp [e]
  · simp [e]
theorem rmv_mid {a b : List Nat} {r : Nat} (ha : r ∉ a) (hb : r ∉ b) : rmv (a ++ r :: b) r = a ++ b := by
  unfold rmv
  rw [List.filter_append, List.filter_cons_of_neg (by simp)]
  have h1 := rmv_ne ha
  have h2 := rmv_ne hb
  unfold rmv at h1 h2
  rw [h1, h2]
/-- r put in at place k -/
abbrev put (l : List Nat) (k r : Nat) : List Nat := l.take k ++ r :: l.drop k
theorem mem_put {l : List Nat} {k r a : Nat} : a ∈ put l k r ↔ a = r ∨ a ∈ l := by
  unfold put
  rw [List.mem_append, List.mem_cons]
  constructor
  · rintro (h | h | h)
    · exact Or.inr (List.mem_of_mem_take h)
    · exact Or.inl h
    · exact Or.inr (List.mem_of_mem_drop h)
  · rintro (h | h)
    · exact Or.inr (Or.inl h)
    · rw [← List.take_append_drop k l, List.mem_append] at h
      rcases h with h | h
      · exact Or.inl h
      · exact Or.inr (Or.inr h)
theorem put_len {l : List Nat} {k r : Nat} : (put l k r).length = l.length + 1 := by
  unfold put
  rw [List.length_append, List.length_cons, List.length_take, List.length_drop]
  omega
theorem put_pw {R : Nat → Nat → Prop} (tr : ∀ a b c, R a b → R b c → R a c) (tot : ∀ a b, a ≠ b → R a b ∨ R b a) {l : List Nat} {k r : Nat} (h : l.Pairwise R) (hr : r ∉ l) (hk : k ≤ l.length) (h1 : ∀ i (hi : i < l.length), k ≤ i → R r l[i]) (h2 : k = 0 ∨ ∃ hi : k - 1 < l.length, ¬ R r l[k - 1]) : (put l k r).Pairwise R := by
  unfold put
  rw [List.pairwise_append]
  have ht : (l.take k).Pairwise R := h.sublist (List.take_sublist k l)
  have hd : (l.drop k).Pairwise R := h.sublist (List.drop_sublist k l)
  have hb : ∀ x, x ∈ l.drop k → R r x := fun x hx => by
    obtain ⟨i, hi, e⟩ := List.mem_iff_getElem.mp hx
    rw [List.length_drop] at hi
    rw [List.getElem_drop] at e
    rw [← e]
    exact h1 (k + i) (by omega) (by omega)
  have ha : ∀ x, x ∈ l.take k → R x r := fun x hx => by
    rcases h2 with e | ⟨hi, hn⟩
    · subst e; simp at hx
    · have hk0 : 0 < k := by
        rcases Nat.eq_zero_or_pos k with e | e
        · subst e; simp at hx
        · exact e
      have hlast : R l[k - 1] r := by
        rcases tot l[k - 1] r (fun e => hr (e ▸ List.getElem_mem hi)) with e | e
        · exact e
        · exact absurd e hn
      obtain ⟨i, hi2, e⟩ := List.mem_iff_getElem.mp hx
      rw [List.length_take] at hi2
      rw [List.getElem_take] at e
      rw [← e]
      rcases Nat.lt_or_ge i (k - 1) with h9 | h9
      · exact tr _ _ _ (List.pairwise_iff_getElem.mp h i (k - 1) (by omega) hi h9) hlast
      · have : i = k - 1 := by omega
        subst this
        exact hlast
  refine ⟨ht, List.pairwise_cons.mpr ⟨hb, hd⟩, fun x hx y hy => ?_⟩
  rcases List.mem_cons.mp hy with e | e
  · subst e; exact ha x hx
  · exact tr _ _ _ (ha x hx) (hb y e)
theorem put_get {l : List Nat} {k r i : Nat} (hk : k ≤ l.length) (hi : i < (put l k r).length) (P : Nat → Prop) (h1 : ∀ h : i < l.length, i < k → P l[i]) (h2 : i = k → P r) (h3 : ∀ h : i - 1 < l.length, k < i → P l[i - 1]) : P (put l k r)[i] := by
  have hi' : i < l.length + 1 := by rw [← put_len (l := l) (k := k) (r := r)]; exact hi
  have ht : (l.take k).length = k := by rw [List.length_take]; omega
  by_cases c1 : i < k
  · have e : (put l k r)[i] = l[i]'(by omega) := by
      show (l.take k ++ r :: l.drop k)[i]'hi = _
      have hh : i < (l.take k).length := by omega
      rw [List.getElem_append_left hh, List.getElem_take]
    rw [e]
    exact h1 (by omega) c1
  · by_cases c2 : i = k
    · subst c2
      have e : (put l i r)[i] = r := by
        show (l.take i ++ r :: l.drop i)[i]'hi = _
        have hh : (l.take i).length ≤ i := by omega
        rw [List.getElem_append_right hh]
        simp [ht]
      rw [e]
      exact h2 rfl
    · have e : (put l k r)[i] = l[i - 1]'(by omega) := by
        obtain ⟨m, rfl⟩ : ∃ m, i = k + 1 + m := ⟨i - k - 1, by omega⟩
        show (l.take k ++ r :: l.drop k)[k + 1 + m]'hi = _
        have hh : (l.take k).length ≤ k + 1 + m := by omega
        rw [List.getElem_append_right hh]
        have e2 : k + 1 + m - (l.take k).length = m + 1 := by omega
        simp only [e2, List.getElem_cons_succ, List.getElem_drop]
        congr 1
        omega
      rw [e]
      exact h3 (by omega) (by omega)
/-- who is served first: rank, told turn, number -/
def bf (ra ar : Nat → Int32) (a b : Nat) : Prop := if ra a = ra b then (if ar a = ar b then a < b else ar a < ar b) else ra b < ra a
theorem i_lt_tr {a b c : Int32} (h : a < b) (h2 : b < c) : a < c := by
  rw [fa_lt] at *
  omega
theorem i_lt_irr {a : Int32} : ¬ a < a := by
  rw [fa_lt]
  omega
theorem i_tot {a b : Int32} (h : ¬ a = b) : a < b ∨ b < a := by
  rw [fa_eq] at h
  rw [fa_lt, fa_lt]
  omega
theorem bf_as {ra ar : Nat → Int32} (a b : Nat) (h : bf ra ar a b) : ¬ bf ra ar b a := by
  unfold bf at *
  intro h2
  by_cases e : ra a = ra b
  · rw [if_pos e] at h
    rw [if_pos e.symm] at h2
    by_cases e2 : ar a = ar b
    · rw [if_pos e2] at h
      rw [if_pos e2.symm] at h2
      omega
    · rw [if_neg e2] at h
      rw [if_neg (fun h9 => e2 h9.symm)] at h2
      exact i_lt_irr (i_lt_tr h h2)
  · rw [if_neg e] at h
    rw [if_neg (fun h9 => e h9.symm)] at h2
    exact i_lt_irr (i_lt_tr h h2)
theorem bf_tot {ra ar : Nat → Int32} (a b : Nat) (h : a ≠ b) : bf ra ar a b ∨ bf ra ar b a := by
  unfold bf
  by_cases e : ra a = ra b
  · rw [if_pos e, if_pos e.symm]
    by_cases e2 : ar a = ar b
    · rw [if_pos e2, if_pos e2.symm]
      omega
    · rw [if_neg e2, if_neg (fun h9 => e2 h9.symm)]
      exact i_tot e2
  · rw [if_neg e, if_neg (fun h9 => e h9.symm)]
    exact (i_tot e).symm
theorem bf_tr {ra ar : Nat → Int32} (a b c : Nat) (h : bf ra ar a b) (h2 : bf ra ar b c) : bf ra ar a c := by
  unfold bf at *
  by_cases e : ra a = ra b
  · rw [if_pos e] at h
    by_cases e2 : ra b = ra c
    · rw [if_pos e2] at h2
      rw [if_pos (e.trans e2)]
      by_cases f : ar a = ar b
      · rw [if_pos f] at h
        by_cases f2 : ar b = ar c
        · rw [if_pos f2] at h2
          rw [if_pos (f.trans f2)]
          omega
        · rw [if_neg f2] at h2
          rw [if_neg (fun h9 => f2 (f.symm.trans h9)), f]
          exact h2
      · rw [if_neg f] at h
        by_cases f2 : ar b = ar c
        · rw [if_pos f2] at h2
          rw [if_neg (fun h9 => f (h9.trans f2.symm)), ← f2]
          exact h
        · rw [if_neg f2] at h2
          have h3 := i_lt_tr h h2
          rw [if_neg (fun h9 => i_lt_irr (h9 ▸ h3))]
          exact h3
    · rw [if_neg e2] at h2
      rw [if_neg (fun h9 => e2 (e.symm.trans h9)), e]
      exact h2
  · rw [if_neg e] at h
    by_cases e2 : ra b = ra c
    · rw [if_pos e2] at h2
      rw [if_neg (fun h9 => e (h9.trans e2.symm)), ← e2]
      exact h
    · rw [if_neg e2] at h2
      have h3 := i_lt_tr h2 h
      rw [if_neg (fun h9 => i_lt_irr (h9 ▸ h3))]
      exact h3
/-- the line's removal -/
theorem rem_loop {ρ : Nat → Nat} {w z r : Nat} {l : List Nat} (hinj : ∀ a, a ∈ l → ρ a = ρ r → a = r) (hl : l.length ≤ 20) {C0 : CS} {K : Int32 → CS → Option CS} {P : CS → Prop}
    (hK : ∀ C' : CS, C'.1 = C0.1 → (∀ k, k ≠ w → C'.2 k = C0.2 k) → (∀ i (h : i < (rmv l r).length), C'.2 w i = some (ρ (rmv l r)[i])) → ok (K (nI (rmv l r).length) C') P) :
    ∀ (fu j : Nat) (m : List Nat) (C : CS), j ≤ l.length → l.length - j < fu → m = rmv (l.take j) r → C.1 = C0.1 → (∀ k, k ≠ w → C.2 k = C0.2 k) → C0.1 200 z = nI l.length → (∀ i (h : i < m.length), C.2 w i = some (ρ m[i])) → (∀ i (h : i < l.length), j ≤ i → C.2 w i = some (ρ l[i])) → ok (gRem w z K fu (ρ r) (nI m.length) (nI j) C) P := by
  intro fu
  induction fu with
  | zero => intro j m C hj hf; omega
  | succ fu ih =>
    intro j m C hj hf hm h1 h2 hz hm2 hrest
    have hmj : m.length ≤ j := by
      rw [hm]
      have := rmv_len (l.take j) r
      rw [List.length_take] at this
      omega
    rw [gRem, nI_1 j, nI_1 m.length]
    have hz' : C.1 200 z = nI l.length := by rw [h1]; exact hz
    refine ok_ite (fun c => ?_) (fun c => ?_)
    · rw [hz', nI_leI (by omega) (by omega)] at c
      obtain rfl : j = l.length := by omega
      rw [List.take_length] at hm
      subst hm
      exact hK C h1 h2 hm2
    have hj2 : j < l.length := nl hz' (by omega) (by omega) c
    have hy := hrest j hj2 (Nat.le_refl _)
    refine c_lq rfl (by omega) (by decide) (fun y ey => ok_ite (fun c2 => ?_) (fun c2 => ?_))
    · have e : l[j] = r := by
        rw [ey, hy] at c2
        exact hinj _ (List.getElem_mem hj2) (Option.some.inj c2)
      refine ih (j + 1) m C (by omega) (by omega) ?_ h1 h2 hz hm2 (fun i h hi => hrest i h (by omega))
      rw [rmv_take hj2, if_pos e, List.append_nil]
      exact hm
    · have e : ¬ l[j] = r := fun h9 => c2 (by rw [ey, hy, h9])
      refine c_lq rfl (by omega) (by decide) (fun y6 ey6 => c_sm (ey6.trans hy) (c_sq rfl (by omega) (by decide) ?_))
      have hlen : (m ++ [l[j]]).length = m.length + 1 := by simp
      have hgo := ih (j + 1) (m ++ [l[j]]) (wq C w m.length (some (ρ l[j]))) (by omega) (by omega) (by rw [rmv_take hj2, if_neg e, ← hm]) h1 (fun k hk => ?_) hz (fun i h => ?_) (fun i h hi => ?_)
      · rw [hlen] at hgo
        exact hgo
      · funext b
        rw [wq_ap, if_neg hk, h2 k hk]
      · rw [wq_ap, if_pos rfl]
        by_cases ei : i = m.length
        · subst ei
          rw [if_pos rfl]
          simp
        · rw [if_neg ei, hm2 i (by rw [hlen] at h; omega)]
          rw [List.getElem_append_left]
      · rw [wq_ap, if_pos rfl, if_neg (by omega)]
        exact hrest i h (by omega)
theorem rmv_len1 {r : Nat} : ∀ l : List Nat, l.Pairwise (fun a b => a ≠ b) → l.length ≤ (rmv l r).length + 1 := by
  intro l
  induction l with
  | nil => intro _; exact Nat.zero_le _
  | cons a t ih =>
    intro h
    obtain ⟨h1, h2⟩ := List.pairwise_cons.mp h
    by_cases e : a = r
    · subst e
      have k : rmv (a :: t) a = t := by
        have k2 := rmv_ne (l := t) (r := a) (fun k => h1 a k rfl)
        unfold rmv at k2 ⊢
        rw [List.filter_cons_of_neg (by simp)]
        exact k2
      rw [k]
      exact Nat.le_refl _
    · have k : rmv (a :: t) r = a :: rmv t r := by
        unfold rmv
        rw [List.filter_cons_of_pos (by simp [e])]
      rw [k, List.length_cons, List.length_cons]
      have := ih h2
      omega
theorem nd_len : ∀ (n : Nat) (l : List Nat), l.Pairwise (fun a b => a ≠ b) → (∀ a, a ∈ l → a < n) → l.length ≤ n := by
  intro n
  induction n with
  | zero =>
    intro l _ h
    cases l with
    | nil => exact Nat.le_refl _
    | cons a t => exact absurd (h a List.mem_cons_self) (Nat.not_lt_zero a)
  | succ n ih =>
    intro l h1 h2
    have k1 := rmv_len1 (r := n) l h1
    have k2 := ih (rmv l n) (rmv_pw h1 n) (fun a ha => by
      obtain ⟨k1, k2⟩ := mem_rmv.mp ha
      have := h2 a k1
      omega)
    omega
theorem len_lt {R : Nat → Nat → Prop} (irr : ∀ a, ¬ R a a) {l : List Nat} {r n : Nat} (h : l.Pairwise R) (hr : r ∉ l) (hn : r < n) (hl : ∀ a, a ∈ l → a < n) : l.length < n := by
  have hpw : l.Pairwise (fun a b => a ≠ b) := h.imp (fun {a b} (hab : R a b) (e : a = b) => irr a (by rw [← e] at hab; exact hab))
  have := nd_len n (r :: l) (List.pairwise_cons.mpr ⟨fun a ha e => hr (e ▸ ha), hpw⟩) (fun a ha => by
    rcases List.mem_cons.mp ha with e | e
    · rw [e]; exact hn
    · exact hl a e)
  rw [List.length_cons] at this
  omega
