section MIS
variable {g : Nat → Nat → Option Nat} {cf : Nat → Nat → Nat} {nm : Nat → Int32} {A : Nat → Nat → Nat} {M M' : MP} {nd nb nr fe co : Nat} {W : Nat → Nat} {DL BT CT : List Nat} {C : CS} {S : RS} {j : Nat}
theorem l_bi {α β : Type} {o : Option α} {p : Option β} {Q : α → β → Prop} (h : ok2 o p Q) : ok2 (bd1 o fun x => some x) p Q := by
  obtain ⟨a, b, e1, e2, h⟩ := h
  exact ⟨a, b, by rw [e1]; rfl, e2, h⟩
theorem r_bi {α β : Type} {o : Option α} {p : Option β} {Q : α → β → Prop} (h : ok2 o p Q) : ok2 o (bd1 p fun x => some x) Q := by
  obtain ⟨a, b, e1, e2, h⟩ := h
  exact ⟨a, b, e1, by rw [e2]; rfl, h⟩
theorem RL_M (h : RQ M A cf nd nb nr fe co C S) (k : M (C.1 200 14) (C.1 201) (C.1 202) (C.1 203) (S 0 52) (S 39) (S 40) (S 41) (S 0 4) → M' (C.1 200 14) (C.1 201) (C.1 202) (C.1 203) (S 0 52) (S 39) (S 40) (S 41) (S 0 4)) : RQ M' A cf nd nb nr fe co C S := by
  obtain ⟨W, DL, BT, CT, h0, hM, h⟩ := h
  exact ⟨W, DL, BT, CT, h0, k hM, h⟩
theorem g_isR (e : C.1 200 2 = nI nr) (hn : nr ≤ 20) (hj : j < 1000) : gX9_isReader g cf nm C (nI j) = some (if j < nr then 1 else 0) := by
  unfold gX9_isReader
  rw [if_neg (nI_pos (by omega)), e]
  by_cases c : j < nr
  · rw [if_pos c, if_neg (fun h9 => by have := (nI_leI (by omega) (by omega)).mp h9; omega)]
  · rw [if_neg c, if_pos ((nI_leI (by omega) (by omega)).mpr (by omega))]
theorem g_isF (e : C.1 200 9 = nI fe) (hn : fe ≤ 4) (hj : j < 4) : gX7_hasWorker_0 g cf nm C (nI j) = some (if j < fe then 1 else 0) := by
  unfold gX7_hasWorker_0
  rw [if_neg (nI_pos (by omega)), e]
  by_cases c : j < fe
  · rw [if_pos c, if_neg (fun h9 => by have := (nI_leI (by omega) (by omega)).mp h9; omega), if_neg (fun h9 => by have := (nI_leI (a := 4) (by omega) (by omega)).mp h9; omega)]
  · rw [if_neg c, if_pos ((nI_leI (by omega) (by omega)).mpr (by omega))]
theorem g_isC (e : C.1 200 10 = nI co) (hn : co ≤ 3) (hj : j < 3) : gX7_hasWorker_1 g cf nm C (nI j) = some (if j < co then 1 else 0) := by
  unfold gX7_hasWorker_1
  rw [if_neg (nI_pos (by omega)), e]
  by_cases c : j < co
  · rw [if_pos c, if_neg (fun h9 => by have := (nI_leI (by omega) (by omega)).mp h9; omega), if_neg (fun h9 => by have := (nI_leI (a := 3) (by omega) (by omega)).mp h9; omega)]
  · rw [if_neg c, if_pos ((nI_leI (by omega) (by omega)).mpr (by omega))]
theorem g_per0 (e : C.1 200 2 = nI nr) (hn : nr ≤ 20) (hj : j < 1000) : gX9_isPerson g cf nm C 0 (nI j) = some (if j < nr then 1 else 0) := by
  unfold gX9_isPerson
  refine (if_pos rfl).trans ?_
  rw [g_isR e hn hj]
  rfl
theorem g_per1 (e : C.1 200 9 = nI fe) (hn : fe ≤ 4) (hj : j < 4) : gX9_isPerson g cf nm C 1 (nI j) = some (if j < fe then 1 else 0) := by
  unfold gX9_isPerson
  refine (if_neg (by decide)).trans ((if_pos rfl).trans ?_)
  rw [g_isF e hn hj]
  rfl
theorem g_per2 (e : C.1 200 10 = nI co) (hn : co ≤ 3) (hj : j < 3) : gX9_isPerson g cf nm C 2 (nI j) = some (if j < co then 1 else 0) := by
  unfold gX9_isPerson
  refine (if_neg (by decide)).trans ((if_neg (by decide)).trans ((if_pos rfl).trans ?_))
  rw [g_isC e hn hj]
  rfl
theorem b_suffer (he : EN g cf nm A) (h : RQ M A cf nd nb nr fe co C S) {k w : Int32} (ew : w = nI j) (hk : (k = 0 ∧ j < 20) ∨ (k = 1 ∧ j < 4) ∨ (k = 2 ∧ j < 3)) : ok2 (gX9_suffer g cf nm C k w) (gX10_mishapOf S k w) (fun C' S' => RQ M A cf nd nb nr fe co C' S') := by
  obtain ⟨W, DL, BT, CT, h⟩ := h
  obtain ⟨⟨t, bl, ms, hst⟩, hM, h1, h2, h3, h4, h5, h6, h7, h8, h9, h10, h11, h12⟩ := id h
  obtain ⟨⟨⟨e1, b1⟩, ⟨e2, b2⟩, ⟨e3, b3⟩, ⟨e7, b7⟩, ⟨e8, b8⟩, e4, e5, hm, hev⟩, hR, hJ⟩ := id hst
  subst ew
  unfold gX9_suffer gX10_mishapOf
  rcases hk with ⟨rfl, hj⟩ | ⟨rfl, hj⟩ | ⟨rfl, hj⟩
  · refine l_eq (g_per0 (h1.1.2.2.1.trans e3) b3 (by omega)) ?_
    obtain ⟨x, y, ex, ey, exy, ex2⟩ := b_here he h hj
    by_cases hjr : j < nr
    · rw [if_pos hjr]
      refine l_f (by decide) (l_t rfl (r_t rfl (l_ga rfl hj (by decide) (he.2.2.1 j hj).1 (l_eq ex (r_eq ey (b_ite exy (fun _ _ => b_some ⟨W, DL, BT, CT, h⟩) (fun _ _ => ?_)))))))
      exact l_ga rfl hj (by decide) (he.2.2.1 j hj).1 (b_bd (b_gone he h hjr (Or.inr (Or.inr rfl))) (fun C' S' h' => b_some ⟨_, _, _, _, h'⟩))
    · rw [if_neg hjr]
      have e0 := hJ.1 j (by omega)
      exact l_t rfl (r_t rfl (r_eq ey (r_t (exy.mp (ex2.mpr (by rw [e0]; decide))) (b_some ⟨W, DL, BT, CT, h⟩))))
  · refine l_eq (g_per1 (h1.1.2.2.2.2.2.2.2.2.2.1.trans e7) b7 hj) (r_f (by decide) (r_t rfl ?_))
    by_cases hjf : j < fe
    · rw [if_pos hjf]
      exact l_f (by decide) (l_f (by decide) (l_t rfl (l_ga rfl hj (by decide) (he.2.2.2.1 j hj).1 (l_bi (ok2_mono (b_stopF he h hj) (fun _ _ h' => ⟨_, _, _, _, h'⟩))))))
    · rw [if_neg hjf]
      exact l_t rfl (r_ld rfl hj (by decide) (fun y ey => r_t (ey.trans (h10.1 j (by omega) hj)) (b_some ⟨W, DL, BT, CT, h⟩)))
  · refine l_eq (g_per2 (h1.1.2.2.2.2.2.2.2.2.2.2.1.trans e8) b8 hj) (r_f (by decide) (r_f (by decide) ?_))
    by_cases hjc : j < co
    · rw [if_pos hjc]
      exact l_f (by decide) (l_f (by decide) (l_f (by decide) (l_ga rfl hj (by decide) (he.2.2.2.2 j hj).1 (l_bi (ok2_mono (b_stopC he h hj) (fun _ _ h' => ⟨_, _, _, _, h'⟩))))))
    · rw [if_neg hjc]
      exact l_t rfl (r_ld rfl hj (by decide) (fun y ey => r_t (ey.trans (h10.2.1 j (by omega) hj)) (b_some ⟨W, DL, BT, CT, h⟩)))
/-- which of the first i mishaps stay -/
def KI (c1 : Nat → Int32) (τ : Int32) (i : Nat) : List Nat := (List.range i).filter (fun x => decide (¬ c1 x = τ))
theorem KI_s (c1 : Nat → Int32) (τ : Int32) (i : Nat) : KI c1 τ (i + 1) = KI c1 τ i ++ (if c1 i = τ then [] else [i]) := by
  unfold KI
  rw [List.range_succ, List.filter_append]
  congr 1
  by_cases e : c1 i = τ
  · simp [e]
  · simp [e]
theorem KI_len (c1 : Nat → Int32) (τ : Int32) (i : Nat) : (KI c1 τ i).length ≤ i := by
  have := List.length_filter_le (fun x => decide (¬ c1 x = τ)) (List.range i)
  rw [List.length_range] at this
  exact this
theorem KI_lt {c1 : Nat → Int32} {τ : Int32} {i x : Nat} (h : x < (KI c1 τ i).length) : (KI c1 τ i)[x] < i := List.mem_range.mp (List.mem_filter.mp (List.getElem_mem h)).1
/-- the rows s hold what stays of the first i of c -/
def KR (c1 : Nat → Int32) (τ : Int32) (i : Nat) (s1 s2 s3 d1 d2 d3 : Nat → Int32) : Prop := ∀ x (h : x < (KI c1 τ i).length), s1 x = d1 (KI c1 τ i)[x] ∧ s2 x = d2 (KI c1 τ i)[x] ∧ s3 x = d3 (KI c1 τ i)[x]
theorem KR_put {c1 : Nat → Int32} {τ : Int32} {i : Nat} {s1 s2 s3 d1 d2 d3 : Nat → Int32} (h : KR c1 τ i s1 s2 s3 d1 d2 d3) (e : ¬ c1 i = τ) {v1 v2 v3 : Int32} (k1 : v1 = d1 i) (k2 : v2 = d2 i) (k3 : v3 = d3 i) : KR c1 τ (i + 1) (upd s1 (KI c1 τ i).length v1) (upd s2 (KI c1 τ i).length v2) (upd s3 (KI c1 τ i).length v3) d1 d2 d3 := by
  intro x hx
  have eq : KI c1 τ (i + 1) = KI c1 τ i ++ [i] := by rw [KI_s, if_neg e]
  have hx2 : x < (KI c1 τ i ++ [i]).length := by rw [← eq]; exact hx
  have hg : (KI c1 τ (i + 1))[x] = (KI c1 τ i ++ [i])[x] := by simp only [eq]
  rw [hg]
  by_cases e2 : x = (KI c1 τ i).length
  · subst e2
    rw [ua_s, ua_s, ua_s]
    simp [k1, k2, k3]
  · have hx3 : x < (KI c1 τ i).length := by
      rw [List.length_append] at hx2
      have : ([i] : List Nat).length = 1 := rfl
      omega
    rw [ua_n _ _ e2, ua_n _ _ e2, ua_n _ _ e2, List.getElem_append_left hx3]
    exact h x hx3
theorem KR_sk {c1 : Nat → Int32} {τ : Int32} {i : Nat} {s1 s2 s3 d1 d2 d3 : Nat → Int32} (h : KR c1 τ i s1 s2 s3 d1 d2 d3) (e : c1 i = τ) : KR c1 τ (i + 1) s1 s2 s3 d1 d2 d3 ∧ KI c1 τ (i + 1) = KI c1 τ i := by
  have eq : KI c1 τ (i + 1) = KI c1 τ i := by rw [KI_s, if_pos e, List.append_nil]
  refine ⟨?_, eq⟩
  unfold KR
  rw [eq]
  exact h
/-- what is known of the mishaps while the turn's are suffered -/
def MLp (m : Nat) (c1 c2 c3 : Nat → Int32) (τ : Int32) (i : Nat) : MP := fun n d1 d2 d3 mm s1 s2 s3 t => (n = nI m ∧ d1 = c1 ∧ d2 = c2 ∧ d3 = c3 ∧ mm = nI m ∧ t = τ) ∧ (∀ x, i ≤ x → x < m → s1 x = c1 x ∧ s2 x = c2 x ∧ s3 x = c3 x) ∧ KR c1 τ i s1 s2 s3 c1 c2 c3
theorem b_mis (he : EN g cf nm A) {m : Nat} (hm : m ≤ 30) {c1 c2 c3 : Nat → Int32} {τ : Int32} (hc : ∀ x, x < m → ∃ j, c3 x = nI j ∧ ((c2 x = 0 ∧ j < 20) ∨ (c2 x = 1 ∧ j < 4) ∨ (c2 x = 2 ∧ j < 3))) {K : CS → Option CS} {K' : Int32 → RS → Option RS} {Q : CS → RS → Prop}
    (hK : ∀ C S, RQ (MLp m c1 c2 c3 τ m) A cf nd nb nr fe co C S → ok2 (K C) (K' (nI (KI c1 τ m).length) S) Q) :
    ∀ (fu i : Nat) (C : CS) (S : RS), i ≤ m → m - i < fu → RQ (MLp m c1 c2 c3 τ i) A cf nd nb nr fe co C S → ok2 (gX9_sufferMishaps_2 g cf nm K fu (nI i) C) (gX10_doMishaps_4 K' fu (nI (KI c1 τ i).length) (nI i) S) Q := by
  intro fu
  induction fu with
  | zero => intro i C S hi hf; omega
  | succ fu ih =>
    intro i C S hi hf h
    obtain ⟨W, DL, BT, CT, h0, hM, h1, hrest⟩ := id h
    obtain ⟨⟨n1, n2, n3, n4, n5, n6⟩, hs, hk⟩ := id hM
    have hkl := KI_len c1 τ i
    rw [gX9_sufferMishaps_2, gX10_doMishaps_4, nI_1 i]
    refine b_ite (by rw [n1, n5]) (fun q _ => ?_) (fun q _ => ?_)
    · have hm2 : i = m := by
        rw [n1] at q
        have := (nI_leI (by omega) (by omega)).mp q
        omega
      subst hm2
      exact hK C S h
    have him : i < m := nl n1 (by omega) (by omega) q
    obtain ⟨s1, s2, s3⟩ := hs i (Nat.le_refl _) him
    refine l_ld rfl (by omega) (by decide) (fun y ey => r_ld rfl (by omega) (by decide) (fun y' ey' => ?_))
    have ey1 : y = c1 i := by rw [ey, n2]
    have ey2 : y' = c1 i := by rw [ey', s1]
    have et : C.1 200 4 = S 0 4 := h1.1.2.2.2.2.1
    refine b_ite (by rw [ey1, ey2, et]) (fun q1 q2 => ?_) (fun q1 q2 => ?_)
    · have e : c1 i = τ := by rw [← ey2, q2, n6]
      refine l_ld rfl (by omega) (by decide) (fun y5 ey5 => l_ld rfl (by omega) (by decide) (fun y7 ey7 => r_ld rfl (by omega) (by decide) (fun z5 ez5 => r_ld rfl (by omega) (by decide) (fun z7 ez7 => ?_))))
      obtain ⟨jj, ej, hkk⟩ := hc i him
      have f5 : y5 = c2 i := by rw [ey5, n3]
      have f7 : y7 = c3 i := by rw [ey7, n4]
      have g5 : z5 = c2 i := by rw [ez5, s2]
      have g7 : z7 = c3 i := by rw [ez7, s3]
      rw [f5, f7, g5, g7]
      refine b_bd (b_suffer he h ej hkk) (fun C' S' h' => ?_)
      have hgo := ih (i + 1) C' S' (by omega) (by omega) (RL_M h' (fun hm' => ⟨hm'.1, fun x hx hx2 => hm'.2.1 x (by omega) hx2, (KR_sk hm'.2.2 e).1⟩))
      rw [(KR_sk hk e).2] at hgo
      exact hgo
    · have e : ¬ c1 i = τ := fun e => q2 (by rw [ey2, e, n6])
      refine r_ld rfl (by omega) (by decide) (fun z5 ez5 => r_sv rfl (by omega) (by decide) (r_ld rfl (by omega) (by decide) (fun z9 ez9 => r_sv rfl (by omega) (by decide) (r_ld rfl (by omega) (by decide) (fun z3 ez3 => r_sv rfl (by omega) (by decide) ?_)))))
      have eq : KI c1 τ (i + 1) = KI c1 τ i ++ [i] := by rw [KI_s, if_neg e]
      have hlen : (KI c1 τ (i + 1)).length = (KI c1 τ i).length + 1 := by rw [eq]; simp
      have f5 : z5 = c1 i := by rw [ez5, s1]
      have f9 : z9 = c2 i := ez9.trans s2
      have f3 : z3 = c3 i := ez3.trans s3
      have hgo := ih (i + 1) C (wr (wr (wr S 39 (KI c1 τ i).length z5) 40 (KI c1 τ i).length z9) 41 (KI c1 τ i).length z3) (by omega) (by omega) ?_
      · rw [hlen, ← nI_1 (KI c1 τ i).length] at hgo
        exact hgo
      obtain ⟨t, bl, ms, ⟨e1, e2, e3, e7, e8, e4, e5, hmm, hev⟩, hR, hJ⟩ := h0
      refine ⟨W, DL, BT, CT, ⟨t, bl, _, ⟨e1, e2, e3, e7, e8, e4, e5, ⟨m, hm, n5, rfl⟩, hev⟩, hR, J_mis hJ ?_⟩, ⟨⟨n1, n2, n3, n4, n5, n6⟩, fun x hx hx2 => ?_, KR_put hk e f5 f9 f3⟩, h1, hrest⟩
      · rw [f9, f3, ← s2, ← s3]
        exact hJ.2.2.2.2.2.2.2.2.2.2.2 i
      · have hne : x ≠ (KI c1 τ i).length := by omega
        show upd (S 39) _ _ x = _ ∧ upd (S 40) _ _ x = _ ∧ upd (S 41) _ _ x = _
        rw [ua_n _ _ hne, ua_n _ _ hne, ua_n _ _ hne]
        exact hs x (by omega) hx2
/-- the class's own way of dropping the turn's mishaps -/
theorem g_dt {m : Nat} (hm : m ≤ 30) {C0 : CS} {τ : Int32} (hn : C0.1 200 14 = nI m) {K : Int32 → CS → Option CS} {P : CS → Prop}
    (hK : ∀ d1 d2 d3, KR (C0.1 201) τ m d1 d2 d3 (C0.1 201) (C0.1 202) (C0.1 203) → ok (K (nI (KI (C0.1 201) τ m).length) (va_up (va_up (va_up C0.1 201 d1) 202 d2) 203 d3, C0.2)) P) :
    ∀ (fu i : Nat) (d1 d2 d3 : Nat → Int32), i ≤ m → m - i < fu → KR (C0.1 201) τ i d1 d2 d3 (C0.1 201) (C0.1 202) (C0.1 203) → (∀ x, i ≤ x → d1 x = C0.1 201 x ∧ d2 x = C0.1 202 x ∧ d3 x = C0.1 203 x) → ok (gX4_dropTurn_4 g cf nm K fu τ (nI (KI (C0.1 201) τ i).length) (nI i) (va_up (va_up (va_up C0.1 201 d1) 202 d2) 203 d3, C0.2)) P := by
  intro fu
  induction fu with
  | zero => intro i d1 d2 d3 hi hf; omega
  | succ fu ih =>
    intro i d1 d2 d3 hi hf hk hs
    have hkl := KI_len (C0.1 201) τ i
    obtain ⟨s1, s2, s3⟩ := hs i (Nat.le_refl _)
    rw [gX4_dropTurn_4, nI_1 i, nI_1 (KI (C0.1 201) τ i).length]
    refine ok_ite (fun q => ?_) (fun q => ?_)
    · have hm2 : i = m := by
        have := (nI_leI (a := m) (b := i) (by omega) (by omega)).mp (hn ▸ q)
        omega
      subst hm2
      exact hK d1 d2 d3 hk
    have him : i < m := nl hn (by omega) (by omega) q
    refine c_ld rfl (by omega) (by decide) (fun y ey => ok_ite (fun c => ?_) (fun c => ?_))
    · have e : C0.1 201 i = τ := by
        rw [← c, ey]
        exact s1.symm
      have hgo := ih (i + 1) d1 d2 d3 (by omega) (by omega) (KR_sk hk e).1 (fun x hx => hs x (by omega))
      rw [(KR_sk hk e).2] at hgo
      exact hgo
    · have e : ¬ C0.1 201 i = τ := fun e => c (by rw [ey]; exact s1.trans e)
      refine c_ld rfl (by omega) (by decide) (fun y5 ey5 => c_si rfl (by omega) (by decide) (c_ld rfl (by omega) (by decide) (fun y9 ey9 => c_si rfl (by omega) (by decide) (c_ld rfl (by omega) (by decide) (fun y3 ey3 => c_si rfl (by omega) (by decide) ?_)))))
      have eq : KI (C0.1 201) τ (i + 1) = KI (C0.1 201) τ i ++ [i] := by rw [KI_s, if_neg e]
      have hlen : (KI (C0.1 201) τ (i + 1)).length = (KI (C0.1 201) τ i).length + 1 := by rw [eq]; simp
      have hgo := ih (i + 1) (upd d1 (KI (C0.1 201) τ i).length y5) (upd d2 (KI (C0.1 201) τ i).length y9) (upd d3 (KI (C0.1 201) τ i).length y3) (by omega) (by omega) (KR_put hk e (ey5.trans s1) (ey9.trans s2) (ey3.trans s3)) (fun x hx => ?_)
      · rw [hlen] at hgo
        refine Eq.mp (congrArg (fun z => ok (gX4_dropTurn_4 g cf nm K fu τ (nI ((KI (C0.1 201) τ i).length + 1)) (nI (i + 1)) (z, C0.2)) P) ?_) hgo
        funext k
        show _ = wr (wr (wr (va_up (va_up (va_up C0.1 201 d1) 202 d2) 203 d3) 201 _ y5) 202 _ y9) 203 _ y3 k
        by_cases k3 : k = 203
        · subst k3
          rw [va_up_self, wr_s, wr_n _ _ _ _ (by decide), wr_n _ _ _ _ (by decide), va_up_self]
        rw [va_up_ne _ _ k3, wr_n _ _ _ _ k3]
        by_cases k2 : k = 202
        · subst k2
          rw [va_up_self, wr_s, wr_n _ _ _ _ (by decide), va_up_ne _ _ (by decide), va_up_self]
        rw [va_up_ne _ _ k2, wr_n _ _ _ _ k2]
        by_cases k1 : k = 201
        · subst k1
          rw [va_up_self, wr_s, va_up_ne _ _ (by decide), va_up_ne _ _ (by decide), va_up_self]
        rw [va_up_ne _ _ k1, wr_n _ _ _ _ k1, va_up_ne _ _ k3, va_up_ne _ _ k2, va_up_ne _ _ k1]
      · have hne : x ≠ (KI (C0.1 201) τ i).length := by omega
        rw [ua_n _ _ hne, ua_n _ _ hne, ua_n _ _ hne]
        exact hs x (by omega)
end MIS
