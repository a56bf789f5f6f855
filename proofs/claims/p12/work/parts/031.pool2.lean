theorem fa_lt (a b : Int32) : a < b ↔ a.toInt < b.toInt := Int32.lt_iff_toInt_lt
theorem fa_le (a b : Int32) : a ≤ b ↔ a.toInt ≤ b.toInt := Int32.le_iff_toInt_le
theorem fa_eq (a b : Int32) : a = b ↔ a.toInt = b.toInt := Int32.toInt_inj.symm
theorem nlt_le {a b : Int32} (h : ¬ a < b) : b ≤ a := by
  rw [fa_lt] at h
  rw [fa_le]
  omega
theorem nle_lt {a b : Int32} (h : ¬ a ≤ b) : b < a := by
  rw [fa_le] at h
  rw [fa_lt]
  omega
theorem nz01 {a : Int32} (h : b01 a) : narrow .boolean (.int a) = .int a ∧ fits .boolean (.int a) = true := by
  rcases h with rfl | rfl <;> exact ⟨by decide, by decide⟩
theorem vp01 (x : Int32) : b01 (vp_nar .boolean x) := by
  have h : vp_nar .boolean x = x &&& 1 := rfl
  rw [h]
  obtain ⟨j, hj, e⟩ := pk_andE x (m := 1) 1 (by decide)
  rw [e]
  rcases (show j = 0 ∨ j = 1 by omega) with rfl | rfl
  · exact Or.inl rfl
  · exact Or.inr rfl
/-- a number between two: 1 or 0 -/
def sp_in (v lo hi : Int32) : Int32 := if v < lo then 0 else if hi < v then 0 else 1
theorem sp_in01 (v lo hi : Int32) : b01 (sp_in v lo hi) := by
  unfold sp_in
  by_cases h1 : v < lo
  · exact Or.inl (if_pos h1)
  · rw [if_neg h1]
    by_cases h2 : hi < v
    · exact Or.inl (if_pos h2)
    · exact Or.inr (if_neg h2)
theorem P0 {D : va_G} {H : Heap} : va_P D vwCl [] H := fun k q h => by simp at h
theorem D0 {A : Nat → Prop} : va_D A [] := ⟨fun i j p q h => by simp at h, fun k q h => by simp at h⟩
abbrev TYS (cy : Nat → ClassId) : List (ClassId × FieldType) := [(cy 0, .int), (cy 1, .boolean), (cy 2, .object "FondsRoom$Desk"), (cy 3, .object "FondsRoom$Box"), (cy 4, .object "FondsRoom$Reader"), (cy 5, .object "FondsRoom$Worker")]
/-- the fixed cells. x: addresses; g: the families' arrays; N: the numbers that count places; n: the others (0 way, 1 turn, 2 bell, 3 copies made, 4 ways begun, 5 urgent row); a: mishaps' rows and events; r: the lines -/
abbrev XW (x : Nat → Nat) (cy : Nat → ClassId) (g : Nat → Nat → Option Nat) (N : Nat → Nat) (n : Nat → Int32) (a : Nat → Nat → Int32) (r : Nat → Nat → Option Nat) : va_W := [(x 0, .inr (9, [.ref (x 1), .ref (x 2), .ref (x 3), .ref (x 4), .ref (x 6), .ref (x 8), .ref (x 10), .ref (x 12), .ref (x 14), .ref (x 18), .int (nI (N 0)), .int (nI (N 1)), .int (nI (N 2)), .int (n 0), .int (n 1), .int (n 2), .int (n 3), .int (n 4), .int (n 5)])), (x 1, .inl (cy 2, 12, .inr (.inr (.inr (.inr (g 0)))))), (x 2, .inl (cy 3, 40, .inr (.inr (.inr (.inr (g 1)))))), (x 3, .inl (cy 4, 20, .inr (.inr (.inr (.inr (g 2)))))), (x 4, .inr (7, [.ref (x 5), .int (nI (N 3))])), (x 5, .inl (cy 5, 4, .inr (.inr (.inr (.inr (g 3)))))), (x 6, .inr (7, [.ref (x 7), .int (nI (N 4))])), (x 7, .inl (cy 5, 3, .inr (.inr (.inr (.inr (g 4)))))), (x 8, .inr (3, [.ref (x 9), .int (nI (N 5))])), (x 9, .inl (cy 4, 20, .inr (.inr (.inr (.inr (r 0)))))), (x 10, .inr (3, [.ref (x 11), .int (nI (N 6))])), (x 11, .inl (cy 4, 20, .inr (.inr (.inr (.inr (r 1)))))), (x 12, .inr (3, [.ref (x 13), .int (nI (N 7))])), (x 13, .inl (cy 4, 20, .inr (.inr (.inr (.inr (r 2)))))), (x 14, .inr (4, [.ref (x 15), .ref (x 16), .ref (x 17), .int (nI (N 8))])), (x 15, .inl (cy 0, 30, .inl (a 0))), (x 16, .inl (cy 0, 30, .inl (a 1))), (x 17, .inl (cy 0, 30, .inl (a 2))), (x 18, .inr (2, [.ref (x 19), .int (nI (N 9))])), (x 19, .inl (cy 0, 1600, .inl (a 3)))]
/-- the families: the arrays name pooled cells of their kinds -/
def GO (L : List Nat) (K : Nat → Nat) (g : Nat → Nat → Option Nat) : Prop := (∀ i, i < 12 → ∃ b, g 0 i = some b ∧ b ∈ L ∧ K b = 1) ∧ (∀ i, i < 40 → ∃ b, g 1 i = some b ∧ b ∈ L ∧ K b = 0) ∧ (∀ i, i < 20 → ∃ b, g 2 i = some b ∧ b ∈ L ∧ K b = 6) ∧ (∀ i, i < 4 → ∃ b, g 3 i = some b ∧ b ∈ L ∧ K b = 8) ∧ (∀ i, i < 3 → ∃ b, g 4 i = some b ∧ b ∈ L ∧ K b = 8)
def cap (k : Nat) : Nat := match k with
  | 0 => 12
  | 1 => 40
  | 2 => 20
  | 3 => 4
  | 4 => 3
  | 5 => 20
  | 6 => 20
  | 7 => 20
  | 8 => 30
  | _ => 400
def NB (N : Nat → Nat) : Prop := ∀ k, k < 10 → N k ≤ cap k
theorem NB_up {N : Nat → Nat} (h : NB N) (k v : Nat) (hv : v ≤ cap k) : NB (va_up N k v) := by
  intro j hj
  by_cases e : j = k
  · subst e; rw [va_up_self]; exact hv
  · rw [va_up_ne _ _ e]; exact h j hj
def RB (L : List Nat) (K : Nat → Nat) (N : Nat → Nat) (r : Nat → Nat → Option Nat) : Prop := ∀ k, k < 3 → (∀ i, rok L K 6 (r k i)) ∧ ∀ i, i < N (5 + k) → r k i ≠ none
def CI (L : List Nat) (K : Nat → Nat) (cy : Nat → ClassId) (N : Nat → Nat) (r : Nat → Nat → Option Nat) (f : Nat → va_E) : Prop := NB N ∧ RB L K N r ∧ HT L K cy f
theorem RB_N {L : List Nat} {K N : Nat → Nat} {r : Nat → Nat → Option Nat} (h : RB L K N r) (k v : Nat) (hk : ∀ j, j < 3 → 5 + j = k → ∀ i, i < v → r j i ≠ none) : RB L K (va_up N k v) r := by
  intro j hj
  refine ⟨(h j hj).1, fun i hi => ?_⟩
  by_cases e : 5 + j = k
  · rw [e, va_up_self] at hi
    exact hk j hj e i hi
  · rw [va_up_ne _ _ e] at hi
    exact (h j hj).2 i hi
theorem RB_r {L : List Nat} {K N : Nat → Nat} {r : Nat → Nat → Option Nat} (h : RB L K N r) (k i b : Nat) (hb : b ∈ L) (hk : K b = 6) : RB L K N (va_up r k (va_up (r k) i (some b))) := by
  intro j hj
  by_cases e : j = k
  · subst e
    rw [va_up_self]
    refine ⟨fun z => ?_, fun z hz => ?_⟩ <;> by_cases ez : z = i
    · subst ez; rw [va_up_self]; exact rok_some hb hk
    · rw [va_up_ne _ _ ez]; exact (h j hj).1 z
    · subst ez; rw [va_up_self]; exact fun w => by cases w
    · rw [va_up_ne _ _ ez]; exact (h j hj).2 z hz
  · rw [va_up_ne _ _ e]
    exact h j hj
/-- the numbers that the compared answers hang on stay -/
def SM (N N' : Nat → Nat) (n n' : Nat → Int32) : Prop := (∀ k, k < 5 → N' k = N k) ∧ n' 1 = n 1 ∧ n' 2 = n 2
theorem SM_rf {N : Nat → Nat} {n : Nat → Int32} : SM N N n n := ⟨fun _ _ => rfl, rfl, rfl⟩
theorem SM_tr {N N' N2 : Nat → Nat} {n n' n2 : Nat → Int32} (h : SM N N' n n') (h2 : SM N' N2 n' n2) : SM N N2 n n2 := ⟨fun k hk => (h2.1 k hk).trans (h.1 k hk), h2.2.1.trans h.2.1, h2.2.2.trans h.2.2⟩
theorem SM_N {N N' : Nat → Nat} {n n' : Nat → Int32} (h : SM N N' n n') (k v : Nat) (hk : 5 ≤ k) : SM N (va_up N' k v) n n' := ⟨fun j hj => by rw [va_up_ne _ _ (show j ≠ k by omega)]; exact h.1 j hj, h.2⟩
theorem SM_n {N N' : Nat → Nat} {n n' : Nat → Int32} (h : SM N N' n n') (k : Nat) (v : Int32) (h1 : k ≠ 1) (h2 : k ≠ 2) : SM N N' n (va_up n' k v) := ⟨h.1, by rw [va_up_ne _ _ (fun e => h1 e.symm)]; exact h.2.1, by rw [va_up_ne _ _ (fun e => h2 e.symm)]; exact h.2.2⟩
/-- the told mishaps' turns stay -/
def MM (N N' : Nat → Nat) (a a' : Nat → Nat → Int32) : Prop := N' 8 = N 8 ∧ a' 0 = a 0
theorem MM_rf {N : Nat → Nat} {a : Nat → Nat → Int32} : MM N N a a := ⟨rfl, rfl⟩
theorem MM_tr {N N' N2 : Nat → Nat} {a a' a2 : Nat → Nat → Int32} (h : MM N N' a a') (h2 : MM N' N2 a' a2) : MM N N2 a a2 := ⟨h2.1.trans h.1, h2.2.trans h.2⟩
theorem MM_N {N N' : Nat → Nat} {a a' : Nat → Nat → Int32} (h : MM N N' a a') (k v : Nat) (h8 : k ≠ 8) : MM N (va_up N' k v) a a' := ⟨by rw [va_up_ne _ _ (fun e => h8 e.symm)]; exact h.1, h.2⟩
theorem MM_a {N N' : Nat → Nat} {a a' : Nat → Nat → Int32} (h : MM N N' a a') (k : Nat) (v : Nat → Int32) (h0 : k ≠ 0) : MM N N' a (va_up a' k v) := ⟨h.1, by rw [va_up_ne _ _ (fun e => h0 e.symm)]; exact h.2⟩
/-- the told mishaps' turns as a list -/
def ml (a : Nat → Int32) (c : Nat) : List Int32 := (List.range c).map a
theorem ml_0 (a : Nat → Int32) : ml a 0 = [] := rfl
theorem ml_s (a : Nat → Int32) (c : Nat) : ml a (c + 1) = ml a c ++ [a c] := by
  unfold ml
  rw [List.range_succ, List.map_append]
  rfl
theorem ml_len (a : Nat → Int32) (c : Nat) : (ml a c).length = c := by
  unfold ml
  rw [List.length_map, List.length_range]
theorem ml_up (a : Nat → Int32) (c k : Nat) (v : Int32) (h : c ≤ k) : ml (upd a k v) c = ml a c := by
  unfold ml
  refine List.map_congr_left (fun i hi => ?_)
  have h2 := List.mem_range.mp hi
  unfold upd
  exact if_neg (by omega)
theorem ml_put (a : Nat → Int32) (c : Nat) (v : Int32) : ml (upd a c v) (c + 1) = ml a c ++ [v] := by
  rw [ml_s, ml_up _ _ _ _ (Nat.le_refl c)]
  congr 1
  unfold upd
  rw [if_pos rfl]
def mz_ok (l : List Int32) : Int32 := if l.length < 30 then 1 else 0
def mz_app (l : List Int32) (t : Int32) : List Int32 := if l.length < 30 then l ++ [t] else l
def md (l : List Int32) (t : Int32) : List Int32 := l.filter (fun z => decide (z ≠ t))
theorem md_e (a : Nat → Int32) (j : Nat) (t : Int32) (h : a j = t) : md (ml a (j + 1)) t = md (ml a j) t := by
  unfold md
  rw [ml_s, List.filter_append, List.filter_cons_of_neg (by simp [h])]
  exact List.append_nil _
theorem md_n (a : Nat → Int32) (j : Nat) (t : Int32) (h : ¬ a j = t) : md (ml a (j + 1)) t = md (ml a j) t ++ [a j] := by
  unfold md
  rw [ml_s, List.filter_append, List.filter_cons_of_pos (by simp [h])]
  rfl
theorem ml_rest {a b : Nat → Int32} {j k : Nat} {v : Int32} (h : ∀ i, j ≤ i → b i = a i) (hk : k ≤ j) : ∀ i, j + 1 ≤ i → upd b k v i = a i := by
  intro i hi
  unfold upd
  rw [if_neg (by omega)]
  exact h i (by omega)
theorem ix_of {v : Int32} {c : Nat} (h0 : ¬ v < 0) (h1 : ¬ nI c ≤ v) (hc : c < 2 ^ 31) : ∃ j, j < c ∧ v = nI j := by
  obtain ⟨j, hj, e⟩ := nI_of h0
  refine ⟨j, ?_, e⟩
  rw [e, nI_leI hc hj] at h1
  omega
theorem ix_no1 {v : Int32} {c : Nat} (h : v < 0) (hc : c < 2 ^ 31) : ¬ ∃ j, j < c ∧ v = nI j := fun ⟨j, hj, e⟩ => by
  rw [e] at h
  exact nI_pos (by omega) h
theorem ix_no2 {v : Int32} {c : Nat} (h : nI c ≤ v) (hc : c < 2 ^ 31) : ¬ ∃ j, j < c ∧ v = nI j := fun ⟨j, hj, e⟩ => by
  rw [e, nI_leI hc (by omega)] at h
  omega
abbrev ST : Type := (Nat → Nat) × (Nat → Int32) × (Nat → Nat → Int32) × (Nat → Nat → Option Nat) × (Nat → va_E)
abbrev WC (x : Nat → Nat) (cy : Nat → ClassId) (g : Nat → Nat → Option Nat) (L : List Nat) (u : ST) : va_W := XW x cy g u.1 u.2.1 u.2.2.1 u.2.2.2.1 ++ va_pl L u.2.2.2.2
section GWR
abbrev PW (D : va_G) (TY : List (ClassId × FieldType)) (W0 : va_W) (sz : Nat) (av : List Value) : Array Value → State → Prop := va_Pc av (fun U => U.heap.size = sz ∧ va_P D vwCl W0 U.heap ∧ va_K D vwCl TY U ∧ va_D (fun _ => True) W0)
abbrev BU {S : Type} (D : va_G) (TY : List (ClassId × FieldType)) (W0 : va_W) (W1 : S → va_W) (sz : Nat) : S → State → Prop := fun u t => va_P D vwCl (W1 u) t.heap ∧ va_K D vwCl TY t ∧ va_D (va_A W0 sz) (W1 u)
theorem PW_blind {D : va_G} {TY : List (ClassId × FieldType)} {W0 : va_W} {sz : Nat} {av : List Value} : FrameBlind (PW D TY W0 sz av) := fun a U g mk h => by
  obtain ⟨h1, h2, h3, h4, h5⟩ := h
  exact ⟨h1, h2, h3, va_K.moved (u := U) (U := U.calling g mk a) (Vm.Alike.refl U.vm) h4, h5⟩
variable {p : Program} {l : Launch} {e : Env} {R : Room} {s : State} {m : MethodId} {args : Array Value} {below : List Frame} {meth : Method} {c : Code} {H : Heap} {locs : List Loc} {cells slots : Nat} {Q : State → Prop}
variable {pc : Nat} {ls : Array Slot} {rest st0 : List Value} {A : Nat → Prop} {H0 : Heap} {mc ms : Nat} {D : va_G} {TY : List (ClassId × FieldType)} {ws : va_W}
variable {y : MethodName} {bytes cc : ByteArray} {maxL nL n index : Nat} {ret : Option FieldType} {wsy : List Cond} {rm : Room} {Ts : List Cond} {own C : String} {b : Nat} {As : List Value}
theorem lv_tov {v v' : Value} (h : v = v') (k : W p l e R s m args below meth c H locs cells slots Q (F0 m pc ls (v' :: rest))) : W p l e R s m args below meth c H locs cells slots Q (F0 m pc ls (v :: rest)) := by rw [h]; exact k
/-- a call that has the caller's whole world -/
theorem gvI {S0 : Type} {post : Int32 → S0 → Prop} {W1 : S0 → va_W} (S : CallFix p m c cc nL s args Ts own) (hM : Met l y wsy rm (PW D TY ws H.size (.ref b :: As)) (va_Qi post (BU D TY ws W1 H.size) (va_A ws H.size)) mc ms (va_A ws H.size)) (cw : CallW R s args own C index y bytes maxL ret wsy rm mc ms n)
    (hK : va_K D vwCl TY s) (hP : va_P D vwCl ws H) (hD : va_D A ws) (hS : va_S A H0 H locs) (hA : ∀ q, H0.size ≤ q → A q) (hrec : ∃ cell : Cell, H[b]? = some cell ∧ cell.vm.isStatics = false ∧ s.vm.findClass C = some cell.cls)
    (hn : As.length = n) (hsize : ls.size = nL) (hstack : st0 = As.reverse ++ .ref b :: rest) (hW : (rest.map fun v => v.category).sum ≤ 8) (hdg : decode cc pc = .ok (.invokevirtual index, 3)) (hf : cells + mc ≤ R.cells ∧ slots + ms ≤ R.slots)
    (kk : ∀ (r : Int32) (u : S0) (H1 : Heap) (locs1 : List Loc), post r u → va_P D vwCl (W1 u) H1 → va_D A (W1 u) → va_S A H0 H1 locs1 → W p l e R s m args below meth c H1 locs1 (cells + mc) (slots + ms) Q (F0 m (pc + 3) ls (.int r :: rest))) : W p l e R s m args below meth c H locs cells slots Q (F0 m pc ls st0) := by
  have hFc : ∀ q, va_A ws H.size q → A q := fun q h => by
    rcases h with ⟨k, e, h⟩ | h
    · exact hD.2 k _ h
    · exact hA q (Nat.le_trans hS.1 h)
  refine va_calli (va_runV (As := As) (rest := rest) S hM cw ⟨PW_blind, hrec, fun U hU hW => ⟨rfl, by rw [hU], by rw [hU]; exact hP, va_K.moved hW.alike hK, hD.weaken (fun _ _ _ _ => trivial)⟩⟩ rfl hn hsize hstack (lv_room hW) hdg hf) hS (fun q _ h => hFc q h) hFc (fun r u t H1 locs1 ht hvm hw hB hz1 hk1 hS1 => ?_)
  obtain ⟨hP1, hK1, hD1⟩ := hB
  rw [ht] at hP1
  exact kk r u H1 locs1 hw hP1 (hD1.weaken (fun k q _ h => hFc q.1 h)) hS1
theorem gvV {S0 : Type} {post : S0 → Prop} {W1 : S0 → va_W} (S : CallFix p m c cc nL s args Ts own) (hM : Met l y wsy rm (PW D TY ws H.size (.ref b :: As)) (va_Qv post (BU D TY ws W1 H.size) (va_A ws H.size)) mc ms (va_A ws H.size)) (cw : CallW R s args own C index y bytes maxL ret wsy rm mc ms n)
    (hK : va_K D vwCl TY s) (hP : va_P D vwCl ws H) (hD : va_D A ws) (hS : va_S A H0 H locs) (hA : ∀ q, H0.size ≤ q → A q) (hrec : ∃ cell : Cell, H[b]? = some cell ∧ cell.vm.isStatics = false ∧ s.vm.findClass C = some cell.cls)
    (hn : As.length = n) (hsize : ls.size = nL) (hstack : st0 = As.reverse ++ .ref b :: rest) (hW : (rest.map fun v => v.category).sum ≤ 8) (hdg : decode cc pc = .ok (.invokevirtual index, 3)) (hf : cells + mc ≤ R.cells ∧ slots + ms ≤ R.slots)
    (kk : ∀ (u : S0) (H1 : Heap) (locs1 : List Loc), post u → va_P D vwCl (W1 u) H1 → va_D A (W1 u) → va_S A H0 H1 locs1 → W p l e R s m args below meth c H1 locs1 (cells + mc) (slots + ms) Q (F0 m (pc + 3) ls rest)) : W p l e R s m args below meth c H locs cells slots Q (F0 m pc ls st0) := by
  have hFc : ∀ q, va_A ws H.size q → A q := fun q h => by
    rcases h with ⟨k, e, h⟩ | h
    · exact hD.2 k _ h
    · exact hA q (Nat.le_trans hS.1 h)
  refine va_callv (va_runV (As := As) (rest := rest) S hM cw ⟨PW_blind, hrec, fun U hU hW => ⟨rfl, by rw [hU], by rw [hU]; exact hP, va_K.moved hW.alike hK, hD.weaken (fun _ _ _ _ => trivial)⟩⟩ rfl hn hsize hstack (lv_room hW) hdg hf) hS (fun q _ h => hFc q h) hFc (fun u t H1 locs1 ht hvm hw hB hz1 hk1 hS1 => ?_)
  obtain ⟨hP1, hK1, hD1⟩ := hB
  rw [ht] at hP1
  exact kk u H1 locs1 hw hP1 (hD1.weaken (fun k q _ h => hFc q.1 h)) hS1
theorem gvQ {S0 : Type} {post : Option Nat → S0 → Prop} {W1 : S0 → va_W} (S : CallFix p m c cc nL s args Ts own) (hM : Met l y wsy rm (PW D TY ws H.size (.ref b :: As)) (va_Qq post (BU D TY ws W1 H.size) (va_A ws H.size)) mc ms (va_A ws H.size)) (cw : CallW R s args own C index y bytes maxL ret wsy rm mc ms n)
    (hK : va_K D vwCl TY s) (hP : va_P D vwCl ws H) (hD : va_D A ws) (hS : va_S A H0 H locs) (hA : ∀ q, H0.size ≤ q → A q) (hrec : ∃ cell : Cell, H[b]? = some cell ∧ cell.vm.isStatics = false ∧ s.vm.findClass C = some cell.cls)
    (hn : As.length = n) (hsize : ls.size = nL) (hstack : st0 = As.reverse ++ .ref b :: rest) (hW : (rest.map fun v => v.category).sum ≤ 8) (hdg : decode cc pc = .ok (.invokevirtual index, 3)) (hf : cells + mc ≤ R.cells ∧ slots + ms ≤ R.slots)
    (kk : ∀ (r : Option Nat) (u : S0) (H1 : Heap) (locs1 : List Loc), post r u → va_P D vwCl (W1 u) H1 → va_D A (W1 u) → va_S A H0 H1 locs1 → W p l e R s m args below meth c H1 locs1 (cells + mc) (slots + ms) Q (F0 m (pc + 3) ls (va_rf r :: rest))) : W p l e R s m args below meth c H locs cells slots Q (F0 m pc ls st0) := by
  have hFc : ∀ q, va_A ws H.size q → A q := fun q h => by
    rcases h with ⟨k, e, h⟩ | h
    · exact hD.2 k _ h
    · exact hA q (Nat.le_trans hS.1 h)
  refine va_callq (va_runV (As := As) (rest := rest) S hM cw ⟨PW_blind, hrec, fun U hU hW => ⟨rfl, by rw [hU], by rw [hU]; exact hP, va_K.moved hW.alike hK, hD.weaken (fun _ _ _ _ => trivial)⟩⟩ rfl hn hsize hstack (lv_room hW) hdg hf) hS (fun q _ h => hFc q h) hFc (fun r u t H1 locs1 ht hvm hw hB hz1 hk1 hS1 => ?_)
  obtain ⟨hP1, hK1, hD1⟩ := hB
  rw [ht] at hP1
  exact kk r u H1 locs1 hw hP1 (hD1.weaken (fun k q _ h => hFc q.1 h)) hS1
/-- a static call that has the caller's whole world -/
theorem gsI {S0 : Type} {post : Int32 → S0 → Prop} {W1 : S0 → va_W} (S : CallFix p m c cc nL s args Ts own) (hM : Met l y wsy rm (PW D TY ws H.size As) (va_Qi post (BU D TY ws W1 H.size) (va_A ws H.size)) mc ms (va_A ws H.size)) (cw : CallB R s args own index y bytes maxL ret wsy rm mc ms n ∧ (Cond.static y).before args s = true)
    (hK : va_K D vwCl TY s) (hP : va_P D vwCl ws H) (hD : va_D A ws) (hS : va_S A H0 H locs) (hA : ∀ q, H0.size ≤ q → A q)
    (hn : As.length = n) (hsize : ls.size = nL) (hstack : st0 = As.reverse ++ rest) (hW : (rest.map fun v => v.category).sum ≤ 8) (hdg : decode cc pc = .ok (.invokestatic index, 3)) (hf : cells + mc ≤ R.cells ∧ slots + ms ≤ R.slots)
    (kk : ∀ (r : Int32) (u : S0) (H1 : Heap) (locs1 : List Loc), post r u → va_P D vwCl (W1 u) H1 → va_D A (W1 u) → va_S A H0 H1 locs1 → W p l e R s m args below meth c H1 locs1 (cells + mc) (slots + ms) Q (F0 m (pc + 3) ls (.int r :: rest))) : W p l e R s m args below meth c H locs cells slots Q (F0 m pc ls st0) := by
  have hFc : ∀ q, va_A ws H.size q → A q := fun q h => by
    rcases h with ⟨k, e, h⟩ | h
    · exact hD.2 k _ h
    · exact hA q (Nat.le_trans hS.1 h)
  refine va_calli (va_runS (As := As) (rest := rest) S hM cw ⟨PW_blind, fun U hU hW => ⟨rfl, by rw [hU], by rw [hU]; exact hP, va_K.moved hW.alike hK, hD.weaken (fun _ _ _ _ => trivial)⟩⟩ rfl hn hsize hstack (lv_room hW) hdg hf) hS (fun q _ h => hFc q h) hFc (fun r u t H1 locs1 ht hvm hw hB hz1 hk1 hS1 => ?_)
  obtain ⟨hP1, hK1, hD1⟩ := hB
  rw [ht] at hP1
  exact kk r u H1 locs1 hw hP1 (hD1.weaken (fun k q _ h => hFc q.1 h)) hS1
theorem pl_recv {X : va_W} {L : List Nat} {f : Nat → va_E} {ci a : Nat} {q : vw_C} {fs : List Value} (hK : va_K D vwCl TY s) (hP : va_P D vwCl (X ++ va_pl L f) H) (hc : vwCl[ci]? = some q) (ha : a ∈ L) (hf : f a = .inr (ci, fs)) : ∃ cell : Cell, H[a]? = some cell ∧ cell.vm.isStatics = false ∧ s.vm.findClass q.1 = some cell.cls := by
  obtain ⟨q0, hq⟩ := va_pl_get (X := X) (f := f) ha
  rw [hf] at hq
  exact va_recv hK hP hc hq
end GWR
