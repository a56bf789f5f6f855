/-! the class's cells: fixed ones (room, arrays of the families, lines, staff, mishaps, events) and a pool (desks, boxes, readers, plans and their rows, workers), typed by kinds -/
def rok (L : List Nat) (K : Nat → Nat) (k : Nat) (r : Option Nat) : Prop := ∀ b, r = some b → b ∈ L ∧ K b = k
def b01 (x : Int32) : Prop := x = 0 ∨ x = 1
/-- kinds: 0 box, 1 desk, 5 plan, 6 reader, 8 worker, 12 a plan's row of numbers, 13 of truths -/
def TE (L : List Nat) (K : Nat → Nat) (cy : Nat → ClassId) (k : Nat) (e : va_E) : Prop := match k with
  | 0 => ∃ (n fo pr pl : Int32) (h w : Option Nat), e = .inr (0, [.int n, .int fo, .int pr, .int pl, va_rf h, va_rf w]) ∧ b01 pr ∧ rok L K 6 h ∧ rok L K 6 w
  | 1 => ∃ (n w : Int32) (s : Option Nat), e = .inr (1, [.int n, .int w, va_rf s]) ∧ b01 w ∧ rok L K 6 s
  | 5 => ∃ (k1 k2 k3 k4 k5 sz bg rf : Nat), e = .inr (5, [.ref k1, .ref k2, .ref k3, .ref k4, .ref k5, .int (nI sz), .int (nI bg), .int (nI rf)]) ∧ (k1 ∈ L ∧ K k1 = 12) ∧ (k2 ∈ L ∧ K k2 = 12) ∧ (k3 ∈ L ∧ K k3 = 12) ∧ (k4 ∈ L ∧ K k4 = 13) ∧ (k5 ∈ L ∧ K k5 = 12) ∧ sz ≤ 16 ∧ bg ≤ 16 ∧ rf ≤ 16
  | 6 => ∃ (n : Int32) (p : Nat) (ar rk nw st ct : Int32) (d aw : Option Nat) (rl cp cu w1 w2 w3 ov co : Int32), e = .inr (6, [.int n, .ref p, .int ar, .int rk, .int nw, .int st, .int ct, va_rf d, va_rf aw, .int rl, .int cp, .int cu, .int w1, .int w2, .int w3, .int ov, .int co]) ∧ (p ∈ L ∧ K p = 5) ∧ b01 nw ∧ rok L K 1 d ∧ rok L K 0 aw ∧ b01 cu
  | 8 => ∃ (b g : Option Nat) (l : Int32), e = .inr (8, [va_rf b, va_rf g, .int l]) ∧ rok L K 0 b ∧ rok L K 6 g
  | 12 => ∃ r : Nat → Int32, e = .inl (cy 0, 16, .inl r)
  | 13 => ∃ r : Nat → Int32, e = .inl (cy 1, 16, .inl r) ∧ ∀ i, b01 (r i)
  | _ => True
def HT (L : List Nat) (K : Nat → Nat) (cy : Nat → ClassId) (f : Nat → va_E) : Prop := ∀ a, a ∈ L → TE L K cy (K a) (f a)
theorem HT_up {L : List Nat} {K : Nat → Nat} {cy : Nat → ClassId} {f : Nat → va_E} {a : Nat} {e : va_E} (h : HT L K cy f) (k : Nat) (hk : K a = k) (he : TE L K cy k e) : HT L K cy (va_up f a e) := by
  intro b hb
  by_cases hba : b = a
  · subst hba
    rw [va_up_self, hk]
    exact he
  · rw [va_up_ne _ _ hba]
    exact h b hb
theorem rok_none {L : List Nat} {K : Nat → Nat} {k : Nat} : rok L K k none := fun b h => by cases h
theorem rok_some {L : List Nat} {K : Nat → Nat} {k b : Nat} (h : b ∈ L) (hk : K b = k) : rok L K k (some b) := fun c e => by cases e; exact ⟨h, hk⟩
section PGW
variable {p : Program} {l : Launch} {e : Env} {R : Room} {s : State} {m : MethodId} {args : Array Value} {below : List Frame} {meth : Method} {c : Code} {H : Heap} {locs : List Loc} {cells slots : Nat} {Q : State → Prop}
variable {pc : Nat} {ls : Array Slot} {rest : List Value} {A : Nat → Prop} {H0 : Heap} {D : va_G} {TY : List (ClassId × FieldType)} {X : va_W} {L : List Nat} {f : Nat → va_E} {cc : ByteArray} {a : Nat}
theorem pg_get (hexec : p.tables.exec = Jvm.exec) (hb : c.code = cc) {own ref C : String} {T : u_T} {N ci index : Nat} {Ts : List Cond} (hts : ∀ w ∈ Ts, w.before args s = true) (hin : ∀ w ∈ u_ws C T N, w ∈ Ts) (hown : s.vm.findClass own = some m.cls) (hK : va_K D vwCl TY s) (hP : va_P D vwCl (X ++ va_pl L f) H) (ha : a ∈ L) {fs : List Value} (hf : f a = .inr (ci, fs)) (hc : vwCl[ci]? = some (C, T, N)) (k : Nat) (hk : k < N) (hlink : (Cond.fieldLink own index ref (T k).2.1 (T k).2.2.1).before args s = true) (hsame : ∀ x, s.fieldFound? (T k).1 (T k).2.1 (T k).2.2.1 = some x → s.fieldFound? ref (T k).2.1 (T k).2.2.1 = some x) {v : Value} (hv : fs[k]? = some v) (hdg : decode cc pc = .ok (.getfield index, 3))
    (kk : W p l e R s m args below meth c H locs cells slots Q (F0 m (pc + 3) ls (v :: rest))) : W p l e R s m args below meth c H locs cells slots Q (F0 m pc ls (.ref a :: rest)) := by
  obtain ⟨q0, hq⟩ := va_pl_get (X := X) (f := f) ha
  rw [hf] at hq
  exact va_get hexec hb hts hin hown hK hP q0 hq hc k hk hlink hsame hv hdg kk
theorem pg_put (hexec : p.tables.exec = Jvm.exec) (hb : c.code = cc) {own ref C : String} {T : u_T} {N ci index : Nat} {Ts : List Cond} (hts : ∀ w ∈ Ts, w.before args s = true) (hin : ∀ w ∈ u_ws C T N, w ∈ Ts) (ty0 : Nat → FieldType) (hty : ∀ k, k < N → parseFieldDescriptor (T k).2.2.1 = some (ty0 k)) (hnm : ∀ a, a < N → ∀ b, b < N → a ≠ b → (T a).2.1 ≠ (T b).2.1) (hown : s.vm.findClass own = some m.cls) (hK : va_K D vwCl TY s) (hP : va_P D vwCl (X ++ va_pl L f) H) (hD : va_D A (X ++ va_pl L f)) (hS0 : va_S A H0 H locs) (ha : a ∈ L) {fs : List Value} (hf : f a = .inr (ci, fs)) (hc : vwCl[ci]? = some (C, T, N)) (k : Nat) (hk : k < N) (hlink : (Cond.fieldLink own index ref (T k).2.1 (T k).2.2.1).before args s = true) (hsame : ∀ x, s.fieldFound? (T k).1 (T k).2.1 (T k).2.2.1 = some x → s.fieldFound? ref (T k).2.1 (T k).2.2.1 = some x) (hfin : (T k).2.2.2 = false) {ty : FieldType} {v : Value} (hd : parseFieldDescriptor (T k).2.2.1 = some ty) (hn : narrow ty v = v) (hfit : fits ty v = true) (hl : k < fs.length)
    (hdg : decode cc pc = .ok (.putfield index, 3)) (kk : ∀ (H1 : Heap) (locs1 : List Loc), va_P D vwCl (X ++ va_pl L (va_up f a (.inr (ci, fs.set k v)))) H1 → va_D A (X ++ va_pl L (va_up f a (.inr (ci, fs.set k v)))) → va_S A H0 H1 locs1 → W p l e R s m args below meth c H1 locs1 cells slots Q (F0 m (pc + 3) ls rest)) : W p l e R s m args below meth c H locs cells slots Q (F0 m pc ls (v :: .ref a :: rest)) := by
  obtain ⟨q0, hq⟩ := va_pl_get (X := X) (f := f) ha
  have hq' := hq
  rw [hf] at hq'
  refine va_put hexec hb hts hin ty0 hty hnm hown hK hP hD hS0 q0 hq' hc k hk hlink hsame hfin hd hn hfit hl hdg (fun H1 locs1 hP1 hD1 hS1 => ?_)
  rw [va_pl_set hD ha hq] at hP1 hD1
  exact kk H1 locs1 hP1 hD1 hS1
theorem pg_iald (hexec : p.tables.exec = Jvm.exec) (hb : c.code = cc) (hK : va_K D vwCl TY s) (hP : va_P D vwCl (X ++ va_pl L f) H) (ha : a ∈ L) (t0 : Nat) {cA : ClassId} {n : Nat} {r : Nat → Int32} (hf : f a = .inl (cA, n, .inl r)) (ht : TY[t0]? = some (cA, .int)) {i : Int32} (hin : vp_in i n) (hdg : decode cc pc = .ok (.iaload, 1))
    (kk : W p l e R s m args below meth c H locs cells slots Q (F0 m (pc + 1) ls (.int (r i.toNatClampNeg) :: rest))) : W p l e R s m args below meth c H locs cells slots Q (F0 m pc ls (.int i :: .ref a :: rest)) := by
  obtain ⟨q0, hq⟩ := va_pl_get (X := X) (f := f) ha
  rw [hf] at hq
  exact va_iald hexec hb hK hP q0 t0 hq ht hin hdg kk
theorem pg_zald (hexec : p.tables.exec = Jvm.exec) (hb : c.code = cc) (hK : va_K D vwCl TY s) (hP : va_P D vwCl (X ++ va_pl L f) H) (ha : a ∈ L) (t0 : Nat) {cA : ClassId} {n : Nat} {r : Nat → Int32} (hf : f a = .inl (cA, n, .inl r)) (ht : TY[t0]? = some (cA, .boolean)) {i : Int32} (hin : vp_in i n) (hdg : decode cc pc = .ok (.baload, 1))
    (kk : W p l e R s m args below meth c H locs cells slots Q (F0 m (pc + 1) ls (.int (r i.toNatClampNeg) :: rest))) : W p l e R s m args below meth c H locs cells slots Q (F0 m pc ls (.int i :: .ref a :: rest)) := by
  obtain ⟨q0, hq⟩ := va_pl_get (X := X) (f := f) ha
  rw [hf] at hq
  exact va_zald hexec hb hK hP q0 t0 hq ht hin hdg kk
theorem pg_iast (hexec : p.tables.exec = Jvm.exec) (hb : c.code = cc) (hK : va_K D vwCl TY s) (hP : va_P D vwCl (X ++ va_pl L f) H) (hD : va_D A (X ++ va_pl L f)) (hS : va_S A H0 H locs) (ha : a ∈ L) (t0 : Nat) {cA : ClassId} {n : Nat} {r : Nat → Int32} (hf : f a = .inl (cA, n, .inl r)) (ht : TY[t0]? = some (cA, .int)) {i x : Int32} (hin : vp_in i n) (hdg : decode cc pc = .ok (.iastore, 1))
    (kk : ∀ (H1 : Heap) (locs1 : List Loc), va_P D vwCl (X ++ va_pl L (va_up f a (.inl (cA, n, .inl (upd r i.toNatClampNeg x))))) H1 → va_D A (X ++ va_pl L (va_up f a (.inl (cA, n, .inl (upd r i.toNatClampNeg x))))) → va_S A H0 H1 locs1 → W p l e R s m args below meth c H1 locs1 cells slots Q (F0 m (pc + 1) ls rest)) : W p l e R s m args below meth c H locs cells slots Q (F0 m pc ls (.int x :: .int i :: .ref a :: rest)) := by
  obtain ⟨q0, hq⟩ := va_pl_get (X := X) (f := f) ha
  have hq' := hq
  rw [hf] at hq'
  refine va_iast hexec hb hK hP hD hS q0 t0 hq' ht hin hdg (fun H1 locs1 hP1 hD1 hS1 => ?_)
  rw [va_pl_set hD ha hq] at hP1 hD1
  exact kk H1 locs1 hP1 hD1 hS1
theorem pg_zast (hexec : p.tables.exec = Jvm.exec) (hb : c.code = cc) (hK : va_K D vwCl TY s) (hP : va_P D vwCl (X ++ va_pl L f) H) (hD : va_D A (X ++ va_pl L f)) (hS : va_S A H0 H locs) (ha : a ∈ L) (t0 : Nat) {cA : ClassId} {n : Nat} {r : Nat → Int32} (hf : f a = .inl (cA, n, .inl r)) (ht : TY[t0]? = some (cA, .boolean)) {i x : Int32} (hin : vp_in i n) (hdg : decode cc pc = .ok (.bastore, 1))
    (kk : ∀ (H1 : Heap) (locs1 : List Loc), va_P D vwCl (X ++ va_pl L (va_up f a (.inl (cA, n, .inl (upd r i.toNatClampNeg (vp_nar .boolean x)))))) H1 → va_D A (X ++ va_pl L (va_up f a (.inl (cA, n, .inl (upd r i.toNatClampNeg (vp_nar .boolean x)))))) → va_S A H0 H1 locs1 → W p l e R s m args below meth c H1 locs1 cells slots Q (F0 m (pc + 1) ls rest)) : W p l e R s m args below meth c H locs cells slots Q (F0 m pc ls (.int x :: .int i :: .ref a :: rest)) := by
  obtain ⟨q0, hq⟩ := va_pl_get (X := X) (f := f) ha
  have hq' := hq
  rw [hf] at hq'
  refine va_zast hexec hb hK hP hD hS q0 t0 hq' ht hin hdg (fun H1 locs1 hP1 hD1 hS1 => ?_)
  rw [va_pl_set hD ha hq] at hP1 hD1
  exact kk H1 locs1 hP1 hD1 hS1
end PGW
