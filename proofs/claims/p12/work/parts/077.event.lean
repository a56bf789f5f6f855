/-! NoSuchElementException(String) of this JDK links its super constructor by entry 13, not 7: the law of a throw (launches without stack traces) for any such entry, by the library's chainSX, ctorMessageOffV, athrowLeaves; it follows the library's own ctorThrowS, which is for entry 7 alone -/
section NXA
variable {p : Program} {l : Launch} {e : Env} {R : Room} {s : State} {m : MethodId} {args : Array Value} {below : List Frame} {meth : Method} {c : Code} {locs : List Loc} {cells slots : Nat}
set_option maxHeartbeats 2000000 in
theorem nx_ctor {T0 : State} (X : Stand p l e R s m args below meth c T0 locs cells slots) (hexec : p.tables.exec = Jvm.exec) (htr : e.platform.stackTraces = false) {own cls : String} {names : List String} {ic ix : Nat} {rx : ByteArray}
    (x0 : decode rx 0 = .ok (.aload_n 0, 1)) (x1 : decode rx 1 = .ok (.aload_n 1, 1)) (x2 : decode rx 2 = .ok (.invokespecial ix, 3)) (x5 : decode rx 5 = .ok (.return_, 1))
    (hown : s.vm.findClass own = some m.cls) (hcls : Bundle.fit cls = true) (hnames : ∀ n ∈ names, Bundle.fit n = true)
    (h : ∀ a ∈ Bundle.ownAtomsX own ic cls ix rx names, a.before args s = true) (hnl : ∀ x ∈ locs, False)
    {a : Addr} {cX : ClassId} {kX : Class} (hfoundX : s.vm.findClass cls = some cX) (hkX : s.vm.classes[cX]? = some kX) (hcell : T0.heap[a]? = some (freshCell cX kX)) (hnew : s.heap.size ≤ a)
    {msg : Value} (hmsg : msg.isRef = true) {g : JFrame} (hg : g.method = m) (hsize : g.locals.size = c.maxLocals) (hlocked : g.locked = none) (hentered : g.entered = []) {rest : List Value} (hstack : g.stack = msg :: .ref a :: .ref a :: rest)
    (hd6 : decode c.code g.pc = .ok (.invokespecial ic, 3)) (hd9 : decode c.code (g.pc + 3) = .ok (.athrow, 1)) (hout : ∀ x ∈ c.exceptionTable.toList, covers x (g.pc + 3) = false)
    (hRframes : names.length + 3 < R.frames) (hRlocals : 2 * g.monitorRoom + ((Value.ref a :: rest).map fun v => v.category).sum + (13 * (names.length + 1) + 42) ≤ R.locals) (hlocks : meth.locks = false) :
    ∃ U : State, Steps p.tables e below (T0.setTop g) U ∧ U.status = .running ∧ Ended U below (.threw a) ∧ s.WarmedH U.vm ∧ s.sameButNew ({ U with vm := s.vm } : State) locs cells slots ∧ ∃ ce, U.heap[a]? = some ce ∧ ce.cls = cX ∧ ce.vm = .none := by
  have hpl : e.platform.magicAccessors = ({} : Platform).magicAccessors := by rw [X.admits.platform]
  have at' : ∀ x, x ∈ Bundle.ownAtomsX own ic cls ix rx names → x.holds args s none s [] = true := fun x hx => h x hx
  obtain ⟨T, Z0, L, -, Y⟩ := ThrowableC.of_atoms (args := args) (by rw [X.admits.platform]) (by rw [X.admits.platform]) hpl (fun x hx => h x (by simp [Bundle.ownAtomsX, hx]))
  obtain ⟨Z, M, LZ, LM, hnZ⟩ := Init0T.ofS_atoms (args := args) hpl L Y (fun x hx => h x (by simp [Bundle.ownAtomsX, hx]))
  obtain ⟨P1, Ps, hlen, L1, hL, hP1m, hlink1, hlink⟩ := Bundle.chainSX (args := args) hpl hnZ x0 x1 x2 x5 names cls hcls hnames (fun x hx => h x (by simp [Bundle.ownAtomsX, hx]))
  have hfound : s.vm.findClass cls = some P1.m.cls := findClass_of_methodNamed hP1m
  cases Option.some.inj (hfoundX.symm.trans hfound)
  obtain ⟨c1, kX', hc1, hk, hord, -, -, hn6⟩ := Cond.instantiable_spec (at' (.instantiable cls 6) (by simp [Bundle.ownAtomsX]))
  cases Option.some.inj (hc1.symm.trans hfound)
  cases Option.some.inj (hkX.symm.trans hk)
  have hsel : ∀ {y : MethodName} {k : MethodId}, s.methodNamed? y = some k → Cond.selects cls y y ∈ Bundle.ownAtomsX own ic cls ix rx names → s.methodFound? y.cls y.name y.desc = some k → selectMethod e.platform s.vm P1.m.cls k = .method k := by
    intro y k hy hm hfd
    obtain ⟨c2, r2, m2, q1, q2, q3, q4, -⟩ := Cond.selects_spec (at' _ hm)
    cases Option.some.inj (q1.symm.trans hfound)
    cases Option.some.inj (q2.symm.trans hfd)
    cases Option.some.inj (q3.symm.trans hy)
    rw [Launch.admits_selectMethod X.admits]; exact q4
  have hsel0 : selectMethod e.platform s.vm P1.m.cls T.fill0 = .method T.fill0 := hsel Y.fill0 (by simp [Bundle.ownAtomsX]) (State.methodFound?_of_named Y.fill0 (by decide))
  have hselF : selectMethod e.platform s.vm P1.m.cls T.fill = .method T.fill := hsel Y.fill (by simp [Bundle.ownAtomsX]) (State.methodFound?_of_named Y.fill (by decide))
  obtain ⟨cellS0, hcS0, hiss⟩ := Y.statics
  obtain ⟨u0, hu0⟩ := Cond.staticRefV Y.unassigned L.unassignedStatic L.statics hcS0 hiss (at' (.isRef (.static Bundle.tN "UNASSIGNED_STACK" Bundle.steD)) (by simp [Bundle.ownAtomsX]))
  obtain ⟨sen, hsen⟩ := Cond.staticRefV Y.sentinel L.sentinelStatic L.statics hcS0 hiss (at' (.isRef (.static Bundle.tN "SUPPRESSED_SENTINEL" Bundle.listD)) (by simp [Bundle.ownAtomsX]))
  obtain ⟨ciB, iB, fB, hkB, hgB, haB, hsB, -, hnB, htB, hffB⟩ := Cond.ownField (t := .object "java/lang/Object") Y.found L.cls (by decide +kernel) (at' (.fieldLink Bundle.tN 198 Bundle.tN "backtrace" "Ljava/lang/Object;") (by simp [Bundle.ownAtomsX])) (at' (.lays Bundle.tN Bundle.tN "backtrace" "Ljava/lang/Object;") (by simp [Bundle.ownAtomsX])) e.platform hpl
  obtain ⟨cellS, hcS', heS, -, hkeep⟩ := X.same.2.2.2.2.2 T.aS cellS0 hcS0
  have hout' : ∀ i, (⟨T.aS, i⟩ : Loc) ∉ locs := fun i hmem => hnl _ hmem
  have hknownS : cellS.vm ≠ .unknown := fun hu => by
    have e9 : cellS.vm = cellS0.vm := by rw [heS]
    rw [e9] at hu
    rw [hu] at hiss
    cases hiss
  have hneS : T.aS ≠ a := Nat.ne_of_lt (Nat.lt_of_lt_of_le (Array.getElem?_eq_some_iff.mp hcS0).1 hnew)
  obtain ⟨iM, hffM⟩ := Y.msg
  obtain ⟨tyC, dC, hdC, hdnC⟩ := Cond.laysAt hfound hk Y.cause (at' (.lays cls Bundle.tN "cause" "Ljava/lang/Throwable;") (by simp [Bundle.ownAtomsX]))
  obtain ⟨tyS, dS, hdS, hdnS⟩ := Cond.laysAt hfound hk Y.stack (at' (.lays cls Bundle.tN "stackTrace" Bundle.steD) (by simp [Bundle.ownAtomsX]))
  obtain ⟨tyP, dP, hdP, hdnP⟩ := Cond.laysAt hfound hk Y.supp (at' (.lays cls Bundle.tN "suppressedExceptions" Bundle.listD) (by simp [Bundle.ownAtomsX]))
  obtain ⟨tyM, dM, hdM, hdnM⟩ := Cond.laysAt hfound hk hffM (at' (.lays cls Bundle.tN "detailMessage" "Ljava/lang/String;") (by simp [Bundle.ownAtomsX]))
  obtain ⟨tyB, dB, hdB, hdnB⟩ := Cond.laysAt hfound hk hffB (at' (.lays cls Bundle.tN "backtrace" "Ljava/lang/Object;") (by simp [Bundle.ownAtomsX]))
  have bC := Cond.laysApart hdB hdC hdnB hdnC (by rw [hnB, Y.causeName]; decide)
  have bS := Cond.laysApart hdB hdS hdnB hdnS (by rw [hnB, Y.stackName]; decide)
  have bP := Cond.laysApart hdB hdP hdnB hdnP (by rw [hnB, Y.suppName]; decide)
  have hskip : SkipFacts T e.platform s (fun u => u) u0 ((preparedCellV T.toThrowableT (freshCell P1.m.cls kX) a u0 sen).withEntry T0.cur) :=
    ⟨{ ci198 := ciB, i198 := iB, fBack := fB }, ⟨hkB, hgB, haB, hsB⟩, by
      have := fresh_default (c := P1.m.cls) tyB
      rw [htB] at this
      simpa [preparedCellV, Cell.setSlot, Cell.withEntry, Array.getElem?_setIfInBounds, bC, bS, bP, bC.symm, bS.symm, bP.symm, defaultValue] using this, fun _ _ => rfl⟩
  obtain ⟨tm, methC, cdC, kC, vm₁, hnC, -, -, -, -, -, -, -, hW₁, st1⟩ := Steps.initColdS (tb := p.tables) (e := e) (below := below) (s := s) (U := T0) X.here hexec X.warmed hpl hown (t := Bundle.initS cls) rfl rfl (Bundle.fit_spec hcls).2
    (at' (.methodLink own ic (Bundle.initS cls)) (by simp [Bundle.ownAtomsX])) (h (.instanceMethod (Bundle.initS cls)) (by cases names <;> simp [Bundle.ownAtomsX, Bundle.chainSAtomsX, Bundle.passSAtoms])) (bytes := rx) (maxL := 2) (h (.code (Bundle.initS cls) rx 2 none) (by cases names <;> simp [Bundle.ownAtomsX, Bundle.chainSAtomsX, Bundle.passSAtoms]))
    (f := g) hg (a := a) (msg := msg) (rest := .ref a :: rest) hstack hd6
  cases Option.some.inj (hnC.symm.trans hP1m)
  have X₁ := X.noted hW₁
  obtain ⟨vm₂, X₂, st2⟩ := X₁.ctorMessageOffV hexec (g := { g with stack := .ref a :: rest }) hg hsize T L Z LZ M LM (P1 :: Ps)
    (fun P hP => by rcases List.mem_cons.mp hP with rfl | hP; exact L1; exact hL P hP) ⟨hlink1, hlink⟩ (u0 := u0) (sen := sen) (self := a) hmsg (cell := freshCell P1.m.cls kX) (cellS := cellS)
    hcell (fun _ => by simp) (by simp) rfl rfl hsel0 hselF hcS' hneS hknownS (by rw [hkeep _ (hout' _)]; exact hu0) (by rw [hkeep _ (hout' _)]; exact hsen)
    (Takes.of_laid hk hord tyC (by rw [Y.causeType]; rfl)) (Takes.of_laid hk hord tyS (by rw [Y.stackType]; exact fits_refV_array _ u0)) (Takes.of_laid hk hord tyP (by rw [Y.suppType]; exact fits_refV_object _ sen))
    (Takes.of_laid hk hord tyM (by rw [Y.msgType]; exact fits_refV_object _ ⟨msg, hmsg⟩)) Y.objLocals hskip htr [] hd6
    (by simp only [List.length_cons, hlen]; omega) (by simp only [List.length_cons, hlen]; exact hRlocals)
  obtain ⟨hwalk, hrun, hended, hWU, hsame⟩ := X₂.athrowLeaves hexec (g := { g with stack := .ref a :: rest, pc := g.pc + 3 }) hg hlocked hentered hout (a := a) (rest := rest) rfl hd9 hlocks
  have hlt : a < ((T0.setVm vm₁).setVm vm₂).heap.size := (Array.getElem?_eq_some_iff.mp hcell).1
  have hU := heapAt_setCell_self (s := (T0.setVm vm₁).setVm vm₂) (plainBareV T.toThrowableT (freshCell P1.m.cls kX) a u0 sen msg) hlt
  refine ⟨_, st1 _ (fun acts => ?_), hrun, hended, hWU, hsame.weaken (fun y hy hlt' => ?_) (Nat.le_refl _) (Nat.le_refl _), _, hU, rfl, rfl⟩
  · rw [doInvoke_state]
    exact st2 _ hwalk
  · rcases List.mem_append.mp hy with h1 | h1
    · exact h1
    · exfalso
      have hbase : y.base = a := by
        simp only [List.mem_cons, List.not_mem_nil, or_false] at h1
        rcases h1 with rfl | rfl | rfl | rfl | rfl <;> rfl
      rw [hbase] at hlt'
      exact Nat.not_lt.mpr hnew hlt'
end NXA
section NXB
variable {p : Program} {l : Launch} {e : Env} {R : Room} {s : State} {m : MethodId} {args : Array Value} {below : List Frame} {meth : Method} {c : Code} {H : Heap} {locs : List Loc} {cells slots : Nat} {Q : State → Prop}
variable {mc ms : Nat} {free : Addr → Prop} {A0 A1 : Nat → Prop} {H0 : Heap} {a : Array Value} {ls : Array Slot} {st0 rest : List Value}
variable {Qc : Array Value → State → Outcome → State → Prop} {XC : String → State → State → Prop}
noncomputable def nx_at (own : String) (ic : Nat) (X : String) (ix : Nat) (rx : ByteArray) (names : List String) : List Cond := (Bundle.ownAtomsX own ic X ix rx names).filter vx_no
set_option maxHeartbeats 2000000 in
theorem nx_throw {cc : ByteArray} {pc : Nat} (hexec : p.tables.exec = Jvm.exec) (hb : c.code = cc) (hl : l.stackTraces = false) {own cls text : String} {names : List String} {ik is ic ix mc ms sa : Nat} {rx : ByteArray} {A : Nat → Prop}
    (x0 : decode rx 0 = .ok (.aload_n 0, 1)) (x1 : decode rx 1 = .ok (.aload_n 1, 1)) (x2 : decode rx 2 = .ok (.invokespecial ix, 3)) (x5 : decode rx 5 = .ok (.return_, 1))
    (hown : s.vm.findClass own = some m.cls) (hcls : Bundle.fit cls = true) (hnames : ∀ n ∈ names, Bundle.fit n = true)
    (hk : (Cond.classLink own ik cls).before args s = true) (hini : (Cond.initialized cls).before args s = true) (hstr : vk_R own is text sa s) (hat : ∀ w ∈ nx_at own ic cls ix rx names, w.before args s = true)
    (hgood : ∀ w ∈ Cond.classLink own ik cls :: Cond.initialized cls :: nx_at own ic cls ix rx names, vx_ot w = true)
    (hU : vx_Zq Bundle.tN "UNASSIGNED_STACK" Bundle.steD A s s.heap) (hN : vx_Zq Bundle.tN "SUPPRESSED_SENTINEL" Bundle.listD A s s.heap) (hS : va_S A s.heap H locs) (hsize : ls.size = c.maxLocals)
    (d0 : decode cc pc = .ok (.new ik, 3)) (d3 : decode cc (pc + 3) = .ok (.dup, 1)) (d4 : decode cc (pc + 4) = .ok (.ldc_w is, 3)) (d7 : decode cc (pc + 7) = .ok (.invokespecial ic, 3)) (d10 : decode cc (pc + 10) = .ok (.athrow, 1))
    (hout : ∀ x ∈ c.exceptionTable.toList, covers x (pc + 10) = false)
    (hRframes : names.length + 3 < R.frames) (hRlocals : (rest.map fun v => v.category).sum + (13 * (names.length + 1) + 43) ≤ R.locals) (hRcells : cells + 1 ≤ R.cells) (hRslots : slots + 6 ≤ R.slots) (hlocks : meth.locks = false)
    (hx : ∀ t : State, s.vm.Alike t.vm → H.size ≤ t.heap.size → (∀ q : Nat, q < H.size → t.heap[q]? = H[q]?) → XC cls s t)
    (hf : ∀ z ∈ locs, free z.base) (hc : cells + 1 ≤ mc) (hs : slots + 6 ≤ ms) :
    W p l e R s m args below meth c H locs cells slots (vx_MQ below Qc XC args s mc ms free) (F0 m pc ls rest) := by
  intro T hT X
  have htr : e.platform.stackTraces = false := (show e.platform.stackTraces = l.stackTraces by rw [X.admits.platform]).trans hl
  have Y := vx_rebase X (R' := { frames := R.frames, locals := R.locals, cells := 1, slots := 6 }) (Nat.le_refl _) (Nat.le_refl _) hRcells hRslots
  obtain ⟨s', hA⟩ : ∃ z, z = (T.setVm s.vm).setFrames (.invoking m args :: below) := ⟨_, rfl⟩
  rw [← hA] at Y
  have hvm : s'.vm = s.vm := by rw [hA]; rfl
  have hhp : s'.heap = H := by rw [hA]; exact hT
  have hW0 : s.WarmedH s'.vm := by rw [hvm]; exact State.WarmedH.refl s
  have hat' : ∀ w ∈ nx_at own ic cls ix rx names, w.before args s' = true := fun w hw => vx_ot_at hW0 hvm.symm (hgood w (List.mem_cons_of_mem _ (List.mem_cons_of_mem _ hw))) (hat w hw)
  have hk' : (Cond.classLink own ik cls).before args s' = true := vx_ot_at hW0 hvm.symm (hgood _ List.mem_cons_self) hk
  have hini' : (Cond.initialized cls).before args s' = true := vx_ot_at hW0 hvm.symm (hgood _ (List.mem_cons_of_mem _ List.mem_cons_self)) hini
  have hU' : vx_Zq Bundle.tN "UNASSIGNED_STACK" Bundle.steD A s' s'.heap := by rw [hhp]; exact vx_Zq.moved hW0.alike (hU.kept hS.2.1)
  have hN' : vx_Zq Bundle.tN "SUPPRESSED_SENTINEL" Bundle.listD A s' s'.heap := by rw [hhp]; exact vx_Zq.moved hW0.alike (hN.kept hS.2.1)
  have h : ∀ w ∈ Bundle.ownAtomsX own ic cls ix rx names, w.before args s' = true := vx_own hat' (vx_isRefq hU'.1) (vx_isRefq hN'.1) hU'.2.word hN'.2.word
  have hown' : s'.vm.findClass own = some m.cls := by rw [hvm]; exact hown
  have hins : (Cond.instantiable cls 6).before args s' = true := h _ (by simp [Bundle.ownAtomsX])
  obtain ⟨vm₁, cX, kX, hfX, hkX, -, -, X₁, st1⟩ := Y.newCold hexec (own := own) (C := cls) (index := ik) (n := 6) hown' hk' hins hini'
    (g := F0 m pc ls rest) rfl (by rw [hb]; exact d0) (Nat.le_refl _) (Nat.le_refl _)
  generalize hT1 : (T.setVm vm₁).pushCell { cls := cX, slots := kX.instanceTypes.map defaultValue, vm := .none } = T1 at X₁ st1
  have hcat : (Value.ref T.heap.size).category = 1 := rfl
  have hcellA : T1.heap[T.heap.size]? = some (freshCell cX kX) := by rw [← hT1]; exact State.heap_pushCell_size _ _
  have d3' : decode c.code (pc + 3) = .ok (.dup, 1) := by rw [hb]; exact d3
  have d4' : decode c.code (pc + 4) = .ok (.ldc_w is, 3) := by rw [hb]; exact d4
  have hstr' : vk_R own is text sa s' := vk_R.warm hW0 hstr
  obtain ⟨U, hsteps, hrun, hend, hW, hsame, ce, hce, hOc, hOv⟩ := nx_ctor X₁ hexec htr (ix := ix) (rx := rx) x0 x1 x2 x5 (own := own) (cls := cls) (names := names) (ic := ic) hown' hcls hnames h (fun x hx => nomatch hx) hfX hkX hcellA (by rw [hhp, hT]; exact Nat.le_refl _) (msg := .ref sa) rfl
    (g := { method := m, pc := pc + 7, locals := ls, stack := .ref sa :: .ref T.heap.size :: .ref T.heap.size :: rest, locked := none }) rfl hsize rfl rfl (rest := rest) rfl
    (by rw [hb]; exact d7) (by rw [hb]; exact d10) hout hRframes (by simp only [List.map_cons, List.sum_cons, hcat]; omega) hlocks
  obtain ⟨f1, f2⟩ := vx_frame hsame
  rw [hhp] at f1 f2
  have hWs : s.WarmedH U.vm := State.WarmedH.trans hW0 hW
  have hcl : s.vm.findClass cls = some ce.cls := by
    rw [hOc, ← hvm]
    exact hfX
  have hall : s.sameButNew ({ U with vm := s.vm } : State) locs mc ms := by
    subst hA
    obtain ⟨e1, e2⟩ := hsame
    rw [State.setFrames_setFrames] at e1
    have h2 : (T.setVm s.vm).sameButNew ({ U with vm := s.vm } : State) [] (0 + 1) (0 + 6) := ⟨e1, e2⟩
    have h3 := X.same.trans h2
    rw [List.append_nil] at h3
    exact h3.mono hc hs
  refine ⟨U, ?_, .threw T.heap.size, hrun, hend, Or.inr ⟨T.heap.size, rfl, cls, ce, locs, hx U hWs.alike f1 (fun q hq => f2 q hq (fun z hz => nomatch hz)), hce, hOv, hcl, hWs, hall, hf⟩⟩
  refine st1 _ ?_
  show Steps p.tables e below (T1.setTop { method := m, pc := pc + 3, locals := ls, stack := .ref T.heap.size :: rest, locked := none }) _
  jvm_step X₁.here [X₁.here.top, hexec, d3', Value.category]
  exact X₁.ldcStringW hexec (own := own) (text := text) (index := is) (a := sa) hown' hstr'.1 hstr'.2
    (g := { method := m, pc := pc + 4, locals := ls, stack := .ref T.heap.size :: .ref T.heap.size :: rest, locked := none }) rfl d4' _ hsteps
end NXB
abbrev rxN : ByteArray := prog_18_method_4_code
theorem rxN_0 : decode rxN 0 = .ok (.aload_n 0, 1) := by decide +kernel
theorem rxN_1 : decode rxN 1 = .ok (.aload_n 1, 1) := by decide +kernel
theorem rxN_2 : decode rxN 2 = .ok (.invokespecial 13, 3) := by decide +kernel
theorem rxN_5 : decode rxN 5 = .ok (.return_, 1) := by decide +kernel
abbrev NSE : String := "java/util/NoSuchElementException"
noncomputable def nxL : List Cond := nx_at RX9 454 "java/util/NoSuchElementException" 13 rxN ["java/lang/RuntimeException", "java/lang/Exception"]
noncomputable def nxB : List Cond := [.castable NSE NSE, .declares ⟨"java/lang/RuntimeException", "<init>", "(Ljava/lang/String;)V"⟩, .declares ⟨"java/lang/Exception", "<init>", "(Ljava/lang/String;)V"⟩, .declares ⟨"java/lang/Throwable", "<init>", "(Ljava/lang/String;)V"⟩]
/-- the words of the throw that aren't good ones: they go along by themselves -/
abbrev NWX (U : State) : Prop := va_Nw (.castable NSE NSE) U ∧ va_Nw (.declares ⟨"java/lang/RuntimeException", "<init>", "(Ljava/lang/String;)V"⟩) U ∧ va_Nw (.declares ⟨"java/lang/Exception", "<init>", "(Ljava/lang/String;)V"⟩) U ∧ va_Nw (.declares ⟨"java/lang/Throwable", "<init>", "(Ljava/lang/String;)V"⟩) U
theorem NWX_warm {s U : State} (hW : s.WarmedH U.vm) (h : NWX s) : NWX U := ⟨va_Nw.warmC hW h.1, va_Nw.warmD hW h.2.1, va_Nw.warmD hW h.2.2.1, va_Nw.warmD hW h.2.2.2⟩
theorem NWX_same {u U : State} (hv : u.vm = U.vm) (h : NWX u) : NWX U := ⟨va_Nw.same rfl hv h.1, va_Nw.same rfl hv h.2.1, va_Nw.same rfl hv h.2.2.1, va_Nw.same rfl hv h.2.2.2⟩
theorem NWX_use {args : Array Value} {U : State} (h : NWX U) : ∀ w ∈ nxB, w.before args U = true := vx_c (va_Nw.use rfl h.1) (vx_c (va_Nw.use rfl h.2.1) (vx_c (va_Nw.use rfl h.2.2.1) (vx_c (va_Nw.use rfl h.2.2.2) vx_n)))
set_option maxRecDepth 20000 in
theorem nxL_rest : ∀ w ∈ nxL.filter (fun w => !goodWord w), w ∈ nxB := by decide +kernel
set_option maxRecDepth 20000 in
theorem nxL_ot : ∀ w ∈ Cond.classLink RX9 450 NSE :: Cond.initialized NSE :: nxL, vx_ot w = true := by decide +kernel
set_option maxRecDepth 20000 in
theorem nxL_in : ∀ w ∈ nxL.filter goodWord, w ∈ lw_tbl := by decide +kernel

noncomputable def wsE9l : List Cond := [.classLink RX9 450 NSE, .initialized NSE, .fieldLink RX9 67 "FondsRoom" "events" "LFondsRoom$Events;", .methodLink RX9 447 yX2_hasEntry, .instanceMethod yX2_hasEntry, .selects RX2 yX2_hasEntry yX2_hasEntry, .initialized RX2, .code yX2_hasEntry cX2_hasEntry 3 (some .boolean), .fieldLink RX2 15 "FondsRoom$Events" "size" "I", .methodLink RX9 457 yX2_entry, .instanceMethod yX2_entry, .selects RX2 yX2_entry yX2_entry, .code yX2_entry cX2_entry 3 (some .int), .fieldLink RX2 11 "FondsRoom$Events" "rows" "[I", .methodLink RX2 19 yX2_hasEntry]
noncomputable def wsE9 : List Cond := .code yX9_event cX9_event 3 (some .int) :: (wsE9l ++ wsX90 ++ wsX20 ++ nxL.filter goodWord)
noncomputable def wsLEl : List Cond := [.classLink RL 13 NSE, .methodLink RL 7 yX9_event, .instanceMethod yX9_event, .selects RX9 yX9_event yX9_event, .initialized RX9]
noncomputable def wsLE : List Cond := .codeWith yL_event cL_event 5 (some .int) [(0, 10, 13, 13)] :: (wsLEl ++ wsE9)
theorem iE9_9 : ∀ w ∈ wsX90, w ∈ wsE9 := fun _ h => List.mem_cons_of_mem _ (List.mem_append_left _ (List.mem_append_left _ (List.mem_append_right _ h)))
theorem iE9_2 : ∀ w ∈ wsX20, w ∈ wsE9 := fun _ h => List.mem_cons_of_mem _ (List.mem_append_left _ (List.mem_append_right _ h))
theorem iE9_l : ∀ w ∈ wsE9l, w ∈ wsE9 := fun _ h => List.mem_cons_of_mem _ (List.mem_append_left _ (List.mem_append_left _ (List.mem_append_left _ h)))
theorem iE9_n : ∀ w ∈ nxL.filter goodWord, w ∈ wsE9 := fun _ h => List.mem_cons_of_mem _ (List.mem_append_right _ h)
set_option maxRecDepth 20000 in
theorem gE9_hasEntry : GoodIn wsE9 (wsV RX9 447 RX2 yX2_hasEntry wsX2_hasEntry) := goodIn_app (goodIn_sub (fun w h => iE9_l w ((by decide +kernel : ∀ w ∈ ([.methodLink RX9 447 yX2_hasEntry, .instanceMethod yX2_hasEntry, .selects RX2 yX2_hasEntry yX2_hasEntry, .initialized RX2] : List Cond), w ∈ wsE9l) w h)) (by decide +kernel)) (fun w h => (List.mem_cons.mp h).elim (fun e => ⟨by rw [e]; exact iE9_l _ (by decide +kernel), good_of_word (by rw [e]; decide +kernel)⟩) (fun h => (List.mem_append.mp h).elim (fun h => goodIn_sub (big := wsE9) (ws := [.fieldLink RX2 15 "FondsRoom$Events" "size" "I"]) (fun w h => iE9_l w ((by decide +kernel : ∀ w ∈ ([.fieldLink RX2 15 "FondsRoom$Events" "size" "I"] : List Cond), w ∈ wsE9l) w h)) (by decide +kernel) w h) (fun h => goodIn_sub iE9_2 (by decide +kernel) w h)))
noncomputable def wsEel : List Cond := [.fieldLink RX2 11 "FondsRoom$Events" "rows" "[I", .methodLink RX2 19 yX2_hasEntry, .instanceMethod yX2_hasEntry, .selects RX2 yX2_hasEntry yX2_hasEntry, .initialized RX2, .code yX2_hasEntry cX2_hasEntry 3 (some .boolean), .fieldLink RX2 15 "FondsRoom$Events" "size" "I"]
set_option maxRecDepth 20000 in
theorem gE9_entry : GoodIn wsE9 (wsV RX9 457 RX2 yX2_entry wsX2_entry) := goodIn_app (goodIn_sub (fun w h => iE9_l w ((by decide +kernel : ∀ w ∈ ([.methodLink RX9 457 yX2_entry, .instanceMethod yX2_entry, .selects RX2 yX2_entry yX2_entry, .initialized RX2] : List Cond), w ∈ wsE9l) w h)) (by decide +kernel)) (fun w h => (List.mem_cons.mp h).elim (fun e => ⟨by rw [e]; exact iE9_l _ (by decide +kernel), good_of_word (by rw [e]; decide +kernel)⟩) (fun h => (List.mem_append.mp h).elim (fun h => goodIn_sub (big := wsE9) (ws := wsEel) (fun w h => iE9_l w ((by decide +kernel : ∀ w ∈ wsEel, w ∈ wsE9l) w h)) (by decide +kernel) w h) (fun h => goodIn_sub iE9_2 (by decide +kernel) w h)))
theorem wsE9_good : wsE9.all goodWord = true := by
  have h1 : (Cond.code yX9_event cX9_event 3 (some .int) :: (wsE9l ++ wsX90 ++ wsX20)).all goodWord = true := by decide +kernel
  have h2 : (nxL.filter goodWord).all goodWord = true := by
    rw [List.all_eq_true]
    intro w hw
    exact (List.mem_filter.mp hw).2
  show (Cond.code yX9_event cX9_event 3 (some .int) :: (wsE9l ++ wsX90 ++ wsX20 ++ nxL.filter goodWord)).all goodWord = true
  rw [List.all_cons, List.all_append, h2, Bool.and_true, ← List.all_cons]
  exact h1
theorem wsLE_e9 : ∀ w ∈ wsE9, w ∈ wsLE := fun _ h => List.mem_cons_of_mem _ (List.mem_append_right _ h)
theorem wsLE_l : ∀ w ∈ wsLEl, w ∈ wsLE := fun _ h => List.mem_cons_of_mem _ (List.mem_append_left _ h)
set_option maxRecDepth 20000 in
theorem gLE_event : GoodIn wsLE (wsV RL 7 RX9 yX9_event wsE9) := goodIn_app (goodIn_sub (fun w h => wsLE_l w ((by decide +kernel : ∀ w ∈ ([.methodLink RL 7 yX9_event, .instanceMethod yX9_event, .selects RX9 yX9_event yX9_event, .initialized RX9] : List Cond), w ∈ wsLEl) w h)) (by decide +kernel)) (goodIn_sub wsLE_e9 wsE9_good)
/-- what a throw needs of the statics, the text and the tables -/
abbrev EVX (A : Nat → Prop) (sa : Nat) (U : State) : Prop := vx_Zq Bundle.tN "UNASSIGNED_STACK" Bundle.steD A U U.heap ∧ vx_Zq Bundle.tN "SUPPRESSED_SENTINEL" Bundle.listD A U U.heap ∧ vk_R RX9 452 "no such event" sa U ∧ NWX U
theorem EVX_warm {A : Nat → Prop} {sa : Nat} {s U : State} (hW : s.WarmedH U.vm) (hz : vx_Zq Bundle.tN "UNASSIGNED_STACK" Bundle.steD A s U.heap) (hz2 : vx_Zq Bundle.tN "SUPPRESSED_SENTINEL" Bundle.listD A s U.heap) (h3 : vk_R RX9 452 "no such event" sa s) (h4 : NWX s) : EVX A sa U := ⟨vx_Zq.moved hW.alike hz, vx_Zq.moved hW.alike hz2, vk_R.warm hW h3, NWX_warm hW h4⟩
abbrev PWe (D : va_G) (TY : List (ClassId × FieldType)) (W0 : va_W) (sz sa : Nat) (av : List Value) : Array Value → State → Prop := va_Pc av (fun U => U.heap.size = sz ∧ va_P D vwCl W0 U.heap ∧ va_K D vwCl TY U ∧ va_D (fun _ => True) W0 ∧ EVX (va_A W0 sz) sa U)
theorem PWe_blind {D : va_G} {TY : List (ClassId × FieldType)} {W0 : va_W} {sz sa : Nat} {av : List Value} : FrameBlind (PWe D TY W0 sz sa av) := fun a U g mk h => by
  obtain ⟨h1, h2, h3, h4, h5, h6, h7, h8, h9⟩ := h
  exact ⟨h1, h2, h3, va_K.moved (u := U) (U := U.calling g mk a) (Vm.Alike.refl U.vm) h4, h5, vx_Zq.moved (Vm.Alike.refl U.vm) h6, vx_Zq.moved (Vm.Alike.refl U.vm) h7, vk_R.same rfl h8, NWX_same rfl h9⟩
set_option maxHeartbeats 4000000 in
set_option maxRecDepth 100000 in
theorem mX9_event (l : Launch) (hls : l.stackTraces = false) (D : va_G) (x : Nat → Nat) (cy : Nat → ClassId) (g : Nat → Nat → Option Nat) (L : List Nat) (K : Nat → Nat) (cf : Nat → Nat → Nat) (nm : Nat → Int32) (hG : GO L K g) (hL : PL L K cf) (C : CS) (hT : WT L K C.2) (hE : ∀ v wt, (∃ x, gX2_hasEntry g cf nm C v wt = some x) ∧ ∃ x, gX2_entry g cf nm C v wt = some x) (sz sa : Nat) (v wt : Int32) : vx_Met l yX9_event wsE9 ({ frames := 6, cells := 1, slots := 6, locals := 82 }) (PWe D (TYS cy) (ZW x cy g C ++ va_pl L (pf cy K cf nm C)) sz sa [.ref (x 0), .int v, .int wt]) (va_Qi (fun (_ : Int32) (_ : Unit) => True) (BU D (TYS cy) (ZW x cy g C ++ va_pl L (pf cy K cf nm C)) (fun _ => ZW x cy g C ++ va_pl L (pf cy K cf nm C)) sz) (va_A (ZW x cy g C ++ va_pl L (pf cy K cf nm C)) sz)) (vx_X (fun (_ : Unit) => True) (fun E _ t => E = NSE ∧ va_P D vwCl (ZW x cy g C ++ va_pl L (pf cy K cf nm C)) t.heap) (va_A (ZW x cy g C ++ va_pl L (pf cy K cf nm C)) sz)) 1 6 (va_A (ZW x cy g C ++ va_pl L (pf cy K cf nm C)) sz) := by
  refine vx_ofW (cc := cX9_event) (maxL := 3) (ret := some .int) (by decide) rfl ?_
  intro p e s m args below meth c s₁ B hml htab hv
  obtain ⟨rfl, hsz, hP, hK, hD0, hZU, hZN, hstr, hcast⟩ := hv
  have hx := B.exec
  have hb := B.bytes
  have hr := B.returns
  have hts := atoms_spec (ws := wsE9) B.pre
  have hown : s.vm.findClass RX9 = some m.cls := findClass_of_methodNamed B.named
  have hlocks := B.notSynchronized
  subst hsz
  have hD := hD0.self (sz := s.heap.size)
  have hA : ∀ q9 : Nat, s.heap.size ≤ q9 → va_A (ZW x cy g C ++ va_pl L (pf cy K cf nm C)) s.heap.size q9 := fun q9 h => Or.inr h
  have hS : va_S (va_A (ZW x cy g C ++ va_pl L (pf cy K cf nm C)) s.heap.size) s.heap s.heap [] := va_S.rf
  have hl := lv_entry ([.ref (x 0), .int v, .int wt]) (n := 3) (Nat.le_of_ble_eq_true rfl)
  rw [lg_entry_eq]
  generalize (lg_sl ([.ref (x 0), .int v, .int wt]) ++ List.replicate (3 - (lg_sl ([.ref (x 0), .int v, .int wt])).length) Slot.unset).toArray = ls at hl ⊢
  have hl : lv_has ls 3 [(0, .ref (x 0)), (1, .int v), (2, .int wt)] := hl
  refine lv_aload_n hx hb dX9_event_0 rfl (lv_at hl 0 rfl) ?_
  refine va_get (D := D) (ci := 9) (v := .ref (x 18)) (C := RX9) (T := TX9) (N := 19) hx hb hts iE9_9 hown hK hP 0 rfl rfl 9 (by decide) (hts (.fieldLink RX9 67 "FondsRoom" "events" "LFondsRoom$Events;") (iE9_l _ (by decide +kernel))) (fun _ h9 => h9) rfl dX9_event_1 ?_
  refine lv_iload_n hx hb dX9_event_4 rfl (lv_at hl 1 rfl) ?_
  refine lv_iload_n hx hb dX9_event_5 rfl (lv_at hl 2 rfl) ?_
  refine gvI (As := [.int v, .int wt]) (rest := []) ⟨hx, hb, hml, hown, hts⟩ (zX2_hasEntry l D x cy g L K cf nm hG hL C hT _ v wt _ (hE v wt).1.choose_spec) (cwV 2 hts gE9_hasEntry rfl rfl rfl (by decide +kernel) ⟨Nat.le_of_ble_eq_true rfl, Nat.le_of_ble_eq_true rfl⟩) hK hP hD hS hA (va_recv hK hP (ci := 2) (q0 := 18) rfl rfl) rfl hl.1 rfl (Nat.le_of_ble_eq_true rfl) dX9_event_6 ⟨Nat.le_of_ble_eq_true rfl, Nat.le_of_ble_eq_true rfl⟩ (fun r1 u1 H locs hr1 hP hD hS => ?_)
  have hP : va_P D vwCl (ZW x cy g C ++ va_pl L (pf cy K cf nm C)) H := hP
  have hD : va_D _ (ZW x cy g C ++ va_pl L (pf cy K cf nm C)) := hD
  refine lv_if_ne (tgt := 23) hx hb dX9_event_9 (by decide) (fun c9 => ?_) (fun c9 => ?_)
  · refine lv_aload_n hx hb dX9_event_23 rfl (lv_at hl 0 rfl) ?_
    refine va_get (D := D) (ci := 9) (v := .ref (x 18)) (C := RX9) (T := TX9) (N := 19) hx hb hts iE9_9 hown hK hP 0 rfl rfl 9 (by decide) (hts (.fieldLink RX9 67 "FondsRoom" "events" "LFondsRoom$Events;") (iE9_l _ (by decide +kernel))) (fun _ h9 => h9) rfl dX9_event_24 ?_
    refine lv_iload_n hx hb dX9_event_27 rfl (lv_at hl 1 rfl) ?_
    refine lv_iload_n hx hb dX9_event_28 rfl (lv_at hl 2 rfl) ?_
    refine gvI (As := [.int v, .int wt]) (rest := []) ⟨hx, hb, hml, hown, hts⟩ (zX2_entry l D x cy g L K cf nm hG hL C hT _ v wt _ (hE v wt).2.choose_spec) (cwV 2 hts gE9_entry rfl rfl rfl (by decide +kernel) ⟨Nat.le_of_ble_eq_true rfl, Nat.le_of_ble_eq_true rfl⟩) hK hP hD hS hA (va_recv hK hP (ci := 2) (q0 := 18) rfl rfl) rfl hl.1 rfl (Nat.le_of_ble_eq_true rfl) dX9_event_29 ⟨Nat.le_of_ble_eq_true rfl, Nat.le_of_ble_eq_true rfl⟩ (fun r2 u2 H locs hr2 hP hD hS => ?_)
    have hP : va_P D vwCl (ZW x cy g C ++ va_pl L (pf cy K cf nm C)) H := hP
    have hD : va_D (va_A (ZW x cy g C ++ va_pl L (pf cy K cf nm C)) s.heap.size) (ZW x cy g C ++ va_pl L (pf cy K cf nm C)) := hD
    refine W.widen (k := 1) (n := 6) (Nat.le_of_ble_eq_true rfl) (Nat.le_of_ble_eq_true rfl) ?_
    exact vx_ret (W.iret (v := r2) hx hb hr (fun t ht hW => ⟨⟨r2, (), rfl, trivial, by rw [ht]; exact hP, va_K.moved hW.alike hK, hD⟩, hS.F ht⟩) hS.2.2 dX9_event_32)
  · have hat : ∀ w ∈ nxL, w.before #[.ref (x 0), .int v, .int wt] s = true := vx_hat (L := nxL) (B := nxB) (fun w h => hts w (iE9_n w h)) nxL_rest (NWX_use hcast)
    exact nx_throw (ix := 13) (rx := rxN) hx hb hls rxN_0 rxN_1 rxN_2 rxN_5 (own := RX9) (cls := NSE) (names := ["java/lang/RuntimeException", "java/lang/Exception"]) (ik := 450) (is := 452) (ic := 454) (text := "no such event") (sa := sa) (A := va_A (ZW x cy g C ++ va_pl L (pf cy K cf nm C)) s.heap.size) hown (by decide +kernel) (by decide +kernel) (hts (.classLink RX9 450 NSE) (iE9_l _ (by decide +kernel))) (hts (.initialized NSE) (iE9_l _ (by decide +kernel))) hstr hat nxL_ot hZU hZN hS (hl.1.trans hml.symm) dX9_event_12 dX9_event_15 dX9_event_16 dX9_event_19 dX9_event_22 (fun x hx => (htab x hx).elim) (Nat.le_of_ble_eq_true rfl) (Nat.le_of_ble_eq_true rfl) (Nat.le_of_ble_eq_true rfl) (Nat.le_of_ble_eq_true rfl) hlocks (fun t _ hz hk9 => ⟨(), trivial, ⟨rfl, fun k9 q9 hq9 => (hP k9 q9 hq9).kept (hk9 q9.1 (hP k9 q9 hq9).lt)⟩, Nat.le_trans hS.1 hz, fun q9 h1 h2 => (hk9 q9 (Nat.lt_of_lt_of_le h1 hS.1)).trans (hS.2.1 q9 h1 h2)⟩) hS.2.2 (by omega) (by omega)
abbrev TYL (cy : Nat → ClassId) (co : ClassId) : List (ClassId × FieldType) := TYS cy ++ [(co, .long)]
set_option maxHeartbeats 4000000 in
set_option maxRecDepth 100000 in
theorem mL_event (l : Launch) (hls : l.stackTraces = false) (D : va_G) (x : Nat → Nat) (cy : Nat → ClassId) (g : Nat → Nat → Option Nat) (L : List Nat) (K : Nat → Nat) (cf : Nat → Nat → Nat) (nm : Nat → Int32) (hG : GO L K g) (hL : PL L K cf) (C : CS) (hT : WT L K C.2) (hE : ∀ v wt, (∃ x, gX2_hasEntry g cf nm C v wt = some x) ∧ ∃ x, gX2_entry g cf nm C v wt = some x) (sz sa ao : Nat) (co : ClassId) (fo : Nat → Int64) (v wt : Int32) : Met l yL_event wsLE ({ frames := 7, cells := 1, slots := 6, locals := 104 }) (PWe D (TYL cy co) (OU ao co fo ++ (ZW x cy g C ++ va_pl L (pf cy K cf nm C))) sz sa [.ref (x 0), .int v, .int wt, .ref ao]) (va_Qi (fun (_ : Int32) (_ : Nat → Int64) => True) (BU D (TYL cy co) (OU ao co fo ++ (ZW x cy g C ++ va_pl L (pf cy K cf nm C))) (fun u => OU ao co u ++ (ZW x cy g C ++ va_pl L (pf cy K cf nm C))) sz) (va_A (OU ao co fo ++ (ZW x cy g C ++ va_pl L (pf cy K cf nm C))) sz)) 1 6 (va_A (OU ao co fo ++ (ZW x cy g C ++ va_pl L (pf cy K cf nm C))) sz) := by
  refine va_MetW (cc := cL_event) (maxL := 5) (ret := some .int) (hh := [(0, 10, 13, 13)]) (by decide) rfl ?_
  intro p e s m args below meth c s₁ B hml hv
  obtain ⟨rfl, hsz, hP, hK, hD0, hZU, hZN, hstr, hcast⟩ := hv
  have hx := B.exec
  have hb := B.bytes
  have hr := B.returns
  have hts := atoms_spec (ws := wsLE) B.pre
  have hown : s.vm.findClass RL = some m.cls := findClass_of_methodNamed B.named
  have hlocks := B.notSynchronized
  have htab := vx_table (x := yL_event) B (hts _ List.mem_cons_self)
  subst hsz
  have hKs : va_K D vwCl (TYS cy) s := ⟨hK.1, fun k q hq => hK.2 k q (by rw [List.getElem?_append_left (List.getElem?_eq_some_iff.mp hq).1]; exact hq)⟩
  have hD := hD0.self (sz := s.heap.size)
  have hA : ∀ q9 : Nat, s.heap.size ≤ q9 → va_A (OU ao co fo ++ (ZW x cy g C ++ va_pl L (pf cy K cf nm C))) s.heap.size q9 := fun q9 h => Or.inr h
  have hS : va_S (va_A (OU ao co fo ++ (ZW x cy g C ++ va_pl L (pf cy K cf nm C))) s.heap.size) s.heap s.heap [] := va_S.rf
  have hl := lv_entry ([.ref (x 0), .int v, .int wt, .ref ao]) (n := 5) (Nat.le_of_ble_eq_true rfl)
  rw [lg_entry_eq]
  generalize (lg_sl ([.ref (x 0), .int v, .int wt, .ref ao]) ++ List.replicate (5 - (lg_sl ([.ref (x 0), .int v, .int wt, .ref ao])).length) Slot.unset).toArray = ls at hl ⊢
  have hl : lv_has ls 5 [(0, .ref (x 0)), (1, .int v), (2, .int wt), (3, .ref ao)] := hl
  refine lv_aload_n hx hb dL_event_0 rfl (lv_at hl 3 rfl) ?_
  refine lv_iconst (v := 0) hx hb dL_event_1 (by decide) ?_
  refine lv_aload_n hx hb dL_event_2 rfl (lv_at hl 0 rfl) ?_
  refine lv_iload_n hx hb dL_event_3 rfl (lv_at hl 1 rfl) ?_
  refine lv_iload_n hx hb dL_event_4 rfl (lv_at hl 2 rfl) ?_
  have hPb : va_P D vwCl (ZW x cy g C ++ va_pl L (pf cy K cf nm C)) s.heap := P_b hP
  have hDb : va_D (va_A (OU ao co fo ++ (ZW x cy g C ++ va_pl L (pf cy K cf nm C))) s.heap.size) (ZW x cy g C ++ va_pl L (pf cy K cf nm C)) := D_b hD
  have hFc := F_of hDb hA
  refine vx_calli (vx_runV (As := [.int v, .int wt]) (rest := [.int 0, .ref ao]) ⟨hx, hb, hml, hown, hts⟩ (mX9_event l hls D x cy g L K cf nm hG hL C hT hE _ sa v wt) (cwV 2 hts gLE_event rfl rfl rfl (by decide +kernel) ⟨Nat.le_of_ble_eq_true rfl, Nat.le_of_ble_eq_true rfl⟩) ⟨PWe_blind, va_recv hK hPb (ci := 9) (q0 := 0) rfl rfl, fun U hU hW => ⟨rfl, by rw [hU], by rw [hU]; exact hPb, va_K.moved hW.alike hKs, hDb.weaken (fun _ _ _ _ => trivial), EVX_warm hW (by rw [hU]; exact vx_Zq.narrow hZU hFc) (by rw [hU]; exact vx_Zq.narrow hZN hFc) hstr hcast⟩⟩ rfl rfl hl.1 rfl (lv_room (Nat.le_of_ble_eq_true rfl)) dL_event_5 ⟨Nat.le_of_ble_eq_true rfl, Nat.le_of_ble_eq_true rfl⟩) hS (fun q9 _ h => hFc q9 h) hFc (fun q9 _ h => hFc q9 h) (fun E ce q9 u t H locs ht hvm _ hE9 hz1 hk1 hS hce hcv hcl => ?_) (fun r9 u t H locs ht hvm hr9 hB hz1 hk1 hS => ?_)
  · obtain ⟨rfl, hPt⟩ := hE9
    rw [ht] at hPt
    obtain ⟨hP2, hD2⟩ := half_2 (wa := OU ao co fo) hP hD hk1 hFc hPt hDb.self
    refine vx_catch (own := RL) (name := NSE) (E := NSE) hown [] ⟨0, 10, 13, 13⟩ [] (by rw [htab]; rfl) (fun z hz => by cases hz) (by decide) (by decide) (hts (.classLink RL 13 NSE) (wsLE_l _ (by decide +kernel))) (va_Nw.use rfl hcast.1) hce hcv hcl ?_
    refine lv_astore (lv' := [(4, .ref q9), (0, .ref (x 0)), (1, .int v), (2, .int wt), (3, .ref ao)]) hx hb dL_event_13 hl (by decide) rfl (fun ls hl => ?_)
    refine lv_iconst (v := 1) hx hb dL_event_15 (by decide) ?_
    exact W.iret (v := 1) hx hb hr (fun t ht hW => ⟨⟨1, fo, rfl, trivial, by rw [ht]; exact hP2, va_K.moved hW.alike hK, hD2⟩, hS.F ht⟩) hS.2.2 dL_event_16
  · obtain ⟨hP1, hK1, hD1⟩ := hB
    rw [ht] at hP1
    obtain ⟨hP2, hD2⟩ := half_2 (wa := OU ao co fo) hP hD hk1 hFc hP1 hD1
    refine lv_i2l hx hb dL_event_8 rfl ?_
    refine va_last hx hb hK hP2 hD2 hS 0 6 rfl rfl (vp_in_iff.mpr (by decide)) dL_event_9 (fun H locs hP hD hS => ?_)
    have hP : va_P D vwCl (OU ao co (vp_updL fo (0 : Int32).toNatClampNeg r9.toInt64) ++ (ZW x cy g C ++ va_pl L (pf cy K cf nm C))) H := hP
    have hD : va_D (va_A (OU ao co fo ++ (ZW x cy g C ++ va_pl L (pf cy K cf nm C))) s.heap.size) (OU ao co (vp_updL fo (0 : Int32).toNatClampNeg r9.toInt64) ++ (ZW x cy g C ++ va_pl L (pf cy K cf nm C))) := hD
    refine lv_goto (tgt := 17) hx hb dL_event_10 (by decide) ?_
    refine lv_iconst (v := 0) hx hb dL_event_17 (by decide) ?_
    exact W.iret (v := 0) hx hb hr (fun t ht hW => ⟨⟨0, _, rfl, trivial, by rw [ht]; exact hP, va_K.moved hW.alike hK, hD⟩, hS.F ht⟩) hS.2.2 dL_event_18
theorem gLL_event : GoodIn lw_tbl (va_wsS RL 104 yL_event wsLE) := goodIn_app (goodIn_sub (by decide +kernel) (by decide +kernel)) (fun w h => (List.mem_cons.mp h).elim (fun e => ⟨by rw [e]; decide +kernel, good_of_word (by rw [e]; decide +kernel)⟩) (fun h => (List.mem_append.mp h).elim (fun h => goodIn_sub (big := lw_tbl) (ws := wsLEl) (by decide +kernel) (by decide +kernel) w h) (fun h => (goodIn_sub (big := lw_tbl) (ws := wsE9) (fun w h => (List.mem_cons.mp h).elim (fun e => by rw [e]; decide +kernel) (fun h => (List.mem_append.mp h).elim (fun h => (List.mem_append.mp h).elim (fun h => (List.mem_append.mp h).elim (fun h => (by decide +kernel : ∀ w ∈ wsE9l, w ∈ lw_tbl) w h) (fun h => wi_wsX90 w h)) (fun h => wi_wsX20 w h)) (fun h => nxL_in w h))) wsE9_good) w h)))
