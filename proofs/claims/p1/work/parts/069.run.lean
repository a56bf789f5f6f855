def sp_run (n : Int32) : Int32 := if sp_in n 0 200 = 0 then -1 else n
theorem in200 {n : Int32} (h : ¬ sp_in n 0 200 = 0) : ∃ N : Nat, N ≤ 200 ∧ n = nI N := by
  unfold sp_in at h
  by_cases a : n < 0
  · exact absurd (if_pos a) h
  · rw [if_neg a] at h
    by_cases b : 200 < n
    · exact absurd (if_pos b) h
    · obtain ⟨j, hj, e⟩ := nI_of a
      refine ⟨j, ?_, e⟩
      rw [e, fa_lt, nI_toInt hj] at b
      have k : (200 : Int32).toInt = 200 := by decide
      omega
theorem nI_nm1 {n : Nat} (h : n < 2 ^ 31) : ¬ nI n = -1 := by
  intro e
  rw [fa_eq, nI_toInt h] at e
  have k : (-1 : Int32).toInt = -1 := by decide
  omega
theorem nI_nm1' {n : Nat} (h : n + 1 < 2 ^ 31) : ¬ nI n + 1 = -1 := by
  rw [nI_1]
  exact nI_nm1 h

theorem iX9_run_9 : ∀ w ∈ wsX90, w ∈ wsX9_run := fun _ h => List.mem_cons_of_mem _ (List.mem_append_left _ (List.mem_append_left _ (List.mem_append_left _ (List.mem_append_left _ (List.mem_append_left _ (List.mem_append_left _ (List.mem_append_left _ (List.mem_append_left _ (List.mem_append_left _ (List.mem_append_right _ h))))))))))
set_option maxHeartbeats 4000000 in
set_option maxRecDepth 100000 in
theorem mX9_run (l : Launch) (D : va_G) (q : Nat → Nat) (cy : Nat → ClassId) (g : Nat → Nat → Option Nat) (sz : Nat) (n : Int32) : Met l yX9_run wsX9_run ({ frames := 5, cells := 0, slots := 0, locals := 108 }) (PW D (TYS cy) (FW q cy g 0) sz [.ref (q 0), .int n]) (QI D (TYS cy) (FW q cy g 0) (([] : va_W)) sz (fun r => r = sp_run n)) 0 0 (va_A (FW q cy g 0) sz) := by
  refine Met.ofW (cc := cX9_run) (maxL := 3) (ret := (some .int)) (by decide) rfl ?_
  intro p e s m args below meth c s₁ B hml hv
  obtain ⟨rfl, hsz, hP, hK, hD0⟩ := hv
  have hx := B.exec
  have hb := B.bytes
  have hr := B.returns
  have hts := atoms_spec (ws := wsX9_run) B.pre
  have hown : s.vm.findClass RX9 = some m.cls := findClass_of_methodNamed B.named
  have hlocks := B.notSynchronized
  subst hsz
  have hD := hD0.self (sz := s.heap.size)
  have hA : ∀ q9 : Nat, s.heap.size ≤ q9 → va_A (FW q cy g 0) s.heap.size q9 := fun q9 h => Or.inr h
  have hS : va_S (va_A (FW q cy g 0) s.heap.size) s.heap s.heap [] := va_S.rf
  have hl := lv_entry ([.ref (q 0), .int n]) (n := 3) (Nat.le_of_ble_eq_true rfl)
  rw [lg_entry_eq]
  generalize (lg_sl ([.ref (q 0), .int n]) ++ List.replicate (3 - (lg_sl ([.ref (q 0), .int n])).length) Slot.unset).toArray = ls at hl ⊢
  have hl : lv_has ls 3 [(0, .ref (q 0)), (1, .int n)] := hl
  refine lv_iload_n hx hb dX9_run_0 rfl (lv_at hl 1 rfl) ?_
  refine lv_iconst (v := 0) hx hb dX9_run_1 (by decide) ?_
  refine lv_sipush (v := 200) hx hb dX9_run_2 (by decide) ?_
  refine csI (As := [.int n, .int 0, .int 200]) (rest := []) ⟨hx, hb, hml, hown, hts⟩ (mX9_isWithin l D _ n 0 200) (va_cwS 3 hts gX9_run_X9_isWithin rfl rfl rfl (by decide +kernel) ⟨Nat.le_of_ble_eq_true rfl, Nat.le_of_ble_eq_true rfl⟩) hK hP hS hA rfl hl.1 rfl (Nat.le_of_ble_eq_true rfl) dX9_run_5 ⟨Nat.le_of_ble_eq_true rfl, Nat.le_of_ble_eq_true rfl⟩ (fun r1 H locs hr1 hP hS => ?_)
  obtain rfl : r1 = sp_in n 0 200 := hr1
  refine lv_if_ne (tgt := 13) hx hb dX9_run_8 (by decide) (fun c2 => ?_) (fun c2 => ?_)
  · skip
    refine lv_iconst (v := 0) hx hb dX9_run_13 (by decide) ?_
    refine lv_istore_n (lv' := [(2, .int 0), (0, .ref (q 0)), (1, .int n)]) hx hb dX9_run_14 rfl hl (by decide) rfl (fun ls hl => ?_)
    obtain ⟨N, hN, rfl⟩ := in200 c2
    have key : ∀ (k i : Nat), i + k = N → ∀ (H : Heap) (locs : List Loc) (ls : Array Slot), va_P D vwCl (FW q cy g (nI i)) H → va_D (va_A (FW q cy g 0) s.heap.size) (FW q cy g (nI i)) → va_S (va_A (FW q cy g 0) s.heap.size) s.heap H locs → lv_has ls 3 [(2, .int (nI i)), (0, .ref (q 0)), (1, .int (nI N))] → W p l e (headSpec wsX9_run ({ frames := 5, cells := 0, slots := 0, locals := 108 })).room s m #[.ref (q 0), .int (nI N)] below meth c H locs 0 0 (MQ below (QI D (TYS cy) (FW q cy g 0) ([] : va_W) s.heap.size (fun r => r = sp_run (nI N))) #[.ref (q 0), .int (nI N)] s 0 0 (va_A (FW q cy g 0) s.heap.size)) (F0 m 15 ls []) := by
      intro k
      induction k with
      | zero =>
        intro i hi H locs ls hP hD hS hl
        obtain rfl : i = N := by omega
        refine lv_iload_n hx hb dX9_run_15 rfl (lv_at hl 0 rfl) ?_
        refine lv_iload_n hx hb dX9_run_16 rfl (lv_at hl 2 rfl) ?_
        refine lv_icmp_ge (tgt := 30) hx hb dX9_run_17 (by decide) (fun _ => ?_) (fun c9 => absurd (Int32.le_refl _) c9)
        refine lv_aload_n hx hb dX9_run_30 rfl (lv_at hl 1 rfl) ?_
        refine va_get (D := D) (ci := 9) (v := .int (nI i)) (C := RX9) (T := TX9) (N := 19) hx hb hts iX9_run_9 hown hK hP 0 rfl rfl 14 (by decide) (hts (.fieldLink RX9 78 "FondsRoom" "turn" "I") (by decide +kernel)) (fun _ h9 => h9) rfl dX9_run_31 ?_
        exact W.iret (v := (nI i)) hx hb hr (fun t ht hW => ⟨⟨(nI i), (), rfl, (by show _ = sp_run _; unfold sp_run; rw [if_neg c2]), by rw [ht]; exact P0, va_K.moved hW.alike hK, D0⟩, hS.F ht⟩) hS.2.2 dX9_run_34
      | succ k ih =>
        intro i hi H locs ls hP hD hS hl
        refine lv_iload_n hx hb dX9_run_15 rfl (lv_at hl 0 rfl) ?_
        refine lv_iload_n hx hb dX9_run_16 rfl (lv_at hl 2 rfl) ?_
        refine lv_icmp_ge (tgt := 30) hx hb dX9_run_17 (by decide) (fun c9 => absurd c9 (nI_ge (a := i) (b := N) (by omega) (by omega))) (fun _ => ?_)
        refine lv_aload_n hx hb dX9_run_20 rfl (lv_at hl 1 rfl) ?_
        refine cvV (wr := []) (As := []) (rest := []) ⟨hx, hb, hml, hown, hts⟩ (mX9_passTurn l D q cy g (nI i) _  (nI_nm1' (by omega))) (cwV 0 hts gX9_run_X9_passTurn rfl rfl rfl (by decide +kernel) ⟨Nat.le_of_ble_eq_true rfl, Nat.le_of_ble_eq_true rfl⟩) hK hP hD hS hA [0, 1, 2, 3, 4, 5, 6, 7, 8, 9, 10, 11, 12, 13, 14, 15, 16, 17, 18, 19, 20, 21] [] rfl rfl (by decide) (by decide) (by decide) 0 9 rfl rfl rfl hl.1 rfl (Nat.le_of_ble_eq_true rfl) dX9_run_21 ⟨Nat.le_of_ble_eq_true rfl, Nat.le_of_ble_eq_true rfl⟩ (fun H locs hP hD hS => ?_)
        have hP : va_P D vwCl (FW q cy g ((nI i) + 1)) H := hP
        have hD : va_D _ (FW q cy g ((nI i) + 1)) := hD
        refine lv_iinc (v := nI (i + 1)) (lv' := [(2, .int (nI (i + 1))), (0, .ref (q 0)), (1, .int (nI N))]) hx hb dX9_run_24 hl (k := 0) rfl (by rw [← nI_1 i]; rfl) (by decide) rfl (fun ls hl => ?_)
        refine lv_goto (tgt := 15) hx hb dX9_run_27 (by decide) ?_
        rw [nI_1 i] at hP hD
        exact ih (i + 1) (by omega) H locs ls hP hD hS (lv_sub hl [0, 1, 2] rfl)
    exact key N 0 (by omega) _ _ _ hP hD hS (lv_sub hl [0, 1, 2] rfl)
  · skip
    refine lv_iconst (v := (-1)) hx hb dX9_run_11 (by decide) ?_
    exact W.iret (v := (-1)) hx hb hr (fun t ht hW => ⟨⟨(-1), (), rfl, (by show _ = sp_run _; unfold sp_run; rw [if_pos c2]), by rw [ht]; exact P0, va_K.moved hW.alike hK, D0⟩, hS.F ht⟩) hS.2.2 dX9_run_12

theorem iX10_run_10 : ∀ w ∈ wsX100, w ∈ wsX10_run := fun _ h => List.mem_cons_of_mem _ (List.mem_append_right _ h)
set_option maxHeartbeats 4000000 in
set_option maxRecDepth 100000 in
theorem mX10_run (l : Launch) (D : va_G) (z : Nat → Nat) (cy : Nat → ClassId) (sz : Nat) (n : Int32) : Met l yX10_run wsX10_run ({ frames := 3, cells := 0, slots := 0, locals := 69 }) (PW D (TYS cy) (MW z cy 0) sz [.ref (z 58), .int n]) (QI D (TYS cy) (MW z cy 0) (([] : va_W)) sz (fun r => r = sp_run n)) 0 0 (va_A (MW z cy 0) sz) := by
  refine Met.ofW (cc := cX10_run) (maxL := 3) (ret := (some .int)) (by decide) rfl ?_
  intro p e s m args below meth c s₁ B hml hv
  obtain ⟨rfl, hsz, hP, hK, hD0⟩ := hv
  have hx := B.exec
  have hb := B.bytes
  have hr := B.returns
  have hts := atoms_spec (ws := wsX10_run) B.pre
  have hown : s.vm.findClass RX10 = some m.cls := findClass_of_methodNamed B.named
  have hlocks := B.notSynchronized
  subst hsz
  have hD := hD0.self (sz := s.heap.size)
  have hA : ∀ q9 : Nat, s.heap.size ≤ q9 → va_A (MW z cy 0) s.heap.size q9 := fun q9 h => Or.inr h
  have hS : va_S (va_A (MW z cy 0) s.heap.size) s.heap s.heap [] := va_S.rf
  have hl := lv_entry ([.ref (z 58), .int n]) (n := 3) (Nat.le_of_ble_eq_true rfl)
  rw [lg_entry_eq]
  generalize (lg_sl ([.ref (z 58), .int n]) ++ List.replicate (3 - (lg_sl ([.ref (z 58), .int n])).length) Slot.unset).toArray = ls at hl ⊢
  have hl : lv_has ls 3 [(0, .ref (z 58)), (1, .int n)] := hl
  refine lv_aload_n hx hb dX10_run_0 rfl (lv_at hl 0 rfl) ?_
  refine lv_iconst (v := 0) hx hb dX10_run_1 (by decide) ?_
  refine va_put (D := D) (ci := 10) (v := .int 0) (ty := .int) (C := RX10) (T := TX10) (N := 58) hx hb hts iX10_run_10 tyX10 tyX10_ok nmX10 hown hK hP hD hS 0 rfl rfl 0 (by decide) (hts (.fieldLink RX10 150 "FondsRoomModel" "thrown" "I") (by decide +kernel)) (fun _ h9 => h9) rfl (by decide +kernel) rfl rfl (Nat.le_of_ble_eq_true rfl) dX10_run_2 (fun H locs hP hD hS => ?_)
  have hP : va_P D vwCl (MW z cy 0) H := hP
  have hD : va_D _ (MW z cy 0) := hD
  refine lv_iload_n hx hb dX10_run_5 rfl (lv_at hl 1 rfl) ?_
  refine lv_iconst (v := 0) hx hb dX10_run_6 (by decide) ?_
  refine lv_sipush (v := 200) hx hb dX10_run_7 (by decide) ?_
  refine csI (As := [.int n, .int 0, .int 200]) (rest := []) ⟨hx, hb, hml, hown, hts⟩ (mX10_in l D _ n 0 200) (va_cwS 3 hts gX10_run_X10_in rfl rfl rfl (by decide +kernel) ⟨Nat.le_of_ble_eq_true rfl, Nat.le_of_ble_eq_true rfl⟩) hK hP hS hA rfl hl.1 rfl (Nat.le_of_ble_eq_true rfl) dX10_run_10 ⟨Nat.le_of_ble_eq_true rfl, Nat.le_of_ble_eq_true rfl⟩ (fun r1 H locs hr1 hP hS => ?_)
  obtain rfl : r1 = sp_in n 0 200 := hr1
  refine lv_if_ne (tgt := 18) hx hb dX10_run_13 (by decide) (fun c2 => ?_) (fun c2 => ?_)
  · skip
    refine lv_iconst (v := 0) hx hb dX10_run_18 (by decide) ?_
    refine lv_istore_n (lv' := [(2, .int 0), (0, .ref (z 58)), (1, .int n)]) hx hb dX10_run_19 rfl hl (by decide) rfl (fun ls hl => ?_)
    obtain ⟨N, hN, rfl⟩ := in200 c2
    have key : ∀ (k i : Nat), i + k = N → ∀ (H : Heap) (locs : List Loc) (ls : Array Slot), va_P D vwCl (MW z cy (nI i)) H → va_D (va_A (MW z cy 0) s.heap.size) (MW z cy (nI i)) → va_S (va_A (MW z cy 0) s.heap.size) s.heap H locs → lv_has ls 3 [(2, .int (nI i)), (0, .ref (z 58)), (1, .int (nI N))] → W p l e (headSpec wsX10_run ({ frames := 3, cells := 0, slots := 0, locals := 69 })).room s m #[.ref (z 58), .int (nI N)] below meth c H locs 0 0 (MQ below (QI D (TYS cy) (MW z cy 0) ([] : va_W) s.heap.size (fun r => r = sp_run (nI N))) #[.ref (z 58), .int (nI N)] s 0 0 (va_A (MW z cy 0) s.heap.size)) (F0 m 20 ls []) := by
      intro k
      induction k with
      | zero =>
        intro i hi H locs ls hP hD hS hl
        obtain rfl : i = N := by omega
        refine lv_iload_n hx hb dX10_run_20 rfl (lv_at hl 0 rfl) ?_
        refine lv_iload_n hx hb dX10_run_21 rfl (lv_at hl 2 rfl) ?_
        refine lv_icmp_ge (tgt := 35) hx hb dX10_run_22 (by decide) (fun _ => ?_) (fun c9 => absurd (Int32.le_refl _) c9)
        refine lv_aload_n hx hb dX10_run_35 rfl (lv_at hl 1 rfl) ?_
        refine va_get (D := D) (ci := 10) (v := .int (nI i)) (C := RX10) (T := TX10) (N := 58) hx hb hts iX10_run_10 hown hK hP 0 rfl rfl 4 (by decide) (hts (.fieldLink RX10 163 "FondsRoomModel" "turn" "I") (by decide +kernel)) (fun _ h9 => h9) rfl dX10_run_36 ?_
        exact W.iret (v := (nI i)) hx hb hr (fun t ht hW => ⟨⟨(nI i), (), rfl, (by show _ = sp_run _; unfold sp_run; rw [if_neg c2]), by rw [ht]; exact P0, va_K.moved hW.alike hK, D0⟩, hS.F ht⟩) hS.2.2 dX10_run_39
      | succ k ih =>
        intro i hi H locs ls hP hD hS hl
        refine lv_iload_n hx hb dX10_run_20 rfl (lv_at hl 0 rfl) ?_
        refine lv_iload_n hx hb dX10_run_21 rfl (lv_at hl 2 rfl) ?_
        refine lv_icmp_ge (tgt := 35) hx hb dX10_run_22 (by decide) (fun c9 => absurd c9 (nI_ge (a := i) (b := N) (by omega) (by omega))) (fun _ => ?_)
        refine lv_aload_n hx hb dX10_run_25 rfl (lv_at hl 1 rfl) ?_
        refine cvV (wr := []) (As := []) (rest := []) ⟨hx, hb, hml, hown, hts⟩ (mX10_oneTurn l D z cy (nI i) _  (nI_nm1' (by omega))) (cwV 0 hts gX10_run_X10_oneTurn rfl rfl rfl (by decide +kernel) ⟨Nat.le_of_ble_eq_true rfl, Nat.le_of_ble_eq_true rfl⟩) hK hP hD hS hA [0, 1, 2, 3, 4, 5, 6, 7, 8, 9, 10, 11, 12, 13, 14, 15, 16] [] rfl rfl (by decide) (by decide) (by decide) 0 10 rfl rfl rfl hl.1 rfl (Nat.le_of_ble_eq_true rfl) dX10_run_26 ⟨Nat.le_of_ble_eq_true rfl, Nat.le_of_ble_eq_true rfl⟩ (fun H locs hP hD hS => ?_)
        have hP : va_P D vwCl (MW z cy ((nI i) + 1)) H := hP
        have hD : va_D _ (MW z cy ((nI i) + 1)) := hD
        refine lv_iinc (v := nI (i + 1)) (lv' := [(2, .int (nI (i + 1))), (0, .ref (z 58)), (1, .int (nI N))]) hx hb dX10_run_29 hl (k := 0) rfl (by rw [← nI_1 i]; rfl) (by decide) rfl (fun ls hl => ?_)
        refine lv_goto (tgt := 20) hx hb dX10_run_32 (by decide) ?_
        rw [nI_1 i] at hP hD
        exact ih (i + 1) (by omega) H locs ls hP hD hS (lv_sub hl [0, 1, 2] rfl)
    exact key N 0 (by omega) _ _ _ hP hD hS (lv_sub hl [0, 1, 2] rfl)
  · skip
    refine lv_iconst (v := (-1)) hx hb dX10_run_16 (by decide) ?_
    exact W.iret (v := (-1)) hx hb hr (fun t ht hW => ⟨⟨(-1), (), rfl, (by show _ = sp_run _; unfold sp_run; rw [if_pos c2]), by rw [ht]; exact P0, va_K.moved hW.alike hK, D0⟩, hS.F ht⟩) hS.2.2 dX10_run_17
