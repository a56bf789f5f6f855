theorem iX10_doCopies_10 : ∀ w ∈ wsX100, w ∈ wsX10_doCopies := fun _ h => List.mem_cons_of_mem _ (List.mem_append_right _ h)
set_option maxHeartbeats 8000000 in
set_option maxRecDepth 100000 in
theorem zX10_doCopies (l : Launch) (D : va_G) (y : Nat → Nat) (cy : Nat → ClassId) (S0 : RS) (sz : Nat) (Sf : RS) (hF : gX10_doCopies S0  = some Sf) : Met l yX10_doCopies wsX10_doCopies ({ frames := 1, cells := 0, slots := 0, locals := 23 }) (PW D (TYS cy) (YW y cy S0) sz [.ref (y 0)]) (va_Qv (fun (u : Unit) => True) (BU D (TYS cy) (YW y cy S0) (fun _ => YW y cy Sf) sz) (va_A (YW y cy S0) sz)) 0 0 (va_A (YW y cy S0) sz) := by
  refine Met.ofW (cc := cX10_doCopies) (maxL := 5) (ret := none) (by decide) rfl ?_
  intro p e s m args below meth c s₁ B hml hv
  obtain ⟨rfl, hsz, hP, hK, hD0⟩ := hv
  have hx := B.exec
  have hb := B.bytes
  have hr := B.returns
  have hts := atoms_spec (ws := wsX10_doCopies) B.pre
  have hown : s.vm.findClass RX10 = some m.cls := findClass_of_methodNamed B.named
  have hlocks := B.notSynchronized
  subst hsz
  have hD := hD0.self (sz := s.heap.size)
  have hA : ∀ q9 : Nat, s.heap.size ≤ q9 → va_A (YW y cy S0) s.heap.size q9 := fun q9 h => Or.inr h
  have hS : va_S (va_A (YW y cy S0) s.heap.size) s.heap s.heap [] := va_S.rf
  have key2 : ∀ (K : RS → Option (RS)), (∀  (S : RS) (H : Heap) (locs : List Loc) (ls : Array Slot), K  S = some Sf → va_P D vwCl (YW y cy S) H → va_D (va_A (YW y cy S0) s.heap.size) (YW y cy S) → va_S (va_A (YW y cy S0) s.heap.size) s.heap H locs → lv_has ls 5 [] → W p l e (headSpec wsX10_doCopies ({ frames := 1, cells := 0, slots := 0, locals := 23 })).room s m #[.ref (y 0)] below meth c H locs 0 0 (MQ below (va_Qv (fun (u : Unit) => True) (BU D (TYS cy) (YW y cy S0) (fun _ => YW y cy Sf) s.heap.size) (va_A (YW y cy S0) s.heap.size)) #[.ref (y 0)] s 0 0 (va_A (YW y cy S0) s.heap.size)) (F0 m 133 ls [])) → ∀ (fu : Nat) (v1 : Int32) (S : RS) (H : Heap) (locs : List Loc) (ls : Array Slot), gX10_doCopies_2 K fu v1 S = some Sf → va_P D vwCl (YW y cy S) H → va_D (va_A (YW y cy S0) s.heap.size) (YW y cy S) → va_S (va_A (YW y cy S0) s.heap.size) s.heap H locs → lv_has ls 5 [(1, .int v1), (0, .ref (y 0))] → W p l e (headSpec wsX10_doCopies ({ frames := 1, cells := 0, slots := 0, locals := 23 })).room s m #[.ref (y 0)] below meth c H locs 0 0 (MQ below (va_Qv (fun (u : Unit) => True) (BU D (TYS cy) (YW y cy S0) (fun _ => YW y cy Sf) s.heap.size) (va_A (YW y cy S0) s.heap.size)) #[.ref (y 0)] s 0 0 (va_A (YW y cy S0) s.heap.size)) (F0 m 2 ls []) := by
    intro K hKK fu
    induction fu with
    | zero =>
      intro v1 S H locs ls hF
      exact absurd (show (none : Option (RS)) = some Sf from hF) (by simp)
    | succ fu2 ih2 =>
      intro v1 S H locs ls hF hP hD hS hl
      rw [gX10_doCopies_2] at hF
      refine lv_iload_n hx hb dX10_doCopies_2 rfl (lv_at hl 0 rfl) ?_
      refine lv_aload_n hx hb dX10_doCopies_3 rfl (lv_at hl 1 rfl) ?_
      refine va_get (D := D) (ci := 10) (v := .int (S 0 8)) (C := RX10) (T := TX10) (N := 58) hx hb hts iX10_doCopies_10 hown hK hP 0 rfl rfl 8 (by decide) (hts (.fieldLink RX10 19 "FondsRoomModel" "copyists" "I") (List.mem_of_getElem? (i := 1) rfl)) (fun _ h9 => h9) rfl dX10_doCopies_4 ?_
      refine lv_icmp_ge (tgt := 133) hx hb dX10_doCopies_7 (by decide) (fun c1 => ?_) (fun c1 => ?_)
      · skip
        have hF := (if_pos c1).symm.trans hF
        exact hKK  S _ _ _ hF hP hD hS (lv_sub hl [] rfl)
      · skip
        have hF := (if_neg c1).symm.trans hF
        refine lv_aload_n hx hb dX10_doCopies_10 rfl (lv_at hl 1 rfl) ?_
        refine va_get (D := D) (ci := 10) (v := .ref (y 33)) (C := RX10) (T := TX10) (N := 58) hx hb hts iX10_doCopies_10 hown hK hP 0 rfl rfl 45 (by decide) (hts (.fieldLink RX10 120 "FondsRoomModel" "cBox" "[I") (List.mem_of_getElem? (i := 2) rfl)) (fun _ h9 => h9) rfl dX10_doCopies_11 ?_
        refine lv_iload_n hx hb dX10_doCopies_14 rfl (lv_at hl 0 rfl) ?_
        obtain ⟨hi3, hF⟩ := ld_s hF
        refine va_iald hx hb hK hP 33 0 rfl rfl hi3 dX10_doCopies_15 ?_
        refine lv_topi (fun y2 ey2 => ?_)
        replace hF := hF y2 ey2
        refine lv_iconst (v := (-1)) hx hb dX10_doCopies_16 (by decide) ?_
        refine lv_icmp_eq (tgt := 23) hx hb dX10_doCopies_17 (by decide) (fun c4 => ?_) (fun c4 => ?_)
        · skip
          have hF := (if_pos c4).symm.trans hF
          refine lv_aload_n hx hb dX10_doCopies_23 rfl (lv_at hl 1 rfl) ?_
          refine lv_iconst (v := 1) hx hb dX10_doCopies_24 (by decide) ?_
          obtain ⟨r5, hq8, hF⟩ := bd1_s hF
          refine gvI (As := [.int 1]) (rest := []) ⟨hx, hb, hml, hown, hts⟩ (zX10_copyBox l D y cy S _ 1 r5 hq8) (cwV 1 hts gX10_doCopies_X10_copyBox rfl rfl rfl (by decide +kernel) ⟨Nat.le_of_ble_eq_true rfl, Nat.le_of_ble_eq_true rfl⟩) hK hP hD hS hA (va_recv hK hP (ci := 10) (q0 := 0) rfl rfl) rfl hl.1 rfl (Nat.le_of_ble_eq_true rfl) dX10_doCopies_25 ⟨Nat.le_of_ble_eq_true rfl, Nat.le_of_ble_eq_true rfl⟩ (fun a9 u9 H locs hw7 hP hD hS => ?_)
          have hP : va_P D vwCl (YW y cy S) H := hP
          have hD : va_D _ (YW y cy S) := hD
          refine lv_tov (v' := .int r5) (congrArg Value.int hw7) ?_
          refine lv_istore_n (lv' := [(2, .int r5), (1, .int v1), (0, .ref (y 0))]) hx hb dX10_doCopies_28 rfl hl (by decide) rfl (fun ls hl => ?_)
          refine lv_aload_n hx hb dX10_doCopies_29 rfl (lv_at hl 2 rfl) ?_
          refine lv_iconst (v := 0) hx hb dX10_doCopies_30 (by decide) ?_
          obtain ⟨r10, hq13, hF⟩ := bd1_s hF
          refine gvI (As := [.int 0]) (rest := []) ⟨hx, hb, hml, hown, hts⟩ (zX10_copyBox l D y cy S _ 0 r10 hq13) (cwV 1 hts gX10_doCopies_X10_copyBox rfl rfl rfl (by decide +kernel) ⟨Nat.le_of_ble_eq_true rfl, Nat.le_of_ble_eq_true rfl⟩) hK hP hD hS hA (va_recv hK hP (ci := 10) (q0 := 0) rfl rfl) rfl hl.1 rfl (Nat.le_of_ble_eq_true rfl) dX10_doCopies_31 ⟨Nat.le_of_ble_eq_true rfl, Nat.le_of_ble_eq_true rfl⟩ (fun a14 u9 H locs hw12 hP hD hS => ?_)
          have hP : va_P D vwCl (YW y cy S) H := hP
          have hD : va_D _ (YW y cy S) := hD
          refine lv_tov (v' := .int r10) (congrArg Value.int hw12) ?_
          refine lv_istore_n (lv' := [(3, .int r10), (2, .int r5), (1, .int v1), (0, .ref (y 0))]) hx hb dX10_doCopies_34 rfl hl (by decide) rfl (fun ls hl => ?_)
          refine lv_iload_n hx hb dX10_doCopies_35 rfl (lv_at hl 1 rfl) ?_
          refine lv_iconst (v := (-1)) hx hb dX10_doCopies_36 (by decide) ?_
          refine lv_icmp_eq (tgt := 53) hx hb dX10_doCopies_37 (by decide) (fun c15 => ?_) (fun c15 => ?_)
          · skip
            have hF := (if_pos c15).symm.trans hF
            refine lv_iload_n hx hb dX10_doCopies_53 rfl (lv_at hl 0 rfl) ?_
            refine lv_goto (tgt := 58) hx hb dX10_doCopies_54 (by decide) ?_
            refine lv_istore (lv' := [(4, .int r10), (3, .int r10), (2, .int r5), (1, .int v1), (0, .ref (y 0))]) hx hb dX10_doCopies_58 hl (by decide) rfl (fun ls hl => ?_)
            refine lv_iload hx hb dX10_doCopies_60 (lv_at hl 0 rfl) ?_
            refine lv_iconst (v := (-1)) hx hb dX10_doCopies_62 (by decide) ?_
            refine lv_icmp_ne (tgt := 69) hx hb dX10_doCopies_63 (by decide) (fun c16 => ?_) (fun c16 => ?_)
            · skip
              have hF := (if_neg c16).symm.trans hF
              refine lv_aload_n hx hb dX10_doCopies_69 rfl (lv_at hl 4 rfl) ?_
              refine lv_aload_n hx hb dX10_doCopies_70 rfl (lv_at hl 4 rfl) ?_
              refine va_get (D := D) (ci := 10) (v := .ref (y 11)) (C := RX10) (T := TX10) (N := 58) hx hb hts iX10_doCopies_10 hown hK hP 0 rfl rfl 19 (by decide) (hts (.fieldLink RX10 54 "FondsRoomModel" "isUrgent" "[Z") (List.mem_of_getElem? (i := 4) rfl)) (fun _ h9 => h9) rfl dX10_doCopies_71 ?_
              refine lv_iload hx hb dX10_doCopies_74 (lv_at hl 0 rfl) ?_
              obtain ⟨hi18, hF⟩ := ld_s hF
              refine va_zald hx hb hK hP 11 1 rfl rfl hi18 dX10_doCopies_76 ?_
              refine lv_topi (fun y17 ey17 => ?_)
              replace hF := hF y17 ey17
              refine lv_if_eq (tgt := 93) hx hb dX10_doCopies_77 (by decide) (fun c19 => ?_) (fun c19 => ?_)
              · skip
                have hF := (if_pos c19).symm.trans hF
                refine lv_iconst (v := 0) hx hb dX10_doCopies_93 (by decide) ?_
                refine va_put (D := D) (ci := 10) (v := .int 0) (ty := .int) (C := RX10) (T := TX10) (N := 58) hx hb hts iX10_doCopies_10 tyX10 tyX10_ok nmX10 hown hK hP hD hS 0 rfl rfl 23 (by decide) (hts (.fieldLink RX10 257 "FondsRoomModel" "urgentRun" "I") (List.mem_of_getElem? (i := 3) rfl)) (fun _ h9 => h9) rfl (by decide +kernel) rfl rfl (Nat.le_of_ble_eq_true rfl) dX10_doCopies_94 (fun H locs hP hD hS => ?_)
                obtain ⟨S20, eS20⟩ : ∃ z, z = wr S 0 23 0 := ⟨_, rfl⟩
                replace hF := bnd_s hF S20 eS20
                have hP : va_P D vwCl (YW y cy S20) H := by rw [eS20]; exact hP
                have hD : va_D (va_A (YW y cy S0) s.heap.size) (YW y cy S20) := by rw [eS20]; exact hD
                refine lv_aload_n hx hb dX10_doCopies_97 rfl (lv_at hl 4 rfl) ?_
                refine va_get (D := D) (ci := 10) (v := .ref (y 5)) (C := RX10) (T := TX10) (N := 58) hx hb hts iX10_doCopies_10 hown hK hP 0 rfl rfl 13 (by decide) (hts (.fieldLink RX10 36 "FondsRoomModel" "place" "[I") (List.mem_of_getElem? (i := 9) rfl)) (fun _ h9 => h9) rfl dX10_doCopies_98 ?_
                refine lv_iload hx hb dX10_doCopies_101 (lv_at hl 0 rfl) ?_
                refine lv_bipush (v := 6) hx hb dX10_doCopies_103 (by decide) ?_
                obtain ⟨hi21, hF⟩ := sv_s hF
                refine va_iast hx hb hK hP hD hS 5 0 rfl rfl hi21 dX10_doCopies_105 (fun H locs hP hD hS => ?_)
                obtain ⟨S22, eS22⟩ : ∃ z, z = wr S20 5 (r10 : Int32).toNatClampNeg 6 := ⟨_, rfl⟩
                replace hF := hF S22 eS22
                have hP : va_P D vwCl (YW y cy S22) H := by rw [eS22]; exact hP
                have hD : va_D (va_A (YW y cy S0) s.heap.size) (YW y cy S22) := by rw [eS22]; exact hD
                refine lv_aload_n hx hb dX10_doCopies_106 rfl (lv_at hl 4 rfl) ?_
                refine va_get (D := D) (ci := 10) (v := .ref (y 33)) (C := RX10) (T := TX10) (N := 58) hx hb hts iX10_doCopies_10 hown hK hP 0 rfl rfl 45 (by decide) (hts (.fieldLink RX10 120 "FondsRoomModel" "cBox" "[I") (List.mem_of_getElem? (i := 2) rfl)) (fun _ h9 => h9) rfl dX10_doCopies_107 ?_
                refine lv_iload_n hx hb dX10_doCopies_110 rfl (lv_at hl 3 rfl) ?_
                refine lv_iload hx hb dX10_doCopies_111 (lv_at hl 0 rfl) ?_
                obtain ⟨hi23, hF⟩ := sv_s hF
                refine va_iast hx hb hK hP hD hS 33 0 rfl rfl hi23 dX10_doCopies_113 (fun H locs hP hD hS => ?_)
                obtain ⟨S24, eS24⟩ : ∃ z, z = wr S22 33 (v1 : Int32).toNatClampNeg r10 := ⟨_, rfl⟩
                replace hF := hF S24 eS24
                have hP : va_P D vwCl (YW y cy S24) H := by rw [eS24]; exact hP
                have hD : va_D (va_A (YW y cy S0) s.heap.size) (YW y cy S24) := by rw [eS24]; exact hD
                refine lv_aload_n hx hb dX10_doCopies_114 rfl (lv_at hl 4 rfl) ?_
                refine va_get (D := D) (ci := 10) (v := .ref (y 34)) (C := RX10) (T := TX10) (N := 58) hx hb hts iX10_doCopies_10 hown hK hP 0 rfl rfl 46 (by decide) (hts (.fieldLink RX10 123 "FondsRoomModel" "cLeft" "[I") (List.mem_of_getElem? (i := 10) rfl)) (fun _ h9 => h9) rfl dX10_doCopies_115 ?_
                refine lv_iload_n hx hb dX10_doCopies_118 rfl (lv_at hl 3 rfl) ?_
                refine lv_aload_n hx hb dX10_doCopies_119 rfl (lv_at hl 4 rfl) ?_
                refine va_get (D := D) (ci := 10) (v := .ref (y 10)) (C := RX10) (T := TX10) (N := 58) hx hb hts iX10_doCopies_10 hown hK hP 0 rfl rfl 18 (by decide) (hts (.fieldLink RX10 51 "FondsRoomModel" "pages" "[I") (List.mem_of_getElem? (i := 11) rfl)) (fun _ h9 => h9) rfl dX10_doCopies_120 ?_
                refine lv_iload hx hb dX10_doCopies_123 (lv_at hl 0 rfl) ?_
                obtain ⟨hi26, hF⟩ := ld_s hF
                refine va_iald hx hb hK hP 10 0 rfl rfl hi26 dX10_doCopies_125 ?_
                refine lv_topi (fun y25 ey25 => ?_)
                replace hF := hF y25 ey25
                obtain ⟨hi27, hF⟩ := sv_s hF
                refine va_iast hx hb hK hP hD hS 34 0 rfl rfl hi27 dX10_doCopies_126 (fun H locs hP hD hS => ?_)
                obtain ⟨S28, eS28⟩ : ∃ z, z = wr S24 34 (v1 : Int32).toNatClampNeg y25 := ⟨_, rfl⟩
                replace hF := hF S28 eS28
                have hP : va_P D vwCl (YW y cy S28) H := by rw [eS28]; exact hP
                have hD : va_D (va_A (YW y cy S0) s.heap.size) (YW y cy S28) := by rw [eS28]; exact hD
                refine lv_iinc (v := v1 + 1) (lv' := [(1, .int (v1 + 1)), (4, .int r10), (3, .int r10), (2, .int r5), (0, .ref (y 0))]) hx hb dX10_doCopies_127 hl (k := 3) rfl rfl (by decide) rfl (fun ls hl => ?_)
                refine lv_goto (tgt := 2) hx hb dX10_doCopies_130 (by decide) ?_
                exact ih2 (v1 + 1) S28 _ _ _ hF hP hD hS (lv_sub hl [0, 4] rfl)
              · skip
                have hF := (if_neg c19).symm.trans hF
                refine lv_iconst (v := 3) hx hb dX10_doCopies_80 (by decide) ?_
                refine lv_aload_n hx hb dX10_doCopies_81 rfl (lv_at hl 4 rfl) ?_
                refine va_get (D := D) (ci := 10) (v := .int (S 0 23)) (C := RX10) (T := TX10) (N := 58) hx hb hts iX10_doCopies_10 hown hK hP 0 rfl rfl 23 (by decide) (hts (.fieldLink RX10 257 "FondsRoomModel" "urgentRun" "I") (List.mem_of_getElem? (i := 3) rfl)) (fun _ h9 => h9) rfl dX10_doCopies_82 ?_
                refine lv_iconst (v := 1) hx hb dX10_doCopies_85 (by decide) ?_
                refine lv_iadd hx hb dX10_doCopies_86 ?_
                refine va_mmin hx hb (hml.trans hl.1.symm) hown (hts (.methodLink RX10 260 Lib.Math.min.name) (List.mem_of_getElem? (i := 5) rfl)) (hts (.static Lib.Math.min.name) (List.mem_of_getElem? (i := 6) rfl)) (hts (.initialized "java/lang/Math") (List.mem_of_getElem? (i := 7) rfl)) (hts (.code Lib.Math.min.name Lib.Math.min.code 2 (some .int)) (List.mem_of_getElem? (i := 8) rfl)) (Nat.le_of_ble_eq_true rfl) (Nat.le_of_ble_eq_true rfl) (Nat.le_of_ble_eq_true rfl) (Nat.le_of_ble_eq_true rfl) dX10_doCopies_87 ?_
                refine lv_topi (fun y29 ey29 => ?_)
                replace hF := bnd_s hF y29 ey29
                refine lv_goto (tgt := 94) hx hb dX10_doCopies_90 (by decide) ?_
                refine va_put (D := D) (ci := 10) (v := .int y29) (ty := .int) (C := RX10) (T := TX10) (N := 58) hx hb hts iX10_doCopies_10 tyX10 tyX10_ok nmX10 hown hK hP hD hS 0 rfl rfl 23 (by decide) (hts (.fieldLink RX10 257 "FondsRoomModel" "urgentRun" "I") (List.mem_of_getElem? (i := 3) rfl)) (fun _ h9 => h9) rfl (by decide +kernel) rfl rfl (Nat.le_of_ble_eq_true rfl) dX10_doCopies_94 (fun H locs hP hD hS => ?_)
                obtain ⟨S30, eS30⟩ : ∃ z, z = wr S 0 23 y29 := ⟨_, rfl⟩
                replace hF := bnd_s hF S30 eS30
                have hP : va_P D vwCl (YW y cy S30) H := by rw [eS30]; exact hP
                have hD : va_D (va_A (YW y cy S0) s.heap.size) (YW y cy S30) := by rw [eS30]; exact hD
                refine lv_aload_n hx hb dX10_doCopies_97 rfl (lv_at hl 4 rfl) ?_
                refine va_get (D := D) (ci := 10) (v := .ref (y 5)) (C := RX10) (T := TX10) (N := 58) hx hb hts iX10_doCopies_10 hown hK hP 0 rfl rfl 13 (by decide) (hts (.fieldLink RX10 36 "FondsRoomModel" "place" "[I") (List.mem_of_getElem? (i := 9) rfl)) (fun _ h9 => h9) rfl dX10_doCopies_98 ?_
                refine lv_iload hx hb dX10_doCopies_101 (lv_at hl 0 rfl) ?_
                refine lv_bipush (v := 6) hx hb dX10_doCopies_103 (by decide) ?_
                obtain ⟨hi31, hF⟩ := sv_s hF
                refine va_iast hx hb hK hP hD hS 5 0 rfl rfl hi31 dX10_doCopies_105 (fun H locs hP hD hS => ?_)
                obtain ⟨S32, eS32⟩ : ∃ z, z = wr S30 5 (r10 : Int32).toNatClampNeg 6 := ⟨_, rfl⟩
                replace hF := hF S32 eS32
                have hP : va_P D vwCl (YW y cy S32) H := by rw [eS32]; exact hP
                have hD : va_D (va_A (YW y cy S0) s.heap.size) (YW y cy S32) := by rw [eS32]; exact hD
                refine lv_aload_n hx hb dX10_doCopies_106 rfl (lv_at hl 4 rfl) ?_
                refine va_get (D := D) (ci := 10) (v := .ref (y 33)) (C := RX10) (T := TX10) (N := 58) hx hb hts iX10_doCopies_10 hown hK hP 0 rfl rfl 45 (by decide) (hts (.fieldLink RX10 120 "FondsRoomModel" "cBox" "[I") (List.mem_of_getElem? (i := 2) rfl)) (fun _ h9 => h9) rfl dX10_doCopies_107 ?_
                refine lv_iload_n hx hb dX10_doCopies_110 rfl (lv_at hl 3 rfl) ?_
                refine lv_iload hx hb dX10_doCopies_111 (lv_at hl 0 rfl) ?_
                obtain ⟨hi33, hF⟩ := sv_s hF
                refine va_iast hx hb hK hP hD hS 33 0 rfl rfl hi33 dX10_doCopies_113 (fun H locs hP hD hS => ?_)
                obtain ⟨S34, eS34⟩ : ∃ z, z = wr S32 33 (v1 : Int32).toNatClampNeg r10 := ⟨_, rfl⟩
                replace hF := hF S34 eS34
                have hP : va_P D vwCl (YW y cy S34) H := by rw [eS34]; exact hP
                have hD : va_D (va_A (YW y cy S0) s.heap.size) (YW y cy S34) := by rw [eS34]; exact hD
                refine lv_aload_n hx hb dX10_doCopies_114 rfl (lv_at hl 4 rfl) ?_
                refine va_get (D := D) (ci := 10) (v := .ref (y 34)) (C := RX10) (T := TX10) (N := 58) hx hb hts iX10_doCopies_10 hown hK hP 0 rfl rfl 46 (by decide) (hts (.fieldLink RX10 123 "FondsRoomModel" "cLeft" "[I") (List.mem_of_getElem? (i := 10) rfl)) (fun _ h9 => h9) rfl dX10_doCopies_115 ?_
                refine lv_iload_n hx hb dX10_doCopies_118 rfl (lv_at hl 3 rfl) ?_
                refine lv_aload_n hx hb dX10_doCopies_119 rfl (lv_at hl 4 rfl) ?_
                refine va_get (D := D) (ci := 10) (v := .ref (y 10)) (C := RX10) (T := TX10) (N := 58) hx hb hts iX10_doCopies_10 hown hK hP 0 rfl rfl 18 (by decide) (hts (.fieldLink RX10 51 "FondsRoomModel" "pages" "[I") (List.mem_of_getElem? (i := 11) rfl)) (fun _ h9 => h9) rfl dX10_doCopies_120 ?_
                refine lv_iload hx hb dX10_doCopies_123 (lv_at hl 0 rfl) ?_
                obtain ⟨hi36, hF⟩ := ld_s hF
                refine va_iald hx hb hK hP 10 0 rfl rfl hi36 dX10_doCopies_125 ?_
                refine lv_topi (fun y35 ey35 => ?_)
                replace hF := hF y35 ey35
                obtain ⟨hi37, hF⟩ := sv_s hF
                refine va_iast hx hb hK hP hD hS 34 0 rfl rfl hi37 dX10_doCopies_126 (fun H locs hP hD hS => ?_)
                obtain ⟨S38, eS38⟩ : ∃ z, z = wr S34 34 (v1 : Int32).toNatClampNeg y35 := ⟨_, rfl⟩
                replace hF := hF S38 eS38
                have hP : va_P D vwCl (YW y cy S38) H := by rw [eS38]; exact hP
                have hD : va_D (va_A (YW y cy S0) s.heap.size) (YW y cy S38) := by rw [eS38]; exact hD
                refine lv_iinc (v := v1 + 1) (lv' := [(1, .int (v1 + 1)), (4, .int r10), (3, .int r10), (2, .int r5), (0, .ref (y 0))]) hx hb dX10_doCopies_127 hl (k := 3) rfl rfl (by decide) rfl (fun ls hl => ?_)
                refine lv_goto (tgt := 2) hx hb dX10_doCopies_130 (by decide) ?_
                exact ih2 (v1 + 1) S38 _ _ _ hF hP hD hS (lv_sub hl [0, 4] rfl)
            · skip
              have hF := (if_pos c16).symm.trans hF
              refine lv_goto (tgt := 127) hx hb dX10_doCopies_66 (by decide) ?_
              refine lv_iinc (v := v1 + 1) (lv' := [(1, .int (v1 + 1)), (4, .int r10), (3, .int r10), (2, .int r5), (0, .ref (y 0))]) hx hb dX10_doCopies_127 hl (k := 3) rfl rfl (by decide) rfl (fun ls hl => ?_)
              refine lv_goto (tgt := 2) hx hb dX10_doCopies_130 (by decide) ?_
              exact ih2 (v1 + 1) S _ _ _ hF hP hD hS (lv_sub hl [0, 4] rfl)
          · skip
            have hF := (if_neg c15).symm.trans hF
            refine lv_aload_n hx hb dX10_doCopies_40 rfl (lv_at hl 3 rfl) ?_
            refine va_get (D := D) (ci := 10) (v := .int (S 0 23)) (C := RX10) (T := TX10) (N := 58) hx hb hts iX10_doCopies_10 hown hK hP 0 rfl rfl 23 (by decide) (hts (.fieldLink RX10 257 "FondsRoomModel" "urgentRun" "I") (List.mem_of_getElem? (i := 3) rfl)) (fun _ h9 => h9) rfl dX10_doCopies_41 ?_
            refine lv_iconst (v := 3) hx hb dX10_doCopies_44 (by decide) ?_
            refine lv_icmp_ne (tgt := 57) hx hb dX10_doCopies_45 (by decide) (fun c39 => ?_) (fun c39 => ?_)
            · skip
              have hF := (if_neg c39).symm.trans hF
              refine lv_iload_n hx hb dX10_doCopies_57 rfl (lv_at hl 1 rfl) ?_
              refine lv_istore (lv' := [(4, .int r5), (3, .int r10), (2, .int r5), (1, .int v1), (0, .ref (y 0))]) hx hb dX10_doCopies_58 hl (by decide) rfl (fun ls hl => ?_)
              refine lv_iload hx hb dX10_doCopies_60 (lv_at hl 0 rfl) ?_
              refine lv_iconst (v := (-1)) hx hb dX10_doCopies_62 (by decide) ?_
              refine lv_icmp_ne (tgt := 69) hx hb dX10_doCopies_63 (by decide) (fun c40 => ?_) (fun c40 => ?_)
              · skip
                have hF := (if_neg c40).symm.trans hF
                refine lv_aload_n hx hb dX10_doCopies_69 rfl (lv_at hl 4 rfl) ?_
                refine lv_aload_n hx hb dX10_doCopies_70 rfl (lv_at hl 4 rfl) ?_
                refine va_get (D := D) (ci := 10) (v := .ref (y 11)) (C := RX10) (T := TX10) (N := 58) hx hb hts iX10_doCopies_10 hown hK hP 0 rfl rfl 19 (by decide) (hts (.fieldLink RX10 54 "FondsRoomModel" "isUrgent" "[Z") (List.mem_of_getElem? (i := 4) rfl)) (fun _ h9 => h9) rfl dX10_doCopies_71 ?_
                refine lv_iload hx hb dX10_doCopies_74 (lv_at hl 0 rfl) ?_
                obtain ⟨hi42, hF⟩ := ld_s hF
                refine va_zald hx hb hK hP 11 1 rfl rfl hi42 dX10_doCopies_76 ?_
                refine lv_topi (fun y41 ey41 => ?_)
                replace hF := hF y41 ey41
                refine lv_if_eq (tgt := 93) hx hb dX10_doCopies_77 (by decide) (fun c43 => ?_) (fun c43 => ?_)
                · skip
                  have hF := (if_pos c43).symm.trans hF
                  refine lv_iconst (v := 0) hx hb dX10_doCopies_93 (by decide) ?_
                  refine va_put (D := D) (ci := 10) (v := .int 0) (ty := .int) (C := RX10) (T := TX10) (N := 58) hx hb hts iX10_doCopies_10 tyX10 tyX10_ok nmX10 hown hK hP hD hS 0 rfl rfl 23 (by decide) (hts (.fieldLink RX10 257 "FondsRoomModel" "urgentRun" "I") (List.mem_of_getElem? (i := 3) rfl)) (fun _ h9 => h9) rfl (by decide +kernel) rfl rfl (Nat.le_of_ble_eq_true rfl) dX10_doCopies_94 (fun H locs hP hD hS => ?_)
                  obtain ⟨S44, eS44⟩ : ∃ z, z = wr S 0 23 0 := ⟨_, rfl⟩
                  replace hF := bnd_s hF S44 eS44
                  have hP : va_P D vwCl (YW y cy S44) H := by rw [eS44]; exact hP
                  have hD : va_D (va_A (YW y cy S0) s.heap.size) (YW y cy S44) := by rw [eS44]; exact hD
                  refine lv_aload_n hx hb dX10_doCopies_97 rfl (lv_at hl 4 rfl) ?_
                  refine va_get (D := D) (ci := 10) (v := .ref (y 5)) (C := RX10) (T := TX10) (N := 58) hx hb hts iX10_doCopies_10 hown hK hP 0 rfl rfl 13 (by decide) (hts (.fieldLink RX10 36 "FondsRoomModel" "place" "[I") (List.mem_of_getElem? (i := 9) rfl)) (fun _ h9 => h9) rfl dX10_doCopies_98 ?_
                  refine lv_iload hx hb dX10_doCopies_101 (lv_at hl 0 rfl) ?_
                  refine lv_bipush (v := 6) hx hb dX10_doCopies_103 (by decide) ?_
                  obtain ⟨hi45, hF⟩ := sv_s hF
                  refine va_iast hx hb hK hP hD hS 5 0 rfl rfl hi45 dX10_doCopies_105 (fun H locs hP hD hS => ?_)
                  obtain ⟨S46, eS46⟩ : ∃ z, z = wr S44 5 (r5 : Int32).toNatClampNeg 6 := ⟨_, rfl⟩
                  replace hF := hF S46 eS46
                  have hP : va_P D vwCl (YW y cy S46) H := by rw [eS46]; exact hP
                  have hD : va_D (va_A (YW y cy S0) s.heap.size) (YW y cy S46) := by rw [eS46]; exact hD
                  refine lv_aload_n hx hb dX10_doCopies_106 rfl (lv_at hl 4 rfl) ?_
                  refine va_get (D := D) (ci := 10) (v := .ref (y 33)) (C := RX10) (T := TX10) (N := 58) hx hb hts iX10_doCopies_10 hown hK hP 0 rfl rfl 45 (by decide) (hts (.fieldLink RX10 120 "FondsRoomModel" "cBox" "[I") (List.mem_of_getElem? (i := 2) rfl)) (fun _ h9 => h9) rfl dX10_doCopies_107 ?_
                  refine lv_iload_n hx hb dX10_doCopies_110 rfl (lv_at hl 3 rfl) ?_
                  refine lv_iload hx hb dX10_doCopies_111 (lv_at hl 0 rfl) ?_
                  obtain ⟨hi47, hF⟩ := sv_s hF
                  refine va_iast hx hb hK hP hD hS 33 0 rfl rfl hi47 dX10_doCopies_113 (fun H locs hP hD hS => ?_)
                  obtain ⟨S48, eS48⟩ : ∃ z, z = wr S46 33 (v1 : Int32).toNatClampNeg r5 := ⟨_, rfl⟩
                  replace hF := hF S48 eS48
                  have hP : va_P D vwCl (YW y cy S48) H := by rw [eS48]; exact hP
                  have hD : va_D (va_A (YW y cy S0) s.heap.size) (YW y cy S48) := by rw [eS48]; exact hD
                  refine lv_aload_n hx hb dX10_doCopies_114 rfl (lv_at hl 4 rfl) ?_
                  refine va_get (D := D) (ci := 10) (v := .ref (y 34)) (C := RX10) (T := TX10) (N := 58) hx hb hts iX10_doCopies_10 hown hK hP 0 rfl rfl 46 (by decide) (hts (.fieldLink RX10 123 "FondsRoomModel" "cLeft" "[I") (List.mem_of_getElem? (i := 10) rfl)) (fun _ h9 => h9) rfl dX10_doCopies_115 ?_
                  refine lv_iload_n hx hb dX10_doCopies_118 rfl (lv_at hl 3 rfl) ?_
                  refine lv_aload_n hx hb dX10_doCopies_119 rfl (lv_at hl 4 rfl) ?_
                  refine va_get (D := D) (ci := 10) (v := .ref (y 10)) (C := RX10) (T := TX10) (N := 58) hx hb hts iX10_doCopies_10 hown hK hP 0 rfl rfl 18 (by decide) (hts (.fieldLink RX10 51 "FondsRoomModel" "pages" "[I") (List.mem_of_getElem? (i := 11) rfl)) (fun _ h9 => h9) rfl dX10_doCopies_120 ?_
                  refine lv_iload hx hb dX10_doCopies_123 (lv_at hl 0 rfl) ?_
                  obtain ⟨hi50, hF⟩ := ld_s hF
                  refine va_iald hx hb hK hP 10 0 rfl rfl hi50 dX10_doCopies_125 ?_
                  refine lv_topi (fun y49 ey49 => ?_)
                  replace hF := hF y49 ey49
                  obtain ⟨hi51, hF⟩ := sv_s hF
                  refine va_iast hx hb hK hP hD hS 34 0 rfl rfl hi51 dX10_doCopies_126 (fun H locs hP hD hS => ?_)
                  obtain ⟨S52, eS52⟩ : ∃ z, z = wr S48 34 (v1 : Int32).toNatClampNeg y49 := ⟨_, rfl⟩
                  replace hF := hF S52 eS52
                  have hP : va_P D vwCl (YW y cy S52) H := by rw [eS52]; exact hP
                  have hD : va_D (va_A (YW y cy S0) s.heap.size) (YW y cy S52) := by rw [eS52]; exact hD
                  refine lv_iinc (v := v1 + 1) (lv' := [(1, .int (v1 + 1)), (4, .int r5), (3, .int r10), (2, .int r5), (0, .ref (y 0))]) hx hb dX10_doCopies_127 hl (k := 3) rfl rfl (by decide) rfl (fun ls hl => ?_)
                  refine lv_goto (tgt := 2) hx hb dX10_doCopies_130 (by decide) ?_
                  exact ih2 (v1 + 1) S52 _ _ _ hF hP hD hS (lv_sub hl [0, 4] rfl)
                · skip
                  have hF := (if_neg c43).symm.trans hF
                  refine lv_iconst (v := 3) hx hb dX10_doCopies_80 (by decide) ?_
                  refine lv_aload_n hx hb dX10_doCopies_81 rfl (lv_at hl 4 rfl) ?_
                  refine va_get (D := D) (ci := 10) (v := .int (S 0 23)) (C := RX10) (T := TX10) (N := 58) hx hb hts iX10_doCopies_10 hown hK hP 0 rfl rfl 23 (by decide) (hts (.fieldLink RX10 257 "FondsRoomModel" "urgentRun" "I") (List.mem_of_getElem? (i := 3) rfl)) (fun _ h9 => h9) rfl dX10_doCopies_82 ?_
                  refine lv_iconst (v := 1) hx hb dX10_doCopies_85 (by decide) ?_
                  refine lv_iadd hx hb dX10_doCopies_86 ?_
                  refine va_mmin hx hb (hml.trans hl.1.symm) hown (hts (.methodLink RX10 260 Lib.Math.min.name) (List.mem_of_getElem? (i := 5) rfl)) (hts (.static Lib.Math.min.name) (List.mem_of_getElem? (i := 6) rfl)) (hts (.initialized "java/lang/Math") (List.mem_of_getElem? (i := 7) rfl)) (hts (.code Lib.Math.min.name Lib.Math.min.code 2 (some .int)) (List.mem_of_getElem? (i := 8) rfl)) (Nat.le_of_ble_eq_true rfl) (Nat.le_of_ble_eq_true rfl) (Nat.le_of_ble_eq_true rfl) (Nat.le_of_ble_eq_true rfl) dX10_doCopies_87 ?_
                  refine lv_topi (fun y53 ey53 => ?_)
                  replace hF := bnd_s hF y53 ey53
                  refine lv_goto (tgt := 94) hx hb dX10_doCopies_90 (by decide) ?_
                  refine va_put (D := D) (ci := 10) (v := .int y53) (ty := .int) (C := RX10) (T := TX10) (N := 58) hx hb hts iX10_doCopies_10 tyX10 tyX10_ok nmX10 hown hK hP hD hS 0 rfl rfl 23 (by decide) (hts (.fieldLink RX10 257 "FondsRoomModel" "urgentRun" "I") (List.mem_of_getElem? (i := 3) rfl)) (fun _ h9 => h9) rfl (by decide +kernel) rfl rfl (Nat.le_of_ble_eq_true rfl) dX10_doCopies_94 (fun H locs hP hD hS => ?_)
                  obtain ⟨S54, eS54⟩ : ∃ z, z = wr S 0 23 y53 := ⟨_, rfl⟩
                  replace hF := bnd_s hF S54 eS54
                  have hP : va_P D vwCl (YW y cy S54) H := by rw [eS54]; exact hP
                  have hD : va_D (va_A (YW y cy S0) s.heap.size) (YW y cy S54) := by rw [eS54]; exact hD
                  refine lv_aload_n hx hb dX10_doCopies_97 rfl (lv_at hl 4 rfl) ?_
                  refine va_get (D := D) (ci := 10) (v := .ref (y 5)) (C := RX10) (T := TX10) (N := 58) hx hb hts iX10_doCopies_10 hown hK hP 0 rfl rfl 13 (by decide) (hts (.fieldLink RX10 36 "FondsRoomModel" "place" "[I") (List.mem_of_getElem? (i := 9) rfl)) (fun _ h9 => h9) rfl dX10_doCopies_98 ?_
                  refine lv_iload hx hb dX10_doCopies_101 (lv_at hl 0 rfl) ?_
                  refine lv_bipush (v := 6) hx hb dX10_doCopies_103 (by decide) ?_
                  obtain ⟨hi55, hF⟩ := sv_s hF
                  refine va_iast hx hb hK hP hD hS 5 0 rfl rfl hi55 dX10_doCopies_105 (fun H locs hP hD hS => ?_)
                  obtain ⟨S56, eS56⟩ : ∃ z, z = wr S54 5 (r5 : Int32).toNatClampNeg 6 := ⟨_, rfl⟩
                  replace hF := hF S56 eS56
                  have hP : va_P D vwCl (YW y cy S56) H := by rw [eS56]; exact hP
                  have hD : va_D (va_A (YW y cy S0) s.heap.size) (YW y cy S56) := by rw [eS56]; exact hD
                  refine lv_aload_n hx hb dX10_doCopies_106 rfl (lv_at hl 4 rfl) ?_
                  refine va_get (D := D) (ci := 10) (v := .ref (y 33)) (C := RX10) (T := TX10) (N := 58) hx hb hts iX10_doCopies_10 hown hK hP 0 rfl rfl 45 (by decide) (hts (.fieldLink RX10 120 "FondsRoomModel" "cBox" "[I") (List.mem_of_getElem? (i := 2) rfl)) (fun _ h9 => h9) rfl dX10_doCopies_107 ?_
                  refine lv_iload_n hx hb dX10_doCopies_110 rfl (lv_at hl 3 rfl) ?_
                  refine lv_iload hx hb dX10_doCopies_111 (lv_at hl 0 rfl) ?_
                  obtain ⟨hi57, hF⟩ := sv_s hF
                  refine va_iast hx hb hK hP hD hS 33 0 rfl rfl hi57 dX10_doCopies_113 (fun H locs hP hD hS => ?_)
                  obtain ⟨S58, eS58⟩ : ∃ z, z = wr S56 33 (v1 : Int32).toNatClampNeg r5 := ⟨_, rfl⟩
                  replace hF := hF S58 eS58
                  have hP : va_P D vwCl (YW y cy S58) H := by rw [eS58]; exact hP
                  have hD : va_D (va_A (YW y cy S0) s.heap.size) (YW y cy S58) := by rw [eS58]; exact hD
                  refine lv_aload_n hx hb dX10_doCopies_114 rfl (lv_at hl 4 rfl) ?_
                  refine va_get (D := D) (ci := 10) (v := .ref (y 34)) (C := RX10) (T := TX10) (N := 58) hx hb hts iX10_doCopies_10 hown hK hP 0 rfl rfl 46 (by decide) (hts (.fieldLink RX10 123 "FondsRoomModel" "cLeft" "[I") (List.mem_of_getElem? (i := 10) rfl)) (fun _ h9 => h9) rfl dX10_doCopies_115 ?_
                  refine lv_iload_n hx hb dX10_doCopies_118 rfl (lv_at hl 3 rfl) ?_
                  refine lv_aload_n hx hb dX10_doCopies_119 rfl (lv_at hl 4 rfl) ?_
                  refine va_get (D := D) (ci := 10) (v := .ref (y 10)) (C := RX10) (T := TX10) (N := 58) hx hb hts iX10_doCopies_10 hown hK hP 0 rfl rfl 18 (by decide) (hts (.fieldLink RX10 51 "FondsRoomModel" "pages" "[I") (List.mem_of_getElem? (i := 11) rfl)) (fun _ h9 => h9) rfl dX10_doCopies_120 ?_
                  refine lv_iload hx hb dX10_doCopies_123 (lv_at hl 0 rfl) ?_
                  obtain ⟨hi60, hF⟩ := ld_s hF
                  refine va_iald hx hb hK hP 10 0 rfl rfl hi60 dX10_doCopies_125 ?_
                  refine lv_topi (fun y59 ey59 => ?_)
                  replace hF := hF y59 ey59
                  obtain ⟨hi61, hF⟩ := sv_s hF
                  refine va_iast hx hb hK hP hD hS 34 0 rfl rfl hi61 dX10_doCopies_126 (fun H locs hP hD hS => ?_)
                  obtain ⟨S62, eS62⟩ : ∃ z, z = wr S58 34 (v1 : Int32).toNatClampNeg y59 := ⟨_, rfl⟩
                  replace hF := hF S62 eS62
                  have hP : va_P D vwCl (YW y cy S62) H := by rw [eS62]; exact hP
                  have hD : va_D (va_A (YW y cy S0) s.heap.size) (YW y cy S62) := by rw [eS62]; exact hD
                  refine lv_iinc (v := v1 + 1) (lv' := [(1, .int (v1 + 1)), (4, .int r5), (3, .int r10), (2, .int r5), (0, .ref (y 0))]) hx hb dX10_doCopies_127 hl (k := 3) rfl rfl (by decide) rfl (fun ls hl => ?_)
                  refine lv_goto (tgt := 2) hx hb dX10_doCopies_130 (by decide) ?_
                  exact ih2 (v1 + 1) S62 _ _ _ hF hP hD hS (lv_sub hl [0, 4] rfl)
              · skip
                have hF := (if_pos c40).symm.trans hF
                refine lv_goto (tgt := 127) hx hb dX10_doCopies_66 (by decide) ?_
                refine lv_iinc (v := v1 + 1) (lv' := [(1, .int (v1 + 1)), (4, .int r5), (3, .int r10), (2, .int r5), (0, .ref (y 0))]) hx hb dX10_doCopies_127 hl (k := 3) rfl rfl (by decide) rfl (fun ls hl => ?_)
                refine lv_goto (tgt := 2) hx hb dX10_doCopies_130 (by decide) ?_
                exact ih2 (v1 + 1) S _ _ _ hF hP hD hS (lv_sub hl [0, 4] rfl)
            · skip
              have hF := (if_pos c39).symm.trans hF
              refine lv_iload_n hx hb dX10_doCopies_48 rfl (lv_at hl 0 rfl) ?_
              refine lv_iconst (v := (-1)) hx hb dX10_doCopies_49 (by decide) ?_
              refine lv_icmp_eq (tgt := 57) hx hb dX10_doCopies_50 (by decide) (fun c63 => ?_) (fun c63 => ?_)
              · skip
                have hF := (if_pos c63).symm.trans hF
                refine lv_iload_n hx hb dX10_doCopies_57 rfl (lv_at hl 1 rfl) ?_
                refine lv_istore (lv' := [(4, .int r5), (3, .int r10), (2, .int r5), (1, .int v1), (0, .ref (y 0))]) hx hb dX10_doCopies_58 hl (by decide) rfl (fun ls hl => ?_)
                refine lv_iload hx hb dX10_doCopies_60 (lv_at hl 0 rfl) ?_
                refine lv_iconst (v := (-1)) hx hb dX10_doCopies_62 (by decide) ?_
                refine lv_icmp_ne (tgt := 69) hx hb dX10_doCopies_63 (by decide) (fun c64 => ?_) (fun c64 => ?_)
                · skip
                  have hF := (if_neg c64).symm.trans hF
                  refine lv_aload_n hx hb dX10_doCopies_69 rfl (lv_at hl 4 rfl) ?_
                  refine lv_aload_n hx hb dX10_doCopies_70 rfl (lv_at hl 4 rfl) ?_
                  refine va_get (D := D) (ci := 10) (v := .ref (y 11)) (C := RX10) (T := TX10) (N := 58) hx hb hts iX10_doCopies_10 hown hK hP 0 rfl rfl 19 (by decide) (hts (.fieldLink RX10 54 "FondsRoomModel" "isUrgent" "[Z") (List.mem_of_getElem? (i := 4) rfl)) (fun _ h9 => h9) rfl dX10_doCopies_71 ?_
                  refine lv_iload hx hb dX10_doCopies_74 (lv_at hl 0 rfl) ?_
                  obtain ⟨hi66, hF⟩ := ld_s hF
                  refine va_zald hx hb hK hP 11 1 rfl rfl hi66 dX10_doCopies_76 ?_
                  refine lv_topi (fun y65 ey65 => ?_)
                  replace hF := hF y65 ey65
                  refine lv_if_eq (tgt := 93) hx hb dX10_doCopies_77 (by decide) (fun c67 => ?_) (fun c67 => ?_)
                  · skip
                    have hF := (if_pos c67).symm.trans hF
                    refine lv_iconst (v := 0) hx hb dX10_doCopies_93 (by decide) ?_
                    refine va_put (D := D) (ci := 10) (v := .int 0) (ty := .int) (C := RX10) (T := TX10) (N := 58) hx hb hts iX10_doCopies_10 tyX10 tyX10_ok nmX10 hown hK hP hD hS 0 rfl rfl 23 (by decide) (hts (.fieldLink RX10 257 "FondsRoomModel" "urgentRun" "I") (List.mem_of_getElem? (i := 3) rfl)) (fun _ h9 => h9) rfl (by decide +kernel) rfl rfl (Nat.le_of_ble_eq_true rfl) dX10_doCopies_94 (fun H locs hP hD hS => ?_)
                    obtain ⟨S68, eS68⟩ : ∃ z, z = wr S 0 23 0 := ⟨_, rfl⟩
                    replace hF := bnd_s hF S68 eS68
                    have hP : va_P D vwCl (YW y cy S68) H := by rw [eS68]; exact hP
                    have hD : va_D (va_A (YW y cy S0) s.heap.size) (YW y cy S68) := by rw [eS68]; exact hD
                    refine lv_aload_n hx hb dX10_doCopies_97 rfl (lv_at hl 4 rfl) ?_
                    refine va_get (D := D) (ci := 10) (v := .ref (y 5)) (C := RX10) (T := TX10) (N := 58) hx hb hts iX10_doCopies_10 hown hK hP 0 rfl rfl 13 (by decide) (hts (.fieldLink RX10 36 "FondsRoomModel" "place" "[I") (List.mem_of_getElem? (i := 9) rfl)) (fun _ h9 => h9) rfl dX10_doCopies_98 ?_
                    refine lv_iload hx hb dX10_doCopies_101 (lv_at hl 0 rfl) ?_
                    refine lv_bipush (v := 6) hx hb dX10_doCopies_103 (by decide) ?_
                    obtain ⟨hi69, hF⟩ := sv_s hF
                    refine va_iast hx hb hK hP hD hS 5 0 rfl rfl hi69 dX10_doCopies_105 (fun H locs hP hD hS => ?_)
                    obtain ⟨S70, eS70⟩ : ∃ z, z = wr S68 5 (r5 : Int32).toNatClampNeg 6 := ⟨_, rfl⟩
                    replace hF := hF S70 eS70
                    have hP : va_P D vwCl (YW y cy S70) H := by rw [eS70]; exact hP
                    have hD : va_D (va_A (YW y cy S0) s.heap.size) (YW y cy S70) := by rw [eS70]; exact hD
                    refine lv_aload_n hx hb dX10_doCopies_106 rfl (lv_at hl 4 rfl) ?_
                    refine va_get (D := D) (ci := 10) (v := .ref (y 33)) (C := RX10) (T := TX10) (N := 58) hx hb hts iX10_doCopies_10 hown hK hP 0 rfl rfl 45 (by decide) (hts (.fieldLink RX10 120 "FondsRoomModel" "cBox" "[I") (List.mem_of_getElem? (i := 2) rfl)) (fun _ h9 => h9) rfl dX10_doCopies_107 ?_
                    refine lv_iload_n hx hb dX10_doCopies_110 rfl (lv_at hl 3 rfl) ?_
                    refine lv_iload hx hb dX10_doCopies_111 (lv_at hl 0 rfl) ?_
                    obtain ⟨hi71, hF⟩ := sv_s hF
                    refine va_iast hx hb hK hP hD hS 33 0 rfl rfl hi71 dX10_doCopies_113 (fun H locs hP hD hS => ?_)
                    obtain ⟨S72, eS72⟩ : ∃ z, z = wr S70 33 (v1 : Int32).toNatClampNeg r5 := ⟨_, rfl⟩
                    replace hF := hF S72 eS72
                    have hP : va_P D vwCl (YW y cy S72) H := by rw [eS72]; exact hP
                    have hD : va_D (va_A (YW y cy S0) s.heap.size) (YW y cy S72) := by rw [eS72]; exact hD
                    refine lv_aload_n hx hb dX10_doCopies_114 rfl (lv_at hl 4 rfl) ?_
                    refine va_get (D := D) (ci := 10) (v := .ref (y 34)) (C := RX10) (T := TX10) (N := 58) hx hb hts iX10_doCopies_10 hown hK hP 0 rfl rfl 46 (by decide) (hts (.fieldLink RX10 123 "FondsRoomModel" "cLeft" "[I") (List.mem_of_getElem? (i := 10) rfl)) (fun _ h9 => h9) rfl dX10_doCopies_115 ?_
                    refine lv_iload_n hx hb dX10_doCopies_118 rfl (lv_at hl 3 rfl) ?_
                    refine lv_aload_n hx hb dX10_doCopies_119 rfl (lv_at hl 4 rfl) ?_
                    refine va_get (D := D) (ci := 10) (v := .ref (y 10)) (C := RX10) (T := TX10) (N := 58) hx hb hts iX10_doCopies_10 hown hK hP 0 rfl rfl 18 (by decide) (hts (.fieldLink RX10 51 "FondsRoomModel" "pages" "[I") (List.mem_of_getElem? (i := 11) rfl)) (fun _ h9 => h9) rfl dX10_doCopies_120 ?_
                    refine lv_iload hx hb dX10_doCopies_123 (lv_at hl 0 rfl) ?_
                    obtain ⟨hi74, hF⟩ := ld_s hF
                    refine va_iald hx hb hK hP 10 0 rfl rfl hi74 dX10_doCopies_125 ?_
                    refine lv_topi (fun y73 ey73 => ?_)
                    replace hF := hF y73 ey73
                    obtain ⟨hi75, hF⟩ := sv_s hF
                    refine va_iast hx hb hK hP hD hS 34 0 rfl rfl hi75 dX10_doCopies_126 (fun H locs hP hD hS => ?_)
                    obtain ⟨S76, eS76⟩ : ∃ z, z = wr S72 34 (v1 : Int32).toNatClampNeg y73 := ⟨_, rfl⟩
                    replace hF := hF S76 eS76
                    have hP : va_P D vwCl (YW y cy S76) H := by rw [eS76]; exact hP
                    have hD : va_D (va_A (YW y cy S0) s.heap.size) (YW y cy S76) := by rw [eS76]; exact hD
                    refine lv_iinc (v := v1 + 1) (lv' := [(1, .int (v1 + 1)), (4, .int r5), (3, .int r10), (2, .int r5), (0, .ref (y 0))]) hx hb dX10_doCopies_127 hl (k := 3) rfl rfl (by decide) rfl (fun ls hl => ?_)
                    refine lv_goto (tgt := 2) hx hb dX10_doCopies_130 (by decide) ?_
                    exact ih2 (v1 + 1) S76 _ _ _ hF hP hD hS (lv_sub hl [0, 4] rfl)
                  · skip
                    have hF := (if_neg c67).symm.trans hF
                    refine lv_iconst (v := 3) hx hb dX10_doCopies_80 (by decide) ?_
                    refine lv_aload_n hx hb dX10_doCopies_81 rfl (lv_at hl 4 rfl) ?_
                    refine va_get (D := D) (ci := 10) (v := .int (S 0 23)) (C := RX10) (T := TX10) (N := 58) hx hb hts iX10_doCopies_10 hown hK hP 0 rfl rfl 23 (by decide) (hts (.fieldLink RX10 257 "FondsRoomModel" "urgentRun" "I") (List.mem_of_getElem? (i := 3) rfl)) (fun _ h9 => h9) rfl dX10_doCopies_82 ?_
                    refine lv_iconst (v := 1) hx hb dX10_doCopies_85 (by decide) ?_
                    refine lv_iadd hx hb dX10_doCopies_86 ?_
                    refine va_mmin hx hb (hml.trans hl.1.symm) hown (hts (.methodLink RX10 260 Lib.Math.min.name) (List.mem_of_getElem? (i := 5) rfl)) (hts (.static Lib.Math.min.name) (List.mem_of_getElem? (i := 6) rfl)) (hts (.initialized "java/lang/Math") (List.mem_of_getElem? (i := 7) rfl)) (hts (.code Lib.Math.min.name Lib.Math.min.code 2 (some .int)) (List.mem_of_getElem? (i := 8) rfl)) (Nat.le_of_ble_eq_true rfl) (Nat.le_of_ble_eq_true rfl) (Nat.le_of_ble_eq_true rfl) (Nat.le_of_ble_eq_true rfl) dX10_doCopies_87 ?_
                    refine lv_topi (fun y77 ey77 => ?_)
                    replace hF := bnd_s hF y77 ey77
                    refine lv_goto (tgt := 94) hx hb dX10_doCopies_90 (by decide) ?_
                    refine va_put (D := D) (ci := 10) (v := .int y77) (ty := .int) (C := RX10) (T := TX10) (N := 58) hx hb hts iX10_doCopies_10 tyX10 tyX10_ok nmX10 hown hK hP hD hS 0 rfl rfl 23 (by decide) (hts (.fieldLink RX10 257 "FondsRoomModel" "urgentRun" "I") (List.mem_of_getElem? (i := 3) rfl)) (fun _ h9 => h9) rfl (by decide +kernel) rfl rfl (Nat.le_of_ble_eq_true rfl) dX10_doCopies_94 (fun H locs hP hD hS => ?_)
                    obtain ⟨S78, eS78⟩ : ∃ z, z = wr S 0 23 y77 := ⟨_, rfl⟩
                    replace hF := bnd_s hF S78 eS78
                    have hP : va_P D vwCl (YW y cy S78) H := by rw [eS78]; exact hP
                    have hD : va_D (va_A (YW y cy S0) s.heap.size) (YW y cy S78) := by rw [eS78]; exact hD
                    refine lv_aload_n hx hb dX10_doCopies_97 rfl (lv_at hl 4 rfl) ?_
                    refine va_get (D := D) (ci := 10) (v := .ref (y 5)) (C := RX10) (T := TX10) (N := 58) hx hb hts iX10_doCopies_10 hown hK hP 0 rfl rfl 13 (by decide) (hts (.fieldLink RX10 36 "FondsRoomModel" "place" "[I") (List.mem_of_getElem? (i := 9) rfl)) (fun _ h9 => h9) rfl dX10_doCopies_98 ?_
                    refine lv_iload hx hb dX10_doCopies_101 (lv_at hl 0 rfl) ?_
                    refine lv_bipush (v := 6) hx hb dX10_doCopies_103 (by decide) ?_
                    obtain ⟨hi79, hF⟩ := sv_s hF
                    refine va_iast hx hb hK hP hD hS 5 0 rfl rfl hi79 dX10_doCopies_105 (fun H locs hP hD hS => ?_)
                    obtain ⟨S80, eS80⟩ : ∃ z, z = wr S78 5 (r5 : Int32).toNatClampNeg 6 := ⟨_, rfl⟩
                    replace hF := hF S80 eS80
                    have hP : va_P D vwCl (YW y cy S80) H := by rw [eS80]; exact hP
                    have hD : va_D (va_A (YW y cy S0) s.heap.size) (YW y cy S80) := by rw [eS80]; exact hD
                    refine lv_aload_n hx hb dX10_doCopies_106 rfl (lv_at hl 4 rfl) ?_
                    refine va_get (D := D) (ci := 10) (v := .ref (y 33)) (C := RX10) (T := TX10) (N := 58) hx hb hts iX10_doCopies_10 hown hK hP 0 rfl rfl 45 (by decide) (hts (.fieldLink RX10 120 "FondsRoomModel" "cBox" "[I") (List.mem_of_getElem? (i := 2) rfl)) (fun _ h9 => h9) rfl dX10_doCopies_107 ?_
                    refine lv_iload_n hx hb dX10_doCopies_110 rfl (lv_at hl 3 rfl) ?_
                    refine lv_iload hx hb dX10_doCopies_111 (lv_at hl 0 rfl) ?_
                    obtain ⟨hi81, hF⟩ := sv_s hF
                    refine va_iast hx hb hK hP hD hS 33 0 rfl rfl hi81 dX10_doCopies_113 (fun H locs hP hD hS => ?_)
                    obtain ⟨S82, eS82⟩ : ∃ z, z = wr S80 33 (v1 : Int32).toNatClampNeg r5 := ⟨_, rfl⟩
                    replace hF := hF S82 eS82
                    have hP : va_P D vwCl (YW y cy S82) H := by rw [eS82]; exact hP
                    have hD : va_D (va_A (YW y cy S0) s.heap.size) (YW y cy S82) := by rw [eS82]; exact hD
                    refine lv_aload_n hx hb dX10_doCopies_114 rfl (lv_at hl 4 rfl) ?_
                    refine va_get (D := D) (ci := 10) (v := .ref (y 34)) (C := RX10) (T := TX10) (N := 58) hx hb hts iX10_doCopies_10 hown hK hP 0 rfl rfl 46 (by decide) (hts (.fieldLink RX10 123 "FondsRoomModel" "cLeft" "[I") (List.mem_of_getElem? (i := 10) rfl)) (fun _ h9 => h9) rfl dX10_doCopies_115 ?_
                    refine lv_iload_n hx hb dX10_doCopies_118 rfl (lv_at hl 3 rfl) ?_
                    refine lv_aload_n hx hb dX10_doCopies_119 rfl (lv_at hl 4 rfl) ?_
                    refine va_get (D := D) (ci := 10) (v := .ref (y 10)) (C := RX10) (T := TX10) (N := 58) hx hb hts iX10_doCopies_10 hown hK hP 0 rfl rfl 18 (by decide) (hts (.fieldLink RX10 51 "FondsRoomModel" "pages" "[I") (List.mem_of_getElem? (i := 11) rfl)) (fun _ h9 => h9) rfl dX10_doCopies_120 ?_
                    refine lv_iload hx hb dX10_doCopies_123 (lv_at hl 0 rfl) ?_
                    obtain ⟨hi84, hF⟩ := ld_s hF
                    refine va_iald hx hb hK hP 10 0 rfl rfl hi84 dX10_doCopies_125 ?_
                    refine lv_topi (fun y83 ey83 => ?_)
                    replace hF := hF y83 ey83
                    obtain ⟨hi85, hF⟩ := sv_s hF
                    refine va_iast hx hb hK hP hD hS 34 0 rfl rfl hi85 dX10_doCopies_126 (fun H locs hP hD hS => ?_)
                    obtain ⟨S86, eS86⟩ : ∃ z, z = wr S82 34 (v1 : Int32).toNatClampNeg y83 := ⟨_, rfl⟩
                    replace hF := hF S86 eS86
                    have hP : va_P D vwCl (YW y cy S86) H := by rw [eS86]; exact hP
                    have hD : va_D (va_A (YW y cy S0) s.heap.size) (YW y cy S86) := by rw [eS86]; exact hD
                    refine lv_iinc (v := v1 + 1) (lv' := [(1, .int (v1 + 1)), (4, .int r5), (3, .int r10), (2, .int r5), (0, .ref (y 0))]) hx hb dX10_doCopies_127 hl (k := 3) rfl rfl (by decide) rfl (fun ls hl => ?_)
                    refine lv_goto (tgt := 2) hx hb dX10_doCopies_130 (by decide) ?_
                    exact ih2 (v1 + 1) S86 _ _ _ hF hP hD hS (lv_sub hl [0, 4] rfl)
                · skip
                  have hF := (if_pos c64).symm.trans hF
                  refine lv_goto (tgt := 127) hx hb dX10_doCopies_66 (by decide) ?_
                  refine lv_iinc (v := v1 + 1) (lv' := [(1, .int (v1 + 1)), (4, .int r5), (3, .int r10), (2, .int r5), (0, .ref (y 0))]) hx hb dX10_doCopies_127 hl (k := 3) rfl rfl (by decide) rfl (fun ls hl => ?_)
                  refine lv_goto (tgt := 2) hx hb dX10_doCopies_130 (by decide) ?_
                  exact ih2 (v1 + 1) S _ _ _ hF hP hD hS (lv_sub hl [0, 4] rfl)
              · skip
                have hF := (if_neg c63).symm.trans hF
                refine lv_iload_n hx hb dX10_doCopies_53 rfl (lv_at hl 0 rfl) ?_
                refine lv_goto (tgt := 58) hx hb dX10_doCopies_54 (by decide) ?_
                refine lv_istore (lv' := [(4, .int r10), (3, .int r10), (2, .int r5), (1, .int v1), (0, .ref (y 0))]) hx hb dX10_doCopies_58 hl (by decide) rfl (fun ls hl => ?_)
                refine lv_iload hx hb dX10_doCopies_60 (lv_at hl 0 rfl) ?_
                refine lv_iconst (v := (-1)) hx hb dX10_doCopies_62 (by decide) ?_
                refine lv_icmp_ne (tgt := 69) hx hb dX10_doCopies_63 (by decide) (fun c87 => ?_) (fun c87 => ?_)
                · skip
                  have hF := (if_neg c87).symm.trans hF
                  refine lv_aload_n hx hb dX10_doCopies_69 rfl (lv_at hl 4 rfl) ?_
                  refine lv_aload_n hx hb dX10_doCopies_70 rfl (lv_at hl 4 rfl) ?_
                  refine va_get (D := D) (ci := 10) (v := .ref (y 11)) (C := RX10) (T := TX10) (N := 58) hx hb hts iX10_doCopies_10 hown hK hP 0 rfl rfl 19 (by decide) (hts (.fieldLink RX10 54 "FondsRoomModel" "isUrgent" "[Z") (List.mem_of_getElem? (i := 4) rfl)) (fun _ h9 => h9) rfl dX10_doCopies_71 ?_
                  refine lv_iload hx hb dX10_doCopies_74 (lv_at hl 0 rfl) ?_
                  obtain ⟨hi89, hF⟩ := ld_s hF
                  refine va_zald hx hb hK hP 11 1 rfl rfl hi89 dX10_doCopies_76 ?_
                  refine lv_topi (fun y88 ey88 => ?_)
                  replace hF := hF y88 ey88
                  refine lv_if_eq (tgt := 93) hx hb dX10_doCopies_77 (by decide) (fun c90 => ?_) (fun c90 => ?_)
                  · skip
                    have hF := (if_pos c90).symm.trans hF
                    refine lv_iconst (v := 0) hx hb dX10_doCopies_93 (by decide) ?_
                    refine va_put (D := D) (ci := 10) (v := .int 0) (ty := .int) (C := RX10) (T := TX10) (N := 58) hx hb hts iX10_doCopies_10 tyX10 tyX10_ok nmX10 hown hK hP hD hS 0 rfl rfl 23 (by decide) (hts (.fieldLink RX10 257 "FondsRoomModel" "urgentRun" "I") (List.mem_of_getElem? (i := 3) rfl)) (fun _ h9 => h9) rfl (by decide +kernel) rfl rfl (Nat.le_of_ble_eq_true rfl) dX10_doCopies_94 (fun H locs hP hD hS => ?_)
                    obtain ⟨S91, eS91⟩ : ∃ z, z = wr S 0 23 0 := ⟨_, rfl⟩
                    replace hF := bnd_s hF S91 eS91
                    have hP : va_P D vwCl (YW y cy S91) H := by rw [eS91]; exact hP
                    have hD : va_D (va_A (YW y cy S0) s.heap.size) (YW y cy S91) := by rw [eS91]; exact hD
                    refine lv_aload_n hx hb dX10_doCopies_97 rfl (lv_at hl 4 rfl) ?_
                    refine va_get (D := D) (ci := 10) (v := .ref (y 5)) (C := RX10) (T := TX10) (N := 58) hx hb hts iX10_doCopies_10 hown hK hP 0 rfl rfl 13 (by decide) (hts (.fieldLink RX10 36 "FondsRoomModel" "place" "[I") (List.mem_of_getElem? (i := 9) rfl)) (fun _ h9 => h9) rfl dX10_doCopies_98 ?_
                    refine lv_iload hx hb dX10_doCopies_101 (lv_at hl 0 rfl) ?_
                    refine lv_bipush (v := 6) hx hb dX10_doCopies_103 (by decide) ?_
                    obtain ⟨hi92, hF⟩ := sv_s hF
                    refine va_iast hx hb hK hP hD hS 5 0 rfl rfl hi92 dX10_doCopies_105 (fun H locs hP hD hS => ?_)
                    obtain ⟨S93, eS93⟩ : ∃ z, z = wr S91 5 (r10 : Int32).toNatClampNeg 6 := ⟨_, rfl⟩
                    replace hF := hF S93 eS93
                    have hP : va_P D vwCl (YW y cy S93) H := by rw [eS93]; exact hP
                    have hD : va_D (va_A (YW y cy S0) s.heap.size) (YW y cy S93) := by rw [eS93]; exact hD
                    refine lv_aload_n hx hb dX10_doCopies_106 rfl (lv_at hl 4 rfl) ?_
                    refine va_get (D := D) (ci := 10) (v := .ref (y 33)) (C := RX10) (T := TX10) (N := 58) hx hb hts iX10_doCopies_10 hown hK hP 0 rfl rfl 45 (by decide) (hts (.fieldLink RX10 120 "FondsRoomModel" "cBox" "[I") (List.mem_of_getElem? (i := 2) rfl)) (fun _ h9 => h9) rfl dX10_doCopies_107 ?_
                    refine lv_iload_n hx hb dX10_doCopies_110 rfl (lv_at hl 3 rfl) ?_
                    refine lv_iload hx hb dX10_doCopies_111 (lv_at hl 0 rfl) ?_
                    obtain ⟨hi94, hF⟩ := sv_s hF
                    refine va_iast hx hb hK hP hD hS 33 0 rfl rfl hi94 dX10_doCopies_113 (fun H locs hP hD hS => ?_)
                    obtain ⟨S95, eS95⟩ : ∃ z, z = wr S93 33 (v1 : Int32).toNatClampNeg r10 := ⟨_, rfl⟩
                    replace hF := hF S95 eS95
                    have hP : va_P D vwCl (YW y cy S95) H := by rw [eS95]; exact hP
                    have hD : va_D (va_A (YW y cy S0) s.heap.size) (YW y cy S95) := by rw [eS95]; exact hD
                    refine lv_aload_n hx hb dX10_doCopies_114 rfl (lv_at hl 4 rfl) ?_
                    refine va_get (D := D) (ci := 10) (v := .ref (y 34)) (C := RX10) (T := TX10) (N := 58) hx hb hts iX10_doCopies_10 hown hK hP 0 rfl rfl 46 (by decide) (hts (.fieldLink RX10 123 "FondsRoomModel" "cLeft" "[I") (List.mem_of_getElem? (i := 10) rfl)) (fun _ h9 => h9) rfl dX10_doCopies_115 ?_
                    refine lv_iload_n hx hb dX10_doCopies_118 rfl (lv_at hl 3 rfl) ?_
                    refine lv_aload_n hx hb dX10_doCopies_119 rfl (lv_at hl 4 rfl) ?_
                    refine va_get (D := D) (ci := 10) (v := .ref (y 10)) (C := RX10) (T := TX10) (N := 58) hx hb hts iX10_doCopies_10 hown hK hP 0 rfl rfl 18 (by decide) (hts (.fieldLink RX10 51 "FondsRoomModel" "pages" "[I") (List.mem_of_getElem? (i := 11) rfl)) (fun _ h9 => h9) rfl dX10_doCopies_120 ?_
                    refine lv_iload hx hb dX10_doCopies_123 (lv_at hl 0 rfl) ?_
                    obtain ⟨hi97, hF⟩ := ld_s hF
                    refine va_iald hx hb hK hP 10 0 rfl rfl hi97 dX10_doCopies_125 ?_
                    refine lv_topi (fun y96 ey96 => ?_)
                    replace hF := hF y96 ey96
                    obtain ⟨hi98, hF⟩ := sv_s hF
                    refine va_iast hx hb hK hP hD hS 34 0 rfl rfl hi98 dX10_doCopies_126 (fun H locs hP hD hS => ?_)
                    obtain ⟨S99, eS99⟩ : ∃ z, z = wr S95 34 (v1 : Int32).toNatClampNeg y96 := ⟨_, rfl⟩
                    replace hF := hF S99 eS99
                    have hP : va_P D vwCl (YW y cy S99) H := by rw [eS99]; exact hP
                    have hD : va_D (va_A (YW y cy S0) s.heap.size) (YW y cy S99) := by rw [eS99]; exact hD
                    refine lv_iinc (v := v1 + 1) (lv' := [(1, .int (v1 + 1)), (4, .int r10), (3, .int r10), (2, .int r5), (0, .ref (y 0))]) hx hb dX10_doCopies_127 hl (k := 3) rfl rfl (by decide) rfl (fun ls hl => ?_)
                    refine lv_goto (tgt := 2) hx hb dX10_doCopies_130 (by decide) ?_
                    exact ih2 (v1 + 1) S99 _ _ _ hF hP hD hS (lv_sub hl [0, 4] rfl)
                  · skip
                    have hF := (if_neg c90).symm.trans hF
                    refine lv_iconst (v := 3) hx hb dX10_doCopies_80 (by decide) ?_
                    refine lv_aload_n hx hb dX10_doCopies_81 rfl (lv_at hl 4 rfl) ?_
                    refine va_get (D := D) (ci := 10) (v := .int (S 0 23)) (C := RX10) (T := TX10) (N := 58) hx hb hts iX10_doCopies_10 hown hK hP 0 rfl rfl 23 (by decide) (hts (.fieldLink RX10 257 "FondsRoomModel" "urgentRun" "I") (List.mem_of_getElem? (i := 3) rfl)) (fun _ h9 => h9) rfl dX10_doCopies_82 ?_
                    refine lv_iconst (v := 1) hx hb dX10_doCopies_85 (by decide) ?_
                    refine lv_iadd hx hb dX10_doCopies_86 ?_
                    refine va_mmin hx hb (hml.trans hl.1.symm) hown (hts (.methodLink RX10 260 Lib.Math.min.name) (List.mem_of_getElem? (i := 5) rfl)) (hts (.static Lib.Math.min.name) (List.mem_of_getElem? (i := 6) rfl)) (hts (.initialized "java/lang/Math") (List.mem_of_getElem? (i := 7) rfl)) (hts (.code Lib.Math.min.name Lib.Math.min.code 2 (some .int)) (List.mem_of_getElem? (i := 8) rfl)) (Nat.le_of_ble_eq_true rfl) (Nat.le_of_ble_eq_true rfl) (Nat.le_of_ble_eq_true rfl) (Nat.le_of_ble_eq_true rfl) dX10_doCopies_87 ?_
                    refine lv_topi (fun y100 ey100 => ?_)
                    replace hF := bnd_s hF y100 ey100
                    refine lv_goto (tgt := 94) hx hb dX10_doCopies_90 (by decide) ?_
                    refine va_put (D := D) (ci := 10) (v := .int y100) (ty := .int) (C := RX10) (T := TX10) (N := 58) hx hb hts iX10_doCopies_10 tyX10 tyX10_ok nmX10 hown hK hP hD hS 0 rfl rfl 23 (by decide) (hts (.fieldLink RX10 257 "FondsRoomModel" "urgentRun" "I") (List.mem_of_getElem? (i := 3) rfl)) (fun _ h9 => h9) rfl (by decide +kernel) rfl rfl (Nat.le_of_ble_eq_true rfl) dX10_doCopies_94 (fun H locs hP hD hS => ?_)
                    obtain ⟨S101, eS101⟩ : ∃ z, z = wr S 0 23 y100 := ⟨_, rfl⟩
                    replace hF := bnd_s hF S101 eS101
                    have hP : va_P D vwCl (YW y cy S101) H := by rw [eS101]; exact hP
                    have hD : va_D (va_A (YW y cy S0) s.heap.size) (YW y cy S101) := by rw [eS101]; exact hD
                    refine lv_aload_n hx hb dX10_doCopies_97 rfl (lv_at hl 4 rfl) ?_
                    refine va_get (D := D) (ci := 10) (v := .ref (y 5)) (C := RX10) (T := TX10) (N := 58) hx hb hts iX10_doCopies_10 hown hK hP 0 rfl rfl 13 (by decide) (hts (.fieldLink RX10 36 "FondsRoomModel" "place" "[I") (List.mem_of_getElem? (i := 9) rfl)) (fun _ h9 => h9) rfl dX10_doCopies_98 ?_
                    refine lv_iload hx hb dX10_doCopies_101 (lv_at hl 0 rfl) ?_
                    refine lv_bipush (v := 6) hx hb dX10_doCopies_103 (by decide) ?_
                    obtain ⟨hi102, hF⟩ := sv_s hF
                    refine va_iast hx hb hK hP hD hS 5 0 rfl rfl hi102 dX10_doCopies_105 (fun H locs hP hD hS => ?_)
                    obtain ⟨S103, eS103⟩ : ∃ z, z = wr S101 5 (r10 : Int32).toNatClampNeg 6 := ⟨_, rfl⟩
                    replace hF := hF S103 eS103
                    have hP : va_P D vwCl (YW y cy S103) H := by rw [eS103]; exact hP
                    have hD : va_D (va_A (YW y cy S0) s.heap.size) (YW y cy S103) := by rw [eS103]; exact hD
                    refine lv_aload_n hx hb dX10_doCopies_106 rfl (lv_at hl 4 rfl) ?_
                    refine va_get (D := D) (ci := 10) (v := .ref (y 33)) (C := RX10) (T := TX10) (N := 58) hx hb hts iX10_doCopies_10 hown hK hP 0 rfl rfl 45 (by decide) (hts (.fieldLink RX10 120 "FondsRoomModel" "cBox" "[I") (List.mem_of_getElem? (i := 2) rfl)) (fun _ h9 => h9) rfl dX10_doCopies_107 ?_
                    refine lv_iload_n hx hb dX10_doCopies_110 rfl (lv_at hl 3 rfl) ?_
                    refine lv_iload hx hb dX10_doCopies_111 (lv_at hl 0 rfl) ?_
                    obtain ⟨hi104, hF⟩ := sv_s hF
                    refine va_iast hx hb hK hP hD hS 33 0 rfl rfl hi104 dX10_doCopies_113 (fun H locs hP hD hS => ?_)
                    obtain ⟨S105, eS105⟩ : ∃ z, z = wr S103 33 (v1 : Int32).toNatClampNeg r10 := ⟨_, rfl⟩
                    replace hF := hF S105 eS105
                    have hP : va_P D vwCl (YW y cy S105) H := by rw [eS105]; exact hP
                    have hD : va_D (va_A (YW y cy S0) s.heap.size) (YW y cy S105) := by rw [eS105]; exact hD
                    refine lv_aload_n hx hb dX10_doCopies_114 rfl (lv_at hl 4 rfl) ?_
                    refine va_get (D := D) (ci := 10) (v := .ref (y 34)) (C := RX10) (T := TX10) (N := 58) hx hb hts iX10_doCopies_10 hown hK hP 0 rfl rfl 46 (by decide) (hts (.fieldLink RX10 123 "FondsRoomModel" "cLeft" "[I") (List.mem_of_getElem? (i := 10) rfl)) (fun _ h9 => h9) rfl dX10_doCopies_115 ?_
                    refine lv_iload_n hx hb dX10_doCopies_118 rfl (lv_at hl 3 rfl) ?_
                    refine lv_aload_n hx hb dX10_doCopies_119 rfl (lv_at hl 4 rfl) ?_
                    refine va_get (D := D) (ci := 10) (v := .ref (y 10)) (C := RX10) (T := TX10) (N := 58) hx hb hts iX10_doCopies_10 hown hK hP 0 rfl rfl 18 (by decide) (hts (.fieldLink RX10 51 "FondsRoomModel" "pages" "[I") (List.mem_of_getElem? (i := 11) rfl)) (fun _ h9 => h9) rfl dX10_doCopies_120 ?_
                    refine lv_iload hx hb dX10_doCopies_123 (lv_at hl 0 rfl) ?_
                    obtain ⟨hi107, hF⟩ := ld_s hF
                    refine va_iald hx hb hK hP 10 0 rfl rfl hi107 dX10_doCopies_125 ?_
                    refine lv_topi (fun y106 ey106 => ?_)
                    replace hF := hF y106 ey106
                    obtain ⟨hi108, hF⟩ := sv_s hF
                    refine va_iast hx hb hK hP hD hS 34 0 rfl rfl hi108 dX10_doCopies_126 (fun H locs hP hD hS => ?_)
                    obtain ⟨S109, eS109⟩ : ∃ z, z = wr S105 34 (v1 : Int32).toNatClampNeg y106 := ⟨_, rfl⟩
                    replace hF := hF S109 eS109
                    have hP : va_P D vwCl (YW y cy S109) H := by rw [eS109]; exact hP
                    have hD : va_D (va_A (YW y cy S0) s.heap.size) (YW y cy S109) := by rw [eS109]; exact hD
                    refine lv_iinc (v := v1 + 1) (lv' := [(1, .int (v1 + 1)), (4, .int r10), (3, .int r10), (2, .int r5), (0, .ref (y 0))]) hx hb dX10_doCopies_127 hl (k := 3) rfl rfl (by decide) rfl (fun ls hl => ?_)
                    refine lv_goto (tgt := 2) hx hb dX10_doCopies_130 (by decide) ?_
                    exact ih2 (v1 + 1) S109 _ _ _ hF hP hD hS (lv_sub hl [0, 4] rfl)
                · skip
                  have hF := (if_pos c87).symm.trans hF
                  refine lv_goto (tgt := 127) hx hb dX10_doCopies_66 (by decide) ?_
                  refine lv_iinc (v := v1 + 1) (lv' := [(1, .int (v1 + 1)), (4, .int r10), (3, .int r10), (2, .int r5), (0, .ref (y 0))]) hx hb dX10_doCopies_127 hl (k := 3) rfl rfl (by decide) rfl (fun ls hl => ?_)
                  refine lv_goto (tgt := 2) hx hb dX10_doCopies_130 (by decide) ?_
                  exact ih2 (v1 + 1) S _ _ _ hF hP hD hS (lv_sub hl [0, 4] rfl)
        · skip
          have hF := (if_neg c4).symm.trans hF
          refine lv_goto (tgt := 127) hx hb dX10_doCopies_20 (by decide) ?_
          refine lv_iinc (v := v1 + 1) (lv' := [(1, .int (v1 + 1)), (0, .ref (y 0))]) hx hb dX10_doCopies_127 hl (k := 0) rfl rfl (by decide) rfl (fun ls hl => ?_)
          refine lv_goto (tgt := 2) hx hb dX10_doCopies_130 (by decide) ?_
          exact ih2 (v1 + 1) S _ _ _ hF hP hD hS (lv_sub hl [0, 1] rfl)
  have hl := lv_entry ([.ref (y 0)]) (n := 5) (Nat.le_of_ble_eq_true rfl)
  rw [lg_entry_eq]
  generalize (lg_sl ([.ref (y 0)]) ++ List.replicate (5 - (lg_sl ([.ref (y 0)])).length) Slot.unset).toArray = ls at hl ⊢
  have hl : lv_has ls 5 [(0, .ref (y 0))] := hl
  unfold gX10_doCopies at hF
  refine lv_iconst (v := 0) hx hb dX10_doCopies_0 (by decide) ?_
  refine lv_istore_n (lv' := [(1, .int 0), (0, .ref (y 0))]) hx hb dX10_doCopies_1 rfl hl (by decide) rfl (fun ls hl => ?_)
  refine key2 _ ?_ 1000 0 S0 _ _ _ hF hP hD hS (lv_sub hl [0, 1] rfl)
  intro S110 H locs ls hF hP hD hS hl
  have e2 := Option.some.inj hF
  have hP : va_P D vwCl (YW y cy Sf) H := by rw [← e2]; exact hP
  have hD : va_D (va_A (YW y cy S0) s.heap.size) (YW y cy Sf) := by rw [← e2]; exact hD
  exact W.vret hx hb hr (fun t ht hW => ⟨⟨(), rfl, trivial, by rw [ht]; exact hP, va_K.moved hW.alike hK, hD⟩, hS.F ht⟩) hS.2.2 dX10_doCopies_133

theorem iX10_oneTurn_10 : ∀ w ∈ wsX100, w ∈ wsX10_oneTurn := fun _ h => List.mem_cons_of_mem _ (List.mem_append_right _ h)
set_option maxHeartbeats 8000000 in
set_option maxRecDepth 100000 in
theorem zX10_oneTurn (l : Launch) (D : va_G) (y : Nat → Nat) (cy : Nat → ClassId) (S0 : RS) (sz : Nat) (Sf : RS) (hF : gX10_oneTurn S0  = some Sf) : Met l yX10_oneTurn wsX10_oneTurn ({ frames := 4, cells := 0, slots := 0, locals := 92 }) (PW D (TYS cy) (YW y cy S0) sz [.ref (y 0)]) (va_Qv (fun (u : Unit) => True) (BU D (TYS cy) (YW y cy S0) (fun _ => YW y cy Sf) sz) (va_A (YW y cy S0) sz)) 0 0 (va_A (YW y cy S0) sz) := by
  refine Met.ofW (cc := cX10_oneTurn) (maxL := 3) (ret := none) (by decide) rfl ?_
  intro p e s m args below meth c s₁ B hml hv
  obtain ⟨rfl, hsz, hP, hK, hD0⟩ := hv
  have hx := B.exec
  have hb := B.bytes
  have hr := B.returns
  have hts := atoms_spec (ws := wsX10_oneTurn) B.pre
  have hown : s.vm.findClass RX10 = some m.cls := findClass_of_methodNamed B.named
  have hlocks := B.notSynchronized
  subst hsz
  have hD := hD0.self (sz := s.heap.size)
  have hA : ∀ q9 : Nat, s.heap.size ≤ q9 → va_A (YW y cy S0) s.heap.size q9 := fun q9 h => Or.inr h
  have hS : va_S (va_A (YW y cy S0) s.heap.size) s.heap s.heap [] := va_S.rf
  have key28 : ∀ (K : RS → Option (RS)), (∀  (S : RS) (H : Heap) (locs : List Loc) (ls : Array Slot), K  S = some Sf → va_P D vwCl (YW y cy S) H → va_D (va_A (YW y cy S0) s.heap.size) (YW y cy S) → va_S (va_A (YW y cy S0) s.heap.size) s.heap H locs → lv_has ls 3 [(0, .ref (y 0))] → W p l e (headSpec wsX10_oneTurn ({ frames := 4, cells := 0, slots := 0, locals := 92 })).room s m #[.ref (y 0)] below meth c H locs 0 0 (MQ below (va_Qv (fun (u : Unit) => True) (BU D (TYS cy) (YW y cy S0) (fun _ => YW y cy Sf) s.heap.size) (va_A (YW y cy S0) s.heap.size)) #[.ref (y 0)] s 0 0 (va_A (YW y cy S0) s.heap.size)) (F0 m 82 ls [])) → ∀ (fu : Nat) (v1 : Int32) (S : RS) (H : Heap) (locs : List Loc) (ls : Array Slot), gX10_oneTurn_28 K fu v1 S = some Sf → va_P D vwCl (YW y cy S) H → va_D (va_A (YW y cy S0) s.heap.size) (YW y cy S) → va_S (va_A (YW y cy S0) s.heap.size) s.heap H locs → lv_has ls 3 [(1, .int v1), (0, .ref (y 0))] → W p l e (headSpec wsX10_oneTurn ({ frames := 4, cells := 0, slots := 0, locals := 92 })).room s m #[.ref (y 0)] below meth c H locs 0 0 (MQ below (va_Qv (fun (u : Unit) => True) (BU D (TYS cy) (YW y cy S0) (fun _ => YW y cy Sf) s.heap.size) (va_A (YW y cy S0) s.heap.size)) #[.ref (y 0)] s 0 0 (va_A (YW y cy S0) s.heap.size)) (F0 m 28 ls []) := by
    intro K hKK fu
    induction fu with
    | zero =>
      intro v1 S H locs ls hF
      exact absurd (show (none : Option (RS)) = some Sf from hF) (by simp)
    | succ fu28 ih28 =>
      intro v1 S H locs ls hF hP hD hS hl
      rw [gX10_oneTurn_28] at hF
      refine lv_iload_n hx hb dX10_oneTurn_28 rfl (lv_at hl 0 rfl) ?_
      refine lv_aload_n hx hb dX10_oneTurn_29 rfl (lv_at hl 1 rfl) ?_
      refine va_get (D := D) (ci := 10) (v := .int (S 0 3)) (C := RX10) (T := TX10) (N := 58) hx hb hts iX10_oneTurn_10 hown hK hP 0 rfl rfl 3 (by decide) (hts (.fieldLink RX10 153 "FondsRoomModel" "readers" "I") (List.mem_of_getElem? (i := 2) rfl)) (fun _ h9 => h9) rfl dX10_oneTurn_30 ?_
      refine lv_icmp_ge (tgt := 82) hx hb dX10_oneTurn_33 (by decide) (fun c22 => ?_) (fun c22 => ?_)
      · skip
        have hF := (if_pos c22).symm.trans hF
        exact hKK  S _ _ _ hF hP hD hS (lv_sub hl [1] rfl)
      · skip
        have hF := (if_neg c22).symm.trans hF
        refine lv_aload_n hx hb dX10_oneTurn_36 rfl (lv_at hl 1 rfl) ?_
        refine va_get (D := D) (ci := 10) (v := .ref (y 15)) (C := RX10) (T := TX10) (N := 58) hx hb hts iX10_oneTurn_10 hown hK hP 0 rfl rfl 27 (by decide) (hts (.fieldLink RX10 66 "FondsRoomModel" "state" "[I") (List.mem_of_getElem? (i := 3) rfl)) (fun _ h9 => h9) rfl dX10_oneTurn_37 ?_
        refine lv_iload_n hx hb dX10_oneTurn_40 rfl (lv_at hl 0 rfl) ?_
        obtain ⟨hi24, hF⟩ := ld_s hF
        refine va_iald hx hb hK hP 15 0 rfl rfl hi24 dX10_oneTurn_41 ?_
        refine lv_topi (fun y23 ey23 => ?_)
        replace hF := hF y23 ey23
        refine lv_iconst (v := 3) hx hb dX10_oneTurn_42 (by decide) ?_
        refine lv_icmp_eq (tgt := 49) hx hb dX10_oneTurn_43 (by decide) (fun c25 => ?_) (fun c25 => ?_)
        · skip
          have hF := (if_pos c25).symm.trans hF
          refine lv_aload_n hx hb dX10_oneTurn_49 rfl (lv_at hl 1 rfl) ?_
          refine va_get (D := D) (ci := 10) (v := .ref (y 19)) (C := RX10) (T := TX10) (N := 58) hx hb hts iX10_oneTurn_10 hown hK hP 0 rfl rfl 31 (by decide) (hts (.fieldLink RX10 78 "FondsRoomModel" "left" "[I") (List.mem_of_getElem? (i := 4) rfl)) (fun _ h9 => h9) rfl dX10_oneTurn_50 ?_
          refine lv_iload_n hx hb dX10_oneTurn_53 rfl (lv_at hl 0 rfl) ?_
          refine lv_dup2_11 hx hb dX10_oneTurn_54 rfl rfl ?_
          obtain ⟨hi27, hF⟩ := ld_s hF
          refine va_iald hx hb hK hP 19 0 rfl rfl hi27 dX10_oneTurn_55 ?_
          refine lv_topi (fun y26 ey26 => ?_)
          replace hF := hF y26 ey26
          refine lv_iconst (v := 1) hx hb dX10_oneTurn_56 (by decide) ?_
          refine lv_isub hx hb dX10_oneTurn_57 ?_
          obtain ⟨hi28, hF⟩ := sv_s hF
          refine va_iast hx hb hK hP hD hS 19 0 rfl rfl hi28 dX10_oneTurn_58 (fun H locs hP hD hS => ?_)
          obtain ⟨S29, eS29⟩ : ∃ z, z = wr S 19 (v1 : Int32).toNatClampNeg (y26 - 1) := ⟨_, rfl⟩
          replace hF := hF S29 eS29
          have hP : va_P D vwCl (YW y cy S29) H := by rw [eS29]; exact hP
          have hD : va_D (va_A (YW y cy S0) s.heap.size) (YW y cy S29) := by rw [eS29]; exact hD
          refine lv_aload_n hx hb dX10_oneTurn_59 rfl (lv_at hl 1 rfl) ?_
          refine va_get (D := D) (ci := 10) (v := .ref (y 19)) (C := RX10) (T := TX10) (N := 58) hx hb hts iX10_oneTurn_10 hown hK hP 0 rfl rfl 31 (by decide) (hts (.fieldLink RX10 78 "FondsRoomModel" "left" "[I") (List.mem_of_getElem? (i := 4) rfl)) (fun _ h9 => h9) rfl dX10_oneTurn_60 ?_
          refine lv_iload_n hx hb dX10_oneTurn_63 rfl (lv_at hl 0 rfl) ?_
          obtain ⟨hi31, hF⟩ := ld_s hF
          refine va_iald hx hb hK hP 19 0 rfl rfl hi31 dX10_oneTurn_64 ?_
          refine lv_topi (fun y30 ey30 => ?_)
          replace hF := hF y30 ey30
          refine lv_if_ne (tgt := 76) hx hb dX10_oneTurn_65 (by decide) (fun c32 => ?_) (fun c32 => ?_)
          · skip
            have hF := (if_neg c32).symm.trans hF
            refine lv_iinc (v := v1 + 1) (lv' := [(1, .int (v1 + 1)), (0, .ref (y 0))]) hx hb dX10_oneTurn_76 hl (k := 0) rfl rfl (by decide) rfl (fun ls hl => ?_)
            refine lv_goto (tgt := 28) hx hb dX10_oneTurn_79 (by decide) ?_
            exact ih28 (v1 + 1) S29 _ _ _ hF hP hD hS (lv_sub hl [0, 1] rfl)
          · skip
            have hF := (if_pos c32).symm.trans hF
            refine lv_aload_n hx hb dX10_oneTurn_68 rfl (lv_at hl 1 rfl) ?_
            refine va_get (D := D) (ci := 10) (v := .ref (y 15)) (C := RX10) (T := TX10) (N := 58) hx hb hts iX10_oneTurn_10 hown hK hP 0 rfl rfl 27 (by decide) (hts (.fieldLink RX10 66 "FondsRoomModel" "state" "[I") (List.mem_of_getElem? (i := 3) rfl)) (fun _ h9 => h9) rfl dX10_oneTurn_69 ?_
            refine lv_iload_n hx hb dX10_oneTurn_72 rfl (lv_at hl 0 rfl) ?_
            refine lv_bipush (v := 8) hx hb dX10_oneTurn_73 (by decide) ?_
            obtain ⟨hi33, hF⟩ := sv_s hF
            refine va_iast hx hb hK hP hD hS 15 0 rfl rfl hi33 dX10_oneTurn_75 (fun H locs hP hD hS => ?_)
            obtain ⟨S34, eS34⟩ : ∃ z, z = wr S29 15 (v1 : Int32).toNatClampNeg 8 := ⟨_, rfl⟩
            replace hF := hF S34 eS34
            have hP : va_P D vwCl (YW y cy S34) H := by rw [eS34]; exact hP
            have hD : va_D (va_A (YW y cy S0) s.heap.size) (YW y cy S34) := by rw [eS34]; exact hD
            refine lv_iinc (v := v1 + 1) (lv' := [(1, .int (v1 + 1)), (0, .ref (y 0))]) hx hb dX10_oneTurn_76 hl (k := 0) rfl rfl (by decide) rfl (fun ls hl => ?_)
            refine lv_goto (tgt := 28) hx hb dX10_oneTurn_79 (by decide) ?_
            exact ih28 (v1 + 1) S34 _ _ _ hF hP hD hS (lv_sub hl [0, 1] rfl)
        · skip
          have hF := (if_neg c25).symm.trans hF
          refine lv_goto (tgt := 76) hx hb dX10_oneTurn_46 (by decide) ?_
          refine lv_iinc (v := v1 + 1) (lv' := [(1, .int (v1 + 1)), (0, .ref (y 0))]) hx hb dX10_oneTurn_76 hl (k := 0) rfl rfl (by decide) rfl (fun ls hl => ?_)
          refine lv_goto (tgt := 28) hx hb dX10_oneTurn_79 (by decide) ?_
          exact ih28 (v1 + 1) S _ _ _ hF hP hD hS (lv_sub hl [0, 1] rfl)
  have key84 : ∀ (K : RS → Option (RS)), (∀  (S : RS) (H : Heap) (locs : List Loc) (ls : Array Slot), K  S = some Sf → va_P D vwCl (YW y cy S) H → va_D (va_A (YW y cy S0) s.heap.size) (YW y cy S) → va_S (va_A (YW y cy S0) s.heap.size) s.heap H locs → lv_has ls 3 [(0, .ref (y 0))] → W p l e (headSpec wsX10_oneTurn ({ frames := 4, cells := 0, slots := 0, locals := 92 })).room s m #[.ref (y 0)] below meth c H locs 0 0 (MQ below (va_Qv (fun (u : Unit) => True) (BU D (TYS cy) (YW y cy S0) (fun _ => YW y cy Sf) s.heap.size) (va_A (YW y cy S0) s.heap.size)) #[.ref (y 0)] s 0 0 (va_A (YW y cy S0) s.heap.size)) (F0 m 103 ls [])) → ∀ (fu : Nat) (v1 : Int32) (S : RS) (H : Heap) (locs : List Loc) (ls : Array Slot), gX10_oneTurn_84 K fu v1 S = some Sf → va_P D vwCl (YW y cy S) H → va_D (va_A (YW y cy S0) s.heap.size) (YW y cy S) → va_S (va_A (YW y cy S0) s.heap.size) s.heap H locs → lv_has ls 3 [(1, .int v1), (0, .ref (y 0))] → W p l e (headSpec wsX10_oneTurn ({ frames := 4, cells := 0, slots := 0, locals := 92 })).room s m #[.ref (y 0)] below meth c H locs 0 0 (MQ below (va_Qv (fun (u : Unit) => True) (BU D (TYS cy) (YW y cy S0) (fun _ => YW y cy Sf) s.heap.size) (va_A (YW y cy S0) s.heap.size)) #[.ref (y 0)] s 0 0 (va_A (YW y cy S0) s.heap.size)) (F0 m 84 ls []) := by
    intro K hKK fu
    induction fu with
    | zero =>
      intro v1 S H locs ls hF
      exact absurd (show (none : Option (RS)) = some Sf from hF) (by simp)
    | succ fu84 ih84 =>
      intro v1 S H locs ls hF hP hD hS hl
      rw [gX10_oneTurn_84] at hF
      refine lv_iload_n hx hb dX10_oneTurn_84 rfl (lv_at hl 0 rfl) ?_
      refine lv_aload_n hx hb dX10_oneTurn_85 rfl (lv_at hl 1 rfl) ?_
      refine va_get (D := D) (ci := 10) (v := .int (S 0 3)) (C := RX10) (T := TX10) (N := 58) hx hb hts iX10_oneTurn_10 hown hK hP 0 rfl rfl 3 (by decide) (hts (.fieldLink RX10 153 "FondsRoomModel" "readers" "I") (List.mem_of_getElem? (i := 2) rfl)) (fun _ h9 => h9) rfl dX10_oneTurn_86 ?_
      refine lv_icmp_ge (tgt := 103) hx hb dX10_oneTurn_89 (by decide) (fun c36 => ?_) (fun c36 => ?_)
      · skip
        have hF := (if_pos c36).symm.trans hF
        exact hKK  S _ _ _ hF hP hD hS (lv_sub hl [1] rfl)
      · skip
        have hF := (if_neg c36).symm.trans hF
        refine lv_aload_n hx hb dX10_oneTurn_92 rfl (lv_at hl 1 rfl) ?_
        refine lv_iload_n hx hb dX10_oneTurn_93 rfl (lv_at hl 0 rfl) ?_
        obtain ⟨S38, hq40, hF⟩ := bd1_s hF
        refine gvV (As := [.int v1]) (rest := []) ⟨hx, hb, hml, hown, hts⟩ (zX10_goesOn l D y cy S _ v1 S38 hq40) (cwV 1 hts gX10_oneTurn_X10_goesOn rfl rfl rfl (by decide +kernel) ⟨Nat.le_of_ble_eq_true rfl, Nat.le_of_ble_eq_true rfl⟩) hK hP hD hS hA (va_recv hK hP (ci := 10) (q0 := 0) rfl rfl) rfl hl.1 rfl (Nat.le_of_ble_eq_true rfl) dX10_oneTurn_94 ⟨Nat.le_of_ble_eq_true rfl, Nat.le_of_ble_eq_true rfl⟩ (fun u9 H locs hw39 hP hD hS => ?_)
        have hP : va_P D vwCl (YW y cy S38) H := hP
        have hD : va_D _ (YW y cy S38) := hD
        refine lv_iinc (v := v1 + 1) (lv' := [(1, .int (v1 + 1)), (0, .ref (y 0))]) hx hb dX10_oneTurn_97 hl (k := 0) rfl rfl (by decide) rfl (fun ls hl => ?_)
        refine lv_goto (tgt := 84) hx hb dX10_oneTurn_100 (by decide) ?_
        exact ih84 (v1 + 1) S38 _ _ _ hF hP hD hS (lv_sub hl [0, 1] rfl)
  have key105 : ∀ (K : RS → Option (RS)), (∀  (S : RS) (H : Heap) (locs : List Loc) (ls : Array Slot), K  S = some Sf → va_P D vwCl (YW y cy S) H → va_D (va_A (YW y cy S0) s.heap.size) (YW y cy S) → va_S (va_A (YW y cy S0) s.heap.size) s.heap H locs → lv_has ls 3 [(0, .ref (y 0))] → W p l e (headSpec wsX10_oneTurn ({ frames := 4, cells := 0, slots := 0, locals := 92 })).room s m #[.ref (y 0)] below meth c H locs 0 0 (MQ below (va_Qv (fun (u : Unit) => True) (BU D (TYS cy) (YW y cy S0) (fun _ => YW y cy Sf) s.heap.size) (va_A (YW y cy S0) s.heap.size)) #[.ref (y 0)] s 0 0 (va_A (YW y cy S0) s.heap.size)) (F0 m 169 ls [])) → ∀ (fu : Nat) (v1 : Int32) (S : RS) (H : Heap) (locs : List Loc) (ls : Array Slot), gX10_oneTurn_105 K fu v1 S = some Sf → va_P D vwCl (YW y cy S) H → va_D (va_A (YW y cy S0) s.heap.size) (YW y cy S) → va_S (va_A (YW y cy S0) s.heap.size) s.heap H locs → lv_has ls 3 [(1, .int v1), (0, .ref (y 0))] → W p l e (headSpec wsX10_oneTurn ({ frames := 4, cells := 0, slots := 0, locals := 92 })).room s m #[.ref (y 0)] below meth c H locs 0 0 (MQ below (va_Qv (fun (u : Unit) => True) (BU D (TYS cy) (YW y cy S0) (fun _ => YW y cy Sf) s.heap.size) (va_A (YW y cy S0) s.heap.size)) #[.ref (y 0)] s 0 0 (va_A (YW y cy S0) s.heap.size)) (F0 m 105 ls []) := by
    intro K hKK fu
    induction fu with
    | zero =>
      intro v1 S H locs ls hF
      exact absurd (show (none : Option (RS)) = some Sf from hF) (by simp)
    | succ fu105 ih105 =>
      intro v1 S H locs ls hF hP hD hS hl
      rw [gX10_oneTurn_105] at hF
      refine lv_iload_n hx hb dX10_oneTurn_105 rfl (lv_at hl 0 rfl) ?_
      refine lv_aload_n hx hb dX10_oneTurn_106 rfl (lv_at hl 1 rfl) ?_
      refine va_get (D := D) (ci := 10) (v := .int (S 0 3)) (C := RX10) (T := TX10) (N := 58) hx hb hts iX10_oneTurn_10 hown hK hP 0 rfl rfl 3 (by decide) (hts (.fieldLink RX10 153 "FondsRoomModel" "readers" "I") (List.mem_of_getElem? (i := 2) rfl)) (fun _ h9 => h9) rfl dX10_oneTurn_107 ?_
      refine lv_icmp_ge (tgt := 169) hx hb dX10_oneTurn_110 (by decide) (fun c43 => ?_) (fun c43 => ?_)
      · skip
        have hF := (if_pos c43).symm.trans hF
        exact hKK  S _ _ _ hF hP hD hS (lv_sub hl [1] rfl)
      · skip
        have hF := (if_neg c43).symm.trans hF
        refine lv_aload_n hx hb dX10_oneTurn_113 rfl (lv_at hl 1 rfl) ?_
        refine va_get (D := D) (ci := 10) (v := .ref (y 15)) (C := RX10) (T := TX10) (N := 58) hx hb hts iX10_oneTurn_10 hown hK hP 0 rfl rfl 27 (by decide) (hts (.fieldLink RX10 66 "FondsRoomModel" "state" "[I") (List.mem_of_getElem? (i := 3) rfl)) (fun _ h9 => h9) rfl dX10_oneTurn_114 ?_
        refine lv_iload_n hx hb dX10_oneTurn_117 rfl (lv_at hl 0 rfl) ?_
        obtain ⟨hi45, hF⟩ := ld_s hF
        refine va_iald hx hb hK hP 15 0 rfl rfl hi45 dX10_oneTurn_118 ?_
        refine lv_topi (fun y44 ey44 => ?_)
        replace hF := hF y44 ey44
        refine lv_if_ne (tgt := 163) hx hb dX10_oneTurn_119 (by decide) (fun c46 => ?_) (fun c46 => ?_)
        · skip
          have hF := (if_neg c46).symm.trans hF
          refine lv_iinc (v := v1 + 1) (lv' := [(1, .int (v1 + 1)), (0, .ref (y 0))]) hx hb dX10_oneTurn_163 hl (k := 0) rfl rfl (by decide) rfl (fun ls hl => ?_)
          refine lv_goto (tgt := 105) hx hb dX10_oneTurn_166 (by decide) ?_
          exact ih105 (v1 + 1) S _ _ _ hF hP hD hS (lv_sub hl [0, 1] rfl)
        · skip
          have hF := (if_pos c46).symm.trans hF
          refine lv_aload_n hx hb dX10_oneTurn_122 rfl (lv_at hl 1 rfl) ?_
          refine va_get (D := D) (ci := 10) (v := .ref (y 12)) (C := RX10) (T := TX10) (N := 58) hx hb hts iX10_oneTurn_10 hown hK hP 0 rfl rfl 24 (by decide) (hts (.fieldLink RX10 57 "FondsRoomModel" "arrival" "[I") (List.mem_of_getElem? (i := 5) rfl)) (fun _ h9 => h9) rfl dX10_oneTurn_123 ?_
          refine lv_iload_n hx hb dX10_oneTurn_126 rfl (lv_at hl 0 rfl) ?_
          obtain ⟨hi48, hF⟩ := ld_s hF
          refine va_iald hx hb hK hP 12 0 rfl rfl hi48 dX10_oneTurn_127 ?_
          refine lv_topi (fun y47 ey47 => ?_)
          replace hF := hF y47 ey47
          refine lv_aload_n hx hb dX10_oneTurn_128 rfl (lv_at hl 1 rfl) ?_
          refine va_get (D := D) (ci := 10) (v := .int (S 0 4)) (C := RX10) (T := TX10) (N := 58) hx hb hts iX10_oneTurn_10 hown hK hP 0 rfl rfl 4 (by decide) (hts (.fieldLink RX10 163 "FondsRoomModel" "turn" "I") (List.mem_of_getElem? (i := 1) rfl)) (fun _ h9 => h9) rfl dX10_oneTurn_129 ?_
          refine lv_icmp_le (tgt := 138) hx hb dX10_oneTurn_132 (by decide) (fun c49 => ?_) (fun c49 => ?_)
          · skip
            have hF := (if_pos c49).symm.trans hF
            refine lv_aload_n hx hb dX10_oneTurn_138 rfl (lv_at hl 1 rfl) ?_
            refine va_get (D := D) (ci := 10) (v := .ref (y 15)) (C := RX10) (T := TX10) (N := 58) hx hb hts iX10_oneTurn_10 hown hK hP 0 rfl rfl 27 (by decide) (hts (.fieldLink RX10 66 "FondsRoomModel" "state" "[I") (List.mem_of_getElem? (i := 3) rfl)) (fun _ h9 => h9) rfl dX10_oneTurn_139 ?_
            refine lv_iload_n hx hb dX10_oneTurn_142 rfl (lv_at hl 0 rfl) ?_
            refine lv_iconst (v := 1) hx hb dX10_oneTurn_143 (by decide) ?_
            obtain ⟨hi50, hF⟩ := sv_s hF
            refine va_iast hx hb hK hP hD hS 15 0 rfl rfl hi50 dX10_oneTurn_144 (fun H locs hP hD hS => ?_)
            obtain ⟨S51, eS51⟩ : ∃ z, z = wr S 15 (v1 : Int32).toNatClampNeg 1 := ⟨_, rfl⟩
            replace hF := hF S51 eS51
            have hP : va_P D vwCl (YW y cy S51) H := by rw [eS51]; exact hP
            have hD : va_D (va_A (YW y cy S0) s.heap.size) (YW y cy S51) := by rw [eS51]; exact hD
            refine lv_aload_n hx hb dX10_oneTurn_145 rfl (lv_at hl 1 rfl) ?_
            refine va_get (D := D) (ci := 10) (v := .ref (y 20)) (C := RX10) (T := TX10) (N := 58) hx hb hts iX10_oneTurn_10 hown hK hP 0 rfl rfl 32 (by decide) (hts (.fieldLink RX10 81 "FondsRoomModel" "came" "[I") (List.mem_of_getElem? (i := 6) rfl)) (fun _ h9 => h9) rfl dX10_oneTurn_146 ?_
            refine lv_iload_n hx hb dX10_oneTurn_149 rfl (lv_at hl 0 rfl) ?_
            refine lv_aload_n hx hb dX10_oneTurn_150 rfl (lv_at hl 1 rfl) ?_
            refine va_get (D := D) (ci := 10) (v := .int (S51 0 4)) (C := RX10) (T := TX10) (N := 58) hx hb hts iX10_oneTurn_10 hown hK hP 0 rfl rfl 4 (by decide) (hts (.fieldLink RX10 163 "FondsRoomModel" "turn" "I") (List.mem_of_getElem? (i := 1) rfl)) (fun _ h9 => h9) rfl dX10_oneTurn_151 ?_
            obtain ⟨hi52, hF⟩ := sv_s hF
            refine va_iast hx hb hK hP hD hS 20 0 rfl rfl hi52 dX10_oneTurn_154 (fun H locs hP hD hS => ?_)
            obtain ⟨S53, eS53⟩ : ∃ z, z = wr S51 20 (v1 : Int32).toNatClampNeg (S51 0 4) := ⟨_, rfl⟩
            replace hF := hF S53 eS53
            have hP : va_P D vwCl (YW y cy S53) H := by rw [eS53]; exact hP
            have hD : va_D (va_A (YW y cy S0) s.heap.size) (YW y cy S53) := by rw [eS53]; exact hD
            refine lv_aload_n hx hb dX10_oneTurn_155 rfl (lv_at hl 1 rfl) ?_
            refine lv_iload_n hx hb dX10_oneTurn_156 rfl (lv_at hl 0 rfl) ?_
            refine lv_iconst (v := 1) hx hb dX10_oneTurn_157 (by decide) ?_
            refine lv_iconst (v := 1) hx hb dX10_oneTurn_158 (by decide) ?_
            refine lv_iconst (v := 1) hx hb dX10_oneTurn_159 (by decide) ?_
            obtain ⟨S55, hq57, hF⟩ := bd1_s hF
            refine gvV (As := [.int v1, .int 1, .int 1, .int 1]) (rest := []) ⟨hx, hb, hml, hown, hts⟩ (zX10_event l D y cy S53 _ v1 1 1 1 S55 hq57) (cwV 4 hts gX10_oneTurn_X10_event rfl rfl rfl (by decide +kernel) ⟨Nat.le_of_ble_eq_true rfl, Nat.le_of_ble_eq_true rfl⟩) hK hP hD hS hA (va_recv hK hP (ci := 10) (q0 := 0) rfl rfl) rfl hl.1 rfl (Nat.le_of_ble_eq_true rfl) dX10_oneTurn_160 ⟨Nat.le_of_ble_eq_true rfl, Nat.le_of_ble_eq_true rfl⟩ (fun u9 H locs hw56 hP hD hS => ?_)
            have hP : va_P D vwCl (YW y cy S55) H := hP
            have hD : va_D _ (YW y cy S55) := hD
            refine lv_iinc (v := v1 + 1) (lv' := [(1, .int (v1 + 1)), (0, .ref (y 0))]) hx hb dX10_oneTurn_163 hl (k := 0) rfl rfl (by decide) rfl (fun ls hl => ?_)
            refine lv_goto (tgt := 105) hx hb dX10_oneTurn_166 (by decide) ?_
            exact ih105 (v1 + 1) S55 _ _ _ hF hP hD hS (lv_sub hl [0, 1] rfl)
          · skip
            have hF := (if_neg c49).symm.trans hF
            refine lv_goto (tgt := 163) hx hb dX10_oneTurn_135 (by decide) ?_
            refine lv_iinc (v := v1 + 1) (lv' := [(1, .int (v1 + 1)), (0, .ref (y 0))]) hx hb dX10_oneTurn_163 hl (k := 0) rfl rfl (by decide) rfl (fun ls hl => ?_)
            refine lv_goto (tgt := 105) hx hb dX10_oneTurn_166 (by decide) ?_
            exact ih105 (v1 + 1) S _ _ _ hF hP hD hS (lv_sub hl [0, 1] rfl)
  have key183 : ∀ (K : RS → Option (RS)), (∀  (S : RS) (H : Heap) (locs : List Loc) (ls : Array Slot), K  S = some Sf → va_P D vwCl (YW y cy S) H → va_D (va_A (YW y cy S0) s.heap.size) (YW y cy S) → va_S (va_A (YW y cy S0) s.heap.size) s.heap H locs → lv_has ls 3 [] → W p l e (headSpec wsX10_oneTurn ({ frames := 4, cells := 0, slots := 0, locals := 92 })).room s m #[.ref (y 0)] below meth c H locs 0 0 (MQ below (va_Qv (fun (u : Unit) => True) (BU D (TYS cy) (YW y cy S0) (fun _ => YW y cy Sf) s.heap.size) (va_A (YW y cy S0) s.heap.size)) #[.ref (y 0)] s 0 0 (va_A (YW y cy S0) s.heap.size)) (F0 m 260 ls [])) → ∀ (fu : Nat) (v1 : Int32) (S : RS) (H : Heap) (locs : List Loc) (ls : Array Slot), gX10_oneTurn_183 K fu v1 S = some Sf → va_P D vwCl (YW y cy S) H → va_D (va_A (YW y cy S0) s.heap.size) (YW y cy S) → va_S (va_A (YW y cy S0) s.heap.size) s.heap H locs → lv_has ls 3 [(1, .int v1), (0, .ref (y 0))] → W p l e (headSpec wsX10_oneTurn ({ frames := 4, cells := 0, slots := 0, locals := 92 })).room s m #[.ref (y 0)] below meth c H locs 0 0 (MQ below (va_Qv (fun (u : Unit) => True) (BU D (TYS cy) (YW y cy S0) (fun _ => YW y cy Sf) s.heap.size) (va_A (YW y cy S0) s.heap.size)) #[.ref (y 0)] s 0 0 (va_A (YW y cy S0) s.heap.size)) (F0 m 183 ls []) := by
    intro K hKK fu
    induction fu with
    | zero =>
      intro v1 S H locs ls hF
      exact absurd (show (none : Option (RS)) = some Sf from hF) (by simp)
    | succ fu183 ih183 =>
      intro v1 S H locs ls hF hP hD hS hl
      rw [gX10_oneTurn_183] at hF
      refine lv_iload_n hx hb dX10_oneTurn_183 rfl (lv_at hl 0 rfl) ?_
      refine lv_aload_n hx hb dX10_oneTurn_184 rfl (lv_at hl 1 rfl) ?_
      refine va_get (D := D) (ci := 10) (v := .int (S 0 3)) (C := RX10) (T := TX10) (N := 58) hx hb hts iX10_oneTurn_10 hown hK hP 0 rfl rfl 3 (by decide) (hts (.fieldLink RX10 153 "FondsRoomModel" "readers" "I") (List.mem_of_getElem? (i := 2) rfl)) (fun _ h9 => h9) rfl dX10_oneTurn_185 ?_
      refine lv_icmp_ge (tgt := 260) hx hb dX10_oneTurn_188 (by decide) (fun c75 => ?_) (fun c75 => ?_)
      · skip
        have hF := (if_pos c75).symm.trans hF
        exact hKK  S _ _ _ hF hP hD hS (lv_sub hl [] rfl)
      · skip
        have hF := (if_neg c75).symm.trans hF
        refine lv_aload_n hx hb dX10_oneTurn_191 rfl (lv_at hl 1 rfl) ?_
        refine va_get (D := D) (ci := 10) (v := .ref (y 15)) (C := RX10) (T := TX10) (N := 58) hx hb hts iX10_oneTurn_10 hown hK hP 0 rfl rfl 27 (by decide) (hts (.fieldLink RX10 66 "FondsRoomModel" "state" "[I") (List.mem_of_getElem? (i := 3) rfl)) (fun _ h9 => h9) rfl dX10_oneTurn_192 ?_
        refine lv_iload_n hx hb dX10_oneTurn_195 rfl (lv_at hl 0 rfl) ?_
        obtain ⟨hi77, hF⟩ := ld_s hF
        refine va_iald hx hb hK hP 15 0 rfl rfl hi77 dX10_oneTurn_196 ?_
        refine lv_topi (fun y76 ey76 => ?_)
        replace hF := hF y76 ey76
        refine lv_iconst (v := 1) hx hb dX10_oneTurn_197 (by decide) ?_
        refine lv_icmp_ne (tgt := 205) hx hb dX10_oneTurn_198 (by decide) (fun c78 => ?_) (fun c78 => ?_)
        · skip
          have hF := (if_neg c78).symm.trans hF
          refine lv_aload_n hx hb dX10_oneTurn_205 rfl (lv_at hl 1 rfl) ?_
          refine va_get (D := D) (ci := 10) (v := .ref (y 15)) (C := RX10) (T := TX10) (N := 58) hx hb hts iX10_oneTurn_10 hown hK hP 0 rfl rfl 27 (by decide) (hts (.fieldLink RX10 66 "FondsRoomModel" "state" "[I") (List.mem_of_getElem? (i := 3) rfl)) (fun _ h9 => h9) rfl dX10_oneTurn_206 ?_
          refine lv_iload_n hx hb dX10_oneTurn_209 rfl (lv_at hl 0 rfl) ?_
          obtain ⟨hi80, hF⟩ := ld_s hF
          refine va_iald hx hb hK hP 15 0 rfl rfl hi80 dX10_oneTurn_210 ?_
          refine lv_topi (fun y79 ey79 => ?_)
          replace hF := hF y79 ey79
          refine lv_iconst (v := 2) hx hb dX10_oneTurn_211 (by decide) ?_
          refine lv_icmp_ne (tgt := 219) hx hb dX10_oneTurn_212 (by decide) (fun c81 => ?_) (fun c81 => ?_)
          · skip
            have hF := (if_neg c81).symm.trans hF
            refine lv_aload_n hx hb dX10_oneTurn_219 rfl (lv_at hl 1 rfl) ?_
            refine va_get (D := D) (ci := 10) (v := .ref (y 15)) (C := RX10) (T := TX10) (N := 58) hx hb hts iX10_oneTurn_10 hown hK hP 0 rfl rfl 27 (by decide) (hts (.fieldLink RX10 66 "FondsRoomModel" "state" "[I") (List.mem_of_getElem? (i := 3) rfl)) (fun _ h9 => h9) rfl dX10_oneTurn_220 ?_
            refine lv_iload_n hx hb dX10_oneTurn_223 rfl (lv_at hl 0 rfl) ?_
            obtain ⟨hi83, hF⟩ := ld_s hF
            refine va_iald hx hb hK hP 15 0 rfl rfl hi83 dX10_oneTurn_224 ?_
            refine lv_topi (fun y82 ey82 => ?_)
            replace hF := hF y82 ey82
            refine lv_iconst (v := 4) hx hb dX10_oneTurn_225 (by decide) ?_
            refine lv_icmp_ne (tgt := 233) hx hb dX10_oneTurn_226 (by decide) (fun c84 => ?_) (fun c84 => ?_)
            · skip
              have hF := (if_neg c84).symm.trans hF
              refine lv_iconst (v := (-1)) hx hb dX10_oneTurn_233 (by decide) ?_
              refine lv_istore_n (lv' := [(2, .int (-1)), (1, .int v1), (0, .ref (y 0))]) hx hb dX10_oneTurn_234 rfl hl (by decide) rfl (fun ls hl => ?_)
              refine lv_iload_n hx hb dX10_oneTurn_235 rfl (lv_at hl 0 rfl) ?_
              refine lv_iconst (v := (-1)) hx hb dX10_oneTurn_236 (by decide) ?_
              refine lv_icmp_eq (tgt := 254) hx hb dX10_oneTurn_237 (by decide) (fun _ => ?_) (fun c9 => absurd (by decide) c9)
              refine lv_iinc (v := v1 + 1) (lv' := [(1, .int (v1 + 1)), (2, .int (-1)), (0, .ref (y 0))]) hx hb dX10_oneTurn_254 hl (k := 1) rfl rfl (by decide) rfl (fun ls hl => ?_)
              refine lv_goto (tgt := 183) hx hb dX10_oneTurn_257 (by decide) ?_
              exact ih183 (v1 + 1) S _ _ _ hF hP hD hS (lv_sub hl [0, 2] rfl)
            · skip
              have hF := (if_pos c84).symm.trans hF
              refine lv_iconst (v := 2) hx hb dX10_oneTurn_229 (by decide) ?_
              refine lv_goto (tgt := 234) hx hb dX10_oneTurn_230 (by decide) ?_
              refine lv_istore_n (lv' := [(2, .int 2), (1, .int v1), (0, .ref (y 0))]) hx hb dX10_oneTurn_234 rfl hl (by decide) rfl (fun ls hl => ?_)
              refine lv_iload_n hx hb dX10_oneTurn_235 rfl (lv_at hl 0 rfl) ?_
              refine lv_iconst (v := (-1)) hx hb dX10_oneTurn_236 (by decide) ?_
              refine lv_icmp_eq (tgt := 254) hx hb dX10_oneTurn_237 (by decide) (fun c9 => absurd c9 (by decide)) (fun _ => ?_)
              refine lv_aload_n hx hb dX10_oneTurn_240 rfl (lv_at hl 2 rfl) ?_
              refine va_get (D := D) (ci := 10) (v := .ref (y 25)) (C := RX10) (T := TX10) (N := 58) hx hb hts iX10_oneTurn_10 hown hK hP 0 rfl rfl 37 (by decide) (hts (.fieldLink RX10 96 "FondsRoomModel" "waited" "[I") (List.mem_of_getElem? (i := 7) rfl)) (fun _ h9 => h9) rfl dX10_oneTurn_241 ?_
              refine lv_iconst (v := 3) hx hb dX10_oneTurn_244 (by decide) ?_
              refine lv_iload_n hx hb dX10_oneTurn_245 rfl (lv_at hl 1 rfl) ?_
              refine lv_imul hx hb dX10_oneTurn_246 ?_
              refine lv_iload_n hx hb dX10_oneTurn_247 rfl (lv_at hl 0 rfl) ?_
              refine lv_iadd hx hb dX10_oneTurn_248 ?_
              refine lv_dup2_11 hx hb dX10_oneTurn_249 rfl rfl ?_
              obtain ⟨hi86, hF⟩ := ld_s hF
              refine va_iald hx hb hK hP 25 0 rfl rfl hi86 dX10_oneTurn_250 ?_
              refine lv_topi (fun y85 ey85 => ?_)
              replace hF := hF y85 ey85
              refine lv_iconst (v := 1) hx hb dX10_oneTurn_251 (by decide) ?_
              refine lv_iadd hx hb dX10_oneTurn_252 ?_
              obtain ⟨hi87, hF⟩ := sv_s hF
              refine va_iast hx hb hK hP hD hS 25 0 rfl rfl hi87 dX10_oneTurn_253 (fun H locs hP hD hS => ?_)
              obtain ⟨S88, eS88⟩ : ∃ z, z = wr S 25 (((3 * v1) + 2) : Int32).toNatClampNeg (y85 + 1) := ⟨_, rfl⟩
              replace hF := hF S88 eS88
              have hP : va_P D vwCl (YW y cy S88) H := by rw [eS88]; exact hP
              have hD : va_D (va_A (YW y cy S0) s.heap.size) (YW y cy S88) := by rw [eS88]; exact hD
              refine lv_iinc (v := v1 + 1) (lv' := [(1, .int (v1 + 1)), (2, .int 2), (0, .ref (y 0))]) hx hb dX10_oneTurn_254 hl (k := 1) rfl rfl (by decide) rfl (fun ls hl => ?_)
              refine lv_goto (tgt := 183) hx hb dX10_oneTurn_257 (by decide) ?_
              exact ih183 (v1 + 1) S88 _ _ _ hF hP hD hS (lv_sub hl [0, 2] rfl)
          · skip
            have hF := (if_pos c81).symm.trans hF
            refine lv_iconst (v := 1) hx hb dX10_oneTurn_215 (by decide) ?_
            refine lv_goto (tgt := 234) hx hb dX10_oneTurn_216 (by decide) ?_
            refine lv_istore_n (lv' := [(2, .int 1), (1, .int v1), (0, .ref (y 0))]) hx hb dX10_oneTurn_234 rfl hl (by decide) rfl (fun ls hl => ?_)
            refine lv_iload_n hx hb dX10_oneTurn_235 rfl (lv_at hl 0 rfl) ?_
            refine lv_iconst (v := (-1)) hx hb dX10_oneTurn_236 (by decide) ?_
            refine lv_icmp_eq (tgt := 254) hx hb dX10_oneTurn_237 (by decide) (fun c9 => absurd c9 (by decide)) (fun _ => ?_)
            refine lv_aload_n hx hb dX10_oneTurn_240 rfl (lv_at hl 2 rfl) ?_
            refine va_get (D := D) (ci := 10) (v := .ref (y 25)) (C := RX10) (T := TX10) (N := 58) hx hb hts iX10_oneTurn_10 hown hK hP 0 rfl rfl 37 (by decide) (hts (.fieldLink RX10 96 "FondsRoomModel" "waited" "[I") (List.mem_of_getElem? (i := 7) rfl)) (fun _ h9 => h9) rfl dX10_oneTurn_241 ?_
            refine lv_iconst (v := 3) hx hb dX10_oneTurn_244 (by decide) ?_
            refine lv_iload_n hx hb dX10_oneTurn_245 rfl (lv_at hl 1 rfl) ?_
            refine lv_imul hx hb dX10_oneTurn_246 ?_
            refine lv_iload_n hx hb dX10_oneTurn_247 rfl (lv_at hl 0 rfl) ?_
            refine lv_iadd hx hb dX10_oneTurn_248 ?_
            refine lv_dup2_11 hx hb dX10_oneTurn_249 rfl rfl ?_
            obtain ⟨hi90, hF⟩ := ld_s hF
            refine va_iald hx hb hK hP 25 0 rfl rfl hi90 dX10_oneTurn_250 ?_
            refine lv_topi (fun y89 ey89 => ?_)
            replace hF := hF y89 ey89
            refine lv_iconst (v := 1) hx hb dX10_oneTurn_251 (by decide) ?_
            refine lv_iadd hx hb dX10_oneTurn_252 ?_
            obtain ⟨hi91, hF⟩ := sv_s hF
            refine va_iast hx hb hK hP hD hS 25 0 rfl rfl hi91 dX10_oneTurn_253 (fun H locs hP hD hS => ?_)
            obtain ⟨S92, eS92⟩ : ∃ z, z = wr S 25 (((3 * v1) + 1) : Int32).toNatClampNeg (y89 + 1) := ⟨_, rfl⟩
            replace hF := hF S92 eS92
            have hP : va_P D vwCl (YW y cy S92) H := by rw [eS92]; exact hP
            have hD : va_D (va_A (YW y cy S0) s.heap.size) (YW y cy S92) := by rw [eS92]; exact hD
            refine lv_iinc (v := v1 + 1) (lv' := [(1, .int (v1 + 1)), (2, .int 1), (0, .ref (y 0))]) hx hb dX10_oneTurn_254 hl (k := 1) rfl rfl (by decide) rfl (fun ls hl => ?_)
            refine lv_goto (tgt := 183) hx hb dX10_oneTurn_257 (by decide) ?_
            exact ih183 (v1 + 1) S92 _ _ _ hF hP hD hS (lv_sub hl [0, 2] rfl)
        · skip
          have hF := (if_pos c78).symm.trans hF
          refine lv_iconst (v := 0) hx hb dX10_oneTurn_201 (by decide) ?_
          refine lv_goto (tgt := 234) hx hb dX10_oneTurn_202 (by decide) ?_
          refine lv_istore_n (lv' := [(2, .int 0), (1, .int v1), (0, .ref (y 0))]) hx hb dX10_oneTurn_234 rfl hl (by decide) rfl (fun ls hl => ?_)
          refine lv_iload_n hx hb dX10_oneTurn_235 rfl (lv_at hl 0 rfl) ?_
          refine lv_iconst (v := (-1)) hx hb dX10_oneTurn_236 (by decide) ?_
          refine lv_icmp_eq (tgt := 254) hx hb dX10_oneTurn_237 (by decide) (fun c9 => absurd c9 (by decide)) (fun _ => ?_)
          refine lv_aload_n hx hb dX10_oneTurn_240 rfl (lv_at hl 2 rfl) ?_
          refine va_get (D := D) (ci := 10) (v := .ref (y 25)) (C := RX10) (T := TX10) (N := 58) hx hb hts iX10_oneTurn_10 hown hK hP 0 rfl rfl 37 (by decide) (hts (.fieldLink RX10 96 "FondsRoomModel" "waited" "[I") (List.mem_of_getElem? (i := 7) rfl)) (fun _ h9 => h9) rfl dX10_oneTurn_241 ?_
          refine lv_iconst (v := 3) hx hb dX10_oneTurn_244 (by decide) ?_
          refine lv_iload_n hx hb dX10_oneTurn_245 rfl (lv_at hl 1 rfl) ?_
          refine lv_imul hx hb dX10_oneTurn_246 ?_
          refine lv_iload_n hx hb dX10_oneTurn_247 rfl (lv_at hl 0 rfl) ?_
          refine lv_iadd hx hb dX10_oneTurn_248 ?_
          refine lv_dup2_11 hx hb dX10_oneTurn_249 rfl rfl ?_
          obtain ⟨hi94, hF⟩ := ld_s hF
          refine va_iald hx hb hK hP 25 0 rfl rfl hi94 dX10_oneTurn_250 ?_
          refine lv_topi (fun y93 ey93 => ?_)
          replace hF := hF y93 ey93
          refine lv_iconst (v := 1) hx hb dX10_oneTurn_251 (by decide) ?_
          refine lv_iadd hx hb dX10_oneTurn_252 ?_
          obtain ⟨hi95, hF⟩ := sv_s hF
          refine va_iast hx hb hK hP hD hS 25 0 rfl rfl hi95 dX10_oneTurn_253 (fun H locs hP hD hS => ?_)
          obtain ⟨S96, eS96⟩ : ∃ z, z = wr S 25 (((3 * v1) + 0) : Int32).toNatClampNeg (y93 + 1) := ⟨_, rfl⟩
          replace hF := hF S96 eS96
          have hP : va_P D vwCl (YW y cy S96) H := by rw [eS96]; exact hP
          have hD : va_D (va_A (YW y cy S0) s.heap.size) (YW y cy S96) := by rw [eS96]; exact hD
          refine lv_iinc (v := v1 + 1) (lv' := [(1, .int (v1 + 1)), (2, .int 0), (0, .ref (y 0))]) hx hb dX10_oneTurn_254 hl (k := 1) rfl rfl (by decide) rfl (fun ls hl => ?_)
          refine lv_goto (tgt := 183) hx hb dX10_oneTurn_257 (by decide) ?_
          exact ih183 (v1 + 1) S96 _ _ _ hF hP hD hS (lv_sub hl [0, 2] rfl)
  have hl := lv_entry ([.ref (y 0)]) (n := 3) (Nat.le_of_ble_eq_true rfl)
  rw [lg_entry_eq]
  generalize (lg_sl ([.ref (y 0)]) ++ List.replicate (3 - (lg_sl ([.ref (y 0)])).length) Slot.unset).toArray = ls at hl ⊢
  have hl : lv_has ls 3 [(0, .ref (y 0))] := hl
  unfold gX10_oneTurn at hF
  refine lv_aload_n hx hb dX10_oneTurn_0 rfl (lv_at hl 0 rfl) ?_
  refine lv_dup hx hb dX10_oneTurn_1 rfl ?_
  refine va_get (D := D) (ci := 10) (v := .int (S0 0 4)) (C := RX10) (T := TX10) (N := 58) hx hb hts iX10_oneTurn_10 hown hK hP 0 rfl rfl 4 (by decide) (hts (.fieldLink RX10 163 "FondsRoomModel" "turn" "I") (List.mem_of_getElem? (i := 1) rfl)) (fun _ h9 => h9) rfl dX10_oneTurn_2 ?_
  refine lv_iconst (v := 1) hx hb dX10_oneTurn_5 (by decide) ?_
  refine lv_iadd hx hb dX10_oneTurn_6 ?_
  refine va_put (D := D) (ci := 10) (v := .int ((S0 0 4) + 1)) (ty := .int) (C := RX10) (T := TX10) (N := 58) hx hb hts iX10_oneTurn_10 tyX10 tyX10_ok nmX10 hown hK hP hD hS 0 rfl rfl 4 (by decide) (hts (.fieldLink RX10 163 "FondsRoomModel" "turn" "I") (List.mem_of_getElem? (i := 1) rfl)) (fun _ h9 => h9) rfl (by decide +kernel) rfl rfl (Nat.le_of_ble_eq_true rfl) dX10_oneTurn_7 (fun H locs hP hD hS => ?_)
  obtain ⟨S1, eS1⟩ : ∃ z, z = wr S0 0 4 ((S0 0 4) + 1) := ⟨_, rfl⟩
  replace hF := bnd_s hF S1 eS1
  have hP : va_P D vwCl (YW y cy S1) H := by rw [eS1]; exact hP
  have hD : va_D (va_A (YW y cy S0) s.heap.size) (YW y cy S1) := by rw [eS1]; exact hD
  refine lv_aload_n hx hb dX10_oneTurn_10 rfl (lv_at hl 0 rfl) ?_
  obtain ⟨S3, hq5, hF⟩ := bd1_s hF
  refine gvV (As := []) (rest := []) ⟨hx, hb, hml, hown, hts⟩ (zX10_doMishaps l D y cy S1 _  S3 hq5) (cwV 0 hts gX10_oneTurn_X10_doMishaps rfl rfl rfl (by decide +kernel) ⟨Nat.le_of_ble_eq_true rfl, Nat.le_of_ble_eq_true rfl⟩) hK hP hD hS hA (va_recv hK hP (ci := 10) (q0 := 0) rfl rfl) rfl hl.1 rfl (Nat.le_of_ble_eq_true rfl) dX10_oneTurn_11 ⟨Nat.le_of_ble_eq_true rfl, Nat.le_of_ble_eq_true rfl⟩ (fun u9 H locs hw4 hP hD hS => ?_)
  have hP : va_P D vwCl (YW y cy S3) H := hP
  have hD : va_D _ (YW y cy S3) := hD
  refine lv_aload_n hx hb dX10_oneTurn_14 rfl (lv_at hl 0 rfl) ?_
  obtain ⟨S8, hq10, hF⟩ := bd1_s hF
  refine gvV (As := []) (rest := []) ⟨hx, hb, hml, hown, hts⟩ (zX10_doBell l D y cy S3 _  S8 hq10) (cwV 0 hts gX10_oneTurn_X10_doBell rfl rfl rfl (by decide +kernel) ⟨Nat.le_of_ble_eq_true rfl, Nat.le_of_ble_eq_true rfl⟩) hK hP hD hS hA (va_recv hK hP (ci := 10) (q0 := 0) rfl rfl) rfl hl.1 rfl (Nat.le_of_ble_eq_true rfl) dX10_oneTurn_15 ⟨Nat.le_of_ble_eq_true rfl, Nat.le_of_ble_eq_true rfl⟩ (fun u9 H locs hw9 hP hD hS => ?_)
  have hP : va_P D vwCl (YW y cy S8) H := hP
  have hD : va_D _ (YW y cy S8) := hD
  refine lv_aload_n hx hb dX10_oneTurn_18 rfl (lv_at hl 0 rfl) ?_
  obtain ⟨S13, hq15, hF⟩ := bd1_s hF
  refine gvV (As := []) (rest := []) ⟨hx, hb, hml, hown, hts⟩ (zX10_doFetchers l D y cy S8 _  S13 hq15) (cwV 0 hts gX10_oneTurn_X10_doFetchers rfl rfl rfl (by decide +kernel) ⟨Nat.le_of_ble_eq_true rfl, Nat.le_of_ble_eq_true rfl⟩) hK hP hD hS hA (va_recv hK hP (ci := 10) (q0 := 0) rfl rfl) rfl hl.1 rfl (Nat.le_of_ble_eq_true rfl) dX10_oneTurn_19 ⟨Nat.le_of_ble_eq_true rfl, Nat.le_of_ble_eq_true rfl⟩ (fun u9 H locs hw14 hP hD hS => ?_)
  have hP : va_P D vwCl (YW y cy S13) H := hP
  have hD : va_D _ (YW y cy S13) := hD
  refine lv_aload_n hx hb dX10_oneTurn_22 rfl (lv_at hl 0 rfl) ?_
  obtain ⟨S18, hq20, hF⟩ := bd1_s hF
  refine gvV (As := []) (rest := []) ⟨hx, hb, hml, hown, hts⟩ (zX10_doCopyists l D y cy S13 _  S18 hq20) (cwV 0 hts gX10_oneTurn_X10_doCopyists rfl rfl rfl (by decide +kernel) ⟨Nat.le_of_ble_eq_true rfl, Nat.le_of_ble_eq_true rfl⟩) hK hP hD hS hA (va_recv hK hP (ci := 10) (q0 := 0) rfl rfl) rfl hl.1 rfl (Nat.le_of_ble_eq_true rfl) dX10_oneTurn_23 ⟨Nat.le_of_ble_eq_true rfl, Nat.le_of_ble_eq_true rfl⟩ (fun u9 H locs hw19 hP hD hS => ?_)
  have hP : va_P D vwCl (YW y cy S18) H := hP
  have hD : va_D _ (YW y cy S18) := hD
  refine lv_iconst (v := 0) hx hb dX10_oneTurn_26 (by decide) ?_
  refine lv_istore_n (lv' := [(1, .int 0), (0, .ref (y 0))]) hx hb dX10_oneTurn_27 rfl hl (by decide) rfl (fun ls hl => ?_)
  refine key28 _ ?_ 1000 0 S18 _ _ _ hF hP hD hS (lv_sub hl [0, 1] rfl)
  intro S35 H locs ls hF hP hD hS hl
  refine lv_iconst (v := 0) hx hb dX10_oneTurn_82 (by decide) ?_
  refine lv_istore_n (lv' := [(1, .int 0), (0, .ref (y 0))]) hx hb dX10_oneTurn_83 rfl hl (by decide) rfl (fun ls hl => ?_)
  refine key84 _ ?_ 1000 0 S35 _ _ _ hF hP hD hS (lv_sub hl [0, 1] rfl)
  intro S42 H locs ls hF hP hD hS hl
  refine lv_iconst (v := 0) hx hb dX10_oneTurn_103 (by decide) ?_
  refine lv_istore_n (lv' := [(1, .int 0), (0, .ref (y 0))]) hx hb dX10_oneTurn_104 rfl hl (by decide) rfl (fun ls hl => ?_)
  refine key105 _ ?_ 1000 0 S42 _ _ _ hF hP hD hS (lv_sub hl [0, 1] rfl)
  intro S59 H locs ls hF hP hD hS hl
  refine lv_aload_n hx hb dX10_oneTurn_169 rfl (lv_at hl 0 rfl) ?_
  obtain ⟨S61, hq63, hF⟩ := bd1_s hF
  refine gvV (As := []) (rest := []) ⟨hx, hb, hml, hown, hts⟩ (zX10_doDesks l D y cy S59 _  S61 hq63) (cwV 0 hts gX10_oneTurn_X10_doDesks rfl rfl rfl (by decide +kernel) ⟨Nat.le_of_ble_eq_true rfl, Nat.le_of_ble_eq_true rfl⟩) hK hP hD hS hA (va_recv hK hP (ci := 10) (q0 := 0) rfl rfl) rfl hl.1 rfl (Nat.le_of_ble_eq_true rfl) dX10_oneTurn_170 ⟨Nat.le_of_ble_eq_true rfl, Nat.le_of_ble_eq_true rfl⟩ (fun u9 H locs hw62 hP hD hS => ?_)
  have hP : va_P D vwCl (YW y cy S61) H := hP
  have hD : va_D _ (YW y cy S61) := hD
  refine lv_aload_n hx hb dX10_oneTurn_173 rfl (lv_at hl 0 rfl) ?_
  obtain ⟨S66, hq68, hF⟩ := bd1_s hF
  refine gvV (As := []) (rest := []) ⟨hx, hb, hml, hown, hts⟩ (zX10_doWays l D y cy S61 _  S66 hq68) (cwV 0 hts gX10_oneTurn_X10_doWays rfl rfl rfl (by decide +kernel) ⟨Nat.le_of_ble_eq_true rfl, Nat.le_of_ble_eq_true rfl⟩) hK hP hD hS hA (va_recv hK hP (ci := 10) (q0 := 0) rfl rfl) rfl hl.1 rfl (Nat.le_of_ble_eq_true rfl) dX10_oneTurn_174 ⟨Nat.le_of_ble_eq_true rfl, Nat.le_of_ble_eq_true rfl⟩ (fun u9 H locs hw67 hP hD hS => ?_)
  have hP : va_P D vwCl (YW y cy S66) H := hP
  have hD : va_D _ (YW y cy S66) := hD
  refine lv_aload_n hx hb dX10_oneTurn_177 rfl (lv_at hl 0 rfl) ?_
  obtain ⟨S71, hq73, hF⟩ := bd1_s hF
  refine gvV (As := []) (rest := []) ⟨hx, hb, hml, hown, hts⟩ (zX10_doCopies l D y cy S66 _  S71 hq73) (cwV 0 hts gX10_oneTurn_X10_doCopies rfl rfl rfl (by decide +kernel) ⟨Nat.le_of_ble_eq_true rfl, Nat.le_of_ble_eq_true rfl⟩) hK hP hD hS hA (va_recv hK hP (ci := 10) (q0 := 0) rfl rfl) rfl hl.1 rfl (Nat.le_of_ble_eq_true rfl) dX10_oneTurn_178 ⟨Nat.le_of_ble_eq_true rfl, Nat.le_of_ble_eq_true rfl⟩ (fun u9 H locs hw72 hP hD hS => ?_)
  have hP : va_P D vwCl (YW y cy S71) H := hP
  have hD : va_D _ (YW y cy S71) := hD
  refine lv_iconst (v := 0) hx hb dX10_oneTurn_181 (by decide) ?_
  refine lv_istore_n (lv' := [(1, .int 0), (0, .ref (y 0))]) hx hb dX10_oneTurn_182 rfl hl (by decide) rfl (fun ls hl => ?_)
  refine key183 _ ?_ 1000 0 S71 _ _ _ hF hP hD hS (lv_sub hl [0, 1] rfl)
  intro S97 H locs ls hF hP hD hS hl
  have e2 := Option.some.inj hF
  have hP : va_P D vwCl (YW y cy Sf) H := by rw [← e2]; exact hP
  have hD : va_D (va_A (YW y cy S0) s.heap.size) (YW y cy Sf) := by rw [← e2]; exact hD
  exact W.vret hx hb hr (fun t ht hW => ⟨⟨(), rfl, trivial, by rw [ht]; exact hP, va_K.moved hW.alike hK, hD⟩, hS.F ht⟩) hS.2.2 dX10_oneTurn_260

theorem iX10_run_10 : ∀ w ∈ wsX100, w ∈ wsX10_run := fun _ h => List.mem_cons_of_mem _ (List.mem_append_right _ h)
set_option maxHeartbeats 8000000 in
set_option maxRecDepth 100000 in
theorem zX10_run (l : Launch) (D : va_G) (y : Nat → Nat) (cy : Nat → ClassId) (S0 : RS) (sz : Nat) (p1 : Int32) (rv : Int32) (Sf : RS) (hF : gX10_run S0 p1 = some (rv, Sf)) : Met l yX10_run wsX10_run ({ frames := 5, cells := 0, slots := 0, locals := 114 }) (PW D (TYS cy) (YW y cy S0) sz [.ref (y 0), .int p1]) (va_Qi (fun (res : Int32) (u : Unit) => res = rv) (BU D (TYS cy) (YW y cy S0) (fun _ => YW y cy Sf) sz) (va_A (YW y cy S0) sz)) 0 0 (va_A (YW y cy S0) sz) := by
  refine Met.ofW (cc := cX10_run) (maxL := 3) (ret := (some .int)) (by decide) rfl ?_
  intro p e s m args below meth c s₁ B hml hv
  obtain ⟨rfl, hsz, hP, hK, hD0⟩ := hv
  have hx := B.exec
  have hb := B.bytes
  have hr := B.returns
  have hts := atoms_spec (ws := wsX10_run) B.pre
  have hown : s.vm.findClass RX10 = some m.cls := findClass_of_methodNamed B.named
  have hlocks := B.notSynchronized
  subst hsz
  have hD := hD0.self (sz := s.heap.size)
  have hA : ∀ q9 : Nat, s.heap.size ≤ q9 → va_A (YW y cy S0) s.heap.size q9 := fun q9 h => Or.inr h
  have hS : va_S (va_A (YW y cy S0) s.heap.size) s.heap s.heap [] := va_S.rf
  have key20 : ∀ (K : RS → Option (Int32 × RS)), (∀  (S : RS) (H : Heap) (locs : List Loc) (ls : Array Slot), K  S = some (rv, Sf) → va_P D vwCl (YW y cy S) H → va_D (va_A (YW y cy S0) s.heap.size) (YW y cy S) → va_S (va_A (YW y cy S0) s.heap.size) s.heap H locs → lv_has ls 3 [(0, .ref (y 0))] → W p l e (headSpec wsX10_run ({ frames := 5, cells := 0, slots := 0, locals := 114 })).room s m #[.ref (y 0), .int p1] below meth c H locs 0 0 (MQ below (va_Qi (fun (res : Int32) (u : Unit) => res = rv) (BU D (TYS cy) (YW y cy S0) (fun _ => YW y cy Sf) s.heap.size) (va_A (YW y cy S0) s.heap.size)) #[.ref (y 0), .int p1] s 0 0 (va_A (YW y cy S0) s.heap.size)) (F0 m 35 ls [])) → ∀ (fu : Nat) (v1 : Int32) (v2 : Int32) (S : RS) (H : Heap) (locs : List Loc) (ls : Array Slot), gX10_run_20 K fu v1 v2 S = some (rv, Sf) → va_P D vwCl (YW y cy S) H → va_D (va_A (YW y cy S0) s.heap.size) (YW y cy S) → va_S (va_A (YW y cy S0) s.heap.size) s.heap H locs → lv_has ls 3 [(1, .int v1), (2, .int v2), (0, .ref (y 0))] → W p l e (headSpec wsX10_run ({ frames := 5, cells := 0, slots := 0, locals := 114 })).room s m #[.ref (y 0), .int p1] below meth c H locs 0 0 (MQ below (va_Qi (fun (res : Int32) (u : Unit) => res = rv) (BU D (TYS cy) (YW y cy S0) (fun _ => YW y cy Sf) s.heap.size) (va_A (YW y cy S0) s.heap.size)) #[.ref (y 0), .int p1] s 0 0 (va_A (YW y cy S0) s.heap.size)) (F0 m 20 ls []) := by
    intro K hKK fu
    induction fu with
    | zero =>
      intro v1 v2 S H locs ls hF
      exact absurd (show (none : Option (Int32 × RS)) = some (rv, Sf) from hF) (by simp)
    | succ fu20 ih20 =>
      intro v1 v2 S H locs ls hF hP hD hS hl
      rw [gX10_run_20] at hF
      refine lv_iload_n hx hb dX10_run_20 rfl (lv_at hl 1 rfl) ?_
      refine lv_iload_n hx hb dX10_run_21 rfl (lv_at hl 0 rfl) ?_
      refine lv_icmp_ge (tgt := 35) hx hb dX10_run_22 (by decide) (fun c8 => ?_) (fun c8 => ?_)
      · skip
        have hF := (if_pos c8).symm.trans hF
        exact hKK  S _ _ _ hF hP hD hS (lv_sub hl [2] rfl)
      · skip
        have hF := (if_neg c8).symm.trans hF
        refine lv_aload_n hx hb dX10_run_25 rfl (lv_at hl 2 rfl) ?_
        obtain ⟨S10, hq12, hF⟩ := bd1_s hF
        refine gvV (As := []) (rest := []) ⟨hx, hb, hml, hown, hts⟩ (zX10_oneTurn l D y cy S _  S10 hq12) (cwV 0 hts gX10_run_X10_oneTurn rfl rfl rfl (by decide +kernel) ⟨Nat.le_of_ble_eq_true rfl, Nat.le_of_ble_eq_true rfl⟩) hK hP hD hS hA (va_recv hK hP (ci := 10) (q0 := 0) rfl rfl) rfl hl.1 rfl (Nat.le_of_ble_eq_true rfl) dX10_run_26 ⟨Nat.le_of_ble_eq_true rfl, Nat.le_of_ble_eq_true rfl⟩ (fun u9 H locs hw11 hP hD hS => ?_)
        have hP : va_P D vwCl (YW y cy S10) H := hP
        have hD : va_D _ (YW y cy S10) := hD
        refine lv_iinc (v := v2 + 1) (lv' := [(2, .int (v2 + 1)), (1, .int v1), (0, .ref (y 0))]) hx hb dX10_run_29 hl (k := 1) rfl rfl (by decide) rfl (fun ls hl => ?_)
        refine lv_goto (tgt := 20) hx hb dX10_run_32 (by decide) ?_
        exact ih20 v1 (v2 + 1) S10 _ _ _ hF hP hD hS (lv_sub hl [1, 0, 2] rfl)
  have hl := lv_entry ([.ref (y 0), .int p1]) (n := 3) (Nat.le_of_ble_eq_true rfl)
  rw [lg_entry_eq]
  generalize (lg_sl ([.ref (y 0), .int p1]) ++ List.replicate (3 - (lg_sl ([.ref (y 0), .int p1])).length) Slot.unset).toArray = ls at hl ⊢
  have hl : lv_has ls 3 [(0, .ref (y 0)), (1, .int p1)] := hl
  unfold gX10_run at hF
  refine lv_aload_n hx hb dX10_run_0 rfl (lv_at hl 0 rfl) ?_
  refine lv_iconst (v := 0) hx hb dX10_run_1 (by decide) ?_
  refine va_put (D := D) (ci := 10) (v := .int 0) (ty := .int) (C := RX10) (T := TX10) (N := 58) hx hb hts iX10_run_10 tyX10 tyX10_ok nmX10 hown hK hP hD hS 0 rfl rfl 0 (by decide) (hts (.fieldLink RX10 150 "FondsRoomModel" "thrown" "I") (List.mem_of_getElem? (i := 1) rfl)) (fun _ h9 => h9) rfl (by decide +kernel) rfl rfl (Nat.le_of_ble_eq_true rfl) dX10_run_2 (fun H locs hP hD hS => ?_)
  obtain ⟨S1, eS1⟩ : ∃ z, z = wr S0 0 0 0 := ⟨_, rfl⟩
  replace hF := bnd_s hF S1 eS1
  have hP : va_P D vwCl (YW y cy S1) H := by rw [eS1]; exact hP
  have hD : va_D (va_A (YW y cy S0) s.heap.size) (YW y cy S1) := by rw [eS1]; exact hD
  refine lv_iload_n hx hb dX10_run_5 rfl (lv_at hl 1 rfl) ?_
  refine lv_iconst (v := 0) hx hb dX10_run_6 (by decide) ?_
  refine lv_sipush (v := 200) hx hb dX10_run_7 (by decide) ?_
  obtain ⟨r2, hq5, hF⟩ := bd1_s hF
  refine gsI (As := [.int p1, .int 0, .int 200]) (rest := []) ⟨hx, hb, hml, hown, hts⟩ (zX10_in l D y cy S1 _ p1 0 200 r2 hq5) (va_cwS 3 hts gX10_run_X10_in rfl rfl rfl (by decide +kernel) ⟨Nat.le_of_ble_eq_true rfl, Nat.le_of_ble_eq_true rfl⟩) hK hP hD hS hA rfl hl.1 rfl (Nat.le_of_ble_eq_true rfl) dX10_run_10 ⟨Nat.le_of_ble_eq_true rfl, Nat.le_of_ble_eq_true rfl⟩ (fun a6 u9 H locs hw4 hP hD hS => ?_)
  have hP : va_P D vwCl (YW y cy S1) H := hP
  have hD : va_D _ (YW y cy S1) := hD
  refine lv_tov (v' := .int r2) (congrArg Value.int hw4.1) ?_
  refine lv_if_ne (tgt := 18) hx hb dX10_run_13 (by decide) (fun c7 => ?_) (fun c7 => ?_)
  · skip
    have hF := (if_neg c7).symm.trans hF
    refine lv_iconst (v := 0) hx hb dX10_run_18 (by decide) ?_
    refine lv_istore_n (lv' := [(2, .int 0), (0, .ref (y 0)), (1, .int p1)]) hx hb dX10_run_19 rfl hl (by decide) rfl (fun ls hl => ?_)
    refine key20 _ ?_ 1000 p1 0 S1 _ _ _ hF hP hD hS (lv_sub hl [2, 0, 1] rfl)
    intro S14 H locs ls hF hP hD hS hl
    refine lv_aload_n hx hb dX10_run_35 rfl (lv_at hl 0 rfl) ?_
    refine va_get (D := D) (ci := 10) (v := .int (S14 0 4)) (C := RX10) (T := TX10) (N := 58) hx hb hts iX10_run_10 hown hK hP 0 rfl rfl 4 (by decide) (hts (.fieldLink RX10 163 "FondsRoomModel" "turn" "I") (List.mem_of_getElem? (i := 2) rfl)) (fun _ h9 => h9) rfl dX10_run_36 ?_
    obtain ⟨e1, e2⟩ := ret2 hF
    have hP : va_P D vwCl (YW y cy Sf) H := by rw [← e2]; exact hP
    have hD : va_D (va_A (YW y cy S0) s.heap.size) (YW y cy Sf) := by rw [← e2]; exact hD
    exact W.iret (v := (S14 0 4)) hx hb hr (fun t ht hW => ⟨⟨(S14 0 4), (), rfl, e1, by rw [ht]; exact hP, va_K.moved hW.alike hK, hD⟩, hS.F ht⟩) hS.2.2 dX10_run_39
  · skip
    have hF := (if_pos c7).symm.trans hF
    refine lv_iconst (v := (-1)) hx hb dX10_run_16 (by decide) ?_
    obtain ⟨e1, e2⟩ := ret2 hF
    have hP : va_P D vwCl (YW y cy Sf) H := by rw [← e2]; exact hP
    have hD : va_D (va_A (YW y cy S0) s.heap.size) (YW y cy Sf) := by rw [← e2]; exact hD
    exact W.iret (v := (-1)) hx hb hr (fun t ht hW => ⟨⟨(-1), (), rfl, e1, by rw [ht]; exact hP, va_K.moved hW.alike hK, hD⟩, hS.F ht⟩) hS.2.2 dX10_run_17

theorem iX10_about_10 : ∀ w ∈ wsX100, w ∈ wsX10_about := fun _ h => List.mem_cons_of_mem _ (List.mem_append_right _ h)
set_option maxHeartbeats 8000000 in
set_option maxRecDepth 100000 in
theorem zX10_about (l : Launch) (D : va_G) (y : Nat → Nat) (cy : Nat → ClassId) (S0 : RS) (sz : Nat) (p1 p2 : Int32) (rv : Int32) (Sf : RS) (hF : gX10_about S0 p1 p2 = some (rv, Sf)) : Met l yX10_about wsX10_about ({ frames := 2, cells := 0, slots := 0, locals := 43 }) (PW D (TYS cy) (YW y cy S0) sz [.ref (y 0), .int p1, .int p2]) (va_Qi (fun (res : Int32) (u : Unit) => res = rv) (BU D (TYS cy) (YW y cy S0) (fun _ => YW y cy Sf) sz) (va_A (YW y cy S0) sz)) 0 0 (va_A (YW y cy S0) sz) := by
  refine Met.ofW (cc := cX10_about) (maxL := 3) (ret := (some .int)) (by decide) rfl ?_
  intro p e s m args below meth c s₁ B hml hv
  obtain ⟨rfl, hsz, hP, hK, hD0⟩ := hv
  have hx := B.exec
  have hb := B.bytes
  have hr := B.returns
  have hts := atoms_spec (ws := wsX10_about) B.pre
  have hown : s.vm.findClass RX10 = some m.cls := findClass_of_methodNamed B.named
  have hlocks := B.notSynchronized
  subst hsz
  have hD := hD0.self (sz := s.heap.size)
  have hA : ∀ q9 : Nat, s.heap.size ≤ q9 → va_A (YW y cy S0) s.heap.size q9 := fun q9 h => Or.inr h
  have hS : va_S (va_A (YW y cy S0) s.heap.size) s.heap s.heap [] := va_S.rf
  have hl := lv_entry ([.ref (y 0), .int p1, .int p2]) (n := 3) (Nat.le_of_ble_eq_true rfl)
  rw [lg_entry_eq]
  generalize (lg_sl ([.ref (y 0), .int p1, .int p2]) ++ List.replicate (3 - (lg_sl ([.ref (y 0), .int p1, .int p2])).length) Slot.unset).toArray = ls at hl ⊢
  have hl : lv_has ls 3 [(0, .ref (y 0)), (1, .int p1), (2, .int p2)] := hl
  unfold gX10_about at hF
  refine lv_aload_n hx hb dX10_about_0 rfl (lv_at hl 0 rfl) ?_
  refine lv_iconst (v := 0) hx hb dX10_about_1 (by decide) ?_
  refine va_put (D := D) (ci := 10) (v := .int 0) (ty := .int) (C := RX10) (T := TX10) (N := 58) hx hb hts iX10_about_10 tyX10 tyX10_ok nmX10 hown hK hP hD hS 0 rfl rfl 0 (by decide) (hts (.fieldLink RX10 150 "FondsRoomModel" "thrown" "I") (List.mem_of_getElem? (i := 1) rfl)) (fun _ h9 => h9) rfl (by decide +kernel) rfl rfl (Nat.le_of_ble_eq_true rfl) dX10_about_2 (fun H locs hP hD hS => ?_)
  obtain ⟨S1, eS1⟩ : ∃ z, z = wr S0 0 0 0 := ⟨_, rfl⟩
  replace hF := bnd_s hF S1 eS1
  have hP : va_P D vwCl (YW y cy S1) H := by rw [eS1]; exact hP
  have hD : va_D (va_A (YW y cy S0) s.heap.size) (YW y cy S1) := by rw [eS1]; exact hD
  refine lv_aload_n hx hb dX10_about_5 rfl (lv_at hl 0 rfl) ?_
  refine lv_iload_n hx hb dX10_about_6 rfl (lv_at hl 1 rfl) ?_
  obtain ⟨r2, hq5, hF⟩ := bd1_s hF
  refine gvI (As := [.int p1]) (rest := []) ⟨hx, hb, hml, hown, hts⟩ (zX10_isReader l D y cy S1 _ p1 r2 hq5) (cwV 1 hts gX10_about_X10_isReader rfl rfl rfl (by decide +kernel) ⟨Nat.le_of_ble_eq_true rfl, Nat.le_of_ble_eq_true rfl⟩) hK hP hD hS hA (va_recv hK hP (ci := 10) (q0 := 0) rfl rfl) rfl hl.1 rfl (Nat.le_of_ble_eq_true rfl) dX10_about_7 ⟨Nat.le_of_ble_eq_true rfl, Nat.le_of_ble_eq_true rfl⟩ (fun a6 u9 H locs hw4 hP hD hS => ?_)
  have hP : va_P D vwCl (YW y cy S1) H := hP
  have hD : va_D _ (YW y cy S1) := hD
  refine lv_tov (v' := .int r2) (congrArg Value.int hw4.1) ?_
  refine lv_if_ne (tgt := 15) hx hb dX10_about_10 (by decide) (fun c7 => ?_) (fun c7 => ?_)
  · skip
    have hF := (if_neg c7).symm.trans hF
    refine lv_iload_n hx hb dX10_about_15 rfl (lv_at hl 2 rfl) ?_
    by_cases j8 : p2 = 0
    · skip
      have hF := (if_pos j8).symm.trans hF
      refine lv_tableIn (tgt := 76) hx hb dX10_about_16 (by rw [j8]; decide) (by rw [j8]; decide) (by rw [j8]; rfl) (by decide) ?_
      refine lv_aload_n hx hb dX10_about_76 rfl (lv_at hl 0 rfl) ?_
      refine va_get (D := D) (ci := 10) (v := .ref (y 15)) (C := RX10) (T := TX10) (N := 58) hx hb hts iX10_about_10 hown hK hP 0 rfl rfl 27 (by decide) (hts (.fieldLink RX10 66 "FondsRoomModel" "state" "[I") (List.mem_of_getElem? (i := 2) rfl)) (fun _ h9 => h9) rfl dX10_about_77 ?_
      refine lv_iload_n hx hb dX10_about_80 rfl (lv_at hl 1 rfl) ?_
      obtain ⟨hi10, hF⟩ := ld_s hF
      refine va_iald hx hb hK hP 15 0 rfl rfl hi10 dX10_about_81 ?_
      refine lv_topi (fun y9 ey9 => ?_)
      replace hF := hF y9 ey9
      obtain ⟨e1, e2⟩ := ret2 hF
      have hP : va_P D vwCl (YW y cy Sf) H := by rw [← e2]; exact hP
      have hD : va_D (va_A (YW y cy S0) s.heap.size) (YW y cy Sf) := by rw [← e2]; exact hD
      exact W.iret (v := y9) hx hb hr (fun t ht hW => ⟨⟨y9, (), rfl, e1, by rw [ht]; exact hP, va_K.moved hW.alike hK, hD⟩, hS.F ht⟩) hS.2.2 dX10_about_82
    replace hF := (if_neg j8).symm.trans hF
    by_cases j11 : p2 = 1
    · skip
      have hF := (if_pos j11).symm.trans hF
      refine lv_tableIn (tgt := 83) hx hb dX10_about_16 (by rw [j11]; decide) (by rw [j11]; decide) (by rw [j11]; rfl) (by decide) ?_
      refine lv_aload_n hx hb dX10_about_83 rfl (lv_at hl 0 rfl) ?_
      refine va_get (D := D) (ci := 10) (v := .ref (y 16)) (C := RX10) (T := TX10) (N := 58) hx hb hts iX10_about_10 hown hK hP 0 rfl rfl 28 (by decide) (hts (.fieldLink RX10 69 "FondsRoomModel" "desk" "[I") (List.mem_of_getElem? (i := 3) rfl)) (fun _ h9 => h9) rfl dX10_about_84 ?_
      refine lv_iload_n hx hb dX10_about_87 rfl (lv_at hl 1 rfl) ?_
      obtain ⟨hi13, hF⟩ := ld_s hF
      refine va_iald hx hb hK hP 16 0 rfl rfl hi13 dX10_about_88 ?_
      refine lv_topi (fun y12 ey12 => ?_)
      replace hF := hF y12 ey12
      obtain ⟨e1, e2⟩ := ret2 hF
      have hP : va_P D vwCl (YW y cy Sf) H := by rw [← e2]; exact hP
      have hD : va_D (va_A (YW y cy S0) s.heap.size) (YW y cy Sf) := by rw [← e2]; exact hD
      exact W.iret (v := y12) hx hb hr (fun t ht hW => ⟨⟨y12, (), rfl, e1, by rw [ht]; exact hP, va_K.moved hW.alike hK, hD⟩, hS.F ht⟩) hS.2.2 dX10_about_89
    replace hF := (if_neg j11).symm.trans hF
    by_cases j14 : p2 = 2
    · skip
      have hF := (if_pos j14).symm.trans hF
      refine lv_tableIn (tgt := 90) hx hb dX10_about_16 (by rw [j14]; decide) (by rw [j14]; decide) (by rw [j14]; rfl) (by decide) ?_
      refine lv_aload_n hx hb dX10_about_90 rfl (lv_at hl 0 rfl) ?_
      refine va_get (D := D) (ci := 10) (v := .ref (y 18)) (C := RX10) (T := TX10) (N := 58) hx hb hts iX10_about_10 hown hK hP 0 rfl rfl 30 (by decide) (hts (.fieldLink RX10 75 "FondsRoomModel" "next" "[I") (List.mem_of_getElem? (i := 4) rfl)) (fun _ h9 => h9) rfl dX10_about_91 ?_
      refine lv_iload_n hx hb dX10_about_94 rfl (lv_at hl 1 rfl) ?_
      obtain ⟨hi16, hF⟩ := ld_s hF
      refine va_iald hx hb hK hP 18 0 rfl rfl hi16 dX10_about_95 ?_
      refine lv_topi (fun y15 ey15 => ?_)
      replace hF := hF y15 ey15
      obtain ⟨e1, e2⟩ := ret2 hF
      have hP : va_P D vwCl (YW y cy Sf) H := by rw [← e2]; exact hP
      have hD : va_D (va_A (YW y cy S0) s.heap.size) (YW y cy Sf) := by rw [← e2]; exact hD
      exact W.iret (v := y15) hx hb hr (fun t ht hW => ⟨⟨y15, (), rfl, e1, by rw [ht]; exact hP, va_K.moved hW.alike hK, hD⟩, hS.F ht⟩) hS.2.2 dX10_about_96
    replace hF := (if_neg j14).symm.trans hF
    by_cases j17 : p2 = 3
    · skip
      have hF := (if_pos j17).symm.trans hF
      refine lv_tableIn (tgt := 97) hx hb dX10_about_16 (by rw [j17]; decide) (by rw [j17]; decide) (by rw [j17]; rfl) (by decide) ?_
      refine lv_aload_n hx hb dX10_about_97 rfl (lv_at hl 0 rfl) ?_
      refine lv_iload_n hx hb dX10_about_98 rfl (lv_at hl 1 rfl) ?_
      obtain ⟨r18, hq21, hF⟩ := bd1_s hF
      refine gvI (As := [.int p1]) (rest := []) ⟨hx, hb, hml, hown, hts⟩ (zX10_hasMany l D y cy S1 _ p1 r18 hq21) (cwV 1 hts gX10_about_X10_hasMany rfl rfl rfl (by decide +kernel) ⟨Nat.le_of_ble_eq_true rfl, Nat.le_of_ble_eq_true rfl⟩) hK hP hD hS hA (va_recv hK hP (ci := 10) (q0 := 0) rfl rfl) rfl hl.1 rfl (Nat.le_of_ble_eq_true rfl) dX10_about_99 ⟨Nat.le_of_ble_eq_true rfl, Nat.le_of_ble_eq_true rfl⟩ (fun a22 u9 H locs hw20 hP hD hS => ?_)
      have hP : va_P D vwCl (YW y cy S1) H := hP
      have hD : va_D _ (YW y cy S1) := hD
      refine lv_tov (v' := .int r18) (congrArg Value.int hw20) ?_
      obtain ⟨e1, e2⟩ := ret2 hF
      have hP : va_P D vwCl (YW y cy Sf) H := by rw [← e2]; exact hP
      have hD : va_D (va_A (YW y cy S0) s.heap.size) (YW y cy Sf) := by rw [← e2]; exact hD
      exact W.iret (v := r18) hx hb hr (fun t ht hW => ⟨⟨r18, (), rfl, e1, by rw [ht]; exact hP, va_K.moved hW.alike hK, hD⟩, hS.F ht⟩) hS.2.2 dX10_about_102
    replace hF := (if_neg j17).symm.trans hF
    by_cases j23 : p2 = 4
    · skip
      have hF := (if_pos j23).symm.trans hF
      refine lv_tableIn (tgt := 103) hx hb dX10_about_16 (by rw [j23]; decide) (by rw [j23]; decide) (by rw [j23]; rfl) (by decide) ?_
      refine lv_aload_n hx hb dX10_about_103 rfl (lv_at hl 0 rfl) ?_
      refine va_get (D := D) (ci := 10) (v := .ref (y 19)) (C := RX10) (T := TX10) (N := 58) hx hb hts iX10_about_10 hown hK hP 0 rfl rfl 31 (by decide) (hts (.fieldLink RX10 78 "FondsRoomModel" "left" "[I") (List.mem_of_getElem? (i := 5) rfl)) (fun _ h9 => h9) rfl dX10_about_104 ?_
      refine lv_iload_n hx hb dX10_about_107 rfl (lv_at hl 1 rfl) ?_
      obtain ⟨hi25, hF⟩ := ld_s hF
      refine va_iald hx hb hK hP 19 0 rfl rfl hi25 dX10_about_108 ?_
      refine lv_topi (fun y24 ey24 => ?_)
      replace hF := hF y24 ey24
      obtain ⟨e1, e2⟩ := ret2 hF
      have hP : va_P D vwCl (YW y cy Sf) H := by rw [← e2]; exact hP
      have hD : va_D (va_A (YW y cy S0) s.heap.size) (YW y cy Sf) := by rw [← e2]; exact hD
      exact W.iret (v := y24) hx hb hr (fun t ht hW => ⟨⟨y24, (), rfl, e1, by rw [ht]; exact hP, va_K.moved hW.alike hK, hD⟩, hS.F ht⟩) hS.2.2 dX10_about_109
    replace hF := (if_neg j23).symm.trans hF
    by_cases j26 : p2 = 5
    · skip
      have hF := (if_pos j26).symm.trans hF
      refine lv_tableIn (tgt := 110) hx hb dX10_about_16 (by rw [j26]; decide) (by rw [j26]; decide) (by rw [j26]; rfl) (by decide) ?_
      refine lv_aload_n hx hb dX10_about_110 rfl (lv_at hl 0 rfl) ?_
      refine va_get (D := D) (ci := 10) (v := .ref (y 25)) (C := RX10) (T := TX10) (N := 58) hx hb hts iX10_about_10 hown hK hP 0 rfl rfl 37 (by decide) (hts (.fieldLink RX10 96 "FondsRoomModel" "waited" "[I") (List.mem_of_getElem? (i := 6) rfl)) (fun _ h9 => h9) rfl dX10_about_111 ?_
      refine lv_iconst (v := 3) hx hb dX10_about_114 (by decide) ?_
      refine lv_iload_n hx hb dX10_about_115 rfl (lv_at hl 1 rfl) ?_
      refine lv_imul hx hb dX10_about_116 ?_
      refine lv_iload_n hx hb dX10_about_117 rfl (lv_at hl 2 rfl) ?_
      refine lv_iadd hx hb dX10_about_118 ?_
      refine lv_iconst (v := 5) hx hb dX10_about_119 (by decide) ?_
      refine lv_isub hx hb dX10_about_120 ?_
      obtain ⟨hi28, hF⟩ := ld_s hF
      refine va_iald hx hb hK hP 25 0 rfl rfl hi28 dX10_about_121 ?_
      refine lv_topi (fun y27 ey27 => ?_)
      replace hF := hF y27 ey27
      obtain ⟨e1, e2⟩ := ret2 hF
      have hP : va_P D vwCl (YW y cy Sf) H := by rw [← e2]; exact hP
      have hD : va_D (va_A (YW y cy S0) s.heap.size) (YW y cy Sf) := by rw [← e2]; exact hD
      exact W.iret (v := y27) hx hb hr (fun t ht hW => ⟨⟨y27, (), rfl, e1, by rw [ht]; exact hP, va_K.moved hW.alike hK, hD⟩, hS.F ht⟩) hS.2.2 dX10_about_122
    replace hF := (if_neg j26).symm.trans hF
    by_cases j29 : p2 = 6
    · skip
      have hF := (if_pos j29).symm.trans hF
      refine lv_tableIn (tgt := 110) hx hb dX10_about_16 (by rw [j29]; decide) (by rw [j29]; decide) (by rw [j29]; rfl) (by decide) ?_
      refine lv_aload_n hx hb dX10_about_110 rfl (lv_at hl 0 rfl) ?_
      refine va_get (D := D) (ci := 10) (v := .ref (y 25)) (C := RX10) (T := TX10) (N := 58) hx hb hts iX10_about_10 hown hK hP 0 rfl rfl 37 (by decide) (hts (.fieldLink RX10 96 "FondsRoomModel" "waited" "[I") (List.mem_of_getElem? (i := 6) rfl)) (fun _ h9 => h9) rfl dX10_about_111 ?_
      refine lv_iconst (v := 3) hx hb dX10_about_114 (by decide) ?_
      refine lv_iload_n hx hb dX10_about_115 rfl (lv_at hl 1 rfl) ?_
      refine lv_imul hx hb dX10_about_116 ?_
      refine lv_iload_n hx hb dX10_about_117 rfl (lv_at hl 2 rfl) ?_
      refine lv_iadd hx hb dX10_about_118 ?_
      refine lv_iconst (v := 5) hx hb dX10_about_119 (by decide) ?_
      refine lv_isub hx hb dX10_about_120 ?_
      obtain ⟨hi31, hF⟩ := ld_s hF
      refine va_iald hx hb hK hP 25 0 rfl rfl hi31 dX10_about_121 ?_
      refine lv_topi (fun y30 ey30 => ?_)
      replace hF := hF y30 ey30
      obtain ⟨e1, e2⟩ := ret2 hF
      have hP : va_P D vwCl (YW y cy Sf) H := by rw [← e2]; exact hP
      have hD : va_D (va_A (YW y cy S0) s.heap.size) (YW y cy Sf) := by rw [← e2]; exact hD
      exact W.iret (v := y30) hx hb hr (fun t ht hW => ⟨⟨y30, (), rfl, e1, by rw [ht]; exact hP, va_K.moved hW.alike hK, hD⟩, hS.F ht⟩) hS.2.2 dX10_about_122
    replace hF := (if_neg j29).symm.trans hF
    by_cases j32 : p2 = 7
    · skip
      have hF := (if_pos j32).symm.trans hF
      refine lv_tableIn (tgt := 110) hx hb dX10_about_16 (by rw [j32]; decide) (by rw [j32]; decide) (by rw [j32]; rfl) (by decide) ?_
      refine lv_aload_n hx hb dX10_about_110 rfl (lv_at hl 0 rfl) ?_
      refine va_get (D := D) (ci := 10) (v := .ref (y 25)) (C := RX10) (T := TX10) (N := 58) hx hb hts iX10_about_10 hown hK hP 0 rfl rfl 37 (by decide) (hts (.fieldLink RX10 96 "FondsRoomModel" "waited" "[I") (List.mem_of_getElem? (i := 6) rfl)) (fun _ h9 => h9) rfl dX10_about_111 ?_
      refine lv_iconst (v := 3) hx hb dX10_about_114 (by decide) ?_
      refine lv_iload_n hx hb dX10_about_115 rfl (lv_at hl 1 rfl) ?_
      refine lv_imul hx hb dX10_about_116 ?_
      refine lv_iload_n hx hb dX10_about_117 rfl (lv_at hl 2 rfl) ?_
      refine lv_iadd hx hb dX10_about_118 ?_
      refine lv_iconst (v := 5) hx hb dX10_about_119 (by decide) ?_
      refine lv_isub hx hb dX10_about_120 ?_
      obtain ⟨hi34, hF⟩ := ld_s hF
      refine va_iald hx hb hK hP 25 0 rfl rfl hi34 dX10_about_121 ?_
      refine lv_topi (fun y33 ey33 => ?_)
      replace hF := hF y33 ey33
      obtain ⟨e1, e2⟩ := ret2 hF
      have hP : va_P D vwCl (YW y cy Sf) H := by rw [← e2]; exact hP
      have hD : va_D (va_A (YW y cy S0) s.heap.size) (YW y cy Sf) := by rw [← e2]; exact hD
      exact W.iret (v := y33) hx hb hr (fun t ht hW => ⟨⟨y33, (), rfl, e1, by rw [ht]; exact hP, va_K.moved hW.alike hK, hD⟩, hS.F ht⟩) hS.2.2 dX10_about_122
    replace hF := (if_neg j32).symm.trans hF
    by_cases j35 : p2 = 8
    · skip
      have hF := (if_pos j35).symm.trans hF
      refine lv_tableIn (tgt := 123) hx hb dX10_about_16 (by rw [j35]; decide) (by rw [j35]; decide) (by rw [j35]; rfl) (by decide) ?_
      refine lv_aload_n hx hb dX10_about_123 rfl (lv_at hl 0 rfl) ?_
      refine va_get (D := D) (ci := 10) (v := .ref (y 21)) (C := RX10) (T := TX10) (N := 58) hx hb hts iX10_about_10 hown hK hP 0 rfl rfl 33 (by decide) (hts (.fieldLink RX10 84 "FondsRoomModel" "overtaken" "[I") (List.mem_of_getElem? (i := 7) rfl)) (fun _ h9 => h9) rfl dX10_about_124 ?_
      refine lv_iload_n hx hb dX10_about_127 rfl (lv_at hl 1 rfl) ?_
      obtain ⟨hi37, hF⟩ := ld_s hF
      refine va_iald hx hb hK hP 21 0 rfl rfl hi37 dX10_about_128 ?_
      refine lv_topi (fun y36 ey36 => ?_)
      replace hF := hF y36 ey36
      obtain ⟨e1, e2⟩ := ret2 hF
      have hP : va_P D vwCl (YW y cy Sf) H := by rw [← e2]; exact hP
      have hD : va_D (va_A (YW y cy S0) s.heap.size) (YW y cy Sf) := by rw [← e2]; exact hD
      exact W.iret (v := y36) hx hb hr (fun t ht hW => ⟨⟨y36, (), rfl, e1, by rw [ht]; exact hP, va_K.moved hW.alike hK, hD⟩, hS.F ht⟩) hS.2.2 dX10_about_129
    replace hF := (if_neg j35).symm.trans hF
    by_cases j38 : p2 = 9
    · skip
      have hF := (if_pos j38).symm.trans hF
      refine lv_tableIn (tgt := 130) hx hb dX10_about_16 (by rw [j38]; decide) (by rw [j38]; decide) (by rw [j38]; rfl) (by decide) ?_
      refine lv_aload_n hx hb dX10_about_130 rfl (lv_at hl 0 rfl) ?_
      refine va_get (D := D) (ci := 10) (v := .ref (y 22)) (C := RX10) (T := TX10) (N := 58) hx hb hts iX10_about_10 hown hK hP 0 rfl rfl 34 (by decide) (hts (.fieldLink RX10 87 "FondsRoomModel" "madeFor" "[I") (List.mem_of_getElem? (i := 8) rfl)) (fun _ h9 => h9) rfl dX10_about_131 ?_
      refine lv_iload_n hx hb dX10_about_134 rfl (lv_at hl 1 rfl) ?_
      obtain ⟨hi40, hF⟩ := ld_s hF
      refine va_iald hx hb hK hP 22 0 rfl rfl hi40 dX10_about_135 ?_
      refine lv_topi (fun y39 ey39 => ?_)
      replace hF := hF y39 ey39
      obtain ⟨e1, e2⟩ := ret2 hF
      have hP : va_P D vwCl (YW y cy Sf) H := by rw [← e2]; exact hP
      have hD : va_D (va_A (YW y cy S0) s.heap.size) (YW y cy Sf) := by rw [← e2]; exact hD
      exact W.iret (v := y39) hx hb hr (fun t ht hW => ⟨⟨y39, (), rfl, e1, by rw [ht]; exact hP, va_K.moved hW.alike hK, hD⟩, hS.F ht⟩) hS.2.2 dX10_about_136
    replace hF := (if_neg j38).symm.trans hF
    by_cases j41 : p2 = 10
    · skip
      have hF := (if_pos j41).symm.trans hF
      refine lv_tableIn (tgt := 137) hx hb dX10_about_16 (by rw [j41]; decide) (by rw [j41]; decide) (by rw [j41]; rfl) (by decide) ?_
      refine lv_aload_n hx hb dX10_about_137 rfl (lv_at hl 0 rfl) ?_
      refine va_get (D := D) (ci := 10) (v := .ref (y 23)) (C := RX10) (T := TX10) (N := 58) hx hb hts iX10_about_10 hown hK hP 0 rfl rfl 35 (by decide) (hts (.fieldLink RX10 90 "FondsRoomModel" "refusals" "[I") (List.mem_of_getElem? (i := 9) rfl)) (fun _ h9 => h9) rfl dX10_about_138 ?_
      refine lv_iload_n hx hb dX10_about_141 rfl (lv_at hl 1 rfl) ?_
      obtain ⟨hi43, hF⟩ := ld_s hF
      refine va_iald hx hb hK hP 23 0 rfl rfl hi43 dX10_about_142 ?_
      refine lv_topi (fun y42 ey42 => ?_)
      replace hF := hF y42 ey42
      obtain ⟨e1, e2⟩ := ret2 hF
      have hP : va_P D vwCl (YW y cy Sf) H := by rw [← e2]; exact hP
      have hD : va_D (va_A (YW y cy S0) s.heap.size) (YW y cy Sf) := by rw [← e2]; exact hD
      exact W.iret (v := y42) hx hb hr (fun t ht hW => ⟨⟨y42, (), rfl, e1, by rw [ht]; exact hP, va_K.moved hW.alike hK, hD⟩, hS.F ht⟩) hS.2.2 dX10_about_143
    replace hF := (if_neg j41).symm.trans hF
    have zj8 : (p2).toInt ≠ 0 := fun h9 => j8 ((fa_eq _ _).mpr (h9.trans (by decide)))
    have zj11 : (p2).toInt ≠ 1 := fun h9 => j11 ((fa_eq _ _).mpr (h9.trans (by decide)))
    have zj14 : (p2).toInt ≠ 2 := fun h9 => j14 ((fa_eq _ _).mpr (h9.trans (by decide)))
    have zj17 : (p2).toInt ≠ 3 := fun h9 => j17 ((fa_eq _ _).mpr (h9.trans (by decide)))
    have zj23 : (p2).toInt ≠ 4 := fun h9 => j23 ((fa_eq _ _).mpr (h9.trans (by decide)))
    have zj26 : (p2).toInt ≠ 5 := fun h9 => j26 ((fa_eq _ _).mpr (h9.trans (by decide)))
    have zj29 : (p2).toInt ≠ 6 := fun h9 => j29 ((fa_eq _ _).mpr (h9.trans (by decide)))
    have zj32 : (p2).toInt ≠ 7 := fun h9 => j32 ((fa_eq _ _).mpr (h9.trans (by decide)))
    have zj35 : (p2).toInt ≠ 8 := fun h9 => j35 ((fa_eq _ _).mpr (h9.trans (by decide)))
    have zj38 : (p2).toInt ≠ 9 := fun h9 => j38 ((fa_eq _ _).mpr (h9.trans (by decide)))
    have zj41 : (p2).toInt ≠ 10 := fun h9 => j41 ((fa_eq _ _).mpr (h9.trans (by decide)))
    refine lv_tableOut (tgt := 144) hx hb dX10_about_16 (by omega) (by decide) ?_
    refine lv_iconst (v := (-1)) hx hb dX10_about_144 (by decide) ?_
    obtain ⟨e1, e2⟩ := ret2 hF
    have hP : va_P D vwCl (YW y cy Sf) H := by rw [← e2]; exact hP
    have hD : va_D (va_A (YW y cy S0) s.heap.size) (YW y cy Sf) := by rw [← e2]; exact hD
    exact W.iret (v := (-1)) hx hb hr (fun t ht hW => ⟨⟨(-1), (), rfl, e1, by rw [ht]; exact hP, va_K.moved hW.alike hK, hD⟩, hS.F ht⟩) hS.2.2 dX10_about_145
  · skip
    have hF := (if_pos c7).symm.trans hF
    refine lv_iconst (v := (-1)) hx hb dX10_about_13 (by decide) ?_
    obtain ⟨e1, e2⟩ := ret2 hF
    have hP : va_P D vwCl (YW y cy Sf) H := by rw [← e2]; exact hP
    have hD : va_D (va_A (YW y cy S0) s.heap.size) (YW y cy Sf) := by rw [← e2]; exact hD
    exact W.iret (v := (-1)) hx hb hr (fun t ht hW => ⟨⟨(-1), (), rfl, e1, by rw [ht]; exact hP, va_K.moved hW.alike hK, hD⟩, hS.F ht⟩) hS.2.2 dX10_about_14

theorem iX10_held_10 : ∀ w ∈ wsX100, w ∈ wsX10_held := fun _ h => List.mem_cons_of_mem _ (List.mem_append_right _ h)
set_option maxHeartbeats 8000000 in
set_option maxRecDepth 100000 in
theorem zX10_held (l : Launch) (D : va_G) (y : Nat → Nat) (cy : Nat → ClassId) (S0 : RS) (sz : Nat) (p1 p2 : Int32) (rv : Int32) (Sf : RS) (hF : gX10_held S0 p1 p2 = some (rv, Sf)) : Met l yX10_held wsX10_held ({ frames := 2, cells := 0, slots := 0, locals := 43 }) (PW D (TYS cy) (YW y cy S0) sz [.ref (y 0), .int p1, .int p2]) (va_Qi (fun (res : Int32) (u : Unit) => res = rv) (BU D (TYS cy) (YW y cy S0) (fun _ => YW y cy Sf) sz) (va_A (YW y cy S0) sz)) 0 0 (va_A (YW y cy S0) sz) := by
  refine Met.ofW (cc := cX10_held) (maxL := 5) (ret := (some .int)) (by decide) rfl ?_
  intro p e s m args below meth c s₁ B hml hv
  obtain ⟨rfl, hsz, hP, hK, hD0⟩ := hv
  have hx := B.exec
  have hb := B.bytes
  have hr := B.returns
  have hts := atoms_spec (ws := wsX10_held) B.pre
  have hown : s.vm.findClass RX10 = some m.cls := findClass_of_methodNamed B.named
  have hlocks := B.notSynchronized
  subst hsz
  have hD := hD0.self (sz := s.heap.size)
  have hA : ∀ q9 : Nat, s.heap.size ≤ q9 → va_A (YW y cy S0) s.heap.size q9 := fun q9 h => Or.inr h
  have hS : va_S (va_A (YW y cy S0) s.heap.size) s.heap s.heap [] := va_S.rf
  have key24 : ∀ (K : RS → Option (Int32 × RS)), (∀  (S : RS) (H : Heap) (locs : List Loc) (ls : Array Slot), K  S = some (rv, Sf) → va_P D vwCl (YW y cy S) H → va_D (va_A (YW y cy S0) s.heap.size) (YW y cy S) → va_S (va_A (YW y cy S0) s.heap.size) s.heap H locs → lv_has ls 5 [] → W p l e (headSpec wsX10_held ({ frames := 2, cells := 0, slots := 0, locals := 43 })).room s m #[.ref (y 0), .int p1, .int p2] below meth c H locs 0 0 (MQ below (va_Qi (fun (res : Int32) (u : Unit) => res = rv) (BU D (TYS cy) (YW y cy S0) (fun _ => YW y cy Sf) s.heap.size) (va_A (YW y cy S0) s.heap.size)) #[.ref (y 0), .int p1, .int p2] s 0 0 (va_A (YW y cy S0) s.heap.size)) (F0 m 63 ls [])) → ∀ (fu : Nat) (v1 : Int32) (v3 : Int32) (v4 : Int32) (S : RS) (H : Heap) (locs : List Loc) (ls : Array Slot), gX10_held_24 K fu v1 v3 v4 S = some (rv, Sf) → va_P D vwCl (YW y cy S) H → va_D (va_A (YW y cy S0) s.heap.size) (YW y cy S) → va_S (va_A (YW y cy S0) s.heap.size) s.heap H locs → lv_has ls 5 [(1, .int v1), (3, .int v3), (4, .int v4), (0, .ref (y 0))] → W p l e (headSpec wsX10_held ({ frames := 2, cells := 0, slots := 0, locals := 43 })).room s m #[.ref (y 0), .int p1, .int p2] below meth c H locs 0 0 (MQ below (va_Qi (fun (res : Int32) (u : Unit) => res = rv) (BU D (TYS cy) (YW y cy S0) (fun _ => YW y cy Sf) s.heap.size) (va_A (YW y cy S0) s.heap.size)) #[.ref (y 0), .int p1, .int p2] s 0 0 (va_A (YW y cy S0) s.heap.size)) (F0 m 24 ls []) := by
    intro K hKK fu
    induction fu with
    | zero =>
      intro v1 v3 v4 S H locs ls hF
      exact absurd (show (none : Option (Int32 × RS)) = some (rv, Sf) from hF) (by simp)
    | succ fu24 ih24 =>
      intro v1 v3 v4 S H locs ls hF hP hD hS hl
      rw [gX10_held_24] at hF
      refine lv_iload hx hb dX10_held_24 (lv_at hl 2 rfl) ?_
      refine lv_aload_n hx hb dX10_held_26 rfl (lv_at hl 3 rfl) ?_
      refine va_get (D := D) (ci := 10) (v := .int (S 0 2)) (C := RX10) (T := TX10) (N := 58) hx hb hts iX10_held_10 hown hK hP 0 rfl rfl 2 (by decide) (hts (.fieldLink RX10 160 "FondsRoomModel" "boxes" "I") (List.mem_of_getElem? (i := 2) rfl)) (fun _ h9 => h9) rfl dX10_held_27 ?_
      refine lv_icmp_ge (tgt := 63) hx hb dX10_held_30 (by decide) (fun c9 => ?_) (fun c9 => ?_)
      · skip
        have hF := (if_pos c9).symm.trans hF
        exact hKK  S _ _ _ hF hP hD hS (lv_sub hl [] rfl)
      · skip
        have hF := (if_neg c9).symm.trans hF
        refine lv_aload_n hx hb dX10_held_33 rfl (lv_at hl 3 rfl) ?_
        refine va_get (D := D) (ci := 10) (v := .ref (y 6)) (C := RX10) (T := TX10) (N := 58) hx hb hts iX10_held_10 hown hK hP 0 rfl rfl 14 (by decide) (hts (.fieldLink RX10 39 "FondsRoomModel" "has" "[I") (List.mem_of_getElem? (i := 3) rfl)) (fun _ h9 => h9) rfl dX10_held_34 ?_
        refine lv_iload hx hb dX10_held_37 (lv_at hl 2 rfl) ?_
        obtain ⟨hi11, hF⟩ := ld_s hF
        refine va_iald hx hb hK hP 6 0 rfl rfl hi11 dX10_held_39 ?_
        refine lv_topi (fun y10 ey10 => ?_)
        replace hF := hF y10 ey10
        refine lv_iload_n hx hb dX10_held_40 rfl (lv_at hl 0 rfl) ?_
        refine lv_icmp_eq (tgt := 47) hx hb dX10_held_41 (by decide) (fun c12 => ?_) (fun c12 => ?_)
        · skip
          have hF := (if_pos c12).symm.trans hF
          refine lv_iload_n hx hb dX10_held_47 rfl (lv_at hl 1 rfl) ?_
          refine lv_if_ne (tgt := 54) hx hb dX10_held_48 (by decide) (fun c13 => ?_) (fun c13 => ?_)
          · skip
            have hF := (if_neg c13).symm.trans hF
            refine lv_iinc (v := v3 + (-1)) (lv' := [(3, .int (v3 + (-1))), (1, .int v1), (4, .int v4), (0, .ref (y 0))]) hx hb dX10_held_54 hl (k := 1) rfl rfl (by decide) rfl (fun ls hl => ?_)
            refine lv_iinc (v := v4 + 1) (lv' := [(4, .int (v4 + 1)), (3, .int (v3 + (-1))), (1, .int v1), (0, .ref (y 0))]) hx hb dX10_held_57 hl (k := 2) rfl rfl (by decide) rfl (fun ls hl => ?_)
            refine lv_goto (tgt := 24) hx hb dX10_held_60 (by decide) ?_
            exact ih24 v1 (v3 + (-1)) (v4 + 1) S _ _ _ hF hP hD hS (lv_sub hl [2, 1, 0, 3] rfl)
          · skip
            have hF := (if_pos c13).symm.trans hF
            refine lv_iload hx hb dX10_held_51 (lv_at hl 2 rfl) ?_
            obtain ⟨e1, e2⟩ := ret2 hF
            have hP : va_P D vwCl (YW y cy Sf) H := by rw [← e2]; exact hP
            have hD : va_D (va_A (YW y cy S0) s.heap.size) (YW y cy Sf) := by rw [← e2]; exact hD
            exact W.iret (v := v4) hx hb hr (fun t ht hW => ⟨⟨v4, (), rfl, e1, by rw [ht]; exact hP, va_K.moved hW.alike hK, hD⟩, hS.F ht⟩) hS.2.2 dX10_held_53
        · skip
          have hF := (if_neg c12).symm.trans hF
          refine lv_goto (tgt := 57) hx hb dX10_held_44 (by decide) ?_
          refine lv_iinc (v := v4 + 1) (lv' := [(4, .int (v4 + 1)), (1, .int v1), (3, .int v3), (0, .ref (y 0))]) hx hb dX10_held_57 hl (k := 2) rfl rfl (by decide) rfl (fun ls hl => ?_)
          refine lv_goto (tgt := 24) hx hb dX10_held_60 (by decide) ?_
          exact ih24 v1 v3 (v4 + 1) S _ _ _ hF hP hD hS (lv_sub hl [1, 2, 0, 3] rfl)
  have hl := lv_entry ([.ref (y 0), .int p1, .int p2]) (n := 5) (Nat.le_of_ble_eq_true rfl)
  rw [lg_entry_eq]
  generalize (lg_sl ([.ref (y 0), .int p1, .int p2]) ++ List.replicate (5 - (lg_sl ([.ref (y 0), .int p1, .int p2])).length) Slot.unset).toArray = ls at hl ⊢
  have hl : lv_has ls 5 [(0, .ref (y 0)), (1, .int p1), (2, .int p2)] := hl
  unfold gX10_held at hF
  refine lv_aload_n hx hb dX10_held_0 rfl (lv_at hl 0 rfl) ?_
  refine lv_iconst (v := 0) hx hb dX10_held_1 (by decide) ?_
  refine va_put (D := D) (ci := 10) (v := .int 0) (ty := .int) (C := RX10) (T := TX10) (N := 58) hx hb hts iX10_held_10 tyX10 tyX10_ok nmX10 hown hK hP hD hS 0 rfl rfl 0 (by decide) (hts (.fieldLink RX10 150 "FondsRoomModel" "thrown" "I") (List.mem_of_getElem? (i := 1) rfl)) (fun _ h9 => h9) rfl (by decide +kernel) rfl rfl (Nat.le_of_ble_eq_true rfl) dX10_held_2 (fun H locs hP hD hS => ?_)
  obtain ⟨S1, eS1⟩ : ∃ z, z = wr S0 0 0 0 := ⟨_, rfl⟩
  replace hF := bnd_s hF S1 eS1
  have hP : va_P D vwCl (YW y cy S1) H := by rw [eS1]; exact hP
  have hD : va_D (va_A (YW y cy S0) s.heap.size) (YW y cy S1) := by rw [eS1]; exact hD
  refine lv_aload_n hx hb dX10_held_5 rfl (lv_at hl 0 rfl) ?_
  refine lv_iload_n hx hb dX10_held_6 rfl (lv_at hl 1 rfl) ?_
  obtain ⟨r2, hq5, hF⟩ := bd1_s hF
  refine gvI (As := [.int p1]) (rest := []) ⟨hx, hb, hml, hown, hts⟩ (zX10_isReader l D y cy S1 _ p1 r2 hq5) (cwV 1 hts gX10_held_X10_isReader rfl rfl rfl (by decide +kernel) ⟨Nat.le_of_ble_eq_true rfl, Nat.le_of_ble_eq_true rfl⟩) hK hP hD hS hA (va_recv hK hP (ci := 10) (q0 := 0) rfl rfl) rfl hl.1 rfl (Nat.le_of_ble_eq_true rfl) dX10_held_7 ⟨Nat.le_of_ble_eq_true rfl, Nat.le_of_ble_eq_true rfl⟩ (fun a6 u9 H locs hw4 hP hD hS => ?_)
  have hP : va_P D vwCl (YW y cy S1) H := hP
  have hD : va_D _ (YW y cy S1) := hD
  refine lv_tov (v' := .int r2) (congrArg Value.int hw4.1) ?_
  refine lv_if_eq (tgt := 17) hx hb dX10_held_10 (by decide) (fun c7 => ?_) (fun c7 => ?_)
  · skip
    have hF := (if_pos c7).symm.trans hF
    refine lv_iconst (v := (-1)) hx hb dX10_held_17 (by decide) ?_
    obtain ⟨e1, e2⟩ := ret2 hF
    have hP : va_P D vwCl (YW y cy Sf) H := by rw [← e2]; exact hP
    have hD : va_D (va_A (YW y cy S0) s.heap.size) (YW y cy Sf) := by rw [← e2]; exact hD
    exact W.iret (v := (-1)) hx hb hr (fun t ht hW => ⟨⟨(-1), (), rfl, e1, by rw [ht]; exact hP, va_K.moved hW.alike hK, hD⟩, hS.F ht⟩) hS.2.2 dX10_held_18
  · skip
    have hF := (if_neg c7).symm.trans hF
    refine lv_iload_n hx hb dX10_held_13 rfl (lv_at hl 2 rfl) ?_
    refine lv_if_ge (tgt := 19) hx hb dX10_held_14 (by decide) (fun c8 => ?_) (fun c8 => ?_)
    · skip
      have hF := (if_pos c8).symm.trans hF
      refine lv_iload_n hx hb dX10_held_19 rfl (lv_at hl 2 rfl) ?_
      refine lv_istore_n (lv' := [(3, .int p2), (0, .ref (y 0)), (1, .int p1), (2, .int p2)]) hx hb dX10_held_20 rfl hl (by decide) rfl (fun ls hl => ?_)
      refine lv_iconst (v := 0) hx hb dX10_held_21 (by decide) ?_
      refine lv_istore (lv' := [(4, .int 0), (3, .int p2), (0, .ref (y 0)), (1, .int p1), (2, .int p2)]) hx hb dX10_held_22 hl (by decide) rfl (fun ls hl => ?_)
      refine key24 _ ?_ 1000 p1 p2 0 S1 _ _ _ hF hP hD hS (lv_sub hl [3, 1, 0, 2] rfl)
      intro S14 H locs ls hF hP hD hS hl
      refine lv_iconst (v := (-1)) hx hb dX10_held_63 (by decide) ?_
      obtain ⟨e1, e2⟩ := ret2 hF
      have hP : va_P D vwCl (YW y cy Sf) H := by rw [← e2]; exact hP
      have hD : va_D (va_A (YW y cy S0) s.heap.size) (YW y cy Sf) := by rw [← e2]; exact hD
      exact W.iret (v := (-1)) hx hb hr (fun t ht hW => ⟨⟨(-1), (), rfl, e1, by rw [ht]; exact hP, va_K.moved hW.alike hK, hD⟩, hS.F ht⟩) hS.2.2 dX10_held_64
    · skip
      have hF := (if_neg c8).symm.trans hF
      refine lv_iconst (v := (-1)) hx hb dX10_held_17 (by decide) ?_
      obtain ⟨e1, e2⟩ := ret2 hF
      have hP : va_P D vwCl (YW y cy Sf) H := by rw [← e2]; exact hP
      have hD : va_D (va_A (YW y cy S0) s.heap.size) (YW y cy Sf) := by rw [← e2]; exact hD
      exact W.iret (v := (-1)) hx hb hr (fun t ht hW => ⟨⟨(-1), (), rfl, e1, by rw [ht]; exact hP, va_K.moved hW.alike hK, hD⟩, hS.F ht⟩) hS.2.2 dX10_held_18

theorem iX10_refused_10 : ∀ w ∈ wsX100, w ∈ wsX10_refused := fun _ h => List.mem_cons_of_mem _ (List.mem_append_right _ h)
set_option maxHeartbeats 8000000 in
set_option maxRecDepth 100000 in
theorem zX10_refused (l : Launch) (D : va_G) (y : Nat → Nat) (cy : Nat → ClassId) (S0 : RS) (sz : Nat) (p1 p2 : Int32) (rv : Int32) (Sf : RS) (hF : gX10_refused S0 p1 p2 = some (rv, Sf)) : Met l yX10_refused wsX10_refused ({ frames := 2, cells := 0, slots := 0, locals := 43 }) (PW D (TYS cy) (YW y cy S0) sz [.ref (y 0), .int p1, .int p2]) (va_Qi (fun (res : Int32) (u : Unit) => res = rv) (BU D (TYS cy) (YW y cy S0) (fun _ => YW y cy Sf) sz) (va_A (YW y cy S0) sz)) 0 0 (va_A (YW y cy S0) sz) := by
  refine Met.ofW (cc := cX10_refused) (maxL := 3) (ret := (some .int)) (by decide) rfl ?_
  intro p e s m args below meth c s₁ B hml hv
  obtain ⟨rfl, hsz, hP, hK, hD0⟩ := hv
  have hx := B.exec
  have hb := B.bytes
  have hr := B.returns
  have hts := atoms_spec (ws := wsX10_refused) B.pre
  have hown : s.vm.findClass RX10 = some m.cls := findClass_of_methodNamed B.named
  have hlocks := B.notSynchronized
  subst hsz
  have hD := hD0.self (sz := s.heap.size)
  have hA : ∀ q9 : Nat, s.heap.size ≤ q9 → va_A (YW y cy S0) s.heap.size q9 := fun q9 h => Or.inr h
  have hS : va_S (va_A (YW y cy S0) s.heap.size) s.heap s.heap [] := va_S.rf
  have hl := lv_entry ([.ref (y 0), .int p1, .int p2]) (n := 3) (Nat.le_of_ble_eq_true rfl)
  rw [lg_entry_eq]
  generalize (lg_sl ([.ref (y 0), .int p1, .int p2]) ++ List.replicate (3 - (lg_sl ([.ref (y 0), .int p1, .int p2])).length) Slot.unset).toArray = ls at hl ⊢
  have hl : lv_has ls 3 [(0, .ref (y 0)), (1, .int p1), (2, .int p2)] := hl
  unfold gX10_refused at hF
  refine lv_aload_n hx hb dX10_refused_0 rfl (lv_at hl 0 rfl) ?_
  refine lv_iconst (v := 0) hx hb dX10_refused_1 (by decide) ?_
  refine va_put (D := D) (ci := 10) (v := .int 0) (ty := .int) (C := RX10) (T := TX10) (N := 58) hx hb hts iX10_refused_10 tyX10 tyX10_ok nmX10 hown hK hP hD hS 0 rfl rfl 0 (by decide) (hts (.fieldLink RX10 150 "FondsRoomModel" "thrown" "I") (List.mem_of_getElem? (i := 1) rfl)) (fun _ h9 => h9) rfl (by decide +kernel) rfl rfl (Nat.le_of_ble_eq_true rfl) dX10_refused_2 (fun H locs hP hD hS => ?_)
  obtain ⟨S1, eS1⟩ : ∃ z, z = wr S0 0 0 0 := ⟨_, rfl⟩
  replace hF := bnd_s hF S1 eS1
  have hP : va_P D vwCl (YW y cy S1) H := by rw [eS1]; exact hP
  have hD : va_D (va_A (YW y cy S0) s.heap.size) (YW y cy S1) := by rw [eS1]; exact hD
  refine lv_aload_n hx hb dX10_refused_5 rfl (lv_at hl 0 rfl) ?_
  refine lv_iload_n hx hb dX10_refused_6 rfl (lv_at hl 1 rfl) ?_
  obtain ⟨r2, hq5, hF⟩ := bd1_s hF
  refine gvI (As := [.int p1]) (rest := []) ⟨hx, hb, hml, hown, hts⟩ (zX10_isReader l D y cy S1 _ p1 r2 hq5) (cwV 1 hts gX10_refused_X10_isReader rfl rfl rfl (by decide +kernel) ⟨Nat.le_of_ble_eq_true rfl, Nat.le_of_ble_eq_true rfl⟩) hK hP hD hS hA (va_recv hK hP (ci := 10) (q0 := 0) rfl rfl) rfl hl.1 rfl (Nat.le_of_ble_eq_true rfl) dX10_refused_7 ⟨Nat.le_of_ble_eq_true rfl, Nat.le_of_ble_eq_true rfl⟩ (fun a6 u9 H locs hw4 hP hD hS => ?_)
  have hP : va_P D vwCl (YW y cy S1) H := hP
  have hD : va_D _ (YW y cy S1) := hD
  refine lv_tov (v' := .int r2) (congrArg Value.int hw4.1) ?_
  refine lv_if_eq (tgt := 43) hx hb dX10_refused_10 (by decide) (fun c7 => ?_) (fun c7 => ?_)
  · skip
    have hF := (if_pos c7).symm.trans hF
    refine lv_iconst (v := (-1)) hx hb dX10_refused_43 (by decide) ?_
    obtain ⟨e1, e2⟩ := ret2 hF
    have hP : va_P D vwCl (YW y cy Sf) H := by rw [← e2]; exact hP
    have hD : va_D (va_A (YW y cy S0) s.heap.size) (YW y cy Sf) := by rw [← e2]; exact hD
    exact W.iret (v := (-1)) hx hb hr (fun t ht hW => ⟨⟨(-1), (), rfl, e1, by rw [ht]; exact hP, va_K.moved hW.alike hK, hD⟩, hS.F ht⟩) hS.2.2 dX10_refused_44
  · skip
    have hF := (if_neg c7).symm.trans hF
    refine lv_iload_n hx hb dX10_refused_13 rfl (lv_at hl 2 rfl) ?_
    refine lv_iconst (v := 0) hx hb dX10_refused_14 (by decide) ?_
    refine lv_aload_n hx hb dX10_refused_15 rfl (lv_at hl 0 rfl) ?_
    refine va_get (D := D) (ci := 10) (v := .ref (y 23)) (C := RX10) (T := TX10) (N := 58) hx hb hts iX10_refused_10 hown hK hP 0 rfl rfl 35 (by decide) (hts (.fieldLink RX10 90 "FondsRoomModel" "refusals" "[I") (List.mem_of_getElem? (i := 2) rfl)) (fun _ h9 => h9) rfl dX10_refused_16 ?_
    refine lv_iload_n hx hb dX10_refused_19 rfl (lv_at hl 1 rfl) ?_
    obtain ⟨hi9, hF⟩ := ld_s hF
    refine va_iald hx hb hK hP 23 0 rfl rfl hi9 dX10_refused_20 ?_
    refine lv_topi (fun y8 ey8 => ?_)
    replace hF := hF y8 ey8
    refine lv_iconst (v := 1) hx hb dX10_refused_21 (by decide) ?_
    refine lv_isub hx hb dX10_refused_22 ?_
    obtain ⟨r10, hq13, hF⟩ := bd1_s hF
    refine gsI (As := [.int p2, .int 0, .int (y8 - 1)]) (rest := []) ⟨hx, hb, hml, hown, hts⟩ (zX10_in l D y cy S1 _ p2 0 (y8 - 1) r10 hq13) (va_cwS 3 hts gX10_refused_X10_in rfl rfl rfl (by decide +kernel) ⟨Nat.le_of_ble_eq_true rfl, Nat.le_of_ble_eq_true rfl⟩) hK hP hD hS hA rfl hl.1 rfl (Nat.le_of_ble_eq_true rfl) dX10_refused_23 ⟨Nat.le_of_ble_eq_true rfl, Nat.le_of_ble_eq_true rfl⟩ (fun a14 u9 H locs hw12 hP hD hS => ?_)
    have hP : va_P D vwCl (YW y cy S1) H := hP
    have hD : va_D _ (YW y cy S1) := hD
    refine lv_tov (v' := .int r10) (congrArg Value.int hw12.1) ?_
    refine lv_if_eq (tgt := 43) hx hb dX10_refused_26 (by decide) (fun c15 => ?_) (fun c15 => ?_)
    · skip
      have hF := (if_pos c15).symm.trans hF
      refine lv_iconst (v := (-1)) hx hb dX10_refused_43 (by decide) ?_
      obtain ⟨e1, e2⟩ := ret2 hF
      have hP : va_P D vwCl (YW y cy Sf) H := by rw [← e2]; exact hP
      have hD : va_D (va_A (YW y cy S0) s.heap.size) (YW y cy Sf) := by rw [← e2]; exact hD
      exact W.iret (v := (-1)) hx hb hr (fun t ht hW => ⟨⟨(-1), (), rfl, e1, by rw [ht]; exact hP, va_K.moved hW.alike hK, hD⟩, hS.F ht⟩) hS.2.2 dX10_refused_44
    · skip
      have hF := (if_neg c15).symm.trans hF
      refine lv_aload_n hx hb dX10_refused_29 rfl (lv_at hl 0 rfl) ?_
      refine va_get (D := D) (ci := 10) (v := .ref (y 24)) (C := RX10) (T := TX10) (N := 58) hx hb hts iX10_refused_10 hown hK hP 0 rfl rfl 36 (by decide) (hts (.fieldLink RX10 93 "FondsRoomModel" "rules" "[I") (List.mem_of_getElem? (i := 3) rfl)) (fun _ h9 => h9) rfl dX10_refused_30 ?_
      refine lv_bipush (v := 16) hx hb dX10_refused_33 (by decide) ?_
      refine lv_iload_n hx hb dX10_refused_35 rfl (lv_at hl 1 rfl) ?_
      refine lv_imul hx hb dX10_refused_36 ?_
      refine lv_iload_n hx hb dX10_refused_37 rfl (lv_at hl 2 rfl) ?_
      refine lv_iadd hx hb dX10_refused_38 ?_
      obtain ⟨hi17, hF⟩ := ld_s hF
      refine va_iald hx hb hK hP 24 0 rfl rfl hi17 dX10_refused_39 ?_
      refine lv_topi (fun y16 ey16 => ?_)
      replace hF := hF y16 ey16
      refine lv_goto (tgt := 44) hx hb dX10_refused_40 (by decide) ?_
      obtain ⟨e1, e2⟩ := ret2 hF
      have hP : va_P D vwCl (YW y cy Sf) H := by rw [← e2]; exact hP
      have hD : va_D (va_A (YW y cy S0) s.heap.size) (YW y cy Sf) := by rw [← e2]; exact hD
      exact W.iret (v := y16) hx hb hr (fun t ht hW => ⟨⟨y16, (), rfl, e1, by rw [ht]; exact hP, va_K.moved hW.alike hK, hD⟩, hS.F ht⟩) hS.2.2 dX10_refused_44

theorem iX10_place_10 : ∀ w ∈ wsX100, w ∈ wsX10_place := fun _ h => List.mem_cons_of_mem _ (List.mem_append_right _ h)
set_option maxHeartbeats 8000000 in
set_option maxRecDepth 100000 in
theorem zX10_place (l : Launch) (D : va_G) (y : Nat → Nat) (cy : Nat → ClassId) (S0 : RS) (sz : Nat) (p1 : Int32) (rv : Int32) (Sf : RS) (hF : gX10_place S0 p1 = some (rv, Sf)) : Met l yX10_place wsX10_place ({ frames := 2, cells := 0, slots := 0, locals := 43 }) (PW D (TYS cy) (YW y cy S0) sz [.ref (y 0), .int p1]) (va_Qi (fun (res : Int32) (u : Unit) => res = rv) (BU D (TYS cy) (YW y cy S0) (fun _ => YW y cy Sf) sz) (va_A (YW y cy S0) sz)) 0 0 (va_A (YW y cy S0) sz) := by
  refine Met.ofW (cc := cX10_place) (maxL := 2) (ret := (some .int)) (by decide) rfl ?_
  intro p e s m args below meth c s₁ B hml hv
  obtain ⟨rfl, hsz, hP, hK, hD0⟩ := hv
  have hx := B.exec
  have hb := B.bytes
  have hr := B.returns
  have hts := atoms_spec (ws := wsX10_place) B.pre
  have hown : s.vm.findClass RX10 = some m.cls := findClass_of_methodNamed B.named
  have hlocks := B.notSynchronized
  subst hsz
  have hD := hD0.self (sz := s.heap.size)
  have hA : ∀ q9 : Nat, s.heap.size ≤ q9 → va_A (YW y cy S0) s.heap.size q9 := fun q9 h => Or.inr h
  have hS : va_S (va_A (YW y cy S0) s.heap.size) s.heap s.heap [] := va_S.rf
  have hl := lv_entry ([.ref (y 0), .int p1]) (n := 2) (Nat.le_of_ble_eq_true rfl)
  rw [lg_entry_eq]
  generalize (lg_sl ([.ref (y 0), .int p1]) ++ List.replicate (2 - (lg_sl ([.ref (y 0), .int p1])).length) Slot.unset).toArray = ls at hl ⊢
  have hl : lv_has ls 2 [(0, .ref (y 0)), (1, .int p1)] := hl
  unfold gX10_place at hF
  refine lv_aload_n hx hb dX10_place_0 rfl (lv_at hl 0 rfl) ?_
  refine lv_iconst (v := 0) hx hb dX10_place_1 (by decide) ?_
  refine va_put (D := D) (ci := 10) (v := .int 0) (ty := .int) (C := RX10) (T := TX10) (N := 58) hx hb hts iX10_place_10 tyX10 tyX10_ok nmX10 hown hK hP hD hS 0 rfl rfl 0 (by decide) (hts (.fieldLink RX10 150 "FondsRoomModel" "thrown" "I") (List.mem_of_getElem? (i := 1) rfl)) (fun _ h9 => h9) rfl (by decide +kernel) rfl rfl (Nat.le_of_ble_eq_true rfl) dX10_place_2 (fun H locs hP hD hS => ?_)
  obtain ⟨S1, eS1⟩ : ∃ z, z = wr S0 0 0 0 := ⟨_, rfl⟩
  replace hF := bnd_s hF S1 eS1
  have hP : va_P D vwCl (YW y cy S1) H := by rw [eS1]; exact hP
  have hD : va_D (va_A (YW y cy S0) s.heap.size) (YW y cy S1) := by rw [eS1]; exact hD
  refine lv_aload_n hx hb dX10_place_5 rfl (lv_at hl 0 rfl) ?_
  refine lv_iload_n hx hb dX10_place_6 rfl (lv_at hl 1 rfl) ?_
  obtain ⟨r2, hq5, hF⟩ := bd1_s hF
  refine gvI (As := [.int p1]) (rest := []) ⟨hx, hb, hml, hown, hts⟩ (zX10_isBox l D y cy S1 _ p1 r2 hq5) (cwV 1 hts gX10_place_X10_isBox rfl rfl rfl (by decide +kernel) ⟨Nat.le_of_ble_eq_true rfl, Nat.le_of_ble_eq_true rfl⟩) hK hP hD hS hA (va_recv hK hP (ci := 10) (q0 := 0) rfl rfl) rfl hl.1 rfl (Nat.le_of_ble_eq_true rfl) dX10_place_7 ⟨Nat.le_of_ble_eq_true rfl, Nat.le_of_ble_eq_true rfl⟩ (fun a6 u9 H locs hw4 hP hD hS => ?_)
  have hP : va_P D vwCl (YW y cy S1) H := hP
  have hD : va_D _ (YW y cy S1) := hD
  refine lv_tov (v' := .int r2) (congrArg Value.int hw4.1) ?_
  refine lv_if_eq (tgt := 22) hx hb dX10_place_10 (by decide) (fun c7 => ?_) (fun c7 => ?_)
  · skip
    have hF := (if_pos c7).symm.trans hF
    refine lv_iconst (v := (-1)) hx hb dX10_place_22 (by decide) ?_
    obtain ⟨e1, e2⟩ := ret2 hF
    have hP : va_P D vwCl (YW y cy Sf) H := by rw [← e2]; exact hP
    have hD : va_D (va_A (YW y cy S0) s.heap.size) (YW y cy Sf) := by rw [← e2]; exact hD
    exact W.iret (v := (-1)) hx hb hr (fun t ht hW => ⟨⟨(-1), (), rfl, e1, by rw [ht]; exact hP, va_K.moved hW.alike hK, hD⟩, hS.F ht⟩) hS.2.2 dX10_place_23
  · skip
    have hF := (if_neg c7).symm.trans hF
    refine lv_aload_n hx hb dX10_place_13 rfl (lv_at hl 0 rfl) ?_
    refine va_get (D := D) (ci := 10) (v := .ref (y 5)) (C := RX10) (T := TX10) (N := 58) hx hb hts iX10_place_10 hown hK hP 0 rfl rfl 13 (by decide) (hts (.fieldLink RX10 36 "FondsRoomModel" "place" "[I") (List.mem_of_getElem? (i := 2) rfl)) (fun _ h9 => h9) rfl dX10_place_14 ?_
    refine lv_iload_n hx hb dX10_place_17 rfl (lv_at hl 1 rfl) ?_
    obtain ⟨hi9, hF⟩ := ld_s hF
    refine va_iald hx hb hK hP 5 0 rfl rfl hi9 dX10_place_18 ?_
    refine lv_topi (fun y8 ey8 => ?_)
    replace hF := hF y8 ey8
    refine lv_goto (tgt := 23) hx hb dX10_place_19 (by decide) ?_
    obtain ⟨e1, e2⟩ := ret2 hF
    have hP : va_P D vwCl (YW y cy Sf) H := by rw [← e2]; exact hP
    have hD : va_D (va_A (YW y cy S0) s.heap.size) (YW y cy Sf) := by rw [← e2]; exact hD
    exact W.iret (v := y8) hx hb hr (fun t ht hW => ⟨⟨y8, (), rfl, e1, by rw [ht]; exact hP, va_K.moved hW.alike hK, hD⟩, hS.F ht⟩) hS.2.2 dX10_place_23
