theorem iX10_refuses_10 : ∀ w ∈ wsX100, w ∈ wsX10_refuses := fun _ h => List.mem_cons_of_mem _ (List.mem_append_right _ h)
set_option maxHeartbeats 8000000 in
set_option maxRecDepth 100000 in
theorem zX10_refuses (l : Launch) (D : va_G) (y : Nat → Nat) (cy : Nat → ClassId) (S0 : RS) (sz : Nat) (p1 p2 : Int32) (Sf : RS) (hF : gX10_refuses S0 p1 p2 = some Sf) : Met l yX10_refuses wsX10_refuses ({ frames := 1, cells := 0, slots := 0, locals := 24 }) (PW D (TYS cy) (YW y cy S0) sz [.ref (y 0), .int p1, .int p2]) (va_Qv (fun (u : Unit) => True) (BU D (TYS cy) (YW y cy S0) (fun _ => YW y cy Sf) sz) (va_A (YW y cy S0) sz)) 0 0 (va_A (YW y cy S0) sz) := by
  refine Met.ofW (cc := cX10_refuses) (maxL := 3) (ret := none) (by decide) rfl ?_
  intro p e s m args below meth c s₁ B hml hv
  obtain ⟨rfl, hsz, hP, hK, hD0⟩ := hv
  have hx := B.exec
  have hb := B.bytes
  have hr := B.returns
  have hts := atoms_spec (ws := wsX10_refuses) B.pre
  have hown : s.vm.findClass RX10 = some m.cls := findClass_of_methodNamed B.named
  have hlocks := B.notSynchronized
  subst hsz
  have hD := hD0.self (sz := s.heap.size)
  have hA : ∀ q9 : Nat, s.heap.size ≤ q9 → va_A (YW y cy S0) s.heap.size q9 := fun q9 h => Or.inr h
  have hS : va_S (va_A (YW y cy S0) s.heap.size) s.heap s.heap [] := va_S.rf
  have hl := lv_entry ([.ref (y 0), .int p1, .int p2]) (n := 3) (Nat.le_of_ble_eq_true rfl)
  rw [lg_entry_eq]
  generalize (lg_sl ([.ref (y 0), .int p1, .int p2]) ++ List.replicate (3 - (lg_sl ([.ref (y 0), .int p1, .int p2])).length) Slot.unset).toArray = ls at hl ⊢
  have hl : lv_has ls 3 [(0, .ref (y 0)), (1, .int p1), (2, .int p2)] := hl
  unfold gX10_refuses at hF
  refine lv_aload_n hx hb dX10_refuses_0 rfl (lv_at hl 0 rfl) ?_
  refine va_get (D := D) (ci := 10) (v := .ref (y 24)) (C := RX10) (T := TX10) (N := 58) hx hb hts iX10_refuses_10 hown hK hP 0 rfl rfl 36 (by decide) (hts (.fieldLink RX10 93 "FondsRoomModel" "rules" "[I") (List.mem_of_getElem? (i := 1) rfl)) (fun _ h9 => h9) rfl dX10_refuses_1 ?_
  refine lv_bipush (v := 16) hx hb dX10_refuses_4 (by decide) ?_
  refine lv_iload_n hx hb dX10_refuses_6 rfl (lv_at hl 1 rfl) ?_
  refine lv_imul hx hb dX10_refuses_7 ?_
  refine lv_aload_n hx hb dX10_refuses_8 rfl (lv_at hl 0 rfl) ?_
  refine va_get (D := D) (ci := 10) (v := .ref (y 23)) (C := RX10) (T := TX10) (N := 58) hx hb hts iX10_refuses_10 hown hK hP 0 rfl rfl 35 (by decide) (hts (.fieldLink RX10 90 "FondsRoomModel" "refusals" "[I") (List.mem_of_getElem? (i := 2) rfl)) (fun _ h9 => h9) rfl dX10_refuses_9 ?_
  refine lv_iload_n hx hb dX10_refuses_12 rfl (lv_at hl 1 rfl) ?_
  obtain ⟨hi2, hF⟩ := ld_s hF
  refine va_iald hx hb hK hP 23 0 rfl rfl hi2 dX10_refuses_13 ?_
  refine lv_topi (fun y1 ey1 => ?_)
  replace hF := hF y1 ey1
  refine lv_iadd hx hb dX10_refuses_14 ?_
  refine lv_iload_n hx hb dX10_refuses_15 rfl (lv_at hl 2 rfl) ?_
  obtain ⟨hi3, hF⟩ := sv_s hF
  refine va_iast hx hb hK hP hD hS 24 0 rfl rfl hi3 dX10_refuses_16 (fun H locs hP hD hS => ?_)
  obtain ⟨S4, eS4⟩ : ∃ z, z = wr S0 24 (((16 * p1) + y1) : Int32).toNatClampNeg p2 := ⟨_, rfl⟩
  replace hF := hF S4 eS4
  have hP : va_P D vwCl (YW y cy S4) H := by rw [eS4]; exact hP
  have hD : va_D (va_A (YW y cy S0) s.heap.size) (YW y cy S4) := by rw [eS4]; exact hD
  refine lv_aload_n hx hb dX10_refuses_17 rfl (lv_at hl 0 rfl) ?_
  refine va_get (D := D) (ci := 10) (v := .ref (y 23)) (C := RX10) (T := TX10) (N := 58) hx hb hts iX10_refuses_10 hown hK hP 0 rfl rfl 35 (by decide) (hts (.fieldLink RX10 90 "FondsRoomModel" "refusals" "[I") (List.mem_of_getElem? (i := 2) rfl)) (fun _ h9 => h9) rfl dX10_refuses_18 ?_
  refine lv_iload_n hx hb dX10_refuses_21 rfl (lv_at hl 1 rfl) ?_
  refine lv_dup2_11 hx hb dX10_refuses_22 rfl rfl ?_
  obtain ⟨hi6, hF⟩ := ld_s hF
  refine va_iald hx hb hK hP 23 0 rfl rfl hi6 dX10_refuses_23 ?_
  refine lv_topi (fun y5 ey5 => ?_)
  replace hF := hF y5 ey5
  refine lv_iconst (v := 1) hx hb dX10_refuses_24 (by decide) ?_
  refine lv_iadd hx hb dX10_refuses_25 ?_
  obtain ⟨hi7, hF⟩ := sv_s hF
  refine va_iast hx hb hK hP hD hS 23 0 rfl rfl hi7 dX10_refuses_26 (fun H locs hP hD hS => ?_)
  obtain ⟨S8, eS8⟩ : ∃ z, z = wr S4 23 (p1 : Int32).toNatClampNeg (y5 + 1) := ⟨_, rfl⟩
  replace hF := hF S8 eS8
  have hP : va_P D vwCl (YW y cy S8) H := by rw [eS8]; exact hP
  have hD : va_D (va_A (YW y cy S0) s.heap.size) (YW y cy S8) := by rw [eS8]; exact hD
  refine lv_aload_n hx hb dX10_refuses_27 rfl (lv_at hl 0 rfl) ?_
  refine lv_iload_n hx hb dX10_refuses_28 rfl (lv_at hl 1 rfl) ?_
  refine lv_iconst (v := 4) hx hb dX10_refuses_29 (by decide) ?_
  refine lv_iload_n hx hb dX10_refuses_30 rfl (lv_at hl 2 rfl) ?_
  refine lv_iconst (v := 1) hx hb dX10_refuses_31 (by decide) ?_
  obtain ⟨S10, hq12, hF⟩ := bd1_s hF
  refine gvV (As := [.int p1, .int 4, .int p2, .int 1]) (rest := []) ⟨hx, hb, hml, hown, hts⟩ (zX10_event l D y cy S8 _ p1 4 p2 1 S10 hq12) (cwV 4 hts gX10_refuses_X10_event rfl rfl rfl (by decide +kernel) ⟨Nat.le_of_ble_eq_true rfl, Nat.le_of_ble_eq_true rfl⟩) hK hP hD hS hA (va_recv hK hP (ci := 10) (q0 := 0) rfl rfl) rfl hl.1 rfl (Nat.le_of_ble_eq_true rfl) dX10_refuses_32 ⟨Nat.le_of_ble_eq_true rfl, Nat.le_of_ble_eq_true rfl⟩ (fun u9 H locs hw11 hP hD hS => ?_)
  have hP : va_P D vwCl (YW y cy S10) H := hP
  have hD : va_D _ (YW y cy S10) := hD
  have e2 := Option.some.inj hF
  have hP : va_P D vwCl (YW y cy Sf) H := by rw [← e2]; exact hP
  have hD : va_D (va_A (YW y cy S0) s.heap.size) (YW y cy Sf) := by rw [← e2]; exact hD
  exact W.vret hx hb hr (fun t ht hW => ⟨⟨(), rfl, trivial, by rw [ht]; exact hP, va_K.moved hW.alike hK, hD⟩, hS.F ht⟩) hS.2.2 dX10_refuses_35

theorem iX10_oneStep_10 : ∀ w ∈ wsX100, w ∈ wsX10_oneStep := fun _ h => List.mem_cons_of_mem _ (List.mem_append_right _ h)
set_option maxHeartbeats 8000000 in
set_option maxRecDepth 100000 in
theorem zX10_oneStep (l : Launch) (D : va_G) (y : Nat → Nat) (cy : Nat → ClassId) (S0 : RS) (sz : Nat) (p1 : Int32) (Sf : RS) (hF : gX10_oneStep S0 p1 = some Sf) : Met l yX10_oneStep wsX10_oneStep ({ frames := 2, cells := 0, slots := 0, locals := 46 }) (PW D (TYS cy) (YW y cy S0) sz [.ref (y 0), .int p1]) (va_Qv (fun (u : Unit) => True) (BU D (TYS cy) (YW y cy S0) (fun _ => YW y cy Sf) sz) (va_A (YW y cy S0) sz)) 0 0 (va_A (YW y cy S0) sz) := by
  refine Met.ofW (cc := cX10_oneStep) (maxL := 5) (ret := none) (by decide) rfl ?_
  intro p e s m args below meth c s₁ B hml hv
  obtain ⟨rfl, hsz, hP, hK, hD0⟩ := hv
  have hx := B.exec
  have hb := B.bytes
  have hr := B.returns
  have hts := atoms_spec (ws := wsX10_oneStep) B.pre
  have hown : s.vm.findClass RX10 = some m.cls := findClass_of_methodNamed B.named
  have hlocks := B.notSynchronized
  subst hsz
  have hD := hD0.self (sz := s.heap.size)
  have hA : ∀ q9 : Nat, s.heap.size ≤ q9 → va_A (YW y cy S0) s.heap.size q9 := fun q9 h => Or.inr h
  have hS : va_S (va_A (YW y cy S0) s.heap.size) s.heap s.heap [] := va_S.rf
  have hl := lv_entry ([.ref (y 0), .int p1]) (n := 5) (Nat.le_of_ble_eq_true rfl)
  rw [lg_entry_eq]
  generalize (lg_sl ([.ref (y 0), .int p1]) ++ List.replicate (5 - (lg_sl ([.ref (y 0), .int p1])).length) Slot.unset).toArray = ls at hl ⊢
  have hl : lv_has ls 5 [(0, .ref (y 0)), (1, .int p1)] := hl
  unfold gX10_oneStep at hF
  refine lv_bipush (v := 16) hx hb dX10_oneStep_0 (by decide) ?_
  refine lv_iload_n hx hb dX10_oneStep_2 rfl (lv_at hl 1 rfl) ?_
  refine lv_imul hx hb dX10_oneStep_3 ?_
  refine lv_aload_n hx hb dX10_oneStep_4 rfl (lv_at hl 0 rfl) ?_
  refine va_get (D := D) (ci := 10) (v := .ref (y 18)) (C := RX10) (T := TX10) (N := 58) hx hb hts iX10_oneStep_10 hown hK hP 0 rfl rfl 30 (by decide) (hts (.fieldLink RX10 75 "FondsRoomModel" "next" "[I") (List.mem_of_getElem? (i := 1) rfl)) (fun _ h9 => h9) rfl dX10_oneStep_5 ?_
  refine lv_iload_n hx hb dX10_oneStep_8 rfl (lv_at hl 1 rfl) ?_
  obtain ⟨hi2, hF⟩ := ld_s hF
  refine va_iald hx hb hK hP 18 0 rfl rfl hi2 dX10_oneStep_9 ?_
  refine lv_topi (fun y1 ey1 => ?_)
  replace hF := hF y1 ey1
  refine lv_iadd hx hb dX10_oneStep_10 ?_
  refine lv_istore_n (lv' := [(2, .int ((16 * p1) + y1)), (0, .ref (y 0)), (1, .int p1)]) hx hb dX10_oneStep_11 rfl hl (by decide) rfl (fun ls hl => ?_)
  refine lv_aload_n hx hb dX10_oneStep_12 rfl (lv_at hl 1 rfl) ?_
  refine va_get (D := D) (ci := 10) (v := .ref (y 27)) (C := RX10) (T := TX10) (N := 58) hx hb hts iX10_oneStep_10 hown hK hP 0 rfl rfl 39 (by decide) (hts (.fieldLink RX10 102 "FondsRoomModel" "sBox" "[I") (List.mem_of_getElem? (i := 2) rfl)) (fun _ h9 => h9) rfl dX10_oneStep_13 ?_
  refine lv_iload_n hx hb dX10_oneStep_16 rfl (lv_at hl 0 rfl) ?_
  obtain ⟨hi4, hF⟩ := ld_s hF
  refine va_iald hx hb hK hP 27 0 rfl rfl hi4 dX10_oneStep_17 ?_
  refine lv_topi (fun y3 ey3 => ?_)
  replace hF := hF y3 ey3
  refine lv_istore_n (lv' := [(3, .int y3), (2, .int ((16 * p1) + y1)), (0, .ref (y 0)), (1, .int p1)]) hx hb dX10_oneStep_18 rfl hl (by decide) rfl (fun ls hl => ?_)
  refine lv_aload_n hx hb dX10_oneStep_19 rfl (lv_at hl 2 rfl) ?_
  refine va_get (D := D) (ci := 10) (v := .ref (y 18)) (C := RX10) (T := TX10) (N := 58) hx hb hts iX10_oneStep_10 hown hK hP 0 rfl rfl 30 (by decide) (hts (.fieldLink RX10 75 "FondsRoomModel" "next" "[I") (List.mem_of_getElem? (i := 1) rfl)) (fun _ h9 => h9) rfl dX10_oneStep_20 ?_
  refine lv_iload_n hx hb dX10_oneStep_23 rfl (lv_at hl 3 rfl) ?_
  refine lv_dup2_11 hx hb dX10_oneStep_24 rfl rfl ?_
  obtain ⟨hi6, hF⟩ := ld_s hF
  refine va_iald hx hb hK hP 18 0 rfl rfl hi6 dX10_oneStep_25 ?_
  refine lv_topi (fun y5 ey5 => ?_)
  replace hF := hF y5 ey5
  refine lv_iconst (v := 1) hx hb dX10_oneStep_26 (by decide) ?_
  refine lv_iadd hx hb dX10_oneStep_27 ?_
  obtain ⟨hi7, hF⟩ := sv_s hF
  refine va_iast hx hb hK hP hD hS 18 0 rfl rfl hi7 dX10_oneStep_28 (fun H locs hP hD hS => ?_)
  obtain ⟨S8, eS8⟩ : ∃ z, z = wr S0 18 (p1 : Int32).toNatClampNeg (y5 + 1) := ⟨_, rfl⟩
  replace hF := hF S8 eS8
  have hP : va_P D vwCl (YW y cy S8) H := by rw [eS8]; exact hP
  have hD : va_D (va_A (YW y cy S0) s.heap.size) (YW y cy S8) := by rw [eS8]; exact hD
  refine lv_aload_n hx hb dX10_oneStep_29 rfl (lv_at hl 2 rfl) ?_
  refine va_get (D := D) (ci := 10) (v := .ref (y 26)) (C := RX10) (T := TX10) (N := 58) hx hb hts iX10_oneStep_10 hown hK hP 0 rfl rfl 38 (by decide) (hts (.fieldLink RX10 99 "FondsRoomModel" "sKind" "[I") (List.mem_of_getElem? (i := 3) rfl)) (fun _ h9 => h9) rfl dX10_oneStep_30 ?_
  refine lv_iload_n hx hb dX10_oneStep_33 rfl (lv_at hl 1 rfl) ?_
  obtain ⟨hi10, hF⟩ := ld_s hF
  refine va_iald hx hb hK hP 26 0 rfl rfl hi10 dX10_oneStep_34 ?_
  refine lv_topi (fun y9 ey9 => ?_)
  replace hF := hF y9 ey9
  by_cases j11 : y9 = 0
  · skip
    have hF := (if_pos j11).symm.trans hF
    refine lv_tableIn (tgt := 60) hx hb dX10_oneStep_35 (by rw [j11]; decide) (by rw [j11]; decide) (by rw [j11]; rfl) (by decide) ?_
    refine lv_aload_n hx hb dX10_oneStep_60 rfl (lv_at hl 2 rfl) ?_
    refine lv_iload_n hx hb dX10_oneStep_61 rfl (lv_at hl 3 rfl) ?_
    refine lv_iload_n hx hb dX10_oneStep_62 rfl (lv_at hl 0 rfl) ?_
    obtain ⟨r12, hq15, hF⟩ := bd1_s hF
    refine gvI (As := [.int p1, .int y3]) (rest := []) ⟨hx, hb, hml, hown, hts⟩ (zX10_rule l D y cy S8 _ p1 y3 r12 hq15) (cwV 2 hts gX10_oneStep_X10_rule rfl rfl rfl (by decide +kernel) ⟨Nat.le_of_ble_eq_true rfl, Nat.le_of_ble_eq_true rfl⟩) hK hP hD hS hA (va_recv hK hP (ci := 10) (q0 := 0) rfl rfl) rfl hl.1 rfl (Nat.le_of_ble_eq_true rfl) dX10_oneStep_63 ⟨Nat.le_of_ble_eq_true rfl, Nat.le_of_ble_eq_true rfl⟩ (fun a16 u9 H locs hw14 hP hD hS => ?_)
    have hP : va_P D vwCl (YW y cy S8) H := hP
    have hD : va_D _ (YW y cy S8) := hD
    refine lv_tov (v' := .int r12) (congrArg Value.int hw14) ?_
    refine lv_istore (lv' := [(4, .int r12), (3, .int y3), (2, .int ((16 * p1) + y1)), (0, .ref (y 0)), (1, .int p1)]) hx hb dX10_oneStep_66 hl (by decide) rfl (fun ls hl => ?_)
    refine lv_iload hx hb dX10_oneStep_68 (lv_at hl 0 rfl) ?_
    refine lv_if_le (tgt := 81) hx hb dX10_oneStep_70 (by decide) (fun c17 => ?_) (fun c17 => ?_)
    · skip
      have hF := (if_pos c17).symm.trans hF
      refine lv_aload_n hx hb dX10_oneStep_81 rfl (lv_at hl 3 rfl) ?_
      refine va_get (D := D) (ci := 10) (v := .ref (y 7)) (C := RX10) (T := TX10) (N := 58) hx hb hts iX10_oneStep_10 hown hK hP 0 rfl rfl 15 (by decide) (hts (.fieldLink RX10 42 "FondsRoomModel" "ticket" "[I") (List.mem_of_getElem? (i := 4) rfl)) (fun _ h9 => h9) rfl dX10_oneStep_82 ?_
      refine lv_iload_n hx hb dX10_oneStep_85 rfl (lv_at hl 1 rfl) ?_
      refine lv_iload_n hx hb dX10_oneStep_86 rfl (lv_at hl 4 rfl) ?_
      obtain ⟨hi18, hF⟩ := sv_s hF
      refine va_iast hx hb hK hP hD hS 7 0 rfl rfl hi18 dX10_oneStep_87 (fun H locs hP hD hS => ?_)
      obtain ⟨S19, eS19⟩ : ∃ z, z = wr S8 7 (y3 : Int32).toNatClampNeg p1 := ⟨_, rfl⟩
      replace hF := hF S19 eS19
      have hP : va_P D vwCl (YW y cy S19) H := by rw [eS19]; exact hP
      have hD : va_D (va_A (YW y cy S0) s.heap.size) (YW y cy S19) := by rw [eS19]; exact hD
      refine lv_aload_n hx hb dX10_oneStep_88 rfl (lv_at hl 3 rfl) ?_
      refine va_get (D := D) (ci := 10) (v := .ref (y 8)) (C := RX10) (T := TX10) (N := 58) hx hb hts iX10_oneStep_10 hown hK hP 0 rfl rfl 16 (by decide) (hts (.fieldLink RX10 45 "FondsRoomModel" "ticketAt" "[I") (List.mem_of_getElem? (i := 5) rfl)) (fun _ h9 => h9) rfl dX10_oneStep_89 ?_
      refine lv_iload_n hx hb dX10_oneStep_92 rfl (lv_at hl 1 rfl) ?_
      refine lv_aload_n hx hb dX10_oneStep_93 rfl (lv_at hl 3 rfl) ?_
      refine va_get (D := D) (ci := 10) (v := .int (S19 0 20)) (C := RX10) (T := TX10) (N := 58) hx hb hts iX10_oneStep_10 hown hK hP 0 rfl rfl 20 (by decide) (hts (.fieldLink RX10 224 "FondsRoomModel" "tickets" "I") (List.mem_of_getElem? (i := 6) rfl)) (fun _ h9 => h9) rfl dX10_oneStep_94 ?_
      obtain ⟨hi20, hF⟩ := sv_s hF
      refine va_iast hx hb hK hP hD hS 8 0 rfl rfl hi20 dX10_oneStep_97 (fun H locs hP hD hS => ?_)
      obtain ⟨S21, eS21⟩ : ∃ z, z = wr S19 8 (y3 : Int32).toNatClampNeg (S19 0 20) := ⟨_, rfl⟩
      replace hF := hF S21 eS21
      have hP : va_P D vwCl (YW y cy S21) H := by rw [eS21]; exact hP
      have hD : va_D (va_A (YW y cy S0) s.heap.size) (YW y cy S21) := by rw [eS21]; exact hD
      refine lv_aload_n hx hb dX10_oneStep_98 rfl (lv_at hl 3 rfl) ?_
      refine lv_dup hx hb dX10_oneStep_99 rfl ?_
      refine va_get (D := D) (ci := 10) (v := .int (S21 0 20)) (C := RX10) (T := TX10) (N := 58) hx hb hts iX10_oneStep_10 hown hK hP 0 rfl rfl 20 (by decide) (hts (.fieldLink RX10 224 "FondsRoomModel" "tickets" "I") (List.mem_of_getElem? (i := 6) rfl)) (fun _ h9 => h9) rfl dX10_oneStep_100 ?_
      refine lv_iconst (v := 1) hx hb dX10_oneStep_103 (by decide) ?_
      refine lv_iadd hx hb dX10_oneStep_104 ?_
      refine va_put (D := D) (ci := 10) (v := .int ((S21 0 20) + 1)) (ty := .int) (C := RX10) (T := TX10) (N := 58) hx hb hts iX10_oneStep_10 tyX10 tyX10_ok nmX10 hown hK hP hD hS 0 rfl rfl 20 (by decide) (hts (.fieldLink RX10 224 "FondsRoomModel" "tickets" "I") (List.mem_of_getElem? (i := 6) rfl)) (fun _ h9 => h9) rfl (by decide +kernel) rfl rfl (Nat.le_of_ble_eq_true rfl) dX10_oneStep_105 (fun H locs hP hD hS => ?_)
      obtain ⟨S22, eS22⟩ : ∃ z, z = wr S21 0 20 ((S21 0 20) + 1) := ⟨_, rfl⟩
      replace hF := bnd_s hF S22 eS22
      have hP : va_P D vwCl (YW y cy S22) H := by rw [eS22]; exact hP
      have hD : va_D (va_A (YW y cy S0) s.heap.size) (YW y cy S22) := by rw [eS22]; exact hD
      refine lv_aload_n hx hb dX10_oneStep_108 rfl (lv_at hl 3 rfl) ?_
      refine va_get (D := D) (ci := 10) (v := .ref (y 15)) (C := RX10) (T := TX10) (N := 58) hx hb hts iX10_oneStep_10 hown hK hP 0 rfl rfl 27 (by decide) (hts (.fieldLink RX10 66 "FondsRoomModel" "state" "[I") (List.mem_of_getElem? (i := 7) rfl)) (fun _ h9 => h9) rfl dX10_oneStep_109 ?_
      refine lv_iload_n hx hb dX10_oneStep_112 rfl (lv_at hl 4 rfl) ?_
      refine lv_iconst (v := 2) hx hb dX10_oneStep_113 (by decide) ?_
      obtain ⟨hi23, hF⟩ := sv_s hF
      refine va_iast hx hb hK hP hD hS 15 0 rfl rfl hi23 dX10_oneStep_114 (fun H locs hP hD hS => ?_)
      obtain ⟨S24, eS24⟩ : ∃ z, z = wr S22 15 (p1 : Int32).toNatClampNeg 2 := ⟨_, rfl⟩
      replace hF := hF S24 eS24
      have hP : va_P D vwCl (YW y cy S24) H := by rw [eS24]; exact hP
      have hD : va_D (va_A (YW y cy S0) s.heap.size) (YW y cy S24) := by rw [eS24]; exact hD
      refine lv_aload_n hx hb dX10_oneStep_115 rfl (lv_at hl 3 rfl) ?_
      refine lv_iload_n hx hb dX10_oneStep_116 rfl (lv_at hl 4 rfl) ?_
      refine lv_iconst (v := 3) hx hb dX10_oneStep_117 (by decide) ?_
      refine lv_iload_n hx hb dX10_oneStep_118 rfl (lv_at hl 1 rfl) ?_
      refine lv_iconst (v := 1) hx hb dX10_oneStep_119 (by decide) ?_
      obtain ⟨S26, hq28, hF⟩ := bd1_s hF
      refine gvV (As := [.int p1, .int 3, .int y3, .int 1]) (rest := []) ⟨hx, hb, hml, hown, hts⟩ (zX10_event l D y cy S24 _ p1 3 y3 1 S26 hq28) (cwV 4 hts gX10_oneStep_X10_event rfl rfl rfl (by decide +kernel) ⟨Nat.le_of_ble_eq_true rfl, Nat.le_of_ble_eq_true rfl⟩) hK hP hD hS hA (va_recv hK hP (ci := 10) (q0 := 0) rfl rfl) rfl hl.1 rfl (Nat.le_of_ble_eq_true rfl) dX10_oneStep_120 ⟨Nat.le_of_ble_eq_true rfl, Nat.le_of_ble_eq_true rfl⟩ (fun u9 H locs hw27 hP hD hS => ?_)
      have hP : va_P D vwCl (YW y cy S26) H := hP
      have hD : va_D _ (YW y cy S26) := hD
      have e2 := Option.some.inj hF
      have hP : va_P D vwCl (YW y cy Sf) H := by rw [← e2]; exact hP
      have hD : va_D (va_A (YW y cy S0) s.heap.size) (YW y cy Sf) := by rw [← e2]; exact hD
      exact W.vret hx hb hr (fun t ht hW => ⟨⟨(), rfl, trivial, by rw [ht]; exact hP, va_K.moved hW.alike hK, hD⟩, hS.F ht⟩) hS.2.2 dX10_oneStep_123
    · skip
      have hF := (if_neg c17).symm.trans hF
      refine lv_aload_n hx hb dX10_oneStep_73 rfl (lv_at hl 3 rfl) ?_
      refine lv_iload_n hx hb dX10_oneStep_74 rfl (lv_at hl 4 rfl) ?_
      refine lv_iload hx hb dX10_oneStep_75 (lv_at hl 0 rfl) ?_
      obtain ⟨S31, hq33, hF⟩ := bd1_s hF
      refine gvV (As := [.int p1, .int r12]) (rest := []) ⟨hx, hb, hml, hown, hts⟩ (zX10_refuses l D y cy S8 _ p1 r12 S31 hq33) (cwV 2 hts gX10_oneStep_X10_refuses rfl rfl rfl (by decide +kernel) ⟨Nat.le_of_ble_eq_true rfl, Nat.le_of_ble_eq_true rfl⟩) hK hP hD hS hA (va_recv hK hP (ci := 10) (q0 := 0) rfl rfl) rfl hl.1 rfl (Nat.le_of_ble_eq_true rfl) dX10_oneStep_77 ⟨Nat.le_of_ble_eq_true rfl, Nat.le_of_ble_eq_true rfl⟩ (fun u9 H locs hw32 hP hD hS => ?_)
      have hP : va_P D vwCl (YW y cy S31) H := hP
      have hD : va_D _ (YW y cy S31) := hD
      have e2 := Option.some.inj hF
      have hP : va_P D vwCl (YW y cy Sf) H := by rw [← e2]; exact hP
      have hD : va_D (va_A (YW y cy S0) s.heap.size) (YW y cy Sf) := by rw [← e2]; exact hD
      exact W.vret hx hb hr (fun t ht hW => ⟨⟨(), rfl, trivial, by rw [ht]; exact hP, va_K.moved hW.alike hK, hD⟩, hS.F ht⟩) hS.2.2 dX10_oneStep_80
  replace hF := (if_neg j11).symm.trans hF
  by_cases j35 : y9 = 1
  · skip
    have hF := (if_pos j35).symm.trans hF
    refine lv_tableIn (tgt := 124) hx hb dX10_oneStep_35 (by rw [j35]; decide) (by rw [j35]; decide) (by rw [j35]; rfl) (by decide) ?_
    refine lv_aload_n hx hb dX10_oneStep_124 rfl (lv_at hl 2 rfl) ?_
    refine va_get (D := D) (ci := 10) (v := .ref (y 15)) (C := RX10) (T := TX10) (N := 58) hx hb hts iX10_oneStep_10 hown hK hP 0 rfl rfl 27 (by decide) (hts (.fieldLink RX10 66 "FondsRoomModel" "state" "[I") (List.mem_of_getElem? (i := 7) rfl)) (fun _ h9 => h9) rfl dX10_oneStep_125 ?_
    refine lv_iload_n hx hb dX10_oneStep_128 rfl (lv_at hl 3 rfl) ?_
    refine lv_iconst (v := 3) hx hb dX10_oneStep_129 (by decide) ?_
    obtain ⟨hi36, hF⟩ := sv_s hF
    refine va_iast hx hb hK hP hD hS 15 0 rfl rfl hi36 dX10_oneStep_130 (fun H locs hP hD hS => ?_)
    obtain ⟨S37, eS37⟩ : ∃ z, z = wr S8 15 (p1 : Int32).toNatClampNeg 3 := ⟨_, rfl⟩
    replace hF := hF S37 eS37
    have hP : va_P D vwCl (YW y cy S37) H := by rw [eS37]; exact hP
    have hD : va_D (va_A (YW y cy S0) s.heap.size) (YW y cy S37) := by rw [eS37]; exact hD
    refine lv_aload_n hx hb dX10_oneStep_131 rfl (lv_at hl 2 rfl) ?_
    refine va_get (D := D) (ci := 10) (v := .ref (y 19)) (C := RX10) (T := TX10) (N := 58) hx hb hts iX10_oneStep_10 hown hK hP 0 rfl rfl 31 (by decide) (hts (.fieldLink RX10 78 "FondsRoomModel" "left" "[I") (List.mem_of_getElem? (i := 8) rfl)) (fun _ h9 => h9) rfl dX10_oneStep_132 ?_
    refine lv_iload_n hx hb dX10_oneStep_135 rfl (lv_at hl 3 rfl) ?_
    refine lv_aload_n hx hb dX10_oneStep_136 rfl (lv_at hl 2 rfl) ?_
    refine va_get (D := D) (ci := 10) (v := .ref (y 28)) (C := RX10) (T := TX10) (N := 58) hx hb hts iX10_oneStep_10 hown hK hP 0 rfl rfl 40 (by decide) (hts (.fieldLink RX10 105 "FondsRoomModel" "sMany" "[I") (List.mem_of_getElem? (i := 9) rfl)) (fun _ h9 => h9) rfl dX10_oneStep_137 ?_
    refine lv_iload_n hx hb dX10_oneStep_140 rfl (lv_at hl 1 rfl) ?_
    obtain ⟨hi39, hF⟩ := ld_s hF
    refine va_iald hx hb hK hP 28 0 rfl rfl hi39 dX10_oneStep_141 ?_
    refine lv_topi (fun y38 ey38 => ?_)
    replace hF := hF y38 ey38
    obtain ⟨hi40, hF⟩ := sv_s hF
    refine va_iast hx hb hK hP hD hS 19 0 rfl rfl hi40 dX10_oneStep_142 (fun H locs hP hD hS => ?_)
    obtain ⟨S41, eS41⟩ : ∃ z, z = wr S37 19 (p1 : Int32).toNatClampNeg y38 := ⟨_, rfl⟩
    replace hF := hF S41 eS41
    have hP : va_P D vwCl (YW y cy S41) H := by rw [eS41]; exact hP
    have hD : va_D (va_A (YW y cy S0) s.heap.size) (YW y cy S41) := by rw [eS41]; exact hD
    have e2 := Option.some.inj hF
    have hP : va_P D vwCl (YW y cy Sf) H := by rw [← e2]; exact hP
    have hD : va_D (va_A (YW y cy S0) s.heap.size) (YW y cy Sf) := by rw [← e2]; exact hD
    exact W.vret hx hb hr (fun t ht hW => ⟨⟨(), rfl, trivial, by rw [ht]; exact hP, va_K.moved hW.alike hK, hD⟩, hS.F ht⟩) hS.2.2 dX10_oneStep_143
  replace hF := (if_neg j35).symm.trans hF
  by_cases j42 : y9 = 2
  · skip
    have hF := (if_pos j42).symm.trans hF
    refine lv_tableIn (tgt := 144) hx hb dX10_oneStep_35 (by rw [j42]; decide) (by rw [j42]; decide) (by rw [j42]; rfl) (by decide) ?_
    refine lv_aload_n hx hb dX10_oneStep_144 rfl (lv_at hl 2 rfl) ?_
    refine va_get (D := D) (ci := 10) (v := .ref (y 6)) (C := RX10) (T := TX10) (N := 58) hx hb hts iX10_oneStep_10 hown hK hP 0 rfl rfl 14 (by decide) (hts (.fieldLink RX10 39 "FondsRoomModel" "has" "[I") (List.mem_of_getElem? (i := 10) rfl)) (fun _ h9 => h9) rfl dX10_oneStep_145 ?_
    refine lv_iload_n hx hb dX10_oneStep_148 rfl (lv_at hl 0 rfl) ?_
    obtain ⟨hi44, hF⟩ := ld_s hF
    refine va_iald hx hb hK hP 6 0 rfl rfl hi44 dX10_oneStep_149 ?_
    refine lv_topi (fun y43 ey43 => ?_)
    replace hF := hF y43 ey43
    refine lv_iload_n hx hb dX10_oneStep_150 rfl (lv_at hl 3 rfl) ?_
    refine lv_icmp_eq (tgt := 161) hx hb dX10_oneStep_151 (by decide) (fun c45 => ?_) (fun c45 => ?_)
    · skip
      have hF := (if_pos c45).symm.trans hF
      refine lv_aload_n hx hb dX10_oneStep_161 rfl (lv_at hl 2 rfl) ?_
      refine va_get (D := D) (ci := 10) (v := .ref (y 5)) (C := RX10) (T := TX10) (N := 58) hx hb hts iX10_oneStep_10 hown hK hP 0 rfl rfl 13 (by decide) (hts (.fieldLink RX10 36 "FondsRoomModel" "place" "[I") (List.mem_of_getElem? (i := 11) rfl)) (fun _ h9 => h9) rfl dX10_oneStep_162 ?_
      refine lv_iload_n hx hb dX10_oneStep_165 rfl (lv_at hl 0 rfl) ?_
      refine lv_iconst (v := 5) hx hb dX10_oneStep_166 (by decide) ?_
      obtain ⟨hi46, hF⟩ := sv_s hF
      refine va_iast hx hb hK hP hD hS 5 0 rfl rfl hi46 dX10_oneStep_167 (fun H locs hP hD hS => ?_)
      obtain ⟨S47, eS47⟩ : ∃ z, z = wr S8 5 (y3 : Int32).toNatClampNeg 5 := ⟨_, rfl⟩
      replace hF := hF S47 eS47
      have hP : va_P D vwCl (YW y cy S47) H := by rw [eS47]; exact hP
      have hD : va_D (va_A (YW y cy S0) s.heap.size) (YW y cy S47) := by rw [eS47]; exact hD
      refine lv_aload_n hx hb dX10_oneStep_168 rfl (lv_at hl 2 rfl) ?_
      refine va_get (D := D) (ci := 10) (v := .ref (y 9)) (C := RX10) (T := TX10) (N := 58) hx hb hts iX10_oneStep_10 hown hK hP 0 rfl rfl 17 (by decide) (hts (.fieldLink RX10 48 "FondsRoomModel" "copyAt" "[I") (List.mem_of_getElem? (i := 12) rfl)) (fun _ h9 => h9) rfl dX10_oneStep_169 ?_
      refine lv_iload_n hx hb dX10_oneStep_172 rfl (lv_at hl 0 rfl) ?_
      refine lv_aload_n hx hb dX10_oneStep_173 rfl (lv_at hl 2 rfl) ?_
      refine va_get (D := D) (ci := 10) (v := .int (S47 0 20)) (C := RX10) (T := TX10) (N := 58) hx hb hts iX10_oneStep_10 hown hK hP 0 rfl rfl 20 (by decide) (hts (.fieldLink RX10 224 "FondsRoomModel" "tickets" "I") (List.mem_of_getElem? (i := 6) rfl)) (fun _ h9 => h9) rfl dX10_oneStep_174 ?_
      obtain ⟨hi48, hF⟩ := sv_s hF
      refine va_iast hx hb hK hP hD hS 9 0 rfl rfl hi48 dX10_oneStep_177 (fun H locs hP hD hS => ?_)
      obtain ⟨S49, eS49⟩ : ∃ z, z = wr S47 9 (y3 : Int32).toNatClampNeg (S47 0 20) := ⟨_, rfl⟩
      replace hF := hF S49 eS49
      have hP : va_P D vwCl (YW y cy S49) H := by rw [eS49]; exact hP
      have hD : va_D (va_A (YW y cy S0) s.heap.size) (YW y cy S49) := by rw [eS49]; exact hD
      refine lv_aload_n hx hb dX10_oneStep_178 rfl (lv_at hl 2 rfl) ?_
      refine lv_dup hx hb dX10_oneStep_179 rfl ?_
      refine va_get (D := D) (ci := 10) (v := .int (S49 0 20)) (C := RX10) (T := TX10) (N := 58) hx hb hts iX10_oneStep_10 hown hK hP 0 rfl rfl 20 (by decide) (hts (.fieldLink RX10 224 "FondsRoomModel" "tickets" "I") (List.mem_of_getElem? (i := 6) rfl)) (fun _ h9 => h9) rfl dX10_oneStep_180 ?_
      refine lv_iconst (v := 1) hx hb dX10_oneStep_183 (by decide) ?_
      refine lv_iadd hx hb dX10_oneStep_184 ?_
      refine va_put (D := D) (ci := 10) (v := .int ((S49 0 20) + 1)) (ty := .int) (C := RX10) (T := TX10) (N := 58) hx hb hts iX10_oneStep_10 tyX10 tyX10_ok nmX10 hown hK hP hD hS 0 rfl rfl 20 (by decide) (hts (.fieldLink RX10 224 "FondsRoomModel" "tickets" "I") (List.mem_of_getElem? (i := 6) rfl)) (fun _ h9 => h9) rfl (by decide +kernel) rfl rfl (Nat.le_of_ble_eq_true rfl) dX10_oneStep_185 (fun H locs hP hD hS => ?_)
      obtain ⟨S50, eS50⟩ : ∃ z, z = wr S49 0 20 ((S49 0 20) + 1) := ⟨_, rfl⟩
      replace hF := bnd_s hF S50 eS50
      have hP : va_P D vwCl (YW y cy S50) H := by rw [eS50]; exact hP
      have hD : va_D (va_A (YW y cy S0) s.heap.size) (YW y cy S50) := by rw [eS50]; exact hD
      refine lv_aload_n hx hb dX10_oneStep_188 rfl (lv_at hl 2 rfl) ?_
      refine va_get (D := D) (ci := 10) (v := .ref (y 10)) (C := RX10) (T := TX10) (N := 58) hx hb hts iX10_oneStep_10 hown hK hP 0 rfl rfl 18 (by decide) (hts (.fieldLink RX10 51 "FondsRoomModel" "pages" "[I") (List.mem_of_getElem? (i := 13) rfl)) (fun _ h9 => h9) rfl dX10_oneStep_189 ?_
      refine lv_iload_n hx hb dX10_oneStep_192 rfl (lv_at hl 0 rfl) ?_
      refine lv_aload_n hx hb dX10_oneStep_193 rfl (lv_at hl 2 rfl) ?_
      refine va_get (D := D) (ci := 10) (v := .ref (y 28)) (C := RX10) (T := TX10) (N := 58) hx hb hts iX10_oneStep_10 hown hK hP 0 rfl rfl 40 (by decide) (hts (.fieldLink RX10 105 "FondsRoomModel" "sMany" "[I") (List.mem_of_getElem? (i := 9) rfl)) (fun _ h9 => h9) rfl dX10_oneStep_194 ?_
      refine lv_iload_n hx hb dX10_oneStep_197 rfl (lv_at hl 1 rfl) ?_
      obtain ⟨hi52, hF⟩ := ld_s hF
      refine va_iald hx hb hK hP 28 0 rfl rfl hi52 dX10_oneStep_198 ?_
      refine lv_topi (fun y51 ey51 => ?_)
      replace hF := hF y51 ey51
      obtain ⟨hi53, hF⟩ := sv_s hF
      refine va_iast hx hb hK hP hD hS 10 0 rfl rfl hi53 dX10_oneStep_199 (fun H locs hP hD hS => ?_)
      obtain ⟨S54, eS54⟩ : ∃ z, z = wr S50 10 (y3 : Int32).toNatClampNeg y51 := ⟨_, rfl⟩
      replace hF := hF S54 eS54
      have hP : va_P D vwCl (YW y cy S54) H := by rw [eS54]; exact hP
      have hD : va_D (va_A (YW y cy S0) s.heap.size) (YW y cy S54) := by rw [eS54]; exact hD
      refine lv_aload_n hx hb dX10_oneStep_200 rfl (lv_at hl 2 rfl) ?_
      refine va_get (D := D) (ci := 10) (v := .ref (y 11)) (C := RX10) (T := TX10) (N := 58) hx hb hts iX10_oneStep_10 hown hK hP 0 rfl rfl 19 (by decide) (hts (.fieldLink RX10 54 "FondsRoomModel" "isUrgent" "[Z") (List.mem_of_getElem? (i := 14) rfl)) (fun _ h9 => h9) rfl dX10_oneStep_201 ?_
      refine lv_iload_n hx hb dX10_oneStep_204 rfl (lv_at hl 0 rfl) ?_
      refine lv_aload_n hx hb dX10_oneStep_205 rfl (lv_at hl 2 rfl) ?_
      refine va_get (D := D) (ci := 10) (v := .ref (y 29)) (C := RX10) (T := TX10) (N := 58) hx hb hts iX10_oneStep_10 hown hK hP 0 rfl rfl 41 (by decide) (hts (.fieldLink RX10 108 "FondsRoomModel" "sUrgent" "[Z") (List.mem_of_getElem? (i := 15) rfl)) (fun _ h9 => h9) rfl dX10_oneStep_206 ?_
      refine lv_iload_n hx hb dX10_oneStep_209 rfl (lv_at hl 1 rfl) ?_
      obtain ⟨hi56, hF⟩ := ld_s hF
      refine va_zald hx hb hK hP 29 1 rfl rfl hi56 dX10_oneStep_210 ?_
      refine lv_topi (fun y55 ey55 => ?_)
      replace hF := hF y55 ey55
      obtain ⟨hi57, hF⟩ := sv_s hF
      refine va_zast hx hb hK hP hD hS 11 1 rfl rfl hi57 dX10_oneStep_211 (fun H locs hP hD hS => ?_)
      obtain ⟨S58, eS58⟩ : ∃ z, z = wr S54 11 (y3 : Int32).toNatClampNeg (vp_nar .boolean y55) := ⟨_, rfl⟩
      replace hF := hF S58 eS58
      have hP : va_P D vwCl (YW y cy S58) H := by rw [eS58]; exact hP
      have hD : va_D (va_A (YW y cy S0) s.heap.size) (YW y cy S58) := by rw [eS58]; exact hD
      refine lv_aload_n hx hb dX10_oneStep_212 rfl (lv_at hl 2 rfl) ?_
      refine va_get (D := D) (ci := 10) (v := .ref (y 15)) (C := RX10) (T := TX10) (N := 58) hx hb hts iX10_oneStep_10 hown hK hP 0 rfl rfl 27 (by decide) (hts (.fieldLink RX10 66 "FondsRoomModel" "state" "[I") (List.mem_of_getElem? (i := 7) rfl)) (fun _ h9 => h9) rfl dX10_oneStep_213 ?_
      refine lv_iload_n hx hb dX10_oneStep_216 rfl (lv_at hl 3 rfl) ?_
      refine lv_iconst (v := 4) hx hb dX10_oneStep_217 (by decide) ?_
      obtain ⟨hi59, hF⟩ := sv_s hF
      refine va_iast hx hb hK hP hD hS 15 0 rfl rfl hi59 dX10_oneStep_218 (fun H locs hP hD hS => ?_)
      obtain ⟨S60, eS60⟩ : ∃ z, z = wr S58 15 (p1 : Int32).toNatClampNeg 4 := ⟨_, rfl⟩
      replace hF := hF S60 eS60
      have hP : va_P D vwCl (YW y cy S60) H := by rw [eS60]; exact hP
      have hD : va_D (va_A (YW y cy S0) s.heap.size) (YW y cy S60) := by rw [eS60]; exact hD
      have e2 := Option.some.inj hF
      have hP : va_P D vwCl (YW y cy Sf) H := by rw [← e2]; exact hP
      have hD : va_D (va_A (YW y cy S0) s.heap.size) (YW y cy Sf) := by rw [← e2]; exact hD
      exact W.vret hx hb hr (fun t ht hW => ⟨⟨(), rfl, trivial, by rw [ht]; exact hP, va_K.moved hW.alike hK, hD⟩, hS.F ht⟩) hS.2.2 dX10_oneStep_219
    · skip
      have hF := (if_neg c45).symm.trans hF
      refine lv_aload_n hx hb dX10_oneStep_154 rfl (lv_at hl 2 rfl) ?_
      refine lv_iload_n hx hb dX10_oneStep_155 rfl (lv_at hl 3 rfl) ?_
      refine lv_iconst (v := 5) hx hb dX10_oneStep_156 (by decide) ?_
      obtain ⟨S62, hq64, hF⟩ := bd1_s hF
      refine gvV (As := [.int p1, .int 5]) (rest := []) ⟨hx, hb, hml, hown, hts⟩ (zX10_refuses l D y cy S8 _ p1 5 S62 hq64) (cwV 2 hts gX10_oneStep_X10_refuses rfl rfl rfl (by decide +kernel) ⟨Nat.le_of_ble_eq_true rfl, Nat.le_of_ble_eq_true rfl⟩) hK hP hD hS hA (va_recv hK hP (ci := 10) (q0 := 0) rfl rfl) rfl hl.1 rfl (Nat.le_of_ble_eq_true rfl) dX10_oneStep_157 ⟨Nat.le_of_ble_eq_true rfl, Nat.le_of_ble_eq_true rfl⟩ (fun u9 H locs hw63 hP hD hS => ?_)
      have hP : va_P D vwCl (YW y cy S62) H := hP
      have hD : va_D _ (YW y cy S62) := hD
      have e2 := Option.some.inj hF
      have hP : va_P D vwCl (YW y cy Sf) H := by rw [← e2]; exact hP
      have hD : va_D (va_A (YW y cy S0) s.heap.size) (YW y cy Sf) := by rw [← e2]; exact hD
      exact W.vret hx hb hr (fun t ht hW => ⟨⟨(), rfl, trivial, by rw [ht]; exact hP, va_K.moved hW.alike hK, hD⟩, hS.F ht⟩) hS.2.2 dX10_oneStep_160
  replace hF := (if_neg j42).symm.trans hF
  have zj11 : (y9).toInt ≠ 0 := fun h9 => j11 ((fa_eq _ _).mpr (h9.trans (by decide)))
  have zj35 : (y9).toInt ≠ 1 := fun h9 => j35 ((fa_eq _ _).mpr (h9.trans (by decide)))
  have zj42 : (y9).toInt ≠ 2 := fun h9 => j42 ((fa_eq _ _).mpr (h9.trans (by decide)))
  refine lv_tableOut (tgt := 220) hx hb dX10_oneStep_35 (by omega) (by decide) ?_
  refine lv_aload_n hx hb dX10_oneStep_220 rfl (lv_at hl 2 rfl) ?_
  refine va_get (D := D) (ci := 10) (v := .ref (y 6)) (C := RX10) (T := TX10) (N := 58) hx hb hts iX10_oneStep_10 hown hK hP 0 rfl rfl 14 (by decide) (hts (.fieldLink RX10 39 "FondsRoomModel" "has" "[I") (List.mem_of_getElem? (i := 10) rfl)) (fun _ h9 => h9) rfl dX10_oneStep_221 ?_
  refine lv_iload_n hx hb dX10_oneStep_224 rfl (lv_at hl 0 rfl) ?_
  obtain ⟨hi67, hF⟩ := ld_s hF
  refine va_iald hx hb hK hP 6 0 rfl rfl hi67 dX10_oneStep_225 ?_
  refine lv_topi (fun y66 ey66 => ?_)
  replace hF := hF y66 ey66
  refine lv_iload_n hx hb dX10_oneStep_226 rfl (lv_at hl 3 rfl) ?_
  refine lv_icmp_eq (tgt := 237) hx hb dX10_oneStep_227 (by decide) (fun c68 => ?_) (fun c68 => ?_)
  · skip
    have hF := (if_pos c68).symm.trans hF
    refine lv_aload_n hx hb dX10_oneStep_237 rfl (lv_at hl 2 rfl) ?_
    refine lv_iload_n hx hb dX10_oneStep_238 rfl (lv_at hl 0 rfl) ?_
    obtain ⟨S70, hq72, hF⟩ := bd1_s hF
    refine gvV (As := [.int y3]) (rest := []) ⟨hx, hb, hml, hown, hts⟩ (zX10_isLeft l D y cy S8 _ y3 S70 hq72) (cwV 1 hts gX10_oneStep_X10_isLeft rfl rfl rfl (by decide +kernel) ⟨Nat.le_of_ble_eq_true rfl, Nat.le_of_ble_eq_true rfl⟩) hK hP hD hS hA (va_recv hK hP (ci := 10) (q0 := 0) rfl rfl) rfl hl.1 rfl (Nat.le_of_ble_eq_true rfl) dX10_oneStep_239 ⟨Nat.le_of_ble_eq_true rfl, Nat.le_of_ble_eq_true rfl⟩ (fun u9 H locs hw71 hP hD hS => ?_)
    have hP : va_P D vwCl (YW y cy S70) H := hP
    have hD : va_D _ (YW y cy S70) := hD
    refine lv_aload_n hx hb dX10_oneStep_242 rfl (lv_at hl 2 rfl) ?_
    refine lv_iload_n hx hb dX10_oneStep_243 rfl (lv_at hl 3 rfl) ?_
    refine lv_bipush (v := 7) hx hb dX10_oneStep_244 (by decide) ?_
    refine lv_iload_n hx hb dX10_oneStep_246 rfl (lv_at hl 0 rfl) ?_
    refine lv_iconst (v := 1) hx hb dX10_oneStep_247 (by decide) ?_
    obtain ⟨S75, hq77, hF⟩ := bd1_s hF
    refine gvV (As := [.int p1, .int 7, .int y3, .int 1]) (rest := []) ⟨hx, hb, hml, hown, hts⟩ (zX10_event l D y cy S70 _ p1 7 y3 1 S75 hq77) (cwV 4 hts gX10_oneStep_X10_event rfl rfl rfl (by decide +kernel) ⟨Nat.le_of_ble_eq_true rfl, Nat.le_of_ble_eq_true rfl⟩) hK hP hD hS hA (va_recv hK hP (ci := 10) (q0 := 0) rfl rfl) rfl hl.1 rfl (Nat.le_of_ble_eq_true rfl) dX10_oneStep_248 ⟨Nat.le_of_ble_eq_true rfl, Nat.le_of_ble_eq_true rfl⟩ (fun u9 H locs hw76 hP hD hS => ?_)
    have hP : va_P D vwCl (YW y cy S75) H := hP
    have hD : va_D _ (YW y cy S75) := hD
    have e2 := Option.some.inj hF
    have hP : va_P D vwCl (YW y cy Sf) H := by rw [← e2]; exact hP
    have hD : va_D (va_A (YW y cy S0) s.heap.size) (YW y cy Sf) := by rw [← e2]; exact hD
    exact W.vret hx hb hr (fun t ht hW => ⟨⟨(), rfl, trivial, by rw [ht]; exact hP, va_K.moved hW.alike hK, hD⟩, hS.F ht⟩) hS.2.2 dX10_oneStep_251
  · skip
    have hF := (if_neg c68).symm.trans hF
    refine lv_aload_n hx hb dX10_oneStep_230 rfl (lv_at hl 2 rfl) ?_
    refine lv_iload_n hx hb dX10_oneStep_231 rfl (lv_at hl 3 rfl) ?_
    refine lv_iconst (v := 5) hx hb dX10_oneStep_232 (by decide) ?_
    obtain ⟨S80, hq82, hF⟩ := bd1_s hF
    refine gvV (As := [.int p1, .int 5]) (rest := []) ⟨hx, hb, hml, hown, hts⟩ (zX10_refuses l D y cy S8 _ p1 5 S80 hq82) (cwV 2 hts gX10_oneStep_X10_refuses rfl rfl rfl (by decide +kernel) ⟨Nat.le_of_ble_eq_true rfl, Nat.le_of_ble_eq_true rfl⟩) hK hP hD hS hA (va_recv hK hP (ci := 10) (q0 := 0) rfl rfl) rfl hl.1 rfl (Nat.le_of_ble_eq_true rfl) dX10_oneStep_233 ⟨Nat.le_of_ble_eq_true rfl, Nat.le_of_ble_eq_true rfl⟩ (fun u9 H locs hw81 hP hD hS => ?_)
    have hP : va_P D vwCl (YW y cy S80) H := hP
    have hD : va_D _ (YW y cy S80) := hD
    have e2 := Option.some.inj hF
    have hP : va_P D vwCl (YW y cy Sf) H := by rw [← e2]; exact hP
    have hD : va_D (va_A (YW y cy S0) s.heap.size) (YW y cy Sf) := by rw [← e2]; exact hD
    exact W.vret hx hb hr (fun t ht hW => ⟨⟨(), rfl, trivial, by rw [ht]; exact hP, va_K.moved hW.alike hK, hD⟩, hS.F ht⟩) hS.2.2 dX10_oneStep_236

theorem iX10_goesOn_10 : ∀ w ∈ wsX100, w ∈ wsX10_goesOn := fun _ h => List.mem_cons_of_mem _ (List.mem_append_right _ h)
set_option maxHeartbeats 8000000 in
set_option maxRecDepth 100000 in
theorem zX10_goesOn (l : Launch) (D : va_G) (y : Nat → Nat) (cy : Nat → ClassId) (S0 : RS) (sz : Nat) (p1 : Int32) (Sf : RS) (hF : gX10_goesOn S0 p1 = some Sf) : Met l yX10_goesOn wsX10_goesOn ({ frames := 3, cells := 0, slots := 0, locals := 70 }) (PW D (TYS cy) (YW y cy S0) sz [.ref (y 0), .int p1]) (va_Qv (fun (u : Unit) => True) (BU D (TYS cy) (YW y cy S0) (fun _ => YW y cy Sf) sz) (va_A (YW y cy S0) sz)) 0 0 (va_A (YW y cy S0) sz) := by
  refine Met.ofW (cc := cX10_goesOn) (maxL := 3) (ret := none) (by decide) rfl ?_
  intro p e s m args below meth c s₁ B hml hv
  obtain ⟨rfl, hsz, hP, hK, hD0⟩ := hv
  have hx := B.exec
  have hb := B.bytes
  have hr := B.returns
  have hts := atoms_spec (ws := wsX10_goesOn) B.pre
  have hown : s.vm.findClass RX10 = some m.cls := findClass_of_methodNamed B.named
  have hlocks := B.notSynchronized
  subst hsz
  have hD := hD0.self (sz := s.heap.size)
  have hA : ∀ q9 : Nat, s.heap.size ≤ q9 → va_A (YW y cy S0) s.heap.size q9 := fun q9 h => Or.inr h
  have hS : va_S (va_A (YW y cy S0) s.heap.size) s.heap s.heap [] := va_S.rf
  have key36 : ∀ (K : Int32 → RS → Option (RS)), (∀ (v1 : Int32) (S : RS) (H : Heap) (locs : List Loc) (ls : Array Slot), K v1 S = some Sf → va_P D vwCl (YW y cy S) H → va_D (va_A (YW y cy S0) s.heap.size) (YW y cy S) → va_S (va_A (YW y cy S0) s.heap.size) s.heap H locs → lv_has ls 3 [(1, .int v1), (0, .ref (y 0))] → W p l e (headSpec wsX10_goesOn ({ frames := 3, cells := 0, slots := 0, locals := 70 })).room s m #[.ref (y 0), .int p1] below meth c H locs 0 0 (MQ below (va_Qv (fun (u : Unit) => True) (BU D (TYS cy) (YW y cy S0) (fun _ => YW y cy Sf) s.heap.size) (va_A (YW y cy S0) s.heap.size)) #[.ref (y 0), .int p1] s 0 0 (va_A (YW y cy S0) s.heap.size)) (F0 m 65 ls [])) → ∀ (fu : Nat) (v1 : Int32) (v2 : Int32) (S : RS) (H : Heap) (locs : List Loc) (ls : Array Slot), gX10_goesOn_36 K fu v1 v2 S = some Sf → va_P D vwCl (YW y cy S) H → va_D (va_A (YW y cy S0) s.heap.size) (YW y cy S) → va_S (va_A (YW y cy S0) s.heap.size) s.heap H locs → lv_has ls 3 [(1, .int v1), (2, .int v2), (0, .ref (y 0))] → W p l e (headSpec wsX10_goesOn ({ frames := 3, cells := 0, slots := 0, locals := 70 })).room s m #[.ref (y 0), .int p1] below meth c H locs 0 0 (MQ below (va_Qv (fun (u : Unit) => True) (BU D (TYS cy) (YW y cy S0) (fun _ => YW y cy Sf) s.heap.size) (va_A (YW y cy S0) s.heap.size)) #[.ref (y 0), .int p1] s 0 0 (va_A (YW y cy S0) s.heap.size)) (F0 m 36 ls []) := by
    intro K hKK fu
    induction fu with
    | zero =>
      intro v1 v2 S H locs ls hF
      exact absurd (show (none : Option (RS)) = some Sf from hF) (by simp)
    | succ fu36 ih36 =>
      intro v1 v2 S H locs ls hF hP hD hS hl
      rw [gX10_goesOn_36] at hF
      refine lv_iload_n hx hb dX10_goesOn_36 rfl (lv_at hl 1 rfl) ?_
      refine lv_aload_n hx hb dX10_goesOn_37 rfl (lv_at hl 2 rfl) ?_
      refine va_get (D := D) (ci := 10) (v := .int (S 0 2)) (C := RX10) (T := TX10) (N := 58) hx hb hts iX10_goesOn_10 hown hK hP 0 rfl rfl 2 (by decide) (hts (.fieldLink RX10 160 "FondsRoomModel" "boxes" "I") (List.mem_of_getElem? (i := 4) rfl)) (fun _ h9 => h9) rfl dX10_goesOn_38 ?_
      refine lv_icmp_ge (tgt := 65) hx hb dX10_goesOn_41 (by decide) (fun c9 => ?_) (fun c9 => ?_)
      · skip
        have hF := (if_pos c9).symm.trans hF
        exact hKK v1 S _ _ _ hF hP hD hS (lv_sub hl [0, 2] rfl)
      · skip
        have hF := (if_neg c9).symm.trans hF
        refine lv_aload_n hx hb dX10_goesOn_44 rfl (lv_at hl 2 rfl) ?_
        refine va_get (D := D) (ci := 10) (v := .ref (y 6)) (C := RX10) (T := TX10) (N := 58) hx hb hts iX10_goesOn_10 hown hK hP 0 rfl rfl 14 (by decide) (hts (.fieldLink RX10 39 "FondsRoomModel" "has" "[I") (List.mem_of_getElem? (i := 5) rfl)) (fun _ h9 => h9) rfl dX10_goesOn_45 ?_
        refine lv_iload_n hx hb dX10_goesOn_48 rfl (lv_at hl 1 rfl) ?_
        obtain ⟨hi11, hF⟩ := ld_s hF
        refine va_iald hx hb hK hP 6 0 rfl rfl hi11 dX10_goesOn_49 ?_
        refine lv_topi (fun y10 ey10 => ?_)
        replace hF := hF y10 ey10
        refine lv_iload_n hx hb dX10_goesOn_50 rfl (lv_at hl 0 rfl) ?_
        refine lv_icmp_ne (tgt := 59) hx hb dX10_goesOn_51 (by decide) (fun c12 => ?_) (fun c12 => ?_)
        · skip
          have hF := (if_neg c12).symm.trans hF
          refine lv_iinc (v := v2 + 1) (lv' := [(2, .int (v2 + 1)), (1, .int v1), (0, .ref (y 0))]) hx hb dX10_goesOn_59 hl (k := 1) rfl rfl (by decide) rfl (fun ls hl => ?_)
          refine lv_goto (tgt := 36) hx hb dX10_goesOn_62 (by decide) ?_
          exact ih36 v1 (v2 + 1) S _ _ _ hF hP hD hS (lv_sub hl [1, 0, 2] rfl)
        · skip
          have hF := (if_pos c12).symm.trans hF
          refine lv_aload_n hx hb dX10_goesOn_54 rfl (lv_at hl 2 rfl) ?_
          refine lv_iload_n hx hb dX10_goesOn_55 rfl (lv_at hl 1 rfl) ?_
          obtain ⟨S14, hq16, hF⟩ := bd1_s hF
          refine gvV (As := [.int v2]) (rest := []) ⟨hx, hb, hml, hown, hts⟩ (zX10_isLeft l D y cy S _ v2 S14 hq16) (cwV 1 hts gX10_goesOn_X10_isLeft rfl rfl rfl (by decide +kernel) ⟨Nat.le_of_ble_eq_true rfl, Nat.le_of_ble_eq_true rfl⟩) hK hP hD hS hA (va_recv hK hP (ci := 10) (q0 := 0) rfl rfl) rfl hl.1 rfl (Nat.le_of_ble_eq_true rfl) dX10_goesOn_56 ⟨Nat.le_of_ble_eq_true rfl, Nat.le_of_ble_eq_true rfl⟩ (fun u9 H locs hw15 hP hD hS => ?_)
          have hP : va_P D vwCl (YW y cy S14) H := hP
          have hD : va_D _ (YW y cy S14) := hD
          refine lv_iinc (v := v2 + 1) (lv' := [(2, .int (v2 + 1)), (1, .int v1), (0, .ref (y 0))]) hx hb dX10_goesOn_59 hl (k := 1) rfl rfl (by decide) rfl (fun ls hl => ?_)
          refine lv_goto (tgt := 36) hx hb dX10_goesOn_62 (by decide) ?_
          exact ih36 v1 (v2 + 1) S14 _ _ _ hF hP hD hS (lv_sub hl [1, 0, 2] rfl)
  have key0 : ∀ (K : RS → Option (RS)), (∀  (S : RS) (H : Heap) (locs : List Loc) (ls : Array Slot), K  S = some Sf → va_P D vwCl (YW y cy S) H → va_D (va_A (YW y cy S0) s.heap.size) (YW y cy S) → va_S (va_A (YW y cy S0) s.heap.size) s.heap H locs → lv_has ls 3 [] → W p l e (headSpec wsX10_goesOn ({ frames := 3, cells := 0, slots := 0, locals := 70 })).room s m #[.ref (y 0), .int p1] below meth c H locs 0 0 (MQ below (va_Qv (fun (u : Unit) => True) (BU D (TYS cy) (YW y cy S0) (fun _ => YW y cy Sf) s.heap.size) (va_A (YW y cy S0) s.heap.size)) #[.ref (y 0), .int p1] s 0 0 (va_A (YW y cy S0) s.heap.size)) (F0 m 89 ls [])) → ∀ (fu : Nat) (v1 : Int32) (S : RS) (H : Heap) (locs : List Loc) (ls : Array Slot), gX10_goesOn_0 K fu v1 S = some Sf → va_P D vwCl (YW y cy S) H → va_D (va_A (YW y cy S0) s.heap.size) (YW y cy S) → va_S (va_A (YW y cy S0) s.heap.size) s.heap H locs → lv_has ls 3 [(1, .int v1), (0, .ref (y 0))] → W p l e (headSpec wsX10_goesOn ({ frames := 3, cells := 0, slots := 0, locals := 70 })).room s m #[.ref (y 0), .int p1] below meth c H locs 0 0 (MQ below (va_Qv (fun (u : Unit) => True) (BU D (TYS cy) (YW y cy S0) (fun _ => YW y cy Sf) s.heap.size) (va_A (YW y cy S0) s.heap.size)) #[.ref (y 0), .int p1] s 0 0 (va_A (YW y cy S0) s.heap.size)) (F0 m 0 ls []) := by
    intro K hKK fu
    induction fu with
    | zero =>
      intro v1 S H locs ls hF
      exact absurd (show (none : Option (RS)) = some Sf from hF) (by simp)
    | succ fu0 ih0 =>
      intro v1 S H locs ls hF hP hD hS hl
      rw [gX10_goesOn_0] at hF
      refine lv_aload_n hx hb dX10_goesOn_0 rfl (lv_at hl 1 rfl) ?_
      refine va_get (D := D) (ci := 10) (v := .ref (y 15)) (C := RX10) (T := TX10) (N := 58) hx hb hts iX10_goesOn_10 hown hK hP 0 rfl rfl 27 (by decide) (hts (.fieldLink RX10 66 "FondsRoomModel" "state" "[I") (List.mem_of_getElem? (i := 1) rfl)) (fun _ h9 => h9) rfl dX10_goesOn_1 ?_
      refine lv_iload_n hx hb dX10_goesOn_4 rfl (lv_at hl 0 rfl) ?_
      obtain ⟨hi2, hF⟩ := ld_s hF
      refine va_iald hx hb hK hP 15 0 rfl rfl hi2 dX10_goesOn_5 ?_
      refine lv_topi (fun y1 ey1 => ?_)
      replace hF := hF y1 ey1
      refine lv_bipush (v := 8) hx hb dX10_goesOn_6 (by decide) ?_
      refine lv_icmp_ne (tgt := 89) hx hb dX10_goesOn_8 (by decide) (fun c3 => ?_) (fun c3 => ?_)
      · skip
        have hF := (if_neg c3).symm.trans hF
        exact hKK  S _ _ _ hF hP hD hS (lv_sub hl [] rfl)
      · skip
        have hF := (if_pos c3).symm.trans hF
        refine lv_aload_n hx hb dX10_goesOn_11 rfl (lv_at hl 1 rfl) ?_
        refine va_get (D := D) (ci := 10) (v := .ref (y 18)) (C := RX10) (T := TX10) (N := 58) hx hb hts iX10_goesOn_10 hown hK hP 0 rfl rfl 30 (by decide) (hts (.fieldLink RX10 75 "FondsRoomModel" "next" "[I") (List.mem_of_getElem? (i := 2) rfl)) (fun _ h9 => h9) rfl dX10_goesOn_12 ?_
        refine lv_iload_n hx hb dX10_goesOn_15 rfl (lv_at hl 0 rfl) ?_
        obtain ⟨hi5, hF⟩ := ld_s hF
        refine va_iald hx hb hK hP 18 0 rfl rfl hi5 dX10_goesOn_16 ?_
        refine lv_topi (fun y4 ey4 => ?_)
        replace hF := hF y4 ey4
        refine lv_aload_n hx hb dX10_goesOn_17 rfl (lv_at hl 1 rfl) ?_
        refine va_get (D := D) (ci := 10) (v := .ref (y 17)) (C := RX10) (T := TX10) (N := 58) hx hb hts iX10_goesOn_10 hown hK hP 0 rfl rfl 29 (by decide) (hts (.fieldLink RX10 72 "FondsRoomModel" "steps" "[I") (List.mem_of_getElem? (i := 3) rfl)) (fun _ h9 => h9) rfl dX10_goesOn_18 ?_
        refine lv_iload_n hx hb dX10_goesOn_21 rfl (lv_at hl 0 rfl) ?_
        obtain ⟨hi7, hF⟩ := ld_s hF
        refine va_iald hx hb hK hP 17 0 rfl rfl hi7 dX10_goesOn_22 ?_
        refine lv_topi (fun y6 ey6 => ?_)
        replace hF := hF y6 ey6
        refine lv_icmp_ge (tgt := 34) hx hb dX10_goesOn_23 (by decide) (fun c8 => ?_) (fun c8 => ?_)
        · skip
          have hF := (if_pos c8).symm.trans hF
          refine lv_iconst (v := 0) hx hb dX10_goesOn_34 (by decide) ?_
          refine lv_istore_n (lv' := [(2, .int 0), (1, .int v1), (0, .ref (y 0))]) hx hb dX10_goesOn_35 rfl hl (by decide) rfl (fun ls hl => ?_)
          refine key36 _ ?_ 1000 v1 0 S _ _ _ hF hP hD hS (lv_sub hl [1, 0, 2] rfl)
          intro v1_18 S19 H locs ls hF hP hD hS hl
          refine lv_aload_n hx hb dX10_goesOn_65 rfl (lv_at hl 1 rfl) ?_
          refine lv_iload_n hx hb dX10_goesOn_66 rfl (lv_at hl 0 rfl) ?_
          obtain ⟨S21, hq23, hF⟩ := bd1_s hF
          refine gvV (As := [.int v1_18]) (rest := []) ⟨hx, hb, hml, hown, hts⟩ (zX10_freeDesk l D y cy S19 _ v1_18 S21 hq23) (cwV 1 hts gX10_goesOn_X10_freeDesk rfl rfl rfl (by decide +kernel) ⟨Nat.le_of_ble_eq_true rfl, Nat.le_of_ble_eq_true rfl⟩) hK hP hD hS hA (va_recv hK hP (ci := 10) (q0 := 0) rfl rfl) rfl hl.1 rfl (Nat.le_of_ble_eq_true rfl) dX10_goesOn_67 ⟨Nat.le_of_ble_eq_true rfl, Nat.le_of_ble_eq_true rfl⟩ (fun u9 H locs hw22 hP hD hS => ?_)
          have hP : va_P D vwCl (YW y cy S21) H := hP
          have hD : va_D _ (YW y cy S21) := hD
          refine lv_aload_n hx hb dX10_goesOn_70 rfl (lv_at hl 1 rfl) ?_
          refine va_get (D := D) (ci := 10) (v := .ref (y 15)) (C := RX10) (T := TX10) (N := 58) hx hb hts iX10_goesOn_10 hown hK hP 0 rfl rfl 27 (by decide) (hts (.fieldLink RX10 66 "FondsRoomModel" "state" "[I") (List.mem_of_getElem? (i := 1) rfl)) (fun _ h9 => h9) rfl dX10_goesOn_71 ?_
          refine lv_iload_n hx hb dX10_goesOn_74 rfl (lv_at hl 0 rfl) ?_
          refine lv_iconst (v := 5) hx hb dX10_goesOn_75 (by decide) ?_
          obtain ⟨hi25, hF⟩ := sv_s hF
          refine va_iast hx hb hK hP hD hS 15 0 rfl rfl hi25 dX10_goesOn_76 (fun H locs hP hD hS => ?_)
          obtain ⟨S26, eS26⟩ : ∃ z, z = wr S21 15 (v1_18 : Int32).toNatClampNeg 5 := ⟨_, rfl⟩
          replace hF := hF S26 eS26
          have hP : va_P D vwCl (YW y cy S26) H := by rw [eS26]; exact hP
          have hD : va_D (va_A (YW y cy S0) s.heap.size) (YW y cy S26) := by rw [eS26]; exact hD
          refine lv_aload_n hx hb dX10_goesOn_77 rfl (lv_at hl 1 rfl) ?_
          refine lv_iload_n hx hb dX10_goesOn_78 rfl (lv_at hl 0 rfl) ?_
          refine lv_bipush (v := 8) hx hb dX10_goesOn_79 (by decide) ?_
          refine lv_iconst (v := 5) hx hb dX10_goesOn_81 (by decide) ?_
          refine lv_iconst (v := 1) hx hb dX10_goesOn_82 (by decide) ?_
          obtain ⟨S28, hq30, hF⟩ := bd1_s hF
          refine gvV (As := [.int v1_18, .int 8, .int 5, .int 1]) (rest := []) ⟨hx, hb, hml, hown, hts⟩ (zX10_event l D y cy S26 _ v1_18 8 5 1 S28 hq30) (cwV 4 hts gX10_goesOn_X10_event rfl rfl rfl (by decide +kernel) ⟨Nat.le_of_ble_eq_true rfl, Nat.le_of_ble_eq_true rfl⟩) hK hP hD hS hA (va_recv hK hP (ci := 10) (q0 := 0) rfl rfl) rfl hl.1 rfl (Nat.le_of_ble_eq_true rfl) dX10_goesOn_83 ⟨Nat.le_of_ble_eq_true rfl, Nat.le_of_ble_eq_true rfl⟩ (fun u9 H locs hw29 hP hD hS => ?_)
          have hP : va_P D vwCl (YW y cy S28) H := hP
          have hD : va_D _ (YW y cy S28) := hD
          refine lv_goto (tgt := 0) hx hb dX10_goesOn_86 (by decide) ?_
          exact ih0 v1_18 S28 _ _ _ hF hP hD hS (lv_sub hl [0, 1] rfl)
        · skip
          have hF := (if_neg c8).symm.trans hF
          refine lv_aload_n hx hb dX10_goesOn_26 rfl (lv_at hl 1 rfl) ?_
          refine lv_iload_n hx hb dX10_goesOn_27 rfl (lv_at hl 0 rfl) ?_
          obtain ⟨S33, hq35, hF⟩ := bd1_s hF
          refine gvV (As := [.int v1]) (rest := []) ⟨hx, hb, hml, hown, hts⟩ (zX10_oneStep l D y cy S _ v1 S33 hq35) (cwV 1 hts gX10_goesOn_X10_oneStep rfl rfl rfl (by decide +kernel) ⟨Nat.le_of_ble_eq_true rfl, Nat.le_of_ble_eq_true rfl⟩) hK hP hD hS hA (va_recv hK hP (ci := 10) (q0 := 0) rfl rfl) rfl hl.1 rfl (Nat.le_of_ble_eq_true rfl) dX10_goesOn_28 ⟨Nat.le_of_ble_eq_true rfl, Nat.le_of_ble_eq_true rfl⟩ (fun u9 H locs hw34 hP hD hS => ?_)
          have hP : va_P D vwCl (YW y cy S33) H := hP
          have hD : va_D _ (YW y cy S33) := hD
          refine lv_goto (tgt := 0) hx hb dX10_goesOn_31 (by decide) ?_
          exact ih0 v1 S33 _ _ _ hF hP hD hS (lv_sub hl [0, 1] rfl)
  have hl := lv_entry ([.ref (y 0), .int p1]) (n := 3) (Nat.le_of_ble_eq_true rfl)
  rw [lg_entry_eq]
  generalize (lg_sl ([.ref (y 0), .int p1]) ++ List.replicate (3 - (lg_sl ([.ref (y 0), .int p1])).length) Slot.unset).toArray = ls at hl ⊢
  have hl : lv_has ls 3 [(0, .ref (y 0)), (1, .int p1)] := hl
  unfold gX10_goesOn at hF
  refine key0 _ ?_ 1000 p1 S0 _ _ _ hF hP hD hS (lv_sub hl [1, 0] rfl)
  intro S37 H locs ls hF hP hD hS hl
  have e2 := Option.some.inj hF
  have hP : va_P D vwCl (YW y cy Sf) H := by rw [← e2]; exact hP
  have hD : va_D (va_A (YW y cy S0) s.heap.size) (YW y cy Sf) := by rw [← e2]; exact hD
  exact W.vret hx hb hr (fun t ht hW => ⟨⟨(), rfl, trivial, by rw [ht]; exact hP, va_K.moved hW.alike hK, hD⟩, hS.F ht⟩) hS.2.2 dX10_goesOn_89

theorem iX10_isAhead_10 : ∀ w ∈ wsX100, w ∈ wsX10_isAhead := fun _ h => List.mem_cons_of_mem _ (List.mem_append_right _ h)
set_option maxHeartbeats 8000000 in
set_option maxRecDepth 100000 in
theorem zX10_isAhead (l : Launch) (D : va_G) (y : Nat → Nat) (cy : Nat → ClassId) (S : RS) (sz : Nat) (p1 p2 : Int32) (rv : Int32) (hF : gX10_isAhead S p1 p2 = some rv) : Met l yX10_isAhead wsX10_isAhead ({ frames := 0, cells := 0, slots := 0, locals := 0 }) (PW D (TYS cy) (YW y cy S) sz [.ref (y 0), .int p1, .int p2]) (va_Qi (fun (res : Int32) (u : Unit) => res = rv ∧ b01 rv) (BU D (TYS cy) (YW y cy S) (fun _ => YW y cy S) sz) (va_A (YW y cy S) sz)) 0 0 (va_A (YW y cy S) sz) := by
  refine Met.ofW (cc := cX10_isAhead) (maxL := 3) (ret := (some .boolean)) (by decide) rfl ?_
  intro p e s m args below meth c s₁ B hml hv
  obtain ⟨rfl, hsz, hP, hK, hD0⟩ := hv
  have hx := B.exec
  have hb := B.bytes
  have hr := B.returns
  have hts := atoms_spec (ws := wsX10_isAhead) B.pre
  have hown : s.vm.findClass RX10 = some m.cls := findClass_of_methodNamed B.named
  have hlocks := B.notSynchronized
  subst hsz
  have hD := hD0.self (sz := s.heap.size)
  have hA : ∀ q9 : Nat, s.heap.size ≤ q9 → va_A (YW y cy S) s.heap.size q9 := fun q9 h => Or.inr h
  have hS : va_S (va_A (YW y cy S) s.heap.size) s.heap s.heap [] := va_S.rf
  have hl := lv_entry ([.ref (y 0), .int p1, .int p2]) (n := 3) (Nat.le_of_ble_eq_true rfl)
  rw [lg_entry_eq]
  generalize (lg_sl ([.ref (y 0), .int p1, .int p2]) ++ List.replicate (3 - (lg_sl ([.ref (y 0), .int p1, .int p2])).length) Slot.unset).toArray = ls at hl ⊢
  have hl : lv_has ls 3 [(0, .ref (y 0)), (1, .int p1), (2, .int p2)] := hl
  unfold gX10_isAhead at hF
  refine lv_aload_n hx hb dX10_isAhead_0 rfl (lv_at hl 0 rfl) ?_
  refine va_get (D := D) (ci := 10) (v := .ref (y 13)) (C := RX10) (T := TX10) (N := 58) hx hb hts iX10_isAhead_10 hown hK hP 0 rfl rfl 25 (by decide) (hts (.fieldLink RX10 60 "FondsRoomModel" "rank" "[I") (List.mem_of_getElem? (i := 1) rfl)) (fun _ h9 => h9) rfl dX10_isAhead_1 ?_
  refine lv_iload_n hx hb dX10_isAhead_4 rfl (lv_at hl 1 rfl) ?_
  obtain ⟨hi2, hF⟩ := ld_s hF
  refine va_iald hx hb hK hP 13 0 rfl rfl hi2 dX10_isAhead_5 ?_
  refine lv_topi (fun y1 ey1 => ?_)
  replace hF := hF y1 ey1
  refine lv_aload_n hx hb dX10_isAhead_6 rfl (lv_at hl 0 rfl) ?_
  refine va_get (D := D) (ci := 10) (v := .ref (y 13)) (C := RX10) (T := TX10) (N := 58) hx hb hts iX10_isAhead_10 hown hK hP 0 rfl rfl 25 (by decide) (hts (.fieldLink RX10 60 "FondsRoomModel" "rank" "[I") (List.mem_of_getElem? (i := 1) rfl)) (fun _ h9 => h9) rfl dX10_isAhead_7 ?_
  refine lv_iload_n hx hb dX10_isAhead_10 rfl (lv_at hl 2 rfl) ?_
  obtain ⟨hi4, hF⟩ := ld_s hF
  refine va_iald hx hb hK hP 13 0 rfl rfl hi4 dX10_isAhead_11 ?_
  refine lv_topi (fun y3 ey3 => ?_)
  replace hF := hF y3 ey3
  refine lv_icmp_eq (tgt := 36) hx hb dX10_isAhead_12 (by decide) (fun c5 => ?_) (fun c5 => ?_)
  · skip
    have hF := (if_pos c5).symm.trans hF
    refine lv_aload_n hx hb dX10_isAhead_36 rfl (lv_at hl 0 rfl) ?_
    refine va_get (D := D) (ci := 10) (v := .ref (y 12)) (C := RX10) (T := TX10) (N := 58) hx hb hts iX10_isAhead_10 hown hK hP 0 rfl rfl 24 (by decide) (hts (.fieldLink RX10 57 "FondsRoomModel" "arrival" "[I") (List.mem_of_getElem? (i := 2) rfl)) (fun _ h9 => h9) rfl dX10_isAhead_37 ?_
    refine lv_iload_n hx hb dX10_isAhead_40 rfl (lv_at hl 1 rfl) ?_
    obtain ⟨hi7, hF⟩ := ld_s hF
    refine va_iald hx hb hK hP 12 0 rfl rfl hi7 dX10_isAhead_41 ?_
    refine lv_topi (fun y6 ey6 => ?_)
    replace hF := hF y6 ey6
    refine lv_aload_n hx hb dX10_isAhead_42 rfl (lv_at hl 0 rfl) ?_
    refine va_get (D := D) (ci := 10) (v := .ref (y 12)) (C := RX10) (T := TX10) (N := 58) hx hb hts iX10_isAhead_10 hown hK hP 0 rfl rfl 24 (by decide) (hts (.fieldLink RX10 57 "FondsRoomModel" "arrival" "[I") (List.mem_of_getElem? (i := 2) rfl)) (fun _ h9 => h9) rfl dX10_isAhead_43 ?_
    refine lv_iload_n hx hb dX10_isAhead_46 rfl (lv_at hl 2 rfl) ?_
    obtain ⟨hi9, hF⟩ := ld_s hF
    refine va_iald hx hb hK hP 12 0 rfl rfl hi9 dX10_isAhead_47 ?_
    refine lv_topi (fun y8 ey8 => ?_)
    replace hF := hF y8 ey8
    refine lv_icmp_eq (tgt := 74) hx hb dX10_isAhead_48 (by decide) (fun c10 => ?_) (fun c10 => ?_)
    · skip
      have hF := (if_pos c10).symm.trans hF
      refine lv_iload_n hx hb dX10_isAhead_74 rfl (lv_at hl 1 rfl) ?_
      refine lv_iload_n hx hb dX10_isAhead_75 rfl (lv_at hl 2 rfl) ?_
      refine lv_icmp_ge (tgt := 83) hx hb dX10_isAhead_76 (by decide) (fun c11 => ?_) (fun c11 => ?_)
      · skip
        have hF := (if_pos c11).symm.trans hF
        refine lv_iconst (v := 0) hx hb dX10_isAhead_83 (by decide) ?_
        have e1 := Option.some.inj hF
        exact W.zret (v := 0) hx hb hr (nz01 (Or.inl rfl)).1 (fun t ht hW => ⟨⟨0, (), rfl, ⟨e1, by rw [← e1]; exact Or.inl rfl⟩, by rw [ht]; exact hP, va_K.moved hW.alike hK, hD⟩, hS.F ht⟩) hS.2.2 dX10_isAhead_84
      · skip
        have hF := (if_neg c11).symm.trans hF
        refine lv_iconst (v := 1) hx hb dX10_isAhead_79 (by decide) ?_
        refine lv_goto (tgt := 84) hx hb dX10_isAhead_80 (by decide) ?_
        have e1 := Option.some.inj hF
        exact W.zret (v := 1) hx hb hr (nz01 (Or.inr rfl)).1 (fun t ht hW => ⟨⟨1, (), rfl, ⟨e1, by rw [← e1]; exact Or.inr rfl⟩, by rw [ht]; exact hP, va_K.moved hW.alike hK, hD⟩, hS.F ht⟩) hS.2.2 dX10_isAhead_84
    · skip
      have hF := (if_neg c10).symm.trans hF
      refine lv_aload_n hx hb dX10_isAhead_51 rfl (lv_at hl 0 rfl) ?_
      refine va_get (D := D) (ci := 10) (v := .ref (y 12)) (C := RX10) (T := TX10) (N := 58) hx hb hts iX10_isAhead_10 hown hK hP 0 rfl rfl 24 (by decide) (hts (.fieldLink RX10 57 "FondsRoomModel" "arrival" "[I") (List.mem_of_getElem? (i := 2) rfl)) (fun _ h9 => h9) rfl dX10_isAhead_52 ?_
      refine lv_iload_n hx hb dX10_isAhead_55 rfl (lv_at hl 1 rfl) ?_
      obtain ⟨hi13, hF⟩ := ld_s hF
      refine va_iald hx hb hK hP 12 0 rfl rfl hi13 dX10_isAhead_56 ?_
      refine lv_topi (fun y12 ey12 => ?_)
      replace hF := hF y12 ey12
      refine lv_aload_n hx hb dX10_isAhead_57 rfl (lv_at hl 0 rfl) ?_
      refine va_get (D := D) (ci := 10) (v := .ref (y 12)) (C := RX10) (T := TX10) (N := 58) hx hb hts iX10_isAhead_10 hown hK hP 0 rfl rfl 24 (by decide) (hts (.fieldLink RX10 57 "FondsRoomModel" "arrival" "[I") (List.mem_of_getElem? (i := 2) rfl)) (fun _ h9 => h9) rfl dX10_isAhead_58 ?_
      refine lv_iload_n hx hb dX10_isAhead_61 rfl (lv_at hl 2 rfl) ?_
      obtain ⟨hi15, hF⟩ := ld_s hF
      refine va_iald hx hb hK hP 12 0 rfl rfl hi15 dX10_isAhead_62 ?_
      refine lv_topi (fun y14 ey14 => ?_)
      replace hF := hF y14 ey14
      refine lv_icmp_ge (tgt := 70) hx hb dX10_isAhead_63 (by decide) (fun c16 => ?_) (fun c16 => ?_)
      · skip
        have hF := (if_pos c16).symm.trans hF
        refine lv_iconst (v := 0) hx hb dX10_isAhead_70 (by decide) ?_
        refine lv_goto (tgt := 84) hx hb dX10_isAhead_71 (by decide) ?_
        have e1 := Option.some.inj hF
        exact W.zret (v := 0) hx hb hr (nz01 (Or.inl rfl)).1 (fun t ht hW => ⟨⟨0, (), rfl, ⟨e1, by rw [← e1]; exact Or.inl rfl⟩, by rw [ht]; exact hP, va_K.moved hW.alike hK, hD⟩, hS.F ht⟩) hS.2.2 dX10_isAhead_84
      · skip
        have hF := (if_neg c16).symm.trans hF
        refine lv_iconst (v := 1) hx hb dX10_isAhead_66 (by decide) ?_
        refine lv_goto (tgt := 84) hx hb dX10_isAhead_67 (by decide) ?_
        have e1 := Option.some.inj hF
        exact W.zret (v := 1) hx hb hr (nz01 (Or.inr rfl)).1 (fun t ht hW => ⟨⟨1, (), rfl, ⟨e1, by rw [← e1]; exact Or.inr rfl⟩, by rw [ht]; exact hP, va_K.moved hW.alike hK, hD⟩, hS.F ht⟩) hS.2.2 dX10_isAhead_84
  · skip
    have hF := (if_neg c5).symm.trans hF
    refine lv_aload_n hx hb dX10_isAhead_15 rfl (lv_at hl 0 rfl) ?_
    refine va_get (D := D) (ci := 10) (v := .ref (y 13)) (C := RX10) (T := TX10) (N := 58) hx hb hts iX10_isAhead_10 hown hK hP 0 rfl rfl 25 (by decide) (hts (.fieldLink RX10 60 "FondsRoomModel" "rank" "[I") (List.mem_of_getElem? (i := 1) rfl)) (fun _ h9 => h9) rfl dX10_isAhead_16 ?_
    refine lv_iload_n hx hb dX10_isAhead_19 rfl (lv_at hl 1 rfl) ?_
    obtain ⟨hi18, hF⟩ := ld_s hF
    refine va_iald hx hb hK hP 13 0 rfl rfl hi18 dX10_isAhead_20 ?_
    refine lv_topi (fun y17 ey17 => ?_)
    replace hF := hF y17 ey17
    refine lv_aload_n hx hb dX10_isAhead_21 rfl (lv_at hl 0 rfl) ?_
    refine va_get (D := D) (ci := 10) (v := .ref (y 13)) (C := RX10) (T := TX10) (N := 58) hx hb hts iX10_isAhead_10 hown hK hP 0 rfl rfl 25 (by decide) (hts (.fieldLink RX10 60 "FondsRoomModel" "rank" "[I") (List.mem_of_getElem? (i := 1) rfl)) (fun _ h9 => h9) rfl dX10_isAhead_22 ?_
    refine lv_iload_n hx hb dX10_isAhead_25 rfl (lv_at hl 2 rfl) ?_
    obtain ⟨hi20, hF⟩ := ld_s hF
    refine va_iald hx hb hK hP 13 0 rfl rfl hi20 dX10_isAhead_26 ?_
    refine lv_topi (fun y19 ey19 => ?_)
    replace hF := hF y19 ey19
    refine lv_icmp_le (tgt := 34) hx hb dX10_isAhead_27 (by decide) (fun c21 => ?_) (fun c21 => ?_)
    · skip
      have hF := (if_pos c21).symm.trans hF
      refine lv_iconst (v := 0) hx hb dX10_isAhead_34 (by decide) ?_
      have e1 := Option.some.inj hF
      exact W.zret (v := 0) hx hb hr (nz01 (Or.inl rfl)).1 (fun t ht hW => ⟨⟨0, (), rfl, ⟨e1, by rw [← e1]; exact Or.inl rfl⟩, by rw [ht]; exact hP, va_K.moved hW.alike hK, hD⟩, hS.F ht⟩) hS.2.2 dX10_isAhead_35
    · skip
      have hF := (if_neg c21).symm.trans hF
      refine lv_iconst (v := 1) hx hb dX10_isAhead_30 (by decide) ?_
      refine lv_goto (tgt := 35) hx hb dX10_isAhead_31 (by decide) ?_
      have e1 := Option.some.inj hF
      exact W.zret (v := 1) hx hb hr (nz01 (Or.inr rfl)).1 (fun t ht hW => ⟨⟨1, (), rfl, ⟨e1, by rw [← e1]; exact Or.inr rfl⟩, by rw [ht]; exact hP, va_K.moved hW.alike hK, hD⟩, hS.F ht⟩) hS.2.2 dX10_isAhead_35

theorem iX10_findLine_10 : ∀ w ∈ wsX100, w ∈ wsX10_findLine := fun _ h => List.mem_cons_of_mem _ (List.mem_append_right _ h)
set_option maxHeartbeats 8000000 in
set_option maxRecDepth 100000 in
theorem zX10_findLine (l : Launch) (D : va_G) (y : Nat → Nat) (cy : Nat → ClassId) (S0 : RS) (sz : Nat) (Sf : RS) (hF : gX10_findLine S0  = some Sf) : Met l yX10_findLine wsX10_findLine ({ frames := 1, cells := 0, slots := 0, locals := 22 }) (PW D (TYS cy) (YW y cy S0) sz [.ref (y 0)]) (va_Qv (fun (u : Unit) => True) (BU D (TYS cy) (YW y cy S0) (fun _ => YW y cy Sf) sz) (va_A (YW y cy S0) sz)) 0 0 (va_A (YW y cy S0) sz) := by
  refine Met.ofW (cc := cX10_findLine) (maxL := 3) (ret := none) (by decide) rfl ?_
  intro p e s m args below meth c s₁ B hml hv
  obtain ⟨rfl, hsz, hP, hK, hD0⟩ := hv
  have hx := B.exec
  have hb := B.bytes
  have hr := B.returns
  have hts := atoms_spec (ws := wsX10_findLine) B.pre
  have hown : s.vm.findClass RX10 = some m.cls := findClass_of_methodNamed B.named
  have hlocks := B.notSynchronized
  subst hsz
  have hD := hD0.self (sz := s.heap.size)
  have hA : ∀ q9 : Nat, s.heap.size ≤ q9 → va_A (YW y cy S0) s.heap.size q9 := fun q9 h => Or.inr h
  have hS : va_S (va_A (YW y cy S0) s.heap.size) s.heap s.heap [] := va_S.rf
  have key33 : ∀ (K : Int32 → Int32 → RS → Option (RS)), (∀ (v1 : Int32) (v2 : Int32) (S : RS) (H : Heap) (locs : List Loc) (ls : Array Slot), K v1 v2 S = some Sf → va_P D vwCl (YW y cy S) H → va_D (va_A (YW y cy S0) s.heap.size) (YW y cy S) → va_S (va_A (YW y cy S0) s.heap.size) s.heap H locs → lv_has ls 3 [(1, .int v1), (2, .int v2), (0, .ref (y 0))] → W p l e (headSpec wsX10_findLine ({ frames := 1, cells := 0, slots := 0, locals := 22 })).room s m #[.ref (y 0)] below meth c H locs 0 0 (MQ below (va_Qv (fun (u : Unit) => True) (BU D (TYS cy) (YW y cy S0) (fun _ => YW y cy Sf) s.heap.size) (va_A (YW y cy S0) s.heap.size)) #[.ref (y 0)] s 0 0 (va_A (YW y cy S0) s.heap.size)) (F0 m 73 ls [])) → ∀ (fu : Nat) (v1 : Int32) (v2 : Int32) (S : RS) (H : Heap) (locs : List Loc) (ls : Array Slot), gX10_findLine_33 K fu v1 v2 S = some Sf → va_P D vwCl (YW y cy S) H → va_D (va_A (YW y cy S0) s.heap.size) (YW y cy S) → va_S (va_A (YW y cy S0) s.heap.size) s.heap H locs → lv_has ls 3 [(1, .int v1), (2, .int v2), (0, .ref (y 0))] → W p l e (headSpec wsX10_findLine ({ frames := 1, cells := 0, slots := 0, locals := 22 })).room s m #[.ref (y 0)] below meth c H locs 0 0 (MQ below (va_Qv (fun (u : Unit) => True) (BU D (TYS cy) (YW y cy S0) (fun _ => YW y cy Sf) s.heap.size) (va_A (YW y cy S0) s.heap.size)) #[.ref (y 0)] s 0 0 (va_A (YW y cy S0) s.heap.size)) (F0 m 33 ls []) := by
    intro K hKK fu
    induction fu with
    | zero =>
      intro v1 v2 S H locs ls hF
      exact absurd (show (none : Option (RS)) = some Sf from hF) (by simp)
    | succ fu33 ih33 =>
      intro v1 v2 S H locs ls hF hP hD hS hl
      rw [gX10_findLine_33] at hF
      refine lv_iload_n hx hb dX10_findLine_33 rfl (lv_at hl 1 rfl) ?_
      refine lv_if_le (tgt := 73) hx hb dX10_findLine_34 (by decide) (fun c6 => ?_) (fun c6 => ?_)
      · skip
        have hF := (if_pos c6).symm.trans hF
        exact hKK v1 v2 S _ _ _ hF hP hD hS (lv_sub hl [0, 1, 2] rfl)
      · skip
        have hF := (if_neg c6).symm.trans hF
        refine lv_aload_n hx hb dX10_findLine_37 rfl (lv_at hl 2 rfl) ?_
        refine lv_iload_n hx hb dX10_findLine_38 rfl (lv_at hl 0 rfl) ?_
        refine lv_aload_n hx hb dX10_findLine_39 rfl (lv_at hl 2 rfl) ?_
        refine va_get (D := D) (ci := 10) (v := .ref (y 42)) (C := RX10) (T := TX10) (N := 58) hx hb hts iX10_findLine_10 hown hK hP 0 rfl rfl 56 (by decide) (hts (.fieldLink RX10 147 "FondsRoomModel" "line" "[I") (List.mem_of_getElem? (i := 4) rfl)) (fun _ h9 => h9) rfl dX10_findLine_40 ?_
        refine lv_iload_n hx hb dX10_findLine_43 rfl (lv_at hl 1 rfl) ?_
        refine lv_iconst (v := 1) hx hb dX10_findLine_44 (by decide) ?_
        refine lv_isub hx hb dX10_findLine_45 ?_
        obtain ⟨hi8, hF⟩ := ld_s hF
        refine va_iald hx hb hK hP 42 0 rfl rfl hi8 dX10_findLine_46 ?_
        refine lv_topi (fun y7 ey7 => ?_)
        replace hF := hF y7 ey7
        obtain ⟨r9, hq12, hF⟩ := bd1_s hF
        refine gvI (As := [.int v1, .int y7]) (rest := []) ⟨hx, hb, hml, hown, hts⟩ (zX10_isAhead l D y cy S _ v1 y7 r9 hq12) (cwV 2 hts gX10_findLine_X10_isAhead rfl rfl rfl (by decide +kernel) ⟨Nat.le_of_ble_eq_true rfl, Nat.le_of_ble_eq_true rfl⟩) hK hP hD hS hA (va_recv hK hP (ci := 10) (q0 := 0) rfl rfl) rfl hl.1 rfl (Nat.le_of_ble_eq_true rfl) dX10_findLine_47 ⟨Nat.le_of_ble_eq_true rfl, Nat.le_of_ble_eq_true rfl⟩ (fun a13 u9 H locs hw11 hP hD hS => ?_)
        have hP : va_P D vwCl (YW y cy S) H := hP
        have hD : va_D _ (YW y cy S) := hD
        refine lv_tov (v' := .int r9) (congrArg Value.int hw11.1) ?_
        refine lv_if_eq (tgt := 73) hx hb dX10_findLine_50 (by decide) (fun c14 => ?_) (fun c14 => ?_)
        · skip
          have hF := (if_pos c14).symm.trans hF
          exact hKK v1 v2 S _ _ _ hF hP hD hS (lv_sub hl [0, 1, 2] rfl)
        · skip
          have hF := (if_neg c14).symm.trans hF
          refine lv_aload_n hx hb dX10_findLine_53 rfl (lv_at hl 2 rfl) ?_
          refine va_get (D := D) (ci := 10) (v := .ref (y 42)) (C := RX10) (T := TX10) (N := 58) hx hb hts iX10_findLine_10 hown hK hP 0 rfl rfl 56 (by decide) (hts (.fieldLink RX10 147 "FondsRoomModel" "line" "[I") (List.mem_of_getElem? (i := 4) rfl)) (fun _ h9 => h9) rfl dX10_findLine_54 ?_
          refine lv_iload_n hx hb dX10_findLine_57 rfl (lv_at hl 1 rfl) ?_
          refine lv_aload_n hx hb dX10_findLine_58 rfl (lv_at hl 2 rfl) ?_
          refine va_get (D := D) (ci := 10) (v := .ref (y 42)) (C := RX10) (T := TX10) (N := 58) hx hb hts iX10_findLine_10 hown hK hP 0 rfl rfl 56 (by decide) (hts (.fieldLink RX10 147 "FondsRoomModel" "line" "[I") (List.mem_of_getElem? (i := 4) rfl)) (fun _ h9 => h9) rfl dX10_findLine_59 ?_
          refine lv_iload_n hx hb dX10_findLine_62 rfl (lv_at hl 1 rfl) ?_
          refine lv_iconst (v := 1) hx hb dX10_findLine_63 (by decide) ?_
          refine lv_isub hx hb dX10_findLine_64 ?_
          obtain ⟨hi16, hF⟩ := ld_s hF
          refine va_iald hx hb hK hP 42 0 rfl rfl hi16 dX10_findLine_65 ?_
          refine lv_topi (fun y15 ey15 => ?_)
          replace hF := hF y15 ey15
          obtain ⟨hi17, hF⟩ := sv_s hF
          refine va_iast hx hb hK hP hD hS 42 0 rfl rfl hi17 dX10_findLine_66 (fun H locs hP hD hS => ?_)
          obtain ⟨S18, eS18⟩ : ∃ z, z = wr S 42 (v2 : Int32).toNatClampNeg y15 := ⟨_, rfl⟩
          replace hF := hF S18 eS18
          have hP : va_P D vwCl (YW y cy S18) H := by rw [eS18]; exact hP
          have hD : va_D (va_A (YW y cy S0) s.heap.size) (YW y cy S18) := by rw [eS18]; exact hD
          refine lv_iinc (v := v2 + (-1)) (lv' := [(2, .int (v2 + (-1))), (1, .int v1), (0, .ref (y 0))]) hx hb dX10_findLine_67 hl (k := 1) rfl rfl (by decide) rfl (fun ls hl => ?_)
          refine lv_goto (tgt := 33) hx hb dX10_findLine_70 (by decide) ?_
          exact ih33 v1 (v2 + (-1)) S18 _ _ _ hF hP hD hS (lv_sub hl [1, 0, 2] rfl)
  have key7 : ∀ (K : RS → Option (RS)), (∀  (S : RS) (H : Heap) (locs : List Loc) (ls : Array Slot), K  S = some Sf → va_P D vwCl (YW y cy S) H → va_D (va_A (YW y cy S0) s.heap.size) (YW y cy S) → va_S (va_A (YW y cy S0) s.heap.size) s.heap H locs → lv_has ls 3 [] → W p l e (headSpec wsX10_findLine ({ frames := 1, cells := 0, slots := 0, locals := 22 })).room s m #[.ref (y 0)] below meth c H locs 0 0 (MQ below (va_Qv (fun (u : Unit) => True) (BU D (TYS cy) (YW y cy S0) (fun _ => YW y cy Sf) s.heap.size) (va_A (YW y cy S0) s.heap.size)) #[.ref (y 0)] s 0 0 (va_A (YW y cy S0) s.heap.size)) (F0 m 96 ls [])) → ∀ (fu : Nat) (v1 : Int32) (S : RS) (H : Heap) (locs : List Loc) (ls : Array Slot), gX10_findLine_7 K fu v1 S = some Sf → va_P D vwCl (YW y cy S) H → va_D (va_A (YW y cy S0) s.heap.size) (YW y cy S) → va_S (va_A (YW y cy S0) s.heap.size) s.heap H locs → lv_has ls 3 [(1, .int v1), (0, .ref (y 0))] → W p l e (headSpec wsX10_findLine ({ frames := 1, cells := 0, slots := 0, locals := 22 })).room s m #[.ref (y 0)] below meth c H locs 0 0 (MQ below (va_Qv (fun (u : Unit) => True) (BU D (TYS cy) (YW y cy S0) (fun _ => YW y cy Sf) s.heap.size) (va_A (YW y cy S0) s.heap.size)) #[.ref (y 0)] s 0 0 (va_A (YW y cy S0) s.heap.size)) (F0 m 7 ls []) := by
    intro K hKK fu
    induction fu with
    | zero =>
      intro v1 S H locs ls hF
      exact absurd (show (none : Option (RS)) = some Sf from hF) (by simp)
    | succ fu7 ih7 =>
      intro v1 S H locs ls hF hP hD hS hl
      rw [gX10_findLine_7] at hF
      refine lv_iload_n hx hb dX10_findLine_7 rfl (lv_at hl 0 rfl) ?_
      refine lv_aload_n hx hb dX10_findLine_8 rfl (lv_at hl 1 rfl) ?_
      refine va_get (D := D) (ci := 10) (v := .int (S 0 3)) (C := RX10) (T := TX10) (N := 58) hx hb hts iX10_findLine_10 hown hK hP 0 rfl rfl 3 (by decide) (hts (.fieldLink RX10 153 "FondsRoomModel" "readers" "I") (List.mem_of_getElem? (i := 2) rfl)) (fun _ h9 => h9) rfl dX10_findLine_9 ?_
      refine lv_icmp_ge (tgt := 96) hx hb dX10_findLine_12 (by decide) (fun c2 => ?_) (fun c2 => ?_)
      · skip
        have hF := (if_pos c2).symm.trans hF
        exact hKK  S _ _ _ hF hP hD hS (lv_sub hl [] rfl)
      · skip
        have hF := (if_neg c2).symm.trans hF
        refine lv_aload_n hx hb dX10_findLine_15 rfl (lv_at hl 1 rfl) ?_
        refine va_get (D := D) (ci := 10) (v := .ref (y 15)) (C := RX10) (T := TX10) (N := 58) hx hb hts iX10_findLine_10 hown hK hP 0 rfl rfl 27 (by decide) (hts (.fieldLink RX10 66 "FondsRoomModel" "state" "[I") (List.mem_of_getElem? (i := 3) rfl)) (fun _ h9 => h9) rfl dX10_findLine_16 ?_
        refine lv_iload_n hx hb dX10_findLine_19 rfl (lv_at hl 0 rfl) ?_
        obtain ⟨hi4, hF⟩ := ld_s hF
        refine va_iald hx hb hK hP 15 0 rfl rfl hi4 dX10_findLine_20 ?_
        refine lv_topi (fun y3 ey3 => ?_)
        replace hF := hF y3 ey3
        refine lv_iconst (v := 1) hx hb dX10_findLine_21 (by decide) ?_
        refine lv_icmp_eq (tgt := 28) hx hb dX10_findLine_22 (by decide) (fun c5 => ?_) (fun c5 => ?_)
        · skip
          have hF := (if_pos c5).symm.trans hF
          refine lv_aload_n hx hb dX10_findLine_28 rfl (lv_at hl 1 rfl) ?_
          refine va_get (D := D) (ci := 10) (v := .int (S 0 57)) (C := RX10) (T := TX10) (N := 58) hx hb hts iX10_findLine_10 hown hK hP 0 rfl rfl 57 (by decide) (hts (.fieldLink RX10 230 "FondsRoomModel" "lined" "I") (List.mem_of_getElem? (i := 1) rfl)) (fun _ h9 => h9) rfl dX10_findLine_29 ?_
          refine lv_istore_n (lv' := [(2, .int (S 0 57)), (1, .int v1), (0, .ref (y 0))]) hx hb dX10_findLine_32 rfl hl (by decide) rfl (fun ls hl => ?_)
          refine key33 _ ?_ 1000 v1 (S 0 57) S _ _ _ hF hP hD hS (lv_sub hl [1, 0, 2] rfl)
          intro v1_19 v2_20 S21 H locs ls hF hP hD hS hl
          refine lv_aload_n hx hb dX10_findLine_73 rfl (lv_at hl 2 rfl) ?_
          refine va_get (D := D) (ci := 10) (v := .ref (y 42)) (C := RX10) (T := TX10) (N := 58) hx hb hts iX10_findLine_10 hown hK hP 0 rfl rfl 56 (by decide) (hts (.fieldLink RX10 147 "FondsRoomModel" "line" "[I") (List.mem_of_getElem? (i := 4) rfl)) (fun _ h9 => h9) rfl dX10_findLine_74 ?_
          refine lv_iload_n hx hb dX10_findLine_77 rfl (lv_at hl 1 rfl) ?_
          refine lv_iload_n hx hb dX10_findLine_78 rfl (lv_at hl 0 rfl) ?_
          obtain ⟨hi22, hF⟩ := sv_s hF
          refine va_iast hx hb hK hP hD hS 42 0 rfl rfl hi22 dX10_findLine_79 (fun H locs hP hD hS => ?_)
          obtain ⟨S23, eS23⟩ : ∃ z, z = wr S21 42 (v2_20 : Int32).toNatClampNeg v1_19 := ⟨_, rfl⟩
          replace hF := hF S23 eS23
          have hP : va_P D vwCl (YW y cy S23) H := by rw [eS23]; exact hP
          have hD : va_D (va_A (YW y cy S0) s.heap.size) (YW y cy S23) := by rw [eS23]; exact hD
          refine lv_aload_n hx hb dX10_findLine_80 rfl (lv_at hl 2 rfl) ?_
          refine lv_dup hx hb dX10_findLine_81 rfl ?_
          refine va_get (D := D) (ci := 10) (v := .int (S23 0 57)) (C := RX10) (T := TX10) (N := 58) hx hb hts iX10_findLine_10 hown hK hP 0 rfl rfl 57 (by decide) (hts (.fieldLink RX10 230 "FondsRoomModel" "lined" "I") (List.mem_of_getElem? (i := 1) rfl)) (fun _ h9 => h9) rfl dX10_findLine_82 ?_
          refine lv_iconst (v := 1) hx hb dX10_findLine_85 (by decide) ?_
          refine lv_iadd hx hb dX10_findLine_86 ?_
          refine va_put (D := D) (ci := 10) (v := .int ((S23 0 57) + 1)) (ty := .int) (C := RX10) (T := TX10) (N := 58) hx hb hts iX10_findLine_10 tyX10 tyX10_ok nmX10 hown hK hP hD hS 0 rfl rfl 57 (by decide) (hts (.fieldLink RX10 230 "FondsRoomModel" "lined" "I") (List.mem_of_getElem? (i := 1) rfl)) (fun _ h9 => h9) rfl (by decide +kernel) rfl rfl (Nat.le_of_ble_eq_true rfl) dX10_findLine_87 (fun H locs hP hD hS => ?_)
          obtain ⟨S24, eS24⟩ : ∃ z, z = wr S23 0 57 ((S23 0 57) + 1) := ⟨_, rfl⟩
          replace hF := bnd_s hF S24 eS24
          have hP : va_P D vwCl (YW y cy S24) H := by rw [eS24]; exact hP
          have hD : va_D (va_A (YW y cy S0) s.heap.size) (YW y cy S24) := by rw [eS24]; exact hD
          refine lv_iinc (v := v1_19 + 1) (lv' := [(1, .int (v1_19 + 1)), (2, .int v2_20), (0, .ref (y 0))]) hx hb dX10_findLine_90 hl (k := 0) rfl rfl (by decide) rfl (fun ls hl => ?_)
          refine lv_goto (tgt := 7) hx hb dX10_findLine_93 (by decide) ?_
          exact ih7 (v1_19 + 1) S24 _ _ _ hF hP hD hS (lv_sub hl [0, 2] rfl)
        · skip
          have hF := (if_neg c5).symm.trans hF
          refine lv_goto (tgt := 90) hx hb dX10_findLine_25 (by decide) ?_
          refine lv_iinc (v := v1 + 1) (lv' := [(1, .int (v1 + 1)), (0, .ref (y 0))]) hx hb dX10_findLine_90 hl (k := 0) rfl rfl (by decide) rfl (fun ls hl => ?_)
          refine lv_goto (tgt := 7) hx hb dX10_findLine_93 (by decide) ?_
          exact ih7 (v1 + 1) S _ _ _ hF hP hD hS (lv_sub hl [0, 1] rfl)
  have hl := lv_entry ([.ref (y 0)]) (n := 3) (Nat.le_of_ble_eq_true rfl)
  rw [lg_entry_eq]
  generalize (lg_sl ([.ref (y 0)]) ++ List.replicate (3 - (lg_sl ([.ref (y 0)])).length) Slot.unset).toArray = ls at hl ⊢
  have hl : lv_has ls 3 [(0, .ref (y 0))] := hl
  unfold gX10_findLine at hF
  refine lv_aload_n hx hb dX10_findLine_0 rfl (lv_at hl 0 rfl) ?_
  refine lv_iconst (v := 0) hx hb dX10_findLine_1 (by decide) ?_
  refine va_put (D := D) (ci := 10) (v := .int 0) (ty := .int) (C := RX10) (T := TX10) (N := 58) hx hb hts iX10_findLine_10 tyX10 tyX10_ok nmX10 hown hK hP hD hS 0 rfl rfl 57 (by decide) (hts (.fieldLink RX10 230 "FondsRoomModel" "lined" "I") (List.mem_of_getElem? (i := 1) rfl)) (fun _ h9 => h9) rfl (by decide +kernel) rfl rfl (Nat.le_of_ble_eq_true rfl) dX10_findLine_2 (fun H locs hP hD hS => ?_)
  obtain ⟨S1, eS1⟩ : ∃ z, z = wr S0 0 57 0 := ⟨_, rfl⟩
  replace hF := bnd_s hF S1 eS1
  have hP : va_P D vwCl (YW y cy S1) H := by rw [eS1]; exact hP
  have hD : va_D (va_A (YW y cy S0) s.heap.size) (YW y cy S1) := by rw [eS1]; exact hD
  refine lv_iconst (v := 0) hx hb dX10_findLine_5 (by decide) ?_
  refine lv_istore_n (lv' := [(1, .int 0), (0, .ref (y 0))]) hx hb dX10_findLine_6 rfl hl (by decide) rfl (fun ls hl => ?_)
  refine key7 _ ?_ 1000 0 S1 _ _ _ hF hP hD hS (lv_sub hl [0, 1] rfl)
  intro S25 H locs ls hF hP hD hS hl
  have e2 := Option.some.inj hF
  have hP : va_P D vwCl (YW y cy Sf) H := by rw [← e2]; exact hP
  have hD : va_D (va_A (YW y cy S0) s.heap.size) (YW y cy Sf) := by rw [← e2]; exact hD
  exact W.vret hx hb hr (fun t ht hW => ⟨⟨(), rfl, trivial, by rw [ht]; exact hP, va_K.moved hW.alike hK, hD⟩, hS.F ht⟩) hS.2.2 dX10_findLine_96

theorem iX10_deskFor_10 : ∀ w ∈ wsX100, w ∈ wsX10_deskFor := fun _ h => List.mem_cons_of_mem _ (List.mem_append_right _ h)
set_option maxHeartbeats 8000000 in
set_option maxRecDepth 100000 in
theorem zX10_deskFor (l : Launch) (D : va_G) (y : Nat → Nat) (cy : Nat → ClassId) (S : RS) (sz : Nat) (p1 : Int32) (rv : Int32) (hF : gX10_deskFor S p1 = some rv) : Met l yX10_deskFor wsX10_deskFor ({ frames := 0, cells := 0, slots := 0, locals := 0 }) (PW D (TYS cy) (YW y cy S) sz [.ref (y 0), .int p1]) (va_Qi (fun (res : Int32) (u : Unit) => res = rv) (BU D (TYS cy) (YW y cy S) (fun _ => YW y cy S) sz) (va_A (YW y cy S) sz)) 0 0 (va_A (YW y cy S) sz) := by
  refine Met.ofW (cc := cX10_deskFor) (maxL := 4) (ret := (some .int)) (by decide) rfl ?_
  intro p e s m args below meth c s₁ B hml hv
  obtain ⟨rfl, hsz, hP, hK, hD0⟩ := hv
  have hx := B.exec
  have hb := B.bytes
  have hr := B.returns
  have hts := atoms_spec (ws := wsX10_deskFor) B.pre
  have hown : s.vm.findClass RX10 = some m.cls := findClass_of_methodNamed B.named
  have hlocks := B.notSynchronized
  subst hsz
  have hD := hD0.self (sz := s.heap.size)
  have hA : ∀ q9 : Nat, s.heap.size ≤ q9 → va_A (YW y cy S) s.heap.size q9 := fun q9 h => Or.inr h
  have hS : va_S (va_A (YW y cy S) s.heap.size) s.heap s.heap [] := va_S.rf
  have key4 : ∀ (K : Int32 → Option (Int32)), (∀ (v2 : Int32) (H : Heap) (locs : List Loc) (ls : Array Slot), K v2 = some rv → va_P D vwCl (YW y cy S) H → va_D (va_A (YW y cy S) s.heap.size) (YW y cy S) → va_S (va_A (YW y cy S) s.heap.size) s.heap H locs → lv_has ls 4 [(2, .int v2)] → W p l e (headSpec wsX10_deskFor ({ frames := 0, cells := 0, slots := 0, locals := 0 })).room s m #[.ref (y 0), .int p1] below meth c H locs 0 0 (MQ below (va_Qi (fun (res : Int32) (u : Unit) => res = rv) (BU D (TYS cy) (YW y cy S) (fun _ => YW y cy S) s.heap.size) (va_A (YW y cy S) s.heap.size)) #[.ref (y 0), .int p1] s 0 0 (va_A (YW y cy S) s.heap.size)) (F0 m 64 ls [])) → ∀ (fu : Nat) (v1 : Int32) (v2 : Int32) (v3 : Int32) (H : Heap) (locs : List Loc) (ls : Array Slot), gX10_deskFor_4 S K fu v1 v2 v3 = some rv → va_P D vwCl (YW y cy S) H → va_D (va_A (YW y cy S) s.heap.size) (YW y cy S) → va_S (va_A (YW y cy S) s.heap.size) s.heap H locs → lv_has ls 4 [(1, .int v1), (2, .int v2), (3, .int v3), (0, .ref (y 0))] → W p l e (headSpec wsX10_deskFor ({ frames := 0, cells := 0, slots := 0, locals := 0 })).room s m #[.ref (y 0), .int p1] below meth c H locs 0 0 (MQ below (va_Qi (fun (res : Int32) (u : Unit) => res = rv) (BU D (TYS cy) (YW y cy S) (fun _ => YW y cy S) s.heap.size) (va_A (YW y cy S) s.heap.size)) #[.ref (y 0), .int p1] s 0 0 (va_A (YW y cy S) s.heap.size)) (F0 m 4 ls []) := by
    intro K hKK fu
    induction fu with
    | zero =>
      intro v1 v2 v3 H locs ls hF
      exact absurd (show (none : Option (Int32)) = some rv from hF) (by simp)
    | succ fu4 ih4 =>
      intro v1 v2 v3 H locs ls hF hP hD hS hl
      rw [gX10_deskFor_4] at hF
      refine lv_iload_n hx hb dX10_deskFor_4 rfl (lv_at hl 2 rfl) ?_
      refine lv_aload_n hx hb dX10_deskFor_5 rfl (lv_at hl 3 rfl) ?_
      refine va_get (D := D) (ci := 10) (v := .int (S 0 1)) (C := RX10) (T := TX10) (N := 58) hx hb hts iX10_deskFor_10 hown hK hP 0 rfl rfl 1 (by decide) (hts (.fieldLink RX10 166 "FondsRoomModel" "desks" "I") (List.mem_of_getElem? (i := 1) rfl)) (fun _ h9 => h9) rfl dX10_deskFor_6 ?_
      refine lv_icmp_ge (tgt := 64) hx hb dX10_deskFor_9 (by decide) (fun c1 => ?_) (fun c1 => ?_)
      · skip
        have hF := (if_pos c1).symm.trans hF
        exact hKK v2  _ _ _ hF hP hD hS (lv_sub hl [1] rfl)
      · skip
        have hF := (if_neg c1).symm.trans hF
        refine lv_aload_n hx hb dX10_deskFor_12 rfl (lv_at hl 3 rfl) ?_
        refine va_get (D := D) (ci := 10) (v := .ref (y 2)) (C := RX10) (T := TX10) (N := 58) hx hb hts iX10_deskFor_10 hown hK hP 0 rfl rfl 10 (by decide) (hts (.fieldLink RX10 26 "FondsRoomModel" "sitter" "[I") (List.mem_of_getElem? (i := 2) rfl)) (fun _ h9 => h9) rfl dX10_deskFor_13 ?_
        refine lv_iload_n hx hb dX10_deskFor_16 rfl (lv_at hl 2 rfl) ?_
        obtain ⟨hi3, hF⟩ := ld_s hF
        refine va_iald hx hb hK hP 2 0 rfl rfl hi3 dX10_deskFor_17 ?_
        refine lv_topi (fun y2 ey2 => ?_)
        replace hF := hF y2 ey2
        refine lv_iconst (v := (-1)) hx hb dX10_deskFor_18 (by decide) ?_
        refine lv_icmp_eq (tgt := 25) hx hb dX10_deskFor_19 (by decide) (fun c4 => ?_) (fun c4 => ?_)
        · skip
          have hF := (if_pos c4).symm.trans hF
          refine lv_aload_n hx hb dX10_deskFor_25 rfl (lv_at hl 3 rfl) ?_
          refine va_get (D := D) (ci := 10) (v := .ref (y 1)) (C := RX10) (T := TX10) (N := 58) hx hb hts iX10_deskFor_10 hown hK hP 0 rfl rfl 9 (by decide) (hts (.fieldLink RX10 22 "FondsRoomModel" "isWatched" "[Z") (List.mem_of_getElem? (i := 3) rfl)) (fun _ h9 => h9) rfl dX10_deskFor_26 ?_
          refine lv_iload_n hx hb dX10_deskFor_29 rfl (lv_at hl 2 rfl) ?_
          obtain ⟨hi6, hF⟩ := ld_s hF
          refine va_zald hx hb hK hP 1 1 rfl rfl hi6 dX10_deskFor_30 ?_
          refine lv_topi (fun y5 ey5 => ?_)
          replace hF := hF y5 ey5
          refine lv_aload_n hx hb dX10_deskFor_31 rfl (lv_at hl 3 rfl) ?_
          refine va_get (D := D) (ci := 10) (v := .ref (y 14)) (C := RX10) (T := TX10) (N := 58) hx hb hts iX10_deskFor_10 hown hK hP 0 rfl rfl 26 (by decide) (hts (.fieldLink RX10 63 "FondsRoomModel" "needsWatched" "[Z") (List.mem_of_getElem? (i := 4) rfl)) (fun _ h9 => h9) rfl dX10_deskFor_32 ?_
          refine lv_iload_n hx hb dX10_deskFor_35 rfl (lv_at hl 0 rfl) ?_
          obtain ⟨hi8, hF⟩ := ld_s hF
          refine va_zald hx hb hK hP 14 1 rfl rfl hi8 dX10_deskFor_36 ?_
          refine lv_topi (fun y7 ey7 => ?_)
          replace hF := hF y7 ey7
          refine lv_icmp_ne (tgt := 42) hx hb dX10_deskFor_37 (by decide) (fun c9 => ?_) (fun c9 => ?_)
          · skip
            have hF := (if_neg c9).symm.trans hF
            refine lv_aload_n hx hb dX10_deskFor_42 rfl (lv_at hl 3 rfl) ?_
            refine va_get (D := D) (ci := 10) (v := .ref (y 14)) (C := RX10) (T := TX10) (N := 58) hx hb hts iX10_deskFor_10 hown hK hP 0 rfl rfl 26 (by decide) (hts (.fieldLink RX10 63 "FondsRoomModel" "needsWatched" "[Z") (List.mem_of_getElem? (i := 4) rfl)) (fun _ h9 => h9) rfl dX10_deskFor_43 ?_
            refine lv_iload_n hx hb dX10_deskFor_46 rfl (lv_at hl 0 rfl) ?_
            obtain ⟨hi11, hF⟩ := ld_s hF
            refine va_zald hx hb hK hP 14 1 rfl rfl hi11 dX10_deskFor_47 ?_
            refine lv_topi (fun y10 ey10 => ?_)
            replace hF := hF y10 ey10
            refine lv_if_ne (tgt := 58) hx hb dX10_deskFor_48 (by decide) (fun c12 => ?_) (fun c12 => ?_)
            · skip
              have hF := (if_neg c12).symm.trans hF
              refine lv_iinc (v := v3 + 1) (lv' := [(3, .int (v3 + 1)), (1, .int v1), (2, .int v2), (0, .ref (y 0))]) hx hb dX10_deskFor_58 hl (k := 2) rfl rfl (by decide) rfl (fun ls hl => ?_)
              refine lv_goto (tgt := 4) hx hb dX10_deskFor_61 (by decide) ?_
              exact ih4 v1 v2 (v3 + 1)  _ _ _ hF hP hD hS (lv_sub hl [1, 2, 0, 3] rfl)
            · skip
              have hF := (if_pos c12).symm.trans hF
              refine lv_iload_n hx hb dX10_deskFor_51 rfl (lv_at hl 1 rfl) ?_
              refine lv_iconst (v := (-1)) hx hb dX10_deskFor_52 (by decide) ?_
              refine lv_icmp_ne (tgt := 58) hx hb dX10_deskFor_53 (by decide) (fun c13 => ?_) (fun c13 => ?_)
              · skip
                have hF := (if_neg c13).symm.trans hF
                refine lv_iinc (v := v3 + 1) (lv' := [(3, .int (v3 + 1)), (1, .int v1), (2, .int v2), (0, .ref (y 0))]) hx hb dX10_deskFor_58 hl (k := 2) rfl rfl (by decide) rfl (fun ls hl => ?_)
                refine lv_goto (tgt := 4) hx hb dX10_deskFor_61 (by decide) ?_
                exact ih4 v1 v2 (v3 + 1)  _ _ _ hF hP hD hS (lv_sub hl [1, 2, 0, 3] rfl)
              · skip
                have hF := (if_pos c13).symm.trans hF
                refine lv_iload_n hx hb dX10_deskFor_56 rfl (lv_at hl 2 rfl) ?_
                refine lv_istore_n (lv' := [(2, .int v3), (1, .int v1), (3, .int v3), (0, .ref (y 0))]) hx hb dX10_deskFor_57 rfl hl (by decide) rfl (fun ls hl => ?_)
                refine lv_iinc (v := v3 + 1) (lv' := [(3, .int (v3 + 1)), (2, .int v3), (1, .int v1), (0, .ref (y 0))]) hx hb dX10_deskFor_58 hl (k := 2) rfl rfl (by decide) rfl (fun ls hl => ?_)
                refine lv_goto (tgt := 4) hx hb dX10_deskFor_61 (by decide) ?_
                exact ih4 v1 v3 (v3 + 1)  _ _ _ hF hP hD hS (lv_sub hl [2, 1, 0, 3] rfl)
          · skip
            have hF := (if_pos c9).symm.trans hF
            refine lv_iload_n hx hb dX10_deskFor_40 rfl (lv_at hl 2 rfl) ?_
            have e1 := Option.some.inj hF
            exact W.iret (v := v3) hx hb hr (fun t ht hW => ⟨⟨v3, (), rfl, e1, by rw [ht]; exact hP, va_K.moved hW.alike hK, hD⟩, hS.F ht⟩) hS.2.2 dX10_deskFor_41
        · skip
          have hF := (if_neg c4).symm.trans hF
          refine lv_goto (tgt := 58) hx hb dX10_deskFor_22 (by decide) ?_
          refine lv_iinc (v := v3 + 1) (lv' := [(3, .int (v3 + 1)), (1, .int v1), (2, .int v2), (0, .ref (y 0))]) hx hb dX10_deskFor_58 hl (k := 2) rfl rfl (by decide) rfl (fun ls hl => ?_)
          refine lv_goto (tgt := 4) hx hb dX10_deskFor_61 (by decide) ?_
          exact ih4 v1 v2 (v3 + 1)  _ _ _ hF hP hD hS (lv_sub hl [1, 2, 0, 3] rfl)
  have hl := lv_entry ([.ref (y 0), .int p1]) (n := 4) (Nat.le_of_ble_eq_true rfl)
  rw [lg_entry_eq]
  generalize (lg_sl ([.ref (y 0), .int p1]) ++ List.replicate (4 - (lg_sl ([.ref (y 0), .int p1])).length) Slot.unset).toArray = ls at hl ⊢
  have hl : lv_has ls 4 [(0, .ref (y 0)), (1, .int p1)] := hl
  unfold gX10_deskFor at hF
  refine lv_iconst (v := (-1)) hx hb dX10_deskFor_0 (by decide) ?_
  refine lv_istore_n (lv' := [(2, .int (-1)), (0, .ref (y 0)), (1, .int p1)]) hx hb dX10_deskFor_1 rfl hl (by decide) rfl (fun ls hl => ?_)
  refine lv_iconst (v := 0) hx hb dX10_deskFor_2 (by decide) ?_
  refine lv_istore_n (lv' := [(3, .int 0), (2, .int (-1)), (0, .ref (y 0)), (1, .int p1)]) hx hb dX10_deskFor_3 rfl hl (by decide) rfl (fun ls hl => ?_)
  refine key4 _ ?_ 1000 p1 (-1) 0  _ _ _ hF hP hD hS (lv_sub hl [3, 1, 0, 2] rfl)
  intro v2_14 H locs ls hF hP hD hS hl
  refine lv_iload_n hx hb dX10_deskFor_64 rfl (lv_at hl 0 rfl) ?_
  have e1 := Option.some.inj hF
  exact W.iret (v := v2_14) hx hb hr (fun t ht hW => ⟨⟨v2_14, (), rfl, e1, by rw [ht]; exact hP, va_K.moved hW.alike hK, hD⟩, hS.F ht⟩) hS.2.2 dX10_deskFor_65

theorem iX10_doDesks_10 : ∀ w ∈ wsX100, w ∈ wsX10_doDesks := fun _ h => List.mem_cons_of_mem _ (List.mem_append_right _ h)
set_option maxHeartbeats 8000000 in
set_option maxRecDepth 100000 in
theorem zX10_doDesks (l : Launch) (D : va_G) (y : Nat → Nat) (cy : Nat → ClassId) (S0 : RS) (sz : Nat) (Sf : RS) (hF : gX10_doDesks S0  = some Sf) : Met l yX10_doDesks wsX10_doDesks ({ frames := 2, cells := 0, slots := 0, locals := 44 }) (PW D (TYS cy) (YW y cy S0) sz [.ref (y 0)]) (va_Qv (fun (u : Unit) => True) (BU D (TYS cy) (YW y cy S0) (fun _ => YW y cy Sf) sz) (va_A (YW y cy S0) sz)) 0 0 (va_A (YW y cy S0) sz) := by
  refine Met.ofW (cc := cX10_doDesks) (maxL := 5) (ret := none) (by decide) rfl ?_
  intro p e s m args below meth c s₁ B hml hv
  obtain ⟨rfl, hsz, hP, hK, hD0⟩ := hv
  have hx := B.exec
  have hb := B.bytes
  have hr := B.returns
  have hts := atoms_spec (ws := wsX10_doDesks) B.pre
  have hown : s.vm.findClass RX10 = some m.cls := findClass_of_methodNamed B.named
  have hlocks := B.notSynchronized
  subst hsz
  have hD := hD0.self (sz := s.heap.size)
  have hA : ∀ q9 : Nat, s.heap.size ≤ q9 → va_A (YW y cy S0) s.heap.size q9 := fun q9 h => Or.inr h
  have hS : va_S (va_A (YW y cy S0) s.heap.size) s.heap s.heap [] := va_S.rf
  have key68 : ∀ (K : Int32 → RS → Option (RS)), (∀ (v1 : Int32) (S : RS) (H : Heap) (locs : List Loc) (ls : Array Slot), K v1 S = some Sf → va_P D vwCl (YW y cy S) H → va_D (va_A (YW y cy S0) s.heap.size) (YW y cy S) → va_S (va_A (YW y cy S0) s.heap.size) s.heap H locs → lv_has ls 5 [(1, .int v1), (0, .ref (y 0))] → W p l e (headSpec wsX10_doDesks ({ frames := 2, cells := 0, slots := 0, locals := 44 })).room s m #[.ref (y 0)] below meth c H locs 0 0 (MQ below (va_Qv (fun (u : Unit) => True) (BU D (TYS cy) (YW y cy S0) (fun _ => YW y cy Sf) s.heap.size) (va_A (YW y cy S0) s.heap.size)) #[.ref (y 0)] s 0 0 (va_A (YW y cy S0) s.heap.size)) (F0 m 143 ls [])) → ∀ (fu : Nat) (v1 : Int32) (v2 : Int32) (v4 : Int32) (S : RS) (H : Heap) (locs : List Loc) (ls : Array Slot), gX10_doDesks_68 K fu v1 v2 v4 S = some Sf → va_P D vwCl (YW y cy S) H → va_D (va_A (YW y cy S0) s.heap.size) (YW y cy S) → va_S (va_A (YW y cy S0) s.heap.size) s.heap H locs → lv_has ls 5 [(1, .int v1), (2, .int v2), (4, .int v4), (0, .ref (y 0))] → W p l e (headSpec wsX10_doDesks ({ frames := 2, cells := 0, slots := 0, locals := 44 })).room s m #[.ref (y 0)] below meth c H locs 0 0 (MQ below (va_Qv (fun (u : Unit) => True) (BU D (TYS cy) (YW y cy S0) (fun _ => YW y cy Sf) s.heap.size) (va_A (YW y cy S0) s.heap.size)) #[.ref (y 0)] s 0 0 (va_A (YW y cy S0) s.heap.size)) (F0 m 68 ls []) := by
    intro K hKK fu
    induction fu with
    | zero =>
      intro v1 v2 v4 S H locs ls hF
      exact absurd (show (none : Option (RS)) = some Sf from hF) (by simp)
    | succ fu68 ih68 =>
      intro v1 v2 v4 S H locs ls hF hP hD hS hl
      rw [gX10_doDesks_68] at hF
      refine lv_iload hx hb dX10_doDesks_68 (lv_at hl 2 rfl) ?_
      refine lv_aload_n hx hb dX10_doDesks_70 rfl (lv_at hl 3 rfl) ?_
      refine va_get (D := D) (ci := 10) (v := .int (S 0 3)) (C := RX10) (T := TX10) (N := 58) hx hb hts iX10_doDesks_10 hown hK hP 0 rfl rfl 3 (by decide) (hts (.fieldLink RX10 153 "FondsRoomModel" "readers" "I") (List.mem_of_getElem? (i := 6) rfl)) (fun _ h9 => h9) rfl dX10_doDesks_71 ?_
      refine lv_icmp_ge (tgt := 143) hx hb dX10_doDesks_74 (by decide) (fun c26 => ?_) (fun c26 => ?_)
      · skip
        have hF := (if_pos c26).symm.trans hF
        exact hKK v1 S _ _ _ hF hP hD hS (lv_sub hl [0, 3] rfl)
      · skip
        have hF := (if_neg c26).symm.trans hF
        refine lv_aload_n hx hb dX10_doDesks_77 rfl (lv_at hl 3 rfl) ?_
        refine va_get (D := D) (ci := 10) (v := .ref (y 15)) (C := RX10) (T := TX10) (N := 58) hx hb hts iX10_doDesks_10 hown hK hP 0 rfl rfl 27 (by decide) (hts (.fieldLink RX10 66 "FondsRoomModel" "state" "[I") (List.mem_of_getElem? (i := 5) rfl)) (fun _ h9 => h9) rfl dX10_doDesks_78 ?_
        refine lv_iload hx hb dX10_doDesks_81 (lv_at hl 2 rfl) ?_
        obtain ⟨hi28, hF⟩ := ld_s hF
        refine va_iald hx hb hK hP 15 0 rfl rfl hi28 dX10_doDesks_83 ?_
        refine lv_topi (fun y27 ey27 => ?_)
        replace hF := hF y27 ey27
        refine lv_iconst (v := 1) hx hb dX10_doDesks_84 (by decide) ?_
        refine lv_icmp_ne (tgt := 137) hx hb dX10_doDesks_85 (by decide) (fun c29 => ?_) (fun c29 => ?_)
        · skip
          have hF := (if_neg c29).symm.trans hF
          refine lv_iinc (v := v4 + 1) (lv' := [(4, .int (v4 + 1)), (1, .int v1), (2, .int v2), (0, .ref (y 0))]) hx hb dX10_doDesks_137 hl (k := 2) rfl rfl (by decide) rfl (fun ls hl => ?_)
          refine lv_goto (tgt := 68) hx hb dX10_doDesks_140 (by decide) ?_
          exact ih68 v1 v2 (v4 + 1) S _ _ _ hF hP hD hS (lv_sub hl [1, 2, 0, 3] rfl)
        · skip
          have hF := (if_pos c29).symm.trans hF
          refine lv_aload_n hx hb dX10_doDesks_88 rfl (lv_at hl 3 rfl) ?_
          refine va_get (D := D) (ci := 10) (v := .ref (y 20)) (C := RX10) (T := TX10) (N := 58) hx hb hts iX10_doDesks_10 hown hK hP 0 rfl rfl 32 (by decide) (hts (.fieldLink RX10 81 "FondsRoomModel" "came" "[I") (List.mem_of_getElem? (i := 7) rfl)) (fun _ h9 => h9) rfl dX10_doDesks_89 ?_
          refine lv_iload hx hb dX10_doDesks_92 (lv_at hl 2 rfl) ?_
          obtain ⟨hi31, hF⟩ := ld_s hF
          refine va_iald hx hb hK hP 20 0 rfl rfl hi31 dX10_doDesks_94 ?_
          refine lv_topi (fun y30 ey30 => ?_)
          replace hF := hF y30 ey30
          refine lv_aload_n hx hb dX10_doDesks_95 rfl (lv_at hl 3 rfl) ?_
          refine va_get (D := D) (ci := 10) (v := .ref (y 20)) (C := RX10) (T := TX10) (N := 58) hx hb hts iX10_doDesks_10 hown hK hP 0 rfl rfl 32 (by decide) (hts (.fieldLink RX10 81 "FondsRoomModel" "came" "[I") (List.mem_of_getElem? (i := 7) rfl)) (fun _ h9 => h9) rfl dX10_doDesks_96 ?_
          refine lv_iload_n hx hb dX10_doDesks_99 rfl (lv_at hl 1 rfl) ?_
          obtain ⟨hi33, hF⟩ := ld_s hF
          refine va_iald hx hb hK hP 20 0 rfl rfl hi33 dX10_doDesks_100 ?_
          refine lv_topi (fun y32 ey32 => ?_)
          replace hF := hF y32 ey32
          refine lv_icmp_lt (tgt := 126) hx hb dX10_doDesks_101 (by decide) (fun c34 => ?_) (fun c34 => ?_)
          · skip
            have hF := (if_pos c34).symm.trans hF
            refine lv_aload_n hx hb dX10_doDesks_126 rfl (lv_at hl 3 rfl) ?_
            refine va_get (D := D) (ci := 10) (v := .ref (y 21)) (C := RX10) (T := TX10) (N := 58) hx hb hts iX10_doDesks_10 hown hK hP 0 rfl rfl 33 (by decide) (hts (.fieldLink RX10 84 "FondsRoomModel" "overtaken" "[I") (List.mem_of_getElem? (i := 8) rfl)) (fun _ h9 => h9) rfl dX10_doDesks_127 ?_
            refine lv_iload hx hb dX10_doDesks_130 (lv_at hl 2 rfl) ?_
            refine lv_dup2_11 hx hb dX10_doDesks_132 rfl rfl ?_
            obtain ⟨hi36, hF⟩ := ld_s hF
            refine va_iald hx hb hK hP 21 0 rfl rfl hi36 dX10_doDesks_133 ?_
            refine lv_topi (fun y35 ey35 => ?_)
            replace hF := hF y35 ey35
            refine lv_iconst (v := 1) hx hb dX10_doDesks_134 (by decide) ?_
            refine lv_iadd hx hb dX10_doDesks_135 ?_
            obtain ⟨hi37, hF⟩ := sv_s hF
            refine va_iast hx hb hK hP hD hS 21 0 rfl rfl hi37 dX10_doDesks_136 (fun H locs hP hD hS => ?_)
            obtain ⟨S38, eS38⟩ : ∃ z, z = wr S 21 (v4 : Int32).toNatClampNeg (y35 + 1) := ⟨_, rfl⟩
            replace hF := hF S38 eS38
            have hP : va_P D vwCl (YW y cy S38) H := by rw [eS38]; exact hP
            have hD : va_D (va_A (YW y cy S0) s.heap.size) (YW y cy S38) := by rw [eS38]; exact hD
            refine lv_iinc (v := v4 + 1) (lv' := [(4, .int (v4 + 1)), (1, .int v1), (2, .int v2), (0, .ref (y 0))]) hx hb dX10_doDesks_137 hl (k := 2) rfl rfl (by decide) rfl (fun ls hl => ?_)
            refine lv_goto (tgt := 68) hx hb dX10_doDesks_140 (by decide) ?_
            exact ih68 v1 v2 (v4 + 1) S38 _ _ _ hF hP hD hS (lv_sub hl [1, 2, 0, 3] rfl)
          · skip
            have hF := (if_neg c34).symm.trans hF
            refine lv_aload_n hx hb dX10_doDesks_104 rfl (lv_at hl 3 rfl) ?_
            refine va_get (D := D) (ci := 10) (v := .ref (y 20)) (C := RX10) (T := TX10) (N := 58) hx hb hts iX10_doDesks_10 hown hK hP 0 rfl rfl 32 (by decide) (hts (.fieldLink RX10 81 "FondsRoomModel" "came" "[I") (List.mem_of_getElem? (i := 7) rfl)) (fun _ h9 => h9) rfl dX10_doDesks_105 ?_
            refine lv_iload hx hb dX10_doDesks_108 (lv_at hl 2 rfl) ?_
            obtain ⟨hi40, hF⟩ := ld_s hF
            refine va_iald hx hb hK hP 20 0 rfl rfl hi40 dX10_doDesks_110 ?_
            refine lv_topi (fun y39 ey39 => ?_)
            replace hF := hF y39 ey39
            refine lv_aload_n hx hb dX10_doDesks_111 rfl (lv_at hl 3 rfl) ?_
            refine va_get (D := D) (ci := 10) (v := .ref (y 20)) (C := RX10) (T := TX10) (N := 58) hx hb hts iX10_doDesks_10 hown hK hP 0 rfl rfl 32 (by decide) (hts (.fieldLink RX10 81 "FondsRoomModel" "came" "[I") (List.mem_of_getElem? (i := 7) rfl)) (fun _ h9 => h9) rfl dX10_doDesks_112 ?_
            refine lv_iload_n hx hb dX10_doDesks_115 rfl (lv_at hl 1 rfl) ?_
            obtain ⟨hi42, hF⟩ := ld_s hF
            refine va_iald hx hb hK hP 20 0 rfl rfl hi42 dX10_doDesks_116 ?_
            refine lv_topi (fun y41 ey41 => ?_)
            replace hF := hF y41 ey41
            refine lv_icmp_ne (tgt := 137) hx hb dX10_doDesks_117 (by decide) (fun c43 => ?_) (fun c43 => ?_)
            · skip
              have hF := (if_neg c43).symm.trans hF
              refine lv_iinc (v := v4 + 1) (lv' := [(4, .int (v4 + 1)), (1, .int v1), (2, .int v2), (0, .ref (y 0))]) hx hb dX10_doDesks_137 hl (k := 2) rfl rfl (by decide) rfl (fun ls hl => ?_)
              refine lv_goto (tgt := 68) hx hb dX10_doDesks_140 (by decide) ?_
              exact ih68 v1 v2 (v4 + 1) S _ _ _ hF hP hD hS (lv_sub hl [1, 2, 0, 3] rfl)
            · skip
              have hF := (if_pos c43).symm.trans hF
              refine lv_iload hx hb dX10_doDesks_120 (lv_at hl 2 rfl) ?_
              refine lv_iload_n hx hb dX10_doDesks_122 rfl (lv_at hl 1 rfl) ?_
              refine lv_icmp_ge (tgt := 137) hx hb dX10_doDesks_123 (by decide) (fun c44 => ?_) (fun c44 => ?_)
              · skip
                have hF := (if_pos c44).symm.trans hF
                refine lv_iinc (v := v4 + 1) (lv' := [(4, .int (v4 + 1)), (1, .int v1), (2, .int v2), (0, .ref (y 0))]) hx hb dX10_doDesks_137 hl (k := 2) rfl rfl (by decide) rfl (fun ls hl => ?_)
                refine lv_goto (tgt := 68) hx hb dX10_doDesks_140 (by decide) ?_
                exact ih68 v1 v2 (v4 + 1) S _ _ _ hF hP hD hS (lv_sub hl [1, 2, 0, 3] rfl)
              · skip
                have hF := (if_neg c44).symm.trans hF
                refine lv_aload_n hx hb dX10_doDesks_126 rfl (lv_at hl 3 rfl) ?_
                refine va_get (D := D) (ci := 10) (v := .ref (y 21)) (C := RX10) (T := TX10) (N := 58) hx hb hts iX10_doDesks_10 hown hK hP 0 rfl rfl 33 (by decide) (hts (.fieldLink RX10 84 "FondsRoomModel" "overtaken" "[I") (List.mem_of_getElem? (i := 8) rfl)) (fun _ h9 => h9) rfl dX10_doDesks_127 ?_
                refine lv_iload hx hb dX10_doDesks_130 (lv_at hl 2 rfl) ?_
                refine lv_dup2_11 hx hb dX10_doDesks_132 rfl rfl ?_
                obtain ⟨hi46, hF⟩ := ld_s hF
                refine va_iald hx hb hK hP 21 0 rfl rfl hi46 dX10_doDesks_133 ?_
                refine lv_topi (fun y45 ey45 => ?_)
                replace hF := hF y45 ey45
                refine lv_iconst (v := 1) hx hb dX10_doDesks_134 (by decide) ?_
                refine lv_iadd hx hb dX10_doDesks_135 ?_
                obtain ⟨hi47, hF⟩ := sv_s hF
                refine va_iast hx hb hK hP hD hS 21 0 rfl rfl hi47 dX10_doDesks_136 (fun H locs hP hD hS => ?_)
                obtain ⟨S48, eS48⟩ : ∃ z, z = wr S 21 (v4 : Int32).toNatClampNeg (y45 + 1) := ⟨_, rfl⟩
                replace hF := hF S48 eS48
                have hP : va_P D vwCl (YW y cy S48) H := by rw [eS48]; exact hP
                have hD : va_D (va_A (YW y cy S0) s.heap.size) (YW y cy S48) := by rw [eS48]; exact hD
                refine lv_iinc (v := v4 + 1) (lv' := [(4, .int (v4 + 1)), (1, .int v1), (2, .int v2), (0, .ref (y 0))]) hx hb dX10_doDesks_137 hl (k := 2) rfl rfl (by decide) rfl (fun ls hl => ?_)
                refine lv_goto (tgt := 68) hx hb dX10_doDesks_140 (by decide) ?_
                exact ih68 v1 v2 (v4 + 1) S48 _ _ _ hF hP hD hS (lv_sub hl [1, 2, 0, 3] rfl)
  have key6 : ∀ (K : RS → Option (RS)), (∀  (S : RS) (H : Heap) (locs : List Loc) (ls : Array Slot), K  S = some Sf → va_P D vwCl (YW y cy S) H → va_D (va_A (YW y cy S0) s.heap.size) (YW y cy S) → va_S (va_A (YW y cy S0) s.heap.size) s.heap H locs → lv_has ls 5 [] → W p l e (headSpec wsX10_doDesks ({ frames := 2, cells := 0, slots := 0, locals := 44 })).room s m #[.ref (y 0)] below meth c H locs 0 0 (MQ below (va_Qv (fun (u : Unit) => True) (BU D (TYS cy) (YW y cy S0) (fun _ => YW y cy Sf) s.heap.size) (va_A (YW y cy S0) s.heap.size)) #[.ref (y 0)] s 0 0 (va_A (YW y cy S0) s.heap.size)) (F0 m 149 ls [])) → ∀ (fu : Nat) (v1 : Int32) (S : RS) (H : Heap) (locs : List Loc) (ls : Array Slot), gX10_doDesks_6 K fu v1 S = some Sf → va_P D vwCl (YW y cy S) H → va_D (va_A (YW y cy S0) s.heap.size) (YW y cy S) → va_S (va_A (YW y cy S0) s.heap.size) s.heap H locs → lv_has ls 5 [(1, .int v1), (0, .ref (y 0))] → W p l e (headSpec wsX10_doDesks ({ frames := 2, cells := 0, slots := 0, locals := 44 })).room s m #[.ref (y 0)] below meth c H locs 0 0 (MQ below (va_Qv (fun (u : Unit) => True) (BU D (TYS cy) (YW y cy S0) (fun _ => YW y cy Sf) s.heap.size) (va_A (YW y cy S0) s.heap.size)) #[.ref (y 0)] s 0 0 (va_A (YW y cy S0) s.heap.size)) (F0 m 6 ls []) := by
    intro K hKK fu
    induction fu with
    | zero =>
      intro v1 S H locs ls hF
      exact absurd (show (none : Option (RS)) = some Sf from hF) (by simp)
    | succ fu6 ih6 =>
      intro v1 S H locs ls hF hP hD hS hl
      rw [gX10_doDesks_6] at hF
      refine lv_iload_n hx hb dX10_doDesks_6 rfl (lv_at hl 0 rfl) ?_
      refine lv_aload_n hx hb dX10_doDesks_7 rfl (lv_at hl 1 rfl) ?_
      refine va_get (D := D) (ci := 10) (v := .int (S 0 57)) (C := RX10) (T := TX10) (N := 58) hx hb hts iX10_doDesks_10 hown hK hP 0 rfl rfl 57 (by decide) (hts (.fieldLink RX10 230 "FondsRoomModel" "lined" "I") (List.mem_of_getElem? (i := 1) rfl)) (fun _ h9 => h9) rfl dX10_doDesks_8 ?_
      refine lv_icmp_ge (tgt := 149) hx hb dX10_doDesks_11 (by decide) (fun c6 => ?_) (fun c6 => ?_)
      · skip
        have hF := (if_pos c6).symm.trans hF
        exact hKK  S _ _ _ hF hP hD hS (lv_sub hl [] rfl)
      · skip
        have hF := (if_neg c6).symm.trans hF
        refine lv_aload_n hx hb dX10_doDesks_14 rfl (lv_at hl 1 rfl) ?_
        refine va_get (D := D) (ci := 10) (v := .ref (y 42)) (C := RX10) (T := TX10) (N := 58) hx hb hts iX10_doDesks_10 hown hK hP 0 rfl rfl 56 (by decide) (hts (.fieldLink RX10 147 "FondsRoomModel" "line" "[I") (List.mem_of_getElem? (i := 2) rfl)) (fun _ h9 => h9) rfl dX10_doDesks_15 ?_
        refine lv_iload_n hx hb dX10_doDesks_18 rfl (lv_at hl 0 rfl) ?_
        obtain ⟨hi8, hF⟩ := ld_s hF
        refine va_iald hx hb hK hP 42 0 rfl rfl hi8 dX10_doDesks_19 ?_
        refine lv_topi (fun y7 ey7 => ?_)
        replace hF := hF y7 ey7
        refine lv_istore_n (lv' := [(2, .int y7), (1, .int v1), (0, .ref (y 0))]) hx hb dX10_doDesks_20 rfl hl (by decide) rfl (fun ls hl => ?_)
        refine lv_aload_n hx hb dX10_doDesks_21 rfl (lv_at hl 2 rfl) ?_
        refine lv_iload_n hx hb dX10_doDesks_22 rfl (lv_at hl 0 rfl) ?_
        obtain ⟨r9, hq12, hF⟩ := bd1_s hF
        refine gvI (As := [.int y7]) (rest := []) ⟨hx, hb, hml, hown, hts⟩ (zX10_deskFor l D y cy S _ y7 r9 hq12) (cwV 1 hts gX10_doDesks_X10_deskFor rfl rfl rfl (by decide +kernel) ⟨Nat.le_of_ble_eq_true rfl, Nat.le_of_ble_eq_true rfl⟩) hK hP hD hS hA (va_recv hK hP (ci := 10) (q0 := 0) rfl rfl) rfl hl.1 rfl (Nat.le_of_ble_eq_true rfl) dX10_doDesks_23 ⟨Nat.le_of_ble_eq_true rfl, Nat.le_of_ble_eq_true rfl⟩ (fun a13 u9 H locs hw11 hP hD hS => ?_)
        have hP : va_P D vwCl (YW y cy S) H := hP
        have hD : va_D _ (YW y cy S) := hD
        refine lv_tov (v' := .int r9) (congrArg Value.int hw11) ?_
        refine lv_istore_n (lv' := [(3, .int r9), (2, .int y7), (1, .int v1), (0, .ref (y 0))]) hx hb dX10_doDesks_26 rfl hl (by decide) rfl (fun ls hl => ?_)
        refine lv_iload_n hx hb dX10_doDesks_27 rfl (lv_at hl 0 rfl) ?_
        refine lv_iconst (v := (-1)) hx hb dX10_doDesks_28 (by decide) ?_
        refine lv_icmp_ne (tgt := 35) hx hb dX10_doDesks_29 (by decide) (fun c14 => ?_) (fun c14 => ?_)
        · skip
          have hF := (if_neg c14).symm.trans hF
          refine lv_aload_n hx hb dX10_doDesks_35 rfl (lv_at hl 3 rfl) ?_
          refine va_get (D := D) (ci := 10) (v := .ref (y 2)) (C := RX10) (T := TX10) (N := 58) hx hb hts iX10_doDesks_10 hown hK hP 0 rfl rfl 10 (by decide) (hts (.fieldLink RX10 26 "FondsRoomModel" "sitter" "[I") (List.mem_of_getElem? (i := 3) rfl)) (fun _ h9 => h9) rfl dX10_doDesks_36 ?_
          refine lv_iload_n hx hb dX10_doDesks_39 rfl (lv_at hl 0 rfl) ?_
          refine lv_iload_n hx hb dX10_doDesks_40 rfl (lv_at hl 1 rfl) ?_
          obtain ⟨hi15, hF⟩ := sv_s hF
          refine va_iast hx hb hK hP hD hS 2 0 rfl rfl hi15 dX10_doDesks_41 (fun H locs hP hD hS => ?_)
          obtain ⟨S16, eS16⟩ : ∃ z, z = wr S 2 (r9 : Int32).toNatClampNeg y7 := ⟨_, rfl⟩
          replace hF := hF S16 eS16
          have hP : va_P D vwCl (YW y cy S16) H := by rw [eS16]; exact hP
          have hD : va_D (va_A (YW y cy S0) s.heap.size) (YW y cy S16) := by rw [eS16]; exact hD
          refine lv_aload_n hx hb dX10_doDesks_42 rfl (lv_at hl 3 rfl) ?_
          refine va_get (D := D) (ci := 10) (v := .ref (y 16)) (C := RX10) (T := TX10) (N := 58) hx hb hts iX10_doDesks_10 hown hK hP 0 rfl rfl 28 (by decide) (hts (.fieldLink RX10 69 "FondsRoomModel" "desk" "[I") (List.mem_of_getElem? (i := 4) rfl)) (fun _ h9 => h9) rfl dX10_doDesks_43 ?_
          refine lv_iload_n hx hb dX10_doDesks_46 rfl (lv_at hl 1 rfl) ?_
          refine lv_iload_n hx hb dX10_doDesks_47 rfl (lv_at hl 0 rfl) ?_
          obtain ⟨hi17, hF⟩ := sv_s hF
          refine va_iast hx hb hK hP hD hS 16 0 rfl rfl hi17 dX10_doDesks_48 (fun H locs hP hD hS => ?_)
          obtain ⟨S18, eS18⟩ : ∃ z, z = wr S16 16 (y7 : Int32).toNatClampNeg r9 := ⟨_, rfl⟩
          replace hF := hF S18 eS18
          have hP : va_P D vwCl (YW y cy S18) H := by rw [eS18]; exact hP
          have hD : va_D (va_A (YW y cy S0) s.heap.size) (YW y cy S18) := by rw [eS18]; exact hD
          refine lv_aload_n hx hb dX10_doDesks_49 rfl (lv_at hl 3 rfl) ?_
          refine va_get (D := D) (ci := 10) (v := .ref (y 15)) (C := RX10) (T := TX10) (N := 58) hx hb hts iX10_doDesks_10 hown hK hP 0 rfl rfl 27 (by decide) (hts (.fieldLink RX10 66 "FondsRoomModel" "state" "[I") (List.mem_of_getElem? (i := 5) rfl)) (fun _ h9 => h9) rfl dX10_doDesks_50 ?_
          refine lv_iload_n hx hb dX10_doDesks_53 rfl (lv_at hl 1 rfl) ?_
          refine lv_bipush (v := 8) hx hb dX10_doDesks_54 (by decide) ?_
          obtain ⟨hi19, hF⟩ := sv_s hF
          refine va_iast hx hb hK hP hD hS 15 0 rfl rfl hi19 dX10_doDesks_56 (fun H locs hP hD hS => ?_)
          obtain ⟨S20, eS20⟩ : ∃ z, z = wr S18 15 (y7 : Int32).toNatClampNeg 8 := ⟨_, rfl⟩
          replace hF := hF S20 eS20
          have hP : va_P D vwCl (YW y cy S20) H := by rw [eS20]; exact hP
          have hD : va_D (va_A (YW y cy S0) s.heap.size) (YW y cy S20) := by rw [eS20]; exact hD
          refine lv_aload_n hx hb dX10_doDesks_57 rfl (lv_at hl 3 rfl) ?_
          refine lv_iload_n hx hb dX10_doDesks_58 rfl (lv_at hl 1 rfl) ?_
          refine lv_iconst (v := 2) hx hb dX10_doDesks_59 (by decide) ?_
          refine lv_iload_n hx hb dX10_doDesks_60 rfl (lv_at hl 0 rfl) ?_
          refine lv_iconst (v := 1) hx hb dX10_doDesks_61 (by decide) ?_
          obtain ⟨S22, hq24, hF⟩ := bd1_s hF
          refine gvV (As := [.int y7, .int 2, .int r9, .int 1]) (rest := []) ⟨hx, hb, hml, hown, hts⟩ (zX10_event l D y cy S20 _ y7 2 r9 1 S22 hq24) (cwV 4 hts gX10_doDesks_X10_event rfl rfl rfl (by decide +kernel) ⟨Nat.le_of_ble_eq_true rfl, Nat.le_of_ble_eq_true rfl⟩) hK hP hD hS hA (va_recv hK hP (ci := 10) (q0 := 0) rfl rfl) rfl hl.1 rfl (Nat.le_of_ble_eq_true rfl) dX10_doDesks_62 ⟨Nat.le_of_ble_eq_true rfl, Nat.le_of_ble_eq_true rfl⟩ (fun u9 H locs hw23 hP hD hS => ?_)
          have hP : va_P D vwCl (YW y cy S22) H := hP
          have hD : va_D _ (YW y cy S22) := hD
          refine lv_iconst (v := 0) hx hb dX10_doDesks_65 (by decide) ?_
          refine lv_istore (lv' := [(4, .int 0), (3, .int r9), (2, .int y7), (1, .int v1), (0, .ref (y 0))]) hx hb dX10_doDesks_66 hl (by decide) rfl (fun ls hl => ?_)
          refine key68 _ ?_ 1000 v1 y7 0 S22 _ _ _ hF hP hD hS (lv_sub hl [3, 2, 0, 4] rfl)
          intro v1_49 S50 H locs ls hF hP hD hS hl
          refine lv_iinc (v := v1_49 + 1) (lv' := [(1, .int (v1_49 + 1)), (0, .ref (y 0))]) hx hb dX10_doDesks_143 hl (k := 0) rfl rfl (by decide) rfl (fun ls hl => ?_)
          refine lv_goto (tgt := 6) hx hb dX10_doDesks_146 (by decide) ?_
          exact ih6 (v1_49 + 1) S50 _ _ _ hF hP hD hS (lv_sub hl [0, 1] rfl)
        · skip
          have hF := (if_pos c14).symm.trans hF
          refine lv_goto (tgt := 143) hx hb dX10_doDesks_32 (by decide) ?_
          refine lv_iinc (v := v1 + 1) (lv' := [(1, .int (v1 + 1)), (3, .int r9), (2, .int y7), (0, .ref (y 0))]) hx hb dX10_doDesks_143 hl (k := 2) rfl rfl (by decide) rfl (fun ls hl => ?_)
          refine lv_goto (tgt := 6) hx hb dX10_doDesks_146 (by decide) ?_
          exact ih6 (v1 + 1) S _ _ _ hF hP hD hS (lv_sub hl [0, 3] rfl)
  have hl := lv_entry ([.ref (y 0)]) (n := 5) (Nat.le_of_ble_eq_true rfl)
  rw [lg_entry_eq]
  generalize (lg_sl ([.ref (y 0)]) ++ List.replicate (5 - (lg_sl ([.ref (y 0)])).length) Slot.unset).toArray = ls at hl ⊢
  have hl : lv_has ls 5 [(0, .ref (y 0))] := hl
  unfold gX10_doDesks at hF
  refine lv_aload_n hx hb dX10_doDesks_0 rfl (lv_at hl 0 rfl) ?_
  obtain ⟨S2, hq4, hF⟩ := bd1_s hF
  refine gvV (As := []) (rest := []) ⟨hx, hb, hml, hown, hts⟩ (zX10_findLine l D y cy S0 _  S2 hq4) (cwV 0 hts gX10_doDesks_X10_findLine rfl rfl rfl (by decide +kernel) ⟨Nat.le_of_ble_eq_true rfl, Nat.le_of_ble_eq_true rfl⟩) hK hP hD hS hA (va_recv hK hP (ci := 10) (q0 := 0) rfl rfl) rfl hl.1 rfl (Nat.le_of_ble_eq_true rfl) dX10_doDesks_1 ⟨Nat.le_of_ble_eq_true rfl, Nat.le_of_ble_eq_true rfl⟩ (fun u9 H locs hw3 hP hD hS => ?_)
  have hP : va_P D vwCl (YW y cy S2) H := hP
  have hD : va_D _ (YW y cy S2) := hD
  refine lv_iconst (v := 0) hx hb dX10_doDesks_4 (by decide) ?_
  refine lv_istore_n (lv' := [(1, .int 0), (0, .ref (y 0))]) hx hb dX10_doDesks_5 rfl hl (by decide) rfl (fun ls hl => ?_)
  refine key6 _ ?_ 1000 0 S2 _ _ _ hF hP hD hS (lv_sub hl [0, 1] rfl)
  intro S51 H locs ls hF hP hD hS hl
  have e2 := Option.some.inj hF
  have hP : va_P D vwCl (YW y cy Sf) H := by rw [← e2]; exact hP
  have hD : va_D (va_A (YW y cy S0) s.heap.size) (YW y cy Sf) := by rw [← e2]; exact hD
  exact W.vret hx hb hr (fun t ht hW => ⟨⟨(), rfl, trivial, by rw [ht]; exact hP, va_K.moved hW.alike hK, hD⟩, hS.F ht⟩) hS.2.2 dX10_doDesks_149

theorem iX10_leftBox_10 : ∀ w ∈ wsX100, w ∈ wsX10_leftBox := fun _ h => List.mem_cons_of_mem _ (List.mem_append_right _ h)
set_option maxHeartbeats 8000000 in
set_option maxRecDepth 100000 in
theorem zX10_leftBox (l : Launch) (D : va_G) (y : Nat → Nat) (cy : Nat → ClassId) (S : RS) (sz : Nat) (rv : Int32) (hF : gX10_leftBox S  = some rv) : Met l yX10_leftBox wsX10_leftBox ({ frames := 0, cells := 0, slots := 0, locals := 0 }) (PW D (TYS cy) (YW y cy S) sz [.ref (y 0)]) (va_Qi (fun (res : Int32) (u : Unit) => res = rv) (BU D (TYS cy) (YW y cy S) (fun _ => YW y cy S) sz) (va_A (YW y cy S) sz)) 0 0 (va_A (YW y cy S) sz) := by
  refine Met.ofW (cc := cX10_leftBox) (maxL := 2) (ret := (some .int)) (by decide) rfl ?_
  intro p e s m args below meth c s₁ B hml hv
  obtain ⟨rfl, hsz, hP, hK, hD0⟩ := hv
  have hx := B.exec
  have hb := B.bytes
  have hr := B.returns
  have hts := atoms_spec (ws := wsX10_leftBox) B.pre
  have hown : s.vm.findClass RX10 = some m.cls := findClass_of_methodNamed B.named
  have hlocks := B.notSynchronized
  subst hsz
  have hD := hD0.self (sz := s.heap.size)
  have hA : ∀ q9 : Nat, s.heap.size ≤ q9 → va_A (YW y cy S) s.heap.size q9 := fun q9 h => Or.inr h
  have hS : va_S (va_A (YW y cy S) s.heap.size) s.heap s.heap [] := va_S.rf
  have key2 : ∀ (K : Option (Int32)), (∀  (H : Heap) (locs : List Loc) (ls : Array Slot), K  = some rv → va_P D vwCl (YW y cy S) H → va_D (va_A (YW y cy S) s.heap.size) (YW y cy S) → va_S (va_A (YW y cy S) s.heap.size) s.heap H locs → lv_has ls 2 [] → W p l e (headSpec wsX10_leftBox ({ frames := 0, cells := 0, slots := 0, locals := 0 })).room s m #[.ref (y 0)] below meth c H locs 0 0 (MQ below (va_Qi (fun (res : Int32) (u : Unit) => res = rv) (BU D (TYS cy) (YW y cy S) (fun _ => YW y cy S) s.heap.size) (va_A (YW y cy S) s.heap.size)) #[.ref (y 0)] s 0 0 (va_A (YW y cy S) s.heap.size)) (F0 m 28 ls [])) → ∀ (fu : Nat) (v1 : Int32) (H : Heap) (locs : List Loc) (ls : Array Slot), gX10_leftBox_2 S K fu v1 = some rv → va_P D vwCl (YW y cy S) H → va_D (va_A (YW y cy S) s.heap.size) (YW y cy S) → va_S (va_A (YW y cy S) s.heap.size) s.heap H locs → lv_has ls 2 [(1, .int v1), (0, .ref (y 0))] → W p l e (headSpec wsX10_leftBox ({ frames := 0, cells := 0, slots := 0, locals := 0 })).room s m #[.ref (y 0)] below meth c H locs 0 0 (MQ below (va_Qi (fun (res : Int32) (u : Unit) => res = rv) (BU D (TYS cy) (YW y cy S) (fun _ => YW y cy S) s.heap.size) (va_A (YW y cy S) s.heap.size)) #[.ref (y 0)] s 0 0 (va_A (YW y cy S) s.heap.size)) (F0 m 2 ls []) := by
    intro K hKK fu
    induction fu with
    | zero =>
      intro v1 H locs ls hF
      exact absurd (show (none : Option (Int32)) = some rv from hF) (by simp)
    | succ fu2 ih2 =>
      intro v1 H locs ls hF hP hD hS hl
      rw [gX10_leftBox_2] at hF
      refine lv_iload_n hx hb dX10_leftBox_2 rfl (lv_at hl 0 rfl) ?_
      refine lv_aload_n hx hb dX10_leftBox_3 rfl (lv_at hl 1 rfl) ?_
      refine va_get (D := D) (ci := 10) (v := .int (S 0 2)) (C := RX10) (T := TX10) (N := 58) hx hb hts iX10_leftBox_10 hown hK hP 0 rfl rfl 2 (by decide) (hts (.fieldLink RX10 160 "FondsRoomModel" "boxes" "I") (List.mem_of_getElem? (i := 1) rfl)) (fun _ h9 => h9) rfl dX10_leftBox_4 ?_
      refine lv_icmp_ge (tgt := 28) hx hb dX10_leftBox_7 (by decide) (fun c1 => ?_) (fun c1 => ?_)
      · skip
        have hF := (if_pos c1).symm.trans hF
        exact hKK   _ _ _ hF hP hD hS (lv_sub hl [] rfl)
      · skip
        have hF := (if_neg c1).symm.trans hF
        refine lv_aload_n hx hb dX10_leftBox_10 rfl (lv_at hl 1 rfl) ?_
        refine va_get (D := D) (ci := 10) (v := .ref (y 5)) (C := RX10) (T := TX10) (N := 58) hx hb hts iX10_leftBox_10 hown hK hP 0 rfl rfl 13 (by decide) (hts (.fieldLink RX10 36 "FondsRoomModel" "place" "[I") (List.mem_of_getElem? (i := 2) rfl)) (fun _ h9 => h9) rfl dX10_leftBox_11 ?_
        refine lv_iload_n hx hb dX10_leftBox_14 rfl (lv_at hl 0 rfl) ?_
        obtain ⟨hi3, hF⟩ := ld_s hF
        refine va_iald hx hb hK hP 5 0 rfl rfl hi3 dX10_leftBox_15 ?_
        refine lv_topi (fun y2 ey2 => ?_)
        replace hF := hF y2 ey2
        refine lv_iconst (v := 2) hx hb dX10_leftBox_16 (by decide) ?_
        refine lv_icmp_ne (tgt := 22) hx hb dX10_leftBox_17 (by decide) (fun c4 => ?_) (fun c4 => ?_)
        · skip
          have hF := (if_neg c4).symm.trans hF
          refine lv_iinc (v := v1 + 1) (lv' := [(1, .int (v1 + 1)), (0, .ref (y 0))]) hx hb dX10_leftBox_22 hl (k := 0) rfl rfl (by decide) rfl (fun ls hl => ?_)
          refine lv_goto (tgt := 2) hx hb dX10_leftBox_25 (by decide) ?_
          exact ih2 (v1 + 1)  _ _ _ hF hP hD hS (lv_sub hl [0, 1] rfl)
        · skip
          have hF := (if_pos c4).symm.trans hF
          refine lv_iload_n hx hb dX10_leftBox_20 rfl (lv_at hl 0 rfl) ?_
          have e1 := Option.some.inj hF
          exact W.iret (v := v1) hx hb hr (fun t ht hW => ⟨⟨v1, (), rfl, e1, by rw [ht]; exact hP, va_K.moved hW.alike hK, hD⟩, hS.F ht⟩) hS.2.2 dX10_leftBox_21
  have hl := lv_entry ([.ref (y 0)]) (n := 2) (Nat.le_of_ble_eq_true rfl)
  rw [lg_entry_eq]
  generalize (lg_sl ([.ref (y 0)]) ++ List.replicate (2 - (lg_sl ([.ref (y 0)])).length) Slot.unset).toArray = ls at hl ⊢
  have hl : lv_has ls 2 [(0, .ref (y 0))] := hl
  unfold gX10_leftBox at hF
  refine lv_iconst (v := 0) hx hb dX10_leftBox_0 (by decide) ?_
  refine lv_istore_n (lv' := [(1, .int 0), (0, .ref (y 0))]) hx hb dX10_leftBox_1 rfl hl (by decide) rfl (fun ls hl => ?_)
  refine key2 _ ?_ 1000 0  _ _ _ hF hP hD hS (lv_sub hl [0, 1] rfl)
  intro  H locs ls hF hP hD hS hl
  refine lv_iconst (v := (-1)) hx hb dX10_leftBox_28 (by decide) ?_
  have e1 := Option.some.inj hF
  exact W.iret (v := (-1)) hx hb hr (fun t ht hW => ⟨⟨(-1), (), rfl, e1, by rw [ht]; exact hP, va_K.moved hW.alike hK, hD⟩, hS.F ht⟩) hS.2.2 dX10_leftBox_29

theorem iX10_wantedBox_10 : ∀ w ∈ wsX100, w ∈ wsX10_wantedBox := fun _ h => List.mem_cons_of_mem _ (List.mem_append_right _ h)
set_option maxHeartbeats 8000000 in
set_option maxRecDepth 100000 in
theorem zX10_wantedBox (l : Launch) (D : va_G) (y : Nat → Nat) (cy : Nat → ClassId) (S : RS) (sz : Nat) (rv : Int32) (hF : gX10_wantedBox S  = some rv) : Met l yX10_wantedBox wsX10_wantedBox ({ frames := 0, cells := 0, slots := 0, locals := 0 }) (PW D (TYS cy) (YW y cy S) sz [.ref (y 0)]) (va_Qi (fun (res : Int32) (u : Unit) => res = rv) (BU D (TYS cy) (YW y cy S) (fun _ => YW y cy S) sz) (va_A (YW y cy S) sz)) 0 0 (va_A (YW y cy S) sz) := by
  refine Met.ofW (cc := cX10_wantedBox) (maxL := 3) (ret := (some .int)) (by decide) rfl ?_
  intro p e s m args below meth c s₁ B hml hv
  obtain ⟨rfl, hsz, hP, hK, hD0⟩ := hv
  have hx := B.exec
  have hb := B.bytes
  have hr := B.returns
  have hts := atoms_spec (ws := wsX10_wantedBox) B.pre
  have hown : s.vm.findClass RX10 = some m.cls := findClass_of_methodNamed B.named
  have hlocks := B.notSynchronized
  subst hsz
  have hD := hD0.self (sz := s.heap.size)
  have hA : ∀ q9 : Nat, s.heap.size ≤ q9 → va_A (YW y cy S) s.heap.size q9 := fun q9 h => Or.inr h
  have hS : va_S (va_A (YW y cy S) s.heap.size) s.heap s.heap [] := va_S.rf
  have key4 : ∀ (K : Int32 → Option (Int32)), (∀ (v1 : Int32) (H : Heap) (locs : List Loc) (ls : Array Slot), K v1 = some rv → va_P D vwCl (YW y cy S) H → va_D (va_A (YW y cy S) s.heap.size) (YW y cy S) → va_S (va_A (YW y cy S) s.heap.size) s.heap H locs → lv_has ls 3 [(1, .int v1)] → W p l e (headSpec wsX10_wantedBox ({ frames := 0, cells := 0, slots := 0, locals := 0 })).room s m #[.ref (y 0)] below meth c H locs 0 0 (MQ below (va_Qi (fun (res : Int32) (u : Unit) => res = rv) (BU D (TYS cy) (YW y cy S) (fun _ => YW y cy S) s.heap.size) (va_A (YW y cy S) s.heap.size)) #[.ref (y 0)] s 0 0 (va_A (YW y cy S) s.heap.size)) (F0 m 59 ls [])) → ∀ (fu : Nat) (v1 : Int32) (v2 : Int32) (H : Heap) (locs : List Loc) (ls : Array Slot), gX10_wantedBox_4 S K fu v1 v2 = some rv → va_P D vwCl (YW y cy S) H → va_D (va_A (YW y cy S) s.heap.size) (YW y cy S) → va_S (va_A (YW y cy S) s.heap.size) s.heap H locs → lv_has ls 3 [(1, .int v1), (2, .int v2), (0, .ref (y 0))] → W p l e (headSpec wsX10_wantedBox ({ frames := 0, cells := 0, slots := 0, locals := 0 })).room s m #[.ref (y 0)] below meth c H locs 0 0 (MQ below (va_Qi (fun (res : Int32) (u : Unit) => res = rv) (BU D (TYS cy) (YW y cy S) (fun _ => YW y cy S) s.heap.size) (va_A (YW y cy S) s.heap.size)) #[.ref (y 0)] s 0 0 (va_A (YW y cy S) s.heap.size)) (F0 m 4 ls []) := by
    intro K hKK fu
    induction fu with
    | zero =>
      intro v1 v2 H locs ls hF
      exact absurd (show (none : Option (Int32)) = some rv from hF) (by simp)
    | succ fu4 ih4 =>
      intro v1 v2 H locs ls hF hP hD hS hl
      rw [gX10_wantedBox_4] at hF
      refine lv_iload_n hx hb dX10_wantedBox_4 rfl (lv_at hl 1 rfl) ?_
      refine lv_aload_n hx hb dX10_wantedBox_5 rfl (lv_at hl 2 rfl) ?_
      refine va_get (D := D) (ci := 10) (v := .int (S 0 2)) (C := RX10) (T := TX10) (N := 58) hx hb hts iX10_wantedBox_10 hown hK hP 0 rfl rfl 2 (by decide) (hts (.fieldLink RX10 160 "FondsRoomModel" "boxes" "I") (List.mem_of_getElem? (i := 1) rfl)) (fun _ h9 => h9) rfl dX10_wantedBox_6 ?_
      refine lv_icmp_ge (tgt := 59) hx hb dX10_wantedBox_9 (by decide) (fun c1 => ?_) (fun c1 => ?_)
      · skip
        have hF := (if_pos c1).symm.trans hF
        exact hKK v1  _ _ _ hF hP hD hS (lv_sub hl [0] rfl)
      · skip
        have hF := (if_neg c1).symm.trans hF
        refine lv_aload_n hx hb dX10_wantedBox_12 rfl (lv_at hl 2 rfl) ?_
        refine va_get (D := D) (ci := 10) (v := .ref (y 5)) (C := RX10) (T := TX10) (N := 58) hx hb hts iX10_wantedBox_10 hown hK hP 0 rfl rfl 13 (by decide) (hts (.fieldLink RX10 36 "FondsRoomModel" "place" "[I") (List.mem_of_getElem? (i := 2) rfl)) (fun _ h9 => h9) rfl dX10_wantedBox_13 ?_
        refine lv_iload_n hx hb dX10_wantedBox_16 rfl (lv_at hl 1 rfl) ?_
        obtain ⟨hi3, hF⟩ := ld_s hF
        refine va_iald hx hb hK hP 5 0 rfl rfl hi3 dX10_wantedBox_17 ?_
        refine lv_topi (fun y2 ey2 => ?_)
        replace hF := hF y2 ey2
        refine lv_if_ne (tgt := 53) hx hb dX10_wantedBox_18 (by decide) (fun c4 => ?_) (fun c4 => ?_)
        · skip
          have hF := (if_neg c4).symm.trans hF
          refine lv_iinc (v := v2 + 1) (lv' := [(2, .int (v2 + 1)), (1, .int v1), (0, .ref (y 0))]) hx hb dX10_wantedBox_53 hl (k := 1) rfl rfl (by decide) rfl (fun ls hl => ?_)
          refine lv_goto (tgt := 4) hx hb dX10_wantedBox_56 (by decide) ?_
          exact ih4 v1 (v2 + 1)  _ _ _ hF hP hD hS (lv_sub hl [1, 0, 2] rfl)
        · skip
          have hF := (if_pos c4).symm.trans hF
          refine lv_aload_n hx hb dX10_wantedBox_21 rfl (lv_at hl 2 rfl) ?_
          refine va_get (D := D) (ci := 10) (v := .ref (y 7)) (C := RX10) (T := TX10) (N := 58) hx hb hts iX10_wantedBox_10 hown hK hP 0 rfl rfl 15 (by decide) (hts (.fieldLink RX10 42 "FondsRoomModel" "ticket" "[I") (List.mem_of_getElem? (i := 3) rfl)) (fun _ h9 => h9) rfl dX10_wantedBox_22 ?_
          refine lv_iload_n hx hb dX10_wantedBox_25 rfl (lv_at hl 1 rfl) ?_
          obtain ⟨hi6, hF⟩ := ld_s hF
          refine va_iald hx hb hK hP 7 0 rfl rfl hi6 dX10_wantedBox_26 ?_
          refine lv_topi (fun y5 ey5 => ?_)
          replace hF := hF y5 ey5
          refine lv_iconst (v := (-1)) hx hb dX10_wantedBox_27 (by decide) ?_
          refine lv_icmp_eq (tgt := 53) hx hb dX10_wantedBox_28 (by decide) (fun c7 => ?_) (fun c7 => ?_)
          · skip
            have hF := (if_pos c7).symm.trans hF
            refine lv_iinc (v := v2 + 1) (lv' := [(2, .int (v2 + 1)), (1, .int v1), (0, .ref (y 0))]) hx hb dX10_wantedBox_53 hl (k := 1) rfl rfl (by decide) rfl (fun ls hl => ?_)
            refine lv_goto (tgt := 4) hx hb dX10_wantedBox_56 (by decide) ?_
            exact ih4 v1 (v2 + 1)  _ _ _ hF hP hD hS (lv_sub hl [1, 0, 2] rfl)
          · skip
            have hF := (if_neg c7).symm.trans hF
            refine lv_iload_n hx hb dX10_wantedBox_31 rfl (lv_at hl 0 rfl) ?_
            refine lv_iconst (v := (-1)) hx hb dX10_wantedBox_32 (by decide) ?_
            refine lv_icmp_eq (tgt := 51) hx hb dX10_wantedBox_33 (by decide) (fun c8 => ?_) (fun c8 => ?_)
            · skip
              have hF := (if_pos c8).symm.trans hF
              refine lv_iload_n hx hb dX10_wantedBox_51 rfl (lv_at hl 1 rfl) ?_
              refine lv_istore_n (lv' := [(1, .int v2), (2, .int v2), (0, .ref (y 0))]) hx hb dX10_wantedBox_52 rfl hl (by decide) rfl (fun ls hl => ?_)
              refine lv_iinc (v := v2 + 1) (lv' := [(2, .int (v2 + 1)), (1, .int v2), (0, .ref (y 0))]) hx hb dX10_wantedBox_53 hl (k := 1) rfl rfl (by decide) rfl (fun ls hl => ?_)
              refine lv_goto (tgt := 4) hx hb dX10_wantedBox_56 (by decide) ?_
              exact ih4 v2 (v2 + 1)  _ _ _ hF hP hD hS (lv_sub hl [1, 0, 2] rfl)
            · skip
              have hF := (if_neg c8).symm.trans hF
              refine lv_aload_n hx hb dX10_wantedBox_36 rfl (lv_at hl 2 rfl) ?_
              refine va_get (D := D) (ci := 10) (v := .ref (y 8)) (C := RX10) (T := TX10) (N := 58) hx hb hts iX10_wantedBox_10 hown hK hP 0 rfl rfl 16 (by decide) (hts (.fieldLink RX10 45 "FondsRoomModel" "ticketAt" "[I") (List.mem_of_getElem? (i := 4) rfl)) (fun _ h9 => h9) rfl dX10_wantedBox_37 ?_
              refine lv_iload_n hx hb dX10_wantedBox_40 rfl (lv_at hl 1 rfl) ?_
              obtain ⟨hi10, hF⟩ := ld_s hF
              refine va_iald hx hb hK hP 8 0 rfl rfl hi10 dX10_wantedBox_41 ?_
              refine lv_topi (fun y9 ey9 => ?_)
              replace hF := hF y9 ey9
              refine lv_aload_n hx hb dX10_wantedBox_42 rfl (lv_at hl 2 rfl) ?_
              refine va_get (D := D) (ci := 10) (v := .ref (y 8)) (C := RX10) (T := TX10) (N := 58) hx hb hts iX10_wantedBox_10 hown hK hP 0 rfl rfl 16 (by decide) (hts (.fieldLink RX10 45 "FondsRoomModel" "ticketAt" "[I") (List.mem_of_getElem? (i := 4) rfl)) (fun _ h9 => h9) rfl dX10_wantedBox_43 ?_
              refine lv_iload_n hx hb dX10_wantedBox_46 rfl (lv_at hl 0 rfl) ?_
              obtain ⟨hi12, hF⟩ := ld_s hF
              refine va_iald hx hb hK hP 8 0 rfl rfl hi12 dX10_wantedBox_47 ?_
              refine lv_topi (fun y11 ey11 => ?_)
              replace hF := hF y11 ey11
              refine lv_icmp_ge (tgt := 53) hx hb dX10_wantedBox_48 (by decide) (fun c13 => ?_) (fun c13 => ?_)
              · skip
                have hF := (if_pos c13).symm.trans hF
                refine lv_iinc (v := v2 + 1) (lv' := [(2, .int (v2 + 1)), (1, .int v1), (0, .ref (y 0))]) hx hb dX10_wantedBox_53 hl (k := 1) rfl rfl (by decide) rfl (fun ls hl => ?_)
                refine lv_goto (tgt := 4) hx hb dX10_wantedBox_56 (by decide) ?_
                exact ih4 v1 (v2 + 1)  _ _ _ hF hP hD hS (lv_sub hl [1, 0, 2] rfl)
              · skip
                have hF := (if_neg c13).symm.trans hF
                refine lv_iload_n hx hb dX10_wantedBox_51 rfl (lv_at hl 1 rfl) ?_
                refine lv_istore_n (lv' := [(1, .int v2), (2, .int v2), (0, .ref (y 0))]) hx hb dX10_wantedBox_52 rfl hl (by decide) rfl (fun ls hl => ?_)
                refine lv_iinc (v := v2 + 1) (lv' := [(2, .int (v2 + 1)), (1, .int v2), (0, .ref (y 0))]) hx hb dX10_wantedBox_53 hl (k := 1) rfl rfl (by decide) rfl (fun ls hl => ?_)
                refine lv_goto (tgt := 4) hx hb dX10_wantedBox_56 (by decide) ?_
                exact ih4 v2 (v2 + 1)  _ _ _ hF hP hD hS (lv_sub hl [1, 0, 2] rfl)
  have hl := lv_entry ([.ref (y 0)]) (n := 3) (Nat.le_of_ble_eq_true rfl)
  rw [lg_entry_eq]
  generalize (lg_sl ([.ref (y 0)]) ++ List.replicate (3 - (lg_sl ([.ref (y 0)])).length) Slot.unset).toArray = ls at hl ⊢
  have hl : lv_has ls 3 [(0, .ref (y 0))] := hl
  unfold gX10_wantedBox at hF
  refine lv_iconst (v := (-1)) hx hb dX10_wantedBox_0 (by decide) ?_
  refine lv_istore_n (lv' := [(1, .int (-1)), (0, .ref (y 0))]) hx hb dX10_wantedBox_1 rfl hl (by decide) rfl (fun ls hl => ?_)
  refine lv_iconst (v := 0) hx hb dX10_wantedBox_2 (by decide) ?_
  refine lv_istore_n (lv' := [(2, .int 0), (1, .int (-1)), (0, .ref (y 0))]) hx hb dX10_wantedBox_3 rfl hl (by decide) rfl (fun ls hl => ?_)
  refine key4 _ ?_ 1000 (-1) 0  _ _ _ hF hP hD hS (lv_sub hl [1, 0, 2] rfl)
  intro v1_14 H locs ls hF hP hD hS hl
  refine lv_iload_n hx hb dX10_wantedBox_59 rfl (lv_at hl 0 rfl) ?_
  have e1 := Option.some.inj hF
  exact W.iret (v := v1_14) hx hb hr (fun t ht hW => ⟨⟨v1_14, (), rfl, e1, by rw [ht]; exact hP, va_K.moved hW.alike hK, hD⟩, hS.F ht⟩) hS.2.2 dX10_wantedBox_60

theorem iX10_doWays_10 : ∀ w ∈ wsX100, w ∈ wsX10_doWays := fun _ h => List.mem_cons_of_mem _ (List.mem_append_right _ h)
set_option maxHeartbeats 8000000 in
set_option maxRecDepth 100000 in
theorem zX10_doWays (l : Launch) (D : va_G) (y : Nat → Nat) (cy : Nat → ClassId) (S0 : RS) (sz : Nat) (Sf : RS) (hF : gX10_doWays S0  = some Sf) : Met l yX10_doWays wsX10_doWays ({ frames := 1, cells := 0, slots := 0, locals := 22 }) (PW D (TYS cy) (YW y cy S0) sz [.ref (y 0)]) (va_Qv (fun (u : Unit) => True) (BU D (TYS cy) (YW y cy S0) (fun _ => YW y cy Sf) sz) (va_A (YW y cy S0) sz)) 0 0 (va_A (YW y cy S0) sz) := by
  refine Met.ofW (cc := cX10_doWays) (maxL := 4) (ret := none) (by decide) rfl ?_
  intro p e s m args below meth c s₁ B hml hv
  obtain ⟨rfl, hsz, hP, hK, hD0⟩ := hv
  have hx := B.exec
  have hb := B.bytes
  have hr := B.returns
  have hts := atoms_spec (ws := wsX10_doWays) B.pre
  have hown : s.vm.findClass RX10 = some m.cls := findClass_of_methodNamed B.named
  have hlocks := B.notSynchronized
  subst hsz
  have hD := hD0.self (sz := s.heap.size)
  have hA : ∀ q9 : Nat, s.heap.size ≤ q9 → va_A (YW y cy S0) s.heap.size q9 := fun q9 h => Or.inr h
  have hS : va_S (va_A (YW y cy S0) s.heap.size) s.heap s.heap [] := va_S.rf
  have key2 : ∀ (K : RS → Option (RS)), (∀  (S : RS) (H : Heap) (locs : List Loc) (ls : Array Slot), K  S = some Sf → va_P D vwCl (YW y cy S) H → va_D (va_A (YW y cy S0) s.heap.size) (YW y cy S) → va_S (va_A (YW y cy S0) s.heap.size) s.heap H locs → lv_has ls 4 [] → W p l e (headSpec wsX10_doWays ({ frames := 1, cells := 0, slots := 0, locals := 22 })).room s m #[.ref (y 0)] below meth c H locs 0 0 (MQ below (va_Qv (fun (u : Unit) => True) (BU D (TYS cy) (YW y cy S0) (fun _ => YW y cy Sf) s.heap.size) (va_A (YW y cy S0) s.heap.size)) #[.ref (y 0)] s 0 0 (va_A (YW y cy S0) s.heap.size)) (F0 m 124 ls [])) → ∀ (fu : Nat) (v1 : Int32) (S : RS) (H : Heap) (locs : List Loc) (ls : Array Slot), gX10_doWays_2 K fu v1 S = some Sf → va_P D vwCl (YW y cy S) H → va_D (va_A (YW y cy S0) s.heap.size) (YW y cy S) → va_S (va_A (YW y cy S0) s.heap.size) s.heap H locs → lv_has ls 4 [(1, .int v1), (0, .ref (y 0))] → W p l e (headSpec wsX10_doWays ({ frames := 1, cells := 0, slots := 0, locals := 22 })).room s m #[.ref (y 0)] below meth c H locs 0 0 (MQ below (va_Qv (fun (u : Unit) => True) (BU D (TYS cy) (YW y cy S0) (fun _ => YW y cy Sf) s.heap.size) (va_A (YW y cy S0) s.heap.size)) #[.ref (y 0)] s 0 0 (va_A (YW y cy S0) s.heap.size)) (F0 m 2 ls []) := by
    intro K hKK fu
    induction fu with
    | zero =>
      intro v1 S H locs ls hF
      exact absurd (show (none : Option (RS)) = some Sf from hF) (by simp)
    | succ fu2 ih2 =>
      intro v1 S H locs ls hF hP hD hS hl
      rw [gX10_doWays_2] at hF
      refine lv_iload_n hx hb dX10_doWays_2 rfl (lv_at hl 0 rfl) ?_
      refine lv_aload_n hx hb dX10_doWays_3 rfl (lv_at hl 1 rfl) ?_
      refine va_get (D := D) (ci := 10) (v := .int (S 0 7)) (C := RX10) (T := TX10) (N := 58) hx hb hts iX10_doWays_10 hown hK hP 0 rfl rfl 7 (by decide) (hts (.fieldLink RX10 16 "FondsRoomModel" "fetchers" "I") (List.mem_of_getElem? (i := 1) rfl)) (fun _ h9 => h9) rfl dX10_doWays_4 ?_
      refine lv_icmp_ge (tgt := 124) hx hb dX10_doWays_7 (by decide) (fun c1 => ?_) (fun c1 => ?_)
      · skip
        have hF := (if_pos c1).symm.trans hF
        exact hKK  S _ _ _ hF hP hD hS (lv_sub hl [] rfl)
      · skip
        have hF := (if_neg c1).symm.trans hF
        refine lv_aload_n hx hb dX10_doWays_10 rfl (lv_at hl 1 rfl) ?_
        refine va_get (D := D) (ci := 10) (v := .ref (y 30)) (C := RX10) (T := TX10) (N := 58) hx hb hts iX10_doWays_10 hown hK hP 0 rfl rfl 42 (by decide) (hts (.fieldLink RX10 111 "FondsRoomModel" "fBox" "[I") (List.mem_of_getElem? (i := 2) rfl)) (fun _ h9 => h9) rfl dX10_doWays_11 ?_
        refine lv_iload_n hx hb dX10_doWays_14 rfl (lv_at hl 0 rfl) ?_
        obtain ⟨hi3, hF⟩ := ld_s hF
        refine va_iald hx hb hK hP 30 0 rfl rfl hi3 dX10_doWays_15 ?_
        refine lv_topi (fun y2 ey2 => ?_)
        replace hF := hF y2 ey2
        refine lv_iconst (v := (-1)) hx hb dX10_doWays_16 (by decide) ?_
        refine lv_icmp_eq (tgt := 23) hx hb dX10_doWays_17 (by decide) (fun c4 => ?_) (fun c4 => ?_)
        · skip
          have hF := (if_pos c4).symm.trans hF
          refine lv_aload_n hx hb dX10_doWays_23 rfl (lv_at hl 1 rfl) ?_
          obtain ⟨r5, hq8, hF⟩ := bd1_s hF
          refine gvI (As := []) (rest := []) ⟨hx, hb, hml, hown, hts⟩ (zX10_leftBox l D y cy S _  r5 hq8) (cwV 0 hts gX10_doWays_X10_leftBox rfl rfl rfl (by decide +kernel) ⟨Nat.le_of_ble_eq_true rfl, Nat.le_of_ble_eq_true rfl⟩) hK hP hD hS hA (va_recv hK hP (ci := 10) (q0 := 0) rfl rfl) rfl hl.1 rfl (Nat.le_of_ble_eq_true rfl) dX10_doWays_24 ⟨Nat.le_of_ble_eq_true rfl, Nat.le_of_ble_eq_true rfl⟩ (fun a9 u9 H locs hw7 hP hD hS => ?_)
          have hP : va_P D vwCl (YW y cy S) H := hP
          have hD : va_D _ (YW y cy S) := hD
          refine lv_tov (v' := .int r5) (congrArg Value.int hw7) ?_
          refine lv_istore_n (lv' := [(2, .int r5), (1, .int v1), (0, .ref (y 0))]) hx hb dX10_doWays_27 rfl hl (by decide) rfl (fun ls hl => ?_)
          refine lv_iload_n hx hb dX10_doWays_28 rfl (lv_at hl 0 rfl) ?_
          refine lv_iconst (v := (-1)) hx hb dX10_doWays_29 (by decide) ?_
          refine lv_icmp_eq (tgt := 37) hx hb dX10_doWays_30 (by decide) (fun c10 => ?_) (fun c10 => ?_)
          · skip
            have hF := (if_pos c10).symm.trans hF
            refine lv_iconst (v := 0) hx hb dX10_doWays_37 (by decide) ?_
            refine lv_istore_n (lv' := [(3, .int 0), (2, .int r5), (1, .int v1), (0, .ref (y 0))]) hx hb dX10_doWays_38 rfl hl (by decide) rfl (fun ls hl => ?_)
            refine lv_iload_n hx hb dX10_doWays_39 rfl (lv_at hl 0 rfl) ?_
            refine lv_if_ne (tgt := 48) hx hb dX10_doWays_40 (by decide) (fun c9 => absurd (by decide) c9) (fun _ => ?_)
            refine lv_aload_n hx hb dX10_doWays_43 rfl (lv_at hl 3 rfl) ?_
            obtain ⟨r11, hq14, hF⟩ := bd1_s hF
            refine gvI (As := []) (rest := []) ⟨hx, hb, hml, hown, hts⟩ (zX10_wantedBox l D y cy S _  r11 hq14) (cwV 0 hts gX10_doWays_X10_wantedBox rfl rfl rfl (by decide +kernel) ⟨Nat.le_of_ble_eq_true rfl, Nat.le_of_ble_eq_true rfl⟩) hK hP hD hS hA (va_recv hK hP (ci := 10) (q0 := 0) rfl rfl) rfl hl.1 rfl (Nat.le_of_ble_eq_true rfl) dX10_doWays_44 ⟨Nat.le_of_ble_eq_true rfl, Nat.le_of_ble_eq_true rfl⟩ (fun a15 u9 H locs hw13 hP hD hS => ?_)
            have hP : va_P D vwCl (YW y cy S) H := hP
            have hD : va_D _ (YW y cy S) := hD
            refine lv_tov (v' := .int r11) (congrArg Value.int hw13) ?_
            refine lv_istore_n (lv' := [(2, .int r11), (3, .int 0), (1, .int v1), (0, .ref (y 0))]) hx hb dX10_doWays_47 rfl hl (by decide) rfl (fun ls hl => ?_)
            refine lv_iload_n hx hb dX10_doWays_48 rfl (lv_at hl 0 rfl) ?_
            refine lv_iconst (v := (-1)) hx hb dX10_doWays_49 (by decide) ?_
            refine lv_icmp_ne (tgt := 56) hx hb dX10_doWays_50 (by decide) (fun c16 => ?_) (fun c16 => ?_)
            · skip
              have hF := (if_neg c16).symm.trans hF
              refine lv_aload_n hx hb dX10_doWays_56 rfl (lv_at hl 3 rfl) ?_
              refine va_get (D := D) (ci := 10) (v := .ref (y 5)) (C := RX10) (T := TX10) (N := 58) hx hb hts iX10_doWays_10 hown hK hP 0 rfl rfl 13 (by decide) (hts (.fieldLink RX10 36 "FondsRoomModel" "place" "[I") (List.mem_of_getElem? (i := 3) rfl)) (fun _ h9 => h9) rfl dX10_doWays_57 ?_
              refine lv_iload_n hx hb dX10_doWays_60 rfl (lv_at hl 0 rfl) ?_
              refine lv_iload_n hx hb dX10_doWays_61 rfl (lv_at hl 1 rfl) ?_
              refine lv_if_eq (tgt := 69) hx hb dX10_doWays_62 (by decide) (fun _ => ?_) (fun c9 => absurd (by decide) c9)
              refine lv_iconst (v := 3) hx hb dX10_doWays_69 (by decide) ?_
              obtain ⟨hi17, hF⟩ := sv_s hF
              refine va_iast hx hb hK hP hD hS 5 0 rfl rfl hi17 dX10_doWays_70 (fun H locs hP hD hS => ?_)
              obtain ⟨S18, eS18⟩ : ∃ z, z = wr S 5 (r11 : Int32).toNatClampNeg 3 := ⟨_, rfl⟩
              replace hF := hF S18 eS18
              have hP : va_P D vwCl (YW y cy S18) H := by rw [eS18]; exact hP
              have hD : va_D (va_A (YW y cy S0) s.heap.size) (YW y cy S18) := by rw [eS18]; exact hD
              refine lv_aload_n hx hb dX10_doWays_71 rfl (lv_at hl 3 rfl) ?_
              refine va_get (D := D) (ci := 10) (v := .ref (y 30)) (C := RX10) (T := TX10) (N := 58) hx hb hts iX10_doWays_10 hown hK hP 0 rfl rfl 42 (by decide) (hts (.fieldLink RX10 111 "FondsRoomModel" "fBox" "[I") (List.mem_of_getElem? (i := 2) rfl)) (fun _ h9 => h9) rfl dX10_doWays_72 ?_
              refine lv_iload_n hx hb dX10_doWays_75 rfl (lv_at hl 2 rfl) ?_
              refine lv_iload_n hx hb dX10_doWays_76 rfl (lv_at hl 0 rfl) ?_
              obtain ⟨hi19, hF⟩ := sv_s hF
              refine va_iast hx hb hK hP hD hS 30 0 rfl rfl hi19 dX10_doWays_77 (fun H locs hP hD hS => ?_)
              obtain ⟨S20, eS20⟩ : ∃ z, z = wr S18 30 (v1 : Int32).toNatClampNeg r11 := ⟨_, rfl⟩
              replace hF := hF S20 eS20
              have hP : va_P D vwCl (YW y cy S20) H := by rw [eS20]; exact hP
              have hD : va_D (va_A (YW y cy S0) s.heap.size) (YW y cy S20) := by rw [eS20]; exact hD
              refine lv_aload_n hx hb dX10_doWays_78 rfl (lv_at hl 3 rfl) ?_
              refine va_get (D := D) (ci := 10) (v := .ref (y 32)) (C := RX10) (T := TX10) (N := 58) hx hb hts iX10_doWays_10 hown hK hP 0 rfl rfl 44 (by decide) (hts (.fieldLink RX10 117 "FondsRoomModel" "fTo" "[I") (List.mem_of_getElem? (i := 4) rfl)) (fun _ h9 => h9) rfl dX10_doWays_79 ?_
              refine lv_iload_n hx hb dX10_doWays_82 rfl (lv_at hl 2 rfl) ?_
              refine lv_iload_n hx hb dX10_doWays_83 rfl (lv_at hl 1 rfl) ?_
              refine lv_if_eq (tgt := 91) hx hb dX10_doWays_84 (by decide) (fun _ => ?_) (fun c9 => absurd (by decide) c9)
              refine lv_aload_n hx hb dX10_doWays_91 rfl (lv_at hl 3 rfl) ?_
              refine va_get (D := D) (ci := 10) (v := .ref (y 7)) (C := RX10) (T := TX10) (N := 58) hx hb hts iX10_doWays_10 hown hK hP 0 rfl rfl 15 (by decide) (hts (.fieldLink RX10 42 "FondsRoomModel" "ticket" "[I") (List.mem_of_getElem? (i := 5) rfl)) (fun _ h9 => h9) rfl dX10_doWays_92 ?_
              refine lv_iload_n hx hb dX10_doWays_95 rfl (lv_at hl 0 rfl) ?_
              obtain ⟨hi22, hF⟩ := ld_s hF
              refine va_iald hx hb hK hP 7 0 rfl rfl hi22 dX10_doWays_96 ?_
              refine lv_topi (fun y21 ey21 => ?_)
              replace hF := hF y21 ey21
              obtain ⟨hi23, hF⟩ := sv_s hF
              refine va_iast hx hb hK hP hD hS 32 0 rfl rfl hi23 dX10_doWays_97 (fun H locs hP hD hS => ?_)
              obtain ⟨S24, eS24⟩ : ∃ z, z = wr S20 32 (v1 : Int32).toNatClampNeg y21 := ⟨_, rfl⟩
              replace hF := hF S24 eS24
              have hP : va_P D vwCl (YW y cy S24) H := by rw [eS24]; exact hP
              have hD : va_D (va_A (YW y cy S0) s.heap.size) (YW y cy S24) := by rw [eS24]; exact hD
              refine lv_aload_n hx hb dX10_doWays_98 rfl (lv_at hl 3 rfl) ?_
              refine va_get (D := D) (ci := 10) (v := .ref (y 31)) (C := RX10) (T := TX10) (N := 58) hx hb hts iX10_doWays_10 hown hK hP 0 rfl rfl 43 (by decide) (hts (.fieldLink RX10 114 "FondsRoomModel" "fLeft" "[I") (List.mem_of_getElem? (i := 6) rfl)) (fun _ h9 => h9) rfl dX10_doWays_99 ?_
              refine lv_iload_n hx hb dX10_doWays_102 rfl (lv_at hl 2 rfl) ?_
              refine lv_aload_n hx hb dX10_doWays_103 rfl (lv_at hl 3 rfl) ?_
              refine va_get (D := D) (ci := 10) (v := .int (S24 0 6)) (C := RX10) (T := TX10) (N := 58) hx hb hts iX10_doWays_10 hown hK hP 0 rfl rfl 6 (by decide) (hts (.fieldLink RX10 13 "FondsRoomModel" "way" "I") (List.mem_of_getElem? (i := 7) rfl)) (fun _ h9 => h9) rfl dX10_doWays_104 ?_
              obtain ⟨hi25, hF⟩ := sv_s hF
              refine va_iast hx hb hK hP hD hS 31 0 rfl rfl hi25 dX10_doWays_107 (fun H locs hP hD hS => ?_)
              obtain ⟨S26, eS26⟩ : ∃ z, z = wr S24 31 (v1 : Int32).toNatClampNeg (S24 0 6) := ⟨_, rfl⟩
              replace hF := hF S26 eS26
              have hP : va_P D vwCl (YW y cy S26) H := by rw [eS26]; exact hP
              have hD : va_D (va_A (YW y cy S0) s.heap.size) (YW y cy S26) := by rw [eS26]; exact hD
              refine lv_aload_n hx hb dX10_doWays_108 rfl (lv_at hl 3 rfl) ?_
              refine lv_dup hx hb dX10_doWays_109 rfl ?_
              refine va_get (D := D) (ci := 10) (v := .int (S26 0 21)) (C := RX10) (T := TX10) (N := 58) hx hb hts iX10_doWays_10 hown hK hP 0 rfl rfl 21 (by decide) (hts (.fieldLink RX10 250 "FondsRoomModel" "begun" "I") (List.mem_of_getElem? (i := 8) rfl)) (fun _ h9 => h9) rfl dX10_doWays_110 ?_
              refine lv_iconst (v := 1) hx hb dX10_doWays_113 (by decide) ?_
              refine lv_iadd hx hb dX10_doWays_114 ?_
              refine va_put (D := D) (ci := 10) (v := .int ((S26 0 21) + 1)) (ty := .int) (C := RX10) (T := TX10) (N := 58) hx hb hts iX10_doWays_10 tyX10 tyX10_ok nmX10 hown hK hP hD hS 0 rfl rfl 21 (by decide) (hts (.fieldLink RX10 250 "FondsRoomModel" "begun" "I") (List.mem_of_getElem? (i := 8) rfl)) (fun _ h9 => h9) rfl (by decide +kernel) rfl rfl (Nat.le_of_ble_eq_true rfl) dX10_doWays_115 (fun H locs hP hD hS => ?_)
              obtain ⟨S27, eS27⟩ : ∃ z, z = wr S26 0 21 ((S26 0 21) + 1) := ⟨_, rfl⟩
              replace hF := bnd_s hF S27 eS27
              have hP : va_P D vwCl (YW y cy S27) H := by rw [eS27]; exact hP
              have hD : va_D (va_A (YW y cy S0) s.heap.size) (YW y cy S27) := by rw [eS27]; exact hD
              refine lv_iinc (v := v1 + 1) (lv' := [(1, .int (v1 + 1)), (2, .int r11), (3, .int 0), (0, .ref (y 0))]) hx hb dX10_doWays_118 hl (k := 2) rfl rfl (by decide) rfl (fun ls hl => ?_)
              refine lv_goto (tgt := 2) hx hb dX10_doWays_121 (by decide) ?_
              exact ih2 (v1 + 1) S27 _ _ _ hF hP hD hS (lv_sub hl [0, 3] rfl)
            · skip
              have hF := (if_pos c16).symm.trans hF
              refine lv_goto (tgt := 118) hx hb dX10_doWays_53 (by decide) ?_
              refine lv_iinc (v := v1 + 1) (lv' := [(1, .int (v1 + 1)), (2, .int r11), (3, .int 0), (0, .ref (y 0))]) hx hb dX10_doWays_118 hl (k := 2) rfl rfl (by decide) rfl (fun ls hl => ?_)
              refine lv_goto (tgt := 2) hx hb dX10_doWays_121 (by decide) ?_
              exact ih2 (v1 + 1) S _ _ _ hF hP hD hS (lv_sub hl [0, 3] rfl)
          · skip
            have hF := (if_neg c10).symm.trans hF
            refine lv_iconst (v := 1) hx hb dX10_doWays_33 (by decide) ?_
            refine lv_goto (tgt := 38) hx hb dX10_doWays_34 (by decide) ?_
            refine lv_istore_n (lv' := [(3, .int 1), (2, .int r5), (1, .int v1), (0, .ref (y 0))]) hx hb dX10_doWays_38 rfl hl (by decide) rfl (fun ls hl => ?_)
            refine lv_iload_n hx hb dX10_doWays_39 rfl (lv_at hl 0 rfl) ?_
            refine lv_if_ne (tgt := 48) hx hb dX10_doWays_40 (by decide) (fun _ => ?_) (fun c9 => absurd c9 (by decide))
            refine lv_iload_n hx hb dX10_doWays_48 rfl (lv_at hl 1 rfl) ?_
            refine lv_iconst (v := (-1)) hx hb dX10_doWays_49 (by decide) ?_
            refine lv_icmp_ne (tgt := 56) hx hb dX10_doWays_50 (by decide) (fun c28 => ?_) (fun c28 => ?_)
            · skip
              have hF := (if_neg c28).symm.trans hF
              refine lv_aload_n hx hb dX10_doWays_56 rfl (lv_at hl 3 rfl) ?_
              refine va_get (D := D) (ci := 10) (v := .ref (y 5)) (C := RX10) (T := TX10) (N := 58) hx hb hts iX10_doWays_10 hown hK hP 0 rfl rfl 13 (by decide) (hts (.fieldLink RX10 36 "FondsRoomModel" "place" "[I") (List.mem_of_getElem? (i := 3) rfl)) (fun _ h9 => h9) rfl dX10_doWays_57 ?_
              refine lv_iload_n hx hb dX10_doWays_60 rfl (lv_at hl 1 rfl) ?_
              refine lv_iload_n hx hb dX10_doWays_61 rfl (lv_at hl 0 rfl) ?_
              refine lv_if_eq (tgt := 69) hx hb dX10_doWays_62 (by decide) (fun c9 => absurd c9 (by decide)) (fun _ => ?_)
              refine lv_iconst (v := 4) hx hb dX10_doWays_65 (by decide) ?_
              refine lv_goto (tgt := 70) hx hb dX10_doWays_66 (by decide) ?_
              obtain ⟨hi29, hF⟩ := sv_s hF
              refine va_iast hx hb hK hP hD hS 5 0 rfl rfl hi29 dX10_doWays_70 (fun H locs hP hD hS => ?_)
              obtain ⟨S30, eS30⟩ : ∃ z, z = wr S 5 (r5 : Int32).toNatClampNeg 4 := ⟨_, rfl⟩
              replace hF := hF S30 eS30
              have hP : va_P D vwCl (YW y cy S30) H := by rw [eS30]; exact hP
              have hD : va_D (va_A (YW y cy S0) s.heap.size) (YW y cy S30) := by rw [eS30]; exact hD
              refine lv_aload_n hx hb dX10_doWays_71 rfl (lv_at hl 3 rfl) ?_
              refine va_get (D := D) (ci := 10) (v := .ref (y 30)) (C := RX10) (T := TX10) (N := 58) hx hb hts iX10_doWays_10 hown hK hP 0 rfl rfl 42 (by decide) (hts (.fieldLink RX10 111 "FondsRoomModel" "fBox" "[I") (List.mem_of_getElem? (i := 2) rfl)) (fun _ h9 => h9) rfl dX10_doWays_72 ?_
              refine lv_iload_n hx hb dX10_doWays_75 rfl (lv_at hl 2 rfl) ?_
              refine lv_iload_n hx hb dX10_doWays_76 rfl (lv_at hl 1 rfl) ?_
              obtain ⟨hi31, hF⟩ := sv_s hF
              refine va_iast hx hb hK hP hD hS 30 0 rfl rfl hi31 dX10_doWays_77 (fun H locs hP hD hS => ?_)
              obtain ⟨S32, eS32⟩ : ∃ z, z = wr S30 30 (v1 : Int32).toNatClampNeg r5 := ⟨_, rfl⟩
              replace hF := hF S32 eS32
              have hP : va_P D vwCl (YW y cy S32) H := by rw [eS32]; exact hP
              have hD : va_D (va_A (YW y cy S0) s.heap.size) (YW y cy S32) := by rw [eS32]; exact hD
              refine lv_aload_n hx hb dX10_doWays_78 rfl (lv_at hl 3 rfl) ?_
              refine va_get (D := D) (ci := 10) (v := .ref (y 32)) (C := RX10) (T := TX10) (N := 58) hx hb hts iX10_doWays_10 hown hK hP 0 rfl rfl 44 (by decide) (hts (.fieldLink RX10 117 "FondsRoomModel" "fTo" "[I") (List.mem_of_getElem? (i := 4) rfl)) (fun _ h9 => h9) rfl dX10_doWays_79 ?_
              refine lv_iload_n hx hb dX10_doWays_82 rfl (lv_at hl 2 rfl) ?_
              refine lv_iload_n hx hb dX10_doWays_83 rfl (lv_at hl 0 rfl) ?_
              refine lv_if_eq (tgt := 91) hx hb dX10_doWays_84 (by decide) (fun c9 => absurd c9 (by decide)) (fun _ => ?_)
              refine lv_iconst (v := (-1)) hx hb dX10_doWays_87 (by decide) ?_
              refine lv_goto (tgt := 97) hx hb dX10_doWays_88 (by decide) ?_
              obtain ⟨hi33, hF⟩ := sv_s hF
              refine va_iast hx hb hK hP hD hS 32 0 rfl rfl hi33 dX10_doWays_97 (fun H locs hP hD hS => ?_)
              obtain ⟨S34, eS34⟩ : ∃ z, z = wr S32 32 (v1 : Int32).toNatClampNeg (-1) := ⟨_, rfl⟩
              replace hF := hF S34 eS34
              have hP : va_P D vwCl (YW y cy S34) H := by rw [eS34]; exact hP
              have hD : va_D (va_A (YW y cy S0) s.heap.size) (YW y cy S34) := by rw [eS34]; exact hD
              refine lv_aload_n hx hb dX10_doWays_98 rfl (lv_at hl 3 rfl) ?_
              refine va_get (D := D) (ci := 10) (v := .ref (y 31)) (C := RX10) (T := TX10) (N := 58) hx hb hts iX10_doWays_10 hown hK hP 0 rfl rfl 43 (by decide) (hts (.fieldLink RX10 114 "FondsRoomModel" "fLeft" "[I") (List.mem_of_getElem? (i := 6) rfl)) (fun _ h9 => h9) rfl dX10_doWays_99 ?_
              refine lv_iload_n hx hb dX10_doWays_102 rfl (lv_at hl 2 rfl) ?_
              refine lv_aload_n hx hb dX10_doWays_103 rfl (lv_at hl 3 rfl) ?_
              refine va_get (D := D) (ci := 10) (v := .int (S34 0 6)) (C := RX10) (T := TX10) (N := 58) hx hb hts iX10_doWays_10 hown hK hP 0 rfl rfl 6 (by decide) (hts (.fieldLink RX10 13 "FondsRoomModel" "way" "I") (List.mem_of_getElem? (i := 7) rfl)) (fun _ h9 => h9) rfl dX10_doWays_104 ?_
              obtain ⟨hi35, hF⟩ := sv_s hF
              refine va_iast hx hb hK hP hD hS 31 0 rfl rfl hi35 dX10_doWays_107 (fun H locs hP hD hS => ?_)
              obtain ⟨S36, eS36⟩ : ∃ z, z = wr S34 31 (v1 : Int32).toNatClampNeg (S34 0 6) := ⟨_, rfl⟩
              replace hF := hF S36 eS36
              have hP : va_P D vwCl (YW y cy S36) H := by rw [eS36]; exact hP
              have hD : va_D (va_A (YW y cy S0) s.heap.size) (YW y cy S36) := by rw [eS36]; exact hD
              refine lv_aload_n hx hb dX10_doWays_108 rfl (lv_at hl 3 rfl) ?_
              refine lv_dup hx hb dX10_doWays_109 rfl ?_
              refine va_get (D := D) (ci := 10) (v := .int (S36 0 21)) (C := RX10) (T := TX10) (N := 58) hx hb hts iX10_doWays_10 hown hK hP 0 rfl rfl 21 (by decide) (hts (.fieldLink RX10 250 "FondsRoomModel" "begun" "I") (List.mem_of_getElem? (i := 8) rfl)) (fun _ h9 => h9) rfl dX10_doWays_110 ?_
              refine lv_iconst (v := 1) hx hb dX10_doWays_113 (by decide) ?_
              refine lv_iadd hx hb dX10_doWays_114 ?_
              refine va_put (D := D) (ci := 10) (v := .int ((S36 0 21) + 1)) (ty := .int) (C := RX10) (T := TX10) (N := 58) hx hb hts iX10_doWays_10 tyX10 tyX10_ok nmX10 hown hK hP hD hS 0 rfl rfl 21 (by decide) (hts (.fieldLink RX10 250 "FondsRoomModel" "begun" "I") (List.mem_of_getElem? (i := 8) rfl)) (fun _ h9 => h9) rfl (by decide +kernel) rfl rfl (Nat.le_of_ble_eq_true rfl) dX10_doWays_115 (fun H locs hP hD hS => ?_)
              obtain ⟨S37, eS37⟩ : ∃ z, z = wr S36 0 21 ((S36 0 21) + 1) := ⟨_, rfl⟩
              replace hF := bnd_s hF S37 eS37
              have hP : va_P D vwCl (YW y cy S37) H := by rw [eS37]; exact hP
              have hD : va_D (va_A (YW y cy S0) s.heap.size) (YW y cy S37) := by rw [eS37]; exact hD
              refine lv_iinc (v := v1 + 1) (lv' := [(1, .int (v1 + 1)), (3, .int 1), (2, .int r5), (0, .ref (y 0))]) hx hb dX10_doWays_118 hl (k := 2) rfl rfl (by decide) rfl (fun ls hl => ?_)
              refine lv_goto (tgt := 2) hx hb dX10_doWays_121 (by decide) ?_
              exact ih2 (v1 + 1) S37 _ _ _ hF hP hD hS (lv_sub hl [0, 3] rfl)
            · skip
              have hF := (if_pos c28).symm.trans hF
              refine lv_goto (tgt := 118) hx hb dX10_doWays_53 (by decide) ?_
              refine lv_iinc (v := v1 + 1) (lv' := [(1, .int (v1 + 1)), (3, .int 1), (2, .int r5), (0, .ref (y 0))]) hx hb dX10_doWays_118 hl (k := 2) rfl rfl (by decide) rfl (fun ls hl => ?_)
              refine lv_goto (tgt := 2) hx hb dX10_doWays_121 (by decide) ?_
              exact ih2 (v1 + 1) S _ _ _ hF hP hD hS (lv_sub hl [0, 3] rfl)
        · skip
          have hF := (if_neg c4).symm.trans hF
          refine lv_goto (tgt := 118) hx hb dX10_doWays_20 (by decide) ?_
          refine lv_iinc (v := v1 + 1) (lv' := [(1, .int (v1 + 1)), (0, .ref (y 0))]) hx hb dX10_doWays_118 hl (k := 0) rfl rfl (by decide) rfl (fun ls hl => ?_)
          refine lv_goto (tgt := 2) hx hb dX10_doWays_121 (by decide) ?_
          exact ih2 (v1 + 1) S _ _ _ hF hP hD hS (lv_sub hl [0, 1] rfl)
  have hl := lv_entry ([.ref (y 0)]) (n := 4) (Nat.le_of_ble_eq_true rfl)
  rw [lg_entry_eq]
  generalize (lg_sl ([.ref (y 0)]) ++ List.replicate (4 - (lg_sl ([.ref (y 0)])).length) Slot.unset).toArray = ls at hl ⊢
  have hl : lv_has ls 4 [(0, .ref (y 0))] := hl
  unfold gX10_doWays at hF
  refine lv_iconst (v := 0) hx hb dX10_doWays_0 (by decide) ?_
  refine lv_istore_n (lv' := [(1, .int 0), (0, .ref (y 0))]) hx hb dX10_doWays_1 rfl hl (by decide) rfl (fun ls hl => ?_)
  refine key2 _ ?_ 1000 0 S0 _ _ _ hF hP hD hS (lv_sub hl [0, 1] rfl)
  intro S38 H locs ls hF hP hD hS hl
  have e2 := Option.some.inj hF
  have hP : va_P D vwCl (YW y cy Sf) H := by rw [← e2]; exact hP
  have hD : va_D (va_A (YW y cy S0) s.heap.size) (YW y cy Sf) := by rw [← e2]; exact hD
  exact W.vret hx hb hr (fun t ht hW => ⟨⟨(), rfl, trivial, by rw [ht]; exact hP, va_K.moved hW.alike hK, hD⟩, hS.F ht⟩) hS.2.2 dX10_doWays_124

theorem iX10_copyBox_10 : ∀ w ∈ wsX100, w ∈ wsX10_copyBox := fun _ h => List.mem_cons_of_mem _ (List.mem_append_right _ h)
set_option maxHeartbeats 8000000 in
set_option maxRecDepth 100000 in
theorem zX10_copyBox (l : Launch) (D : va_G) (y : Nat → Nat) (cy : Nat → ClassId) (S : RS) (sz : Nat) (p1 : Int32) (rv : Int32) (hF : gX10_copyBox S p1 = some rv) : Met l yX10_copyBox wsX10_copyBox ({ frames := 0, cells := 0, slots := 0, locals := 0 }) (PW D (TYS cy) (YW y cy S) sz [.ref (y 0), .int p1]) (va_Qi (fun (res : Int32) (u : Unit) => res = rv) (BU D (TYS cy) (YW y cy S) (fun _ => YW y cy S) sz) (va_A (YW y cy S) sz)) 0 0 (va_A (YW y cy S) sz) := by
  refine Met.ofW (cc := cX10_copyBox) (maxL := 4) (ret := (some .int)) (by decide) rfl ?_
  intro p e s m args below meth c s₁ B hml hv
  obtain ⟨rfl, hsz, hP, hK, hD0⟩ := hv
  have hx := B.exec
  have hb := B.bytes
  have hr := B.returns
  have hts := atoms_spec (ws := wsX10_copyBox) B.pre
  have hown : s.vm.findClass RX10 = some m.cls := findClass_of_methodNamed B.named
  have hlocks := B.notSynchronized
  subst hsz
  have hD := hD0.self (sz := s.heap.size)
  have hA : ∀ q9 : Nat, s.heap.size ≤ q9 → va_A (YW y cy S) s.heap.size q9 := fun q9 h => Or.inr h
  have hS : va_S (va_A (YW y cy S) s.heap.size) s.heap s.heap [] := va_S.rf
  have key4 : ∀ (K : Int32 → Option (Int32)), (∀ (v2 : Int32) (H : Heap) (locs : List Loc) (ls : Array Slot), K v2 = some rv → va_P D vwCl (YW y cy S) H → va_D (va_A (YW y cy S) s.heap.size) (YW y cy S) → va_S (va_A (YW y cy S) s.heap.size) s.heap H locs → lv_has ls 4 [(2, .int v2)] → W p l e (headSpec wsX10_copyBox ({ frames := 0, cells := 0, slots := 0, locals := 0 })).room s m #[.ref (y 0), .int p1] below meth c H locs 0 0 (MQ below (va_Qi (fun (res : Int32) (u : Unit) => res = rv) (BU D (TYS cy) (YW y cy S) (fun _ => YW y cy S) s.heap.size) (va_A (YW y cy S) s.heap.size)) #[.ref (y 0), .int p1] s 0 0 (va_A (YW y cy S) s.heap.size)) (F0 m 60 ls [])) → ∀ (fu : Nat) (v1 : Int32) (v2 : Int32) (v3 : Int32) (H : Heap) (locs : List Loc) (ls : Array Slot), gX10_copyBox_4 S K fu v1 v2 v3 = some rv → va_P D vwCl (YW y cy S) H → va_D (va_A (YW y cy S) s.heap.size) (YW y cy S) → va_S (va_A (YW y cy S) s.heap.size) s.heap H locs → lv_has ls 4 [(1, .int v1), (2, .int v2), (3, .int v3), (0, .ref (y 0))] → W p l e (headSpec wsX10_copyBox ({ frames := 0, cells := 0, slots := 0, locals := 0 })).room s m #[.ref (y 0), .int p1] below meth c H locs 0 0 (MQ below (va_Qi (fun (res : Int32) (u : Unit) => res = rv) (BU D (TYS cy) (YW y cy S) (fun _ => YW y cy S) s.heap.size) (va_A (YW y cy S) s.heap.size)) #[.ref (y 0), .int p1] s 0 0 (va_A (YW y cy S) s.heap.size)) (F0 m 4 ls []) := by
    intro K hKK fu
    induction fu with
    | zero =>
      intro v1 v2 v3 H locs ls hF
      exact absurd (show (none : Option (Int32)) = some rv from hF) (by simp)
    | succ fu4 ih4 =>
      intro v1 v2 v3 H locs ls hF hP hD hS hl
      rw [gX10_copyBox_4] at hF
      refine lv_iload_n hx hb dX10_copyBox_4 rfl (lv_at hl 2 rfl) ?_
      refine lv_aload_n hx hb dX10_copyBox_5 rfl (lv_at hl 3 rfl) ?_
      refine va_get (D := D) (ci := 10) (v := .int (S 0 2)) (C := RX10) (T := TX10) (N := 58) hx hb hts iX10_copyBox_10 hown hK hP 0 rfl rfl 2 (by decide) (hts (.fieldLink RX10 160 "FondsRoomModel" "boxes" "I") (List.mem_of_getElem? (i := 1) rfl)) (fun _ h9 => h9) rfl dX10_copyBox_6 ?_
      refine lv_icmp_ge (tgt := 60) hx hb dX10_copyBox_9 (by decide) (fun c1 => ?_) (fun c1 => ?_)
      · skip
        have hF := (if_pos c1).symm.trans hF
        exact hKK v2  _ _ _ hF hP hD hS (lv_sub hl [1] rfl)
      · skip
        have hF := (if_neg c1).symm.trans hF
        refine lv_aload_n hx hb dX10_copyBox_12 rfl (lv_at hl 3 rfl) ?_
        refine va_get (D := D) (ci := 10) (v := .ref (y 5)) (C := RX10) (T := TX10) (N := 58) hx hb hts iX10_copyBox_10 hown hK hP 0 rfl rfl 13 (by decide) (hts (.fieldLink RX10 36 "FondsRoomModel" "place" "[I") (List.mem_of_getElem? (i := 2) rfl)) (fun _ h9 => h9) rfl dX10_copyBox_13 ?_
        refine lv_iload_n hx hb dX10_copyBox_16 rfl (lv_at hl 2 rfl) ?_
        obtain ⟨hi3, hF⟩ := ld_s hF
        refine va_iald hx hb hK hP 5 0 rfl rfl hi3 dX10_copyBox_17 ?_
        refine lv_topi (fun y2 ey2 => ?_)
        replace hF := hF y2 ey2
        refine lv_iconst (v := 5) hx hb dX10_copyBox_18 (by decide) ?_
        refine lv_icmp_ne (tgt := 54) hx hb dX10_copyBox_19 (by decide) (fun c4 => ?_) (fun c4 => ?_)
        · skip
          have hF := (if_neg c4).symm.trans hF
          refine lv_iinc (v := v3 + 1) (lv' := [(3, .int (v3 + 1)), (1, .int v1), (2, .int v2), (0, .ref (y 0))]) hx hb dX10_copyBox_54 hl (k := 2) rfl rfl (by decide) rfl (fun ls hl => ?_)
          refine lv_goto (tgt := 4) hx hb dX10_copyBox_57 (by decide) ?_
          exact ih4 v1 v2 (v3 + 1)  _ _ _ hF hP hD hS (lv_sub hl [1, 2, 0, 3] rfl)
        · skip
          have hF := (if_pos c4).symm.trans hF
          refine lv_aload_n hx hb dX10_copyBox_22 rfl (lv_at hl 3 rfl) ?_
          refine va_get (D := D) (ci := 10) (v := .ref (y 11)) (C := RX10) (T := TX10) (N := 58) hx hb hts iX10_copyBox_10 hown hK hP 0 rfl rfl 19 (by decide) (hts (.fieldLink RX10 54 "FondsRoomModel" "isUrgent" "[Z") (List.mem_of_getElem? (i := 3) rfl)) (fun _ h9 => h9) rfl dX10_copyBox_23 ?_
          refine lv_iload_n hx hb dX10_copyBox_26 rfl (lv_at hl 2 rfl) ?_
          obtain ⟨hi6, hF⟩ := ld_s hF
          refine va_zald hx hb hK hP 11 1 rfl rfl hi6 dX10_copyBox_27 ?_
          refine lv_topi (fun y5 ey5 => ?_)
          replace hF := hF y5 ey5
          refine lv_iload_n hx hb dX10_copyBox_28 rfl (lv_at hl 0 rfl) ?_
          refine lv_icmp_ne (tgt := 54) hx hb dX10_copyBox_29 (by decide) (fun c7 => ?_) (fun c7 => ?_)
          · skip
            have hF := (if_neg c7).symm.trans hF
            refine lv_iinc (v := v3 + 1) (lv' := [(3, .int (v3 + 1)), (1, .int v1), (2, .int v2), (0, .ref (y 0))]) hx hb dX10_copyBox_54 hl (k := 2) rfl rfl (by decide) rfl (fun ls hl => ?_)
            refine lv_goto (tgt := 4) hx hb dX10_copyBox_57 (by decide) ?_
            exact ih4 v1 v2 (v3 + 1)  _ _ _ hF hP hD hS (lv_sub hl [1, 2, 0, 3] rfl)
          · skip
            have hF := (if_pos c7).symm.trans hF
            refine lv_iload_n hx hb dX10_copyBox_32 rfl (lv_at hl 1 rfl) ?_
            refine lv_iconst (v := (-1)) hx hb dX10_copyBox_33 (by decide) ?_
            refine lv_icmp_eq (tgt := 52) hx hb dX10_copyBox_34 (by decide) (fun c8 => ?_) (fun c8 => ?_)
            · skip
              have hF := (if_pos c8).symm.trans hF
              refine lv_iload_n hx hb dX10_copyBox_52 rfl (lv_at hl 2 rfl) ?_
              refine lv_istore_n (lv' := [(2, .int v3), (1, .int v1), (3, .int v3), (0, .ref (y 0))]) hx hb dX10_copyBox_53 rfl hl (by decide) rfl (fun ls hl => ?_)
              refine lv_iinc (v := v3 + 1) (lv' := [(3, .int (v3 + 1)), (2, .int v3), (1, .int v1), (0, .ref (y 0))]) hx hb dX10_copyBox_54 hl (k := 2) rfl rfl (by decide) rfl (fun ls hl => ?_)
              refine lv_goto (tgt := 4) hx hb dX10_copyBox_57 (by decide) ?_
              exact ih4 v1 v3 (v3 + 1)  _ _ _ hF hP hD hS (lv_sub hl [2, 1, 0, 3] rfl)
            · skip
              have hF := (if_neg c8).symm.trans hF
              refine lv_aload_n hx hb dX10_copyBox_37 rfl (lv_at hl 3 rfl) ?_
              refine va_get (D := D) (ci := 10) (v := .ref (y 9)) (C := RX10) (T := TX10) (N := 58) hx hb hts iX10_copyBox_10 hown hK hP 0 rfl rfl 17 (by decide) (hts (.fieldLink RX10 48 "FondsRoomModel" "copyAt" "[I") (List.mem_of_getElem? (i := 4) rfl)) (fun _ h9 => h9) rfl dX10_copyBox_38 ?_
              refine lv_iload_n hx hb dX10_copyBox_41 rfl (lv_at hl 2 rfl) ?_
              obtain ⟨hi10, hF⟩ := ld_s hF
              refine va_iald hx hb hK hP 9 0 rfl rfl hi10 dX10_copyBox_42 ?_
              refine lv_topi (fun y9 ey9 => ?_)
              replace hF := hF y9 ey9
              refine lv_aload_n hx hb dX10_copyBox_43 rfl (lv_at hl 3 rfl) ?_
              refine va_get (D := D) (ci := 10) (v := .ref (y 9)) (C := RX10) (T := TX10) (N := 58) hx hb hts iX10_copyBox_10 hown hK hP 0 rfl rfl 17 (by decide) (hts (.fieldLink RX10 48 "FondsRoomModel" "copyAt" "[I") (List.mem_of_getElem? (i := 4) rfl)) (fun _ h9 => h9) rfl dX10_copyBox_44 ?_
              refine lv_iload_n hx hb dX10_copyBox_47 rfl (lv_at hl 1 rfl) ?_
              obtain ⟨hi12, hF⟩ := ld_s hF
              refine va_iald hx hb hK hP 9 0 rfl rfl hi12 dX10_copyBox_48 ?_
              refine lv_topi (fun y11 ey11 => ?_)
              replace hF := hF y11 ey11
              refine lv_icmp_ge (tgt := 54) hx hb dX10_copyBox_49 (by decide) (fun c13 => ?_) (fun c13 => ?_)
              · skip
                have hF := (if_pos c13).symm.trans hF
                refine lv_iinc (v := v3 + 1) (lv' := [(3, .int (v3 + 1)), (1, .int v1), (2, .int v2), (0, .ref (y 0))]) hx hb dX10_copyBox_54 hl (k := 2) rfl rfl (by decide) rfl (fun ls hl => ?_)
                refine lv_goto (tgt := 4) hx hb dX10_copyBox_57 (by decide) ?_
                exact ih4 v1 v2 (v3 + 1)  _ _ _ hF hP hD hS (lv_sub hl [1, 2, 0, 3] rfl)
              · skip
                have hF := (if_neg c13).symm.trans hF
                refine lv_iload_n hx hb dX10_copyBox_52 rfl (lv_at hl 2 rfl) ?_
                refine lv_istore_n (lv' := [(2, .int v3), (1, .int v1), (3, .int v3), (0, .ref (y 0))]) hx hb dX10_copyBox_53 rfl hl (by decide) rfl (fun ls hl => ?_)
                refine lv_iinc (v := v3 + 1) (lv' := [(3, .int (v3 + 1)), (2, .int v3), (1, .int v1), (0, .ref (y 0))]) hx hb dX10_copyBox_54 hl (k := 2) rfl rfl (by decide) rfl (fun ls hl => ?_)
                refine lv_goto (tgt := 4) hx hb dX10_copyBox_57 (by decide) ?_
                exact ih4 v1 v3 (v3 + 1)  _ _ _ hF hP hD hS (lv_sub hl [2, 1, 0, 3] rfl)
  have hl := lv_entry ([.ref (y 0), .int p1]) (n := 4) (Nat.le_of_ble_eq_true rfl)
  rw [lg_entry_eq]
  generalize (lg_sl ([.ref (y 0), .int p1]) ++ List.replicate (4 - (lg_sl ([.ref (y 0), .int p1])).length) Slot.unset).toArray = ls at hl ⊢
  have hl : lv_has ls 4 [(0, .ref (y 0)), (1, .int p1)] := hl
  unfold gX10_copyBox at hF
  refine lv_iconst (v := (-1)) hx hb dX10_copyBox_0 (by decide) ?_
  refine lv_istore_n (lv' := [(2, .int (-1)), (0, .ref (y 0)), (1, .int p1)]) hx hb dX10_copyBox_1 rfl hl (by decide) rfl (fun ls hl => ?_)
  refine lv_iconst (v := 0) hx hb dX10_copyBox_2 (by decide) ?_
  refine lv_istore_n (lv' := [(3, .int 0), (2, .int (-1)), (0, .ref (y 0)), (1, .int p1)]) hx hb dX10_copyBox_3 rfl hl (by decide) rfl (fun ls hl => ?_)
  refine key4 _ ?_ 1000 p1 (-1) 0  _ _ _ hF hP hD hS (lv_sub hl [3, 1, 0, 2] rfl)
  intro v2_14 H locs ls hF hP hD hS hl
  refine lv_iload_n hx hb dX10_copyBox_60 rfl (lv_at hl 0 rfl) ?_
  have e1 := Option.some.inj hF
  exact W.iret (v := v2_14) hx hb hr (fun t ht hW => ⟨⟨v2_14, (), rfl, e1, by rw [ht]; exact hP, va_K.moved hW.alike hK, hD⟩, hS.F ht⟩) hS.2.2 dX10_copyBox_61
