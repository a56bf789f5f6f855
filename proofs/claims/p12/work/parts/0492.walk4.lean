theorem iX10_whose_10 : ∀ w ∈ wsX100, w ∈ wsX10_whose := fun _ h => List.mem_cons_of_mem _ (List.mem_append_right _ h)
set_option maxHeartbeats 8000000 in
set_option maxRecDepth 100000 in
theorem zX10_whose (l : Launch) (D : va_G) (y : Nat → Nat) (cy : Nat → ClassId) (S0 : RS) (sz : Nat) (p1 : Int32) (rv : Int32) (Sf : RS) (hF : gX10_whose S0 p1 = some (rv, Sf)) : Met l yX10_whose wsX10_whose ({ frames := 2, cells := 0, slots := 0, locals := 43 }) (PW D (TYS cy) (YW y cy S0) sz [.ref (y 0), .int p1]) (va_Qi (fun (res : Int32) (u : Unit) => res = rv) (BU D (TYS cy) (YW y cy S0) (fun _ => YW y cy Sf) sz) (va_A (YW y cy S0) sz)) 0 0 (va_A (YW y cy S0) sz) := by
  refine Met.ofW (cc := cX10_whose) (maxL := 2) (ret := (some .int)) (by decide) rfl ?_
  intro p e s m args below meth c s₁ B hml hv
  obtain ⟨rfl, hsz, hP, hK, hD0⟩ := hv
  have hx := B.exec
  have hb := B.bytes
  have hr := B.returns
  have hts := atoms_spec (ws := wsX10_whose) B.pre
  have hown : s.vm.findClass RX10 = some m.cls := findClass_of_methodNamed B.named
  have hlocks := B.notSynchronized
  subst hsz
  have hD := hD0.self (sz := s.heap.size)
  have hA : ∀ q9 : Nat, s.heap.size ≤ q9 → va_A (YW y cy S0) s.heap.size q9 := fun q9 h => Or.inr h
  have hS : va_S (va_A (YW y cy S0) s.heap.size) s.heap s.heap [] := va_S.rf
  have hl := lv_entry ([.ref (y 0), .int p1]) (n := 2) (Nat.le_of_ble_eq_true rfl)
  rw [lg_entry_eq]
  generalize (lg_sl ([.ref (y 0), .int p1]) ++ List.replicate (2 - (lg_sl ([.ref (y 0), .int p1])).length) Slot.unset).toArray = ls at hl ⊢
  have hl : lv_has ls 2 [(0, .ref (y 0)), (1, .int p1)] := hl
  unfold gX10_whose at hF
  refine lv_aload_n hx hb dX10_whose_0 rfl (lv_at hl 0 rfl) ?_
  refine lv_iconst (v := 0) hx hb dX10_whose_1 (by decide) ?_
  refine va_put (D := D) (ci := 10) (v := .int 0) (ty := .int) (C := RX10) (T := TX10) (N := 58) hx hb hts iX10_whose_10 tyX10 tyX10_ok nmX10 hown hK hP hD hS 0 rfl rfl 0 (by decide) (hts (.fieldLink RX10 150 "FondsRoomModel" "thrown" "I") (List.mem_of_getElem? (i := 1) rfl)) (fun _ h9 => h9) rfl (by decide +kernel) rfl rfl (Nat.le_of_ble_eq_true rfl) dX10_whose_2 (fun H locs hP hD hS => ?_)
  obtain ⟨S1, eS1⟩ : ∃ z, z = wr S0 0 0 0 := ⟨_, rfl⟩
  replace hF := bnd_s hF S1 eS1
  have hP : va_P D vwCl (YW y cy S1) H := by rw [eS1]; exact hP
  have hD : va_D (va_A (YW y cy S0) s.heap.size) (YW y cy S1) := by rw [eS1]; exact hD
  refine lv_aload_n hx hb dX10_whose_5 rfl (lv_at hl 0 rfl) ?_
  refine lv_iload_n hx hb dX10_whose_6 rfl (lv_at hl 1 rfl) ?_
  obtain ⟨r2, hq5, hF⟩ := bd1_s hF
  refine gvI (As := [.int p1]) (rest := []) ⟨hx, hb, hml, hown, hts⟩ (zX10_isBox l D y cy S1 _ p1 r2 hq5) (cwV 1 hts gX10_whose_X10_isBox rfl rfl rfl (by decide +kernel) ⟨Nat.le_of_ble_eq_true rfl, Nat.le_of_ble_eq_true rfl⟩) hK hP hD hS hA (va_recv hK hP (ci := 10) (q0 := 0) rfl rfl) rfl hl.1 rfl (Nat.le_of_ble_eq_true rfl) dX10_whose_7 ⟨Nat.le_of_ble_eq_true rfl, Nat.le_of_ble_eq_true rfl⟩ (fun a6 u9 H locs hw4 hP hD hS => ?_)
  have hP : va_P D vwCl (YW y cy S1) H := hP
  have hD : va_D _ (YW y cy S1) := hD
  refine lv_tov (v' := .int r2) (congrArg Value.int hw4.1) ?_
  refine lv_if_ne (tgt := 15) hx hb dX10_whose_10 (by decide) (fun c7 => ?_) (fun c7 => ?_)
  · skip
    have hF := (if_neg c7).symm.trans hF
    refine lv_aload_n hx hb dX10_whose_15 rfl (lv_at hl 0 rfl) ?_
    refine va_get (D := D) (ci := 10) (v := .ref (y 6)) (C := RX10) (T := TX10) (N := 58) hx hb hts iX10_whose_10 hown hK hP 0 rfl rfl 14 (by decide) (hts (.fieldLink RX10 39 "FondsRoomModel" "has" "[I") (List.mem_of_getElem? (i := 2) rfl)) (fun _ h9 => h9) rfl dX10_whose_16 ?_
    refine lv_iload_n hx hb dX10_whose_19 rfl (lv_at hl 1 rfl) ?_
    obtain ⟨hi9, hF⟩ := ld_s hF
    refine va_iald hx hb hK hP 6 0 rfl rfl hi9 dX10_whose_20 ?_
    refine lv_topi (fun y8 ey8 => ?_)
    replace hF := hF y8 ey8
    refine lv_iconst (v := (-1)) hx hb dX10_whose_21 (by decide) ?_
    refine lv_icmp_eq (tgt := 34) hx hb dX10_whose_22 (by decide) (fun c10 => ?_) (fun c10 => ?_)
    · skip
      have hF := (if_pos c10).symm.trans hF
      refine lv_aload_n hx hb dX10_whose_34 rfl (lv_at hl 0 rfl) ?_
      refine va_get (D := D) (ci := 10) (v := .ref (y 7)) (C := RX10) (T := TX10) (N := 58) hx hb hts iX10_whose_10 hown hK hP 0 rfl rfl 15 (by decide) (hts (.fieldLink RX10 42 "FondsRoomModel" "ticket" "[I") (List.mem_of_getElem? (i := 3) rfl)) (fun _ h9 => h9) rfl dX10_whose_35 ?_
      refine lv_iload_n hx hb dX10_whose_38 rfl (lv_at hl 1 rfl) ?_
      obtain ⟨hi12, hF⟩ := ld_s hF
      refine va_iald hx hb hK hP 7 0 rfl rfl hi12 dX10_whose_39 ?_
      refine lv_topi (fun y11 ey11 => ?_)
      replace hF := hF y11 ey11
      obtain ⟨e1, e2⟩ := ret2 hF
      have hP : va_P D vwCl (YW y cy Sf) H := by rw [← e2]; exact hP
      have hD : va_D (va_A (YW y cy S0) s.heap.size) (YW y cy Sf) := by rw [← e2]; exact hD
      exact W.iret (v := y11) hx hb hr (fun t ht hW => ⟨⟨y11, (), rfl, e1, by rw [ht]; exact hP, va_K.moved hW.alike hK, hD⟩, hS.F ht⟩) hS.2.2 dX10_whose_40
    · skip
      have hF := (if_neg c10).symm.trans hF
      refine lv_aload_n hx hb dX10_whose_25 rfl (lv_at hl 0 rfl) ?_
      refine va_get (D := D) (ci := 10) (v := .ref (y 6)) (C := RX10) (T := TX10) (N := 58) hx hb hts iX10_whose_10 hown hK hP 0 rfl rfl 14 (by decide) (hts (.fieldLink RX10 39 "FondsRoomModel" "has" "[I") (List.mem_of_getElem? (i := 2) rfl)) (fun _ h9 => h9) rfl dX10_whose_26 ?_
      refine lv_iload_n hx hb dX10_whose_29 rfl (lv_at hl 1 rfl) ?_
      obtain ⟨hi14, hF⟩ := ld_s hF
      refine va_iald hx hb hK hP 6 0 rfl rfl hi14 dX10_whose_30 ?_
      refine lv_topi (fun y13 ey13 => ?_)
      replace hF := hF y13 ey13
      refine lv_goto (tgt := 40) hx hb dX10_whose_31 (by decide) ?_
      obtain ⟨e1, e2⟩ := ret2 hF
      have hP : va_P D vwCl (YW y cy Sf) H := by rw [← e2]; exact hP
      have hD : va_D (va_A (YW y cy S0) s.heap.size) (YW y cy Sf) := by rw [← e2]; exact hD
      exact W.iret (v := y13) hx hb hr (fun t ht hW => ⟨⟨y13, (), rfl, e1, by rw [ht]; exact hP, va_K.moved hW.alike hK, hD⟩, hS.F ht⟩) hS.2.2 dX10_whose_40
  · skip
    have hF := (if_pos c7).symm.trans hF
    refine lv_iconst (v := (-1)) hx hb dX10_whose_13 (by decide) ?_
    obtain ⟨e1, e2⟩ := ret2 hF
    have hP : va_P D vwCl (YW y cy Sf) H := by rw [← e2]; exact hP
    have hD : va_D (va_A (YW y cy S0) s.heap.size) (YW y cy Sf) := by rw [← e2]; exact hD
    exact W.iret (v := (-1)) hx hb hr (fun t ht hW => ⟨⟨(-1), (), rfl, e1, by rw [ht]; exact hP, va_K.moved hW.alike hK, hD⟩, hS.F ht⟩) hS.2.2 dX10_whose_14

theorem iX10_seated_10 : ∀ w ∈ wsX100, w ∈ wsX10_seated := fun _ h => List.mem_cons_of_mem _ (List.mem_append_right _ h)
set_option maxHeartbeats 8000000 in
set_option maxRecDepth 100000 in
theorem zX10_seated (l : Launch) (D : va_G) (y : Nat → Nat) (cy : Nat → ClassId) (S0 : RS) (sz : Nat) (p1 : Int32) (rv : Int32) (Sf : RS) (hF : gX10_seated S0 p1 = some (rv, Sf)) : Met l yX10_seated wsX10_seated ({ frames := 1, cells := 0, slots := 0, locals := 22 }) (PW D (TYS cy) (YW y cy S0) sz [.ref (y 0), .int p1]) (va_Qi (fun (res : Int32) (u : Unit) => res = rv) (BU D (TYS cy) (YW y cy S0) (fun _ => YW y cy Sf) sz) (va_A (YW y cy S0) sz)) 0 0 (va_A (YW y cy S0) sz) := by
  refine Met.ofW (cc := cX10_seated) (maxL := 2) (ret := (some .int)) (by decide) rfl ?_
  intro p e s m args below meth c s₁ B hml hv
  obtain ⟨rfl, hsz, hP, hK, hD0⟩ := hv
  have hx := B.exec
  have hb := B.bytes
  have hr := B.returns
  have hts := atoms_spec (ws := wsX10_seated) B.pre
  have hown : s.vm.findClass RX10 = some m.cls := findClass_of_methodNamed B.named
  have hlocks := B.notSynchronized
  subst hsz
  have hD := hD0.self (sz := s.heap.size)
  have hA : ∀ q9 : Nat, s.heap.size ≤ q9 → va_A (YW y cy S0) s.heap.size q9 := fun q9 h => Or.inr h
  have hS : va_S (va_A (YW y cy S0) s.heap.size) s.heap s.heap [] := va_S.rf
  have hl := lv_entry ([.ref (y 0), .int p1]) (n := 2) (Nat.le_of_ble_eq_true rfl)
  rw [lg_entry_eq]
  generalize (lg_sl ([.ref (y 0), .int p1]) ++ List.replicate (2 - (lg_sl ([.ref (y 0), .int p1])).length) Slot.unset).toArray = ls at hl ⊢
  have hl : lv_has ls 2 [(0, .ref (y 0)), (1, .int p1)] := hl
  unfold gX10_seated at hF
  refine lv_aload_n hx hb dX10_seated_0 rfl (lv_at hl 0 rfl) ?_
  refine lv_iconst (v := 0) hx hb dX10_seated_1 (by decide) ?_
  refine va_put (D := D) (ci := 10) (v := .int 0) (ty := .int) (C := RX10) (T := TX10) (N := 58) hx hb hts iX10_seated_10 tyX10 tyX10_ok nmX10 hown hK hP hD hS 0 rfl rfl 0 (by decide) (hts (.fieldLink RX10 150 "FondsRoomModel" "thrown" "I") (List.mem_of_getElem? (i := 1) rfl)) (fun _ h9 => h9) rfl (by decide +kernel) rfl rfl (Nat.le_of_ble_eq_true rfl) dX10_seated_2 (fun H locs hP hD hS => ?_)
  obtain ⟨S1, eS1⟩ : ∃ z, z = wr S0 0 0 0 := ⟨_, rfl⟩
  replace hF := bnd_s hF S1 eS1
  have hP : va_P D vwCl (YW y cy S1) H := by rw [eS1]; exact hP
  have hD : va_D (va_A (YW y cy S0) s.heap.size) (YW y cy S1) := by rw [eS1]; exact hD
  refine lv_iload_n hx hb dX10_seated_5 rfl (lv_at hl 1 rfl) ?_
  refine lv_iconst (v := 0) hx hb dX10_seated_6 (by decide) ?_
  refine lv_aload_n hx hb dX10_seated_7 rfl (lv_at hl 0 rfl) ?_
  refine va_get (D := D) (ci := 10) (v := .int (S1 0 1)) (C := RX10) (T := TX10) (N := 58) hx hb hts iX10_seated_10 hown hK hP 0 rfl rfl 1 (by decide) (hts (.fieldLink RX10 166 "FondsRoomModel" "desks" "I") (List.mem_of_getElem? (i := 2) rfl)) (fun _ h9 => h9) rfl dX10_seated_8 ?_
  refine lv_iconst (v := 1) hx hb dX10_seated_11 (by decide) ?_
  refine lv_isub hx hb dX10_seated_12 ?_
  obtain ⟨r2, hq5, hF⟩ := bd1_s hF
  refine gsI (As := [.int p1, .int 0, .int ((S1 0 1) - 1)]) (rest := []) ⟨hx, hb, hml, hown, hts⟩ (zX10_in l D y cy S1 _ p1 0 ((S1 0 1) - 1) r2 hq5) (va_cwS 3 hts gX10_seated_X10_in rfl rfl rfl (by decide +kernel) ⟨Nat.le_of_ble_eq_true rfl, Nat.le_of_ble_eq_true rfl⟩) hK hP hD hS hA rfl hl.1 rfl (Nat.le_of_ble_eq_true rfl) dX10_seated_13 ⟨Nat.le_of_ble_eq_true rfl, Nat.le_of_ble_eq_true rfl⟩ (fun a6 u9 H locs hw4 hP hD hS => ?_)
  have hP : va_P D vwCl (YW y cy S1) H := hP
  have hD : va_D _ (YW y cy S1) := hD
  refine lv_tov (v' := .int r2) (congrArg Value.int hw4.1) ?_
  refine lv_if_eq (tgt := 28) hx hb dX10_seated_16 (by decide) (fun c7 => ?_) (fun c7 => ?_)
  · skip
    have hF := (if_pos c7).symm.trans hF
    refine lv_iconst (v := (-1)) hx hb dX10_seated_28 (by decide) ?_
    obtain ⟨e1, e2⟩ := ret2 hF
    have hP : va_P D vwCl (YW y cy Sf) H := by rw [← e2]; exact hP
    have hD : va_D (va_A (YW y cy S0) s.heap.size) (YW y cy Sf) := by rw [← e2]; exact hD
    exact W.iret (v := (-1)) hx hb hr (fun t ht hW => ⟨⟨(-1), (), rfl, e1, by rw [ht]; exact hP, va_K.moved hW.alike hK, hD⟩, hS.F ht⟩) hS.2.2 dX10_seated_29
  · skip
    have hF := (if_neg c7).symm.trans hF
    refine lv_aload_n hx hb dX10_seated_19 rfl (lv_at hl 0 rfl) ?_
    refine va_get (D := D) (ci := 10) (v := .ref (y 2)) (C := RX10) (T := TX10) (N := 58) hx hb hts iX10_seated_10 hown hK hP 0 rfl rfl 10 (by decide) (hts (.fieldLink RX10 26 "FondsRoomModel" "sitter" "[I") (List.mem_of_getElem? (i := 3) rfl)) (fun _ h9 => h9) rfl dX10_seated_20 ?_
    refine lv_iload_n hx hb dX10_seated_23 rfl (lv_at hl 1 rfl) ?_
    obtain ⟨hi9, hF⟩ := ld_s hF
    refine va_iald hx hb hK hP 2 0 rfl rfl hi9 dX10_seated_24 ?_
    refine lv_topi (fun y8 ey8 => ?_)
    replace hF := hF y8 ey8
    refine lv_goto (tgt := 29) hx hb dX10_seated_25 (by decide) ?_
    obtain ⟨e1, e2⟩ := ret2 hF
    have hP : va_P D vwCl (YW y cy Sf) H := by rw [← e2]; exact hP
    have hD : va_D (va_A (YW y cy S0) s.heap.size) (YW y cy Sf) := by rw [← e2]; exact hD
    exact W.iret (v := y8) hx hb hr (fun t ht hW => ⟨⟨y8, (), rfl, e1, by rw [ht]; exact hP, va_K.moved hW.alike hK, hD⟩, hS.F ht⟩) hS.2.2 dX10_seated_29

theorem iX10_worker_10 : ∀ w ∈ wsX100, w ∈ wsX10_worker := fun _ h => List.mem_cons_of_mem _ (List.mem_append_right _ h)
set_option maxHeartbeats 8000000 in
set_option maxRecDepth 100000 in
theorem zX10_worker (l : Launch) (D : va_G) (y : Nat → Nat) (cy : Nat → ClassId) (S0 : RS) (sz : Nat) (p1 p2 p3 : Int32) (rv : Int32) (Sf : RS) (hF : gX10_worker S0 p1 p2 p3 = some (rv, Sf)) : Met l yX10_worker wsX10_worker ({ frames := 1, cells := 0, slots := 0, locals := 22 }) (PW D (TYS cy) (YW y cy S0) sz [.ref (y 0), .int p1, .int p2, .int p3]) (va_Qi (fun (res : Int32) (u : Unit) => res = rv) (BU D (TYS cy) (YW y cy S0) (fun _ => YW y cy Sf) sz) (va_A (YW y cy S0) sz)) 0 0 (va_A (YW y cy S0) sz) := by
  refine Met.ofW (cc := cX10_worker) (maxL := 5) (ret := (some .int)) (by decide) rfl ?_
  intro p e s m args below meth c s₁ B hml hv
  obtain ⟨rfl, hsz, hP, hK, hD0⟩ := hv
  have hx := B.exec
  have hb := B.bytes
  have hr := B.returns
  have hts := atoms_spec (ws := wsX10_worker) B.pre
  have hown : s.vm.findClass RX10 = some m.cls := findClass_of_methodNamed B.named
  have hlocks := B.notSynchronized
  subst hsz
  have hD := hD0.self (sz := s.heap.size)
  have hA : ∀ q9 : Nat, s.heap.size ≤ q9 → va_A (YW y cy S0) s.heap.size q9 := fun q9 h => Or.inr h
  have hS : va_S (va_A (YW y cy S0) s.heap.size) s.heap s.heap [] := va_S.rf
  have hl := lv_entry ([.ref (y 0), .int p1, .int p2, .int p3]) (n := 5) (Nat.le_of_ble_eq_true rfl)
  rw [lg_entry_eq]
  generalize (lg_sl ([.ref (y 0), .int p1, .int p2, .int p3]) ++ List.replicate (5 - (lg_sl ([.ref (y 0), .int p1, .int p2, .int p3])).length) Slot.unset).toArray = ls at hl ⊢
  have hl : lv_has ls 5 [(0, .ref (y 0)), (1, .int p1), (2, .int p2), (3, .int p3)] := hl
  unfold gX10_worker at hF
  refine lv_aload_n hx hb dX10_worker_0 rfl (lv_at hl 0 rfl) ?_
  refine lv_iconst (v := 0) hx hb dX10_worker_1 (by decide) ?_
  refine va_put (D := D) (ci := 10) (v := .int 0) (ty := .int) (C := RX10) (T := TX10) (N := 58) hx hb hts iX10_worker_10 tyX10 tyX10_ok nmX10 hown hK hP hD hS 0 rfl rfl 0 (by decide) (hts (.fieldLink RX10 150 "FondsRoomModel" "thrown" "I") (List.mem_of_getElem? (i := 1) rfl)) (fun _ h9 => h9) rfl (by decide +kernel) rfl rfl (Nat.le_of_ble_eq_true rfl) dX10_worker_2 (fun H locs hP hD hS => ?_)
  obtain ⟨S1, eS1⟩ : ∃ z, z = wr S0 0 0 0 := ⟨_, rfl⟩
  replace hF := bnd_s hF S1 eS1
  have hP : va_P D vwCl (YW y cy S1) H := by rw [eS1]; exact hP
  have hD : va_D (va_A (YW y cy S0) s.heap.size) (YW y cy S1) := by rw [eS1]; exact hD
  refine lv_iload_n hx hb dX10_worker_5 rfl (lv_at hl 3 rfl) ?_
  refine lv_iconst (v := 0) hx hb dX10_worker_6 (by decide) ?_
  refine lv_iconst (v := 1) hx hb dX10_worker_7 (by decide) ?_
  obtain ⟨r2, hq5, hF⟩ := bd1_s hF
  refine gsI (As := [.int p3, .int 0, .int 1]) (rest := []) ⟨hx, hb, hml, hown, hts⟩ (zX10_in l D y cy S1 _ p3 0 1 r2 hq5) (va_cwS 3 hts gX10_worker_X10_in rfl rfl rfl (by decide +kernel) ⟨Nat.le_of_ble_eq_true rfl, Nat.le_of_ble_eq_true rfl⟩) hK hP hD hS hA rfl hl.1 rfl (Nat.le_of_ble_eq_true rfl) dX10_worker_8 ⟨Nat.le_of_ble_eq_true rfl, Nat.le_of_ble_eq_true rfl⟩ (fun a6 u9 H locs hw4 hP hD hS => ?_)
  have hP : va_P D vwCl (YW y cy S1) H := hP
  have hD : va_D _ (YW y cy S1) := hD
  refine lv_tov (v' := .int r2) (congrArg Value.int hw4.1) ?_
  refine lv_if_eq (tgt := 49) hx hb dX10_worker_11 (by decide) (fun c7 => ?_) (fun c7 => ?_)
  · skip
    have hF := (if_pos c7).symm.trans hF
    refine lv_iconst (v := (-1)) hx hb dX10_worker_49 (by decide) ?_
    obtain ⟨e1, e2⟩ := ret2 hF
    have hP : va_P D vwCl (YW y cy Sf) H := by rw [← e2]; exact hP
    have hD : va_D (va_A (YW y cy S0) s.heap.size) (YW y cy Sf) := by rw [← e2]; exact hD
    exact W.iret (v := (-1)) hx hb hr (fun t ht hW => ⟨⟨(-1), (), rfl, e1, by rw [ht]; exact hP, va_K.moved hW.alike hK, hD⟩, hS.F ht⟩) hS.2.2 dX10_worker_50
  · skip
    have hF := (if_neg c7).symm.trans hF
    refine lv_iload_n hx hb dX10_worker_14 rfl (lv_at hl 1 rfl) ?_
    refine lv_iconst (v := 1) hx hb dX10_worker_15 (by decide) ?_
    refine lv_iconst (v := 2) hx hb dX10_worker_16 (by decide) ?_
    obtain ⟨r8, hq11, hF⟩ := bd1_s hF
    refine gsI (As := [.int p1, .int 1, .int 2]) (rest := []) ⟨hx, hb, hml, hown, hts⟩ (zX10_in l D y cy S1 _ p1 1 2 r8 hq11) (va_cwS 3 hts gX10_worker_X10_in rfl rfl rfl (by decide +kernel) ⟨Nat.le_of_ble_eq_true rfl, Nat.le_of_ble_eq_true rfl⟩) hK hP hD hS hA rfl hl.1 rfl (Nat.le_of_ble_eq_true rfl) dX10_worker_17 ⟨Nat.le_of_ble_eq_true rfl, Nat.le_of_ble_eq_true rfl⟩ (fun a12 u9 H locs hw10 hP hD hS => ?_)
    have hP : va_P D vwCl (YW y cy S1) H := hP
    have hD : va_D _ (YW y cy S1) := hD
    refine lv_tov (v' := .int r8) (congrArg Value.int hw10.1) ?_
    refine lv_if_eq (tgt := 49) hx hb dX10_worker_20 (by decide) (fun c13 => ?_) (fun c13 => ?_)
    · skip
      have hF := (if_pos c13).symm.trans hF
      refine lv_iconst (v := (-1)) hx hb dX10_worker_49 (by decide) ?_
      obtain ⟨e1, e2⟩ := ret2 hF
      have hP : va_P D vwCl (YW y cy Sf) H := by rw [← e2]; exact hP
      have hD : va_D (va_A (YW y cy S0) s.heap.size) (YW y cy Sf) := by rw [← e2]; exact hD
      exact W.iret (v := (-1)) hx hb hr (fun t ht hW => ⟨⟨(-1), (), rfl, e1, by rw [ht]; exact hP, va_K.moved hW.alike hK, hD⟩, hS.F ht⟩) hS.2.2 dX10_worker_50
    · skip
      have hF := (if_neg c13).symm.trans hF
      refine lv_iload_n hx hb dX10_worker_23 rfl (lv_at hl 2 rfl) ?_
      refine lv_iconst (v := 0) hx hb dX10_worker_24 (by decide) ?_
      refine lv_iload_n hx hb dX10_worker_25 rfl (lv_at hl 1 rfl) ?_
      refine lv_iconst (v := 1) hx hb dX10_worker_26 (by decide) ?_
      refine lv_icmp_ne (tgt := 37) hx hb dX10_worker_27 (by decide) (fun c14 => ?_) (fun c14 => ?_)
      · skip
        have hF := (if_neg c14).symm.trans hF
        refine lv_aload_n hx hb dX10_worker_37 rfl (lv_at hl 0 rfl) ?_
        refine va_get (D := D) (ci := 10) (v := .int (S1 0 8)) (C := RX10) (T := TX10) (N := 58) hx hb hts iX10_worker_10 hown hK hP 0 rfl rfl 8 (by decide) (hts (.fieldLink RX10 19 "FondsRoomModel" "copyists" "I") (List.mem_of_getElem? (i := 3) rfl)) (fun _ h9 => h9) rfl dX10_worker_38 ?_
        refine lv_iconst (v := 1) hx hb dX10_worker_41 (by decide) ?_
        refine lv_isub hx hb dX10_worker_42 ?_
        obtain ⟨r15, hq18, hF⟩ := bd1_s hF
        refine gsI (As := [.int p2, .int 0, .int ((S1 0 8) - 1)]) (rest := []) ⟨hx, hb, hml, hown, hts⟩ (zX10_in l D y cy S1 _ p2 0 ((S1 0 8) - 1) r15 hq18) (va_cwS 3 hts gX10_worker_X10_in rfl rfl rfl (by decide +kernel) ⟨Nat.le_of_ble_eq_true rfl, Nat.le_of_ble_eq_true rfl⟩) hK hP hD hS hA rfl hl.1 rfl (Nat.le_of_ble_eq_true rfl) dX10_worker_43 ⟨Nat.le_of_ble_eq_true rfl, Nat.le_of_ble_eq_true rfl⟩ (fun a19 u9 H locs hw17 hP hD hS => ?_)
        have hP : va_P D vwCl (YW y cy S1) H := hP
        have hD : va_D _ (YW y cy S1) := hD
        refine lv_tov (v' := .int r15) (congrArg Value.int hw17.1) ?_
        refine lv_if_ne (tgt := 51) hx hb dX10_worker_46 (by decide) (fun c20 => ?_) (fun c20 => ?_)
        · skip
          have hF := (if_neg c20).symm.trans hF
          refine lv_iload_n hx hb dX10_worker_51 rfl (lv_at hl 1 rfl) ?_
          refine lv_iconst (v := 1) hx hb dX10_worker_52 (by decide) ?_
          refine lv_icmp_ne (tgt := 65) hx hb dX10_worker_53 (by decide) (fun c21 => ?_) (fun c21 => ?_)
          · skip
            have hF := (if_neg c21).symm.trans hF
            refine lv_aload_n hx hb dX10_worker_65 rfl (lv_at hl 0 rfl) ?_
            refine va_get (D := D) (ci := 10) (v := .ref (y 33)) (C := RX10) (T := TX10) (N := 58) hx hb hts iX10_worker_10 hown hK hP 0 rfl rfl 45 (by decide) (hts (.fieldLink RX10 120 "FondsRoomModel" "cBox" "[I") (List.mem_of_getElem? (i := 5) rfl)) (fun _ h9 => h9) rfl dX10_worker_66 ?_
            refine lv_iload_n hx hb dX10_worker_69 rfl (lv_at hl 2 rfl) ?_
            obtain ⟨hi23, hF⟩ := ld_s hF
            refine va_iald hx hb hK hP 33 0 rfl rfl hi23 dX10_worker_70 ?_
            refine lv_topi (fun y22 ey22 => ?_)
            replace hF := hF y22 ey22
            refine lv_istore (lv' := [(4, .int y22), (0, .ref (y 0)), (1, .int p1), (2, .int p2), (3, .int p3)]) hx hb dX10_worker_71 hl (by decide) rfl (fun ls hl => ?_)
            refine lv_iload_n hx hb dX10_worker_73 rfl (lv_at hl 4 rfl) ?_
            refine lv_if_ne (tgt := 80) hx hb dX10_worker_74 (by decide) (fun c24 => ?_) (fun c24 => ?_)
            · skip
              have hF := (if_neg c24).symm.trans hF
              refine lv_iload hx hb dX10_worker_80 (lv_at hl 0 rfl) ?_
              refine lv_iconst (v := (-1)) hx hb dX10_worker_82 (by decide) ?_
              refine lv_icmp_ne (tgt := 90) hx hb dX10_worker_83 (by decide) (fun c25 => ?_) (fun c25 => ?_)
              · skip
                have hF := (if_neg c25).symm.trans hF
                refine lv_iload_n hx hb dX10_worker_90 rfl (lv_at hl 2 rfl) ?_
                refine lv_iconst (v := 1) hx hb dX10_worker_91 (by decide) ?_
                refine lv_icmp_ne (tgt := 104) hx hb dX10_worker_92 (by decide) (fun c26 => ?_) (fun c26 => ?_)
                · skip
                  have hF := (if_neg c26).symm.trans hF
                  refine lv_aload_n hx hb dX10_worker_104 rfl (lv_at hl 1 rfl) ?_
                  refine va_get (D := D) (ci := 10) (v := .ref (y 34)) (C := RX10) (T := TX10) (N := 58) hx hb hts iX10_worker_10 hown hK hP 0 rfl rfl 46 (by decide) (hts (.fieldLink RX10 123 "FondsRoomModel" "cLeft" "[I") (List.mem_of_getElem? (i := 7) rfl)) (fun _ h9 => h9) rfl dX10_worker_105 ?_
                  refine lv_iload_n hx hb dX10_worker_108 rfl (lv_at hl 3 rfl) ?_
                  obtain ⟨hi28, hF⟩ := ld_s hF
                  refine va_iald hx hb hK hP 34 0 rfl rfl hi28 dX10_worker_109 ?_
                  refine lv_topi (fun y27 ey27 => ?_)
                  replace hF := hF y27 ey27
                  obtain ⟨e1, e2⟩ := ret2 hF
                  have hP : va_P D vwCl (YW y cy Sf) H := by rw [← e2]; exact hP
                  have hD : va_D (va_A (YW y cy S0) s.heap.size) (YW y cy Sf) := by rw [← e2]; exact hD
                  exact W.iret (v := y27) hx hb hr (fun t ht hW => ⟨⟨y27, (), rfl, e1, by rw [ht]; exact hP, va_K.moved hW.alike hK, hD⟩, hS.F ht⟩) hS.2.2 dX10_worker_110
                · skip
                  have hF := (if_pos c26).symm.trans hF
                  refine lv_aload_n hx hb dX10_worker_95 rfl (lv_at hl 1 rfl) ?_
                  refine va_get (D := D) (ci := 10) (v := .ref (y 31)) (C := RX10) (T := TX10) (N := 58) hx hb hts iX10_worker_10 hown hK hP 0 rfl rfl 43 (by decide) (hts (.fieldLink RX10 114 "FondsRoomModel" "fLeft" "[I") (List.mem_of_getElem? (i := 6) rfl)) (fun _ h9 => h9) rfl dX10_worker_96 ?_
                  refine lv_iload_n hx hb dX10_worker_99 rfl (lv_at hl 3 rfl) ?_
                  obtain ⟨hi30, hF⟩ := ld_s hF
                  refine va_iald hx hb hK hP 31 0 rfl rfl hi30 dX10_worker_100 ?_
                  refine lv_topi (fun y29 ey29 => ?_)
                  replace hF := hF y29 ey29
                  refine lv_goto (tgt := 110) hx hb dX10_worker_101 (by decide) ?_
                  obtain ⟨e1, e2⟩ := ret2 hF
                  have hP : va_P D vwCl (YW y cy Sf) H := by rw [← e2]; exact hP
                  have hD : va_D (va_A (YW y cy S0) s.heap.size) (YW y cy Sf) := by rw [← e2]; exact hD
                  exact W.iret (v := y29) hx hb hr (fun t ht hW => ⟨⟨y29, (), rfl, e1, by rw [ht]; exact hP, va_K.moved hW.alike hK, hD⟩, hS.F ht⟩) hS.2.2 dX10_worker_110
              · skip
                have hF := (if_pos c25).symm.trans hF
                refine lv_iconst (v := 0) hx hb dX10_worker_86 (by decide) ?_
                refine lv_goto (tgt := 110) hx hb dX10_worker_87 (by decide) ?_
                obtain ⟨e1, e2⟩ := ret2 hF
                have hP : va_P D vwCl (YW y cy Sf) H := by rw [← e2]; exact hP
                have hD : va_D (va_A (YW y cy S0) s.heap.size) (YW y cy Sf) := by rw [← e2]; exact hD
                exact W.iret (v := 0) hx hb hr (fun t ht hW => ⟨⟨0, (), rfl, e1, by rw [ht]; exact hP, va_K.moved hW.alike hK, hD⟩, hS.F ht⟩) hS.2.2 dX10_worker_110
            · skip
              have hF := (if_pos c24).symm.trans hF
              refine lv_iload hx hb dX10_worker_77 (lv_at hl 0 rfl) ?_
              obtain ⟨e1, e2⟩ := ret2 hF
              have hP : va_P D vwCl (YW y cy Sf) H := by rw [← e2]; exact hP
              have hD : va_D (va_A (YW y cy S0) s.heap.size) (YW y cy Sf) := by rw [← e2]; exact hD
              exact W.iret (v := y22) hx hb hr (fun t ht hW => ⟨⟨y22, (), rfl, e1, by rw [ht]; exact hP, va_K.moved hW.alike hK, hD⟩, hS.F ht⟩) hS.2.2 dX10_worker_79
          · skip
            have hF := (if_pos c21).symm.trans hF
            refine lv_aload_n hx hb dX10_worker_56 rfl (lv_at hl 0 rfl) ?_
            refine va_get (D := D) (ci := 10) (v := .ref (y 30)) (C := RX10) (T := TX10) (N := 58) hx hb hts iX10_worker_10 hown hK hP 0 rfl rfl 42 (by decide) (hts (.fieldLink RX10 111 "FondsRoomModel" "fBox" "[I") (List.mem_of_getElem? (i := 4) rfl)) (fun _ h9 => h9) rfl dX10_worker_57 ?_
            refine lv_iload_n hx hb dX10_worker_60 rfl (lv_at hl 2 rfl) ?_
            obtain ⟨hi32, hF⟩ := ld_s hF
            refine va_iald hx hb hK hP 30 0 rfl rfl hi32 dX10_worker_61 ?_
            refine lv_topi (fun y31 ey31 => ?_)
            replace hF := hF y31 ey31
            refine lv_goto (tgt := 71) hx hb dX10_worker_62 (by decide) ?_
            refine lv_istore (lv' := [(4, .int y31), (0, .ref (y 0)), (1, .int p1), (2, .int p2), (3, .int p3)]) hx hb dX10_worker_71 hl (by decide) rfl (fun ls hl => ?_)
            refine lv_iload_n hx hb dX10_worker_73 rfl (lv_at hl 4 rfl) ?_
            refine lv_if_ne (tgt := 80) hx hb dX10_worker_74 (by decide) (fun c33 => ?_) (fun c33 => ?_)
            · skip
              have hF := (if_neg c33).symm.trans hF
              refine lv_iload hx hb dX10_worker_80 (lv_at hl 0 rfl) ?_
              refine lv_iconst (v := (-1)) hx hb dX10_worker_82 (by decide) ?_
              refine lv_icmp_ne (tgt := 90) hx hb dX10_worker_83 (by decide) (fun c34 => ?_) (fun c34 => ?_)
              · skip
                have hF := (if_neg c34).symm.trans hF
                refine lv_iload_n hx hb dX10_worker_90 rfl (lv_at hl 2 rfl) ?_
                refine lv_iconst (v := 1) hx hb dX10_worker_91 (by decide) ?_
                refine lv_icmp_ne (tgt := 104) hx hb dX10_worker_92 (by decide) (fun c35 => ?_) (fun c35 => ?_)
                · skip
                  have hF := (if_neg c35).symm.trans hF
                  refine lv_aload_n hx hb dX10_worker_104 rfl (lv_at hl 1 rfl) ?_
                  refine va_get (D := D) (ci := 10) (v := .ref (y 34)) (C := RX10) (T := TX10) (N := 58) hx hb hts iX10_worker_10 hown hK hP 0 rfl rfl 46 (by decide) (hts (.fieldLink RX10 123 "FondsRoomModel" "cLeft" "[I") (List.mem_of_getElem? (i := 7) rfl)) (fun _ h9 => h9) rfl dX10_worker_105 ?_
                  refine lv_iload_n hx hb dX10_worker_108 rfl (lv_at hl 3 rfl) ?_
                  obtain ⟨hi37, hF⟩ := ld_s hF
                  refine va_iald hx hb hK hP 34 0 rfl rfl hi37 dX10_worker_109 ?_
                  refine lv_topi (fun y36 ey36 => ?_)
                  replace hF := hF y36 ey36
                  obtain ⟨e1, e2⟩ := ret2 hF
                  have hP : va_P D vwCl (YW y cy Sf) H := by rw [← e2]; exact hP
                  have hD : va_D (va_A (YW y cy S0) s.heap.size) (YW y cy Sf) := by rw [← e2]; exact hD
                  exact W.iret (v := y36) hx hb hr (fun t ht hW => ⟨⟨y36, (), rfl, e1, by rw [ht]; exact hP, va_K.moved hW.alike hK, hD⟩, hS.F ht⟩) hS.2.2 dX10_worker_110
                · skip
                  have hF := (if_pos c35).symm.trans hF
                  refine lv_aload_n hx hb dX10_worker_95 rfl (lv_at hl 1 rfl) ?_
                  refine va_get (D := D) (ci := 10) (v := .ref (y 31)) (C := RX10) (T := TX10) (N := 58) hx hb hts iX10_worker_10 hown hK hP 0 rfl rfl 43 (by decide) (hts (.fieldLink RX10 114 "FondsRoomModel" "fLeft" "[I") (List.mem_of_getElem? (i := 6) rfl)) (fun _ h9 => h9) rfl dX10_worker_96 ?_
                  refine lv_iload_n hx hb dX10_worker_99 rfl (lv_at hl 3 rfl) ?_
                  obtain ⟨hi39, hF⟩ := ld_s hF
                  refine va_iald hx hb hK hP 31 0 rfl rfl hi39 dX10_worker_100 ?_
                  refine lv_topi (fun y38 ey38 => ?_)
                  replace hF := hF y38 ey38
                  refine lv_goto (tgt := 110) hx hb dX10_worker_101 (by decide) ?_
                  obtain ⟨e1, e2⟩ := ret2 hF
                  have hP : va_P D vwCl (YW y cy Sf) H := by rw [← e2]; exact hP
                  have hD : va_D (va_A (YW y cy S0) s.heap.size) (YW y cy Sf) := by rw [← e2]; exact hD
                  exact W.iret (v := y38) hx hb hr (fun t ht hW => ⟨⟨y38, (), rfl, e1, by rw [ht]; exact hP, va_K.moved hW.alike hK, hD⟩, hS.F ht⟩) hS.2.2 dX10_worker_110
              · skip
                have hF := (if_pos c34).symm.trans hF
                refine lv_iconst (v := 0) hx hb dX10_worker_86 (by decide) ?_
                refine lv_goto (tgt := 110) hx hb dX10_worker_87 (by decide) ?_
                obtain ⟨e1, e2⟩ := ret2 hF
                have hP : va_P D vwCl (YW y cy Sf) H := by rw [← e2]; exact hP
                have hD : va_D (va_A (YW y cy S0) s.heap.size) (YW y cy Sf) := by rw [← e2]; exact hD
                exact W.iret (v := 0) hx hb hr (fun t ht hW => ⟨⟨0, (), rfl, e1, by rw [ht]; exact hP, va_K.moved hW.alike hK, hD⟩, hS.F ht⟩) hS.2.2 dX10_worker_110
            · skip
              have hF := (if_pos c33).symm.trans hF
              refine lv_iload hx hb dX10_worker_77 (lv_at hl 0 rfl) ?_
              obtain ⟨e1, e2⟩ := ret2 hF
              have hP : va_P D vwCl (YW y cy Sf) H := by rw [← e2]; exact hP
              have hD : va_D (va_A (YW y cy S0) s.heap.size) (YW y cy Sf) := by rw [← e2]; exact hD
              exact W.iret (v := y31) hx hb hr (fun t ht hW => ⟨⟨y31, (), rfl, e1, by rw [ht]; exact hP, va_K.moved hW.alike hK, hD⟩, hS.F ht⟩) hS.2.2 dX10_worker_79
        · skip
          have hF := (if_pos c20).symm.trans hF
          refine lv_iconst (v := (-1)) hx hb dX10_worker_49 (by decide) ?_
          obtain ⟨e1, e2⟩ := ret2 hF
          have hP : va_P D vwCl (YW y cy Sf) H := by rw [← e2]; exact hP
          have hD : va_D (va_A (YW y cy S0) s.heap.size) (YW y cy Sf) := by rw [← e2]; exact hD
          exact W.iret (v := (-1)) hx hb hr (fun t ht hW => ⟨⟨(-1), (), rfl, e1, by rw [ht]; exact hP, va_K.moved hW.alike hK, hD⟩, hS.F ht⟩) hS.2.2 dX10_worker_50
      · skip
        have hF := (if_pos c14).symm.trans hF
        refine lv_aload_n hx hb dX10_worker_30 rfl (lv_at hl 0 rfl) ?_
        refine va_get (D := D) (ci := 10) (v := .int (S1 0 7)) (C := RX10) (T := TX10) (N := 58) hx hb hts iX10_worker_10 hown hK hP 0 rfl rfl 7 (by decide) (hts (.fieldLink RX10 16 "FondsRoomModel" "fetchers" "I") (List.mem_of_getElem? (i := 2) rfl)) (fun _ h9 => h9) rfl dX10_worker_31 ?_
        refine lv_goto (tgt := 41) hx hb dX10_worker_34 (by decide) ?_
        refine lv_iconst (v := 1) hx hb dX10_worker_41 (by decide) ?_
        refine lv_isub hx hb dX10_worker_42 ?_
        obtain ⟨r40, hq43, hF⟩ := bd1_s hF
        refine gsI (As := [.int p2, .int 0, .int ((S1 0 7) - 1)]) (rest := []) ⟨hx, hb, hml, hown, hts⟩ (zX10_in l D y cy S1 _ p2 0 ((S1 0 7) - 1) r40 hq43) (va_cwS 3 hts gX10_worker_X10_in rfl rfl rfl (by decide +kernel) ⟨Nat.le_of_ble_eq_true rfl, Nat.le_of_ble_eq_true rfl⟩) hK hP hD hS hA rfl hl.1 rfl (Nat.le_of_ble_eq_true rfl) dX10_worker_43 ⟨Nat.le_of_ble_eq_true rfl, Nat.le_of_ble_eq_true rfl⟩ (fun a44 u9 H locs hw42 hP hD hS => ?_)
        have hP : va_P D vwCl (YW y cy S1) H := hP
        have hD : va_D _ (YW y cy S1) := hD
        refine lv_tov (v' := .int r40) (congrArg Value.int hw42.1) ?_
        refine lv_if_ne (tgt := 51) hx hb dX10_worker_46 (by decide) (fun c45 => ?_) (fun c45 => ?_)
        · skip
          have hF := (if_neg c45).symm.trans hF
          refine lv_iload_n hx hb dX10_worker_51 rfl (lv_at hl 1 rfl) ?_
          refine lv_iconst (v := 1) hx hb dX10_worker_52 (by decide) ?_
          refine lv_icmp_ne (tgt := 65) hx hb dX10_worker_53 (by decide) (fun c46 => ?_) (fun c46 => ?_)
          · skip
            have hF := (if_neg c46).symm.trans hF
            refine lv_aload_n hx hb dX10_worker_65 rfl (lv_at hl 0 rfl) ?_
            refine va_get (D := D) (ci := 10) (v := .ref (y 33)) (C := RX10) (T := TX10) (N := 58) hx hb hts iX10_worker_10 hown hK hP 0 rfl rfl 45 (by decide) (hts (.fieldLink RX10 120 "FondsRoomModel" "cBox" "[I") (List.mem_of_getElem? (i := 5) rfl)) (fun _ h9 => h9) rfl dX10_worker_66 ?_
            refine lv_iload_n hx hb dX10_worker_69 rfl (lv_at hl 2 rfl) ?_
            obtain ⟨hi48, hF⟩ := ld_s hF
            refine va_iald hx hb hK hP 33 0 rfl rfl hi48 dX10_worker_70 ?_
            refine lv_topi (fun y47 ey47 => ?_)
            replace hF := hF y47 ey47
            refine lv_istore (lv' := [(4, .int y47), (0, .ref (y 0)), (1, .int p1), (2, .int p2), (3, .int p3)]) hx hb dX10_worker_71 hl (by decide) rfl (fun ls hl => ?_)
            refine lv_iload_n hx hb dX10_worker_73 rfl (lv_at hl 4 rfl) ?_
            refine lv_if_ne (tgt := 80) hx hb dX10_worker_74 (by decide) (fun c49 => ?_) (fun c49 => ?_)
            · skip
              have hF := (if_neg c49).symm.trans hF
              refine lv_iload hx hb dX10_worker_80 (lv_at hl 0 rfl) ?_
              refine lv_iconst (v := (-1)) hx hb dX10_worker_82 (by decide) ?_
              refine lv_icmp_ne (tgt := 90) hx hb dX10_worker_83 (by decide) (fun c50 => ?_) (fun c50 => ?_)
              · skip
                have hF := (if_neg c50).symm.trans hF
                refine lv_iload_n hx hb dX10_worker_90 rfl (lv_at hl 2 rfl) ?_
                refine lv_iconst (v := 1) hx hb dX10_worker_91 (by decide) ?_
                refine lv_icmp_ne (tgt := 104) hx hb dX10_worker_92 (by decide) (fun c51 => ?_) (fun c51 => ?_)
                · skip
                  have hF := (if_neg c51).symm.trans hF
                  refine lv_aload_n hx hb dX10_worker_104 rfl (lv_at hl 1 rfl) ?_
                  refine va_get (D := D) (ci := 10) (v := .ref (y 34)) (C := RX10) (T := TX10) (N := 58) hx hb hts iX10_worker_10 hown hK hP 0 rfl rfl 46 (by decide) (hts (.fieldLink RX10 123 "FondsRoomModel" "cLeft" "[I") (List.mem_of_getElem? (i := 7) rfl)) (fun _ h9 => h9) rfl dX10_worker_105 ?_
                  refine lv_iload_n hx hb dX10_worker_108 rfl (lv_at hl 3 rfl) ?_
                  obtain ⟨hi53, hF⟩ := ld_s hF
                  refine va_iald hx hb hK hP 34 0 rfl rfl hi53 dX10_worker_109 ?_
                  refine lv_topi (fun y52 ey52 => ?_)
                  replace hF := hF y52 ey52
                  obtain ⟨e1, e2⟩ := ret2 hF
                  have hP : va_P D vwCl (YW y cy Sf) H := by rw [← e2]; exact hP
                  have hD : va_D (va_A (YW y cy S0) s.heap.size) (YW y cy Sf) := by rw [← e2]; exact hD
                  exact W.iret (v := y52) hx hb hr (fun t ht hW => ⟨⟨y52, (), rfl, e1, by rw [ht]; exact hP, va_K.moved hW.alike hK, hD⟩, hS.F ht⟩) hS.2.2 dX10_worker_110
                · skip
                  have hF := (if_pos c51).symm.trans hF
                  refine lv_aload_n hx hb dX10_worker_95 rfl (lv_at hl 1 rfl) ?_
                  refine va_get (D := D) (ci := 10) (v := .ref (y 31)) (C := RX10) (T := TX10) (N := 58) hx hb hts iX10_worker_10 hown hK hP 0 rfl rfl 43 (by decide) (hts (.fieldLink RX10 114 "FondsRoomModel" "fLeft" "[I") (List.mem_of_getElem? (i := 6) rfl)) (fun _ h9 => h9) rfl dX10_worker_96 ?_
                  refine lv_iload_n hx hb dX10_worker_99 rfl (lv_at hl 3 rfl) ?_
                  obtain ⟨hi55, hF⟩ := ld_s hF
                  refine va_iald hx hb hK hP 31 0 rfl rfl hi55 dX10_worker_100 ?_
                  refine lv_topi (fun y54 ey54 => ?_)
                  replace hF := hF y54 ey54
                  refine lv_goto (tgt := 110) hx hb dX10_worker_101 (by decide) ?_
                  obtain ⟨e1, e2⟩ := ret2 hF
                  have hP : va_P D vwCl (YW y cy Sf) H := by rw [← e2]; exact hP
                  have hD : va_D (va_A (YW y cy S0) s.heap.size) (YW y cy Sf) := by rw [← e2]; exact hD
                  exact W.iret (v := y54) hx hb hr (fun t ht hW => ⟨⟨y54, (), rfl, e1, by rw [ht]; exact hP, va_K.moved hW.alike hK, hD⟩, hS.F ht⟩) hS.2.2 dX10_worker_110
              · skip
                have hF := (if_pos c50).symm.trans hF
                refine lv_iconst (v := 0) hx hb dX10_worker_86 (by decide) ?_
                refine lv_goto (tgt := 110) hx hb dX10_worker_87 (by decide) ?_
                obtain ⟨e1, e2⟩ := ret2 hF
                have hP : va_P D vwCl (YW y cy Sf) H := by rw [← e2]; exact hP
                have hD : va_D (va_A (YW y cy S0) s.heap.size) (YW y cy Sf) := by rw [← e2]; exact hD
                exact W.iret (v := 0) hx hb hr (fun t ht hW => ⟨⟨0, (), rfl, e1, by rw [ht]; exact hP, va_K.moved hW.alike hK, hD⟩, hS.F ht⟩) hS.2.2 dX10_worker_110
            · skip
              have hF := (if_pos c49).symm.trans hF
              refine lv_iload hx hb dX10_worker_77 (lv_at hl 0 rfl) ?_
              obtain ⟨e1, e2⟩ := ret2 hF
              have hP : va_P D vwCl (YW y cy Sf) H := by rw [← e2]; exact hP
              have hD : va_D (va_A (YW y cy S0) s.heap.size) (YW y cy Sf) := by rw [← e2]; exact hD
              exact W.iret (v := y47) hx hb hr (fun t ht hW => ⟨⟨y47, (), rfl, e1, by rw [ht]; exact hP, va_K.moved hW.alike hK, hD⟩, hS.F ht⟩) hS.2.2 dX10_worker_79
          · skip
            have hF := (if_pos c46).symm.trans hF
            refine lv_aload_n hx hb dX10_worker_56 rfl (lv_at hl 0 rfl) ?_
            refine va_get (D := D) (ci := 10) (v := .ref (y 30)) (C := RX10) (T := TX10) (N := 58) hx hb hts iX10_worker_10 hown hK hP 0 rfl rfl 42 (by decide) (hts (.fieldLink RX10 111 "FondsRoomModel" "fBox" "[I") (List.mem_of_getElem? (i := 4) rfl)) (fun _ h9 => h9) rfl dX10_worker_57 ?_
            refine lv_iload_n hx hb dX10_worker_60 rfl (lv_at hl 2 rfl) ?_
            obtain ⟨hi57, hF⟩ := ld_s hF
            refine va_iald hx hb hK hP 30 0 rfl rfl hi57 dX10_worker_61 ?_
            refine lv_topi (fun y56 ey56 => ?_)
            replace hF := hF y56 ey56
            refine lv_goto (tgt := 71) hx hb dX10_worker_62 (by decide) ?_
            refine lv_istore (lv' := [(4, .int y56), (0, .ref (y 0)), (1, .int p1), (2, .int p2), (3, .int p3)]) hx hb dX10_worker_71 hl (by decide) rfl (fun ls hl => ?_)
            refine lv_iload_n hx hb dX10_worker_73 rfl (lv_at hl 4 rfl) ?_
            refine lv_if_ne (tgt := 80) hx hb dX10_worker_74 (by decide) (fun c58 => ?_) (fun c58 => ?_)
            · skip
              have hF := (if_neg c58).symm.trans hF
              refine lv_iload hx hb dX10_worker_80 (lv_at hl 0 rfl) ?_
              refine lv_iconst (v := (-1)) hx hb dX10_worker_82 (by decide) ?_
              refine lv_icmp_ne (tgt := 90) hx hb dX10_worker_83 (by decide) (fun c59 => ?_) (fun c59 => ?_)
              · skip
                have hF := (if_neg c59).symm.trans hF
                refine lv_iload_n hx hb dX10_worker_90 rfl (lv_at hl 2 rfl) ?_
                refine lv_iconst (v := 1) hx hb dX10_worker_91 (by decide) ?_
                refine lv_icmp_ne (tgt := 104) hx hb dX10_worker_92 (by decide) (fun c60 => ?_) (fun c60 => ?_)
                · skip
                  have hF := (if_neg c60).symm.trans hF
                  refine lv_aload_n hx hb dX10_worker_104 rfl (lv_at hl 1 rfl) ?_
                  refine va_get (D := D) (ci := 10) (v := .ref (y 34)) (C := RX10) (T := TX10) (N := 58) hx hb hts iX10_worker_10 hown hK hP 0 rfl rfl 46 (by decide) (hts (.fieldLink RX10 123 "FondsRoomModel" "cLeft" "[I") (List.mem_of_getElem? (i := 7) rfl)) (fun _ h9 => h9) rfl dX10_worker_105 ?_
                  refine lv_iload_n hx hb dX10_worker_108 rfl (lv_at hl 3 rfl) ?_
                  obtain ⟨hi62, hF⟩ := ld_s hF
                  refine va_iald hx hb hK hP 34 0 rfl rfl hi62 dX10_worker_109 ?_
                  refine lv_topi (fun y61 ey61 => ?_)
                  replace hF := hF y61 ey61
                  obtain ⟨e1, e2⟩ := ret2 hF
                  have hP : va_P D vwCl (YW y cy Sf) H := by rw [← e2]; exact hP
                  have hD : va_D (va_A (YW y cy S0) s.heap.size) (YW y cy Sf) := by rw [← e2]; exact hD
                  exact W.iret (v := y61) hx hb hr (fun t ht hW => ⟨⟨y61, (), rfl, e1, by rw [ht]; exact hP, va_K.moved hW.alike hK, hD⟩, hS.F ht⟩) hS.2.2 dX10_worker_110
                · skip
                  have hF := (if_pos c60).symm.trans hF
                  refine lv_aload_n hx hb dX10_worker_95 rfl (lv_at hl 1 rfl) ?_
                  refine va_get (D := D) (ci := 10) (v := .ref (y 31)) (C := RX10) (T := TX10) (N := 58) hx hb hts iX10_worker_10 hown hK hP 0 rfl rfl 43 (by decide) (hts (.fieldLink RX10 114 "FondsRoomModel" "fLeft" "[I") (List.mem_of_getElem? (i := 6) rfl)) (fun _ h9 => h9) rfl dX10_worker_96 ?_
                  refine lv_iload_n hx hb dX10_worker_99 rfl (lv_at hl 3 rfl) ?_
                  obtain ⟨hi64, hF⟩ := ld_s hF
                  refine va_iald hx hb hK hP 31 0 rfl rfl hi64 dX10_worker_100 ?_
                  refine lv_topi (fun y63 ey63 => ?_)
                  replace hF := hF y63 ey63
                  refine lv_goto (tgt := 110) hx hb dX10_worker_101 (by decide) ?_
                  obtain ⟨e1, e2⟩ := ret2 hF
                  have hP : va_P D vwCl (YW y cy Sf) H := by rw [← e2]; exact hP
                  have hD : va_D (va_A (YW y cy S0) s.heap.size) (YW y cy Sf) := by rw [← e2]; exact hD
                  exact W.iret (v := y63) hx hb hr (fun t ht hW => ⟨⟨y63, (), rfl, e1, by rw [ht]; exact hP, va_K.moved hW.alike hK, hD⟩, hS.F ht⟩) hS.2.2 dX10_worker_110
              · skip
                have hF := (if_pos c59).symm.trans hF
                refine lv_iconst (v := 0) hx hb dX10_worker_86 (by decide) ?_
                refine lv_goto (tgt := 110) hx hb dX10_worker_87 (by decide) ?_
                obtain ⟨e1, e2⟩ := ret2 hF
                have hP : va_P D vwCl (YW y cy Sf) H := by rw [← e2]; exact hP
                have hD : va_D (va_A (YW y cy S0) s.heap.size) (YW y cy Sf) := by rw [← e2]; exact hD
                exact W.iret (v := 0) hx hb hr (fun t ht hW => ⟨⟨0, (), rfl, e1, by rw [ht]; exact hP, va_K.moved hW.alike hK, hD⟩, hS.F ht⟩) hS.2.2 dX10_worker_110
            · skip
              have hF := (if_pos c58).symm.trans hF
              refine lv_iload hx hb dX10_worker_77 (lv_at hl 0 rfl) ?_
              obtain ⟨e1, e2⟩ := ret2 hF
              have hP : va_P D vwCl (YW y cy Sf) H := by rw [← e2]; exact hP
              have hD : va_D (va_A (YW y cy S0) s.heap.size) (YW y cy Sf) := by rw [← e2]; exact hD
              exact W.iret (v := y56) hx hb hr (fun t ht hW => ⟨⟨y56, (), rfl, e1, by rw [ht]; exact hP, va_K.moved hW.alike hK, hD⟩, hS.F ht⟩) hS.2.2 dX10_worker_79
        · skip
          have hF := (if_pos c45).symm.trans hF
          refine lv_iconst (v := (-1)) hx hb dX10_worker_49 (by decide) ?_
          obtain ⟨e1, e2⟩ := ret2 hF
          have hP : va_P D vwCl (YW y cy Sf) H := by rw [← e2]; exact hP
          have hD : va_D (va_A (YW y cy S0) s.heap.size) (YW y cy Sf) := by rw [← e2]; exact hD
          exact W.iret (v := (-1)) hx hb hr (fun t ht hW => ⟨⟨(-1), (), rfl, e1, by rw [ht]; exact hP, va_K.moved hW.alike hK, hD⟩, hS.F ht⟩) hS.2.2 dX10_worker_50

theorem iX10_queue_10 : ∀ w ∈ wsX100, w ∈ wsX10_queue := fun _ h => List.mem_cons_of_mem _ (List.mem_append_right _ h)
set_option maxHeartbeats 8000000 in
set_option maxRecDepth 100000 in
theorem zX10_queue (l : Launch) (D : va_G) (y : Nat → Nat) (cy : Nat → ClassId) (S0 : RS) (sz : Nat) (p1 p2 : Int32) (rv : Int32) (Sf : RS) (hF : gX10_queue S0 p1 p2 = some (rv, Sf)) : Met l yX10_queue wsX10_queue ({ frames := 2, cells := 0, slots := 0, locals := 44 }) (PW D (TYS cy) (YW y cy S0) sz [.ref (y 0), .int p1, .int p2]) (va_Qi (fun (res : Int32) (u : Unit) => res = rv) (BU D (TYS cy) (YW y cy S0) (fun _ => YW y cy Sf) sz) (va_A (YW y cy S0) sz)) 0 0 (va_A (YW y cy S0) sz) := by
  refine Met.ofW (cc := cX10_queue) (maxL := 7) (ret := (some .int)) (by decide) rfl ?_
  intro p e s m args below meth c s₁ B hml hv
  obtain ⟨rfl, hsz, hP, hK, hD0⟩ := hv
  have hx := B.exec
  have hb := B.bytes
  have hr := B.returns
  have hts := atoms_spec (ws := wsX10_queue) B.pre
  have hown : s.vm.findClass RX10 = some m.cls := findClass_of_methodNamed B.named
  have hlocks := B.notSynchronized
  subst hsz
  have hD := hD0.self (sz := s.heap.size)
  have hA : ∀ q9 : Nat, s.heap.size ≤ q9 → va_A (YW y cy S0) s.heap.size q9 := fun q9 h => Or.inr h
  have hS : va_S (va_A (YW y cy S0) s.heap.size) s.heap s.heap [] := va_S.rf
  have key77 : ∀ (K : Int32 → Int32 → Int32 → Int32 → RS → Option (Int32 × RS)), (∀ (v1 : Int32) (v2 : Int32) (v3 : Int32) (v4 : Int32) (S : RS) (H : Heap) (locs : List Loc) (ls : Array Slot), K v1 v2 v3 v4 S = some (rv, Sf) → va_P D vwCl (YW y cy S) H → va_D (va_A (YW y cy S0) s.heap.size) (YW y cy S) → va_S (va_A (YW y cy S0) s.heap.size) s.heap H locs → lv_has ls 7 [(1, .int v1), (2, .int v2), (3, .int v3), (4, .int v4), (0, .ref (y 0))] → W p l e (headSpec wsX10_queue ({ frames := 2, cells := 0, slots := 0, locals := 44 })).room s m #[.ref (y 0), .int p1, .int p2] below meth c H locs 0 0 (MQ below (va_Qi (fun (res : Int32) (u : Unit) => res = rv) (BU D (TYS cy) (YW y cy S0) (fun _ => YW y cy Sf) s.heap.size) (va_A (YW y cy S0) s.heap.size)) #[.ref (y 0), .int p1, .int p2] s 0 0 (va_A (YW y cy S0) s.heap.size)) (F0 m 208 ls [])) → ∀ (fu : Nat) (v1 : Int32) (v2 : Int32) (v3 : Int32) (v4 : Int32) (v5 : Int32) (S : RS) (H : Heap) (locs : List Loc) (ls : Array Slot), gX10_queue_77 K fu v1 v2 v3 v4 v5 S = some (rv, Sf) → va_P D vwCl (YW y cy S) H → va_D (va_A (YW y cy S0) s.heap.size) (YW y cy S) → va_S (va_A (YW y cy S0) s.heap.size) s.heap H locs → lv_has ls 7 [(1, .int v1), (2, .int v2), (3, .int v3), (4, .int v4), (5, .int v5), (0, .ref (y 0))] → W p l e (headSpec wsX10_queue ({ frames := 2, cells := 0, slots := 0, locals := 44 })).room s m #[.ref (y 0), .int p1, .int p2] below meth c H locs 0 0 (MQ below (va_Qi (fun (res : Int32) (u : Unit) => res = rv) (BU D (TYS cy) (YW y cy S0) (fun _ => YW y cy Sf) s.heap.size) (va_A (YW y cy S0) s.heap.size)) #[.ref (y 0), .int p1, .int p2] s 0 0 (va_A (YW y cy S0) s.heap.size)) (F0 m 77 ls []) := by
    intro K hKK fu
    induction fu with
    | zero =>
      intro v1 v2 v3 v4 v5 S H locs ls hF
      exact absurd (show (none : Option (Int32 × RS)) = some (rv, Sf) from hF) (by simp)
    | succ fu77 ih77 =>
      intro v1 v2 v3 v4 v5 S H locs ls hF hP hD hS hl
      rw [gX10_queue_77] at hF
      refine lv_iload hx hb dX10_queue_77 (lv_at hl 4 rfl) ?_
      refine lv_aload_n hx hb dX10_queue_79 rfl (lv_at hl 5 rfl) ?_
      refine va_get (D := D) (ci := 10) (v := .int (S 0 2)) (C := RX10) (T := TX10) (N := 58) hx hb hts iX10_queue_10 hown hK hP 0 rfl rfl 2 (by decide) (hts (.fieldLink RX10 160 "FondsRoomModel" "boxes" "I") (List.mem_of_getElem? (i := 5) rfl)) (fun _ h9 => h9) rfl dX10_queue_80 ?_
      refine lv_icmp_ge (tgt := 208) hx hb dX10_queue_83 (by decide) (fun c11 => ?_) (fun c11 => ?_)
      · skip
        have hF := (if_pos c11).symm.trans hF
        exact hKK v1 v2 v3 v4 S _ _ _ hF hP hD hS (lv_sub hl [0, 1, 2, 3, 5] rfl)
      · skip
        have hF := (if_neg c11).symm.trans hF
        refine lv_iload_n hx hb dX10_queue_86 rfl (lv_at hl 0 rfl) ?_
        refine lv_iconst (v := 1) hx hb dX10_queue_87 (by decide) ?_
        refine lv_icmp_ne (tgt := 133) hx hb dX10_queue_88 (by decide) (fun c12 => ?_) (fun c12 => ?_)
        · skip
          have hF := (if_neg c12).symm.trans hF
          refine lv_aload_n hx hb dX10_queue_133 rfl (lv_at hl 5 rfl) ?_
          refine va_get (D := D) (ci := 10) (v := .ref (y 5)) (C := RX10) (T := TX10) (N := 58) hx hb hts iX10_queue_10 hown hK hP 0 rfl rfl 13 (by decide) (hts (.fieldLink RX10 36 "FondsRoomModel" "place" "[I") (List.mem_of_getElem? (i := 8) rfl)) (fun _ h9 => h9) rfl dX10_queue_134 ?_
          refine lv_iload hx hb dX10_queue_137 (lv_at hl 4 rfl) ?_
          obtain ⟨hi14, hF⟩ := ld_s hF
          refine va_iald hx hb hK hP 5 0 rfl rfl hi14 dX10_queue_139 ?_
          refine lv_topi (fun y13 ey13 => ?_)
          replace hF := hF y13 ey13
          refine lv_iconst (v := 5) hx hb dX10_queue_140 (by decide) ?_
          refine lv_icmp_ne (tgt := 160) hx hb dX10_queue_141 (by decide) (fun c15 => ?_) (fun c15 => ?_)
          · skip
            have hF := (if_neg c15).symm.trans hF
            refine lv_iconst (v := 0) hx hb dX10_queue_160 (by decide) ?_
            refine lv_istore (lv' := [(6, .int 0), (1, .int v1), (2, .int v2), (3, .int v3), (4, .int v4), (5, .int v5), (0, .ref (y 0))]) hx hb dX10_queue_161 hl (by decide) rfl (fun ls hl => ?_)
            refine lv_iload hx hb dX10_queue_163 (lv_at hl 0 rfl) ?_
            refine lv_if_ne (tgt := 171) hx hb dX10_queue_165 (by decide) (fun c9 => absurd (by decide) c9) (fun _ => ?_)
            refine lv_goto (tgt := 202) hx hb dX10_queue_168 (by decide) ?_
            refine lv_iinc (v := v5 + 1) (lv' := [(5, .int (v5 + 1)), (6, .int 0), (1, .int v1), (2, .int v2), (3, .int v3), (4, .int v4), (0, .ref (y 0))]) hx hb dX10_queue_202 hl (k := 5) rfl rfl (by decide) rfl (fun ls hl => ?_)
            refine lv_goto (tgt := 77) hx hb dX10_queue_205 (by decide) ?_
            exact ih77 v1 v2 v3 v4 (v5 + 1) S _ _ _ hF hP hD hS (lv_sub hl [2, 3, 4, 5, 0, 6] rfl)
          · skip
            have hF := (if_pos c15).symm.trans hF
            refine lv_aload_n hx hb dX10_queue_144 rfl (lv_at hl 5 rfl) ?_
            refine va_get (D := D) (ci := 10) (v := .ref (y 9)) (C := RX10) (T := TX10) (N := 58) hx hb hts iX10_queue_10 hown hK hP 0 rfl rfl 17 (by decide) (hts (.fieldLink RX10 48 "FondsRoomModel" "copyAt" "[I") (List.mem_of_getElem? (i := 9) rfl)) (fun _ h9 => h9) rfl dX10_queue_145 ?_
            refine lv_iload hx hb dX10_queue_148 (lv_at hl 4 rfl) ?_
            obtain ⟨hi17, hF⟩ := ld_s hF
            refine va_iald hx hb hK hP 9 0 rfl rfl hi17 dX10_queue_150 ?_
            refine lv_topi (fun y16 ey16 => ?_)
            replace hF := hF y16 ey16
            refine lv_iload hx hb dX10_queue_151 (lv_at hl 3 rfl) ?_
            refine lv_icmp_ne (tgt := 160) hx hb dX10_queue_153 (by decide) (fun c18 => ?_) (fun c18 => ?_)
            · skip
              have hF := (if_neg c18).symm.trans hF
              refine lv_iconst (v := 0) hx hb dX10_queue_160 (by decide) ?_
              refine lv_istore (lv' := [(6, .int 0), (1, .int v1), (2, .int v2), (3, .int v3), (4, .int v4), (5, .int v5), (0, .ref (y 0))]) hx hb dX10_queue_161 hl (by decide) rfl (fun ls hl => ?_)
              refine lv_iload hx hb dX10_queue_163 (lv_at hl 0 rfl) ?_
              refine lv_if_ne (tgt := 171) hx hb dX10_queue_165 (by decide) (fun c9 => absurd (by decide) c9) (fun _ => ?_)
              refine lv_goto (tgt := 202) hx hb dX10_queue_168 (by decide) ?_
              refine lv_iinc (v := v5 + 1) (lv' := [(5, .int (v5 + 1)), (6, .int 0), (1, .int v1), (2, .int v2), (3, .int v3), (4, .int v4), (0, .ref (y 0))]) hx hb dX10_queue_202 hl (k := 5) rfl rfl (by decide) rfl (fun ls hl => ?_)
              refine lv_goto (tgt := 77) hx hb dX10_queue_205 (by decide) ?_
              exact ih77 v1 v2 v3 v4 (v5 + 1) S _ _ _ hF hP hD hS (lv_sub hl [2, 3, 4, 5, 0, 6] rfl)
            · skip
              have hF := (if_pos c18).symm.trans hF
              refine lv_iconst (v := 1) hx hb dX10_queue_156 (by decide) ?_
              refine lv_goto (tgt := 161) hx hb dX10_queue_157 (by decide) ?_
              refine lv_istore (lv' := [(6, .int 1), (1, .int v1), (2, .int v2), (3, .int v3), (4, .int v4), (5, .int v5), (0, .ref (y 0))]) hx hb dX10_queue_161 hl (by decide) rfl (fun ls hl => ?_)
              refine lv_iload hx hb dX10_queue_163 (lv_at hl 0 rfl) ?_
              refine lv_if_ne (tgt := 171) hx hb dX10_queue_165 (by decide) (fun _ => ?_) (fun c9 => absurd c9 (by decide))
              refine lv_iload_n hx hb dX10_queue_171 rfl (lv_at hl 3 rfl) ?_
              refine lv_iload_n hx hb dX10_queue_172 rfl (lv_at hl 2 rfl) ?_
              refine lv_icmp_ne (tgt := 199) hx hb dX10_queue_173 (by decide) (fun c19 => ?_) (fun c19 => ?_)
              · skip
                have hF := (if_neg c19).symm.trans hF
                refine lv_iinc (v := v3 + 1) (lv' := [(3, .int (v3 + 1)), (6, .int 1), (1, .int v1), (2, .int v2), (4, .int v4), (5, .int v5), (0, .ref (y 0))]) hx hb dX10_queue_199 hl (k := 3) rfl rfl (by decide) rfl (fun ls hl => ?_)
                refine lv_iinc (v := v5 + 1) (lv' := [(5, .int (v5 + 1)), (3, .int (v3 + 1)), (6, .int 1), (1, .int v1), (2, .int v2), (4, .int v4), (0, .ref (y 0))]) hx hb dX10_queue_202 hl (k := 5) rfl rfl (by decide) rfl (fun ls hl => ?_)
                refine lv_goto (tgt := 77) hx hb dX10_queue_205 (by decide) ?_
                exact ih77 v1 v2 (v3 + 1) v4 (v5 + 1) S _ _ _ hF hP hD hS (lv_sub hl [3, 4, 1, 5, 0, 6] rfl)
              · skip
                have hF := (if_pos c19).symm.trans hF
                refine lv_iload_n hx hb dX10_queue_176 rfl (lv_at hl 1 rfl) ?_
                refine lv_iconst (v := 1) hx hb dX10_queue_177 (by decide) ?_
                refine lv_icmp_ne (tgt := 191) hx hb dX10_queue_178 (by decide) (fun c20 => ?_) (fun c20 => ?_)
                · skip
                  have hF := (if_neg c20).symm.trans hF
                  refine lv_aload_n hx hb dX10_queue_191 rfl (lv_at hl 6 rfl) ?_
                  refine va_get (D := D) (ci := 10) (v := .ref (y 6)) (C := RX10) (T := TX10) (N := 58) hx hb hts iX10_queue_10 hown hK hP 0 rfl rfl 14 (by decide) (hts (.fieldLink RX10 39 "FondsRoomModel" "has" "[I") (List.mem_of_getElem? (i := 10) rfl)) (fun _ h9 => h9) rfl dX10_queue_192 ?_
                  refine lv_iload hx hb dX10_queue_195 (lv_at hl 5 rfl) ?_
                  obtain ⟨hi22, hF⟩ := ld_s hF
                  refine va_iald hx hb hK hP 6 0 rfl rfl hi22 dX10_queue_197 ?_
                  refine lv_topi (fun y21 ey21 => ?_)
                  replace hF := hF y21 ey21
                  obtain ⟨e1, e2⟩ := ret2 hF
                  have hP : va_P D vwCl (YW y cy Sf) H := by rw [← e2]; exact hP
                  have hD : va_D (va_A (YW y cy S0) s.heap.size) (YW y cy Sf) := by rw [← e2]; exact hD
                  exact W.iret (v := y21) hx hb hr (fun t ht hW => ⟨⟨y21, (), rfl, e1, by rw [ht]; exact hP, va_K.moved hW.alike hK, hD⟩, hS.F ht⟩) hS.2.2 dX10_queue_198
                · skip
                  have hF := (if_pos c20).symm.trans hF
                  refine lv_aload_n hx hb dX10_queue_181 rfl (lv_at hl 6 rfl) ?_
                  refine va_get (D := D) (ci := 10) (v := .ref (y 7)) (C := RX10) (T := TX10) (N := 58) hx hb hts iX10_queue_10 hown hK hP 0 rfl rfl 15 (by decide) (hts (.fieldLink RX10 42 "FondsRoomModel" "ticket" "[I") (List.mem_of_getElem? (i := 6) rfl)) (fun _ h9 => h9) rfl dX10_queue_182 ?_
                  refine lv_iload hx hb dX10_queue_185 (lv_at hl 5 rfl) ?_
                  obtain ⟨hi24, hF⟩ := ld_s hF
                  refine va_iald hx hb hK hP 7 0 rfl rfl hi24 dX10_queue_187 ?_
                  refine lv_topi (fun y23 ey23 => ?_)
                  replace hF := hF y23 ey23
                  refine lv_goto (tgt := 198) hx hb dX10_queue_188 (by decide) ?_
                  obtain ⟨e1, e2⟩ := ret2 hF
                  have hP : va_P D vwCl (YW y cy Sf) H := by rw [← e2]; exact hP
                  have hD : va_D (va_A (YW y cy S0) s.heap.size) (YW y cy Sf) := by rw [← e2]; exact hD
                  exact W.iret (v := y23) hx hb hr (fun t ht hW => ⟨⟨y23, (), rfl, e1, by rw [ht]; exact hP, va_K.moved hW.alike hK, hD⟩, hS.F ht⟩) hS.2.2 dX10_queue_198
        · skip
          have hF := (if_pos c12).symm.trans hF
          refine lv_aload_n hx hb dX10_queue_91 rfl (lv_at hl 5 rfl) ?_
          refine va_get (D := D) (ci := 10) (v := .ref (y 7)) (C := RX10) (T := TX10) (N := 58) hx hb hts iX10_queue_10 hown hK hP 0 rfl rfl 15 (by decide) (hts (.fieldLink RX10 42 "FondsRoomModel" "ticket" "[I") (List.mem_of_getElem? (i := 6) rfl)) (fun _ h9 => h9) rfl dX10_queue_92 ?_
          refine lv_iload hx hb dX10_queue_95 (lv_at hl 4 rfl) ?_
          obtain ⟨hi26, hF⟩ := ld_s hF
          refine va_iald hx hb hK hP 7 0 rfl rfl hi26 dX10_queue_97 ?_
          refine lv_topi (fun y25 ey25 => ?_)
          replace hF := hF y25 ey25
          refine lv_iconst (v := (-1)) hx hb dX10_queue_98 (by decide) ?_
          refine lv_icmp_eq (tgt := 129) hx hb dX10_queue_99 (by decide) (fun c27 => ?_) (fun c27 => ?_)
          · skip
            have hF := (if_pos c27).symm.trans hF
            refine lv_iconst (v := 0) hx hb dX10_queue_129 (by decide) ?_
            refine lv_goto (tgt := 161) hx hb dX10_queue_130 (by decide) ?_
            refine lv_istore (lv' := [(6, .int 0), (1, .int v1), (2, .int v2), (3, .int v3), (4, .int v4), (5, .int v5), (0, .ref (y 0))]) hx hb dX10_queue_161 hl (by decide) rfl (fun ls hl => ?_)
            refine lv_iload hx hb dX10_queue_163 (lv_at hl 0 rfl) ?_
            refine lv_if_ne (tgt := 171) hx hb dX10_queue_165 (by decide) (fun c9 => absurd (by decide) c9) (fun _ => ?_)
            refine lv_goto (tgt := 202) hx hb dX10_queue_168 (by decide) ?_
            refine lv_iinc (v := v5 + 1) (lv' := [(5, .int (v5 + 1)), (6, .int 0), (1, .int v1), (2, .int v2), (3, .int v3), (4, .int v4), (0, .ref (y 0))]) hx hb dX10_queue_202 hl (k := 5) rfl rfl (by decide) rfl (fun ls hl => ?_)
            refine lv_goto (tgt := 77) hx hb dX10_queue_205 (by decide) ?_
            exact ih77 v1 v2 v3 v4 (v5 + 1) S _ _ _ hF hP hD hS (lv_sub hl [2, 3, 4, 5, 0, 6] rfl)
          · skip
            have hF := (if_neg c27).symm.trans hF
            refine lv_aload_n hx hb dX10_queue_102 rfl (lv_at hl 5 rfl) ?_
            refine va_get (D := D) (ci := 10) (v := .ref (y 8)) (C := RX10) (T := TX10) (N := 58) hx hb hts iX10_queue_10 hown hK hP 0 rfl rfl 16 (by decide) (hts (.fieldLink RX10 45 "FondsRoomModel" "ticketAt" "[I") (List.mem_of_getElem? (i := 7) rfl)) (fun _ h9 => h9) rfl dX10_queue_103 ?_
            refine lv_iload hx hb dX10_queue_106 (lv_at hl 4 rfl) ?_
            obtain ⟨hi29, hF⟩ := ld_s hF
            refine va_iald hx hb hK hP 8 0 rfl rfl hi29 dX10_queue_108 ?_
            refine lv_topi (fun y28 ey28 => ?_)
            replace hF := hF y28 ey28
            refine lv_iload hx hb dX10_queue_109 (lv_at hl 3 rfl) ?_
            refine lv_icmp_ne (tgt := 129) hx hb dX10_queue_111 (by decide) (fun c30 => ?_) (fun c30 => ?_)
            · skip
              have hF := (if_neg c30).symm.trans hF
              refine lv_iconst (v := 0) hx hb dX10_queue_129 (by decide) ?_
              refine lv_goto (tgt := 161) hx hb dX10_queue_130 (by decide) ?_
              refine lv_istore (lv' := [(6, .int 0), (1, .int v1), (2, .int v2), (3, .int v3), (4, .int v4), (5, .int v5), (0, .ref (y 0))]) hx hb dX10_queue_161 hl (by decide) rfl (fun ls hl => ?_)
              refine lv_iload hx hb dX10_queue_163 (lv_at hl 0 rfl) ?_
              refine lv_if_ne (tgt := 171) hx hb dX10_queue_165 (by decide) (fun c9 => absurd (by decide) c9) (fun _ => ?_)
              refine lv_goto (tgt := 202) hx hb dX10_queue_168 (by decide) ?_
              refine lv_iinc (v := v5 + 1) (lv' := [(5, .int (v5 + 1)), (6, .int 0), (1, .int v1), (2, .int v2), (3, .int v3), (4, .int v4), (0, .ref (y 0))]) hx hb dX10_queue_202 hl (k := 5) rfl rfl (by decide) rfl (fun ls hl => ?_)
              refine lv_goto (tgt := 77) hx hb dX10_queue_205 (by decide) ?_
              exact ih77 v1 v2 v3 v4 (v5 + 1) S _ _ _ hF hP hD hS (lv_sub hl [2, 3, 4, 5, 0, 6] rfl)
            · skip
              have hF := (if_pos c30).symm.trans hF
              refine lv_aload_n hx hb dX10_queue_114 rfl (lv_at hl 5 rfl) ?_
              refine va_get (D := D) (ci := 10) (v := .ref (y 5)) (C := RX10) (T := TX10) (N := 58) hx hb hts iX10_queue_10 hown hK hP 0 rfl rfl 13 (by decide) (hts (.fieldLink RX10 36 "FondsRoomModel" "place" "[I") (List.mem_of_getElem? (i := 8) rfl)) (fun _ h9 => h9) rfl dX10_queue_115 ?_
              refine lv_iload hx hb dX10_queue_118 (lv_at hl 4 rfl) ?_
              obtain ⟨hi32, hF⟩ := ld_s hF
              refine va_iald hx hb hK hP 5 0 rfl rfl hi32 dX10_queue_120 ?_
              refine lv_topi (fun y31 ey31 => ?_)
              replace hF := hF y31 ey31
              refine lv_iconst (v := 3) hx hb dX10_queue_121 (by decide) ?_
              refine lv_icmp_eq (tgt := 129) hx hb dX10_queue_122 (by decide) (fun c33 => ?_) (fun c33 => ?_)
              · skip
                have hF := (if_pos c33).symm.trans hF
                refine lv_iconst (v := 0) hx hb dX10_queue_129 (by decide) ?_
                refine lv_goto (tgt := 161) hx hb dX10_queue_130 (by decide) ?_
                refine lv_istore (lv' := [(6, .int 0), (1, .int v1), (2, .int v2), (3, .int v3), (4, .int v4), (5, .int v5), (0, .ref (y 0))]) hx hb dX10_queue_161 hl (by decide) rfl (fun ls hl => ?_)
                refine lv_iload hx hb dX10_queue_163 (lv_at hl 0 rfl) ?_
                refine lv_if_ne (tgt := 171) hx hb dX10_queue_165 (by decide) (fun c9 => absurd (by decide) c9) (fun _ => ?_)
                refine lv_goto (tgt := 202) hx hb dX10_queue_168 (by decide) ?_
                refine lv_iinc (v := v5 + 1) (lv' := [(5, .int (v5 + 1)), (6, .int 0), (1, .int v1), (2, .int v2), (3, .int v3), (4, .int v4), (0, .ref (y 0))]) hx hb dX10_queue_202 hl (k := 5) rfl rfl (by decide) rfl (fun ls hl => ?_)
                refine lv_goto (tgt := 77) hx hb dX10_queue_205 (by decide) ?_
                exact ih77 v1 v2 v3 v4 (v5 + 1) S _ _ _ hF hP hD hS (lv_sub hl [2, 3, 4, 5, 0, 6] rfl)
              · skip
                have hF := (if_neg c33).symm.trans hF
                refine lv_iconst (v := 1) hx hb dX10_queue_125 (by decide) ?_
                refine lv_goto (tgt := 161) hx hb dX10_queue_126 (by decide) ?_
                refine lv_istore (lv' := [(6, .int 1), (1, .int v1), (2, .int v2), (3, .int v3), (4, .int v4), (5, .int v5), (0, .ref (y 0))]) hx hb dX10_queue_161 hl (by decide) rfl (fun ls hl => ?_)
                refine lv_iload hx hb dX10_queue_163 (lv_at hl 0 rfl) ?_
                refine lv_if_ne (tgt := 171) hx hb dX10_queue_165 (by decide) (fun _ => ?_) (fun c9 => absurd c9 (by decide))
                refine lv_iload_n hx hb dX10_queue_171 rfl (lv_at hl 3 rfl) ?_
                refine lv_iload_n hx hb dX10_queue_172 rfl (lv_at hl 2 rfl) ?_
                refine lv_icmp_ne (tgt := 199) hx hb dX10_queue_173 (by decide) (fun c34 => ?_) (fun c34 => ?_)
                · skip
                  have hF := (if_neg c34).symm.trans hF
                  refine lv_iinc (v := v3 + 1) (lv' := [(3, .int (v3 + 1)), (6, .int 1), (1, .int v1), (2, .int v2), (4, .int v4), (5, .int v5), (0, .ref (y 0))]) hx hb dX10_queue_199 hl (k := 3) rfl rfl (by decide) rfl (fun ls hl => ?_)
                  refine lv_iinc (v := v5 + 1) (lv' := [(5, .int (v5 + 1)), (3, .int (v3 + 1)), (6, .int 1), (1, .int v1), (2, .int v2), (4, .int v4), (0, .ref (y 0))]) hx hb dX10_queue_202 hl (k := 5) rfl rfl (by decide) rfl (fun ls hl => ?_)
                  refine lv_goto (tgt := 77) hx hb dX10_queue_205 (by decide) ?_
                  exact ih77 v1 v2 (v3 + 1) v4 (v5 + 1) S _ _ _ hF hP hD hS (lv_sub hl [3, 4, 1, 5, 0, 6] rfl)
                · skip
                  have hF := (if_pos c34).symm.trans hF
                  refine lv_iload_n hx hb dX10_queue_176 rfl (lv_at hl 1 rfl) ?_
                  refine lv_iconst (v := 1) hx hb dX10_queue_177 (by decide) ?_
                  refine lv_icmp_ne (tgt := 191) hx hb dX10_queue_178 (by decide) (fun c35 => ?_) (fun c35 => ?_)
                  · skip
                    have hF := (if_neg c35).symm.trans hF
                    refine lv_aload_n hx hb dX10_queue_191 rfl (lv_at hl 6 rfl) ?_
                    refine va_get (D := D) (ci := 10) (v := .ref (y 6)) (C := RX10) (T := TX10) (N := 58) hx hb hts iX10_queue_10 hown hK hP 0 rfl rfl 14 (by decide) (hts (.fieldLink RX10 39 "FondsRoomModel" "has" "[I") (List.mem_of_getElem? (i := 10) rfl)) (fun _ h9 => h9) rfl dX10_queue_192 ?_
                    refine lv_iload hx hb dX10_queue_195 (lv_at hl 5 rfl) ?_
                    obtain ⟨hi37, hF⟩ := ld_s hF
                    refine va_iald hx hb hK hP 6 0 rfl rfl hi37 dX10_queue_197 ?_
                    refine lv_topi (fun y36 ey36 => ?_)
                    replace hF := hF y36 ey36
                    obtain ⟨e1, e2⟩ := ret2 hF
                    have hP : va_P D vwCl (YW y cy Sf) H := by rw [← e2]; exact hP
                    have hD : va_D (va_A (YW y cy S0) s.heap.size) (YW y cy Sf) := by rw [← e2]; exact hD
                    exact W.iret (v := y36) hx hb hr (fun t ht hW => ⟨⟨y36, (), rfl, e1, by rw [ht]; exact hP, va_K.moved hW.alike hK, hD⟩, hS.F ht⟩) hS.2.2 dX10_queue_198
                  · skip
                    have hF := (if_pos c35).symm.trans hF
                    refine lv_aload_n hx hb dX10_queue_181 rfl (lv_at hl 6 rfl) ?_
                    refine va_get (D := D) (ci := 10) (v := .ref (y 7)) (C := RX10) (T := TX10) (N := 58) hx hb hts iX10_queue_10 hown hK hP 0 rfl rfl 15 (by decide) (hts (.fieldLink RX10 42 "FondsRoomModel" "ticket" "[I") (List.mem_of_getElem? (i := 6) rfl)) (fun _ h9 => h9) rfl dX10_queue_182 ?_
                    refine lv_iload hx hb dX10_queue_185 (lv_at hl 5 rfl) ?_
                    obtain ⟨hi39, hF⟩ := ld_s hF
                    refine va_iald hx hb hK hP 7 0 rfl rfl hi39 dX10_queue_187 ?_
                    refine lv_topi (fun y38 ey38 => ?_)
                    replace hF := hF y38 ey38
                    refine lv_goto (tgt := 198) hx hb dX10_queue_188 (by decide) ?_
                    obtain ⟨e1, e2⟩ := ret2 hF
                    have hP : va_P D vwCl (YW y cy Sf) H := by rw [← e2]; exact hP
                    have hD : va_D (va_A (YW y cy S0) s.heap.size) (YW y cy Sf) := by rw [← e2]; exact hD
                    exact W.iret (v := y38) hx hb hr (fun t ht hW => ⟨⟨y38, (), rfl, e1, by rw [ht]; exact hP, va_K.moved hW.alike hK, hD⟩, hS.F ht⟩) hS.2.2 dX10_queue_198
  have key65 : ∀ (K : Int32 → Int32 → RS → Option (Int32 × RS)), (∀ (v2 : Int32) (v3 : Int32) (S : RS) (H : Heap) (locs : List Loc) (ls : Array Slot), K v2 v3 S = some (rv, Sf) → va_P D vwCl (YW y cy S) H → va_D (va_A (YW y cy S0) s.heap.size) (YW y cy S) → va_S (va_A (YW y cy S0) s.heap.size) s.heap H locs → lv_has ls 7 [(2, .int v2), (3, .int v3)] → W p l e (headSpec wsX10_queue ({ frames := 2, cells := 0, slots := 0, locals := 44 })).room s m #[.ref (y 0), .int p1, .int p2] below meth c H locs 0 0 (MQ below (va_Qi (fun (res : Int32) (u : Unit) => res = rv) (BU D (TYS cy) (YW y cy S0) (fun _ => YW y cy Sf) s.heap.size) (va_A (YW y cy S0) s.heap.size)) #[.ref (y 0), .int p1, .int p2] s 0 0 (va_A (YW y cy S0) s.heap.size)) (F0 m 214 ls [])) → ∀ (fu : Nat) (v1 : Int32) (v2 : Int32) (v3 : Int32) (v4 : Int32) (S : RS) (H : Heap) (locs : List Loc) (ls : Array Slot), gX10_queue_65 K fu v1 v2 v3 v4 S = some (rv, Sf) → va_P D vwCl (YW y cy S) H → va_D (va_A (YW y cy S0) s.heap.size) (YW y cy S) → va_S (va_A (YW y cy S0) s.heap.size) s.heap H locs → lv_has ls 7 [(1, .int v1), (2, .int v2), (3, .int v3), (4, .int v4), (0, .ref (y 0))] → W p l e (headSpec wsX10_queue ({ frames := 2, cells := 0, slots := 0, locals := 44 })).room s m #[.ref (y 0), .int p1, .int p2] below meth c H locs 0 0 (MQ below (va_Qi (fun (res : Int32) (u : Unit) => res = rv) (BU D (TYS cy) (YW y cy S0) (fun _ => YW y cy Sf) s.heap.size) (va_A (YW y cy S0) s.heap.size)) #[.ref (y 0), .int p1, .int p2] s 0 0 (va_A (YW y cy S0) s.heap.size)) (F0 m 65 ls []) := by
    intro K hKK fu
    induction fu with
    | zero =>
      intro v1 v2 v3 v4 S H locs ls hF
      exact absurd (show (none : Option (Int32 × RS)) = some (rv, Sf) from hF) (by simp)
    | succ fu65 ih65 =>
      intro v1 v2 v3 v4 S H locs ls hF hP hD hS hl
      rw [gX10_queue_65] at hF
      refine lv_iload hx hb dX10_queue_65 (lv_at hl 3 rfl) ?_
      refine lv_aload_n hx hb dX10_queue_67 rfl (lv_at hl 4 rfl) ?_
      refine va_get (D := D) (ci := 10) (v := .int (S 0 20)) (C := RX10) (T := TX10) (N := 58) hx hb hts iX10_queue_10 hown hK hP 0 rfl rfl 20 (by decide) (hts (.fieldLink RX10 224 "FondsRoomModel" "tickets" "I") (List.mem_of_getElem? (i := 4) rfl)) (fun _ h9 => h9) rfl dX10_queue_68 ?_
      refine lv_icmp_ge (tgt := 214) hx hb dX10_queue_71 (by decide) (fun c10 => ?_) (fun c10 => ?_)
      · skip
        have hF := (if_pos c10).symm.trans hF
        exact hKK v2 v3 S _ _ _ hF hP hD hS (lv_sub hl [1, 2] rfl)
      · skip
        have hF := (if_neg c10).symm.trans hF
        refine lv_iconst (v := 0) hx hb dX10_queue_74 (by decide) ?_
        refine lv_istore (lv' := [(5, .int 0), (1, .int v1), (2, .int v2), (3, .int v3), (4, .int v4), (0, .ref (y 0))]) hx hb dX10_queue_75 hl (by decide) rfl (fun ls hl => ?_)
        refine key77 _ ?_ 1000 v1 v2 v3 v4 0 S _ _ _ hF hP hD hS (lv_sub hl [1, 2, 3, 4, 0, 5] rfl)
        intro v1_40 v2_41 v3_42 v4_43 S44 H locs ls hF hP hD hS hl
        refine lv_iinc (v := v4_43 + 1) (lv' := [(4, .int (v4_43 + 1)), (1, .int v1_40), (2, .int v2_41), (3, .int v3_42), (0, .ref (y 0))]) hx hb dX10_queue_208 hl (k := 3) rfl rfl (by decide) rfl (fun ls hl => ?_)
        refine lv_goto (tgt := 65) hx hb dX10_queue_211 (by decide) ?_
        exact ih65 v1_40 v2_41 v3_42 (v4_43 + 1) S44 _ _ _ hF hP hD hS (lv_sub hl [1, 2, 3, 0, 4] rfl)
  have hl := lv_entry ([.ref (y 0), .int p1, .int p2]) (n := 7) (Nat.le_of_ble_eq_true rfl)
  rw [lg_entry_eq]
  generalize (lg_sl ([.ref (y 0), .int p1, .int p2]) ++ List.replicate (7 - (lg_sl ([.ref (y 0), .int p1, .int p2])).length) Slot.unset).toArray = ls at hl ⊢
  have hl : lv_has ls 7 [(0, .ref (y 0)), (1, .int p1), (2, .int p2)] := hl
  unfold gX10_queue at hF
  refine lv_aload_n hx hb dX10_queue_0 rfl (lv_at hl 0 rfl) ?_
  refine lv_iconst (v := 0) hx hb dX10_queue_1 (by decide) ?_
  refine va_put (D := D) (ci := 10) (v := .int 0) (ty := .int) (C := RX10) (T := TX10) (N := 58) hx hb hts iX10_queue_10 tyX10 tyX10_ok nmX10 hown hK hP hD hS 0 rfl rfl 0 (by decide) (hts (.fieldLink RX10 150 "FondsRoomModel" "thrown" "I") (List.mem_of_getElem? (i := 1) rfl)) (fun _ h9 => h9) rfl (by decide +kernel) rfl rfl (Nat.le_of_ble_eq_true rfl) dX10_queue_2 (fun H locs hP hD hS => ?_)
  obtain ⟨S1, eS1⟩ : ∃ z, z = wr S0 0 0 0 := ⟨_, rfl⟩
  replace hF := bnd_s hF S1 eS1
  have hP : va_P D vwCl (YW y cy S1) H := by rw [eS1]; exact hP
  have hD : va_D (va_A (YW y cy S0) s.heap.size) (YW y cy S1) := by rw [eS1]; exact hD
  refine lv_iload_n hx hb dX10_queue_5 rfl (lv_at hl 1 rfl) ?_
  refine lv_iconst (v := 0) hx hb dX10_queue_6 (by decide) ?_
  refine lv_iconst (v := 2) hx hb dX10_queue_7 (by decide) ?_
  obtain ⟨r2, hq5, hF⟩ := bd1_s hF
  refine gsI (As := [.int p1, .int 0, .int 2]) (rest := []) ⟨hx, hb, hml, hown, hts⟩ (zX10_in l D y cy S1 _ p1 0 2 r2 hq5) (va_cwS 3 hts gX10_queue_X10_in rfl rfl rfl (by decide +kernel) ⟨Nat.le_of_ble_eq_true rfl, Nat.le_of_ble_eq_true rfl⟩) hK hP hD hS hA rfl hl.1 rfl (Nat.le_of_ble_eq_true rfl) dX10_queue_8 ⟨Nat.le_of_ble_eq_true rfl, Nat.le_of_ble_eq_true rfl⟩ (fun a6 u9 H locs hw4 hP hD hS => ?_)
  have hP : va_P D vwCl (YW y cy S1) H := hP
  have hD : va_D _ (YW y cy S1) := hD
  refine lv_tov (v' := .int r2) (congrArg Value.int hw4.1) ?_
  refine lv_if_eq (tgt := 19) hx hb dX10_queue_11 (by decide) (fun c7 => ?_) (fun c7 => ?_)
  · skip
    have hF := (if_pos c7).symm.trans hF
    refine lv_iconst (v := (-1)) hx hb dX10_queue_19 (by decide) ?_
    obtain ⟨e1, e2⟩ := ret2 hF
    have hP : va_P D vwCl (YW y cy Sf) H := by rw [← e2]; exact hP
    have hD : va_D (va_A (YW y cy S0) s.heap.size) (YW y cy Sf) := by rw [← e2]; exact hD
    exact W.iret (v := (-1)) hx hb hr (fun t ht hW => ⟨⟨(-1), (), rfl, e1, by rw [ht]; exact hP, va_K.moved hW.alike hK, hD⟩, hS.F ht⟩) hS.2.2 dX10_queue_20
  · skip
    have hF := (if_neg c7).symm.trans hF
    refine lv_iload_n hx hb dX10_queue_14 rfl (lv_at hl 2 rfl) ?_
    refine lv_iconst (v := (-1)) hx hb dX10_queue_15 (by decide) ?_
    refine lv_icmp_ge (tgt := 21) hx hb dX10_queue_16 (by decide) (fun c8 => ?_) (fun c8 => ?_)
    · skip
      have hF := (if_pos c8).symm.trans hF
      refine lv_iload_n hx hb dX10_queue_21 rfl (lv_at hl 1 rfl) ?_
      refine lv_if_ne (tgt := 60) hx hb dX10_queue_22 (by decide) (fun c9 => ?_) (fun c9 => ?_)
      · skip
        have hF := (if_neg c9).symm.trans hF
        refine lv_iconst (v := 0) hx hb dX10_queue_60 (by decide) ?_
        refine lv_istore_n (lv' := [(3, .int 0), (0, .ref (y 0)), (1, .int p1), (2, .int p2)]) hx hb dX10_queue_61 rfl hl (by decide) rfl (fun ls hl => ?_)
        refine lv_iconst (v := 0) hx hb dX10_queue_62 (by decide) ?_
        refine lv_istore (lv' := [(4, .int 0), (3, .int 0), (0, .ref (y 0)), (1, .int p1), (2, .int p2)]) hx hb dX10_queue_63 hl (by decide) rfl (fun ls hl => ?_)
        refine key65 _ ?_ 3000000000 p1 p2 0 0 S1 _ _ _ hF hP hD hS (lv_sub hl [3, 4, 1, 0, 2] rfl)
        intro v2_45 v3_46 S47 H locs ls hF hP hD hS hl
        refine lv_iload_n hx hb dX10_queue_214 rfl (lv_at hl 0 rfl) ?_
        refine lv_iconst (v := (-1)) hx hb dX10_queue_215 (by decide) ?_
        refine lv_icmp_ne (tgt := 223) hx hb dX10_queue_216 (by decide) (fun c48 => ?_) (fun c48 => ?_)
        · skip
          have hF := (if_neg c48).symm.trans hF
          refine lv_iconst (v := (-1)) hx hb dX10_queue_223 (by decide) ?_
          obtain ⟨e1, e2⟩ := ret2 hF
          have hP : va_P D vwCl (YW y cy Sf) H := by rw [← e2]; exact hP
          have hD : va_D (va_A (YW y cy S0) s.heap.size) (YW y cy Sf) := by rw [← e2]; exact hD
          exact W.iret (v := (-1)) hx hb hr (fun t ht hW => ⟨⟨(-1), (), rfl, e1, by rw [ht]; exact hP, va_K.moved hW.alike hK, hD⟩, hS.F ht⟩) hS.2.2 dX10_queue_224
        · skip
          have hF := (if_pos c48).symm.trans hF
          refine lv_iload_n hx hb dX10_queue_219 rfl (lv_at hl 1 rfl) ?_
          refine lv_goto (tgt := 224) hx hb dX10_queue_220 (by decide) ?_
          obtain ⟨e1, e2⟩ := ret2 hF
          have hP : va_P D vwCl (YW y cy Sf) H := by rw [← e2]; exact hP
          have hD : va_D (va_A (YW y cy S0) s.heap.size) (YW y cy Sf) := by rw [← e2]; exact hD
          exact W.iret (v := v3_46) hx hb hr (fun t ht hW => ⟨⟨v3_46, (), rfl, e1, by rw [ht]; exact hP, va_K.moved hW.alike hK, hD⟩, hS.F ht⟩) hS.2.2 dX10_queue_224
      · skip
        have hF := (if_pos c9).symm.trans hF
        refine lv_aload_n hx hb dX10_queue_25 rfl (lv_at hl 0 rfl) ?_
        obtain ⟨S50, hq52, hF⟩ := bd1_s hF
        refine gvV (As := []) (rest := []) ⟨hx, hb, hml, hown, hts⟩ (zX10_findLine l D y cy S1 _  S50 hq52) (cwV 0 hts gX10_queue_X10_findLine rfl rfl rfl (by decide +kernel) ⟨Nat.le_of_ble_eq_true rfl, Nat.le_of_ble_eq_true rfl⟩) hK hP hD hS hA (va_recv hK hP (ci := 10) (q0 := 0) rfl rfl) rfl hl.1 rfl (Nat.le_of_ble_eq_true rfl) dX10_queue_26 ⟨Nat.le_of_ble_eq_true rfl, Nat.le_of_ble_eq_true rfl⟩ (fun u9 H locs hw51 hP hD hS => ?_)
        have hP : va_P D vwCl (YW y cy S50) H := hP
        have hD : va_D _ (YW y cy S50) := hD
        refine lv_iload_n hx hb dX10_queue_29 rfl (lv_at hl 2 rfl) ?_
        refine lv_iconst (v := (-1)) hx hb dX10_queue_30 (by decide) ?_
        refine lv_icmp_ne (tgt := 41) hx hb dX10_queue_31 (by decide) (fun c54 => ?_) (fun c54 => ?_)
        · skip
          have hF := (if_neg c54).symm.trans hF
          refine lv_iload_n hx hb dX10_queue_41 rfl (lv_at hl 2 rfl) ?_
          refine lv_aload_n hx hb dX10_queue_42 rfl (lv_at hl 0 rfl) ?_
          refine va_get (D := D) (ci := 10) (v := .int (S50 0 57)) (C := RX10) (T := TX10) (N := 58) hx hb hts iX10_queue_10 hown hK hP 0 rfl rfl 57 (by decide) (hts (.fieldLink RX10 230 "FondsRoomModel" "lined" "I") (List.mem_of_getElem? (i := 2) rfl)) (fun _ h9 => h9) rfl dX10_queue_43 ?_
          refine lv_icmp_ge (tgt := 58) hx hb dX10_queue_46 (by decide) (fun c55 => ?_) (fun c55 => ?_)
          · skip
            have hF := (if_pos c55).symm.trans hF
            refine lv_iconst (v := (-1)) hx hb dX10_queue_58 (by decide) ?_
            obtain ⟨e1, e2⟩ := ret2 hF
            have hP : va_P D vwCl (YW y cy Sf) H := by rw [← e2]; exact hP
            have hD : va_D (va_A (YW y cy S0) s.heap.size) (YW y cy Sf) := by rw [← e2]; exact hD
            exact W.iret (v := (-1)) hx hb hr (fun t ht hW => ⟨⟨(-1), (), rfl, e1, by rw [ht]; exact hP, va_K.moved hW.alike hK, hD⟩, hS.F ht⟩) hS.2.2 dX10_queue_59
          · skip
            have hF := (if_neg c55).symm.trans hF
            refine lv_aload_n hx hb dX10_queue_49 rfl (lv_at hl 0 rfl) ?_
            refine va_get (D := D) (ci := 10) (v := .ref (y 42)) (C := RX10) (T := TX10) (N := 58) hx hb hts iX10_queue_10 hown hK hP 0 rfl rfl 56 (by decide) (hts (.fieldLink RX10 147 "FondsRoomModel" "line" "[I") (List.mem_of_getElem? (i := 3) rfl)) (fun _ h9 => h9) rfl dX10_queue_50 ?_
            refine lv_iload_n hx hb dX10_queue_53 rfl (lv_at hl 2 rfl) ?_
            obtain ⟨hi57, hF⟩ := ld_s hF
            refine va_iald hx hb hK hP 42 0 rfl rfl hi57 dX10_queue_54 ?_
            refine lv_topi (fun y56 ey56 => ?_)
            replace hF := hF y56 ey56
            refine lv_goto (tgt := 59) hx hb dX10_queue_55 (by decide) ?_
            obtain ⟨e1, e2⟩ := ret2 hF
            have hP : va_P D vwCl (YW y cy Sf) H := by rw [← e2]; exact hP
            have hD : va_D (va_A (YW y cy S0) s.heap.size) (YW y cy Sf) := by rw [← e2]; exact hD
            exact W.iret (v := y56) hx hb hr (fun t ht hW => ⟨⟨y56, (), rfl, e1, by rw [ht]; exact hP, va_K.moved hW.alike hK, hD⟩, hS.F ht⟩) hS.2.2 dX10_queue_59
        · skip
          have hF := (if_pos c54).symm.trans hF
          refine lv_aload_n hx hb dX10_queue_34 rfl (lv_at hl 0 rfl) ?_
          refine va_get (D := D) (ci := 10) (v := .int (S50 0 57)) (C := RX10) (T := TX10) (N := 58) hx hb hts iX10_queue_10 hown hK hP 0 rfl rfl 57 (by decide) (hts (.fieldLink RX10 230 "FondsRoomModel" "lined" "I") (List.mem_of_getElem? (i := 2) rfl)) (fun _ h9 => h9) rfl dX10_queue_35 ?_
          refine lv_goto (tgt := 59) hx hb dX10_queue_38 (by decide) ?_
          obtain ⟨e1, e2⟩ := ret2 hF
          have hP : va_P D vwCl (YW y cy Sf) H := by rw [← e2]; exact hP
          have hD : va_D (va_A (YW y cy S0) s.heap.size) (YW y cy Sf) := by rw [← e2]; exact hD
          exact W.iret (v := (S50 0 57)) hx hb hr (fun t ht hW => ⟨⟨(S50 0 57), (), rfl, e1, by rw [ht]; exact hP, va_K.moved hW.alike hK, hD⟩, hS.F ht⟩) hS.2.2 dX10_queue_59
    · skip
      have hF := (if_neg c8).symm.trans hF
      refine lv_iconst (v := (-1)) hx hb dX10_queue_19 (by decide) ?_
      obtain ⟨e1, e2⟩ := ret2 hF
      have hP : va_P D vwCl (YW y cy Sf) H := by rw [← e2]; exact hP
      have hD : va_D (va_A (YW y cy S0) s.heap.size) (YW y cy Sf) := by rw [← e2]; exact hD
      exact W.iret (v := (-1)) hx hb hr (fun t ht hW => ⟨⟨(-1), (), rfl, e1, by rw [ht]; exact hP, va_K.moved hW.alike hK, hD⟩, hS.F ht⟩) hS.2.2 dX10_queue_20

theorem iX10_event__10 : ∀ w ∈ wsX100, w ∈ wsX10_event_ := fun _ h => List.mem_cons_of_mem _ (List.mem_append_right _ h)
set_option maxHeartbeats 8000000 in
set_option maxRecDepth 100000 in
theorem zX10_event_ (l : Launch) (D : va_G) (y : Nat → Nat) (cy : Nat → ClassId) (S0 : RS) (sz : Nat) (p1 p2 : Int32) (rv : Int32) (Sf : RS) (hF : gX10_event_ S0 p1 p2 = some (rv, Sf)) : Met l yX10_event_ wsX10_event_ ({ frames := 1, cells := 0, slots := 0, locals := 22 }) (PW D (TYS cy) (YW y cy S0) sz [.ref (y 0), .int p1, .int p2]) (va_Qi (fun (res : Int32) (u : Unit) => res = rv) (BU D (TYS cy) (YW y cy S0) (fun _ => YW y cy Sf) sz) (va_A (YW y cy S0) sz)) 0 0 (va_A (YW y cy S0) sz) := by
  refine Met.ofW (cc := cX10_event_) (maxL := 3) (ret := (some .int)) (by decide) rfl ?_
  intro p e s m args below meth c s₁ B hml hv
  obtain ⟨rfl, hsz, hP, hK, hD0⟩ := hv
  have hx := B.exec
  have hb := B.bytes
  have hr := B.returns
  have hts := atoms_spec (ws := wsX10_event_) B.pre
  have hown : s.vm.findClass RX10 = some m.cls := findClass_of_methodNamed B.named
  have hlocks := B.notSynchronized
  subst hsz
  have hD := hD0.self (sz := s.heap.size)
  have hA : ∀ q9 : Nat, s.heap.size ≤ q9 → va_A (YW y cy S0) s.heap.size q9 := fun q9 h => Or.inr h
  have hS : va_S (va_A (YW y cy S0) s.heap.size) s.heap s.heap [] := va_S.rf
  have hl := lv_entry ([.ref (y 0), .int p1, .int p2]) (n := 3) (Nat.le_of_ble_eq_true rfl)
  rw [lg_entry_eq]
  generalize (lg_sl ([.ref (y 0), .int p1, .int p2]) ++ List.replicate (3 - (lg_sl ([.ref (y 0), .int p1, .int p2])).length) Slot.unset).toArray = ls at hl ⊢
  have hl : lv_has ls 3 [(0, .ref (y 0)), (1, .int p1), (2, .int p2)] := hl
  unfold gX10_event_ at hF
  refine lv_aload_n hx hb dX10_event__0 rfl (lv_at hl 0 rfl) ?_
  refine lv_iload_n hx hb dX10_event__1 rfl (lv_at hl 1 rfl) ?_
  refine lv_iconst (v := 0) hx hb dX10_event__2 (by decide) ?_
  refine lv_aload_n hx hb dX10_event__3 rfl (lv_at hl 0 rfl) ?_
  refine va_get (D := D) (ci := 10) (v := .int (S0 0 47)) (C := RX10) (T := TX10) (N := 58) hx hb hts iX10_event__10 hown hK hP 0 rfl rfl 47 (by decide) (hts (.fieldLink RX10 186 "FondsRoomModel" "events" "I") (List.mem_of_getElem? (i := 1) rfl)) (fun _ h9 => h9) rfl dX10_event__4 ?_
  refine lv_iconst (v := 1) hx hb dX10_event__7 (by decide) ?_
  refine lv_isub hx hb dX10_event__8 ?_
  obtain ⟨r1, hq4, hF⟩ := bd1_s hF
  refine gsI (As := [.int p1, .int 0, .int ((S0 0 47) - 1)]) (rest := [.ref (y 0)]) ⟨hx, hb, hml, hown, hts⟩ (zX10_in l D y cy S0 _ p1 0 ((S0 0 47) - 1) r1 hq4) (va_cwS 3 hts gX10_event__X10_in rfl rfl rfl (by decide +kernel) ⟨Nat.le_of_ble_eq_true rfl, Nat.le_of_ble_eq_true rfl⟩) hK hP hD hS hA rfl hl.1 rfl (Nat.le_of_ble_eq_true rfl) dX10_event__9 ⟨Nat.le_of_ble_eq_true rfl, Nat.le_of_ble_eq_true rfl⟩ (fun a5 u9 H locs hw3 hP hD hS => ?_)
  have hP : va_P D vwCl (YW y cy S0) H := hP
  have hD : va_D _ (YW y cy S0) := hD
  refine lv_tov (v' := .int r1) (congrArg Value.int hw3.1) ?_
  refine lv_if_eq (tgt := 28) hx hb dX10_event__12 (by decide) (fun c6 => ?_) (fun c6 => ?_)
  · skip
    have hF := (if_pos c6).symm.trans hF
    refine lv_iconst (v := 1) hx hb dX10_event__28 (by decide) ?_
    refine va_put (D := D) (ci := 10) (v := .int 1) (ty := .int) (C := RX10) (T := TX10) (N := 58) hx hb hts iX10_event__10 tyX10 tyX10_ok nmX10 hown hK hP hD hS 0 rfl rfl 0 (by decide) (hts (.fieldLink RX10 150 "FondsRoomModel" "thrown" "I") (List.mem_of_getElem? (i := 2) rfl)) (fun _ h9 => h9) rfl (by decide +kernel) rfl rfl (Nat.le_of_ble_eq_true rfl) dX10_event__29 (fun H locs hP hD hS => ?_)
    obtain ⟨S7, eS7⟩ : ∃ z, z = wr S0 0 0 1 := ⟨_, rfl⟩
    replace hF := bnd_s hF S7 eS7
    have hP : va_P D vwCl (YW y cy S7) H := by rw [eS7]; exact hP
    have hD : va_D (va_A (YW y cy S0) s.heap.size) (YW y cy S7) := by rw [eS7]; exact hD
    refine lv_aload_n hx hb dX10_event__32 rfl (lv_at hl 0 rfl) ?_
    refine va_get (D := D) (ci := 10) (v := .int (S7 0 0)) (C := RX10) (T := TX10) (N := 58) hx hb hts iX10_event__10 hown hK hP 0 rfl rfl 0 (by decide) (hts (.fieldLink RX10 150 "FondsRoomModel" "thrown" "I") (List.mem_of_getElem? (i := 2) rfl)) (fun _ h9 => h9) rfl dX10_event__33 ?_
    refine lv_if_le (tgt := 41) hx hb dX10_event__36 (by decide) (fun c8 => ?_) (fun c8 => ?_)
    · skip
      have hF := (if_pos c8).symm.trans hF
      refine lv_iload_n hx hb dX10_event__41 rfl (lv_at hl 2 rfl) ?_
      refine lv_if_ne (tgt := 54) hx hb dX10_event__42 (by decide) (fun c9 => ?_) (fun c9 => ?_)
      · skip
        have hF := (if_neg c9).symm.trans hF
        refine lv_iload_n hx hb dX10_event__54 rfl (lv_at hl 2 rfl) ?_
        refine lv_iconst (v := 1) hx hb dX10_event__55 (by decide) ?_
        refine lv_icmp_ne (tgt := 68) hx hb dX10_event__56 (by decide) (fun c10 => ?_) (fun c10 => ?_)
        · skip
          have hF := (if_neg c10).symm.trans hF
          refine lv_iload_n hx hb dX10_event__68 rfl (lv_at hl 2 rfl) ?_
          refine lv_iconst (v := 2) hx hb dX10_event__69 (by decide) ?_
          refine lv_icmp_ne (tgt := 82) hx hb dX10_event__70 (by decide) (fun c11 => ?_) (fun c11 => ?_)
          · skip
            have hF := (if_neg c11).symm.trans hF
            refine lv_aload_n hx hb dX10_event__82 rfl (lv_at hl 0 rfl) ?_
            refine va_get (D := D) (ci := 10) (v := .ref (y 38)) (C := RX10) (T := TX10) (N := 58) hx hb hts iX10_event__10 hown hK hP 0 rfl rfl 51 (by decide) (hts (.fieldLink RX10 135 "FondsRoomModel" "eNumber" "[I") (List.mem_of_getElem? (i := 6) rfl)) (fun _ h9 => h9) rfl dX10_event__83 ?_
            refine lv_iload_n hx hb dX10_event__86 rfl (lv_at hl 1 rfl) ?_
            obtain ⟨hi13, hF⟩ := ld_s hF
            refine va_iald hx hb hK hP 38 0 rfl rfl hi13 dX10_event__87 ?_
            refine lv_topi (fun y12 ey12 => ?_)
            replace hF := hF y12 ey12
            obtain ⟨e1, e2⟩ := ret2 hF
            have hP : va_P D vwCl (YW y cy Sf) H := by rw [← e2]; exact hP
            have hD : va_D (va_A (YW y cy S0) s.heap.size) (YW y cy Sf) := by rw [← e2]; exact hD
            exact W.iret (v := y12) hx hb hr (fun t ht hW => ⟨⟨y12, (), rfl, e1, by rw [ht]; exact hP, va_K.moved hW.alike hK, hD⟩, hS.F ht⟩) hS.2.2 dX10_event__88
          · skip
            have hF := (if_pos c11).symm.trans hF
            refine lv_aload_n hx hb dX10_event__73 rfl (lv_at hl 0 rfl) ?_
            refine va_get (D := D) (ci := 10) (v := .ref (y 37)) (C := RX10) (T := TX10) (N := 58) hx hb hts iX10_event__10 hown hK hP 0 rfl rfl 50 (by decide) (hts (.fieldLink RX10 132 "FondsRoomModel" "eWhat" "[I") (List.mem_of_getElem? (i := 5) rfl)) (fun _ h9 => h9) rfl dX10_event__74 ?_
            refine lv_iload_n hx hb dX10_event__77 rfl (lv_at hl 1 rfl) ?_
            obtain ⟨hi15, hF⟩ := ld_s hF
            refine va_iald hx hb hK hP 37 0 rfl rfl hi15 dX10_event__78 ?_
            refine lv_topi (fun y14 ey14 => ?_)
            replace hF := hF y14 ey14
            refine lv_goto (tgt := 88) hx hb dX10_event__79 (by decide) ?_
            obtain ⟨e1, e2⟩ := ret2 hF
            have hP : va_P D vwCl (YW y cy Sf) H := by rw [← e2]; exact hP
            have hD : va_D (va_A (YW y cy S0) s.heap.size) (YW y cy Sf) := by rw [← e2]; exact hD
            exact W.iret (v := y14) hx hb hr (fun t ht hW => ⟨⟨y14, (), rfl, e1, by rw [ht]; exact hP, va_K.moved hW.alike hK, hD⟩, hS.F ht⟩) hS.2.2 dX10_event__88
        · skip
          have hF := (if_pos c10).symm.trans hF
          refine lv_aload_n hx hb dX10_event__59 rfl (lv_at hl 0 rfl) ?_
          refine va_get (D := D) (ci := 10) (v := .ref (y 36)) (C := RX10) (T := TX10) (N := 58) hx hb hts iX10_event__10 hown hK hP 0 rfl rfl 49 (by decide) (hts (.fieldLink RX10 129 "FondsRoomModel" "eReader" "[I") (List.mem_of_getElem? (i := 4) rfl)) (fun _ h9 => h9) rfl dX10_event__60 ?_
          refine lv_iload_n hx hb dX10_event__63 rfl (lv_at hl 1 rfl) ?_
          obtain ⟨hi17, hF⟩ := ld_s hF
          refine va_iald hx hb hK hP 36 0 rfl rfl hi17 dX10_event__64 ?_
          refine lv_topi (fun y16 ey16 => ?_)
          replace hF := hF y16 ey16
          refine lv_goto (tgt := 88) hx hb dX10_event__65 (by decide) ?_
          obtain ⟨e1, e2⟩ := ret2 hF
          have hP : va_P D vwCl (YW y cy Sf) H := by rw [← e2]; exact hP
          have hD : va_D (va_A (YW y cy S0) s.heap.size) (YW y cy Sf) := by rw [← e2]; exact hD
          exact W.iret (v := y16) hx hb hr (fun t ht hW => ⟨⟨y16, (), rfl, e1, by rw [ht]; exact hP, va_K.moved hW.alike hK, hD⟩, hS.F ht⟩) hS.2.2 dX10_event__88
      · skip
        have hF := (if_pos c9).symm.trans hF
        refine lv_aload_n hx hb dX10_event__45 rfl (lv_at hl 0 rfl) ?_
        refine va_get (D := D) (ci := 10) (v := .ref (y 35)) (C := RX10) (T := TX10) (N := 58) hx hb hts iX10_event__10 hown hK hP 0 rfl rfl 48 (by decide) (hts (.fieldLink RX10 126 "FondsRoomModel" "eTurn" "[I") (List.mem_of_getElem? (i := 3) rfl)) (fun _ h9 => h9) rfl dX10_event__46 ?_
        refine lv_iload_n hx hb dX10_event__49 rfl (lv_at hl 1 rfl) ?_
        obtain ⟨hi19, hF⟩ := ld_s hF
        refine va_iald hx hb hK hP 35 0 rfl rfl hi19 dX10_event__50 ?_
        refine lv_topi (fun y18 ey18 => ?_)
        replace hF := hF y18 ey18
        refine lv_goto (tgt := 88) hx hb dX10_event__51 (by decide) ?_
        obtain ⟨e1, e2⟩ := ret2 hF
        have hP : va_P D vwCl (YW y cy Sf) H := by rw [← e2]; exact hP
        have hD : va_D (va_A (YW y cy S0) s.heap.size) (YW y cy Sf) := by rw [← e2]; exact hD
        exact W.iret (v := y18) hx hb hr (fun t ht hW => ⟨⟨y18, (), rfl, e1, by rw [ht]; exact hP, va_K.moved hW.alike hK, hD⟩, hS.F ht⟩) hS.2.2 dX10_event__88
    · skip
      have hF := (if_neg c8).symm.trans hF
      refine lv_iconst (v := 0) hx hb dX10_event__39 (by decide) ?_
      obtain ⟨e1, e2⟩ := ret2 hF
      have hP : va_P D vwCl (YW y cy Sf) H := by rw [← e2]; exact hP
      have hD : va_D (va_A (YW y cy S0) s.heap.size) (YW y cy Sf) := by rw [← e2]; exact hD
      exact W.iret (v := 0) hx hb hr (fun t ht hW => ⟨⟨0, (), rfl, e1, by rw [ht]; exact hP, va_K.moved hW.alike hK, hD⟩, hS.F ht⟩) hS.2.2 dX10_event__40
  · skip
    have hF := (if_neg c6).symm.trans hF
    refine lv_iload_n hx hb dX10_event__15 rfl (lv_at hl 2 rfl) ?_
    refine lv_iconst (v := 0) hx hb dX10_event__16 (by decide) ?_
    refine lv_iconst (v := 3) hx hb dX10_event__17 (by decide) ?_
    obtain ⟨r20, hq23, hF⟩ := bd1_s hF
    refine gsI (As := [.int p2, .int 0, .int 3]) (rest := [.ref (y 0)]) ⟨hx, hb, hml, hown, hts⟩ (zX10_in l D y cy S0 _ p2 0 3 r20 hq23) (va_cwS 3 hts gX10_event__X10_in rfl rfl rfl (by decide +kernel) ⟨Nat.le_of_ble_eq_true rfl, Nat.le_of_ble_eq_true rfl⟩) hK hP hD hS hA rfl hl.1 rfl (Nat.le_of_ble_eq_true rfl) dX10_event__18 ⟨Nat.le_of_ble_eq_true rfl, Nat.le_of_ble_eq_true rfl⟩ (fun a24 u9 H locs hw22 hP hD hS => ?_)
    have hP : va_P D vwCl (YW y cy S0) H := hP
    have hD : va_D _ (YW y cy S0) := hD
    refine lv_tov (v' := .int r20) (congrArg Value.int hw22.1) ?_
    refine lv_if_eq (tgt := 28) hx hb dX10_event__21 (by decide) (fun c25 => ?_) (fun c25 => ?_)
    · skip
      have hF := (if_pos c25).symm.trans hF
      refine lv_iconst (v := 1) hx hb dX10_event__28 (by decide) ?_
      refine va_put (D := D) (ci := 10) (v := .int 1) (ty := .int) (C := RX10) (T := TX10) (N := 58) hx hb hts iX10_event__10 tyX10 tyX10_ok nmX10 hown hK hP hD hS 0 rfl rfl 0 (by decide) (hts (.fieldLink RX10 150 "FondsRoomModel" "thrown" "I") (List.mem_of_getElem? (i := 2) rfl)) (fun _ h9 => h9) rfl (by decide +kernel) rfl rfl (Nat.le_of_ble_eq_true rfl) dX10_event__29 (fun H locs hP hD hS => ?_)
      obtain ⟨S26, eS26⟩ : ∃ z, z = wr S0 0 0 1 := ⟨_, rfl⟩
      replace hF := bnd_s hF S26 eS26
      have hP : va_P D vwCl (YW y cy S26) H := by rw [eS26]; exact hP
      have hD : va_D (va_A (YW y cy S0) s.heap.size) (YW y cy S26) := by rw [eS26]; exact hD
      refine lv_aload_n hx hb dX10_event__32 rfl (lv_at hl 0 rfl) ?_
      refine va_get (D := D) (ci := 10) (v := .int (S26 0 0)) (C := RX10) (T := TX10) (N := 58) hx hb hts iX10_event__10 hown hK hP 0 rfl rfl 0 (by decide) (hts (.fieldLink RX10 150 "FondsRoomModel" "thrown" "I") (List.mem_of_getElem? (i := 2) rfl)) (fun _ h9 => h9) rfl dX10_event__33 ?_
      refine lv_if_le (tgt := 41) hx hb dX10_event__36 (by decide) (fun c27 => ?_) (fun c27 => ?_)
      · skip
        have hF := (if_pos c27).symm.trans hF
        refine lv_iload_n hx hb dX10_event__41 rfl (lv_at hl 2 rfl) ?_
        refine lv_if_ne (tgt := 54) hx hb dX10_event__42 (by decide) (fun c28 => ?_) (fun c28 => ?_)
        · skip
          have hF := (if_neg c28).symm.trans hF
          refine lv_iload_n hx hb dX10_event__54 rfl (lv_at hl 2 rfl) ?_
          refine lv_iconst (v := 1) hx hb dX10_event__55 (by decide) ?_
          refine lv_icmp_ne (tgt := 68) hx hb dX10_event__56 (by decide) (fun c29 => ?_) (fun c29 => ?_)
          · skip
            have hF := (if_neg c29).symm.trans hF
            refine lv_iload_n hx hb dX10_event__68 rfl (lv_at hl 2 rfl) ?_
            refine lv_iconst (v := 2) hx hb dX10_event__69 (by decide) ?_
            refine lv_icmp_ne (tgt := 82) hx hb dX10_event__70 (by decide) (fun c30 => ?_) (fun c30 => ?_)
            · skip
              have hF := (if_neg c30).symm.trans hF
              refine lv_aload_n hx hb dX10_event__82 rfl (lv_at hl 0 rfl) ?_
              refine va_get (D := D) (ci := 10) (v := .ref (y 38)) (C := RX10) (T := TX10) (N := 58) hx hb hts iX10_event__10 hown hK hP 0 rfl rfl 51 (by decide) (hts (.fieldLink RX10 135 "FondsRoomModel" "eNumber" "[I") (List.mem_of_getElem? (i := 6) rfl)) (fun _ h9 => h9) rfl dX10_event__83 ?_
              refine lv_iload_n hx hb dX10_event__86 rfl (lv_at hl 1 rfl) ?_
              obtain ⟨hi32, hF⟩ := ld_s hF
              refine va_iald hx hb hK hP 38 0 rfl rfl hi32 dX10_event__87 ?_
              refine lv_topi (fun y31 ey31 => ?_)
              replace hF := hF y31 ey31
              obtain ⟨e1, e2⟩ := ret2 hF
              have hP : va_P D vwCl (YW y cy Sf) H := by rw [← e2]; exact hP
              have hD : va_D (va_A (YW y cy S0) s.heap.size) (YW y cy Sf) := by rw [← e2]; exact hD
              exact W.iret (v := y31) hx hb hr (fun t ht hW => ⟨⟨y31, (), rfl, e1, by rw [ht]; exact hP, va_K.moved hW.alike hK, hD⟩, hS.F ht⟩) hS.2.2 dX10_event__88
            · skip
              have hF := (if_pos c30).symm.trans hF
              refine lv_aload_n hx hb dX10_event__73 rfl (lv_at hl 0 rfl) ?_
              refine va_get (D := D) (ci := 10) (v := .ref (y 37)) (C := RX10) (T := TX10) (N := 58) hx hb hts iX10_event__10 hown hK hP 0 rfl rfl 50 (by decide) (hts (.fieldLink RX10 132 "FondsRoomModel" "eWhat" "[I") (List.mem_of_getElem? (i := 5) rfl)) (fun _ h9 => h9) rfl dX10_event__74 ?_
              refine lv_iload_n hx hb dX10_event__77 rfl (lv_at hl 1 rfl) ?_
              obtain ⟨hi34, hF⟩ := ld_s hF
              refine va_iald hx hb hK hP 37 0 rfl rfl hi34 dX10_event__78 ?_
              refine lv_topi (fun y33 ey33 => ?_)
              replace hF := hF y33 ey33
              refine lv_goto (tgt := 88) hx hb dX10_event__79 (by decide) ?_
              obtain ⟨e1, e2⟩ := ret2 hF
              have hP : va_P D vwCl (YW y cy Sf) H := by rw [← e2]; exact hP
              have hD : va_D (va_A (YW y cy S0) s.heap.size) (YW y cy Sf) := by rw [← e2]; exact hD
              exact W.iret (v := y33) hx hb hr (fun t ht hW => ⟨⟨y33, (), rfl, e1, by rw [ht]; exact hP, va_K.moved hW.alike hK, hD⟩, hS.F ht⟩) hS.2.2 dX10_event__88
          · skip
            have hF := (if_pos c29).symm.trans hF
            refine lv_aload_n hx hb dX10_event__59 rfl (lv_at hl 0 rfl) ?_
            refine va_get (D := D) (ci := 10) (v := .ref (y 36)) (C := RX10) (T := TX10) (N := 58) hx hb hts iX10_event__10 hown hK hP 0 rfl rfl 49 (by decide) (hts (.fieldLink RX10 129 "FondsRoomModel" "eReader" "[I") (List.mem_of_getElem? (i := 4) rfl)) (fun _ h9 => h9) rfl dX10_event__60 ?_
            refine lv_iload_n hx hb dX10_event__63 rfl (lv_at hl 1 rfl) ?_
            obtain ⟨hi36, hF⟩ := ld_s hF
            refine va_iald hx hb hK hP 36 0 rfl rfl hi36 dX10_event__64 ?_
            refine lv_topi (fun y35 ey35 => ?_)
            replace hF := hF y35 ey35
            refine lv_goto (tgt := 88) hx hb dX10_event__65 (by decide) ?_
            obtain ⟨e1, e2⟩ := ret2 hF
            have hP : va_P D vwCl (YW y cy Sf) H := by rw [← e2]; exact hP
            have hD : va_D (va_A (YW y cy S0) s.heap.size) (YW y cy Sf) := by rw [← e2]; exact hD
            exact W.iret (v := y35) hx hb hr (fun t ht hW => ⟨⟨y35, (), rfl, e1, by rw [ht]; exact hP, va_K.moved hW.alike hK, hD⟩, hS.F ht⟩) hS.2.2 dX10_event__88
        · skip
          have hF := (if_pos c28).symm.trans hF
          refine lv_aload_n hx hb dX10_event__45 rfl (lv_at hl 0 rfl) ?_
          refine va_get (D := D) (ci := 10) (v := .ref (y 35)) (C := RX10) (T := TX10) (N := 58) hx hb hts iX10_event__10 hown hK hP 0 rfl rfl 48 (by decide) (hts (.fieldLink RX10 126 "FondsRoomModel" "eTurn" "[I") (List.mem_of_getElem? (i := 3) rfl)) (fun _ h9 => h9) rfl dX10_event__46 ?_
          refine lv_iload_n hx hb dX10_event__49 rfl (lv_at hl 1 rfl) ?_
          obtain ⟨hi38, hF⟩ := ld_s hF
          refine va_iald hx hb hK hP 35 0 rfl rfl hi38 dX10_event__50 ?_
          refine lv_topi (fun y37 ey37 => ?_)
          replace hF := hF y37 ey37
          refine lv_goto (tgt := 88) hx hb dX10_event__51 (by decide) ?_
          obtain ⟨e1, e2⟩ := ret2 hF
          have hP : va_P D vwCl (YW y cy Sf) H := by rw [← e2]; exact hP
          have hD : va_D (va_A (YW y cy S0) s.heap.size) (YW y cy Sf) := by rw [← e2]; exact hD
          exact W.iret (v := y37) hx hb hr (fun t ht hW => ⟨⟨y37, (), rfl, e1, by rw [ht]; exact hP, va_K.moved hW.alike hK, hD⟩, hS.F ht⟩) hS.2.2 dX10_event__88
      · skip
        have hF := (if_neg c27).symm.trans hF
        refine lv_iconst (v := 0) hx hb dX10_event__39 (by decide) ?_
        obtain ⟨e1, e2⟩ := ret2 hF
        have hP : va_P D vwCl (YW y cy Sf) H := by rw [← e2]; exact hP
        have hD : va_D (va_A (YW y cy S0) s.heap.size) (YW y cy Sf) := by rw [← e2]; exact hD
        exact W.iret (v := 0) hx hb hr (fun t ht hW => ⟨⟨0, (), rfl, e1, by rw [ht]; exact hP, va_K.moved hW.alike hK, hD⟩, hS.F ht⟩) hS.2.2 dX10_event__40
    · skip
      have hF := (if_neg c25).symm.trans hF
      refine lv_iconst (v := 0) hx hb dX10_event__24 (by decide) ?_
      refine lv_goto (tgt := 29) hx hb dX10_event__25 (by decide) ?_
      refine va_put (D := D) (ci := 10) (v := .int 0) (ty := .int) (C := RX10) (T := TX10) (N := 58) hx hb hts iX10_event__10 tyX10 tyX10_ok nmX10 hown hK hP hD hS 0 rfl rfl 0 (by decide) (hts (.fieldLink RX10 150 "FondsRoomModel" "thrown" "I") (List.mem_of_getElem? (i := 2) rfl)) (fun _ h9 => h9) rfl (by decide +kernel) rfl rfl (Nat.le_of_ble_eq_true rfl) dX10_event__29 (fun H locs hP hD hS => ?_)
      obtain ⟨S39, eS39⟩ : ∃ z, z = wr S0 0 0 0 := ⟨_, rfl⟩
      replace hF := bnd_s hF S39 eS39
      have hP : va_P D vwCl (YW y cy S39) H := by rw [eS39]; exact hP
      have hD : va_D (va_A (YW y cy S0) s.heap.size) (YW y cy S39) := by rw [eS39]; exact hD
      refine lv_aload_n hx hb dX10_event__32 rfl (lv_at hl 0 rfl) ?_
      refine va_get (D := D) (ci := 10) (v := .int (S39 0 0)) (C := RX10) (T := TX10) (N := 58) hx hb hts iX10_event__10 hown hK hP 0 rfl rfl 0 (by decide) (hts (.fieldLink RX10 150 "FondsRoomModel" "thrown" "I") (List.mem_of_getElem? (i := 2) rfl)) (fun _ h9 => h9) rfl dX10_event__33 ?_
      refine lv_if_le (tgt := 41) hx hb dX10_event__36 (by decide) (fun c40 => ?_) (fun c40 => ?_)
      · skip
        have hF := (if_pos c40).symm.trans hF
        refine lv_iload_n hx hb dX10_event__41 rfl (lv_at hl 2 rfl) ?_
        refine lv_if_ne (tgt := 54) hx hb dX10_event__42 (by decide) (fun c41 => ?_) (fun c41 => ?_)
        · skip
          have hF := (if_neg c41).symm.trans hF
          refine lv_iload_n hx hb dX10_event__54 rfl (lv_at hl 2 rfl) ?_
          refine lv_iconst (v := 1) hx hb dX10_event__55 (by decide) ?_
          refine lv_icmp_ne (tgt := 68) hx hb dX10_event__56 (by decide) (fun c42 => ?_) (fun c42 => ?_)
          · skip
            have hF := (if_neg c42).symm.trans hF
            refine lv_iload_n hx hb dX10_event__68 rfl (lv_at hl 2 rfl) ?_
            refine lv_iconst (v := 2) hx hb dX10_event__69 (by decide) ?_
            refine lv_icmp_ne (tgt := 82) hx hb dX10_event__70 (by decide) (fun c43 => ?_) (fun c43 => ?_)
            · skip
              have hF := (if_neg c43).symm.trans hF
              refine lv_aload_n hx hb dX10_event__82 rfl (lv_at hl 0 rfl) ?_
              refine va_get (D := D) (ci := 10) (v := .ref (y 38)) (C := RX10) (T := TX10) (N := 58) hx hb hts iX10_event__10 hown hK hP 0 rfl rfl 51 (by decide) (hts (.fieldLink RX10 135 "FondsRoomModel" "eNumber" "[I") (List.mem_of_getElem? (i := 6) rfl)) (fun _ h9 => h9) rfl dX10_event__83 ?_
              refine lv_iload_n hx hb dX10_event__86 rfl (lv_at hl 1 rfl) ?_
              obtain ⟨hi45, hF⟩ := ld_s hF
              refine va_iald hx hb hK hP 38 0 rfl rfl hi45 dX10_event__87 ?_
              refine lv_topi (fun y44 ey44 => ?_)
              replace hF := hF y44 ey44
              obtain ⟨e1, e2⟩ := ret2 hF
              have hP : va_P D vwCl (YW y cy Sf) H := by rw [← e2]; exact hP
              have hD : va_D (va_A (YW y cy S0) s.heap.size) (YW y cy Sf) := by rw [← e2]; exact hD
              exact W.iret (v := y44) hx hb hr (fun t ht hW => ⟨⟨y44, (), rfl, e1, by rw [ht]; exact hP, va_K.moved hW.alike hK, hD⟩, hS.F ht⟩) hS.2.2 dX10_event__88
            · skip
              have hF := (if_pos c43).symm.trans hF
              refine lv_aload_n hx hb dX10_event__73 rfl (lv_at hl 0 rfl) ?_
              refine va_get (D := D) (ci := 10) (v := .ref (y 37)) (C := RX10) (T := TX10) (N := 58) hx hb hts iX10_event__10 hown hK hP 0 rfl rfl 50 (by decide) (hts (.fieldLink RX10 132 "FondsRoomModel" "eWhat" "[I") (List.mem_of_getElem? (i := 5) rfl)) (fun _ h9 => h9) rfl dX10_event__74 ?_
              refine lv_iload_n hx hb dX10_event__77 rfl (lv_at hl 1 rfl) ?_
              obtain ⟨hi47, hF⟩ := ld_s hF
              refine va_iald hx hb hK hP 37 0 rfl rfl hi47 dX10_event__78 ?_
              refine lv_topi (fun y46 ey46 => ?_)
              replace hF := hF y46 ey46
              refine lv_goto (tgt := 88) hx hb dX10_event__79 (by decide) ?_
              obtain ⟨e1, e2⟩ := ret2 hF
              have hP : va_P D vwCl (YW y cy Sf) H := by rw [← e2]; exact hP
              have hD : va_D (va_A (YW y cy S0) s.heap.size) (YW y cy Sf) := by rw [← e2]; exact hD
              exact W.iret (v := y46) hx hb hr (fun t ht hW => ⟨⟨y46, (), rfl, e1, by rw [ht]; exact hP, va_K.moved hW.alike hK, hD⟩, hS.F ht⟩) hS.2.2 dX10_event__88
          · skip
            have hF := (if_pos c42).symm.trans hF
            refine lv_aload_n hx hb dX10_event__59 rfl (lv_at hl 0 rfl) ?_
            refine va_get (D := D) (ci := 10) (v := .ref (y 36)) (C := RX10) (T := TX10) (N := 58) hx hb hts iX10_event__10 hown hK hP 0 rfl rfl 49 (by decide) (hts (.fieldLink RX10 129 "FondsRoomModel" "eReader" "[I") (List.mem_of_getElem? (i := 4) rfl)) (fun _ h9 => h9) rfl dX10_event__60 ?_
            refine lv_iload_n hx hb dX10_event__63 rfl (lv_at hl 1 rfl) ?_
            obtain ⟨hi49, hF⟩ := ld_s hF
            refine va_iald hx hb hK hP 36 0 rfl rfl hi49 dX10_event__64 ?_
            refine lv_topi (fun y48 ey48 => ?_)
            replace hF := hF y48 ey48
            refine lv_goto (tgt := 88) hx hb dX10_event__65 (by decide) ?_
            obtain ⟨e1, e2⟩ := ret2 hF
            have hP : va_P D vwCl (YW y cy Sf) H := by rw [← e2]; exact hP
            have hD : va_D (va_A (YW y cy S0) s.heap.size) (YW y cy Sf) := by rw [← e2]; exact hD
            exact W.iret (v := y48) hx hb hr (fun t ht hW => ⟨⟨y48, (), rfl, e1, by rw [ht]; exact hP, va_K.moved hW.alike hK, hD⟩, hS.F ht⟩) hS.2.2 dX10_event__88
        · skip
          have hF := (if_pos c41).symm.trans hF
          refine lv_aload_n hx hb dX10_event__45 rfl (lv_at hl 0 rfl) ?_
          refine va_get (D := D) (ci := 10) (v := .ref (y 35)) (C := RX10) (T := TX10) (N := 58) hx hb hts iX10_event__10 hown hK hP 0 rfl rfl 48 (by decide) (hts (.fieldLink RX10 126 "FondsRoomModel" "eTurn" "[I") (List.mem_of_getElem? (i := 3) rfl)) (fun _ h9 => h9) rfl dX10_event__46 ?_
          refine lv_iload_n hx hb dX10_event__49 rfl (lv_at hl 1 rfl) ?_
          obtain ⟨hi51, hF⟩ := ld_s hF
          refine va_iald hx hb hK hP 35 0 rfl rfl hi51 dX10_event__50 ?_
          refine lv_topi (fun y50 ey50 => ?_)
          replace hF := hF y50 ey50
          refine lv_goto (tgt := 88) hx hb dX10_event__51 (by decide) ?_
          obtain ⟨e1, e2⟩ := ret2 hF
          have hP : va_P D vwCl (YW y cy Sf) H := by rw [← e2]; exact hP
          have hD : va_D (va_A (YW y cy S0) s.heap.size) (YW y cy Sf) := by rw [← e2]; exact hD
          exact W.iret (v := y50) hx hb hr (fun t ht hW => ⟨⟨y50, (), rfl, e1, by rw [ht]; exact hP, va_K.moved hW.alike hK, hD⟩, hS.F ht⟩) hS.2.2 dX10_event__88
      · skip
        have hF := (if_neg c40).symm.trans hF
        refine lv_iconst (v := 0) hx hb dX10_event__39 (by decide) ?_
        obtain ⟨e1, e2⟩ := ret2 hF
        have hP : va_P D vwCl (YW y cy Sf) H := by rw [← e2]; exact hP
        have hD : va_D (va_A (YW y cy S0) s.heap.size) (YW y cy Sf) := by rw [← e2]; exact hD
        exact W.iret (v := 0) hx hb hr (fun t ht hW => ⟨⟨0, (), rfl, e1, by rw [ht]; exact hP, va_K.moved hW.alike hK, hD⟩, hS.F ht⟩) hS.2.2 dX10_event__40

theorem iX10_home_10 : ∀ w ∈ wsX100, w ∈ wsX10_home := fun _ h => List.mem_cons_of_mem _ (List.mem_append_right _ h)
set_option maxHeartbeats 8000000 in
set_option maxRecDepth 100000 in
theorem zX10_home (l : Launch) (D : va_G) (y : Nat → Nat) (cy : Nat → ClassId) (S : RS) (sz : Nat) (rv : Int32) (hF : gX10_home S  = some rv) : Met l yX10_home wsX10_home ({ frames := 0, cells := 0, slots := 0, locals := 0 }) (PW D (TYS cy) (YW y cy S) sz [.ref (y 0)]) (va_Qi (fun (res : Int32) (u : Unit) => res = rv) (BU D (TYS cy) (YW y cy S) (fun _ => YW y cy S) sz) (va_A (YW y cy S) sz)) 0 0 (va_A (YW y cy S) sz) := by
  refine Met.ofW (cc := cX10_home) (maxL := 3) (ret := (some .int)) (by decide) rfl ?_
  intro p e s m args below meth c s₁ B hml hv
  obtain ⟨rfl, hsz, hP, hK, hD0⟩ := hv
  have hx := B.exec
  have hb := B.bytes
  have hr := B.returns
  have hts := atoms_spec (ws := wsX10_home) B.pre
  have hown : s.vm.findClass RX10 = some m.cls := findClass_of_methodNamed B.named
  have hlocks := B.notSynchronized
  subst hsz
  have hD := hD0.self (sz := s.heap.size)
  have hA : ∀ q9 : Nat, s.heap.size ≤ q9 → va_A (YW y cy S) s.heap.size q9 := fun q9 h => Or.inr h
  have hS : va_S (va_A (YW y cy S) s.heap.size) s.heap s.heap [] := va_S.rf
  have key4 : ∀ (K : Int32 → Option (Int32)), (∀ (v1 : Int32) (H : Heap) (locs : List Loc) (ls : Array Slot), K v1 = some rv → va_P D vwCl (YW y cy S) H → va_D (va_A (YW y cy S) s.heap.size) (YW y cy S) → va_S (va_A (YW y cy S) s.heap.size) s.heap H locs → lv_has ls 3 [(1, .int v1)] → W p l e (headSpec wsX10_home ({ frames := 0, cells := 0, slots := 0, locals := 0 })).room s m #[.ref (y 0)] below meth c H locs 0 0 (MQ below (va_Qi (fun (res : Int32) (u : Unit) => res = rv) (BU D (TYS cy) (YW y cy S) (fun _ => YW y cy S) s.heap.size) (va_A (YW y cy S) s.heap.size)) #[.ref (y 0)] s 0 0 (va_A (YW y cy S) s.heap.size)) (F0 m 35 ls [])) → ∀ (fu : Nat) (v1 : Int32) (v2 : Int32) (H : Heap) (locs : List Loc) (ls : Array Slot), gX10_home_4 S K fu v1 v2 = some rv → va_P D vwCl (YW y cy S) H → va_D (va_A (YW y cy S) s.heap.size) (YW y cy S) → va_S (va_A (YW y cy S) s.heap.size) s.heap H locs → lv_has ls 3 [(1, .int v1), (2, .int v2), (0, .ref (y 0))] → W p l e (headSpec wsX10_home ({ frames := 0, cells := 0, slots := 0, locals := 0 })).room s m #[.ref (y 0)] below meth c H locs 0 0 (MQ below (va_Qi (fun (res : Int32) (u : Unit) => res = rv) (BU D (TYS cy) (YW y cy S) (fun _ => YW y cy S) s.heap.size) (va_A (YW y cy S) s.heap.size)) #[.ref (y 0)] s 0 0 (va_A (YW y cy S) s.heap.size)) (F0 m 4 ls []) := by
    intro K hKK fu
    induction fu with
    | zero =>
      intro v1 v2 H locs ls hF
      exact absurd (show (none : Option (Int32)) = some rv from hF) (by simp)
    | succ fu4 ih4 =>
      intro v1 v2 H locs ls hF hP hD hS hl
      rw [gX10_home_4] at hF
      refine lv_iload_n hx hb dX10_home_4 rfl (lv_at hl 1 rfl) ?_
      refine lv_aload_n hx hb dX10_home_5 rfl (lv_at hl 2 rfl) ?_
      refine va_get (D := D) (ci := 10) (v := .int (S 0 2)) (C := RX10) (T := TX10) (N := 58) hx hb hts iX10_home_10 hown hK hP 0 rfl rfl 2 (by decide) (hts (.fieldLink RX10 160 "FondsRoomModel" "boxes" "I") (List.mem_of_getElem? (i := 1) rfl)) (fun _ h9 => h9) rfl dX10_home_6 ?_
      refine lv_icmp_ge (tgt := 35) hx hb dX10_home_9 (by decide) (fun c1 => ?_) (fun c1 => ?_)
      · skip
        have hF := (if_pos c1).symm.trans hF
        exact hKK v1  _ _ _ hF hP hD hS (lv_sub hl [0] rfl)
      · skip
        have hF := (if_neg c1).symm.trans hF
        refine lv_iload_n hx hb dX10_home_12 rfl (lv_at hl 0 rfl) ?_
        refine lv_aload_n hx hb dX10_home_13 rfl (lv_at hl 2 rfl) ?_
        refine va_get (D := D) (ci := 10) (v := .ref (y 5)) (C := RX10) (T := TX10) (N := 58) hx hb hts iX10_home_10 hown hK hP 0 rfl rfl 13 (by decide) (hts (.fieldLink RX10 36 "FondsRoomModel" "place" "[I") (List.mem_of_getElem? (i := 2) rfl)) (fun _ h9 => h9) rfl dX10_home_14 ?_
        refine lv_iload_n hx hb dX10_home_17 rfl (lv_at hl 1 rfl) ?_
        obtain ⟨hi3, hF⟩ := ld_s hF
        refine va_iald hx hb hK hP 5 0 rfl rfl hi3 dX10_home_18 ?_
        refine lv_topi (fun y2 ey2 => ?_)
        replace hF := hF y2 ey2
        refine lv_if_ne (tgt := 26) hx hb dX10_home_19 (by decide) (fun c4 => ?_) (fun c4 => ?_)
        · skip
          have hF := (if_neg c4).symm.trans hF
          refine lv_iconst (v := 0) hx hb dX10_home_26 (by decide) ?_
          refine lv_iadd hx hb dX10_home_27 ?_
          refine lv_istore_n (lv' := [(1, .int (v1 + 0)), (2, .int v2), (0, .ref (y 0))]) hx hb dX10_home_28 rfl hl (by decide) rfl (fun ls hl => ?_)
          refine lv_iinc (v := v2 + 1) (lv' := [(2, .int (v2 + 1)), (1, .int (v1 + 0)), (0, .ref (y 0))]) hx hb dX10_home_29 hl (k := 1) rfl rfl (by decide) rfl (fun ls hl => ?_)
          refine lv_goto (tgt := 4) hx hb dX10_home_32 (by decide) ?_
          exact ih4 (v1 + 0) (v2 + 1)  _ _ _ hF hP hD hS (lv_sub hl [1, 0, 2] rfl)
        · skip
          have hF := (if_pos c4).symm.trans hF
          refine lv_iconst (v := 1) hx hb dX10_home_22 (by decide) ?_
          refine lv_goto (tgt := 27) hx hb dX10_home_23 (by decide) ?_
          refine lv_iadd hx hb dX10_home_27 ?_
          refine lv_istore_n (lv' := [(1, .int (v1 + 1)), (2, .int v2), (0, .ref (y 0))]) hx hb dX10_home_28 rfl hl (by decide) rfl (fun ls hl => ?_)
          refine lv_iinc (v := v2 + 1) (lv' := [(2, .int (v2 + 1)), (1, .int (v1 + 1)), (0, .ref (y 0))]) hx hb dX10_home_29 hl (k := 1) rfl rfl (by decide) rfl (fun ls hl => ?_)
          refine lv_goto (tgt := 4) hx hb dX10_home_32 (by decide) ?_
          exact ih4 (v1 + 1) (v2 + 1)  _ _ _ hF hP hD hS (lv_sub hl [1, 0, 2] rfl)
  have hl := lv_entry ([.ref (y 0)]) (n := 3) (Nat.le_of_ble_eq_true rfl)
  rw [lg_entry_eq]
  generalize (lg_sl ([.ref (y 0)]) ++ List.replicate (3 - (lg_sl ([.ref (y 0)])).length) Slot.unset).toArray = ls at hl ⊢
  have hl : lv_has ls 3 [(0, .ref (y 0))] := hl
  unfold gX10_home at hF
  refine lv_iconst (v := 0) hx hb dX10_home_0 (by decide) ?_
  refine lv_istore_n (lv' := [(1, .int 0), (0, .ref (y 0))]) hx hb dX10_home_1 rfl hl (by decide) rfl (fun ls hl => ?_)
  refine lv_iconst (v := 0) hx hb dX10_home_2 (by decide) ?_
  refine lv_istore_n (lv' := [(2, .int 0), (1, .int 0), (0, .ref (y 0))]) hx hb dX10_home_3 rfl hl (by decide) rfl (fun ls hl => ?_)
  refine key4 _ ?_ 1000 0 0  _ _ _ hF hP hD hS (lv_sub hl [1, 0, 2] rfl)
  intro v1_5 H locs ls hF hP hD hS hl
  refine lv_iload_n hx hb dX10_home_35 rfl (lv_at hl 0 rfl) ?_
  have e1 := Option.some.inj hF
  exact W.iret (v := v1_5) hx hb hr (fun t ht hW => ⟨⟨v1_5, (), rfl, e1, by rw [ht]; exact hP, va_K.moved hW.alike hK, hD⟩, hS.F ht⟩) hS.2.2 dX10_home_36

theorem iX10_isQuiet_10 : ∀ w ∈ wsX100, w ∈ wsX10_isQuiet := fun _ h => List.mem_cons_of_mem _ (List.mem_append_right _ h)
set_option maxHeartbeats 8000000 in
set_option maxRecDepth 100000 in
theorem zX10_isQuiet (l : Launch) (D : va_G) (y : Nat → Nat) (cy : Nat → ClassId) (S : RS) (sz : Nat) (rv : Int32) (hF : gX10_isQuiet S  = some rv) : Met l yX10_isQuiet wsX10_isQuiet ({ frames := 1, cells := 0, slots := 0, locals := 22 }) (PW D (TYS cy) (YW y cy S) sz [.ref (y 0)]) (va_Qi (fun (res : Int32) (u : Unit) => res = rv ∧ b01 rv) (BU D (TYS cy) (YW y cy S) (fun _ => YW y cy S) sz) (va_A (YW y cy S) sz)) 0 0 (va_A (YW y cy S) sz) := by
  refine Met.ofW (cc := cX10_isQuiet) (maxL := 2) (ret := (some .boolean)) (by decide) rfl ?_
  intro p e s m args below meth c s₁ B hml hv
  obtain ⟨rfl, hsz, hP, hK, hD0⟩ := hv
  have hx := B.exec
  have hb := B.bytes
  have hr := B.returns
  have hts := atoms_spec (ws := wsX10_isQuiet) B.pre
  have hown : s.vm.findClass RX10 = some m.cls := findClass_of_methodNamed B.named
  have hlocks := B.notSynchronized
  subst hsz
  have hD := hD0.self (sz := s.heap.size)
  have hA : ∀ q9 : Nat, s.heap.size ≤ q9 → va_A (YW y cy S) s.heap.size q9 := fun q9 h => Or.inr h
  have hS : va_S (va_A (YW y cy S) s.heap.size) s.heap s.heap [] := va_S.rf
  have key2 : ∀ (K : Option (Int32)), (∀  (H : Heap) (locs : List Loc) (ls : Array Slot), K  = some rv → va_P D vwCl (YW y cy S) H → va_D (va_A (YW y cy S) s.heap.size) (YW y cy S) → va_S (va_A (YW y cy S) s.heap.size) s.heap H locs → lv_has ls 2 [(0, .ref (y 0))] → W p l e (headSpec wsX10_isQuiet ({ frames := 1, cells := 0, slots := 0, locals := 22 })).room s m #[.ref (y 0)] below meth c H locs 0 0 (MQ below (va_Qi (fun (res : Int32) (u : Unit) => res = rv ∧ b01 rv) (BU D (TYS cy) (YW y cy S) (fun _ => YW y cy S) s.heap.size) (va_A (YW y cy S) s.heap.size)) #[.ref (y 0)] s 0 0 (va_A (YW y cy S) s.heap.size)) (F0 m 33 ls [])) → ∀ (fu : Nat) (v1 : Int32) (H : Heap) (locs : List Loc) (ls : Array Slot), gX10_isQuiet_2 S K fu v1 = some rv → va_P D vwCl (YW y cy S) H → va_D (va_A (YW y cy S) s.heap.size) (YW y cy S) → va_S (va_A (YW y cy S) s.heap.size) s.heap H locs → lv_has ls 2 [(1, .int v1), (0, .ref (y 0))] → W p l e (headSpec wsX10_isQuiet ({ frames := 1, cells := 0, slots := 0, locals := 22 })).room s m #[.ref (y 0)] below meth c H locs 0 0 (MQ below (va_Qi (fun (res : Int32) (u : Unit) => res = rv ∧ b01 rv) (BU D (TYS cy) (YW y cy S) (fun _ => YW y cy S) s.heap.size) (va_A (YW y cy S) s.heap.size)) #[.ref (y 0)] s 0 0 (va_A (YW y cy S) s.heap.size)) (F0 m 2 ls []) := by
    intro K hKK fu
    induction fu with
    | zero =>
      intro v1 H locs ls hF
      exact absurd (show (none : Option (Int32)) = some rv from hF) (by simp)
    | succ fu2 ih2 =>
      intro v1 H locs ls hF hP hD hS hl
      rw [gX10_isQuiet_2] at hF
      refine lv_iload_n hx hb dX10_isQuiet_2 rfl (lv_at hl 0 rfl) ?_
      refine lv_aload_n hx hb dX10_isQuiet_3 rfl (lv_at hl 1 rfl) ?_
      refine va_get (D := D) (ci := 10) (v := .int (S 0 3)) (C := RX10) (T := TX10) (N := 58) hx hb hts iX10_isQuiet_10 hown hK hP 0 rfl rfl 3 (by decide) (hts (.fieldLink RX10 153 "FondsRoomModel" "readers" "I") (List.mem_of_getElem? (i := 1) rfl)) (fun _ h9 => h9) rfl dX10_isQuiet_4 ?_
      refine lv_icmp_ge (tgt := 33) hx hb dX10_isQuiet_7 (by decide) (fun c1 => ?_) (fun c1 => ?_)
      · skip
        have hF := (if_pos c1).symm.trans hF
        exact hKK   _ _ _ hF hP hD hS (lv_sub hl [1] rfl)
      · skip
        have hF := (if_neg c1).symm.trans hF
        refine lv_aload_n hx hb dX10_isQuiet_10 rfl (lv_at hl 1 rfl) ?_
        refine va_get (D := D) (ci := 10) (v := .ref (y 15)) (C := RX10) (T := TX10) (N := 58) hx hb hts iX10_isQuiet_10 hown hK hP 0 rfl rfl 27 (by decide) (hts (.fieldLink RX10 66 "FondsRoomModel" "state" "[I") (List.mem_of_getElem? (i := 2) rfl)) (fun _ h9 => h9) rfl dX10_isQuiet_11 ?_
        refine lv_iload_n hx hb dX10_isQuiet_14 rfl (lv_at hl 0 rfl) ?_
        obtain ⟨hi3, hF⟩ := ld_s hF
        refine va_iald hx hb hK hP 15 0 rfl rfl hi3 dX10_isQuiet_15 ?_
        refine lv_topi (fun y2 ey2 => ?_)
        replace hF := hF y2 ey2
        refine lv_iconst (v := 5) hx hb dX10_isQuiet_16 (by decide) ?_
        refine lv_bipush (v := 7) hx hb dX10_isQuiet_17 (by decide) ?_
        obtain ⟨r4, hq7, hF⟩ := bd1_s hF
        refine gsI (As := [.int y2, .int 5, .int 7]) (rest := []) ⟨hx, hb, hml, hown, hts⟩ (zX10_in l D y cy S _ y2 5 7 r4 hq7) (va_cwS 3 hts gX10_isQuiet_X10_in rfl rfl rfl (by decide +kernel) ⟨Nat.le_of_ble_eq_true rfl, Nat.le_of_ble_eq_true rfl⟩) hK hP hD hS hA rfl hl.1 rfl (Nat.le_of_ble_eq_true rfl) dX10_isQuiet_19 ⟨Nat.le_of_ble_eq_true rfl, Nat.le_of_ble_eq_true rfl⟩ (fun a8 u9 H locs hw6 hP hD hS => ?_)
        have hP : va_P D vwCl (YW y cy S) H := hP
        have hD : va_D _ (YW y cy S) := hD
        refine lv_tov (v' := .int r4) (congrArg Value.int hw6.1) ?_
        refine lv_if_ne (tgt := 27) hx hb dX10_isQuiet_22 (by decide) (fun c9 => ?_) (fun c9 => ?_)
        · skip
          have hF := (if_neg c9).symm.trans hF
          refine lv_iinc (v := v1 + 1) (lv' := [(1, .int (v1 + 1)), (0, .ref (y 0))]) hx hb dX10_isQuiet_27 hl (k := 0) rfl rfl (by decide) rfl (fun ls hl => ?_)
          refine lv_goto (tgt := 2) hx hb dX10_isQuiet_30 (by decide) ?_
          exact ih2 (v1 + 1)  _ _ _ hF hP hD hS (lv_sub hl [0, 1] rfl)
        · skip
          have hF := (if_pos c9).symm.trans hF
          refine lv_iconst (v := 0) hx hb dX10_isQuiet_25 (by decide) ?_
          have e1 := Option.some.inj hF
          exact W.zret (v := 0) hx hb hr (nz01 (Or.inl rfl)).1 (fun t ht hW => ⟨⟨0, (), rfl, ⟨e1, by rw [← e1]; exact Or.inl rfl⟩, by rw [ht]; exact hP, va_K.moved hW.alike hK, hD⟩, hS.F ht⟩) hS.2.2 dX10_isQuiet_26
  have hl := lv_entry ([.ref (y 0)]) (n := 2) (Nat.le_of_ble_eq_true rfl)
  rw [lg_entry_eq]
  generalize (lg_sl ([.ref (y 0)]) ++ List.replicate (2 - (lg_sl ([.ref (y 0)])).length) Slot.unset).toArray = ls at hl ⊢
  have hl : lv_has ls 2 [(0, .ref (y 0))] := hl
  unfold gX10_isQuiet at hF
  refine lv_iconst (v := 0) hx hb dX10_isQuiet_0 (by decide) ?_
  refine lv_istore_n (lv' := [(1, .int 0), (0, .ref (y 0))]) hx hb dX10_isQuiet_1 rfl hl (by decide) rfl (fun ls hl => ?_)
  refine key2 _ ?_ 1000 0  _ _ _ hF hP hD hS (lv_sub hl [0, 1] rfl)
  intro  H locs ls hF hP hD hS hl
  refine lv_aload_n hx hb dX10_isQuiet_33 rfl (lv_at hl 0 rfl) ?_
  obtain ⟨r10, hq13, hF⟩ := bd1_s hF
  refine gvI (As := []) (rest := []) ⟨hx, hb, hml, hown, hts⟩ (zX10_home l D y cy S _  r10 hq13) (cwV 0 hts gX10_isQuiet_X10_home rfl rfl rfl (by decide +kernel) ⟨Nat.le_of_ble_eq_true rfl, Nat.le_of_ble_eq_true rfl⟩) hK hP hD hS hA (va_recv hK hP (ci := 10) (q0 := 0) rfl rfl) rfl hl.1 rfl (Nat.le_of_ble_eq_true rfl) dX10_isQuiet_34 ⟨Nat.le_of_ble_eq_true rfl, Nat.le_of_ble_eq_true rfl⟩ (fun a14 u9 H locs hw12 hP hD hS => ?_)
  have hP : va_P D vwCl (YW y cy S) H := hP
  have hD : va_D _ (YW y cy S) := hD
  refine lv_tov (v' := .int r10) (congrArg Value.int hw12) ?_
  refine lv_aload_n hx hb dX10_isQuiet_37 rfl (lv_at hl 0 rfl) ?_
  refine va_get (D := D) (ci := 10) (v := .int (S 0 2)) (C := RX10) (T := TX10) (N := 58) hx hb hts iX10_isQuiet_10 hown hK hP 0 rfl rfl 2 (by decide) (hts (.fieldLink RX10 160 "FondsRoomModel" "boxes" "I") (List.mem_of_getElem? (i := 3) rfl)) (fun _ h9 => h9) rfl dX10_isQuiet_38 ?_
  refine lv_icmp_ne (tgt := 48) hx hb dX10_isQuiet_41 (by decide) (fun c15 => ?_) (fun c15 => ?_)
  · skip
    have hF := (if_neg c15).symm.trans hF
    refine lv_iconst (v := 0) hx hb dX10_isQuiet_48 (by decide) ?_
    have e1 := Option.some.inj hF
    exact W.zret (v := 0) hx hb hr (nz01 (Or.inl rfl)).1 (fun t ht hW => ⟨⟨0, (), rfl, ⟨e1, by rw [← e1]; exact Or.inl rfl⟩, by rw [ht]; exact hP, va_K.moved hW.alike hK, hD⟩, hS.F ht⟩) hS.2.2 dX10_isQuiet_49
  · skip
    have hF := (if_pos c15).symm.trans hF
    refine lv_iconst (v := 1) hx hb dX10_isQuiet_44 (by decide) ?_
    refine lv_goto (tgt := 49) hx hb dX10_isQuiet_45 (by decide) ?_
    have e1 := Option.some.inj hF
    exact W.zret (v := 1) hx hb hr (nz01 (Or.inr rfl)).1 (fun t ht hW => ⟨⟨1, (), rfl, ⟨e1, by rw [← e1]; exact Or.inr rfl⟩, by rw [ht]; exact hP, va_K.moved hW.alike hK, hD⟩, hS.F ht⟩) hS.2.2 dX10_isQuiet_49

theorem iX10_count_10 : ∀ w ∈ wsX100, w ∈ wsX10_count := fun _ h => List.mem_cons_of_mem _ (List.mem_append_right _ h)
set_option maxHeartbeats 8000000 in
set_option maxRecDepth 100000 in
theorem zX10_count (l : Launch) (D : va_G) (y : Nat → Nat) (cy : Nat → ClassId) (S0 : RS) (sz : Nat) (p1 : Int32) (rv : Int32) (Sf : RS) (hF : gX10_count S0 p1 = some (rv, Sf)) : Met l yX10_count wsX10_count ({ frames := 2, cells := 0, slots := 0, locals := 43 }) (PW D (TYS cy) (YW y cy S0) sz [.ref (y 0), .int p1]) (va_Qi (fun (res : Int32) (u : Unit) => res = rv) (BU D (TYS cy) (YW y cy S0) (fun _ => YW y cy Sf) sz) (va_A (YW y cy S0) sz)) 0 0 (va_A (YW y cy S0) sz) := by
  refine Met.ofW (cc := cX10_count) (maxL := 4) (ret := (some .int)) (by decide) rfl ?_
  intro p e s m args below meth c s₁ B hml hv
  obtain ⟨rfl, hsz, hP, hK, hD0⟩ := hv
  have hx := B.exec
  have hb := B.bytes
  have hr := B.returns
  have hts := atoms_spec (ws := wsX10_count) B.pre
  have hown : s.vm.findClass RX10 = some m.cls := findClass_of_methodNamed B.named
  have hlocks := B.notSynchronized
  subst hsz
  have hD := hD0.self (sz := s.heap.size)
  have hA : ∀ q9 : Nat, s.heap.size ≤ q9 → va_A (YW y cy S0) s.heap.size q9 := fun q9 h => Or.inr h
  have hS : va_S (va_A (YW y cy S0) s.heap.size) s.heap s.heap [] := va_S.rf
  have key129 : ∀ (K : Int32 → RS → Option (Int32 × RS)), (∀ (v2 : Int32) (S : RS) (H : Heap) (locs : List Loc) (ls : Array Slot), K v2 S = some (rv, Sf) → va_P D vwCl (YW y cy S) H → va_D (va_A (YW y cy S0) s.heap.size) (YW y cy S) → va_S (va_A (YW y cy S0) s.heap.size) s.heap H locs → lv_has ls 4 [(2, .int v2)] → W p l e (headSpec wsX10_count ({ frames := 2, cells := 0, slots := 0, locals := 43 })).room s m #[.ref (y 0), .int p1] below meth c H locs 0 0 (MQ below (va_Qi (fun (res : Int32) (u : Unit) => res = rv) (BU D (TYS cy) (YW y cy S0) (fun _ => YW y cy Sf) s.heap.size) (va_A (YW y cy S0) s.heap.size)) #[.ref (y 0), .int p1] s 0 0 (va_A (YW y cy S0) s.heap.size)) (F0 m 174 ls [])) → ∀ (fu : Nat) (v1 : Int32) (v2 : Int32) (v3 : Int32) (S : RS) (H : Heap) (locs : List Loc) (ls : Array Slot), gX10_count_129 K fu v1 v2 v3 S = some (rv, Sf) → va_P D vwCl (YW y cy S) H → va_D (va_A (YW y cy S0) s.heap.size) (YW y cy S) → va_S (va_A (YW y cy S0) s.heap.size) s.heap H locs → lv_has ls 4 [(1, .int v1), (2, .int v2), (3, .int v3), (0, .ref (y 0))] → W p l e (headSpec wsX10_count ({ frames := 2, cells := 0, slots := 0, locals := 43 })).room s m #[.ref (y 0), .int p1] below meth c H locs 0 0 (MQ below (va_Qi (fun (res : Int32) (u : Unit) => res = rv) (BU D (TYS cy) (YW y cy S0) (fun _ => YW y cy Sf) s.heap.size) (va_A (YW y cy S0) s.heap.size)) #[.ref (y 0), .int p1] s 0 0 (va_A (YW y cy S0) s.heap.size)) (F0 m 129 ls []) := by
    intro K hKK fu
    induction fu with
    | zero =>
      intro v1 v2 v3 S H locs ls hF
      exact absurd (show (none : Option (Int32 × RS)) = some (rv, Sf) from hF) (by simp)
    | succ fu129 ih129 =>
      intro v1 v2 v3 S H locs ls hF hP hD hS hl
      rw [gX10_count_129] at hF
      refine lv_iload_n hx hb dX10_count_129 rfl (lv_at hl 2 rfl) ?_
      refine lv_aload_n hx hb dX10_count_130 rfl (lv_at hl 3 rfl) ?_
      refine va_get (D := D) (ci := 10) (v := .int (S 0 3)) (C := RX10) (T := TX10) (N := 58) hx hb hts iX10_count_10 hown hK hP 0 rfl rfl 3 (by decide) (hts (.fieldLink RX10 153 "FondsRoomModel" "readers" "I") (List.mem_of_getElem? (i := 5) rfl)) (fun _ h9 => h9) rfl dX10_count_131 ?_
      refine lv_icmp_ge (tgt := 174) hx hb dX10_count_134 (by decide) (fun c21 => ?_) (fun c21 => ?_)
      · skip
        have hF := (if_pos c21).symm.trans hF
        exact hKK v2 S _ _ _ hF hP hD hS (lv_sub hl [1] rfl)
      · skip
        have hF := (if_neg c21).symm.trans hF
        refine lv_aload_n hx hb dX10_count_137 rfl (lv_at hl 3 rfl) ?_
        refine va_get (D := D) (ci := 10) (v := .ref (y 25)) (C := RX10) (T := TX10) (N := 58) hx hb hts iX10_count_10 hown hK hP 0 rfl rfl 37 (by decide) (hts (.fieldLink RX10 96 "FondsRoomModel" "waited" "[I") (List.mem_of_getElem? (i := 7) rfl)) (fun _ h9 => h9) rfl dX10_count_138 ?_
        refine lv_iconst (v := 3) hx hb dX10_count_141 (by decide) ?_
        refine lv_iload_n hx hb dX10_count_142 rfl (lv_at hl 2 rfl) ?_
        refine lv_imul hx hb dX10_count_143 ?_
        refine lv_iload_n hx hb dX10_count_144 rfl (lv_at hl 0 rfl) ?_
        refine lv_iadd hx hb dX10_count_145 ?_
        refine lv_bipush (v := 7) hx hb dX10_count_146 (by decide) ?_
        refine lv_isub hx hb dX10_count_148 ?_
        obtain ⟨hi23, hF⟩ := ld_s hF
        refine va_iald hx hb hK hP 25 0 rfl rfl hi23 dX10_count_149 ?_
        refine lv_topi (fun y22 ey22 => ?_)
        replace hF := hF y22 ey22
        refine lv_iload_n hx hb dX10_count_150 rfl (lv_at hl 1 rfl) ?_
        refine lv_icmp_le (tgt := 168) hx hb dX10_count_151 (by decide) (fun c24 => ?_) (fun c24 => ?_)
        · skip
          have hF := (if_pos c24).symm.trans hF
          refine lv_iinc (v := v3 + 1) (lv' := [(3, .int (v3 + 1)), (1, .int v1), (2, .int v2), (0, .ref (y 0))]) hx hb dX10_count_168 hl (k := 2) rfl rfl (by decide) rfl (fun ls hl => ?_)
          refine lv_goto (tgt := 129) hx hb dX10_count_171 (by decide) ?_
          exact ih129 v1 v2 (v3 + 1) S _ _ _ hF hP hD hS (lv_sub hl [1, 2, 0, 3] rfl)
        · skip
          have hF := (if_neg c24).symm.trans hF
          refine lv_aload_n hx hb dX10_count_154 rfl (lv_at hl 3 rfl) ?_
          refine va_get (D := D) (ci := 10) (v := .ref (y 25)) (C := RX10) (T := TX10) (N := 58) hx hb hts iX10_count_10 hown hK hP 0 rfl rfl 37 (by decide) (hts (.fieldLink RX10 96 "FondsRoomModel" "waited" "[I") (List.mem_of_getElem? (i := 7) rfl)) (fun _ h9 => h9) rfl dX10_count_155 ?_
          refine lv_iconst (v := 3) hx hb dX10_count_158 (by decide) ?_
          refine lv_iload_n hx hb dX10_count_159 rfl (lv_at hl 2 rfl) ?_
          refine lv_imul hx hb dX10_count_160 ?_
          refine lv_iload_n hx hb dX10_count_161 rfl (lv_at hl 0 rfl) ?_
          refine lv_iadd hx hb dX10_count_162 ?_
          refine lv_bipush (v := 7) hx hb dX10_count_163 (by decide) ?_
          refine lv_isub hx hb dX10_count_165 ?_
          obtain ⟨hi26, hF⟩ := ld_s hF
          refine va_iald hx hb hK hP 25 0 rfl rfl hi26 dX10_count_166 ?_
          refine lv_topi (fun y25 ey25 => ?_)
          replace hF := hF y25 ey25
          refine lv_istore_n (lv' := [(2, .int y25), (1, .int v1), (3, .int v3), (0, .ref (y 0))]) hx hb dX10_count_167 rfl hl (by decide) rfl (fun ls hl => ?_)
          refine lv_iinc (v := v3 + 1) (lv' := [(3, .int (v3 + 1)), (2, .int y25), (1, .int v1), (0, .ref (y 0))]) hx hb dX10_count_168 hl (k := 2) rfl rfl (by decide) rfl (fun ls hl => ?_)
          refine lv_goto (tgt := 129) hx hb dX10_count_171 (by decide) ?_
          exact ih129 v1 y25 (v3 + 1) S _ _ _ hF hP hD hS (lv_sub hl [2, 1, 0, 3] rfl)
  have hl := lv_entry ([.ref (y 0), .int p1]) (n := 4) (Nat.le_of_ble_eq_true rfl)
  rw [lg_entry_eq]
  generalize (lg_sl ([.ref (y 0), .int p1]) ++ List.replicate (4 - (lg_sl ([.ref (y 0), .int p1])).length) Slot.unset).toArray = ls at hl ⊢
  have hl : lv_has ls 4 [(0, .ref (y 0)), (1, .int p1)] := hl
  unfold gX10_count at hF
  refine lv_aload_n hx hb dX10_count_0 rfl (lv_at hl 0 rfl) ?_
  refine lv_iconst (v := 0) hx hb dX10_count_1 (by decide) ?_
  refine va_put (D := D) (ci := 10) (v := .int 0) (ty := .int) (C := RX10) (T := TX10) (N := 58) hx hb hts iX10_count_10 tyX10 tyX10_ok nmX10 hown hK hP hD hS 0 rfl rfl 0 (by decide) (hts (.fieldLink RX10 150 "FondsRoomModel" "thrown" "I") (List.mem_of_getElem? (i := 1) rfl)) (fun _ h9 => h9) rfl (by decide +kernel) rfl rfl (Nat.le_of_ble_eq_true rfl) dX10_count_2 (fun H locs hP hD hS => ?_)
  obtain ⟨S1, eS1⟩ : ∃ z, z = wr S0 0 0 0 := ⟨_, rfl⟩
  replace hF := bnd_s hF S1 eS1
  have hP : va_P D vwCl (YW y cy S1) H := by rw [eS1]; exact hP
  have hD : va_D (va_A (YW y cy S0) s.heap.size) (YW y cy S1) := by rw [eS1]; exact hD
  refine lv_iconst (v := 0) hx hb dX10_count_5 (by decide) ?_
  refine lv_istore_n (lv' := [(2, .int 0), (0, .ref (y 0)), (1, .int p1)]) hx hb dX10_count_6 rfl hl (by decide) rfl (fun ls hl => ?_)
  refine lv_iload_n hx hb dX10_count_7 rfl (lv_at hl 2 rfl) ?_
  by_cases j2 : p1 = 0
  · skip
    have hF := (if_pos j2).symm.trans hF
    refine lv_tableIn (tgt := 84) hx hb dX10_count_8 (by rw [j2]; decide) (by rw [j2]; decide) (by rw [j2]; rfl) (by decide) ?_
    refine lv_aload_n hx hb dX10_count_84 rfl (lv_at hl 1 rfl) ?_
    refine va_get (D := D) (ci := 10) (v := .int (S1 0 4)) (C := RX10) (T := TX10) (N := 58) hx hb hts iX10_count_10 hown hK hP 0 rfl rfl 4 (by decide) (hts (.fieldLink RX10 163 "FondsRoomModel" "turn" "I") (List.mem_of_getElem? (i := 2) rfl)) (fun _ h9 => h9) rfl dX10_count_85 ?_
    obtain ⟨e1, e2⟩ := ret2 hF
    have hP : va_P D vwCl (YW y cy Sf) H := by rw [← e2]; exact hP
    have hD : va_D (va_A (YW y cy S0) s.heap.size) (YW y cy Sf) := by rw [← e2]; exact hD
    exact W.iret (v := (S1 0 4)) hx hb hr (fun t ht hW => ⟨⟨(S1 0 4), (), rfl, e1, by rw [ht]; exact hP, va_K.moved hW.alike hK, hD⟩, hS.F ht⟩) hS.2.2 dX10_count_88
  replace hF := (if_neg j2).symm.trans hF
  by_cases j3 : p1 = 1
  · skip
    have hF := (if_pos j3).symm.trans hF
    refine lv_tableIn (tgt := 89) hx hb dX10_count_8 (by rw [j3]; decide) (by rw [j3]; decide) (by rw [j3]; rfl) (by decide) ?_
    refine lv_aload_n hx hb dX10_count_89 rfl (lv_at hl 1 rfl) ?_
    refine va_get (D := D) (ci := 10) (v := .int (S1 0 1)) (C := RX10) (T := TX10) (N := 58) hx hb hts iX10_count_10 hown hK hP 0 rfl rfl 1 (by decide) (hts (.fieldLink RX10 166 "FondsRoomModel" "desks" "I") (List.mem_of_getElem? (i := 3) rfl)) (fun _ h9 => h9) rfl dX10_count_90 ?_
    obtain ⟨e1, e2⟩ := ret2 hF
    have hP : va_P D vwCl (YW y cy Sf) H := by rw [← e2]; exact hP
    have hD : va_D (va_A (YW y cy S0) s.heap.size) (YW y cy Sf) := by rw [← e2]; exact hD
    exact W.iret (v := (S1 0 1)) hx hb hr (fun t ht hW => ⟨⟨(S1 0 1), (), rfl, e1, by rw [ht]; exact hP, va_K.moved hW.alike hK, hD⟩, hS.F ht⟩) hS.2.2 dX10_count_93
  replace hF := (if_neg j3).symm.trans hF
  by_cases j4 : p1 = 2
  · skip
    have hF := (if_pos j4).symm.trans hF
    refine lv_tableIn (tgt := 94) hx hb dX10_count_8 (by rw [j4]; decide) (by rw [j4]; decide) (by rw [j4]; rfl) (by decide) ?_
    refine lv_aload_n hx hb dX10_count_94 rfl (lv_at hl 1 rfl) ?_
    refine va_get (D := D) (ci := 10) (v := .int (S1 0 2)) (C := RX10) (T := TX10) (N := 58) hx hb hts iX10_count_10 hown hK hP 0 rfl rfl 2 (by decide) (hts (.fieldLink RX10 160 "FondsRoomModel" "boxes" "I") (List.mem_of_getElem? (i := 4) rfl)) (fun _ h9 => h9) rfl dX10_count_95 ?_
    obtain ⟨e1, e2⟩ := ret2 hF
    have hP : va_P D vwCl (YW y cy Sf) H := by rw [← e2]; exact hP
    have hD : va_D (va_A (YW y cy S0) s.heap.size) (YW y cy Sf) := by rw [← e2]; exact hD
    exact W.iret (v := (S1 0 2)) hx hb hr (fun t ht hW => ⟨⟨(S1 0 2), (), rfl, e1, by rw [ht]; exact hP, va_K.moved hW.alike hK, hD⟩, hS.F ht⟩) hS.2.2 dX10_count_98
  replace hF := (if_neg j4).symm.trans hF
  by_cases j5 : p1 = 3
  · skip
    have hF := (if_pos j5).symm.trans hF
    refine lv_tableIn (tgt := 99) hx hb dX10_count_8 (by rw [j5]; decide) (by rw [j5]; decide) (by rw [j5]; rfl) (by decide) ?_
    refine lv_aload_n hx hb dX10_count_99 rfl (lv_at hl 1 rfl) ?_
    refine va_get (D := D) (ci := 10) (v := .int (S1 0 3)) (C := RX10) (T := TX10) (N := 58) hx hb hts iX10_count_10 hown hK hP 0 rfl rfl 3 (by decide) (hts (.fieldLink RX10 153 "FondsRoomModel" "readers" "I") (List.mem_of_getElem? (i := 5) rfl)) (fun _ h9 => h9) rfl dX10_count_100 ?_
    obtain ⟨e1, e2⟩ := ret2 hF
    have hP : va_P D vwCl (YW y cy Sf) H := by rw [← e2]; exact hP
    have hD : va_D (va_A (YW y cy S0) s.heap.size) (YW y cy Sf) := by rw [← e2]; exact hD
    exact W.iret (v := (S1 0 3)) hx hb hr (fun t ht hW => ⟨⟨(S1 0 3), (), rfl, e1, by rw [ht]; exact hP, va_K.moved hW.alike hK, hD⟩, hS.F ht⟩) hS.2.2 dX10_count_103
  replace hF := (if_neg j5).symm.trans hF
  by_cases j6 : p1 = 4
  · skip
    have hF := (if_pos j6).symm.trans hF
    refine lv_tableIn (tgt := 104) hx hb dX10_count_8 (by rw [j6]; decide) (by rw [j6]; decide) (by rw [j6]; rfl) (by decide) ?_
    refine lv_aload_n hx hb dX10_count_104 rfl (lv_at hl 1 rfl) ?_
    refine va_get (D := D) (ci := 10) (v := .int (S1 0 47)) (C := RX10) (T := TX10) (N := 58) hx hb hts iX10_count_10 hown hK hP 0 rfl rfl 47 (by decide) (hts (.fieldLink RX10 186 "FondsRoomModel" "events" "I") (List.mem_of_getElem? (i := 6) rfl)) (fun _ h9 => h9) rfl dX10_count_105 ?_
    obtain ⟨e1, e2⟩ := ret2 hF
    have hP : va_P D vwCl (YW y cy Sf) H := by rw [← e2]; exact hP
    have hD : va_D (va_A (YW y cy S0) s.heap.size) (YW y cy Sf) := by rw [← e2]; exact hD
    exact W.iret (v := (S1 0 47)) hx hb hr (fun t ht hW => ⟨⟨(S1 0 47), (), rfl, e1, by rw [ht]; exact hP, va_K.moved hW.alike hK, hD⟩, hS.F ht⟩) hS.2.2 dX10_count_108
  replace hF := (if_neg j6).symm.trans hF
  by_cases j7 : p1 = 5
  · skip
    have hF := (if_pos j7).symm.trans hF
    refine lv_tableIn (tgt := 109) hx hb dX10_count_8 (by rw [j7]; decide) (by rw [j7]; decide) (by rw [j7]; rfl) (by decide) ?_
    refine lv_aload_n hx hb dX10_count_109 rfl (lv_at hl 1 rfl) ?_
    obtain ⟨r8, hq11, hF⟩ := bd1_s hF
    refine gvI (As := []) (rest := []) ⟨hx, hb, hml, hown, hts⟩ (zX10_home l D y cy S1 _  r8 hq11) (cwV 0 hts gX10_count_X10_home rfl rfl rfl (by decide +kernel) ⟨Nat.le_of_ble_eq_true rfl, Nat.le_of_ble_eq_true rfl⟩) hK hP hD hS hA (va_recv hK hP (ci := 10) (q0 := 0) rfl rfl) rfl hl.1 rfl (Nat.le_of_ble_eq_true rfl) dX10_count_110 ⟨Nat.le_of_ble_eq_true rfl, Nat.le_of_ble_eq_true rfl⟩ (fun a12 u9 H locs hw10 hP hD hS => ?_)
    have hP : va_P D vwCl (YW y cy S1) H := hP
    have hD : va_D _ (YW y cy S1) := hD
    refine lv_tov (v' := .int r8) (congrArg Value.int hw10) ?_
    obtain ⟨e1, e2⟩ := ret2 hF
    have hP : va_P D vwCl (YW y cy Sf) H := by rw [← e2]; exact hP
    have hD : va_D (va_A (YW y cy S0) s.heap.size) (YW y cy Sf) := by rw [← e2]; exact hD
    exact W.iret (v := r8) hx hb hr (fun t ht hW => ⟨⟨r8, (), rfl, e1, by rw [ht]; exact hP, va_K.moved hW.alike hK, hD⟩, hS.F ht⟩) hS.2.2 dX10_count_113
  replace hF := (if_neg j7).symm.trans hF
  by_cases j13 : p1 = 6
  · skip
    have hF := (if_pos j13).symm.trans hF
    refine lv_tableIn (tgt := 114) hx hb dX10_count_8 (by rw [j13]; decide) (by rw [j13]; decide) (by rw [j13]; rfl) (by decide) ?_
    refine lv_aload_n hx hb dX10_count_114 rfl (lv_at hl 1 rfl) ?_
    obtain ⟨r14, hq17, hF⟩ := bd1_s hF
    refine gvI (As := []) (rest := []) ⟨hx, hb, hml, hown, hts⟩ (zX10_isQuiet l D y cy S1 _  r14 hq17) (cwV 0 hts gX10_count_X10_isQuiet rfl rfl rfl (by decide +kernel) ⟨Nat.le_of_ble_eq_true rfl, Nat.le_of_ble_eq_true rfl⟩) hK hP hD hS hA (va_recv hK hP (ci := 10) (q0 := 0) rfl rfl) rfl hl.1 rfl (Nat.le_of_ble_eq_true rfl) dX10_count_115 ⟨Nat.le_of_ble_eq_true rfl, Nat.le_of_ble_eq_true rfl⟩ (fun a18 u9 H locs hw16 hP hD hS => ?_)
    have hP : va_P D vwCl (YW y cy S1) H := hP
    have hD : va_D _ (YW y cy S1) := hD
    refine lv_tov (v' := .int r14) (congrArg Value.int hw16.1) ?_
    refine lv_if_eq (tgt := 125) hx hb dX10_count_118 (by decide) (fun c19 => ?_) (fun c19 => ?_)
    · skip
      have hF := (if_pos c19).symm.trans hF
      refine lv_iconst (v := 0) hx hb dX10_count_125 (by decide) ?_
      obtain ⟨e1, e2⟩ := ret2 hF
      have hP : va_P D vwCl (YW y cy Sf) H := by rw [← e2]; exact hP
      have hD : va_D (va_A (YW y cy S0) s.heap.size) (YW y cy Sf) := by rw [← e2]; exact hD
      exact W.iret (v := 0) hx hb hr (fun t ht hW => ⟨⟨0, (), rfl, e1, by rw [ht]; exact hP, va_K.moved hW.alike hK, hD⟩, hS.F ht⟩) hS.2.2 dX10_count_126
    · skip
      have hF := (if_neg c19).symm.trans hF
      refine lv_iconst (v := 1) hx hb dX10_count_121 (by decide) ?_
      refine lv_goto (tgt := 126) hx hb dX10_count_122 (by decide) ?_
      obtain ⟨e1, e2⟩ := ret2 hF
      have hP : va_P D vwCl (YW y cy Sf) H := by rw [← e2]; exact hP
      have hD : va_D (va_A (YW y cy S0) s.heap.size) (YW y cy Sf) := by rw [← e2]; exact hD
      exact W.iret (v := 1) hx hb hr (fun t ht hW => ⟨⟨1, (), rfl, e1, by rw [ht]; exact hP, va_K.moved hW.alike hK, hD⟩, hS.F ht⟩) hS.2.2 dX10_count_126
  replace hF := (if_neg j13).symm.trans hF
  by_cases j20 : p1 = 7
  · skip
    have hF := (if_pos j20).symm.trans hF
    refine lv_tableIn (tgt := 127) hx hb dX10_count_8 (by rw [j20]; decide) (by rw [j20]; decide) (by rw [j20]; rfl) (by decide) ?_
    refine lv_iconst (v := 0) hx hb dX10_count_127 (by decide) ?_
    refine lv_istore_n (lv' := [(3, .int 0), (2, .int 0), (0, .ref (y 0)), (1, .int p1)]) hx hb dX10_count_128 rfl hl (by decide) rfl (fun ls hl => ?_)
    refine key129 _ ?_ 1000 p1 0 0 S1 _ _ _ hF hP hD hS (lv_sub hl [3, 1, 0, 2] rfl)
    intro v2_27 S28 H locs ls hF hP hD hS hl
    refine lv_iload_n hx hb dX10_count_174 rfl (lv_at hl 0 rfl) ?_
    obtain ⟨e1, e2⟩ := ret2 hF
    have hP : va_P D vwCl (YW y cy Sf) H := by rw [← e2]; exact hP
    have hD : va_D (va_A (YW y cy S0) s.heap.size) (YW y cy Sf) := by rw [← e2]; exact hD
    exact W.iret (v := v2_27) hx hb hr (fun t ht hW => ⟨⟨v2_27, (), rfl, e1, by rw [ht]; exact hP, va_K.moved hW.alike hK, hD⟩, hS.F ht⟩) hS.2.2 dX10_count_175
  replace hF := (if_neg j20).symm.trans hF
  by_cases j29 : p1 = 8
  · skip
    have hF := (if_pos j29).symm.trans hF
    refine lv_tableIn (tgt := 127) hx hb dX10_count_8 (by rw [j29]; decide) (by rw [j29]; decide) (by rw [j29]; rfl) (by decide) ?_
    refine lv_iconst (v := 0) hx hb dX10_count_127 (by decide) ?_
    refine lv_istore_n (lv' := [(3, .int 0), (2, .int 0), (0, .ref (y 0)), (1, .int p1)]) hx hb dX10_count_128 rfl hl (by decide) rfl (fun ls hl => ?_)
    refine key129 _ ?_ 1000 p1 0 0 S1 _ _ _ hF hP hD hS (lv_sub hl [3, 1, 0, 2] rfl)
    intro v2_30 S31 H locs ls hF hP hD hS hl
    refine lv_iload_n hx hb dX10_count_174 rfl (lv_at hl 0 rfl) ?_
    obtain ⟨e1, e2⟩ := ret2 hF
    have hP : va_P D vwCl (YW y cy Sf) H := by rw [← e2]; exact hP
    have hD : va_D (va_A (YW y cy S0) s.heap.size) (YW y cy Sf) := by rw [← e2]; exact hD
    exact W.iret (v := v2_30) hx hb hr (fun t ht hW => ⟨⟨v2_30, (), rfl, e1, by rw [ht]; exact hP, va_K.moved hW.alike hK, hD⟩, hS.F ht⟩) hS.2.2 dX10_count_175
  replace hF := (if_neg j29).symm.trans hF
  by_cases j32 : p1 = 9
  · skip
    have hF := (if_pos j32).symm.trans hF
    refine lv_tableIn (tgt := 127) hx hb dX10_count_8 (by rw [j32]; decide) (by rw [j32]; decide) (by rw [j32]; rfl) (by decide) ?_
    refine lv_iconst (v := 0) hx hb dX10_count_127 (by decide) ?_
    refine lv_istore_n (lv' := [(3, .int 0), (2, .int 0), (0, .ref (y 0)), (1, .int p1)]) hx hb dX10_count_128 rfl hl (by decide) rfl (fun ls hl => ?_)
    refine key129 _ ?_ 1000 p1 0 0 S1 _ _ _ hF hP hD hS (lv_sub hl [3, 1, 0, 2] rfl)
    intro v2_33 S34 H locs ls hF hP hD hS hl
    refine lv_iload_n hx hb dX10_count_174 rfl (lv_at hl 0 rfl) ?_
    obtain ⟨e1, e2⟩ := ret2 hF
    have hP : va_P D vwCl (YW y cy Sf) H := by rw [← e2]; exact hP
    have hD : va_D (va_A (YW y cy S0) s.heap.size) (YW y cy Sf) := by rw [← e2]; exact hD
    exact W.iret (v := v2_33) hx hb hr (fun t ht hW => ⟨⟨v2_33, (), rfl, e1, by rw [ht]; exact hP, va_K.moved hW.alike hK, hD⟩, hS.F ht⟩) hS.2.2 dX10_count_175
  replace hF := (if_neg j32).symm.trans hF
  by_cases j35 : p1 = 10
  · skip
    have hF := (if_pos j35).symm.trans hF
    refine lv_tableIn (tgt := 176) hx hb dX10_count_8 (by rw [j35]; decide) (by rw [j35]; decide) (by rw [j35]; rfl) (by decide) ?_
    refine lv_aload_n hx hb dX10_count_176 rfl (lv_at hl 1 rfl) ?_
    refine va_get (D := D) (ci := 10) (v := .int (S1 0 22)) (C := RX10) (T := TX10) (N := 58) hx hb hts iX10_count_10 hown hK hP 0 rfl rfl 22 (by decide) (hts (.fieldLink RX10 210 "FondsRoomModel" "made" "I") (List.mem_of_getElem? (i := 8) rfl)) (fun _ h9 => h9) rfl dX10_count_177 ?_
    obtain ⟨e1, e2⟩ := ret2 hF
    have hP : va_P D vwCl (YW y cy Sf) H := by rw [← e2]; exact hP
    have hD : va_D (va_A (YW y cy S0) s.heap.size) (YW y cy Sf) := by rw [← e2]; exact hD
    exact W.iret (v := (S1 0 22)) hx hb hr (fun t ht hW => ⟨⟨(S1 0 22), (), rfl, e1, by rw [ht]; exact hP, va_K.moved hW.alike hK, hD⟩, hS.F ht⟩) hS.2.2 dX10_count_180
  replace hF := (if_neg j35).symm.trans hF
  by_cases j36 : p1 = 11
  · skip
    have hF := (if_pos j36).symm.trans hF
    refine lv_tableIn (tgt := 181) hx hb dX10_count_8 (by rw [j36]; decide) (by rw [j36]; decide) (by rw [j36]; rfl) (by decide) ?_
    refine lv_aload_n hx hb dX10_count_181 rfl (lv_at hl 1 rfl) ?_
    refine va_get (D := D) (ci := 10) (v := .int (S1 0 21)) (C := RX10) (T := TX10) (N := 58) hx hb hts iX10_count_10 hown hK hP 0 rfl rfl 21 (by decide) (hts (.fieldLink RX10 250 "FondsRoomModel" "begun" "I") (List.mem_of_getElem? (i := 9) rfl)) (fun _ h9 => h9) rfl dX10_count_182 ?_
    obtain ⟨e1, e2⟩ := ret2 hF
    have hP : va_P D vwCl (YW y cy Sf) H := by rw [← e2]; exact hP
    have hD : va_D (va_A (YW y cy S0) s.heap.size) (YW y cy Sf) := by rw [← e2]; exact hD
    exact W.iret (v := (S1 0 21)) hx hb hr (fun t ht hW => ⟨⟨(S1 0 21), (), rfl, e1, by rw [ht]; exact hP, va_K.moved hW.alike hK, hD⟩, hS.F ht⟩) hS.2.2 dX10_count_185
  replace hF := (if_neg j36).symm.trans hF
  by_cases j37 : p1 = 12
  · skip
    have hF := (if_pos j37).symm.trans hF
    refine lv_tableIn (tgt := 186) hx hb dX10_count_8 (by rw [j37]; decide) (by rw [j37]; decide) (by rw [j37]; rfl) (by decide) ?_
    refine lv_aload_n hx hb dX10_count_186 rfl (lv_at hl 1 rfl) ?_
    refine va_get (D := D) (ci := 10) (v := .int (S1 0 5)) (C := RX10) (T := TX10) (N := 58) hx hb hts iX10_count_10 hown hK hP 0 rfl rfl 5 (by decide) (hts (.fieldLink RX10 9 "FondsRoomModel" "bellTurn" "I") (List.mem_of_getElem? (i := 10) rfl)) (fun _ h9 => h9) rfl dX10_count_187 ?_
    obtain ⟨e1, e2⟩ := ret2 hF
    have hP : va_P D vwCl (YW y cy Sf) H := by rw [← e2]; exact hP
    have hD : va_D (va_A (YW y cy S0) s.heap.size) (YW y cy Sf) := by rw [← e2]; exact hD
    exact W.iret (v := (S1 0 5)) hx hb hr (fun t ht hW => ⟨⟨(S1 0 5), (), rfl, e1, by rw [ht]; exact hP, va_K.moved hW.alike hK, hD⟩, hS.F ht⟩) hS.2.2 dX10_count_190
  replace hF := (if_neg j37).symm.trans hF
  by_cases j38 : p1 = 13
  · skip
    have hF := (if_pos j38).symm.trans hF
    refine lv_tableIn (tgt := 191) hx hb dX10_count_8 (by rw [j38]; decide) (by rw [j38]; decide) (by rw [j38]; rfl) (by decide) ?_
    refine lv_aload_n hx hb dX10_count_191 rfl (lv_at hl 1 rfl) ?_
    refine va_get (D := D) (ci := 10) (v := .int (S1 0 52)) (C := RX10) (T := TX10) (N := 58) hx hb hts iX10_count_10 hown hK hP 0 rfl rfl 52 (by decide) (hts (.fieldLink RX10 183 "FondsRoomModel" "mishaps" "I") (List.mem_of_getElem? (i := 11) rfl)) (fun _ h9 => h9) rfl dX10_count_192 ?_
    obtain ⟨e1, e2⟩ := ret2 hF
    have hP : va_P D vwCl (YW y cy Sf) H := by rw [← e2]; exact hP
    have hD : va_D (va_A (YW y cy S0) s.heap.size) (YW y cy Sf) := by rw [← e2]; exact hD
    exact W.iret (v := (S1 0 52)) hx hb hr (fun t ht hW => ⟨⟨(S1 0 52), (), rfl, e1, by rw [ht]; exact hP, va_K.moved hW.alike hK, hD⟩, hS.F ht⟩) hS.2.2 dX10_count_195
  replace hF := (if_neg j38).symm.trans hF
  by_cases j39 : p1 = 14
  · skip
    have hF := (if_pos j39).symm.trans hF
    refine lv_tableIn (tgt := 196) hx hb dX10_count_8 (by rw [j39]; decide) (by rw [j39]; decide) (by rw [j39]; rfl) (by decide) ?_
    refine lv_aload_n hx hb dX10_count_196 rfl (lv_at hl 1 rfl) ?_
    refine va_get (D := D) (ci := 10) (v := .int (S1 0 23)) (C := RX10) (T := TX10) (N := 58) hx hb hts iX10_count_10 hown hK hP 0 rfl rfl 23 (by decide) (hts (.fieldLink RX10 257 "FondsRoomModel" "urgentRun" "I") (List.mem_of_getElem? (i := 12) rfl)) (fun _ h9 => h9) rfl dX10_count_197 ?_
    obtain ⟨e1, e2⟩ := ret2 hF
    have hP : va_P D vwCl (YW y cy Sf) H := by rw [← e2]; exact hP
    have hD : va_D (va_A (YW y cy S0) s.heap.size) (YW y cy Sf) := by rw [← e2]; exact hD
    exact W.iret (v := (S1 0 23)) hx hb hr (fun t ht hW => ⟨⟨(S1 0 23), (), rfl, e1, by rw [ht]; exact hP, va_K.moved hW.alike hK, hD⟩, hS.F ht⟩) hS.2.2 dX10_count_200
  replace hF := (if_neg j39).symm.trans hF
  have zj2 : (p1).toInt ≠ 0 := fun h9 => j2 ((fa_eq _ _).mpr (h9.trans (by decide)))
  have zj3 : (p1).toInt ≠ 1 := fun h9 => j3 ((fa_eq _ _).mpr (h9.trans (by decide)))
  have zj4 : (p1).toInt ≠ 2 := fun h9 => j4 ((fa_eq _ _).mpr (h9.trans (by decide)))
  have zj5 : (p1).toInt ≠ 3 := fun h9 => j5 ((fa_eq _ _).mpr (h9.trans (by decide)))
  have zj6 : (p1).toInt ≠ 4 := fun h9 => j6 ((fa_eq _ _).mpr (h9.trans (by decide)))
  have zj7 : (p1).toInt ≠ 5 := fun h9 => j7 ((fa_eq _ _).mpr (h9.trans (by decide)))
  have zj13 : (p1).toInt ≠ 6 := fun h9 => j13 ((fa_eq _ _).mpr (h9.trans (by decide)))
  have zj20 : (p1).toInt ≠ 7 := fun h9 => j20 ((fa_eq _ _).mpr (h9.trans (by decide)))
  have zj29 : (p1).toInt ≠ 8 := fun h9 => j29 ((fa_eq _ _).mpr (h9.trans (by decide)))
  have zj32 : (p1).toInt ≠ 9 := fun h9 => j32 ((fa_eq _ _).mpr (h9.trans (by decide)))
  have zj35 : (p1).toInt ≠ 10 := fun h9 => j35 ((fa_eq _ _).mpr (h9.trans (by decide)))
  have zj36 : (p1).toInt ≠ 11 := fun h9 => j36 ((fa_eq _ _).mpr (h9.trans (by decide)))
  have zj37 : (p1).toInt ≠ 12 := fun h9 => j37 ((fa_eq _ _).mpr (h9.trans (by decide)))
  have zj38 : (p1).toInt ≠ 13 := fun h9 => j38 ((fa_eq _ _).mpr (h9.trans (by decide)))
  have zj39 : (p1).toInt ≠ 14 := fun h9 => j39 ((fa_eq _ _).mpr (h9.trans (by decide)))
  refine lv_tableOut (tgt := 201) hx hb dX10_count_8 (by omega) (by decide) ?_
  refine lv_iconst (v := (-1)) hx hb dX10_count_201 (by decide) ?_
  obtain ⟨e1, e2⟩ := ret2 hF
  have hP : va_P D vwCl (YW y cy Sf) H := by rw [← e2]; exact hP
  have hD : va_D (va_A (YW y cy S0) s.heap.size) (YW y cy Sf) := by rw [← e2]; exact hD
  exact W.iret (v := (-1)) hx hb hr (fun t ht hW => ⟨⟨(-1), (), rfl, e1, by rw [ht]; exact hP, va_K.moved hW.alike hK, hD⟩, hS.F ht⟩) hS.2.2 dX10_count_202
