set_option maxHeartbeats 8000000 in
set_option maxRecDepth 100000 in
theorem zX10_in (l : Launch) (D : va_G) (y : Nat → Nat) (cy : Nat → ClassId) (S : RS) (sz : Nat) (p1 p2 p3 : Int32) (rv : Int32) (hF : gX10_in p1 p2 p3 = some rv) : Met l yX10_in wsX10_in ({ frames := 0, cells := 0, slots := 0, locals := 0 }) (PW D (TYS cy) (YW y cy S) sz [.int p1, .int p2, .int p3]) (va_Qi (fun (res : Int32) (u : Unit) => res = rv ∧ b01 rv) (BU D (TYS cy) (YW y cy S) (fun _ => YW y cy S) sz) (va_A (YW y cy S) sz)) 0 0 (va_A (YW y cy S) sz) := by
  refine Met.ofW (cc := cX10_in) (maxL := 3) (ret := (some .boolean)) (by decide) rfl ?_
  intro p e s m args below meth c s₁ B hml hv
  obtain ⟨rfl, hsz, hP, hK, hD0⟩ := hv
  have hx := B.exec
  have hb := B.bytes
  have hr := B.returns
  have hts := atoms_spec (ws := wsX10_in) B.pre
  have hown : s.vm.findClass RX10 = some m.cls := findClass_of_methodNamed B.named
  have hlocks := B.notSynchronized
  subst hsz
  have hD := hD0.self (sz := s.heap.size)
  have hA : ∀ q9 : Nat, s.heap.size ≤ q9 → va_A (YW y cy S) s.heap.size q9 := fun q9 h => Or.inr h
  have hS : va_S (va_A (YW y cy S) s.heap.size) s.heap s.heap [] := va_S.rf
  have hl := lv_entry ([.int p1, .int p2, .int p3]) (n := 3) (Nat.le_of_ble_eq_true rfl)
  rw [lg_entry_eq]
  generalize (lg_sl ([.int p1, .int p2, .int p3]) ++ List.replicate (3 - (lg_sl ([.int p1, .int p2, .int p3])).length) Slot.unset).toArray = ls at hl ⊢
  have hl : lv_has ls 3 [(0, .int p1), (1, .int p2), (2, .int p3)] := hl
  unfold gX10_in at hF
  refine lv_iload_n hx hb dX10_in_0 rfl (lv_at hl 0 rfl) ?_
  refine lv_iload_n hx hb dX10_in_1 rfl (lv_at hl 1 rfl) ?_
  refine lv_icmp_lt (tgt := 14) hx hb dX10_in_2 (by decide) (fun c1 => ?_) (fun c1 => ?_)
  · skip
    have hF := (if_pos c1).symm.trans hF
    refine lv_iconst (v := 0) hx hb dX10_in_14 (by decide) ?_
    have e1 := Option.some.inj hF
    exact W.zret (v := 0) hx hb hr (nz01 (Or.inl rfl)).1 (fun t ht hW => ⟨⟨0, (), rfl, ⟨e1, by rw [← e1]; exact Or.inl rfl⟩, by rw [ht]; exact hP, va_K.moved hW.alike hK, hD⟩, hS.F ht⟩) hS.2.2 dX10_in_15
  · skip
    have hF := (if_neg c1).symm.trans hF
    refine lv_iload_n hx hb dX10_in_5 rfl (lv_at hl 0 rfl) ?_
    refine lv_iload_n hx hb dX10_in_6 rfl (lv_at hl 2 rfl) ?_
    refine lv_icmp_gt (tgt := 14) hx hb dX10_in_7 (by decide) (fun c2 => ?_) (fun c2 => ?_)
    · skip
      have hF := (if_pos c2).symm.trans hF
      refine lv_iconst (v := 0) hx hb dX10_in_14 (by decide) ?_
      have e1 := Option.some.inj hF
      exact W.zret (v := 0) hx hb hr (nz01 (Or.inl rfl)).1 (fun t ht hW => ⟨⟨0, (), rfl, ⟨e1, by rw [← e1]; exact Or.inl rfl⟩, by rw [ht]; exact hP, va_K.moved hW.alike hK, hD⟩, hS.F ht⟩) hS.2.2 dX10_in_15
    · skip
      have hF := (if_neg c2).symm.trans hF
      refine lv_iconst (v := 1) hx hb dX10_in_10 (by decide) ?_
      refine lv_goto (tgt := 15) hx hb dX10_in_11 (by decide) ?_
      have e1 := Option.some.inj hF
      exact W.zret (v := 1) hx hb hr (nz01 (Or.inr rfl)).1 (fun t ht hW => ⟨⟨1, (), rfl, ⟨e1, by rw [← e1]; exact Or.inr rfl⟩, by rw [ht]; exact hP, va_K.moved hW.alike hK, hD⟩, hS.F ht⟩) hS.2.2 dX10_in_15

theorem iX10_isReader_10 : ∀ w ∈ wsX100, w ∈ wsX10_isReader := fun _ h => List.mem_cons_of_mem _ (List.mem_append_right _ h)
set_option maxHeartbeats 8000000 in
set_option maxRecDepth 100000 in
theorem zX10_isReader (l : Launch) (D : va_G) (y : Nat → Nat) (cy : Nat → ClassId) (S : RS) (sz : Nat) (p1 : Int32) (rv : Int32) (hF : gX10_isReader S p1 = some rv) : Met l yX10_isReader wsX10_isReader ({ frames := 1, cells := 0, slots := 0, locals := 22 }) (PW D (TYS cy) (YW y cy S) sz [.ref (y 0), .int p1]) (va_Qi (fun (res : Int32) (u : Unit) => res = rv ∧ b01 rv) (BU D (TYS cy) (YW y cy S) (fun _ => YW y cy S) sz) (va_A (YW y cy S) sz)) 0 0 (va_A (YW y cy S) sz) := by
  refine Met.ofW (cc := cX10_isReader) (maxL := 2) (ret := (some .boolean)) (by decide) rfl ?_
  intro p e s m args below meth c s₁ B hml hv
  obtain ⟨rfl, hsz, hP, hK, hD0⟩ := hv
  have hx := B.exec
  have hb := B.bytes
  have hr := B.returns
  have hts := atoms_spec (ws := wsX10_isReader) B.pre
  have hown : s.vm.findClass RX10 = some m.cls := findClass_of_methodNamed B.named
  have hlocks := B.notSynchronized
  subst hsz
  have hD := hD0.self (sz := s.heap.size)
  have hA : ∀ q9 : Nat, s.heap.size ≤ q9 → va_A (YW y cy S) s.heap.size q9 := fun q9 h => Or.inr h
  have hS : va_S (va_A (YW y cy S) s.heap.size) s.heap s.heap [] := va_S.rf
  have hl := lv_entry ([.ref (y 0), .int p1]) (n := 2) (Nat.le_of_ble_eq_true rfl)
  rw [lg_entry_eq]
  generalize (lg_sl ([.ref (y 0), .int p1]) ++ List.replicate (2 - (lg_sl ([.ref (y 0), .int p1])).length) Slot.unset).toArray = ls at hl ⊢
  have hl : lv_has ls 2 [(0, .ref (y 0)), (1, .int p1)] := hl
  unfold gX10_isReader at hF
  refine lv_iload_n hx hb dX10_isReader_0 rfl (lv_at hl 1 rfl) ?_
  refine lv_iconst (v := 0) hx hb dX10_isReader_1 (by decide) ?_
  refine lv_aload_n hx hb dX10_isReader_2 rfl (lv_at hl 0 rfl) ?_
  refine va_get (D := D) (ci := 10) (v := .int (S 0 3)) (C := RX10) (T := TX10) (N := 58) hx hb hts iX10_isReader_10 hown hK hP 0 rfl rfl 3 (by decide) (hts (.fieldLink RX10 153 "FondsRoomModel" "readers" "I") (List.mem_of_getElem? (i := 1) rfl)) (fun _ h9 => h9) rfl dX10_isReader_3 ?_
  refine lv_iconst (v := 1) hx hb dX10_isReader_6 (by decide) ?_
  refine lv_isub hx hb dX10_isReader_7 ?_
  obtain ⟨r1, hq4, hF⟩ := bd1_s hF
  refine gsI (As := [.int p1, .int 0, .int ((S 0 3) - 1)]) (rest := []) ⟨hx, hb, hml, hown, hts⟩ (zX10_in l D y cy S _ p1 0 ((S 0 3) - 1) r1 hq4) (va_cwS 3 hts gX10_isReader_X10_in rfl rfl rfl (by decide +kernel) ⟨Nat.le_of_ble_eq_true rfl, Nat.le_of_ble_eq_true rfl⟩) hK hP hD hS hA rfl hl.1 rfl (Nat.le_of_ble_eq_true rfl) dX10_isReader_8 ⟨Nat.le_of_ble_eq_true rfl, Nat.le_of_ble_eq_true rfl⟩ (fun a5 u9 H locs hw3 hP hD hS => ?_)
  have hP : va_P D vwCl (YW y cy S) H := hP
  have hD : va_D _ (YW y cy S) := hD
  refine lv_tov (v' := .int r1) (congrArg Value.int hw3.1) ?_
  have e1 := Option.some.inj hF
  exact W.zret (v := r1) hx hb hr (nz01 (hw3.2)).1 (fun t ht hW => ⟨⟨r1, (), rfl, ⟨e1, by rw [← e1]; exact hw3.2⟩, by rw [ht]; exact hP, va_K.moved hW.alike hK, hD⟩, hS.F ht⟩) hS.2.2 dX10_isReader_11

theorem iX10_isBox_10 : ∀ w ∈ wsX100, w ∈ wsX10_isBox := fun _ h => List.mem_cons_of_mem _ (List.mem_append_right _ h)
set_option maxHeartbeats 8000000 in
set_option maxRecDepth 100000 in
theorem zX10_isBox (l : Launch) (D : va_G) (y : Nat → Nat) (cy : Nat → ClassId) (S : RS) (sz : Nat) (p1 : Int32) (rv : Int32) (hF : gX10_isBox S p1 = some rv) : Met l yX10_isBox wsX10_isBox ({ frames := 1, cells := 0, slots := 0, locals := 22 }) (PW D (TYS cy) (YW y cy S) sz [.ref (y 0), .int p1]) (va_Qi (fun (res : Int32) (u : Unit) => res = rv ∧ b01 rv) (BU D (TYS cy) (YW y cy S) (fun _ => YW y cy S) sz) (va_A (YW y cy S) sz)) 0 0 (va_A (YW y cy S) sz) := by
  refine Met.ofW (cc := cX10_isBox) (maxL := 2) (ret := (some .boolean)) (by decide) rfl ?_
  intro p e s m args below meth c s₁ B hml hv
  obtain ⟨rfl, hsz, hP, hK, hD0⟩ := hv
  have hx := B.exec
  have hb := B.bytes
  have hr := B.returns
  have hts := atoms_spec (ws := wsX10_isBox) B.pre
  have hown : s.vm.findClass RX10 = some m.cls := findClass_of_methodNamed B.named
  have hlocks := B.notSynchronized
  subst hsz
  have hD := hD0.self (sz := s.heap.size)
  have hA : ∀ q9 : Nat, s.heap.size ≤ q9 → va_A (YW y cy S) s.heap.size q9 := fun q9 h => Or.inr h
  have hS : va_S (va_A (YW y cy S) s.heap.size) s.heap s.heap [] := va_S.rf
  have hl := lv_entry ([.ref (y 0), .int p1]) (n := 2) (Nat.le_of_ble_eq_true rfl)
  rw [lg_entry_eq]
  generalize (lg_sl ([.ref (y 0), .int p1]) ++ List.replicate (2 - (lg_sl ([.ref (y 0), .int p1])).length) Slot.unset).toArray = ls at hl ⊢
  have hl : lv_has ls 2 [(0, .ref (y 0)), (1, .int p1)] := hl
  unfold gX10_isBox at hF
  refine lv_iload_n hx hb dX10_isBox_0 rfl (lv_at hl 1 rfl) ?_
  refine lv_iconst (v := 0) hx hb dX10_isBox_1 (by decide) ?_
  refine lv_aload_n hx hb dX10_isBox_2 rfl (lv_at hl 0 rfl) ?_
  refine va_get (D := D) (ci := 10) (v := .int (S 0 2)) (C := RX10) (T := TX10) (N := 58) hx hb hts iX10_isBox_10 hown hK hP 0 rfl rfl 2 (by decide) (hts (.fieldLink RX10 160 "FondsRoomModel" "boxes" "I") (List.mem_of_getElem? (i := 1) rfl)) (fun _ h9 => h9) rfl dX10_isBox_3 ?_
  refine lv_iconst (v := 1) hx hb dX10_isBox_6 (by decide) ?_
  refine lv_isub hx hb dX10_isBox_7 ?_
  obtain ⟨r1, hq4, hF⟩ := bd1_s hF
  refine gsI (As := [.int p1, .int 0, .int ((S 0 2) - 1)]) (rest := []) ⟨hx, hb, hml, hown, hts⟩ (zX10_in l D y cy S _ p1 0 ((S 0 2) - 1) r1 hq4) (va_cwS 3 hts gX10_isBox_X10_in rfl rfl rfl (by decide +kernel) ⟨Nat.le_of_ble_eq_true rfl, Nat.le_of_ble_eq_true rfl⟩) hK hP hD hS hA rfl hl.1 rfl (Nat.le_of_ble_eq_true rfl) dX10_isBox_8 ⟨Nat.le_of_ble_eq_true rfl, Nat.le_of_ble_eq_true rfl⟩ (fun a5 u9 H locs hw3 hP hD hS => ?_)
  have hP : va_P D vwCl (YW y cy S) H := hP
  have hD : va_D _ (YW y cy S) := hD
  refine lv_tov (v' := .int r1) (congrArg Value.int hw3.1) ?_
  have e1 := Option.some.inj hF
  exact W.zret (v := r1) hx hb hr (nz01 (hw3.2)).1 (fun t ht hW => ⟨⟨r1, (), rfl, ⟨e1, by rw [← e1]; exact hw3.2⟩, by rw [ht]; exact hP, va_K.moved hW.alike hK, hD⟩, hS.F ht⟩) hS.2.2 dX10_isBox_11

theorem iX10_desk_10 : ∀ w ∈ wsX100, w ∈ wsX10_desk := fun _ h => List.mem_cons_of_mem _ (List.mem_append_right _ h)
set_option maxHeartbeats 8000000 in
set_option maxRecDepth 100000 in
theorem zX10_desk (l : Launch) (D : va_G) (y : Nat → Nat) (cy : Nat → ClassId) (S0 : RS) (sz : Nat) (p1 : Int32) (rv : Int32) (Sf : RS) (hF : gX10_desk S0 p1 = some (rv, Sf)) : Met l yX10_desk wsX10_desk ({ frames := 0, cells := 0, slots := 0, locals := 0 }) (PW D (TYS cy) (YW y cy S0) sz [.ref (y 0), .int p1]) (va_Qi (fun (res : Int32) (u : Unit) => res = rv) (BU D (TYS cy) (YW y cy S0) (fun _ => YW y cy Sf) sz) (va_A (YW y cy S0) sz)) 0 0 (va_A (YW y cy S0) sz) := by
  refine Met.ofW (cc := cX10_desk) (maxL := 2) (ret := (some .int)) (by decide) rfl ?_
  intro p e s m args below meth c s₁ B hml hv
  obtain ⟨rfl, hsz, hP, hK, hD0⟩ := hv
  have hx := B.exec
  have hb := B.bytes
  have hr := B.returns
  have hts := atoms_spec (ws := wsX10_desk) B.pre
  have hown : s.vm.findClass RX10 = some m.cls := findClass_of_methodNamed B.named
  have hlocks := B.notSynchronized
  subst hsz
  have hD := hD0.self (sz := s.heap.size)
  have hA : ∀ q9 : Nat, s.heap.size ≤ q9 → va_A (YW y cy S0) s.heap.size q9 := fun q9 h => Or.inr h
  have hS : va_S (va_A (YW y cy S0) s.heap.size) s.heap s.heap [] := va_S.rf
  have hl := lv_entry ([.ref (y 0), .int p1]) (n := 2) (Nat.le_of_ble_eq_true rfl)
  rw [lg_entry_eq]
  generalize (lg_sl ([.ref (y 0), .int p1]) ++ List.replicate (2 - (lg_sl ([.ref (y 0), .int p1])).length) Slot.unset).toArray = ls at hl ⊢
  have hl : lv_has ls 2 [(0, .ref (y 0)), (1, .int p1)] := hl
  unfold gX10_desk at hF
  refine lv_aload_n hx hb dX10_desk_0 rfl (lv_at hl 0 rfl) ?_
  refine lv_iconst (v := 0) hx hb dX10_desk_1 (by decide) ?_
  refine va_put (D := D) (ci := 10) (v := .int 0) (ty := .int) (C := RX10) (T := TX10) (N := 58) hx hb hts iX10_desk_10 tyX10 tyX10_ok nmX10 hown hK hP hD hS 0 rfl rfl 0 (by decide) (hts (.fieldLink RX10 150 "FondsRoomModel" "thrown" "I") (List.mem_of_getElem? (i := 1) rfl)) (fun _ h9 => h9) rfl (by decide +kernel) rfl rfl (Nat.le_of_ble_eq_true rfl) dX10_desk_2 (fun H locs hP hD hS => ?_)
  obtain ⟨S1, eS1⟩ : ∃ z, z = wr S0 0 0 0 := ⟨_, rfl⟩
  replace hF := bnd_s hF S1 eS1
  have hP : va_P D vwCl (YW y cy S1) H := by rw [eS1]; exact hP
  have hD : va_D (va_A (YW y cy S0) s.heap.size) (YW y cy S1) := by rw [eS1]; exact hD
  refine lv_aload_n hx hb dX10_desk_5 rfl (lv_at hl 0 rfl) ?_
  refine va_get (D := D) (ci := 10) (v := .int (S1 0 4)) (C := RX10) (T := TX10) (N := 58) hx hb hts iX10_desk_10 hown hK hP 0 rfl rfl 4 (by decide) (hts (.fieldLink RX10 163 "FondsRoomModel" "turn" "I") (List.mem_of_getElem? (i := 2) rfl)) (fun _ h9 => h9) rfl dX10_desk_6 ?_
  refine lv_if_gt (tgt := 21) hx hb dX10_desk_9 (by decide) (fun c2 => ?_) (fun c2 => ?_)
  · skip
    have hF := (if_pos c2).symm.trans hF
    refine lv_iconst (v := (-1)) hx hb dX10_desk_21 (by decide) ?_
    obtain ⟨e1, e2⟩ := ret2 hF
    have hP : va_P D vwCl (YW y cy Sf) H := by rw [← e2]; exact hP
    have hD : va_D (va_A (YW y cy S0) s.heap.size) (YW y cy Sf) := by rw [← e2]; exact hD
    exact W.iret (v := (-1)) hx hb hr (fun t ht hW => ⟨⟨(-1), (), rfl, e1, by rw [ht]; exact hP, va_K.moved hW.alike hK, hD⟩, hS.F ht⟩) hS.2.2 dX10_desk_22
  · skip
    have hF := (if_neg c2).symm.trans hF
    refine lv_aload_n hx hb dX10_desk_12 rfl (lv_at hl 0 rfl) ?_
    refine va_get (D := D) (ci := 10) (v := .int (S1 0 1)) (C := RX10) (T := TX10) (N := 58) hx hb hts iX10_desk_10 hown hK hP 0 rfl rfl 1 (by decide) (hts (.fieldLink RX10 166 "FondsRoomModel" "desks" "I") (List.mem_of_getElem? (i := 3) rfl)) (fun _ h9 => h9) rfl dX10_desk_13 ?_
    refine lv_bipush (v := 12) hx hb dX10_desk_16 (by decide) ?_
    refine lv_icmp_ne (tgt := 23) hx hb dX10_desk_18 (by decide) (fun c3 => ?_) (fun c3 => ?_)
    · skip
      have hF := (if_neg c3).symm.trans hF
      refine lv_aload_n hx hb dX10_desk_23 rfl (lv_at hl 0 rfl) ?_
      refine va_get (D := D) (ci := 10) (v := .ref (y 1)) (C := RX10) (T := TX10) (N := 58) hx hb hts iX10_desk_10 hown hK hP 0 rfl rfl 9 (by decide) (hts (.fieldLink RX10 22 "FondsRoomModel" "isWatched" "[Z") (List.mem_of_getElem? (i := 4) rfl)) (fun _ h9 => h9) rfl dX10_desk_24 ?_
      refine lv_aload_n hx hb dX10_desk_27 rfl (lv_at hl 0 rfl) ?_
      refine va_get (D := D) (ci := 10) (v := .int (S1 0 1)) (C := RX10) (T := TX10) (N := 58) hx hb hts iX10_desk_10 hown hK hP 0 rfl rfl 1 (by decide) (hts (.fieldLink RX10 166 "FondsRoomModel" "desks" "I") (List.mem_of_getElem? (i := 3) rfl)) (fun _ h9 => h9) rfl dX10_desk_28 ?_
      refine lv_iload_n hx hb dX10_desk_31 rfl (lv_at hl 1 rfl) ?_
      obtain ⟨hi4, hF⟩ := sv_s hF
      refine va_zast hx hb hK hP hD hS 1 1 rfl rfl hi4 dX10_desk_32 (fun H locs hP hD hS => ?_)
      obtain ⟨S5, eS5⟩ : ∃ z, z = wr S1 1 ((S1 0 1) : Int32).toNatClampNeg (vp_nar .boolean p1) := ⟨_, rfl⟩
      replace hF := hF S5 eS5
      have hP : va_P D vwCl (YW y cy S5) H := by rw [eS5]; exact hP
      have hD : va_D (va_A (YW y cy S0) s.heap.size) (YW y cy S5) := by rw [eS5]; exact hD
      refine lv_aload_n hx hb dX10_desk_33 rfl (lv_at hl 0 rfl) ?_
      refine va_get (D := D) (ci := 10) (v := .ref (y 2)) (C := RX10) (T := TX10) (N := 58) hx hb hts iX10_desk_10 hown hK hP 0 rfl rfl 10 (by decide) (hts (.fieldLink RX10 26 "FondsRoomModel" "sitter" "[I") (List.mem_of_getElem? (i := 5) rfl)) (fun _ h9 => h9) rfl dX10_desk_34 ?_
      refine lv_aload_n hx hb dX10_desk_37 rfl (lv_at hl 0 rfl) ?_
      refine va_get (D := D) (ci := 10) (v := .int (S5 0 1)) (C := RX10) (T := TX10) (N := 58) hx hb hts iX10_desk_10 hown hK hP 0 rfl rfl 1 (by decide) (hts (.fieldLink RX10 166 "FondsRoomModel" "desks" "I") (List.mem_of_getElem? (i := 3) rfl)) (fun _ h9 => h9) rfl dX10_desk_38 ?_
      refine lv_iconst (v := (-1)) hx hb dX10_desk_41 (by decide) ?_
      obtain ⟨hi6, hF⟩ := sv_s hF
      refine va_iast hx hb hK hP hD hS 2 0 rfl rfl hi6 dX10_desk_42 (fun H locs hP hD hS => ?_)
      obtain ⟨S7, eS7⟩ : ∃ z, z = wr S5 2 ((S5 0 1) : Int32).toNatClampNeg (-1) := ⟨_, rfl⟩
      replace hF := hF S7 eS7
      have hP : va_P D vwCl (YW y cy S7) H := by rw [eS7]; exact hP
      have hD : va_D (va_A (YW y cy S0) s.heap.size) (YW y cy S7) := by rw [eS7]; exact hD
      refine lv_aload_n hx hb dX10_desk_43 rfl (lv_at hl 0 rfl) ?_
      refine lv_dup hx hb dX10_desk_44 rfl ?_
      refine va_get (D := D) (ci := 10) (v := .int (S7 0 1)) (C := RX10) (T := TX10) (N := 58) hx hb hts iX10_desk_10 hown hK hP 0 rfl rfl 1 (by decide) (hts (.fieldLink RX10 166 "FondsRoomModel" "desks" "I") (List.mem_of_getElem? (i := 3) rfl)) (fun _ h9 => h9) rfl dX10_desk_45 ?_
      refine lv_iconst (v := 1) hx hb dX10_desk_48 (by decide) ?_
      refine lv_iadd hx hb dX10_desk_49 ?_
      refine va_put (D := D) (ci := 10) (v := .int ((S7 0 1) + 1)) (ty := .int) (C := RX10) (T := TX10) (N := 58) hx hb hts iX10_desk_10 tyX10 tyX10_ok nmX10 hown hK hP hD hS 0 rfl rfl 1 (by decide) (hts (.fieldLink RX10 166 "FondsRoomModel" "desks" "I") (List.mem_of_getElem? (i := 3) rfl)) (fun _ h9 => h9) rfl (by decide +kernel) rfl rfl (Nat.le_of_ble_eq_true rfl) dX10_desk_50 (fun H locs hP hD hS => ?_)
      obtain ⟨S8, eS8⟩ : ∃ z, z = wr S7 0 1 ((S7 0 1) + 1) := ⟨_, rfl⟩
      replace hF := bnd_s hF S8 eS8
      have hP : va_P D vwCl (YW y cy S8) H := by rw [eS8]; exact hP
      have hD : va_D (va_A (YW y cy S0) s.heap.size) (YW y cy S8) := by rw [eS8]; exact hD
      refine lv_aload_n hx hb dX10_desk_53 rfl (lv_at hl 0 rfl) ?_
      refine va_get (D := D) (ci := 10) (v := .int (S8 0 1)) (C := RX10) (T := TX10) (N := 58) hx hb hts iX10_desk_10 hown hK hP 0 rfl rfl 1 (by decide) (hts (.fieldLink RX10 166 "FondsRoomModel" "desks" "I") (List.mem_of_getElem? (i := 3) rfl)) (fun _ h9 => h9) rfl dX10_desk_54 ?_
      refine lv_iconst (v := 1) hx hb dX10_desk_57 (by decide) ?_
      refine lv_isub hx hb dX10_desk_58 ?_
      obtain ⟨e1, e2⟩ := ret2 hF
      have hP : va_P D vwCl (YW y cy Sf) H := by rw [← e2]; exact hP
      have hD : va_D (va_A (YW y cy S0) s.heap.size) (YW y cy Sf) := by rw [← e2]; exact hD
      exact W.iret (v := ((S8 0 1) - 1)) hx hb hr (fun t ht hW => ⟨⟨((S8 0 1) - 1), (), rfl, e1, by rw [ht]; exact hP, va_K.moved hW.alike hK, hD⟩, hS.F ht⟩) hS.2.2 dX10_desk_59
    · skip
      have hF := (if_pos c3).symm.trans hF
      refine lv_iconst (v := (-1)) hx hb dX10_desk_21 (by decide) ?_
      obtain ⟨e1, e2⟩ := ret2 hF
      have hP : va_P D vwCl (YW y cy Sf) H := by rw [← e2]; exact hP
      have hD : va_D (va_A (YW y cy S0) s.heap.size) (YW y cy Sf) := by rw [← e2]; exact hD
      exact W.iret (v := (-1)) hx hb hr (fun t ht hW => ⟨⟨(-1), (), rfl, e1, by rw [ht]; exact hP, va_K.moved hW.alike hK, hD⟩, hS.F ht⟩) hS.2.2 dX10_desk_22

theorem iX10_box_10 : ∀ w ∈ wsX100, w ∈ wsX10_box := fun _ h => List.mem_cons_of_mem _ (List.mem_append_right _ h)
set_option maxHeartbeats 8000000 in
set_option maxRecDepth 100000 in
theorem zX10_box (l : Launch) (D : va_G) (y : Nat → Nat) (cy : Nat → ClassId) (S0 : RS) (sz : Nat) (p1 p2 : Int32) (rv : Int32) (Sf : RS) (hF : gX10_box S0 p1 p2 = some (rv, Sf)) : Met l yX10_box wsX10_box ({ frames := 1, cells := 0, slots := 0, locals := 22 }) (PW D (TYS cy) (YW y cy S0) sz [.ref (y 0), .int p1, .int p2]) (va_Qi (fun (res : Int32) (u : Unit) => res = rv) (BU D (TYS cy) (YW y cy S0) (fun _ => YW y cy Sf) sz) (va_A (YW y cy S0) sz)) 0 0 (va_A (YW y cy S0) sz) := by
  refine Met.ofW (cc := cX10_box) (maxL := 3) (ret := (some .int)) (by decide) rfl ?_
  intro p e s m args below meth c s₁ B hml hv
  obtain ⟨rfl, hsz, hP, hK, hD0⟩ := hv
  have hx := B.exec
  have hb := B.bytes
  have hr := B.returns
  have hts := atoms_spec (ws := wsX10_box) B.pre
  have hown : s.vm.findClass RX10 = some m.cls := findClass_of_methodNamed B.named
  have hlocks := B.notSynchronized
  subst hsz
  have hD := hD0.self (sz := s.heap.size)
  have hA : ∀ q9 : Nat, s.heap.size ≤ q9 → va_A (YW y cy S0) s.heap.size q9 := fun q9 h => Or.inr h
  have hS : va_S (va_A (YW y cy S0) s.heap.size) s.heap s.heap [] := va_S.rf
  have hl := lv_entry ([.ref (y 0), .int p1, .int p2]) (n := 3) (Nat.le_of_ble_eq_true rfl)
  rw [lg_entry_eq]
  generalize (lg_sl ([.ref (y 0), .int p1, .int p2]) ++ List.replicate (3 - (lg_sl ([.ref (y 0), .int p1, .int p2])).length) Slot.unset).toArray = ls at hl ⊢
  have hl : lv_has ls 3 [(0, .ref (y 0)), (1, .int p1), (2, .int p2)] := hl
  unfold gX10_box at hF
  refine lv_aload_n hx hb dX10_box_0 rfl (lv_at hl 0 rfl) ?_
  refine lv_iconst (v := 0) hx hb dX10_box_1 (by decide) ?_
  refine va_put (D := D) (ci := 10) (v := .int 0) (ty := .int) (C := RX10) (T := TX10) (N := 58) hx hb hts iX10_box_10 tyX10 tyX10_ok nmX10 hown hK hP hD hS 0 rfl rfl 0 (by decide) (hts (.fieldLink RX10 150 "FondsRoomModel" "thrown" "I") (List.mem_of_getElem? (i := 1) rfl)) (fun _ h9 => h9) rfl (by decide +kernel) rfl rfl (Nat.le_of_ble_eq_true rfl) dX10_box_2 (fun H locs hP hD hS => ?_)
  obtain ⟨S1, eS1⟩ : ∃ z, z = wr S0 0 0 0 := ⟨_, rfl⟩
  replace hF := bnd_s hF S1 eS1
  have hP : va_P D vwCl (YW y cy S1) H := by rw [eS1]; exact hP
  have hD : va_D (va_A (YW y cy S0) s.heap.size) (YW y cy S1) := by rw [eS1]; exact hD
  refine lv_aload_n hx hb dX10_box_5 rfl (lv_at hl 0 rfl) ?_
  refine va_get (D := D) (ci := 10) (v := .int (S1 0 4)) (C := RX10) (T := TX10) (N := 58) hx hb hts iX10_box_10 hown hK hP 0 rfl rfl 4 (by decide) (hts (.fieldLink RX10 163 "FondsRoomModel" "turn" "I") (List.mem_of_getElem? (i := 2) rfl)) (fun _ h9 => h9) rfl dX10_box_6 ?_
  refine lv_if_gt (tgt := 31) hx hb dX10_box_9 (by decide) (fun c2 => ?_) (fun c2 => ?_)
  · skip
    have hF := (if_pos c2).symm.trans hF
    refine lv_iconst (v := (-1)) hx hb dX10_box_31 (by decide) ?_
    obtain ⟨e1, e2⟩ := ret2 hF
    have hP : va_P D vwCl (YW y cy Sf) H := by rw [← e2]; exact hP
    have hD : va_D (va_A (YW y cy S0) s.heap.size) (YW y cy Sf) := by rw [← e2]; exact hD
    exact W.iret (v := (-1)) hx hb hr (fun t ht hW => ⟨⟨(-1), (), rfl, e1, by rw [ht]; exact hP, va_K.moved hW.alike hK, hD⟩, hS.F ht⟩) hS.2.2 dX10_box_32
  · skip
    have hF := (if_neg c2).symm.trans hF
    refine lv_aload_n hx hb dX10_box_12 rfl (lv_at hl 0 rfl) ?_
    refine va_get (D := D) (ci := 10) (v := .int (S1 0 2)) (C := RX10) (T := TX10) (N := 58) hx hb hts iX10_box_10 hown hK hP 0 rfl rfl 2 (by decide) (hts (.fieldLink RX10 160 "FondsRoomModel" "boxes" "I") (List.mem_of_getElem? (i := 3) rfl)) (fun _ h9 => h9) rfl dX10_box_13 ?_
    refine lv_bipush (v := 40) hx hb dX10_box_16 (by decide) ?_
    refine lv_icmp_eq (tgt := 31) hx hb dX10_box_18 (by decide) (fun c3 => ?_) (fun c3 => ?_)
    · skip
      have hF := (if_pos c3).symm.trans hF
      refine lv_iconst (v := (-1)) hx hb dX10_box_31 (by decide) ?_
      obtain ⟨e1, e2⟩ := ret2 hF
      have hP : va_P D vwCl (YW y cy Sf) H := by rw [← e2]; exact hP
      have hD : va_D (va_A (YW y cy S0) s.heap.size) (YW y cy Sf) := by rw [← e2]; exact hD
      exact W.iret (v := (-1)) hx hb hr (fun t ht hW => ⟨⟨(-1), (), rfl, e1, by rw [ht]; exact hP, va_K.moved hW.alike hK, hD⟩, hS.F ht⟩) hS.2.2 dX10_box_32
    · skip
      have hF := (if_neg c3).symm.trans hF
      refine lv_iload_n hx hb dX10_box_21 rfl (lv_at hl 1 rfl) ?_
      refine lv_iconst (v := 0) hx hb dX10_box_22 (by decide) ?_
      refine lv_bipush (v := 9) hx hb dX10_box_23 (by decide) ?_
      obtain ⟨r4, hq7, hF⟩ := bd1_s hF
      refine gsI (As := [.int p1, .int 0, .int 9]) (rest := []) ⟨hx, hb, hml, hown, hts⟩ (zX10_in l D y cy S1 _ p1 0 9 r4 hq7) (va_cwS 3 hts gX10_box_X10_in rfl rfl rfl (by decide +kernel) ⟨Nat.le_of_ble_eq_true rfl, Nat.le_of_ble_eq_true rfl⟩) hK hP hD hS hA rfl hl.1 rfl (Nat.le_of_ble_eq_true rfl) dX10_box_25 ⟨Nat.le_of_ble_eq_true rfl, Nat.le_of_ble_eq_true rfl⟩ (fun a8 u9 H locs hw6 hP hD hS => ?_)
      have hP : va_P D vwCl (YW y cy S1) H := hP
      have hD : va_D _ (YW y cy S1) := hD
      refine lv_tov (v' := .int r4) (congrArg Value.int hw6.1) ?_
      refine lv_if_ne (tgt := 33) hx hb dX10_box_28 (by decide) (fun c9 => ?_) (fun c9 => ?_)
      · skip
        have hF := (if_neg c9).symm.trans hF
        refine lv_aload_n hx hb dX10_box_33 rfl (lv_at hl 0 rfl) ?_
        refine va_get (D := D) (ci := 10) (v := .ref (y 3)) (C := RX10) (T := TX10) (N := 58) hx hb hts iX10_box_10 hown hK hP 0 rfl rfl 11 (by decide) (hts (.fieldLink RX10 30 "FondsRoomModel" "fonds" "[I") (List.mem_of_getElem? (i := 4) rfl)) (fun _ h9 => h9) rfl dX10_box_34 ?_
        refine lv_aload_n hx hb dX10_box_37 rfl (lv_at hl 0 rfl) ?_
        refine va_get (D := D) (ci := 10) (v := .int (S1 0 2)) (C := RX10) (T := TX10) (N := 58) hx hb hts iX10_box_10 hown hK hP 0 rfl rfl 2 (by decide) (hts (.fieldLink RX10 160 "FondsRoomModel" "boxes" "I") (List.mem_of_getElem? (i := 3) rfl)) (fun _ h9 => h9) rfl dX10_box_38 ?_
        refine lv_iload_n hx hb dX10_box_41 rfl (lv_at hl 1 rfl) ?_
        obtain ⟨hi10, hF⟩ := sv_s hF
        refine va_iast hx hb hK hP hD hS 3 0 rfl rfl hi10 dX10_box_42 (fun H locs hP hD hS => ?_)
        obtain ⟨S11, eS11⟩ : ∃ z, z = wr S1 3 ((S1 0 2) : Int32).toNatClampNeg p1 := ⟨_, rfl⟩
        replace hF := hF S11 eS11
        have hP : va_P D vwCl (YW y cy S11) H := by rw [eS11]; exact hP
        have hD : va_D (va_A (YW y cy S0) s.heap.size) (YW y cy S11) := by rw [eS11]; exact hD
        refine lv_aload_n hx hb dX10_box_43 rfl (lv_at hl 0 rfl) ?_
        refine va_get (D := D) (ci := 10) (v := .ref (y 4)) (C := RX10) (T := TX10) (N := 58) hx hb hts iX10_box_10 hown hK hP 0 rfl rfl 12 (by decide) (hts (.fieldLink RX10 33 "FondsRoomModel" "isPrecious" "[Z") (List.mem_of_getElem? (i := 5) rfl)) (fun _ h9 => h9) rfl dX10_box_44 ?_
        refine lv_aload_n hx hb dX10_box_47 rfl (lv_at hl 0 rfl) ?_
        refine va_get (D := D) (ci := 10) (v := .int (S11 0 2)) (C := RX10) (T := TX10) (N := 58) hx hb hts iX10_box_10 hown hK hP 0 rfl rfl 2 (by decide) (hts (.fieldLink RX10 160 "FondsRoomModel" "boxes" "I") (List.mem_of_getElem? (i := 3) rfl)) (fun _ h9 => h9) rfl dX10_box_48 ?_
        refine lv_iload_n hx hb dX10_box_51 rfl (lv_at hl 2 rfl) ?_
        obtain ⟨hi12, hF⟩ := sv_s hF
        refine va_zast hx hb hK hP hD hS 4 1 rfl rfl hi12 dX10_box_52 (fun H locs hP hD hS => ?_)
        obtain ⟨S13, eS13⟩ : ∃ z, z = wr S11 4 ((S11 0 2) : Int32).toNatClampNeg (vp_nar .boolean p2) := ⟨_, rfl⟩
        replace hF := hF S13 eS13
        have hP : va_P D vwCl (YW y cy S13) H := by rw [eS13]; exact hP
        have hD : va_D (va_A (YW y cy S0) s.heap.size) (YW y cy S13) := by rw [eS13]; exact hD
        refine lv_aload_n hx hb dX10_box_53 rfl (lv_at hl 0 rfl) ?_
        refine va_get (D := D) (ci := 10) (v := .ref (y 6)) (C := RX10) (T := TX10) (N := 58) hx hb hts iX10_box_10 hown hK hP 0 rfl rfl 14 (by decide) (hts (.fieldLink RX10 39 "FondsRoomModel" "has" "[I") (List.mem_of_getElem? (i := 6) rfl)) (fun _ h9 => h9) rfl dX10_box_54 ?_
        refine lv_aload_n hx hb dX10_box_57 rfl (lv_at hl 0 rfl) ?_
        refine va_get (D := D) (ci := 10) (v := .int (S13 0 2)) (C := RX10) (T := TX10) (N := 58) hx hb hts iX10_box_10 hown hK hP 0 rfl rfl 2 (by decide) (hts (.fieldLink RX10 160 "FondsRoomModel" "boxes" "I") (List.mem_of_getElem? (i := 3) rfl)) (fun _ h9 => h9) rfl dX10_box_58 ?_
        refine lv_iconst (v := (-1)) hx hb dX10_box_61 (by decide) ?_
        obtain ⟨hi14, hF⟩ := sv_s hF
        refine va_iast hx hb hK hP hD hS 6 0 rfl rfl hi14 dX10_box_62 (fun H locs hP hD hS => ?_)
        obtain ⟨S15, eS15⟩ : ∃ z, z = wr S13 6 ((S13 0 2) : Int32).toNatClampNeg (-1) := ⟨_, rfl⟩
        replace hF := hF S15 eS15
        have hP : va_P D vwCl (YW y cy S15) H := by rw [eS15]; exact hP
        have hD : va_D (va_A (YW y cy S0) s.heap.size) (YW y cy S15) := by rw [eS15]; exact hD
        refine lv_aload_n hx hb dX10_box_63 rfl (lv_at hl 0 rfl) ?_
        refine va_get (D := D) (ci := 10) (v := .ref (y 7)) (C := RX10) (T := TX10) (N := 58) hx hb hts iX10_box_10 hown hK hP 0 rfl rfl 15 (by decide) (hts (.fieldLink RX10 42 "FondsRoomModel" "ticket" "[I") (List.mem_of_getElem? (i := 7) rfl)) (fun _ h9 => h9) rfl dX10_box_64 ?_
        refine lv_aload_n hx hb dX10_box_67 rfl (lv_at hl 0 rfl) ?_
        refine va_get (D := D) (ci := 10) (v := .int (S15 0 2)) (C := RX10) (T := TX10) (N := 58) hx hb hts iX10_box_10 hown hK hP 0 rfl rfl 2 (by decide) (hts (.fieldLink RX10 160 "FondsRoomModel" "boxes" "I") (List.mem_of_getElem? (i := 3) rfl)) (fun _ h9 => h9) rfl dX10_box_68 ?_
        refine lv_iconst (v := (-1)) hx hb dX10_box_71 (by decide) ?_
        obtain ⟨hi16, hF⟩ := sv_s hF
        refine va_iast hx hb hK hP hD hS 7 0 rfl rfl hi16 dX10_box_72 (fun H locs hP hD hS => ?_)
        obtain ⟨S17, eS17⟩ : ∃ z, z = wr S15 7 ((S15 0 2) : Int32).toNatClampNeg (-1) := ⟨_, rfl⟩
        replace hF := hF S17 eS17
        have hP : va_P D vwCl (YW y cy S17) H := by rw [eS17]; exact hP
        have hD : va_D (va_A (YW y cy S0) s.heap.size) (YW y cy S17) := by rw [eS17]; exact hD
        refine lv_aload_n hx hb dX10_box_73 rfl (lv_at hl 0 rfl) ?_
        refine lv_dup hx hb dX10_box_74 rfl ?_
        refine va_get (D := D) (ci := 10) (v := .int (S17 0 2)) (C := RX10) (T := TX10) (N := 58) hx hb hts iX10_box_10 hown hK hP 0 rfl rfl 2 (by decide) (hts (.fieldLink RX10 160 "FondsRoomModel" "boxes" "I") (List.mem_of_getElem? (i := 3) rfl)) (fun _ h9 => h9) rfl dX10_box_75 ?_
        refine lv_iconst (v := 1) hx hb dX10_box_78 (by decide) ?_
        refine lv_iadd hx hb dX10_box_79 ?_
        refine va_put (D := D) (ci := 10) (v := .int ((S17 0 2) + 1)) (ty := .int) (C := RX10) (T := TX10) (N := 58) hx hb hts iX10_box_10 tyX10 tyX10_ok nmX10 hown hK hP hD hS 0 rfl rfl 2 (by decide) (hts (.fieldLink RX10 160 "FondsRoomModel" "boxes" "I") (List.mem_of_getElem? (i := 3) rfl)) (fun _ h9 => h9) rfl (by decide +kernel) rfl rfl (Nat.le_of_ble_eq_true rfl) dX10_box_80 (fun H locs hP hD hS => ?_)
        obtain ⟨S18, eS18⟩ : ∃ z, z = wr S17 0 2 ((S17 0 2) + 1) := ⟨_, rfl⟩
        replace hF := bnd_s hF S18 eS18
        have hP : va_P D vwCl (YW y cy S18) H := by rw [eS18]; exact hP
        have hD : va_D (va_A (YW y cy S0) s.heap.size) (YW y cy S18) := by rw [eS18]; exact hD
        refine lv_aload_n hx hb dX10_box_83 rfl (lv_at hl 0 rfl) ?_
        refine va_get (D := D) (ci := 10) (v := .int (S18 0 2)) (C := RX10) (T := TX10) (N := 58) hx hb hts iX10_box_10 hown hK hP 0 rfl rfl 2 (by decide) (hts (.fieldLink RX10 160 "FondsRoomModel" "boxes" "I") (List.mem_of_getElem? (i := 3) rfl)) (fun _ h9 => h9) rfl dX10_box_84 ?_
        refine lv_iconst (v := 1) hx hb dX10_box_87 (by decide) ?_
        refine lv_isub hx hb dX10_box_88 ?_
        obtain ⟨e1, e2⟩ := ret2 hF
        have hP : va_P D vwCl (YW y cy Sf) H := by rw [← e2]; exact hP
        have hD : va_D (va_A (YW y cy S0) s.heap.size) (YW y cy Sf) := by rw [← e2]; exact hD
        exact W.iret (v := ((S18 0 2) - 1)) hx hb hr (fun t ht hW => ⟨⟨((S18 0 2) - 1), (), rfl, e1, by rw [ht]; exact hP, va_K.moved hW.alike hK, hD⟩, hS.F ht⟩) hS.2.2 dX10_box_89
      · skip
        have hF := (if_pos c9).symm.trans hF
        refine lv_iconst (v := (-1)) hx hb dX10_box_31 (by decide) ?_
        obtain ⟨e1, e2⟩ := ret2 hF
        have hP : va_P D vwCl (YW y cy Sf) H := by rw [← e2]; exact hP
        have hD : va_D (va_A (YW y cy S0) s.heap.size) (YW y cy Sf) := by rw [← e2]; exact hD
        exact W.iret (v := (-1)) hx hb hr (fun t ht hW => ⟨⟨(-1), (), rfl, e1, by rw [ht]; exact hP, va_K.moved hW.alike hK, hD⟩, hS.F ht⟩) hS.2.2 dX10_box_32

theorem iX10_people_10 : ∀ w ∈ wsX100, w ∈ wsX10_people := fun _ h => List.mem_cons_of_mem _ (List.mem_append_right _ h)
set_option maxHeartbeats 8000000 in
set_option maxRecDepth 100000 in
theorem zX10_people (l : Launch) (D : va_G) (y : Nat → Nat) (cy : Nat → ClassId) (S0 : RS) (sz : Nat) (p1 p2 p3 : Int32) (rv : Int32) (Sf : RS) (hF : gX10_people S0 p1 p2 p3 = some (rv, Sf)) : Met l yX10_people wsX10_people ({ frames := 1, cells := 0, slots := 0, locals := 22 }) (PW D (TYS cy) (YW y cy S0) sz [.ref (y 0), .int p1, .int p2, .int p3]) (va_Qi (fun (res : Int32) (u : Unit) => res = rv ∧ b01 rv) (BU D (TYS cy) (YW y cy S0) (fun _ => YW y cy Sf) sz) (va_A (YW y cy S0) sz)) 0 0 (va_A (YW y cy S0) sz) := by
  refine Met.ofW (cc := cX10_people) (maxL := 4) (ret := (some .boolean)) (by decide) rfl ?_
  intro p e s m args below meth c s₁ B hml hv
  obtain ⟨rfl, hsz, hP, hK, hD0⟩ := hv
  have hx := B.exec
  have hb := B.bytes
  have hr := B.returns
  have hts := atoms_spec (ws := wsX10_people) B.pre
  have hown : s.vm.findClass RX10 = some m.cls := findClass_of_methodNamed B.named
  have hlocks := B.notSynchronized
  subst hsz
  have hD := hD0.self (sz := s.heap.size)
  have hA : ∀ q9 : Nat, s.heap.size ≤ q9 → va_A (YW y cy S0) s.heap.size q9 := fun q9 h => Or.inr h
  have hS : va_S (va_A (YW y cy S0) s.heap.size) s.heap s.heap [] := va_S.rf
  have hl := lv_entry ([.ref (y 0), .int p1, .int p2, .int p3]) (n := 4) (Nat.le_of_ble_eq_true rfl)
  rw [lg_entry_eq]
  generalize (lg_sl ([.ref (y 0), .int p1, .int p2, .int p3]) ++ List.replicate (4 - (lg_sl ([.ref (y 0), .int p1, .int p2, .int p3])).length) Slot.unset).toArray = ls at hl ⊢
  have hl : lv_has ls 4 [(0, .ref (y 0)), (1, .int p1), (2, .int p2), (3, .int p3)] := hl
  unfold gX10_people at hF
  refine lv_aload_n hx hb dX10_people_0 rfl (lv_at hl 0 rfl) ?_
  refine lv_iconst (v := 0) hx hb dX10_people_1 (by decide) ?_
  refine va_put (D := D) (ci := 10) (v := .int 0) (ty := .int) (C := RX10) (T := TX10) (N := 58) hx hb hts iX10_people_10 tyX10 tyX10_ok nmX10 hown hK hP hD hS 0 rfl rfl 0 (by decide) (hts (.fieldLink RX10 150 "FondsRoomModel" "thrown" "I") (List.mem_of_getElem? (i := 1) rfl)) (fun _ h9 => h9) rfl (by decide +kernel) rfl rfl (Nat.le_of_ble_eq_true rfl) dX10_people_2 (fun H locs hP hD hS => ?_)
  obtain ⟨S1, eS1⟩ : ∃ z, z = wr S0 0 0 0 := ⟨_, rfl⟩
  replace hF := bnd_s hF S1 eS1
  have hP : va_P D vwCl (YW y cy S1) H := by rw [eS1]; exact hP
  have hD : va_D (va_A (YW y cy S0) s.heap.size) (YW y cy S1) := by rw [eS1]; exact hD
  refine lv_aload_n hx hb dX10_people_5 rfl (lv_at hl 0 rfl) ?_
  refine va_get (D := D) (ci := 10) (v := .int (S1 0 4)) (C := RX10) (T := TX10) (N := 58) hx hb hts iX10_people_10 hown hK hP 0 rfl rfl 4 (by decide) (hts (.fieldLink RX10 163 "FondsRoomModel" "turn" "I") (List.mem_of_getElem? (i := 2) rfl)) (fun _ h9 => h9) rfl dX10_people_6 ?_
  refine lv_if_gt (tgt := 39) hx hb dX10_people_9 (by decide) (fun c2 => ?_) (fun c2 => ?_)
  · skip
    have hF := (if_pos c2).symm.trans hF
    refine lv_iconst (v := 0) hx hb dX10_people_39 (by decide) ?_
    obtain ⟨e1, e2⟩ := ret2 hF
    have hP : va_P D vwCl (YW y cy Sf) H := by rw [← e2]; exact hP
    have hD : va_D (va_A (YW y cy S0) s.heap.size) (YW y cy Sf) := by rw [← e2]; exact hD
    exact W.zret (v := 0) hx hb hr (nz01 (Or.inl rfl)).1 (fun t ht hW => ⟨⟨0, (), rfl, ⟨e1, by rw [← e1]; exact Or.inl rfl⟩, by rw [ht]; exact hP, va_K.moved hW.alike hK, hD⟩, hS.F ht⟩) hS.2.2 dX10_people_40
  · skip
    have hF := (if_neg c2).symm.trans hF
    refine lv_iload_n hx hb dX10_people_12 rfl (lv_at hl 1 rfl) ?_
    refine lv_iconst (v := 1) hx hb dX10_people_13 (by decide) ?_
    refine lv_iconst (v := 4) hx hb dX10_people_14 (by decide) ?_
    obtain ⟨r3, hq6, hF⟩ := bd1_s hF
    refine gsI (As := [.int p1, .int 1, .int 4]) (rest := []) ⟨hx, hb, hml, hown, hts⟩ (zX10_in l D y cy S1 _ p1 1 4 r3 hq6) (va_cwS 3 hts gX10_people_X10_in rfl rfl rfl (by decide +kernel) ⟨Nat.le_of_ble_eq_true rfl, Nat.le_of_ble_eq_true rfl⟩) hK hP hD hS hA rfl hl.1 rfl (Nat.le_of_ble_eq_true rfl) dX10_people_15 ⟨Nat.le_of_ble_eq_true rfl, Nat.le_of_ble_eq_true rfl⟩ (fun a7 u9 H locs hw5 hP hD hS => ?_)
    have hP : va_P D vwCl (YW y cy S1) H := hP
    have hD : va_D _ (YW y cy S1) := hD
    refine lv_tov (v' := .int r3) (congrArg Value.int hw5.1) ?_
    refine lv_if_eq (tgt := 39) hx hb dX10_people_18 (by decide) (fun c8 => ?_) (fun c8 => ?_)
    · skip
      have hF := (if_pos c8).symm.trans hF
      refine lv_iconst (v := 0) hx hb dX10_people_39 (by decide) ?_
      obtain ⟨e1, e2⟩ := ret2 hF
      have hP : va_P D vwCl (YW y cy Sf) H := by rw [← e2]; exact hP
      have hD : va_D (va_A (YW y cy S0) s.heap.size) (YW y cy Sf) := by rw [← e2]; exact hD
      exact W.zret (v := 0) hx hb hr (nz01 (Or.inl rfl)).1 (fun t ht hW => ⟨⟨0, (), rfl, ⟨e1, by rw [← e1]; exact Or.inl rfl⟩, by rw [ht]; exact hP, va_K.moved hW.alike hK, hD⟩, hS.F ht⟩) hS.2.2 dX10_people_40
    · skip
      have hF := (if_neg c8).symm.trans hF
      refine lv_iload_n hx hb dX10_people_21 rfl (lv_at hl 2 rfl) ?_
      refine lv_iconst (v := 1) hx hb dX10_people_22 (by decide) ?_
      refine lv_iconst (v := 3) hx hb dX10_people_23 (by decide) ?_
      obtain ⟨r9, hq12, hF⟩ := bd1_s hF
      refine gsI (As := [.int p2, .int 1, .int 3]) (rest := []) ⟨hx, hb, hml, hown, hts⟩ (zX10_in l D y cy S1 _ p2 1 3 r9 hq12) (va_cwS 3 hts gX10_people_X10_in rfl rfl rfl (by decide +kernel) ⟨Nat.le_of_ble_eq_true rfl, Nat.le_of_ble_eq_true rfl⟩) hK hP hD hS hA rfl hl.1 rfl (Nat.le_of_ble_eq_true rfl) dX10_people_24 ⟨Nat.le_of_ble_eq_true rfl, Nat.le_of_ble_eq_true rfl⟩ (fun a13 u9 H locs hw11 hP hD hS => ?_)
      have hP : va_P D vwCl (YW y cy S1) H := hP
      have hD : va_D _ (YW y cy S1) := hD
      refine lv_tov (v' := .int r9) (congrArg Value.int hw11.1) ?_
      refine lv_if_eq (tgt := 39) hx hb dX10_people_27 (by decide) (fun c14 => ?_) (fun c14 => ?_)
      · skip
        have hF := (if_pos c14).symm.trans hF
        refine lv_iconst (v := 0) hx hb dX10_people_39 (by decide) ?_
        obtain ⟨e1, e2⟩ := ret2 hF
        have hP : va_P D vwCl (YW y cy Sf) H := by rw [← e2]; exact hP
        have hD : va_D (va_A (YW y cy S0) s.heap.size) (YW y cy Sf) := by rw [← e2]; exact hD
        exact W.zret (v := 0) hx hb hr (nz01 (Or.inl rfl)).1 (fun t ht hW => ⟨⟨0, (), rfl, ⟨e1, by rw [← e1]; exact Or.inl rfl⟩, by rw [ht]; exact hP, va_K.moved hW.alike hK, hD⟩, hS.F ht⟩) hS.2.2 dX10_people_40
      · skip
        have hF := (if_neg c14).symm.trans hF
        refine lv_iload_n hx hb dX10_people_30 rfl (lv_at hl 3 rfl) ?_
        refine lv_iconst (v := 1) hx hb dX10_people_31 (by decide) ?_
        refine lv_iconst (v := 5) hx hb dX10_people_32 (by decide) ?_
        obtain ⟨r15, hq18, hF⟩ := bd1_s hF
        refine gsI (As := [.int p3, .int 1, .int 5]) (rest := []) ⟨hx, hb, hml, hown, hts⟩ (zX10_in l D y cy S1 _ p3 1 5 r15 hq18) (va_cwS 3 hts gX10_people_X10_in rfl rfl rfl (by decide +kernel) ⟨Nat.le_of_ble_eq_true rfl, Nat.le_of_ble_eq_true rfl⟩) hK hP hD hS hA rfl hl.1 rfl (Nat.le_of_ble_eq_true rfl) dX10_people_33 ⟨Nat.le_of_ble_eq_true rfl, Nat.le_of_ble_eq_true rfl⟩ (fun a19 u9 H locs hw17 hP hD hS => ?_)
        have hP : va_P D vwCl (YW y cy S1) H := hP
        have hD : va_D _ (YW y cy S1) := hD
        refine lv_tov (v' := .int r15) (congrArg Value.int hw17.1) ?_
        refine lv_if_ne (tgt := 41) hx hb dX10_people_36 (by decide) (fun c20 => ?_) (fun c20 => ?_)
        · skip
          have hF := (if_neg c20).symm.trans hF
          refine lv_aload_n hx hb dX10_people_41 rfl (lv_at hl 0 rfl) ?_
          refine lv_iload_n hx hb dX10_people_42 rfl (lv_at hl 1 rfl) ?_
          refine va_put (D := D) (ci := 10) (v := .int p1) (ty := .int) (C := RX10) (T := TX10) (N := 58) hx hb hts iX10_people_10 tyX10 tyX10_ok nmX10 hown hK hP hD hS 0 rfl rfl 7 (by decide) (hts (.fieldLink RX10 16 "FondsRoomModel" "fetchers" "I") (List.mem_of_getElem? (i := 3) rfl)) (fun _ h9 => h9) rfl (by decide +kernel) rfl rfl (Nat.le_of_ble_eq_true rfl) dX10_people_43 (fun H locs hP hD hS => ?_)
          obtain ⟨S21, eS21⟩ : ∃ z, z = wr S1 0 7 p1 := ⟨_, rfl⟩
          replace hF := bnd_s hF S21 eS21
          have hP : va_P D vwCl (YW y cy S21) H := by rw [eS21]; exact hP
          have hD : va_D (va_A (YW y cy S0) s.heap.size) (YW y cy S21) := by rw [eS21]; exact hD
          refine lv_aload_n hx hb dX10_people_46 rfl (lv_at hl 0 rfl) ?_
          refine lv_iload_n hx hb dX10_people_47 rfl (lv_at hl 2 rfl) ?_
          refine va_put (D := D) (ci := 10) (v := .int p2) (ty := .int) (C := RX10) (T := TX10) (N := 58) hx hb hts iX10_people_10 tyX10 tyX10_ok nmX10 hown hK hP hD hS 0 rfl rfl 8 (by decide) (hts (.fieldLink RX10 19 "FondsRoomModel" "copyists" "I") (List.mem_of_getElem? (i := 4) rfl)) (fun _ h9 => h9) rfl (by decide +kernel) rfl rfl (Nat.le_of_ble_eq_true rfl) dX10_people_48 (fun H locs hP hD hS => ?_)
          obtain ⟨S22, eS22⟩ : ∃ z, z = wr S21 0 8 p2 := ⟨_, rfl⟩
          replace hF := bnd_s hF S22 eS22
          have hP : va_P D vwCl (YW y cy S22) H := by rw [eS22]; exact hP
          have hD : va_D (va_A (YW y cy S0) s.heap.size) (YW y cy S22) := by rw [eS22]; exact hD
          refine lv_aload_n hx hb dX10_people_51 rfl (lv_at hl 0 rfl) ?_
          refine lv_iload_n hx hb dX10_people_52 rfl (lv_at hl 3 rfl) ?_
          refine va_put (D := D) (ci := 10) (v := .int p3) (ty := .int) (C := RX10) (T := TX10) (N := 58) hx hb hts iX10_people_10 tyX10 tyX10_ok nmX10 hown hK hP hD hS 0 rfl rfl 6 (by decide) (hts (.fieldLink RX10 13 "FondsRoomModel" "way" "I") (List.mem_of_getElem? (i := 5) rfl)) (fun _ h9 => h9) rfl (by decide +kernel) rfl rfl (Nat.le_of_ble_eq_true rfl) dX10_people_53 (fun H locs hP hD hS => ?_)
          obtain ⟨S23, eS23⟩ : ∃ z, z = wr S22 0 6 p3 := ⟨_, rfl⟩
          replace hF := bnd_s hF S23 eS23
          have hP : va_P D vwCl (YW y cy S23) H := by rw [eS23]; exact hP
          have hD : va_D (va_A (YW y cy S0) s.heap.size) (YW y cy S23) := by rw [eS23]; exact hD
          refine lv_iconst (v := 1) hx hb dX10_people_56 (by decide) ?_
          obtain ⟨e1, e2⟩ := ret2 hF
          have hP : va_P D vwCl (YW y cy Sf) H := by rw [← e2]; exact hP
          have hD : va_D (va_A (YW y cy S0) s.heap.size) (YW y cy Sf) := by rw [← e2]; exact hD
          exact W.zret (v := 1) hx hb hr (nz01 (Or.inr rfl)).1 (fun t ht hW => ⟨⟨1, (), rfl, ⟨e1, by rw [← e1]; exact Or.inr rfl⟩, by rw [ht]; exact hP, va_K.moved hW.alike hK, hD⟩, hS.F ht⟩) hS.2.2 dX10_people_57
        · skip
          have hF := (if_pos c20).symm.trans hF
          refine lv_iconst (v := 0) hx hb dX10_people_39 (by decide) ?_
          obtain ⟨e1, e2⟩ := ret2 hF
          have hP : va_P D vwCl (YW y cy Sf) H := by rw [← e2]; exact hP
          have hD : va_D (va_A (YW y cy S0) s.heap.size) (YW y cy Sf) := by rw [← e2]; exact hD
          exact W.zret (v := 0) hx hb hr (nz01 (Or.inl rfl)).1 (fun t ht hW => ⟨⟨0, (), rfl, ⟨e1, by rw [← e1]; exact Or.inl rfl⟩, by rw [ht]; exact hP, va_K.moved hW.alike hK, hD⟩, hS.F ht⟩) hS.2.2 dX10_people_40

theorem iX10_reader_10 : ∀ w ∈ wsX100, w ∈ wsX10_reader := fun _ h => List.mem_cons_of_mem _ (List.mem_append_right _ h)
set_option maxHeartbeats 8000000 in
set_option maxRecDepth 100000 in
theorem zX10_reader (l : Launch) (D : va_G) (y : Nat → Nat) (cy : Nat → ClassId) (S0 : RS) (sz : Nat) (p1 p2 p3 : Int32) (rv : Int32) (Sf : RS) (hF : gX10_reader S0 p1 p2 p3 = some (rv, Sf)) : Met l yX10_reader wsX10_reader ({ frames := 1, cells := 0, slots := 0, locals := 22 }) (PW D (TYS cy) (YW y cy S0) sz [.ref (y 0), .int p1, .int p2, .int p3]) (va_Qi (fun (res : Int32) (u : Unit) => res = rv) (BU D (TYS cy) (YW y cy S0) (fun _ => YW y cy Sf) sz) (va_A (YW y cy S0) sz)) 0 0 (va_A (YW y cy S0) sz) := by
  refine Met.ofW (cc := cX10_reader) (maxL := 4) (ret := (some .int)) (by decide) rfl ?_
  intro p e s m args below meth c s₁ B hml hv
  obtain ⟨rfl, hsz, hP, hK, hD0⟩ := hv
  have hx := B.exec
  have hb := B.bytes
  have hr := B.returns
  have hts := atoms_spec (ws := wsX10_reader) B.pre
  have hown : s.vm.findClass RX10 = some m.cls := findClass_of_methodNamed B.named
  have hlocks := B.notSynchronized
  subst hsz
  have hD := hD0.self (sz := s.heap.size)
  have hA : ∀ q9 : Nat, s.heap.size ≤ q9 → va_A (YW y cy S0) s.heap.size q9 := fun q9 h => Or.inr h
  have hS : va_S (va_A (YW y cy S0) s.heap.size) s.heap s.heap [] := va_S.rf
  have hl := lv_entry ([.ref (y 0), .int p1, .int p2, .int p3]) (n := 4) (Nat.le_of_ble_eq_true rfl)
  rw [lg_entry_eq]
  generalize (lg_sl ([.ref (y 0), .int p1, .int p2, .int p3]) ++ List.replicate (4 - (lg_sl ([.ref (y 0), .int p1, .int p2, .int p3])).length) Slot.unset).toArray = ls at hl ⊢
  have hl : lv_has ls 4 [(0, .ref (y 0)), (1, .int p1), (2, .int p2), (3, .int p3)] := hl
  unfold gX10_reader at hF
  refine lv_aload_n hx hb dX10_reader_0 rfl (lv_at hl 0 rfl) ?_
  refine lv_iconst (v := 0) hx hb dX10_reader_1 (by decide) ?_
  refine va_put (D := D) (ci := 10) (v := .int 0) (ty := .int) (C := RX10) (T := TX10) (N := 58) hx hb hts iX10_reader_10 tyX10 tyX10_ok nmX10 hown hK hP hD hS 0 rfl rfl 0 (by decide) (hts (.fieldLink RX10 150 "FondsRoomModel" "thrown" "I") (List.mem_of_getElem? (i := 1) rfl)) (fun _ h9 => h9) rfl (by decide +kernel) rfl rfl (Nat.le_of_ble_eq_true rfl) dX10_reader_2 (fun H locs hP hD hS => ?_)
  obtain ⟨S1, eS1⟩ : ∃ z, z = wr S0 0 0 0 := ⟨_, rfl⟩
  replace hF := bnd_s hF S1 eS1
  have hP : va_P D vwCl (YW y cy S1) H := by rw [eS1]; exact hP
  have hD : va_D (va_A (YW y cy S0) s.heap.size) (YW y cy S1) := by rw [eS1]; exact hD
  refine lv_aload_n hx hb dX10_reader_5 rfl (lv_at hl 0 rfl) ?_
  refine va_get (D := D) (ci := 10) (v := .int (S1 0 3)) (C := RX10) (T := TX10) (N := 58) hx hb hts iX10_reader_10 hown hK hP 0 rfl rfl 3 (by decide) (hts (.fieldLink RX10 153 "FondsRoomModel" "readers" "I") (List.mem_of_getElem? (i := 2) rfl)) (fun _ h9 => h9) rfl dX10_reader_6 ?_
  refine lv_bipush (v := 20) hx hb dX10_reader_9 (by decide) ?_
  refine lv_icmp_eq (tgt := 53) hx hb dX10_reader_11 (by decide) (fun c2 => ?_) (fun c2 => ?_)
  · skip
    have hF := (if_pos c2).symm.trans hF
    refine lv_iconst (v := (-1)) hx hb dX10_reader_53 (by decide) ?_
    obtain ⟨e1, e2⟩ := ret2 hF
    have hP : va_P D vwCl (YW y cy Sf) H := by rw [← e2]; exact hP
    have hD : va_D (va_A (YW y cy S0) s.heap.size) (YW y cy Sf) := by rw [← e2]; exact hD
    exact W.iret (v := (-1)) hx hb hr (fun t ht hW => ⟨⟨(-1), (), rfl, e1, by rw [ht]; exact hP, va_K.moved hW.alike hK, hD⟩, hS.F ht⟩) hS.2.2 dX10_reader_54
  · skip
    have hF := (if_neg c2).symm.trans hF
    refine lv_iload_n hx hb dX10_reader_14 rfl (lv_at hl 1 rfl) ?_
    refine lv_iconst (v := 1) hx hb dX10_reader_15 (by decide) ?_
    refine lv_sipush (v := 1000) hx hb dX10_reader_16 (by decide) ?_
    obtain ⟨r3, hq6, hF⟩ := bd1_s hF
    refine gsI (As := [.int p1, .int 1, .int 1000]) (rest := []) ⟨hx, hb, hml, hown, hts⟩ (zX10_in l D y cy S1 _ p1 1 1000 r3 hq6) (va_cwS 3 hts gX10_reader_X10_in rfl rfl rfl (by decide +kernel) ⟨Nat.le_of_ble_eq_true rfl, Nat.le_of_ble_eq_true rfl⟩) hK hP hD hS hA rfl hl.1 rfl (Nat.le_of_ble_eq_true rfl) dX10_reader_19 ⟨Nat.le_of_ble_eq_true rfl, Nat.le_of_ble_eq_true rfl⟩ (fun a7 u9 H locs hw5 hP hD hS => ?_)
    have hP : va_P D vwCl (YW y cy S1) H := hP
    have hD : va_D _ (YW y cy S1) := hD
    refine lv_tov (v' := .int r3) (congrArg Value.int hw5.1) ?_
    refine lv_if_eq (tgt := 53) hx hb dX10_reader_22 (by decide) (fun c8 => ?_) (fun c8 => ?_)
    · skip
      have hF := (if_pos c8).symm.trans hF
      refine lv_iconst (v := (-1)) hx hb dX10_reader_53 (by decide) ?_
      obtain ⟨e1, e2⟩ := ret2 hF
      have hP : va_P D vwCl (YW y cy Sf) H := by rw [← e2]; exact hP
      have hD : va_D (va_A (YW y cy S0) s.heap.size) (YW y cy Sf) := by rw [← e2]; exact hD
      exact W.iret (v := (-1)) hx hb hr (fun t ht hW => ⟨⟨(-1), (), rfl, e1, by rw [ht]; exact hP, va_K.moved hW.alike hK, hD⟩, hS.F ht⟩) hS.2.2 dX10_reader_54
    · skip
      have hF := (if_neg c8).symm.trans hF
      refine lv_iload_n hx hb dX10_reader_25 rfl (lv_at hl 2 rfl) ?_
      refine lv_iconst (v := 0) hx hb dX10_reader_26 (by decide) ?_
      refine lv_iconst (v := 3) hx hb dX10_reader_27 (by decide) ?_
      obtain ⟨r9, hq12, hF⟩ := bd1_s hF
      refine gsI (As := [.int p2, .int 0, .int 3]) (rest := []) ⟨hx, hb, hml, hown, hts⟩ (zX10_in l D y cy S1 _ p2 0 3 r9 hq12) (va_cwS 3 hts gX10_reader_X10_in rfl rfl rfl (by decide +kernel) ⟨Nat.le_of_ble_eq_true rfl, Nat.le_of_ble_eq_true rfl⟩) hK hP hD hS hA rfl hl.1 rfl (Nat.le_of_ble_eq_true rfl) dX10_reader_28 ⟨Nat.le_of_ble_eq_true rfl, Nat.le_of_ble_eq_true rfl⟩ (fun a13 u9 H locs hw11 hP hD hS => ?_)
      have hP : va_P D vwCl (YW y cy S1) H := hP
      have hD : va_D _ (YW y cy S1) := hD
      refine lv_tov (v' := .int r9) (congrArg Value.int hw11.1) ?_
      refine lv_if_eq (tgt := 53) hx hb dX10_reader_31 (by decide) (fun c14 => ?_) (fun c14 => ?_)
      · skip
        have hF := (if_pos c14).symm.trans hF
        refine lv_iconst (v := (-1)) hx hb dX10_reader_53 (by decide) ?_
        obtain ⟨e1, e2⟩ := ret2 hF
        have hP : va_P D vwCl (YW y cy Sf) H := by rw [← e2]; exact hP
        have hD : va_D (va_A (YW y cy S0) s.heap.size) (YW y cy Sf) := by rw [← e2]; exact hD
        exact W.iret (v := (-1)) hx hb hr (fun t ht hW => ⟨⟨(-1), (), rfl, e1, by rw [ht]; exact hP, va_K.moved hW.alike hK, hD⟩, hS.F ht⟩) hS.2.2 dX10_reader_54
      · skip
        have hF := (if_neg c14).symm.trans hF
        refine lv_aload_n hx hb dX10_reader_34 rfl (lv_at hl 0 rfl) ?_
        refine va_get (D := D) (ci := 10) (v := .int (S1 0 5)) (C := RX10) (T := TX10) (N := 58) hx hb hts iX10_reader_10 hown hK hP 0 rfl rfl 5 (by decide) (hts (.fieldLink RX10 9 "FondsRoomModel" "bellTurn" "I") (List.mem_of_getElem? (i := 3) rfl)) (fun _ h9 => h9) rfl dX10_reader_35 ?_
        refine lv_iconst (v := (-1)) hx hb dX10_reader_38 (by decide) ?_
        refine lv_icmp_eq (tgt := 55) hx hb dX10_reader_39 (by decide) (fun c15 => ?_) (fun c15 => ?_)
        · skip
          have hF := (if_pos c15).symm.trans hF
          refine lv_aload_n hx hb dX10_reader_55 rfl (lv_at hl 0 rfl) ?_
          refine va_get (D := D) (ci := 10) (v := .ref (y 12)) (C := RX10) (T := TX10) (N := 58) hx hb hts iX10_reader_10 hown hK hP 0 rfl rfl 24 (by decide) (hts (.fieldLink RX10 57 "FondsRoomModel" "arrival" "[I") (List.mem_of_getElem? (i := 5) rfl)) (fun _ h9 => h9) rfl dX10_reader_56 ?_
          refine lv_aload_n hx hb dX10_reader_59 rfl (lv_at hl 0 rfl) ?_
          refine va_get (D := D) (ci := 10) (v := .int (S1 0 3)) (C := RX10) (T := TX10) (N := 58) hx hb hts iX10_reader_10 hown hK hP 0 rfl rfl 3 (by decide) (hts (.fieldLink RX10 153 "FondsRoomModel" "readers" "I") (List.mem_of_getElem? (i := 2) rfl)) (fun _ h9 => h9) rfl dX10_reader_60 ?_
          refine lv_iload_n hx hb dX10_reader_63 rfl (lv_at hl 1 rfl) ?_
          obtain ⟨hi16, hF⟩ := sv_s hF
          refine va_iast hx hb hK hP hD hS 12 0 rfl rfl hi16 dX10_reader_64 (fun H locs hP hD hS => ?_)
          obtain ⟨S17, eS17⟩ : ∃ z, z = wr S1 12 ((S1 0 3) : Int32).toNatClampNeg p1 := ⟨_, rfl⟩
          replace hF := hF S17 eS17
          have hP : va_P D vwCl (YW y cy S17) H := by rw [eS17]; exact hP
          have hD : va_D (va_A (YW y cy S0) s.heap.size) (YW y cy S17) := by rw [eS17]; exact hD
          refine lv_aload_n hx hb dX10_reader_65 rfl (lv_at hl 0 rfl) ?_
          refine va_get (D := D) (ci := 10) (v := .ref (y 13)) (C := RX10) (T := TX10) (N := 58) hx hb hts iX10_reader_10 hown hK hP 0 rfl rfl 25 (by decide) (hts (.fieldLink RX10 60 "FondsRoomModel" "rank" "[I") (List.mem_of_getElem? (i := 6) rfl)) (fun _ h9 => h9) rfl dX10_reader_66 ?_
          refine lv_aload_n hx hb dX10_reader_69 rfl (lv_at hl 0 rfl) ?_
          refine va_get (D := D) (ci := 10) (v := .int (S17 0 3)) (C := RX10) (T := TX10) (N := 58) hx hb hts iX10_reader_10 hown hK hP 0 rfl rfl 3 (by decide) (hts (.fieldLink RX10 153 "FondsRoomModel" "readers" "I") (List.mem_of_getElem? (i := 2) rfl)) (fun _ h9 => h9) rfl dX10_reader_70 ?_
          refine lv_iload_n hx hb dX10_reader_73 rfl (lv_at hl 2 rfl) ?_
          obtain ⟨hi18, hF⟩ := sv_s hF
          refine va_iast hx hb hK hP hD hS 13 0 rfl rfl hi18 dX10_reader_74 (fun H locs hP hD hS => ?_)
          obtain ⟨S19, eS19⟩ : ∃ z, z = wr S17 13 ((S17 0 3) : Int32).toNatClampNeg p2 := ⟨_, rfl⟩
          replace hF := hF S19 eS19
          have hP : va_P D vwCl (YW y cy S19) H := by rw [eS19]; exact hP
          have hD : va_D (va_A (YW y cy S0) s.heap.size) (YW y cy S19) := by rw [eS19]; exact hD
          refine lv_aload_n hx hb dX10_reader_75 rfl (lv_at hl 0 rfl) ?_
          refine va_get (D := D) (ci := 10) (v := .ref (y 14)) (C := RX10) (T := TX10) (N := 58) hx hb hts iX10_reader_10 hown hK hP 0 rfl rfl 26 (by decide) (hts (.fieldLink RX10 63 "FondsRoomModel" "needsWatched" "[Z") (List.mem_of_getElem? (i := 7) rfl)) (fun _ h9 => h9) rfl dX10_reader_76 ?_
          refine lv_aload_n hx hb dX10_reader_79 rfl (lv_at hl 0 rfl) ?_
          refine va_get (D := D) (ci := 10) (v := .int (S19 0 3)) (C := RX10) (T := TX10) (N := 58) hx hb hts iX10_reader_10 hown hK hP 0 rfl rfl 3 (by decide) (hts (.fieldLink RX10 153 "FondsRoomModel" "readers" "I") (List.mem_of_getElem? (i := 2) rfl)) (fun _ h9 => h9) rfl dX10_reader_80 ?_
          refine lv_iload_n hx hb dX10_reader_83 rfl (lv_at hl 3 rfl) ?_
          obtain ⟨hi20, hF⟩ := sv_s hF
          refine va_zast hx hb hK hP hD hS 14 1 rfl rfl hi20 dX10_reader_84 (fun H locs hP hD hS => ?_)
          obtain ⟨S21, eS21⟩ : ∃ z, z = wr S19 14 ((S19 0 3) : Int32).toNatClampNeg (vp_nar .boolean p3) := ⟨_, rfl⟩
          replace hF := hF S21 eS21
          have hP : va_P D vwCl (YW y cy S21) H := by rw [eS21]; exact hP
          have hD : va_D (va_A (YW y cy S0) s.heap.size) (YW y cy S21) := by rw [eS21]; exact hD
          refine lv_aload_n hx hb dX10_reader_85 rfl (lv_at hl 0 rfl) ?_
          refine va_get (D := D) (ci := 10) (v := .ref (y 16)) (C := RX10) (T := TX10) (N := 58) hx hb hts iX10_reader_10 hown hK hP 0 rfl rfl 28 (by decide) (hts (.fieldLink RX10 69 "FondsRoomModel" "desk" "[I") (List.mem_of_getElem? (i := 8) rfl)) (fun _ h9 => h9) rfl dX10_reader_86 ?_
          refine lv_aload_n hx hb dX10_reader_89 rfl (lv_at hl 0 rfl) ?_
          refine va_get (D := D) (ci := 10) (v := .int (S21 0 3)) (C := RX10) (T := TX10) (N := 58) hx hb hts iX10_reader_10 hown hK hP 0 rfl rfl 3 (by decide) (hts (.fieldLink RX10 153 "FondsRoomModel" "readers" "I") (List.mem_of_getElem? (i := 2) rfl)) (fun _ h9 => h9) rfl dX10_reader_90 ?_
          refine lv_iconst (v := (-1)) hx hb dX10_reader_93 (by decide) ?_
          obtain ⟨hi22, hF⟩ := sv_s hF
          refine va_iast hx hb hK hP hD hS 16 0 rfl rfl hi22 dX10_reader_94 (fun H locs hP hD hS => ?_)
          obtain ⟨S23, eS23⟩ : ∃ z, z = wr S21 16 ((S21 0 3) : Int32).toNatClampNeg (-1) := ⟨_, rfl⟩
          replace hF := hF S23 eS23
          have hP : va_P D vwCl (YW y cy S23) H := by rw [eS23]; exact hP
          have hD : va_D (va_A (YW y cy S0) s.heap.size) (YW y cy S23) := by rw [eS23]; exact hD
          refine lv_aload_n hx hb dX10_reader_95 rfl (lv_at hl 0 rfl) ?_
          refine lv_dup hx hb dX10_reader_96 rfl ?_
          refine va_get (D := D) (ci := 10) (v := .int (S23 0 3)) (C := RX10) (T := TX10) (N := 58) hx hb hts iX10_reader_10 hown hK hP 0 rfl rfl 3 (by decide) (hts (.fieldLink RX10 153 "FondsRoomModel" "readers" "I") (List.mem_of_getElem? (i := 2) rfl)) (fun _ h9 => h9) rfl dX10_reader_97 ?_
          refine lv_iconst (v := 1) hx hb dX10_reader_100 (by decide) ?_
          refine lv_iadd hx hb dX10_reader_101 ?_
          refine va_put (D := D) (ci := 10) (v := .int ((S23 0 3) + 1)) (ty := .int) (C := RX10) (T := TX10) (N := 58) hx hb hts iX10_reader_10 tyX10 tyX10_ok nmX10 hown hK hP hD hS 0 rfl rfl 3 (by decide) (hts (.fieldLink RX10 153 "FondsRoomModel" "readers" "I") (List.mem_of_getElem? (i := 2) rfl)) (fun _ h9 => h9) rfl (by decide +kernel) rfl rfl (Nat.le_of_ble_eq_true rfl) dX10_reader_102 (fun H locs hP hD hS => ?_)
          obtain ⟨S24, eS24⟩ : ∃ z, z = wr S23 0 3 ((S23 0 3) + 1) := ⟨_, rfl⟩
          replace hF := bnd_s hF S24 eS24
          have hP : va_P D vwCl (YW y cy S24) H := by rw [eS24]; exact hP
          have hD : va_D (va_A (YW y cy S0) s.heap.size) (YW y cy S24) := by rw [eS24]; exact hD
          refine lv_aload_n hx hb dX10_reader_105 rfl (lv_at hl 0 rfl) ?_
          refine va_get (D := D) (ci := 10) (v := .int (S24 0 3)) (C := RX10) (T := TX10) (N := 58) hx hb hts iX10_reader_10 hown hK hP 0 rfl rfl 3 (by decide) (hts (.fieldLink RX10 153 "FondsRoomModel" "readers" "I") (List.mem_of_getElem? (i := 2) rfl)) (fun _ h9 => h9) rfl dX10_reader_106 ?_
          refine lv_iconst (v := 1) hx hb dX10_reader_109 (by decide) ?_
          refine lv_isub hx hb dX10_reader_110 ?_
          obtain ⟨e1, e2⟩ := ret2 hF
          have hP : va_P D vwCl (YW y cy Sf) H := by rw [← e2]; exact hP
          have hD : va_D (va_A (YW y cy S0) s.heap.size) (YW y cy Sf) := by rw [← e2]; exact hD
          exact W.iret (v := ((S24 0 3) - 1)) hx hb hr (fun t ht hW => ⟨⟨((S24 0 3) - 1), (), rfl, e1, by rw [ht]; exact hP, va_K.moved hW.alike hK, hD⟩, hS.F ht⟩) hS.2.2 dX10_reader_111
        · skip
          have hF := (if_neg c15).symm.trans hF
          refine lv_aload_n hx hb dX10_reader_42 rfl (lv_at hl 0 rfl) ?_
          refine va_get (D := D) (ci := 10) (v := .int (S1 0 5)) (C := RX10) (T := TX10) (N := 58) hx hb hts iX10_reader_10 hown hK hP 0 rfl rfl 5 (by decide) (hts (.fieldLink RX10 9 "FondsRoomModel" "bellTurn" "I") (List.mem_of_getElem? (i := 3) rfl)) (fun _ h9 => h9) rfl dX10_reader_43 ?_
          refine lv_aload_n hx hb dX10_reader_46 rfl (lv_at hl 0 rfl) ?_
          refine va_get (D := D) (ci := 10) (v := .int (S1 0 4)) (C := RX10) (T := TX10) (N := 58) hx hb hts iX10_reader_10 hown hK hP 0 rfl rfl 4 (by decide) (hts (.fieldLink RX10 163 "FondsRoomModel" "turn" "I") (List.mem_of_getElem? (i := 4) rfl)) (fun _ h9 => h9) rfl dX10_reader_47 ?_
          refine lv_icmp_gt (tgt := 55) hx hb dX10_reader_50 (by decide) (fun c25 => ?_) (fun c25 => ?_)
          · skip
            have hF := (if_pos c25).symm.trans hF
            refine lv_aload_n hx hb dX10_reader_55 rfl (lv_at hl 0 rfl) ?_
            refine va_get (D := D) (ci := 10) (v := .ref (y 12)) (C := RX10) (T := TX10) (N := 58) hx hb hts iX10_reader_10 hown hK hP 0 rfl rfl 24 (by decide) (hts (.fieldLink RX10 57 "FondsRoomModel" "arrival" "[I") (List.mem_of_getElem? (i := 5) rfl)) (fun _ h9 => h9) rfl dX10_reader_56 ?_
            refine lv_aload_n hx hb dX10_reader_59 rfl (lv_at hl 0 rfl) ?_
            refine va_get (D := D) (ci := 10) (v := .int (S1 0 3)) (C := RX10) (T := TX10) (N := 58) hx hb hts iX10_reader_10 hown hK hP 0 rfl rfl 3 (by decide) (hts (.fieldLink RX10 153 "FondsRoomModel" "readers" "I") (List.mem_of_getElem? (i := 2) rfl)) (fun _ h9 => h9) rfl dX10_reader_60 ?_
            refine lv_iload_n hx hb dX10_reader_63 rfl (lv_at hl 1 rfl) ?_
            obtain ⟨hi26, hF⟩ := sv_s hF
            refine va_iast hx hb hK hP hD hS 12 0 rfl rfl hi26 dX10_reader_64 (fun H locs hP hD hS => ?_)
            obtain ⟨S27, eS27⟩ : ∃ z, z = wr S1 12 ((S1 0 3) : Int32).toNatClampNeg p1 := ⟨_, rfl⟩
            replace hF := hF S27 eS27
            have hP : va_P D vwCl (YW y cy S27) H := by rw [eS27]; exact hP
            have hD : va_D (va_A (YW y cy S0) s.heap.size) (YW y cy S27) := by rw [eS27]; exact hD
            refine lv_aload_n hx hb dX10_reader_65 rfl (lv_at hl 0 rfl) ?_
            refine va_get (D := D) (ci := 10) (v := .ref (y 13)) (C := RX10) (T := TX10) (N := 58) hx hb hts iX10_reader_10 hown hK hP 0 rfl rfl 25 (by decide) (hts (.fieldLink RX10 60 "FondsRoomModel" "rank" "[I") (List.mem_of_getElem? (i := 6) rfl)) (fun _ h9 => h9) rfl dX10_reader_66 ?_
            refine lv_aload_n hx hb dX10_reader_69 rfl (lv_at hl 0 rfl) ?_
            refine va_get (D := D) (ci := 10) (v := .int (S27 0 3)) (C := RX10) (T := TX10) (N := 58) hx hb hts iX10_reader_10 hown hK hP 0 rfl rfl 3 (by decide) (hts (.fieldLink RX10 153 "FondsRoomModel" "readers" "I") (List.mem_of_getElem? (i := 2) rfl)) (fun _ h9 => h9) rfl dX10_reader_70 ?_
            refine lv_iload_n hx hb dX10_reader_73 rfl (lv_at hl 2 rfl) ?_
            obtain ⟨hi28, hF⟩ := sv_s hF
            refine va_iast hx hb hK hP hD hS 13 0 rfl rfl hi28 dX10_reader_74 (fun H locs hP hD hS => ?_)
            obtain ⟨S29, eS29⟩ : ∃ z, z = wr S27 13 ((S27 0 3) : Int32).toNatClampNeg p2 := ⟨_, rfl⟩
            replace hF := hF S29 eS29
            have hP : va_P D vwCl (YW y cy S29) H := by rw [eS29]; exact hP
            have hD : va_D (va_A (YW y cy S0) s.heap.size) (YW y cy S29) := by rw [eS29]; exact hD
            refine lv_aload_n hx hb dX10_reader_75 rfl (lv_at hl 0 rfl) ?_
            refine va_get (D := D) (ci := 10) (v := .ref (y 14)) (C := RX10) (T := TX10) (N := 58) hx hb hts iX10_reader_10 hown hK hP 0 rfl rfl 26 (by decide) (hts (.fieldLink RX10 63 "FondsRoomModel" "needsWatched" "[Z") (List.mem_of_getElem? (i := 7) rfl)) (fun _ h9 => h9) rfl dX10_reader_76 ?_
            refine lv_aload_n hx hb dX10_reader_79 rfl (lv_at hl 0 rfl) ?_
            refine va_get (D := D) (ci := 10) (v := .int (S29 0 3)) (C := RX10) (T := TX10) (N := 58) hx hb hts iX10_reader_10 hown hK hP 0 rfl rfl 3 (by decide) (hts (.fieldLink RX10 153 "FondsRoomModel" "readers" "I") (List.mem_of_getElem? (i := 2) rfl)) (fun _ h9 => h9) rfl dX10_reader_80 ?_
            refine lv_iload_n hx hb dX10_reader_83 rfl (lv_at hl 3 rfl) ?_
            obtain ⟨hi30, hF⟩ := sv_s hF
            refine va_zast hx hb hK hP hD hS 14 1 rfl rfl hi30 dX10_reader_84 (fun H locs hP hD hS => ?_)
            obtain ⟨S31, eS31⟩ : ∃ z, z = wr S29 14 ((S29 0 3) : Int32).toNatClampNeg (vp_nar .boolean p3) := ⟨_, rfl⟩
            replace hF := hF S31 eS31
            have hP : va_P D vwCl (YW y cy S31) H := by rw [eS31]; exact hP
            have hD : va_D (va_A (YW y cy S0) s.heap.size) (YW y cy S31) := by rw [eS31]; exact hD
            refine lv_aload_n hx hb dX10_reader_85 rfl (lv_at hl 0 rfl) ?_
            refine va_get (D := D) (ci := 10) (v := .ref (y 16)) (C := RX10) (T := TX10) (N := 58) hx hb hts iX10_reader_10 hown hK hP 0 rfl rfl 28 (by decide) (hts (.fieldLink RX10 69 "FondsRoomModel" "desk" "[I") (List.mem_of_getElem? (i := 8) rfl)) (fun _ h9 => h9) rfl dX10_reader_86 ?_
            refine lv_aload_n hx hb dX10_reader_89 rfl (lv_at hl 0 rfl) ?_
            refine va_get (D := D) (ci := 10) (v := .int (S31 0 3)) (C := RX10) (T := TX10) (N := 58) hx hb hts iX10_reader_10 hown hK hP 0 rfl rfl 3 (by decide) (hts (.fieldLink RX10 153 "FondsRoomModel" "readers" "I") (List.mem_of_getElem? (i := 2) rfl)) (fun _ h9 => h9) rfl dX10_reader_90 ?_
            refine lv_iconst (v := (-1)) hx hb dX10_reader_93 (by decide) ?_
            obtain ⟨hi32, hF⟩ := sv_s hF
            refine va_iast hx hb hK hP hD hS 16 0 rfl rfl hi32 dX10_reader_94 (fun H locs hP hD hS => ?_)
            obtain ⟨S33, eS33⟩ : ∃ z, z = wr S31 16 ((S31 0 3) : Int32).toNatClampNeg (-1) := ⟨_, rfl⟩
            replace hF := hF S33 eS33
            have hP : va_P D vwCl (YW y cy S33) H := by rw [eS33]; exact hP
            have hD : va_D (va_A (YW y cy S0) s.heap.size) (YW y cy S33) := by rw [eS33]; exact hD
            refine lv_aload_n hx hb dX10_reader_95 rfl (lv_at hl 0 rfl) ?_
            refine lv_dup hx hb dX10_reader_96 rfl ?_
            refine va_get (D := D) (ci := 10) (v := .int (S33 0 3)) (C := RX10) (T := TX10) (N := 58) hx hb hts iX10_reader_10 hown hK hP 0 rfl rfl 3 (by decide) (hts (.fieldLink RX10 153 "FondsRoomModel" "readers" "I") (List.mem_of_getElem? (i := 2) rfl)) (fun _ h9 => h9) rfl dX10_reader_97 ?_
            refine lv_iconst (v := 1) hx hb dX10_reader_100 (by decide) ?_
            refine lv_iadd hx hb dX10_reader_101 ?_
            refine va_put (D := D) (ci := 10) (v := .int ((S33 0 3) + 1)) (ty := .int) (C := RX10) (T := TX10) (N := 58) hx hb hts iX10_reader_10 tyX10 tyX10_ok nmX10 hown hK hP hD hS 0 rfl rfl 3 (by decide) (hts (.fieldLink RX10 153 "FondsRoomModel" "readers" "I") (List.mem_of_getElem? (i := 2) rfl)) (fun _ h9 => h9) rfl (by decide +kernel) rfl rfl (Nat.le_of_ble_eq_true rfl) dX10_reader_102 (fun H locs hP hD hS => ?_)
            obtain ⟨S34, eS34⟩ : ∃ z, z = wr S33 0 3 ((S33 0 3) + 1) := ⟨_, rfl⟩
            replace hF := bnd_s hF S34 eS34
            have hP : va_P D vwCl (YW y cy S34) H := by rw [eS34]; exact hP
            have hD : va_D (va_A (YW y cy S0) s.heap.size) (YW y cy S34) := by rw [eS34]; exact hD
            refine lv_aload_n hx hb dX10_reader_105 rfl (lv_at hl 0 rfl) ?_
            refine va_get (D := D) (ci := 10) (v := .int (S34 0 3)) (C := RX10) (T := TX10) (N := 58) hx hb hts iX10_reader_10 hown hK hP 0 rfl rfl 3 (by decide) (hts (.fieldLink RX10 153 "FondsRoomModel" "readers" "I") (List.mem_of_getElem? (i := 2) rfl)) (fun _ h9 => h9) rfl dX10_reader_106 ?_
            refine lv_iconst (v := 1) hx hb dX10_reader_109 (by decide) ?_
            refine lv_isub hx hb dX10_reader_110 ?_
            obtain ⟨e1, e2⟩ := ret2 hF
            have hP : va_P D vwCl (YW y cy Sf) H := by rw [← e2]; exact hP
            have hD : va_D (va_A (YW y cy S0) s.heap.size) (YW y cy Sf) := by rw [← e2]; exact hD
            exact W.iret (v := ((S34 0 3) - 1)) hx hb hr (fun t ht hW => ⟨⟨((S34 0 3) - 1), (), rfl, e1, by rw [ht]; exact hP, va_K.moved hW.alike hK, hD⟩, hS.F ht⟩) hS.2.2 dX10_reader_111
          · skip
            have hF := (if_neg c25).symm.trans hF
            refine lv_iconst (v := (-1)) hx hb dX10_reader_53 (by decide) ?_
            obtain ⟨e1, e2⟩ := ret2 hF
            have hP : va_P D vwCl (YW y cy Sf) H := by rw [← e2]; exact hP
            have hD : va_D (va_A (YW y cy S0) s.heap.size) (YW y cy Sf) := by rw [← e2]; exact hD
            exact W.iret (v := (-1)) hx hb hr (fun t ht hW => ⟨⟨(-1), (), rfl, e1, by rw [ht]; exact hP, va_K.moved hW.alike hK, hD⟩, hS.F ht⟩) hS.2.2 dX10_reader_54

theorem iX10_canPlan_10 : ∀ w ∈ wsX100, w ∈ wsX10_canPlan := fun _ h => List.mem_cons_of_mem _ (List.mem_append_right _ h)
set_option maxHeartbeats 8000000 in
set_option maxRecDepth 100000 in
theorem zX10_canPlan (l : Launch) (D : va_G) (y : Nat → Nat) (cy : Nat → ClassId) (S : RS) (sz : Nat) (p1 : Int32) (rv : Int32) (hF : gX10_canPlan S p1 = some rv) : Met l yX10_canPlan wsX10_canPlan ({ frames := 2, cells := 0, slots := 0, locals := 43 }) (PW D (TYS cy) (YW y cy S) sz [.ref (y 0), .int p1]) (va_Qi (fun (res : Int32) (u : Unit) => res = rv ∧ b01 rv) (BU D (TYS cy) (YW y cy S) (fun _ => YW y cy S) sz) (va_A (YW y cy S) sz)) 0 0 (va_A (YW y cy S) sz) := by
  refine Met.ofW (cc := cX10_canPlan) (maxL := 2) (ret := (some .boolean)) (by decide) rfl ?_
  intro p e s m args below meth c s₁ B hml hv
  obtain ⟨rfl, hsz, hP, hK, hD0⟩ := hv
  have hx := B.exec
  have hb := B.bytes
  have hr := B.returns
  have hts := atoms_spec (ws := wsX10_canPlan) B.pre
  have hown : s.vm.findClass RX10 = some m.cls := findClass_of_methodNamed B.named
  have hlocks := B.notSynchronized
  subst hsz
  have hD := hD0.self (sz := s.heap.size)
  have hA : ∀ q9 : Nat, s.heap.size ≤ q9 → va_A (YW y cy S) s.heap.size q9 := fun q9 h => Or.inr h
  have hS : va_S (va_A (YW y cy S) s.heap.size) s.heap s.heap [] := va_S.rf
  have hl := lv_entry ([.ref (y 0), .int p1]) (n := 2) (Nat.le_of_ble_eq_true rfl)
  rw [lg_entry_eq]
  generalize (lg_sl ([.ref (y 0), .int p1]) ++ List.replicate (2 - (lg_sl ([.ref (y 0), .int p1])).length) Slot.unset).toArray = ls at hl ⊢
  have hl : lv_has ls 2 [(0, .ref (y 0)), (1, .int p1)] := hl
  unfold gX10_canPlan at hF
  refine lv_aload_n hx hb dX10_canPlan_0 rfl (lv_at hl 0 rfl) ?_
  refine lv_iload_n hx hb dX10_canPlan_1 rfl (lv_at hl 1 rfl) ?_
  obtain ⟨r1, hq4, hF⟩ := bd1_s hF
  refine gvI (As := [.int p1]) (rest := []) ⟨hx, hb, hml, hown, hts⟩ (zX10_isReader l D y cy S _ p1 r1 hq4) (cwV 1 hts gX10_canPlan_X10_isReader rfl rfl rfl (by decide +kernel) ⟨Nat.le_of_ble_eq_true rfl, Nat.le_of_ble_eq_true rfl⟩) hK hP hD hS hA (va_recv hK hP (ci := 10) (q0 := 0) rfl rfl) rfl hl.1 rfl (Nat.le_of_ble_eq_true rfl) dX10_canPlan_2 ⟨Nat.le_of_ble_eq_true rfl, Nat.le_of_ble_eq_true rfl⟩ (fun a5 u9 H locs hw3 hP hD hS => ?_)
  have hP : va_P D vwCl (YW y cy S) H := hP
  have hD : va_D _ (YW y cy S) := hD
  refine lv_tov (v' := .int r1) (congrArg Value.int hw3.1) ?_
  refine lv_if_eq (tgt := 38) hx hb dX10_canPlan_5 (by decide) (fun c6 => ?_) (fun c6 => ?_)
  · skip
    have hF := (if_pos c6).symm.trans hF
    refine lv_iconst (v := 0) hx hb dX10_canPlan_38 (by decide) ?_
    have e1 := Option.some.inj hF
    exact W.zret (v := 0) hx hb hr (nz01 (Or.inl rfl)).1 (fun t ht hW => ⟨⟨0, (), rfl, ⟨e1, by rw [← e1]; exact Or.inl rfl⟩, by rw [ht]; exact hP, va_K.moved hW.alike hK, hD⟩, hS.F ht⟩) hS.2.2 dX10_canPlan_39
  · skip
    have hF := (if_neg c6).symm.trans hF
    refine lv_aload_n hx hb dX10_canPlan_8 rfl (lv_at hl 0 rfl) ?_
    refine va_get (D := D) (ci := 10) (v := .ref (y 17)) (C := RX10) (T := TX10) (N := 58) hx hb hts iX10_canPlan_10 hown hK hP 0 rfl rfl 29 (by decide) (hts (.fieldLink RX10 72 "FondsRoomModel" "steps" "[I") (List.mem_of_getElem? (i := 1) rfl)) (fun _ h9 => h9) rfl dX10_canPlan_9 ?_
    refine lv_iload_n hx hb dX10_canPlan_12 rfl (lv_at hl 1 rfl) ?_
    obtain ⟨hi8, hF⟩ := ld_s hF
    refine va_iald hx hb hK hP 17 0 rfl rfl hi8 dX10_canPlan_13 ?_
    refine lv_topi (fun y7 ey7 => ?_)
    replace hF := hF y7 ey7
    refine lv_bipush (v := 16) hx hb dX10_canPlan_14 (by decide) ?_
    refine lv_icmp_ge (tgt := 38) hx hb dX10_canPlan_16 (by decide) (fun c9 => ?_) (fun c9 => ?_)
    · skip
      have hF := (if_pos c9).symm.trans hF
      refine lv_iconst (v := 0) hx hb dX10_canPlan_38 (by decide) ?_
      have e1 := Option.some.inj hF
      exact W.zret (v := 0) hx hb hr (nz01 (Or.inl rfl)).1 (fun t ht hW => ⟨⟨0, (), rfl, ⟨e1, by rw [← e1]; exact Or.inl rfl⟩, by rw [ht]; exact hP, va_K.moved hW.alike hK, hD⟩, hS.F ht⟩) hS.2.2 dX10_canPlan_39
    · skip
      have hF := (if_neg c9).symm.trans hF
      refine lv_aload_n hx hb dX10_canPlan_19 rfl (lv_at hl 0 rfl) ?_
      refine va_get (D := D) (ci := 10) (v := .ref (y 15)) (C := RX10) (T := TX10) (N := 58) hx hb hts iX10_canPlan_10 hown hK hP 0 rfl rfl 27 (by decide) (hts (.fieldLink RX10 66 "FondsRoomModel" "state" "[I") (List.mem_of_getElem? (i := 2) rfl)) (fun _ h9 => h9) rfl dX10_canPlan_20 ?_
      refine lv_iload_n hx hb dX10_canPlan_23 rfl (lv_at hl 1 rfl) ?_
      obtain ⟨hi11, hF⟩ := ld_s hF
      refine va_iald hx hb hK hP 15 0 rfl rfl hi11 dX10_canPlan_24 ?_
      refine lv_topi (fun y10 ey10 => ?_)
      replace hF := hF y10 ey10
      refine lv_iconst (v := 5) hx hb dX10_canPlan_25 (by decide) ?_
      refine lv_bipush (v := 7) hx hb dX10_canPlan_26 (by decide) ?_
      obtain ⟨r12, hq15, hF⟩ := bd1_s hF
      refine gsI (As := [.int y10, .int 5, .int 7]) (rest := []) ⟨hx, hb, hml, hown, hts⟩ (zX10_in l D y cy S _ y10 5 7 r12 hq15) (va_cwS 3 hts gX10_canPlan_X10_in rfl rfl rfl (by decide +kernel) ⟨Nat.le_of_ble_eq_true rfl, Nat.le_of_ble_eq_true rfl⟩) hK hP hD hS hA rfl hl.1 rfl (Nat.le_of_ble_eq_true rfl) dX10_canPlan_28 ⟨Nat.le_of_ble_eq_true rfl, Nat.le_of_ble_eq_true rfl⟩ (fun a16 u9 H locs hw14 hP hD hS => ?_)
      have hP : va_P D vwCl (YW y cy S) H := hP
      have hD : va_D _ (YW y cy S) := hD
      refine lv_tov (v' := .int r12) (congrArg Value.int hw14.1) ?_
      refine lv_if_ne (tgt := 38) hx hb dX10_canPlan_31 (by decide) (fun c17 => ?_) (fun c17 => ?_)
      · skip
        have hF := (if_neg c17).symm.trans hF
        refine lv_iconst (v := 0) hx hb dX10_canPlan_38 (by decide) ?_
        have e1 := Option.some.inj hF
        exact W.zret (v := 0) hx hb hr (nz01 (Or.inl rfl)).1 (fun t ht hW => ⟨⟨0, (), rfl, ⟨e1, by rw [← e1]; exact Or.inl rfl⟩, by rw [ht]; exact hP, va_K.moved hW.alike hK, hD⟩, hS.F ht⟩) hS.2.2 dX10_canPlan_39
      · skip
        have hF := (if_pos c17).symm.trans hF
        refine lv_iconst (v := 1) hx hb dX10_canPlan_34 (by decide) ?_
        refine lv_goto (tgt := 39) hx hb dX10_canPlan_35 (by decide) ?_
        have e1 := Option.some.inj hF
        exact W.zret (v := 1) hx hb hr (nz01 (Or.inr rfl)).1 (fun t ht hW => ⟨⟨1, (), rfl, ⟨e1, by rw [← e1]; exact Or.inr rfl⟩, by rw [ht]; exact hP, va_K.moved hW.alike hK, hD⟩, hS.F ht⟩) hS.2.2 dX10_canPlan_39

theorem iX10_plans_10 : ∀ w ∈ wsX100, w ∈ wsX10_plans := fun _ h => List.mem_cons_of_mem _ (List.mem_append_right _ h)
set_option maxHeartbeats 8000000 in
set_option maxRecDepth 100000 in
theorem zX10_plans (l : Launch) (D : va_G) (y : Nat → Nat) (cy : Nat → ClassId) (S0 : RS) (sz : Nat) (p1 p2 p3 p4 p5 : Int32) (rv : Int32) (Sf : RS) (hF : gX10_plans S0 p1 p2 p3 p4 p5 = some (rv, Sf)) : Met l yX10_plans wsX10_plans ({ frames := 0, cells := 0, slots := 0, locals := 0 }) (PW D (TYS cy) (YW y cy S0) sz [.ref (y 0), .int p1, .int p2, .int p3, .int p4, .int p5]) (va_Qi (fun (res : Int32) (u : Unit) => res = rv ∧ b01 rv) (BU D (TYS cy) (YW y cy S0) (fun _ => YW y cy Sf) sz) (va_A (YW y cy S0) sz)) 0 0 (va_A (YW y cy S0) sz) := by
  refine Met.ofW (cc := cX10_plans) (maxL := 7) (ret := (some .boolean)) (by decide) rfl ?_
  intro p e s m args below meth c s₁ B hml hv
  obtain ⟨rfl, hsz, hP, hK, hD0⟩ := hv
  have hx := B.exec
  have hb := B.bytes
  have hr := B.returns
  have hts := atoms_spec (ws := wsX10_plans) B.pre
  have hown : s.vm.findClass RX10 = some m.cls := findClass_of_methodNamed B.named
  have hlocks := B.notSynchronized
  subst hsz
  have hD := hD0.self (sz := s.heap.size)
  have hA : ∀ q9 : Nat, s.heap.size ≤ q9 → va_A (YW y cy S0) s.heap.size q9 := fun q9 h => Or.inr h
  have hS : va_S (va_A (YW y cy S0) s.heap.size) s.heap s.heap [] := va_S.rf
  have hl := lv_entry ([.ref (y 0), .int p1, .int p2, .int p3, .int p4, .int p5]) (n := 7) (Nat.le_of_ble_eq_true rfl)
  rw [lg_entry_eq]
  generalize (lg_sl ([.ref (y 0), .int p1, .int p2, .int p3, .int p4, .int p5]) ++ List.replicate (7 - (lg_sl ([.ref (y 0), .int p1, .int p2, .int p3, .int p4, .int p5])).length) Slot.unset).toArray = ls at hl ⊢
  have hl : lv_has ls 7 [(0, .ref (y 0)), (1, .int p1), (2, .int p2), (3, .int p3), (4, .int p4), (5, .int p5)] := hl
  unfold gX10_plans at hF
  refine lv_bipush (v := 16) hx hb dX10_plans_0 (by decide) ?_
  refine lv_iload_n hx hb dX10_plans_2 rfl (lv_at hl 1 rfl) ?_
  refine lv_imul hx hb dX10_plans_3 ?_
  refine lv_aload_n hx hb dX10_plans_4 rfl (lv_at hl 0 rfl) ?_
  refine va_get (D := D) (ci := 10) (v := .ref (y 17)) (C := RX10) (T := TX10) (N := 58) hx hb hts iX10_plans_10 hown hK hP 0 rfl rfl 29 (by decide) (hts (.fieldLink RX10 72 "FondsRoomModel" "steps" "[I") (List.mem_of_getElem? (i := 1) rfl)) (fun _ h9 => h9) rfl dX10_plans_5 ?_
  refine lv_iload_n hx hb dX10_plans_8 rfl (lv_at hl 1 rfl) ?_
  obtain ⟨hi2, hF⟩ := ld_s hF
  refine va_iald hx hb hK hP 17 0 rfl rfl hi2 dX10_plans_9 ?_
  refine lv_topi (fun y1 ey1 => ?_)
  replace hF := hF y1 ey1
  refine lv_iadd hx hb dX10_plans_10 ?_
  refine lv_istore (lv' := [(6, .int ((16 * p1) + y1)), (0, .ref (y 0)), (1, .int p1), (2, .int p2), (3, .int p3), (4, .int p4), (5, .int p5)]) hx hb dX10_plans_11 hl (by decide) rfl (fun ls hl => ?_)
  refine lv_aload_n hx hb dX10_plans_13 rfl (lv_at hl 1 rfl) ?_
  refine va_get (D := D) (ci := 10) (v := .ref (y 26)) (C := RX10) (T := TX10) (N := 58) hx hb hts iX10_plans_10 hown hK hP 0 rfl rfl 38 (by decide) (hts (.fieldLink RX10 99 "FondsRoomModel" "sKind" "[I") (List.mem_of_getElem? (i := 2) rfl)) (fun _ h9 => h9) rfl dX10_plans_14 ?_
  refine lv_iload hx hb dX10_plans_17 (lv_at hl 0 rfl) ?_
  refine lv_iload_n hx hb dX10_plans_19 rfl (lv_at hl 3 rfl) ?_
  obtain ⟨hi3, hF⟩ := sv_s hF
  refine va_iast hx hb hK hP hD hS 26 0 rfl rfl hi3 dX10_plans_20 (fun H locs hP hD hS => ?_)
  obtain ⟨S4, eS4⟩ : ∃ z, z = wr S0 26 (((16 * p1) + y1) : Int32).toNatClampNeg p2 := ⟨_, rfl⟩
  replace hF := hF S4 eS4
  have hP : va_P D vwCl (YW y cy S4) H := by rw [eS4]; exact hP
  have hD : va_D (va_A (YW y cy S0) s.heap.size) (YW y cy S4) := by rw [eS4]; exact hD
  refine lv_aload_n hx hb dX10_plans_21 rfl (lv_at hl 1 rfl) ?_
  refine va_get (D := D) (ci := 10) (v := .ref (y 27)) (C := RX10) (T := TX10) (N := 58) hx hb hts iX10_plans_10 hown hK hP 0 rfl rfl 39 (by decide) (hts (.fieldLink RX10 102 "FondsRoomModel" "sBox" "[I") (List.mem_of_getElem? (i := 3) rfl)) (fun _ h9 => h9) rfl dX10_plans_22 ?_
  refine lv_iload hx hb dX10_plans_25 (lv_at hl 0 rfl) ?_
  refine lv_iload_n hx hb dX10_plans_27 rfl (lv_at hl 4 rfl) ?_
  obtain ⟨hi5, hF⟩ := sv_s hF
  refine va_iast hx hb hK hP hD hS 27 0 rfl rfl hi5 dX10_plans_28 (fun H locs hP hD hS => ?_)
  obtain ⟨S6, eS6⟩ : ∃ z, z = wr S4 27 (((16 * p1) + y1) : Int32).toNatClampNeg p3 := ⟨_, rfl⟩
  replace hF := hF S6 eS6
  have hP : va_P D vwCl (YW y cy S6) H := by rw [eS6]; exact hP
  have hD : va_D (va_A (YW y cy S0) s.heap.size) (YW y cy S6) := by rw [eS6]; exact hD
  refine lv_aload_n hx hb dX10_plans_29 rfl (lv_at hl 1 rfl) ?_
  refine va_get (D := D) (ci := 10) (v := .ref (y 28)) (C := RX10) (T := TX10) (N := 58) hx hb hts iX10_plans_10 hown hK hP 0 rfl rfl 40 (by decide) (hts (.fieldLink RX10 105 "FondsRoomModel" "sMany" "[I") (List.mem_of_getElem? (i := 4) rfl)) (fun _ h9 => h9) rfl dX10_plans_30 ?_
  refine lv_iload hx hb dX10_plans_33 (lv_at hl 0 rfl) ?_
  refine lv_iload hx hb dX10_plans_35 (lv_at hl 5 rfl) ?_
  obtain ⟨hi7, hF⟩ := sv_s hF
  refine va_iast hx hb hK hP hD hS 28 0 rfl rfl hi7 dX10_plans_37 (fun H locs hP hD hS => ?_)
  obtain ⟨S8, eS8⟩ : ∃ z, z = wr S6 28 (((16 * p1) + y1) : Int32).toNatClampNeg p4 := ⟨_, rfl⟩
  replace hF := hF S8 eS8
  have hP : va_P D vwCl (YW y cy S8) H := by rw [eS8]; exact hP
  have hD : va_D (va_A (YW y cy S0) s.heap.size) (YW y cy S8) := by rw [eS8]; exact hD
  refine lv_aload_n hx hb dX10_plans_38 rfl (lv_at hl 1 rfl) ?_
  refine va_get (D := D) (ci := 10) (v := .ref (y 29)) (C := RX10) (T := TX10) (N := 58) hx hb hts iX10_plans_10 hown hK hP 0 rfl rfl 41 (by decide) (hts (.fieldLink RX10 108 "FondsRoomModel" "sUrgent" "[Z") (List.mem_of_getElem? (i := 5) rfl)) (fun _ h9 => h9) rfl dX10_plans_39 ?_
  refine lv_iload hx hb dX10_plans_42 (lv_at hl 0 rfl) ?_
  refine lv_iload hx hb dX10_plans_44 (lv_at hl 6 rfl) ?_
  obtain ⟨hi9, hF⟩ := sv_s hF
  refine va_zast hx hb hK hP hD hS 29 1 rfl rfl hi9 dX10_plans_46 (fun H locs hP hD hS => ?_)
  obtain ⟨S10, eS10⟩ : ∃ z, z = wr S8 29 (((16 * p1) + y1) : Int32).toNatClampNeg (vp_nar .boolean p5) := ⟨_, rfl⟩
  replace hF := hF S10 eS10
  have hP : va_P D vwCl (YW y cy S10) H := by rw [eS10]; exact hP
  have hD : va_D (va_A (YW y cy S0) s.heap.size) (YW y cy S10) := by rw [eS10]; exact hD
  refine lv_aload_n hx hb dX10_plans_47 rfl (lv_at hl 1 rfl) ?_
  refine va_get (D := D) (ci := 10) (v := .ref (y 17)) (C := RX10) (T := TX10) (N := 58) hx hb hts iX10_plans_10 hown hK hP 0 rfl rfl 29 (by decide) (hts (.fieldLink RX10 72 "FondsRoomModel" "steps" "[I") (List.mem_of_getElem? (i := 1) rfl)) (fun _ h9 => h9) rfl dX10_plans_48 ?_
  refine lv_iload_n hx hb dX10_plans_51 rfl (lv_at hl 2 rfl) ?_
  refine lv_dup2_11 hx hb dX10_plans_52 rfl rfl ?_
  obtain ⟨hi12, hF⟩ := ld_s hF
  refine va_iald hx hb hK hP 17 0 rfl rfl hi12 dX10_plans_53 ?_
  refine lv_topi (fun y11 ey11 => ?_)
  replace hF := hF y11 ey11
  refine lv_iconst (v := 1) hx hb dX10_plans_54 (by decide) ?_
  refine lv_iadd hx hb dX10_plans_55 ?_
  obtain ⟨hi13, hF⟩ := sv_s hF
  refine va_iast hx hb hK hP hD hS 17 0 rfl rfl hi13 dX10_plans_56 (fun H locs hP hD hS => ?_)
  obtain ⟨S14, eS14⟩ : ∃ z, z = wr S10 17 (p1 : Int32).toNatClampNeg (y11 + 1) := ⟨_, rfl⟩
  replace hF := hF S14 eS14
  have hP : va_P D vwCl (YW y cy S14) H := by rw [eS14]; exact hP
  have hD : va_D (va_A (YW y cy S0) s.heap.size) (YW y cy S14) := by rw [eS14]; exact hD
  refine lv_iconst (v := 1) hx hb dX10_plans_57 (by decide) ?_
  obtain ⟨e1, e2⟩ := ret2 hF
  have hP : va_P D vwCl (YW y cy Sf) H := by rw [← e2]; exact hP
  have hD : va_D (va_A (YW y cy S0) s.heap.size) (YW y cy Sf) := by rw [← e2]; exact hD
  exact W.zret (v := 1) hx hb hr (nz01 (Or.inr rfl)).1 (fun t ht hW => ⟨⟨1, (), rfl, ⟨e1, by rw [← e1]; exact Or.inr rfl⟩, by rw [ht]; exact hP, va_K.moved hW.alike hK, hD⟩, hS.F ht⟩) hS.2.2 dX10_plans_58

theorem iX10_ask_10 : ∀ w ∈ wsX100, w ∈ wsX10_ask := fun _ h => List.mem_cons_of_mem _ (List.mem_append_right _ h)
set_option maxHeartbeats 8000000 in
set_option maxRecDepth 100000 in
theorem zX10_ask (l : Launch) (D : va_G) (y : Nat → Nat) (cy : Nat → ClassId) (S0 : RS) (sz : Nat) (p1 p2 : Int32) (rv : Int32) (Sf : RS) (hF : gX10_ask S0 p1 p2 = some (rv, Sf)) : Met l yX10_ask wsX10_ask ({ frames := 3, cells := 0, slots := 0, locals := 64 }) (PW D (TYS cy) (YW y cy S0) sz [.ref (y 0), .int p1, .int p2]) (va_Qi (fun (res : Int32) (u : Unit) => res = rv ∧ b01 rv) (BU D (TYS cy) (YW y cy S0) (fun _ => YW y cy Sf) sz) (va_A (YW y cy S0) sz)) 0 0 (va_A (YW y cy S0) sz) := by
  refine Met.ofW (cc := cX10_ask) (maxL := 3) (ret := (some .boolean)) (by decide) rfl ?_
  intro p e s m args below meth c s₁ B hml hv
  obtain ⟨rfl, hsz, hP, hK, hD0⟩ := hv
  have hx := B.exec
  have hb := B.bytes
  have hr := B.returns
  have hts := atoms_spec (ws := wsX10_ask) B.pre
  have hown : s.vm.findClass RX10 = some m.cls := findClass_of_methodNamed B.named
  have hlocks := B.notSynchronized
  subst hsz
  have hD := hD0.self (sz := s.heap.size)
  have hA : ∀ q9 : Nat, s.heap.size ≤ q9 → va_A (YW y cy S0) s.heap.size q9 := fun q9 h => Or.inr h
  have hS : va_S (va_A (YW y cy S0) s.heap.size) s.heap s.heap [] := va_S.rf
  have hl := lv_entry ([.ref (y 0), .int p1, .int p2]) (n := 3) (Nat.le_of_ble_eq_true rfl)
  rw [lg_entry_eq]
  generalize (lg_sl ([.ref (y 0), .int p1, .int p2]) ++ List.replicate (3 - (lg_sl ([.ref (y 0), .int p1, .int p2])).length) Slot.unset).toArray = ls at hl ⊢
  have hl : lv_has ls 3 [(0, .ref (y 0)), (1, .int p1), (2, .int p2)] := hl
  unfold gX10_ask at hF
  refine lv_aload_n hx hb dX10_ask_0 rfl (lv_at hl 0 rfl) ?_
  refine lv_iconst (v := 0) hx hb dX10_ask_1 (by decide) ?_
  refine va_put (D := D) (ci := 10) (v := .int 0) (ty := .int) (C := RX10) (T := TX10) (N := 58) hx hb hts iX10_ask_10 tyX10 tyX10_ok nmX10 hown hK hP hD hS 0 rfl rfl 0 (by decide) (hts (.fieldLink RX10 150 "FondsRoomModel" "thrown" "I") (List.mem_of_getElem? (i := 1) rfl)) (fun _ h9 => h9) rfl (by decide +kernel) rfl rfl (Nat.le_of_ble_eq_true rfl) dX10_ask_2 (fun H locs hP hD hS => ?_)
  obtain ⟨S1, eS1⟩ : ∃ z, z = wr S0 0 0 0 := ⟨_, rfl⟩
  replace hF := bnd_s hF S1 eS1
  have hP : va_P D vwCl (YW y cy S1) H := by rw [eS1]; exact hP
  have hD : va_D (va_A (YW y cy S0) s.heap.size) (YW y cy S1) := by rw [eS1]; exact hD
  refine lv_aload_n hx hb dX10_ask_5 rfl (lv_at hl 0 rfl) ?_
  refine lv_iload_n hx hb dX10_ask_6 rfl (lv_at hl 1 rfl) ?_
  obtain ⟨r2, hq5, hF⟩ := bd1_s hF
  refine gvI (As := [.int p1]) (rest := []) ⟨hx, hb, hml, hown, hts⟩ (zX10_canPlan l D y cy S1 _ p1 r2 hq5) (cwV 1 hts gX10_ask_X10_canPlan rfl rfl rfl (by decide +kernel) ⟨Nat.le_of_ble_eq_true rfl, Nat.le_of_ble_eq_true rfl⟩) hK hP hD hS hA (va_recv hK hP (ci := 10) (q0 := 0) rfl rfl) rfl hl.1 rfl (Nat.le_of_ble_eq_true rfl) dX10_ask_7 ⟨Nat.le_of_ble_eq_true rfl, Nat.le_of_ble_eq_true rfl⟩ (fun a6 u9 H locs hw4 hP hD hS => ?_)
  have hP : va_P D vwCl (YW y cy S1) H := hP
  have hD : va_D _ (YW y cy S1) := hD
  refine lv_tov (v' := .int r2) (congrArg Value.int hw4.1) ?_
  refine lv_if_eq (tgt := 37) hx hb dX10_ask_10 (by decide) (fun c7 => ?_) (fun c7 => ?_)
  · skip
    have hF := (if_pos c7).symm.trans hF
    refine lv_iconst (v := 0) hx hb dX10_ask_37 (by decide) ?_
    obtain ⟨e1, e2⟩ := ret2 hF
    have hP : va_P D vwCl (YW y cy Sf) H := by rw [← e2]; exact hP
    have hD : va_D (va_A (YW y cy S0) s.heap.size) (YW y cy Sf) := by rw [← e2]; exact hD
    exact W.zret (v := 0) hx hb hr (nz01 (Or.inl rfl)).1 (fun t ht hW => ⟨⟨0, (), rfl, ⟨e1, by rw [← e1]; exact Or.inl rfl⟩, by rw [ht]; exact hP, va_K.moved hW.alike hK, hD⟩, hS.F ht⟩) hS.2.2 dX10_ask_38
  · skip
    have hF := (if_neg c7).symm.trans hF
    refine lv_aload_n hx hb dX10_ask_13 rfl (lv_at hl 0 rfl) ?_
    refine lv_iload_n hx hb dX10_ask_14 rfl (lv_at hl 2 rfl) ?_
    obtain ⟨r8, hq11, hF⟩ := bd1_s hF
    refine gvI (As := [.int p2]) (rest := []) ⟨hx, hb, hml, hown, hts⟩ (zX10_isBox l D y cy S1 _ p2 r8 hq11) (cwV 1 hts gX10_ask_X10_isBox rfl rfl rfl (by decide +kernel) ⟨Nat.le_of_ble_eq_true rfl, Nat.le_of_ble_eq_true rfl⟩) hK hP hD hS hA (va_recv hK hP (ci := 10) (q0 := 0) rfl rfl) rfl hl.1 rfl (Nat.le_of_ble_eq_true rfl) dX10_ask_15 ⟨Nat.le_of_ble_eq_true rfl, Nat.le_of_ble_eq_true rfl⟩ (fun a12 u9 H locs hw10 hP hD hS => ?_)
    have hP : va_P D vwCl (YW y cy S1) H := hP
    have hD : va_D _ (YW y cy S1) := hD
    refine lv_tov (v' := .int r8) (congrArg Value.int hw10.1) ?_
    refine lv_if_eq (tgt := 37) hx hb dX10_ask_18 (by decide) (fun c13 => ?_) (fun c13 => ?_)
    · skip
      have hF := (if_pos c13).symm.trans hF
      refine lv_iconst (v := 0) hx hb dX10_ask_37 (by decide) ?_
      obtain ⟨e1, e2⟩ := ret2 hF
      have hP : va_P D vwCl (YW y cy Sf) H := by rw [← e2]; exact hP
      have hD : va_D (va_A (YW y cy S0) s.heap.size) (YW y cy Sf) := by rw [← e2]; exact hD
      exact W.zret (v := 0) hx hb hr (nz01 (Or.inl rfl)).1 (fun t ht hW => ⟨⟨0, (), rfl, ⟨e1, by rw [← e1]; exact Or.inl rfl⟩, by rw [ht]; exact hP, va_K.moved hW.alike hK, hD⟩, hS.F ht⟩) hS.2.2 dX10_ask_38
    · skip
      have hF := (if_neg c13).symm.trans hF
      refine lv_aload_n hx hb dX10_ask_21 rfl (lv_at hl 0 rfl) ?_
      refine lv_iload_n hx hb dX10_ask_22 rfl (lv_at hl 1 rfl) ?_
      refine lv_iconst (v := 0) hx hb dX10_ask_23 (by decide) ?_
      refine lv_iload_n hx hb dX10_ask_24 rfl (lv_at hl 2 rfl) ?_
      refine lv_iconst (v := 0) hx hb dX10_ask_25 (by decide) ?_
      refine lv_iconst (v := 0) hx hb dX10_ask_26 (by decide) ?_
      obtain ⟨r14, S15, hq17, hF⟩ := bd2_s hF
      refine gvI (As := [.int p1, .int 0, .int p2, .int 0, .int 0]) (rest := []) ⟨hx, hb, hml, hown, hts⟩ (zX10_plans l D y cy S1 _ p1 0 p2 0 0 r14 S15 hq17) (cwV 5 hts gX10_ask_X10_plans rfl rfl rfl (by decide +kernel) ⟨Nat.le_of_ble_eq_true rfl, Nat.le_of_ble_eq_true rfl⟩) hK hP hD hS hA (va_recv hK hP (ci := 10) (q0 := 0) rfl rfl) rfl hl.1 rfl (Nat.le_of_ble_eq_true rfl) dX10_ask_27 ⟨Nat.le_of_ble_eq_true rfl, Nat.le_of_ble_eq_true rfl⟩ (fun a18 u9 H locs hw16 hP hD hS => ?_)
      have hP : va_P D vwCl (YW y cy S15) H := hP
      have hD : va_D _ (YW y cy S15) := hD
      refine lv_tov (v' := .int r14) (congrArg Value.int hw16.1) ?_
      refine lv_if_eq (tgt := 37) hx hb dX10_ask_30 (by decide) (fun c19 => ?_) (fun c19 => ?_)
      · skip
        have hF := (if_pos c19).symm.trans hF
        refine lv_iconst (v := 0) hx hb dX10_ask_37 (by decide) ?_
        obtain ⟨e1, e2⟩ := ret2 hF
        have hP : va_P D vwCl (YW y cy Sf) H := by rw [← e2]; exact hP
        have hD : va_D (va_A (YW y cy S0) s.heap.size) (YW y cy Sf) := by rw [← e2]; exact hD
        exact W.zret (v := 0) hx hb hr (nz01 (Or.inl rfl)).1 (fun t ht hW => ⟨⟨0, (), rfl, ⟨e1, by rw [← e1]; exact Or.inl rfl⟩, by rw [ht]; exact hP, va_K.moved hW.alike hK, hD⟩, hS.F ht⟩) hS.2.2 dX10_ask_38
      · skip
        have hF := (if_neg c19).symm.trans hF
        refine lv_iconst (v := 1) hx hb dX10_ask_33 (by decide) ?_
        refine lv_goto (tgt := 38) hx hb dX10_ask_34 (by decide) ?_
        obtain ⟨e1, e2⟩ := ret2 hF
        have hP : va_P D vwCl (YW y cy Sf) H := by rw [← e2]; exact hP
        have hD : va_D (va_A (YW y cy S0) s.heap.size) (YW y cy Sf) := by rw [← e2]; exact hD
        exact W.zret (v := 1) hx hb hr (nz01 (Or.inr rfl)).1 (fun t ht hW => ⟨⟨1, (), rfl, ⟨e1, by rw [← e1]; exact Or.inr rfl⟩, by rw [ht]; exact hP, va_K.moved hW.alike hK, hD⟩, hS.F ht⟩) hS.2.2 dX10_ask_38

theorem iX10_read_10 : ∀ w ∈ wsX100, w ∈ wsX10_read := fun _ h => List.mem_cons_of_mem _ (List.mem_append_right _ h)
set_option maxHeartbeats 8000000 in
set_option maxRecDepth 100000 in
theorem zX10_read (l : Launch) (D : va_G) (y : Nat → Nat) (cy : Nat → ClassId) (S0 : RS) (sz : Nat) (p1 p2 : Int32) (rv : Int32) (Sf : RS) (hF : gX10_read S0 p1 p2 = some (rv, Sf)) : Met l yX10_read wsX10_read ({ frames := 3, cells := 0, slots := 0, locals := 64 }) (PW D (TYS cy) (YW y cy S0) sz [.ref (y 0), .int p1, .int p2]) (va_Qi (fun (res : Int32) (u : Unit) => res = rv ∧ b01 rv) (BU D (TYS cy) (YW y cy S0) (fun _ => YW y cy Sf) sz) (va_A (YW y cy S0) sz)) 0 0 (va_A (YW y cy S0) sz) := by
  refine Met.ofW (cc := cX10_read) (maxL := 3) (ret := (some .boolean)) (by decide) rfl ?_
  intro p e s m args below meth c s₁ B hml hv
  obtain ⟨rfl, hsz, hP, hK, hD0⟩ := hv
  have hx := B.exec
  have hb := B.bytes
  have hr := B.returns
  have hts := atoms_spec (ws := wsX10_read) B.pre
  have hown : s.vm.findClass RX10 = some m.cls := findClass_of_methodNamed B.named
  have hlocks := B.notSynchronized
  subst hsz
  have hD := hD0.self (sz := s.heap.size)
  have hA : ∀ q9 : Nat, s.heap.size ≤ q9 → va_A (YW y cy S0) s.heap.size q9 := fun q9 h => Or.inr h
  have hS : va_S (va_A (YW y cy S0) s.heap.size) s.heap s.heap [] := va_S.rf
  have hl := lv_entry ([.ref (y 0), .int p1, .int p2]) (n := 3) (Nat.le_of_ble_eq_true rfl)
  rw [lg_entry_eq]
  generalize (lg_sl ([.ref (y 0), .int p1, .int p2]) ++ List.replicate (3 - (lg_sl ([.ref (y 0), .int p1, .int p2])).length) Slot.unset).toArray = ls at hl ⊢
  have hl : lv_has ls 3 [(0, .ref (y 0)), (1, .int p1), (2, .int p2)] := hl
  unfold gX10_read at hF
  refine lv_aload_n hx hb dX10_read_0 rfl (lv_at hl 0 rfl) ?_
  refine lv_iconst (v := 0) hx hb dX10_read_1 (by decide) ?_
  refine va_put (D := D) (ci := 10) (v := .int 0) (ty := .int) (C := RX10) (T := TX10) (N := 58) hx hb hts iX10_read_10 tyX10 tyX10_ok nmX10 hown hK hP hD hS 0 rfl rfl 0 (by decide) (hts (.fieldLink RX10 150 "FondsRoomModel" "thrown" "I") (List.mem_of_getElem? (i := 1) rfl)) (fun _ h9 => h9) rfl (by decide +kernel) rfl rfl (Nat.le_of_ble_eq_true rfl) dX10_read_2 (fun H locs hP hD hS => ?_)
  obtain ⟨S1, eS1⟩ : ∃ z, z = wr S0 0 0 0 := ⟨_, rfl⟩
  replace hF := bnd_s hF S1 eS1
  have hP : va_P D vwCl (YW y cy S1) H := by rw [eS1]; exact hP
  have hD : va_D (va_A (YW y cy S0) s.heap.size) (YW y cy S1) := by rw [eS1]; exact hD
  refine lv_aload_n hx hb dX10_read_5 rfl (lv_at hl 0 rfl) ?_
  refine lv_iload_n hx hb dX10_read_6 rfl (lv_at hl 1 rfl) ?_
  obtain ⟨r2, hq5, hF⟩ := bd1_s hF
  refine gvI (As := [.int p1]) (rest := []) ⟨hx, hb, hml, hown, hts⟩ (zX10_canPlan l D y cy S1 _ p1 r2 hq5) (cwV 1 hts gX10_read_X10_canPlan rfl rfl rfl (by decide +kernel) ⟨Nat.le_of_ble_eq_true rfl, Nat.le_of_ble_eq_true rfl⟩) hK hP hD hS hA (va_recv hK hP (ci := 10) (q0 := 0) rfl rfl) rfl hl.1 rfl (Nat.le_of_ble_eq_true rfl) dX10_read_7 ⟨Nat.le_of_ble_eq_true rfl, Nat.le_of_ble_eq_true rfl⟩ (fun a6 u9 H locs hw4 hP hD hS => ?_)
  have hP : va_P D vwCl (YW y cy S1) H := hP
  have hD : va_D _ (YW y cy S1) := hD
  refine lv_tov (v' := .int r2) (congrArg Value.int hw4.1) ?_
  refine lv_if_eq (tgt := 39) hx hb dX10_read_10 (by decide) (fun c7 => ?_) (fun c7 => ?_)
  · skip
    have hF := (if_pos c7).symm.trans hF
    refine lv_iconst (v := 0) hx hb dX10_read_39 (by decide) ?_
    obtain ⟨e1, e2⟩ := ret2 hF
    have hP : va_P D vwCl (YW y cy Sf) H := by rw [← e2]; exact hP
    have hD : va_D (va_A (YW y cy S0) s.heap.size) (YW y cy Sf) := by rw [← e2]; exact hD
    exact W.zret (v := 0) hx hb hr (nz01 (Or.inl rfl)).1 (fun t ht hW => ⟨⟨0, (), rfl, ⟨e1, by rw [← e1]; exact Or.inl rfl⟩, by rw [ht]; exact hP, va_K.moved hW.alike hK, hD⟩, hS.F ht⟩) hS.2.2 dX10_read_40
  · skip
    have hF := (if_neg c7).symm.trans hF
    refine lv_iload_n hx hb dX10_read_13 rfl (lv_at hl 2 rfl) ?_
    refine lv_iconst (v := 1) hx hb dX10_read_14 (by decide) ?_
    refine lv_bipush (v := 50) hx hb dX10_read_15 (by decide) ?_
    obtain ⟨r8, hq11, hF⟩ := bd1_s hF
    refine gsI (As := [.int p2, .int 1, .int 50]) (rest := []) ⟨hx, hb, hml, hown, hts⟩ (zX10_in l D y cy S1 _ p2 1 50 r8 hq11) (va_cwS 3 hts gX10_read_X10_in rfl rfl rfl (by decide +kernel) ⟨Nat.le_of_ble_eq_true rfl, Nat.le_of_ble_eq_true rfl⟩) hK hP hD hS hA rfl hl.1 rfl (Nat.le_of_ble_eq_true rfl) dX10_read_17 ⟨Nat.le_of_ble_eq_true rfl, Nat.le_of_ble_eq_true rfl⟩ (fun a12 u9 H locs hw10 hP hD hS => ?_)
    have hP : va_P D vwCl (YW y cy S1) H := hP
    have hD : va_D _ (YW y cy S1) := hD
    refine lv_tov (v' := .int r8) (congrArg Value.int hw10.1) ?_
    refine lv_if_eq (tgt := 39) hx hb dX10_read_20 (by decide) (fun c13 => ?_) (fun c13 => ?_)
    · skip
      have hF := (if_pos c13).symm.trans hF
      refine lv_iconst (v := 0) hx hb dX10_read_39 (by decide) ?_
      obtain ⟨e1, e2⟩ := ret2 hF
      have hP : va_P D vwCl (YW y cy Sf) H := by rw [← e2]; exact hP
      have hD : va_D (va_A (YW y cy S0) s.heap.size) (YW y cy Sf) := by rw [← e2]; exact hD
      exact W.zret (v := 0) hx hb hr (nz01 (Or.inl rfl)).1 (fun t ht hW => ⟨⟨0, (), rfl, ⟨e1, by rw [← e1]; exact Or.inl rfl⟩, by rw [ht]; exact hP, va_K.moved hW.alike hK, hD⟩, hS.F ht⟩) hS.2.2 dX10_read_40
    · skip
      have hF := (if_neg c13).symm.trans hF
      refine lv_aload_n hx hb dX10_read_23 rfl (lv_at hl 0 rfl) ?_
      refine lv_iload_n hx hb dX10_read_24 rfl (lv_at hl 1 rfl) ?_
      refine lv_iconst (v := 1) hx hb dX10_read_25 (by decide) ?_
      refine lv_iconst (v := 0) hx hb dX10_read_26 (by decide) ?_
      refine lv_iload_n hx hb dX10_read_27 rfl (lv_at hl 2 rfl) ?_
      refine lv_iconst (v := 0) hx hb dX10_read_28 (by decide) ?_
      obtain ⟨r14, S15, hq17, hF⟩ := bd2_s hF
      refine gvI (As := [.int p1, .int 1, .int 0, .int p2, .int 0]) (rest := []) ⟨hx, hb, hml, hown, hts⟩ (zX10_plans l D y cy S1 _ p1 1 0 p2 0 r14 S15 hq17) (cwV 5 hts gX10_read_X10_plans rfl rfl rfl (by decide +kernel) ⟨Nat.le_of_ble_eq_true rfl, Nat.le_of_ble_eq_true rfl⟩) hK hP hD hS hA (va_recv hK hP (ci := 10) (q0 := 0) rfl rfl) rfl hl.1 rfl (Nat.le_of_ble_eq_true rfl) dX10_read_29 ⟨Nat.le_of_ble_eq_true rfl, Nat.le_of_ble_eq_true rfl⟩ (fun a18 u9 H locs hw16 hP hD hS => ?_)
      have hP : va_P D vwCl (YW y cy S15) H := hP
      have hD : va_D _ (YW y cy S15) := hD
      refine lv_tov (v' := .int r14) (congrArg Value.int hw16.1) ?_
      refine lv_if_eq (tgt := 39) hx hb dX10_read_32 (by decide) (fun c19 => ?_) (fun c19 => ?_)
      · skip
        have hF := (if_pos c19).symm.trans hF
        refine lv_iconst (v := 0) hx hb dX10_read_39 (by decide) ?_
        obtain ⟨e1, e2⟩ := ret2 hF
        have hP : va_P D vwCl (YW y cy Sf) H := by rw [← e2]; exact hP
        have hD : va_D (va_A (YW y cy S0) s.heap.size) (YW y cy Sf) := by rw [← e2]; exact hD
        exact W.zret (v := 0) hx hb hr (nz01 (Or.inl rfl)).1 (fun t ht hW => ⟨⟨0, (), rfl, ⟨e1, by rw [← e1]; exact Or.inl rfl⟩, by rw [ht]; exact hP, va_K.moved hW.alike hK, hD⟩, hS.F ht⟩) hS.2.2 dX10_read_40
      · skip
        have hF := (if_neg c19).symm.trans hF
        refine lv_iconst (v := 1) hx hb dX10_read_35 (by decide) ?_
        refine lv_goto (tgt := 40) hx hb dX10_read_36 (by decide) ?_
        obtain ⟨e1, e2⟩ := ret2 hF
        have hP : va_P D vwCl (YW y cy Sf) H := by rw [← e2]; exact hP
        have hD : va_D (va_A (YW y cy S0) s.heap.size) (YW y cy Sf) := by rw [← e2]; exact hD
        exact W.zret (v := 1) hx hb hr (nz01 (Or.inr rfl)).1 (fun t ht hW => ⟨⟨1, (), rfl, ⟨e1, by rw [← e1]; exact Or.inr rfl⟩, by rw [ht]; exact hP, va_K.moved hW.alike hK, hD⟩, hS.F ht⟩) hS.2.2 dX10_read_40

theorem iX10_copy_10 : ∀ w ∈ wsX100, w ∈ wsX10_copy := fun _ h => List.mem_cons_of_mem _ (List.mem_append_right _ h)
set_option maxHeartbeats 8000000 in
set_option maxRecDepth 100000 in
theorem zX10_copy (l : Launch) (D : va_G) (y : Nat → Nat) (cy : Nat → ClassId) (S0 : RS) (sz : Nat) (p1 p2 p3 p4 : Int32) (rv : Int32) (Sf : RS) (hF : gX10_copy S0 p1 p2 p3 p4 = some (rv, Sf)) : Met l yX10_copy wsX10_copy ({ frames := 3, cells := 0, slots := 0, locals := 64 }) (PW D (TYS cy) (YW y cy S0) sz [.ref (y 0), .int p1, .int p2, .int p3, .int p4]) (va_Qi (fun (res : Int32) (u : Unit) => res = rv ∧ b01 rv) (BU D (TYS cy) (YW y cy S0) (fun _ => YW y cy Sf) sz) (va_A (YW y cy S0) sz)) 0 0 (va_A (YW y cy S0) sz) := by
  refine Met.ofW (cc := cX10_copy) (maxL := 5) (ret := (some .boolean)) (by decide) rfl ?_
  intro p e s m args below meth c s₁ B hml hv
  obtain ⟨rfl, hsz, hP, hK, hD0⟩ := hv
  have hx := B.exec
  have hb := B.bytes
  have hr := B.returns
  have hts := atoms_spec (ws := wsX10_copy) B.pre
  have hown : s.vm.findClass RX10 = some m.cls := findClass_of_methodNamed B.named
  have hlocks := B.notSynchronized
  subst hsz
  have hD := hD0.self (sz := s.heap.size)
  have hA : ∀ q9 : Nat, s.heap.size ≤ q9 → va_A (YW y cy S0) s.heap.size q9 := fun q9 h => Or.inr h
  have hS : va_S (va_A (YW y cy S0) s.heap.size) s.heap s.heap [] := va_S.rf
  have hl := lv_entry ([.ref (y 0), .int p1, .int p2, .int p3, .int p4]) (n := 5) (Nat.le_of_ble_eq_true rfl)
  rw [lg_entry_eq]
  generalize (lg_sl ([.ref (y 0), .int p1, .int p2, .int p3, .int p4]) ++ List.replicate (5 - (lg_sl ([.ref (y 0), .int p1, .int p2, .int p3, .int p4])).length) Slot.unset).toArray = ls at hl ⊢
  have hl : lv_has ls 5 [(0, .ref (y 0)), (1, .int p1), (2, .int p2), (3, .int p3), (4, .int p4)] := hl
  unfold gX10_copy at hF
  refine lv_aload_n hx hb dX10_copy_0 rfl (lv_at hl 0 rfl) ?_
  refine lv_iconst (v := 0) hx hb dX10_copy_1 (by decide) ?_
  refine va_put (D := D) (ci := 10) (v := .int 0) (ty := .int) (C := RX10) (T := TX10) (N := 58) hx hb hts iX10_copy_10 tyX10 tyX10_ok nmX10 hown hK hP hD hS 0 rfl rfl 0 (by decide) (hts (.fieldLink RX10 150 "FondsRoomModel" "thrown" "I") (List.mem_of_getElem? (i := 1) rfl)) (fun _ h9 => h9) rfl (by decide +kernel) rfl rfl (Nat.le_of_ble_eq_true rfl) dX10_copy_2 (fun H locs hP hD hS => ?_)
  obtain ⟨S1, eS1⟩ : ∃ z, z = wr S0 0 0 0 := ⟨_, rfl⟩
  replace hF := bnd_s hF S1 eS1
  have hP : va_P D vwCl (YW y cy S1) H := by rw [eS1]; exact hP
  have hD : va_D (va_A (YW y cy S0) s.heap.size) (YW y cy S1) := by rw [eS1]; exact hD
  refine lv_aload_n hx hb dX10_copy_5 rfl (lv_at hl 0 rfl) ?_
  refine lv_iload_n hx hb dX10_copy_6 rfl (lv_at hl 1 rfl) ?_
  obtain ⟨r2, hq5, hF⟩ := bd1_s hF
  refine gvI (As := [.int p1]) (rest := []) ⟨hx, hb, hml, hown, hts⟩ (zX10_canPlan l D y cy S1 _ p1 r2 hq5) (cwV 1 hts gX10_copy_X10_canPlan rfl rfl rfl (by decide +kernel) ⟨Nat.le_of_ble_eq_true rfl, Nat.le_of_ble_eq_true rfl⟩) hK hP hD hS hA (va_recv hK hP (ci := 10) (q0 := 0) rfl rfl) rfl hl.1 rfl (Nat.le_of_ble_eq_true rfl) dX10_copy_7 ⟨Nat.le_of_ble_eq_true rfl, Nat.le_of_ble_eq_true rfl⟩ (fun a6 u9 H locs hw4 hP hD hS => ?_)
  have hP : va_P D vwCl (YW y cy S1) H := hP
  have hD : va_D _ (YW y cy S1) := hD
  refine lv_tov (v' := .int r2) (congrArg Value.int hw4.1) ?_
  refine lv_if_eq (tgt := 48) hx hb dX10_copy_10 (by decide) (fun c7 => ?_) (fun c7 => ?_)
  · skip
    have hF := (if_pos c7).symm.trans hF
    refine lv_iconst (v := 0) hx hb dX10_copy_48 (by decide) ?_
    obtain ⟨e1, e2⟩ := ret2 hF
    have hP : va_P D vwCl (YW y cy Sf) H := by rw [← e2]; exact hP
    have hD : va_D (va_A (YW y cy S0) s.heap.size) (YW y cy Sf) := by rw [← e2]; exact hD
    exact W.zret (v := 0) hx hb hr (nz01 (Or.inl rfl)).1 (fun t ht hW => ⟨⟨0, (), rfl, ⟨e1, by rw [← e1]; exact Or.inl rfl⟩, by rw [ht]; exact hP, va_K.moved hW.alike hK, hD⟩, hS.F ht⟩) hS.2.2 dX10_copy_49
  · skip
    have hF := (if_neg c7).symm.trans hF
    refine lv_aload_n hx hb dX10_copy_13 rfl (lv_at hl 0 rfl) ?_
    refine lv_iload_n hx hb dX10_copy_14 rfl (lv_at hl 2 rfl) ?_
    obtain ⟨r8, hq11, hF⟩ := bd1_s hF
    refine gvI (As := [.int p2]) (rest := []) ⟨hx, hb, hml, hown, hts⟩ (zX10_isBox l D y cy S1 _ p2 r8 hq11) (cwV 1 hts gX10_copy_X10_isBox rfl rfl rfl (by decide +kernel) ⟨Nat.le_of_ble_eq_true rfl, Nat.le_of_ble_eq_true rfl⟩) hK hP hD hS hA (va_recv hK hP (ci := 10) (q0 := 0) rfl rfl) rfl hl.1 rfl (Nat.le_of_ble_eq_true rfl) dX10_copy_15 ⟨Nat.le_of_ble_eq_true rfl, Nat.le_of_ble_eq_true rfl⟩ (fun a12 u9 H locs hw10 hP hD hS => ?_)
    have hP : va_P D vwCl (YW y cy S1) H := hP
    have hD : va_D _ (YW y cy S1) := hD
    refine lv_tov (v' := .int r8) (congrArg Value.int hw10.1) ?_
    refine lv_if_eq (tgt := 48) hx hb dX10_copy_18 (by decide) (fun c13 => ?_) (fun c13 => ?_)
    · skip
      have hF := (if_pos c13).symm.trans hF
      refine lv_iconst (v := 0) hx hb dX10_copy_48 (by decide) ?_
      obtain ⟨e1, e2⟩ := ret2 hF
      have hP : va_P D vwCl (YW y cy Sf) H := by rw [← e2]; exact hP
      have hD : va_D (va_A (YW y cy S0) s.heap.size) (YW y cy Sf) := by rw [← e2]; exact hD
      exact W.zret (v := 0) hx hb hr (nz01 (Or.inl rfl)).1 (fun t ht hW => ⟨⟨0, (), rfl, ⟨e1, by rw [← e1]; exact Or.inl rfl⟩, by rw [ht]; exact hP, va_K.moved hW.alike hK, hD⟩, hS.F ht⟩) hS.2.2 dX10_copy_49
    · skip
      have hF := (if_neg c13).symm.trans hF
      refine lv_iload_n hx hb dX10_copy_21 rfl (lv_at hl 3 rfl) ?_
      refine lv_iconst (v := 1) hx hb dX10_copy_22 (by decide) ?_
      refine lv_bipush (v := 30) hx hb dX10_copy_23 (by decide) ?_
      obtain ⟨r14, hq17, hF⟩ := bd1_s hF
      refine gsI (As := [.int p3, .int 1, .int 30]) (rest := []) ⟨hx, hb, hml, hown, hts⟩ (zX10_in l D y cy S1 _ p3 1 30 r14 hq17) (va_cwS 3 hts gX10_copy_X10_in rfl rfl rfl (by decide +kernel) ⟨Nat.le_of_ble_eq_true rfl, Nat.le_of_ble_eq_true rfl⟩) hK hP hD hS hA rfl hl.1 rfl (Nat.le_of_ble_eq_true rfl) dX10_copy_25 ⟨Nat.le_of_ble_eq_true rfl, Nat.le_of_ble_eq_true rfl⟩ (fun a18 u9 H locs hw16 hP hD hS => ?_)
      have hP : va_P D vwCl (YW y cy S1) H := hP
      have hD : va_D _ (YW y cy S1) := hD
      refine lv_tov (v' := .int r14) (congrArg Value.int hw16.1) ?_
      refine lv_if_eq (tgt := 48) hx hb dX10_copy_28 (by decide) (fun c19 => ?_) (fun c19 => ?_)
      · skip
        have hF := (if_pos c19).symm.trans hF
        refine lv_iconst (v := 0) hx hb dX10_copy_48 (by decide) ?_
        obtain ⟨e1, e2⟩ := ret2 hF
        have hP : va_P D vwCl (YW y cy Sf) H := by rw [← e2]; exact hP
        have hD : va_D (va_A (YW y cy S0) s.heap.size) (YW y cy Sf) := by rw [← e2]; exact hD
        exact W.zret (v := 0) hx hb hr (nz01 (Or.inl rfl)).1 (fun t ht hW => ⟨⟨0, (), rfl, ⟨e1, by rw [← e1]; exact Or.inl rfl⟩, by rw [ht]; exact hP, va_K.moved hW.alike hK, hD⟩, hS.F ht⟩) hS.2.2 dX10_copy_49
      · skip
        have hF := (if_neg c19).symm.trans hF
        refine lv_aload_n hx hb dX10_copy_31 rfl (lv_at hl 0 rfl) ?_
        refine lv_iload_n hx hb dX10_copy_32 rfl (lv_at hl 1 rfl) ?_
        refine lv_iconst (v := 2) hx hb dX10_copy_33 (by decide) ?_
        refine lv_iload_n hx hb dX10_copy_34 rfl (lv_at hl 2 rfl) ?_
        refine lv_iload_n hx hb dX10_copy_35 rfl (lv_at hl 3 rfl) ?_
        refine lv_iload hx hb dX10_copy_36 (lv_at hl 4 rfl) ?_
        obtain ⟨r20, S21, hq23, hF⟩ := bd2_s hF
        refine gvI (As := [.int p1, .int 2, .int p2, .int p3, .int p4]) (rest := []) ⟨hx, hb, hml, hown, hts⟩ (zX10_plans l D y cy S1 _ p1 2 p2 p3 p4 r20 S21 hq23) (cwV 5 hts gX10_copy_X10_plans rfl rfl rfl (by decide +kernel) ⟨Nat.le_of_ble_eq_true rfl, Nat.le_of_ble_eq_true rfl⟩) hK hP hD hS hA (va_recv hK hP (ci := 10) (q0 := 0) rfl rfl) rfl hl.1 rfl (Nat.le_of_ble_eq_true rfl) dX10_copy_38 ⟨Nat.le_of_ble_eq_true rfl, Nat.le_of_ble_eq_true rfl⟩ (fun a24 u9 H locs hw22 hP hD hS => ?_)
        have hP : va_P D vwCl (YW y cy S21) H := hP
        have hD : va_D _ (YW y cy S21) := hD
        refine lv_tov (v' := .int r20) (congrArg Value.int hw22.1) ?_
        refine lv_if_eq (tgt := 48) hx hb dX10_copy_41 (by decide) (fun c25 => ?_) (fun c25 => ?_)
        · skip
          have hF := (if_pos c25).symm.trans hF
          refine lv_iconst (v := 0) hx hb dX10_copy_48 (by decide) ?_
          obtain ⟨e1, e2⟩ := ret2 hF
          have hP : va_P D vwCl (YW y cy Sf) H := by rw [← e2]; exact hP
          have hD : va_D (va_A (YW y cy S0) s.heap.size) (YW y cy Sf) := by rw [← e2]; exact hD
          exact W.zret (v := 0) hx hb hr (nz01 (Or.inl rfl)).1 (fun t ht hW => ⟨⟨0, (), rfl, ⟨e1, by rw [← e1]; exact Or.inl rfl⟩, by rw [ht]; exact hP, va_K.moved hW.alike hK, hD⟩, hS.F ht⟩) hS.2.2 dX10_copy_49
        · skip
          have hF := (if_neg c25).symm.trans hF
          refine lv_iconst (v := 1) hx hb dX10_copy_44 (by decide) ?_
          refine lv_goto (tgt := 49) hx hb dX10_copy_45 (by decide) ?_
          obtain ⟨e1, e2⟩ := ret2 hF
          have hP : va_P D vwCl (YW y cy Sf) H := by rw [← e2]; exact hP
          have hD : va_D (va_A (YW y cy S0) s.heap.size) (YW y cy Sf) := by rw [← e2]; exact hD
          exact W.zret (v := 1) hx hb hr (nz01 (Or.inr rfl)).1 (fun t ht hW => ⟨⟨1, (), rfl, ⟨e1, by rw [← e1]; exact Or.inr rfl⟩, by rw [ht]; exact hP, va_K.moved hW.alike hK, hD⟩, hS.F ht⟩) hS.2.2 dX10_copy_49

theorem iX10_back_10 : ∀ w ∈ wsX100, w ∈ wsX10_back := fun _ h => List.mem_cons_of_mem _ (List.mem_append_right _ h)
set_option maxHeartbeats 8000000 in
set_option maxRecDepth 100000 in
theorem zX10_back (l : Launch) (D : va_G) (y : Nat → Nat) (cy : Nat → ClassId) (S0 : RS) (sz : Nat) (p1 p2 : Int32) (rv : Int32) (Sf : RS) (hF : gX10_back S0 p1 p2 = some (rv, Sf)) : Met l yX10_back wsX10_back ({ frames := 3, cells := 0, slots := 0, locals := 64 }) (PW D (TYS cy) (YW y cy S0) sz [.ref (y 0), .int p1, .int p2]) (va_Qi (fun (res : Int32) (u : Unit) => res = rv ∧ b01 rv) (BU D (TYS cy) (YW y cy S0) (fun _ => YW y cy Sf) sz) (va_A (YW y cy S0) sz)) 0 0 (va_A (YW y cy S0) sz) := by
  refine Met.ofW (cc := cX10_back) (maxL := 3) (ret := (some .boolean)) (by decide) rfl ?_
  intro p e s m args below meth c s₁ B hml hv
  obtain ⟨rfl, hsz, hP, hK, hD0⟩ := hv
  have hx := B.exec
  have hb := B.bytes
  have hr := B.returns
  have hts := atoms_spec (ws := wsX10_back) B.pre
  have hown : s.vm.findClass RX10 = some m.cls := findClass_of_methodNamed B.named
  have hlocks := B.notSynchronized
  subst hsz
  have hD := hD0.self (sz := s.heap.size)
  have hA : ∀ q9 : Nat, s.heap.size ≤ q9 → va_A (YW y cy S0) s.heap.size q9 := fun q9 h => Or.inr h
  have hS : va_S (va_A (YW y cy S0) s.heap.size) s.heap s.heap [] := va_S.rf
  have hl := lv_entry ([.ref (y 0), .int p1, .int p2]) (n := 3) (Nat.le_of_ble_eq_true rfl)
  rw [lg_entry_eq]
  generalize (lg_sl ([.ref (y 0), .int p1, .int p2]) ++ List.replicate (3 - (lg_sl ([.ref (y 0), .int p1, .int p2])).length) Slot.unset).toArray = ls at hl ⊢
  have hl : lv_has ls 3 [(0, .ref (y 0)), (1, .int p1), (2, .int p2)] := hl
  unfold gX10_back at hF
  refine lv_aload_n hx hb dX10_back_0 rfl (lv_at hl 0 rfl) ?_
  refine lv_iconst (v := 0) hx hb dX10_back_1 (by decide) ?_
  refine va_put (D := D) (ci := 10) (v := .int 0) (ty := .int) (C := RX10) (T := TX10) (N := 58) hx hb hts iX10_back_10 tyX10 tyX10_ok nmX10 hown hK hP hD hS 0 rfl rfl 0 (by decide) (hts (.fieldLink RX10 150 "FondsRoomModel" "thrown" "I") (List.mem_of_getElem? (i := 1) rfl)) (fun _ h9 => h9) rfl (by decide +kernel) rfl rfl (Nat.le_of_ble_eq_true rfl) dX10_back_2 (fun H locs hP hD hS => ?_)
  obtain ⟨S1, eS1⟩ : ∃ z, z = wr S0 0 0 0 := ⟨_, rfl⟩
  replace hF := bnd_s hF S1 eS1
  have hP : va_P D vwCl (YW y cy S1) H := by rw [eS1]; exact hP
  have hD : va_D (va_A (YW y cy S0) s.heap.size) (YW y cy S1) := by rw [eS1]; exact hD
  refine lv_aload_n hx hb dX10_back_5 rfl (lv_at hl 0 rfl) ?_
  refine lv_iload_n hx hb dX10_back_6 rfl (lv_at hl 1 rfl) ?_
  obtain ⟨r2, hq5, hF⟩ := bd1_s hF
  refine gvI (As := [.int p1]) (rest := []) ⟨hx, hb, hml, hown, hts⟩ (zX10_canPlan l D y cy S1 _ p1 r2 hq5) (cwV 1 hts gX10_back_X10_canPlan rfl rfl rfl (by decide +kernel) ⟨Nat.le_of_ble_eq_true rfl, Nat.le_of_ble_eq_true rfl⟩) hK hP hD hS hA (va_recv hK hP (ci := 10) (q0 := 0) rfl rfl) rfl hl.1 rfl (Nat.le_of_ble_eq_true rfl) dX10_back_7 ⟨Nat.le_of_ble_eq_true rfl, Nat.le_of_ble_eq_true rfl⟩ (fun a6 u9 H locs hw4 hP hD hS => ?_)
  have hP : va_P D vwCl (YW y cy S1) H := hP
  have hD : va_D _ (YW y cy S1) := hD
  refine lv_tov (v' := .int r2) (congrArg Value.int hw4.1) ?_
  refine lv_if_eq (tgt := 37) hx hb dX10_back_10 (by decide) (fun c7 => ?_) (fun c7 => ?_)
  · skip
    have hF := (if_pos c7).symm.trans hF
    refine lv_iconst (v := 0) hx hb dX10_back_37 (by decide) ?_
    obtain ⟨e1, e2⟩ := ret2 hF
    have hP : va_P D vwCl (YW y cy Sf) H := by rw [← e2]; exact hP
    have hD : va_D (va_A (YW y cy S0) s.heap.size) (YW y cy Sf) := by rw [← e2]; exact hD
    exact W.zret (v := 0) hx hb hr (nz01 (Or.inl rfl)).1 (fun t ht hW => ⟨⟨0, (), rfl, ⟨e1, by rw [← e1]; exact Or.inl rfl⟩, by rw [ht]; exact hP, va_K.moved hW.alike hK, hD⟩, hS.F ht⟩) hS.2.2 dX10_back_38
  · skip
    have hF := (if_neg c7).symm.trans hF
    refine lv_aload_n hx hb dX10_back_13 rfl (lv_at hl 0 rfl) ?_
    refine lv_iload_n hx hb dX10_back_14 rfl (lv_at hl 2 rfl) ?_
    obtain ⟨r8, hq11, hF⟩ := bd1_s hF
    refine gvI (As := [.int p2]) (rest := []) ⟨hx, hb, hml, hown, hts⟩ (zX10_isBox l D y cy S1 _ p2 r8 hq11) (cwV 1 hts gX10_back_X10_isBox rfl rfl rfl (by decide +kernel) ⟨Nat.le_of_ble_eq_true rfl, Nat.le_of_ble_eq_true rfl⟩) hK hP hD hS hA (va_recv hK hP (ci := 10) (q0 := 0) rfl rfl) rfl hl.1 rfl (Nat.le_of_ble_eq_true rfl) dX10_back_15 ⟨Nat.le_of_ble_eq_true rfl, Nat.le_of_ble_eq_true rfl⟩ (fun a12 u9 H locs hw10 hP hD hS => ?_)
    have hP : va_P D vwCl (YW y cy S1) H := hP
    have hD : va_D _ (YW y cy S1) := hD
    refine lv_tov (v' := .int r8) (congrArg Value.int hw10.1) ?_
    refine lv_if_eq (tgt := 37) hx hb dX10_back_18 (by decide) (fun c13 => ?_) (fun c13 => ?_)
    · skip
      have hF := (if_pos c13).symm.trans hF
      refine lv_iconst (v := 0) hx hb dX10_back_37 (by decide) ?_
      obtain ⟨e1, e2⟩ := ret2 hF
      have hP : va_P D vwCl (YW y cy Sf) H := by rw [← e2]; exact hP
      have hD : va_D (va_A (YW y cy S0) s.heap.size) (YW y cy Sf) := by rw [← e2]; exact hD
      exact W.zret (v := 0) hx hb hr (nz01 (Or.inl rfl)).1 (fun t ht hW => ⟨⟨0, (), rfl, ⟨e1, by rw [← e1]; exact Or.inl rfl⟩, by rw [ht]; exact hP, va_K.moved hW.alike hK, hD⟩, hS.F ht⟩) hS.2.2 dX10_back_38
    · skip
      have hF := (if_neg c13).symm.trans hF
      refine lv_aload_n hx hb dX10_back_21 rfl (lv_at hl 0 rfl) ?_
      refine lv_iload_n hx hb dX10_back_22 rfl (lv_at hl 1 rfl) ?_
      refine lv_iconst (v := 3) hx hb dX10_back_23 (by decide) ?_
      refine lv_iload_n hx hb dX10_back_24 rfl (lv_at hl 2 rfl) ?_
      refine lv_iconst (v := 0) hx hb dX10_back_25 (by decide) ?_
      refine lv_iconst (v := 0) hx hb dX10_back_26 (by decide) ?_
      obtain ⟨r14, S15, hq17, hF⟩ := bd2_s hF
      refine gvI (As := [.int p1, .int 3, .int p2, .int 0, .int 0]) (rest := []) ⟨hx, hb, hml, hown, hts⟩ (zX10_plans l D y cy S1 _ p1 3 p2 0 0 r14 S15 hq17) (cwV 5 hts gX10_back_X10_plans rfl rfl rfl (by decide +kernel) ⟨Nat.le_of_ble_eq_true rfl, Nat.le_of_ble_eq_true rfl⟩) hK hP hD hS hA (va_recv hK hP (ci := 10) (q0 := 0) rfl rfl) rfl hl.1 rfl (Nat.le_of_ble_eq_true rfl) dX10_back_27 ⟨Nat.le_of_ble_eq_true rfl, Nat.le_of_ble_eq_true rfl⟩ (fun a18 u9 H locs hw16 hP hD hS => ?_)
      have hP : va_P D vwCl (YW y cy S15) H := hP
      have hD : va_D _ (YW y cy S15) := hD
      refine lv_tov (v' := .int r14) (congrArg Value.int hw16.1) ?_
      refine lv_if_eq (tgt := 37) hx hb dX10_back_30 (by decide) (fun c19 => ?_) (fun c19 => ?_)
      · skip
        have hF := (if_pos c19).symm.trans hF
        refine lv_iconst (v := 0) hx hb dX10_back_37 (by decide) ?_
        obtain ⟨e1, e2⟩ := ret2 hF
        have hP : va_P D vwCl (YW y cy Sf) H := by rw [← e2]; exact hP
        have hD : va_D (va_A (YW y cy S0) s.heap.size) (YW y cy Sf) := by rw [← e2]; exact hD
        exact W.zret (v := 0) hx hb hr (nz01 (Or.inl rfl)).1 (fun t ht hW => ⟨⟨0, (), rfl, ⟨e1, by rw [← e1]; exact Or.inl rfl⟩, by rw [ht]; exact hP, va_K.moved hW.alike hK, hD⟩, hS.F ht⟩) hS.2.2 dX10_back_38
      · skip
        have hF := (if_neg c19).symm.trans hF
        refine lv_iconst (v := 1) hx hb dX10_back_33 (by decide) ?_
        refine lv_goto (tgt := 38) hx hb dX10_back_34 (by decide) ?_
        obtain ⟨e1, e2⟩ := ret2 hF
        have hP : va_P D vwCl (YW y cy Sf) H := by rw [← e2]; exact hP
        have hD : va_D (va_A (YW y cy S0) s.heap.size) (YW y cy Sf) := by rw [← e2]; exact hD
        exact W.zret (v := 1) hx hb hr (nz01 (Or.inr rfl)).1 (fun t ht hW => ⟨⟨1, (), rfl, ⟨e1, by rw [← e1]; exact Or.inr rfl⟩, by rw [ht]; exact hP, va_K.moved hW.alike hK, hD⟩, hS.F ht⟩) hS.2.2 dX10_back_38

theorem iX10_bell_10 : ∀ w ∈ wsX100, w ∈ wsX10_bell := fun _ h => List.mem_cons_of_mem _ (List.mem_append_right _ h)
set_option maxHeartbeats 8000000 in
set_option maxRecDepth 100000 in
theorem zX10_bell (l : Launch) (D : va_G) (y : Nat → Nat) (cy : Nat → ClassId) (S0 : RS) (sz : Nat) (p1 : Int32) (rv : Int32) (Sf : RS) (hF : gX10_bell S0 p1 = some (rv, Sf)) : Met l yX10_bell wsX10_bell ({ frames := 0, cells := 0, slots := 0, locals := 0 }) (PW D (TYS cy) (YW y cy S0) sz [.ref (y 0), .int p1]) (va_Qi (fun (res : Int32) (u : Unit) => res = rv ∧ b01 rv) (BU D (TYS cy) (YW y cy S0) (fun _ => YW y cy Sf) sz) (va_A (YW y cy S0) sz)) 0 0 (va_A (YW y cy S0) sz) := by
  refine Met.ofW (cc := cX10_bell) (maxL := 2) (ret := (some .boolean)) (by decide) rfl ?_
  intro p e s m args below meth c s₁ B hml hv
  obtain ⟨rfl, hsz, hP, hK, hD0⟩ := hv
  have hx := B.exec
  have hb := B.bytes
  have hr := B.returns
  have hts := atoms_spec (ws := wsX10_bell) B.pre
  have hown : s.vm.findClass RX10 = some m.cls := findClass_of_methodNamed B.named
  have hlocks := B.notSynchronized
  subst hsz
  have hD := hD0.self (sz := s.heap.size)
  have hA : ∀ q9 : Nat, s.heap.size ≤ q9 → va_A (YW y cy S0) s.heap.size q9 := fun q9 h => Or.inr h
  have hS : va_S (va_A (YW y cy S0) s.heap.size) s.heap s.heap [] := va_S.rf
  have hl := lv_entry ([.ref (y 0), .int p1]) (n := 2) (Nat.le_of_ble_eq_true rfl)
  rw [lg_entry_eq]
  generalize (lg_sl ([.ref (y 0), .int p1]) ++ List.replicate (2 - (lg_sl ([.ref (y 0), .int p1])).length) Slot.unset).toArray = ls at hl ⊢
  have hl : lv_has ls 2 [(0, .ref (y 0)), (1, .int p1)] := hl
  unfold gX10_bell at hF
  refine lv_aload_n hx hb dX10_bell_0 rfl (lv_at hl 0 rfl) ?_
  refine lv_iconst (v := 0) hx hb dX10_bell_1 (by decide) ?_
  refine va_put (D := D) (ci := 10) (v := .int 0) (ty := .int) (C := RX10) (T := TX10) (N := 58) hx hb hts iX10_bell_10 tyX10 tyX10_ok nmX10 hown hK hP hD hS 0 rfl rfl 0 (by decide) (hts (.fieldLink RX10 150 "FondsRoomModel" "thrown" "I") (List.mem_of_getElem? (i := 1) rfl)) (fun _ h9 => h9) rfl (by decide +kernel) rfl rfl (Nat.le_of_ble_eq_true rfl) dX10_bell_2 (fun H locs hP hD hS => ?_)
  obtain ⟨S1, eS1⟩ : ∃ z, z = wr S0 0 0 0 := ⟨_, rfl⟩
  replace hF := bnd_s hF S1 eS1
  have hP : va_P D vwCl (YW y cy S1) H := by rw [eS1]; exact hP
  have hD : va_D (va_A (YW y cy S0) s.heap.size) (YW y cy S1) := by rw [eS1]; exact hD
  refine lv_aload_n hx hb dX10_bell_5 rfl (lv_at hl 0 rfl) ?_
  refine va_get (D := D) (ci := 10) (v := .int (S1 0 5)) (C := RX10) (T := TX10) (N := 58) hx hb hts iX10_bell_10 hown hK hP 0 rfl rfl 5 (by decide) (hts (.fieldLink RX10 9 "FondsRoomModel" "bellTurn" "I") (List.mem_of_getElem? (i := 2) rfl)) (fun _ h9 => h9) rfl dX10_bell_6 ?_
  refine lv_iconst (v := (-1)) hx hb dX10_bell_9 (by decide) ?_
  refine lv_icmp_ne (tgt := 21) hx hb dX10_bell_10 (by decide) (fun c2 => ?_) (fun c2 => ?_)
  · skip
    have hF := (if_neg c2).symm.trans hF
    refine lv_iconst (v := 0) hx hb dX10_bell_21 (by decide) ?_
    obtain ⟨e1, e2⟩ := ret2 hF
    have hP : va_P D vwCl (YW y cy Sf) H := by rw [← e2]; exact hP
    have hD : va_D (va_A (YW y cy S0) s.heap.size) (YW y cy Sf) := by rw [← e2]; exact hD
    exact W.zret (v := 0) hx hb hr (nz01 (Or.inl rfl)).1 (fun t ht hW => ⟨⟨0, (), rfl, ⟨e1, by rw [← e1]; exact Or.inl rfl⟩, by rw [ht]; exact hP, va_K.moved hW.alike hK, hD⟩, hS.F ht⟩) hS.2.2 dX10_bell_22
  · skip
    have hF := (if_pos c2).symm.trans hF
    refine lv_iload_n hx hb dX10_bell_13 rfl (lv_at hl 1 rfl) ?_
    refine lv_aload_n hx hb dX10_bell_14 rfl (lv_at hl 0 rfl) ?_
    refine va_get (D := D) (ci := 10) (v := .int (S1 0 4)) (C := RX10) (T := TX10) (N := 58) hx hb hts iX10_bell_10 hown hK hP 0 rfl rfl 4 (by decide) (hts (.fieldLink RX10 163 "FondsRoomModel" "turn" "I") (List.mem_of_getElem? (i := 3) rfl)) (fun _ h9 => h9) rfl dX10_bell_15 ?_
    refine lv_icmp_gt (tgt := 23) hx hb dX10_bell_18 (by decide) (fun c3 => ?_) (fun c3 => ?_)
    · skip
      have hF := (if_pos c3).symm.trans hF
      refine lv_aload_n hx hb dX10_bell_23 rfl (lv_at hl 0 rfl) ?_
      refine lv_iload_n hx hb dX10_bell_24 rfl (lv_at hl 1 rfl) ?_
      refine va_put (D := D) (ci := 10) (v := .int p1) (ty := .int) (C := RX10) (T := TX10) (N := 58) hx hb hts iX10_bell_10 tyX10 tyX10_ok nmX10 hown hK hP hD hS 0 rfl rfl 5 (by decide) (hts (.fieldLink RX10 9 "FondsRoomModel" "bellTurn" "I") (List.mem_of_getElem? (i := 2) rfl)) (fun _ h9 => h9) rfl (by decide +kernel) rfl rfl (Nat.le_of_ble_eq_true rfl) dX10_bell_25 (fun H locs hP hD hS => ?_)
      obtain ⟨S4, eS4⟩ : ∃ z, z = wr S1 0 5 p1 := ⟨_, rfl⟩
      replace hF := bnd_s hF S4 eS4
      have hP : va_P D vwCl (YW y cy S4) H := by rw [eS4]; exact hP
      have hD : va_D (va_A (YW y cy S0) s.heap.size) (YW y cy S4) := by rw [eS4]; exact hD
      refine lv_iconst (v := 1) hx hb dX10_bell_28 (by decide) ?_
      obtain ⟨e1, e2⟩ := ret2 hF
      have hP : va_P D vwCl (YW y cy Sf) H := by rw [← e2]; exact hP
      have hD : va_D (va_A (YW y cy S0) s.heap.size) (YW y cy Sf) := by rw [← e2]; exact hD
      exact W.zret (v := 1) hx hb hr (nz01 (Or.inr rfl)).1 (fun t ht hW => ⟨⟨1, (), rfl, ⟨e1, by rw [← e1]; exact Or.inr rfl⟩, by rw [ht]; exact hP, va_K.moved hW.alike hK, hD⟩, hS.F ht⟩) hS.2.2 dX10_bell_29
    · skip
      have hF := (if_neg c3).symm.trans hF
      refine lv_iconst (v := 0) hx hb dX10_bell_21 (by decide) ?_
      obtain ⟨e1, e2⟩ := ret2 hF
      have hP : va_P D vwCl (YW y cy Sf) H := by rw [← e2]; exact hP
      have hD : va_D (va_A (YW y cy S0) s.heap.size) (YW y cy Sf) := by rw [← e2]; exact hD
      exact W.zret (v := 0) hx hb hr (nz01 (Or.inl rfl)).1 (fun t ht hW => ⟨⟨0, (), rfl, ⟨e1, by rw [← e1]; exact Or.inl rfl⟩, by rw [ht]; exact hP, va_K.moved hW.alike hK, hD⟩, hS.F ht⟩) hS.2.2 dX10_bell_22

theorem iX10_mishap_10 : ∀ w ∈ wsX100, w ∈ wsX10_mishap := fun _ h => List.mem_cons_of_mem _ (List.mem_append_right _ h)
set_option maxHeartbeats 8000000 in
set_option maxRecDepth 100000 in
theorem zX10_mishap (l : Launch) (D : va_G) (y : Nat → Nat) (cy : Nat → ClassId) (S0 : RS) (sz : Nat) (p1 p2 p3 : Int32) (rv : Int32) (Sf : RS) (hF : gX10_mishap S0 p1 p2 p3 = some (rv, Sf)) : Met l yX10_mishap wsX10_mishap ({ frames := 1, cells := 0, slots := 0, locals := 22 }) (PW D (TYS cy) (YW y cy S0) sz [.ref (y 0), .int p1, .int p2, .int p3]) (va_Qi (fun (res : Int32) (u : Unit) => res = rv ∧ b01 rv) (BU D (TYS cy) (YW y cy S0) (fun _ => YW y cy Sf) sz) (va_A (YW y cy S0) sz)) 0 0 (va_A (YW y cy S0) sz) := by
  refine Met.ofW (cc := cX10_mishap) (maxL := 5) (ret := (some .boolean)) (by decide) rfl ?_
  intro p e s m args below meth c s₁ B hml hv
  obtain ⟨rfl, hsz, hP, hK, hD0⟩ := hv
  have hx := B.exec
  have hb := B.bytes
  have hr := B.returns
  have hts := atoms_spec (ws := wsX10_mishap) B.pre
  have hown : s.vm.findClass RX10 = some m.cls := findClass_of_methodNamed B.named
  have hlocks := B.notSynchronized
  subst hsz
  have hD := hD0.self (sz := s.heap.size)
  have hA : ∀ q9 : Nat, s.heap.size ≤ q9 → va_A (YW y cy S0) s.heap.size q9 := fun q9 h => Or.inr h
  have hS : va_S (va_A (YW y cy S0) s.heap.size) s.heap s.heap [] := va_S.rf
  have hl := lv_entry ([.ref (y 0), .int p1, .int p2, .int p3]) (n := 5) (Nat.le_of_ble_eq_true rfl)
  rw [lg_entry_eq]
  generalize (lg_sl ([.ref (y 0), .int p1, .int p2, .int p3]) ++ List.replicate (5 - (lg_sl ([.ref (y 0), .int p1, .int p2, .int p3])).length) Slot.unset).toArray = ls at hl ⊢
  have hl : lv_has ls 5 [(0, .ref (y 0)), (1, .int p1), (2, .int p2), (3, .int p3)] := hl
  unfold gX10_mishap at hF
  refine lv_aload_n hx hb dX10_mishap_0 rfl (lv_at hl 0 rfl) ?_
  refine lv_iconst (v := 0) hx hb dX10_mishap_1 (by decide) ?_
  refine va_put (D := D) (ci := 10) (v := .int 0) (ty := .int) (C := RX10) (T := TX10) (N := 58) hx hb hts iX10_mishap_10 tyX10 tyX10_ok nmX10 hown hK hP hD hS 0 rfl rfl 0 (by decide) (hts (.fieldLink RX10 150 "FondsRoomModel" "thrown" "I") (List.mem_of_getElem? (i := 1) rfl)) (fun _ h9 => h9) rfl (by decide +kernel) rfl rfl (Nat.le_of_ble_eq_true rfl) dX10_mishap_2 (fun H locs hP hD hS => ?_)
  obtain ⟨S1, eS1⟩ : ∃ z, z = wr S0 0 0 0 := ⟨_, rfl⟩
  replace hF := bnd_s hF S1 eS1
  have hP : va_P D vwCl (YW y cy S1) H := by rw [eS1]; exact hP
  have hD : va_D (va_A (YW y cy S0) s.heap.size) (YW y cy S1) := by rw [eS1]; exact hD
  refine lv_iload_n hx hb dX10_mishap_5 rfl (lv_at hl 2 rfl) ?_
  refine lv_if_ne (tgt := 16) hx hb dX10_mishap_6 (by decide) (fun c2 => ?_) (fun c2 => ?_)
  · skip
    have hF := (if_neg c2).symm.trans hF
    refine lv_iload_n hx hb dX10_mishap_16 rfl (lv_at hl 2 rfl) ?_
    refine lv_iconst (v := 1) hx hb dX10_mishap_17 (by decide) ?_
    refine lv_icmp_ne (tgt := 28) hx hb dX10_mishap_18 (by decide) (fun c3 => ?_) (fun c3 => ?_)
    · skip
      have hF := (if_neg c3).symm.trans hF
      refine lv_iload_n hx hb dX10_mishap_28 rfl (lv_at hl 2 rfl) ?_
      refine lv_iconst (v := 2) hx hb dX10_mishap_29 (by decide) ?_
      refine lv_icmp_ne (tgt := 40) hx hb dX10_mishap_30 (by decide) (fun c4 => ?_) (fun c4 => ?_)
      · skip
        have hF := (if_neg c4).symm.trans hF
        refine lv_iconst (v := 0) hx hb dX10_mishap_40 (by decide) ?_
        refine lv_istore (lv' := [(4, .int 0), (0, .ref (y 0)), (1, .int p1), (2, .int p2), (3, .int p3)]) hx hb dX10_mishap_41 hl (by decide) rfl (fun ls hl => ?_)
        refine lv_iload_n hx hb dX10_mishap_43 rfl (lv_at hl 2 rfl) ?_
        refine lv_aload_n hx hb dX10_mishap_44 rfl (lv_at hl 1 rfl) ?_
        refine va_get (D := D) (ci := 10) (v := .int (S1 0 4)) (C := RX10) (T := TX10) (N := 58) hx hb hts iX10_mishap_10 hown hK hP 0 rfl rfl 4 (by decide) (hts (.fieldLink RX10 163 "FondsRoomModel" "turn" "I") (List.mem_of_getElem? (i := 5) rfl)) (fun _ h9 => h9) rfl dX10_mishap_45 ?_
        refine lv_icmp_le (tgt := 72) hx hb dX10_mishap_48 (by decide) (fun c5 => ?_) (fun c5 => ?_)
        · skip
          have hF := (if_pos c5).symm.trans hF
          refine lv_iconst (v := 0) hx hb dX10_mishap_72 (by decide) ?_
          obtain ⟨e1, e2⟩ := ret2 hF
          have hP : va_P D vwCl (YW y cy Sf) H := by rw [← e2]; exact hP
          have hD : va_D (va_A (YW y cy S0) s.heap.size) (YW y cy Sf) := by rw [← e2]; exact hD
          exact W.zret (v := 0) hx hb hr (nz01 (Or.inl rfl)).1 (fun t ht hW => ⟨⟨0, (), rfl, ⟨e1, by rw [← e1]; exact Or.inl rfl⟩, by rw [ht]; exact hP, va_K.moved hW.alike hK, hD⟩, hS.F ht⟩) hS.2.2 dX10_mishap_73
        · skip
          have hF := (if_neg c5).symm.trans hF
          refine lv_iload_n hx hb dX10_mishap_51 rfl (lv_at hl 4 rfl) ?_
          refine lv_iconst (v := 0) hx hb dX10_mishap_52 (by decide) ?_
          refine lv_iload hx hb dX10_mishap_53 (lv_at hl 0 rfl) ?_
          refine lv_iconst (v := 1) hx hb dX10_mishap_55 (by decide) ?_
          refine lv_isub hx hb dX10_mishap_56 ?_
          refine lv_topi (fun y6 ey6 => ?_)
          obtain rfl : y6 = (-1) := ey6.trans (by decide)
          obtain ⟨r7, hq10, hF⟩ := bd1_s hF
          refine gsI (As := [.int p3, .int 0, .int (-1)]) (rest := []) ⟨hx, hb, hml, hown, hts⟩ (zX10_in l D y cy S1 _ p3 0 (-1) r7 hq10) (va_cwS 3 hts gX10_mishap_X10_in rfl rfl rfl (by decide +kernel) ⟨Nat.le_of_ble_eq_true rfl, Nat.le_of_ble_eq_true rfl⟩) hK hP hD hS hA rfl hl.1 rfl (Nat.le_of_ble_eq_true rfl) dX10_mishap_57 ⟨Nat.le_of_ble_eq_true rfl, Nat.le_of_ble_eq_true rfl⟩ (fun a11 u9 H locs hw9 hP hD hS => ?_)
          have hP : va_P D vwCl (YW y cy S1) H := hP
          have hD : va_D _ (YW y cy S1) := hD
          refine lv_tov (v' := .int r7) (congrArg Value.int hw9.1) ?_
          refine lv_if_eq (tgt := 72) hx hb dX10_mishap_60 (by decide) (fun c12 => ?_) (fun c12 => ?_)
          · skip
            have hF := (if_pos c12).symm.trans hF
            refine lv_iconst (v := 0) hx hb dX10_mishap_72 (by decide) ?_
            obtain ⟨e1, e2⟩ := ret2 hF
            have hP : va_P D vwCl (YW y cy Sf) H := by rw [← e2]; exact hP
            have hD : va_D (va_A (YW y cy S0) s.heap.size) (YW y cy Sf) := by rw [← e2]; exact hD
            exact W.zret (v := 0) hx hb hr (nz01 (Or.inl rfl)).1 (fun t ht hW => ⟨⟨0, (), rfl, ⟨e1, by rw [← e1]; exact Or.inl rfl⟩, by rw [ht]; exact hP, va_K.moved hW.alike hK, hD⟩, hS.F ht⟩) hS.2.2 dX10_mishap_73
          · skip
            have hF := (if_neg c12).symm.trans hF
            refine lv_aload_n hx hb dX10_mishap_63 rfl (lv_at hl 1 rfl) ?_
            refine va_get (D := D) (ci := 10) (v := .int (S1 0 52)) (C := RX10) (T := TX10) (N := 58) hx hb hts iX10_mishap_10 hown hK hP 0 rfl rfl 52 (by decide) (hts (.fieldLink RX10 183 "FondsRoomModel" "mishaps" "I") (List.mem_of_getElem? (i := 6) rfl)) (fun _ h9 => h9) rfl dX10_mishap_64 ?_
            refine lv_bipush (v := 30) hx hb dX10_mishap_67 (by decide) ?_
            refine lv_icmp_ne (tgt := 74) hx hb dX10_mishap_69 (by decide) (fun c13 => ?_) (fun c13 => ?_)
            · skip
              have hF := (if_neg c13).symm.trans hF
              refine lv_aload_n hx hb dX10_mishap_74 rfl (lv_at hl 1 rfl) ?_
              refine va_get (D := D) (ci := 10) (v := .ref (y 39)) (C := RX10) (T := TX10) (N := 58) hx hb hts iX10_mishap_10 hown hK hP 0 rfl rfl 53 (by decide) (hts (.fieldLink RX10 138 "FondsRoomModel" "mTurn" "[I") (List.mem_of_getElem? (i := 7) rfl)) (fun _ h9 => h9) rfl dX10_mishap_75 ?_
              refine lv_aload_n hx hb dX10_mishap_78 rfl (lv_at hl 1 rfl) ?_
              refine va_get (D := D) (ci := 10) (v := .int (S1 0 52)) (C := RX10) (T := TX10) (N := 58) hx hb hts iX10_mishap_10 hown hK hP 0 rfl rfl 52 (by decide) (hts (.fieldLink RX10 183 "FondsRoomModel" "mishaps" "I") (List.mem_of_getElem? (i := 6) rfl)) (fun _ h9 => h9) rfl dX10_mishap_79 ?_
              refine lv_iload_n hx hb dX10_mishap_82 rfl (lv_at hl 2 rfl) ?_
              obtain ⟨hi14, hF⟩ := sv_s hF
              refine va_iast hx hb hK hP hD hS 39 0 rfl rfl hi14 dX10_mishap_83 (fun H locs hP hD hS => ?_)
              obtain ⟨S15, eS15⟩ : ∃ z, z = wr S1 39 ((S1 0 52) : Int32).toNatClampNeg p1 := ⟨_, rfl⟩
              replace hF := hF S15 eS15
              have hP : va_P D vwCl (YW y cy S15) H := by rw [eS15]; exact hP
              have hD : va_D (va_A (YW y cy S0) s.heap.size) (YW y cy S15) := by rw [eS15]; exact hD
              refine lv_aload_n hx hb dX10_mishap_84 rfl (lv_at hl 1 rfl) ?_
              refine va_get (D := D) (ci := 10) (v := .ref (y 40)) (C := RX10) (T := TX10) (N := 58) hx hb hts iX10_mishap_10 hown hK hP 0 rfl rfl 54 (by decide) (hts (.fieldLink RX10 141 "FondsRoomModel" "mKind" "[I") (List.mem_of_getElem? (i := 8) rfl)) (fun _ h9 => h9) rfl dX10_mishap_85 ?_
              refine lv_aload_n hx hb dX10_mishap_88 rfl (lv_at hl 1 rfl) ?_
              refine va_get (D := D) (ci := 10) (v := .int (S15 0 52)) (C := RX10) (T := TX10) (N := 58) hx hb hts iX10_mishap_10 hown hK hP 0 rfl rfl 52 (by decide) (hts (.fieldLink RX10 183 "FondsRoomModel" "mishaps" "I") (List.mem_of_getElem? (i := 6) rfl)) (fun _ h9 => h9) rfl dX10_mishap_89 ?_
              refine lv_iload_n hx hb dX10_mishap_92 rfl (lv_at hl 3 rfl) ?_
              obtain ⟨hi16, hF⟩ := sv_s hF
              refine va_iast hx hb hK hP hD hS 40 0 rfl rfl hi16 dX10_mishap_93 (fun H locs hP hD hS => ?_)
              obtain ⟨S17, eS17⟩ : ∃ z, z = wr S15 40 ((S15 0 52) : Int32).toNatClampNeg p2 := ⟨_, rfl⟩
              replace hF := hF S17 eS17
              have hP : va_P D vwCl (YW y cy S17) H := by rw [eS17]; exact hP
              have hD : va_D (va_A (YW y cy S0) s.heap.size) (YW y cy S17) := by rw [eS17]; exact hD
              refine lv_aload_n hx hb dX10_mishap_94 rfl (lv_at hl 1 rfl) ?_
              refine va_get (D := D) (ci := 10) (v := .ref (y 41)) (C := RX10) (T := TX10) (N := 58) hx hb hts iX10_mishap_10 hown hK hP 0 rfl rfl 55 (by decide) (hts (.fieldLink RX10 144 "FondsRoomModel" "mWho" "[I") (List.mem_of_getElem? (i := 9) rfl)) (fun _ h9 => h9) rfl dX10_mishap_95 ?_
              refine lv_aload_n hx hb dX10_mishap_98 rfl (lv_at hl 1 rfl) ?_
              refine va_get (D := D) (ci := 10) (v := .int (S17 0 52)) (C := RX10) (T := TX10) (N := 58) hx hb hts iX10_mishap_10 hown hK hP 0 rfl rfl 52 (by decide) (hts (.fieldLink RX10 183 "FondsRoomModel" "mishaps" "I") (List.mem_of_getElem? (i := 6) rfl)) (fun _ h9 => h9) rfl dX10_mishap_99 ?_
              refine lv_iload_n hx hb dX10_mishap_102 rfl (lv_at hl 4 rfl) ?_
              obtain ⟨hi18, hF⟩ := sv_s hF
              refine va_iast hx hb hK hP hD hS 41 0 rfl rfl hi18 dX10_mishap_103 (fun H locs hP hD hS => ?_)
              obtain ⟨S19, eS19⟩ : ∃ z, z = wr S17 41 ((S17 0 52) : Int32).toNatClampNeg p3 := ⟨_, rfl⟩
              replace hF := hF S19 eS19
              have hP : va_P D vwCl (YW y cy S19) H := by rw [eS19]; exact hP
              have hD : va_D (va_A (YW y cy S0) s.heap.size) (YW y cy S19) := by rw [eS19]; exact hD
              refine lv_aload_n hx hb dX10_mishap_104 rfl (lv_at hl 1 rfl) ?_
              refine lv_dup hx hb dX10_mishap_105 rfl ?_
              refine va_get (D := D) (ci := 10) (v := .int (S19 0 52)) (C := RX10) (T := TX10) (N := 58) hx hb hts iX10_mishap_10 hown hK hP 0 rfl rfl 52 (by decide) (hts (.fieldLink RX10 183 "FondsRoomModel" "mishaps" "I") (List.mem_of_getElem? (i := 6) rfl)) (fun _ h9 => h9) rfl dX10_mishap_106 ?_
              refine lv_iconst (v := 1) hx hb dX10_mishap_109 (by decide) ?_
              refine lv_iadd hx hb dX10_mishap_110 ?_
              refine va_put (D := D) (ci := 10) (v := .int ((S19 0 52) + 1)) (ty := .int) (C := RX10) (T := TX10) (N := 58) hx hb hts iX10_mishap_10 tyX10 tyX10_ok nmX10 hown hK hP hD hS 0 rfl rfl 52 (by decide) (hts (.fieldLink RX10 183 "FondsRoomModel" "mishaps" "I") (List.mem_of_getElem? (i := 6) rfl)) (fun _ h9 => h9) rfl (by decide +kernel) rfl rfl (Nat.le_of_ble_eq_true rfl) dX10_mishap_111 (fun H locs hP hD hS => ?_)
              obtain ⟨S20, eS20⟩ : ∃ z, z = wr S19 0 52 ((S19 0 52) + 1) := ⟨_, rfl⟩
              replace hF := bnd_s hF S20 eS20
              have hP : va_P D vwCl (YW y cy S20) H := by rw [eS20]; exact hP
              have hD : va_D (va_A (YW y cy S0) s.heap.size) (YW y cy S20) := by rw [eS20]; exact hD
              refine lv_iconst (v := 1) hx hb dX10_mishap_114 (by decide) ?_
              obtain ⟨e1, e2⟩ := ret2 hF
              have hP : va_P D vwCl (YW y cy Sf) H := by rw [← e2]; exact hP
              have hD : va_D (va_A (YW y cy S0) s.heap.size) (YW y cy Sf) := by rw [← e2]; exact hD
              exact W.zret (v := 1) hx hb hr (nz01 (Or.inr rfl)).1 (fun t ht hW => ⟨⟨1, (), rfl, ⟨e1, by rw [← e1]; exact Or.inr rfl⟩, by rw [ht]; exact hP, va_K.moved hW.alike hK, hD⟩, hS.F ht⟩) hS.2.2 dX10_mishap_115
            · skip
              have hF := (if_pos c13).symm.trans hF
              refine lv_iconst (v := 0) hx hb dX10_mishap_72 (by decide) ?_
              obtain ⟨e1, e2⟩ := ret2 hF
              have hP : va_P D vwCl (YW y cy Sf) H := by rw [← e2]; exact hP
              have hD : va_D (va_A (YW y cy S0) s.heap.size) (YW y cy Sf) := by rw [← e2]; exact hD
              exact W.zret (v := 0) hx hb hr (nz01 (Or.inl rfl)).1 (fun t ht hW => ⟨⟨0, (), rfl, ⟨e1, by rw [← e1]; exact Or.inl rfl⟩, by rw [ht]; exact hP, va_K.moved hW.alike hK, hD⟩, hS.F ht⟩) hS.2.2 dX10_mishap_73
      · skip
        have hF := (if_pos c4).symm.trans hF
        refine lv_aload_n hx hb dX10_mishap_33 rfl (lv_at hl 0 rfl) ?_
        refine va_get (D := D) (ci := 10) (v := .int (S1 0 8)) (C := RX10) (T := TX10) (N := 58) hx hb hts iX10_mishap_10 hown hK hP 0 rfl rfl 8 (by decide) (hts (.fieldLink RX10 19 "FondsRoomModel" "copyists" "I") (List.mem_of_getElem? (i := 4) rfl)) (fun _ h9 => h9) rfl dX10_mishap_34 ?_
        refine lv_goto (tgt := 41) hx hb dX10_mishap_37 (by decide) ?_
        refine lv_istore (lv' := [(4, .int (S1 0 8)), (0, .ref (y 0)), (1, .int p1), (2, .int p2), (3, .int p3)]) hx hb dX10_mishap_41 hl (by decide) rfl (fun ls hl => ?_)
        refine lv_iload_n hx hb dX10_mishap_43 rfl (lv_at hl 2 rfl) ?_
        refine lv_aload_n hx hb dX10_mishap_44 rfl (lv_at hl 1 rfl) ?_
        refine va_get (D := D) (ci := 10) (v := .int (S1 0 4)) (C := RX10) (T := TX10) (N := 58) hx hb hts iX10_mishap_10 hown hK hP 0 rfl rfl 4 (by decide) (hts (.fieldLink RX10 163 "FondsRoomModel" "turn" "I") (List.mem_of_getElem? (i := 5) rfl)) (fun _ h9 => h9) rfl dX10_mishap_45 ?_
        refine lv_icmp_le (tgt := 72) hx hb dX10_mishap_48 (by decide) (fun c21 => ?_) (fun c21 => ?_)
        · skip
          have hF := (if_pos c21).symm.trans hF
          refine lv_iconst (v := 0) hx hb dX10_mishap_72 (by decide) ?_
          obtain ⟨e1, e2⟩ := ret2 hF
          have hP : va_P D vwCl (YW y cy Sf) H := by rw [← e2]; exact hP
          have hD : va_D (va_A (YW y cy S0) s.heap.size) (YW y cy Sf) := by rw [← e2]; exact hD
          exact W.zret (v := 0) hx hb hr (nz01 (Or.inl rfl)).1 (fun t ht hW => ⟨⟨0, (), rfl, ⟨e1, by rw [← e1]; exact Or.inl rfl⟩, by rw [ht]; exact hP, va_K.moved hW.alike hK, hD⟩, hS.F ht⟩) hS.2.2 dX10_mishap_73
        · skip
          have hF := (if_neg c21).symm.trans hF
          refine lv_iload_n hx hb dX10_mishap_51 rfl (lv_at hl 4 rfl) ?_
          refine lv_iconst (v := 0) hx hb dX10_mishap_52 (by decide) ?_
          refine lv_iload hx hb dX10_mishap_53 (lv_at hl 0 rfl) ?_
          refine lv_iconst (v := 1) hx hb dX10_mishap_55 (by decide) ?_
          refine lv_isub hx hb dX10_mishap_56 ?_
          obtain ⟨r22, hq25, hF⟩ := bd1_s hF
          refine gsI (As := [.int p3, .int 0, .int ((S1 0 8) - 1)]) (rest := []) ⟨hx, hb, hml, hown, hts⟩ (zX10_in l D y cy S1 _ p3 0 ((S1 0 8) - 1) r22 hq25) (va_cwS 3 hts gX10_mishap_X10_in rfl rfl rfl (by decide +kernel) ⟨Nat.le_of_ble_eq_true rfl, Nat.le_of_ble_eq_true rfl⟩) hK hP hD hS hA rfl hl.1 rfl (Nat.le_of_ble_eq_true rfl) dX10_mishap_57 ⟨Nat.le_of_ble_eq_true rfl, Nat.le_of_ble_eq_true rfl⟩ (fun a26 u9 H locs hw24 hP hD hS => ?_)
          have hP : va_P D vwCl (YW y cy S1) H := hP
          have hD : va_D _ (YW y cy S1) := hD
          refine lv_tov (v' := .int r22) (congrArg Value.int hw24.1) ?_
          refine lv_if_eq (tgt := 72) hx hb dX10_mishap_60 (by decide) (fun c27 => ?_) (fun c27 => ?_)
          · skip
            have hF := (if_pos c27).symm.trans hF
            refine lv_iconst (v := 0) hx hb dX10_mishap_72 (by decide) ?_
            obtain ⟨e1, e2⟩ := ret2 hF
            have hP : va_P D vwCl (YW y cy Sf) H := by rw [← e2]; exact hP
            have hD : va_D (va_A (YW y cy S0) s.heap.size) (YW y cy Sf) := by rw [← e2]; exact hD
            exact W.zret (v := 0) hx hb hr (nz01 (Or.inl rfl)).1 (fun t ht hW => ⟨⟨0, (), rfl, ⟨e1, by rw [← e1]; exact Or.inl rfl⟩, by rw [ht]; exact hP, va_K.moved hW.alike hK, hD⟩, hS.F ht⟩) hS.2.2 dX10_mishap_73
          · skip
            have hF := (if_neg c27).symm.trans hF
            refine lv_aload_n hx hb dX10_mishap_63 rfl (lv_at hl 1 rfl) ?_
            refine va_get (D := D) (ci := 10) (v := .int (S1 0 52)) (C := RX10) (T := TX10) (N := 58) hx hb hts iX10_mishap_10 hown hK hP 0 rfl rfl 52 (by decide) (hts (.fieldLink RX10 183 "FondsRoomModel" "mishaps" "I") (List.mem_of_getElem? (i := 6) rfl)) (fun _ h9 => h9) rfl dX10_mishap_64 ?_
            refine lv_bipush (v := 30) hx hb dX10_mishap_67 (by decide) ?_
            refine lv_icmp_ne (tgt := 74) hx hb dX10_mishap_69 (by decide) (fun c28 => ?_) (fun c28 => ?_)
            · skip
              have hF := (if_neg c28).symm.trans hF
              refine lv_aload_n hx hb dX10_mishap_74 rfl (lv_at hl 1 rfl) ?_
              refine va_get (D := D) (ci := 10) (v := .ref (y 39)) (C := RX10) (T := TX10) (N := 58) hx hb hts iX10_mishap_10 hown hK hP 0 rfl rfl 53 (by decide) (hts (.fieldLink RX10 138 "FondsRoomModel" "mTurn" "[I") (List.mem_of_getElem? (i := 7) rfl)) (fun _ h9 => h9) rfl dX10_mishap_75 ?_
              refine lv_aload_n hx hb dX10_mishap_78 rfl (lv_at hl 1 rfl) ?_
              refine va_get (D := D) (ci := 10) (v := .int (S1 0 52)) (C := RX10) (T := TX10) (N := 58) hx hb hts iX10_mishap_10 hown hK hP 0 rfl rfl 52 (by decide) (hts (.fieldLink RX10 183 "FondsRoomModel" "mishaps" "I") (List.mem_of_getElem? (i := 6) rfl)) (fun _ h9 => h9) rfl dX10_mishap_79 ?_
              refine lv_iload_n hx hb dX10_mishap_82 rfl (lv_at hl 2 rfl) ?_
              obtain ⟨hi29, hF⟩ := sv_s hF
              refine va_iast hx hb hK hP hD hS 39 0 rfl rfl hi29 dX10_mishap_83 (fun H locs hP hD hS => ?_)
              obtain ⟨S30, eS30⟩ : ∃ z, z = wr S1 39 ((S1 0 52) : Int32).toNatClampNeg p1 := ⟨_, rfl⟩
              replace hF := hF S30 eS30
              have hP : va_P D vwCl (YW y cy S30) H := by rw [eS30]; exact hP
              have hD : va_D (va_A (YW y cy S0) s.heap.size) (YW y cy S30) := by rw [eS30]; exact hD
              refine lv_aload_n hx hb dX10_mishap_84 rfl (lv_at hl 1 rfl) ?_
              refine va_get (D := D) (ci := 10) (v := .ref (y 40)) (C := RX10) (T := TX10) (N := 58) hx hb hts iX10_mishap_10 hown hK hP 0 rfl rfl 54 (by decide) (hts (.fieldLink RX10 141 "FondsRoomModel" "mKind" "[I") (List.mem_of_getElem? (i := 8) rfl)) (fun _ h9 => h9) rfl dX10_mishap_85 ?_
              refine lv_aload_n hx hb dX10_mishap_88 rfl (lv_at hl 1 rfl) ?_
              refine va_get (D := D) (ci := 10) (v := .int (S30 0 52)) (C := RX10) (T := TX10) (N := 58) hx hb hts iX10_mishap_10 hown hK hP 0 rfl rfl 52 (by decide) (hts (.fieldLink RX10 183 "FondsRoomModel" "mishaps" "I") (List.mem_of_getElem? (i := 6) rfl)) (fun _ h9 => h9) rfl dX10_mishap_89 ?_
              refine lv_iload_n hx hb dX10_mishap_92 rfl (lv_at hl 3 rfl) ?_
              obtain ⟨hi31, hF⟩ := sv_s hF
              refine va_iast hx hb hK hP hD hS 40 0 rfl rfl hi31 dX10_mishap_93 (fun H locs hP hD hS => ?_)
              obtain ⟨S32, eS32⟩ : ∃ z, z = wr S30 40 ((S30 0 52) : Int32).toNatClampNeg p2 := ⟨_, rfl⟩
              replace hF := hF S32 eS32
              have hP : va_P D vwCl (YW y cy S32) H := by rw [eS32]; exact hP
              have hD : va_D (va_A (YW y cy S0) s.heap.size) (YW y cy S32) := by rw [eS32]; exact hD
              refine lv_aload_n hx hb dX10_mishap_94 rfl (lv_at hl 1 rfl) ?_
              refine va_get (D := D) (ci := 10) (v := .ref (y 41)) (C := RX10) (T := TX10) (N := 58) hx hb hts iX10_mishap_10 hown hK hP 0 rfl rfl 55 (by decide) (hts (.fieldLink RX10 144 "FondsRoomModel" "mWho" "[I") (List.mem_of_getElem? (i := 9) rfl)) (fun _ h9 => h9) rfl dX10_mishap_95 ?_
              refine lv_aload_n hx hb dX10_mishap_98 rfl (lv_at hl 1 rfl) ?_
              refine va_get (D := D) (ci := 10) (v := .int (S32 0 52)) (C := RX10) (T := TX10) (N := 58) hx hb hts iX10_mishap_10 hown hK hP 0 rfl rfl 52 (by decide) (hts (.fieldLink RX10 183 "FondsRoomModel" "mishaps" "I") (List.mem_of_getElem? (i := 6) rfl)) (fun _ h9 => h9) rfl dX10_mishap_99 ?_
              refine lv_iload_n hx hb dX10_mishap_102 rfl (lv_at hl 4 rfl) ?_
              obtain ⟨hi33, hF⟩ := sv_s hF
              refine va_iast hx hb hK hP hD hS 41 0 rfl rfl hi33 dX10_mishap_103 (fun H locs hP hD hS => ?_)
              obtain ⟨S34, eS34⟩ : ∃ z, z = wr S32 41 ((S32 0 52) : Int32).toNatClampNeg p3 := ⟨_, rfl⟩
              replace hF := hF S34 eS34
              have hP : va_P D vwCl (YW y cy S34) H := by rw [eS34]; exact hP
              have hD : va_D (va_A (YW y cy S0) s.heap.size) (YW y cy S34) := by rw [eS34]; exact hD
              refine lv_aload_n hx hb dX10_mishap_104 rfl (lv_at hl 1 rfl) ?_
              refine lv_dup hx hb dX10_mishap_105 rfl ?_
              refine va_get (D := D) (ci := 10) (v := .int (S34 0 52)) (C := RX10) (T := TX10) (N := 58) hx hb hts iX10_mishap_10 hown hK hP 0 rfl rfl 52 (by decide) (hts (.fieldLink RX10 183 "FondsRoomModel" "mishaps" "I") (List.mem_of_getElem? (i := 6) rfl)) (fun _ h9 => h9) rfl dX10_mishap_106 ?_
              refine lv_iconst (v := 1) hx hb dX10_mishap_109 (by decide) ?_
              refine lv_iadd hx hb dX10_mishap_110 ?_
              refine va_put (D := D) (ci := 10) (v := .int ((S34 0 52) + 1)) (ty := .int) (C := RX10) (T := TX10) (N := 58) hx hb hts iX10_mishap_10 tyX10 tyX10_ok nmX10 hown hK hP hD hS 0 rfl rfl 52 (by decide) (hts (.fieldLink RX10 183 "FondsRoomModel" "mishaps" "I") (List.mem_of_getElem? (i := 6) rfl)) (fun _ h9 => h9) rfl (by decide +kernel) rfl rfl (Nat.le_of_ble_eq_true rfl) dX10_mishap_111 (fun H locs hP hD hS => ?_)
              obtain ⟨S35, eS35⟩ : ∃ z, z = wr S34 0 52 ((S34 0 52) + 1) := ⟨_, rfl⟩
              replace hF := bnd_s hF S35 eS35
              have hP : va_P D vwCl (YW y cy S35) H := by rw [eS35]; exact hP
              have hD : va_D (va_A (YW y cy S0) s.heap.size) (YW y cy S35) := by rw [eS35]; exact hD
              refine lv_iconst (v := 1) hx hb dX10_mishap_114 (by decide) ?_
              obtain ⟨e1, e2⟩ := ret2 hF
              have hP : va_P D vwCl (YW y cy Sf) H := by rw [← e2]; exact hP
              have hD : va_D (va_A (YW y cy S0) s.heap.size) (YW y cy Sf) := by rw [← e2]; exact hD
              exact W.zret (v := 1) hx hb hr (nz01 (Or.inr rfl)).1 (fun t ht hW => ⟨⟨1, (), rfl, ⟨e1, by rw [← e1]; exact Or.inr rfl⟩, by rw [ht]; exact hP, va_K.moved hW.alike hK, hD⟩, hS.F ht⟩) hS.2.2 dX10_mishap_115
            · skip
              have hF := (if_pos c28).symm.trans hF
              refine lv_iconst (v := 0) hx hb dX10_mishap_72 (by decide) ?_
              obtain ⟨e1, e2⟩ := ret2 hF
              have hP : va_P D vwCl (YW y cy Sf) H := by rw [← e2]; exact hP
              have hD : va_D (va_A (YW y cy S0) s.heap.size) (YW y cy Sf) := by rw [← e2]; exact hD
              exact W.zret (v := 0) hx hb hr (nz01 (Or.inl rfl)).1 (fun t ht hW => ⟨⟨0, (), rfl, ⟨e1, by rw [← e1]; exact Or.inl rfl⟩, by rw [ht]; exact hP, va_K.moved hW.alike hK, hD⟩, hS.F ht⟩) hS.2.2 dX10_mishap_73
    · skip
      have hF := (if_pos c3).symm.trans hF
      refine lv_aload_n hx hb dX10_mishap_21 rfl (lv_at hl 0 rfl) ?_
      refine va_get (D := D) (ci := 10) (v := .int (S1 0 7)) (C := RX10) (T := TX10) (N := 58) hx hb hts iX10_mishap_10 hown hK hP 0 rfl rfl 7 (by decide) (hts (.fieldLink RX10 16 "FondsRoomModel" "fetchers" "I") (List.mem_of_getElem? (i := 3) rfl)) (fun _ h9 => h9) rfl dX10_mishap_22 ?_
      refine lv_goto (tgt := 41) hx hb dX10_mishap_25 (by decide) ?_
      refine lv_istore (lv' := [(4, .int (S1 0 7)), (0, .ref (y 0)), (1, .int p1), (2, .int p2), (3, .int p3)]) hx hb dX10_mishap_41 hl (by decide) rfl (fun ls hl => ?_)
      refine lv_iload_n hx hb dX10_mishap_43 rfl (lv_at hl 2 rfl) ?_
      refine lv_aload_n hx hb dX10_mishap_44 rfl (lv_at hl 1 rfl) ?_
      refine va_get (D := D) (ci := 10) (v := .int (S1 0 4)) (C := RX10) (T := TX10) (N := 58) hx hb hts iX10_mishap_10 hown hK hP 0 rfl rfl 4 (by decide) (hts (.fieldLink RX10 163 "FondsRoomModel" "turn" "I") (List.mem_of_getElem? (i := 5) rfl)) (fun _ h9 => h9) rfl dX10_mishap_45 ?_
      refine lv_icmp_le (tgt := 72) hx hb dX10_mishap_48 (by decide) (fun c36 => ?_) (fun c36 => ?_)
      · skip
        have hF := (if_pos c36).symm.trans hF
        refine lv_iconst (v := 0) hx hb dX10_mishap_72 (by decide) ?_
        obtain ⟨e1, e2⟩ := ret2 hF
        have hP : va_P D vwCl (YW y cy Sf) H := by rw [← e2]; exact hP
        have hD : va_D (va_A (YW y cy S0) s.heap.size) (YW y cy Sf) := by rw [← e2]; exact hD
        exact W.zret (v := 0) hx hb hr (nz01 (Or.inl rfl)).1 (fun t ht hW => ⟨⟨0, (), rfl, ⟨e1, by rw [← e1]; exact Or.inl rfl⟩, by rw [ht]; exact hP, va_K.moved hW.alike hK, hD⟩, hS.F ht⟩) hS.2.2 dX10_mishap_73
      · skip
        have hF := (if_neg c36).symm.trans hF
        refine lv_iload_n hx hb dX10_mishap_51 rfl (lv_at hl 4 rfl) ?_
        refine lv_iconst (v := 0) hx hb dX10_mishap_52 (by decide) ?_
        refine lv_iload hx hb dX10_mishap_53 (lv_at hl 0 rfl) ?_
        refine lv_iconst (v := 1) hx hb dX10_mishap_55 (by decide) ?_
        refine lv_isub hx hb dX10_mishap_56 ?_
        obtain ⟨r37, hq40, hF⟩ := bd1_s hF
        refine gsI (As := [.int p3, .int 0, .int ((S1 0 7) - 1)]) (rest := []) ⟨hx, hb, hml, hown, hts⟩ (zX10_in l D y cy S1 _ p3 0 ((S1 0 7) - 1) r37 hq40) (va_cwS 3 hts gX10_mishap_X10_in rfl rfl rfl (by decide +kernel) ⟨Nat.le_of_ble_eq_true rfl, Nat.le_of_ble_eq_true rfl⟩) hK hP hD hS hA rfl hl.1 rfl (Nat.le_of_ble_eq_true rfl) dX10_mishap_57 ⟨Nat.le_of_ble_eq_true rfl, Nat.le_of_ble_eq_true rfl⟩ (fun a41 u9 H locs hw39 hP hD hS => ?_)
        have hP : va_P D vwCl (YW y cy S1) H := hP
        have hD : va_D _ (YW y cy S1) := hD
        refine lv_tov (v' := .int r37) (congrArg Value.int hw39.1) ?_
        refine lv_if_eq (tgt := 72) hx hb dX10_mishap_60 (by decide) (fun c42 => ?_) (fun c42 => ?_)
        · skip
          have hF := (if_pos c42).symm.trans hF
          refine lv_iconst (v := 0) hx hb dX10_mishap_72 (by decide) ?_
          obtain ⟨e1, e2⟩ := ret2 hF
          have hP : va_P D vwCl (YW y cy Sf) H := by rw [← e2]; exact hP
          have hD : va_D (va_A (YW y cy S0) s.heap.size) (YW y cy Sf) := by rw [← e2]; exact hD
          exact W.zret (v := 0) hx hb hr (nz01 (Or.inl rfl)).1 (fun t ht hW => ⟨⟨0, (), rfl, ⟨e1, by rw [← e1]; exact Or.inl rfl⟩, by rw [ht]; exact hP, va_K.moved hW.alike hK, hD⟩, hS.F ht⟩) hS.2.2 dX10_mishap_73
        · skip
          have hF := (if_neg c42).symm.trans hF
          refine lv_aload_n hx hb dX10_mishap_63 rfl (lv_at hl 1 rfl) ?_
          refine va_get (D := D) (ci := 10) (v := .int (S1 0 52)) (C := RX10) (T := TX10) (N := 58) hx hb hts iX10_mishap_10 hown hK hP 0 rfl rfl 52 (by decide) (hts (.fieldLink RX10 183 "FondsRoomModel" "mishaps" "I") (List.mem_of_getElem? (i := 6) rfl)) (fun _ h9 => h9) rfl dX10_mishap_64 ?_
          refine lv_bipush (v := 30) hx hb dX10_mishap_67 (by decide) ?_
          refine lv_icmp_ne (tgt := 74) hx hb dX10_mishap_69 (by decide) (fun c43 => ?_) (fun c43 => ?_)
          · skip
            have hF := (if_neg c43).symm.trans hF
            refine lv_aload_n hx hb dX10_mishap_74 rfl (lv_at hl 1 rfl) ?_
            refine va_get (D := D) (ci := 10) (v := .ref (y 39)) (C := RX10) (T := TX10) (N := 58) hx hb hts iX10_mishap_10 hown hK hP 0 rfl rfl 53 (by decide) (hts (.fieldLink RX10 138 "FondsRoomModel" "mTurn" "[I") (List.mem_of_getElem? (i := 7) rfl)) (fun _ h9 => h9) rfl dX10_mishap_75 ?_
            refine lv_aload_n hx hb dX10_mishap_78 rfl (lv_at hl 1 rfl) ?_
            refine va_get (D := D) (ci := 10) (v := .int (S1 0 52)) (C := RX10) (T := TX10) (N := 58) hx hb hts iX10_mishap_10 hown hK hP 0 rfl rfl 52 (by decide) (hts (.fieldLink RX10 183 "FondsRoomModel" "mishaps" "I") (List.mem_of_getElem? (i := 6) rfl)) (fun _ h9 => h9) rfl dX10_mishap_79 ?_
            refine lv_iload_n hx hb dX10_mishap_82 rfl (lv_at hl 2 rfl) ?_
            obtain ⟨hi44, hF⟩ := sv_s hF
            refine va_iast hx hb hK hP hD hS 39 0 rfl rfl hi44 dX10_mishap_83 (fun H locs hP hD hS => ?_)
            obtain ⟨S45, eS45⟩ : ∃ z, z = wr S1 39 ((S1 0 52) : Int32).toNatClampNeg p1 := ⟨_, rfl⟩
            replace hF := hF S45 eS45
            have hP : va_P D vwCl (YW y cy S45) H := by rw [eS45]; exact hP
            have hD : va_D (va_A (YW y cy S0) s.heap.size) (YW y cy S45) := by rw [eS45]; exact hD
            refine lv_aload_n hx hb dX10_mishap_84 rfl (lv_at hl 1 rfl) ?_
            refine va_get (D := D) (ci := 10) (v := .ref (y 40)) (C := RX10) (T := TX10) (N := 58) hx hb hts iX10_mishap_10 hown hK hP 0 rfl rfl 54 (by decide) (hts (.fieldLink RX10 141 "FondsRoomModel" "mKind" "[I") (List.mem_of_getElem? (i := 8) rfl)) (fun _ h9 => h9) rfl dX10_mishap_85 ?_
            refine lv_aload_n hx hb dX10_mishap_88 rfl (lv_at hl 1 rfl) ?_
            refine va_get (D := D) (ci := 10) (v := .int (S45 0 52)) (C := RX10) (T := TX10) (N := 58) hx hb hts iX10_mishap_10 hown hK hP 0 rfl rfl 52 (by decide) (hts (.fieldLink RX10 183 "FondsRoomModel" "mishaps" "I") (List.mem_of_getElem? (i := 6) rfl)) (fun _ h9 => h9) rfl dX10_mishap_89 ?_
            refine lv_iload_n hx hb dX10_mishap_92 rfl (lv_at hl 3 rfl) ?_
            obtain ⟨hi46, hF⟩ := sv_s hF
            refine va_iast hx hb hK hP hD hS 40 0 rfl rfl hi46 dX10_mishap_93 (fun H locs hP hD hS => ?_)
            obtain ⟨S47, eS47⟩ : ∃ z, z = wr S45 40 ((S45 0 52) : Int32).toNatClampNeg p2 := ⟨_, rfl⟩
            replace hF := hF S47 eS47
            have hP : va_P D vwCl (YW y cy S47) H := by rw [eS47]; exact hP
            have hD : va_D (va_A (YW y cy S0) s.heap.size) (YW y cy S47) := by rw [eS47]; exact hD
            refine lv_aload_n hx hb dX10_mishap_94 rfl (lv_at hl 1 rfl) ?_
            refine va_get (D := D) (ci := 10) (v := .ref (y 41)) (C := RX10) (T := TX10) (N := 58) hx hb hts iX10_mishap_10 hown hK hP 0 rfl rfl 55 (by decide) (hts (.fieldLink RX10 144 "FondsRoomModel" "mWho" "[I") (List.mem_of_getElem? (i := 9) rfl)) (fun _ h9 => h9) rfl dX10_mishap_95 ?_
            refine lv_aload_n hx hb dX10_mishap_98 rfl (lv_at hl 1 rfl) ?_
            refine va_get (D := D) (ci := 10) (v := .int (S47 0 52)) (C := RX10) (T := TX10) (N := 58) hx hb hts iX10_mishap_10 hown hK hP 0 rfl rfl 52 (by decide) (hts (.fieldLink RX10 183 "FondsRoomModel" "mishaps" "I") (List.mem_of_getElem? (i := 6) rfl)) (fun _ h9 => h9) rfl dX10_mishap_99 ?_
            refine lv_iload_n hx hb dX10_mishap_102 rfl (lv_at hl 4 rfl) ?_
            obtain ⟨hi48, hF⟩ := sv_s hF
            refine va_iast hx hb hK hP hD hS 41 0 rfl rfl hi48 dX10_mishap_103 (fun H locs hP hD hS => ?_)
            obtain ⟨S49, eS49⟩ : ∃ z, z = wr S47 41 ((S47 0 52) : Int32).toNatClampNeg p3 := ⟨_, rfl⟩
            replace hF := hF S49 eS49
            have hP : va_P D vwCl (YW y cy S49) H := by rw [eS49]; exact hP
            have hD : va_D (va_A (YW y cy S0) s.heap.size) (YW y cy S49) := by rw [eS49]; exact hD
            refine lv_aload_n hx hb dX10_mishap_104 rfl (lv_at hl 1 rfl) ?_
            refine lv_dup hx hb dX10_mishap_105 rfl ?_
            refine va_get (D := D) (ci := 10) (v := .int (S49 0 52)) (C := RX10) (T := TX10) (N := 58) hx hb hts iX10_mishap_10 hown hK hP 0 rfl rfl 52 (by decide) (hts (.fieldLink RX10 183 "FondsRoomModel" "mishaps" "I") (List.mem_of_getElem? (i := 6) rfl)) (fun _ h9 => h9) rfl dX10_mishap_106 ?_
            refine lv_iconst (v := 1) hx hb dX10_mishap_109 (by decide) ?_
            refine lv_iadd hx hb dX10_mishap_110 ?_
            refine va_put (D := D) (ci := 10) (v := .int ((S49 0 52) + 1)) (ty := .int) (C := RX10) (T := TX10) (N := 58) hx hb hts iX10_mishap_10 tyX10 tyX10_ok nmX10 hown hK hP hD hS 0 rfl rfl 52 (by decide) (hts (.fieldLink RX10 183 "FondsRoomModel" "mishaps" "I") (List.mem_of_getElem? (i := 6) rfl)) (fun _ h9 => h9) rfl (by decide +kernel) rfl rfl (Nat.le_of_ble_eq_true rfl) dX10_mishap_111 (fun H locs hP hD hS => ?_)
            obtain ⟨S50, eS50⟩ : ∃ z, z = wr S49 0 52 ((S49 0 52) + 1) := ⟨_, rfl⟩
            replace hF := bnd_s hF S50 eS50
            have hP : va_P D vwCl (YW y cy S50) H := by rw [eS50]; exact hP
            have hD : va_D (va_A (YW y cy S0) s.heap.size) (YW y cy S50) := by rw [eS50]; exact hD
            refine lv_iconst (v := 1) hx hb dX10_mishap_114 (by decide) ?_
            obtain ⟨e1, e2⟩ := ret2 hF
            have hP : va_P D vwCl (YW y cy Sf) H := by rw [← e2]; exact hP
            have hD : va_D (va_A (YW y cy S0) s.heap.size) (YW y cy Sf) := by rw [← e2]; exact hD
            exact W.zret (v := 1) hx hb hr (nz01 (Or.inr rfl)).1 (fun t ht hW => ⟨⟨1, (), rfl, ⟨e1, by rw [← e1]; exact Or.inr rfl⟩, by rw [ht]; exact hP, va_K.moved hW.alike hK, hD⟩, hS.F ht⟩) hS.2.2 dX10_mishap_115
          · skip
            have hF := (if_pos c43).symm.trans hF
            refine lv_iconst (v := 0) hx hb dX10_mishap_72 (by decide) ?_
            obtain ⟨e1, e2⟩ := ret2 hF
            have hP : va_P D vwCl (YW y cy Sf) H := by rw [← e2]; exact hP
            have hD : va_D (va_A (YW y cy S0) s.heap.size) (YW y cy Sf) := by rw [← e2]; exact hD
            exact W.zret (v := 0) hx hb hr (nz01 (Or.inl rfl)).1 (fun t ht hW => ⟨⟨0, (), rfl, ⟨e1, by rw [← e1]; exact Or.inl rfl⟩, by rw [ht]; exact hP, va_K.moved hW.alike hK, hD⟩, hS.F ht⟩) hS.2.2 dX10_mishap_73
  · skip
    have hF := (if_pos c2).symm.trans hF
    refine lv_aload_n hx hb dX10_mishap_9 rfl (lv_at hl 0 rfl) ?_
    refine va_get (D := D) (ci := 10) (v := .int (S1 0 3)) (C := RX10) (T := TX10) (N := 58) hx hb hts iX10_mishap_10 hown hK hP 0 rfl rfl 3 (by decide) (hts (.fieldLink RX10 153 "FondsRoomModel" "readers" "I") (List.mem_of_getElem? (i := 2) rfl)) (fun _ h9 => h9) rfl dX10_mishap_10 ?_
    refine lv_goto (tgt := 41) hx hb dX10_mishap_13 (by decide) ?_
    refine lv_istore (lv' := [(4, .int (S1 0 3)), (0, .ref (y 0)), (1, .int p1), (2, .int p2), (3, .int p3)]) hx hb dX10_mishap_41 hl (by decide) rfl (fun ls hl => ?_)
    refine lv_iload_n hx hb dX10_mishap_43 rfl (lv_at hl 2 rfl) ?_
    refine lv_aload_n hx hb dX10_mishap_44 rfl (lv_at hl 1 rfl) ?_
    refine va_get (D := D) (ci := 10) (v := .int (S1 0 4)) (C := RX10) (T := TX10) (N := 58) hx hb hts iX10_mishap_10 hown hK hP 0 rfl rfl 4 (by decide) (hts (.fieldLink RX10 163 "FondsRoomModel" "turn" "I") (List.mem_of_getElem? (i := 5) rfl)) (fun _ h9 => h9) rfl dX10_mishap_45 ?_
    refine lv_icmp_le (tgt := 72) hx hb dX10_mishap_48 (by decide) (fun c51 => ?_) (fun c51 => ?_)
    · skip
      have hF := (if_pos c51).symm.trans hF
      refine lv_iconst (v := 0) hx hb dX10_mishap_72 (by decide) ?_
      obtain ⟨e1, e2⟩ := ret2 hF
      have hP : va_P D vwCl (YW y cy Sf) H := by rw [← e2]; exact hP
      have hD : va_D (va_A (YW y cy S0) s.heap.size) (YW y cy Sf) := by rw [← e2]; exact hD
      exact W.zret (v := 0) hx hb hr (nz01 (Or.inl rfl)).1 (fun t ht hW => ⟨⟨0, (), rfl, ⟨e1, by rw [← e1]; exact Or.inl rfl⟩, by rw [ht]; exact hP, va_K.moved hW.alike hK, hD⟩, hS.F ht⟩) hS.2.2 dX10_mishap_73
    · skip
      have hF := (if_neg c51).symm.trans hF
      refine lv_iload_n hx hb dX10_mishap_51 rfl (lv_at hl 4 rfl) ?_
      refine lv_iconst (v := 0) hx hb dX10_mishap_52 (by decide) ?_
      refine lv_iload hx hb dX10_mishap_53 (lv_at hl 0 rfl) ?_
      refine lv_iconst (v := 1) hx hb dX10_mishap_55 (by decide) ?_
      refine lv_isub hx hb dX10_mishap_56 ?_
      obtain ⟨r52, hq55, hF⟩ := bd1_s hF
      refine gsI (As := [.int p3, .int 0, .int ((S1 0 3) - 1)]) (rest := []) ⟨hx, hb, hml, hown, hts⟩ (zX10_in l D y cy S1 _ p3 0 ((S1 0 3) - 1) r52 hq55) (va_cwS 3 hts gX10_mishap_X10_in rfl rfl rfl (by decide +kernel) ⟨Nat.le_of_ble_eq_true rfl, Nat.le_of_ble_eq_true rfl⟩) hK hP hD hS hA rfl hl.1 rfl (Nat.le_of_ble_eq_true rfl) dX10_mishap_57 ⟨Nat.le_of_ble_eq_true rfl, Nat.le_of_ble_eq_true rfl⟩ (fun a56 u9 H locs hw54 hP hD hS => ?_)
      have hP : va_P D vwCl (YW y cy S1) H := hP
      have hD : va_D _ (YW y cy S1) := hD
      refine lv_tov (v' := .int r52) (congrArg Value.int hw54.1) ?_
      refine lv_if_eq (tgt := 72) hx hb dX10_mishap_60 (by decide) (fun c57 => ?_) (fun c57 => ?_)
      · skip
        have hF := (if_pos c57).symm.trans hF
        refine lv_iconst (v := 0) hx hb dX10_mishap_72 (by decide) ?_
        obtain ⟨e1, e2⟩ := ret2 hF
        have hP : va_P D vwCl (YW y cy Sf) H := by rw [← e2]; exact hP
        have hD : va_D (va_A (YW y cy S0) s.heap.size) (YW y cy Sf) := by rw [← e2]; exact hD
        exact W.zret (v := 0) hx hb hr (nz01 (Or.inl rfl)).1 (fun t ht hW => ⟨⟨0, (), rfl, ⟨e1, by rw [← e1]; exact Or.inl rfl⟩, by rw [ht]; exact hP, va_K.moved hW.alike hK, hD⟩, hS.F ht⟩) hS.2.2 dX10_mishap_73
      · skip
        have hF := (if_neg c57).symm.trans hF
        refine lv_aload_n hx hb dX10_mishap_63 rfl (lv_at hl 1 rfl) ?_
        refine va_get (D := D) (ci := 10) (v := .int (S1 0 52)) (C := RX10) (T := TX10) (N := 58) hx hb hts iX10_mishap_10 hown hK hP 0 rfl rfl 52 (by decide) (hts (.fieldLink RX10 183 "FondsRoomModel" "mishaps" "I") (List.mem_of_getElem? (i := 6) rfl)) (fun _ h9 => h9) rfl dX10_mishap_64 ?_
        refine lv_bipush (v := 30) hx hb dX10_mishap_67 (by decide) ?_
        refine lv_icmp_ne (tgt := 74) hx hb dX10_mishap_69 (by decide) (fun c58 => ?_) (fun c58 => ?_)
        · skip
          have hF := (if_neg c58).symm.trans hF
          refine lv_aload_n hx hb dX10_mishap_74 rfl (lv_at hl 1 rfl) ?_
          refine va_get (D := D) (ci := 10) (v := .ref (y 39)) (C := RX10) (T := TX10) (N := 58) hx hb hts iX10_mishap_10 hown hK hP 0 rfl rfl 53 (by decide) (hts (.fieldLink RX10 138 "FondsRoomModel" "mTurn" "[I") (List.mem_of_getElem? (i := 7) rfl)) (fun _ h9 => h9) rfl dX10_mishap_75 ?_
          refine lv_aload_n hx hb dX10_mishap_78 rfl (lv_at hl 1 rfl) ?_
          refine va_get (D := D) (ci := 10) (v := .int (S1 0 52)) (C := RX10) (T := TX10) (N := 58) hx hb hts iX10_mishap_10 hown hK hP 0 rfl rfl 52 (by decide) (hts (.fieldLink RX10 183 "FondsRoomModel" "mishaps" "I") (List.mem_of_getElem? (i := 6) rfl)) (fun _ h9 => h9) rfl dX10_mishap_79 ?_
          refine lv_iload_n hx hb dX10_mishap_82 rfl (lv_at hl 2 rfl) ?_
          obtain ⟨hi59, hF⟩ := sv_s hF
          refine va_iast hx hb hK hP hD hS 39 0 rfl rfl hi59 dX10_mishap_83 (fun H locs hP hD hS => ?_)
          obtain ⟨S60, eS60⟩ : ∃ z, z = wr S1 39 ((S1 0 52) : Int32).toNatClampNeg p1 := ⟨_, rfl⟩
          replace hF := hF S60 eS60
          have hP : va_P D vwCl (YW y cy S60) H := by rw [eS60]; exact hP
          have hD : va_D (va_A (YW y cy S0) s.heap.size) (YW y cy S60) := by rw [eS60]; exact hD
          refine lv_aload_n hx hb dX10_mishap_84 rfl (lv_at hl 1 rfl) ?_
          refine va_get (D := D) (ci := 10) (v := .ref (y 40)) (C := RX10) (T := TX10) (N := 58) hx hb hts iX10_mishap_10 hown hK hP 0 rfl rfl 54 (by decide) (hts (.fieldLink RX10 141 "FondsRoomModel" "mKind" "[I") (List.mem_of_getElem? (i := 8) rfl)) (fun _ h9 => h9) rfl dX10_mishap_85 ?_
          refine lv_aload_n hx hb dX10_mishap_88 rfl (lv_at hl 1 rfl) ?_
          refine va_get (D := D) (ci := 10) (v := .int (S60 0 52)) (C := RX10) (T := TX10) (N := 58) hx hb hts iX10_mishap_10 hown hK hP 0 rfl rfl 52 (by decide) (hts (.fieldLink RX10 183 "FondsRoomModel" "mishaps" "I") (List.mem_of_getElem? (i := 6) rfl)) (fun _ h9 => h9) rfl dX10_mishap_89 ?_
          refine lv_iload_n hx hb dX10_mishap_92 rfl (lv_at hl 3 rfl) ?_
          obtain ⟨hi61, hF⟩ := sv_s hF
          refine va_iast hx hb hK hP hD hS 40 0 rfl rfl hi61 dX10_mishap_93 (fun H locs hP hD hS => ?_)
          obtain ⟨S62, eS62⟩ : ∃ z, z = wr S60 40 ((S60 0 52) : Int32).toNatClampNeg p2 := ⟨_, rfl⟩
          replace hF := hF S62 eS62
          have hP : va_P D vwCl (YW y cy S62) H := by rw [eS62]; exact hP
          have hD : va_D (va_A (YW y cy S0) s.heap.size) (YW y cy S62) := by rw [eS62]; exact hD
          refine lv_aload_n hx hb dX10_mishap_94 rfl (lv_at hl 1 rfl) ?_
          refine va_get (D := D) (ci := 10) (v := .ref (y 41)) (C := RX10) (T := TX10) (N := 58) hx hb hts iX10_mishap_10 hown hK hP 0 rfl rfl 55 (by decide) (hts (.fieldLink RX10 144 "FondsRoomModel" "mWho" "[I") (List.mem_of_getElem? (i := 9) rfl)) (fun _ h9 => h9) rfl dX10_mishap_95 ?_
          refine lv_aload_n hx hb dX10_mishap_98 rfl (lv_at hl 1 rfl) ?_
          refine va_get (D := D) (ci := 10) (v := .int (S62 0 52)) (C := RX10) (T := TX10) (N := 58) hx hb hts iX10_mishap_10 hown hK hP 0 rfl rfl 52 (by decide) (hts (.fieldLink RX10 183 "FondsRoomModel" "mishaps" "I") (List.mem_of_getElem? (i := 6) rfl)) (fun _ h9 => h9) rfl dX10_mishap_99 ?_
          refine lv_iload_n hx hb dX10_mishap_102 rfl (lv_at hl 4 rfl) ?_
          obtain ⟨hi63, hF⟩ := sv_s hF
          refine va_iast hx hb hK hP hD hS 41 0 rfl rfl hi63 dX10_mishap_103 (fun H locs hP hD hS => ?_)
          obtain ⟨S64, eS64⟩ : ∃ z, z = wr S62 41 ((S62 0 52) : Int32).toNatClampNeg p3 := ⟨_, rfl⟩
          replace hF := hF S64 eS64
          have hP : va_P D vwCl (YW y cy S64) H := by rw [eS64]; exact hP
          have hD : va_D (va_A (YW y cy S0) s.heap.size) (YW y cy S64) := by rw [eS64]; exact hD
          refine lv_aload_n hx hb dX10_mishap_104 rfl (lv_at hl 1 rfl) ?_
          refine lv_dup hx hb dX10_mishap_105 rfl ?_
          refine va_get (D := D) (ci := 10) (v := .int (S64 0 52)) (C := RX10) (T := TX10) (N := 58) hx hb hts iX10_mishap_10 hown hK hP 0 rfl rfl 52 (by decide) (hts (.fieldLink RX10 183 "FondsRoomModel" "mishaps" "I") (List.mem_of_getElem? (i := 6) rfl)) (fun _ h9 => h9) rfl dX10_mishap_106 ?_
          refine lv_iconst (v := 1) hx hb dX10_mishap_109 (by decide) ?_
          refine lv_iadd hx hb dX10_mishap_110 ?_
          refine va_put (D := D) (ci := 10) (v := .int ((S64 0 52) + 1)) (ty := .int) (C := RX10) (T := TX10) (N := 58) hx hb hts iX10_mishap_10 tyX10 tyX10_ok nmX10 hown hK hP hD hS 0 rfl rfl 52 (by decide) (hts (.fieldLink RX10 183 "FondsRoomModel" "mishaps" "I") (List.mem_of_getElem? (i := 6) rfl)) (fun _ h9 => h9) rfl (by decide +kernel) rfl rfl (Nat.le_of_ble_eq_true rfl) dX10_mishap_111 (fun H locs hP hD hS => ?_)
          obtain ⟨S65, eS65⟩ : ∃ z, z = wr S64 0 52 ((S64 0 52) + 1) := ⟨_, rfl⟩
          replace hF := bnd_s hF S65 eS65
          have hP : va_P D vwCl (YW y cy S65) H := by rw [eS65]; exact hP
          have hD : va_D (va_A (YW y cy S0) s.heap.size) (YW y cy S65) := by rw [eS65]; exact hD
          refine lv_iconst (v := 1) hx hb dX10_mishap_114 (by decide) ?_
          obtain ⟨e1, e2⟩ := ret2 hF
          have hP : va_P D vwCl (YW y cy Sf) H := by rw [← e2]; exact hP
          have hD : va_D (va_A (YW y cy S0) s.heap.size) (YW y cy Sf) := by rw [← e2]; exact hD
          exact W.zret (v := 1) hx hb hr (nz01 (Or.inr rfl)).1 (fun t ht hW => ⟨⟨1, (), rfl, ⟨e1, by rw [← e1]; exact Or.inr rfl⟩, by rw [ht]; exact hP, va_K.moved hW.alike hK, hD⟩, hS.F ht⟩) hS.2.2 dX10_mishap_115
        · skip
          have hF := (if_pos c58).symm.trans hF
          refine lv_iconst (v := 0) hx hb dX10_mishap_72 (by decide) ?_
          obtain ⟨e1, e2⟩ := ret2 hF
          have hP : va_P D vwCl (YW y cy Sf) H := by rw [← e2]; exact hP
          have hD : va_D (va_A (YW y cy S0) s.heap.size) (YW y cy Sf) := by rw [← e2]; exact hD
          exact W.zret (v := 0) hx hb hr (nz01 (Or.inl rfl)).1 (fun t ht hW => ⟨⟨0, (), rfl, ⟨e1, by rw [← e1]; exact Or.inl rfl⟩, by rw [ht]; exact hP, va_K.moved hW.alike hK, hD⟩, hS.F ht⟩) hS.2.2 dX10_mishap_73
