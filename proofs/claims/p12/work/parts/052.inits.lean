theorem iX0_init_0 : ∀ w ∈ wsX00, w ∈ wsX0_init := fun _ h => List.mem_cons_of_mem _ (List.mem_append_right _ h)
set_option maxHeartbeats 8000000 in
set_option maxRecDepth 100000 in
theorem mX0_init (l : Launch) (D : va_G) (cy : Nat → ClassId) (sz : Nat) (a : Nat) (i1 : Int32) : Met l yX0_init wsX0_init ({ frames := 1, cells := 0, slots := 0, locals := 12 }) (PWi D (TYS cy) [(a, .inr (0, [.int 0, .int 0, .int 0, .int 0, .null, .null]))] sz [.ref a, .int i1]) (QU D (TYS cy) [(a, .inr (0, [.int 0, .int 0, .int 0, .int 0, .null, .null]))] (fun u v => [(a, .inr (0, [.int i1, .int 0, .int 0, .int 0, .null, .null]))]) sz) 0 0 (va_A [(a, .inr (0, [.int 0, .int 0, .int 0, .int 0, .null, .null]))] sz) := by
  refine Met.ofW (cc := cX0_init) (maxL := 2) (ret := none) (by decide) rfl ?_
  intro p e s m args below meth c s₁ B hml hv
  obtain ⟨rfl, hsz, hP, hK, hD0, hE⟩ := hv
  have hx := B.exec
  have hb := B.bytes
  have hr := B.returns
  have hts := atoms_spec (ws := wsX0_init) B.pre
  have hown : s.vm.findClass RX0 = some m.cls := findClass_of_methodNamed B.named
  have hlocks := B.notSynchronized
  have hin : meth.name = "<init>" := (name_of_methodNamed B.named B.method).1
  subst hsz
  have hD := hD0.self (sz := s.heap.size)
  have hA : ∀ q9 : Nat, s.heap.size ≤ q9 → va_A [(a, .inr (0, [.int 0, .int 0, .int 0, .int 0, .null, .null]))] s.heap.size q9 := fun q9 h => Or.inr h
  have hS : va_S (va_A [(a, .inr (0, [.int 0, .int 0, .int 0, .int 0, .null, .null]))] s.heap.size) s.heap s.heap [] := va_S.rf
  have hl := lv_entry ([.ref a, .int i1]) (n := 2) (Nat.le_of_ble_eq_true rfl)
  rw [lg_entry_eq]
  generalize (lg_sl ([.ref a, .int i1]) ++ List.replicate (2 - (lg_sl ([.ref a, .int i1])).length) Slot.unset).toArray = ls at hl ⊢
  have hl : lv_has ls 2 [(0, .ref a), (1, .int i1)] := hl
  refine lv_aload_n hx hb dX0_init_0 rfl (lv_at hl 0 rfl) ?_
  refine W.objInit hx hb hown (hts (.methodLink RX0 1 objectInit) (List.mem_of_getElem? (i := 1) rfl)) (hts (.instanceMethod objectInit) (List.mem_of_getElem? (i := 2) rfl)) (hts _ (List.mem_cons_of_mem _ (List.mem_append_left _ (List.mem_of_getElem? (i := 2) rfl)))) rfl (by rw [hml]; exact hl.1) rfl dX0_init_1 (Nat.le_of_ble_eq_true rfl) (Nat.le_of_ble_eq_true rfl) ?_
  refine W.eq (g2 := F0 m 4 ls []) rfl ?_
  refine lv_aload_n hx hb dX0_init_4 rfl (lv_at hl 0 rfl) ?_
  refine lv_iload_n hx hb dX0_init_5 rfl (lv_at hl 1 rfl) ?_
  refine va_putF (D := D) (ci := 0) (v := .int i1) (ty := .int) (C := RX0) (T := TX0) (N := 6) hx hb hts iX0_init_0 tyX0 tyX0_ok nmX0 hown hK hP hD hS 0 rfl rfl 0 (by decide) (hts (.fieldLink RX0 7 "FondsRoom$Box" "number" "I") (List.mem_of_getElem? (i := 4) rfl)) (fun _ h9 => h9) rfl hin rfl (by decide +kernel) rfl rfl (Nat.le_of_ble_eq_true rfl) dX0_init_6 (fun H locs hP hD hS => ?_)
  have hP : va_P D vwCl ([(a, .inr (0, [.int i1, .int 0, .int 0, .int 0, .null, .null]))]) H := hP
  have hD : va_D _ ([(a, .inr (0, [.int i1, .int 0, .int 0, .int 0, .null, .null]))]) := hD
  refine W.widen (k := 0) (n := 0) (by omega) (by omega) ?_
  exact W.vret hx hb hr (fun t ht hW => ⟨⟨(fun k => ([] : List Nat).getD k 0, fun _ => fun _ => none), rfl, trivial, by rw [ht]; exact hP, va_K.moved hW.alike hK, hD⟩, hS.F ht⟩) hS.2.2 dX0_init_9

theorem iX1_init_1 : ∀ w ∈ wsX10, w ∈ wsX1_init := fun _ h => List.mem_cons_of_mem _ (List.mem_append_right _ h)
set_option maxHeartbeats 8000000 in
set_option maxRecDepth 100000 in
theorem mX1_init (l : Launch) (D : va_G) (cy : Nat → ClassId) (sz : Nat) (a : Nat) (i1 : Int32) : Met l yX1_init wsX1_init ({ frames := 1, cells := 0, slots := 0, locals := 12 }) (PWi D (TYS cy) [(a, .inr (1, [.int 0, .int 0, .null]))] sz [.ref a, .int i1]) (QU D (TYS cy) [(a, .inr (1, [.int 0, .int 0, .null]))] (fun u v => [(a, .inr (1, [.int i1, .int 0, .null]))]) sz) 0 0 (va_A [(a, .inr (1, [.int 0, .int 0, .null]))] sz) := by
  refine Met.ofW (cc := cX1_init) (maxL := 2) (ret := none) (by decide) rfl ?_
  intro p e s m args below meth c s₁ B hml hv
  obtain ⟨rfl, hsz, hP, hK, hD0, hE⟩ := hv
  have hx := B.exec
  have hb := B.bytes
  have hr := B.returns
  have hts := atoms_spec (ws := wsX1_init) B.pre
  have hown : s.vm.findClass RX1 = some m.cls := findClass_of_methodNamed B.named
  have hlocks := B.notSynchronized
  have hin : meth.name = "<init>" := (name_of_methodNamed B.named B.method).1
  subst hsz
  have hD := hD0.self (sz := s.heap.size)
  have hA : ∀ q9 : Nat, s.heap.size ≤ q9 → va_A [(a, .inr (1, [.int 0, .int 0, .null]))] s.heap.size q9 := fun q9 h => Or.inr h
  have hS : va_S (va_A [(a, .inr (1, [.int 0, .int 0, .null]))] s.heap.size) s.heap s.heap [] := va_S.rf
  have hl := lv_entry ([.ref a, .int i1]) (n := 2) (Nat.le_of_ble_eq_true rfl)
  rw [lg_entry_eq]
  generalize (lg_sl ([.ref a, .int i1]) ++ List.replicate (2 - (lg_sl ([.ref a, .int i1])).length) Slot.unset).toArray = ls at hl ⊢
  have hl : lv_has ls 2 [(0, .ref a), (1, .int i1)] := hl
  refine lv_aload_n hx hb dX1_init_0 rfl (lv_at hl 0 rfl) ?_
  refine W.objInit hx hb hown (hts (.methodLink RX1 1 objectInit) (List.mem_of_getElem? (i := 1) rfl)) (hts (.instanceMethod objectInit) (List.mem_of_getElem? (i := 2) rfl)) (hts _ (List.mem_cons_of_mem _ (List.mem_append_left _ (List.mem_of_getElem? (i := 2) rfl)))) rfl (by rw [hml]; exact hl.1) rfl dX1_init_1 (Nat.le_of_ble_eq_true rfl) (Nat.le_of_ble_eq_true rfl) ?_
  refine W.eq (g2 := F0 m 4 ls []) rfl ?_
  refine lv_aload_n hx hb dX1_init_4 rfl (lv_at hl 0 rfl) ?_
  refine lv_iload_n hx hb dX1_init_5 rfl (lv_at hl 1 rfl) ?_
  refine va_putF (D := D) (ci := 1) (v := .int i1) (ty := .int) (C := RX1) (T := TX1) (N := 3) hx hb hts iX1_init_1 tyX1 tyX1_ok nmX1 hown hK hP hD hS 0 rfl rfl 0 (by decide) (hts (.fieldLink RX1 7 "FondsRoom$Desk" "number" "I") (List.mem_of_getElem? (i := 4) rfl)) (fun _ h9 => h9) rfl hin rfl (by decide +kernel) rfl rfl (Nat.le_of_ble_eq_true rfl) dX1_init_6 (fun H locs hP hD hS => ?_)
  have hP : va_P D vwCl ([(a, .inr (1, [.int i1, .int 0, .null]))]) H := hP
  have hD : va_D _ ([(a, .inr (1, [.int i1, .int 0, .null]))]) := hD
  refine W.widen (k := 0) (n := 0) (by omega) (by omega) ?_
  exact W.vret hx hb hr (fun t ht hW => ⟨⟨(fun k => ([] : List Nat).getD k 0, fun _ => fun _ => none), rfl, trivial, by rw [ht]; exact hP, va_K.moved hW.alike hK, hD⟩, hS.F ht⟩) hS.2.2 dX1_init_9

set_option maxHeartbeats 8000000 in
set_option maxRecDepth 100000 in
theorem mX8_init (l : Launch) (D : va_G) (cy : Nat → ClassId) (sz : Nat) (a : Nat) : Met l yX8_init wsX8_init ({ frames := 1, cells := 0, slots := 0, locals := 12 }) (PWi D (TYS cy) [(a, .inr (8, [.null, .null, .int 0]))] sz [.ref a]) (QU D (TYS cy) [(a, .inr (8, [.null, .null, .int 0]))] (fun u v => [(a, .inr (8, [.null, .null, .int 0]))]) sz) 0 0 (va_A [(a, .inr (8, [.null, .null, .int 0]))] sz) := by
  refine Met.ofW (cc := cX8_init) (maxL := 1) (ret := none) (by decide) rfl ?_
  intro p e s m args below meth c s₁ B hml hv
  obtain ⟨rfl, hsz, hP, hK, hD0, hE⟩ := hv
  have hx := B.exec
  have hb := B.bytes
  have hr := B.returns
  have hts := atoms_spec (ws := wsX8_init) B.pre
  have hown : s.vm.findClass RX8 = some m.cls := findClass_of_methodNamed B.named
  have hlocks := B.notSynchronized
  have hin : meth.name = "<init>" := (name_of_methodNamed B.named B.method).1
  subst hsz
  have hD := hD0.self (sz := s.heap.size)
  have hA : ∀ q9 : Nat, s.heap.size ≤ q9 → va_A [(a, .inr (8, [.null, .null, .int 0]))] s.heap.size q9 := fun q9 h => Or.inr h
  have hS : va_S (va_A [(a, .inr (8, [.null, .null, .int 0]))] s.heap.size) s.heap s.heap [] := va_S.rf
  have hl := lv_entry ([.ref a]) (n := 1) (Nat.le_of_ble_eq_true rfl)
  rw [lg_entry_eq]
  generalize (lg_sl ([.ref a]) ++ List.replicate (1 - (lg_sl ([.ref a])).length) Slot.unset).toArray = ls at hl ⊢
  have hl : lv_has ls 1 [(0, .ref a)] := hl
  refine lv_aload_n hx hb dX8_init_0 rfl (lv_at hl 0 rfl) ?_
  refine W.objInit hx hb hown (hts (.methodLink RX8 1 objectInit) (List.mem_of_getElem? (i := 1) rfl)) (hts (.instanceMethod objectInit) (List.mem_of_getElem? (i := 2) rfl)) (hts _ (List.mem_cons_of_mem _ (List.mem_of_getElem? (i := 2) rfl))) rfl (by rw [hml]; exact hl.1) rfl dX8_init_1 (Nat.le_of_ble_eq_true rfl) (Nat.le_of_ble_eq_true rfl) ?_
  refine W.eq (g2 := F0 m 4 ls []) rfl ?_
  refine W.widen (k := 0) (n := 0) (by omega) (by omega) ?_
  exact W.vret hx hb hr (fun t ht hW => ⟨⟨(fun k => ([] : List Nat).getD k 0, fun _ => fun _ => none), rfl, trivial, by rw [ht]; exact hP, va_K.moved hW.alike hK, hD⟩, hS.F ht⟩) hS.2.2 dX8_init_4

theorem iX5_init_5 : ∀ w ∈ wsX50, w ∈ wsX5_init := fun _ h => List.mem_cons_of_mem _ (List.mem_append_right _ h)
set_option maxHeartbeats 8000000 in
set_option maxRecDepth 100000 in
theorem mX5_init (l : Launch) (D : va_G) (cy : Nat → ClassId) (sz : Nat) (a : Nat) : Met l yX5_init wsX5_init ({ frames := 1, cells := 5, slots := 80, locals := 12 }) (PWi D (TYS cy) [(a, .inr (5, [.null, .null, .null, .null, .null, .int 0, .int 0, .int 0]))] sz [.ref a]) (QU D (TYS cy) [(a, .inr (5, [.null, .null, .null, .null, .null, .int 0, .int 0, .int 0]))] (fun u v => [(a, .inr (5, [.ref (u 0), .ref (u 1), .ref (u 2), .ref (u 3), .ref (u 4), .int 0, .int 0, .int 0])), (u 0, .inl (cy 0, 16, .inl (fun _ => 0))), (u 1, .inl (cy 0, 16, .inl (fun _ => 0))), (u 2, .inl (cy 0, 16, .inl (fun _ => 0))), (u 3, .inl (cy 1, 16, .inl (fun _ => 0))), (u 4, .inl (cy 0, 16, .inl (fun _ => 0)))]) sz) 5 80 (va_A [(a, .inr (5, [.null, .null, .null, .null, .null, .int 0, .int 0, .int 0]))] sz) := by
  refine Met.ofW (cc := cX5_init) (maxL := 1) (ret := none) (by decide) rfl ?_
  intro p e s m args below meth c s₁ B hml hv
  obtain ⟨rfl, hsz, hP, hK, hD0, hE⟩ := hv
  have hx := B.exec
  have hb := B.bytes
  have hr := B.returns
  have hts := atoms_spec (ws := wsX5_init) B.pre
  have hown : s.vm.findClass RX5 = some m.cls := findClass_of_methodNamed B.named
  have hlocks := B.notSynchronized
  have hin : meth.name = "<init>" := (name_of_methodNamed B.named B.method).1
  subst hsz
  have hD := hD0.self (sz := s.heap.size)
  have hA : ∀ q9 : Nat, s.heap.size ≤ q9 → va_A [(a, .inr (5, [.null, .null, .null, .null, .null, .int 0, .int 0, .int 0]))] s.heap.size q9 := fun q9 h => Or.inr h
  have hS : va_S (va_A [(a, .inr (5, [.null, .null, .null, .null, .null, .int 0, .int 0, .int 0]))] s.heap.size) s.heap s.heap [] := va_S.rf
  have hl := lv_entry ([.ref a]) (n := 1) (Nat.le_of_ble_eq_true rfl)
  rw [lg_entry_eq]
  generalize (lg_sl ([.ref a]) ++ List.replicate (1 - (lg_sl ([.ref a])).length) Slot.unset).toArray = ls at hl ⊢
  have hl : lv_has ls 1 [(0, .ref a)] := hl
  refine lv_aload_n hx hb dX5_init_0 rfl (lv_at hl 0 rfl) ?_
  refine W.objInit hx hb hown (hts (.methodLink RX5 3 objectInit) (List.mem_of_getElem? (i := 1) rfl)) (hts (.instanceMethod objectInit) (List.mem_of_getElem? (i := 2) rfl)) (hts _ (List.mem_cons_of_mem _ (List.mem_append_left _ (List.mem_of_getElem? (i := 2) rfl)))) rfl (by rw [hml]; exact hl.1) rfl dX5_init_1 (Nat.le_of_ble_eq_true rfl) (Nat.le_of_ble_eq_true rfl) ?_
  refine W.eq (g2 := F0 m 4 ls []) rfl ?_
  refine lv_aload_n hx hb dX5_init_4 rfl (lv_at hl 0 rfl) ?_
  refine lv_bipush (v := 16) hx hb dX5_init_5 (by decide) ?_
  refine va_newa (atype := .int) (ty := .int) (a0 := (16, .inl (fun _ => 0))) hx hb (hts (.arrayClass .int) (List.mem_of_getElem? (i := 4) rfl)) rfl hK hP hD hS hA (nwI 16) (by decide) (by decide) (by decide) (by show _ ≤ 5; omega) (by show _ ≤ 80; omega) dX5_init_7 (fun a1 cA2 H hK2 hP hD hS => ?_)
  obtain rfl : cA2 = cy 0 := ra_uniq hK2 6 0 rfl rfl
  have hP : va_P D vwCl ([(a, .inr (5, [.null, .null, .null, .null, .null, .int 0, .int 0, .int 0])), (a1, .inl (cy 0, 16, .inl (fun _ => 0)))]) H := hP
  have hD : va_D _ ([(a, .inr (5, [.null, .null, .null, .null, .null, .int 0, .int 0, .int 0])), (a1, .inl (cy 0, 16, .inl (fun _ => 0)))]) := hD
  refine va_putF (D := D) (ci := 5) (v := .ref a1) (ty := (.array .int)) (C := RX5) (T := TX5) (N := 8) hx hb hts iX5_init_5 tyX5 tyX5_ok nmX5 hown hK hP hD hS 0 rfl rfl 0 (by decide) (hts (.fieldLink RX5 9 "FondsRoom$Plan" "kinds" "[I") (List.mem_of_getElem? (i := 5) rfl)) (fun _ h9 => h9) rfl hin rfl (by decide +kernel) rfl rfl (Nat.le_of_ble_eq_true rfl) dX5_init_9 (fun H locs hP hD hS => ?_)
  have hP : va_P D vwCl ([(a, .inr (5, [.ref a1, .null, .null, .null, .null, .int 0, .int 0, .int 0])), (a1, .inl (cy 0, 16, .inl (fun _ => 0)))]) H := hP
  have hD : va_D _ ([(a, .inr (5, [.ref a1, .null, .null, .null, .null, .int 0, .int 0, .int 0])), (a1, .inl (cy 0, 16, .inl (fun _ => 0)))]) := hD
  refine lv_aload_n hx hb dX5_init_12 rfl (lv_at hl 0 rfl) ?_
  refine lv_bipush (v := 16) hx hb dX5_init_13 (by decide) ?_
  refine va_newa (atype := .int) (ty := .int) (a0 := (16, .inl (fun _ => 0))) hx hb (hts (.arrayClass .int) (List.mem_of_getElem? (i := 4) rfl)) rfl hK hP hD hS hA (nwI 16) (by decide) (by decide) (by decide) (by show _ ≤ 5; omega) (by show _ ≤ 80; omega) dX5_init_15 (fun a3 cA4 H hK2 hP hD hS => ?_)
  obtain rfl : cA4 = cy 0 := ra_uniq hK2 6 0 rfl rfl
  have hP : va_P D vwCl ([(a, .inr (5, [.ref a1, .null, .null, .null, .null, .int 0, .int 0, .int 0])), (a1, .inl (cy 0, 16, .inl (fun _ => 0))), (a3, .inl (cy 0, 16, .inl (fun _ => 0)))]) H := hP
  have hD : va_D _ ([(a, .inr (5, [.ref a1, .null, .null, .null, .null, .int 0, .int 0, .int 0])), (a1, .inl (cy 0, 16, .inl (fun _ => 0))), (a3, .inl (cy 0, 16, .inl (fun _ => 0)))]) := hD
  refine va_putF (D := D) (ci := 5) (v := .ref a3) (ty := (.array .int)) (C := RX5) (T := TX5) (N := 8) hx hb hts iX5_init_5 tyX5 tyX5_ok nmX5 hown hK hP hD hS 0 rfl rfl 1 (by decide) (hts (.fieldLink RX5 15 "FondsRoom$Plan" "boxes" "[I") (List.mem_of_getElem? (i := 6) rfl)) (fun _ h9 => h9) rfl hin rfl (by decide +kernel) rfl rfl (Nat.le_of_ble_eq_true rfl) dX5_init_17 (fun H locs hP hD hS => ?_)
  have hP : va_P D vwCl ([(a, .inr (5, [.ref a1, .ref a3, .null, .null, .null, .int 0, .int 0, .int 0])), (a1, .inl (cy 0, 16, .inl (fun _ => 0))), (a3, .inl (cy 0, 16, .inl (fun _ => 0)))]) H := hP
  have hD : va_D _ ([(a, .inr (5, [.ref a1, .ref a3, .null, .null, .null, .int 0, .int 0, .int 0])), (a1, .inl (cy 0, 16, .inl (fun _ => 0))), (a3, .inl (cy 0, 16, .inl (fun _ => 0)))]) := hD
  refine lv_aload_n hx hb dX5_init_20 rfl (lv_at hl 0 rfl) ?_
  refine lv_bipush (v := 16) hx hb dX5_init_21 (by decide) ?_
  refine va_newa (atype := .int) (ty := .int) (a0 := (16, .inl (fun _ => 0))) hx hb (hts (.arrayClass .int) (List.mem_of_getElem? (i := 4) rfl)) rfl hK hP hD hS hA (nwI 16) (by decide) (by decide) (by decide) (by show _ ≤ 5; omega) (by show _ ≤ 80; omega) dX5_init_23 (fun a5 cA6 H hK2 hP hD hS => ?_)
  obtain rfl : cA6 = cy 0 := ra_uniq hK2 6 0 rfl rfl
  have hP : va_P D vwCl ([(a, .inr (5, [.ref a1, .ref a3, .null, .null, .null, .int 0, .int 0, .int 0])), (a1, .inl (cy 0, 16, .inl (fun _ => 0))), (a3, .inl (cy 0, 16, .inl (fun _ => 0))), (a5, .inl (cy 0, 16, .inl (fun _ => 0)))]) H := hP
  have hD : va_D _ ([(a, .inr (5, [.ref a1, .ref a3, .null, .null, .null, .int 0, .int 0, .int 0])), (a1, .inl (cy 0, 16, .inl (fun _ => 0))), (a3, .inl (cy 0, 16, .inl (fun _ => 0))), (a5, .inl (cy 0, 16, .inl (fun _ => 0)))]) := hD
  refine va_putF (D := D) (ci := 5) (v := .ref a5) (ty := (.array .int)) (C := RX5) (T := TX5) (N := 8) hx hb hts iX5_init_5 tyX5 tyX5_ok nmX5 hown hK hP hD hS 0 rfl rfl 2 (by decide) (hts (.fieldLink RX5 18 "FondsRoom$Plan" "amounts" "[I") (List.mem_of_getElem? (i := 7) rfl)) (fun _ h9 => h9) rfl hin rfl (by decide +kernel) rfl rfl (Nat.le_of_ble_eq_true rfl) dX5_init_25 (fun H locs hP hD hS => ?_)
  have hP : va_P D vwCl ([(a, .inr (5, [.ref a1, .ref a3, .ref a5, .null, .null, .int 0, .int 0, .int 0])), (a1, .inl (cy 0, 16, .inl (fun _ => 0))), (a3, .inl (cy 0, 16, .inl (fun _ => 0))), (a5, .inl (cy 0, 16, .inl (fun _ => 0)))]) H := hP
  have hD : va_D _ ([(a, .inr (5, [.ref a1, .ref a3, .ref a5, .null, .null, .int 0, .int 0, .int 0])), (a1, .inl (cy 0, 16, .inl (fun _ => 0))), (a3, .inl (cy 0, 16, .inl (fun _ => 0))), (a5, .inl (cy 0, 16, .inl (fun _ => 0)))]) := hD
  refine lv_aload_n hx hb dX5_init_28 rfl (lv_at hl 0 rfl) ?_
  refine lv_bipush (v := 16) hx hb dX5_init_29 (by decide) ?_
  refine va_newa (atype := .boolean) (ty := .boolean) (a0 := (16, .inl (fun _ => 0))) hx hb (hts (.arrayClass .boolean) (List.mem_of_getElem? (i := 8) rfl)) rfl hK hP hD hS hA (nwZ 16) (by decide) (by decide) (by decide) (by show _ ≤ 5; omega) (by show _ ≤ 80; omega) dX5_init_31 (fun a7 cA8 H hK2 hP hD hS => ?_)
  obtain rfl : cA8 = cy 1 := ra_uniq hK2 6 1 rfl rfl
  have hP : va_P D vwCl ([(a, .inr (5, [.ref a1, .ref a3, .ref a5, .null, .null, .int 0, .int 0, .int 0])), (a1, .inl (cy 0, 16, .inl (fun _ => 0))), (a3, .inl (cy 0, 16, .inl (fun _ => 0))), (a5, .inl (cy 0, 16, .inl (fun _ => 0))), (a7, .inl (cy 1, 16, .inl (fun _ => 0)))]) H := hP
  have hD : va_D _ ([(a, .inr (5, [.ref a1, .ref a3, .ref a5, .null, .null, .int 0, .int 0, .int 0])), (a1, .inl (cy 0, 16, .inl (fun _ => 0))), (a3, .inl (cy 0, 16, .inl (fun _ => 0))), (a5, .inl (cy 0, 16, .inl (fun _ => 0))), (a7, .inl (cy 1, 16, .inl (fun _ => 0)))]) := hD
  refine va_putF (D := D) (ci := 5) (v := .ref a7) (ty := (.array .boolean)) (C := RX5) (T := TX5) (N := 8) hx hb hts iX5_init_5 tyX5 tyX5_ok nmX5 hown hK hP hD hS 0 rfl rfl 3 (by decide) (hts (.fieldLink RX5 21 "FondsRoom$Plan" "urgents" "[Z") (List.mem_of_getElem? (i := 9) rfl)) (fun _ h9 => h9) rfl hin rfl (by decide +kernel) rfl rfl (Nat.le_of_ble_eq_true rfl) dX5_init_33 (fun H locs hP hD hS => ?_)
  have hP : va_P D vwCl ([(a, .inr (5, [.ref a1, .ref a3, .ref a5, .ref a7, .null, .int 0, .int 0, .int 0])), (a1, .inl (cy 0, 16, .inl (fun _ => 0))), (a3, .inl (cy 0, 16, .inl (fun _ => 0))), (a5, .inl (cy 0, 16, .inl (fun _ => 0))), (a7, .inl (cy 1, 16, .inl (fun _ => 0)))]) H := hP
  have hD : va_D _ ([(a, .inr (5, [.ref a1, .ref a3, .ref a5, .ref a7, .null, .int 0, .int 0, .int 0])), (a1, .inl (cy 0, 16, .inl (fun _ => 0))), (a3, .inl (cy 0, 16, .inl (fun _ => 0))), (a5, .inl (cy 0, 16, .inl (fun _ => 0))), (a7, .inl (cy 1, 16, .inl (fun _ => 0)))]) := hD
  refine lv_aload_n hx hb dX5_init_36 rfl (lv_at hl 0 rfl) ?_
  refine lv_bipush (v := 16) hx hb dX5_init_37 (by decide) ?_
  refine va_newa (atype := .int) (ty := .int) (a0 := (16, .inl (fun _ => 0))) hx hb (hts (.arrayClass .int) (List.mem_of_getElem? (i := 4) rfl)) rfl hK hP hD hS hA (nwI 16) (by decide) (by decide) (by decide) (by show _ ≤ 5; omega) (by show _ ≤ 80; omega) dX5_init_39 (fun a9 cA10 H hK2 hP hD hS => ?_)
  obtain rfl : cA10 = cy 0 := ra_uniq hK2 6 0 rfl rfl
  have hP : va_P D vwCl ([(a, .inr (5, [.ref a1, .ref a3, .ref a5, .ref a7, .null, .int 0, .int 0, .int 0])), (a1, .inl (cy 0, 16, .inl (fun _ => 0))), (a3, .inl (cy 0, 16, .inl (fun _ => 0))), (a5, .inl (cy 0, 16, .inl (fun _ => 0))), (a7, .inl (cy 1, 16, .inl (fun _ => 0))), (a9, .inl (cy 0, 16, .inl (fun _ => 0)))]) H := hP
  have hD : va_D _ ([(a, .inr (5, [.ref a1, .ref a3, .ref a5, .ref a7, .null, .int 0, .int 0, .int 0])), (a1, .inl (cy 0, 16, .inl (fun _ => 0))), (a3, .inl (cy 0, 16, .inl (fun _ => 0))), (a5, .inl (cy 0, 16, .inl (fun _ => 0))), (a7, .inl (cy 1, 16, .inl (fun _ => 0))), (a9, .inl (cy 0, 16, .inl (fun _ => 0)))]) := hD
  refine va_putF (D := D) (ci := 5) (v := .ref a9) (ty := (.array .int)) (C := RX5) (T := TX5) (N := 8) hx hb hts iX5_init_5 tyX5 tyX5_ok nmX5 hown hK hP hD hS 0 rfl rfl 4 (by decide) (hts (.fieldLink RX5 25 "FondsRoom$Plan" "rules" "[I") (List.mem_of_getElem? (i := 10) rfl)) (fun _ h9 => h9) rfl hin rfl (by decide +kernel) rfl rfl (Nat.le_of_ble_eq_true rfl) dX5_init_41 (fun H locs hP hD hS => ?_)
  have hP : va_P D vwCl ([(a, .inr (5, [.ref a1, .ref a3, .ref a5, .ref a7, .ref a9, .int 0, .int 0, .int 0])), (a1, .inl (cy 0, 16, .inl (fun _ => 0))), (a3, .inl (cy 0, 16, .inl (fun _ => 0))), (a5, .inl (cy 0, 16, .inl (fun _ => 0))), (a7, .inl (cy 1, 16, .inl (fun _ => 0))), (a9, .inl (cy 0, 16, .inl (fun _ => 0)))]) H := hP
  have hD : va_D _ ([(a, .inr (5, [.ref a1, .ref a3, .ref a5, .ref a7, .ref a9, .int 0, .int 0, .int 0])), (a1, .inl (cy 0, 16, .inl (fun _ => 0))), (a3, .inl (cy 0, 16, .inl (fun _ => 0))), (a5, .inl (cy 0, 16, .inl (fun _ => 0))), (a7, .inl (cy 1, 16, .inl (fun _ => 0))), (a9, .inl (cy 0, 16, .inl (fun _ => 0)))]) := hD
  refine W.widen (k := 5) (n := 80) (by omega) (by omega) ?_
  exact W.vret hx hb hr (fun t ht hW => ⟨⟨(fun k => ([a1, a3, a5, a7, a9] : List Nat).getD k 0, fun _ => fun _ => none), rfl, trivial, by rw [ht]; exact hP, va_K.moved hW.alike hK, hD⟩, hS.F ht⟩) hS.2.2 dX5_init_44

theorem iX6_init_5 : ∀ w ∈ wsX50, w ∈ wsX6_init := fun _ h => List.mem_cons_of_mem _ (List.mem_append_right _ h)
theorem iX6_init_6 : ∀ w ∈ wsX60, w ∈ wsX6_init := fun _ h => List.mem_cons_of_mem _ (List.mem_append_left _ (List.mem_append_right _ h))
set_option maxHeartbeats 8000000 in
set_option maxRecDepth 100000 in
theorem mX6_init (l : Launch) (D : va_G) (cy : Nat → ClassId) (sz : Nat) (a : Nat) (i1 : Int32) : Met l yX6_init wsX6_init ({ frames := 2, cells := 6, slots := 88, locals := 32 }) (PWi D (TYS cy) [(a, .inr (6, [.int 0, .null, .int 0, .int 0, .int 0, .int 0, .int 0, .null, .null, .int 0, .int 0, .int 0, .int 0, .int 0, .int 0, .int 0, .int 0]))] sz [.ref a, .int i1]) (QU D (TYS cy) [(a, .inr (6, [.int 0, .null, .int 0, .int 0, .int 0, .int 0, .int 0, .null, .null, .int 0, .int 0, .int 0, .int 0, .int 0, .int 0, .int 0, .int 0]))] (fun u v => [(a, .inr (6, [.int i1, .ref (u 0), .int 0, .int 0, .int 0, .int 0, .int 0, .null, .null, .int 0, .int 0, .int 0, .int 0, .int 0, .int 0, .int 0, .int 0])), (u 0, .inr (5, [.ref (u 1), .ref (u 2), .ref (u 3), .ref (u 4), .ref (u 5), .int 0, .int 0, .int 0])), (u 1, .inl (cy 0, 16, .inl (fun _ => 0))), (u 2, .inl (cy 0, 16, .inl (fun _ => 0))), (u 3, .inl (cy 0, 16, .inl (fun _ => 0))), (u 4, .inl (cy 1, 16, .inl (fun _ => 0))), (u 5, .inl (cy 0, 16, .inl (fun _ => 0)))]) sz) 6 88 (va_A [(a, .inr (6, [.int 0, .null, .int 0, .int 0, .int 0, .int 0, .int 0, .null, .null, .int 0, .int 0, .int 0, .int 0, .int 0, .int 0, .int 0, .int 0]))] sz) := by
  refine Met.ofW (cc := cX6_init) (maxL := 2) (ret := none) (by decide) rfl ?_
  intro p e s m args below meth c s₁ B hml hv
  obtain ⟨rfl, hsz, hP, hK, hD0, hE⟩ := hv
  have hx := B.exec
  have hb := B.bytes
  have hr := B.returns
  have hts := atoms_spec (ws := wsX6_init) B.pre
  have hown : s.vm.findClass RX6 = some m.cls := findClass_of_methodNamed B.named
  have hlocks := B.notSynchronized
  have hin : meth.name = "<init>" := (name_of_methodNamed B.named B.method).1
  subst hsz
  have hD := hD0.self (sz := s.heap.size)
  have hA : ∀ q9 : Nat, s.heap.size ≤ q9 → va_A [(a, .inr (6, [.int 0, .null, .int 0, .int 0, .int 0, .int 0, .int 0, .null, .null, .int 0, .int 0, .int 0, .int 0, .int 0, .int 0, .int 0, .int 0]))] s.heap.size q9 := fun q9 h => Or.inr h
  have hS : va_S (va_A [(a, .inr (6, [.int 0, .null, .int 0, .int 0, .int 0, .int 0, .int 0, .null, .null, .int 0, .int 0, .int 0, .int 0, .int 0, .int 0, .int 0, .int 0]))] s.heap.size) s.heap s.heap [] := va_S.rf
  have hl := lv_entry ([.ref a, .int i1]) (n := 2) (Nat.le_of_ble_eq_true rfl)
  rw [lg_entry_eq]
  generalize (lg_sl ([.ref a, .int i1]) ++ List.replicate (2 - (lg_sl ([.ref a, .int i1])).length) Slot.unset).toArray = ls at hl ⊢
  have hl : lv_has ls 2 [(0, .ref a), (1, .int i1)] := hl
  refine lv_aload_n hx hb dX6_init_0 rfl (lv_at hl 0 rfl) ?_
  refine W.objInit hx hb hown (hts (.methodLink RX6 1 objectInit) (List.mem_of_getElem? (i := 1) rfl)) (hts (.instanceMethod objectInit) (List.mem_of_getElem? (i := 2) rfl)) (hts _ (List.mem_cons_of_mem _ (List.mem_append_left _ (List.mem_append_left _ (List.mem_of_getElem? (i := 2) rfl))))) rfl (by rw [hml]; exact hl.1) rfl dX6_init_1 (Nat.le_of_ble_eq_true rfl) (Nat.le_of_ble_eq_true rfl) ?_
  refine W.eq (g2 := F0 m 4 ls []) rfl ?_
  refine lv_aload_n hx hb dX6_init_4 rfl (lv_at hl 0 rfl) ?_
  refine lv_iload_n hx hb dX6_init_5 rfl (lv_at hl 1 rfl) ?_
  refine va_putF (D := D) (ci := 6) (v := .int i1) (ty := .int) (C := RX6) (T := TX6) (N := 17) hx hb hts iX6_init_6 tyX6 tyX6_ok nmX6 hown hK hP hD hS 0 rfl rfl 0 (by decide) (hts (.fieldLink RX6 7 "FondsRoom$Reader" "number" "I") (List.mem_of_getElem? (i := 4) rfl)) (fun _ h9 => h9) rfl hin rfl (by decide +kernel) rfl rfl (Nat.le_of_ble_eq_true rfl) dX6_init_6 (fun H locs hP hD hS => ?_)
  have hP : va_P D vwCl ([(a, .inr (6, [.int i1, .null, .int 0, .int 0, .int 0, .int 0, .int 0, .null, .null, .int 0, .int 0, .int 0, .int 0, .int 0, .int 0, .int 0, .int 0]))]) H := hP
  have hD : va_D _ ([(a, .inr (6, [.int i1, .null, .int 0, .int 0, .int 0, .int 0, .int 0, .null, .null, .int 0, .int 0, .int 0, .int 0, .int 0, .int 0, .int 0, .int 0]))]) := hD
  refine lv_aload_n hx hb dX6_init_9 rfl (lv_at hl 0 rfl) ?_
  refine va_new (ci := 5) (fs := [.null, .null, .null, .null, .null, .int 0, .int 0, .int 0]) (C := RX5) (T := TX5) (N := 8) hx hb hts iX6_init_5 tyX5 tyX5_ok hown (hts (.classLink RX6 13 RX5) (List.mem_of_getElem? (i := 5) rfl)) (hts (.instantiable RX5 8) (List.mem_of_getElem? (i := 6) rfl)) (hts (.initialized RX5) (List.mem_of_getElem? (i := 7) rfl)) hK hP hD hS hA rfl (fun j hj => by rcases (show j = 0 ∨ j = 1 ∨ j = 2 ∨ j = 3 ∨ j = 4 ∨ j = 5 ∨ j = 6 ∨ j = 7 by omega) with rfl | rfl | rfl | rfl | rfl | rfl | rfl | rfl <;> rfl) (by show _ ≤ 6; omega) (by show _ ≤ 88; omega) dX6_init_10 (fun a1 H hP hD hS => ?_)
  have hP : va_P D vwCl ([(a, .inr (6, [.int i1, .null, .int 0, .int 0, .int 0, .int 0, .int 0, .null, .null, .int 0, .int 0, .int 0, .int 0, .int 0, .int 0, .int 0, .int 0])), (a1, .inr (5, [.null, .null, .null, .null, .null, .int 0, .int 0, .int 0]))]) H := hP
  have hD : va_D _ ([(a, .inr (6, [.int i1, .null, .int 0, .int 0, .int 0, .int 0, .int 0, .null, .null, .int 0, .int 0, .int 0, .int 0, .int 0, .int 0, .int 0, .int 0])), (a1, .inr (5, [.null, .null, .null, .null, .null, .int 0, .int 0, .int 0]))]) := hD
  refine lv_dup hx hb dX6_init_13 rfl ?_
  refine ciV (wr := [(a, .inr (6, [.int i1, .null, .int 0, .int 0, .int 0, .int 0, .int 0, .null, .null, .int 0, .int 0, .int 0, .int 0, .int 0, .int 0, .int 0, .int 0]))]) (As := []) (rest := [.ref a1, .ref a]) ⟨hx, hb, hml, hown, hts⟩ (mX5_init l D cy _ a1 ) (cwI 0 hts gX6_init_X5_init rfl rfl rfl (hts (.initialized RX5) (List.mem_of_getElem? (i := 7) rfl)) (hts (.methodLink RX6 15 yX5_init) (List.mem_of_getElem? (i := 9) rfl)) (hts (.instanceMethod yX5_init) (List.mem_of_getElem? (i := 10) rfl)) rfl (by decide +kernel) ⟨Nat.le_of_ble_eq_true rfl, Nat.le_of_ble_eq_true rfl⟩) hE hK hP hD hS hA [1] [0] rfl rfl (by decide) (by decide) (by decide) rfl hl.1 rfl (Nat.le_of_ble_eq_true rfl) dX6_init_14 ⟨(by show _ ≤ 6; omega), (by show _ ≤ 88; omega)⟩ (fun u2 v3 H locs hP hD hS => ?_)
  have hP : va_P D vwCl ([(a, .inr (6, [.int i1, .null, .int 0, .int 0, .int 0, .int 0, .int 0, .null, .null, .int 0, .int 0, .int 0, .int 0, .int 0, .int 0, .int 0, .int 0])), (a1, .inr (5, [.ref (u2 0), .ref (u2 1), .ref (u2 2), .ref (u2 3), .ref (u2 4), .int 0, .int 0, .int 0])), (u2 0, .inl (cy 0, 16, .inl (fun _ => 0))), (u2 1, .inl (cy 0, 16, .inl (fun _ => 0))), (u2 2, .inl (cy 0, 16, .inl (fun _ => 0))), (u2 3, .inl (cy 1, 16, .inl (fun _ => 0))), (u2 4, .inl (cy 0, 16, .inl (fun _ => 0)))]) H := hP
  have hD : va_D _ ([(a, .inr (6, [.int i1, .null, .int 0, .int 0, .int 0, .int 0, .int 0, .null, .null, .int 0, .int 0, .int 0, .int 0, .int 0, .int 0, .int 0, .int 0])), (a1, .inr (5, [.ref (u2 0), .ref (u2 1), .ref (u2 2), .ref (u2 3), .ref (u2 4), .int 0, .int 0, .int 0])), (u2 0, .inl (cy 0, 16, .inl (fun _ => 0))), (u2 1, .inl (cy 0, 16, .inl (fun _ => 0))), (u2 2, .inl (cy 0, 16, .inl (fun _ => 0))), (u2 3, .inl (cy 1, 16, .inl (fun _ => 0))), (u2 4, .inl (cy 0, 16, .inl (fun _ => 0)))]) := hD
  refine va_putF (D := D) (ci := 6) (v := .ref a1) (ty := (.object "FondsRoom$Plan")) (C := RX6) (T := TX6) (N := 17) hx hb hts iX6_init_6 tyX6 tyX6_ok nmX6 hown hK hP hD hS 0 rfl rfl 1 (by decide) (hts (.fieldLink RX6 16 "FondsRoom$Reader" "plan" "LFondsRoom$Plan;") (List.mem_of_getElem? (i := 8) rfl)) (fun _ h9 => h9) rfl hin rfl (by decide +kernel) rfl rfl (Nat.le_of_ble_eq_true rfl) dX6_init_17 (fun H locs hP hD hS => ?_)
  have hP : va_P D vwCl ([(a, .inr (6, [.int i1, .ref a1, .int 0, .int 0, .int 0, .int 0, .int 0, .null, .null, .int 0, .int 0, .int 0, .int 0, .int 0, .int 0, .int 0, .int 0])), (a1, .inr (5, [.ref (u2 0), .ref (u2 1), .ref (u2 2), .ref (u2 3), .ref (u2 4), .int 0, .int 0, .int 0])), (u2 0, .inl (cy 0, 16, .inl (fun _ => 0))), (u2 1, .inl (cy 0, 16, .inl (fun _ => 0))), (u2 2, .inl (cy 0, 16, .inl (fun _ => 0))), (u2 3, .inl (cy 1, 16, .inl (fun _ => 0))), (u2 4, .inl (cy 0, 16, .inl (fun _ => 0)))]) H := hP
  have hD : va_D _ ([(a, .inr (6, [.int i1, .ref a1, .int 0, .int 0, .int 0, .int 0, .int 0, .null, .null, .int 0, .int 0, .int 0, .int 0, .int 0, .int 0, .int 0, .int 0])), (a1, .inr (5, [.ref (u2 0), .ref (u2 1), .ref (u2 2), .ref (u2 3), .ref (u2 4), .int 0, .int 0, .int 0])), (u2 0, .inl (cy 0, 16, .inl (fun _ => 0))), (u2 1, .inl (cy 0, 16, .inl (fun _ => 0))), (u2 2, .inl (cy 0, 16, .inl (fun _ => 0))), (u2 3, .inl (cy 1, 16, .inl (fun _ => 0))), (u2 4, .inl (cy 0, 16, .inl (fun _ => 0)))]) := hD
  refine W.widen (k := 6) (n := 88) (by omega) (by omega) ?_
  exact W.vret hx hb hr (fun t ht hW => ⟨⟨(fun k => ([a1, u2 0, u2 1, u2 2, u2 3, u2 4] : List Nat).getD k 0, fun _ => fun _ => none), rfl, trivial, by rw [ht]; exact hP, va_K.moved hW.alike hK, hD⟩, hS.F ht⟩) hS.2.2 dX6_init_20

theorem iX3_init_3 : ∀ w ∈ wsX30, w ∈ wsX3_init := fun _ h => List.mem_cons_of_mem _ (List.mem_append_right _ h)
set_option maxHeartbeats 8000000 in
set_option maxRecDepth 100000 in
theorem mX3_init (l : Launch) (D : va_G) (cy : Nat → ClassId) (sz : Nat) (a : Nat) : Met l yX3_init wsX3_init ({ frames := 1, cells := 1, slots := 20, locals := 12 }) (PWi D (TYS cy) [(a, .inr (3, [.null, .int 0]))] sz [.ref a]) (QU D (TYS cy) [(a, .inr (3, [.null, .int 0]))] (fun u v => [(a, .inr (3, [.ref (u 0), .int 0])), (u 0, .inl (cy 4, 20, .inr (.inr (.inr (.inr (fun _ => none))))))]) sz) 1 20 (va_A [(a, .inr (3, [.null, .int 0]))] sz) := by
  refine Met.ofW (cc := cX3_init) (maxL := 1) (ret := none) (by decide) rfl ?_
  intro p e s m args below meth c s₁ B hml hv
  obtain ⟨rfl, hsz, hP, hK, hD0, hE⟩ := hv
  have hx := B.exec
  have hb := B.bytes
  have hr := B.returns
  have hts := atoms_spec (ws := wsX3_init) B.pre
  have hown : s.vm.findClass RX3 = some m.cls := findClass_of_methodNamed B.named
  have hlocks := B.notSynchronized
  have hin : meth.name = "<init>" := (name_of_methodNamed B.named B.method).1
  subst hsz
  have hD := hD0.self (sz := s.heap.size)
  have hA : ∀ q9 : Nat, s.heap.size ≤ q9 → va_A [(a, .inr (3, [.null, .int 0]))] s.heap.size q9 := fun q9 h => Or.inr h
  have hS : va_S (va_A [(a, .inr (3, [.null, .int 0]))] s.heap.size) s.heap s.heap [] := va_S.rf
  have hl := lv_entry ([.ref a]) (n := 1) (Nat.le_of_ble_eq_true rfl)
  rw [lg_entry_eq]
  generalize (lg_sl ([.ref a]) ++ List.replicate (1 - (lg_sl ([.ref a])).length) Slot.unset).toArray = ls at hl ⊢
  have hl : lv_has ls 1 [(0, .ref a)] := hl
  refine lv_aload_n hx hb dX3_init_0 rfl (lv_at hl 0 rfl) ?_
  refine W.objInit hx hb hown (hts (.methodLink RX3 3 objectInit) (List.mem_of_getElem? (i := 1) rfl)) (hts (.instanceMethod objectInit) (List.mem_of_getElem? (i := 2) rfl)) (hts _ (List.mem_cons_of_mem _ (List.mem_append_left _ (List.mem_of_getElem? (i := 2) rfl)))) rfl (by rw [hml]; exact hl.1) rfl dX3_init_1 (Nat.le_of_ble_eq_true rfl) (Nat.le_of_ble_eq_true rfl) ?_
  refine W.eq (g2 := F0 m 4 ls []) rfl ?_
  refine lv_aload_n hx hb dX3_init_4 rfl (lv_at hl 0 rfl) ?_
  refine lv_bipush (v := 20) hx hb dX3_init_5 (by decide) ?_
  refine va_newq (N' := 20) hx hb hown (hts (.classLink RX3 9 RX6) (List.mem_of_getElem? (i := 4) rfl)) hE.2.2.1 hK hP hD hS hA (by decide) (by decide) (by decide) (by show _ ≤ 1; omega) (by show _ ≤ 20; omega) dX3_init_7 (fun a1 cA2 H hK2 hP hD hS => ?_)
  obtain rfl : cA2 = cy 4 := ra_uniq hK2 6 4 rfl rfl
  have hP : va_P D vwCl ([(a, .inr (3, [.null, .int 0])), (a1, .inl (cy 4, 20, .inr (.inr (.inr (.inr (fun _ => none))))))]) H := hP
  have hD : va_D _ ([(a, .inr (3, [.null, .int 0])), (a1, .inl (cy 4, 20, .inr (.inr (.inr (.inr (fun _ => none))))))]) := hD
  refine va_putF (D := D) (ci := 3) (v := .ref a1) (ty := (.array (.object "FondsRoom$Reader"))) (C := RX3) (T := TX3) (N := 2) hx hb hts iX3_init_3 tyX3 tyX3_ok nmX3 hown hK hP hD hS 0 rfl rfl 0 (by decide) (hts (.fieldLink RX3 11 "FondsRoom$Line" "places" "[LFondsRoom$Reader;") (List.mem_of_getElem? (i := 5) rfl)) (fun _ h9 => h9) rfl hin rfl (by decide +kernel) rfl rfl (Nat.le_of_ble_eq_true rfl) dX3_init_10 (fun H locs hP hD hS => ?_)
  have hP : va_P D vwCl ([(a, .inr (3, [.ref a1, .int 0])), (a1, .inl (cy 4, 20, .inr (.inr (.inr (.inr (fun _ => none))))))]) H := hP
  have hD : va_D _ ([(a, .inr (3, [.ref a1, .int 0])), (a1, .inl (cy 4, 20, .inr (.inr (.inr (.inr (fun _ => none))))))]) := hD
  refine W.widen (k := 1) (n := 20) (by omega) (by omega) ?_
  exact W.vret hx hb hr (fun t ht hW => ⟨⟨(fun k => ([a1] : List Nat).getD k 0, fun _ => fun _ => none), rfl, trivial, by rw [ht]; exact hP, va_K.moved hW.alike hK, hD⟩, hS.F ht⟩) hS.2.2 dX3_init_13

theorem iX4_init_4 : ∀ w ∈ wsX40, w ∈ wsX4_init := fun _ h => List.mem_cons_of_mem _ (List.mem_append_right _ h)
set_option maxHeartbeats 8000000 in
set_option maxRecDepth 100000 in
theorem mX4_init (l : Launch) (D : va_G) (cy : Nat → ClassId) (sz : Nat) (a : Nat) : Met l yX4_init wsX4_init ({ frames := 1, cells := 3, slots := 90, locals := 12 }) (PWi D (TYS cy) [(a, .inr (4, [.null, .null, .null, .int 0]))] sz [.ref a]) (QU D (TYS cy) [(a, .inr (4, [.null, .null, .null, .int 0]))] (fun u v => [(a, .inr (4, [.ref (u 0), .ref (u 1), .ref (u 2), .int 0])), (u 0, .inl (cy 0, 30, .inl (fun _ => 0))), (u 1, .inl (cy 0, 30, .inl (fun _ => 0))), (u 2, .inl (cy 0, 30, .inl (fun _ => 0)))]) sz) 3 90 (va_A [(a, .inr (4, [.null, .null, .null, .int 0]))] sz) := by
  refine Met.ofW (cc := cX4_init) (maxL := 1) (ret := none) (by decide) rfl ?_
  intro p e s m args below meth c s₁ B hml hv
  obtain ⟨rfl, hsz, hP, hK, hD0, hE⟩ := hv
  have hx := B.exec
  have hb := B.bytes
  have hr := B.returns
  have hts := atoms_spec (ws := wsX4_init) B.pre
  have hown : s.vm.findClass RX4 = some m.cls := findClass_of_methodNamed B.named
  have hlocks := B.notSynchronized
  have hin : meth.name = "<init>" := (name_of_methodNamed B.named B.method).1
  subst hsz
  have hD := hD0.self (sz := s.heap.size)
  have hA : ∀ q9 : Nat, s.heap.size ≤ q9 → va_A [(a, .inr (4, [.null, .null, .null, .int 0]))] s.heap.size q9 := fun q9 h => Or.inr h
  have hS : va_S (va_A [(a, .inr (4, [.null, .null, .null, .int 0]))] s.heap.size) s.heap s.heap [] := va_S.rf
  have hl := lv_entry ([.ref a]) (n := 1) (Nat.le_of_ble_eq_true rfl)
  rw [lg_entry_eq]
  generalize (lg_sl ([.ref a]) ++ List.replicate (1 - (lg_sl ([.ref a])).length) Slot.unset).toArray = ls at hl ⊢
  have hl : lv_has ls 1 [(0, .ref a)] := hl
  refine lv_aload_n hx hb dX4_init_0 rfl (lv_at hl 0 rfl) ?_
  refine W.objInit hx hb hown (hts (.methodLink RX4 3 objectInit) (List.mem_of_getElem? (i := 1) rfl)) (hts (.instanceMethod objectInit) (List.mem_of_getElem? (i := 2) rfl)) (hts _ (List.mem_cons_of_mem _ (List.mem_append_left _ (List.mem_of_getElem? (i := 2) rfl)))) rfl (by rw [hml]; exact hl.1) rfl dX4_init_1 (Nat.le_of_ble_eq_true rfl) (Nat.le_of_ble_eq_true rfl) ?_
  refine W.eq (g2 := F0 m 4 ls []) rfl ?_
  refine lv_aload_n hx hb dX4_init_4 rfl (lv_at hl 0 rfl) ?_
  refine lv_bipush (v := 30) hx hb dX4_init_5 (by decide) ?_
  refine va_newa (atype := .int) (ty := .int) (a0 := (30, .inl (fun _ => 0))) hx hb (hts (.arrayClass .int) (List.mem_of_getElem? (i := 4) rfl)) rfl hK hP hD hS hA (nwI 30) (by decide) (by decide) (by decide) (by show _ ≤ 3; omega) (by show _ ≤ 90; omega) dX4_init_7 (fun a1 cA2 H hK2 hP hD hS => ?_)
  obtain rfl : cA2 = cy 0 := ra_uniq hK2 6 0 rfl rfl
  have hP : va_P D vwCl ([(a, .inr (4, [.null, .null, .null, .int 0])), (a1, .inl (cy 0, 30, .inl (fun _ => 0)))]) H := hP
  have hD : va_D _ ([(a, .inr (4, [.null, .null, .null, .int 0])), (a1, .inl (cy 0, 30, .inl (fun _ => 0)))]) := hD
  refine va_putF (D := D) (ci := 4) (v := .ref a1) (ty := (.array .int)) (C := RX4) (T := TX4) (N := 4) hx hb hts iX4_init_4 tyX4 tyX4_ok nmX4 hown hK hP hD hS 0 rfl rfl 0 (by decide) (hts (.fieldLink RX4 9 "FondsRoom$Mishaps" "turns" "[I") (List.mem_of_getElem? (i := 5) rfl)) (fun _ h9 => h9) rfl hin rfl (by decide +kernel) rfl rfl (Nat.le_of_ble_eq_true rfl) dX4_init_9 (fun H locs hP hD hS => ?_)
  have hP : va_P D vwCl ([(a, .inr (4, [.ref a1, .null, .null, .int 0])), (a1, .inl (cy 0, 30, .inl (fun _ => 0)))]) H := hP
  have hD : va_D _ ([(a, .inr (4, [.ref a1, .null, .null, .int 0])), (a1, .inl (cy 0, 30, .inl (fun _ => 0)))]) := hD
  refine lv_aload_n hx hb dX4_init_12 rfl (lv_at hl 0 rfl) ?_
  refine lv_bipush (v := 30) hx hb dX4_init_13 (by decide) ?_
  refine va_newa (atype := .int) (ty := .int) (a0 := (30, .inl (fun _ => 0))) hx hb (hts (.arrayClass .int) (List.mem_of_getElem? (i := 4) rfl)) rfl hK hP hD hS hA (nwI 30) (by decide) (by decide) (by decide) (by show _ ≤ 3; omega) (by show _ ≤ 90; omega) dX4_init_15 (fun a3 cA4 H hK2 hP hD hS => ?_)
  obtain rfl : cA4 = cy 0 := ra_uniq hK2 6 0 rfl rfl
  have hP : va_P D vwCl ([(a, .inr (4, [.ref a1, .null, .null, .int 0])), (a1, .inl (cy 0, 30, .inl (fun _ => 0))), (a3, .inl (cy 0, 30, .inl (fun _ => 0)))]) H := hP
  have hD : va_D _ ([(a, .inr (4, [.ref a1, .null, .null, .int 0])), (a1, .inl (cy 0, 30, .inl (fun _ => 0))), (a3, .inl (cy 0, 30, .inl (fun _ => 0)))]) := hD
  refine va_putF (D := D) (ci := 4) (v := .ref a3) (ty := (.array .int)) (C := RX4) (T := TX4) (N := 4) hx hb hts iX4_init_4 tyX4 tyX4_ok nmX4 hown hK hP hD hS 0 rfl rfl 1 (by decide) (hts (.fieldLink RX4 15 "FondsRoom$Mishaps" "kinds" "[I") (List.mem_of_getElem? (i := 6) rfl)) (fun _ h9 => h9) rfl hin rfl (by decide +kernel) rfl rfl (Nat.le_of_ble_eq_true rfl) dX4_init_17 (fun H locs hP hD hS => ?_)
  have hP : va_P D vwCl ([(a, .inr (4, [.ref a1, .ref a3, .null, .int 0])), (a1, .inl (cy 0, 30, .inl (fun _ => 0))), (a3, .inl (cy 0, 30, .inl (fun _ => 0)))]) H := hP
  have hD : va_D _ ([(a, .inr (4, [.ref a1, .ref a3, .null, .int 0])), (a1, .inl (cy 0, 30, .inl (fun _ => 0))), (a3, .inl (cy 0, 30, .inl (fun _ => 0)))]) := hD
  refine lv_aload_n hx hb dX4_init_20 rfl (lv_at hl 0 rfl) ?_
  refine lv_bipush (v := 30) hx hb dX4_init_21 (by decide) ?_
  refine va_newa (atype := .int) (ty := .int) (a0 := (30, .inl (fun _ => 0))) hx hb (hts (.arrayClass .int) (List.mem_of_getElem? (i := 4) rfl)) rfl hK hP hD hS hA (nwI 30) (by decide) (by decide) (by decide) (by show _ ≤ 3; omega) (by show _ ≤ 90; omega) dX4_init_23 (fun a5 cA6 H hK2 hP hD hS => ?_)
  obtain rfl : cA6 = cy 0 := ra_uniq hK2 6 0 rfl rfl
  have hP : va_P D vwCl ([(a, .inr (4, [.ref a1, .ref a3, .null, .int 0])), (a1, .inl (cy 0, 30, .inl (fun _ => 0))), (a3, .inl (cy 0, 30, .inl (fun _ => 0))), (a5, .inl (cy 0, 30, .inl (fun _ => 0)))]) H := hP
  have hD : va_D _ ([(a, .inr (4, [.ref a1, .ref a3, .null, .int 0])), (a1, .inl (cy 0, 30, .inl (fun _ => 0))), (a3, .inl (cy 0, 30, .inl (fun _ => 0))), (a5, .inl (cy 0, 30, .inl (fun _ => 0)))]) := hD
  refine va_putF (D := D) (ci := 4) (v := .ref a5) (ty := (.array .int)) (C := RX4) (T := TX4) (N := 4) hx hb hts iX4_init_4 tyX4 tyX4_ok nmX4 hown hK hP hD hS 0 rfl rfl 2 (by decide) (hts (.fieldLink RX4 18 "FondsRoom$Mishaps" "whos" "[I") (List.mem_of_getElem? (i := 7) rfl)) (fun _ h9 => h9) rfl hin rfl (by decide +kernel) rfl rfl (Nat.le_of_ble_eq_true rfl) dX4_init_25 (fun H locs hP hD hS => ?_)
  have hP : va_P D vwCl ([(a, .inr (4, [.ref a1, .ref a3, .ref a5, .int 0])), (a1, .inl (cy 0, 30, .inl (fun _ => 0))), (a3, .inl (cy 0, 30, .inl (fun _ => 0))), (a5, .inl (cy 0, 30, .inl (fun _ => 0)))]) H := hP
  have hD : va_D _ ([(a, .inr (4, [.ref a1, .ref a3, .ref a5, .int 0])), (a1, .inl (cy 0, 30, .inl (fun _ => 0))), (a3, .inl (cy 0, 30, .inl (fun _ => 0))), (a5, .inl (cy 0, 30, .inl (fun _ => 0)))]) := hD
  refine W.widen (k := 3) (n := 90) (by omega) (by omega) ?_
  exact W.vret hx hb hr (fun t ht hW => ⟨⟨(fun k => ([a1, a3, a5] : List Nat).getD k 0, fun _ => fun _ => none), rfl, trivial, by rw [ht]; exact hP, va_K.moved hW.alike hK, hD⟩, hS.F ht⟩) hS.2.2 dX4_init_28

theorem iX2_init_2 : ∀ w ∈ wsX20, w ∈ wsX2_init := fun _ h => List.mem_cons_of_mem _ (List.mem_append_right _ h)
set_option maxHeartbeats 8000000 in
set_option maxRecDepth 100000 in
theorem mX2_init (l : Launch) (D : va_G) (cy : Nat → ClassId) (sz : Nat) (a : Nat) : Met l yX2_init wsX2_init ({ frames := 1, cells := 1, slots := 1600, locals := 12 }) (PWi D (TYS cy) [(a, .inr (2, [.null, .int 0]))] sz [.ref a]) (QU D (TYS cy) [(a, .inr (2, [.null, .int 0]))] (fun u v => [(a, .inr (2, [.ref (u 0), .int 0])), (u 0, .inl (cy 0, 1600, .inl (fun _ => 0)))]) sz) 1 1600 (va_A [(a, .inr (2, [.null, .int 0]))] sz) := by
  refine Met.ofW (cc := cX2_init) (maxL := 1) (ret := none) (by decide) rfl ?_
  intro p e s m args below meth c s₁ B hml hv
  obtain ⟨rfl, hsz, hP, hK, hD0, hE⟩ := hv
  have hx := B.exec
  have hb := B.bytes
  have hr := B.returns
  have hts := atoms_spec (ws := wsX2_init) B.pre
  have hown : s.vm.findClass RX2 = some m.cls := findClass_of_methodNamed B.named
  have hlocks := B.notSynchronized
  have hin : meth.name = "<init>" := (name_of_methodNamed B.named B.method).1
  subst hsz
  have hD := hD0.self (sz := s.heap.size)
  have hA : ∀ q9 : Nat, s.heap.size ≤ q9 → va_A [(a, .inr (2, [.null, .int 0]))] s.heap.size q9 := fun q9 h => Or.inr h
  have hS : va_S (va_A [(a, .inr (2, [.null, .int 0]))] s.heap.size) s.heap s.heap [] := va_S.rf
  have hl := lv_entry ([.ref a]) (n := 1) (Nat.le_of_ble_eq_true rfl)
  rw [lg_entry_eq]
  generalize (lg_sl ([.ref a]) ++ List.replicate (1 - (lg_sl ([.ref a])).length) Slot.unset).toArray = ls at hl ⊢
  have hl : lv_has ls 1 [(0, .ref a)] := hl
  refine lv_aload_n hx hb dX2_init_0 rfl (lv_at hl 0 rfl) ?_
  refine W.objInit hx hb hown (hts (.methodLink RX2 3 objectInit) (List.mem_of_getElem? (i := 1) rfl)) (hts (.instanceMethod objectInit) (List.mem_of_getElem? (i := 2) rfl)) (hts _ (List.mem_cons_of_mem _ (List.mem_append_left _ (List.mem_of_getElem? (i := 2) rfl)))) rfl (by rw [hml]; exact hl.1) rfl dX2_init_1 (Nat.le_of_ble_eq_true rfl) (Nat.le_of_ble_eq_true rfl) ?_
  refine W.eq (g2 := F0 m 4 ls []) rfl ?_
  refine lv_aload_n hx hb dX2_init_4 rfl (lv_at hl 0 rfl) ?_
  refine lv_sipush (v := 1600) hx hb dX2_init_5 (by decide) ?_
  refine va_newa (atype := .int) (ty := .int) (a0 := (1600, .inl (fun _ => 0))) hx hb (hts (.arrayClass .int) (List.mem_of_getElem? (i := 4) rfl)) rfl hK hP hD hS hA (nwI 1600) (by decide) (by decide) (by decide) (by show _ ≤ 1; omega) (by show _ ≤ 1600; omega) dX2_init_8 (fun a1 cA2 H hK2 hP hD hS => ?_)
  obtain rfl : cA2 = cy 0 := ra_uniq hK2 6 0 rfl rfl
  have hP : va_P D vwCl ([(a, .inr (2, [.null, .int 0])), (a1, .inl (cy 0, 1600, .inl (fun _ => 0)))]) H := hP
  have hD : va_D _ ([(a, .inr (2, [.null, .int 0])), (a1, .inl (cy 0, 1600, .inl (fun _ => 0)))]) := hD
  refine va_putF (D := D) (ci := 2) (v := .ref a1) (ty := (.array .int)) (C := RX2) (T := TX2) (N := 2) hx hb hts iX2_init_2 tyX2 tyX2_ok nmX2 hown hK hP hD hS 0 rfl rfl 0 (by decide) (hts (.fieldLink RX2 11 "FondsRoom$Events" "rows" "[I") (List.mem_of_getElem? (i := 5) rfl)) (fun _ h9 => h9) rfl hin rfl (by decide +kernel) rfl rfl (Nat.le_of_ble_eq_true rfl) dX2_init_10 (fun H locs hP hD hS => ?_)
  have hP : va_P D vwCl ([(a, .inr (2, [.ref a1, .int 0])), (a1, .inl (cy 0, 1600, .inl (fun _ => 0)))]) H := hP
  have hD : va_D _ ([(a, .inr (2, [.ref a1, .int 0])), (a1, .inl (cy 0, 1600, .inl (fun _ => 0)))]) := hD
  refine W.widen (k := 1) (n := 1600) (by omega) (by omega) ?_
  exact W.vret hx hb hr (fun t ht hW => ⟨⟨(fun k => ([a1] : List Nat).getD k 0, fun _ => fun _ => none), rfl, trivial, by rw [ht]; exact hP, va_K.moved hW.alike hK, hD⟩, hS.F ht⟩) hS.2.2 dX2_init_13

theorem iX7_init_7 : ∀ w ∈ wsX70, w ∈ wsX7_init := fun _ h => List.mem_cons_of_mem _ (List.mem_append_left _ (List.mem_append_right _ h))
theorem iX7_init_8 : ∀ w ∈ wsX80, w ∈ wsX7_init := fun _ h => List.mem_cons_of_mem _ (List.mem_append_right _ h)
set_option maxHeartbeats 8000000 in
set_option maxRecDepth 100000 in
theorem mX7_init_F (l : Launch) (D : va_G) (cy : Nat → ClassId) (sz : Nat) (a : Nat) : Met l yX7_init wsX7_init ({ frames := 2, cells := 5, slots := 16, locals := 32 }) (PWi D (TYS cy) [(a, .inr (7, [.null, .int 0]))] sz [.ref a, .int 4, .int 2]) (QU D (TYS cy) [(a, .inr (7, [.null, .int 0]))] (fun u v => [(a, .inr (7, [.ref (u 0), .int 2])), (u 0, .inl (cy 5, 4, .inr (.inr (.inr (.inr (va_up (va_up (va_up (va_up (fun _ => none) 0 (some (u 1))) 1 (some (u 2))) 2 (some (u 3))) 3 (some (u 4)))))))), (u 1, .inr (8, [.null, .null, .int 0])), (u 2, .inr (8, [.null, .null, .int 0])), (u 3, .inr (8, [.null, .null, .int 0])), (u 4, .inr (8, [.null, .null, .int 0]))]) sz) 5 16 (va_A [(a, .inr (7, [.null, .int 0]))] sz) := by
  refine Met.ofW (cc := cX7_init) (maxL := 5) (ret := none) (by decide) rfl ?_
  intro p e s m args below meth c s₁ B hml hv
  obtain ⟨rfl, hsz, hP, hK, hD0, hE⟩ := hv
  have hx := B.exec
  have hb := B.bytes
  have hr := B.returns
  have hts := atoms_spec (ws := wsX7_init) B.pre
  have hown : s.vm.findClass RX7 = some m.cls := findClass_of_methodNamed B.named
  have hlocks := B.notSynchronized
  have hin : meth.name = "<init>" := (name_of_methodNamed B.named B.method).1
  subst hsz
  have hD := hD0.self (sz := s.heap.size)
  have hA : ∀ q9 : Nat, s.heap.size ≤ q9 → va_A [(a, .inr (7, [.null, .int 0]))] s.heap.size q9 := fun q9 h => Or.inr h
  have hS : va_S (va_A [(a, .inr (7, [.null, .int 0]))] s.heap.size) s.heap s.heap [] := va_S.rf
  have hl := lv_entry ([.ref a, .int 4, .int 2]) (n := 5) (Nat.le_of_ble_eq_true rfl)
  rw [lg_entry_eq]
  generalize (lg_sl ([.ref a, .int 4, .int 2]) ++ List.replicate (5 - (lg_sl ([.ref a, .int 4, .int 2])).length) Slot.unset).toArray = ls at hl ⊢
  have hl : lv_has ls 5 [(0, .ref a), (1, .int 4), (2, .int 2)] := hl
  refine lv_aload_n hx hb dX7_init_0 rfl (lv_at hl 0 rfl) ?_
  refine W.objInit hx hb hown (hts (.methodLink RX7 1 objectInit) (List.mem_of_getElem? (i := 1) rfl)) (hts (.instanceMethod objectInit) (List.mem_of_getElem? (i := 2) rfl)) (hts _ (List.mem_cons_of_mem _ (List.mem_append_left _ (List.mem_append_left _ (List.mem_of_getElem? (i := 2) rfl))))) rfl (by rw [hml]; exact hl.1) rfl dX7_init_1 (Nat.le_of_ble_eq_true rfl) (Nat.le_of_ble_eq_true rfl) ?_
  refine W.eq (g2 := F0 m 4 ls []) rfl ?_
  refine lv_iload_n hx hb dX7_init_4 rfl (lv_at hl 1 rfl) ?_
  refine lv_iconst (v := 0) hx hb dX7_init_5 (by decide) ?_
  refine va_mmax hx hb (hml.trans hl.1.symm) hown (hts (.methodLink RX7 7 Lib.Math.max.name) (List.mem_of_getElem? (i := 4) rfl)) (hts (.static Lib.Math.max.name) (List.mem_of_getElem? (i := 5) rfl)) (hts (.initialized "java/lang/Math") (List.mem_of_getElem? (i := 6) rfl)) (hts (.code Lib.Math.max.name Lib.Math.max.code 2 (some .int)) (List.mem_of_getElem? (i := 7) rfl)) (Nat.le_of_ble_eq_true rfl) (Nat.le_of_ble_eq_true rfl) (by show _ ≤ 5; omega) (by show _ ≤ 16; omega) dX7_init_6 ?_
  refine lv_topi (fun y1 ey1 => ?_)
  obtain rfl : y1 = 4 := ey1.trans (by decide)
  refine lv_istore_n (lv' := [(3, .int 4), (0, .ref a), (1, .int 4), (2, .int 2)]) hx hb dX7_init_9 rfl hl (by decide) rfl (fun ls hl => ?_)
  refine lv_aload_n hx hb dX7_init_10 rfl (lv_at hl 1 rfl) ?_
  refine lv_iload_n hx hb dX7_init_11 rfl (lv_at hl 0 rfl) ?_
  refine va_newq (N' := 4) hx hb hown (hts (.classLink RX7 13 RX8) (List.mem_of_getElem? (i := 8) rfl)) hE.2.2.2.1 hK hP hD hS hA (by decide) (by decide) (by decide) (by show _ ≤ 5; omega) (by show _ ≤ 16; omega) dX7_init_12 (fun a2 cA3 H hK2 hP hD hS => ?_)
  obtain rfl : cA3 = cy 5 := ra_uniq hK2 6 5 rfl rfl
  have hP : va_P D vwCl ([(a, .inr (7, [.null, .int 0])), (a2, .inl (cy 5, 4, .inr (.inr (.inr (.inr (fun _ => none))))))]) H := hP
  have hD : va_D _ ([(a, .inr (7, [.null, .int 0])), (a2, .inl (cy 5, 4, .inr (.inr (.inr (.inr (fun _ => none))))))]) := hD
  refine va_putF (D := D) (ci := 7) (v := .ref a2) (ty := (.array (.object "FondsRoom$Worker"))) (C := RX7) (T := TX7) (N := 2) hx hb hts iX7_init_7 tyX7 tyX7_ok nmX7 hown hK hP hD hS 0 rfl rfl 0 (by decide) (hts (.fieldLink RX7 15 "FondsRoom$Staff" "workers" "[LFondsRoom$Worker;") (List.mem_of_getElem? (i := 9) rfl)) (fun _ h9 => h9) rfl hin rfl (by decide +kernel) rfl rfl (Nat.le_of_ble_eq_true rfl) dX7_init_15 (fun H locs hP hD hS => ?_)
  have hP : va_P D vwCl ([(a, .inr (7, [.ref a2, .int 0])), (a2, .inl (cy 5, 4, .inr (.inr (.inr (.inr (fun _ => none))))))]) H := hP
  have hD : va_D _ ([(a, .inr (7, [.ref a2, .int 0])), (a2, .inl (cy 5, 4, .inr (.inr (.inr (.inr (fun _ => none))))))]) := hD
  refine lv_iconst (v := 0) hx hb dX7_init_18 (by decide) ?_
  refine lv_istore (lv' := [(4, .int 0), (3, .int 4), (0, .ref a), (1, .int 4), (2, .int 2)]) hx hb dX7_init_19 hl (by decide) rfl (fun ls hl => ?_)
  refine lv_iload hx hb dX7_init_21 (lv_at hl 0 rfl) ?_
  refine lv_iload_n hx hb dX7_init_23 rfl (lv_at hl 1 rfl) ?_
  refine lv_icmp_ge (tgt := 47) hx hb dX7_init_24 (by decide) (fun c9 => absurd c9 (by decide)) (fun _ => ?_)
  refine lv_aload_n hx hb dX7_init_27 rfl (lv_at hl 2 rfl) ?_
  refine va_get (D := D) (ci := 7) (v := .ref a2) (C := RX7) (T := TX7) (N := 2) hx hb hts iX7_init_7 hown hK hP 0 rfl rfl 0 (by decide) (hts (.fieldLink RX7 15 "FondsRoom$Staff" "workers" "[LFondsRoom$Worker;") (List.mem_of_getElem? (i := 9) rfl)) (fun _ h9 => h9) rfl dX7_init_28 ?_
  refine lv_iload hx hb dX7_init_31 (lv_at hl 0 rfl) ?_
  refine va_new (ci := 8) (fs := [.null, .null, .int 0]) (C := RX8) (T := TX8) (N := 3) hx hb hts iX7_init_8 tyX8 tyX8_ok hown (hts (.classLink RX7 13 RX8) (List.mem_of_getElem? (i := 8) rfl)) (hts (.instantiable RX8 3) (List.mem_of_getElem? (i := 10) rfl)) (hts (.initialized RX8) (List.mem_of_getElem? (i := 11) rfl)) hK hP hD hS hA rfl (fun j hj => by rcases (show j = 0 ∨ j = 1 ∨ j = 2 by omega) with rfl | rfl | rfl <;> rfl) (by show _ ≤ 5; omega) (by show _ ≤ 16; omega) dX7_init_33 (fun a4 H hP hD hS => ?_)
  have hP : va_P D vwCl ([(a, .inr (7, [.ref a2, .int 0])), (a2, .inl (cy 5, 4, .inr (.inr (.inr (.inr (fun _ => none)))))), (a4, .inr (8, [.null, .null, .int 0]))]) H := hP
  have hD : va_D _ ([(a, .inr (7, [.ref a2, .int 0])), (a2, .inl (cy 5, 4, .inr (.inr (.inr (.inr (fun _ => none)))))), (a4, .inr (8, [.null, .null, .int 0]))]) := hD
  refine lv_dup hx hb dX7_init_36 rfl ?_
  refine ciN (wr := [(a, .inr (7, [.ref a2, .int 0])), (a2, .inl (cy 5, 4, .inr (.inr (.inr (.inr (fun _ => none))))))]) (As := []) (rest := [.ref a4, .int 0, .ref a2]) ⟨hx, hb, hml, hown, hts⟩ (mX8_init l D cy _ a4 ) ⟨va_cnB (host := "FondsRoom") 0 hts gX7_init_X8_init_n21 rfl rfl rfl hE.2.2.2.2 (hts (.initialized RX8) (List.mem_of_getElem? (i := 11) rfl)) (by decide +kernel) ⟨Nat.le_of_ble_eq_true rfl, Nat.le_of_ble_eq_true rfl⟩, rfl, hts (.instanceMethod yX8_init) (List.mem_of_getElem? (i := 13) rfl)⟩ hE hK hP hD hS hA [2] [0, 1] rfl rfl (by decide) (by decide) (by decide) rfl hl.1 rfl (Nat.le_of_ble_eq_true rfl) dX7_init_37 ⟨(by show _ ≤ 5; omega), (by show _ ≤ 16; omega)⟩ (fun u5 v6 H locs hP hD hS => ?_)
  have hP : va_P D vwCl ([(a, .inr (7, [.ref a2, .int 0])), (a2, .inl (cy 5, 4, .inr (.inr (.inr (.inr (fun _ => none)))))), (a4, .inr (8, [.null, .null, .int 0]))]) H := hP
  have hD : va_D _ ([(a, .inr (7, [.ref a2, .int 0])), (a2, .inl (cy 5, 4, .inr (.inr (.inr (.inr (fun _ => none)))))), (a4, .inr (8, [.null, .null, .int 0]))]) := hD
  refine va_astq hx hb hK hP hD hS 1 5 2 8 rfl rfl rfl rfl (vp_in_iff.mpr (by decide)) dX7_init_40 (fun H locs hP hD hS => ?_)
  have hP : va_P D vwCl ([(a, .inr (7, [.ref a2, .int 0])), (a2, .inl (cy 5, 4, .inr (.inr (.inr (.inr (va_up (fun _ => none) 0 (some a4))))))), (a4, .inr (8, [.null, .null, .int 0]))]) H := hP
  have hD : va_D _ ([(a, .inr (7, [.ref a2, .int 0])), (a2, .inl (cy 5, 4, .inr (.inr (.inr (.inr (va_up (fun _ => none) 0 (some a4))))))), (a4, .inr (8, [.null, .null, .int 0]))]) := hD
  refine lv_iinc (v := 1) (lv' := [(4, .int 1), (3, .int 4), (0, .ref a), (1, .int 4), (2, .int 2)]) hx hb dX7_init_41 hl (k := 0) rfl (by decide) (by decide) rfl (fun ls hl => ?_)
  refine lv_goto (tgt := 21) hx hb dX7_init_44 (by decide) ?_
  refine lv_iload hx hb dX7_init_21 (lv_at hl 0 rfl) ?_
  refine lv_iload_n hx hb dX7_init_23 rfl (lv_at hl 1 rfl) ?_
  refine lv_icmp_ge (tgt := 47) hx hb dX7_init_24 (by decide) (fun c9 => absurd c9 (by decide)) (fun _ => ?_)
  refine lv_aload_n hx hb dX7_init_27 rfl (lv_at hl 2 rfl) ?_
  refine va_get (D := D) (ci := 7) (v := .ref a2) (C := RX7) (T := TX7) (N := 2) hx hb hts iX7_init_7 hown hK hP 0 rfl rfl 0 (by decide) (hts (.fieldLink RX7 15 "FondsRoom$Staff" "workers" "[LFondsRoom$Worker;") (List.mem_of_getElem? (i := 9) rfl)) (fun _ h9 => h9) rfl dX7_init_28 ?_
  refine lv_iload hx hb dX7_init_31 (lv_at hl 0 rfl) ?_
  refine va_new (ci := 8) (fs := [.null, .null, .int 0]) (C := RX8) (T := TX8) (N := 3) hx hb hts iX7_init_8 tyX8 tyX8_ok hown (hts (.classLink RX7 13 RX8) (List.mem_of_getElem? (i := 8) rfl)) (hts (.instantiable RX8 3) (List.mem_of_getElem? (i := 10) rfl)) (hts (.initialized RX8) (List.mem_of_getElem? (i := 11) rfl)) hK hP hD hS hA rfl (fun j hj => by rcases (show j = 0 ∨ j = 1 ∨ j = 2 by omega) with rfl | rfl | rfl <;> rfl) (by show _ ≤ 5; omega) (by show _ ≤ 16; omega) dX7_init_33 (fun a7 H hP hD hS => ?_)
  have hP : va_P D vwCl ([(a, .inr (7, [.ref a2, .int 0])), (a2, .inl (cy 5, 4, .inr (.inr (.inr (.inr (va_up (fun _ => none) 0 (some a4))))))), (a4, .inr (8, [.null, .null, .int 0])), (a7, .inr (8, [.null, .null, .int 0]))]) H := hP
  have hD : va_D _ ([(a, .inr (7, [.ref a2, .int 0])), (a2, .inl (cy 5, 4, .inr (.inr (.inr (.inr (va_up (fun _ => none) 0 (some a4))))))), (a4, .inr (8, [.null, .null, .int 0])), (a7, .inr (8, [.null, .null, .int 0]))]) := hD
  refine lv_dup hx hb dX7_init_36 rfl ?_
  refine ciN (wr := [(a, .inr (7, [.ref a2, .int 0])), (a2, .inl (cy 5, 4, .inr (.inr (.inr (.inr (va_up (fun _ => none) 0 (some a4))))))), (a4, .inr (8, [.null, .null, .int 0]))]) (As := []) (rest := [.ref a7, .int 1, .ref a2]) ⟨hx, hb, hml, hown, hts⟩ (mX8_init l D cy _ a7 ) ⟨va_cnB (host := "FondsRoom") 0 hts gX7_init_X8_init_n21 rfl rfl rfl hE.2.2.2.2 (hts (.initialized RX8) (List.mem_of_getElem? (i := 11) rfl)) (by decide +kernel) ⟨Nat.le_of_ble_eq_true rfl, Nat.le_of_ble_eq_true rfl⟩, rfl, hts (.instanceMethod yX8_init) (List.mem_of_getElem? (i := 13) rfl)⟩ hE hK hP hD hS hA [3] [0, 1, 2] rfl rfl (by decide) (by decide) (by decide) rfl hl.1 rfl (Nat.le_of_ble_eq_true rfl) dX7_init_37 ⟨(by show _ ≤ 5; omega), (by show _ ≤ 16; omega)⟩ (fun u8 v9 H locs hP hD hS => ?_)
  have hP : va_P D vwCl ([(a, .inr (7, [.ref a2, .int 0])), (a2, .inl (cy 5, 4, .inr (.inr (.inr (.inr (va_up (fun _ => none) 0 (some a4))))))), (a4, .inr (8, [.null, .null, .int 0])), (a7, .inr (8, [.null, .null, .int 0]))]) H := hP
  have hD : va_D _ ([(a, .inr (7, [.ref a2, .int 0])), (a2, .inl (cy 5, 4, .inr (.inr (.inr (.inr (va_up (fun _ => none) 0 (some a4))))))), (a4, .inr (8, [.null, .null, .int 0])), (a7, .inr (8, [.null, .null, .int 0]))]) := hD
  refine va_astq hx hb hK hP hD hS 1 5 3 8 rfl rfl rfl rfl (vp_in_iff.mpr (by decide)) dX7_init_40 (fun H locs hP hD hS => ?_)
  have hP : va_P D vwCl ([(a, .inr (7, [.ref a2, .int 0])), (a2, .inl (cy 5, 4, .inr (.inr (.inr (.inr (va_up (va_up (fun _ => none) 0 (some a4)) 1 (some a7))))))), (a4, .inr (8, [.null, .null, .int 0])), (a7, .inr (8, [.null, .null, .int 0]))]) H := hP
  have hD : va_D _ ([(a, .inr (7, [.ref a2, .int 0])), (a2, .inl (cy 5, 4, .inr (.inr (.inr (.inr (va_up (va_up (fun _ => none) 0 (some a4)) 1 (some a7))))))), (a4, .inr (8, [.null, .null, .int 0])), (a7, .inr (8, [.null, .null, .int 0]))]) := hD
  refine lv_iinc (v := 2) (lv' := [(4, .int 2), (3, .int 4), (0, .ref a), (1, .int 4), (2, .int 2)]) hx hb dX7_init_41 hl (k := 0) rfl (by decide) (by decide) rfl (fun ls hl => ?_)
  refine lv_goto (tgt := 21) hx hb dX7_init_44 (by decide) ?_
  refine lv_iload hx hb dX7_init_21 (lv_at hl 0 rfl) ?_
  refine lv_iload_n hx hb dX7_init_23 rfl (lv_at hl 1 rfl) ?_
  refine lv_icmp_ge (tgt := 47) hx hb dX7_init_24 (by decide) (fun c9 => absurd c9 (by decide)) (fun _ => ?_)
  refine lv_aload_n hx hb dX7_init_27 rfl (lv_at hl 2 rfl) ?_
  refine va_get (D := D) (ci := 7) (v := .ref a2) (C := RX7) (T := TX7) (N := 2) hx hb hts iX7_init_7 hown hK hP 0 rfl rfl 0 (by decide) (hts (.fieldLink RX7 15 "FondsRoom$Staff" "workers" "[LFondsRoom$Worker;") (List.mem_of_getElem? (i := 9) rfl)) (fun _ h9 => h9) rfl dX7_init_28 ?_
  refine lv_iload hx hb dX7_init_31 (lv_at hl 0 rfl) ?_
  refine va_new (ci := 8) (fs := [.null, .null, .int 0]) (C := RX8) (T := TX8) (N := 3) hx hb hts iX7_init_8 tyX8 tyX8_ok hown (hts (.classLink RX7 13 RX8) (List.mem_of_getElem? (i := 8) rfl)) (hts (.instantiable RX8 3) (List.mem_of_getElem? (i := 10) rfl)) (hts (.initialized RX8) (List.mem_of_getElem? (i := 11) rfl)) hK hP hD hS hA rfl (fun j hj => by rcases (show j = 0 ∨ j = 1 ∨ j = 2 by omega) with rfl | rfl | rfl <;> rfl) (by show _ ≤ 5; omega) (by show _ ≤ 16; omega) dX7_init_33 (fun a10 H hP hD hS => ?_)
  have hP : va_P D vwCl ([(a, .inr (7, [.ref a2, .int 0])), (a2, .inl (cy 5, 4, .inr (.inr (.inr (.inr (va_up (va_up (fun _ => none) 0 (some a4)) 1 (some a7))))))), (a4, .inr (8, [.null, .null, .int 0])), (a7, .inr (8, [.null, .null, .int 0])), (a10, .inr (8, [.null, .null, .int 0]))]) H := hP
  have hD : va_D _ ([(a, .inr (7, [.ref a2, .int 0])), (a2, .inl (cy 5, 4, .inr (.inr (.inr (.inr (va_up (va_up (fun _ => none) 0 (some a4)) 1 (some a7))))))), (a4, .inr (8, [.null, .null, .int 0])), (a7, .inr (8, [.null, .null, .int 0])), (a10, .inr (8, [.null, .null, .int 0]))]) := hD
  refine lv_dup hx hb dX7_init_36 rfl ?_
  refine ciN (wr := [(a, .inr (7, [.ref a2, .int 0])), (a2, .inl (cy 5, 4, .inr (.inr (.inr (.inr (va_up (va_up (fun _ => none) 0 (some a4)) 1 (some a7))))))), (a4, .inr (8, [.null, .null, .int 0])), (a7, .inr (8, [.null, .null, .int 0]))]) (As := []) (rest := [.ref a10, .int 2, .ref a2]) ⟨hx, hb, hml, hown, hts⟩ (mX8_init l D cy _ a10 ) ⟨va_cnB (host := "FondsRoom") 0 hts gX7_init_X8_init_n21 rfl rfl rfl hE.2.2.2.2 (hts (.initialized RX8) (List.mem_of_getElem? (i := 11) rfl)) (by decide +kernel) ⟨Nat.le_of_ble_eq_true rfl, Nat.le_of_ble_eq_true rfl⟩, rfl, hts (.instanceMethod yX8_init) (List.mem_of_getElem? (i := 13) rfl)⟩ hE hK hP hD hS hA [4] [0, 1, 2, 3] rfl rfl (by decide) (by decide) (by decide) rfl hl.1 rfl (Nat.le_of_ble_eq_true rfl) dX7_init_37 ⟨(by show _ ≤ 5; omega), (by show _ ≤ 16; omega)⟩ (fun u11 v12 H locs hP hD hS => ?_)
  have hP : va_P D vwCl ([(a, .inr (7, [.ref a2, .int 0])), (a2, .inl (cy 5, 4, .inr (.inr (.inr (.inr (va_up (va_up (fun _ => none) 0 (some a4)) 1 (some a7))))))), (a4, .inr (8, [.null, .null, .int 0])), (a7, .inr (8, [.null, .null, .int 0])), (a10, .inr (8, [.null, .null, .int 0]))]) H := hP
  have hD : va_D _ ([(a, .inr (7, [.ref a2, .int 0])), (a2, .inl (cy 5, 4, .inr (.inr (.inr (.inr (va_up (va_up (fun _ => none) 0 (some a4)) 1 (some a7))))))), (a4, .inr (8, [.null, .null, .int 0])), (a7, .inr (8, [.null, .null, .int 0])), (a10, .inr (8, [.null, .null, .int 0]))]) := hD
  refine va_astq hx hb hK hP hD hS 1 5 4 8 rfl rfl rfl rfl (vp_in_iff.mpr (by decide)) dX7_init_40 (fun H locs hP hD hS => ?_)
  have hP : va_P D vwCl ([(a, .inr (7, [.ref a2, .int 0])), (a2, .inl (cy 5, 4, .inr (.inr (.inr (.inr (va_up (va_up (va_up (fun _ => none) 0 (some a4)) 1 (some a7)) 2 (some a10))))))), (a4, .inr (8, [.null, .null, .int 0])), (a7, .inr (8, [.null, .null, .int 0])), (a10, .inr (8, [.null, .null, .int 0]))]) H := hP
  have hD : va_D _ ([(a, .inr (7, [.ref a2, .int 0])), (a2, .inl (cy 5, 4, .inr (.inr (.inr (.inr (va_up (va_up (va_up (fun _ => none) 0 (some a4)) 1 (some a7)) 2 (some a10))))))), (a4, .inr (8, [.null, .null, .int 0])), (a7, .inr (8, [.null, .null, .int 0])), (a10, .inr (8, [.null, .null, .int 0]))]) := hD
  refine lv_iinc (v := 3) (lv' := [(4, .int 3), (3, .int 4), (0, .ref a), (1, .int 4), (2, .int 2)]) hx hb dX7_init_41 hl (k := 0) rfl (by decide) (by decide) rfl (fun ls hl => ?_)
  refine lv_goto (tgt := 21) hx hb dX7_init_44 (by decide) ?_
  refine lv_iload hx hb dX7_init_21 (lv_at hl 0 rfl) ?_
  refine lv_iload_n hx hb dX7_init_23 rfl (lv_at hl 1 rfl) ?_
  refine lv_icmp_ge (tgt := 47) hx hb dX7_init_24 (by decide) (fun c9 => absurd c9 (by decide)) (fun _ => ?_)
  refine lv_aload_n hx hb dX7_init_27 rfl (lv_at hl 2 rfl) ?_
  refine va_get (D := D) (ci := 7) (v := .ref a2) (C := RX7) (T := TX7) (N := 2) hx hb hts iX7_init_7 hown hK hP 0 rfl rfl 0 (by decide) (hts (.fieldLink RX7 15 "FondsRoom$Staff" "workers" "[LFondsRoom$Worker;") (List.mem_of_getElem? (i := 9) rfl)) (fun _ h9 => h9) rfl dX7_init_28 ?_
  refine lv_iload hx hb dX7_init_31 (lv_at hl 0 rfl) ?_
  refine va_new (ci := 8) (fs := [.null, .null, .int 0]) (C := RX8) (T := TX8) (N := 3) hx hb hts iX7_init_8 tyX8 tyX8_ok hown (hts (.classLink RX7 13 RX8) (List.mem_of_getElem? (i := 8) rfl)) (hts (.instantiable RX8 3) (List.mem_of_getElem? (i := 10) rfl)) (hts (.initialized RX8) (List.mem_of_getElem? (i := 11) rfl)) hK hP hD hS hA rfl (fun j hj => by rcases (show j = 0 ∨ j = 1 ∨ j = 2 by omega) with rfl | rfl | rfl <;> rfl) (by show _ ≤ 5; omega) (by show _ ≤ 16; omega) dX7_init_33 (fun a13 H hP hD hS => ?_)
  have hP : va_P D vwCl ([(a, .inr (7, [.ref a2, .int 0])), (a2, .inl (cy 5, 4, .inr (.inr (.inr (.inr (va_up (va_up (va_up (fun _ => none) 0 (some a4)) 1 (some a7)) 2 (some a10))))))), (a4, .inr (8, [.null, .null, .int 0])), (a7, .inr (8, [.null, .null, .int 0])), (a10, .inr (8, [.null, .null, .int 0])), (a13, .inr (8, [.null, .null, .int 0]))]) H := hP
  have hD : va_D _ ([(a, .inr (7, [.ref a2, .int 0])), (a2, .inl (cy 5, 4, .inr (.inr (.inr (.inr (va_up (va_up (va_up (fun _ => none) 0 (some a4)) 1 (some a7)) 2 (some a10))))))), (a4, .inr (8, [.null, .null, .int 0])), (a7, .inr (8, [.null, .null, .int 0])), (a10, .inr (8, [.null, .null, .int 0])), (a13, .inr (8, [.null, .null, .int 0]))]) := hD
  refine lv_dup hx hb dX7_init_36 rfl ?_
  refine ciN (wr := [(a, .inr (7, [.ref a2, .int 0])), (a2, .inl (cy 5, 4, .inr (.inr (.inr (.inr (va_up (va_up (va_up (fun _ => none) 0 (some a4)) 1 (some a7)) 2 (some a10))))))), (a4, .inr (8, [.null, .null, .int 0])), (a7, .inr (8, [.null, .null, .int 0])), (a10, .inr (8, [.null, .null, .int 0]))]) (As := []) (rest := [.ref a13, .int 3, .ref a2]) ⟨hx, hb, hml, hown, hts⟩ (mX8_init l D cy _ a13 ) ⟨va_cnB (host := "FondsRoom") 0 hts gX7_init_X8_init_n21 rfl rfl rfl hE.2.2.2.2 (hts (.initialized RX8) (List.mem_of_getElem? (i := 11) rfl)) (by decide +kernel) ⟨Nat.le_of_ble_eq_true rfl, Nat.le_of_ble_eq_true rfl⟩, rfl, hts (.instanceMethod yX8_init) (List.mem_of_getElem? (i := 13) rfl)⟩ hE hK hP hD hS hA [5] [0, 1, 2, 3, 4] rfl rfl (by decide) (by decide) (by decide) rfl hl.1 rfl (Nat.le_of_ble_eq_true rfl) dX7_init_37 ⟨(by show _ ≤ 5; omega), (by show _ ≤ 16; omega)⟩ (fun u14 v15 H locs hP hD hS => ?_)
  have hP : va_P D vwCl ([(a, .inr (7, [.ref a2, .int 0])), (a2, .inl (cy 5, 4, .inr (.inr (.inr (.inr (va_up (va_up (va_up (fun _ => none) 0 (some a4)) 1 (some a7)) 2 (some a10))))))), (a4, .inr (8, [.null, .null, .int 0])), (a7, .inr (8, [.null, .null, .int 0])), (a10, .inr (8, [.null, .null, .int 0])), (a13, .inr (8, [.null, .null, .int 0]))]) H := hP
  have hD : va_D _ ([(a, .inr (7, [.ref a2, .int 0])), (a2, .inl (cy 5, 4, .inr (.inr (.inr (.inr (va_up (va_up (va_up (fun _ => none) 0 (some a4)) 1 (some a7)) 2 (some a10))))))), (a4, .inr (8, [.null, .null, .int 0])), (a7, .inr (8, [.null, .null, .int 0])), (a10, .inr (8, [.null, .null, .int 0])), (a13, .inr (8, [.null, .null, .int 0]))]) := hD
  refine va_astq hx hb hK hP hD hS 1 5 5 8 rfl rfl rfl rfl (vp_in_iff.mpr (by decide)) dX7_init_40 (fun H locs hP hD hS => ?_)
  have hP : va_P D vwCl ([(a, .inr (7, [.ref a2, .int 0])), (a2, .inl (cy 5, 4, .inr (.inr (.inr (.inr (va_up (va_up (va_up (va_up (fun _ => none) 0 (some a4)) 1 (some a7)) 2 (some a10)) 3 (some a13))))))), (a4, .inr (8, [.null, .null, .int 0])), (a7, .inr (8, [.null, .null, .int 0])), (a10, .inr (8, [.null, .null, .int 0])), (a13, .inr (8, [.null, .null, .int 0]))]) H := hP
  have hD : va_D _ ([(a, .inr (7, [.ref a2, .int 0])), (a2, .inl (cy 5, 4, .inr (.inr (.inr (.inr (va_up (va_up (va_up (va_up (fun _ => none) 0 (some a4)) 1 (some a7)) 2 (some a10)) 3 (some a13))))))), (a4, .inr (8, [.null, .null, .int 0])), (a7, .inr (8, [.null, .null, .int 0])), (a10, .inr (8, [.null, .null, .int 0])), (a13, .inr (8, [.null, .null, .int 0]))]) := hD
  refine lv_iinc (v := 4) (lv' := [(4, .int 4), (3, .int 4), (0, .ref a), (1, .int 4), (2, .int 2)]) hx hb dX7_init_41 hl (k := 0) rfl (by decide) (by decide) rfl (fun ls hl => ?_)
  refine lv_goto (tgt := 21) hx hb dX7_init_44 (by decide) ?_
  refine lv_iload hx hb dX7_init_21 (lv_at hl 0 rfl) ?_
  refine lv_iload_n hx hb dX7_init_23 rfl (lv_at hl 1 rfl) ?_
  refine lv_icmp_ge (tgt := 47) hx hb dX7_init_24 (by decide) (fun _ => ?_) (fun c9 => absurd (by decide) c9)
  refine lv_aload_n hx hb dX7_init_47 rfl (lv_at hl 2 rfl) ?_
  refine lv_iload_n hx hb dX7_init_48 rfl (lv_at hl 4 rfl) ?_
  refine va_put (D := D) (ci := 7) (v := .int 2) (ty := .int) (C := RX7) (T := TX7) (N := 2) hx hb hts iX7_init_7 tyX7 tyX7_ok nmX7 hown hK hP hD hS 0 rfl rfl 1 (by decide) (hts (.fieldLink RX7 22 "FondsRoom$Staff" "hired" "I") (List.mem_of_getElem? (i := 12) rfl)) (fun _ h9 => h9) rfl (by decide +kernel) rfl rfl (Nat.le_of_ble_eq_true rfl) dX7_init_49 (fun H locs hP hD hS => ?_)
  have hP : va_P D vwCl ([(a, .inr (7, [.ref a2, .int 2])), (a2, .inl (cy 5, 4, .inr (.inr (.inr (.inr (va_up (va_up (va_up (va_up (fun _ => none) 0 (some a4)) 1 (some a7)) 2 (some a10)) 3 (some a13))))))), (a4, .inr (8, [.null, .null, .int 0])), (a7, .inr (8, [.null, .null, .int 0])), (a10, .inr (8, [.null, .null, .int 0])), (a13, .inr (8, [.null, .null, .int 0]))]) H := hP
  have hD : va_D _ ([(a, .inr (7, [.ref a2, .int 2])), (a2, .inl (cy 5, 4, .inr (.inr (.inr (.inr (va_up (va_up (va_up (va_up (fun _ => none) 0 (some a4)) 1 (some a7)) 2 (some a10)) 3 (some a13))))))), (a4, .inr (8, [.null, .null, .int 0])), (a7, .inr (8, [.null, .null, .int 0])), (a10, .inr (8, [.null, .null, .int 0])), (a13, .inr (8, [.null, .null, .int 0]))]) := hD
  refine W.widen (k := 5) (n := 16) (by omega) (by omega) ?_
  exact W.vret hx hb hr (fun t ht hW => ⟨⟨(fun k => ([a2, a4, a7, a10, a13] : List Nat).getD k 0, fun _ => fun _ => none), rfl, trivial, by rw [ht]; exact hP, va_K.moved hW.alike hK, hD⟩, hS.F ht⟩) hS.2.2 dX7_init_52

set_option maxHeartbeats 8000000 in
set_option maxRecDepth 100000 in
theorem mX7_init_C (l : Launch) (D : va_G) (cy : Nat → ClassId) (sz : Nat) (a : Nat) : Met l yX7_init wsX7_init ({ frames := 2, cells := 4, slots := 12, locals := 32 }) (PWi D (TYS cy) [(a, .inr (7, [.null, .int 0]))] sz [.ref a, .int 3, .int 1]) (QU D (TYS cy) [(a, .inr (7, [.null, .int 0]))] (fun u v => [(a, .inr (7, [.ref (u 0), .int 1])), (u 0, .inl (cy 5, 3, .inr (.inr (.inr (.inr (va_up (va_up (va_up (fun _ => none) 0 (some (u 1))) 1 (some (u 2))) 2 (some (u 3)))))))), (u 1, .inr (8, [.null, .null, .int 0])), (u 2, .inr (8, [.null, .null, .int 0])), (u 3, .inr (8, [.null, .null, .int 0]))]) sz) 4 12 (va_A [(a, .inr (7, [.null, .int 0]))] sz) := by
  refine Met.ofW (cc := cX7_init) (maxL := 5) (ret := none) (by decide) rfl ?_
  intro p e s m args below meth c s₁ B hml hv
  obtain ⟨rfl, hsz, hP, hK, hD0, hE⟩ := hv
  have hx := B.exec
  have hb := B.bytes
  have hr := B.returns
  have hts := atoms_spec (ws := wsX7_init) B.pre
  have hown : s.vm.findClass RX7 = some m.cls := findClass_of_methodNamed B.named
  have hlocks := B.notSynchronized
  have hin : meth.name = "<init>" := (name_of_methodNamed B.named B.method).1
  subst hsz
  have hD := hD0.self (sz := s.heap.size)
  have hA : ∀ q9 : Nat, s.heap.size ≤ q9 → va_A [(a, .inr (7, [.null, .int 0]))] s.heap.size q9 := fun q9 h => Or.inr h
  have hS : va_S (va_A [(a, .inr (7, [.null, .int 0]))] s.heap.size) s.heap s.heap [] := va_S.rf
  have hl := lv_entry ([.ref a, .int 3, .int 1]) (n := 5) (Nat.le_of_ble_eq_true rfl)
  rw [lg_entry_eq]
  generalize (lg_sl ([.ref a, .int 3, .int 1]) ++ List.replicate (5 - (lg_sl ([.ref a, .int 3, .int 1])).length) Slot.unset).toArray = ls at hl ⊢
  have hl : lv_has ls 5 [(0, .ref a), (1, .int 3), (2, .int 1)] := hl
  refine lv_aload_n hx hb dX7_init_0 rfl (lv_at hl 0 rfl) ?_
  refine W.objInit hx hb hown (hts (.methodLink RX7 1 objectInit) (List.mem_of_getElem? (i := 1) rfl)) (hts (.instanceMethod objectInit) (List.mem_of_getElem? (i := 2) rfl)) (hts _ (List.mem_cons_of_mem _ (List.mem_append_left _ (List.mem_append_left _ (List.mem_of_getElem? (i := 2) rfl))))) rfl (by rw [hml]; exact hl.1) rfl dX7_init_1 (Nat.le_of_ble_eq_true rfl) (Nat.le_of_ble_eq_true rfl) ?_
  refine W.eq (g2 := F0 m 4 ls []) rfl ?_
  refine lv_iload_n hx hb dX7_init_4 rfl (lv_at hl 1 rfl) ?_
  refine lv_iconst (v := 0) hx hb dX7_init_5 (by decide) ?_
  refine va_mmax hx hb (hml.trans hl.1.symm) hown (hts (.methodLink RX7 7 Lib.Math.max.name) (List.mem_of_getElem? (i := 4) rfl)) (hts (.static Lib.Math.max.name) (List.mem_of_getElem? (i := 5) rfl)) (hts (.initialized "java/lang/Math") (List.mem_of_getElem? (i := 6) rfl)) (hts (.code Lib.Math.max.name Lib.Math.max.code 2 (some .int)) (List.mem_of_getElem? (i := 7) rfl)) (Nat.le_of_ble_eq_true rfl) (Nat.le_of_ble_eq_true rfl) (by show _ ≤ 4; omega) (by show _ ≤ 12; omega) dX7_init_6 ?_
  refine lv_topi (fun y1 ey1 => ?_)
  obtain rfl : y1 = 3 := ey1.trans (by decide)
  refine lv_istore_n (lv' := [(3, .int 3), (0, .ref a), (1, .int 3), (2, .int 1)]) hx hb dX7_init_9 rfl hl (by decide) rfl (fun ls hl => ?_)
  refine lv_aload_n hx hb dX7_init_10 rfl (lv_at hl 1 rfl) ?_
  refine lv_iload_n hx hb dX7_init_11 rfl (lv_at hl 0 rfl) ?_
  refine va_newq (N' := 3) hx hb hown (hts (.classLink RX7 13 RX8) (List.mem_of_getElem? (i := 8) rfl)) hE.2.2.2.1 hK hP hD hS hA (by decide) (by decide) (by decide) (by show _ ≤ 4; omega) (by show _ ≤ 12; omega) dX7_init_12 (fun a2 cA3 H hK2 hP hD hS => ?_)
  obtain rfl : cA3 = cy 5 := ra_uniq hK2 6 5 rfl rfl
  have hP : va_P D vwCl ([(a, .inr (7, [.null, .int 0])), (a2, .inl (cy 5, 3, .inr (.inr (.inr (.inr (fun _ => none))))))]) H := hP
  have hD : va_D _ ([(a, .inr (7, [.null, .int 0])), (a2, .inl (cy 5, 3, .inr (.inr (.inr (.inr (fun _ => none))))))]) := hD
  refine va_putF (D := D) (ci := 7) (v := .ref a2) (ty := (.array (.object "FondsRoom$Worker"))) (C := RX7) (T := TX7) (N := 2) hx hb hts iX7_init_7 tyX7 tyX7_ok nmX7 hown hK hP hD hS 0 rfl rfl 0 (by decide) (hts (.fieldLink RX7 15 "FondsRoom$Staff" "workers" "[LFondsRoom$Worker;") (List.mem_of_getElem? (i := 9) rfl)) (fun _ h9 => h9) rfl hin rfl (by decide +kernel) rfl rfl (Nat.le_of_ble_eq_true rfl) dX7_init_15 (fun H locs hP hD hS => ?_)
  have hP : va_P D vwCl ([(a, .inr (7, [.ref a2, .int 0])), (a2, .inl (cy 5, 3, .inr (.inr (.inr (.inr (fun _ => none))))))]) H := hP
  have hD : va_D _ ([(a, .inr (7, [.ref a2, .int 0])), (a2, .inl (cy 5, 3, .inr (.inr (.inr (.inr (fun _ => none))))))]) := hD
  refine lv_iconst (v := 0) hx hb dX7_init_18 (by decide) ?_
  refine lv_istore (lv' := [(4, .int 0), (3, .int 3), (0, .ref a), (1, .int 3), (2, .int 1)]) hx hb dX7_init_19 hl (by decide) rfl (fun ls hl => ?_)
  refine lv_iload hx hb dX7_init_21 (lv_at hl 0 rfl) ?_
  refine lv_iload_n hx hb dX7_init_23 rfl (lv_at hl 1 rfl) ?_
  refine lv_icmp_ge (tgt := 47) hx hb dX7_init_24 (by decide) (fun c9 => absurd c9 (by decide)) (fun _ => ?_)
  refine lv_aload_n hx hb dX7_init_27 rfl (lv_at hl 2 rfl) ?_
  refine va_get (D := D) (ci := 7) (v := .ref a2) (C := RX7) (T := TX7) (N := 2) hx hb hts iX7_init_7 hown hK hP 0 rfl rfl 0 (by decide) (hts (.fieldLink RX7 15 "FondsRoom$Staff" "workers" "[LFondsRoom$Worker;") (List.mem_of_getElem? (i := 9) rfl)) (fun _ h9 => h9) rfl dX7_init_28 ?_
  refine lv_iload hx hb dX7_init_31 (lv_at hl 0 rfl) ?_
  refine va_new (ci := 8) (fs := [.null, .null, .int 0]) (C := RX8) (T := TX8) (N := 3) hx hb hts iX7_init_8 tyX8 tyX8_ok hown (hts (.classLink RX7 13 RX8) (List.mem_of_getElem? (i := 8) rfl)) (hts (.instantiable RX8 3) (List.mem_of_getElem? (i := 10) rfl)) (hts (.initialized RX8) (List.mem_of_getElem? (i := 11) rfl)) hK hP hD hS hA rfl (fun j hj => by rcases (show j = 0 ∨ j = 1 ∨ j = 2 by omega) with rfl | rfl | rfl <;> rfl) (by show _ ≤ 4; omega) (by show _ ≤ 12; omega) dX7_init_33 (fun a4 H hP hD hS => ?_)
  have hP : va_P D vwCl ([(a, .inr (7, [.ref a2, .int 0])), (a2, .inl (cy 5, 3, .inr (.inr (.inr (.inr (fun _ => none)))))), (a4, .inr (8, [.null, .null, .int 0]))]) H := hP
  have hD : va_D _ ([(a, .inr (7, [.ref a2, .int 0])), (a2, .inl (cy 5, 3, .inr (.inr (.inr (.inr (fun _ => none)))))), (a4, .inr (8, [.null, .null, .int 0]))]) := hD
  refine lv_dup hx hb dX7_init_36 rfl ?_
  refine ciN (wr := [(a, .inr (7, [.ref a2, .int 0])), (a2, .inl (cy 5, 3, .inr (.inr (.inr (.inr (fun _ => none))))))]) (As := []) (rest := [.ref a4, .int 0, .ref a2]) ⟨hx, hb, hml, hown, hts⟩ (mX8_init l D cy _ a4 ) ⟨va_cnB (host := "FondsRoom") 0 hts gX7_init_X8_init_n21 rfl rfl rfl hE.2.2.2.2 (hts (.initialized RX8) (List.mem_of_getElem? (i := 11) rfl)) (by decide +kernel) ⟨Nat.le_of_ble_eq_true rfl, Nat.le_of_ble_eq_true rfl⟩, rfl, hts (.instanceMethod yX8_init) (List.mem_of_getElem? (i := 13) rfl)⟩ hE hK hP hD hS hA [2] [0, 1] rfl rfl (by decide) (by decide) (by decide) rfl hl.1 rfl (Nat.le_of_ble_eq_true rfl) dX7_init_37 ⟨(by show _ ≤ 4; omega), (by show _ ≤ 12; omega)⟩ (fun u5 v6 H locs hP hD hS => ?_)
  have hP : va_P D vwCl ([(a, .inr (7, [.ref a2, .int 0])), (a2, .inl (cy 5, 3, .inr (.inr (.inr (.inr (fun _ => none)))))), (a4, .inr (8, [.null, .null, .int 0]))]) H := hP
  have hD : va_D _ ([(a, .inr (7, [.ref a2, .int 0])), (a2, .inl (cy 5, 3, .inr (.inr (.inr (.inr (fun _ => none)))))), (a4, .inr (8, [.null, .null, .int 0]))]) := hD
  refine va_astq hx hb hK hP hD hS 1 5 2 8 rfl rfl rfl rfl (vp_in_iff.mpr (by decide)) dX7_init_40 (fun H locs hP hD hS => ?_)
  have hP : va_P D vwCl ([(a, .inr (7, [.ref a2, .int 0])), (a2, .inl (cy 5, 3, .inr (.inr (.inr (.inr (va_up (fun _ => none) 0 (some a4))))))), (a4, .inr (8, [.null, .null, .int 0]))]) H := hP
  have hD : va_D _ ([(a, .inr (7, [.ref a2, .int 0])), (a2, .inl (cy 5, 3, .inr (.inr (.inr (.inr (va_up (fun _ => none) 0 (some a4))))))), (a4, .inr (8, [.null, .null, .int 0]))]) := hD
  refine lv_iinc (v := 1) (lv' := [(4, .int 1), (3, .int 3), (0, .ref a), (1, .int 3), (2, .int 1)]) hx hb dX7_init_41 hl (k := 0) rfl (by decide) (by decide) rfl (fun ls hl => ?_)
  refine lv_goto (tgt := 21) hx hb dX7_init_44 (by decide) ?_
  refine lv_iload hx hb dX7_init_21 (lv_at hl 0 rfl) ?_
  refine lv_iload_n hx hb dX7_init_23 rfl (lv_at hl 1 rfl) ?_
  refine lv_icmp_ge (tgt := 47) hx hb dX7_init_24 (by decide) (fun c9 => absurd c9 (by decide)) (fun _ => ?_)
  refine lv_aload_n hx hb dX7_init_27 rfl (lv_at hl 2 rfl) ?_
  refine va_get (D := D) (ci := 7) (v := .ref a2) (C := RX7) (T := TX7) (N := 2) hx hb hts iX7_init_7 hown hK hP 0 rfl rfl 0 (by decide) (hts (.fieldLink RX7 15 "FondsRoom$Staff" "workers" "[LFondsRoom$Worker;") (List.mem_of_getElem? (i := 9) rfl)) (fun _ h9 => h9) rfl dX7_init_28 ?_
  refine lv_iload hx hb dX7_init_31 (lv_at hl 0 rfl) ?_
  refine va_new (ci := 8) (fs := [.null, .null, .int 0]) (C := RX8) (T := TX8) (N := 3) hx hb hts iX7_init_8 tyX8 tyX8_ok hown (hts (.classLink RX7 13 RX8) (List.mem_of_getElem? (i := 8) rfl)) (hts (.instantiable RX8 3) (List.mem_of_getElem? (i := 10) rfl)) (hts (.initialized RX8) (List.mem_of_getElem? (i := 11) rfl)) hK hP hD hS hA rfl (fun j hj => by rcases (show j = 0 ∨ j = 1 ∨ j = 2 by omega) with rfl | rfl | rfl <;> rfl) (by show _ ≤ 4; omega) (by show _ ≤ 12; omega) dX7_init_33 (fun a7 H hP hD hS => ?_)
  have hP : va_P D vwCl ([(a, .inr (7, [.ref a2, .int 0])), (a2, .inl (cy 5, 3, .inr (.inr (.inr (.inr (va_up (fun _ => none) 0 (some a4))))))), (a4, .inr (8, [.null, .null, .int 0])), (a7, .inr (8, [.null, .null, .int 0]))]) H := hP
  have hD : va_D _ ([(a, .inr (7, [.ref a2, .int 0])), (a2, .inl (cy 5, 3, .inr (.inr (.inr (.inr (va_up (fun _ => none) 0 (some a4))))))), (a4, .inr (8, [.null, .null, .int 0])), (a7, .inr (8, [.null, .null, .int 0]))]) := hD
  refine lv_dup hx hb dX7_init_36 rfl ?_
  refine ciN (wr := [(a, .inr (7, [.ref a2, .int 0])), (a2, .inl (cy 5, 3, .inr (.inr (.inr (.inr (va_up (fun _ => none) 0 (some a4))))))), (a4, .inr (8, [.null, .null, .int 0]))]) (As := []) (rest := [.ref a7, .int 1, .ref a2]) ⟨hx, hb, hml, hown, hts⟩ (mX8_init l D cy _ a7 ) ⟨va_cnB (host := "FondsRoom") 0 hts gX7_init_X8_init_n21 rfl rfl rfl hE.2.2.2.2 (hts (.initialized RX8) (List.mem_of_getElem? (i := 11) rfl)) (by decide +kernel) ⟨Nat.le_of_ble_eq_true rfl, Nat.le_of_ble_eq_true rfl⟩, rfl, hts (.instanceMethod yX8_init) (List.mem_of_getElem? (i := 13) rfl)⟩ hE hK hP hD hS hA [3] [0, 1, 2] rfl rfl (by decide) (by decide) (by decide) rfl hl.1 rfl (Nat.le_of_ble_eq_true rfl) dX7_init_37 ⟨(by show _ ≤ 4; omega), (by show _ ≤ 12; omega)⟩ (fun u8 v9 H locs hP hD hS => ?_)
  have hP : va_P D vwCl ([(a, .inr (7, [.ref a2, .int 0])), (a2, .inl (cy 5, 3, .inr (.inr (.inr (.inr (va_up (fun _ => none) 0 (some a4))))))), (a4, .inr (8, [.null, .null, .int 0])), (a7, .inr (8, [.null, .null, .int 0]))]) H := hP
  have hD : va_D _ ([(a, .inr (7, [.ref a2, .int 0])), (a2, .inl (cy 5, 3, .inr (.inr (.inr (.inr (va_up (fun _ => none) 0 (some a4))))))), (a4, .inr (8, [.null, .null, .int 0])), (a7, .inr (8, [.null, .null, .int 0]))]) := hD
  refine va_astq hx hb hK hP hD hS 1 5 3 8 rfl rfl rfl rfl (vp_in_iff.mpr (by decide)) dX7_init_40 (fun H locs hP hD hS => ?_)
  have hP : va_P D vwCl ([(a, .inr (7, [.ref a2, .int 0])), (a2, .inl (cy 5, 3, .inr (.inr (.inr (.inr (va_up (va_up (fun _ => none) 0 (some a4)) 1 (some a7))))))), (a4, .inr (8, [.null, .null, .int 0])), (a7, .inr (8, [.null, .null, .int 0]))]) H := hP
  have hD : va_D _ ([(a, .inr (7, [.ref a2, .int 0])), (a2, .inl (cy 5, 3, .inr (.inr (.inr (.inr (va_up (va_up (fun _ => none) 0 (some a4)) 1 (some a7))))))), (a4, .inr (8, [.null, .null, .int 0])), (a7, .inr (8, [.null, .null, .int 0]))]) := hD
  refine lv_iinc (v := 2) (lv' := [(4, .int 2), (3, .int 3), (0, .ref a), (1, .int 3), (2, .int 1)]) hx hb dX7_init_41 hl (k := 0) rfl (by decide) (by decide) rfl (fun ls hl => ?_)
  refine lv_goto (tgt := 21) hx hb dX7_init_44 (by decide) ?_
  refine lv_iload hx hb dX7_init_21 (lv_at hl 0 rfl) ?_
  refine lv_iload_n hx hb dX7_init_23 rfl (lv_at hl 1 rfl) ?_
  refine lv_icmp_ge (tgt := 47) hx hb dX7_init_24 (by decide) (fun c9 => absurd c9 (by decide)) (fun _ => ?_)
  refine lv_aload_n hx hb dX7_init_27 rfl (lv_at hl 2 rfl) ?_
  refine va_get (D := D) (ci := 7) (v := .ref a2) (C := RX7) (T := TX7) (N := 2) hx hb hts iX7_init_7 hown hK hP 0 rfl rfl 0 (by decide) (hts (.fieldLink RX7 15 "FondsRoom$Staff" "workers" "[LFondsRoom$Worker;") (List.mem_of_getElem? (i := 9) rfl)) (fun _ h9 => h9) rfl dX7_init_28 ?_
  refine lv_iload hx hb dX7_init_31 (lv_at hl 0 rfl) ?_
  refine va_new (ci := 8) (fs := [.null, .null, .int 0]) (C := RX8) (T := TX8) (N := 3) hx hb hts iX7_init_8 tyX8 tyX8_ok hown (hts (.classLink RX7 13 RX8) (List.mem_of_getElem? (i := 8) rfl)) (hts (.instantiable RX8 3) (List.mem_of_getElem? (i := 10) rfl)) (hts (.initialized RX8) (List.mem_of_getElem? (i := 11) rfl)) hK hP hD hS hA rfl (fun j hj => by rcases (show j = 0 ∨ j = 1 ∨ j = 2 by omega) with rfl | rfl | rfl <;> rfl) (by show _ ≤ 4; omega) (by show _ ≤ 12; omega) dX7_init_33 (fun a10 H hP hD hS => ?_)
  have hP : va_P D vwCl ([(a, .inr (7, [.ref a2, .int 0])), (a2, .inl (cy 5, 3, .inr (.inr (.inr (.inr (va_up (va_up (fun _ => none) 0 (some a4)) 1 (some a7))))))), (a4, .inr (8, [.null, .null, .int 0])), (a7, .inr (8, [.null, .null, .int 0])), (a10, .inr (8, [.null, .null, .int 0]))]) H := hP
  have hD : va_D _ ([(a, .inr (7, [.ref a2, .int 0])), (a2, .inl (cy 5, 3, .inr (.inr (.inr (.inr (va_up (va_up (fun _ => none) 0 (some a4)) 1 (some a7))))))), (a4, .inr (8, [.null, .null, .int 0])), (a7, .inr (8, [.null, .null, .int 0])), (a10, .inr (8, [.null, .null, .int 0]))]) := hD
  refine lv_dup hx hb dX7_init_36 rfl ?_
  refine ciN (wr := [(a, .inr (7, [.ref a2, .int 0])), (a2, .inl (cy 5, 3, .inr (.inr (.inr (.inr (va_up (va_up (fun _ => none) 0 (some a4)) 1 (some a7))))))), (a4, .inr (8, [.null, .null, .int 0])), (a7, .inr (8, [.null, .null, .int 0]))]) (As := []) (rest := [.ref a10, .int 2, .ref a2]) ⟨hx, hb, hml, hown, hts⟩ (mX8_init l D cy _ a10 ) ⟨va_cnB (host := "FondsRoom") 0 hts gX7_init_X8_init_n21 rfl rfl rfl hE.2.2.2.2 (hts (.initialized RX8) (List.mem_of_getElem? (i := 11) rfl)) (by decide +kernel) ⟨Nat.le_of_ble_eq_true rfl, Nat.le_of_ble_eq_true rfl⟩, rfl, hts (.instanceMethod yX8_init) (List.mem_of_getElem? (i := 13) rfl)⟩ hE hK hP hD hS hA [4] [0, 1, 2, 3] rfl rfl (by decide) (by decide) (by decide) rfl hl.1 rfl (Nat.le_of_ble_eq_true rfl) dX7_init_37 ⟨(by show _ ≤ 4; omega), (by show _ ≤ 12; omega)⟩ (fun u11 v12 H locs hP hD hS => ?_)
  have hP : va_P D vwCl ([(a, .inr (7, [.ref a2, .int 0])), (a2, .inl (cy 5, 3, .inr (.inr (.inr (.inr (va_up (va_up (fun _ => none) 0 (some a4)) 1 (some a7))))))), (a4, .inr (8, [.null, .null, .int 0])), (a7, .inr (8, [.null, .null, .int 0])), (a10, .inr (8, [.null, .null, .int 0]))]) H := hP
  have hD : va_D _ ([(a, .inr (7, [.ref a2, .int 0])), (a2, .inl (cy 5, 3, .inr (.inr (.inr (.inr (va_up (va_up (fun _ => none) 0 (some a4)) 1 (some a7))))))), (a4, .inr (8, [.null, .null, .int 0])), (a7, .inr (8, [.null, .null, .int 0])), (a10, .inr (8, [.null, .null, .int 0]))]) := hD
  refine va_astq hx hb hK hP hD hS 1 5 4 8 rfl rfl rfl rfl (vp_in_iff.mpr (by decide)) dX7_init_40 (fun H locs hP hD hS => ?_)
  have hP : va_P D vwCl ([(a, .inr (7, [.ref a2, .int 0])), (a2, .inl (cy 5, 3, .inr (.inr (.inr (.inr (va_up (va_up (va_up (fun _ => none) 0 (some a4)) 1 (some a7)) 2 (some a10))))))), (a4, .inr (8, [.null, .null, .int 0])), (a7, .inr (8, [.null, .null, .int 0])), (a10, .inr (8, [.null, .null, .int 0]))]) H := hP
  have hD : va_D _ ([(a, .inr (7, [.ref a2, .int 0])), (a2, .inl (cy 5, 3, .inr (.inr (.inr (.inr (va_up (va_up (va_up (fun _ => none) 0 (some a4)) 1 (some a7)) 2 (some a10))))))), (a4, .inr (8, [.null, .null, .int 0])), (a7, .inr (8, [.null, .null, .int 0])), (a10, .inr (8, [.null, .null, .int 0]))]) := hD
  refine lv_iinc (v := 3) (lv' := [(4, .int 3), (3, .int 3), (0, .ref a), (1, .int 3), (2, .int 1)]) hx hb dX7_init_41 hl (k := 0) rfl (by decide) (by decide) rfl (fun ls hl => ?_)
  refine lv_goto (tgt := 21) hx hb dX7_init_44 (by decide) ?_
  refine lv_iload hx hb dX7_init_21 (lv_at hl 0 rfl) ?_
  refine lv_iload_n hx hb dX7_init_23 rfl (lv_at hl 1 rfl) ?_
  refine lv_icmp_ge (tgt := 47) hx hb dX7_init_24 (by decide) (fun _ => ?_) (fun c9 => absurd (by decide) c9)
  refine lv_aload_n hx hb dX7_init_47 rfl (lv_at hl 2 rfl) ?_
  refine lv_iload_n hx hb dX7_init_48 rfl (lv_at hl 4 rfl) ?_
  refine va_put (D := D) (ci := 7) (v := .int 1) (ty := .int) (C := RX7) (T := TX7) (N := 2) hx hb hts iX7_init_7 tyX7 tyX7_ok nmX7 hown hK hP hD hS 0 rfl rfl 1 (by decide) (hts (.fieldLink RX7 22 "FondsRoom$Staff" "hired" "I") (List.mem_of_getElem? (i := 12) rfl)) (fun _ h9 => h9) rfl (by decide +kernel) rfl rfl (Nat.le_of_ble_eq_true rfl) dX7_init_49 (fun H locs hP hD hS => ?_)
  have hP : va_P D vwCl ([(a, .inr (7, [.ref a2, .int 1])), (a2, .inl (cy 5, 3, .inr (.inr (.inr (.inr (va_up (va_up (va_up (fun _ => none) 0 (some a4)) 1 (some a7)) 2 (some a10))))))), (a4, .inr (8, [.null, .null, .int 0])), (a7, .inr (8, [.null, .null, .int 0])), (a10, .inr (8, [.null, .null, .int 0]))]) H := hP
  have hD : va_D _ ([(a, .inr (7, [.ref a2, .int 1])), (a2, .inl (cy 5, 3, .inr (.inr (.inr (.inr (va_up (va_up (va_up (fun _ => none) 0 (some a4)) 1 (some a7)) 2 (some a10))))))), (a4, .inr (8, [.null, .null, .int 0])), (a7, .inr (8, [.null, .null, .int 0])), (a10, .inr (8, [.null, .null, .int 0]))]) := hD
  refine W.widen (k := 4) (n := 12) (by omega) (by omega) ?_
  exact W.vret hx hb hr (fun t ht hW => ⟨⟨(fun k => ([a2, a4, a7, a10] : List Nat).getD k 0, fun _ => fun _ => none), rfl, trivial, by rw [ht]; exact hP, va_K.moved hW.alike hK, hD⟩, hS.F ht⟩) hS.2.2 dX7_init_52
