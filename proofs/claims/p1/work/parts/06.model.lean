set_option maxHeartbeats 4000000 in
set_option maxRecDepth 100000 in
theorem mX10_in (l : Launch) (D : va_G) (sz : Nat) (v lo hi : Int32) : Met l yX10_in wsX10_in ({ frames := 0, cells := 0, slots := 0, locals := 0 }) (PW D ([]) (([] : va_W)) sz [.int v, .int lo, .int hi]) (QI D ([]) (([] : va_W)) (([] : va_W)) sz (fun r => r = sp_in v lo hi)) 0 0 (va_A (([] : va_W)) sz) := by
  refine Met.ofW (cc := cX10_in) (maxL := 3) (ret := (some .boolean)) (by decide) rfl ?_
  intro p e s m args below meth c s₁ B hml hv
  obtain ⟨rfl, hsz, hP, hK, hD0⟩ := hv
  have hx := B.exec
  have hb := B.bytes
  have hr := B.returns
  have hts := atoms_spec (ws := wsX10_in) B.pre
  have hown : s.vm.findClass RX10 = some m.cls := findClass_of_methodNamed B.named
  have hlocks := B.notSynchronized
  subst hsz
  have hD := hD0.self (sz := s.heap.size)
  have hA : ∀ q9 : Nat, s.heap.size ≤ q9 → va_A (([] : va_W)) s.heap.size q9 := fun q9 h => Or.inr h
  have hS : va_S (va_A (([] : va_W)) s.heap.size) s.heap s.heap [] := va_S.rf
  have hl := lv_entry ([.int v, .int lo, .int hi]) (n := 3) (Nat.le_of_ble_eq_true rfl)
  rw [lg_entry_eq]
  generalize (lg_sl ([.int v, .int lo, .int hi]) ++ List.replicate (3 - (lg_sl ([.int v, .int lo, .int hi])).length) Slot.unset).toArray = ls at hl ⊢
  have hl : lv_has ls 3 [(0, .int v), (1, .int lo), (2, .int hi)] := hl
  refine lv_iload_n hx hb dX10_in_0 rfl (lv_at hl 0 rfl) ?_
  refine lv_iload_n hx hb dX10_in_1 rfl (lv_at hl 1 rfl) ?_
  refine lv_icmp_lt (tgt := 14) hx hb dX10_in_2 (by decide) (fun c1 => ?_) (fun c1 => ?_)
  · skip
    refine lv_iconst (v := 0) hx hb dX10_in_14 (by decide) ?_
    exact W.zret (v := 0) hx hb hr (rfl) (fun t ht hW => ⟨⟨0, (), rfl, (by unfold sp_in; exact (if_pos c1).symm), by rw [ht]; exact P0, va_K.moved hW.alike hK, D0⟩, hS.F ht⟩) hS.2.2 dX10_in_15
  · skip
    refine lv_iload_n hx hb dX10_in_5 rfl (lv_at hl 0 rfl) ?_
    refine lv_iload_n hx hb dX10_in_6 rfl (lv_at hl 2 rfl) ?_
    refine lv_icmp_gt (tgt := 14) hx hb dX10_in_7 (by decide) (fun c2 => ?_) (fun c2 => ?_)
    · skip
      refine lv_iconst (v := 0) hx hb dX10_in_14 (by decide) ?_
      exact W.zret (v := 0) hx hb hr (rfl) (fun t ht hW => ⟨⟨0, (), rfl, (by unfold sp_in; exact ((if_neg c1).trans (if_pos c2)).symm), by rw [ht]; exact P0, va_K.moved hW.alike hK, D0⟩, hS.F ht⟩) hS.2.2 dX10_in_15
    · skip
      refine lv_iconst (v := 1) hx hb dX10_in_10 (by decide) ?_
      refine lv_goto (tgt := 15) hx hb dX10_in_11 (by decide) ?_
      exact W.zret (v := 1) hx hb hr (rfl) (fun t ht hW => ⟨⟨1, (), rfl, (by unfold sp_in; exact ((if_neg c1).trans (if_neg c2)).symm), by rw [ht]; exact P0, va_K.moved hW.alike hK, D0⟩, hS.F ht⟩) hS.2.2 dX10_in_15

theorem iX10_isReader_10 : ∀ w ∈ wsX100, w ∈ wsX10_isReader := fun _ h => List.mem_cons_of_mem _ (List.mem_append_right _ h)
set_option maxHeartbeats 4000000 in
set_option maxRecDepth 100000 in
theorem mX10_isReader (l : Launch) (D : va_G) (z : Nat → Nat) (cy : Nat → ClassId) (t : Int32) (sz : Nat) (n : Int32) : Met l yX10_isReader wsX10_isReader ({ frames := 1, cells := 0, slots := 0, locals := 22 }) (PW D (TYS cy) (MW z cy t) sz [.ref (z 58), .int n]) (QI D (TYS cy) (MW z cy t) (MW z cy t) sz (fun r => r = 0)) 0 0 (va_A (MW z cy t) sz) := by
  refine Met.ofW (cc := cX10_isReader) (maxL := 2) (ret := (some .boolean)) (by decide) rfl ?_
  intro p e s m args below meth c s₁ B hml hv
  obtain ⟨rfl, hsz, hP, hK, hD0⟩ := hv
  have hx := B.exec
  have hb := B.bytes
  have hr := B.returns
  have hts := atoms_spec (ws := wsX10_isReader) B.pre
  have hown : s.vm.findClass RX10 = some m.cls := findClass_of_methodNamed B.named
  have hlocks := B.notSynchronized
  subst hsz
  have hD := hD0.self (sz := s.heap.size)
  have hA : ∀ q9 : Nat, s.heap.size ≤ q9 → va_A (MW z cy t) s.heap.size q9 := fun q9 h => Or.inr h
  have hS : va_S (va_A (MW z cy t) s.heap.size) s.heap s.heap [] := va_S.rf
  have hl := lv_entry ([.ref (z 58), .int n]) (n := 2) (Nat.le_of_ble_eq_true rfl)
  rw [lg_entry_eq]
  generalize (lg_sl ([.ref (z 58), .int n]) ++ List.replicate (2 - (lg_sl ([.ref (z 58), .int n])).length) Slot.unset).toArray = ls at hl ⊢
  have hl : lv_has ls 2 [(0, .ref (z 58)), (1, .int n)] := hl
  refine lv_iload_n hx hb dX10_isReader_0 rfl (lv_at hl 1 rfl) ?_
  refine lv_iconst (v := 0) hx hb dX10_isReader_1 (by decide) ?_
  refine lv_aload_n hx hb dX10_isReader_2 rfl (lv_at hl 0 rfl) ?_
  refine va_get (D := D) (ci := 10) (v := .int 0) (C := RX10) (T := TX10) (N := 58) hx hb hts iX10_isReader_10 hown hK hP 0 rfl rfl 3 (by decide) (hts (.fieldLink RX10 153 "FondsRoomModel" "readers" "I") (by decide +kernel)) (fun _ h9 => h9) rfl dX10_isReader_3 ?_
  refine lv_iconst (v := 1) hx hb dX10_isReader_6 (by decide) ?_
  refine lv_isub hx hb dX10_isReader_7 ?_
  refine lv_topi (fun y1 ey1 => ?_)
  obtain rfl : y1 = (-1) := ey1.trans (by decide)
  refine csI (As := [.int n, .int 0, .int (-1)]) (rest := []) ⟨hx, hb, hml, hown, hts⟩ (mX10_in l D _ n 0 (-1)) (va_cwS 3 hts gX10_isReader_X10_in rfl rfl rfl (by decide +kernel) ⟨Nat.le_of_ble_eq_true rfl, Nat.le_of_ble_eq_true rfl⟩) hK hP hS hA rfl hl.1 rfl (Nat.le_of_ble_eq_true rfl) dX10_isReader_8 ⟨Nat.le_of_ble_eq_true rfl, Nat.le_of_ble_eq_true rfl⟩ (fun r2 H locs hr2 hP hS => ?_)
  obtain rfl : r2 = sp_in n 0 (-1) := hr2
  exact W.zret (v := (sp_in n 0 (-1))) hx hb hr ((nz01 (sp_in01 _ _ _)).1) (fun t ht hW => ⟨⟨(sp_in n 0 (-1)), (), rfl, (sp_in_m1 _), by rw [ht]; exact hP, va_K.moved hW.alike hK, hD⟩, hS.F ht⟩) hS.2.2 dX10_isReader_11

theorem iX10_isBox_10 : ∀ w ∈ wsX100, w ∈ wsX10_isBox := fun _ h => List.mem_cons_of_mem _ (List.mem_append_right _ h)
set_option maxHeartbeats 4000000 in
set_option maxRecDepth 100000 in
theorem mX10_isBox (l : Launch) (D : va_G) (z : Nat → Nat) (cy : Nat → ClassId) (t : Int32) (sz : Nat) (n : Int32) : Met l yX10_isBox wsX10_isBox ({ frames := 1, cells := 0, slots := 0, locals := 22 }) (PW D (TYS cy) (MW z cy t) sz [.ref (z 58), .int n]) (QI D (TYS cy) (MW z cy t) (MW z cy t) sz (fun r => r = 0)) 0 0 (va_A (MW z cy t) sz) := by
  refine Met.ofW (cc := cX10_isBox) (maxL := 2) (ret := (some .boolean)) (by decide) rfl ?_
  intro p e s m args below meth c s₁ B hml hv
  obtain ⟨rfl, hsz, hP, hK, hD0⟩ := hv
  have hx := B.exec
  have hb := B.bytes
  have hr := B.returns
  have hts := atoms_spec (ws := wsX10_isBox) B.pre
  have hown : s.vm.findClass RX10 = some m.cls := findClass_of_methodNamed B.named
  have hlocks := B.notSynchronized
  subst hsz
  have hD := hD0.self (sz := s.heap.size)
  have hA : ∀ q9 : Nat, s.heap.size ≤ q9 → va_A (MW z cy t) s.heap.size q9 := fun q9 h => Or.inr h
  have hS : va_S (va_A (MW z cy t) s.heap.size) s.heap s.heap [] := va_S.rf
  have hl := lv_entry ([.ref (z 58), .int n]) (n := 2) (Nat.le_of_ble_eq_true rfl)
  rw [lg_entry_eq]
  generalize (lg_sl ([.ref (z 58), .int n]) ++ List.replicate (2 - (lg_sl ([.ref (z 58), .int n])).length) Slot.unset).toArray = ls at hl ⊢
  have hl : lv_has ls 2 [(0, .ref (z 58)), (1, .int n)] := hl
  refine lv_iload_n hx hb dX10_isBox_0 rfl (lv_at hl 1 rfl) ?_
  refine lv_iconst (v := 0) hx hb dX10_isBox_1 (by decide) ?_
  refine lv_aload_n hx hb dX10_isBox_2 rfl (lv_at hl 0 rfl) ?_
  refine va_get (D := D) (ci := 10) (v := .int 0) (C := RX10) (T := TX10) (N := 58) hx hb hts iX10_isBox_10 hown hK hP 0 rfl rfl 2 (by decide) (hts (.fieldLink RX10 160 "FondsRoomModel" "boxes" "I") (by decide +kernel)) (fun _ h9 => h9) rfl dX10_isBox_3 ?_
  refine lv_iconst (v := 1) hx hb dX10_isBox_6 (by decide) ?_
  refine lv_isub hx hb dX10_isBox_7 ?_
  refine lv_topi (fun y1 ey1 => ?_)
  obtain rfl : y1 = (-1) := ey1.trans (by decide)
  refine csI (As := [.int n, .int 0, .int (-1)]) (rest := []) ⟨hx, hb, hml, hown, hts⟩ (mX10_in l D _ n 0 (-1)) (va_cwS 3 hts gX10_isBox_X10_in rfl rfl rfl (by decide +kernel) ⟨Nat.le_of_ble_eq_true rfl, Nat.le_of_ble_eq_true rfl⟩) hK hP hS hA rfl hl.1 rfl (Nat.le_of_ble_eq_true rfl) dX10_isBox_8 ⟨Nat.le_of_ble_eq_true rfl, Nat.le_of_ble_eq_true rfl⟩ (fun r2 H locs hr2 hP hS => ?_)
  obtain rfl : r2 = sp_in n 0 (-1) := hr2
  exact W.zret (v := (sp_in n 0 (-1))) hx hb hr ((nz01 (sp_in01 _ _ _)).1) (fun t ht hW => ⟨⟨(sp_in n 0 (-1)), (), rfl, (sp_in_m1 _), by rw [ht]; exact hP, va_K.moved hW.alike hK, hD⟩, hS.F ht⟩) hS.2.2 dX10_isBox_11

set_option maxHeartbeats 4000000 in
set_option maxRecDepth 100000 in
theorem mX10_canPlan (l : Launch) (D : va_G) (z : Nat → Nat) (cy : Nat → ClassId) (sz : Nat) (r1 : Int32) : Met l yX10_canPlan wsX10_canPlan ({ frames := 2, cells := 0, slots := 0, locals := 43 }) (PW D (TYS cy) (MW z cy 0) sz [.ref (z 58), .int r1]) (QI D (TYS cy) (MW z cy 0) (MW z cy 0) sz (fun r => r = 0)) 0 0 (va_A (MW z cy 0) sz) := by
  refine Met.ofW (cc := cX10_canPlan) (maxL := 2) (ret := (some .boolean)) (by decide) rfl ?_
  intro p e s m args below meth c s₁ B hml hv
  obtain ⟨rfl, hsz, hP, hK, hD0⟩ := hv
  have hx := B.exec
  have hb := B.bytes
  have hr := B.returns
  have hts := atoms_spec (ws := wsX10_canPlan) B.pre
  have hown : s.vm.findClass RX10 = some m.cls := findClass_of_methodNamed B.named
  have hlocks := B.notSynchronized
  subst hsz
  have hD := hD0.self (sz := s.heap.size)
  have hA : ∀ q9 : Nat, s.heap.size ≤ q9 → va_A (MW z cy 0) s.heap.size q9 := fun q9 h => Or.inr h
  have hS : va_S (va_A (MW z cy 0) s.heap.size) s.heap s.heap [] := va_S.rf
  have hl := lv_entry ([.ref (z 58), .int r1]) (n := 2) (Nat.le_of_ble_eq_true rfl)
  rw [lg_entry_eq]
  generalize (lg_sl ([.ref (z 58), .int r1]) ++ List.replicate (2 - (lg_sl ([.ref (z 58), .int r1])).length) Slot.unset).toArray = ls at hl ⊢
  have hl : lv_has ls 2 [(0, .ref (z 58)), (1, .int r1)] := hl
  refine lv_aload_n hx hb dX10_canPlan_0 rfl (lv_at hl 0 rfl) ?_
  refine lv_iload_n hx hb dX10_canPlan_1 rfl (lv_at hl 1 rfl) ?_
  refine cvI (wr := []) (As := [.int r1]) (rest := []) ⟨hx, hb, hml, hown, hts⟩ (mX10_isReader l D z cy 0 _ r1 ) (cwV 1 hts gX10_canPlan_X10_isReader rfl rfl rfl (by decide +kernel) ⟨Nat.le_of_ble_eq_true rfl, Nat.le_of_ble_eq_true rfl⟩) hK hP hD hS hA [0, 1, 2, 3, 4, 5, 6, 7, 8, 9, 10, 11, 12, 13, 14, 15, 16] [] rfl rfl (by decide) (by decide) (by decide) 0 10 rfl rfl rfl hl.1 rfl (Nat.le_of_ble_eq_true rfl) dX10_canPlan_2 ⟨Nat.le_of_ble_eq_true rfl, Nat.le_of_ble_eq_true rfl⟩ (fun r1 H locs hr1 hP hD hS => ?_)
  have hP : va_P D vwCl (MW z cy 0) H := hP
  have hD : va_D _ (MW z cy 0) := hD
  obtain rfl : r1 = 0 := hr1
  refine lv_if_eq (tgt := 38) hx hb dX10_canPlan_5 (by decide) (fun _ => ?_) (fun c9 => absurd (by decide) c9)
  refine lv_iconst (v := 0) hx hb dX10_canPlan_38 (by decide) ?_
  exact W.zret (v := 0) hx hb hr (rfl) (fun t ht hW => ⟨⟨0, (), rfl, (by first | rfl | trivial | decide), by rw [ht]; exact hP, va_K.moved hW.alike hK, hD⟩, hS.F ht⟩) hS.2.2 dX10_canPlan_39

theorem iX10_ask_10 : ∀ w ∈ wsX100, w ∈ wsX10_ask := fun _ h => List.mem_cons_of_mem _ (List.mem_append_right _ h)
set_option maxHeartbeats 4000000 in
set_option maxRecDepth 100000 in
theorem mX10_ask (l : Launch) (D : va_G) (z : Nat → Nat) (cy : Nat → ClassId) (sz : Nat) (r1 bx : Int32) : Met l yX10_ask wsX10_ask ({ frames := 3, cells := 0, slots := 0, locals := 64 }) (PW D (TYS cy) (MW z cy 0) sz [.ref (z 58), .int r1, .int bx]) (QI D (TYS cy) (MW z cy 0) (MW z cy 0) sz (fun r => r = 0)) 0 0 (va_A (MW z cy 0) sz) := by
  refine Met.ofW (cc := cX10_ask) (maxL := 3) (ret := (some .boolean)) (by decide) rfl ?_
  intro p e s m args below meth c s₁ B hml hv
  obtain ⟨rfl, hsz, hP, hK, hD0⟩ := hv
  have hx := B.exec
  have hb := B.bytes
  have hr := B.returns
  have hts := atoms_spec (ws := wsX10_ask) B.pre
  have hown : s.vm.findClass RX10 = some m.cls := findClass_of_methodNamed B.named
  have hlocks := B.notSynchronized
  subst hsz
  have hD := hD0.self (sz := s.heap.size)
  have hA : ∀ q9 : Nat, s.heap.size ≤ q9 → va_A (MW z cy 0) s.heap.size q9 := fun q9 h => Or.inr h
  have hS : va_S (va_A (MW z cy 0) s.heap.size) s.heap s.heap [] := va_S.rf
  have hl := lv_entry ([.ref (z 58), .int r1, .int bx]) (n := 3) (Nat.le_of_ble_eq_true rfl)
  rw [lg_entry_eq]
  generalize (lg_sl ([.ref (z 58), .int r1, .int bx]) ++ List.replicate (3 - (lg_sl ([.ref (z 58), .int r1, .int bx])).length) Slot.unset).toArray = ls at hl ⊢
  have hl : lv_has ls 3 [(0, .ref (z 58)), (1, .int r1), (2, .int bx)] := hl
  refine lv_aload_n hx hb dX10_ask_0 rfl (lv_at hl 0 rfl) ?_
  refine lv_iconst (v := 0) hx hb dX10_ask_1 (by decide) ?_
  refine va_put (D := D) (ci := 10) (v := .int 0) (ty := .int) (C := RX10) (T := TX10) (N := 58) hx hb hts iX10_ask_10 tyX10 tyX10_ok nmX10 hown hK hP hD hS 0 rfl rfl 0 (by decide) (hts (.fieldLink RX10 150 "FondsRoomModel" "thrown" "I") (by decide +kernel)) (fun _ h9 => h9) rfl (by decide +kernel) rfl rfl (Nat.le_of_ble_eq_true rfl) dX10_ask_2 (fun H locs hP hD hS => ?_)
  have hP : va_P D vwCl (MW z cy 0) H := hP
  have hD : va_D _ (MW z cy 0) := hD
  refine lv_aload_n hx hb dX10_ask_5 rfl (lv_at hl 0 rfl) ?_
  refine lv_iload_n hx hb dX10_ask_6 rfl (lv_at hl 1 rfl) ?_
  refine cvI (wr := []) (As := [.int r1]) (rest := []) ⟨hx, hb, hml, hown, hts⟩ (mX10_canPlan l D z cy _ r1 ) (cwV 1 hts gX10_ask_X10_canPlan rfl rfl rfl (by decide +kernel) ⟨Nat.le_of_ble_eq_true rfl, Nat.le_of_ble_eq_true rfl⟩) hK hP hD hS hA [0, 1, 2, 3, 4, 5, 6, 7, 8, 9, 10, 11, 12, 13, 14, 15, 16] [] rfl rfl (by decide) (by decide) (by decide) 0 10 rfl rfl rfl hl.1 rfl (Nat.le_of_ble_eq_true rfl) dX10_ask_7 ⟨Nat.le_of_ble_eq_true rfl, Nat.le_of_ble_eq_true rfl⟩ (fun r1 H locs hr1 hP hD hS => ?_)
  have hP : va_P D vwCl (MW z cy 0) H := hP
  have hD : va_D _ (MW z cy 0) := hD
  obtain rfl : r1 = 0 := hr1
  refine lv_if_eq (tgt := 37) hx hb dX10_ask_10 (by decide) (fun _ => ?_) (fun c9 => absurd (by decide) c9)
  refine lv_iconst (v := 0) hx hb dX10_ask_37 (by decide) ?_
  exact W.zret (v := 0) hx hb hr (rfl) (fun t ht hW => ⟨⟨0, (), rfl, (by first | rfl | trivial | decide), by rw [ht]; exact hP, va_K.moved hW.alike hK, hD⟩, hS.F ht⟩) hS.2.2 dX10_ask_38

theorem iX10_read_10 : ∀ w ∈ wsX100, w ∈ wsX10_read := fun _ h => List.mem_cons_of_mem _ (List.mem_append_right _ h)
set_option maxHeartbeats 4000000 in
set_option maxRecDepth 100000 in
theorem mX10_read (l : Launch) (D : va_G) (z : Nat → Nat) (cy : Nat → ClassId) (sz : Nat) (r1 n : Int32) : Met l yX10_read wsX10_read ({ frames := 3, cells := 0, slots := 0, locals := 64 }) (PW D (TYS cy) (MW z cy 0) sz [.ref (z 58), .int r1, .int n]) (QI D (TYS cy) (MW z cy 0) (MW z cy 0) sz (fun r => r = 0)) 0 0 (va_A (MW z cy 0) sz) := by
  refine Met.ofW (cc := cX10_read) (maxL := 3) (ret := (some .boolean)) (by decide) rfl ?_
  intro p e s m args below meth c s₁ B hml hv
  obtain ⟨rfl, hsz, hP, hK, hD0⟩ := hv
  have hx := B.exec
  have hb := B.bytes
  have hr := B.returns
  have hts := atoms_spec (ws := wsX10_read) B.pre
  have hown : s.vm.findClass RX10 = some m.cls := findClass_of_methodNamed B.named
  have hlocks := B.notSynchronized
  subst hsz
  have hD := hD0.self (sz := s.heap.size)
  have hA : ∀ q9 : Nat, s.heap.size ≤ q9 → va_A (MW z cy 0) s.heap.size q9 := fun q9 h => Or.inr h
  have hS : va_S (va_A (MW z cy 0) s.heap.size) s.heap s.heap [] := va_S.rf
  have hl := lv_entry ([.ref (z 58), .int r1, .int n]) (n := 3) (Nat.le_of_ble_eq_true rfl)
  rw [lg_entry_eq]
  generalize (lg_sl ([.ref (z 58), .int r1, .int n]) ++ List.replicate (3 - (lg_sl ([.ref (z 58), .int r1, .int n])).length) Slot.unset).toArray = ls at hl ⊢
  have hl : lv_has ls 3 [(0, .ref (z 58)), (1, .int r1), (2, .int n)] := hl
  refine lv_aload_n hx hb dX10_read_0 rfl (lv_at hl 0 rfl) ?_
  refine lv_iconst (v := 0) hx hb dX10_read_1 (by decide) ?_
  refine va_put (D := D) (ci := 10) (v := .int 0) (ty := .int) (C := RX10) (T := TX10) (N := 58) hx hb hts iX10_read_10 tyX10 tyX10_ok nmX10 hown hK hP hD hS 0 rfl rfl 0 (by decide) (hts (.fieldLink RX10 150 "FondsRoomModel" "thrown" "I") (by decide +kernel)) (fun _ h9 => h9) rfl (by decide +kernel) rfl rfl (Nat.le_of_ble_eq_true rfl) dX10_read_2 (fun H locs hP hD hS => ?_)
  have hP : va_P D vwCl (MW z cy 0) H := hP
  have hD : va_D _ (MW z cy 0) := hD
  refine lv_aload_n hx hb dX10_read_5 rfl (lv_at hl 0 rfl) ?_
  refine lv_iload_n hx hb dX10_read_6 rfl (lv_at hl 1 rfl) ?_
  refine cvI (wr := []) (As := [.int r1]) (rest := []) ⟨hx, hb, hml, hown, hts⟩ (mX10_canPlan l D z cy _ r1 ) (cwV 1 hts gX10_read_X10_canPlan rfl rfl rfl (by decide +kernel) ⟨Nat.le_of_ble_eq_true rfl, Nat.le_of_ble_eq_true rfl⟩) hK hP hD hS hA [0, 1, 2, 3, 4, 5, 6, 7, 8, 9, 10, 11, 12, 13, 14, 15, 16] [] rfl rfl (by decide) (by decide) (by decide) 0 10 rfl rfl rfl hl.1 rfl (Nat.le_of_ble_eq_true rfl) dX10_read_7 ⟨Nat.le_of_ble_eq_true rfl, Nat.le_of_ble_eq_true rfl⟩ (fun r1 H locs hr1 hP hD hS => ?_)
  have hP : va_P D vwCl (MW z cy 0) H := hP
  have hD : va_D _ (MW z cy 0) := hD
  obtain rfl : r1 = 0 := hr1
  refine lv_if_eq (tgt := 39) hx hb dX10_read_10 (by decide) (fun _ => ?_) (fun c9 => absurd (by decide) c9)
  refine lv_iconst (v := 0) hx hb dX10_read_39 (by decide) ?_
  exact W.zret (v := 0) hx hb hr (rfl) (fun t ht hW => ⟨⟨0, (), rfl, (by first | rfl | trivial | decide), by rw [ht]; exact hP, va_K.moved hW.alike hK, hD⟩, hS.F ht⟩) hS.2.2 dX10_read_40

theorem iX10_copy_10 : ∀ w ∈ wsX100, w ∈ wsX10_copy := fun _ h => List.mem_cons_of_mem _ (List.mem_append_right _ h)
set_option maxHeartbeats 4000000 in
set_option maxRecDepth 100000 in
theorem mX10_copy (l : Launch) (D : va_G) (z : Nat → Nat) (cy : Nat → ClassId) (sz : Nat) (r1 bx n u : Int32) : Met l yX10_copy wsX10_copy ({ frames := 3, cells := 0, slots := 0, locals := 64 }) (PW D (TYS cy) (MW z cy 0) sz [.ref (z 58), .int r1, .int bx, .int n, .int u]) (QI D (TYS cy) (MW z cy 0) (MW z cy 0) sz (fun r => r = 0)) 0 0 (va_A (MW z cy 0) sz) := by
  refine Met.ofW (cc := cX10_copy) (maxL := 5) (ret := (some .boolean)) (by decide) rfl ?_
  intro p e s m args below meth c s₁ B hml hv
  obtain ⟨rfl, hsz, hP, hK, hD0⟩ := hv
  have hx := B.exec
  have hb := B.bytes
  have hr := B.returns
  have hts := atoms_spec (ws := wsX10_copy) B.pre
  have hown : s.vm.findClass RX10 = some m.cls := findClass_of_methodNamed B.named
  have hlocks := B.notSynchronized
  subst hsz
  have hD := hD0.self (sz := s.heap.size)
  have hA : ∀ q9 : Nat, s.heap.size ≤ q9 → va_A (MW z cy 0) s.heap.size q9 := fun q9 h => Or.inr h
  have hS : va_S (va_A (MW z cy 0) s.heap.size) s.heap s.heap [] := va_S.rf
  have hl := lv_entry ([.ref (z 58), .int r1, .int bx, .int n, .int u]) (n := 5) (Nat.le_of_ble_eq_true rfl)
  rw [lg_entry_eq]
  generalize (lg_sl ([.ref (z 58), .int r1, .int bx, .int n, .int u]) ++ List.replicate (5 - (lg_sl ([.ref (z 58), .int r1, .int bx, .int n, .int u])).length) Slot.unset).toArray = ls at hl ⊢
  have hl : lv_has ls 5 [(0, .ref (z 58)), (1, .int r1), (2, .int bx), (3, .int n), (4, .int u)] := hl
  refine lv_aload_n hx hb dX10_copy_0 rfl (lv_at hl 0 rfl) ?_
  refine lv_iconst (v := 0) hx hb dX10_copy_1 (by decide) ?_
  refine va_put (D := D) (ci := 10) (v := .int 0) (ty := .int) (C := RX10) (T := TX10) (N := 58) hx hb hts iX10_copy_10 tyX10 tyX10_ok nmX10 hown hK hP hD hS 0 rfl rfl 0 (by decide) (hts (.fieldLink RX10 150 "FondsRoomModel" "thrown" "I") (by decide +kernel)) (fun _ h9 => h9) rfl (by decide +kernel) rfl rfl (Nat.le_of_ble_eq_true rfl) dX10_copy_2 (fun H locs hP hD hS => ?_)
  have hP : va_P D vwCl (MW z cy 0) H := hP
  have hD : va_D _ (MW z cy 0) := hD
  refine lv_aload_n hx hb dX10_copy_5 rfl (lv_at hl 0 rfl) ?_
  refine lv_iload_n hx hb dX10_copy_6 rfl (lv_at hl 1 rfl) ?_
  refine cvI (wr := []) (As := [.int r1]) (rest := []) ⟨hx, hb, hml, hown, hts⟩ (mX10_canPlan l D z cy _ r1 ) (cwV 1 hts gX10_copy_X10_canPlan rfl rfl rfl (by decide +kernel) ⟨Nat.le_of_ble_eq_true rfl, Nat.le_of_ble_eq_true rfl⟩) hK hP hD hS hA [0, 1, 2, 3, 4, 5, 6, 7, 8, 9, 10, 11, 12, 13, 14, 15, 16] [] rfl rfl (by decide) (by decide) (by decide) 0 10 rfl rfl rfl hl.1 rfl (Nat.le_of_ble_eq_true rfl) dX10_copy_7 ⟨Nat.le_of_ble_eq_true rfl, Nat.le_of_ble_eq_true rfl⟩ (fun r1 H locs hr1 hP hD hS => ?_)
  have hP : va_P D vwCl (MW z cy 0) H := hP
  have hD : va_D _ (MW z cy 0) := hD
  obtain rfl : r1 = 0 := hr1
  refine lv_if_eq (tgt := 48) hx hb dX10_copy_10 (by decide) (fun _ => ?_) (fun c9 => absurd (by decide) c9)
  refine lv_iconst (v := 0) hx hb dX10_copy_48 (by decide) ?_
  exact W.zret (v := 0) hx hb hr (rfl) (fun t ht hW => ⟨⟨0, (), rfl, (by first | rfl | trivial | decide), by rw [ht]; exact hP, va_K.moved hW.alike hK, hD⟩, hS.F ht⟩) hS.2.2 dX10_copy_49

theorem iX10_back_10 : ∀ w ∈ wsX100, w ∈ wsX10_back := fun _ h => List.mem_cons_of_mem _ (List.mem_append_right _ h)
set_option maxHeartbeats 4000000 in
set_option maxRecDepth 100000 in
theorem mX10_back (l : Launch) (D : va_G) (z : Nat → Nat) (cy : Nat → ClassId) (sz : Nat) (r1 bx : Int32) : Met l yX10_back wsX10_back ({ frames := 3, cells := 0, slots := 0, locals := 64 }) (PW D (TYS cy) (MW z cy 0) sz [.ref (z 58), .int r1, .int bx]) (QI D (TYS cy) (MW z cy 0) (MW z cy 0) sz (fun r => r = 0)) 0 0 (va_A (MW z cy 0) sz) := by
  refine Met.ofW (cc := cX10_back) (maxL := 3) (ret := (some .boolean)) (by decide) rfl ?_
  intro p e s m args below meth c s₁ B hml hv
  obtain ⟨rfl, hsz, hP, hK, hD0⟩ := hv
  have hx := B.exec
  have hb := B.bytes
  have hr := B.returns
  have hts := atoms_spec (ws := wsX10_back) B.pre
  have hown : s.vm.findClass RX10 = some m.cls := findClass_of_methodNamed B.named
  have hlocks := B.notSynchronized
  subst hsz
  have hD := hD0.self (sz := s.heap.size)
  have hA : ∀ q9 : Nat, s.heap.size ≤ q9 → va_A (MW z cy 0) s.heap.size q9 := fun q9 h => Or.inr h
  have hS : va_S (va_A (MW z cy 0) s.heap.size) s.heap s.heap [] := va_S.rf
  have hl := lv_entry ([.ref (z 58), .int r1, .int bx]) (n := 3) (Nat.le_of_ble_eq_true rfl)
  rw [lg_entry_eq]
  generalize (lg_sl ([.ref (z 58), .int r1, .int bx]) ++ List.replicate (3 - (lg_sl ([.ref (z 58), .int r1, .int bx])).length) Slot.unset).toArray = ls at hl ⊢
  have hl : lv_has ls 3 [(0, .ref (z 58)), (1, .int r1), (2, .int bx)] := hl
  refine lv_aload_n hx hb dX10_back_0 rfl (lv_at hl 0 rfl) ?_
  refine lv_iconst (v := 0) hx hb dX10_back_1 (by decide) ?_
  refine va_put (D := D) (ci := 10) (v := .int 0) (ty := .int) (C := RX10) (T := TX10) (N := 58) hx hb hts iX10_back_10 tyX10 tyX10_ok nmX10 hown hK hP hD hS 0 rfl rfl 0 (by decide) (hts (.fieldLink RX10 150 "FondsRoomModel" "thrown" "I") (by decide +kernel)) (fun _ h9 => h9) rfl (by decide +kernel) rfl rfl (Nat.le_of_ble_eq_true rfl) dX10_back_2 (fun H locs hP hD hS => ?_)
  have hP : va_P D vwCl (MW z cy 0) H := hP
  have hD : va_D _ (MW z cy 0) := hD
  refine lv_aload_n hx hb dX10_back_5 rfl (lv_at hl 0 rfl) ?_
  refine lv_iload_n hx hb dX10_back_6 rfl (lv_at hl 1 rfl) ?_
  refine cvI (wr := []) (As := [.int r1]) (rest := []) ⟨hx, hb, hml, hown, hts⟩ (mX10_canPlan l D z cy _ r1 ) (cwV 1 hts gX10_back_X10_canPlan rfl rfl rfl (by decide +kernel) ⟨Nat.le_of_ble_eq_true rfl, Nat.le_of_ble_eq_true rfl⟩) hK hP hD hS hA [0, 1, 2, 3, 4, 5, 6, 7, 8, 9, 10, 11, 12, 13, 14, 15, 16] [] rfl rfl (by decide) (by decide) (by decide) 0 10 rfl rfl rfl hl.1 rfl (Nat.le_of_ble_eq_true rfl) dX10_back_7 ⟨Nat.le_of_ble_eq_true rfl, Nat.le_of_ble_eq_true rfl⟩ (fun r1 H locs hr1 hP hD hS => ?_)
  have hP : va_P D vwCl (MW z cy 0) H := hP
  have hD : va_D _ (MW z cy 0) := hD
  obtain rfl : r1 = 0 := hr1
  refine lv_if_eq (tgt := 37) hx hb dX10_back_10 (by decide) (fun _ => ?_) (fun c9 => absurd (by decide) c9)
  refine lv_iconst (v := 0) hx hb dX10_back_37 (by decide) ?_
  exact W.zret (v := 0) hx hb hr (rfl) (fun t ht hW => ⟨⟨0, (), rfl, (by first | rfl | trivial | decide), by rw [ht]; exact hP, va_K.moved hW.alike hK, hD⟩, hS.F ht⟩) hS.2.2 dX10_back_38

theorem iX10_desk_10 : ∀ w ∈ wsX100, w ∈ wsX10_desk := fun _ h => List.mem_cons_of_mem _ (List.mem_append_right _ h)
set_option maxHeartbeats 4000000 in
set_option maxRecDepth 100000 in
theorem mX10_desk (l : Launch) (D : va_G) (z : Nat → Nat) (cy : Nat → ClassId) (sz : Nat) (b1 : Int32) : Met l yX10_desk wsX10_desk ({ frames := 0, cells := 0, slots := 0, locals := 0 }) (PW D (TYS cy) (MW z cy 0) sz [.ref (z 58), .int b1]) (QI D (TYS cy) (MW z cy 0) (([] : va_W)) sz (fun r => r = 0)) 0 0 (va_A (MW z cy 0) sz) := by
  refine Met.ofW (cc := cX10_desk) (maxL := 2) (ret := (some .int)) (by decide) rfl ?_
  intro p e s m args below meth c s₁ B hml hv
  obtain ⟨rfl, hsz, hP, hK, hD0⟩ := hv
  have hx := B.exec
  have hb := B.bytes
  have hr := B.returns
  have hts := atoms_spec (ws := wsX10_desk) B.pre
  have hown : s.vm.findClass RX10 = some m.cls := findClass_of_methodNamed B.named
  have hlocks := B.notSynchronized
  subst hsz
  have hD := hD0.self (sz := s.heap.size)
  have hA : ∀ q9 : Nat, s.heap.size ≤ q9 → va_A (MW z cy 0) s.heap.size q9 := fun q9 h => Or.inr h
  have hS : va_S (va_A (MW z cy 0) s.heap.size) s.heap s.heap [] := va_S.rf
  have hl := lv_entry ([.ref (z 58), .int b1]) (n := 2) (Nat.le_of_ble_eq_true rfl)
  rw [lg_entry_eq]
  generalize (lg_sl ([.ref (z 58), .int b1]) ++ List.replicate (2 - (lg_sl ([.ref (z 58), .int b1])).length) Slot.unset).toArray = ls at hl ⊢
  have hl : lv_has ls 2 [(0, .ref (z 58)), (1, .int b1)] := hl
  refine lv_aload_n hx hb dX10_desk_0 rfl (lv_at hl 0 rfl) ?_
  refine lv_iconst (v := 0) hx hb dX10_desk_1 (by decide) ?_
  refine va_put (D := D) (ci := 10) (v := .int 0) (ty := .int) (C := RX10) (T := TX10) (N := 58) hx hb hts iX10_desk_10 tyX10 tyX10_ok nmX10 hown hK hP hD hS 0 rfl rfl 0 (by decide) (hts (.fieldLink RX10 150 "FondsRoomModel" "thrown" "I") (by decide +kernel)) (fun _ h9 => h9) rfl (by decide +kernel) rfl rfl (Nat.le_of_ble_eq_true rfl) dX10_desk_2 (fun H locs hP hD hS => ?_)
  have hP : va_P D vwCl (MW z cy 0) H := hP
  have hD : va_D _ (MW z cy 0) := hD
  refine lv_aload_n hx hb dX10_desk_5 rfl (lv_at hl 0 rfl) ?_
  refine va_get (D := D) (ci := 10) (v := .int 0) (C := RX10) (T := TX10) (N := 58) hx hb hts iX10_desk_10 hown hK hP 0 rfl rfl 4 (by decide) (hts (.fieldLink RX10 163 "FondsRoomModel" "turn" "I") (by decide +kernel)) (fun _ h9 => h9) rfl dX10_desk_6 ?_
  refine lv_if_gt (tgt := 21) hx hb dX10_desk_9 (by decide) (fun c9 => absurd c9 (by decide)) (fun _ => ?_)
  refine lv_aload_n hx hb dX10_desk_12 rfl (lv_at hl 0 rfl) ?_
  refine va_get (D := D) (ci := 10) (v := .int 0) (C := RX10) (T := TX10) (N := 58) hx hb hts iX10_desk_10 hown hK hP 0 rfl rfl 1 (by decide) (hts (.fieldLink RX10 166 "FondsRoomModel" "desks" "I") (by decide +kernel)) (fun _ h9 => h9) rfl dX10_desk_13 ?_
  refine lv_bipush (v := 12) hx hb dX10_desk_16 (by decide) ?_
  refine lv_icmp_ne (tgt := 23) hx hb dX10_desk_18 (by decide) (fun _ => ?_) (fun c9 => absurd c9 (by decide))
  refine lv_aload_n hx hb dX10_desk_23 rfl (lv_at hl 0 rfl) ?_
  refine va_get (D := D) (ci := 10) (v := .ref (z 9)) (C := RX10) (T := TX10) (N := 58) hx hb hts iX10_desk_10 hown hK hP 0 rfl rfl 9 (by decide) (hts (.fieldLink RX10 22 "FondsRoomModel" "isWatched" "[Z") (by decide +kernel)) (fun _ h9 => h9) rfl dX10_desk_24 ?_
  refine lv_aload_n hx hb dX10_desk_27 rfl (lv_at hl 0 rfl) ?_
  refine va_get (D := D) (ci := 10) (v := .int 0) (C := RX10) (T := TX10) (N := 58) hx hb hts iX10_desk_10 hown hK hP 0 rfl rfl 1 (by decide) (hts (.fieldLink RX10 166 "FondsRoomModel" "desks" "I") (by decide +kernel)) (fun _ h9 => h9) rfl dX10_desk_28 ?_
  refine lv_iload_n hx hb dX10_desk_31 rfl (lv_at hl 1 rfl) ?_
  refine va_zast hx hb hK hP hD hS 1 1 rfl rfl (vp_in_iff.mpr (by decide)) dX10_desk_32 (fun H locs hP hD hS => ?_)
  have hP : va_P D vwCl ([(z 58, .inr (10, [.int 0, .int 0, .int 0, .int 0, .int 0, .int (-1), .int 2, .int 2, .int 1, .ref (z 9), .ref (z 10), .ref (z 11), .ref (z 12), .ref (z 13), .ref (z 14), .ref (z 15), .ref (z 16), .ref (z 17), .ref (z 18), .ref (z 19), .int 0, .int 0, .int 0, .int 0, .ref (z 24), .ref (z 25), .ref (z 26), .ref (z 27), .ref (z 28), .ref (z 29), .ref (z 30), .ref (z 31), .ref (z 32), .ref (z 33), .ref (z 34), .ref (z 35), .ref (z 36), .ref (z 37), .ref (z 38), .ref (z 39), .ref (z 40), .ref (z 41), .ref (z 42), .ref (z 43), .ref (z 44), .ref (z 45), .ref (z 46), .int 0, .ref (z 48), .ref (z 49), .ref (z 50), .ref (z 51), .int 0, .ref (z 53), .ref (z 54), .ref (z 55), .ref (z 56), .int 0])), (z 9, .inl (cy 1, 12, .inl (upd (fun _ => 0) 0 (vp_nar .boolean b1)))), (z 10, .inl (cy 0, 12, .inl (fun _ => 0))), (z 11, .inl (cy 0, 40, .inl (fun _ => 0))), (z 12, .inl (cy 1, 40, .inl (fun _ => 0))), (z 14, .inl (cy 0, 40, .inl (fun _ => 0))), (z 15, .inl (cy 0, 40, .inl (fun _ => 0))), (z 24, .inl (cy 0, 20, .inl (fun _ => 0))), (z 25, .inl (cy 0, 20, .inl (fun _ => 0))), (z 26, .inl (cy 1, 20, .inl (fun _ => 0))), (z 28, .inl (cy 0, 20, .inl (fun _ => 0))), (z 42, .inl (cy 0, 4, .inl (upd (upd (upd (upd (fun _ => 0) 0 (-1)) 1 (-1)) 2 (-1)) 3 (-1)))), (z 44, .inl (cy 0, 4, .inl (fun _ => 0))), (z 45, .inl (cy 0, 3, .inl (upd (upd (upd (fun _ => 0) 0 (-1)) 1 (-1)) 2 (-1)))), (z 53, .inl (cy 0, 30, .inl (fun _ => 0))), (z 54, .inl (cy 0, 30, .inl (fun _ => 0))), (z 55, .inl (cy 0, 30, .inl (fun _ => 0)))]) H := hP
  have hD : va_D _ ([(z 58, .inr (10, [.int 0, .int 0, .int 0, .int 0, .int 0, .int (-1), .int 2, .int 2, .int 1, .ref (z 9), .ref (z 10), .ref (z 11), .ref (z 12), .ref (z 13), .ref (z 14), .ref (z 15), .ref (z 16), .ref (z 17), .ref (z 18), .ref (z 19), .int 0, .int 0, .int 0, .int 0, .ref (z 24), .ref (z 25), .ref (z 26), .ref (z 27), .ref (z 28), .ref (z 29), .ref (z 30), .ref (z 31), .ref (z 32), .ref (z 33), .ref (z 34), .ref (z 35), .ref (z 36), .ref (z 37), .ref (z 38), .ref (z 39), .ref (z 40), .ref (z 41), .ref (z 42), .ref (z 43), .ref (z 44), .ref (z 45), .ref (z 46), .int 0, .ref (z 48), .ref (z 49), .ref (z 50), .ref (z 51), .int 0, .ref (z 53), .ref (z 54), .ref (z 55), .ref (z 56), .int 0])), (z 9, .inl (cy 1, 12, .inl (upd (fun _ => 0) 0 (vp_nar .boolean b1)))), (z 10, .inl (cy 0, 12, .inl (fun _ => 0))), (z 11, .inl (cy 0, 40, .inl (fun _ => 0))), (z 12, .inl (cy 1, 40, .inl (fun _ => 0))), (z 14, .inl (cy 0, 40, .inl (fun _ => 0))), (z 15, .inl (cy 0, 40, .inl (fun _ => 0))), (z 24, .inl (cy 0, 20, .inl (fun _ => 0))), (z 25, .inl (cy 0, 20, .inl (fun _ => 0))), (z 26, .inl (cy 1, 20, .inl (fun _ => 0))), (z 28, .inl (cy 0, 20, .inl (fun _ => 0))), (z 42, .inl (cy 0, 4, .inl (upd (upd (upd (upd (fun _ => 0) 0 (-1)) 1 (-1)) 2 (-1)) 3 (-1)))), (z 44, .inl (cy 0, 4, .inl (fun _ => 0))), (z 45, .inl (cy 0, 3, .inl (upd (upd (upd (fun _ => 0) 0 (-1)) 1 (-1)) 2 (-1)))), (z 53, .inl (cy 0, 30, .inl (fun _ => 0))), (z 54, .inl (cy 0, 30, .inl (fun _ => 0))), (z 55, .inl (cy 0, 30, .inl (fun _ => 0)))]) := hD
  refine lv_aload_n hx hb dX10_desk_33 rfl (lv_at hl 0 rfl) ?_
  refine va_get (D := D) (ci := 10) (v := .ref (z 10)) (C := RX10) (T := TX10) (N := 58) hx hb hts iX10_desk_10 hown hK hP 0 rfl rfl 10 (by decide) (hts (.fieldLink RX10 26 "FondsRoomModel" "sitter" "[I") (by decide +kernel)) (fun _ h9 => h9) rfl dX10_desk_34 ?_
  refine lv_aload_n hx hb dX10_desk_37 rfl (lv_at hl 0 rfl) ?_
  refine va_get (D := D) (ci := 10) (v := .int 0) (C := RX10) (T := TX10) (N := 58) hx hb hts iX10_desk_10 hown hK hP 0 rfl rfl 1 (by decide) (hts (.fieldLink RX10 166 "FondsRoomModel" "desks" "I") (by decide +kernel)) (fun _ h9 => h9) rfl dX10_desk_38 ?_
  refine lv_iconst (v := (-1)) hx hb dX10_desk_41 (by decide) ?_
  refine va_iast hx hb hK hP hD hS 2 0 rfl rfl (vp_in_iff.mpr (by decide)) dX10_desk_42 (fun H locs hP hD hS => ?_)
  have hP : va_P D vwCl ([(z 58, .inr (10, [.int 0, .int 0, .int 0, .int 0, .int 0, .int (-1), .int 2, .int 2, .int 1, .ref (z 9), .ref (z 10), .ref (z 11), .ref (z 12), .ref (z 13), .ref (z 14), .ref (z 15), .ref (z 16), .ref (z 17), .ref (z 18), .ref (z 19), .int 0, .int 0, .int 0, .int 0, .ref (z 24), .ref (z 25), .ref (z 26), .ref (z 27), .ref (z 28), .ref (z 29), .ref (z 30), .ref (z 31), .ref (z 32), .ref (z 33), .ref (z 34), .ref (z 35), .ref (z 36), .ref (z 37), .ref (z 38), .ref (z 39), .ref (z 40), .ref (z 41), .ref (z 42), .ref (z 43), .ref (z 44), .ref (z 45), .ref (z 46), .int 0, .ref (z 48), .ref (z 49), .ref (z 50), .ref (z 51), .int 0, .ref (z 53), .ref (z 54), .ref (z 55), .ref (z 56), .int 0])), (z 9, .inl (cy 1, 12, .inl (upd (fun _ => 0) 0 (vp_nar .boolean b1)))), (z 10, .inl (cy 0, 12, .inl (upd (fun _ => 0) 0 (-1)))), (z 11, .inl (cy 0, 40, .inl (fun _ => 0))), (z 12, .inl (cy 1, 40, .inl (fun _ => 0))), (z 14, .inl (cy 0, 40, .inl (fun _ => 0))), (z 15, .inl (cy 0, 40, .inl (fun _ => 0))), (z 24, .inl (cy 0, 20, .inl (fun _ => 0))), (z 25, .inl (cy 0, 20, .inl (fun _ => 0))), (z 26, .inl (cy 1, 20, .inl (fun _ => 0))), (z 28, .inl (cy 0, 20, .inl (fun _ => 0))), (z 42, .inl (cy 0, 4, .inl (upd (upd (upd (upd (fun _ => 0) 0 (-1)) 1 (-1)) 2 (-1)) 3 (-1)))), (z 44, .inl (cy 0, 4, .inl (fun _ => 0))), (z 45, .inl (cy 0, 3, .inl (upd (upd (upd (fun _ => 0) 0 (-1)) 1 (-1)) 2 (-1)))), (z 53, .inl (cy 0, 30, .inl (fun _ => 0))), (z 54, .inl (cy 0, 30, .inl (fun _ => 0))), (z 55, .inl (cy 0, 30, .inl (fun _ => 0)))]) H := hP
  have hD : va_D _ ([(z 58, .inr (10, [.int 0, .int 0, .int 0, .int 0, .int 0, .int (-1), .int 2, .int 2, .int 1, .ref (z 9), .ref (z 10), .ref (z 11), .ref (z 12), .ref (z 13), .ref (z 14), .ref (z 15), .ref (z 16), .ref (z 17), .ref (z 18), .ref (z 19), .int 0, .int 0, .int 0, .int 0, .ref (z 24), .ref (z 25), .ref (z 26), .ref (z 27), .ref (z 28), .ref (z 29), .ref (z 30), .ref (z 31), .ref (z 32), .ref (z 33), .ref (z 34), .ref (z 35), .ref (z 36), .ref (z 37), .ref (z 38), .ref (z 39), .ref (z 40), .ref (z 41), .ref (z 42), .ref (z 43), .ref (z 44), .ref (z 45), .ref (z 46), .int 0, .ref (z 48), .ref (z 49), .ref (z 50), .ref (z 51), .int 0, .ref (z 53), .ref (z 54), .ref (z 55), .ref (z 56), .int 0])), (z 9, .inl (cy 1, 12, .inl (upd (fun _ => 0) 0 (vp_nar .boolean b1)))), (z 10, .inl (cy 0, 12, .inl (upd (fun _ => 0) 0 (-1)))), (z 11, .inl (cy 0, 40, .inl (fun _ => 0))), (z 12, .inl (cy 1, 40, .inl (fun _ => 0))), (z 14, .inl (cy 0, 40, .inl (fun _ => 0))), (z 15, .inl (cy 0, 40, .inl (fun _ => 0))), (z 24, .inl (cy 0, 20, .inl (fun _ => 0))), (z 25, .inl (cy 0, 20, .inl (fun _ => 0))), (z 26, .inl (cy 1, 20, .inl (fun _ => 0))), (z 28, .inl (cy 0, 20, .inl (fun _ => 0))), (z 42, .inl (cy 0, 4, .inl (upd (upd (upd (upd (fun _ => 0) 0 (-1)) 1 (-1)) 2 (-1)) 3 (-1)))), (z 44, .inl (cy 0, 4, .inl (fun _ => 0))), (z 45, .inl (cy 0, 3, .inl (upd (upd (upd (fun _ => 0) 0 (-1)) 1 (-1)) 2 (-1)))), (z 53, .inl (cy 0, 30, .inl (fun _ => 0))), (z 54, .inl (cy 0, 30, .inl (fun _ => 0))), (z 55, .inl (cy 0, 30, .inl (fun _ => 0)))]) := hD
  refine lv_aload_n hx hb dX10_desk_43 rfl (lv_at hl 0 rfl) ?_
  refine lv_dup hx hb dX10_desk_44 rfl ?_
  refine va_get (D := D) (ci := 10) (v := .int 0) (C := RX10) (T := TX10) (N := 58) hx hb hts iX10_desk_10 hown hK hP 0 rfl rfl 1 (by decide) (hts (.fieldLink RX10 166 "FondsRoomModel" "desks" "I") (by decide +kernel)) (fun _ h9 => h9) rfl dX10_desk_45 ?_
  refine lv_iconst (v := 1) hx hb dX10_desk_48 (by decide) ?_
  refine lv_iadd hx hb dX10_desk_49 ?_
  refine lv_topi (fun y1 ey1 => ?_)
  obtain rfl : y1 = 1 := ey1.trans (by decide)
  refine va_put (D := D) (ci := 10) (v := .int 1) (ty := .int) (C := RX10) (T := TX10) (N := 58) hx hb hts iX10_desk_10 tyX10 tyX10_ok nmX10 hown hK hP hD hS 0 rfl rfl 1 (by decide) (hts (.fieldLink RX10 166 "FondsRoomModel" "desks" "I") (by decide +kernel)) (fun _ h9 => h9) rfl (by decide +kernel) rfl rfl (Nat.le_of_ble_eq_true rfl) dX10_desk_50 (fun H locs hP hD hS => ?_)
  have hP : va_P D vwCl ([(z 58, .inr (10, [.int 0, .int 1, .int 0, .int 0, .int 0, .int (-1), .int 2, .int 2, .int 1, .ref (z 9), .ref (z 10), .ref (z 11), .ref (z 12), .ref (z 13), .ref (z 14), .ref (z 15), .ref (z 16), .ref (z 17), .ref (z 18), .ref (z 19), .int 0, .int 0, .int 0, .int 0, .ref (z 24), .ref (z 25), .ref (z 26), .ref (z 27), .ref (z 28), .ref (z 29), .ref (z 30), .ref (z 31), .ref (z 32), .ref (z 33), .ref (z 34), .ref (z 35), .ref (z 36), .ref (z 37), .ref (z 38), .ref (z 39), .ref (z 40), .ref (z 41), .ref (z 42), .ref (z 43), .ref (z 44), .ref (z 45), .ref (z 46), .int 0, .ref (z 48), .ref (z 49), .ref (z 50), .ref (z 51), .int 0, .ref (z 53), .ref (z 54), .ref (z 55), .ref (z 56), .int 0])), (z 9, .inl (cy 1, 12, .inl (upd (fun _ => 0) 0 (vp_nar .boolean b1)))), (z 10, .inl (cy 0, 12, .inl (upd (fun _ => 0) 0 (-1)))), (z 11, .inl (cy 0, 40, .inl (fun _ => 0))), (z 12, .inl (cy 1, 40, .inl (fun _ => 0))), (z 14, .inl (cy 0, 40, .inl (fun _ => 0))), (z 15, .inl (cy 0, 40, .inl (fun _ => 0))), (z 24, .inl (cy 0, 20, .inl (fun _ => 0))), (z 25, .inl (cy 0, 20, .inl (fun _ => 0))), (z 26, .inl (cy 1, 20, .inl (fun _ => 0))), (z 28, .inl (cy 0, 20, .inl (fun _ => 0))), (z 42, .inl (cy 0, 4, .inl (upd (upd (upd (upd (fun _ => 0) 0 (-1)) 1 (-1)) 2 (-1)) 3 (-1)))), (z 44, .inl (cy 0, 4, .inl (fun _ => 0))), (z 45, .inl (cy 0, 3, .inl (upd (upd (upd (fun _ => 0) 0 (-1)) 1 (-1)) 2 (-1)))), (z 53, .inl (cy 0, 30, .inl (fun _ => 0))), (z 54, .inl (cy 0, 30, .inl (fun _ => 0))), (z 55, .inl (cy 0, 30, .inl (fun _ => 0)))]) H := hP
  have hD : va_D _ ([(z 58, .inr (10, [.int 0, .int 1, .int 0, .int 0, .int 0, .int (-1), .int 2, .int 2, .int 1, .ref (z 9), .ref (z 10), .ref (z 11), .ref (z 12), .ref (z 13), .ref (z 14), .ref (z 15), .ref (z 16), .ref (z 17), .ref (z 18), .ref (z 19), .int 0, .int 0, .int 0, .int 0, .ref (z 24), .ref (z 25), .ref (z 26), .ref (z 27), .ref (z 28), .ref (z 29), .ref (z 30), .ref (z 31), .ref (z 32), .ref (z 33), .ref (z 34), .ref (z 35), .ref (z 36), .ref (z 37), .ref (z 38), .ref (z 39), .ref (z 40), .ref (z 41), .ref (z 42), .ref (z 43), .ref (z 44), .ref (z 45), .ref (z 46), .int 0, .ref (z 48), .ref (z 49), .ref (z 50), .ref (z 51), .int 0, .ref (z 53), .ref (z 54), .ref (z 55), .ref (z 56), .int 0])), (z 9, .inl (cy 1, 12, .inl (upd (fun _ => 0) 0 (vp_nar .boolean b1)))), (z 10, .inl (cy 0, 12, .inl (upd (fun _ => 0) 0 (-1)))), (z 11, .inl (cy 0, 40, .inl (fun _ => 0))), (z 12, .inl (cy 1, 40, .inl (fun _ => 0))), (z 14, .inl (cy 0, 40, .inl (fun _ => 0))), (z 15, .inl (cy 0, 40, .inl (fun _ => 0))), (z 24, .inl (cy 0, 20, .inl (fun _ => 0))), (z 25, .inl (cy 0, 20, .inl (fun _ => 0))), (z 26, .inl (cy 1, 20, .inl (fun _ => 0))), (z 28, .inl (cy 0, 20, .inl (fun _ => 0))), (z 42, .inl (cy 0, 4, .inl (upd (upd (upd (upd (fun _ => 0) 0 (-1)) 1 (-1)) 2 (-1)) 3 (-1)))), (z 44, .inl (cy 0, 4, .inl (fun _ => 0))), (z 45, .inl (cy 0, 3, .inl (upd (upd (upd (fun _ => 0) 0 (-1)) 1 (-1)) 2 (-1)))), (z 53, .inl (cy 0, 30, .inl (fun _ => 0))), (z 54, .inl (cy 0, 30, .inl (fun _ => 0))), (z 55, .inl (cy 0, 30, .inl (fun _ => 0)))]) := hD
  refine lv_aload_n hx hb dX10_desk_53 rfl (lv_at hl 0 rfl) ?_
  refine va_get (D := D) (ci := 10) (v := .int 1) (C := RX10) (T := TX10) (N := 58) hx hb hts iX10_desk_10 hown hK hP 0 rfl rfl 1 (by decide) (hts (.fieldLink RX10 166 "FondsRoomModel" "desks" "I") (by decide +kernel)) (fun _ h9 => h9) rfl dX10_desk_54 ?_
  refine lv_iconst (v := 1) hx hb dX10_desk_57 (by decide) ?_
  refine lv_isub hx hb dX10_desk_58 ?_
  refine lv_topi (fun y2 ey2 => ?_)
  obtain rfl : y2 = 0 := ey2.trans (by decide)
  exact W.iret (v := 0) hx hb hr (fun t ht hW => ⟨⟨0, (), rfl, (by first | rfl | trivial | decide), by rw [ht]; exact P0, va_K.moved hW.alike hK, D0⟩, hS.F ht⟩) hS.2.2 dX10_desk_59

theorem iX10_box_10 : ∀ w ∈ wsX100, w ∈ wsX10_box := fun _ h => List.mem_cons_of_mem _ (List.mem_append_right _ h)
set_option maxHeartbeats 4000000 in
set_option maxRecDepth 100000 in
theorem mX10_box (l : Launch) (D : va_G) (z : Nat → Nat) (cy : Nat → ClassId) (sz : Nat) (f b1 : Int32) : Met l yX10_box wsX10_box ({ frames := 1, cells := 0, slots := 0, locals := 22 }) (PW D (TYS cy) (MW z cy 0) sz [.ref (z 58), .int f, .int b1]) (QI D (TYS cy) (MW z cy 0) (([] : va_W)) sz (fun r => r = sp_box f)) 0 0 (va_A (MW z cy 0) sz) := by
  refine Met.ofW (cc := cX10_box) (maxL := 3) (ret := (some .int)) (by decide) rfl ?_
  intro p e s m args below meth c s₁ B hml hv
  obtain ⟨rfl, hsz, hP, hK, hD0⟩ := hv
  have hx := B.exec
  have hb := B.bytes
  have hr := B.returns
  have hts := atoms_spec (ws := wsX10_box) B.pre
  have hown : s.vm.findClass RX10 = some m.cls := findClass_of_methodNamed B.named
  have hlocks := B.notSynchronized
  subst hsz
  have hD := hD0.self (sz := s.heap.size)
  have hA : ∀ q9 : Nat, s.heap.size ≤ q9 → va_A (MW z cy 0) s.heap.size q9 := fun q9 h => Or.inr h
  have hS : va_S (va_A (MW z cy 0) s.heap.size) s.heap s.heap [] := va_S.rf
  have hl := lv_entry ([.ref (z 58), .int f, .int b1]) (n := 3) (Nat.le_of_ble_eq_true rfl)
  rw [lg_entry_eq]
  generalize (lg_sl ([.ref (z 58), .int f, .int b1]) ++ List.replicate (3 - (lg_sl ([.ref (z 58), .int f, .int b1])).length) Slot.unset).toArray = ls at hl ⊢
  have hl : lv_has ls 3 [(0, .ref (z 58)), (1, .int f), (2, .int b1)] := hl
  refine lv_aload_n hx hb dX10_box_0 rfl (lv_at hl 0 rfl) ?_
  refine lv_iconst (v := 0) hx hb dX10_box_1 (by decide) ?_
  refine va_put (D := D) (ci := 10) (v := .int 0) (ty := .int) (C := RX10) (T := TX10) (N := 58) hx hb hts iX10_box_10 tyX10 tyX10_ok nmX10 hown hK hP hD hS 0 rfl rfl 0 (by decide) (hts (.fieldLink RX10 150 "FondsRoomModel" "thrown" "I") (by decide +kernel)) (fun _ h9 => h9) rfl (by decide +kernel) rfl rfl (Nat.le_of_ble_eq_true rfl) dX10_box_2 (fun H locs hP hD hS => ?_)
  have hP : va_P D vwCl (MW z cy 0) H := hP
  have hD : va_D _ (MW z cy 0) := hD
  refine lv_aload_n hx hb dX10_box_5 rfl (lv_at hl 0 rfl) ?_
  refine va_get (D := D) (ci := 10) (v := .int 0) (C := RX10) (T := TX10) (N := 58) hx hb hts iX10_box_10 hown hK hP 0 rfl rfl 4 (by decide) (hts (.fieldLink RX10 163 "FondsRoomModel" "turn" "I") (by decide +kernel)) (fun _ h9 => h9) rfl dX10_box_6 ?_
  refine lv_if_gt (tgt := 31) hx hb dX10_box_9 (by decide) (fun c9 => absurd c9 (by decide)) (fun _ => ?_)
  refine lv_aload_n hx hb dX10_box_12 rfl (lv_at hl 0 rfl) ?_
  refine va_get (D := D) (ci := 10) (v := .int 0) (C := RX10) (T := TX10) (N := 58) hx hb hts iX10_box_10 hown hK hP 0 rfl rfl 2 (by decide) (hts (.fieldLink RX10 160 "FondsRoomModel" "boxes" "I") (by decide +kernel)) (fun _ h9 => h9) rfl dX10_box_13 ?_
  refine lv_bipush (v := 40) hx hb dX10_box_16 (by decide) ?_
  refine lv_icmp_eq (tgt := 31) hx hb dX10_box_18 (by decide) (fun c9 => absurd c9 (by decide)) (fun _ => ?_)
  refine lv_iload_n hx hb dX10_box_21 rfl (lv_at hl 1 rfl) ?_
  refine lv_iconst (v := 0) hx hb dX10_box_22 (by decide) ?_
  refine lv_bipush (v := 9) hx hb dX10_box_23 (by decide) ?_
  refine csI (As := [.int f, .int 0, .int 9]) (rest := []) ⟨hx, hb, hml, hown, hts⟩ (mX10_in l D _ f 0 9) (va_cwS 3 hts gX10_box_X10_in rfl rfl rfl (by decide +kernel) ⟨Nat.le_of_ble_eq_true rfl, Nat.le_of_ble_eq_true rfl⟩) hK hP hS hA rfl hl.1 rfl (Nat.le_of_ble_eq_true rfl) dX10_box_25 ⟨Nat.le_of_ble_eq_true rfl, Nat.le_of_ble_eq_true rfl⟩ (fun r1 H locs hr1 hP hS => ?_)
  obtain rfl : r1 = sp_in f 0 9 := hr1
  refine lv_if_ne (tgt := 33) hx hb dX10_box_28 (by decide) (fun c2 => ?_) (fun c2 => ?_)
  · skip
    refine lv_aload_n hx hb dX10_box_33 rfl (lv_at hl 0 rfl) ?_
    refine va_get (D := D) (ci := 10) (v := .ref (z 11)) (C := RX10) (T := TX10) (N := 58) hx hb hts iX10_box_10 hown hK hP 0 rfl rfl 11 (by decide) (hts (.fieldLink RX10 30 "FondsRoomModel" "fonds" "[I") (by decide +kernel)) (fun _ h9 => h9) rfl dX10_box_34 ?_
    refine lv_aload_n hx hb dX10_box_37 rfl (lv_at hl 0 rfl) ?_
    refine va_get (D := D) (ci := 10) (v := .int 0) (C := RX10) (T := TX10) (N := 58) hx hb hts iX10_box_10 hown hK hP 0 rfl rfl 2 (by decide) (hts (.fieldLink RX10 160 "FondsRoomModel" "boxes" "I") (by decide +kernel)) (fun _ h9 => h9) rfl dX10_box_38 ?_
    refine lv_iload_n hx hb dX10_box_41 rfl (lv_at hl 1 rfl) ?_
    refine va_iast hx hb hK hP hD hS 3 0 rfl rfl (vp_in_iff.mpr (by decide)) dX10_box_42 (fun H locs hP hD hS => ?_)
    have hP : va_P D vwCl ([(z 58, .inr (10, [.int 0, .int 0, .int 0, .int 0, .int 0, .int (-1), .int 2, .int 2, .int 1, .ref (z 9), .ref (z 10), .ref (z 11), .ref (z 12), .ref (z 13), .ref (z 14), .ref (z 15), .ref (z 16), .ref (z 17), .ref (z 18), .ref (z 19), .int 0, .int 0, .int 0, .int 0, .ref (z 24), .ref (z 25), .ref (z 26), .ref (z 27), .ref (z 28), .ref (z 29), .ref (z 30), .ref (z 31), .ref (z 32), .ref (z 33), .ref (z 34), .ref (z 35), .ref (z 36), .ref (z 37), .ref (z 38), .ref (z 39), .ref (z 40), .ref (z 41), .ref (z 42), .ref (z 43), .ref (z 44), .ref (z 45), .ref (z 46), .int 0, .ref (z 48), .ref (z 49), .ref (z 50), .ref (z 51), .int 0, .ref (z 53), .ref (z 54), .ref (z 55), .ref (z 56), .int 0])), (z 9, .inl (cy 1, 12, .inl (fun _ => 0))), (z 10, .inl (cy 0, 12, .inl (fun _ => 0))), (z 11, .inl (cy 0, 40, .inl (upd (fun _ => 0) 0 f))), (z 12, .inl (cy 1, 40, .inl (fun _ => 0))), (z 14, .inl (cy 0, 40, .inl (fun _ => 0))), (z 15, .inl (cy 0, 40, .inl (fun _ => 0))), (z 24, .inl (cy 0, 20, .inl (fun _ => 0))), (z 25, .inl (cy 0, 20, .inl (fun _ => 0))), (z 26, .inl (cy 1, 20, .inl (fun _ => 0))), (z 28, .inl (cy 0, 20, .inl (fun _ => 0))), (z 42, .inl (cy 0, 4, .inl (upd (upd (upd (upd (fun _ => 0) 0 (-1)) 1 (-1)) 2 (-1)) 3 (-1)))), (z 44, .inl (cy 0, 4, .inl (fun _ => 0))), (z 45, .inl (cy 0, 3, .inl (upd (upd (upd (fun _ => 0) 0 (-1)) 1 (-1)) 2 (-1)))), (z 53, .inl (cy 0, 30, .inl (fun _ => 0))), (z 54, .inl (cy 0, 30, .inl (fun _ => 0))), (z 55, .inl (cy 0, 30, .inl (fun _ => 0)))]) H := hP
    have hD : va_D _ ([(z 58, .inr (10, [.int 0, .int 0, .int 0, .int 0, .int 0, .int (-1), .int 2, .int 2, .int 1, .ref (z 9), .ref (z 10), .ref (z 11), .ref (z 12), .ref (z 13), .ref (z 14), .ref (z 15), .ref (z 16), .ref (z 17), .ref (z 18), .ref (z 19), .int 0, .int 0, .int 0, .int 0, .ref (z 24), .ref (z 25), .ref (z 26), .ref (z 27), .ref (z 28), .ref (z 29), .ref (z 30), .ref (z 31), .ref (z 32), .ref (z 33), .ref (z 34), .ref (z 35), .ref (z 36), .ref (z 37), .ref (z 38), .ref (z 39), .ref (z 40), .ref (z 41), .ref (z 42), .ref (z 43), .ref (z 44), .ref (z 45), .ref (z 46), .int 0, .ref (z 48), .ref (z 49), .ref (z 50), .ref (z 51), .int 0, .ref (z 53), .ref (z 54), .ref (z 55), .ref (z 56), .int 0])), (z 9, .inl (cy 1, 12, .inl (fun _ => 0))), (z 10, .inl (cy 0, 12, .inl (fun _ => 0))), (z 11, .inl (cy 0, 40, .inl (upd (fun _ => 0) 0 f))), (z 12, .inl (cy 1, 40, .inl (fun _ => 0))), (z 14, .inl (cy 0, 40, .inl (fun _ => 0))), (z 15, .inl (cy 0, 40, .inl (fun _ => 0))), (z 24, .inl (cy 0, 20, .inl (fun _ => 0))), (z 25, .inl (cy 0, 20, .inl (fun _ => 0))), (z 26, .inl (cy 1, 20, .inl (fun _ => 0))), (z 28, .inl (cy 0, 20, .inl (fun _ => 0))), (z 42, .inl (cy 0, 4, .inl (upd (upd (upd (upd (fun _ => 0) 0 (-1)) 1 (-1)) 2 (-1)) 3 (-1)))), (z 44, .inl (cy 0, 4, .inl (fun _ => 0))), (z 45, .inl (cy 0, 3, .inl (upd (upd (upd (fun _ => 0) 0 (-1)) 1 (-1)) 2 (-1)))), (z 53, .inl (cy 0, 30, .inl (fun _ => 0))), (z 54, .inl (cy 0, 30, .inl (fun _ => 0))), (z 55, .inl (cy 0, 30, .inl (fun _ => 0)))]) := hD
    refine lv_aload_n hx hb dX10_box_43 rfl (lv_at hl 0 rfl) ?_
    refine va_get (D := D) (ci := 10) (v := .ref (z 12)) (C := RX10) (T := TX10) (N := 58) hx hb hts iX10_box_10 hown hK hP 0 rfl rfl 12 (by decide) (hts (.fieldLink RX10 33 "FondsRoomModel" "isPrecious" "[Z") (by decide +kernel)) (fun _ h9 => h9) rfl dX10_box_44 ?_
    refine lv_aload_n hx hb dX10_box_47 rfl (lv_at hl 0 rfl) ?_
    refine va_get (D := D) (ci := 10) (v := .int 0) (C := RX10) (T := TX10) (N := 58) hx hb hts iX10_box_10 hown hK hP 0 rfl rfl 2 (by decide) (hts (.fieldLink RX10 160 "FondsRoomModel" "boxes" "I") (by decide +kernel)) (fun _ h9 => h9) rfl dX10_box_48 ?_
    refine lv_iload_n hx hb dX10_box_51 rfl (lv_at hl 2 rfl) ?_
    refine va_zast hx hb hK hP hD hS 4 1 rfl rfl (vp_in_iff.mpr (by decide)) dX10_box_52 (fun H locs hP hD hS => ?_)
    have hP : va_P D vwCl ([(z 58, .inr (10, [.int 0, .int 0, .int 0, .int 0, .int 0, .int (-1), .int 2, .int 2, .int 1, .ref (z 9), .ref (z 10), .ref (z 11), .ref (z 12), .ref (z 13), .ref (z 14), .ref (z 15), .ref (z 16), .ref (z 17), .ref (z 18), .ref (z 19), .int 0, .int 0, .int 0, .int 0, .ref (z 24), .ref (z 25), .ref (z 26), .ref (z 27), .ref (z 28), .ref (z 29), .ref (z 30), .ref (z 31), .ref (z 32), .ref (z 33), .ref (z 34), .ref (z 35), .ref (z 36), .ref (z 37), .ref (z 38), .ref (z 39), .ref (z 40), .ref (z 41), .ref (z 42), .ref (z 43), .ref (z 44), .ref (z 45), .ref (z 46), .int 0, .ref (z 48), .ref (z 49), .ref (z 50), .ref (z 51), .int 0, .ref (z 53), .ref (z 54), .ref (z 55), .ref (z 56), .int 0])), (z 9, .inl (cy 1, 12, .inl (fun _ => 0))), (z 10, .inl (cy 0, 12, .inl (fun _ => 0))), (z 11, .inl (cy 0, 40, .inl (upd (fun _ => 0) 0 f))), (z 12, .inl (cy 1, 40, .inl (upd (fun _ => 0) 0 (vp_nar .boolean b1)))), (z 14, .inl (cy 0, 40, .inl (fun _ => 0))), (z 15, .inl (cy 0, 40, .inl (fun _ => 0))), (z 24, .inl (cy 0, 20, .inl (fun _ => 0))), (z 25, .inl (cy 0, 20, .inl (fun _ => 0))), (z 26, .inl (cy 1, 20, .inl (fun _ => 0))), (z 28, .inl (cy 0, 20, .inl (fun _ => 0))), (z 42, .inl (cy 0, 4, .inl (upd (upd (upd (upd (fun _ => 0) 0 (-1)) 1 (-1)) 2 (-1)) 3 (-1)))), (z 44, .inl (cy 0, 4, .inl (fun _ => 0))), (z 45, .inl (cy 0, 3, .inl (upd (upd (upd (fun _ => 0) 0 (-1)) 1 (-1)) 2 (-1)))), (z 53, .inl (cy 0, 30, .inl (fun _ => 0))), (z 54, .inl (cy 0, 30, .inl (fun _ => 0))), (z 55, .inl (cy 0, 30, .inl (fun _ => 0)))]) H := hP
    have hD : va_D _ ([(z 58, .inr (10, [.int 0, .int 0, .int 0, .int 0, .int 0, .int (-1), .int 2, .int 2, .int 1, .ref (z 9), .ref (z 10), .ref (z 11), .ref (z 12), .ref (z 13), .ref (z 14), .ref (z 15), .ref (z 16), .ref (z 17), .ref (z 18), .ref (z 19), .int 0, .int 0, .int 0, .int 0, .ref (z 24), .ref (z 25), .ref (z 26), .ref (z 27), .ref (z 28), .ref (z 29), .ref (z 30), .ref (z 31), .ref (z 32), .ref (z 33), .ref (z 34), .ref (z 35), .ref (z 36), .ref (z 37), .ref (z 38), .ref (z 39), .ref (z 40), .ref (z 41), .ref (z 42), .ref (z 43), .ref (z 44), .ref (z 45), .ref (z 46), .int 0, .ref (z 48), .ref (z 49), .ref (z 50), .ref (z 51), .int 0, .ref (z 53), .ref (z 54), .ref (z 55), .ref (z 56), .int 0])), (z 9, .inl (cy 1, 12, .inl (fun _ => 0))), (z 10, .inl (cy 0, 12, .inl (fun _ => 0))), (z 11, .inl (cy 0, 40, .inl (upd (fun _ => 0) 0 f))), (z 12, .inl (cy 1, 40, .inl (upd (fun _ => 0) 0 (vp_nar .boolean b1)))), (z 14, .inl (cy 0, 40, .inl (fun _ => 0))), (z 15, .inl (cy 0, 40, .inl (fun _ => 0))), (z 24, .inl (cy 0, 20, .inl (fun _ => 0))), (z 25, .inl (cy 0, 20, .inl (fun _ => 0))), (z 26, .inl (cy 1, 20, .inl (fun _ => 0))), (z 28, .inl (cy 0, 20, .inl (fun _ => 0))), (z 42, .inl (cy 0, 4, .inl (upd (upd (upd (upd (fun _ => 0) 0 (-1)) 1 (-1)) 2 (-1)) 3 (-1)))), (z 44, .inl (cy 0, 4, .inl (fun _ => 0))), (z 45, .inl (cy 0, 3, .inl (upd (upd (upd (fun _ => 0) 0 (-1)) 1 (-1)) 2 (-1)))), (z 53, .inl (cy 0, 30, .inl (fun _ => 0))), (z 54, .inl (cy 0, 30, .inl (fun _ => 0))), (z 55, .inl (cy 0, 30, .inl (fun _ => 0)))]) := hD
    refine lv_aload_n hx hb dX10_box_53 rfl (lv_at hl 0 rfl) ?_
    refine va_get (D := D) (ci := 10) (v := .ref (z 14)) (C := RX10) (T := TX10) (N := 58) hx hb hts iX10_box_10 hown hK hP 0 rfl rfl 14 (by decide) (hts (.fieldLink RX10 39 "FondsRoomModel" "has" "[I") (by decide +kernel)) (fun _ h9 => h9) rfl dX10_box_54 ?_
    refine lv_aload_n hx hb dX10_box_57 rfl (lv_at hl 0 rfl) ?_
    refine va_get (D := D) (ci := 10) (v := .int 0) (C := RX10) (T := TX10) (N := 58) hx hb hts iX10_box_10 hown hK hP 0 rfl rfl 2 (by decide) (hts (.fieldLink RX10 160 "FondsRoomModel" "boxes" "I") (by decide +kernel)) (fun _ h9 => h9) rfl dX10_box_58 ?_
    refine lv_iconst (v := (-1)) hx hb dX10_box_61 (by decide) ?_
    refine va_iast hx hb hK hP hD hS 5 0 rfl rfl (vp_in_iff.mpr (by decide)) dX10_box_62 (fun H locs hP hD hS => ?_)
    have hP : va_P D vwCl ([(z 58, .inr (10, [.int 0, .int 0, .int 0, .int 0, .int 0, .int (-1), .int 2, .int 2, .int 1, .ref (z 9), .ref (z 10), .ref (z 11), .ref (z 12), .ref (z 13), .ref (z 14), .ref (z 15), .ref (z 16), .ref (z 17), .ref (z 18), .ref (z 19), .int 0, .int 0, .int 0, .int 0, .ref (z 24), .ref (z 25), .ref (z 26), .ref (z 27), .ref (z 28), .ref (z 29), .ref (z 30), .ref (z 31), .ref (z 32), .ref (z 33), .ref (z 34), .ref (z 35), .ref (z 36), .ref (z 37), .ref (z 38), .ref (z 39), .ref (z 40), .ref (z 41), .ref (z 42), .ref (z 43), .ref (z 44), .ref (z 45), .ref (z 46), .int 0, .ref (z 48), .ref (z 49), .ref (z 50), .ref (z 51), .int 0, .ref (z 53), .ref (z 54), .ref (z 55), .ref (z 56), .int 0])), (z 9, .inl (cy 1, 12, .inl (fun _ => 0))), (z 10, .inl (cy 0, 12, .inl (fun _ => 0))), (z 11, .inl (cy 0, 40, .inl (upd (fun _ => 0) 0 f))), (z 12, .inl (cy 1, 40, .inl (upd (fun _ => 0) 0 (vp_nar .boolean b1)))), (z 14, .inl (cy 0, 40, .inl (upd (fun _ => 0) 0 (-1)))), (z 15, .inl (cy 0, 40, .inl (fun _ => 0))), (z 24, .inl (cy 0, 20, .inl (fun _ => 0))), (z 25, .inl (cy 0, 20, .inl (fun _ => 0))), (z 26, .inl (cy 1, 20, .inl (fun _ => 0))), (z 28, .inl (cy 0, 20, .inl (fun _ => 0))), (z 42, .inl (cy 0, 4, .inl (upd (upd (upd (upd (fun _ => 0) 0 (-1)) 1 (-1)) 2 (-1)) 3 (-1)))), (z 44, .inl (cy 0, 4, .inl (fun _ => 0))), (z 45, .inl (cy 0, 3, .inl (upd (upd (upd (fun _ => 0) 0 (-1)) 1 (-1)) 2 (-1)))), (z 53, .inl (cy 0, 30, .inl (fun _ => 0))), (z 54, .inl (cy 0, 30, .inl (fun _ => 0))), (z 55, .inl (cy 0, 30, .inl (fun _ => 0)))]) H := hP
    have hD : va_D _ ([(z 58, .inr (10, [.int 0, .int 0, .int 0, .int 0, .int 0, .int (-1), .int 2, .int 2, .int 1, .ref (z 9), .ref (z 10), .ref (z 11), .ref (z 12), .ref (z 13), .ref (z 14), .ref (z 15), .ref (z 16), .ref (z 17), .ref (z 18), .ref (z 19), .int 0, .int 0, .int 0, .int 0, .ref (z 24), .ref (z 25), .ref (z 26), .ref (z 27), .ref (z 28), .ref (z 29), .ref (z 30), .ref (z 31), .ref (z 32), .ref (z 33), .ref (z 34), .ref (z 35), .ref (z 36), .ref (z 37), .ref (z 38), .ref (z 39), .ref (z 40), .ref (z 41), .ref (z 42), .ref (z 43), .ref (z 44), .ref (z 45), .ref (z 46), .int 0, .ref (z 48), .ref (z 49), .ref (z 50), .ref (z 51), .int 0, .ref (z 53), .ref (z 54), .ref (z 55), .ref (z 56), .int 0])), (z 9, .inl (cy 1, 12, .inl (fun _ => 0))), (z 10, .inl (cy 0, 12, .inl (fun _ => 0))), (z 11, .inl (cy 0, 40, .inl (upd (fun _ => 0) 0 f))), (z 12, .inl (cy 1, 40, .inl (upd (fun _ => 0) 0 (vp_nar .boolean b1)))), (z 14, .inl (cy 0, 40, .inl (upd (fun _ => 0) 0 (-1)))), (z 15, .inl (cy 0, 40, .inl (fun _ => 0))), (z 24, .inl (cy 0, 20, .inl (fun _ => 0))), (z 25, .inl (cy 0, 20, .inl (fun _ => 0))), (z 26, .inl (cy 1, 20, .inl (fun _ => 0))), (z 28, .inl (cy 0, 20, .inl (fun _ => 0))), (z 42, .inl (cy 0, 4, .inl (upd (upd (upd (upd (fun _ => 0) 0 (-1)) 1 (-1)) 2 (-1)) 3 (-1)))), (z 44, .inl (cy 0, 4, .inl (fun _ => 0))), (z 45, .inl (cy 0, 3, .inl (upd (upd (upd (fun _ => 0) 0 (-1)) 1 (-1)) 2 (-1)))), (z 53, .inl (cy 0, 30, .inl (fun _ => 0))), (z 54, .inl (cy 0, 30, .inl (fun _ => 0))), (z 55, .inl (cy 0, 30, .inl (fun _ => 0)))]) := hD
    refine lv_aload_n hx hb dX10_box_63 rfl (lv_at hl 0 rfl) ?_
    refine va_get (D := D) (ci := 10) (v := .ref (z 15)) (C := RX10) (T := TX10) (N := 58) hx hb hts iX10_box_10 hown hK hP 0 rfl rfl 15 (by decide) (hts (.fieldLink RX10 42 "FondsRoomModel" "ticket" "[I") (by decide +kernel)) (fun _ h9 => h9) rfl dX10_box_64 ?_
    refine lv_aload_n hx hb dX10_box_67 rfl (lv_at hl 0 rfl) ?_
    refine va_get (D := D) (ci := 10) (v := .int 0) (C := RX10) (T := TX10) (N := 58) hx hb hts iX10_box_10 hown hK hP 0 rfl rfl 2 (by decide) (hts (.fieldLink RX10 160 "FondsRoomModel" "boxes" "I") (by decide +kernel)) (fun _ h9 => h9) rfl dX10_box_68 ?_
    refine lv_iconst (v := (-1)) hx hb dX10_box_71 (by decide) ?_
    refine va_iast hx hb hK hP hD hS 6 0 rfl rfl (vp_in_iff.mpr (by decide)) dX10_box_72 (fun H locs hP hD hS => ?_)
    have hP : va_P D vwCl ([(z 58, .inr (10, [.int 0, .int 0, .int 0, .int 0, .int 0, .int (-1), .int 2, .int 2, .int 1, .ref (z 9), .ref (z 10), .ref (z 11), .ref (z 12), .ref (z 13), .ref (z 14), .ref (z 15), .ref (z 16), .ref (z 17), .ref (z 18), .ref (z 19), .int 0, .int 0, .int 0, .int 0, .ref (z 24), .ref (z 25), .ref (z 26), .ref (z 27), .ref (z 28), .ref (z 29), .ref (z 30), .ref (z 31), .ref (z 32), .ref (z 33), .ref (z 34), .ref (z 35), .ref (z 36), .ref (z 37), .ref (z 38), .ref (z 39), .ref (z 40), .ref (z 41), .ref (z 42), .ref (z 43), .ref (z 44), .ref (z 45), .ref (z 46), .int 0, .ref (z 48), .ref (z 49), .ref (z 50), .ref (z 51), .int 0, .ref (z 53), .ref (z 54), .ref (z 55), .ref (z 56), .int 0])), (z 9, .inl (cy 1, 12, .inl (fun _ => 0))), (z 10, .inl (cy 0, 12, .inl (fun _ => 0))), (z 11, .inl (cy 0, 40, .inl (upd (fun _ => 0) 0 f))), (z 12, .inl (cy 1, 40, .inl (upd (fun _ => 0) 0 (vp_nar .boolean b1)))), (z 14, .inl (cy 0, 40, .inl (upd (fun _ => 0) 0 (-1)))), (z 15, .inl (cy 0, 40, .inl (upd (fun _ => 0) 0 (-1)))), (z 24, .inl (cy 0, 20, .inl (fun _ => 0))), (z 25, .inl (cy 0, 20, .inl (fun _ => 0))), (z 26, .inl (cy 1, 20, .inl (fun _ => 0))), (z 28, .inl (cy 0, 20, .inl (fun _ => 0))), (z 42, .inl (cy 0, 4, .inl (upd (upd (upd (upd (fun _ => 0) 0 (-1)) 1 (-1)) 2 (-1)) 3 (-1)))), (z 44, .inl (cy 0, 4, .inl (fun _ => 0))), (z 45, .inl (cy 0, 3, .inl (upd (upd (upd (fun _ => 0) 0 (-1)) 1 (-1)) 2 (-1)))), (z 53, .inl (cy 0, 30, .inl (fun _ => 0))), (z 54, .inl (cy 0, 30, .inl (fun _ => 0))), (z 55, .inl (cy 0, 30, .inl (fun _ => 0)))]) H := hP
    have hD : va_D _ ([(z 58, .inr (10, [.int 0, .int 0, .int 0, .int 0, .int 0, .int (-1), .int 2, .int 2, .int 1, .ref (z 9), .ref (z 10), .ref (z 11), .ref (z 12), .ref (z 13), .ref (z 14), .ref (z 15), .ref (z 16), .ref (z 17), .ref (z 18), .ref (z 19), .int 0, .int 0, .int 0, .int 0, .ref (z 24), .ref (z 25), .ref (z 26), .ref (z 27), .ref (z 28), .ref (z 29), .ref (z 30), .ref (z 31), .ref (z 32), .ref (z 33), .ref (z 34), .ref (z 35), .ref (z 36), .ref (z 37), .ref (z 38), .ref (z 39), .ref (z 40), .ref (z 41), .ref (z 42), .ref (z 43), .ref (z 44), .ref (z 45), .ref (z 46), .int 0, .ref (z 48), .ref (z 49), .ref (z 50), .ref (z 51), .int 0, .ref (z 53), .ref (z 54), .ref (z 55), .ref (z 56), .int 0])), (z 9, .inl (cy 1, 12, .inl (fun _ => 0))), (z 10, .inl (cy 0, 12, .inl (fun _ => 0))), (z 11, .inl (cy 0, 40, .inl (upd (fun _ => 0) 0 f))), (z 12, .inl (cy 1, 40, .inl (upd (fun _ => 0) 0 (vp_nar .boolean b1)))), (z 14, .inl (cy 0, 40, .inl (upd (fun _ => 0) 0 (-1)))), (z 15, .inl (cy 0, 40, .inl (upd (fun _ => 0) 0 (-1)))), (z 24, .inl (cy 0, 20, .inl (fun _ => 0))), (z 25, .inl (cy 0, 20, .inl (fun _ => 0))), (z 26, .inl (cy 1, 20, .inl (fun _ => 0))), (z 28, .inl (cy 0, 20, .inl (fun _ => 0))), (z 42, .inl (cy 0, 4, .inl (upd (upd (upd (upd (fun _ => 0) 0 (-1)) 1 (-1)) 2 (-1)) 3 (-1)))), (z 44, .inl (cy 0, 4, .inl (fun _ => 0))), (z 45, .inl (cy 0, 3, .inl (upd (upd (upd (fun _ => 0) 0 (-1)) 1 (-1)) 2 (-1)))), (z 53, .inl (cy 0, 30, .inl (fun _ => 0))), (z 54, .inl (cy 0, 30, .inl (fun _ => 0))), (z 55, .inl (cy 0, 30, .inl (fun _ => 0)))]) := hD
    refine lv_aload_n hx hb dX10_box_73 rfl (lv_at hl 0 rfl) ?_
    refine lv_dup hx hb dX10_box_74 rfl ?_
    refine va_get (D := D) (ci := 10) (v := .int 0) (C := RX10) (T := TX10) (N := 58) hx hb hts iX10_box_10 hown hK hP 0 rfl rfl 2 (by decide) (hts (.fieldLink RX10 160 "FondsRoomModel" "boxes" "I") (by decide +kernel)) (fun _ h9 => h9) rfl dX10_box_75 ?_
    refine lv_iconst (v := 1) hx hb dX10_box_78 (by decide) ?_
    refine lv_iadd hx hb dX10_box_79 ?_
    refine lv_topi (fun y3 ey3 => ?_)
    obtain rfl : y3 = 1 := ey3.trans (by decide)
    refine va_put (D := D) (ci := 10) (v := .int 1) (ty := .int) (C := RX10) (T := TX10) (N := 58) hx hb hts iX10_box_10 tyX10 tyX10_ok nmX10 hown hK hP hD hS 0 rfl rfl 2 (by decide) (hts (.fieldLink RX10 160 "FondsRoomModel" "boxes" "I") (by decide +kernel)) (fun _ h9 => h9) rfl (by decide +kernel) rfl rfl (Nat.le_of_ble_eq_true rfl) dX10_box_80 (fun H locs hP hD hS => ?_)
    have hP : va_P D vwCl ([(z 58, .inr (10, [.int 0, .int 0, .int 1, .int 0, .int 0, .int (-1), .int 2, .int 2, .int 1, .ref (z 9), .ref (z 10), .ref (z 11), .ref (z 12), .ref (z 13), .ref (z 14), .ref (z 15), .ref (z 16), .ref (z 17), .ref (z 18), .ref (z 19), .int 0, .int 0, .int 0, .int 0, .ref (z 24), .ref (z 25), .ref (z 26), .ref (z 27), .ref (z 28), .ref (z 29), .ref (z 30), .ref (z 31), .ref (z 32), .ref (z 33), .ref (z 34), .ref (z 35), .ref (z 36), .ref (z 37), .ref (z 38), .ref (z 39), .ref (z 40), .ref (z 41), .ref (z 42), .ref (z 43), .ref (z 44), .ref (z 45), .ref (z 46), .int 0, .ref (z 48), .ref (z 49), .ref (z 50), .ref (z 51), .int 0, .ref (z 53), .ref (z 54), .ref (z 55), .ref (z 56), .int 0])), (z 9, .inl (cy 1, 12, .inl (fun _ => 0))), (z 10, .inl (cy 0, 12, .inl (fun _ => 0))), (z 11, .inl (cy 0, 40, .inl (upd (fun _ => 0) 0 f))), (z 12, .inl (cy 1, 40, .inl (upd (fun _ => 0) 0 (vp_nar .boolean b1)))), (z 14, .inl (cy 0, 40, .inl (upd (fun _ => 0) 0 (-1)))), (z 15, .inl (cy 0, 40, .inl (upd (fun _ => 0) 0 (-1)))), (z 24, .inl (cy 0, 20, .inl (fun _ => 0))), (z 25, .inl (cy 0, 20, .inl (fun _ => 0))), (z 26, .inl (cy 1, 20, .inl (fun _ => 0))), (z 28, .inl (cy 0, 20, .inl (fun _ => 0))), (z 42, .inl (cy 0, 4, .inl (upd (upd (upd (upd (fun _ => 0) 0 (-1)) 1 (-1)) 2 (-1)) 3 (-1)))), (z 44, .inl (cy 0, 4, .inl (fun _ => 0))), (z 45, .inl (cy 0, 3, .inl (upd (upd (upd (fun _ => 0) 0 (-1)) 1 (-1)) 2 (-1)))), (z 53, .inl (cy 0, 30, .inl (fun _ => 0))), (z 54, .inl (cy 0, 30, .inl (fun _ => 0))), (z 55, .inl (cy 0, 30, .inl (fun _ => 0)))]) H := hP
    have hD : va_D _ ([(z 58, .inr (10, [.int 0, .int 0, .int 1, .int 0, .int 0, .int (-1), .int 2, .int 2, .int 1, .ref (z 9), .ref (z 10), .ref (z 11), .ref (z 12), .ref (z 13), .ref (z 14), .ref (z 15), .ref (z 16), .ref (z 17), .ref (z 18), .ref (z 19), .int 0, .int 0, .int 0, .int 0, .ref (z 24), .ref (z 25), .ref (z 26), .ref (z 27), .ref (z 28), .ref (z 29), .ref (z 30), .ref (z 31), .ref (z 32), .ref (z 33), .ref (z 34), .ref (z 35), .ref (z 36), .ref (z 37), .ref (z 38), .ref (z 39), .ref (z 40), .ref (z 41), .ref (z 42), .ref (z 43), .ref (z 44), .ref (z 45), .ref (z 46), .int 0, .ref (z 48), .ref (z 49), .ref (z 50), .ref (z 51), .int 0, .ref (z 53), .ref (z 54), .ref (z 55), .ref (z 56), .int 0])), (z 9, .inl (cy 1, 12, .inl (fun _ => 0))), (z 10, .inl (cy 0, 12, .inl (fun _ => 0))), (z 11, .inl (cy 0, 40, .inl (upd (fun _ => 0) 0 f))), (z 12, .inl (cy 1, 40, .inl (upd (fun _ => 0) 0 (vp_nar .boolean b1)))), (z 14, .inl (cy 0, 40, .inl (upd (fun _ => 0) 0 (-1)))), (z 15, .inl (cy 0, 40, .inl (upd (fun _ => 0) 0 (-1)))), (z 24, .inl (cy 0, 20, .inl (fun _ => 0))), (z 25, .inl (cy 0, 20, .inl (fun _ => 0))), (z 26, .inl (cy 1, 20, .inl (fun _ => 0))), (z 28, .inl (cy 0, 20, .inl (fun _ => 0))), (z 42, .inl (cy 0, 4, .inl (upd (upd (upd (upd (fun _ => 0) 0 (-1)) 1 (-1)) 2 (-1)) 3 (-1)))), (z 44, .inl (cy 0, 4, .inl (fun _ => 0))), (z 45, .inl (cy 0, 3, .inl (upd (upd (upd (fun _ => 0) 0 (-1)) 1 (-1)) 2 (-1)))), (z 53, .inl (cy 0, 30, .inl (fun _ => 0))), (z 54, .inl (cy 0, 30, .inl (fun _ => 0))), (z 55, .inl (cy 0, 30, .inl (fun _ => 0)))]) := hD
    refine lv_aload_n hx hb dX10_box_83 rfl (lv_at hl 0 rfl) ?_
    refine va_get (D := D) (ci := 10) (v := .int 1) (C := RX10) (T := TX10) (N := 58) hx hb hts iX10_box_10 hown hK hP 0 rfl rfl 2 (by decide) (hts (.fieldLink RX10 160 "FondsRoomModel" "boxes" "I") (by decide +kernel)) (fun _ h9 => h9) rfl dX10_box_84 ?_
    refine lv_iconst (v := 1) hx hb dX10_box_87 (by decide) ?_
    refine lv_isub hx hb dX10_box_88 ?_
    refine lv_topi (fun y4 ey4 => ?_)
    obtain rfl : y4 = 0 := ey4.trans (by decide)
    exact W.iret (v := 0) hx hb hr (fun t ht hW => ⟨⟨0, (), rfl, (by simp [sp_box, c2]), by rw [ht]; exact P0, va_K.moved hW.alike hK, D0⟩, hS.F ht⟩) hS.2.2 dX10_box_89
  · skip
    refine lv_iconst (v := (-1)) hx hb dX10_box_31 (by decide) ?_
    exact W.iret (v := (-1)) hx hb hr (fun t ht hW => ⟨⟨(-1), (), rfl, (by simp [sp_box, c2]), by rw [ht]; exact P0, va_K.moved hW.alike hK, D0⟩, hS.F ht⟩) hS.2.2 dX10_box_32

theorem iX10_people_10 : ∀ w ∈ wsX100, w ∈ wsX10_people := fun _ h => List.mem_cons_of_mem _ (List.mem_append_right _ h)
set_option maxHeartbeats 4000000 in
set_option maxRecDepth 100000 in
theorem mX10_people (l : Launch) (D : va_G) (z : Nat → Nat) (cy : Nat → ClassId) (sz : Nat) (f c1 w1 : Int32) : Met l yX10_people wsX10_people ({ frames := 1, cells := 0, slots := 0, locals := 22 }) (PW D (TYS cy) (MW z cy 0) sz [.ref (z 58), .int f, .int c1, .int w1]) (QI D (TYS cy) (MW z cy 0) (([] : va_W)) sz (fun r => r = sp_people f c1 w1)) 0 0 (va_A (MW z cy 0) sz) := by
  refine Met.ofW (cc := cX10_people) (maxL := 4) (ret := (some .boolean)) (by decide) rfl ?_
  intro p e s m args below meth c s₁ B hml hv
  obtain ⟨rfl, hsz, hP, hK, hD0⟩ := hv
  have hx := B.exec
  have hb := B.bytes
  have hr := B.returns
  have hts := atoms_spec (ws := wsX10_people) B.pre
  have hown : s.vm.findClass RX10 = some m.cls := findClass_of_methodNamed B.named
  have hlocks := B.notSynchronized
  subst hsz
  have hD := hD0.self (sz := s.heap.size)
  have hA : ∀ q9 : Nat, s.heap.size ≤ q9 → va_A (MW z cy 0) s.heap.size q9 := fun q9 h => Or.inr h
  have hS : va_S (va_A (MW z cy 0) s.heap.size) s.heap s.heap [] := va_S.rf
  have hl := lv_entry ([.ref (z 58), .int f, .int c1, .int w1]) (n := 4) (Nat.le_of_ble_eq_true rfl)
  rw [lg_entry_eq]
  generalize (lg_sl ([.ref (z 58), .int f, .int c1, .int w1]) ++ List.replicate (4 - (lg_sl ([.ref (z 58), .int f, .int c1, .int w1])).length) Slot.unset).toArray = ls at hl ⊢
  have hl : lv_has ls 4 [(0, .ref (z 58)), (1, .int f), (2, .int c1), (3, .int w1)] := hl
  refine lv_aload_n hx hb dX10_people_0 rfl (lv_at hl 0 rfl) ?_
  refine lv_iconst (v := 0) hx hb dX10_people_1 (by decide) ?_
  refine va_put (D := D) (ci := 10) (v := .int 0) (ty := .int) (C := RX10) (T := TX10) (N := 58) hx hb hts iX10_people_10 tyX10 tyX10_ok nmX10 hown hK hP hD hS 0 rfl rfl 0 (by decide) (hts (.fieldLink RX10 150 "FondsRoomModel" "thrown" "I") (by decide +kernel)) (fun _ h9 => h9) rfl (by decide +kernel) rfl rfl (Nat.le_of_ble_eq_true rfl) dX10_people_2 (fun H locs hP hD hS => ?_)
  have hP : va_P D vwCl (MW z cy 0) H := hP
  have hD : va_D _ (MW z cy 0) := hD
  refine lv_aload_n hx hb dX10_people_5 rfl (lv_at hl 0 rfl) ?_
  refine va_get (D := D) (ci := 10) (v := .int 0) (C := RX10) (T := TX10) (N := 58) hx hb hts iX10_people_10 hown hK hP 0 rfl rfl 4 (by decide) (hts (.fieldLink RX10 163 "FondsRoomModel" "turn" "I") (by decide +kernel)) (fun _ h9 => h9) rfl dX10_people_6 ?_
  refine lv_if_gt (tgt := 39) hx hb dX10_people_9 (by decide) (fun c9 => absurd c9 (by decide)) (fun _ => ?_)
  refine lv_iload_n hx hb dX10_people_12 rfl (lv_at hl 1 rfl) ?_
  refine lv_iconst (v := 1) hx hb dX10_people_13 (by decide) ?_
  refine lv_iconst (v := 4) hx hb dX10_people_14 (by decide) ?_
  refine csI (As := [.int f, .int 1, .int 4]) (rest := []) ⟨hx, hb, hml, hown, hts⟩ (mX10_in l D _ f 1 4) (va_cwS 3 hts gX10_people_X10_in rfl rfl rfl (by decide +kernel) ⟨Nat.le_of_ble_eq_true rfl, Nat.le_of_ble_eq_true rfl⟩) hK hP hS hA rfl hl.1 rfl (Nat.le_of_ble_eq_true rfl) dX10_people_15 ⟨Nat.le_of_ble_eq_true rfl, Nat.le_of_ble_eq_true rfl⟩ (fun r1 H locs hr1 hP hS => ?_)
  obtain rfl : r1 = sp_in f 1 4 := hr1
  refine lv_if_eq (tgt := 39) hx hb dX10_people_18 (by decide) (fun c2 => ?_) (fun c2 => ?_)
  · skip
    refine lv_iconst (v := 0) hx hb dX10_people_39 (by decide) ?_
    exact W.zret (v := 0) hx hb hr (rfl) (fun t ht hW => ⟨⟨0, (), rfl, (by simp [sp_people, c2]), by rw [ht]; exact P0, va_K.moved hW.alike hK, D0⟩, hS.F ht⟩) hS.2.2 dX10_people_40
  · skip
    refine lv_iload_n hx hb dX10_people_21 rfl (lv_at hl 2 rfl) ?_
    refine lv_iconst (v := 1) hx hb dX10_people_22 (by decide) ?_
    refine lv_iconst (v := 3) hx hb dX10_people_23 (by decide) ?_
    refine csI (As := [.int c1, .int 1, .int 3]) (rest := []) ⟨hx, hb, hml, hown, hts⟩ (mX10_in l D _ c1 1 3) (va_cwS 3 hts gX10_people_X10_in rfl rfl rfl (by decide +kernel) ⟨Nat.le_of_ble_eq_true rfl, Nat.le_of_ble_eq_true rfl⟩) hK hP hS hA rfl hl.1 rfl (Nat.le_of_ble_eq_true rfl) dX10_people_24 ⟨Nat.le_of_ble_eq_true rfl, Nat.le_of_ble_eq_true rfl⟩ (fun r3 H locs hr3 hP hS => ?_)
    obtain rfl : r3 = sp_in c1 1 3 := hr3
    refine lv_if_eq (tgt := 39) hx hb dX10_people_27 (by decide) (fun c4 => ?_) (fun c4 => ?_)
    · skip
      refine lv_iconst (v := 0) hx hb dX10_people_39 (by decide) ?_
      exact W.zret (v := 0) hx hb hr (rfl) (fun t ht hW => ⟨⟨0, (), rfl, (by simp [sp_people, c2, c4]), by rw [ht]; exact P0, va_K.moved hW.alike hK, D0⟩, hS.F ht⟩) hS.2.2 dX10_people_40
    · skip
      refine lv_iload_n hx hb dX10_people_30 rfl (lv_at hl 3 rfl) ?_
      refine lv_iconst (v := 1) hx hb dX10_people_31 (by decide) ?_
      refine lv_iconst (v := 5) hx hb dX10_people_32 (by decide) ?_
      refine csI (As := [.int w1, .int 1, .int 5]) (rest := []) ⟨hx, hb, hml, hown, hts⟩ (mX10_in l D _ w1 1 5) (va_cwS 3 hts gX10_people_X10_in rfl rfl rfl (by decide +kernel) ⟨Nat.le_of_ble_eq_true rfl, Nat.le_of_ble_eq_true rfl⟩) hK hP hS hA rfl hl.1 rfl (Nat.le_of_ble_eq_true rfl) dX10_people_33 ⟨Nat.le_of_ble_eq_true rfl, Nat.le_of_ble_eq_true rfl⟩ (fun r5 H locs hr5 hP hS => ?_)
      obtain rfl : r5 = sp_in w1 1 5 := hr5
      refine lv_if_ne (tgt := 41) hx hb dX10_people_36 (by decide) (fun c6 => ?_) (fun c6 => ?_)
      · skip
        refine lv_aload_n hx hb dX10_people_41 rfl (lv_at hl 0 rfl) ?_
        refine lv_iload_n hx hb dX10_people_42 rfl (lv_at hl 1 rfl) ?_
        refine va_put (D := D) (ci := 10) (v := .int f) (ty := .int) (C := RX10) (T := TX10) (N := 58) hx hb hts iX10_people_10 tyX10 tyX10_ok nmX10 hown hK hP hD hS 0 rfl rfl 7 (by decide) (hts (.fieldLink RX10 16 "FondsRoomModel" "fetchers" "I") (by decide +kernel)) (fun _ h9 => h9) rfl (by decide +kernel) rfl rfl (Nat.le_of_ble_eq_true rfl) dX10_people_43 (fun H locs hP hD hS => ?_)
        have hP : va_P D vwCl ([(z 58, .inr (10, [.int 0, .int 0, .int 0, .int 0, .int 0, .int (-1), .int 2, .int f, .int 1, .ref (z 9), .ref (z 10), .ref (z 11), .ref (z 12), .ref (z 13), .ref (z 14), .ref (z 15), .ref (z 16), .ref (z 17), .ref (z 18), .ref (z 19), .int 0, .int 0, .int 0, .int 0, .ref (z 24), .ref (z 25), .ref (z 26), .ref (z 27), .ref (z 28), .ref (z 29), .ref (z 30), .ref (z 31), .ref (z 32), .ref (z 33), .ref (z 34), .ref (z 35), .ref (z 36), .ref (z 37), .ref (z 38), .ref (z 39), .ref (z 40), .ref (z 41), .ref (z 42), .ref (z 43), .ref (z 44), .ref (z 45), .ref (z 46), .int 0, .ref (z 48), .ref (z 49), .ref (z 50), .ref (z 51), .int 0, .ref (z 53), .ref (z 54), .ref (z 55), .ref (z 56), .int 0])), (z 9, .inl (cy 1, 12, .inl (fun _ => 0))), (z 10, .inl (cy 0, 12, .inl (fun _ => 0))), (z 11, .inl (cy 0, 40, .inl (fun _ => 0))), (z 12, .inl (cy 1, 40, .inl (fun _ => 0))), (z 14, .inl (cy 0, 40, .inl (fun _ => 0))), (z 15, .inl (cy 0, 40, .inl (fun _ => 0))), (z 24, .inl (cy 0, 20, .inl (fun _ => 0))), (z 25, .inl (cy 0, 20, .inl (fun _ => 0))), (z 26, .inl (cy 1, 20, .inl (fun _ => 0))), (z 28, .inl (cy 0, 20, .inl (fun _ => 0))), (z 42, .inl (cy 0, 4, .inl (upd (upd (upd (upd (fun _ => 0) 0 (-1)) 1 (-1)) 2 (-1)) 3 (-1)))), (z 44, .inl (cy 0, 4, .inl (fun _ => 0))), (z 45, .inl (cy 0, 3, .inl (upd (upd (upd (fun _ => 0) 0 (-1)) 1 (-1)) 2 (-1)))), (z 53, .inl (cy 0, 30, .inl (fun _ => 0))), (z 54, .inl (cy 0, 30, .inl (fun _ => 0))), (z 55, .inl (cy 0, 30, .inl (fun _ => 0)))]) H := hP
        have hD : va_D _ ([(z 58, .inr (10, [.int 0, .int 0, .int 0, .int 0, .int 0, .int (-1), .int 2, .int f, .int 1, .ref (z 9), .ref (z 10), .ref (z 11), .ref (z 12), .ref (z 13), .ref (z 14), .ref (z 15), .ref (z 16), .ref (z 17), .ref (z 18), .ref (z 19), .int 0, .int 0, .int 0, .int 0, .ref (z 24), .ref (z 25), .ref (z 26), .ref (z 27), .ref (z 28), .ref (z 29), .ref (z 30), .ref (z 31), .ref (z 32), .ref (z 33), .ref (z 34), .ref (z 35), .ref (z 36), .ref (z 37), .ref (z 38), .ref (z 39), .ref (z 40), .ref (z 41), .ref (z 42), .ref (z 43), .ref (z 44), .ref (z 45), .ref (z 46), .int 0, .ref (z 48), .ref (z 49), .ref (z 50), .ref (z 51), .int 0, .ref (z 53), .ref (z 54), .ref (z 55), .ref (z 56), .int 0])), (z 9, .inl (cy 1, 12, .inl (fun _ => 0))), (z 10, .inl (cy 0, 12, .inl (fun _ => 0))), (z 11, .inl (cy 0, 40, .inl (fun _ => 0))), (z 12, .inl (cy 1, 40, .inl (fun _ => 0))), (z 14, .inl (cy 0, 40, .inl (fun _ => 0))), (z 15, .inl (cy 0, 40, .inl (fun _ => 0))), (z 24, .inl (cy 0, 20, .inl (fun _ => 0))), (z 25, .inl (cy 0, 20, .inl (fun _ => 0))), (z 26, .inl (cy 1, 20, .inl (fun _ => 0))), (z 28, .inl (cy 0, 20, .inl (fun _ => 0))), (z 42, .inl (cy 0, 4, .inl (upd (upd (upd (upd (fun _ => 0) 0 (-1)) 1 (-1)) 2 (-1)) 3 (-1)))), (z 44, .inl (cy 0, 4, .inl (fun _ => 0))), (z 45, .inl (cy 0, 3, .inl (upd (upd (upd (fun _ => 0) 0 (-1)) 1 (-1)) 2 (-1)))), (z 53, .inl (cy 0, 30, .inl (fun _ => 0))), (z 54, .inl (cy 0, 30, .inl (fun _ => 0))), (z 55, .inl (cy 0, 30, .inl (fun _ => 0)))]) := hD
        refine lv_aload_n hx hb dX10_people_46 rfl (lv_at hl 0 rfl) ?_
        refine lv_iload_n hx hb dX10_people_47 rfl (lv_at hl 2 rfl) ?_
        refine va_put (D := D) (ci := 10) (v := .int c1) (ty := .int) (C := RX10) (T := TX10) (N := 58) hx hb hts iX10_people_10 tyX10 tyX10_ok nmX10 hown hK hP hD hS 0 rfl rfl 8 (by decide) (hts (.fieldLink RX10 19 "FondsRoomModel" "copyists" "I") (by decide +kernel)) (fun _ h9 => h9) rfl (by decide +kernel) rfl rfl (Nat.le_of_ble_eq_true rfl) dX10_people_48 (fun H locs hP hD hS => ?_)
        have hP : va_P D vwCl ([(z 58, .inr (10, [.int 0, .int 0, .int 0, .int 0, .int 0, .int (-1), .int 2, .int f, .int c1, .ref (z 9), .ref (z 10), .ref (z 11), .ref (z 12), .ref (z 13), .ref (z 14), .ref (z 15), .ref (z 16), .ref (z 17), .ref (z 18), .ref (z 19), .int 0, .int 0, .int 0, .int 0, .ref (z 24), .ref (z 25), .ref (z 26), .ref (z 27), .ref (z 28), .ref (z 29), .ref (z 30), .ref (z 31), .ref (z 32), .ref (z 33), .ref (z 34), .ref (z 35), .ref (z 36), .ref (z 37), .ref (z 38), .ref (z 39), .ref (z 40), .ref (z 41), .ref (z 42), .ref (z 43), .ref (z 44), .ref (z 45), .ref (z 46), .int 0, .ref (z 48), .ref (z 49), .ref (z 50), .ref (z 51), .int 0, .ref (z 53), .ref (z 54), .ref (z 55), .ref (z 56), .int 0])), (z 9, .inl (cy 1, 12, .inl (fun _ => 0))), (z 10, .inl (cy 0, 12, .inl (fun _ => 0))), (z 11, .inl (cy 0, 40, .inl (fun _ => 0))), (z 12, .inl (cy 1, 40, .inl (fun _ => 0))), (z 14, .inl (cy 0, 40, .inl (fun _ => 0))), (z 15, .inl (cy 0, 40, .inl (fun _ => 0))), (z 24, .inl (cy 0, 20, .inl (fun _ => 0))), (z 25, .inl (cy 0, 20, .inl (fun _ => 0))), (z 26, .inl (cy 1, 20, .inl (fun _ => 0))), (z 28, .inl (cy 0, 20, .inl (fun _ => 0))), (z 42, .inl (cy 0, 4, .inl (upd (upd (upd (upd (fun _ => 0) 0 (-1)) 1 (-1)) 2 (-1)) 3 (-1)))), (z 44, .inl (cy 0, 4, .inl (fun _ => 0))), (z 45, .inl (cy 0, 3, .inl (upd (upd (upd (fun _ => 0) 0 (-1)) 1 (-1)) 2 (-1)))), (z 53, .inl (cy 0, 30, .inl (fun _ => 0))), (z 54, .inl (cy 0, 30, .inl (fun _ => 0))), (z 55, .inl (cy 0, 30, .inl (fun _ => 0)))]) H := hP
        have hD : va_D _ ([(z 58, .inr (10, [.int 0, .int 0, .int 0, .int 0, .int 0, .int (-1), .int 2, .int f, .int c1, .ref (z 9), .ref (z 10), .ref (z 11), .ref (z 12), .ref (z 13), .ref (z 14), .ref (z 15), .ref (z 16), .ref (z 17), .ref (z 18), .ref (z 19), .int 0, .int 0, .int 0, .int 0, .ref (z 24), .ref (z 25), .ref (z 26), .ref (z 27), .ref (z 28), .ref (z 29), .ref (z 30), .ref (z 31), .ref (z 32), .ref (z 33), .ref (z 34), .ref (z 35), .ref (z 36), .ref (z 37), .ref (z 38), .ref (z 39), .ref (z 40), .ref (z 41), .ref (z 42), .ref (z 43), .ref (z 44), .ref (z 45), .ref (z 46), .int 0, .ref (z 48), .ref (z 49), .ref (z 50), .ref (z 51), .int 0, .ref (z 53), .ref (z 54), .ref (z 55), .ref (z 56), .int 0])), (z 9, .inl (cy 1, 12, .inl (fun _ => 0))), (z 10, .inl (cy 0, 12, .inl (fun _ => 0))), (z 11, .inl (cy 0, 40, .inl (fun _ => 0))), (z 12, .inl (cy 1, 40, .inl (fun _ => 0))), (z 14, .inl (cy 0, 40, .inl (fun _ => 0))), (z 15, .inl (cy 0, 40, .inl (fun _ => 0))), (z 24, .inl (cy 0, 20, .inl (fun _ => 0))), (z 25, .inl (cy 0, 20, .inl (fun _ => 0))), (z 26, .inl (cy 1, 20, .inl (fun _ => 0))), (z 28, .inl (cy 0, 20, .inl (fun _ => 0))), (z 42, .inl (cy 0, 4, .inl (upd (upd (upd (upd (fun _ => 0) 0 (-1)) 1 (-1)) 2 (-1)) 3 (-1)))), (z 44, .inl (cy 0, 4, .inl (fun _ => 0))), (z 45, .inl (cy 0, 3, .inl (upd (upd (upd (fun _ => 0) 0 (-1)) 1 (-1)) 2 (-1)))), (z 53, .inl (cy 0, 30, .inl (fun _ => 0))), (z 54, .inl (cy 0, 30, .inl (fun _ => 0))), (z 55, .inl (cy 0, 30, .inl (fun _ => 0)))]) := hD
        refine lv_aload_n hx hb dX10_people_51 rfl (lv_at hl 0 rfl) ?_
        refine lv_iload_n hx hb dX10_people_52 rfl (lv_at hl 3 rfl) ?_
        refine va_put (D := D) (ci := 10) (v := .int w1) (ty := .int) (C := RX10) (T := TX10) (N := 58) hx hb hts iX10_people_10 tyX10 tyX10_ok nmX10 hown hK hP hD hS 0 rfl rfl 6 (by decide) (hts (.fieldLink RX10 13 "FondsRoomModel" "way" "I") (by decide +kernel)) (fun _ h9 => h9) rfl (by decide +kernel) rfl rfl (Nat.le_of_ble_eq_true rfl) dX10_people_53 (fun H locs hP hD hS => ?_)
        have hP : va_P D vwCl ([(z 58, .inr (10, [.int 0, .int 0, .int 0, .int 0, .int 0, .int (-1), .int w1, .int f, .int c1, .ref (z 9), .ref (z 10), .ref (z 11), .ref (z 12), .ref (z 13), .ref (z 14), .ref (z 15), .ref (z 16), .ref (z 17), .ref (z 18), .ref (z 19), .int 0, .int 0, .int 0, .int 0, .ref (z 24), .ref (z 25), .ref (z 26), .ref (z 27), .ref (z 28), .ref (z 29), .ref (z 30), .ref (z 31), .ref (z 32), .ref (z 33), .ref (z 34), .ref (z 35), .ref (z 36), .ref (z 37), .ref (z 38), .ref (z 39), .ref (z 40), .ref (z 41), .ref (z 42), .ref (z 43), .ref (z 44), .ref (z 45), .ref (z 46), .int 0, .ref (z 48), .ref (z 49), .ref (z 50), .ref (z 51), .int 0, .ref (z 53), .ref (z 54), .ref (z 55), .ref (z 56), .int 0])), (z 9, .inl (cy 1, 12, .inl (fun _ => 0))), (z 10, .inl (cy 0, 12, .inl (fun _ => 0))), (z 11, .inl (cy 0, 40, .inl (fun _ => 0))), (z 12, .inl (cy 1, 40, .inl (fun _ => 0))), (z 14, .inl (cy 0, 40, .inl (fun _ => 0))), (z 15, .inl (cy 0, 40, .inl (fun _ => 0))), (z 24, .inl (cy 0, 20, .inl (fun _ => 0))), (z 25, .inl (cy 0, 20, .inl (fun _ => 0))), (z 26, .inl (cy 1, 20, .inl (fun _ => 0))), (z 28, .inl (cy 0, 20, .inl (fun _ => 0))), (z 42, .inl (cy 0, 4, .inl (upd (upd (upd (upd (fun _ => 0) 0 (-1)) 1 (-1)) 2 (-1)) 3 (-1)))), (z 44, .inl (cy 0, 4, .inl (fun _ => 0))), (z 45, .inl (cy 0, 3, .inl (upd (upd (upd (fun _ => 0) 0 (-1)) 1 (-1)) 2 (-1)))), (z 53, .inl (cy 0, 30, .inl (fun _ => 0))), (z 54, .inl (cy 0, 30, .inl (fun _ => 0))), (z 55, .inl (cy 0, 30, .inl (fun _ => 0)))]) H := hP
        have hD : va_D _ ([(z 58, .inr (10, [.int 0, .int 0, .int 0, .int 0, .int 0, .int (-1), .int w1, .int f, .int c1, .ref (z 9), .ref (z 10), .ref (z 11), .ref (z 12), .ref (z 13), .ref (z 14), .ref (z 15), .ref (z 16), .ref (z 17), .ref (z 18), .ref (z 19), .int 0, .int 0, .int 0, .int 0, .ref (z 24), .ref (z 25), .ref (z 26), .ref (z 27), .ref (z 28), .ref (z 29), .ref (z 30), .ref (z 31), .ref (z 32), .ref (z 33), .ref (z 34), .ref (z 35), .ref (z 36), .ref (z 37), .ref (z 38), .ref (z 39), .ref (z 40), .ref (z 41), .ref (z 42), .ref (z 43), .ref (z 44), .ref (z 45), .ref (z 46), .int 0, .ref (z 48), .ref (z 49), .ref (z 50), .ref (z 51), .int 0, .ref (z 53), .ref (z 54), .ref (z 55), .ref (z 56), .int 0])), (z 9, .inl (cy 1, 12, .inl (fun _ => 0))), (z 10, .inl (cy 0, 12, .inl (fun _ => 0))), (z 11, .inl (cy 0, 40, .inl (fun _ => 0))), (z 12, .inl (cy 1, 40, .inl (fun _ => 0))), (z 14, .inl (cy 0, 40, .inl (fun _ => 0))), (z 15, .inl (cy 0, 40, .inl (fun _ => 0))), (z 24, .inl (cy 0, 20, .inl (fun _ => 0))), (z 25, .inl (cy 0, 20, .inl (fun _ => 0))), (z 26, .inl (cy 1, 20, .inl (fun _ => 0))), (z 28, .inl (cy 0, 20, .inl (fun _ => 0))), (z 42, .inl (cy 0, 4, .inl (upd (upd (upd (upd (fun _ => 0) 0 (-1)) 1 (-1)) 2 (-1)) 3 (-1)))), (z 44, .inl (cy 0, 4, .inl (fun _ => 0))), (z 45, .inl (cy 0, 3, .inl (upd (upd (upd (fun _ => 0) 0 (-1)) 1 (-1)) 2 (-1)))), (z 53, .inl (cy 0, 30, .inl (fun _ => 0))), (z 54, .inl (cy 0, 30, .inl (fun _ => 0))), (z 55, .inl (cy 0, 30, .inl (fun _ => 0)))]) := hD
        refine lv_iconst (v := 1) hx hb dX10_people_56 (by decide) ?_
        exact W.zret (v := 1) hx hb hr (rfl) (fun t ht hW => ⟨⟨1, (), rfl, (by simp [sp_people, c2, c4, c6]), by rw [ht]; exact P0, va_K.moved hW.alike hK, D0⟩, hS.F ht⟩) hS.2.2 dX10_people_57
      · skip
        refine lv_iconst (v := 0) hx hb dX10_people_39 (by decide) ?_
        exact W.zret (v := 0) hx hb hr (rfl) (fun t ht hW => ⟨⟨0, (), rfl, (by simp [sp_people, c2, c4, c6]), by rw [ht]; exact P0, va_K.moved hW.alike hK, D0⟩, hS.F ht⟩) hS.2.2 dX10_people_40

theorem iX10_reader_10 : ∀ w ∈ wsX100, w ∈ wsX10_reader := fun _ h => List.mem_cons_of_mem _ (List.mem_append_right _ h)
set_option maxHeartbeats 4000000 in
set_option maxRecDepth 100000 in
theorem mX10_reader (l : Launch) (D : va_G) (z : Nat → Nat) (cy : Nat → ClassId) (sz : Nat) (a r1 b1 : Int32) : Met l yX10_reader wsX10_reader ({ frames := 1, cells := 0, slots := 0, locals := 22 }) (PW D (TYS cy) (MW z cy 0) sz [.ref (z 58), .int a, .int r1, .int b1]) (QI D (TYS cy) (MW z cy 0) (([] : va_W)) sz (fun r => r = sp_reader a r1)) 0 0 (va_A (MW z cy 0) sz) := by
  refine Met.ofW (cc := cX10_reader) (maxL := 4) (ret := (some .int)) (by decide) rfl ?_
  intro p e s m args below meth c s₁ B hml hv
  obtain ⟨rfl, hsz, hP, hK, hD0⟩ := hv
  have hx := B.exec
  have hb := B.bytes
  have hr := B.returns
  have hts := atoms_spec (ws := wsX10_reader) B.pre
  have hown : s.vm.findClass RX10 = some m.cls := findClass_of_methodNamed B.named
  have hlocks := B.notSynchronized
  subst hsz
  have hD := hD0.self (sz := s.heap.size)
  have hA : ∀ q9 : Nat, s.heap.size ≤ q9 → va_A (MW z cy 0) s.heap.size q9 := fun q9 h => Or.inr h
  have hS : va_S (va_A (MW z cy 0) s.heap.size) s.heap s.heap [] := va_S.rf
  have hl := lv_entry ([.ref (z 58), .int a, .int r1, .int b1]) (n := 4) (Nat.le_of_ble_eq_true rfl)
  rw [lg_entry_eq]
  generalize (lg_sl ([.ref (z 58), .int a, .int r1, .int b1]) ++ List.replicate (4 - (lg_sl ([.ref (z 58), .int a, .int r1, .int b1])).length) Slot.unset).toArray = ls at hl ⊢
  have hl : lv_has ls 4 [(0, .ref (z 58)), (1, .int a), (2, .int r1), (3, .int b1)] := hl
  refine lv_aload_n hx hb dX10_reader_0 rfl (lv_at hl 0 rfl) ?_
  refine lv_iconst (v := 0) hx hb dX10_reader_1 (by decide) ?_
  refine va_put (D := D) (ci := 10) (v := .int 0) (ty := .int) (C := RX10) (T := TX10) (N := 58) hx hb hts iX10_reader_10 tyX10 tyX10_ok nmX10 hown hK hP hD hS 0 rfl rfl 0 (by decide) (hts (.fieldLink RX10 150 "FondsRoomModel" "thrown" "I") (by decide +kernel)) (fun _ h9 => h9) rfl (by decide +kernel) rfl rfl (Nat.le_of_ble_eq_true rfl) dX10_reader_2 (fun H locs hP hD hS => ?_)
  have hP : va_P D vwCl (MW z cy 0) H := hP
  have hD : va_D _ (MW z cy 0) := hD
  refine lv_aload_n hx hb dX10_reader_5 rfl (lv_at hl 0 rfl) ?_
  refine va_get (D := D) (ci := 10) (v := .int 0) (C := RX10) (T := TX10) (N := 58) hx hb hts iX10_reader_10 hown hK hP 0 rfl rfl 3 (by decide) (hts (.fieldLink RX10 153 "FondsRoomModel" "readers" "I") (by decide +kernel)) (fun _ h9 => h9) rfl dX10_reader_6 ?_
  refine lv_bipush (v := 20) hx hb dX10_reader_9 (by decide) ?_
  refine lv_icmp_eq (tgt := 53) hx hb dX10_reader_11 (by decide) (fun c9 => absurd c9 (by decide)) (fun _ => ?_)
  refine lv_iload_n hx hb dX10_reader_14 rfl (lv_at hl 1 rfl) ?_
  refine lv_iconst (v := 1) hx hb dX10_reader_15 (by decide) ?_
  refine lv_sipush (v := 1000) hx hb dX10_reader_16 (by decide) ?_
  refine csI (As := [.int a, .int 1, .int 1000]) (rest := []) ⟨hx, hb, hml, hown, hts⟩ (mX10_in l D _ a 1 1000) (va_cwS 3 hts gX10_reader_X10_in rfl rfl rfl (by decide +kernel) ⟨Nat.le_of_ble_eq_true rfl, Nat.le_of_ble_eq_true rfl⟩) hK hP hS hA rfl hl.1 rfl (Nat.le_of_ble_eq_true rfl) dX10_reader_19 ⟨Nat.le_of_ble_eq_true rfl, Nat.le_of_ble_eq_true rfl⟩ (fun r1 H locs hr1 hP hS => ?_)
  obtain rfl : r1 = sp_in a 1 1000 := hr1
  refine lv_if_eq (tgt := 53) hx hb dX10_reader_22 (by decide) (fun c2 => ?_) (fun c2 => ?_)
  · skip
    refine lv_iconst (v := (-1)) hx hb dX10_reader_53 (by decide) ?_
    exact W.iret (v := (-1)) hx hb hr (fun t ht hW => ⟨⟨(-1), (), rfl, (by simp [sp_reader, c2]), by rw [ht]; exact P0, va_K.moved hW.alike hK, D0⟩, hS.F ht⟩) hS.2.2 dX10_reader_54
  · skip
    refine lv_iload_n hx hb dX10_reader_25 rfl (lv_at hl 2 rfl) ?_
    refine lv_iconst (v := 0) hx hb dX10_reader_26 (by decide) ?_
    refine lv_iconst (v := 3) hx hb dX10_reader_27 (by decide) ?_
    refine csI (As := [.int r1, .int 0, .int 3]) (rest := []) ⟨hx, hb, hml, hown, hts⟩ (mX10_in l D _ r1 0 3) (va_cwS 3 hts gX10_reader_X10_in rfl rfl rfl (by decide +kernel) ⟨Nat.le_of_ble_eq_true rfl, Nat.le_of_ble_eq_true rfl⟩) hK hP hS hA rfl hl.1 rfl (Nat.le_of_ble_eq_true rfl) dX10_reader_28 ⟨Nat.le_of_ble_eq_true rfl, Nat.le_of_ble_eq_true rfl⟩ (fun r3 H locs hr3 hP hS => ?_)
    obtain rfl : r3 = sp_in r1 0 3 := hr3
    refine lv_if_eq (tgt := 53) hx hb dX10_reader_31 (by decide) (fun c4 => ?_) (fun c4 => ?_)
    · skip
      refine lv_iconst (v := (-1)) hx hb dX10_reader_53 (by decide) ?_
      exact W.iret (v := (-1)) hx hb hr (fun t ht hW => ⟨⟨(-1), (), rfl, (by simp [sp_reader, c2, c4]), by rw [ht]; exact P0, va_K.moved hW.alike hK, D0⟩, hS.F ht⟩) hS.2.2 dX10_reader_54
    · skip
      refine lv_aload_n hx hb dX10_reader_34 rfl (lv_at hl 0 rfl) ?_
      refine va_get (D := D) (ci := 10) (v := .int (-1)) (C := RX10) (T := TX10) (N := 58) hx hb hts iX10_reader_10 hown hK hP 0 rfl rfl 5 (by decide) (hts (.fieldLink RX10 9 "FondsRoomModel" "bellTurn" "I") (by decide +kernel)) (fun _ h9 => h9) rfl dX10_reader_35 ?_
      refine lv_iconst (v := (-1)) hx hb dX10_reader_38 (by decide) ?_
      refine lv_icmp_eq (tgt := 55) hx hb dX10_reader_39 (by decide) (fun _ => ?_) (fun c9 => absurd (by decide) c9)
      refine lv_aload_n hx hb dX10_reader_55 rfl (lv_at hl 0 rfl) ?_
      refine va_get (D := D) (ci := 10) (v := .ref (z 24)) (C := RX10) (T := TX10) (N := 58) hx hb hts iX10_reader_10 hown hK hP 0 rfl rfl 24 (by decide) (hts (.fieldLink RX10 57 "FondsRoomModel" "arrival" "[I") (by decide +kernel)) (fun _ h9 => h9) rfl dX10_reader_56 ?_
      refine lv_aload_n hx hb dX10_reader_59 rfl (lv_at hl 0 rfl) ?_
      refine va_get (D := D) (ci := 10) (v := .int 0) (C := RX10) (T := TX10) (N := 58) hx hb hts iX10_reader_10 hown hK hP 0 rfl rfl 3 (by decide) (hts (.fieldLink RX10 153 "FondsRoomModel" "readers" "I") (by decide +kernel)) (fun _ h9 => h9) rfl dX10_reader_60 ?_
      refine lv_iload_n hx hb dX10_reader_63 rfl (lv_at hl 1 rfl) ?_
      refine va_iast hx hb hK hP hD hS 7 0 rfl rfl (vp_in_iff.mpr (by decide)) dX10_reader_64 (fun H locs hP hD hS => ?_)
      have hP : va_P D vwCl ([(z 58, .inr (10, [.int 0, .int 0, .int 0, .int 0, .int 0, .int (-1), .int 2, .int 2, .int 1, .ref (z 9), .ref (z 10), .ref (z 11), .ref (z 12), .ref (z 13), .ref (z 14), .ref (z 15), .ref (z 16), .ref (z 17), .ref (z 18), .ref (z 19), .int 0, .int 0, .int 0, .int 0, .ref (z 24), .ref (z 25), .ref (z 26), .ref (z 27), .ref (z 28), .ref (z 29), .ref (z 30), .ref (z 31), .ref (z 32), .ref (z 33), .ref (z 34), .ref (z 35), .ref (z 36), .ref (z 37), .ref (z 38), .ref (z 39), .ref (z 40), .ref (z 41), .ref (z 42), .ref (z 43), .ref (z 44), .ref (z 45), .ref (z 46), .int 0, .ref (z 48), .ref (z 49), .ref (z 50), .ref (z 51), .int 0, .ref (z 53), .ref (z 54), .ref (z 55), .ref (z 56), .int 0])), (z 9, .inl (cy 1, 12, .inl (fun _ => 0))), (z 10, .inl (cy 0, 12, .inl (fun _ => 0))), (z 11, .inl (cy 0, 40, .inl (fun _ => 0))), (z 12, .inl (cy 1, 40, .inl (fun _ => 0))), (z 14, .inl (cy 0, 40, .inl (fun _ => 0))), (z 15, .inl (cy 0, 40, .inl (fun _ => 0))), (z 24, .inl (cy 0, 20, .inl (upd (fun _ => 0) 0 a))), (z 25, .inl (cy 0, 20, .inl (fun _ => 0))), (z 26, .inl (cy 1, 20, .inl (fun _ => 0))), (z 28, .inl (cy 0, 20, .inl (fun _ => 0))), (z 42, .inl (cy 0, 4, .inl (upd (upd (upd (upd (fun _ => 0) 0 (-1)) 1 (-1)) 2 (-1)) 3 (-1)))), (z 44, .inl (cy 0, 4, .inl (fun _ => 0))), (z 45, .inl (cy 0, 3, .inl (upd (upd (upd (fun _ => 0) 0 (-1)) 1 (-1)) 2 (-1)))), (z 53, .inl (cy 0, 30, .inl (fun _ => 0))), (z 54, .inl (cy 0, 30, .inl (fun _ => 0))), (z 55, .inl (cy 0, 30, .inl (fun _ => 0)))]) H := hP
      have hD : va_D _ ([(z 58, .inr (10, [.int 0, .int 0, .int 0, .int 0, .int 0, .int (-1), .int 2, .int 2, .int 1, .ref (z 9), .ref (z 10), .ref (z 11), .ref (z 12), .ref (z 13), .ref (z 14), .ref (z 15), .ref (z 16), .ref (z 17), .ref (z 18), .ref (z 19), .int 0, .int 0, .int 0, .int 0, .ref (z 24), .ref (z 25), .ref (z 26), .ref (z 27), .ref (z 28), .ref (z 29), .ref (z 30), .ref (z 31), .ref (z 32), .ref (z 33), .ref (z 34), .ref (z 35), .ref (z 36), .ref (z 37), .ref (z 38), .ref (z 39), .ref (z 40), .ref (z 41), .ref (z 42), .ref (z 43), .ref (z 44), .ref (z 45), .ref (z 46), .int 0, .ref (z 48), .ref (z 49), .ref (z 50), .ref (z 51), .int 0, .ref (z 53), .ref (z 54), .ref (z 55), .ref (z 56), .int 0])), (z 9, .inl (cy 1, 12, .inl (fun _ => 0))), (z 10, .inl (cy 0, 12, .inl (fun _ => 0))), (z 11, .inl (cy 0, 40, .inl (fun _ => 0))), (z 12, .inl (cy 1, 40, .inl (fun _ => 0))), (z 14, .inl (cy 0, 40, .inl (fun _ => 0))), (z 15, .inl (cy 0, 40, .inl (fun _ => 0))), (z 24, .inl (cy 0, 20, .inl (upd (fun _ => 0) 0 a))), (z 25, .inl (cy 0, 20, .inl (fun _ => 0))), (z 26, .inl (cy 1, 20, .inl (fun _ => 0))), (z 28, .inl (cy 0, 20, .inl (fun _ => 0))), (z 42, .inl (cy 0, 4, .inl (upd (upd (upd (upd (fun _ => 0) 0 (-1)) 1 (-1)) 2 (-1)) 3 (-1)))), (z 44, .inl (cy 0, 4, .inl (fun _ => 0))), (z 45, .inl (cy 0, 3, .inl (upd (upd (upd (fun _ => 0) 0 (-1)) 1 (-1)) 2 (-1)))), (z 53, .inl (cy 0, 30, .inl (fun _ => 0))), (z 54, .inl (cy 0, 30, .inl (fun _ => 0))), (z 55, .inl (cy 0, 30, .inl (fun _ => 0)))]) := hD
      refine lv_aload_n hx hb dX10_reader_65 rfl (lv_at hl 0 rfl) ?_
      refine va_get (D := D) (ci := 10) (v := .ref (z 25)) (C := RX10) (T := TX10) (N := 58) hx hb hts iX10_reader_10 hown hK hP 0 rfl rfl 25 (by decide) (hts (.fieldLink RX10 60 "FondsRoomModel" "rank" "[I") (by decide +kernel)) (fun _ h9 => h9) rfl dX10_reader_66 ?_
      refine lv_aload_n hx hb dX10_reader_69 rfl (lv_at hl 0 rfl) ?_
      refine va_get (D := D) (ci := 10) (v := .int 0) (C := RX10) (T := TX10) (N := 58) hx hb hts iX10_reader_10 hown hK hP 0 rfl rfl 3 (by decide) (hts (.fieldLink RX10 153 "FondsRoomModel" "readers" "I") (by decide +kernel)) (fun _ h9 => h9) rfl dX10_reader_70 ?_
      refine lv_iload_n hx hb dX10_reader_73 rfl (lv_at hl 2 rfl) ?_
      refine va_iast hx hb hK hP hD hS 8 0 rfl rfl (vp_in_iff.mpr (by decide)) dX10_reader_74 (fun H locs hP hD hS => ?_)
      have hP : va_P D vwCl ([(z 58, .inr (10, [.int 0, .int 0, .int 0, .int 0, .int 0, .int (-1), .int 2, .int 2, .int 1, .ref (z 9), .ref (z 10), .ref (z 11), .ref (z 12), .ref (z 13), .ref (z 14), .ref (z 15), .ref (z 16), .ref (z 17), .ref (z 18), .ref (z 19), .int 0, .int 0, .int 0, .int 0, .ref (z 24), .ref (z 25), .ref (z 26), .ref (z 27), .ref (z 28), .ref (z 29), .ref (z 30), .ref (z 31), .ref (z 32), .ref (z 33), .ref (z 34), .ref (z 35), .ref (z 36), .ref (z 37), .ref (z 38), .ref (z 39), .ref (z 40), .ref (z 41), .ref (z 42), .ref (z 43), .ref (z 44), .ref (z 45), .ref (z 46), .int 0, .ref (z 48), .ref (z 49), .ref (z 50), .ref (z 51), .int 0, .ref (z 53), .ref (z 54), .ref (z 55), .ref (z 56), .int 0])), (z 9, .inl (cy 1, 12, .inl (fun _ => 0))), (z 10, .inl (cy 0, 12, .inl (fun _ => 0))), (z 11, .inl (cy 0, 40, .inl (fun _ => 0))), (z 12, .inl (cy 1, 40, .inl (fun _ => 0))), (z 14, .inl (cy 0, 40, .inl (fun _ => 0))), (z 15, .inl (cy 0, 40, .inl (fun _ => 0))), (z 24, .inl (cy 0, 20, .inl (upd (fun _ => 0) 0 a))), (z 25, .inl (cy 0, 20, .inl (upd (fun _ => 0) 0 r1))), (z 26, .inl (cy 1, 20, .inl (fun _ => 0))), (z 28, .inl (cy 0, 20, .inl (fun _ => 0))), (z 42, .inl (cy 0, 4, .inl (upd (upd (upd (upd (fun _ => 0) 0 (-1)) 1 (-1)) 2 (-1)) 3 (-1)))), (z 44, .inl (cy 0, 4, .inl (fun _ => 0))), (z 45, .inl (cy 0, 3, .inl (upd (upd (upd (fun _ => 0) 0 (-1)) 1 (-1)) 2 (-1)))), (z 53, .inl (cy 0, 30, .inl (fun _ => 0))), (z 54, .inl (cy 0, 30, .inl (fun _ => 0))), (z 55, .inl (cy 0, 30, .inl (fun _ => 0)))]) H := hP
      have hD : va_D _ ([(z 58, .inr (10, [.int 0, .int 0, .int 0, .int 0, .int 0, .int (-1), .int 2, .int 2, .int 1, .ref (z 9), .ref (z 10), .ref (z 11), .ref (z 12), .ref (z 13), .ref (z 14), .ref (z 15), .ref (z 16), .ref (z 17), .ref (z 18), .ref (z 19), .int 0, .int 0, .int 0, .int 0, .ref (z 24), .ref (z 25), .ref (z 26), .ref (z 27), .ref (z 28), .ref (z 29), .ref (z 30), .ref (z 31), .ref (z 32), .ref (z 33), .ref (z 34), .ref (z 35), .ref (z 36), .ref (z 37), .ref (z 38), .ref (z 39), .ref (z 40), .ref (z 41), .ref (z 42), .ref (z 43), .ref (z 44), .ref (z 45), .ref (z 46), .int 0, .ref (z 48), .ref (z 49), .ref (z 50), .ref (z 51), .int 0, .ref (z 53), .ref (z 54), .ref (z 55), .ref (z 56), .int 0])), (z 9, .inl (cy 1, 12, .inl (fun _ => 0))), (z 10, .inl (cy 0, 12, .inl (fun _ => 0))), (z 11, .inl (cy 0, 40, .inl (fun _ => 0))), (z 12, .inl (cy 1, 40, .inl (fun _ => 0))), (z 14, .inl (cy 0, 40, .inl (fun _ => 0))), (z 15, .inl (cy 0, 40, .inl (fun _ => 0))), (z 24, .inl (cy 0, 20, .inl (upd (fun _ => 0) 0 a))), (z 25, .inl (cy 0, 20, .inl (upd (fun _ => 0) 0 r1))), (z 26, .inl (cy 1, 20, .inl (fun _ => 0))), (z 28, .inl (cy 0, 20, .inl (fun _ => 0))), (z 42, .inl (cy 0, 4, .inl (upd (upd (upd (upd (fun _ => 0) 0 (-1)) 1 (-1)) 2 (-1)) 3 (-1)))), (z 44, .inl (cy 0, 4, .inl (fun _ => 0))), (z 45, .inl (cy 0, 3, .inl (upd (upd (upd (fun _ => 0) 0 (-1)) 1 (-1)) 2 (-1)))), (z 53, .inl (cy 0, 30, .inl (fun _ => 0))), (z 54, .inl (cy 0, 30, .inl (fun _ => 0))), (z 55, .inl (cy 0, 30, .inl (fun _ => 0)))]) := hD
      refine lv_aload_n hx hb dX10_reader_75 rfl (lv_at hl 0 rfl) ?_
      refine va_get (D := D) (ci := 10) (v := .ref (z 26)) (C := RX10) (T := TX10) (N := 58) hx hb hts iX10_reader_10 hown hK hP 0 rfl rfl 26 (by decide) (hts (.fieldLink RX10 63 "FondsRoomModel" "needsWatched" "[Z") (by decide +kernel)) (fun _ h9 => h9) rfl dX10_reader_76 ?_
      refine lv_aload_n hx hb dX10_reader_79 rfl (lv_at hl 0 rfl) ?_
      refine va_get (D := D) (ci := 10) (v := .int 0) (C := RX10) (T := TX10) (N := 58) hx hb hts iX10_reader_10 hown hK hP 0 rfl rfl 3 (by decide) (hts (.fieldLink RX10 153 "FondsRoomModel" "readers" "I") (by decide +kernel)) (fun _ h9 => h9) rfl dX10_reader_80 ?_
      refine lv_iload_n hx hb dX10_reader_83 rfl (lv_at hl 3 rfl) ?_
      refine va_zast hx hb hK hP hD hS 9 1 rfl rfl (vp_in_iff.mpr (by decide)) dX10_reader_84 (fun H locs hP hD hS => ?_)
      have hP : va_P D vwCl ([(z 58, .inr (10, [.int 0, .int 0, .int 0, .int 0, .int 0, .int (-1), .int 2, .int 2, .int 1, .ref (z 9), .ref (z 10), .ref (z 11), .ref (z 12), .ref (z 13), .ref (z 14), .ref (z 15), .ref (z 16), .ref (z 17), .ref (z 18), .ref (z 19), .int 0, .int 0, .int 0, .int 0, .ref (z 24), .ref (z 25), .ref (z 26), .ref (z 27), .ref (z 28), .ref (z 29), .ref (z 30), .ref (z 31), .ref (z 32), .ref (z 33), .ref (z 34), .ref (z 35), .ref (z 36), .ref (z 37), .ref (z 38), .ref (z 39), .ref (z 40), .ref (z 41), .ref (z 42), .ref (z 43), .ref (z 44), .ref (z 45), .ref (z 46), .int 0, .ref (z 48), .ref (z 49), .ref (z 50), .ref (z 51), .int 0, .ref (z 53), .ref (z 54), .ref (z 55), .ref (z 56), .int 0])), (z 9, .inl (cy 1, 12, .inl (fun _ => 0))), (z 10, .inl (cy 0, 12, .inl (fun _ => 0))), (z 11, .inl (cy 0, 40, .inl (fun _ => 0))), (z 12, .inl (cy 1, 40, .inl (fun _ => 0))), (z 14, .inl (cy 0, 40, .inl (fun _ => 0))), (z 15, .inl (cy 0, 40, .inl (fun _ => 0))), (z 24, .inl (cy 0, 20, .inl (upd (fun _ => 0) 0 a))), (z 25, .inl (cy 0, 20, .inl (upd (fun _ => 0) 0 r1))), (z 26, .inl (cy 1, 20, .inl (upd (fun _ => 0) 0 (vp_nar .boolean b1)))), (z 28, .inl (cy 0, 20, .inl (fun _ => 0))), (z 42, .inl (cy 0, 4, .inl (upd (upd (upd (upd (fun _ => 0) 0 (-1)) 1 (-1)) 2 (-1)) 3 (-1)))), (z 44, .inl (cy 0, 4, .inl (fun _ => 0))), (z 45, .inl (cy 0, 3, .inl (upd (upd (upd (fun _ => 0) 0 (-1)) 1 (-1)) 2 (-1)))), (z 53, .inl (cy 0, 30, .inl (fun _ => 0))), (z 54, .inl (cy 0, 30, .inl (fun _ => 0))), (z 55, .inl (cy 0, 30, .inl (fun _ => 0)))]) H := hP
      have hD : va_D _ ([(z 58, .inr (10, [.int 0, .int 0, .int 0, .int 0, .int 0, .int (-1), .int 2, .int 2, .int 1, .ref (z 9), .ref (z 10), .ref (z 11), .ref (z 12), .ref (z 13), .ref (z 14), .ref (z 15), .ref (z 16), .ref (z 17), .ref (z 18), .ref (z 19), .int 0, .int 0, .int 0, .int 0, .ref (z 24), .ref (z 25), .ref (z 26), .ref (z 27), .ref (z 28), .ref (z 29), .ref (z 30), .ref (z 31), .ref (z 32), .ref (z 33), .ref (z 34), .ref (z 35), .ref (z 36), .ref (z 37), .ref (z 38), .ref (z 39), .ref (z 40), .ref (z 41), .ref (z 42), .ref (z 43), .ref (z 44), .ref (z 45), .ref (z 46), .int 0, .ref (z 48), .ref (z 49), .ref (z 50), .ref (z 51), .int 0, .ref (z 53), .ref (z 54), .ref (z 55), .ref (z 56), .int 0])), (z 9, .inl (cy 1, 12, .inl (fun _ => 0))), (z 10, .inl (cy 0, 12, .inl (fun _ => 0))), (z 11, .inl (cy 0, 40, .inl (fun _ => 0))), (z 12, .inl (cy 1, 40, .inl (fun _ => 0))), (z 14, .inl (cy 0, 40, .inl (fun _ => 0))), (z 15, .inl (cy 0, 40, .inl (fun _ => 0))), (z 24, .inl (cy 0, 20, .inl (upd (fun _ => 0) 0 a))), (z 25, .inl (cy 0, 20, .inl (upd (fun _ => 0) 0 r1))), (z 26, .inl (cy 1, 20, .inl (upd (fun _ => 0) 0 (vp_nar .boolean b1)))), (z 28, .inl (cy 0, 20, .inl (fun _ => 0))), (z 42, .inl (cy 0, 4, .inl (upd (upd (upd (upd (fun _ => 0) 0 (-1)) 1 (-1)) 2 (-1)) 3 (-1)))), (z 44, .inl (cy 0, 4, .inl (fun _ => 0))), (z 45, .inl (cy 0, 3, .inl (upd (upd (upd (fun _ => 0) 0 (-1)) 1 (-1)) 2 (-1)))), (z 53, .inl (cy 0, 30, .inl (fun _ => 0))), (z 54, .inl (cy 0, 30, .inl (fun _ => 0))), (z 55, .inl (cy 0, 30, .inl (fun _ => 0)))]) := hD
      refine lv_aload_n hx hb dX10_reader_85 rfl (lv_at hl 0 rfl) ?_
      refine va_get (D := D) (ci := 10) (v := .ref (z 28)) (C := RX10) (T := TX10) (N := 58) hx hb hts iX10_reader_10 hown hK hP 0 rfl rfl 28 (by decide) (hts (.fieldLink RX10 69 "FondsRoomModel" "desk" "[I") (by decide +kernel)) (fun _ h9 => h9) rfl dX10_reader_86 ?_
      refine lv_aload_n hx hb dX10_reader_89 rfl (lv_at hl 0 rfl) ?_
      refine va_get (D := D) (ci := 10) (v := .int 0) (C := RX10) (T := TX10) (N := 58) hx hb hts iX10_reader_10 hown hK hP 0 rfl rfl 3 (by decide) (hts (.fieldLink RX10 153 "FondsRoomModel" "readers" "I") (by decide +kernel)) (fun _ h9 => h9) rfl dX10_reader_90 ?_
      refine lv_iconst (v := (-1)) hx hb dX10_reader_93 (by decide) ?_
      refine va_iast hx hb hK hP hD hS 10 0 rfl rfl (vp_in_iff.mpr (by decide)) dX10_reader_94 (fun H locs hP hD hS => ?_)
      have hP : va_P D vwCl ([(z 58, .inr (10, [.int 0, .int 0, .int 0, .int 0, .int 0, .int (-1), .int 2, .int 2, .int 1, .ref (z 9), .ref (z 10), .ref (z 11), .ref (z 12), .ref (z 13), .ref (z 14), .ref (z 15), .ref (z 16), .ref (z 17), .ref (z 18), .ref (z 19), .int 0, .int 0, .int 0, .int 0, .ref (z 24), .ref (z 25), .ref (z 26), .ref (z 27), .ref (z 28), .ref (z 29), .ref (z 30), .ref (z 31), .ref (z 32), .ref (z 33), .ref (z 34), .ref (z 35), .ref (z 36), .ref (z 37), .ref (z 38), .ref (z 39), .ref (z 40), .ref (z 41), .ref (z 42), .ref (z 43), .ref (z 44), .ref (z 45), .ref (z 46), .int 0, .ref (z 48), .ref (z 49), .ref (z 50), .ref (z 51), .int 0, .ref (z 53), .ref (z 54), .ref (z 55), .ref (z 56), .int 0])), (z 9, .inl (cy 1, 12, .inl (fun _ => 0))), (z 10, .inl (cy 0, 12, .inl (fun _ => 0))), (z 11, .inl (cy 0, 40, .inl (fun _ => 0))), (z 12, .inl (cy 1, 40, .inl (fun _ => 0))), (z 14, .inl (cy 0, 40, .inl (fun _ => 0))), (z 15, .inl (cy 0, 40, .inl (fun _ => 0))), (z 24, .inl (cy 0, 20, .inl (upd (fun _ => 0) 0 a))), (z 25, .inl (cy 0, 20, .inl (upd (fun _ => 0) 0 r1))), (z 26, .inl (cy 1, 20, .inl (upd (fun _ => 0) 0 (vp_nar .boolean b1)))), (z 28, .inl (cy 0, 20, .inl (upd (fun _ => 0) 0 (-1)))), (z 42, .inl (cy 0, 4, .inl (upd (upd (upd (upd (fun _ => 0) 0 (-1)) 1 (-1)) 2 (-1)) 3 (-1)))), (z 44, .inl (cy 0, 4, .inl (fun _ => 0))), (z 45, .inl (cy 0, 3, .inl (upd (upd (upd (fun _ => 0) 0 (-1)) 1 (-1)) 2 (-1)))), (z 53, .inl (cy 0, 30, .inl (fun _ => 0))), (z 54, .inl (cy 0, 30, .inl (fun _ => 0))), (z 55, .inl (cy 0, 30, .inl (fun _ => 0)))]) H := hP
      have hD : va_D _ ([(z 58, .inr (10, [.int 0, .int 0, .int 0, .int 0, .int 0, .int (-1), .int 2, .int 2, .int 1, .ref (z 9), .ref (z 10), .ref (z 11), .ref (z 12), .ref (z 13), .ref (z 14), .ref (z 15), .ref (z 16), .ref (z 17), .ref (z 18), .ref (z 19), .int 0, .int 0, .int 0, .int 0, .ref (z 24), .ref (z 25), .ref (z 26), .ref (z 27), .ref (z 28), .ref (z 29), .ref (z 30), .ref (z 31), .ref (z 32), .ref (z 33), .ref (z 34), .ref (z 35), .ref (z 36), .ref (z 37), .ref (z 38), .ref (z 39), .ref (z 40), .ref (z 41), .ref (z 42), .ref (z 43), .ref (z 44), .ref (z 45), .ref (z 46), .int 0, .ref (z 48), .ref (z 49), .ref (z 50), .ref (z 51), .int 0, .ref (z 53), .ref (z 54), .ref (z 55), .ref (z 56), .int 0])), (z 9, .inl (cy 1, 12, .inl (fun _ => 0))), (z 10, .inl (cy 0, 12, .inl (fun _ => 0))), (z 11, .inl (cy 0, 40, .inl (fun _ => 0))), (z 12, .inl (cy 1, 40, .inl (fun _ => 0))), (z 14, .inl (cy 0, 40, .inl (fun _ => 0))), (z 15, .inl (cy 0, 40, .inl (fun _ => 0))), (z 24, .inl (cy 0, 20, .inl (upd (fun _ => 0) 0 a))), (z 25, .inl (cy 0, 20, .inl (upd (fun _ => 0) 0 r1))), (z 26, .inl (cy 1, 20, .inl (upd (fun _ => 0) 0 (vp_nar .boolean b1)))), (z 28, .inl (cy 0, 20, .inl (upd (fun _ => 0) 0 (-1)))), (z 42, .inl (cy 0, 4, .inl (upd (upd (upd (upd (fun _ => 0) 0 (-1)) 1 (-1)) 2 (-1)) 3 (-1)))), (z 44, .inl (cy 0, 4, .inl (fun _ => 0))), (z 45, .inl (cy 0, 3, .inl (upd (upd (upd (fun _ => 0) 0 (-1)) 1 (-1)) 2 (-1)))), (z 53, .inl (cy 0, 30, .inl (fun _ => 0))), (z 54, .inl (cy 0, 30, .inl (fun _ => 0))), (z 55, .inl (cy 0, 30, .inl (fun _ => 0)))]) := hD
      refine lv_aload_n hx hb dX10_reader_95 rfl (lv_at hl 0 rfl) ?_
      refine lv_dup hx hb dX10_reader_96 rfl ?_
      refine va_get (D := D) (ci := 10) (v := .int 0) (C := RX10) (T := TX10) (N := 58) hx hb hts iX10_reader_10 hown hK hP 0 rfl rfl 3 (by decide) (hts (.fieldLink RX10 153 "FondsRoomModel" "readers" "I") (by decide +kernel)) (fun _ h9 => h9) rfl dX10_reader_97 ?_
      refine lv_iconst (v := 1) hx hb dX10_reader_100 (by decide) ?_
      refine lv_iadd hx hb dX10_reader_101 ?_
      refine lv_topi (fun y5 ey5 => ?_)
      obtain rfl : y5 = 1 := ey5.trans (by decide)
      refine va_put (D := D) (ci := 10) (v := .int 1) (ty := .int) (C := RX10) (T := TX10) (N := 58) hx hb hts iX10_reader_10 tyX10 tyX10_ok nmX10 hown hK hP hD hS 0 rfl rfl 3 (by decide) (hts (.fieldLink RX10 153 "FondsRoomModel" "readers" "I") (by decide +kernel)) (fun _ h9 => h9) rfl (by decide +kernel) rfl rfl (Nat.le_of_ble_eq_true rfl) dX10_reader_102 (fun H locs hP hD hS => ?_)
      have hP : va_P D vwCl ([(z 58, .inr (10, [.int 0, .int 0, .int 0, .int 1, .int 0, .int (-1), .int 2, .int 2, .int 1, .ref (z 9), .ref (z 10), .ref (z 11), .ref (z 12), .ref (z 13), .ref (z 14), .ref (z 15), .ref (z 16), .ref (z 17), .ref (z 18), .ref (z 19), .int 0, .int 0, .int 0, .int 0, .ref (z 24), .ref (z 25), .ref (z 26), .ref (z 27), .ref (z 28), .ref (z 29), .ref (z 30), .ref (z 31), .ref (z 32), .ref (z 33), .ref (z 34), .ref (z 35), .ref (z 36), .ref (z 37), .ref (z 38), .ref (z 39), .ref (z 40), .ref (z 41), .ref (z 42), .ref (z 43), .ref (z 44), .ref (z 45), .ref (z 46), .int 0, .ref (z 48), .ref (z 49), .ref (z 50), .ref (z 51), .int 0, .ref (z 53), .ref (z 54), .ref (z 55), .ref (z 56), .int 0])), (z 9, .inl (cy 1, 12, .inl (fun _ => 0))), (z 10, .inl (cy 0, 12, .inl (fun _ => 0))), (z 11, .inl (cy 0, 40, .inl (fun _ => 0))), (z 12, .inl (cy 1, 40, .inl (fun _ => 0))), (z 14, .inl (cy 0, 40, .inl (fun _ => 0))), (z 15, .inl (cy 0, 40, .inl (fun _ => 0))), (z 24, .inl (cy 0, 20, .inl (upd (fun _ => 0) 0 a))), (z 25, .inl (cy 0, 20, .inl (upd (fun _ => 0) 0 r1))), (z 26, .inl (cy 1, 20, .inl (upd (fun _ => 0) 0 (vp_nar .boolean b1)))), (z 28, .inl (cy 0, 20, .inl (upd (fun _ => 0) 0 (-1)))), (z 42, .inl (cy 0, 4, .inl (upd (upd (upd (upd (fun _ => 0) 0 (-1)) 1 (-1)) 2 (-1)) 3 (-1)))), (z 44, .inl (cy 0, 4, .inl (fun _ => 0))), (z 45, .inl (cy 0, 3, .inl (upd (upd (upd (fun _ => 0) 0 (-1)) 1 (-1)) 2 (-1)))), (z 53, .inl (cy 0, 30, .inl (fun _ => 0))), (z 54, .inl (cy 0, 30, .inl (fun _ => 0))), (z 55, .inl (cy 0, 30, .inl (fun _ => 0)))]) H := hP
      have hD : va_D _ ([(z 58, .inr (10, [.int 0, .int 0, .int 0, .int 1, .int 0, .int (-1), .int 2, .int 2, .int 1, .ref (z 9), .ref (z 10), .ref (z 11), .ref (z 12), .ref (z 13), .ref (z 14), .ref (z 15), .ref (z 16), .ref (z 17), .ref (z 18), .ref (z 19), .int 0, .int 0, .int 0, .int 0, .ref (z 24), .ref (z 25), .ref (z 26), .ref (z 27), .ref (z 28), .ref (z 29), .ref (z 30), .ref (z 31), .ref (z 32), .ref (z 33), .ref (z 34), .ref (z 35), .ref (z 36), .ref (z 37), .ref (z 38), .ref (z 39), .ref (z 40), .ref (z 41), .ref (z 42), .ref (z 43), .ref (z 44), .ref (z 45), .ref (z 46), .int 0, .ref (z 48), .ref (z 49), .ref (z 50), .ref (z 51), .int 0, .ref (z 53), .ref (z 54), .ref (z 55), .ref (z 56), .int 0])), (z 9, .inl (cy 1, 12, .inl (fun _ => 0))), (z 10, .inl (cy 0, 12, .inl (fun _ => 0))), (z 11, .inl (cy 0, 40, .inl (fun _ => 0))), (z 12, .inl (cy 1, 40, .inl (fun _ => 0))), (z 14, .inl (cy 0, 40, .inl (fun _ => 0))), (z 15, .inl (cy 0, 40, .inl (fun _ => 0))), (z 24, .inl (cy 0, 20, .inl (upd (fun _ => 0) 0 a))), (z 25, .inl (cy 0, 20, .inl (upd (fun _ => 0) 0 r1))), (z 26, .inl (cy 1, 20, .inl (upd (fun _ => 0) 0 (vp_nar .boolean b1)))), (z 28, .inl (cy 0, 20, .inl (upd (fun _ => 0) 0 (-1)))), (z 42, .inl (cy 0, 4, .inl (upd (upd (upd (upd (fun _ => 0) 0 (-1)) 1 (-1)) 2 (-1)) 3 (-1)))), (z 44, .inl (cy 0, 4, .inl (fun _ => 0))), (z 45, .inl (cy 0, 3, .inl (upd (upd (upd (fun _ => 0) 0 (-1)) 1 (-1)) 2 (-1)))), (z 53, .inl (cy 0, 30, .inl (fun _ => 0))), (z 54, .inl (cy 0, 30, .inl (fun _ => 0))), (z 55, .inl (cy 0, 30, .inl (fun _ => 0)))]) := hD
      refine lv_aload_n hx hb dX10_reader_105 rfl (lv_at hl 0 rfl) ?_
      refine va_get (D := D) (ci := 10) (v := .int 1) (C := RX10) (T := TX10) (N := 58) hx hb hts iX10_reader_10 hown hK hP 0 rfl rfl 3 (by decide) (hts (.fieldLink RX10 153 "FondsRoomModel" "readers" "I") (by decide +kernel)) (fun _ h9 => h9) rfl dX10_reader_106 ?_
      refine lv_iconst (v := 1) hx hb dX10_reader_109 (by decide) ?_
      refine lv_isub hx hb dX10_reader_110 ?_
      refine lv_topi (fun y6 ey6 => ?_)
      obtain rfl : y6 = 0 := ey6.trans (by decide)
      exact W.iret (v := 0) hx hb hr (fun t ht hW => ⟨⟨0, (), rfl, (by simp [sp_reader, c2, c4]), by rw [ht]; exact P0, va_K.moved hW.alike hK, D0⟩, hS.F ht⟩) hS.2.2 dX10_reader_111

theorem iX10_bell_10 : ∀ w ∈ wsX100, w ∈ wsX10_bell := fun _ h => List.mem_cons_of_mem _ (List.mem_append_right _ h)
set_option maxHeartbeats 4000000 in
set_option maxRecDepth 100000 in
theorem mX10_bell (l : Launch) (D : va_G) (z : Nat → Nat) (cy : Nat → ClassId) (sz : Nat) (a : Int32) : Met l yX10_bell wsX10_bell ({ frames := 0, cells := 0, slots := 0, locals := 0 }) (PW D (TYS cy) (MW z cy 0) sz [.ref (z 58), .int a]) (QI D (TYS cy) (MW z cy 0) (([] : va_W)) sz (fun r => r = sp_bell a)) 0 0 (va_A (MW z cy 0) sz) := by
  refine Met.ofW (cc := cX10_bell) (maxL := 2) (ret := (some .boolean)) (by decide) rfl ?_
  intro p e s m args below meth c s₁ B hml hv
  obtain ⟨rfl, hsz, hP, hK, hD0⟩ := hv
  have hx := B.exec
  have hb := B.bytes
  have hr := B.returns
  have hts := atoms_spec (ws := wsX10_bell) B.pre
  have hown : s.vm.findClass RX10 = some m.cls := findClass_of_methodNamed B.named
  have hlocks := B.notSynchronized
  subst hsz
  have hD := hD0.self (sz := s.heap.size)
  have hA : ∀ q9 : Nat, s.heap.size ≤ q9 → va_A (MW z cy 0) s.heap.size q9 := fun q9 h => Or.inr h
  have hS : va_S (va_A (MW z cy 0) s.heap.size) s.heap s.heap [] := va_S.rf
  have hl := lv_entry ([.ref (z 58), .int a]) (n := 2) (Nat.le_of_ble_eq_true rfl)
  rw [lg_entry_eq]
  generalize (lg_sl ([.ref (z 58), .int a]) ++ List.replicate (2 - (lg_sl ([.ref (z 58), .int a])).length) Slot.unset).toArray = ls at hl ⊢
  have hl : lv_has ls 2 [(0, .ref (z 58)), (1, .int a)] := hl
  refine lv_aload_n hx hb dX10_bell_0 rfl (lv_at hl 0 rfl) ?_
  refine lv_iconst (v := 0) hx hb dX10_bell_1 (by decide) ?_
  refine va_put (D := D) (ci := 10) (v := .int 0) (ty := .int) (C := RX10) (T := TX10) (N := 58) hx hb hts iX10_bell_10 tyX10 tyX10_ok nmX10 hown hK hP hD hS 0 rfl rfl 0 (by decide) (hts (.fieldLink RX10 150 "FondsRoomModel" "thrown" "I") (by decide +kernel)) (fun _ h9 => h9) rfl (by decide +kernel) rfl rfl (Nat.le_of_ble_eq_true rfl) dX10_bell_2 (fun H locs hP hD hS => ?_)
  have hP : va_P D vwCl (MW z cy 0) H := hP
  have hD : va_D _ (MW z cy 0) := hD
  refine lv_aload_n hx hb dX10_bell_5 rfl (lv_at hl 0 rfl) ?_
  refine va_get (D := D) (ci := 10) (v := .int (-1)) (C := RX10) (T := TX10) (N := 58) hx hb hts iX10_bell_10 hown hK hP 0 rfl rfl 5 (by decide) (hts (.fieldLink RX10 9 "FondsRoomModel" "bellTurn" "I") (by decide +kernel)) (fun _ h9 => h9) rfl dX10_bell_6 ?_
  refine lv_iconst (v := (-1)) hx hb dX10_bell_9 (by decide) ?_
  refine lv_icmp_ne (tgt := 21) hx hb dX10_bell_10 (by decide) (fun c9 => absurd (by decide) c9) (fun _ => ?_)
  refine lv_iload_n hx hb dX10_bell_13 rfl (lv_at hl 1 rfl) ?_
  refine lv_aload_n hx hb dX10_bell_14 rfl (lv_at hl 0 rfl) ?_
  refine va_get (D := D) (ci := 10) (v := .int 0) (C := RX10) (T := TX10) (N := 58) hx hb hts iX10_bell_10 hown hK hP 0 rfl rfl 4 (by decide) (hts (.fieldLink RX10 163 "FondsRoomModel" "turn" "I") (by decide +kernel)) (fun _ h9 => h9) rfl dX10_bell_15 ?_
  refine lv_icmp_gt (tgt := 23) hx hb dX10_bell_18 (by decide) (fun c1 => ?_) (fun c1 => ?_)
  · skip
    refine lv_aload_n hx hb dX10_bell_23 rfl (lv_at hl 0 rfl) ?_
    refine lv_iload_n hx hb dX10_bell_24 rfl (lv_at hl 1 rfl) ?_
    refine va_put (D := D) (ci := 10) (v := .int a) (ty := .int) (C := RX10) (T := TX10) (N := 58) hx hb hts iX10_bell_10 tyX10 tyX10_ok nmX10 hown hK hP hD hS 0 rfl rfl 5 (by decide) (hts (.fieldLink RX10 9 "FondsRoomModel" "bellTurn" "I") (by decide +kernel)) (fun _ h9 => h9) rfl (by decide +kernel) rfl rfl (Nat.le_of_ble_eq_true rfl) dX10_bell_25 (fun H locs hP hD hS => ?_)
    have hP : va_P D vwCl ([(z 58, .inr (10, [.int 0, .int 0, .int 0, .int 0, .int 0, .int a, .int 2, .int 2, .int 1, .ref (z 9), .ref (z 10), .ref (z 11), .ref (z 12), .ref (z 13), .ref (z 14), .ref (z 15), .ref (z 16), .ref (z 17), .ref (z 18), .ref (z 19), .int 0, .int 0, .int 0, .int 0, .ref (z 24), .ref (z 25), .ref (z 26), .ref (z 27), .ref (z 28), .ref (z 29), .ref (z 30), .ref (z 31), .ref (z 32), .ref (z 33), .ref (z 34), .ref (z 35), .ref (z 36), .ref (z 37), .ref (z 38), .ref (z 39), .ref (z 40), .ref (z 41), .ref (z 42), .ref (z 43), .ref (z 44), .ref (z 45), .ref (z 46), .int 0, .ref (z 48), .ref (z 49), .ref (z 50), .ref (z 51), .int 0, .ref (z 53), .ref (z 54), .ref (z 55), .ref (z 56), .int 0])), (z 9, .inl (cy 1, 12, .inl (fun _ => 0))), (z 10, .inl (cy 0, 12, .inl (fun _ => 0))), (z 11, .inl (cy 0, 40, .inl (fun _ => 0))), (z 12, .inl (cy 1, 40, .inl (fun _ => 0))), (z 14, .inl (cy 0, 40, .inl (fun _ => 0))), (z 15, .inl (cy 0, 40, .inl (fun _ => 0))), (z 24, .inl (cy 0, 20, .inl (fun _ => 0))), (z 25, .inl (cy 0, 20, .inl (fun _ => 0))), (z 26, .inl (cy 1, 20, .inl (fun _ => 0))), (z 28, .inl (cy 0, 20, .inl (fun _ => 0))), (z 42, .inl (cy 0, 4, .inl (upd (upd (upd (upd (fun _ => 0) 0 (-1)) 1 (-1)) 2 (-1)) 3 (-1)))), (z 44, .inl (cy 0, 4, .inl (fun _ => 0))), (z 45, .inl (cy 0, 3, .inl (upd (upd (upd (fun _ => 0) 0 (-1)) 1 (-1)) 2 (-1)))), (z 53, .inl (cy 0, 30, .inl (fun _ => 0))), (z 54, .inl (cy 0, 30, .inl (fun _ => 0))), (z 55, .inl (cy 0, 30, .inl (fun _ => 0)))]) H := hP
    have hD : va_D _ ([(z 58, .inr (10, [.int 0, .int 0, .int 0, .int 0, .int 0, .int a, .int 2, .int 2, .int 1, .ref (z 9), .ref (z 10), .ref (z 11), .ref (z 12), .ref (z 13), .ref (z 14), .ref (z 15), .ref (z 16), .ref (z 17), .ref (z 18), .ref (z 19), .int 0, .int 0, .int 0, .int 0, .ref (z 24), .ref (z 25), .ref (z 26), .ref (z 27), .ref (z 28), .ref (z 29), .ref (z 30), .ref (z 31), .ref (z 32), .ref (z 33), .ref (z 34), .ref (z 35), .ref (z 36), .ref (z 37), .ref (z 38), .ref (z 39), .ref (z 40), .ref (z 41), .ref (z 42), .ref (z 43), .ref (z 44), .ref (z 45), .ref (z 46), .int 0, .ref (z 48), .ref (z 49), .ref (z 50), .ref (z 51), .int 0, .ref (z 53), .ref (z 54), .ref (z 55), .ref (z 56), .int 0])), (z 9, .inl (cy 1, 12, .inl (fun _ => 0))), (z 10, .inl (cy 0, 12, .inl (fun _ => 0))), (z 11, .inl (cy 0, 40, .inl (fun _ => 0))), (z 12, .inl (cy 1, 40, .inl (fun _ => 0))), (z 14, .inl (cy 0, 40, .inl (fun _ => 0))), (z 15, .inl (cy 0, 40, .inl (fun _ => 0))), (z 24, .inl (cy 0, 20, .inl (fun _ => 0))), (z 25, .inl (cy 0, 20, .inl (fun _ => 0))), (z 26, .inl (cy 1, 20, .inl (fun _ => 0))), (z 28, .inl (cy 0, 20, .inl (fun _ => 0))), (z 42, .inl (cy 0, 4, .inl (upd (upd (upd (upd (fun _ => 0) 0 (-1)) 1 (-1)) 2 (-1)) 3 (-1)))), (z 44, .inl (cy 0, 4, .inl (fun _ => 0))), (z 45, .inl (cy 0, 3, .inl (upd (upd (upd (fun _ => 0) 0 (-1)) 1 (-1)) 2 (-1)))), (z 53, .inl (cy 0, 30, .inl (fun _ => 0))), (z 54, .inl (cy 0, 30, .inl (fun _ => 0))), (z 55, .inl (cy 0, 30, .inl (fun _ => 0)))]) := hD
    refine lv_iconst (v := 1) hx hb dX10_bell_28 (by decide) ?_
    exact W.zret (v := 1) hx hb hr (rfl) (fun t ht hW => ⟨⟨1, (), rfl, (by simp [sp_bell, c1]), by rw [ht]; exact P0, va_K.moved hW.alike hK, D0⟩, hS.F ht⟩) hS.2.2 dX10_bell_29
  · skip
    refine lv_iconst (v := 0) hx hb dX10_bell_21 (by decide) ?_
    exact W.zret (v := 0) hx hb hr (rfl) (fun t ht hW => ⟨⟨0, (), rfl, (by simp [sp_bell, c1]), by rw [ht]; exact P0, va_K.moved hW.alike hK, D0⟩, hS.F ht⟩) hS.2.2 dX10_bell_22

theorem iX10_mishap_10 : ∀ w ∈ wsX100, w ∈ wsX10_mishap := fun _ h => List.mem_cons_of_mem _ (List.mem_append_right _ h)
set_option maxHeartbeats 4000000 in
set_option maxRecDepth 100000 in
theorem mX10_mishap (l : Launch) (D : va_G) (z : Nat → Nat) (cy : Nat → ClassId) (sz : Nat) (a k n : Int32) : Met l yX10_mishap wsX10_mishap ({ frames := 1, cells := 0, slots := 0, locals := 22 }) (PW D (TYS cy) (MW z cy 0) sz [.ref (z 58), .int a, .int k, .int n]) (QI D (TYS cy) (MW z cy 0) (([] : va_W)) sz (fun r => r = sp_mishap a k n)) 0 0 (va_A (MW z cy 0) sz) := by
  refine Met.ofW (cc := cX10_mishap) (maxL := 5) (ret := (some .boolean)) (by decide) rfl ?_
  intro p e s m args below meth c s₁ B hml hv
  obtain ⟨rfl, hsz, hP, hK, hD0⟩ := hv
  have hx := B.exec
  have hb := B.bytes
  have hr := B.returns
  have hts := atoms_spec (ws := wsX10_mishap) B.pre
  have hown : s.vm.findClass RX10 = some m.cls := findClass_of_methodNamed B.named
  have hlocks := B.notSynchronized
  subst hsz
  have hD := hD0.self (sz := s.heap.size)
  have hA : ∀ q9 : Nat, s.heap.size ≤ q9 → va_A (MW z cy 0) s.heap.size q9 := fun q9 h => Or.inr h
  have hS : va_S (va_A (MW z cy 0) s.heap.size) s.heap s.heap [] := va_S.rf
  have hl := lv_entry ([.ref (z 58), .int a, .int k, .int n]) (n := 5) (Nat.le_of_ble_eq_true rfl)
  rw [lg_entry_eq]
  generalize (lg_sl ([.ref (z 58), .int a, .int k, .int n]) ++ List.replicate (5 - (lg_sl ([.ref (z 58), .int a, .int k, .int n])).length) Slot.unset).toArray = ls at hl ⊢
  have hl : lv_has ls 5 [(0, .ref (z 58)), (1, .int a), (2, .int k), (3, .int n)] := hl
  refine lv_aload_n hx hb dX10_mishap_0 rfl (lv_at hl 0 rfl) ?_
  refine lv_iconst (v := 0) hx hb dX10_mishap_1 (by decide) ?_
  refine va_put (D := D) (ci := 10) (v := .int 0) (ty := .int) (C := RX10) (T := TX10) (N := 58) hx hb hts iX10_mishap_10 tyX10 tyX10_ok nmX10 hown hK hP hD hS 0 rfl rfl 0 (by decide) (hts (.fieldLink RX10 150 "FondsRoomModel" "thrown" "I") (by decide +kernel)) (fun _ h9 => h9) rfl (by decide +kernel) rfl rfl (Nat.le_of_ble_eq_true rfl) dX10_mishap_2 (fun H locs hP hD hS => ?_)
  have hP : va_P D vwCl (MW z cy 0) H := hP
  have hD : va_D _ (MW z cy 0) := hD
  refine lv_iload_n hx hb dX10_mishap_5 rfl (lv_at hl 2 rfl) ?_
  refine lv_if_ne (tgt := 16) hx hb dX10_mishap_6 (by decide) (fun c1 => ?_) (fun c1 => ?_)
  · skip
    refine lv_iload_n hx hb dX10_mishap_16 rfl (lv_at hl 2 rfl) ?_
    refine lv_iconst (v := 1) hx hb dX10_mishap_17 (by decide) ?_
    refine lv_icmp_ne (tgt := 28) hx hb dX10_mishap_18 (by decide) (fun c2 => ?_) (fun c2 => ?_)
    · skip
      refine lv_iload_n hx hb dX10_mishap_28 rfl (lv_at hl 2 rfl) ?_
      refine lv_iconst (v := 2) hx hb dX10_mishap_29 (by decide) ?_
      refine lv_icmp_ne (tgt := 40) hx hb dX10_mishap_30 (by decide) (fun c3 => ?_) (fun c3 => ?_)
      · skip
        refine lv_iconst (v := 0) hx hb dX10_mishap_40 (by decide) ?_
        refine lv_istore (lv' := [(4, .int 0), (0, .ref (z 58)), (1, .int a), (2, .int k), (3, .int n)]) hx hb dX10_mishap_41 hl (by decide) rfl (fun ls hl => ?_)
        refine lv_iload_n hx hb dX10_mishap_43 rfl (lv_at hl 2 rfl) ?_
        refine lv_aload_n hx hb dX10_mishap_44 rfl (lv_at hl 1 rfl) ?_
        refine va_get (D := D) (ci := 10) (v := .int 0) (C := RX10) (T := TX10) (N := 58) hx hb hts iX10_mishap_10 hown hK hP 0 rfl rfl 4 (by decide) (hts (.fieldLink RX10 163 "FondsRoomModel" "turn" "I") (by decide +kernel)) (fun _ h9 => h9) rfl dX10_mishap_45 ?_
        refine lv_icmp_le (tgt := 72) hx hb dX10_mishap_48 (by decide) (fun c4 => ?_) (fun c4 => ?_)
        · skip
          refine lv_iconst (v := 0) hx hb dX10_mishap_72 (by decide) ?_
          exact W.zret (v := 0) hx hb hr (rfl) (fun t ht hW => ⟨⟨0, (), rfl, (by simp (decide := true) [sp_mishap, sp_person, c1, c2, c3, c4]), by rw [ht]; exact P0, va_K.moved hW.alike hK, D0⟩, hS.F ht⟩) hS.2.2 dX10_mishap_73
        · skip
          refine lv_iload_n hx hb dX10_mishap_51 rfl (lv_at hl 4 rfl) ?_
          refine lv_iconst (v := 0) hx hb dX10_mishap_52 (by decide) ?_
          refine lv_iload hx hb dX10_mishap_53 (lv_at hl 0 rfl) ?_
          refine lv_iconst (v := 1) hx hb dX10_mishap_55 (by decide) ?_
          refine lv_isub hx hb dX10_mishap_56 ?_
          refine lv_topi (fun y5 ey5 => ?_)
          obtain rfl : y5 = (-1) := ey5.trans (by decide)
          refine csI (As := [.int n, .int 0, .int (-1)]) (rest := []) ⟨hx, hb, hml, hown, hts⟩ (mX10_in l D _ n 0 (-1)) (va_cwS 3 hts gX10_mishap_X10_in rfl rfl rfl (by decide +kernel) ⟨Nat.le_of_ble_eq_true rfl, Nat.le_of_ble_eq_true rfl⟩) hK hP hS hA rfl hl.1 rfl (Nat.le_of_ble_eq_true rfl) dX10_mishap_57 ⟨Nat.le_of_ble_eq_true rfl, Nat.le_of_ble_eq_true rfl⟩ (fun r6 H locs hr6 hP hS => ?_)
          obtain rfl : r6 = sp_in n 0 (-1) := hr6
          refine lv_if_eq (tgt := 72) hx hb dX10_mishap_60 (by decide) (fun _ => ?_) (fun c9 => absurd (sp_in_m1 _) c9)
          refine lv_iconst (v := 0) hx hb dX10_mishap_72 (by decide) ?_
          exact W.zret (v := 0) hx hb hr (rfl) (fun t ht hW => ⟨⟨0, (), rfl, (by simp (decide := true) [sp_mishap, sp_person, c1, c2, c3, c4]), by rw [ht]; exact P0, va_K.moved hW.alike hK, D0⟩, hS.F ht⟩) hS.2.2 dX10_mishap_73
      · skip
        refine lv_aload_n hx hb dX10_mishap_33 rfl (lv_at hl 0 rfl) ?_
        refine va_get (D := D) (ci := 10) (v := .int 1) (C := RX10) (T := TX10) (N := 58) hx hb hts iX10_mishap_10 hown hK hP 0 rfl rfl 8 (by decide) (hts (.fieldLink RX10 19 "FondsRoomModel" "copyists" "I") (by decide +kernel)) (fun _ h9 => h9) rfl dX10_mishap_34 ?_
        refine lv_goto (tgt := 41) hx hb dX10_mishap_37 (by decide) ?_
        refine lv_istore (lv' := [(4, .int 1), (0, .ref (z 58)), (1, .int a), (2, .int k), (3, .int n)]) hx hb dX10_mishap_41 hl (by decide) rfl (fun ls hl => ?_)
        refine lv_iload_n hx hb dX10_mishap_43 rfl (lv_at hl 2 rfl) ?_
        refine lv_aload_n hx hb dX10_mishap_44 rfl (lv_at hl 1 rfl) ?_
        refine va_get (D := D) (ci := 10) (v := .int 0) (C := RX10) (T := TX10) (N := 58) hx hb hts iX10_mishap_10 hown hK hP 0 rfl rfl 4 (by decide) (hts (.fieldLink RX10 163 "FondsRoomModel" "turn" "I") (by decide +kernel)) (fun _ h9 => h9) rfl dX10_mishap_45 ?_
        refine lv_icmp_le (tgt := 72) hx hb dX10_mishap_48 (by decide) (fun c7 => ?_) (fun c7 => ?_)
        · skip
          refine lv_iconst (v := 0) hx hb dX10_mishap_72 (by decide) ?_
          exact W.zret (v := 0) hx hb hr (rfl) (fun t ht hW => ⟨⟨0, (), rfl, (by simp (decide := true) [sp_mishap, sp_person, c1, c2, c3, c7]), by rw [ht]; exact P0, va_K.moved hW.alike hK, D0⟩, hS.F ht⟩) hS.2.2 dX10_mishap_73
        · skip
          refine lv_iload_n hx hb dX10_mishap_51 rfl (lv_at hl 4 rfl) ?_
          refine lv_iconst (v := 0) hx hb dX10_mishap_52 (by decide) ?_
          refine lv_iload hx hb dX10_mishap_53 (lv_at hl 0 rfl) ?_
          refine lv_iconst (v := 1) hx hb dX10_mishap_55 (by decide) ?_
          refine lv_isub hx hb dX10_mishap_56 ?_
          refine lv_topi (fun y8 ey8 => ?_)
          obtain rfl : y8 = 0 := ey8.trans (by decide)
          refine csI (As := [.int n, .int 0, .int 0]) (rest := []) ⟨hx, hb, hml, hown, hts⟩ (mX10_in l D _ n 0 0) (va_cwS 3 hts gX10_mishap_X10_in rfl rfl rfl (by decide +kernel) ⟨Nat.le_of_ble_eq_true rfl, Nat.le_of_ble_eq_true rfl⟩) hK hP hS hA rfl hl.1 rfl (Nat.le_of_ble_eq_true rfl) dX10_mishap_57 ⟨Nat.le_of_ble_eq_true rfl, Nat.le_of_ble_eq_true rfl⟩ (fun r9 H locs hr9 hP hS => ?_)
          obtain rfl : r9 = sp_in n 0 0 := hr9
          refine lv_if_eq (tgt := 72) hx hb dX10_mishap_60 (by decide) (fun c10 => ?_) (fun c10 => ?_)
          · skip
            refine lv_iconst (v := 0) hx hb dX10_mishap_72 (by decide) ?_
            exact W.zret (v := 0) hx hb hr (rfl) (fun t ht hW => ⟨⟨0, (), rfl, (by simp (decide := true) [sp_mishap, sp_person, c1, c2, c3, c7, c10]), by rw [ht]; exact P0, va_K.moved hW.alike hK, D0⟩, hS.F ht⟩) hS.2.2 dX10_mishap_73
          · skip
            refine lv_aload_n hx hb dX10_mishap_63 rfl (lv_at hl 1 rfl) ?_
            refine va_get (D := D) (ci := 10) (v := .int 0) (C := RX10) (T := TX10) (N := 58) hx hb hts iX10_mishap_10 hown hK hP 0 rfl rfl 52 (by decide) (hts (.fieldLink RX10 183 "FondsRoomModel" "mishaps" "I") (by decide +kernel)) (fun _ h9 => h9) rfl dX10_mishap_64 ?_
            refine lv_bipush (v := 30) hx hb dX10_mishap_67 (by decide) ?_
            refine lv_icmp_ne (tgt := 74) hx hb dX10_mishap_69 (by decide) (fun _ => ?_) (fun c9 => absurd c9 (by decide))
            refine lv_aload_n hx hb dX10_mishap_74 rfl (lv_at hl 1 rfl) ?_
            refine va_get (D := D) (ci := 10) (v := .ref (z 53)) (C := RX10) (T := TX10) (N := 58) hx hb hts iX10_mishap_10 hown hK hP 0 rfl rfl 53 (by decide) (hts (.fieldLink RX10 138 "FondsRoomModel" "mTurn" "[I") (by decide +kernel)) (fun _ h9 => h9) rfl dX10_mishap_75 ?_
            refine lv_aload_n hx hb dX10_mishap_78 rfl (lv_at hl 1 rfl) ?_
            refine va_get (D := D) (ci := 10) (v := .int 0) (C := RX10) (T := TX10) (N := 58) hx hb hts iX10_mishap_10 hown hK hP 0 rfl rfl 52 (by decide) (hts (.fieldLink RX10 183 "FondsRoomModel" "mishaps" "I") (by decide +kernel)) (fun _ h9 => h9) rfl dX10_mishap_79 ?_
            refine lv_iload_n hx hb dX10_mishap_82 rfl (lv_at hl 2 rfl) ?_
            refine va_iast hx hb hK hP hD hS 14 0 rfl rfl (vp_in_iff.mpr (by decide)) dX10_mishap_83 (fun H locs hP hD hS => ?_)
            have hP : va_P D vwCl ([(z 58, .inr (10, [.int 0, .int 0, .int 0, .int 0, .int 0, .int (-1), .int 2, .int 2, .int 1, .ref (z 9), .ref (z 10), .ref (z 11), .ref (z 12), .ref (z 13), .ref (z 14), .ref (z 15), .ref (z 16), .ref (z 17), .ref (z 18), .ref (z 19), .int 0, .int 0, .int 0, .int 0, .ref (z 24), .ref (z 25), .ref (z 26), .ref (z 27), .ref (z 28), .ref (z 29), .ref (z 30), .ref (z 31), .ref (z 32), .ref (z 33), .ref (z 34), .ref (z 35), .ref (z 36), .ref (z 37), .ref (z 38), .ref (z 39), .ref (z 40), .ref (z 41), .ref (z 42), .ref (z 43), .ref (z 44), .ref (z 45), .ref (z 46), .int 0, .ref (z 48), .ref (z 49), .ref (z 50), .ref (z 51), .int 0, .ref (z 53), .ref (z 54), .ref (z 55), .ref (z 56), .int 0])), (z 9, .inl (cy 1, 12, .inl (fun _ => 0))), (z 10, .inl (cy 0, 12, .inl (fun _ => 0))), (z 11, .inl (cy 0, 40, .inl (fun _ => 0))), (z 12, .inl (cy 1, 40, .inl (fun _ => 0))), (z 14, .inl (cy 0, 40, .inl (fun _ => 0))), (z 15, .inl (cy 0, 40, .inl (fun _ => 0))), (z 24, .inl (cy 0, 20, .inl (fun _ => 0))), (z 25, .inl (cy 0, 20, .inl (fun _ => 0))), (z 26, .inl (cy 1, 20, .inl (fun _ => 0))), (z 28, .inl (cy 0, 20, .inl (fun _ => 0))), (z 42, .inl (cy 0, 4, .inl (upd (upd (upd (upd (fun _ => 0) 0 (-1)) 1 (-1)) 2 (-1)) 3 (-1)))), (z 44, .inl (cy 0, 4, .inl (fun _ => 0))), (z 45, .inl (cy 0, 3, .inl (upd (upd (upd (fun _ => 0) 0 (-1)) 1 (-1)) 2 (-1)))), (z 53, .inl (cy 0, 30, .inl (upd (fun _ => 0) 0 a))), (z 54, .inl (cy 0, 30, .inl (fun _ => 0))), (z 55, .inl (cy 0, 30, .inl (fun _ => 0)))]) H := hP
            have hD : va_D _ ([(z 58, .inr (10, [.int 0, .int 0, .int 0, .int 0, .int 0, .int (-1), .int 2, .int 2, .int 1, .ref (z 9), .ref (z 10), .ref (z 11), .ref (z 12), .ref (z 13), .ref (z 14), .ref (z 15), .ref (z 16), .ref (z 17), .ref (z 18), .ref (z 19), .int 0, .int 0, .int 0, .int 0, .ref (z 24), .ref (z 25), .ref (z 26), .ref (z 27), .ref (z 28), .ref (z 29), .ref (z 30), .ref (z 31), .ref (z 32), .ref (z 33), .ref (z 34), .ref (z 35), .ref (z 36), .ref (z 37), .ref (z 38), .ref (z 39), .ref (z 40), .ref (z 41), .ref (z 42), .ref (z 43), .ref (z 44), .ref (z 45), .ref (z 46), .int 0, .ref (z 48), .ref (z 49), .ref (z 50), .ref (z 51), .int 0, .ref (z 53), .ref (z 54), .ref (z 55), .ref (z 56), .int 0])), (z 9, .inl (cy 1, 12, .inl (fun _ => 0))), (z 10, .inl (cy 0, 12, .inl (fun _ => 0))), (z 11, .inl (cy 0, 40, .inl (fun _ => 0))), (z 12, .inl (cy 1, 40, .inl (fun _ => 0))), (z 14, .inl (cy 0, 40, .inl (fun _ => 0))), (z 15, .inl (cy 0, 40, .inl (fun _ => 0))), (z 24, .inl (cy 0, 20, .inl (fun _ => 0))), (z 25, .inl (cy 0, 20, .inl (fun _ => 0))), (z 26, .inl (cy 1, 20, .inl (fun _ => 0))), (z 28, .inl (cy 0, 20, .inl (fun _ => 0))), (z 42, .inl (cy 0, 4, .inl (upd (upd (upd (upd (fun _ => 0) 0 (-1)) 1 (-1)) 2 (-1)) 3 (-1)))), (z 44, .inl (cy 0, 4, .inl (fun _ => 0))), (z 45, .inl (cy 0, 3, .inl (upd (upd (upd (fun _ => 0) 0 (-1)) 1 (-1)) 2 (-1)))), (z 53, .inl (cy 0, 30, .inl (upd (fun _ => 0) 0 a))), (z 54, .inl (cy 0, 30, .inl (fun _ => 0))), (z 55, .inl (cy 0, 30, .inl (fun _ => 0)))]) := hD
            refine lv_aload_n hx hb dX10_mishap_84 rfl (lv_at hl 1 rfl) ?_
            refine va_get (D := D) (ci := 10) (v := .ref (z 54)) (C := RX10) (T := TX10) (N := 58) hx hb hts iX10_mishap_10 hown hK hP 0 rfl rfl 54 (by decide) (hts (.fieldLink RX10 141 "FondsRoomModel" "mKind" "[I") (by decide +kernel)) (fun _ h9 => h9) rfl dX10_mishap_85 ?_
            refine lv_aload_n hx hb dX10_mishap_88 rfl (lv_at hl 1 rfl) ?_
            refine va_get (D := D) (ci := 10) (v := .int 0) (C := RX10) (T := TX10) (N := 58) hx hb hts iX10_mishap_10 hown hK hP 0 rfl rfl 52 (by decide) (hts (.fieldLink RX10 183 "FondsRoomModel" "mishaps" "I") (by decide +kernel)) (fun _ h9 => h9) rfl dX10_mishap_89 ?_
            refine lv_iload_n hx hb dX10_mishap_92 rfl (lv_at hl 3 rfl) ?_
            refine va_iast hx hb hK hP hD hS 15 0 rfl rfl (vp_in_iff.mpr (by decide)) dX10_mishap_93 (fun H locs hP hD hS => ?_)
            have hP : va_P D vwCl ([(z 58, .inr (10, [.int 0, .int 0, .int 0, .int 0, .int 0, .int (-1), .int 2, .int 2, .int 1, .ref (z 9), .ref (z 10), .ref (z 11), .ref (z 12), .ref (z 13), .ref (z 14), .ref (z 15), .ref (z 16), .ref (z 17), .ref (z 18), .ref (z 19), .int 0, .int 0, .int 0, .int 0, .ref (z 24), .ref (z 25), .ref (z 26), .ref (z 27), .ref (z 28), .ref (z 29), .ref (z 30), .ref (z 31), .ref (z 32), .ref (z 33), .ref (z 34), .ref (z 35), .ref (z 36), .ref (z 37), .ref (z 38), .ref (z 39), .ref (z 40), .ref (z 41), .ref (z 42), .ref (z 43), .ref (z 44), .ref (z 45), .ref (z 46), .int 0, .ref (z 48), .ref (z 49), .ref (z 50), .ref (z 51), .int 0, .ref (z 53), .ref (z 54), .ref (z 55), .ref (z 56), .int 0])), (z 9, .inl (cy 1, 12, .inl (fun _ => 0))), (z 10, .inl (cy 0, 12, .inl (fun _ => 0))), (z 11, .inl (cy 0, 40, .inl (fun _ => 0))), (z 12, .inl (cy 1, 40, .inl (fun _ => 0))), (z 14, .inl (cy 0, 40, .inl (fun _ => 0))), (z 15, .inl (cy 0, 40, .inl (fun _ => 0))), (z 24, .inl (cy 0, 20, .inl (fun _ => 0))), (z 25, .inl (cy 0, 20, .inl (fun _ => 0))), (z 26, .inl (cy 1, 20, .inl (fun _ => 0))), (z 28, .inl (cy 0, 20, .inl (fun _ => 0))), (z 42, .inl (cy 0, 4, .inl (upd (upd (upd (upd (fun _ => 0) 0 (-1)) 1 (-1)) 2 (-1)) 3 (-1)))), (z 44, .inl (cy 0, 4, .inl (fun _ => 0))), (z 45, .inl (cy 0, 3, .inl (upd (upd (upd (fun _ => 0) 0 (-1)) 1 (-1)) 2 (-1)))), (z 53, .inl (cy 0, 30, .inl (upd (fun _ => 0) 0 a))), (z 54, .inl (cy 0, 30, .inl (upd (fun _ => 0) 0 k))), (z 55, .inl (cy 0, 30, .inl (fun _ => 0)))]) H := hP
            have hD : va_D _ ([(z 58, .inr (10, [.int 0, .int 0, .int 0, .int 0, .int 0, .int (-1), .int 2, .int 2, .int 1, .ref (z 9), .ref (z 10), .ref (z 11), .ref (z 12), .ref (z 13), .ref (z 14), .ref (z 15), .ref (z 16), .ref (z 17), .ref (z 18), .ref (z 19), .int 0, .int 0, .int 0, .int 0, .ref (z 24), .ref (z 25), .ref (z 26), .ref (z 27), .ref (z 28), .ref (z 29), .ref (z 30), .ref (z 31), .ref (z 32), .ref (z 33), .ref (z 34), .ref (z 35), .ref (z 36), .ref (z 37), .ref (z 38), .ref (z 39), .ref (z 40), .ref (z 41), .ref (z 42), .ref (z 43), .ref (z 44), .ref (z 45), .ref (z 46), .int 0, .ref (z 48), .ref (z 49), .ref (z 50), .ref (z 51), .int 0, .ref (z 53), .ref (z 54), .ref (z 55), .ref (z 56), .int 0])), (z 9, .inl (cy 1, 12, .inl (fun _ => 0))), (z 10, .inl (cy 0, 12, .inl (fun _ => 0))), (z 11, .inl (cy 0, 40, .inl (fun _ => 0))), (z 12, .inl (cy 1, 40, .inl (fun _ => 0))), (z 14, .inl (cy 0, 40, .inl (fun _ => 0))), (z 15, .inl (cy 0, 40, .inl (fun _ => 0))), (z 24, .inl (cy 0, 20, .inl (fun _ => 0))), (z 25, .inl (cy 0, 20, .inl (fun _ => 0))), (z 26, .inl (cy 1, 20, .inl (fun _ => 0))), (z 28, .inl (cy 0, 20, .inl (fun _ => 0))), (z 42, .inl (cy 0, 4, .inl (upd (upd (upd (upd (fun _ => 0) 0 (-1)) 1 (-1)) 2 (-1)) 3 (-1)))), (z 44, .inl (cy 0, 4, .inl (fun _ => 0))), (z 45, .inl (cy 0, 3, .inl (upd (upd (upd (fun _ => 0) 0 (-1)) 1 (-1)) 2 (-1)))), (z 53, .inl (cy 0, 30, .inl (upd (fun _ => 0) 0 a))), (z 54, .inl (cy 0, 30, .inl (upd (fun _ => 0) 0 k))), (z 55, .inl (cy 0, 30, .inl (fun _ => 0)))]) := hD
            refine lv_aload_n hx hb dX10_mishap_94 rfl (lv_at hl 1 rfl) ?_
            refine va_get (D := D) (ci := 10) (v := .ref (z 55)) (C := RX10) (T := TX10) (N := 58) hx hb hts iX10_mishap_10 hown hK hP 0 rfl rfl 55 (by decide) (hts (.fieldLink RX10 144 "FondsRoomModel" "mWho" "[I") (by decide +kernel)) (fun _ h9 => h9) rfl dX10_mishap_95 ?_
            refine lv_aload_n hx hb dX10_mishap_98 rfl (lv_at hl 1 rfl) ?_
            refine va_get (D := D) (ci := 10) (v := .int 0) (C := RX10) (T := TX10) (N := 58) hx hb hts iX10_mishap_10 hown hK hP 0 rfl rfl 52 (by decide) (hts (.fieldLink RX10 183 "FondsRoomModel" "mishaps" "I") (by decide +kernel)) (fun _ h9 => h9) rfl dX10_mishap_99 ?_
            refine lv_iload_n hx hb dX10_mishap_102 rfl (lv_at hl 4 rfl) ?_
            refine va_iast hx hb hK hP hD hS 16 0 rfl rfl (vp_in_iff.mpr (by decide)) dX10_mishap_103 (fun H locs hP hD hS => ?_)
            have hP : va_P D vwCl ([(z 58, .inr (10, [.int 0, .int 0, .int 0, .int 0, .int 0, .int (-1), .int 2, .int 2, .int 1, .ref (z 9), .ref (z 10), .ref (z 11), .ref (z 12), .ref (z 13), .ref (z 14), .ref (z 15), .ref (z 16), .ref (z 17), .ref (z 18), .ref (z 19), .int 0, .int 0, .int 0, .int 0, .ref (z 24), .ref (z 25), .ref (z 26), .ref (z 27), .ref (z 28), .ref (z 29), .ref (z 30), .ref (z 31), .ref (z 32), .ref (z 33), .ref (z 34), .ref (z 35), .ref (z 36), .ref (z 37), .ref (z 38), .ref (z 39), .ref (z 40), .ref (z 41), .ref (z 42), .ref (z 43), .ref (z 44), .ref (z 45), .ref (z 46), .int 0, .ref (z 48), .ref (z 49), .ref (z 50), .ref (z 51), .int 0, .ref (z 53), .ref (z 54), .ref (z 55), .ref (z 56), .int 0])), (z 9, .inl (cy 1, 12, .inl (fun _ => 0))), (z 10, .inl (cy 0, 12, .inl (fun _ => 0))), (z 11, .inl (cy 0, 40, .inl (fun _ => 0))), (z 12, .inl (cy 1, 40, .inl (fun _ => 0))), (z 14, .inl (cy 0, 40, .inl (fun _ => 0))), (z 15, .inl (cy 0, 40, .inl (fun _ => 0))), (z 24, .inl (cy 0, 20, .inl (fun _ => 0))), (z 25, .inl (cy 0, 20, .inl (fun _ => 0))), (z 26, .inl (cy 1, 20, .inl (fun _ => 0))), (z 28, .inl (cy 0, 20, .inl (fun _ => 0))), (z 42, .inl (cy 0, 4, .inl (upd (upd (upd (upd (fun _ => 0) 0 (-1)) 1 (-1)) 2 (-1)) 3 (-1)))), (z 44, .inl (cy 0, 4, .inl (fun _ => 0))), (z 45, .inl (cy 0, 3, .inl (upd (upd (upd (fun _ => 0) 0 (-1)) 1 (-1)) 2 (-1)))), (z 53, .inl (cy 0, 30, .inl (upd (fun _ => 0) 0 a))), (z 54, .inl (cy 0, 30, .inl (upd (fun _ => 0) 0 k))), (z 55, .inl (cy 0, 30, .inl (upd (fun _ => 0) 0 n)))]) H := hP
            have hD : va_D _ ([(z 58, .inr (10, [.int 0, .int 0, .int 0, .int 0, .int 0, .int (-1), .int 2, .int 2, .int 1, .ref (z 9), .ref (z 10), .ref (z 11), .ref (z 12), .ref (z 13), .ref (z 14), .ref (z 15), .ref (z 16), .ref (z 17), .ref (z 18), .ref (z 19), .int 0, .int 0, .int 0, .int 0, .ref (z 24), .ref (z 25), .ref (z 26), .ref (z 27), .ref (z 28), .ref (z 29), .ref (z 30), .ref (z 31), .ref (z 32), .ref (z 33), .ref (z 34), .ref (z 35), .ref (z 36), .ref (z 37), .ref (z 38), .ref (z 39), .ref (z 40), .ref (z 41), .ref (z 42), .ref (z 43), .ref (z 44), .ref (z 45), .ref (z 46), .int 0, .ref (z 48), .ref (z 49), .ref (z 50), .ref (z 51), .int 0, .ref (z 53), .ref (z 54), .ref (z 55), .ref (z 56), .int 0])), (z 9, .inl (cy 1, 12, .inl (fun _ => 0))), (z 10, .inl (cy 0, 12, .inl (fun _ => 0))), (z 11, .inl (cy 0, 40, .inl (fun _ => 0))), (z 12, .inl (cy 1, 40, .inl (fun _ => 0))), (z 14, .inl (cy 0, 40, .inl (fun _ => 0))), (z 15, .inl (cy 0, 40, .inl (fun _ => 0))), (z 24, .inl (cy 0, 20, .inl (fun _ => 0))), (z 25, .inl (cy 0, 20, .inl (fun _ => 0))), (z 26, .inl (cy 1, 20, .inl (fun _ => 0))), (z 28, .inl (cy 0, 20, .inl (fun _ => 0))), (z 42, .inl (cy 0, 4, .inl (upd (upd (upd (upd (fun _ => 0) 0 (-1)) 1 (-1)) 2 (-1)) 3 (-1)))), (z 44, .inl (cy 0, 4, .inl (fun _ => 0))), (z 45, .inl (cy 0, 3, .inl (upd (upd (upd (fun _ => 0) 0 (-1)) 1 (-1)) 2 (-1)))), (z 53, .inl (cy 0, 30, .inl (upd (fun _ => 0) 0 a))), (z 54, .inl (cy 0, 30, .inl (upd (fun _ => 0) 0 k))), (z 55, .inl (cy 0, 30, .inl (upd (fun _ => 0) 0 n)))]) := hD
            refine lv_aload_n hx hb dX10_mishap_104 rfl (lv_at hl 1 rfl) ?_
            refine lv_dup hx hb dX10_mishap_105 rfl ?_
            refine va_get (D := D) (ci := 10) (v := .int 0) (C := RX10) (T := TX10) (N := 58) hx hb hts iX10_mishap_10 hown hK hP 0 rfl rfl 52 (by decide) (hts (.fieldLink RX10 183 "FondsRoomModel" "mishaps" "I") (by decide +kernel)) (fun _ h9 => h9) rfl dX10_mishap_106 ?_
            refine lv_iconst (v := 1) hx hb dX10_mishap_109 (by decide) ?_
            refine lv_iadd hx hb dX10_mishap_110 ?_
            refine lv_topi (fun y11 ey11 => ?_)
            obtain rfl : y11 = 1 := ey11.trans (by decide)
            refine va_put (D := D) (ci := 10) (v := .int 1) (ty := .int) (C := RX10) (T := TX10) (N := 58) hx hb hts iX10_mishap_10 tyX10 tyX10_ok nmX10 hown hK hP hD hS 0 rfl rfl 52 (by decide) (hts (.fieldLink RX10 183 "FondsRoomModel" "mishaps" "I") (by decide +kernel)) (fun _ h9 => h9) rfl (by decide +kernel) rfl rfl (Nat.le_of_ble_eq_true rfl) dX10_mishap_111 (fun H locs hP hD hS => ?_)
            have hP : va_P D vwCl ([(z 58, .inr (10, [.int 0, .int 0, .int 0, .int 0, .int 0, .int (-1), .int 2, .int 2, .int 1, .ref (z 9), .ref (z 10), .ref (z 11), .ref (z 12), .ref (z 13), .ref (z 14), .ref (z 15), .ref (z 16), .ref (z 17), .ref (z 18), .ref (z 19), .int 0, .int 0, .int 0, .int 0, .ref (z 24), .ref (z 25), .ref (z 26), .ref (z 27), .ref (z 28), .ref (z 29), .ref (z 30), .ref (z 31), .ref (z 32), .ref (z 33), .ref (z 34), .ref (z 35), .ref (z 36), .ref (z 37), .ref (z 38), .ref (z 39), .ref (z 40), .ref (z 41), .ref (z 42), .ref (z 43), .ref (z 44), .ref (z 45), .ref (z 46), .int 0, .ref (z 48), .ref (z 49), .ref (z 50), .ref (z 51), .int 1, .ref (z 53), .ref (z 54), .ref (z 55), .ref (z 56), .int 0])), (z 9, .inl (cy 1, 12, .inl (fun _ => 0))), (z 10, .inl (cy 0, 12, .inl (fun _ => 0))), (z 11, .inl (cy 0, 40, .inl (fun _ => 0))), (z 12, .inl (cy 1, 40, .inl (fun _ => 0))), (z 14, .inl (cy 0, 40, .inl (fun _ => 0))), (z 15, .inl (cy 0, 40, .inl (fun _ => 0))), (z 24, .inl (cy 0, 20, .inl (fun _ => 0))), (z 25, .inl (cy 0, 20, .inl (fun _ => 0))), (z 26, .inl (cy 1, 20, .inl (fun _ => 0))), (z 28, .inl (cy 0, 20, .inl (fun _ => 0))), (z 42, .inl (cy 0, 4, .inl (upd (upd (upd (upd (fun _ => 0) 0 (-1)) 1 (-1)) 2 (-1)) 3 (-1)))), (z 44, .inl (cy 0, 4, .inl (fun _ => 0))), (z 45, .inl (cy 0, 3, .inl (upd (upd (upd (fun _ => 0) 0 (-1)) 1 (-1)) 2 (-1)))), (z 53, .inl (cy 0, 30, .inl (upd (fun _ => 0) 0 a))), (z 54, .inl (cy 0, 30, .inl (upd (fun _ => 0) 0 k))), (z 55, .inl (cy 0, 30, .inl (upd (fun _ => 0) 0 n)))]) H := hP
            have hD : va_D _ ([(z 58, .inr (10, [.int 0, .int 0, .int 0, .int 0, .int 0, .int (-1), .int 2, .int 2, .int 1, .ref (z 9), .ref (z 10), .ref (z 11), .ref (z 12), .ref (z 13), .ref (z 14), .ref (z 15), .ref (z 16), .ref (z 17), .ref (z 18), .ref (z 19), .int 0, .int 0, .int 0, .int 0, .ref (z 24), .ref (z 25), .ref (z 26), .ref (z 27), .ref (z 28), .ref (z 29), .ref (z 30), .ref (z 31), .ref (z 32), .ref (z 33), .ref (z 34), .ref (z 35), .ref (z 36), .ref (z 37), .ref (z 38), .ref (z 39), .ref (z 40), .ref (z 41), .ref (z 42), .ref (z 43), .ref (z 44), .ref (z 45), .ref (z 46), .int 0, .ref (z 48), .ref (z 49), .ref (z 50), .ref (z 51), .int 1, .ref (z 53), .ref (z 54), .ref (z 55), .ref (z 56), .int 0])), (z 9, .inl (cy 1, 12, .inl (fun _ => 0))), (z 10, .inl (cy 0, 12, .inl (fun _ => 0))), (z 11, .inl (cy 0, 40, .inl (fun _ => 0))), (z 12, .inl (cy 1, 40, .inl (fun _ => 0))), (z 14, .inl (cy 0, 40, .inl (fun _ => 0))), (z 15, .inl (cy 0, 40, .inl (fun _ => 0))), (z 24, .inl (cy 0, 20, .inl (fun _ => 0))), (z 25, .inl (cy 0, 20, .inl (fun _ => 0))), (z 26, .inl (cy 1, 20, .inl (fun _ => 0))), (z 28, .inl (cy 0, 20, .inl (fun _ => 0))), (z 42, .inl (cy 0, 4, .inl (upd (upd (upd (upd (fun _ => 0) 0 (-1)) 1 (-1)) 2 (-1)) 3 (-1)))), (z 44, .inl (cy 0, 4, .inl (fun _ => 0))), (z 45, .inl (cy 0, 3, .inl (upd (upd (upd (fun _ => 0) 0 (-1)) 1 (-1)) 2 (-1)))), (z 53, .inl (cy 0, 30, .inl (upd (fun _ => 0) 0 a))), (z 54, .inl (cy 0, 30, .inl (upd (fun _ => 0) 0 k))), (z 55, .inl (cy 0, 30, .inl (upd (fun _ => 0) 0 n)))]) := hD
            refine lv_iconst (v := 1) hx hb dX10_mishap_114 (by decide) ?_
            exact W.zret (v := 1) hx hb hr (rfl) (fun t ht hW => ⟨⟨1, (), rfl, (by simp (decide := true) [sp_mishap, sp_person, c1, c2, c3, c7, c10]), by rw [ht]; exact P0, va_K.moved hW.alike hK, D0⟩, hS.F ht⟩) hS.2.2 dX10_mishap_115
    · skip
      refine lv_aload_n hx hb dX10_mishap_21 rfl (lv_at hl 0 rfl) ?_
      refine va_get (D := D) (ci := 10) (v := .int 2) (C := RX10) (T := TX10) (N := 58) hx hb hts iX10_mishap_10 hown hK hP 0 rfl rfl 7 (by decide) (hts (.fieldLink RX10 16 "FondsRoomModel" "fetchers" "I") (by decide +kernel)) (fun _ h9 => h9) rfl dX10_mishap_22 ?_
      refine lv_goto (tgt := 41) hx hb dX10_mishap_25 (by decide) ?_
      refine lv_istore (lv' := [(4, .int 2), (0, .ref (z 58)), (1, .int a), (2, .int k), (3, .int n)]) hx hb dX10_mishap_41 hl (by decide) rfl (fun ls hl => ?_)
      refine lv_iload_n hx hb dX10_mishap_43 rfl (lv_at hl 2 rfl) ?_
      refine lv_aload_n hx hb dX10_mishap_44 rfl (lv_at hl 1 rfl) ?_
      refine va_get (D := D) (ci := 10) (v := .int 0) (C := RX10) (T := TX10) (N := 58) hx hb hts iX10_mishap_10 hown hK hP 0 rfl rfl 4 (by decide) (hts (.fieldLink RX10 163 "FondsRoomModel" "turn" "I") (by decide +kernel)) (fun _ h9 => h9) rfl dX10_mishap_45 ?_
      refine lv_icmp_le (tgt := 72) hx hb dX10_mishap_48 (by decide) (fun c12 => ?_) (fun c12 => ?_)
      · skip
        refine lv_iconst (v := 0) hx hb dX10_mishap_72 (by decide) ?_
        exact W.zret (v := 0) hx hb hr (rfl) (fun t ht hW => ⟨⟨0, (), rfl, (by simp (decide := true) [sp_mishap, sp_person, c1, c2, c12]), by rw [ht]; exact P0, va_K.moved hW.alike hK, D0⟩, hS.F ht⟩) hS.2.2 dX10_mishap_73
      · skip
        refine lv_iload_n hx hb dX10_mishap_51 rfl (lv_at hl 4 rfl) ?_
        refine lv_iconst (v := 0) hx hb dX10_mishap_52 (by decide) ?_
        refine lv_iload hx hb dX10_mishap_53 (lv_at hl 0 rfl) ?_
        refine lv_iconst (v := 1) hx hb dX10_mishap_55 (by decide) ?_
        refine lv_isub hx hb dX10_mishap_56 ?_
        refine lv_topi (fun y13 ey13 => ?_)
        obtain rfl : y13 = 1 := ey13.trans (by decide)
        refine csI (As := [.int n, .int 0, .int 1]) (rest := []) ⟨hx, hb, hml, hown, hts⟩ (mX10_in l D _ n 0 1) (va_cwS 3 hts gX10_mishap_X10_in rfl rfl rfl (by decide +kernel) ⟨Nat.le_of_ble_eq_true rfl, Nat.le_of_ble_eq_true rfl⟩) hK hP hS hA rfl hl.1 rfl (Nat.le_of_ble_eq_true rfl) dX10_mishap_57 ⟨Nat.le_of_ble_eq_true rfl, Nat.le_of_ble_eq_true rfl⟩ (fun r14 H locs hr14 hP hS => ?_)
        obtain rfl : r14 = sp_in n 0 1 := hr14
        refine lv_if_eq (tgt := 72) hx hb dX10_mishap_60 (by decide) (fun c15 => ?_) (fun c15 => ?_)
        · skip
          refine lv_iconst (v := 0) hx hb dX10_mishap_72 (by decide) ?_
          exact W.zret (v := 0) hx hb hr (rfl) (fun t ht hW => ⟨⟨0, (), rfl, (by simp (decide := true) [sp_mishap, sp_person, c1, c2, c12, c15]), by rw [ht]; exact P0, va_K.moved hW.alike hK, D0⟩, hS.F ht⟩) hS.2.2 dX10_mishap_73
        · skip
          refine lv_aload_n hx hb dX10_mishap_63 rfl (lv_at hl 1 rfl) ?_
          refine va_get (D := D) (ci := 10) (v := .int 0) (C := RX10) (T := TX10) (N := 58) hx hb hts iX10_mishap_10 hown hK hP 0 rfl rfl 52 (by decide) (hts (.fieldLink RX10 183 "FondsRoomModel" "mishaps" "I") (by decide +kernel)) (fun _ h9 => h9) rfl dX10_mishap_64 ?_
          refine lv_bipush (v := 30) hx hb dX10_mishap_67 (by decide) ?_
          refine lv_icmp_ne (tgt := 74) hx hb dX10_mishap_69 (by decide) (fun _ => ?_) (fun c9 => absurd c9 (by decide))
          refine lv_aload_n hx hb dX10_mishap_74 rfl (lv_at hl 1 rfl) ?_
          refine va_get (D := D) (ci := 10) (v := .ref (z 53)) (C := RX10) (T := TX10) (N := 58) hx hb hts iX10_mishap_10 hown hK hP 0 rfl rfl 53 (by decide) (hts (.fieldLink RX10 138 "FondsRoomModel" "mTurn" "[I") (by decide +kernel)) (fun _ h9 => h9) rfl dX10_mishap_75 ?_
          refine lv_aload_n hx hb dX10_mishap_78 rfl (lv_at hl 1 rfl) ?_
          refine va_get (D := D) (ci := 10) (v := .int 0) (C := RX10) (T := TX10) (N := 58) hx hb hts iX10_mishap_10 hown hK hP 0 rfl rfl 52 (by decide) (hts (.fieldLink RX10 183 "FondsRoomModel" "mishaps" "I") (by decide +kernel)) (fun _ h9 => h9) rfl dX10_mishap_79 ?_
          refine lv_iload_n hx hb dX10_mishap_82 rfl (lv_at hl 2 rfl) ?_
          refine va_iast hx hb hK hP hD hS 14 0 rfl rfl (vp_in_iff.mpr (by decide)) dX10_mishap_83 (fun H locs hP hD hS => ?_)
          have hP : va_P D vwCl ([(z 58, .inr (10, [.int 0, .int 0, .int 0, .int 0, .int 0, .int (-1), .int 2, .int 2, .int 1, .ref (z 9), .ref (z 10), .ref (z 11), .ref (z 12), .ref (z 13), .ref (z 14), .ref (z 15), .ref (z 16), .ref (z 17), .ref (z 18), .ref (z 19), .int 0, .int 0, .int 0, .int 0, .ref (z 24), .ref (z 25), .ref (z 26), .ref (z 27), .ref (z 28), .ref (z 29), .ref (z 30), .ref (z 31), .ref (z 32), .ref (z 33), .ref (z 34), .ref (z 35), .ref (z 36), .ref (z 37), .ref (z 38), .ref (z 39), .ref (z 40), .ref (z 41), .ref (z 42), .ref (z 43), .ref (z 44), .ref (z 45), .ref (z 46), .int 0, .ref (z 48), .ref (z 49), .ref (z 50), .ref (z 51), .int 0, .ref (z 53), .ref (z 54), .ref (z 55), .ref (z 56), .int 0])), (z 9, .inl (cy 1, 12, .inl (fun _ => 0))), (z 10, .inl (cy 0, 12, .inl (fun _ => 0))), (z 11, .inl (cy 0, 40, .inl (fun _ => 0))), (z 12, .inl (cy 1, 40, .inl (fun _ => 0))), (z 14, .inl (cy 0, 40, .inl (fun _ => 0))), (z 15, .inl (cy 0, 40, .inl (fun _ => 0))), (z 24, .inl (cy 0, 20, .inl (fun _ => 0))), (z 25, .inl (cy 0, 20, .inl (fun _ => 0))), (z 26, .inl (cy 1, 20, .inl (fun _ => 0))), (z 28, .inl (cy 0, 20, .inl (fun _ => 0))), (z 42, .inl (cy 0, 4, .inl (upd (upd (upd (upd (fun _ => 0) 0 (-1)) 1 (-1)) 2 (-1)) 3 (-1)))), (z 44, .inl (cy 0, 4, .inl (fun _ => 0))), (z 45, .inl (cy 0, 3, .inl (upd (upd (upd (fun _ => 0) 0 (-1)) 1 (-1)) 2 (-1)))), (z 53, .inl (cy 0, 30, .inl (upd (fun _ => 0) 0 a))), (z 54, .inl (cy 0, 30, .inl (fun _ => 0))), (z 55, .inl (cy 0, 30, .inl (fun _ => 0)))]) H := hP
          have hD : va_D _ ([(z 58, .inr (10, [.int 0, .int 0, .int 0, .int 0, .int 0, .int (-1), .int 2, .int 2, .int 1, .ref (z 9), .ref (z 10), .ref (z 11), .ref (z 12), .ref (z 13), .ref (z 14), .ref (z 15), .ref (z 16), .ref (z 17), .ref (z 18), .ref (z 19), .int 0, .int 0, .int 0, .int 0, .ref (z 24), .ref (z 25), .ref (z 26), .ref (z 27), .ref (z 28), .ref (z 29), .ref (z 30), .ref (z 31), .ref (z 32), .ref (z 33), .ref (z 34), .ref (z 35), .ref (z 36), .ref (z 37), .ref (z 38), .ref (z 39), .ref (z 40), .ref (z 41), .ref (z 42), .ref (z 43), .ref (z 44), .ref (z 45), .ref (z 46), .int 0, .ref (z 48), .ref (z 49), .ref (z 50), .ref (z 51), .int 0, .ref (z 53), .ref (z 54), .ref (z 55), .ref (z 56), .int 0])), (z 9, .inl (cy 1, 12, .inl (fun _ => 0))), (z 10, .inl (cy 0, 12, .inl (fun _ => 0))), (z 11, .inl (cy 0, 40, .inl (fun _ => 0))), (z 12, .inl (cy 1, 40, .inl (fun _ => 0))), (z 14, .inl (cy 0, 40, .inl (fun _ => 0))), (z 15, .inl (cy 0, 40, .inl (fun _ => 0))), (z 24, .inl (cy 0, 20, .inl (fun _ => 0))), (z 25, .inl (cy 0, 20, .inl (fun _ => 0))), (z 26, .inl (cy 1, 20, .inl (fun _ => 0))), (z 28, .inl (cy 0, 20, .inl (fun _ => 0))), (z 42, .inl (cy 0, 4, .inl (upd (upd (upd (upd (fun _ => 0) 0 (-1)) 1 (-1)) 2 (-1)) 3 (-1)))), (z 44, .inl (cy 0, 4, .inl (fun _ => 0))), (z 45, .inl (cy 0, 3, .inl (upd (upd (upd (fun _ => 0) 0 (-1)) 1 (-1)) 2 (-1)))), (z 53, .inl (cy 0, 30, .inl (upd (fun _ => 0) 0 a))), (z 54, .inl (cy 0, 30, .inl (fun _ => 0))), (z 55, .inl (cy 0, 30, .inl (fun _ => 0)))]) := hD
          refine lv_aload_n hx hb dX10_mishap_84 rfl (lv_at hl 1 rfl) ?_
          refine va_get (D := D) (ci := 10) (v := .ref (z 54)) (C := RX10) (T := TX10) (N := 58) hx hb hts iX10_mishap_10 hown hK hP 0 rfl rfl 54 (by decide) (hts (.fieldLink RX10 141 "FondsRoomModel" "mKind" "[I") (by decide +kernel)) (fun _ h9 => h9) rfl dX10_mishap_85 ?_
          refine lv_aload_n hx hb dX10_mishap_88 rfl (lv_at hl 1 rfl) ?_
          refine va_get (D := D) (ci := 10) (v := .int 0) (C := RX10) (T := TX10) (N := 58) hx hb hts iX10_mishap_10 hown hK hP 0 rfl rfl 52 (by decide) (hts (.fieldLink RX10 183 "FondsRoomModel" "mishaps" "I") (by decide +kernel)) (fun _ h9 => h9) rfl dX10_mishap_89 ?_
          refine lv_iload_n hx hb dX10_mishap_92 rfl (lv_at hl 3 rfl) ?_
          refine va_iast hx hb hK hP hD hS 15 0 rfl rfl (vp_in_iff.mpr (by decide)) dX10_mishap_93 (fun H locs hP hD hS => ?_)
          have hP : va_P D vwCl ([(z 58, .inr (10, [.int 0, .int 0, .int 0, .int 0, .int 0, .int (-1), .int 2, .int 2, .int 1, .ref (z 9), .ref (z 10), .ref (z 11), .ref (z 12), .ref (z 13), .ref (z 14), .ref (z 15), .ref (z 16), .ref (z 17), .ref (z 18), .ref (z 19), .int 0, .int 0, .int 0, .int 0, .ref (z 24), .ref (z 25), .ref (z 26), .ref (z 27), .ref (z 28), .ref (z 29), .ref (z 30), .ref (z 31), .ref (z 32), .ref (z 33), .ref (z 34), .ref (z 35), .ref (z 36), .ref (z 37), .ref (z 38), .ref (z 39), .ref (z 40), .ref (z 41), .ref (z 42), .ref (z 43), .ref (z 44), .ref (z 45), .ref (z 46), .int 0, .ref (z 48), .ref (z 49), .ref (z 50), .ref (z 51), .int 0, .ref (z 53), .ref (z 54), .ref (z 55), .ref (z 56), .int 0])), (z 9, .inl (cy 1, 12, .inl (fun _ => 0))), (z 10, .inl (cy 0, 12, .inl (fun _ => 0))), (z 11, .inl (cy 0, 40, .inl (fun _ => 0))), (z 12, .inl (cy 1, 40, .inl (fun _ => 0))), (z 14, .inl (cy 0, 40, .inl (fun _ => 0))), (z 15, .inl (cy 0, 40, .inl (fun _ => 0))), (z 24, .inl (cy 0, 20, .inl (fun _ => 0))), (z 25, .inl (cy 0, 20, .inl (fun _ => 0))), (z 26, .inl (cy 1, 20, .inl (fun _ => 0))), (z 28, .inl (cy 0, 20, .inl (fun _ => 0))), (z 42, .inl (cy 0, 4, .inl (upd (upd (upd (upd (fun _ => 0) 0 (-1)) 1 (-1)) 2 (-1)) 3 (-1)))), (z 44, .inl (cy 0, 4, .inl (fun _ => 0))), (z 45, .inl (cy 0, 3, .inl (upd (upd (upd (fun _ => 0) 0 (-1)) 1 (-1)) 2 (-1)))), (z 53, .inl (cy 0, 30, .inl (upd (fun _ => 0) 0 a))), (z 54, .inl (cy 0, 30, .inl (upd (fun _ => 0) 0 k))), (z 55, .inl (cy 0, 30, .inl (fun _ => 0)))]) H := hP
          have hD : va_D _ ([(z 58, .inr (10, [.int 0, .int 0, .int 0, .int 0, .int 0, .int (-1), .int 2, .int 2, .int 1, .ref (z 9), .ref (z 10), .ref (z 11), .ref (z 12), .ref (z 13), .ref (z 14), .ref (z 15), .ref (z 16), .ref (z 17), .ref (z 18), .ref (z 19), .int 0, .int 0, .int 0, .int 0, .ref (z 24), .ref (z 25), .ref (z 26), .ref (z 27), .ref (z 28), .ref (z 29), .ref (z 30), .ref (z 31), .ref (z 32), .ref (z 33), .ref (z 34), .ref (z 35), .ref (z 36), .ref (z 37), .ref (z 38), .ref (z 39), .ref (z 40), .ref (z 41), .ref (z 42), .ref (z 43), .ref (z 44), .ref (z 45), .ref (z 46), .int 0, .ref (z 48), .ref (z 49), .ref (z 50), .ref (z 51), .int 0, .ref (z 53), .ref (z 54), .ref (z 55), .ref (z 56), .int 0])), (z 9, .inl (cy 1, 12, .inl (fun _ => 0))), (z 10, .inl (cy 0, 12, .inl (fun _ => 0))), (z 11, .inl (cy 0, 40, .inl (fun _ => 0))), (z 12, .inl (cy 1, 40, .inl (fun _ => 0))), (z 14, .inl (cy 0, 40, .inl (fun _ => 0))), (z 15, .inl (cy 0, 40, .inl (fun _ => 0))), (z 24, .inl (cy 0, 20, .inl (fun _ => 0))), (z 25, .inl (cy 0, 20, .inl (fun _ => 0))), (z 26, .inl (cy 1, 20, .inl (fun _ => 0))), (z 28, .inl (cy 0, 20, .inl (fun _ => 0))), (z 42, .inl (cy 0, 4, .inl (upd (upd (upd (upd (fun _ => 0) 0 (-1)) 1 (-1)) 2 (-1)) 3 (-1)))), (z 44, .inl (cy 0, 4, .inl (fun _ => 0))), (z 45, .inl (cy 0, 3, .inl (upd (upd (upd (fun _ => 0) 0 (-1)) 1 (-1)) 2 (-1)))), (z 53, .inl (cy 0, 30, .inl (upd (fun _ => 0) 0 a))), (z 54, .inl (cy 0, 30, .inl (upd (fun _ => 0) 0 k))), (z 55, .inl (cy 0, 30, .inl (fun _ => 0)))]) := hD
          refine lv_aload_n hx hb dX10_mishap_94 rfl (lv_at hl 1 rfl) ?_
          refine va_get (D := D) (ci := 10) (v := .ref (z 55)) (C := RX10) (T := TX10) (N := 58) hx hb hts iX10_mishap_10 hown hK hP 0 rfl rfl 55 (by decide) (hts (.fieldLink RX10 144 "FondsRoomModel" "mWho" "[I") (by decide +kernel)) (fun _ h9 => h9) rfl dX10_mishap_95 ?_
          refine lv_aload_n hx hb dX10_mishap_98 rfl (lv_at hl 1 rfl) ?_
          refine va_get (D := D) (ci := 10) (v := .int 0) (C := RX10) (T := TX10) (N := 58) hx hb hts iX10_mishap_10 hown hK hP 0 rfl rfl 52 (by decide) (hts (.fieldLink RX10 183 "FondsRoomModel" "mishaps" "I") (by decide +kernel)) (fun _ h9 => h9) rfl dX10_mishap_99 ?_
          refine lv_iload_n hx hb dX10_mishap_102 rfl (lv_at hl 4 rfl) ?_
          refine va_iast hx hb hK hP hD hS 16 0 rfl rfl (vp_in_iff.mpr (by decide)) dX10_mishap_103 (fun H locs hP hD hS => ?_)
          have hP : va_P D vwCl ([(z 58, .inr (10, [.int 0, .int 0, .int 0, .int 0, .int 0, .int (-1), .int 2, .int 2, .int 1, .ref (z 9), .ref (z 10), .ref (z 11), .ref (z 12), .ref (z 13), .ref (z 14), .ref (z 15), .ref (z 16), .ref (z 17), .ref (z 18), .ref (z 19), .int 0, .int 0, .int 0, .int 0, .ref (z 24), .ref (z 25), .ref (z 26), .ref (z 27), .ref (z 28), .ref (z 29), .ref (z 30), .ref (z 31), .ref (z 32), .ref (z 33), .ref (z 34), .ref (z 35), .ref (z 36), .ref (z 37), .ref (z 38), .ref (z 39), .ref (z 40), .ref (z 41), .ref (z 42), .ref (z 43), .ref (z 44), .ref (z 45), .ref (z 46), .int 0, .ref (z 48), .ref (z 49), .ref (z 50), .ref (z 51), .int 0, .ref (z 53), .ref (z 54), .ref (z 55), .ref (z 56), .int 0])), (z 9, .inl (cy 1, 12, .inl (fun _ => 0))), (z 10, .inl (cy 0, 12, .inl (fun _ => 0))), (z 11, .inl (cy 0, 40, .inl (fun _ => 0))), (z 12, .inl (cy 1, 40, .inl (fun _ => 0))), (z 14, .inl (cy 0, 40, .inl (fun _ => 0))), (z 15, .inl (cy 0, 40, .inl (fun _ => 0))), (z 24, .inl (cy 0, 20, .inl (fun _ => 0))), (z 25, .inl (cy 0, 20, .inl (fun _ => 0))), (z 26, .inl (cy 1, 20, .inl (fun _ => 0))), (z 28, .inl (cy 0, 20, .inl (fun _ => 0))), (z 42, .inl (cy 0, 4, .inl (upd (upd (upd (upd (fun _ => 0) 0 (-1)) 1 (-1)) 2 (-1)) 3 (-1)))), (z 44, .inl (cy 0, 4, .inl (fun _ => 0))), (z 45, .inl (cy 0, 3, .inl (upd (upd (upd (fun _ => 0) 0 (-1)) 1 (-1)) 2 (-1)))), (z 53, .inl (cy 0, 30, .inl (upd (fun _ => 0) 0 a))), (z 54, .inl (cy 0, 30, .inl (upd (fun _ => 0) 0 k))), (z 55, .inl (cy 0, 30, .inl (upd (fun _ => 0) 0 n)))]) H := hP
          have hD : va_D _ ([(z 58, .inr (10, [.int 0, .int 0, .int 0, .int 0, .int 0, .int (-1), .int 2, .int 2, .int 1, .ref (z 9), .ref (z 10), .ref (z 11), .ref (z 12), .ref (z 13), .ref (z 14), .ref (z 15), .ref (z 16), .ref (z 17), .ref (z 18), .ref (z 19), .int 0, .int 0, .int 0, .int 0, .ref (z 24), .ref (z 25), .ref (z 26), .ref (z 27), .ref (z 28), .ref (z 29), .ref (z 30), .ref (z 31), .ref (z 32), .ref (z 33), .ref (z 34), .ref (z 35), .ref (z 36), .ref (z 37), .ref (z 38), .ref (z 39), .ref (z 40), .ref (z 41), .ref (z 42), .ref (z 43), .ref (z 44), .ref (z 45), .ref (z 46), .int 0, .ref (z 48), .ref (z 49), .ref (z 50), .ref (z 51), .int 0, .ref (z 53), .ref (z 54), .ref (z 55), .ref (z 56), .int 0])), (z 9, .inl (cy 1, 12, .inl (fun _ => 0))), (z 10, .inl (cy 0, 12, .inl (fun _ => 0))), (z 11, .inl (cy 0, 40, .inl (fun _ => 0))), (z 12, .inl (cy 1, 40, .inl (fun _ => 0))), (z 14, .inl (cy 0, 40, .inl (fun _ => 0))), (z 15, .inl (cy 0, 40, .inl (fun _ => 0))), (z 24, .inl (cy 0, 20, .inl (fun _ => 0))), (z 25, .inl (cy 0, 20, .inl (fun _ => 0))), (z 26, .inl (cy 1, 20, .inl (fun _ => 0))), (z 28, .inl (cy 0, 20, .inl (fun _ => 0))), (z 42, .inl (cy 0, 4, .inl (upd (upd (upd (upd (fun _ => 0) 0 (-1)) 1 (-1)) 2 (-1)) 3 (-1)))), (z 44, .inl (cy 0, 4, .inl (fun _ => 0))), (z 45, .inl (cy 0, 3, .inl (upd (upd (upd (fun _ => 0) 0 (-1)) 1 (-1)) 2 (-1)))), (z 53, .inl (cy 0, 30, .inl (upd (fun _ => 0) 0 a))), (z 54, .inl (cy 0, 30, .inl (upd (fun _ => 0) 0 k))), (z 55, .inl (cy 0, 30, .inl (upd (fun _ => 0) 0 n)))]) := hD
          refine lv_aload_n hx hb dX10_mishap_104 rfl (lv_at hl 1 rfl) ?_
          refine lv_dup hx hb dX10_mishap_105 rfl ?_
          refine va_get (D := D) (ci := 10) (v := .int 0) (C := RX10) (T := TX10) (N := 58) hx hb hts iX10_mishap_10 hown hK hP 0 rfl rfl 52 (by decide) (hts (.fieldLink RX10 183 "FondsRoomModel" "mishaps" "I") (by decide +kernel)) (fun _ h9 => h9) rfl dX10_mishap_106 ?_
          refine lv_iconst (v := 1) hx hb dX10_mishap_109 (by decide) ?_
          refine lv_iadd hx hb dX10_mishap_110 ?_
          refine lv_topi (fun y16 ey16 => ?_)
          obtain rfl : y16 = 1 := ey16.trans (by decide)
          refine va_put (D := D) (ci := 10) (v := .int 1) (ty := .int) (C := RX10) (T := TX10) (N := 58) hx hb hts iX10_mishap_10 tyX10 tyX10_ok nmX10 hown hK hP hD hS 0 rfl rfl 52 (by decide) (hts (.fieldLink RX10 183 "FondsRoomModel" "mishaps" "I") (by decide +kernel)) (fun _ h9 => h9) rfl (by decide +kernel) rfl rfl (Nat.le_of_ble_eq_true rfl) dX10_mishap_111 (fun H locs hP hD hS => ?_)
          have hP : va_P D vwCl ([(z 58, .inr (10, [.int 0, .int 0, .int 0, .int 0, .int 0, .int (-1), .int 2, .int 2, .int 1, .ref (z 9), .ref (z 10), .ref (z 11), .ref (z 12), .ref (z 13), .ref (z 14), .ref (z 15), .ref (z 16), .ref (z 17), .ref (z 18), .ref (z 19), .int 0, .int 0, .int 0, .int 0, .ref (z 24), .ref (z 25), .ref (z 26), .ref (z 27), .ref (z 28), .ref (z 29), .ref (z 30), .ref (z 31), .ref (z 32), .ref (z 33), .ref (z 34), .ref (z 35), .ref (z 36), .ref (z 37), .ref (z 38), .ref (z 39), .ref (z 40), .ref (z 41), .ref (z 42), .ref (z 43), .ref (z 44), .ref (z 45), .ref (z 46), .int 0, .ref (z 48), .ref (z 49), .ref (z 50), .ref (z 51), .int 1, .ref (z 53), .ref (z 54), .ref (z 55), .ref (z 56), .int 0])), (z 9, .inl (cy 1, 12, .inl (fun _ => 0))), (z 10, .inl (cy 0, 12, .inl (fun _ => 0))), (z 11, .inl (cy 0, 40, .inl (fun _ => 0))), (z 12, .inl (cy 1, 40, .inl (fun _ => 0))), (z 14, .inl (cy 0, 40, .inl (fun _ => 0))), (z 15, .inl (cy 0, 40, .inl (fun _ => 0))), (z 24, .inl (cy 0, 20, .inl (fun _ => 0))), (z 25, .inl (cy 0, 20, .inl (fun _ => 0))), (z 26, .inl (cy 1, 20, .inl (fun _ => 0))), (z 28, .inl (cy 0, 20, .inl (fun _ => 0))), (z 42, .inl (cy 0, 4, .inl (upd (upd (upd (upd (fun _ => 0) 0 (-1)) 1 (-1)) 2 (-1)) 3 (-1)))), (z 44, .inl (cy 0, 4, .inl (fun _ => 0))), (z 45, .inl (cy 0, 3, .inl (upd (upd (upd (fun _ => 0) 0 (-1)) 1 (-1)) 2 (-1)))), (z 53, .inl (cy 0, 30, .inl (upd (fun _ => 0) 0 a))), (z 54, .inl (cy 0, 30, .inl (upd (fun _ => 0) 0 k))), (z 55, .inl (cy 0, 30, .inl (upd (fun _ => 0) 0 n)))]) H := hP
          have hD : va_D _ ([(z 58, .inr (10, [.int 0, .int 0, .int 0, .int 0, .int 0, .int (-1), .int 2, .int 2, .int 1, .ref (z 9), .ref (z 10), .ref (z 11), .ref (z 12), .ref (z 13), .ref (z 14), .ref (z 15), .ref (z 16), .ref (z 17), .ref (z 18), .ref (z 19), .int 0, .int 0, .int 0, .int 0, .ref (z 24), .ref (z 25), .ref (z 26), .ref (z 27), .ref (z 28), .ref (z 29), .ref (z 30), .ref (z 31), .ref (z 32), .ref (z 33), .ref (z 34), .ref (z 35), .ref (z 36), .ref (z 37), .ref (z 38), .ref (z 39), .ref (z 40), .ref (z 41), .ref (z 42), .ref (z 43), .ref (z 44), .ref (z 45), .ref (z 46), .int 0, .ref (z 48), .ref (z 49), .ref (z 50), .ref (z 51), .int 1, .ref (z 53), .ref (z 54), .ref (z 55), .ref (z 56), .int 0])), (z 9, .inl (cy 1, 12, .inl (fun _ => 0))), (z 10, .inl (cy 0, 12, .inl (fun _ => 0))), (z 11, .inl (cy 0, 40, .inl (fun _ => 0))), (z 12, .inl (cy 1, 40, .inl (fun _ => 0))), (z 14, .inl (cy 0, 40, .inl (fun _ => 0))), (z 15, .inl (cy 0, 40, .inl (fun _ => 0))), (z 24, .inl (cy 0, 20, .inl (fun _ => 0))), (z 25, .inl (cy 0, 20, .inl (fun _ => 0))), (z 26, .inl (cy 1, 20, .inl (fun _ => 0))), (z 28, .inl (cy 0, 20, .inl (fun _ => 0))), (z 42, .inl (cy 0, 4, .inl (upd (upd (upd (upd (fun _ => 0) 0 (-1)) 1 (-1)) 2 (-1)) 3 (-1)))), (z 44, .inl (cy 0, 4, .inl (fun _ => 0))), (z 45, .inl (cy 0, 3, .inl (upd (upd (upd (fun _ => 0) 0 (-1)) 1 (-1)) 2 (-1)))), (z 53, .inl (cy 0, 30, .inl (upd (fun _ => 0) 0 a))), (z 54, .inl (cy 0, 30, .inl (upd (fun _ => 0) 0 k))), (z 55, .inl (cy 0, 30, .inl (upd (fun _ => 0) 0 n)))]) := hD
          refine lv_iconst (v := 1) hx hb dX10_mishap_114 (by decide) ?_
          exact W.zret (v := 1) hx hb hr (rfl) (fun t ht hW => ⟨⟨1, (), rfl, (by simp (decide := true) [sp_mishap, sp_person, c1, c2, c12, c15]), by rw [ht]; exact P0, va_K.moved hW.alike hK, D0⟩, hS.F ht⟩) hS.2.2 dX10_mishap_115
  · skip
    refine lv_aload_n hx hb dX10_mishap_9 rfl (lv_at hl 0 rfl) ?_
    refine va_get (D := D) (ci := 10) (v := .int 0) (C := RX10) (T := TX10) (N := 58) hx hb hts iX10_mishap_10 hown hK hP 0 rfl rfl 3 (by decide) (hts (.fieldLink RX10 153 "FondsRoomModel" "readers" "I") (by decide +kernel)) (fun _ h9 => h9) rfl dX10_mishap_10 ?_
    refine lv_goto (tgt := 41) hx hb dX10_mishap_13 (by decide) ?_
    refine lv_istore (lv' := [(4, .int 0), (0, .ref (z 58)), (1, .int a), (2, .int k), (3, .int n)]) hx hb dX10_mishap_41 hl (by decide) rfl (fun ls hl => ?_)
    refine lv_iload_n hx hb dX10_mishap_43 rfl (lv_at hl 2 rfl) ?_
    refine lv_aload_n hx hb dX10_mishap_44 rfl (lv_at hl 1 rfl) ?_
    refine va_get (D := D) (ci := 10) (v := .int 0) (C := RX10) (T := TX10) (N := 58) hx hb hts iX10_mishap_10 hown hK hP 0 rfl rfl 4 (by decide) (hts (.fieldLink RX10 163 "FondsRoomModel" "turn" "I") (by decide +kernel)) (fun _ h9 => h9) rfl dX10_mishap_45 ?_
    refine lv_icmp_le (tgt := 72) hx hb dX10_mishap_48 (by decide) (fun c17 => ?_) (fun c17 => ?_)
    · skip
      refine lv_iconst (v := 0) hx hb dX10_mishap_72 (by decide) ?_
      exact W.zret (v := 0) hx hb hr (rfl) (fun t ht hW => ⟨⟨0, (), rfl, (by simp (decide := true) [sp_mishap, sp_person, c1, c17]), by rw [ht]; exact P0, va_K.moved hW.alike hK, D0⟩, hS.F ht⟩) hS.2.2 dX10_mishap_73
    · skip
      refine lv_iload_n hx hb dX10_mishap_51 rfl (lv_at hl 4 rfl) ?_
      refine lv_iconst (v := 0) hx hb dX10_mishap_52 (by decide) ?_
      refine lv_iload hx hb dX10_mishap_53 (lv_at hl 0 rfl) ?_
      refine lv_iconst (v := 1) hx hb dX10_mishap_55 (by decide) ?_
      refine lv_isub hx hb dX10_mishap_56 ?_
      refine lv_topi (fun y18 ey18 => ?_)
      obtain rfl : y18 = (-1) := ey18.trans (by decide)
      refine csI (As := [.int n, .int 0, .int (-1)]) (rest := []) ⟨hx, hb, hml, hown, hts⟩ (mX10_in l D _ n 0 (-1)) (va_cwS 3 hts gX10_mishap_X10_in rfl rfl rfl (by decide +kernel) ⟨Nat.le_of_ble_eq_true rfl, Nat.le_of_ble_eq_true rfl⟩) hK hP hS hA rfl hl.1 rfl (Nat.le_of_ble_eq_true rfl) dX10_mishap_57 ⟨Nat.le_of_ble_eq_true rfl, Nat.le_of_ble_eq_true rfl⟩ (fun r19 H locs hr19 hP hS => ?_)
      obtain rfl : r19 = sp_in n 0 (-1) := hr19
      refine lv_if_eq (tgt := 72) hx hb dX10_mishap_60 (by decide) (fun _ => ?_) (fun c9 => absurd (sp_in_m1 _) c9)
      refine lv_iconst (v := 0) hx hb dX10_mishap_72 (by decide) ?_
      exact W.zret (v := 0) hx hb hr (rfl) (fun t ht hW => ⟨⟨0, (), rfl, (by simp (decide := true) [sp_mishap, sp_person, c1, c17]), by rw [ht]; exact P0, va_K.moved hW.alike hK, D0⟩, hS.F ht⟩) hS.2.2 dX10_mishap_73

theorem iX10_about_10 : ∀ w ∈ wsX100, w ∈ wsX10_about := fun _ h => List.mem_cons_of_mem _ (List.mem_append_right _ h)
set_option maxHeartbeats 4000000 in
set_option maxRecDepth 100000 in
theorem mX10_about (l : Launch) (D : va_G) (z : Nat → Nat) (cy : Nat → ClassId) (sz : Nat) (r1 k : Int32) : Met l yX10_about wsX10_about ({ frames := 2, cells := 0, slots := 0, locals := 43 }) (PW D (TYS cy) (MW z cy 0) sz [.ref (z 58), .int r1, .int k]) (QI D (TYS cy) (MW z cy 0) (MW z cy 0) sz (fun r => r = (-1))) 0 0 (va_A (MW z cy 0) sz) := by
  refine Met.ofW (cc := cX10_about) (maxL := 3) (ret := (some .int)) (by decide) rfl ?_
  intro p e s m args below meth c s₁ B hml hv
  obtain ⟨rfl, hsz, hP, hK, hD0⟩ := hv
  have hx := B.exec
  have hb := B.bytes
  have hr := B.returns
  have hts := atoms_spec (ws := wsX10_about) B.pre
  have hown : s.vm.findClass RX10 = some m.cls := findClass_of_methodNamed B.named
  have hlocks := B.notSynchronized
  subst hsz
  have hD := hD0.self (sz := s.heap.size)
  have hA : ∀ q9 : Nat, s.heap.size ≤ q9 → va_A (MW z cy 0) s.heap.size q9 := fun q9 h => Or.inr h
  have hS : va_S (va_A (MW z cy 0) s.heap.size) s.heap s.heap [] := va_S.rf
  have hl := lv_entry ([.ref (z 58), .int r1, .int k]) (n := 3) (Nat.le_of_ble_eq_true rfl)
  rw [lg_entry_eq]
  generalize (lg_sl ([.ref (z 58), .int r1, .int k]) ++ List.replicate (3 - (lg_sl ([.ref (z 58), .int r1, .int k])).length) Slot.unset).toArray = ls at hl ⊢
  have hl : lv_has ls 3 [(0, .ref (z 58)), (1, .int r1), (2, .int k)] := hl
  refine lv_aload_n hx hb dX10_about_0 rfl (lv_at hl 0 rfl) ?_
  refine lv_iconst (v := 0) hx hb dX10_about_1 (by decide) ?_
  refine va_put (D := D) (ci := 10) (v := .int 0) (ty := .int) (C := RX10) (T := TX10) (N := 58) hx hb hts iX10_about_10 tyX10 tyX10_ok nmX10 hown hK hP hD hS 0 rfl rfl 0 (by decide) (hts (.fieldLink RX10 150 "FondsRoomModel" "thrown" "I") (by decide +kernel)) (fun _ h9 => h9) rfl (by decide +kernel) rfl rfl (Nat.le_of_ble_eq_true rfl) dX10_about_2 (fun H locs hP hD hS => ?_)
  have hP : va_P D vwCl (MW z cy 0) H := hP
  have hD : va_D _ (MW z cy 0) := hD
  refine lv_aload_n hx hb dX10_about_5 rfl (lv_at hl 0 rfl) ?_
  refine lv_iload_n hx hb dX10_about_6 rfl (lv_at hl 1 rfl) ?_
  refine cvI (wr := []) (As := [.int r1]) (rest := []) ⟨hx, hb, hml, hown, hts⟩ (mX10_isReader l D z cy 0 _ r1 ) (cwV 1 hts gX10_about_X10_isReader rfl rfl rfl (by decide +kernel) ⟨Nat.le_of_ble_eq_true rfl, Nat.le_of_ble_eq_true rfl⟩) hK hP hD hS hA [0, 1, 2, 3, 4, 5, 6, 7, 8, 9, 10, 11, 12, 13, 14, 15, 16] [] rfl rfl (by decide) (by decide) (by decide) 0 10 rfl rfl rfl hl.1 rfl (Nat.le_of_ble_eq_true rfl) dX10_about_7 ⟨Nat.le_of_ble_eq_true rfl, Nat.le_of_ble_eq_true rfl⟩ (fun r1 H locs hr1 hP hD hS => ?_)
  have hP : va_P D vwCl (MW z cy 0) H := hP
  have hD : va_D _ (MW z cy 0) := hD
  obtain rfl : r1 = 0 := hr1
  refine lv_if_ne (tgt := 15) hx hb dX10_about_10 (by decide) (fun c9 => absurd (by decide) c9) (fun _ => ?_)
  refine lv_iconst (v := (-1)) hx hb dX10_about_13 (by decide) ?_
  exact W.iret (v := (-1)) hx hb hr (fun t ht hW => ⟨⟨(-1), (), rfl, (by first | rfl | trivial | decide), by rw [ht]; exact hP, va_K.moved hW.alike hK, hD⟩, hS.F ht⟩) hS.2.2 dX10_about_14

theorem iX10_held_10 : ∀ w ∈ wsX100, w ∈ wsX10_held := fun _ h => List.mem_cons_of_mem _ (List.mem_append_right _ h)
set_option maxHeartbeats 4000000 in
set_option maxRecDepth 100000 in
theorem mX10_held (l : Launch) (D : va_G) (z : Nat → Nat) (cy : Nat → ClassId) (sz : Nat) (r1 k : Int32) : Met l yX10_held wsX10_held ({ frames := 2, cells := 0, slots := 0, locals := 43 }) (PW D (TYS cy) (MW z cy 0) sz [.ref (z 58), .int r1, .int k]) (QI D (TYS cy) (MW z cy 0) (MW z cy 0) sz (fun r => r = (-1))) 0 0 (va_A (MW z cy 0) sz) := by
  refine Met.ofW (cc := cX10_held) (maxL := 5) (ret := (some .int)) (by decide) rfl ?_
  intro p e s m args below meth c s₁ B hml hv
  obtain ⟨rfl, hsz, hP, hK, hD0⟩ := hv
  have hx := B.exec
  have hb := B.bytes
  have hr := B.returns
  have hts := atoms_spec (ws := wsX10_held) B.pre
  have hown : s.vm.findClass RX10 = some m.cls := findClass_of_methodNamed B.named
  have hlocks := B.notSynchronized
  subst hsz
  have hD := hD0.self (sz := s.heap.size)
  have hA : ∀ q9 : Nat, s.heap.size ≤ q9 → va_A (MW z cy 0) s.heap.size q9 := fun q9 h => Or.inr h
  have hS : va_S (va_A (MW z cy 0) s.heap.size) s.heap s.heap [] := va_S.rf
  have hl := lv_entry ([.ref (z 58), .int r1, .int k]) (n := 5) (Nat.le_of_ble_eq_true rfl)
  rw [lg_entry_eq]
  generalize (lg_sl ([.ref (z 58), .int r1, .int k]) ++ List.replicate (5 - (lg_sl ([.ref (z 58), .int r1, .int k])).length) Slot.unset).toArray = ls at hl ⊢
  have hl : lv_has ls 5 [(0, .ref (z 58)), (1, .int r1), (2, .int k)] := hl
  refine lv_aload_n hx hb dX10_held_0 rfl (lv_at hl 0 rfl) ?_
  refine lv_iconst (v := 0) hx hb dX10_held_1 (by decide) ?_
  refine va_put (D := D) (ci := 10) (v := .int 0) (ty := .int) (C := RX10) (T := TX10) (N := 58) hx hb hts iX10_held_10 tyX10 tyX10_ok nmX10 hown hK hP hD hS 0 rfl rfl 0 (by decide) (hts (.fieldLink RX10 150 "FondsRoomModel" "thrown" "I") (by decide +kernel)) (fun _ h9 => h9) rfl (by decide +kernel) rfl rfl (Nat.le_of_ble_eq_true rfl) dX10_held_2 (fun H locs hP hD hS => ?_)
  have hP : va_P D vwCl (MW z cy 0) H := hP
  have hD : va_D _ (MW z cy 0) := hD
  refine lv_aload_n hx hb dX10_held_5 rfl (lv_at hl 0 rfl) ?_
  refine lv_iload_n hx hb dX10_held_6 rfl (lv_at hl 1 rfl) ?_
  refine cvI (wr := []) (As := [.int r1]) (rest := []) ⟨hx, hb, hml, hown, hts⟩ (mX10_isReader l D z cy 0 _ r1 ) (cwV 1 hts gX10_held_X10_isReader rfl rfl rfl (by decide +kernel) ⟨Nat.le_of_ble_eq_true rfl, Nat.le_of_ble_eq_true rfl⟩) hK hP hD hS hA [0, 1, 2, 3, 4, 5, 6, 7, 8, 9, 10, 11, 12, 13, 14, 15, 16] [] rfl rfl (by decide) (by decide) (by decide) 0 10 rfl rfl rfl hl.1 rfl (Nat.le_of_ble_eq_true rfl) dX10_held_7 ⟨Nat.le_of_ble_eq_true rfl, Nat.le_of_ble_eq_true rfl⟩ (fun r1 H locs hr1 hP hD hS => ?_)
  have hP : va_P D vwCl (MW z cy 0) H := hP
  have hD : va_D _ (MW z cy 0) := hD
  obtain rfl : r1 = 0 := hr1
  refine lv_if_eq (tgt := 17) hx hb dX10_held_10 (by decide) (fun _ => ?_) (fun c9 => absurd (by decide) c9)
  refine lv_iconst (v := (-1)) hx hb dX10_held_17 (by decide) ?_
  exact W.iret (v := (-1)) hx hb hr (fun t ht hW => ⟨⟨(-1), (), rfl, (by first | rfl | trivial | decide), by rw [ht]; exact hP, va_K.moved hW.alike hK, hD⟩, hS.F ht⟩) hS.2.2 dX10_held_18

theorem iX10_refused_10 : ∀ w ∈ wsX100, w ∈ wsX10_refused := fun _ h => List.mem_cons_of_mem _ (List.mem_append_right _ h)
set_option maxHeartbeats 4000000 in
set_option maxRecDepth 100000 in
theorem mX10_refused (l : Launch) (D : va_G) (z : Nat → Nat) (cy : Nat → ClassId) (sz : Nat) (r1 k : Int32) : Met l yX10_refused wsX10_refused ({ frames := 2, cells := 0, slots := 0, locals := 43 }) (PW D (TYS cy) (MW z cy 0) sz [.ref (z 58), .int r1, .int k]) (QI D (TYS cy) (MW z cy 0) (MW z cy 0) sz (fun r => r = (-1))) 0 0 (va_A (MW z cy 0) sz) := by
  refine Met.ofW (cc := cX10_refused) (maxL := 3) (ret := (some .int)) (by decide) rfl ?_
  intro p e s m args below meth c s₁ B hml hv
  obtain ⟨rfl, hsz, hP, hK, hD0⟩ := hv
  have hx := B.exec
  have hb := B.bytes
  have hr := B.returns
  have hts := atoms_spec (ws := wsX10_refused) B.pre
  have hown : s.vm.findClass RX10 = some m.cls := findClass_of_methodNamed B.named
  have hlocks := B.notSynchronized
  subst hsz
  have hD := hD0.self (sz := s.heap.size)
  have hA : ∀ q9 : Nat, s.heap.size ≤ q9 → va_A (MW z cy 0) s.heap.size q9 := fun q9 h => Or.inr h
  have hS : va_S (va_A (MW z cy 0) s.heap.size) s.heap s.heap [] := va_S.rf
  have hl := lv_entry ([.ref (z 58), .int r1, .int k]) (n := 3) (Nat.le_of_ble_eq_true rfl)
  rw [lg_entry_eq]
  generalize (lg_sl ([.ref (z 58), .int r1, .int k]) ++ List.replicate (3 - (lg_sl ([.ref (z 58), .int r1, .int k])).length) Slot.unset).toArray = ls at hl ⊢
  have hl : lv_has ls 3 [(0, .ref (z 58)), (1, .int r1), (2, .int k)] := hl
  refine lv_aload_n hx hb dX10_refused_0 rfl (lv_at hl 0 rfl) ?_
  refine lv_iconst (v := 0) hx hb dX10_refused_1 (by decide) ?_
  refine va_put (D := D) (ci := 10) (v := .int 0) (ty := .int) (C := RX10) (T := TX10) (N := 58) hx hb hts iX10_refused_10 tyX10 tyX10_ok nmX10 hown hK hP hD hS 0 rfl rfl 0 (by decide) (hts (.fieldLink RX10 150 "FondsRoomModel" "thrown" "I") (by decide +kernel)) (fun _ h9 => h9) rfl (by decide +kernel) rfl rfl (Nat.le_of_ble_eq_true rfl) dX10_refused_2 (fun H locs hP hD hS => ?_)
  have hP : va_P D vwCl (MW z cy 0) H := hP
  have hD : va_D _ (MW z cy 0) := hD
  refine lv_aload_n hx hb dX10_refused_5 rfl (lv_at hl 0 rfl) ?_
  refine lv_iload_n hx hb dX10_refused_6 rfl (lv_at hl 1 rfl) ?_
  refine cvI (wr := []) (As := [.int r1]) (rest := []) ⟨hx, hb, hml, hown, hts⟩ (mX10_isReader l D z cy 0 _ r1 ) (cwV 1 hts gX10_refused_X10_isReader rfl rfl rfl (by decide +kernel) ⟨Nat.le_of_ble_eq_true rfl, Nat.le_of_ble_eq_true rfl⟩) hK hP hD hS hA [0, 1, 2, 3, 4, 5, 6, 7, 8, 9, 10, 11, 12, 13, 14, 15, 16] [] rfl rfl (by decide) (by decide) (by decide) 0 10 rfl rfl rfl hl.1 rfl (Nat.le_of_ble_eq_true rfl) dX10_refused_7 ⟨Nat.le_of_ble_eq_true rfl, Nat.le_of_ble_eq_true rfl⟩ (fun r1 H locs hr1 hP hD hS => ?_)
  have hP : va_P D vwCl (MW z cy 0) H := hP
  have hD : va_D _ (MW z cy 0) := hD
  obtain rfl : r1 = 0 := hr1
  refine lv_if_eq (tgt := 43) hx hb dX10_refused_10 (by decide) (fun _ => ?_) (fun c9 => absurd (by decide) c9)
  refine lv_iconst (v := (-1)) hx hb dX10_refused_43 (by decide) ?_
  exact W.iret (v := (-1)) hx hb hr (fun t ht hW => ⟨⟨(-1), (), rfl, (by first | rfl | trivial | decide), by rw [ht]; exact hP, va_K.moved hW.alike hK, hD⟩, hS.F ht⟩) hS.2.2 dX10_refused_44

theorem iX10_place_10 : ∀ w ∈ wsX100, w ∈ wsX10_place := fun _ h => List.mem_cons_of_mem _ (List.mem_append_right _ h)
set_option maxHeartbeats 4000000 in
set_option maxRecDepth 100000 in
theorem mX10_place (l : Launch) (D : va_G) (z : Nat → Nat) (cy : Nat → ClassId) (sz : Nat) (bx : Int32) : Met l yX10_place wsX10_place ({ frames := 2, cells := 0, slots := 0, locals := 43 }) (PW D (TYS cy) (MW z cy 0) sz [.ref (z 58), .int bx]) (QI D (TYS cy) (MW z cy 0) (MW z cy 0) sz (fun r => r = (-1))) 0 0 (va_A (MW z cy 0) sz) := by
  refine Met.ofW (cc := cX10_place) (maxL := 2) (ret := (some .int)) (by decide) rfl ?_
  intro p e s m args below meth c s₁ B hml hv
  obtain ⟨rfl, hsz, hP, hK, hD0⟩ := hv
  have hx := B.exec
  have hb := B.bytes
  have hr := B.returns
  have hts := atoms_spec (ws := wsX10_place) B.pre
  have hown : s.vm.findClass RX10 = some m.cls := findClass_of_methodNamed B.named
  have hlocks := B.notSynchronized
  subst hsz
  have hD := hD0.self (sz := s.heap.size)
  have hA : ∀ q9 : Nat, s.heap.size ≤ q9 → va_A (MW z cy 0) s.heap.size q9 := fun q9 h => Or.inr h
  have hS : va_S (va_A (MW z cy 0) s.heap.size) s.heap s.heap [] := va_S.rf
  have hl := lv_entry ([.ref (z 58), .int bx]) (n := 2) (Nat.le_of_ble_eq_true rfl)
  rw [lg_entry_eq]
  generalize (lg_sl ([.ref (z 58), .int bx]) ++ List.replicate (2 - (lg_sl ([.ref (z 58), .int bx])).length) Slot.unset).toArray = ls at hl ⊢
  have hl : lv_has ls 2 [(0, .ref (z 58)), (1, .int bx)] := hl
  refine lv_aload_n hx hb dX10_place_0 rfl (lv_at hl 0 rfl) ?_
  refine lv_iconst (v := 0) hx hb dX10_place_1 (by decide) ?_
  refine va_put (D := D) (ci := 10) (v := .int 0) (ty := .int) (C := RX10) (T := TX10) (N := 58) hx hb hts iX10_place_10 tyX10 tyX10_ok nmX10 hown hK hP hD hS 0 rfl rfl 0 (by decide) (hts (.fieldLink RX10 150 "FondsRoomModel" "thrown" "I") (by decide +kernel)) (fun _ h9 => h9) rfl (by decide +kernel) rfl rfl (Nat.le_of_ble_eq_true rfl) dX10_place_2 (fun H locs hP hD hS => ?_)
  have hP : va_P D vwCl (MW z cy 0) H := hP
  have hD : va_D _ (MW z cy 0) := hD
  refine lv_aload_n hx hb dX10_place_5 rfl (lv_at hl 0 rfl) ?_
  refine lv_iload_n hx hb dX10_place_6 rfl (lv_at hl 1 rfl) ?_
  refine cvI (wr := []) (As := [.int bx]) (rest := []) ⟨hx, hb, hml, hown, hts⟩ (mX10_isBox l D z cy 0 _ bx ) (cwV 1 hts gX10_place_X10_isBox rfl rfl rfl (by decide +kernel) ⟨Nat.le_of_ble_eq_true rfl, Nat.le_of_ble_eq_true rfl⟩) hK hP hD hS hA [0, 1, 2, 3, 4, 5, 6, 7, 8, 9, 10, 11, 12, 13, 14, 15, 16] [] rfl rfl (by decide) (by decide) (by decide) 0 10 rfl rfl rfl hl.1 rfl (Nat.le_of_ble_eq_true rfl) dX10_place_7 ⟨Nat.le_of_ble_eq_true rfl, Nat.le_of_ble_eq_true rfl⟩ (fun r1 H locs hr1 hP hD hS => ?_)
  have hP : va_P D vwCl (MW z cy 0) H := hP
  have hD : va_D _ (MW z cy 0) := hD
  obtain rfl : r1 = 0 := hr1
  refine lv_if_eq (tgt := 22) hx hb dX10_place_10 (by decide) (fun _ => ?_) (fun c9 => absurd (by decide) c9)
  refine lv_iconst (v := (-1)) hx hb dX10_place_22 (by decide) ?_
  exact W.iret (v := (-1)) hx hb hr (fun t ht hW => ⟨⟨(-1), (), rfl, (by first | rfl | trivial | decide), by rw [ht]; exact hP, va_K.moved hW.alike hK, hD⟩, hS.F ht⟩) hS.2.2 dX10_place_23

theorem iX10_whose_10 : ∀ w ∈ wsX100, w ∈ wsX10_whose := fun _ h => List.mem_cons_of_mem _ (List.mem_append_right _ h)
set_option maxHeartbeats 4000000 in
set_option maxRecDepth 100000 in
theorem mX10_whose (l : Launch) (D : va_G) (z : Nat → Nat) (cy : Nat → ClassId) (sz : Nat) (bx : Int32) : Met l yX10_whose wsX10_whose ({ frames := 2, cells := 0, slots := 0, locals := 43 }) (PW D (TYS cy) (MW z cy 0) sz [.ref (z 58), .int bx]) (QI D (TYS cy) (MW z cy 0) (MW z cy 0) sz (fun r => r = (-1))) 0 0 (va_A (MW z cy 0) sz) := by
  refine Met.ofW (cc := cX10_whose) (maxL := 2) (ret := (some .int)) (by decide) rfl ?_
  intro p e s m args below meth c s₁ B hml hv
  obtain ⟨rfl, hsz, hP, hK, hD0⟩ := hv
  have hx := B.exec
  have hb := B.bytes
  have hr := B.returns
  have hts := atoms_spec (ws := wsX10_whose) B.pre
  have hown : s.vm.findClass RX10 = some m.cls := findClass_of_methodNamed B.named
  have hlocks := B.notSynchronized
  subst hsz
  have hD := hD0.self (sz := s.heap.size)
  have hA : ∀ q9 : Nat, s.heap.size ≤ q9 → va_A (MW z cy 0) s.heap.size q9 := fun q9 h => Or.inr h
  have hS : va_S (va_A (MW z cy 0) s.heap.size) s.heap s.heap [] := va_S.rf
  have hl := lv_entry ([.ref (z 58), .int bx]) (n := 2) (Nat.le_of_ble_eq_true rfl)
  rw [lg_entry_eq]
  generalize (lg_sl ([.ref (z 58), .int bx]) ++ List.replicate (2 - (lg_sl ([.ref (z 58), .int bx])).length) Slot.unset).toArray = ls at hl ⊢
  have hl : lv_has ls 2 [(0, .ref (z 58)), (1, .int bx)] := hl
  refine lv_aload_n hx hb dX10_whose_0 rfl (lv_at hl 0 rfl) ?_
  refine lv_iconst (v := 0) hx hb dX10_whose_1 (by decide) ?_
  refine va_put (D := D) (ci := 10) (v := .int 0) (ty := .int) (C := RX10) (T := TX10) (N := 58) hx hb hts iX10_whose_10 tyX10 tyX10_ok nmX10 hown hK hP hD hS 0 rfl rfl 0 (by decide) (hts (.fieldLink RX10 150 "FondsRoomModel" "thrown" "I") (by decide +kernel)) (fun _ h9 => h9) rfl (by decide +kernel) rfl rfl (Nat.le_of_ble_eq_true rfl) dX10_whose_2 (fun H locs hP hD hS => ?_)
  have hP : va_P D vwCl (MW z cy 0) H := hP
  have hD : va_D _ (MW z cy 0) := hD
  refine lv_aload_n hx hb dX10_whose_5 rfl (lv_at hl 0 rfl) ?_
  refine lv_iload_n hx hb dX10_whose_6 rfl (lv_at hl 1 rfl) ?_
  refine cvI (wr := []) (As := [.int bx]) (rest := []) ⟨hx, hb, hml, hown, hts⟩ (mX10_isBox l D z cy 0 _ bx ) (cwV 1 hts gX10_whose_X10_isBox rfl rfl rfl (by decide +kernel) ⟨Nat.le_of_ble_eq_true rfl, Nat.le_of_ble_eq_true rfl⟩) hK hP hD hS hA [0, 1, 2, 3, 4, 5, 6, 7, 8, 9, 10, 11, 12, 13, 14, 15, 16] [] rfl rfl (by decide) (by decide) (by decide) 0 10 rfl rfl rfl hl.1 rfl (Nat.le_of_ble_eq_true rfl) dX10_whose_7 ⟨Nat.le_of_ble_eq_true rfl, Nat.le_of_ble_eq_true rfl⟩ (fun r1 H locs hr1 hP hD hS => ?_)
  have hP : va_P D vwCl (MW z cy 0) H := hP
  have hD : va_D _ (MW z cy 0) := hD
  obtain rfl : r1 = 0 := hr1
  refine lv_if_ne (tgt := 15) hx hb dX10_whose_10 (by decide) (fun c9 => absurd (by decide) c9) (fun _ => ?_)
  refine lv_iconst (v := (-1)) hx hb dX10_whose_13 (by decide) ?_
  exact W.iret (v := (-1)) hx hb hr (fun t ht hW => ⟨⟨(-1), (), rfl, (by first | rfl | trivial | decide), by rw [ht]; exact hP, va_K.moved hW.alike hK, hD⟩, hS.F ht⟩) hS.2.2 dX10_whose_14

theorem iX10_seated_10 : ∀ w ∈ wsX100, w ∈ wsX10_seated := fun _ h => List.mem_cons_of_mem _ (List.mem_append_right _ h)
set_option maxHeartbeats 4000000 in
set_option maxRecDepth 100000 in
theorem mX10_seated (l : Launch) (D : va_G) (z : Nat → Nat) (cy : Nat → ClassId) (sz : Nat) (d : Int32) : Met l yX10_seated wsX10_seated ({ frames := 1, cells := 0, slots := 0, locals := 22 }) (PW D (TYS cy) (MW z cy 0) sz [.ref (z 58), .int d]) (QI D (TYS cy) (MW z cy 0) (MW z cy 0) sz (fun r => r = (-1))) 0 0 (va_A (MW z cy 0) sz) := by
  refine Met.ofW (cc := cX10_seated) (maxL := 2) (ret := (some .int)) (by decide) rfl ?_
  intro p e s m args below meth c s₁ B hml hv
  obtain ⟨rfl, hsz, hP, hK, hD0⟩ := hv
  have hx := B.exec
  have hb := B.bytes
  have hr := B.returns
  have hts := atoms_spec (ws := wsX10_seated) B.pre
  have hown : s.vm.findClass RX10 = some m.cls := findClass_of_methodNamed B.named
  have hlocks := B.notSynchronized
  subst hsz
  have hD := hD0.self (sz := s.heap.size)
  have hA : ∀ q9 : Nat, s.heap.size ≤ q9 → va_A (MW z cy 0) s.heap.size q9 := fun q9 h => Or.inr h
  have hS : va_S (va_A (MW z cy 0) s.heap.size) s.heap s.heap [] := va_S.rf
  have hl := lv_entry ([.ref (z 58), .int d]) (n := 2) (Nat.le_of_ble_eq_true rfl)
  rw [lg_entry_eq]
  generalize (lg_sl ([.ref (z 58), .int d]) ++ List.replicate (2 - (lg_sl ([.ref (z 58), .int d])).length) Slot.unset).toArray = ls at hl ⊢
  have hl : lv_has ls 2 [(0, .ref (z 58)), (1, .int d)] := hl
  refine lv_aload_n hx hb dX10_seated_0 rfl (lv_at hl 0 rfl) ?_
  refine lv_iconst (v := 0) hx hb dX10_seated_1 (by decide) ?_
  refine va_put (D := D) (ci := 10) (v := .int 0) (ty := .int) (C := RX10) (T := TX10) (N := 58) hx hb hts iX10_seated_10 tyX10 tyX10_ok nmX10 hown hK hP hD hS 0 rfl rfl 0 (by decide) (hts (.fieldLink RX10 150 "FondsRoomModel" "thrown" "I") (by decide +kernel)) (fun _ h9 => h9) rfl (by decide +kernel) rfl rfl (Nat.le_of_ble_eq_true rfl) dX10_seated_2 (fun H locs hP hD hS => ?_)
  have hP : va_P D vwCl (MW z cy 0) H := hP
  have hD : va_D _ (MW z cy 0) := hD
  refine lv_iload_n hx hb dX10_seated_5 rfl (lv_at hl 1 rfl) ?_
  refine lv_iconst (v := 0) hx hb dX10_seated_6 (by decide) ?_
  refine lv_aload_n hx hb dX10_seated_7 rfl (lv_at hl 0 rfl) ?_
  refine va_get (D := D) (ci := 10) (v := .int 0) (C := RX10) (T := TX10) (N := 58) hx hb hts iX10_seated_10 hown hK hP 0 rfl rfl 1 (by decide) (hts (.fieldLink RX10 166 "FondsRoomModel" "desks" "I") (by decide +kernel)) (fun _ h9 => h9) rfl dX10_seated_8 ?_
  refine lv_iconst (v := 1) hx hb dX10_seated_11 (by decide) ?_
  refine lv_isub hx hb dX10_seated_12 ?_
  refine lv_topi (fun y1 ey1 => ?_)
  obtain rfl : y1 = (-1) := ey1.trans (by decide)
  refine csI (As := [.int d, .int 0, .int (-1)]) (rest := []) ⟨hx, hb, hml, hown, hts⟩ (mX10_in l D _ d 0 (-1)) (va_cwS 3 hts gX10_seated_X10_in rfl rfl rfl (by decide +kernel) ⟨Nat.le_of_ble_eq_true rfl, Nat.le_of_ble_eq_true rfl⟩) hK hP hS hA rfl hl.1 rfl (Nat.le_of_ble_eq_true rfl) dX10_seated_13 ⟨Nat.le_of_ble_eq_true rfl, Nat.le_of_ble_eq_true rfl⟩ (fun r2 H locs hr2 hP hS => ?_)
  obtain rfl : r2 = sp_in d 0 (-1) := hr2
  refine lv_if_eq (tgt := 28) hx hb dX10_seated_16 (by decide) (fun _ => ?_) (fun c9 => absurd (sp_in_m1 _) c9)
  refine lv_iconst (v := (-1)) hx hb dX10_seated_28 (by decide) ?_
  exact W.iret (v := (-1)) hx hb hr (fun t ht hW => ⟨⟨(-1), (), rfl, (by first | rfl | trivial | decide), by rw [ht]; exact hP, va_K.moved hW.alike hK, hD⟩, hS.F ht⟩) hS.2.2 dX10_seated_29

theorem iX10_worker_10 : ∀ w ∈ wsX100, w ∈ wsX10_worker := fun _ h => List.mem_cons_of_mem _ (List.mem_append_right _ h)
set_option maxHeartbeats 4000000 in
set_option maxRecDepth 100000 in
theorem mX10_worker_10 (l : Launch) (D : va_G) (z : Nat → Nat) (cy : Nat → ClassId) (sz : Nat) (x : Int32) : Met l yX10_worker wsX10_worker ({ frames := 1, cells := 0, slots := 0, locals := 22 }) (PW D (TYS cy) (MW z cy 0) sz [.ref (z 58), .int 1, .int 0, .int x]) (QI D (TYS cy) (MW z cy 0) (MW z cy 0) sz (fun r => r = sp_worker x)) 0 0 (va_A (MW z cy 0) sz) := by
  refine Met.ofW (cc := cX10_worker) (maxL := 5) (ret := (some .int)) (by decide) rfl ?_
  intro p e s m args below meth c s₁ B hml hv
  obtain ⟨rfl, hsz, hP, hK, hD0⟩ := hv
  have hx := B.exec
  have hb := B.bytes
  have hr := B.returns
  have hts := atoms_spec (ws := wsX10_worker) B.pre
  have hown : s.vm.findClass RX10 = some m.cls := findClass_of_methodNamed B.named
  have hlocks := B.notSynchronized
  subst hsz
  have hD := hD0.self (sz := s.heap.size)
  have hA : ∀ q9 : Nat, s.heap.size ≤ q9 → va_A (MW z cy 0) s.heap.size q9 := fun q9 h => Or.inr h
  have hS : va_S (va_A (MW z cy 0) s.heap.size) s.heap s.heap [] := va_S.rf
  have hl := lv_entry ([.ref (z 58), .int 1, .int 0, .int x]) (n := 5) (Nat.le_of_ble_eq_true rfl)
  rw [lg_entry_eq]
  generalize (lg_sl ([.ref (z 58), .int 1, .int 0, .int x]) ++ List.replicate (5 - (lg_sl ([.ref (z 58), .int 1, .int 0, .int x])).length) Slot.unset).toArray = ls at hl ⊢
  have hl : lv_has ls 5 [(0, .ref (z 58)), (1, .int 1), (2, .int 0), (3, .int x)] := hl
  refine lv_aload_n hx hb dX10_worker_0 rfl (lv_at hl 0 rfl) ?_
  refine lv_iconst (v := 0) hx hb dX10_worker_1 (by decide) ?_
  refine va_put (D := D) (ci := 10) (v := .int 0) (ty := .int) (C := RX10) (T := TX10) (N := 58) hx hb hts iX10_worker_10 tyX10 tyX10_ok nmX10 hown hK hP hD hS 0 rfl rfl 0 (by decide) (hts (.fieldLink RX10 150 "FondsRoomModel" "thrown" "I") (by decide +kernel)) (fun _ h9 => h9) rfl (by decide +kernel) rfl rfl (Nat.le_of_ble_eq_true rfl) dX10_worker_2 (fun H locs hP hD hS => ?_)
  have hP : va_P D vwCl (MW z cy 0) H := hP
  have hD : va_D _ (MW z cy 0) := hD
  refine lv_iload_n hx hb dX10_worker_5 rfl (lv_at hl 3 rfl) ?_
  refine lv_iconst (v := 0) hx hb dX10_worker_6 (by decide) ?_
  refine lv_iconst (v := 1) hx hb dX10_worker_7 (by decide) ?_
  refine csI (As := [.int x, .int 0, .int 1]) (rest := []) ⟨hx, hb, hml, hown, hts⟩ (mX10_in l D _ x 0 1) (va_cwS 3 hts gX10_worker_X10_in rfl rfl rfl (by decide +kernel) ⟨Nat.le_of_ble_eq_true rfl, Nat.le_of_ble_eq_true rfl⟩) hK hP hS hA rfl hl.1 rfl (Nat.le_of_ble_eq_true rfl) dX10_worker_8 ⟨Nat.le_of_ble_eq_true rfl, Nat.le_of_ble_eq_true rfl⟩ (fun r1 H locs hr1 hP hS => ?_)
  obtain rfl : r1 = sp_in x 0 1 := hr1
  refine lv_if_eq (tgt := 49) hx hb dX10_worker_11 (by decide) (fun c2 => ?_) (fun c2 => ?_)
  · skip
    refine lv_iconst (v := (-1)) hx hb dX10_worker_49 (by decide) ?_
    exact W.iret (v := (-1)) hx hb hr (fun t ht hW => ⟨⟨(-1), (), rfl, (by unfold sp_worker; rw [if_neg (in01_no c2).1, if_neg (in01_no c2).2]), by rw [ht]; exact hP, va_K.moved hW.alike hK, hD⟩, hS.F ht⟩) hS.2.2 dX10_worker_50
  · skip
    refine lv_iload_n hx hb dX10_worker_14 rfl (lv_at hl 1 rfl) ?_
    refine lv_iconst (v := 1) hx hb dX10_worker_15 (by decide) ?_
    refine lv_iconst (v := 2) hx hb dX10_worker_16 (by decide) ?_
    refine csI (As := [.int 1, .int 1, .int 2]) (rest := []) ⟨hx, hb, hml, hown, hts⟩ (mX10_in l D _ 1 1 2) (va_cwS 3 hts gX10_worker_X10_in rfl rfl rfl (by decide +kernel) ⟨Nat.le_of_ble_eq_true rfl, Nat.le_of_ble_eq_true rfl⟩) hK hP hS hA rfl hl.1 rfl (Nat.le_of_ble_eq_true rfl) dX10_worker_17 ⟨Nat.le_of_ble_eq_true rfl, Nat.le_of_ble_eq_true rfl⟩ (fun r3 H locs hr3 hP hS => ?_)
    obtain rfl : r3 = 1 := hr3.trans (by decide)
    refine lv_if_eq (tgt := 49) hx hb dX10_worker_20 (by decide) (fun c9 => absurd c9 (by decide)) (fun _ => ?_)
    refine lv_iload_n hx hb dX10_worker_23 rfl (lv_at hl 2 rfl) ?_
    refine lv_iconst (v := 0) hx hb dX10_worker_24 (by decide) ?_
    refine lv_iload_n hx hb dX10_worker_25 rfl (lv_at hl 1 rfl) ?_
    refine lv_iconst (v := 1) hx hb dX10_worker_26 (by decide) ?_
    refine lv_icmp_ne (tgt := 37) hx hb dX10_worker_27 (by decide) (fun c9 => absurd (by decide) c9) (fun _ => ?_)
    refine lv_aload_n hx hb dX10_worker_30 rfl (lv_at hl 0 rfl) ?_
    refine va_get (D := D) (ci := 10) (v := .int 2) (C := RX10) (T := TX10) (N := 58) hx hb hts iX10_worker_10 hown hK hP 0 rfl rfl 7 (by decide) (hts (.fieldLink RX10 16 "FondsRoomModel" "fetchers" "I") (by decide +kernel)) (fun _ h9 => h9) rfl dX10_worker_31 ?_
    refine lv_goto (tgt := 41) hx hb dX10_worker_34 (by decide) ?_
    refine lv_iconst (v := 1) hx hb dX10_worker_41 (by decide) ?_
    refine lv_isub hx hb dX10_worker_42 ?_
    refine lv_topi (fun y4 ey4 => ?_)
    obtain rfl : y4 = 1 := ey4.trans (by decide)
    refine csI (As := [.int 0, .int 0, .int 1]) (rest := []) ⟨hx, hb, hml, hown, hts⟩ (mX10_in l D _ 0 0 1) (va_cwS 3 hts gX10_worker_X10_in rfl rfl rfl (by decide +kernel) ⟨Nat.le_of_ble_eq_true rfl, Nat.le_of_ble_eq_true rfl⟩) hK hP hS hA rfl hl.1 rfl (Nat.le_of_ble_eq_true rfl) dX10_worker_43 ⟨Nat.le_of_ble_eq_true rfl, Nat.le_of_ble_eq_true rfl⟩ (fun r5 H locs hr5 hP hS => ?_)
    obtain rfl : r5 = 1 := hr5.trans (by decide)
    refine lv_if_ne (tgt := 51) hx hb dX10_worker_46 (by decide) (fun _ => ?_) (fun c9 => absurd c9 (by decide))
    refine lv_iload_n hx hb dX10_worker_51 rfl (lv_at hl 1 rfl) ?_
    refine lv_iconst (v := 1) hx hb dX10_worker_52 (by decide) ?_
    refine lv_icmp_ne (tgt := 65) hx hb dX10_worker_53 (by decide) (fun c9 => absurd (by decide) c9) (fun _ => ?_)
    refine lv_aload_n hx hb dX10_worker_56 rfl (lv_at hl 0 rfl) ?_
    refine va_get (D := D) (ci := 10) (v := .ref (z 42)) (C := RX10) (T := TX10) (N := 58) hx hb hts iX10_worker_10 hown hK hP 0 rfl rfl 42 (by decide) (hts (.fieldLink RX10 111 "FondsRoomModel" "fBox" "[I") (by decide +kernel)) (fun _ h9 => h9) rfl dX10_worker_57 ?_
    refine lv_iload_n hx hb dX10_worker_60 rfl (lv_at hl 2 rfl) ?_
    refine va_iald hx hb hK hP 11 0 rfl rfl (vp_in_iff.mpr (by decide)) dX10_worker_61 ?_
    refine lv_topi (fun y6 ey6 => ?_)
    obtain rfl : y6 = (-1) := ey6.trans (by decide)
    refine lv_goto (tgt := 71) hx hb dX10_worker_62 (by decide) ?_
    refine lv_istore (lv' := [(4, .int (-1)), (0, .ref (z 58)), (1, .int 1), (2, .int 0), (3, .int x)]) hx hb dX10_worker_71 hl (by decide) rfl (fun ls hl => ?_)
    refine lv_iload_n hx hb dX10_worker_73 rfl (lv_at hl 4 rfl) ?_
    refine lv_if_ne (tgt := 80) hx hb dX10_worker_74 (by decide) (fun c7 => ?_) (fun c7 => ?_)
    · skip
      refine lv_iload hx hb dX10_worker_80 (lv_at hl 0 rfl) ?_
      refine lv_iconst (v := (-1)) hx hb dX10_worker_82 (by decide) ?_
      refine lv_icmp_ne (tgt := 90) hx hb dX10_worker_83 (by decide) (fun c9 => absurd (by decide) c9) (fun _ => ?_)
      refine lv_iconst (v := 0) hx hb dX10_worker_86 (by decide) ?_
      refine lv_goto (tgt := 110) hx hb dX10_worker_87 (by decide) ?_
      exact W.iret (v := 0) hx hb hr (fun t ht hW => ⟨⟨0, (), rfl, (by unfold sp_worker; rw [if_neg c7, if_pos (in01_yes c2 c7)]), by rw [ht]; exact hP, va_K.moved hW.alike hK, hD⟩, hS.F ht⟩) hS.2.2 dX10_worker_110
    · skip
      refine lv_iload hx hb dX10_worker_77 (lv_at hl 0 rfl) ?_
      exact W.iret (v := (-1)) hx hb hr (fun t ht hW => ⟨⟨(-1), (), rfl, (by unfold sp_worker; rw [if_pos c7]), by rw [ht]; exact hP, va_K.moved hW.alike hK, hD⟩, hS.F ht⟩) hS.2.2 dX10_worker_79

set_option maxHeartbeats 4000000 in
set_option maxRecDepth 100000 in
theorem mX10_worker_11 (l : Launch) (D : va_G) (z : Nat → Nat) (cy : Nat → ClassId) (sz : Nat) (x : Int32) : Met l yX10_worker wsX10_worker ({ frames := 1, cells := 0, slots := 0, locals := 22 }) (PW D (TYS cy) (MW z cy 0) sz [.ref (z 58), .int 1, .int 1, .int x]) (QI D (TYS cy) (MW z cy 0) (MW z cy 0) sz (fun r => r = sp_worker x)) 0 0 (va_A (MW z cy 0) sz) := by
  refine Met.ofW (cc := cX10_worker) (maxL := 5) (ret := (some .int)) (by decide) rfl ?_
  intro p e s m args below meth c s₁ B hml hv
  obtain ⟨rfl, hsz, hP, hK, hD0⟩ := hv
  have hx := B.exec
  have hb := B.bytes
  have hr := B.returns
  have hts := atoms_spec (ws := wsX10_worker) B.pre
  have hown : s.vm.findClass RX10 = some m.cls := findClass_of_methodNamed B.named
  have hlocks := B.notSynchronized
  subst hsz
  have hD := hD0.self (sz := s.heap.size)
  have hA : ∀ q9 : Nat, s.heap.size ≤ q9 → va_A (MW z cy 0) s.heap.size q9 := fun q9 h => Or.inr h
  have hS : va_S (va_A (MW z cy 0) s.heap.size) s.heap s.heap [] := va_S.rf
  have hl := lv_entry ([.ref (z 58), .int 1, .int 1, .int x]) (n := 5) (Nat.le_of_ble_eq_true rfl)
  rw [lg_entry_eq]
  generalize (lg_sl ([.ref (z 58), .int 1, .int 1, .int x]) ++ List.replicate (5 - (lg_sl ([.ref (z 58), .int 1, .int 1, .int x])).length) Slot.unset).toArray = ls at hl ⊢
  have hl : lv_has ls 5 [(0, .ref (z 58)), (1, .int 1), (2, .int 1), (3, .int x)] := hl
  refine lv_aload_n hx hb dX10_worker_0 rfl (lv_at hl 0 rfl) ?_
  refine lv_iconst (v := 0) hx hb dX10_worker_1 (by decide) ?_
  refine va_put (D := D) (ci := 10) (v := .int 0) (ty := .int) (C := RX10) (T := TX10) (N := 58) hx hb hts iX10_worker_10 tyX10 tyX10_ok nmX10 hown hK hP hD hS 0 rfl rfl 0 (by decide) (hts (.fieldLink RX10 150 "FondsRoomModel" "thrown" "I") (by decide +kernel)) (fun _ h9 => h9) rfl (by decide +kernel) rfl rfl (Nat.le_of_ble_eq_true rfl) dX10_worker_2 (fun H locs hP hD hS => ?_)
  have hP : va_P D vwCl (MW z cy 0) H := hP
  have hD : va_D _ (MW z cy 0) := hD
  refine lv_iload_n hx hb dX10_worker_5 rfl (lv_at hl 3 rfl) ?_
  refine lv_iconst (v := 0) hx hb dX10_worker_6 (by decide) ?_
  refine lv_iconst (v := 1) hx hb dX10_worker_7 (by decide) ?_
  refine csI (As := [.int x, .int 0, .int 1]) (rest := []) ⟨hx, hb, hml, hown, hts⟩ (mX10_in l D _ x 0 1) (va_cwS 3 hts gX10_worker_X10_in rfl rfl rfl (by decide +kernel) ⟨Nat.le_of_ble_eq_true rfl, Nat.le_of_ble_eq_true rfl⟩) hK hP hS hA rfl hl.1 rfl (Nat.le_of_ble_eq_true rfl) dX10_worker_8 ⟨Nat.le_of_ble_eq_true rfl, Nat.le_of_ble_eq_true rfl⟩ (fun r1 H locs hr1 hP hS => ?_)
  obtain rfl : r1 = sp_in x 0 1 := hr1
  refine lv_if_eq (tgt := 49) hx hb dX10_worker_11 (by decide) (fun c2 => ?_) (fun c2 => ?_)
  · skip
    refine lv_iconst (v := (-1)) hx hb dX10_worker_49 (by decide) ?_
    exact W.iret (v := (-1)) hx hb hr (fun t ht hW => ⟨⟨(-1), (), rfl, (by unfold sp_worker; rw [if_neg (in01_no c2).1, if_neg (in01_no c2).2]), by rw [ht]; exact hP, va_K.moved hW.alike hK, hD⟩, hS.F ht⟩) hS.2.2 dX10_worker_50
  · skip
    refine lv_iload_n hx hb dX10_worker_14 rfl (lv_at hl 1 rfl) ?_
    refine lv_iconst (v := 1) hx hb dX10_worker_15 (by decide) ?_
    refine lv_iconst (v := 2) hx hb dX10_worker_16 (by decide) ?_
    refine csI (As := [.int 1, .int 1, .int 2]) (rest := []) ⟨hx, hb, hml, hown, hts⟩ (mX10_in l D _ 1 1 2) (va_cwS 3 hts gX10_worker_X10_in rfl rfl rfl (by decide +kernel) ⟨Nat.le_of_ble_eq_true rfl, Nat.le_of_ble_eq_true rfl⟩) hK hP hS hA rfl hl.1 rfl (Nat.le_of_ble_eq_true rfl) dX10_worker_17 ⟨Nat.le_of_ble_eq_true rfl, Nat.le_of_ble_eq_true rfl⟩ (fun r3 H locs hr3 hP hS => ?_)
    obtain rfl : r3 = 1 := hr3.trans (by decide)
    refine lv_if_eq (tgt := 49) hx hb dX10_worker_20 (by decide) (fun c9 => absurd c9 (by decide)) (fun _ => ?_)
    refine lv_iload_n hx hb dX10_worker_23 rfl (lv_at hl 2 rfl) ?_
    refine lv_iconst (v := 0) hx hb dX10_worker_24 (by decide) ?_
    refine lv_iload_n hx hb dX10_worker_25 rfl (lv_at hl 1 rfl) ?_
    refine lv_iconst (v := 1) hx hb dX10_worker_26 (by decide) ?_
    refine lv_icmp_ne (tgt := 37) hx hb dX10_worker_27 (by decide) (fun c9 => absurd (by decide) c9) (fun _ => ?_)
    refine lv_aload_n hx hb dX10_worker_30 rfl (lv_at hl 0 rfl) ?_
    refine va_get (D := D) (ci := 10) (v := .int 2) (C := RX10) (T := TX10) (N := 58) hx hb hts iX10_worker_10 hown hK hP 0 rfl rfl 7 (by decide) (hts (.fieldLink RX10 16 "FondsRoomModel" "fetchers" "I") (by decide +kernel)) (fun _ h9 => h9) rfl dX10_worker_31 ?_
    refine lv_goto (tgt := 41) hx hb dX10_worker_34 (by decide) ?_
    refine lv_iconst (v := 1) hx hb dX10_worker_41 (by decide) ?_
    refine lv_isub hx hb dX10_worker_42 ?_
    refine lv_topi (fun y4 ey4 => ?_)
    obtain rfl : y4 = 1 := ey4.trans (by decide)
    refine csI (As := [.int 1, .int 0, .int 1]) (rest := []) ⟨hx, hb, hml, hown, hts⟩ (mX10_in l D _ 1 0 1) (va_cwS 3 hts gX10_worker_X10_in rfl rfl rfl (by decide +kernel) ⟨Nat.le_of_ble_eq_true rfl, Nat.le_of_ble_eq_true rfl⟩) hK hP hS hA rfl hl.1 rfl (Nat.le_of_ble_eq_true rfl) dX10_worker_43 ⟨Nat.le_of_ble_eq_true rfl, Nat.le_of_ble_eq_true rfl⟩ (fun r5 H locs hr5 hP hS => ?_)
    obtain rfl : r5 = 1 := hr5.trans (by decide)
    refine lv_if_ne (tgt := 51) hx hb dX10_worker_46 (by decide) (fun _ => ?_) (fun c9 => absurd c9 (by decide))
    refine lv_iload_n hx hb dX10_worker_51 rfl (lv_at hl 1 rfl) ?_
    refine lv_iconst (v := 1) hx hb dX10_worker_52 (by decide) ?_
    refine lv_icmp_ne (tgt := 65) hx hb dX10_worker_53 (by decide) (fun c9 => absurd (by decide) c9) (fun _ => ?_)
    refine lv_aload_n hx hb dX10_worker_56 rfl (lv_at hl 0 rfl) ?_
    refine va_get (D := D) (ci := 10) (v := .ref (z 42)) (C := RX10) (T := TX10) (N := 58) hx hb hts iX10_worker_10 hown hK hP 0 rfl rfl 42 (by decide) (hts (.fieldLink RX10 111 "FondsRoomModel" "fBox" "[I") (by decide +kernel)) (fun _ h9 => h9) rfl dX10_worker_57 ?_
    refine lv_iload_n hx hb dX10_worker_60 rfl (lv_at hl 2 rfl) ?_
    refine va_iald hx hb hK hP 11 0 rfl rfl (vp_in_iff.mpr (by decide)) dX10_worker_61 ?_
    refine lv_topi (fun y6 ey6 => ?_)
    obtain rfl : y6 = (-1) := ey6.trans (by decide)
    refine lv_goto (tgt := 71) hx hb dX10_worker_62 (by decide) ?_
    refine lv_istore (lv' := [(4, .int (-1)), (0, .ref (z 58)), (1, .int 1), (2, .int 1), (3, .int x)]) hx hb dX10_worker_71 hl (by decide) rfl (fun ls hl => ?_)
    refine lv_iload_n hx hb dX10_worker_73 rfl (lv_at hl 4 rfl) ?_
    refine lv_if_ne (tgt := 80) hx hb dX10_worker_74 (by decide) (fun c7 => ?_) (fun c7 => ?_)
    · skip
      refine lv_iload hx hb dX10_worker_80 (lv_at hl 0 rfl) ?_
      refine lv_iconst (v := (-1)) hx hb dX10_worker_82 (by decide) ?_
      refine lv_icmp_ne (tgt := 90) hx hb dX10_worker_83 (by decide) (fun c9 => absurd (by decide) c9) (fun _ => ?_)
      refine lv_iconst (v := 0) hx hb dX10_worker_86 (by decide) ?_
      refine lv_goto (tgt := 110) hx hb dX10_worker_87 (by decide) ?_
      exact W.iret (v := 0) hx hb hr (fun t ht hW => ⟨⟨0, (), rfl, (by unfold sp_worker; rw [if_neg c7, if_pos (in01_yes c2 c7)]), by rw [ht]; exact hP, va_K.moved hW.alike hK, hD⟩, hS.F ht⟩) hS.2.2 dX10_worker_110
    · skip
      refine lv_iload hx hb dX10_worker_77 (lv_at hl 0 rfl) ?_
      exact W.iret (v := (-1)) hx hb hr (fun t ht hW => ⟨⟨(-1), (), rfl, (by unfold sp_worker; rw [if_pos c7]), by rw [ht]; exact hP, va_K.moved hW.alike hK, hD⟩, hS.F ht⟩) hS.2.2 dX10_worker_79

set_option maxHeartbeats 4000000 in
set_option maxRecDepth 100000 in
theorem mX10_worker_20 (l : Launch) (D : va_G) (z : Nat → Nat) (cy : Nat → ClassId) (sz : Nat) (x : Int32) : Met l yX10_worker wsX10_worker ({ frames := 1, cells := 0, slots := 0, locals := 22 }) (PW D (TYS cy) (MW z cy 0) sz [.ref (z 58), .int 2, .int 0, .int x]) (QI D (TYS cy) (MW z cy 0) (MW z cy 0) sz (fun r => r = sp_worker x)) 0 0 (va_A (MW z cy 0) sz) := by
  refine Met.ofW (cc := cX10_worker) (maxL := 5) (ret := (some .int)) (by decide) rfl ?_
  intro p e s m args below meth c s₁ B hml hv
  obtain ⟨rfl, hsz, hP, hK, hD0⟩ := hv
  have hx := B.exec
  have hb := B.bytes
  have hr := B.returns
  have hts := atoms_spec (ws := wsX10_worker) B.pre
  have hown : s.vm.findClass RX10 = some m.cls := findClass_of_methodNamed B.named
  have hlocks := B.notSynchronized
  subst hsz
  have hD := hD0.self (sz := s.heap.size)
  have hA : ∀ q9 : Nat, s.heap.size ≤ q9 → va_A (MW z cy 0) s.heap.size q9 := fun q9 h => Or.inr h
  have hS : va_S (va_A (MW z cy 0) s.heap.size) s.heap s.heap [] := va_S.rf
  have hl := lv_entry ([.ref (z 58), .int 2, .int 0, .int x]) (n := 5) (Nat.le_of_ble_eq_true rfl)
  rw [lg_entry_eq]
  generalize (lg_sl ([.ref (z 58), .int 2, .int 0, .int x]) ++ List.replicate (5 - (lg_sl ([.ref (z 58), .int 2, .int 0, .int x])).length) Slot.unset).toArray = ls at hl ⊢
  have hl : lv_has ls 5 [(0, .ref (z 58)), (1, .int 2), (2, .int 0), (3, .int x)] := hl
  refine lv_aload_n hx hb dX10_worker_0 rfl (lv_at hl 0 rfl) ?_
  refine lv_iconst (v := 0) hx hb dX10_worker_1 (by decide) ?_
  refine va_put (D := D) (ci := 10) (v := .int 0) (ty := .int) (C := RX10) (T := TX10) (N := 58) hx hb hts iX10_worker_10 tyX10 tyX10_ok nmX10 hown hK hP hD hS 0 rfl rfl 0 (by decide) (hts (.fieldLink RX10 150 "FondsRoomModel" "thrown" "I") (by decide +kernel)) (fun _ h9 => h9) rfl (by decide +kernel) rfl rfl (Nat.le_of_ble_eq_true rfl) dX10_worker_2 (fun H locs hP hD hS => ?_)
  have hP : va_P D vwCl (MW z cy 0) H := hP
  have hD : va_D _ (MW z cy 0) := hD
  refine lv_iload_n hx hb dX10_worker_5 rfl (lv_at hl 3 rfl) ?_
  refine lv_iconst (v := 0) hx hb dX10_worker_6 (by decide) ?_
  refine lv_iconst (v := 1) hx hb dX10_worker_7 (by decide) ?_
  refine csI (As := [.int x, .int 0, .int 1]) (rest := []) ⟨hx, hb, hml, hown, hts⟩ (mX10_in l D _ x 0 1) (va_cwS 3 hts gX10_worker_X10_in rfl rfl rfl (by decide +kernel) ⟨Nat.le_of_ble_eq_true rfl, Nat.le_of_ble_eq_true rfl⟩) hK hP hS hA rfl hl.1 rfl (Nat.le_of_ble_eq_true rfl) dX10_worker_8 ⟨Nat.le_of_ble_eq_true rfl, Nat.le_of_ble_eq_true rfl⟩ (fun r1 H locs hr1 hP hS => ?_)
  obtain rfl : r1 = sp_in x 0 1 := hr1
  refine lv_if_eq (tgt := 49) hx hb dX10_worker_11 (by decide) (fun c2 => ?_) (fun c2 => ?_)
  · skip
    refine lv_iconst (v := (-1)) hx hb dX10_worker_49 (by decide) ?_
    exact W.iret (v := (-1)) hx hb hr (fun t ht hW => ⟨⟨(-1), (), rfl, (by unfold sp_worker; rw [if_neg (in01_no c2).1, if_neg (in01_no c2).2]), by rw [ht]; exact hP, va_K.moved hW.alike hK, hD⟩, hS.F ht⟩) hS.2.2 dX10_worker_50
  · skip
    refine lv_iload_n hx hb dX10_worker_14 rfl (lv_at hl 1 rfl) ?_
    refine lv_iconst (v := 1) hx hb dX10_worker_15 (by decide) ?_
    refine lv_iconst (v := 2) hx hb dX10_worker_16 (by decide) ?_
    refine csI (As := [.int 2, .int 1, .int 2]) (rest := []) ⟨hx, hb, hml, hown, hts⟩ (mX10_in l D _ 2 1 2) (va_cwS 3 hts gX10_worker_X10_in rfl rfl rfl (by decide +kernel) ⟨Nat.le_of_ble_eq_true rfl, Nat.le_of_ble_eq_true rfl⟩) hK hP hS hA rfl hl.1 rfl (Nat.le_of_ble_eq_true rfl) dX10_worker_17 ⟨Nat.le_of_ble_eq_true rfl, Nat.le_of_ble_eq_true rfl⟩ (fun r3 H locs hr3 hP hS => ?_)
    obtain rfl : r3 = 1 := hr3.trans (by decide)
    refine lv_if_eq (tgt := 49) hx hb dX10_worker_20 (by decide) (fun c9 => absurd c9 (by decide)) (fun _ => ?_)
    refine lv_iload_n hx hb dX10_worker_23 rfl (lv_at hl 2 rfl) ?_
    refine lv_iconst (v := 0) hx hb dX10_worker_24 (by decide) ?_
    refine lv_iload_n hx hb dX10_worker_25 rfl (lv_at hl 1 rfl) ?_
    refine lv_iconst (v := 1) hx hb dX10_worker_26 (by decide) ?_
    refine lv_icmp_ne (tgt := 37) hx hb dX10_worker_27 (by decide) (fun _ => ?_) (fun c9 => absurd c9 (by decide))
    refine lv_aload_n hx hb dX10_worker_37 rfl (lv_at hl 0 rfl) ?_
    refine va_get (D := D) (ci := 10) (v := .int 1) (C := RX10) (T := TX10) (N := 58) hx hb hts iX10_worker_10 hown hK hP 0 rfl rfl 8 (by decide) (hts (.fieldLink RX10 19 "FondsRoomModel" "copyists" "I") (by decide +kernel)) (fun _ h9 => h9) rfl dX10_worker_38 ?_
    refine lv_iconst (v := 1) hx hb dX10_worker_41 (by decide) ?_
    refine lv_isub hx hb dX10_worker_42 ?_
    refine lv_topi (fun y4 ey4 => ?_)
    obtain rfl : y4 = 0 := ey4.trans (by decide)
    refine csI (As := [.int 0, .int 0, .int 0]) (rest := []) ⟨hx, hb, hml, hown, hts⟩ (mX10_in l D _ 0 0 0) (va_cwS 3 hts gX10_worker_X10_in rfl rfl rfl (by decide +kernel) ⟨Nat.le_of_ble_eq_true rfl, Nat.le_of_ble_eq_true rfl⟩) hK hP hS hA rfl hl.1 rfl (Nat.le_of_ble_eq_true rfl) dX10_worker_43 ⟨Nat.le_of_ble_eq_true rfl, Nat.le_of_ble_eq_true rfl⟩ (fun r5 H locs hr5 hP hS => ?_)
    obtain rfl : r5 = 1 := hr5.trans (by decide)
    refine lv_if_ne (tgt := 51) hx hb dX10_worker_46 (by decide) (fun _ => ?_) (fun c9 => absurd c9 (by decide))
    refine lv_iload_n hx hb dX10_worker_51 rfl (lv_at hl 1 rfl) ?_
    refine lv_iconst (v := 1) hx hb dX10_worker_52 (by decide) ?_
    refine lv_icmp_ne (tgt := 65) hx hb dX10_worker_53 (by decide) (fun _ => ?_) (fun c9 => absurd c9 (by decide))
    refine lv_aload_n hx hb dX10_worker_65 rfl (lv_at hl 0 rfl) ?_
    refine va_get (D := D) (ci := 10) (v := .ref (z 45)) (C := RX10) (T := TX10) (N := 58) hx hb hts iX10_worker_10 hown hK hP 0 rfl rfl 45 (by decide) (hts (.fieldLink RX10 120 "FondsRoomModel" "cBox" "[I") (by decide +kernel)) (fun _ h9 => h9) rfl dX10_worker_66 ?_
    refine lv_iload_n hx hb dX10_worker_69 rfl (lv_at hl 2 rfl) ?_
    refine va_iald hx hb hK hP 13 0 rfl rfl (vp_in_iff.mpr (by decide)) dX10_worker_70 ?_
    refine lv_topi (fun y6 ey6 => ?_)
    obtain rfl : y6 = (-1) := ey6.trans (by decide)
    refine lv_istore (lv' := [(4, .int (-1)), (0, .ref (z 58)), (1, .int 2), (2, .int 0), (3, .int x)]) hx hb dX10_worker_71 hl (by decide) rfl (fun ls hl => ?_)
    refine lv_iload_n hx hb dX10_worker_73 rfl (lv_at hl 4 rfl) ?_
    refine lv_if_ne (tgt := 80) hx hb dX10_worker_74 (by decide) (fun c7 => ?_) (fun c7 => ?_)
    · skip
      refine lv_iload hx hb dX10_worker_80 (lv_at hl 0 rfl) ?_
      refine lv_iconst (v := (-1)) hx hb dX10_worker_82 (by decide) ?_
      refine lv_icmp_ne (tgt := 90) hx hb dX10_worker_83 (by decide) (fun c9 => absurd (by decide) c9) (fun _ => ?_)
      refine lv_iconst (v := 0) hx hb dX10_worker_86 (by decide) ?_
      refine lv_goto (tgt := 110) hx hb dX10_worker_87 (by decide) ?_
      exact W.iret (v := 0) hx hb hr (fun t ht hW => ⟨⟨0, (), rfl, (by unfold sp_worker; rw [if_neg c7, if_pos (in01_yes c2 c7)]), by rw [ht]; exact hP, va_K.moved hW.alike hK, hD⟩, hS.F ht⟩) hS.2.2 dX10_worker_110
    · skip
      refine lv_iload hx hb dX10_worker_77 (lv_at hl 0 rfl) ?_
      exact W.iret (v := (-1)) hx hb hr (fun t ht hW => ⟨⟨(-1), (), rfl, (by unfold sp_worker; rw [if_pos c7]), by rw [ht]; exact hP, va_K.moved hW.alike hK, hD⟩, hS.F ht⟩) hS.2.2 dX10_worker_79

set_option maxHeartbeats 4000000 in
set_option maxRecDepth 100000 in
theorem mX10_worker_no (l : Launch) (D : va_G) (z : Nat → Nat) (cy : Nat → ClassId) (sz : Nat) (k n x : Int32) (h9 : k = 0 ∨ sp_person k n = 0) : Met l yX10_worker wsX10_worker ({ frames := 1, cells := 0, slots := 0, locals := 22 }) (PW D (TYS cy) (MW z cy 0) sz [.ref (z 58), .int k, .int n, .int x]) (QI D (TYS cy) (MW z cy 0) (MW z cy 0) sz (fun r => r = (-1))) 0 0 (va_A (MW z cy 0) sz) := by
  refine Met.ofW (cc := cX10_worker) (maxL := 5) (ret := (some .int)) (by decide) rfl ?_
  intro p e s m args below meth c s₁ B hml hv
  obtain ⟨rfl, hsz, hP, hK, hD0⟩ := hv
  have hx := B.exec
  have hb := B.bytes
  have hr := B.returns
  have hts := atoms_spec (ws := wsX10_worker) B.pre
  have hown : s.vm.findClass RX10 = some m.cls := findClass_of_methodNamed B.named
  have hlocks := B.notSynchronized
  subst hsz
  have hD := hD0.self (sz := s.heap.size)
  have hA : ∀ q9 : Nat, s.heap.size ≤ q9 → va_A (MW z cy 0) s.heap.size q9 := fun q9 h => Or.inr h
  have hS : va_S (va_A (MW z cy 0) s.heap.size) s.heap s.heap [] := va_S.rf
  have hl := lv_entry ([.ref (z 58), .int k, .int n, .int x]) (n := 5) (Nat.le_of_ble_eq_true rfl)
  rw [lg_entry_eq]
  generalize (lg_sl ([.ref (z 58), .int k, .int n, .int x]) ++ List.replicate (5 - (lg_sl ([.ref (z 58), .int k, .int n, .int x])).length) Slot.unset).toArray = ls at hl ⊢
  have hl : lv_has ls 5 [(0, .ref (z 58)), (1, .int k), (2, .int n), (3, .int x)] := hl
  refine lv_aload_n hx hb dX10_worker_0 rfl (lv_at hl 0 rfl) ?_
  refine lv_iconst (v := 0) hx hb dX10_worker_1 (by decide) ?_
  refine va_put (D := D) (ci := 10) (v := .int 0) (ty := .int) (C := RX10) (T := TX10) (N := 58) hx hb hts iX10_worker_10 tyX10 tyX10_ok nmX10 hown hK hP hD hS 0 rfl rfl 0 (by decide) (hts (.fieldLink RX10 150 "FondsRoomModel" "thrown" "I") (by decide +kernel)) (fun _ h9 => h9) rfl (by decide +kernel) rfl rfl (Nat.le_of_ble_eq_true rfl) dX10_worker_2 (fun H locs hP hD hS => ?_)
  have hP : va_P D vwCl (MW z cy 0) H := hP
  have hD : va_D _ (MW z cy 0) := hD
  refine lv_iload_n hx hb dX10_worker_5 rfl (lv_at hl 3 rfl) ?_
  refine lv_iconst (v := 0) hx hb dX10_worker_6 (by decide) ?_
  refine lv_iconst (v := 1) hx hb dX10_worker_7 (by decide) ?_
  refine csI (As := [.int x, .int 0, .int 1]) (rest := []) ⟨hx, hb, hml, hown, hts⟩ (mX10_in l D _ x 0 1) (va_cwS 3 hts gX10_worker_X10_in rfl rfl rfl (by decide +kernel) ⟨Nat.le_of_ble_eq_true rfl, Nat.le_of_ble_eq_true rfl⟩) hK hP hS hA rfl hl.1 rfl (Nat.le_of_ble_eq_true rfl) dX10_worker_8 ⟨Nat.le_of_ble_eq_true rfl, Nat.le_of_ble_eq_true rfl⟩ (fun r1 H locs hr1 hP hS => ?_)
  obtain rfl : r1 = sp_in x 0 1 := hr1
  refine lv_if_eq (tgt := 49) hx hb dX10_worker_11 (by decide) (fun c2 => ?_) (fun c2 => ?_)
  · skip
    refine lv_iconst (v := (-1)) hx hb dX10_worker_49 (by decide) ?_
    exact W.iret (v := (-1)) hx hb hr (fun t ht hW => ⟨⟨(-1), (), rfl, (by first | rfl | trivial | decide), by rw [ht]; exact hP, va_K.moved hW.alike hK, hD⟩, hS.F ht⟩) hS.2.2 dX10_worker_50
  · skip
    refine lv_iload_n hx hb dX10_worker_14 rfl (lv_at hl 1 rfl) ?_
    refine lv_iconst (v := 1) hx hb dX10_worker_15 (by decide) ?_
    refine lv_iconst (v := 2) hx hb dX10_worker_16 (by decide) ?_
    refine csI (As := [.int k, .int 1, .int 2]) (rest := []) ⟨hx, hb, hml, hown, hts⟩ (mX10_in l D _ k 1 2) (va_cwS 3 hts gX10_worker_X10_in rfl rfl rfl (by decide +kernel) ⟨Nat.le_of_ble_eq_true rfl, Nat.le_of_ble_eq_true rfl⟩) hK hP hS hA rfl hl.1 rfl (Nat.le_of_ble_eq_true rfl) dX10_worker_17 ⟨Nat.le_of_ble_eq_true rfl, Nat.le_of_ble_eq_true rfl⟩ (fun r3 H locs hr3 hP hS => ?_)
    obtain rfl : r3 = sp_in k 1 2 := hr3
    refine lv_if_eq (tgt := 49) hx hb dX10_worker_20 (by decide) (fun c4 => ?_) (fun c4 => ?_)
    · skip
      refine lv_iconst (v := (-1)) hx hb dX10_worker_49 (by decide) ?_
      exact W.iret (v := (-1)) hx hb hr (fun t ht hW => ⟨⟨(-1), (), rfl, (by first | rfl | trivial | decide), by rw [ht]; exact hP, va_K.moved hW.alike hK, hD⟩, hS.F ht⟩) hS.2.2 dX10_worker_50
    · skip
      refine lv_iload_n hx hb dX10_worker_23 rfl (lv_at hl 2 rfl) ?_
      refine lv_iconst (v := 0) hx hb dX10_worker_24 (by decide) ?_
      refine lv_iload_n hx hb dX10_worker_25 rfl (lv_at hl 1 rfl) ?_
      refine lv_iconst (v := 1) hx hb dX10_worker_26 (by decide) ?_
      refine lv_icmp_ne (tgt := 37) hx hb dX10_worker_27 (by decide) (fun c5 => ?_) (fun c5 => ?_)
      · skip
        refine lv_aload_n hx hb dX10_worker_37 rfl (lv_at hl 0 rfl) ?_
        refine va_get (D := D) (ci := 10) (v := .int 1) (C := RX10) (T := TX10) (N := 58) hx hb hts iX10_worker_10 hown hK hP 0 rfl rfl 8 (by decide) (hts (.fieldLink RX10 19 "FondsRoomModel" "copyists" "I") (by decide +kernel)) (fun _ h9 => h9) rfl dX10_worker_38 ?_
        refine lv_iconst (v := 1) hx hb dX10_worker_41 (by decide) ?_
        refine lv_isub hx hb dX10_worker_42 ?_
        refine lv_topi (fun y6 ey6 => ?_)
        obtain rfl : y6 = 0 := ey6.trans (by decide)
        refine csI (As := [.int n, .int 0, .int 0]) (rest := []) ⟨hx, hb, hml, hown, hts⟩ (mX10_in l D _ n 0 0) (va_cwS 3 hts gX10_worker_X10_in rfl rfl rfl (by decide +kernel) ⟨Nat.le_of_ble_eq_true rfl, Nat.le_of_ble_eq_true rfl⟩) hK hP hS hA rfl hl.1 rfl (Nat.le_of_ble_eq_true rfl) dX10_worker_43 ⟨Nat.le_of_ble_eq_true rfl, Nat.le_of_ble_eq_true rfl⟩ (fun r7 H locs hr7 hP hS => ?_)
        obtain rfl : r7 = sp_in n 0 0 := hr7
        refine lv_if_ne (tgt := 51) hx hb dX10_worker_46 (by decide) (fun c9 => absurd (wno2 c4 c5 h9) c9) (fun _ => ?_)
        refine lv_iconst (v := (-1)) hx hb dX10_worker_49 (by decide) ?_
        exact W.iret (v := (-1)) hx hb hr (fun t ht hW => ⟨⟨(-1), (), rfl, (by first | rfl | trivial | decide), by rw [ht]; exact hP, va_K.moved hW.alike hK, hD⟩, hS.F ht⟩) hS.2.2 dX10_worker_50
      · skip
        refine lv_aload_n hx hb dX10_worker_30 rfl (lv_at hl 0 rfl) ?_
        refine va_get (D := D) (ci := 10) (v := .int 2) (C := RX10) (T := TX10) (N := 58) hx hb hts iX10_worker_10 hown hK hP 0 rfl rfl 7 (by decide) (hts (.fieldLink RX10 16 "FondsRoomModel" "fetchers" "I") (by decide +kernel)) (fun _ h9 => h9) rfl dX10_worker_31 ?_
        refine lv_goto (tgt := 41) hx hb dX10_worker_34 (by decide) ?_
        refine lv_iconst (v := 1) hx hb dX10_worker_41 (by decide) ?_
        refine lv_isub hx hb dX10_worker_42 ?_
        refine lv_topi (fun y8 ey8 => ?_)
        obtain rfl : y8 = 1 := ey8.trans (by decide)
        refine csI (As := [.int n, .int 0, .int 1]) (rest := []) ⟨hx, hb, hml, hown, hts⟩ (mX10_in l D _ n 0 1) (va_cwS 3 hts gX10_worker_X10_in rfl rfl rfl (by decide +kernel) ⟨Nat.le_of_ble_eq_true rfl, Nat.le_of_ble_eq_true rfl⟩) hK hP hS hA rfl hl.1 rfl (Nat.le_of_ble_eq_true rfl) dX10_worker_43 ⟨Nat.le_of_ble_eq_true rfl, Nat.le_of_ble_eq_true rfl⟩ (fun r9 H locs hr9 hP hS => ?_)
        obtain rfl : r9 = sp_in n 0 1 := hr9
        refine lv_if_ne (tgt := 51) hx hb dX10_worker_46 (by decide) (fun c9 => absurd (wno1 c5 h9) c9) (fun _ => ?_)
        refine lv_iconst (v := (-1)) hx hb dX10_worker_49 (by decide) ?_
        exact W.iret (v := (-1)) hx hb hr (fun t ht hW => ⟨⟨(-1), (), rfl, (by first | rfl | trivial | decide), by rw [ht]; exact hP, va_K.moved hW.alike hK, hD⟩, hS.F ht⟩) hS.2.2 dX10_worker_50

theorem iX10_findLine_10 : ∀ w ∈ wsX100, w ∈ wsX10_findLine := fun _ h => List.mem_cons_of_mem _ (List.mem_append_right _ h)
set_option maxHeartbeats 4000000 in
set_option maxRecDepth 100000 in
theorem mX10_findLine (l : Launch) (D : va_G) (z : Nat → Nat) (cy : Nat → ClassId) (t : Int32) (sz : Nat) : Met l yX10_findLine wsX10_findLine ({ frames := 0, cells := 0, slots := 0, locals := 0 }) (PW D (TYS cy) (MW z cy t) sz [.ref (z 58)]) (QV D (TYS cy) (MW z cy t) (MW z cy t) sz) 0 0 (va_A (MW z cy t) sz) := by
  refine Met.ofW (cc := cX10_findLine) (maxL := 3) (ret := none) (by decide) rfl ?_
  intro p e s m args below meth c s₁ B hml hv
  obtain ⟨rfl, hsz, hP, hK, hD0⟩ := hv
  have hx := B.exec
  have hb := B.bytes
  have hr := B.returns
  have hts := atoms_spec (ws := wsX10_findLine) B.pre
  have hown : s.vm.findClass RX10 = some m.cls := findClass_of_methodNamed B.named
  have hlocks := B.notSynchronized
  subst hsz
  have hD := hD0.self (sz := s.heap.size)
  have hA : ∀ q9 : Nat, s.heap.size ≤ q9 → va_A (MW z cy t) s.heap.size q9 := fun q9 h => Or.inr h
  have hS : va_S (va_A (MW z cy t) s.heap.size) s.heap s.heap [] := va_S.rf
  have hl := lv_entry ([.ref (z 58)]) (n := 3) (Nat.le_of_ble_eq_true rfl)
  rw [lg_entry_eq]
  generalize (lg_sl ([.ref (z 58)]) ++ List.replicate (3 - (lg_sl ([.ref (z 58)])).length) Slot.unset).toArray = ls at hl ⊢
  have hl : lv_has ls 3 [(0, .ref (z 58))] := hl
  refine lv_aload_n hx hb dX10_findLine_0 rfl (lv_at hl 0 rfl) ?_
  refine lv_iconst (v := 0) hx hb dX10_findLine_1 (by decide) ?_
  refine va_put (D := D) (ci := 10) (v := .int 0) (ty := .int) (C := RX10) (T := TX10) (N := 58) hx hb hts iX10_findLine_10 tyX10 tyX10_ok nmX10 hown hK hP hD hS 0 rfl rfl 57 (by decide) (hts (.fieldLink RX10 230 "FondsRoomModel" "lined" "I") (by decide +kernel)) (fun _ h9 => h9) rfl (by decide +kernel) rfl rfl (Nat.le_of_ble_eq_true rfl) dX10_findLine_2 (fun H locs hP hD hS => ?_)
  have hP : va_P D vwCl (MW z cy t) H := hP
  have hD : va_D _ (MW z cy t) := hD
  refine lv_iconst (v := 0) hx hb dX10_findLine_5 (by decide) ?_
  refine lv_istore_n (lv' := [(1, .int 0), (0, .ref (z 58))]) hx hb dX10_findLine_6 rfl hl (by decide) rfl (fun ls hl => ?_)
  refine lv_iload_n hx hb dX10_findLine_7 rfl (lv_at hl 0 rfl) ?_
  refine lv_aload_n hx hb dX10_findLine_8 rfl (lv_at hl 1 rfl) ?_
  refine va_get (D := D) (ci := 10) (v := .int 0) (C := RX10) (T := TX10) (N := 58) hx hb hts iX10_findLine_10 hown hK hP 0 rfl rfl 3 (by decide) (hts (.fieldLink RX10 153 "FondsRoomModel" "readers" "I") (by decide +kernel)) (fun _ h9 => h9) rfl dX10_findLine_9 ?_
  refine lv_icmp_ge (tgt := 96) hx hb dX10_findLine_12 (by decide) (fun _ => ?_) (fun c9 => absurd (by decide) c9)
  exact W.vret hx hb hr (fun t ht hW => ⟨⟨(), rfl, trivial, by rw [ht]; exact hP, va_K.moved hW.alike hK, hD⟩, hS.F ht⟩) hS.2.2 dX10_findLine_96

theorem iX10_queue_10 : ∀ w ∈ wsX100, w ∈ wsX10_queue := fun _ h => List.mem_cons_of_mem _ (List.mem_append_right _ h)
set_option maxHeartbeats 4000000 in
set_option maxRecDepth 100000 in
theorem mX10_queue_0 (l : Launch) (D : va_G) (z : Nat → Nat) (cy : Nat → ClassId) (sz : Nat) (i : Int32) : Met l yX10_queue wsX10_queue ({ frames := 1, cells := 0, slots := 0, locals := 22 }) (PW D (TYS cy) (MW z cy 0) sz [.ref (z 58), .int 0, .int i]) (QI D (TYS cy) (MW z cy 0) (MW z cy 0) sz (fun r => r = sp_queue i)) 0 0 (va_A (MW z cy 0) sz) := by
  refine Met.ofW (cc := cX10_queue) (maxL := 7) (ret := (some .int)) (by decide) rfl ?_
  intro p e s m args below meth c s₁ B hml hv
  obtain ⟨rfl, hsz, hP, hK, hD0⟩ := hv
  have hx := B.exec
  have hb := B.bytes
  have hr := B.returns
  have hts := atoms_spec (ws := wsX10_queue) B.pre
  have hown : s.vm.findClass RX10 = some m.cls := findClass_of_methodNamed B.named
  have hlocks := B.notSynchronized
  subst hsz
  have hD := hD0.self (sz := s.heap.size)
  have hA : ∀ q9 : Nat, s.heap.size ≤ q9 → va_A (MW z cy 0) s.heap.size q9 := fun q9 h => Or.inr h
  have hS : va_S (va_A (MW z cy 0) s.heap.size) s.heap s.heap [] := va_S.rf
  have hl := lv_entry ([.ref (z 58), .int 0, .int i]) (n := 7) (Nat.le_of_ble_eq_true rfl)
  rw [lg_entry_eq]
  generalize (lg_sl ([.ref (z 58), .int 0, .int i]) ++ List.replicate (7 - (lg_sl ([.ref (z 58), .int 0, .int i])).length) Slot.unset).toArray = ls at hl ⊢
  have hl : lv_has ls 7 [(0, .ref (z 58)), (1, .int 0), (2, .int i)] := hl
  refine lv_aload_n hx hb dX10_queue_0 rfl (lv_at hl 0 rfl) ?_
  refine lv_iconst (v := 0) hx hb dX10_queue_1 (by decide) ?_
  refine va_put (D := D) (ci := 10) (v := .int 0) (ty := .int) (C := RX10) (T := TX10) (N := 58) hx hb hts iX10_queue_10 tyX10 tyX10_ok nmX10 hown hK hP hD hS 0 rfl rfl 0 (by decide) (hts (.fieldLink RX10 150 "FondsRoomModel" "thrown" "I") (by decide +kernel)) (fun _ h9 => h9) rfl (by decide +kernel) rfl rfl (Nat.le_of_ble_eq_true rfl) dX10_queue_2 (fun H locs hP hD hS => ?_)
  have hP : va_P D vwCl (MW z cy 0) H := hP
  have hD : va_D _ (MW z cy 0) := hD
  refine lv_iload_n hx hb dX10_queue_5 rfl (lv_at hl 1 rfl) ?_
  refine lv_iconst (v := 0) hx hb dX10_queue_6 (by decide) ?_
  refine lv_iconst (v := 2) hx hb dX10_queue_7 (by decide) ?_
  refine csI (As := [.int 0, .int 0, .int 2]) (rest := []) ⟨hx, hb, hml, hown, hts⟩ (mX10_in l D _ 0 0 2) (va_cwS 3 hts gX10_queue_X10_in rfl rfl rfl (by decide +kernel) ⟨Nat.le_of_ble_eq_true rfl, Nat.le_of_ble_eq_true rfl⟩) hK hP hS hA rfl hl.1 rfl (Nat.le_of_ble_eq_true rfl) dX10_queue_8 ⟨Nat.le_of_ble_eq_true rfl, Nat.le_of_ble_eq_true rfl⟩ (fun r1 H locs hr1 hP hS => ?_)
  obtain rfl : r1 = 1 := hr1.trans (by decide)
  refine lv_if_eq (tgt := 19) hx hb dX10_queue_11 (by decide) (fun c9 => absurd c9 (by decide)) (fun _ => ?_)
  refine lv_iload_n hx hb dX10_queue_14 rfl (lv_at hl 2 rfl) ?_
  refine lv_iconst (v := (-1)) hx hb dX10_queue_15 (by decide) ?_
  refine lv_icmp_ge (tgt := 21) hx hb dX10_queue_16 (by decide) (fun c2 => ?_) (fun c2 => ?_)
  · skip
    refine lv_iload_n hx hb dX10_queue_21 rfl (lv_at hl 1 rfl) ?_
    refine lv_if_ne (tgt := 60) hx hb dX10_queue_22 (by decide) (fun c9 => absurd (by decide) c9) (fun _ => ?_)
    refine lv_aload_n hx hb dX10_queue_25 rfl (lv_at hl 0 rfl) ?_
    refine cvV (wr := []) (As := []) (rest := []) ⟨hx, hb, hml, hown, hts⟩ (mX10_findLine l D z cy 0 _  ) (cwV 0 hts gX10_queue_X10_findLine rfl rfl rfl (by decide +kernel) ⟨Nat.le_of_ble_eq_true rfl, Nat.le_of_ble_eq_true rfl⟩) hK hP hD hS hA [0, 1, 2, 3, 4, 5, 6, 7, 8, 9, 10, 11, 12, 13, 14, 15, 16] [] rfl rfl (by decide) (by decide) (by decide) 0 10 rfl rfl rfl hl.1 rfl (Nat.le_of_ble_eq_true rfl) dX10_queue_26 ⟨Nat.le_of_ble_eq_true rfl, Nat.le_of_ble_eq_true rfl⟩ (fun H locs hP hD hS => ?_)
    have hP : va_P D vwCl (MW z cy 0) H := hP
    have hD : va_D _ (MW z cy 0) := hD
    refine lv_iload_n hx hb dX10_queue_29 rfl (lv_at hl 2 rfl) ?_
    refine lv_iconst (v := (-1)) hx hb dX10_queue_30 (by decide) ?_
    refine lv_icmp_ne (tgt := 41) hx hb dX10_queue_31 (by decide) (fun c3 => ?_) (fun c3 => ?_)
    · skip
      refine lv_iload_n hx hb dX10_queue_41 rfl (lv_at hl 2 rfl) ?_
      refine lv_aload_n hx hb dX10_queue_42 rfl (lv_at hl 0 rfl) ?_
      refine va_get (D := D) (ci := 10) (v := .int 0) (C := RX10) (T := TX10) (N := 58) hx hb hts iX10_queue_10 hown hK hP 0 rfl rfl 57 (by decide) (hts (.fieldLink RX10 230 "FondsRoomModel" "lined" "I") (by decide +kernel)) (fun _ h9 => h9) rfl dX10_queue_43 ?_
      refine lv_icmp_ge (tgt := 58) hx hb dX10_queue_46 (by decide) (fun _ => ?_) (fun c9 => absurd (q_ge c2 c3) c9)
      refine lv_iconst (v := (-1)) hx hb dX10_queue_58 (by decide) ?_
      exact W.iret (v := (-1)) hx hb hr (fun t ht hW => ⟨⟨(-1), (), rfl, (by unfold sp_queue; rw [if_neg (fun z => nlt_of_le c2 z), if_neg c3]), by rw [ht]; exact hP, va_K.moved hW.alike hK, hD⟩, hS.F ht⟩) hS.2.2 dX10_queue_59
    · skip
      refine lv_aload_n hx hb dX10_queue_34 rfl (lv_at hl 0 rfl) ?_
      refine va_get (D := D) (ci := 10) (v := .int 0) (C := RX10) (T := TX10) (N := 58) hx hb hts iX10_queue_10 hown hK hP 0 rfl rfl 57 (by decide) (hts (.fieldLink RX10 230 "FondsRoomModel" "lined" "I") (by decide +kernel)) (fun _ h9 => h9) rfl dX10_queue_35 ?_
      refine lv_goto (tgt := 59) hx hb dX10_queue_38 (by decide) ?_
      exact W.iret (v := 0) hx hb hr (fun t ht hW => ⟨⟨0, (), rfl, (by unfold sp_queue; rw [if_neg (fun z => nlt_of_le c2 z), if_pos c3]), by rw [ht]; exact hP, va_K.moved hW.alike hK, hD⟩, hS.F ht⟩) hS.2.2 dX10_queue_59
  · skip
    refine lv_iconst (v := (-1)) hx hb dX10_queue_19 (by decide) ?_
    exact W.iret (v := (-1)) hx hb hr (fun t ht hW => ⟨⟨(-1), (), rfl, (by unfold sp_queue; exact (if_pos (nle_lt c2)).symm), by rw [ht]; exact hP, va_K.moved hW.alike hK, hD⟩, hS.F ht⟩) hS.2.2 dX10_queue_20

set_option maxHeartbeats 4000000 in
set_option maxRecDepth 100000 in
theorem mX10_queue_1 (l : Launch) (D : va_G) (z : Nat → Nat) (cy : Nat → ClassId) (sz : Nat) (i : Int32) : Met l yX10_queue wsX10_queue ({ frames := 1, cells := 0, slots := 0, locals := 22 }) (PW D (TYS cy) (MW z cy 0) sz [.ref (z 58), .int 1, .int i]) (QI D (TYS cy) (MW z cy 0) (MW z cy 0) sz (fun r => r = sp_queue i)) 0 0 (va_A (MW z cy 0) sz) := by
  refine Met.ofW (cc := cX10_queue) (maxL := 7) (ret := (some .int)) (by decide) rfl ?_
  intro p e s m args below meth c s₁ B hml hv
  obtain ⟨rfl, hsz, hP, hK, hD0⟩ := hv
  have hx := B.exec
  have hb := B.bytes
  have hr := B.returns
  have hts := atoms_spec (ws := wsX10_queue) B.pre
  have hown : s.vm.findClass RX10 = some m.cls := findClass_of_methodNamed B.named
  have hlocks := B.notSynchronized
  subst hsz
  have hD := hD0.self (sz := s.heap.size)
  have hA : ∀ q9 : Nat, s.heap.size ≤ q9 → va_A (MW z cy 0) s.heap.size q9 := fun q9 h => Or.inr h
  have hS : va_S (va_A (MW z cy 0) s.heap.size) s.heap s.heap [] := va_S.rf
  have hl := lv_entry ([.ref (z 58), .int 1, .int i]) (n := 7) (Nat.le_of_ble_eq_true rfl)
  rw [lg_entry_eq]
  generalize (lg_sl ([.ref (z 58), .int 1, .int i]) ++ List.replicate (7 - (lg_sl ([.ref (z 58), .int 1, .int i])).length) Slot.unset).toArray = ls at hl ⊢
  have hl : lv_has ls 7 [(0, .ref (z 58)), (1, .int 1), (2, .int i)] := hl
  refine lv_aload_n hx hb dX10_queue_0 rfl (lv_at hl 0 rfl) ?_
  refine lv_iconst (v := 0) hx hb dX10_queue_1 (by decide) ?_
  refine va_put (D := D) (ci := 10) (v := .int 0) (ty := .int) (C := RX10) (T := TX10) (N := 58) hx hb hts iX10_queue_10 tyX10 tyX10_ok nmX10 hown hK hP hD hS 0 rfl rfl 0 (by decide) (hts (.fieldLink RX10 150 "FondsRoomModel" "thrown" "I") (by decide +kernel)) (fun _ h9 => h9) rfl (by decide +kernel) rfl rfl (Nat.le_of_ble_eq_true rfl) dX10_queue_2 (fun H locs hP hD hS => ?_)
  have hP : va_P D vwCl (MW z cy 0) H := hP
  have hD : va_D _ (MW z cy 0) := hD
  refine lv_iload_n hx hb dX10_queue_5 rfl (lv_at hl 1 rfl) ?_
  refine lv_iconst (v := 0) hx hb dX10_queue_6 (by decide) ?_
  refine lv_iconst (v := 2) hx hb dX10_queue_7 (by decide) ?_
  refine csI (As := [.int 1, .int 0, .int 2]) (rest := []) ⟨hx, hb, hml, hown, hts⟩ (mX10_in l D _ 1 0 2) (va_cwS 3 hts gX10_queue_X10_in rfl rfl rfl (by decide +kernel) ⟨Nat.le_of_ble_eq_true rfl, Nat.le_of_ble_eq_true rfl⟩) hK hP hS hA rfl hl.1 rfl (Nat.le_of_ble_eq_true rfl) dX10_queue_8 ⟨Nat.le_of_ble_eq_true rfl, Nat.le_of_ble_eq_true rfl⟩ (fun r1 H locs hr1 hP hS => ?_)
  obtain rfl : r1 = 1 := hr1.trans (by decide)
  refine lv_if_eq (tgt := 19) hx hb dX10_queue_11 (by decide) (fun c9 => absurd c9 (by decide)) (fun _ => ?_)
  refine lv_iload_n hx hb dX10_queue_14 rfl (lv_at hl 2 rfl) ?_
  refine lv_iconst (v := (-1)) hx hb dX10_queue_15 (by decide) ?_
  refine lv_icmp_ge (tgt := 21) hx hb dX10_queue_16 (by decide) (fun c2 => ?_) (fun c2 => ?_)
  · skip
    refine lv_iload_n hx hb dX10_queue_21 rfl (lv_at hl 1 rfl) ?_
    refine lv_if_ne (tgt := 60) hx hb dX10_queue_22 (by decide) (fun _ => ?_) (fun c9 => absurd c9 (by decide))
    refine lv_iconst (v := 0) hx hb dX10_queue_60 (by decide) ?_
    refine lv_istore_n (lv' := [(3, .int 0), (0, .ref (z 58)), (1, .int 1), (2, .int i)]) hx hb dX10_queue_61 rfl hl (by decide) rfl (fun ls hl => ?_)
    refine lv_iconst (v := 0) hx hb dX10_queue_62 (by decide) ?_
    refine lv_istore (lv' := [(4, .int 0), (3, .int 0), (0, .ref (z 58)), (1, .int 1), (2, .int i)]) hx hb dX10_queue_63 hl (by decide) rfl (fun ls hl => ?_)
    refine lv_iload hx hb dX10_queue_65 (lv_at hl 0 rfl) ?_
    refine lv_aload_n hx hb dX10_queue_67 rfl (lv_at hl 2 rfl) ?_
    refine va_get (D := D) (ci := 10) (v := .int 0) (C := RX10) (T := TX10) (N := 58) hx hb hts iX10_queue_10 hown hK hP 0 rfl rfl 20 (by decide) (hts (.fieldLink RX10 224 "FondsRoomModel" "tickets" "I") (by decide +kernel)) (fun _ h9 => h9) rfl dX10_queue_68 ?_
    refine lv_icmp_ge (tgt := 214) hx hb dX10_queue_71 (by decide) (fun _ => ?_) (fun c9 => absurd (by decide) c9)
    refine lv_iload_n hx hb dX10_queue_214 rfl (lv_at hl 4 rfl) ?_
    refine lv_iconst (v := (-1)) hx hb dX10_queue_215 (by decide) ?_
    refine lv_icmp_ne (tgt := 223) hx hb dX10_queue_216 (by decide) (fun c3 => ?_) (fun c3 => ?_)
    · skip
      refine lv_iconst (v := (-1)) hx hb dX10_queue_223 (by decide) ?_
      exact W.iret (v := (-1)) hx hb hr (fun t ht hW => ⟨⟨(-1), (), rfl, (by unfold sp_queue; rw [if_neg (fun z => nlt_of_le c2 z), if_neg c3]), by rw [ht]; exact hP, va_K.moved hW.alike hK, hD⟩, hS.F ht⟩) hS.2.2 dX10_queue_224
    · skip
      refine lv_iload_n hx hb dX10_queue_219 rfl (lv_at hl 1 rfl) ?_
      refine lv_goto (tgt := 224) hx hb dX10_queue_220 (by decide) ?_
      exact W.iret (v := 0) hx hb hr (fun t ht hW => ⟨⟨0, (), rfl, (by unfold sp_queue; rw [if_neg (fun z => nlt_of_le c2 z), if_pos c3]), by rw [ht]; exact hP, va_K.moved hW.alike hK, hD⟩, hS.F ht⟩) hS.2.2 dX10_queue_224
  · skip
    refine lv_iconst (v := (-1)) hx hb dX10_queue_19 (by decide) ?_
    exact W.iret (v := (-1)) hx hb hr (fun t ht hW => ⟨⟨(-1), (), rfl, (by unfold sp_queue; exact (if_pos (nle_lt c2)).symm), by rw [ht]; exact hP, va_K.moved hW.alike hK, hD⟩, hS.F ht⟩) hS.2.2 dX10_queue_20

set_option maxHeartbeats 4000000 in
set_option maxRecDepth 100000 in
theorem mX10_queue_2 (l : Launch) (D : va_G) (z : Nat → Nat) (cy : Nat → ClassId) (sz : Nat) (i : Int32) : Met l yX10_queue wsX10_queue ({ frames := 1, cells := 0, slots := 0, locals := 22 }) (PW D (TYS cy) (MW z cy 0) sz [.ref (z 58), .int 2, .int i]) (QI D (TYS cy) (MW z cy 0) (MW z cy 0) sz (fun r => r = sp_queue i)) 0 0 (va_A (MW z cy 0) sz) := by
  refine Met.ofW (cc := cX10_queue) (maxL := 7) (ret := (some .int)) (by decide) rfl ?_
  intro p e s m args below meth c s₁ B hml hv
  obtain ⟨rfl, hsz, hP, hK, hD0⟩ := hv
  have hx := B.exec
  have hb := B.bytes
  have hr := B.returns
  have hts := atoms_spec (ws := wsX10_queue) B.pre
  have hown : s.vm.findClass RX10 = some m.cls := findClass_of_methodNamed B.named
  have hlocks := B.notSynchronized
  subst hsz
  have hD := hD0.self (sz := s.heap.size)
  have hA : ∀ q9 : Nat, s.heap.size ≤ q9 → va_A (MW z cy 0) s.heap.size q9 := fun q9 h => Or.inr h
  have hS : va_S (va_A (MW z cy 0) s.heap.size) s.heap s.heap [] := va_S.rf
  have hl := lv_entry ([.ref (z 58), .int 2, .int i]) (n := 7) (Nat.le_of_ble_eq_true rfl)
  rw [lg_entry_eq]
  generalize (lg_sl ([.ref (z 58), .int 2, .int i]) ++ List.replicate (7 - (lg_sl ([.ref (z 58), .int 2, .int i])).length) Slot.unset).toArray = ls at hl ⊢
  have hl : lv_has ls 7 [(0, .ref (z 58)), (1, .int 2), (2, .int i)] := hl
  refine lv_aload_n hx hb dX10_queue_0 rfl (lv_at hl 0 rfl) ?_
  refine lv_iconst (v := 0) hx hb dX10_queue_1 (by decide) ?_
  refine va_put (D := D) (ci := 10) (v := .int 0) (ty := .int) (C := RX10) (T := TX10) (N := 58) hx hb hts iX10_queue_10 tyX10 tyX10_ok nmX10 hown hK hP hD hS 0 rfl rfl 0 (by decide) (hts (.fieldLink RX10 150 "FondsRoomModel" "thrown" "I") (by decide +kernel)) (fun _ h9 => h9) rfl (by decide +kernel) rfl rfl (Nat.le_of_ble_eq_true rfl) dX10_queue_2 (fun H locs hP hD hS => ?_)
  have hP : va_P D vwCl (MW z cy 0) H := hP
  have hD : va_D _ (MW z cy 0) := hD
  refine lv_iload_n hx hb dX10_queue_5 rfl (lv_at hl 1 rfl) ?_
  refine lv_iconst (v := 0) hx hb dX10_queue_6 (by decide) ?_
  refine lv_iconst (v := 2) hx hb dX10_queue_7 (by decide) ?_
  refine csI (As := [.int 2, .int 0, .int 2]) (rest := []) ⟨hx, hb, hml, hown, hts⟩ (mX10_in l D _ 2 0 2) (va_cwS 3 hts gX10_queue_X10_in rfl rfl rfl (by decide +kernel) ⟨Nat.le_of_ble_eq_true rfl, Nat.le_of_ble_eq_true rfl⟩) hK hP hS hA rfl hl.1 rfl (Nat.le_of_ble_eq_true rfl) dX10_queue_8 ⟨Nat.le_of_ble_eq_true rfl, Nat.le_of_ble_eq_true rfl⟩ (fun r1 H locs hr1 hP hS => ?_)
  obtain rfl : r1 = 1 := hr1.trans (by decide)
  refine lv_if_eq (tgt := 19) hx hb dX10_queue_11 (by decide) (fun c9 => absurd c9 (by decide)) (fun _ => ?_)
  refine lv_iload_n hx hb dX10_queue_14 rfl (lv_at hl 2 rfl) ?_
  refine lv_iconst (v := (-1)) hx hb dX10_queue_15 (by decide) ?_
  refine lv_icmp_ge (tgt := 21) hx hb dX10_queue_16 (by decide) (fun c2 => ?_) (fun c2 => ?_)
  · skip
    refine lv_iload_n hx hb dX10_queue_21 rfl (lv_at hl 1 rfl) ?_
    refine lv_if_ne (tgt := 60) hx hb dX10_queue_22 (by decide) (fun _ => ?_) (fun c9 => absurd c9 (by decide))
    refine lv_iconst (v := 0) hx hb dX10_queue_60 (by decide) ?_
    refine lv_istore_n (lv' := [(3, .int 0), (0, .ref (z 58)), (1, .int 2), (2, .int i)]) hx hb dX10_queue_61 rfl hl (by decide) rfl (fun ls hl => ?_)
    refine lv_iconst (v := 0) hx hb dX10_queue_62 (by decide) ?_
    refine lv_istore (lv' := [(4, .int 0), (3, .int 0), (0, .ref (z 58)), (1, .int 2), (2, .int i)]) hx hb dX10_queue_63 hl (by decide) rfl (fun ls hl => ?_)
    refine lv_iload hx hb dX10_queue_65 (lv_at hl 0 rfl) ?_
    refine lv_aload_n hx hb dX10_queue_67 rfl (lv_at hl 2 rfl) ?_
    refine va_get (D := D) (ci := 10) (v := .int 0) (C := RX10) (T := TX10) (N := 58) hx hb hts iX10_queue_10 hown hK hP 0 rfl rfl 20 (by decide) (hts (.fieldLink RX10 224 "FondsRoomModel" "tickets" "I") (by decide +kernel)) (fun _ h9 => h9) rfl dX10_queue_68 ?_
    refine lv_icmp_ge (tgt := 214) hx hb dX10_queue_71 (by decide) (fun _ => ?_) (fun c9 => absurd (by decide) c9)
    refine lv_iload_n hx hb dX10_queue_214 rfl (lv_at hl 4 rfl) ?_
    refine lv_iconst (v := (-1)) hx hb dX10_queue_215 (by decide) ?_
    refine lv_icmp_ne (tgt := 223) hx hb dX10_queue_216 (by decide) (fun c3 => ?_) (fun c3 => ?_)
    · skip
      refine lv_iconst (v := (-1)) hx hb dX10_queue_223 (by decide) ?_
      exact W.iret (v := (-1)) hx hb hr (fun t ht hW => ⟨⟨(-1), (), rfl, (by unfold sp_queue; rw [if_neg (fun z => nlt_of_le c2 z), if_neg c3]), by rw [ht]; exact hP, va_K.moved hW.alike hK, hD⟩, hS.F ht⟩) hS.2.2 dX10_queue_224
    · skip
      refine lv_iload_n hx hb dX10_queue_219 rfl (lv_at hl 1 rfl) ?_
      refine lv_goto (tgt := 224) hx hb dX10_queue_220 (by decide) ?_
      exact W.iret (v := 0) hx hb hr (fun t ht hW => ⟨⟨0, (), rfl, (by unfold sp_queue; rw [if_neg (fun z => nlt_of_le c2 z), if_pos c3]), by rw [ht]; exact hP, va_K.moved hW.alike hK, hD⟩, hS.F ht⟩) hS.2.2 dX10_queue_224
  · skip
    refine lv_iconst (v := (-1)) hx hb dX10_queue_19 (by decide) ?_
    exact W.iret (v := (-1)) hx hb hr (fun t ht hW => ⟨⟨(-1), (), rfl, (by unfold sp_queue; exact (if_pos (nle_lt c2)).symm), by rw [ht]; exact hP, va_K.moved hW.alike hK, hD⟩, hS.F ht⟩) hS.2.2 dX10_queue_20

set_option maxHeartbeats 4000000 in
set_option maxRecDepth 100000 in
theorem mX10_queue_no (l : Launch) (D : va_G) (z : Nat → Nat) (cy : Nat → ClassId) (sz : Nat) (k i : Int32) (n0 : ¬ k = 0) (n1 : ¬ k = 1) (n2 : ¬ k = 2) : Met l yX10_queue wsX10_queue ({ frames := 1, cells := 0, slots := 0, locals := 22 }) (PW D (TYS cy) (MW z cy 0) sz [.ref (z 58), .int k, .int i]) (QI D (TYS cy) (MW z cy 0) (MW z cy 0) sz (fun r => r = (-1))) 0 0 (va_A (MW z cy 0) sz) := by
  refine Met.ofW (cc := cX10_queue) (maxL := 7) (ret := (some .int)) (by decide) rfl ?_
  intro p e s m args below meth c s₁ B hml hv
  obtain ⟨rfl, hsz, hP, hK, hD0⟩ := hv
  have hx := B.exec
  have hb := B.bytes
  have hr := B.returns
  have hts := atoms_spec (ws := wsX10_queue) B.pre
  have hown : s.vm.findClass RX10 = some m.cls := findClass_of_methodNamed B.named
  have hlocks := B.notSynchronized
  subst hsz
  have hD := hD0.self (sz := s.heap.size)
  have hA : ∀ q9 : Nat, s.heap.size ≤ q9 → va_A (MW z cy 0) s.heap.size q9 := fun q9 h => Or.inr h
  have hS : va_S (va_A (MW z cy 0) s.heap.size) s.heap s.heap [] := va_S.rf
  have hl := lv_entry ([.ref (z 58), .int k, .int i]) (n := 7) (Nat.le_of_ble_eq_true rfl)
  rw [lg_entry_eq]
  generalize (lg_sl ([.ref (z 58), .int k, .int i]) ++ List.replicate (7 - (lg_sl ([.ref (z 58), .int k, .int i])).length) Slot.unset).toArray = ls at hl ⊢
  have hl : lv_has ls 7 [(0, .ref (z 58)), (1, .int k), (2, .int i)] := hl
  refine lv_aload_n hx hb dX10_queue_0 rfl (lv_at hl 0 rfl) ?_
  refine lv_iconst (v := 0) hx hb dX10_queue_1 (by decide) ?_
  refine va_put (D := D) (ci := 10) (v := .int 0) (ty := .int) (C := RX10) (T := TX10) (N := 58) hx hb hts iX10_queue_10 tyX10 tyX10_ok nmX10 hown hK hP hD hS 0 rfl rfl 0 (by decide) (hts (.fieldLink RX10 150 "FondsRoomModel" "thrown" "I") (by decide +kernel)) (fun _ h9 => h9) rfl (by decide +kernel) rfl rfl (Nat.le_of_ble_eq_true rfl) dX10_queue_2 (fun H locs hP hD hS => ?_)
  have hP : va_P D vwCl (MW z cy 0) H := hP
  have hD : va_D _ (MW z cy 0) := hD
  refine lv_iload_n hx hb dX10_queue_5 rfl (lv_at hl 1 rfl) ?_
  refine lv_iconst (v := 0) hx hb dX10_queue_6 (by decide) ?_
  refine lv_iconst (v := 2) hx hb dX10_queue_7 (by decide) ?_
  refine csI (As := [.int k, .int 0, .int 2]) (rest := []) ⟨hx, hb, hml, hown, hts⟩ (mX10_in l D _ k 0 2) (va_cwS 3 hts gX10_queue_X10_in rfl rfl rfl (by decide +kernel) ⟨Nat.le_of_ble_eq_true rfl, Nat.le_of_ble_eq_true rfl⟩) hK hP hS hA rfl hl.1 rfl (Nat.le_of_ble_eq_true rfl) dX10_queue_8 ⟨Nat.le_of_ble_eq_true rfl, Nat.le_of_ble_eq_true rfl⟩ (fun r1 H locs hr1 hP hS => ?_)
  obtain rfl : r1 = sp_in k 0 2 := hr1
  refine lv_if_eq (tgt := 19) hx hb dX10_queue_11 (by decide) (fun _ => ?_) (fun c9 => absurd (in02_no n0 n1 n2) c9)
  refine lv_iconst (v := (-1)) hx hb dX10_queue_19 (by decide) ?_
  exact W.iret (v := (-1)) hx hb hr (fun t ht hW => ⟨⟨(-1), (), rfl, (by first | rfl | trivial | decide), by rw [ht]; exact hP, va_K.moved hW.alike hK, hD⟩, hS.F ht⟩) hS.2.2 dX10_queue_20

theorem iX10_home_10 : ∀ w ∈ wsX100, w ∈ wsX10_home := fun _ h => List.mem_cons_of_mem _ (List.mem_append_right _ h)
set_option maxHeartbeats 4000000 in
set_option maxRecDepth 100000 in
theorem mX10_home (l : Launch) (D : va_G) (z : Nat → Nat) (cy : Nat → ClassId) (sz : Nat) : Met l yX10_home wsX10_home ({ frames := 0, cells := 0, slots := 0, locals := 0 }) (PW D (TYS cy) (MW z cy 0) sz [.ref (z 58)]) (QI D (TYS cy) (MW z cy 0) (MW z cy 0) sz (fun r => r = 0)) 0 0 (va_A (MW z cy 0) sz) := by
  refine Met.ofW (cc := cX10_home) (maxL := 3) (ret := (some .int)) (by decide) rfl ?_
  intro p e s m args below meth c s₁ B hml hv
  obtain ⟨rfl, hsz, hP, hK, hD0⟩ := hv
  have hx := B.exec
  have hb := B.bytes
  have hr := B.returns
  have hts := atoms_spec (ws := wsX10_home) B.pre
  have hown : s.vm.findClass RX10 = some m.cls := findClass_of_methodNamed B.named
  have hlocks := B.notSynchronized
  subst hsz
  have hD := hD0.self (sz := s.heap.size)
  have hA : ∀ q9 : Nat, s.heap.size ≤ q9 → va_A (MW z cy 0) s.heap.size q9 := fun q9 h => Or.inr h
  have hS : va_S (va_A (MW z cy 0) s.heap.size) s.heap s.heap [] := va_S.rf
  have hl := lv_entry ([.ref (z 58)]) (n := 3) (Nat.le_of_ble_eq_true rfl)
  rw [lg_entry_eq]
  generalize (lg_sl ([.ref (z 58)]) ++ List.replicate (3 - (lg_sl ([.ref (z 58)])).length) Slot.unset).toArray = ls at hl ⊢
  have hl : lv_has ls 3 [(0, .ref (z 58))] := hl
  refine lv_iconst (v := 0) hx hb dX10_home_0 (by decide) ?_
  refine lv_istore_n (lv' := [(1, .int 0), (0, .ref (z 58))]) hx hb dX10_home_1 rfl hl (by decide) rfl (fun ls hl => ?_)
  refine lv_iconst (v := 0) hx hb dX10_home_2 (by decide) ?_
  refine lv_istore_n (lv' := [(2, .int 0), (1, .int 0), (0, .ref (z 58))]) hx hb dX10_home_3 rfl hl (by decide) rfl (fun ls hl => ?_)
  refine lv_iload_n hx hb dX10_home_4 rfl (lv_at hl 0 rfl) ?_
  refine lv_aload_n hx hb dX10_home_5 rfl (lv_at hl 2 rfl) ?_
  refine va_get (D := D) (ci := 10) (v := .int 0) (C := RX10) (T := TX10) (N := 58) hx hb hts iX10_home_10 hown hK hP 0 rfl rfl 2 (by decide) (hts (.fieldLink RX10 160 "FondsRoomModel" "boxes" "I") (by decide +kernel)) (fun _ h9 => h9) rfl dX10_home_6 ?_
  refine lv_icmp_ge (tgt := 35) hx hb dX10_home_9 (by decide) (fun _ => ?_) (fun c9 => absurd (by decide) c9)
  refine lv_iload_n hx hb dX10_home_35 rfl (lv_at hl 1 rfl) ?_
  exact W.iret (v := 0) hx hb hr (fun t ht hW => ⟨⟨0, (), rfl, (by first | rfl | trivial | decide), by rw [ht]; exact hP, va_K.moved hW.alike hK, hD⟩, hS.F ht⟩) hS.2.2 dX10_home_36

theorem iX10_isQuiet_10 : ∀ w ∈ wsX100, w ∈ wsX10_isQuiet := fun _ h => List.mem_cons_of_mem _ (List.mem_append_right _ h)
set_option maxHeartbeats 4000000 in
set_option maxRecDepth 100000 in
theorem mX10_isQuiet (l : Launch) (D : va_G) (z : Nat → Nat) (cy : Nat → ClassId) (sz : Nat) : Met l yX10_isQuiet wsX10_isQuiet ({ frames := 1, cells := 0, slots := 0, locals := 22 }) (PW D (TYS cy) (MW z cy 0) sz [.ref (z 58)]) (QI D (TYS cy) (MW z cy 0) (MW z cy 0) sz (fun r => r = 1)) 0 0 (va_A (MW z cy 0) sz) := by
  refine Met.ofW (cc := cX10_isQuiet) (maxL := 2) (ret := (some .boolean)) (by decide) rfl ?_
  intro p e s m args below meth c s₁ B hml hv
  obtain ⟨rfl, hsz, hP, hK, hD0⟩ := hv
  have hx := B.exec
  have hb := B.bytes
  have hr := B.returns
  have hts := atoms_spec (ws := wsX10_isQuiet) B.pre
  have hown : s.vm.findClass RX10 = some m.cls := findClass_of_methodNamed B.named
  have hlocks := B.notSynchronized
  subst hsz
  have hD := hD0.self (sz := s.heap.size)
  have hA : ∀ q9 : Nat, s.heap.size ≤ q9 → va_A (MW z cy 0) s.heap.size q9 := fun q9 h => Or.inr h
  have hS : va_S (va_A (MW z cy 0) s.heap.size) s.heap s.heap [] := va_S.rf
  have hl := lv_entry ([.ref (z 58)]) (n := 2) (Nat.le_of_ble_eq_true rfl)
  rw [lg_entry_eq]
  generalize (lg_sl ([.ref (z 58)]) ++ List.replicate (2 - (lg_sl ([.ref (z 58)])).length) Slot.unset).toArray = ls at hl ⊢
  have hl : lv_has ls 2 [(0, .ref (z 58))] := hl
  refine lv_iconst (v := 0) hx hb dX10_isQuiet_0 (by decide) ?_
  refine lv_istore_n (lv' := [(1, .int 0), (0, .ref (z 58))]) hx hb dX10_isQuiet_1 rfl hl (by decide) rfl (fun ls hl => ?_)
  refine lv_iload_n hx hb dX10_isQuiet_2 rfl (lv_at hl 0 rfl) ?_
  refine lv_aload_n hx hb dX10_isQuiet_3 rfl (lv_at hl 1 rfl) ?_
  refine va_get (D := D) (ci := 10) (v := .int 0) (C := RX10) (T := TX10) (N := 58) hx hb hts iX10_isQuiet_10 hown hK hP 0 rfl rfl 3 (by decide) (hts (.fieldLink RX10 153 "FondsRoomModel" "readers" "I") (by decide +kernel)) (fun _ h9 => h9) rfl dX10_isQuiet_4 ?_
  refine lv_icmp_ge (tgt := 33) hx hb dX10_isQuiet_7 (by decide) (fun _ => ?_) (fun c9 => absurd (by decide) c9)
  refine lv_aload_n hx hb dX10_isQuiet_33 rfl (lv_at hl 1 rfl) ?_
  refine cvI (wr := []) (As := []) (rest := []) ⟨hx, hb, hml, hown, hts⟩ (mX10_home l D z cy _  ) (cwV 0 hts gX10_isQuiet_X10_home rfl rfl rfl (by decide +kernel) ⟨Nat.le_of_ble_eq_true rfl, Nat.le_of_ble_eq_true rfl⟩) hK hP hD hS hA [0, 1, 2, 3, 4, 5, 6, 7, 8, 9, 10, 11, 12, 13, 14, 15, 16] [] rfl rfl (by decide) (by decide) (by decide) 0 10 rfl rfl rfl hl.1 rfl (Nat.le_of_ble_eq_true rfl) dX10_isQuiet_34 ⟨Nat.le_of_ble_eq_true rfl, Nat.le_of_ble_eq_true rfl⟩ (fun r1 H locs hr1 hP hD hS => ?_)
  have hP : va_P D vwCl (MW z cy 0) H := hP
  have hD : va_D _ (MW z cy 0) := hD
  obtain rfl : r1 = 0 := hr1
  refine lv_aload_n hx hb dX10_isQuiet_37 rfl (lv_at hl 1 rfl) ?_
  refine va_get (D := D) (ci := 10) (v := .int 0) (C := RX10) (T := TX10) (N := 58) hx hb hts iX10_isQuiet_10 hown hK hP 0 rfl rfl 2 (by decide) (hts (.fieldLink RX10 160 "FondsRoomModel" "boxes" "I") (by decide +kernel)) (fun _ h9 => h9) rfl dX10_isQuiet_38 ?_
  refine lv_icmp_ne (tgt := 48) hx hb dX10_isQuiet_41 (by decide) (fun c9 => absurd (by decide) c9) (fun _ => ?_)
  refine lv_iconst (v := 1) hx hb dX10_isQuiet_44 (by decide) ?_
  refine lv_goto (tgt := 49) hx hb dX10_isQuiet_45 (by decide) ?_
  exact W.zret (v := 1) hx hb hr (rfl) (fun t ht hW => ⟨⟨1, (), rfl, (by first | rfl | trivial | decide), by rw [ht]; exact hP, va_K.moved hW.alike hK, hD⟩, hS.F ht⟩) hS.2.2 dX10_isQuiet_49

theorem iX10_count_10 : ∀ w ∈ wsX100, w ∈ wsX10_count := fun _ h => List.mem_cons_of_mem _ (List.mem_append_right _ h)
set_option maxHeartbeats 4000000 in
set_option maxRecDepth 100000 in
theorem mX10_count (l : Launch) (D : va_G) (z : Nat → Nat) (cy : Nat → ClassId) (sz : Nat) (k : Int32) : Met l yX10_count wsX10_count ({ frames := 2, cells := 0, slots := 0, locals := 43 }) (PW D (TYS cy) (MW z cy 0) sz [.ref (z 58), .int k]) (QI D (TYS cy) (MW z cy 0) (MW z cy 0) sz (fun r => r = sp_count k)) 0 0 (va_A (MW z cy 0) sz) := by
  refine Met.ofW (cc := cX10_count) (maxL := 4) (ret := (some .int)) (by decide) rfl ?_
  intro p e s m args below meth c s₁ B hml hv
  obtain ⟨rfl, hsz, hP, hK, hD0⟩ := hv
  have hx := B.exec
  have hb := B.bytes
  have hr := B.returns
  have hts := atoms_spec (ws := wsX10_count) B.pre
  have hown : s.vm.findClass RX10 = some m.cls := findClass_of_methodNamed B.named
  have hlocks := B.notSynchronized
  subst hsz
  have hD := hD0.self (sz := s.heap.size)
  have hA : ∀ q9 : Nat, s.heap.size ≤ q9 → va_A (MW z cy 0) s.heap.size q9 := fun q9 h => Or.inr h
  have hS : va_S (va_A (MW z cy 0) s.heap.size) s.heap s.heap [] := va_S.rf
  have hl := lv_entry ([.ref (z 58), .int k]) (n := 4) (Nat.le_of_ble_eq_true rfl)
  rw [lg_entry_eq]
  generalize (lg_sl ([.ref (z 58), .int k]) ++ List.replicate (4 - (lg_sl ([.ref (z 58), .int k])).length) Slot.unset).toArray = ls at hl ⊢
  have hl : lv_has ls 4 [(0, .ref (z 58)), (1, .int k)] := hl
  refine lv_aload_n hx hb dX10_count_0 rfl (lv_at hl 0 rfl) ?_
  refine lv_iconst (v := 0) hx hb dX10_count_1 (by decide) ?_
  refine va_put (D := D) (ci := 10) (v := .int 0) (ty := .int) (C := RX10) (T := TX10) (N := 58) hx hb hts iX10_count_10 tyX10 tyX10_ok nmX10 hown hK hP hD hS 0 rfl rfl 0 (by decide) (hts (.fieldLink RX10 150 "FondsRoomModel" "thrown" "I") (by decide +kernel)) (fun _ h9 => h9) rfl (by decide +kernel) rfl rfl (Nat.le_of_ble_eq_true rfl) dX10_count_2 (fun H locs hP hD hS => ?_)
  have hP : va_P D vwCl (MW z cy 0) H := hP
  have hD : va_D _ (MW z cy 0) := hD
  refine lv_iconst (v := 0) hx hb dX10_count_5 (by decide) ?_
  refine lv_istore_n (lv' := [(2, .int 0), (0, .ref (z 58)), (1, .int k)]) hx hb dX10_count_6 rfl hl (by decide) rfl (fun ls hl => ?_)
  refine lv_iload_n hx hb dX10_count_7 rfl (lv_at hl 2 rfl) ?_
  by_cases j1 : k = 0
  · skip
    subst j1
    refine lv_tableIn (tgt := 84) hx hb dX10_count_8 (by decide) (by decide) rfl (by decide) ?_
    refine lv_aload_n hx hb dX10_count_84 rfl (lv_at hl 1 rfl) ?_
    refine va_get (D := D) (ci := 10) (v := .int 0) (C := RX10) (T := TX10) (N := 58) hx hb hts iX10_count_10 hown hK hP 0 rfl rfl 4 (by decide) (hts (.fieldLink RX10 163 "FondsRoomModel" "turn" "I") (by decide +kernel)) (fun _ h9 => h9) rfl dX10_count_85 ?_
    exact W.iret (v := 0) hx hb hr (fun t ht hW => ⟨⟨0, (), rfl, (by decide), by rw [ht]; exact hP, va_K.moved hW.alike hK, hD⟩, hS.F ht⟩) hS.2.2 dX10_count_88
  by_cases j2 : k = 1
  · skip
    subst j2
    refine lv_tableIn (tgt := 89) hx hb dX10_count_8 (by decide) (by decide) rfl (by decide) ?_
    refine lv_aload_n hx hb dX10_count_89 rfl (lv_at hl 1 rfl) ?_
    refine va_get (D := D) (ci := 10) (v := .int 0) (C := RX10) (T := TX10) (N := 58) hx hb hts iX10_count_10 hown hK hP 0 rfl rfl 1 (by decide) (hts (.fieldLink RX10 166 "FondsRoomModel" "desks" "I") (by decide +kernel)) (fun _ h9 => h9) rfl dX10_count_90 ?_
    exact W.iret (v := 0) hx hb hr (fun t ht hW => ⟨⟨0, (), rfl, (by decide), by rw [ht]; exact hP, va_K.moved hW.alike hK, hD⟩, hS.F ht⟩) hS.2.2 dX10_count_93
  by_cases j3 : k = 2
  · skip
    subst j3
    refine lv_tableIn (tgt := 94) hx hb dX10_count_8 (by decide) (by decide) rfl (by decide) ?_
    refine lv_aload_n hx hb dX10_count_94 rfl (lv_at hl 1 rfl) ?_
    refine va_get (D := D) (ci := 10) (v := .int 0) (C := RX10) (T := TX10) (N := 58) hx hb hts iX10_count_10 hown hK hP 0 rfl rfl 2 (by decide) (hts (.fieldLink RX10 160 "FondsRoomModel" "boxes" "I") (by decide +kernel)) (fun _ h9 => h9) rfl dX10_count_95 ?_
    exact W.iret (v := 0) hx hb hr (fun t ht hW => ⟨⟨0, (), rfl, (by decide), by rw [ht]; exact hP, va_K.moved hW.alike hK, hD⟩, hS.F ht⟩) hS.2.2 dX10_count_98
  by_cases j4 : k = 3
  · skip
    subst j4
    refine lv_tableIn (tgt := 99) hx hb dX10_count_8 (by decide) (by decide) rfl (by decide) ?_
    refine lv_aload_n hx hb dX10_count_99 rfl (lv_at hl 1 rfl) ?_
    refine va_get (D := D) (ci := 10) (v := .int 0) (C := RX10) (T := TX10) (N := 58) hx hb hts iX10_count_10 hown hK hP 0 rfl rfl 3 (by decide) (hts (.fieldLink RX10 153 "FondsRoomModel" "readers" "I") (by decide +kernel)) (fun _ h9 => h9) rfl dX10_count_100 ?_
    exact W.iret (v := 0) hx hb hr (fun t ht hW => ⟨⟨0, (), rfl, (by decide), by rw [ht]; exact hP, va_K.moved hW.alike hK, hD⟩, hS.F ht⟩) hS.2.2 dX10_count_103
  by_cases j5 : k = 4
  · skip
    subst j5
    refine lv_tableIn (tgt := 104) hx hb dX10_count_8 (by decide) (by decide) rfl (by decide) ?_
    refine lv_aload_n hx hb dX10_count_104 rfl (lv_at hl 1 rfl) ?_
    refine va_get (D := D) (ci := 10) (v := .int 0) (C := RX10) (T := TX10) (N := 58) hx hb hts iX10_count_10 hown hK hP 0 rfl rfl 47 (by decide) (hts (.fieldLink RX10 186 "FondsRoomModel" "events" "I") (by decide +kernel)) (fun _ h9 => h9) rfl dX10_count_105 ?_
    exact W.iret (v := 0) hx hb hr (fun t ht hW => ⟨⟨0, (), rfl, (by decide), by rw [ht]; exact hP, va_K.moved hW.alike hK, hD⟩, hS.F ht⟩) hS.2.2 dX10_count_108
  by_cases j6 : k = 5
  · skip
    subst j6
    refine lv_tableIn (tgt := 109) hx hb dX10_count_8 (by decide) (by decide) rfl (by decide) ?_
    refine lv_aload_n hx hb dX10_count_109 rfl (lv_at hl 1 rfl) ?_
    refine cvI (wr := []) (As := []) (rest := []) ⟨hx, hb, hml, hown, hts⟩ (mX10_home l D z cy _  ) (cwV 0 hts gX10_count_X10_home rfl rfl rfl (by decide +kernel) ⟨Nat.le_of_ble_eq_true rfl, Nat.le_of_ble_eq_true rfl⟩) hK hP hD hS hA [0, 1, 2, 3, 4, 5, 6, 7, 8, 9, 10, 11, 12, 13, 14, 15, 16] [] rfl rfl (by decide) (by decide) (by decide) 0 10 rfl rfl rfl hl.1 rfl (Nat.le_of_ble_eq_true rfl) dX10_count_110 ⟨Nat.le_of_ble_eq_true rfl, Nat.le_of_ble_eq_true rfl⟩ (fun r7 H locs hr7 hP hD hS => ?_)
    have hP : va_P D vwCl (MW z cy 0) H := hP
    have hD : va_D _ (MW z cy 0) := hD
    obtain rfl : r7 = 0 := hr7
    exact W.iret (v := 0) hx hb hr (fun t ht hW => ⟨⟨0, (), rfl, (by decide), by rw [ht]; exact hP, va_K.moved hW.alike hK, hD⟩, hS.F ht⟩) hS.2.2 dX10_count_113
  by_cases j8 : k = 6
  · skip
    subst j8
    refine lv_tableIn (tgt := 114) hx hb dX10_count_8 (by decide) (by decide) rfl (by decide) ?_
    refine lv_aload_n hx hb dX10_count_114 rfl (lv_at hl 1 rfl) ?_
    refine cvI (wr := []) (As := []) (rest := []) ⟨hx, hb, hml, hown, hts⟩ (mX10_isQuiet l D z cy _  ) (cwV 0 hts gX10_count_X10_isQuiet rfl rfl rfl (by decide +kernel) ⟨Nat.le_of_ble_eq_true rfl, Nat.le_of_ble_eq_true rfl⟩) hK hP hD hS hA [0, 1, 2, 3, 4, 5, 6, 7, 8, 9, 10, 11, 12, 13, 14, 15, 16] [] rfl rfl (by decide) (by decide) (by decide) 0 10 rfl rfl rfl hl.1 rfl (Nat.le_of_ble_eq_true rfl) dX10_count_115 ⟨Nat.le_of_ble_eq_true rfl, Nat.le_of_ble_eq_true rfl⟩ (fun r9 H locs hr9 hP hD hS => ?_)
    have hP : va_P D vwCl (MW z cy 0) H := hP
    have hD : va_D _ (MW z cy 0) := hD
    obtain rfl : r9 = 1 := hr9
    refine lv_if_eq (tgt := 125) hx hb dX10_count_118 (by decide) (fun c9 => absurd c9 (by decide)) (fun _ => ?_)
    refine lv_iconst (v := 1) hx hb dX10_count_121 (by decide) ?_
    refine lv_goto (tgt := 126) hx hb dX10_count_122 (by decide) ?_
    exact W.iret (v := 1) hx hb hr (fun t ht hW => ⟨⟨1, (), rfl, (by decide), by rw [ht]; exact hP, va_K.moved hW.alike hK, hD⟩, hS.F ht⟩) hS.2.2 dX10_count_126
  by_cases j10 : k = 7
  · skip
    subst j10
    refine lv_tableIn (tgt := 127) hx hb dX10_count_8 (by decide) (by decide) rfl (by decide) ?_
    refine lv_iconst (v := 0) hx hb dX10_count_127 (by decide) ?_
    refine lv_istore_n (lv' := [(3, .int 0), (2, .int 0), (0, .ref (z 58)), (1, .int 7)]) hx hb dX10_count_128 rfl hl (by decide) rfl (fun ls hl => ?_)
    refine lv_iload_n hx hb dX10_count_129 rfl (lv_at hl 0 rfl) ?_
    refine lv_aload_n hx hb dX10_count_130 rfl (lv_at hl 2 rfl) ?_
    refine va_get (D := D) (ci := 10) (v := .int 0) (C := RX10) (T := TX10) (N := 58) hx hb hts iX10_count_10 hown hK hP 0 rfl rfl 3 (by decide) (hts (.fieldLink RX10 153 "FondsRoomModel" "readers" "I") (by decide +kernel)) (fun _ h9 => h9) rfl dX10_count_131 ?_
    refine lv_icmp_ge (tgt := 174) hx hb dX10_count_134 (by decide) (fun _ => ?_) (fun c9 => absurd (by decide) c9)
    refine lv_iload_n hx hb dX10_count_174 rfl (lv_at hl 1 rfl) ?_
    exact W.iret (v := 0) hx hb hr (fun t ht hW => ⟨⟨0, (), rfl, (by decide), by rw [ht]; exact hP, va_K.moved hW.alike hK, hD⟩, hS.F ht⟩) hS.2.2 dX10_count_175
  by_cases j11 : k = 8
  · skip
    subst j11
    refine lv_tableIn (tgt := 127) hx hb dX10_count_8 (by decide) (by decide) rfl (by decide) ?_
    refine lv_iconst (v := 0) hx hb dX10_count_127 (by decide) ?_
    refine lv_istore_n (lv' := [(3, .int 0), (2, .int 0), (0, .ref (z 58)), (1, .int 8)]) hx hb dX10_count_128 rfl hl (by decide) rfl (fun ls hl => ?_)
    refine lv_iload_n hx hb dX10_count_129 rfl (lv_at hl 0 rfl) ?_
    refine lv_aload_n hx hb dX10_count_130 rfl (lv_at hl 2 rfl) ?_
    refine va_get (D := D) (ci := 10) (v := .int 0) (C := RX10) (T := TX10) (N := 58) hx hb hts iX10_count_10 hown hK hP 0 rfl rfl 3 (by decide) (hts (.fieldLink RX10 153 "FondsRoomModel" "readers" "I") (by decide +kernel)) (fun _ h9 => h9) rfl dX10_count_131 ?_
    refine lv_icmp_ge (tgt := 174) hx hb dX10_count_134 (by decide) (fun _ => ?_) (fun c9 => absurd (by decide) c9)
    refine lv_iload_n hx hb dX10_count_174 rfl (lv_at hl 1 rfl) ?_
    exact W.iret (v := 0) hx hb hr (fun t ht hW => ⟨⟨0, (), rfl, (by decide), by rw [ht]; exact hP, va_K.moved hW.alike hK, hD⟩, hS.F ht⟩) hS.2.2 dX10_count_175
  by_cases j12 : k = 9
  · skip
    subst j12
    refine lv_tableIn (tgt := 127) hx hb dX10_count_8 (by decide) (by decide) rfl (by decide) ?_
    refine lv_iconst (v := 0) hx hb dX10_count_127 (by decide) ?_
    refine lv_istore_n (lv' := [(3, .int 0), (2, .int 0), (0, .ref (z 58)), (1, .int 9)]) hx hb dX10_count_128 rfl hl (by decide) rfl (fun ls hl => ?_)
    refine lv_iload_n hx hb dX10_count_129 rfl (lv_at hl 0 rfl) ?_
    refine lv_aload_n hx hb dX10_count_130 rfl (lv_at hl 2 rfl) ?_
    refine va_get (D := D) (ci := 10) (v := .int 0) (C := RX10) (T := TX10) (N := 58) hx hb hts iX10_count_10 hown hK hP 0 rfl rfl 3 (by decide) (hts (.fieldLink RX10 153 "FondsRoomModel" "readers" "I") (by decide +kernel)) (fun _ h9 => h9) rfl dX10_count_131 ?_
    refine lv_icmp_ge (tgt := 174) hx hb dX10_count_134 (by decide) (fun _ => ?_) (fun c9 => absurd (by decide) c9)
    refine lv_iload_n hx hb dX10_count_174 rfl (lv_at hl 1 rfl) ?_
    exact W.iret (v := 0) hx hb hr (fun t ht hW => ⟨⟨0, (), rfl, (by decide), by rw [ht]; exact hP, va_K.moved hW.alike hK, hD⟩, hS.F ht⟩) hS.2.2 dX10_count_175
  by_cases j13 : k = 10
  · skip
    subst j13
    refine lv_tableIn (tgt := 176) hx hb dX10_count_8 (by decide) (by decide) rfl (by decide) ?_
    refine lv_aload_n hx hb dX10_count_176 rfl (lv_at hl 1 rfl) ?_
    refine va_get (D := D) (ci := 10) (v := .int 0) (C := RX10) (T := TX10) (N := 58) hx hb hts iX10_count_10 hown hK hP 0 rfl rfl 22 (by decide) (hts (.fieldLink RX10 210 "FondsRoomModel" "made" "I") (by decide +kernel)) (fun _ h9 => h9) rfl dX10_count_177 ?_
    exact W.iret (v := 0) hx hb hr (fun t ht hW => ⟨⟨0, (), rfl, (by decide), by rw [ht]; exact hP, va_K.moved hW.alike hK, hD⟩, hS.F ht⟩) hS.2.2 dX10_count_180
  by_cases j14 : k = 11
  · skip
    subst j14
    refine lv_tableIn (tgt := 181) hx hb dX10_count_8 (by decide) (by decide) rfl (by decide) ?_
    refine lv_aload_n hx hb dX10_count_181 rfl (lv_at hl 1 rfl) ?_
    refine va_get (D := D) (ci := 10) (v := .int 0) (C := RX10) (T := TX10) (N := 58) hx hb hts iX10_count_10 hown hK hP 0 rfl rfl 21 (by decide) (hts (.fieldLink RX10 250 "FondsRoomModel" "begun" "I") (by decide +kernel)) (fun _ h9 => h9) rfl dX10_count_182 ?_
    exact W.iret (v := 0) hx hb hr (fun t ht hW => ⟨⟨0, (), rfl, (by decide), by rw [ht]; exact hP, va_K.moved hW.alike hK, hD⟩, hS.F ht⟩) hS.2.2 dX10_count_185
  by_cases j15 : k = 12
  · skip
    subst j15
    refine lv_tableIn (tgt := 186) hx hb dX10_count_8 (by decide) (by decide) rfl (by decide) ?_
    refine lv_aload_n hx hb dX10_count_186 rfl (lv_at hl 1 rfl) ?_
    refine va_get (D := D) (ci := 10) (v := .int (-1)) (C := RX10) (T := TX10) (N := 58) hx hb hts iX10_count_10 hown hK hP 0 rfl rfl 5 (by decide) (hts (.fieldLink RX10 9 "FondsRoomModel" "bellTurn" "I") (by decide +kernel)) (fun _ h9 => h9) rfl dX10_count_187 ?_
    exact W.iret (v := (-1)) hx hb hr (fun t ht hW => ⟨⟨(-1), (), rfl, (by decide), by rw [ht]; exact hP, va_K.moved hW.alike hK, hD⟩, hS.F ht⟩) hS.2.2 dX10_count_190
  by_cases j16 : k = 13
  · skip
    subst j16
    refine lv_tableIn (tgt := 191) hx hb dX10_count_8 (by decide) (by decide) rfl (by decide) ?_
    refine lv_aload_n hx hb dX10_count_191 rfl (lv_at hl 1 rfl) ?_
    refine va_get (D := D) (ci := 10) (v := .int 0) (C := RX10) (T := TX10) (N := 58) hx hb hts iX10_count_10 hown hK hP 0 rfl rfl 52 (by decide) (hts (.fieldLink RX10 183 "FondsRoomModel" "mishaps" "I") (by decide +kernel)) (fun _ h9 => h9) rfl dX10_count_192 ?_
    exact W.iret (v := 0) hx hb hr (fun t ht hW => ⟨⟨0, (), rfl, (by decide), by rw [ht]; exact hP, va_K.moved hW.alike hK, hD⟩, hS.F ht⟩) hS.2.2 dX10_count_195
  by_cases j17 : k = 14
  · skip
    subst j17
    refine lv_tableIn (tgt := 196) hx hb dX10_count_8 (by decide) (by decide) rfl (by decide) ?_
    refine lv_aload_n hx hb dX10_count_196 rfl (lv_at hl 1 rfl) ?_
    refine va_get (D := D) (ci := 10) (v := .int 0) (C := RX10) (T := TX10) (N := 58) hx hb hts iX10_count_10 hown hK hP 0 rfl rfl 23 (by decide) (hts (.fieldLink RX10 257 "FondsRoomModel" "urgentRun" "I") (by decide +kernel)) (fun _ h9 => h9) rfl dX10_count_197 ?_
    exact W.iret (v := 0) hx hb hr (fun t ht hW => ⟨⟨0, (), rfl, (by decide), by rw [ht]; exact hP, va_K.moved hW.alike hK, hD⟩, hS.F ht⟩) hS.2.2 dX10_count_200
  have hout := ts_out (x := k) (n := 15) (by decide) (fun j9 hj9 => by rcases (show j9 = 0 ∨ j9 = 1 ∨ j9 = 2 ∨ j9 = 3 ∨ j9 = 4 ∨ j9 = 5 ∨ j9 = 6 ∨ j9 = 7 ∨ j9 = 8 ∨ j9 = 9 ∨ j9 = 10 ∨ j9 = 11 ∨ j9 = 12 ∨ j9 = 13 ∨ j9 = 14 by omega) with rfl | rfl | rfl | rfl | rfl | rfl | rfl | rfl | rfl | rfl | rfl | rfl | rfl | rfl | rfl <;> first | exact j1 | exact j2 | exact j3 | exact j4 | exact j5 | exact j6 | exact j8 | exact j10 | exact j11 | exact j12 | exact j13 | exact j14 | exact j15 | exact j16 | exact j17)
  refine lv_tableOut (tgt := 201) hx hb dX10_count_8 (by omega) (by decide) ?_
  refine lv_iconst (v := (-1)) hx hb dX10_count_201 (by decide) ?_
  exact W.iret (v := (-1)) hx hb hr (fun t ht hW => ⟨⟨(-1), (), rfl, (by unfold sp_count; rw [if_neg j1, if_neg j2, if_neg j3, if_neg j4, if_neg j5, if_neg j6, if_neg j8, if_neg j10, if_neg j11, if_neg j12, if_neg j13, if_neg j14, if_neg j15, if_neg j16, if_neg j17]), by rw [ht]; exact hP, va_K.moved hW.alike hK, hD⟩, hS.F ht⟩) hS.2.2 dX10_count_202

theorem iX10_event__10 : ∀ w ∈ wsX100, w ∈ wsX10_event_ := fun _ h => List.mem_cons_of_mem _ (List.mem_append_right _ h)
set_option maxHeartbeats 4000000 in
set_option maxRecDepth 100000 in
theorem mX10_event_ (l : Launch) (D : va_G) (z : Nat → Nat) (cy : Nat → ClassId) (sz : Nat) (a k : Int32) : Met l yX10_event_ wsX10_event_ ({ frames := 1, cells := 0, slots := 0, locals := 22 }) (PW D (TYS cy) (MW z cy 0) sz [.ref (z 58), .int a, .int k]) (QI D (TYS cy) (MW z cy 0) (MWe z cy 0) sz (fun r => r = 0)) 0 0 (va_A (MW z cy 0) sz) := by
  refine Met.ofW (cc := cX10_event_) (maxL := 3) (ret := (some .int)) (by decide) rfl ?_
  intro p e s m args below meth c s₁ B hml hv
  obtain ⟨rfl, hsz, hP, hK, hD0⟩ := hv
  have hx := B.exec
  have hb := B.bytes
  have hr := B.returns
  have hts := atoms_spec (ws := wsX10_event_) B.pre
  have hown : s.vm.findClass RX10 = some m.cls := findClass_of_methodNamed B.named
  have hlocks := B.notSynchronized
  subst hsz
  have hD := hD0.self (sz := s.heap.size)
  have hA : ∀ q9 : Nat, s.heap.size ≤ q9 → va_A (MW z cy 0) s.heap.size q9 := fun q9 h => Or.inr h
  have hS : va_S (va_A (MW z cy 0) s.heap.size) s.heap s.heap [] := va_S.rf
  have hl := lv_entry ([.ref (z 58), .int a, .int k]) (n := 3) (Nat.le_of_ble_eq_true rfl)
  rw [lg_entry_eq]
  generalize (lg_sl ([.ref (z 58), .int a, .int k]) ++ List.replicate (3 - (lg_sl ([.ref (z 58), .int a, .int k])).length) Slot.unset).toArray = ls at hl ⊢
  have hl : lv_has ls 3 [(0, .ref (z 58)), (1, .int a), (2, .int k)] := hl
  refine lv_aload_n hx hb dX10_event__0 rfl (lv_at hl 0 rfl) ?_
  refine lv_iload_n hx hb dX10_event__1 rfl (lv_at hl 1 rfl) ?_
  refine lv_iconst (v := 0) hx hb dX10_event__2 (by decide) ?_
  refine lv_aload_n hx hb dX10_event__3 rfl (lv_at hl 0 rfl) ?_
  refine va_get (D := D) (ci := 10) (v := .int 0) (C := RX10) (T := TX10) (N := 58) hx hb hts iX10_event__10 hown hK hP 0 rfl rfl 47 (by decide) (hts (.fieldLink RX10 186 "FondsRoomModel" "events" "I") (by decide +kernel)) (fun _ h9 => h9) rfl dX10_event__4 ?_
  refine lv_iconst (v := 1) hx hb dX10_event__7 (by decide) ?_
  refine lv_isub hx hb dX10_event__8 ?_
  refine lv_topi (fun y1 ey1 => ?_)
  obtain rfl : y1 = (-1) := ey1.trans (by decide)
  refine csI (As := [.int a, .int 0, .int (-1)]) (rest := [.ref (z 58)]) ⟨hx, hb, hml, hown, hts⟩ (mX10_in l D _ a 0 (-1)) (va_cwS 3 hts gX10_event__X10_in rfl rfl rfl (by decide +kernel) ⟨Nat.le_of_ble_eq_true rfl, Nat.le_of_ble_eq_true rfl⟩) hK hP hS hA rfl hl.1 rfl (Nat.le_of_ble_eq_true rfl) dX10_event__9 ⟨Nat.le_of_ble_eq_true rfl, Nat.le_of_ble_eq_true rfl⟩ (fun r2 H locs hr2 hP hS => ?_)
  obtain rfl : r2 = sp_in a 0 (-1) := hr2
  refine lv_if_eq (tgt := 28) hx hb dX10_event__12 (by decide) (fun _ => ?_) (fun c9 => absurd (sp_in_m1 _) c9)
  refine lv_iconst (v := 1) hx hb dX10_event__28 (by decide) ?_
  refine va_put (D := D) (ci := 10) (v := .int 1) (ty := .int) (C := RX10) (T := TX10) (N := 58) hx hb hts iX10_event__10 tyX10 tyX10_ok nmX10 hown hK hP hD hS 0 rfl rfl 0 (by decide) (hts (.fieldLink RX10 150 "FondsRoomModel" "thrown" "I") (by decide +kernel)) (fun _ h9 => h9) rfl (by decide +kernel) rfl rfl (Nat.le_of_ble_eq_true rfl) dX10_event__29 (fun H locs hP hD hS => ?_)
  have hP : va_P D vwCl (MWe z cy 0) H := hP
  have hD : va_D _ (MWe z cy 0) := hD
  refine lv_aload_n hx hb dX10_event__32 rfl (lv_at hl 0 rfl) ?_
  refine va_get (D := D) (ci := 10) (v := .int 1) (C := RX10) (T := TX10) (N := 58) hx hb hts iX10_event__10 hown hK hP 0 rfl rfl 0 (by decide) (hts (.fieldLink RX10 150 "FondsRoomModel" "thrown" "I") (by decide +kernel)) (fun _ h9 => h9) rfl dX10_event__33 ?_
  refine lv_if_le (tgt := 41) hx hb dX10_event__36 (by decide) (fun c9 => absurd c9 (by decide)) (fun _ => ?_)
  refine lv_iconst (v := 0) hx hb dX10_event__39 (by decide) ?_
  exact W.iret (v := 0) hx hb hr (fun t ht hW => ⟨⟨0, (), rfl, (by first | rfl | trivial | decide), by rw [ht]; exact hP, va_K.moved hW.alike hK, hD⟩, hS.F ht⟩) hS.2.2 dX10_event__40

theorem iX10_thrown_10 : ∀ w ∈ wsX100, w ∈ wsX10_thrown := fun _ h => List.mem_cons_of_mem _ (List.mem_append_right _ h)
set_option maxHeartbeats 4000000 in
set_option maxRecDepth 100000 in
theorem mX10_thrown (l : Launch) (D : va_G) (z : Nat → Nat) (cy : Nat → ClassId) (sz : Nat) : Met l yX10_thrown wsX10_thrown ({ frames := 0, cells := 0, slots := 0, locals := 0 }) (PW D (TYS cy) (MWe z cy 0) sz [.ref (z 58)]) (QI D (TYS cy) (MWe z cy 0) (MWe z cy 0) sz (fun r => r = 1)) 0 0 (va_A (MWe z cy 0) sz) := by
  refine Met.ofW (cc := cX10_thrown) (maxL := 1) (ret := (some .int)) (by decide) rfl ?_
  intro p e s m args below meth c s₁ B hml hv
  obtain ⟨rfl, hsz, hP, hK, hD0⟩ := hv
  have hx := B.exec
  have hb := B.bytes
  have hr := B.returns
  have hts := atoms_spec (ws := wsX10_thrown) B.pre
  have hown : s.vm.findClass RX10 = some m.cls := findClass_of_methodNamed B.named
  have hlocks := B.notSynchronized
  subst hsz
  have hD := hD0.self (sz := s.heap.size)
  have hA : ∀ q9 : Nat, s.heap.size ≤ q9 → va_A (MWe z cy 0) s.heap.size q9 := fun q9 h => Or.inr h
  have hS : va_S (va_A (MWe z cy 0) s.heap.size) s.heap s.heap [] := va_S.rf
  have hl := lv_entry ([.ref (z 58)]) (n := 1) (Nat.le_of_ble_eq_true rfl)
  rw [lg_entry_eq]
  generalize (lg_sl ([.ref (z 58)]) ++ List.replicate (1 - (lg_sl ([.ref (z 58)])).length) Slot.unset).toArray = ls at hl ⊢
  have hl : lv_has ls 1 [(0, .ref (z 58))] := hl
  refine lv_aload_n hx hb dX10_thrown_0 rfl (lv_at hl 0 rfl) ?_
  refine va_get (D := D) (ci := 10) (v := .int 1) (C := RX10) (T := TX10) (N := 58) hx hb hts iX10_thrown_10 hown hK hP 0 rfl rfl 0 (by decide) (hts (.fieldLink RX10 150 "FondsRoomModel" "thrown" "I") (by decide +kernel)) (fun _ h9 => h9) rfl dX10_thrown_1 ?_
  exact W.iret (v := 1) hx hb hr (fun t ht hW => ⟨⟨1, (), rfl, (by first | rfl | trivial | decide), by rw [ht]; exact hP, va_K.moved hW.alike hK, hD⟩, hS.F ht⟩) hS.2.2 dX10_thrown_4

theorem iX10_doMishaps_10 : ∀ w ∈ wsX100, w ∈ wsX10_doMishaps := fun _ h => List.mem_cons_of_mem _ (List.mem_append_right _ h)
set_option maxHeartbeats 4000000 in
set_option maxRecDepth 100000 in
theorem mX10_doMishaps (l : Launch) (D : va_G) (z : Nat → Nat) (cy : Nat → ClassId) (t : Int32) (sz : Nat) : Met l yX10_doMishaps wsX10_doMishaps ({ frames := 0, cells := 0, slots := 0, locals := 0 }) (PW D (TYS cy) (MW z cy t) sz [.ref (z 58)]) (QV D (TYS cy) (MW z cy t) (MW z cy t) sz) 0 0 (va_A (MW z cy t) sz) := by
  refine Met.ofW (cc := cX10_doMishaps) (maxL := 3) (ret := none) (by decide) rfl ?_
  intro p e s m args below meth c s₁ B hml hv
  obtain ⟨rfl, hsz, hP, hK, hD0⟩ := hv
  have hx := B.exec
  have hb := B.bytes
  have hr := B.returns
  have hts := atoms_spec (ws := wsX10_doMishaps) B.pre
  have hown : s.vm.findClass RX10 = some m.cls := findClass_of_methodNamed B.named
  have hlocks := B.notSynchronized
  subst hsz
  have hD := hD0.self (sz := s.heap.size)
  have hA : ∀ q9 : Nat, s.heap.size ≤ q9 → va_A (MW z cy t) s.heap.size q9 := fun q9 h => Or.inr h
  have hS : va_S (va_A (MW z cy t) s.heap.size) s.heap s.heap [] := va_S.rf
  have hl := lv_entry ([.ref (z 58)]) (n := 3) (Nat.le_of_ble_eq_true rfl)
  rw [lg_entry_eq]
  generalize (lg_sl ([.ref (z 58)]) ++ List.replicate (3 - (lg_sl ([.ref (z 58)])).length) Slot.unset).toArray = ls at hl ⊢
  have hl : lv_has ls 3 [(0, .ref (z 58))] := hl
  refine lv_iconst (v := 0) hx hb dX10_doMishaps_0 (by decide) ?_
  refine lv_istore_n (lv' := [(1, .int 0), (0, .ref (z 58))]) hx hb dX10_doMishaps_1 rfl hl (by decide) rfl (fun ls hl => ?_)
  refine lv_iconst (v := 0) hx hb dX10_doMishaps_2 (by decide) ?_
  refine lv_istore_n (lv' := [(2, .int 0), (1, .int 0), (0, .ref (z 58))]) hx hb dX10_doMishaps_3 rfl hl (by decide) rfl (fun ls hl => ?_)
  refine lv_iload_n hx hb dX10_doMishaps_4 rfl (lv_at hl 0 rfl) ?_
  refine lv_aload_n hx hb dX10_doMishaps_5 rfl (lv_at hl 2 rfl) ?_
  refine va_get (D := D) (ci := 10) (v := .int 0) (C := RX10) (T := TX10) (N := 58) hx hb hts iX10_doMishaps_10 hown hK hP 0 rfl rfl 52 (by decide) (hts (.fieldLink RX10 183 "FondsRoomModel" "mishaps" "I") (by decide +kernel)) (fun _ h9 => h9) rfl dX10_doMishaps_6 ?_
  refine lv_icmp_ge (tgt := 89) hx hb dX10_doMishaps_9 (by decide) (fun _ => ?_) (fun c9 => absurd (by decide) c9)
  refine lv_aload_n hx hb dX10_doMishaps_89 rfl (lv_at hl 2 rfl) ?_
  refine lv_iload_n hx hb dX10_doMishaps_90 rfl (lv_at hl 1 rfl) ?_
  refine va_put (D := D) (ci := 10) (v := .int 0) (ty := .int) (C := RX10) (T := TX10) (N := 58) hx hb hts iX10_doMishaps_10 tyX10 tyX10_ok nmX10 hown hK hP hD hS 0 rfl rfl 52 (by decide) (hts (.fieldLink RX10 183 "FondsRoomModel" "mishaps" "I") (by decide +kernel)) (fun _ h9 => h9) rfl (by decide +kernel) rfl rfl (Nat.le_of_ble_eq_true rfl) dX10_doMishaps_91 (fun H locs hP hD hS => ?_)
  have hP : va_P D vwCl (MW z cy t) H := hP
  have hD : va_D _ (MW z cy t) := hD
  exact W.vret hx hb hr (fun t ht hW => ⟨⟨(), rfl, trivial, by rw [ht]; exact hP, va_K.moved hW.alike hK, hD⟩, hS.F ht⟩) hS.2.2 dX10_doMishaps_94

theorem iX10_doBell_10 : ∀ w ∈ wsX100, w ∈ wsX10_doBell := fun _ h => List.mem_cons_of_mem _ (List.mem_append_right _ h)
set_option maxHeartbeats 4000000 in
set_option maxRecDepth 100000 in
theorem mX10_doBell (l : Launch) (D : va_G) (z : Nat → Nat) (cy : Nat → ClassId) (t : Int32) (sz : Nat) (ht9 : ¬ t = -1) : Met l yX10_doBell wsX10_doBell ({ frames := 0, cells := 0, slots := 0, locals := 0 }) (PW D (TYS cy) (MW z cy t) sz [.ref (z 58)]) (QV D (TYS cy) (MW z cy t) (MW z cy t) sz) 0 0 (va_A (MW z cy t) sz) := by
  refine Met.ofW (cc := cX10_doBell) (maxL := 2) (ret := none) (by decide) rfl ?_
  intro p e s m args below meth c s₁ B hml hv
  obtain ⟨rfl, hsz, hP, hK, hD0⟩ := hv
  have hx := B.exec
  have hb := B.bytes
  have hr := B.returns
  have hts := atoms_spec (ws := wsX10_doBell) B.pre
  have hown : s.vm.findClass RX10 = some m.cls := findClass_of_methodNamed B.named
  have hlocks := B.notSynchronized
  subst hsz
  have hD := hD0.self (sz := s.heap.size)
  have hA : ∀ q9 : Nat, s.heap.size ≤ q9 → va_A (MW z cy t) s.heap.size q9 := fun q9 h => Or.inr h
  have hS : va_S (va_A (MW z cy t) s.heap.size) s.heap s.heap [] := va_S.rf
  have hl := lv_entry ([.ref (z 58)]) (n := 2) (Nat.le_of_ble_eq_true rfl)
  rw [lg_entry_eq]
  generalize (lg_sl ([.ref (z 58)]) ++ List.replicate (2 - (lg_sl ([.ref (z 58)])).length) Slot.unset).toArray = ls at hl ⊢
  have hl : lv_has ls 2 [(0, .ref (z 58))] := hl
  refine lv_aload_n hx hb dX10_doBell_0 rfl (lv_at hl 0 rfl) ?_
  refine va_get (D := D) (ci := 10) (v := .int t) (C := RX10) (T := TX10) (N := 58) hx hb hts iX10_doBell_10 hown hK hP 0 rfl rfl 4 (by decide) (hts (.fieldLink RX10 163 "FondsRoomModel" "turn" "I") (by decide +kernel)) (fun _ h9 => h9) rfl dX10_doBell_1 ?_
  refine lv_aload_n hx hb dX10_doBell_4 rfl (lv_at hl 0 rfl) ?_
  refine va_get (D := D) (ci := 10) (v := .int (-1)) (C := RX10) (T := TX10) (N := 58) hx hb hts iX10_doBell_10 hown hK hP 0 rfl rfl 5 (by decide) (hts (.fieldLink RX10 9 "FondsRoomModel" "bellTurn" "I") (by decide +kernel)) (fun _ h9 => h9) rfl dX10_doBell_5 ?_
  refine lv_icmp_eq (tgt := 12) hx hb dX10_doBell_8 (by decide) (fun c9 => absurd c9 (ht9)) (fun _ => ?_)
  exact W.vret hx hb hr (fun t ht hW => ⟨⟨(), rfl, trivial, by rw [ht]; exact hP, va_K.moved hW.alike hK, hD⟩, hS.F ht⟩) hS.2.2 dX10_doBell_11

theorem iX10_doFetchers_10 : ∀ w ∈ wsX100, w ∈ wsX10_doFetchers := fun _ h => List.mem_cons_of_mem _ (List.mem_append_right _ h)
set_option maxHeartbeats 4000000 in
set_option maxRecDepth 100000 in
theorem mX10_doFetchers (l : Launch) (D : va_G) (z : Nat → Nat) (cy : Nat → ClassId) (t : Int32) (sz : Nat) : Met l yX10_doFetchers wsX10_doFetchers ({ frames := 0, cells := 0, slots := 0, locals := 0 }) (PW D (TYS cy) (MW z cy t) sz [.ref (z 58)]) (QV D (TYS cy) (MW z cy t) (MW z cy t) sz) 0 0 (va_A (MW z cy t) sz) := by
  refine Met.ofW (cc := cX10_doFetchers) (maxL := 4) (ret := none) (by decide) rfl ?_
  intro p e s m args below meth c s₁ B hml hv
  obtain ⟨rfl, hsz, hP, hK, hD0⟩ := hv
  have hx := B.exec
  have hb := B.bytes
  have hr := B.returns
  have hts := atoms_spec (ws := wsX10_doFetchers) B.pre
  have hown : s.vm.findClass RX10 = some m.cls := findClass_of_methodNamed B.named
  have hlocks := B.notSynchronized
  subst hsz
  have hD := hD0.self (sz := s.heap.size)
  have hA : ∀ q9 : Nat, s.heap.size ≤ q9 → va_A (MW z cy t) s.heap.size q9 := fun q9 h => Or.inr h
  have hS : va_S (va_A (MW z cy t) s.heap.size) s.heap s.heap [] := va_S.rf
  have hl := lv_entry ([.ref (z 58)]) (n := 4) (Nat.le_of_ble_eq_true rfl)
  rw [lg_entry_eq]
  generalize (lg_sl ([.ref (z 58)]) ++ List.replicate (4 - (lg_sl ([.ref (z 58)])).length) Slot.unset).toArray = ls at hl ⊢
  have hl : lv_has ls 4 [(0, .ref (z 58))] := hl
  refine lv_iconst (v := 0) hx hb dX10_doFetchers_0 (by decide) ?_
  refine lv_istore_n (lv' := [(1, .int 0), (0, .ref (z 58))]) hx hb dX10_doFetchers_1 rfl hl (by decide) rfl (fun ls hl => ?_)
  refine lv_iload_n hx hb dX10_doFetchers_2 rfl (lv_at hl 0 rfl) ?_
  refine lv_aload_n hx hb dX10_doFetchers_3 rfl (lv_at hl 1 rfl) ?_
  refine va_get (D := D) (ci := 10) (v := .int 2) (C := RX10) (T := TX10) (N := 58) hx hb hts iX10_doFetchers_10 hown hK hP 0 rfl rfl 7 (by decide) (hts (.fieldLink RX10 16 "FondsRoomModel" "fetchers" "I") (by decide +kernel)) (fun _ h9 => h9) rfl dX10_doFetchers_4 ?_
  refine lv_icmp_ge (tgt := 148) hx hb dX10_doFetchers_7 (by decide) (fun c9 => absurd c9 (by decide)) (fun _ => ?_)
  refine lv_aload_n hx hb dX10_doFetchers_10 rfl (lv_at hl 1 rfl) ?_
  refine va_get (D := D) (ci := 10) (v := .ref (z 42)) (C := RX10) (T := TX10) (N := 58) hx hb hts iX10_doFetchers_10 hown hK hP 0 rfl rfl 42 (by decide) (hts (.fieldLink RX10 111 "FondsRoomModel" "fBox" "[I") (by decide +kernel)) (fun _ h9 => h9) rfl dX10_doFetchers_11 ?_
  refine lv_iload_n hx hb dX10_doFetchers_14 rfl (lv_at hl 0 rfl) ?_
  refine va_iald hx hb hK hP 11 0 rfl rfl (vp_in_iff.mpr (by decide)) dX10_doFetchers_15 ?_
  refine lv_topi (fun y1 ey1 => ?_)
  obtain rfl : y1 = (-1) := ey1.trans (by decide)
  refine lv_istore_n (lv' := [(2, .int (-1)), (1, .int 0), (0, .ref (z 58))]) hx hb dX10_doFetchers_16 rfl hl (by decide) rfl (fun ls hl => ?_)
  refine lv_aload_n hx hb dX10_doFetchers_17 rfl (lv_at hl 2 rfl) ?_
  refine va_get (D := D) (ci := 10) (v := .ref (z 44)) (C := RX10) (T := TX10) (N := 58) hx hb hts iX10_doFetchers_10 hown hK hP 0 rfl rfl 44 (by decide) (hts (.fieldLink RX10 117 "FondsRoomModel" "fTo" "[I") (by decide +kernel)) (fun _ h9 => h9) rfl dX10_doFetchers_18 ?_
  refine lv_iload_n hx hb dX10_doFetchers_21 rfl (lv_at hl 1 rfl) ?_
  refine va_iald hx hb hK hP 12 0 rfl rfl (vp_in_iff.mpr (by decide)) dX10_doFetchers_22 ?_
  refine lv_topi (fun y2 ey2 => ?_)
  obtain rfl : y2 = 0 := ey2.trans (by decide)
  refine lv_istore_n (lv' := [(3, .int 0), (2, .int (-1)), (1, .int 0), (0, .ref (z 58))]) hx hb dX10_doFetchers_23 rfl hl (by decide) rfl (fun ls hl => ?_)
  refine lv_iload_n hx hb dX10_doFetchers_24 rfl (lv_at hl 1 rfl) ?_
  refine lv_iconst (v := (-1)) hx hb dX10_doFetchers_25 (by decide) ?_
  refine lv_icmp_ne (tgt := 32) hx hb dX10_doFetchers_26 (by decide) (fun c9 => absurd (by decide) c9) (fun _ => ?_)
  refine lv_goto (tgt := 142) hx hb dX10_doFetchers_29 (by decide) ?_
  refine lv_iinc (v := 1) (lv' := [(1, .int 1), (3, .int 0), (2, .int (-1)), (0, .ref (z 58))]) hx hb dX10_doFetchers_142 hl (k := 2) rfl (by decide) (by decide) rfl (fun ls hl => ?_)
  refine lv_goto (tgt := 2) hx hb dX10_doFetchers_145 (by decide) ?_
  refine lv_iload_n hx hb dX10_doFetchers_2 rfl (lv_at hl 0 rfl) ?_
  refine lv_aload_n hx hb dX10_doFetchers_3 rfl (lv_at hl 3 rfl) ?_
  refine va_get (D := D) (ci := 10) (v := .int 2) (C := RX10) (T := TX10) (N := 58) hx hb hts iX10_doFetchers_10 hown hK hP 0 rfl rfl 7 (by decide) (hts (.fieldLink RX10 16 "FondsRoomModel" "fetchers" "I") (by decide +kernel)) (fun _ h9 => h9) rfl dX10_doFetchers_4 ?_
  refine lv_icmp_ge (tgt := 148) hx hb dX10_doFetchers_7 (by decide) (fun c9 => absurd c9 (by decide)) (fun _ => ?_)
  refine lv_aload_n hx hb dX10_doFetchers_10 rfl (lv_at hl 3 rfl) ?_
  refine va_get (D := D) (ci := 10) (v := .ref (z 42)) (C := RX10) (T := TX10) (N := 58) hx hb hts iX10_doFetchers_10 hown hK hP 0 rfl rfl 42 (by decide) (hts (.fieldLink RX10 111 "FondsRoomModel" "fBox" "[I") (by decide +kernel)) (fun _ h9 => h9) rfl dX10_doFetchers_11 ?_
  refine lv_iload_n hx hb dX10_doFetchers_14 rfl (lv_at hl 0 rfl) ?_
  refine va_iald hx hb hK hP 11 0 rfl rfl (vp_in_iff.mpr (by decide)) dX10_doFetchers_15 ?_
  refine lv_topi (fun y3 ey3 => ?_)
  obtain rfl : y3 = (-1) := ey3.trans (by decide)
  refine lv_istore_n (lv' := [(2, .int (-1)), (1, .int 1), (3, .int 0), (0, .ref (z 58))]) hx hb dX10_doFetchers_16 rfl hl (by decide) rfl (fun ls hl => ?_)
  refine lv_aload_n hx hb dX10_doFetchers_17 rfl (lv_at hl 3 rfl) ?_
  refine va_get (D := D) (ci := 10) (v := .ref (z 44)) (C := RX10) (T := TX10) (N := 58) hx hb hts iX10_doFetchers_10 hown hK hP 0 rfl rfl 44 (by decide) (hts (.fieldLink RX10 117 "FondsRoomModel" "fTo" "[I") (by decide +kernel)) (fun _ h9 => h9) rfl dX10_doFetchers_18 ?_
  refine lv_iload_n hx hb dX10_doFetchers_21 rfl (lv_at hl 1 rfl) ?_
  refine va_iald hx hb hK hP 12 0 rfl rfl (vp_in_iff.mpr (by decide)) dX10_doFetchers_22 ?_
  refine lv_topi (fun y4 ey4 => ?_)
  obtain rfl : y4 = 0 := ey4.trans (by decide)
  refine lv_istore_n (lv' := [(3, .int 0), (2, .int (-1)), (1, .int 1), (0, .ref (z 58))]) hx hb dX10_doFetchers_23 rfl hl (by decide) rfl (fun ls hl => ?_)
  refine lv_iload_n hx hb dX10_doFetchers_24 rfl (lv_at hl 1 rfl) ?_
  refine lv_iconst (v := (-1)) hx hb dX10_doFetchers_25 (by decide) ?_
  refine lv_icmp_ne (tgt := 32) hx hb dX10_doFetchers_26 (by decide) (fun c9 => absurd (by decide) c9) (fun _ => ?_)
  refine lv_goto (tgt := 142) hx hb dX10_doFetchers_29 (by decide) ?_
  refine lv_iinc (v := 2) (lv' := [(1, .int 2), (3, .int 0), (2, .int (-1)), (0, .ref (z 58))]) hx hb dX10_doFetchers_142 hl (k := 2) rfl (by decide) (by decide) rfl (fun ls hl => ?_)
  refine lv_goto (tgt := 2) hx hb dX10_doFetchers_145 (by decide) ?_
  refine lv_iload_n hx hb dX10_doFetchers_2 rfl (lv_at hl 0 rfl) ?_
  refine lv_aload_n hx hb dX10_doFetchers_3 rfl (lv_at hl 3 rfl) ?_
  refine va_get (D := D) (ci := 10) (v := .int 2) (C := RX10) (T := TX10) (N := 58) hx hb hts iX10_doFetchers_10 hown hK hP 0 rfl rfl 7 (by decide) (hts (.fieldLink RX10 16 "FondsRoomModel" "fetchers" "I") (by decide +kernel)) (fun _ h9 => h9) rfl dX10_doFetchers_4 ?_
  refine lv_icmp_ge (tgt := 148) hx hb dX10_doFetchers_7 (by decide) (fun _ => ?_) (fun c9 => absurd (by decide) c9)
  exact W.vret hx hb hr (fun t ht hW => ⟨⟨(), rfl, trivial, by rw [ht]; exact hP, va_K.moved hW.alike hK, hD⟩, hS.F ht⟩) hS.2.2 dX10_doFetchers_148

theorem iX10_doCopyists_10 : ∀ w ∈ wsX100, w ∈ wsX10_doCopyists := fun _ h => List.mem_cons_of_mem _ (List.mem_append_right _ h)
set_option maxHeartbeats 4000000 in
set_option maxRecDepth 100000 in
theorem mX10_doCopyists (l : Launch) (D : va_G) (z : Nat → Nat) (cy : Nat → ClassId) (t : Int32) (sz : Nat) : Met l yX10_doCopyists wsX10_doCopyists ({ frames := 0, cells := 0, slots := 0, locals := 0 }) (PW D (TYS cy) (MW z cy t) sz [.ref (z 58)]) (QV D (TYS cy) (MW z cy t) (MW z cy t) sz) 0 0 (va_A (MW z cy t) sz) := by
  refine Met.ofW (cc := cX10_doCopyists) (maxL := 4) (ret := none) (by decide) rfl ?_
  intro p e s m args below meth c s₁ B hml hv
  obtain ⟨rfl, hsz, hP, hK, hD0⟩ := hv
  have hx := B.exec
  have hb := B.bytes
  have hr := B.returns
  have hts := atoms_spec (ws := wsX10_doCopyists) B.pre
  have hown : s.vm.findClass RX10 = some m.cls := findClass_of_methodNamed B.named
  have hlocks := B.notSynchronized
  subst hsz
  have hD := hD0.self (sz := s.heap.size)
  have hA : ∀ q9 : Nat, s.heap.size ≤ q9 → va_A (MW z cy t) s.heap.size q9 := fun q9 h => Or.inr h
  have hS : va_S (va_A (MW z cy t) s.heap.size) s.heap s.heap [] := va_S.rf
  have hl := lv_entry ([.ref (z 58)]) (n := 4) (Nat.le_of_ble_eq_true rfl)
  rw [lg_entry_eq]
  generalize (lg_sl ([.ref (z 58)]) ++ List.replicate (4 - (lg_sl ([.ref (z 58)])).length) Slot.unset).toArray = ls at hl ⊢
  have hl : lv_has ls 4 [(0, .ref (z 58))] := hl
  refine lv_iconst (v := 0) hx hb dX10_doCopyists_0 (by decide) ?_
  refine lv_istore_n (lv' := [(1, .int 0), (0, .ref (z 58))]) hx hb dX10_doCopyists_1 rfl hl (by decide) rfl (fun ls hl => ?_)
  refine lv_iload_n hx hb dX10_doCopyists_2 rfl (lv_at hl 0 rfl) ?_
  refine lv_aload_n hx hb dX10_doCopyists_3 rfl (lv_at hl 1 rfl) ?_
  refine va_get (D := D) (ci := 10) (v := .int 1) (C := RX10) (T := TX10) (N := 58) hx hb hts iX10_doCopyists_10 hown hK hP 0 rfl rfl 8 (by decide) (hts (.fieldLink RX10 19 "FondsRoomModel" "copyists" "I") (by decide +kernel)) (fun _ h9 => h9) rfl dX10_doCopyists_4 ?_
  refine lv_icmp_ge (tgt := 126) hx hb dX10_doCopyists_7 (by decide) (fun c9 => absurd c9 (by decide)) (fun _ => ?_)
  refine lv_aload_n hx hb dX10_doCopyists_10 rfl (lv_at hl 1 rfl) ?_
  refine va_get (D := D) (ci := 10) (v := .ref (z 45)) (C := RX10) (T := TX10) (N := 58) hx hb hts iX10_doCopyists_10 hown hK hP 0 rfl rfl 45 (by decide) (hts (.fieldLink RX10 120 "FondsRoomModel" "cBox" "[I") (by decide +kernel)) (fun _ h9 => h9) rfl dX10_doCopyists_11 ?_
  refine lv_iload_n hx hb dX10_doCopyists_14 rfl (lv_at hl 0 rfl) ?_
  refine va_iald hx hb hK hP 13 0 rfl rfl (vp_in_iff.mpr (by decide)) dX10_doCopyists_15 ?_
  refine lv_topi (fun y1 ey1 => ?_)
  obtain rfl : y1 = (-1) := ey1.trans (by decide)
  refine lv_istore_n (lv' := [(2, .int (-1)), (1, .int 0), (0, .ref (z 58))]) hx hb dX10_doCopyists_16 rfl hl (by decide) rfl (fun ls hl => ?_)
  refine lv_iload_n hx hb dX10_doCopyists_17 rfl (lv_at hl 0 rfl) ?_
  refine lv_iconst (v := (-1)) hx hb dX10_doCopyists_18 (by decide) ?_
  refine lv_icmp_ne (tgt := 25) hx hb dX10_doCopyists_19 (by decide) (fun c9 => absurd (by decide) c9) (fun _ => ?_)
  refine lv_goto (tgt := 120) hx hb dX10_doCopyists_22 (by decide) ?_
  refine lv_iinc (v := 1) (lv' := [(1, .int 1), (2, .int (-1)), (0, .ref (z 58))]) hx hb dX10_doCopyists_120 hl (k := 1) rfl (by decide) (by decide) rfl (fun ls hl => ?_)
  refine lv_goto (tgt := 2) hx hb dX10_doCopyists_123 (by decide) ?_
  refine lv_iload_n hx hb dX10_doCopyists_2 rfl (lv_at hl 0 rfl) ?_
  refine lv_aload_n hx hb dX10_doCopyists_3 rfl (lv_at hl 2 rfl) ?_
  refine va_get (D := D) (ci := 10) (v := .int 1) (C := RX10) (T := TX10) (N := 58) hx hb hts iX10_doCopyists_10 hown hK hP 0 rfl rfl 8 (by decide) (hts (.fieldLink RX10 19 "FondsRoomModel" "copyists" "I") (by decide +kernel)) (fun _ h9 => h9) rfl dX10_doCopyists_4 ?_
  refine lv_icmp_ge (tgt := 126) hx hb dX10_doCopyists_7 (by decide) (fun _ => ?_) (fun c9 => absurd (by decide) c9)
  exact W.vret hx hb hr (fun t ht hW => ⟨⟨(), rfl, trivial, by rw [ht]; exact hP, va_K.moved hW.alike hK, hD⟩, hS.F ht⟩) hS.2.2 dX10_doCopyists_126

theorem iX10_doDesks_10 : ∀ w ∈ wsX100, w ∈ wsX10_doDesks := fun _ h => List.mem_cons_of_mem _ (List.mem_append_right _ h)
set_option maxHeartbeats 4000000 in
set_option maxRecDepth 100000 in
theorem mX10_doDesks (l : Launch) (D : va_G) (z : Nat → Nat) (cy : Nat → ClassId) (t : Int32) (sz : Nat) : Met l yX10_doDesks wsX10_doDesks ({ frames := 1, cells := 0, slots := 0, locals := 22 }) (PW D (TYS cy) (MW z cy t) sz [.ref (z 58)]) (QV D (TYS cy) (MW z cy t) (MW z cy t) sz) 0 0 (va_A (MW z cy t) sz) := by
  refine Met.ofW (cc := cX10_doDesks) (maxL := 5) (ret := none) (by decide) rfl ?_
  intro p e s m args below meth c s₁ B hml hv
  obtain ⟨rfl, hsz, hP, hK, hD0⟩ := hv
  have hx := B.exec
  have hb := B.bytes
  have hr := B.returns
  have hts := atoms_spec (ws := wsX10_doDesks) B.pre
  have hown : s.vm.findClass RX10 = some m.cls := findClass_of_methodNamed B.named
  have hlocks := B.notSynchronized
  subst hsz
  have hD := hD0.self (sz := s.heap.size)
  have hA : ∀ q9 : Nat, s.heap.size ≤ q9 → va_A (MW z cy t) s.heap.size q9 := fun q9 h => Or.inr h
  have hS : va_S (va_A (MW z cy t) s.heap.size) s.heap s.heap [] := va_S.rf
  have hl := lv_entry ([.ref (z 58)]) (n := 5) (Nat.le_of_ble_eq_true rfl)
  rw [lg_entry_eq]
  generalize (lg_sl ([.ref (z 58)]) ++ List.replicate (5 - (lg_sl ([.ref (z 58)])).length) Slot.unset).toArray = ls at hl ⊢
  have hl : lv_has ls 5 [(0, .ref (z 58))] := hl
  refine lv_aload_n hx hb dX10_doDesks_0 rfl (lv_at hl 0 rfl) ?_
  refine cvV (wr := []) (As := []) (rest := []) ⟨hx, hb, hml, hown, hts⟩ (mX10_findLine l D z cy t _  ) (cwV 0 hts gX10_doDesks_X10_findLine rfl rfl rfl (by decide +kernel) ⟨Nat.le_of_ble_eq_true rfl, Nat.le_of_ble_eq_true rfl⟩) hK hP hD hS hA [0, 1, 2, 3, 4, 5, 6, 7, 8, 9, 10, 11, 12, 13, 14, 15, 16] [] rfl rfl (by decide) (by decide) (by decide) 0 10 rfl rfl rfl hl.1 rfl (Nat.le_of_ble_eq_true rfl) dX10_doDesks_1 ⟨Nat.le_of_ble_eq_true rfl, Nat.le_of_ble_eq_true rfl⟩ (fun H locs hP hD hS => ?_)
  have hP : va_P D vwCl (MW z cy t) H := hP
  have hD : va_D _ (MW z cy t) := hD
  refine lv_iconst (v := 0) hx hb dX10_doDesks_4 (by decide) ?_
  refine lv_istore_n (lv' := [(1, .int 0), (0, .ref (z 58))]) hx hb dX10_doDesks_5 rfl hl (by decide) rfl (fun ls hl => ?_)
  refine lv_iload_n hx hb dX10_doDesks_6 rfl (lv_at hl 0 rfl) ?_
  refine lv_aload_n hx hb dX10_doDesks_7 rfl (lv_at hl 1 rfl) ?_
  refine va_get (D := D) (ci := 10) (v := .int 0) (C := RX10) (T := TX10) (N := 58) hx hb hts iX10_doDesks_10 hown hK hP 0 rfl rfl 57 (by decide) (hts (.fieldLink RX10 230 "FondsRoomModel" "lined" "I") (by decide +kernel)) (fun _ h9 => h9) rfl dX10_doDesks_8 ?_
  refine lv_icmp_ge (tgt := 149) hx hb dX10_doDesks_11 (by decide) (fun _ => ?_) (fun c9 => absurd (by decide) c9)
  exact W.vret hx hb hr (fun t ht hW => ⟨⟨(), rfl, trivial, by rw [ht]; exact hP, va_K.moved hW.alike hK, hD⟩, hS.F ht⟩) hS.2.2 dX10_doDesks_149

theorem iX10_leftBox_10 : ∀ w ∈ wsX100, w ∈ wsX10_leftBox := fun _ h => List.mem_cons_of_mem _ (List.mem_append_right _ h)
set_option maxHeartbeats 4000000 in
set_option maxRecDepth 100000 in
theorem mX10_leftBox (l : Launch) (D : va_G) (z : Nat → Nat) (cy : Nat → ClassId) (t : Int32) (sz : Nat) : Met l yX10_leftBox wsX10_leftBox ({ frames := 0, cells := 0, slots := 0, locals := 0 }) (PW D (TYS cy) (MW z cy t) sz [.ref (z 58)]) (QI D (TYS cy) (MW z cy t) (MW z cy t) sz (fun r => r = (-1))) 0 0 (va_A (MW z cy t) sz) := by
  refine Met.ofW (cc := cX10_leftBox) (maxL := 2) (ret := (some .int)) (by decide) rfl ?_
  intro p e s m args below meth c s₁ B hml hv
  obtain ⟨rfl, hsz, hP, hK, hD0⟩ := hv
  have hx := B.exec
  have hb := B.bytes
  have hr := B.returns
  have hts := atoms_spec (ws := wsX10_leftBox) B.pre
  have hown : s.vm.findClass RX10 = some m.cls := findClass_of_methodNamed B.named
  have hlocks := B.notSynchronized
  subst hsz
  have hD := hD0.self (sz := s.heap.size)
  have hA : ∀ q9 : Nat, s.heap.size ≤ q9 → va_A (MW z cy t) s.heap.size q9 := fun q9 h => Or.inr h
  have hS : va_S (va_A (MW z cy t) s.heap.size) s.heap s.heap [] := va_S.rf
  have hl := lv_entry ([.ref (z 58)]) (n := 2) (Nat.le_of_ble_eq_true rfl)
  rw [lg_entry_eq]
  generalize (lg_sl ([.ref (z 58)]) ++ List.replicate (2 - (lg_sl ([.ref (z 58)])).length) Slot.unset).toArray = ls at hl ⊢
  have hl : lv_has ls 2 [(0, .ref (z 58))] := hl
  refine lv_iconst (v := 0) hx hb dX10_leftBox_0 (by decide) ?_
  refine lv_istore_n (lv' := [(1, .int 0), (0, .ref (z 58))]) hx hb dX10_leftBox_1 rfl hl (by decide) rfl (fun ls hl => ?_)
  refine lv_iload_n hx hb dX10_leftBox_2 rfl (lv_at hl 0 rfl) ?_
  refine lv_aload_n hx hb dX10_leftBox_3 rfl (lv_at hl 1 rfl) ?_
  refine va_get (D := D) (ci := 10) (v := .int 0) (C := RX10) (T := TX10) (N := 58) hx hb hts iX10_leftBox_10 hown hK hP 0 rfl rfl 2 (by decide) (hts (.fieldLink RX10 160 "FondsRoomModel" "boxes" "I") (by decide +kernel)) (fun _ h9 => h9) rfl dX10_leftBox_4 ?_
  refine lv_icmp_ge (tgt := 28) hx hb dX10_leftBox_7 (by decide) (fun _ => ?_) (fun c9 => absurd (by decide) c9)
  refine lv_iconst (v := (-1)) hx hb dX10_leftBox_28 (by decide) ?_
  exact W.iret (v := (-1)) hx hb hr (fun t ht hW => ⟨⟨(-1), (), rfl, (by first | rfl | trivial | decide), by rw [ht]; exact hP, va_K.moved hW.alike hK, hD⟩, hS.F ht⟩) hS.2.2 dX10_leftBox_29

theorem iX10_wantedBox_10 : ∀ w ∈ wsX100, w ∈ wsX10_wantedBox := fun _ h => List.mem_cons_of_mem _ (List.mem_append_right _ h)
set_option maxHeartbeats 4000000 in
set_option maxRecDepth 100000 in
theorem mX10_wantedBox (l : Launch) (D : va_G) (z : Nat → Nat) (cy : Nat → ClassId) (t : Int32) (sz : Nat) : Met l yX10_wantedBox wsX10_wantedBox ({ frames := 0, cells := 0, slots := 0, locals := 0 }) (PW D (TYS cy) (MW z cy t) sz [.ref (z 58)]) (QI D (TYS cy) (MW z cy t) (MW z cy t) sz (fun r => r = (-1))) 0 0 (va_A (MW z cy t) sz) := by
  refine Met.ofW (cc := cX10_wantedBox) (maxL := 3) (ret := (some .int)) (by decide) rfl ?_
  intro p e s m args below meth c s₁ B hml hv
  obtain ⟨rfl, hsz, hP, hK, hD0⟩ := hv
  have hx := B.exec
  have hb := B.bytes
  have hr := B.returns
  have hts := atoms_spec (ws := wsX10_wantedBox) B.pre
  have hown : s.vm.findClass RX10 = some m.cls := findClass_of_methodNamed B.named
  have hlocks := B.notSynchronized
  subst hsz
  have hD := hD0.self (sz := s.heap.size)
  have hA : ∀ q9 : Nat, s.heap.size ≤ q9 → va_A (MW z cy t) s.heap.size q9 := fun q9 h => Or.inr h
  have hS : va_S (va_A (MW z cy t) s.heap.size) s.heap s.heap [] := va_S.rf
  have hl := lv_entry ([.ref (z 58)]) (n := 3) (Nat.le_of_ble_eq_true rfl)
  rw [lg_entry_eq]
  generalize (lg_sl ([.ref (z 58)]) ++ List.replicate (3 - (lg_sl ([.ref (z 58)])).length) Slot.unset).toArray = ls at hl ⊢
  have hl : lv_has ls 3 [(0, .ref (z 58))] := hl
  refine lv_iconst (v := (-1)) hx hb dX10_wantedBox_0 (by decide) ?_
  refine lv_istore_n (lv' := [(1, .int (-1)), (0, .ref (z 58))]) hx hb dX10_wantedBox_1 rfl hl (by decide) rfl (fun ls hl => ?_)
  refine lv_iconst (v := 0) hx hb dX10_wantedBox_2 (by decide) ?_
  refine lv_istore_n (lv' := [(2, .int 0), (1, .int (-1)), (0, .ref (z 58))]) hx hb dX10_wantedBox_3 rfl hl (by decide) rfl (fun ls hl => ?_)
  refine lv_iload_n hx hb dX10_wantedBox_4 rfl (lv_at hl 0 rfl) ?_
  refine lv_aload_n hx hb dX10_wantedBox_5 rfl (lv_at hl 2 rfl) ?_
  refine va_get (D := D) (ci := 10) (v := .int 0) (C := RX10) (T := TX10) (N := 58) hx hb hts iX10_wantedBox_10 hown hK hP 0 rfl rfl 2 (by decide) (hts (.fieldLink RX10 160 "FondsRoomModel" "boxes" "I") (by decide +kernel)) (fun _ h9 => h9) rfl dX10_wantedBox_6 ?_
  refine lv_icmp_ge (tgt := 59) hx hb dX10_wantedBox_9 (by decide) (fun _ => ?_) (fun c9 => absurd (by decide) c9)
  refine lv_iload_n hx hb dX10_wantedBox_59 rfl (lv_at hl 1 rfl) ?_
  exact W.iret (v := (-1)) hx hb hr (fun t ht hW => ⟨⟨(-1), (), rfl, (by first | rfl | trivial | decide), by rw [ht]; exact hP, va_K.moved hW.alike hK, hD⟩, hS.F ht⟩) hS.2.2 dX10_wantedBox_60

theorem iX10_doWays_10 : ∀ w ∈ wsX100, w ∈ wsX10_doWays := fun _ h => List.mem_cons_of_mem _ (List.mem_append_right _ h)
set_option maxHeartbeats 4000000 in
set_option maxRecDepth 100000 in
theorem mX10_doWays (l : Launch) (D : va_G) (z : Nat → Nat) (cy : Nat → ClassId) (t : Int32) (sz : Nat) : Met l yX10_doWays wsX10_doWays ({ frames := 1, cells := 0, slots := 0, locals := 22 }) (PW D (TYS cy) (MW z cy t) sz [.ref (z 58)]) (QV D (TYS cy) (MW z cy t) (MW z cy t) sz) 0 0 (va_A (MW z cy t) sz) := by
  refine Met.ofW (cc := cX10_doWays) (maxL := 4) (ret := none) (by decide) rfl ?_
  intro p e s m args below meth c s₁ B hml hv
  obtain ⟨rfl, hsz, hP, hK, hD0⟩ := hv
  have hx := B.exec
  have hb := B.bytes
  have hr := B.returns
  have hts := atoms_spec (ws := wsX10_doWays) B.pre
  have hown : s.vm.findClass RX10 = some m.cls := findClass_of_methodNamed B.named
  have hlocks := B.notSynchronized
  subst hsz
  have hD := hD0.self (sz := s.heap.size)
  have hA : ∀ q9 : Nat, s.heap.size ≤ q9 → va_A (MW z cy t) s.heap.size q9 := fun q9 h => Or.inr h
  have hS : va_S (va_A (MW z cy t) s.heap.size) s.heap s.heap [] := va_S.rf
  have hl := lv_entry ([.ref (z 58)]) (n := 4) (Nat.le_of_ble_eq_true rfl)
  rw [lg_entry_eq]
  generalize (lg_sl ([.ref (z 58)]) ++ List.replicate (4 - (lg_sl ([.ref (z 58)])).length) Slot.unset).toArray = ls at hl ⊢
  have hl : lv_has ls 4 [(0, .ref (z 58))] := hl
  refine lv_iconst (v := 0) hx hb dX10_doWays_0 (by decide) ?_
  refine lv_istore_n (lv' := [(1, .int 0), (0, .ref (z 58))]) hx hb dX10_doWays_1 rfl hl (by decide) rfl (fun ls hl => ?_)
  refine lv_iload_n hx hb dX10_doWays_2 rfl (lv_at hl 0 rfl) ?_
  refine lv_aload_n hx hb dX10_doWays_3 rfl (lv_at hl 1 rfl) ?_
  refine va_get (D := D) (ci := 10) (v := .int 2) (C := RX10) (T := TX10) (N := 58) hx hb hts iX10_doWays_10 hown hK hP 0 rfl rfl 7 (by decide) (hts (.fieldLink RX10 16 "FondsRoomModel" "fetchers" "I") (by decide +kernel)) (fun _ h9 => h9) rfl dX10_doWays_4 ?_
  refine lv_icmp_ge (tgt := 124) hx hb dX10_doWays_7 (by decide) (fun c9 => absurd c9 (by decide)) (fun _ => ?_)
  refine lv_aload_n hx hb dX10_doWays_10 rfl (lv_at hl 1 rfl) ?_
  refine va_get (D := D) (ci := 10) (v := .ref (z 42)) (C := RX10) (T := TX10) (N := 58) hx hb hts iX10_doWays_10 hown hK hP 0 rfl rfl 42 (by decide) (hts (.fieldLink RX10 111 "FondsRoomModel" "fBox" "[I") (by decide +kernel)) (fun _ h9 => h9) rfl dX10_doWays_11 ?_
  refine lv_iload_n hx hb dX10_doWays_14 rfl (lv_at hl 0 rfl) ?_
  refine va_iald hx hb hK hP 11 0 rfl rfl (vp_in_iff.mpr (by decide)) dX10_doWays_15 ?_
  refine lv_topi (fun y1 ey1 => ?_)
  obtain rfl : y1 = (-1) := ey1.trans (by decide)
  refine lv_iconst (v := (-1)) hx hb dX10_doWays_16 (by decide) ?_
  refine lv_icmp_eq (tgt := 23) hx hb dX10_doWays_17 (by decide) (fun _ => ?_) (fun c9 => absurd (by decide) c9)
  refine lv_aload_n hx hb dX10_doWays_23 rfl (lv_at hl 1 rfl) ?_
  refine cvI (wr := []) (As := []) (rest := []) ⟨hx, hb, hml, hown, hts⟩ (mX10_leftBox l D z cy t _  ) (cwV 0 hts gX10_doWays_X10_leftBox rfl rfl rfl (by decide +kernel) ⟨Nat.le_of_ble_eq_true rfl, Nat.le_of_ble_eq_true rfl⟩) hK hP hD hS hA [0, 1, 2, 3, 4, 5, 6, 7, 8, 9, 10, 11, 12, 13, 14, 15, 16] [] rfl rfl (by decide) (by decide) (by decide) 0 10 rfl rfl rfl hl.1 rfl (Nat.le_of_ble_eq_true rfl) dX10_doWays_24 ⟨Nat.le_of_ble_eq_true rfl, Nat.le_of_ble_eq_true rfl⟩ (fun r2 H locs hr2 hP hD hS => ?_)
  have hP : va_P D vwCl (MW z cy t) H := hP
  have hD : va_D _ (MW z cy t) := hD
  obtain rfl : r2 = (-1) := hr2
  refine lv_istore_n (lv' := [(2, .int (-1)), (1, .int 0), (0, .ref (z 58))]) hx hb dX10_doWays_27 rfl hl (by decide) rfl (fun ls hl => ?_)
  refine lv_iload_n hx hb dX10_doWays_28 rfl (lv_at hl 0 rfl) ?_
  refine lv_iconst (v := (-1)) hx hb dX10_doWays_29 (by decide) ?_
  refine lv_icmp_eq (tgt := 37) hx hb dX10_doWays_30 (by decide) (fun _ => ?_) (fun c9 => absurd (by decide) c9)
  refine lv_iconst (v := 0) hx hb dX10_doWays_37 (by decide) ?_
  refine lv_istore_n (lv' := [(3, .int 0), (2, .int (-1)), (1, .int 0), (0, .ref (z 58))]) hx hb dX10_doWays_38 rfl hl (by decide) rfl (fun ls hl => ?_)
  refine lv_iload_n hx hb dX10_doWays_39 rfl (lv_at hl 0 rfl) ?_
  refine lv_if_ne (tgt := 48) hx hb dX10_doWays_40 (by decide) (fun c9 => absurd (by decide) c9) (fun _ => ?_)
  refine lv_aload_n hx hb dX10_doWays_43 rfl (lv_at hl 3 rfl) ?_
  refine cvI (wr := []) (As := []) (rest := []) ⟨hx, hb, hml, hown, hts⟩ (mX10_wantedBox l D z cy t _  ) (cwV 0 hts gX10_doWays_X10_wantedBox rfl rfl rfl (by decide +kernel) ⟨Nat.le_of_ble_eq_true rfl, Nat.le_of_ble_eq_true rfl⟩) hK hP hD hS hA [0, 1, 2, 3, 4, 5, 6, 7, 8, 9, 10, 11, 12, 13, 14, 15, 16] [] rfl rfl (by decide) (by decide) (by decide) 0 10 rfl rfl rfl hl.1 rfl (Nat.le_of_ble_eq_true rfl) dX10_doWays_44 ⟨Nat.le_of_ble_eq_true rfl, Nat.le_of_ble_eq_true rfl⟩ (fun r3 H locs hr3 hP hD hS => ?_)
  have hP : va_P D vwCl (MW z cy t) H := hP
  have hD : va_D _ (MW z cy t) := hD
  obtain rfl : r3 = (-1) := hr3
  refine lv_istore_n (lv' := [(2, .int (-1)), (3, .int 0), (1, .int 0), (0, .ref (z 58))]) hx hb dX10_doWays_47 rfl hl (by decide) rfl (fun ls hl => ?_)
  refine lv_iload_n hx hb dX10_doWays_48 rfl (lv_at hl 0 rfl) ?_
  refine lv_iconst (v := (-1)) hx hb dX10_doWays_49 (by decide) ?_
  refine lv_icmp_ne (tgt := 56) hx hb dX10_doWays_50 (by decide) (fun c9 => absurd (by decide) c9) (fun _ => ?_)
  refine lv_goto (tgt := 118) hx hb dX10_doWays_53 (by decide) ?_
  refine lv_iinc (v := 1) (lv' := [(1, .int 1), (2, .int (-1)), (3, .int 0), (0, .ref (z 58))]) hx hb dX10_doWays_118 hl (k := 2) rfl (by decide) (by decide) rfl (fun ls hl => ?_)
  refine lv_goto (tgt := 2) hx hb dX10_doWays_121 (by decide) ?_
  refine lv_iload_n hx hb dX10_doWays_2 rfl (lv_at hl 0 rfl) ?_
  refine lv_aload_n hx hb dX10_doWays_3 rfl (lv_at hl 3 rfl) ?_
  refine va_get (D := D) (ci := 10) (v := .int 2) (C := RX10) (T := TX10) (N := 58) hx hb hts iX10_doWays_10 hown hK hP 0 rfl rfl 7 (by decide) (hts (.fieldLink RX10 16 "FondsRoomModel" "fetchers" "I") (by decide +kernel)) (fun _ h9 => h9) rfl dX10_doWays_4 ?_
  refine lv_icmp_ge (tgt := 124) hx hb dX10_doWays_7 (by decide) (fun c9 => absurd c9 (by decide)) (fun _ => ?_)
  refine lv_aload_n hx hb dX10_doWays_10 rfl (lv_at hl 3 rfl) ?_
  refine va_get (D := D) (ci := 10) (v := .ref (z 42)) (C := RX10) (T := TX10) (N := 58) hx hb hts iX10_doWays_10 hown hK hP 0 rfl rfl 42 (by decide) (hts (.fieldLink RX10 111 "FondsRoomModel" "fBox" "[I") (by decide +kernel)) (fun _ h9 => h9) rfl dX10_doWays_11 ?_
  refine lv_iload_n hx hb dX10_doWays_14 rfl (lv_at hl 0 rfl) ?_
  refine va_iald hx hb hK hP 11 0 rfl rfl (vp_in_iff.mpr (by decide)) dX10_doWays_15 ?_
  refine lv_topi (fun y4 ey4 => ?_)
  obtain rfl : y4 = (-1) := ey4.trans (by decide)
  refine lv_iconst (v := (-1)) hx hb dX10_doWays_16 (by decide) ?_
  refine lv_icmp_eq (tgt := 23) hx hb dX10_doWays_17 (by decide) (fun _ => ?_) (fun c9 => absurd (by decide) c9)
  refine lv_aload_n hx hb dX10_doWays_23 rfl (lv_at hl 3 rfl) ?_
  refine cvI (wr := []) (As := []) (rest := []) ⟨hx, hb, hml, hown, hts⟩ (mX10_leftBox l D z cy t _  ) (cwV 0 hts gX10_doWays_X10_leftBox rfl rfl rfl (by decide +kernel) ⟨Nat.le_of_ble_eq_true rfl, Nat.le_of_ble_eq_true rfl⟩) hK hP hD hS hA [0, 1, 2, 3, 4, 5, 6, 7, 8, 9, 10, 11, 12, 13, 14, 15, 16] [] rfl rfl (by decide) (by decide) (by decide) 0 10 rfl rfl rfl hl.1 rfl (Nat.le_of_ble_eq_true rfl) dX10_doWays_24 ⟨Nat.le_of_ble_eq_true rfl, Nat.le_of_ble_eq_true rfl⟩ (fun r5 H locs hr5 hP hD hS => ?_)
  have hP : va_P D vwCl (MW z cy t) H := hP
  have hD : va_D _ (MW z cy t) := hD
  obtain rfl : r5 = (-1) := hr5
  refine lv_istore_n (lv' := [(2, .int (-1)), (1, .int 1), (3, .int 0), (0, .ref (z 58))]) hx hb dX10_doWays_27 rfl hl (by decide) rfl (fun ls hl => ?_)
  refine lv_iload_n hx hb dX10_doWays_28 rfl (lv_at hl 0 rfl) ?_
  refine lv_iconst (v := (-1)) hx hb dX10_doWays_29 (by decide) ?_
  refine lv_icmp_eq (tgt := 37) hx hb dX10_doWays_30 (by decide) (fun _ => ?_) (fun c9 => absurd (by decide) c9)
  refine lv_iconst (v := 0) hx hb dX10_doWays_37 (by decide) ?_
  refine lv_istore_n (lv' := [(3, .int 0), (2, .int (-1)), (1, .int 1), (0, .ref (z 58))]) hx hb dX10_doWays_38 rfl hl (by decide) rfl (fun ls hl => ?_)
  refine lv_iload_n hx hb dX10_doWays_39 rfl (lv_at hl 0 rfl) ?_
  refine lv_if_ne (tgt := 48) hx hb dX10_doWays_40 (by decide) (fun c9 => absurd (by decide) c9) (fun _ => ?_)
  refine lv_aload_n hx hb dX10_doWays_43 rfl (lv_at hl 3 rfl) ?_
  refine cvI (wr := []) (As := []) (rest := []) ⟨hx, hb, hml, hown, hts⟩ (mX10_wantedBox l D z cy t _  ) (cwV 0 hts gX10_doWays_X10_wantedBox rfl rfl rfl (by decide +kernel) ⟨Nat.le_of_ble_eq_true rfl, Nat.le_of_ble_eq_true rfl⟩) hK hP hD hS hA [0, 1, 2, 3, 4, 5, 6, 7, 8, 9, 10, 11, 12, 13, 14, 15, 16] [] rfl rfl (by decide) (by decide) (by decide) 0 10 rfl rfl rfl hl.1 rfl (Nat.le_of_ble_eq_true rfl) dX10_doWays_44 ⟨Nat.le_of_ble_eq_true rfl, Nat.le_of_ble_eq_true rfl⟩ (fun r6 H locs hr6 hP hD hS => ?_)
  have hP : va_P D vwCl (MW z cy t) H := hP
  have hD : va_D _ (MW z cy t) := hD
  obtain rfl : r6 = (-1) := hr6
  refine lv_istore_n (lv' := [(2, .int (-1)), (3, .int 0), (1, .int 1), (0, .ref (z 58))]) hx hb dX10_doWays_47 rfl hl (by decide) rfl (fun ls hl => ?_)
  refine lv_iload_n hx hb dX10_doWays_48 rfl (lv_at hl 0 rfl) ?_
  refine lv_iconst (v := (-1)) hx hb dX10_doWays_49 (by decide) ?_
  refine lv_icmp_ne (tgt := 56) hx hb dX10_doWays_50 (by decide) (fun c9 => absurd (by decide) c9) (fun _ => ?_)
  refine lv_goto (tgt := 118) hx hb dX10_doWays_53 (by decide) ?_
  refine lv_iinc (v := 2) (lv' := [(1, .int 2), (2, .int (-1)), (3, .int 0), (0, .ref (z 58))]) hx hb dX10_doWays_118 hl (k := 2) rfl (by decide) (by decide) rfl (fun ls hl => ?_)
  refine lv_goto (tgt := 2) hx hb dX10_doWays_121 (by decide) ?_
  refine lv_iload_n hx hb dX10_doWays_2 rfl (lv_at hl 0 rfl) ?_
  refine lv_aload_n hx hb dX10_doWays_3 rfl (lv_at hl 3 rfl) ?_
  refine va_get (D := D) (ci := 10) (v := .int 2) (C := RX10) (T := TX10) (N := 58) hx hb hts iX10_doWays_10 hown hK hP 0 rfl rfl 7 (by decide) (hts (.fieldLink RX10 16 "FondsRoomModel" "fetchers" "I") (by decide +kernel)) (fun _ h9 => h9) rfl dX10_doWays_4 ?_
  refine lv_icmp_ge (tgt := 124) hx hb dX10_doWays_7 (by decide) (fun _ => ?_) (fun c9 => absurd (by decide) c9)
  exact W.vret hx hb hr (fun t ht hW => ⟨⟨(), rfl, trivial, by rw [ht]; exact hP, va_K.moved hW.alike hK, hD⟩, hS.F ht⟩) hS.2.2 dX10_doWays_124

theorem iX10_copyBox_10 : ∀ w ∈ wsX100, w ∈ wsX10_copyBox := fun _ h => List.mem_cons_of_mem _ (List.mem_append_right _ h)
set_option maxHeartbeats 4000000 in
set_option maxRecDepth 100000 in
theorem mX10_copyBox (l : Launch) (D : va_G) (z : Nat → Nat) (cy : Nat → ClassId) (t : Int32) (sz : Nat) (u : Int32) : Met l yX10_copyBox wsX10_copyBox ({ frames := 0, cells := 0, slots := 0, locals := 0 }) (PW D (TYS cy) (MW z cy t) sz [.ref (z 58), .int u]) (QI D (TYS cy) (MW z cy t) (MW z cy t) sz (fun r => r = (-1))) 0 0 (va_A (MW z cy t) sz) := by
  refine Met.ofW (cc := cX10_copyBox) (maxL := 4) (ret := (some .int)) (by decide) rfl ?_
  intro p e s m args below meth c s₁ B hml hv
  obtain ⟨rfl, hsz, hP, hK, hD0⟩ := hv
  have hx := B.exec
  have hb := B.bytes
  have hr := B.returns
  have hts := atoms_spec (ws := wsX10_copyBox) B.pre
  have hown : s.vm.findClass RX10 = some m.cls := findClass_of_methodNamed B.named
  have hlocks := B.notSynchronized
  subst hsz
  have hD := hD0.self (sz := s.heap.size)
  have hA : ∀ q9 : Nat, s.heap.size ≤ q9 → va_A (MW z cy t) s.heap.size q9 := fun q9 h => Or.inr h
  have hS : va_S (va_A (MW z cy t) s.heap.size) s.heap s.heap [] := va_S.rf
  have hl := lv_entry ([.ref (z 58), .int u]) (n := 4) (Nat.le_of_ble_eq_true rfl)
  rw [lg_entry_eq]
  generalize (lg_sl ([.ref (z 58), .int u]) ++ List.replicate (4 - (lg_sl ([.ref (z 58), .int u])).length) Slot.unset).toArray = ls at hl ⊢
  have hl : lv_has ls 4 [(0, .ref (z 58)), (1, .int u)] := hl
  refine lv_iconst (v := (-1)) hx hb dX10_copyBox_0 (by decide) ?_
  refine lv_istore_n (lv' := [(2, .int (-1)), (0, .ref (z 58)), (1, .int u)]) hx hb dX10_copyBox_1 rfl hl (by decide) rfl (fun ls hl => ?_)
  refine lv_iconst (v := 0) hx hb dX10_copyBox_2 (by decide) ?_
  refine lv_istore_n (lv' := [(3, .int 0), (2, .int (-1)), (0, .ref (z 58)), (1, .int u)]) hx hb dX10_copyBox_3 rfl hl (by decide) rfl (fun ls hl => ?_)
  refine lv_iload_n hx hb dX10_copyBox_4 rfl (lv_at hl 0 rfl) ?_
  refine lv_aload_n hx hb dX10_copyBox_5 rfl (lv_at hl 2 rfl) ?_
  refine va_get (D := D) (ci := 10) (v := .int 0) (C := RX10) (T := TX10) (N := 58) hx hb hts iX10_copyBox_10 hown hK hP 0 rfl rfl 2 (by decide) (hts (.fieldLink RX10 160 "FondsRoomModel" "boxes" "I") (by decide +kernel)) (fun _ h9 => h9) rfl dX10_copyBox_6 ?_
  refine lv_icmp_ge (tgt := 60) hx hb dX10_copyBox_9 (by decide) (fun _ => ?_) (fun c9 => absurd (by decide) c9)
  refine lv_iload_n hx hb dX10_copyBox_60 rfl (lv_at hl 1 rfl) ?_
  exact W.iret (v := (-1)) hx hb hr (fun t ht hW => ⟨⟨(-1), (), rfl, (by first | rfl | trivial | decide), by rw [ht]; exact hP, va_K.moved hW.alike hK, hD⟩, hS.F ht⟩) hS.2.2 dX10_copyBox_61

theorem iX10_doCopies_10 : ∀ w ∈ wsX100, w ∈ wsX10_doCopies := fun _ h => List.mem_cons_of_mem _ (List.mem_append_right _ h)
set_option maxHeartbeats 4000000 in
set_option maxRecDepth 100000 in
theorem mX10_doCopies (l : Launch) (D : va_G) (z : Nat → Nat) (cy : Nat → ClassId) (t : Int32) (sz : Nat) : Met l yX10_doCopies wsX10_doCopies ({ frames := 1, cells := 0, slots := 0, locals := 23 }) (PW D (TYS cy) (MW z cy t) sz [.ref (z 58)]) (QV D (TYS cy) (MW z cy t) (MW z cy t) sz) 0 0 (va_A (MW z cy t) sz) := by
  refine Met.ofW (cc := cX10_doCopies) (maxL := 5) (ret := none) (by decide) rfl ?_
  intro p e s m args below meth c s₁ B hml hv
  obtain ⟨rfl, hsz, hP, hK, hD0⟩ := hv
  have hx := B.exec
  have hb := B.bytes
  have hr := B.returns
  have hts := atoms_spec (ws := wsX10_doCopies) B.pre
  have hown : s.vm.findClass RX10 = some m.cls := findClass_of_methodNamed B.named
  have hlocks := B.notSynchronized
  subst hsz
  have hD := hD0.self (sz := s.heap.size)
  have hA : ∀ q9 : Nat, s.heap.size ≤ q9 → va_A (MW z cy t) s.heap.size q9 := fun q9 h => Or.inr h
  have hS : va_S (va_A (MW z cy t) s.heap.size) s.heap s.heap [] := va_S.rf
  have hl := lv_entry ([.ref (z 58)]) (n := 5) (Nat.le_of_ble_eq_true rfl)
  rw [lg_entry_eq]
  generalize (lg_sl ([.ref (z 58)]) ++ List.replicate (5 - (lg_sl ([.ref (z 58)])).length) Slot.unset).toArray = ls at hl ⊢
  have hl : lv_has ls 5 [(0, .ref (z 58))] := hl
  refine lv_iconst (v := 0) hx hb dX10_doCopies_0 (by decide) ?_
  refine lv_istore_n (lv' := [(1, .int 0), (0, .ref (z 58))]) hx hb dX10_doCopies_1 rfl hl (by decide) rfl (fun ls hl => ?_)
  refine lv_iload_n hx hb dX10_doCopies_2 rfl (lv_at hl 0 rfl) ?_
  refine lv_aload_n hx hb dX10_doCopies_3 rfl (lv_at hl 1 rfl) ?_
  refine va_get (D := D) (ci := 10) (v := .int 1) (C := RX10) (T := TX10) (N := 58) hx hb hts iX10_doCopies_10 hown hK hP 0 rfl rfl 8 (by decide) (hts (.fieldLink RX10 19 "FondsRoomModel" "copyists" "I") (by decide +kernel)) (fun _ h9 => h9) rfl dX10_doCopies_4 ?_
  refine lv_icmp_ge (tgt := 133) hx hb dX10_doCopies_7 (by decide) (fun c9 => absurd c9 (by decide)) (fun _ => ?_)
  refine lv_aload_n hx hb dX10_doCopies_10 rfl (lv_at hl 1 rfl) ?_
  refine va_get (D := D) (ci := 10) (v := .ref (z 45)) (C := RX10) (T := TX10) (N := 58) hx hb hts iX10_doCopies_10 hown hK hP 0 rfl rfl 45 (by decide) (hts (.fieldLink RX10 120 "FondsRoomModel" "cBox" "[I") (by decide +kernel)) (fun _ h9 => h9) rfl dX10_doCopies_11 ?_
  refine lv_iload_n hx hb dX10_doCopies_14 rfl (lv_at hl 0 rfl) ?_
  refine va_iald hx hb hK hP 13 0 rfl rfl (vp_in_iff.mpr (by decide)) dX10_doCopies_15 ?_
  refine lv_topi (fun y1 ey1 => ?_)
  obtain rfl : y1 = (-1) := ey1.trans (by decide)
  refine lv_iconst (v := (-1)) hx hb dX10_doCopies_16 (by decide) ?_
  refine lv_icmp_eq (tgt := 23) hx hb dX10_doCopies_17 (by decide) (fun _ => ?_) (fun c9 => absurd (by decide) c9)
  refine lv_aload_n hx hb dX10_doCopies_23 rfl (lv_at hl 1 rfl) ?_
  refine lv_iconst (v := 1) hx hb dX10_doCopies_24 (by decide) ?_
  refine cvI (wr := []) (As := [.int 1]) (rest := []) ⟨hx, hb, hml, hown, hts⟩ (mX10_copyBox l D z cy t _ 1 ) (cwV 1 hts gX10_doCopies_X10_copyBox rfl rfl rfl (by decide +kernel) ⟨Nat.le_of_ble_eq_true rfl, Nat.le_of_ble_eq_true rfl⟩) hK hP hD hS hA [0, 1, 2, 3, 4, 5, 6, 7, 8, 9, 10, 11, 12, 13, 14, 15, 16] [] rfl rfl (by decide) (by decide) (by decide) 0 10 rfl rfl rfl hl.1 rfl (Nat.le_of_ble_eq_true rfl) dX10_doCopies_25 ⟨Nat.le_of_ble_eq_true rfl, Nat.le_of_ble_eq_true rfl⟩ (fun r2 H locs hr2 hP hD hS => ?_)
  have hP : va_P D vwCl (MW z cy t) H := hP
  have hD : va_D _ (MW z cy t) := hD
  obtain rfl : r2 = (-1) := hr2
  refine lv_istore_n (lv' := [(2, .int (-1)), (1, .int 0), (0, .ref (z 58))]) hx hb dX10_doCopies_28 rfl hl (by decide) rfl (fun ls hl => ?_)
  refine lv_aload_n hx hb dX10_doCopies_29 rfl (lv_at hl 2 rfl) ?_
  refine lv_iconst (v := 0) hx hb dX10_doCopies_30 (by decide) ?_
  refine cvI (wr := []) (As := [.int 0]) (rest := []) ⟨hx, hb, hml, hown, hts⟩ (mX10_copyBox l D z cy t _ 0 ) (cwV 1 hts gX10_doCopies_X10_copyBox rfl rfl rfl (by decide +kernel) ⟨Nat.le_of_ble_eq_true rfl, Nat.le_of_ble_eq_true rfl⟩) hK hP hD hS hA [0, 1, 2, 3, 4, 5, 6, 7, 8, 9, 10, 11, 12, 13, 14, 15, 16] [] rfl rfl (by decide) (by decide) (by decide) 0 10 rfl rfl rfl hl.1 rfl (Nat.le_of_ble_eq_true rfl) dX10_doCopies_31 ⟨Nat.le_of_ble_eq_true rfl, Nat.le_of_ble_eq_true rfl⟩ (fun r3 H locs hr3 hP hD hS => ?_)
  have hP : va_P D vwCl (MW z cy t) H := hP
  have hD : va_D _ (MW z cy t) := hD
  obtain rfl : r3 = (-1) := hr3
  refine lv_istore_n (lv' := [(3, .int (-1)), (2, .int (-1)), (1, .int 0), (0, .ref (z 58))]) hx hb dX10_doCopies_34 rfl hl (by decide) rfl (fun ls hl => ?_)
  refine lv_iload_n hx hb dX10_doCopies_35 rfl (lv_at hl 1 rfl) ?_
  refine lv_iconst (v := (-1)) hx hb dX10_doCopies_36 (by decide) ?_
  refine lv_icmp_eq (tgt := 53) hx hb dX10_doCopies_37 (by decide) (fun _ => ?_) (fun c9 => absurd (by decide) c9)
  refine lv_iload_n hx hb dX10_doCopies_53 rfl (lv_at hl 0 rfl) ?_
  refine lv_goto (tgt := 58) hx hb dX10_doCopies_54 (by decide) ?_
  refine lv_istore (lv' := [(4, .int (-1)), (3, .int (-1)), (2, .int (-1)), (1, .int 0), (0, .ref (z 58))]) hx hb dX10_doCopies_58 hl (by decide) rfl (fun ls hl => ?_)
  refine lv_iload hx hb dX10_doCopies_60 (lv_at hl 0 rfl) ?_
  refine lv_iconst (v := (-1)) hx hb dX10_doCopies_62 (by decide) ?_
  refine lv_icmp_ne (tgt := 69) hx hb dX10_doCopies_63 (by decide) (fun c9 => absurd (by decide) c9) (fun _ => ?_)
  refine lv_goto (tgt := 127) hx hb dX10_doCopies_66 (by decide) ?_
  refine lv_iinc (v := 1) (lv' := [(1, .int 1), (4, .int (-1)), (3, .int (-1)), (2, .int (-1)), (0, .ref (z 58))]) hx hb dX10_doCopies_127 hl (k := 3) rfl (by decide) (by decide) rfl (fun ls hl => ?_)
  refine lv_goto (tgt := 2) hx hb dX10_doCopies_130 (by decide) ?_
  refine lv_iload_n hx hb dX10_doCopies_2 rfl (lv_at hl 0 rfl) ?_
  refine lv_aload_n hx hb dX10_doCopies_3 rfl (lv_at hl 4 rfl) ?_
  refine va_get (D := D) (ci := 10) (v := .int 1) (C := RX10) (T := TX10) (N := 58) hx hb hts iX10_doCopies_10 hown hK hP 0 rfl rfl 8 (by decide) (hts (.fieldLink RX10 19 "FondsRoomModel" "copyists" "I") (by decide +kernel)) (fun _ h9 => h9) rfl dX10_doCopies_4 ?_
  refine lv_icmp_ge (tgt := 133) hx hb dX10_doCopies_7 (by decide) (fun _ => ?_) (fun c9 => absurd (by decide) c9)
  exact W.vret hx hb hr (fun t ht hW => ⟨⟨(), rfl, trivial, by rw [ht]; exact hP, va_K.moved hW.alike hK, hD⟩, hS.F ht⟩) hS.2.2 dX10_doCopies_133

theorem iX10_oneTurn_10 : ∀ w ∈ wsX100, w ∈ wsX10_oneTurn := fun _ h => List.mem_cons_of_mem _ (List.mem_append_right _ h)
set_option maxHeartbeats 4000000 in
set_option maxRecDepth 100000 in
theorem mX10_oneTurn (l : Launch) (D : va_G) (z : Nat → Nat) (cy : Nat → ClassId) (t : Int32) (sz : Nat) (ht9 : ¬ t + 1 = -1) : Met l yX10_oneTurn wsX10_oneTurn ({ frames := 2, cells := 0, slots := 0, locals := 47 }) (PW D (TYS cy) (MW z cy t) sz [.ref (z 58)]) (QV D (TYS cy) (MW z cy t) (MW z cy (t + 1)) sz) 0 0 (va_A (MW z cy t) sz) := by
  refine Met.ofW (cc := cX10_oneTurn) (maxL := 3) (ret := none) (by decide) rfl ?_
  intro p e s m args below meth c s₁ B hml hv
  obtain ⟨rfl, hsz, hP, hK, hD0⟩ := hv
  have hx := B.exec
  have hb := B.bytes
  have hr := B.returns
  have hts := atoms_spec (ws := wsX10_oneTurn) B.pre
  have hown : s.vm.findClass RX10 = some m.cls := findClass_of_methodNamed B.named
  have hlocks := B.notSynchronized
  subst hsz
  have hD := hD0.self (sz := s.heap.size)
  have hA : ∀ q9 : Nat, s.heap.size ≤ q9 → va_A (MW z cy t) s.heap.size q9 := fun q9 h => Or.inr h
  have hS : va_S (va_A (MW z cy t) s.heap.size) s.heap s.heap [] := va_S.rf
  have hl := lv_entry ([.ref (z 58)]) (n := 3) (Nat.le_of_ble_eq_true rfl)
  rw [lg_entry_eq]
  generalize (lg_sl ([.ref (z 58)]) ++ List.replicate (3 - (lg_sl ([.ref (z 58)])).length) Slot.unset).toArray = ls at hl ⊢
  have hl : lv_has ls 3 [(0, .ref (z 58))] := hl
  refine lv_aload_n hx hb dX10_oneTurn_0 rfl (lv_at hl 0 rfl) ?_
  refine lv_dup hx hb dX10_oneTurn_1 rfl ?_
  refine va_get (D := D) (ci := 10) (v := .int t) (C := RX10) (T := TX10) (N := 58) hx hb hts iX10_oneTurn_10 hown hK hP 0 rfl rfl 4 (by decide) (hts (.fieldLink RX10 163 "FondsRoomModel" "turn" "I") (by decide +kernel)) (fun _ h9 => h9) rfl dX10_oneTurn_2 ?_
  refine lv_iconst (v := 1) hx hb dX10_oneTurn_5 (by decide) ?_
  refine lv_iadd hx hb dX10_oneTurn_6 ?_
  refine va_put (D := D) (ci := 10) (v := .int (t + 1)) (ty := .int) (C := RX10) (T := TX10) (N := 58) hx hb hts iX10_oneTurn_10 tyX10 tyX10_ok nmX10 hown hK hP hD hS 0 rfl rfl 4 (by decide) (hts (.fieldLink RX10 163 "FondsRoomModel" "turn" "I") (by decide +kernel)) (fun _ h9 => h9) rfl (by decide +kernel) rfl rfl (Nat.le_of_ble_eq_true rfl) dX10_oneTurn_7 (fun H locs hP hD hS => ?_)
  have hP : va_P D vwCl (MW z cy (t + 1)) H := hP
  have hD : va_D _ (MW z cy (t + 1)) := hD
  refine lv_aload_n hx hb dX10_oneTurn_10 rfl (lv_at hl 0 rfl) ?_
  refine cvV (wr := []) (As := []) (rest := []) ⟨hx, hb, hml, hown, hts⟩ (mX10_doMishaps l D z cy (t + 1) _  ) (cwV 0 hts gX10_oneTurn_X10_doMishaps rfl rfl rfl (by decide +kernel) ⟨Nat.le_of_ble_eq_true rfl, Nat.le_of_ble_eq_true rfl⟩) hK hP hD hS hA [0, 1, 2, 3, 4, 5, 6, 7, 8, 9, 10, 11, 12, 13, 14, 15, 16] [] rfl rfl (by decide) (by decide) (by decide) 0 10 rfl rfl rfl hl.1 rfl (Nat.le_of_ble_eq_true rfl) dX10_oneTurn_11 ⟨Nat.le_of_ble_eq_true rfl, Nat.le_of_ble_eq_true rfl⟩ (fun H locs hP hD hS => ?_)
  have hP : va_P D vwCl (MW z cy (t + 1)) H := hP
  have hD : va_D _ (MW z cy (t + 1)) := hD
  refine lv_aload_n hx hb dX10_oneTurn_14 rfl (lv_at hl 0 rfl) ?_
  refine cvV (wr := []) (As := []) (rest := []) ⟨hx, hb, hml, hown, hts⟩ (mX10_doBell l D z cy (t + 1) _  ht9) (cwV 0 hts gX10_oneTurn_X10_doBell rfl rfl rfl (by decide +kernel) ⟨Nat.le_of_ble_eq_true rfl, Nat.le_of_ble_eq_true rfl⟩) hK hP hD hS hA [0, 1, 2, 3, 4, 5, 6, 7, 8, 9, 10, 11, 12, 13, 14, 15, 16] [] rfl rfl (by decide) (by decide) (by decide) 0 10 rfl rfl rfl hl.1 rfl (Nat.le_of_ble_eq_true rfl) dX10_oneTurn_15 ⟨Nat.le_of_ble_eq_true rfl, Nat.le_of_ble_eq_true rfl⟩ (fun H locs hP hD hS => ?_)
  have hP : va_P D vwCl (MW z cy (t + 1)) H := hP
  have hD : va_D _ (MW z cy (t + 1)) := hD
  refine lv_aload_n hx hb dX10_oneTurn_18 rfl (lv_at hl 0 rfl) ?_
  refine cvV (wr := []) (As := []) (rest := []) ⟨hx, hb, hml, hown, hts⟩ (mX10_doFetchers l D z cy (t + 1) _  ) (cwV 0 hts gX10_oneTurn_X10_doFetchers rfl rfl rfl (by decide +kernel) ⟨Nat.le_of_ble_eq_true rfl, Nat.le_of_ble_eq_true rfl⟩) hK hP hD hS hA [0, 1, 2, 3, 4, 5, 6, 7, 8, 9, 10, 11, 12, 13, 14, 15, 16] [] rfl rfl (by decide) (by decide) (by decide) 0 10 rfl rfl rfl hl.1 rfl (Nat.le_of_ble_eq_true rfl) dX10_oneTurn_19 ⟨Nat.le_of_ble_eq_true rfl, Nat.le_of_ble_eq_true rfl⟩ (fun H locs hP hD hS => ?_)
  have hP : va_P D vwCl (MW z cy (t + 1)) H := hP
  have hD : va_D _ (MW z cy (t + 1)) := hD
  refine lv_aload_n hx hb dX10_oneTurn_22 rfl (lv_at hl 0 rfl) ?_
  refine cvV (wr := []) (As := []) (rest := []) ⟨hx, hb, hml, hown, hts⟩ (mX10_doCopyists l D z cy (t + 1) _  ) (cwV 0 hts gX10_oneTurn_X10_doCopyists rfl rfl rfl (by decide +kernel) ⟨Nat.le_of_ble_eq_true rfl, Nat.le_of_ble_eq_true rfl⟩) hK hP hD hS hA [0, 1, 2, 3, 4, 5, 6, 7, 8, 9, 10, 11, 12, 13, 14, 15, 16] [] rfl rfl (by decide) (by decide) (by decide) 0 10 rfl rfl rfl hl.1 rfl (Nat.le_of_ble_eq_true rfl) dX10_oneTurn_23 ⟨Nat.le_of_ble_eq_true rfl, Nat.le_of_ble_eq_true rfl⟩ (fun H locs hP hD hS => ?_)
  have hP : va_P D vwCl (MW z cy (t + 1)) H := hP
  have hD : va_D _ (MW z cy (t + 1)) := hD
  refine lv_iconst (v := 0) hx hb dX10_oneTurn_26 (by decide) ?_
  refine lv_istore_n (lv' := [(1, .int 0), (0, .ref (z 58))]) hx hb dX10_oneTurn_27 rfl hl (by decide) rfl (fun ls hl => ?_)
  refine lv_iload_n hx hb dX10_oneTurn_28 rfl (lv_at hl 0 rfl) ?_
  refine lv_aload_n hx hb dX10_oneTurn_29 rfl (lv_at hl 1 rfl) ?_
  refine va_get (D := D) (ci := 10) (v := .int 0) (C := RX10) (T := TX10) (N := 58) hx hb hts iX10_oneTurn_10 hown hK hP 0 rfl rfl 3 (by decide) (hts (.fieldLink RX10 153 "FondsRoomModel" "readers" "I") (by decide +kernel)) (fun _ h9 => h9) rfl dX10_oneTurn_30 ?_
  refine lv_icmp_ge (tgt := 82) hx hb dX10_oneTurn_33 (by decide) (fun _ => ?_) (fun c9 => absurd (by decide) c9)
  refine lv_iconst (v := 0) hx hb dX10_oneTurn_82 (by decide) ?_
  refine lv_istore_n (lv' := [(1, .int 0), (0, .ref (z 58))]) hx hb dX10_oneTurn_83 rfl hl (by decide) rfl (fun ls hl => ?_)
  refine lv_iload_n hx hb dX10_oneTurn_84 rfl (lv_at hl 0 rfl) ?_
  refine lv_aload_n hx hb dX10_oneTurn_85 rfl (lv_at hl 1 rfl) ?_
  refine va_get (D := D) (ci := 10) (v := .int 0) (C := RX10) (T := TX10) (N := 58) hx hb hts iX10_oneTurn_10 hown hK hP 0 rfl rfl 3 (by decide) (hts (.fieldLink RX10 153 "FondsRoomModel" "readers" "I") (by decide +kernel)) (fun _ h9 => h9) rfl dX10_oneTurn_86 ?_
  refine lv_icmp_ge (tgt := 103) hx hb dX10_oneTurn_89 (by decide) (fun _ => ?_) (fun c9 => absurd (by decide) c9)
  refine lv_iconst (v := 0) hx hb dX10_oneTurn_103 (by decide) ?_
  refine lv_istore_n (lv' := [(1, .int 0), (0, .ref (z 58))]) hx hb dX10_oneTurn_104 rfl hl (by decide) rfl (fun ls hl => ?_)
  refine lv_iload_n hx hb dX10_oneTurn_105 rfl (lv_at hl 0 rfl) ?_
  refine lv_aload_n hx hb dX10_oneTurn_106 rfl (lv_at hl 1 rfl) ?_
  refine va_get (D := D) (ci := 10) (v := .int 0) (C := RX10) (T := TX10) (N := 58) hx hb hts iX10_oneTurn_10 hown hK hP 0 rfl rfl 3 (by decide) (hts (.fieldLink RX10 153 "FondsRoomModel" "readers" "I") (by decide +kernel)) (fun _ h9 => h9) rfl dX10_oneTurn_107 ?_
  refine lv_icmp_ge (tgt := 169) hx hb dX10_oneTurn_110 (by decide) (fun _ => ?_) (fun c9 => absurd (by decide) c9)
  refine lv_aload_n hx hb dX10_oneTurn_169 rfl (lv_at hl 1 rfl) ?_
  refine cvV (wr := []) (As := []) (rest := []) ⟨hx, hb, hml, hown, hts⟩ (mX10_doDesks l D z cy (t + 1) _  ) (cwV 0 hts gX10_oneTurn_X10_doDesks rfl rfl rfl (by decide +kernel) ⟨Nat.le_of_ble_eq_true rfl, Nat.le_of_ble_eq_true rfl⟩) hK hP hD hS hA [0, 1, 2, 3, 4, 5, 6, 7, 8, 9, 10, 11, 12, 13, 14, 15, 16] [] rfl rfl (by decide) (by decide) (by decide) 0 10 rfl rfl rfl hl.1 rfl (Nat.le_of_ble_eq_true rfl) dX10_oneTurn_170 ⟨Nat.le_of_ble_eq_true rfl, Nat.le_of_ble_eq_true rfl⟩ (fun H locs hP hD hS => ?_)
  have hP : va_P D vwCl (MW z cy (t + 1)) H := hP
  have hD : va_D _ (MW z cy (t + 1)) := hD
  refine lv_aload_n hx hb dX10_oneTurn_173 rfl (lv_at hl 1 rfl) ?_
  refine cvV (wr := []) (As := []) (rest := []) ⟨hx, hb, hml, hown, hts⟩ (mX10_doWays l D z cy (t + 1) _  ) (cwV 0 hts gX10_oneTurn_X10_doWays rfl rfl rfl (by decide +kernel) ⟨Nat.le_of_ble_eq_true rfl, Nat.le_of_ble_eq_true rfl⟩) hK hP hD hS hA [0, 1, 2, 3, 4, 5, 6, 7, 8, 9, 10, 11, 12, 13, 14, 15, 16] [] rfl rfl (by decide) (by decide) (by decide) 0 10 rfl rfl rfl hl.1 rfl (Nat.le_of_ble_eq_true rfl) dX10_oneTurn_174 ⟨Nat.le_of_ble_eq_true rfl, Nat.le_of_ble_eq_true rfl⟩ (fun H locs hP hD hS => ?_)
  have hP : va_P D vwCl (MW z cy (t + 1)) H := hP
  have hD : va_D _ (MW z cy (t + 1)) := hD
  refine lv_aload_n hx hb dX10_oneTurn_177 rfl (lv_at hl 1 rfl) ?_
  refine cvV (wr := []) (As := []) (rest := []) ⟨hx, hb, hml, hown, hts⟩ (mX10_doCopies l D z cy (t + 1) _  ) (cwV 0 hts gX10_oneTurn_X10_doCopies rfl rfl rfl (by decide +kernel) ⟨Nat.le_of_ble_eq_true rfl, Nat.le_of_ble_eq_true rfl⟩) hK hP hD hS hA [0, 1, 2, 3, 4, 5, 6, 7, 8, 9, 10, 11, 12, 13, 14, 15, 16] [] rfl rfl (by decide) (by decide) (by decide) 0 10 rfl rfl rfl hl.1 rfl (Nat.le_of_ble_eq_true rfl) dX10_oneTurn_178 ⟨Nat.le_of_ble_eq_true rfl, Nat.le_of_ble_eq_true rfl⟩ (fun H locs hP hD hS => ?_)
  have hP : va_P D vwCl (MW z cy (t + 1)) H := hP
  have hD : va_D _ (MW z cy (t + 1)) := hD
  refine lv_iconst (v := 0) hx hb dX10_oneTurn_181 (by decide) ?_
  refine lv_istore_n (lv' := [(1, .int 0), (0, .ref (z 58))]) hx hb dX10_oneTurn_182 rfl hl (by decide) rfl (fun ls hl => ?_)
  refine lv_iload_n hx hb dX10_oneTurn_183 rfl (lv_at hl 0 rfl) ?_
  refine lv_aload_n hx hb dX10_oneTurn_184 rfl (lv_at hl 1 rfl) ?_
  refine va_get (D := D) (ci := 10) (v := .int 0) (C := RX10) (T := TX10) (N := 58) hx hb hts iX10_oneTurn_10 hown hK hP 0 rfl rfl 3 (by decide) (hts (.fieldLink RX10 153 "FondsRoomModel" "readers" "I") (by decide +kernel)) (fun _ h9 => h9) rfl dX10_oneTurn_185 ?_
  refine lv_icmp_ge (tgt := 260) hx hb dX10_oneTurn_188 (by decide) (fun _ => ?_) (fun c9 => absurd (by decide) c9)
  exact W.vret hx hb hr (fun t ht hW => ⟨⟨(), rfl, trivial, by rw [ht]; exact hP, va_K.moved hW.alike hK, hD⟩, hS.F ht⟩) hS.2.2 dX10_oneTurn_260
