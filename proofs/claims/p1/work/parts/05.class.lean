set_option maxHeartbeats 4000000 in
set_option maxRecDepth 100000 in
theorem mX9_isWithin (l : Launch) (D : va_G) (sz : Nat) (v lo hi : Int32) : Met l yX9_isWithin wsX9_isWithin ({ frames := 0, cells := 0, slots := 0, locals := 0 }) (PW D ([]) (([] : va_W)) sz [.int v, .int lo, .int hi]) (QI D ([]) (([] : va_W)) (([] : va_W)) sz (fun r => r = sp_in v lo hi)) 0 0 (va_A (([] : va_W)) sz) := by
  refine Met.ofW (cc := cX9_isWithin) (maxL := 3) (ret := (some .boolean)) (by decide) rfl ?_
  intro p e s m args below meth c s₁ B hml hv
  obtain ⟨rfl, hsz, hP, hK, hD0⟩ := hv
  have hx := B.exec
  have hb := B.bytes
  have hr := B.returns
  have hts := atoms_spec (ws := wsX9_isWithin) B.pre
  have hown : s.vm.findClass RX9 = some m.cls := findClass_of_methodNamed B.named
  have hlocks := B.notSynchronized
  subst hsz
  have hD := hD0.self (sz := s.heap.size)
  have hA : ∀ q9 : Nat, s.heap.size ≤ q9 → va_A (([] : va_W)) s.heap.size q9 := fun q9 h => Or.inr h
  have hS : va_S (va_A (([] : va_W)) s.heap.size) s.heap s.heap [] := va_S.rf
  have hl := lv_entry ([.int v, .int lo, .int hi]) (n := 3) (Nat.le_of_ble_eq_true rfl)
  rw [lg_entry_eq]
  generalize (lg_sl ([.int v, .int lo, .int hi]) ++ List.replicate (3 - (lg_sl ([.int v, .int lo, .int hi])).length) Slot.unset).toArray = ls at hl ⊢
  have hl : lv_has ls 3 [(0, .int v), (1, .int lo), (2, .int hi)] := hl
  refine lv_iload_n hx hb dX9_isWithin_0 rfl (lv_at hl 0 rfl) ?_
  refine lv_iload_n hx hb dX9_isWithin_1 rfl (lv_at hl 1 rfl) ?_
  refine lv_icmp_lt (tgt := 14) hx hb dX9_isWithin_2 (by decide) (fun c1 => ?_) (fun c1 => ?_)
  · skip
    refine lv_iconst (v := 0) hx hb dX9_isWithin_14 (by decide) ?_
    exact W.zret (v := 0) hx hb hr (rfl) (fun t ht hW => ⟨⟨0, (), rfl, (by unfold sp_in; exact (if_pos c1).symm), by rw [ht]; exact P0, va_K.moved hW.alike hK, D0⟩, hS.F ht⟩) hS.2.2 dX9_isWithin_15
  · skip
    refine lv_iload_n hx hb dX9_isWithin_5 rfl (lv_at hl 0 rfl) ?_
    refine lv_iload_n hx hb dX9_isWithin_6 rfl (lv_at hl 2 rfl) ?_
    refine lv_icmp_gt (tgt := 14) hx hb dX9_isWithin_7 (by decide) (fun c2 => ?_) (fun c2 => ?_)
    · skip
      refine lv_iconst (v := 0) hx hb dX9_isWithin_14 (by decide) ?_
      exact W.zret (v := 0) hx hb hr (rfl) (fun t ht hW => ⟨⟨0, (), rfl, (by unfold sp_in; exact ((if_neg c1).trans (if_pos c2)).symm), by rw [ht]; exact P0, va_K.moved hW.alike hK, D0⟩, hS.F ht⟩) hS.2.2 dX9_isWithin_15
    · skip
      refine lv_iconst (v := 1) hx hb dX9_isWithin_10 (by decide) ?_
      refine lv_goto (tgt := 15) hx hb dX9_isWithin_11 (by decide) ?_
      exact W.zret (v := 1) hx hb hr (rfl) (fun t ht hW => ⟨⟨1, (), rfl, (by unfold sp_in; exact ((if_neg c1).trans (if_neg c2)).symm), by rw [ht]; exact P0, va_K.moved hW.alike hK, D0⟩, hS.F ht⟩) hS.2.2 dX9_isWithin_15

theorem iX9_isReader_9 : ∀ w ∈ wsX90, w ∈ wsX9_isReader := fun _ h => List.mem_cons_of_mem _ (List.mem_append_right _ h)
set_option maxHeartbeats 4000000 in
set_option maxRecDepth 100000 in
theorem mX9_isReader (l : Launch) (D : va_G) (q : Nat → Nat) (cy : Nat → ClassId) (g : Nat → Nat → Option Nat) (t : Int32) (sz : Nat) (n : Int32) : Met l yX9_isReader wsX9_isReader ({ frames := 0, cells := 0, slots := 0, locals := 0 }) (PW D (TYS cy) (FW q cy g t) sz [.ref (q 0), .int n]) (QI D (TYS cy) (FW q cy g t) (FW q cy g t) sz (fun r => r = 0)) 0 0 (va_A (FW q cy g t) sz) := by
  refine Met.ofW (cc := cX9_isReader) (maxL := 2) (ret := (some .boolean)) (by decide) rfl ?_
  intro p e s m args below meth c s₁ B hml hv
  obtain ⟨rfl, hsz, hP, hK, hD0⟩ := hv
  have hx := B.exec
  have hb := B.bytes
  have hr := B.returns
  have hts := atoms_spec (ws := wsX9_isReader) B.pre
  have hown : s.vm.findClass RX9 = some m.cls := findClass_of_methodNamed B.named
  have hlocks := B.notSynchronized
  subst hsz
  have hD := hD0.self (sz := s.heap.size)
  have hA : ∀ q9 : Nat, s.heap.size ≤ q9 → va_A (FW q cy g t) s.heap.size q9 := fun q9 h => Or.inr h
  have hS : va_S (va_A (FW q cy g t) s.heap.size) s.heap s.heap [] := va_S.rf
  have hl := lv_entry ([.ref (q 0), .int n]) (n := 2) (Nat.le_of_ble_eq_true rfl)
  rw [lg_entry_eq]
  generalize (lg_sl ([.ref (q 0), .int n]) ++ List.replicate (2 - (lg_sl ([.ref (q 0), .int n])).length) Slot.unset).toArray = ls at hl ⊢
  have hl : lv_has ls 2 [(0, .ref (q 0)), (1, .int n)] := hl
  refine lv_iload_n hx hb dX9_isReader_0 rfl (lv_at hl 1 rfl) ?_
  refine lv_if_lt (tgt := 16) hx hb dX9_isReader_1 (by decide) (fun c1 => ?_) (fun c1 => ?_)
  · skip
    refine lv_iconst (v := 0) hx hb dX9_isReader_16 (by decide) ?_
    exact W.zret (v := 0) hx hb hr (rfl) (fun t ht hW => ⟨⟨0, (), rfl, (by first | rfl | trivial | decide), by rw [ht]; exact hP, va_K.moved hW.alike hK, hD⟩, hS.F ht⟩) hS.2.2 dX9_isReader_17
  · skip
    refine lv_iload_n hx hb dX9_isReader_4 rfl (lv_at hl 1 rfl) ?_
    refine lv_aload_n hx hb dX9_isReader_5 rfl (lv_at hl 0 rfl) ?_
    refine va_get (D := D) (ci := 9) (v := .int 0) (C := RX9) (T := TX9) (N := 19) hx hb hts iX9_isReader_9 hown hK hP 0 rfl rfl 12 (by decide) (hts (.fieldLink RX9 104 "FondsRoom" "readerCount" "I") (by decide +kernel)) (fun _ h9 => h9) rfl dX9_isReader_6 ?_
    refine lv_icmp_ge (tgt := 16) hx hb dX9_isReader_9 (by decide) (fun _ => ?_) (fun c9 => absurd (nlt_le c1) c9)
    refine lv_iconst (v := 0) hx hb dX9_isReader_16 (by decide) ?_
    exact W.zret (v := 0) hx hb hr (rfl) (fun t ht hW => ⟨⟨0, (), rfl, (by first | rfl | trivial | decide), by rw [ht]; exact hP, va_K.moved hW.alike hK, hD⟩, hS.F ht⟩) hS.2.2 dX9_isReader_17

theorem iX9_isBox_9 : ∀ w ∈ wsX90, w ∈ wsX9_isBox := fun _ h => List.mem_cons_of_mem _ (List.mem_append_right _ h)
set_option maxHeartbeats 4000000 in
set_option maxRecDepth 100000 in
theorem mX9_isBox (l : Launch) (D : va_G) (q : Nat → Nat) (cy : Nat → ClassId) (g : Nat → Nat → Option Nat) (t : Int32) (sz : Nat) (n : Int32) : Met l yX9_isBox wsX9_isBox ({ frames := 0, cells := 0, slots := 0, locals := 0 }) (PW D (TYS cy) (FW q cy g t) sz [.ref (q 0), .int n]) (QI D (TYS cy) (FW q cy g t) (FW q cy g t) sz (fun r => r = 0)) 0 0 (va_A (FW q cy g t) sz) := by
  refine Met.ofW (cc := cX9_isBox) (maxL := 2) (ret := (some .boolean)) (by decide) rfl ?_
  intro p e s m args below meth c s₁ B hml hv
  obtain ⟨rfl, hsz, hP, hK, hD0⟩ := hv
  have hx := B.exec
  have hb := B.bytes
  have hr := B.returns
  have hts := atoms_spec (ws := wsX9_isBox) B.pre
  have hown : s.vm.findClass RX9 = some m.cls := findClass_of_methodNamed B.named
  have hlocks := B.notSynchronized
  subst hsz
  have hD := hD0.self (sz := s.heap.size)
  have hA : ∀ q9 : Nat, s.heap.size ≤ q9 → va_A (FW q cy g t) s.heap.size q9 := fun q9 h => Or.inr h
  have hS : va_S (va_A (FW q cy g t) s.heap.size) s.heap s.heap [] := va_S.rf
  have hl := lv_entry ([.ref (q 0), .int n]) (n := 2) (Nat.le_of_ble_eq_true rfl)
  rw [lg_entry_eq]
  generalize (lg_sl ([.ref (q 0), .int n]) ++ List.replicate (2 - (lg_sl ([.ref (q 0), .int n])).length) Slot.unset).toArray = ls at hl ⊢
  have hl : lv_has ls 2 [(0, .ref (q 0)), (1, .int n)] := hl
  refine lv_iload_n hx hb dX9_isBox_0 rfl (lv_at hl 1 rfl) ?_
  refine lv_if_lt (tgt := 16) hx hb dX9_isBox_1 (by decide) (fun c1 => ?_) (fun c1 => ?_)
  · skip
    refine lv_iconst (v := 0) hx hb dX9_isBox_16 (by decide) ?_
    exact W.zret (v := 0) hx hb hr (rfl) (fun t ht hW => ⟨⟨0, (), rfl, (by first | rfl | trivial | decide), by rw [ht]; exact hP, va_K.moved hW.alike hK, hD⟩, hS.F ht⟩) hS.2.2 dX9_isBox_17
  · skip
    refine lv_iload_n hx hb dX9_isBox_4 rfl (lv_at hl 1 rfl) ?_
    refine lv_aload_n hx hb dX9_isBox_5 rfl (lv_at hl 0 rfl) ?_
    refine va_get (D := D) (ci := 9) (v := .int 0) (C := RX9) (T := TX9) (N := 19) hx hb hts iX9_isBox_9 hown hK hP 0 rfl rfl 11 (by decide) (hts (.fieldLink RX9 88 "FondsRoom" "boxCount" "I") (by decide +kernel)) (fun _ h9 => h9) rfl dX9_isBox_6 ?_
    refine lv_icmp_ge (tgt := 16) hx hb dX9_isBox_9 (by decide) (fun _ => ?_) (fun c9 => absurd (nlt_le c1) c9)
    refine lv_iconst (v := 0) hx hb dX9_isBox_16 (by decide) ?_
    exact W.zret (v := 0) hx hb hr (rfl) (fun t ht hW => ⟨⟨0, (), rfl, (by first | rfl | trivial | decide), by rw [ht]; exact hP, va_K.moved hW.alike hK, hD⟩, hS.F ht⟩) hS.2.2 dX9_isBox_17

theorem iX9_bellHasBeen_9 : ∀ w ∈ wsX90, w ∈ wsX9_bellHasBeen := fun _ h => List.mem_cons_of_mem _ (List.mem_append_right _ h)
set_option maxHeartbeats 4000000 in
set_option maxRecDepth 100000 in
theorem mX9_bellHasBeen (l : Launch) (D : va_G) (q : Nat → Nat) (cy : Nat → ClassId) (g : Nat → Nat → Option Nat) (t : Int32) (sz : Nat) : Met l yX9_bellHasBeen wsX9_bellHasBeen ({ frames := 0, cells := 0, slots := 0, locals := 0 }) (PW D (TYS cy) (FW q cy g t) sz [.ref (q 0)]) (QI D (TYS cy) (FW q cy g t) (FW q cy g t) sz (fun r => r = 0)) 0 0 (va_A (FW q cy g t) sz) := by
  refine Met.ofW (cc := cX9_bellHasBeen) (maxL := 1) (ret := (some .boolean)) (by decide) rfl ?_
  intro p e s m args below meth c s₁ B hml hv
  obtain ⟨rfl, hsz, hP, hK, hD0⟩ := hv
  have hx := B.exec
  have hb := B.bytes
  have hr := B.returns
  have hts := atoms_spec (ws := wsX9_bellHasBeen) B.pre
  have hown : s.vm.findClass RX9 = some m.cls := findClass_of_methodNamed B.named
  have hlocks := B.notSynchronized
  subst hsz
  have hD := hD0.self (sz := s.heap.size)
  have hA : ∀ q9 : Nat, s.heap.size ≤ q9 → va_A (FW q cy g t) s.heap.size q9 := fun q9 h => Or.inr h
  have hS : va_S (va_A (FW q cy g t) s.heap.size) s.heap s.heap [] := va_S.rf
  have hl := lv_entry ([.ref (q 0)]) (n := 1) (Nat.le_of_ble_eq_true rfl)
  rw [lg_entry_eq]
  generalize (lg_sl ([.ref (q 0)]) ++ List.replicate (1 - (lg_sl ([.ref (q 0)])).length) Slot.unset).toArray = ls at hl ⊢
  have hl : lv_has ls 1 [(0, .ref (q 0))] := hl
  refine lv_aload_n hx hb dX9_bellHasBeen_0 rfl (lv_at hl 0 rfl) ?_
  refine va_get (D := D) (ci := 9) (v := .int (-1)) (C := RX9) (T := TX9) (N := 19) hx hb hts iX9_bellHasBeen_9 hown hK hP 0 rfl rfl 15 (by decide) (hts (.fieldLink RX9 75 "FondsRoom" "bellTurn" "I") (by decide +kernel)) (fun _ h9 => h9) rfl dX9_bellHasBeen_1 ?_
  refine lv_iconst (v := (-1)) hx hb dX9_bellHasBeen_4 (by decide) ?_
  refine lv_icmp_eq (tgt := 23) hx hb dX9_bellHasBeen_5 (by decide) (fun _ => ?_) (fun c9 => absurd (by decide) c9)
  refine lv_iconst (v := 0) hx hb dX9_bellHasBeen_23 (by decide) ?_
  exact W.zret (v := 0) hx hb hr (rfl) (fun t ht hW => ⟨⟨0, (), rfl, (by first | rfl | trivial | decide), by rw [ht]; exact hP, va_K.moved hW.alike hK, hD⟩, hS.F ht⟩) hS.2.2 dX9_bellHasBeen_24

theorem iX7_hasWorker_7 : ∀ w ∈ wsX70, w ∈ wsX7_hasWorker := fun _ h => List.mem_cons_of_mem _ (List.mem_append_right _ h)
set_option maxHeartbeats 4000000 in
set_option maxRecDepth 100000 in
theorem mX7_hasWorkerF (l : Launch) (D : va_G) (q : Nat → Nat) (cy : Nat → ClassId) (g : Nat → Nat → Option Nat) (t : Int32) (sz : Nat) (n : Int32) : Met l yX7_hasWorker wsX7_hasWorker ({ frames := 0, cells := 0, slots := 0, locals := 0 }) (PW D (TYS cy) (FW q cy g t) sz [.ref (q 7), .int n]) (QI D (TYS cy) (FW q cy g t) (FW q cy g t) sz (fun r => r = sp_in n 0 1)) 0 0 (va_A (FW q cy g t) sz) := by
  refine Met.ofW (cc := cX7_hasWorker) (maxL := 2) (ret := (some .boolean)) (by decide) rfl ?_
  intro p e s m args below meth c s₁ B hml hv
  obtain ⟨rfl, hsz, hP, hK, hD0⟩ := hv
  have hx := B.exec
  have hb := B.bytes
  have hr := B.returns
  have hts := atoms_spec (ws := wsX7_hasWorker) B.pre
  have hown : s.vm.findClass RX7 = some m.cls := findClass_of_methodNamed B.named
  have hlocks := B.notSynchronized
  subst hsz
  have hD := hD0.self (sz := s.heap.size)
  have hA : ∀ q9 : Nat, s.heap.size ≤ q9 → va_A (FW q cy g t) s.heap.size q9 := fun q9 h => Or.inr h
  have hS : va_S (va_A (FW q cy g t) s.heap.size) s.heap s.heap [] := va_S.rf
  have hl := lv_entry ([.ref (q 7), .int n]) (n := 2) (Nat.le_of_ble_eq_true rfl)
  rw [lg_entry_eq]
  generalize (lg_sl ([.ref (q 7), .int n]) ++ List.replicate (2 - (lg_sl ([.ref (q 7), .int n])).length) Slot.unset).toArray = ls at hl ⊢
  have hl : lv_has ls 2 [(0, .ref (q 7)), (1, .int n)] := hl
  refine lv_iload_n hx hb dX7_hasWorker_0 rfl (lv_at hl 1 rfl) ?_
  refine lv_if_lt (tgt := 25) hx hb dX7_hasWorker_1 (by decide) (fun c1 => ?_) (fun c1 => ?_)
  · skip
    refine lv_iconst (v := 0) hx hb dX7_hasWorker_25 (by decide) ?_
    exact W.zret (v := 0) hx hb hr (rfl) (fun t ht hW => ⟨⟨0, (), rfl, (by show _ = sp_in _ _ _; unfold sp_in; have k0 : (0 : Int32).toInt = 0 := (by decide); have k1 : (1 : Int32).toInt = 1 := (by decide); have k2 : (2 : Int32).toInt = 2 := (by decide); have k3 : (3 : Int32).toInt = 3 := (by decide); have k4 : (4 : Int32).toInt = 4 := (by decide); simp only [fa_lt, fa_le, k0, k1, k2, k3, k4] at c1 ⊢; split <;> (try split) <;> first | rfl | (exfalso; omega)), by rw [ht]; exact hP, va_K.moved hW.alike hK, hD⟩, hS.F ht⟩) hS.2.2 dX7_hasWorker_26
  · skip
    refine lv_iload_n hx hb dX7_hasWorker_4 rfl (lv_at hl 1 rfl) ?_
    refine lv_aload_n hx hb dX7_hasWorker_5 rfl (lv_at hl 0 rfl) ?_
    refine va_get (D := D) (ci := 7) (v := .int 2) (C := RX7) (T := TX7) (N := 2) hx hb hts iX7_hasWorker_7 hown hK hP 7 rfl rfl 1 (by decide) (hts (.fieldLink RX7 22 "FondsRoom$Staff" "hired" "I") (by decide +kernel)) (fun _ h9 => h9) rfl dX7_hasWorker_6 ?_
    refine lv_icmp_ge (tgt := 25) hx hb dX7_hasWorker_9 (by decide) (fun c2 => ?_) (fun c2 => ?_)
    · skip
      refine lv_iconst (v := 0) hx hb dX7_hasWorker_25 (by decide) ?_
      exact W.zret (v := 0) hx hb hr (rfl) (fun t ht hW => ⟨⟨0, (), rfl, (by show _ = sp_in _ _ _; unfold sp_in; have k0 : (0 : Int32).toInt = 0 := (by decide); have k1 : (1 : Int32).toInt = 1 := (by decide); have k2 : (2 : Int32).toInt = 2 := (by decide); have k3 : (3 : Int32).toInt = 3 := (by decide); have k4 : (4 : Int32).toInt = 4 := (by decide); simp only [fa_lt, fa_le, k0, k1, k2, k3, k4] at c1 c2 ⊢; split <;> (try split) <;> first | rfl | (exfalso; omega)), by rw [ht]; exact hP, va_K.moved hW.alike hK, hD⟩, hS.F ht⟩) hS.2.2 dX7_hasWorker_26
    · skip
      refine lv_iload_n hx hb dX7_hasWorker_12 rfl (lv_at hl 1 rfl) ?_
      refine lv_aload_n hx hb dX7_hasWorker_13 rfl (lv_at hl 0 rfl) ?_
      refine va_get (D := D) (ci := 7) (v := .ref (q 8)) (C := RX7) (T := TX7) (N := 2) hx hb hts iX7_hasWorker_7 hown hK hP 7 rfl rfl 0 (by decide) (hts (.fieldLink RX7 15 "FondsRoom$Staff" "workers" "[LFondsRoom$Worker;") (by decide +kernel)) (fun _ h9 => h9) rfl dX7_hasWorker_14 ?_
      refine va_alen (v := 4) hx hb hK hP 8 5 rfl rfl rfl dX7_hasWorker_17 ?_
      refine lv_icmp_ge (tgt := 25) hx hb dX7_hasWorker_18 (by decide) (fun c3 => ?_) (fun c3 => ?_)
      · skip
        refine lv_iconst (v := 0) hx hb dX7_hasWorker_25 (by decide) ?_
        exact W.zret (v := 0) hx hb hr (rfl) (fun t ht hW => ⟨⟨0, (), rfl, (by show _ = sp_in _ _ _; unfold sp_in; have k0 : (0 : Int32).toInt = 0 := (by decide); have k1 : (1 : Int32).toInt = 1 := (by decide); have k2 : (2 : Int32).toInt = 2 := (by decide); have k3 : (3 : Int32).toInt = 3 := (by decide); have k4 : (4 : Int32).toInt = 4 := (by decide); simp only [fa_lt, fa_le, k0, k1, k2, k3, k4] at c1 c2 c3 ⊢; split <;> (try split) <;> first | rfl | (exfalso; omega)), by rw [ht]; exact hP, va_K.moved hW.alike hK, hD⟩, hS.F ht⟩) hS.2.2 dX7_hasWorker_26
      · skip
        refine lv_iconst (v := 1) hx hb dX7_hasWorker_21 (by decide) ?_
        refine lv_goto (tgt := 26) hx hb dX7_hasWorker_22 (by decide) ?_
        exact W.zret (v := 1) hx hb hr (rfl) (fun t ht hW => ⟨⟨1, (), rfl, (by show _ = sp_in _ _ _; unfold sp_in; have k0 : (0 : Int32).toInt = 0 := (by decide); have k1 : (1 : Int32).toInt = 1 := (by decide); have k2 : (2 : Int32).toInt = 2 := (by decide); have k3 : (3 : Int32).toInt = 3 := (by decide); have k4 : (4 : Int32).toInt = 4 := (by decide); simp only [fa_lt, fa_le, k0, k1, k2, k3, k4] at c1 c2 c3 ⊢; split <;> (try split) <;> first | rfl | (exfalso; omega)), by rw [ht]; exact hP, va_K.moved hW.alike hK, hD⟩, hS.F ht⟩) hS.2.2 dX7_hasWorker_26

set_option maxHeartbeats 4000000 in
set_option maxRecDepth 100000 in
theorem mX7_hasWorkerC (l : Launch) (D : va_G) (q : Nat → Nat) (cy : Nat → ClassId) (g : Nat → Nat → Option Nat) (t : Int32) (sz : Nat) (n : Int32) : Met l yX7_hasWorker wsX7_hasWorker ({ frames := 0, cells := 0, slots := 0, locals := 0 }) (PW D (TYS cy) (FW q cy g t) sz [.ref (q 11), .int n]) (QI D (TYS cy) (FW q cy g t) (FW q cy g t) sz (fun r => r = sp_in n 0 0)) 0 0 (va_A (FW q cy g t) sz) := by
  refine Met.ofW (cc := cX7_hasWorker) (maxL := 2) (ret := (some .boolean)) (by decide) rfl ?_
  intro p e s m args below meth c s₁ B hml hv
  obtain ⟨rfl, hsz, hP, hK, hD0⟩ := hv
  have hx := B.exec
  have hb := B.bytes
  have hr := B.returns
  have hts := atoms_spec (ws := wsX7_hasWorker) B.pre
  have hown : s.vm.findClass RX7 = some m.cls := findClass_of_methodNamed B.named
  have hlocks := B.notSynchronized
  subst hsz
  have hD := hD0.self (sz := s.heap.size)
  have hA : ∀ q9 : Nat, s.heap.size ≤ q9 → va_A (FW q cy g t) s.heap.size q9 := fun q9 h => Or.inr h
  have hS : va_S (va_A (FW q cy g t) s.heap.size) s.heap s.heap [] := va_S.rf
  have hl := lv_entry ([.ref (q 11), .int n]) (n := 2) (Nat.le_of_ble_eq_true rfl)
  rw [lg_entry_eq]
  generalize (lg_sl ([.ref (q 11), .int n]) ++ List.replicate (2 - (lg_sl ([.ref (q 11), .int n])).length) Slot.unset).toArray = ls at hl ⊢
  have hl : lv_has ls 2 [(0, .ref (q 11)), (1, .int n)] := hl
  refine lv_iload_n hx hb dX7_hasWorker_0 rfl (lv_at hl 1 rfl) ?_
  refine lv_if_lt (tgt := 25) hx hb dX7_hasWorker_1 (by decide) (fun c1 => ?_) (fun c1 => ?_)
  · skip
    refine lv_iconst (v := 0) hx hb dX7_hasWorker_25 (by decide) ?_
    exact W.zret (v := 0) hx hb hr (rfl) (fun t ht hW => ⟨⟨0, (), rfl, (by show _ = sp_in _ _ _; unfold sp_in; have k0 : (0 : Int32).toInt = 0 := (by decide); have k1 : (1 : Int32).toInt = 1 := (by decide); have k2 : (2 : Int32).toInt = 2 := (by decide); have k3 : (3 : Int32).toInt = 3 := (by decide); have k4 : (4 : Int32).toInt = 4 := (by decide); simp only [fa_lt, fa_le, k0, k1, k2, k3, k4] at c1 ⊢; split <;> (try split) <;> first | rfl | (exfalso; omega)), by rw [ht]; exact hP, va_K.moved hW.alike hK, hD⟩, hS.F ht⟩) hS.2.2 dX7_hasWorker_26
  · skip
    refine lv_iload_n hx hb dX7_hasWorker_4 rfl (lv_at hl 1 rfl) ?_
    refine lv_aload_n hx hb dX7_hasWorker_5 rfl (lv_at hl 0 rfl) ?_
    refine va_get (D := D) (ci := 7) (v := .int 1) (C := RX7) (T := TX7) (N := 2) hx hb hts iX7_hasWorker_7 hown hK hP 11 rfl rfl 1 (by decide) (hts (.fieldLink RX7 22 "FondsRoom$Staff" "hired" "I") (by decide +kernel)) (fun _ h9 => h9) rfl dX7_hasWorker_6 ?_
    refine lv_icmp_ge (tgt := 25) hx hb dX7_hasWorker_9 (by decide) (fun c2 => ?_) (fun c2 => ?_)
    · skip
      refine lv_iconst (v := 0) hx hb dX7_hasWorker_25 (by decide) ?_
      exact W.zret (v := 0) hx hb hr (rfl) (fun t ht hW => ⟨⟨0, (), rfl, (by show _ = sp_in _ _ _; unfold sp_in; have k0 : (0 : Int32).toInt = 0 := (by decide); have k1 : (1 : Int32).toInt = 1 := (by decide); have k2 : (2 : Int32).toInt = 2 := (by decide); have k3 : (3 : Int32).toInt = 3 := (by decide); have k4 : (4 : Int32).toInt = 4 := (by decide); simp only [fa_lt, fa_le, k0, k1, k2, k3, k4] at c1 c2 ⊢; split <;> (try split) <;> first | rfl | (exfalso; omega)), by rw [ht]; exact hP, va_K.moved hW.alike hK, hD⟩, hS.F ht⟩) hS.2.2 dX7_hasWorker_26
    · skip
      refine lv_iload_n hx hb dX7_hasWorker_12 rfl (lv_at hl 1 rfl) ?_
      refine lv_aload_n hx hb dX7_hasWorker_13 rfl (lv_at hl 0 rfl) ?_
      refine va_get (D := D) (ci := 7) (v := .ref (q 12)) (C := RX7) (T := TX7) (N := 2) hx hb hts iX7_hasWorker_7 hown hK hP 11 rfl rfl 0 (by decide) (hts (.fieldLink RX7 15 "FondsRoom$Staff" "workers" "[LFondsRoom$Worker;") (by decide +kernel)) (fun _ h9 => h9) rfl dX7_hasWorker_14 ?_
      refine va_alen (v := 3) hx hb hK hP 12 5 rfl rfl rfl dX7_hasWorker_17 ?_
      refine lv_icmp_ge (tgt := 25) hx hb dX7_hasWorker_18 (by decide) (fun c3 => ?_) (fun c3 => ?_)
      · skip
        refine lv_iconst (v := 0) hx hb dX7_hasWorker_25 (by decide) ?_
        exact W.zret (v := 0) hx hb hr (rfl) (fun t ht hW => ⟨⟨0, (), rfl, (by show _ = sp_in _ _ _; unfold sp_in; have k0 : (0 : Int32).toInt = 0 := (by decide); have k1 : (1 : Int32).toInt = 1 := (by decide); have k2 : (2 : Int32).toInt = 2 := (by decide); have k3 : (3 : Int32).toInt = 3 := (by decide); have k4 : (4 : Int32).toInt = 4 := (by decide); simp only [fa_lt, fa_le, k0, k1, k2, k3, k4] at c1 c2 c3 ⊢; split <;> (try split) <;> first | rfl | (exfalso; omega)), by rw [ht]; exact hP, va_K.moved hW.alike hK, hD⟩, hS.F ht⟩) hS.2.2 dX7_hasWorker_26
      · skip
        refine lv_iconst (v := 1) hx hb dX7_hasWorker_21 (by decide) ?_
        refine lv_goto (tgt := 26) hx hb dX7_hasWorker_22 (by decide) ?_
        exact W.zret (v := 1) hx hb hr (rfl) (fun t ht hW => ⟨⟨1, (), rfl, (by show _ = sp_in _ _ _; unfold sp_in; have k0 : (0 : Int32).toInt = 0 := (by decide); have k1 : (1 : Int32).toInt = 1 := (by decide); have k2 : (2 : Int32).toInt = 2 := (by decide); have k3 : (3 : Int32).toInt = 3 := (by decide); have k4 : (4 : Int32).toInt = 4 := (by decide); simp only [fa_lt, fa_le, k0, k1, k2, k3, k4] at c1 c2 c3 ⊢; split <;> (try split) <;> first | rfl | (exfalso; omega)), by rw [ht]; exact hP, va_K.moved hW.alike hK, hD⟩, hS.F ht⟩) hS.2.2 dX7_hasWorker_26

theorem iX9_isPerson_9 : ∀ w ∈ wsX90, w ∈ wsX9_isPerson := fun _ h => List.mem_cons_of_mem _ (List.mem_append_left _ (List.mem_append_right _ h))
set_option maxHeartbeats 4000000 in
set_option maxRecDepth 100000 in
theorem mX9_isPerson (l : Launch) (D : va_G) (q : Nat → Nat) (cy : Nat → ClassId) (g : Nat → Nat → Option Nat) (t : Int32) (sz : Nat) (k n : Int32) : Met l yX9_isPerson wsX9_isPerson ({ frames := 1, cells := 0, slots := 0, locals := 21 }) (PW D (TYS cy) (FW q cy g t) sz [.ref (q 0), .int k, .int n]) (QI D (TYS cy) (FW q cy g t) (FW q cy g t) sz (fun r => r = sp_person k n)) 0 0 (va_A (FW q cy g t) sz) := by
  refine Met.ofW (cc := cX9_isPerson) (maxL := 3) (ret := (some .boolean)) (by decide) rfl ?_
  intro p e s m args below meth c s₁ B hml hv
  obtain ⟨rfl, hsz, hP, hK, hD0⟩ := hv
  have hx := B.exec
  have hb := B.bytes
  have hr := B.returns
  have hts := atoms_spec (ws := wsX9_isPerson) B.pre
  have hown : s.vm.findClass RX9 = some m.cls := findClass_of_methodNamed B.named
  have hlocks := B.notSynchronized
  subst hsz
  have hD := hD0.self (sz := s.heap.size)
  have hA : ∀ q9 : Nat, s.heap.size ≤ q9 → va_A (FW q cy g t) s.heap.size q9 := fun q9 h => Or.inr h
  have hS : va_S (va_A (FW q cy g t) s.heap.size) s.heap s.heap [] := va_S.rf
  have hl := lv_entry ([.ref (q 0), .int k, .int n]) (n := 3) (Nat.le_of_ble_eq_true rfl)
  rw [lg_entry_eq]
  generalize (lg_sl ([.ref (q 0), .int k, .int n]) ++ List.replicate (3 - (lg_sl ([.ref (q 0), .int k, .int n])).length) Slot.unset).toArray = ls at hl ⊢
  have hl : lv_has ls 3 [(0, .ref (q 0)), (1, .int k), (2, .int n)] := hl
  refine lv_iload_n hx hb dX9_isPerson_0 rfl (lv_at hl 1 rfl) ?_
  by_cases j1 : k = 0
  · skip
    subst j1
    refine lv_tableIn (tgt := 28) hx hb dX9_isPerson_1 (by decide) (by decide) rfl (by decide) ?_
    refine lv_aload_n hx hb dX9_isPerson_28 rfl (lv_at hl 0 rfl) ?_
    refine lv_iload_n hx hb dX9_isPerson_29 rfl (lv_at hl 2 rfl) ?_
    refine cvI (wr := []) (As := [.int n]) (rest := []) ⟨hx, hb, hml, hown, hts⟩ (mX9_isReader l D q cy g t _ n ) (cwV 1 hts gX9_isPerson_X9_isReader rfl rfl rfl (by decide +kernel) ⟨Nat.le_of_ble_eq_true rfl, Nat.le_of_ble_eq_true rfl⟩) hK hP hD hS hA [0, 1, 2, 3, 4, 5, 6, 7, 8, 9, 10, 11, 12, 13, 14, 15, 16, 17, 18, 19, 20, 21] [] rfl rfl (by decide) (by decide) (by decide) 0 9 rfl rfl rfl hl.1 rfl (Nat.le_of_ble_eq_true rfl) dX9_isPerson_30 ⟨Nat.le_of_ble_eq_true rfl, Nat.le_of_ble_eq_true rfl⟩ (fun r2 H locs hr2 hP hD hS => ?_)
    have hP : va_P D vwCl (FW q cy g t) H := hP
    have hD : va_D _ (FW q cy g t) := hD
    obtain rfl : r2 = 0 := hr2
    exact W.zret (v := 0) hx hb hr (rfl) (fun t ht hW => ⟨⟨0, (), rfl, (by first | rfl | (unfold sp_person; rfl) | (unfold sp_person; simp; done) | decide), by rw [ht]; exact hP, va_K.moved hW.alike hK, hD⟩, hS.F ht⟩) hS.2.2 dX9_isPerson_33
  by_cases j3 : k = 1
  · skip
    subst j3
    refine lv_tableIn (tgt := 34) hx hb dX9_isPerson_1 (by decide) (by decide) rfl (by decide) ?_
    refine lv_aload_n hx hb dX9_isPerson_34 rfl (lv_at hl 0 rfl) ?_
    refine va_get (D := D) (ci := 9) (v := .ref (q 7)) (C := RX9) (T := TX9) (N := 19) hx hb hts iX9_isPerson_9 hown hK hP 0 rfl rfl 3 (by decide) (hts (.fieldLink RX9 37 "FondsRoom" "fetchers" "LFondsRoom$Staff;") (by decide +kernel)) (fun _ h9 => h9) rfl dX9_isPerson_35 ?_
    refine lv_iload_n hx hb dX9_isPerson_38 rfl (lv_at hl 2 rfl) ?_
    refine cvI (wr := []) (As := [.int n]) (rest := []) ⟨hx, hb, hml, hown, hts⟩ (mX7_hasWorkerF l D q cy g t _ n ) (cwV 1 hts gX9_isPerson_X7_hasWorker rfl rfl rfl (by decide +kernel) ⟨Nat.le_of_ble_eq_true rfl, Nat.le_of_ble_eq_true rfl⟩) hK hP hD hS hA [0, 1, 2, 3, 4, 5, 6, 7, 8, 9, 10, 11, 12, 13, 14, 15, 16, 17, 18, 19, 20, 21] [] rfl rfl (by decide) (by decide) (by decide) 7 7 rfl rfl rfl hl.1 rfl (Nat.le_of_ble_eq_true rfl) dX9_isPerson_39 ⟨Nat.le_of_ble_eq_true rfl, Nat.le_of_ble_eq_true rfl⟩ (fun r4 H locs hr4 hP hD hS => ?_)
    have hP : va_P D vwCl (FW q cy g t) H := hP
    have hD : va_D _ (FW q cy g t) := hD
    obtain rfl : r4 = sp_in n 0 1 := hr4
    exact W.zret (v := (sp_in n 0 1)) hx hb hr ((nz01 (sp_in01 _ _ _)).1) (fun t ht hW => ⟨⟨(sp_in n 0 1), (), rfl, (by first | rfl | (unfold sp_person; rfl) | (unfold sp_person; simp; done) | decide), by rw [ht]; exact hP, va_K.moved hW.alike hK, hD⟩, hS.F ht⟩) hS.2.2 dX9_isPerson_42
  by_cases j5 : k = 2
  · skip
    subst j5
    refine lv_tableIn (tgt := 43) hx hb dX9_isPerson_1 (by decide) (by decide) rfl (by decide) ?_
    refine lv_aload_n hx hb dX9_isPerson_43 rfl (lv_at hl 0 rfl) ?_
    refine va_get (D := D) (ci := 9) (v := .ref (q 11)) (C := RX9) (T := TX9) (N := 19) hx hb hts iX9_isPerson_9 hown hK hP 0 rfl rfl 4 (by decide) (hts (.fieldLink RX9 41 "FondsRoom" "copyists" "LFondsRoom$Staff;") (by decide +kernel)) (fun _ h9 => h9) rfl dX9_isPerson_44 ?_
    refine lv_iload_n hx hb dX9_isPerson_47 rfl (lv_at hl 2 rfl) ?_
    refine cvI (wr := []) (As := [.int n]) (rest := []) ⟨hx, hb, hml, hown, hts⟩ (mX7_hasWorkerC l D q cy g t _ n ) (cwV 1 hts gX9_isPerson_X7_hasWorker rfl rfl rfl (by decide +kernel) ⟨Nat.le_of_ble_eq_true rfl, Nat.le_of_ble_eq_true rfl⟩) hK hP hD hS hA [0, 1, 2, 3, 4, 5, 6, 7, 8, 9, 10, 11, 12, 13, 14, 15, 16, 17, 18, 19, 20, 21] [] rfl rfl (by decide) (by decide) (by decide) 11 7 rfl rfl rfl hl.1 rfl (Nat.le_of_ble_eq_true rfl) dX9_isPerson_48 ⟨Nat.le_of_ble_eq_true rfl, Nat.le_of_ble_eq_true rfl⟩ (fun r6 H locs hr6 hP hD hS => ?_)
    have hP : va_P D vwCl (FW q cy g t) H := hP
    have hD : va_D _ (FW q cy g t) := hD
    obtain rfl : r6 = sp_in n 0 0 := hr6
    exact W.zret (v := (sp_in n 0 0)) hx hb hr ((nz01 (sp_in01 _ _ _)).1) (fun t ht hW => ⟨⟨(sp_in n 0 0), (), rfl, (by first | rfl | (unfold sp_person; rfl) | (unfold sp_person; simp; done) | decide), by rw [ht]; exact hP, va_K.moved hW.alike hK, hD⟩, hS.F ht⟩) hS.2.2 dX9_isPerson_51
  have hout := ts_out (x := k) (n := 3) (by decide) (fun j9 hj9 => by rcases (show j9 = 0 ∨ j9 = 1 ∨ j9 = 2 by omega) with rfl | rfl | rfl <;> first | exact j1 | exact j3 | exact j5)
  refine lv_tableOut (tgt := 52) hx hb dX9_isPerson_1 (by omega) (by decide) ?_
  refine lv_iconst (v := 0) hx hb dX9_isPerson_52 (by decide) ?_
  exact W.zret (v := 0) hx hb hr (rfl) (fun t ht hW => ⟨⟨0, (), rfl, (by unfold sp_person; rw [if_neg (by assumption), if_neg (by assumption)]), by rw [ht]; exact hP, va_K.moved hW.alike hK, hD⟩, hS.F ht⟩) hS.2.2 dX9_isPerson_53

theorem iX9_desk_1 : ∀ w ∈ wsX10, w ∈ wsX9_desk := fun _ h => List.mem_cons_of_mem _ (List.mem_append_right _ h)
theorem iX9_desk_9 : ∀ w ∈ wsX90, w ∈ wsX9_desk := fun _ h => List.mem_cons_of_mem _ (List.mem_append_left _ (List.mem_append_right _ h))
set_option maxHeartbeats 4000000 in
set_option maxRecDepth 100000 in
theorem mX9_desk (l : Launch) (D : va_G) (q : Nat → Nat) (cy : Nat → ClassId) (g : Nat → Nat → Option Nat) (sz : Nat) (b1 : Int32) (hb1 : b1 = 0 ∨ b1 = 1) : Met l yX9_desk wsX9_desk ({ frames := 0, cells := 0, slots := 0, locals := 0 }) (PW D (TYS cy) (FW q cy g 0) sz [.ref (q 0), .int b1]) (QI D (TYS cy) (FW q cy g 0) (([] : va_W)) sz (fun r => r = 0)) 0 0 (va_A (FW q cy g 0) sz) := by
  refine Met.ofW (cc := cX9_desk) (maxL := 3) (ret := (some .int)) (by decide) rfl ?_
  intro p e s m args below meth c s₁ B hml hv
  obtain ⟨rfl, hsz, hP, hK, hD0⟩ := hv
  have hx := B.exec
  have hb := B.bytes
  have hr := B.returns
  have hts := atoms_spec (ws := wsX9_desk) B.pre
  have hown : s.vm.findClass RX9 = some m.cls := findClass_of_methodNamed B.named
  have hlocks := B.notSynchronized
  subst hsz
  have hD := hD0.self (sz := s.heap.size)
  have hA : ∀ q9 : Nat, s.heap.size ≤ q9 → va_A (FW q cy g 0) s.heap.size q9 := fun q9 h => Or.inr h
  have hS : va_S (va_A (FW q cy g 0) s.heap.size) s.heap s.heap [] := va_S.rf
  have hl := lv_entry ([.ref (q 0), .int b1]) (n := 3) (Nat.le_of_ble_eq_true rfl)
  rw [lg_entry_eq]
  generalize (lg_sl ([.ref (q 0), .int b1]) ++ List.replicate (3 - (lg_sl ([.ref (q 0), .int b1])).length) Slot.unset).toArray = ls at hl ⊢
  have hl : lv_has ls 3 [(0, .ref (q 0)), (1, .int b1)] := hl
  refine lv_aload_n hx hb dX9_desk_0 rfl (lv_at hl 0 rfl) ?_
  refine va_get (D := D) (ci := 9) (v := .int 0) (C := RX9) (T := TX9) (N := 19) hx hb hts iX9_desk_9 hown hK hP 0 rfl rfl 14 (by decide) (hts (.fieldLink RX9 78 "FondsRoom" "turn" "I") (by decide +kernel)) (fun _ h9 => h9) rfl dX9_desk_1 ?_
  refine lv_if_gt (tgt := 16) hx hb dX9_desk_4 (by decide) (fun c9 => absurd c9 (by decide)) (fun _ => ?_)
  refine lv_aload_n hx hb dX9_desk_7 rfl (lv_at hl 0 rfl) ?_
  refine va_get (D := D) (ci := 9) (v := .int 0) (C := RX9) (T := TX9) (N := 19) hx hb hts iX9_desk_9 hown hK hP 0 rfl rfl 10 (by decide) (hts (.fieldLink RX9 81 "FondsRoom" "deskCount" "I") (by decide +kernel)) (fun _ h9 => h9) rfl dX9_desk_8 ?_
  refine lv_bipush (v := 12) hx hb dX9_desk_11 (by decide) ?_
  refine lv_icmp_lt (tgt := 18) hx hb dX9_desk_13 (by decide) (fun _ => ?_) (fun c9 => absurd (by decide) c9)
  refine lv_aload_n hx hb dX9_desk_18 rfl (lv_at hl 0 rfl) ?_
  refine va_get (D := D) (ci := 9) (v := .int 0) (C := RX9) (T := TX9) (N := 19) hx hb hts iX9_desk_9 hown hK hP 0 rfl rfl 10 (by decide) (hts (.fieldLink RX9 81 "FondsRoom" "deskCount" "I") (by decide +kernel)) (fun _ h9 => h9) rfl dX9_desk_19 ?_
  refine lv_istore_n (lv' := [(2, .int 0), (0, .ref (q 0)), (1, .int b1)]) hx hb dX9_desk_22 rfl hl (by decide) rfl (fun ls hl => ?_)
  refine lv_aload_n hx hb dX9_desk_23 rfl (lv_at hl 1 rfl) ?_
  refine va_get (D := D) (ci := 9) (v := .ref (q 1)) (C := RX9) (T := TX9) (N := 19) hx hb hts iX9_desk_9 hown hK hP 0 rfl rfl 0 (by decide) (hts (.fieldLink RX9 11 "FondsRoom" "desks" "[LFondsRoom$Desk;") (by decide +kernel)) (fun _ h9 => h9) rfl dX9_desk_24 ?_
  refine lv_iload_n hx hb dX9_desk_27 rfl (lv_at hl 0 rfl) ?_
  refine va_aldq hx hb hK hP 1 2 rfl rfl (vp_in_iff.mpr (by decide)) dX9_desk_28 ?_
  refine W.eq (g2 := F0 m 29 ls [.ref (q 2)]) rfl ?_
  refine lv_iload_n hx hb dX9_desk_29 rfl (lv_at hl 2 rfl) ?_
  refine va_put (D := D) (ci := 1) (v := .int b1) (ty := .boolean) (C := RX1) (T := TX1) (N := 3) hx hb hts iX9_desk_1 tyX1 tyX1_ok nmX1 hown hK hP hD hS 2 rfl rfl 1 (by decide) (hts (.fieldLink RX9 84 "FondsRoom$Desk" "watched" "Z") (by decide +kernel)) (fun _ h9 => h9) rfl (by decide +kernel) (nz01 hb1).1 (nz01 hb1).2 (Nat.le_of_ble_eq_true rfl) dX9_desk_30 (fun H locs hP hD hS => ?_)
  have hP : va_P D vwCl ([(q 0, .inr (9, [.ref (q 1), .ref (q 3), .ref (q 5), .ref (q 7), .ref (q 11), .ref (q 14), .ref (q 15), .ref (q 16), .ref (q 17), .ref (q 21), .int 0, .int 0, .int 0, .int 2, .int 0, .int (-1), .int 0, .int 0, .int 0])), (q 1, .inl (cy 2, 12, .inr (.inr (.inr (.inr (va_up (g 0) 0 (some (q 2)))))))), (q 2, .inr (1, [.int 0, .int b1, .null])), (q 3, .inl (cy 3, 40, .inr (.inr (.inr (.inr (va_up (g 1) 0 (some (q 4)))))))), (q 4, .inr (0, [.int 0, .int 0, .int 0, .int 0, .null, .null])), (q 5, .inl (cy 4, 20, .inr (.inr (.inr (.inr (va_up (g 2) 0 (some (q 6)))))))), (q 6, .inr (6, [.int 0, .ref (q 26), .int 0, .int 0, .int 0, .int 0, .int 0, .null, .null, .int 0, .int 0, .int 0, .int 0, .int 0, .int 0, .int 0, .int 0])), (q 7, .inr (7, [.ref (q 8), .int 2])), (q 8, .inl (cy 5, 4, .inr (.inr (.inr (.inr (va_up (va_up (g 3) 0 (some (q 9))) 1 (some (q 10)))))))), (q 9, .inr (8, [.null, .null, .int 0])), (q 10, .inr (8, [.null, .null, .int 0])), (q 11, .inr (7, [.ref (q 12), .int 1])), (q 12, .inl (cy 5, 3, .inr (.inr (.inr (.inr (va_up (g 4) 0 (some (q 13)))))))), (q 13, .inr (8, [.null, .null, .int 0])), (q 14, .inr (3, [.ref (q 22), .int 0])), (q 15, .inr (3, [.ref (q 23), .int 0])), (q 16, .inr (3, [.ref (q 24), .int 0])), (q 17, .inr (4, [.ref (q 18), .ref (q 19), .ref (q 20), .int 0])), (q 18, .inl (cy 0, 30, .inl (fun _ => 0))), (q 19, .inl (cy 0, 30, .inl (fun _ => 0))), (q 20, .inl (cy 0, 30, .inl (fun _ => 0))), (q 21, .inr (2, [.ref (q 25), .int 0]))]) H := hP
  have hD : va_D _ ([(q 0, .inr (9, [.ref (q 1), .ref (q 3), .ref (q 5), .ref (q 7), .ref (q 11), .ref (q 14), .ref (q 15), .ref (q 16), .ref (q 17), .ref (q 21), .int 0, .int 0, .int 0, .int 2, .int 0, .int (-1), .int 0, .int 0, .int 0])), (q 1, .inl (cy 2, 12, .inr (.inr (.inr (.inr (va_up (g 0) 0 (some (q 2)))))))), (q 2, .inr (1, [.int 0, .int b1, .null])), (q 3, .inl (cy 3, 40, .inr (.inr (.inr (.inr (va_up (g 1) 0 (some (q 4)))))))), (q 4, .inr (0, [.int 0, .int 0, .int 0, .int 0, .null, .null])), (q 5, .inl (cy 4, 20, .inr (.inr (.inr (.inr (va_up (g 2) 0 (some (q 6)))))))), (q 6, .inr (6, [.int 0, .ref (q 26), .int 0, .int 0, .int 0, .int 0, .int 0, .null, .null, .int 0, .int 0, .int 0, .int 0, .int 0, .int 0, .int 0, .int 0])), (q 7, .inr (7, [.ref (q 8), .int 2])), (q 8, .inl (cy 5, 4, .inr (.inr (.inr (.inr (va_up (va_up (g 3) 0 (some (q 9))) 1 (some (q 10)))))))), (q 9, .inr (8, [.null, .null, .int 0])), (q 10, .inr (8, [.null, .null, .int 0])), (q 11, .inr (7, [.ref (q 12), .int 1])), (q 12, .inl (cy 5, 3, .inr (.inr (.inr (.inr (va_up (g 4) 0 (some (q 13)))))))), (q 13, .inr (8, [.null, .null, .int 0])), (q 14, .inr (3, [.ref (q 22), .int 0])), (q 15, .inr (3, [.ref (q 23), .int 0])), (q 16, .inr (3, [.ref (q 24), .int 0])), (q 17, .inr (4, [.ref (q 18), .ref (q 19), .ref (q 20), .int 0])), (q 18, .inl (cy 0, 30, .inl (fun _ => 0))), (q 19, .inl (cy 0, 30, .inl (fun _ => 0))), (q 20, .inl (cy 0, 30, .inl (fun _ => 0))), (q 21, .inr (2, [.ref (q 25), .int 0]))]) := hD
  refine lv_aload_n hx hb dX9_desk_33 rfl (lv_at hl 1 rfl) ?_
  refine lv_iload_n hx hb dX9_desk_34 rfl (lv_at hl 0 rfl) ?_
  refine lv_iconst (v := 1) hx hb dX9_desk_35 (by decide) ?_
  refine lv_iadd hx hb dX9_desk_36 ?_
  refine lv_topi (fun y1 ey1 => ?_)
  obtain rfl : y1 = 1 := ey1.trans (by decide)
  refine va_put (D := D) (ci := 9) (v := .int 1) (ty := .int) (C := RX9) (T := TX9) (N := 19) hx hb hts iX9_desk_9 tyX9 tyX9_ok nmX9 hown hK hP hD hS 0 rfl rfl 10 (by decide) (hts (.fieldLink RX9 81 "FondsRoom" "deskCount" "I") (by decide +kernel)) (fun _ h9 => h9) rfl (by decide +kernel) rfl rfl (Nat.le_of_ble_eq_true rfl) dX9_desk_37 (fun H locs hP hD hS => ?_)
  have hP : va_P D vwCl ([(q 0, .inr (9, [.ref (q 1), .ref (q 3), .ref (q 5), .ref (q 7), .ref (q 11), .ref (q 14), .ref (q 15), .ref (q 16), .ref (q 17), .ref (q 21), .int 1, .int 0, .int 0, .int 2, .int 0, .int (-1), .int 0, .int 0, .int 0])), (q 1, .inl (cy 2, 12, .inr (.inr (.inr (.inr (va_up (g 0) 0 (some (q 2)))))))), (q 2, .inr (1, [.int 0, .int b1, .null])), (q 3, .inl (cy 3, 40, .inr (.inr (.inr (.inr (va_up (g 1) 0 (some (q 4)))))))), (q 4, .inr (0, [.int 0, .int 0, .int 0, .int 0, .null, .null])), (q 5, .inl (cy 4, 20, .inr (.inr (.inr (.inr (va_up (g 2) 0 (some (q 6)))))))), (q 6, .inr (6, [.int 0, .ref (q 26), .int 0, .int 0, .int 0, .int 0, .int 0, .null, .null, .int 0, .int 0, .int 0, .int 0, .int 0, .int 0, .int 0, .int 0])), (q 7, .inr (7, [.ref (q 8), .int 2])), (q 8, .inl (cy 5, 4, .inr (.inr (.inr (.inr (va_up (va_up (g 3) 0 (some (q 9))) 1 (some (q 10)))))))), (q 9, .inr (8, [.null, .null, .int 0])), (q 10, .inr (8, [.null, .null, .int 0])), (q 11, .inr (7, [.ref (q 12), .int 1])), (q 12, .inl (cy 5, 3, .inr (.inr (.inr (.inr (va_up (g 4) 0 (some (q 13)))))))), (q 13, .inr (8, [.null, .null, .int 0])), (q 14, .inr (3, [.ref (q 22), .int 0])), (q 15, .inr (3, [.ref (q 23), .int 0])), (q 16, .inr (3, [.ref (q 24), .int 0])), (q 17, .inr (4, [.ref (q 18), .ref (q 19), .ref (q 20), .int 0])), (q 18, .inl (cy 0, 30, .inl (fun _ => 0))), (q 19, .inl (cy 0, 30, .inl (fun _ => 0))), (q 20, .inl (cy 0, 30, .inl (fun _ => 0))), (q 21, .inr (2, [.ref (q 25), .int 0]))]) H := hP
  have hD : va_D _ ([(q 0, .inr (9, [.ref (q 1), .ref (q 3), .ref (q 5), .ref (q 7), .ref (q 11), .ref (q 14), .ref (q 15), .ref (q 16), .ref (q 17), .ref (q 21), .int 1, .int 0, .int 0, .int 2, .int 0, .int (-1), .int 0, .int 0, .int 0])), (q 1, .inl (cy 2, 12, .inr (.inr (.inr (.inr (va_up (g 0) 0 (some (q 2)))))))), (q 2, .inr (1, [.int 0, .int b1, .null])), (q 3, .inl (cy 3, 40, .inr (.inr (.inr (.inr (va_up (g 1) 0 (some (q 4)))))))), (q 4, .inr (0, [.int 0, .int 0, .int 0, .int 0, .null, .null])), (q 5, .inl (cy 4, 20, .inr (.inr (.inr (.inr (va_up (g 2) 0 (some (q 6)))))))), (q 6, .inr (6, [.int 0, .ref (q 26), .int 0, .int 0, .int 0, .int 0, .int 0, .null, .null, .int 0, .int 0, .int 0, .int 0, .int 0, .int 0, .int 0, .int 0])), (q 7, .inr (7, [.ref (q 8), .int 2])), (q 8, .inl (cy 5, 4, .inr (.inr (.inr (.inr (va_up (va_up (g 3) 0 (some (q 9))) 1 (some (q 10)))))))), (q 9, .inr (8, [.null, .null, .int 0])), (q 10, .inr (8, [.null, .null, .int 0])), (q 11, .inr (7, [.ref (q 12), .int 1])), (q 12, .inl (cy 5, 3, .inr (.inr (.inr (.inr (va_up (g 4) 0 (some (q 13)))))))), (q 13, .inr (8, [.null, .null, .int 0])), (q 14, .inr (3, [.ref (q 22), .int 0])), (q 15, .inr (3, [.ref (q 23), .int 0])), (q 16, .inr (3, [.ref (q 24), .int 0])), (q 17, .inr (4, [.ref (q 18), .ref (q 19), .ref (q 20), .int 0])), (q 18, .inl (cy 0, 30, .inl (fun _ => 0))), (q 19, .inl (cy 0, 30, .inl (fun _ => 0))), (q 20, .inl (cy 0, 30, .inl (fun _ => 0))), (q 21, .inr (2, [.ref (q 25), .int 0]))]) := hD
  refine lv_iload_n hx hb dX9_desk_40 rfl (lv_at hl 0 rfl) ?_
  exact W.iret (v := 0) hx hb hr (fun t ht hW => ⟨⟨0, (), rfl, (by first | rfl | trivial | decide), by rw [ht]; exact P0, va_K.moved hW.alike hK, D0⟩, hS.F ht⟩) hS.2.2 dX9_desk_41

theorem iX9_box_0 : ∀ w ∈ wsX00, w ∈ wsX9_box := fun _ h => List.mem_cons_of_mem _ (List.mem_append_right _ h)
theorem iX9_box_9 : ∀ w ∈ wsX90, w ∈ wsX9_box := fun _ h => List.mem_cons_of_mem _ (List.mem_append_left _ (List.mem_append_right _ h))
set_option maxHeartbeats 4000000 in
set_option maxRecDepth 100000 in
theorem mX9_box (l : Launch) (D : va_G) (q : Nat → Nat) (cy : Nat → ClassId) (g : Nat → Nat → Option Nat) (sz : Nat) (f b1 : Int32) (hb1 : b1 = 0 ∨ b1 = 1) : Met l yX9_box wsX9_box ({ frames := 1, cells := 0, slots := 0, locals := 22 }) (PW D (TYS cy) (FW q cy g 0) sz [.ref (q 0), .int f, .int b1]) (QI D (TYS cy) (FW q cy g 0) (([] : va_W)) sz (fun r => r = sp_box f)) 0 0 (va_A (FW q cy g 0) sz) := by
  refine Met.ofW (cc := cX9_box) (maxL := 4) (ret := (some .int)) (by decide) rfl ?_
  intro p e s m args below meth c s₁ B hml hv
  obtain ⟨rfl, hsz, hP, hK, hD0⟩ := hv
  have hx := B.exec
  have hb := B.bytes
  have hr := B.returns
  have hts := atoms_spec (ws := wsX9_box) B.pre
  have hown : s.vm.findClass RX9 = some m.cls := findClass_of_methodNamed B.named
  have hlocks := B.notSynchronized
  subst hsz
  have hD := hD0.self (sz := s.heap.size)
  have hA : ∀ q9 : Nat, s.heap.size ≤ q9 → va_A (FW q cy g 0) s.heap.size q9 := fun q9 h => Or.inr h
  have hS : va_S (va_A (FW q cy g 0) s.heap.size) s.heap s.heap [] := va_S.rf
  have hl := lv_entry ([.ref (q 0), .int f, .int b1]) (n := 4) (Nat.le_of_ble_eq_true rfl)
  rw [lg_entry_eq]
  generalize (lg_sl ([.ref (q 0), .int f, .int b1]) ++ List.replicate (4 - (lg_sl ([.ref (q 0), .int f, .int b1])).length) Slot.unset).toArray = ls at hl ⊢
  have hl : lv_has ls 4 [(0, .ref (q 0)), (1, .int f), (2, .int b1)] := hl
  refine lv_aload_n hx hb dX9_box_0 rfl (lv_at hl 0 rfl) ?_
  refine va_get (D := D) (ci := 9) (v := .int 0) (C := RX9) (T := TX9) (N := 19) hx hb hts iX9_box_9 hown hK hP 0 rfl rfl 14 (by decide) (hts (.fieldLink RX9 78 "FondsRoom" "turn" "I") (by decide +kernel)) (fun _ h9 => h9) rfl dX9_box_1 ?_
  refine lv_if_gt (tgt := 26) hx hb dX9_box_4 (by decide) (fun c9 => absurd c9 (by decide)) (fun _ => ?_)
  refine lv_aload_n hx hb dX9_box_7 rfl (lv_at hl 0 rfl) ?_
  refine va_get (D := D) (ci := 9) (v := .int 0) (C := RX9) (T := TX9) (N := 19) hx hb hts iX9_box_9 hown hK hP 0 rfl rfl 11 (by decide) (hts (.fieldLink RX9 88 "FondsRoom" "boxCount" "I") (by decide +kernel)) (fun _ h9 => h9) rfl dX9_box_8 ?_
  refine lv_bipush (v := 40) hx hb dX9_box_11 (by decide) ?_
  refine lv_icmp_ge (tgt := 26) hx hb dX9_box_13 (by decide) (fun c9 => absurd c9 (by decide)) (fun _ => ?_)
  refine lv_iload_n hx hb dX9_box_16 rfl (lv_at hl 1 rfl) ?_
  refine lv_iconst (v := 0) hx hb dX9_box_17 (by decide) ?_
  refine lv_bipush (v := 9) hx hb dX9_box_18 (by decide) ?_
  refine csI (As := [.int f, .int 0, .int 9]) (rest := []) ⟨hx, hb, hml, hown, hts⟩ (mX9_isWithin l D _ f 0 9) (va_cwS 3 hts gX9_box_X9_isWithin rfl rfl rfl (by decide +kernel) ⟨Nat.le_of_ble_eq_true rfl, Nat.le_of_ble_eq_true rfl⟩) hK hP hS hA rfl hl.1 rfl (Nat.le_of_ble_eq_true rfl) dX9_box_20 ⟨Nat.le_of_ble_eq_true rfl, Nat.le_of_ble_eq_true rfl⟩ (fun r1 H locs hr1 hP hS => ?_)
  obtain rfl : r1 = sp_in f 0 9 := hr1
  refine lv_if_ne (tgt := 28) hx hb dX9_box_23 (by decide) (fun c2 => ?_) (fun c2 => ?_)
  · skip
    refine lv_aload_n hx hb dX9_box_28 rfl (lv_at hl 0 rfl) ?_
    refine va_get (D := D) (ci := 9) (v := .int 0) (C := RX9) (T := TX9) (N := 19) hx hb hts iX9_box_9 hown hK hP 0 rfl rfl 11 (by decide) (hts (.fieldLink RX9 88 "FondsRoom" "boxCount" "I") (by decide +kernel)) (fun _ h9 => h9) rfl dX9_box_29 ?_
    refine lv_istore_n (lv' := [(3, .int 0), (0, .ref (q 0)), (1, .int f), (2, .int b1)]) hx hb dX9_box_32 rfl hl (by decide) rfl (fun ls hl => ?_)
    refine lv_aload_n hx hb dX9_box_33 rfl (lv_at hl 1 rfl) ?_
    refine va_get (D := D) (ci := 9) (v := .ref (q 3)) (C := RX9) (T := TX9) (N := 19) hx hb hts iX9_box_9 hown hK hP 0 rfl rfl 1 (by decide) (hts (.fieldLink RX9 20 "FondsRoom" "boxes" "[LFondsRoom$Box;") (by decide +kernel)) (fun _ h9 => h9) rfl dX9_box_34 ?_
    refine lv_iload_n hx hb dX9_box_37 rfl (lv_at hl 0 rfl) ?_
    refine va_aldq hx hb hK hP 3 3 rfl rfl (vp_in_iff.mpr (by decide)) dX9_box_38 ?_
    refine W.eq (g2 := F0 m 39 ls [.ref (q 4)]) rfl ?_
    refine lv_iload_n hx hb dX9_box_39 rfl (lv_at hl 2 rfl) ?_
    refine va_put (D := D) (ci := 0) (v := .int f) (ty := .int) (C := RX0) (T := TX0) (N := 6) hx hb hts iX9_box_0 tyX0 tyX0_ok nmX0 hown hK hP hD hS 4 rfl rfl 1 (by decide) (hts (.fieldLink RX9 95 "FondsRoom$Box" "fonds" "I") (by decide +kernel)) (fun _ h9 => h9) rfl (by decide +kernel) rfl rfl (Nat.le_of_ble_eq_true rfl) dX9_box_40 (fun H locs hP hD hS => ?_)
    have hP : va_P D vwCl ([(q 0, .inr (9, [.ref (q 1), .ref (q 3), .ref (q 5), .ref (q 7), .ref (q 11), .ref (q 14), .ref (q 15), .ref (q 16), .ref (q 17), .ref (q 21), .int 0, .int 0, .int 0, .int 2, .int 0, .int (-1), .int 0, .int 0, .int 0])), (q 1, .inl (cy 2, 12, .inr (.inr (.inr (.inr (va_up (g 0) 0 (some (q 2)))))))), (q 2, .inr (1, [.int 0, .int 0, .null])), (q 3, .inl (cy 3, 40, .inr (.inr (.inr (.inr (va_up (g 1) 0 (some (q 4)))))))), (q 4, .inr (0, [.int 0, .int f, .int 0, .int 0, .null, .null])), (q 5, .inl (cy 4, 20, .inr (.inr (.inr (.inr (va_up (g 2) 0 (some (q 6)))))))), (q 6, .inr (6, [.int 0, .ref (q 26), .int 0, .int 0, .int 0, .int 0, .int 0, .null, .null, .int 0, .int 0, .int 0, .int 0, .int 0, .int 0, .int 0, .int 0])), (q 7, .inr (7, [.ref (q 8), .int 2])), (q 8, .inl (cy 5, 4, .inr (.inr (.inr (.inr (va_up (va_up (g 3) 0 (some (q 9))) 1 (some (q 10)))))))), (q 9, .inr (8, [.null, .null, .int 0])), (q 10, .inr (8, [.null, .null, .int 0])), (q 11, .inr (7, [.ref (q 12), .int 1])), (q 12, .inl (cy 5, 3, .inr (.inr (.inr (.inr (va_up (g 4) 0 (some (q 13)))))))), (q 13, .inr (8, [.null, .null, .int 0])), (q 14, .inr (3, [.ref (q 22), .int 0])), (q 15, .inr (3, [.ref (q 23), .int 0])), (q 16, .inr (3, [.ref (q 24), .int 0])), (q 17, .inr (4, [.ref (q 18), .ref (q 19), .ref (q 20), .int 0])), (q 18, .inl (cy 0, 30, .inl (fun _ => 0))), (q 19, .inl (cy 0, 30, .inl (fun _ => 0))), (q 20, .inl (cy 0, 30, .inl (fun _ => 0))), (q 21, .inr (2, [.ref (q 25), .int 0]))]) H := hP
    have hD : va_D _ ([(q 0, .inr (9, [.ref (q 1), .ref (q 3), .ref (q 5), .ref (q 7), .ref (q 11), .ref (q 14), .ref (q 15), .ref (q 16), .ref (q 17), .ref (q 21), .int 0, .int 0, .int 0, .int 2, .int 0, .int (-1), .int 0, .int 0, .int 0])), (q 1, .inl (cy 2, 12, .inr (.inr (.inr (.inr (va_up (g 0) 0 (some (q 2)))))))), (q 2, .inr (1, [.int 0, .int 0, .null])), (q 3, .inl (cy 3, 40, .inr (.inr (.inr (.inr (va_up (g 1) 0 (some (q 4)))))))), (q 4, .inr (0, [.int 0, .int f, .int 0, .int 0, .null, .null])), (q 5, .inl (cy 4, 20, .inr (.inr (.inr (.inr (va_up (g 2) 0 (some (q 6)))))))), (q 6, .inr (6, [.int 0, .ref (q 26), .int 0, .int 0, .int 0, .int 0, .int 0, .null, .null, .int 0, .int 0, .int 0, .int 0, .int 0, .int 0, .int 0, .int 0])), (q 7, .inr (7, [.ref (q 8), .int 2])), (q 8, .inl (cy 5, 4, .inr (.inr (.inr (.inr (va_up (va_up (g 3) 0 (some (q 9))) 1 (some (q 10)))))))), (q 9, .inr (8, [.null, .null, .int 0])), (q 10, .inr (8, [.null, .null, .int 0])), (q 11, .inr (7, [.ref (q 12), .int 1])), (q 12, .inl (cy 5, 3, .inr (.inr (.inr (.inr (va_up (g 4) 0 (some (q 13)))))))), (q 13, .inr (8, [.null, .null, .int 0])), (q 14, .inr (3, [.ref (q 22), .int 0])), (q 15, .inr (3, [.ref (q 23), .int 0])), (q 16, .inr (3, [.ref (q 24), .int 0])), (q 17, .inr (4, [.ref (q 18), .ref (q 19), .ref (q 20), .int 0])), (q 18, .inl (cy 0, 30, .inl (fun _ => 0))), (q 19, .inl (cy 0, 30, .inl (fun _ => 0))), (q 20, .inl (cy 0, 30, .inl (fun _ => 0))), (q 21, .inr (2, [.ref (q 25), .int 0]))]) := hD
    refine lv_aload_n hx hb dX9_box_43 rfl (lv_at hl 1 rfl) ?_
    refine va_get (D := D) (ci := 9) (v := .ref (q 3)) (C := RX9) (T := TX9) (N := 19) hx hb hts iX9_box_9 hown hK hP 0 rfl rfl 1 (by decide) (hts (.fieldLink RX9 20 "FondsRoom" "boxes" "[LFondsRoom$Box;") (by decide +kernel)) (fun _ h9 => h9) rfl dX9_box_44 ?_
    refine lv_iload_n hx hb dX9_box_47 rfl (lv_at hl 0 rfl) ?_
    refine va_aldq hx hb hK hP 3 3 rfl rfl (vp_in_iff.mpr (by decide)) dX9_box_48 ?_
    refine W.eq (g2 := F0 m 49 ls [.ref (q 4)]) rfl ?_
    refine lv_iload_n hx hb dX9_box_49 rfl (lv_at hl 3 rfl) ?_
    refine va_put (D := D) (ci := 0) (v := .int b1) (ty := .boolean) (C := RX0) (T := TX0) (N := 6) hx hb hts iX9_box_0 tyX0 tyX0_ok nmX0 hown hK hP hD hS 4 rfl rfl 2 (by decide) (hts (.fieldLink RX9 98 "FondsRoom$Box" "precious" "Z") (by decide +kernel)) (fun _ h9 => h9) rfl (by decide +kernel) (nz01 hb1).1 (nz01 hb1).2 (Nat.le_of_ble_eq_true rfl) dX9_box_50 (fun H locs hP hD hS => ?_)
    have hP : va_P D vwCl ([(q 0, .inr (9, [.ref (q 1), .ref (q 3), .ref (q 5), .ref (q 7), .ref (q 11), .ref (q 14), .ref (q 15), .ref (q 16), .ref (q 17), .ref (q 21), .int 0, .int 0, .int 0, .int 2, .int 0, .int (-1), .int 0, .int 0, .int 0])), (q 1, .inl (cy 2, 12, .inr (.inr (.inr (.inr (va_up (g 0) 0 (some (q 2)))))))), (q 2, .inr (1, [.int 0, .int 0, .null])), (q 3, .inl (cy 3, 40, .inr (.inr (.inr (.inr (va_up (g 1) 0 (some (q 4)))))))), (q 4, .inr (0, [.int 0, .int f, .int b1, .int 0, .null, .null])), (q 5, .inl (cy 4, 20, .inr (.inr (.inr (.inr (va_up (g 2) 0 (some (q 6)))))))), (q 6, .inr (6, [.int 0, .ref (q 26), .int 0, .int 0, .int 0, .int 0, .int 0, .null, .null, .int 0, .int 0, .int 0, .int 0, .int 0, .int 0, .int 0, .int 0])), (q 7, .inr (7, [.ref (q 8), .int 2])), (q 8, .inl (cy 5, 4, .inr (.inr (.inr (.inr (va_up (va_up (g 3) 0 (some (q 9))) 1 (some (q 10)))))))), (q 9, .inr (8, [.null, .null, .int 0])), (q 10, .inr (8, [.null, .null, .int 0])), (q 11, .inr (7, [.ref (q 12), .int 1])), (q 12, .inl (cy 5, 3, .inr (.inr (.inr (.inr (va_up (g 4) 0 (some (q 13)))))))), (q 13, .inr (8, [.null, .null, .int 0])), (q 14, .inr (3, [.ref (q 22), .int 0])), (q 15, .inr (3, [.ref (q 23), .int 0])), (q 16, .inr (3, [.ref (q 24), .int 0])), (q 17, .inr (4, [.ref (q 18), .ref (q 19), .ref (q 20), .int 0])), (q 18, .inl (cy 0, 30, .inl (fun _ => 0))), (q 19, .inl (cy 0, 30, .inl (fun _ => 0))), (q 20, .inl (cy 0, 30, .inl (fun _ => 0))), (q 21, .inr (2, [.ref (q 25), .int 0]))]) H := hP
    have hD : va_D _ ([(q 0, .inr (9, [.ref (q 1), .ref (q 3), .ref (q 5), .ref (q 7), .ref (q 11), .ref (q 14), .ref (q 15), .ref (q 16), .ref (q 17), .ref (q 21), .int 0, .int 0, .int 0, .int 2, .int 0, .int (-1), .int 0, .int 0, .int 0])), (q 1, .inl (cy 2, 12, .inr (.inr (.inr (.inr (va_up (g 0) 0 (some (q 2)))))))), (q 2, .inr (1, [.int 0, .int 0, .null])), (q 3, .inl (cy 3, 40, .inr (.inr (.inr (.inr (va_up (g 1) 0 (some (q 4)))))))), (q 4, .inr (0, [.int 0, .int f, .int b1, .int 0, .null, .null])), (q 5, .inl (cy 4, 20, .inr (.inr (.inr (.inr (va_up (g 2) 0 (some (q 6)))))))), (q 6, .inr (6, [.int 0, .ref (q 26), .int 0, .int 0, .int 0, .int 0, .int 0, .null, .null, .int 0, .int 0, .int 0, .int 0, .int 0, .int 0, .int 0, .int 0])), (q 7, .inr (7, [.ref (q 8), .int 2])), (q 8, .inl (cy 5, 4, .inr (.inr (.inr (.inr (va_up (va_up (g 3) 0 (some (q 9))) 1 (some (q 10)))))))), (q 9, .inr (8, [.null, .null, .int 0])), (q 10, .inr (8, [.null, .null, .int 0])), (q 11, .inr (7, [.ref (q 12), .int 1])), (q 12, .inl (cy 5, 3, .inr (.inr (.inr (.inr (va_up (g 4) 0 (some (q 13)))))))), (q 13, .inr (8, [.null, .null, .int 0])), (q 14, .inr (3, [.ref (q 22), .int 0])), (q 15, .inr (3, [.ref (q 23), .int 0])), (q 16, .inr (3, [.ref (q 24), .int 0])), (q 17, .inr (4, [.ref (q 18), .ref (q 19), .ref (q 20), .int 0])), (q 18, .inl (cy 0, 30, .inl (fun _ => 0))), (q 19, .inl (cy 0, 30, .inl (fun _ => 0))), (q 20, .inl (cy 0, 30, .inl (fun _ => 0))), (q 21, .inr (2, [.ref (q 25), .int 0]))]) := hD
    refine lv_aload_n hx hb dX9_box_53 rfl (lv_at hl 1 rfl) ?_
    refine lv_iload_n hx hb dX9_box_54 rfl (lv_at hl 0 rfl) ?_
    refine lv_iconst (v := 1) hx hb dX9_box_55 (by decide) ?_
    refine lv_iadd hx hb dX9_box_56 ?_
    refine lv_topi (fun y3 ey3 => ?_)
    obtain rfl : y3 = 1 := ey3.trans (by decide)
    refine va_put (D := D) (ci := 9) (v := .int 1) (ty := .int) (C := RX9) (T := TX9) (N := 19) hx hb hts iX9_box_9 tyX9 tyX9_ok nmX9 hown hK hP hD hS 0 rfl rfl 11 (by decide) (hts (.fieldLink RX9 88 "FondsRoom" "boxCount" "I") (by decide +kernel)) (fun _ h9 => h9) rfl (by decide +kernel) rfl rfl (Nat.le_of_ble_eq_true rfl) dX9_box_57 (fun H locs hP hD hS => ?_)
    have hP : va_P D vwCl ([(q 0, .inr (9, [.ref (q 1), .ref (q 3), .ref (q 5), .ref (q 7), .ref (q 11), .ref (q 14), .ref (q 15), .ref (q 16), .ref (q 17), .ref (q 21), .int 0, .int 1, .int 0, .int 2, .int 0, .int (-1), .int 0, .int 0, .int 0])), (q 1, .inl (cy 2, 12, .inr (.inr (.inr (.inr (va_up (g 0) 0 (some (q 2)))))))), (q 2, .inr (1, [.int 0, .int 0, .null])), (q 3, .inl (cy 3, 40, .inr (.inr (.inr (.inr (va_up (g 1) 0 (some (q 4)))))))), (q 4, .inr (0, [.int 0, .int f, .int b1, .int 0, .null, .null])), (q 5, .inl (cy 4, 20, .inr (.inr (.inr (.inr (va_up (g 2) 0 (some (q 6)))))))), (q 6, .inr (6, [.int 0, .ref (q 26), .int 0, .int 0, .int 0, .int 0, .int 0, .null, .null, .int 0, .int 0, .int 0, .int 0, .int 0, .int 0, .int 0, .int 0])), (q 7, .inr (7, [.ref (q 8), .int 2])), (q 8, .inl (cy 5, 4, .inr (.inr (.inr (.inr (va_up (va_up (g 3) 0 (some (q 9))) 1 (some (q 10)))))))), (q 9, .inr (8, [.null, .null, .int 0])), (q 10, .inr (8, [.null, .null, .int 0])), (q 11, .inr (7, [.ref (q 12), .int 1])), (q 12, .inl (cy 5, 3, .inr (.inr (.inr (.inr (va_up (g 4) 0 (some (q 13)))))))), (q 13, .inr (8, [.null, .null, .int 0])), (q 14, .inr (3, [.ref (q 22), .int 0])), (q 15, .inr (3, [.ref (q 23), .int 0])), (q 16, .inr (3, [.ref (q 24), .int 0])), (q 17, .inr (4, [.ref (q 18), .ref (q 19), .ref (q 20), .int 0])), (q 18, .inl (cy 0, 30, .inl (fun _ => 0))), (q 19, .inl (cy 0, 30, .inl (fun _ => 0))), (q 20, .inl (cy 0, 30, .inl (fun _ => 0))), (q 21, .inr (2, [.ref (q 25), .int 0]))]) H := hP
    have hD : va_D _ ([(q 0, .inr (9, [.ref (q 1), .ref (q 3), .ref (q 5), .ref (q 7), .ref (q 11), .ref (q 14), .ref (q 15), .ref (q 16), .ref (q 17), .ref (q 21), .int 0, .int 1, .int 0, .int 2, .int 0, .int (-1), .int 0, .int 0, .int 0])), (q 1, .inl (cy 2, 12, .inr (.inr (.inr (.inr (va_up (g 0) 0 (some (q 2)))))))), (q 2, .inr (1, [.int 0, .int 0, .null])), (q 3, .inl (cy 3, 40, .inr (.inr (.inr (.inr (va_up (g 1) 0 (some (q 4)))))))), (q 4, .inr (0, [.int 0, .int f, .int b1, .int 0, .null, .null])), (q 5, .inl (cy 4, 20, .inr (.inr (.inr (.inr (va_up (g 2) 0 (some (q 6)))))))), (q 6, .inr (6, [.int 0, .ref (q 26), .int 0, .int 0, .int 0, .int 0, .int 0, .null, .null, .int 0, .int 0, .int 0, .int 0, .int 0, .int 0, .int 0, .int 0])), (q 7, .inr (7, [.ref (q 8), .int 2])), (q 8, .inl (cy 5, 4, .inr (.inr (.inr (.inr (va_up (va_up (g 3) 0 (some (q 9))) 1 (some (q 10)))))))), (q 9, .inr (8, [.null, .null, .int 0])), (q 10, .inr (8, [.null, .null, .int 0])), (q 11, .inr (7, [.ref (q 12), .int 1])), (q 12, .inl (cy 5, 3, .inr (.inr (.inr (.inr (va_up (g 4) 0 (some (q 13)))))))), (q 13, .inr (8, [.null, .null, .int 0])), (q 14, .inr (3, [.ref (q 22), .int 0])), (q 15, .inr (3, [.ref (q 23), .int 0])), (q 16, .inr (3, [.ref (q 24), .int 0])), (q 17, .inr (4, [.ref (q 18), .ref (q 19), .ref (q 20), .int 0])), (q 18, .inl (cy 0, 30, .inl (fun _ => 0))), (q 19, .inl (cy 0, 30, .inl (fun _ => 0))), (q 20, .inl (cy 0, 30, .inl (fun _ => 0))), (q 21, .inr (2, [.ref (q 25), .int 0]))]) := hD
    refine lv_iload_n hx hb dX9_box_60 rfl (lv_at hl 0 rfl) ?_
    exact W.iret (v := 0) hx hb hr (fun t ht hW => ⟨⟨0, (), rfl, (by simp [sp_box, c2]), by rw [ht]; exact P0, va_K.moved hW.alike hK, D0⟩, hS.F ht⟩) hS.2.2 dX9_box_61
  · skip
    refine lv_iconst (v := (-1)) hx hb dX9_box_26 (by decide) ?_
    exact W.iret (v := (-1)) hx hb hr (fun t ht hW => ⟨⟨(-1), (), rfl, (by simp [sp_box, c2]), by rw [ht]; exact P0, va_K.moved hW.alike hK, D0⟩, hS.F ht⟩) hS.2.2 dX9_box_27

theorem iX9_people_7 : ∀ w ∈ wsX70, w ∈ wsX9_people := fun _ h => List.mem_cons_of_mem _ (List.mem_append_right _ h)
theorem iX9_people_9 : ∀ w ∈ wsX90, w ∈ wsX9_people := fun _ h => List.mem_cons_of_mem _ (List.mem_append_left _ (List.mem_append_right _ h))
set_option maxHeartbeats 4000000 in
set_option maxRecDepth 100000 in
theorem mX9_people (l : Launch) (D : va_G) (q : Nat → Nat) (cy : Nat → ClassId) (g : Nat → Nat → Option Nat) (sz : Nat) (f c1 w1 : Int32) : Met l yX9_people wsX9_people ({ frames := 1, cells := 0, slots := 0, locals := 22 }) (PW D (TYS cy) (FW q cy g 0) sz [.ref (q 0), .int f, .int c1, .int w1]) (QI D (TYS cy) (FW q cy g 0) (([] : va_W)) sz (fun r => r = sp_people f c1 w1)) 0 0 (va_A (FW q cy g 0) sz) := by
  refine Met.ofW (cc := cX9_people) (maxL := 4) (ret := (some .boolean)) (by decide) rfl ?_
  intro p e s m args below meth c s₁ B hml hv
  obtain ⟨rfl, hsz, hP, hK, hD0⟩ := hv
  have hx := B.exec
  have hb := B.bytes
  have hr := B.returns
  have hts := atoms_spec (ws := wsX9_people) B.pre
  have hown : s.vm.findClass RX9 = some m.cls := findClass_of_methodNamed B.named
  have hlocks := B.notSynchronized
  subst hsz
  have hD := hD0.self (sz := s.heap.size)
  have hA : ∀ q9 : Nat, s.heap.size ≤ q9 → va_A (FW q cy g 0) s.heap.size q9 := fun q9 h => Or.inr h
  have hS : va_S (va_A (FW q cy g 0) s.heap.size) s.heap s.heap [] := va_S.rf
  have hl := lv_entry ([.ref (q 0), .int f, .int c1, .int w1]) (n := 4) (Nat.le_of_ble_eq_true rfl)
  rw [lg_entry_eq]
  generalize (lg_sl ([.ref (q 0), .int f, .int c1, .int w1]) ++ List.replicate (4 - (lg_sl ([.ref (q 0), .int f, .int c1, .int w1])).length) Slot.unset).toArray = ls at hl ⊢
  have hl : lv_has ls 4 [(0, .ref (q 0)), (1, .int f), (2, .int c1), (3, .int w1)] := hl
  refine lv_aload_n hx hb dX9_people_0 rfl (lv_at hl 0 rfl) ?_
  refine va_get (D := D) (ci := 9) (v := .int 0) (C := RX9) (T := TX9) (N := 19) hx hb hts iX9_people_9 hown hK hP 0 rfl rfl 14 (by decide) (hts (.fieldLink RX9 78 "FondsRoom" "turn" "I") (by decide +kernel)) (fun _ h9 => h9) rfl dX9_people_1 ?_
  refine lv_if_gt (tgt := 34) hx hb dX9_people_4 (by decide) (fun c9 => absurd c9 (by decide)) (fun _ => ?_)
  refine lv_iload_n hx hb dX9_people_7 rfl (lv_at hl 1 rfl) ?_
  refine lv_iconst (v := 1) hx hb dX9_people_8 (by decide) ?_
  refine lv_iconst (v := 4) hx hb dX9_people_9 (by decide) ?_
  refine csI (As := [.int f, .int 1, .int 4]) (rest := []) ⟨hx, hb, hml, hown, hts⟩ (mX9_isWithin l D _ f 1 4) (va_cwS 3 hts gX9_people_X9_isWithin rfl rfl rfl (by decide +kernel) ⟨Nat.le_of_ble_eq_true rfl, Nat.le_of_ble_eq_true rfl⟩) hK hP hS hA rfl hl.1 rfl (Nat.le_of_ble_eq_true rfl) dX9_people_10 ⟨Nat.le_of_ble_eq_true rfl, Nat.le_of_ble_eq_true rfl⟩ (fun r1 H locs hr1 hP hS => ?_)
  obtain rfl : r1 = sp_in f 1 4 := hr1
  refine lv_if_eq (tgt := 34) hx hb dX9_people_13 (by decide) (fun c2 => ?_) (fun c2 => ?_)
  · skip
    refine lv_iconst (v := 0) hx hb dX9_people_34 (by decide) ?_
    exact W.zret (v := 0) hx hb hr (rfl) (fun t ht hW => ⟨⟨0, (), rfl, (by simp [sp_people, c2]), by rw [ht]; exact P0, va_K.moved hW.alike hK, D0⟩, hS.F ht⟩) hS.2.2 dX9_people_35
  · skip
    refine lv_iload_n hx hb dX9_people_16 rfl (lv_at hl 2 rfl) ?_
    refine lv_iconst (v := 1) hx hb dX9_people_17 (by decide) ?_
    refine lv_iconst (v := 3) hx hb dX9_people_18 (by decide) ?_
    refine csI (As := [.int c1, .int 1, .int 3]) (rest := []) ⟨hx, hb, hml, hown, hts⟩ (mX9_isWithin l D _ c1 1 3) (va_cwS 3 hts gX9_people_X9_isWithin rfl rfl rfl (by decide +kernel) ⟨Nat.le_of_ble_eq_true rfl, Nat.le_of_ble_eq_true rfl⟩) hK hP hS hA rfl hl.1 rfl (Nat.le_of_ble_eq_true rfl) dX9_people_19 ⟨Nat.le_of_ble_eq_true rfl, Nat.le_of_ble_eq_true rfl⟩ (fun r3 H locs hr3 hP hS => ?_)
    obtain rfl : r3 = sp_in c1 1 3 := hr3
    refine lv_if_eq (tgt := 34) hx hb dX9_people_22 (by decide) (fun c4 => ?_) (fun c4 => ?_)
    · skip
      refine lv_iconst (v := 0) hx hb dX9_people_34 (by decide) ?_
      exact W.zret (v := 0) hx hb hr (rfl) (fun t ht hW => ⟨⟨0, (), rfl, (by simp [sp_people, c2, c4]), by rw [ht]; exact P0, va_K.moved hW.alike hK, D0⟩, hS.F ht⟩) hS.2.2 dX9_people_35
    · skip
      refine lv_iload_n hx hb dX9_people_25 rfl (lv_at hl 3 rfl) ?_
      refine lv_iconst (v := 1) hx hb dX9_people_26 (by decide) ?_
      refine lv_iconst (v := 5) hx hb dX9_people_27 (by decide) ?_
      refine csI (As := [.int w1, .int 1, .int 5]) (rest := []) ⟨hx, hb, hml, hown, hts⟩ (mX9_isWithin l D _ w1 1 5) (va_cwS 3 hts gX9_people_X9_isWithin rfl rfl rfl (by decide +kernel) ⟨Nat.le_of_ble_eq_true rfl, Nat.le_of_ble_eq_true rfl⟩) hK hP hS hA rfl hl.1 rfl (Nat.le_of_ble_eq_true rfl) dX9_people_28 ⟨Nat.le_of_ble_eq_true rfl, Nat.le_of_ble_eq_true rfl⟩ (fun r5 H locs hr5 hP hS => ?_)
      obtain rfl : r5 = sp_in w1 1 5 := hr5
      refine lv_if_ne (tgt := 36) hx hb dX9_people_31 (by decide) (fun c6 => ?_) (fun c6 => ?_)
      · skip
        refine lv_aload_n hx hb dX9_people_36 rfl (lv_at hl 0 rfl) ?_
        refine va_get (D := D) (ci := 9) (v := .ref (q 7)) (C := RX9) (T := TX9) (N := 19) hx hb hts iX9_people_9 hown hK hP 0 rfl rfl 3 (by decide) (hts (.fieldLink RX9 37 "FondsRoom" "fetchers" "LFondsRoom$Staff;") (by decide +kernel)) (fun _ h9 => h9) rfl dX9_people_37 ?_
        refine lv_iload_n hx hb dX9_people_40 rfl (lv_at hl 1 rfl) ?_
        refine va_put (D := D) (ci := 7) (v := .int f) (ty := .int) (C := RX7) (T := TX7) (N := 2) hx hb hts iX9_people_7 tyX7 tyX7_ok nmX7 hown hK hP hD hS 7 rfl rfl 1 (by decide) (hts (.fieldLink RX9 101 "FondsRoom$Staff" "hired" "I") (by decide +kernel)) (fun _ h9 => h9) rfl (by decide +kernel) rfl rfl (Nat.le_of_ble_eq_true rfl) dX9_people_41 (fun H locs hP hD hS => ?_)
        have hP : va_P D vwCl ([(q 0, .inr (9, [.ref (q 1), .ref (q 3), .ref (q 5), .ref (q 7), .ref (q 11), .ref (q 14), .ref (q 15), .ref (q 16), .ref (q 17), .ref (q 21), .int 0, .int 0, .int 0, .int 2, .int 0, .int (-1), .int 0, .int 0, .int 0])), (q 1, .inl (cy 2, 12, .inr (.inr (.inr (.inr (va_up (g 0) 0 (some (q 2)))))))), (q 2, .inr (1, [.int 0, .int 0, .null])), (q 3, .inl (cy 3, 40, .inr (.inr (.inr (.inr (va_up (g 1) 0 (some (q 4)))))))), (q 4, .inr (0, [.int 0, .int 0, .int 0, .int 0, .null, .null])), (q 5, .inl (cy 4, 20, .inr (.inr (.inr (.inr (va_up (g 2) 0 (some (q 6)))))))), (q 6, .inr (6, [.int 0, .ref (q 26), .int 0, .int 0, .int 0, .int 0, .int 0, .null, .null, .int 0, .int 0, .int 0, .int 0, .int 0, .int 0, .int 0, .int 0])), (q 7, .inr (7, [.ref (q 8), .int f])), (q 8, .inl (cy 5, 4, .inr (.inr (.inr (.inr (va_up (va_up (g 3) 0 (some (q 9))) 1 (some (q 10)))))))), (q 9, .inr (8, [.null, .null, .int 0])), (q 10, .inr (8, [.null, .null, .int 0])), (q 11, .inr (7, [.ref (q 12), .int 1])), (q 12, .inl (cy 5, 3, .inr (.inr (.inr (.inr (va_up (g 4) 0 (some (q 13)))))))), (q 13, .inr (8, [.null, .null, .int 0])), (q 14, .inr (3, [.ref (q 22), .int 0])), (q 15, .inr (3, [.ref (q 23), .int 0])), (q 16, .inr (3, [.ref (q 24), .int 0])), (q 17, .inr (4, [.ref (q 18), .ref (q 19), .ref (q 20), .int 0])), (q 18, .inl (cy 0, 30, .inl (fun _ => 0))), (q 19, .inl (cy 0, 30, .inl (fun _ => 0))), (q 20, .inl (cy 0, 30, .inl (fun _ => 0))), (q 21, .inr (2, [.ref (q 25), .int 0]))]) H := hP
        have hD : va_D _ ([(q 0, .inr (9, [.ref (q 1), .ref (q 3), .ref (q 5), .ref (q 7), .ref (q 11), .ref (q 14), .ref (q 15), .ref (q 16), .ref (q 17), .ref (q 21), .int 0, .int 0, .int 0, .int 2, .int 0, .int (-1), .int 0, .int 0, .int 0])), (q 1, .inl (cy 2, 12, .inr (.inr (.inr (.inr (va_up (g 0) 0 (some (q 2)))))))), (q 2, .inr (1, [.int 0, .int 0, .null])), (q 3, .inl (cy 3, 40, .inr (.inr (.inr (.inr (va_up (g 1) 0 (some (q 4)))))))), (q 4, .inr (0, [.int 0, .int 0, .int 0, .int 0, .null, .null])), (q 5, .inl (cy 4, 20, .inr (.inr (.inr (.inr (va_up (g 2) 0 (some (q 6)))))))), (q 6, .inr (6, [.int 0, .ref (q 26), .int 0, .int 0, .int 0, .int 0, .int 0, .null, .null, .int 0, .int 0, .int 0, .int 0, .int 0, .int 0, .int 0, .int 0])), (q 7, .inr (7, [.ref (q 8), .int f])), (q 8, .inl (cy 5, 4, .inr (.inr (.inr (.inr (va_up (va_up (g 3) 0 (some (q 9))) 1 (some (q 10)))))))), (q 9, .inr (8, [.null, .null, .int 0])), (q 10, .inr (8, [.null, .null, .int 0])), (q 11, .inr (7, [.ref (q 12), .int 1])), (q 12, .inl (cy 5, 3, .inr (.inr (.inr (.inr (va_up (g 4) 0 (some (q 13)))))))), (q 13, .inr (8, [.null, .null, .int 0])), (q 14, .inr (3, [.ref (q 22), .int 0])), (q 15, .inr (3, [.ref (q 23), .int 0])), (q 16, .inr (3, [.ref (q 24), .int 0])), (q 17, .inr (4, [.ref (q 18), .ref (q 19), .ref (q 20), .int 0])), (q 18, .inl (cy 0, 30, .inl (fun _ => 0))), (q 19, .inl (cy 0, 30, .inl (fun _ => 0))), (q 20, .inl (cy 0, 30, .inl (fun _ => 0))), (q 21, .inr (2, [.ref (q 25), .int 0]))]) := hD
        refine lv_aload_n hx hb dX9_people_44 rfl (lv_at hl 0 rfl) ?_
        refine va_get (D := D) (ci := 9) (v := .ref (q 11)) (C := RX9) (T := TX9) (N := 19) hx hb hts iX9_people_9 hown hK hP 0 rfl rfl 4 (by decide) (hts (.fieldLink RX9 41 "FondsRoom" "copyists" "LFondsRoom$Staff;") (by decide +kernel)) (fun _ h9 => h9) rfl dX9_people_45 ?_
        refine lv_iload_n hx hb dX9_people_48 rfl (lv_at hl 2 rfl) ?_
        refine va_put (D := D) (ci := 7) (v := .int c1) (ty := .int) (C := RX7) (T := TX7) (N := 2) hx hb hts iX9_people_7 tyX7 tyX7_ok nmX7 hown hK hP hD hS 11 rfl rfl 1 (by decide) (hts (.fieldLink RX9 101 "FondsRoom$Staff" "hired" "I") (by decide +kernel)) (fun _ h9 => h9) rfl (by decide +kernel) rfl rfl (Nat.le_of_ble_eq_true rfl) dX9_people_49 (fun H locs hP hD hS => ?_)
        have hP : va_P D vwCl ([(q 0, .inr (9, [.ref (q 1), .ref (q 3), .ref (q 5), .ref (q 7), .ref (q 11), .ref (q 14), .ref (q 15), .ref (q 16), .ref (q 17), .ref (q 21), .int 0, .int 0, .int 0, .int 2, .int 0, .int (-1), .int 0, .int 0, .int 0])), (q 1, .inl (cy 2, 12, .inr (.inr (.inr (.inr (va_up (g 0) 0 (some (q 2)))))))), (q 2, .inr (1, [.int 0, .int 0, .null])), (q 3, .inl (cy 3, 40, .inr (.inr (.inr (.inr (va_up (g 1) 0 (some (q 4)))))))), (q 4, .inr (0, [.int 0, .int 0, .int 0, .int 0, .null, .null])), (q 5, .inl (cy 4, 20, .inr (.inr (.inr (.inr (va_up (g 2) 0 (some (q 6)))))))), (q 6, .inr (6, [.int 0, .ref (q 26), .int 0, .int 0, .int 0, .int 0, .int 0, .null, .null, .int 0, .int 0, .int 0, .int 0, .int 0, .int 0, .int 0, .int 0])), (q 7, .inr (7, [.ref (q 8), .int f])), (q 8, .inl (cy 5, 4, .inr (.inr (.inr (.inr (va_up (va_up (g 3) 0 (some (q 9))) 1 (some (q 10)))))))), (q 9, .inr (8, [.null, .null, .int 0])), (q 10, .inr (8, [.null, .null, .int 0])), (q 11, .inr (7, [.ref (q 12), .int c1])), (q 12, .inl (cy 5, 3, .inr (.inr (.inr (.inr (va_up (g 4) 0 (some (q 13)))))))), (q 13, .inr (8, [.null, .null, .int 0])), (q 14, .inr (3, [.ref (q 22), .int 0])), (q 15, .inr (3, [.ref (q 23), .int 0])), (q 16, .inr (3, [.ref (q 24), .int 0])), (q 17, .inr (4, [.ref (q 18), .ref (q 19), .ref (q 20), .int 0])), (q 18, .inl (cy 0, 30, .inl (fun _ => 0))), (q 19, .inl (cy 0, 30, .inl (fun _ => 0))), (q 20, .inl (cy 0, 30, .inl (fun _ => 0))), (q 21, .inr (2, [.ref (q 25), .int 0]))]) H := hP
        have hD : va_D _ ([(q 0, .inr (9, [.ref (q 1), .ref (q 3), .ref (q 5), .ref (q 7), .ref (q 11), .ref (q 14), .ref (q 15), .ref (q 16), .ref (q 17), .ref (q 21), .int 0, .int 0, .int 0, .int 2, .int 0, .int (-1), .int 0, .int 0, .int 0])), (q 1, .inl (cy 2, 12, .inr (.inr (.inr (.inr (va_up (g 0) 0 (some (q 2)))))))), (q 2, .inr (1, [.int 0, .int 0, .null])), (q 3, .inl (cy 3, 40, .inr (.inr (.inr (.inr (va_up (g 1) 0 (some (q 4)))))))), (q 4, .inr (0, [.int 0, .int 0, .int 0, .int 0, .null, .null])), (q 5, .inl (cy 4, 20, .inr (.inr (.inr (.inr (va_up (g 2) 0 (some (q 6)))))))), (q 6, .inr (6, [.int 0, .ref (q 26), .int 0, .int 0, .int 0, .int 0, .int 0, .null, .null, .int 0, .int 0, .int 0, .int 0, .int 0, .int 0, .int 0, .int 0])), (q 7, .inr (7, [.ref (q 8), .int f])), (q 8, .inl (cy 5, 4, .inr (.inr (.inr (.inr (va_up (va_up (g 3) 0 (some (q 9))) 1 (some (q 10)))))))), (q 9, .inr (8, [.null, .null, .int 0])), (q 10, .inr (8, [.null, .null, .int 0])), (q 11, .inr (7, [.ref (q 12), .int c1])), (q 12, .inl (cy 5, 3, .inr (.inr (.inr (.inr (va_up (g 4) 0 (some (q 13)))))))), (q 13, .inr (8, [.null, .null, .int 0])), (q 14, .inr (3, [.ref (q 22), .int 0])), (q 15, .inr (3, [.ref (q 23), .int 0])), (q 16, .inr (3, [.ref (q 24), .int 0])), (q 17, .inr (4, [.ref (q 18), .ref (q 19), .ref (q 20), .int 0])), (q 18, .inl (cy 0, 30, .inl (fun _ => 0))), (q 19, .inl (cy 0, 30, .inl (fun _ => 0))), (q 20, .inl (cy 0, 30, .inl (fun _ => 0))), (q 21, .inr (2, [.ref (q 25), .int 0]))]) := hD
        refine lv_aload_n hx hb dX9_people_52 rfl (lv_at hl 0 rfl) ?_
        refine lv_iload_n hx hb dX9_people_53 rfl (lv_at hl 3 rfl) ?_
        refine va_put (D := D) (ci := 9) (v := .int w1) (ty := .int) (C := RX9) (T := TX9) (N := 19) hx hb hts iX9_people_9 tyX9 tyX9_ok nmX9 hown hK hP hD hS 0 rfl rfl 13 (by decide) (hts (.fieldLink RX9 71 "FondsRoom" "way" "I") (by decide +kernel)) (fun _ h9 => h9) rfl (by decide +kernel) rfl rfl (Nat.le_of_ble_eq_true rfl) dX9_people_54 (fun H locs hP hD hS => ?_)
        have hP : va_P D vwCl ([(q 0, .inr (9, [.ref (q 1), .ref (q 3), .ref (q 5), .ref (q 7), .ref (q 11), .ref (q 14), .ref (q 15), .ref (q 16), .ref (q 17), .ref (q 21), .int 0, .int 0, .int 0, .int w1, .int 0, .int (-1), .int 0, .int 0, .int 0])), (q 1, .inl (cy 2, 12, .inr (.inr (.inr (.inr (va_up (g 0) 0 (some (q 2)))))))), (q 2, .inr (1, [.int 0, .int 0, .null])), (q 3, .inl (cy 3, 40, .inr (.inr (.inr (.inr (va_up (g 1) 0 (some (q 4)))))))), (q 4, .inr (0, [.int 0, .int 0, .int 0, .int 0, .null, .null])), (q 5, .inl (cy 4, 20, .inr (.inr (.inr (.inr (va_up (g 2) 0 (some (q 6)))))))), (q 6, .inr (6, [.int 0, .ref (q 26), .int 0, .int 0, .int 0, .int 0, .int 0, .null, .null, .int 0, .int 0, .int 0, .int 0, .int 0, .int 0, .int 0, .int 0])), (q 7, .inr (7, [.ref (q 8), .int f])), (q 8, .inl (cy 5, 4, .inr (.inr (.inr (.inr (va_up (va_up (g 3) 0 (some (q 9))) 1 (some (q 10)))))))), (q 9, .inr (8, [.null, .null, .int 0])), (q 10, .inr (8, [.null, .null, .int 0])), (q 11, .inr (7, [.ref (q 12), .int c1])), (q 12, .inl (cy 5, 3, .inr (.inr (.inr (.inr (va_up (g 4) 0 (some (q 13)))))))), (q 13, .inr (8, [.null, .null, .int 0])), (q 14, .inr (3, [.ref (q 22), .int 0])), (q 15, .inr (3, [.ref (q 23), .int 0])), (q 16, .inr (3, [.ref (q 24), .int 0])), (q 17, .inr (4, [.ref (q 18), .ref (q 19), .ref (q 20), .int 0])), (q 18, .inl (cy 0, 30, .inl (fun _ => 0))), (q 19, .inl (cy 0, 30, .inl (fun _ => 0))), (q 20, .inl (cy 0, 30, .inl (fun _ => 0))), (q 21, .inr (2, [.ref (q 25), .int 0]))]) H := hP
        have hD : va_D _ ([(q 0, .inr (9, [.ref (q 1), .ref (q 3), .ref (q 5), .ref (q 7), .ref (q 11), .ref (q 14), .ref (q 15), .ref (q 16), .ref (q 17), .ref (q 21), .int 0, .int 0, .int 0, .int w1, .int 0, .int (-1), .int 0, .int 0, .int 0])), (q 1, .inl (cy 2, 12, .inr (.inr (.inr (.inr (va_up (g 0) 0 (some (q 2)))))))), (q 2, .inr (1, [.int 0, .int 0, .null])), (q 3, .inl (cy 3, 40, .inr (.inr (.inr (.inr (va_up (g 1) 0 (some (q 4)))))))), (q 4, .inr (0, [.int 0, .int 0, .int 0, .int 0, .null, .null])), (q 5, .inl (cy 4, 20, .inr (.inr (.inr (.inr (va_up (g 2) 0 (some (q 6)))))))), (q 6, .inr (6, [.int 0, .ref (q 26), .int 0, .int 0, .int 0, .int 0, .int 0, .null, .null, .int 0, .int 0, .int 0, .int 0, .int 0, .int 0, .int 0, .int 0])), (q 7, .inr (7, [.ref (q 8), .int f])), (q 8, .inl (cy 5, 4, .inr (.inr (.inr (.inr (va_up (va_up (g 3) 0 (some (q 9))) 1 (some (q 10)))))))), (q 9, .inr (8, [.null, .null, .int 0])), (q 10, .inr (8, [.null, .null, .int 0])), (q 11, .inr (7, [.ref (q 12), .int c1])), (q 12, .inl (cy 5, 3, .inr (.inr (.inr (.inr (va_up (g 4) 0 (some (q 13)))))))), (q 13, .inr (8, [.null, .null, .int 0])), (q 14, .inr (3, [.ref (q 22), .int 0])), (q 15, .inr (3, [.ref (q 23), .int 0])), (q 16, .inr (3, [.ref (q 24), .int 0])), (q 17, .inr (4, [.ref (q 18), .ref (q 19), .ref (q 20), .int 0])), (q 18, .inl (cy 0, 30, .inl (fun _ => 0))), (q 19, .inl (cy 0, 30, .inl (fun _ => 0))), (q 20, .inl (cy 0, 30, .inl (fun _ => 0))), (q 21, .inr (2, [.ref (q 25), .int 0]))]) := hD
        refine lv_iconst (v := 1) hx hb dX9_people_57 (by decide) ?_
        exact W.zret (v := 1) hx hb hr (rfl) (fun t ht hW => ⟨⟨1, (), rfl, (by simp [sp_people, c2, c4, c6]), by rw [ht]; exact P0, va_K.moved hW.alike hK, D0⟩, hS.F ht⟩) hS.2.2 dX9_people_58
      · skip
        refine lv_iconst (v := 0) hx hb dX9_people_34 (by decide) ?_
        exact W.zret (v := 0) hx hb hr (rfl) (fun t ht hW => ⟨⟨0, (), rfl, (by simp [sp_people, c2, c4, c6]), by rw [ht]; exact P0, va_K.moved hW.alike hK, D0⟩, hS.F ht⟩) hS.2.2 dX9_people_35

theorem iX9_reader_6 : ∀ w ∈ wsX60, w ∈ wsX9_reader := fun _ h => List.mem_cons_of_mem _ (List.mem_append_right _ h)
theorem iX9_reader_9 : ∀ w ∈ wsX90, w ∈ wsX9_reader := fun _ h => List.mem_cons_of_mem _ (List.mem_append_left _ (List.mem_append_right _ h))
set_option maxHeartbeats 4000000 in
set_option maxRecDepth 100000 in
theorem mX9_reader (l : Launch) (D : va_G) (q : Nat → Nat) (cy : Nat → ClassId) (g : Nat → Nat → Option Nat) (sz : Nat) (a r1 b1 : Int32) (hb1 : b1 = 0 ∨ b1 = 1) : Met l yX9_reader wsX9_reader ({ frames := 1, cells := 0, slots := 0, locals := 22 }) (PW D (TYS cy) (FW q cy g 0) sz [.ref (q 0), .int a, .int r1, .int b1]) (QI D (TYS cy) (FW q cy g 0) (([] : va_W)) sz (fun r => r = sp_reader a r1)) 0 0 (va_A (FW q cy g 0) sz) := by
  refine Met.ofW (cc := cX9_reader) (maxL := 6) (ret := (some .int)) (by decide) rfl ?_
  intro p e s m args below meth c s₁ B hml hv
  obtain ⟨rfl, hsz, hP, hK, hD0⟩ := hv
  have hx := B.exec
  have hb := B.bytes
  have hr := B.returns
  have hts := atoms_spec (ws := wsX9_reader) B.pre
  have hown : s.vm.findClass RX9 = some m.cls := findClass_of_methodNamed B.named
  have hlocks := B.notSynchronized
  subst hsz
  have hD := hD0.self (sz := s.heap.size)
  have hA : ∀ q9 : Nat, s.heap.size ≤ q9 → va_A (FW q cy g 0) s.heap.size q9 := fun q9 h => Or.inr h
  have hS : va_S (va_A (FW q cy g 0) s.heap.size) s.heap s.heap [] := va_S.rf
  have hl := lv_entry ([.ref (q 0), .int a, .int r1, .int b1]) (n := 6) (Nat.le_of_ble_eq_true rfl)
  rw [lg_entry_eq]
  generalize (lg_sl ([.ref (q 0), .int a, .int r1, .int b1]) ++ List.replicate (6 - (lg_sl ([.ref (q 0), .int a, .int r1, .int b1])).length) Slot.unset).toArray = ls at hl ⊢
  have hl : lv_has ls 6 [(0, .ref (q 0)), (1, .int a), (2, .int r1), (3, .int b1)] := hl
  refine lv_aload_n hx hb dX9_reader_0 rfl (lv_at hl 0 rfl) ?_
  refine va_get (D := D) (ci := 9) (v := .int 0) (C := RX9) (T := TX9) (N := 19) hx hb hts iX9_reader_9 hown hK hP 0 rfl rfl 12 (by decide) (hts (.fieldLink RX9 104 "FondsRoom" "readerCount" "I") (by decide +kernel)) (fun _ h9 => h9) rfl dX9_reader_1 ?_
  refine lv_bipush (v := 20) hx hb dX9_reader_4 (by decide) ?_
  refine lv_icmp_ge (tgt := 36) hx hb dX9_reader_6 (by decide) (fun c9 => absurd c9 (by decide)) (fun _ => ?_)
  refine lv_iload_n hx hb dX9_reader_9 rfl (lv_at hl 1 rfl) ?_
  refine lv_iconst (v := 1) hx hb dX9_reader_10 (by decide) ?_
  refine lv_sipush (v := 1000) hx hb dX9_reader_11 (by decide) ?_
  refine csI (As := [.int a, .int 1, .int 1000]) (rest := []) ⟨hx, hb, hml, hown, hts⟩ (mX9_isWithin l D _ a 1 1000) (va_cwS 3 hts gX9_reader_X9_isWithin rfl rfl rfl (by decide +kernel) ⟨Nat.le_of_ble_eq_true rfl, Nat.le_of_ble_eq_true rfl⟩) hK hP hS hA rfl hl.1 rfl (Nat.le_of_ble_eq_true rfl) dX9_reader_14 ⟨Nat.le_of_ble_eq_true rfl, Nat.le_of_ble_eq_true rfl⟩ (fun r1 H locs hr1 hP hS => ?_)
  obtain rfl : r1 = sp_in a 1 1000 := hr1
  refine lv_if_eq (tgt := 36) hx hb dX9_reader_17 (by decide) (fun c2 => ?_) (fun c2 => ?_)
  · skip
    refine lv_iconst (v := (-1)) hx hb dX9_reader_36 (by decide) ?_
    exact W.iret (v := (-1)) hx hb hr (fun t ht hW => ⟨⟨(-1), (), rfl, (by simp [sp_reader, c2]), by rw [ht]; exact P0, va_K.moved hW.alike hK, D0⟩, hS.F ht⟩) hS.2.2 dX9_reader_37
  · skip
    refine lv_iload_n hx hb dX9_reader_20 rfl (lv_at hl 2 rfl) ?_
    refine lv_iconst (v := 0) hx hb dX9_reader_21 (by decide) ?_
    refine lv_iconst (v := 3) hx hb dX9_reader_22 (by decide) ?_
    refine csI (As := [.int r1, .int 0, .int 3]) (rest := []) ⟨hx, hb, hml, hown, hts⟩ (mX9_isWithin l D _ r1 0 3) (va_cwS 3 hts gX9_reader_X9_isWithin rfl rfl rfl (by decide +kernel) ⟨Nat.le_of_ble_eq_true rfl, Nat.le_of_ble_eq_true rfl⟩) hK hP hS hA rfl hl.1 rfl (Nat.le_of_ble_eq_true rfl) dX9_reader_23 ⟨Nat.le_of_ble_eq_true rfl, Nat.le_of_ble_eq_true rfl⟩ (fun r3 H locs hr3 hP hS => ?_)
    obtain rfl : r3 = sp_in r1 0 3 := hr3
    refine lv_if_eq (tgt := 36) hx hb dX9_reader_26 (by decide) (fun c4 => ?_) (fun c4 => ?_)
    · skip
      refine lv_iconst (v := (-1)) hx hb dX9_reader_36 (by decide) ?_
      exact W.iret (v := (-1)) hx hb hr (fun t ht hW => ⟨⟨(-1), (), rfl, (by simp [sp_reader, c2, c4]), by rw [ht]; exact P0, va_K.moved hW.alike hK, D0⟩, hS.F ht⟩) hS.2.2 dX9_reader_37
    · skip
      refine lv_aload_n hx hb dX9_reader_29 rfl (lv_at hl 0 rfl) ?_
      refine cvI (wr := []) (As := []) (rest := []) ⟨hx, hb, hml, hown, hts⟩ (mX9_bellHasBeen l D q cy g 0 _  ) (cwV 0 hts gX9_reader_X9_bellHasBeen rfl rfl rfl (by decide +kernel) ⟨Nat.le_of_ble_eq_true rfl, Nat.le_of_ble_eq_true rfl⟩) hK hP hD hS hA [0, 1, 2, 3, 4, 5, 6, 7, 8, 9, 10, 11, 12, 13, 14, 15, 16, 17, 18, 19, 20, 21] [] rfl rfl (by decide) (by decide) (by decide) 0 9 rfl rfl rfl hl.1 rfl (Nat.le_of_ble_eq_true rfl) dX9_reader_30 ⟨Nat.le_of_ble_eq_true rfl, Nat.le_of_ble_eq_true rfl⟩ (fun r5 H locs hr5 hP hD hS => ?_)
      have hP : va_P D vwCl (FW q cy g 0) H := hP
      have hD : va_D _ (FW q cy g 0) := hD
      obtain rfl : r5 = 0 := hr5
      refine lv_if_eq (tgt := 38) hx hb dX9_reader_33 (by decide) (fun _ => ?_) (fun c9 => absurd (by decide) c9)
      refine lv_aload_n hx hb dX9_reader_38 rfl (lv_at hl 0 rfl) ?_
      refine va_get (D := D) (ci := 9) (v := .int 0) (C := RX9) (T := TX9) (N := 19) hx hb hts iX9_reader_9 hown hK hP 0 rfl rfl 12 (by decide) (hts (.fieldLink RX9 104 "FondsRoom" "readerCount" "I") (by decide +kernel)) (fun _ h9 => h9) rfl dX9_reader_39 ?_
      refine lv_istore (lv' := [(4, .int 0), (0, .ref (q 0)), (1, .int a), (2, .int r1), (3, .int b1)]) hx hb dX9_reader_42 hl (by decide) rfl (fun ls hl => ?_)
      refine lv_aload_n hx hb dX9_reader_44 rfl (lv_at hl 1 rfl) ?_
      refine va_get (D := D) (ci := 9) (v := .ref (q 5)) (C := RX9) (T := TX9) (N := 19) hx hb hts iX9_reader_9 hown hK hP 0 rfl rfl 2 (by decide) (hts (.fieldLink RX9 27 "FondsRoom" "readers" "[LFondsRoom$Reader;") (by decide +kernel)) (fun _ h9 => h9) rfl dX9_reader_45 ?_
      refine lv_iload hx hb dX9_reader_48 (lv_at hl 0 rfl) ?_
      refine va_aldq hx hb hK hP 5 4 rfl rfl (vp_in_iff.mpr (by decide)) dX9_reader_50 ?_
      refine W.eq (g2 := F0 m 51 ls [.ref (q 6)]) rfl ?_
      refine lv_astore (lv' := [(5, .ref (q 6)), (4, .int 0), (0, .ref (q 0)), (1, .int a), (2, .int r1), (3, .int b1)]) hx hb dX9_reader_51 hl (by decide) rfl (fun ls hl => ?_)
      refine lv_aload hx hb dX9_reader_53 (lv_at hl 0 rfl) ?_
      refine lv_iload_n hx hb dX9_reader_55 rfl (lv_at hl 3 rfl) ?_
      refine va_put (D := D) (ci := 6) (v := .int a) (ty := .int) (C := RX6) (T := TX6) (N := 17) hx hb hts iX9_reader_6 tyX6 tyX6_ok nmX6 hown hK hP hD hS 6 rfl rfl 2 (by decide) (hts (.fieldLink RX9 111 "FondsRoom$Reader" "arrival" "I") (by decide +kernel)) (fun _ h9 => h9) rfl (by decide +kernel) rfl rfl (Nat.le_of_ble_eq_true rfl) dX9_reader_56 (fun H locs hP hD hS => ?_)
      have hP : va_P D vwCl ([(q 0, .inr (9, [.ref (q 1), .ref (q 3), .ref (q 5), .ref (q 7), .ref (q 11), .ref (q 14), .ref (q 15), .ref (q 16), .ref (q 17), .ref (q 21), .int 0, .int 0, .int 0, .int 2, .int 0, .int (-1), .int 0, .int 0, .int 0])), (q 1, .inl (cy 2, 12, .inr (.inr (.inr (.inr (va_up (g 0) 0 (some (q 2)))))))), (q 2, .inr (1, [.int 0, .int 0, .null])), (q 3, .inl (cy 3, 40, .inr (.inr (.inr (.inr (va_up (g 1) 0 (some (q 4)))))))), (q 4, .inr (0, [.int 0, .int 0, .int 0, .int 0, .null, .null])), (q 5, .inl (cy 4, 20, .inr (.inr (.inr (.inr (va_up (g 2) 0 (some (q 6)))))))), (q 6, .inr (6, [.int 0, .ref (q 26), .int a, .int 0, .int 0, .int 0, .int 0, .null, .null, .int 0, .int 0, .int 0, .int 0, .int 0, .int 0, .int 0, .int 0])), (q 7, .inr (7, [.ref (q 8), .int 2])), (q 8, .inl (cy 5, 4, .inr (.inr (.inr (.inr (va_up (va_up (g 3) 0 (some (q 9))) 1 (some (q 10)))))))), (q 9, .inr (8, [.null, .null, .int 0])), (q 10, .inr (8, [.null, .null, .int 0])), (q 11, .inr (7, [.ref (q 12), .int 1])), (q 12, .inl (cy 5, 3, .inr (.inr (.inr (.inr (va_up (g 4) 0 (some (q 13)))))))), (q 13, .inr (8, [.null, .null, .int 0])), (q 14, .inr (3, [.ref (q 22), .int 0])), (q 15, .inr (3, [.ref (q 23), .int 0])), (q 16, .inr (3, [.ref (q 24), .int 0])), (q 17, .inr (4, [.ref (q 18), .ref (q 19), .ref (q 20), .int 0])), (q 18, .inl (cy 0, 30, .inl (fun _ => 0))), (q 19, .inl (cy 0, 30, .inl (fun _ => 0))), (q 20, .inl (cy 0, 30, .inl (fun _ => 0))), (q 21, .inr (2, [.ref (q 25), .int 0]))]) H := hP
      have hD : va_D _ ([(q 0, .inr (9, [.ref (q 1), .ref (q 3), .ref (q 5), .ref (q 7), .ref (q 11), .ref (q 14), .ref (q 15), .ref (q 16), .ref (q 17), .ref (q 21), .int 0, .int 0, .int 0, .int 2, .int 0, .int (-1), .int 0, .int 0, .int 0])), (q 1, .inl (cy 2, 12, .inr (.inr (.inr (.inr (va_up (g 0) 0 (some (q 2)))))))), (q 2, .inr (1, [.int 0, .int 0, .null])), (q 3, .inl (cy 3, 40, .inr (.inr (.inr (.inr (va_up (g 1) 0 (some (q 4)))))))), (q 4, .inr (0, [.int 0, .int 0, .int 0, .int 0, .null, .null])), (q 5, .inl (cy 4, 20, .inr (.inr (.inr (.inr (va_up (g 2) 0 (some (q 6)))))))), (q 6, .inr (6, [.int 0, .ref (q 26), .int a, .int 0, .int 0, .int 0, .int 0, .null, .null, .int 0, .int 0, .int 0, .int 0, .int 0, .int 0, .int 0, .int 0])), (q 7, .inr (7, [.ref (q 8), .int 2])), (q 8, .inl (cy 5, 4, .inr (.inr (.inr (.inr (va_up (va_up (g 3) 0 (some (q 9))) 1 (some (q 10)))))))), (q 9, .inr (8, [.null, .null, .int 0])), (q 10, .inr (8, [.null, .null, .int 0])), (q 11, .inr (7, [.ref (q 12), .int 1])), (q 12, .inl (cy 5, 3, .inr (.inr (.inr (.inr (va_up (g 4) 0 (some (q 13)))))))), (q 13, .inr (8, [.null, .null, .int 0])), (q 14, .inr (3, [.ref (q 22), .int 0])), (q 15, .inr (3, [.ref (q 23), .int 0])), (q 16, .inr (3, [.ref (q 24), .int 0])), (q 17, .inr (4, [.ref (q 18), .ref (q 19), .ref (q 20), .int 0])), (q 18, .inl (cy 0, 30, .inl (fun _ => 0))), (q 19, .inl (cy 0, 30, .inl (fun _ => 0))), (q 20, .inl (cy 0, 30, .inl (fun _ => 0))), (q 21, .inr (2, [.ref (q 25), .int 0]))]) := hD
      refine lv_aload hx hb dX9_reader_59 (lv_at hl 0 rfl) ?_
      refine lv_iload_n hx hb dX9_reader_61 rfl (lv_at hl 4 rfl) ?_
      refine va_put (D := D) (ci := 6) (v := .int r1) (ty := .int) (C := RX6) (T := TX6) (N := 17) hx hb hts iX9_reader_6 tyX6 tyX6_ok nmX6 hown hK hP hD hS 6 rfl rfl 3 (by decide) (hts (.fieldLink RX9 114 "FondsRoom$Reader" "rank" "I") (by decide +kernel)) (fun _ h9 => h9) rfl (by decide +kernel) rfl rfl (Nat.le_of_ble_eq_true rfl) dX9_reader_62 (fun H locs hP hD hS => ?_)
      have hP : va_P D vwCl ([(q 0, .inr (9, [.ref (q 1), .ref (q 3), .ref (q 5), .ref (q 7), .ref (q 11), .ref (q 14), .ref (q 15), .ref (q 16), .ref (q 17), .ref (q 21), .int 0, .int 0, .int 0, .int 2, .int 0, .int (-1), .int 0, .int 0, .int 0])), (q 1, .inl (cy 2, 12, .inr (.inr (.inr (.inr (va_up (g 0) 0 (some (q 2)))))))), (q 2, .inr (1, [.int 0, .int 0, .null])), (q 3, .inl (cy 3, 40, .inr (.inr (.inr (.inr (va_up (g 1) 0 (some (q 4)))))))), (q 4, .inr (0, [.int 0, .int 0, .int 0, .int 0, .null, .null])), (q 5, .inl (cy 4, 20, .inr (.inr (.inr (.inr (va_up (g 2) 0 (some (q 6)))))))), (q 6, .inr (6, [.int 0, .ref (q 26), .int a, .int r1, .int 0, .int 0, .int 0, .null, .null, .int 0, .int 0, .int 0, .int 0, .int 0, .int 0, .int 0, .int 0])), (q 7, .inr (7, [.ref (q 8), .int 2])), (q 8, .inl (cy 5, 4, .inr (.inr (.inr (.inr (va_up (va_up (g 3) 0 (some (q 9))) 1 (some (q 10)))))))), (q 9, .inr (8, [.null, .null, .int 0])), (q 10, .inr (8, [.null, .null, .int 0])), (q 11, .inr (7, [.ref (q 12), .int 1])), (q 12, .inl (cy 5, 3, .inr (.inr (.inr (.inr (va_up (g 4) 0 (some (q 13)))))))), (q 13, .inr (8, [.null, .null, .int 0])), (q 14, .inr (3, [.ref (q 22), .int 0])), (q 15, .inr (3, [.ref (q 23), .int 0])), (q 16, .inr (3, [.ref (q 24), .int 0])), (q 17, .inr (4, [.ref (q 18), .ref (q 19), .ref (q 20), .int 0])), (q 18, .inl (cy 0, 30, .inl (fun _ => 0))), (q 19, .inl (cy 0, 30, .inl (fun _ => 0))), (q 20, .inl (cy 0, 30, .inl (fun _ => 0))), (q 21, .inr (2, [.ref (q 25), .int 0]))]) H := hP
      have hD : va_D _ ([(q 0, .inr (9, [.ref (q 1), .ref (q 3), .ref (q 5), .ref (q 7), .ref (q 11), .ref (q 14), .ref (q 15), .ref (q 16), .ref (q 17), .ref (q 21), .int 0, .int 0, .int 0, .int 2, .int 0, .int (-1), .int 0, .int 0, .int 0])), (q 1, .inl (cy 2, 12, .inr (.inr (.inr (.inr (va_up (g 0) 0 (some (q 2)))))))), (q 2, .inr (1, [.int 0, .int 0, .null])), (q 3, .inl (cy 3, 40, .inr (.inr (.inr (.inr (va_up (g 1) 0 (some (q 4)))))))), (q 4, .inr (0, [.int 0, .int 0, .int 0, .int 0, .null, .null])), (q 5, .inl (cy 4, 20, .inr (.inr (.inr (.inr (va_up (g 2) 0 (some (q 6)))))))), (q 6, .inr (6, [.int 0, .ref (q 26), .int a, .int r1, .int 0, .int 0, .int 0, .null, .null, .int 0, .int 0, .int 0, .int 0, .int 0, .int 0, .int 0, .int 0])), (q 7, .inr (7, [.ref (q 8), .int 2])), (q 8, .inl (cy 5, 4, .inr (.inr (.inr (.inr (va_up (va_up (g 3) 0 (some (q 9))) 1 (some (q 10)))))))), (q 9, .inr (8, [.null, .null, .int 0])), (q 10, .inr (8, [.null, .null, .int 0])), (q 11, .inr (7, [.ref (q 12), .int 1])), (q 12, .inl (cy 5, 3, .inr (.inr (.inr (.inr (va_up (g 4) 0 (some (q 13)))))))), (q 13, .inr (8, [.null, .null, .int 0])), (q 14, .inr (3, [.ref (q 22), .int 0])), (q 15, .inr (3, [.ref (q 23), .int 0])), (q 16, .inr (3, [.ref (q 24), .int 0])), (q 17, .inr (4, [.ref (q 18), .ref (q 19), .ref (q 20), .int 0])), (q 18, .inl (cy 0, 30, .inl (fun _ => 0))), (q 19, .inl (cy 0, 30, .inl (fun _ => 0))), (q 20, .inl (cy 0, 30, .inl (fun _ => 0))), (q 21, .inr (2, [.ref (q 25), .int 0]))]) := hD
      refine lv_aload hx hb dX9_reader_65 (lv_at hl 0 rfl) ?_
      refine lv_iload_n hx hb dX9_reader_67 rfl (lv_at hl 5 rfl) ?_
      refine va_put (D := D) (ci := 6) (v := .int b1) (ty := .boolean) (C := RX6) (T := TX6) (N := 17) hx hb hts iX9_reader_6 tyX6 tyX6_ok nmX6 hown hK hP hD hS 6 rfl rfl 4 (by decide) (hts (.fieldLink RX9 117 "FondsRoom$Reader" "needsWatched" "Z") (by decide +kernel)) (fun _ h9 => h9) rfl (by decide +kernel) (nz01 hb1).1 (nz01 hb1).2 (Nat.le_of_ble_eq_true rfl) dX9_reader_68 (fun H locs hP hD hS => ?_)
      have hP : va_P D vwCl ([(q 0, .inr (9, [.ref (q 1), .ref (q 3), .ref (q 5), .ref (q 7), .ref (q 11), .ref (q 14), .ref (q 15), .ref (q 16), .ref (q 17), .ref (q 21), .int 0, .int 0, .int 0, .int 2, .int 0, .int (-1), .int 0, .int 0, .int 0])), (q 1, .inl (cy 2, 12, .inr (.inr (.inr (.inr (va_up (g 0) 0 (some (q 2)))))))), (q 2, .inr (1, [.int 0, .int 0, .null])), (q 3, .inl (cy 3, 40, .inr (.inr (.inr (.inr (va_up (g 1) 0 (some (q 4)))))))), (q 4, .inr (0, [.int 0, .int 0, .int 0, .int 0, .null, .null])), (q 5, .inl (cy 4, 20, .inr (.inr (.inr (.inr (va_up (g 2) 0 (some (q 6)))))))), (q 6, .inr (6, [.int 0, .ref (q 26), .int a, .int r1, .int b1, .int 0, .int 0, .null, .null, .int 0, .int 0, .int 0, .int 0, .int 0, .int 0, .int 0, .int 0])), (q 7, .inr (7, [.ref (q 8), .int 2])), (q 8, .inl (cy 5, 4, .inr (.inr (.inr (.inr (va_up (va_up (g 3) 0 (some (q 9))) 1 (some (q 10)))))))), (q 9, .inr (8, [.null, .null, .int 0])), (q 10, .inr (8, [.null, .null, .int 0])), (q 11, .inr (7, [.ref (q 12), .int 1])), (q 12, .inl (cy 5, 3, .inr (.inr (.inr (.inr (va_up (g 4) 0 (some (q 13)))))))), (q 13, .inr (8, [.null, .null, .int 0])), (q 14, .inr (3, [.ref (q 22), .int 0])), (q 15, .inr (3, [.ref (q 23), .int 0])), (q 16, .inr (3, [.ref (q 24), .int 0])), (q 17, .inr (4, [.ref (q 18), .ref (q 19), .ref (q 20), .int 0])), (q 18, .inl (cy 0, 30, .inl (fun _ => 0))), (q 19, .inl (cy 0, 30, .inl (fun _ => 0))), (q 20, .inl (cy 0, 30, .inl (fun _ => 0))), (q 21, .inr (2, [.ref (q 25), .int 0]))]) H := hP
      have hD : va_D _ ([(q 0, .inr (9, [.ref (q 1), .ref (q 3), .ref (q 5), .ref (q 7), .ref (q 11), .ref (q 14), .ref (q 15), .ref (q 16), .ref (q 17), .ref (q 21), .int 0, .int 0, .int 0, .int 2, .int 0, .int (-1), .int 0, .int 0, .int 0])), (q 1, .inl (cy 2, 12, .inr (.inr (.inr (.inr (va_up (g 0) 0 (some (q 2)))))))), (q 2, .inr (1, [.int 0, .int 0, .null])), (q 3, .inl (cy 3, 40, .inr (.inr (.inr (.inr (va_up (g 1) 0 (some (q 4)))))))), (q 4, .inr (0, [.int 0, .int 0, .int 0, .int 0, .null, .null])), (q 5, .inl (cy 4, 20, .inr (.inr (.inr (.inr (va_up (g 2) 0 (some (q 6)))))))), (q 6, .inr (6, [.int 0, .ref (q 26), .int a, .int r1, .int b1, .int 0, .int 0, .null, .null, .int 0, .int 0, .int 0, .int 0, .int 0, .int 0, .int 0, .int 0])), (q 7, .inr (7, [.ref (q 8), .int 2])), (q 8, .inl (cy 5, 4, .inr (.inr (.inr (.inr (va_up (va_up (g 3) 0 (some (q 9))) 1 (some (q 10)))))))), (q 9, .inr (8, [.null, .null, .int 0])), (q 10, .inr (8, [.null, .null, .int 0])), (q 11, .inr (7, [.ref (q 12), .int 1])), (q 12, .inl (cy 5, 3, .inr (.inr (.inr (.inr (va_up (g 4) 0 (some (q 13)))))))), (q 13, .inr (8, [.null, .null, .int 0])), (q 14, .inr (3, [.ref (q 22), .int 0])), (q 15, .inr (3, [.ref (q 23), .int 0])), (q 16, .inr (3, [.ref (q 24), .int 0])), (q 17, .inr (4, [.ref (q 18), .ref (q 19), .ref (q 20), .int 0])), (q 18, .inl (cy 0, 30, .inl (fun _ => 0))), (q 19, .inl (cy 0, 30, .inl (fun _ => 0))), (q 20, .inl (cy 0, 30, .inl (fun _ => 0))), (q 21, .inr (2, [.ref (q 25), .int 0]))]) := hD
      refine lv_aload_n hx hb dX9_reader_71 rfl (lv_at hl 2 rfl) ?_
      refine lv_iload hx hb dX9_reader_72 (lv_at hl 1 rfl) ?_
      refine lv_iconst (v := 1) hx hb dX9_reader_74 (by decide) ?_
      refine lv_iadd hx hb dX9_reader_75 ?_
      refine lv_topi (fun y6 ey6 => ?_)
      obtain rfl : y6 = 1 := ey6.trans (by decide)
      refine va_put (D := D) (ci := 9) (v := .int 1) (ty := .int) (C := RX9) (T := TX9) (N := 19) hx hb hts iX9_reader_9 tyX9 tyX9_ok nmX9 hown hK hP hD hS 0 rfl rfl 12 (by decide) (hts (.fieldLink RX9 104 "FondsRoom" "readerCount" "I") (by decide +kernel)) (fun _ h9 => h9) rfl (by decide +kernel) rfl rfl (Nat.le_of_ble_eq_true rfl) dX9_reader_76 (fun H locs hP hD hS => ?_)
      have hP : va_P D vwCl ([(q 0, .inr (9, [.ref (q 1), .ref (q 3), .ref (q 5), .ref (q 7), .ref (q 11), .ref (q 14), .ref (q 15), .ref (q 16), .ref (q 17), .ref (q 21), .int 0, .int 0, .int 1, .int 2, .int 0, .int (-1), .int 0, .int 0, .int 0])), (q 1, .inl (cy 2, 12, .inr (.inr (.inr (.inr (va_up (g 0) 0 (some (q 2)))))))), (q 2, .inr (1, [.int 0, .int 0, .null])), (q 3, .inl (cy 3, 40, .inr (.inr (.inr (.inr (va_up (g 1) 0 (some (q 4)))))))), (q 4, .inr (0, [.int 0, .int 0, .int 0, .int 0, .null, .null])), (q 5, .inl (cy 4, 20, .inr (.inr (.inr (.inr (va_up (g 2) 0 (some (q 6)))))))), (q 6, .inr (6, [.int 0, .ref (q 26), .int a, .int r1, .int b1, .int 0, .int 0, .null, .null, .int 0, .int 0, .int 0, .int 0, .int 0, .int 0, .int 0, .int 0])), (q 7, .inr (7, [.ref (q 8), .int 2])), (q 8, .inl (cy 5, 4, .inr (.inr (.inr (.inr (va_up (va_up (g 3) 0 (some (q 9))) 1 (some (q 10)))))))), (q 9, .inr (8, [.null, .null, .int 0])), (q 10, .inr (8, [.null, .null, .int 0])), (q 11, .inr (7, [.ref (q 12), .int 1])), (q 12, .inl (cy 5, 3, .inr (.inr (.inr (.inr (va_up (g 4) 0 (some (q 13)))))))), (q 13, .inr (8, [.null, .null, .int 0])), (q 14, .inr (3, [.ref (q 22), .int 0])), (q 15, .inr (3, [.ref (q 23), .int 0])), (q 16, .inr (3, [.ref (q 24), .int 0])), (q 17, .inr (4, [.ref (q 18), .ref (q 19), .ref (q 20), .int 0])), (q 18, .inl (cy 0, 30, .inl (fun _ => 0))), (q 19, .inl (cy 0, 30, .inl (fun _ => 0))), (q 20, .inl (cy 0, 30, .inl (fun _ => 0))), (q 21, .inr (2, [.ref (q 25), .int 0]))]) H := hP
      have hD : va_D _ ([(q 0, .inr (9, [.ref (q 1), .ref (q 3), .ref (q 5), .ref (q 7), .ref (q 11), .ref (q 14), .ref (q 15), .ref (q 16), .ref (q 17), .ref (q 21), .int 0, .int 0, .int 1, .int 2, .int 0, .int (-1), .int 0, .int 0, .int 0])), (q 1, .inl (cy 2, 12, .inr (.inr (.inr (.inr (va_up (g 0) 0 (some (q 2)))))))), (q 2, .inr (1, [.int 0, .int 0, .null])), (q 3, .inl (cy 3, 40, .inr (.inr (.inr (.inr (va_up (g 1) 0 (some (q 4)))))))), (q 4, .inr (0, [.int 0, .int 0, .int 0, .int 0, .null, .null])), (q 5, .inl (cy 4, 20, .inr (.inr (.inr (.inr (va_up (g 2) 0 (some (q 6)))))))), (q 6, .inr (6, [.int 0, .ref (q 26), .int a, .int r1, .int b1, .int 0, .int 0, .null, .null, .int 0, .int 0, .int 0, .int 0, .int 0, .int 0, .int 0, .int 0])), (q 7, .inr (7, [.ref (q 8), .int 2])), (q 8, .inl (cy 5, 4, .inr (.inr (.inr (.inr (va_up (va_up (g 3) 0 (some (q 9))) 1 (some (q 10)))))))), (q 9, .inr (8, [.null, .null, .int 0])), (q 10, .inr (8, [.null, .null, .int 0])), (q 11, .inr (7, [.ref (q 12), .int 1])), (q 12, .inl (cy 5, 3, .inr (.inr (.inr (.inr (va_up (g 4) 0 (some (q 13)))))))), (q 13, .inr (8, [.null, .null, .int 0])), (q 14, .inr (3, [.ref (q 22), .int 0])), (q 15, .inr (3, [.ref (q 23), .int 0])), (q 16, .inr (3, [.ref (q 24), .int 0])), (q 17, .inr (4, [.ref (q 18), .ref (q 19), .ref (q 20), .int 0])), (q 18, .inl (cy 0, 30, .inl (fun _ => 0))), (q 19, .inl (cy 0, 30, .inl (fun _ => 0))), (q 20, .inl (cy 0, 30, .inl (fun _ => 0))), (q 21, .inr (2, [.ref (q 25), .int 0]))]) := hD
      refine lv_iload hx hb dX9_reader_79 (lv_at hl 1 rfl) ?_
      exact W.iret (v := 0) hx hb hr (fun t ht hW => ⟨⟨0, (), rfl, (by simp [sp_reader, c2, c4]), by rw [ht]; exact P0, va_K.moved hW.alike hK, D0⟩, hS.F ht⟩) hS.2.2 dX9_reader_81

set_option maxHeartbeats 4000000 in
set_option maxRecDepth 100000 in
theorem mX9_addStep (l : Launch) (D : va_G) (q : Nat → Nat) (cy : Nat → ClassId) (g : Nat → Nat → Option Nat) (sz : Nat) (r1 k bx a u : Int32) : Met l yX9_addStep wsX9_addStep ({ frames := 1, cells := 0, slots := 0, locals := 21 }) (PW D (TYS cy) (FW q cy g 0) sz [.ref (q 0), .int r1, .int k, .int bx, .int a, .int u]) (QI D (TYS cy) (FW q cy g 0) (FW q cy g 0) sz (fun r => r = 0)) 0 0 (va_A (FW q cy g 0) sz) := by
  refine Met.ofW (cc := cX9_addStep) (maxL := 6) (ret := (some .boolean)) (by decide) rfl ?_
  intro p e s m args below meth c s₁ B hml hv
  obtain ⟨rfl, hsz, hP, hK, hD0⟩ := hv
  have hx := B.exec
  have hb := B.bytes
  have hr := B.returns
  have hts := atoms_spec (ws := wsX9_addStep) B.pre
  have hown : s.vm.findClass RX9 = some m.cls := findClass_of_methodNamed B.named
  have hlocks := B.notSynchronized
  subst hsz
  have hD := hD0.self (sz := s.heap.size)
  have hA : ∀ q9 : Nat, s.heap.size ≤ q9 → va_A (FW q cy g 0) s.heap.size q9 := fun q9 h => Or.inr h
  have hS : va_S (va_A (FW q cy g 0) s.heap.size) s.heap s.heap [] := va_S.rf
  have hl := lv_entry ([.ref (q 0), .int r1, .int k, .int bx, .int a, .int u]) (n := 6) (Nat.le_of_ble_eq_true rfl)
  rw [lg_entry_eq]
  generalize (lg_sl ([.ref (q 0), .int r1, .int k, .int bx, .int a, .int u]) ++ List.replicate (6 - (lg_sl ([.ref (q 0), .int r1, .int k, .int bx, .int a, .int u])).length) Slot.unset).toArray = ls at hl ⊢
  have hl : lv_has ls 6 [(0, .ref (q 0)), (1, .int r1), (2, .int k), (3, .int bx), (4, .int a), (5, .int u)] := hl
  refine lv_aload_n hx hb dX9_addStep_0 rfl (lv_at hl 0 rfl) ?_
  refine lv_iload_n hx hb dX9_addStep_1 rfl (lv_at hl 1 rfl) ?_
  refine cvI (wr := []) (As := [.int r1]) (rest := []) ⟨hx, hb, hml, hown, hts⟩ (mX9_isReader l D q cy g 0 _ r1 ) (cwV 1 hts gX9_addStep_X9_isReader rfl rfl rfl (by decide +kernel) ⟨Nat.le_of_ble_eq_true rfl, Nat.le_of_ble_eq_true rfl⟩) hK hP hD hS hA [0, 1, 2, 3, 4, 5, 6, 7, 8, 9, 10, 11, 12, 13, 14, 15, 16, 17, 18, 19, 20, 21] [] rfl rfl (by decide) (by decide) (by decide) 0 9 rfl rfl rfl hl.1 rfl (Nat.le_of_ble_eq_true rfl) dX9_addStep_2 ⟨Nat.le_of_ble_eq_true rfl, Nat.le_of_ble_eq_true rfl⟩ (fun r1 H locs hr1 hP hD hS => ?_)
  have hP : va_P D vwCl (FW q cy g 0) H := hP
  have hD : va_D _ (FW q cy g 0) := hD
  obtain rfl : r1 = 0 := hr1
  refine lv_if_eq (tgt := 20) hx hb dX9_addStep_5 (by decide) (fun _ => ?_) (fun c9 => absurd (by decide) c9)
  refine lv_iconst (v := 0) hx hb dX9_addStep_20 (by decide) ?_
  exact W.zret (v := 0) hx hb hr (rfl) (fun t ht hW => ⟨⟨0, (), rfl, (by first | rfl | trivial | decide), by rw [ht]; exact hP, va_K.moved hW.alike hK, hD⟩, hS.F ht⟩) hS.2.2 dX9_addStep_21

set_option maxHeartbeats 4000000 in
set_option maxRecDepth 100000 in
theorem mX9_ask (l : Launch) (D : va_G) (q : Nat → Nat) (cy : Nat → ClassId) (g : Nat → Nat → Option Nat) (sz : Nat) (r1 bx : Int32) : Met l yX9_ask wsX9_ask ({ frames := 1, cells := 0, slots := 0, locals := 21 }) (PW D (TYS cy) (FW q cy g 0) sz [.ref (q 0), .int r1, .int bx]) (QI D (TYS cy) (FW q cy g 0) (FW q cy g 0) sz (fun r => r = 0)) 0 0 (va_A (FW q cy g 0) sz) := by
  refine Met.ofW (cc := cX9_ask) (maxL := 3) (ret := (some .boolean)) (by decide) rfl ?_
  intro p e s m args below meth c s₁ B hml hv
  obtain ⟨rfl, hsz, hP, hK, hD0⟩ := hv
  have hx := B.exec
  have hb := B.bytes
  have hr := B.returns
  have hts := atoms_spec (ws := wsX9_ask) B.pre
  have hown : s.vm.findClass RX9 = some m.cls := findClass_of_methodNamed B.named
  have hlocks := B.notSynchronized
  subst hsz
  have hD := hD0.self (sz := s.heap.size)
  have hA : ∀ q9 : Nat, s.heap.size ≤ q9 → va_A (FW q cy g 0) s.heap.size q9 := fun q9 h => Or.inr h
  have hS : va_S (va_A (FW q cy g 0) s.heap.size) s.heap s.heap [] := va_S.rf
  have hl := lv_entry ([.ref (q 0), .int r1, .int bx]) (n := 3) (Nat.le_of_ble_eq_true rfl)
  rw [lg_entry_eq]
  generalize (lg_sl ([.ref (q 0), .int r1, .int bx]) ++ List.replicate (3 - (lg_sl ([.ref (q 0), .int r1, .int bx])).length) Slot.unset).toArray = ls at hl ⊢
  have hl : lv_has ls 3 [(0, .ref (q 0)), (1, .int r1), (2, .int bx)] := hl
  refine lv_aload_n hx hb dX9_ask_0 rfl (lv_at hl 0 rfl) ?_
  refine lv_iload_n hx hb dX9_ask_1 rfl (lv_at hl 2 rfl) ?_
  refine cvI (wr := []) (As := [.int bx]) (rest := []) ⟨hx, hb, hml, hown, hts⟩ (mX9_isBox l D q cy g 0 _ bx ) (cwV 1 hts gX9_ask_X9_isBox rfl rfl rfl (by decide +kernel) ⟨Nat.le_of_ble_eq_true rfl, Nat.le_of_ble_eq_true rfl⟩) hK hP hD hS hA [0, 1, 2, 3, 4, 5, 6, 7, 8, 9, 10, 11, 12, 13, 14, 15, 16, 17, 18, 19, 20, 21] [] rfl rfl (by decide) (by decide) (by decide) 0 9 rfl rfl rfl hl.1 rfl (Nat.le_of_ble_eq_true rfl) dX9_ask_2 ⟨Nat.le_of_ble_eq_true rfl, Nat.le_of_ble_eq_true rfl⟩ (fun r1 H locs hr1 hP hD hS => ?_)
  have hP : va_P D vwCl (FW q cy g 0) H := hP
  have hD : va_D _ (FW q cy g 0) := hD
  obtain rfl : r1 = 0 := hr1
  refine lv_if_eq (tgt := 24) hx hb dX9_ask_5 (by decide) (fun _ => ?_) (fun c9 => absurd (by decide) c9)
  refine lv_iconst (v := 0) hx hb dX9_ask_24 (by decide) ?_
  exact W.zret (v := 0) hx hb hr (rfl) (fun t ht hW => ⟨⟨0, (), rfl, (by first | rfl | trivial | decide), by rw [ht]; exact hP, va_K.moved hW.alike hK, hD⟩, hS.F ht⟩) hS.2.2 dX9_ask_25

set_option maxHeartbeats 4000000 in
set_option maxRecDepth 100000 in
theorem mX9_read (l : Launch) (D : va_G) (q : Nat → Nat) (cy : Nat → ClassId) (g : Nat → Nat → Option Nat) (sz : Nat) (r1 n : Int32) : Met l yX9_read wsX9_read ({ frames := 2, cells := 0, slots := 0, locals := 46 }) (PW D (TYS cy) (FW q cy g 0) sz [.ref (q 0), .int r1, .int n]) (QI D (TYS cy) (FW q cy g 0) (FW q cy g 0) sz (fun r => r = 0)) 0 0 (va_A (FW q cy g 0) sz) := by
  refine Met.ofW (cc := cX9_read) (maxL := 3) (ret := (some .boolean)) (by decide) rfl ?_
  intro p e s m args below meth c s₁ B hml hv
  obtain ⟨rfl, hsz, hP, hK, hD0⟩ := hv
  have hx := B.exec
  have hb := B.bytes
  have hr := B.returns
  have hts := atoms_spec (ws := wsX9_read) B.pre
  have hown : s.vm.findClass RX9 = some m.cls := findClass_of_methodNamed B.named
  have hlocks := B.notSynchronized
  subst hsz
  have hD := hD0.self (sz := s.heap.size)
  have hA : ∀ q9 : Nat, s.heap.size ≤ q9 → va_A (FW q cy g 0) s.heap.size q9 := fun q9 h => Or.inr h
  have hS : va_S (va_A (FW q cy g 0) s.heap.size) s.heap s.heap [] := va_S.rf
  have hl := lv_entry ([.ref (q 0), .int r1, .int n]) (n := 3) (Nat.le_of_ble_eq_true rfl)
  rw [lg_entry_eq]
  generalize (lg_sl ([.ref (q 0), .int r1, .int n]) ++ List.replicate (3 - (lg_sl ([.ref (q 0), .int r1, .int n])).length) Slot.unset).toArray = ls at hl ⊢
  have hl : lv_has ls 3 [(0, .ref (q 0)), (1, .int r1), (2, .int n)] := hl
  refine lv_iload_n hx hb dX9_read_0 rfl (lv_at hl 2 rfl) ?_
  refine lv_iconst (v := 1) hx hb dX9_read_1 (by decide) ?_
  refine lv_bipush (v := 50) hx hb dX9_read_2 (by decide) ?_
  refine csI (As := [.int n, .int 1, .int 50]) (rest := []) ⟨hx, hb, hml, hown, hts⟩ (mX9_isWithin l D _ n 1 50) (va_cwS 3 hts gX9_read_X9_isWithin rfl rfl rfl (by decide +kernel) ⟨Nat.le_of_ble_eq_true rfl, Nat.le_of_ble_eq_true rfl⟩) hK hP hS hA rfl hl.1 rfl (Nat.le_of_ble_eq_true rfl) dX9_read_4 ⟨Nat.le_of_ble_eq_true rfl, Nat.le_of_ble_eq_true rfl⟩ (fun r1 H locs hr1 hP hS => ?_)
  obtain rfl : r1 = sp_in n 1 50 := hr1
  refine lv_if_eq (tgt := 26) hx hb dX9_read_7 (by decide) (fun c2 => ?_) (fun c2 => ?_)
  · skip
    refine lv_iconst (v := 0) hx hb dX9_read_26 (by decide) ?_
    exact W.zret (v := 0) hx hb hr (rfl) (fun t ht hW => ⟨⟨0, (), rfl, (by first | rfl | trivial | decide), by rw [ht]; exact hP, va_K.moved hW.alike hK, hD⟩, hS.F ht⟩) hS.2.2 dX9_read_27
  · skip
    refine lv_aload_n hx hb dX9_read_10 rfl (lv_at hl 0 rfl) ?_
    refine lv_iload_n hx hb dX9_read_11 rfl (lv_at hl 1 rfl) ?_
    refine lv_iconst (v := 1) hx hb dX9_read_12 (by decide) ?_
    refine lv_iconst (v := (-1)) hx hb dX9_read_13 (by decide) ?_
    refine lv_iload_n hx hb dX9_read_14 rfl (lv_at hl 2 rfl) ?_
    refine lv_iconst (v := 0) hx hb dX9_read_15 (by decide) ?_
    refine cvI (wr := []) (As := [.int r1, .int 1, .int (-1), .int n, .int 0]) (rest := []) ⟨hx, hb, hml, hown, hts⟩ (mX9_addStep l D q cy g _ r1 1 (-1) n 0 ) (cwV 5 hts gX9_read_X9_addStep rfl rfl rfl (by decide +kernel) ⟨Nat.le_of_ble_eq_true rfl, Nat.le_of_ble_eq_true rfl⟩) hK hP hD hS hA [0, 1, 2, 3, 4, 5, 6, 7, 8, 9, 10, 11, 12, 13, 14, 15, 16, 17, 18, 19, 20, 21] [] rfl rfl (by decide) (by decide) (by decide) 0 9 rfl rfl rfl hl.1 rfl (Nat.le_of_ble_eq_true rfl) dX9_read_16 ⟨Nat.le_of_ble_eq_true rfl, Nat.le_of_ble_eq_true rfl⟩ (fun r3 H locs hr3 hP hD hS => ?_)
    have hP : va_P D vwCl (FW q cy g 0) H := hP
    have hD : va_D _ (FW q cy g 0) := hD
    obtain rfl : r3 = 0 := hr3
    refine lv_if_eq (tgt := 26) hx hb dX9_read_19 (by decide) (fun _ => ?_) (fun c9 => absurd (by decide) c9)
    refine lv_iconst (v := 0) hx hb dX9_read_26 (by decide) ?_
    exact W.zret (v := 0) hx hb hr (rfl) (fun t ht hW => ⟨⟨0, (), rfl, (by first | rfl | trivial | decide), by rw [ht]; exact hP, va_K.moved hW.alike hK, hD⟩, hS.F ht⟩) hS.2.2 dX9_read_27

set_option maxHeartbeats 4000000 in
set_option maxRecDepth 100000 in
theorem mX9_copy (l : Launch) (D : va_G) (q : Nat → Nat) (cy : Nat → ClassId) (g : Nat → Nat → Option Nat) (sz : Nat) (r1 bx n u : Int32) : Met l yX9_copy wsX9_copy ({ frames := 1, cells := 0, slots := 0, locals := 21 }) (PW D (TYS cy) (FW q cy g 0) sz [.ref (q 0), .int r1, .int bx, .int n, .int u]) (QI D (TYS cy) (FW q cy g 0) (FW q cy g 0) sz (fun r => r = 0)) 0 0 (va_A (FW q cy g 0) sz) := by
  refine Met.ofW (cc := cX9_copy) (maxL := 5) (ret := (some .boolean)) (by decide) rfl ?_
  intro p e s m args below meth c s₁ B hml hv
  obtain ⟨rfl, hsz, hP, hK, hD0⟩ := hv
  have hx := B.exec
  have hb := B.bytes
  have hr := B.returns
  have hts := atoms_spec (ws := wsX9_copy) B.pre
  have hown : s.vm.findClass RX9 = some m.cls := findClass_of_methodNamed B.named
  have hlocks := B.notSynchronized
  subst hsz
  have hD := hD0.self (sz := s.heap.size)
  have hA : ∀ q9 : Nat, s.heap.size ≤ q9 → va_A (FW q cy g 0) s.heap.size q9 := fun q9 h => Or.inr h
  have hS : va_S (va_A (FW q cy g 0) s.heap.size) s.heap s.heap [] := va_S.rf
  have hl := lv_entry ([.ref (q 0), .int r1, .int bx, .int n, .int u]) (n := 5) (Nat.le_of_ble_eq_true rfl)
  rw [lg_entry_eq]
  generalize (lg_sl ([.ref (q 0), .int r1, .int bx, .int n, .int u]) ++ List.replicate (5 - (lg_sl ([.ref (q 0), .int r1, .int bx, .int n, .int u])).length) Slot.unset).toArray = ls at hl ⊢
  have hl : lv_has ls 5 [(0, .ref (q 0)), (1, .int r1), (2, .int bx), (3, .int n), (4, .int u)] := hl
  refine lv_aload_n hx hb dX9_copy_0 rfl (lv_at hl 0 rfl) ?_
  refine lv_iload_n hx hb dX9_copy_1 rfl (lv_at hl 2 rfl) ?_
  refine cvI (wr := []) (As := [.int bx]) (rest := []) ⟨hx, hb, hml, hown, hts⟩ (mX9_isBox l D q cy g 0 _ bx ) (cwV 1 hts gX9_copy_X9_isBox rfl rfl rfl (by decide +kernel) ⟨Nat.le_of_ble_eq_true rfl, Nat.le_of_ble_eq_true rfl⟩) hK hP hD hS hA [0, 1, 2, 3, 4, 5, 6, 7, 8, 9, 10, 11, 12, 13, 14, 15, 16, 17, 18, 19, 20, 21] [] rfl rfl (by decide) (by decide) (by decide) 0 9 rfl rfl rfl hl.1 rfl (Nat.le_of_ble_eq_true rfl) dX9_copy_2 ⟨Nat.le_of_ble_eq_true rfl, Nat.le_of_ble_eq_true rfl⟩ (fun r1 H locs hr1 hP hD hS => ?_)
  have hP : va_P D vwCl (FW q cy g 0) H := hP
  have hD : va_D _ (FW q cy g 0) := hD
  obtain rfl : r1 = 0 := hr1
  refine lv_if_eq (tgt := 35) hx hb dX9_copy_5 (by decide) (fun _ => ?_) (fun c9 => absurd (by decide) c9)
  refine lv_iconst (v := 0) hx hb dX9_copy_35 (by decide) ?_
  exact W.zret (v := 0) hx hb hr (rfl) (fun t ht hW => ⟨⟨0, (), rfl, (by first | rfl | trivial | decide), by rw [ht]; exact hP, va_K.moved hW.alike hK, hD⟩, hS.F ht⟩) hS.2.2 dX9_copy_36

set_option maxHeartbeats 4000000 in
set_option maxRecDepth 100000 in
theorem mX9_back (l : Launch) (D : va_G) (q : Nat → Nat) (cy : Nat → ClassId) (g : Nat → Nat → Option Nat) (sz : Nat) (r1 bx : Int32) : Met l yX9_back wsX9_back ({ frames := 1, cells := 0, slots := 0, locals := 21 }) (PW D (TYS cy) (FW q cy g 0) sz [.ref (q 0), .int r1, .int bx]) (QI D (TYS cy) (FW q cy g 0) (FW q cy g 0) sz (fun r => r = 0)) 0 0 (va_A (FW q cy g 0) sz) := by
  refine Met.ofW (cc := cX9_back) (maxL := 3) (ret := (some .boolean)) (by decide) rfl ?_
  intro p e s m args below meth c s₁ B hml hv
  obtain ⟨rfl, hsz, hP, hK, hD0⟩ := hv
  have hx := B.exec
  have hb := B.bytes
  have hr := B.returns
  have hts := atoms_spec (ws := wsX9_back) B.pre
  have hown : s.vm.findClass RX9 = some m.cls := findClass_of_methodNamed B.named
  have hlocks := B.notSynchronized
  subst hsz
  have hD := hD0.self (sz := s.heap.size)
  have hA : ∀ q9 : Nat, s.heap.size ≤ q9 → va_A (FW q cy g 0) s.heap.size q9 := fun q9 h => Or.inr h
  have hS : va_S (va_A (FW q cy g 0) s.heap.size) s.heap s.heap [] := va_S.rf
  have hl := lv_entry ([.ref (q 0), .int r1, .int bx]) (n := 3) (Nat.le_of_ble_eq_true rfl)
  rw [lg_entry_eq]
  generalize (lg_sl ([.ref (q 0), .int r1, .int bx]) ++ List.replicate (3 - (lg_sl ([.ref (q 0), .int r1, .int bx])).length) Slot.unset).toArray = ls at hl ⊢
  have hl : lv_has ls 3 [(0, .ref (q 0)), (1, .int r1), (2, .int bx)] := hl
  refine lv_aload_n hx hb dX9_back_0 rfl (lv_at hl 0 rfl) ?_
  refine lv_iload_n hx hb dX9_back_1 rfl (lv_at hl 2 rfl) ?_
  refine cvI (wr := []) (As := [.int bx]) (rest := []) ⟨hx, hb, hml, hown, hts⟩ (mX9_isBox l D q cy g 0 _ bx ) (cwV 1 hts gX9_back_X9_isBox rfl rfl rfl (by decide +kernel) ⟨Nat.le_of_ble_eq_true rfl, Nat.le_of_ble_eq_true rfl⟩) hK hP hD hS hA [0, 1, 2, 3, 4, 5, 6, 7, 8, 9, 10, 11, 12, 13, 14, 15, 16, 17, 18, 19, 20, 21] [] rfl rfl (by decide) (by decide) (by decide) 0 9 rfl rfl rfl hl.1 rfl (Nat.le_of_ble_eq_true rfl) dX9_back_2 ⟨Nat.le_of_ble_eq_true rfl, Nat.le_of_ble_eq_true rfl⟩ (fun r1 H locs hr1 hP hD hS => ?_)
  have hP : va_P D vwCl (FW q cy g 0) H := hP
  have hD : va_D _ (FW q cy g 0) := hD
  obtain rfl : r1 = 0 := hr1
  refine lv_if_eq (tgt := 24) hx hb dX9_back_5 (by decide) (fun _ => ?_) (fun c9 => absurd (by decide) c9)
  refine lv_iconst (v := 0) hx hb dX9_back_24 (by decide) ?_
  exact W.zret (v := 0) hx hb hr (rfl) (fun t ht hW => ⟨⟨0, (), rfl, (by first | rfl | trivial | decide), by rw [ht]; exact hP, va_K.moved hW.alike hK, hD⟩, hS.F ht⟩) hS.2.2 dX9_back_25

theorem iX9_bell_9 : ∀ w ∈ wsX90, w ∈ wsX9_bell := fun _ h => List.mem_cons_of_mem _ (List.mem_append_right _ h)
set_option maxHeartbeats 4000000 in
set_option maxRecDepth 100000 in
theorem mX9_bell (l : Launch) (D : va_G) (q : Nat → Nat) (cy : Nat → ClassId) (g : Nat → Nat → Option Nat) (sz : Nat) (a : Int32) : Met l yX9_bell wsX9_bell ({ frames := 0, cells := 0, slots := 0, locals := 0 }) (PW D (TYS cy) (FW q cy g 0) sz [.ref (q 0), .int a]) (QI D (TYS cy) (FW q cy g 0) (([] : va_W)) sz (fun r => r = sp_bell a)) 0 0 (va_A (FW q cy g 0) sz) := by
  refine Met.ofW (cc := cX9_bell) (maxL := 2) (ret := (some .boolean)) (by decide) rfl ?_
  intro p e s m args below meth c s₁ B hml hv
  obtain ⟨rfl, hsz, hP, hK, hD0⟩ := hv
  have hx := B.exec
  have hb := B.bytes
  have hr := B.returns
  have hts := atoms_spec (ws := wsX9_bell) B.pre
  have hown : s.vm.findClass RX9 = some m.cls := findClass_of_methodNamed B.named
  have hlocks := B.notSynchronized
  subst hsz
  have hD := hD0.self (sz := s.heap.size)
  have hA : ∀ q9 : Nat, s.heap.size ≤ q9 → va_A (FW q cy g 0) s.heap.size q9 := fun q9 h => Or.inr h
  have hS : va_S (va_A (FW q cy g 0) s.heap.size) s.heap s.heap [] := va_S.rf
  have hl := lv_entry ([.ref (q 0), .int a]) (n := 2) (Nat.le_of_ble_eq_true rfl)
  rw [lg_entry_eq]
  generalize (lg_sl ([.ref (q 0), .int a]) ++ List.replicate (2 - (lg_sl ([.ref (q 0), .int a])).length) Slot.unset).toArray = ls at hl ⊢
  have hl : lv_has ls 2 [(0, .ref (q 0)), (1, .int a)] := hl
  refine lv_iload_n hx hb dX9_bell_0 rfl (lv_at hl 1 rfl) ?_
  refine lv_aload_n hx hb dX9_bell_1 rfl (lv_at hl 0 rfl) ?_
  refine va_get (D := D) (ci := 9) (v := .int 0) (C := RX9) (T := TX9) (N := 19) hx hb hts iX9_bell_9 hown hK hP 0 rfl rfl 14 (by decide) (hts (.fieldLink RX9 78 "FondsRoom" "turn" "I") (by decide +kernel)) (fun _ h9 => h9) rfl dX9_bell_2 ?_
  refine lv_icmp_le (tgt := 16) hx hb dX9_bell_5 (by decide) (fun c1 => ?_) (fun c1 => ?_)
  · skip
    refine lv_iconst (v := 0) hx hb dX9_bell_16 (by decide) ?_
    exact W.zret (v := 0) hx hb hr (rfl) (fun t ht hW => ⟨⟨0, (), rfl, (by simp [sp_bell, c1]), by rw [ht]; exact P0, va_K.moved hW.alike hK, D0⟩, hS.F ht⟩) hS.2.2 dX9_bell_17
  · skip
    refine lv_aload_n hx hb dX9_bell_8 rfl (lv_at hl 0 rfl) ?_
    refine va_get (D := D) (ci := 9) (v := .int (-1)) (C := RX9) (T := TX9) (N := 19) hx hb hts iX9_bell_9 hown hK hP 0 rfl rfl 15 (by decide) (hts (.fieldLink RX9 75 "FondsRoom" "bellTurn" "I") (by decide +kernel)) (fun _ h9 => h9) rfl dX9_bell_9 ?_
    refine lv_iconst (v := (-1)) hx hb dX9_bell_12 (by decide) ?_
    refine lv_icmp_eq (tgt := 18) hx hb dX9_bell_13 (by decide) (fun _ => ?_) (fun c9 => absurd (by decide) c9)
    refine lv_aload_n hx hb dX9_bell_18 rfl (lv_at hl 0 rfl) ?_
    refine lv_iload_n hx hb dX9_bell_19 rfl (lv_at hl 1 rfl) ?_
    refine va_put (D := D) (ci := 9) (v := .int a) (ty := .int) (C := RX9) (T := TX9) (N := 19) hx hb hts iX9_bell_9 tyX9 tyX9_ok nmX9 hown hK hP hD hS 0 rfl rfl 15 (by decide) (hts (.fieldLink RX9 75 "FondsRoom" "bellTurn" "I") (by decide +kernel)) (fun _ h9 => h9) rfl (by decide +kernel) rfl rfl (Nat.le_of_ble_eq_true rfl) dX9_bell_20 (fun H locs hP hD hS => ?_)
    have hP : va_P D vwCl ([(q 0, .inr (9, [.ref (q 1), .ref (q 3), .ref (q 5), .ref (q 7), .ref (q 11), .ref (q 14), .ref (q 15), .ref (q 16), .ref (q 17), .ref (q 21), .int 0, .int 0, .int 0, .int 2, .int 0, .int a, .int 0, .int 0, .int 0])), (q 1, .inl (cy 2, 12, .inr (.inr (.inr (.inr (va_up (g 0) 0 (some (q 2)))))))), (q 2, .inr (1, [.int 0, .int 0, .null])), (q 3, .inl (cy 3, 40, .inr (.inr (.inr (.inr (va_up (g 1) 0 (some (q 4)))))))), (q 4, .inr (0, [.int 0, .int 0, .int 0, .int 0, .null, .null])), (q 5, .inl (cy 4, 20, .inr (.inr (.inr (.inr (va_up (g 2) 0 (some (q 6)))))))), (q 6, .inr (6, [.int 0, .ref (q 26), .int 0, .int 0, .int 0, .int 0, .int 0, .null, .null, .int 0, .int 0, .int 0, .int 0, .int 0, .int 0, .int 0, .int 0])), (q 7, .inr (7, [.ref (q 8), .int 2])), (q 8, .inl (cy 5, 4, .inr (.inr (.inr (.inr (va_up (va_up (g 3) 0 (some (q 9))) 1 (some (q 10)))))))), (q 9, .inr (8, [.null, .null, .int 0])), (q 10, .inr (8, [.null, .null, .int 0])), (q 11, .inr (7, [.ref (q 12), .int 1])), (q 12, .inl (cy 5, 3, .inr (.inr (.inr (.inr (va_up (g 4) 0 (some (q 13)))))))), (q 13, .inr (8, [.null, .null, .int 0])), (q 14, .inr (3, [.ref (q 22), .int 0])), (q 15, .inr (3, [.ref (q 23), .int 0])), (q 16, .inr (3, [.ref (q 24), .int 0])), (q 17, .inr (4, [.ref (q 18), .ref (q 19), .ref (q 20), .int 0])), (q 18, .inl (cy 0, 30, .inl (fun _ => 0))), (q 19, .inl (cy 0, 30, .inl (fun _ => 0))), (q 20, .inl (cy 0, 30, .inl (fun _ => 0))), (q 21, .inr (2, [.ref (q 25), .int 0]))]) H := hP
    have hD : va_D _ ([(q 0, .inr (9, [.ref (q 1), .ref (q 3), .ref (q 5), .ref (q 7), .ref (q 11), .ref (q 14), .ref (q 15), .ref (q 16), .ref (q 17), .ref (q 21), .int 0, .int 0, .int 0, .int 2, .int 0, .int a, .int 0, .int 0, .int 0])), (q 1, .inl (cy 2, 12, .inr (.inr (.inr (.inr (va_up (g 0) 0 (some (q 2)))))))), (q 2, .inr (1, [.int 0, .int 0, .null])), (q 3, .inl (cy 3, 40, .inr (.inr (.inr (.inr (va_up (g 1) 0 (some (q 4)))))))), (q 4, .inr (0, [.int 0, .int 0, .int 0, .int 0, .null, .null])), (q 5, .inl (cy 4, 20, .inr (.inr (.inr (.inr (va_up (g 2) 0 (some (q 6)))))))), (q 6, .inr (6, [.int 0, .ref (q 26), .int 0, .int 0, .int 0, .int 0, .int 0, .null, .null, .int 0, .int 0, .int 0, .int 0, .int 0, .int 0, .int 0, .int 0])), (q 7, .inr (7, [.ref (q 8), .int 2])), (q 8, .inl (cy 5, 4, .inr (.inr (.inr (.inr (va_up (va_up (g 3) 0 (some (q 9))) 1 (some (q 10)))))))), (q 9, .inr (8, [.null, .null, .int 0])), (q 10, .inr (8, [.null, .null, .int 0])), (q 11, .inr (7, [.ref (q 12), .int 1])), (q 12, .inl (cy 5, 3, .inr (.inr (.inr (.inr (va_up (g 4) 0 (some (q 13)))))))), (q 13, .inr (8, [.null, .null, .int 0])), (q 14, .inr (3, [.ref (q 22), .int 0])), (q 15, .inr (3, [.ref (q 23), .int 0])), (q 16, .inr (3, [.ref (q 24), .int 0])), (q 17, .inr (4, [.ref (q 18), .ref (q 19), .ref (q 20), .int 0])), (q 18, .inl (cy 0, 30, .inl (fun _ => 0))), (q 19, .inl (cy 0, 30, .inl (fun _ => 0))), (q 20, .inl (cy 0, 30, .inl (fun _ => 0))), (q 21, .inr (2, [.ref (q 25), .int 0]))]) := hD
    refine lv_iconst (v := 1) hx hb dX9_bell_23 (by decide) ?_
    exact W.zret (v := 1) hx hb hr (rfl) (fun t ht hW => ⟨⟨1, (), rfl, (by simp [sp_bell, c1]), by rw [ht]; exact P0, va_K.moved hW.alike hK, D0⟩, hS.F ht⟩) hS.2.2 dX9_bell_24

theorem iX4_append_4 : ∀ w ∈ wsX40, w ∈ wsX4_append := fun _ h => List.mem_cons_of_mem _ (List.mem_append_right _ h)
set_option maxHeartbeats 4000000 in
set_option maxRecDepth 100000 in
theorem mX4_append (l : Launch) (D : va_G) (q : Nat → Nat) (cy : Nat → ClassId) (g : Nat → Nat → Option Nat) (sz : Nat) (a k n : Int32) : Met l yX4_append wsX4_append ({ frames := 0, cells := 0, slots := 0, locals := 0 }) (PW D (TYS cy) (FW q cy g 0) sz [.ref (q 17), .int a, .int k, .int n]) (QI D (TYS cy) (FW q cy g 0) (([] : va_W)) sz (fun r => r = 1)) 0 0 (va_A (FW q cy g 0) sz) := by
  refine Met.ofW (cc := cX4_append) (maxL := 4) (ret := (some .boolean)) (by decide) rfl ?_
  intro p e s m args below meth c s₁ B hml hv
  obtain ⟨rfl, hsz, hP, hK, hD0⟩ := hv
  have hx := B.exec
  have hb := B.bytes
  have hr := B.returns
  have hts := atoms_spec (ws := wsX4_append) B.pre
  have hown : s.vm.findClass RX4 = some m.cls := findClass_of_methodNamed B.named
  have hlocks := B.notSynchronized
  subst hsz
  have hD := hD0.self (sz := s.heap.size)
  have hA : ∀ q9 : Nat, s.heap.size ≤ q9 → va_A (FW q cy g 0) s.heap.size q9 := fun q9 h => Or.inr h
  have hS : va_S (va_A (FW q cy g 0) s.heap.size) s.heap s.heap [] := va_S.rf
  have hl := lv_entry ([.ref (q 17), .int a, .int k, .int n]) (n := 4) (Nat.le_of_ble_eq_true rfl)
  rw [lg_entry_eq]
  generalize (lg_sl ([.ref (q 17), .int a, .int k, .int n]) ++ List.replicate (4 - (lg_sl ([.ref (q 17), .int a, .int k, .int n])).length) Slot.unset).toArray = ls at hl ⊢
  have hl : lv_has ls 4 [(0, .ref (q 17)), (1, .int a), (2, .int k), (3, .int n)] := hl
  refine lv_aload_n hx hb dX4_append_0 rfl (lv_at hl 0 rfl) ?_
  refine va_get (D := D) (ci := 4) (v := .int 0) (C := RX4) (T := TX4) (N := 4) hx hb hts iX4_append_4 hown hK hP 17 rfl rfl 3 (by decide) (hts (.fieldLink RX4 21 "FondsRoom$Mishaps" "size" "I") (by decide +kernel)) (fun _ h9 => h9) rfl dX4_append_1 ?_
  refine lv_bipush (v := 30) hx hb dX4_append_4 (by decide) ?_
  refine lv_icmp_lt (tgt := 11) hx hb dX4_append_6 (by decide) (fun _ => ?_) (fun c9 => absurd (by decide) c9)
  refine lv_aload_n hx hb dX4_append_11 rfl (lv_at hl 0 rfl) ?_
  refine va_get (D := D) (ci := 4) (v := .ref (q 18)) (C := RX4) (T := TX4) (N := 4) hx hb hts iX4_append_4 hown hK hP 17 rfl rfl 0 (by decide) (hts (.fieldLink RX4 9 "FondsRoom$Mishaps" "turns" "[I") (by decide +kernel)) (fun _ h9 => h9) rfl dX4_append_12 ?_
  refine lv_aload_n hx hb dX4_append_15 rfl (lv_at hl 0 rfl) ?_
  refine va_get (D := D) (ci := 4) (v := .int 0) (C := RX4) (T := TX4) (N := 4) hx hb hts iX4_append_4 hown hK hP 17 rfl rfl 3 (by decide) (hts (.fieldLink RX4 21 "FondsRoom$Mishaps" "size" "I") (by decide +kernel)) (fun _ h9 => h9) rfl dX4_append_16 ?_
  refine lv_iload_n hx hb dX4_append_19 rfl (lv_at hl 1 rfl) ?_
  refine va_iast hx hb hK hP hD hS 18 0 rfl rfl (vp_in_iff.mpr (by decide)) dX4_append_20 (fun H locs hP hD hS => ?_)
  have hP : va_P D vwCl ([(q 0, .inr (9, [.ref (q 1), .ref (q 3), .ref (q 5), .ref (q 7), .ref (q 11), .ref (q 14), .ref (q 15), .ref (q 16), .ref (q 17), .ref (q 21), .int 0, .int 0, .int 0, .int 2, .int 0, .int (-1), .int 0, .int 0, .int 0])), (q 1, .inl (cy 2, 12, .inr (.inr (.inr (.inr (va_up (g 0) 0 (some (q 2)))))))), (q 2, .inr (1, [.int 0, .int 0, .null])), (q 3, .inl (cy 3, 40, .inr (.inr (.inr (.inr (va_up (g 1) 0 (some (q 4)))))))), (q 4, .inr (0, [.int 0, .int 0, .int 0, .int 0, .null, .null])), (q 5, .inl (cy 4, 20, .inr (.inr (.inr (.inr (va_up (g 2) 0 (some (q 6)))))))), (q 6, .inr (6, [.int 0, .ref (q 26), .int 0, .int 0, .int 0, .int 0, .int 0, .null, .null, .int 0, .int 0, .int 0, .int 0, .int 0, .int 0, .int 0, .int 0])), (q 7, .inr (7, [.ref (q 8), .int 2])), (q 8, .inl (cy 5, 4, .inr (.inr (.inr (.inr (va_up (va_up (g 3) 0 (some (q 9))) 1 (some (q 10)))))))), (q 9, .inr (8, [.null, .null, .int 0])), (q 10, .inr (8, [.null, .null, .int 0])), (q 11, .inr (7, [.ref (q 12), .int 1])), (q 12, .inl (cy 5, 3, .inr (.inr (.inr (.inr (va_up (g 4) 0 (some (q 13)))))))), (q 13, .inr (8, [.null, .null, .int 0])), (q 14, .inr (3, [.ref (q 22), .int 0])), (q 15, .inr (3, [.ref (q 23), .int 0])), (q 16, .inr (3, [.ref (q 24), .int 0])), (q 17, .inr (4, [.ref (q 18), .ref (q 19), .ref (q 20), .int 0])), (q 18, .inl (cy 0, 30, .inl (upd (fun _ => 0) 0 a))), (q 19, .inl (cy 0, 30, .inl (fun _ => 0))), (q 20, .inl (cy 0, 30, .inl (fun _ => 0))), (q 21, .inr (2, [.ref (q 25), .int 0]))]) H := hP
  have hD : va_D _ ([(q 0, .inr (9, [.ref (q 1), .ref (q 3), .ref (q 5), .ref (q 7), .ref (q 11), .ref (q 14), .ref (q 15), .ref (q 16), .ref (q 17), .ref (q 21), .int 0, .int 0, .int 0, .int 2, .int 0, .int (-1), .int 0, .int 0, .int 0])), (q 1, .inl (cy 2, 12, .inr (.inr (.inr (.inr (va_up (g 0) 0 (some (q 2)))))))), (q 2, .inr (1, [.int 0, .int 0, .null])), (q 3, .inl (cy 3, 40, .inr (.inr (.inr (.inr (va_up (g 1) 0 (some (q 4)))))))), (q 4, .inr (0, [.int 0, .int 0, .int 0, .int 0, .null, .null])), (q 5, .inl (cy 4, 20, .inr (.inr (.inr (.inr (va_up (g 2) 0 (some (q 6)))))))), (q 6, .inr (6, [.int 0, .ref (q 26), .int 0, .int 0, .int 0, .int 0, .int 0, .null, .null, .int 0, .int 0, .int 0, .int 0, .int 0, .int 0, .int 0, .int 0])), (q 7, .inr (7, [.ref (q 8), .int 2])), (q 8, .inl (cy 5, 4, .inr (.inr (.inr (.inr (va_up (va_up (g 3) 0 (some (q 9))) 1 (some (q 10)))))))), (q 9, .inr (8, [.null, .null, .int 0])), (q 10, .inr (8, [.null, .null, .int 0])), (q 11, .inr (7, [.ref (q 12), .int 1])), (q 12, .inl (cy 5, 3, .inr (.inr (.inr (.inr (va_up (g 4) 0 (some (q 13)))))))), (q 13, .inr (8, [.null, .null, .int 0])), (q 14, .inr (3, [.ref (q 22), .int 0])), (q 15, .inr (3, [.ref (q 23), .int 0])), (q 16, .inr (3, [.ref (q 24), .int 0])), (q 17, .inr (4, [.ref (q 18), .ref (q 19), .ref (q 20), .int 0])), (q 18, .inl (cy 0, 30, .inl (upd (fun _ => 0) 0 a))), (q 19, .inl (cy 0, 30, .inl (fun _ => 0))), (q 20, .inl (cy 0, 30, .inl (fun _ => 0))), (q 21, .inr (2, [.ref (q 25), .int 0]))]) := hD
  refine lv_aload_n hx hb dX4_append_21 rfl (lv_at hl 0 rfl) ?_
  refine va_get (D := D) (ci := 4) (v := .ref (q 19)) (C := RX4) (T := TX4) (N := 4) hx hb hts iX4_append_4 hown hK hP 17 rfl rfl 1 (by decide) (hts (.fieldLink RX4 15 "FondsRoom$Mishaps" "kinds" "[I") (by decide +kernel)) (fun _ h9 => h9) rfl dX4_append_22 ?_
  refine lv_aload_n hx hb dX4_append_25 rfl (lv_at hl 0 rfl) ?_
  refine va_get (D := D) (ci := 4) (v := .int 0) (C := RX4) (T := TX4) (N := 4) hx hb hts iX4_append_4 hown hK hP 17 rfl rfl 3 (by decide) (hts (.fieldLink RX4 21 "FondsRoom$Mishaps" "size" "I") (by decide +kernel)) (fun _ h9 => h9) rfl dX4_append_26 ?_
  refine lv_iload_n hx hb dX4_append_29 rfl (lv_at hl 2 rfl) ?_
  refine va_iast hx hb hK hP hD hS 19 0 rfl rfl (vp_in_iff.mpr (by decide)) dX4_append_30 (fun H locs hP hD hS => ?_)
  have hP : va_P D vwCl ([(q 0, .inr (9, [.ref (q 1), .ref (q 3), .ref (q 5), .ref (q 7), .ref (q 11), .ref (q 14), .ref (q 15), .ref (q 16), .ref (q 17), .ref (q 21), .int 0, .int 0, .int 0, .int 2, .int 0, .int (-1), .int 0, .int 0, .int 0])), (q 1, .inl (cy 2, 12, .inr (.inr (.inr (.inr (va_up (g 0) 0 (some (q 2)))))))), (q 2, .inr (1, [.int 0, .int 0, .null])), (q 3, .inl (cy 3, 40, .inr (.inr (.inr (.inr (va_up (g 1) 0 (some (q 4)))))))), (q 4, .inr (0, [.int 0, .int 0, .int 0, .int 0, .null, .null])), (q 5, .inl (cy 4, 20, .inr (.inr (.inr (.inr (va_up (g 2) 0 (some (q 6)))))))), (q 6, .inr (6, [.int 0, .ref (q 26), .int 0, .int 0, .int 0, .int 0, .int 0, .null, .null, .int 0, .int 0, .int 0, .int 0, .int 0, .int 0, .int 0, .int 0])), (q 7, .inr (7, [.ref (q 8), .int 2])), (q 8, .inl (cy 5, 4, .inr (.inr (.inr (.inr (va_up (va_up (g 3) 0 (some (q 9))) 1 (some (q 10)))))))), (q 9, .inr (8, [.null, .null, .int 0])), (q 10, .inr (8, [.null, .null, .int 0])), (q 11, .inr (7, [.ref (q 12), .int 1])), (q 12, .inl (cy 5, 3, .inr (.inr (.inr (.inr (va_up (g 4) 0 (some (q 13)))))))), (q 13, .inr (8, [.null, .null, .int 0])), (q 14, .inr (3, [.ref (q 22), .int 0])), (q 15, .inr (3, [.ref (q 23), .int 0])), (q 16, .inr (3, [.ref (q 24), .int 0])), (q 17, .inr (4, [.ref (q 18), .ref (q 19), .ref (q 20), .int 0])), (q 18, .inl (cy 0, 30, .inl (upd (fun _ => 0) 0 a))), (q 19, .inl (cy 0, 30, .inl (upd (fun _ => 0) 0 k))), (q 20, .inl (cy 0, 30, .inl (fun _ => 0))), (q 21, .inr (2, [.ref (q 25), .int 0]))]) H := hP
  have hD : va_D _ ([(q 0, .inr (9, [.ref (q 1), .ref (q 3), .ref (q 5), .ref (q 7), .ref (q 11), .ref (q 14), .ref (q 15), .ref (q 16), .ref (q 17), .ref (q 21), .int 0, .int 0, .int 0, .int 2, .int 0, .int (-1), .int 0, .int 0, .int 0])), (q 1, .inl (cy 2, 12, .inr (.inr (.inr (.inr (va_up (g 0) 0 (some (q 2)))))))), (q 2, .inr (1, [.int 0, .int 0, .null])), (q 3, .inl (cy 3, 40, .inr (.inr (.inr (.inr (va_up (g 1) 0 (some (q 4)))))))), (q 4, .inr (0, [.int 0, .int 0, .int 0, .int 0, .null, .null])), (q 5, .inl (cy 4, 20, .inr (.inr (.inr (.inr (va_up (g 2) 0 (some (q 6)))))))), (q 6, .inr (6, [.int 0, .ref (q 26), .int 0, .int 0, .int 0, .int 0, .int 0, .null, .null, .int 0, .int 0, .int 0, .int 0, .int 0, .int 0, .int 0, .int 0])), (q 7, .inr (7, [.ref (q 8), .int 2])), (q 8, .inl (cy 5, 4, .inr (.inr (.inr (.inr (va_up (va_up (g 3) 0 (some (q 9))) 1 (some (q 10)))))))), (q 9, .inr (8, [.null, .null, .int 0])), (q 10, .inr (8, [.null, .null, .int 0])), (q 11, .inr (7, [.ref (q 12), .int 1])), (q 12, .inl (cy 5, 3, .inr (.inr (.inr (.inr (va_up (g 4) 0 (some (q 13)))))))), (q 13, .inr (8, [.null, .null, .int 0])), (q 14, .inr (3, [.ref (q 22), .int 0])), (q 15, .inr (3, [.ref (q 23), .int 0])), (q 16, .inr (3, [.ref (q 24), .int 0])), (q 17, .inr (4, [.ref (q 18), .ref (q 19), .ref (q 20), .int 0])), (q 18, .inl (cy 0, 30, .inl (upd (fun _ => 0) 0 a))), (q 19, .inl (cy 0, 30, .inl (upd (fun _ => 0) 0 k))), (q 20, .inl (cy 0, 30, .inl (fun _ => 0))), (q 21, .inr (2, [.ref (q 25), .int 0]))]) := hD
  refine lv_aload_n hx hb dX4_append_31 rfl (lv_at hl 0 rfl) ?_
  refine va_get (D := D) (ci := 4) (v := .ref (q 20)) (C := RX4) (T := TX4) (N := 4) hx hb hts iX4_append_4 hown hK hP 17 rfl rfl 2 (by decide) (hts (.fieldLink RX4 18 "FondsRoom$Mishaps" "whos" "[I") (by decide +kernel)) (fun _ h9 => h9) rfl dX4_append_32 ?_
  refine lv_aload_n hx hb dX4_append_35 rfl (lv_at hl 0 rfl) ?_
  refine va_get (D := D) (ci := 4) (v := .int 0) (C := RX4) (T := TX4) (N := 4) hx hb hts iX4_append_4 hown hK hP 17 rfl rfl 3 (by decide) (hts (.fieldLink RX4 21 "FondsRoom$Mishaps" "size" "I") (by decide +kernel)) (fun _ h9 => h9) rfl dX4_append_36 ?_
  refine lv_iload_n hx hb dX4_append_39 rfl (lv_at hl 3 rfl) ?_
  refine va_iast hx hb hK hP hD hS 20 0 rfl rfl (vp_in_iff.mpr (by decide)) dX4_append_40 (fun H locs hP hD hS => ?_)
  have hP : va_P D vwCl ([(q 0, .inr (9, [.ref (q 1), .ref (q 3), .ref (q 5), .ref (q 7), .ref (q 11), .ref (q 14), .ref (q 15), .ref (q 16), .ref (q 17), .ref (q 21), .int 0, .int 0, .int 0, .int 2, .int 0, .int (-1), .int 0, .int 0, .int 0])), (q 1, .inl (cy 2, 12, .inr (.inr (.inr (.inr (va_up (g 0) 0 (some (q 2)))))))), (q 2, .inr (1, [.int 0, .int 0, .null])), (q 3, .inl (cy 3, 40, .inr (.inr (.inr (.inr (va_up (g 1) 0 (some (q 4)))))))), (q 4, .inr (0, [.int 0, .int 0, .int 0, .int 0, .null, .null])), (q 5, .inl (cy 4, 20, .inr (.inr (.inr (.inr (va_up (g 2) 0 (some (q 6)))))))), (q 6, .inr (6, [.int 0, .ref (q 26), .int 0, .int 0, .int 0, .int 0, .int 0, .null, .null, .int 0, .int 0, .int 0, .int 0, .int 0, .int 0, .int 0, .int 0])), (q 7, .inr (7, [.ref (q 8), .int 2])), (q 8, .inl (cy 5, 4, .inr (.inr (.inr (.inr (va_up (va_up (g 3) 0 (some (q 9))) 1 (some (q 10)))))))), (q 9, .inr (8, [.null, .null, .int 0])), (q 10, .inr (8, [.null, .null, .int 0])), (q 11, .inr (7, [.ref (q 12), .int 1])), (q 12, .inl (cy 5, 3, .inr (.inr (.inr (.inr (va_up (g 4) 0 (some (q 13)))))))), (q 13, .inr (8, [.null, .null, .int 0])), (q 14, .inr (3, [.ref (q 22), .int 0])), (q 15, .inr (3, [.ref (q 23), .int 0])), (q 16, .inr (3, [.ref (q 24), .int 0])), (q 17, .inr (4, [.ref (q 18), .ref (q 19), .ref (q 20), .int 0])), (q 18, .inl (cy 0, 30, .inl (upd (fun _ => 0) 0 a))), (q 19, .inl (cy 0, 30, .inl (upd (fun _ => 0) 0 k))), (q 20, .inl (cy 0, 30, .inl (upd (fun _ => 0) 0 n))), (q 21, .inr (2, [.ref (q 25), .int 0]))]) H := hP
  have hD : va_D _ ([(q 0, .inr (9, [.ref (q 1), .ref (q 3), .ref (q 5), .ref (q 7), .ref (q 11), .ref (q 14), .ref (q 15), .ref (q 16), .ref (q 17), .ref (q 21), .int 0, .int 0, .int 0, .int 2, .int 0, .int (-1), .int 0, .int 0, .int 0])), (q 1, .inl (cy 2, 12, .inr (.inr (.inr (.inr (va_up (g 0) 0 (some (q 2)))))))), (q 2, .inr (1, [.int 0, .int 0, .null])), (q 3, .inl (cy 3, 40, .inr (.inr (.inr (.inr (va_up (g 1) 0 (some (q 4)))))))), (q 4, .inr (0, [.int 0, .int 0, .int 0, .int 0, .null, .null])), (q 5, .inl (cy 4, 20, .inr (.inr (.inr (.inr (va_up (g 2) 0 (some (q 6)))))))), (q 6, .inr (6, [.int 0, .ref (q 26), .int 0, .int 0, .int 0, .int 0, .int 0, .null, .null, .int 0, .int 0, .int 0, .int 0, .int 0, .int 0, .int 0, .int 0])), (q 7, .inr (7, [.ref (q 8), .int 2])), (q 8, .inl (cy 5, 4, .inr (.inr (.inr (.inr (va_up (va_up (g 3) 0 (some (q 9))) 1 (some (q 10)))))))), (q 9, .inr (8, [.null, .null, .int 0])), (q 10, .inr (8, [.null, .null, .int 0])), (q 11, .inr (7, [.ref (q 12), .int 1])), (q 12, .inl (cy 5, 3, .inr (.inr (.inr (.inr (va_up (g 4) 0 (some (q 13)))))))), (q 13, .inr (8, [.null, .null, .int 0])), (q 14, .inr (3, [.ref (q 22), .int 0])), (q 15, .inr (3, [.ref (q 23), .int 0])), (q 16, .inr (3, [.ref (q 24), .int 0])), (q 17, .inr (4, [.ref (q 18), .ref (q 19), .ref (q 20), .int 0])), (q 18, .inl (cy 0, 30, .inl (upd (fun _ => 0) 0 a))), (q 19, .inl (cy 0, 30, .inl (upd (fun _ => 0) 0 k))), (q 20, .inl (cy 0, 30, .inl (upd (fun _ => 0) 0 n))), (q 21, .inr (2, [.ref (q 25), .int 0]))]) := hD
  refine lv_aload_n hx hb dX4_append_41 rfl (lv_at hl 0 rfl) ?_
  refine lv_dup hx hb dX4_append_42 rfl ?_
  refine va_get (D := D) (ci := 4) (v := .int 0) (C := RX4) (T := TX4) (N := 4) hx hb hts iX4_append_4 hown hK hP 17 rfl rfl 3 (by decide) (hts (.fieldLink RX4 21 "FondsRoom$Mishaps" "size" "I") (by decide +kernel)) (fun _ h9 => h9) rfl dX4_append_43 ?_
  refine lv_iconst (v := 1) hx hb dX4_append_46 (by decide) ?_
  refine lv_iadd hx hb dX4_append_47 ?_
  refine lv_topi (fun y1 ey1 => ?_)
  obtain rfl : y1 = 1 := ey1.trans (by decide)
  refine va_put (D := D) (ci := 4) (v := .int 1) (ty := .int) (C := RX4) (T := TX4) (N := 4) hx hb hts iX4_append_4 tyX4 tyX4_ok nmX4 hown hK hP hD hS 17 rfl rfl 3 (by decide) (hts (.fieldLink RX4 21 "FondsRoom$Mishaps" "size" "I") (by decide +kernel)) (fun _ h9 => h9) rfl (by decide +kernel) rfl rfl (Nat.le_of_ble_eq_true rfl) dX4_append_48 (fun H locs hP hD hS => ?_)
  have hP : va_P D vwCl ([(q 0, .inr (9, [.ref (q 1), .ref (q 3), .ref (q 5), .ref (q 7), .ref (q 11), .ref (q 14), .ref (q 15), .ref (q 16), .ref (q 17), .ref (q 21), .int 0, .int 0, .int 0, .int 2, .int 0, .int (-1), .int 0, .int 0, .int 0])), (q 1, .inl (cy 2, 12, .inr (.inr (.inr (.inr (va_up (g 0) 0 (some (q 2)))))))), (q 2, .inr (1, [.int 0, .int 0, .null])), (q 3, .inl (cy 3, 40, .inr (.inr (.inr (.inr (va_up (g 1) 0 (some (q 4)))))))), (q 4, .inr (0, [.int 0, .int 0, .int 0, .int 0, .null, .null])), (q 5, .inl (cy 4, 20, .inr (.inr (.inr (.inr (va_up (g 2) 0 (some (q 6)))))))), (q 6, .inr (6, [.int 0, .ref (q 26), .int 0, .int 0, .int 0, .int 0, .int 0, .null, .null, .int 0, .int 0, .int 0, .int 0, .int 0, .int 0, .int 0, .int 0])), (q 7, .inr (7, [.ref (q 8), .int 2])), (q 8, .inl (cy 5, 4, .inr (.inr (.inr (.inr (va_up (va_up (g 3) 0 (some (q 9))) 1 (some (q 10)))))))), (q 9, .inr (8, [.null, .null, .int 0])), (q 10, .inr (8, [.null, .null, .int 0])), (q 11, .inr (7, [.ref (q 12), .int 1])), (q 12, .inl (cy 5, 3, .inr (.inr (.inr (.inr (va_up (g 4) 0 (some (q 13)))))))), (q 13, .inr (8, [.null, .null, .int 0])), (q 14, .inr (3, [.ref (q 22), .int 0])), (q 15, .inr (3, [.ref (q 23), .int 0])), (q 16, .inr (3, [.ref (q 24), .int 0])), (q 17, .inr (4, [.ref (q 18), .ref (q 19), .ref (q 20), .int 1])), (q 18, .inl (cy 0, 30, .inl (upd (fun _ => 0) 0 a))), (q 19, .inl (cy 0, 30, .inl (upd (fun _ => 0) 0 k))), (q 20, .inl (cy 0, 30, .inl (upd (fun _ => 0) 0 n))), (q 21, .inr (2, [.ref (q 25), .int 0]))]) H := hP
  have hD : va_D _ ([(q 0, .inr (9, [.ref (q 1), .ref (q 3), .ref (q 5), .ref (q 7), .ref (q 11), .ref (q 14), .ref (q 15), .ref (q 16), .ref (q 17), .ref (q 21), .int 0, .int 0, .int 0, .int 2, .int 0, .int (-1), .int 0, .int 0, .int 0])), (q 1, .inl (cy 2, 12, .inr (.inr (.inr (.inr (va_up (g 0) 0 (some (q 2)))))))), (q 2, .inr (1, [.int 0, .int 0, .null])), (q 3, .inl (cy 3, 40, .inr (.inr (.inr (.inr (va_up (g 1) 0 (some (q 4)))))))), (q 4, .inr (0, [.int 0, .int 0, .int 0, .int 0, .null, .null])), (q 5, .inl (cy 4, 20, .inr (.inr (.inr (.inr (va_up (g 2) 0 (some (q 6)))))))), (q 6, .inr (6, [.int 0, .ref (q 26), .int 0, .int 0, .int 0, .int 0, .int 0, .null, .null, .int 0, .int 0, .int 0, .int 0, .int 0, .int 0, .int 0, .int 0])), (q 7, .inr (7, [.ref (q 8), .int 2])), (q 8, .inl (cy 5, 4, .inr (.inr (.inr (.inr (va_up (va_up (g 3) 0 (some (q 9))) 1 (some (q 10)))))))), (q 9, .inr (8, [.null, .null, .int 0])), (q 10, .inr (8, [.null, .null, .int 0])), (q 11, .inr (7, [.ref (q 12), .int 1])), (q 12, .inl (cy 5, 3, .inr (.inr (.inr (.inr (va_up (g 4) 0 (some (q 13)))))))), (q 13, .inr (8, [.null, .null, .int 0])), (q 14, .inr (3, [.ref (q 22), .int 0])), (q 15, .inr (3, [.ref (q 23), .int 0])), (q 16, .inr (3, [.ref (q 24), .int 0])), (q 17, .inr (4, [.ref (q 18), .ref (q 19), .ref (q 20), .int 1])), (q 18, .inl (cy 0, 30, .inl (upd (fun _ => 0) 0 a))), (q 19, .inl (cy 0, 30, .inl (upd (fun _ => 0) 0 k))), (q 20, .inl (cy 0, 30, .inl (upd (fun _ => 0) 0 n))), (q 21, .inr (2, [.ref (q 25), .int 0]))]) := hD
  refine lv_iconst (v := 1) hx hb dX4_append_51 (by decide) ?_
  exact W.zret (v := 1) hx hb hr (rfl) (fun t ht hW => ⟨⟨1, (), rfl, (by first | rfl | trivial | decide), by rw [ht]; exact P0, va_K.moved hW.alike hK, D0⟩, hS.F ht⟩) hS.2.2 dX4_append_52

theorem iX9_mishap_9 : ∀ w ∈ wsX90, w ∈ wsX9_mishap := fun _ h => List.mem_cons_of_mem _ (List.mem_append_left _ (List.mem_append_left _ (List.mem_append_right _ h)))
set_option maxHeartbeats 4000000 in
set_option maxRecDepth 100000 in
theorem mX9_mishap (l : Launch) (D : va_G) (q : Nat → Nat) (cy : Nat → ClassId) (g : Nat → Nat → Option Nat) (sz : Nat) (a k n : Int32) : Met l yX9_mishap wsX9_mishap ({ frames := 2, cells := 0, slots := 0, locals := 43 }) (PW D (TYS cy) (FW q cy g 0) sz [.ref (q 0), .int a, .int k, .int n]) (QI D (TYS cy) (FW q cy g 0) (([] : va_W)) sz (fun r => r = sp_mishap a k n)) 0 0 (va_A (FW q cy g 0) sz) := by
  refine Met.ofW (cc := cX9_mishap) (maxL := 4) (ret := (some .boolean)) (by decide) rfl ?_
  intro p e s m args below meth c s₁ B hml hv
  obtain ⟨rfl, hsz, hP, hK, hD0⟩ := hv
  have hx := B.exec
  have hb := B.bytes
  have hr := B.returns
  have hts := atoms_spec (ws := wsX9_mishap) B.pre
  have hown : s.vm.findClass RX9 = some m.cls := findClass_of_methodNamed B.named
  have hlocks := B.notSynchronized
  subst hsz
  have hD := hD0.self (sz := s.heap.size)
  have hA : ∀ q9 : Nat, s.heap.size ≤ q9 → va_A (FW q cy g 0) s.heap.size q9 := fun q9 h => Or.inr h
  have hS : va_S (va_A (FW q cy g 0) s.heap.size) s.heap s.heap [] := va_S.rf
  have hl := lv_entry ([.ref (q 0), .int a, .int k, .int n]) (n := 4) (Nat.le_of_ble_eq_true rfl)
  rw [lg_entry_eq]
  generalize (lg_sl ([.ref (q 0), .int a, .int k, .int n]) ++ List.replicate (4 - (lg_sl ([.ref (q 0), .int a, .int k, .int n])).length) Slot.unset).toArray = ls at hl ⊢
  have hl : lv_has ls 4 [(0, .ref (q 0)), (1, .int a), (2, .int k), (3, .int n)] := hl
  refine lv_iload_n hx hb dX9_mishap_0 rfl (lv_at hl 1 rfl) ?_
  refine lv_aload_n hx hb dX9_mishap_1 rfl (lv_at hl 0 rfl) ?_
  refine va_get (D := D) (ci := 9) (v := .int 0) (C := RX9) (T := TX9) (N := 19) hx hb hts iX9_mishap_9 hown hK hP 0 rfl rfl 14 (by decide) (hts (.fieldLink RX9 78 "FondsRoom" "turn" "I") (by decide +kernel)) (fun _ h9 => h9) rfl dX9_mishap_2 ?_
  refine lv_icmp_le (tgt := 17) hx hb dX9_mishap_5 (by decide) (fun c1 => ?_) (fun c1 => ?_)
  · skip
    refine lv_iconst (v := 0) hx hb dX9_mishap_17 (by decide) ?_
    exact W.zret (v := 0) hx hb hr (rfl) (fun t ht hW => ⟨⟨0, (), rfl, (by simp [sp_mishap, c1]), by rw [ht]; exact P0, va_K.moved hW.alike hK, D0⟩, hS.F ht⟩) hS.2.2 dX9_mishap_18
  · skip
    refine lv_aload_n hx hb dX9_mishap_8 rfl (lv_at hl 0 rfl) ?_
    refine lv_iload_n hx hb dX9_mishap_9 rfl (lv_at hl 2 rfl) ?_
    refine lv_iload_n hx hb dX9_mishap_10 rfl (lv_at hl 3 rfl) ?_
    refine cvI (wr := []) (As := [.int k, .int n]) (rest := []) ⟨hx, hb, hml, hown, hts⟩ (mX9_isPerson l D q cy g 0 _ k n ) (cwV 2 hts gX9_mishap_X9_isPerson rfl rfl rfl (by decide +kernel) ⟨Nat.le_of_ble_eq_true rfl, Nat.le_of_ble_eq_true rfl⟩) hK hP hD hS hA [0, 1, 2, 3, 4, 5, 6, 7, 8, 9, 10, 11, 12, 13, 14, 15, 16, 17, 18, 19, 20, 21] [] rfl rfl (by decide) (by decide) (by decide) 0 9 rfl rfl rfl hl.1 rfl (Nat.le_of_ble_eq_true rfl) dX9_mishap_11 ⟨Nat.le_of_ble_eq_true rfl, Nat.le_of_ble_eq_true rfl⟩ (fun r2 H locs hr2 hP hD hS => ?_)
    have hP : va_P D vwCl (FW q cy g 0) H := hP
    have hD : va_D _ (FW q cy g 0) := hD
    obtain rfl : r2 = sp_person k n := hr2
    refine lv_if_ne (tgt := 19) hx hb dX9_mishap_14 (by decide) (fun c3 => ?_) (fun c3 => ?_)
    · skip
      refine lv_aload_n hx hb dX9_mishap_19 rfl (lv_at hl 0 rfl) ?_
      refine va_get (D := D) (ci := 9) (v := .ref (q 17)) (C := RX9) (T := TX9) (N := 19) hx hb hts iX9_mishap_9 hown hK hP 0 rfl rfl 8 (by decide) (hts (.fieldLink RX9 60 "FondsRoom" "mishaps" "LFondsRoom$Mishaps;") (by decide +kernel)) (fun _ h9 => h9) rfl dX9_mishap_20 ?_
      refine lv_iload_n hx hb dX9_mishap_23 rfl (lv_at hl 1 rfl) ?_
      refine lv_iload_n hx hb dX9_mishap_24 rfl (lv_at hl 2 rfl) ?_
      refine lv_iload_n hx hb dX9_mishap_25 rfl (lv_at hl 3 rfl) ?_
      refine cvI (wr := []) (As := [.int a, .int k, .int n]) (rest := []) ⟨hx, hb, hml, hown, hts⟩ (mX4_append l D q cy g _ a k n ) (cwV 3 hts gX9_mishap_X4_append rfl rfl rfl (by decide +kernel) ⟨Nat.le_of_ble_eq_true rfl, Nat.le_of_ble_eq_true rfl⟩) hK hP hD hS hA [0, 1, 2, 3, 4, 5, 6, 7, 8, 9, 10, 11, 12, 13, 14, 15, 16, 17, 18, 19, 20, 21] [] rfl rfl (by decide) (by decide) (by decide) 17 4 rfl rfl rfl hl.1 rfl (Nat.le_of_ble_eq_true rfl) dX9_mishap_26 ⟨Nat.le_of_ble_eq_true rfl, Nat.le_of_ble_eq_true rfl⟩ (fun r4 H locs hr4 hP hD hS => ?_)
      obtain rfl : r4 = 1 := hr4
      exact W.zret (v := 1) hx hb hr (rfl) (fun t ht hW => ⟨⟨1, (), rfl, (by simp [sp_mishap, c1, c3]), by rw [ht]; exact P0, va_K.moved hW.alike hK, D0⟩, hS.F ht⟩) hS.2.2 dX9_mishap_29
    · skip
      refine lv_iconst (v := 0) hx hb dX9_mishap_17 (by decide) ?_
      exact W.zret (v := 0) hx hb hr (rfl) (fun t ht hW => ⟨⟨0, (), rfl, (by simp [sp_mishap, c1, c3]), by rw [ht]; exact P0, va_K.moved hW.alike hK, D0⟩, hS.F ht⟩) hS.2.2 dX9_mishap_18

set_option maxHeartbeats 4000000 in
set_option maxRecDepth 100000 in
theorem mX9_about (l : Launch) (D : va_G) (q : Nat → Nat) (cy : Nat → ClassId) (g : Nat → Nat → Option Nat) (sz : Nat) (r1 k : Int32) : Met l yX9_about wsX9_about ({ frames := 1, cells := 0, slots := 0, locals := 21 }) (PW D (TYS cy) (FW q cy g 0) sz [.ref (q 0), .int r1, .int k]) (QI D (TYS cy) (FW q cy g 0) (FW q cy g 0) sz (fun r => r = (-1))) 0 0 (va_A (FW q cy g 0) sz) := by
  refine Met.ofW (cc := cX9_about) (maxL := 4) (ret := (some .int)) (by decide) rfl ?_
  intro p e s m args below meth c s₁ B hml hv
  obtain ⟨rfl, hsz, hP, hK, hD0⟩ := hv
  have hx := B.exec
  have hb := B.bytes
  have hr := B.returns
  have hts := atoms_spec (ws := wsX9_about) B.pre
  have hown : s.vm.findClass RX9 = some m.cls := findClass_of_methodNamed B.named
  have hlocks := B.notSynchronized
  subst hsz
  have hD := hD0.self (sz := s.heap.size)
  have hA : ∀ q9 : Nat, s.heap.size ≤ q9 → va_A (FW q cy g 0) s.heap.size q9 := fun q9 h => Or.inr h
  have hS : va_S (va_A (FW q cy g 0) s.heap.size) s.heap s.heap [] := va_S.rf
  have hl := lv_entry ([.ref (q 0), .int r1, .int k]) (n := 4) (Nat.le_of_ble_eq_true rfl)
  rw [lg_entry_eq]
  generalize (lg_sl ([.ref (q 0), .int r1, .int k]) ++ List.replicate (4 - (lg_sl ([.ref (q 0), .int r1, .int k])).length) Slot.unset).toArray = ls at hl ⊢
  have hl : lv_has ls 4 [(0, .ref (q 0)), (1, .int r1), (2, .int k)] := hl
  refine lv_aload_n hx hb dX9_about_0 rfl (lv_at hl 0 rfl) ?_
  refine lv_iload_n hx hb dX9_about_1 rfl (lv_at hl 1 rfl) ?_
  refine cvI (wr := []) (As := [.int r1]) (rest := []) ⟨hx, hb, hml, hown, hts⟩ (mX9_isReader l D q cy g 0 _ r1 ) (cwV 1 hts gX9_about_X9_isReader rfl rfl rfl (by decide +kernel) ⟨Nat.le_of_ble_eq_true rfl, Nat.le_of_ble_eq_true rfl⟩) hK hP hD hS hA [0, 1, 2, 3, 4, 5, 6, 7, 8, 9, 10, 11, 12, 13, 14, 15, 16, 17, 18, 19, 20, 21] [] rfl rfl (by decide) (by decide) (by decide) 0 9 rfl rfl rfl hl.1 rfl (Nat.le_of_ble_eq_true rfl) dX9_about_2 ⟨Nat.le_of_ble_eq_true rfl, Nat.le_of_ble_eq_true rfl⟩ (fun r1 H locs hr1 hP hD hS => ?_)
  have hP : va_P D vwCl (FW q cy g 0) H := hP
  have hD : va_D _ (FW q cy g 0) := hD
  obtain rfl : r1 = 0 := hr1
  refine lv_if_ne (tgt := 10) hx hb dX9_about_5 (by decide) (fun c9 => absurd (by decide) c9) (fun _ => ?_)
  refine lv_iconst (v := (-1)) hx hb dX9_about_8 (by decide) ?_
  exact W.iret (v := (-1)) hx hb hr (fun t ht hW => ⟨⟨(-1), (), rfl, (by first | rfl | trivial | decide), by rw [ht]; exact hP, va_K.moved hW.alike hK, hD⟩, hS.F ht⟩) hS.2.2 dX9_about_9

set_option maxHeartbeats 4000000 in
set_option maxRecDepth 100000 in
theorem mX9_held (l : Launch) (D : va_G) (q : Nat → Nat) (cy : Nat → ClassId) (g : Nat → Nat → Option Nat) (sz : Nat) (r1 k : Int32) : Met l yX9_held wsX9_held ({ frames := 1, cells := 0, slots := 0, locals := 21 }) (PW D (TYS cy) (FW q cy g 0) sz [.ref (q 0), .int r1, .int k]) (QI D (TYS cy) (FW q cy g 0) (FW q cy g 0) sz (fun r => r = (-1))) 0 0 (va_A (FW q cy g 0) sz) := by
  refine Met.ofW (cc := cX9_held) (maxL := 5) (ret := (some .int)) (by decide) rfl ?_
  intro p e s m args below meth c s₁ B hml hv
  obtain ⟨rfl, hsz, hP, hK, hD0⟩ := hv
  have hx := B.exec
  have hb := B.bytes
  have hr := B.returns
  have hts := atoms_spec (ws := wsX9_held) B.pre
  have hown : s.vm.findClass RX9 = some m.cls := findClass_of_methodNamed B.named
  have hlocks := B.notSynchronized
  subst hsz
  have hD := hD0.self (sz := s.heap.size)
  have hA : ∀ q9 : Nat, s.heap.size ≤ q9 → va_A (FW q cy g 0) s.heap.size q9 := fun q9 h => Or.inr h
  have hS : va_S (va_A (FW q cy g 0) s.heap.size) s.heap s.heap [] := va_S.rf
  have hl := lv_entry ([.ref (q 0), .int r1, .int k]) (n := 5) (Nat.le_of_ble_eq_true rfl)
  rw [lg_entry_eq]
  generalize (lg_sl ([.ref (q 0), .int r1, .int k]) ++ List.replicate (5 - (lg_sl ([.ref (q 0), .int r1, .int k])).length) Slot.unset).toArray = ls at hl ⊢
  have hl : lv_has ls 5 [(0, .ref (q 0)), (1, .int r1), (2, .int k)] := hl
  refine lv_aload_n hx hb dX9_held_0 rfl (lv_at hl 0 rfl) ?_
  refine lv_iload_n hx hb dX9_held_1 rfl (lv_at hl 1 rfl) ?_
  refine cvI (wr := []) (As := [.int r1]) (rest := []) ⟨hx, hb, hml, hown, hts⟩ (mX9_isReader l D q cy g 0 _ r1 ) (cwV 1 hts gX9_held_X9_isReader rfl rfl rfl (by decide +kernel) ⟨Nat.le_of_ble_eq_true rfl, Nat.le_of_ble_eq_true rfl⟩) hK hP hD hS hA [0, 1, 2, 3, 4, 5, 6, 7, 8, 9, 10, 11, 12, 13, 14, 15, 16, 17, 18, 19, 20, 21] [] rfl rfl (by decide) (by decide) (by decide) 0 9 rfl rfl rfl hl.1 rfl (Nat.le_of_ble_eq_true rfl) dX9_held_2 ⟨Nat.le_of_ble_eq_true rfl, Nat.le_of_ble_eq_true rfl⟩ (fun r1 H locs hr1 hP hD hS => ?_)
  have hP : va_P D vwCl (FW q cy g 0) H := hP
  have hD : va_D _ (FW q cy g 0) := hD
  obtain rfl : r1 = 0 := hr1
  refine lv_if_eq (tgt := 12) hx hb dX9_held_5 (by decide) (fun _ => ?_) (fun c9 => absurd (by decide) c9)
  refine lv_iconst (v := (-1)) hx hb dX9_held_12 (by decide) ?_
  exact W.iret (v := (-1)) hx hb hr (fun t ht hW => ⟨⟨(-1), (), rfl, (by first | rfl | trivial | decide), by rw [ht]; exact hP, va_K.moved hW.alike hK, hD⟩, hS.F ht⟩) hS.2.2 dX9_held_13

set_option maxHeartbeats 4000000 in
set_option maxRecDepth 100000 in
theorem mX9_refused (l : Launch) (D : va_G) (q : Nat → Nat) (cy : Nat → ClassId) (g : Nat → Nat → Option Nat) (sz : Nat) (r1 k : Int32) : Met l yX9_refused wsX9_refused ({ frames := 1, cells := 0, slots := 0, locals := 21 }) (PW D (TYS cy) (FW q cy g 0) sz [.ref (q 0), .int r1, .int k]) (QI D (TYS cy) (FW q cy g 0) (FW q cy g 0) sz (fun r => r = (-1))) 0 0 (va_A (FW q cy g 0) sz) := by
  refine Met.ofW (cc := cX9_refused) (maxL := 3) (ret := (some .int)) (by decide) rfl ?_
  intro p e s m args below meth c s₁ B hml hv
  obtain ⟨rfl, hsz, hP, hK, hD0⟩ := hv
  have hx := B.exec
  have hb := B.bytes
  have hr := B.returns
  have hts := atoms_spec (ws := wsX9_refused) B.pre
  have hown : s.vm.findClass RX9 = some m.cls := findClass_of_methodNamed B.named
  have hlocks := B.notSynchronized
  subst hsz
  have hD := hD0.self (sz := s.heap.size)
  have hA : ∀ q9 : Nat, s.heap.size ≤ q9 → va_A (FW q cy g 0) s.heap.size q9 := fun q9 h => Or.inr h
  have hS : va_S (va_A (FW q cy g 0) s.heap.size) s.heap s.heap [] := va_S.rf
  have hl := lv_entry ([.ref (q 0), .int r1, .int k]) (n := 3) (Nat.le_of_ble_eq_true rfl)
  rw [lg_entry_eq]
  generalize (lg_sl ([.ref (q 0), .int r1, .int k]) ++ List.replicate (3 - (lg_sl ([.ref (q 0), .int r1, .int k])).length) Slot.unset).toArray = ls at hl ⊢
  have hl : lv_has ls 3 [(0, .ref (q 0)), (1, .int r1), (2, .int k)] := hl
  refine lv_aload_n hx hb dX9_refused_0 rfl (lv_at hl 0 rfl) ?_
  refine lv_iload_n hx hb dX9_refused_1 rfl (lv_at hl 1 rfl) ?_
  refine cvI (wr := []) (As := [.int r1]) (rest := []) ⟨hx, hb, hml, hown, hts⟩ (mX9_isReader l D q cy g 0 _ r1 ) (cwV 1 hts gX9_refused_X9_isReader rfl rfl rfl (by decide +kernel) ⟨Nat.le_of_ble_eq_true rfl, Nat.le_of_ble_eq_true rfl⟩) hK hP hD hS hA [0, 1, 2, 3, 4, 5, 6, 7, 8, 9, 10, 11, 12, 13, 14, 15, 16, 17, 18, 19, 20, 21] [] rfl rfl (by decide) (by decide) (by decide) 0 9 rfl rfl rfl hl.1 rfl (Nat.le_of_ble_eq_true rfl) dX9_refused_2 ⟨Nat.le_of_ble_eq_true rfl, Nat.le_of_ble_eq_true rfl⟩ (fun r1 H locs hr1 hP hD hS => ?_)
  have hP : va_P D vwCl (FW q cy g 0) H := hP
  have hD : va_D _ (FW q cy g 0) := hD
  obtain rfl : r1 = 0 := hr1
  refine lv_if_ne (tgt := 10) hx hb dX9_refused_5 (by decide) (fun c9 => absurd (by decide) c9) (fun _ => ?_)
  refine lv_iconst (v := (-1)) hx hb dX9_refused_8 (by decide) ?_
  exact W.iret (v := (-1)) hx hb hr (fun t ht hW => ⟨⟨(-1), (), rfl, (by first | rfl | trivial | decide), by rw [ht]; exact hP, va_K.moved hW.alike hK, hD⟩, hS.F ht⟩) hS.2.2 dX9_refused_9

set_option maxHeartbeats 4000000 in
set_option maxRecDepth 100000 in
theorem mX9_place (l : Launch) (D : va_G) (q : Nat → Nat) (cy : Nat → ClassId) (g : Nat → Nat → Option Nat) (sz : Nat) (bx : Int32) : Met l yX9_place wsX9_place ({ frames := 1, cells := 0, slots := 0, locals := 21 }) (PW D (TYS cy) (FW q cy g 0) sz [.ref (q 0), .int bx]) (QI D (TYS cy) (FW q cy g 0) (FW q cy g 0) sz (fun r => r = (-1))) 0 0 (va_A (FW q cy g 0) sz) := by
  refine Met.ofW (cc := cX9_place) (maxL := 2) (ret := (some .int)) (by decide) rfl ?_
  intro p e s m args below meth c s₁ B hml hv
  obtain ⟨rfl, hsz, hP, hK, hD0⟩ := hv
  have hx := B.exec
  have hb := B.bytes
  have hr := B.returns
  have hts := atoms_spec (ws := wsX9_place) B.pre
  have hown : s.vm.findClass RX9 = some m.cls := findClass_of_methodNamed B.named
  have hlocks := B.notSynchronized
  subst hsz
  have hD := hD0.self (sz := s.heap.size)
  have hA : ∀ q9 : Nat, s.heap.size ≤ q9 → va_A (FW q cy g 0) s.heap.size q9 := fun q9 h => Or.inr h
  have hS : va_S (va_A (FW q cy g 0) s.heap.size) s.heap s.heap [] := va_S.rf
  have hl := lv_entry ([.ref (q 0), .int bx]) (n := 2) (Nat.le_of_ble_eq_true rfl)
  rw [lg_entry_eq]
  generalize (lg_sl ([.ref (q 0), .int bx]) ++ List.replicate (2 - (lg_sl ([.ref (q 0), .int bx])).length) Slot.unset).toArray = ls at hl ⊢
  have hl : lv_has ls 2 [(0, .ref (q 0)), (1, .int bx)] := hl
  refine lv_aload_n hx hb dX9_place_0 rfl (lv_at hl 0 rfl) ?_
  refine lv_iload_n hx hb dX9_place_1 rfl (lv_at hl 1 rfl) ?_
  refine cvI (wr := []) (As := [.int bx]) (rest := []) ⟨hx, hb, hml, hown, hts⟩ (mX9_isBox l D q cy g 0 _ bx ) (cwV 1 hts gX9_place_X9_isBox rfl rfl rfl (by decide +kernel) ⟨Nat.le_of_ble_eq_true rfl, Nat.le_of_ble_eq_true rfl⟩) hK hP hD hS hA [0, 1, 2, 3, 4, 5, 6, 7, 8, 9, 10, 11, 12, 13, 14, 15, 16, 17, 18, 19, 20, 21] [] rfl rfl (by decide) (by decide) (by decide) 0 9 rfl rfl rfl hl.1 rfl (Nat.le_of_ble_eq_true rfl) dX9_place_2 ⟨Nat.le_of_ble_eq_true rfl, Nat.le_of_ble_eq_true rfl⟩ (fun r1 H locs hr1 hP hD hS => ?_)
  have hP : va_P D vwCl (FW q cy g 0) H := hP
  have hD : va_D _ (FW q cy g 0) := hD
  obtain rfl : r1 = 0 := hr1
  refine lv_if_eq (tgt := 20) hx hb dX9_place_5 (by decide) (fun _ => ?_) (fun c9 => absurd (by decide) c9)
  refine lv_iconst (v := (-1)) hx hb dX9_place_20 (by decide) ?_
  exact W.iret (v := (-1)) hx hb hr (fun t ht hW => ⟨⟨(-1), (), rfl, (by first | rfl | trivial | decide), by rw [ht]; exact hP, va_K.moved hW.alike hK, hD⟩, hS.F ht⟩) hS.2.2 dX9_place_21

set_option maxHeartbeats 4000000 in
set_option maxRecDepth 100000 in
theorem mX9_whose (l : Launch) (D : va_G) (q : Nat → Nat) (cy : Nat → ClassId) (g : Nat → Nat → Option Nat) (sz : Nat) (bx : Int32) : Met l yX9_whose wsX9_whose ({ frames := 1, cells := 0, slots := 0, locals := 21 }) (PW D (TYS cy) (FW q cy g 0) sz [.ref (q 0), .int bx]) (QI D (TYS cy) (FW q cy g 0) (FW q cy g 0) sz (fun r => r = (-1))) 0 0 (va_A (FW q cy g 0) sz) := by
  refine Met.ofW (cc := cX9_whose) (maxL := 3) (ret := (some .int)) (by decide) rfl ?_
  intro p e s m args below meth c s₁ B hml hv
  obtain ⟨rfl, hsz, hP, hK, hD0⟩ := hv
  have hx := B.exec
  have hb := B.bytes
  have hr := B.returns
  have hts := atoms_spec (ws := wsX9_whose) B.pre
  have hown : s.vm.findClass RX9 = some m.cls := findClass_of_methodNamed B.named
  have hlocks := B.notSynchronized
  subst hsz
  have hD := hD0.self (sz := s.heap.size)
  have hA : ∀ q9 : Nat, s.heap.size ≤ q9 → va_A (FW q cy g 0) s.heap.size q9 := fun q9 h => Or.inr h
  have hS : va_S (va_A (FW q cy g 0) s.heap.size) s.heap s.heap [] := va_S.rf
  have hl := lv_entry ([.ref (q 0), .int bx]) (n := 3) (Nat.le_of_ble_eq_true rfl)
  rw [lg_entry_eq]
  generalize (lg_sl ([.ref (q 0), .int bx]) ++ List.replicate (3 - (lg_sl ([.ref (q 0), .int bx])).length) Slot.unset).toArray = ls at hl ⊢
  have hl : lv_has ls 3 [(0, .ref (q 0)), (1, .int bx)] := hl
  refine lv_aload_n hx hb dX9_whose_0 rfl (lv_at hl 0 rfl) ?_
  refine lv_iload_n hx hb dX9_whose_1 rfl (lv_at hl 1 rfl) ?_
  refine cvI (wr := []) (As := [.int bx]) (rest := []) ⟨hx, hb, hml, hown, hts⟩ (mX9_isBox l D q cy g 0 _ bx ) (cwV 1 hts gX9_whose_X9_isBox rfl rfl rfl (by decide +kernel) ⟨Nat.le_of_ble_eq_true rfl, Nat.le_of_ble_eq_true rfl⟩) hK hP hD hS hA [0, 1, 2, 3, 4, 5, 6, 7, 8, 9, 10, 11, 12, 13, 14, 15, 16, 17, 18, 19, 20, 21] [] rfl rfl (by decide) (by decide) (by decide) 0 9 rfl rfl rfl hl.1 rfl (Nat.le_of_ble_eq_true rfl) dX9_whose_2 ⟨Nat.le_of_ble_eq_true rfl, Nat.le_of_ble_eq_true rfl⟩ (fun r1 H locs hr1 hP hD hS => ?_)
  have hP : va_P D vwCl (FW q cy g 0) H := hP
  have hD : va_D _ (FW q cy g 0) := hD
  obtain rfl : r1 = 0 := hr1
  refine lv_if_ne (tgt := 10) hx hb dX9_whose_5 (by decide) (fun c9 => absurd (by decide) c9) (fun _ => ?_)
  refine lv_iconst (v := (-1)) hx hb dX9_whose_8 (by decide) ?_
  exact W.iret (v := (-1)) hx hb hr (fun t ht hW => ⟨⟨(-1), (), rfl, (by first | rfl | trivial | decide), by rw [ht]; exact hP, va_K.moved hW.alike hK, hD⟩, hS.F ht⟩) hS.2.2 dX9_whose_9

theorem iX9_seated_9 : ∀ w ∈ wsX90, w ∈ wsX9_seated := fun _ h => List.mem_cons_of_mem _ (List.mem_append_left _ (List.mem_append_left _ (List.mem_append_right _ h)))
set_option maxHeartbeats 4000000 in
set_option maxRecDepth 100000 in
theorem mX9_seated (l : Launch) (D : va_G) (q : Nat → Nat) (cy : Nat → ClassId) (g : Nat → Nat → Option Nat) (sz : Nat) (d : Int32) : Met l yX9_seated wsX9_seated ({ frames := 1, cells := 0, slots := 0, locals := 22 }) (PW D (TYS cy) (FW q cy g 0) sz [.ref (q 0), .int d]) (QI D (TYS cy) (FW q cy g 0) (FW q cy g 0) sz (fun r => r = (-1))) 0 0 (va_A (FW q cy g 0) sz) := by
  refine Met.ofW (cc := cX9_seated) (maxL := 2) (ret := (some .int)) (by decide) rfl ?_
  intro p e s m args below meth c s₁ B hml hv
  obtain ⟨rfl, hsz, hP, hK, hD0⟩ := hv
  have hx := B.exec
  have hb := B.bytes
  have hr := B.returns
  have hts := atoms_spec (ws := wsX9_seated) B.pre
  have hown : s.vm.findClass RX9 = some m.cls := findClass_of_methodNamed B.named
  have hlocks := B.notSynchronized
  subst hsz
  have hD := hD0.self (sz := s.heap.size)
  have hA : ∀ q9 : Nat, s.heap.size ≤ q9 → va_A (FW q cy g 0) s.heap.size q9 := fun q9 h => Or.inr h
  have hS : va_S (va_A (FW q cy g 0) s.heap.size) s.heap s.heap [] := va_S.rf
  have hl := lv_entry ([.ref (q 0), .int d]) (n := 2) (Nat.le_of_ble_eq_true rfl)
  rw [lg_entry_eq]
  generalize (lg_sl ([.ref (q 0), .int d]) ++ List.replicate (2 - (lg_sl ([.ref (q 0), .int d])).length) Slot.unset).toArray = ls at hl ⊢
  have hl : lv_has ls 2 [(0, .ref (q 0)), (1, .int d)] := hl
  refine lv_iload_n hx hb dX9_seated_0 rfl (lv_at hl 1 rfl) ?_
  refine lv_iconst (v := 0) hx hb dX9_seated_1 (by decide) ?_
  refine lv_aload_n hx hb dX9_seated_2 rfl (lv_at hl 0 rfl) ?_
  refine va_get (D := D) (ci := 9) (v := .int 0) (C := RX9) (T := TX9) (N := 19) hx hb hts iX9_seated_9 hown hK hP 0 rfl rfl 10 (by decide) (hts (.fieldLink RX9 81 "FondsRoom" "deskCount" "I") (by decide +kernel)) (fun _ h9 => h9) rfl dX9_seated_3 ?_
  refine lv_iconst (v := 1) hx hb dX9_seated_6 (by decide) ?_
  refine lv_isub hx hb dX9_seated_7 ?_
  refine lv_topi (fun y1 ey1 => ?_)
  obtain rfl : y1 = (-1) := ey1.trans (by decide)
  refine csI (As := [.int d, .int 0, .int (-1)]) (rest := []) ⟨hx, hb, hml, hown, hts⟩ (mX9_isWithin l D _ d 0 (-1)) (va_cwS 3 hts gX9_seated_X9_isWithin rfl rfl rfl (by decide +kernel) ⟨Nat.le_of_ble_eq_true rfl, Nat.le_of_ble_eq_true rfl⟩) hK hP hS hA rfl hl.1 rfl (Nat.le_of_ble_eq_true rfl) dX9_seated_8 ⟨Nat.le_of_ble_eq_true rfl, Nat.le_of_ble_eq_true rfl⟩ (fun r2 H locs hr2 hP hS => ?_)
  obtain rfl : r2 = sp_in d 0 (-1) := hr2
  refine lv_if_eq (tgt := 29) hx hb dX9_seated_11 (by decide) (fun _ => ?_) (fun c9 => absurd (sp_in_m1 _) c9)
  refine lv_iconst (v := (-1)) hx hb dX9_seated_29 (by decide) ?_
  exact W.iret (v := (-1)) hx hb hr (fun t ht hW => ⟨⟨(-1), (), rfl, (by first | rfl | trivial | decide), by rw [ht]; exact hP, va_K.moved hW.alike hK, hD⟩, hS.F ht⟩) hS.2.2 dX9_seated_30
