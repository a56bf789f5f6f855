theorem iX9_worker_7 : ∀ w ∈ wsX70, w ∈ wsX9_worker := fun _ h => List.mem_cons_of_mem _ (List.mem_append_left _ (List.mem_append_left _ (List.mem_append_right _ h)))
theorem iX9_worker_8 : ∀ w ∈ wsX80, w ∈ wsX9_worker := fun _ h => List.mem_cons_of_mem _ (List.mem_append_left _ (List.mem_append_right _ h))
theorem iX9_worker_9 : ∀ w ∈ wsX90, w ∈ wsX9_worker := fun _ h => List.mem_cons_of_mem _ (List.mem_append_left _ (List.mem_append_left _ (List.mem_append_left _ (List.mem_append_right _ h))))
set_option maxHeartbeats 4000000 in
set_option maxRecDepth 100000 in
theorem mX9_worker_10 (l : Launch) (D : va_G) (q : Nat → Nat) (cy : Nat → ClassId) (g : Nat → Nat → Option Nat) (sz : Nat) (x : Int32) : Met l yX9_worker wsX9_worker ({ frames := 2, cells := 0, slots := 0, locals := 43 }) (PW D (TYS cy) (FW q cy g 0) sz [.ref (q 0), .int 1, .int 0, .int x]) (QI D (TYS cy) (FW q cy g 0) (FW q cy g 0) sz (fun r => r = sp_worker x)) 0 0 (va_A (FW q cy g 0) sz) := by
  refine Met.ofW (cc := cX9_worker) (maxL := 5) (ret := (some .int)) (by decide) rfl ?_
  intro p e s m args below meth c s₁ B hml hv
  obtain ⟨rfl, hsz, hP, hK, hD0⟩ := hv
  have hx := B.exec
  have hb := B.bytes
  have hr := B.returns
  have hts := atoms_spec (ws := wsX9_worker) B.pre
  have hown : s.vm.findClass RX9 = some m.cls := findClass_of_methodNamed B.named
  have hlocks := B.notSynchronized
  subst hsz
  have hD := hD0.self (sz := s.heap.size)
  have hA : ∀ q9 : Nat, s.heap.size ≤ q9 → va_A (FW q cy g 0) s.heap.size q9 := fun q9 h => Or.inr h
  have hS : va_S (va_A (FW q cy g 0) s.heap.size) s.heap s.heap [] := va_S.rf
  have hl := lv_entry ([.ref (q 0), .int 1, .int 0, .int x]) (n := 5) (Nat.le_of_ble_eq_true rfl)
  rw [lg_entry_eq]
  generalize (lg_sl ([.ref (q 0), .int 1, .int 0, .int x]) ++ List.replicate (5 - (lg_sl ([.ref (q 0), .int 1, .int 0, .int x])).length) Slot.unset).toArray = ls at hl ⊢
  have hl : lv_has ls 5 [(0, .ref (q 0)), (1, .int 1), (2, .int 0), (3, .int x)] := hl
  refine lv_iload_n hx hb dX9_worker_0 rfl (lv_at hl 1 rfl) ?_
  refine lv_if_eq (tgt := 13) hx hb dX9_worker_1 (by decide) (fun c9 => absurd c9 (by decide)) (fun _ => ?_)
  refine lv_aload_n hx hb dX9_worker_4 rfl (lv_at hl 0 rfl) ?_
  refine lv_iload_n hx hb dX9_worker_5 rfl (lv_at hl 1 rfl) ?_
  refine lv_iload_n hx hb dX9_worker_6 rfl (lv_at hl 2 rfl) ?_
  refine cvI (wr := []) (As := [.int 1, .int 0]) (rest := []) ⟨hx, hb, hml, hown, hts⟩ (mX9_isPerson l D q cy g 0 _ 1 0 ) (cwV 2 hts gX9_worker_X9_isPerson rfl rfl rfl (by decide +kernel) ⟨Nat.le_of_ble_eq_true rfl, Nat.le_of_ble_eq_true rfl⟩) hK hP hD hS hA [0, 1, 2, 3, 4, 5, 6, 7, 8, 9, 10, 11, 12, 13, 14, 15, 16, 17, 18, 19, 20, 21] [] rfl rfl (by decide) (by decide) (by decide) 0 9 rfl rfl rfl hl.1 rfl (Nat.le_of_ble_eq_true rfl) dX9_worker_7 ⟨Nat.le_of_ble_eq_true rfl, Nat.le_of_ble_eq_true rfl⟩ (fun r1 H locs hr1 hP hD hS => ?_)
  have hP : va_P D vwCl (FW q cy g 0) H := hP
  have hD : va_D _ (FW q cy g 0) := hD
  obtain rfl : r1 = 1 := hr1.trans (by decide)
  refine lv_if_ne (tgt := 15) hx hb dX9_worker_10 (by decide) (fun _ => ?_) (fun c9 => absurd c9 (by decide))
  refine lv_iload_n hx hb dX9_worker_15 rfl (lv_at hl 1 rfl) ?_
  refine lv_iconst (v := 1) hx hb dX9_worker_16 (by decide) ?_
  refine lv_icmp_ne (tgt := 32) hx hb dX9_worker_17 (by decide) (fun c9 => absurd (by decide) c9) (fun _ => ?_)
  refine lv_aload_n hx hb dX9_worker_20 rfl (lv_at hl 0 rfl) ?_
  refine va_get (D := D) (ci := 9) (v := .ref (q 7)) (C := RX9) (T := TX9) (N := 19) hx hb hts iX9_worker_9 hown hK hP 0 rfl rfl 3 (by decide) (hts (.fieldLink RX9 37 "FondsRoom" "fetchers" "LFondsRoom$Staff;") (by decide +kernel)) (fun _ h9 => h9) rfl dX9_worker_21 ?_
  refine va_get (D := D) (ci := 7) (v := .ref (q 8)) (C := RX7) (T := TX7) (N := 2) hx hb hts iX9_worker_7 hown hK hP 7 rfl rfl 0 (by decide) (hts (.fieldLink RX9 216 "FondsRoom$Staff" "workers" "[LFondsRoom$Worker;") (by decide +kernel)) (fun _ h9 => h9) rfl dX9_worker_24 ?_
  refine lv_iload_n hx hb dX9_worker_27 rfl (lv_at hl 2 rfl) ?_
  refine va_aldq hx hb hK hP 8 5 rfl rfl (vp_in_iff.mpr (by decide)) dX9_worker_28 ?_
  refine W.eq (g2 := F0 m 29 ls [.ref (q 9)]) rfl ?_
  refine lv_goto (tgt := 41) hx hb dX9_worker_29 (by decide) ?_
  refine lv_astore (lv' := [(4, .ref (q 9)), (0, .ref (q 0)), (1, .int 1), (2, .int 0), (3, .int x)]) hx hb dX9_worker_41 hl (by decide) rfl (fun ls hl => ?_)
  refine lv_iload_n hx hb dX9_worker_43 rfl (lv_at hl 4 rfl) ?_
  refine lv_if_ne (tgt := 68) hx hb dX9_worker_44 (by decide) (fun c2 => ?_) (fun c2 => ?_)
  · skip
    refine lv_iload_n hx hb dX9_worker_68 rfl (lv_at hl 4 rfl) ?_
    refine lv_iconst (v := 1) hx hb dX9_worker_69 (by decide) ?_
    refine lv_icmp_ne (tgt := 81) hx hb dX9_worker_70 (by decide) (fun c3 => ?_) (fun c3 => ?_)
    · skip
      refine lv_iconst (v := (-1)) hx hb dX9_worker_81 (by decide) ?_
      exact W.iret (v := (-1)) hx hb hr (fun t ht hW => ⟨⟨(-1), (), rfl, (by simp [sp_worker, c2, c3]), by rw [ht]; exact hP, va_K.moved hW.alike hK, hD⟩, hS.F ht⟩) hS.2.2 dX9_worker_82
    · skip
      refine lv_aload hx hb dX9_worker_73 (lv_at hl 0 rfl) ?_
      refine va_get (D := D) (ci := 8) (v := .int 0) (C := RX8) (T := TX8) (N := 3) hx hb hts iX9_worker_8 hown hK hP 9 rfl rfl 2 (by decide) (hts (.fieldLink RX9 243 "FondsRoom$Worker" "left" "I") (by decide +kernel)) (fun _ h9 => h9) rfl dX9_worker_75 ?_
      refine lv_goto (tgt := 82) hx hb dX9_worker_78 (by decide) ?_
      exact W.iret (v := 0) hx hb hr (fun t ht hW => ⟨⟨0, (), rfl, (by simp [sp_worker, c2, c3]), by rw [ht]; exact hP, va_K.moved hW.alike hK, hD⟩, hS.F ht⟩) hS.2.2 dX9_worker_82
  · skip
    refine lv_aload hx hb dX9_worker_47 (lv_at hl 0 rfl) ?_
    refine va_get (D := D) (ci := 8) (v := .null) (C := RX8) (T := TX8) (N := 3) hx hb hts iX9_worker_8 hown hK hP 9 rfl rfl 0 (by decide) (hts (.fieldLink RX9 227 "FondsRoom$Worker" "box" "LFondsRoom$Box;") (by decide +kernel)) (fun _ h9 => h9) rfl dX9_worker_49 ?_
    refine lv_ifnonnullN hx hb dX9_worker_52 ?_
    refine lv_iconst (v := (-1)) hx hb dX9_worker_55 (by decide) ?_
    refine lv_goto (tgt := 67) hx hb dX9_worker_56 (by decide) ?_
    exact W.iret (v := (-1)) hx hb hr (fun t ht hW => ⟨⟨(-1), (), rfl, (by simp [sp_worker, c2]), by rw [ht]; exact hP, va_K.moved hW.alike hK, hD⟩, hS.F ht⟩) hS.2.2 dX9_worker_67

set_option maxHeartbeats 4000000 in
set_option maxRecDepth 100000 in
theorem mX9_worker_11 (l : Launch) (D : va_G) (q : Nat → Nat) (cy : Nat → ClassId) (g : Nat → Nat → Option Nat) (sz : Nat) (x : Int32) : Met l yX9_worker wsX9_worker ({ frames := 2, cells := 0, slots := 0, locals := 43 }) (PW D (TYS cy) (FW q cy g 0) sz [.ref (q 0), .int 1, .int 1, .int x]) (QI D (TYS cy) (FW q cy g 0) (FW q cy g 0) sz (fun r => r = sp_worker x)) 0 0 (va_A (FW q cy g 0) sz) := by
  refine Met.ofW (cc := cX9_worker) (maxL := 5) (ret := (some .int)) (by decide) rfl ?_
  intro p e s m args below meth c s₁ B hml hv
  obtain ⟨rfl, hsz, hP, hK, hD0⟩ := hv
  have hx := B.exec
  have hb := B.bytes
  have hr := B.returns
  have hts := atoms_spec (ws := wsX9_worker) B.pre
  have hown : s.vm.findClass RX9 = some m.cls := findClass_of_methodNamed B.named
  have hlocks := B.notSynchronized
  subst hsz
  have hD := hD0.self (sz := s.heap.size)
  have hA : ∀ q9 : Nat, s.heap.size ≤ q9 → va_A (FW q cy g 0) s.heap.size q9 := fun q9 h => Or.inr h
  have hS : va_S (va_A (FW q cy g 0) s.heap.size) s.heap s.heap [] := va_S.rf
  have hl := lv_entry ([.ref (q 0), .int 1, .int 1, .int x]) (n := 5) (Nat.le_of_ble_eq_true rfl)
  rw [lg_entry_eq]
  generalize (lg_sl ([.ref (q 0), .int 1, .int 1, .int x]) ++ List.replicate (5 - (lg_sl ([.ref (q 0), .int 1, .int 1, .int x])).length) Slot.unset).toArray = ls at hl ⊢
  have hl : lv_has ls 5 [(0, .ref (q 0)), (1, .int 1), (2, .int 1), (3, .int x)] := hl
  refine lv_iload_n hx hb dX9_worker_0 rfl (lv_at hl 1 rfl) ?_
  refine lv_if_eq (tgt := 13) hx hb dX9_worker_1 (by decide) (fun c9 => absurd c9 (by decide)) (fun _ => ?_)
  refine lv_aload_n hx hb dX9_worker_4 rfl (lv_at hl 0 rfl) ?_
  refine lv_iload_n hx hb dX9_worker_5 rfl (lv_at hl 1 rfl) ?_
  refine lv_iload_n hx hb dX9_worker_6 rfl (lv_at hl 2 rfl) ?_
  refine cvI (wr := []) (As := [.int 1, .int 1]) (rest := []) ⟨hx, hb, hml, hown, hts⟩ (mX9_isPerson l D q cy g 0 _ 1 1 ) (cwV 2 hts gX9_worker_X9_isPerson rfl rfl rfl (by decide +kernel) ⟨Nat.le_of_ble_eq_true rfl, Nat.le_of_ble_eq_true rfl⟩) hK hP hD hS hA [0, 1, 2, 3, 4, 5, 6, 7, 8, 9, 10, 11, 12, 13, 14, 15, 16, 17, 18, 19, 20, 21] [] rfl rfl (by decide) (by decide) (by decide) 0 9 rfl rfl rfl hl.1 rfl (Nat.le_of_ble_eq_true rfl) dX9_worker_7 ⟨Nat.le_of_ble_eq_true rfl, Nat.le_of_ble_eq_true rfl⟩ (fun r1 H locs hr1 hP hD hS => ?_)
  have hP : va_P D vwCl (FW q cy g 0) H := hP
  have hD : va_D _ (FW q cy g 0) := hD
  obtain rfl : r1 = 1 := hr1.trans (by decide)
  refine lv_if_ne (tgt := 15) hx hb dX9_worker_10 (by decide) (fun _ => ?_) (fun c9 => absurd c9 (by decide))
  refine lv_iload_n hx hb dX9_worker_15 rfl (lv_at hl 1 rfl) ?_
  refine lv_iconst (v := 1) hx hb dX9_worker_16 (by decide) ?_
  refine lv_icmp_ne (tgt := 32) hx hb dX9_worker_17 (by decide) (fun c9 => absurd (by decide) c9) (fun _ => ?_)
  refine lv_aload_n hx hb dX9_worker_20 rfl (lv_at hl 0 rfl) ?_
  refine va_get (D := D) (ci := 9) (v := .ref (q 7)) (C := RX9) (T := TX9) (N := 19) hx hb hts iX9_worker_9 hown hK hP 0 rfl rfl 3 (by decide) (hts (.fieldLink RX9 37 "FondsRoom" "fetchers" "LFondsRoom$Staff;") (by decide +kernel)) (fun _ h9 => h9) rfl dX9_worker_21 ?_
  refine va_get (D := D) (ci := 7) (v := .ref (q 8)) (C := RX7) (T := TX7) (N := 2) hx hb hts iX9_worker_7 hown hK hP 7 rfl rfl 0 (by decide) (hts (.fieldLink RX9 216 "FondsRoom$Staff" "workers" "[LFondsRoom$Worker;") (by decide +kernel)) (fun _ h9 => h9) rfl dX9_worker_24 ?_
  refine lv_iload_n hx hb dX9_worker_27 rfl (lv_at hl 2 rfl) ?_
  refine va_aldq hx hb hK hP 8 5 rfl rfl (vp_in_iff.mpr (by decide)) dX9_worker_28 ?_
  refine W.eq (g2 := F0 m 29 ls [.ref (q 10)]) rfl ?_
  refine lv_goto (tgt := 41) hx hb dX9_worker_29 (by decide) ?_
  refine lv_astore (lv' := [(4, .ref (q 10)), (0, .ref (q 0)), (1, .int 1), (2, .int 1), (3, .int x)]) hx hb dX9_worker_41 hl (by decide) rfl (fun ls hl => ?_)
  refine lv_iload_n hx hb dX9_worker_43 rfl (lv_at hl 4 rfl) ?_
  refine lv_if_ne (tgt := 68) hx hb dX9_worker_44 (by decide) (fun c2 => ?_) (fun c2 => ?_)
  · skip
    refine lv_iload_n hx hb dX9_worker_68 rfl (lv_at hl 4 rfl) ?_
    refine lv_iconst (v := 1) hx hb dX9_worker_69 (by decide) ?_
    refine lv_icmp_ne (tgt := 81) hx hb dX9_worker_70 (by decide) (fun c3 => ?_) (fun c3 => ?_)
    · skip
      refine lv_iconst (v := (-1)) hx hb dX9_worker_81 (by decide) ?_
      exact W.iret (v := (-1)) hx hb hr (fun t ht hW => ⟨⟨(-1), (), rfl, (by simp [sp_worker, c2, c3]), by rw [ht]; exact hP, va_K.moved hW.alike hK, hD⟩, hS.F ht⟩) hS.2.2 dX9_worker_82
    · skip
      refine lv_aload hx hb dX9_worker_73 (lv_at hl 0 rfl) ?_
      refine va_get (D := D) (ci := 8) (v := .int 0) (C := RX8) (T := TX8) (N := 3) hx hb hts iX9_worker_8 hown hK hP 10 rfl rfl 2 (by decide) (hts (.fieldLink RX9 243 "FondsRoom$Worker" "left" "I") (by decide +kernel)) (fun _ h9 => h9) rfl dX9_worker_75 ?_
      refine lv_goto (tgt := 82) hx hb dX9_worker_78 (by decide) ?_
      exact W.iret (v := 0) hx hb hr (fun t ht hW => ⟨⟨0, (), rfl, (by simp [sp_worker, c2, c3]), by rw [ht]; exact hP, va_K.moved hW.alike hK, hD⟩, hS.F ht⟩) hS.2.2 dX9_worker_82
  · skip
    refine lv_aload hx hb dX9_worker_47 (lv_at hl 0 rfl) ?_
    refine va_get (D := D) (ci := 8) (v := .null) (C := RX8) (T := TX8) (N := 3) hx hb hts iX9_worker_8 hown hK hP 10 rfl rfl 0 (by decide) (hts (.fieldLink RX9 227 "FondsRoom$Worker" "box" "LFondsRoom$Box;") (by decide +kernel)) (fun _ h9 => h9) rfl dX9_worker_49 ?_
    refine lv_ifnonnullN hx hb dX9_worker_52 ?_
    refine lv_iconst (v := (-1)) hx hb dX9_worker_55 (by decide) ?_
    refine lv_goto (tgt := 67) hx hb dX9_worker_56 (by decide) ?_
    exact W.iret (v := (-1)) hx hb hr (fun t ht hW => ⟨⟨(-1), (), rfl, (by simp [sp_worker, c2]), by rw [ht]; exact hP, va_K.moved hW.alike hK, hD⟩, hS.F ht⟩) hS.2.2 dX9_worker_67

set_option maxHeartbeats 4000000 in
set_option maxRecDepth 100000 in
theorem mX9_worker_20 (l : Launch) (D : va_G) (q : Nat → Nat) (cy : Nat → ClassId) (g : Nat → Nat → Option Nat) (sz : Nat) (x : Int32) : Met l yX9_worker wsX9_worker ({ frames := 2, cells := 0, slots := 0, locals := 43 }) (PW D (TYS cy) (FW q cy g 0) sz [.ref (q 0), .int 2, .int 0, .int x]) (QI D (TYS cy) (FW q cy g 0) (FW q cy g 0) sz (fun r => r = sp_worker x)) 0 0 (va_A (FW q cy g 0) sz) := by
  refine Met.ofW (cc := cX9_worker) (maxL := 5) (ret := (some .int)) (by decide) rfl ?_
  intro p e s m args below meth c s₁ B hml hv
  obtain ⟨rfl, hsz, hP, hK, hD0⟩ := hv
  have hx := B.exec
  have hb := B.bytes
  have hr := B.returns
  have hts := atoms_spec (ws := wsX9_worker) B.pre
  have hown : s.vm.findClass RX9 = some m.cls := findClass_of_methodNamed B.named
  have hlocks := B.notSynchronized
  subst hsz
  have hD := hD0.self (sz := s.heap.size)
  have hA : ∀ q9 : Nat, s.heap.size ≤ q9 → va_A (FW q cy g 0) s.heap.size q9 := fun q9 h => Or.inr h
  have hS : va_S (va_A (FW q cy g 0) s.heap.size) s.heap s.heap [] := va_S.rf
  have hl := lv_entry ([.ref (q 0), .int 2, .int 0, .int x]) (n := 5) (Nat.le_of_ble_eq_true rfl)
  rw [lg_entry_eq]
  generalize (lg_sl ([.ref (q 0), .int 2, .int 0, .int x]) ++ List.replicate (5 - (lg_sl ([.ref (q 0), .int 2, .int 0, .int x])).length) Slot.unset).toArray = ls at hl ⊢
  have hl : lv_has ls 5 [(0, .ref (q 0)), (1, .int 2), (2, .int 0), (3, .int x)] := hl
  refine lv_iload_n hx hb dX9_worker_0 rfl (lv_at hl 1 rfl) ?_
  refine lv_if_eq (tgt := 13) hx hb dX9_worker_1 (by decide) (fun c9 => absurd c9 (by decide)) (fun _ => ?_)
  refine lv_aload_n hx hb dX9_worker_4 rfl (lv_at hl 0 rfl) ?_
  refine lv_iload_n hx hb dX9_worker_5 rfl (lv_at hl 1 rfl) ?_
  refine lv_iload_n hx hb dX9_worker_6 rfl (lv_at hl 2 rfl) ?_
  refine cvI (wr := []) (As := [.int 2, .int 0]) (rest := []) ⟨hx, hb, hml, hown, hts⟩ (mX9_isPerson l D q cy g 0 _ 2 0 ) (cwV 2 hts gX9_worker_X9_isPerson rfl rfl rfl (by decide +kernel) ⟨Nat.le_of_ble_eq_true rfl, Nat.le_of_ble_eq_true rfl⟩) hK hP hD hS hA [0, 1, 2, 3, 4, 5, 6, 7, 8, 9, 10, 11, 12, 13, 14, 15, 16, 17, 18, 19, 20, 21] [] rfl rfl (by decide) (by decide) (by decide) 0 9 rfl rfl rfl hl.1 rfl (Nat.le_of_ble_eq_true rfl) dX9_worker_7 ⟨Nat.le_of_ble_eq_true rfl, Nat.le_of_ble_eq_true rfl⟩ (fun r1 H locs hr1 hP hD hS => ?_)
  have hP : va_P D vwCl (FW q cy g 0) H := hP
  have hD : va_D _ (FW q cy g 0) := hD
  obtain rfl : r1 = 1 := hr1.trans (by decide)
  refine lv_if_ne (tgt := 15) hx hb dX9_worker_10 (by decide) (fun _ => ?_) (fun c9 => absurd c9 (by decide))
  refine lv_iload_n hx hb dX9_worker_15 rfl (lv_at hl 1 rfl) ?_
  refine lv_iconst (v := 1) hx hb dX9_worker_16 (by decide) ?_
  refine lv_icmp_ne (tgt := 32) hx hb dX9_worker_17 (by decide) (fun _ => ?_) (fun c9 => absurd c9 (by decide))
  refine lv_aload_n hx hb dX9_worker_32 rfl (lv_at hl 0 rfl) ?_
  refine va_get (D := D) (ci := 9) (v := .ref (q 11)) (C := RX9) (T := TX9) (N := 19) hx hb hts iX9_worker_9 hown hK hP 0 rfl rfl 4 (by decide) (hts (.fieldLink RX9 41 "FondsRoom" "copyists" "LFondsRoom$Staff;") (by decide +kernel)) (fun _ h9 => h9) rfl dX9_worker_33 ?_
  refine va_get (D := D) (ci := 7) (v := .ref (q 12)) (C := RX7) (T := TX7) (N := 2) hx hb hts iX9_worker_7 hown hK hP 11 rfl rfl 0 (by decide) (hts (.fieldLink RX9 216 "FondsRoom$Staff" "workers" "[LFondsRoom$Worker;") (by decide +kernel)) (fun _ h9 => h9) rfl dX9_worker_36 ?_
  refine lv_iload_n hx hb dX9_worker_39 rfl (lv_at hl 2 rfl) ?_
  refine va_aldq hx hb hK hP 12 5 rfl rfl (vp_in_iff.mpr (by decide)) dX9_worker_40 ?_
  refine W.eq (g2 := F0 m 41 ls [.ref (q 13)]) rfl ?_
  refine lv_astore (lv' := [(4, .ref (q 13)), (0, .ref (q 0)), (1, .int 2), (2, .int 0), (3, .int x)]) hx hb dX9_worker_41 hl (by decide) rfl (fun ls hl => ?_)
  refine lv_iload_n hx hb dX9_worker_43 rfl (lv_at hl 4 rfl) ?_
  refine lv_if_ne (tgt := 68) hx hb dX9_worker_44 (by decide) (fun c2 => ?_) (fun c2 => ?_)
  · skip
    refine lv_iload_n hx hb dX9_worker_68 rfl (lv_at hl 4 rfl) ?_
    refine lv_iconst (v := 1) hx hb dX9_worker_69 (by decide) ?_
    refine lv_icmp_ne (tgt := 81) hx hb dX9_worker_70 (by decide) (fun c3 => ?_) (fun c3 => ?_)
    · skip
      refine lv_iconst (v := (-1)) hx hb dX9_worker_81 (by decide) ?_
      exact W.iret (v := (-1)) hx hb hr (fun t ht hW => ⟨⟨(-1), (), rfl, (by simp [sp_worker, c2, c3]), by rw [ht]; exact hP, va_K.moved hW.alike hK, hD⟩, hS.F ht⟩) hS.2.2 dX9_worker_82
    · skip
      refine lv_aload hx hb dX9_worker_73 (lv_at hl 0 rfl) ?_
      refine va_get (D := D) (ci := 8) (v := .int 0) (C := RX8) (T := TX8) (N := 3) hx hb hts iX9_worker_8 hown hK hP 13 rfl rfl 2 (by decide) (hts (.fieldLink RX9 243 "FondsRoom$Worker" "left" "I") (by decide +kernel)) (fun _ h9 => h9) rfl dX9_worker_75 ?_
      refine lv_goto (tgt := 82) hx hb dX9_worker_78 (by decide) ?_
      exact W.iret (v := 0) hx hb hr (fun t ht hW => ⟨⟨0, (), rfl, (by simp [sp_worker, c2, c3]), by rw [ht]; exact hP, va_K.moved hW.alike hK, hD⟩, hS.F ht⟩) hS.2.2 dX9_worker_82
  · skip
    refine lv_aload hx hb dX9_worker_47 (lv_at hl 0 rfl) ?_
    refine va_get (D := D) (ci := 8) (v := .null) (C := RX8) (T := TX8) (N := 3) hx hb hts iX9_worker_8 hown hK hP 13 rfl rfl 0 (by decide) (hts (.fieldLink RX9 227 "FondsRoom$Worker" "box" "LFondsRoom$Box;") (by decide +kernel)) (fun _ h9 => h9) rfl dX9_worker_49 ?_
    refine lv_ifnonnullN hx hb dX9_worker_52 ?_
    refine lv_iconst (v := (-1)) hx hb dX9_worker_55 (by decide) ?_
    refine lv_goto (tgt := 67) hx hb dX9_worker_56 (by decide) ?_
    exact W.iret (v := (-1)) hx hb hr (fun t ht hW => ⟨⟨(-1), (), rfl, (by simp [sp_worker, c2]), by rw [ht]; exact hP, va_K.moved hW.alike hK, hD⟩, hS.F ht⟩) hS.2.2 dX9_worker_67

set_option maxHeartbeats 4000000 in
set_option maxRecDepth 100000 in
theorem mX9_worker_no (l : Launch) (D : va_G) (q : Nat → Nat) (cy : Nat → ClassId) (g : Nat → Nat → Option Nat) (sz : Nat) (k n x : Int32) (h9 : k = 0 ∨ sp_person k n = 0) : Met l yX9_worker wsX9_worker ({ frames := 2, cells := 0, slots := 0, locals := 43 }) (PW D (TYS cy) (FW q cy g 0) sz [.ref (q 0), .int k, .int n, .int x]) (QI D (TYS cy) (FW q cy g 0) (FW q cy g 0) sz (fun r => r = (-1))) 0 0 (va_A (FW q cy g 0) sz) := by
  refine Met.ofW (cc := cX9_worker) (maxL := 5) (ret := (some .int)) (by decide) rfl ?_
  intro p e s m args below meth c s₁ B hml hv
  obtain ⟨rfl, hsz, hP, hK, hD0⟩ := hv
  have hx := B.exec
  have hb := B.bytes
  have hr := B.returns
  have hts := atoms_spec (ws := wsX9_worker) B.pre
  have hown : s.vm.findClass RX9 = some m.cls := findClass_of_methodNamed B.named
  have hlocks := B.notSynchronized
  subst hsz
  have hD := hD0.self (sz := s.heap.size)
  have hA : ∀ q9 : Nat, s.heap.size ≤ q9 → va_A (FW q cy g 0) s.heap.size q9 := fun q9 h => Or.inr h
  have hS : va_S (va_A (FW q cy g 0) s.heap.size) s.heap s.heap [] := va_S.rf
  have hl := lv_entry ([.ref (q 0), .int k, .int n, .int x]) (n := 5) (Nat.le_of_ble_eq_true rfl)
  rw [lg_entry_eq]
  generalize (lg_sl ([.ref (q 0), .int k, .int n, .int x]) ++ List.replicate (5 - (lg_sl ([.ref (q 0), .int k, .int n, .int x])).length) Slot.unset).toArray = ls at hl ⊢
  have hl : lv_has ls 5 [(0, .ref (q 0)), (1, .int k), (2, .int n), (3, .int x)] := hl
  refine lv_iload_n hx hb dX9_worker_0 rfl (lv_at hl 1 rfl) ?_
  refine lv_if_eq (tgt := 13) hx hb dX9_worker_1 (by decide) (fun c1 => ?_) (fun c1 => ?_)
  · skip
    refine lv_iconst (v := (-1)) hx hb dX9_worker_13 (by decide) ?_
    exact W.iret (v := (-1)) hx hb hr (fun t ht hW => ⟨⟨(-1), (), rfl, (by first | rfl | trivial | decide), by rw [ht]; exact hP, va_K.moved hW.alike hK, hD⟩, hS.F ht⟩) hS.2.2 dX9_worker_14
  · skip
    refine lv_aload_n hx hb dX9_worker_4 rfl (lv_at hl 0 rfl) ?_
    refine lv_iload_n hx hb dX9_worker_5 rfl (lv_at hl 1 rfl) ?_
    refine lv_iload_n hx hb dX9_worker_6 rfl (lv_at hl 2 rfl) ?_
    refine cvI (wr := []) (As := [.int k, .int n]) (rest := []) ⟨hx, hb, hml, hown, hts⟩ (mX9_isPerson l D q cy g 0 _ k n ) (cwV 2 hts gX9_worker_X9_isPerson rfl rfl rfl (by decide +kernel) ⟨Nat.le_of_ble_eq_true rfl, Nat.le_of_ble_eq_true rfl⟩) hK hP hD hS hA [0, 1, 2, 3, 4, 5, 6, 7, 8, 9, 10, 11, 12, 13, 14, 15, 16, 17, 18, 19, 20, 21] [] rfl rfl (by decide) (by decide) (by decide) 0 9 rfl rfl rfl hl.1 rfl (Nat.le_of_ble_eq_true rfl) dX9_worker_7 ⟨Nat.le_of_ble_eq_true rfl, Nat.le_of_ble_eq_true rfl⟩ (fun r2 H locs hr2 hP hD hS => ?_)
    have hP : va_P D vwCl (FW q cy g 0) H := hP
    have hD : va_D _ (FW q cy g 0) := hD
    obtain rfl : r2 = sp_person k n := hr2
    refine lv_if_ne (tgt := 15) hx hb dX9_worker_10 (by decide) (fun c9 => absurd (h9.resolve_left c1) c9) (fun _ => ?_)
    refine lv_iconst (v := (-1)) hx hb dX9_worker_13 (by decide) ?_
    exact W.iret (v := (-1)) hx hb hr (fun t ht hW => ⟨⟨(-1), (), rfl, (by first | rfl | trivial | decide), by rw [ht]; exact hP, va_K.moved hW.alike hK, hD⟩, hS.F ht⟩) hS.2.2 dX9_worker_14

theorem iX9_lineOf_9 : ∀ w ∈ wsX90, w ∈ wsX9_lineOf := fun _ h => List.mem_cons_of_mem _ (List.mem_append_right _ h)
set_option maxHeartbeats 4000000 in
set_option maxRecDepth 100000 in
theorem mX9_lineOf_0 (l : Launch) (D : va_G) (q : Nat → Nat) (cy : Nat → ClassId) (g : Nat → Nat → Option Nat) (t : Int32) (sz : Nat) : Met l yX9_lineOf wsX9_lineOf ({ frames := 0, cells := 0, slots := 0, locals := 0 }) (PW D (TYS cy) (FW q cy g t) sz [.ref (q 0), .int 0]) (QQ D (TYS cy) (FW q cy g t) (FW q cy g t) sz (fun r => r = some (q 14))) 0 0 (va_A (FW q cy g t) sz) := by
  refine Met.ofW (cc := cX9_lineOf) (maxL := 2) (ret := (some (.object "FondsRoom$Line"))) (by decide) rfl ?_
  intro p e s m args below meth c s₁ B hml hv
  obtain ⟨rfl, hsz, hP, hK, hD0⟩ := hv
  have hx := B.exec
  have hb := B.bytes
  have hr := B.returns
  have hts := atoms_spec (ws := wsX9_lineOf) B.pre
  have hown : s.vm.findClass RX9 = some m.cls := findClass_of_methodNamed B.named
  have hlocks := B.notSynchronized
  subst hsz
  have hD := hD0.self (sz := s.heap.size)
  have hA : ∀ q9 : Nat, s.heap.size ≤ q9 → va_A (FW q cy g t) s.heap.size q9 := fun q9 h => Or.inr h
  have hS : va_S (va_A (FW q cy g t) s.heap.size) s.heap s.heap [] := va_S.rf
  have hl := lv_entry ([.ref (q 0), .int 0]) (n := 2) (Nat.le_of_ble_eq_true rfl)
  rw [lg_entry_eq]
  generalize (lg_sl ([.ref (q 0), .int 0]) ++ List.replicate (2 - (lg_sl ([.ref (q 0), .int 0])).length) Slot.unset).toArray = ls at hl ⊢
  have hl : lv_has ls 2 [(0, .ref (q 0)), (1, .int 0)] := hl
  refine lv_iload_n hx hb dX9_lineOf_0 rfl (lv_at hl 1 rfl) ?_
  refine lv_tableIn (tgt := 28) hx hb dX9_lineOf_1 (by decide) (by decide) rfl (by decide) ?_
  refine lv_aload_n hx hb dX9_lineOf_28 rfl (lv_at hl 0 rfl) ?_
  refine va_get (D := D) (ci := 9) (v := .ref (q 14)) (C := RX9) (T := TX9) (N := 19) hx hb hts iX9_lineOf_9 hown hK hP 0 rfl rfl 5 (by decide) (hts (.fieldLink RX9 47 "FondsRoom" "deskLine" "LFondsRoom$Line;") (by decide +kernel)) (fun _ h9 => h9) rfl dX9_lineOf_29 ?_
  exact W.aret (v := .ref (q 14)) hx hb hr (Or.inl ⟨_, rfl⟩) (Or.inr ⟨_, rfl⟩) (fun t ht hW => ⟨⟨(some (q 14)), (), rfl, (by first | rfl | trivial | decide), by rw [ht]; exact hP, va_K.moved hW.alike hK, hD⟩, hS.F ht⟩) hS.2.2 dX9_lineOf_32

set_option maxHeartbeats 4000000 in
set_option maxRecDepth 100000 in
theorem mX9_lineOf_1 (l : Launch) (D : va_G) (q : Nat → Nat) (cy : Nat → ClassId) (g : Nat → Nat → Option Nat) (t : Int32) (sz : Nat) : Met l yX9_lineOf wsX9_lineOf ({ frames := 0, cells := 0, slots := 0, locals := 0 }) (PW D (TYS cy) (FW q cy g t) sz [.ref (q 0), .int 1]) (QQ D (TYS cy) (FW q cy g t) (FW q cy g t) sz (fun r => r = some (q 15))) 0 0 (va_A (FW q cy g t) sz) := by
  refine Met.ofW (cc := cX9_lineOf) (maxL := 2) (ret := (some (.object "FondsRoom$Line"))) (by decide) rfl ?_
  intro p e s m args below meth c s₁ B hml hv
  obtain ⟨rfl, hsz, hP, hK, hD0⟩ := hv
  have hx := B.exec
  have hb := B.bytes
  have hr := B.returns
  have hts := atoms_spec (ws := wsX9_lineOf) B.pre
  have hown : s.vm.findClass RX9 = some m.cls := findClass_of_methodNamed B.named
  have hlocks := B.notSynchronized
  subst hsz
  have hD := hD0.self (sz := s.heap.size)
  have hA : ∀ q9 : Nat, s.heap.size ≤ q9 → va_A (FW q cy g t) s.heap.size q9 := fun q9 h => Or.inr h
  have hS : va_S (va_A (FW q cy g t) s.heap.size) s.heap s.heap [] := va_S.rf
  have hl := lv_entry ([.ref (q 0), .int 1]) (n := 2) (Nat.le_of_ble_eq_true rfl)
  rw [lg_entry_eq]
  generalize (lg_sl ([.ref (q 0), .int 1]) ++ List.replicate (2 - (lg_sl ([.ref (q 0), .int 1])).length) Slot.unset).toArray = ls at hl ⊢
  have hl : lv_has ls 2 [(0, .ref (q 0)), (1, .int 1)] := hl
  refine lv_iload_n hx hb dX9_lineOf_0 rfl (lv_at hl 1 rfl) ?_
  refine lv_tableIn (tgt := 33) hx hb dX9_lineOf_1 (by decide) (by decide) rfl (by decide) ?_
  refine lv_aload_n hx hb dX9_lineOf_33 rfl (lv_at hl 0 rfl) ?_
  refine va_get (D := D) (ci := 9) (v := .ref (q 15)) (C := RX9) (T := TX9) (N := 19) hx hb hts iX9_lineOf_9 hown hK hP 0 rfl rfl 6 (by decide) (hts (.fieldLink RX9 51 "FondsRoom" "boxTickets" "LFondsRoom$Line;") (by decide +kernel)) (fun _ h9 => h9) rfl dX9_lineOf_34 ?_
  exact W.aret (v := .ref (q 15)) hx hb hr (Or.inl ⟨_, rfl⟩) (Or.inr ⟨_, rfl⟩) (fun t ht hW => ⟨⟨(some (q 15)), (), rfl, (by first | rfl | trivial | decide), by rw [ht]; exact hP, va_K.moved hW.alike hK, hD⟩, hS.F ht⟩) hS.2.2 dX9_lineOf_37

set_option maxHeartbeats 4000000 in
set_option maxRecDepth 100000 in
theorem mX9_lineOf_2 (l : Launch) (D : va_G) (q : Nat → Nat) (cy : Nat → ClassId) (g : Nat → Nat → Option Nat) (t : Int32) (sz : Nat) : Met l yX9_lineOf wsX9_lineOf ({ frames := 0, cells := 0, slots := 0, locals := 0 }) (PW D (TYS cy) (FW q cy g t) sz [.ref (q 0), .int 2]) (QQ D (TYS cy) (FW q cy g t) (FW q cy g t) sz (fun r => r = some (q 16))) 0 0 (va_A (FW q cy g t) sz) := by
  refine Met.ofW (cc := cX9_lineOf) (maxL := 2) (ret := (some (.object "FondsRoom$Line"))) (by decide) rfl ?_
  intro p e s m args below meth c s₁ B hml hv
  obtain ⟨rfl, hsz, hP, hK, hD0⟩ := hv
  have hx := B.exec
  have hb := B.bytes
  have hr := B.returns
  have hts := atoms_spec (ws := wsX9_lineOf) B.pre
  have hown : s.vm.findClass RX9 = some m.cls := findClass_of_methodNamed B.named
  have hlocks := B.notSynchronized
  subst hsz
  have hD := hD0.self (sz := s.heap.size)
  have hA : ∀ q9 : Nat, s.heap.size ≤ q9 → va_A (FW q cy g t) s.heap.size q9 := fun q9 h => Or.inr h
  have hS : va_S (va_A (FW q cy g t) s.heap.size) s.heap s.heap [] := va_S.rf
  have hl := lv_entry ([.ref (q 0), .int 2]) (n := 2) (Nat.le_of_ble_eq_true rfl)
  rw [lg_entry_eq]
  generalize (lg_sl ([.ref (q 0), .int 2]) ++ List.replicate (2 - (lg_sl ([.ref (q 0), .int 2])).length) Slot.unset).toArray = ls at hl ⊢
  have hl : lv_has ls 2 [(0, .ref (q 0)), (1, .int 2)] := hl
  refine lv_iload_n hx hb dX9_lineOf_0 rfl (lv_at hl 1 rfl) ?_
  refine lv_tableIn (tgt := 38) hx hb dX9_lineOf_1 (by decide) (by decide) rfl (by decide) ?_
  refine lv_aload_n hx hb dX9_lineOf_38 rfl (lv_at hl 0 rfl) ?_
  refine va_get (D := D) (ci := 9) (v := .ref (q 16)) (C := RX9) (T := TX9) (N := 19) hx hb hts iX9_lineOf_9 hown hK hP 0 rfl rfl 7 (by decide) (hts (.fieldLink RX9 54 "FondsRoom" "copyTickets" "LFondsRoom$Line;") (by decide +kernel)) (fun _ h9 => h9) rfl dX9_lineOf_39 ?_
  exact W.aret (v := .ref (q 16)) hx hb hr (Or.inl ⟨_, rfl⟩) (Or.inr ⟨_, rfl⟩) (fun t ht hW => ⟨⟨(some (q 16)), (), rfl, (by first | rfl | trivial | decide), by rw [ht]; exact hP, va_K.moved hW.alike hK, hD⟩, hS.F ht⟩) hS.2.2 dX9_lineOf_42

set_option maxHeartbeats 4000000 in
set_option maxRecDepth 100000 in
theorem mX9_lineOf_no (l : Launch) (D : va_G) (q : Nat → Nat) (cy : Nat → ClassId) (g : Nat → Nat → Option Nat) (t : Int32) (sz : Nat) (k : Int32) (n0 : ¬ k = 0) (n1 : ¬ k = 1) (n2 : ¬ k = 2) : Met l yX9_lineOf wsX9_lineOf ({ frames := 0, cells := 0, slots := 0, locals := 0 }) (PW D (TYS cy) (FW q cy g t) sz [.ref (q 0), .int k]) (QQ D (TYS cy) (FW q cy g t) (FW q cy g t) sz (fun r => r = none)) 0 0 (va_A (FW q cy g t) sz) := by
  refine Met.ofW (cc := cX9_lineOf) (maxL := 2) (ret := (some (.object "FondsRoom$Line"))) (by decide) rfl ?_
  intro p e s m args below meth c s₁ B hml hv
  obtain ⟨rfl, hsz, hP, hK, hD0⟩ := hv
  have hx := B.exec
  have hb := B.bytes
  have hr := B.returns
  have hts := atoms_spec (ws := wsX9_lineOf) B.pre
  have hown : s.vm.findClass RX9 = some m.cls := findClass_of_methodNamed B.named
  have hlocks := B.notSynchronized
  subst hsz
  have hD := hD0.self (sz := s.heap.size)
  have hA : ∀ q9 : Nat, s.heap.size ≤ q9 → va_A (FW q cy g t) s.heap.size q9 := fun q9 h => Or.inr h
  have hS : va_S (va_A (FW q cy g t) s.heap.size) s.heap s.heap [] := va_S.rf
  have hl := lv_entry ([.ref (q 0), .int k]) (n := 2) (Nat.le_of_ble_eq_true rfl)
  rw [lg_entry_eq]
  generalize (lg_sl ([.ref (q 0), .int k]) ++ List.replicate (2 - (lg_sl ([.ref (q 0), .int k])).length) Slot.unset).toArray = ls at hl ⊢
  have hl : lv_has ls 2 [(0, .ref (q 0)), (1, .int k)] := hl
  refine lv_iload_n hx hb dX9_lineOf_0 rfl (lv_at hl 1 rfl) ?_
  have hout := ts_out (x := k) (n := 3) (by decide) (fun j9 hj9 => by rcases (show j9 = 0 ∨ j9 = 1 ∨ j9 = 2 by omega) with rfl | rfl | rfl <;> first | exact n0 | exact n1 | exact n2)
  refine lv_tableOut (tgt := 43) hx hb dX9_lineOf_1 (by omega) (by decide) ?_
  refine lv_null hx hb dX9_lineOf_43 ?_
  exact W.aret (v := .null) hx hb hr (Or.inl ⟨_, rfl⟩) (Or.inl rfl) (fun t ht hW => ⟨⟨none, (), rfl, (by first | rfl | trivial | decide), by rw [ht]; exact hP, va_K.moved hW.alike hK, hD⟩, hS.F ht⟩) hS.2.2 dX9_lineOf_44

theorem iX9_queue_3 : ∀ w ∈ wsX30, w ∈ wsX9_queue := fun _ h => List.mem_cons_of_mem _ (List.mem_append_left _ (List.mem_append_left _ (List.mem_append_left _ (List.mem_append_right _ h))))
set_option maxHeartbeats 4000000 in
set_option maxRecDepth 100000 in
theorem mX9_queue_0 (l : Launch) (D : va_G) (q : Nat → Nat) (cy : Nat → ClassId) (g : Nat → Nat → Option Nat) (sz : Nat) (i : Int32) : Met l yX9_queue wsX9_queue ({ frames := 1, cells := 0, slots := 0, locals := 21 }) (PW D (TYS cy) (FW q cy g 0) sz [.ref (q 0), .int 0, .int i]) (QI D (TYS cy) (FW q cy g 0) (FW q cy g 0) sz (fun r => r = sp_queue i)) 0 0 (va_A (FW q cy g 0) sz) := by
  refine Met.ofW (cc := cX9_queue) (maxL := 7) (ret := (some .int)) (by decide) rfl ?_
  intro p e s m args below meth c s₁ B hml hv
  obtain ⟨rfl, hsz, hP, hK, hD0⟩ := hv
  have hx := B.exec
  have hb := B.bytes
  have hr := B.returns
  have hts := atoms_spec (ws := wsX9_queue) B.pre
  have hown : s.vm.findClass RX9 = some m.cls := findClass_of_methodNamed B.named
  have hlocks := B.notSynchronized
  subst hsz
  have hD := hD0.self (sz := s.heap.size)
  have hA : ∀ q9 : Nat, s.heap.size ≤ q9 → va_A (FW q cy g 0) s.heap.size q9 := fun q9 h => Or.inr h
  have hS : va_S (va_A (FW q cy g 0) s.heap.size) s.heap s.heap [] := va_S.rf
  have hl := lv_entry ([.ref (q 0), .int 0, .int i]) (n := 7) (Nat.le_of_ble_eq_true rfl)
  rw [lg_entry_eq]
  generalize (lg_sl ([.ref (q 0), .int 0, .int i]) ++ List.replicate (7 - (lg_sl ([.ref (q 0), .int 0, .int i])).length) Slot.unset).toArray = ls at hl ⊢
  have hl : lv_has ls 7 [(0, .ref (q 0)), (1, .int 0), (2, .int i)] := hl
  refine lv_aload_n hx hb dX9_queue_0 rfl (lv_at hl 0 rfl) ?_
  refine lv_iload_n hx hb dX9_queue_1 rfl (lv_at hl 1 rfl) ?_
  refine cvQ (wr := []) (As := [.int 0]) (rest := []) ⟨hx, hb, hml, hown, hts⟩ (mX9_lineOf_0 l D q cy g 0 _  ) (cwV 1 hts gX9_queue_X9_lineOf rfl rfl rfl (by decide +kernel) ⟨Nat.le_of_ble_eq_true rfl, Nat.le_of_ble_eq_true rfl⟩) hK hP hD hS hA [0, 1, 2, 3, 4, 5, 6, 7, 8, 9, 10, 11, 12, 13, 14, 15, 16, 17, 18, 19, 20, 21] [] rfl rfl (by decide) (by decide) (by decide) 0 9 rfl rfl rfl hl.1 rfl (Nat.le_of_ble_eq_true rfl) dX9_queue_2 ⟨Nat.le_of_ble_eq_true rfl, Nat.le_of_ble_eq_true rfl⟩ (fun r1 H locs hr1 hP hD hS => ?_)
  have hP : va_P D vwCl (FW q cy g 0) H := hP
  have hD : va_D _ (FW q cy g 0) := hD
  obtain rfl : r1 = some (q 14) := hr1
  refine W.eq (g2 := F0 m 5 ls [.ref (q 14)]) rfl ?_
  refine lv_astore_n (lv' := [(3, .ref (q 14)), (0, .ref (q 0)), (1, .int 0), (2, .int i)]) hx hb dX9_queue_5 rfl hl (by decide) rfl (fun ls hl => ?_)
  refine lv_aload_n hx hb dX9_queue_6 rfl (lv_at hl 0 rfl) ?_
  refine lv_ifnull hx hb dX9_queue_7 ?_
  refine lv_iload_n hx hb dX9_queue_10 rfl (lv_at hl 3 rfl) ?_
  refine lv_iconst (v := (-1)) hx hb dX9_queue_11 (by decide) ?_
  refine lv_icmp_ge (tgt := 17) hx hb dX9_queue_12 (by decide) (fun c2 => ?_) (fun c2 => ?_)
  · skip
    refine lv_iconst (v := 0) hx hb dX9_queue_17 (by decide) ?_
    refine lv_istore (lv' := [(4, .int 0), (3, .ref (q 14)), (0, .ref (q 0)), (1, .int 0), (2, .int i)]) hx hb dX9_queue_18 hl (by decide) rfl (fun ls hl => ?_)
    refine lv_iconst (v := 0) hx hb dX9_queue_20 (by decide) ?_
    refine lv_istore (lv' := [(5, .int 0), (4, .int 0), (3, .ref (q 14)), (0, .ref (q 0)), (1, .int 0), (2, .int i)]) hx hb dX9_queue_21 hl (by decide) rfl (fun ls hl => ?_)
    refine lv_iload hx hb dX9_queue_23 (lv_at hl 0 rfl) ?_
    refine lv_aload_n hx hb dX9_queue_25 rfl (lv_at hl 2 rfl) ?_
    refine va_get (D := D) (ci := 3) (v := .int 0) (C := RX3) (T := TX3) (N := 2) hx hb hts iX9_queue_3 hown hK hP 14 rfl rfl 1 (by decide) (hts (.fieldLink RX9 373 "FondsRoom$Line" "size" "I") (by decide +kernel)) (fun _ h9 => h9) rfl dX9_queue_26 ?_
    refine lv_icmp_ge (tgt := 76) hx hb dX9_queue_29 (by decide) (fun _ => ?_) (fun c9 => absurd (by decide) c9)
    refine lv_iload_n hx hb dX9_queue_76 rfl (lv_at hl 5 rfl) ?_
    refine lv_iconst (v := (-1)) hx hb dX9_queue_77 (by decide) ?_
    refine lv_icmp_ne (tgt := 86) hx hb dX9_queue_78 (by decide) (fun c3 => ?_) (fun c3 => ?_)
    · skip
      refine lv_iconst (v := (-1)) hx hb dX9_queue_86 (by decide) ?_
      exact W.iret (v := (-1)) hx hb hr (fun t ht hW => ⟨⟨(-1), (), rfl, (by unfold sp_queue; rw [if_neg (fun z => nlt_of_le c2 z), if_neg c3]), by rw [ht]; exact hP, va_K.moved hW.alike hK, hD⟩, hS.F ht⟩) hS.2.2 dX9_queue_87
    · skip
      refine lv_iload hx hb dX9_queue_81 (lv_at hl 1 rfl) ?_
      refine lv_goto (tgt := 87) hx hb dX9_queue_83 (by decide) ?_
      exact W.iret (v := 0) hx hb hr (fun t ht hW => ⟨⟨0, (), rfl, (by unfold sp_queue; rw [if_neg (fun z => nlt_of_le c2 z), if_pos c3]), by rw [ht]; exact hP, va_K.moved hW.alike hK, hD⟩, hS.F ht⟩) hS.2.2 dX9_queue_87
  · skip
    refine lv_iconst (v := (-1)) hx hb dX9_queue_15 (by decide) ?_
    exact W.iret (v := (-1)) hx hb hr (fun t ht hW => ⟨⟨(-1), (), rfl, (by unfold sp_queue; exact (if_pos (nle_lt c2)).symm), by rw [ht]; exact hP, va_K.moved hW.alike hK, hD⟩, hS.F ht⟩) hS.2.2 dX9_queue_16

set_option maxHeartbeats 4000000 in
set_option maxRecDepth 100000 in
theorem mX9_queue_1 (l : Launch) (D : va_G) (q : Nat → Nat) (cy : Nat → ClassId) (g : Nat → Nat → Option Nat) (sz : Nat) (i : Int32) : Met l yX9_queue wsX9_queue ({ frames := 1, cells := 0, slots := 0, locals := 21 }) (PW D (TYS cy) (FW q cy g 0) sz [.ref (q 0), .int 1, .int i]) (QI D (TYS cy) (FW q cy g 0) (FW q cy g 0) sz (fun r => r = sp_queue i)) 0 0 (va_A (FW q cy g 0) sz) := by
  refine Met.ofW (cc := cX9_queue) (maxL := 7) (ret := (some .int)) (by decide) rfl ?_
  intro p e s m args below meth c s₁ B hml hv
  obtain ⟨rfl, hsz, hP, hK, hD0⟩ := hv
  have hx := B.exec
  have hb := B.bytes
  have hr := B.returns
  have hts := atoms_spec (ws := wsX9_queue) B.pre
  have hown : s.vm.findClass RX9 = some m.cls := findClass_of_methodNamed B.named
  have hlocks := B.notSynchronized
  subst hsz
  have hD := hD0.self (sz := s.heap.size)
  have hA : ∀ q9 : Nat, s.heap.size ≤ q9 → va_A (FW q cy g 0) s.heap.size q9 := fun q9 h => Or.inr h
  have hS : va_S (va_A (FW q cy g 0) s.heap.size) s.heap s.heap [] := va_S.rf
  have hl := lv_entry ([.ref (q 0), .int 1, .int i]) (n := 7) (Nat.le_of_ble_eq_true rfl)
  rw [lg_entry_eq]
  generalize (lg_sl ([.ref (q 0), .int 1, .int i]) ++ List.replicate (7 - (lg_sl ([.ref (q 0), .int 1, .int i])).length) Slot.unset).toArray = ls at hl ⊢
  have hl : lv_has ls 7 [(0, .ref (q 0)), (1, .int 1), (2, .int i)] := hl
  refine lv_aload_n hx hb dX9_queue_0 rfl (lv_at hl 0 rfl) ?_
  refine lv_iload_n hx hb dX9_queue_1 rfl (lv_at hl 1 rfl) ?_
  refine cvQ (wr := []) (As := [.int 1]) (rest := []) ⟨hx, hb, hml, hown, hts⟩ (mX9_lineOf_1 l D q cy g 0 _  ) (cwV 1 hts gX9_queue_X9_lineOf rfl rfl rfl (by decide +kernel) ⟨Nat.le_of_ble_eq_true rfl, Nat.le_of_ble_eq_true rfl⟩) hK hP hD hS hA [0, 1, 2, 3, 4, 5, 6, 7, 8, 9, 10, 11, 12, 13, 14, 15, 16, 17, 18, 19, 20, 21] [] rfl rfl (by decide) (by decide) (by decide) 0 9 rfl rfl rfl hl.1 rfl (Nat.le_of_ble_eq_true rfl) dX9_queue_2 ⟨Nat.le_of_ble_eq_true rfl, Nat.le_of_ble_eq_true rfl⟩ (fun r1 H locs hr1 hP hD hS => ?_)
  have hP : va_P D vwCl (FW q cy g 0) H := hP
  have hD : va_D _ (FW q cy g 0) := hD
  obtain rfl : r1 = some (q 15) := hr1
  refine W.eq (g2 := F0 m 5 ls [.ref (q 15)]) rfl ?_
  refine lv_astore_n (lv' := [(3, .ref (q 15)), (0, .ref (q 0)), (1, .int 1), (2, .int i)]) hx hb dX9_queue_5 rfl hl (by decide) rfl (fun ls hl => ?_)
  refine lv_aload_n hx hb dX9_queue_6 rfl (lv_at hl 0 rfl) ?_
  refine lv_ifnull hx hb dX9_queue_7 ?_
  refine lv_iload_n hx hb dX9_queue_10 rfl (lv_at hl 3 rfl) ?_
  refine lv_iconst (v := (-1)) hx hb dX9_queue_11 (by decide) ?_
  refine lv_icmp_ge (tgt := 17) hx hb dX9_queue_12 (by decide) (fun c2 => ?_) (fun c2 => ?_)
  · skip
    refine lv_iconst (v := 0) hx hb dX9_queue_17 (by decide) ?_
    refine lv_istore (lv' := [(4, .int 0), (3, .ref (q 15)), (0, .ref (q 0)), (1, .int 1), (2, .int i)]) hx hb dX9_queue_18 hl (by decide) rfl (fun ls hl => ?_)
    refine lv_iconst (v := 0) hx hb dX9_queue_20 (by decide) ?_
    refine lv_istore (lv' := [(5, .int 0), (4, .int 0), (3, .ref (q 15)), (0, .ref (q 0)), (1, .int 1), (2, .int i)]) hx hb dX9_queue_21 hl (by decide) rfl (fun ls hl => ?_)
    refine lv_iload hx hb dX9_queue_23 (lv_at hl 0 rfl) ?_
    refine lv_aload_n hx hb dX9_queue_25 rfl (lv_at hl 2 rfl) ?_
    refine va_get (D := D) (ci := 3) (v := .int 0) (C := RX3) (T := TX3) (N := 2) hx hb hts iX9_queue_3 hown hK hP 15 rfl rfl 1 (by decide) (hts (.fieldLink RX9 373 "FondsRoom$Line" "size" "I") (by decide +kernel)) (fun _ h9 => h9) rfl dX9_queue_26 ?_
    refine lv_icmp_ge (tgt := 76) hx hb dX9_queue_29 (by decide) (fun _ => ?_) (fun c9 => absurd (by decide) c9)
    refine lv_iload_n hx hb dX9_queue_76 rfl (lv_at hl 5 rfl) ?_
    refine lv_iconst (v := (-1)) hx hb dX9_queue_77 (by decide) ?_
    refine lv_icmp_ne (tgt := 86) hx hb dX9_queue_78 (by decide) (fun c3 => ?_) (fun c3 => ?_)
    · skip
      refine lv_iconst (v := (-1)) hx hb dX9_queue_86 (by decide) ?_
      exact W.iret (v := (-1)) hx hb hr (fun t ht hW => ⟨⟨(-1), (), rfl, (by unfold sp_queue; rw [if_neg (fun z => nlt_of_le c2 z), if_neg c3]), by rw [ht]; exact hP, va_K.moved hW.alike hK, hD⟩, hS.F ht⟩) hS.2.2 dX9_queue_87
    · skip
      refine lv_iload hx hb dX9_queue_81 (lv_at hl 1 rfl) ?_
      refine lv_goto (tgt := 87) hx hb dX9_queue_83 (by decide) ?_
      exact W.iret (v := 0) hx hb hr (fun t ht hW => ⟨⟨0, (), rfl, (by unfold sp_queue; rw [if_neg (fun z => nlt_of_le c2 z), if_pos c3]), by rw [ht]; exact hP, va_K.moved hW.alike hK, hD⟩, hS.F ht⟩) hS.2.2 dX9_queue_87
  · skip
    refine lv_iconst (v := (-1)) hx hb dX9_queue_15 (by decide) ?_
    exact W.iret (v := (-1)) hx hb hr (fun t ht hW => ⟨⟨(-1), (), rfl, (by unfold sp_queue; exact (if_pos (nle_lt c2)).symm), by rw [ht]; exact hP, va_K.moved hW.alike hK, hD⟩, hS.F ht⟩) hS.2.2 dX9_queue_16

set_option maxHeartbeats 4000000 in
set_option maxRecDepth 100000 in
theorem mX9_queue_2 (l : Launch) (D : va_G) (q : Nat → Nat) (cy : Nat → ClassId) (g : Nat → Nat → Option Nat) (sz : Nat) (i : Int32) : Met l yX9_queue wsX9_queue ({ frames := 1, cells := 0, slots := 0, locals := 21 }) (PW D (TYS cy) (FW q cy g 0) sz [.ref (q 0), .int 2, .int i]) (QI D (TYS cy) (FW q cy g 0) (FW q cy g 0) sz (fun r => r = sp_queue i)) 0 0 (va_A (FW q cy g 0) sz) := by
  refine Met.ofW (cc := cX9_queue) (maxL := 7) (ret := (some .int)) (by decide) rfl ?_
  intro p e s m args below meth c s₁ B hml hv
  obtain ⟨rfl, hsz, hP, hK, hD0⟩ := hv
  have hx := B.exec
  have hb := B.bytes
  have hr := B.returns
  have hts := atoms_spec (ws := wsX9_queue) B.pre
  have hown : s.vm.findClass RX9 = some m.cls := findClass_of_methodNamed B.named
  have hlocks := B.notSynchronized
  subst hsz
  have hD := hD0.self (sz := s.heap.size)
  have hA : ∀ q9 : Nat, s.heap.size ≤ q9 → va_A (FW q cy g 0) s.heap.size q9 := fun q9 h => Or.inr h
  have hS : va_S (va_A (FW q cy g 0) s.heap.size) s.heap s.heap [] := va_S.rf
  have hl := lv_entry ([.ref (q 0), .int 2, .int i]) (n := 7) (Nat.le_of_ble_eq_true rfl)
  rw [lg_entry_eq]
  generalize (lg_sl ([.ref (q 0), .int 2, .int i]) ++ List.replicate (7 - (lg_sl ([.ref (q 0), .int 2, .int i])).length) Slot.unset).toArray = ls at hl ⊢
  have hl : lv_has ls 7 [(0, .ref (q 0)), (1, .int 2), (2, .int i)] := hl
  refine lv_aload_n hx hb dX9_queue_0 rfl (lv_at hl 0 rfl) ?_
  refine lv_iload_n hx hb dX9_queue_1 rfl (lv_at hl 1 rfl) ?_
  refine cvQ (wr := []) (As := [.int 2]) (rest := []) ⟨hx, hb, hml, hown, hts⟩ (mX9_lineOf_2 l D q cy g 0 _  ) (cwV 1 hts gX9_queue_X9_lineOf rfl rfl rfl (by decide +kernel) ⟨Nat.le_of_ble_eq_true rfl, Nat.le_of_ble_eq_true rfl⟩) hK hP hD hS hA [0, 1, 2, 3, 4, 5, 6, 7, 8, 9, 10, 11, 12, 13, 14, 15, 16, 17, 18, 19, 20, 21] [] rfl rfl (by decide) (by decide) (by decide) 0 9 rfl rfl rfl hl.1 rfl (Nat.le_of_ble_eq_true rfl) dX9_queue_2 ⟨Nat.le_of_ble_eq_true rfl, Nat.le_of_ble_eq_true rfl⟩ (fun r1 H locs hr1 hP hD hS => ?_)
  have hP : va_P D vwCl (FW q cy g 0) H := hP
  have hD : va_D _ (FW q cy g 0) := hD
  obtain rfl : r1 = some (q 16) := hr1
  refine W.eq (g2 := F0 m 5 ls [.ref (q 16)]) rfl ?_
  refine lv_astore_n (lv' := [(3, .ref (q 16)), (0, .ref (q 0)), (1, .int 2), (2, .int i)]) hx hb dX9_queue_5 rfl hl (by decide) rfl (fun ls hl => ?_)
  refine lv_aload_n hx hb dX9_queue_6 rfl (lv_at hl 0 rfl) ?_
  refine lv_ifnull hx hb dX9_queue_7 ?_
  refine lv_iload_n hx hb dX9_queue_10 rfl (lv_at hl 3 rfl) ?_
  refine lv_iconst (v := (-1)) hx hb dX9_queue_11 (by decide) ?_
  refine lv_icmp_ge (tgt := 17) hx hb dX9_queue_12 (by decide) (fun c2 => ?_) (fun c2 => ?_)
  · skip
    refine lv_iconst (v := 0) hx hb dX9_queue_17 (by decide) ?_
    refine lv_istore (lv' := [(4, .int 0), (3, .ref (q 16)), (0, .ref (q 0)), (1, .int 2), (2, .int i)]) hx hb dX9_queue_18 hl (by decide) rfl (fun ls hl => ?_)
    refine lv_iconst (v := 0) hx hb dX9_queue_20 (by decide) ?_
    refine lv_istore (lv' := [(5, .int 0), (4, .int 0), (3, .ref (q 16)), (0, .ref (q 0)), (1, .int 2), (2, .int i)]) hx hb dX9_queue_21 hl (by decide) rfl (fun ls hl => ?_)
    refine lv_iload hx hb dX9_queue_23 (lv_at hl 0 rfl) ?_
    refine lv_aload_n hx hb dX9_queue_25 rfl (lv_at hl 2 rfl) ?_
    refine va_get (D := D) (ci := 3) (v := .int 0) (C := RX3) (T := TX3) (N := 2) hx hb hts iX9_queue_3 hown hK hP 16 rfl rfl 1 (by decide) (hts (.fieldLink RX9 373 "FondsRoom$Line" "size" "I") (by decide +kernel)) (fun _ h9 => h9) rfl dX9_queue_26 ?_
    refine lv_icmp_ge (tgt := 76) hx hb dX9_queue_29 (by decide) (fun _ => ?_) (fun c9 => absurd (by decide) c9)
    refine lv_iload_n hx hb dX9_queue_76 rfl (lv_at hl 5 rfl) ?_
    refine lv_iconst (v := (-1)) hx hb dX9_queue_77 (by decide) ?_
    refine lv_icmp_ne (tgt := 86) hx hb dX9_queue_78 (by decide) (fun c3 => ?_) (fun c3 => ?_)
    · skip
      refine lv_iconst (v := (-1)) hx hb dX9_queue_86 (by decide) ?_
      exact W.iret (v := (-1)) hx hb hr (fun t ht hW => ⟨⟨(-1), (), rfl, (by unfold sp_queue; rw [if_neg (fun z => nlt_of_le c2 z), if_neg c3]), by rw [ht]; exact hP, va_K.moved hW.alike hK, hD⟩, hS.F ht⟩) hS.2.2 dX9_queue_87
    · skip
      refine lv_iload hx hb dX9_queue_81 (lv_at hl 1 rfl) ?_
      refine lv_goto (tgt := 87) hx hb dX9_queue_83 (by decide) ?_
      exact W.iret (v := 0) hx hb hr (fun t ht hW => ⟨⟨0, (), rfl, (by unfold sp_queue; rw [if_neg (fun z => nlt_of_le c2 z), if_pos c3]), by rw [ht]; exact hP, va_K.moved hW.alike hK, hD⟩, hS.F ht⟩) hS.2.2 dX9_queue_87
  · skip
    refine lv_iconst (v := (-1)) hx hb dX9_queue_15 (by decide) ?_
    exact W.iret (v := (-1)) hx hb hr (fun t ht hW => ⟨⟨(-1), (), rfl, (by unfold sp_queue; exact (if_pos (nle_lt c2)).symm), by rw [ht]; exact hP, va_K.moved hW.alike hK, hD⟩, hS.F ht⟩) hS.2.2 dX9_queue_16

set_option maxHeartbeats 4000000 in
set_option maxRecDepth 100000 in
theorem mX9_queue_no (l : Launch) (D : va_G) (q : Nat → Nat) (cy : Nat → ClassId) (g : Nat → Nat → Option Nat) (sz : Nat) (k i : Int32) (n0 : ¬ k = 0) (n1 : ¬ k = 1) (n2 : ¬ k = 2) : Met l yX9_queue wsX9_queue ({ frames := 1, cells := 0, slots := 0, locals := 21 }) (PW D (TYS cy) (FW q cy g 0) sz [.ref (q 0), .int k, .int i]) (QI D (TYS cy) (FW q cy g 0) (FW q cy g 0) sz (fun r => r = (-1))) 0 0 (va_A (FW q cy g 0) sz) := by
  refine Met.ofW (cc := cX9_queue) (maxL := 7) (ret := (some .int)) (by decide) rfl ?_
  intro p e s m args below meth c s₁ B hml hv
  obtain ⟨rfl, hsz, hP, hK, hD0⟩ := hv
  have hx := B.exec
  have hb := B.bytes
  have hr := B.returns
  have hts := atoms_spec (ws := wsX9_queue) B.pre
  have hown : s.vm.findClass RX9 = some m.cls := findClass_of_methodNamed B.named
  have hlocks := B.notSynchronized
  subst hsz
  have hD := hD0.self (sz := s.heap.size)
  have hA : ∀ q9 : Nat, s.heap.size ≤ q9 → va_A (FW q cy g 0) s.heap.size q9 := fun q9 h => Or.inr h
  have hS : va_S (va_A (FW q cy g 0) s.heap.size) s.heap s.heap [] := va_S.rf
  have hl := lv_entry ([.ref (q 0), .int k, .int i]) (n := 7) (Nat.le_of_ble_eq_true rfl)
  rw [lg_entry_eq]
  generalize (lg_sl ([.ref (q 0), .int k, .int i]) ++ List.replicate (7 - (lg_sl ([.ref (q 0), .int k, .int i])).length) Slot.unset).toArray = ls at hl ⊢
  have hl : lv_has ls 7 [(0, .ref (q 0)), (1, .int k), (2, .int i)] := hl
  refine lv_aload_n hx hb dX9_queue_0 rfl (lv_at hl 0 rfl) ?_
  refine lv_iload_n hx hb dX9_queue_1 rfl (lv_at hl 1 rfl) ?_
  refine cvQ (wr := []) (As := [.int k]) (rest := []) ⟨hx, hb, hml, hown, hts⟩ (mX9_lineOf_no l D q cy g 0 _ k n0 n1 n2) (cwV 1 hts gX9_queue_X9_lineOf rfl rfl rfl (by decide +kernel) ⟨Nat.le_of_ble_eq_true rfl, Nat.le_of_ble_eq_true rfl⟩) hK hP hD hS hA [0, 1, 2, 3, 4, 5, 6, 7, 8, 9, 10, 11, 12, 13, 14, 15, 16, 17, 18, 19, 20, 21] [] rfl rfl (by decide) (by decide) (by decide) 0 9 rfl rfl rfl hl.1 rfl (Nat.le_of_ble_eq_true rfl) dX9_queue_2 ⟨Nat.le_of_ble_eq_true rfl, Nat.le_of_ble_eq_true rfl⟩ (fun r1 H locs hr1 hP hD hS => ?_)
  have hP : va_P D vwCl (FW q cy g 0) H := hP
  have hD : va_D _ (FW q cy g 0) := hD
  obtain rfl : r1 = none := hr1
  refine W.eq (g2 := F0 m 5 ls [.null]) rfl ?_
  refine lv_astore_nN (lv' := [(3, .null), (0, .ref (q 0)), (1, .int k), (2, .int i)]) hx hb dX9_queue_5 rfl hl (by decide) rfl (fun ls hl => ?_)
  refine lv_aload_nN hx hb dX9_queue_6 rfl (lv_at hl 0 rfl) ?_
  refine lv_ifnullN (tgt := 15) hx hb dX9_queue_7 (by decide) ?_
  refine lv_iconst (v := (-1)) hx hb dX9_queue_15 (by decide) ?_
  exact W.iret (v := (-1)) hx hb hr (fun t ht hW => ⟨⟨(-1), (), rfl, (by first | rfl | trivial | decide), by rw [ht]; exact hP, va_K.moved hW.alike hK, hD⟩, hS.F ht⟩) hS.2.2 dX9_queue_16

theorem iX9_boxesAtHome_9 : ∀ w ∈ wsX90, w ∈ wsX9_boxesAtHome := fun _ h => List.mem_cons_of_mem _ (List.mem_append_left _ (List.mem_append_right _ h))
set_option maxHeartbeats 4000000 in
set_option maxRecDepth 100000 in
theorem mX9_boxesAtHome (l : Launch) (D : va_G) (q : Nat → Nat) (cy : Nat → ClassId) (g : Nat → Nat → Option Nat) (sz : Nat) : Met l yX9_boxesAtHome wsX9_boxesAtHome ({ frames := 0, cells := 0, slots := 0, locals := 0 }) (PW D (TYS cy) (FW q cy g 0) sz [.ref (q 0)]) (QI D (TYS cy) (FW q cy g 0) (FW q cy g 0) sz (fun r => r = 0)) 0 0 (va_A (FW q cy g 0) sz) := by
  refine Met.ofW (cc := cX9_boxesAtHome) (maxL := 3) (ret := (some .int)) (by decide) rfl ?_
  intro p e s m args below meth c s₁ B hml hv
  obtain ⟨rfl, hsz, hP, hK, hD0⟩ := hv
  have hx := B.exec
  have hb := B.bytes
  have hr := B.returns
  have hts := atoms_spec (ws := wsX9_boxesAtHome) B.pre
  have hown : s.vm.findClass RX9 = some m.cls := findClass_of_methodNamed B.named
  have hlocks := B.notSynchronized
  subst hsz
  have hD := hD0.self (sz := s.heap.size)
  have hA : ∀ q9 : Nat, s.heap.size ≤ q9 → va_A (FW q cy g 0) s.heap.size q9 := fun q9 h => Or.inr h
  have hS : va_S (va_A (FW q cy g 0) s.heap.size) s.heap s.heap [] := va_S.rf
  have hl := lv_entry ([.ref (q 0)]) (n := 3) (Nat.le_of_ble_eq_true rfl)
  rw [lg_entry_eq]
  generalize (lg_sl ([.ref (q 0)]) ++ List.replicate (3 - (lg_sl ([.ref (q 0)])).length) Slot.unset).toArray = ls at hl ⊢
  have hl : lv_has ls 3 [(0, .ref (q 0))] := hl
  refine lv_iconst (v := 0) hx hb dX9_boxesAtHome_0 (by decide) ?_
  refine lv_istore_n (lv' := [(1, .int 0), (0, .ref (q 0))]) hx hb dX9_boxesAtHome_1 rfl hl (by decide) rfl (fun ls hl => ?_)
  refine lv_iconst (v := 0) hx hb dX9_boxesAtHome_2 (by decide) ?_
  refine lv_istore_n (lv' := [(2, .int 0), (1, .int 0), (0, .ref (q 0))]) hx hb dX9_boxesAtHome_3 rfl hl (by decide) rfl (fun ls hl => ?_)
  refine lv_iload_n hx hb dX9_boxesAtHome_4 rfl (lv_at hl 0 rfl) ?_
  refine lv_aload_n hx hb dX9_boxesAtHome_5 rfl (lv_at hl 2 rfl) ?_
  refine va_get (D := D) (ci := 9) (v := .int 0) (C := RX9) (T := TX9) (N := 19) hx hb hts iX9_boxesAtHome_9 hown hK hP 0 rfl rfl 11 (by decide) (hts (.fieldLink RX9 88 "FondsRoom" "boxCount" "I") (by decide +kernel)) (fun _ h9 => h9) rfl dX9_boxesAtHome_6 ?_
  refine lv_icmp_ge (tgt := 33) hx hb dX9_boxesAtHome_9 (by decide) (fun _ => ?_) (fun c9 => absurd (by decide) c9)
  refine lv_iload_n hx hb dX9_boxesAtHome_33 rfl (lv_at hl 1 rfl) ?_
  exact W.iret (v := 0) hx hb hr (fun t ht hW => ⟨⟨0, (), rfl, (by first | rfl | trivial | decide), by rw [ht]; exact hP, va_K.moved hW.alike hK, hD⟩, hS.F ht⟩) hS.2.2 dX9_boxesAtHome_34

theorem iX9_isQuiet_9 : ∀ w ∈ wsX90, w ∈ wsX9_isQuiet := fun _ h => List.mem_cons_of_mem _ (List.mem_append_left _ (List.mem_append_left _ (List.mem_append_right _ h)))
set_option maxHeartbeats 4000000 in
set_option maxRecDepth 100000 in
theorem mX9_isQuiet (l : Launch) (D : va_G) (q : Nat → Nat) (cy : Nat → ClassId) (g : Nat → Nat → Option Nat) (sz : Nat) : Met l yX9_isQuiet wsX9_isQuiet ({ frames := 1, cells := 0, slots := 0, locals := 22 }) (PW D (TYS cy) (FW q cy g 0) sz [.ref (q 0)]) (QI D (TYS cy) (FW q cy g 0) (FW q cy g 0) sz (fun r => r = 1)) 0 0 (va_A (FW q cy g 0) sz) := by
  refine Met.ofW (cc := cX9_isQuiet) (maxL := 2) (ret := (some .boolean)) (by decide) rfl ?_
  intro p e s m args below meth c s₁ B hml hv
  obtain ⟨rfl, hsz, hP, hK, hD0⟩ := hv
  have hx := B.exec
  have hb := B.bytes
  have hr := B.returns
  have hts := atoms_spec (ws := wsX9_isQuiet) B.pre
  have hown : s.vm.findClass RX9 = some m.cls := findClass_of_methodNamed B.named
  have hlocks := B.notSynchronized
  subst hsz
  have hD := hD0.self (sz := s.heap.size)
  have hA : ∀ q9 : Nat, s.heap.size ≤ q9 → va_A (FW q cy g 0) s.heap.size q9 := fun q9 h => Or.inr h
  have hS : va_S (va_A (FW q cy g 0) s.heap.size) s.heap s.heap [] := va_S.rf
  have hl := lv_entry ([.ref (q 0)]) (n := 2) (Nat.le_of_ble_eq_true rfl)
  rw [lg_entry_eq]
  generalize (lg_sl ([.ref (q 0)]) ++ List.replicate (2 - (lg_sl ([.ref (q 0)])).length) Slot.unset).toArray = ls at hl ⊢
  have hl : lv_has ls 2 [(0, .ref (q 0))] := hl
  refine lv_iconst (v := 0) hx hb dX9_isQuiet_0 (by decide) ?_
  refine lv_istore_n (lv' := [(1, .int 0), (0, .ref (q 0))]) hx hb dX9_isQuiet_1 rfl hl (by decide) rfl (fun ls hl => ?_)
  refine lv_iload_n hx hb dX9_isQuiet_2 rfl (lv_at hl 0 rfl) ?_
  refine lv_aload_n hx hb dX9_isQuiet_3 rfl (lv_at hl 1 rfl) ?_
  refine va_get (D := D) (ci := 9) (v := .int 0) (C := RX9) (T := TX9) (N := 19) hx hb hts iX9_isQuiet_9 hown hK hP 0 rfl rfl 12 (by decide) (hts (.fieldLink RX9 104 "FondsRoom" "readerCount" "I") (by decide +kernel)) (fun _ h9 => h9) rfl dX9_isQuiet_4 ?_
  refine lv_icmp_ge (tgt := 30) hx hb dX9_isQuiet_7 (by decide) (fun _ => ?_) (fun c9 => absurd (by decide) c9)
  refine lv_aload_n hx hb dX9_isQuiet_30 rfl (lv_at hl 1 rfl) ?_
  refine cvI (wr := []) (As := []) (rest := []) ⟨hx, hb, hml, hown, hts⟩ (mX9_boxesAtHome l D q cy g _  ) (cwV 0 hts gX9_isQuiet_X9_boxesAtHome rfl rfl rfl (by decide +kernel) ⟨Nat.le_of_ble_eq_true rfl, Nat.le_of_ble_eq_true rfl⟩) hK hP hD hS hA [0, 1, 2, 3, 4, 5, 6, 7, 8, 9, 10, 11, 12, 13, 14, 15, 16, 17, 18, 19, 20, 21] [] rfl rfl (by decide) (by decide) (by decide) 0 9 rfl rfl rfl hl.1 rfl (Nat.le_of_ble_eq_true rfl) dX9_isQuiet_31 ⟨Nat.le_of_ble_eq_true rfl, Nat.le_of_ble_eq_true rfl⟩ (fun r1 H locs hr1 hP hD hS => ?_)
  have hP : va_P D vwCl (FW q cy g 0) H := hP
  have hD : va_D _ (FW q cy g 0) := hD
  obtain rfl : r1 = 0 := hr1
  refine lv_aload_n hx hb dX9_isQuiet_34 rfl (lv_at hl 1 rfl) ?_
  refine va_get (D := D) (ci := 9) (v := .int 0) (C := RX9) (T := TX9) (N := 19) hx hb hts iX9_isQuiet_9 hown hK hP 0 rfl rfl 11 (by decide) (hts (.fieldLink RX9 88 "FondsRoom" "boxCount" "I") (by decide +kernel)) (fun _ h9 => h9) rfl dX9_isQuiet_35 ?_
  refine lv_icmp_ne (tgt := 45) hx hb dX9_isQuiet_38 (by decide) (fun c9 => absurd (by decide) c9) (fun _ => ?_)
  refine lv_iconst (v := 1) hx hb dX9_isQuiet_41 (by decide) ?_
  refine lv_goto (tgt := 46) hx hb dX9_isQuiet_42 (by decide) ?_
  exact W.zret (v := 1) hx hb hr (rfl) (fun t ht hW => ⟨⟨1, (), rfl, (by first | rfl | trivial | decide), by rw [ht]; exact hP, va_K.moved hW.alike hK, hD⟩, hS.F ht⟩) hS.2.2 dX9_isQuiet_46

theorem iX9_greatestWaited_9 : ∀ w ∈ wsX90, w ∈ wsX9_greatestWaited := fun _ h => List.mem_cons_of_mem _ (List.mem_append_left _ (List.mem_append_right _ h))
set_option maxHeartbeats 4000000 in
set_option maxRecDepth 100000 in
theorem mX9_greatestWaited (l : Launch) (D : va_G) (q : Nat → Nat) (cy : Nat → ClassId) (g : Nat → Nat → Option Nat) (sz : Nat) (k : Int32) : Met l yX9_greatestWaited wsX9_greatestWaited ({ frames := 0, cells := 0, slots := 0, locals := 0 }) (PW D (TYS cy) (FW q cy g 0) sz [.ref (q 0), .int k]) (QI D (TYS cy) (FW q cy g 0) (FW q cy g 0) sz (fun r => r = 0)) 0 0 (va_A (FW q cy g 0) sz) := by
  refine Met.ofW (cc := cX9_greatestWaited) (maxL := 6) (ret := (some .int)) (by decide) rfl ?_
  intro p e s m args below meth c s₁ B hml hv
  obtain ⟨rfl, hsz, hP, hK, hD0⟩ := hv
  have hx := B.exec
  have hb := B.bytes
  have hr := B.returns
  have hts := atoms_spec (ws := wsX9_greatestWaited) B.pre
  have hown : s.vm.findClass RX9 = some m.cls := findClass_of_methodNamed B.named
  have hlocks := B.notSynchronized
  subst hsz
  have hD := hD0.self (sz := s.heap.size)
  have hA : ∀ q9 : Nat, s.heap.size ≤ q9 → va_A (FW q cy g 0) s.heap.size q9 := fun q9 h => Or.inr h
  have hS : va_S (va_A (FW q cy g 0) s.heap.size) s.heap s.heap [] := va_S.rf
  have hl := lv_entry ([.ref (q 0), .int k]) (n := 6) (Nat.le_of_ble_eq_true rfl)
  rw [lg_entry_eq]
  generalize (lg_sl ([.ref (q 0), .int k]) ++ List.replicate (6 - (lg_sl ([.ref (q 0), .int k])).length) Slot.unset).toArray = ls at hl ⊢
  have hl : lv_has ls 6 [(0, .ref (q 0)), (1, .int k)] := hl
  refine lv_iconst (v := 0) hx hb dX9_greatestWaited_0 (by decide) ?_
  refine lv_istore_n (lv' := [(2, .int 0), (0, .ref (q 0)), (1, .int k)]) hx hb dX9_greatestWaited_1 rfl hl (by decide) rfl (fun ls hl => ?_)
  refine lv_iconst (v := 0) hx hb dX9_greatestWaited_2 (by decide) ?_
  refine lv_istore_n (lv' := [(3, .int 0), (2, .int 0), (0, .ref (q 0)), (1, .int k)]) hx hb dX9_greatestWaited_3 rfl hl (by decide) rfl (fun ls hl => ?_)
  refine lv_iload_n hx hb dX9_greatestWaited_4 rfl (lv_at hl 0 rfl) ?_
  refine lv_aload_n hx hb dX9_greatestWaited_5 rfl (lv_at hl 2 rfl) ?_
  refine va_get (D := D) (ci := 9) (v := .int 0) (C := RX9) (T := TX9) (N := 19) hx hb hts iX9_greatestWaited_9 hown hK hP 0 rfl rfl 12 (by decide) (hts (.fieldLink RX9 104 "FondsRoom" "readerCount" "I") (by decide +kernel)) (fun _ h9 => h9) rfl dX9_greatestWaited_6 ?_
  refine lv_icmp_ge (tgt := 68) hx hb dX9_greatestWaited_9 (by decide) (fun _ => ?_) (fun c9 => absurd (by decide) c9)
  refine lv_iload_n hx hb dX9_greatestWaited_68 rfl (lv_at hl 1 rfl) ?_
  exact W.iret (v := 0) hx hb hr (fun t ht hW => ⟨⟨0, (), rfl, (by first | rfl | trivial | decide), by rw [ht]; exact hP, va_K.moved hW.alike hK, hD⟩, hS.F ht⟩) hS.2.2 dX9_greatestWaited_69

theorem iX9_count_2 : ∀ w ∈ wsX20, w ∈ wsX9_count := fun _ h => List.mem_cons_of_mem _ (List.mem_append_left _ (List.mem_append_left _ (List.mem_append_left _ (List.mem_append_right _ h))))
theorem iX9_count_4 : ∀ w ∈ wsX40, w ∈ wsX9_count := fun _ h => List.mem_cons_of_mem _ (List.mem_append_left _ (List.mem_append_left _ (List.mem_append_right _ h)))
theorem iX9_count_9 : ∀ w ∈ wsX90, w ∈ wsX9_count := fun _ h => List.mem_cons_of_mem _ (List.mem_append_left _ (List.mem_append_left _ (List.mem_append_left _ (List.mem_append_left _ (List.mem_append_right _ h)))))
set_option maxHeartbeats 4000000 in
set_option maxRecDepth 100000 in
theorem mX9_count (l : Launch) (D : va_G) (q : Nat → Nat) (cy : Nat → ClassId) (g : Nat → Nat → Option Nat) (sz : Nat) (k : Int32) : Met l yX9_count wsX9_count ({ frames := 2, cells := 0, slots := 0, locals := 43 }) (PW D (TYS cy) (FW q cy g 0) sz [.ref (q 0), .int k]) (QI D (TYS cy) (FW q cy g 0) (FW q cy g 0) sz (fun r => r = sp_count k)) 0 0 (va_A (FW q cy g 0) sz) := by
  refine Met.ofW (cc := cX9_count) (maxL := 2) (ret := (some .int)) (by decide) rfl ?_
  intro p e s m args below meth c s₁ B hml hv
  obtain ⟨rfl, hsz, hP, hK, hD0⟩ := hv
  have hx := B.exec
  have hb := B.bytes
  have hr := B.returns
  have hts := atoms_spec (ws := wsX9_count) B.pre
  have hown : s.vm.findClass RX9 = some m.cls := findClass_of_methodNamed B.named
  have hlocks := B.notSynchronized
  subst hsz
  have hD := hD0.self (sz := s.heap.size)
  have hA : ∀ q9 : Nat, s.heap.size ≤ q9 → va_A (FW q cy g 0) s.heap.size q9 := fun q9 h => Or.inr h
  have hS : va_S (va_A (FW q cy g 0) s.heap.size) s.heap s.heap [] := va_S.rf
  have hl := lv_entry ([.ref (q 0), .int k]) (n := 2) (Nat.le_of_ble_eq_true rfl)
  rw [lg_entry_eq]
  generalize (lg_sl ([.ref (q 0), .int k]) ++ List.replicate (2 - (lg_sl ([.ref (q 0), .int k])).length) Slot.unset).toArray = ls at hl ⊢
  have hl : lv_has ls 2 [(0, .ref (q 0)), (1, .int k)] := hl
  refine lv_iload_n hx hb dX9_count_0 rfl (lv_at hl 1 rfl) ?_
  by_cases j1 : k = 0
  · skip
    subst j1
    refine lv_tableIn (tgt := 76) hx hb dX9_count_1 (by decide) (by decide) rfl (by decide) ?_
    refine lv_aload_n hx hb dX9_count_76 rfl (lv_at hl 0 rfl) ?_
    refine va_get (D := D) (ci := 9) (v := .int 0) (C := RX9) (T := TX9) (N := 19) hx hb hts iX9_count_9 hown hK hP 0 rfl rfl 14 (by decide) (hts (.fieldLink RX9 78 "FondsRoom" "turn" "I") (by decide +kernel)) (fun _ h9 => h9) rfl dX9_count_77 ?_
    exact W.iret (v := 0) hx hb hr (fun t ht hW => ⟨⟨0, (), rfl, (by decide), by rw [ht]; exact hP, va_K.moved hW.alike hK, hD⟩, hS.F ht⟩) hS.2.2 dX9_count_80
  by_cases j2 : k = 1
  · skip
    subst j2
    refine lv_tableIn (tgt := 81) hx hb dX9_count_1 (by decide) (by decide) rfl (by decide) ?_
    refine lv_aload_n hx hb dX9_count_81 rfl (lv_at hl 0 rfl) ?_
    refine va_get (D := D) (ci := 9) (v := .int 0) (C := RX9) (T := TX9) (N := 19) hx hb hts iX9_count_9 hown hK hP 0 rfl rfl 10 (by decide) (hts (.fieldLink RX9 81 "FondsRoom" "deskCount" "I") (by decide +kernel)) (fun _ h9 => h9) rfl dX9_count_82 ?_
    exact W.iret (v := 0) hx hb hr (fun t ht hW => ⟨⟨0, (), rfl, (by decide), by rw [ht]; exact hP, va_K.moved hW.alike hK, hD⟩, hS.F ht⟩) hS.2.2 dX9_count_85
  by_cases j3 : k = 2
  · skip
    subst j3
    refine lv_tableIn (tgt := 86) hx hb dX9_count_1 (by decide) (by decide) rfl (by decide) ?_
    refine lv_aload_n hx hb dX9_count_86 rfl (lv_at hl 0 rfl) ?_
    refine va_get (D := D) (ci := 9) (v := .int 0) (C := RX9) (T := TX9) (N := 19) hx hb hts iX9_count_9 hown hK hP 0 rfl rfl 11 (by decide) (hts (.fieldLink RX9 88 "FondsRoom" "boxCount" "I") (by decide +kernel)) (fun _ h9 => h9) rfl dX9_count_87 ?_
    exact W.iret (v := 0) hx hb hr (fun t ht hW => ⟨⟨0, (), rfl, (by decide), by rw [ht]; exact hP, va_K.moved hW.alike hK, hD⟩, hS.F ht⟩) hS.2.2 dX9_count_90
  by_cases j4 : k = 3
  · skip
    subst j4
    refine lv_tableIn (tgt := 91) hx hb dX9_count_1 (by decide) (by decide) rfl (by decide) ?_
    refine lv_aload_n hx hb dX9_count_91 rfl (lv_at hl 0 rfl) ?_
    refine va_get (D := D) (ci := 9) (v := .int 0) (C := RX9) (T := TX9) (N := 19) hx hb hts iX9_count_9 hown hK hP 0 rfl rfl 12 (by decide) (hts (.fieldLink RX9 104 "FondsRoom" "readerCount" "I") (by decide +kernel)) (fun _ h9 => h9) rfl dX9_count_92 ?_
    exact W.iret (v := 0) hx hb hr (fun t ht hW => ⟨⟨0, (), rfl, (by decide), by rw [ht]; exact hP, va_K.moved hW.alike hK, hD⟩, hS.F ht⟩) hS.2.2 dX9_count_95
  by_cases j5 : k = 4
  · skip
    subst j5
    refine lv_tableIn (tgt := 96) hx hb dX9_count_1 (by decide) (by decide) rfl (by decide) ?_
    refine lv_aload_n hx hb dX9_count_96 rfl (lv_at hl 0 rfl) ?_
    refine va_get (D := D) (ci := 9) (v := .ref (q 21)) (C := RX9) (T := TX9) (N := 19) hx hb hts iX9_count_9 hown hK hP 0 rfl rfl 9 (by decide) (hts (.fieldLink RX9 67 "FondsRoom" "events" "LFondsRoom$Events;") (by decide +kernel)) (fun _ h9 => h9) rfl dX9_count_97 ?_
    refine va_get (D := D) (ci := 2) (v := .int 0) (C := RX2) (T := TX2) (N := 2) hx hb hts iX9_count_2 hown hK hP 21 rfl rfl 1 (by decide) (hts (.fieldLink RX9 460 "FondsRoom$Events" "size" "I") (by decide +kernel)) (fun _ h9 => h9) rfl dX9_count_100 ?_
    exact W.iret (v := 0) hx hb hr (fun t ht hW => ⟨⟨0, (), rfl, (by decide), by rw [ht]; exact hP, va_K.moved hW.alike hK, hD⟩, hS.F ht⟩) hS.2.2 dX9_count_103
  by_cases j6 : k = 5
  · skip
    subst j6
    refine lv_tableIn (tgt := 104) hx hb dX9_count_1 (by decide) (by decide) rfl (by decide) ?_
    refine lv_aload_n hx hb dX9_count_104 rfl (lv_at hl 0 rfl) ?_
    refine cvI (wr := []) (As := []) (rest := []) ⟨hx, hb, hml, hown, hts⟩ (mX9_boxesAtHome l D q cy g _  ) (cwV 0 hts gX9_count_X9_boxesAtHome rfl rfl rfl (by decide +kernel) ⟨Nat.le_of_ble_eq_true rfl, Nat.le_of_ble_eq_true rfl⟩) hK hP hD hS hA [0, 1, 2, 3, 4, 5, 6, 7, 8, 9, 10, 11, 12, 13, 14, 15, 16, 17, 18, 19, 20, 21] [] rfl rfl (by decide) (by decide) (by decide) 0 9 rfl rfl rfl hl.1 rfl (Nat.le_of_ble_eq_true rfl) dX9_count_105 ⟨Nat.le_of_ble_eq_true rfl, Nat.le_of_ble_eq_true rfl⟩ (fun r7 H locs hr7 hP hD hS => ?_)
    have hP : va_P D vwCl (FW q cy g 0) H := hP
    have hD : va_D _ (FW q cy g 0) := hD
    obtain rfl : r7 = 0 := hr7
    exact W.iret (v := 0) hx hb hr (fun t ht hW => ⟨⟨0, (), rfl, (by decide), by rw [ht]; exact hP, va_K.moved hW.alike hK, hD⟩, hS.F ht⟩) hS.2.2 dX9_count_108
  by_cases j8 : k = 6
  · skip
    subst j8
    refine lv_tableIn (tgt := 109) hx hb dX9_count_1 (by decide) (by decide) rfl (by decide) ?_
    refine lv_aload_n hx hb dX9_count_109 rfl (lv_at hl 0 rfl) ?_
    refine cvI (wr := []) (As := []) (rest := []) ⟨hx, hb, hml, hown, hts⟩ (mX9_isQuiet l D q cy g _  ) (cwV 0 hts gX9_count_X9_isQuiet rfl rfl rfl (by decide +kernel) ⟨Nat.le_of_ble_eq_true rfl, Nat.le_of_ble_eq_true rfl⟩) hK hP hD hS hA [0, 1, 2, 3, 4, 5, 6, 7, 8, 9, 10, 11, 12, 13, 14, 15, 16, 17, 18, 19, 20, 21] [] rfl rfl (by decide) (by decide) (by decide) 0 9 rfl rfl rfl hl.1 rfl (Nat.le_of_ble_eq_true rfl) dX9_count_110 ⟨Nat.le_of_ble_eq_true rfl, Nat.le_of_ble_eq_true rfl⟩ (fun r9 H locs hr9 hP hD hS => ?_)
    have hP : va_P D vwCl (FW q cy g 0) H := hP
    have hD : va_D _ (FW q cy g 0) := hD
    obtain rfl : r9 = 1 := hr9
    refine lv_if_eq (tgt := 120) hx hb dX9_count_113 (by decide) (fun c9 => absurd c9 (by decide)) (fun _ => ?_)
    refine lv_iconst (v := 1) hx hb dX9_count_116 (by decide) ?_
    refine lv_goto (tgt := 121) hx hb dX9_count_117 (by decide) ?_
    exact W.iret (v := 1) hx hb hr (fun t ht hW => ⟨⟨1, (), rfl, (by decide), by rw [ht]; exact hP, va_K.moved hW.alike hK, hD⟩, hS.F ht⟩) hS.2.2 dX9_count_121
  by_cases j10 : k = 7
  · skip
    subst j10
    refine lv_tableIn (tgt := 122) hx hb dX9_count_1 (by decide) (by decide) rfl (by decide) ?_
    refine lv_aload_n hx hb dX9_count_122 rfl (lv_at hl 0 rfl) ?_
    refine lv_iload_n hx hb dX9_count_123 rfl (lv_at hl 1 rfl) ?_
    refine cvI (wr := []) (As := [.int 7]) (rest := []) ⟨hx, hb, hml, hown, hts⟩ (mX9_greatestWaited l D q cy g _ 7 ) (cwV 1 hts gX9_count_X9_greatestWaited rfl rfl rfl (by decide +kernel) ⟨Nat.le_of_ble_eq_true rfl, Nat.le_of_ble_eq_true rfl⟩) hK hP hD hS hA [0, 1, 2, 3, 4, 5, 6, 7, 8, 9, 10, 11, 12, 13, 14, 15, 16, 17, 18, 19, 20, 21] [] rfl rfl (by decide) (by decide) (by decide) 0 9 rfl rfl rfl hl.1 rfl (Nat.le_of_ble_eq_true rfl) dX9_count_124 ⟨Nat.le_of_ble_eq_true rfl, Nat.le_of_ble_eq_true rfl⟩ (fun r11 H locs hr11 hP hD hS => ?_)
    have hP : va_P D vwCl (FW q cy g 0) H := hP
    have hD : va_D _ (FW q cy g 0) := hD
    obtain rfl : r11 = 0 := hr11
    exact W.iret (v := 0) hx hb hr (fun t ht hW => ⟨⟨0, (), rfl, (by decide), by rw [ht]; exact hP, va_K.moved hW.alike hK, hD⟩, hS.F ht⟩) hS.2.2 dX9_count_127
  by_cases j12 : k = 8
  · skip
    subst j12
    refine lv_tableIn (tgt := 122) hx hb dX9_count_1 (by decide) (by decide) rfl (by decide) ?_
    refine lv_aload_n hx hb dX9_count_122 rfl (lv_at hl 0 rfl) ?_
    refine lv_iload_n hx hb dX9_count_123 rfl (lv_at hl 1 rfl) ?_
    refine cvI (wr := []) (As := [.int 8]) (rest := []) ⟨hx, hb, hml, hown, hts⟩ (mX9_greatestWaited l D q cy g _ 8 ) (cwV 1 hts gX9_count_X9_greatestWaited rfl rfl rfl (by decide +kernel) ⟨Nat.le_of_ble_eq_true rfl, Nat.le_of_ble_eq_true rfl⟩) hK hP hD hS hA [0, 1, 2, 3, 4, 5, 6, 7, 8, 9, 10, 11, 12, 13, 14, 15, 16, 17, 18, 19, 20, 21] [] rfl rfl (by decide) (by decide) (by decide) 0 9 rfl rfl rfl hl.1 rfl (Nat.le_of_ble_eq_true rfl) dX9_count_124 ⟨Nat.le_of_ble_eq_true rfl, Nat.le_of_ble_eq_true rfl⟩ (fun r13 H locs hr13 hP hD hS => ?_)
    have hP : va_P D vwCl (FW q cy g 0) H := hP
    have hD : va_D _ (FW q cy g 0) := hD
    obtain rfl : r13 = 0 := hr13
    exact W.iret (v := 0) hx hb hr (fun t ht hW => ⟨⟨0, (), rfl, (by decide), by rw [ht]; exact hP, va_K.moved hW.alike hK, hD⟩, hS.F ht⟩) hS.2.2 dX9_count_127
  by_cases j14 : k = 9
  · skip
    subst j14
    refine lv_tableIn (tgt := 122) hx hb dX9_count_1 (by decide) (by decide) rfl (by decide) ?_
    refine lv_aload_n hx hb dX9_count_122 rfl (lv_at hl 0 rfl) ?_
    refine lv_iload_n hx hb dX9_count_123 rfl (lv_at hl 1 rfl) ?_
    refine cvI (wr := []) (As := [.int 9]) (rest := []) ⟨hx, hb, hml, hown, hts⟩ (mX9_greatestWaited l D q cy g _ 9 ) (cwV 1 hts gX9_count_X9_greatestWaited rfl rfl rfl (by decide +kernel) ⟨Nat.le_of_ble_eq_true rfl, Nat.le_of_ble_eq_true rfl⟩) hK hP hD hS hA [0, 1, 2, 3, 4, 5, 6, 7, 8, 9, 10, 11, 12, 13, 14, 15, 16, 17, 18, 19, 20, 21] [] rfl rfl (by decide) (by decide) (by decide) 0 9 rfl rfl rfl hl.1 rfl (Nat.le_of_ble_eq_true rfl) dX9_count_124 ⟨Nat.le_of_ble_eq_true rfl, Nat.le_of_ble_eq_true rfl⟩ (fun r15 H locs hr15 hP hD hS => ?_)
    have hP : va_P D vwCl (FW q cy g 0) H := hP
    have hD : va_D _ (FW q cy g 0) := hD
    obtain rfl : r15 = 0 := hr15
    exact W.iret (v := 0) hx hb hr (fun t ht hW => ⟨⟨0, (), rfl, (by decide), by rw [ht]; exact hP, va_K.moved hW.alike hK, hD⟩, hS.F ht⟩) hS.2.2 dX9_count_127
  by_cases j16 : k = 10
  · skip
    subst j16
    refine lv_tableIn (tgt := 128) hx hb dX9_count_1 (by decide) (by decide) rfl (by decide) ?_
    refine lv_aload_n hx hb dX9_count_128 rfl (lv_at hl 0 rfl) ?_
    refine va_get (D := D) (ci := 9) (v := .int 0) (C := RX9) (T := TX9) (N := 19) hx hb hts iX9_count_9 hown hK hP 0 rfl rfl 16 (by decide) (hts (.fieldLink RX9 278 "FondsRoom" "copiesMade" "I") (by decide +kernel)) (fun _ h9 => h9) rfl dX9_count_129 ?_
    exact W.iret (v := 0) hx hb hr (fun t ht hW => ⟨⟨0, (), rfl, (by decide), by rw [ht]; exact hP, va_K.moved hW.alike hK, hD⟩, hS.F ht⟩) hS.2.2 dX9_count_132
  by_cases j17 : k = 11
  · skip
    subst j17
    refine lv_tableIn (tgt := 133) hx hb dX9_count_1 (by decide) (by decide) rfl (by decide) ?_
    refine lv_aload_n hx hb dX9_count_133 rfl (lv_at hl 0 rfl) ?_
    refine va_get (D := D) (ci := 9) (v := .int 0) (C := RX9) (T := TX9) (N := 19) hx hb hts iX9_count_9 hown hK hP 0 rfl rfl 17 (by decide) (hts (.fieldLink RX9 392 "FondsRoom" "waysBegun" "I") (by decide +kernel)) (fun _ h9 => h9) rfl dX9_count_134 ?_
    exact W.iret (v := 0) hx hb hr (fun t ht hW => ⟨⟨0, (), rfl, (by decide), by rw [ht]; exact hP, va_K.moved hW.alike hK, hD⟩, hS.F ht⟩) hS.2.2 dX9_count_137
  by_cases j18 : k = 12
  · skip
    subst j18
    refine lv_tableIn (tgt := 138) hx hb dX9_count_1 (by decide) (by decide) rfl (by decide) ?_
    refine lv_aload_n hx hb dX9_count_138 rfl (lv_at hl 0 rfl) ?_
    refine va_get (D := D) (ci := 9) (v := .int (-1)) (C := RX9) (T := TX9) (N := 19) hx hb hts iX9_count_9 hown hK hP 0 rfl rfl 15 (by decide) (hts (.fieldLink RX9 75 "FondsRoom" "bellTurn" "I") (by decide +kernel)) (fun _ h9 => h9) rfl dX9_count_139 ?_
    exact W.iret (v := (-1)) hx hb hr (fun t ht hW => ⟨⟨(-1), (), rfl, (by decide), by rw [ht]; exact hP, va_K.moved hW.alike hK, hD⟩, hS.F ht⟩) hS.2.2 dX9_count_142
  by_cases j19 : k = 13
  · skip
    subst j19
    refine lv_tableIn (tgt := 143) hx hb dX9_count_1 (by decide) (by decide) rfl (by decide) ?_
    refine lv_aload_n hx hb dX9_count_143 rfl (lv_at hl 0 rfl) ?_
    refine va_get (D := D) (ci := 9) (v := .ref (q 17)) (C := RX9) (T := TX9) (N := 19) hx hb hts iX9_count_9 hown hK hP 0 rfl rfl 8 (by decide) (hts (.fieldLink RX9 60 "FondsRoom" "mishaps" "LFondsRoom$Mishaps;") (by decide +kernel)) (fun _ h9 => h9) rfl dX9_count_144 ?_
    refine va_get (D := D) (ci := 4) (v := .int 0) (C := RX4) (T := TX4) (N := 4) hx hb hts iX9_count_4 hown hK hP 17 rfl rfl 3 (by decide) (hts (.fieldLink RX9 190 "FondsRoom$Mishaps" "size" "I") (by decide +kernel)) (fun _ h9 => h9) rfl dX9_count_147 ?_
    exact W.iret (v := 0) hx hb hr (fun t ht hW => ⟨⟨0, (), rfl, (by decide), by rw [ht]; exact hP, va_K.moved hW.alike hK, hD⟩, hS.F ht⟩) hS.2.2 dX9_count_150
  by_cases j20 : k = 14
  · skip
    subst j20
    refine lv_tableIn (tgt := 151) hx hb dX9_count_1 (by decide) (by decide) rfl (by decide) ?_
    refine lv_aload_n hx hb dX9_count_151 rfl (lv_at hl 0 rfl) ?_
    refine va_get (D := D) (ci := 9) (v := .int 0) (C := RX9) (T := TX9) (N := 19) hx hb hts iX9_count_9 hown hK hP 0 rfl rfl 18 (by decide) (hts (.fieldLink RX9 408 "FondsRoom" "urgentRow" "I") (by decide +kernel)) (fun _ h9 => h9) rfl dX9_count_152 ?_
    exact W.iret (v := 0) hx hb hr (fun t ht hW => ⟨⟨0, (), rfl, (by decide), by rw [ht]; exact hP, va_K.moved hW.alike hK, hD⟩, hS.F ht⟩) hS.2.2 dX9_count_155
  have hout := ts_out (x := k) (n := 15) (by decide) (fun j9 hj9 => by rcases (show j9 = 0 ∨ j9 = 1 ∨ j9 = 2 ∨ j9 = 3 ∨ j9 = 4 ∨ j9 = 5 ∨ j9 = 6 ∨ j9 = 7 ∨ j9 = 8 ∨ j9 = 9 ∨ j9 = 10 ∨ j9 = 11 ∨ j9 = 12 ∨ j9 = 13 ∨ j9 = 14 by omega) with rfl | rfl | rfl | rfl | rfl | rfl | rfl | rfl | rfl | rfl | rfl | rfl | rfl | rfl | rfl <;> first | exact j1 | exact j2 | exact j3 | exact j4 | exact j5 | exact j6 | exact j8 | exact j10 | exact j12 | exact j14 | exact j16 | exact j17 | exact j18 | exact j19 | exact j20)
  refine lv_tableOut (tgt := 156) hx hb dX9_count_1 (by omega) (by decide) ?_
  refine lv_iconst (v := (-1)) hx hb dX9_count_156 (by decide) ?_
  exact W.iret (v := (-1)) hx hb hr (fun t ht hW => ⟨⟨(-1), (), rfl, (by unfold sp_count; rw [if_neg j1, if_neg j2, if_neg j3, if_neg j4, if_neg j5, if_neg j6, if_neg j8, if_neg j10, if_neg j12, if_neg j14, if_neg j16, if_neg j17, if_neg j18, if_neg j19, if_neg j20]), by rw [ht]; exact hP, va_K.moved hW.alike hK, hD⟩, hS.F ht⟩) hS.2.2 dX9_count_157

theorem iX4_dropTurn_4 : ∀ w ∈ wsX40, w ∈ wsX4_dropTurn := fun _ h => List.mem_cons_of_mem _ (List.mem_append_right _ h)
set_option maxHeartbeats 4000000 in
set_option maxRecDepth 100000 in
theorem mX4_dropTurn (l : Launch) (D : va_G) (q : Nat → Nat) (cy : Nat → ClassId) (g : Nat → Nat → Option Nat) (t : Int32) (sz : Nat) (a : Int32) : Met l yX4_dropTurn wsX4_dropTurn ({ frames := 0, cells := 0, slots := 0, locals := 0 }) (PW D (TYS cy) (FW q cy g t) sz [.ref (q 17), .int a]) (QV D (TYS cy) (FW q cy g t) (FW q cy g t) sz) 0 0 (va_A (FW q cy g t) sz) := by
  refine Met.ofW (cc := cX4_dropTurn) (maxL := 4) (ret := none) (by decide) rfl ?_
  intro p e s m args below meth c s₁ B hml hv
  obtain ⟨rfl, hsz, hP, hK, hD0⟩ := hv
  have hx := B.exec
  have hb := B.bytes
  have hr := B.returns
  have hts := atoms_spec (ws := wsX4_dropTurn) B.pre
  have hown : s.vm.findClass RX4 = some m.cls := findClass_of_methodNamed B.named
  have hlocks := B.notSynchronized
  subst hsz
  have hD := hD0.self (sz := s.heap.size)
  have hA : ∀ q9 : Nat, s.heap.size ≤ q9 → va_A (FW q cy g t) s.heap.size q9 := fun q9 h => Or.inr h
  have hS : va_S (va_A (FW q cy g t) s.heap.size) s.heap s.heap [] := va_S.rf
  have hl := lv_entry ([.ref (q 17), .int a]) (n := 4) (Nat.le_of_ble_eq_true rfl)
  rw [lg_entry_eq]
  generalize (lg_sl ([.ref (q 17), .int a]) ++ List.replicate (4 - (lg_sl ([.ref (q 17), .int a])).length) Slot.unset).toArray = ls at hl ⊢
  have hl : lv_has ls 4 [(0, .ref (q 17)), (1, .int a)] := hl
  refine lv_iconst (v := 0) hx hb dX4_dropTurn_0 (by decide) ?_
  refine lv_istore_n (lv' := [(2, .int 0), (0, .ref (q 17)), (1, .int a)]) hx hb dX4_dropTurn_1 rfl hl (by decide) rfl (fun ls hl => ?_)
  refine lv_iconst (v := 0) hx hb dX4_dropTurn_2 (by decide) ?_
  refine lv_istore_n (lv' := [(3, .int 0), (2, .int 0), (0, .ref (q 17)), (1, .int a)]) hx hb dX4_dropTurn_3 rfl hl (by decide) rfl (fun ls hl => ?_)
  refine lv_iload_n hx hb dX4_dropTurn_4 rfl (lv_at hl 0 rfl) ?_
  refine lv_aload_n hx hb dX4_dropTurn_5 rfl (lv_at hl 2 rfl) ?_
  refine va_get (D := D) (ci := 4) (v := .int 0) (C := RX4) (T := TX4) (N := 4) hx hb hts iX4_dropTurn_4 hown hK hP 17 rfl rfl 3 (by decide) (hts (.fieldLink RX4 21 "FondsRoom$Mishaps" "size" "I") (by decide +kernel)) (fun _ h9 => h9) rfl dX4_dropTurn_6 ?_
  refine lv_icmp_ge (tgt := 67) hx hb dX4_dropTurn_9 (by decide) (fun _ => ?_) (fun c9 => absurd (by decide) c9)
  refine lv_aload_n hx hb dX4_dropTurn_67 rfl (lv_at hl 2 rfl) ?_
  refine lv_iload_n hx hb dX4_dropTurn_68 rfl (lv_at hl 1 rfl) ?_
  refine va_put (D := D) (ci := 4) (v := .int 0) (ty := .int) (C := RX4) (T := TX4) (N := 4) hx hb hts iX4_dropTurn_4 tyX4 tyX4_ok nmX4 hown hK hP hD hS 17 rfl rfl 3 (by decide) (hts (.fieldLink RX4 21 "FondsRoom$Mishaps" "size" "I") (by decide +kernel)) (fun _ h9 => h9) rfl (by decide +kernel) rfl rfl (Nat.le_of_ble_eq_true rfl) dX4_dropTurn_69 (fun H locs hP hD hS => ?_)
  have hP : va_P D vwCl (FW q cy g t) H := hP
  have hD : va_D _ (FW q cy g t) := hD
  exact W.vret hx hb hr (fun t ht hW => ⟨⟨(), rfl, trivial, by rw [ht]; exact hP, va_K.moved hW.alike hK, hD⟩, hS.F ht⟩) hS.2.2 dX4_dropTurn_72

theorem iX9_sufferMishaps_4 : ∀ w ∈ wsX40, w ∈ wsX9_sufferMishaps := fun _ h => List.mem_cons_of_mem _ (List.mem_append_left _ (List.mem_append_left _ (List.mem_append_left _ (List.mem_append_left _ (List.mem_append_left _ (List.mem_append_left _ (List.mem_append_left _ (List.mem_append_right _ h))))))))
theorem iX9_sufferMishaps_9 : ∀ w ∈ wsX90, w ∈ wsX9_sufferMishaps := fun _ h => List.mem_cons_of_mem _ (List.mem_append_left _ (List.mem_append_left _ (List.mem_append_left _ (List.mem_append_left _ (List.mem_append_left _ (List.mem_append_left _ (List.mem_append_left _ (List.mem_append_left _ (List.mem_append_right _ h)))))))))
set_option maxHeartbeats 4000000 in
set_option maxRecDepth 100000 in
theorem mX9_sufferMishaps (l : Launch) (D : va_G) (q : Nat → Nat) (cy : Nat → ClassId) (g : Nat → Nat → Option Nat) (t : Int32) (sz : Nat) : Met l yX9_sufferMishaps wsX9_sufferMishaps ({ frames := 1, cells := 0, slots := 0, locals := 23 }) (PW D (TYS cy) (FW q cy g t) sz [.ref (q 0)]) (QV D (TYS cy) (FW q cy g t) (FW q cy g t) sz) 0 0 (va_A (FW q cy g t) sz) := by
  refine Met.ofW (cc := cX9_sufferMishaps) (maxL := 2) (ret := none) (by decide) rfl ?_
  intro p e s m args below meth c s₁ B hml hv
  obtain ⟨rfl, hsz, hP, hK, hD0⟩ := hv
  have hx := B.exec
  have hb := B.bytes
  have hr := B.returns
  have hts := atoms_spec (ws := wsX9_sufferMishaps) B.pre
  have hown : s.vm.findClass RX9 = some m.cls := findClass_of_methodNamed B.named
  have hlocks := B.notSynchronized
  subst hsz
  have hD := hD0.self (sz := s.heap.size)
  have hA : ∀ q9 : Nat, s.heap.size ≤ q9 → va_A (FW q cy g t) s.heap.size q9 := fun q9 h => Or.inr h
  have hS : va_S (va_A (FW q cy g t) s.heap.size) s.heap s.heap [] := va_S.rf
  have hl := lv_entry ([.ref (q 0)]) (n := 2) (Nat.le_of_ble_eq_true rfl)
  rw [lg_entry_eq]
  generalize (lg_sl ([.ref (q 0)]) ++ List.replicate (2 - (lg_sl ([.ref (q 0)])).length) Slot.unset).toArray = ls at hl ⊢
  have hl : lv_has ls 2 [(0, .ref (q 0))] := hl
  refine lv_iconst (v := 0) hx hb dX9_sufferMishaps_0 (by decide) ?_
  refine lv_istore_n (lv' := [(1, .int 0), (0, .ref (q 0))]) hx hb dX9_sufferMishaps_1 rfl hl (by decide) rfl (fun ls hl => ?_)
  refine lv_iload_n hx hb dX9_sufferMishaps_2 rfl (lv_at hl 0 rfl) ?_
  refine lv_aload_n hx hb dX9_sufferMishaps_3 rfl (lv_at hl 1 rfl) ?_
  refine va_get (D := D) (ci := 9) (v := .ref (q 17)) (C := RX9) (T := TX9) (N := 19) hx hb hts iX9_sufferMishaps_9 hown hK hP 0 rfl rfl 8 (by decide) (hts (.fieldLink RX9 60 "FondsRoom" "mishaps" "LFondsRoom$Mishaps;") (by decide +kernel)) (fun _ h9 => h9) rfl dX9_sufferMishaps_4 ?_
  refine va_get (D := D) (ci := 4) (v := .int 0) (C := RX4) (T := TX4) (N := 4) hx hb hts iX9_sufferMishaps_4 hown hK hP 17 rfl rfl 3 (by decide) (hts (.fieldLink RX9 190 "FondsRoom$Mishaps" "size" "I") (by decide +kernel)) (fun _ h9 => h9) rfl dX9_sufferMishaps_7 ?_
  refine lv_icmp_ge (tgt := 57) hx hb dX9_sufferMishaps_10 (by decide) (fun _ => ?_) (fun c9 => absurd (by decide) c9)
  refine lv_aload_n hx hb dX9_sufferMishaps_57 rfl (lv_at hl 1 rfl) ?_
  refine va_get (D := D) (ci := 9) (v := .ref (q 17)) (C := RX9) (T := TX9) (N := 19) hx hb hts iX9_sufferMishaps_9 hown hK hP 0 rfl rfl 8 (by decide) (hts (.fieldLink RX9 60 "FondsRoom" "mishaps" "LFondsRoom$Mishaps;") (by decide +kernel)) (fun _ h9 => h9) rfl dX9_sufferMishaps_58 ?_
  refine lv_aload_n hx hb dX9_sufferMishaps_61 rfl (lv_at hl 1 rfl) ?_
  refine va_get (D := D) (ci := 9) (v := .int t) (C := RX9) (T := TX9) (N := 19) hx hb hts iX9_sufferMishaps_9 hown hK hP 0 rfl rfl 14 (by decide) (hts (.fieldLink RX9 78 "FondsRoom" "turn" "I") (by decide +kernel)) (fun _ h9 => h9) rfl dX9_sufferMishaps_62 ?_
  refine cvV (wr := []) (As := [.int t]) (rest := []) ⟨hx, hb, hml, hown, hts⟩ (mX4_dropTurn l D q cy g t _ t ) (cwV 1 hts gX9_sufferMishaps_X4_dropTurn rfl rfl rfl (by decide +kernel) ⟨Nat.le_of_ble_eq_true rfl, Nat.le_of_ble_eq_true rfl⟩) hK hP hD hS hA [0, 1, 2, 3, 4, 5, 6, 7, 8, 9, 10, 11, 12, 13, 14, 15, 16, 17, 18, 19, 20, 21] [] rfl rfl (by decide) (by decide) (by decide) 17 4 rfl rfl rfl hl.1 rfl (Nat.le_of_ble_eq_true rfl) dX9_sufferMishaps_65 ⟨Nat.le_of_ble_eq_true rfl, Nat.le_of_ble_eq_true rfl⟩ (fun H locs hP hD hS => ?_)
  have hP : va_P D vwCl (FW q cy g t) H := hP
  have hD : va_D _ (FW q cy g t) := hD
  exact W.vret hx hb hr (fun t ht hW => ⟨⟨(), rfl, trivial, by rw [ht]; exact hP, va_K.moved hW.alike hK, hD⟩, hS.F ht⟩) hS.2.2 dX9_sufferMishaps_68

theorem iX9_fetchersWalk_7 : ∀ w ∈ wsX70, w ∈ wsX9_fetchersWalk := fun _ h => List.mem_cons_of_mem _ (List.mem_append_left _ (List.mem_append_left _ (List.mem_append_left _ (List.mem_append_left _ (List.mem_append_left _ (List.mem_append_right _ h))))))
theorem iX9_fetchersWalk_8 : ∀ w ∈ wsX80, w ∈ wsX9_fetchersWalk := fun _ h => List.mem_cons_of_mem _ (List.mem_append_left _ (List.mem_append_left _ (List.mem_append_left _ (List.mem_append_left _ (List.mem_append_right _ h)))))
theorem iX9_fetchersWalk_9 : ∀ w ∈ wsX90, w ∈ wsX9_fetchersWalk := fun _ h => List.mem_cons_of_mem _ (List.mem_append_left _ (List.mem_append_left _ (List.mem_append_left _ (List.mem_append_left _ (List.mem_append_left _ (List.mem_append_left _ (List.mem_append_right _ h)))))))
set_option maxHeartbeats 4000000 in
set_option maxRecDepth 100000 in
theorem mX9_fetchersWalk (l : Launch) (D : va_G) (q : Nat → Nat) (cy : Nat → ClassId) (g : Nat → Nat → Option Nat) (t : Int32) (sz : Nat) : Met l yX9_fetchersWalk wsX9_fetchersWalk ({ frames := 0, cells := 0, slots := 0, locals := 0 }) (PW D (TYS cy) (FW q cy g t) sz [.ref (q 0)]) (QV D (TYS cy) (FW q cy g t) (FW q cy g t) sz) 0 0 (va_A (FW q cy g t) sz) := by
  refine Met.ofW (cc := cX9_fetchersWalk) (maxL := 4) (ret := none) (by decide) rfl ?_
  intro p e s m args below meth c s₁ B hml hv
  obtain ⟨rfl, hsz, hP, hK, hD0⟩ := hv
  have hx := B.exec
  have hb := B.bytes
  have hr := B.returns
  have hts := atoms_spec (ws := wsX9_fetchersWalk) B.pre
  have hown : s.vm.findClass RX9 = some m.cls := findClass_of_methodNamed B.named
  have hlocks := B.notSynchronized
  subst hsz
  have hD := hD0.self (sz := s.heap.size)
  have hA : ∀ q9 : Nat, s.heap.size ≤ q9 → va_A (FW q cy g t) s.heap.size q9 := fun q9 h => Or.inr h
  have hS : va_S (va_A (FW q cy g t) s.heap.size) s.heap s.heap [] := va_S.rf
  have hl := lv_entry ([.ref (q 0)]) (n := 4) (Nat.le_of_ble_eq_true rfl)
  rw [lg_entry_eq]
  generalize (lg_sl ([.ref (q 0)]) ++ List.replicate (4 - (lg_sl ([.ref (q 0)])).length) Slot.unset).toArray = ls at hl ⊢
  have hl : lv_has ls 4 [(0, .ref (q 0))] := hl
  refine lv_iconst (v := 0) hx hb dX9_fetchersWalk_0 (by decide) ?_
  refine lv_istore_n (lv' := [(1, .int 0), (0, .ref (q 0))]) hx hb dX9_fetchersWalk_1 rfl hl (by decide) rfl (fun ls hl => ?_)
  refine lv_iload_n hx hb dX9_fetchersWalk_2 rfl (lv_at hl 0 rfl) ?_
  refine lv_aload_n hx hb dX9_fetchersWalk_3 rfl (lv_at hl 1 rfl) ?_
  refine va_get (D := D) (ci := 9) (v := .ref (q 7)) (C := RX9) (T := TX9) (N := 19) hx hb hts iX9_fetchersWalk_9 hown hK hP 0 rfl rfl 3 (by decide) (hts (.fieldLink RX9 37 "FondsRoom" "fetchers" "LFondsRoom$Staff;") (by decide +kernel)) (fun _ h9 => h9) rfl dX9_fetchersWalk_4 ?_
  refine va_get (D := D) (ci := 7) (v := .int 2) (C := RX7) (T := TX7) (N := 2) hx hb hts iX9_fetchersWalk_7 hown hK hP 7 rfl rfl 1 (by decide) (hts (.fieldLink RX9 101 "FondsRoom$Staff" "hired" "I") (by decide +kernel)) (fun _ h9 => h9) rfl dX9_fetchersWalk_7 ?_
  refine lv_icmp_ge (tgt := 71) hx hb dX9_fetchersWalk_10 (by decide) (fun c9 => absurd c9 (by decide)) (fun _ => ?_)
  refine lv_aload_n hx hb dX9_fetchersWalk_13 rfl (lv_at hl 1 rfl) ?_
  refine va_get (D := D) (ci := 9) (v := .ref (q 7)) (C := RX9) (T := TX9) (N := 19) hx hb hts iX9_fetchersWalk_9 hown hK hP 0 rfl rfl 3 (by decide) (hts (.fieldLink RX9 37 "FondsRoom" "fetchers" "LFondsRoom$Staff;") (by decide +kernel)) (fun _ h9 => h9) rfl dX9_fetchersWalk_14 ?_
  refine va_get (D := D) (ci := 7) (v := .ref (q 8)) (C := RX7) (T := TX7) (N := 2) hx hb hts iX9_fetchersWalk_7 hown hK hP 7 rfl rfl 0 (by decide) (hts (.fieldLink RX9 216 "FondsRoom$Staff" "workers" "[LFondsRoom$Worker;") (by decide +kernel)) (fun _ h9 => h9) rfl dX9_fetchersWalk_17 ?_
  refine lv_iload_n hx hb dX9_fetchersWalk_20 rfl (lv_at hl 0 rfl) ?_
  refine va_aldq hx hb hK hP 8 5 rfl rfl (vp_in_iff.mpr (by decide)) dX9_fetchersWalk_21 ?_
  refine W.eq (g2 := F0 m 22 ls [.ref (q 9)]) rfl ?_
  refine lv_astore_n (lv' := [(2, .ref (q 9)), (1, .int 0), (0, .ref (q 0))]) hx hb dX9_fetchersWalk_22 rfl hl (by decide) rfl (fun ls hl => ?_)
  refine lv_aload_n hx hb dX9_fetchersWalk_23 rfl (lv_at hl 0 rfl) ?_
  refine va_get (D := D) (ci := 8) (v := .null) (C := RX8) (T := TX8) (N := 3) hx hb hts iX9_fetchersWalk_8 hown hK hP 9 rfl rfl 0 (by decide) (hts (.fieldLink RX9 227 "FondsRoom$Worker" "box" "LFondsRoom$Box;") (by decide +kernel)) (fun _ h9 => h9) rfl dX9_fetchersWalk_24 ?_
  refine lv_astore_nN (lv' := [(3, .null), (2, .ref (q 9)), (1, .int 0), (0, .ref (q 0))]) hx hb dX9_fetchersWalk_27 rfl hl (by decide) rfl (fun ls hl => ?_)
  refine lv_aload_nN hx hb dX9_fetchersWalk_28 rfl (lv_at hl 0 rfl) ?_
  refine lv_ifnonnullN hx hb dX9_fetchersWalk_29 ?_
  refine lv_goto (tgt := 65) hx hb dX9_fetchersWalk_32 (by decide) ?_
  refine lv_iinc (v := 1) (lv' := [(1, .int 1), (3, .null), (2, .ref (q 9)), (0, .ref (q 0))]) hx hb dX9_fetchersWalk_65 hl (k := 2) rfl (by decide) (by decide) rfl (fun ls hl => ?_)
  refine lv_goto (tgt := 2) hx hb dX9_fetchersWalk_68 (by decide) ?_
  refine lv_iload_n hx hb dX9_fetchersWalk_2 rfl (lv_at hl 0 rfl) ?_
  refine lv_aload_n hx hb dX9_fetchersWalk_3 rfl (lv_at hl 3 rfl) ?_
  refine va_get (D := D) (ci := 9) (v := .ref (q 7)) (C := RX9) (T := TX9) (N := 19) hx hb hts iX9_fetchersWalk_9 hown hK hP 0 rfl rfl 3 (by decide) (hts (.fieldLink RX9 37 "FondsRoom" "fetchers" "LFondsRoom$Staff;") (by decide +kernel)) (fun _ h9 => h9) rfl dX9_fetchersWalk_4 ?_
  refine va_get (D := D) (ci := 7) (v := .int 2) (C := RX7) (T := TX7) (N := 2) hx hb hts iX9_fetchersWalk_7 hown hK hP 7 rfl rfl 1 (by decide) (hts (.fieldLink RX9 101 "FondsRoom$Staff" "hired" "I") (by decide +kernel)) (fun _ h9 => h9) rfl dX9_fetchersWalk_7 ?_
  refine lv_icmp_ge (tgt := 71) hx hb dX9_fetchersWalk_10 (by decide) (fun c9 => absurd c9 (by decide)) (fun _ => ?_)
  refine lv_aload_n hx hb dX9_fetchersWalk_13 rfl (lv_at hl 3 rfl) ?_
  refine va_get (D := D) (ci := 9) (v := .ref (q 7)) (C := RX9) (T := TX9) (N := 19) hx hb hts iX9_fetchersWalk_9 hown hK hP 0 rfl rfl 3 (by decide) (hts (.fieldLink RX9 37 "FondsRoom" "fetchers" "LFondsRoom$Staff;") (by decide +kernel)) (fun _ h9 => h9) rfl dX9_fetchersWalk_14 ?_
  refine va_get (D := D) (ci := 7) (v := .ref (q 8)) (C := RX7) (T := TX7) (N := 2) hx hb hts iX9_fetchersWalk_7 hown hK hP 7 rfl rfl 0 (by decide) (hts (.fieldLink RX9 216 "FondsRoom$Staff" "workers" "[LFondsRoom$Worker;") (by decide +kernel)) (fun _ h9 => h9) rfl dX9_fetchersWalk_17 ?_
  refine lv_iload_n hx hb dX9_fetchersWalk_20 rfl (lv_at hl 0 rfl) ?_
  refine va_aldq hx hb hK hP 8 5 rfl rfl (vp_in_iff.mpr (by decide)) dX9_fetchersWalk_21 ?_
  refine W.eq (g2 := F0 m 22 ls [.ref (q 10)]) rfl ?_
  refine lv_astore_n (lv' := [(2, .ref (q 10)), (1, .int 1), (3, .null), (0, .ref (q 0))]) hx hb dX9_fetchersWalk_22 rfl hl (by decide) rfl (fun ls hl => ?_)
  refine lv_aload_n hx hb dX9_fetchersWalk_23 rfl (lv_at hl 0 rfl) ?_
  refine va_get (D := D) (ci := 8) (v := .null) (C := RX8) (T := TX8) (N := 3) hx hb hts iX9_fetchersWalk_8 hown hK hP 10 rfl rfl 0 (by decide) (hts (.fieldLink RX9 227 "FondsRoom$Worker" "box" "LFondsRoom$Box;") (by decide +kernel)) (fun _ h9 => h9) rfl dX9_fetchersWalk_24 ?_
  refine lv_astore_nN (lv' := [(3, .null), (2, .ref (q 10)), (1, .int 1), (0, .ref (q 0))]) hx hb dX9_fetchersWalk_27 rfl hl (by decide) rfl (fun ls hl => ?_)
  refine lv_aload_nN hx hb dX9_fetchersWalk_28 rfl (lv_at hl 0 rfl) ?_
  refine lv_ifnonnullN hx hb dX9_fetchersWalk_29 ?_
  refine lv_goto (tgt := 65) hx hb dX9_fetchersWalk_32 (by decide) ?_
  refine lv_iinc (v := 2) (lv' := [(1, .int 2), (3, .null), (2, .ref (q 10)), (0, .ref (q 0))]) hx hb dX9_fetchersWalk_65 hl (k := 2) rfl (by decide) (by decide) rfl (fun ls hl => ?_)
  refine lv_goto (tgt := 2) hx hb dX9_fetchersWalk_68 (by decide) ?_
  refine lv_iload_n hx hb dX9_fetchersWalk_2 rfl (lv_at hl 0 rfl) ?_
  refine lv_aload_n hx hb dX9_fetchersWalk_3 rfl (lv_at hl 3 rfl) ?_
  refine va_get (D := D) (ci := 9) (v := .ref (q 7)) (C := RX9) (T := TX9) (N := 19) hx hb hts iX9_fetchersWalk_9 hown hK hP 0 rfl rfl 3 (by decide) (hts (.fieldLink RX9 37 "FondsRoom" "fetchers" "LFondsRoom$Staff;") (by decide +kernel)) (fun _ h9 => h9) rfl dX9_fetchersWalk_4 ?_
  refine va_get (D := D) (ci := 7) (v := .int 2) (C := RX7) (T := TX7) (N := 2) hx hb hts iX9_fetchersWalk_7 hown hK hP 7 rfl rfl 1 (by decide) (hts (.fieldLink RX9 101 "FondsRoom$Staff" "hired" "I") (by decide +kernel)) (fun _ h9 => h9) rfl dX9_fetchersWalk_7 ?_
  refine lv_icmp_ge (tgt := 71) hx hb dX9_fetchersWalk_10 (by decide) (fun _ => ?_) (fun c9 => absurd (by decide) c9)
  exact W.vret hx hb hr (fun t ht hW => ⟨⟨(), rfl, trivial, by rw [ht]; exact hP, va_K.moved hW.alike hK, hD⟩, hS.F ht⟩) hS.2.2 dX9_fetchersWalk_71

theorem iX9_copyistsWork_7 : ∀ w ∈ wsX70, w ∈ wsX9_copyistsWork := fun _ h => List.mem_cons_of_mem _ (List.mem_append_left _ (List.mem_append_left _ (List.mem_append_left _ (List.mem_append_left _ (List.mem_append_left _ (List.mem_append_right _ h))))))
theorem iX9_copyistsWork_8 : ∀ w ∈ wsX80, w ∈ wsX9_copyistsWork := fun _ h => List.mem_cons_of_mem _ (List.mem_append_left _ (List.mem_append_left _ (List.mem_append_left _ (List.mem_append_left _ (List.mem_append_right _ h)))))
theorem iX9_copyistsWork_9 : ∀ w ∈ wsX90, w ∈ wsX9_copyistsWork := fun _ h => List.mem_cons_of_mem _ (List.mem_append_left _ (List.mem_append_left _ (List.mem_append_left _ (List.mem_append_left _ (List.mem_append_left _ (List.mem_append_left _ (List.mem_append_right _ h)))))))
set_option maxHeartbeats 4000000 in
set_option maxRecDepth 100000 in
theorem mX9_copyistsWork (l : Launch) (D : va_G) (q : Nat → Nat) (cy : Nat → ClassId) (g : Nat → Nat → Option Nat) (t : Int32) (sz : Nat) : Met l yX9_copyistsWork wsX9_copyistsWork ({ frames := 0, cells := 0, slots := 0, locals := 0 }) (PW D (TYS cy) (FW q cy g t) sz [.ref (q 0)]) (QV D (TYS cy) (FW q cy g t) (FW q cy g t) sz) 0 0 (va_A (FW q cy g t) sz) := by
  refine Met.ofW (cc := cX9_copyistsWork) (maxL := 4) (ret := none) (by decide) rfl ?_
  intro p e s m args below meth c s₁ B hml hv
  obtain ⟨rfl, hsz, hP, hK, hD0⟩ := hv
  have hx := B.exec
  have hb := B.bytes
  have hr := B.returns
  have hts := atoms_spec (ws := wsX9_copyistsWork) B.pre
  have hown : s.vm.findClass RX9 = some m.cls := findClass_of_methodNamed B.named
  have hlocks := B.notSynchronized
  subst hsz
  have hD := hD0.self (sz := s.heap.size)
  have hA : ∀ q9 : Nat, s.heap.size ≤ q9 → va_A (FW q cy g t) s.heap.size q9 := fun q9 h => Or.inr h
  have hS : va_S (va_A (FW q cy g t) s.heap.size) s.heap s.heap [] := va_S.rf
  have hl := lv_entry ([.ref (q 0)]) (n := 4) (Nat.le_of_ble_eq_true rfl)
  rw [lg_entry_eq]
  generalize (lg_sl ([.ref (q 0)]) ++ List.replicate (4 - (lg_sl ([.ref (q 0)])).length) Slot.unset).toArray = ls at hl ⊢
  have hl : lv_has ls 4 [(0, .ref (q 0))] := hl
  refine lv_iconst (v := 0) hx hb dX9_copyistsWork_0 (by decide) ?_
  refine lv_istore_n (lv' := [(1, .int 0), (0, .ref (q 0))]) hx hb dX9_copyistsWork_1 rfl hl (by decide) rfl (fun ls hl => ?_)
  refine lv_iload_n hx hb dX9_copyistsWork_2 rfl (lv_at hl 0 rfl) ?_
  refine lv_aload_n hx hb dX9_copyistsWork_3 rfl (lv_at hl 1 rfl) ?_
  refine va_get (D := D) (ci := 9) (v := .ref (q 11)) (C := RX9) (T := TX9) (N := 19) hx hb hts iX9_copyistsWork_9 hown hK hP 0 rfl rfl 4 (by decide) (hts (.fieldLink RX9 41 "FondsRoom" "copyists" "LFondsRoom$Staff;") (by decide +kernel)) (fun _ h9 => h9) rfl dX9_copyistsWork_4 ?_
  refine va_get (D := D) (ci := 7) (v := .int 1) (C := RX7) (T := TX7) (N := 2) hx hb hts iX9_copyistsWork_7 hown hK hP 11 rfl rfl 1 (by decide) (hts (.fieldLink RX9 101 "FondsRoom$Staff" "hired" "I") (by decide +kernel)) (fun _ h9 => h9) rfl dX9_copyistsWork_7 ?_
  refine lv_icmp_ge (tgt := 67) hx hb dX9_copyistsWork_10 (by decide) (fun c9 => absurd c9 (by decide)) (fun _ => ?_)
  refine lv_aload_n hx hb dX9_copyistsWork_13 rfl (lv_at hl 1 rfl) ?_
  refine va_get (D := D) (ci := 9) (v := .ref (q 11)) (C := RX9) (T := TX9) (N := 19) hx hb hts iX9_copyistsWork_9 hown hK hP 0 rfl rfl 4 (by decide) (hts (.fieldLink RX9 41 "FondsRoom" "copyists" "LFondsRoom$Staff;") (by decide +kernel)) (fun _ h9 => h9) rfl dX9_copyistsWork_14 ?_
  refine va_get (D := D) (ci := 7) (v := .ref (q 12)) (C := RX7) (T := TX7) (N := 2) hx hb hts iX9_copyistsWork_7 hown hK hP 11 rfl rfl 0 (by decide) (hts (.fieldLink RX9 216 "FondsRoom$Staff" "workers" "[LFondsRoom$Worker;") (by decide +kernel)) (fun _ h9 => h9) rfl dX9_copyistsWork_17 ?_
  refine lv_iload_n hx hb dX9_copyistsWork_20 rfl (lv_at hl 0 rfl) ?_
  refine va_aldq hx hb hK hP 12 5 rfl rfl (vp_in_iff.mpr (by decide)) dX9_copyistsWork_21 ?_
  refine W.eq (g2 := F0 m 22 ls [.ref (q 13)]) rfl ?_
  refine lv_astore_n (lv' := [(2, .ref (q 13)), (1, .int 0), (0, .ref (q 0))]) hx hb dX9_copyistsWork_22 rfl hl (by decide) rfl (fun ls hl => ?_)
  refine lv_aload_n hx hb dX9_copyistsWork_23 rfl (lv_at hl 0 rfl) ?_
  refine va_get (D := D) (ci := 8) (v := .null) (C := RX8) (T := TX8) (N := 3) hx hb hts iX9_copyistsWork_8 hown hK hP 13 rfl rfl 0 (by decide) (hts (.fieldLink RX9 227 "FondsRoom$Worker" "box" "LFondsRoom$Box;") (by decide +kernel)) (fun _ h9 => h9) rfl dX9_copyistsWork_24 ?_
  refine lv_astore_nN (lv' := [(3, .null), (2, .ref (q 13)), (1, .int 0), (0, .ref (q 0))]) hx hb dX9_copyistsWork_27 rfl hl (by decide) rfl (fun ls hl => ?_)
  refine lv_aload_nN hx hb dX9_copyistsWork_28 rfl (lv_at hl 0 rfl) ?_
  refine lv_ifnonnullN hx hb dX9_copyistsWork_29 ?_
  refine lv_goto (tgt := 61) hx hb dX9_copyistsWork_32 (by decide) ?_
  refine lv_iinc (v := 1) (lv' := [(1, .int 1), (3, .null), (2, .ref (q 13)), (0, .ref (q 0))]) hx hb dX9_copyistsWork_61 hl (k := 2) rfl (by decide) (by decide) rfl (fun ls hl => ?_)
  refine lv_goto (tgt := 2) hx hb dX9_copyistsWork_64 (by decide) ?_
  refine lv_iload_n hx hb dX9_copyistsWork_2 rfl (lv_at hl 0 rfl) ?_
  refine lv_aload_n hx hb dX9_copyistsWork_3 rfl (lv_at hl 3 rfl) ?_
  refine va_get (D := D) (ci := 9) (v := .ref (q 11)) (C := RX9) (T := TX9) (N := 19) hx hb hts iX9_copyistsWork_9 hown hK hP 0 rfl rfl 4 (by decide) (hts (.fieldLink RX9 41 "FondsRoom" "copyists" "LFondsRoom$Staff;") (by decide +kernel)) (fun _ h9 => h9) rfl dX9_copyistsWork_4 ?_
  refine va_get (D := D) (ci := 7) (v := .int 1) (C := RX7) (T := TX7) (N := 2) hx hb hts iX9_copyistsWork_7 hown hK hP 11 rfl rfl 1 (by decide) (hts (.fieldLink RX9 101 "FondsRoom$Staff" "hired" "I") (by decide +kernel)) (fun _ h9 => h9) rfl dX9_copyistsWork_7 ?_
  refine lv_icmp_ge (tgt := 67) hx hb dX9_copyistsWork_10 (by decide) (fun _ => ?_) (fun c9 => absurd (by decide) c9)
  exact W.vret hx hb hr (fun t ht hW => ⟨⟨(), rfl, trivial, by rw [ht]; exact hP, va_K.moved hW.alike hK, hD⟩, hS.F ht⟩) hS.2.2 dX9_copyistsWork_67

theorem iX9_readersRead_9 : ∀ w ∈ wsX90, w ∈ wsX9_readersRead := fun _ h => List.mem_cons_of_mem _ (List.mem_append_left _ (List.mem_append_right _ h))
set_option maxHeartbeats 4000000 in
set_option maxRecDepth 100000 in
theorem mX9_readersRead (l : Launch) (D : va_G) (q : Nat → Nat) (cy : Nat → ClassId) (g : Nat → Nat → Option Nat) (t : Int32) (sz : Nat) : Met l yX9_readersRead wsX9_readersRead ({ frames := 0, cells := 0, slots := 0, locals := 0 }) (PW D (TYS cy) (FW q cy g t) sz [.ref (q 0)]) (QV D (TYS cy) (FW q cy g t) (FW q cy g t) sz) 0 0 (va_A (FW q cy g t) sz) := by
  refine Met.ofW (cc := cX9_readersRead) (maxL := 3) (ret := none) (by decide) rfl ?_
  intro p e s m args below meth c s₁ B hml hv
  obtain ⟨rfl, hsz, hP, hK, hD0⟩ := hv
  have hx := B.exec
  have hb := B.bytes
  have hr := B.returns
  have hts := atoms_spec (ws := wsX9_readersRead) B.pre
  have hown : s.vm.findClass RX9 = some m.cls := findClass_of_methodNamed B.named
  have hlocks := B.notSynchronized
  subst hsz
  have hD := hD0.self (sz := s.heap.size)
  have hA : ∀ q9 : Nat, s.heap.size ≤ q9 → va_A (FW q cy g t) s.heap.size q9 := fun q9 h => Or.inr h
  have hS : va_S (va_A (FW q cy g t) s.heap.size) s.heap s.heap [] := va_S.rf
  have hl := lv_entry ([.ref (q 0)]) (n := 3) (Nat.le_of_ble_eq_true rfl)
  rw [lg_entry_eq]
  generalize (lg_sl ([.ref (q 0)]) ++ List.replicate (3 - (lg_sl ([.ref (q 0)])).length) Slot.unset).toArray = ls at hl ⊢
  have hl : lv_has ls 3 [(0, .ref (q 0))] := hl
  refine lv_iconst (v := 0) hx hb dX9_readersRead_0 (by decide) ?_
  refine lv_istore_n (lv' := [(1, .int 0), (0, .ref (q 0))]) hx hb dX9_readersRead_1 rfl hl (by decide) rfl (fun ls hl => ?_)
  refine lv_iload_n hx hb dX9_readersRead_2 rfl (lv_at hl 0 rfl) ?_
  refine lv_aload_n hx hb dX9_readersRead_3 rfl (lv_at hl 1 rfl) ?_
  refine va_get (D := D) (ci := 9) (v := .int 0) (C := RX9) (T := TX9) (N := 19) hx hb hts iX9_readersRead_9 hown hK hP 0 rfl rfl 12 (by decide) (hts (.fieldLink RX9 104 "FondsRoom" "readerCount" "I") (by decide +kernel)) (fun _ h9 => h9) rfl dX9_readersRead_4 ?_
  refine lv_icmp_ge (tgt := 57) hx hb dX9_readersRead_7 (by decide) (fun _ => ?_) (fun c9 => absurd (by decide) c9)
  exact W.vret hx hb hr (fun t ht hW => ⟨⟨(), rfl, trivial, by rw [ht]; exact hP, va_K.moved hW.alike hK, hD⟩, hS.F ht⟩) hS.2.2 dX9_readersRead_57

theorem iX9_readersGoOn_9 : ∀ w ∈ wsX90, w ∈ wsX9_readersGoOn := fun _ h => List.mem_cons_of_mem _ (List.mem_append_left _ (List.mem_append_left _ (List.mem_append_left _ (List.mem_append_left _ (List.mem_append_left _ (List.mem_append_left _ (List.mem_append_right _ h)))))))
set_option maxHeartbeats 4000000 in
set_option maxRecDepth 100000 in
theorem mX9_readersGoOn (l : Launch) (D : va_G) (q : Nat → Nat) (cy : Nat → ClassId) (g : Nat → Nat → Option Nat) (t : Int32) (sz : Nat) : Met l yX9_readersGoOn wsX9_readersGoOn ({ frames := 0, cells := 0, slots := 0, locals := 0 }) (PW D (TYS cy) (FW q cy g t) sz [.ref (q 0)]) (QV D (TYS cy) (FW q cy g t) (FW q cy g t) sz) 0 0 (va_A (FW q cy g t) sz) := by
  refine Met.ofW (cc := cX9_readersGoOn) (maxL := 2) (ret := none) (by decide) rfl ?_
  intro p e s m args below meth c s₁ B hml hv
  obtain ⟨rfl, hsz, hP, hK, hD0⟩ := hv
  have hx := B.exec
  have hb := B.bytes
  have hr := B.returns
  have hts := atoms_spec (ws := wsX9_readersGoOn) B.pre
  have hown : s.vm.findClass RX9 = some m.cls := findClass_of_methodNamed B.named
  have hlocks := B.notSynchronized
  subst hsz
  have hD := hD0.self (sz := s.heap.size)
  have hA : ∀ q9 : Nat, s.heap.size ≤ q9 → va_A (FW q cy g t) s.heap.size q9 := fun q9 h => Or.inr h
  have hS : va_S (va_A (FW q cy g t) s.heap.size) s.heap s.heap [] := va_S.rf
  have hl := lv_entry ([.ref (q 0)]) (n := 2) (Nat.le_of_ble_eq_true rfl)
  rw [lg_entry_eq]
  generalize (lg_sl ([.ref (q 0)]) ++ List.replicate (2 - (lg_sl ([.ref (q 0)])).length) Slot.unset).toArray = ls at hl ⊢
  have hl : lv_has ls 2 [(0, .ref (q 0))] := hl
  refine lv_iconst (v := 0) hx hb dX9_readersGoOn_0 (by decide) ?_
  refine lv_istore_n (lv' := [(1, .int 0), (0, .ref (q 0))]) hx hb dX9_readersGoOn_1 rfl hl (by decide) rfl (fun ls hl => ?_)
  refine lv_iload_n hx hb dX9_readersGoOn_2 rfl (lv_at hl 0 rfl) ?_
  refine lv_aload_n hx hb dX9_readersGoOn_3 rfl (lv_at hl 1 rfl) ?_
  refine va_get (D := D) (ci := 9) (v := .int 0) (C := RX9) (T := TX9) (N := 19) hx hb hts iX9_readersGoOn_9 hown hK hP 0 rfl rfl 12 (by decide) (hts (.fieldLink RX9 104 "FondsRoom" "readerCount" "I") (by decide +kernel)) (fun _ h9 => h9) rfl dX9_readersGoOn_4 ?_
  refine lv_icmp_ge (tgt := 40) hx hb dX9_readersGoOn_7 (by decide) (fun _ => ?_) (fun c9 => absurd (by decide) c9)
  exact W.vret hx hb hr (fun t ht hW => ⟨⟨(), rfl, trivial, by rw [ht]; exact hP, va_K.moved hW.alike hK, hD⟩, hS.F ht⟩) hS.2.2 dX9_readersGoOn_40

theorem iX9_readersCome_9 : ∀ w ∈ wsX90, w ∈ wsX9_readersCome := fun _ h => List.mem_cons_of_mem _ (List.mem_append_left _ (List.mem_append_left _ (List.mem_append_left _ (List.mem_append_right _ h))))
set_option maxHeartbeats 4000000 in
set_option maxRecDepth 100000 in
theorem mX9_readersCome (l : Launch) (D : va_G) (q : Nat → Nat) (cy : Nat → ClassId) (g : Nat → Nat → Option Nat) (t : Int32) (sz : Nat) : Met l yX9_readersCome wsX9_readersCome ({ frames := 0, cells := 0, slots := 0, locals := 0 }) (PW D (TYS cy) (FW q cy g t) sz [.ref (q 0)]) (QV D (TYS cy) (FW q cy g t) (FW q cy g t) sz) 0 0 (va_A (FW q cy g t) sz) := by
  refine Met.ofW (cc := cX9_readersCome) (maxL := 3) (ret := none) (by decide) rfl ?_
  intro p e s m args below meth c s₁ B hml hv
  obtain ⟨rfl, hsz, hP, hK, hD0⟩ := hv
  have hx := B.exec
  have hb := B.bytes
  have hr := B.returns
  have hts := atoms_spec (ws := wsX9_readersCome) B.pre
  have hown : s.vm.findClass RX9 = some m.cls := findClass_of_methodNamed B.named
  have hlocks := B.notSynchronized
  subst hsz
  have hD := hD0.self (sz := s.heap.size)
  have hA : ∀ q9 : Nat, s.heap.size ≤ q9 → va_A (FW q cy g t) s.heap.size q9 := fun q9 h => Or.inr h
  have hS : va_S (va_A (FW q cy g t) s.heap.size) s.heap s.heap [] := va_S.rf
  have hl := lv_entry ([.ref (q 0)]) (n := 3) (Nat.le_of_ble_eq_true rfl)
  rw [lg_entry_eq]
  generalize (lg_sl ([.ref (q 0)]) ++ List.replicate (3 - (lg_sl ([.ref (q 0)])).length) Slot.unset).toArray = ls at hl ⊢
  have hl : lv_has ls 3 [(0, .ref (q 0))] := hl
  refine lv_iconst (v := 0) hx hb dX9_readersCome_0 (by decide) ?_
  refine lv_istore_n (lv' := [(1, .int 0), (0, .ref (q 0))]) hx hb dX9_readersCome_1 rfl hl (by decide) rfl (fun ls hl => ?_)
  refine lv_iload_n hx hb dX9_readersCome_2 rfl (lv_at hl 0 rfl) ?_
  refine lv_aload_n hx hb dX9_readersCome_3 rfl (lv_at hl 1 rfl) ?_
  refine va_get (D := D) (ci := 9) (v := .int 0) (C := RX9) (T := TX9) (N := 19) hx hb hts iX9_readersCome_9 hown hK hP 0 rfl rfl 12 (by decide) (hts (.fieldLink RX9 104 "FondsRoom" "readerCount" "I") (by decide +kernel)) (fun _ h9 => h9) rfl dX9_readersCome_4 ?_
  refine lv_icmp_ge (tgt := 79) hx hb dX9_readersCome_7 (by decide) (fun _ => ?_) (fun c9 => absurd (by decide) c9)
  exact W.vret hx hb hr (fun t ht hW => ⟨⟨(), rfl, trivial, by rw [ht]; exact hP, va_K.moved hW.alike hK, hD⟩, hS.F ht⟩) hS.2.2 dX9_readersCome_79

theorem iX9_giveDesks_9 : ∀ w ∈ wsX90, w ∈ wsX9_giveDesks := fun _ h => List.mem_cons_of_mem _ (List.mem_append_left _ (List.mem_append_left _ (List.mem_append_left _ (List.mem_append_left _ (List.mem_append_right _ h)))))
set_option maxHeartbeats 4000000 in
set_option maxRecDepth 100000 in
theorem mX9_giveDesks (l : Launch) (D : va_G) (q : Nat → Nat) (cy : Nat → ClassId) (g : Nat → Nat → Option Nat) (t : Int32) (sz : Nat) : Met l yX9_giveDesks wsX9_giveDesks ({ frames := 0, cells := 0, slots := 0, locals := 0 }) (PW D (TYS cy) (FW q cy g t) sz [.ref (q 0)]) (QV D (TYS cy) (FW q cy g t) (FW q cy g t) sz) 0 0 (va_A (FW q cy g t) sz) := by
  refine Met.ofW (cc := cX9_giveDesks) (maxL := 5) (ret := none) (by decide) rfl ?_
  intro p e s m args below meth c s₁ B hml hv
  obtain ⟨rfl, hsz, hP, hK, hD0⟩ := hv
  have hx := B.exec
  have hb := B.bytes
  have hr := B.returns
  have hts := atoms_spec (ws := wsX9_giveDesks) B.pre
  have hown : s.vm.findClass RX9 = some m.cls := findClass_of_methodNamed B.named
  have hlocks := B.notSynchronized
  subst hsz
  have hD := hD0.self (sz := s.heap.size)
  have hA : ∀ q9 : Nat, s.heap.size ≤ q9 → va_A (FW q cy g t) s.heap.size q9 := fun q9 h => Or.inr h
  have hS : va_S (va_A (FW q cy g t) s.heap.size) s.heap s.heap [] := va_S.rf
  have hl := lv_entry ([.ref (q 0)]) (n := 5) (Nat.le_of_ble_eq_true rfl)
  rw [lg_entry_eq]
  generalize (lg_sl ([.ref (q 0)]) ++ List.replicate (5 - (lg_sl ([.ref (q 0)])).length) Slot.unset).toArray = ls at hl ⊢
  have hl : lv_has ls 5 [(0, .ref (q 0))] := hl
  refine lv_iconst (v := 0) hx hb dX9_giveDesks_0 (by decide) ?_
  refine lv_istore_n (lv' := [(1, .int 0), (0, .ref (q 0))]) hx hb dX9_giveDesks_1 rfl hl (by decide) rfl (fun ls hl => ?_)
  refine lv_iconst (v := 0) hx hb dX9_giveDesks_2 (by decide) ?_
  refine lv_istore_n (lv' := [(2, .int 0), (1, .int 0), (0, .ref (q 0))]) hx hb dX9_giveDesks_3 rfl hl (by decide) rfl (fun ls hl => ?_)
  refine lv_iload_n hx hb dX9_giveDesks_4 rfl (lv_at hl 0 rfl) ?_
  refine lv_aload_n hx hb dX9_giveDesks_5 rfl (lv_at hl 2 rfl) ?_
  refine va_get (D := D) (ci := 9) (v := .int 0) (C := RX9) (T := TX9) (N := 19) hx hb hts iX9_giveDesks_9 hown hK hP 0 rfl rfl 12 (by decide) (hts (.fieldLink RX9 104 "FondsRoom" "readerCount" "I") (by decide +kernel)) (fun _ h9 => h9) rfl dX9_giveDesks_6 ?_
  refine lv_icmp_ge (tgt := 57) hx hb dX9_giveDesks_9 (by decide) (fun _ => ?_) (fun c9 => absurd (by decide) c9)
  exact W.vret hx hb hr (fun t ht hW => ⟨⟨(), rfl, trivial, by rw [ht]; exact hP, va_K.moved hW.alike hK, hD⟩, hS.F ht⟩) hS.2.2 dX9_giveDesks_57

theorem iX9_firstLeftBox_9 : ∀ w ∈ wsX90, w ∈ wsX9_firstLeftBox := fun _ h => List.mem_cons_of_mem _ (List.mem_append_left _ (List.mem_append_right _ h))
set_option maxHeartbeats 4000000 in
set_option maxRecDepth 100000 in
theorem mX9_firstLeftBox (l : Launch) (D : va_G) (q : Nat → Nat) (cy : Nat → ClassId) (g : Nat → Nat → Option Nat) (t : Int32) (sz : Nat) : Met l yX9_firstLeftBox wsX9_firstLeftBox ({ frames := 0, cells := 0, slots := 0, locals := 0 }) (PW D (TYS cy) (FW q cy g t) sz [.ref (q 0)]) (QQ D (TYS cy) (FW q cy g t) (FW q cy g t) sz (fun r => r = none)) 0 0 (va_A (FW q cy g t) sz) := by
  refine Met.ofW (cc := cX9_firstLeftBox) (maxL := 2) (ret := (some (.object "FondsRoom$Box"))) (by decide) rfl ?_
  intro p e s m args below meth c s₁ B hml hv
  obtain ⟨rfl, hsz, hP, hK, hD0⟩ := hv
  have hx := B.exec
  have hb := B.bytes
  have hr := B.returns
  have hts := atoms_spec (ws := wsX9_firstLeftBox) B.pre
  have hown : s.vm.findClass RX9 = some m.cls := findClass_of_methodNamed B.named
  have hlocks := B.notSynchronized
  subst hsz
  have hD := hD0.self (sz := s.heap.size)
  have hA : ∀ q9 : Nat, s.heap.size ≤ q9 → va_A (FW q cy g t) s.heap.size q9 := fun q9 h => Or.inr h
  have hS : va_S (va_A (FW q cy g t) s.heap.size) s.heap s.heap [] := va_S.rf
  have hl := lv_entry ([.ref (q 0)]) (n := 2) (Nat.le_of_ble_eq_true rfl)
  rw [lg_entry_eq]
  generalize (lg_sl ([.ref (q 0)]) ++ List.replicate (2 - (lg_sl ([.ref (q 0)])).length) Slot.unset).toArray = ls at hl ⊢
  have hl : lv_has ls 2 [(0, .ref (q 0))] := hl
  refine lv_iconst (v := 0) hx hb dX9_firstLeftBox_0 (by decide) ?_
  refine lv_istore_n (lv' := [(1, .int 0), (0, .ref (q 0))]) hx hb dX9_firstLeftBox_1 rfl hl (by decide) rfl (fun ls hl => ?_)
  refine lv_iload_n hx hb dX9_firstLeftBox_2 rfl (lv_at hl 0 rfl) ?_
  refine lv_aload_n hx hb dX9_firstLeftBox_3 rfl (lv_at hl 1 rfl) ?_
  refine va_get (D := D) (ci := 9) (v := .int 0) (C := RX9) (T := TX9) (N := 19) hx hb hts iX9_firstLeftBox_9 hown hK hP 0 rfl rfl 11 (by decide) (hts (.fieldLink RX9 88 "FondsRoom" "boxCount" "I") (by decide +kernel)) (fun _ h9 => h9) rfl dX9_firstLeftBox_4 ?_
  refine lv_icmp_ge (tgt := 36) hx hb dX9_firstLeftBox_7 (by decide) (fun _ => ?_) (fun c9 => absurd (by decide) c9)
  refine lv_null hx hb dX9_firstLeftBox_36 ?_
  exact W.aret (v := .null) hx hb hr (Or.inl ⟨_, rfl⟩) (Or.inl rfl) (fun t ht hW => ⟨⟨none, (), rfl, (by first | rfl | trivial | decide), by rw [ht]; exact hP, va_K.moved hW.alike hK, hD⟩, hS.F ht⟩) hS.2.2 dX9_firstLeftBox_37

theorem iX9_firstAskerOfHomeBox_3 : ∀ w ∈ wsX30, w ∈ wsX9_firstAskerOfHomeBox := fun _ h => List.mem_cons_of_mem _ (List.mem_append_left _ (List.mem_append_left _ (List.mem_append_right _ h)))
theorem iX9_firstAskerOfHomeBox_9 : ∀ w ∈ wsX90, w ∈ wsX9_firstAskerOfHomeBox := fun _ h => List.mem_cons_of_mem _ (List.mem_append_left _ (List.mem_append_left _ (List.mem_append_left _ (List.mem_append_right _ h))))
set_option maxHeartbeats 4000000 in
set_option maxRecDepth 100000 in
theorem mX9_firstAskerOfHomeBox (l : Launch) (D : va_G) (q : Nat → Nat) (cy : Nat → ClassId) (g : Nat → Nat → Option Nat) (t : Int32) (sz : Nat) : Met l yX9_firstAskerOfHomeBox wsX9_firstAskerOfHomeBox ({ frames := 0, cells := 0, slots := 0, locals := 0 }) (PW D (TYS cy) (FW q cy g t) sz [.ref (q 0)]) (QQ D (TYS cy) (FW q cy g t) (FW q cy g t) sz (fun r => r = none)) 0 0 (va_A (FW q cy g t) sz) := by
  refine Met.ofW (cc := cX9_firstAskerOfHomeBox) (maxL := 3) (ret := (some (.object "FondsRoom$Reader"))) (by decide) rfl ?_
  intro p e s m args below meth c s₁ B hml hv
  obtain ⟨rfl, hsz, hP, hK, hD0⟩ := hv
  have hx := B.exec
  have hb := B.bytes
  have hr := B.returns
  have hts := atoms_spec (ws := wsX9_firstAskerOfHomeBox) B.pre
  have hown : s.vm.findClass RX9 = some m.cls := findClass_of_methodNamed B.named
  have hlocks := B.notSynchronized
  subst hsz
  have hD := hD0.self (sz := s.heap.size)
  have hA : ∀ q9 : Nat, s.heap.size ≤ q9 → va_A (FW q cy g t) s.heap.size q9 := fun q9 h => Or.inr h
  have hS : va_S (va_A (FW q cy g t) s.heap.size) s.heap s.heap [] := va_S.rf
  have hl := lv_entry ([.ref (q 0)]) (n := 3) (Nat.le_of_ble_eq_true rfl)
  rw [lg_entry_eq]
  generalize (lg_sl ([.ref (q 0)]) ++ List.replicate (3 - (lg_sl ([.ref (q 0)])).length) Slot.unset).toArray = ls at hl ⊢
  have hl : lv_has ls 3 [(0, .ref (q 0))] := hl
  refine lv_iconst (v := 0) hx hb dX9_firstAskerOfHomeBox_0 (by decide) ?_
  refine lv_istore_n (lv' := [(1, .int 0), (0, .ref (q 0))]) hx hb dX9_firstAskerOfHomeBox_1 rfl hl (by decide) rfl (fun ls hl => ?_)
  refine lv_iload_n hx hb dX9_firstAskerOfHomeBox_2 rfl (lv_at hl 0 rfl) ?_
  refine lv_aload_n hx hb dX9_firstAskerOfHomeBox_3 rfl (lv_at hl 1 rfl) ?_
  refine va_get (D := D) (ci := 9) (v := .ref (q 15)) (C := RX9) (T := TX9) (N := 19) hx hb hts iX9_firstAskerOfHomeBox_9 hown hK hP 0 rfl rfl 6 (by decide) (hts (.fieldLink RX9 51 "FondsRoom" "boxTickets" "LFondsRoom$Line;") (by decide +kernel)) (fun _ h9 => h9) rfl dX9_firstAskerOfHomeBox_4 ?_
  refine va_get (D := D) (ci := 3) (v := .int 0) (C := RX3) (T := TX3) (N := 2) hx hb hts iX9_firstAskerOfHomeBox_3 hown hK hP 15 rfl rfl 1 (by decide) (hts (.fieldLink RX9 373 "FondsRoom$Line" "size" "I") (by decide +kernel)) (fun _ h9 => h9) rfl dX9_firstAskerOfHomeBox_7 ?_
  refine lv_icmp_ge (tgt := 42) hx hb dX9_firstAskerOfHomeBox_10 (by decide) (fun _ => ?_) (fun c9 => absurd (by decide) c9)
  refine lv_null hx hb dX9_firstAskerOfHomeBox_42 ?_
  exact W.aret (v := .null) hx hb hr (Or.inl ⟨_, rfl⟩) (Or.inl rfl) (fun t ht hW => ⟨⟨none, (), rfl, (by first | rfl | trivial | decide), by rw [ht]; exact hP, va_K.moved hW.alike hK, hD⟩, hS.F ht⟩) hS.2.2 dX9_firstAskerOfHomeBox_43

set_option maxHeartbeats 4000000 in
set_option maxRecDepth 100000 in
theorem mX9_sendFetcher (l : Launch) (D : va_G) (q : Nat → Nat) (cy : Nat → ClassId) (g : Nat → Nat → Option Nat) (t : Int32) (sz : Nat) (w9 : Nat) : Met l yX9_sendFetcher wsX9_sendFetcher ({ frames := 1, cells := 0, slots := 0, locals := 22 }) (PW D (TYS cy) (FW q cy g t) sz [.ref (q 0), .ref w9]) (QV D (TYS cy) (FW q cy g t) (FW q cy g t) sz) 0 0 (va_A (FW q cy g t) sz) := by
  refine Met.ofW (cc := cX9_sendFetcher) (maxL := 4) (ret := none) (by decide) rfl ?_
  intro p e s m args below meth c s₁ B hml hv
  obtain ⟨rfl, hsz, hP, hK, hD0⟩ := hv
  have hx := B.exec
  have hb := B.bytes
  have hr := B.returns
  have hts := atoms_spec (ws := wsX9_sendFetcher) B.pre
  have hown : s.vm.findClass RX9 = some m.cls := findClass_of_methodNamed B.named
  have hlocks := B.notSynchronized
  subst hsz
  have hD := hD0.self (sz := s.heap.size)
  have hA : ∀ q9 : Nat, s.heap.size ≤ q9 → va_A (FW q cy g t) s.heap.size q9 := fun q9 h => Or.inr h
  have hS : va_S (va_A (FW q cy g t) s.heap.size) s.heap s.heap [] := va_S.rf
  have hl := lv_entry ([.ref (q 0), .ref w9]) (n := 4) (Nat.le_of_ble_eq_true rfl)
  rw [lg_entry_eq]
  generalize (lg_sl ([.ref (q 0), .ref w9]) ++ List.replicate (4 - (lg_sl ([.ref (q 0), .ref w9])).length) Slot.unset).toArray = ls at hl ⊢
  have hl : lv_has ls 4 [(0, .ref (q 0)), (1, .ref w9)] := hl
  refine lv_aload_n hx hb dX9_sendFetcher_0 rfl (lv_at hl 0 rfl) ?_
  refine cvQ (wr := []) (As := []) (rest := []) ⟨hx, hb, hml, hown, hts⟩ (mX9_firstLeftBox l D q cy g t _  ) (cwV 0 hts gX9_sendFetcher_X9_firstLeftBox rfl rfl rfl (by decide +kernel) ⟨Nat.le_of_ble_eq_true rfl, Nat.le_of_ble_eq_true rfl⟩) hK hP hD hS hA [0, 1, 2, 3, 4, 5, 6, 7, 8, 9, 10, 11, 12, 13, 14, 15, 16, 17, 18, 19, 20, 21] [] rfl rfl (by decide) (by decide) (by decide) 0 9 rfl rfl rfl hl.1 rfl (Nat.le_of_ble_eq_true rfl) dX9_sendFetcher_1 ⟨Nat.le_of_ble_eq_true rfl, Nat.le_of_ble_eq_true rfl⟩ (fun r1 H locs hr1 hP hD hS => ?_)
  have hP : va_P D vwCl (FW q cy g t) H := hP
  have hD : va_D _ (FW q cy g t) := hD
  obtain rfl : r1 = none := hr1
  refine W.eq (g2 := F0 m 4 ls [.null]) rfl ?_
  refine lv_astore_nN (lv' := [(2, .null), (0, .ref (q 0)), (1, .ref w9)]) hx hb dX9_sendFetcher_4 rfl hl (by decide) rfl (fun ls hl => ?_)
  refine lv_aload_nN hx hb dX9_sendFetcher_5 rfl (lv_at hl 0 rfl) ?_
  refine lv_ifnullN (tgt := 35) hx hb dX9_sendFetcher_6 (by decide) ?_
  refine lv_aload_n hx hb dX9_sendFetcher_35 rfl (lv_at hl 1 rfl) ?_
  refine cvQ (wr := []) (As := []) (rest := []) ⟨hx, hb, hml, hown, hts⟩ (mX9_firstAskerOfHomeBox l D q cy g t _  ) (cwV 0 hts gX9_sendFetcher_X9_firstAskerOfHomeBox rfl rfl rfl (by decide +kernel) ⟨Nat.le_of_ble_eq_true rfl, Nat.le_of_ble_eq_true rfl⟩) hK hP hD hS hA [0, 1, 2, 3, 4, 5, 6, 7, 8, 9, 10, 11, 12, 13, 14, 15, 16, 17, 18, 19, 20, 21] [] rfl rfl (by decide) (by decide) (by decide) 0 9 rfl rfl rfl hl.1 rfl (Nat.le_of_ble_eq_true rfl) dX9_sendFetcher_36 ⟨Nat.le_of_ble_eq_true rfl, Nat.le_of_ble_eq_true rfl⟩ (fun r2 H locs hr2 hP hD hS => ?_)
  have hP : va_P D vwCl (FW q cy g t) H := hP
  have hD : va_D _ (FW q cy g t) := hD
  obtain rfl : r2 = none := hr2
  refine W.eq (g2 := F0 m 39 ls [.null]) rfl ?_
  refine lv_astore_nN (lv' := [(3, .null), (2, .null), (0, .ref (q 0)), (1, .ref w9)]) hx hb dX9_sendFetcher_39 rfl hl (by decide) rfl (fun ls hl => ?_)
  refine lv_aload_nN hx hb dX9_sendFetcher_40 rfl (lv_at hl 0 rfl) ?_
  refine lv_ifnullN (tgt := 82) hx hb dX9_sendFetcher_41 (by decide) ?_
  exact W.vret hx hb hr (fun t ht hW => ⟨⟨(), rfl, trivial, by rw [ht]; exact hP, va_K.moved hW.alike hK, hD⟩, hS.F ht⟩) hS.2.2 dX9_sendFetcher_82

theorem iX9_sendFetchers_7 : ∀ w ∈ wsX70, w ∈ wsX9_sendFetchers := fun _ h => List.mem_cons_of_mem _ (List.mem_append_left _ (List.mem_append_left _ (List.mem_append_left _ (List.mem_append_left _ (List.mem_append_right _ h)))))
theorem iX9_sendFetchers_8 : ∀ w ∈ wsX80, w ∈ wsX9_sendFetchers := fun _ h => List.mem_cons_of_mem _ (List.mem_append_left _ (List.mem_append_left _ (List.mem_append_left _ (List.mem_append_right _ h))))
theorem iX9_sendFetchers_9 : ∀ w ∈ wsX90, w ∈ wsX9_sendFetchers := fun _ h => List.mem_cons_of_mem _ (List.mem_append_left _ (List.mem_append_left _ (List.mem_append_left _ (List.mem_append_left _ (List.mem_append_left _ (List.mem_append_right _ h))))))
set_option maxHeartbeats 4000000 in
set_option maxRecDepth 100000 in
theorem mX9_sendFetchers (l : Launch) (D : va_G) (q : Nat → Nat) (cy : Nat → ClassId) (g : Nat → Nat → Option Nat) (t : Int32) (sz : Nat) : Met l yX9_sendFetchers wsX9_sendFetchers ({ frames := 2, cells := 0, slots := 0, locals := 45 }) (PW D (TYS cy) (FW q cy g t) sz [.ref (q 0)]) (QV D (TYS cy) (FW q cy g t) (FW q cy g t) sz) 0 0 (va_A (FW q cy g t) sz) := by
  refine Met.ofW (cc := cX9_sendFetchers) (maxL := 2) (ret := none) (by decide) rfl ?_
  intro p e s m args below meth c s₁ B hml hv
  obtain ⟨rfl, hsz, hP, hK, hD0⟩ := hv
  have hx := B.exec
  have hb := B.bytes
  have hr := B.returns
  have hts := atoms_spec (ws := wsX9_sendFetchers) B.pre
  have hown : s.vm.findClass RX9 = some m.cls := findClass_of_methodNamed B.named
  have hlocks := B.notSynchronized
  subst hsz
  have hD := hD0.self (sz := s.heap.size)
  have hA : ∀ q9 : Nat, s.heap.size ≤ q9 → va_A (FW q cy g t) s.heap.size q9 := fun q9 h => Or.inr h
  have hS : va_S (va_A (FW q cy g t) s.heap.size) s.heap s.heap [] := va_S.rf
  have hl := lv_entry ([.ref (q 0)]) (n := 2) (Nat.le_of_ble_eq_true rfl)
  rw [lg_entry_eq]
  generalize (lg_sl ([.ref (q 0)]) ++ List.replicate (2 - (lg_sl ([.ref (q 0)])).length) Slot.unset).toArray = ls at hl ⊢
  have hl : lv_has ls 2 [(0, .ref (q 0))] := hl
  refine lv_iconst (v := 0) hx hb dX9_sendFetchers_0 (by decide) ?_
  refine lv_istore_n (lv' := [(1, .int 0), (0, .ref (q 0))]) hx hb dX9_sendFetchers_1 rfl hl (by decide) rfl (fun ls hl => ?_)
  refine lv_iload_n hx hb dX9_sendFetchers_2 rfl (lv_at hl 0 rfl) ?_
  refine lv_aload_n hx hb dX9_sendFetchers_3 rfl (lv_at hl 1 rfl) ?_
  refine va_get (D := D) (ci := 9) (v := .ref (q 7)) (C := RX9) (T := TX9) (N := 19) hx hb hts iX9_sendFetchers_9 hown hK hP 0 rfl rfl 3 (by decide) (hts (.fieldLink RX9 37 "FondsRoom" "fetchers" "LFondsRoom$Staff;") (by decide +kernel)) (fun _ h9 => h9) rfl dX9_sendFetchers_4 ?_
  refine va_get (D := D) (ci := 7) (v := .int 2) (C := RX7) (T := TX7) (N := 2) hx hb hts iX9_sendFetchers_7 hown hK hP 7 rfl rfl 1 (by decide) (hts (.fieldLink RX9 101 "FondsRoom$Staff" "hired" "I") (by decide +kernel)) (fun _ h9 => h9) rfl dX9_sendFetchers_7 ?_
  refine lv_icmp_ge (tgt := 47) hx hb dX9_sendFetchers_10 (by decide) (fun c9 => absurd c9 (by decide)) (fun _ => ?_)
  refine lv_aload_n hx hb dX9_sendFetchers_13 rfl (lv_at hl 1 rfl) ?_
  refine va_get (D := D) (ci := 9) (v := .ref (q 7)) (C := RX9) (T := TX9) (N := 19) hx hb hts iX9_sendFetchers_9 hown hK hP 0 rfl rfl 3 (by decide) (hts (.fieldLink RX9 37 "FondsRoom" "fetchers" "LFondsRoom$Staff;") (by decide +kernel)) (fun _ h9 => h9) rfl dX9_sendFetchers_14 ?_
  refine va_get (D := D) (ci := 7) (v := .ref (q 8)) (C := RX7) (T := TX7) (N := 2) hx hb hts iX9_sendFetchers_7 hown hK hP 7 rfl rfl 0 (by decide) (hts (.fieldLink RX9 216 "FondsRoom$Staff" "workers" "[LFondsRoom$Worker;") (by decide +kernel)) (fun _ h9 => h9) rfl dX9_sendFetchers_17 ?_
  refine lv_iload_n hx hb dX9_sendFetchers_20 rfl (lv_at hl 0 rfl) ?_
  refine va_aldq hx hb hK hP 8 5 rfl rfl (vp_in_iff.mpr (by decide)) dX9_sendFetchers_21 ?_
  refine W.eq (g2 := F0 m 22 ls [.ref (q 9)]) rfl ?_
  refine va_get (D := D) (ci := 8) (v := .null) (C := RX8) (T := TX8) (N := 3) hx hb hts iX9_sendFetchers_8 hown hK hP 9 rfl rfl 0 (by decide) (hts (.fieldLink RX9 227 "FondsRoom$Worker" "box" "LFondsRoom$Box;") (by decide +kernel)) (fun _ h9 => h9) rfl dX9_sendFetchers_22 ?_
  refine lv_ifnonnullN hx hb dX9_sendFetchers_25 ?_
  refine lv_aload_n hx hb dX9_sendFetchers_28 rfl (lv_at hl 1 rfl) ?_
  refine lv_aload_n hx hb dX9_sendFetchers_29 rfl (lv_at hl 1 rfl) ?_
  refine va_get (D := D) (ci := 9) (v := .ref (q 7)) (C := RX9) (T := TX9) (N := 19) hx hb hts iX9_sendFetchers_9 hown hK hP 0 rfl rfl 3 (by decide) (hts (.fieldLink RX9 37 "FondsRoom" "fetchers" "LFondsRoom$Staff;") (by decide +kernel)) (fun _ h9 => h9) rfl dX9_sendFetchers_30 ?_
  refine va_get (D := D) (ci := 7) (v := .ref (q 8)) (C := RX7) (T := TX7) (N := 2) hx hb hts iX9_sendFetchers_7 hown hK hP 7 rfl rfl 0 (by decide) (hts (.fieldLink RX9 216 "FondsRoom$Staff" "workers" "[LFondsRoom$Worker;") (by decide +kernel)) (fun _ h9 => h9) rfl dX9_sendFetchers_33 ?_
  refine lv_iload_n hx hb dX9_sendFetchers_36 rfl (lv_at hl 0 rfl) ?_
  refine va_aldq hx hb hK hP 8 5 rfl rfl (vp_in_iff.mpr (by decide)) dX9_sendFetchers_37 ?_
  refine W.eq (g2 := F0 m 38 ls [.ref (q 9), .ref (q 0)]) rfl ?_
  refine cvV (wr := []) (As := [.ref (q 9)]) (rest := []) ⟨hx, hb, hml, hown, hts⟩ (mX9_sendFetcher l D q cy g t _ (q 9) ) (cwV 1 hts gX9_sendFetchers_X9_sendFetcher rfl rfl rfl (by decide +kernel) ⟨Nat.le_of_ble_eq_true rfl, Nat.le_of_ble_eq_true rfl⟩) hK hP hD hS hA [0, 1, 2, 3, 4, 5, 6, 7, 8, 9, 10, 11, 12, 13, 14, 15, 16, 17, 18, 19, 20, 21] [] rfl rfl (by decide) (by decide) (by decide) 0 9 rfl rfl rfl hl.1 rfl (Nat.le_of_ble_eq_true rfl) dX9_sendFetchers_38 ⟨Nat.le_of_ble_eq_true rfl, Nat.le_of_ble_eq_true rfl⟩ (fun H locs hP hD hS => ?_)
  have hP : va_P D vwCl (FW q cy g t) H := hP
  have hD : va_D _ (FW q cy g t) := hD
  refine lv_iinc (v := 1) (lv' := [(1, .int 1), (0, .ref (q 0))]) hx hb dX9_sendFetchers_41 hl (k := 0) rfl (by decide) (by decide) rfl (fun ls hl => ?_)
  refine lv_goto (tgt := 2) hx hb dX9_sendFetchers_44 (by decide) ?_
  refine lv_iload_n hx hb dX9_sendFetchers_2 rfl (lv_at hl 0 rfl) ?_
  refine lv_aload_n hx hb dX9_sendFetchers_3 rfl (lv_at hl 1 rfl) ?_
  refine va_get (D := D) (ci := 9) (v := .ref (q 7)) (C := RX9) (T := TX9) (N := 19) hx hb hts iX9_sendFetchers_9 hown hK hP 0 rfl rfl 3 (by decide) (hts (.fieldLink RX9 37 "FondsRoom" "fetchers" "LFondsRoom$Staff;") (by decide +kernel)) (fun _ h9 => h9) rfl dX9_sendFetchers_4 ?_
  refine va_get (D := D) (ci := 7) (v := .int 2) (C := RX7) (T := TX7) (N := 2) hx hb hts iX9_sendFetchers_7 hown hK hP 7 rfl rfl 1 (by decide) (hts (.fieldLink RX9 101 "FondsRoom$Staff" "hired" "I") (by decide +kernel)) (fun _ h9 => h9) rfl dX9_sendFetchers_7 ?_
  refine lv_icmp_ge (tgt := 47) hx hb dX9_sendFetchers_10 (by decide) (fun c9 => absurd c9 (by decide)) (fun _ => ?_)
  refine lv_aload_n hx hb dX9_sendFetchers_13 rfl (lv_at hl 1 rfl) ?_
  refine va_get (D := D) (ci := 9) (v := .ref (q 7)) (C := RX9) (T := TX9) (N := 19) hx hb hts iX9_sendFetchers_9 hown hK hP 0 rfl rfl 3 (by decide) (hts (.fieldLink RX9 37 "FondsRoom" "fetchers" "LFondsRoom$Staff;") (by decide +kernel)) (fun _ h9 => h9) rfl dX9_sendFetchers_14 ?_
  refine va_get (D := D) (ci := 7) (v := .ref (q 8)) (C := RX7) (T := TX7) (N := 2) hx hb hts iX9_sendFetchers_7 hown hK hP 7 rfl rfl 0 (by decide) (hts (.fieldLink RX9 216 "FondsRoom$Staff" "workers" "[LFondsRoom$Worker;") (by decide +kernel)) (fun _ h9 => h9) rfl dX9_sendFetchers_17 ?_
  refine lv_iload_n hx hb dX9_sendFetchers_20 rfl (lv_at hl 0 rfl) ?_
  refine va_aldq hx hb hK hP 8 5 rfl rfl (vp_in_iff.mpr (by decide)) dX9_sendFetchers_21 ?_
  refine W.eq (g2 := F0 m 22 ls [.ref (q 10)]) rfl ?_
  refine va_get (D := D) (ci := 8) (v := .null) (C := RX8) (T := TX8) (N := 3) hx hb hts iX9_sendFetchers_8 hown hK hP 10 rfl rfl 0 (by decide) (hts (.fieldLink RX9 227 "FondsRoom$Worker" "box" "LFondsRoom$Box;") (by decide +kernel)) (fun _ h9 => h9) rfl dX9_sendFetchers_22 ?_
  refine lv_ifnonnullN hx hb dX9_sendFetchers_25 ?_
  refine lv_aload_n hx hb dX9_sendFetchers_28 rfl (lv_at hl 1 rfl) ?_
  refine lv_aload_n hx hb dX9_sendFetchers_29 rfl (lv_at hl 1 rfl) ?_
  refine va_get (D := D) (ci := 9) (v := .ref (q 7)) (C := RX9) (T := TX9) (N := 19) hx hb hts iX9_sendFetchers_9 hown hK hP 0 rfl rfl 3 (by decide) (hts (.fieldLink RX9 37 "FondsRoom" "fetchers" "LFondsRoom$Staff;") (by decide +kernel)) (fun _ h9 => h9) rfl dX9_sendFetchers_30 ?_
  refine va_get (D := D) (ci := 7) (v := .ref (q 8)) (C := RX7) (T := TX7) (N := 2) hx hb hts iX9_sendFetchers_7 hown hK hP 7 rfl rfl 0 (by decide) (hts (.fieldLink RX9 216 "FondsRoom$Staff" "workers" "[LFondsRoom$Worker;") (by decide +kernel)) (fun _ h9 => h9) rfl dX9_sendFetchers_33 ?_
  refine lv_iload_n hx hb dX9_sendFetchers_36 rfl (lv_at hl 0 rfl) ?_
  refine va_aldq hx hb hK hP 8 5 rfl rfl (vp_in_iff.mpr (by decide)) dX9_sendFetchers_37 ?_
  refine W.eq (g2 := F0 m 38 ls [.ref (q 10), .ref (q 0)]) rfl ?_
  refine cvV (wr := []) (As := [.ref (q 10)]) (rest := []) ⟨hx, hb, hml, hown, hts⟩ (mX9_sendFetcher l D q cy g t _ (q 10) ) (cwV 1 hts gX9_sendFetchers_X9_sendFetcher rfl rfl rfl (by decide +kernel) ⟨Nat.le_of_ble_eq_true rfl, Nat.le_of_ble_eq_true rfl⟩) hK hP hD hS hA [0, 1, 2, 3, 4, 5, 6, 7, 8, 9, 10, 11, 12, 13, 14, 15, 16, 17, 18, 19, 20, 21] [] rfl rfl (by decide) (by decide) (by decide) 0 9 rfl rfl rfl hl.1 rfl (Nat.le_of_ble_eq_true rfl) dX9_sendFetchers_38 ⟨Nat.le_of_ble_eq_true rfl, Nat.le_of_ble_eq_true rfl⟩ (fun H locs hP hD hS => ?_)
  have hP : va_P D vwCl (FW q cy g t) H := hP
  have hD : va_D _ (FW q cy g t) := hD
  refine lv_iinc (v := 2) (lv' := [(1, .int 2), (0, .ref (q 0))]) hx hb dX9_sendFetchers_41 hl (k := 0) rfl (by decide) (by decide) rfl (fun ls hl => ?_)
  refine lv_goto (tgt := 2) hx hb dX9_sendFetchers_44 (by decide) ?_
  refine lv_iload_n hx hb dX9_sendFetchers_2 rfl (lv_at hl 0 rfl) ?_
  refine lv_aload_n hx hb dX9_sendFetchers_3 rfl (lv_at hl 1 rfl) ?_
  refine va_get (D := D) (ci := 9) (v := .ref (q 7)) (C := RX9) (T := TX9) (N := 19) hx hb hts iX9_sendFetchers_9 hown hK hP 0 rfl rfl 3 (by decide) (hts (.fieldLink RX9 37 "FondsRoom" "fetchers" "LFondsRoom$Staff;") (by decide +kernel)) (fun _ h9 => h9) rfl dX9_sendFetchers_4 ?_
  refine va_get (D := D) (ci := 7) (v := .int 2) (C := RX7) (T := TX7) (N := 2) hx hb hts iX9_sendFetchers_7 hown hK hP 7 rfl rfl 1 (by decide) (hts (.fieldLink RX9 101 "FondsRoom$Staff" "hired" "I") (by decide +kernel)) (fun _ h9 => h9) rfl dX9_sendFetchers_7 ?_
  refine lv_icmp_ge (tgt := 47) hx hb dX9_sendFetchers_10 (by decide) (fun _ => ?_) (fun c9 => absurd (by decide) c9)
  exact W.vret hx hb hr (fun t ht hW => ⟨⟨(), rfl, trivial, by rw [ht]; exact hP, va_K.moved hW.alike hK, hD⟩, hS.F ht⟩) hS.2.2 dX9_sendFetchers_47

theorem iX9_firstOrderer_3 : ∀ w ∈ wsX30, w ∈ wsX9_firstOrderer := fun _ h => List.mem_cons_of_mem _ (List.mem_append_left _ (List.mem_append_left _ (List.mem_append_right _ h)))
theorem iX9_firstOrderer_9 : ∀ w ∈ wsX90, w ∈ wsX9_firstOrderer := fun _ h => List.mem_cons_of_mem _ (List.mem_append_left _ (List.mem_append_left _ (List.mem_append_left _ (List.mem_append_right _ h))))
set_option maxHeartbeats 4000000 in
set_option maxRecDepth 100000 in
theorem mX9_firstOrderer (l : Launch) (D : va_G) (q : Nat → Nat) (cy : Nat → ClassId) (g : Nat → Nat → Option Nat) (t : Int32) (sz : Nat) (u : Int32) : Met l yX9_firstOrderer wsX9_firstOrderer ({ frames := 0, cells := 0, slots := 0, locals := 0 }) (PW D (TYS cy) (FW q cy g t) sz [.ref (q 0), .int u]) (QQ D (TYS cy) (FW q cy g t) (FW q cy g t) sz (fun r => r = none)) 0 0 (va_A (FW q cy g t) sz) := by
  refine Met.ofW (cc := cX9_firstOrderer) (maxL := 4) (ret := (some (.object "FondsRoom$Reader"))) (by decide) rfl ?_
  intro p e s m args below meth c s₁ B hml hv
  obtain ⟨rfl, hsz, hP, hK, hD0⟩ := hv
  have hx := B.exec
  have hb := B.bytes
  have hr := B.returns
  have hts := atoms_spec (ws := wsX9_firstOrderer) B.pre
  have hown : s.vm.findClass RX9 = some m.cls := findClass_of_methodNamed B.named
  have hlocks := B.notSynchronized
  subst hsz
  have hD := hD0.self (sz := s.heap.size)
  have hA : ∀ q9 : Nat, s.heap.size ≤ q9 → va_A (FW q cy g t) s.heap.size q9 := fun q9 h => Or.inr h
  have hS : va_S (va_A (FW q cy g t) s.heap.size) s.heap s.heap [] := va_S.rf
  have hl := lv_entry ([.ref (q 0), .int u]) (n := 4) (Nat.le_of_ble_eq_true rfl)
  rw [lg_entry_eq]
  generalize (lg_sl ([.ref (q 0), .int u]) ++ List.replicate (4 - (lg_sl ([.ref (q 0), .int u])).length) Slot.unset).toArray = ls at hl ⊢
  have hl : lv_has ls 4 [(0, .ref (q 0)), (1, .int u)] := hl
  refine lv_iconst (v := 0) hx hb dX9_firstOrderer_0 (by decide) ?_
  refine lv_istore_n (lv' := [(2, .int 0), (0, .ref (q 0)), (1, .int u)]) hx hb dX9_firstOrderer_1 rfl hl (by decide) rfl (fun ls hl => ?_)
  refine lv_iload_n hx hb dX9_firstOrderer_2 rfl (lv_at hl 0 rfl) ?_
  refine lv_aload_n hx hb dX9_firstOrderer_3 rfl (lv_at hl 1 rfl) ?_
  refine va_get (D := D) (ci := 9) (v := .ref (q 16)) (C := RX9) (T := TX9) (N := 19) hx hb hts iX9_firstOrderer_9 hown hK hP 0 rfl rfl 7 (by decide) (hts (.fieldLink RX9 54 "FondsRoom" "copyTickets" "LFondsRoom$Line;") (by decide +kernel)) (fun _ h9 => h9) rfl dX9_firstOrderer_4 ?_
  refine va_get (D := D) (ci := 3) (v := .int 0) (C := RX3) (T := TX3) (N := 2) hx hb hts iX9_firstOrderer_3 hown hK hP 16 rfl rfl 1 (by decide) (hts (.fieldLink RX9 373 "FondsRoom$Line" "size" "I") (by decide +kernel)) (fun _ h9 => h9) rfl dX9_firstOrderer_7 ?_
  refine lv_icmp_ge (tgt := 50) hx hb dX9_firstOrderer_10 (by decide) (fun _ => ?_) (fun c9 => absurd (by decide) c9)
  refine lv_null hx hb dX9_firstOrderer_50 ?_
  exact W.aret (v := .null) hx hb hr (Or.inl ⟨_, rfl⟩) (Or.inl rfl) (fun t ht hW => ⟨⟨none, (), rfl, (by first | rfl | trivial | decide), by rw [ht]; exact hP, va_K.moved hW.alike hK, hD⟩, hS.F ht⟩) hS.2.2 dX9_firstOrderer_51

set_option maxHeartbeats 4000000 in
set_option maxRecDepth 100000 in
theorem mX9_nextOrderer (l : Launch) (D : va_G) (q : Nat → Nat) (cy : Nat → ClassId) (g : Nat → Nat → Option Nat) (t : Int32) (sz : Nat) : Met l yX9_nextOrderer wsX9_nextOrderer ({ frames := 1, cells := 0, slots := 0, locals := 23 }) (PW D (TYS cy) (FW q cy g t) sz [.ref (q 0)]) (QQ D (TYS cy) (FW q cy g t) (FW q cy g t) sz (fun r => r = none)) 0 0 (va_A (FW q cy g t) sz) := by
  refine Met.ofW (cc := cX9_nextOrderer) (maxL := 3) (ret := (some (.object "FondsRoom$Reader"))) (by decide) rfl ?_
  intro p e s m args below meth c s₁ B hml hv
  obtain ⟨rfl, hsz, hP, hK, hD0⟩ := hv
  have hx := B.exec
  have hb := B.bytes
  have hr := B.returns
  have hts := atoms_spec (ws := wsX9_nextOrderer) B.pre
  have hown : s.vm.findClass RX9 = some m.cls := findClass_of_methodNamed B.named
  have hlocks := B.notSynchronized
  subst hsz
  have hD := hD0.self (sz := s.heap.size)
  have hA : ∀ q9 : Nat, s.heap.size ≤ q9 → va_A (FW q cy g t) s.heap.size q9 := fun q9 h => Or.inr h
  have hS : va_S (va_A (FW q cy g t) s.heap.size) s.heap s.heap [] := va_S.rf
  have hl := lv_entry ([.ref (q 0)]) (n := 3) (Nat.le_of_ble_eq_true rfl)
  rw [lg_entry_eq]
  generalize (lg_sl ([.ref (q 0)]) ++ List.replicate (3 - (lg_sl ([.ref (q 0)])).length) Slot.unset).toArray = ls at hl ⊢
  have hl : lv_has ls 3 [(0, .ref (q 0))] := hl
  refine lv_aload_n hx hb dX9_nextOrderer_0 rfl (lv_at hl 0 rfl) ?_
  refine lv_iconst (v := 1) hx hb dX9_nextOrderer_1 (by decide) ?_
  refine cvQ (wr := []) (As := [.int 1]) (rest := []) ⟨hx, hb, hml, hown, hts⟩ (mX9_firstOrderer l D q cy g t _ 1 ) (cwV 1 hts gX9_nextOrderer_X9_firstOrderer rfl rfl rfl (by decide +kernel) ⟨Nat.le_of_ble_eq_true rfl, Nat.le_of_ble_eq_true rfl⟩) hK hP hD hS hA [0, 1, 2, 3, 4, 5, 6, 7, 8, 9, 10, 11, 12, 13, 14, 15, 16, 17, 18, 19, 20, 21] [] rfl rfl (by decide) (by decide) (by decide) 0 9 rfl rfl rfl hl.1 rfl (Nat.le_of_ble_eq_true rfl) dX9_nextOrderer_2 ⟨Nat.le_of_ble_eq_true rfl, Nat.le_of_ble_eq_true rfl⟩ (fun r1 H locs hr1 hP hD hS => ?_)
  have hP : va_P D vwCl (FW q cy g t) H := hP
  have hD : va_D _ (FW q cy g t) := hD
  obtain rfl : r1 = none := hr1
  refine W.eq (g2 := F0 m 5 ls [.null]) rfl ?_
  refine lv_astore_nN (lv' := [(1, .null), (0, .ref (q 0))]) hx hb dX9_nextOrderer_5 rfl hl (by decide) rfl (fun ls hl => ?_)
  refine lv_aload_n hx hb dX9_nextOrderer_6 rfl (lv_at hl 1 rfl) ?_
  refine lv_iconst (v := 0) hx hb dX9_nextOrderer_7 (by decide) ?_
  refine cvQ (wr := []) (As := [.int 0]) (rest := []) ⟨hx, hb, hml, hown, hts⟩ (mX9_firstOrderer l D q cy g t _ 0 ) (cwV 1 hts gX9_nextOrderer_X9_firstOrderer rfl rfl rfl (by decide +kernel) ⟨Nat.le_of_ble_eq_true rfl, Nat.le_of_ble_eq_true rfl⟩) hK hP hD hS hA [0, 1, 2, 3, 4, 5, 6, 7, 8, 9, 10, 11, 12, 13, 14, 15, 16, 17, 18, 19, 20, 21] [] rfl rfl (by decide) (by decide) (by decide) 0 9 rfl rfl rfl hl.1 rfl (Nat.le_of_ble_eq_true rfl) dX9_nextOrderer_8 ⟨Nat.le_of_ble_eq_true rfl, Nat.le_of_ble_eq_true rfl⟩ (fun r2 H locs hr2 hP hD hS => ?_)
  have hP : va_P D vwCl (FW q cy g t) H := hP
  have hD : va_D _ (FW q cy g t) := hD
  obtain rfl : r2 = none := hr2
  refine W.eq (g2 := F0 m 11 ls [.null]) rfl ?_
  refine lv_astore_nN (lv' := [(2, .null), (1, .null), (0, .ref (q 0))]) hx hb dX9_nextOrderer_11 rfl hl (by decide) rfl (fun ls hl => ?_)
  refine lv_aload_nN hx hb dX9_nextOrderer_12 rfl (lv_at hl 1 rfl) ?_
  refine lv_ifnullN (tgt := 28) hx hb dX9_nextOrderer_13 (by decide) ?_
  refine lv_aload_nN hx hb dX9_nextOrderer_28 rfl (lv_at hl 0 rfl) ?_
  exact W.aret (v := .null) hx hb hr (Or.inl ⟨_, rfl⟩) (Or.inl rfl) (fun t ht hW => ⟨⟨none, (), rfl, (by first | rfl | trivial | decide), by rw [ht]; exact hP, va_K.moved hW.alike hK, hD⟩, hS.F ht⟩) hS.2.2 dX9_nextOrderer_29

set_option maxHeartbeats 4000000 in
set_option maxRecDepth 100000 in
theorem mX9_beginCopy (l : Launch) (D : va_G) (q : Nat → Nat) (cy : Nat → ClassId) (g : Nat → Nat → Option Nat) (t : Int32) (sz : Nat) (w9 : Nat) : Met l yX9_beginCopy wsX9_beginCopy ({ frames := 2, cells := 0, slots := 0, locals := 45 }) (PW D (TYS cy) (FW q cy g t) sz [.ref (q 0), .ref w9]) (QV D (TYS cy) (FW q cy g t) (FW q cy g t) sz) 0 0 (va_A (FW q cy g t) sz) := by
  refine Met.ofW (cc := cX9_beginCopy) (maxL := 3) (ret := none) (by decide) rfl ?_
  intro p e s m args below meth c s₁ B hml hv
  obtain ⟨rfl, hsz, hP, hK, hD0⟩ := hv
  have hx := B.exec
  have hb := B.bytes
  have hr := B.returns
  have hts := atoms_spec (ws := wsX9_beginCopy) B.pre
  have hown : s.vm.findClass RX9 = some m.cls := findClass_of_methodNamed B.named
  have hlocks := B.notSynchronized
  subst hsz
  have hD := hD0.self (sz := s.heap.size)
  have hA : ∀ q9 : Nat, s.heap.size ≤ q9 → va_A (FW q cy g t) s.heap.size q9 := fun q9 h => Or.inr h
  have hS : va_S (va_A (FW q cy g t) s.heap.size) s.heap s.heap [] := va_S.rf
  have hl := lv_entry ([.ref (q 0), .ref w9]) (n := 3) (Nat.le_of_ble_eq_true rfl)
  rw [lg_entry_eq]
  generalize (lg_sl ([.ref (q 0), .ref w9]) ++ List.replicate (3 - (lg_sl ([.ref (q 0), .ref w9])).length) Slot.unset).toArray = ls at hl ⊢
  have hl : lv_has ls 3 [(0, .ref (q 0)), (1, .ref w9)] := hl
  refine lv_aload_n hx hb dX9_beginCopy_0 rfl (lv_at hl 0 rfl) ?_
  refine cvQ (wr := []) (As := []) (rest := []) ⟨hx, hb, hml, hown, hts⟩ (mX9_nextOrderer l D q cy g t _  ) (cwV 0 hts gX9_beginCopy_X9_nextOrderer rfl rfl rfl (by decide +kernel) ⟨Nat.le_of_ble_eq_true rfl, Nat.le_of_ble_eq_true rfl⟩) hK hP hD hS hA [0, 1, 2, 3, 4, 5, 6, 7, 8, 9, 10, 11, 12, 13, 14, 15, 16, 17, 18, 19, 20, 21] [] rfl rfl (by decide) (by decide) (by decide) 0 9 rfl rfl rfl hl.1 rfl (Nat.le_of_ble_eq_true rfl) dX9_beginCopy_1 ⟨Nat.le_of_ble_eq_true rfl, Nat.le_of_ble_eq_true rfl⟩ (fun r1 H locs hr1 hP hD hS => ?_)
  have hP : va_P D vwCl (FW q cy g t) H := hP
  have hD : va_D _ (FW q cy g t) := hD
  obtain rfl : r1 = none := hr1
  refine W.eq (g2 := F0 m 4 ls [.null]) rfl ?_
  refine lv_astore_nN (lv' := [(2, .null), (0, .ref (q 0)), (1, .ref w9)]) hx hb dX9_beginCopy_4 rfl hl (by decide) rfl (fun ls hl => ?_)
  refine lv_aload_nN hx hb dX9_beginCopy_5 rfl (lv_at hl 0 rfl) ?_
  refine lv_ifnullN (tgt := 16) hx hb dX9_beginCopy_6 (by decide) ?_
  exact W.vret hx hb hr (fun t ht hW => ⟨⟨(), rfl, trivial, by rw [ht]; exact hP, va_K.moved hW.alike hK, hD⟩, hS.F ht⟩) hS.2.2 dX9_beginCopy_16

theorem iX9_beginCopies_7 : ∀ w ∈ wsX70, w ∈ wsX9_beginCopies := fun _ h => List.mem_cons_of_mem _ (List.mem_append_left _ (List.mem_append_left _ (List.mem_append_left _ (List.mem_append_left _ (List.mem_append_right _ h)))))
theorem iX9_beginCopies_8 : ∀ w ∈ wsX80, w ∈ wsX9_beginCopies := fun _ h => List.mem_cons_of_mem _ (List.mem_append_left _ (List.mem_append_left _ (List.mem_append_left _ (List.mem_append_right _ h))))
theorem iX9_beginCopies_9 : ∀ w ∈ wsX90, w ∈ wsX9_beginCopies := fun _ h => List.mem_cons_of_mem _ (List.mem_append_left _ (List.mem_append_left _ (List.mem_append_left _ (List.mem_append_left _ (List.mem_append_left _ (List.mem_append_right _ h))))))
set_option maxHeartbeats 4000000 in
set_option maxRecDepth 100000 in
theorem mX9_beginCopies (l : Launch) (D : va_G) (q : Nat → Nat) (cy : Nat → ClassId) (g : Nat → Nat → Option Nat) (t : Int32) (sz : Nat) : Met l yX9_beginCopies wsX9_beginCopies ({ frames := 3, cells := 0, slots := 0, locals := 67 }) (PW D (TYS cy) (FW q cy g t) sz [.ref (q 0)]) (QV D (TYS cy) (FW q cy g t) (FW q cy g t) sz) 0 0 (va_A (FW q cy g t) sz) := by
  refine Met.ofW (cc := cX9_beginCopies) (maxL := 2) (ret := none) (by decide) rfl ?_
  intro p e s m args below meth c s₁ B hml hv
  obtain ⟨rfl, hsz, hP, hK, hD0⟩ := hv
  have hx := B.exec
  have hb := B.bytes
  have hr := B.returns
  have hts := atoms_spec (ws := wsX9_beginCopies) B.pre
  have hown : s.vm.findClass RX9 = some m.cls := findClass_of_methodNamed B.named
  have hlocks := B.notSynchronized
  subst hsz
  have hD := hD0.self (sz := s.heap.size)
  have hA : ∀ q9 : Nat, s.heap.size ≤ q9 → va_A (FW q cy g t) s.heap.size q9 := fun q9 h => Or.inr h
  have hS : va_S (va_A (FW q cy g t) s.heap.size) s.heap s.heap [] := va_S.rf
  have hl := lv_entry ([.ref (q 0)]) (n := 2) (Nat.le_of_ble_eq_true rfl)
  rw [lg_entry_eq]
  generalize (lg_sl ([.ref (q 0)]) ++ List.replicate (2 - (lg_sl ([.ref (q 0)])).length) Slot.unset).toArray = ls at hl ⊢
  have hl : lv_has ls 2 [(0, .ref (q 0))] := hl
  refine lv_iconst (v := 0) hx hb dX9_beginCopies_0 (by decide) ?_
  refine lv_istore_n (lv' := [(1, .int 0), (0, .ref (q 0))]) hx hb dX9_beginCopies_1 rfl hl (by decide) rfl (fun ls hl => ?_)
  refine lv_iload_n hx hb dX9_beginCopies_2 rfl (lv_at hl 0 rfl) ?_
  refine lv_aload_n hx hb dX9_beginCopies_3 rfl (lv_at hl 1 rfl) ?_
  refine va_get (D := D) (ci := 9) (v := .ref (q 11)) (C := RX9) (T := TX9) (N := 19) hx hb hts iX9_beginCopies_9 hown hK hP 0 rfl rfl 4 (by decide) (hts (.fieldLink RX9 41 "FondsRoom" "copyists" "LFondsRoom$Staff;") (by decide +kernel)) (fun _ h9 => h9) rfl dX9_beginCopies_4 ?_
  refine va_get (D := D) (ci := 7) (v := .int 1) (C := RX7) (T := TX7) (N := 2) hx hb hts iX9_beginCopies_7 hown hK hP 11 rfl rfl 1 (by decide) (hts (.fieldLink RX9 101 "FondsRoom$Staff" "hired" "I") (by decide +kernel)) (fun _ h9 => h9) rfl dX9_beginCopies_7 ?_
  refine lv_icmp_ge (tgt := 47) hx hb dX9_beginCopies_10 (by decide) (fun c9 => absurd c9 (by decide)) (fun _ => ?_)
  refine lv_aload_n hx hb dX9_beginCopies_13 rfl (lv_at hl 1 rfl) ?_
  refine va_get (D := D) (ci := 9) (v := .ref (q 11)) (C := RX9) (T := TX9) (N := 19) hx hb hts iX9_beginCopies_9 hown hK hP 0 rfl rfl 4 (by decide) (hts (.fieldLink RX9 41 "FondsRoom" "copyists" "LFondsRoom$Staff;") (by decide +kernel)) (fun _ h9 => h9) rfl dX9_beginCopies_14 ?_
  refine va_get (D := D) (ci := 7) (v := .ref (q 12)) (C := RX7) (T := TX7) (N := 2) hx hb hts iX9_beginCopies_7 hown hK hP 11 rfl rfl 0 (by decide) (hts (.fieldLink RX9 216 "FondsRoom$Staff" "workers" "[LFondsRoom$Worker;") (by decide +kernel)) (fun _ h9 => h9) rfl dX9_beginCopies_17 ?_
  refine lv_iload_n hx hb dX9_beginCopies_20 rfl (lv_at hl 0 rfl) ?_
  refine va_aldq hx hb hK hP 12 5 rfl rfl (vp_in_iff.mpr (by decide)) dX9_beginCopies_21 ?_
  refine W.eq (g2 := F0 m 22 ls [.ref (q 13)]) rfl ?_
  refine va_get (D := D) (ci := 8) (v := .null) (C := RX8) (T := TX8) (N := 3) hx hb hts iX9_beginCopies_8 hown hK hP 13 rfl rfl 0 (by decide) (hts (.fieldLink RX9 227 "FondsRoom$Worker" "box" "LFondsRoom$Box;") (by decide +kernel)) (fun _ h9 => h9) rfl dX9_beginCopies_22 ?_
  refine lv_ifnonnullN hx hb dX9_beginCopies_25 ?_
  refine lv_aload_n hx hb dX9_beginCopies_28 rfl (lv_at hl 1 rfl) ?_
  refine lv_aload_n hx hb dX9_beginCopies_29 rfl (lv_at hl 1 rfl) ?_
  refine va_get (D := D) (ci := 9) (v := .ref (q 11)) (C := RX9) (T := TX9) (N := 19) hx hb hts iX9_beginCopies_9 hown hK hP 0 rfl rfl 4 (by decide) (hts (.fieldLink RX9 41 "FondsRoom" "copyists" "LFondsRoom$Staff;") (by decide +kernel)) (fun _ h9 => h9) rfl dX9_beginCopies_30 ?_
  refine va_get (D := D) (ci := 7) (v := .ref (q 12)) (C := RX7) (T := TX7) (N := 2) hx hb hts iX9_beginCopies_7 hown hK hP 11 rfl rfl 0 (by decide) (hts (.fieldLink RX9 216 "FondsRoom$Staff" "workers" "[LFondsRoom$Worker;") (by decide +kernel)) (fun _ h9 => h9) rfl dX9_beginCopies_33 ?_
  refine lv_iload_n hx hb dX9_beginCopies_36 rfl (lv_at hl 0 rfl) ?_
  refine va_aldq hx hb hK hP 12 5 rfl rfl (vp_in_iff.mpr (by decide)) dX9_beginCopies_37 ?_
  refine W.eq (g2 := F0 m 38 ls [.ref (q 13), .ref (q 0)]) rfl ?_
  refine cvV (wr := []) (As := [.ref (q 13)]) (rest := []) ⟨hx, hb, hml, hown, hts⟩ (mX9_beginCopy l D q cy g t _ (q 13) ) (cwV 1 hts gX9_beginCopies_X9_beginCopy rfl rfl rfl (by decide +kernel) ⟨Nat.le_of_ble_eq_true rfl, Nat.le_of_ble_eq_true rfl⟩) hK hP hD hS hA [0, 1, 2, 3, 4, 5, 6, 7, 8, 9, 10, 11, 12, 13, 14, 15, 16, 17, 18, 19, 20, 21] [] rfl rfl (by decide) (by decide) (by decide) 0 9 rfl rfl rfl hl.1 rfl (Nat.le_of_ble_eq_true rfl) dX9_beginCopies_38 ⟨Nat.le_of_ble_eq_true rfl, Nat.le_of_ble_eq_true rfl⟩ (fun H locs hP hD hS => ?_)
  have hP : va_P D vwCl (FW q cy g t) H := hP
  have hD : va_D _ (FW q cy g t) := hD
  refine lv_iinc (v := 1) (lv' := [(1, .int 1), (0, .ref (q 0))]) hx hb dX9_beginCopies_41 hl (k := 0) rfl (by decide) (by decide) rfl (fun ls hl => ?_)
  refine lv_goto (tgt := 2) hx hb dX9_beginCopies_44 (by decide) ?_
  refine lv_iload_n hx hb dX9_beginCopies_2 rfl (lv_at hl 0 rfl) ?_
  refine lv_aload_n hx hb dX9_beginCopies_3 rfl (lv_at hl 1 rfl) ?_
  refine va_get (D := D) (ci := 9) (v := .ref (q 11)) (C := RX9) (T := TX9) (N := 19) hx hb hts iX9_beginCopies_9 hown hK hP 0 rfl rfl 4 (by decide) (hts (.fieldLink RX9 41 "FondsRoom" "copyists" "LFondsRoom$Staff;") (by decide +kernel)) (fun _ h9 => h9) rfl dX9_beginCopies_4 ?_
  refine va_get (D := D) (ci := 7) (v := .int 1) (C := RX7) (T := TX7) (N := 2) hx hb hts iX9_beginCopies_7 hown hK hP 11 rfl rfl 1 (by decide) (hts (.fieldLink RX9 101 "FondsRoom$Staff" "hired" "I") (by decide +kernel)) (fun _ h9 => h9) rfl dX9_beginCopies_7 ?_
  refine lv_icmp_ge (tgt := 47) hx hb dX9_beginCopies_10 (by decide) (fun _ => ?_) (fun c9 => absurd (by decide) c9)
  exact W.vret hx hb hr (fun t ht hW => ⟨⟨(), rfl, trivial, by rw [ht]; exact hP, va_K.moved hW.alike hK, hD⟩, hS.F ht⟩) hS.2.2 dX9_beginCopies_47

theorem iX9_countWaiting_9 : ∀ w ∈ wsX90, w ∈ wsX9_countWaiting := fun _ h => List.mem_cons_of_mem _ (List.mem_append_left _ (List.mem_append_right _ h))
set_option maxHeartbeats 4000000 in
set_option maxRecDepth 100000 in
theorem mX9_countWaiting (l : Launch) (D : va_G) (q : Nat → Nat) (cy : Nat → ClassId) (g : Nat → Nat → Option Nat) (t : Int32) (sz : Nat) : Met l yX9_countWaiting wsX9_countWaiting ({ frames := 0, cells := 0, slots := 0, locals := 0 }) (PW D (TYS cy) (FW q cy g t) sz [.ref (q 0)]) (QV D (TYS cy) (FW q cy g t) (FW q cy g t) sz) 0 0 (va_A (FW q cy g t) sz) := by
  refine Met.ofW (cc := cX9_countWaiting) (maxL := 3) (ret := none) (by decide) rfl ?_
  intro p e s m args below meth c s₁ B hml hv
  obtain ⟨rfl, hsz, hP, hK, hD0⟩ := hv
  have hx := B.exec
  have hb := B.bytes
  have hr := B.returns
  have hts := atoms_spec (ws := wsX9_countWaiting) B.pre
  have hown : s.vm.findClass RX9 = some m.cls := findClass_of_methodNamed B.named
  have hlocks := B.notSynchronized
  subst hsz
  have hD := hD0.self (sz := s.heap.size)
  have hA : ∀ q9 : Nat, s.heap.size ≤ q9 → va_A (FW q cy g t) s.heap.size q9 := fun q9 h => Or.inr h
  have hS : va_S (va_A (FW q cy g t) s.heap.size) s.heap s.heap [] := va_S.rf
  have hl := lv_entry ([.ref (q 0)]) (n := 3) (Nat.le_of_ble_eq_true rfl)
  rw [lg_entry_eq]
  generalize (lg_sl ([.ref (q 0)]) ++ List.replicate (3 - (lg_sl ([.ref (q 0)])).length) Slot.unset).toArray = ls at hl ⊢
  have hl : lv_has ls 3 [(0, .ref (q 0))] := hl
  refine lv_iconst (v := 0) hx hb dX9_countWaiting_0 (by decide) ?_
  refine lv_istore_n (lv' := [(1, .int 0), (0, .ref (q 0))]) hx hb dX9_countWaiting_1 rfl hl (by decide) rfl (fun ls hl => ?_)
  refine lv_iload_n hx hb dX9_countWaiting_2 rfl (lv_at hl 0 rfl) ?_
  refine lv_aload_n hx hb dX9_countWaiting_3 rfl (lv_at hl 1 rfl) ?_
  refine va_get (D := D) (ci := 9) (v := .int 0) (C := RX9) (T := TX9) (N := 19) hx hb hts iX9_countWaiting_9 hown hK hP 0 rfl rfl 12 (by decide) (hts (.fieldLink RX9 104 "FondsRoom" "readerCount" "I") (by decide +kernel)) (fun _ h9 => h9) rfl dX9_countWaiting_4 ?_
  refine lv_icmp_ge (tgt := 97) hx hb dX9_countWaiting_7 (by decide) (fun _ => ?_) (fun c9 => absurd (by decide) c9)
  exact W.vret hx hb hr (fun t ht hW => ⟨⟨(), rfl, trivial, by rw [ht]; exact hP, va_K.moved hW.alike hK, hD⟩, hS.F ht⟩) hS.2.2 dX9_countWaiting_97

theorem iX9_passTurn_9 : ∀ w ∈ wsX90, w ∈ wsX9_passTurn := fun _ h => List.mem_cons_of_mem _ (List.mem_append_left _ (List.mem_append_left _ (List.mem_append_left _ (List.mem_append_left _ (List.mem_append_left _ (List.mem_append_left _ (List.mem_append_left _ (List.mem_append_left _ (List.mem_append_left _ (List.mem_append_right _ h))))))))))
set_option maxHeartbeats 4000000 in
set_option maxRecDepth 100000 in
theorem mX9_passTurn (l : Launch) (D : va_G) (q : Nat → Nat) (cy : Nat → ClassId) (g : Nat → Nat → Option Nat) (t : Int32) (sz : Nat) (ht9 : ¬ t + 1 = -1) : Met l yX9_passTurn wsX9_passTurn ({ frames := 4, cells := 0, slots := 0, locals := 88 }) (PW D (TYS cy) (FW q cy g t) sz [.ref (q 0)]) (QV D (TYS cy) (FW q cy g t) (FW q cy g (t + 1)) sz) 0 0 (va_A (FW q cy g t) sz) := by
  refine Met.ofW (cc := cX9_passTurn) (maxL := 1) (ret := none) (by decide) rfl ?_
  intro p e s m args below meth c s₁ B hml hv
  obtain ⟨rfl, hsz, hP, hK, hD0⟩ := hv
  have hx := B.exec
  have hb := B.bytes
  have hr := B.returns
  have hts := atoms_spec (ws := wsX9_passTurn) B.pre
  have hown : s.vm.findClass RX9 = some m.cls := findClass_of_methodNamed B.named
  have hlocks := B.notSynchronized
  subst hsz
  have hD := hD0.self (sz := s.heap.size)
  have hA : ∀ q9 : Nat, s.heap.size ≤ q9 → va_A (FW q cy g t) s.heap.size q9 := fun q9 h => Or.inr h
  have hS : va_S (va_A (FW q cy g t) s.heap.size) s.heap s.heap [] := va_S.rf
  have hl := lv_entry ([.ref (q 0)]) (n := 1) (Nat.le_of_ble_eq_true rfl)
  rw [lg_entry_eq]
  generalize (lg_sl ([.ref (q 0)]) ++ List.replicate (1 - (lg_sl ([.ref (q 0)])).length) Slot.unset).toArray = ls at hl ⊢
  have hl : lv_has ls 1 [(0, .ref (q 0))] := hl
  refine lv_aload_n hx hb dX9_passTurn_0 rfl (lv_at hl 0 rfl) ?_
  refine lv_dup hx hb dX9_passTurn_1 rfl ?_
  refine va_get (D := D) (ci := 9) (v := .int t) (C := RX9) (T := TX9) (N := 19) hx hb hts iX9_passTurn_9 hown hK hP 0 rfl rfl 14 (by decide) (hts (.fieldLink RX9 78 "FondsRoom" "turn" "I") (by decide +kernel)) (fun _ h9 => h9) rfl dX9_passTurn_2 ?_
  refine lv_iconst (v := 1) hx hb dX9_passTurn_5 (by decide) ?_
  refine lv_iadd hx hb dX9_passTurn_6 ?_
  refine va_put (D := D) (ci := 9) (v := .int (t + 1)) (ty := .int) (C := RX9) (T := TX9) (N := 19) hx hb hts iX9_passTurn_9 tyX9 tyX9_ok nmX9 hown hK hP hD hS 0 rfl rfl 14 (by decide) (hts (.fieldLink RX9 78 "FondsRoom" "turn" "I") (by decide +kernel)) (fun _ h9 => h9) rfl (by decide +kernel) rfl rfl (Nat.le_of_ble_eq_true rfl) dX9_passTurn_7 (fun H locs hP hD hS => ?_)
  have hP : va_P D vwCl (FW q cy g (t + 1)) H := hP
  have hD : va_D _ (FW q cy g (t + 1)) := hD
  refine lv_aload_n hx hb dX9_passTurn_10 rfl (lv_at hl 0 rfl) ?_
  refine cvV (wr := []) (As := []) (rest := []) ⟨hx, hb, hml, hown, hts⟩ (mX9_sufferMishaps l D q cy g (t + 1) _  ) (cwV 0 hts gX9_passTurn_X9_sufferMishaps rfl rfl rfl (by decide +kernel) ⟨Nat.le_of_ble_eq_true rfl, Nat.le_of_ble_eq_true rfl⟩) hK hP hD hS hA [0, 1, 2, 3, 4, 5, 6, 7, 8, 9, 10, 11, 12, 13, 14, 15, 16, 17, 18, 19, 20, 21] [] rfl rfl (by decide) (by decide) (by decide) 0 9 rfl rfl rfl hl.1 rfl (Nat.le_of_ble_eq_true rfl) dX9_passTurn_11 ⟨Nat.le_of_ble_eq_true rfl, Nat.le_of_ble_eq_true rfl⟩ (fun H locs hP hD hS => ?_)
  have hP : va_P D vwCl (FW q cy g (t + 1)) H := hP
  have hD : va_D _ (FW q cy g (t + 1)) := hD
  refine lv_aload_n hx hb dX9_passTurn_14 rfl (lv_at hl 0 rfl) ?_
  refine va_get (D := D) (ci := 9) (v := .int (t + 1)) (C := RX9) (T := TX9) (N := 19) hx hb hts iX9_passTurn_9 hown hK hP 0 rfl rfl 14 (by decide) (hts (.fieldLink RX9 78 "FondsRoom" "turn" "I") (by decide +kernel)) (fun _ h9 => h9) rfl dX9_passTurn_15 ?_
  refine lv_aload_n hx hb dX9_passTurn_18 rfl (lv_at hl 0 rfl) ?_
  refine va_get (D := D) (ci := 9) (v := .int (-1)) (C := RX9) (T := TX9) (N := 19) hx hb hts iX9_passTurn_9 hown hK hP 0 rfl rfl 15 (by decide) (hts (.fieldLink RX9 75 "FondsRoom" "bellTurn" "I") (by decide +kernel)) (fun _ h9 => h9) rfl dX9_passTurn_19 ?_
  refine lv_icmp_ne (tgt := 29) hx hb dX9_passTurn_22 (by decide) (fun _ => ?_) (fun c9 => absurd c9 (ht9))
  refine lv_aload_n hx hb dX9_passTurn_29 rfl (lv_at hl 0 rfl) ?_
  refine cvV (wr := []) (As := []) (rest := []) ⟨hx, hb, hml, hown, hts⟩ (mX9_fetchersWalk l D q cy g (t + 1) _  ) (cwV 0 hts gX9_passTurn_X9_fetchersWalk rfl rfl rfl (by decide +kernel) ⟨Nat.le_of_ble_eq_true rfl, Nat.le_of_ble_eq_true rfl⟩) hK hP hD hS hA [0, 1, 2, 3, 4, 5, 6, 7, 8, 9, 10, 11, 12, 13, 14, 15, 16, 17, 18, 19, 20, 21] [] rfl rfl (by decide) (by decide) (by decide) 0 9 rfl rfl rfl hl.1 rfl (Nat.le_of_ble_eq_true rfl) dX9_passTurn_30 ⟨Nat.le_of_ble_eq_true rfl, Nat.le_of_ble_eq_true rfl⟩ (fun H locs hP hD hS => ?_)
  have hP : va_P D vwCl (FW q cy g (t + 1)) H := hP
  have hD : va_D _ (FW q cy g (t + 1)) := hD
  refine lv_aload_n hx hb dX9_passTurn_33 rfl (lv_at hl 0 rfl) ?_
  refine cvV (wr := []) (As := []) (rest := []) ⟨hx, hb, hml, hown, hts⟩ (mX9_copyistsWork l D q cy g (t + 1) _  ) (cwV 0 hts gX9_passTurn_X9_copyistsWork rfl rfl rfl (by decide +kernel) ⟨Nat.le_of_ble_eq_true rfl, Nat.le_of_ble_eq_true rfl⟩) hK hP hD hS hA [0, 1, 2, 3, 4, 5, 6, 7, 8, 9, 10, 11, 12, 13, 14, 15, 16, 17, 18, 19, 20, 21] [] rfl rfl (by decide) (by decide) (by decide) 0 9 rfl rfl rfl hl.1 rfl (Nat.le_of_ble_eq_true rfl) dX9_passTurn_34 ⟨Nat.le_of_ble_eq_true rfl, Nat.le_of_ble_eq_true rfl⟩ (fun H locs hP hD hS => ?_)
  have hP : va_P D vwCl (FW q cy g (t + 1)) H := hP
  have hD : va_D _ (FW q cy g (t + 1)) := hD
  refine lv_aload_n hx hb dX9_passTurn_37 rfl (lv_at hl 0 rfl) ?_
  refine cvV (wr := []) (As := []) (rest := []) ⟨hx, hb, hml, hown, hts⟩ (mX9_readersRead l D q cy g (t + 1) _  ) (cwV 0 hts gX9_passTurn_X9_readersRead rfl rfl rfl (by decide +kernel) ⟨Nat.le_of_ble_eq_true rfl, Nat.le_of_ble_eq_true rfl⟩) hK hP hD hS hA [0, 1, 2, 3, 4, 5, 6, 7, 8, 9, 10, 11, 12, 13, 14, 15, 16, 17, 18, 19, 20, 21] [] rfl rfl (by decide) (by decide) (by decide) 0 9 rfl rfl rfl hl.1 rfl (Nat.le_of_ble_eq_true rfl) dX9_passTurn_38 ⟨Nat.le_of_ble_eq_true rfl, Nat.le_of_ble_eq_true rfl⟩ (fun H locs hP hD hS => ?_)
  have hP : va_P D vwCl (FW q cy g (t + 1)) H := hP
  have hD : va_D _ (FW q cy g (t + 1)) := hD
  refine lv_aload_n hx hb dX9_passTurn_41 rfl (lv_at hl 0 rfl) ?_
  refine cvV (wr := []) (As := []) (rest := []) ⟨hx, hb, hml, hown, hts⟩ (mX9_readersGoOn l D q cy g (t + 1) _  ) (cwV 0 hts gX9_passTurn_X9_readersGoOn rfl rfl rfl (by decide +kernel) ⟨Nat.le_of_ble_eq_true rfl, Nat.le_of_ble_eq_true rfl⟩) hK hP hD hS hA [0, 1, 2, 3, 4, 5, 6, 7, 8, 9, 10, 11, 12, 13, 14, 15, 16, 17, 18, 19, 20, 21] [] rfl rfl (by decide) (by decide) (by decide) 0 9 rfl rfl rfl hl.1 rfl (Nat.le_of_ble_eq_true rfl) dX9_passTurn_42 ⟨Nat.le_of_ble_eq_true rfl, Nat.le_of_ble_eq_true rfl⟩ (fun H locs hP hD hS => ?_)
  have hP : va_P D vwCl (FW q cy g (t + 1)) H := hP
  have hD : va_D _ (FW q cy g (t + 1)) := hD
  refine lv_aload_n hx hb dX9_passTurn_45 rfl (lv_at hl 0 rfl) ?_
  refine cvV (wr := []) (As := []) (rest := []) ⟨hx, hb, hml, hown, hts⟩ (mX9_readersCome l D q cy g (t + 1) _  ) (cwV 0 hts gX9_passTurn_X9_readersCome rfl rfl rfl (by decide +kernel) ⟨Nat.le_of_ble_eq_true rfl, Nat.le_of_ble_eq_true rfl⟩) hK hP hD hS hA [0, 1, 2, 3, 4, 5, 6, 7, 8, 9, 10, 11, 12, 13, 14, 15, 16, 17, 18, 19, 20, 21] [] rfl rfl (by decide) (by decide) (by decide) 0 9 rfl rfl rfl hl.1 rfl (Nat.le_of_ble_eq_true rfl) dX9_passTurn_46 ⟨Nat.le_of_ble_eq_true rfl, Nat.le_of_ble_eq_true rfl⟩ (fun H locs hP hD hS => ?_)
  have hP : va_P D vwCl (FW q cy g (t + 1)) H := hP
  have hD : va_D _ (FW q cy g (t + 1)) := hD
  refine lv_aload_n hx hb dX9_passTurn_49 rfl (lv_at hl 0 rfl) ?_
  refine cvV (wr := []) (As := []) (rest := []) ⟨hx, hb, hml, hown, hts⟩ (mX9_giveDesks l D q cy g (t + 1) _  ) (cwV 0 hts gX9_passTurn_X9_giveDesks rfl rfl rfl (by decide +kernel) ⟨Nat.le_of_ble_eq_true rfl, Nat.le_of_ble_eq_true rfl⟩) hK hP hD hS hA [0, 1, 2, 3, 4, 5, 6, 7, 8, 9, 10, 11, 12, 13, 14, 15, 16, 17, 18, 19, 20, 21] [] rfl rfl (by decide) (by decide) (by decide) 0 9 rfl rfl rfl hl.1 rfl (Nat.le_of_ble_eq_true rfl) dX9_passTurn_50 ⟨Nat.le_of_ble_eq_true rfl, Nat.le_of_ble_eq_true rfl⟩ (fun H locs hP hD hS => ?_)
  have hP : va_P D vwCl (FW q cy g (t + 1)) H := hP
  have hD : va_D _ (FW q cy g (t + 1)) := hD
  refine lv_aload_n hx hb dX9_passTurn_53 rfl (lv_at hl 0 rfl) ?_
  refine cvV (wr := []) (As := []) (rest := []) ⟨hx, hb, hml, hown, hts⟩ (mX9_sendFetchers l D q cy g (t + 1) _  ) (cwV 0 hts gX9_passTurn_X9_sendFetchers rfl rfl rfl (by decide +kernel) ⟨Nat.le_of_ble_eq_true rfl, Nat.le_of_ble_eq_true rfl⟩) hK hP hD hS hA [0, 1, 2, 3, 4, 5, 6, 7, 8, 9, 10, 11, 12, 13, 14, 15, 16, 17, 18, 19, 20, 21] [] rfl rfl (by decide) (by decide) (by decide) 0 9 rfl rfl rfl hl.1 rfl (Nat.le_of_ble_eq_true rfl) dX9_passTurn_54 ⟨Nat.le_of_ble_eq_true rfl, Nat.le_of_ble_eq_true rfl⟩ (fun H locs hP hD hS => ?_)
  have hP : va_P D vwCl (FW q cy g (t + 1)) H := hP
  have hD : va_D _ (FW q cy g (t + 1)) := hD
  refine lv_aload_n hx hb dX9_passTurn_57 rfl (lv_at hl 0 rfl) ?_
  refine cvV (wr := []) (As := []) (rest := []) ⟨hx, hb, hml, hown, hts⟩ (mX9_beginCopies l D q cy g (t + 1) _  ) (cwV 0 hts gX9_passTurn_X9_beginCopies rfl rfl rfl (by decide +kernel) ⟨Nat.le_of_ble_eq_true rfl, Nat.le_of_ble_eq_true rfl⟩) hK hP hD hS hA [0, 1, 2, 3, 4, 5, 6, 7, 8, 9, 10, 11, 12, 13, 14, 15, 16, 17, 18, 19, 20, 21] [] rfl rfl (by decide) (by decide) (by decide) 0 9 rfl rfl rfl hl.1 rfl (Nat.le_of_ble_eq_true rfl) dX9_passTurn_58 ⟨Nat.le_of_ble_eq_true rfl, Nat.le_of_ble_eq_true rfl⟩ (fun H locs hP hD hS => ?_)
  have hP : va_P D vwCl (FW q cy g (t + 1)) H := hP
  have hD : va_D _ (FW q cy g (t + 1)) := hD
  refine lv_aload_n hx hb dX9_passTurn_61 rfl (lv_at hl 0 rfl) ?_
  refine cvV (wr := []) (As := []) (rest := []) ⟨hx, hb, hml, hown, hts⟩ (mX9_countWaiting l D q cy g (t + 1) _  ) (cwV 0 hts gX9_passTurn_X9_countWaiting rfl rfl rfl (by decide +kernel) ⟨Nat.le_of_ble_eq_true rfl, Nat.le_of_ble_eq_true rfl⟩) hK hP hD hS hA [0, 1, 2, 3, 4, 5, 6, 7, 8, 9, 10, 11, 12, 13, 14, 15, 16, 17, 18, 19, 20, 21] [] rfl rfl (by decide) (by decide) (by decide) 0 9 rfl rfl rfl hl.1 rfl (Nat.le_of_ble_eq_true rfl) dX9_passTurn_62 ⟨Nat.le_of_ble_eq_true rfl, Nat.le_of_ble_eq_true rfl⟩ (fun H locs hP hD hS => ?_)
  have hP : va_P D vwCl (FW q cy g (t + 1)) H := hP
  have hD : va_D _ (FW q cy g (t + 1)) := hD
  exact W.vret hx hb hr (fun t ht hW => ⟨⟨(), rfl, trivial, by rw [ht]; exact hP, va_K.moved hW.alike hK, hD⟩, hS.F ht⟩) hS.2.2 dX9_passTurn_65
