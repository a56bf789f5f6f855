set_option maxHeartbeats 8000000 in
set_option maxRecDepth 100000 in
theorem zX9_isWithin (l : Launch) (D : va_G) (x : Nat → Nat) (cy : Nat → ClassId) (g : Nat → Nat → Option Nat) (L : List Nat) (K : Nat → Nat) (cf : Nat → Nat → Nat) (nm : Nat → Int32) (hG : GO L K g) (hL : PL L K cf) (S : CS) (hT : WT L K S.2) (sz : Nat) (ar1 : Int32) (ar2 : Int32) (ar3 : Int32)  (rv : Int32) (hF : gX9_isWithin g cf nm S ar1 ar2 ar3 = some rv) : Met l yX9_isWithin wsX9_isWithin ({ frames := 0, cells := 0, slots := 0, locals := 0 }) (PW D (TYS cy) (ZW x cy g S ++ va_pl L (pf cy K cf nm S)) sz [.int ar1, .int ar2, .int ar3]) (va_Qi (fun (res : Int32) (u : Unit) => res = rv ∧ b01 rv) (BU D (TYS cy) (ZW x cy g S ++ va_pl L (pf cy K cf nm S)) (fun _ => ZW x cy g S ++ va_pl L (pf cy K cf nm S)) sz) (va_A (ZW x cy g S ++ va_pl L (pf cy K cf nm S)) sz)) 0 0 (va_A (ZW x cy g S ++ va_pl L (pf cy K cf nm S)) sz) := by
  refine Met.ofW (cc := cX9_isWithin) (maxL := 3) (ret := (some .boolean)) (by decide) rfl ?_
  intro p e s m args below meth c s₁ B hml hv
  obtain ⟨rfl, hsz, hP, hK, hD0⟩ := hv
  have hx := B.exec
  have hb := B.bytes
  have hr := B.returns
  have hts := atoms_spec (ws := wsX9_isWithin) B.pre
  have hown : s.vm.findClass RX9 = some m.cls := findClass_of_methodNamed B.named
  have hlocks := B.notSynchronized
  subst hsz
  have hD := hD0.self (sz := s.heap.size)
  have hA : ∀ q9 : Nat, s.heap.size ≤ q9 → va_A (ZW x cy g S ++ va_pl L (pf cy K cf nm S)) s.heap.size q9 := fun q9 h => Or.inr h
  have hS : va_S (va_A (ZW x cy g S ++ va_pl L (pf cy K cf nm S)) s.heap.size) s.heap s.heap [] := va_S.rf
  have hl := lv_entry ([.int ar1, .int ar2, .int ar3]) (n := 3) (Nat.le_of_ble_eq_true rfl)
  rw [lg_entry_eq]
  generalize (lg_sl ([.int ar1, .int ar2, .int ar3]) ++ List.replicate (3 - (lg_sl ([.int ar1, .int ar2, .int ar3])).length) Slot.unset).toArray = ls at hl ⊢
  have hl : lv_has ls 3 [(0, .int ar1), (1, .int ar2), (2, .int ar3)] := hl
  unfold gX9_isWithin at hF
  refine lv_iload_n hx hb dX9_isWithin_0 rfl (lv_at hl 0 rfl) ?_
  refine lv_iload_n hx hb dX9_isWithin_1 rfl (lv_at hl 1 rfl) ?_
  refine lv_icmp_lt (tgt := 14) hx hb dX9_isWithin_2 (by decide) (fun c1 => ?_) (fun c1 => ?_)
  · skip
    have hF := (if_pos c1).symm.trans hF
    refine lv_iconst (v := 0) hx hb dX9_isWithin_14 (by decide) ?_
    have e1 := Option.some.inj hF
    exact W.zret (v := 0) hx hb hr (nz01 (Or.inl rfl)).1 (fun t ht hW => ⟨⟨0, (), rfl, ⟨e1, by rw [← e1]; exact Or.inl rfl⟩, by rw [ht]; exact hP, va_K.moved hW.alike hK, hD⟩, hS.F ht⟩) hS.2.2 dX9_isWithin_15
  · skip
    have hF := (if_neg c1).symm.trans hF
    refine lv_iload_n hx hb dX9_isWithin_5 rfl (lv_at hl 0 rfl) ?_
    refine lv_iload_n hx hb dX9_isWithin_6 rfl (lv_at hl 2 rfl) ?_
    refine lv_icmp_gt (tgt := 14) hx hb dX9_isWithin_7 (by decide) (fun c2 => ?_) (fun c2 => ?_)
    · skip
      have hF := (if_pos c2).symm.trans hF
      refine lv_iconst (v := 0) hx hb dX9_isWithin_14 (by decide) ?_
      have e1 := Option.some.inj hF
      exact W.zret (v := 0) hx hb hr (nz01 (Or.inl rfl)).1 (fun t ht hW => ⟨⟨0, (), rfl, ⟨e1, by rw [← e1]; exact Or.inl rfl⟩, by rw [ht]; exact hP, va_K.moved hW.alike hK, hD⟩, hS.F ht⟩) hS.2.2 dX9_isWithin_15
    · skip
      have hF := (if_neg c2).symm.trans hF
      refine lv_iconst (v := 1) hx hb dX9_isWithin_10 (by decide) ?_
      refine lv_goto (tgt := 15) hx hb dX9_isWithin_11 (by decide) ?_
      have e1 := Option.some.inj hF
      exact W.zret (v := 1) hx hb hr (nz01 (Or.inr rfl)).1 (fun t ht hW => ⟨⟨1, (), rfl, ⟨e1, by rw [← e1]; exact Or.inr rfl⟩, by rw [ht]; exact hP, va_K.moved hW.alike hK, hD⟩, hS.F ht⟩) hS.2.2 dX9_isWithin_15

theorem iX9_isReader_9 : ∀ w ∈ wsX90, w ∈ wsX9_isReader := fun _ h => List.mem_cons_of_mem _ (List.mem_append_right _ h)
set_option maxHeartbeats 8000000 in
set_option maxRecDepth 100000 in
theorem zX9_isReader (l : Launch) (D : va_G) (x : Nat → Nat) (cy : Nat → ClassId) (g : Nat → Nat → Option Nat) (L : List Nat) (K : Nat → Nat) (cf : Nat → Nat → Nat) (nm : Nat → Int32) (hG : GO L K g) (hL : PL L K cf) (S : CS) (hT : WT L K S.2) (sz : Nat) (ar1 : Int32)  (rv : Int32) (hF : gX9_isReader g cf nm S ar1 = some rv) : Met l yX9_isReader wsX9_isReader ({ frames := 0, cells := 0, slots := 0, locals := 0 }) (PW D (TYS cy) (ZW x cy g S ++ va_pl L (pf cy K cf nm S)) sz [.ref (x 0), .int ar1]) (va_Qi (fun (res : Int32) (u : Unit) => res = rv ∧ b01 rv) (BU D (TYS cy) (ZW x cy g S ++ va_pl L (pf cy K cf nm S)) (fun _ => ZW x cy g S ++ va_pl L (pf cy K cf nm S)) sz) (va_A (ZW x cy g S ++ va_pl L (pf cy K cf nm S)) sz)) 0 0 (va_A (ZW x cy g S ++ va_pl L (pf cy K cf nm S)) sz) := by
  refine Met.ofW (cc := cX9_isReader) (maxL := 2) (ret := (some .boolean)) (by decide) rfl ?_
  intro p e s m args below meth c s₁ B hml hv
  obtain ⟨rfl, hsz, hP, hK, hD0⟩ := hv
  have hx := B.exec
  have hb := B.bytes
  have hr := B.returns
  have hts := atoms_spec (ws := wsX9_isReader) B.pre
  have hown : s.vm.findClass RX9 = some m.cls := findClass_of_methodNamed B.named
  have hlocks := B.notSynchronized
  subst hsz
  have hD := hD0.self (sz := s.heap.size)
  have hA : ∀ q9 : Nat, s.heap.size ≤ q9 → va_A (ZW x cy g S ++ va_pl L (pf cy K cf nm S)) s.heap.size q9 := fun q9 h => Or.inr h
  have hS : va_S (va_A (ZW x cy g S ++ va_pl L (pf cy K cf nm S)) s.heap.size) s.heap s.heap [] := va_S.rf
  have hl := lv_entry ([.ref (x 0), .int ar1]) (n := 2) (Nat.le_of_ble_eq_true rfl)
  rw [lg_entry_eq]
  generalize (lg_sl ([.ref (x 0), .int ar1]) ++ List.replicate (2 - (lg_sl ([.ref (x 0), .int ar1])).length) Slot.unset).toArray = ls at hl ⊢
  have hl : lv_has ls 2 [(0, .ref (x 0)), (1, .int ar1)] := hl
  unfold gX9_isReader at hF
  refine lv_iload_n hx hb dX9_isReader_0 rfl (lv_at hl 1 rfl) ?_
  refine lv_if_lt (tgt := 16) hx hb dX9_isReader_1 (by decide) (fun c1 => ?_) (fun c1 => ?_)
  · skip
    have hF := (if_pos c1).symm.trans hF
    refine lv_iconst (v := 0) hx hb dX9_isReader_16 (by decide) ?_
    have e1 := Option.some.inj hF
    exact W.zret (v := 0) hx hb hr (nz01 (Or.inl rfl)).1 (fun t ht hW => ⟨⟨0, (), rfl, ⟨e1, by rw [← e1]; exact Or.inl rfl⟩, by rw [ht]; exact hP, va_K.moved hW.alike hK, hD⟩, hS.F ht⟩) hS.2.2 dX9_isReader_17
  · skip
    have hF := (if_neg c1).symm.trans hF
    refine lv_iload_n hx hb dX9_isReader_4 rfl (lv_at hl 1 rfl) ?_
    refine lv_aload_n hx hb dX9_isReader_5 rfl (lv_at hl 0 rfl) ?_
    refine va_get (D := D) (ci := 9) (v := .int (S.1 200 2)) (C := RX9) (T := TX9) (N := 19) hx hb hts iX9_isReader_9 hown hK hP 0 rfl rfl 12 (by decide) (hts (.fieldLink RX9 104 "FondsRoom" "readerCount" "I") (List.mem_of_getElem? (i := 1) rfl)) (fun _ h9 => h9) rfl dX9_isReader_6 ?_
    refine lv_icmp_ge (tgt := 16) hx hb dX9_isReader_9 (by decide) (fun c2 => ?_) (fun c2 => ?_)
    · skip
      have hF := (if_pos c2).symm.trans hF
      refine lv_iconst (v := 0) hx hb dX9_isReader_16 (by decide) ?_
      have e1 := Option.some.inj hF
      exact W.zret (v := 0) hx hb hr (nz01 (Or.inl rfl)).1 (fun t ht hW => ⟨⟨0, (), rfl, ⟨e1, by rw [← e1]; exact Or.inl rfl⟩, by rw [ht]; exact hP, va_K.moved hW.alike hK, hD⟩, hS.F ht⟩) hS.2.2 dX9_isReader_17
    · skip
      have hF := (if_neg c2).symm.trans hF
      refine lv_iconst (v := 1) hx hb dX9_isReader_12 (by decide) ?_
      refine lv_goto (tgt := 17) hx hb dX9_isReader_13 (by decide) ?_
      have e1 := Option.some.inj hF
      exact W.zret (v := 1) hx hb hr (nz01 (Or.inr rfl)).1 (fun t ht hW => ⟨⟨1, (), rfl, ⟨e1, by rw [← e1]; exact Or.inr rfl⟩, by rw [ht]; exact hP, va_K.moved hW.alike hK, hD⟩, hS.F ht⟩) hS.2.2 dX9_isReader_17

theorem iX9_isBox_9 : ∀ w ∈ wsX90, w ∈ wsX9_isBox := fun _ h => List.mem_cons_of_mem _ (List.mem_append_right _ h)
set_option maxHeartbeats 8000000 in
set_option maxRecDepth 100000 in
theorem zX9_isBox (l : Launch) (D : va_G) (x : Nat → Nat) (cy : Nat → ClassId) (g : Nat → Nat → Option Nat) (L : List Nat) (K : Nat → Nat) (cf : Nat → Nat → Nat) (nm : Nat → Int32) (hG : GO L K g) (hL : PL L K cf) (S : CS) (hT : WT L K S.2) (sz : Nat) (ar1 : Int32)  (rv : Int32) (hF : gX9_isBox g cf nm S ar1 = some rv) : Met l yX9_isBox wsX9_isBox ({ frames := 0, cells := 0, slots := 0, locals := 0 }) (PW D (TYS cy) (ZW x cy g S ++ va_pl L (pf cy K cf nm S)) sz [.ref (x 0), .int ar1]) (va_Qi (fun (res : Int32) (u : Unit) => res = rv ∧ b01 rv) (BU D (TYS cy) (ZW x cy g S ++ va_pl L (pf cy K cf nm S)) (fun _ => ZW x cy g S ++ va_pl L (pf cy K cf nm S)) sz) (va_A (ZW x cy g S ++ va_pl L (pf cy K cf nm S)) sz)) 0 0 (va_A (ZW x cy g S ++ va_pl L (pf cy K cf nm S)) sz) := by
  refine Met.ofW (cc := cX9_isBox) (maxL := 2) (ret := (some .boolean)) (by decide) rfl ?_
  intro p e s m args below meth c s₁ B hml hv
  obtain ⟨rfl, hsz, hP, hK, hD0⟩ := hv
  have hx := B.exec
  have hb := B.bytes
  have hr := B.returns
  have hts := atoms_spec (ws := wsX9_isBox) B.pre
  have hown : s.vm.findClass RX9 = some m.cls := findClass_of_methodNamed B.named
  have hlocks := B.notSynchronized
  subst hsz
  have hD := hD0.self (sz := s.heap.size)
  have hA : ∀ q9 : Nat, s.heap.size ≤ q9 → va_A (ZW x cy g S ++ va_pl L (pf cy K cf nm S)) s.heap.size q9 := fun q9 h => Or.inr h
  have hS : va_S (va_A (ZW x cy g S ++ va_pl L (pf cy K cf nm S)) s.heap.size) s.heap s.heap [] := va_S.rf
  have hl := lv_entry ([.ref (x 0), .int ar1]) (n := 2) (Nat.le_of_ble_eq_true rfl)
  rw [lg_entry_eq]
  generalize (lg_sl ([.ref (x 0), .int ar1]) ++ List.replicate (2 - (lg_sl ([.ref (x 0), .int ar1])).length) Slot.unset).toArray = ls at hl ⊢
  have hl : lv_has ls 2 [(0, .ref (x 0)), (1, .int ar1)] := hl
  unfold gX9_isBox at hF
  refine lv_iload_n hx hb dX9_isBox_0 rfl (lv_at hl 1 rfl) ?_
  refine lv_if_lt (tgt := 16) hx hb dX9_isBox_1 (by decide) (fun c1 => ?_) (fun c1 => ?_)
  · skip
    have hF := (if_pos c1).symm.trans hF
    refine lv_iconst (v := 0) hx hb dX9_isBox_16 (by decide) ?_
    have e1 := Option.some.inj hF
    exact W.zret (v := 0) hx hb hr (nz01 (Or.inl rfl)).1 (fun t ht hW => ⟨⟨0, (), rfl, ⟨e1, by rw [← e1]; exact Or.inl rfl⟩, by rw [ht]; exact hP, va_K.moved hW.alike hK, hD⟩, hS.F ht⟩) hS.2.2 dX9_isBox_17
  · skip
    have hF := (if_neg c1).symm.trans hF
    refine lv_iload_n hx hb dX9_isBox_4 rfl (lv_at hl 1 rfl) ?_
    refine lv_aload_n hx hb dX9_isBox_5 rfl (lv_at hl 0 rfl) ?_
    refine va_get (D := D) (ci := 9) (v := .int (S.1 200 1)) (C := RX9) (T := TX9) (N := 19) hx hb hts iX9_isBox_9 hown hK hP 0 rfl rfl 11 (by decide) (hts (.fieldLink RX9 88 "FondsRoom" "boxCount" "I") (List.mem_of_getElem? (i := 1) rfl)) (fun _ h9 => h9) rfl dX9_isBox_6 ?_
    refine lv_icmp_ge (tgt := 16) hx hb dX9_isBox_9 (by decide) (fun c2 => ?_) (fun c2 => ?_)
    · skip
      have hF := (if_pos c2).symm.trans hF
      refine lv_iconst (v := 0) hx hb dX9_isBox_16 (by decide) ?_
      have e1 := Option.some.inj hF
      exact W.zret (v := 0) hx hb hr (nz01 (Or.inl rfl)).1 (fun t ht hW => ⟨⟨0, (), rfl, ⟨e1, by rw [← e1]; exact Or.inl rfl⟩, by rw [ht]; exact hP, va_K.moved hW.alike hK, hD⟩, hS.F ht⟩) hS.2.2 dX9_isBox_17
    · skip
      have hF := (if_neg c2).symm.trans hF
      refine lv_iconst (v := 1) hx hb dX9_isBox_12 (by decide) ?_
      refine lv_goto (tgt := 17) hx hb dX9_isBox_13 (by decide) ?_
      have e1 := Option.some.inj hF
      exact W.zret (v := 1) hx hb hr (nz01 (Or.inr rfl)).1 (fun t ht hW => ⟨⟨1, (), rfl, ⟨e1, by rw [← e1]; exact Or.inr rfl⟩, by rw [ht]; exact hP, va_K.moved hW.alike hK, hD⟩, hS.F ht⟩) hS.2.2 dX9_isBox_17

theorem iX2_keep_2 : ∀ w ∈ wsX20, w ∈ wsX2_keep := fun _ h => List.mem_cons_of_mem _ (List.mem_append_right _ h)
set_option maxHeartbeats 8000000 in
set_option maxRecDepth 100000 in
theorem zX2_keep (l : Launch) (D : va_G) (x : Nat → Nat) (cy : Nat → ClassId) (g : Nat → Nat → Option Nat) (L : List Nat) (K : Nat → Nat) (cf : Nat → Nat → Nat) (nm : Nat → Int32) (hG : GO L K g) (hL : PL L K cf) (S0 : CS) (hT : WT L K S0.2) (sz : Nat) (ar1 : Int32) (ar2 : Int32) (ar3 : Int32) (ar4 : Int32)  (Sf : CS) (hF : gX2_keep g cf nm S0 ar1 ar2 ar3 ar4 = some Sf) : Met l yX2_keep wsX2_keep ({ frames := 0, cells := 0, slots := 0, locals := 0 }) (PW D (TYS cy) (ZW x cy g S0 ++ va_pl L (pf cy K cf nm S0)) sz [.ref (x 18), .int ar1, .int ar2, .int ar3, .int ar4]) (va_Qv (fun (u : Unit) => WT L K Sf.2) (BU D (TYS cy) (ZW x cy g S0 ++ va_pl L (pf cy K cf nm S0)) (fun _ => ZW x cy g Sf ++ va_pl L (pf cy K cf nm Sf)) sz) (va_A (ZW x cy g S0 ++ va_pl L (pf cy K cf nm S0)) sz)) 0 0 (va_A (ZW x cy g S0 ++ va_pl L (pf cy K cf nm S0)) sz) := by
  refine Met.ofW (cc := cX2_keep) (maxL := 6) (ret := none) (by decide) rfl ?_
  intro p e s m args below meth c s₁ B hml hv
  obtain ⟨rfl, hsz, hP, hK, hD0⟩ := hv
  have hx := B.exec
  have hb := B.bytes
  have hr := B.returns
  have hts := atoms_spec (ws := wsX2_keep) B.pre
  have hown : s.vm.findClass RX2 = some m.cls := findClass_of_methodNamed B.named
  have hlocks := B.notSynchronized
  subst hsz
  have hD := hD0.self (sz := s.heap.size)
  have hA : ∀ q9 : Nat, s.heap.size ≤ q9 → va_A (ZW x cy g S0 ++ va_pl L (pf cy K cf nm S0)) s.heap.size q9 := fun q9 h => Or.inr h
  have hS : va_S (va_A (ZW x cy g S0 ++ va_pl L (pf cy K cf nm S0)) s.heap.size) s.heap s.heap [] := va_S.rf
  have hl := lv_entry ([.ref (x 18), .int ar1, .int ar2, .int ar3, .int ar4]) (n := 6) (Nat.le_of_ble_eq_true rfl)
  rw [lg_entry_eq]
  generalize (lg_sl ([.ref (x 18), .int ar1, .int ar2, .int ar3, .int ar4]) ++ List.replicate (6 - (lg_sl ([.ref (x 18), .int ar1, .int ar2, .int ar3, .int ar4])).length) Slot.unset).toArray = ls at hl ⊢
  have hl : lv_has ls 6 [(0, .ref (x 18)), (1, .int ar1), (2, .int ar2), (3, .int ar3), (4, .int ar4)] := hl
  unfold gX2_keep at hF
  refine lv_aload_n hx hb dX2_keep_0 rfl (lv_at hl 0 rfl) ?_
  refine va_get (D := D) (ci := 2) (v := .int (S0.1 200 15)) (C := RX2) (T := TX2) (N := 2) hx hb hts iX2_keep_2 hown hK hP 18 rfl rfl 1 (by decide) (hts (.fieldLink RX2 15 "FondsRoom$Events" "size" "I") (List.mem_of_getElem? (i := 1) rfl)) (fun _ h9 => h9) rfl dX2_keep_1 ?_
  refine lv_sipush (v := 400) hx hb dX2_keep_4 (by decide) ?_
  refine lv_icmp_lt (tgt := 11) hx hb dX2_keep_7 (by decide) (fun c1 => ?_) (fun c1 => ?_)
  · skip
    have hF := (if_pos c1).symm.trans hF
    refine lv_aload_n hx hb dX2_keep_11 rfl (lv_at hl 0 rfl) ?_
    refine va_get (D := D) (ci := 2) (v := .int (S0.1 200 15)) (C := RX2) (T := TX2) (N := 2) hx hb hts iX2_keep_2 hown hK hP 18 rfl rfl 1 (by decide) (hts (.fieldLink RX2 15 "FondsRoom$Events" "size" "I") (List.mem_of_getElem? (i := 1) rfl)) (fun _ h9 => h9) rfl dX2_keep_12 ?_
    refine lv_iconst (v := 4) hx hb dX2_keep_15 (by decide) ?_
    refine lv_imul hx hb dX2_keep_16 ?_
    refine lv_istore (lv' := [(5, .int ((S0.1 200 15) * 4)), (0, .ref (x 18)), (1, .int ar1), (2, .int ar2), (3, .int ar3), (4, .int ar4)]) hx hb dX2_keep_17 hl (by decide) rfl (fun ls hl => ?_)
    refine lv_aload_n hx hb dX2_keep_19 rfl (lv_at hl 1 rfl) ?_
    refine va_get (D := D) (ci := 2) (v := .ref (x 19)) (C := RX2) (T := TX2) (N := 2) hx hb hts iX2_keep_2 hown hK hP 18 rfl rfl 0 (by decide) (hts (.fieldLink RX2 11 "FondsRoom$Events" "rows" "[I") (List.mem_of_getElem? (i := 2) rfl)) (fun _ h9 => h9) rfl dX2_keep_20 ?_
    refine lv_iload hx hb dX2_keep_23 (lv_at hl 0 rfl) ?_
    refine lv_iload_n hx hb dX2_keep_25 rfl (lv_at hl 2 rfl) ?_
    obtain ⟨hi2, hF⟩ := si_s hF
    refine va_iast hx hb hK hP hD hS 19 0 rfl rfl hi2 dX2_keep_26 (fun H locs hP hD hS => ?_)
    obtain ⟨S3, eS3⟩ : ∃ z, z = wi S0 204 (((S0.1 200 15) * 4) : Int32).toNatClampNeg ar1 := ⟨_, rfl⟩
    replace hF := hF S3 eS3
    have hP : va_P D vwCl (ZW x cy g S3 ++ va_pl L (pf cy K cf nm S3)) H := by rw [eS3]; rw [show pf cy K cf nm (wi S0 204 (((S0.1 200 15) * 4) : Int32).toNatClampNeg ar1) = pf cy K cf nm S0 from pf_204]; exact hP
    have hD : va_D (va_A (ZW x cy g S0 ++ va_pl L (pf cy K cf nm S0)) s.heap.size) (ZW x cy g S3 ++ va_pl L (pf cy K cf nm S3)) := by rw [eS3]; rw [show pf cy K cf nm (wi S0 204 (((S0.1 200 15) * 4) : Int32).toNatClampNeg ar1) = pf cy K cf nm S0 from pf_204]; exact hD
    have hT : WT L K S3.2 := by rw [eS3]; exact hT
    refine lv_aload_n hx hb dX2_keep_27 rfl (lv_at hl 1 rfl) ?_
    refine va_get (D := D) (ci := 2) (v := .ref (x 19)) (C := RX2) (T := TX2) (N := 2) hx hb hts iX2_keep_2 hown hK hP 18 rfl rfl 0 (by decide) (hts (.fieldLink RX2 11 "FondsRoom$Events" "rows" "[I") (List.mem_of_getElem? (i := 2) rfl)) (fun _ h9 => h9) rfl dX2_keep_28 ?_
    refine lv_iload hx hb dX2_keep_31 (lv_at hl 0 rfl) ?_
    refine lv_iconst (v := 1) hx hb dX2_keep_33 (by decide) ?_
    refine lv_iadd hx hb dX2_keep_34 ?_
    refine lv_iload_n hx hb dX2_keep_35 rfl (lv_at hl 3 rfl) ?_
    obtain ⟨hi4, hF⟩ := si_s hF
    refine va_iast hx hb hK hP hD hS 19 0 rfl rfl hi4 dX2_keep_36 (fun H locs hP hD hS => ?_)
    obtain ⟨S5, eS5⟩ : ∃ z, z = wi S3 204 ((((S0.1 200 15) * 4) + 1) : Int32).toNatClampNeg ar2 := ⟨_, rfl⟩
    replace hF := hF S5 eS5
    have hP : va_P D vwCl (ZW x cy g S5 ++ va_pl L (pf cy K cf nm S5)) H := by rw [eS5]; rw [show pf cy K cf nm (wi S3 204 ((((S0.1 200 15) * 4) + 1) : Int32).toNatClampNeg ar2) = pf cy K cf nm S3 from pf_204]; exact hP
    have hD : va_D (va_A (ZW x cy g S0 ++ va_pl L (pf cy K cf nm S0)) s.heap.size) (ZW x cy g S5 ++ va_pl L (pf cy K cf nm S5)) := by rw [eS5]; rw [show pf cy K cf nm (wi S3 204 ((((S0.1 200 15) * 4) + 1) : Int32).toNatClampNeg ar2) = pf cy K cf nm S3 from pf_204]; exact hD
    have hT : WT L K S5.2 := by rw [eS5]; exact hT
    refine lv_aload_n hx hb dX2_keep_37 rfl (lv_at hl 1 rfl) ?_
    refine va_get (D := D) (ci := 2) (v := .ref (x 19)) (C := RX2) (T := TX2) (N := 2) hx hb hts iX2_keep_2 hown hK hP 18 rfl rfl 0 (by decide) (hts (.fieldLink RX2 11 "FondsRoom$Events" "rows" "[I") (List.mem_of_getElem? (i := 2) rfl)) (fun _ h9 => h9) rfl dX2_keep_38 ?_
    refine lv_iload hx hb dX2_keep_41 (lv_at hl 0 rfl) ?_
    refine lv_iconst (v := 2) hx hb dX2_keep_43 (by decide) ?_
    refine lv_iadd hx hb dX2_keep_44 ?_
    refine lv_iload_n hx hb dX2_keep_45 rfl (lv_at hl 4 rfl) ?_
    obtain ⟨hi6, hF⟩ := si_s hF
    refine va_iast hx hb hK hP hD hS 19 0 rfl rfl hi6 dX2_keep_46 (fun H locs hP hD hS => ?_)
    obtain ⟨S7, eS7⟩ : ∃ z, z = wi S5 204 ((((S0.1 200 15) * 4) + 2) : Int32).toNatClampNeg ar3 := ⟨_, rfl⟩
    replace hF := hF S7 eS7
    have hP : va_P D vwCl (ZW x cy g S7 ++ va_pl L (pf cy K cf nm S7)) H := by rw [eS7]; rw [show pf cy K cf nm (wi S5 204 ((((S0.1 200 15) * 4) + 2) : Int32).toNatClampNeg ar3) = pf cy K cf nm S5 from pf_204]; exact hP
    have hD : va_D (va_A (ZW x cy g S0 ++ va_pl L (pf cy K cf nm S0)) s.heap.size) (ZW x cy g S7 ++ va_pl L (pf cy K cf nm S7)) := by rw [eS7]; rw [show pf cy K cf nm (wi S5 204 ((((S0.1 200 15) * 4) + 2) : Int32).toNatClampNeg ar3) = pf cy K cf nm S5 from pf_204]; exact hD
    have hT : WT L K S7.2 := by rw [eS7]; exact hT
    refine lv_aload_n hx hb dX2_keep_47 rfl (lv_at hl 1 rfl) ?_
    refine va_get (D := D) (ci := 2) (v := .ref (x 19)) (C := RX2) (T := TX2) (N := 2) hx hb hts iX2_keep_2 hown hK hP 18 rfl rfl 0 (by decide) (hts (.fieldLink RX2 11 "FondsRoom$Events" "rows" "[I") (List.mem_of_getElem? (i := 2) rfl)) (fun _ h9 => h9) rfl dX2_keep_48 ?_
    refine lv_iload hx hb dX2_keep_51 (lv_at hl 0 rfl) ?_
    refine lv_iconst (v := 3) hx hb dX2_keep_53 (by decide) ?_
    refine lv_iadd hx hb dX2_keep_54 ?_
    refine lv_iload hx hb dX2_keep_55 (lv_at hl 5 rfl) ?_
    obtain ⟨hi8, hF⟩ := si_s hF
    refine va_iast hx hb hK hP hD hS 19 0 rfl rfl hi8 dX2_keep_57 (fun H locs hP hD hS => ?_)
    obtain ⟨S9, eS9⟩ : ∃ z, z = wi S7 204 ((((S0.1 200 15) * 4) + 3) : Int32).toNatClampNeg ar4 := ⟨_, rfl⟩
    replace hF := hF S9 eS9
    have hP : va_P D vwCl (ZW x cy g S9 ++ va_pl L (pf cy K cf nm S9)) H := by rw [eS9]; rw [show pf cy K cf nm (wi S7 204 ((((S0.1 200 15) * 4) + 3) : Int32).toNatClampNeg ar4) = pf cy K cf nm S7 from pf_204]; exact hP
    have hD : va_D (va_A (ZW x cy g S0 ++ va_pl L (pf cy K cf nm S0)) s.heap.size) (ZW x cy g S9 ++ va_pl L (pf cy K cf nm S9)) := by rw [eS9]; rw [show pf cy K cf nm (wi S7 204 ((((S0.1 200 15) * 4) + 3) : Int32).toNatClampNeg ar4) = pf cy K cf nm S7 from pf_204]; exact hD
    have hT : WT L K S9.2 := by rw [eS9]; exact hT
    refine lv_aload_n hx hb dX2_keep_58 rfl (lv_at hl 1 rfl) ?_
    refine lv_dup hx hb dX2_keep_59 rfl ?_
    refine va_get (D := D) (ci := 2) (v := .int (S9.1 200 15)) (C := RX2) (T := TX2) (N := 2) hx hb hts iX2_keep_2 hown hK hP 18 rfl rfl 1 (by decide) (hts (.fieldLink RX2 15 "FondsRoom$Events" "size" "I") (List.mem_of_getElem? (i := 1) rfl)) (fun _ h9 => h9) rfl dX2_keep_60 ?_
    refine lv_iconst (v := 1) hx hb dX2_keep_63 (by decide) ?_
    refine lv_iadd hx hb dX2_keep_64 ?_
    refine va_put (D := D) (ci := 2) (v := .int ((S9.1 200 15) + 1)) (ty := .int) (C := RX2) (T := TX2) (N := 2) hx hb hts iX2_keep_2 tyX2 tyX2_ok nmX2 hown hK hP hD hS 18 rfl rfl 1 (by decide) (hts (.fieldLink RX2 15 "FondsRoom$Events" "size" "I") (List.mem_of_getElem? (i := 1) rfl)) (fun _ h9 => h9) rfl (by decide +kernel) rfl rfl (Nat.le_of_ble_eq_true rfl) dX2_keep_65 (fun H locs hP hD hS => ?_)
    obtain ⟨S10, eS10⟩ : ∃ z, z = wi S9 200 15 ((S9.1 200 15) + 1) := ⟨_, rfl⟩
    replace hF := bnd_s hF S10 eS10
    have hP : va_P D vwCl (ZW x cy g S10 ++ va_pl L (pf cy K cf nm S10)) H := by rw [eS10]; rw [show pf cy K cf nm (wi S9 200 15 ((S9.1 200 15) + 1)) = pf cy K cf nm S9 from pf_200]; exact hP
    have hD : va_D (va_A (ZW x cy g S0 ++ va_pl L (pf cy K cf nm S0)) s.heap.size) (ZW x cy g S10 ++ va_pl L (pf cy K cf nm S10)) := by rw [eS10]; rw [show pf cy K cf nm (wi S9 200 15 ((S9.1 200 15) + 1)) = pf cy K cf nm S9 from pf_200]; exact hD
    have hT : WT L K S10.2 := by rw [eS10]; exact hT
    have e2 := Option.some.inj hF
    have hP : va_P D vwCl (ZW x cy g Sf ++ va_pl L (pf cy K cf nm Sf)) H := by rw [← e2]; exact hP
    have hD : va_D (va_A (ZW x cy g S0 ++ va_pl L (pf cy K cf nm S0)) s.heap.size) (ZW x cy g Sf ++ va_pl L (pf cy K cf nm Sf)) := by rw [← e2]; exact hD
    have hT : WT L K Sf.2 := by rw [← e2]; exact hT
    exact W.vret hx hb hr (fun t ht hW => ⟨⟨(), rfl, hT, by rw [ht]; exact hP, va_K.moved hW.alike hK, hD⟩, hS.F ht⟩) hS.2.2 dX2_keep_68
  · skip
    have hF := (if_neg c1).symm.trans hF
    have e2 := Option.some.inj hF
    have hP : va_P D vwCl (ZW x cy g Sf ++ va_pl L (pf cy K cf nm Sf)) s.heap := by rw [← e2]; exact hP
    have hD : va_D (va_A (ZW x cy g S0 ++ va_pl L (pf cy K cf nm S0)) s.heap.size) (ZW x cy g Sf ++ va_pl L (pf cy K cf nm Sf)) := by rw [← e2]; exact hD
    have hT : WT L K Sf.2 := by rw [← e2]; exact hT
    exact W.vret hx hb hr (fun t ht hW => ⟨⟨(), rfl, hT, by rw [ht]; exact hP, va_K.moved hW.alike hK, hD⟩, hS.F ht⟩) hS.2.2 dX2_keep_10

theorem iX2_hasEntry_2 : ∀ w ∈ wsX20, w ∈ wsX2_hasEntry := fun _ h => List.mem_cons_of_mem _ (List.mem_append_right _ h)
set_option maxHeartbeats 8000000 in
set_option maxRecDepth 100000 in
theorem zX2_hasEntry (l : Launch) (D : va_G) (x : Nat → Nat) (cy : Nat → ClassId) (g : Nat → Nat → Option Nat) (L : List Nat) (K : Nat → Nat) (cf : Nat → Nat → Nat) (nm : Nat → Int32) (hG : GO L K g) (hL : PL L K cf) (S : CS) (hT : WT L K S.2) (sz : Nat) (ar1 : Int32) (ar2 : Int32)  (rv : Int32) (hF : gX2_hasEntry g cf nm S ar1 ar2 = some rv) : Met l yX2_hasEntry wsX2_hasEntry ({ frames := 0, cells := 0, slots := 0, locals := 0 }) (PW D (TYS cy) (ZW x cy g S ++ va_pl L (pf cy K cf nm S)) sz [.ref (x 18), .int ar1, .int ar2]) (va_Qi (fun (res : Int32) (u : Unit) => res = rv ∧ b01 rv) (BU D (TYS cy) (ZW x cy g S ++ va_pl L (pf cy K cf nm S)) (fun _ => ZW x cy g S ++ va_pl L (pf cy K cf nm S)) sz) (va_A (ZW x cy g S ++ va_pl L (pf cy K cf nm S)) sz)) 0 0 (va_A (ZW x cy g S ++ va_pl L (pf cy K cf nm S)) sz) := by
  refine Met.ofW (cc := cX2_hasEntry) (maxL := 3) (ret := (some .boolean)) (by decide) rfl ?_
  intro p e s m args below meth c s₁ B hml hv
  obtain ⟨rfl, hsz, hP, hK, hD0⟩ := hv
  have hx := B.exec
  have hb := B.bytes
  have hr := B.returns
  have hts := atoms_spec (ws := wsX2_hasEntry) B.pre
  have hown : s.vm.findClass RX2 = some m.cls := findClass_of_methodNamed B.named
  have hlocks := B.notSynchronized
  subst hsz
  have hD := hD0.self (sz := s.heap.size)
  have hA : ∀ q9 : Nat, s.heap.size ≤ q9 → va_A (ZW x cy g S ++ va_pl L (pf cy K cf nm S)) s.heap.size q9 := fun q9 h => Or.inr h
  have hS : va_S (va_A (ZW x cy g S ++ va_pl L (pf cy K cf nm S)) s.heap.size) s.heap s.heap [] := va_S.rf
  have hl := lv_entry ([.ref (x 18), .int ar1, .int ar2]) (n := 3) (Nat.le_of_ble_eq_true rfl)
  rw [lg_entry_eq]
  generalize (lg_sl ([.ref (x 18), .int ar1, .int ar2]) ++ List.replicate (3 - (lg_sl ([.ref (x 18), .int ar1, .int ar2])).length) Slot.unset).toArray = ls at hl ⊢
  have hl : lv_has ls 3 [(0, .ref (x 18)), (1, .int ar1), (2, .int ar2)] := hl
  unfold gX2_hasEntry at hF
  refine lv_iload_n hx hb dX2_hasEntry_0 rfl (lv_at hl 1 rfl) ?_
  refine lv_if_lt (tgt := 25) hx hb dX2_hasEntry_1 (by decide) (fun c1 => ?_) (fun c1 => ?_)
  · skip
    have hF := (if_pos c1).symm.trans hF
    refine lv_iconst (v := 0) hx hb dX2_hasEntry_25 (by decide) ?_
    have e1 := Option.some.inj hF
    exact W.zret (v := 0) hx hb hr (nz01 (Or.inl rfl)).1 (fun t ht hW => ⟨⟨0, (), rfl, ⟨e1, by rw [← e1]; exact Or.inl rfl⟩, by rw [ht]; exact hP, va_K.moved hW.alike hK, hD⟩, hS.F ht⟩) hS.2.2 dX2_hasEntry_26
  · skip
    have hF := (if_neg c1).symm.trans hF
    refine lv_iload_n hx hb dX2_hasEntry_4 rfl (lv_at hl 1 rfl) ?_
    refine lv_aload_n hx hb dX2_hasEntry_5 rfl (lv_at hl 0 rfl) ?_
    refine va_get (D := D) (ci := 2) (v := .int (S.1 200 15)) (C := RX2) (T := TX2) (N := 2) hx hb hts iX2_hasEntry_2 hown hK hP 18 rfl rfl 1 (by decide) (hts (.fieldLink RX2 15 "FondsRoom$Events" "size" "I") (List.mem_of_getElem? (i := 1) rfl)) (fun _ h9 => h9) rfl dX2_hasEntry_6 ?_
    refine lv_icmp_ge (tgt := 25) hx hb dX2_hasEntry_9 (by decide) (fun c2 => ?_) (fun c2 => ?_)
    · skip
      have hF := (if_pos c2).symm.trans hF
      refine lv_iconst (v := 0) hx hb dX2_hasEntry_25 (by decide) ?_
      have e1 := Option.some.inj hF
      exact W.zret (v := 0) hx hb hr (nz01 (Or.inl rfl)).1 (fun t ht hW => ⟨⟨0, (), rfl, ⟨e1, by rw [← e1]; exact Or.inl rfl⟩, by rw [ht]; exact hP, va_K.moved hW.alike hK, hD⟩, hS.F ht⟩) hS.2.2 dX2_hasEntry_26
    · skip
      have hF := (if_neg c2).symm.trans hF
      refine lv_iload_n hx hb dX2_hasEntry_12 rfl (lv_at hl 2 rfl) ?_
      refine lv_if_lt (tgt := 25) hx hb dX2_hasEntry_13 (by decide) (fun c3 => ?_) (fun c3 => ?_)
      · skip
        have hF := (if_pos c3).symm.trans hF
        refine lv_iconst (v := 0) hx hb dX2_hasEntry_25 (by decide) ?_
        have e1 := Option.some.inj hF
        exact W.zret (v := 0) hx hb hr (nz01 (Or.inl rfl)).1 (fun t ht hW => ⟨⟨0, (), rfl, ⟨e1, by rw [← e1]; exact Or.inl rfl⟩, by rw [ht]; exact hP, va_K.moved hW.alike hK, hD⟩, hS.F ht⟩) hS.2.2 dX2_hasEntry_26
      · skip
        have hF := (if_neg c3).symm.trans hF
        refine lv_iload_n hx hb dX2_hasEntry_16 rfl (lv_at hl 2 rfl) ?_
        refine lv_iconst (v := 4) hx hb dX2_hasEntry_17 (by decide) ?_
        refine lv_icmp_ge (tgt := 25) hx hb dX2_hasEntry_18 (by decide) (fun c4 => ?_) (fun c4 => ?_)
        · skip
          have hF := (if_pos c4).symm.trans hF
          refine lv_iconst (v := 0) hx hb dX2_hasEntry_25 (by decide) ?_
          have e1 := Option.some.inj hF
          exact W.zret (v := 0) hx hb hr (nz01 (Or.inl rfl)).1 (fun t ht hW => ⟨⟨0, (), rfl, ⟨e1, by rw [← e1]; exact Or.inl rfl⟩, by rw [ht]; exact hP, va_K.moved hW.alike hK, hD⟩, hS.F ht⟩) hS.2.2 dX2_hasEntry_26
        · skip
          have hF := (if_neg c4).symm.trans hF
          refine lv_iconst (v := 1) hx hb dX2_hasEntry_21 (by decide) ?_
          refine lv_goto (tgt := 26) hx hb dX2_hasEntry_22 (by decide) ?_
          have e1 := Option.some.inj hF
          exact W.zret (v := 1) hx hb hr (nz01 (Or.inr rfl)).1 (fun t ht hW => ⟨⟨1, (), rfl, ⟨e1, by rw [← e1]; exact Or.inr rfl⟩, by rw [ht]; exact hP, va_K.moved hW.alike hK, hD⟩, hS.F ht⟩) hS.2.2 dX2_hasEntry_26

theorem iX2_entry_2 : ∀ w ∈ wsX20, w ∈ wsX2_entry := fun _ h => List.mem_cons_of_mem _ (List.mem_append_right _ h)
set_option maxHeartbeats 8000000 in
set_option maxRecDepth 100000 in
theorem zX2_entry (l : Launch) (D : va_G) (x : Nat → Nat) (cy : Nat → ClassId) (g : Nat → Nat → Option Nat) (L : List Nat) (K : Nat → Nat) (cf : Nat → Nat → Nat) (nm : Nat → Int32) (hG : GO L K g) (hL : PL L K cf) (S : CS) (hT : WT L K S.2) (sz : Nat) (ar1 : Int32) (ar2 : Int32)  (rv : Int32) (hF : gX2_entry g cf nm S ar1 ar2 = some rv) : Met l yX2_entry wsX2_entry ({ frames := 1, cells := 0, slots := 0, locals := 22 }) (PW D (TYS cy) (ZW x cy g S ++ va_pl L (pf cy K cf nm S)) sz [.ref (x 18), .int ar1, .int ar2]) (va_Qi (fun (res : Int32) (u : Unit) => res = rv) (BU D (TYS cy) (ZW x cy g S ++ va_pl L (pf cy K cf nm S)) (fun _ => ZW x cy g S ++ va_pl L (pf cy K cf nm S)) sz) (va_A (ZW x cy g S ++ va_pl L (pf cy K cf nm S)) sz)) 0 0 (va_A (ZW x cy g S ++ va_pl L (pf cy K cf nm S)) sz) := by
  refine Met.ofW (cc := cX2_entry) (maxL := 3) (ret := (some .int)) (by decide) rfl ?_
  intro p e s m args below meth c s₁ B hml hv
  obtain ⟨rfl, hsz, hP, hK, hD0⟩ := hv
  have hx := B.exec
  have hb := B.bytes
  have hr := B.returns
  have hts := atoms_spec (ws := wsX2_entry) B.pre
  have hown : s.vm.findClass RX2 = some m.cls := findClass_of_methodNamed B.named
  have hlocks := B.notSynchronized
  subst hsz
  have hD := hD0.self (sz := s.heap.size)
  have hA : ∀ q9 : Nat, s.heap.size ≤ q9 → va_A (ZW x cy g S ++ va_pl L (pf cy K cf nm S)) s.heap.size q9 := fun q9 h => Or.inr h
  have hS : va_S (va_A (ZW x cy g S ++ va_pl L (pf cy K cf nm S)) s.heap.size) s.heap s.heap [] := va_S.rf
  have hl := lv_entry ([.ref (x 18), .int ar1, .int ar2]) (n := 3) (Nat.le_of_ble_eq_true rfl)
  rw [lg_entry_eq]
  generalize (lg_sl ([.ref (x 18), .int ar1, .int ar2]) ++ List.replicate (3 - (lg_sl ([.ref (x 18), .int ar1, .int ar2])).length) Slot.unset).toArray = ls at hl ⊢
  have hl : lv_has ls 3 [(0, .ref (x 18)), (1, .int ar1), (2, .int ar2)] := hl
  unfold gX2_entry at hF
  refine lv_aload_n hx hb dX2_entry_0 rfl (lv_at hl 0 rfl) ?_
  refine lv_iload_n hx hb dX2_entry_1 rfl (lv_at hl 1 rfl) ?_
  refine lv_iload_n hx hb dX2_entry_2 rfl (lv_at hl 2 rfl) ?_
  obtain ⟨r1, hq4, hF⟩ := bd1_s hF
  refine gvI (As := [.int ar1, .int ar2]) (rest := []) ⟨hx, hb, hml, hown, hts⟩ (zX2_hasEntry l D x cy g L K cf nm hG hL S hT _ ar1 ar2  r1 hq4) (cwV 2 hts gX2_entry_X2_hasEntry rfl rfl rfl (by decide +kernel) ⟨Nat.le_of_ble_eq_true rfl, Nat.le_of_ble_eq_true rfl⟩) hK hP hD hS hA (va_recv hK hP (ci := 2) (q0 := 18) rfl rfl) rfl hl.1 rfl (Nat.le_of_ble_eq_true rfl) dX2_entry_3 ⟨Nat.le_of_ble_eq_true rfl, Nat.le_of_ble_eq_true rfl⟩ (fun a5 u9 H locs hw3 hP hD hS => ?_)
  have hP : va_P D vwCl (ZW x cy g S ++ va_pl L (pf cy K cf nm S)) H := hP
  have hD : va_D _ (ZW x cy g S ++ va_pl L (pf cy K cf nm S)) := hD
  refine lv_tov (v' := .int r1) (congrArg Value.int hw3.1) ?_
  refine lv_if_eq (tgt := 22) hx hb dX2_entry_6 (by decide) (fun c6 => ?_) (fun c6 => ?_)
  · skip
    have hF := (if_pos c6).symm.trans hF
    refine lv_iconst (v := (-1)) hx hb dX2_entry_22 (by decide) ?_
    have e1 := Option.some.inj hF
    exact W.iret (v := (-1)) hx hb hr (fun t ht hW => ⟨⟨(-1), (), rfl, e1, by rw [ht]; exact hP, va_K.moved hW.alike hK, hD⟩, hS.F ht⟩) hS.2.2 dX2_entry_23
  · skip
    have hF := (if_neg c6).symm.trans hF
    refine lv_aload_n hx hb dX2_entry_9 rfl (lv_at hl 0 rfl) ?_
    refine va_get (D := D) (ci := 2) (v := .ref (x 19)) (C := RX2) (T := TX2) (N := 2) hx hb hts iX2_entry_2 hown hK hP 18 rfl rfl 0 (by decide) (hts (.fieldLink RX2 11 "FondsRoom$Events" "rows" "[I") (List.mem_of_getElem? (i := 1) rfl)) (fun _ h9 => h9) rfl dX2_entry_10 ?_
    refine lv_iload_n hx hb dX2_entry_13 rfl (lv_at hl 1 rfl) ?_
    refine lv_iconst (v := 4) hx hb dX2_entry_14 (by decide) ?_
    refine lv_imul hx hb dX2_entry_15 ?_
    refine lv_iload_n hx hb dX2_entry_16 rfl (lv_at hl 2 rfl) ?_
    refine lv_iadd hx hb dX2_entry_17 ?_
    obtain ⟨hi8, hF⟩ := ld_s hF
    refine va_iald hx hb hK hP 19 0 rfl rfl hi8 dX2_entry_18 ?_
    refine lv_topi (fun y7 ey7 => ?_)
    replace hF := hF y7 ey7
    refine lv_goto (tgt := 23) hx hb dX2_entry_19 (by decide) ?_
    have e1 := Option.some.inj hF
    exact W.iret (v := y7) hx hb hr (fun t ht hW => ⟨⟨y7, (), rfl, e1, by rw [ht]; exact hP, va_K.moved hW.alike hK, hD⟩, hS.F ht⟩) hS.2.2 dX2_entry_23

theorem iX4_append_4 : ∀ w ∈ wsX40, w ∈ wsX4_append := fun _ h => List.mem_cons_of_mem _ (List.mem_append_right _ h)
set_option maxHeartbeats 8000000 in
set_option maxRecDepth 100000 in
theorem zX4_append (l : Launch) (D : va_G) (x : Nat → Nat) (cy : Nat → ClassId) (g : Nat → Nat → Option Nat) (L : List Nat) (K : Nat → Nat) (cf : Nat → Nat → Nat) (nm : Nat → Int32) (hG : GO L K g) (hL : PL L K cf) (S0 : CS) (hT : WT L K S0.2) (sz : Nat) (ar1 : Int32) (ar2 : Int32) (ar3 : Int32)  (rv : Int32) (Sf : CS) (hF : gX4_append g cf nm S0 ar1 ar2 ar3 = some (rv, Sf)) : Met l yX4_append wsX4_append ({ frames := 0, cells := 0, slots := 0, locals := 0 }) (PW D (TYS cy) (ZW x cy g S0 ++ va_pl L (pf cy K cf nm S0)) sz [.ref (x 14), .int ar1, .int ar2, .int ar3]) (va_Qi (fun (res : Int32) (u : Unit) => (res = rv ∧ b01 rv) ∧ WT L K Sf.2) (BU D (TYS cy) (ZW x cy g S0 ++ va_pl L (pf cy K cf nm S0)) (fun _ => ZW x cy g Sf ++ va_pl L (pf cy K cf nm Sf)) sz) (va_A (ZW x cy g S0 ++ va_pl L (pf cy K cf nm S0)) sz)) 0 0 (va_A (ZW x cy g S0 ++ va_pl L (pf cy K cf nm S0)) sz) := by
  refine Met.ofW (cc := cX4_append) (maxL := 4) (ret := (some .boolean)) (by decide) rfl ?_
  intro p e s m args below meth c s₁ B hml hv
  obtain ⟨rfl, hsz, hP, hK, hD0⟩ := hv
  have hx := B.exec
  have hb := B.bytes
  have hr := B.returns
  have hts := atoms_spec (ws := wsX4_append) B.pre
  have hown : s.vm.findClass RX4 = some m.cls := findClass_of_methodNamed B.named
  have hlocks := B.notSynchronized
  subst hsz
  have hD := hD0.self (sz := s.heap.size)
  have hA : ∀ q9 : Nat, s.heap.size ≤ q9 → va_A (ZW x cy g S0 ++ va_pl L (pf cy K cf nm S0)) s.heap.size q9 := fun q9 h => Or.inr h
  have hS : va_S (va_A (ZW x cy g S0 ++ va_pl L (pf cy K cf nm S0)) s.heap.size) s.heap s.heap [] := va_S.rf
  have hl := lv_entry ([.ref (x 14), .int ar1, .int ar2, .int ar3]) (n := 4) (Nat.le_of_ble_eq_true rfl)
  rw [lg_entry_eq]
  generalize (lg_sl ([.ref (x 14), .int ar1, .int ar2, .int ar3]) ++ List.replicate (4 - (lg_sl ([.ref (x 14), .int ar1, .int ar2, .int ar3])).length) Slot.unset).toArray = ls at hl ⊢
  have hl : lv_has ls 4 [(0, .ref (x 14)), (1, .int ar1), (2, .int ar2), (3, .int ar3)] := hl
  unfold gX4_append at hF
  refine lv_aload_n hx hb dX4_append_0 rfl (lv_at hl 0 rfl) ?_
  refine va_get (D := D) (ci := 4) (v := .int (S0.1 200 14)) (C := RX4) (T := TX4) (N := 4) hx hb hts iX4_append_4 hown hK hP 14 rfl rfl 3 (by decide) (hts (.fieldLink RX4 21 "FondsRoom$Mishaps" "size" "I") (List.mem_of_getElem? (i := 1) rfl)) (fun _ h9 => h9) rfl dX4_append_1 ?_
  refine lv_bipush (v := 30) hx hb dX4_append_4 (by decide) ?_
  refine lv_icmp_lt (tgt := 11) hx hb dX4_append_6 (by decide) (fun c1 => ?_) (fun c1 => ?_)
  · skip
    have hF := (if_pos c1).symm.trans hF
    refine lv_aload_n hx hb dX4_append_11 rfl (lv_at hl 0 rfl) ?_
    refine va_get (D := D) (ci := 4) (v := .ref (x 15)) (C := RX4) (T := TX4) (N := 4) hx hb hts iX4_append_4 hown hK hP 14 rfl rfl 0 (by decide) (hts (.fieldLink RX4 9 "FondsRoom$Mishaps" "turns" "[I") (List.mem_of_getElem? (i := 2) rfl)) (fun _ h9 => h9) rfl dX4_append_12 ?_
    refine lv_aload_n hx hb dX4_append_15 rfl (lv_at hl 0 rfl) ?_
    refine va_get (D := D) (ci := 4) (v := .int (S0.1 200 14)) (C := RX4) (T := TX4) (N := 4) hx hb hts iX4_append_4 hown hK hP 14 rfl rfl 3 (by decide) (hts (.fieldLink RX4 21 "FondsRoom$Mishaps" "size" "I") (List.mem_of_getElem? (i := 1) rfl)) (fun _ h9 => h9) rfl dX4_append_16 ?_
    refine lv_iload_n hx hb dX4_append_19 rfl (lv_at hl 1 rfl) ?_
    obtain ⟨hi2, hF⟩ := si_s hF
    refine va_iast hx hb hK hP hD hS 15 0 rfl rfl hi2 dX4_append_20 (fun H locs hP hD hS => ?_)
    obtain ⟨S3, eS3⟩ : ∃ z, z = wi S0 201 ((S0.1 200 14) : Int32).toNatClampNeg ar1 := ⟨_, rfl⟩
    replace hF := hF S3 eS3
    have hP : va_P D vwCl (ZW x cy g S3 ++ va_pl L (pf cy K cf nm S3)) H := by rw [eS3]; rw [show pf cy K cf nm (wi S0 201 ((S0.1 200 14) : Int32).toNatClampNeg ar1) = pf cy K cf nm S0 from pf_201]; exact hP
    have hD : va_D (va_A (ZW x cy g S0 ++ va_pl L (pf cy K cf nm S0)) s.heap.size) (ZW x cy g S3 ++ va_pl L (pf cy K cf nm S3)) := by rw [eS3]; rw [show pf cy K cf nm (wi S0 201 ((S0.1 200 14) : Int32).toNatClampNeg ar1) = pf cy K cf nm S0 from pf_201]; exact hD
    have hT : WT L K S3.2 := by rw [eS3]; exact hT
    refine lv_aload_n hx hb dX4_append_21 rfl (lv_at hl 0 rfl) ?_
    refine va_get (D := D) (ci := 4) (v := .ref (x 16)) (C := RX4) (T := TX4) (N := 4) hx hb hts iX4_append_4 hown hK hP 14 rfl rfl 1 (by decide) (hts (.fieldLink RX4 15 "FondsRoom$Mishaps" "kinds" "[I") (List.mem_of_getElem? (i := 3) rfl)) (fun _ h9 => h9) rfl dX4_append_22 ?_
    refine lv_aload_n hx hb dX4_append_25 rfl (lv_at hl 0 rfl) ?_
    refine va_get (D := D) (ci := 4) (v := .int (S3.1 200 14)) (C := RX4) (T := TX4) (N := 4) hx hb hts iX4_append_4 hown hK hP 14 rfl rfl 3 (by decide) (hts (.fieldLink RX4 21 "FondsRoom$Mishaps" "size" "I") (List.mem_of_getElem? (i := 1) rfl)) (fun _ h9 => h9) rfl dX4_append_26 ?_
    refine lv_iload_n hx hb dX4_append_29 rfl (lv_at hl 2 rfl) ?_
    obtain ⟨hi4, hF⟩ := si_s hF
    refine va_iast hx hb hK hP hD hS 16 0 rfl rfl hi4 dX4_append_30 (fun H locs hP hD hS => ?_)
    obtain ⟨S5, eS5⟩ : ∃ z, z = wi S3 202 ((S3.1 200 14) : Int32).toNatClampNeg ar2 := ⟨_, rfl⟩
    replace hF := hF S5 eS5
    have hP : va_P D vwCl (ZW x cy g S5 ++ va_pl L (pf cy K cf nm S5)) H := by rw [eS5]; rw [show pf cy K cf nm (wi S3 202 ((S3.1 200 14) : Int32).toNatClampNeg ar2) = pf cy K cf nm S3 from pf_202]; exact hP
    have hD : va_D (va_A (ZW x cy g S0 ++ va_pl L (pf cy K cf nm S0)) s.heap.size) (ZW x cy g S5 ++ va_pl L (pf cy K cf nm S5)) := by rw [eS5]; rw [show pf cy K cf nm (wi S3 202 ((S3.1 200 14) : Int32).toNatClampNeg ar2) = pf cy K cf nm S3 from pf_202]; exact hD
    have hT : WT L K S5.2 := by rw [eS5]; exact hT
    refine lv_aload_n hx hb dX4_append_31 rfl (lv_at hl 0 rfl) ?_
    refine va_get (D := D) (ci := 4) (v := .ref (x 17)) (C := RX4) (T := TX4) (N := 4) hx hb hts iX4_append_4 hown hK hP 14 rfl rfl 2 (by decide) (hts (.fieldLink RX4 18 "FondsRoom$Mishaps" "whos" "[I") (List.mem_of_getElem? (i := 4) rfl)) (fun _ h9 => h9) rfl dX4_append_32 ?_
    refine lv_aload_n hx hb dX4_append_35 rfl (lv_at hl 0 rfl) ?_
    refine va_get (D := D) (ci := 4) (v := .int (S5.1 200 14)) (C := RX4) (T := TX4) (N := 4) hx hb hts iX4_append_4 hown hK hP 14 rfl rfl 3 (by decide) (hts (.fieldLink RX4 21 "FondsRoom$Mishaps" "size" "I") (List.mem_of_getElem? (i := 1) rfl)) (fun _ h9 => h9) rfl dX4_append_36 ?_
    refine lv_iload_n hx hb dX4_append_39 rfl (lv_at hl 3 rfl) ?_
    obtain ⟨hi6, hF⟩ := si_s hF
    refine va_iast hx hb hK hP hD hS 17 0 rfl rfl hi6 dX4_append_40 (fun H locs hP hD hS => ?_)
    obtain ⟨S7, eS7⟩ : ∃ z, z = wi S5 203 ((S5.1 200 14) : Int32).toNatClampNeg ar3 := ⟨_, rfl⟩
    replace hF := hF S7 eS7
    have hP : va_P D vwCl (ZW x cy g S7 ++ va_pl L (pf cy K cf nm S7)) H := by rw [eS7]; rw [show pf cy K cf nm (wi S5 203 ((S5.1 200 14) : Int32).toNatClampNeg ar3) = pf cy K cf nm S5 from pf_203]; exact hP
    have hD : va_D (va_A (ZW x cy g S0 ++ va_pl L (pf cy K cf nm S0)) s.heap.size) (ZW x cy g S7 ++ va_pl L (pf cy K cf nm S7)) := by rw [eS7]; rw [show pf cy K cf nm (wi S5 203 ((S5.1 200 14) : Int32).toNatClampNeg ar3) = pf cy K cf nm S5 from pf_203]; exact hD
    have hT : WT L K S7.2 := by rw [eS7]; exact hT
    refine lv_aload_n hx hb dX4_append_41 rfl (lv_at hl 0 rfl) ?_
    refine lv_dup hx hb dX4_append_42 rfl ?_
    refine va_get (D := D) (ci := 4) (v := .int (S7.1 200 14)) (C := RX4) (T := TX4) (N := 4) hx hb hts iX4_append_4 hown hK hP 14 rfl rfl 3 (by decide) (hts (.fieldLink RX4 21 "FondsRoom$Mishaps" "size" "I") (List.mem_of_getElem? (i := 1) rfl)) (fun _ h9 => h9) rfl dX4_append_43 ?_
    refine lv_iconst (v := 1) hx hb dX4_append_46 (by decide) ?_
    refine lv_iadd hx hb dX4_append_47 ?_
    refine va_put (D := D) (ci := 4) (v := .int ((S7.1 200 14) + 1)) (ty := .int) (C := RX4) (T := TX4) (N := 4) hx hb hts iX4_append_4 tyX4 tyX4_ok nmX4 hown hK hP hD hS 14 rfl rfl 3 (by decide) (hts (.fieldLink RX4 21 "FondsRoom$Mishaps" "size" "I") (List.mem_of_getElem? (i := 1) rfl)) (fun _ h9 => h9) rfl (by decide +kernel) rfl rfl (Nat.le_of_ble_eq_true rfl) dX4_append_48 (fun H locs hP hD hS => ?_)
    obtain ⟨S8, eS8⟩ : ∃ z, z = wi S7 200 14 ((S7.1 200 14) + 1) := ⟨_, rfl⟩
    replace hF := bnd_s hF S8 eS8
    have hP : va_P D vwCl (ZW x cy g S8 ++ va_pl L (pf cy K cf nm S8)) H := by rw [eS8]; rw [show pf cy K cf nm (wi S7 200 14 ((S7.1 200 14) + 1)) = pf cy K cf nm S7 from pf_200]; exact hP
    have hD : va_D (va_A (ZW x cy g S0 ++ va_pl L (pf cy K cf nm S0)) s.heap.size) (ZW x cy g S8 ++ va_pl L (pf cy K cf nm S8)) := by rw [eS8]; rw [show pf cy K cf nm (wi S7 200 14 ((S7.1 200 14) + 1)) = pf cy K cf nm S7 from pf_200]; exact hD
    have hT : WT L K S8.2 := by rw [eS8]; exact hT
    refine lv_iconst (v := 1) hx hb dX4_append_51 (by decide) ?_
    obtain ⟨e1, e2⟩ := ret2 hF
    have hP : va_P D vwCl (ZW x cy g Sf ++ va_pl L (pf cy K cf nm Sf)) H := by rw [← e2]; exact hP
    have hD : va_D (va_A (ZW x cy g S0 ++ va_pl L (pf cy K cf nm S0)) s.heap.size) (ZW x cy g Sf ++ va_pl L (pf cy K cf nm Sf)) := by rw [← e2]; exact hD
    have hT : WT L K Sf.2 := by rw [← e2]; exact hT
    exact W.zret (v := 1) hx hb hr (nz01 (Or.inr rfl)).1 (fun t ht hW => ⟨⟨1, (), rfl, ⟨⟨e1, by rw [← e1]; exact Or.inr rfl⟩, hT⟩, by rw [ht]; exact hP, va_K.moved hW.alike hK, hD⟩, hS.F ht⟩) hS.2.2 dX4_append_52
  · skip
    have hF := (if_neg c1).symm.trans hF
    refine lv_iconst (v := 0) hx hb dX4_append_9 (by decide) ?_
    obtain ⟨e1, e2⟩ := ret2 hF
    have hP : va_P D vwCl (ZW x cy g Sf ++ va_pl L (pf cy K cf nm Sf)) s.heap := by rw [← e2]; exact hP
    have hD : va_D (va_A (ZW x cy g S0 ++ va_pl L (pf cy K cf nm S0)) s.heap.size) (ZW x cy g Sf ++ va_pl L (pf cy K cf nm Sf)) := by rw [← e2]; exact hD
    have hT : WT L K Sf.2 := by rw [← e2]; exact hT
    exact W.zret (v := 0) hx hb hr (nz01 (Or.inl rfl)).1 (fun t ht hW => ⟨⟨0, (), rfl, ⟨⟨e1, by rw [← e1]; exact Or.inl rfl⟩, hT⟩, by rw [ht]; exact hP, va_K.moved hW.alike hK, hD⟩, hS.F ht⟩) hS.2.2 dX4_append_10

theorem iX4_dropTurn_4 : ∀ w ∈ wsX40, w ∈ wsX4_dropTurn := fun _ h => List.mem_cons_of_mem _ (List.mem_append_right _ h)
set_option maxHeartbeats 8000000 in
set_option maxRecDepth 100000 in
theorem zX4_dropTurn (l : Launch) (D : va_G) (x : Nat → Nat) (cy : Nat → ClassId) (g : Nat → Nat → Option Nat) (L : List Nat) (K : Nat → Nat) (cf : Nat → Nat → Nat) (nm : Nat → Int32) (hG : GO L K g) (hL : PL L K cf) (S0 : CS) (hT : WT L K S0.2) (sz : Nat) (ar1 : Int32)  (Sf : CS) (hF : gX4_dropTurn g cf nm S0 ar1 = some Sf) : Met l yX4_dropTurn wsX4_dropTurn ({ frames := 0, cells := 0, slots := 0, locals := 0 }) (PW D (TYS cy) (ZW x cy g S0 ++ va_pl L (pf cy K cf nm S0)) sz [.ref (x 14), .int ar1]) (va_Qv (fun (u : Unit) => WT L K Sf.2) (BU D (TYS cy) (ZW x cy g S0 ++ va_pl L (pf cy K cf nm S0)) (fun _ => ZW x cy g Sf ++ va_pl L (pf cy K cf nm Sf)) sz) (va_A (ZW x cy g S0 ++ va_pl L (pf cy K cf nm S0)) sz)) 0 0 (va_A (ZW x cy g S0 ++ va_pl L (pf cy K cf nm S0)) sz) := by
  refine Met.ofW (cc := cX4_dropTurn) (maxL := 4) (ret := none) (by decide) rfl ?_
  intro p e s m args below meth c s₁ B hml hv
  obtain ⟨rfl, hsz, hP, hK, hD0⟩ := hv
  have hx := B.exec
  have hb := B.bytes
  have hr := B.returns
  have hts := atoms_spec (ws := wsX4_dropTurn) B.pre
  have hown : s.vm.findClass RX4 = some m.cls := findClass_of_methodNamed B.named
  have hlocks := B.notSynchronized
  subst hsz
  have hD := hD0.self (sz := s.heap.size)
  have hA : ∀ q9 : Nat, s.heap.size ≤ q9 → va_A (ZW x cy g S0 ++ va_pl L (pf cy K cf nm S0)) s.heap.size q9 := fun q9 h => Or.inr h
  have hS : va_S (va_A (ZW x cy g S0 ++ va_pl L (pf cy K cf nm S0)) s.heap.size) s.heap s.heap [] := va_S.rf
  have key4 : ∀ (KK : Int32 → CS → Option (CS)), (∀ (v2 : Int32) (S : CS) (H : Heap) (locs : List Loc) (ls : Array Slot), KK v2 S = some Sf → WT L K S.2 → va_P D vwCl (ZW x cy g S ++ va_pl L (pf cy K cf nm S)) H → va_D (va_A (ZW x cy g S0 ++ va_pl L (pf cy K cf nm S0)) s.heap.size) (ZW x cy g S ++ va_pl L (pf cy K cf nm S)) → va_S (va_A (ZW x cy g S0 ++ va_pl L (pf cy K cf nm S0)) s.heap.size) s.heap H locs → lv_has ls 4 [(2, .int v2), (0, .ref (x 14))] → W p l e (headSpec wsX4_dropTurn ({ frames := 0, cells := 0, slots := 0, locals := 0 })).room s m #[.ref (x 14), .int ar1] below meth c H locs 0 0 (MQ below (va_Qv (fun (u : Unit) => WT L K Sf.2) (BU D (TYS cy) (ZW x cy g S0 ++ va_pl L (pf cy K cf nm S0)) (fun _ => ZW x cy g Sf ++ va_pl L (pf cy K cf nm Sf)) s.heap.size) (va_A (ZW x cy g S0 ++ va_pl L (pf cy K cf nm S0)) s.heap.size)) #[.ref (x 14), .int ar1] s 0 0 (va_A (ZW x cy g S0 ++ va_pl L (pf cy K cf nm S0)) s.heap.size)) (F0 m 67 ls [])) → ∀ (fu : Nat) (v1 : Int32) (v2 : Int32) (v3 : Int32) (S : CS) (H : Heap) (locs : List Loc) (ls : Array Slot), gX4_dropTurn_4 g cf nm KK fu v1 v2 v3 S = some Sf → WT L K S.2 → va_P D vwCl (ZW x cy g S ++ va_pl L (pf cy K cf nm S)) H → va_D (va_A (ZW x cy g S0 ++ va_pl L (pf cy K cf nm S0)) s.heap.size) (ZW x cy g S ++ va_pl L (pf cy K cf nm S)) → va_S (va_A (ZW x cy g S0 ++ va_pl L (pf cy K cf nm S0)) s.heap.size) s.heap H locs → lv_has ls 4 [(1, .int v1), (2, .int v2), (3, .int v3), (0, .ref (x 14))] → W p l e (headSpec wsX4_dropTurn ({ frames := 0, cells := 0, slots := 0, locals := 0 })).room s m #[.ref (x 14), .int ar1] below meth c H locs 0 0 (MQ below (va_Qv (fun (u : Unit) => WT L K Sf.2) (BU D (TYS cy) (ZW x cy g S0 ++ va_pl L (pf cy K cf nm S0)) (fun _ => ZW x cy g Sf ++ va_pl L (pf cy K cf nm Sf)) s.heap.size) (va_A (ZW x cy g S0 ++ va_pl L (pf cy K cf nm S0)) s.heap.size)) #[.ref (x 14), .int ar1] s 0 0 (va_A (ZW x cy g S0 ++ va_pl L (pf cy K cf nm S0)) s.heap.size)) (F0 m 4 ls []) := by
    intro KK hKK fu
    induction fu with
    | zero =>
      intro v1 v2 v3 S H locs ls hF
      exact absurd (show (none : Option (CS)) = some Sf from hF) (by simp)
    | succ fu4 ih4 =>
      intro v1 v2 v3 S H locs ls hF hT hP hD hS hl
      rw [gX4_dropTurn_4] at hF
      refine lv_iload_n hx hb dX4_dropTurn_4 rfl (lv_at hl 2 rfl) ?_
      refine lv_aload_n hx hb dX4_dropTurn_5 rfl (lv_at hl 3 rfl) ?_
      refine va_get (D := D) (ci := 4) (v := .int (S.1 200 14)) (C := RX4) (T := TX4) (N := 4) hx hb hts iX4_dropTurn_4 hown hK hP 14 rfl rfl 3 (by decide) (hts (.fieldLink RX4 21 "FondsRoom$Mishaps" "size" "I") (List.mem_of_getElem? (i := 1) rfl)) (fun _ h9 => h9) rfl dX4_dropTurn_6 ?_
      refine lv_icmp_ge (tgt := 67) hx hb dX4_dropTurn_9 (by decide) (fun c1 => ?_) (fun c1 => ?_)
      · skip
        have hF := (if_pos c1).symm.trans hF
        exact hKK v2 S _ _ _ hF hT hP hD hS (lv_sub hl [1, 3] rfl)
      · skip
        have hF := (if_neg c1).symm.trans hF
        refine lv_aload_n hx hb dX4_dropTurn_12 rfl (lv_at hl 3 rfl) ?_
        refine va_get (D := D) (ci := 4) (v := .ref (x 15)) (C := RX4) (T := TX4) (N := 4) hx hb hts iX4_dropTurn_4 hown hK hP 14 rfl rfl 0 (by decide) (hts (.fieldLink RX4 9 "FondsRoom$Mishaps" "turns" "[I") (List.mem_of_getElem? (i := 2) rfl)) (fun _ h9 => h9) rfl dX4_dropTurn_13 ?_
        refine lv_iload_n hx hb dX4_dropTurn_16 rfl (lv_at hl 2 rfl) ?_
        obtain ⟨hi3, hF⟩ := ld_s hF
        refine va_iald hx hb hK hP 15 0 rfl rfl hi3 dX4_dropTurn_17 ?_
        refine lv_topi (fun y2 ey2 => ?_)
        replace hF := hF y2 ey2
        refine lv_iload_n hx hb dX4_dropTurn_18 rfl (lv_at hl 0 rfl) ?_
        refine lv_icmp_eq (tgt := 61) hx hb dX4_dropTurn_19 (by decide) (fun c4 => ?_) (fun c4 => ?_)
        · skip
          have hF := (if_pos c4).symm.trans hF
          refine lv_iinc (v := v3 + 1) (lv' := [(3, .int (v3 + 1)), (1, .int v1), (2, .int v2), (0, .ref (x 14))]) hx hb dX4_dropTurn_61 hl (k := 2) rfl rfl (by decide) rfl (fun ls hl => ?_)
          refine lv_goto (tgt := 4) hx hb dX4_dropTurn_64 (by decide) ?_
          exact ih4 v1 v2 (v3 + 1) S _ _ _ hF hT hP hD hS (lv_sub hl [1, 2, 0, 3] rfl)
        · skip
          have hF := (if_neg c4).symm.trans hF
          refine lv_aload_n hx hb dX4_dropTurn_22 rfl (lv_at hl 3 rfl) ?_
          refine va_get (D := D) (ci := 4) (v := .ref (x 15)) (C := RX4) (T := TX4) (N := 4) hx hb hts iX4_dropTurn_4 hown hK hP 14 rfl rfl 0 (by decide) (hts (.fieldLink RX4 9 "FondsRoom$Mishaps" "turns" "[I") (List.mem_of_getElem? (i := 2) rfl)) (fun _ h9 => h9) rfl dX4_dropTurn_23 ?_
          refine lv_iload_n hx hb dX4_dropTurn_26 rfl (lv_at hl 1 rfl) ?_
          refine lv_aload_n hx hb dX4_dropTurn_27 rfl (lv_at hl 3 rfl) ?_
          refine va_get (D := D) (ci := 4) (v := .ref (x 15)) (C := RX4) (T := TX4) (N := 4) hx hb hts iX4_dropTurn_4 hown hK hP 14 rfl rfl 0 (by decide) (hts (.fieldLink RX4 9 "FondsRoom$Mishaps" "turns" "[I") (List.mem_of_getElem? (i := 2) rfl)) (fun _ h9 => h9) rfl dX4_dropTurn_28 ?_
          refine lv_iload_n hx hb dX4_dropTurn_31 rfl (lv_at hl 2 rfl) ?_
          obtain ⟨hi6, hF⟩ := ld_s hF
          refine va_iald hx hb hK hP 15 0 rfl rfl hi6 dX4_dropTurn_32 ?_
          refine lv_topi (fun y5 ey5 => ?_)
          replace hF := hF y5 ey5
          obtain ⟨hi7, hF⟩ := si_s hF
          refine va_iast hx hb hK hP hD hS 15 0 rfl rfl hi7 dX4_dropTurn_33 (fun H locs hP hD hS => ?_)
          obtain ⟨S8, eS8⟩ : ∃ z, z = wi S 201 (v2 : Int32).toNatClampNeg y5 := ⟨_, rfl⟩
          replace hF := hF S8 eS8
          have hP : va_P D vwCl (ZW x cy g S8 ++ va_pl L (pf cy K cf nm S8)) H := by rw [eS8]; rw [show pf cy K cf nm (wi S 201 (v2 : Int32).toNatClampNeg y5) = pf cy K cf nm S from pf_201]; exact hP
          have hD : va_D (va_A (ZW x cy g S0 ++ va_pl L (pf cy K cf nm S0)) s.heap.size) (ZW x cy g S8 ++ va_pl L (pf cy K cf nm S8)) := by rw [eS8]; rw [show pf cy K cf nm (wi S 201 (v2 : Int32).toNatClampNeg y5) = pf cy K cf nm S from pf_201]; exact hD
          have hT : WT L K S8.2 := by rw [eS8]; exact hT
          refine lv_aload_n hx hb dX4_dropTurn_34 rfl (lv_at hl 3 rfl) ?_
          refine va_get (D := D) (ci := 4) (v := .ref (x 16)) (C := RX4) (T := TX4) (N := 4) hx hb hts iX4_dropTurn_4 hown hK hP 14 rfl rfl 1 (by decide) (hts (.fieldLink RX4 15 "FondsRoom$Mishaps" "kinds" "[I") (List.mem_of_getElem? (i := 3) rfl)) (fun _ h9 => h9) rfl dX4_dropTurn_35 ?_
          refine lv_iload_n hx hb dX4_dropTurn_38 rfl (lv_at hl 1 rfl) ?_
          refine lv_aload_n hx hb dX4_dropTurn_39 rfl (lv_at hl 3 rfl) ?_
          refine va_get (D := D) (ci := 4) (v := .ref (x 16)) (C := RX4) (T := TX4) (N := 4) hx hb hts iX4_dropTurn_4 hown hK hP 14 rfl rfl 1 (by decide) (hts (.fieldLink RX4 15 "FondsRoom$Mishaps" "kinds" "[I") (List.mem_of_getElem? (i := 3) rfl)) (fun _ h9 => h9) rfl dX4_dropTurn_40 ?_
          refine lv_iload_n hx hb dX4_dropTurn_43 rfl (lv_at hl 2 rfl) ?_
          obtain ⟨hi10, hF⟩ := ld_s hF
          refine va_iald hx hb hK hP 16 0 rfl rfl hi10 dX4_dropTurn_44 ?_
          refine lv_topi (fun y9 ey9 => ?_)
          replace hF := hF y9 ey9
          obtain ⟨hi11, hF⟩ := si_s hF
          refine va_iast hx hb hK hP hD hS 16 0 rfl rfl hi11 dX4_dropTurn_45 (fun H locs hP hD hS => ?_)
          obtain ⟨S12, eS12⟩ : ∃ z, z = wi S8 202 (v2 : Int32).toNatClampNeg y9 := ⟨_, rfl⟩
          replace hF := hF S12 eS12
          have hP : va_P D vwCl (ZW x cy g S12 ++ va_pl L (pf cy K cf nm S12)) H := by rw [eS12]; rw [show pf cy K cf nm (wi S8 202 (v2 : Int32).toNatClampNeg y9) = pf cy K cf nm S8 from pf_202]; exact hP
          have hD : va_D (va_A (ZW x cy g S0 ++ va_pl L (pf cy K cf nm S0)) s.heap.size) (ZW x cy g S12 ++ va_pl L (pf cy K cf nm S12)) := by rw [eS12]; rw [show pf cy K cf nm (wi S8 202 (v2 : Int32).toNatClampNeg y9) = pf cy K cf nm S8 from pf_202]; exact hD
          have hT : WT L K S12.2 := by rw [eS12]; exact hT
          refine lv_aload_n hx hb dX4_dropTurn_46 rfl (lv_at hl 3 rfl) ?_
          refine va_get (D := D) (ci := 4) (v := .ref (x 17)) (C := RX4) (T := TX4) (N := 4) hx hb hts iX4_dropTurn_4 hown hK hP 14 rfl rfl 2 (by decide) (hts (.fieldLink RX4 18 "FondsRoom$Mishaps" "whos" "[I") (List.mem_of_getElem? (i := 4) rfl)) (fun _ h9 => h9) rfl dX4_dropTurn_47 ?_
          refine lv_iload_n hx hb dX4_dropTurn_50 rfl (lv_at hl 1 rfl) ?_
          refine lv_aload_n hx hb dX4_dropTurn_51 rfl (lv_at hl 3 rfl) ?_
          refine va_get (D := D) (ci := 4) (v := .ref (x 17)) (C := RX4) (T := TX4) (N := 4) hx hb hts iX4_dropTurn_4 hown hK hP 14 rfl rfl 2 (by decide) (hts (.fieldLink RX4 18 "FondsRoom$Mishaps" "whos" "[I") (List.mem_of_getElem? (i := 4) rfl)) (fun _ h9 => h9) rfl dX4_dropTurn_52 ?_
          refine lv_iload_n hx hb dX4_dropTurn_55 rfl (lv_at hl 2 rfl) ?_
          obtain ⟨hi14, hF⟩ := ld_s hF
          refine va_iald hx hb hK hP 17 0 rfl rfl hi14 dX4_dropTurn_56 ?_
          refine lv_topi (fun y13 ey13 => ?_)
          replace hF := hF y13 ey13
          obtain ⟨hi15, hF⟩ := si_s hF
          refine va_iast hx hb hK hP hD hS 17 0 rfl rfl hi15 dX4_dropTurn_57 (fun H locs hP hD hS => ?_)
          obtain ⟨S16, eS16⟩ : ∃ z, z = wi S12 203 (v2 : Int32).toNatClampNeg y13 := ⟨_, rfl⟩
          replace hF := hF S16 eS16
          have hP : va_P D vwCl (ZW x cy g S16 ++ va_pl L (pf cy K cf nm S16)) H := by rw [eS16]; rw [show pf cy K cf nm (wi S12 203 (v2 : Int32).toNatClampNeg y13) = pf cy K cf nm S12 from pf_203]; exact hP
          have hD : va_D (va_A (ZW x cy g S0 ++ va_pl L (pf cy K cf nm S0)) s.heap.size) (ZW x cy g S16 ++ va_pl L (pf cy K cf nm S16)) := by rw [eS16]; rw [show pf cy K cf nm (wi S12 203 (v2 : Int32).toNatClampNeg y13) = pf cy K cf nm S12 from pf_203]; exact hD
          have hT : WT L K S16.2 := by rw [eS16]; exact hT
          refine lv_iinc (v := v2 + 1) (lv' := [(2, .int (v2 + 1)), (1, .int v1), (3, .int v3), (0, .ref (x 14))]) hx hb dX4_dropTurn_58 hl (k := 1) rfl rfl (by decide) rfl (fun ls hl => ?_)
          refine lv_iinc (v := v3 + 1) (lv' := [(3, .int (v3 + 1)), (2, .int (v2 + 1)), (1, .int v1), (0, .ref (x 14))]) hx hb dX4_dropTurn_61 hl (k := 2) rfl rfl (by decide) rfl (fun ls hl => ?_)
          refine lv_goto (tgt := 4) hx hb dX4_dropTurn_64 (by decide) ?_
          exact ih4 v1 (v2 + 1) (v3 + 1) S16 _ _ _ hF hT hP hD hS (lv_sub hl [2, 1, 0, 3] rfl)
  have hl := lv_entry ([.ref (x 14), .int ar1]) (n := 4) (Nat.le_of_ble_eq_true rfl)
  rw [lg_entry_eq]
  generalize (lg_sl ([.ref (x 14), .int ar1]) ++ List.replicate (4 - (lg_sl ([.ref (x 14), .int ar1])).length) Slot.unset).toArray = ls at hl ⊢
  have hl : lv_has ls 4 [(0, .ref (x 14)), (1, .int ar1)] := hl
  unfold gX4_dropTurn at hF
  refine lv_iconst (v := 0) hx hb dX4_dropTurn_0 (by decide) ?_
  refine lv_istore_n (lv' := [(2, .int 0), (0, .ref (x 14)), (1, .int ar1)]) hx hb dX4_dropTurn_1 rfl hl (by decide) rfl (fun ls hl => ?_)
  refine lv_iconst (v := 0) hx hb dX4_dropTurn_2 (by decide) ?_
  refine lv_istore_n (lv' := [(3, .int 0), (2, .int 0), (0, .ref (x 14)), (1, .int ar1)]) hx hb dX4_dropTurn_3 rfl hl (by decide) rfl (fun ls hl => ?_)
  refine key4 _ ?_ 1000 ar1 0 0 S0 _ _ _ hF hT hP hD hS (lv_sub hl [3, 1, 0, 2] rfl)
  intro v2_17 S18 H locs ls hF hT hP hD hS hl
  refine lv_aload_n hx hb dX4_dropTurn_67 rfl (lv_at hl 1 rfl) ?_
  refine lv_iload_n hx hb dX4_dropTurn_68 rfl (lv_at hl 0 rfl) ?_
  refine va_put (D := D) (ci := 4) (v := .int v2_17) (ty := .int) (C := RX4) (T := TX4) (N := 4) hx hb hts iX4_dropTurn_4 tyX4 tyX4_ok nmX4 hown hK hP hD hS 14 rfl rfl 3 (by decide) (hts (.fieldLink RX4 21 "FondsRoom$Mishaps" "size" "I") (List.mem_of_getElem? (i := 1) rfl)) (fun _ h9 => h9) rfl (by decide +kernel) rfl rfl (Nat.le_of_ble_eq_true rfl) dX4_dropTurn_69 (fun H locs hP hD hS => ?_)
  obtain ⟨S19, eS19⟩ : ∃ z, z = wi S18 200 14 v2_17 := ⟨_, rfl⟩
  replace hF := bnd_s hF S19 eS19
  have hP : va_P D vwCl (ZW x cy g S19 ++ va_pl L (pf cy K cf nm S19)) H := by rw [eS19]; rw [show pf cy K cf nm (wi S18 200 14 v2_17) = pf cy K cf nm S18 from pf_200]; exact hP
  have hD : va_D (va_A (ZW x cy g S0 ++ va_pl L (pf cy K cf nm S0)) s.heap.size) (ZW x cy g S19 ++ va_pl L (pf cy K cf nm S19)) := by rw [eS19]; rw [show pf cy K cf nm (wi S18 200 14 v2_17) = pf cy K cf nm S18 from pf_200]; exact hD
  have hT : WT L K S19.2 := by rw [eS19]; exact hT
  have e2 := Option.some.inj hF
  have hP : va_P D vwCl (ZW x cy g Sf ++ va_pl L (pf cy K cf nm Sf)) H := by rw [← e2]; exact hP
  have hD : va_D (va_A (ZW x cy g S0 ++ va_pl L (pf cy K cf nm S0)) s.heap.size) (ZW x cy g Sf ++ va_pl L (pf cy K cf nm Sf)) := by rw [← e2]; exact hD
  have hT : WT L K Sf.2 := by rw [← e2]; exact hT
  exact W.vret hx hb hr (fun t ht hW => ⟨⟨(), rfl, hT, by rw [ht]; exact hP, va_K.moved hW.alike hK, hD⟩, hS.F ht⟩) hS.2.2 dX4_dropTurn_72

theorem iX5_append_5 : ∀ w ∈ wsX50, w ∈ wsX5_append := fun _ h => List.mem_cons_of_mem _ (List.mem_append_right _ h)
set_option maxHeartbeats 8000000 in
set_option maxRecDepth 100000 in
theorem zX5_append (l : Launch) (D : va_G) (x : Nat → Nat) (cy : Nat → ClassId) (g : Nat → Nat → Option Nat) (L : List Nat) (K : Nat → Nat) (cf : Nat → Nat → Nat) (nm : Nat → Int32) (hG : GO L K g) (hL : PL L K cf) (S0 : CS) (hT : WT L K S0.2) (sz : Nat) (me : Nat) (ar1 : Int32) (ar2 : Int32) (ar3 : Int32) (ar4 : Int32) (mme : me ∈ L ∧ K me = 5) (rv : Int32) (Sf : CS) (hF : gX5_append g cf nm S0 me ar1 ar2 ar3 ar4 = some (rv, Sf)) : Met l yX5_append wsX5_append ({ frames := 0, cells := 0, slots := 0, locals := 0 }) (PW D (TYS cy) (ZW x cy g S0 ++ va_pl L (pf cy K cf nm S0)) sz [.ref me, .int ar1, .int ar2, .int ar3, .int ar4]) (va_Qi (fun (res : Int32) (u : Unit) => (res = rv ∧ b01 rv) ∧ WT L K Sf.2) (BU D (TYS cy) (ZW x cy g S0 ++ va_pl L (pf cy K cf nm S0)) (fun _ => ZW x cy g Sf ++ va_pl L (pf cy K cf nm Sf)) sz) (va_A (ZW x cy g S0 ++ va_pl L (pf cy K cf nm S0)) sz)) 0 0 (va_A (ZW x cy g S0 ++ va_pl L (pf cy K cf nm S0)) sz) := by
  refine Met.ofW (cc := cX5_append) (maxL := 5) (ret := (some .boolean)) (by decide) rfl ?_
  intro p e s m args below meth c s₁ B hml hv
  obtain ⟨rfl, hsz, hP, hK, hD0⟩ := hv
  have hx := B.exec
  have hb := B.bytes
  have hr := B.returns
  have hts := atoms_spec (ws := wsX5_append) B.pre
  have hown : s.vm.findClass RX5 = some m.cls := findClass_of_methodNamed B.named
  have hlocks := B.notSynchronized
  subst hsz
  have hD := hD0.self (sz := s.heap.size)
  have hA : ∀ q9 : Nat, s.heap.size ≤ q9 → va_A (ZW x cy g S0 ++ va_pl L (pf cy K cf nm S0)) s.heap.size q9 := fun q9 h => Or.inr h
  have hS : va_S (va_A (ZW x cy g S0 ++ va_pl L (pf cy K cf nm S0)) s.heap.size) s.heap s.heap [] := va_S.rf
  have hl := lv_entry ([.ref me, .int ar1, .int ar2, .int ar3, .int ar4]) (n := 5) (Nat.le_of_ble_eq_true rfl)
  rw [lg_entry_eq]
  generalize (lg_sl ([.ref me, .int ar1, .int ar2, .int ar3, .int ar4]) ++ List.replicate (5 - (lg_sl ([.ref me, .int ar1, .int ar2, .int ar3, .int ar4])).length) Slot.unset).toArray = ls at hl ⊢
  have hl : lv_has ls 5 [(0, .ref me), (1, .int ar1), (2, .int ar2), (3, .int ar3), (4, .int ar4)] := hl
  unfold gX5_append at hF
  refine lv_aload_n hx hb dX5_append_0 rfl (lv_at hl 0 rfl) ?_
  refine pg_get (D := D) (ci := 5) (v := .int (S0.1 105 me)) (C := RX5) (T := TX5) (N := 8) hx hb hts iX5_append_5 hown hK hP mme.1 (pf_5 mme.2) rfl 5 (by decide) (hts (.fieldLink RX5 28 "FondsRoom$Plan" "size" "I") (List.mem_of_getElem? (i := 1) rfl)) (fun _ h9 => h9) rfl dX5_append_1 ?_
  refine lv_bipush (v := 16) hx hb dX5_append_4 (by decide) ?_
  refine lv_icmp_lt (tgt := 11) hx hb dX5_append_6 (by decide) (fun c1 => ?_) (fun c1 => ?_)
  · skip
    have hF := (if_pos c1).symm.trans hF
    refine lv_aload_n hx hb dX5_append_11 rfl (lv_at hl 0 rfl) ?_
    refine pg_get (D := D) (ci := 5) (v := .ref (cf 1 me)) (C := RX5) (T := TX5) (N := 8) hx hb hts iX5_append_5 hown hK hP mme.1 (pf_5 mme.2) rfl 0 (by decide) (hts (.fieldLink RX5 9 "FondsRoom$Plan" "kinds" "[I") (List.mem_of_getElem? (i := 2) rfl)) (fun _ h9 => h9) rfl dX5_append_12 ?_
    obtain ⟨p2, ep2⟩ : ∃ z, z = cf 1 me := ⟨_, rfl⟩
    replace hF := bnd_s hF p2 ep2
    have mp2 : p2 ∈ L ∧ K p2 = 12 := by rw [ep2]; exact ((hL _ mme.1).2.2 mme.2).1
    refine lv_tov (v' := .ref p2) (by rw [ep2]) ?_
    refine lv_aload_n hx hb dX5_append_15 rfl (lv_at hl 0 rfl) ?_
    refine pg_get (D := D) (ci := 5) (v := .int (S0.1 105 me)) (C := RX5) (T := TX5) (N := 8) hx hb hts iX5_append_5 hown hK hP mme.1 (pf_5 mme.2) rfl 5 (by decide) (hts (.fieldLink RX5 28 "FondsRoom$Plan" "size" "I") (List.mem_of_getElem? (i := 1) rfl)) (fun _ h9 => h9) rfl dX5_append_16 ?_
    refine lv_iload_n hx hb dX5_append_19 rfl (lv_at hl 1 rfl) ?_
    obtain ⟨hi3, hF⟩ := si_s hF
    refine pg_iast hx hb hK hP hD hS mp2.1 0 (pf_12 mp2.2) rfl hi3 dX5_append_20 (fun H locs hP hD hS => ?_)
    obtain ⟨S4, eS4⟩ : ∃ z, z = wi S0 (1000 + p2) ((S0.1 105 me) : Int32).toNatClampNeg ar1 := ⟨_, rfl⟩
    replace hF := hF S4 eS4
    have hP : va_P D vwCl (ZW x cy g S4 ++ va_pl L (pf cy K cf nm S4)) H := by rw [eS4]; rw [← pu_12 mp2.2, zw_a]; exact hP
    have hD : va_D (va_A (ZW x cy g S0 ++ va_pl L (pf cy K cf nm S0)) s.heap.size) (ZW x cy g S4 ++ va_pl L (pf cy K cf nm S4)) := by rw [eS4]; rw [← pu_12 mp2.2, zw_a]; exact hD
    have hT : WT L K S4.2 := by rw [eS4]; exact hT
    refine lv_aload_n hx hb dX5_append_21 rfl (lv_at hl 0 rfl) ?_
    refine pg_get (D := D) (ci := 5) (v := .ref (cf 2 me)) (C := RX5) (T := TX5) (N := 8) hx hb hts iX5_append_5 hown hK hP mme.1 (pf_5 mme.2) rfl 1 (by decide) (hts (.fieldLink RX5 15 "FondsRoom$Plan" "boxes" "[I") (List.mem_of_getElem? (i := 3) rfl)) (fun _ h9 => h9) rfl dX5_append_22 ?_
    obtain ⟨p5, ep5⟩ : ∃ z, z = cf 2 me := ⟨_, rfl⟩
    replace hF := bnd_s hF p5 ep5
    have mp5 : p5 ∈ L ∧ K p5 = 12 := by rw [ep5]; exact ((hL _ mme.1).2.2 mme.2).2.1
    refine lv_tov (v' := .ref p5) (by rw [ep5]) ?_
    refine lv_aload_n hx hb dX5_append_25 rfl (lv_at hl 0 rfl) ?_
    refine pg_get (D := D) (ci := 5) (v := .int (S4.1 105 me)) (C := RX5) (T := TX5) (N := 8) hx hb hts iX5_append_5 hown hK hP mme.1 (pf_5 mme.2) rfl 5 (by decide) (hts (.fieldLink RX5 28 "FondsRoom$Plan" "size" "I") (List.mem_of_getElem? (i := 1) rfl)) (fun _ h9 => h9) rfl dX5_append_26 ?_
    refine lv_iload_n hx hb dX5_append_29 rfl (lv_at hl 2 rfl) ?_
    obtain ⟨hi6, hF⟩ := si_s hF
    refine pg_iast hx hb hK hP hD hS mp5.1 0 (pf_12 mp5.2) rfl hi6 dX5_append_30 (fun H locs hP hD hS => ?_)
    obtain ⟨S7, eS7⟩ : ∃ z, z = wi S4 (1000 + p5) ((S4.1 105 me) : Int32).toNatClampNeg ar2 := ⟨_, rfl⟩
    replace hF := hF S7 eS7
    have hP : va_P D vwCl (ZW x cy g S7 ++ va_pl L (pf cy K cf nm S7)) H := by rw [eS7]; rw [← pu_12 mp5.2, zw_a]; exact hP
    have hD : va_D (va_A (ZW x cy g S0 ++ va_pl L (pf cy K cf nm S0)) s.heap.size) (ZW x cy g S7 ++ va_pl L (pf cy K cf nm S7)) := by rw [eS7]; rw [← pu_12 mp5.2, zw_a]; exact hD
    have hT : WT L K S7.2 := by rw [eS7]; exact hT
    refine lv_aload_n hx hb dX5_append_31 rfl (lv_at hl 0 rfl) ?_
    refine pg_get (D := D) (ci := 5) (v := .ref (cf 3 me)) (C := RX5) (T := TX5) (N := 8) hx hb hts iX5_append_5 hown hK hP mme.1 (pf_5 mme.2) rfl 2 (by decide) (hts (.fieldLink RX5 18 "FondsRoom$Plan" "amounts" "[I") (List.mem_of_getElem? (i := 4) rfl)) (fun _ h9 => h9) rfl dX5_append_32 ?_
    obtain ⟨p8, ep8⟩ : ∃ z, z = cf 3 me := ⟨_, rfl⟩
    replace hF := bnd_s hF p8 ep8
    have mp8 : p8 ∈ L ∧ K p8 = 12 := by rw [ep8]; exact ((hL _ mme.1).2.2 mme.2).2.2.1
    refine lv_tov (v' := .ref p8) (by rw [ep8]) ?_
    refine lv_aload_n hx hb dX5_append_35 rfl (lv_at hl 0 rfl) ?_
    refine pg_get (D := D) (ci := 5) (v := .int (S7.1 105 me)) (C := RX5) (T := TX5) (N := 8) hx hb hts iX5_append_5 hown hK hP mme.1 (pf_5 mme.2) rfl 5 (by decide) (hts (.fieldLink RX5 28 "FondsRoom$Plan" "size" "I") (List.mem_of_getElem? (i := 1) rfl)) (fun _ h9 => h9) rfl dX5_append_36 ?_
    refine lv_iload_n hx hb dX5_append_39 rfl (lv_at hl 3 rfl) ?_
    obtain ⟨hi9, hF⟩ := si_s hF
    refine pg_iast hx hb hK hP hD hS mp8.1 0 (pf_12 mp8.2) rfl hi9 dX5_append_40 (fun H locs hP hD hS => ?_)
    obtain ⟨S10, eS10⟩ : ∃ z, z = wi S7 (1000 + p8) ((S7.1 105 me) : Int32).toNatClampNeg ar3 := ⟨_, rfl⟩
    replace hF := hF S10 eS10
    have hP : va_P D vwCl (ZW x cy g S10 ++ va_pl L (pf cy K cf nm S10)) H := by rw [eS10]; rw [← pu_12 mp8.2, zw_a]; exact hP
    have hD : va_D (va_A (ZW x cy g S0 ++ va_pl L (pf cy K cf nm S0)) s.heap.size) (ZW x cy g S10 ++ va_pl L (pf cy K cf nm S10)) := by rw [eS10]; rw [← pu_12 mp8.2, zw_a]; exact hD
    have hT : WT L K S10.2 := by rw [eS10]; exact hT
    refine lv_aload_n hx hb dX5_append_41 rfl (lv_at hl 0 rfl) ?_
    refine pg_get (D := D) (ci := 5) (v := .ref (cf 4 me)) (C := RX5) (T := TX5) (N := 8) hx hb hts iX5_append_5 hown hK hP mme.1 (pf_5 mme.2) rfl 3 (by decide) (hts (.fieldLink RX5 21 "FondsRoom$Plan" "urgents" "[Z") (List.mem_of_getElem? (i := 5) rfl)) (fun _ h9 => h9) rfl dX5_append_42 ?_
    obtain ⟨p11, ep11⟩ : ∃ z, z = cf 4 me := ⟨_, rfl⟩
    replace hF := bnd_s hF p11 ep11
    have mp11 : p11 ∈ L ∧ K p11 = 13 := by rw [ep11]; exact ((hL _ mme.1).2.2 mme.2).2.2.2.1
    refine lv_tov (v' := .ref p11) (by rw [ep11]) ?_
    refine lv_aload_n hx hb dX5_append_45 rfl (lv_at hl 0 rfl) ?_
    refine pg_get (D := D) (ci := 5) (v := .int (S10.1 105 me)) (C := RX5) (T := TX5) (N := 8) hx hb hts iX5_append_5 hown hK hP mme.1 (pf_5 mme.2) rfl 5 (by decide) (hts (.fieldLink RX5 28 "FondsRoom$Plan" "size" "I") (List.mem_of_getElem? (i := 1) rfl)) (fun _ h9 => h9) rfl dX5_append_46 ?_
    refine lv_iload hx hb dX5_append_49 (lv_at hl 4 rfl) ?_
    obtain ⟨hi12, hF⟩ := si_s hF
    refine pg_zast hx hb hK hP hD hS mp11.1 1 (pf_13 mp11.2) rfl hi12 dX5_append_51 (fun H locs hP hD hS => ?_)
    obtain ⟨S13, eS13⟩ : ∃ z, z = wi S10 (1000 + p11) ((S10.1 105 me) : Int32).toNatClampNeg (vp_nar .boolean ar4) := ⟨_, rfl⟩
    replace hF := hF S13 eS13
    have hP : va_P D vwCl (ZW x cy g S13 ++ va_pl L (pf cy K cf nm S13)) H := by rw [eS13]; rw [← pu_13 mp11.2, zw_a]; exact hP
    have hD : va_D (va_A (ZW x cy g S0 ++ va_pl L (pf cy K cf nm S0)) s.heap.size) (ZW x cy g S13 ++ va_pl L (pf cy K cf nm S13)) := by rw [eS13]; rw [← pu_13 mp11.2, zw_a]; exact hD
    have hT : WT L K S13.2 := by rw [eS13]; exact hT
    refine lv_aload_n hx hb dX5_append_52 rfl (lv_at hl 0 rfl) ?_
    refine lv_dup hx hb dX5_append_53 rfl ?_
    refine pg_get (D := D) (ci := 5) (v := .int (S13.1 105 me)) (C := RX5) (T := TX5) (N := 8) hx hb hts iX5_append_5 hown hK hP mme.1 (pf_5 mme.2) rfl 5 (by decide) (hts (.fieldLink RX5 28 "FondsRoom$Plan" "size" "I") (List.mem_of_getElem? (i := 1) rfl)) (fun _ h9 => h9) rfl dX5_append_54 ?_
    refine lv_iconst (v := 1) hx hb dX5_append_57 (by decide) ?_
    refine lv_iadd hx hb dX5_append_58 ?_
    refine pg_put (D := D) (ci := 5) (v := .int ((S13.1 105 me) + 1)) (ty := .int) (C := RX5) (T := TX5) (N := 8) hx hb hts iX5_append_5 tyX5 tyX5_ok nmX5 hown hK hP hD hS mme.1 (pf_5 mme.2) rfl 5 (by decide) (hts (.fieldLink RX5 28 "FondsRoom$Plan" "size" "I") (List.mem_of_getElem? (i := 1) rfl)) (fun _ h9 => h9) rfl (by decide +kernel) rfl rfl (Nat.le_of_ble_eq_true rfl) dX5_append_59 (fun H locs hP hD hS => ?_)
    obtain ⟨S14, eS14⟩ : ∃ z, z = wi S13 105 me ((S13.1 105 me) + 1) := ⟨_, rfl⟩
    replace hF := bnd_s hF S14 eS14
    have hP : va_P D vwCl (ZW x cy g S14 ++ va_pl L (pf cy K cf nm S14)) H := by rw [eS14]; rw [← pu_5_5 mme.2]; exact hP
    have hD : va_D (va_A (ZW x cy g S0 ++ va_pl L (pf cy K cf nm S0)) s.heap.size) (ZW x cy g S14 ++ va_pl L (pf cy K cf nm S14)) := by rw [eS14]; rw [← pu_5_5 mme.2]; exact hD
    have hT : WT L K S14.2 := by rw [eS14]; exact hT
    refine lv_iconst (v := 1) hx hb dX5_append_62 (by decide) ?_
    obtain ⟨e1, e2⟩ := ret2 hF
    have hP : va_P D vwCl (ZW x cy g Sf ++ va_pl L (pf cy K cf nm Sf)) H := by rw [← e2]; exact hP
    have hD : va_D (va_A (ZW x cy g S0 ++ va_pl L (pf cy K cf nm S0)) s.heap.size) (ZW x cy g Sf ++ va_pl L (pf cy K cf nm Sf)) := by rw [← e2]; exact hD
    have hT : WT L K Sf.2 := by rw [← e2]; exact hT
    exact W.zret (v := 1) hx hb hr (nz01 (Or.inr rfl)).1 (fun t ht hW => ⟨⟨1, (), rfl, ⟨⟨e1, by rw [← e1]; exact Or.inr rfl⟩, hT⟩, by rw [ht]; exact hP, va_K.moved hW.alike hK, hD⟩, hS.F ht⟩) hS.2.2 dX5_append_63
  · skip
    have hF := (if_neg c1).symm.trans hF
    refine lv_iconst (v := 0) hx hb dX5_append_9 (by decide) ?_
    obtain ⟨e1, e2⟩ := ret2 hF
    have hP : va_P D vwCl (ZW x cy g Sf ++ va_pl L (pf cy K cf nm Sf)) s.heap := by rw [← e2]; exact hP
    have hD : va_D (va_A (ZW x cy g S0 ++ va_pl L (pf cy K cf nm S0)) s.heap.size) (ZW x cy g Sf ++ va_pl L (pf cy K cf nm Sf)) := by rw [← e2]; exact hD
    have hT : WT L K Sf.2 := by rw [← e2]; exact hT
    exact W.zret (v := 0) hx hb hr (nz01 (Or.inl rfl)).1 (fun t ht hW => ⟨⟨0, (), rfl, ⟨⟨e1, by rw [← e1]; exact Or.inl rfl⟩, hT⟩, by rw [ht]; exact hP, va_K.moved hW.alike hK, hD⟩, hS.F ht⟩) hS.2.2 dX5_append_10

theorem iX5_noteRefusal_5 : ∀ w ∈ wsX50, w ∈ wsX5_noteRefusal := fun _ h => List.mem_cons_of_mem _ (List.mem_append_right _ h)
set_option maxHeartbeats 8000000 in
set_option maxRecDepth 100000 in
theorem zX5_noteRefusal (l : Launch) (D : va_G) (x : Nat → Nat) (cy : Nat → ClassId) (g : Nat → Nat → Option Nat) (L : List Nat) (K : Nat → Nat) (cf : Nat → Nat → Nat) (nm : Nat → Int32) (hG : GO L K g) (hL : PL L K cf) (S0 : CS) (hT : WT L K S0.2) (sz : Nat) (me : Nat) (ar1 : Int32) (mme : me ∈ L ∧ K me = 5) (Sf : CS) (hF : gX5_noteRefusal g cf nm S0 me ar1 = some Sf) : Met l yX5_noteRefusal wsX5_noteRefusal ({ frames := 0, cells := 0, slots := 0, locals := 0 }) (PW D (TYS cy) (ZW x cy g S0 ++ va_pl L (pf cy K cf nm S0)) sz [.ref me, .int ar1]) (va_Qv (fun (u : Unit) => WT L K Sf.2) (BU D (TYS cy) (ZW x cy g S0 ++ va_pl L (pf cy K cf nm S0)) (fun _ => ZW x cy g Sf ++ va_pl L (pf cy K cf nm Sf)) sz) (va_A (ZW x cy g S0 ++ va_pl L (pf cy K cf nm S0)) sz)) 0 0 (va_A (ZW x cy g S0 ++ va_pl L (pf cy K cf nm S0)) sz) := by
  refine Met.ofW (cc := cX5_noteRefusal) (maxL := 2) (ret := none) (by decide) rfl ?_
  intro p e s m args below meth c s₁ B hml hv
  obtain ⟨rfl, hsz, hP, hK, hD0⟩ := hv
  have hx := B.exec
  have hb := B.bytes
  have hr := B.returns
  have hts := atoms_spec (ws := wsX5_noteRefusal) B.pre
  have hown : s.vm.findClass RX5 = some m.cls := findClass_of_methodNamed B.named
  have hlocks := B.notSynchronized
  subst hsz
  have hD := hD0.self (sz := s.heap.size)
  have hA : ∀ q9 : Nat, s.heap.size ≤ q9 → va_A (ZW x cy g S0 ++ va_pl L (pf cy K cf nm S0)) s.heap.size q9 := fun q9 h => Or.inr h
  have hS : va_S (va_A (ZW x cy g S0 ++ va_pl L (pf cy K cf nm S0)) s.heap.size) s.heap s.heap [] := va_S.rf
  have hl := lv_entry ([.ref me, .int ar1]) (n := 2) (Nat.le_of_ble_eq_true rfl)
  rw [lg_entry_eq]
  generalize (lg_sl ([.ref me, .int ar1]) ++ List.replicate (2 - (lg_sl ([.ref me, .int ar1])).length) Slot.unset).toArray = ls at hl ⊢
  have hl : lv_has ls 2 [(0, .ref me), (1, .int ar1)] := hl
  unfold gX5_noteRefusal at hF
  refine lv_aload_n hx hb dX5_noteRefusal_0 rfl (lv_at hl 0 rfl) ?_
  refine pg_get (D := D) (ci := 5) (v := .int (S0.1 107 me)) (C := RX5) (T := TX5) (N := 8) hx hb hts iX5_noteRefusal_5 hown hK hP mme.1 (pf_5 mme.2) rfl 7 (by decide) (hts (.fieldLink RX5 32 "FondsRoom$Plan" "refusals" "I") (List.mem_of_getElem? (i := 1) rfl)) (fun _ h9 => h9) rfl dX5_noteRefusal_1 ?_
  refine lv_bipush (v := 16) hx hb dX5_noteRefusal_4 (by decide) ?_
  refine lv_icmp_ge (tgt := 29) hx hb dX5_noteRefusal_6 (by decide) (fun c1 => ?_) (fun c1 => ?_)
  · skip
    have hF := (if_pos c1).symm.trans hF
    have e2 := Option.some.inj hF
    have hP : va_P D vwCl (ZW x cy g Sf ++ va_pl L (pf cy K cf nm Sf)) s.heap := by rw [← e2]; exact hP
    have hD : va_D (va_A (ZW x cy g S0 ++ va_pl L (pf cy K cf nm S0)) s.heap.size) (ZW x cy g Sf ++ va_pl L (pf cy K cf nm Sf)) := by rw [← e2]; exact hD
    have hT : WT L K Sf.2 := by rw [← e2]; exact hT
    exact W.vret hx hb hr (fun t ht hW => ⟨⟨(), rfl, hT, by rw [ht]; exact hP, va_K.moved hW.alike hK, hD⟩, hS.F ht⟩) hS.2.2 dX5_noteRefusal_29
  · skip
    have hF := (if_neg c1).symm.trans hF
    refine lv_aload_n hx hb dX5_noteRefusal_9 rfl (lv_at hl 0 rfl) ?_
    refine pg_get (D := D) (ci := 5) (v := .ref (cf 5 me)) (C := RX5) (T := TX5) (N := 8) hx hb hts iX5_noteRefusal_5 hown hK hP mme.1 (pf_5 mme.2) rfl 4 (by decide) (hts (.fieldLink RX5 25 "FondsRoom$Plan" "rules" "[I") (List.mem_of_getElem? (i := 2) rfl)) (fun _ h9 => h9) rfl dX5_noteRefusal_10 ?_
    obtain ⟨p2, ep2⟩ : ∃ z, z = cf 5 me := ⟨_, rfl⟩
    replace hF := bnd_s hF p2 ep2
    have mp2 : p2 ∈ L ∧ K p2 = 12 := by rw [ep2]; exact ((hL _ mme.1).2.2 mme.2).2.2.2.2
    refine lv_tov (v' := .ref p2) (by rw [ep2]) ?_
    refine lv_aload_n hx hb dX5_noteRefusal_13 rfl (lv_at hl 0 rfl) ?_
    refine pg_get (D := D) (ci := 5) (v := .int (S0.1 107 me)) (C := RX5) (T := TX5) (N := 8) hx hb hts iX5_noteRefusal_5 hown hK hP mme.1 (pf_5 mme.2) rfl 7 (by decide) (hts (.fieldLink RX5 32 "FondsRoom$Plan" "refusals" "I") (List.mem_of_getElem? (i := 1) rfl)) (fun _ h9 => h9) rfl dX5_noteRefusal_14 ?_
    refine lv_iload_n hx hb dX5_noteRefusal_17 rfl (lv_at hl 1 rfl) ?_
    obtain ⟨hi3, hF⟩ := si_s hF
    refine pg_iast hx hb hK hP hD hS mp2.1 0 (pf_12 mp2.2) rfl hi3 dX5_noteRefusal_18 (fun H locs hP hD hS => ?_)
    obtain ⟨S4, eS4⟩ : ∃ z, z = wi S0 (1000 + p2) ((S0.1 107 me) : Int32).toNatClampNeg ar1 := ⟨_, rfl⟩
    replace hF := hF S4 eS4
    have hP : va_P D vwCl (ZW x cy g S4 ++ va_pl L (pf cy K cf nm S4)) H := by rw [eS4]; rw [← pu_12 mp2.2, zw_a]; exact hP
    have hD : va_D (va_A (ZW x cy g S0 ++ va_pl L (pf cy K cf nm S0)) s.heap.size) (ZW x cy g S4 ++ va_pl L (pf cy K cf nm S4)) := by rw [eS4]; rw [← pu_12 mp2.2, zw_a]; exact hD
    have hT : WT L K S4.2 := by rw [eS4]; exact hT
    refine lv_aload_n hx hb dX5_noteRefusal_19 rfl (lv_at hl 0 rfl) ?_
    refine lv_dup hx hb dX5_noteRefusal_20 rfl ?_
    refine pg_get (D := D) (ci := 5) (v := .int (S4.1 107 me)) (C := RX5) (T := TX5) (N := 8) hx hb hts iX5_noteRefusal_5 hown hK hP mme.1 (pf_5 mme.2) rfl 7 (by decide) (hts (.fieldLink RX5 32 "FondsRoom$Plan" "refusals" "I") (List.mem_of_getElem? (i := 1) rfl)) (fun _ h9 => h9) rfl dX5_noteRefusal_21 ?_
    refine lv_iconst (v := 1) hx hb dX5_noteRefusal_24 (by decide) ?_
    refine lv_iadd hx hb dX5_noteRefusal_25 ?_
    refine pg_put (D := D) (ci := 5) (v := .int ((S4.1 107 me) + 1)) (ty := .int) (C := RX5) (T := TX5) (N := 8) hx hb hts iX5_noteRefusal_5 tyX5 tyX5_ok nmX5 hown hK hP hD hS mme.1 (pf_5 mme.2) rfl 7 (by decide) (hts (.fieldLink RX5 32 "FondsRoom$Plan" "refusals" "I") (List.mem_of_getElem? (i := 1) rfl)) (fun _ h9 => h9) rfl (by decide +kernel) rfl rfl (Nat.le_of_ble_eq_true rfl) dX5_noteRefusal_26 (fun H locs hP hD hS => ?_)
    obtain ⟨S5, eS5⟩ : ∃ z, z = wi S4 107 me ((S4.1 107 me) + 1) := ⟨_, rfl⟩
    replace hF := bnd_s hF S5 eS5
    have hP : va_P D vwCl (ZW x cy g S5 ++ va_pl L (pf cy K cf nm S5)) H := by rw [eS5]; rw [← pu_5_7 mme.2]; exact hP
    have hD : va_D (va_A (ZW x cy g S0 ++ va_pl L (pf cy K cf nm S0)) s.heap.size) (ZW x cy g S5 ++ va_pl L (pf cy K cf nm S5)) := by rw [eS5]; rw [← pu_5_7 mme.2]; exact hD
    have hT : WT L K S5.2 := by rw [eS5]; exact hT
    have e2 := Option.some.inj hF
    have hP : va_P D vwCl (ZW x cy g Sf ++ va_pl L (pf cy K cf nm Sf)) H := by rw [← e2]; exact hP
    have hD : va_D (va_A (ZW x cy g S0 ++ va_pl L (pf cy K cf nm S0)) s.heap.size) (ZW x cy g Sf ++ va_pl L (pf cy K cf nm Sf)) := by rw [← e2]; exact hD
    have hT : WT L K Sf.2 := by rw [← e2]; exact hT
    exact W.vret hx hb hr (fun t ht hW => ⟨⟨(), rfl, hT, by rw [ht]; exact hP, va_K.moved hW.alike hK, hD⟩, hS.F ht⟩) hS.2.2 dX5_noteRefusal_29

theorem iX5_refusalRule_5 : ∀ w ∈ wsX50, w ∈ wsX5_refusalRule := fun _ h => List.mem_cons_of_mem _ (List.mem_append_right _ h)
set_option maxHeartbeats 8000000 in
set_option maxRecDepth 100000 in
theorem zX5_refusalRule (l : Launch) (D : va_G) (x : Nat → Nat) (cy : Nat → ClassId) (g : Nat → Nat → Option Nat) (L : List Nat) (K : Nat → Nat) (cf : Nat → Nat → Nat) (nm : Nat → Int32) (hG : GO L K g) (hL : PL L K cf) (S : CS) (hT : WT L K S.2) (sz : Nat) (me : Nat) (ar1 : Int32) (mme : me ∈ L ∧ K me = 5) (rv : Int32) (hF : gX5_refusalRule g cf nm S me ar1 = some rv) : Met l yX5_refusalRule wsX5_refusalRule ({ frames := 0, cells := 0, slots := 0, locals := 0 }) (PW D (TYS cy) (ZW x cy g S ++ va_pl L (pf cy K cf nm S)) sz [.ref me, .int ar1]) (va_Qi (fun (res : Int32) (u : Unit) => res = rv) (BU D (TYS cy) (ZW x cy g S ++ va_pl L (pf cy K cf nm S)) (fun _ => ZW x cy g S ++ va_pl L (pf cy K cf nm S)) sz) (va_A (ZW x cy g S ++ va_pl L (pf cy K cf nm S)) sz)) 0 0 (va_A (ZW x cy g S ++ va_pl L (pf cy K cf nm S)) sz) := by
  refine Met.ofW (cc := cX5_refusalRule) (maxL := 2) (ret := (some .int)) (by decide) rfl ?_
  intro p e s m args below meth c s₁ B hml hv
  obtain ⟨rfl, hsz, hP, hK, hD0⟩ := hv
  have hx := B.exec
  have hb := B.bytes
  have hr := B.returns
  have hts := atoms_spec (ws := wsX5_refusalRule) B.pre
  have hown : s.vm.findClass RX5 = some m.cls := findClass_of_methodNamed B.named
  have hlocks := B.notSynchronized
  subst hsz
  have hD := hD0.self (sz := s.heap.size)
  have hA : ∀ q9 : Nat, s.heap.size ≤ q9 → va_A (ZW x cy g S ++ va_pl L (pf cy K cf nm S)) s.heap.size q9 := fun q9 h => Or.inr h
  have hS : va_S (va_A (ZW x cy g S ++ va_pl L (pf cy K cf nm S)) s.heap.size) s.heap s.heap [] := va_S.rf
  have hl := lv_entry ([.ref me, .int ar1]) (n := 2) (Nat.le_of_ble_eq_true rfl)
  rw [lg_entry_eq]
  generalize (lg_sl ([.ref me, .int ar1]) ++ List.replicate (2 - (lg_sl ([.ref me, .int ar1])).length) Slot.unset).toArray = ls at hl ⊢
  have hl : lv_has ls 2 [(0, .ref me), (1, .int ar1)] := hl
  unfold gX5_refusalRule at hF
  refine lv_iload_n hx hb dX5_refusalRule_0 rfl (lv_at hl 1 rfl) ?_
  refine lv_if_lt (tgt := 21) hx hb dX5_refusalRule_1 (by decide) (fun c1 => ?_) (fun c1 => ?_)
  · skip
    have hF := (if_pos c1).symm.trans hF
    refine lv_iconst (v := (-1)) hx hb dX5_refusalRule_21 (by decide) ?_
    have e1 := Option.some.inj hF
    exact W.iret (v := (-1)) hx hb hr (fun t ht hW => ⟨⟨(-1), (), rfl, e1, by rw [ht]; exact hP, va_K.moved hW.alike hK, hD⟩, hS.F ht⟩) hS.2.2 dX5_refusalRule_22
  · skip
    have hF := (if_neg c1).symm.trans hF
    refine lv_iload_n hx hb dX5_refusalRule_4 rfl (lv_at hl 1 rfl) ?_
    refine lv_aload_n hx hb dX5_refusalRule_5 rfl (lv_at hl 0 rfl) ?_
    refine pg_get (D := D) (ci := 5) (v := .int (S.1 107 me)) (C := RX5) (T := TX5) (N := 8) hx hb hts iX5_refusalRule_5 hown hK hP mme.1 (pf_5 mme.2) rfl 7 (by decide) (hts (.fieldLink RX5 32 "FondsRoom$Plan" "refusals" "I") (List.mem_of_getElem? (i := 1) rfl)) (fun _ h9 => h9) rfl dX5_refusalRule_6 ?_
    refine lv_icmp_ge (tgt := 21) hx hb dX5_refusalRule_9 (by decide) (fun c2 => ?_) (fun c2 => ?_)
    · skip
      have hF := (if_pos c2).symm.trans hF
      refine lv_iconst (v := (-1)) hx hb dX5_refusalRule_21 (by decide) ?_
      have e1 := Option.some.inj hF
      exact W.iret (v := (-1)) hx hb hr (fun t ht hW => ⟨⟨(-1), (), rfl, e1, by rw [ht]; exact hP, va_K.moved hW.alike hK, hD⟩, hS.F ht⟩) hS.2.2 dX5_refusalRule_22
    · skip
      have hF := (if_neg c2).symm.trans hF
      refine lv_aload_n hx hb dX5_refusalRule_12 rfl (lv_at hl 0 rfl) ?_
      refine pg_get (D := D) (ci := 5) (v := .ref (cf 5 me)) (C := RX5) (T := TX5) (N := 8) hx hb hts iX5_refusalRule_5 hown hK hP mme.1 (pf_5 mme.2) rfl 4 (by decide) (hts (.fieldLink RX5 25 "FondsRoom$Plan" "rules" "[I") (List.mem_of_getElem? (i := 2) rfl)) (fun _ h9 => h9) rfl dX5_refusalRule_13 ?_
      obtain ⟨p3, ep3⟩ : ∃ z, z = cf 5 me := ⟨_, rfl⟩
      replace hF := bnd_s hF p3 ep3
      have mp3 : p3 ∈ L ∧ K p3 = 12 := by rw [ep3]; exact ((hL _ mme.1).2.2 mme.2).2.2.2.2
      refine lv_tov (v' := .ref p3) (by rw [ep3]) ?_
      refine lv_iload_n hx hb dX5_refusalRule_16 rfl (lv_at hl 1 rfl) ?_
      obtain ⟨hi5, hF⟩ := ld_s hF
      refine pg_iald hx hb hK hP mp3.1 0 (pf_12 mp3.2) rfl hi5 dX5_refusalRule_17 ?_
      refine lv_topi (fun y4 ey4 => ?_)
      replace hF := hF y4 ey4
      refine lv_goto (tgt := 22) hx hb dX5_refusalRule_18 (by decide) ?_
      have e1 := Option.some.inj hF
      exact W.iret (v := y4) hx hb hr (fun t ht hW => ⟨⟨y4, (), rfl, e1, by rw [ht]; exact hP, va_K.moved hW.alike hK, hD⟩, hS.F ht⟩) hS.2.2 dX5_refusalRule_22

theorem iX8_release_8 : ∀ w ∈ wsX80, w ∈ wsX8_release := fun _ h => List.mem_cons_of_mem _ (List.mem_append_right _ h)
set_option maxHeartbeats 8000000 in
set_option maxRecDepth 100000 in
theorem zX8_release (l : Launch) (D : va_G) (x : Nat → Nat) (cy : Nat → ClassId) (g : Nat → Nat → Option Nat) (L : List Nat) (K : Nat → Nat) (cf : Nat → Nat → Nat) (nm : Nat → Int32) (hG : GO L K g) (hL : PL L K cf) (S0 : CS) (hT : WT L K S0.2) (sz : Nat) (me : Nat) (mme : me ∈ L ∧ K me = 8) (Sf : CS) (hF : gX8_release g cf nm S0 me = some Sf) : Met l yX8_release wsX8_release ({ frames := 0, cells := 0, slots := 0, locals := 0 }) (PW D (TYS cy) (ZW x cy g S0 ++ va_pl L (pf cy K cf nm S0)) sz [.ref me]) (va_Qv (fun (u : Unit) => WT L K Sf.2) (BU D (TYS cy) (ZW x cy g S0 ++ va_pl L (pf cy K cf nm S0)) (fun _ => ZW x cy g Sf ++ va_pl L (pf cy K cf nm Sf)) sz) (va_A (ZW x cy g S0 ++ va_pl L (pf cy K cf nm S0)) sz)) 0 0 (va_A (ZW x cy g S0 ++ va_pl L (pf cy K cf nm S0)) sz) := by
  refine Met.ofW (cc := cX8_release) (maxL := 1) (ret := none) (by decide) rfl ?_
  intro p e s m args below meth c s₁ B hml hv
  obtain ⟨rfl, hsz, hP, hK, hD0⟩ := hv
  have hx := B.exec
  have hb := B.bytes
  have hr := B.returns
  have hts := atoms_spec (ws := wsX8_release) B.pre
  have hown : s.vm.findClass RX8 = some m.cls := findClass_of_methodNamed B.named
  have hlocks := B.notSynchronized
  subst hsz
  have hD := hD0.self (sz := s.heap.size)
  have hA : ∀ q9 : Nat, s.heap.size ≤ q9 → va_A (ZW x cy g S0 ++ va_pl L (pf cy K cf nm S0)) s.heap.size q9 := fun q9 h => Or.inr h
  have hS : va_S (va_A (ZW x cy g S0 ++ va_pl L (pf cy K cf nm S0)) s.heap.size) s.heap s.heap [] := va_S.rf
  have hl := lv_entry ([.ref me]) (n := 1) (Nat.le_of_ble_eq_true rfl)
  rw [lg_entry_eq]
  generalize (lg_sl ([.ref me]) ++ List.replicate (1 - (lg_sl ([.ref me])).length) Slot.unset).toArray = ls at hl ⊢
  have hl : lv_has ls 1 [(0, .ref me)] := hl
  unfold gX8_release at hF
  refine lv_aload_n hx hb dX8_release_0 rfl (lv_at hl 0 rfl) ?_
  refine lv_null hx hb dX8_release_1 ?_
  refine pg_put (D := D) (ci := 8) (v := .null) (ty := (.object "FondsRoom$Box")) (C := RX8) (T := TX8) (N := 3) hx hb hts iX8_release_8 tyX8 tyX8_ok nmX8 hown hK hP hD hS mme.1 (pf_8 mme.2) rfl 0 (by decide) (hts (.fieldLink RX8 7 "FondsRoom$Worker" "box" "LFondsRoom$Box;") (List.mem_of_getElem? (i := 1) rfl)) (fun _ h9 => h9) rfl (by decide +kernel) rfl rfl (Nat.le_of_ble_eq_true rfl) dX8_release_2 (fun H locs hP hD hS => ?_)
  obtain ⟨S1, eS1⟩ : ∃ z, z = wq S0 160 me none := ⟨_, rfl⟩
  replace hF := bnd_s hF S1 eS1
  have hP : va_P D vwCl (ZW x cy g S1 ++ va_pl L (pf cy K cf nm S1)) H := by rw [eS1]; rw [← pu_8_0 mme.2]; exact hP
  have hD : va_D (va_A (ZW x cy g S0 ++ va_pl L (pf cy K cf nm S0)) s.heap.size) (ZW x cy g S1 ++ va_pl L (pf cy K cf nm S1)) := by rw [eS1]; rw [← pu_8_0 mme.2]; exact hD
  have hT : WT L K S1.2 := by rw [eS1]; exact WT_up hT 160 me rok_none
  refine lv_aload_n hx hb dX8_release_5 rfl (lv_at hl 0 rfl) ?_
  refine lv_null hx hb dX8_release_6 ?_
  refine pg_put (D := D) (ci := 8) (v := .null) (ty := (.object "FondsRoom$Reader")) (C := RX8) (T := TX8) (N := 3) hx hb hts iX8_release_8 tyX8 tyX8_ok nmX8 hown hK hP hD hS mme.1 (pf_8 mme.2) rfl 1 (by decide) (hts (.fieldLink RX8 13 "FondsRoom$Worker" "goal" "LFondsRoom$Reader;") (List.mem_of_getElem? (i := 2) rfl)) (fun _ h9 => h9) rfl (by decide +kernel) rfl rfl (Nat.le_of_ble_eq_true rfl) dX8_release_7 (fun H locs hP hD hS => ?_)
  obtain ⟨S2, eS2⟩ : ∃ z, z = wq S1 161 me none := ⟨_, rfl⟩
  replace hF := bnd_s hF S2 eS2
  have hP : va_P D vwCl (ZW x cy g S2 ++ va_pl L (pf cy K cf nm S2)) H := by rw [eS2]; rw [← pu_8_1 mme.2]; exact hP
  have hD : va_D (va_A (ZW x cy g S0 ++ va_pl L (pf cy K cf nm S0)) s.heap.size) (ZW x cy g S2 ++ va_pl L (pf cy K cf nm S2)) := by rw [eS2]; rw [← pu_8_1 mme.2]; exact hD
  have hT : WT L K S2.2 := by rw [eS2]; exact WT_up hT 161 me rok_none
  refine lv_aload_n hx hb dX8_release_10 rfl (lv_at hl 0 rfl) ?_
  refine lv_iconst (v := 0) hx hb dX8_release_11 (by decide) ?_
  refine pg_put (D := D) (ci := 8) (v := .int 0) (ty := .int) (C := RX8) (T := TX8) (N := 3) hx hb hts iX8_release_8 tyX8 tyX8_ok nmX8 hown hK hP hD hS mme.1 (pf_8 mme.2) rfl 2 (by decide) (hts (.fieldLink RX8 17 "FondsRoom$Worker" "left" "I") (List.mem_of_getElem? (i := 3) rfl)) (fun _ h9 => h9) rfl (by decide +kernel) rfl rfl (Nat.le_of_ble_eq_true rfl) dX8_release_12 (fun H locs hP hD hS => ?_)
  obtain ⟨S3, eS3⟩ : ∃ z, z = wi S2 162 me 0 := ⟨_, rfl⟩
  replace hF := bnd_s hF S3 eS3
  have hP : va_P D vwCl (ZW x cy g S3 ++ va_pl L (pf cy K cf nm S3)) H := by rw [eS3]; rw [← pu_8_2 mme.2]; exact hP
  have hD : va_D (va_A (ZW x cy g S0 ++ va_pl L (pf cy K cf nm S0)) s.heap.size) (ZW x cy g S3 ++ va_pl L (pf cy K cf nm S3)) := by rw [eS3]; rw [← pu_8_2 mme.2]; exact hD
  have hT : WT L K S3.2 := by rw [eS3]; exact hT
  have e2 := Option.some.inj hF
  have hP : va_P D vwCl (ZW x cy g Sf ++ va_pl L (pf cy K cf nm Sf)) H := by rw [← e2]; exact hP
  have hD : va_D (va_A (ZW x cy g S0 ++ va_pl L (pf cy K cf nm S0)) s.heap.size) (ZW x cy g Sf ++ va_pl L (pf cy K cf nm Sf)) := by rw [← e2]; exact hD
  have hT : WT L K Sf.2 := by rw [← e2]; exact hT
  exact W.vret hx hb hr (fun t ht hW => ⟨⟨(), rfl, hT, by rw [ht]; exact hP, va_K.moved hW.alike hK, hD⟩, hS.F ht⟩) hS.2.2 dX8_release_15

theorem iX8_begin_8 : ∀ w ∈ wsX80, w ∈ wsX8_begin := fun _ h => List.mem_cons_of_mem _ (List.mem_append_right _ h)
set_option maxHeartbeats 8000000 in
set_option maxRecDepth 100000 in
theorem zX8_begin (l : Launch) (D : va_G) (x : Nat → Nat) (cy : Nat → ClassId) (g : Nat → Nat → Option Nat) (L : List Nat) (K : Nat → Nat) (cf : Nat → Nat → Nat) (nm : Nat → Int32) (hG : GO L K g) (hL : PL L K cf) (S0 : CS) (hT : WT L K S0.2) (sz : Nat) (me : Nat) (ar1 : Nat) (ar2 : Option Nat) (ar3 : Int32) (mme : me ∈ L ∧ K me = 8) (mar1 : ar1 ∈ L ∧ K ar1 = 0) (mar2 : rok L K 6 ar2) (Sf : CS) (hF : gX8_begin g cf nm S0 me ar1 ar2 ar3 = some Sf) : Met l yX8_begin wsX8_begin ({ frames := 0, cells := 0, slots := 0, locals := 0 }) (PW D (TYS cy) (ZW x cy g S0 ++ va_pl L (pf cy K cf nm S0)) sz [.ref me, .ref ar1, va_rf ar2, .int ar3]) (va_Qv (fun (u : Unit) => WT L K Sf.2) (BU D (TYS cy) (ZW x cy g S0 ++ va_pl L (pf cy K cf nm S0)) (fun _ => ZW x cy g Sf ++ va_pl L (pf cy K cf nm Sf)) sz) (va_A (ZW x cy g S0 ++ va_pl L (pf cy K cf nm S0)) sz)) 0 0 (va_A (ZW x cy g S0 ++ va_pl L (pf cy K cf nm S0)) sz) := by
  refine Met.ofW (cc := cX8_begin) (maxL := 4) (ret := none) (by decide) rfl ?_
  intro p e s m args below meth c s₁ B hml hv
  obtain ⟨rfl, hsz, hP, hK, hD0⟩ := hv
  have hx := B.exec
  have hb := B.bytes
  have hr := B.returns
  have hts := atoms_spec (ws := wsX8_begin) B.pre
  have hown : s.vm.findClass RX8 = some m.cls := findClass_of_methodNamed B.named
  have hlocks := B.notSynchronized
  subst hsz
  have hD := hD0.self (sz := s.heap.size)
  have hA : ∀ q9 : Nat, s.heap.size ≤ q9 → va_A (ZW x cy g S0 ++ va_pl L (pf cy K cf nm S0)) s.heap.size q9 := fun q9 h => Or.inr h
  have hS : va_S (va_A (ZW x cy g S0 ++ va_pl L (pf cy K cf nm S0)) s.heap.size) s.heap s.heap [] := va_S.rf
  have hl := lv_entry ([.ref me, .ref ar1, va_rf ar2, .int ar3]) (n := 4) (by cases ar2 <;> exact Nat.le_of_ble_eq_true rfl)
  rw [lg_entry_eq]
  generalize (lg_sl ([.ref me, .ref ar1, va_rf ar2, .int ar3]) ++ List.replicate (4 - (lg_sl ([.ref me, .ref ar1, va_rf ar2, .int ar3])).length) Slot.unset).toArray = ls at hl ⊢
  have hl : lv_has ls 4 [(0, .ref me), (1, .ref ar1), (2, va_rf ar2), (3, .int ar3)] := by cases ar2 <;> exact hl
  unfold gX8_begin at hF
  refine lv_aload_n hx hb dX8_begin_0 rfl (lv_at hl 0 rfl) ?_
  refine lv_aload_n hx hb dX8_begin_1 rfl (lv_at hl 1 rfl) ?_
  refine pg_put (D := D) (ci := 8) (v := .ref ar1) (ty := (.object "FondsRoom$Box")) (C := RX8) (T := TX8) (N := 3) hx hb hts iX8_begin_8 tyX8 tyX8_ok nmX8 hown hK hP hD hS mme.1 (pf_8 mme.2) rfl 0 (by decide) (hts (.fieldLink RX8 7 "FondsRoom$Worker" "box" "LFondsRoom$Box;") (List.mem_of_getElem? (i := 1) rfl)) (fun _ h9 => h9) rfl (by decide +kernel) rfl rfl (Nat.le_of_ble_eq_true rfl) dX8_begin_2 (fun H locs hP hD hS => ?_)
  obtain ⟨S1, eS1⟩ : ∃ z, z = wq S0 160 me (some ar1) := ⟨_, rfl⟩
  replace hF := bnd_s hF S1 eS1
  have hP : va_P D vwCl (ZW x cy g S1 ++ va_pl L (pf cy K cf nm S1)) H := by rw [eS1]; rw [← pu_8_0 mme.2]; exact hP
  have hD : va_D (va_A (ZW x cy g S0 ++ va_pl L (pf cy K cf nm S0)) s.heap.size) (ZW x cy g S1 ++ va_pl L (pf cy K cf nm S1)) := by rw [eS1]; rw [← pu_8_0 mme.2]; exact hD
  have hT : WT L K S1.2 := by rw [eS1]; exact WT_up hT 160 me (rok_some mar1.1 mar1.2)
  refine lv_aload_n hx hb dX8_begin_5 rfl (lv_at hl 0 rfl) ?_
  refine lq_aload_n hx hb dX8_begin_6 rfl (lv_at hl 2 rfl) ?_
  refine pg_put (D := D) (ci := 8) (v := va_rf ar2) (ty := (.object "FondsRoom$Reader")) (C := RX8) (T := TX8) (N := 3) hx hb hts iX8_begin_8 tyX8 tyX8_ok nmX8 hown hK hP hD hS mme.1 (pf_8 mme.2) rfl 1 (by decide) (hts (.fieldLink RX8 13 "FondsRoom$Worker" "goal" "LFondsRoom$Reader;") (List.mem_of_getElem? (i := 2) rfl)) (fun _ h9 => h9) rfl (by decide +kernel) (by cases ar2 <;> rfl) (by cases ar2 <;> rfl) (Nat.le_of_ble_eq_true rfl) dX8_begin_7 (fun H locs hP hD hS => ?_)
  obtain ⟨S2, eS2⟩ : ∃ z, z = wq S1 161 me ar2 := ⟨_, rfl⟩
  replace hF := bnd_s hF S2 eS2
  have hP : va_P D vwCl (ZW x cy g S2 ++ va_pl L (pf cy K cf nm S2)) H := by rw [eS2]; rw [← pu_8_1 mme.2]; exact hP
  have hD : va_D (va_A (ZW x cy g S0 ++ va_pl L (pf cy K cf nm S0)) s.heap.size) (ZW x cy g S2 ++ va_pl L (pf cy K cf nm S2)) := by rw [eS2]; rw [← pu_8_1 mme.2]; exact hD
  have hT : WT L K S2.2 := by rw [eS2]; exact WT_up hT 161 me mar2
  refine lv_aload_n hx hb dX8_begin_10 rfl (lv_at hl 0 rfl) ?_
  refine lv_iload_n hx hb dX8_begin_11 rfl (lv_at hl 3 rfl) ?_
  refine pg_put (D := D) (ci := 8) (v := .int ar3) (ty := .int) (C := RX8) (T := TX8) (N := 3) hx hb hts iX8_begin_8 tyX8 tyX8_ok nmX8 hown hK hP hD hS mme.1 (pf_8 mme.2) rfl 2 (by decide) (hts (.fieldLink RX8 17 "FondsRoom$Worker" "left" "I") (List.mem_of_getElem? (i := 3) rfl)) (fun _ h9 => h9) rfl (by decide +kernel) rfl rfl (Nat.le_of_ble_eq_true rfl) dX8_begin_12 (fun H locs hP hD hS => ?_)
  obtain ⟨S3, eS3⟩ : ∃ z, z = wi S2 162 me ar3 := ⟨_, rfl⟩
  replace hF := bnd_s hF S3 eS3
  have hP : va_P D vwCl (ZW x cy g S3 ++ va_pl L (pf cy K cf nm S3)) H := by rw [eS3]; rw [← pu_8_2 mme.2]; exact hP
  have hD : va_D (va_A (ZW x cy g S0 ++ va_pl L (pf cy K cf nm S0)) s.heap.size) (ZW x cy g S3 ++ va_pl L (pf cy K cf nm S3)) := by rw [eS3]; rw [← pu_8_2 mme.2]; exact hD
  have hT : WT L K S3.2 := by rw [eS3]; exact hT
  have e2 := Option.some.inj hF
  have hP : va_P D vwCl (ZW x cy g Sf ++ va_pl L (pf cy K cf nm Sf)) H := by rw [← e2]; exact hP
  have hD : va_D (va_A (ZW x cy g S0 ++ va_pl L (pf cy K cf nm S0)) s.heap.size) (ZW x cy g Sf ++ va_pl L (pf cy K cf nm Sf)) := by rw [← e2]; exact hD
  have hT : WT L K Sf.2 := by rw [← e2]; exact hT
  exact W.vret hx hb hr (fun t ht hW => ⟨⟨(), rfl, hT, by rw [ht]; exact hP, va_K.moved hW.alike hK, hD⟩, hS.F ht⟩) hS.2.2 dX8_begin_15

theorem iX6_awaitsAt_0 : ∀ w ∈ wsX00, w ∈ wsX6_awaitsAt := fun _ h => List.mem_cons_of_mem _ (List.mem_append_right _ h)
theorem iX6_awaitsAt_6 : ∀ w ∈ wsX60, w ∈ wsX6_awaitsAt := fun _ h => List.mem_cons_of_mem _ (List.mem_append_left _ (List.mem_append_right _ h))
set_option maxHeartbeats 8000000 in
set_option maxRecDepth 100000 in
theorem zX6_awaitsAt (l : Launch) (D : va_G) (x : Nat → Nat) (cy : Nat → ClassId) (g : Nat → Nat → Option Nat) (L : List Nat) (K : Nat → Nat) (cf : Nat → Nat → Nat) (nm : Nat → Int32) (hG : GO L K g) (hL : PL L K cf) (S : CS) (hT : WT L K S.2) (sz : Nat) (me : Nat) (ar1 : Int32) (mme : me ∈ L ∧ K me = 6) (rv : Int32) (hF : gX6_awaitsAt g cf nm S me ar1 = some rv) : Met l yX6_awaitsAt wsX6_awaitsAt ({ frames := 0, cells := 0, slots := 0, locals := 0 }) (PW D (TYS cy) (ZW x cy g S ++ va_pl L (pf cy K cf nm S)) sz [.ref me, .int ar1]) (va_Qi (fun (res : Int32) (u : Unit) => res = rv ∧ b01 rv) (BU D (TYS cy) (ZW x cy g S ++ va_pl L (pf cy K cf nm S)) (fun _ => ZW x cy g S ++ va_pl L (pf cy K cf nm S)) sz) (va_A (ZW x cy g S ++ va_pl L (pf cy K cf nm S)) sz)) 0 0 (va_A (ZW x cy g S ++ va_pl L (pf cy K cf nm S)) sz) := by
  refine Met.ofW (cc := cX6_awaitsAt) (maxL := 2) (ret := (some .boolean)) (by decide) rfl ?_
  intro p e s m args below meth c s₁ B hml hv
  obtain ⟨rfl, hsz, hP, hK, hD0⟩ := hv
  have hx := B.exec
  have hb := B.bytes
  have hr := B.returns
  have hts := atoms_spec (ws := wsX6_awaitsAt) B.pre
  have hown : s.vm.findClass RX6 = some m.cls := findClass_of_methodNamed B.named
  have hlocks := B.notSynchronized
  subst hsz
  have hD := hD0.self (sz := s.heap.size)
  have hA : ∀ q9 : Nat, s.heap.size ≤ q9 → va_A (ZW x cy g S ++ va_pl L (pf cy K cf nm S)) s.heap.size q9 := fun q9 h => Or.inr h
  have hS : va_S (va_A (ZW x cy g S ++ va_pl L (pf cy K cf nm S)) s.heap.size) s.heap s.heap [] := va_S.rf
  have hl := lv_entry ([.ref me, .int ar1]) (n := 2) (Nat.le_of_ble_eq_true rfl)
  rw [lg_entry_eq]
  generalize (lg_sl ([.ref me, .int ar1]) ++ List.replicate (2 - (lg_sl ([.ref me, .int ar1])).length) Slot.unset).toArray = ls at hl ⊢
  have hl : lv_has ls 2 [(0, .ref me), (1, .int ar1)] := hl
  unfold gX6_awaitsAt at hF
  refine lv_aload_n hx hb dX6_awaitsAt_0 rfl (lv_at hl 0 rfl) ?_
  refine pg_get (D := D) (ci := 6) (v := va_rf (S.2 128 me)) (C := RX6) (T := TX6) (N := 17) hx hb hts iX6_awaitsAt_6 hown hK hP mme.1 (pf_6 mme.2) rfl 8 (by decide) (hts (.fieldLink RX6 20 "FondsRoom$Reader" "awaited" "LFondsRoom$Box;") (List.mem_of_getElem? (i := 1) rfl)) (fun _ h9 => h9) rfl dX6_awaitsAt_1 ?_
  obtain ⟨q1, eq1⟩ : ∃ z, z = S.2 128 me := ⟨_, rfl⟩
  replace hF := bnd_s hF q1 eq1
  have hq1 : rok L K 0 q1 := by rw [eq1]; exact hT 128 me
  refine lv_tov (v' := va_rf q1) (by rw [eq1]) ?_
  rcases eb2 : q1 with _ | b2
  · skip
    subst eb2
    replace hF := oc_n hF
    have hl : lv_has ls 2 [(0, .ref me), (1, .int ar1)] := hl
    refine W.eq (g2 := F0 m 4 ls [.null]) rfl ?_
    refine lv_ifnullN (tgt := 22) hx hb dX6_awaitsAt_4 (by decide) ?_
    refine lv_iconst (v := 0) hx hb dX6_awaitsAt_22 (by decide) ?_
    have e1 := Option.some.inj hF
    exact W.zret (v := 0) hx hb hr (nz01 (Or.inl rfl)).1 (fun t ht hW => ⟨⟨0, (), rfl, ⟨e1, by rw [← e1]; exact Or.inl rfl⟩, by rw [ht]; exact hP, va_K.moved hW.alike hK, hD⟩, hS.F ht⟩) hS.2.2 dX6_awaitsAt_23
  · skip
    subst eb2
    replace hF := oc_b hF
    have mb2 := hq1 b2 rfl
    have hl : lv_has ls 2 [(0, .ref me), (1, .int ar1)] := hl
    refine W.eq (g2 := F0 m 4 ls [.ref b2]) rfl ?_
    refine lv_ifnull hx hb dX6_awaitsAt_4 ?_
    refine lv_aload_n hx hb dX6_awaitsAt_7 rfl (lv_at hl 0 rfl) ?_
    refine pg_get (D := D) (ci := 6) (v := va_rf (S.2 128 me)) (C := RX6) (T := TX6) (N := 17) hx hb hts iX6_awaitsAt_6 hown hK hP mme.1 (pf_6 mme.2) rfl 8 (by decide) (hts (.fieldLink RX6 20 "FondsRoom$Reader" "awaited" "LFondsRoom$Box;") (List.mem_of_getElem? (i := 1) rfl)) (fun _ h9 => h9) rfl dX6_awaitsAt_8 ?_
    obtain ⟨q3, eq3⟩ : ∃ z, z = S.2 128 me := ⟨_, rfl⟩
    replace hF := bnd_s hF q3 eq3
    have hq3 : rok L K 0 q3 := by rw [eq3]; exact hT 128 me
    refine lv_tov (v' := va_rf q3) (by rw [eq3]) ?_
    obtain ⟨b4, eb4, hF9⟩ := sm_s hF
    clear hF
    have hF := hF9
    clear hF9
    subst eb4
    have mb4 := hq3 b4 rfl
    have hl : lv_has ls 2 [(0, .ref me), (1, .int ar1)] := hl
    refine W.eq (g2 := F0 m 11 ls [.ref b4]) rfl ?_
    refine pg_get (D := D) (ci := 0) (v := .int (S.1 3 b4)) (C := RX0) (T := TX0) (N := 6) hx hb hts iX6_awaitsAt_0 hown hK hP mb4.1 (pf_0 mb4.2) rfl 3 (by decide) (hts (.fieldLink RX6 24 "FondsRoom$Box" "place" "I") (List.mem_of_getElem? (i := 2) rfl)) (fun _ h9 => h9) rfl dX6_awaitsAt_11 ?_
    refine lv_iload_n hx hb dX6_awaitsAt_14 rfl (lv_at hl 1 rfl) ?_
    refine lv_icmp_ne (tgt := 22) hx hb dX6_awaitsAt_15 (by decide) (fun c5 => ?_) (fun c5 => ?_)
    · skip
      have hF := (if_neg c5).symm.trans hF
      refine lv_iconst (v := 0) hx hb dX6_awaitsAt_22 (by decide) ?_
      have e1 := Option.some.inj hF
      exact W.zret (v := 0) hx hb hr (nz01 (Or.inl rfl)).1 (fun t ht hW => ⟨⟨0, (), rfl, ⟨e1, by rw [← e1]; exact Or.inl rfl⟩, by rw [ht]; exact hP, va_K.moved hW.alike hK, hD⟩, hS.F ht⟩) hS.2.2 dX6_awaitsAt_23
    · skip
      have hF := (if_pos c5).symm.trans hF
      refine lv_iconst (v := 1) hx hb dX6_awaitsAt_18 (by decide) ?_
      refine lv_goto (tgt := 23) hx hb dX6_awaitsAt_19 (by decide) ?_
      have e1 := Option.some.inj hF
      exact W.zret (v := 1) hx hb hr (nz01 (Or.inr rfl)).1 (fun t ht hW => ⟨⟨1, (), rfl, ⟨e1, by rw [← e1]; exact Or.inr rfl⟩, by rw [ht]; exact hP, va_K.moved hW.alike hK, hD⟩, hS.F ht⟩) hS.2.2 dX6_awaitsAt_23

theorem iX6_cameBehind_6 : ∀ w ∈ wsX60, w ∈ wsX6_cameBehind := fun _ h => List.mem_cons_of_mem _ (List.mem_append_right _ h)
set_option maxHeartbeats 8000000 in
set_option maxRecDepth 100000 in
theorem zX6_cameBehind (l : Launch) (D : va_G) (x : Nat → Nat) (cy : Nat → ClassId) (g : Nat → Nat → Option Nat) (L : List Nat) (K : Nat → Nat) (cf : Nat → Nat → Nat) (nm : Nat → Int32) (hG : GO L K g) (hL : PL L K cf) (S : CS) (hT : WT L K S.2) (sz : Nat) (me : Nat) (ar1 : Nat) (mme : me ∈ L ∧ K me = 6) (mar1 : ar1 ∈ L ∧ K ar1 = 6) (rv : Int32) (hF : gX6_cameBehind g cf nm S me ar1 = some rv) : Met l yX6_cameBehind wsX6_cameBehind ({ frames := 0, cells := 0, slots := 0, locals := 0 }) (PW D (TYS cy) (ZW x cy g S ++ va_pl L (pf cy K cf nm S)) sz [.ref me, .ref ar1]) (va_Qi (fun (res : Int32) (u : Unit) => res = rv ∧ b01 rv) (BU D (TYS cy) (ZW x cy g S ++ va_pl L (pf cy K cf nm S)) (fun _ => ZW x cy g S ++ va_pl L (pf cy K cf nm S)) sz) (va_A (ZW x cy g S ++ va_pl L (pf cy K cf nm S)) sz)) 0 0 (va_A (ZW x cy g S ++ va_pl L (pf cy K cf nm S)) sz) := by
  refine Met.ofW (cc := cX6_cameBehind) (maxL := 2) (ret := (some .boolean)) (by decide) rfl ?_
  intro p e s m args below meth c s₁ B hml hv
  obtain ⟨rfl, hsz, hP, hK, hD0⟩ := hv
  have hx := B.exec
  have hb := B.bytes
  have hr := B.returns
  have hts := atoms_spec (ws := wsX6_cameBehind) B.pre
  have hown : s.vm.findClass RX6 = some m.cls := findClass_of_methodNamed B.named
  have hlocks := B.notSynchronized
  subst hsz
  have hD := hD0.self (sz := s.heap.size)
  have hA : ∀ q9 : Nat, s.heap.size ≤ q9 → va_A (ZW x cy g S ++ va_pl L (pf cy K cf nm S)) s.heap.size q9 := fun q9 h => Or.inr h
  have hS : va_S (va_A (ZW x cy g S ++ va_pl L (pf cy K cf nm S)) s.heap.size) s.heap s.heap [] := va_S.rf
  have hl := lv_entry ([.ref me, .ref ar1]) (n := 2) (Nat.le_of_ble_eq_true rfl)
  rw [lg_entry_eq]
  generalize (lg_sl ([.ref me, .ref ar1]) ++ List.replicate (2 - (lg_sl ([.ref me, .ref ar1])).length) Slot.unset).toArray = ls at hl ⊢
  have hl : lv_has ls 2 [(0, .ref me), (1, .ref ar1)] := hl
  unfold gX6_cameBehind at hF
  refine lv_aload_n hx hb dX6_cameBehind_0 rfl (lv_at hl 0 rfl) ?_
  refine pg_get (D := D) (ci := 6) (v := .int (S.1 126 me)) (C := RX6) (T := TX6) (N := 17) hx hb hts iX6_cameBehind_6 hown hK hP mme.1 (pf_6 mme.2) rfl 6 (by decide) (hts (.fieldLink RX6 29 "FondsRoom$Reader" "cameTurn" "I") (List.mem_of_getElem? (i := 1) rfl)) (fun _ h9 => h9) rfl dX6_cameBehind_1 ?_
  refine lv_aload_n hx hb dX6_cameBehind_4 rfl (lv_at hl 1 rfl) ?_
  refine pg_get (D := D) (ci := 6) (v := .int (S.1 126 ar1)) (C := RX6) (T := TX6) (N := 17) hx hb hts iX6_cameBehind_6 hown hK hP mar1.1 (pf_6 mar1.2) rfl 6 (by decide) (hts (.fieldLink RX6 29 "FondsRoom$Reader" "cameTurn" "I") (List.mem_of_getElem? (i := 1) rfl)) (fun _ h9 => h9) rfl dX6_cameBehind_5 ?_
  refine lv_icmp_gt (tgt := 33) hx hb dX6_cameBehind_8 (by decide) (fun c1 => ?_) (fun c1 => ?_)
  · skip
    have hF := (if_pos c1).symm.trans hF
    refine lv_iconst (v := 1) hx hb dX6_cameBehind_33 (by decide) ?_
    refine lv_goto (tgt := 38) hx hb dX6_cameBehind_34 (by decide) ?_
    have e1 := Option.some.inj hF
    exact W.zret (v := 1) hx hb hr (nz01 (Or.inr rfl)).1 (fun t ht hW => ⟨⟨1, (), rfl, ⟨e1, by rw [← e1]; exact Or.inr rfl⟩, by rw [ht]; exact hP, va_K.moved hW.alike hK, hD⟩, hS.F ht⟩) hS.2.2 dX6_cameBehind_38
  · skip
    have hF := (if_neg c1).symm.trans hF
    refine lv_aload_n hx hb dX6_cameBehind_11 rfl (lv_at hl 0 rfl) ?_
    refine pg_get (D := D) (ci := 6) (v := .int (S.1 126 me)) (C := RX6) (T := TX6) (N := 17) hx hb hts iX6_cameBehind_6 hown hK hP mme.1 (pf_6 mme.2) rfl 6 (by decide) (hts (.fieldLink RX6 29 "FondsRoom$Reader" "cameTurn" "I") (List.mem_of_getElem? (i := 1) rfl)) (fun _ h9 => h9) rfl dX6_cameBehind_12 ?_
    refine lv_aload_n hx hb dX6_cameBehind_15 rfl (lv_at hl 1 rfl) ?_
    refine pg_get (D := D) (ci := 6) (v := .int (S.1 126 ar1)) (C := RX6) (T := TX6) (N := 17) hx hb hts iX6_cameBehind_6 hown hK hP mar1.1 (pf_6 mar1.2) rfl 6 (by decide) (hts (.fieldLink RX6 29 "FondsRoom$Reader" "cameTurn" "I") (List.mem_of_getElem? (i := 1) rfl)) (fun _ h9 => h9) rfl dX6_cameBehind_16 ?_
    refine lv_icmp_ne (tgt := 37) hx hb dX6_cameBehind_19 (by decide) (fun c2 => ?_) (fun c2 => ?_)
    · skip
      have hF := (if_neg c2).symm.trans hF
      refine lv_iconst (v := 0) hx hb dX6_cameBehind_37 (by decide) ?_
      have e1 := Option.some.inj hF
      exact W.zret (v := 0) hx hb hr (nz01 (Or.inl rfl)).1 (fun t ht hW => ⟨⟨0, (), rfl, ⟨e1, by rw [← e1]; exact Or.inl rfl⟩, by rw [ht]; exact hP, va_K.moved hW.alike hK, hD⟩, hS.F ht⟩) hS.2.2 dX6_cameBehind_38
    · skip
      have hF := (if_pos c2).symm.trans hF
      refine lv_aload_n hx hb dX6_cameBehind_22 rfl (lv_at hl 0 rfl) ?_
      refine pg_get (D := D) (ci := 6) (v := .int (nm me)) (C := RX6) (T := TX6) (N := 17) hx hb hts iX6_cameBehind_6 hown hK hP mme.1 (pf_6 mme.2) rfl 0 (by decide) (hts (.fieldLink RX6 7 "FondsRoom$Reader" "number" "I") (List.mem_of_getElem? (i := 2) rfl)) (fun _ h9 => h9) rfl dX6_cameBehind_23 ?_
      refine lv_aload_n hx hb dX6_cameBehind_26 rfl (lv_at hl 1 rfl) ?_
      refine pg_get (D := D) (ci := 6) (v := .int (nm ar1)) (C := RX6) (T := TX6) (N := 17) hx hb hts iX6_cameBehind_6 hown hK hP mar1.1 (pf_6 mar1.2) rfl 0 (by decide) (hts (.fieldLink RX6 7 "FondsRoom$Reader" "number" "I") (List.mem_of_getElem? (i := 2) rfl)) (fun _ h9 => h9) rfl dX6_cameBehind_27 ?_
      refine lv_icmp_le (tgt := 37) hx hb dX6_cameBehind_30 (by decide) (fun c3 => ?_) (fun c3 => ?_)
      · skip
        have hF := (if_pos c3).symm.trans hF
        refine lv_iconst (v := 0) hx hb dX6_cameBehind_37 (by decide) ?_
        have e1 := Option.some.inj hF
        exact W.zret (v := 0) hx hb hr (nz01 (Or.inl rfl)).1 (fun t ht hW => ⟨⟨0, (), rfl, ⟨e1, by rw [← e1]; exact Or.inl rfl⟩, by rw [ht]; exact hP, va_K.moved hW.alike hK, hD⟩, hS.F ht⟩) hS.2.2 dX6_cameBehind_38
      · skip
        have hF := (if_neg c3).symm.trans hF
        refine lv_iconst (v := 1) hx hb dX6_cameBehind_33 (by decide) ?_
        refine lv_goto (tgt := 38) hx hb dX6_cameBehind_34 (by decide) ?_
        have e1 := Option.some.inj hF
        exact W.zret (v := 1) hx hb hr (nz01 (Or.inr rfl)).1 (fun t ht hW => ⟨⟨1, (), rfl, ⟨e1, by rw [← e1]; exact Or.inr rfl⟩, by rw [ht]; exact hP, va_K.moved hW.alike hK, hD⟩, hS.F ht⟩) hS.2.2 dX6_cameBehind_38

theorem iX6_isServedBefore_6 : ∀ w ∈ wsX60, w ∈ wsX6_isServedBefore := fun _ h => List.mem_cons_of_mem _ (List.mem_append_right _ h)
set_option maxHeartbeats 8000000 in
set_option maxRecDepth 100000 in
theorem zX6_isServedBefore (l : Launch) (D : va_G) (x : Nat → Nat) (cy : Nat → ClassId) (g : Nat → Nat → Option Nat) (L : List Nat) (K : Nat → Nat) (cf : Nat → Nat → Nat) (nm : Nat → Int32) (hG : GO L K g) (hL : PL L K cf) (S : CS) (hT : WT L K S.2) (sz : Nat) (me : Nat) (ar1 : Nat) (mme : me ∈ L ∧ K me = 6) (mar1 : ar1 ∈ L ∧ K ar1 = 6) (rv : Int32) (hF : gX6_isServedBefore g cf nm S me ar1 = some rv) : Met l yX6_isServedBefore wsX6_isServedBefore ({ frames := 0, cells := 0, slots := 0, locals := 0 }) (PW D (TYS cy) (ZW x cy g S ++ va_pl L (pf cy K cf nm S)) sz [.ref me, .ref ar1]) (va_Qi (fun (res : Int32) (u : Unit) => res = rv ∧ b01 rv) (BU D (TYS cy) (ZW x cy g S ++ va_pl L (pf cy K cf nm S)) (fun _ => ZW x cy g S ++ va_pl L (pf cy K cf nm S)) sz) (va_A (ZW x cy g S ++ va_pl L (pf cy K cf nm S)) sz)) 0 0 (va_A (ZW x cy g S ++ va_pl L (pf cy K cf nm S)) sz) := by
  refine Met.ofW (cc := cX6_isServedBefore) (maxL := 2) (ret := (some .boolean)) (by decide) rfl ?_
  intro p e s m args below meth c s₁ B hml hv
  obtain ⟨rfl, hsz, hP, hK, hD0⟩ := hv
  have hx := B.exec
  have hb := B.bytes
  have hr := B.returns
  have hts := atoms_spec (ws := wsX6_isServedBefore) B.pre
  have hown : s.vm.findClass RX6 = some m.cls := findClass_of_methodNamed B.named
  have hlocks := B.notSynchronized
  subst hsz
  have hD := hD0.self (sz := s.heap.size)
  have hA : ∀ q9 : Nat, s.heap.size ≤ q9 → va_A (ZW x cy g S ++ va_pl L (pf cy K cf nm S)) s.heap.size q9 := fun q9 h => Or.inr h
  have hS : va_S (va_A (ZW x cy g S ++ va_pl L (pf cy K cf nm S)) s.heap.size) s.heap s.heap [] := va_S.rf
  have hl := lv_entry ([.ref me, .ref ar1]) (n := 2) (Nat.le_of_ble_eq_true rfl)
  rw [lg_entry_eq]
  generalize (lg_sl ([.ref me, .ref ar1]) ++ List.replicate (2 - (lg_sl ([.ref me, .ref ar1])).length) Slot.unset).toArray = ls at hl ⊢
  have hl : lv_has ls 2 [(0, .ref me), (1, .ref ar1)] := hl
  unfold gX6_isServedBefore at hF
  refine lv_aload_n hx hb dX6_isServedBefore_0 rfl (lv_at hl 0 rfl) ?_
  refine pg_get (D := D) (ci := 6) (v := .int (S.1 123 me)) (C := RX6) (T := TX6) (N := 17) hx hb hts iX6_isServedBefore_6 hown hK hP mme.1 (pf_6 mme.2) rfl 3 (by decide) (hts (.fieldLink RX6 32 "FondsRoom$Reader" "rank" "I") (List.mem_of_getElem? (i := 1) rfl)) (fun _ h9 => h9) rfl dX6_isServedBefore_1 ?_
  refine lv_aload_n hx hb dX6_isServedBefore_4 rfl (lv_at hl 1 rfl) ?_
  refine pg_get (D := D) (ci := 6) (v := .int (S.1 123 ar1)) (C := RX6) (T := TX6) (N := 17) hx hb hts iX6_isServedBefore_6 hown hK hP mar1.1 (pf_6 mar1.2) rfl 3 (by decide) (hts (.fieldLink RX6 32 "FondsRoom$Reader" "rank" "I") (List.mem_of_getElem? (i := 1) rfl)) (fun _ h9 => h9) rfl dX6_isServedBefore_5 ?_
  refine lv_icmp_eq (tgt := 28) hx hb dX6_isServedBefore_8 (by decide) (fun c1 => ?_) (fun c1 => ?_)
  · skip
    have hF := (if_pos c1).symm.trans hF
    refine lv_aload_n hx hb dX6_isServedBefore_28 rfl (lv_at hl 0 rfl) ?_
    refine pg_get (D := D) (ci := 6) (v := .int (S.1 122 me)) (C := RX6) (T := TX6) (N := 17) hx hb hts iX6_isServedBefore_6 hown hK hP mme.1 (pf_6 mme.2) rfl 2 (by decide) (hts (.fieldLink RX6 35 "FondsRoom$Reader" "arrival" "I") (List.mem_of_getElem? (i := 2) rfl)) (fun _ h9 => h9) rfl dX6_isServedBefore_29 ?_
    refine lv_aload_n hx hb dX6_isServedBefore_32 rfl (lv_at hl 1 rfl) ?_
    refine pg_get (D := D) (ci := 6) (v := .int (S.1 122 ar1)) (C := RX6) (T := TX6) (N := 17) hx hb hts iX6_isServedBefore_6 hown hK hP mar1.1 (pf_6 mar1.2) rfl 2 (by decide) (hts (.fieldLink RX6 35 "FondsRoom$Reader" "arrival" "I") (List.mem_of_getElem? (i := 2) rfl)) (fun _ h9 => h9) rfl dX6_isServedBefore_33 ?_
    refine lv_icmp_eq (tgt := 56) hx hb dX6_isServedBefore_36 (by decide) (fun c2 => ?_) (fun c2 => ?_)
    · skip
      have hF := (if_pos c2).symm.trans hF
      refine lv_aload_n hx hb dX6_isServedBefore_56 rfl (lv_at hl 0 rfl) ?_
      refine pg_get (D := D) (ci := 6) (v := .int (nm me)) (C := RX6) (T := TX6) (N := 17) hx hb hts iX6_isServedBefore_6 hown hK hP mme.1 (pf_6 mme.2) rfl 0 (by decide) (hts (.fieldLink RX6 7 "FondsRoom$Reader" "number" "I") (List.mem_of_getElem? (i := 3) rfl)) (fun _ h9 => h9) rfl dX6_isServedBefore_57 ?_
      refine lv_aload_n hx hb dX6_isServedBefore_60 rfl (lv_at hl 1 rfl) ?_
      refine pg_get (D := D) (ci := 6) (v := .int (nm ar1)) (C := RX6) (T := TX6) (N := 17) hx hb hts iX6_isServedBefore_6 hown hK hP mar1.1 (pf_6 mar1.2) rfl 0 (by decide) (hts (.fieldLink RX6 7 "FondsRoom$Reader" "number" "I") (List.mem_of_getElem? (i := 3) rfl)) (fun _ h9 => h9) rfl dX6_isServedBefore_61 ?_
      refine lv_icmp_ge (tgt := 71) hx hb dX6_isServedBefore_64 (by decide) (fun c3 => ?_) (fun c3 => ?_)
      · skip
        have hF := (if_pos c3).symm.trans hF
        refine lv_iconst (v := 0) hx hb dX6_isServedBefore_71 (by decide) ?_
        have e1 := Option.some.inj hF
        exact W.zret (v := 0) hx hb hr (nz01 (Or.inl rfl)).1 (fun t ht hW => ⟨⟨0, (), rfl, ⟨e1, by rw [← e1]; exact Or.inl rfl⟩, by rw [ht]; exact hP, va_K.moved hW.alike hK, hD⟩, hS.F ht⟩) hS.2.2 dX6_isServedBefore_72
      · skip
        have hF := (if_neg c3).symm.trans hF
        refine lv_iconst (v := 1) hx hb dX6_isServedBefore_67 (by decide) ?_
        refine lv_goto (tgt := 72) hx hb dX6_isServedBefore_68 (by decide) ?_
        have e1 := Option.some.inj hF
        exact W.zret (v := 1) hx hb hr (nz01 (Or.inr rfl)).1 (fun t ht hW => ⟨⟨1, (), rfl, ⟨e1, by rw [← e1]; exact Or.inr rfl⟩, by rw [ht]; exact hP, va_K.moved hW.alike hK, hD⟩, hS.F ht⟩) hS.2.2 dX6_isServedBefore_72
    · skip
      have hF := (if_neg c2).symm.trans hF
      refine lv_aload_n hx hb dX6_isServedBefore_39 rfl (lv_at hl 0 rfl) ?_
      refine pg_get (D := D) (ci := 6) (v := .int (S.1 122 me)) (C := RX6) (T := TX6) (N := 17) hx hb hts iX6_isServedBefore_6 hown hK hP mme.1 (pf_6 mme.2) rfl 2 (by decide) (hts (.fieldLink RX6 35 "FondsRoom$Reader" "arrival" "I") (List.mem_of_getElem? (i := 2) rfl)) (fun _ h9 => h9) rfl dX6_isServedBefore_40 ?_
      refine lv_aload_n hx hb dX6_isServedBefore_43 rfl (lv_at hl 1 rfl) ?_
      refine pg_get (D := D) (ci := 6) (v := .int (S.1 122 ar1)) (C := RX6) (T := TX6) (N := 17) hx hb hts iX6_isServedBefore_6 hown hK hP mar1.1 (pf_6 mar1.2) rfl 2 (by decide) (hts (.fieldLink RX6 35 "FondsRoom$Reader" "arrival" "I") (List.mem_of_getElem? (i := 2) rfl)) (fun _ h9 => h9) rfl dX6_isServedBefore_44 ?_
      refine lv_icmp_ge (tgt := 54) hx hb dX6_isServedBefore_47 (by decide) (fun c4 => ?_) (fun c4 => ?_)
      · skip
        have hF := (if_pos c4).symm.trans hF
        refine lv_iconst (v := 0) hx hb dX6_isServedBefore_54 (by decide) ?_
        have e1 := Option.some.inj hF
        exact W.zret (v := 0) hx hb hr (nz01 (Or.inl rfl)).1 (fun t ht hW => ⟨⟨0, (), rfl, ⟨e1, by rw [← e1]; exact Or.inl rfl⟩, by rw [ht]; exact hP, va_K.moved hW.alike hK, hD⟩, hS.F ht⟩) hS.2.2 dX6_isServedBefore_55
      · skip
        have hF := (if_neg c4).symm.trans hF
        refine lv_iconst (v := 1) hx hb dX6_isServedBefore_50 (by decide) ?_
        refine lv_goto (tgt := 55) hx hb dX6_isServedBefore_51 (by decide) ?_
        have e1 := Option.some.inj hF
        exact W.zret (v := 1) hx hb hr (nz01 (Or.inr rfl)).1 (fun t ht hW => ⟨⟨1, (), rfl, ⟨e1, by rw [← e1]; exact Or.inr rfl⟩, by rw [ht]; exact hP, va_K.moved hW.alike hK, hD⟩, hS.F ht⟩) hS.2.2 dX6_isServedBefore_55
  · skip
    have hF := (if_neg c1).symm.trans hF
    refine lv_aload_n hx hb dX6_isServedBefore_11 rfl (lv_at hl 0 rfl) ?_
    refine pg_get (D := D) (ci := 6) (v := .int (S.1 123 me)) (C := RX6) (T := TX6) (N := 17) hx hb hts iX6_isServedBefore_6 hown hK hP mme.1 (pf_6 mme.2) rfl 3 (by decide) (hts (.fieldLink RX6 32 "FondsRoom$Reader" "rank" "I") (List.mem_of_getElem? (i := 1) rfl)) (fun _ h9 => h9) rfl dX6_isServedBefore_12 ?_
    refine lv_aload_n hx hb dX6_isServedBefore_15 rfl (lv_at hl 1 rfl) ?_
    refine pg_get (D := D) (ci := 6) (v := .int (S.1 123 ar1)) (C := RX6) (T := TX6) (N := 17) hx hb hts iX6_isServedBefore_6 hown hK hP mar1.1 (pf_6 mar1.2) rfl 3 (by decide) (hts (.fieldLink RX6 32 "FondsRoom$Reader" "rank" "I") (List.mem_of_getElem? (i := 1) rfl)) (fun _ h9 => h9) rfl dX6_isServedBefore_16 ?_
    refine lv_icmp_le (tgt := 26) hx hb dX6_isServedBefore_19 (by decide) (fun c5 => ?_) (fun c5 => ?_)
    · skip
      have hF := (if_pos c5).symm.trans hF
      refine lv_iconst (v := 0) hx hb dX6_isServedBefore_26 (by decide) ?_
      have e1 := Option.some.inj hF
      exact W.zret (v := 0) hx hb hr (nz01 (Or.inl rfl)).1 (fun t ht hW => ⟨⟨0, (), rfl, ⟨e1, by rw [← e1]; exact Or.inl rfl⟩, by rw [ht]; exact hP, va_K.moved hW.alike hK, hD⟩, hS.F ht⟩) hS.2.2 dX6_isServedBefore_27
    · skip
      have hF := (if_neg c5).symm.trans hF
      refine lv_iconst (v := 1) hx hb dX6_isServedBefore_22 (by decide) ?_
      refine lv_goto (tgt := 27) hx hb dX6_isServedBefore_23 (by decide) ?_
      have e1 := Option.some.inj hF
      exact W.zret (v := 1) hx hb hr (nz01 (Or.inr rfl)).1 (fun t ht hW => ⟨⟨1, (), rfl, ⟨e1, by rw [← e1]; exact Or.inr rfl⟩, by rw [ht]; exact hP, va_K.moved hW.alike hK, hD⟩, hS.F ht⟩) hS.2.2 dX6_isServedBefore_27

theorem iX3_at_3 : ∀ w ∈ wsX30, w ∈ wsX3_at := fun _ h => List.mem_cons_of_mem _ (List.mem_append_right _ h)
set_option maxHeartbeats 8000000 in
set_option maxRecDepth 100000 in
theorem zX3_at_0 (l : Launch) (D : va_G) (x : Nat → Nat) (cy : Nat → ClassId) (g : Nat → Nat → Option Nat) (L : List Nat) (K : Nat → Nat) (cf : Nat → Nat → Nat) (nm : Nat → Int32) (hG : GO L K g) (hL : PL L K cf) (S : CS) (hT : WT L K S.2) (sz : Nat) (ar1 : Int32)  (rv : Option Nat) (hF : gX3_at_0 g cf nm S ar1 = some rv) : Met l yX3_at wsX3_at ({ frames := 0, cells := 0, slots := 0, locals := 0 }) (PW D (TYS cy) (ZW x cy g S ++ va_pl L (pf cy K cf nm S)) sz [.ref (x 8), .int ar1]) (va_Qq (fun (res : Option Nat) (u : Unit) => res = rv ∧ rok L K 6 rv) (BU D (TYS cy) (ZW x cy g S ++ va_pl L (pf cy K cf nm S)) (fun _ => ZW x cy g S ++ va_pl L (pf cy K cf nm S)) sz) (va_A (ZW x cy g S ++ va_pl L (pf cy K cf nm S)) sz)) 0 0 (va_A (ZW x cy g S ++ va_pl L (pf cy K cf nm S)) sz) := by
  refine Met.ofW (cc := cX3_at) (maxL := 2) (ret := (some (.object "FondsRoom$Reader"))) (by decide) rfl ?_
  intro p e s m args below meth c s₁ B hml hv
  obtain ⟨rfl, hsz, hP, hK, hD0⟩ := hv
  have hx := B.exec
  have hb := B.bytes
  have hr := B.returns
  have hts := atoms_spec (ws := wsX3_at) B.pre
  have hown : s.vm.findClass RX3 = some m.cls := findClass_of_methodNamed B.named
  have hlocks := B.notSynchronized
  subst hsz
  have hD := hD0.self (sz := s.heap.size)
  have hA : ∀ q9 : Nat, s.heap.size ≤ q9 → va_A (ZW x cy g S ++ va_pl L (pf cy K cf nm S)) s.heap.size q9 := fun q9 h => Or.inr h
  have hS : va_S (va_A (ZW x cy g S ++ va_pl L (pf cy K cf nm S)) s.heap.size) s.heap s.heap [] := va_S.rf
  have hl := lv_entry ([.ref (x 8), .int ar1]) (n := 2) (Nat.le_of_ble_eq_true rfl)
  rw [lg_entry_eq]
  generalize (lg_sl ([.ref (x 8), .int ar1]) ++ List.replicate (2 - (lg_sl ([.ref (x 8), .int ar1])).length) Slot.unset).toArray = ls at hl ⊢
  have hl : lv_has ls 2 [(0, .ref (x 8)), (1, .int ar1)] := hl
  unfold gX3_at_0 at hF
  refine lv_iload_n hx hb dX3_at_0 rfl (lv_at hl 1 rfl) ?_
  refine lv_if_lt (tgt := 21) hx hb dX3_at_1 (by decide) (fun c1 => ?_) (fun c1 => ?_)
  · skip
    have hF := (if_pos c1).symm.trans hF
    refine lv_null hx hb dX3_at_21 ?_
    have e1 := Option.some.inj hF
    exact W.aret (v := .null) hx hb hr (Or.inl ⟨_, rfl⟩) (Or.inl rfl) (fun t ht hW => ⟨⟨none, (), rfl, ⟨e1, by rw [← e1]; exact rok_none⟩, by rw [ht]; exact hP, va_K.moved hW.alike hK, hD⟩, hS.F ht⟩) hS.2.2 dX3_at_22
  · skip
    have hF := (if_neg c1).symm.trans hF
    refine lv_iload_n hx hb dX3_at_4 rfl (lv_at hl 1 rfl) ?_
    refine lv_aload_n hx hb dX3_at_5 rfl (lv_at hl 0 rfl) ?_
    refine va_get (D := D) (ci := 3) (v := .int (S.1 200 11)) (C := RX3) (T := TX3) (N := 2) hx hb hts iX3_at_3 hown hK hP 8 rfl rfl 1 (by decide) (hts (.fieldLink RX3 17 "FondsRoom$Line" "size" "I") (List.mem_of_getElem? (i := 1) rfl)) (fun _ h9 => h9) rfl dX3_at_6 ?_
    refine lv_icmp_ge (tgt := 21) hx hb dX3_at_9 (by decide) (fun c2 => ?_) (fun c2 => ?_)
    · skip
      have hF := (if_pos c2).symm.trans hF
      refine lv_null hx hb dX3_at_21 ?_
      have e1 := Option.some.inj hF
      exact W.aret (v := .null) hx hb hr (Or.inl ⟨_, rfl⟩) (Or.inl rfl) (fun t ht hW => ⟨⟨none, (), rfl, ⟨e1, by rw [← e1]; exact rok_none⟩, by rw [ht]; exact hP, va_K.moved hW.alike hK, hD⟩, hS.F ht⟩) hS.2.2 dX3_at_22
    · skip
      have hF := (if_neg c2).symm.trans hF
      refine lv_aload_n hx hb dX3_at_12 rfl (lv_at hl 0 rfl) ?_
      refine va_get (D := D) (ci := 3) (v := .ref (x 9)) (C := RX3) (T := TX3) (N := 2) hx hb hts iX3_at_3 hown hK hP 8 rfl rfl 0 (by decide) (hts (.fieldLink RX3 11 "FondsRoom$Line" "places" "[LFondsRoom$Reader;") (List.mem_of_getElem? (i := 2) rfl)) (fun _ h9 => h9) rfl dX3_at_13 ?_
      refine lv_iload_n hx hb dX3_at_16 rfl (lv_at hl 1 rfl) ?_
      obtain ⟨hi3, hF⟩ := lq_s hF
      refine va_aldq hx hb hK hP 9 4 rfl rfl hi3 dX3_at_17 ?_
      obtain ⟨q4, eq4⟩ : ∃ z, z = S.2 205 (ar1 : Int32).toNatClampNeg := ⟨_, rfl⟩
      replace hF := hF q4 eq4
      have hq4 : rok L K 6 q4 := by rw [eq4]; exact hT 205 _
      refine lv_tov (v' := va_rf q4) (by rw [eq4]) ?_
      refine lv_goto (tgt := 22) hx hb dX3_at_18 (by decide) ?_
      have e1 := Option.some.inj hF
      exact W.aret (v := va_rf q4) hx hb hr (Or.inl ⟨_, rfl⟩) (va_rf_or _) (fun t ht hW => ⟨⟨q4, (), rfl, ⟨e1, by rw [← e1]; exact hq4⟩, by rw [ht]; exact hP, va_K.moved hW.alike hK, hD⟩, hS.F ht⟩) hS.2.2 dX3_at_22

theorem iX3_remove_3 : ∀ w ∈ wsX30, w ∈ wsX3_remove := fun _ h => List.mem_cons_of_mem _ (List.mem_append_right _ h)
set_option maxHeartbeats 8000000 in
set_option maxRecDepth 100000 in
theorem zX3_remove_0 (l : Launch) (D : va_G) (x : Nat → Nat) (cy : Nat → ClassId) (g : Nat → Nat → Option Nat) (L : List Nat) (K : Nat → Nat) (cf : Nat → Nat → Nat) (nm : Nat → Int32) (hG : GO L K g) (hL : PL L K cf) (S0 : CS) (hT : WT L K S0.2) (sz : Nat) (ar1 : Nat) (mar1 : ar1 ∈ L ∧ K ar1 = 6) (Sf : CS) (hF : gX3_remove_0 g cf nm S0 ar1 = some Sf) : Met l yX3_remove wsX3_remove ({ frames := 0, cells := 0, slots := 0, locals := 0 }) (PW D (TYS cy) (ZW x cy g S0 ++ va_pl L (pf cy K cf nm S0)) sz [.ref (x 8), .ref ar1]) (va_Qv (fun (u : Unit) => WT L K Sf.2) (BU D (TYS cy) (ZW x cy g S0 ++ va_pl L (pf cy K cf nm S0)) (fun _ => ZW x cy g Sf ++ va_pl L (pf cy K cf nm Sf)) sz) (va_A (ZW x cy g S0 ++ va_pl L (pf cy K cf nm S0)) sz)) 0 0 (va_A (ZW x cy g S0 ++ va_pl L (pf cy K cf nm S0)) sz) := by
  refine Met.ofW (cc := cX3_remove) (maxL := 4) (ret := none) (by decide) rfl ?_
  intro p e s m args below meth c s₁ B hml hv
  obtain ⟨rfl, hsz, hP, hK, hD0⟩ := hv
  have hx := B.exec
  have hb := B.bytes
  have hr := B.returns
  have hts := atoms_spec (ws := wsX3_remove) B.pre
  have hown : s.vm.findClass RX3 = some m.cls := findClass_of_methodNamed B.named
  have hlocks := B.notSynchronized
  subst hsz
  have hD := hD0.self (sz := s.heap.size)
  have hA : ∀ q9 : Nat, s.heap.size ≤ q9 → va_A (ZW x cy g S0 ++ va_pl L (pf cy K cf nm S0)) s.heap.size q9 := fun q9 h => Or.inr h
  have hS : va_S (va_A (ZW x cy g S0 ++ va_pl L (pf cy K cf nm S0)) s.heap.size) s.heap s.heap [] := va_S.rf
  have key4 : ∀ (KK : Int32 → CS → Option (CS)), (∀ (v2 : Int32) (S : CS) (H : Heap) (locs : List Loc) (ls : Array Slot), KK v2 S = some Sf → WT L K S.2 → va_P D vwCl (ZW x cy g S ++ va_pl L (pf cy K cf nm S)) H → va_D (va_A (ZW x cy g S0 ++ va_pl L (pf cy K cf nm S0)) s.heap.size) (ZW x cy g S ++ va_pl L (pf cy K cf nm S)) → va_S (va_A (ZW x cy g S0 ++ va_pl L (pf cy K cf nm S0)) s.heap.size) s.heap H locs → lv_has ls 4 [(2, .int v2), (0, .ref (x 8))] → W p l e (headSpec wsX3_remove ({ frames := 0, cells := 0, slots := 0, locals := 0 })).room s m #[.ref (x 8), .ref ar1] below meth c H locs 0 0 (MQ below (va_Qv (fun (u : Unit) => WT L K Sf.2) (BU D (TYS cy) (ZW x cy g S0 ++ va_pl L (pf cy K cf nm S0)) (fun _ => ZW x cy g Sf ++ va_pl L (pf cy K cf nm Sf)) s.heap.size) (va_A (ZW x cy g S0 ++ va_pl L (pf cy K cf nm S0)) s.heap.size)) #[.ref (x 8), .ref ar1] s 0 0 (va_A (ZW x cy g S0 ++ va_pl L (pf cy K cf nm S0)) s.heap.size)) (F0 m 43 ls [])) → ∀ (fu : Nat) (v1 : Nat) (v2 : Int32) (v3 : Int32) (S : CS) (H : Heap) (locs : List Loc) (ls : Array Slot), gX3_remove_0_4 g cf nm KK fu v1 v2 v3 S = some Sf → WT L K S.2 → (v1 ∈ L ∧ K v1 = 6) → va_P D vwCl (ZW x cy g S ++ va_pl L (pf cy K cf nm S)) H → va_D (va_A (ZW x cy g S0 ++ va_pl L (pf cy K cf nm S0)) s.heap.size) (ZW x cy g S ++ va_pl L (pf cy K cf nm S)) → va_S (va_A (ZW x cy g S0 ++ va_pl L (pf cy K cf nm S0)) s.heap.size) s.heap H locs → lv_has ls 4 [(1, .ref v1), (2, .int v2), (3, .int v3), (0, .ref (x 8))] → W p l e (headSpec wsX3_remove ({ frames := 0, cells := 0, slots := 0, locals := 0 })).room s m #[.ref (x 8), .ref ar1] below meth c H locs 0 0 (MQ below (va_Qv (fun (u : Unit) => WT L K Sf.2) (BU D (TYS cy) (ZW x cy g S0 ++ va_pl L (pf cy K cf nm S0)) (fun _ => ZW x cy g Sf ++ va_pl L (pf cy K cf nm Sf)) s.heap.size) (va_A (ZW x cy g S0 ++ va_pl L (pf cy K cf nm S0)) s.heap.size)) #[.ref (x 8), .ref ar1] s 0 0 (va_A (ZW x cy g S0 ++ va_pl L (pf cy K cf nm S0)) s.heap.size)) (F0 m 4 ls []) := by
    intro KK hKK fu
    induction fu with
    | zero =>
      intro v1 v2 v3 S H locs ls hF
      exact absurd (show (none : Option (CS)) = some Sf from hF) (by simp)
    | succ fu4 ih4 =>
      intro v1 v2 v3 S H locs ls hF hT mv1 hP hD hS hl
      rw [gX3_remove_0_4] at hF
      refine lv_iload_n hx hb dX3_remove_4 rfl (lv_at hl 2 rfl) ?_
      refine lv_aload_n hx hb dX3_remove_5 rfl (lv_at hl 3 rfl) ?_
      refine va_get (D := D) (ci := 3) (v := .int (S.1 200 11)) (C := RX3) (T := TX3) (N := 2) hx hb hts iX3_remove_3 hown hK hP 8 rfl rfl 1 (by decide) (hts (.fieldLink RX3 17 "FondsRoom$Line" "size" "I") (List.mem_of_getElem? (i := 1) rfl)) (fun _ h9 => h9) rfl dX3_remove_6 ?_
      refine lv_icmp_ge (tgt := 43) hx hb dX3_remove_9 (by decide) (fun c1 => ?_) (fun c1 => ?_)
      · skip
        have hF := (if_pos c1).symm.trans hF
        exact hKK v2 S _ _ _ hF hT hP hD hS (lv_sub hl [1, 3] rfl)
      · skip
        have hF := (if_neg c1).symm.trans hF
        refine lv_aload_n hx hb dX3_remove_12 rfl (lv_at hl 3 rfl) ?_
        refine va_get (D := D) (ci := 3) (v := .ref (x 9)) (C := RX3) (T := TX3) (N := 2) hx hb hts iX3_remove_3 hown hK hP 8 rfl rfl 0 (by decide) (hts (.fieldLink RX3 11 "FondsRoom$Line" "places" "[LFondsRoom$Reader;") (List.mem_of_getElem? (i := 2) rfl)) (fun _ h9 => h9) rfl dX3_remove_13 ?_
        refine lv_iload_n hx hb dX3_remove_16 rfl (lv_at hl 2 rfl) ?_
        obtain ⟨hi2, hF⟩ := lq_s hF
        refine va_aldq hx hb hK hP 9 4 rfl rfl hi2 dX3_remove_17 ?_
        obtain ⟨q3, eq3⟩ : ∃ z, z = S.2 205 (v3 : Int32).toNatClampNeg := ⟨_, rfl⟩
        replace hF := hF q3 eq3
        have hq3 : rok L K 6 q3 := by rw [eq3]; exact hT 205 _
        refine lv_tov (v' := va_rf q3) (by rw [eq3]) ?_
        refine lv_aload_n hx hb dX3_remove_18 rfl (lv_at hl 0 rfl) ?_
        refine lv_acmp_eq (rx := q3) (ry := (some v1)) (tgt := 37) hx hb dX3_remove_19 (by decide) (fun c4 => ?_) (fun c4 => ?_)
        · skip
          have hF := (if_pos c4).symm.trans hF
          refine lv_iinc (v := v3 + 1) (lv' := [(3, .int (v3 + 1)), (1, .ref v1), (2, .int v2), (0, .ref (x 8))]) hx hb dX3_remove_37 hl (k := 2) rfl rfl (by decide) rfl (fun ls hl => ?_)
          refine lv_goto (tgt := 4) hx hb dX3_remove_40 (by decide) ?_
          exact ih4 v1 v2 (v3 + 1) S _ _ _ hF hT ⟨mv1.1, mv1.2⟩ hP hD hS (lv_sub hl [1, 2, 0, 3] rfl)
        · skip
          have hF := (if_neg c4).symm.trans hF
          refine lv_aload_n hx hb dX3_remove_22 rfl (lv_at hl 3 rfl) ?_
          refine va_get (D := D) (ci := 3) (v := .ref (x 9)) (C := RX3) (T := TX3) (N := 2) hx hb hts iX3_remove_3 hown hK hP 8 rfl rfl 0 (by decide) (hts (.fieldLink RX3 11 "FondsRoom$Line" "places" "[LFondsRoom$Reader;") (List.mem_of_getElem? (i := 2) rfl)) (fun _ h9 => h9) rfl dX3_remove_23 ?_
          refine lv_iload_n hx hb dX3_remove_26 rfl (lv_at hl 1 rfl) ?_
          refine lv_aload_n hx hb dX3_remove_27 rfl (lv_at hl 3 rfl) ?_
          refine va_get (D := D) (ci := 3) (v := .ref (x 9)) (C := RX3) (T := TX3) (N := 2) hx hb hts iX3_remove_3 hown hK hP 8 rfl rfl 0 (by decide) (hts (.fieldLink RX3 11 "FondsRoom$Line" "places" "[LFondsRoom$Reader;") (List.mem_of_getElem? (i := 2) rfl)) (fun _ h9 => h9) rfl dX3_remove_28 ?_
          refine lv_iload_n hx hb dX3_remove_31 rfl (lv_at hl 2 rfl) ?_
          obtain ⟨hi5, hF⟩ := lq_s hF
          refine va_aldq hx hb hK hP 9 4 rfl rfl hi5 dX3_remove_32 ?_
          obtain ⟨q6, eq6⟩ : ∃ z, z = S.2 205 (v3 : Int32).toNatClampNeg := ⟨_, rfl⟩
          replace hF := hF q6 eq6
          have hq6 : rok L K 6 q6 := by rw [eq6]; exact hT 205 _
          refine lv_tov (v' := va_rf q6) (by rw [eq6]) ?_
          obtain ⟨b7, eb7, hF9⟩ := sm_s hF
          clear hF
          have hF := hF9
          clear hF9
          subst eb7
          have mb7 := hq6 b7 rfl
          have hl : lv_has ls 4 [(1, .ref v1), (2, .int v2), (3, .int v3), (0, .ref (x 8))] := hl
          refine W.eq (g2 := F0 m 33 ls [.ref b7, .int v2, .ref (x 9)]) rfl ?_
          obtain ⟨hi8, hF⟩ := sq_s hF
          obtain ⟨qk9, hqk9⟩ := va_pl_get (X := ZW x cy g S) (f := pf cy K cf nm S) mb7.1
          rw [pf_6 mb7.2] at hqk9
          refine va_astq hx hb hK hP hD hS 9 4 qk9 6 rfl rfl hqk9 rfl hi8 dX3_remove_33 (fun H locs hP hD hS => ?_)
          obtain ⟨S10, eS10⟩ : ∃ z, z = wq S 205 (v2 : Int32).toNatClampNeg (some b7) := ⟨_, rfl⟩
          replace hF := hF S10 eS10
          have hP : va_P D vwCl (ZW x cy g S10 ++ va_pl L (pf cy K cf nm S10)) H := by rw [eS10]; rw [show pf cy K cf nm (wq S 205 (v2 : Int32).toNatClampNeg (some b7)) = pf cy K cf nm S from pf_205]; exact hP
          have hD : va_D (va_A (ZW x cy g S0 ++ va_pl L (pf cy K cf nm S0)) s.heap.size) (ZW x cy g S10 ++ va_pl L (pf cy K cf nm S10)) := by rw [eS10]; rw [show pf cy K cf nm (wq S 205 (v2 : Int32).toNatClampNeg (some b7)) = pf cy K cf nm S from pf_205]; exact hD
          have hT : WT L K S10.2 := by rw [eS10]; exact WT_up hT 205 _ (rok_some mb7.1 mb7.2)
          refine lv_iinc (v := v2 + 1) (lv' := [(2, .int (v2 + 1)), (1, .ref v1), (3, .int v3), (0, .ref (x 8))]) hx hb dX3_remove_34 hl (k := 1) rfl rfl (by decide) rfl (fun ls hl => ?_)
          refine lv_iinc (v := v3 + 1) (lv' := [(3, .int (v3 + 1)), (2, .int (v2 + 1)), (1, .ref v1), (0, .ref (x 8))]) hx hb dX3_remove_37 hl (k := 2) rfl rfl (by decide) rfl (fun ls hl => ?_)
          refine lv_goto (tgt := 4) hx hb dX3_remove_40 (by decide) ?_
          exact ih4 v1 (v2 + 1) (v3 + 1) S10 _ _ _ hF hT ⟨mv1.1, mv1.2⟩ hP hD hS (lv_sub hl [2, 1, 0, 3] rfl)
  have hl := lv_entry ([.ref (x 8), .ref ar1]) (n := 4) (Nat.le_of_ble_eq_true rfl)
  rw [lg_entry_eq]
  generalize (lg_sl ([.ref (x 8), .ref ar1]) ++ List.replicate (4 - (lg_sl ([.ref (x 8), .ref ar1])).length) Slot.unset).toArray = ls at hl ⊢
  have hl : lv_has ls 4 [(0, .ref (x 8)), (1, .ref ar1)] := hl
  unfold gX3_remove_0 at hF
  refine lv_iconst (v := 0) hx hb dX3_remove_0 (by decide) ?_
  refine lv_istore_n (lv' := [(2, .int 0), (0, .ref (x 8)), (1, .ref ar1)]) hx hb dX3_remove_1 rfl hl (by decide) rfl (fun ls hl => ?_)
  refine lv_iconst (v := 0) hx hb dX3_remove_2 (by decide) ?_
  refine lv_istore_n (lv' := [(3, .int 0), (2, .int 0), (0, .ref (x 8)), (1, .ref ar1)]) hx hb dX3_remove_3 rfl hl (by decide) rfl (fun ls hl => ?_)
  refine key4 _ ?_ 1000 ar1 0 0 S0 _ _ _ hF hT ⟨mar1.1, mar1.2⟩ hP hD hS (lv_sub hl [3, 1, 0, 2] rfl)
  intro v2_11 S12 H locs ls hF hT hP hD hS hl
  refine lv_aload_n hx hb dX3_remove_43 rfl (lv_at hl 1 rfl) ?_
  refine lv_iload_n hx hb dX3_remove_44 rfl (lv_at hl 0 rfl) ?_
  refine va_put (D := D) (ci := 3) (v := .int v2_11) (ty := .int) (C := RX3) (T := TX3) (N := 2) hx hb hts iX3_remove_3 tyX3 tyX3_ok nmX3 hown hK hP hD hS 8 rfl rfl 1 (by decide) (hts (.fieldLink RX3 17 "FondsRoom$Line" "size" "I") (List.mem_of_getElem? (i := 1) rfl)) (fun _ h9 => h9) rfl (by decide +kernel) rfl rfl (Nat.le_of_ble_eq_true rfl) dX3_remove_45 (fun H locs hP hD hS => ?_)
  obtain ⟨S13, eS13⟩ : ∃ z, z = wi S12 200 11 v2_11 := ⟨_, rfl⟩
  replace hF := bnd_s hF S13 eS13
  have hP : va_P D vwCl (ZW x cy g S13 ++ va_pl L (pf cy K cf nm S13)) H := by rw [eS13]; rw [show pf cy K cf nm (wi S12 200 11 v2_11) = pf cy K cf nm S12 from pf_200]; exact hP
  have hD : va_D (va_A (ZW x cy g S0 ++ va_pl L (pf cy K cf nm S0)) s.heap.size) (ZW x cy g S13 ++ va_pl L (pf cy K cf nm S13)) := by rw [eS13]; rw [show pf cy K cf nm (wi S12 200 11 v2_11) = pf cy K cf nm S12 from pf_200]; exact hD
  have hT : WT L K S13.2 := by rw [eS13]; exact hT
  have e2 := Option.some.inj hF
  have hP : va_P D vwCl (ZW x cy g Sf ++ va_pl L (pf cy K cf nm Sf)) H := by rw [← e2]; exact hP
  have hD : va_D (va_A (ZW x cy g S0 ++ va_pl L (pf cy K cf nm S0)) s.heap.size) (ZW x cy g Sf ++ va_pl L (pf cy K cf nm Sf)) := by rw [← e2]; exact hD
  have hT : WT L K Sf.2 := by rw [← e2]; exact hT
  exact W.vret hx hb hr (fun t ht hW => ⟨⟨(), rfl, hT, by rw [ht]; exact hP, va_K.moved hW.alike hK, hD⟩, hS.F ht⟩) hS.2.2 dX3_remove_48

set_option maxHeartbeats 8000000 in
set_option maxRecDepth 100000 in
theorem zX3_at_1 (l : Launch) (D : va_G) (x : Nat → Nat) (cy : Nat → ClassId) (g : Nat → Nat → Option Nat) (L : List Nat) (K : Nat → Nat) (cf : Nat → Nat → Nat) (nm : Nat → Int32) (hG : GO L K g) (hL : PL L K cf) (S : CS) (hT : WT L K S.2) (sz : Nat) (ar1 : Int32)  (rv : Option Nat) (hF : gX3_at_1 g cf nm S ar1 = some rv) : Met l yX3_at wsX3_at ({ frames := 0, cells := 0, slots := 0, locals := 0 }) (PW D (TYS cy) (ZW x cy g S ++ va_pl L (pf cy K cf nm S)) sz [.ref (x 10), .int ar1]) (va_Qq (fun (res : Option Nat) (u : Unit) => res = rv ∧ rok L K 6 rv) (BU D (TYS cy) (ZW x cy g S ++ va_pl L (pf cy K cf nm S)) (fun _ => ZW x cy g S ++ va_pl L (pf cy K cf nm S)) sz) (va_A (ZW x cy g S ++ va_pl L (pf cy K cf nm S)) sz)) 0 0 (va_A (ZW x cy g S ++ va_pl L (pf cy K cf nm S)) sz) := by
  refine Met.ofW (cc := cX3_at) (maxL := 2) (ret := (some (.object "FondsRoom$Reader"))) (by decide) rfl ?_
  intro p e s m args below meth c s₁ B hml hv
  obtain ⟨rfl, hsz, hP, hK, hD0⟩ := hv
  have hx := B.exec
  have hb := B.bytes
  have hr := B.returns
  have hts := atoms_spec (ws := wsX3_at) B.pre
  have hown : s.vm.findClass RX3 = some m.cls := findClass_of_methodNamed B.named
  have hlocks := B.notSynchronized
  subst hsz
  have hD := hD0.self (sz := s.heap.size)
  have hA : ∀ q9 : Nat, s.heap.size ≤ q9 → va_A (ZW x cy g S ++ va_pl L (pf cy K cf nm S)) s.heap.size q9 := fun q9 h => Or.inr h
  have hS : va_S (va_A (ZW x cy g S ++ va_pl L (pf cy K cf nm S)) s.heap.size) s.heap s.heap [] := va_S.rf
  have hl := lv_entry ([.ref (x 10), .int ar1]) (n := 2) (Nat.le_of_ble_eq_true rfl)
  rw [lg_entry_eq]
  generalize (lg_sl ([.ref (x 10), .int ar1]) ++ List.replicate (2 - (lg_sl ([.ref (x 10), .int ar1])).length) Slot.unset).toArray = ls at hl ⊢
  have hl : lv_has ls 2 [(0, .ref (x 10)), (1, .int ar1)] := hl
  unfold gX3_at_1 at hF
  refine lv_iload_n hx hb dX3_at_0 rfl (lv_at hl 1 rfl) ?_
  refine lv_if_lt (tgt := 21) hx hb dX3_at_1 (by decide) (fun c1 => ?_) (fun c1 => ?_)
  · skip
    have hF := (if_pos c1).symm.trans hF
    refine lv_null hx hb dX3_at_21 ?_
    have e1 := Option.some.inj hF
    exact W.aret (v := .null) hx hb hr (Or.inl ⟨_, rfl⟩) (Or.inl rfl) (fun t ht hW => ⟨⟨none, (), rfl, ⟨e1, by rw [← e1]; exact rok_none⟩, by rw [ht]; exact hP, va_K.moved hW.alike hK, hD⟩, hS.F ht⟩) hS.2.2 dX3_at_22
  · skip
    have hF := (if_neg c1).symm.trans hF
    refine lv_iload_n hx hb dX3_at_4 rfl (lv_at hl 1 rfl) ?_
    refine lv_aload_n hx hb dX3_at_5 rfl (lv_at hl 0 rfl) ?_
    refine va_get (D := D) (ci := 3) (v := .int (S.1 200 12)) (C := RX3) (T := TX3) (N := 2) hx hb hts iX3_at_3 hown hK hP 10 rfl rfl 1 (by decide) (hts (.fieldLink RX3 17 "FondsRoom$Line" "size" "I") (List.mem_of_getElem? (i := 1) rfl)) (fun _ h9 => h9) rfl dX3_at_6 ?_
    refine lv_icmp_ge (tgt := 21) hx hb dX3_at_9 (by decide) (fun c2 => ?_) (fun c2 => ?_)
    · skip
      have hF := (if_pos c2).symm.trans hF
      refine lv_null hx hb dX3_at_21 ?_
      have e1 := Option.some.inj hF
      exact W.aret (v := .null) hx hb hr (Or.inl ⟨_, rfl⟩) (Or.inl rfl) (fun t ht hW => ⟨⟨none, (), rfl, ⟨e1, by rw [← e1]; exact rok_none⟩, by rw [ht]; exact hP, va_K.moved hW.alike hK, hD⟩, hS.F ht⟩) hS.2.2 dX3_at_22
    · skip
      have hF := (if_neg c2).symm.trans hF
      refine lv_aload_n hx hb dX3_at_12 rfl (lv_at hl 0 rfl) ?_
      refine va_get (D := D) (ci := 3) (v := .ref (x 11)) (C := RX3) (T := TX3) (N := 2) hx hb hts iX3_at_3 hown hK hP 10 rfl rfl 0 (by decide) (hts (.fieldLink RX3 11 "FondsRoom$Line" "places" "[LFondsRoom$Reader;") (List.mem_of_getElem? (i := 2) rfl)) (fun _ h9 => h9) rfl dX3_at_13 ?_
      refine lv_iload_n hx hb dX3_at_16 rfl (lv_at hl 1 rfl) ?_
      obtain ⟨hi3, hF⟩ := lq_s hF
      refine va_aldq hx hb hK hP 11 4 rfl rfl hi3 dX3_at_17 ?_
      obtain ⟨q4, eq4⟩ : ∃ z, z = S.2 206 (ar1 : Int32).toNatClampNeg := ⟨_, rfl⟩
      replace hF := hF q4 eq4
      have hq4 : rok L K 6 q4 := by rw [eq4]; exact hT 206 _
      refine lv_tov (v' := va_rf q4) (by rw [eq4]) ?_
      refine lv_goto (tgt := 22) hx hb dX3_at_18 (by decide) ?_
      have e1 := Option.some.inj hF
      exact W.aret (v := va_rf q4) hx hb hr (Or.inl ⟨_, rfl⟩) (va_rf_or _) (fun t ht hW => ⟨⟨q4, (), rfl, ⟨e1, by rw [← e1]; exact hq4⟩, by rw [ht]; exact hP, va_K.moved hW.alike hK, hD⟩, hS.F ht⟩) hS.2.2 dX3_at_22

set_option maxHeartbeats 8000000 in
set_option maxRecDepth 100000 in
theorem zX3_remove_1 (l : Launch) (D : va_G) (x : Nat → Nat) (cy : Nat → ClassId) (g : Nat → Nat → Option Nat) (L : List Nat) (K : Nat → Nat) (cf : Nat → Nat → Nat) (nm : Nat → Int32) (hG : GO L K g) (hL : PL L K cf) (S0 : CS) (hT : WT L K S0.2) (sz : Nat) (ar1 : Nat) (mar1 : ar1 ∈ L ∧ K ar1 = 6) (Sf : CS) (hF : gX3_remove_1 g cf nm S0 ar1 = some Sf) : Met l yX3_remove wsX3_remove ({ frames := 0, cells := 0, slots := 0, locals := 0 }) (PW D (TYS cy) (ZW x cy g S0 ++ va_pl L (pf cy K cf nm S0)) sz [.ref (x 10), .ref ar1]) (va_Qv (fun (u : Unit) => WT L K Sf.2) (BU D (TYS cy) (ZW x cy g S0 ++ va_pl L (pf cy K cf nm S0)) (fun _ => ZW x cy g Sf ++ va_pl L (pf cy K cf nm Sf)) sz) (va_A (ZW x cy g S0 ++ va_pl L (pf cy K cf nm S0)) sz)) 0 0 (va_A (ZW x cy g S0 ++ va_pl L (pf cy K cf nm S0)) sz) := by
  refine Met.ofW (cc := cX3_remove) (maxL := 4) (ret := none) (by decide) rfl ?_
  intro p e s m args below meth c s₁ B hml hv
  obtain ⟨rfl, hsz, hP, hK, hD0⟩ := hv
  have hx := B.exec
  have hb := B.bytes
  have hr := B.returns
  have hts := atoms_spec (ws := wsX3_remove) B.pre
  have hown : s.vm.findClass RX3 = some m.cls := findClass_of_methodNamed B.named
  have hlocks := B.notSynchronized
  subst hsz
  have hD := hD0.self (sz := s.heap.size)
  have hA : ∀ q9 : Nat, s.heap.size ≤ q9 → va_A (ZW x cy g S0 ++ va_pl L (pf cy K cf nm S0)) s.heap.size q9 := fun q9 h => Or.inr h
  have hS : va_S (va_A (ZW x cy g S0 ++ va_pl L (pf cy K cf nm S0)) s.heap.size) s.heap s.heap [] := va_S.rf
  have key4 : ∀ (KK : Int32 → CS → Option (CS)), (∀ (v2 : Int32) (S : CS) (H : Heap) (locs : List Loc) (ls : Array Slot), KK v2 S = some Sf → WT L K S.2 → va_P D vwCl (ZW x cy g S ++ va_pl L (pf cy K cf nm S)) H → va_D (va_A (ZW x cy g S0 ++ va_pl L (pf cy K cf nm S0)) s.heap.size) (ZW x cy g S ++ va_pl L (pf cy K cf nm S)) → va_S (va_A (ZW x cy g S0 ++ va_pl L (pf cy K cf nm S0)) s.heap.size) s.heap H locs → lv_has ls 4 [(2, .int v2), (0, .ref (x 10))] → W p l e (headSpec wsX3_remove ({ frames := 0, cells := 0, slots := 0, locals := 0 })).room s m #[.ref (x 10), .ref ar1] below meth c H locs 0 0 (MQ below (va_Qv (fun (u : Unit) => WT L K Sf.2) (BU D (TYS cy) (ZW x cy g S0 ++ va_pl L (pf cy K cf nm S0)) (fun _ => ZW x cy g Sf ++ va_pl L (pf cy K cf nm Sf)) s.heap.size) (va_A (ZW x cy g S0 ++ va_pl L (pf cy K cf nm S0)) s.heap.size)) #[.ref (x 10), .ref ar1] s 0 0 (va_A (ZW x cy g S0 ++ va_pl L (pf cy K cf nm S0)) s.heap.size)) (F0 m 43 ls [])) → ∀ (fu : Nat) (v1 : Nat) (v2 : Int32) (v3 : Int32) (S : CS) (H : Heap) (locs : List Loc) (ls : Array Slot), gX3_remove_1_4 g cf nm KK fu v1 v2 v3 S = some Sf → WT L K S.2 → (v1 ∈ L ∧ K v1 = 6) → va_P D vwCl (ZW x cy g S ++ va_pl L (pf cy K cf nm S)) H → va_D (va_A (ZW x cy g S0 ++ va_pl L (pf cy K cf nm S0)) s.heap.size) (ZW x cy g S ++ va_pl L (pf cy K cf nm S)) → va_S (va_A (ZW x cy g S0 ++ va_pl L (pf cy K cf nm S0)) s.heap.size) s.heap H locs → lv_has ls 4 [(1, .ref v1), (2, .int v2), (3, .int v3), (0, .ref (x 10))] → W p l e (headSpec wsX3_remove ({ frames := 0, cells := 0, slots := 0, locals := 0 })).room s m #[.ref (x 10), .ref ar1] below meth c H locs 0 0 (MQ below (va_Qv (fun (u : Unit) => WT L K Sf.2) (BU D (TYS cy) (ZW x cy g S0 ++ va_pl L (pf cy K cf nm S0)) (fun _ => ZW x cy g Sf ++ va_pl L (pf cy K cf nm Sf)) s.heap.size) (va_A (ZW x cy g S0 ++ va_pl L (pf cy K cf nm S0)) s.heap.size)) #[.ref (x 10), .ref ar1] s 0 0 (va_A (ZW x cy g S0 ++ va_pl L (pf cy K cf nm S0)) s.heap.size)) (F0 m 4 ls []) := by
    intro KK hKK fu
    induction fu with
    | zero =>
      intro v1 v2 v3 S H locs ls hF
      exact absurd (show (none : Option (CS)) = some Sf from hF) (by simp)
    | succ fu4 ih4 =>
      intro v1 v2 v3 S H locs ls hF hT mv1 hP hD hS hl
      rw [gX3_remove_1_4] at hF
      refine lv_iload_n hx hb dX3_remove_4 rfl (lv_at hl 2 rfl) ?_
      refine lv_aload_n hx hb dX3_remove_5 rfl (lv_at hl 3 rfl) ?_
      refine va_get (D := D) (ci := 3) (v := .int (S.1 200 12)) (C := RX3) (T := TX3) (N := 2) hx hb hts iX3_remove_3 hown hK hP 10 rfl rfl 1 (by decide) (hts (.fieldLink RX3 17 "FondsRoom$Line" "size" "I") (List.mem_of_getElem? (i := 1) rfl)) (fun _ h9 => h9) rfl dX3_remove_6 ?_
      refine lv_icmp_ge (tgt := 43) hx hb dX3_remove_9 (by decide) (fun c1 => ?_) (fun c1 => ?_)
      · skip
        have hF := (if_pos c1).symm.trans hF
        exact hKK v2 S _ _ _ hF hT hP hD hS (lv_sub hl [1, 3] rfl)
      · skip
        have hF := (if_neg c1).symm.trans hF
        refine lv_aload_n hx hb dX3_remove_12 rfl (lv_at hl 3 rfl) ?_
        refine va_get (D := D) (ci := 3) (v := .ref (x 11)) (C := RX3) (T := TX3) (N := 2) hx hb hts iX3_remove_3 hown hK hP 10 rfl rfl 0 (by decide) (hts (.fieldLink RX3 11 "FondsRoom$Line" "places" "[LFondsRoom$Reader;") (List.mem_of_getElem? (i := 2) rfl)) (fun _ h9 => h9) rfl dX3_remove_13 ?_
        refine lv_iload_n hx hb dX3_remove_16 rfl (lv_at hl 2 rfl) ?_
        obtain ⟨hi2, hF⟩ := lq_s hF
        refine va_aldq hx hb hK hP 11 4 rfl rfl hi2 dX3_remove_17 ?_
        obtain ⟨q3, eq3⟩ : ∃ z, z = S.2 206 (v3 : Int32).toNatClampNeg := ⟨_, rfl⟩
        replace hF := hF q3 eq3
        have hq3 : rok L K 6 q3 := by rw [eq3]; exact hT 206 _
        refine lv_tov (v' := va_rf q3) (by rw [eq3]) ?_
        refine lv_aload_n hx hb dX3_remove_18 rfl (lv_at hl 0 rfl) ?_
        refine lv_acmp_eq (rx := q3) (ry := (some v1)) (tgt := 37) hx hb dX3_remove_19 (by decide) (fun c4 => ?_) (fun c4 => ?_)
        · skip
          have hF := (if_pos c4).symm.trans hF
          refine lv_iinc (v := v3 + 1) (lv' := [(3, .int (v3 + 1)), (1, .ref v1), (2, .int v2), (0, .ref (x 10))]) hx hb dX3_remove_37 hl (k := 2) rfl rfl (by decide) rfl (fun ls hl => ?_)
          refine lv_goto (tgt := 4) hx hb dX3_remove_40 (by decide) ?_
          exact ih4 v1 v2 (v3 + 1) S _ _ _ hF hT ⟨mv1.1, mv1.2⟩ hP hD hS (lv_sub hl [1, 2, 0, 3] rfl)
        · skip
          have hF := (if_neg c4).symm.trans hF
          refine lv_aload_n hx hb dX3_remove_22 rfl (lv_at hl 3 rfl) ?_
          refine va_get (D := D) (ci := 3) (v := .ref (x 11)) (C := RX3) (T := TX3) (N := 2) hx hb hts iX3_remove_3 hown hK hP 10 rfl rfl 0 (by decide) (hts (.fieldLink RX3 11 "FondsRoom$Line" "places" "[LFondsRoom$Reader;") (List.mem_of_getElem? (i := 2) rfl)) (fun _ h9 => h9) rfl dX3_remove_23 ?_
          refine lv_iload_n hx hb dX3_remove_26 rfl (lv_at hl 1 rfl) ?_
          refine lv_aload_n hx hb dX3_remove_27 rfl (lv_at hl 3 rfl) ?_
          refine va_get (D := D) (ci := 3) (v := .ref (x 11)) (C := RX3) (T := TX3) (N := 2) hx hb hts iX3_remove_3 hown hK hP 10 rfl rfl 0 (by decide) (hts (.fieldLink RX3 11 "FondsRoom$Line" "places" "[LFondsRoom$Reader;") (List.mem_of_getElem? (i := 2) rfl)) (fun _ h9 => h9) rfl dX3_remove_28 ?_
          refine lv_iload_n hx hb dX3_remove_31 rfl (lv_at hl 2 rfl) ?_
          obtain ⟨hi5, hF⟩ := lq_s hF
          refine va_aldq hx hb hK hP 11 4 rfl rfl hi5 dX3_remove_32 ?_
          obtain ⟨q6, eq6⟩ : ∃ z, z = S.2 206 (v3 : Int32).toNatClampNeg := ⟨_, rfl⟩
          replace hF := hF q6 eq6
          have hq6 : rok L K 6 q6 := by rw [eq6]; exact hT 206 _
          refine lv_tov (v' := va_rf q6) (by rw [eq6]) ?_
          obtain ⟨b7, eb7, hF9⟩ := sm_s hF
          clear hF
          have hF := hF9
          clear hF9
          subst eb7
          have mb7 := hq6 b7 rfl
          have hl : lv_has ls 4 [(1, .ref v1), (2, .int v2), (3, .int v3), (0, .ref (x 10))] := hl
          refine W.eq (g2 := F0 m 33 ls [.ref b7, .int v2, .ref (x 11)]) rfl ?_
          obtain ⟨hi8, hF⟩ := sq_s hF
          obtain ⟨qk9, hqk9⟩ := va_pl_get (X := ZW x cy g S) (f := pf cy K cf nm S) mb7.1
          rw [pf_6 mb7.2] at hqk9
          refine va_astq hx hb hK hP hD hS 11 4 qk9 6 rfl rfl hqk9 rfl hi8 dX3_remove_33 (fun H locs hP hD hS => ?_)
          obtain ⟨S10, eS10⟩ : ∃ z, z = wq S 206 (v2 : Int32).toNatClampNeg (some b7) := ⟨_, rfl⟩
          replace hF := hF S10 eS10
          have hP : va_P D vwCl (ZW x cy g S10 ++ va_pl L (pf cy K cf nm S10)) H := by rw [eS10]; rw [show pf cy K cf nm (wq S 206 (v2 : Int32).toNatClampNeg (some b7)) = pf cy K cf nm S from pf_206]; exact hP
          have hD : va_D (va_A (ZW x cy g S0 ++ va_pl L (pf cy K cf nm S0)) s.heap.size) (ZW x cy g S10 ++ va_pl L (pf cy K cf nm S10)) := by rw [eS10]; rw [show pf cy K cf nm (wq S 206 (v2 : Int32).toNatClampNeg (some b7)) = pf cy K cf nm S from pf_206]; exact hD
          have hT : WT L K S10.2 := by rw [eS10]; exact WT_up hT 206 _ (rok_some mb7.1 mb7.2)
          refine lv_iinc (v := v2 + 1) (lv' := [(2, .int (v2 + 1)), (1, .ref v1), (3, .int v3), (0, .ref (x 10))]) hx hb dX3_remove_34 hl (k := 1) rfl rfl (by decide) rfl (fun ls hl => ?_)
          refine lv_iinc (v := v3 + 1) (lv' := [(3, .int (v3 + 1)), (2, .int (v2 + 1)), (1, .ref v1), (0, .ref (x 10))]) hx hb dX3_remove_37 hl (k := 2) rfl rfl (by decide) rfl (fun ls hl => ?_)
          refine lv_goto (tgt := 4) hx hb dX3_remove_40 (by decide) ?_
          exact ih4 v1 (v2 + 1) (v3 + 1) S10 _ _ _ hF hT ⟨mv1.1, mv1.2⟩ hP hD hS (lv_sub hl [2, 1, 0, 3] rfl)
  have hl := lv_entry ([.ref (x 10), .ref ar1]) (n := 4) (Nat.le_of_ble_eq_true rfl)
  rw [lg_entry_eq]
  generalize (lg_sl ([.ref (x 10), .ref ar1]) ++ List.replicate (4 - (lg_sl ([.ref (x 10), .ref ar1])).length) Slot.unset).toArray = ls at hl ⊢
  have hl : lv_has ls 4 [(0, .ref (x 10)), (1, .ref ar1)] := hl
  unfold gX3_remove_1 at hF
  refine lv_iconst (v := 0) hx hb dX3_remove_0 (by decide) ?_
  refine lv_istore_n (lv' := [(2, .int 0), (0, .ref (x 10)), (1, .ref ar1)]) hx hb dX3_remove_1 rfl hl (by decide) rfl (fun ls hl => ?_)
  refine lv_iconst (v := 0) hx hb dX3_remove_2 (by decide) ?_
  refine lv_istore_n (lv' := [(3, .int 0), (2, .int 0), (0, .ref (x 10)), (1, .ref ar1)]) hx hb dX3_remove_3 rfl hl (by decide) rfl (fun ls hl => ?_)
  refine key4 _ ?_ 1000 ar1 0 0 S0 _ _ _ hF hT ⟨mar1.1, mar1.2⟩ hP hD hS (lv_sub hl [3, 1, 0, 2] rfl)
  intro v2_11 S12 H locs ls hF hT hP hD hS hl
  refine lv_aload_n hx hb dX3_remove_43 rfl (lv_at hl 1 rfl) ?_
  refine lv_iload_n hx hb dX3_remove_44 rfl (lv_at hl 0 rfl) ?_
  refine va_put (D := D) (ci := 3) (v := .int v2_11) (ty := .int) (C := RX3) (T := TX3) (N := 2) hx hb hts iX3_remove_3 tyX3 tyX3_ok nmX3 hown hK hP hD hS 10 rfl rfl 1 (by decide) (hts (.fieldLink RX3 17 "FondsRoom$Line" "size" "I") (List.mem_of_getElem? (i := 1) rfl)) (fun _ h9 => h9) rfl (by decide +kernel) rfl rfl (Nat.le_of_ble_eq_true rfl) dX3_remove_45 (fun H locs hP hD hS => ?_)
  obtain ⟨S13, eS13⟩ : ∃ z, z = wi S12 200 12 v2_11 := ⟨_, rfl⟩
  replace hF := bnd_s hF S13 eS13
  have hP : va_P D vwCl (ZW x cy g S13 ++ va_pl L (pf cy K cf nm S13)) H := by rw [eS13]; rw [show pf cy K cf nm (wi S12 200 12 v2_11) = pf cy K cf nm S12 from pf_200]; exact hP
  have hD : va_D (va_A (ZW x cy g S0 ++ va_pl L (pf cy K cf nm S0)) s.heap.size) (ZW x cy g S13 ++ va_pl L (pf cy K cf nm S13)) := by rw [eS13]; rw [show pf cy K cf nm (wi S12 200 12 v2_11) = pf cy K cf nm S12 from pf_200]; exact hD
  have hT : WT L K S13.2 := by rw [eS13]; exact hT
  have e2 := Option.some.inj hF
  have hP : va_P D vwCl (ZW x cy g Sf ++ va_pl L (pf cy K cf nm Sf)) H := by rw [← e2]; exact hP
  have hD : va_D (va_A (ZW x cy g S0 ++ va_pl L (pf cy K cf nm S0)) s.heap.size) (ZW x cy g Sf ++ va_pl L (pf cy K cf nm Sf)) := by rw [← e2]; exact hD
  have hT : WT L K Sf.2 := by rw [← e2]; exact hT
  exact W.vret hx hb hr (fun t ht hW => ⟨⟨(), rfl, hT, by rw [ht]; exact hP, va_K.moved hW.alike hK, hD⟩, hS.F ht⟩) hS.2.2 dX3_remove_48

theorem iX3_append_3 : ∀ w ∈ wsX30, w ∈ wsX3_append := fun _ h => List.mem_cons_of_mem _ (List.mem_append_right _ h)
set_option maxHeartbeats 8000000 in
set_option maxRecDepth 100000 in
theorem zX3_append_1 (l : Launch) (D : va_G) (x : Nat → Nat) (cy : Nat → ClassId) (g : Nat → Nat → Option Nat) (L : List Nat) (K : Nat → Nat) (cf : Nat → Nat → Nat) (nm : Nat → Int32) (hG : GO L K g) (hL : PL L K cf) (S0 : CS) (hT : WT L K S0.2) (sz : Nat) (ar1 : Nat) (mar1 : ar1 ∈ L ∧ K ar1 = 6) (Sf : CS) (hF : gX3_append_1 g cf nm S0 ar1 = some Sf) : Met l yX3_append wsX3_append ({ frames := 0, cells := 0, slots := 0, locals := 0 }) (PW D (TYS cy) (ZW x cy g S0 ++ va_pl L (pf cy K cf nm S0)) sz [.ref (x 10), .ref ar1]) (va_Qv (fun (u : Unit) => WT L K Sf.2) (BU D (TYS cy) (ZW x cy g S0 ++ va_pl L (pf cy K cf nm S0)) (fun _ => ZW x cy g Sf ++ va_pl L (pf cy K cf nm Sf)) sz) (va_A (ZW x cy g S0 ++ va_pl L (pf cy K cf nm S0)) sz)) 0 0 (va_A (ZW x cy g S0 ++ va_pl L (pf cy K cf nm S0)) sz) := by
  refine Met.ofW (cc := cX3_append) (maxL := 2) (ret := none) (by decide) rfl ?_
  intro p e s m args below meth c s₁ B hml hv
  obtain ⟨rfl, hsz, hP, hK, hD0⟩ := hv
  have hx := B.exec
  have hb := B.bytes
  have hr := B.returns
  have hts := atoms_spec (ws := wsX3_append) B.pre
  have hown : s.vm.findClass RX3 = some m.cls := findClass_of_methodNamed B.named
  have hlocks := B.notSynchronized
  subst hsz
  have hD := hD0.self (sz := s.heap.size)
  have hA : ∀ q9 : Nat, s.heap.size ≤ q9 → va_A (ZW x cy g S0 ++ va_pl L (pf cy K cf nm S0)) s.heap.size q9 := fun q9 h => Or.inr h
  have hS : va_S (va_A (ZW x cy g S0 ++ va_pl L (pf cy K cf nm S0)) s.heap.size) s.heap s.heap [] := va_S.rf
  have hl := lv_entry ([.ref (x 10), .ref ar1]) (n := 2) (Nat.le_of_ble_eq_true rfl)
  rw [lg_entry_eq]
  generalize (lg_sl ([.ref (x 10), .ref ar1]) ++ List.replicate (2 - (lg_sl ([.ref (x 10), .ref ar1])).length) Slot.unset).toArray = ls at hl ⊢
  have hl : lv_has ls 2 [(0, .ref (x 10)), (1, .ref ar1)] := hl
  unfold gX3_append_1 at hF
  refine lv_aload_n hx hb dX3_append_0 rfl (lv_at hl 0 rfl) ?_
  refine va_get (D := D) (ci := 3) (v := .int (S0.1 200 12)) (C := RX3) (T := TX3) (N := 2) hx hb hts iX3_append_3 hown hK hP 10 rfl rfl 1 (by decide) (hts (.fieldLink RX3 17 "FondsRoom$Line" "size" "I") (List.mem_of_getElem? (i := 1) rfl)) (fun _ h9 => h9) rfl dX3_append_1 ?_
  refine lv_bipush (v := 20) hx hb dX3_append_4 (by decide) ?_
  refine lv_icmp_ge (tgt := 29) hx hb dX3_append_6 (by decide) (fun c1 => ?_) (fun c1 => ?_)
  · skip
    have hF := (if_pos c1).symm.trans hF
    have e2 := Option.some.inj hF
    have hP : va_P D vwCl (ZW x cy g Sf ++ va_pl L (pf cy K cf nm Sf)) s.heap := by rw [← e2]; exact hP
    have hD : va_D (va_A (ZW x cy g S0 ++ va_pl L (pf cy K cf nm S0)) s.heap.size) (ZW x cy g Sf ++ va_pl L (pf cy K cf nm Sf)) := by rw [← e2]; exact hD
    have hT : WT L K Sf.2 := by rw [← e2]; exact hT
    exact W.vret hx hb hr (fun t ht hW => ⟨⟨(), rfl, hT, by rw [ht]; exact hP, va_K.moved hW.alike hK, hD⟩, hS.F ht⟩) hS.2.2 dX3_append_29
  · skip
    have hF := (if_neg c1).symm.trans hF
    refine lv_aload_n hx hb dX3_append_9 rfl (lv_at hl 0 rfl) ?_
    refine va_get (D := D) (ci := 3) (v := .ref (x 11)) (C := RX3) (T := TX3) (N := 2) hx hb hts iX3_append_3 hown hK hP 10 rfl rfl 0 (by decide) (hts (.fieldLink RX3 11 "FondsRoom$Line" "places" "[LFondsRoom$Reader;") (List.mem_of_getElem? (i := 2) rfl)) (fun _ h9 => h9) rfl dX3_append_10 ?_
    refine lv_aload_n hx hb dX3_append_13 rfl (lv_at hl 0 rfl) ?_
    refine va_get (D := D) (ci := 3) (v := .int (S0.1 200 12)) (C := RX3) (T := TX3) (N := 2) hx hb hts iX3_append_3 hown hK hP 10 rfl rfl 1 (by decide) (hts (.fieldLink RX3 17 "FondsRoom$Line" "size" "I") (List.mem_of_getElem? (i := 1) rfl)) (fun _ h9 => h9) rfl dX3_append_14 ?_
    refine lv_aload_n hx hb dX3_append_17 rfl (lv_at hl 1 rfl) ?_
    obtain ⟨hi2, hF⟩ := sq_s hF
    obtain ⟨qk3, hqk3⟩ := va_pl_get (X := ZW x cy g S0) (f := pf cy K cf nm S0) mar1.1
    rw [pf_6 mar1.2] at hqk3
    refine va_astq hx hb hK hP hD hS 11 4 qk3 6 rfl rfl hqk3 rfl hi2 dX3_append_18 (fun H locs hP hD hS => ?_)
    obtain ⟨S4, eS4⟩ : ∃ z, z = wq S0 206 ((S0.1 200 12) : Int32).toNatClampNeg (some ar1) := ⟨_, rfl⟩
    replace hF := hF S4 eS4
    have hP : va_P D vwCl (ZW x cy g S4 ++ va_pl L (pf cy K cf nm S4)) H := by rw [eS4]; rw [show pf cy K cf nm (wq S0 206 ((S0.1 200 12) : Int32).toNatClampNeg (some ar1)) = pf cy K cf nm S0 from pf_206]; exact hP
    have hD : va_D (va_A (ZW x cy g S0 ++ va_pl L (pf cy K cf nm S0)) s.heap.size) (ZW x cy g S4 ++ va_pl L (pf cy K cf nm S4)) := by rw [eS4]; rw [show pf cy K cf nm (wq S0 206 ((S0.1 200 12) : Int32).toNatClampNeg (some ar1)) = pf cy K cf nm S0 from pf_206]; exact hD
    have hT : WT L K S4.2 := by rw [eS4]; exact WT_up hT 206 _ (rok_some mar1.1 mar1.2)
    refine lv_aload_n hx hb dX3_append_19 rfl (lv_at hl 0 rfl) ?_
    refine lv_dup hx hb dX3_append_20 rfl ?_
    refine va_get (D := D) (ci := 3) (v := .int (S4.1 200 12)) (C := RX3) (T := TX3) (N := 2) hx hb hts iX3_append_3 hown hK hP 10 rfl rfl 1 (by decide) (hts (.fieldLink RX3 17 "FondsRoom$Line" "size" "I") (List.mem_of_getElem? (i := 1) rfl)) (fun _ h9 => h9) rfl dX3_append_21 ?_
    refine lv_iconst (v := 1) hx hb dX3_append_24 (by decide) ?_
    refine lv_iadd hx hb dX3_append_25 ?_
    refine va_put (D := D) (ci := 3) (v := .int ((S4.1 200 12) + 1)) (ty := .int) (C := RX3) (T := TX3) (N := 2) hx hb hts iX3_append_3 tyX3 tyX3_ok nmX3 hown hK hP hD hS 10 rfl rfl 1 (by decide) (hts (.fieldLink RX3 17 "FondsRoom$Line" "size" "I") (List.mem_of_getElem? (i := 1) rfl)) (fun _ h9 => h9) rfl (by decide +kernel) rfl rfl (Nat.le_of_ble_eq_true rfl) dX3_append_26 (fun H locs hP hD hS => ?_)
    obtain ⟨S5, eS5⟩ : ∃ z, z = wi S4 200 12 ((S4.1 200 12) + 1) := ⟨_, rfl⟩
    replace hF := bnd_s hF S5 eS5
    have hP : va_P D vwCl (ZW x cy g S5 ++ va_pl L (pf cy K cf nm S5)) H := by rw [eS5]; rw [show pf cy K cf nm (wi S4 200 12 ((S4.1 200 12) + 1)) = pf cy K cf nm S4 from pf_200]; exact hP
    have hD : va_D (va_A (ZW x cy g S0 ++ va_pl L (pf cy K cf nm S0)) s.heap.size) (ZW x cy g S5 ++ va_pl L (pf cy K cf nm S5)) := by rw [eS5]; rw [show pf cy K cf nm (wi S4 200 12 ((S4.1 200 12) + 1)) = pf cy K cf nm S4 from pf_200]; exact hD
    have hT : WT L K S5.2 := by rw [eS5]; exact hT
    have e2 := Option.some.inj hF
    have hP : va_P D vwCl (ZW x cy g Sf ++ va_pl L (pf cy K cf nm Sf)) H := by rw [← e2]; exact hP
    have hD : va_D (va_A (ZW x cy g S0 ++ va_pl L (pf cy K cf nm S0)) s.heap.size) (ZW x cy g Sf ++ va_pl L (pf cy K cf nm Sf)) := by rw [← e2]; exact hD
    have hT : WT L K Sf.2 := by rw [← e2]; exact hT
    exact W.vret hx hb hr (fun t ht hW => ⟨⟨(), rfl, hT, by rw [ht]; exact hP, va_K.moved hW.alike hK, hD⟩, hS.F ht⟩) hS.2.2 dX3_append_29
