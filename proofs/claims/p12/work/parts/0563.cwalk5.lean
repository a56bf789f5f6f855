set_option maxHeartbeats 8000000 in
set_option maxRecDepth 100000 in
theorem zX9_copy (l : Launch) (D : va_G) (x : Nat → Nat) (cy : Nat → ClassId) (g : Nat → Nat → Option Nat) (L : List Nat) (K : Nat → Nat) (cf : Nat → Nat → Nat) (nm : Nat → Int32) (hG : GO L K g) (hL : PL L K cf) (S0 : CS) (hT : WT L K S0.2) (sz : Nat) (ar1 : Int32) (ar2 : Int32) (ar3 : Int32) (ar4 : Int32)  (rv : Int32) (Sf : CS) (hF : gX9_copy g cf nm S0 ar1 ar2 ar3 ar4 = some (rv, Sf)) : Met l yX9_copy wsX9_copy ({ frames := 2, cells := 0, slots := 0, locals := 49 }) (PW D (TYS cy) (ZW x cy g S0 ++ va_pl L (pf cy K cf nm S0)) sz [.ref (x 0), .int ar1, .int ar2, .int ar3, .int ar4]) (va_Qi (fun (res : Int32) (u : Unit) => (res = rv ∧ b01 rv) ∧ WT L K Sf.2) (BU D (TYS cy) (ZW x cy g S0 ++ va_pl L (pf cy K cf nm S0)) (fun _ => ZW x cy g Sf ++ va_pl L (pf cy K cf nm Sf)) sz) (va_A (ZW x cy g S0 ++ va_pl L (pf cy K cf nm S0)) sz)) 0 0 (va_A (ZW x cy g S0 ++ va_pl L (pf cy K cf nm S0)) sz) := by
  refine Met.ofW (cc := cX9_copy) (maxL := 5) (ret := (some .boolean)) (by decide) rfl ?_
  intro p e s m args below meth c s₁ B hml hv
  obtain ⟨rfl, hsz, hP, hK, hD0⟩ := hv
  have hx := B.exec
  have hb := B.bytes
  have hr := B.returns
  have hts := atoms_spec (ws := wsX9_copy) B.pre
  have hown : s.vm.findClass RX9 = some m.cls := findClass_of_methodNamed B.named
  have hlocks := B.notSynchronized
  subst hsz
  have hD := hD0.self (sz := s.heap.size)
  have hA : ∀ q9 : Nat, s.heap.size ≤ q9 → va_A (ZW x cy g S0 ++ va_pl L (pf cy K cf nm S0)) s.heap.size q9 := fun q9 h => Or.inr h
  have hS : va_S (va_A (ZW x cy g S0 ++ va_pl L (pf cy K cf nm S0)) s.heap.size) s.heap s.heap [] := va_S.rf
  have hl := lv_entry ([.ref (x 0), .int ar1, .int ar2, .int ar3, .int ar4]) (n := 5) (Nat.le_of_ble_eq_true rfl)
  rw [lg_entry_eq]
  generalize (lg_sl ([.ref (x 0), .int ar1, .int ar2, .int ar3, .int ar4]) ++ List.replicate (5 - (lg_sl ([.ref (x 0), .int ar1, .int ar2, .int ar3, .int ar4])).length) Slot.unset).toArray = ls at hl ⊢
  have hl : lv_has ls 5 [(0, .ref (x 0)), (1, .int ar1), (2, .int ar2), (3, .int ar3), (4, .int ar4)] := hl
  unfold gX9_copy at hF
  refine lv_aload_n hx hb dX9_copy_0 rfl (lv_at hl 0 rfl) ?_
  refine lv_iload_n hx hb dX9_copy_1 rfl (lv_at hl 2 rfl) ?_
  obtain ⟨r1, hq4, hF⟩ := bd1_s hF
  refine gvI (As := [.int ar2]) (rest := []) ⟨hx, hb, hml, hown, hts⟩ (zX9_isBox l D x cy g L K cf nm hG hL S0 hT _ ar2  r1 hq4) (cwV 1 hts gX9_copy_X9_isBox rfl rfl rfl (by decide +kernel) ⟨Nat.le_of_ble_eq_true rfl, Nat.le_of_ble_eq_true rfl⟩) hK hP hD hS hA (va_recv hK hP (ci := 9) (q0 := 0) rfl rfl) rfl hl.1 rfl (Nat.le_of_ble_eq_true rfl) dX9_copy_2 ⟨Nat.le_of_ble_eq_true rfl, Nat.le_of_ble_eq_true rfl⟩ (fun a5 u9 H locs hw3 hP hD hS => ?_)
  have hP : va_P D vwCl (ZW x cy g S0 ++ va_pl L (pf cy K cf nm S0)) H := hP
  have hD : va_D _ (ZW x cy g S0 ++ va_pl L (pf cy K cf nm S0)) := hD
  refine lv_tov (v' := .int r1) (congrArg Value.int hw3.1) ?_
  refine lv_if_eq (tgt := 35) hx hb dX9_copy_5 (by decide) (fun c6 => ?_) (fun c6 => ?_)
  · skip
    have hF := (if_pos c6).symm.trans hF
    refine lv_iconst (v := 0) hx hb dX9_copy_35 (by decide) ?_
    obtain ⟨e1, e2⟩ := ret2 hF
    have hP : va_P D vwCl (ZW x cy g Sf ++ va_pl L (pf cy K cf nm Sf)) H := by rw [← e2]; exact hP
    have hD : va_D (va_A (ZW x cy g S0 ++ va_pl L (pf cy K cf nm S0)) s.heap.size) (ZW x cy g Sf ++ va_pl L (pf cy K cf nm Sf)) := by rw [← e2]; exact hD
    have hT : WT L K Sf.2 := by rw [← e2]; exact hT
    exact W.zret (v := 0) hx hb hr (nz01 (Or.inl rfl)).1 (fun t ht hW => ⟨⟨0, (), rfl, ⟨⟨e1, by rw [← e1]; exact Or.inl rfl⟩, hT⟩, by rw [ht]; exact hP, va_K.moved hW.alike hK, hD⟩, hS.F ht⟩) hS.2.2 dX9_copy_36
  · skip
    have hF := (if_neg c6).symm.trans hF
    refine lv_iload_n hx hb dX9_copy_8 rfl (lv_at hl 3 rfl) ?_
    refine lv_iconst (v := 1) hx hb dX9_copy_9 (by decide) ?_
    refine lv_bipush (v := 30) hx hb dX9_copy_10 (by decide) ?_
    obtain ⟨r7, hq10, hF⟩ := bd1_s hF
    refine gsI (As := [.int ar3, .int 1, .int 30]) (rest := []) ⟨hx, hb, hml, hown, hts⟩ (zX9_isWithin l D x cy g L K cf nm hG hL S0 hT _ ar3 1 30  r7 hq10) (va_cwS 3 hts gX9_copy_X9_isWithin rfl rfl rfl (by decide +kernel) ⟨Nat.le_of_ble_eq_true rfl, Nat.le_of_ble_eq_true rfl⟩) hK hP hD hS hA rfl hl.1 rfl (Nat.le_of_ble_eq_true rfl) dX9_copy_12 ⟨Nat.le_of_ble_eq_true rfl, Nat.le_of_ble_eq_true rfl⟩ (fun a11 u9 H locs hw9 hP hD hS => ?_)
    have hP : va_P D vwCl (ZW x cy g S0 ++ va_pl L (pf cy K cf nm S0)) H := hP
    have hD : va_D _ (ZW x cy g S0 ++ va_pl L (pf cy K cf nm S0)) := hD
    refine lv_tov (v' := .int r7) (congrArg Value.int hw9.1) ?_
    refine lv_if_eq (tgt := 35) hx hb dX9_copy_15 (by decide) (fun c12 => ?_) (fun c12 => ?_)
    · skip
      have hF := (if_pos c12).symm.trans hF
      refine lv_iconst (v := 0) hx hb dX9_copy_35 (by decide) ?_
      obtain ⟨e1, e2⟩ := ret2 hF
      have hP : va_P D vwCl (ZW x cy g Sf ++ va_pl L (pf cy K cf nm Sf)) H := by rw [← e2]; exact hP
      have hD : va_D (va_A (ZW x cy g S0 ++ va_pl L (pf cy K cf nm S0)) s.heap.size) (ZW x cy g Sf ++ va_pl L (pf cy K cf nm Sf)) := by rw [← e2]; exact hD
      have hT : WT L K Sf.2 := by rw [← e2]; exact hT
      exact W.zret (v := 0) hx hb hr (nz01 (Or.inl rfl)).1 (fun t ht hW => ⟨⟨0, (), rfl, ⟨⟨e1, by rw [← e1]; exact Or.inl rfl⟩, hT⟩, by rw [ht]; exact hP, va_K.moved hW.alike hK, hD⟩, hS.F ht⟩) hS.2.2 dX9_copy_36
    · skip
      have hF := (if_neg c12).symm.trans hF
      refine lv_aload_n hx hb dX9_copy_18 rfl (lv_at hl 0 rfl) ?_
      refine lv_iload_n hx hb dX9_copy_19 rfl (lv_at hl 1 rfl) ?_
      refine lv_iconst (v := 2) hx hb dX9_copy_20 (by decide) ?_
      refine lv_iload_n hx hb dX9_copy_21 rfl (lv_at hl 2 rfl) ?_
      refine lv_iload_n hx hb dX9_copy_22 rfl (lv_at hl 3 rfl) ?_
      refine lv_iload hx hb dX9_copy_23 (lv_at hl 4 rfl) ?_
      obtain ⟨r13, S14, hq16, hF⟩ := bd2_s hF
      refine gvI (As := [.int ar1, .int 2, .int ar2, .int ar3, .int ar4]) (rest := []) ⟨hx, hb, hml, hown, hts⟩ (zX9_addStep l D x cy g L K cf nm hG hL S0 hT _ ar1 2 ar2 ar3 ar4  r13 S14 hq16) (cwV 5 hts gX9_copy_X9_addStep rfl rfl rfl (by decide +kernel) ⟨Nat.le_of_ble_eq_true rfl, Nat.le_of_ble_eq_true rfl⟩) hK hP hD hS hA (va_recv hK hP (ci := 9) (q0 := 0) rfl rfl) rfl hl.1 rfl (Nat.le_of_ble_eq_true rfl) dX9_copy_25 ⟨Nat.le_of_ble_eq_true rfl, Nat.le_of_ble_eq_true rfl⟩ (fun a17 u9 H locs hw15 hP hD hS => ?_)
      have hT : WT L K S14.2 := hw15.2
      have hP : va_P D vwCl (ZW x cy g S14 ++ va_pl L (pf cy K cf nm S14)) H := hP
      have hD : va_D _ (ZW x cy g S14 ++ va_pl L (pf cy K cf nm S14)) := hD
      refine lv_tov (v' := .int r13) (congrArg Value.int hw15.1.1) ?_
      refine lv_if_eq (tgt := 35) hx hb dX9_copy_28 (by decide) (fun c18 => ?_) (fun c18 => ?_)
      · skip
        have hF := (if_pos c18).symm.trans hF
        refine lv_iconst (v := 0) hx hb dX9_copy_35 (by decide) ?_
        obtain ⟨e1, e2⟩ := ret2 hF
        have hP : va_P D vwCl (ZW x cy g Sf ++ va_pl L (pf cy K cf nm Sf)) H := by rw [← e2]; exact hP
        have hD : va_D (va_A (ZW x cy g S0 ++ va_pl L (pf cy K cf nm S0)) s.heap.size) (ZW x cy g Sf ++ va_pl L (pf cy K cf nm Sf)) := by rw [← e2]; exact hD
        have hT : WT L K Sf.2 := by rw [← e2]; exact hT
        exact W.zret (v := 0) hx hb hr (nz01 (Or.inl rfl)).1 (fun t ht hW => ⟨⟨0, (), rfl, ⟨⟨e1, by rw [← e1]; exact Or.inl rfl⟩, hT⟩, by rw [ht]; exact hP, va_K.moved hW.alike hK, hD⟩, hS.F ht⟩) hS.2.2 dX9_copy_36
      · skip
        have hF := (if_neg c18).symm.trans hF
        refine lv_iconst (v := 1) hx hb dX9_copy_31 (by decide) ?_
        refine lv_goto (tgt := 36) hx hb dX9_copy_32 (by decide) ?_
        obtain ⟨e1, e2⟩ := ret2 hF
        have hP : va_P D vwCl (ZW x cy g Sf ++ va_pl L (pf cy K cf nm Sf)) H := by rw [← e2]; exact hP
        have hD : va_D (va_A (ZW x cy g S0 ++ va_pl L (pf cy K cf nm S0)) s.heap.size) (ZW x cy g Sf ++ va_pl L (pf cy K cf nm Sf)) := by rw [← e2]; exact hD
        have hT : WT L K Sf.2 := by rw [← e2]; exact hT
        exact W.zret (v := 1) hx hb hr (nz01 (Or.inr rfl)).1 (fun t ht hW => ⟨⟨1, (), rfl, ⟨⟨e1, by rw [← e1]; exact Or.inr rfl⟩, hT⟩, by rw [ht]; exact hP, va_K.moved hW.alike hK, hD⟩, hS.F ht⟩) hS.2.2 dX9_copy_36

set_option maxHeartbeats 8000000 in
set_option maxRecDepth 100000 in
theorem zX9_back (l : Launch) (D : va_G) (x : Nat → Nat) (cy : Nat → ClassId) (g : Nat → Nat → Option Nat) (L : List Nat) (K : Nat → Nat) (cf : Nat → Nat → Nat) (nm : Nat → Int32) (hG : GO L K g) (hL : PL L K cf) (S0 : CS) (hT : WT L K S0.2) (sz : Nat) (ar1 : Int32) (ar2 : Int32)  (rv : Int32) (Sf : CS) (hF : gX9_back g cf nm S0 ar1 ar2 = some (rv, Sf)) : Met l yX9_back wsX9_back ({ frames := 2, cells := 0, slots := 0, locals := 49 }) (PW D (TYS cy) (ZW x cy g S0 ++ va_pl L (pf cy K cf nm S0)) sz [.ref (x 0), .int ar1, .int ar2]) (va_Qi (fun (res : Int32) (u : Unit) => (res = rv ∧ b01 rv) ∧ WT L K Sf.2) (BU D (TYS cy) (ZW x cy g S0 ++ va_pl L (pf cy K cf nm S0)) (fun _ => ZW x cy g Sf ++ va_pl L (pf cy K cf nm Sf)) sz) (va_A (ZW x cy g S0 ++ va_pl L (pf cy K cf nm S0)) sz)) 0 0 (va_A (ZW x cy g S0 ++ va_pl L (pf cy K cf nm S0)) sz) := by
  refine Met.ofW (cc := cX9_back) (maxL := 3) (ret := (some .boolean)) (by decide) rfl ?_
  intro p e s m args below meth c s₁ B hml hv
  obtain ⟨rfl, hsz, hP, hK, hD0⟩ := hv
  have hx := B.exec
  have hb := B.bytes
  have hr := B.returns
  have hts := atoms_spec (ws := wsX9_back) B.pre
  have hown : s.vm.findClass RX9 = some m.cls := findClass_of_methodNamed B.named
  have hlocks := B.notSynchronized
  subst hsz
  have hD := hD0.self (sz := s.heap.size)
  have hA : ∀ q9 : Nat, s.heap.size ≤ q9 → va_A (ZW x cy g S0 ++ va_pl L (pf cy K cf nm S0)) s.heap.size q9 := fun q9 h => Or.inr h
  have hS : va_S (va_A (ZW x cy g S0 ++ va_pl L (pf cy K cf nm S0)) s.heap.size) s.heap s.heap [] := va_S.rf
  have hl := lv_entry ([.ref (x 0), .int ar1, .int ar2]) (n := 3) (Nat.le_of_ble_eq_true rfl)
  rw [lg_entry_eq]
  generalize (lg_sl ([.ref (x 0), .int ar1, .int ar2]) ++ List.replicate (3 - (lg_sl ([.ref (x 0), .int ar1, .int ar2])).length) Slot.unset).toArray = ls at hl ⊢
  have hl : lv_has ls 3 [(0, .ref (x 0)), (1, .int ar1), (2, .int ar2)] := hl
  unfold gX9_back at hF
  refine lv_aload_n hx hb dX9_back_0 rfl (lv_at hl 0 rfl) ?_
  refine lv_iload_n hx hb dX9_back_1 rfl (lv_at hl 2 rfl) ?_
  obtain ⟨r1, hq4, hF⟩ := bd1_s hF
  refine gvI (As := [.int ar2]) (rest := []) ⟨hx, hb, hml, hown, hts⟩ (zX9_isBox l D x cy g L K cf nm hG hL S0 hT _ ar2  r1 hq4) (cwV 1 hts gX9_back_X9_isBox rfl rfl rfl (by decide +kernel) ⟨Nat.le_of_ble_eq_true rfl, Nat.le_of_ble_eq_true rfl⟩) hK hP hD hS hA (va_recv hK hP (ci := 9) (q0 := 0) rfl rfl) rfl hl.1 rfl (Nat.le_of_ble_eq_true rfl) dX9_back_2 ⟨Nat.le_of_ble_eq_true rfl, Nat.le_of_ble_eq_true rfl⟩ (fun a5 u9 H locs hw3 hP hD hS => ?_)
  have hP : va_P D vwCl (ZW x cy g S0 ++ va_pl L (pf cy K cf nm S0)) H := hP
  have hD : va_D _ (ZW x cy g S0 ++ va_pl L (pf cy K cf nm S0)) := hD
  refine lv_tov (v' := .int r1) (congrArg Value.int hw3.1) ?_
  refine lv_if_eq (tgt := 24) hx hb dX9_back_5 (by decide) (fun c6 => ?_) (fun c6 => ?_)
  · skip
    have hF := (if_pos c6).symm.trans hF
    refine lv_iconst (v := 0) hx hb dX9_back_24 (by decide) ?_
    obtain ⟨e1, e2⟩ := ret2 hF
    have hP : va_P D vwCl (ZW x cy g Sf ++ va_pl L (pf cy K cf nm Sf)) H := by rw [← e2]; exact hP
    have hD : va_D (va_A (ZW x cy g S0 ++ va_pl L (pf cy K cf nm S0)) s.heap.size) (ZW x cy g Sf ++ va_pl L (pf cy K cf nm Sf)) := by rw [← e2]; exact hD
    have hT : WT L K Sf.2 := by rw [← e2]; exact hT
    exact W.zret (v := 0) hx hb hr (nz01 (Or.inl rfl)).1 (fun t ht hW => ⟨⟨0, (), rfl, ⟨⟨e1, by rw [← e1]; exact Or.inl rfl⟩, hT⟩, by rw [ht]; exact hP, va_K.moved hW.alike hK, hD⟩, hS.F ht⟩) hS.2.2 dX9_back_25
  · skip
    have hF := (if_neg c6).symm.trans hF
    refine lv_aload_n hx hb dX9_back_8 rfl (lv_at hl 0 rfl) ?_
    refine lv_iload_n hx hb dX9_back_9 rfl (lv_at hl 1 rfl) ?_
    refine lv_iconst (v := 3) hx hb dX9_back_10 (by decide) ?_
    refine lv_iload_n hx hb dX9_back_11 rfl (lv_at hl 2 rfl) ?_
    refine lv_iconst (v := 0) hx hb dX9_back_12 (by decide) ?_
    refine lv_iconst (v := 0) hx hb dX9_back_13 (by decide) ?_
    obtain ⟨r7, S8, hq10, hF⟩ := bd2_s hF
    refine gvI (As := [.int ar1, .int 3, .int ar2, .int 0, .int 0]) (rest := []) ⟨hx, hb, hml, hown, hts⟩ (zX9_addStep l D x cy g L K cf nm hG hL S0 hT _ ar1 3 ar2 0 0  r7 S8 hq10) (cwV 5 hts gX9_back_X9_addStep rfl rfl rfl (by decide +kernel) ⟨Nat.le_of_ble_eq_true rfl, Nat.le_of_ble_eq_true rfl⟩) hK hP hD hS hA (va_recv hK hP (ci := 9) (q0 := 0) rfl rfl) rfl hl.1 rfl (Nat.le_of_ble_eq_true rfl) dX9_back_14 ⟨Nat.le_of_ble_eq_true rfl, Nat.le_of_ble_eq_true rfl⟩ (fun a11 u9 H locs hw9 hP hD hS => ?_)
    have hT : WT L K S8.2 := hw9.2
    have hP : va_P D vwCl (ZW x cy g S8 ++ va_pl L (pf cy K cf nm S8)) H := hP
    have hD : va_D _ (ZW x cy g S8 ++ va_pl L (pf cy K cf nm S8)) := hD
    refine lv_tov (v' := .int r7) (congrArg Value.int hw9.1.1) ?_
    refine lv_if_eq (tgt := 24) hx hb dX9_back_17 (by decide) (fun c12 => ?_) (fun c12 => ?_)
    · skip
      have hF := (if_pos c12).symm.trans hF
      refine lv_iconst (v := 0) hx hb dX9_back_24 (by decide) ?_
      obtain ⟨e1, e2⟩ := ret2 hF
      have hP : va_P D vwCl (ZW x cy g Sf ++ va_pl L (pf cy K cf nm Sf)) H := by rw [← e2]; exact hP
      have hD : va_D (va_A (ZW x cy g S0 ++ va_pl L (pf cy K cf nm S0)) s.heap.size) (ZW x cy g Sf ++ va_pl L (pf cy K cf nm Sf)) := by rw [← e2]; exact hD
      have hT : WT L K Sf.2 := by rw [← e2]; exact hT
      exact W.zret (v := 0) hx hb hr (nz01 (Or.inl rfl)).1 (fun t ht hW => ⟨⟨0, (), rfl, ⟨⟨e1, by rw [← e1]; exact Or.inl rfl⟩, hT⟩, by rw [ht]; exact hP, va_K.moved hW.alike hK, hD⟩, hS.F ht⟩) hS.2.2 dX9_back_25
    · skip
      have hF := (if_neg c12).symm.trans hF
      refine lv_iconst (v := 1) hx hb dX9_back_20 (by decide) ?_
      refine lv_goto (tgt := 25) hx hb dX9_back_21 (by decide) ?_
      obtain ⟨e1, e2⟩ := ret2 hF
      have hP : va_P D vwCl (ZW x cy g Sf ++ va_pl L (pf cy K cf nm Sf)) H := by rw [← e2]; exact hP
      have hD : va_D (va_A (ZW x cy g S0 ++ va_pl L (pf cy K cf nm S0)) s.heap.size) (ZW x cy g Sf ++ va_pl L (pf cy K cf nm Sf)) := by rw [← e2]; exact hD
      have hT : WT L K Sf.2 := by rw [← e2]; exact hT
      exact W.zret (v := 1) hx hb hr (nz01 (Or.inr rfl)).1 (fun t ht hW => ⟨⟨1, (), rfl, ⟨⟨e1, by rw [← e1]; exact Or.inr rfl⟩, hT⟩, by rw [ht]; exact hP, va_K.moved hW.alike hK, hD⟩, hS.F ht⟩) hS.2.2 dX9_back_25

theorem iX9_bell_9 : ∀ w ∈ wsX90, w ∈ wsX9_bell := fun _ h => List.mem_cons_of_mem _ (List.mem_append_right _ h)
set_option maxHeartbeats 8000000 in
set_option maxRecDepth 100000 in
theorem zX9_bell (l : Launch) (D : va_G) (x : Nat → Nat) (cy : Nat → ClassId) (g : Nat → Nat → Option Nat) (L : List Nat) (K : Nat → Nat) (cf : Nat → Nat → Nat) (nm : Nat → Int32) (hG : GO L K g) (hL : PL L K cf) (S0 : CS) (hT : WT L K S0.2) (sz : Nat) (ar1 : Int32)  (rv : Int32) (Sf : CS) (hF : gX9_bell g cf nm S0 ar1 = some (rv, Sf)) : Met l yX9_bell wsX9_bell ({ frames := 0, cells := 0, slots := 0, locals := 0 }) (PW D (TYS cy) (ZW x cy g S0 ++ va_pl L (pf cy K cf nm S0)) sz [.ref (x 0), .int ar1]) (va_Qi (fun (res : Int32) (u : Unit) => (res = rv ∧ b01 rv) ∧ WT L K Sf.2) (BU D (TYS cy) (ZW x cy g S0 ++ va_pl L (pf cy K cf nm S0)) (fun _ => ZW x cy g Sf ++ va_pl L (pf cy K cf nm Sf)) sz) (va_A (ZW x cy g S0 ++ va_pl L (pf cy K cf nm S0)) sz)) 0 0 (va_A (ZW x cy g S0 ++ va_pl L (pf cy K cf nm S0)) sz) := by
  refine Met.ofW (cc := cX9_bell) (maxL := 2) (ret := (some .boolean)) (by decide) rfl ?_
  intro p e s m args below meth c s₁ B hml hv
  obtain ⟨rfl, hsz, hP, hK, hD0⟩ := hv
  have hx := B.exec
  have hb := B.bytes
  have hr := B.returns
  have hts := atoms_spec (ws := wsX9_bell) B.pre
  have hown : s.vm.findClass RX9 = some m.cls := findClass_of_methodNamed B.named
  have hlocks := B.notSynchronized
  subst hsz
  have hD := hD0.self (sz := s.heap.size)
  have hA : ∀ q9 : Nat, s.heap.size ≤ q9 → va_A (ZW x cy g S0 ++ va_pl L (pf cy K cf nm S0)) s.heap.size q9 := fun q9 h => Or.inr h
  have hS : va_S (va_A (ZW x cy g S0 ++ va_pl L (pf cy K cf nm S0)) s.heap.size) s.heap s.heap [] := va_S.rf
  have hl := lv_entry ([.ref (x 0), .int ar1]) (n := 2) (Nat.le_of_ble_eq_true rfl)
  rw [lg_entry_eq]
  generalize (lg_sl ([.ref (x 0), .int ar1]) ++ List.replicate (2 - (lg_sl ([.ref (x 0), .int ar1])).length) Slot.unset).toArray = ls at hl ⊢
  have hl : lv_has ls 2 [(0, .ref (x 0)), (1, .int ar1)] := hl
  unfold gX9_bell at hF
  refine lv_iload_n hx hb dX9_bell_0 rfl (lv_at hl 1 rfl) ?_
  refine lv_aload_n hx hb dX9_bell_1 rfl (lv_at hl 0 rfl) ?_
  refine va_get (D := D) (ci := 9) (v := .int (S0.1 200 4)) (C := RX9) (T := TX9) (N := 19) hx hb hts iX9_bell_9 hown hK hP 0 rfl rfl 14 (by decide) (hts (.fieldLink RX9 78 "FondsRoom" "turn" "I") (List.mem_of_getElem? (i := 1) rfl)) (fun _ h9 => h9) rfl dX9_bell_2 ?_
  refine lv_icmp_le (tgt := 16) hx hb dX9_bell_5 (by decide) (fun c1 => ?_) (fun c1 => ?_)
  · skip
    have hF := (if_pos c1).symm.trans hF
    refine lv_iconst (v := 0) hx hb dX9_bell_16 (by decide) ?_
    obtain ⟨e1, e2⟩ := ret2 hF
    have hP : va_P D vwCl (ZW x cy g Sf ++ va_pl L (pf cy K cf nm Sf)) s.heap := by rw [← e2]; exact hP
    have hD : va_D (va_A (ZW x cy g S0 ++ va_pl L (pf cy K cf nm S0)) s.heap.size) (ZW x cy g Sf ++ va_pl L (pf cy K cf nm Sf)) := by rw [← e2]; exact hD
    have hT : WT L K Sf.2 := by rw [← e2]; exact hT
    exact W.zret (v := 0) hx hb hr (nz01 (Or.inl rfl)).1 (fun t ht hW => ⟨⟨0, (), rfl, ⟨⟨e1, by rw [← e1]; exact Or.inl rfl⟩, hT⟩, by rw [ht]; exact hP, va_K.moved hW.alike hK, hD⟩, hS.F ht⟩) hS.2.2 dX9_bell_17
  · skip
    have hF := (if_neg c1).symm.trans hF
    refine lv_aload_n hx hb dX9_bell_8 rfl (lv_at hl 0 rfl) ?_
    refine va_get (D := D) (ci := 9) (v := .int (S0.1 200 5)) (C := RX9) (T := TX9) (N := 19) hx hb hts iX9_bell_9 hown hK hP 0 rfl rfl 15 (by decide) (hts (.fieldLink RX9 75 "FondsRoom" "bellTurn" "I") (List.mem_of_getElem? (i := 2) rfl)) (fun _ h9 => h9) rfl dX9_bell_9 ?_
    refine lv_iconst (v := (-1)) hx hb dX9_bell_12 (by decide) ?_
    refine lv_icmp_eq (tgt := 18) hx hb dX9_bell_13 (by decide) (fun c2 => ?_) (fun c2 => ?_)
    · skip
      have hF := (if_pos c2).symm.trans hF
      refine lv_aload_n hx hb dX9_bell_18 rfl (lv_at hl 0 rfl) ?_
      refine lv_iload_n hx hb dX9_bell_19 rfl (lv_at hl 1 rfl) ?_
      refine va_put (D := D) (ci := 9) (v := .int ar1) (ty := .int) (C := RX9) (T := TX9) (N := 19) hx hb hts iX9_bell_9 tyX9 tyX9_ok nmX9 hown hK hP hD hS 0 rfl rfl 15 (by decide) (hts (.fieldLink RX9 75 "FondsRoom" "bellTurn" "I") (List.mem_of_getElem? (i := 2) rfl)) (fun _ h9 => h9) rfl (by decide +kernel) rfl rfl (Nat.le_of_ble_eq_true rfl) dX9_bell_20 (fun H locs hP hD hS => ?_)
      obtain ⟨S3, eS3⟩ : ∃ z, z = wi S0 200 5 ar1 := ⟨_, rfl⟩
      replace hF := bnd_s hF S3 eS3
      have hP : va_P D vwCl (ZW x cy g S3 ++ va_pl L (pf cy K cf nm S3)) H := by rw [eS3]; rw [show pf cy K cf nm (wi S0 200 5 ar1) = pf cy K cf nm S0 from pf_200]; exact hP
      have hD : va_D (va_A (ZW x cy g S0 ++ va_pl L (pf cy K cf nm S0)) s.heap.size) (ZW x cy g S3 ++ va_pl L (pf cy K cf nm S3)) := by rw [eS3]; rw [show pf cy K cf nm (wi S0 200 5 ar1) = pf cy K cf nm S0 from pf_200]; exact hD
      have hT : WT L K S3.2 := by rw [eS3]; exact hT
      refine lv_iconst (v := 1) hx hb dX9_bell_23 (by decide) ?_
      obtain ⟨e1, e2⟩ := ret2 hF
      have hP : va_P D vwCl (ZW x cy g Sf ++ va_pl L (pf cy K cf nm Sf)) H := by rw [← e2]; exact hP
      have hD : va_D (va_A (ZW x cy g S0 ++ va_pl L (pf cy K cf nm S0)) s.heap.size) (ZW x cy g Sf ++ va_pl L (pf cy K cf nm Sf)) := by rw [← e2]; exact hD
      have hT : WT L K Sf.2 := by rw [← e2]; exact hT
      exact W.zret (v := 1) hx hb hr (nz01 (Or.inr rfl)).1 (fun t ht hW => ⟨⟨1, (), rfl, ⟨⟨e1, by rw [← e1]; exact Or.inr rfl⟩, hT⟩, by rw [ht]; exact hP, va_K.moved hW.alike hK, hD⟩, hS.F ht⟩) hS.2.2 dX9_bell_24
    · skip
      have hF := (if_neg c2).symm.trans hF
      refine lv_iconst (v := 0) hx hb dX9_bell_16 (by decide) ?_
      obtain ⟨e1, e2⟩ := ret2 hF
      have hP : va_P D vwCl (ZW x cy g Sf ++ va_pl L (pf cy K cf nm Sf)) s.heap := by rw [← e2]; exact hP
      have hD : va_D (va_A (ZW x cy g S0 ++ va_pl L (pf cy K cf nm S0)) s.heap.size) (ZW x cy g Sf ++ va_pl L (pf cy K cf nm Sf)) := by rw [← e2]; exact hD
      have hT : WT L K Sf.2 := by rw [← e2]; exact hT
      exact W.zret (v := 0) hx hb hr (nz01 (Or.inl rfl)).1 (fun t ht hW => ⟨⟨0, (), rfl, ⟨⟨e1, by rw [← e1]; exact Or.inl rfl⟩, hT⟩, by rw [ht]; exact hP, va_K.moved hW.alike hK, hD⟩, hS.F ht⟩) hS.2.2 dX9_bell_17

theorem iX9_mishap_9 : ∀ w ∈ wsX90, w ∈ wsX9_mishap := fun _ h => List.mem_cons_of_mem _ (List.mem_append_left _ (List.mem_append_left _ (List.mem_append_right _ h)))
set_option maxHeartbeats 8000000 in
set_option maxRecDepth 100000 in
theorem zX9_mishap (l : Launch) (D : va_G) (x : Nat → Nat) (cy : Nat → ClassId) (g : Nat → Nat → Option Nat) (L : List Nat) (K : Nat → Nat) (cf : Nat → Nat → Nat) (nm : Nat → Int32) (hG : GO L K g) (hL : PL L K cf) (S0 : CS) (hT : WT L K S0.2) (sz : Nat) (ar1 : Int32) (ar2 : Int32) (ar3 : Int32)  (rv : Int32) (Sf : CS) (hF : gX9_mishap g cf nm S0 ar1 ar2 ar3 = some (rv, Sf)) : Met l yX9_mishap wsX9_mishap ({ frames := 2, cells := 0, slots := 0, locals := 43 }) (PW D (TYS cy) (ZW x cy g S0 ++ va_pl L (pf cy K cf nm S0)) sz [.ref (x 0), .int ar1, .int ar2, .int ar3]) (va_Qi (fun (res : Int32) (u : Unit) => (res = rv ∧ b01 rv) ∧ WT L K Sf.2) (BU D (TYS cy) (ZW x cy g S0 ++ va_pl L (pf cy K cf nm S0)) (fun _ => ZW x cy g Sf ++ va_pl L (pf cy K cf nm Sf)) sz) (va_A (ZW x cy g S0 ++ va_pl L (pf cy K cf nm S0)) sz)) 0 0 (va_A (ZW x cy g S0 ++ va_pl L (pf cy K cf nm S0)) sz) := by
  refine Met.ofW (cc := cX9_mishap) (maxL := 4) (ret := (some .boolean)) (by decide) rfl ?_
  intro p e s m args below meth c s₁ B hml hv
  obtain ⟨rfl, hsz, hP, hK, hD0⟩ := hv
  have hx := B.exec
  have hb := B.bytes
  have hr := B.returns
  have hts := atoms_spec (ws := wsX9_mishap) B.pre
  have hown : s.vm.findClass RX9 = some m.cls := findClass_of_methodNamed B.named
  have hlocks := B.notSynchronized
  subst hsz
  have hD := hD0.self (sz := s.heap.size)
  have hA : ∀ q9 : Nat, s.heap.size ≤ q9 → va_A (ZW x cy g S0 ++ va_pl L (pf cy K cf nm S0)) s.heap.size q9 := fun q9 h => Or.inr h
  have hS : va_S (va_A (ZW x cy g S0 ++ va_pl L (pf cy K cf nm S0)) s.heap.size) s.heap s.heap [] := va_S.rf
  have hl := lv_entry ([.ref (x 0), .int ar1, .int ar2, .int ar3]) (n := 4) (Nat.le_of_ble_eq_true rfl)
  rw [lg_entry_eq]
  generalize (lg_sl ([.ref (x 0), .int ar1, .int ar2, .int ar3]) ++ List.replicate (4 - (lg_sl ([.ref (x 0), .int ar1, .int ar2, .int ar3])).length) Slot.unset).toArray = ls at hl ⊢
  have hl : lv_has ls 4 [(0, .ref (x 0)), (1, .int ar1), (2, .int ar2), (3, .int ar3)] := hl
  unfold gX9_mishap at hF
  refine lv_iload_n hx hb dX9_mishap_0 rfl (lv_at hl 1 rfl) ?_
  refine lv_aload_n hx hb dX9_mishap_1 rfl (lv_at hl 0 rfl) ?_
  refine va_get (D := D) (ci := 9) (v := .int (S0.1 200 4)) (C := RX9) (T := TX9) (N := 19) hx hb hts iX9_mishap_9 hown hK hP 0 rfl rfl 14 (by decide) (hts (.fieldLink RX9 78 "FondsRoom" "turn" "I") (List.mem_of_getElem? (i := 1) rfl)) (fun _ h9 => h9) rfl dX9_mishap_2 ?_
  refine lv_icmp_le (tgt := 17) hx hb dX9_mishap_5 (by decide) (fun c1 => ?_) (fun c1 => ?_)
  · skip
    have hF := (if_pos c1).symm.trans hF
    refine lv_iconst (v := 0) hx hb dX9_mishap_17 (by decide) ?_
    obtain ⟨e1, e2⟩ := ret2 hF
    have hP : va_P D vwCl (ZW x cy g Sf ++ va_pl L (pf cy K cf nm Sf)) s.heap := by rw [← e2]; exact hP
    have hD : va_D (va_A (ZW x cy g S0 ++ va_pl L (pf cy K cf nm S0)) s.heap.size) (ZW x cy g Sf ++ va_pl L (pf cy K cf nm Sf)) := by rw [← e2]; exact hD
    have hT : WT L K Sf.2 := by rw [← e2]; exact hT
    exact W.zret (v := 0) hx hb hr (nz01 (Or.inl rfl)).1 (fun t ht hW => ⟨⟨0, (), rfl, ⟨⟨e1, by rw [← e1]; exact Or.inl rfl⟩, hT⟩, by rw [ht]; exact hP, va_K.moved hW.alike hK, hD⟩, hS.F ht⟩) hS.2.2 dX9_mishap_18
  · skip
    have hF := (if_neg c1).symm.trans hF
    refine lv_aload_n hx hb dX9_mishap_8 rfl (lv_at hl 0 rfl) ?_
    refine lv_iload_n hx hb dX9_mishap_9 rfl (lv_at hl 2 rfl) ?_
    refine lv_iload_n hx hb dX9_mishap_10 rfl (lv_at hl 3 rfl) ?_
    obtain ⟨r2, hq5, hF⟩ := bd1_s hF
    refine gvI (As := [.int ar2, .int ar3]) (rest := []) ⟨hx, hb, hml, hown, hts⟩ (zX9_isPerson l D x cy g L K cf nm hG hL S0 hT _ ar2 ar3  r2 hq5) (cwV 2 hts gX9_mishap_X9_isPerson rfl rfl rfl (by decide +kernel) ⟨Nat.le_of_ble_eq_true rfl, Nat.le_of_ble_eq_true rfl⟩) hK hP hD hS hA (va_recv hK hP (ci := 9) (q0 := 0) rfl rfl) rfl hl.1 rfl (Nat.le_of_ble_eq_true rfl) dX9_mishap_11 ⟨Nat.le_of_ble_eq_true rfl, Nat.le_of_ble_eq_true rfl⟩ (fun a6 u9 H locs hw4 hP hD hS => ?_)
    have hP : va_P D vwCl (ZW x cy g S0 ++ va_pl L (pf cy K cf nm S0)) H := hP
    have hD : va_D _ (ZW x cy g S0 ++ va_pl L (pf cy K cf nm S0)) := hD
    refine lv_tov (v' := .int r2) (congrArg Value.int hw4.1) ?_
    refine lv_if_ne (tgt := 19) hx hb dX9_mishap_14 (by decide) (fun c7 => ?_) (fun c7 => ?_)
    · skip
      have hF := (if_neg c7).symm.trans hF
      refine lv_aload_n hx hb dX9_mishap_19 rfl (lv_at hl 0 rfl) ?_
      refine va_get (D := D) (ci := 9) (v := .ref (x 14)) (C := RX9) (T := TX9) (N := 19) hx hb hts iX9_mishap_9 hown hK hP 0 rfl rfl 8 (by decide) (hts (.fieldLink RX9 60 "FondsRoom" "mishaps" "LFondsRoom$Mishaps;") (List.mem_of_getElem? (i := 2) rfl)) (fun _ h9 => h9) rfl dX9_mishap_20 ?_
      refine lv_iload_n hx hb dX9_mishap_23 rfl (lv_at hl 1 rfl) ?_
      refine lv_iload_n hx hb dX9_mishap_24 rfl (lv_at hl 2 rfl) ?_
      refine lv_iload_n hx hb dX9_mishap_25 rfl (lv_at hl 3 rfl) ?_
      obtain ⟨r8, S9, hq11, hF⟩ := bd2_s hF
      refine gvI (As := [.int ar1, .int ar2, .int ar3]) (rest := []) ⟨hx, hb, hml, hown, hts⟩ (zX4_append l D x cy g L K cf nm hG hL S0 hT _ ar1 ar2 ar3  r8 S9 hq11) (cwV 3 hts gX9_mishap_X4_append rfl rfl rfl (by decide +kernel) ⟨Nat.le_of_ble_eq_true rfl, Nat.le_of_ble_eq_true rfl⟩) hK hP hD hS hA (va_recv hK hP (ci := 4) (q0 := 14) rfl rfl) rfl hl.1 rfl (Nat.le_of_ble_eq_true rfl) dX9_mishap_26 ⟨Nat.le_of_ble_eq_true rfl, Nat.le_of_ble_eq_true rfl⟩ (fun a12 u9 H locs hw10 hP hD hS => ?_)
      have hT : WT L K S9.2 := hw10.2
      have hP : va_P D vwCl (ZW x cy g S9 ++ va_pl L (pf cy K cf nm S9)) H := hP
      have hD : va_D _ (ZW x cy g S9 ++ va_pl L (pf cy K cf nm S9)) := hD
      refine lv_tov (v' := .int r8) (congrArg Value.int hw10.1.1) ?_
      obtain ⟨e1, e2⟩ := ret2 hF
      have hP : va_P D vwCl (ZW x cy g Sf ++ va_pl L (pf cy K cf nm Sf)) H := by rw [← e2]; exact hP
      have hD : va_D (va_A (ZW x cy g S0 ++ va_pl L (pf cy K cf nm S0)) s.heap.size) (ZW x cy g Sf ++ va_pl L (pf cy K cf nm Sf)) := by rw [← e2]; exact hD
      have hT : WT L K Sf.2 := by rw [← e2]; exact hT
      exact W.zret (v := r8) hx hb hr (nz01 (hw10.1.2)).1 (fun t ht hW => ⟨⟨r8, (), rfl, ⟨⟨e1, by rw [← e1]; exact hw10.1.2⟩, hT⟩, by rw [ht]; exact hP, va_K.moved hW.alike hK, hD⟩, hS.F ht⟩) hS.2.2 dX9_mishap_29
    · skip
      have hF := (if_pos c7).symm.trans hF
      refine lv_iconst (v := 0) hx hb dX9_mishap_17 (by decide) ?_
      obtain ⟨e1, e2⟩ := ret2 hF
      have hP : va_P D vwCl (ZW x cy g Sf ++ va_pl L (pf cy K cf nm Sf)) H := by rw [← e2]; exact hP
      have hD : va_D (va_A (ZW x cy g S0 ++ va_pl L (pf cy K cf nm S0)) s.heap.size) (ZW x cy g Sf ++ va_pl L (pf cy K cf nm Sf)) := by rw [← e2]; exact hD
      have hT : WT L K Sf.2 := by rw [← e2]; exact hT
      exact W.zret (v := 0) hx hb hr (nz01 (Or.inl rfl)).1 (fun t ht hW => ⟨⟨0, (), rfl, ⟨⟨e1, by rw [← e1]; exact Or.inl rfl⟩, hT⟩, by rw [ht]; exact hP, va_K.moved hW.alike hK, hD⟩, hS.F ht⟩) hS.2.2 dX9_mishap_18

theorem iX9_run_9 : ∀ w ∈ wsX90, w ∈ wsX9_run := fun _ h => List.mem_cons_of_mem _ (List.mem_append_left _ (List.mem_append_left _ (List.mem_append_left _ (List.mem_append_left _ (List.mem_append_left _ (List.mem_append_left _ (List.mem_append_left _ (List.mem_append_left _ (List.mem_append_left _ (List.mem_append_right _ h))))))))))
set_option maxHeartbeats 8000000 in
set_option maxRecDepth 100000 in
theorem zX9_run (l : Launch) (D : va_G) (x : Nat → Nat) (cy : Nat → ClassId) (g : Nat → Nat → Option Nat) (L : List Nat) (K : Nat → Nat) (cf : Nat → Nat → Nat) (nm : Nat → Int32) (hG : GO L K g) (hL : PL L K cf) (S0 : CS) (hT : WT L K S0.2) (sz : Nat) (ar1 : Int32)  (rv : Int32) (Sf : CS) (hF : gX9_run g cf nm S0 ar1 = some (rv, Sf)) : Met l yX9_run wsX9_run ({ frames := 6, cells := 0, slots := 0, locals := 136 }) (PW D (TYS cy) (ZW x cy g S0 ++ va_pl L (pf cy K cf nm S0)) sz [.ref (x 0), .int ar1]) (va_Qi (fun (res : Int32) (u : Unit) => (res = rv) ∧ WT L K Sf.2) (BU D (TYS cy) (ZW x cy g S0 ++ va_pl L (pf cy K cf nm S0)) (fun _ => ZW x cy g Sf ++ va_pl L (pf cy K cf nm Sf)) sz) (va_A (ZW x cy g S0 ++ va_pl L (pf cy K cf nm S0)) sz)) 0 0 (va_A (ZW x cy g S0 ++ va_pl L (pf cy K cf nm S0)) sz) := by
  refine Met.ofW (cc := cX9_run) (maxL := 3) (ret := (some .int)) (by decide) rfl ?_
  intro p e s m args below meth c s₁ B hml hv
  obtain ⟨rfl, hsz, hP, hK, hD0⟩ := hv
  have hx := B.exec
  have hb := B.bytes
  have hr := B.returns
  have hts := atoms_spec (ws := wsX9_run) B.pre
  have hown : s.vm.findClass RX9 = some m.cls := findClass_of_methodNamed B.named
  have hlocks := B.notSynchronized
  subst hsz
  have hD := hD0.self (sz := s.heap.size)
  have hA : ∀ q9 : Nat, s.heap.size ≤ q9 → va_A (ZW x cy g S0 ++ va_pl L (pf cy K cf nm S0)) s.heap.size q9 := fun q9 h => Or.inr h
  have hS : va_S (va_A (ZW x cy g S0 ++ va_pl L (pf cy K cf nm S0)) s.heap.size) s.heap s.heap [] := va_S.rf
  have key15 : ∀ (KK : CS → Option (Int32 × CS)), (∀  (S : CS) (H : Heap) (locs : List Loc) (ls : Array Slot), KK  S = some (rv, Sf) → WT L K S.2 → va_P D vwCl (ZW x cy g S ++ va_pl L (pf cy K cf nm S)) H → va_D (va_A (ZW x cy g S0 ++ va_pl L (pf cy K cf nm S0)) s.heap.size) (ZW x cy g S ++ va_pl L (pf cy K cf nm S)) → va_S (va_A (ZW x cy g S0 ++ va_pl L (pf cy K cf nm S0)) s.heap.size) s.heap H locs → lv_has ls 3 [(0, .ref (x 0))] → W p l e (headSpec wsX9_run ({ frames := 6, cells := 0, slots := 0, locals := 136 })).room s m #[.ref (x 0), .int ar1] below meth c H locs 0 0 (MQ below (va_Qi (fun (res : Int32) (u : Unit) => (res = rv) ∧ WT L K Sf.2) (BU D (TYS cy) (ZW x cy g S0 ++ va_pl L (pf cy K cf nm S0)) (fun _ => ZW x cy g Sf ++ va_pl L (pf cy K cf nm Sf)) s.heap.size) (va_A (ZW x cy g S0 ++ va_pl L (pf cy K cf nm S0)) s.heap.size)) #[.ref (x 0), .int ar1] s 0 0 (va_A (ZW x cy g S0 ++ va_pl L (pf cy K cf nm S0)) s.heap.size)) (F0 m 30 ls [])) → ∀ (fu : Nat) (v1 : Int32) (v2 : Int32) (S : CS) (H : Heap) (locs : List Loc) (ls : Array Slot), gX9_run_15 g cf nm KK fu v1 v2 S = some (rv, Sf) → WT L K S.2 → va_P D vwCl (ZW x cy g S ++ va_pl L (pf cy K cf nm S)) H → va_D (va_A (ZW x cy g S0 ++ va_pl L (pf cy K cf nm S0)) s.heap.size) (ZW x cy g S ++ va_pl L (pf cy K cf nm S)) → va_S (va_A (ZW x cy g S0 ++ va_pl L (pf cy K cf nm S0)) s.heap.size) s.heap H locs → lv_has ls 3 [(1, .int v1), (2, .int v2), (0, .ref (x 0))] → W p l e (headSpec wsX9_run ({ frames := 6, cells := 0, slots := 0, locals := 136 })).room s m #[.ref (x 0), .int ar1] below meth c H locs 0 0 (MQ below (va_Qi (fun (res : Int32) (u : Unit) => (res = rv) ∧ WT L K Sf.2) (BU D (TYS cy) (ZW x cy g S0 ++ va_pl L (pf cy K cf nm S0)) (fun _ => ZW x cy g Sf ++ va_pl L (pf cy K cf nm Sf)) s.heap.size) (va_A (ZW x cy g S0 ++ va_pl L (pf cy K cf nm S0)) s.heap.size)) #[.ref (x 0), .int ar1] s 0 0 (va_A (ZW x cy g S0 ++ va_pl L (pf cy K cf nm S0)) s.heap.size)) (F0 m 15 ls []) := by
    intro KK hKK fu
    induction fu with
    | zero =>
      intro v1 v2 S H locs ls hF
      exact absurd (show (none : Option (Int32 × CS)) = some (rv, Sf) from hF) (by simp)
    | succ fu15 ih15 =>
      intro v1 v2 S H locs ls hF hT hP hD hS hl
      rw [gX9_run_15] at hF
      refine lv_iload_n hx hb dX9_run_15 rfl (lv_at hl 1 rfl) ?_
      refine lv_iload_n hx hb dX9_run_16 rfl (lv_at hl 0 rfl) ?_
      refine lv_icmp_ge (tgt := 30) hx hb dX9_run_17 (by decide) (fun c7 => ?_) (fun c7 => ?_)
      · skip
        have hF := (if_pos c7).symm.trans hF
        exact hKK  S _ _ _ hF hT hP hD hS (lv_sub hl [2] rfl)
      · skip
        have hF := (if_neg c7).symm.trans hF
        refine lv_aload_n hx hb dX9_run_20 rfl (lv_at hl 2 rfl) ?_
        obtain ⟨S9, hq11, hF⟩ := bd1_s hF
        refine gvV (As := []) (rest := []) ⟨hx, hb, hml, hown, hts⟩ (zX9_passTurn l D x cy g L K cf nm hG hL S hT _   S9 hq11) (cwV 0 hts gX9_run_X9_passTurn rfl rfl rfl (by decide +kernel) ⟨Nat.le_of_ble_eq_true rfl, Nat.le_of_ble_eq_true rfl⟩) hK hP hD hS hA (va_recv hK hP (ci := 9) (q0 := 0) rfl rfl) rfl hl.1 rfl (Nat.le_of_ble_eq_true rfl) dX9_run_21 ⟨Nat.le_of_ble_eq_true rfl, Nat.le_of_ble_eq_true rfl⟩ (fun u9 H locs hw10 hP hD hS => ?_)
        have hT : WT L K S9.2 := hw10
        have hP : va_P D vwCl (ZW x cy g S9 ++ va_pl L (pf cy K cf nm S9)) H := hP
        have hD : va_D _ (ZW x cy g S9 ++ va_pl L (pf cy K cf nm S9)) := hD
        refine lv_iinc (v := v2 + 1) (lv' := [(2, .int (v2 + 1)), (1, .int v1), (0, .ref (x 0))]) hx hb dX9_run_24 hl (k := 1) rfl rfl (by decide) rfl (fun ls hl => ?_)
        refine lv_goto (tgt := 15) hx hb dX9_run_27 (by decide) ?_
        exact ih15 v1 (v2 + 1) S9 _ _ _ hF hT hP hD hS (lv_sub hl [1, 0, 2] rfl)
  have hl := lv_entry ([.ref (x 0), .int ar1]) (n := 3) (Nat.le_of_ble_eq_true rfl)
  rw [lg_entry_eq]
  generalize (lg_sl ([.ref (x 0), .int ar1]) ++ List.replicate (3 - (lg_sl ([.ref (x 0), .int ar1])).length) Slot.unset).toArray = ls at hl ⊢
  have hl : lv_has ls 3 [(0, .ref (x 0)), (1, .int ar1)] := hl
  unfold gX9_run at hF
  refine lv_iload_n hx hb dX9_run_0 rfl (lv_at hl 1 rfl) ?_
  refine lv_iconst (v := 0) hx hb dX9_run_1 (by decide) ?_
  refine lv_sipush (v := 200) hx hb dX9_run_2 (by decide) ?_
  obtain ⟨r1, hq4, hF⟩ := bd1_s hF
  refine gsI (As := [.int ar1, .int 0, .int 200]) (rest := []) ⟨hx, hb, hml, hown, hts⟩ (zX9_isWithin l D x cy g L K cf nm hG hL S0 hT _ ar1 0 200  r1 hq4) (va_cwS 3 hts gX9_run_X9_isWithin rfl rfl rfl (by decide +kernel) ⟨Nat.le_of_ble_eq_true rfl, Nat.le_of_ble_eq_true rfl⟩) hK hP hD hS hA rfl hl.1 rfl (Nat.le_of_ble_eq_true rfl) dX9_run_5 ⟨Nat.le_of_ble_eq_true rfl, Nat.le_of_ble_eq_true rfl⟩ (fun a5 u9 H locs hw3 hP hD hS => ?_)
  have hP : va_P D vwCl (ZW x cy g S0 ++ va_pl L (pf cy K cf nm S0)) H := hP
  have hD : va_D _ (ZW x cy g S0 ++ va_pl L (pf cy K cf nm S0)) := hD
  refine lv_tov (v' := .int r1) (congrArg Value.int hw3.1) ?_
  refine lv_if_ne (tgt := 13) hx hb dX9_run_8 (by decide) (fun c6 => ?_) (fun c6 => ?_)
  · skip
    have hF := (if_neg c6).symm.trans hF
    refine lv_iconst (v := 0) hx hb dX9_run_13 (by decide) ?_
    refine lv_istore_n (lv' := [(2, .int 0), (0, .ref (x 0)), (1, .int ar1)]) hx hb dX9_run_14 rfl hl (by decide) rfl (fun ls hl => ?_)
    refine key15 _ ?_ 1000 ar1 0 S0 _ _ _ hF hT hP hD hS (lv_sub hl [2, 0, 1] rfl)
    intro S13 H locs ls hF hT hP hD hS hl
    refine lv_aload_n hx hb dX9_run_30 rfl (lv_at hl 0 rfl) ?_
    refine va_get (D := D) (ci := 9) (v := .int (S13.1 200 4)) (C := RX9) (T := TX9) (N := 19) hx hb hts iX9_run_9 hown hK hP 0 rfl rfl 14 (by decide) (hts (.fieldLink RX9 78 "FondsRoom" "turn" "I") (List.mem_of_getElem? (i := 1) rfl)) (fun _ h9 => h9) rfl dX9_run_31 ?_
    obtain ⟨e1, e2⟩ := ret2 hF
    have hP : va_P D vwCl (ZW x cy g Sf ++ va_pl L (pf cy K cf nm Sf)) H := by rw [← e2]; exact hP
    have hD : va_D (va_A (ZW x cy g S0 ++ va_pl L (pf cy K cf nm S0)) s.heap.size) (ZW x cy g Sf ++ va_pl L (pf cy K cf nm Sf)) := by rw [← e2]; exact hD
    have hT : WT L K Sf.2 := by rw [← e2]; exact hT
    exact W.iret (v := (S13.1 200 4)) hx hb hr (fun t ht hW => ⟨⟨(S13.1 200 4), (), rfl, ⟨e1, hT⟩, by rw [ht]; exact hP, va_K.moved hW.alike hK, hD⟩, hS.F ht⟩) hS.2.2 dX9_run_34
  · skip
    have hF := (if_pos c6).symm.trans hF
    refine lv_iconst (v := (-1)) hx hb dX9_run_11 (by decide) ?_
    obtain ⟨e1, e2⟩ := ret2 hF
    have hP : va_P D vwCl (ZW x cy g Sf ++ va_pl L (pf cy K cf nm Sf)) H := by rw [← e2]; exact hP
    have hD : va_D (va_A (ZW x cy g S0 ++ va_pl L (pf cy K cf nm S0)) s.heap.size) (ZW x cy g Sf ++ va_pl L (pf cy K cf nm Sf)) := by rw [← e2]; exact hD
    have hT : WT L K Sf.2 := by rw [← e2]; exact hT
    exact W.iret (v := (-1)) hx hb hr (fun t ht hW => ⟨⟨(-1), (), rfl, ⟨e1, hT⟩, by rw [ht]; exact hP, va_K.moved hW.alike hK, hD⟩, hS.F ht⟩) hS.2.2 dX9_run_12

theorem iX9_about_1 : ∀ w ∈ wsX10, w ∈ wsX9_about := fun _ h => List.mem_cons_of_mem _ (List.mem_append_left _ (List.mem_append_left _ (List.mem_append_right _ h)))
theorem iX9_about_5 : ∀ w ∈ wsX50, w ∈ wsX9_about := fun _ h => List.mem_cons_of_mem _ (List.mem_append_left _ (List.mem_append_right _ h))
theorem iX9_about_6 : ∀ w ∈ wsX60, w ∈ wsX9_about := fun _ h => List.mem_cons_of_mem _ (List.mem_append_left _ (List.mem_append_left _ (List.mem_append_left _ (List.mem_append_right _ h))))
theorem iX9_about_9 : ∀ w ∈ wsX90, w ∈ wsX9_about := fun _ h => List.mem_cons_of_mem _ (List.mem_append_left _ (List.mem_append_left _ (List.mem_append_left _ (List.mem_append_left _ (List.mem_append_right _ h)))))
set_option maxHeartbeats 8000000 in
set_option maxRecDepth 100000 in
theorem zX9_about (l : Launch) (D : va_G) (x : Nat → Nat) (cy : Nat → ClassId) (g : Nat → Nat → Option Nat) (L : List Nat) (K : Nat → Nat) (cf : Nat → Nat → Nat) (nm : Nat → Int32) (hG : GO L K g) (hL : PL L K cf) (S : CS) (hT : WT L K S.2) (sz : Nat) (ar1 : Int32) (ar2 : Int32)  (rv : Int32) (hF : gX9_about g cf nm S ar1 ar2 = some rv) : Met l yX9_about wsX9_about ({ frames := 1, cells := 0, slots := 0, locals := 23 }) (PW D (TYS cy) (ZW x cy g S ++ va_pl L (pf cy K cf nm S)) sz [.ref (x 0), .int ar1, .int ar2]) (va_Qi (fun (res : Int32) (u : Unit) => res = rv) (BU D (TYS cy) (ZW x cy g S ++ va_pl L (pf cy K cf nm S)) (fun _ => ZW x cy g S ++ va_pl L (pf cy K cf nm S)) sz) (va_A (ZW x cy g S ++ va_pl L (pf cy K cf nm S)) sz)) 0 0 (va_A (ZW x cy g S ++ va_pl L (pf cy K cf nm S)) sz) := by
  refine Met.ofW (cc := cX9_about) (maxL := 4) (ret := (some .int)) (by decide) rfl ?_
  intro p e s m args below meth c s₁ B hml hv
  obtain ⟨rfl, hsz, hP, hK, hD0⟩ := hv
  have hx := B.exec
  have hb := B.bytes
  have hr := B.returns
  have hts := atoms_spec (ws := wsX9_about) B.pre
  have hown : s.vm.findClass RX9 = some m.cls := findClass_of_methodNamed B.named
  have hlocks := B.notSynchronized
  subst hsz
  have hD := hD0.self (sz := s.heap.size)
  have hA : ∀ q9 : Nat, s.heap.size ≤ q9 → va_A (ZW x cy g S ++ va_pl L (pf cy K cf nm S)) s.heap.size q9 := fun q9 h => Or.inr h
  have hS : va_S (va_A (ZW x cy g S ++ va_pl L (pf cy K cf nm S)) s.heap.size) s.heap s.heap [] := va_S.rf
  have hl := lv_entry ([.ref (x 0), .int ar1, .int ar2]) (n := 4) (Nat.le_of_ble_eq_true rfl)
  rw [lg_entry_eq]
  generalize (lg_sl ([.ref (x 0), .int ar1, .int ar2]) ++ List.replicate (4 - (lg_sl ([.ref (x 0), .int ar1, .int ar2])).length) Slot.unset).toArray = ls at hl ⊢
  have hl : lv_has ls 4 [(0, .ref (x 0)), (1, .int ar1), (2, .int ar2)] := hl
  unfold gX9_about at hF
  refine lv_aload_n hx hb dX9_about_0 rfl (lv_at hl 0 rfl) ?_
  refine lv_iload_n hx hb dX9_about_1 rfl (lv_at hl 1 rfl) ?_
  obtain ⟨r1, hq4, hF⟩ := bd1_s hF
  refine gvI (As := [.int ar1]) (rest := []) ⟨hx, hb, hml, hown, hts⟩ (zX9_isReader l D x cy g L K cf nm hG hL S hT _ ar1  r1 hq4) (cwV 1 hts gX9_about_X9_isReader rfl rfl rfl (by decide +kernel) ⟨Nat.le_of_ble_eq_true rfl, Nat.le_of_ble_eq_true rfl⟩) hK hP hD hS hA (va_recv hK hP (ci := 9) (q0 := 0) rfl rfl) rfl hl.1 rfl (Nat.le_of_ble_eq_true rfl) dX9_about_2 ⟨Nat.le_of_ble_eq_true rfl, Nat.le_of_ble_eq_true rfl⟩ (fun a5 u9 H locs hw3 hP hD hS => ?_)
  have hP : va_P D vwCl (ZW x cy g S ++ va_pl L (pf cy K cf nm S)) H := hP
  have hD : va_D _ (ZW x cy g S ++ va_pl L (pf cy K cf nm S)) := hD
  refine lv_tov (v' := .int r1) (congrArg Value.int hw3.1) ?_
  refine lv_if_ne (tgt := 10) hx hb dX9_about_5 (by decide) (fun c6 => ?_) (fun c6 => ?_)
  · skip
    have hF := (if_neg c6).symm.trans hF
    refine lv_aload_n hx hb dX9_about_10 rfl (lv_at hl 0 rfl) ?_
    refine va_get (D := D) (ci := 9) (v := .ref (x 3)) (C := RX9) (T := TX9) (N := 19) hx hb hts iX9_about_9 hown hK hP 0 rfl rfl 2 (by decide) (hts (.fieldLink RX9 27 "FondsRoom" "readers" "[LFondsRoom$Reader;") (List.mem_of_getElem? (i := 1) rfl)) (fun _ h9 => h9) rfl dX9_about_11 ?_
    refine lv_iload_n hx hb dX9_about_14 rfl (lv_at hl 1 rfl) ?_
    obtain ⟨hi7, b8, eb8, hF⟩ := ga_s hF
    refine va_aldq hx hb hK hP 3 4 rfl rfl hi7 dX9_about_15 ?_
    refine lv_tov (v' := .ref b8) (by rw [eb8]; rfl) ?_
    have mb8 := GO_2 hG hi7 eb8
    refine lv_astore_n (lv' := [(3, .ref b8), (0, .ref (x 0)), (1, .int ar1), (2, .int ar2)]) hx hb dX9_about_16 rfl hl (by decide) rfl (fun ls hl => ?_)
    refine lv_iload_n hx hb dX9_about_17 rfl (lv_at hl 3 rfl) ?_
    by_cases j9 : ar2 = 0
    · skip
      have hF := (if_pos j9).symm.trans hF
      refine lv_tableIn (tgt := 76) hx hb dX9_about_18 (by rw [j9]; decide) (by rw [j9]; decide) (by rw [j9]; rfl) (by decide) ?_
      refine lv_aload_n hx hb dX9_about_76 rfl (lv_at hl 0 rfl) ?_
      refine pg_get (D := D) (ci := 6) (v := .int (S.1 125 b8)) (C := RX6) (T := TX6) (N := 17) hx hb hts iX9_about_6 hown hK hP mb8.1 (pf_6 mb8.2) rfl 5 (by decide) (hts (.fieldLink RX9 270 "FondsRoom$Reader" "state" "I") (List.mem_of_getElem? (i := 2) rfl)) (fun _ h9 => h9) rfl dX9_about_77 ?_
      have e1 := Option.some.inj hF
      exact W.iret (v := (S.1 125 b8)) hx hb hr (fun t ht hW => ⟨⟨(S.1 125 b8), (), rfl, e1, by rw [ht]; exact hP, va_K.moved hW.alike hK, hD⟩, hS.F ht⟩) hS.2.2 dX9_about_80
    replace hF := (if_neg j9).symm.trans hF
    by_cases j10 : ar2 = 1
    · skip
      have hF := (if_pos j10).symm.trans hF
      refine lv_tableIn (tgt := 81) hx hb dX9_about_18 (by rw [j10]; decide) (by rw [j10]; decide) (by rw [j10]; rfl) (by decide) ?_
      refine lv_aload_n hx hb dX9_about_81 rfl (lv_at hl 0 rfl) ?_
      refine pg_get (D := D) (ci := 6) (v := va_rf (S.2 127 b8)) (C := RX6) (T := TX6) (N := 17) hx hb hts iX9_about_6 hown hK hP mb8.1 (pf_6 mb8.2) rfl 7 (by decide) (hts (.fieldLink RX9 328 "FondsRoom$Reader" "desk" "LFondsRoom$Desk;") (List.mem_of_getElem? (i := 3) rfl)) (fun _ h9 => h9) rfl dX9_about_82 ?_
      obtain ⟨q11, eq11⟩ : ∃ z, z = S.2 127 b8 := ⟨_, rfl⟩
      replace hF := bnd_s hF q11 eq11
      have hq11 : rok L K 1 q11 := by rw [eq11]; exact hT 127 b8
      refine lv_tov (v' := va_rf q11) (by rw [eq11]) ?_
      rcases eb12 : q11 with _ | b12
      · skip
        subst eb12
        replace hF := oc_n hF
        have hl : lv_has ls 4 [(3, .ref b8), (0, .ref (x 0)), (1, .int ar1), (2, .int ar2)] := hl
        refine W.eq (g2 := F0 m 85 ls [.null]) rfl ?_
        refine lv_ifnonnullN hx hb dX9_about_85 ?_
        refine lv_iconst (v := (-1)) hx hb dX9_about_88 (by decide) ?_
        refine lv_goto (tgt := 99) hx hb dX9_about_89 (by decide) ?_
        have e1 := Option.some.inj hF
        exact W.iret (v := (-1)) hx hb hr (fun t ht hW => ⟨⟨(-1), (), rfl, e1, by rw [ht]; exact hP, va_K.moved hW.alike hK, hD⟩, hS.F ht⟩) hS.2.2 dX9_about_99
      · skip
        subst eb12
        replace hF := oc_b hF
        have mb12 := hq11 b12 rfl
        have hl : lv_has ls 4 [(3, .ref b8), (0, .ref (x 0)), (1, .int ar1), (2, .int ar2)] := hl
        refine W.eq (g2 := F0 m 85 ls [.ref b12]) rfl ?_
        refine lv_ifnonnull (tgt := 92) hx hb dX9_about_85 (by decide) ?_
        refine lv_aload_n hx hb dX9_about_92 rfl (lv_at hl 0 rfl) ?_
        refine pg_get (D := D) (ci := 6) (v := va_rf (S.2 127 b8)) (C := RX6) (T := TX6) (N := 17) hx hb hts iX9_about_6 hown hK hP mb8.1 (pf_6 mb8.2) rfl 7 (by decide) (hts (.fieldLink RX9 328 "FondsRoom$Reader" "desk" "LFondsRoom$Desk;") (List.mem_of_getElem? (i := 3) rfl)) (fun _ h9 => h9) rfl dX9_about_93 ?_
        obtain ⟨q13, eq13⟩ : ∃ z, z = S.2 127 b8 := ⟨_, rfl⟩
        replace hF := bnd_s hF q13 eq13
        have hq13 : rok L K 1 q13 := by rw [eq13]; exact hT 127 b8
        refine lv_tov (v' := va_rf q13) (by rw [eq13]) ?_
        obtain ⟨b14, eb14, hF9⟩ := sm_s hF
        clear hF
        have hF := hF9
        clear hF9
        subst eb14
        have mb14 := hq13 b14 rfl
        have hl : lv_has ls 4 [(3, .ref b8), (0, .ref (x 0)), (1, .int ar1), (2, .int ar2)] := hl
        refine W.eq (g2 := F0 m 96 ls [.ref b14]) rfl ?_
        refine pg_get (D := D) (ci := 1) (v := .int (nm b14)) (C := RX1) (T := TX1) (N := 3) hx hb hts iX9_about_1 hown hK hP mb14.1 (pf_1 mb14.2) rfl 0 (by decide) (hts (.fieldLink RX9 380 "FondsRoom$Desk" "number" "I") (List.mem_of_getElem? (i := 4) rfl)) (fun _ h9 => h9) rfl dX9_about_96 ?_
        have e1 := Option.some.inj hF
        exact W.iret (v := (nm b14)) hx hb hr (fun t ht hW => ⟨⟨(nm b14), (), rfl, e1, by rw [ht]; exact hP, va_K.moved hW.alike hK, hD⟩, hS.F ht⟩) hS.2.2 dX9_about_99
    replace hF := (if_neg j10).symm.trans hF
    by_cases j15 : ar2 = 2
    · skip
      have hF := (if_pos j15).symm.trans hF
      refine lv_tableIn (tgt := 100) hx hb dX9_about_18 (by rw [j15]; decide) (by rw [j15]; decide) (by rw [j15]; rfl) (by decide) ?_
      refine lv_aload_n hx hb dX9_about_100 rfl (lv_at hl 0 rfl) ?_
      refine pg_get (D := D) (ci := 6) (v := .ref (cf 0 b8)) (C := RX6) (T := TX6) (N := 17) hx hb hts iX9_about_6 hown hK hP mb8.1 (pf_6 mb8.2) rfl 1 (by decide) (hts (.fieldLink RX9 135 "FondsRoom$Reader" "plan" "LFondsRoom$Plan;") (List.mem_of_getElem? (i := 5) rfl)) (fun _ h9 => h9) rfl dX9_about_101 ?_
      obtain ⟨p16, ep16⟩ : ∃ z, z = cf 0 b8 := ⟨_, rfl⟩
      replace hF := bnd_s hF p16 ep16
      have mp16 : p16 ∈ L ∧ K p16 = 5 := by rw [ep16]; exact (hL _ mb8.1).2.1 mb8.2
      refine lv_tov (v' := .ref p16) (by rw [ep16]) ?_
      refine pg_get (D := D) (ci := 5) (v := .int (S.1 106 p16)) (C := RX5) (T := TX5) (N := 8) hx hb hts iX9_about_5 hown hK hP mp16.1 (pf_5 mp16.2) rfl 6 (by decide) (hts (.fieldLink RX9 290 "FondsRoom$Plan" "begun" "I") (List.mem_of_getElem? (i := 6) rfl)) (fun _ h9 => h9) rfl dX9_about_104 ?_
      have e1 := Option.some.inj hF
      exact W.iret (v := (S.1 106 p16)) hx hb hr (fun t ht hW => ⟨⟨(S.1 106 p16), (), rfl, e1, by rw [ht]; exact hP, va_K.moved hW.alike hK, hD⟩, hS.F ht⟩) hS.2.2 dX9_about_107
    replace hF := (if_neg j15).symm.trans hF
    by_cases j17 : ar2 = 3
    · skip
      have hF := (if_pos j17).symm.trans hF
      refine lv_tableIn (tgt := 108) hx hb dX9_about_18 (by rw [j17]; decide) (by rw [j17]; decide) (by rw [j17]; rfl) (by decide) ?_
      refine lv_aload_n hx hb dX9_about_108 rfl (lv_at hl 1 rfl) ?_
      refine lv_aload_n hx hb dX9_about_109 rfl (lv_at hl 0 rfl) ?_
      obtain ⟨r18, hq21, hF⟩ := bd1_s hF
      refine gvI (As := [.ref b8]) (rest := []) ⟨hx, hb, hml, hown, hts⟩ (zX9_heldBy l D x cy g L K cf nm hG hL S hT _ b8 ⟨mb8.1, mb8.2⟩ r18 hq21) (cwV 1 hts gX9_about_X9_heldBy rfl rfl rfl (by decide +kernel) ⟨Nat.le_of_ble_eq_true rfl, Nat.le_of_ble_eq_true rfl⟩) hK hP hD hS hA (va_recv hK hP (ci := 9) (q0 := 0) rfl rfl) rfl hl.1 rfl (Nat.le_of_ble_eq_true rfl) dX9_about_110 ⟨Nat.le_of_ble_eq_true rfl, Nat.le_of_ble_eq_true rfl⟩ (fun a22 u9 H locs hw20 hP hD hS => ?_)
      have hP : va_P D vwCl (ZW x cy g S ++ va_pl L (pf cy K cf nm S)) H := hP
      have hD : va_D _ (ZW x cy g S ++ va_pl L (pf cy K cf nm S)) := hD
      refine lv_tov (v' := .int r18) (congrArg Value.int hw20) ?_
      have e1 := Option.some.inj hF
      exact W.iret (v := r18) hx hb hr (fun t ht hW => ⟨⟨r18, (), rfl, e1, by rw [ht]; exact hP, va_K.moved hW.alike hK, hD⟩, hS.F ht⟩) hS.2.2 dX9_about_113
    replace hF := (if_neg j17).symm.trans hF
    by_cases j23 : ar2 = 4
    · skip
      have hF := (if_pos j23).symm.trans hF
      refine lv_tableIn (tgt := 114) hx hb dX9_about_18 (by rw [j23]; decide) (by rw [j23]; decide) (by rw [j23]; rfl) (by decide) ?_
      refine lv_aload_n hx hb dX9_about_114 rfl (lv_at hl 0 rfl) ?_
      refine pg_get (D := D) (ci := 6) (v := .int (S.1 125 b8)) (C := RX6) (T := TX6) (N := 17) hx hb hts iX9_about_6 hown hK hP mb8.1 (pf_6 mb8.2) rfl 5 (by decide) (hts (.fieldLink RX9 270 "FondsRoom$Reader" "state" "I") (List.mem_of_getElem? (i := 2) rfl)) (fun _ h9 => h9) rfl dX9_about_115 ?_
      refine lv_iconst (v := 3) hx hb dX9_about_118 (by decide) ?_
      refine lv_icmp_ne (tgt := 129) hx hb dX9_about_119 (by decide) (fun c24 => ?_) (fun c24 => ?_)
      · skip
        have hF := (if_neg c24).symm.trans hF
        refine lv_iconst (v := 0) hx hb dX9_about_129 (by decide) ?_
        have e1 := Option.some.inj hF
        exact W.iret (v := 0) hx hb hr (fun t ht hW => ⟨⟨0, (), rfl, e1, by rw [ht]; exact hP, va_K.moved hW.alike hK, hD⟩, hS.F ht⟩) hS.2.2 dX9_about_130
      · skip
        have hF := (if_pos c24).symm.trans hF
        refine lv_aload_n hx hb dX9_about_122 rfl (lv_at hl 0 rfl) ?_
        refine pg_get (D := D) (ci := 6) (v := .int (S.1 129 b8)) (C := RX6) (T := TX6) (N := 17) hx hb hts iX9_about_6 hown hK hP mb8.1 (pf_6 mb8.2) rfl 9 (by decide) (hts (.fieldLink RX9 284 "FondsRoom$Reader" "readLeft" "I") (List.mem_of_getElem? (i := 7) rfl)) (fun _ h9 => h9) rfl dX9_about_123 ?_
        refine lv_goto (tgt := 130) hx hb dX9_about_126 (by decide) ?_
        have e1 := Option.some.inj hF
        exact W.iret (v := (S.1 129 b8)) hx hb hr (fun t ht hW => ⟨⟨(S.1 129 b8), (), rfl, e1, by rw [ht]; exact hP, va_K.moved hW.alike hK, hD⟩, hS.F ht⟩) hS.2.2 dX9_about_130
    replace hF := (if_neg j23).symm.trans hF
    by_cases j25 : ar2 = 5
    · skip
      have hF := (if_pos j25).symm.trans hF
      refine lv_tableIn (tgt := 131) hx hb dX9_about_18 (by rw [j25]; decide) (by rw [j25]; decide) (by rw [j25]; rfl) (by decide) ?_
      refine lv_aload_n hx hb dX9_about_131 rfl (lv_at hl 0 rfl) ?_
      refine pg_get (D := D) (ci := 6) (v := .int (S.1 132 b8)) (C := RX6) (T := TX6) (N := 17) hx hb hts iX9_about_6 hown hK hP mb8.1 (pf_6 mb8.2) rfl 12 (by decide) (hts (.fieldLink RX9 421 "FondsRoom$Reader" "waitedDesk" "I") (List.mem_of_getElem? (i := 8) rfl)) (fun _ h9 => h9) rfl dX9_about_132 ?_
      have e1 := Option.some.inj hF
      exact W.iret (v := (S.1 132 b8)) hx hb hr (fun t ht hW => ⟨⟨(S.1 132 b8), (), rfl, e1, by rw [ht]; exact hP, va_K.moved hW.alike hK, hD⟩, hS.F ht⟩) hS.2.2 dX9_about_135
    replace hF := (if_neg j25).symm.trans hF
    by_cases j26 : ar2 = 6
    · skip
      have hF := (if_pos j26).symm.trans hF
      refine lv_tableIn (tgt := 136) hx hb dX9_about_18 (by rw [j26]; decide) (by rw [j26]; decide) (by rw [j26]; rfl) (by decide) ?_
      refine lv_aload_n hx hb dX9_about_136 rfl (lv_at hl 0 rfl) ?_
      refine pg_get (D := D) (ci := 6) (v := .int (S.1 133 b8)) (C := RX6) (T := TX6) (N := 17) hx hb hts iX9_about_6 hown hK hP mb8.1 (pf_6 mb8.2) rfl 13 (by decide) (hts (.fieldLink RX9 424 "FondsRoom$Reader" "waitedBox" "I") (List.mem_of_getElem? (i := 9) rfl)) (fun _ h9 => h9) rfl dX9_about_137 ?_
      have e1 := Option.some.inj hF
      exact W.iret (v := (S.1 133 b8)) hx hb hr (fun t ht hW => ⟨⟨(S.1 133 b8), (), rfl, e1, by rw [ht]; exact hP, va_K.moved hW.alike hK, hD⟩, hS.F ht⟩) hS.2.2 dX9_about_140
    replace hF := (if_neg j26).symm.trans hF
    by_cases j27 : ar2 = 7
    · skip
      have hF := (if_pos j27).symm.trans hF
      refine lv_tableIn (tgt := 141) hx hb dX9_about_18 (by rw [j27]; decide) (by rw [j27]; decide) (by rw [j27]; rfl) (by decide) ?_
      refine lv_aload_n hx hb dX9_about_141 rfl (lv_at hl 0 rfl) ?_
      refine pg_get (D := D) (ci := 6) (v := .int (S.1 134 b8)) (C := RX6) (T := TX6) (N := 17) hx hb hts iX9_about_6 hown hK hP mb8.1 (pf_6 mb8.2) rfl 14 (by decide) (hts (.fieldLink RX9 427 "FondsRoom$Reader" "waitedCopy" "I") (List.mem_of_getElem? (i := 10) rfl)) (fun _ h9 => h9) rfl dX9_about_142 ?_
      have e1 := Option.some.inj hF
      exact W.iret (v := (S.1 134 b8)) hx hb hr (fun t ht hW => ⟨⟨(S.1 134 b8), (), rfl, e1, by rw [ht]; exact hP, va_K.moved hW.alike hK, hD⟩, hS.F ht⟩) hS.2.2 dX9_about_145
    replace hF := (if_neg j27).symm.trans hF
    by_cases j28 : ar2 = 8
    · skip
      have hF := (if_pos j28).symm.trans hF
      refine lv_tableIn (tgt := 146) hx hb dX9_about_18 (by rw [j28]; decide) (by rw [j28]; decide) (by rw [j28]; rfl) (by decide) ?_
      refine lv_aload_n hx hb dX9_about_146 rfl (lv_at hl 0 rfl) ?_
      refine pg_get (D := D) (ci := 6) (v := .int (S.1 135 b8)) (C := RX6) (T := TX6) (N := 17) hx hb hts iX9_about_6 hown hK hP mb8.1 (pf_6 mb8.2) rfl 15 (by decide) (hts (.fieldLink RX9 377 "FondsRoom$Reader" "overtaken" "I") (List.mem_of_getElem? (i := 11) rfl)) (fun _ h9 => h9) rfl dX9_about_147 ?_
      have e1 := Option.some.inj hF
      exact W.iret (v := (S.1 135 b8)) hx hb hr (fun t ht hW => ⟨⟨(S.1 135 b8), (), rfl, e1, by rw [ht]; exact hP, va_K.moved hW.alike hK, hD⟩, hS.F ht⟩) hS.2.2 dX9_about_150
    replace hF := (if_neg j28).symm.trans hF
    by_cases j29 : ar2 = 9
    · skip
      have hF := (if_pos j29).symm.trans hF
      refine lv_tableIn (tgt := 151) hx hb dX9_about_18 (by rw [j29]; decide) (by rw [j29]; decide) (by rw [j29]; rfl) (by decide) ?_
      refine lv_aload_n hx hb dX9_about_151 rfl (lv_at hl 0 rfl) ?_
      refine pg_get (D := D) (ci := 6) (v := .int (S.1 136 b8)) (C := RX6) (T := TX6) (N := 17) hx hb hts iX9_about_6 hown hK hP mb8.1 (pf_6 mb8.2) rfl 16 (by decide) (hts (.fieldLink RX9 281 "FondsRoom$Reader" "copies" "I") (List.mem_of_getElem? (i := 12) rfl)) (fun _ h9 => h9) rfl dX9_about_152 ?_
      have e1 := Option.some.inj hF
      exact W.iret (v := (S.1 136 b8)) hx hb hr (fun t ht hW => ⟨⟨(S.1 136 b8), (), rfl, e1, by rw [ht]; exact hP, va_K.moved hW.alike hK, hD⟩, hS.F ht⟩) hS.2.2 dX9_about_155
    replace hF := (if_neg j29).symm.trans hF
    by_cases j30 : ar2 = 10
    · skip
      have hF := (if_pos j30).symm.trans hF
      refine lv_tableIn (tgt := 156) hx hb dX9_about_18 (by rw [j30]; decide) (by rw [j30]; decide) (by rw [j30]; rfl) (by decide) ?_
      refine lv_aload_n hx hb dX9_about_156 rfl (lv_at hl 0 rfl) ?_
      refine pg_get (D := D) (ci := 6) (v := .ref (cf 0 b8)) (C := RX6) (T := TX6) (N := 17) hx hb hts iX9_about_6 hown hK hP mb8.1 (pf_6 mb8.2) rfl 1 (by decide) (hts (.fieldLink RX9 135 "FondsRoom$Reader" "plan" "LFondsRoom$Plan;") (List.mem_of_getElem? (i := 5) rfl)) (fun _ h9 => h9) rfl dX9_about_157 ?_
      obtain ⟨p31, ep31⟩ : ∃ z, z = cf 0 b8 := ⟨_, rfl⟩
      replace hF := bnd_s hF p31 ep31
      have mp31 : p31 ∈ L ∧ K p31 = 5 := by rw [ep31]; exact (hL _ mb8.1).2.1 mb8.2
      refine lv_tov (v' := .ref p31) (by rw [ep31]) ?_
      refine pg_get (D := D) (ci := 5) (v := .int (S.1 107 p31)) (C := RX5) (T := TX5) (N := 8) hx hb hts iX9_about_5 hown hK hP mp31.1 (pf_5 mp31.2) rfl 7 (by decide) (hts (.fieldLink RX9 430 "FondsRoom$Plan" "refusals" "I") (List.mem_of_getElem? (i := 13) rfl)) (fun _ h9 => h9) rfl dX9_about_160 ?_
      have e1 := Option.some.inj hF
      exact W.iret (v := (S.1 107 p31)) hx hb hr (fun t ht hW => ⟨⟨(S.1 107 p31), (), rfl, e1, by rw [ht]; exact hP, va_K.moved hW.alike hK, hD⟩, hS.F ht⟩) hS.2.2 dX9_about_163
    replace hF := (if_neg j30).symm.trans hF
    have zj9 : (ar2).toInt ≠ 0 := fun h9 => j9 ((fa_eq _ _).mpr (h9.trans (by decide)))
    have zj10 : (ar2).toInt ≠ 1 := fun h9 => j10 ((fa_eq _ _).mpr (h9.trans (by decide)))
    have zj15 : (ar2).toInt ≠ 2 := fun h9 => j15 ((fa_eq _ _).mpr (h9.trans (by decide)))
    have zj17 : (ar2).toInt ≠ 3 := fun h9 => j17 ((fa_eq _ _).mpr (h9.trans (by decide)))
    have zj23 : (ar2).toInt ≠ 4 := fun h9 => j23 ((fa_eq _ _).mpr (h9.trans (by decide)))
    have zj25 : (ar2).toInt ≠ 5 := fun h9 => j25 ((fa_eq _ _).mpr (h9.trans (by decide)))
    have zj26 : (ar2).toInt ≠ 6 := fun h9 => j26 ((fa_eq _ _).mpr (h9.trans (by decide)))
    have zj27 : (ar2).toInt ≠ 7 := fun h9 => j27 ((fa_eq _ _).mpr (h9.trans (by decide)))
    have zj28 : (ar2).toInt ≠ 8 := fun h9 => j28 ((fa_eq _ _).mpr (h9.trans (by decide)))
    have zj29 : (ar2).toInt ≠ 9 := fun h9 => j29 ((fa_eq _ _).mpr (h9.trans (by decide)))
    have zj30 : (ar2).toInt ≠ 10 := fun h9 => j30 ((fa_eq _ _).mpr (h9.trans (by decide)))
    refine lv_tableOut (tgt := 164) hx hb dX9_about_18 (by omega) (by decide) ?_
    refine lv_iconst (v := (-1)) hx hb dX9_about_164 (by decide) ?_
    have e1 := Option.some.inj hF
    exact W.iret (v := (-1)) hx hb hr (fun t ht hW => ⟨⟨(-1), (), rfl, e1, by rw [ht]; exact hP, va_K.moved hW.alike hK, hD⟩, hS.F ht⟩) hS.2.2 dX9_about_165
  · skip
    have hF := (if_pos c6).symm.trans hF
    refine lv_iconst (v := (-1)) hx hb dX9_about_8 (by decide) ?_
    have e1 := Option.some.inj hF
    exact W.iret (v := (-1)) hx hb hr (fun t ht hW => ⟨⟨(-1), (), rfl, e1, by rw [ht]; exact hP, va_K.moved hW.alike hK, hD⟩, hS.F ht⟩) hS.2.2 dX9_about_9

theorem iX9_held_0 : ∀ w ∈ wsX00, w ∈ wsX9_held := fun _ h => List.mem_cons_of_mem _ (List.mem_append_right _ h)
theorem iX9_held_9 : ∀ w ∈ wsX90, w ∈ wsX9_held := fun _ h => List.mem_cons_of_mem _ (List.mem_append_left _ (List.mem_append_right _ h))
set_option maxHeartbeats 8000000 in
set_option maxRecDepth 100000 in
theorem zX9_held (l : Launch) (D : va_G) (x : Nat → Nat) (cy : Nat → ClassId) (g : Nat → Nat → Option Nat) (L : List Nat) (K : Nat → Nat) (cf : Nat → Nat → Nat) (nm : Nat → Int32) (hG : GO L K g) (hL : PL L K cf) (S : CS) (hT : WT L K S.2) (sz : Nat) (ar1 : Int32) (ar2 : Int32)  (rv : Int32) (hF : gX9_held g cf nm S ar1 ar2 = some rv) : Met l yX9_held wsX9_held ({ frames := 1, cells := 0, slots := 0, locals := 21 }) (PW D (TYS cy) (ZW x cy g S ++ va_pl L (pf cy K cf nm S)) sz [.ref (x 0), .int ar1, .int ar2]) (va_Qi (fun (res : Int32) (u : Unit) => res = rv) (BU D (TYS cy) (ZW x cy g S ++ va_pl L (pf cy K cf nm S)) (fun _ => ZW x cy g S ++ va_pl L (pf cy K cf nm S)) sz) (va_A (ZW x cy g S ++ va_pl L (pf cy K cf nm S)) sz)) 0 0 (va_A (ZW x cy g S ++ va_pl L (pf cy K cf nm S)) sz) := by
  refine Met.ofW (cc := cX9_held) (maxL := 5) (ret := (some .int)) (by decide) rfl ?_
  intro p e s m args below meth c s₁ B hml hv
  obtain ⟨rfl, hsz, hP, hK, hD0⟩ := hv
  have hx := B.exec
  have hb := B.bytes
  have hr := B.returns
  have hts := atoms_spec (ws := wsX9_held) B.pre
  have hown : s.vm.findClass RX9 = some m.cls := findClass_of_methodNamed B.named
  have hlocks := B.notSynchronized
  subst hsz
  have hD := hD0.self (sz := s.heap.size)
  have hA : ∀ q9 : Nat, s.heap.size ≤ q9 → va_A (ZW x cy g S ++ va_pl L (pf cy K cf nm S)) s.heap.size q9 := fun q9 h => Or.inr h
  have hS : va_S (va_A (ZW x cy g S ++ va_pl L (pf cy K cf nm S)) s.heap.size) s.heap s.heap [] := va_S.rf
  have key19 : ∀ (KK : Option (Int32)), (∀  (H : Heap) (locs : List Loc) (ls : Array Slot), KK  = some rv → va_P D vwCl (ZW x cy g S ++ va_pl L (pf cy K cf nm S)) H → va_D (va_A (ZW x cy g S ++ va_pl L (pf cy K cf nm S)) s.heap.size) (ZW x cy g S ++ va_pl L (pf cy K cf nm S)) → va_S (va_A (ZW x cy g S ++ va_pl L (pf cy K cf nm S)) s.heap.size) s.heap H locs → lv_has ls 5 [] → W p l e (headSpec wsX9_held ({ frames := 1, cells := 0, slots := 0, locals := 21 })).room s m #[.ref (x 0), .int ar1, .int ar2] below meth c H locs 0 0 (MQ below (va_Qi (fun (res : Int32) (u : Unit) => res = rv) (BU D (TYS cy) (ZW x cy g S ++ va_pl L (pf cy K cf nm S)) (fun _ => ZW x cy g S ++ va_pl L (pf cy K cf nm S)) s.heap.size) (va_A (ZW x cy g S ++ va_pl L (pf cy K cf nm S)) s.heap.size)) #[.ref (x 0), .int ar1, .int ar2] s 0 0 (va_A (ZW x cy g S ++ va_pl L (pf cy K cf nm S)) s.heap.size)) (F0 m 63 ls [])) → ∀ (fu : Nat) (v1 : Int32) (v3 : Int32) (v4 : Int32) (H : Heap) (locs : List Loc) (ls : Array Slot), gX9_held_19 S g cf nm KK fu v1 v3 v4 = some rv → va_P D vwCl (ZW x cy g S ++ va_pl L (pf cy K cf nm S)) H → va_D (va_A (ZW x cy g S ++ va_pl L (pf cy K cf nm S)) s.heap.size) (ZW x cy g S ++ va_pl L (pf cy K cf nm S)) → va_S (va_A (ZW x cy g S ++ va_pl L (pf cy K cf nm S)) s.heap.size) s.heap H locs → lv_has ls 5 [(1, .int v1), (3, .int v3), (4, .int v4), (0, .ref (x 0))] → W p l e (headSpec wsX9_held ({ frames := 1, cells := 0, slots := 0, locals := 21 })).room s m #[.ref (x 0), .int ar1, .int ar2] below meth c H locs 0 0 (MQ below (va_Qi (fun (res : Int32) (u : Unit) => res = rv) (BU D (TYS cy) (ZW x cy g S ++ va_pl L (pf cy K cf nm S)) (fun _ => ZW x cy g S ++ va_pl L (pf cy K cf nm S)) s.heap.size) (va_A (ZW x cy g S ++ va_pl L (pf cy K cf nm S)) s.heap.size)) #[.ref (x 0), .int ar1, .int ar2] s 0 0 (va_A (ZW x cy g S ++ va_pl L (pf cy K cf nm S)) s.heap.size)) (F0 m 19 ls []) := by
    intro KK hKK fu
    induction fu with
    | zero =>
      intro v1 v3 v4 H locs ls hF
      exact absurd (show (none : Option (Int32)) = some rv from hF) (by simp)
    | succ fu19 ih19 =>
      intro v1 v3 v4 H locs ls hF hP hD hS hl
      rw [gX9_held_19] at hF
      refine lv_iload hx hb dX9_held_19 (lv_at hl 2 rfl) ?_
      refine lv_aload_n hx hb dX9_held_21 rfl (lv_at hl 3 rfl) ?_
      refine va_get (D := D) (ci := 9) (v := .int (S.1 200 1)) (C := RX9) (T := TX9) (N := 19) hx hb hts iX9_held_9 hown hK hP 0 rfl rfl 11 (by decide) (hts (.fieldLink RX9 88 "FondsRoom" "boxCount" "I") (List.mem_of_getElem? (i := 1) rfl)) (fun _ h9 => h9) rfl dX9_held_22 ?_
      refine lv_icmp_ge (tgt := 63) hx hb dX9_held_25 (by decide) (fun c8 => ?_) (fun c8 => ?_)
      · skip
        have hF := (if_pos c8).symm.trans hF
        exact hKK   _ _ _ hF hP hD hS (lv_sub hl [] rfl)
      · skip
        have hF := (if_neg c8).symm.trans hF
        refine lv_aload_n hx hb dX9_held_28 rfl (lv_at hl 3 rfl) ?_
        refine va_get (D := D) (ci := 9) (v := .ref (x 2)) (C := RX9) (T := TX9) (N := 19) hx hb hts iX9_held_9 hown hK hP 0 rfl rfl 1 (by decide) (hts (.fieldLink RX9 20 "FondsRoom" "boxes" "[LFondsRoom$Box;") (List.mem_of_getElem? (i := 2) rfl)) (fun _ h9 => h9) rfl dX9_held_29 ?_
        refine lv_iload hx hb dX9_held_32 (lv_at hl 2 rfl) ?_
        obtain ⟨hi9, b10, eb10, hF⟩ := ga_s hF
        refine va_aldq hx hb hK hP 2 3 rfl rfl hi9 dX9_held_34 ?_
        refine lv_tov (v' := .ref b10) (by rw [eb10]; rfl) ?_
        have mb10 := GO_1 hG hi9 eb10
        refine pg_get (D := D) (ci := 0) (v := va_rf (S.2 4 b10)) (C := RX0) (T := TX0) (N := 6) hx hb hts iX9_held_0 hown hK hP mb10.1 (pf_0 mb10.2) rfl 4 (by decide) (hts (.fieldLink RX9 239 "FondsRoom$Box" "holder" "LFondsRoom$Reader;") (List.mem_of_getElem? (i := 3) rfl)) (fun _ h9 => h9) rfl dX9_held_35 ?_
        obtain ⟨q11, eq11⟩ : ∃ z, z = S.2 4 b10 := ⟨_, rfl⟩
        replace hF := bnd_s hF q11 eq11
        have hq11 : rok L K 6 q11 := by rw [eq11]; exact hT 4 b10
        refine lv_tov (v' := va_rf q11) (by rw [eq11]) ?_
        refine lv_aload_n hx hb dX9_held_38 rfl (lv_at hl 3 rfl) ?_
        refine va_get (D := D) (ci := 9) (v := .ref (x 3)) (C := RX9) (T := TX9) (N := 19) hx hb hts iX9_held_9 hown hK hP 0 rfl rfl 2 (by decide) (hts (.fieldLink RX9 27 "FondsRoom" "readers" "[LFondsRoom$Reader;") (List.mem_of_getElem? (i := 4) rfl)) (fun _ h9 => h9) rfl dX9_held_39 ?_
        refine lv_iload_n hx hb dX9_held_42 rfl (lv_at hl 0 rfl) ?_
        obtain ⟨hi12, b13, eb13, hF⟩ := ga_s hF
        refine va_aldq hx hb hK hP 3 4 rfl rfl hi12 dX9_held_43 ?_
        refine lv_tov (v' := .ref b13) (by rw [eb13]; rfl) ?_
        have mb13 := GO_2 hG hi12 eb13
        refine lv_acmp_ne (rx := q11) (ry := (some b13)) (tgt := 57) hx hb dX9_held_44 (by decide) (fun c14 => ?_) (fun c14 => ?_)
        · skip
          have hF := (if_neg c14).symm.trans hF
          refine lv_iinc (v := v4 + 1) (lv' := [(4, .int (v4 + 1)), (1, .int v1), (3, .int v3), (0, .ref (x 0))]) hx hb dX9_held_57 hl (k := 2) rfl rfl (by decide) rfl (fun ls hl => ?_)
          refine lv_goto (tgt := 19) hx hb dX9_held_60 (by decide) ?_
          exact ih19 v1 v3 (v4 + 1)  _ _ _ hF hP hD hS (lv_sub hl [1, 2, 0, 3] rfl)
        · skip
          have hF := (if_pos c14).symm.trans hF
          refine lv_iload_n hx hb dX9_held_47 rfl (lv_at hl 1 rfl) ?_
          refine lv_if_ne (tgt := 54) hx hb dX9_held_48 (by decide) (fun c15 => ?_) (fun c15 => ?_)
          · skip
            have hF := (if_neg c15).symm.trans hF
            refine lv_iinc (v := v3 + (-1)) (lv' := [(3, .int (v3 + (-1))), (1, .int v1), (4, .int v4), (0, .ref (x 0))]) hx hb dX9_held_54 hl (k := 1) rfl rfl (by decide) rfl (fun ls hl => ?_)
            refine lv_iinc (v := v4 + 1) (lv' := [(4, .int (v4 + 1)), (3, .int (v3 + (-1))), (1, .int v1), (0, .ref (x 0))]) hx hb dX9_held_57 hl (k := 2) rfl rfl (by decide) rfl (fun ls hl => ?_)
            refine lv_goto (tgt := 19) hx hb dX9_held_60 (by decide) ?_
            exact ih19 v1 (v3 + (-1)) (v4 + 1)  _ _ _ hF hP hD hS (lv_sub hl [2, 1, 0, 3] rfl)
          · skip
            have hF := (if_pos c15).symm.trans hF
            refine lv_iload hx hb dX9_held_51 (lv_at hl 2 rfl) ?_
            have e1 := Option.some.inj hF
            exact W.iret (v := v4) hx hb hr (fun t ht hW => ⟨⟨v4, (), rfl, e1, by rw [ht]; exact hP, va_K.moved hW.alike hK, hD⟩, hS.F ht⟩) hS.2.2 dX9_held_53
  have hl := lv_entry ([.ref (x 0), .int ar1, .int ar2]) (n := 5) (Nat.le_of_ble_eq_true rfl)
  rw [lg_entry_eq]
  generalize (lg_sl ([.ref (x 0), .int ar1, .int ar2]) ++ List.replicate (5 - (lg_sl ([.ref (x 0), .int ar1, .int ar2])).length) Slot.unset).toArray = ls at hl ⊢
  have hl : lv_has ls 5 [(0, .ref (x 0)), (1, .int ar1), (2, .int ar2)] := hl
  unfold gX9_held at hF
  refine lv_aload_n hx hb dX9_held_0 rfl (lv_at hl 0 rfl) ?_
  refine lv_iload_n hx hb dX9_held_1 rfl (lv_at hl 1 rfl) ?_
  obtain ⟨r1, hq4, hF⟩ := bd1_s hF
  refine gvI (As := [.int ar1]) (rest := []) ⟨hx, hb, hml, hown, hts⟩ (zX9_isReader l D x cy g L K cf nm hG hL S hT _ ar1  r1 hq4) (cwV 1 hts gX9_held_X9_isReader rfl rfl rfl (by decide +kernel) ⟨Nat.le_of_ble_eq_true rfl, Nat.le_of_ble_eq_true rfl⟩) hK hP hD hS hA (va_recv hK hP (ci := 9) (q0 := 0) rfl rfl) rfl hl.1 rfl (Nat.le_of_ble_eq_true rfl) dX9_held_2 ⟨Nat.le_of_ble_eq_true rfl, Nat.le_of_ble_eq_true rfl⟩ (fun a5 u9 H locs hw3 hP hD hS => ?_)
  have hP : va_P D vwCl (ZW x cy g S ++ va_pl L (pf cy K cf nm S)) H := hP
  have hD : va_D _ (ZW x cy g S ++ va_pl L (pf cy K cf nm S)) := hD
  refine lv_tov (v' := .int r1) (congrArg Value.int hw3.1) ?_
  refine lv_if_eq (tgt := 12) hx hb dX9_held_5 (by decide) (fun c6 => ?_) (fun c6 => ?_)
  · skip
    have hF := (if_pos c6).symm.trans hF
    refine lv_iconst (v := (-1)) hx hb dX9_held_12 (by decide) ?_
    have e1 := Option.some.inj hF
    exact W.iret (v := (-1)) hx hb hr (fun t ht hW => ⟨⟨(-1), (), rfl, e1, by rw [ht]; exact hP, va_K.moved hW.alike hK, hD⟩, hS.F ht⟩) hS.2.2 dX9_held_13
  · skip
    have hF := (if_neg c6).symm.trans hF
    refine lv_iload_n hx hb dX9_held_8 rfl (lv_at hl 2 rfl) ?_
    refine lv_if_ge (tgt := 14) hx hb dX9_held_9 (by decide) (fun c7 => ?_) (fun c7 => ?_)
    · skip
      have hF := (if_pos c7).symm.trans hF
      refine lv_iload_n hx hb dX9_held_14 rfl (lv_at hl 2 rfl) ?_
      refine lv_istore_n (lv' := [(3, .int ar2), (0, .ref (x 0)), (1, .int ar1), (2, .int ar2)]) hx hb dX9_held_15 rfl hl (by decide) rfl (fun ls hl => ?_)
      refine lv_iconst (v := 0) hx hb dX9_held_16 (by decide) ?_
      refine lv_istore (lv' := [(4, .int 0), (3, .int ar2), (0, .ref (x 0)), (1, .int ar1), (2, .int ar2)]) hx hb dX9_held_17 hl (by decide) rfl (fun ls hl => ?_)
      refine key19 _ ?_ 1000 ar1 ar2 0  _ _ _ hF hP hD hS (lv_sub hl [3, 1, 0, 2] rfl)
      intro  H locs ls hF hP hD hS hl
      refine lv_iconst (v := (-1)) hx hb dX9_held_63 (by decide) ?_
      have e1 := Option.some.inj hF
      exact W.iret (v := (-1)) hx hb hr (fun t ht hW => ⟨⟨(-1), (), rfl, e1, by rw [ht]; exact hP, va_K.moved hW.alike hK, hD⟩, hS.F ht⟩) hS.2.2 dX9_held_64
    · skip
      have hF := (if_neg c7).symm.trans hF
      refine lv_iconst (v := (-1)) hx hb dX9_held_12 (by decide) ?_
      have e1 := Option.some.inj hF
      exact W.iret (v := (-1)) hx hb hr (fun t ht hW => ⟨⟨(-1), (), rfl, e1, by rw [ht]; exact hP, va_K.moved hW.alike hK, hD⟩, hS.F ht⟩) hS.2.2 dX9_held_13

theorem iX9_refused_6 : ∀ w ∈ wsX60, w ∈ wsX9_refused := fun _ h => List.mem_cons_of_mem _ (List.mem_append_left _ (List.mem_append_right _ h))
theorem iX9_refused_9 : ∀ w ∈ wsX90, w ∈ wsX9_refused := fun _ h => List.mem_cons_of_mem _ (List.mem_append_left _ (List.mem_append_left _ (List.mem_append_right _ h)))
set_option maxHeartbeats 8000000 in
set_option maxRecDepth 100000 in
theorem zX9_refused (l : Launch) (D : va_G) (x : Nat → Nat) (cy : Nat → ClassId) (g : Nat → Nat → Option Nat) (L : List Nat) (K : Nat → Nat) (cf : Nat → Nat → Nat) (nm : Nat → Int32) (hG : GO L K g) (hL : PL L K cf) (S : CS) (hT : WT L K S.2) (sz : Nat) (ar1 : Int32) (ar2 : Int32)  (rv : Int32) (hF : gX9_refused g cf nm S ar1 ar2 = some rv) : Met l yX9_refused wsX9_refused ({ frames := 1, cells := 0, slots := 0, locals := 21 }) (PW D (TYS cy) (ZW x cy g S ++ va_pl L (pf cy K cf nm S)) sz [.ref (x 0), .int ar1, .int ar2]) (va_Qi (fun (res : Int32) (u : Unit) => res = rv) (BU D (TYS cy) (ZW x cy g S ++ va_pl L (pf cy K cf nm S)) (fun _ => ZW x cy g S ++ va_pl L (pf cy K cf nm S)) sz) (va_A (ZW x cy g S ++ va_pl L (pf cy K cf nm S)) sz)) 0 0 (va_A (ZW x cy g S ++ va_pl L (pf cy K cf nm S)) sz) := by
  refine Met.ofW (cc := cX9_refused) (maxL := 3) (ret := (some .int)) (by decide) rfl ?_
  intro p e s m args below meth c s₁ B hml hv
  obtain ⟨rfl, hsz, hP, hK, hD0⟩ := hv
  have hx := B.exec
  have hb := B.bytes
  have hr := B.returns
  have hts := atoms_spec (ws := wsX9_refused) B.pre
  have hown : s.vm.findClass RX9 = some m.cls := findClass_of_methodNamed B.named
  have hlocks := B.notSynchronized
  subst hsz
  have hD := hD0.self (sz := s.heap.size)
  have hA : ∀ q9 : Nat, s.heap.size ≤ q9 → va_A (ZW x cy g S ++ va_pl L (pf cy K cf nm S)) s.heap.size q9 := fun q9 h => Or.inr h
  have hS : va_S (va_A (ZW x cy g S ++ va_pl L (pf cy K cf nm S)) s.heap.size) s.heap s.heap [] := va_S.rf
  have hl := lv_entry ([.ref (x 0), .int ar1, .int ar2]) (n := 3) (Nat.le_of_ble_eq_true rfl)
  rw [lg_entry_eq]
  generalize (lg_sl ([.ref (x 0), .int ar1, .int ar2]) ++ List.replicate (3 - (lg_sl ([.ref (x 0), .int ar1, .int ar2])).length) Slot.unset).toArray = ls at hl ⊢
  have hl : lv_has ls 3 [(0, .ref (x 0)), (1, .int ar1), (2, .int ar2)] := hl
  unfold gX9_refused at hF
  refine lv_aload_n hx hb dX9_refused_0 rfl (lv_at hl 0 rfl) ?_
  refine lv_iload_n hx hb dX9_refused_1 rfl (lv_at hl 1 rfl) ?_
  obtain ⟨r1, hq4, hF⟩ := bd1_s hF
  refine gvI (As := [.int ar1]) (rest := []) ⟨hx, hb, hml, hown, hts⟩ (zX9_isReader l D x cy g L K cf nm hG hL S hT _ ar1  r1 hq4) (cwV 1 hts gX9_refused_X9_isReader rfl rfl rfl (by decide +kernel) ⟨Nat.le_of_ble_eq_true rfl, Nat.le_of_ble_eq_true rfl⟩) hK hP hD hS hA (va_recv hK hP (ci := 9) (q0 := 0) rfl rfl) rfl hl.1 rfl (Nat.le_of_ble_eq_true rfl) dX9_refused_2 ⟨Nat.le_of_ble_eq_true rfl, Nat.le_of_ble_eq_true rfl⟩ (fun a5 u9 H locs hw3 hP hD hS => ?_)
  have hP : va_P D vwCl (ZW x cy g S ++ va_pl L (pf cy K cf nm S)) H := hP
  have hD : va_D _ (ZW x cy g S ++ va_pl L (pf cy K cf nm S)) := hD
  refine lv_tov (v' := .int r1) (congrArg Value.int hw3.1) ?_
  refine lv_if_ne (tgt := 10) hx hb dX9_refused_5 (by decide) (fun c6 => ?_) (fun c6 => ?_)
  · skip
    have hF := (if_neg c6).symm.trans hF
    refine lv_aload_n hx hb dX9_refused_10 rfl (lv_at hl 0 rfl) ?_
    refine va_get (D := D) (ci := 9) (v := .ref (x 3)) (C := RX9) (T := TX9) (N := 19) hx hb hts iX9_refused_9 hown hK hP 0 rfl rfl 2 (by decide) (hts (.fieldLink RX9 27 "FondsRoom" "readers" "[LFondsRoom$Reader;") (List.mem_of_getElem? (i := 1) rfl)) (fun _ h9 => h9) rfl dX9_refused_11 ?_
    refine lv_iload_n hx hb dX9_refused_14 rfl (lv_at hl 1 rfl) ?_
    obtain ⟨hi7, b8, eb8, hF⟩ := ga_s hF
    refine va_aldq hx hb hK hP 3 4 rfl rfl hi7 dX9_refused_15 ?_
    refine lv_tov (v' := .ref b8) (by rw [eb8]; rfl) ?_
    have mb8 := GO_2 hG hi7 eb8
    refine pg_get (D := D) (ci := 6) (v := .ref (cf 0 b8)) (C := RX6) (T := TX6) (N := 17) hx hb hts iX9_refused_6 hown hK hP mb8.1 (pf_6 mb8.2) rfl 1 (by decide) (hts (.fieldLink RX9 135 "FondsRoom$Reader" "plan" "LFondsRoom$Plan;") (List.mem_of_getElem? (i := 2) rfl)) (fun _ h9 => h9) rfl dX9_refused_16 ?_
    obtain ⟨p9, ep9⟩ : ∃ z, z = cf 0 b8 := ⟨_, rfl⟩
    replace hF := bnd_s hF p9 ep9
    have mp9 : p9 ∈ L ∧ K p9 = 5 := by rw [ep9]; exact (hL _ mb8.1).2.1 mb8.2
    refine lv_tov (v' := .ref p9) (by rw [ep9]) ?_
    refine lv_iload_n hx hb dX9_refused_19 rfl (lv_at hl 2 rfl) ?_
    obtain ⟨r10, hq13, hF⟩ := bd1_s hF
    refine gvI (As := [.int ar2]) (rest := []) ⟨hx, hb, hml, hown, hts⟩ (zX5_refusalRule l D x cy g L K cf nm hG hL S hT _ p9 ar2 ⟨mp9.1, mp9.2⟩ r10 hq13) (cwV 1 hts gX9_refused_X5_refusalRule rfl rfl rfl (by decide +kernel) ⟨Nat.le_of_ble_eq_true rfl, Nat.le_of_ble_eq_true rfl⟩) hK hP hD hS hA (pl_recv hK hP (ci := 5) rfl mp9.1 (pf_5 mp9.2)) rfl hl.1 rfl (Nat.le_of_ble_eq_true rfl) dX9_refused_20 ⟨Nat.le_of_ble_eq_true rfl, Nat.le_of_ble_eq_true rfl⟩ (fun a14 u9 H locs hw12 hP hD hS => ?_)
    have hP : va_P D vwCl (ZW x cy g S ++ va_pl L (pf cy K cf nm S)) H := hP
    have hD : va_D _ (ZW x cy g S ++ va_pl L (pf cy K cf nm S)) := hD
    refine lv_tov (v' := .int r10) (congrArg Value.int hw12) ?_
    have e1 := Option.some.inj hF
    exact W.iret (v := r10) hx hb hr (fun t ht hW => ⟨⟨r10, (), rfl, e1, by rw [ht]; exact hP, va_K.moved hW.alike hK, hD⟩, hS.F ht⟩) hS.2.2 dX9_refused_23
  · skip
    have hF := (if_pos c6).symm.trans hF
    refine lv_iconst (v := (-1)) hx hb dX9_refused_8 (by decide) ?_
    have e1 := Option.some.inj hF
    exact W.iret (v := (-1)) hx hb hr (fun t ht hW => ⟨⟨(-1), (), rfl, e1, by rw [ht]; exact hP, va_K.moved hW.alike hK, hD⟩, hS.F ht⟩) hS.2.2 dX9_refused_9

theorem iX9_place_0 : ∀ w ∈ wsX00, w ∈ wsX9_place := fun _ h => List.mem_cons_of_mem _ (List.mem_append_right _ h)
theorem iX9_place_9 : ∀ w ∈ wsX90, w ∈ wsX9_place := fun _ h => List.mem_cons_of_mem _ (List.mem_append_left _ (List.mem_append_right _ h))
set_option maxHeartbeats 8000000 in
set_option maxRecDepth 100000 in
theorem zX9_place (l : Launch) (D : va_G) (x : Nat → Nat) (cy : Nat → ClassId) (g : Nat → Nat → Option Nat) (L : List Nat) (K : Nat → Nat) (cf : Nat → Nat → Nat) (nm : Nat → Int32) (hG : GO L K g) (hL : PL L K cf) (S : CS) (hT : WT L K S.2) (sz : Nat) (ar1 : Int32)  (rv : Int32) (hF : gX9_place g cf nm S ar1 = some rv) : Met l yX9_place wsX9_place ({ frames := 1, cells := 0, slots := 0, locals := 21 }) (PW D (TYS cy) (ZW x cy g S ++ va_pl L (pf cy K cf nm S)) sz [.ref (x 0), .int ar1]) (va_Qi (fun (res : Int32) (u : Unit) => res = rv) (BU D (TYS cy) (ZW x cy g S ++ va_pl L (pf cy K cf nm S)) (fun _ => ZW x cy g S ++ va_pl L (pf cy K cf nm S)) sz) (va_A (ZW x cy g S ++ va_pl L (pf cy K cf nm S)) sz)) 0 0 (va_A (ZW x cy g S ++ va_pl L (pf cy K cf nm S)) sz) := by
  refine Met.ofW (cc := cX9_place) (maxL := 2) (ret := (some .int)) (by decide) rfl ?_
  intro p e s m args below meth c s₁ B hml hv
  obtain ⟨rfl, hsz, hP, hK, hD0⟩ := hv
  have hx := B.exec
  have hb := B.bytes
  have hr := B.returns
  have hts := atoms_spec (ws := wsX9_place) B.pre
  have hown : s.vm.findClass RX9 = some m.cls := findClass_of_methodNamed B.named
  have hlocks := B.notSynchronized
  subst hsz
  have hD := hD0.self (sz := s.heap.size)
  have hA : ∀ q9 : Nat, s.heap.size ≤ q9 → va_A (ZW x cy g S ++ va_pl L (pf cy K cf nm S)) s.heap.size q9 := fun q9 h => Or.inr h
  have hS : va_S (va_A (ZW x cy g S ++ va_pl L (pf cy K cf nm S)) s.heap.size) s.heap s.heap [] := va_S.rf
  have hl := lv_entry ([.ref (x 0), .int ar1]) (n := 2) (Nat.le_of_ble_eq_true rfl)
  rw [lg_entry_eq]
  generalize (lg_sl ([.ref (x 0), .int ar1]) ++ List.replicate (2 - (lg_sl ([.ref (x 0), .int ar1])).length) Slot.unset).toArray = ls at hl ⊢
  have hl : lv_has ls 2 [(0, .ref (x 0)), (1, .int ar1)] := hl
  unfold gX9_place at hF
  refine lv_aload_n hx hb dX9_place_0 rfl (lv_at hl 0 rfl) ?_
  refine lv_iload_n hx hb dX9_place_1 rfl (lv_at hl 1 rfl) ?_
  obtain ⟨r1, hq4, hF⟩ := bd1_s hF
  refine gvI (As := [.int ar1]) (rest := []) ⟨hx, hb, hml, hown, hts⟩ (zX9_isBox l D x cy g L K cf nm hG hL S hT _ ar1  r1 hq4) (cwV 1 hts gX9_place_X9_isBox rfl rfl rfl (by decide +kernel) ⟨Nat.le_of_ble_eq_true rfl, Nat.le_of_ble_eq_true rfl⟩) hK hP hD hS hA (va_recv hK hP (ci := 9) (q0 := 0) rfl rfl) rfl hl.1 rfl (Nat.le_of_ble_eq_true rfl) dX9_place_2 ⟨Nat.le_of_ble_eq_true rfl, Nat.le_of_ble_eq_true rfl⟩ (fun a5 u9 H locs hw3 hP hD hS => ?_)
  have hP : va_P D vwCl (ZW x cy g S ++ va_pl L (pf cy K cf nm S)) H := hP
  have hD : va_D _ (ZW x cy g S ++ va_pl L (pf cy K cf nm S)) := hD
  refine lv_tov (v' := .int r1) (congrArg Value.int hw3.1) ?_
  refine lv_if_eq (tgt := 20) hx hb dX9_place_5 (by decide) (fun c6 => ?_) (fun c6 => ?_)
  · skip
    have hF := (if_pos c6).symm.trans hF
    refine lv_iconst (v := (-1)) hx hb dX9_place_20 (by decide) ?_
    have e1 := Option.some.inj hF
    exact W.iret (v := (-1)) hx hb hr (fun t ht hW => ⟨⟨(-1), (), rfl, e1, by rw [ht]; exact hP, va_K.moved hW.alike hK, hD⟩, hS.F ht⟩) hS.2.2 dX9_place_21
  · skip
    have hF := (if_neg c6).symm.trans hF
    refine lv_aload_n hx hb dX9_place_8 rfl (lv_at hl 0 rfl) ?_
    refine va_get (D := D) (ci := 9) (v := .ref (x 2)) (C := RX9) (T := TX9) (N := 19) hx hb hts iX9_place_9 hown hK hP 0 rfl rfl 1 (by decide) (hts (.fieldLink RX9 20 "FondsRoom" "boxes" "[LFondsRoom$Box;") (List.mem_of_getElem? (i := 1) rfl)) (fun _ h9 => h9) rfl dX9_place_9 ?_
    refine lv_iload_n hx hb dX9_place_12 rfl (lv_at hl 1 rfl) ?_
    obtain ⟨hi7, b8, eb8, hF⟩ := ga_s hF
    refine va_aldq hx hb hK hP 2 3 rfl rfl hi7 dX9_place_13 ?_
    refine lv_tov (v' := .ref b8) (by rw [eb8]; rfl) ?_
    have mb8 := GO_1 hG hi7 eb8
    refine pg_get (D := D) (ci := 0) (v := .int (S.1 3 b8)) (C := RX0) (T := TX0) (N := 6) hx hb hts iX9_place_0 hown hK hP mb8.1 (pf_0 mb8.2) rfl 3 (by decide) (hts (.fieldLink RX9 233 "FondsRoom$Box" "place" "I") (List.mem_of_getElem? (i := 2) rfl)) (fun _ h9 => h9) rfl dX9_place_14 ?_
    refine lv_goto (tgt := 21) hx hb dX9_place_17 (by decide) ?_
    have e1 := Option.some.inj hF
    exact W.iret (v := (S.1 3 b8)) hx hb hr (fun t ht hW => ⟨⟨(S.1 3 b8), (), rfl, e1, by rw [ht]; exact hP, va_K.moved hW.alike hK, hD⟩, hS.F ht⟩) hS.2.2 dX9_place_21

theorem iX9_whose_0 : ∀ w ∈ wsX00, w ∈ wsX9_whose := fun _ h => List.mem_cons_of_mem _ (List.mem_append_left _ (List.mem_append_right _ h))
theorem iX9_whose_9 : ∀ w ∈ wsX90, w ∈ wsX9_whose := fun _ h => List.mem_cons_of_mem _ (List.mem_append_left _ (List.mem_append_left _ (List.mem_append_right _ h)))
set_option maxHeartbeats 8000000 in
set_option maxRecDepth 100000 in
theorem zX9_whose (l : Launch) (D : va_G) (x : Nat → Nat) (cy : Nat → ClassId) (g : Nat → Nat → Option Nat) (L : List Nat) (K : Nat → Nat) (cf : Nat → Nat → Nat) (nm : Nat → Int32) (hG : GO L K g) (hL : PL L K cf) (S : CS) (hT : WT L K S.2) (sz : Nat) (ar1 : Int32)  (rv : Int32) (hF : gX9_whose g cf nm S ar1 = some rv) : Met l yX9_whose wsX9_whose ({ frames := 1, cells := 0, slots := 0, locals := 21 }) (PW D (TYS cy) (ZW x cy g S ++ va_pl L (pf cy K cf nm S)) sz [.ref (x 0), .int ar1]) (va_Qi (fun (res : Int32) (u : Unit) => res = rv) (BU D (TYS cy) (ZW x cy g S ++ va_pl L (pf cy K cf nm S)) (fun _ => ZW x cy g S ++ va_pl L (pf cy K cf nm S)) sz) (va_A (ZW x cy g S ++ va_pl L (pf cy K cf nm S)) sz)) 0 0 (va_A (ZW x cy g S ++ va_pl L (pf cy K cf nm S)) sz) := by
  refine Met.ofW (cc := cX9_whose) (maxL := 3) (ret := (some .int)) (by decide) rfl ?_
  intro p e s m args below meth c s₁ B hml hv
  obtain ⟨rfl, hsz, hP, hK, hD0⟩ := hv
  have hx := B.exec
  have hb := B.bytes
  have hr := B.returns
  have hts := atoms_spec (ws := wsX9_whose) B.pre
  have hown : s.vm.findClass RX9 = some m.cls := findClass_of_methodNamed B.named
  have hlocks := B.notSynchronized
  subst hsz
  have hD := hD0.self (sz := s.heap.size)
  have hA : ∀ q9 : Nat, s.heap.size ≤ q9 → va_A (ZW x cy g S ++ va_pl L (pf cy K cf nm S)) s.heap.size q9 := fun q9 h => Or.inr h
  have hS : va_S (va_A (ZW x cy g S ++ va_pl L (pf cy K cf nm S)) s.heap.size) s.heap s.heap [] := va_S.rf
  have hl := lv_entry ([.ref (x 0), .int ar1]) (n := 3) (Nat.le_of_ble_eq_true rfl)
  rw [lg_entry_eq]
  generalize (lg_sl ([.ref (x 0), .int ar1]) ++ List.replicate (3 - (lg_sl ([.ref (x 0), .int ar1])).length) Slot.unset).toArray = ls at hl ⊢
  have hl : lv_has ls 3 [(0, .ref (x 0)), (1, .int ar1)] := hl
  unfold gX9_whose at hF
  refine lv_aload_n hx hb dX9_whose_0 rfl (lv_at hl 0 rfl) ?_
  refine lv_iload_n hx hb dX9_whose_1 rfl (lv_at hl 1 rfl) ?_
  obtain ⟨r1, hq4, hF⟩ := bd1_s hF
  refine gvI (As := [.int ar1]) (rest := []) ⟨hx, hb, hml, hown, hts⟩ (zX9_isBox l D x cy g L K cf nm hG hL S hT _ ar1  r1 hq4) (cwV 1 hts gX9_whose_X9_isBox rfl rfl rfl (by decide +kernel) ⟨Nat.le_of_ble_eq_true rfl, Nat.le_of_ble_eq_true rfl⟩) hK hP hD hS hA (va_recv hK hP (ci := 9) (q0 := 0) rfl rfl) rfl hl.1 rfl (Nat.le_of_ble_eq_true rfl) dX9_whose_2 ⟨Nat.le_of_ble_eq_true rfl, Nat.le_of_ble_eq_true rfl⟩ (fun a5 u9 H locs hw3 hP hD hS => ?_)
  have hP : va_P D vwCl (ZW x cy g S ++ va_pl L (pf cy K cf nm S)) H := hP
  have hD : va_D _ (ZW x cy g S ++ va_pl L (pf cy K cf nm S)) := hD
  refine lv_tov (v' := .int r1) (congrArg Value.int hw3.1) ?_
  refine lv_if_ne (tgt := 10) hx hb dX9_whose_5 (by decide) (fun c6 => ?_) (fun c6 => ?_)
  · skip
    have hF := (if_neg c6).symm.trans hF
    refine lv_aload_n hx hb dX9_whose_10 rfl (lv_at hl 0 rfl) ?_
    refine va_get (D := D) (ci := 9) (v := .ref (x 2)) (C := RX9) (T := TX9) (N := 19) hx hb hts iX9_whose_9 hown hK hP 0 rfl rfl 1 (by decide) (hts (.fieldLink RX9 20 "FondsRoom" "boxes" "[LFondsRoom$Box;") (List.mem_of_getElem? (i := 1) rfl)) (fun _ h9 => h9) rfl dX9_whose_11 ?_
    refine lv_iload_n hx hb dX9_whose_14 rfl (lv_at hl 1 rfl) ?_
    obtain ⟨hi7, b8, eb8, hF⟩ := ga_s hF
    refine va_aldq hx hb hK hP 2 3 rfl rfl hi7 dX9_whose_15 ?_
    refine lv_tov (v' := .ref b8) (by rw [eb8]; rfl) ?_
    have mb8 := GO_1 hG hi7 eb8
    refine pg_get (D := D) (ci := 0) (v := va_rf (S.2 4 b8)) (C := RX0) (T := TX0) (N := 6) hx hb hts iX9_whose_0 hown hK hP mb8.1 (pf_0 mb8.2) rfl 4 (by decide) (hts (.fieldLink RX9 239 "FondsRoom$Box" "holder" "LFondsRoom$Reader;") (List.mem_of_getElem? (i := 2) rfl)) (fun _ h9 => h9) rfl dX9_whose_16 ?_
    obtain ⟨q9, eq9⟩ : ∃ z, z = S.2 4 b8 := ⟨_, rfl⟩
    replace hF := bnd_s hF q9 eq9
    have hq9 : rok L K 6 q9 := by rw [eq9]; exact hT 4 b8
    refine lv_tov (v' := va_rf q9) (by rw [eq9]) ?_
    refine lq_astore_n (lv' := [(2, va_rf q9), (0, .ref (x 0)), (1, .int ar1)]) hx hb dX9_whose_19 rfl hl (by decide) rfl (fun ls hl => ?_)
    refine lq_aload_n hx hb dX9_whose_20 rfl (lv_at hl 0 rfl) ?_
    rcases eb10 : q9 with _ | b10
    · skip
      subst eb10
      replace hF := oc_n hF
      have hl : lv_has ls 3 [(2, .null), (0, .ref (x 0)), (1, .int ar1)] := hl
      refine W.eq (g2 := F0 m 21 ls [.null]) rfl ?_
      refine lv_ifnullN (tgt := 28) hx hb dX9_whose_21 (by decide) ?_
      refine lv_aload_n hx hb dX9_whose_28 rfl (lv_at hl 1 rfl) ?_
      refine va_get (D := D) (ci := 9) (v := .ref (x 2)) (C := RX9) (T := TX9) (N := 19) hx hb hts iX9_whose_9 hown hK hP 0 rfl rfl 1 (by decide) (hts (.fieldLink RX9 20 "FondsRoom" "boxes" "[LFondsRoom$Box;") (List.mem_of_getElem? (i := 1) rfl)) (fun _ h9 => h9) rfl dX9_whose_29 ?_
      refine lv_iload_n hx hb dX9_whose_32 rfl (lv_at hl 2 rfl) ?_
      obtain ⟨hi11, b12, eb12, hF⟩ := ga_s hF
      refine va_aldq hx hb hK hP 2 3 rfl rfl hi11 dX9_whose_33 ?_
      refine lv_tov (v' := .ref b12) (by rw [eb12]; rfl) ?_
      have mb12 := GO_1 hG hi11 eb12
      refine pg_get (D := D) (ci := 0) (v := va_rf (S.2 5 b12)) (C := RX0) (T := TX0) (N := 6) hx hb hts iX9_whose_0 hown hK hP mb12.1 (pf_0 mb12.2) rfl 5 (by decide) (hts (.fieldLink RX9 260 "FondsRoom$Box" "wanter" "LFondsRoom$Reader;") (List.mem_of_getElem? (i := 3) rfl)) (fun _ h9 => h9) rfl dX9_whose_34 ?_
      obtain ⟨q13, eq13⟩ : ∃ z, z = S.2 5 b12 := ⟨_, rfl⟩
      replace hF := bnd_s hF q13 eq13
      have hq13 : rok L K 6 q13 := by rw [eq13]; exact hT 5 b12
      refine lv_tov (v' := va_rf q13) (by rw [eq13]) ?_
      obtain ⟨r14, hq17, hF⟩ := bd1_s hF
      refine gsI (As := [va_rf q13]) (rest := []) ⟨hx, hb, hml, hown, hts⟩ (zX9_numberOf l D x cy g L K cf nm hG hL S hT _ q13 hq13 r14 hq17) (va_cwS 1 hts gX9_whose_X9_numberOf rfl rfl rfl (by decide +kernel) ⟨Nat.le_of_ble_eq_true rfl, Nat.le_of_ble_eq_true rfl⟩) hK hP hD hS hA rfl hl.1 rfl (Nat.le_of_ble_eq_true rfl) dX9_whose_37 ⟨Nat.le_of_ble_eq_true rfl, Nat.le_of_ble_eq_true rfl⟩ (fun a18 u9 H locs hw16 hP hD hS => ?_)
      have hP : va_P D vwCl (ZW x cy g S ++ va_pl L (pf cy K cf nm S)) H := hP
      have hD : va_D _ (ZW x cy g S ++ va_pl L (pf cy K cf nm S)) := hD
      refine lv_tov (v' := .int r14) (congrArg Value.int hw16) ?_
      have e1 := Option.some.inj hF
      exact W.iret (v := r14) hx hb hr (fun t ht hW => ⟨⟨r14, (), rfl, e1, by rw [ht]; exact hP, va_K.moved hW.alike hK, hD⟩, hS.F ht⟩) hS.2.2 dX9_whose_40
    · skip
      subst eb10
      replace hF := oc_b hF
      have mb10 := hq9 b10 rfl
      have hl : lv_has ls 3 [(2, .ref b10), (0, .ref (x 0)), (1, .int ar1)] := hl
      refine W.eq (g2 := F0 m 21 ls [.ref b10]) rfl ?_
      refine lv_ifnull hx hb dX9_whose_21 ?_
      refine lv_aload_n hx hb dX9_whose_24 rfl (lv_at hl 0 rfl) ?_
      refine lv_goto (tgt := 37) hx hb dX9_whose_25 (by decide) ?_
      obtain ⟨r19, hq22, hF⟩ := bd1_s hF
      refine gsI (As := [va_rf (some b10)]) (rest := []) ⟨hx, hb, hml, hown, hts⟩ (zX9_numberOf l D x cy g L K cf nm hG hL S hT _ (some b10) (rok_some mb10.1 mb10.2) r19 hq22) (va_cwS 1 hts gX9_whose_X9_numberOf rfl rfl rfl (by decide +kernel) ⟨Nat.le_of_ble_eq_true rfl, Nat.le_of_ble_eq_true rfl⟩) hK hP hD hS hA rfl hl.1 rfl (Nat.le_of_ble_eq_true rfl) dX9_whose_37 ⟨Nat.le_of_ble_eq_true rfl, Nat.le_of_ble_eq_true rfl⟩ (fun a23 u9 H locs hw21 hP hD hS => ?_)
      have hP : va_P D vwCl (ZW x cy g S ++ va_pl L (pf cy K cf nm S)) H := hP
      have hD : va_D _ (ZW x cy g S ++ va_pl L (pf cy K cf nm S)) := hD
      refine lv_tov (v' := .int r19) (congrArg Value.int hw21) ?_
      have e1 := Option.some.inj hF
      exact W.iret (v := r19) hx hb hr (fun t ht hW => ⟨⟨r19, (), rfl, e1, by rw [ht]; exact hP, va_K.moved hW.alike hK, hD⟩, hS.F ht⟩) hS.2.2 dX9_whose_40
  · skip
    have hF := (if_pos c6).symm.trans hF
    refine lv_iconst (v := (-1)) hx hb dX9_whose_8 (by decide) ?_
    have e1 := Option.some.inj hF
    exact W.iret (v := (-1)) hx hb hr (fun t ht hW => ⟨⟨(-1), (), rfl, e1, by rw [ht]; exact hP, va_K.moved hW.alike hK, hD⟩, hS.F ht⟩) hS.2.2 dX9_whose_9

theorem iX9_seated_1 : ∀ w ∈ wsX10, w ∈ wsX9_seated := fun _ h => List.mem_cons_of_mem _ (List.mem_append_left _ (List.mem_append_right _ h))
theorem iX9_seated_9 : ∀ w ∈ wsX90, w ∈ wsX9_seated := fun _ h => List.mem_cons_of_mem _ (List.mem_append_left _ (List.mem_append_left _ (List.mem_append_right _ h)))
set_option maxHeartbeats 8000000 in
set_option maxRecDepth 100000 in
theorem zX9_seated (l : Launch) (D : va_G) (x : Nat → Nat) (cy : Nat → ClassId) (g : Nat → Nat → Option Nat) (L : List Nat) (K : Nat → Nat) (cf : Nat → Nat → Nat) (nm : Nat → Int32) (hG : GO L K g) (hL : PL L K cf) (S : CS) (hT : WT L K S.2) (sz : Nat) (ar1 : Int32)  (rv : Int32) (hF : gX9_seated g cf nm S ar1 = some rv) : Met l yX9_seated wsX9_seated ({ frames := 1, cells := 0, slots := 0, locals := 22 }) (PW D (TYS cy) (ZW x cy g S ++ va_pl L (pf cy K cf nm S)) sz [.ref (x 0), .int ar1]) (va_Qi (fun (res : Int32) (u : Unit) => res = rv) (BU D (TYS cy) (ZW x cy g S ++ va_pl L (pf cy K cf nm S)) (fun _ => ZW x cy g S ++ va_pl L (pf cy K cf nm S)) sz) (va_A (ZW x cy g S ++ va_pl L (pf cy K cf nm S)) sz)) 0 0 (va_A (ZW x cy g S ++ va_pl L (pf cy K cf nm S)) sz) := by
  refine Met.ofW (cc := cX9_seated) (maxL := 2) (ret := (some .int)) (by decide) rfl ?_
  intro p e s m args below meth c s₁ B hml hv
  obtain ⟨rfl, hsz, hP, hK, hD0⟩ := hv
  have hx := B.exec
  have hb := B.bytes
  have hr := B.returns
  have hts := atoms_spec (ws := wsX9_seated) B.pre
  have hown : s.vm.findClass RX9 = some m.cls := findClass_of_methodNamed B.named
  have hlocks := B.notSynchronized
  subst hsz
  have hD := hD0.self (sz := s.heap.size)
  have hA : ∀ q9 : Nat, s.heap.size ≤ q9 → va_A (ZW x cy g S ++ va_pl L (pf cy K cf nm S)) s.heap.size q9 := fun q9 h => Or.inr h
  have hS : va_S (va_A (ZW x cy g S ++ va_pl L (pf cy K cf nm S)) s.heap.size) s.heap s.heap [] := va_S.rf
  have hl := lv_entry ([.ref (x 0), .int ar1]) (n := 2) (Nat.le_of_ble_eq_true rfl)
  rw [lg_entry_eq]
  generalize (lg_sl ([.ref (x 0), .int ar1]) ++ List.replicate (2 - (lg_sl ([.ref (x 0), .int ar1])).length) Slot.unset).toArray = ls at hl ⊢
  have hl : lv_has ls 2 [(0, .ref (x 0)), (1, .int ar1)] := hl
  unfold gX9_seated at hF
  refine lv_iload_n hx hb dX9_seated_0 rfl (lv_at hl 1 rfl) ?_
  refine lv_iconst (v := 0) hx hb dX9_seated_1 (by decide) ?_
  refine lv_aload_n hx hb dX9_seated_2 rfl (lv_at hl 0 rfl) ?_
  refine va_get (D := D) (ci := 9) (v := .int (S.1 200 0)) (C := RX9) (T := TX9) (N := 19) hx hb hts iX9_seated_9 hown hK hP 0 rfl rfl 10 (by decide) (hts (.fieldLink RX9 81 "FondsRoom" "deskCount" "I") (List.mem_of_getElem? (i := 1) rfl)) (fun _ h9 => h9) rfl dX9_seated_3 ?_
  refine lv_iconst (v := 1) hx hb dX9_seated_6 (by decide) ?_
  refine lv_isub hx hb dX9_seated_7 ?_
  obtain ⟨r1, hq4, hF⟩ := bd1_s hF
  refine gsI (As := [.int ar1, .int 0, .int ((S.1 200 0) - 1)]) (rest := []) ⟨hx, hb, hml, hown, hts⟩ (zX9_isWithin l D x cy g L K cf nm hG hL S hT _ ar1 0 ((S.1 200 0) - 1)  r1 hq4) (va_cwS 3 hts gX9_seated_X9_isWithin rfl rfl rfl (by decide +kernel) ⟨Nat.le_of_ble_eq_true rfl, Nat.le_of_ble_eq_true rfl⟩) hK hP hD hS hA rfl hl.1 rfl (Nat.le_of_ble_eq_true rfl) dX9_seated_8 ⟨Nat.le_of_ble_eq_true rfl, Nat.le_of_ble_eq_true rfl⟩ (fun a5 u9 H locs hw3 hP hD hS => ?_)
  have hP : va_P D vwCl (ZW x cy g S ++ va_pl L (pf cy K cf nm S)) H := hP
  have hD : va_D _ (ZW x cy g S ++ va_pl L (pf cy K cf nm S)) := hD
  refine lv_tov (v' := .int r1) (congrArg Value.int hw3.1) ?_
  refine lv_if_eq (tgt := 29) hx hb dX9_seated_11 (by decide) (fun c6 => ?_) (fun c6 => ?_)
  · skip
    have hF := (if_pos c6).symm.trans hF
    refine lv_iconst (v := (-1)) hx hb dX9_seated_29 (by decide) ?_
    have e1 := Option.some.inj hF
    exact W.iret (v := (-1)) hx hb hr (fun t ht hW => ⟨⟨(-1), (), rfl, e1, by rw [ht]; exact hP, va_K.moved hW.alike hK, hD⟩, hS.F ht⟩) hS.2.2 dX9_seated_30
  · skip
    have hF := (if_neg c6).symm.trans hF
    refine lv_aload_n hx hb dX9_seated_14 rfl (lv_at hl 0 rfl) ?_
    refine va_get (D := D) (ci := 9) (v := .ref (x 1)) (C := RX9) (T := TX9) (N := 19) hx hb hts iX9_seated_9 hown hK hP 0 rfl rfl 0 (by decide) (hts (.fieldLink RX9 11 "FondsRoom" "desks" "[LFondsRoom$Desk;") (List.mem_of_getElem? (i := 2) rfl)) (fun _ h9 => h9) rfl dX9_seated_15 ?_
    refine lv_iload_n hx hb dX9_seated_18 rfl (lv_at hl 1 rfl) ?_
    obtain ⟨hi7, b8, eb8, hF⟩ := ga_s hF
    refine va_aldq hx hb hK hP 1 2 rfl rfl hi7 dX9_seated_19 ?_
    refine lv_tov (v' := .ref b8) (by rw [eb8]; rfl) ?_
    have mb8 := GO_0 hG hi7 eb8
    refine pg_get (D := D) (ci := 1) (v := va_rf (S.2 22 b8)) (C := RX1) (T := TX1) (N := 3) hx hb hts iX9_seated_1 hown hK hP mb8.1 (pf_1 mb8.2) rfl 2 (by decide) (hts (.fieldLink RX9 348 "FondsRoom$Desk" "sitter" "LFondsRoom$Reader;") (List.mem_of_getElem? (i := 3) rfl)) (fun _ h9 => h9) rfl dX9_seated_20 ?_
    obtain ⟨q9, eq9⟩ : ∃ z, z = S.2 22 b8 := ⟨_, rfl⟩
    replace hF := bnd_s hF q9 eq9
    have hq9 : rok L K 6 q9 := by rw [eq9]; exact hT 22 b8
    refine lv_tov (v' := va_rf q9) (by rw [eq9]) ?_
    obtain ⟨r10, hq13, hF⟩ := bd1_s hF
    refine gsI (As := [va_rf q9]) (rest := []) ⟨hx, hb, hml, hown, hts⟩ (zX9_numberOf l D x cy g L K cf nm hG hL S hT _ q9 hq9 r10 hq13) (va_cwS 1 hts gX9_seated_X9_numberOf rfl rfl rfl (by decide +kernel) ⟨Nat.le_of_ble_eq_true rfl, Nat.le_of_ble_eq_true rfl⟩) hK hP hD hS hA rfl hl.1 rfl (Nat.le_of_ble_eq_true rfl) dX9_seated_23 ⟨Nat.le_of_ble_eq_true rfl, Nat.le_of_ble_eq_true rfl⟩ (fun a14 u9 H locs hw12 hP hD hS => ?_)
    have hP : va_P D vwCl (ZW x cy g S ++ va_pl L (pf cy K cf nm S)) H := hP
    have hD : va_D _ (ZW x cy g S ++ va_pl L (pf cy K cf nm S)) := hD
    refine lv_tov (v' := .int r10) (congrArg Value.int hw12) ?_
    refine lv_goto (tgt := 30) hx hb dX9_seated_26 (by decide) ?_
    have e1 := Option.some.inj hF
    exact W.iret (v := r10) hx hb hr (fun t ht hW => ⟨⟨r10, (), rfl, e1, by rw [ht]; exact hP, va_K.moved hW.alike hK, hD⟩, hS.F ht⟩) hS.2.2 dX9_seated_30

theorem iX9_worker_0 : ∀ w ∈ wsX00, w ∈ wsX9_worker := fun _ h => List.mem_cons_of_mem _ (List.mem_append_right _ h)
theorem iX9_worker_7 : ∀ w ∈ wsX70, w ∈ wsX9_worker := fun _ h => List.mem_cons_of_mem _ (List.mem_append_left _ (List.mem_append_left _ (List.mem_append_right _ h)))
theorem iX9_worker_8 : ∀ w ∈ wsX80, w ∈ wsX9_worker := fun _ h => List.mem_cons_of_mem _ (List.mem_append_left _ (List.mem_append_right _ h))
theorem iX9_worker_9 : ∀ w ∈ wsX90, w ∈ wsX9_worker := fun _ h => List.mem_cons_of_mem _ (List.mem_append_left _ (List.mem_append_left _ (List.mem_append_left _ (List.mem_append_right _ h))))
set_option maxHeartbeats 8000000 in
set_option maxRecDepth 100000 in
theorem zX9_worker (l : Launch) (D : va_G) (x : Nat → Nat) (cy : Nat → ClassId) (g : Nat → Nat → Option Nat) (L : List Nat) (K : Nat → Nat) (cf : Nat → Nat → Nat) (nm : Nat → Int32) (hG : GO L K g) (hL : PL L K cf) (S : CS) (hT : WT L K S.2) (sz : Nat) (ar1 : Int32) (ar2 : Int32) (ar3 : Int32)  (rv : Int32) (hF : gX9_worker g cf nm S ar1 ar2 ar3 = some rv) : Met l yX9_worker wsX9_worker ({ frames := 2, cells := 0, slots := 0, locals := 43 }) (PW D (TYS cy) (ZW x cy g S ++ va_pl L (pf cy K cf nm S)) sz [.ref (x 0), .int ar1, .int ar2, .int ar3]) (va_Qi (fun (res : Int32) (u : Unit) => res = rv) (BU D (TYS cy) (ZW x cy g S ++ va_pl L (pf cy K cf nm S)) (fun _ => ZW x cy g S ++ va_pl L (pf cy K cf nm S)) sz) (va_A (ZW x cy g S ++ va_pl L (pf cy K cf nm S)) sz)) 0 0 (va_A (ZW x cy g S ++ va_pl L (pf cy K cf nm S)) sz) := by
  refine Met.ofW (cc := cX9_worker) (maxL := 5) (ret := (some .int)) (by decide) rfl ?_
  intro p e s m args below meth c s₁ B hml hv
  obtain ⟨rfl, hsz, hP, hK, hD0⟩ := hv
  have hx := B.exec
  have hb := B.bytes
  have hr := B.returns
  have hts := atoms_spec (ws := wsX9_worker) B.pre
  have hown : s.vm.findClass RX9 = some m.cls := findClass_of_methodNamed B.named
  have hlocks := B.notSynchronized
  subst hsz
  have hD := hD0.self (sz := s.heap.size)
  have hA : ∀ q9 : Nat, s.heap.size ≤ q9 → va_A (ZW x cy g S ++ va_pl L (pf cy K cf nm S)) s.heap.size q9 := fun q9 h => Or.inr h
  have hS : va_S (va_A (ZW x cy g S ++ va_pl L (pf cy K cf nm S)) s.heap.size) s.heap s.heap [] := va_S.rf
  have hl := lv_entry ([.ref (x 0), .int ar1, .int ar2, .int ar3]) (n := 5) (Nat.le_of_ble_eq_true rfl)
  rw [lg_entry_eq]
  generalize (lg_sl ([.ref (x 0), .int ar1, .int ar2, .int ar3]) ++ List.replicate (5 - (lg_sl ([.ref (x 0), .int ar1, .int ar2, .int ar3])).length) Slot.unset).toArray = ls at hl ⊢
  have hl : lv_has ls 5 [(0, .ref (x 0)), (1, .int ar1), (2, .int ar2), (3, .int ar3)] := hl
  unfold gX9_worker at hF
  refine lv_iload_n hx hb dX9_worker_0 rfl (lv_at hl 1 rfl) ?_
  refine lv_if_eq (tgt := 13) hx hb dX9_worker_1 (by decide) (fun c1 => ?_) (fun c1 => ?_)
  · skip
    have hF := (if_pos c1).symm.trans hF
    refine lv_iconst (v := (-1)) hx hb dX9_worker_13 (by decide) ?_
    have e1 := Option.some.inj hF
    exact W.iret (v := (-1)) hx hb hr (fun t ht hW => ⟨⟨(-1), (), rfl, e1, by rw [ht]; exact hP, va_K.moved hW.alike hK, hD⟩, hS.F ht⟩) hS.2.2 dX9_worker_14
  · skip
    have hF := (if_neg c1).symm.trans hF
    refine lv_aload_n hx hb dX9_worker_4 rfl (lv_at hl 0 rfl) ?_
    refine lv_iload_n hx hb dX9_worker_5 rfl (lv_at hl 1 rfl) ?_
    refine lv_iload_n hx hb dX9_worker_6 rfl (lv_at hl 2 rfl) ?_
    obtain ⟨r2, hq5, hF⟩ := bd1_s hF
    refine gvI (As := [.int ar1, .int ar2]) (rest := []) ⟨hx, hb, hml, hown, hts⟩ (zX9_isPerson l D x cy g L K cf nm hG hL S hT _ ar1 ar2  r2 hq5) (cwV 2 hts gX9_worker_X9_isPerson rfl rfl rfl (by decide +kernel) ⟨Nat.le_of_ble_eq_true rfl, Nat.le_of_ble_eq_true rfl⟩) hK hP hD hS hA (va_recv hK hP (ci := 9) (q0 := 0) rfl rfl) rfl hl.1 rfl (Nat.le_of_ble_eq_true rfl) dX9_worker_7 ⟨Nat.le_of_ble_eq_true rfl, Nat.le_of_ble_eq_true rfl⟩ (fun a6 u9 H locs hw4 hP hD hS => ?_)
    have hP : va_P D vwCl (ZW x cy g S ++ va_pl L (pf cy K cf nm S)) H := hP
    have hD : va_D _ (ZW x cy g S ++ va_pl L (pf cy K cf nm S)) := hD
    refine lv_tov (v' := .int r2) (congrArg Value.int hw4.1) ?_
    refine lv_if_ne (tgt := 15) hx hb dX9_worker_10 (by decide) (fun c7 => ?_) (fun c7 => ?_)
    · skip
      have hF := (if_neg c7).symm.trans hF
      refine lv_iload_n hx hb dX9_worker_15 rfl (lv_at hl 1 rfl) ?_
      refine lv_iconst (v := 1) hx hb dX9_worker_16 (by decide) ?_
      refine lv_icmp_ne (tgt := 32) hx hb dX9_worker_17 (by decide) (fun c8 => ?_) (fun c8 => ?_)
      · skip
        have hF := (if_neg c8).symm.trans hF
        refine lv_aload_n hx hb dX9_worker_32 rfl (lv_at hl 0 rfl) ?_
        refine va_get (D := D) (ci := 9) (v := .ref (x 6)) (C := RX9) (T := TX9) (N := 19) hx hb hts iX9_worker_9 hown hK hP 0 rfl rfl 4 (by decide) (hts (.fieldLink RX9 41 "FondsRoom" "copyists" "LFondsRoom$Staff;") (List.mem_of_getElem? (i := 3) rfl)) (fun _ h9 => h9) rfl dX9_worker_33 ?_
        refine va_get (D := D) (ci := 7) (v := .ref (x 7)) (C := RX7) (T := TX7) (N := 2) hx hb hts iX9_worker_7 hown hK hP 6 rfl rfl 0 (by decide) (hts (.fieldLink RX9 216 "FondsRoom$Staff" "workers" "[LFondsRoom$Worker;") (List.mem_of_getElem? (i := 2) rfl)) (fun _ h9 => h9) rfl dX9_worker_36 ?_
        refine lv_iload_n hx hb dX9_worker_39 rfl (lv_at hl 2 rfl) ?_
        obtain ⟨hi9, b10, eb10, hF⟩ := ga_s hF
        refine va_aldq hx hb hK hP 7 5 rfl rfl hi9 dX9_worker_40 ?_
        refine lv_tov (v' := .ref b10) (by rw [eb10]; rfl) ?_
        have mb10 := GO_4 hG hi9 eb10
        refine lv_astore (lv' := [(4, .ref b10), (0, .ref (x 0)), (1, .int ar1), (2, .int ar2), (3, .int ar3)]) hx hb dX9_worker_41 hl (by decide) rfl (fun ls hl => ?_)
        refine lv_iload_n hx hb dX9_worker_43 rfl (lv_at hl 4 rfl) ?_
        refine lv_if_ne (tgt := 68) hx hb dX9_worker_44 (by decide) (fun c11 => ?_) (fun c11 => ?_)
        · skip
          have hF := (if_neg c11).symm.trans hF
          refine lv_iload_n hx hb dX9_worker_68 rfl (lv_at hl 4 rfl) ?_
          refine lv_iconst (v := 1) hx hb dX9_worker_69 (by decide) ?_
          refine lv_icmp_ne (tgt := 81) hx hb dX9_worker_70 (by decide) (fun c12 => ?_) (fun c12 => ?_)
          · skip
            have hF := (if_neg c12).symm.trans hF
            refine lv_iconst (v := (-1)) hx hb dX9_worker_81 (by decide) ?_
            have e1 := Option.some.inj hF
            exact W.iret (v := (-1)) hx hb hr (fun t ht hW => ⟨⟨(-1), (), rfl, e1, by rw [ht]; exact hP, va_K.moved hW.alike hK, hD⟩, hS.F ht⟩) hS.2.2 dX9_worker_82
          · skip
            have hF := (if_pos c12).symm.trans hF
            refine lv_aload hx hb dX9_worker_73 (lv_at hl 0 rfl) ?_
            refine pg_get (D := D) (ci := 8) (v := .int (S.1 162 b10)) (C := RX8) (T := TX8) (N := 3) hx hb hts iX9_worker_8 hown hK hP mb10.1 (pf_8 mb10.2) rfl 2 (by decide) (hts (.fieldLink RX9 243 "FondsRoom$Worker" "left" "I") (List.mem_of_getElem? (i := 6) rfl)) (fun _ h9 => h9) rfl dX9_worker_75 ?_
            refine lv_goto (tgt := 82) hx hb dX9_worker_78 (by decide) ?_
            have e1 := Option.some.inj hF
            exact W.iret (v := (S.1 162 b10)) hx hb hr (fun t ht hW => ⟨⟨(S.1 162 b10), (), rfl, e1, by rw [ht]; exact hP, va_K.moved hW.alike hK, hD⟩, hS.F ht⟩) hS.2.2 dX9_worker_82
        · skip
          have hF := (if_pos c11).symm.trans hF
          refine lv_aload hx hb dX9_worker_47 (lv_at hl 0 rfl) ?_
          refine pg_get (D := D) (ci := 8) (v := va_rf (S.2 160 b10)) (C := RX8) (T := TX8) (N := 3) hx hb hts iX9_worker_8 hown hK hP mb10.1 (pf_8 mb10.2) rfl 0 (by decide) (hts (.fieldLink RX9 227 "FondsRoom$Worker" "box" "LFondsRoom$Box;") (List.mem_of_getElem? (i := 4) rfl)) (fun _ h9 => h9) rfl dX9_worker_49 ?_
          obtain ⟨q13, eq13⟩ : ∃ z, z = S.2 160 b10 := ⟨_, rfl⟩
          replace hF := bnd_s hF q13 eq13
          have hq13 : rok L K 0 q13 := by rw [eq13]; exact hT 160 b10
          refine lv_tov (v' := va_rf q13) (by rw [eq13]) ?_
          rcases eb14 : q13 with _ | b14
          · skip
            subst eb14
            replace hF := oc_n hF
            have hl : lv_has ls 5 [(4, .ref b10), (0, .ref (x 0)), (1, .int ar1), (2, .int ar2), (3, .int ar3)] := hl
            refine W.eq (g2 := F0 m 52 ls [.null]) rfl ?_
            refine lv_ifnonnullN hx hb dX9_worker_52 ?_
            refine lv_iconst (v := (-1)) hx hb dX9_worker_55 (by decide) ?_
            refine lv_goto (tgt := 67) hx hb dX9_worker_56 (by decide) ?_
            have e1 := Option.some.inj hF
            exact W.iret (v := (-1)) hx hb hr (fun t ht hW => ⟨⟨(-1), (), rfl, e1, by rw [ht]; exact hP, va_K.moved hW.alike hK, hD⟩, hS.F ht⟩) hS.2.2 dX9_worker_67
          · skip
            subst eb14
            replace hF := oc_b hF
            have mb14 := hq13 b14 rfl
            have hl : lv_has ls 5 [(4, .ref b10), (0, .ref (x 0)), (1, .int ar1), (2, .int ar2), (3, .int ar3)] := hl
            refine W.eq (g2 := F0 m 52 ls [.ref b14]) rfl ?_
            refine lv_ifnonnull (tgt := 59) hx hb dX9_worker_52 (by decide) ?_
            refine lv_aload hx hb dX9_worker_59 (lv_at hl 0 rfl) ?_
            refine pg_get (D := D) (ci := 8) (v := va_rf (S.2 160 b10)) (C := RX8) (T := TX8) (N := 3) hx hb hts iX9_worker_8 hown hK hP mb10.1 (pf_8 mb10.2) rfl 0 (by decide) (hts (.fieldLink RX9 227 "FondsRoom$Worker" "box" "LFondsRoom$Box;") (List.mem_of_getElem? (i := 4) rfl)) (fun _ h9 => h9) rfl dX9_worker_61 ?_
            obtain ⟨q15, eq15⟩ : ∃ z, z = S.2 160 b10 := ⟨_, rfl⟩
            replace hF := bnd_s hF q15 eq15
            have hq15 : rok L K 0 q15 := by rw [eq15]; exact hT 160 b10
            refine lv_tov (v' := va_rf q15) (by rw [eq15]) ?_
            obtain ⟨b16, eb16, hF9⟩ := sm_s hF
            clear hF
            have hF := hF9
            clear hF9
            subst eb16
            have mb16 := hq15 b16 rfl
            have hl : lv_has ls 5 [(4, .ref b10), (0, .ref (x 0)), (1, .int ar1), (2, .int ar2), (3, .int ar3)] := hl
            refine W.eq (g2 := F0 m 64 ls [.ref b16]) rfl ?_
            refine pg_get (D := D) (ci := 0) (v := .int (nm b16)) (C := RX0) (T := TX0) (N := 6) hx hb hts iX9_worker_0 hown hK hP mb16.1 (pf_0 mb16.2) rfl 0 (by decide) (hts (.fieldLink RX9 253 "FondsRoom$Box" "number" "I") (List.mem_of_getElem? (i := 5) rfl)) (fun _ h9 => h9) rfl dX9_worker_64 ?_
            have e1 := Option.some.inj hF
            exact W.iret (v := (nm b16)) hx hb hr (fun t ht hW => ⟨⟨(nm b16), (), rfl, e1, by rw [ht]; exact hP, va_K.moved hW.alike hK, hD⟩, hS.F ht⟩) hS.2.2 dX9_worker_67
      · skip
        have hF := (if_pos c8).symm.trans hF
        refine lv_aload_n hx hb dX9_worker_20 rfl (lv_at hl 0 rfl) ?_
        refine va_get (D := D) (ci := 9) (v := .ref (x 4)) (C := RX9) (T := TX9) (N := 19) hx hb hts iX9_worker_9 hown hK hP 0 rfl rfl 3 (by decide) (hts (.fieldLink RX9 37 "FondsRoom" "fetchers" "LFondsRoom$Staff;") (List.mem_of_getElem? (i := 1) rfl)) (fun _ h9 => h9) rfl dX9_worker_21 ?_
        refine va_get (D := D) (ci := 7) (v := .ref (x 5)) (C := RX7) (T := TX7) (N := 2) hx hb hts iX9_worker_7 hown hK hP 4 rfl rfl 0 (by decide) (hts (.fieldLink RX9 216 "FondsRoom$Staff" "workers" "[LFondsRoom$Worker;") (List.mem_of_getElem? (i := 2) rfl)) (fun _ h9 => h9) rfl dX9_worker_24 ?_
        refine lv_iload_n hx hb dX9_worker_27 rfl (lv_at hl 2 rfl) ?_
        obtain ⟨hi17, b18, eb18, hF⟩ := ga_s hF
        refine va_aldq hx hb hK hP 5 5 rfl rfl hi17 dX9_worker_28 ?_
        refine lv_tov (v' := .ref b18) (by rw [eb18]; rfl) ?_
        have mb18 := GO_3 hG hi17 eb18
        refine lv_goto (tgt := 41) hx hb dX9_worker_29 (by decide) ?_
        refine lv_astore (lv' := [(4, .ref b18), (0, .ref (x 0)), (1, .int ar1), (2, .int ar2), (3, .int ar3)]) hx hb dX9_worker_41 hl (by decide) rfl (fun ls hl => ?_)
        refine lv_iload_n hx hb dX9_worker_43 rfl (lv_at hl 4 rfl) ?_
        refine lv_if_ne (tgt := 68) hx hb dX9_worker_44 (by decide) (fun c19 => ?_) (fun c19 => ?_)
        · skip
          have hF := (if_neg c19).symm.trans hF
          refine lv_iload_n hx hb dX9_worker_68 rfl (lv_at hl 4 rfl) ?_
          refine lv_iconst (v := 1) hx hb dX9_worker_69 (by decide) ?_
          refine lv_icmp_ne (tgt := 81) hx hb dX9_worker_70 (by decide) (fun c20 => ?_) (fun c20 => ?_)
          · skip
            have hF := (if_neg c20).symm.trans hF
            refine lv_iconst (v := (-1)) hx hb dX9_worker_81 (by decide) ?_
            have e1 := Option.some.inj hF
            exact W.iret (v := (-1)) hx hb hr (fun t ht hW => ⟨⟨(-1), (), rfl, e1, by rw [ht]; exact hP, va_K.moved hW.alike hK, hD⟩, hS.F ht⟩) hS.2.2 dX9_worker_82
          · skip
            have hF := (if_pos c20).symm.trans hF
            refine lv_aload hx hb dX9_worker_73 (lv_at hl 0 rfl) ?_
            refine pg_get (D := D) (ci := 8) (v := .int (S.1 162 b18)) (C := RX8) (T := TX8) (N := 3) hx hb hts iX9_worker_8 hown hK hP mb18.1 (pf_8 mb18.2) rfl 2 (by decide) (hts (.fieldLink RX9 243 "FondsRoom$Worker" "left" "I") (List.mem_of_getElem? (i := 6) rfl)) (fun _ h9 => h9) rfl dX9_worker_75 ?_
            refine lv_goto (tgt := 82) hx hb dX9_worker_78 (by decide) ?_
            have e1 := Option.some.inj hF
            exact W.iret (v := (S.1 162 b18)) hx hb hr (fun t ht hW => ⟨⟨(S.1 162 b18), (), rfl, e1, by rw [ht]; exact hP, va_K.moved hW.alike hK, hD⟩, hS.F ht⟩) hS.2.2 dX9_worker_82
        · skip
          have hF := (if_pos c19).symm.trans hF
          refine lv_aload hx hb dX9_worker_47 (lv_at hl 0 rfl) ?_
          refine pg_get (D := D) (ci := 8) (v := va_rf (S.2 160 b18)) (C := RX8) (T := TX8) (N := 3) hx hb hts iX9_worker_8 hown hK hP mb18.1 (pf_8 mb18.2) rfl 0 (by decide) (hts (.fieldLink RX9 227 "FondsRoom$Worker" "box" "LFondsRoom$Box;") (List.mem_of_getElem? (i := 4) rfl)) (fun _ h9 => h9) rfl dX9_worker_49 ?_
          obtain ⟨q21, eq21⟩ : ∃ z, z = S.2 160 b18 := ⟨_, rfl⟩
          replace hF := bnd_s hF q21 eq21
          have hq21 : rok L K 0 q21 := by rw [eq21]; exact hT 160 b18
          refine lv_tov (v' := va_rf q21) (by rw [eq21]) ?_
          rcases eb22 : q21 with _ | b22
          · skip
            subst eb22
            replace hF := oc_n hF
            have hl : lv_has ls 5 [(4, .ref b18), (0, .ref (x 0)), (1, .int ar1), (2, .int ar2), (3, .int ar3)] := hl
            refine W.eq (g2 := F0 m 52 ls [.null]) rfl ?_
            refine lv_ifnonnullN hx hb dX9_worker_52 ?_
            refine lv_iconst (v := (-1)) hx hb dX9_worker_55 (by decide) ?_
            refine lv_goto (tgt := 67) hx hb dX9_worker_56 (by decide) ?_
            have e1 := Option.some.inj hF
            exact W.iret (v := (-1)) hx hb hr (fun t ht hW => ⟨⟨(-1), (), rfl, e1, by rw [ht]; exact hP, va_K.moved hW.alike hK, hD⟩, hS.F ht⟩) hS.2.2 dX9_worker_67
          · skip
            subst eb22
            replace hF := oc_b hF
            have mb22 := hq21 b22 rfl
            have hl : lv_has ls 5 [(4, .ref b18), (0, .ref (x 0)), (1, .int ar1), (2, .int ar2), (3, .int ar3)] := hl
            refine W.eq (g2 := F0 m 52 ls [.ref b22]) rfl ?_
            refine lv_ifnonnull (tgt := 59) hx hb dX9_worker_52 (by decide) ?_
            refine lv_aload hx hb dX9_worker_59 (lv_at hl 0 rfl) ?_
            refine pg_get (D := D) (ci := 8) (v := va_rf (S.2 160 b18)) (C := RX8) (T := TX8) (N := 3) hx hb hts iX9_worker_8 hown hK hP mb18.1 (pf_8 mb18.2) rfl 0 (by decide) (hts (.fieldLink RX9 227 "FondsRoom$Worker" "box" "LFondsRoom$Box;") (List.mem_of_getElem? (i := 4) rfl)) (fun _ h9 => h9) rfl dX9_worker_61 ?_
            obtain ⟨q23, eq23⟩ : ∃ z, z = S.2 160 b18 := ⟨_, rfl⟩
            replace hF := bnd_s hF q23 eq23
            have hq23 : rok L K 0 q23 := by rw [eq23]; exact hT 160 b18
            refine lv_tov (v' := va_rf q23) (by rw [eq23]) ?_
            obtain ⟨b24, eb24, hF9⟩ := sm_s hF
            clear hF
            have hF := hF9
            clear hF9
            subst eb24
            have mb24 := hq23 b24 rfl
            have hl : lv_has ls 5 [(4, .ref b18), (0, .ref (x 0)), (1, .int ar1), (2, .int ar2), (3, .int ar3)] := hl
            refine W.eq (g2 := F0 m 64 ls [.ref b24]) rfl ?_
            refine pg_get (D := D) (ci := 0) (v := .int (nm b24)) (C := RX0) (T := TX0) (N := 6) hx hb hts iX9_worker_0 hown hK hP mb24.1 (pf_0 mb24.2) rfl 0 (by decide) (hts (.fieldLink RX9 253 "FondsRoom$Box" "number" "I") (List.mem_of_getElem? (i := 5) rfl)) (fun _ h9 => h9) rfl dX9_worker_64 ?_
            have e1 := Option.some.inj hF
            exact W.iret (v := (nm b24)) hx hb hr (fun t ht hW => ⟨⟨(nm b24), (), rfl, e1, by rw [ht]; exact hP, va_K.moved hW.alike hK, hD⟩, hS.F ht⟩) hS.2.2 dX9_worker_67
    · skip
      have hF := (if_pos c7).symm.trans hF
      refine lv_iconst (v := (-1)) hx hb dX9_worker_13 (by decide) ?_
      have e1 := Option.some.inj hF
      exact W.iret (v := (-1)) hx hb hr (fun t ht hW => ⟨⟨(-1), (), rfl, e1, by rw [ht]; exact hP, va_K.moved hW.alike hK, hD⟩, hS.F ht⟩) hS.2.2 dX9_worker_14

theorem iX9_lineOf_9 : ∀ w ∈ wsX90, w ∈ wsX9_lineOf := fun _ h => List.mem_cons_of_mem _ (List.mem_append_right _ h)
set_option maxHeartbeats 8000000 in
set_option maxRecDepth 100000 in
theorem zX9_lineOf (l : Launch) (D : va_G) (x : Nat → Nat) (cy : Nat → ClassId) (g : Nat → Nat → Option Nat) (L : List Nat) (K : Nat → Nat) (cf : Nat → Nat → Nat) (nm : Nat → Int32) (hG : GO L K g) (hL : PL L K cf) (S : CS) (hT : WT L K S.2) (sz : Nat) (ar1 : Int32)  (rv : Option Nat) (hF : (if ar1 = 0 then (some (some (x 8))) else if ar1 = 1 then (some (some (x 10))) else if ar1 = 2 then (some (some (x 12))) else (some none)) = some rv) : Met l yX9_lineOf wsX9_lineOf ({ frames := 0, cells := 0, slots := 0, locals := 0 }) (PW D (TYS cy) (ZW x cy g S ++ va_pl L (pf cy K cf nm S)) sz [.ref (x 0), .int ar1]) (va_Qq (fun (res : Option Nat) (u : Unit) => res = rv) (BU D (TYS cy) (ZW x cy g S ++ va_pl L (pf cy K cf nm S)) (fun _ => ZW x cy g S ++ va_pl L (pf cy K cf nm S)) sz) (va_A (ZW x cy g S ++ va_pl L (pf cy K cf nm S)) sz)) 0 0 (va_A (ZW x cy g S ++ va_pl L (pf cy K cf nm S)) sz) := by
  refine Met.ofW (cc := cX9_lineOf) (maxL := 2) (ret := (some (.object "FondsRoom$Line"))) (by decide) rfl ?_
  intro p e s m args below meth c s₁ B hml hv
  obtain ⟨rfl, hsz, hP, hK, hD0⟩ := hv
  have hx := B.exec
  have hb := B.bytes
  have hr := B.returns
  have hts := atoms_spec (ws := wsX9_lineOf) B.pre
  have hown : s.vm.findClass RX9 = some m.cls := findClass_of_methodNamed B.named
  have hlocks := B.notSynchronized
  subst hsz
  have hD := hD0.self (sz := s.heap.size)
  have hA : ∀ q9 : Nat, s.heap.size ≤ q9 → va_A (ZW x cy g S ++ va_pl L (pf cy K cf nm S)) s.heap.size q9 := fun q9 h => Or.inr h
  have hS : va_S (va_A (ZW x cy g S ++ va_pl L (pf cy K cf nm S)) s.heap.size) s.heap s.heap [] := va_S.rf
  have hl := lv_entry ([.ref (x 0), .int ar1]) (n := 2) (Nat.le_of_ble_eq_true rfl)
  rw [lg_entry_eq]
  generalize (lg_sl ([.ref (x 0), .int ar1]) ++ List.replicate (2 - (lg_sl ([.ref (x 0), .int ar1])).length) Slot.unset).toArray = ls at hl ⊢
  have hl : lv_has ls 2 [(0, .ref (x 0)), (1, .int ar1)] := hl
  refine lv_iload_n hx hb dX9_lineOf_0 rfl (lv_at hl 1 rfl) ?_
  by_cases j1 : ar1 = 0
  · skip
    have hF := (if_pos j1).symm.trans hF
    refine lv_tableIn (tgt := 28) hx hb dX9_lineOf_1 (by rw [j1]; decide) (by rw [j1]; decide) (by rw [j1]; rfl) (by decide) ?_
    refine lv_aload_n hx hb dX9_lineOf_28 rfl (lv_at hl 0 rfl) ?_
    refine va_get (D := D) (ci := 9) (v := .ref (x 8)) (C := RX9) (T := TX9) (N := 19) hx hb hts iX9_lineOf_9 hown hK hP 0 rfl rfl 5 (by decide) (hts (.fieldLink RX9 47 "FondsRoom" "deskLine" "LFondsRoom$Line;") (List.mem_of_getElem? (i := 1) rfl)) (fun _ h9 => h9) rfl dX9_lineOf_29 ?_
    have e1 := Option.some.inj hF
    exact W.aret (v := .ref (x 8)) hx hb hr (Or.inl ⟨_, rfl⟩) (Or.inr ⟨_, rfl⟩) (fun t ht hW => ⟨⟨(some (x 8)), (), rfl, e1, by rw [ht]; exact hP, va_K.moved hW.alike hK, hD⟩, hS.F ht⟩) hS.2.2 dX9_lineOf_32
  replace hF := (if_neg j1).symm.trans hF
  by_cases j2 : ar1 = 1
  · skip
    have hF := (if_pos j2).symm.trans hF
    refine lv_tableIn (tgt := 33) hx hb dX9_lineOf_1 (by rw [j2]; decide) (by rw [j2]; decide) (by rw [j2]; rfl) (by decide) ?_
    refine lv_aload_n hx hb dX9_lineOf_33 rfl (lv_at hl 0 rfl) ?_
    refine va_get (D := D) (ci := 9) (v := .ref (x 10)) (C := RX9) (T := TX9) (N := 19) hx hb hts iX9_lineOf_9 hown hK hP 0 rfl rfl 6 (by decide) (hts (.fieldLink RX9 51 "FondsRoom" "boxTickets" "LFondsRoom$Line;") (List.mem_of_getElem? (i := 2) rfl)) (fun _ h9 => h9) rfl dX9_lineOf_34 ?_
    have e1 := Option.some.inj hF
    exact W.aret (v := .ref (x 10)) hx hb hr (Or.inl ⟨_, rfl⟩) (Or.inr ⟨_, rfl⟩) (fun t ht hW => ⟨⟨(some (x 10)), (), rfl, e1, by rw [ht]; exact hP, va_K.moved hW.alike hK, hD⟩, hS.F ht⟩) hS.2.2 dX9_lineOf_37
  replace hF := (if_neg j2).symm.trans hF
  by_cases j3 : ar1 = 2
  · skip
    have hF := (if_pos j3).symm.trans hF
    refine lv_tableIn (tgt := 38) hx hb dX9_lineOf_1 (by rw [j3]; decide) (by rw [j3]; decide) (by rw [j3]; rfl) (by decide) ?_
    refine lv_aload_n hx hb dX9_lineOf_38 rfl (lv_at hl 0 rfl) ?_
    refine va_get (D := D) (ci := 9) (v := .ref (x 12)) (C := RX9) (T := TX9) (N := 19) hx hb hts iX9_lineOf_9 hown hK hP 0 rfl rfl 7 (by decide) (hts (.fieldLink RX9 54 "FondsRoom" "copyTickets" "LFondsRoom$Line;") (List.mem_of_getElem? (i := 3) rfl)) (fun _ h9 => h9) rfl dX9_lineOf_39 ?_
    have e1 := Option.some.inj hF
    exact W.aret (v := .ref (x 12)) hx hb hr (Or.inl ⟨_, rfl⟩) (Or.inr ⟨_, rfl⟩) (fun t ht hW => ⟨⟨(some (x 12)), (), rfl, e1, by rw [ht]; exact hP, va_K.moved hW.alike hK, hD⟩, hS.F ht⟩) hS.2.2 dX9_lineOf_42
  replace hF := (if_neg j3).symm.trans hF
  have zj1 : (ar1).toInt ≠ 0 := fun h9 => j1 ((fa_eq _ _).mpr (h9.trans (by decide)))
  have zj2 : (ar1).toInt ≠ 1 := fun h9 => j2 ((fa_eq _ _).mpr (h9.trans (by decide)))
  have zj3 : (ar1).toInt ≠ 2 := fun h9 => j3 ((fa_eq _ _).mpr (h9.trans (by decide)))
  refine lv_tableOut (tgt := 43) hx hb dX9_lineOf_1 (by omega) (by decide) ?_
  refine lv_null hx hb dX9_lineOf_43 ?_
  have e1 := Option.some.inj hF
  exact W.aret (v := .null) hx hb hr (Or.inl ⟨_, rfl⟩) (Or.inl rfl) (fun t ht hW => ⟨⟨none, (), rfl, e1, by rw [ht]; exact hP, va_K.moved hW.alike hK, hD⟩, hS.F ht⟩) hS.2.2 dX9_lineOf_44

set_option maxHeartbeats 8000000 in
set_option maxRecDepth 100000 in
theorem zX9_waitsStill (l : Launch) (D : va_G) (x : Nat → Nat) (cy : Nat → ClassId) (g : Nat → Nat → Option Nat) (L : List Nat) (K : Nat → Nat) (cf : Nat → Nat → Nat) (nm : Nat → Int32) (hG : GO L K g) (hL : PL L K cf) (S : CS) (hT : WT L K S.2) (sz : Nat) (ar1 : Int32) (ar2 : Nat) (mar2 : ar2 ∈ L ∧ K ar2 = 6) (rv : Int32) (hF : gX9_waitsStill g cf nm S ar1 ar2 = some rv) : Met l yX9_waitsStill wsX9_waitsStill ({ frames := 1, cells := 0, slots := 0, locals := 21 }) (PW D (TYS cy) (ZW x cy g S ++ va_pl L (pf cy K cf nm S)) sz [.ref (x 0), .int ar1, .ref ar2]) (va_Qi (fun (res : Int32) (u : Unit) => res = rv ∧ b01 rv) (BU D (TYS cy) (ZW x cy g S ++ va_pl L (pf cy K cf nm S)) (fun _ => ZW x cy g S ++ va_pl L (pf cy K cf nm S)) sz) (va_A (ZW x cy g S ++ va_pl L (pf cy K cf nm S)) sz)) 0 0 (va_A (ZW x cy g S ++ va_pl L (pf cy K cf nm S)) sz) := by
  refine Met.ofW (cc := cX9_waitsStill) (maxL := 3) (ret := (some .boolean)) (by decide) rfl ?_
  intro p e s m args below meth c s₁ B hml hv
  obtain ⟨rfl, hsz, hP, hK, hD0⟩ := hv
  have hx := B.exec
  have hb := B.bytes
  have hr := B.returns
  have hts := atoms_spec (ws := wsX9_waitsStill) B.pre
  have hown : s.vm.findClass RX9 = some m.cls := findClass_of_methodNamed B.named
  have hlocks := B.notSynchronized
  subst hsz
  have hD := hD0.self (sz := s.heap.size)
  have hA : ∀ q9 : Nat, s.heap.size ≤ q9 → va_A (ZW x cy g S ++ va_pl L (pf cy K cf nm S)) s.heap.size q9 := fun q9 h => Or.inr h
  have hS : va_S (va_A (ZW x cy g S ++ va_pl L (pf cy K cf nm S)) s.heap.size) s.heap s.heap [] := va_S.rf
  have hl := lv_entry ([.ref (x 0), .int ar1, .ref ar2]) (n := 3) (Nat.le_of_ble_eq_true rfl)
  rw [lg_entry_eq]
  generalize (lg_sl ([.ref (x 0), .int ar1, .ref ar2]) ++ List.replicate (3 - (lg_sl ([.ref (x 0), .int ar1, .ref ar2])).length) Slot.unset).toArray = ls at hl ⊢
  have hl : lv_has ls 3 [(0, .ref (x 0)), (1, .int ar1), (2, .ref ar2)] := hl
  unfold gX9_waitsStill at hF
  refine lv_iload_n hx hb dX9_waitsStill_0 rfl (lv_at hl 1 rfl) ?_
  refine lv_iconst (v := 1) hx hb dX9_waitsStill_1 (by decide) ?_
  refine lv_icmp_ne (tgt := 19) hx hb dX9_waitsStill_2 (by decide) (fun c1 => ?_) (fun c1 => ?_)
  · skip
    have hF := (if_neg c1).symm.trans hF
    refine lv_iload_n hx hb dX9_waitsStill_19 rfl (lv_at hl 1 rfl) ?_
    refine lv_iconst (v := 2) hx hb dX9_waitsStill_20 (by decide) ?_
    refine lv_icmp_ne (tgt := 32) hx hb dX9_waitsStill_21 (by decide) (fun c2 => ?_) (fun c2 => ?_)
    · skip
      have hF := (if_neg c2).symm.trans hF
      refine lv_iconst (v := 1) hx hb dX9_waitsStill_32 (by decide) ?_
      refine lv_goto (tgt := 37) hx hb dX9_waitsStill_33 (by decide) ?_
      have e1 := Option.some.inj hF
      exact W.zret (v := 1) hx hb hr (nz01 (Or.inr rfl)).1 (fun t ht hW => ⟨⟨1, (), rfl, ⟨e1, by rw [← e1]; exact Or.inr rfl⟩, by rw [ht]; exact hP, va_K.moved hW.alike hK, hD⟩, hS.F ht⟩) hS.2.2 dX9_waitsStill_37
    · skip
      have hF := (if_pos c2).symm.trans hF
      refine lv_aload_n hx hb dX9_waitsStill_24 rfl (lv_at hl 2 rfl) ?_
      refine lv_iconst (v := 5) hx hb dX9_waitsStill_25 (by decide) ?_
      obtain ⟨r3, hq6, hF⟩ := bd1_s hF
      refine gvI (As := [.int 5]) (rest := []) ⟨hx, hb, hml, hown, hts⟩ (zX6_awaitsAt l D x cy g L K cf nm hG hL S hT _ ar2 5 ⟨mar2.1, mar2.2⟩ r3 hq6) (cwV 1 hts gX9_waitsStill_X6_awaitsAt rfl rfl rfl (by decide +kernel) ⟨Nat.le_of_ble_eq_true rfl, Nat.le_of_ble_eq_true rfl⟩) hK hP hD hS hA (pl_recv hK hP (ci := 6) rfl mar2.1 (pf_6 mar2.2)) rfl hl.1 rfl (Nat.le_of_ble_eq_true rfl) dX9_waitsStill_26 ⟨Nat.le_of_ble_eq_true rfl, Nat.le_of_ble_eq_true rfl⟩ (fun a7 u9 H locs hw5 hP hD hS => ?_)
      have hP : va_P D vwCl (ZW x cy g S ++ va_pl L (pf cy K cf nm S)) H := hP
      have hD : va_D _ (ZW x cy g S ++ va_pl L (pf cy K cf nm S)) := hD
      refine lv_tov (v' := .int r3) (congrArg Value.int hw5.1) ?_
      refine lv_if_eq (tgt := 36) hx hb dX9_waitsStill_29 (by decide) (fun c8 => ?_) (fun c8 => ?_)
      · skip
        have hF := (if_pos c8).symm.trans hF
        refine lv_iconst (v := 0) hx hb dX9_waitsStill_36 (by decide) ?_
        have e1 := Option.some.inj hF
        exact W.zret (v := 0) hx hb hr (nz01 (Or.inl rfl)).1 (fun t ht hW => ⟨⟨0, (), rfl, ⟨e1, by rw [← e1]; exact Or.inl rfl⟩, by rw [ht]; exact hP, va_K.moved hW.alike hK, hD⟩, hS.F ht⟩) hS.2.2 dX9_waitsStill_37
      · skip
        have hF := (if_neg c8).symm.trans hF
        refine lv_iconst (v := 1) hx hb dX9_waitsStill_32 (by decide) ?_
        refine lv_goto (tgt := 37) hx hb dX9_waitsStill_33 (by decide) ?_
        have e1 := Option.some.inj hF
        exact W.zret (v := 1) hx hb hr (nz01 (Or.inr rfl)).1 (fun t ht hW => ⟨⟨1, (), rfl, ⟨e1, by rw [← e1]; exact Or.inr rfl⟩, by rw [ht]; exact hP, va_K.moved hW.alike hK, hD⟩, hS.F ht⟩) hS.2.2 dX9_waitsStill_37
  · skip
    have hF := (if_pos c1).symm.trans hF
    refine lv_aload_n hx hb dX9_waitsStill_5 rfl (lv_at hl 2 rfl) ?_
    refine lv_iconst (v := 3) hx hb dX9_waitsStill_6 (by decide) ?_
    obtain ⟨r9, hq12, hF⟩ := bd1_s hF
    refine gvI (As := [.int 3]) (rest := []) ⟨hx, hb, hml, hown, hts⟩ (zX6_awaitsAt l D x cy g L K cf nm hG hL S hT _ ar2 3 ⟨mar2.1, mar2.2⟩ r9 hq12) (cwV 1 hts gX9_waitsStill_X6_awaitsAt rfl rfl rfl (by decide +kernel) ⟨Nat.le_of_ble_eq_true rfl, Nat.le_of_ble_eq_true rfl⟩) hK hP hD hS hA (pl_recv hK hP (ci := 6) rfl mar2.1 (pf_6 mar2.2)) rfl hl.1 rfl (Nat.le_of_ble_eq_true rfl) dX9_waitsStill_7 ⟨Nat.le_of_ble_eq_true rfl, Nat.le_of_ble_eq_true rfl⟩ (fun a13 u9 H locs hw11 hP hD hS => ?_)
    have hP : va_P D vwCl (ZW x cy g S ++ va_pl L (pf cy K cf nm S)) H := hP
    have hD : va_D _ (ZW x cy g S ++ va_pl L (pf cy K cf nm S)) := hD
    refine lv_tov (v' := .int r9) (congrArg Value.int hw11.1) ?_
    refine lv_if_ne (tgt := 17) hx hb dX9_waitsStill_10 (by decide) (fun c14 => ?_) (fun c14 => ?_)
    · skip
      have hF := (if_neg c14).symm.trans hF
      refine lv_iconst (v := 0) hx hb dX9_waitsStill_17 (by decide) ?_
      have e1 := Option.some.inj hF
      exact W.zret (v := 0) hx hb hr (nz01 (Or.inl rfl)).1 (fun t ht hW => ⟨⟨0, (), rfl, ⟨e1, by rw [← e1]; exact Or.inl rfl⟩, by rw [ht]; exact hP, va_K.moved hW.alike hK, hD⟩, hS.F ht⟩) hS.2.2 dX9_waitsStill_18
    · skip
      have hF := (if_pos c14).symm.trans hF
      refine lv_iconst (v := 1) hx hb dX9_waitsStill_13 (by decide) ?_
      refine lv_goto (tgt := 18) hx hb dX9_waitsStill_14 (by decide) ?_
      have e1 := Option.some.inj hF
      exact W.zret (v := 1) hx hb hr (nz01 (Or.inr rfl)).1 (fun t ht hW => ⟨⟨1, (), rfl, ⟨e1, by rw [← e1]; exact Or.inr rfl⟩, by rw [ht]; exact hP, va_K.moved hW.alike hK, hD⟩, hS.F ht⟩) hS.2.2 dX9_waitsStill_18

theorem iX9_queue_3 : ∀ w ∈ wsX30, w ∈ wsX9_queue := fun _ h => List.mem_cons_of_mem _ (List.mem_append_left _ (List.mem_append_left _ (List.mem_append_left _ (List.mem_append_right _ h))))
theorem iX9_queue_6 : ∀ w ∈ wsX60, w ∈ wsX9_queue := fun _ h => List.mem_cons_of_mem _ (List.mem_append_left _ (List.mem_append_left _ (List.mem_append_right _ h)))
set_option maxHeartbeats 8000000 in
set_option maxRecDepth 100000 in
theorem zX9_queue (l : Launch) (D : va_G) (x : Nat → Nat) (cy : Nat → ClassId) (g : Nat → Nat → Option Nat) (L : List Nat) (K : Nat → Nat) (cf : Nat → Nat → Nat) (nm : Nat → Int32) (hG : GO L K g) (hL : PL L K cf) (S : CS) (hT : WT L K S.2) (sz : Nat) (ar1 : Int32) (ar2 : Int32)  (rv : Int32) (hF : gX9_queue g cf nm S ar1 ar2 = some rv) : Met l yX9_queue wsX9_queue ({ frames := 2, cells := 0, slots := 0, locals := 43 }) (PW D (TYS cy) (ZW x cy g S ++ va_pl L (pf cy K cf nm S)) sz [.ref (x 0), .int ar1, .int ar2]) (va_Qi (fun (res : Int32) (u : Unit) => res = rv) (BU D (TYS cy) (ZW x cy g S ++ va_pl L (pf cy K cf nm S)) (fun _ => ZW x cy g S ++ va_pl L (pf cy K cf nm S)) sz) (va_A (ZW x cy g S ++ va_pl L (pf cy K cf nm S)) sz)) 0 0 (va_A (ZW x cy g S ++ va_pl L (pf cy K cf nm S)) sz) := by
  refine Met.ofW (cc := cX9_queue) (maxL := 7) (ret := (some .int)) (by decide) rfl ?_
  intro p e s m args below meth c s₁ B hml hv
  obtain ⟨rfl, hsz, hP, hK, hD0⟩ := hv
  have hx := B.exec
  have hb := B.bytes
  have hr := B.returns
  have hts := atoms_spec (ws := wsX9_queue) B.pre
  have hown : s.vm.findClass RX9 = some m.cls := findClass_of_methodNamed B.named
  have hlocks := B.notSynchronized
  subst hsz
  have hD := hD0.self (sz := s.heap.size)
  have hA : ∀ q9 : Nat, s.heap.size ≤ q9 → va_A (ZW x cy g S ++ va_pl L (pf cy K cf nm S)) s.heap.size q9 := fun q9 h => Or.inr h
  have hS : va_S (va_A (ZW x cy g S ++ va_pl L (pf cy K cf nm S)) s.heap.size) s.heap s.heap [] := va_S.rf
  have key23 : ∀ (KK : Int32 → Int32 → Option (Int32)), (∀ (v2 : Int32) (v4 : Int32) (H : Heap) (locs : List Loc) (ls : Array Slot), KK v2 v4 = some rv → va_P D vwCl (ZW x cy g S ++ va_pl L (pf cy K cf nm S)) H → va_D (va_A (ZW x cy g S ++ va_pl L (pf cy K cf nm S)) s.heap.size) (ZW x cy g S ++ va_pl L (pf cy K cf nm S)) → va_S (va_A (ZW x cy g S ++ va_pl L (pf cy K cf nm S)) s.heap.size) s.heap H locs → lv_has ls 7 [(2, .int v2), (4, .int v4)] → W p l e (headSpec wsX9_queue ({ frames := 2, cells := 0, slots := 0, locals := 43 })).room s m #[.ref (x 0), .int ar1, .int ar2] below meth c H locs 0 0 (MQ below (va_Qi (fun (res : Int32) (u : Unit) => res = rv) (BU D (TYS cy) (ZW x cy g S ++ va_pl L (pf cy K cf nm S)) (fun _ => ZW x cy g S ++ va_pl L (pf cy K cf nm S)) s.heap.size) (va_A (ZW x cy g S ++ va_pl L (pf cy K cf nm S)) s.heap.size)) #[.ref (x 0), .int ar1, .int ar2] s 0 0 (va_A (ZW x cy g S ++ va_pl L (pf cy K cf nm S)) s.heap.size)) (F0 m 76 ls [])) → ∀ (fu : Nat) (v1 : Int32) (v2 : Int32) (v4 : Int32) (v5 : Int32) (H : Heap) (locs : List Loc) (ls : Array Slot), gX9_queue_23 S g cf nm KK fu v1 v2 v4 v5 = some rv → va_P D vwCl (ZW x cy g S ++ va_pl L (pf cy K cf nm S)) H → va_D (va_A (ZW x cy g S ++ va_pl L (pf cy K cf nm S)) s.heap.size) (ZW x cy g S ++ va_pl L (pf cy K cf nm S)) → va_S (va_A (ZW x cy g S ++ va_pl L (pf cy K cf nm S)) s.heap.size) s.heap H locs → lv_has ls 7 [(1, .int v1), (2, .int v2), (4, .int v4), (5, .int v5), (0, .ref (x 0)), (3, .ref (x 8))] → W p l e (headSpec wsX9_queue ({ frames := 2, cells := 0, slots := 0, locals := 43 })).room s m #[.ref (x 0), .int ar1, .int ar2] below meth c H locs 0 0 (MQ below (va_Qi (fun (res : Int32) (u : Unit) => res = rv) (BU D (TYS cy) (ZW x cy g S ++ va_pl L (pf cy K cf nm S)) (fun _ => ZW x cy g S ++ va_pl L (pf cy K cf nm S)) s.heap.size) (va_A (ZW x cy g S ++ va_pl L (pf cy K cf nm S)) s.heap.size)) #[.ref (x 0), .int ar1, .int ar2] s 0 0 (va_A (ZW x cy g S ++ va_pl L (pf cy K cf nm S)) s.heap.size)) (F0 m 23 ls []) := by
    intro KK hKK fu
    induction fu with
    | zero =>
      intro v1 v2 v4 v5 H locs ls hF
      exact absurd (show (none : Option (Int32)) = some rv from hF) (by simp)
    | succ fu23 ih23 =>
      intro v1 v2 v4 v5 H locs ls hF hP hD hS hl
      rw [gX9_queue_23] at hF
      refine lv_iload hx hb dX9_queue_23 (lv_at hl 3 rfl) ?_
      refine lv_aload_n hx hb dX9_queue_25 rfl (lv_at hl 5 rfl) ?_
      refine va_get (D := D) (ci := 3) (v := .int (S.1 200 11)) (C := RX3) (T := TX3) (N := 2) hx hb hts iX9_queue_3 hown hK hP 8 rfl rfl 1 (by decide) (hts (.fieldLink RX9 373 "FondsRoom$Line" "size" "I") (List.mem_of_getElem? (i := 1) rfl)) (fun _ h9 => h9) rfl dX9_queue_26 ?_
      refine lv_icmp_ge (tgt := 76) hx hb dX9_queue_29 (by decide) (fun c5 => ?_) (fun c5 => ?_)
      · skip
        have hF := (if_pos c5).symm.trans hF
        exact hKK v2 v4  _ _ _ hF hP hD hS (lv_sub hl [1, 2] rfl)
      · skip
        have hF := (if_neg c5).symm.trans hF
        refine lv_aload_n hx hb dX9_queue_32 rfl (lv_at hl 5 rfl) ?_
        refine lv_iload hx hb dX9_queue_33 (lv_at hl 3 rfl) ?_
        obtain ⟨q6, hq9, hF⟩ := bd1_s hF
        refine gvQ (As := [.int v5]) (rest := []) ⟨hx, hb, hml, hown, hts⟩ (zX3_at_0 l D x cy g L K cf nm hG hL S hT _ v5  q6 hq9) (cwV 1 hts gX9_queue_X3_at rfl rfl rfl (by decide +kernel) ⟨Nat.le_of_ble_eq_true rfl, Nat.le_of_ble_eq_true rfl⟩) hK hP hD hS hA (va_recv hK hP (ci := 3) (q0 := 8) rfl rfl) rfl hl.1 rfl (Nat.le_of_ble_eq_true rfl) dX9_queue_35 ⟨Nat.le_of_ble_eq_true rfl, Nat.le_of_ble_eq_true rfl⟩ (fun a10 u9 H locs hw8 hP hD hS => ?_)
        have hP : va_P D vwCl (ZW x cy g S ++ va_pl L (pf cy K cf nm S)) H := hP
        have hD : va_D _ (ZW x cy g S ++ va_pl L (pf cy K cf nm S)) := hD
        refine lv_tov (v' := va_rf q6) (congrArg va_rf hw8.1) ?_
        refine lq_astore (lv' := [(6, va_rf q6), (1, .int v1), (2, .int v2), (4, .int v4), (5, .int v5), (0, .ref (x 0)), (3, .ref (x 8))]) hx hb dX9_queue_38 hl (by decide) rfl (fun ls hl => ?_)
        refine lq_aload hx hb dX9_queue_40 (lv_at hl 0 rfl) ?_
        rcases eb11 : q6 with _ | b11
        · skip
          subst eb11
          replace hF := oc_n hF
          have hl : lv_has ls 7 [(6, .null), (1, .int v1), (2, .int v2), (4, .int v4), (5, .int v5), (0, .ref (x 0)), (3, .ref (x 8))] := hl
          refine W.eq (g2 := F0 m 42 ls [.null]) rfl ?_
          refine lv_ifnullN (tgt := 70) hx hb dX9_queue_42 (by decide) ?_
          refine lv_iinc (v := v5 + 1) (lv' := [(5, .int (v5 + 1)), (6, .null), (1, .int v1), (2, .int v2), (4, .int v4), (0, .ref (x 0)), (3, .ref (x 8))]) hx hb dX9_queue_70 hl (k := 4) rfl rfl (by decide) rfl (fun ls hl => ?_)
          refine lv_goto (tgt := 23) hx hb dX9_queue_73 (by decide) ?_
          exact ih23 v1 v2 v4 (v5 + 1)  _ _ _ hF hP hD hS (lv_sub hl [2, 3, 4, 0, 5, 6] rfl)
        · skip
          subst eb11
          replace hF := oc_b hF
          have mb11 := hw8.2 b11 rfl
          have hl : lv_has ls 7 [(6, .ref b11), (1, .int v1), (2, .int v2), (4, .int v4), (5, .int v5), (0, .ref (x 0)), (3, .ref (x 8))] := hl
          refine W.eq (g2 := F0 m 42 ls [.ref b11]) rfl ?_
          refine lv_ifnull hx hb dX9_queue_42 ?_
          refine lv_aload_n hx hb dX9_queue_45 rfl (lv_at hl 5 rfl) ?_
          refine lv_iload_n hx hb dX9_queue_46 rfl (lv_at hl 1 rfl) ?_
          refine lv_aload hx hb dX9_queue_47 (lv_at hl 0 rfl) ?_
          obtain ⟨r12, hq15, hF⟩ := bd1_s hF
          refine gvI (As := [.int v1, .ref b11]) (rest := []) ⟨hx, hb, hml, hown, hts⟩ (zX9_waitsStill l D x cy g L K cf nm hG hL S hT _ v1 b11 ⟨mb11.1, mb11.2⟩ r12 hq15) (cwV 2 hts gX9_queue_X9_waitsStill rfl rfl rfl (by decide +kernel) ⟨Nat.le_of_ble_eq_true rfl, Nat.le_of_ble_eq_true rfl⟩) hK hP hD hS hA (va_recv hK hP (ci := 9) (q0 := 0) rfl rfl) rfl hl.1 rfl (Nat.le_of_ble_eq_true rfl) dX9_queue_49 ⟨Nat.le_of_ble_eq_true rfl, Nat.le_of_ble_eq_true rfl⟩ (fun a16 u9 H locs hw14 hP hD hS => ?_)
          have hP : va_P D vwCl (ZW x cy g S ++ va_pl L (pf cy K cf nm S)) H := hP
          have hD : va_D _ (ZW x cy g S ++ va_pl L (pf cy K cf nm S)) := hD
          refine lv_tov (v' := .int r12) (congrArg Value.int hw14.1) ?_
          refine lv_if_eq (tgt := 70) hx hb dX9_queue_52 (by decide) (fun c17 => ?_) (fun c17 => ?_)
          · skip
            have hF := (if_pos c17).symm.trans hF
            refine lv_iinc (v := v5 + 1) (lv' := [(5, .int (v5 + 1)), (6, .ref b11), (1, .int v1), (2, .int v2), (4, .int v4), (0, .ref (x 0)), (3, .ref (x 8))]) hx hb dX9_queue_70 hl (k := 4) rfl rfl (by decide) rfl (fun ls hl => ?_)
            refine lv_goto (tgt := 23) hx hb dX9_queue_73 (by decide) ?_
            exact ih23 v1 v2 v4 (v5 + 1)  _ _ _ hF hP hD hS (lv_sub hl [2, 3, 4, 0, 5, 6] rfl)
          · skip
            have hF := (if_neg c17).symm.trans hF
            refine lv_iload hx hb dX9_queue_55 (lv_at hl 3 rfl) ?_
            refine lv_iload_n hx hb dX9_queue_57 rfl (lv_at hl 2 rfl) ?_
            refine lv_icmp_ne (tgt := 67) hx hb dX9_queue_58 (by decide) (fun c18 => ?_) (fun c18 => ?_)
            · skip
              have hF := (if_neg c18).symm.trans hF
              refine lv_iinc (v := v4 + 1) (lv' := [(4, .int (v4 + 1)), (6, .ref b11), (1, .int v1), (2, .int v2), (5, .int v5), (0, .ref (x 0)), (3, .ref (x 8))]) hx hb dX9_queue_67 hl (k := 3) rfl rfl (by decide) rfl (fun ls hl => ?_)
              refine lv_iinc (v := v5 + 1) (lv' := [(5, .int (v5 + 1)), (4, .int (v4 + 1)), (6, .ref b11), (1, .int v1), (2, .int v2), (0, .ref (x 0)), (3, .ref (x 8))]) hx hb dX9_queue_70 hl (k := 4) rfl rfl (by decide) rfl (fun ls hl => ?_)
              refine lv_goto (tgt := 23) hx hb dX9_queue_73 (by decide) ?_
              exact ih23 v1 v2 (v4 + 1) (v5 + 1)  _ _ _ hF hP hD hS (lv_sub hl [3, 4, 1, 0, 5, 6] rfl)
            · skip
              have hF := (if_pos c18).symm.trans hF
              refine lv_aload hx hb dX9_queue_61 (lv_at hl 0 rfl) ?_
              refine pg_get (D := D) (ci := 6) (v := .int (nm b11)) (C := RX6) (T := TX6) (N := 17) hx hb hts iX9_queue_6 hown hK hP mb11.1 (pf_6 mb11.2) rfl 0 (by decide) (hts (.fieldLink RX9 273 "FondsRoom$Reader" "number" "I") (List.mem_of_getElem? (i := 2) rfl)) (fun _ h9 => h9) rfl dX9_queue_63 ?_
              have e1 := Option.some.inj hF
              exact W.iret (v := (nm b11)) hx hb hr (fun t ht hW => ⟨⟨(nm b11), (), rfl, e1, by rw [ht]; exact hP, va_K.moved hW.alike hK, hD⟩, hS.F ht⟩) hS.2.2 dX9_queue_66
  have key1023 : ∀ (KK : Int32 → Int32 → Option (Int32)), (∀ (v2 : Int32) (v4 : Int32) (H : Heap) (locs : List Loc) (ls : Array Slot), KK v2 v4 = some rv → va_P D vwCl (ZW x cy g S ++ va_pl L (pf cy K cf nm S)) H → va_D (va_A (ZW x cy g S ++ va_pl L (pf cy K cf nm S)) s.heap.size) (ZW x cy g S ++ va_pl L (pf cy K cf nm S)) → va_S (va_A (ZW x cy g S ++ va_pl L (pf cy K cf nm S)) s.heap.size) s.heap H locs → lv_has ls 7 [(2, .int v2), (4, .int v4)] → W p l e (headSpec wsX9_queue ({ frames := 2, cells := 0, slots := 0, locals := 43 })).room s m #[.ref (x 0), .int ar1, .int ar2] below meth c H locs 0 0 (MQ below (va_Qi (fun (res : Int32) (u : Unit) => res = rv) (BU D (TYS cy) (ZW x cy g S ++ va_pl L (pf cy K cf nm S)) (fun _ => ZW x cy g S ++ va_pl L (pf cy K cf nm S)) s.heap.size) (va_A (ZW x cy g S ++ va_pl L (pf cy K cf nm S)) s.heap.size)) #[.ref (x 0), .int ar1, .int ar2] s 0 0 (va_A (ZW x cy g S ++ va_pl L (pf cy K cf nm S)) s.heap.size)) (F0 m 76 ls [])) → ∀ (fu : Nat) (v1 : Int32) (v2 : Int32) (v4 : Int32) (v5 : Int32) (H : Heap) (locs : List Loc) (ls : Array Slot), gX9_queue_1023 S g cf nm KK fu v1 v2 v4 v5 = some rv → va_P D vwCl (ZW x cy g S ++ va_pl L (pf cy K cf nm S)) H → va_D (va_A (ZW x cy g S ++ va_pl L (pf cy K cf nm S)) s.heap.size) (ZW x cy g S ++ va_pl L (pf cy K cf nm S)) → va_S (va_A (ZW x cy g S ++ va_pl L (pf cy K cf nm S)) s.heap.size) s.heap H locs → lv_has ls 7 [(1, .int v1), (2, .int v2), (4, .int v4), (5, .int v5), (0, .ref (x 0)), (3, .ref (x 10))] → W p l e (headSpec wsX9_queue ({ frames := 2, cells := 0, slots := 0, locals := 43 })).room s m #[.ref (x 0), .int ar1, .int ar2] below meth c H locs 0 0 (MQ below (va_Qi (fun (res : Int32) (u : Unit) => res = rv) (BU D (TYS cy) (ZW x cy g S ++ va_pl L (pf cy K cf nm S)) (fun _ => ZW x cy g S ++ va_pl L (pf cy K cf nm S)) s.heap.size) (va_A (ZW x cy g S ++ va_pl L (pf cy K cf nm S)) s.heap.size)) #[.ref (x 0), .int ar1, .int ar2] s 0 0 (va_A (ZW x cy g S ++ va_pl L (pf cy K cf nm S)) s.heap.size)) (F0 m 23 ls []) := by
    intro KK hKK fu
    induction fu with
    | zero =>
      intro v1 v2 v4 v5 H locs ls hF
      exact absurd (show (none : Option (Int32)) = some rv from hF) (by simp)
    | succ fu1023 ih1023 =>
      intro v1 v2 v4 v5 H locs ls hF hP hD hS hl
      rw [gX9_queue_1023] at hF
      refine lv_iload hx hb dX9_queue_23 (lv_at hl 3 rfl) ?_
      refine lv_aload_n hx hb dX9_queue_25 rfl (lv_at hl 5 rfl) ?_
      refine va_get (D := D) (ci := 3) (v := .int (S.1 200 12)) (C := RX3) (T := TX3) (N := 2) hx hb hts iX9_queue_3 hown hK hP 10 rfl rfl 1 (by decide) (hts (.fieldLink RX9 373 "FondsRoom$Line" "size" "I") (List.mem_of_getElem? (i := 1) rfl)) (fun _ h9 => h9) rfl dX9_queue_26 ?_
      refine lv_icmp_ge (tgt := 76) hx hb dX9_queue_29 (by decide) (fun c26 => ?_) (fun c26 => ?_)
      · skip
        have hF := (if_pos c26).symm.trans hF
        exact hKK v2 v4  _ _ _ hF hP hD hS (lv_sub hl [1, 2] rfl)
      · skip
        have hF := (if_neg c26).symm.trans hF
        refine lv_aload_n hx hb dX9_queue_32 rfl (lv_at hl 5 rfl) ?_
        refine lv_iload hx hb dX9_queue_33 (lv_at hl 3 rfl) ?_
        obtain ⟨q27, hq30, hF⟩ := bd1_s hF
        refine gvQ (As := [.int v5]) (rest := []) ⟨hx, hb, hml, hown, hts⟩ (zX3_at_1 l D x cy g L K cf nm hG hL S hT _ v5  q27 hq30) (cwV 1 hts gX9_queue_X3_at rfl rfl rfl (by decide +kernel) ⟨Nat.le_of_ble_eq_true rfl, Nat.le_of_ble_eq_true rfl⟩) hK hP hD hS hA (va_recv hK hP (ci := 3) (q0 := 10) rfl rfl) rfl hl.1 rfl (Nat.le_of_ble_eq_true rfl) dX9_queue_35 ⟨Nat.le_of_ble_eq_true rfl, Nat.le_of_ble_eq_true rfl⟩ (fun a31 u9 H locs hw29 hP hD hS => ?_)
        have hP : va_P D vwCl (ZW x cy g S ++ va_pl L (pf cy K cf nm S)) H := hP
        have hD : va_D _ (ZW x cy g S ++ va_pl L (pf cy K cf nm S)) := hD
        refine lv_tov (v' := va_rf q27) (congrArg va_rf hw29.1) ?_
        refine lq_astore (lv' := [(6, va_rf q27), (1, .int v1), (2, .int v2), (4, .int v4), (5, .int v5), (0, .ref (x 0)), (3, .ref (x 10))]) hx hb dX9_queue_38 hl (by decide) rfl (fun ls hl => ?_)
        refine lq_aload hx hb dX9_queue_40 (lv_at hl 0 rfl) ?_
        rcases eb32 : q27 with _ | b32
        · skip
          subst eb32
          replace hF := oc_n hF
          have hl : lv_has ls 7 [(6, .null), (1, .int v1), (2, .int v2), (4, .int v4), (5, .int v5), (0, .ref (x 0)), (3, .ref (x 10))] := hl
          refine W.eq (g2 := F0 m 42 ls [.null]) rfl ?_
          refine lv_ifnullN (tgt := 70) hx hb dX9_queue_42 (by decide) ?_
          refine lv_iinc (v := v5 + 1) (lv' := [(5, .int (v5 + 1)), (6, .null), (1, .int v1), (2, .int v2), (4, .int v4), (0, .ref (x 0)), (3, .ref (x 10))]) hx hb dX9_queue_70 hl (k := 4) rfl rfl (by decide) rfl (fun ls hl => ?_)
          refine lv_goto (tgt := 23) hx hb dX9_queue_73 (by decide) ?_
          exact ih1023 v1 v2 v4 (v5 + 1)  _ _ _ hF hP hD hS (lv_sub hl [2, 3, 4, 0, 5, 6] rfl)
        · skip
          subst eb32
          replace hF := oc_b hF
          have mb32 := hw29.2 b32 rfl
          have hl : lv_has ls 7 [(6, .ref b32), (1, .int v1), (2, .int v2), (4, .int v4), (5, .int v5), (0, .ref (x 0)), (3, .ref (x 10))] := hl
          refine W.eq (g2 := F0 m 42 ls [.ref b32]) rfl ?_
          refine lv_ifnull hx hb dX9_queue_42 ?_
          refine lv_aload_n hx hb dX9_queue_45 rfl (lv_at hl 5 rfl) ?_
          refine lv_iload_n hx hb dX9_queue_46 rfl (lv_at hl 1 rfl) ?_
          refine lv_aload hx hb dX9_queue_47 (lv_at hl 0 rfl) ?_
          obtain ⟨r33, hq36, hF⟩ := bd1_s hF
          refine gvI (As := [.int v1, .ref b32]) (rest := []) ⟨hx, hb, hml, hown, hts⟩ (zX9_waitsStill l D x cy g L K cf nm hG hL S hT _ v1 b32 ⟨mb32.1, mb32.2⟩ r33 hq36) (cwV 2 hts gX9_queue_X9_waitsStill rfl rfl rfl (by decide +kernel) ⟨Nat.le_of_ble_eq_true rfl, Nat.le_of_ble_eq_true rfl⟩) hK hP hD hS hA (va_recv hK hP (ci := 9) (q0 := 0) rfl rfl) rfl hl.1 rfl (Nat.le_of_ble_eq_true rfl) dX9_queue_49 ⟨Nat.le_of_ble_eq_true rfl, Nat.le_of_ble_eq_true rfl⟩ (fun a37 u9 H locs hw35 hP hD hS => ?_)
          have hP : va_P D vwCl (ZW x cy g S ++ va_pl L (pf cy K cf nm S)) H := hP
          have hD : va_D _ (ZW x cy g S ++ va_pl L (pf cy K cf nm S)) := hD
          refine lv_tov (v' := .int r33) (congrArg Value.int hw35.1) ?_
          refine lv_if_eq (tgt := 70) hx hb dX9_queue_52 (by decide) (fun c38 => ?_) (fun c38 => ?_)
          · skip
            have hF := (if_pos c38).symm.trans hF
            refine lv_iinc (v := v5 + 1) (lv' := [(5, .int (v5 + 1)), (6, .ref b32), (1, .int v1), (2, .int v2), (4, .int v4), (0, .ref (x 0)), (3, .ref (x 10))]) hx hb dX9_queue_70 hl (k := 4) rfl rfl (by decide) rfl (fun ls hl => ?_)
            refine lv_goto (tgt := 23) hx hb dX9_queue_73 (by decide) ?_
            exact ih1023 v1 v2 v4 (v5 + 1)  _ _ _ hF hP hD hS (lv_sub hl [2, 3, 4, 0, 5, 6] rfl)
          · skip
            have hF := (if_neg c38).symm.trans hF
            refine lv_iload hx hb dX9_queue_55 (lv_at hl 3 rfl) ?_
            refine lv_iload_n hx hb dX9_queue_57 rfl (lv_at hl 2 rfl) ?_
            refine lv_icmp_ne (tgt := 67) hx hb dX9_queue_58 (by decide) (fun c39 => ?_) (fun c39 => ?_)
            · skip
              have hF := (if_neg c39).symm.trans hF
              refine lv_iinc (v := v4 + 1) (lv' := [(4, .int (v4 + 1)), (6, .ref b32), (1, .int v1), (2, .int v2), (5, .int v5), (0, .ref (x 0)), (3, .ref (x 10))]) hx hb dX9_queue_67 hl (k := 3) rfl rfl (by decide) rfl (fun ls hl => ?_)
              refine lv_iinc (v := v5 + 1) (lv' := [(5, .int (v5 + 1)), (4, .int (v4 + 1)), (6, .ref b32), (1, .int v1), (2, .int v2), (0, .ref (x 0)), (3, .ref (x 10))]) hx hb dX9_queue_70 hl (k := 4) rfl rfl (by decide) rfl (fun ls hl => ?_)
              refine lv_goto (tgt := 23) hx hb dX9_queue_73 (by decide) ?_
              exact ih1023 v1 v2 (v4 + 1) (v5 + 1)  _ _ _ hF hP hD hS (lv_sub hl [3, 4, 1, 0, 5, 6] rfl)
            · skip
              have hF := (if_pos c39).symm.trans hF
              refine lv_aload hx hb dX9_queue_61 (lv_at hl 0 rfl) ?_
              refine pg_get (D := D) (ci := 6) (v := .int (nm b32)) (C := RX6) (T := TX6) (N := 17) hx hb hts iX9_queue_6 hown hK hP mb32.1 (pf_6 mb32.2) rfl 0 (by decide) (hts (.fieldLink RX9 273 "FondsRoom$Reader" "number" "I") (List.mem_of_getElem? (i := 2) rfl)) (fun _ h9 => h9) rfl dX9_queue_63 ?_
              have e1 := Option.some.inj hF
              exact W.iret (v := (nm b32)) hx hb hr (fun t ht hW => ⟨⟨(nm b32), (), rfl, e1, by rw [ht]; exact hP, va_K.moved hW.alike hK, hD⟩, hS.F ht⟩) hS.2.2 dX9_queue_66
  have key2023 : ∀ (KK : Int32 → Int32 → Option (Int32)), (∀ (v2 : Int32) (v4 : Int32) (H : Heap) (locs : List Loc) (ls : Array Slot), KK v2 v4 = some rv → va_P D vwCl (ZW x cy g S ++ va_pl L (pf cy K cf nm S)) H → va_D (va_A (ZW x cy g S ++ va_pl L (pf cy K cf nm S)) s.heap.size) (ZW x cy g S ++ va_pl L (pf cy K cf nm S)) → va_S (va_A (ZW x cy g S ++ va_pl L (pf cy K cf nm S)) s.heap.size) s.heap H locs → lv_has ls 7 [(2, .int v2), (4, .int v4)] → W p l e (headSpec wsX9_queue ({ frames := 2, cells := 0, slots := 0, locals := 43 })).room s m #[.ref (x 0), .int ar1, .int ar2] below meth c H locs 0 0 (MQ below (va_Qi (fun (res : Int32) (u : Unit) => res = rv) (BU D (TYS cy) (ZW x cy g S ++ va_pl L (pf cy K cf nm S)) (fun _ => ZW x cy g S ++ va_pl L (pf cy K cf nm S)) s.heap.size) (va_A (ZW x cy g S ++ va_pl L (pf cy K cf nm S)) s.heap.size)) #[.ref (x 0), .int ar1, .int ar2] s 0 0 (va_A (ZW x cy g S ++ va_pl L (pf cy K cf nm S)) s.heap.size)) (F0 m 76 ls [])) → ∀ (fu : Nat) (v1 : Int32) (v2 : Int32) (v4 : Int32) (v5 : Int32) (H : Heap) (locs : List Loc) (ls : Array Slot), gX9_queue_2023 S g cf nm KK fu v1 v2 v4 v5 = some rv → va_P D vwCl (ZW x cy g S ++ va_pl L (pf cy K cf nm S)) H → va_D (va_A (ZW x cy g S ++ va_pl L (pf cy K cf nm S)) s.heap.size) (ZW x cy g S ++ va_pl L (pf cy K cf nm S)) → va_S (va_A (ZW x cy g S ++ va_pl L (pf cy K cf nm S)) s.heap.size) s.heap H locs → lv_has ls 7 [(1, .int v1), (2, .int v2), (4, .int v4), (5, .int v5), (0, .ref (x 0)), (3, .ref (x 12))] → W p l e (headSpec wsX9_queue ({ frames := 2, cells := 0, slots := 0, locals := 43 })).room s m #[.ref (x 0), .int ar1, .int ar2] below meth c H locs 0 0 (MQ below (va_Qi (fun (res : Int32) (u : Unit) => res = rv) (BU D (TYS cy) (ZW x cy g S ++ va_pl L (pf cy K cf nm S)) (fun _ => ZW x cy g S ++ va_pl L (pf cy K cf nm S)) s.heap.size) (va_A (ZW x cy g S ++ va_pl L (pf cy K cf nm S)) s.heap.size)) #[.ref (x 0), .int ar1, .int ar2] s 0 0 (va_A (ZW x cy g S ++ va_pl L (pf cy K cf nm S)) s.heap.size)) (F0 m 23 ls []) := by
    intro KK hKK fu
    induction fu with
    | zero =>
      intro v1 v2 v4 v5 H locs ls hF
      exact absurd (show (none : Option (Int32)) = some rv from hF) (by simp)
    | succ fu2023 ih2023 =>
      intro v1 v2 v4 v5 H locs ls hF hP hD hS hl
      rw [gX9_queue_2023] at hF
      refine lv_iload hx hb dX9_queue_23 (lv_at hl 3 rfl) ?_
      refine lv_aload_n hx hb dX9_queue_25 rfl (lv_at hl 5 rfl) ?_
      refine va_get (D := D) (ci := 3) (v := .int (S.1 200 13)) (C := RX3) (T := TX3) (N := 2) hx hb hts iX9_queue_3 hown hK hP 12 rfl rfl 1 (by decide) (hts (.fieldLink RX9 373 "FondsRoom$Line" "size" "I") (List.mem_of_getElem? (i := 1) rfl)) (fun _ h9 => h9) rfl dX9_queue_26 ?_
      refine lv_icmp_ge (tgt := 76) hx hb dX9_queue_29 (by decide) (fun c47 => ?_) (fun c47 => ?_)
      · skip
        have hF := (if_pos c47).symm.trans hF
        exact hKK v2 v4  _ _ _ hF hP hD hS (lv_sub hl [1, 2] rfl)
      · skip
        have hF := (if_neg c47).symm.trans hF
        refine lv_aload_n hx hb dX9_queue_32 rfl (lv_at hl 5 rfl) ?_
        refine lv_iload hx hb dX9_queue_33 (lv_at hl 3 rfl) ?_
        obtain ⟨q48, hq51, hF⟩ := bd1_s hF
        refine gvQ (As := [.int v5]) (rest := []) ⟨hx, hb, hml, hown, hts⟩ (zX3_at_2 l D x cy g L K cf nm hG hL S hT _ v5  q48 hq51) (cwV 1 hts gX9_queue_X3_at rfl rfl rfl (by decide +kernel) ⟨Nat.le_of_ble_eq_true rfl, Nat.le_of_ble_eq_true rfl⟩) hK hP hD hS hA (va_recv hK hP (ci := 3) (q0 := 12) rfl rfl) rfl hl.1 rfl (Nat.le_of_ble_eq_true rfl) dX9_queue_35 ⟨Nat.le_of_ble_eq_true rfl, Nat.le_of_ble_eq_true rfl⟩ (fun a52 u9 H locs hw50 hP hD hS => ?_)
        have hP : va_P D vwCl (ZW x cy g S ++ va_pl L (pf cy K cf nm S)) H := hP
        have hD : va_D _ (ZW x cy g S ++ va_pl L (pf cy K cf nm S)) := hD
        refine lv_tov (v' := va_rf q48) (congrArg va_rf hw50.1) ?_
        refine lq_astore (lv' := [(6, va_rf q48), (1, .int v1), (2, .int v2), (4, .int v4), (5, .int v5), (0, .ref (x 0)), (3, .ref (x 12))]) hx hb dX9_queue_38 hl (by decide) rfl (fun ls hl => ?_)
        refine lq_aload hx hb dX9_queue_40 (lv_at hl 0 rfl) ?_
        rcases eb53 : q48 with _ | b53
        · skip
          subst eb53
          replace hF := oc_n hF
          have hl : lv_has ls 7 [(6, .null), (1, .int v1), (2, .int v2), (4, .int v4), (5, .int v5), (0, .ref (x 0)), (3, .ref (x 12))] := hl
          refine W.eq (g2 := F0 m 42 ls [.null]) rfl ?_
          refine lv_ifnullN (tgt := 70) hx hb dX9_queue_42 (by decide) ?_
          refine lv_iinc (v := v5 + 1) (lv' := [(5, .int (v5 + 1)), (6, .null), (1, .int v1), (2, .int v2), (4, .int v4), (0, .ref (x 0)), (3, .ref (x 12))]) hx hb dX9_queue_70 hl (k := 4) rfl rfl (by decide) rfl (fun ls hl => ?_)
          refine lv_goto (tgt := 23) hx hb dX9_queue_73 (by decide) ?_
          exact ih2023 v1 v2 v4 (v5 + 1)  _ _ _ hF hP hD hS (lv_sub hl [2, 3, 4, 0, 5, 6] rfl)
        · skip
          subst eb53
          replace hF := oc_b hF
          have mb53 := hw50.2 b53 rfl
          have hl : lv_has ls 7 [(6, .ref b53), (1, .int v1), (2, .int v2), (4, .int v4), (5, .int v5), (0, .ref (x 0)), (3, .ref (x 12))] := hl
          refine W.eq (g2 := F0 m 42 ls [.ref b53]) rfl ?_
          refine lv_ifnull hx hb dX9_queue_42 ?_
          refine lv_aload_n hx hb dX9_queue_45 rfl (lv_at hl 5 rfl) ?_
          refine lv_iload_n hx hb dX9_queue_46 rfl (lv_at hl 1 rfl) ?_
          refine lv_aload hx hb dX9_queue_47 (lv_at hl 0 rfl) ?_
          obtain ⟨r54, hq57, hF⟩ := bd1_s hF
          refine gvI (As := [.int v1, .ref b53]) (rest := []) ⟨hx, hb, hml, hown, hts⟩ (zX9_waitsStill l D x cy g L K cf nm hG hL S hT _ v1 b53 ⟨mb53.1, mb53.2⟩ r54 hq57) (cwV 2 hts gX9_queue_X9_waitsStill rfl rfl rfl (by decide +kernel) ⟨Nat.le_of_ble_eq_true rfl, Nat.le_of_ble_eq_true rfl⟩) hK hP hD hS hA (va_recv hK hP (ci := 9) (q0 := 0) rfl rfl) rfl hl.1 rfl (Nat.le_of_ble_eq_true rfl) dX9_queue_49 ⟨Nat.le_of_ble_eq_true rfl, Nat.le_of_ble_eq_true rfl⟩ (fun a58 u9 H locs hw56 hP hD hS => ?_)
          have hP : va_P D vwCl (ZW x cy g S ++ va_pl L (pf cy K cf nm S)) H := hP
          have hD : va_D _ (ZW x cy g S ++ va_pl L (pf cy K cf nm S)) := hD
          refine lv_tov (v' := .int r54) (congrArg Value.int hw56.1) ?_
          refine lv_if_eq (tgt := 70) hx hb dX9_queue_52 (by decide) (fun c59 => ?_) (fun c59 => ?_)
          · skip
            have hF := (if_pos c59).symm.trans hF
            refine lv_iinc (v := v5 + 1) (lv' := [(5, .int (v5 + 1)), (6, .ref b53), (1, .int v1), (2, .int v2), (4, .int v4), (0, .ref (x 0)), (3, .ref (x 12))]) hx hb dX9_queue_70 hl (k := 4) rfl rfl (by decide) rfl (fun ls hl => ?_)
            refine lv_goto (tgt := 23) hx hb dX9_queue_73 (by decide) ?_
            exact ih2023 v1 v2 v4 (v5 + 1)  _ _ _ hF hP hD hS (lv_sub hl [2, 3, 4, 0, 5, 6] rfl)
          · skip
            have hF := (if_neg c59).symm.trans hF
            refine lv_iload hx hb dX9_queue_55 (lv_at hl 3 rfl) ?_
            refine lv_iload_n hx hb dX9_queue_57 rfl (lv_at hl 2 rfl) ?_
            refine lv_icmp_ne (tgt := 67) hx hb dX9_queue_58 (by decide) (fun c60 => ?_) (fun c60 => ?_)
            · skip
              have hF := (if_neg c60).symm.trans hF
              refine lv_iinc (v := v4 + 1) (lv' := [(4, .int (v4 + 1)), (6, .ref b53), (1, .int v1), (2, .int v2), (5, .int v5), (0, .ref (x 0)), (3, .ref (x 12))]) hx hb dX9_queue_67 hl (k := 3) rfl rfl (by decide) rfl (fun ls hl => ?_)
              refine lv_iinc (v := v5 + 1) (lv' := [(5, .int (v5 + 1)), (4, .int (v4 + 1)), (6, .ref b53), (1, .int v1), (2, .int v2), (0, .ref (x 0)), (3, .ref (x 12))]) hx hb dX9_queue_70 hl (k := 4) rfl rfl (by decide) rfl (fun ls hl => ?_)
              refine lv_goto (tgt := 23) hx hb dX9_queue_73 (by decide) ?_
              exact ih2023 v1 v2 (v4 + 1) (v5 + 1)  _ _ _ hF hP hD hS (lv_sub hl [3, 4, 1, 0, 5, 6] rfl)
            · skip
              have hF := (if_pos c60).symm.trans hF
              refine lv_aload hx hb dX9_queue_61 (lv_at hl 0 rfl) ?_
              refine pg_get (D := D) (ci := 6) (v := .int (nm b53)) (C := RX6) (T := TX6) (N := 17) hx hb hts iX9_queue_6 hown hK hP mb53.1 (pf_6 mb53.2) rfl 0 (by decide) (hts (.fieldLink RX9 273 "FondsRoom$Reader" "number" "I") (List.mem_of_getElem? (i := 2) rfl)) (fun _ h9 => h9) rfl dX9_queue_63 ?_
              have e1 := Option.some.inj hF
              exact W.iret (v := (nm b53)) hx hb hr (fun t ht hW => ⟨⟨(nm b53), (), rfl, e1, by rw [ht]; exact hP, va_K.moved hW.alike hK, hD⟩, hS.F ht⟩) hS.2.2 dX9_queue_66
  have hl := lv_entry ([.ref (x 0), .int ar1, .int ar2]) (n := 7) (Nat.le_of_ble_eq_true rfl)
  rw [lg_entry_eq]
  generalize (lg_sl ([.ref (x 0), .int ar1, .int ar2]) ++ List.replicate (7 - (lg_sl ([.ref (x 0), .int ar1, .int ar2])).length) Slot.unset).toArray = ls at hl ⊢
  have hl : lv_has ls 7 [(0, .ref (x 0)), (1, .int ar1), (2, .int ar2)] := hl
  unfold gX9_queue at hF
  refine lv_aload_n hx hb dX9_queue_0 rfl (lv_at hl 0 rfl) ?_
  refine lv_iload_n hx hb dX9_queue_1 rfl (lv_at hl 1 rfl) ?_
  by_cases c1 : ar1 = 0
  · skip
    have hF := (if_pos c1).symm.trans hF
    refine gvQ (As := [.int ar1]) (rest := []) ⟨hx, hb, hml, hown, hts⟩ (zX9_lineOf l D x cy g L K cf nm hG hL S hT _ ar1 (some (x 8)) (if_pos c1)) (cwV 1 hts gX9_queue_X9_lineOf rfl rfl rfl (by decide +kernel) ⟨Nat.le_of_ble_eq_true rfl, Nat.le_of_ble_eq_true rfl⟩) hK hP hD hS hA (va_recv hK hP (ci := 9) (q0 := 0) rfl rfl) rfl hl.1 rfl (Nat.le_of_ble_eq_true rfl) dX9_queue_2 ⟨Nat.le_of_ble_eq_true rfl, Nat.le_of_ble_eq_true rfl⟩ (fun a2 u9 H locs hw3 hP hD hS => ?_)
    have hP : va_P D vwCl (ZW x cy g S ++ va_pl L (pf cy K cf nm S)) H := hP
    have hD : va_D _ (ZW x cy g S ++ va_pl L (pf cy K cf nm S)) := hD
    refine lv_tov (v' := .ref (x 8)) (congrArg va_rf hw3) ?_
    refine lv_astore_n (lv' := [(3, .ref (x 8)), (0, .ref (x 0)), (1, .int ar1), (2, .int ar2)]) hx hb dX9_queue_5 rfl hl (by decide) rfl (fun ls hl => ?_)
    refine lv_aload_n hx hb dX9_queue_6 rfl (lv_at hl 0 rfl) ?_
    refine lv_ifnull hx hb dX9_queue_7 ?_
    refine lv_iload_n hx hb dX9_queue_10 rfl (lv_at hl 3 rfl) ?_
    refine lv_iconst (v := (-1)) hx hb dX9_queue_11 (by decide) ?_
    refine lv_icmp_ge (tgt := 17) hx hb dX9_queue_12 (by decide) (fun c4 => ?_) (fun c4 => ?_)
    · skip
      have hF := (if_pos c4).symm.trans hF
      refine lv_iconst (v := 0) hx hb dX9_queue_17 (by decide) ?_
      refine lv_istore (lv' := [(4, .int 0), (3, .ref (x 8)), (0, .ref (x 0)), (1, .int ar1), (2, .int ar2)]) hx hb dX9_queue_18 hl (by decide) rfl (fun ls hl => ?_)
      refine lv_iconst (v := 0) hx hb dX9_queue_20 (by decide) ?_
      refine lv_istore (lv' := [(5, .int 0), (4, .int 0), (3, .ref (x 8)), (0, .ref (x 0)), (1, .int ar1), (2, .int ar2)]) hx hb dX9_queue_21 hl (by decide) rfl (fun ls hl => ?_)
      refine key23 _ ?_ 1000 ar1 ar2 0 0  _ _ _ hF hP hD hS (lv_sub hl [4, 5, 1, 0, 3, 2] rfl)
      intro v2_19 v4_20 H locs ls hF hP hD hS hl
      refine lv_iload_n hx hb dX9_queue_76 rfl (lv_at hl 0 rfl) ?_
      refine lv_iconst (v := (-1)) hx hb dX9_queue_77 (by decide) ?_
      refine lv_icmp_ne (tgt := 86) hx hb dX9_queue_78 (by decide) (fun c21 => ?_) (fun c21 => ?_)
      · skip
        have hF := (if_neg c21).symm.trans hF
        refine lv_iconst (v := (-1)) hx hb dX9_queue_86 (by decide) ?_
        have e1 := Option.some.inj hF
        exact W.iret (v := (-1)) hx hb hr (fun t ht hW => ⟨⟨(-1), (), rfl, e1, by rw [ht]; exact hP, va_K.moved hW.alike hK, hD⟩, hS.F ht⟩) hS.2.2 dX9_queue_87
      · skip
        have hF := (if_pos c21).symm.trans hF
        refine lv_iload hx hb dX9_queue_81 (lv_at hl 1 rfl) ?_
        refine lv_goto (tgt := 87) hx hb dX9_queue_83 (by decide) ?_
        have e1 := Option.some.inj hF
        exact W.iret (v := v4_20) hx hb hr (fun t ht hW => ⟨⟨v4_20, (), rfl, e1, by rw [ht]; exact hP, va_K.moved hW.alike hK, hD⟩, hS.F ht⟩) hS.2.2 dX9_queue_87
    · skip
      have hF := (if_neg c4).symm.trans hF
      refine lv_iconst (v := (-1)) hx hb dX9_queue_15 (by decide) ?_
      have e1 := Option.some.inj hF
      exact W.iret (v := (-1)) hx hb hr (fun t ht hW => ⟨⟨(-1), (), rfl, e1, by rw [ht]; exact hP, va_K.moved hW.alike hK, hD⟩, hS.F ht⟩) hS.2.2 dX9_queue_16
  replace hF := (if_neg c1).symm.trans hF
  by_cases c22 : ar1 = 1
  · skip
    have hF := (if_pos c22).symm.trans hF
    refine gvQ (As := [.int ar1]) (rest := []) ⟨hx, hb, hml, hown, hts⟩ (zX9_lineOf l D x cy g L K cf nm hG hL S hT _ ar1 (some (x 10)) ((if_neg c1).trans (if_pos c22))) (cwV 1 hts gX9_queue_X9_lineOf rfl rfl rfl (by decide +kernel) ⟨Nat.le_of_ble_eq_true rfl, Nat.le_of_ble_eq_true rfl⟩) hK hP hD hS hA (va_recv hK hP (ci := 9) (q0 := 0) rfl rfl) rfl hl.1 rfl (Nat.le_of_ble_eq_true rfl) dX9_queue_2 ⟨Nat.le_of_ble_eq_true rfl, Nat.le_of_ble_eq_true rfl⟩ (fun a23 u9 H locs hw24 hP hD hS => ?_)
    have hP : va_P D vwCl (ZW x cy g S ++ va_pl L (pf cy K cf nm S)) H := hP
    have hD : va_D _ (ZW x cy g S ++ va_pl L (pf cy K cf nm S)) := hD
    refine lv_tov (v' := .ref (x 10)) (congrArg va_rf hw24) ?_
    refine lv_astore_n (lv' := [(3, .ref (x 10)), (0, .ref (x 0)), (1, .int ar1), (2, .int ar2)]) hx hb dX9_queue_5 rfl hl (by decide) rfl (fun ls hl => ?_)
    refine lv_aload_n hx hb dX9_queue_6 rfl (lv_at hl 0 rfl) ?_
    refine lv_ifnull hx hb dX9_queue_7 ?_
    refine lv_iload_n hx hb dX9_queue_10 rfl (lv_at hl 3 rfl) ?_
    refine lv_iconst (v := (-1)) hx hb dX9_queue_11 (by decide) ?_
    refine lv_icmp_ge (tgt := 17) hx hb dX9_queue_12 (by decide) (fun c25 => ?_) (fun c25 => ?_)
    · skip
      have hF := (if_pos c25).symm.trans hF
      refine lv_iconst (v := 0) hx hb dX9_queue_17 (by decide) ?_
      refine lv_istore (lv' := [(4, .int 0), (3, .ref (x 10)), (0, .ref (x 0)), (1, .int ar1), (2, .int ar2)]) hx hb dX9_queue_18 hl (by decide) rfl (fun ls hl => ?_)
      refine lv_iconst (v := 0) hx hb dX9_queue_20 (by decide) ?_
      refine lv_istore (lv' := [(5, .int 0), (4, .int 0), (3, .ref (x 10)), (0, .ref (x 0)), (1, .int ar1), (2, .int ar2)]) hx hb dX9_queue_21 hl (by decide) rfl (fun ls hl => ?_)
      refine key1023 _ ?_ 1000 ar1 ar2 0 0  _ _ _ hF hP hD hS (lv_sub hl [4, 5, 1, 0, 3, 2] rfl)
      intro v2_40 v4_41 H locs ls hF hP hD hS hl
      refine lv_iload_n hx hb dX9_queue_76 rfl (lv_at hl 0 rfl) ?_
      refine lv_iconst (v := (-1)) hx hb dX9_queue_77 (by decide) ?_
      refine lv_icmp_ne (tgt := 86) hx hb dX9_queue_78 (by decide) (fun c42 => ?_) (fun c42 => ?_)
      · skip
        have hF := (if_neg c42).symm.trans hF
        refine lv_iconst (v := (-1)) hx hb dX9_queue_86 (by decide) ?_
        have e1 := Option.some.inj hF
        exact W.iret (v := (-1)) hx hb hr (fun t ht hW => ⟨⟨(-1), (), rfl, e1, by rw [ht]; exact hP, va_K.moved hW.alike hK, hD⟩, hS.F ht⟩) hS.2.2 dX9_queue_87
      · skip
        have hF := (if_pos c42).symm.trans hF
        refine lv_iload hx hb dX9_queue_81 (lv_at hl 1 rfl) ?_
        refine lv_goto (tgt := 87) hx hb dX9_queue_83 (by decide) ?_
        have e1 := Option.some.inj hF
        exact W.iret (v := v4_41) hx hb hr (fun t ht hW => ⟨⟨v4_41, (), rfl, e1, by rw [ht]; exact hP, va_K.moved hW.alike hK, hD⟩, hS.F ht⟩) hS.2.2 dX9_queue_87
    · skip
      have hF := (if_neg c25).symm.trans hF
      refine lv_iconst (v := (-1)) hx hb dX9_queue_15 (by decide) ?_
      have e1 := Option.some.inj hF
      exact W.iret (v := (-1)) hx hb hr (fun t ht hW => ⟨⟨(-1), (), rfl, e1, by rw [ht]; exact hP, va_K.moved hW.alike hK, hD⟩, hS.F ht⟩) hS.2.2 dX9_queue_16
  replace hF := (if_neg c22).symm.trans hF
  by_cases c43 : ar1 = 2
  · skip
    have hF := (if_pos c43).symm.trans hF
    refine gvQ (As := [.int ar1]) (rest := []) ⟨hx, hb, hml, hown, hts⟩ (zX9_lineOf l D x cy g L K cf nm hG hL S hT _ ar1 (some (x 12)) ((if_neg c1).trans ((if_neg c22).trans (if_pos c43)))) (cwV 1 hts gX9_queue_X9_lineOf rfl rfl rfl (by decide +kernel) ⟨Nat.le_of_ble_eq_true rfl, Nat.le_of_ble_eq_true rfl⟩) hK hP hD hS hA (va_recv hK hP (ci := 9) (q0 := 0) rfl rfl) rfl hl.1 rfl (Nat.le_of_ble_eq_true rfl) dX9_queue_2 ⟨Nat.le_of_ble_eq_true rfl, Nat.le_of_ble_eq_true rfl⟩ (fun a44 u9 H locs hw45 hP hD hS => ?_)
    have hP : va_P D vwCl (ZW x cy g S ++ va_pl L (pf cy K cf nm S)) H := hP
    have hD : va_D _ (ZW x cy g S ++ va_pl L (pf cy K cf nm S)) := hD
    refine lv_tov (v' := .ref (x 12)) (congrArg va_rf hw45) ?_
    refine lv_astore_n (lv' := [(3, .ref (x 12)), (0, .ref (x 0)), (1, .int ar1), (2, .int ar2)]) hx hb dX9_queue_5 rfl hl (by decide) rfl (fun ls hl => ?_)
    refine lv_aload_n hx hb dX9_queue_6 rfl (lv_at hl 0 rfl) ?_
    refine lv_ifnull hx hb dX9_queue_7 ?_
    refine lv_iload_n hx hb dX9_queue_10 rfl (lv_at hl 3 rfl) ?_
    refine lv_iconst (v := (-1)) hx hb dX9_queue_11 (by decide) ?_
    refine lv_icmp_ge (tgt := 17) hx hb dX9_queue_12 (by decide) (fun c46 => ?_) (fun c46 => ?_)
    · skip
      have hF := (if_pos c46).symm.trans hF
      refine lv_iconst (v := 0) hx hb dX9_queue_17 (by decide) ?_
      refine lv_istore (lv' := [(4, .int 0), (3, .ref (x 12)), (0, .ref (x 0)), (1, .int ar1), (2, .int ar2)]) hx hb dX9_queue_18 hl (by decide) rfl (fun ls hl => ?_)
      refine lv_iconst (v := 0) hx hb dX9_queue_20 (by decide) ?_
      refine lv_istore (lv' := [(5, .int 0), (4, .int 0), (3, .ref (x 12)), (0, .ref (x 0)), (1, .int ar1), (2, .int ar2)]) hx hb dX9_queue_21 hl (by decide) rfl (fun ls hl => ?_)
      refine key2023 _ ?_ 1000 ar1 ar2 0 0  _ _ _ hF hP hD hS (lv_sub hl [4, 5, 1, 0, 3, 2] rfl)
      intro v2_61 v4_62 H locs ls hF hP hD hS hl
      refine lv_iload_n hx hb dX9_queue_76 rfl (lv_at hl 0 rfl) ?_
      refine lv_iconst (v := (-1)) hx hb dX9_queue_77 (by decide) ?_
      refine lv_icmp_ne (tgt := 86) hx hb dX9_queue_78 (by decide) (fun c63 => ?_) (fun c63 => ?_)
      · skip
        have hF := (if_neg c63).symm.trans hF
        refine lv_iconst (v := (-1)) hx hb dX9_queue_86 (by decide) ?_
        have e1 := Option.some.inj hF
        exact W.iret (v := (-1)) hx hb hr (fun t ht hW => ⟨⟨(-1), (), rfl, e1, by rw [ht]; exact hP, va_K.moved hW.alike hK, hD⟩, hS.F ht⟩) hS.2.2 dX9_queue_87
      · skip
        have hF := (if_pos c63).symm.trans hF
        refine lv_iload hx hb dX9_queue_81 (lv_at hl 1 rfl) ?_
        refine lv_goto (tgt := 87) hx hb dX9_queue_83 (by decide) ?_
        have e1 := Option.some.inj hF
        exact W.iret (v := v4_62) hx hb hr (fun t ht hW => ⟨⟨v4_62, (), rfl, e1, by rw [ht]; exact hP, va_K.moved hW.alike hK, hD⟩, hS.F ht⟩) hS.2.2 dX9_queue_87
    · skip
      have hF := (if_neg c46).symm.trans hF
      refine lv_iconst (v := (-1)) hx hb dX9_queue_15 (by decide) ?_
      have e1 := Option.some.inj hF
      exact W.iret (v := (-1)) hx hb hr (fun t ht hW => ⟨⟨(-1), (), rfl, e1, by rw [ht]; exact hP, va_K.moved hW.alike hK, hD⟩, hS.F ht⟩) hS.2.2 dX9_queue_16
  replace hF := (if_neg c43).symm.trans hF
  refine gvQ (As := [.int ar1]) (rest := []) ⟨hx, hb, hml, hown, hts⟩ (zX9_lineOf l D x cy g L K cf nm hG hL S hT _ ar1 none ((if_neg c1).trans ((if_neg c22).trans (if_neg c43)))) (cwV 1 hts gX9_queue_X9_lineOf rfl rfl rfl (by decide +kernel) ⟨Nat.le_of_ble_eq_true rfl, Nat.le_of_ble_eq_true rfl⟩) hK hP hD hS hA (va_recv hK hP (ci := 9) (q0 := 0) rfl rfl) rfl hl.1 rfl (Nat.le_of_ble_eq_true rfl) dX9_queue_2 ⟨Nat.le_of_ble_eq_true rfl, Nat.le_of_ble_eq_true rfl⟩ (fun a64 u9 H locs hw65 hP hD hS => ?_)
  have hP : va_P D vwCl (ZW x cy g S ++ va_pl L (pf cy K cf nm S)) H := hP
  have hD : va_D _ (ZW x cy g S ++ va_pl L (pf cy K cf nm S)) := hD
  refine lv_tov (v' := .null) (congrArg va_rf hw65) ?_
  refine lv_astore_nN (lv' := [(3, .null), (0, .ref (x 0)), (1, .int ar1), (2, .int ar2)]) hx hb dX9_queue_5 rfl hl (by decide) rfl (fun ls hl => ?_)
  refine lv_aload_nN hx hb dX9_queue_6 rfl (lv_at hl 0 rfl) ?_
  refine lv_ifnullN (tgt := 15) hx hb dX9_queue_7 (by decide) ?_
  refine lv_iconst (v := (-1)) hx hb dX9_queue_15 (by decide) ?_
  have e1 := Option.some.inj hF
  exact W.iret (v := (-1)) hx hb hr (fun t ht hW => ⟨⟨(-1), (), rfl, e1, by rw [ht]; exact hP, va_K.moved hW.alike hK, hD⟩, hS.F ht⟩) hS.2.2 dX9_queue_16
