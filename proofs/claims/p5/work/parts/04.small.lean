set_option maxHeartbeats 4000000 in
set_option maxRecDepth 100000 in
theorem zX9_isWithin (l : Launch) (D : va_G) (x : Nat → Nat) (cy : Nat → ClassId) (g : Nat → Nat → Option Nat) (L : List Nat) (K : Nat → Nat) (hG : GO L K g) (N : Nat → Nat) (n : Nat → Int32) (a : Nat → Nat → Int32) (r : Nat → Nat → Option Nat) (f : Nat → va_E) (hC : CI L K cy N r f) (sz : Nat) (v lo hi : Int32) : Met l yX9_isWithin wsX9_isWithin ({ frames := 0, cells := 0, slots := 0, locals := 0 }) (PW D (TYS cy) (XW x cy g N n a r ++ va_pl L f) sz [.int v, .int lo, .int hi]) (va_Qi (fun (res : Int32) (u : Unit) => res = sp_in v lo hi) (BU D (TYS cy) (XW x cy g N n a r ++ va_pl L f) (fun _ => XW x cy g N n a r ++ va_pl L f) sz) (va_A (XW x cy g N n a r ++ va_pl L f) sz)) 0 0 (va_A (XW x cy g N n a r ++ va_pl L f) sz) := by
  refine Met.ofW (cc := cX9_isWithin) (maxL := 3) (ret := (some .boolean)) (by decide) rfl ?_
  intro p e s m args below meth c s₁ B hml hv
  obtain ⟨rfl, hsz, hP, hK, hD0⟩ := hv
  have hx := B.exec
  have hb := B.bytes
  have hr := B.returns
  have hts := atoms_spec (ws := wsX9_isWithin) B.pre
  have hown : s.vm.findClass RX9 = some m.cls := findClass_of_methodNamed B.named
  have hlocks := B.notSynchronized
  subst hsz
  obtain ⟨hNB, hRB, hHT⟩ := hC
  have hSM : SM N N n n := SM_rf
  have hMM : MM N N a a := MM_rf
  have hD := hD0.self (sz := s.heap.size)
  have hA : ∀ q9 : Nat, s.heap.size ≤ q9 → va_A (XW x cy g N n a r ++ va_pl L f) s.heap.size q9 := fun q9 h => Or.inr h
  have hS : va_S (va_A (XW x cy g N n a r ++ va_pl L f) s.heap.size) s.heap s.heap [] := va_S.rf
  have hl := lv_entry ([.int v, .int lo, .int hi]) (n := 3) (Nat.le_of_ble_eq_true rfl)
  rw [lg_entry_eq]
  generalize (lg_sl ([.int v, .int lo, .int hi]) ++ List.replicate (3 - (lg_sl ([.int v, .int lo, .int hi])).length) Slot.unset).toArray = ls at hl ⊢
  have hl : lv_has ls 3 [(0, .int v), (1, .int lo), (2, .int hi)] := hl
  refine lv_iload_n hx hb dX9_isWithin_0 rfl (lv_at hl 0 rfl) ?_
  refine lv_iload_n hx hb dX9_isWithin_1 rfl (lv_at hl 1 rfl) ?_
  refine lv_icmp_lt (tgt := 14) hx hb dX9_isWithin_2 (by decide) (fun c1 => ?_) (fun c1 => ?_)
  · skip
    refine lv_iconst (v := 0) hx hb dX9_isWithin_14 (by decide) ?_
    exact W.zret (v := 0) hx hb hr (rfl) (fun t ht hW => ⟨⟨0, (), rfl, (by show _ = sp_in _ _ _; unfold sp_in; exact (if_pos c1).symm), by rw [ht]; exact hP, va_K.moved hW.alike hK, hD⟩, hS.F ht⟩) hS.2.2 dX9_isWithin_15
  · skip
    refine lv_iload_n hx hb dX9_isWithin_5 rfl (lv_at hl 0 rfl) ?_
    refine lv_iload_n hx hb dX9_isWithin_6 rfl (lv_at hl 2 rfl) ?_
    refine lv_icmp_gt (tgt := 14) hx hb dX9_isWithin_7 (by decide) (fun c2 => ?_) (fun c2 => ?_)
    · skip
      refine lv_iconst (v := 0) hx hb dX9_isWithin_14 (by decide) ?_
      exact W.zret (v := 0) hx hb hr (rfl) (fun t ht hW => ⟨⟨0, (), rfl, (by show _ = sp_in _ _ _; unfold sp_in; exact ((if_neg c1).trans (if_pos c2)).symm), by rw [ht]; exact hP, va_K.moved hW.alike hK, hD⟩, hS.F ht⟩) hS.2.2 dX9_isWithin_15
    · skip
      refine lv_iconst (v := 1) hx hb dX9_isWithin_10 (by decide) ?_
      refine lv_goto (tgt := 15) hx hb dX9_isWithin_11 (by decide) ?_
      exact W.zret (v := 1) hx hb hr (rfl) (fun t ht hW => ⟨⟨1, (), rfl, (by show _ = sp_in _ _ _; unfold sp_in; exact ((if_neg c1).trans (if_neg c2)).symm), by rw [ht]; exact hP, va_K.moved hW.alike hK, hD⟩, hS.F ht⟩) hS.2.2 dX9_isWithin_15

theorem iX9_isReader_9 : ∀ w ∈ wsX90, w ∈ wsX9_isReader := fun _ h => List.mem_cons_of_mem _ (List.mem_append_right _ h)
set_option maxHeartbeats 4000000 in
set_option maxRecDepth 100000 in
theorem zX9_isReader (l : Launch) (D : va_G) (x : Nat → Nat) (cy : Nat → ClassId) (g : Nat → Nat → Option Nat) (L : List Nat) (K : Nat → Nat) (hG : GO L K g) (N : Nat → Nat) (n : Nat → Int32) (a : Nat → Nat → Int32) (r : Nat → Nat → Option Nat) (f : Nat → va_E) (hC : CI L K cy N r f) (sz : Nat) (v : Int32) : Met l yX9_isReader wsX9_isReader ({ frames := 0, cells := 0, slots := 0, locals := 0 }) (PW D (TYS cy) (XW x cy g N n a r ++ va_pl L f) sz [.ref (x 0), .int v]) (va_Qi (fun (res : Int32) (u : Unit) => b01 res ∧ (¬ res = 0 ↔ ∃ j, j < N 2 ∧ v = nI j)) (BU D (TYS cy) (XW x cy g N n a r ++ va_pl L f) (fun _ => XW x cy g N n a r ++ va_pl L f) sz) (va_A (XW x cy g N n a r ++ va_pl L f) sz)) 0 0 (va_A (XW x cy g N n a r ++ va_pl L f) sz) := by
  refine Met.ofW (cc := cX9_isReader) (maxL := 2) (ret := (some .boolean)) (by decide) rfl ?_
  intro p e s m args below meth c s₁ B hml hv
  obtain ⟨rfl, hsz, hP, hK, hD0⟩ := hv
  have hx := B.exec
  have hb := B.bytes
  have hr := B.returns
  have hts := atoms_spec (ws := wsX9_isReader) B.pre
  have hown : s.vm.findClass RX9 = some m.cls := findClass_of_methodNamed B.named
  have hlocks := B.notSynchronized
  subst hsz
  obtain ⟨hNB, hRB, hHT⟩ := hC
  have hSM : SM N N n n := SM_rf
  have hMM : MM N N a a := MM_rf
  have hD := hD0.self (sz := s.heap.size)
  have hA : ∀ q9 : Nat, s.heap.size ≤ q9 → va_A (XW x cy g N n a r ++ va_pl L f) s.heap.size q9 := fun q9 h => Or.inr h
  have hS : va_S (va_A (XW x cy g N n a r ++ va_pl L f) s.heap.size) s.heap s.heap [] := va_S.rf
  have hl := lv_entry ([.ref (x 0), .int v]) (n := 2) (Nat.le_of_ble_eq_true rfl)
  rw [lg_entry_eq]
  generalize (lg_sl ([.ref (x 0), .int v]) ++ List.replicate (2 - (lg_sl ([.ref (x 0), .int v])).length) Slot.unset).toArray = ls at hl ⊢
  have hl : lv_has ls 2 [(0, .ref (x 0)), (1, .int v)] := hl
  refine lv_iload_n hx hb dX9_isReader_0 rfl (lv_at hl 1 rfl) ?_
  refine lv_if_lt (tgt := 16) hx hb dX9_isReader_1 (by decide) (fun c1 => ?_) (fun c1 => ?_)
  · skip
    refine lv_iconst (v := 0) hx hb dX9_isReader_16 (by decide) ?_
    exact W.zret (v := 0) hx hb hr (rfl) (fun t ht hW => ⟨⟨0, (), rfl, ⟨Or.inl rfl, fun h9 => absurd rfl h9, fun h9 => absurd h9 (ix_no1 c1 (by have := hNB 2 (by decide); have h8 : cap 2 ≤ 400 := (by decide); omega))⟩, by rw [ht]; exact hP, va_K.moved hW.alike hK, hD⟩, hS.F ht⟩) hS.2.2 dX9_isReader_17
  · skip
    refine lv_iload_n hx hb dX9_isReader_4 rfl (lv_at hl 1 rfl) ?_
    refine lv_aload_n hx hb dX9_isReader_5 rfl (lv_at hl 0 rfl) ?_
    refine va_get (D := D) (ci := 9) (v := .int (nI (N 2))) (C := RX9) (T := TX9) (N := 19) hx hb hts iX9_isReader_9 hown hK hP 0 rfl rfl 12 (by decide) (hts (.fieldLink RX9 104 "FondsRoom" "readerCount" "I") (by decide +kernel)) (fun _ h9 => h9) rfl dX9_isReader_6 ?_
    refine lv_icmp_ge (tgt := 16) hx hb dX9_isReader_9 (by decide) (fun c2 => ?_) (fun c2 => ?_)
    · skip
      refine lv_iconst (v := 0) hx hb dX9_isReader_16 (by decide) ?_
      exact W.zret (v := 0) hx hb hr (rfl) (fun t ht hW => ⟨⟨0, (), rfl, ⟨Or.inl rfl, fun h9 => absurd rfl h9, fun h9 => absurd h9 (ix_no2 c2 (by have := hNB 2 (by decide); have h8 : cap 2 ≤ 400 := (by decide); omega))⟩, by rw [ht]; exact hP, va_K.moved hW.alike hK, hD⟩, hS.F ht⟩) hS.2.2 dX9_isReader_17
    · skip
      refine lv_iconst (v := 1) hx hb dX9_isReader_12 (by decide) ?_
      refine lv_goto (tgt := 17) hx hb dX9_isReader_13 (by decide) ?_
      exact W.zret (v := 1) hx hb hr (rfl) (fun t ht hW => ⟨⟨1, (), rfl, ⟨Or.inr rfl, fun _ => ix_of c1 c2 (by have := hNB 2 (by decide); have h8 : cap 2 ≤ 400 := (by decide); omega), fun _ => by decide⟩, by rw [ht]; exact hP, va_K.moved hW.alike hK, hD⟩, hS.F ht⟩) hS.2.2 dX9_isReader_17

theorem iX9_isBox_9 : ∀ w ∈ wsX90, w ∈ wsX9_isBox := fun _ h => List.mem_cons_of_mem _ (List.mem_append_right _ h)
set_option maxHeartbeats 4000000 in
set_option maxRecDepth 100000 in
theorem zX9_isBox (l : Launch) (D : va_G) (x : Nat → Nat) (cy : Nat → ClassId) (g : Nat → Nat → Option Nat) (L : List Nat) (K : Nat → Nat) (hG : GO L K g) (N : Nat → Nat) (n : Nat → Int32) (a : Nat → Nat → Int32) (r : Nat → Nat → Option Nat) (f : Nat → va_E) (hC : CI L K cy N r f) (sz : Nat) (v : Int32) : Met l yX9_isBox wsX9_isBox ({ frames := 0, cells := 0, slots := 0, locals := 0 }) (PW D (TYS cy) (XW x cy g N n a r ++ va_pl L f) sz [.ref (x 0), .int v]) (va_Qi (fun (res : Int32) (u : Unit) => b01 res ∧ (¬ res = 0 ↔ ∃ j, j < N 1 ∧ v = nI j)) (BU D (TYS cy) (XW x cy g N n a r ++ va_pl L f) (fun _ => XW x cy g N n a r ++ va_pl L f) sz) (va_A (XW x cy g N n a r ++ va_pl L f) sz)) 0 0 (va_A (XW x cy g N n a r ++ va_pl L f) sz) := by
  refine Met.ofW (cc := cX9_isBox) (maxL := 2) (ret := (some .boolean)) (by decide) rfl ?_
  intro p e s m args below meth c s₁ B hml hv
  obtain ⟨rfl, hsz, hP, hK, hD0⟩ := hv
  have hx := B.exec
  have hb := B.bytes
  have hr := B.returns
  have hts := atoms_spec (ws := wsX9_isBox) B.pre
  have hown : s.vm.findClass RX9 = some m.cls := findClass_of_methodNamed B.named
  have hlocks := B.notSynchronized
  subst hsz
  obtain ⟨hNB, hRB, hHT⟩ := hC
  have hSM : SM N N n n := SM_rf
  have hMM : MM N N a a := MM_rf
  have hD := hD0.self (sz := s.heap.size)
  have hA : ∀ q9 : Nat, s.heap.size ≤ q9 → va_A (XW x cy g N n a r ++ va_pl L f) s.heap.size q9 := fun q9 h => Or.inr h
  have hS : va_S (va_A (XW x cy g N n a r ++ va_pl L f) s.heap.size) s.heap s.heap [] := va_S.rf
  have hl := lv_entry ([.ref (x 0), .int v]) (n := 2) (Nat.le_of_ble_eq_true rfl)
  rw [lg_entry_eq]
  generalize (lg_sl ([.ref (x 0), .int v]) ++ List.replicate (2 - (lg_sl ([.ref (x 0), .int v])).length) Slot.unset).toArray = ls at hl ⊢
  have hl : lv_has ls 2 [(0, .ref (x 0)), (1, .int v)] := hl
  refine lv_iload_n hx hb dX9_isBox_0 rfl (lv_at hl 1 rfl) ?_
  refine lv_if_lt (tgt := 16) hx hb dX9_isBox_1 (by decide) (fun c1 => ?_) (fun c1 => ?_)
  · skip
    refine lv_iconst (v := 0) hx hb dX9_isBox_16 (by decide) ?_
    exact W.zret (v := 0) hx hb hr (rfl) (fun t ht hW => ⟨⟨0, (), rfl, ⟨Or.inl rfl, fun h9 => absurd rfl h9, fun h9 => absurd h9 (ix_no1 c1 (by have := hNB 1 (by decide); have h8 : cap 1 ≤ 400 := (by decide); omega))⟩, by rw [ht]; exact hP, va_K.moved hW.alike hK, hD⟩, hS.F ht⟩) hS.2.2 dX9_isBox_17
  · skip
    refine lv_iload_n hx hb dX9_isBox_4 rfl (lv_at hl 1 rfl) ?_
    refine lv_aload_n hx hb dX9_isBox_5 rfl (lv_at hl 0 rfl) ?_
    refine va_get (D := D) (ci := 9) (v := .int (nI (N 1))) (C := RX9) (T := TX9) (N := 19) hx hb hts iX9_isBox_9 hown hK hP 0 rfl rfl 11 (by decide) (hts (.fieldLink RX9 88 "FondsRoom" "boxCount" "I") (by decide +kernel)) (fun _ h9 => h9) rfl dX9_isBox_6 ?_
    refine lv_icmp_ge (tgt := 16) hx hb dX9_isBox_9 (by decide) (fun c2 => ?_) (fun c2 => ?_)
    · skip
      refine lv_iconst (v := 0) hx hb dX9_isBox_16 (by decide) ?_
      exact W.zret (v := 0) hx hb hr (rfl) (fun t ht hW => ⟨⟨0, (), rfl, ⟨Or.inl rfl, fun h9 => absurd rfl h9, fun h9 => absurd h9 (ix_no2 c2 (by have := hNB 1 (by decide); have h8 : cap 1 ≤ 400 := (by decide); omega))⟩, by rw [ht]; exact hP, va_K.moved hW.alike hK, hD⟩, hS.F ht⟩) hS.2.2 dX9_isBox_17
    · skip
      refine lv_iconst (v := 1) hx hb dX9_isBox_12 (by decide) ?_
      refine lv_goto (tgt := 17) hx hb dX9_isBox_13 (by decide) ?_
      exact W.zret (v := 1) hx hb hr (rfl) (fun t ht hW => ⟨⟨1, (), rfl, ⟨Or.inr rfl, fun _ => ix_of c1 c2 (by have := hNB 1 (by decide); have h8 : cap 1 ≤ 400 := (by decide); omega), fun _ => by decide⟩, by rw [ht]; exact hP, va_K.moved hW.alike hK, hD⟩, hS.F ht⟩) hS.2.2 dX9_isBox_17

theorem iX2_keep_2 : ∀ w ∈ wsX20, w ∈ wsX2_keep := fun _ h => List.mem_cons_of_mem _ (List.mem_append_right _ h)
set_option maxHeartbeats 4000000 in
set_option maxRecDepth 100000 in
theorem zX2_keep (l : Launch) (D : va_G) (x : Nat → Nat) (cy : Nat → ClassId) (g : Nat → Nat → Option Nat) (L : List Nat) (K : Nat → Nat) (hG : GO L K g) (N : Nat → Nat) (n : Nat → Int32) (a : Nat → Nat → Int32) (r : Nat → Nat → Option Nat) (f : Nat → va_E) (hC : CI L K cy N r f) (sz : Nat) (t1 r1 w1 v1 : Int32) : Met l yX2_keep wsX2_keep ({ frames := 0, cells := 0, slots := 0, locals := 0 }) (PW D (TYS cy) (XW x cy g N n a r ++ va_pl L f) sz [.ref (x 18), .int t1, .int r1, .int w1, .int v1]) (va_Qv (fun (u : ST) => CI L K cy u.1 u.2.2.2.1 u.2.2.2.2 ∧ SM N u.1 n u.2.1 ∧ MM N u.1 a u.2.2.1 ∧ True) (BU D (TYS cy) (XW x cy g N n a r ++ va_pl L f) (WC x cy g L) sz) (va_A (XW x cy g N n a r ++ va_pl L f) sz)) 0 0 (va_A (XW x cy g N n a r ++ va_pl L f) sz) := by
  refine Met.ofW (cc := cX2_keep) (maxL := 6) (ret := none) (by decide) rfl ?_
  intro p e s m args below meth c s₁ B hml hv
  obtain ⟨rfl, hsz, hP, hK, hD0⟩ := hv
  have hx := B.exec
  have hb := B.bytes
  have hr := B.returns
  have hts := atoms_spec (ws := wsX2_keep) B.pre
  have hown : s.vm.findClass RX2 = some m.cls := findClass_of_methodNamed B.named
  have hlocks := B.notSynchronized
  subst hsz
  obtain ⟨hNB, hRB, hHT⟩ := hC
  have hSM : SM N N n n := SM_rf
  have hMM : MM N N a a := MM_rf
  have hD := hD0.self (sz := s.heap.size)
  have hA : ∀ q9 : Nat, s.heap.size ≤ q9 → va_A (XW x cy g N n a r ++ va_pl L f) s.heap.size q9 := fun q9 h => Or.inr h
  have hS : va_S (va_A (XW x cy g N n a r ++ va_pl L f) s.heap.size) s.heap s.heap [] := va_S.rf
  have hl := lv_entry ([.ref (x 18), .int t1, .int r1, .int w1, .int v1]) (n := 6) (Nat.le_of_ble_eq_true rfl)
  rw [lg_entry_eq]
  generalize (lg_sl ([.ref (x 18), .int t1, .int r1, .int w1, .int v1]) ++ List.replicate (6 - (lg_sl ([.ref (x 18), .int t1, .int r1, .int w1, .int v1])).length) Slot.unset).toArray = ls at hl ⊢
  have hl : lv_has ls 6 [(0, .ref (x 18)), (1, .int t1), (2, .int r1), (3, .int w1), (4, .int v1)] := hl
  refine lv_aload_n hx hb dX2_keep_0 rfl (lv_at hl 0 rfl) ?_
  refine va_get (D := D) (ci := 2) (v := .int (nI (N 9))) (C := RX2) (T := TX2) (N := 2) hx hb hts iX2_keep_2 hown hK hP 18 rfl rfl 1 (by decide) (hts (.fieldLink RX2 15 "FondsRoom$Events" "size" "I") (by decide +kernel)) (fun _ h9 => h9) rfl dX2_keep_1 ?_
  refine lv_sipush (v := 400) hx hb dX2_keep_4 (by decide) ?_
  refine lv_icmp_lt (tgt := 11) hx hb dX2_keep_7 (by decide) (fun c1 => ?_) (fun c1 => ?_)
  · skip
    have nb0 : N 0 ≤ 12 := hNB 0 (by decide)
    have nb1 : N 1 ≤ 40 := hNB 1 (by decide)
    have nb2 : N 2 ≤ 20 := hNB 2 (by decide)
    have nb3 : N 3 ≤ 4 := hNB 3 (by decide)
    have nb4 : N 4 ≤ 3 := hNB 4 (by decide)
    have nb5 : N 5 ≤ 20 := hNB 5 (by decide)
    have nb6 : N 6 ≤ 20 := hNB 6 (by decide)
    have nb7 : N 7 ≤ 20 := hNB 7 (by decide)
    have nb8 : N 8 ≤ 30 := hNB 8 (by decide)
    have nb9 : N 9 ≤ 400 := hNB 9 (by decide)
    have dc1 : (N 9) < 400 := (nI_ltI (a := (N 9)) (b := 400) (by omega) (by omega)).mp c1
    refine lv_aload_n hx hb dX2_keep_11 rfl (lv_at hl 0 rfl) ?_
    refine va_get (D := D) (ci := 2) (v := .int (nI (N 9))) (C := RX2) (T := TX2) (N := 2) hx hb hts iX2_keep_2 hown hK hP 18 rfl rfl 1 (by decide) (hts (.fieldLink RX2 15 "FondsRoom$Events" "size" "I") (by decide +kernel)) (fun _ h9 => h9) rfl dX2_keep_12 ?_
    refine lv_iconst (v := 4) hx hb dX2_keep_15 (by decide) ?_
    refine lv_imul hx hb dX2_keep_16 ?_
    refine lv_tov (v' := .int (nI ((N 9) * 4))) (congrArg Value.int (pk_mul (N 9) 4)) ?_
    refine lv_istore (lv' := [(5, .int (nI ((N 9) * 4))), (0, .ref (x 18)), (1, .int t1), (2, .int r1), (3, .int w1), (4, .int v1)]) hx hb dX2_keep_17 hl (by decide) rfl (fun ls hl => ?_)
    refine lv_aload_n hx hb dX2_keep_19 rfl (lv_at hl 1 rfl) ?_
    refine va_get (D := D) (ci := 2) (v := .ref (x 19)) (C := RX2) (T := TX2) (N := 2) hx hb hts iX2_keep_2 hown hK hP 18 rfl rfl 0 (by decide) (hts (.fieldLink RX2 11 "FondsRoom$Events" "rows" "[I") (by decide +kernel)) (fun _ h9 => h9) rfl dX2_keep_20 ?_
    refine lv_iload hx hb dX2_keep_23 (lv_at hl 0 rfl) ?_
    refine lv_iload_n hx hb dX2_keep_25 rfl (lv_at hl 2 rfl) ?_
    refine va_iast hx hb hK hP hD hS 19 0 rfl rfl (vp_in_nI (by omega) (by omega)) dX2_keep_26 (fun H locs hP hD hS => ?_)
    rw [nI_clamp (by omega)] at hP hD
    obtain ⟨a2, ea2⟩ : ∃ z, z = va_up a 3 (upd (a 3) (((N 9) * 4)) t1) := ⟨_, rfl⟩
    have hP : va_P D vwCl (XW x cy g N n a2 r ++ va_pl L f) H := by rw [ea2]; exact hP
    have hD : va_D (va_A (XW x cy g N n a r ++ va_pl L f) s.heap.size) (XW x cy g N n a2 r ++ va_pl L f) := by rw [ea2]; exact hD
    have hMM : MM N N a a2 := by rw [ea2]; exact MM_a hMM 3 _ (by decide)
    refine lv_aload_n hx hb dX2_keep_27 rfl (lv_at hl 1 rfl) ?_
    refine va_get (D := D) (ci := 2) (v := .ref (x 19)) (C := RX2) (T := TX2) (N := 2) hx hb hts iX2_keep_2 hown hK hP 18 rfl rfl 0 (by decide) (hts (.fieldLink RX2 11 "FondsRoom$Events" "rows" "[I") (by decide +kernel)) (fun _ h9 => h9) rfl dX2_keep_28 ?_
    refine lv_iload hx hb dX2_keep_31 (lv_at hl 0 rfl) ?_
    refine lv_iconst (v := 1) hx hb dX2_keep_33 (by decide) ?_
    refine lv_iadd hx hb dX2_keep_34 ?_
    refine lv_tov (v' := .int (nI (((N 9) * 4) + 1))) (congrArg Value.int (nI_add ((N 9) * 4) 1)) ?_
    refine lv_iload_n hx hb dX2_keep_35 rfl (lv_at hl 3 rfl) ?_
    refine va_iast hx hb hK hP hD hS 19 0 rfl rfl (vp_in_nI (by omega) (by omega)) dX2_keep_36 (fun H locs hP hD hS => ?_)
    rw [nI_clamp (by omega)] at hP hD
    obtain ⟨a3, ea3⟩ : ∃ z, z = va_up a2 3 (upd (a2 3) ((((N 9) * 4) + 1)) r1) := ⟨_, rfl⟩
    have hP : va_P D vwCl (XW x cy g N n a3 r ++ va_pl L f) H := by rw [ea3]; exact hP
    have hD : va_D (va_A (XW x cy g N n a r ++ va_pl L f) s.heap.size) (XW x cy g N n a3 r ++ va_pl L f) := by rw [ea3]; exact hD
    have hMM : MM N N a a3 := by rw [ea3]; exact MM_a hMM 3 _ (by decide)
    refine lv_aload_n hx hb dX2_keep_37 rfl (lv_at hl 1 rfl) ?_
    refine va_get (D := D) (ci := 2) (v := .ref (x 19)) (C := RX2) (T := TX2) (N := 2) hx hb hts iX2_keep_2 hown hK hP 18 rfl rfl 0 (by decide) (hts (.fieldLink RX2 11 "FondsRoom$Events" "rows" "[I") (by decide +kernel)) (fun _ h9 => h9) rfl dX2_keep_38 ?_
    refine lv_iload hx hb dX2_keep_41 (lv_at hl 0 rfl) ?_
    refine lv_iconst (v := 2) hx hb dX2_keep_43 (by decide) ?_
    refine lv_iadd hx hb dX2_keep_44 ?_
    refine lv_tov (v' := .int (nI (((N 9) * 4) + 2))) (congrArg Value.int (nI_add ((N 9) * 4) 2)) ?_
    refine lv_iload_n hx hb dX2_keep_45 rfl (lv_at hl 4 rfl) ?_
    refine va_iast hx hb hK hP hD hS 19 0 rfl rfl (vp_in_nI (by omega) (by omega)) dX2_keep_46 (fun H locs hP hD hS => ?_)
    rw [nI_clamp (by omega)] at hP hD
    obtain ⟨a4, ea4⟩ : ∃ z, z = va_up a3 3 (upd (a3 3) ((((N 9) * 4) + 2)) w1) := ⟨_, rfl⟩
    have hP : va_P D vwCl (XW x cy g N n a4 r ++ va_pl L f) H := by rw [ea4]; exact hP
    have hD : va_D (va_A (XW x cy g N n a r ++ va_pl L f) s.heap.size) (XW x cy g N n a4 r ++ va_pl L f) := by rw [ea4]; exact hD
    have hMM : MM N N a a4 := by rw [ea4]; exact MM_a hMM 3 _ (by decide)
    refine lv_aload_n hx hb dX2_keep_47 rfl (lv_at hl 1 rfl) ?_
    refine va_get (D := D) (ci := 2) (v := .ref (x 19)) (C := RX2) (T := TX2) (N := 2) hx hb hts iX2_keep_2 hown hK hP 18 rfl rfl 0 (by decide) (hts (.fieldLink RX2 11 "FondsRoom$Events" "rows" "[I") (by decide +kernel)) (fun _ h9 => h9) rfl dX2_keep_48 ?_
    refine lv_iload hx hb dX2_keep_51 (lv_at hl 0 rfl) ?_
    refine lv_iconst (v := 3) hx hb dX2_keep_53 (by decide) ?_
    refine lv_iadd hx hb dX2_keep_54 ?_
    refine lv_tov (v' := .int (nI (((N 9) * 4) + 3))) (congrArg Value.int (nI_add ((N 9) * 4) 3)) ?_
    refine lv_iload hx hb dX2_keep_55 (lv_at hl 5 rfl) ?_
    refine va_iast hx hb hK hP hD hS 19 0 rfl rfl (vp_in_nI (by omega) (by omega)) dX2_keep_57 (fun H locs hP hD hS => ?_)
    rw [nI_clamp (by omega)] at hP hD
    obtain ⟨a5, ea5⟩ : ∃ z, z = va_up a4 3 (upd (a4 3) ((((N 9) * 4) + 3)) v1) := ⟨_, rfl⟩
    have hP : va_P D vwCl (XW x cy g N n a5 r ++ va_pl L f) H := by rw [ea5]; exact hP
    have hD : va_D (va_A (XW x cy g N n a r ++ va_pl L f) s.heap.size) (XW x cy g N n a5 r ++ va_pl L f) := by rw [ea5]; exact hD
    have hMM : MM N N a a5 := by rw [ea5]; exact MM_a hMM 3 _ (by decide)
    refine lv_aload_n hx hb dX2_keep_58 rfl (lv_at hl 1 rfl) ?_
    refine lv_dup hx hb dX2_keep_59 rfl ?_
    refine va_get (D := D) (ci := 2) (v := .int (nI (N 9))) (C := RX2) (T := TX2) (N := 2) hx hb hts iX2_keep_2 hown hK hP 18 rfl rfl 1 (by decide) (hts (.fieldLink RX2 15 "FondsRoom$Events" "size" "I") (by decide +kernel)) (fun _ h9 => h9) rfl dX2_keep_60 ?_
    refine lv_iconst (v := 1) hx hb dX2_keep_63 (by decide) ?_
    refine lv_iadd hx hb dX2_keep_64 ?_
    refine lv_tov (v' := .int (nI ((N 9) + 1))) (congrArg Value.int (nI_add (N 9) 1)) ?_
    refine va_put (D := D) (ci := 2) (v := .int (nI ((N 9) + 1))) (ty := .int) (C := RX2) (T := TX2) (N := 2) hx hb hts iX2_keep_2 tyX2 tyX2_ok nmX2 hown hK hP hD hS 18 rfl rfl 1 (by decide) (hts (.fieldLink RX2 15 "FondsRoom$Events" "size" "I") (by decide +kernel)) (fun _ h9 => h9) rfl (by decide +kernel) rfl rfl (Nat.le_of_ble_eq_true rfl) dX2_keep_65 (fun H locs hP hD hS => ?_)
    obtain ⟨N6, eN6⟩ : ∃ z, z = va_up N 9 ((N 9) + 1) := ⟨_, rfl⟩
    have hP : va_P D vwCl (XW x cy g N6 n a5 r ++ va_pl L f) H := by rw [eN6]; exact hP
    have hD : va_D (va_A (XW x cy g N n a r ++ va_pl L f) s.heap.size) (XW x cy g N6 n a5 r ++ va_pl L f) := by rw [eN6]; exact hD
    have hNB : NB N6 := by rw [eN6]; exact NB_up hNB 9 ((N 9) + 1) (by show ((N 9) + 1) ≤ 400; omega)
    have hRB : RB L K N6 r := by rw [eN6]; exact RB_N hRB 9 ((N 9) + 1) (fun j hj e9 => by omega)
    have hSM : SM N N6 n n := by rw [eN6]; exact SM_N hSM 9 ((N 9) + 1) (by decide)
    have hMM : MM N N6 a a5 := by rw [eN6]; exact MM_N hMM 9 ((N 9) + 1) (by decide)
    exact W.vret hx hb hr (fun t ht hW => ⟨⟨(N6, n, a5, r, f), rfl, ⟨⟨hNB, hRB, hHT⟩, hSM, hMM, trivial⟩, by rw [ht]; exact hP, va_K.moved hW.alike hK, hD⟩, hS.F ht⟩) hS.2.2 dX2_keep_68
  · skip
    have nb0 : N 0 ≤ 12 := hNB 0 (by decide)
    have nb1 : N 1 ≤ 40 := hNB 1 (by decide)
    have nb2 : N 2 ≤ 20 := hNB 2 (by decide)
    have nb3 : N 3 ≤ 4 := hNB 3 (by decide)
    have nb4 : N 4 ≤ 3 := hNB 4 (by decide)
    have nb5 : N 5 ≤ 20 := hNB 5 (by decide)
    have nb6 : N 6 ≤ 20 := hNB 6 (by decide)
    have nb7 : N 7 ≤ 20 := hNB 7 (by decide)
    have nb8 : N 8 ≤ 30 := hNB 8 (by decide)
    have nb9 : N 9 ≤ 400 := hNB 9 (by decide)
    have dc1 : 400 ≤ (N 9) := Nat.not_lt.mp (fun h9 => c1 ((nI_ltI (a := (N 9)) (b := 400) (by omega) (by omega)).mpr h9))
    exact W.vret hx hb hr (fun t ht hW => ⟨⟨(N, n, a, r, f), rfl, ⟨⟨hNB, hRB, hHT⟩, hSM, hMM, trivial⟩, by rw [ht]; exact hP, va_K.moved hW.alike hK, hD⟩, hS.F ht⟩) hS.2.2 dX2_keep_10

theorem iX4_append_4 : ∀ w ∈ wsX40, w ∈ wsX4_append := fun _ h => List.mem_cons_of_mem _ (List.mem_append_right _ h)
set_option maxHeartbeats 4000000 in
set_option maxRecDepth 100000 in
theorem zX4_append (l : Launch) (D : va_G) (x : Nat → Nat) (cy : Nat → ClassId) (g : Nat → Nat → Option Nat) (L : List Nat) (K : Nat → Nat) (hG : GO L K g) (N : Nat → Nat) (n : Nat → Int32) (a : Nat → Nat → Int32) (r : Nat → Nat → Option Nat) (f : Nat → va_E) (hC : CI L K cy N r f) (sz : Nat) (t1 k1 v1 : Int32) : Met l yX4_append wsX4_append ({ frames := 0, cells := 0, slots := 0, locals := 0 }) (PW D (TYS cy) (XW x cy g N n a r ++ va_pl L f) sz [.ref (x 14), .int t1, .int k1, .int v1]) (va_Qi (fun (res : Int32) (u : ST) => CI L K cy u.1 u.2.2.2.1 u.2.2.2.2 ∧ SM N u.1 n u.2.1 ∧ b01 res ∧ res = mz_ok (ml (a 0) (N 8)) ∧ ml (u.2.2.1 0) (u.1 8) = mz_app (ml (a 0) (N 8)) t1) (BU D (TYS cy) (XW x cy g N n a r ++ va_pl L f) (WC x cy g L) sz) (va_A (XW x cy g N n a r ++ va_pl L f) sz)) 0 0 (va_A (XW x cy g N n a r ++ va_pl L f) sz) := by
  refine Met.ofW (cc := cX4_append) (maxL := 4) (ret := (some .boolean)) (by decide) rfl ?_
  intro p e s m args below meth c s₁ B hml hv
  obtain ⟨rfl, hsz, hP, hK, hD0⟩ := hv
  have hx := B.exec
  have hb := B.bytes
  have hr := B.returns
  have hts := atoms_spec (ws := wsX4_append) B.pre
  have hown : s.vm.findClass RX4 = some m.cls := findClass_of_methodNamed B.named
  have hlocks := B.notSynchronized
  subst hsz
  obtain ⟨hNB, hRB, hHT⟩ := hC
  have hSM : SM N N n n := SM_rf
  have hMM : MM N N a a := MM_rf
  have hD := hD0.self (sz := s.heap.size)
  have hA : ∀ q9 : Nat, s.heap.size ≤ q9 → va_A (XW x cy g N n a r ++ va_pl L f) s.heap.size q9 := fun q9 h => Or.inr h
  have hS : va_S (va_A (XW x cy g N n a r ++ va_pl L f) s.heap.size) s.heap s.heap [] := va_S.rf
  have hl := lv_entry ([.ref (x 14), .int t1, .int k1, .int v1]) (n := 4) (Nat.le_of_ble_eq_true rfl)
  rw [lg_entry_eq]
  generalize (lg_sl ([.ref (x 14), .int t1, .int k1, .int v1]) ++ List.replicate (4 - (lg_sl ([.ref (x 14), .int t1, .int k1, .int v1])).length) Slot.unset).toArray = ls at hl ⊢
  have hl : lv_has ls 4 [(0, .ref (x 14)), (1, .int t1), (2, .int k1), (3, .int v1)] := hl
  refine lv_aload_n hx hb dX4_append_0 rfl (lv_at hl 0 rfl) ?_
  refine va_get (D := D) (ci := 4) (v := .int (nI (N 8))) (C := RX4) (T := TX4) (N := 4) hx hb hts iX4_append_4 hown hK hP 14 rfl rfl 3 (by decide) (hts (.fieldLink RX4 21 "FondsRoom$Mishaps" "size" "I") (by decide +kernel)) (fun _ h9 => h9) rfl dX4_append_1 ?_
  refine lv_bipush (v := 30) hx hb dX4_append_4 (by decide) ?_
  refine lv_icmp_lt (tgt := 11) hx hb dX4_append_6 (by decide) (fun c1 => ?_) (fun c1 => ?_)
  · skip
    have nb0 : N 0 ≤ 12 := hNB 0 (by decide)
    have nb1 : N 1 ≤ 40 := hNB 1 (by decide)
    have nb2 : N 2 ≤ 20 := hNB 2 (by decide)
    have nb3 : N 3 ≤ 4 := hNB 3 (by decide)
    have nb4 : N 4 ≤ 3 := hNB 4 (by decide)
    have nb5 : N 5 ≤ 20 := hNB 5 (by decide)
    have nb6 : N 6 ≤ 20 := hNB 6 (by decide)
    have nb7 : N 7 ≤ 20 := hNB 7 (by decide)
    have nb8 : N 8 ≤ 30 := hNB 8 (by decide)
    have nb9 : N 9 ≤ 400 := hNB 9 (by decide)
    have dc1 : (N 8) < 30 := (nI_ltI (a := (N 8)) (b := 30) (by omega) (by omega)).mp c1
    refine lv_aload_n hx hb dX4_append_11 rfl (lv_at hl 0 rfl) ?_
    refine va_get (D := D) (ci := 4) (v := .ref (x 15)) (C := RX4) (T := TX4) (N := 4) hx hb hts iX4_append_4 hown hK hP 14 rfl rfl 0 (by decide) (hts (.fieldLink RX4 9 "FondsRoom$Mishaps" "turns" "[I") (by decide +kernel)) (fun _ h9 => h9) rfl dX4_append_12 ?_
    refine lv_aload_n hx hb dX4_append_15 rfl (lv_at hl 0 rfl) ?_
    refine va_get (D := D) (ci := 4) (v := .int (nI (N 8))) (C := RX4) (T := TX4) (N := 4) hx hb hts iX4_append_4 hown hK hP 14 rfl rfl 3 (by decide) (hts (.fieldLink RX4 21 "FondsRoom$Mishaps" "size" "I") (by decide +kernel)) (fun _ h9 => h9) rfl dX4_append_16 ?_
    refine lv_iload_n hx hb dX4_append_19 rfl (lv_at hl 1 rfl) ?_
    refine va_iast hx hb hK hP hD hS 15 0 rfl rfl (vp_in_nI (by omega) (by omega)) dX4_append_20 (fun H locs hP hD hS => ?_)
    rw [nI_clamp (by omega)] at hP hD
    obtain ⟨a2, ea2⟩ : ∃ z, z = va_up a 0 (upd (a 0) ((N 8)) t1) := ⟨_, rfl⟩
    have hP : va_P D vwCl (XW x cy g N n a2 r ++ va_pl L f) H := by rw [ea2]; exact hP
    have hD : va_D (va_A (XW x cy g N n a r ++ va_pl L f) s.heap.size) (XW x cy g N n a2 r ++ va_pl L f) := by rw [ea2]; exact hD
    refine lv_aload_n hx hb dX4_append_21 rfl (lv_at hl 0 rfl) ?_
    refine va_get (D := D) (ci := 4) (v := .ref (x 16)) (C := RX4) (T := TX4) (N := 4) hx hb hts iX4_append_4 hown hK hP 14 rfl rfl 1 (by decide) (hts (.fieldLink RX4 15 "FondsRoom$Mishaps" "kinds" "[I") (by decide +kernel)) (fun _ h9 => h9) rfl dX4_append_22 ?_
    refine lv_aload_n hx hb dX4_append_25 rfl (lv_at hl 0 rfl) ?_
    refine va_get (D := D) (ci := 4) (v := .int (nI (N 8))) (C := RX4) (T := TX4) (N := 4) hx hb hts iX4_append_4 hown hK hP 14 rfl rfl 3 (by decide) (hts (.fieldLink RX4 21 "FondsRoom$Mishaps" "size" "I") (by decide +kernel)) (fun _ h9 => h9) rfl dX4_append_26 ?_
    refine lv_iload_n hx hb dX4_append_29 rfl (lv_at hl 2 rfl) ?_
    refine va_iast hx hb hK hP hD hS 16 0 rfl rfl (vp_in_nI (by omega) (by omega)) dX4_append_30 (fun H locs hP hD hS => ?_)
    rw [nI_clamp (by omega)] at hP hD
    obtain ⟨a3, ea3⟩ : ∃ z, z = va_up a2 1 (upd (a2 1) ((N 8)) k1) := ⟨_, rfl⟩
    have hP : va_P D vwCl (XW x cy g N n a3 r ++ va_pl L f) H := by rw [ea3]; exact hP
    have hD : va_D (va_A (XW x cy g N n a r ++ va_pl L f) s.heap.size) (XW x cy g N n a3 r ++ va_pl L f) := by rw [ea3]; exact hD
    refine lv_aload_n hx hb dX4_append_31 rfl (lv_at hl 0 rfl) ?_
    refine va_get (D := D) (ci := 4) (v := .ref (x 17)) (C := RX4) (T := TX4) (N := 4) hx hb hts iX4_append_4 hown hK hP 14 rfl rfl 2 (by decide) (hts (.fieldLink RX4 18 "FondsRoom$Mishaps" "whos" "[I") (by decide +kernel)) (fun _ h9 => h9) rfl dX4_append_32 ?_
    refine lv_aload_n hx hb dX4_append_35 rfl (lv_at hl 0 rfl) ?_
    refine va_get (D := D) (ci := 4) (v := .int (nI (N 8))) (C := RX4) (T := TX4) (N := 4) hx hb hts iX4_append_4 hown hK hP 14 rfl rfl 3 (by decide) (hts (.fieldLink RX4 21 "FondsRoom$Mishaps" "size" "I") (by decide +kernel)) (fun _ h9 => h9) rfl dX4_append_36 ?_
    refine lv_iload_n hx hb dX4_append_39 rfl (lv_at hl 3 rfl) ?_
    refine va_iast hx hb hK hP hD hS 17 0 rfl rfl (vp_in_nI (by omega) (by omega)) dX4_append_40 (fun H locs hP hD hS => ?_)
    rw [nI_clamp (by omega)] at hP hD
    obtain ⟨a4, ea4⟩ : ∃ z, z = va_up a3 2 (upd (a3 2) ((N 8)) v1) := ⟨_, rfl⟩
    have hP : va_P D vwCl (XW x cy g N n a4 r ++ va_pl L f) H := by rw [ea4]; exact hP
    have hD : va_D (va_A (XW x cy g N n a r ++ va_pl L f) s.heap.size) (XW x cy g N n a4 r ++ va_pl L f) := by rw [ea4]; exact hD
    refine lv_aload_n hx hb dX4_append_41 rfl (lv_at hl 0 rfl) ?_
    refine lv_dup hx hb dX4_append_42 rfl ?_
    refine va_get (D := D) (ci := 4) (v := .int (nI (N 8))) (C := RX4) (T := TX4) (N := 4) hx hb hts iX4_append_4 hown hK hP 14 rfl rfl 3 (by decide) (hts (.fieldLink RX4 21 "FondsRoom$Mishaps" "size" "I") (by decide +kernel)) (fun _ h9 => h9) rfl dX4_append_43 ?_
    refine lv_iconst (v := 1) hx hb dX4_append_46 (by decide) ?_
    refine lv_iadd hx hb dX4_append_47 ?_
    refine lv_tov (v' := .int (nI ((N 8) + 1))) (congrArg Value.int (nI_add (N 8) 1)) ?_
    refine va_put (D := D) (ci := 4) (v := .int (nI ((N 8) + 1))) (ty := .int) (C := RX4) (T := TX4) (N := 4) hx hb hts iX4_append_4 tyX4 tyX4_ok nmX4 hown hK hP hD hS 14 rfl rfl 3 (by decide) (hts (.fieldLink RX4 21 "FondsRoom$Mishaps" "size" "I") (by decide +kernel)) (fun _ h9 => h9) rfl (by decide +kernel) rfl rfl (Nat.le_of_ble_eq_true rfl) dX4_append_48 (fun H locs hP hD hS => ?_)
    obtain ⟨N5, eN5⟩ : ∃ z, z = va_up N 8 ((N 8) + 1) := ⟨_, rfl⟩
    have hP : va_P D vwCl (XW x cy g N5 n a4 r ++ va_pl L f) H := by rw [eN5]; exact hP
    have hD : va_D (va_A (XW x cy g N n a r ++ va_pl L f) s.heap.size) (XW x cy g N5 n a4 r ++ va_pl L f) := by rw [eN5]; exact hD
    have hNB : NB N5 := by rw [eN5]; exact NB_up hNB 8 ((N 8) + 1) (by show ((N 8) + 1) ≤ 30; omega)
    have hRB : RB L K N5 r := by rw [eN5]; exact RB_N hRB 8 ((N 8) + 1) (fun j hj e9 => by omega)
    have hSM : SM N N5 n n := by rw [eN5]; exact SM_N hSM 8 ((N 8) + 1) (by decide)
    refine lv_iconst (v := 1) hx hb dX4_append_51 (by decide) ?_
    exact W.zret (v := 1) hx hb hr (rfl) (fun t ht hW => ⟨⟨1, (N5, n, a4, r, f), rfl, ⟨⟨hNB, hRB, hHT⟩, hSM, ⟨Or.inr rfl, (by unfold mz_ok; rw [ml_len, if_pos (by omega)]), (by show ml (a4 0) (N5 8) = _; unfold mz_app; rw [ml_len, if_pos (by omega), eN5, va_up_self, ea4, ea3, ea2, va_up_ne _ _ (show 0 ≠ 2 by decide), va_up_ne _ _ (show 0 ≠ 1 by decide), va_up_self]; exact ml_put _ _ _)⟩⟩, by rw [ht]; exact hP, va_K.moved hW.alike hK, hD⟩, hS.F ht⟩) hS.2.2 dX4_append_52
  · skip
    have nb0 : N 0 ≤ 12 := hNB 0 (by decide)
    have nb1 : N 1 ≤ 40 := hNB 1 (by decide)
    have nb2 : N 2 ≤ 20 := hNB 2 (by decide)
    have nb3 : N 3 ≤ 4 := hNB 3 (by decide)
    have nb4 : N 4 ≤ 3 := hNB 4 (by decide)
    have nb5 : N 5 ≤ 20 := hNB 5 (by decide)
    have nb6 : N 6 ≤ 20 := hNB 6 (by decide)
    have nb7 : N 7 ≤ 20 := hNB 7 (by decide)
    have nb8 : N 8 ≤ 30 := hNB 8 (by decide)
    have nb9 : N 9 ≤ 400 := hNB 9 (by decide)
    have dc1 : 30 ≤ (N 8) := Nat.not_lt.mp (fun h9 => c1 ((nI_ltI (a := (N 8)) (b := 30) (by omega) (by omega)).mpr h9))
    refine lv_iconst (v := 0) hx hb dX4_append_9 (by decide) ?_
    exact W.zret (v := 0) hx hb hr (rfl) (fun t ht hW => ⟨⟨0, (N, n, a, r, f), rfl, ⟨⟨hNB, hRB, hHT⟩, hSM, ⟨Or.inl rfl, (by unfold mz_ok; rw [ml_len, if_neg (by omega)]), (by unfold mz_app; rw [ml_len, if_neg (by omega)])⟩⟩, by rw [ht]; exact hP, va_K.moved hW.alike hK, hD⟩, hS.F ht⟩) hS.2.2 dX4_append_10

theorem iX5_append_5 : ∀ w ∈ wsX50, w ∈ wsX5_append := fun _ h => List.mem_cons_of_mem _ (List.mem_append_right _ h)
set_option maxHeartbeats 4000000 in
set_option maxRecDepth 100000 in
theorem zX5_append (l : Launch) (D : va_G) (x : Nat → Nat) (cy : Nat → ClassId) (g : Nat → Nat → Option Nat) (L : List Nat) (K : Nat → Nat) (hG : GO L K g) (N : Nat → Nat) (n : Nat → Int32) (a : Nat → Nat → Int32) (r : Nat → Nat → Option Nat) (f : Nat → va_E) (hC : CI L K cy N r f) (sz : Nat) (pp : Nat) (k1 b1 a1 u1 : Int32) (mpp : pp ∈ L ∧ K pp = 5) : Met l yX5_append wsX5_append ({ frames := 0, cells := 0, slots := 0, locals := 0 }) (PW D (TYS cy) (XW x cy g N n a r ++ va_pl L f) sz [.ref pp, .int k1, .int b1, .int a1, .int u1]) (va_Qi (fun (res : Int32) (u : ST) => CI L K cy u.1 u.2.2.2.1 u.2.2.2.2 ∧ SM N u.1 n u.2.1 ∧ MM N u.1 a u.2.2.1 ∧ b01 res) (BU D (TYS cy) (XW x cy g N n a r ++ va_pl L f) (WC x cy g L) sz) (va_A (XW x cy g N n a r ++ va_pl L f) sz)) 0 0 (va_A (XW x cy g N n a r ++ va_pl L f) sz) := by
  refine Met.ofW (cc := cX5_append) (maxL := 5) (ret := (some .boolean)) (by decide) rfl ?_
  intro p e s m args below meth c s₁ B hml hv
  obtain ⟨rfl, hsz, hP, hK, hD0⟩ := hv
  have hx := B.exec
  have hb := B.bytes
  have hr := B.returns
  have hts := atoms_spec (ws := wsX5_append) B.pre
  have hown : s.vm.findClass RX5 = some m.cls := findClass_of_methodNamed B.named
  have hlocks := B.notSynchronized
  subst hsz
  obtain ⟨hNB, hRB, hHT⟩ := hC
  have hSM : SM N N n n := SM_rf
  have hMM : MM N N a a := MM_rf
  have hD := hD0.self (sz := s.heap.size)
  have hA : ∀ q9 : Nat, s.heap.size ≤ q9 → va_A (XW x cy g N n a r ++ va_pl L f) s.heap.size q9 := fun q9 h => Or.inr h
  have hS : va_S (va_A (XW x cy g N n a r ++ va_pl L f) s.heap.size) s.heap s.heap [] := va_S.rf
  have hl := lv_entry ([.ref pp, .int k1, .int b1, .int a1, .int u1]) (n := 5) (Nat.le_of_ble_eq_true rfl)
  rw [lg_entry_eq]
  generalize (lg_sl ([.ref pp, .int k1, .int b1, .int a1, .int u1]) ++ List.replicate (5 - (lg_sl ([.ref pp, .int k1, .int b1, .int a1, .int u1])).length) Slot.unset).toArray = ls at hl ⊢
  have hl : lv_has ls 5 [(0, .ref pp), (1, .int k1), (2, .int b1), (3, .int a1), (4, .int u1)] := hl
  refine lv_aload_n hx hb dX5_append_0 rfl (lv_at hl 0 rfl) ?_
  obtain ⟨k1_o1, k2_o1, k3_o1, k4_o1, k5_o1, sz_o1, bg_o1, rf_o1, hf_o1, sk1_o1, sk2_o1, sk3_o1, sk4_o1, sk5_o1, ssz_o1, sbg_o1, srf_o1⟩ : TE L K cy 5 (f pp) := by rw [← mpp.2]; exact hHT pp mpp.1
  refine pg_get (D := D) (ci := 5) (v := .int (nI sz_o1)) (C := RX5) (T := TX5) (N := 8) hx hb hts iX5_append_5 hown hK hP mpp.1 hf_o1 rfl 5 (by decide) (hts (.fieldLink RX5 28 "FondsRoom$Plan" "size" "I") (by decide +kernel)) (fun _ h9 => h9) rfl dX5_append_1 ?_
  refine lv_bipush (v := 16) hx hb dX5_append_4 (by decide) ?_
  refine lv_icmp_lt (tgt := 11) hx hb dX5_append_6 (by decide) (fun c2 => ?_) (fun c2 => ?_)
  · skip
    have nb0 : N 0 ≤ 12 := hNB 0 (by decide)
    have nb1 : N 1 ≤ 40 := hNB 1 (by decide)
    have nb2 : N 2 ≤ 20 := hNB 2 (by decide)
    have nb3 : N 3 ≤ 4 := hNB 3 (by decide)
    have nb4 : N 4 ≤ 3 := hNB 4 (by decide)
    have nb5 : N 5 ≤ 20 := hNB 5 (by decide)
    have nb6 : N 6 ≤ 20 := hNB 6 (by decide)
    have nb7 : N 7 ≤ 20 := hNB 7 (by decide)
    have nb8 : N 8 ≤ 30 := hNB 8 (by decide)
    have nb9 : N 9 ≤ 400 := hNB 9 (by decide)
    have dc2 : sz_o1 < 16 := (nI_ltI (a := sz_o1) (b := 16) (by omega) (by omega)).mp c2
    refine lv_aload_n hx hb dX5_append_11 rfl (lv_at hl 0 rfl) ?_
    refine pg_get (D := D) (ci := 5) (v := .ref k1_o1) (C := RX5) (T := TX5) (N := 8) hx hb hts iX5_append_5 hown hK hP mpp.1 hf_o1 rfl 0 (by decide) (hts (.fieldLink RX5 9 "FondsRoom$Plan" "kinds" "[I") (by decide +kernel)) (fun _ h9 => h9) rfl dX5_append_12 ?_
    refine lv_aload_n hx hb dX5_append_15 rfl (lv_at hl 0 rfl) ?_
    refine pg_get (D := D) (ci := 5) (v := .int (nI sz_o1)) (C := RX5) (T := TX5) (N := 8) hx hb hts iX5_append_5 hown hK hP mpp.1 hf_o1 rfl 5 (by decide) (hts (.fieldLink RX5 28 "FondsRoom$Plan" "size" "I") (by decide +kernel)) (fun _ h9 => h9) rfl dX5_append_16 ?_
    refine lv_iload_n hx hb dX5_append_19 rfl (lv_at hl 1 rfl) ?_
    obtain ⟨w3, ew3⟩ : TE L K cy 12 (f k1_o1) := by rw [← sk1_o1.2]; exact hHT k1_o1 sk1_o1.1
    refine pg_iast hx hb hK hP hD hS sk1_o1.1 0 ew3 rfl (vp_in_nI (by omega) (by omega)) dX5_append_20 (fun H locs hP hD hS => ?_)
    obtain ⟨f4, ef4⟩ : ∃ z, z = va_up f k1_o1 (.inl (cy 0, 16, .inl (upd w3 ((nI sz_o1) : Int32).toNatClampNeg k1))) := ⟨_, rfl⟩
    have hP : va_P D vwCl (XW x cy g N n a r ++ va_pl L f4) H := by rw [ef4]; exact hP
    have hD : va_D (va_A (XW x cy g N n a r ++ va_pl L f) s.heap.size) (XW x cy g N n a r ++ va_pl L f4) := by rw [ef4]; exact hD
    have hHT : HT L K cy f4 := by rw [ef4]; exact HT_up hHT 12 sk1_o1.2 ⟨_, rfl⟩
    have hf5 : f4 pp = .inr (5, [.ref k1_o1, .ref k2_o1, .ref k3_o1, .ref k4_o1, .ref k5_o1, .int (nI sz_o1), .int (nI bg_o1), .int (nI rf_o1)]) := by rw [ef4]; exact (va_up_ne _ _ (fun h9 => absurd (mpp.2.symm.trans ((congrArg K h9).trans sk1_o1.2)) (by decide))).trans hf_o1
    refine lv_aload_n hx hb dX5_append_21 rfl (lv_at hl 0 rfl) ?_
    refine pg_get (D := D) (ci := 5) (v := .ref k2_o1) (C := RX5) (T := TX5) (N := 8) hx hb hts iX5_append_5 hown hK hP mpp.1 hf5 rfl 1 (by decide) (hts (.fieldLink RX5 15 "FondsRoom$Plan" "boxes" "[I") (by decide +kernel)) (fun _ h9 => h9) rfl dX5_append_22 ?_
    refine lv_aload_n hx hb dX5_append_25 rfl (lv_at hl 0 rfl) ?_
    refine pg_get (D := D) (ci := 5) (v := .int (nI sz_o1)) (C := RX5) (T := TX5) (N := 8) hx hb hts iX5_append_5 hown hK hP mpp.1 hf5 rfl 5 (by decide) (hts (.fieldLink RX5 28 "FondsRoom$Plan" "size" "I") (by decide +kernel)) (fun _ h9 => h9) rfl dX5_append_26 ?_
    refine lv_iload_n hx hb dX5_append_29 rfl (lv_at hl 2 rfl) ?_
    obtain ⟨w6, ew6⟩ : TE L K cy 12 (f4 k2_o1) := by rw [← sk2_o1.2]; exact hHT k2_o1 sk2_o1.1
    refine pg_iast hx hb hK hP hD hS sk2_o1.1 0 ew6 rfl (vp_in_nI (by omega) (by omega)) dX5_append_30 (fun H locs hP hD hS => ?_)
    obtain ⟨f7, ef7⟩ : ∃ z, z = va_up f4 k2_o1 (.inl (cy 0, 16, .inl (upd w6 ((nI sz_o1) : Int32).toNatClampNeg b1))) := ⟨_, rfl⟩
    have hP : va_P D vwCl (XW x cy g N n a r ++ va_pl L f7) H := by rw [ef7]; exact hP
    have hD : va_D (va_A (XW x cy g N n a r ++ va_pl L f) s.heap.size) (XW x cy g N n a r ++ va_pl L f7) := by rw [ef7]; exact hD
    have hHT : HT L K cy f7 := by rw [ef7]; exact HT_up hHT 12 sk2_o1.2 ⟨_, rfl⟩
    have hf8 : f7 pp = .inr (5, [.ref k1_o1, .ref k2_o1, .ref k3_o1, .ref k4_o1, .ref k5_o1, .int (nI sz_o1), .int (nI bg_o1), .int (nI rf_o1)]) := by rw [ef7]; exact (va_up_ne _ _ (fun h9 => absurd (mpp.2.symm.trans ((congrArg K h9).trans sk2_o1.2)) (by decide))).trans hf5
    refine lv_aload_n hx hb dX5_append_31 rfl (lv_at hl 0 rfl) ?_
    refine pg_get (D := D) (ci := 5) (v := .ref k3_o1) (C := RX5) (T := TX5) (N := 8) hx hb hts iX5_append_5 hown hK hP mpp.1 hf8 rfl 2 (by decide) (hts (.fieldLink RX5 18 "FondsRoom$Plan" "amounts" "[I") (by decide +kernel)) (fun _ h9 => h9) rfl dX5_append_32 ?_
    refine lv_aload_n hx hb dX5_append_35 rfl (lv_at hl 0 rfl) ?_
    refine pg_get (D := D) (ci := 5) (v := .int (nI sz_o1)) (C := RX5) (T := TX5) (N := 8) hx hb hts iX5_append_5 hown hK hP mpp.1 hf8 rfl 5 (by decide) (hts (.fieldLink RX5 28 "FondsRoom$Plan" "size" "I") (by decide +kernel)) (fun _ h9 => h9) rfl dX5_append_36 ?_
    refine lv_iload_n hx hb dX5_append_39 rfl (lv_at hl 3 rfl) ?_
    obtain ⟨w9, ew9⟩ : TE L K cy 12 (f7 k3_o1) := by rw [← sk3_o1.2]; exact hHT k3_o1 sk3_o1.1
    refine pg_iast hx hb hK hP hD hS sk3_o1.1 0 ew9 rfl (vp_in_nI (by omega) (by omega)) dX5_append_40 (fun H locs hP hD hS => ?_)
    obtain ⟨f10, ef10⟩ : ∃ z, z = va_up f7 k3_o1 (.inl (cy 0, 16, .inl (upd w9 ((nI sz_o1) : Int32).toNatClampNeg a1))) := ⟨_, rfl⟩
    have hP : va_P D vwCl (XW x cy g N n a r ++ va_pl L f10) H := by rw [ef10]; exact hP
    have hD : va_D (va_A (XW x cy g N n a r ++ va_pl L f) s.heap.size) (XW x cy g N n a r ++ va_pl L f10) := by rw [ef10]; exact hD
    have hHT : HT L K cy f10 := by rw [ef10]; exact HT_up hHT 12 sk3_o1.2 ⟨_, rfl⟩
    have hf11 : f10 pp = .inr (5, [.ref k1_o1, .ref k2_o1, .ref k3_o1, .ref k4_o1, .ref k5_o1, .int (nI sz_o1), .int (nI bg_o1), .int (nI rf_o1)]) := by rw [ef10]; exact (va_up_ne _ _ (fun h9 => absurd (mpp.2.symm.trans ((congrArg K h9).trans sk3_o1.2)) (by decide))).trans hf8
    refine lv_aload_n hx hb dX5_append_41 rfl (lv_at hl 0 rfl) ?_
    refine pg_get (D := D) (ci := 5) (v := .ref k4_o1) (C := RX5) (T := TX5) (N := 8) hx hb hts iX5_append_5 hown hK hP mpp.1 hf11 rfl 3 (by decide) (hts (.fieldLink RX5 21 "FondsRoom$Plan" "urgents" "[Z") (by decide +kernel)) (fun _ h9 => h9) rfl dX5_append_42 ?_
    refine lv_aload_n hx hb dX5_append_45 rfl (lv_at hl 0 rfl) ?_
    refine pg_get (D := D) (ci := 5) (v := .int (nI sz_o1)) (C := RX5) (T := TX5) (N := 8) hx hb hts iX5_append_5 hown hK hP mpp.1 hf11 rfl 5 (by decide) (hts (.fieldLink RX5 28 "FondsRoom$Plan" "size" "I") (by decide +kernel)) (fun _ h9 => h9) rfl dX5_append_46 ?_
    refine lv_iload hx hb dX5_append_49 (lv_at hl 4 rfl) ?_
    obtain ⟨w12, ew12, zw12⟩ : TE L K cy 13 (f10 k4_o1) := by rw [← sk4_o1.2]; exact hHT k4_o1 sk4_o1.1
    refine pg_zast hx hb hK hP hD hS sk4_o1.1 1 ew12 rfl (vp_in_nI (by omega) (by omega)) dX5_append_51 (fun H locs hP hD hS => ?_)
    obtain ⟨f13, ef13⟩ : ∃ z, z = va_up f10 k4_o1 (.inl (cy 1, 16, .inl (upd w12 ((nI sz_o1) : Int32).toNatClampNeg (vp_nar .boolean u1)))) := ⟨_, rfl⟩
    have hP : va_P D vwCl (XW x cy g N n a r ++ va_pl L f13) H := by rw [ef13]; exact hP
    have hD : va_D (va_A (XW x cy g N n a r ++ va_pl L f) s.heap.size) (XW x cy g N n a r ++ va_pl L f13) := by rw [ef13]; exact hD
    have hHT : HT L K cy f13 := by rw [ef13]; exact HT_up hHT 13 sk4_o1.2 ⟨_, rfl, fun i9 => by unfold upd; split; exact vp01 _; exact zw12 i9⟩
    have hf14 : f13 pp = .inr (5, [.ref k1_o1, .ref k2_o1, .ref k3_o1, .ref k4_o1, .ref k5_o1, .int (nI sz_o1), .int (nI bg_o1), .int (nI rf_o1)]) := by rw [ef13]; exact (va_up_ne _ _ (fun h9 => absurd (mpp.2.symm.trans ((congrArg K h9).trans sk4_o1.2)) (by decide))).trans hf11
    refine lv_aload_n hx hb dX5_append_52 rfl (lv_at hl 0 rfl) ?_
    refine lv_dup hx hb dX5_append_53 rfl ?_
    refine pg_get (D := D) (ci := 5) (v := .int (nI sz_o1)) (C := RX5) (T := TX5) (N := 8) hx hb hts iX5_append_5 hown hK hP mpp.1 hf14 rfl 5 (by decide) (hts (.fieldLink RX5 28 "FondsRoom$Plan" "size" "I") (by decide +kernel)) (fun _ h9 => h9) rfl dX5_append_54 ?_
    refine lv_iconst (v := 1) hx hb dX5_append_57 (by decide) ?_
    refine lv_iadd hx hb dX5_append_58 ?_
    refine lv_tov (v' := .int (nI (sz_o1 + 1))) (congrArg Value.int (nI_add sz_o1 1)) ?_
    refine pg_put (D := D) (ci := 5) (v := .int (nI (sz_o1 + 1))) (ty := .int) (C := RX5) (T := TX5) (N := 8) hx hb hts iX5_append_5 tyX5 tyX5_ok nmX5 hown hK hP hD hS mpp.1 hf14 rfl 5 (by decide) (hts (.fieldLink RX5 28 "FondsRoom$Plan" "size" "I") (by decide +kernel)) (fun _ h9 => h9) rfl (by decide +kernel) rfl rfl (Nat.le_of_ble_eq_true rfl) dX5_append_59 (fun H locs hP hD hS => ?_)
    obtain ⟨f15, ef15⟩ : ∃ z, z = va_up f13 pp (.inr (5, [.ref k1_o1, .ref k2_o1, .ref k3_o1, .ref k4_o1, .ref k5_o1, .int (nI (sz_o1 + 1)), .int (nI bg_o1), .int (nI rf_o1)])) := ⟨_, rfl⟩
    have hP : va_P D vwCl (XW x cy g N n a r ++ va_pl L f15) H := by rw [ef15]; exact hP
    have hD : va_D (va_A (XW x cy g N n a r ++ va_pl L f) s.heap.size) (XW x cy g N n a r ++ va_pl L f15) := by rw [ef15]; exact hD
    have hHT : HT L K cy f15 := by rw [ef15]; exact HT_up hHT 5 mpp.2 ⟨k1_o1, k2_o1, k3_o1, k4_o1, k5_o1, (sz_o1 + 1), bg_o1, rf_o1, rfl, ⟨sk1_o1.1, sk1_o1.2⟩, ⟨sk2_o1.1, sk2_o1.2⟩, ⟨sk3_o1.1, sk3_o1.2⟩, ⟨sk4_o1.1, sk4_o1.2⟩, ⟨sk5_o1.1, sk5_o1.2⟩, (by omega), sbg_o1, srf_o1⟩
    have hf16 : f15 pp = .inr (5, [.ref k1_o1, .ref k2_o1, .ref k3_o1, .ref k4_o1, .ref k5_o1, .int (nI (sz_o1 + 1)), .int (nI bg_o1), .int (nI rf_o1)]) := by rw [ef15]; exact va_up_self _ _ _
    refine lv_iconst (v := 1) hx hb dX5_append_62 (by decide) ?_
    exact W.zret (v := 1) hx hb hr (rfl) (fun t ht hW => ⟨⟨1, (N, n, a, r, f15), rfl, ⟨⟨hNB, hRB, hHT⟩, hSM, hMM, Or.inr rfl⟩, by rw [ht]; exact hP, va_K.moved hW.alike hK, hD⟩, hS.F ht⟩) hS.2.2 dX5_append_63
  · skip
    have nb0 : N 0 ≤ 12 := hNB 0 (by decide)
    have nb1 : N 1 ≤ 40 := hNB 1 (by decide)
    have nb2 : N 2 ≤ 20 := hNB 2 (by decide)
    have nb3 : N 3 ≤ 4 := hNB 3 (by decide)
    have nb4 : N 4 ≤ 3 := hNB 4 (by decide)
    have nb5 : N 5 ≤ 20 := hNB 5 (by decide)
    have nb6 : N 6 ≤ 20 := hNB 6 (by decide)
    have nb7 : N 7 ≤ 20 := hNB 7 (by decide)
    have nb8 : N 8 ≤ 30 := hNB 8 (by decide)
    have nb9 : N 9 ≤ 400 := hNB 9 (by decide)
    have dc2 : 16 ≤ sz_o1 := Nat.not_lt.mp (fun h9 => c2 ((nI_ltI (a := sz_o1) (b := 16) (by omega) (by omega)).mpr h9))
    refine lv_iconst (v := 0) hx hb dX5_append_9 (by decide) ?_
    exact W.zret (v := 0) hx hb hr (rfl) (fun t ht hW => ⟨⟨0, (N, n, a, r, f), rfl, ⟨⟨hNB, hRB, hHT⟩, hSM, hMM, Or.inl rfl⟩, by rw [ht]; exact hP, va_K.moved hW.alike hK, hD⟩, hS.F ht⟩) hS.2.2 dX5_append_10

theorem iX5_noteRefusal_5 : ∀ w ∈ wsX50, w ∈ wsX5_noteRefusal := fun _ h => List.mem_cons_of_mem _ (List.mem_append_right _ h)
set_option maxHeartbeats 4000000 in
set_option maxRecDepth 100000 in
theorem zX5_noteRefusal (l : Launch) (D : va_G) (x : Nat → Nat) (cy : Nat → ClassId) (g : Nat → Nat → Option Nat) (L : List Nat) (K : Nat → Nat) (hG : GO L K g) (N : Nat → Nat) (n : Nat → Int32) (a : Nat → Nat → Int32) (r : Nat → Nat → Option Nat) (f : Nat → va_E) (hC : CI L K cy N r f) (sz : Nat) (pp : Nat) (k1 : Int32) (mpp : pp ∈ L ∧ K pp = 5) : Met l yX5_noteRefusal wsX5_noteRefusal ({ frames := 0, cells := 0, slots := 0, locals := 0 }) (PW D (TYS cy) (XW x cy g N n a r ++ va_pl L f) sz [.ref pp, .int k1]) (va_Qv (fun (u : ST) => CI L K cy u.1 u.2.2.2.1 u.2.2.2.2 ∧ SM N u.1 n u.2.1 ∧ MM N u.1 a u.2.2.1 ∧ True) (BU D (TYS cy) (XW x cy g N n a r ++ va_pl L f) (WC x cy g L) sz) (va_A (XW x cy g N n a r ++ va_pl L f) sz)) 0 0 (va_A (XW x cy g N n a r ++ va_pl L f) sz) := by
  refine Met.ofW (cc := cX5_noteRefusal) (maxL := 2) (ret := none) (by decide) rfl ?_
  intro p e s m args below meth c s₁ B hml hv
  obtain ⟨rfl, hsz, hP, hK, hD0⟩ := hv
  have hx := B.exec
  have hb := B.bytes
  have hr := B.returns
  have hts := atoms_spec (ws := wsX5_noteRefusal) B.pre
  have hown : s.vm.findClass RX5 = some m.cls := findClass_of_methodNamed B.named
  have hlocks := B.notSynchronized
  subst hsz
  obtain ⟨hNB, hRB, hHT⟩ := hC
  have hSM : SM N N n n := SM_rf
  have hMM : MM N N a a := MM_rf
  have hD := hD0.self (sz := s.heap.size)
  have hA : ∀ q9 : Nat, s.heap.size ≤ q9 → va_A (XW x cy g N n a r ++ va_pl L f) s.heap.size q9 := fun q9 h => Or.inr h
  have hS : va_S (va_A (XW x cy g N n a r ++ va_pl L f) s.heap.size) s.heap s.heap [] := va_S.rf
  have hl := lv_entry ([.ref pp, .int k1]) (n := 2) (Nat.le_of_ble_eq_true rfl)
  rw [lg_entry_eq]
  generalize (lg_sl ([.ref pp, .int k1]) ++ List.replicate (2 - (lg_sl ([.ref pp, .int k1])).length) Slot.unset).toArray = ls at hl ⊢
  have hl : lv_has ls 2 [(0, .ref pp), (1, .int k1)] := hl
  refine lv_aload_n hx hb dX5_noteRefusal_0 rfl (lv_at hl 0 rfl) ?_
  obtain ⟨k1_o1, k2_o1, k3_o1, k4_o1, k5_o1, sz_o1, bg_o1, rf_o1, hf_o1, sk1_o1, sk2_o1, sk3_o1, sk4_o1, sk5_o1, ssz_o1, sbg_o1, srf_o1⟩ : TE L K cy 5 (f pp) := by rw [← mpp.2]; exact hHT pp mpp.1
  refine pg_get (D := D) (ci := 5) (v := .int (nI rf_o1)) (C := RX5) (T := TX5) (N := 8) hx hb hts iX5_noteRefusal_5 hown hK hP mpp.1 hf_o1 rfl 7 (by decide) (hts (.fieldLink RX5 32 "FondsRoom$Plan" "refusals" "I") (by decide +kernel)) (fun _ h9 => h9) rfl dX5_noteRefusal_1 ?_
  refine lv_bipush (v := 16) hx hb dX5_noteRefusal_4 (by decide) ?_
  refine lv_icmp_ge (tgt := 29) hx hb dX5_noteRefusal_6 (by decide) (fun c2 => ?_) (fun c2 => ?_)
  · skip
    have nb0 : N 0 ≤ 12 := hNB 0 (by decide)
    have nb1 : N 1 ≤ 40 := hNB 1 (by decide)
    have nb2 : N 2 ≤ 20 := hNB 2 (by decide)
    have nb3 : N 3 ≤ 4 := hNB 3 (by decide)
    have nb4 : N 4 ≤ 3 := hNB 4 (by decide)
    have nb5 : N 5 ≤ 20 := hNB 5 (by decide)
    have nb6 : N 6 ≤ 20 := hNB 6 (by decide)
    have nb7 : N 7 ≤ 20 := hNB 7 (by decide)
    have nb8 : N 8 ≤ 30 := hNB 8 (by decide)
    have nb9 : N 9 ≤ 400 := hNB 9 (by decide)
    have dc2 : 16 ≤ rf_o1 := (nI_leI (a := 16) (b := rf_o1) (by omega) (by omega)).mp c2
    exact W.vret hx hb hr (fun t ht hW => ⟨⟨(N, n, a, r, f), rfl, ⟨⟨hNB, hRB, hHT⟩, hSM, hMM, trivial⟩, by rw [ht]; exact hP, va_K.moved hW.alike hK, hD⟩, hS.F ht⟩) hS.2.2 dX5_noteRefusal_29
  · skip
    have nb0 : N 0 ≤ 12 := hNB 0 (by decide)
    have nb1 : N 1 ≤ 40 := hNB 1 (by decide)
    have nb2 : N 2 ≤ 20 := hNB 2 (by decide)
    have nb3 : N 3 ≤ 4 := hNB 3 (by decide)
    have nb4 : N 4 ≤ 3 := hNB 4 (by decide)
    have nb5 : N 5 ≤ 20 := hNB 5 (by decide)
    have nb6 : N 6 ≤ 20 := hNB 6 (by decide)
    have nb7 : N 7 ≤ 20 := hNB 7 (by decide)
    have nb8 : N 8 ≤ 30 := hNB 8 (by decide)
    have nb9 : N 9 ≤ 400 := hNB 9 (by decide)
    have dc2 : rf_o1 < 16 := Nat.not_le.mp (fun h9 => c2 ((nI_leI (a := 16) (b := rf_o1) (by omega) (by omega)).mpr h9))
    refine lv_aload_n hx hb dX5_noteRefusal_9 rfl (lv_at hl 0 rfl) ?_
    refine pg_get (D := D) (ci := 5) (v := .ref k5_o1) (C := RX5) (T := TX5) (N := 8) hx hb hts iX5_noteRefusal_5 hown hK hP mpp.1 hf_o1 rfl 4 (by decide) (hts (.fieldLink RX5 25 "FondsRoom$Plan" "rules" "[I") (by decide +kernel)) (fun _ h9 => h9) rfl dX5_noteRefusal_10 ?_
    refine lv_aload_n hx hb dX5_noteRefusal_13 rfl (lv_at hl 0 rfl) ?_
    refine pg_get (D := D) (ci := 5) (v := .int (nI rf_o1)) (C := RX5) (T := TX5) (N := 8) hx hb hts iX5_noteRefusal_5 hown hK hP mpp.1 hf_o1 rfl 7 (by decide) (hts (.fieldLink RX5 32 "FondsRoom$Plan" "refusals" "I") (by decide +kernel)) (fun _ h9 => h9) rfl dX5_noteRefusal_14 ?_
    refine lv_iload_n hx hb dX5_noteRefusal_17 rfl (lv_at hl 1 rfl) ?_
    obtain ⟨w3, ew3⟩ : TE L K cy 12 (f k5_o1) := by rw [← sk5_o1.2]; exact hHT k5_o1 sk5_o1.1
    refine pg_iast hx hb hK hP hD hS sk5_o1.1 0 ew3 rfl (vp_in_nI (by omega) (by omega)) dX5_noteRefusal_18 (fun H locs hP hD hS => ?_)
    obtain ⟨f4, ef4⟩ : ∃ z, z = va_up f k5_o1 (.inl (cy 0, 16, .inl (upd w3 ((nI rf_o1) : Int32).toNatClampNeg k1))) := ⟨_, rfl⟩
    have hP : va_P D vwCl (XW x cy g N n a r ++ va_pl L f4) H := by rw [ef4]; exact hP
    have hD : va_D (va_A (XW x cy g N n a r ++ va_pl L f) s.heap.size) (XW x cy g N n a r ++ va_pl L f4) := by rw [ef4]; exact hD
    have hHT : HT L K cy f4 := by rw [ef4]; exact HT_up hHT 12 sk5_o1.2 ⟨_, rfl⟩
    have hf5 : f4 pp = .inr (5, [.ref k1_o1, .ref k2_o1, .ref k3_o1, .ref k4_o1, .ref k5_o1, .int (nI sz_o1), .int (nI bg_o1), .int (nI rf_o1)]) := by rw [ef4]; exact (va_up_ne _ _ (fun h9 => absurd (mpp.2.symm.trans ((congrArg K h9).trans sk5_o1.2)) (by decide))).trans hf_o1
    refine lv_aload_n hx hb dX5_noteRefusal_19 rfl (lv_at hl 0 rfl) ?_
    refine lv_dup hx hb dX5_noteRefusal_20 rfl ?_
    refine pg_get (D := D) (ci := 5) (v := .int (nI rf_o1)) (C := RX5) (T := TX5) (N := 8) hx hb hts iX5_noteRefusal_5 hown hK hP mpp.1 hf5 rfl 7 (by decide) (hts (.fieldLink RX5 32 "FondsRoom$Plan" "refusals" "I") (by decide +kernel)) (fun _ h9 => h9) rfl dX5_noteRefusal_21 ?_
    refine lv_iconst (v := 1) hx hb dX5_noteRefusal_24 (by decide) ?_
    refine lv_iadd hx hb dX5_noteRefusal_25 ?_
    refine lv_tov (v' := .int (nI (rf_o1 + 1))) (congrArg Value.int (nI_add rf_o1 1)) ?_
    refine pg_put (D := D) (ci := 5) (v := .int (nI (rf_o1 + 1))) (ty := .int) (C := RX5) (T := TX5) (N := 8) hx hb hts iX5_noteRefusal_5 tyX5 tyX5_ok nmX5 hown hK hP hD hS mpp.1 hf5 rfl 7 (by decide) (hts (.fieldLink RX5 32 "FondsRoom$Plan" "refusals" "I") (by decide +kernel)) (fun _ h9 => h9) rfl (by decide +kernel) rfl rfl (Nat.le_of_ble_eq_true rfl) dX5_noteRefusal_26 (fun H locs hP hD hS => ?_)
    obtain ⟨f6, ef6⟩ : ∃ z, z = va_up f4 pp (.inr (5, [.ref k1_o1, .ref k2_o1, .ref k3_o1, .ref k4_o1, .ref k5_o1, .int (nI sz_o1), .int (nI bg_o1), .int (nI (rf_o1 + 1))])) := ⟨_, rfl⟩
    have hP : va_P D vwCl (XW x cy g N n a r ++ va_pl L f6) H := by rw [ef6]; exact hP
    have hD : va_D (va_A (XW x cy g N n a r ++ va_pl L f) s.heap.size) (XW x cy g N n a r ++ va_pl L f6) := by rw [ef6]; exact hD
    have hHT : HT L K cy f6 := by rw [ef6]; exact HT_up hHT 5 mpp.2 ⟨k1_o1, k2_o1, k3_o1, k4_o1, k5_o1, sz_o1, bg_o1, (rf_o1 + 1), rfl, ⟨sk1_o1.1, sk1_o1.2⟩, ⟨sk2_o1.1, sk2_o1.2⟩, ⟨sk3_o1.1, sk3_o1.2⟩, ⟨sk4_o1.1, sk4_o1.2⟩, ⟨sk5_o1.1, sk5_o1.2⟩, ssz_o1, sbg_o1, (by omega)⟩
    have hf7 : f6 pp = .inr (5, [.ref k1_o1, .ref k2_o1, .ref k3_o1, .ref k4_o1, .ref k5_o1, .int (nI sz_o1), .int (nI bg_o1), .int (nI (rf_o1 + 1))]) := by rw [ef6]; exact va_up_self _ _ _
    exact W.vret hx hb hr (fun t ht hW => ⟨⟨(N, n, a, r, f6), rfl, ⟨⟨hNB, hRB, hHT⟩, hSM, hMM, trivial⟩, by rw [ht]; exact hP, va_K.moved hW.alike hK, hD⟩, hS.F ht⟩) hS.2.2 dX5_noteRefusal_29

theorem iX8_release_8 : ∀ w ∈ wsX80, w ∈ wsX8_release := fun _ h => List.mem_cons_of_mem _ (List.mem_append_right _ h)
set_option maxHeartbeats 4000000 in
set_option maxRecDepth 100000 in
theorem zX8_release (l : Launch) (D : va_G) (x : Nat → Nat) (cy : Nat → ClassId) (g : Nat → Nat → Option Nat) (L : List Nat) (K : Nat → Nat) (hG : GO L K g) (N : Nat → Nat) (n : Nat → Int32) (a : Nat → Nat → Int32) (r : Nat → Nat → Option Nat) (f : Nat → va_E) (hC : CI L K cy N r f) (sz : Nat) (wk : Nat) (mwk : wk ∈ L ∧ K wk = 8) : Met l yX8_release wsX8_release ({ frames := 0, cells := 0, slots := 0, locals := 0 }) (PW D (TYS cy) (XW x cy g N n a r ++ va_pl L f) sz [.ref wk]) (va_Qv (fun (u : ST) => CI L K cy u.1 u.2.2.2.1 u.2.2.2.2 ∧ SM N u.1 n u.2.1 ∧ MM N u.1 a u.2.2.1 ∧ True) (BU D (TYS cy) (XW x cy g N n a r ++ va_pl L f) (WC x cy g L) sz) (va_A (XW x cy g N n a r ++ va_pl L f) sz)) 0 0 (va_A (XW x cy g N n a r ++ va_pl L f) sz) := by
  refine Met.ofW (cc := cX8_release) (maxL := 1) (ret := none) (by decide) rfl ?_
  intro p e s m args below meth c s₁ B hml hv
  obtain ⟨rfl, hsz, hP, hK, hD0⟩ := hv
  have hx := B.exec
  have hb := B.bytes
  have hr := B.returns
  have hts := atoms_spec (ws := wsX8_release) B.pre
  have hown : s.vm.findClass RX8 = some m.cls := findClass_of_methodNamed B.named
  have hlocks := B.notSynchronized
  subst hsz
  obtain ⟨hNB, hRB, hHT⟩ := hC
  have hSM : SM N N n n := SM_rf
  have hMM : MM N N a a := MM_rf
  have hD := hD0.self (sz := s.heap.size)
  have hA : ∀ q9 : Nat, s.heap.size ≤ q9 → va_A (XW x cy g N n a r ++ va_pl L f) s.heap.size q9 := fun q9 h => Or.inr h
  have hS : va_S (va_A (XW x cy g N n a r ++ va_pl L f) s.heap.size) s.heap s.heap [] := va_S.rf
  have hl := lv_entry ([.ref wk]) (n := 1) (Nat.le_of_ble_eq_true rfl)
  rw [lg_entry_eq]
  generalize (lg_sl ([.ref wk]) ++ List.replicate (1 - (lg_sl ([.ref wk])).length) Slot.unset).toArray = ls at hl ⊢
  have hl : lv_has ls 1 [(0, .ref wk)] := hl
  refine lv_aload_n hx hb dX8_release_0 rfl (lv_at hl 0 rfl) ?_
  refine lv_null hx hb dX8_release_1 ?_
  obtain ⟨b_o1, g_o1, l_o1, hf_o1, sb_o1, sg_o1⟩ : TE L K cy 8 (f wk) := by rw [← mwk.2]; exact hHT wk mwk.1
  refine pg_put (D := D) (ci := 8) (v := .null) (ty := (.object "FondsRoom$Box")) (C := RX8) (T := TX8) (N := 3) hx hb hts iX8_release_8 tyX8 tyX8_ok nmX8 hown hK hP hD hS mwk.1 hf_o1 rfl 0 (by decide) (hts (.fieldLink RX8 7 "FondsRoom$Worker" "box" "LFondsRoom$Box;") (by decide +kernel)) (fun _ h9 => h9) rfl (by decide +kernel) rfl rfl (Nat.le_of_ble_eq_true rfl) dX8_release_2 (fun H locs hP hD hS => ?_)
  obtain ⟨f2, ef2⟩ : ∃ z, z = va_up f wk (.inr (8, [.null, va_rf g_o1, .int l_o1])) := ⟨_, rfl⟩
  have hP : va_P D vwCl (XW x cy g N n a r ++ va_pl L f2) H := by rw [ef2]; exact hP
  have hD : va_D (va_A (XW x cy g N n a r ++ va_pl L f) s.heap.size) (XW x cy g N n a r ++ va_pl L f2) := by rw [ef2]; exact hD
  have hHT : HT L K cy f2 := by rw [ef2]; exact HT_up hHT 8 mwk.2 ⟨none, g_o1, l_o1, rfl, rok_none, sg_o1⟩
  have hf3 : f2 wk = .inr (8, [.null, va_rf g_o1, .int l_o1]) := by rw [ef2]; exact va_up_self _ _ _
  refine lv_aload_n hx hb dX8_release_5 rfl (lv_at hl 0 rfl) ?_
  refine lv_null hx hb dX8_release_6 ?_
  refine pg_put (D := D) (ci := 8) (v := .null) (ty := (.object "FondsRoom$Reader")) (C := RX8) (T := TX8) (N := 3) hx hb hts iX8_release_8 tyX8 tyX8_ok nmX8 hown hK hP hD hS mwk.1 hf3 rfl 1 (by decide) (hts (.fieldLink RX8 13 "FondsRoom$Worker" "goal" "LFondsRoom$Reader;") (by decide +kernel)) (fun _ h9 => h9) rfl (by decide +kernel) rfl rfl (Nat.le_of_ble_eq_true rfl) dX8_release_7 (fun H locs hP hD hS => ?_)
  obtain ⟨f4, ef4⟩ : ∃ z, z = va_up f2 wk (.inr (8, [.null, .null, .int l_o1])) := ⟨_, rfl⟩
  have hP : va_P D vwCl (XW x cy g N n a r ++ va_pl L f4) H := by rw [ef4]; exact hP
  have hD : va_D (va_A (XW x cy g N n a r ++ va_pl L f) s.heap.size) (XW x cy g N n a r ++ va_pl L f4) := by rw [ef4]; exact hD
  have hHT : HT L K cy f4 := by rw [ef4]; exact HT_up hHT 8 mwk.2 ⟨none, none, l_o1, rfl, rok_none, rok_none⟩
  have hf5 : f4 wk = .inr (8, [.null, .null, .int l_o1]) := by rw [ef4]; exact va_up_self _ _ _
  refine lv_aload_n hx hb dX8_release_10 rfl (lv_at hl 0 rfl) ?_
  refine lv_iconst (v := 0) hx hb dX8_release_11 (by decide) ?_
  refine pg_put (D := D) (ci := 8) (v := .int 0) (ty := .int) (C := RX8) (T := TX8) (N := 3) hx hb hts iX8_release_8 tyX8 tyX8_ok nmX8 hown hK hP hD hS mwk.1 hf5 rfl 2 (by decide) (hts (.fieldLink RX8 17 "FondsRoom$Worker" "left" "I") (by decide +kernel)) (fun _ h9 => h9) rfl (by decide +kernel) rfl rfl (Nat.le_of_ble_eq_true rfl) dX8_release_12 (fun H locs hP hD hS => ?_)
  obtain ⟨f6, ef6⟩ : ∃ z, z = va_up f4 wk (.inr (8, [.null, .null, .int 0])) := ⟨_, rfl⟩
  have hP : va_P D vwCl (XW x cy g N n a r ++ va_pl L f6) H := by rw [ef6]; exact hP
  have hD : va_D (va_A (XW x cy g N n a r ++ va_pl L f) s.heap.size) (XW x cy g N n a r ++ va_pl L f6) := by rw [ef6]; exact hD
  have hHT : HT L K cy f6 := by rw [ef6]; exact HT_up hHT 8 mwk.2 ⟨none, none, 0, rfl, rok_none, rok_none⟩
  have hf7 : f6 wk = .inr (8, [.null, .null, .int 0]) := by rw [ef6]; exact va_up_self _ _ _
  exact W.vret hx hb hr (fun t ht hW => ⟨⟨(N, n, a, r, f6), rfl, ⟨⟨hNB, hRB, hHT⟩, hSM, hMM, trivial⟩, by rw [ht]; exact hP, va_K.moved hW.alike hK, hD⟩, hS.F ht⟩) hS.2.2 dX8_release_15
