theorem iX9_isAway_6 : ∀ w ∈ wsX60, w ∈ wsX9_isAway := fun _ h => List.mem_cons_of_mem _ (List.mem_append_right _ h)
set_option maxHeartbeats 4000000 in
set_option maxRecDepth 100000 in
theorem zX9_isAway (l : Launch) (D : va_G) (x : Nat → Nat) (cy : Nat → ClassId) (g : Nat → Nat → Option Nat) (L : List Nat) (K : Nat → Nat) (hG : GO L K g) (N : Nat → Nat) (n : Nat → Int32) (a : Nat → Nat → Int32) (r : Nat → Nat → Option Nat) (f : Nat → va_E) (hC : CI L K cy N r f) (sz : Nat) (rd : Nat) (mrd : rd ∈ L ∧ K rd = 6) : Met l yX9_isAway wsX9_isAway ({ frames := 0, cells := 0, slots := 0, locals := 0 }) (PW D (TYS cy) (XW x cy g N n a r ++ va_pl L f) sz [.ref rd]) (va_Qi (fun (res : Int32) (u : Unit) => b01 res) (BU D (TYS cy) (XW x cy g N n a r ++ va_pl L f) (fun _ => XW x cy g N n a r ++ va_pl L f) sz) (va_A (XW x cy g N n a r ++ va_pl L f) sz)) 0 0 (va_A (XW x cy g N n a r ++ va_pl L f) sz) := by
  refine Met.ofW (cc := cX9_isAway) (maxL := 1) (ret := (some .boolean)) (by decide) rfl ?_
  intro p e s m args below meth c s₁ B hml hv
  obtain ⟨rfl, hsz, hP, hK, hD0⟩ := hv
  have hx := B.exec
  have hb := B.bytes
  have hr := B.returns
  have hts := atoms_spec (ws := wsX9_isAway) B.pre
  have hown : s.vm.findClass RX9 = some m.cls := findClass_of_methodNamed B.named
  have hlocks := B.notSynchronized
  subst hsz
  obtain ⟨hNB, hRB, hHT⟩ := hC
  have hSM : SM N N n n := SM_rf
  have hMM : MM N N a a := MM_rf
  have hD := hD0.self (sz := s.heap.size)
  have hA : ∀ q9 : Nat, s.heap.size ≤ q9 → va_A (XW x cy g N n a r ++ va_pl L f) s.heap.size q9 := fun q9 h => Or.inr h
  have hS : va_S (va_A (XW x cy g N n a r ++ va_pl L f) s.heap.size) s.heap s.heap [] := va_S.rf
  have hl := lv_entry ([.ref rd]) (n := 1) (Nat.le_of_ble_eq_true rfl)
  rw [lg_entry_eq]
  generalize (lg_sl ([.ref rd]) ++ List.replicate (1 - (lg_sl ([.ref rd])).length) Slot.unset).toArray = ls at hl ⊢
  have hl : lv_has ls 1 [(0, .ref rd)] := hl
  refine lv_aload_n hx hb dX9_isAway_0 rfl (lv_at hl 0 rfl) ?_
  obtain ⟨n_o1, p_o1, ar_o1, rk_o1, nw_o1, st_o1, ct_o1, d_o1, aw_o1, rl_o1, cp_o1, cu_o1, w1_o1, w2_o1, w3_o1, ov_o1, co_o1, hf_o1, sp_o1, snw_o1, sd_o1, saw_o1, scu_o1⟩ : TE L K cy 6 (f rd) := by rw [← mrd.2]; exact hHT rd mrd.1
  refine pg_get (D := D) (ci := 6) (v := .int st_o1) (C := RX6) (T := TX6) (N := 17) hx hb hts iX9_isAway_6 hown hK hP mrd.1 hf_o1 rfl 5 (by decide) (hts (.fieldLink RX9 270 "FondsRoom$Reader" "state" "I") (by decide +kernel)) (fun _ h9 => h9) rfl dX9_isAway_1 ?_
  refine lv_iconst (v := 5) hx hb dX9_isAway_4 (by decide) ?_
  refine lv_icmp_eq (tgt := 26) hx hb dX9_isAway_5 (by decide) (fun c2 => ?_) (fun c2 => ?_)
  · skip
    refine lv_iconst (v := 1) hx hb dX9_isAway_26 (by decide) ?_
    refine lv_goto (tgt := 31) hx hb dX9_isAway_27 (by decide) ?_
    exact W.zret (v := 1) hx hb hr (rfl) (fun t ht hW => ⟨⟨1, (), rfl, Or.inr rfl, by rw [ht]; exact hP, va_K.moved hW.alike hK, hD⟩, hS.F ht⟩) hS.2.2 dX9_isAway_31
  · skip
    refine lv_aload_n hx hb dX9_isAway_8 rfl (lv_at hl 0 rfl) ?_
    refine pg_get (D := D) (ci := 6) (v := .int st_o1) (C := RX6) (T := TX6) (N := 17) hx hb hts iX9_isAway_6 hown hK hP mrd.1 hf_o1 rfl 5 (by decide) (hts (.fieldLink RX9 270 "FondsRoom$Reader" "state" "I") (by decide +kernel)) (fun _ h9 => h9) rfl dX9_isAway_9 ?_
    refine lv_bipush (v := 6) hx hb dX9_isAway_12 (by decide) ?_
    refine lv_icmp_eq (tgt := 26) hx hb dX9_isAway_14 (by decide) (fun c3 => ?_) (fun c3 => ?_)
    · skip
      refine lv_iconst (v := 1) hx hb dX9_isAway_26 (by decide) ?_
      refine lv_goto (tgt := 31) hx hb dX9_isAway_27 (by decide) ?_
      exact W.zret (v := 1) hx hb hr (rfl) (fun t ht hW => ⟨⟨1, (), rfl, Or.inr rfl, by rw [ht]; exact hP, va_K.moved hW.alike hK, hD⟩, hS.F ht⟩) hS.2.2 dX9_isAway_31
    · skip
      refine lv_aload_n hx hb dX9_isAway_17 rfl (lv_at hl 0 rfl) ?_
      refine pg_get (D := D) (ci := 6) (v := .int st_o1) (C := RX6) (T := TX6) (N := 17) hx hb hts iX9_isAway_6 hown hK hP mrd.1 hf_o1 rfl 5 (by decide) (hts (.fieldLink RX9 270 "FondsRoom$Reader" "state" "I") (by decide +kernel)) (fun _ h9 => h9) rfl dX9_isAway_18 ?_
      refine lv_bipush (v := 7) hx hb dX9_isAway_21 (by decide) ?_
      refine lv_icmp_ne (tgt := 30) hx hb dX9_isAway_23 (by decide) (fun c4 => ?_) (fun c4 => ?_)
      · skip
        refine lv_iconst (v := 0) hx hb dX9_isAway_30 (by decide) ?_
        exact W.zret (v := 0) hx hb hr (rfl) (fun t ht hW => ⟨⟨0, (), rfl, Or.inl rfl, by rw [ht]; exact hP, va_K.moved hW.alike hK, hD⟩, hS.F ht⟩) hS.2.2 dX9_isAway_31
      · skip
        refine lv_iconst (v := 1) hx hb dX9_isAway_26 (by decide) ?_
        refine lv_goto (tgt := 31) hx hb dX9_isAway_27 (by decide) ?_
        exact W.zret (v := 1) hx hb hr (rfl) (fun t ht hW => ⟨⟨1, (), rfl, Or.inr rfl, by rw [ht]; exact hP, va_K.moved hW.alike hK, hD⟩, hS.F ht⟩) hS.2.2 dX9_isAway_31

theorem iX9_isInRoom_6 : ∀ w ∈ wsX60, w ∈ wsX9_isInRoom := fun _ h => List.mem_cons_of_mem _ (List.mem_append_right _ h)
set_option maxHeartbeats 4000000 in
set_option maxRecDepth 100000 in
theorem zX9_isInRoom (l : Launch) (D : va_G) (x : Nat → Nat) (cy : Nat → ClassId) (g : Nat → Nat → Option Nat) (L : List Nat) (K : Nat → Nat) (hG : GO L K g) (N : Nat → Nat) (n : Nat → Int32) (a : Nat → Nat → Int32) (r : Nat → Nat → Option Nat) (f : Nat → va_E) (hC : CI L K cy N r f) (sz : Nat) (rd : Nat) (mrd : rd ∈ L ∧ K rd = 6) : Met l yX9_isInRoom wsX9_isInRoom ({ frames := 1, cells := 0, slots := 0, locals := 20 }) (PW D (TYS cy) (XW x cy g N n a r ++ va_pl L f) sz [.ref rd]) (va_Qi (fun (res : Int32) (u : Unit) => b01 res) (BU D (TYS cy) (XW x cy g N n a r ++ va_pl L f) (fun _ => XW x cy g N n a r ++ va_pl L f) sz) (va_A (XW x cy g N n a r ++ va_pl L f) sz)) 0 0 (va_A (XW x cy g N n a r ++ va_pl L f) sz) := by
  refine Met.ofW (cc := cX9_isInRoom) (maxL := 1) (ret := (some .boolean)) (by decide) rfl ?_
  intro p e s m args below meth c s₁ B hml hv
  obtain ⟨rfl, hsz, hP, hK, hD0⟩ := hv
  have hx := B.exec
  have hb := B.bytes
  have hr := B.returns
  have hts := atoms_spec (ws := wsX9_isInRoom) B.pre
  have hown : s.vm.findClass RX9 = some m.cls := findClass_of_methodNamed B.named
  have hlocks := B.notSynchronized
  subst hsz
  obtain ⟨hNB, hRB, hHT⟩ := hC
  have hSM : SM N N n n := SM_rf
  have hMM : MM N N a a := MM_rf
  have hD := hD0.self (sz := s.heap.size)
  have hA : ∀ q9 : Nat, s.heap.size ≤ q9 → va_A (XW x cy g N n a r ++ va_pl L f) s.heap.size q9 := fun q9 h => Or.inr h
  have hS : va_S (va_A (XW x cy g N n a r ++ va_pl L f) s.heap.size) s.heap s.heap [] := va_S.rf
  have hl := lv_entry ([.ref rd]) (n := 1) (Nat.le_of_ble_eq_true rfl)
  rw [lg_entry_eq]
  generalize (lg_sl ([.ref rd]) ++ List.replicate (1 - (lg_sl ([.ref rd])).length) Slot.unset).toArray = ls at hl ⊢
  have hl : lv_has ls 1 [(0, .ref rd)] := hl
  refine lv_aload_n hx hb dX9_isInRoom_0 rfl (lv_at hl 0 rfl) ?_
  obtain ⟨n_o1, p_o1, ar_o1, rk_o1, nw_o1, st_o1, ct_o1, d_o1, aw_o1, rl_o1, cp_o1, cu_o1, w1_o1, w2_o1, w3_o1, ov_o1, co_o1, hf_o1, sp_o1, snw_o1, sd_o1, saw_o1, scu_o1⟩ : TE L K cy 6 (f rd) := by rw [← mrd.2]; exact hHT rd mrd.1
  refine pg_get (D := D) (ci := 6) (v := .int st_o1) (C := RX6) (T := TX6) (N := 17) hx hb hts iX9_isInRoom_6 hown hK hP mrd.1 hf_o1 rfl 5 (by decide) (hts (.fieldLink RX9 270 "FondsRoom$Reader" "state" "I") (by decide +kernel)) (fun _ h9 => h9) rfl dX9_isInRoom_1 ?_
  refine lv_if_eq (tgt := 18) hx hb dX9_isInRoom_4 (by decide) (fun c2 => ?_) (fun c2 => ?_)
  · skip
    refine lv_iconst (v := 0) hx hb dX9_isInRoom_18 (by decide) ?_
    exact W.zret (v := 0) hx hb hr (rfl) (fun t ht hW => ⟨⟨0, (), rfl, Or.inl rfl, by rw [ht]; exact hP, va_K.moved hW.alike hK, hD⟩, hS.F ht⟩) hS.2.2 dX9_isInRoom_19
  · skip
    refine lv_aload_n hx hb dX9_isInRoom_7 rfl (lv_at hl 0 rfl) ?_
    refine gsI (As := [.ref rd]) (rest := []) ⟨hx, hb, hml, hown, hts⟩ (zX9_isAway l D x cy g L K hG N n a r f ⟨hNB, hRB, hHT⟩ _ rd  ⟨mrd.1, mrd.2⟩) (va_cwS 1 hts gX9_isInRoom_X9_isAway rfl rfl rfl (by decide +kernel) ⟨Nat.le_of_ble_eq_true rfl, Nat.le_of_ble_eq_true rfl⟩) hK hP hD hS hA rfl hl.1 rfl (Nat.le_of_ble_eq_true rfl) dX9_isInRoom_8 ⟨Nat.le_of_ble_eq_true rfl, Nat.le_of_ble_eq_true rfl⟩ (fun q3 u4 H locs hq3 hP hD hS => ?_)
    have hP : va_P D vwCl (XW x cy g N n a r ++ va_pl L f) H := hP
    have hD : va_D _ (XW x cy g N n a r ++ va_pl L f) := hD
    refine lv_if_ne (tgt := 18) hx hb dX9_isInRoom_11 (by decide) (fun c5 => ?_) (fun c5 => ?_)
    · skip
      refine lv_iconst (v := 0) hx hb dX9_isInRoom_18 (by decide) ?_
      exact W.zret (v := 0) hx hb hr (rfl) (fun t ht hW => ⟨⟨0, (), rfl, Or.inl rfl, by rw [ht]; exact hP, va_K.moved hW.alike hK, hD⟩, hS.F ht⟩) hS.2.2 dX9_isInRoom_19
    · skip
      refine lv_iconst (v := 1) hx hb dX9_isInRoom_14 (by decide) ?_
      refine lv_goto (tgt := 19) hx hb dX9_isInRoom_15 (by decide) ?_
      exact W.zret (v := 1) hx hb hr (rfl) (fun t ht hW => ⟨⟨1, (), rfl, Or.inr rfl, by rw [ht]; exact hP, va_K.moved hW.alike hK, hD⟩, hS.F ht⟩) hS.2.2 dX9_isInRoom_19

theorem iX9_numberOf_6 : ∀ w ∈ wsX60, w ∈ wsX9_numberOf := fun _ h => List.mem_cons_of_mem _ (List.mem_append_right _ h)
set_option maxHeartbeats 4000000 in
set_option maxRecDepth 100000 in
theorem zX9_numberOf_r (l : Launch) (D : va_G) (x : Nat → Nat) (cy : Nat → ClassId) (g : Nat → Nat → Option Nat) (L : List Nat) (K : Nat → Nat) (hG : GO L K g) (N : Nat → Nat) (n : Nat → Int32) (a : Nat → Nat → Int32) (r : Nat → Nat → Option Nat) (f : Nat → va_E) (hC : CI L K cy N r f) (sz : Nat) (rd : Nat) (mrd : rd ∈ L ∧ K rd = 6) : Met l yX9_numberOf wsX9_numberOf ({ frames := 0, cells := 0, slots := 0, locals := 0 }) (PW D (TYS cy) (XW x cy g N n a r ++ va_pl L f) sz [.ref rd]) (va_Qi (fun (res : Int32) (u : Unit) => True) (BU D (TYS cy) (XW x cy g N n a r ++ va_pl L f) (fun _ => XW x cy g N n a r ++ va_pl L f) sz) (va_A (XW x cy g N n a r ++ va_pl L f) sz)) 0 0 (va_A (XW x cy g N n a r ++ va_pl L f) sz) := by
  refine Met.ofW (cc := cX9_numberOf) (maxL := 1) (ret := (some .int)) (by decide) rfl ?_
  intro p e s m args below meth c s₁ B hml hv
  obtain ⟨rfl, hsz, hP, hK, hD0⟩ := hv
  have hx := B.exec
  have hb := B.bytes
  have hr := B.returns
  have hts := atoms_spec (ws := wsX9_numberOf) B.pre
  have hown : s.vm.findClass RX9 = some m.cls := findClass_of_methodNamed B.named
  have hlocks := B.notSynchronized
  subst hsz
  obtain ⟨hNB, hRB, hHT⟩ := hC
  have hSM : SM N N n n := SM_rf
  have hMM : MM N N a a := MM_rf
  have hD := hD0.self (sz := s.heap.size)
  have hA : ∀ q9 : Nat, s.heap.size ≤ q9 → va_A (XW x cy g N n a r ++ va_pl L f) s.heap.size q9 := fun q9 h => Or.inr h
  have hS : va_S (va_A (XW x cy g N n a r ++ va_pl L f) s.heap.size) s.heap s.heap [] := va_S.rf
  have hl := lv_entry ([.ref rd]) (n := 1) (Nat.le_of_ble_eq_true rfl)
  rw [lg_entry_eq]
  generalize (lg_sl ([.ref rd]) ++ List.replicate (1 - (lg_sl ([.ref rd])).length) Slot.unset).toArray = ls at hl ⊢
  have hl : lv_has ls 1 [(0, .ref rd)] := hl
  refine lv_aload_n hx hb dX9_numberOf_0 rfl (lv_at hl 0 rfl) ?_
  refine lv_ifnonnull (tgt := 8) hx hb dX9_numberOf_1 (by decide) ?_
  refine lv_aload_n hx hb dX9_numberOf_8 rfl (lv_at hl 0 rfl) ?_
  obtain ⟨n_o1, p_o1, ar_o1, rk_o1, nw_o1, st_o1, ct_o1, d_o1, aw_o1, rl_o1, cp_o1, cu_o1, w1_o1, w2_o1, w3_o1, ov_o1, co_o1, hf_o1, sp_o1, snw_o1, sd_o1, saw_o1, scu_o1⟩ : TE L K cy 6 (f rd) := by rw [← mrd.2]; exact hHT rd mrd.1
  refine pg_get (D := D) (ci := 6) (v := .int n_o1) (C := RX6) (T := TX6) (N := 17) hx hb hts iX9_numberOf_6 hown hK hP mrd.1 hf_o1 rfl 0 (by decide) (hts (.fieldLink RX9 273 "FondsRoom$Reader" "number" "I") (by decide +kernel)) (fun _ h9 => h9) rfl dX9_numberOf_9 ?_
  exact W.iret (v := n_o1) hx hb hr (fun t ht hW => ⟨⟨n_o1, (), rfl, trivial, by rw [ht]; exact hP, va_K.moved hW.alike hK, hD⟩, hS.F ht⟩) hS.2.2 dX9_numberOf_12

set_option maxHeartbeats 4000000 in
set_option maxRecDepth 100000 in
theorem zX9_numberOf_n (l : Launch) (D : va_G) (x : Nat → Nat) (cy : Nat → ClassId) (g : Nat → Nat → Option Nat) (L : List Nat) (K : Nat → Nat) (hG : GO L K g) (N : Nat → Nat) (n : Nat → Int32) (a : Nat → Nat → Int32) (r : Nat → Nat → Option Nat) (f : Nat → va_E) (hC : CI L K cy N r f) (sz : Nat) : Met l yX9_numberOf wsX9_numberOf ({ frames := 0, cells := 0, slots := 0, locals := 0 }) (PW D (TYS cy) (XW x cy g N n a r ++ va_pl L f) sz [.null]) (va_Qi (fun (res : Int32) (u : Unit) => True) (BU D (TYS cy) (XW x cy g N n a r ++ va_pl L f) (fun _ => XW x cy g N n a r ++ va_pl L f) sz) (va_A (XW x cy g N n a r ++ va_pl L f) sz)) 0 0 (va_A (XW x cy g N n a r ++ va_pl L f) sz) := by
  refine Met.ofW (cc := cX9_numberOf) (maxL := 1) (ret := (some .int)) (by decide) rfl ?_
  intro p e s m args below meth c s₁ B hml hv
  obtain ⟨rfl, hsz, hP, hK, hD0⟩ := hv
  have hx := B.exec
  have hb := B.bytes
  have hr := B.returns
  have hts := atoms_spec (ws := wsX9_numberOf) B.pre
  have hown : s.vm.findClass RX9 = some m.cls := findClass_of_methodNamed B.named
  have hlocks := B.notSynchronized
  subst hsz
  obtain ⟨hNB, hRB, hHT⟩ := hC
  have hSM : SM N N n n := SM_rf
  have hMM : MM N N a a := MM_rf
  have hD := hD0.self (sz := s.heap.size)
  have hA : ∀ q9 : Nat, s.heap.size ≤ q9 → va_A (XW x cy g N n a r ++ va_pl L f) s.heap.size q9 := fun q9 h => Or.inr h
  have hS : va_S (va_A (XW x cy g N n a r ++ va_pl L f) s.heap.size) s.heap s.heap [] := va_S.rf
  have hl := lv_entry ([.null]) (n := 1) (Nat.le_of_ble_eq_true rfl)
  rw [lg_entry_eq]
  generalize (lg_sl ([.null]) ++ List.replicate (1 - (lg_sl ([.null])).length) Slot.unset).toArray = ls at hl ⊢
  have hl : lv_has ls 1 [(0, .null)] := hl
  refine lv_aload_nN hx hb dX9_numberOf_0 rfl (lv_at hl 0 rfl) ?_
  refine lv_ifnonnullN hx hb dX9_numberOf_1 ?_
  refine lv_iconst (v := (-1)) hx hb dX9_numberOf_4 (by decide) ?_
  refine lv_goto (tgt := 12) hx hb dX9_numberOf_5 (by decide) ?_
  exact W.iret (v := (-1)) hx hb hr (fun t ht hW => ⟨⟨(-1), (), rfl, trivial, by rw [ht]; exact hP, va_K.moved hW.alike hK, hD⟩, hS.F ht⟩) hS.2.2 dX9_numberOf_12

theorem iX9_heldBy_0 : ∀ w ∈ wsX00, w ∈ wsX9_heldBy := fun _ h => List.mem_cons_of_mem _ (List.mem_append_right _ h)
theorem iX9_heldBy_9 : ∀ w ∈ wsX90, w ∈ wsX9_heldBy := fun _ h => List.mem_cons_of_mem _ (List.mem_append_left _ (List.mem_append_right _ h))
set_option maxHeartbeats 4000000 in
set_option maxRecDepth 100000 in
theorem zX9_heldBy (l : Launch) (D : va_G) (x : Nat → Nat) (cy : Nat → ClassId) (g : Nat → Nat → Option Nat) (L : List Nat) (K : Nat → Nat) (hG : GO L K g) (N : Nat → Nat) (n : Nat → Int32) (a : Nat → Nat → Int32) (r : Nat → Nat → Option Nat) (f : Nat → va_E) (hC : CI L K cy N r f) (sz : Nat) (rd : Nat) (mrd : rd ∈ L ∧ K rd = 6) : Met l yX9_heldBy wsX9_heldBy ({ frames := 0, cells := 0, slots := 0, locals := 0 }) (PW D (TYS cy) (XW x cy g N n a r ++ va_pl L f) sz [.ref (x 0), .ref rd]) (va_Qi (fun (res : Int32) (u : Unit) => True) (BU D (TYS cy) (XW x cy g N n a r ++ va_pl L f) (fun _ => XW x cy g N n a r ++ va_pl L f) sz) (va_A (XW x cy g N n a r ++ va_pl L f) sz)) 0 0 (va_A (XW x cy g N n a r ++ va_pl L f) sz) := by
  refine Met.ofW (cc := cX9_heldBy) (maxL := 4) (ret := (some .int)) (by decide) rfl ?_
  intro p e s m args below meth c s₁ B hml hv
  obtain ⟨rfl, hsz, hP, hK, hD0⟩ := hv
  have hx := B.exec
  have hb := B.bytes
  have hr := B.returns
  have hts := atoms_spec (ws := wsX9_heldBy) B.pre
  have hown : s.vm.findClass RX9 = some m.cls := findClass_of_methodNamed B.named
  have hlocks := B.notSynchronized
  subst hsz
  obtain ⟨hNB, hRB, hHT⟩ := hC
  have hSM : SM N N n n := SM_rf
  have hMM : MM N N a a := MM_rf
  have hD := hD0.self (sz := s.heap.size)
  have hA : ∀ q9 : Nat, s.heap.size ≤ q9 → va_A (XW x cy g N n a r ++ va_pl L f) s.heap.size q9 := fun q9 h => Or.inr h
  have hS : va_S (va_A (XW x cy g N n a r ++ va_pl L f) s.heap.size) s.heap s.heap [] := va_S.rf
  have hl := lv_entry ([.ref (x 0), .ref rd]) (n := 4) (Nat.le_of_ble_eq_true rfl)
  rw [lg_entry_eq]
  generalize (lg_sl ([.ref (x 0), .ref rd]) ++ List.replicate (4 - (lg_sl ([.ref (x 0), .ref rd])).length) Slot.unset).toArray = ls at hl ⊢
  have hl : lv_has ls 4 [(0, .ref (x 0)), (1, .ref rd)] := hl
  refine lv_iconst (v := 0) hx hb dX9_heldBy_0 (by decide) ?_
  refine lv_istore_n (lv' := [(2, .int 0), (0, .ref (x 0)), (1, .ref rd)]) hx hb dX9_heldBy_1 rfl hl (by decide) rfl (fun ls hl => ?_)
  refine lv_iconst (v := 0) hx hb dX9_heldBy_2 (by decide) ?_
  refine lv_istore_n (lv' := [(3, .int 0), (2, .int 0), (0, .ref (x 0)), (1, .ref rd)]) hx hb dX9_heldBy_3 rfl hl (by decide) rfl (fun ls hl => ?_)
  have key2 : ∀ (m9 j1 : Nat), 400 - j1 = m9 → j1 ≤ 400 → ∀ (v4_2 : Int32) , ∀ (H : Heap) (locs : List Loc) (ls : Array Slot), va_P D vwCl (XW x cy g N n a r ++ va_pl L f) H → va_D (va_A (XW x cy g N n a r ++ va_pl L f) s.heap.size) (XW x cy g N n a r ++ va_pl L f) → va_S (va_A (XW x cy g N n a r ++ va_pl L f) s.heap.size) s.heap H locs → lv_has ls 4 [(3, .int (nI j1)), (2, .int v4_2), (0, .ref (x 0)), (1, .ref rd)] → W p l e (headSpec wsX9_heldBy ({ frames := 0, cells := 0, slots := 0, locals := 0 })).room s m #[.ref (x 0), .ref rd] below meth c H locs 0 0 (MQ below (va_Qi (fun (res : Int32) (u : Unit) => True) (BU D (TYS cy) (XW x cy g N n a r ++ va_pl L f) (fun _ => XW x cy g N n a r ++ va_pl L f) s.heap.size) (va_A (XW x cy g N n a r ++ va_pl L f) s.heap.size)) #[.ref (x 0), .ref rd] s 0 0 (va_A (XW x cy g N n a r ++ va_pl L f) s.heap.size)) (F0 m 4 ls []) := by
    intro m9
    induction m9 using Nat.strongRecOn with
    | _ m9 ihkey2 =>
      intro j1 hm9 hj400 v4_2 H locs ls hP hD hS hl
      subst hm9
      have nb0 : N 0 ≤ 12 := hNB 0 (by decide)
      have nb1 : N 1 ≤ 40 := hNB 1 (by decide)
      have nb2 : N 2 ≤ 20 := hNB 2 (by decide)
      have nb3 : N 3 ≤ 4 := hNB 3 (by decide)
      have nb4 : N 4 ≤ 3 := hNB 4 (by decide)
      have nb5 : N 5 ≤ 20 := hNB 5 (by decide)
      have nb6 : N 6 ≤ 20 := hNB 6 (by decide)
      have nb7 : N 7 ≤ 20 := hNB 7 (by decide)
      have nb8 : N 8 ≤ 30 := hNB 8 (by decide)
      have nb9 : N 9 ≤ 400 := hNB 9 (by decide)
      refine lv_iload_n hx hb dX9_heldBy_4 rfl (lv_at hl 0 rfl) ?_
      refine lv_aload_n hx hb dX9_heldBy_5 rfl (lv_at hl 2 rfl) ?_
      refine va_get (D := D) (ci := 9) (v := .int (nI (N 1))) (C := RX9) (T := TX9) (N := 19) hx hb hts iX9_heldBy_9 hown hK hP 0 rfl rfl 11 (by decide) (hts (.fieldLink RX9 88 "FondsRoom" "boxCount" "I") (by decide +kernel)) (fun _ h9 => h9) rfl dX9_heldBy_6 ?_
      refine lv_icmp_ge (tgt := 34) hx hb dX9_heldBy_9 (by decide) (fun c3 => ?_) (fun c3 => ?_)
      · skip
        have dc3 : (N 1) ≤ j1 := (nI_leI (a := (N 1)) (b := j1) (by omega) (by omega)).mp c3
        refine lv_iload_n hx hb dX9_heldBy_34 rfl (lv_at hl 1 rfl) ?_
        exact W.iret (v := v4_2) hx hb hr (fun t ht hW => ⟨⟨v4_2, (), rfl, trivial, by rw [ht]; exact hP, va_K.moved hW.alike hK, hD⟩, hS.F ht⟩) hS.2.2 dX9_heldBy_35
      · skip
        have dc3 : j1 < (N 1) := Nat.not_le.mp (fun h9 => c3 ((nI_leI (a := (N 1)) (b := j1) (by omega) (by omega)).mpr h9))
        refine lv_aload_n hx hb dX9_heldBy_12 rfl (lv_at hl 2 rfl) ?_
        refine va_get (D := D) (ci := 9) (v := .ref (x 2)) (C := RX9) (T := TX9) (N := 19) hx hb hts iX9_heldBy_9 hown hK hP 0 rfl rfl 1 (by decide) (hts (.fieldLink RX9 20 "FondsRoom" "boxes" "[LFondsRoom$Box;") (by decide +kernel)) (fun _ h9 => h9) rfl dX9_heldBy_13 ?_
        refine lv_iload_n hx hb dX9_heldBy_16 rfl (lv_at hl 0 rfl) ?_
        refine va_aldq hx hb hK hP 2 3 rfl rfl (vp_in_nI (by omega) (by omega)) dX9_heldBy_17 ?_
        obtain ⟨p4, ep4, mp4, kp4⟩ := hG.2.1 j1 (by omega)
        refine lv_tov (v' := .ref p4) (by rw [nI_clamp (by omega)]; show va_rf (g 1 j1) = _; rw [ep4]; rfl) ?_
        obtain ⟨n_o5, fo_o5, pr_o5, pl_o5, h_o5, w_o5, hf_o5, spr_o5, sh_o5, sw_o5⟩ : TE L K cy 0 (f p4) := by rw [← kp4]; exact hHT p4 mp4
        refine pg_get (D := D) (ci := 0) (v := va_rf h_o5) (C := RX0) (T := TX0) (N := 6) hx hb hts iX9_heldBy_0 hown hK hP mp4 hf_o5 rfl 4 (by decide) (hts (.fieldLink RX9 239 "FondsRoom$Box" "holder" "LFondsRoom$Reader;") (by decide +kernel)) (fun _ h9 => h9) rfl dX9_heldBy_18 ?_
        refine lv_aload_n hx hb dX9_heldBy_21 rfl (lv_at hl 3 rfl) ?_
        refine lv_acmp_ne (rx := h_o5) (ry := (some rd)) (tgt := 28) hx hb dX9_heldBy_22 (by decide) (fun c6 => ?_) (fun c6 => ?_)
        · skip
          refine lv_iinc (v := nI (j1 + 1)) (lv' := [(3, .int (nI (j1 + 1))), (2, .int v4_2), (0, .ref (x 0)), (1, .ref rd)]) hx hb dX9_heldBy_28 hl (k := 0) rfl (by rw [← nI_1]; rfl) (by decide) rfl (fun ls hl => ?_)
          refine lv_goto (tgt := 4) hx hb dX9_heldBy_31 (by decide) ?_
          exact ihkey2 (400 - ((j1 + 1))) (by omega) ((j1 + 1)) rfl (by omega) v4_2 _ _ _ hP hD hS (lv_sub hl [0, 1, 2, 3] rfl)
        · skip
          refine lv_iinc (v := v4_2 + (1)) (lv' := [(2, .int (v4_2 + (1))), (3, .int (nI j1)), (0, .ref (x 0)), (1, .ref rd)]) hx hb dX9_heldBy_25 hl (k := 1) rfl rfl (by decide) rfl (fun ls hl => ?_)
          refine lv_iinc (v := nI (j1 + 1)) (lv' := [(3, .int (nI (j1 + 1))), (2, .int (v4_2 + (1))), (0, .ref (x 0)), (1, .ref rd)]) hx hb dX9_heldBy_28 hl (k := 1) rfl (by rw [← nI_1]; rfl) (by decide) rfl (fun ls hl => ?_)
          refine lv_goto (tgt := 4) hx hb dX9_heldBy_31 (by decide) ?_
          exact ihkey2 (400 - ((j1 + 1))) (by omega) ((j1 + 1)) rfl (by omega) (v4_2 + (1)) _ _ _ hP hD hS (lv_sub hl [0, 1, 2, 3] rfl)
  have nb0 : N 0 ≤ 12 := hNB 0 (by decide)
  have nb1 : N 1 ≤ 40 := hNB 1 (by decide)
  have nb2 : N 2 ≤ 20 := hNB 2 (by decide)
  have nb3 : N 3 ≤ 4 := hNB 3 (by decide)
  have nb4 : N 4 ≤ 3 := hNB 4 (by decide)
  have nb5 : N 5 ≤ 20 := hNB 5 (by decide)
  have nb6 : N 6 ≤ 20 := hNB 6 (by decide)
  have nb7 : N 7 ≤ 20 := hNB 7 (by decide)
  have nb8 : N 8 ≤ 30 := hNB 8 (by decide)
  have nb9 : N 9 ≤ 400 := hNB 9 (by decide)
  exact key2 (400 - (0)) (0) rfl (by omega) 0 _ _ _ hP hD hS (lv_sub hl [0, 1, 2, 3] rfl)

theorem iX9_isTakenByAnother_0 : ∀ w ∈ wsX00, w ∈ wsX9_isTakenByAnother := fun _ h => List.mem_cons_of_mem _ (List.mem_append_right _ h)
theorem iX9_isTakenByAnother_9 : ∀ w ∈ wsX90, w ∈ wsX9_isTakenByAnother := fun _ h => List.mem_cons_of_mem _ (List.mem_append_left _ (List.mem_append_right _ h))
set_option maxHeartbeats 4000000 in
set_option maxRecDepth 100000 in
theorem zX9_isTakenByAnother (l : Launch) (D : va_G) (x : Nat → Nat) (cy : Nat → ClassId) (g : Nat → Nat → Option Nat) (L : List Nat) (K : Nat → Nat) (hG : GO L K g) (N : Nat → Nat) (n : Nat → Int32) (a : Nat → Nat → Int32) (r : Nat → Nat → Option Nat) (f : Nat → va_E) (hC : CI L K cy N r f) (sz : Nat) (rd : Nat) (fo : Int32) (mrd : rd ∈ L ∧ K rd = 6) : Met l yX9_isTakenByAnother wsX9_isTakenByAnother ({ frames := 0, cells := 0, slots := 0, locals := 0 }) (PW D (TYS cy) (XW x cy g N n a r ++ va_pl L f) sz [.ref (x 0), .int fo, .ref rd]) (va_Qi (fun (res : Int32) (u : Unit) => b01 res) (BU D (TYS cy) (XW x cy g N n a r ++ va_pl L f) (fun _ => XW x cy g N n a r ++ va_pl L f) sz) (va_A (XW x cy g N n a r ++ va_pl L f) sz)) 0 0 (va_A (XW x cy g N n a r ++ va_pl L f) sz) := by
  refine Met.ofW (cc := cX9_isTakenByAnother) (maxL := 6) (ret := (some .boolean)) (by decide) rfl ?_
  intro p e s m args below meth c s₁ B hml hv
  obtain ⟨rfl, hsz, hP, hK, hD0⟩ := hv
  have hx := B.exec
  have hb := B.bytes
  have hr := B.returns
  have hts := atoms_spec (ws := wsX9_isTakenByAnother) B.pre
  have hown : s.vm.findClass RX9 = some m.cls := findClass_of_methodNamed B.named
  have hlocks := B.notSynchronized
  subst hsz
  obtain ⟨hNB, hRB, hHT⟩ := hC
  have hSM : SM N N n n := SM_rf
  have hMM : MM N N a a := MM_rf
  have hD := hD0.self (sz := s.heap.size)
  have hA : ∀ q9 : Nat, s.heap.size ≤ q9 → va_A (XW x cy g N n a r ++ va_pl L f) s.heap.size q9 := fun q9 h => Or.inr h
  have hS : va_S (va_A (XW x cy g N n a r ++ va_pl L f) s.heap.size) s.heap s.heap [] := va_S.rf
  have hl := lv_entry ([.ref (x 0), .int fo, .ref rd]) (n := 6) (Nat.le_of_ble_eq_true rfl)
  rw [lg_entry_eq]
  generalize (lg_sl ([.ref (x 0), .int fo, .ref rd]) ++ List.replicate (6 - (lg_sl ([.ref (x 0), .int fo, .ref rd])).length) Slot.unset).toArray = ls at hl ⊢
  have hl : lv_has ls 6 [(0, .ref (x 0)), (1, .int fo), (2, .ref rd)] := hl
  refine lv_iconst (v := 0) hx hb dX9_isTakenByAnother_0 (by decide) ?_
  refine lv_istore_n (lv' := [(3, .int 0), (0, .ref (x 0)), (1, .int fo), (2, .ref rd)]) hx hb dX9_isTakenByAnother_1 rfl hl (by decide) rfl (fun ls hl => ?_)
  have key2 : ∀ (m9 j1 : Nat), 400 - j1 = m9 → j1 ≤ 400 → ∀ (H : Heap) (locs : List Loc) (ls : Array Slot), va_P D vwCl (XW x cy g N n a r ++ va_pl L f) H → va_D (va_A (XW x cy g N n a r ++ va_pl L f) s.heap.size) (XW x cy g N n a r ++ va_pl L f) → va_S (va_A (XW x cy g N n a r ++ va_pl L f) s.heap.size) s.heap H locs → lv_has ls 6 [(3, .int (nI j1)), (0, .ref (x 0)), (1, .int fo), (2, .ref rd)] → W p l e (headSpec wsX9_isTakenByAnother ({ frames := 0, cells := 0, slots := 0, locals := 0 })).room s m #[.ref (x 0), .int fo, .ref rd] below meth c H locs 0 0 (MQ below (va_Qi (fun (res : Int32) (u : Unit) => b01 res) (BU D (TYS cy) (XW x cy g N n a r ++ va_pl L f) (fun _ => XW x cy g N n a r ++ va_pl L f) s.heap.size) (va_A (XW x cy g N n a r ++ va_pl L f) s.heap.size)) #[.ref (x 0), .int fo, .ref rd] s 0 0 (va_A (XW x cy g N n a r ++ va_pl L f) s.heap.size)) (F0 m 2 ls []) := by
    intro m9
    induction m9 using Nat.strongRecOn with
    | _ m9 ihkey2 =>
      intro j1 hm9 hj400  H locs ls hP hD hS hl
      subst hm9
      have nb0 : N 0 ≤ 12 := hNB 0 (by decide)
      have nb1 : N 1 ≤ 40 := hNB 1 (by decide)
      have nb2 : N 2 ≤ 20 := hNB 2 (by decide)
      have nb3 : N 3 ≤ 4 := hNB 3 (by decide)
      have nb4 : N 4 ≤ 3 := hNB 4 (by decide)
      have nb5 : N 5 ≤ 20 := hNB 5 (by decide)
      have nb6 : N 6 ≤ 20 := hNB 6 (by decide)
      have nb7 : N 7 ≤ 20 := hNB 7 (by decide)
      have nb8 : N 8 ≤ 30 := hNB 8 (by decide)
      have nb9 : N 9 ≤ 400 := hNB 9 (by decide)
      refine lv_iload_n hx hb dX9_isTakenByAnother_2 rfl (lv_at hl 0 rfl) ?_
      refine lv_aload_n hx hb dX9_isTakenByAnother_3 rfl (lv_at hl 1 rfl) ?_
      refine va_get (D := D) (ci := 9) (v := .int (nI (N 1))) (C := RX9) (T := TX9) (N := 19) hx hb hts iX9_isTakenByAnother_9 hown hK hP 0 rfl rfl 11 (by decide) (hts (.fieldLink RX9 88 "FondsRoom" "boxCount" "I") (by decide +kernel)) (fun _ h9 => h9) rfl dX9_isTakenByAnother_4 ?_
      refine lv_icmp_ge (tgt := 69) hx hb dX9_isTakenByAnother_7 (by decide) (fun c3 => ?_) (fun c3 => ?_)
      · skip
        have dc3 : (N 1) ≤ j1 := (nI_leI (a := (N 1)) (b := j1) (by omega) (by omega)).mp c3
        refine lv_iconst (v := 0) hx hb dX9_isTakenByAnother_69 (by decide) ?_
        exact W.zret (v := 0) hx hb hr (rfl) (fun t ht hW => ⟨⟨0, (), rfl, Or.inl rfl, by rw [ht]; exact hP, va_K.moved hW.alike hK, hD⟩, hS.F ht⟩) hS.2.2 dX9_isTakenByAnother_70
      · skip
        have dc3 : j1 < (N 1) := Nat.not_le.mp (fun h9 => c3 ((nI_leI (a := (N 1)) (b := j1) (by omega) (by omega)).mpr h9))
        refine lv_aload_n hx hb dX9_isTakenByAnother_10 rfl (lv_at hl 1 rfl) ?_
        refine va_get (D := D) (ci := 9) (v := .ref (x 2)) (C := RX9) (T := TX9) (N := 19) hx hb hts iX9_isTakenByAnother_9 hown hK hP 0 rfl rfl 1 (by decide) (hts (.fieldLink RX9 20 "FondsRoom" "boxes" "[LFondsRoom$Box;") (by decide +kernel)) (fun _ h9 => h9) rfl dX9_isTakenByAnother_11 ?_
        refine lv_iload_n hx hb dX9_isTakenByAnother_14 rfl (lv_at hl 0 rfl) ?_
        refine va_aldq hx hb hK hP 2 3 rfl rfl (vp_in_nI (by omega) (by omega)) dX9_isTakenByAnother_15 ?_
        obtain ⟨p4, ep4, mp4, kp4⟩ := hG.2.1 j1 (by omega)
        refine lv_tov (v' := .ref p4) (by rw [nI_clamp (by omega)]; show va_rf (g 1 j1) = _; rw [ep4]; rfl) ?_
        refine lv_astore (lv' := [(4, .ref p4), (3, .int (nI j1)), (0, .ref (x 0)), (1, .int fo), (2, .ref rd)]) hx hb dX9_isTakenByAnother_16 hl (by decide) rfl (fun ls hl => ?_)
        refine lv_aload hx hb dX9_isTakenByAnother_18 (lv_at hl 0 rfl) ?_
        obtain ⟨n_o5, fo_o5, pr_o5, pl_o5, h_o5, w_o5, hf_o5, spr_o5, sh_o5, sw_o5⟩ : TE L K cy 0 (f p4) := by rw [← kp4]; exact hHT p4 mp4
        refine pg_get (D := D) (ci := 0) (v := va_rf h_o5) (C := RX0) (T := TX0) (N := 6) hx hb hts iX9_isTakenByAnother_0 hown hK hP mp4 hf_o5 rfl 4 (by decide) (hts (.fieldLink RX9 239 "FondsRoom$Box" "holder" "LFondsRoom$Reader;") (by decide +kernel)) (fun _ h9 => h9) rfl dX9_isTakenByAnother_20 ?_
        rcases eb6 : h_o5 with _ | b6
        · skip
          subst eb6
          have hP : va_P D vwCl (XW x cy g N n a r ++ va_pl L f) H := by assumption
          have hD : va_D (va_A (XW x cy g N n a r ++ va_pl L f) s.heap.size) (XW x cy g N n a r ++ va_pl L f) := by assumption
          have hl : lv_has ls 6 [(4, .ref p4), (3, .int (nI j1)), (0, .ref (x 0)), (1, .int fo), (2, .ref rd)] := by assumption
          refine lv_ifnullN (tgt := 34) hx hb dX9_isTakenByAnother_23 (by decide) ?_
          refine lv_aload hx hb dX9_isTakenByAnother_34 (lv_at hl 0 rfl) ?_
          refine pg_get (D := D) (ci := 0) (v := va_rf w_o5) (C := RX0) (T := TX0) (N := 6) hx hb hts iX9_isTakenByAnother_0 hown hK hP mp4 hf_o5 rfl 5 (by decide) (hts (.fieldLink RX9 260 "FondsRoom$Box" "wanter" "LFondsRoom$Reader;") (by decide +kernel)) (fun _ h9 => h9) rfl dX9_isTakenByAnother_36 ?_
          rcases eb7 : w_o5 with _ | b7
          · skip
            subst eb7
            have hP : va_P D vwCl (XW x cy g N n a r ++ va_pl L f) H := by assumption
            have hD : va_D (va_A (XW x cy g N n a r ++ va_pl L f) s.heap.size) (XW x cy g N n a r ++ va_pl L f) := by assumption
            have hl : lv_has ls 6 [(4, .ref p4), (3, .int (nI j1)), (0, .ref (x 0)), (1, .int fo), (2, .ref rd)] := by assumption
            refine lv_astoreN (lv' := [(5, .null), (4, .ref p4), (3, .int (nI j1)), (0, .ref (x 0)), (1, .int fo), (2, .ref rd)]) hx hb dX9_isTakenByAnother_39 hl (by decide) rfl (fun ls hl => ?_)
            refine lv_aload hx hb dX9_isTakenByAnother_41 (lv_at hl 1 rfl) ?_
            refine pg_get (D := D) (ci := 0) (v := .int fo_o5) (C := RX0) (T := TX0) (N := 6) hx hb hts iX9_isTakenByAnother_0 hown hK hP mp4 hf_o5 rfl 1 (by decide) (hts (.fieldLink RX9 95 "FondsRoom$Box" "fonds" "I") (by decide +kernel)) (fun _ h9 => h9) rfl dX9_isTakenByAnother_43 ?_
            refine lv_iload_n hx hb dX9_isTakenByAnother_46 rfl (lv_at hl 4 rfl) ?_
            refine lv_icmp_ne (tgt := 63) hx hb dX9_isTakenByAnother_47 (by decide) (fun c8 => ?_) (fun c8 => ?_)
            · skip
              refine lv_iinc (v := nI (j1 + 1)) (lv' := [(3, .int (nI (j1 + 1))), (5, .null), (4, .ref p4), (0, .ref (x 0)), (1, .int fo), (2, .ref rd)]) hx hb dX9_isTakenByAnother_63 hl (k := 2) rfl (by rw [← nI_1]; rfl) (by decide) rfl (fun ls hl => ?_)
              refine lv_goto (tgt := 2) hx hb dX9_isTakenByAnother_66 (by decide) ?_
              exact ihkey2 (400 - ((j1 + 1))) (by omega) ((j1 + 1)) rfl (by omega)  _ _ _ hP hD hS (lv_sub hl [0, 3, 4, 5] rfl)
            · skip
              refine lv_aloadN hx hb dX9_isTakenByAnother_50 (lv_at hl 0 rfl) ?_
              refine lv_ifnullN (tgt := 63) hx hb dX9_isTakenByAnother_52 (by decide) ?_
              refine lv_iinc (v := nI (j1 + 1)) (lv' := [(3, .int (nI (j1 + 1))), (5, .null), (4, .ref p4), (0, .ref (x 0)), (1, .int fo), (2, .ref rd)]) hx hb dX9_isTakenByAnother_63 hl (k := 2) rfl (by rw [← nI_1]; rfl) (by decide) rfl (fun ls hl => ?_)
              refine lv_goto (tgt := 2) hx hb dX9_isTakenByAnother_66 (by decide) ?_
              exact ihkey2 (400 - ((j1 + 1))) (by omega) ((j1 + 1)) rfl (by omega)  _ _ _ hP hD hS (lv_sub hl [0, 3, 4, 5] rfl)
          · skip
            subst eb7
            have mb7 := sw_o5 b7 rfl
            have hP : va_P D vwCl (XW x cy g N n a r ++ va_pl L f) H := by assumption
            have hD : va_D (va_A (XW x cy g N n a r ++ va_pl L f) s.heap.size) (XW x cy g N n a r ++ va_pl L f) := by assumption
            have hl : lv_has ls 6 [(4, .ref p4), (3, .int (nI j1)), (0, .ref (x 0)), (1, .int fo), (2, .ref rd)] := by assumption
            refine lv_astore (lv' := [(5, .ref b7), (4, .ref p4), (3, .int (nI j1)), (0, .ref (x 0)), (1, .int fo), (2, .ref rd)]) hx hb dX9_isTakenByAnother_39 hl (by decide) rfl (fun ls hl => ?_)
            refine lv_aload hx hb dX9_isTakenByAnother_41 (lv_at hl 1 rfl) ?_
            refine pg_get (D := D) (ci := 0) (v := .int fo_o5) (C := RX0) (T := TX0) (N := 6) hx hb hts iX9_isTakenByAnother_0 hown hK hP mp4 hf_o5 rfl 1 (by decide) (hts (.fieldLink RX9 95 "FondsRoom$Box" "fonds" "I") (by decide +kernel)) (fun _ h9 => h9) rfl dX9_isTakenByAnother_43 ?_
            refine lv_iload_n hx hb dX9_isTakenByAnother_46 rfl (lv_at hl 4 rfl) ?_
            refine lv_icmp_ne (tgt := 63) hx hb dX9_isTakenByAnother_47 (by decide) (fun c9 => ?_) (fun c9 => ?_)
            · skip
              refine lv_iinc (v := nI (j1 + 1)) (lv' := [(3, .int (nI (j1 + 1))), (5, .ref b7), (4, .ref p4), (0, .ref (x 0)), (1, .int fo), (2, .ref rd)]) hx hb dX9_isTakenByAnother_63 hl (k := 2) rfl (by rw [← nI_1]; rfl) (by decide) rfl (fun ls hl => ?_)
              refine lv_goto (tgt := 2) hx hb dX9_isTakenByAnother_66 (by decide) ?_
              exact ihkey2 (400 - ((j1 + 1))) (by omega) ((j1 + 1)) rfl (by omega)  _ _ _ hP hD hS (lv_sub hl [0, 3, 4, 5] rfl)
            · skip
              refine lv_aload hx hb dX9_isTakenByAnother_50 (lv_at hl 0 rfl) ?_
              refine lv_ifnull hx hb dX9_isTakenByAnother_52 ?_
              refine lv_aload hx hb dX9_isTakenByAnother_55 (lv_at hl 0 rfl) ?_
              refine lv_aload_n hx hb dX9_isTakenByAnother_57 rfl (lv_at hl 5 rfl) ?_
              refine lv_acmp_eq (rx := (some b7)) (ry := (some rd)) (tgt := 63) hx hb dX9_isTakenByAnother_58 (by decide) (fun c10 => ?_) (fun c10 => ?_)
              · skip
                refine lv_iinc (v := nI (j1 + 1)) (lv' := [(3, .int (nI (j1 + 1))), (5, .ref b7), (4, .ref p4), (0, .ref (x 0)), (1, .int fo), (2, .ref rd)]) hx hb dX9_isTakenByAnother_63 hl (k := 2) rfl (by rw [← nI_1]; rfl) (by decide) rfl (fun ls hl => ?_)
                refine lv_goto (tgt := 2) hx hb dX9_isTakenByAnother_66 (by decide) ?_
                exact ihkey2 (400 - ((j1 + 1))) (by omega) ((j1 + 1)) rfl (by omega)  _ _ _ hP hD hS (lv_sub hl [0, 3, 4, 5] rfl)
              · skip
                refine lv_iconst (v := 1) hx hb dX9_isTakenByAnother_61 (by decide) ?_
                exact W.zret (v := 1) hx hb hr (rfl) (fun t ht hW => ⟨⟨1, (), rfl, Or.inr rfl, by rw [ht]; exact hP, va_K.moved hW.alike hK, hD⟩, hS.F ht⟩) hS.2.2 dX9_isTakenByAnother_62
        · skip
          subst eb6
          have mb6 := sh_o5 b6 rfl
          have hP : va_P D vwCl (XW x cy g N n a r ++ va_pl L f) H := by assumption
          have hD : va_D (va_A (XW x cy g N n a r ++ va_pl L f) s.heap.size) (XW x cy g N n a r ++ va_pl L f) := by assumption
          have hl : lv_has ls 6 [(4, .ref p4), (3, .int (nI j1)), (0, .ref (x 0)), (1, .int fo), (2, .ref rd)] := by assumption
          refine lv_ifnull hx hb dX9_isTakenByAnother_23 ?_
          refine lv_aload hx hb dX9_isTakenByAnother_26 (lv_at hl 0 rfl) ?_
          refine pg_get (D := D) (ci := 0) (v := .ref b6) (C := RX0) (T := TX0) (N := 6) hx hb hts iX9_isTakenByAnother_0 hown hK hP mp4 hf_o5 rfl 4 (by decide) (hts (.fieldLink RX9 239 "FondsRoom$Box" "holder" "LFondsRoom$Reader;") (by decide +kernel)) (fun _ h9 => h9) rfl dX9_isTakenByAnother_28 ?_
          refine lv_goto (tgt := 39) hx hb dX9_isTakenByAnother_31 (by decide) ?_
          refine lv_astore (lv' := [(5, .ref b6), (4, .ref p4), (3, .int (nI j1)), (0, .ref (x 0)), (1, .int fo), (2, .ref rd)]) hx hb dX9_isTakenByAnother_39 hl (by decide) rfl (fun ls hl => ?_)
          refine lv_aload hx hb dX9_isTakenByAnother_41 (lv_at hl 1 rfl) ?_
          refine pg_get (D := D) (ci := 0) (v := .int fo_o5) (C := RX0) (T := TX0) (N := 6) hx hb hts iX9_isTakenByAnother_0 hown hK hP mp4 hf_o5 rfl 1 (by decide) (hts (.fieldLink RX9 95 "FondsRoom$Box" "fonds" "I") (by decide +kernel)) (fun _ h9 => h9) rfl dX9_isTakenByAnother_43 ?_
          refine lv_iload_n hx hb dX9_isTakenByAnother_46 rfl (lv_at hl 4 rfl) ?_
          refine lv_icmp_ne (tgt := 63) hx hb dX9_isTakenByAnother_47 (by decide) (fun c11 => ?_) (fun c11 => ?_)
          · skip
            refine lv_iinc (v := nI (j1 + 1)) (lv' := [(3, .int (nI (j1 + 1))), (5, .ref b6), (4, .ref p4), (0, .ref (x 0)), (1, .int fo), (2, .ref rd)]) hx hb dX9_isTakenByAnother_63 hl (k := 2) rfl (by rw [← nI_1]; rfl) (by decide) rfl (fun ls hl => ?_)
            refine lv_goto (tgt := 2) hx hb dX9_isTakenByAnother_66 (by decide) ?_
            exact ihkey2 (400 - ((j1 + 1))) (by omega) ((j1 + 1)) rfl (by omega)  _ _ _ hP hD hS (lv_sub hl [0, 3, 4, 5] rfl)
          · skip
            refine lv_aload hx hb dX9_isTakenByAnother_50 (lv_at hl 0 rfl) ?_
            refine lv_ifnull hx hb dX9_isTakenByAnother_52 ?_
            refine lv_aload hx hb dX9_isTakenByAnother_55 (lv_at hl 0 rfl) ?_
            refine lv_aload_n hx hb dX9_isTakenByAnother_57 rfl (lv_at hl 5 rfl) ?_
            refine lv_acmp_eq (rx := (some b6)) (ry := (some rd)) (tgt := 63) hx hb dX9_isTakenByAnother_58 (by decide) (fun c12 => ?_) (fun c12 => ?_)
            · skip
              refine lv_iinc (v := nI (j1 + 1)) (lv' := [(3, .int (nI (j1 + 1))), (5, .ref b6), (4, .ref p4), (0, .ref (x 0)), (1, .int fo), (2, .ref rd)]) hx hb dX9_isTakenByAnother_63 hl (k := 2) rfl (by rw [← nI_1]; rfl) (by decide) rfl (fun ls hl => ?_)
              refine lv_goto (tgt := 2) hx hb dX9_isTakenByAnother_66 (by decide) ?_
              exact ihkey2 (400 - ((j1 + 1))) (by omega) ((j1 + 1)) rfl (by omega)  _ _ _ hP hD hS (lv_sub hl [0, 3, 4, 5] rfl)
            · skip
              refine lv_iconst (v := 1) hx hb dX9_isTakenByAnother_61 (by decide) ?_
              exact W.zret (v := 1) hx hb hr (rfl) (fun t ht hW => ⟨⟨1, (), rfl, Or.inr rfl, by rw [ht]; exact hP, va_K.moved hW.alike hK, hD⟩, hS.F ht⟩) hS.2.2 dX9_isTakenByAnother_62
  have nb0 : N 0 ≤ 12 := hNB 0 (by decide)
  have nb1 : N 1 ≤ 40 := hNB 1 (by decide)
  have nb2 : N 2 ≤ 20 := hNB 2 (by decide)
  have nb3 : N 3 ≤ 4 := hNB 3 (by decide)
  have nb4 : N 4 ≤ 3 := hNB 4 (by decide)
  have nb5 : N 5 ≤ 20 := hNB 5 (by decide)
  have nb6 : N 6 ≤ 20 := hNB 6 (by decide)
  have nb7 : N 7 ≤ 20 := hNB 7 (by decide)
  have nb8 : N 8 ≤ 30 := hNB 8 (by decide)
  have nb9 : N 9 ≤ 400 := hNB 9 (by decide)
  exact key2 (400 - (0)) (0) rfl (by omega)  _ _ _ hP hD hS (lv_sub hl [0, 1, 2, 3] rfl)

theorem iX9_ruleAgainst_0 : ∀ w ∈ wsX00, w ∈ wsX9_ruleAgainst := fun _ h => List.mem_cons_of_mem _ (List.mem_append_left _ (List.mem_append_left _ (List.mem_append_left _ (List.mem_append_right _ h))))
theorem iX9_ruleAgainst_1 : ∀ w ∈ wsX10, w ∈ wsX9_ruleAgainst := fun _ h => List.mem_cons_of_mem _ (List.mem_append_left _ (List.mem_append_right _ h))
theorem iX9_ruleAgainst_6 : ∀ w ∈ wsX60, w ∈ wsX9_ruleAgainst := fun _ h => List.mem_cons_of_mem _ (List.mem_append_left _ (List.mem_append_left _ (List.mem_append_right _ h)))
set_option maxHeartbeats 4000000 in
set_option maxRecDepth 100000 in
theorem zX9_ruleAgainst (l : Launch) (D : va_G) (x : Nat → Nat) (cy : Nat → ClassId) (g : Nat → Nat → Option Nat) (L : List Nat) (K : Nat → Nat) (hG : GO L K g) (N : Nat → Nat) (n : Nat → Int32) (a : Nat → Nat → Int32) (r : Nat → Nat → Option Nat) (f : Nat → va_E) (hC : CI L K cy N r f) (sz : Nat) (rd bx : Nat) (mrd : rd ∈ L ∧ K rd = 6) (mbx : bx ∈ L ∧ K bx = 0) : Met l yX9_ruleAgainst wsX9_ruleAgainst ({ frames := 1, cells := 0, slots := 0, locals := 25 }) (PW D (TYS cy) (XW x cy g N n a r ++ va_pl L f) sz [.ref (x 0), .ref rd, .ref bx]) (va_Qi (fun (res : Int32) (u : Unit) => True) (BU D (TYS cy) (XW x cy g N n a r ++ va_pl L f) (fun _ => XW x cy g N n a r ++ va_pl L f) sz) (va_A (XW x cy g N n a r ++ va_pl L f) sz)) 0 0 (va_A (XW x cy g N n a r ++ va_pl L f) sz) := by
  refine Met.ofW (cc := cX9_ruleAgainst) (maxL := 3) (ret := (some .int)) (by decide) rfl ?_
  intro p e s m args below meth c s₁ B hml hv
  obtain ⟨rfl, hsz, hP, hK, hD0⟩ := hv
  have hx := B.exec
  have hb := B.bytes
  have hr := B.returns
  have hts := atoms_spec (ws := wsX9_ruleAgainst) B.pre
  have hown : s.vm.findClass RX9 = some m.cls := findClass_of_methodNamed B.named
  have hlocks := B.notSynchronized
  subst hsz
  obtain ⟨hNB, hRB, hHT⟩ := hC
  have hSM : SM N N n n := SM_rf
  have hMM : MM N N a a := MM_rf
  have hD := hD0.self (sz := s.heap.size)
  have hA : ∀ q9 : Nat, s.heap.size ≤ q9 → va_A (XW x cy g N n a r ++ va_pl L f) s.heap.size q9 := fun q9 h => Or.inr h
  have hS : va_S (va_A (XW x cy g N n a r ++ va_pl L f) s.heap.size) s.heap s.heap [] := va_S.rf
  have hl := lv_entry ([.ref (x 0), .ref rd, .ref bx]) (n := 3) (Nat.le_of_ble_eq_true rfl)
  rw [lg_entry_eq]
  generalize (lg_sl ([.ref (x 0), .ref rd, .ref bx]) ++ List.replicate (3 - (lg_sl ([.ref (x 0), .ref rd, .ref bx])).length) Slot.unset).toArray = ls at hl ⊢
  have hl : lv_has ls 3 [(0, .ref (x 0)), (1, .ref rd), (2, .ref bx)] := hl
  refine lv_aload_n hx hb dX9_ruleAgainst_0 rfl (lv_at hl 0 rfl) ?_
  refine lv_aload_n hx hb dX9_ruleAgainst_1 rfl (lv_at hl 1 rfl) ?_
  refine gvI (As := [.ref rd]) (rest := []) ⟨hx, hb, hml, hown, hts⟩ (zX9_heldBy l D x cy g L K hG N n a r f ⟨hNB, hRB, hHT⟩ _ rd  ⟨mrd.1, mrd.2⟩) (cwV 1 hts gX9_ruleAgainst_X9_heldBy rfl rfl rfl (by decide +kernel) ⟨Nat.le_of_ble_eq_true rfl, Nat.le_of_ble_eq_true rfl⟩) hK hP hD hS hA (va_recv hK hP (ci := 9) (q0 := 0) rfl rfl) rfl hl.1 rfl (Nat.le_of_ble_eq_true rfl) dX9_ruleAgainst_2 ⟨Nat.le_of_ble_eq_true rfl, Nat.le_of_ble_eq_true rfl⟩ (fun q1 u2 H locs hq1 hP hD hS => ?_)
  have hP : va_P D vwCl (XW x cy g N n a r ++ va_pl L f) H := hP
  have hD : va_D _ (XW x cy g N n a r ++ va_pl L f) := hD
  refine lv_iconst (v := 3) hx hb dX9_ruleAgainst_5 (by decide) ?_
  refine lv_icmp_lt (tgt := 11) hx hb dX9_ruleAgainst_6 (by decide) (fun c3 => ?_) (fun c3 => ?_)
  · skip
    refine lv_aload_n hx hb dX9_ruleAgainst_11 rfl (lv_at hl 2 rfl) ?_
    obtain ⟨n_o4, fo_o4, pr_o4, pl_o4, h_o4, w_o4, hf_o4, spr_o4, sh_o4, sw_o4⟩ : TE L K cy 0 (f bx) := by rw [← mbx.2]; exact hHT bx mbx.1
    refine pg_get (D := D) (ci := 0) (v := .int pr_o4) (C := RX0) (T := TX0) (N := 6) hx hb hts iX9_ruleAgainst_0 hown hK hP mbx.1 hf_o4 rfl 2 (by decide) (hts (.fieldLink RX9 98 "FondsRoom$Box" "precious" "Z") (by decide +kernel)) (fun _ h9 => h9) rfl dX9_ruleAgainst_12 ?_
    refine lv_if_eq (tgt := 37) hx hb dX9_ruleAgainst_15 (by decide) (fun c5 => ?_) (fun c5 => ?_)
    · skip
      refine lv_aload_n hx hb dX9_ruleAgainst_37 rfl (lv_at hl 2 rfl) ?_
      refine pg_get (D := D) (ci := 0) (v := va_rf h_o4) (C := RX0) (T := TX0) (N := 6) hx hb hts iX9_ruleAgainst_0 hown hK hP mbx.1 hf_o4 rfl 4 (by decide) (hts (.fieldLink RX9 239 "FondsRoom$Box" "holder" "LFondsRoom$Reader;") (by decide +kernel)) (fun _ h9 => h9) rfl dX9_ruleAgainst_38 ?_
      refine lv_aload_n hx hb dX9_ruleAgainst_41 rfl (lv_at hl 1 rfl) ?_
      refine lv_acmp_ne (rx := h_o4) (ry := (some rd)) (tgt := 47) hx hb dX9_ruleAgainst_42 (by decide) (fun c6 => ?_) (fun c6 => ?_)
      · skip
        refine lv_aload_n hx hb dX9_ruleAgainst_47 rfl (lv_at hl 0 rfl) ?_
        refine lv_aload_n hx hb dX9_ruleAgainst_48 rfl (lv_at hl 2 rfl) ?_
        refine pg_get (D := D) (ci := 0) (v := .int fo_o4) (C := RX0) (T := TX0) (N := 6) hx hb hts iX9_ruleAgainst_0 hown hK hP mbx.1 hf_o4 rfl 1 (by decide) (hts (.fieldLink RX9 95 "FondsRoom$Box" "fonds" "I") (by decide +kernel)) (fun _ h9 => h9) rfl dX9_ruleAgainst_49 ?_
        refine lv_aload_n hx hb dX9_ruleAgainst_52 rfl (lv_at hl 1 rfl) ?_
        refine gvI (As := [.int fo_o4, .ref rd]) (rest := []) ⟨hx, hb, hml, hown, hts⟩ (zX9_isTakenByAnother l D x cy g L K hG N n a r f ⟨hNB, hRB, hHT⟩ _ rd fo_o4 ⟨mrd.1, mrd.2⟩) (cwV 2 hts gX9_ruleAgainst_X9_isTakenByAnother rfl rfl rfl (by decide +kernel) ⟨Nat.le_of_ble_eq_true rfl, Nat.le_of_ble_eq_true rfl⟩) hK hP hD hS hA (va_recv hK hP (ci := 9) (q0 := 0) rfl rfl) rfl hl.1 rfl (Nat.le_of_ble_eq_true rfl) dX9_ruleAgainst_53 ⟨Nat.le_of_ble_eq_true rfl, Nat.le_of_ble_eq_true rfl⟩ (fun q7 u8 H locs hq7 hP hD hS => ?_)
        have hP : va_P D vwCl (XW x cy g N n a r ++ va_pl L f) H := hP
        have hD : va_D _ (XW x cy g N n a r ++ va_pl L f) := hD
        refine lv_if_eq (tgt := 61) hx hb dX9_ruleAgainst_56 (by decide) (fun c9 => ?_) (fun c9 => ?_)
        · skip
          refine lv_iconst (v := (-1)) hx hb dX9_ruleAgainst_61 (by decide) ?_
          exact W.iret (v := (-1)) hx hb hr (fun t ht hW => ⟨⟨(-1), (), rfl, trivial, by rw [ht]; exact hP, va_K.moved hW.alike hK, hD⟩, hS.F ht⟩) hS.2.2 dX9_ruleAgainst_62
        · skip
          refine lv_iconst (v := 4) hx hb dX9_ruleAgainst_59 (by decide) ?_
          exact W.iret (v := 4) hx hb hr (fun t ht hW => ⟨⟨4, (), rfl, trivial, by rw [ht]; exact hP, va_K.moved hW.alike hK, hD⟩, hS.F ht⟩) hS.2.2 dX9_ruleAgainst_60
      · skip
        refine lv_iconst (v := 3) hx hb dX9_ruleAgainst_45 (by decide) ?_
        exact W.iret (v := 3) hx hb hr (fun t ht hW => ⟨⟨3, (), rfl, trivial, by rw [ht]; exact hP, va_K.moved hW.alike hK, hD⟩, hS.F ht⟩) hS.2.2 dX9_ruleAgainst_46
    · skip
      refine lv_aload_n hx hb dX9_ruleAgainst_18 rfl (lv_at hl 1 rfl) ?_
      obtain ⟨n_o10, p_o10, ar_o10, rk_o10, nw_o10, st_o10, ct_o10, d_o10, aw_o10, rl_o10, cp_o10, cu_o10, w1_o10, w2_o10, w3_o10, ov_o10, co_o10, hf_o10, sp_o10, snw_o10, sd_o10, saw_o10, scu_o10⟩ : TE L K cy 6 (f rd) := by rw [← mrd.2]; exact hHT rd mrd.1
      refine pg_get (D := D) (ci := 6) (v := va_rf d_o10) (C := RX6) (T := TX6) (N := 17) hx hb hts iX9_ruleAgainst_6 hown hK hP mrd.1 hf_o10 rfl 7 (by decide) (hts (.fieldLink RX9 328 "FondsRoom$Reader" "desk" "LFondsRoom$Desk;") (by decide +kernel)) (fun _ h9 => h9) rfl dX9_ruleAgainst_19 ?_
      rcases eb11 : d_o10 with _ | b11
      · skip
        subst eb11
        have hP : va_P D vwCl (XW x cy g N n a r ++ va_pl L f) H := by assumption
        have hD : va_D (va_A (XW x cy g N n a r ++ va_pl L f) s.heap.size) (XW x cy g N n a r ++ va_pl L f) := by assumption
        have hl : lv_has ls 3 [(0, .ref (x 0)), (1, .ref rd), (2, .ref bx)] := by assumption
        refine lv_ifnullN (tgt := 35) hx hb dX9_ruleAgainst_22 (by decide) ?_
        refine lv_iconst (v := 2) hx hb dX9_ruleAgainst_35 (by decide) ?_
        exact W.iret (v := 2) hx hb hr (fun t ht hW => ⟨⟨2, (), rfl, trivial, by rw [ht]; exact hP, va_K.moved hW.alike hK, hD⟩, hS.F ht⟩) hS.2.2 dX9_ruleAgainst_36
      · skip
        subst eb11
        have mb11 := sd_o10 b11 rfl
        have hP : va_P D vwCl (XW x cy g N n a r ++ va_pl L f) H := by assumption
        have hD : va_D (va_A (XW x cy g N n a r ++ va_pl L f) s.heap.size) (XW x cy g N n a r ++ va_pl L f) := by assumption
        have hl : lv_has ls 3 [(0, .ref (x 0)), (1, .ref rd), (2, .ref bx)] := by assumption
        refine lv_ifnull hx hb dX9_ruleAgainst_22 ?_
        refine lv_aload_n hx hb dX9_ruleAgainst_25 rfl (lv_at hl 1 rfl) ?_
        refine pg_get (D := D) (ci := 6) (v := .ref b11) (C := RX6) (T := TX6) (N := 17) hx hb hts iX9_ruleAgainst_6 hown hK hP mrd.1 hf_o10 rfl 7 (by decide) (hts (.fieldLink RX9 328 "FondsRoom$Reader" "desk" "LFondsRoom$Desk;") (by decide +kernel)) (fun _ h9 => h9) rfl dX9_ruleAgainst_26 ?_
        obtain ⟨n_o12, wt_o12, s_o12, hf_o12, swt_o12, ss_o12⟩ : TE L K cy 1 (f b11) := by rw [← mb11.2]; exact hHT b11 mb11.1
        refine pg_get (D := D) (ci := 1) (v := .int wt_o12) (C := RX1) (T := TX1) (N := 3) hx hb hts iX9_ruleAgainst_1 hown hK hP mb11.1 hf_o12 rfl 1 (by decide) (hts (.fieldLink RX9 84 "FondsRoom$Desk" "watched" "Z") (by decide +kernel)) (fun _ h9 => h9) rfl dX9_ruleAgainst_29 ?_
        refine lv_if_ne (tgt := 37) hx hb dX9_ruleAgainst_32 (by decide) (fun c13 => ?_) (fun c13 => ?_)
        · skip
          refine lv_aload_n hx hb dX9_ruleAgainst_37 rfl (lv_at hl 2 rfl) ?_
          refine pg_get (D := D) (ci := 0) (v := va_rf h_o4) (C := RX0) (T := TX0) (N := 6) hx hb hts iX9_ruleAgainst_0 hown hK hP mbx.1 hf_o4 rfl 4 (by decide) (hts (.fieldLink RX9 239 "FondsRoom$Box" "holder" "LFondsRoom$Reader;") (by decide +kernel)) (fun _ h9 => h9) rfl dX9_ruleAgainst_38 ?_
          refine lv_aload_n hx hb dX9_ruleAgainst_41 rfl (lv_at hl 1 rfl) ?_
          refine lv_acmp_ne (rx := h_o4) (ry := (some rd)) (tgt := 47) hx hb dX9_ruleAgainst_42 (by decide) (fun c14 => ?_) (fun c14 => ?_)
          · skip
            refine lv_aload_n hx hb dX9_ruleAgainst_47 rfl (lv_at hl 0 rfl) ?_
            refine lv_aload_n hx hb dX9_ruleAgainst_48 rfl (lv_at hl 2 rfl) ?_
            refine pg_get (D := D) (ci := 0) (v := .int fo_o4) (C := RX0) (T := TX0) (N := 6) hx hb hts iX9_ruleAgainst_0 hown hK hP mbx.1 hf_o4 rfl 1 (by decide) (hts (.fieldLink RX9 95 "FondsRoom$Box" "fonds" "I") (by decide +kernel)) (fun _ h9 => h9) rfl dX9_ruleAgainst_49 ?_
            refine lv_aload_n hx hb dX9_ruleAgainst_52 rfl (lv_at hl 1 rfl) ?_
            refine gvI (As := [.int fo_o4, .ref rd]) (rest := []) ⟨hx, hb, hml, hown, hts⟩ (zX9_isTakenByAnother l D x cy g L K hG N n a r f ⟨hNB, hRB, hHT⟩ _ rd fo_o4 ⟨mrd.1, mrd.2⟩) (cwV 2 hts gX9_ruleAgainst_X9_isTakenByAnother rfl rfl rfl (by decide +kernel) ⟨Nat.le_of_ble_eq_true rfl, Nat.le_of_ble_eq_true rfl⟩) hK hP hD hS hA (va_recv hK hP (ci := 9) (q0 := 0) rfl rfl) rfl hl.1 rfl (Nat.le_of_ble_eq_true rfl) dX9_ruleAgainst_53 ⟨Nat.le_of_ble_eq_true rfl, Nat.le_of_ble_eq_true rfl⟩ (fun q15 u16 H locs hq15 hP hD hS => ?_)
            have hP : va_P D vwCl (XW x cy g N n a r ++ va_pl L f) H := hP
            have hD : va_D _ (XW x cy g N n a r ++ va_pl L f) := hD
            refine lv_if_eq (tgt := 61) hx hb dX9_ruleAgainst_56 (by decide) (fun c17 => ?_) (fun c17 => ?_)
            · skip
              refine lv_iconst (v := (-1)) hx hb dX9_ruleAgainst_61 (by decide) ?_
              exact W.iret (v := (-1)) hx hb hr (fun t ht hW => ⟨⟨(-1), (), rfl, trivial, by rw [ht]; exact hP, va_K.moved hW.alike hK, hD⟩, hS.F ht⟩) hS.2.2 dX9_ruleAgainst_62
            · skip
              refine lv_iconst (v := 4) hx hb dX9_ruleAgainst_59 (by decide) ?_
              exact W.iret (v := 4) hx hb hr (fun t ht hW => ⟨⟨4, (), rfl, trivial, by rw [ht]; exact hP, va_K.moved hW.alike hK, hD⟩, hS.F ht⟩) hS.2.2 dX9_ruleAgainst_60
          · skip
            refine lv_iconst (v := 3) hx hb dX9_ruleAgainst_45 (by decide) ?_
            exact W.iret (v := 3) hx hb hr (fun t ht hW => ⟨⟨3, (), rfl, trivial, by rw [ht]; exact hP, va_K.moved hW.alike hK, hD⟩, hS.F ht⟩) hS.2.2 dX9_ruleAgainst_46
        · skip
          refine lv_iconst (v := 2) hx hb dX9_ruleAgainst_35 (by decide) ?_
          exact W.iret (v := 2) hx hb hr (fun t ht hW => ⟨⟨2, (), rfl, trivial, by rw [ht]; exact hP, va_K.moved hW.alike hK, hD⟩, hS.F ht⟩) hS.2.2 dX9_ruleAgainst_36
  · skip
    refine lv_iconst (v := 1) hx hb dX9_ruleAgainst_9 (by decide) ?_
    exact W.iret (v := 1) hx hb hr (fun t ht hW => ⟨⟨1, (), rfl, trivial, by rw [ht]; exact hP, va_K.moved hW.alike hK, hD⟩, hS.F ht⟩) hS.2.2 dX9_ruleAgainst_10

theorem iX8_begin_8 : ∀ w ∈ wsX80, w ∈ wsX8_begin := fun _ h => List.mem_cons_of_mem _ (List.mem_append_right _ h)
set_option maxHeartbeats 4000000 in
set_option maxRecDepth 100000 in
theorem zX8_begin_r (l : Launch) (D : va_G) (x : Nat → Nat) (cy : Nat → ClassId) (g : Nat → Nat → Option Nat) (L : List Nat) (K : Nat → Nat) (hG : GO L K g) (N : Nat → Nat) (n : Nat → Int32) (a : Nat → Nat → Int32) (r : Nat → Nat → Option Nat) (f : Nat → va_E) (hC : CI L K cy N r f) (sz : Nat) (bx rd wk : Nat) (lf : Int32) (mbx : bx ∈ L ∧ K bx = 0) (mrd : rd ∈ L ∧ K rd = 6) (mwk : wk ∈ L ∧ K wk = 8) : Met l yX8_begin wsX8_begin ({ frames := 0, cells := 0, slots := 0, locals := 0 }) (PW D (TYS cy) (XW x cy g N n a r ++ va_pl L f) sz [.ref wk, .ref bx, .ref rd, .int lf]) (va_Qv (fun (u : ST) => CI L K cy u.1 u.2.2.2.1 u.2.2.2.2 ∧ SM N u.1 n u.2.1 ∧ MM N u.1 a u.2.2.1 ∧ True) (BU D (TYS cy) (XW x cy g N n a r ++ va_pl L f) (WC x cy g L) sz) (va_A (XW x cy g N n a r ++ va_pl L f) sz)) 0 0 (va_A (XW x cy g N n a r ++ va_pl L f) sz) := by
  refine Met.ofW (cc := cX8_begin) (maxL := 4) (ret := none) (by decide) rfl ?_
  intro p e s m args below meth c s₁ B hml hv
  obtain ⟨rfl, hsz, hP, hK, hD0⟩ := hv
  have hx := B.exec
  have hb := B.bytes
  have hr := B.returns
  have hts := atoms_spec (ws := wsX8_begin) B.pre
  have hown : s.vm.findClass RX8 = some m.cls := findClass_of_methodNamed B.named
  have hlocks := B.notSynchronized
  subst hsz
  obtain ⟨hNB, hRB, hHT⟩ := hC
  have hSM : SM N N n n := SM_rf
  have hMM : MM N N a a := MM_rf
  have hD := hD0.self (sz := s.heap.size)
  have hA : ∀ q9 : Nat, s.heap.size ≤ q9 → va_A (XW x cy g N n a r ++ va_pl L f) s.heap.size q9 := fun q9 h => Or.inr h
  have hS : va_S (va_A (XW x cy g N n a r ++ va_pl L f) s.heap.size) s.heap s.heap [] := va_S.rf
  have hl := lv_entry ([.ref wk, .ref bx, .ref rd, .int lf]) (n := 4) (Nat.le_of_ble_eq_true rfl)
  rw [lg_entry_eq]
  generalize (lg_sl ([.ref wk, .ref bx, .ref rd, .int lf]) ++ List.replicate (4 - (lg_sl ([.ref wk, .ref bx, .ref rd, .int lf])).length) Slot.unset).toArray = ls at hl ⊢
  have hl : lv_has ls 4 [(0, .ref wk), (1, .ref bx), (2, .ref rd), (3, .int lf)] := hl
  refine lv_aload_n hx hb dX8_begin_0 rfl (lv_at hl 0 rfl) ?_
  refine lv_aload_n hx hb dX8_begin_1 rfl (lv_at hl 1 rfl) ?_
  obtain ⟨b_o1, g_o1, l_o1, hf_o1, sb_o1, sg_o1⟩ : TE L K cy 8 (f wk) := by rw [← mwk.2]; exact hHT wk mwk.1
  refine pg_put (D := D) (ci := 8) (v := .ref bx) (ty := (.object "FondsRoom$Box")) (C := RX8) (T := TX8) (N := 3) hx hb hts iX8_begin_8 tyX8 tyX8_ok nmX8 hown hK hP hD hS mwk.1 hf_o1 rfl 0 (by decide) (hts (.fieldLink RX8 7 "FondsRoom$Worker" "box" "LFondsRoom$Box;") (by decide +kernel)) (fun _ h9 => h9) rfl (by decide +kernel) rfl rfl (Nat.le_of_ble_eq_true rfl) dX8_begin_2 (fun H locs hP hD hS => ?_)
  obtain ⟨f2, ef2⟩ : ∃ z, z = va_up f wk (.inr (8, [.ref bx, va_rf g_o1, .int l_o1])) := ⟨_, rfl⟩
  have hP : va_P D vwCl (XW x cy g N n a r ++ va_pl L f2) H := by rw [ef2]; exact hP
  have hD : va_D (va_A (XW x cy g N n a r ++ va_pl L f) s.heap.size) (XW x cy g N n a r ++ va_pl L f2) := by rw [ef2]; exact hD
  have hHT : HT L K cy f2 := by rw [ef2]; exact HT_up hHT 8 mwk.2 ⟨(some bx), g_o1, l_o1, rfl, (rok_some mbx.1 mbx.2), sg_o1⟩
  have hf3 : f2 wk = .inr (8, [.ref bx, va_rf g_o1, .int l_o1]) := by rw [ef2]; exact va_up_self _ _ _
  refine lv_aload_n hx hb dX8_begin_5 rfl (lv_at hl 0 rfl) ?_
  refine lv_aload_n hx hb dX8_begin_6 rfl (lv_at hl 2 rfl) ?_
  refine pg_put (D := D) (ci := 8) (v := .ref rd) (ty := (.object "FondsRoom$Reader")) (C := RX8) (T := TX8) (N := 3) hx hb hts iX8_begin_8 tyX8 tyX8_ok nmX8 hown hK hP hD hS mwk.1 hf3 rfl 1 (by decide) (hts (.fieldLink RX8 13 "FondsRoom$Worker" "goal" "LFondsRoom$Reader;") (by decide +kernel)) (fun _ h9 => h9) rfl (by decide +kernel) rfl rfl (Nat.le_of_ble_eq_true rfl) dX8_begin_7 (fun H locs hP hD hS => ?_)
  obtain ⟨f4, ef4⟩ : ∃ z, z = va_up f2 wk (.inr (8, [.ref bx, .ref rd, .int l_o1])) := ⟨_, rfl⟩
  have hP : va_P D vwCl (XW x cy g N n a r ++ va_pl L f4) H := by rw [ef4]; exact hP
  have hD : va_D (va_A (XW x cy g N n a r ++ va_pl L f) s.heap.size) (XW x cy g N n a r ++ va_pl L f4) := by rw [ef4]; exact hD
  have hHT : HT L K cy f4 := by rw [ef4]; exact HT_up hHT 8 mwk.2 ⟨(some bx), (some rd), l_o1, rfl, (rok_some mbx.1 mbx.2), (rok_some mrd.1 mrd.2)⟩
  have hf5 : f4 wk = .inr (8, [.ref bx, .ref rd, .int l_o1]) := by rw [ef4]; exact va_up_self _ _ _
  refine lv_aload_n hx hb dX8_begin_10 rfl (lv_at hl 0 rfl) ?_
  refine lv_iload_n hx hb dX8_begin_11 rfl (lv_at hl 3 rfl) ?_
  refine pg_put (D := D) (ci := 8) (v := .int lf) (ty := .int) (C := RX8) (T := TX8) (N := 3) hx hb hts iX8_begin_8 tyX8 tyX8_ok nmX8 hown hK hP hD hS mwk.1 hf5 rfl 2 (by decide) (hts (.fieldLink RX8 17 "FondsRoom$Worker" "left" "I") (by decide +kernel)) (fun _ h9 => h9) rfl (by decide +kernel) rfl rfl (Nat.le_of_ble_eq_true rfl) dX8_begin_12 (fun H locs hP hD hS => ?_)
  obtain ⟨f6, ef6⟩ : ∃ z, z = va_up f4 wk (.inr (8, [.ref bx, .ref rd, .int lf])) := ⟨_, rfl⟩
  have hP : va_P D vwCl (XW x cy g N n a r ++ va_pl L f6) H := by rw [ef6]; exact hP
  have hD : va_D (va_A (XW x cy g N n a r ++ va_pl L f) s.heap.size) (XW x cy g N n a r ++ va_pl L f6) := by rw [ef6]; exact hD
  have hHT : HT L K cy f6 := by rw [ef6]; exact HT_up hHT 8 mwk.2 ⟨(some bx), (some rd), lf, rfl, (rok_some mbx.1 mbx.2), (rok_some mrd.1 mrd.2)⟩
  have hf7 : f6 wk = .inr (8, [.ref bx, .ref rd, .int lf]) := by rw [ef6]; exact va_up_self _ _ _
  exact W.vret hx hb hr (fun t ht hW => ⟨⟨(N, n, a, r, f6), rfl, ⟨⟨hNB, hRB, hHT⟩, hSM, hMM, trivial⟩, by rw [ht]; exact hP, va_K.moved hW.alike hK, hD⟩, hS.F ht⟩) hS.2.2 dX8_begin_15

set_option maxHeartbeats 4000000 in
set_option maxRecDepth 100000 in
theorem zX8_begin_n (l : Launch) (D : va_G) (x : Nat → Nat) (cy : Nat → ClassId) (g : Nat → Nat → Option Nat) (L : List Nat) (K : Nat → Nat) (hG : GO L K g) (N : Nat → Nat) (n : Nat → Int32) (a : Nat → Nat → Int32) (r : Nat → Nat → Option Nat) (f : Nat → va_E) (hC : CI L K cy N r f) (sz : Nat) (bx wk : Nat) (lf : Int32) (mbx : bx ∈ L ∧ K bx = 0) (mwk : wk ∈ L ∧ K wk = 8) : Met l yX8_begin wsX8_begin ({ frames := 0, cells := 0, slots := 0, locals := 0 }) (PW D (TYS cy) (XW x cy g N n a r ++ va_pl L f) sz [.ref wk, .ref bx, .null, .int lf]) (va_Qv (fun (u : ST) => CI L K cy u.1 u.2.2.2.1 u.2.2.2.2 ∧ SM N u.1 n u.2.1 ∧ MM N u.1 a u.2.2.1 ∧ True) (BU D (TYS cy) (XW x cy g N n a r ++ va_pl L f) (WC x cy g L) sz) (va_A (XW x cy g N n a r ++ va_pl L f) sz)) 0 0 (va_A (XW x cy g N n a r ++ va_pl L f) sz) := by
  refine Met.ofW (cc := cX8_begin) (maxL := 4) (ret := none) (by decide) rfl ?_
  intro p e s m args below meth c s₁ B hml hv
  obtain ⟨rfl, hsz, hP, hK, hD0⟩ := hv
  have hx := B.exec
  have hb := B.bytes
  have hr := B.returns
  have hts := atoms_spec (ws := wsX8_begin) B.pre
  have hown : s.vm.findClass RX8 = some m.cls := findClass_of_methodNamed B.named
  have hlocks := B.notSynchronized
  subst hsz
  obtain ⟨hNB, hRB, hHT⟩ := hC
  have hSM : SM N N n n := SM_rf
  have hMM : MM N N a a := MM_rf
  have hD := hD0.self (sz := s.heap.size)
  have hA : ∀ q9 : Nat, s.heap.size ≤ q9 → va_A (XW x cy g N n a r ++ va_pl L f) s.heap.size q9 := fun q9 h => Or.inr h
  have hS : va_S (va_A (XW x cy g N n a r ++ va_pl L f) s.heap.size) s.heap s.heap [] := va_S.rf
  have hl := lv_entry ([.ref wk, .ref bx, .null, .int lf]) (n := 4) (Nat.le_of_ble_eq_true rfl)
  rw [lg_entry_eq]
  generalize (lg_sl ([.ref wk, .ref bx, .null, .int lf]) ++ List.replicate (4 - (lg_sl ([.ref wk, .ref bx, .null, .int lf])).length) Slot.unset).toArray = ls at hl ⊢
  have hl : lv_has ls 4 [(0, .ref wk), (1, .ref bx), (2, .null), (3, .int lf)] := hl
  refine lv_aload_n hx hb dX8_begin_0 rfl (lv_at hl 0 rfl) ?_
  refine lv_aload_n hx hb dX8_begin_1 rfl (lv_at hl 1 rfl) ?_
  obtain ⟨b_o1, g_o1, l_o1, hf_o1, sb_o1, sg_o1⟩ : TE L K cy 8 (f wk) := by rw [← mwk.2]; exact hHT wk mwk.1
  refine pg_put (D := D) (ci := 8) (v := .ref bx) (ty := (.object "FondsRoom$Box")) (C := RX8) (T := TX8) (N := 3) hx hb hts iX8_begin_8 tyX8 tyX8_ok nmX8 hown hK hP hD hS mwk.1 hf_o1 rfl 0 (by decide) (hts (.fieldLink RX8 7 "FondsRoom$Worker" "box" "LFondsRoom$Box;") (by decide +kernel)) (fun _ h9 => h9) rfl (by decide +kernel) rfl rfl (Nat.le_of_ble_eq_true rfl) dX8_begin_2 (fun H locs hP hD hS => ?_)
  obtain ⟨f2, ef2⟩ : ∃ z, z = va_up f wk (.inr (8, [.ref bx, va_rf g_o1, .int l_o1])) := ⟨_, rfl⟩
  have hP : va_P D vwCl (XW x cy g N n a r ++ va_pl L f2) H := by rw [ef2]; exact hP
  have hD : va_D (va_A (XW x cy g N n a r ++ va_pl L f) s.heap.size) (XW x cy g N n a r ++ va_pl L f2) := by rw [ef2]; exact hD
  have hHT : HT L K cy f2 := by rw [ef2]; exact HT_up hHT 8 mwk.2 ⟨(some bx), g_o1, l_o1, rfl, (rok_some mbx.1 mbx.2), sg_o1⟩
  have hf3 : f2 wk = .inr (8, [.ref bx, va_rf g_o1, .int l_o1]) := by rw [ef2]; exact va_up_self _ _ _
  refine lv_aload_n hx hb dX8_begin_5 rfl (lv_at hl 0 rfl) ?_
  refine lv_aload_nN hx hb dX8_begin_6 rfl (lv_at hl 2 rfl) ?_
  refine pg_put (D := D) (ci := 8) (v := .null) (ty := (.object "FondsRoom$Reader")) (C := RX8) (T := TX8) (N := 3) hx hb hts iX8_begin_8 tyX8 tyX8_ok nmX8 hown hK hP hD hS mwk.1 hf3 rfl 1 (by decide) (hts (.fieldLink RX8 13 "FondsRoom$Worker" "goal" "LFondsRoom$Reader;") (by decide +kernel)) (fun _ h9 => h9) rfl (by decide +kernel) rfl rfl (Nat.le_of_ble_eq_true rfl) dX8_begin_7 (fun H locs hP hD hS => ?_)
  obtain ⟨f4, ef4⟩ : ∃ z, z = va_up f2 wk (.inr (8, [.ref bx, .null, .int l_o1])) := ⟨_, rfl⟩
  have hP : va_P D vwCl (XW x cy g N n a r ++ va_pl L f4) H := by rw [ef4]; exact hP
  have hD : va_D (va_A (XW x cy g N n a r ++ va_pl L f) s.heap.size) (XW x cy g N n a r ++ va_pl L f4) := by rw [ef4]; exact hD
  have hHT : HT L K cy f4 := by rw [ef4]; exact HT_up hHT 8 mwk.2 ⟨(some bx), none, l_o1, rfl, (rok_some mbx.1 mbx.2), rok_none⟩
  have hf5 : f4 wk = .inr (8, [.ref bx, .null, .int l_o1]) := by rw [ef4]; exact va_up_self _ _ _
  refine lv_aload_n hx hb dX8_begin_10 rfl (lv_at hl 0 rfl) ?_
  refine lv_iload_n hx hb dX8_begin_11 rfl (lv_at hl 3 rfl) ?_
  refine pg_put (D := D) (ci := 8) (v := .int lf) (ty := .int) (C := RX8) (T := TX8) (N := 3) hx hb hts iX8_begin_8 tyX8 tyX8_ok nmX8 hown hK hP hD hS mwk.1 hf5 rfl 2 (by decide) (hts (.fieldLink RX8 17 "FondsRoom$Worker" "left" "I") (by decide +kernel)) (fun _ h9 => h9) rfl (by decide +kernel) rfl rfl (Nat.le_of_ble_eq_true rfl) dX8_begin_12 (fun H locs hP hD hS => ?_)
  obtain ⟨f6, ef6⟩ : ∃ z, z = va_up f4 wk (.inr (8, [.ref bx, .null, .int lf])) := ⟨_, rfl⟩
  have hP : va_P D vwCl (XW x cy g N n a r ++ va_pl L f6) H := by rw [ef6]; exact hP
  have hD : va_D (va_A (XW x cy g N n a r ++ va_pl L f) s.heap.size) (XW x cy g N n a r ++ va_pl L f6) := by rw [ef6]; exact hD
  have hHT : HT L K cy f6 := by rw [ef6]; exact HT_up hHT 8 mwk.2 ⟨(some bx), none, lf, rfl, (rok_some mbx.1 mbx.2), rok_none⟩
  have hf7 : f6 wk = .inr (8, [.ref bx, .null, .int lf]) := by rw [ef6]; exact va_up_self _ _ _
  exact W.vret hx hb hr (fun t ht hW => ⟨⟨(N, n, a, r, f6), rfl, ⟨⟨hNB, hRB, hHT⟩, hSM, hMM, trivial⟩, by rw [ht]; exact hP, va_K.moved hW.alike hK, hD⟩, hS.F ht⟩) hS.2.2 dX8_begin_15

theorem iX9_refuse_6 : ∀ w ∈ wsX60, w ∈ wsX9_refuse := fun _ h => List.mem_cons_of_mem _ (List.mem_append_left _ (List.mem_append_left _ (List.mem_append_left _ (List.mem_append_right _ h))))
theorem iX9_refuse_9 : ∀ w ∈ wsX90, w ∈ wsX9_refuse := fun _ h => List.mem_cons_of_mem _ (List.mem_append_left _ (List.mem_append_left _ (List.mem_append_right _ h)))
set_option maxHeartbeats 4000000 in
set_option maxRecDepth 100000 in
theorem zX9_refuse (l : Launch) (D : va_G) (x : Nat → Nat) (cy : Nat → ClassId) (g : Nat → Nat → Option Nat) (L : List Nat) (K : Nat → Nat) (hG : GO L K g) (N : Nat → Nat) (n : Nat → Int32) (a : Nat → Nat → Int32) (r : Nat → Nat → Option Nat) (f : Nat → va_E) (hC : CI L K cy N r f) (sz : Nat) (rd : Nat) (ru : Int32) (mrd : rd ∈ L ∧ K rd = 6) : Met l yX9_refuse wsX9_refuse ({ frames := 1, cells := 0, slots := 0, locals := 25 }) (PW D (TYS cy) (XW x cy g N n a r ++ va_pl L f) sz [.ref (x 0), .ref rd, .int ru]) (va_Qv (fun (u : ST) => CI L K cy u.1 u.2.2.2.1 u.2.2.2.2 ∧ SM N u.1 n u.2.1 ∧ MM N u.1 a u.2.2.1 ∧ True) (BU D (TYS cy) (XW x cy g N n a r ++ va_pl L f) (WC x cy g L) sz) (va_A (XW x cy g N n a r ++ va_pl L f) sz)) 0 0 (va_A (XW x cy g N n a r ++ va_pl L f) sz) := by
  refine Met.ofW (cc := cX9_refuse) (maxL := 3) (ret := none) (by decide) rfl ?_
  intro p e s m args below meth c s₁ B hml hv
  obtain ⟨rfl, hsz, hP, hK, hD0⟩ := hv
  have hx := B.exec
  have hb := B.bytes
  have hr := B.returns
  have hts := atoms_spec (ws := wsX9_refuse) B.pre
  have hown : s.vm.findClass RX9 = some m.cls := findClass_of_methodNamed B.named
  have hlocks := B.notSynchronized
  subst hsz
  obtain ⟨hNB, hRB, hHT⟩ := hC
  have hSM : SM N N n n := SM_rf
  have hMM : MM N N a a := MM_rf
  have hD := hD0.self (sz := s.heap.size)
  have hA : ∀ q9 : Nat, s.heap.size ≤ q9 → va_A (XW x cy g N n a r ++ va_pl L f) s.heap.size q9 := fun q9 h => Or.inr h
  have hS : va_S (va_A (XW x cy g N n a r ++ va_pl L f) s.heap.size) s.heap s.heap [] := va_S.rf
  have hl := lv_entry ([.ref (x 0), .ref rd, .int ru]) (n := 3) (Nat.le_of_ble_eq_true rfl)
  rw [lg_entry_eq]
  generalize (lg_sl ([.ref (x 0), .ref rd, .int ru]) ++ List.replicate (3 - (lg_sl ([.ref (x 0), .ref rd, .int ru])).length) Slot.unset).toArray = ls at hl ⊢
  have hl : lv_has ls 3 [(0, .ref (x 0)), (1, .ref rd), (2, .int ru)] := hl
  refine lv_aload_n hx hb dX9_refuse_0 rfl (lv_at hl 1 rfl) ?_
  obtain ⟨n_o1, p_o1, ar_o1, rk_o1, nw_o1, st_o1, ct_o1, d_o1, aw_o1, rl_o1, cp_o1, cu_o1, w1_o1, w2_o1, w3_o1, ov_o1, co_o1, hf_o1, sp_o1, snw_o1, sd_o1, saw_o1, scu_o1⟩ : TE L K cy 6 (f rd) := by rw [← mrd.2]; exact hHT rd mrd.1
  refine pg_get (D := D) (ci := 6) (v := .ref p_o1) (C := RX6) (T := TX6) (N := 17) hx hb hts iX9_refuse_6 hown hK hP mrd.1 hf_o1 rfl 1 (by decide) (hts (.fieldLink RX9 135 "FondsRoom$Reader" "plan" "LFondsRoom$Plan;") (by decide +kernel)) (fun _ h9 => h9) rfl dX9_refuse_1 ?_
  refine lv_iload_n hx hb dX9_refuse_4 rfl (lv_at hl 2 rfl) ?_
  obtain ⟨k1_o4, k2_o4, k3_o4, k4_o4, k5_o4, sz_o4, bg_o4, rf_o4, hf_o4, sk1_o4, sk2_o4, sk3_o4, sk4_o4, sk5_o4, ssz_o4, sbg_o4, srf_o4⟩ : TE L K cy 5 (f p_o1) := by rw [← sp_o1.2]; exact hHT p_o1 sp_o1.1
  refine gvV (As := [.int ru]) (rest := []) ⟨hx, hb, hml, hown, hts⟩ (zX5_noteRefusal l D x cy g L K hG N n a r f ⟨hNB, hRB, hHT⟩ _ p_o1 ru ⟨sp_o1.1, sp_o1.2⟩) (cwV 1 hts gX9_refuse_X5_noteRefusal rfl rfl rfl (by decide +kernel) ⟨Nat.le_of_ble_eq_true rfl, Nat.le_of_ble_eq_true rfl⟩) hK hP hD hS hA (pl_recv hK hP (ci := 5) rfl sp_o1.1 hf_o4) rfl hl.1 rfl (Nat.le_of_ble_eq_true rfl) dX9_refuse_5 ⟨Nat.le_of_ble_eq_true rfl, Nat.le_of_ble_eq_true rfl⟩ (fun u3 H locs hq2 hP hD hS => ?_)
  obtain ⟨N5, n6, a7, r8, f9⟩ := u3
  obtain ⟨⟨hNB, hRB, hHT⟩, hs10, hv11, hq2b⟩ := hq2
  have hSM : SM N N5 n n6 := SM_tr hSM hs10
  have hMM : MM N N5 a a7 := MM_tr hMM hv11
  have hP : va_P D vwCl (XW x cy g N5 n6 a7 r8 ++ va_pl L f9) H := hP
  have hD : va_D _ (XW x cy g N5 n6 a7 r8 ++ va_pl L f9) := hD
  refine lv_aload_n hx hb dX9_refuse_8 rfl (lv_at hl 0 rfl) ?_
  refine va_get (D := D) (ci := 9) (v := .ref (x 18)) (C := RX9) (T := TX9) (N := 19) hx hb hts iX9_refuse_9 hown hK hP 0 rfl rfl 9 (by decide) (hts (.fieldLink RX9 67 "FondsRoom" "events" "LFondsRoom$Events;") (by decide +kernel)) (fun _ h9 => h9) rfl dX9_refuse_9 ?_
  refine lv_aload_n hx hb dX9_refuse_12 rfl (lv_at hl 0 rfl) ?_
  refine va_get (D := D) (ci := 9) (v := .int (n6 1)) (C := RX9) (T := TX9) (N := 19) hx hb hts iX9_refuse_9 hown hK hP 0 rfl rfl 14 (by decide) (hts (.fieldLink RX9 78 "FondsRoom" "turn" "I") (by decide +kernel)) (fun _ h9 => h9) rfl dX9_refuse_13 ?_
  refine lv_aload_n hx hb dX9_refuse_16 rfl (lv_at hl 1 rfl) ?_
  obtain ⟨n_o12, p_o12, ar_o12, rk_o12, nw_o12, st_o12, ct_o12, d_o12, aw_o12, rl_o12, cp_o12, cu_o12, w1_o12, w2_o12, w3_o12, ov_o12, co_o12, hf_o12, sp_o12, snw_o12, sd_o12, saw_o12, scu_o12⟩ : TE L K cy 6 (f9 rd) := by rw [← mrd.2]; exact hHT rd mrd.1
  refine pg_get (D := D) (ci := 6) (v := .int n_o12) (C := RX6) (T := TX6) (N := 17) hx hb hts iX9_refuse_6 hown hK hP mrd.1 hf_o12 rfl 0 (by decide) (hts (.fieldLink RX9 273 "FondsRoom$Reader" "number" "I") (by decide +kernel)) (fun _ h9 => h9) rfl dX9_refuse_17 ?_
  refine lv_iconst (v := 4) hx hb dX9_refuse_20 (by decide) ?_
  refine lv_iload_n hx hb dX9_refuse_21 rfl (lv_at hl 2 rfl) ?_
  refine gvV (As := [.int (n6 1), .int n_o12, .int 4, .int ru]) (rest := []) ⟨hx, hb, hml, hown, hts⟩ (zX2_keep l D x cy g L K hG N5 n6 a7 r8 f9 ⟨hNB, hRB, hHT⟩ _  (n6 1) n_o12 4 ru ) (cwV 4 hts gX9_refuse_X2_keep rfl rfl rfl (by decide +kernel) ⟨Nat.le_of_ble_eq_true rfl, Nat.le_of_ble_eq_true rfl⟩) hK hP hD hS hA (va_recv hK hP (ci := 2) (q0 := 18) rfl rfl) rfl hl.1 rfl (Nat.le_of_ble_eq_true rfl) dX9_refuse_22 ⟨Nat.le_of_ble_eq_true rfl, Nat.le_of_ble_eq_true rfl⟩ (fun u14 H locs hq13 hP hD hS => ?_)
  obtain ⟨N15, n16, a17, r18, f19⟩ := u14
  obtain ⟨⟨hNB, hRB, hHT⟩, hs20, hv21, hq13b⟩ := hq13
  have hSM : SM N N15 n n16 := SM_tr hSM hs20
  have hMM : MM N N15 a a17 := MM_tr hMM hv21
  have hP : va_P D vwCl (XW x cy g N15 n16 a17 r18 ++ va_pl L f19) H := hP
  have hD : va_D _ (XW x cy g N15 n16 a17 r18 ++ va_pl L f19) := hD
  exact W.vret hx hb hr (fun t ht hW => ⟨⟨(N15, n16, a17, r18, f19), rfl, ⟨⟨hNB, hRB, hHT⟩, hSM, hMM, trivial⟩, by rw [ht]; exact hP, va_K.moved hW.alike hK, hD⟩, hS.F ht⟩) hS.2.2 dX9_refuse_25

theorem iX9_giveBack_0 : ∀ w ∈ wsX00, w ∈ wsX9_giveBack := fun _ h => List.mem_cons_of_mem _ (List.mem_append_left _ (List.mem_append_left _ (List.mem_append_left _ (List.mem_append_left _ (List.mem_append_right _ h)))))
theorem iX9_giveBack_6 : ∀ w ∈ wsX60, w ∈ wsX9_giveBack := fun _ h => List.mem_cons_of_mem _ (List.mem_append_left _ (List.mem_append_left _ (List.mem_append_right _ h)))
theorem iX9_giveBack_9 : ∀ w ∈ wsX90, w ∈ wsX9_giveBack := fun _ h => List.mem_cons_of_mem _ (List.mem_append_left _ (List.mem_append_left _ (List.mem_append_left _ (List.mem_append_right _ h))))
set_option maxHeartbeats 4000000 in
set_option maxRecDepth 100000 in
theorem zX9_giveBack (l : Launch) (D : va_G) (x : Nat → Nat) (cy : Nat → ClassId) (g : Nat → Nat → Option Nat) (L : List Nat) (K : Nat → Nat) (hG : GO L K g) (N : Nat → Nat) (n : Nat → Int32) (a : Nat → Nat → Int32) (r : Nat → Nat → Option Nat) (f : Nat → va_E) (hC : CI L K cy N r f) (sz : Nat) (rd bx : Nat) (mrd : rd ∈ L ∧ K rd = 6) (mbx : bx ∈ L ∧ K bx = 0) : Met l yX9_giveBack wsX9_giveBack ({ frames := 2, cells := 0, slots := 0, locals := 47 }) (PW D (TYS cy) (XW x cy g N n a r ++ va_pl L f) sz [.ref (x 0), .ref rd, .ref bx]) (va_Qv (fun (u : ST) => CI L K cy u.1 u.2.2.2.1 u.2.2.2.2 ∧ SM N u.1 n u.2.1 ∧ MM N u.1 a u.2.2.1 ∧ True) (BU D (TYS cy) (XW x cy g N n a r ++ va_pl L f) (WC x cy g L) sz) (va_A (XW x cy g N n a r ++ va_pl L f) sz)) 0 0 (va_A (XW x cy g N n a r ++ va_pl L f) sz) := by
  refine Met.ofW (cc := cX9_giveBack) (maxL := 3) (ret := none) (by decide) rfl ?_
  intro p e s m args below meth c s₁ B hml hv
  obtain ⟨rfl, hsz, hP, hK, hD0⟩ := hv
  have hx := B.exec
  have hb := B.bytes
  have hr := B.returns
  have hts := atoms_spec (ws := wsX9_giveBack) B.pre
  have hown : s.vm.findClass RX9 = some m.cls := findClass_of_methodNamed B.named
  have hlocks := B.notSynchronized
  subst hsz
  obtain ⟨hNB, hRB, hHT⟩ := hC
  have hSM : SM N N n n := SM_rf
  have hMM : MM N N a a := MM_rf
  have hD := hD0.self (sz := s.heap.size)
  have hA : ∀ q9 : Nat, s.heap.size ≤ q9 → va_A (XW x cy g N n a r ++ va_pl L f) s.heap.size q9 := fun q9 h => Or.inr h
  have hS : va_S (va_A (XW x cy g N n a r ++ va_pl L f) s.heap.size) s.heap s.heap [] := va_S.rf
  have hl := lv_entry ([.ref (x 0), .ref rd, .ref bx]) (n := 3) (Nat.le_of_ble_eq_true rfl)
  rw [lg_entry_eq]
  generalize (lg_sl ([.ref (x 0), .ref rd, .ref bx]) ++ List.replicate (3 - (lg_sl ([.ref (x 0), .ref rd, .ref bx])).length) Slot.unset).toArray = ls at hl ⊢
  have hl : lv_has ls 3 [(0, .ref (x 0)), (1, .ref rd), (2, .ref bx)] := hl
  refine lv_aload_n hx hb dX9_giveBack_0 rfl (lv_at hl 2 rfl) ?_
  obtain ⟨n_o1, fo_o1, pr_o1, pl_o1, h_o1, w_o1, hf_o1, spr_o1, sh_o1, sw_o1⟩ : TE L K cy 0 (f bx) := by rw [← mbx.2]; exact hHT bx mbx.1
  refine pg_get (D := D) (ci := 0) (v := va_rf h_o1) (C := RX0) (T := TX0) (N := 6) hx hb hts iX9_giveBack_0 hown hK hP mbx.1 hf_o1 rfl 4 (by decide) (hts (.fieldLink RX9 239 "FondsRoom$Box" "holder" "LFondsRoom$Reader;") (by decide +kernel)) (fun _ h9 => h9) rfl dX9_giveBack_1 ?_
  refine lv_aload_n hx hb dX9_giveBack_4 rfl (lv_at hl 1 rfl) ?_
  refine lv_acmp_eq (rx := h_o1) (ry := (some rd)) (tgt := 15) hx hb dX9_giveBack_5 (by decide) (fun c2 => ?_) (fun c2 => ?_)
  · skip
    refine lv_aload_n hx hb dX9_giveBack_15 rfl (lv_at hl 2 rfl) ?_
    refine lv_null hx hb dX9_giveBack_16 ?_
    refine pg_put (D := D) (ci := 0) (v := .null) (ty := (.object "FondsRoom$Reader")) (C := RX0) (T := TX0) (N := 6) hx hb hts iX9_giveBack_0 tyX0 tyX0_ok nmX0 hown hK hP hD hS mbx.1 hf_o1 rfl 4 (by decide) (hts (.fieldLink RX9 239 "FondsRoom$Box" "holder" "LFondsRoom$Reader;") (by decide +kernel)) (fun _ h9 => h9) rfl (by decide +kernel) rfl rfl (Nat.le_of_ble_eq_true rfl) dX9_giveBack_17 (fun H locs hP hD hS => ?_)
    obtain ⟨f3, ef3⟩ : ∃ z, z = va_up f bx (.inr (0, [.int n_o1, .int fo_o1, .int pr_o1, .int pl_o1, .null, va_rf w_o1])) := ⟨_, rfl⟩
    have hP : va_P D vwCl (XW x cy g N n a r ++ va_pl L f3) H := by rw [ef3]; exact hP
    have hD : va_D (va_A (XW x cy g N n a r ++ va_pl L f) s.heap.size) (XW x cy g N n a r ++ va_pl L f3) := by rw [ef3]; exact hD
    have hHT : HT L K cy f3 := by rw [ef3]; exact HT_up hHT 0 mbx.2 ⟨n_o1, fo_o1, pr_o1, pl_o1, none, w_o1, rfl, spr_o1, rok_none, sw_o1⟩
    have hf4 : f3 bx = .inr (0, [.int n_o1, .int fo_o1, .int pr_o1, .int pl_o1, .null, va_rf w_o1]) := by rw [ef3]; exact va_up_self _ _ _
    refine lv_aload_n hx hb dX9_giveBack_20 rfl (lv_at hl 2 rfl) ?_
    refine lv_iconst (v := 2) hx hb dX9_giveBack_21 (by decide) ?_
    refine pg_put (D := D) (ci := 0) (v := .int 2) (ty := .int) (C := RX0) (T := TX0) (N := 6) hx hb hts iX9_giveBack_0 tyX0 tyX0_ok nmX0 hown hK hP hD hS mbx.1 hf4 rfl 3 (by decide) (hts (.fieldLink RX9 233 "FondsRoom$Box" "place" "I") (by decide +kernel)) (fun _ h9 => h9) rfl (by decide +kernel) rfl rfl (Nat.le_of_ble_eq_true rfl) dX9_giveBack_22 (fun H locs hP hD hS => ?_)
    obtain ⟨f5, ef5⟩ : ∃ z, z = va_up f3 bx (.inr (0, [.int n_o1, .int fo_o1, .int pr_o1, .int 2, .null, va_rf w_o1])) := ⟨_, rfl⟩
    have hP : va_P D vwCl (XW x cy g N n a r ++ va_pl L f5) H := by rw [ef5]; exact hP
    have hD : va_D (va_A (XW x cy g N n a r ++ va_pl L f) s.heap.size) (XW x cy g N n a r ++ va_pl L f5) := by rw [ef5]; exact hD
    have hHT : HT L K cy f5 := by rw [ef5]; exact HT_up hHT 0 mbx.2 ⟨n_o1, fo_o1, pr_o1, 2, none, w_o1, rfl, spr_o1, rok_none, sw_o1⟩
    have hf6 : f5 bx = .inr (0, [.int n_o1, .int fo_o1, .int pr_o1, .int 2, .null, va_rf w_o1]) := by rw [ef5]; exact va_up_self _ _ _
    refine lv_aload_n hx hb dX9_giveBack_25 rfl (lv_at hl 0 rfl) ?_
    refine va_get (D := D) (ci := 9) (v := .ref (x 18)) (C := RX9) (T := TX9) (N := 19) hx hb hts iX9_giveBack_9 hown hK hP 0 rfl rfl 9 (by decide) (hts (.fieldLink RX9 67 "FondsRoom" "events" "LFondsRoom$Events;") (by decide +kernel)) (fun _ h9 => h9) rfl dX9_giveBack_26 ?_
    refine lv_aload_n hx hb dX9_giveBack_29 rfl (lv_at hl 0 rfl) ?_
    refine va_get (D := D) (ci := 9) (v := .int (n 1)) (C := RX9) (T := TX9) (N := 19) hx hb hts iX9_giveBack_9 hown hK hP 0 rfl rfl 14 (by decide) (hts (.fieldLink RX9 78 "FondsRoom" "turn" "I") (by decide +kernel)) (fun _ h9 => h9) rfl dX9_giveBack_30 ?_
    refine lv_aload_n hx hb dX9_giveBack_33 rfl (lv_at hl 1 rfl) ?_
    obtain ⟨n_o7, p_o7, ar_o7, rk_o7, nw_o7, st_o7, ct_o7, d_o7, aw_o7, rl_o7, cp_o7, cu_o7, w1_o7, w2_o7, w3_o7, ov_o7, co_o7, hf_o7, sp_o7, snw_o7, sd_o7, saw_o7, scu_o7⟩ : TE L K cy 6 (f5 rd) := by rw [← mrd.2]; exact hHT rd mrd.1
    refine pg_get (D := D) (ci := 6) (v := .int n_o7) (C := RX6) (T := TX6) (N := 17) hx hb hts iX9_giveBack_6 hown hK hP mrd.1 hf_o7 rfl 0 (by decide) (hts (.fieldLink RX9 273 "FondsRoom$Reader" "number" "I") (by decide +kernel)) (fun _ h9 => h9) rfl dX9_giveBack_34 ?_
    refine lv_bipush (v := 7) hx hb dX9_giveBack_37 (by decide) ?_
    refine lv_aload_n hx hb dX9_giveBack_39 rfl (lv_at hl 2 rfl) ?_
    refine pg_get (D := D) (ci := 0) (v := .int n_o1) (C := RX0) (T := TX0) (N := 6) hx hb hts iX9_giveBack_0 hown hK hP mbx.1 hf6 rfl 0 (by decide) (hts (.fieldLink RX9 253 "FondsRoom$Box" "number" "I") (by decide +kernel)) (fun _ h9 => h9) rfl dX9_giveBack_40 ?_
    refine gvV (As := [.int (n 1), .int n_o7, .int 7, .int n_o1]) (rest := []) ⟨hx, hb, hml, hown, hts⟩ (zX2_keep l D x cy g L K hG N n a r f5 ⟨hNB, hRB, hHT⟩ _  (n 1) n_o7 7 n_o1 ) (cwV 4 hts gX9_giveBack_X2_keep rfl rfl rfl (by decide +kernel) ⟨Nat.le_of_ble_eq_true rfl, Nat.le_of_ble_eq_true rfl⟩) hK hP hD hS hA (va_recv hK hP (ci := 2) (q0 := 18) rfl rfl) rfl hl.1 rfl (Nat.le_of_ble_eq_true rfl) dX9_giveBack_43 ⟨Nat.le_of_ble_eq_true rfl, Nat.le_of_ble_eq_true rfl⟩ (fun u9 H locs hq8 hP hD hS => ?_)
    obtain ⟨N10, n11, a12, r13, f14⟩ := u9
    obtain ⟨⟨hNB, hRB, hHT⟩, hs15, hv16, hq8b⟩ := hq8
    have hSM : SM N N10 n n11 := SM_tr hSM hs15
    have hMM : MM N N10 a a12 := MM_tr hMM hv16
    have hP : va_P D vwCl (XW x cy g N10 n11 a12 r13 ++ va_pl L f14) H := hP
    have hD : va_D _ (XW x cy g N10 n11 a12 r13 ++ va_pl L f14) := hD
    exact W.vret hx hb hr (fun t ht hW => ⟨⟨(N10, n11, a12, r13, f14), rfl, ⟨⟨hNB, hRB, hHT⟩, hSM, hMM, trivial⟩, by rw [ht]; exact hP, va_K.moved hW.alike hK, hD⟩, hS.F ht⟩) hS.2.2 dX9_giveBack_46
  · skip
    refine lv_aload_n hx hb dX9_giveBack_8 rfl (lv_at hl 0 rfl) ?_
    refine lv_aload_n hx hb dX9_giveBack_9 rfl (lv_at hl 1 rfl) ?_
    refine lv_iconst (v := 5) hx hb dX9_giveBack_10 (by decide) ?_
    refine gvV (As := [.ref rd, .int 5]) (rest := []) ⟨hx, hb, hml, hown, hts⟩ (zX9_refuse l D x cy g L K hG N n a r f ⟨hNB, hRB, hHT⟩ _ rd 5 ⟨mrd.1, mrd.2⟩) (cwV 2 hts gX9_giveBack_X9_refuse rfl rfl rfl (by decide +kernel) ⟨Nat.le_of_ble_eq_true rfl, Nat.le_of_ble_eq_true rfl⟩) hK hP hD hS hA (va_recv hK hP (ci := 9) (q0 := 0) rfl rfl) rfl hl.1 rfl (Nat.le_of_ble_eq_true rfl) dX9_giveBack_11 ⟨Nat.le_of_ble_eq_true rfl, Nat.le_of_ble_eq_true rfl⟩ (fun u18 H locs hq17 hP hD hS => ?_)
    obtain ⟨N19, n20, a21, r22, f23⟩ := u18
    obtain ⟨⟨hNB, hRB, hHT⟩, hs24, hv25, hq17b⟩ := hq17
    have hSM : SM N N19 n n20 := SM_tr hSM hs24
    have hMM : MM N N19 a a21 := MM_tr hMM hv25
    have hP : va_P D vwCl (XW x cy g N19 n20 a21 r22 ++ va_pl L f23) H := hP
    have hD : va_D _ (XW x cy g N19 n20 a21 r22 ++ va_pl L f23) := hD
    exact W.vret hx hb hr (fun t ht hW => ⟨⟨(N19, n20, a21, r22, f23), rfl, ⟨⟨hNB, hRB, hHT⟩, hSM, hMM, trivial⟩, by rw [ht]; exact hP, va_K.moved hW.alike hK, hD⟩, hS.F ht⟩) hS.2.2 dX9_giveBack_14

theorem iX9_orderCopy_0 : ∀ w ∈ wsX00, w ∈ wsX9_orderCopy := fun _ h => List.mem_cons_of_mem _ (List.mem_append_left _ (List.mem_append_left _ (List.mem_append_left _ (List.mem_append_left _ (List.mem_append_left _ (List.mem_append_right _ h))))))
theorem iX9_orderCopy_6 : ∀ w ∈ wsX60, w ∈ wsX9_orderCopy := fun _ h => List.mem_cons_of_mem _ (List.mem_append_left _ (List.mem_append_left _ (List.mem_append_left _ (List.mem_append_left _ (List.mem_append_right _ h)))))
theorem iX9_orderCopy_9 : ∀ w ∈ wsX90, w ∈ wsX9_orderCopy := fun _ h => List.mem_cons_of_mem _ (List.mem_append_left _ (List.mem_append_left _ (List.mem_append_left _ (List.mem_append_right _ h))))
set_option maxHeartbeats 4000000 in
set_option maxRecDepth 100000 in
theorem zX9_orderCopy (l : Launch) (D : va_G) (x : Nat → Nat) (cy : Nat → ClassId) (g : Nat → Nat → Option Nat) (L : List Nat) (K : Nat → Nat) (hG : GO L K g) (N : Nat → Nat) (n : Nat → Int32) (a : Nat → Nat → Int32) (r : Nat → Nat → Option Nat) (f : Nat → va_E) (hC : CI L K cy N r f) (sz : Nat) (rd bx : Nat) (pg ur : Int32) (mrd : rd ∈ L ∧ K rd = 6) (mbx : bx ∈ L ∧ K bx = 0) (zur : b01 ur) : Met l yX9_orderCopy wsX9_orderCopy ({ frames := 2, cells := 0, slots := 0, locals := 47 }) (PW D (TYS cy) (XW x cy g N n a r ++ va_pl L f) sz [.ref (x 0), .ref rd, .ref bx, .int pg, .int ur]) (va_Qv (fun (u : ST) => CI L K cy u.1 u.2.2.2.1 u.2.2.2.2 ∧ SM N u.1 n u.2.1 ∧ MM N u.1 a u.2.2.1 ∧ True) (BU D (TYS cy) (XW x cy g N n a r ++ va_pl L f) (WC x cy g L) sz) (va_A (XW x cy g N n a r ++ va_pl L f) sz)) 0 0 (va_A (XW x cy g N n a r ++ va_pl L f) sz) := by
  refine Met.ofW (cc := cX9_orderCopy) (maxL := 5) (ret := none) (by decide) rfl ?_
  intro p e s m args below meth c s₁ B hml hv
  obtain ⟨rfl, hsz, hP, hK, hD0⟩ := hv
  have hx := B.exec
  have hb := B.bytes
  have hr := B.returns
  have hts := atoms_spec (ws := wsX9_orderCopy) B.pre
  have hown : s.vm.findClass RX9 = some m.cls := findClass_of_methodNamed B.named
  have hlocks := B.notSynchronized
  subst hsz
  obtain ⟨hNB, hRB, hHT⟩ := hC
  have hSM : SM N N n n := SM_rf
  have hMM : MM N N a a := MM_rf
  have hD := hD0.self (sz := s.heap.size)
  have hA : ∀ q9 : Nat, s.heap.size ≤ q9 → va_A (XW x cy g N n a r ++ va_pl L f) s.heap.size q9 := fun q9 h => Or.inr h
  have hS : va_S (va_A (XW x cy g N n a r ++ va_pl L f) s.heap.size) s.heap s.heap [] := va_S.rf
  have hl := lv_entry ([.ref (x 0), .ref rd, .ref bx, .int pg, .int ur]) (n := 5) (Nat.le_of_ble_eq_true rfl)
  rw [lg_entry_eq]
  generalize (lg_sl ([.ref (x 0), .ref rd, .ref bx, .int pg, .int ur]) ++ List.replicate (5 - (lg_sl ([.ref (x 0), .ref rd, .ref bx, .int pg, .int ur])).length) Slot.unset).toArray = ls at hl ⊢
  have hl : lv_has ls 5 [(0, .ref (x 0)), (1, .ref rd), (2, .ref bx), (3, .int pg), (4, .int ur)] := hl
  refine lv_aload_n hx hb dX9_orderCopy_0 rfl (lv_at hl 2 rfl) ?_
  obtain ⟨n_o1, fo_o1, pr_o1, pl_o1, h_o1, w_o1, hf_o1, spr_o1, sh_o1, sw_o1⟩ : TE L K cy 0 (f bx) := by rw [← mbx.2]; exact hHT bx mbx.1
  refine pg_get (D := D) (ci := 0) (v := va_rf h_o1) (C := RX0) (T := TX0) (N := 6) hx hb hts iX9_orderCopy_0 hown hK hP mbx.1 hf_o1 rfl 4 (by decide) (hts (.fieldLink RX9 239 "FondsRoom$Box" "holder" "LFondsRoom$Reader;") (by decide +kernel)) (fun _ h9 => h9) rfl dX9_orderCopy_1 ?_
  refine lv_aload_n hx hb dX9_orderCopy_4 rfl (lv_at hl 1 rfl) ?_
  refine lv_acmp_eq (rx := h_o1) (ry := (some rd)) (tgt := 15) hx hb dX9_orderCopy_5 (by decide) (fun c2 => ?_) (fun c2 => ?_)
  · skip
    refine lv_aload_n hx hb dX9_orderCopy_15 rfl (lv_at hl 2 rfl) ?_
    refine lv_iconst (v := 5) hx hb dX9_orderCopy_16 (by decide) ?_
    refine pg_put (D := D) (ci := 0) (v := .int 5) (ty := .int) (C := RX0) (T := TX0) (N := 6) hx hb hts iX9_orderCopy_0 tyX0 tyX0_ok nmX0 hown hK hP hD hS mbx.1 hf_o1 rfl 3 (by decide) (hts (.fieldLink RX9 233 "FondsRoom$Box" "place" "I") (by decide +kernel)) (fun _ h9 => h9) rfl (by decide +kernel) rfl rfl (Nat.le_of_ble_eq_true rfl) dX9_orderCopy_17 (fun H locs hP hD hS => ?_)
    obtain ⟨f3, ef3⟩ : ∃ z, z = va_up f bx (.inr (0, [.int n_o1, .int fo_o1, .int pr_o1, .int 5, va_rf h_o1, va_rf w_o1])) := ⟨_, rfl⟩
    have hP : va_P D vwCl (XW x cy g N n a r ++ va_pl L f3) H := by rw [ef3]; exact hP
    have hD : va_D (va_A (XW x cy g N n a r ++ va_pl L f) s.heap.size) (XW x cy g N n a r ++ va_pl L f3) := by rw [ef3]; exact hD
    have hHT : HT L K cy f3 := by rw [ef3]; exact HT_up hHT 0 mbx.2 ⟨n_o1, fo_o1, pr_o1, 5, h_o1, w_o1, rfl, spr_o1, sh_o1, sw_o1⟩
    have hf4 : f3 bx = .inr (0, [.int n_o1, .int fo_o1, .int pr_o1, .int 5, va_rf h_o1, va_rf w_o1]) := by rw [ef3]; exact va_up_self _ _ _
    refine lv_aload_n hx hb dX9_orderCopy_20 rfl (lv_at hl 1 rfl) ?_
    refine lv_aload_n hx hb dX9_orderCopy_21 rfl (lv_at hl 2 rfl) ?_
    obtain ⟨n_o5, p_o5, ar_o5, rk_o5, nw_o5, st_o5, ct_o5, d_o5, aw_o5, rl_o5, cp_o5, cu_o5, w1_o5, w2_o5, w3_o5, ov_o5, co_o5, hf_o5, sp_o5, snw_o5, sd_o5, saw_o5, scu_o5⟩ : TE L K cy 6 (f3 rd) := by rw [← mrd.2]; exact hHT rd mrd.1
    refine pg_put (D := D) (ci := 6) (v := .ref bx) (ty := (.object "FondsRoom$Box")) (C := RX6) (T := TX6) (N := 17) hx hb hts iX9_orderCopy_6 tyX6 tyX6_ok nmX6 hown hK hP hD hS mrd.1 hf_o5 rfl 8 (by decide) (hts (.fieldLink RX9 267 "FondsRoom$Reader" "awaited" "LFondsRoom$Box;") (by decide +kernel)) (fun _ h9 => h9) rfl (by decide +kernel) rfl rfl (Nat.le_of_ble_eq_true rfl) dX9_orderCopy_22 (fun H locs hP hD hS => ?_)
    obtain ⟨f6, ef6⟩ : ∃ z, z = va_up f3 rd (.inr (6, [.int n_o5, .ref p_o5, .int ar_o5, .int rk_o5, .int nw_o5, .int st_o5, .int ct_o5, va_rf d_o5, .ref bx, .int rl_o5, .int cp_o5, .int cu_o5, .int w1_o5, .int w2_o5, .int w3_o5, .int ov_o5, .int co_o5])) := ⟨_, rfl⟩
    have hP : va_P D vwCl (XW x cy g N n a r ++ va_pl L f6) H := by rw [ef6]; exact hP
    have hD : va_D (va_A (XW x cy g N n a r ++ va_pl L f) s.heap.size) (XW x cy g N n a r ++ va_pl L f6) := by rw [ef6]; exact hD
    have hHT : HT L K cy f6 := by rw [ef6]; exact HT_up hHT 6 mrd.2 ⟨n_o5, p_o5, ar_o5, rk_o5, nw_o5, st_o5, ct_o5, d_o5, (some bx), rl_o5, cp_o5, cu_o5, w1_o5, w2_o5, w3_o5, ov_o5, co_o5, rfl, ⟨sp_o5.1, sp_o5.2⟩, snw_o5, sd_o5, (rok_some mbx.1 mbx.2), scu_o5⟩
    have hf7 : f6 rd = .inr (6, [.int n_o5, .ref p_o5, .int ar_o5, .int rk_o5, .int nw_o5, .int st_o5, .int ct_o5, va_rf d_o5, .ref bx, .int rl_o5, .int cp_o5, .int cu_o5, .int w1_o5, .int w2_o5, .int w3_o5, .int ov_o5, .int co_o5]) := by rw [ef6]; exact va_up_self _ _ _
    have hf8 : f6 bx = .inr (0, [.int n_o1, .int fo_o1, .int pr_o1, .int 5, va_rf h_o1, va_rf w_o1]) := by rw [ef6]; exact (va_up_ne _ _ (fun h9 => absurd (mbx.2.symm.trans ((congrArg K h9).trans mrd.2)) (by decide))).trans hf4
    refine lv_aload_n hx hb dX9_orderCopy_25 rfl (lv_at hl 1 rfl) ?_
    refine lv_iload_n hx hb dX9_orderCopy_26 rfl (lv_at hl 3 rfl) ?_
    refine pg_put (D := D) (ci := 6) (v := .int pg) (ty := .int) (C := RX6) (T := TX6) (N := 17) hx hb hts iX9_orderCopy_6 tyX6 tyX6_ok nmX6 hown hK hP hD hS mrd.1 hf7 rfl 10 (by decide) (hts (.fieldLink RX9 336 "FondsRoom$Reader" "copyPages" "I") (by decide +kernel)) (fun _ h9 => h9) rfl (by decide +kernel) rfl rfl (Nat.le_of_ble_eq_true rfl) dX9_orderCopy_27 (fun H locs hP hD hS => ?_)
    obtain ⟨f9, ef9⟩ : ∃ z, z = va_up f6 rd (.inr (6, [.int n_o5, .ref p_o5, .int ar_o5, .int rk_o5, .int nw_o5, .int st_o5, .int ct_o5, va_rf d_o5, .ref bx, .int rl_o5, .int pg, .int cu_o5, .int w1_o5, .int w2_o5, .int w3_o5, .int ov_o5, .int co_o5])) := ⟨_, rfl⟩
    have hP : va_P D vwCl (XW x cy g N n a r ++ va_pl L f9) H := by rw [ef9]; exact hP
    have hD : va_D (va_A (XW x cy g N n a r ++ va_pl L f) s.heap.size) (XW x cy g N n a r ++ va_pl L f9) := by rw [ef9]; exact hD
    have hHT : HT L K cy f9 := by rw [ef9]; exact HT_up hHT 6 mrd.2 ⟨n_o5, p_o5, ar_o5, rk_o5, nw_o5, st_o5, ct_o5, d_o5, (some bx), rl_o5, pg, cu_o5, w1_o5, w2_o5, w3_o5, ov_o5, co_o5, rfl, ⟨sp_o5.1, sp_o5.2⟩, snw_o5, sd_o5, (rok_some mbx.1 mbx.2), scu_o5⟩
    have hf10 : f9 rd = .inr (6, [.int n_o5, .ref p_o5, .int ar_o5, .int rk_o5, .int nw_o5, .int st_o5, .int ct_o5, va_rf d_o5, .ref bx, .int rl_o5, .int pg, .int cu_o5, .int w1_o5, .int w2_o5, .int w3_o5, .int ov_o5, .int co_o5]) := by rw [ef9]; exact va_up_self _ _ _
    have hf11 : f9 bx = .inr (0, [.int n_o1, .int fo_o1, .int pr_o1, .int 5, va_rf h_o1, va_rf w_o1]) := by rw [ef9]; exact (va_up_ne _ _ (fun h9 => absurd (mbx.2.symm.trans ((congrArg K h9).trans mrd.2)) (by decide))).trans hf8
    refine lv_aload_n hx hb dX9_orderCopy_30 rfl (lv_at hl 1 rfl) ?_
    refine lv_iload hx hb dX9_orderCopy_31 (lv_at hl 4 rfl) ?_
    refine pg_put (D := D) (ci := 6) (v := .int ur) (ty := .boolean) (C := RX6) (T := TX6) (N := 17) hx hb hts iX9_orderCopy_6 tyX6 tyX6_ok nmX6 hown hK hP hD hS mrd.1 hf10 rfl 11 (by decide) (hts (.fieldLink RX9 339 "FondsRoom$Reader" "copyUrgent" "Z") (by decide +kernel)) (fun _ h9 => h9) rfl (by decide +kernel) (nz01 zur).1 (nz01 zur).2 (Nat.le_of_ble_eq_true rfl) dX9_orderCopy_33 (fun H locs hP hD hS => ?_)
    obtain ⟨f12, ef12⟩ : ∃ z, z = va_up f9 rd (.inr (6, [.int n_o5, .ref p_o5, .int ar_o5, .int rk_o5, .int nw_o5, .int st_o5, .int ct_o5, va_rf d_o5, .ref bx, .int rl_o5, .int pg, .int ur, .int w1_o5, .int w2_o5, .int w3_o5, .int ov_o5, .int co_o5])) := ⟨_, rfl⟩
    have hP : va_P D vwCl (XW x cy g N n a r ++ va_pl L f12) H := by rw [ef12]; exact hP
    have hD : va_D (va_A (XW x cy g N n a r ++ va_pl L f) s.heap.size) (XW x cy g N n a r ++ va_pl L f12) := by rw [ef12]; exact hD
    have hHT : HT L K cy f12 := by rw [ef12]; exact HT_up hHT 6 mrd.2 ⟨n_o5, p_o5, ar_o5, rk_o5, nw_o5, st_o5, ct_o5, d_o5, (some bx), rl_o5, pg, ur, w1_o5, w2_o5, w3_o5, ov_o5, co_o5, rfl, ⟨sp_o5.1, sp_o5.2⟩, snw_o5, sd_o5, (rok_some mbx.1 mbx.2), zur⟩
    have hf13 : f12 rd = .inr (6, [.int n_o5, .ref p_o5, .int ar_o5, .int rk_o5, .int nw_o5, .int st_o5, .int ct_o5, va_rf d_o5, .ref bx, .int rl_o5, .int pg, .int ur, .int w1_o5, .int w2_o5, .int w3_o5, .int ov_o5, .int co_o5]) := by rw [ef12]; exact va_up_self _ _ _
    have hf14 : f12 bx = .inr (0, [.int n_o1, .int fo_o1, .int pr_o1, .int 5, va_rf h_o1, va_rf w_o1]) := by rw [ef12]; exact (va_up_ne _ _ (fun h9 => absurd (mbx.2.symm.trans ((congrArg K h9).trans mrd.2)) (by decide))).trans hf11
    refine lv_aload_n hx hb dX9_orderCopy_36 rfl (lv_at hl 1 rfl) ?_
    refine lv_iconst (v := 4) hx hb dX9_orderCopy_37 (by decide) ?_
    refine pg_put (D := D) (ci := 6) (v := .int 4) (ty := .int) (C := RX6) (T := TX6) (N := 17) hx hb hts iX9_orderCopy_6 tyX6 tyX6_ok nmX6 hown hK hP hD hS mrd.1 hf13 rfl 5 (by decide) (hts (.fieldLink RX9 270 "FondsRoom$Reader" "state" "I") (by decide +kernel)) (fun _ h9 => h9) rfl (by decide +kernel) rfl rfl (Nat.le_of_ble_eq_true rfl) dX9_orderCopy_38 (fun H locs hP hD hS => ?_)
    obtain ⟨f15, ef15⟩ : ∃ z, z = va_up f12 rd (.inr (6, [.int n_o5, .ref p_o5, .int ar_o5, .int rk_o5, .int nw_o5, .int 4, .int ct_o5, va_rf d_o5, .ref bx, .int rl_o5, .int pg, .int ur, .int w1_o5, .int w2_o5, .int w3_o5, .int ov_o5, .int co_o5])) := ⟨_, rfl⟩
    have hP : va_P D vwCl (XW x cy g N n a r ++ va_pl L f15) H := by rw [ef15]; exact hP
    have hD : va_D (va_A (XW x cy g N n a r ++ va_pl L f) s.heap.size) (XW x cy g N n a r ++ va_pl L f15) := by rw [ef15]; exact hD
    have hHT : HT L K cy f15 := by rw [ef15]; exact HT_up hHT 6 mrd.2 ⟨n_o5, p_o5, ar_o5, rk_o5, nw_o5, 4, ct_o5, d_o5, (some bx), rl_o5, pg, ur, w1_o5, w2_o5, w3_o5, ov_o5, co_o5, rfl, ⟨sp_o5.1, sp_o5.2⟩, snw_o5, sd_o5, (rok_some mbx.1 mbx.2), zur⟩
    have hf16 : f15 rd = .inr (6, [.int n_o5, .ref p_o5, .int ar_o5, .int rk_o5, .int nw_o5, .int 4, .int ct_o5, va_rf d_o5, .ref bx, .int rl_o5, .int pg, .int ur, .int w1_o5, .int w2_o5, .int w3_o5, .int ov_o5, .int co_o5]) := by rw [ef15]; exact va_up_self _ _ _
    have hf17 : f15 bx = .inr (0, [.int n_o1, .int fo_o1, .int pr_o1, .int 5, va_rf h_o1, va_rf w_o1]) := by rw [ef15]; exact (va_up_ne _ _ (fun h9 => absurd (mbx.2.symm.trans ((congrArg K h9).trans mrd.2)) (by decide))).trans hf14
    refine lv_aload_n hx hb dX9_orderCopy_41 rfl (lv_at hl 0 rfl) ?_
    refine va_get (D := D) (ci := 9) (v := .ref (x 12)) (C := RX9) (T := TX9) (N := 19) hx hb hts iX9_orderCopy_9 hown hK hP 0 rfl rfl 7 (by decide) (hts (.fieldLink RX9 54 "FondsRoom" "copyTickets" "LFondsRoom$Line;") (by decide +kernel)) (fun _ h9 => h9) rfl dX9_orderCopy_42 ?_
    refine lv_aload_n hx hb dX9_orderCopy_45 rfl (lv_at hl 1 rfl) ?_
    refine gvV (As := [.ref rd]) (rest := []) ⟨hx, hb, hml, hown, hts⟩ (zX3_append_2 l D x cy g L K hG N n a r f15 ⟨hNB, hRB, hHT⟩ _ rd  ⟨mrd.1, mrd.2⟩) (cwV 1 hts gX9_orderCopy_X3_append rfl rfl rfl (by decide +kernel) ⟨Nat.le_of_ble_eq_true rfl, Nat.le_of_ble_eq_true rfl⟩) hK hP hD hS hA (va_recv hK hP (ci := 3) (q0 := 12) rfl rfl) rfl hl.1 rfl (Nat.le_of_ble_eq_true rfl) dX9_orderCopy_46 ⟨Nat.le_of_ble_eq_true rfl, Nat.le_of_ble_eq_true rfl⟩ (fun u19 H locs hq18 hP hD hS => ?_)
    obtain ⟨N20, n21, a22, r23, f24⟩ := u19
    obtain ⟨⟨hNB, hRB, hHT⟩, hs25, hv26, hq18b⟩ := hq18
    have hSM : SM N N20 n n21 := SM_tr hSM hs25
    have hMM : MM N N20 a a22 := MM_tr hMM hv26
    have hP : va_P D vwCl (XW x cy g N20 n21 a22 r23 ++ va_pl L f24) H := hP
    have hD : va_D _ (XW x cy g N20 n21 a22 r23 ++ va_pl L f24) := hD
    exact W.vret hx hb hr (fun t ht hW => ⟨⟨(N20, n21, a22, r23, f24), rfl, ⟨⟨hNB, hRB, hHT⟩, hSM, hMM, trivial⟩, by rw [ht]; exact hP, va_K.moved hW.alike hK, hD⟩, hS.F ht⟩) hS.2.2 dX9_orderCopy_49
  · skip
    refine lv_aload_n hx hb dX9_orderCopy_8 rfl (lv_at hl 0 rfl) ?_
    refine lv_aload_n hx hb dX9_orderCopy_9 rfl (lv_at hl 1 rfl) ?_
    refine lv_iconst (v := 5) hx hb dX9_orderCopy_10 (by decide) ?_
    refine gvV (As := [.ref rd, .int 5]) (rest := []) ⟨hx, hb, hml, hown, hts⟩ (zX9_refuse l D x cy g L K hG N n a r f ⟨hNB, hRB, hHT⟩ _ rd 5 ⟨mrd.1, mrd.2⟩) (cwV 2 hts gX9_orderCopy_X9_refuse rfl rfl rfl (by decide +kernel) ⟨Nat.le_of_ble_eq_true rfl, Nat.le_of_ble_eq_true rfl⟩) hK hP hD hS hA (va_recv hK hP (ci := 9) (q0 := 0) rfl rfl) rfl hl.1 rfl (Nat.le_of_ble_eq_true rfl) dX9_orderCopy_11 ⟨Nat.le_of_ble_eq_true rfl, Nat.le_of_ble_eq_true rfl⟩ (fun u28 H locs hq27 hP hD hS => ?_)
    obtain ⟨N29, n30, a31, r32, f33⟩ := u28
    obtain ⟨⟨hNB, hRB, hHT⟩, hs34, hv35, hq27b⟩ := hq27
    have hSM : SM N N29 n n30 := SM_tr hSM hs34
    have hMM : MM N N29 a a31 := MM_tr hMM hv35
    have hP : va_P D vwCl (XW x cy g N29 n30 a31 r32 ++ va_pl L f33) H := hP
    have hD : va_D _ (XW x cy g N29 n30 a31 r32 ++ va_pl L f33) := hD
    exact W.vret hx hb hr (fun t ht hW => ⟨⟨(N29, n30, a31, r32, f33), rfl, ⟨⟨hNB, hRB, hHT⟩, hSM, hMM, trivial⟩, by rw [ht]; exact hP, va_K.moved hW.alike hK, hD⟩, hS.F ht⟩) hS.2.2 dX9_orderCopy_14

theorem iX9_askFor_0 : ∀ w ∈ wsX00, w ∈ wsX9_askFor := fun _ h => List.mem_cons_of_mem _ (List.mem_append_left _ (List.mem_append_left _ (List.mem_append_left _ (List.mem_append_left _ (List.mem_append_right _ h)))))
theorem iX9_askFor_6 : ∀ w ∈ wsX60, w ∈ wsX9_askFor := fun _ h => List.mem_cons_of_mem _ (List.mem_append_left _ (List.mem_append_left _ (List.mem_append_left _ (List.mem_append_left _ (List.mem_append_left _ (List.mem_append_right _ h))))))
theorem iX9_askFor_9 : ∀ w ∈ wsX90, w ∈ wsX9_askFor := fun _ h => List.mem_cons_of_mem _ (List.mem_append_left _ (List.mem_append_left _ (List.mem_append_left _ (List.mem_append_left _ (List.mem_append_left _ (List.mem_append_left _ (List.mem_append_right _ h)))))))
set_option maxHeartbeats 4000000 in
set_option maxRecDepth 100000 in
theorem zX9_askFor (l : Launch) (D : va_G) (x : Nat → Nat) (cy : Nat → ClassId) (g : Nat → Nat → Option Nat) (L : List Nat) (K : Nat → Nat) (hG : GO L K g) (N : Nat → Nat) (n : Nat → Int32) (a : Nat → Nat → Int32) (r : Nat → Nat → Option Nat) (f : Nat → va_E) (hC : CI L K cy N r f) (sz : Nat) (rd bx : Nat) (mrd : rd ∈ L ∧ K rd = 6) (mbx : bx ∈ L ∧ K bx = 0) : Met l yX9_askFor wsX9_askFor ({ frames := 2, cells := 0, slots := 0, locals := 47 }) (PW D (TYS cy) (XW x cy g N n a r ++ va_pl L f) sz [.ref (x 0), .ref rd, .ref bx]) (va_Qv (fun (u : ST) => CI L K cy u.1 u.2.2.2.1 u.2.2.2.2 ∧ SM N u.1 n u.2.1 ∧ MM N u.1 a u.2.2.1 ∧ True) (BU D (TYS cy) (XW x cy g N n a r ++ va_pl L f) (WC x cy g L) sz) (va_A (XW x cy g N n a r ++ va_pl L f) sz)) 0 0 (va_A (XW x cy g N n a r ++ va_pl L f) sz) := by
  refine Met.ofW (cc := cX9_askFor) (maxL := 4) (ret := none) (by decide) rfl ?_
  intro p e s m args below meth c s₁ B hml hv
  obtain ⟨rfl, hsz, hP, hK, hD0⟩ := hv
  have hx := B.exec
  have hb := B.bytes
  have hr := B.returns
  have hts := atoms_spec (ws := wsX9_askFor) B.pre
  have hown : s.vm.findClass RX9 = some m.cls := findClass_of_methodNamed B.named
  have hlocks := B.notSynchronized
  subst hsz
  obtain ⟨hNB, hRB, hHT⟩ := hC
  have hSM : SM N N n n := SM_rf
  have hMM : MM N N a a := MM_rf
  have hD := hD0.self (sz := s.heap.size)
  have hA : ∀ q9 : Nat, s.heap.size ≤ q9 → va_A (XW x cy g N n a r ++ va_pl L f) s.heap.size q9 := fun q9 h => Or.inr h
  have hS : va_S (va_A (XW x cy g N n a r ++ va_pl L f) s.heap.size) s.heap s.heap [] := va_S.rf
  have hl := lv_entry ([.ref (x 0), .ref rd, .ref bx]) (n := 4) (Nat.le_of_ble_eq_true rfl)
  rw [lg_entry_eq]
  generalize (lg_sl ([.ref (x 0), .ref rd, .ref bx]) ++ List.replicate (4 - (lg_sl ([.ref (x 0), .ref rd, .ref bx])).length) Slot.unset).toArray = ls at hl ⊢
  have hl : lv_has ls 4 [(0, .ref (x 0)), (1, .ref rd), (2, .ref bx)] := hl
  refine lv_aload_n hx hb dX9_askFor_0 rfl (lv_at hl 0 rfl) ?_
  refine va_get (D := D) (ci := 9) (v := .ref (x 18)) (C := RX9) (T := TX9) (N := 19) hx hb hts iX9_askFor_9 hown hK hP 0 rfl rfl 9 (by decide) (hts (.fieldLink RX9 67 "FondsRoom" "events" "LFondsRoom$Events;") (by decide +kernel)) (fun _ h9 => h9) rfl dX9_askFor_1 ?_
  refine lv_aload_n hx hb dX9_askFor_4 rfl (lv_at hl 0 rfl) ?_
  refine va_get (D := D) (ci := 9) (v := .int (n 1)) (C := RX9) (T := TX9) (N := 19) hx hb hts iX9_askFor_9 hown hK hP 0 rfl rfl 14 (by decide) (hts (.fieldLink RX9 78 "FondsRoom" "turn" "I") (by decide +kernel)) (fun _ h9 => h9) rfl dX9_askFor_5 ?_
  refine lv_aload_n hx hb dX9_askFor_8 rfl (lv_at hl 1 rfl) ?_
  obtain ⟨n_o1, p_o1, ar_o1, rk_o1, nw_o1, st_o1, ct_o1, d_o1, aw_o1, rl_o1, cp_o1, cu_o1, w1_o1, w2_o1, w3_o1, ov_o1, co_o1, hf_o1, sp_o1, snw_o1, sd_o1, saw_o1, scu_o1⟩ : TE L K cy 6 (f rd) := by rw [← mrd.2]; exact hHT rd mrd.1
  refine pg_get (D := D) (ci := 6) (v := .int n_o1) (C := RX6) (T := TX6) (N := 17) hx hb hts iX9_askFor_6 hown hK hP mrd.1 hf_o1 rfl 0 (by decide) (hts (.fieldLink RX9 273 "FondsRoom$Reader" "number" "I") (by decide +kernel)) (fun _ h9 => h9) rfl dX9_askFor_9 ?_
  refine lv_iconst (v := 3) hx hb dX9_askFor_12 (by decide) ?_
  refine lv_aload_n hx hb dX9_askFor_13 rfl (lv_at hl 2 rfl) ?_
  obtain ⟨n_o2, fo_o2, pr_o2, pl_o2, h_o2, w_o2, hf_o2, spr_o2, sh_o2, sw_o2⟩ : TE L K cy 0 (f bx) := by rw [← mbx.2]; exact hHT bx mbx.1
  refine pg_get (D := D) (ci := 0) (v := .int n_o2) (C := RX0) (T := TX0) (N := 6) hx hb hts iX9_askFor_0 hown hK hP mbx.1 hf_o2 rfl 0 (by decide) (hts (.fieldLink RX9 253 "FondsRoom$Box" "number" "I") (by decide +kernel)) (fun _ h9 => h9) rfl dX9_askFor_14 ?_
  refine gvV (As := [.int (n 1), .int n_o1, .int 3, .int n_o2]) (rest := []) ⟨hx, hb, hml, hown, hts⟩ (zX2_keep l D x cy g L K hG N n a r f ⟨hNB, hRB, hHT⟩ _  (n 1) n_o1 3 n_o2 ) (cwV 4 hts gX9_askFor_X2_keep rfl rfl rfl (by decide +kernel) ⟨Nat.le_of_ble_eq_true rfl, Nat.le_of_ble_eq_true rfl⟩) hK hP hD hS hA (va_recv hK hP (ci := 2) (q0 := 18) rfl rfl) rfl hl.1 rfl (Nat.le_of_ble_eq_true rfl) dX9_askFor_17 ⟨Nat.le_of_ble_eq_true rfl, Nat.le_of_ble_eq_true rfl⟩ (fun u4 H locs hq3 hP hD hS => ?_)
  obtain ⟨N5, n6, a7, r8, f9⟩ := u4
  obtain ⟨⟨hNB, hRB, hHT⟩, hs10, hv11, hq3b⟩ := hq3
  have hSM : SM N N5 n n6 := SM_tr hSM hs10
  have hMM : MM N N5 a a7 := MM_tr hMM hv11
  have hP : va_P D vwCl (XW x cy g N5 n6 a7 r8 ++ va_pl L f9) H := hP
  have hD : va_D _ (XW x cy g N5 n6 a7 r8 ++ va_pl L f9) := hD
  refine lv_aload_n hx hb dX9_askFor_20 rfl (lv_at hl 0 rfl) ?_
  refine lv_aload_n hx hb dX9_askFor_21 rfl (lv_at hl 1 rfl) ?_
  refine lv_aload_n hx hb dX9_askFor_22 rfl (lv_at hl 2 rfl) ?_
  refine gvI (As := [.ref rd, .ref bx]) (rest := []) ⟨hx, hb, hml, hown, hts⟩ (zX9_ruleAgainst l D x cy g L K hG N5 n6 a7 r8 f9 ⟨hNB, hRB, hHT⟩ _ rd bx  ⟨mrd.1, mrd.2⟩ ⟨mbx.1, mbx.2⟩) (cwV 2 hts gX9_askFor_X9_ruleAgainst rfl rfl rfl (by decide +kernel) ⟨Nat.le_of_ble_eq_true rfl, Nat.le_of_ble_eq_true rfl⟩) hK hP hD hS hA (va_recv hK hP (ci := 9) (q0 := 0) rfl rfl) rfl hl.1 rfl (Nat.le_of_ble_eq_true rfl) dX9_askFor_23 ⟨Nat.le_of_ble_eq_true rfl, Nat.le_of_ble_eq_true rfl⟩ (fun q12 u13 H locs hq12 hP hD hS => ?_)
  have hP : va_P D vwCl (XW x cy g N5 n6 a7 r8 ++ va_pl L f9) H := hP
  have hD : va_D _ (XW x cy g N5 n6 a7 r8 ++ va_pl L f9) := hD
  refine lv_istore_n (lv' := [(3, .int q12), (0, .ref (x 0)), (1, .ref rd), (2, .ref bx)]) hx hb dX9_askFor_26 rfl hl (by decide) rfl (fun ls hl => ?_)
  refine lv_iload_n hx hb dX9_askFor_27 rfl (lv_at hl 0 rfl) ?_
  refine lv_iconst (v := (-1)) hx hb dX9_askFor_28 (by decide) ?_
  refine lv_icmp_eq (tgt := 39) hx hb dX9_askFor_29 (by decide) (fun c14 => ?_) (fun c14 => ?_)
  · skip
    refine lv_aload_n hx hb dX9_askFor_39 rfl (lv_at hl 3 rfl) ?_
    refine lv_aload_n hx hb dX9_askFor_40 rfl (lv_at hl 2 rfl) ?_
    obtain ⟨n_o15, fo_o15, pr_o15, pl_o15, h_o15, w_o15, hf_o15, spr_o15, sh_o15, sw_o15⟩ : TE L K cy 0 (f9 bx) := by rw [← mbx.2]; exact hHT bx mbx.1
    refine pg_put (D := D) (ci := 0) (v := .ref rd) (ty := (.object "FondsRoom$Reader")) (C := RX0) (T := TX0) (N := 6) hx hb hts iX9_askFor_0 tyX0 tyX0_ok nmX0 hown hK hP hD hS mbx.1 hf_o15 rfl 5 (by decide) (hts (.fieldLink RX9 260 "FondsRoom$Box" "wanter" "LFondsRoom$Reader;") (by decide +kernel)) (fun _ h9 => h9) rfl (by decide +kernel) rfl rfl (Nat.le_of_ble_eq_true rfl) dX9_askFor_41 (fun H locs hP hD hS => ?_)
    obtain ⟨f16, ef16⟩ : ∃ z, z = va_up f9 bx (.inr (0, [.int n_o15, .int fo_o15, .int pr_o15, .int pl_o15, va_rf h_o15, .ref rd])) := ⟨_, rfl⟩
    have hP : va_P D vwCl (XW x cy g N5 n6 a7 r8 ++ va_pl L f16) H := by rw [ef16]; exact hP
    have hD : va_D (va_A (XW x cy g N n a r ++ va_pl L f) s.heap.size) (XW x cy g N5 n6 a7 r8 ++ va_pl L f16) := by rw [ef16]; exact hD
    have hHT : HT L K cy f16 := by rw [ef16]; exact HT_up hHT 0 mbx.2 ⟨n_o15, fo_o15, pr_o15, pl_o15, h_o15, (some rd), rfl, spr_o15, sh_o15, (rok_some mrd.1 mrd.2)⟩
    have hf17 : f16 bx = .inr (0, [.int n_o15, .int fo_o15, .int pr_o15, .int pl_o15, va_rf h_o15, .ref rd]) := by rw [ef16]; exact va_up_self _ _ _
    refine lv_aload_n hx hb dX9_askFor_44 rfl (lv_at hl 2 rfl) ?_
    refine lv_aload_n hx hb dX9_askFor_45 rfl (lv_at hl 3 rfl) ?_
    obtain ⟨n_o18, p_o18, ar_o18, rk_o18, nw_o18, st_o18, ct_o18, d_o18, aw_o18, rl_o18, cp_o18, cu_o18, w1_o18, w2_o18, w3_o18, ov_o18, co_o18, hf_o18, sp_o18, snw_o18, sd_o18, saw_o18, scu_o18⟩ : TE L K cy 6 (f16 rd) := by rw [← mrd.2]; exact hHT rd mrd.1
    refine pg_put (D := D) (ci := 6) (v := .ref bx) (ty := (.object "FondsRoom$Box")) (C := RX6) (T := TX6) (N := 17) hx hb hts iX9_askFor_6 tyX6 tyX6_ok nmX6 hown hK hP hD hS mrd.1 hf_o18 rfl 8 (by decide) (hts (.fieldLink RX9 267 "FondsRoom$Reader" "awaited" "LFondsRoom$Box;") (by decide +kernel)) (fun _ h9 => h9) rfl (by decide +kernel) rfl rfl (Nat.le_of_ble_eq_true rfl) dX9_askFor_46 (fun H locs hP hD hS => ?_)
    obtain ⟨f19, ef19⟩ : ∃ z, z = va_up f16 rd (.inr (6, [.int n_o18, .ref p_o18, .int ar_o18, .int rk_o18, .int nw_o18, .int st_o18, .int ct_o18, va_rf d_o18, .ref bx, .int rl_o18, .int cp_o18, .int cu_o18, .int w1_o18, .int w2_o18, .int w3_o18, .int ov_o18, .int co_o18])) := ⟨_, rfl⟩
    have hP : va_P D vwCl (XW x cy g N5 n6 a7 r8 ++ va_pl L f19) H := by rw [ef19]; exact hP
    have hD : va_D (va_A (XW x cy g N n a r ++ va_pl L f) s.heap.size) (XW x cy g N5 n6 a7 r8 ++ va_pl L f19) := by rw [ef19]; exact hD
    have hHT : HT L K cy f19 := by rw [ef19]; exact HT_up hHT 6 mrd.2 ⟨n_o18, p_o18, ar_o18, rk_o18, nw_o18, st_o18, ct_o18, d_o18, (some bx), rl_o18, cp_o18, cu_o18, w1_o18, w2_o18, w3_o18, ov_o18, co_o18, rfl, ⟨sp_o18.1, sp_o18.2⟩, snw_o18, sd_o18, (rok_some mbx.1 mbx.2), scu_o18⟩
    have hf20 : f19 rd = .inr (6, [.int n_o18, .ref p_o18, .int ar_o18, .int rk_o18, .int nw_o18, .int st_o18, .int ct_o18, va_rf d_o18, .ref bx, .int rl_o18, .int cp_o18, .int cu_o18, .int w1_o18, .int w2_o18, .int w3_o18, .int ov_o18, .int co_o18]) := by rw [ef19]; exact va_up_self _ _ _
    have hf21 : f19 bx = .inr (0, [.int n_o15, .int fo_o15, .int pr_o15, .int pl_o15, va_rf h_o15, .ref rd]) := by rw [ef19]; exact (va_up_ne _ _ (fun h9 => absurd (mbx.2.symm.trans ((congrArg K h9).trans mrd.2)) (by decide))).trans hf17
    refine lv_aload_n hx hb dX9_askFor_49 rfl (lv_at hl 2 rfl) ?_
    refine lv_iconst (v := 2) hx hb dX9_askFor_50 (by decide) ?_
    refine pg_put (D := D) (ci := 6) (v := .int 2) (ty := .int) (C := RX6) (T := TX6) (N := 17) hx hb hts iX9_askFor_6 tyX6 tyX6_ok nmX6 hown hK hP hD hS mrd.1 hf20 rfl 5 (by decide) (hts (.fieldLink RX9 270 "FondsRoom$Reader" "state" "I") (by decide +kernel)) (fun _ h9 => h9) rfl (by decide +kernel) rfl rfl (Nat.le_of_ble_eq_true rfl) dX9_askFor_51 (fun H locs hP hD hS => ?_)
    obtain ⟨f22, ef22⟩ : ∃ z, z = va_up f19 rd (.inr (6, [.int n_o18, .ref p_o18, .int ar_o18, .int rk_o18, .int nw_o18, .int 2, .int ct_o18, va_rf d_o18, .ref bx, .int rl_o18, .int cp_o18, .int cu_o18, .int w1_o18, .int w2_o18, .int w3_o18, .int ov_o18, .int co_o18])) := ⟨_, rfl⟩
    have hP : va_P D vwCl (XW x cy g N5 n6 a7 r8 ++ va_pl L f22) H := by rw [ef22]; exact hP
    have hD : va_D (va_A (XW x cy g N n a r ++ va_pl L f) s.heap.size) (XW x cy g N5 n6 a7 r8 ++ va_pl L f22) := by rw [ef22]; exact hD
    have hHT : HT L K cy f22 := by rw [ef22]; exact HT_up hHT 6 mrd.2 ⟨n_o18, p_o18, ar_o18, rk_o18, nw_o18, 2, ct_o18, d_o18, (some bx), rl_o18, cp_o18, cu_o18, w1_o18, w2_o18, w3_o18, ov_o18, co_o18, rfl, ⟨sp_o18.1, sp_o18.2⟩, snw_o18, sd_o18, (rok_some mbx.1 mbx.2), scu_o18⟩
    have hf23 : f22 rd = .inr (6, [.int n_o18, .ref p_o18, .int ar_o18, .int rk_o18, .int nw_o18, .int 2, .int ct_o18, va_rf d_o18, .ref bx, .int rl_o18, .int cp_o18, .int cu_o18, .int w1_o18, .int w2_o18, .int w3_o18, .int ov_o18, .int co_o18]) := by rw [ef22]; exact va_up_self _ _ _
    have hf24 : f22 bx = .inr (0, [.int n_o15, .int fo_o15, .int pr_o15, .int pl_o15, va_rf h_o15, .ref rd]) := by rw [ef22]; exact (va_up_ne _ _ (fun h9 => absurd (mbx.2.symm.trans ((congrArg K h9).trans mrd.2)) (by decide))).trans hf21
    refine lv_aload_n hx hb dX9_askFor_54 rfl (lv_at hl 1 rfl) ?_
    refine va_get (D := D) (ci := 9) (v := .ref (x 10)) (C := RX9) (T := TX9) (N := 19) hx hb hts iX9_askFor_9 hown hK hP 0 rfl rfl 6 (by decide) (hts (.fieldLink RX9 51 "FondsRoom" "boxTickets" "LFondsRoom$Line;") (by decide +kernel)) (fun _ h9 => h9) rfl dX9_askFor_55 ?_
    refine lv_aload_n hx hb dX9_askFor_58 rfl (lv_at hl 2 rfl) ?_
    refine gvV (As := [.ref rd]) (rest := []) ⟨hx, hb, hml, hown, hts⟩ (zX3_append_1 l D x cy g L K hG N5 n6 a7 r8 f22 ⟨hNB, hRB, hHT⟩ _ rd  ⟨mrd.1, mrd.2⟩) (cwV 1 hts gX9_askFor_X3_append rfl rfl rfl (by decide +kernel) ⟨Nat.le_of_ble_eq_true rfl, Nat.le_of_ble_eq_true rfl⟩) hK hP hD hS hA (va_recv hK hP (ci := 3) (q0 := 10) rfl rfl) rfl hl.1 rfl (Nat.le_of_ble_eq_true rfl) dX9_askFor_59 ⟨Nat.le_of_ble_eq_true rfl, Nat.le_of_ble_eq_true rfl⟩ (fun u26 H locs hq25 hP hD hS => ?_)
    obtain ⟨N27, n28, a29, r30, f31⟩ := u26
    obtain ⟨⟨hNB, hRB, hHT⟩, hs32, hv33, hq25b⟩ := hq25
    have hSM : SM N N27 n n28 := SM_tr hSM hs32
    have hMM : MM N N27 a a29 := MM_tr hMM hv33
    have hP : va_P D vwCl (XW x cy g N27 n28 a29 r30 ++ va_pl L f31) H := hP
    have hD : va_D _ (XW x cy g N27 n28 a29 r30 ++ va_pl L f31) := hD
    exact W.vret hx hb hr (fun t ht hW => ⟨⟨(N27, n28, a29, r30, f31), rfl, ⟨⟨hNB, hRB, hHT⟩, hSM, hMM, trivial⟩, by rw [ht]; exact hP, va_K.moved hW.alike hK, hD⟩, hS.F ht⟩) hS.2.2 dX9_askFor_62
  · skip
    refine lv_aload_n hx hb dX9_askFor_32 rfl (lv_at hl 1 rfl) ?_
    refine lv_aload_n hx hb dX9_askFor_33 rfl (lv_at hl 2 rfl) ?_
    refine lv_iload_n hx hb dX9_askFor_34 rfl (lv_at hl 0 rfl) ?_
    refine gvV (As := [.ref rd, .int q12]) (rest := []) ⟨hx, hb, hml, hown, hts⟩ (zX9_refuse l D x cy g L K hG N5 n6 a7 r8 f9 ⟨hNB, hRB, hHT⟩ _ rd q12 ⟨mrd.1, mrd.2⟩) (cwV 2 hts gX9_askFor_X9_refuse rfl rfl rfl (by decide +kernel) ⟨Nat.le_of_ble_eq_true rfl, Nat.le_of_ble_eq_true rfl⟩) hK hP hD hS hA (va_recv hK hP (ci := 9) (q0 := 0) rfl rfl) rfl hl.1 rfl (Nat.le_of_ble_eq_true rfl) dX9_askFor_35 ⟨Nat.le_of_ble_eq_true rfl, Nat.le_of_ble_eq_true rfl⟩ (fun u35 H locs hq34 hP hD hS => ?_)
    obtain ⟨N36, n37, a38, r39, f40⟩ := u35
    obtain ⟨⟨hNB, hRB, hHT⟩, hs41, hv42, hq34b⟩ := hq34
    have hSM : SM N N36 n n37 := SM_tr hSM hs41
    have hMM : MM N N36 a a38 := MM_tr hMM hv42
    have hP : va_P D vwCl (XW x cy g N36 n37 a38 r39 ++ va_pl L f40) H := hP
    have hD : va_D _ (XW x cy g N36 n37 a38 r39 ++ va_pl L f40) := hD
    exact W.vret hx hb hr (fun t ht hW => ⟨⟨(N36, n37, a38, r39, f40), rfl, ⟨⟨hNB, hRB, hHT⟩, hSM, hMM, trivial⟩, by rw [ht]; exact hP, va_K.moved hW.alike hK, hD⟩, hS.F ht⟩) hS.2.2 dX9_askFor_38

theorem iX9_dropTickets_0 : ∀ w ∈ wsX00, w ∈ wsX9_dropTickets := fun _ h => List.mem_cons_of_mem _ (List.mem_append_left _ (List.mem_append_right _ h))
theorem iX9_dropTickets_6 : ∀ w ∈ wsX60, w ∈ wsX9_dropTickets := fun _ h => List.mem_cons_of_mem _ (List.mem_append_left _ (List.mem_append_left _ (List.mem_append_right _ h)))
theorem iX9_dropTickets_9 : ∀ w ∈ wsX90, w ∈ wsX9_dropTickets := fun _ h => List.mem_cons_of_mem _ (List.mem_append_left _ (List.mem_append_left _ (List.mem_append_left _ (List.mem_append_right _ h))))
set_option maxHeartbeats 4000000 in
set_option maxRecDepth 100000 in
theorem zX9_dropTickets (l : Launch) (D : va_G) (x : Nat → Nat) (cy : Nat → ClassId) (g : Nat → Nat → Option Nat) (L : List Nat) (K : Nat → Nat) (hG : GO L K g) (N : Nat → Nat) (n : Nat → Int32) (a : Nat → Nat → Int32) (r : Nat → Nat → Option Nat) (f : Nat → va_E) (hC : CI L K cy N r f) (sz : Nat) (rd : Nat) (mrd : rd ∈ L ∧ K rd = 6) : Met l yX9_dropTickets wsX9_dropTickets ({ frames := 1, cells := 0, slots := 0, locals := 23 }) (PW D (TYS cy) (XW x cy g N n a r ++ va_pl L f) sz [.ref (x 0), .ref rd]) (va_Qv (fun (u : ST) => CI L K cy u.1 u.2.2.2.1 u.2.2.2.2 ∧ SM N u.1 n u.2.1 ∧ MM N u.1 a u.2.2.1 ∧ True) (BU D (TYS cy) (XW x cy g N n a r ++ va_pl L f) (WC x cy g L) sz) (va_A (XW x cy g N n a r ++ va_pl L f) sz)) 0 0 (va_A (XW x cy g N n a r ++ va_pl L f) sz) := by
  refine Met.ofW (cc := cX9_dropTickets) (maxL := 3) (ret := none) (by decide) rfl ?_
  intro p e s m args below meth c s₁ B hml hv
  obtain ⟨rfl, hsz, hP, hK, hD0⟩ := hv
  have hx := B.exec
  have hb := B.bytes
  have hr := B.returns
  have hts := atoms_spec (ws := wsX9_dropTickets) B.pre
  have hown : s.vm.findClass RX9 = some m.cls := findClass_of_methodNamed B.named
  have hlocks := B.notSynchronized
  subst hsz
  obtain ⟨hNB, hRB, hHT⟩ := hC
  have hSM : SM N N n n := SM_rf
  have hMM : MM N N a a := MM_rf
  have hD := hD0.self (sz := s.heap.size)
  have hA : ∀ q9 : Nat, s.heap.size ≤ q9 → va_A (XW x cy g N n a r ++ va_pl L f) s.heap.size q9 := fun q9 h => Or.inr h
  have hS : va_S (va_A (XW x cy g N n a r ++ va_pl L f) s.heap.size) s.heap s.heap [] := va_S.rf
  have hl := lv_entry ([.ref (x 0), .ref rd]) (n := 3) (Nat.le_of_ble_eq_true rfl)
  rw [lg_entry_eq]
  generalize (lg_sl ([.ref (x 0), .ref rd]) ++ List.replicate (3 - (lg_sl ([.ref (x 0), .ref rd])).length) Slot.unset).toArray = ls at hl ⊢
  have hl : lv_has ls 3 [(0, .ref (x 0)), (1, .ref rd)] := hl
  refine lv_aload_n hx hb dX9_dropTickets_0 rfl (lv_at hl 0 rfl) ?_
  refine va_get (D := D) (ci := 9) (v := .ref (x 10)) (C := RX9) (T := TX9) (N := 19) hx hb hts iX9_dropTickets_9 hown hK hP 0 rfl rfl 6 (by decide) (hts (.fieldLink RX9 51 "FondsRoom" "boxTickets" "LFondsRoom$Line;") (by decide +kernel)) (fun _ h9 => h9) rfl dX9_dropTickets_1 ?_
  refine lv_aload_n hx hb dX9_dropTickets_4 rfl (lv_at hl 1 rfl) ?_
  refine gvV (As := [.ref rd]) (rest := []) ⟨hx, hb, hml, hown, hts⟩ (zX3_remove_1 l D x cy g L K hG N n a r f ⟨hNB, hRB, hHT⟩ _ rd  ⟨mrd.1, mrd.2⟩) (cwV 1 hts gX9_dropTickets_X3_remove rfl rfl rfl (by decide +kernel) ⟨Nat.le_of_ble_eq_true rfl, Nat.le_of_ble_eq_true rfl⟩) hK hP hD hS hA (va_recv hK hP (ci := 3) (q0 := 10) rfl rfl) rfl hl.1 rfl (Nat.le_of_ble_eq_true rfl) dX9_dropTickets_5 ⟨Nat.le_of_ble_eq_true rfl, Nat.le_of_ble_eq_true rfl⟩ (fun u2 H locs hq1 hP hD hS => ?_)
  obtain ⟨N3, n4, a5, r6, f7⟩ := u2
  obtain ⟨⟨hNB, hRB, hHT⟩, hs8, hv9, hq1b⟩ := hq1
  have hSM : SM N N3 n n4 := SM_tr hSM hs8
  have hMM : MM N N3 a a5 := MM_tr hMM hv9
  have hP : va_P D vwCl (XW x cy g N3 n4 a5 r6 ++ va_pl L f7) H := hP
  have hD : va_D _ (XW x cy g N3 n4 a5 r6 ++ va_pl L f7) := hD
  refine lv_aload_n hx hb dX9_dropTickets_8 rfl (lv_at hl 0 rfl) ?_
  refine va_get (D := D) (ci := 9) (v := .ref (x 12)) (C := RX9) (T := TX9) (N := 19) hx hb hts iX9_dropTickets_9 hown hK hP 0 rfl rfl 7 (by decide) (hts (.fieldLink RX9 54 "FondsRoom" "copyTickets" "LFondsRoom$Line;") (by decide +kernel)) (fun _ h9 => h9) rfl dX9_dropTickets_9 ?_
  refine lv_aload_n hx hb dX9_dropTickets_12 rfl (lv_at hl 1 rfl) ?_
  refine gvV (As := [.ref rd]) (rest := []) ⟨hx, hb, hml, hown, hts⟩ (zX3_remove_2 l D x cy g L K hG N3 n4 a5 r6 f7 ⟨hNB, hRB, hHT⟩ _ rd  ⟨mrd.1, mrd.2⟩) (cwV 1 hts gX9_dropTickets_X3_remove rfl rfl rfl (by decide +kernel) ⟨Nat.le_of_ble_eq_true rfl, Nat.le_of_ble_eq_true rfl⟩) hK hP hD hS hA (va_recv hK hP (ci := 3) (q0 := 12) rfl rfl) rfl hl.1 rfl (Nat.le_of_ble_eq_true rfl) dX9_dropTickets_13 ⟨Nat.le_of_ble_eq_true rfl, Nat.le_of_ble_eq_true rfl⟩ (fun u11 H locs hq10 hP hD hS => ?_)
  obtain ⟨N12, n13, a14, r15, f16⟩ := u11
  obtain ⟨⟨hNB, hRB, hHT⟩, hs17, hv18, hq10b⟩ := hq10
  have hSM : SM N N12 n n13 := SM_tr hSM hs17
  have hMM : MM N N12 a a14 := MM_tr hMM hv18
  have hP : va_P D vwCl (XW x cy g N12 n13 a14 r15 ++ va_pl L f16) H := hP
  have hD : va_D _ (XW x cy g N12 n13 a14 r15 ++ va_pl L f16) := hD
  refine lv_aload_n hx hb dX9_dropTickets_16 rfl (lv_at hl 1 rfl) ?_
  obtain ⟨n_o19, p_o19, ar_o19, rk_o19, nw_o19, st_o19, ct_o19, d_o19, aw_o19, rl_o19, cp_o19, cu_o19, w1_o19, w2_o19, w3_o19, ov_o19, co_o19, hf_o19, sp_o19, snw_o19, sd_o19, saw_o19, scu_o19⟩ : TE L K cy 6 (f16 rd) := by rw [← mrd.2]; exact hHT rd mrd.1
  refine pg_get (D := D) (ci := 6) (v := va_rf aw_o19) (C := RX6) (T := TX6) (N := 17) hx hb hts iX9_dropTickets_6 hown hK hP mrd.1 hf_o19 rfl 8 (by decide) (hts (.fieldLink RX9 267 "FondsRoom$Reader" "awaited" "LFondsRoom$Box;") (by decide +kernel)) (fun _ h9 => h9) rfl dX9_dropTickets_17 ?_
  rcases eb20 : aw_o19 with _ | b20
  · skip
    subst eb20
    have hP : va_P D vwCl (XW x cy g N12 n13 a14 r15 ++ va_pl L f16) H := by assumption
    have hD : va_D (va_A (XW x cy g N n a r ++ va_pl L f) s.heap.size) (XW x cy g N12 n13 a14 r15 ++ va_pl L f16) := by assumption
    have hl : lv_has ls 3 [(0, .ref (x 0)), (1, .ref rd)] := by assumption
    refine lv_astore_nN (lv' := [(2, .null), (0, .ref (x 0)), (1, .ref rd)]) hx hb dX9_dropTickets_20 rfl hl (by decide) rfl (fun ls hl => ?_)
    refine lv_aload_nN hx hb dX9_dropTickets_21 rfl (lv_at hl 0 rfl) ?_
    refine lv_ifnullN (tgt := 38) hx hb dX9_dropTickets_22 (by decide) ?_
    refine lv_aload_n hx hb dX9_dropTickets_38 rfl (lv_at hl 2 rfl) ?_
    refine lv_null hx hb dX9_dropTickets_39 ?_
    refine pg_put (D := D) (ci := 6) (v := .null) (ty := (.object "FondsRoom$Box")) (C := RX6) (T := TX6) (N := 17) hx hb hts iX9_dropTickets_6 tyX6 tyX6_ok nmX6 hown hK hP hD hS mrd.1 hf_o19 rfl 8 (by decide) (hts (.fieldLink RX9 267 "FondsRoom$Reader" "awaited" "LFondsRoom$Box;") (by decide +kernel)) (fun _ h9 => h9) rfl (by decide +kernel) rfl rfl (Nat.le_of_ble_eq_true rfl) dX9_dropTickets_40 (fun H locs hP hD hS => ?_)
    obtain ⟨f21, ef21⟩ : ∃ z, z = va_up f16 rd (.inr (6, [.int n_o19, .ref p_o19, .int ar_o19, .int rk_o19, .int nw_o19, .int st_o19, .int ct_o19, va_rf d_o19, .null, .int rl_o19, .int cp_o19, .int cu_o19, .int w1_o19, .int w2_o19, .int w3_o19, .int ov_o19, .int co_o19])) := ⟨_, rfl⟩
    have hP : va_P D vwCl (XW x cy g N12 n13 a14 r15 ++ va_pl L f21) H := by rw [ef21]; exact hP
    have hD : va_D (va_A (XW x cy g N n a r ++ va_pl L f) s.heap.size) (XW x cy g N12 n13 a14 r15 ++ va_pl L f21) := by rw [ef21]; exact hD
    have hHT : HT L K cy f21 := by rw [ef21]; exact HT_up hHT 6 mrd.2 ⟨n_o19, p_o19, ar_o19, rk_o19, nw_o19, st_o19, ct_o19, d_o19, none, rl_o19, cp_o19, cu_o19, w1_o19, w2_o19, w3_o19, ov_o19, co_o19, rfl, ⟨sp_o19.1, sp_o19.2⟩, snw_o19, sd_o19, rok_none, scu_o19⟩
    have hf22 : f21 rd = .inr (6, [.int n_o19, .ref p_o19, .int ar_o19, .int rk_o19, .int nw_o19, .int st_o19, .int ct_o19, va_rf d_o19, .null, .int rl_o19, .int cp_o19, .int cu_o19, .int w1_o19, .int w2_o19, .int w3_o19, .int ov_o19, .int co_o19]) := by rw [ef21]; exact va_up_self _ _ _
    exact W.vret hx hb hr (fun t ht hW => ⟨⟨(N12, n13, a14, r15, f21), rfl, ⟨⟨hNB, hRB, hHT⟩, hSM, hMM, trivial⟩, by rw [ht]; exact hP, va_K.moved hW.alike hK, hD⟩, hS.F ht⟩) hS.2.2 dX9_dropTickets_43
  · skip
    subst eb20
    have mb20 := saw_o19 b20 rfl
    have hP : va_P D vwCl (XW x cy g N12 n13 a14 r15 ++ va_pl L f16) H := by assumption
    have hD : va_D (va_A (XW x cy g N n a r ++ va_pl L f) s.heap.size) (XW x cy g N12 n13 a14 r15 ++ va_pl L f16) := by assumption
    have hl : lv_has ls 3 [(0, .ref (x 0)), (1, .ref rd)] := by assumption
    refine lv_astore_n (lv' := [(2, .ref b20), (0, .ref (x 0)), (1, .ref rd)]) hx hb dX9_dropTickets_20 rfl hl (by decide) rfl (fun ls hl => ?_)
    refine lv_aload_n hx hb dX9_dropTickets_21 rfl (lv_at hl 0 rfl) ?_
    refine lv_ifnull hx hb dX9_dropTickets_22 ?_
    refine lv_aload_n hx hb dX9_dropTickets_25 rfl (lv_at hl 0 rfl) ?_
    obtain ⟨n_o23, fo_o23, pr_o23, pl_o23, h_o23, w_o23, hf_o23, spr_o23, sh_o23, sw_o23⟩ : TE L K cy 0 (f16 b20) := by rw [← mb20.2]; exact hHT b20 mb20.1
    refine pg_get (D := D) (ci := 0) (v := va_rf w_o23) (C := RX0) (T := TX0) (N := 6) hx hb hts iX9_dropTickets_0 hown hK hP mb20.1 hf_o23 rfl 5 (by decide) (hts (.fieldLink RX9 260 "FondsRoom$Box" "wanter" "LFondsRoom$Reader;") (by decide +kernel)) (fun _ h9 => h9) rfl dX9_dropTickets_26 ?_
    refine lv_aload_n hx hb dX9_dropTickets_29 rfl (lv_at hl 2 rfl) ?_
    refine lv_acmp_ne (rx := w_o23) (ry := (some rd)) (tgt := 38) hx hb dX9_dropTickets_30 (by decide) (fun c24 => ?_) (fun c24 => ?_)
    · skip
      refine lv_aload_n hx hb dX9_dropTickets_38 rfl (lv_at hl 2 rfl) ?_
      refine lv_null hx hb dX9_dropTickets_39 ?_
      refine pg_put (D := D) (ci := 6) (v := .null) (ty := (.object "FondsRoom$Box")) (C := RX6) (T := TX6) (N := 17) hx hb hts iX9_dropTickets_6 tyX6 tyX6_ok nmX6 hown hK hP hD hS mrd.1 hf_o19 rfl 8 (by decide) (hts (.fieldLink RX9 267 "FondsRoom$Reader" "awaited" "LFondsRoom$Box;") (by decide +kernel)) (fun _ h9 => h9) rfl (by decide +kernel) rfl rfl (Nat.le_of_ble_eq_true rfl) dX9_dropTickets_40 (fun H locs hP hD hS => ?_)
      obtain ⟨f25, ef25⟩ : ∃ z, z = va_up f16 rd (.inr (6, [.int n_o19, .ref p_o19, .int ar_o19, .int rk_o19, .int nw_o19, .int st_o19, .int ct_o19, va_rf d_o19, .null, .int rl_o19, .int cp_o19, .int cu_o19, .int w1_o19, .int w2_o19, .int w3_o19, .int ov_o19, .int co_o19])) := ⟨_, rfl⟩
      have hP : va_P D vwCl (XW x cy g N12 n13 a14 r15 ++ va_pl L f25) H := by rw [ef25]; exact hP
      have hD : va_D (va_A (XW x cy g N n a r ++ va_pl L f) s.heap.size) (XW x cy g N12 n13 a14 r15 ++ va_pl L f25) := by rw [ef25]; exact hD
      have hHT : HT L K cy f25 := by rw [ef25]; exact HT_up hHT 6 mrd.2 ⟨n_o19, p_o19, ar_o19, rk_o19, nw_o19, st_o19, ct_o19, d_o19, none, rl_o19, cp_o19, cu_o19, w1_o19, w2_o19, w3_o19, ov_o19, co_o19, rfl, ⟨sp_o19.1, sp_o19.2⟩, snw_o19, sd_o19, rok_none, scu_o19⟩
      have hf26 : f25 rd = .inr (6, [.int n_o19, .ref p_o19, .int ar_o19, .int rk_o19, .int nw_o19, .int st_o19, .int ct_o19, va_rf d_o19, .null, .int rl_o19, .int cp_o19, .int cu_o19, .int w1_o19, .int w2_o19, .int w3_o19, .int ov_o19, .int co_o19]) := by rw [ef25]; exact va_up_self _ _ _
      have hf27 : f25 b20 = .inr (0, [.int n_o23, .int fo_o23, .int pr_o23, .int pl_o23, va_rf h_o23, va_rf w_o23]) := by rw [ef25]; exact (va_up_ne _ _ (fun h9 => absurd (mb20.2.symm.trans ((congrArg K h9).trans mrd.2)) (by decide))).trans hf_o23
      exact W.vret hx hb hr (fun t ht hW => ⟨⟨(N12, n13, a14, r15, f25), rfl, ⟨⟨hNB, hRB, hHT⟩, hSM, hMM, trivial⟩, by rw [ht]; exact hP, va_K.moved hW.alike hK, hD⟩, hS.F ht⟩) hS.2.2 dX9_dropTickets_43
    · skip
      refine lv_aload_n hx hb dX9_dropTickets_33 rfl (lv_at hl 0 rfl) ?_
      refine lv_null hx hb dX9_dropTickets_34 ?_
      refine pg_put (D := D) (ci := 0) (v := .null) (ty := (.object "FondsRoom$Reader")) (C := RX0) (T := TX0) (N := 6) hx hb hts iX9_dropTickets_0 tyX0 tyX0_ok nmX0 hown hK hP hD hS mb20.1 hf_o23 rfl 5 (by decide) (hts (.fieldLink RX9 260 "FondsRoom$Box" "wanter" "LFondsRoom$Reader;") (by decide +kernel)) (fun _ h9 => h9) rfl (by decide +kernel) rfl rfl (Nat.le_of_ble_eq_true rfl) dX9_dropTickets_35 (fun H locs hP hD hS => ?_)
      obtain ⟨f28, ef28⟩ : ∃ z, z = va_up f16 b20 (.inr (0, [.int n_o23, .int fo_o23, .int pr_o23, .int pl_o23, va_rf h_o23, .null])) := ⟨_, rfl⟩
      have hP : va_P D vwCl (XW x cy g N12 n13 a14 r15 ++ va_pl L f28) H := by rw [ef28]; exact hP
      have hD : va_D (va_A (XW x cy g N n a r ++ va_pl L f) s.heap.size) (XW x cy g N12 n13 a14 r15 ++ va_pl L f28) := by rw [ef28]; exact hD
      have hHT : HT L K cy f28 := by rw [ef28]; exact HT_up hHT 0 mb20.2 ⟨n_o23, fo_o23, pr_o23, pl_o23, h_o23, none, rfl, spr_o23, sh_o23, rok_none⟩
      have hf29 : f28 b20 = .inr (0, [.int n_o23, .int fo_o23, .int pr_o23, .int pl_o23, va_rf h_o23, .null]) := by rw [ef28]; exact va_up_self _ _ _
      have hf30 : f28 rd = .inr (6, [.int n_o19, .ref p_o19, .int ar_o19, .int rk_o19, .int nw_o19, .int st_o19, .int ct_o19, va_rf d_o19, .ref b20, .int rl_o19, .int cp_o19, .int cu_o19, .int w1_o19, .int w2_o19, .int w3_o19, .int ov_o19, .int co_o19]) := by rw [ef28]; exact (va_up_ne _ _ (fun h9 => absurd (mrd.2.symm.trans ((congrArg K h9).trans mb20.2)) (by decide))).trans hf_o19
      refine lv_aload_n hx hb dX9_dropTickets_38 rfl (lv_at hl 2 rfl) ?_
      refine lv_null hx hb dX9_dropTickets_39 ?_
      refine pg_put (D := D) (ci := 6) (v := .null) (ty := (.object "FondsRoom$Box")) (C := RX6) (T := TX6) (N := 17) hx hb hts iX9_dropTickets_6 tyX6 tyX6_ok nmX6 hown hK hP hD hS mrd.1 hf30 rfl 8 (by decide) (hts (.fieldLink RX9 267 "FondsRoom$Reader" "awaited" "LFondsRoom$Box;") (by decide +kernel)) (fun _ h9 => h9) rfl (by decide +kernel) rfl rfl (Nat.le_of_ble_eq_true rfl) dX9_dropTickets_40 (fun H locs hP hD hS => ?_)
      obtain ⟨f31, ef31⟩ : ∃ z, z = va_up f28 rd (.inr (6, [.int n_o19, .ref p_o19, .int ar_o19, .int rk_o19, .int nw_o19, .int st_o19, .int ct_o19, va_rf d_o19, .null, .int rl_o19, .int cp_o19, .int cu_o19, .int w1_o19, .int w2_o19, .int w3_o19, .int ov_o19, .int co_o19])) := ⟨_, rfl⟩
      have hP : va_P D vwCl (XW x cy g N12 n13 a14 r15 ++ va_pl L f31) H := by rw [ef31]; exact hP
      have hD : va_D (va_A (XW x cy g N n a r ++ va_pl L f) s.heap.size) (XW x cy g N12 n13 a14 r15 ++ va_pl L f31) := by rw [ef31]; exact hD
      have hHT : HT L K cy f31 := by rw [ef31]; exact HT_up hHT 6 mrd.2 ⟨n_o19, p_o19, ar_o19, rk_o19, nw_o19, st_o19, ct_o19, d_o19, none, rl_o19, cp_o19, cu_o19, w1_o19, w2_o19, w3_o19, ov_o19, co_o19, rfl, ⟨sp_o19.1, sp_o19.2⟩, snw_o19, sd_o19, rok_none, scu_o19⟩
      have hf32 : f31 rd = .inr (6, [.int n_o19, .ref p_o19, .int ar_o19, .int rk_o19, .int nw_o19, .int st_o19, .int ct_o19, va_rf d_o19, .null, .int rl_o19, .int cp_o19, .int cu_o19, .int w1_o19, .int w2_o19, .int w3_o19, .int ov_o19, .int co_o19]) := by rw [ef31]; exact va_up_self _ _ _
      have hf33 : f31 b20 = .inr (0, [.int n_o23, .int fo_o23, .int pr_o23, .int pl_o23, va_rf h_o23, .null]) := by rw [ef31]; exact (va_up_ne _ _ (fun h9 => absurd (mb20.2.symm.trans ((congrArg K h9).trans mrd.2)) (by decide))).trans hf29
      exact W.vret hx hb hr (fun t ht hW => ⟨⟨(N12, n13, a14, r15, f31), rfl, ⟨⟨hNB, hRB, hHT⟩, hSM, hMM, trivial⟩, by rw [ht]; exact hP, va_K.moved hW.alike hK, hD⟩, hS.F ht⟩) hS.2.2 dX9_dropTickets_43

theorem iX9_depart_0 : ∀ w ∈ wsX00, w ∈ wsX9_depart := fun _ h => List.mem_cons_of_mem _ (List.mem_append_left _ (List.mem_append_left _ (List.mem_append_left _ (List.mem_append_left _ (List.mem_append_right _ h)))))
theorem iX9_depart_1 : ∀ w ∈ wsX10, w ∈ wsX9_depart := fun _ h => List.mem_cons_of_mem _ (List.mem_append_left _ (List.mem_append_left _ (List.mem_append_right _ h)))
theorem iX9_depart_6 : ∀ w ∈ wsX60, w ∈ wsX9_depart := fun _ h => List.mem_cons_of_mem _ (List.mem_append_left _ (List.mem_append_left _ (List.mem_append_left _ (List.mem_append_right _ h))))
theorem iX9_depart_9 : ∀ w ∈ wsX90, w ∈ wsX9_depart := fun _ h => List.mem_cons_of_mem _ (List.mem_append_left _ (List.mem_append_left _ (List.mem_append_left _ (List.mem_append_left _ (List.mem_append_left _ (List.mem_append_right _ h))))))
set_option maxHeartbeats 4000000 in
set_option maxRecDepth 100000 in
theorem zX9_depart (l : Launch) (D : va_G) (x : Nat → Nat) (cy : Nat → ClassId) (g : Nat → Nat → Option Nat) (L : List Nat) (K : Nat → Nat) (hG : GO L K g) (N : Nat → Nat) (n : Nat → Int32) (a : Nat → Nat → Int32) (r : Nat → Nat → Option Nat) (f : Nat → va_E) (hC : CI L K cy N r f) (sz : Nat) (rd : Nat) (st0 : Int32) (mrd : rd ∈ L ∧ K rd = 6) : Met l yX9_depart wsX9_depart ({ frames := 2, cells := 0, slots := 0, locals := 45 }) (PW D (TYS cy) (XW x cy g N n a r ++ va_pl L f) sz [.ref (x 0), .ref rd, .int st0]) (va_Qv (fun (u : ST) => CI L K cy u.1 u.2.2.2.1 u.2.2.2.2 ∧ SM N u.1 n u.2.1 ∧ MM N u.1 a u.2.2.1 ∧ True) (BU D (TYS cy) (XW x cy g N n a r ++ va_pl L f) (WC x cy g L) sz) (va_A (XW x cy g N n a r ++ va_pl L f) sz)) 0 0 (va_A (XW x cy g N n a r ++ va_pl L f) sz) := by
  refine Met.ofW (cc := cX9_depart) (maxL := 5) (ret := none) (by decide) rfl ?_
  intro p e s m args below meth c s₁ B hml hv
  obtain ⟨rfl, hsz, hP, hK, hD0⟩ := hv
  have hx := B.exec
  have hb := B.bytes
  have hr := B.returns
  have hts := atoms_spec (ws := wsX9_depart) B.pre
  have hown : s.vm.findClass RX9 = some m.cls := findClass_of_methodNamed B.named
  have hlocks := B.notSynchronized
  subst hsz
  obtain ⟨hNB, hRB, hHT⟩ := hC
  have hSM : SM N N n n := SM_rf
  have hMM : MM N N a a := MM_rf
  have hD := hD0.self (sz := s.heap.size)
  have hA : ∀ q9 : Nat, s.heap.size ≤ q9 → va_A (XW x cy g N n a r ++ va_pl L f) s.heap.size q9 := fun q9 h => Or.inr h
  have hS : va_S (va_A (XW x cy g N n a r ++ va_pl L f) s.heap.size) s.heap s.heap [] := va_S.rf
  have hl := lv_entry ([.ref (x 0), .ref rd, .int st0]) (n := 5) (Nat.le_of_ble_eq_true rfl)
  rw [lg_entry_eq]
  generalize (lg_sl ([.ref (x 0), .ref rd, .int st0]) ++ List.replicate (5 - (lg_sl ([.ref (x 0), .ref rd, .int st0])).length) Slot.unset).toArray = ls at hl ⊢
  have hl : lv_has ls 5 [(0, .ref (x 0)), (1, .ref rd), (2, .int st0)] := hl
  refine lv_aload_n hx hb dX9_depart_0 rfl (lv_at hl 0 rfl) ?_
  refine va_get (D := D) (ci := 9) (v := .ref (x 8)) (C := RX9) (T := TX9) (N := 19) hx hb hts iX9_depart_9 hown hK hP 0 rfl rfl 5 (by decide) (hts (.fieldLink RX9 47 "FondsRoom" "deskLine" "LFondsRoom$Line;") (by decide +kernel)) (fun _ h9 => h9) rfl dX9_depart_1 ?_
  refine lv_aload_n hx hb dX9_depart_4 rfl (lv_at hl 1 rfl) ?_
  refine gvV (As := [.ref rd]) (rest := []) ⟨hx, hb, hml, hown, hts⟩ (zX3_remove_0 l D x cy g L K hG N n a r f ⟨hNB, hRB, hHT⟩ _ rd  ⟨mrd.1, mrd.2⟩) (cwV 1 hts gX9_depart_X3_remove rfl rfl rfl (by decide +kernel) ⟨Nat.le_of_ble_eq_true rfl, Nat.le_of_ble_eq_true rfl⟩) hK hP hD hS hA (va_recv hK hP (ci := 3) (q0 := 8) rfl rfl) rfl hl.1 rfl (Nat.le_of_ble_eq_true rfl) dX9_depart_5 ⟨Nat.le_of_ble_eq_true rfl, Nat.le_of_ble_eq_true rfl⟩ (fun u2 H locs hq1 hP hD hS => ?_)
  obtain ⟨N3, n4, a5, r6, f7⟩ := u2
  obtain ⟨⟨hNB, hRB, hHT⟩, hs8, hv9, hq1b⟩ := hq1
  have hSM : SM N N3 n n4 := SM_tr hSM hs8
  have hMM : MM N N3 a a5 := MM_tr hMM hv9
  have hP : va_P D vwCl (XW x cy g N3 n4 a5 r6 ++ va_pl L f7) H := hP
  have hD : va_D _ (XW x cy g N3 n4 a5 r6 ++ va_pl L f7) := hD
  refine lv_aload_n hx hb dX9_depart_8 rfl (lv_at hl 0 rfl) ?_
  refine lv_aload_n hx hb dX9_depart_9 rfl (lv_at hl 1 rfl) ?_
  refine gvV (As := [.ref rd]) (rest := []) ⟨hx, hb, hml, hown, hts⟩ (zX9_dropTickets l D x cy g L K hG N3 n4 a5 r6 f7 ⟨hNB, hRB, hHT⟩ _ rd  ⟨mrd.1, mrd.2⟩) (cwV 1 hts gX9_depart_X9_dropTickets rfl rfl rfl (by decide +kernel) ⟨Nat.le_of_ble_eq_true rfl, Nat.le_of_ble_eq_true rfl⟩) hK hP hD hS hA (va_recv hK hP (ci := 9) (q0 := 0) rfl rfl) rfl hl.1 rfl (Nat.le_of_ble_eq_true rfl) dX9_depart_10 ⟨Nat.le_of_ble_eq_true rfl, Nat.le_of_ble_eq_true rfl⟩ (fun u11 H locs hq10 hP hD hS => ?_)
  obtain ⟨N12, n13, a14, r15, f16⟩ := u11
  obtain ⟨⟨hNB, hRB, hHT⟩, hs17, hv18, hq10b⟩ := hq10
  have hSM : SM N N12 n n13 := SM_tr hSM hs17
  have hMM : MM N N12 a a14 := MM_tr hMM hv18
  have hP : va_P D vwCl (XW x cy g N12 n13 a14 r15 ++ va_pl L f16) H := hP
  have hD : va_D _ (XW x cy g N12 n13 a14 r15 ++ va_pl L f16) := hD
  refine lv_iconst (v := 0) hx hb dX9_depart_13 (by decide) ?_
  refine lv_istore_n (lv' := [(3, .int 0), (0, .ref (x 0)), (1, .ref rd), (2, .int st0)]) hx hb dX9_depart_14 rfl hl (by decide) rfl (fun ls hl => ?_)
  have key20 : ∀ (m9 j19 : Nat), 400 - j19 = m9 → j19 ≤ 400 → ∀ (N21 : Nat → Nat) (n22 : Nat → Int32) (a23 : Nat → Nat → Int32) (r24 : Nat → Nat → Option Nat) (f25 : Nat → va_E) , NB N21 → RB L K N21 r24 → HT L K cy f25 → SM N N21 n n22 → MM N N21 a a23 → ∀ (H : Heap) (locs : List Loc) (ls : Array Slot), va_P D vwCl (XW x cy g N21 n22 a23 r24 ++ va_pl L f25) H → va_D (va_A (XW x cy g N n a r ++ va_pl L f) s.heap.size) (XW x cy g N21 n22 a23 r24 ++ va_pl L f25) → va_S (va_A (XW x cy g N n a r ++ va_pl L f) s.heap.size) s.heap H locs → lv_has ls 5 [(3, .int (nI j19)), (0, .ref (x 0)), (1, .ref rd), (2, .int st0)] → W p l e (headSpec wsX9_depart ({ frames := 2, cells := 0, slots := 0, locals := 45 })).room s m #[.ref (x 0), .ref rd, .int st0] below meth c H locs 0 0 (MQ below (va_Qv (fun (u : ST) => CI L K cy u.1 u.2.2.2.1 u.2.2.2.2 ∧ SM N u.1 n u.2.1 ∧ MM N u.1 a u.2.2.1 ∧ True) (BU D (TYS cy) (XW x cy g N n a r ++ va_pl L f) (WC x cy g L) s.heap.size) (va_A (XW x cy g N n a r ++ va_pl L f) s.heap.size)) #[.ref (x 0), .ref rd, .int st0] s 0 0 (va_A (XW x cy g N n a r ++ va_pl L f) s.heap.size)) (F0 m 15 ls []) := by
    intro m9
    induction m9 using Nat.strongRecOn with
    | _ m9 ihkey20 =>
      intro j19 hm9 hj400 N21 n22 a23 r24 f25  hNB hRB hHT hSM hMM H locs ls hP hD hS hl
      subst hm9
      have nb0 : N21 0 ≤ 12 := hNB 0 (by decide)
      have nb1 : N21 1 ≤ 40 := hNB 1 (by decide)
      have nb2 : N21 2 ≤ 20 := hNB 2 (by decide)
      have nb3 : N21 3 ≤ 4 := hNB 3 (by decide)
      have nb4 : N21 4 ≤ 3 := hNB 4 (by decide)
      have nb5 : N21 5 ≤ 20 := hNB 5 (by decide)
      have nb6 : N21 6 ≤ 20 := hNB 6 (by decide)
      have nb7 : N21 7 ≤ 20 := hNB 7 (by decide)
      have nb8 : N21 8 ≤ 30 := hNB 8 (by decide)
      have nb9 : N21 9 ≤ 400 := hNB 9 (by decide)
      refine lv_iload_n hx hb dX9_depart_15 rfl (lv_at hl 0 rfl) ?_
      refine lv_aload_n hx hb dX9_depart_16 rfl (lv_at hl 1 rfl) ?_
      refine va_get (D := D) (ci := 9) (v := .int (nI (N21 1))) (C := RX9) (T := TX9) (N := 19) hx hb hts iX9_depart_9 hown hK hP 0 rfl rfl 11 (by decide) (hts (.fieldLink RX9 88 "FondsRoom" "boxCount" "I") (by decide +kernel)) (fun _ h9 => h9) rfl dX9_depart_17 ?_
      refine lv_icmp_ge (tgt := 68) hx hb dX9_depart_20 (by decide) (fun c26 => ?_) (fun c26 => ?_)
      · skip
        have dc26 : (N21 1) ≤ j19 := (nI_leI (a := (N21 1)) (b := j19) (by omega) (by omega)).mp c26
        refine lv_aload_n hx hb dX9_depart_68 rfl (lv_at hl 2 rfl) ?_
        obtain ⟨n_o27, p_o27, ar_o27, rk_o27, nw_o27, st_o27, ct_o27, d_o27, aw_o27, rl_o27, cp_o27, cu_o27, w1_o27, w2_o27, w3_o27, ov_o27, co_o27, hf_o27, sp_o27, snw_o27, sd_o27, saw_o27, scu_o27⟩ : TE L K cy 6 (f25 rd) := by rw [← mrd.2]; exact hHT rd mrd.1
        refine pg_get (D := D) (ci := 6) (v := va_rf d_o27) (C := RX6) (T := TX6) (N := 17) hx hb hts iX9_depart_6 hown hK hP mrd.1 hf_o27 rfl 7 (by decide) (hts (.fieldLink RX9 328 "FondsRoom$Reader" "desk" "LFondsRoom$Desk;") (by decide +kernel)) (fun _ h9 => h9) rfl dX9_depart_69 ?_
        rcases eb28 : d_o27 with _ | b28
        · skip
          subst eb28
          have hP : va_P D vwCl (XW x cy g N21 n22 a23 r24 ++ va_pl L f25) H := by assumption
          have hD : va_D (va_A (XW x cy g N n a r ++ va_pl L f) s.heap.size) (XW x cy g N21 n22 a23 r24 ++ va_pl L f25) := by assumption
          have hl : lv_has ls 5 [(3, .int (nI j19)), (0, .ref (x 0)), (1, .ref rd), (2, .int st0)] := by assumption
          refine lv_ifnullN (tgt := 88) hx hb dX9_depart_72 (by decide) ?_
          refine lv_aload_n hx hb dX9_depart_88 rfl (lv_at hl 2 rfl) ?_
          refine lv_iload_n hx hb dX9_depart_89 rfl (lv_at hl 3 rfl) ?_
          refine pg_put (D := D) (ci := 6) (v := .int st0) (ty := .int) (C := RX6) (T := TX6) (N := 17) hx hb hts iX9_depart_6 tyX6 tyX6_ok nmX6 hown hK hP hD hS mrd.1 hf_o27 rfl 5 (by decide) (hts (.fieldLink RX9 270 "FondsRoom$Reader" "state" "I") (by decide +kernel)) (fun _ h9 => h9) rfl (by decide +kernel) rfl rfl (Nat.le_of_ble_eq_true rfl) dX9_depart_90 (fun H locs hP hD hS => ?_)
          obtain ⟨f29, ef29⟩ : ∃ z, z = va_up f25 rd (.inr (6, [.int n_o27, .ref p_o27, .int ar_o27, .int rk_o27, .int nw_o27, .int st0, .int ct_o27, .null, va_rf aw_o27, .int rl_o27, .int cp_o27, .int cu_o27, .int w1_o27, .int w2_o27, .int w3_o27, .int ov_o27, .int co_o27])) := ⟨_, rfl⟩
          have hP : va_P D vwCl (XW x cy g N21 n22 a23 r24 ++ va_pl L f29) H := by rw [ef29]; exact hP
          have hD : va_D (va_A (XW x cy g N n a r ++ va_pl L f) s.heap.size) (XW x cy g N21 n22 a23 r24 ++ va_pl L f29) := by rw [ef29]; exact hD
          have hHT : HT L K cy f29 := by rw [ef29]; exact HT_up hHT 6 mrd.2 ⟨n_o27, p_o27, ar_o27, rk_o27, nw_o27, st0, ct_o27, none, aw_o27, rl_o27, cp_o27, cu_o27, w1_o27, w2_o27, w3_o27, ov_o27, co_o27, rfl, ⟨sp_o27.1, sp_o27.2⟩, snw_o27, rok_none, saw_o27, scu_o27⟩
          have hf30 : f29 rd = .inr (6, [.int n_o27, .ref p_o27, .int ar_o27, .int rk_o27, .int nw_o27, .int st0, .int ct_o27, .null, va_rf aw_o27, .int rl_o27, .int cp_o27, .int cu_o27, .int w1_o27, .int w2_o27, .int w3_o27, .int ov_o27, .int co_o27]) := by rw [ef29]; exact va_up_self _ _ _
          refine lv_aload_n hx hb dX9_depart_93 rfl (lv_at hl 1 rfl) ?_
          refine va_get (D := D) (ci := 9) (v := .ref (x 18)) (C := RX9) (T := TX9) (N := 19) hx hb hts iX9_depart_9 hown hK hP 0 rfl rfl 9 (by decide) (hts (.fieldLink RX9 67 "FondsRoom" "events" "LFondsRoom$Events;") (by decide +kernel)) (fun _ h9 => h9) rfl dX9_depart_94 ?_
          refine lv_aload_n hx hb dX9_depart_97 rfl (lv_at hl 1 rfl) ?_
          refine va_get (D := D) (ci := 9) (v := .int (n22 1)) (C := RX9) (T := TX9) (N := 19) hx hb hts iX9_depart_9 hown hK hP 0 rfl rfl 14 (by decide) (hts (.fieldLink RX9 78 "FondsRoom" "turn" "I") (by decide +kernel)) (fun _ h9 => h9) rfl dX9_depart_98 ?_
          refine lv_aload_n hx hb dX9_depart_101 rfl (lv_at hl 2 rfl) ?_
          refine pg_get (D := D) (ci := 6) (v := .int n_o27) (C := RX6) (T := TX6) (N := 17) hx hb hts iX9_depart_6 hown hK hP mrd.1 hf30 rfl 0 (by decide) (hts (.fieldLink RX9 273 "FondsRoom$Reader" "number" "I") (by decide +kernel)) (fun _ h9 => h9) rfl dX9_depart_102 ?_
          refine lv_bipush (v := 8) hx hb dX9_depart_105 (by decide) ?_
          refine lv_iload_n hx hb dX9_depart_107 rfl (lv_at hl 3 rfl) ?_
          refine gvV (As := [.int (n22 1), .int n_o27, .int 8, .int st0]) (rest := []) ⟨hx, hb, hml, hown, hts⟩ (zX2_keep l D x cy g L K hG N21 n22 a23 r24 f29 ⟨hNB, hRB, hHT⟩ _  (n22 1) n_o27 8 st0 ) (cwV 4 hts gX9_depart_X2_keep rfl rfl rfl (by decide +kernel) ⟨Nat.le_of_ble_eq_true rfl, Nat.le_of_ble_eq_true rfl⟩) hK hP hD hS hA (va_recv hK hP (ci := 2) (q0 := 18) rfl rfl) rfl hl.1 rfl (Nat.le_of_ble_eq_true rfl) dX9_depart_108 ⟨Nat.le_of_ble_eq_true rfl, Nat.le_of_ble_eq_true rfl⟩ (fun u32 H locs hq31 hP hD hS => ?_)
          obtain ⟨N33, n34, a35, r36, f37⟩ := u32
          obtain ⟨⟨hNB, hRB, hHT⟩, hs38, hv39, hq31b⟩ := hq31
          have hSM : SM N N33 n n34 := SM_tr hSM hs38
          have hMM : MM N N33 a a35 := MM_tr hMM hv39
          have hP : va_P D vwCl (XW x cy g N33 n34 a35 r36 ++ va_pl L f37) H := hP
          have hD : va_D _ (XW x cy g N33 n34 a35 r36 ++ va_pl L f37) := hD
          exact W.vret hx hb hr (fun t ht hW => ⟨⟨(N33, n34, a35, r36, f37), rfl, ⟨⟨hNB, hRB, hHT⟩, hSM, hMM, trivial⟩, by rw [ht]; exact hP, va_K.moved hW.alike hK, hD⟩, hS.F ht⟩) hS.2.2 dX9_depart_111
        · skip
          subst eb28
          have mb28 := sd_o27 b28 rfl
          have hP : va_P D vwCl (XW x cy g N21 n22 a23 r24 ++ va_pl L f25) H := by assumption
          have hD : va_D (va_A (XW x cy g N n a r ++ va_pl L f) s.heap.size) (XW x cy g N21 n22 a23 r24 ++ va_pl L f25) := by assumption
          have hl : lv_has ls 5 [(3, .int (nI j19)), (0, .ref (x 0)), (1, .ref rd), (2, .int st0)] := by assumption
          refine lv_ifnull hx hb dX9_depart_72 ?_
          refine lv_aload_n hx hb dX9_depart_75 rfl (lv_at hl 2 rfl) ?_
          refine pg_get (D := D) (ci := 6) (v := .ref b28) (C := RX6) (T := TX6) (N := 17) hx hb hts iX9_depart_6 hown hK hP mrd.1 hf_o27 rfl 7 (by decide) (hts (.fieldLink RX9 328 "FondsRoom$Reader" "desk" "LFondsRoom$Desk;") (by decide +kernel)) (fun _ h9 => h9) rfl dX9_depart_76 ?_
          refine lv_null hx hb dX9_depart_79 ?_
          obtain ⟨n_o40, wt_o40, s_o40, hf_o40, swt_o40, ss_o40⟩ : TE L K cy 1 (f25 b28) := by rw [← mb28.2]; exact hHT b28 mb28.1
          refine pg_put (D := D) (ci := 1) (v := .null) (ty := (.object "FondsRoom$Reader")) (C := RX1) (T := TX1) (N := 3) hx hb hts iX9_depart_1 tyX1 tyX1_ok nmX1 hown hK hP hD hS mb28.1 hf_o40 rfl 2 (by decide) (hts (.fieldLink RX9 348 "FondsRoom$Desk" "sitter" "LFondsRoom$Reader;") (by decide +kernel)) (fun _ h9 => h9) rfl (by decide +kernel) rfl rfl (Nat.le_of_ble_eq_true rfl) dX9_depart_80 (fun H locs hP hD hS => ?_)
          obtain ⟨f41, ef41⟩ : ∃ z, z = va_up f25 b28 (.inr (1, [.int n_o40, .int wt_o40, .null])) := ⟨_, rfl⟩
          have hP : va_P D vwCl (XW x cy g N21 n22 a23 r24 ++ va_pl L f41) H := by rw [ef41]; exact hP
          have hD : va_D (va_A (XW x cy g N n a r ++ va_pl L f) s.heap.size) (XW x cy g N21 n22 a23 r24 ++ va_pl L f41) := by rw [ef41]; exact hD
          have hHT : HT L K cy f41 := by rw [ef41]; exact HT_up hHT 1 mb28.2 ⟨n_o40, wt_o40, none, rfl, swt_o40, rok_none⟩
          have hf42 : f41 b28 = .inr (1, [.int n_o40, .int wt_o40, .null]) := by rw [ef41]; exact va_up_self _ _ _
          have hf43 : f41 rd = .inr (6, [.int n_o27, .ref p_o27, .int ar_o27, .int rk_o27, .int nw_o27, .int st_o27, .int ct_o27, .ref b28, va_rf aw_o27, .int rl_o27, .int cp_o27, .int cu_o27, .int w1_o27, .int w2_o27, .int w3_o27, .int ov_o27, .int co_o27]) := by rw [ef41]; exact (va_up_ne _ _ (fun h9 => absurd (mrd.2.symm.trans ((congrArg K h9).trans mb28.2)) (by decide))).trans hf_o27
          refine lv_aload_n hx hb dX9_depart_83 rfl (lv_at hl 2 rfl) ?_
          refine lv_null hx hb dX9_depart_84 ?_
          refine pg_put (D := D) (ci := 6) (v := .null) (ty := (.object "FondsRoom$Desk")) (C := RX6) (T := TX6) (N := 17) hx hb hts iX9_depart_6 tyX6 tyX6_ok nmX6 hown hK hP hD hS mrd.1 hf43 rfl 7 (by decide) (hts (.fieldLink RX9 328 "FondsRoom$Reader" "desk" "LFondsRoom$Desk;") (by decide +kernel)) (fun _ h9 => h9) rfl (by decide +kernel) rfl rfl (Nat.le_of_ble_eq_true rfl) dX9_depart_85 (fun H locs hP hD hS => ?_)
          obtain ⟨f44, ef44⟩ : ∃ z, z = va_up f41 rd (.inr (6, [.int n_o27, .ref p_o27, .int ar_o27, .int rk_o27, .int nw_o27, .int st_o27, .int ct_o27, .null, va_rf aw_o27, .int rl_o27, .int cp_o27, .int cu_o27, .int w1_o27, .int w2_o27, .int w3_o27, .int ov_o27, .int co_o27])) := ⟨_, rfl⟩
          have hP : va_P D vwCl (XW x cy g N21 n22 a23 r24 ++ va_pl L f44) H := by rw [ef44]; exact hP
          have hD : va_D (va_A (XW x cy g N n a r ++ va_pl L f) s.heap.size) (XW x cy g N21 n22 a23 r24 ++ va_pl L f44) := by rw [ef44]; exact hD
          have hHT : HT L K cy f44 := by rw [ef44]; exact HT_up hHT 6 mrd.2 ⟨n_o27, p_o27, ar_o27, rk_o27, nw_o27, st_o27, ct_o27, none, aw_o27, rl_o27, cp_o27, cu_o27, w1_o27, w2_o27, w3_o27, ov_o27, co_o27, rfl, ⟨sp_o27.1, sp_o27.2⟩, snw_o27, rok_none, saw_o27, scu_o27⟩
          have hf45 : f44 rd = .inr (6, [.int n_o27, .ref p_o27, .int ar_o27, .int rk_o27, .int nw_o27, .int st_o27, .int ct_o27, .null, va_rf aw_o27, .int rl_o27, .int cp_o27, .int cu_o27, .int w1_o27, .int w2_o27, .int w3_o27, .int ov_o27, .int co_o27]) := by rw [ef44]; exact va_up_self _ _ _
          have hf46 : f44 b28 = .inr (1, [.int n_o40, .int wt_o40, .null]) := by rw [ef44]; exact (va_up_ne _ _ (fun h9 => absurd (mb28.2.symm.trans ((congrArg K h9).trans mrd.2)) (by decide))).trans hf42
          refine lv_aload_n hx hb dX9_depart_88 rfl (lv_at hl 2 rfl) ?_
          refine lv_iload_n hx hb dX9_depart_89 rfl (lv_at hl 3 rfl) ?_
          refine pg_put (D := D) (ci := 6) (v := .int st0) (ty := .int) (C := RX6) (T := TX6) (N := 17) hx hb hts iX9_depart_6 tyX6 tyX6_ok nmX6 hown hK hP hD hS mrd.1 hf45 rfl 5 (by decide) (hts (.fieldLink RX9 270 "FondsRoom$Reader" "state" "I") (by decide +kernel)) (fun _ h9 => h9) rfl (by decide +kernel) rfl rfl (Nat.le_of_ble_eq_true rfl) dX9_depart_90 (fun H locs hP hD hS => ?_)
          obtain ⟨f47, ef47⟩ : ∃ z, z = va_up f44 rd (.inr (6, [.int n_o27, .ref p_o27, .int ar_o27, .int rk_o27, .int nw_o27, .int st0, .int ct_o27, .null, va_rf aw_o27, .int rl_o27, .int cp_o27, .int cu_o27, .int w1_o27, .int w2_o27, .int w3_o27, .int ov_o27, .int co_o27])) := ⟨_, rfl⟩
          have hP : va_P D vwCl (XW x cy g N21 n22 a23 r24 ++ va_pl L f47) H := by rw [ef47]; exact hP
          have hD : va_D (va_A (XW x cy g N n a r ++ va_pl L f) s.heap.size) (XW x cy g N21 n22 a23 r24 ++ va_pl L f47) := by rw [ef47]; exact hD
          have hHT : HT L K cy f47 := by rw [ef47]; exact HT_up hHT 6 mrd.2 ⟨n_o27, p_o27, ar_o27, rk_o27, nw_o27, st0, ct_o27, none, aw_o27, rl_o27, cp_o27, cu_o27, w1_o27, w2_o27, w3_o27, ov_o27, co_o27, rfl, ⟨sp_o27.1, sp_o27.2⟩, snw_o27, rok_none, saw_o27, scu_o27⟩
          have hf48 : f47 rd = .inr (6, [.int n_o27, .ref p_o27, .int ar_o27, .int rk_o27, .int nw_o27, .int st0, .int ct_o27, .null, va_rf aw_o27, .int rl_o27, .int cp_o27, .int cu_o27, .int w1_o27, .int w2_o27, .int w3_o27, .int ov_o27, .int co_o27]) := by rw [ef47]; exact va_up_self _ _ _
          have hf49 : f47 b28 = .inr (1, [.int n_o40, .int wt_o40, .null]) := by rw [ef47]; exact (va_up_ne _ _ (fun h9 => absurd (mb28.2.symm.trans ((congrArg K h9).trans mrd.2)) (by decide))).trans hf46
          refine lv_aload_n hx hb dX9_depart_93 rfl (lv_at hl 1 rfl) ?_
          refine va_get (D := D) (ci := 9) (v := .ref (x 18)) (C := RX9) (T := TX9) (N := 19) hx hb hts iX9_depart_9 hown hK hP 0 rfl rfl 9 (by decide) (hts (.fieldLink RX9 67 "FondsRoom" "events" "LFondsRoom$Events;") (by decide +kernel)) (fun _ h9 => h9) rfl dX9_depart_94 ?_
          refine lv_aload_n hx hb dX9_depart_97 rfl (lv_at hl 1 rfl) ?_
          refine va_get (D := D) (ci := 9) (v := .int (n22 1)) (C := RX9) (T := TX9) (N := 19) hx hb hts iX9_depart_9 hown hK hP 0 rfl rfl 14 (by decide) (hts (.fieldLink RX9 78 "FondsRoom" "turn" "I") (by decide +kernel)) (fun _ h9 => h9) rfl dX9_depart_98 ?_
          refine lv_aload_n hx hb dX9_depart_101 rfl (lv_at hl 2 rfl) ?_
          refine pg_get (D := D) (ci := 6) (v := .int n_o27) (C := RX6) (T := TX6) (N := 17) hx hb hts iX9_depart_6 hown hK hP mrd.1 hf48 rfl 0 (by decide) (hts (.fieldLink RX9 273 "FondsRoom$Reader" "number" "I") (by decide +kernel)) (fun _ h9 => h9) rfl dX9_depart_102 ?_
          refine lv_bipush (v := 8) hx hb dX9_depart_105 (by decide) ?_
          refine lv_iload_n hx hb dX9_depart_107 rfl (lv_at hl 3 rfl) ?_
          refine gvV (As := [.int (n22 1), .int n_o27, .int 8, .int st0]) (rest := []) ⟨hx, hb, hml, hown, hts⟩ (zX2_keep l D x cy g L K hG N21 n22 a23 r24 f47 ⟨hNB, hRB, hHT⟩ _  (n22 1) n_o27 8 st0 ) (cwV 4 hts gX9_depart_X2_keep rfl rfl rfl (by decide +kernel) ⟨Nat.le_of_ble_eq_true rfl, Nat.le_of_ble_eq_true rfl⟩) hK hP hD hS hA (va_recv hK hP (ci := 2) (q0 := 18) rfl rfl) rfl hl.1 rfl (Nat.le_of_ble_eq_true rfl) dX9_depart_108 ⟨Nat.le_of_ble_eq_true rfl, Nat.le_of_ble_eq_true rfl⟩ (fun u51 H locs hq50 hP hD hS => ?_)
          obtain ⟨N52, n53, a54, r55, f56⟩ := u51
          obtain ⟨⟨hNB, hRB, hHT⟩, hs57, hv58, hq50b⟩ := hq50
          have hSM : SM N N52 n n53 := SM_tr hSM hs57
          have hMM : MM N N52 a a54 := MM_tr hMM hv58
          have hP : va_P D vwCl (XW x cy g N52 n53 a54 r55 ++ va_pl L f56) H := hP
          have hD : va_D _ (XW x cy g N52 n53 a54 r55 ++ va_pl L f56) := hD
          exact W.vret hx hb hr (fun t ht hW => ⟨⟨(N52, n53, a54, r55, f56), rfl, ⟨⟨hNB, hRB, hHT⟩, hSM, hMM, trivial⟩, by rw [ht]; exact hP, va_K.moved hW.alike hK, hD⟩, hS.F ht⟩) hS.2.2 dX9_depart_111
      · skip
        have dc26 : j19 < (N21 1) := Nat.not_le.mp (fun h9 => c26 ((nI_leI (a := (N21 1)) (b := j19) (by omega) (by omega)).mpr h9))
        refine lv_aload_n hx hb dX9_depart_23 rfl (lv_at hl 1 rfl) ?_
        refine va_get (D := D) (ci := 9) (v := .ref (x 2)) (C := RX9) (T := TX9) (N := 19) hx hb hts iX9_depart_9 hown hK hP 0 rfl rfl 1 (by decide) (hts (.fieldLink RX9 20 "FondsRoom" "boxes" "[LFondsRoom$Box;") (by decide +kernel)) (fun _ h9 => h9) rfl dX9_depart_24 ?_
        refine lv_iload_n hx hb dX9_depart_27 rfl (lv_at hl 0 rfl) ?_
        refine va_aldq hx hb hK hP 2 3 rfl rfl (vp_in_nI (by omega) (by omega)) dX9_depart_28 ?_
        obtain ⟨p59, ep59, mp59, kp59⟩ := hG.2.1 j19 (by omega)
        refine lv_tov (v' := .ref p59) (by rw [nI_clamp (by omega)]; show va_rf (g 1 j19) = _; rw [ep59]; rfl) ?_
        refine lv_astore (lv' := [(4, .ref p59), (3, .int (nI j19)), (0, .ref (x 0)), (1, .ref rd), (2, .int st0)]) hx hb dX9_depart_29 hl (by decide) rfl (fun ls hl => ?_)
        refine lv_aload hx hb dX9_depart_31 (lv_at hl 0 rfl) ?_
        obtain ⟨n_o60, fo_o60, pr_o60, pl_o60, h_o60, w_o60, hf_o60, spr_o60, sh_o60, sw_o60⟩ : TE L K cy 0 (f25 p59) := by rw [← kp59]; exact hHT p59 mp59
        refine pg_get (D := D) (ci := 0) (v := va_rf h_o60) (C := RX0) (T := TX0) (N := 6) hx hb hts iX9_depart_0 hown hK hP mp59 hf_o60 rfl 4 (by decide) (hts (.fieldLink RX9 239 "FondsRoom$Box" "holder" "LFondsRoom$Reader;") (by decide +kernel)) (fun _ h9 => h9) rfl dX9_depart_33 ?_
        refine lv_aload_n hx hb dX9_depart_36 rfl (lv_at hl 3 rfl) ?_
        refine lv_acmp_ne (rx := h_o60) (ry := (some rd)) (tgt := 62) hx hb dX9_depart_37 (by decide) (fun c61 => ?_) (fun c61 => ?_)
        · skip
          refine lv_iinc (v := nI (j19 + 1)) (lv' := [(3, .int (nI (j19 + 1))), (4, .ref p59), (0, .ref (x 0)), (1, .ref rd), (2, .int st0)]) hx hb dX9_depart_62 hl (k := 1) rfl (by rw [← nI_1]; rfl) (by decide) rfl (fun ls hl => ?_)
          refine lv_goto (tgt := 15) hx hb dX9_depart_65 (by decide) ?_
          exact ihkey20 (400 - ((j19 + 1))) (by omega) ((j19 + 1)) rfl (by omega) N21 n22 a23 r24 f25  hNB hRB hHT hSM hMM _ _ _ hP hD hS (lv_sub hl [0, 2, 3, 4] rfl)
        · skip
          refine lv_aload hx hb dX9_depart_40 (lv_at hl 0 rfl) ?_
          refine lv_null hx hb dX9_depart_42 ?_
          refine pg_put (D := D) (ci := 0) (v := .null) (ty := (.object "FondsRoom$Reader")) (C := RX0) (T := TX0) (N := 6) hx hb hts iX9_depart_0 tyX0 tyX0_ok nmX0 hown hK hP hD hS mp59 hf_o60 rfl 4 (by decide) (hts (.fieldLink RX9 239 "FondsRoom$Box" "holder" "LFondsRoom$Reader;") (by decide +kernel)) (fun _ h9 => h9) rfl (by decide +kernel) rfl rfl (Nat.le_of_ble_eq_true rfl) dX9_depart_43 (fun H locs hP hD hS => ?_)
          obtain ⟨f62, ef62⟩ : ∃ z, z = va_up f25 p59 (.inr (0, [.int n_o60, .int fo_o60, .int pr_o60, .int pl_o60, .null, va_rf w_o60])) := ⟨_, rfl⟩
          have hP : va_P D vwCl (XW x cy g N21 n22 a23 r24 ++ va_pl L f62) H := by rw [ef62]; exact hP
          have hD : va_D (va_A (XW x cy g N n a r ++ va_pl L f) s.heap.size) (XW x cy g N21 n22 a23 r24 ++ va_pl L f62) := by rw [ef62]; exact hD
          have hHT : HT L K cy f62 := by rw [ef62]; exact HT_up hHT 0 kp59 ⟨n_o60, fo_o60, pr_o60, pl_o60, none, w_o60, rfl, spr_o60, rok_none, sw_o60⟩
          have hf63 : f62 p59 = .inr (0, [.int n_o60, .int fo_o60, .int pr_o60, .int pl_o60, .null, va_rf w_o60]) := by rw [ef62]; exact va_up_self _ _ _
          refine lv_aload hx hb dX9_depart_46 (lv_at hl 0 rfl) ?_
          refine pg_get (D := D) (ci := 0) (v := .int pl_o60) (C := RX0) (T := TX0) (N := 6) hx hb hts iX9_depart_0 hown hK hP mp59 hf63 rfl 3 (by decide) (hts (.fieldLink RX9 233 "FondsRoom$Box" "place" "I") (by decide +kernel)) (fun _ h9 => h9) rfl dX9_depart_48 ?_
          refine lv_bipush (v := 6) hx hb dX9_depart_51 (by decide) ?_
          refine lv_icmp_eq (tgt := 62) hx hb dX9_depart_53 (by decide) (fun c64 => ?_) (fun c64 => ?_)
          · skip
            refine lv_iinc (v := nI (j19 + 1)) (lv' := [(3, .int (nI (j19 + 1))), (4, .ref p59), (0, .ref (x 0)), (1, .ref rd), (2, .int st0)]) hx hb dX9_depart_62 hl (k := 1) rfl (by rw [← nI_1]; rfl) (by decide) rfl (fun ls hl => ?_)
            refine lv_goto (tgt := 15) hx hb dX9_depart_65 (by decide) ?_
            exact ihkey20 (400 - ((j19 + 1))) (by omega) ((j19 + 1)) rfl (by omega) N21 n22 a23 r24 f62  hNB hRB hHT hSM hMM _ _ _ hP hD hS (lv_sub hl [0, 2, 3, 4] rfl)
          · skip
            refine lv_aload hx hb dX9_depart_56 (lv_at hl 0 rfl) ?_
            refine lv_iconst (v := 2) hx hb dX9_depart_58 (by decide) ?_
            refine pg_put (D := D) (ci := 0) (v := .int 2) (ty := .int) (C := RX0) (T := TX0) (N := 6) hx hb hts iX9_depart_0 tyX0 tyX0_ok nmX0 hown hK hP hD hS mp59 hf63 rfl 3 (by decide) (hts (.fieldLink RX9 233 "FondsRoom$Box" "place" "I") (by decide +kernel)) (fun _ h9 => h9) rfl (by decide +kernel) rfl rfl (Nat.le_of_ble_eq_true rfl) dX9_depart_59 (fun H locs hP hD hS => ?_)
            obtain ⟨f65, ef65⟩ : ∃ z, z = va_up f62 p59 (.inr (0, [.int n_o60, .int fo_o60, .int pr_o60, .int 2, .null, va_rf w_o60])) := ⟨_, rfl⟩
            have hP : va_P D vwCl (XW x cy g N21 n22 a23 r24 ++ va_pl L f65) H := by rw [ef65]; exact hP
            have hD : va_D (va_A (XW x cy g N n a r ++ va_pl L f) s.heap.size) (XW x cy g N21 n22 a23 r24 ++ va_pl L f65) := by rw [ef65]; exact hD
            have hHT : HT L K cy f65 := by rw [ef65]; exact HT_up hHT 0 kp59 ⟨n_o60, fo_o60, pr_o60, 2, none, w_o60, rfl, spr_o60, rok_none, sw_o60⟩
            have hf66 : f65 p59 = .inr (0, [.int n_o60, .int fo_o60, .int pr_o60, .int 2, .null, va_rf w_o60]) := by rw [ef65]; exact va_up_self _ _ _
            refine lv_iinc (v := nI (j19 + 1)) (lv' := [(3, .int (nI (j19 + 1))), (4, .ref p59), (0, .ref (x 0)), (1, .ref rd), (2, .int st0)]) hx hb dX9_depart_62 hl (k := 1) rfl (by rw [← nI_1]; rfl) (by decide) rfl (fun ls hl => ?_)
            refine lv_goto (tgt := 15) hx hb dX9_depart_65 (by decide) ?_
            exact ihkey20 (400 - ((j19 + 1))) (by omega) ((j19 + 1)) rfl (by omega) N21 n22 a23 r24 f65  hNB hRB hHT hSM hMM _ _ _ hP hD hS (lv_sub hl [0, 2, 3, 4] rfl)
  have nb0 : N12 0 ≤ 12 := hNB 0 (by decide)
  have nb1 : N12 1 ≤ 40 := hNB 1 (by decide)
  have nb2 : N12 2 ≤ 20 := hNB 2 (by decide)
  have nb3 : N12 3 ≤ 4 := hNB 3 (by decide)
  have nb4 : N12 4 ≤ 3 := hNB 4 (by decide)
  have nb5 : N12 5 ≤ 20 := hNB 5 (by decide)
  have nb6 : N12 6 ≤ 20 := hNB 6 (by decide)
  have nb7 : N12 7 ≤ 20 := hNB 7 (by decide)
  have nb8 : N12 8 ≤ 30 := hNB 8 (by decide)
  have nb9 : N12 9 ≤ 400 := hNB 9 (by decide)
  exact key20 (400 - (0)) (0) rfl (by omega) N12 n13 a14 r15 f16  hNB hRB hHT hSM hMM _ _ _ hP hD hS (lv_sub hl [0, 1, 2, 3] rfl)

theorem iX9_stopFetcher_0 : ∀ w ∈ wsX00, w ∈ wsX9_stopFetcher := fun _ h => List.mem_cons_of_mem _ (List.mem_append_right _ h)
theorem iX9_stopFetcher_8 : ∀ w ∈ wsX80, w ∈ wsX9_stopFetcher := fun _ h => List.mem_cons_of_mem _ (List.mem_append_left _ (List.mem_append_right _ h))
set_option maxHeartbeats 4000000 in
set_option maxRecDepth 100000 in
theorem zX9_stopFetcher (l : Launch) (D : va_G) (x : Nat → Nat) (cy : Nat → ClassId) (g : Nat → Nat → Option Nat) (L : List Nat) (K : Nat → Nat) (hG : GO L K g) (N : Nat → Nat) (n : Nat → Int32) (a : Nat → Nat → Int32) (r : Nat → Nat → Option Nat) (f : Nat → va_E) (hC : CI L K cy N r f) (sz : Nat) (wk : Nat) (mwk : wk ∈ L ∧ K wk = 8) : Met l yX9_stopFetcher wsX9_stopFetcher ({ frames := 1, cells := 0, slots := 0, locals := 20 }) (PW D (TYS cy) (XW x cy g N n a r ++ va_pl L f) sz [.ref (x 0), .ref wk]) (va_Qv (fun (u : ST) => CI L K cy u.1 u.2.2.2.1 u.2.2.2.2 ∧ SM N u.1 n u.2.1 ∧ MM N u.1 a u.2.2.1 ∧ True) (BU D (TYS cy) (XW x cy g N n a r ++ va_pl L f) (WC x cy g L) sz) (va_A (XW x cy g N n a r ++ va_pl L f) sz)) 0 0 (va_A (XW x cy g N n a r ++ va_pl L f) sz) := by
  refine Met.ofW (cc := cX9_stopFetcher) (maxL := 3) (ret := none) (by decide) rfl ?_
  intro p e s m args below meth c s₁ B hml hv
  obtain ⟨rfl, hsz, hP, hK, hD0⟩ := hv
  have hx := B.exec
  have hb := B.bytes
  have hr := B.returns
  have hts := atoms_spec (ws := wsX9_stopFetcher) B.pre
  have hown : s.vm.findClass RX9 = some m.cls := findClass_of_methodNamed B.named
  have hlocks := B.notSynchronized
  subst hsz
  obtain ⟨hNB, hRB, hHT⟩ := hC
  have hSM : SM N N n n := SM_rf
  have hMM : MM N N a a := MM_rf
  have hD := hD0.self (sz := s.heap.size)
  have hA : ∀ q9 : Nat, s.heap.size ≤ q9 → va_A (XW x cy g N n a r ++ va_pl L f) s.heap.size q9 := fun q9 h => Or.inr h
  have hS : va_S (va_A (XW x cy g N n a r ++ va_pl L f) s.heap.size) s.heap s.heap [] := va_S.rf
  have hl := lv_entry ([.ref (x 0), .ref wk]) (n := 3) (Nat.le_of_ble_eq_true rfl)
  rw [lg_entry_eq]
  generalize (lg_sl ([.ref (x 0), .ref wk]) ++ List.replicate (3 - (lg_sl ([.ref (x 0), .ref wk])).length) Slot.unset).toArray = ls at hl ⊢
  have hl : lv_has ls 3 [(0, .ref (x 0)), (1, .ref wk)] := hl
  refine lv_aload_n hx hb dX9_stopFetcher_0 rfl (lv_at hl 1 rfl) ?_
  obtain ⟨b_o1, g_o1, l_o1, hf_o1, sb_o1, sg_o1⟩ : TE L K cy 8 (f wk) := by rw [← mwk.2]; exact hHT wk mwk.1
  refine pg_get (D := D) (ci := 8) (v := va_rf b_o1) (C := RX8) (T := TX8) (N := 3) hx hb hts iX9_stopFetcher_8 hown hK hP mwk.1 hf_o1 rfl 0 (by decide) (hts (.fieldLink RX9 227 "FondsRoom$Worker" "box" "LFondsRoom$Box;") (by decide +kernel)) (fun _ h9 => h9) rfl dX9_stopFetcher_1 ?_
  rcases eb2 : b_o1 with _ | b2
  · skip
    subst eb2
    have hP : va_P D vwCl (XW x cy g N n a r ++ va_pl L f) s.heap := by assumption
    have hD : va_D (va_A (XW x cy g N n a r ++ va_pl L f) s.heap.size) (XW x cy g N n a r ++ va_pl L f) := by assumption
    have hl : lv_has ls 3 [(0, .ref (x 0)), (1, .ref wk)] := by assumption
    refine lv_astore_nN (lv' := [(2, .null), (0, .ref (x 0)), (1, .ref wk)]) hx hb dX9_stopFetcher_4 rfl hl (by decide) rfl (fun ls hl => ?_)
    refine lv_aload_nN hx hb dX9_stopFetcher_5 rfl (lv_at hl 0 rfl) ?_
    refine lv_ifnonnullN hx hb dX9_stopFetcher_6 ?_
    exact W.vret hx hb hr (fun t ht hW => ⟨⟨(N, n, a, r, f), rfl, ⟨⟨hNB, hRB, hHT⟩, hSM, hMM, trivial⟩, by rw [ht]; exact hP, va_K.moved hW.alike hK, hD⟩, hS.F ht⟩) hS.2.2 dX9_stopFetcher_9
  · skip
    subst eb2
    have mb2 := sb_o1 b2 rfl
    have hP : va_P D vwCl (XW x cy g N n a r ++ va_pl L f) s.heap := by assumption
    have hD : va_D (va_A (XW x cy g N n a r ++ va_pl L f) s.heap.size) (XW x cy g N n a r ++ va_pl L f) := by assumption
    have hl : lv_has ls 3 [(0, .ref (x 0)), (1, .ref wk)] := by assumption
    refine lv_astore_n (lv' := [(2, .ref b2), (0, .ref (x 0)), (1, .ref wk)]) hx hb dX9_stopFetcher_4 rfl hl (by decide) rfl (fun ls hl => ?_)
    refine lv_aload_n hx hb dX9_stopFetcher_5 rfl (lv_at hl 0 rfl) ?_
    refine lv_ifnonnull (tgt := 10) hx hb dX9_stopFetcher_6 (by decide) ?_
    refine lv_aload_n hx hb dX9_stopFetcher_10 rfl (lv_at hl 0 rfl) ?_
    refine lv_aload_n hx hb dX9_stopFetcher_11 rfl (lv_at hl 0 rfl) ?_
    obtain ⟨n_o3, fo_o3, pr_o3, pl_o3, h_o3, w_o3, hf_o3, spr_o3, sh_o3, sw_o3⟩ : TE L K cy 0 (f b2) := by rw [← mb2.2]; exact hHT b2 mb2.1
    refine pg_get (D := D) (ci := 0) (v := .int pl_o3) (C := RX0) (T := TX0) (N := 6) hx hb hts iX9_stopFetcher_0 hown hK hP mb2.1 hf_o3 rfl 3 (by decide) (hts (.fieldLink RX9 233 "FondsRoom$Box" "place" "I") (by decide +kernel)) (fun _ h9 => h9) rfl dX9_stopFetcher_12 ?_
    refine lv_iconst (v := 3) hx hb dX9_stopFetcher_15 (by decide) ?_
    refine lv_icmp_ne (tgt := 23) hx hb dX9_stopFetcher_16 (by decide) (fun c4 => ?_) (fun c4 => ?_)
    · skip
      refine lv_iconst (v := 2) hx hb dX9_stopFetcher_23 (by decide) ?_
      refine pg_put (D := D) (ci := 0) (v := .int 2) (ty := .int) (C := RX0) (T := TX0) (N := 6) hx hb hts iX9_stopFetcher_0 tyX0 tyX0_ok nmX0 hown hK hP hD hS mb2.1 hf_o3 rfl 3 (by decide) (hts (.fieldLink RX9 233 "FondsRoom$Box" "place" "I") (by decide +kernel)) (fun _ h9 => h9) rfl (by decide +kernel) rfl rfl (Nat.le_of_ble_eq_true rfl) dX9_stopFetcher_24 (fun H locs hP hD hS => ?_)
      obtain ⟨f5, ef5⟩ : ∃ z, z = va_up f b2 (.inr (0, [.int n_o3, .int fo_o3, .int pr_o3, .int 2, va_rf h_o3, va_rf w_o3])) := ⟨_, rfl⟩
      have hP : va_P D vwCl (XW x cy g N n a r ++ va_pl L f5) H := by rw [ef5]; exact hP
      have hD : va_D (va_A (XW x cy g N n a r ++ va_pl L f) s.heap.size) (XW x cy g N n a r ++ va_pl L f5) := by rw [ef5]; exact hD
      have hHT : HT L K cy f5 := by rw [ef5]; exact HT_up hHT 0 mb2.2 ⟨n_o3, fo_o3, pr_o3, 2, h_o3, w_o3, rfl, spr_o3, sh_o3, sw_o3⟩
      have hf6 : f5 b2 = .inr (0, [.int n_o3, .int fo_o3, .int pr_o3, .int 2, va_rf h_o3, va_rf w_o3]) := by rw [ef5]; exact va_up_self _ _ _
      have hf7 : f5 wk = .inr (8, [.ref b2, va_rf g_o1, .int l_o1]) := by rw [ef5]; exact (va_up_ne _ _ (fun h9 => absurd (mwk.2.symm.trans ((congrArg K h9).trans mb2.2)) (by decide))).trans hf_o1
      refine lv_aload_n hx hb dX9_stopFetcher_27 rfl (lv_at hl 2 rfl) ?_
      refine gvV (As := []) (rest := []) ⟨hx, hb, hml, hown, hts⟩ (zX8_release l D x cy g L K hG N n a r f5 ⟨hNB, hRB, hHT⟩ _ wk  ⟨mwk.1, mwk.2⟩) (cwV 0 hts gX9_stopFetcher_X8_release rfl rfl rfl (by decide +kernel) ⟨Nat.le_of_ble_eq_true rfl, Nat.le_of_ble_eq_true rfl⟩) hK hP hD hS hA (pl_recv hK hP (ci := 8) rfl mwk.1 hf7) rfl hl.1 rfl (Nat.le_of_ble_eq_true rfl) dX9_stopFetcher_28 ⟨Nat.le_of_ble_eq_true rfl, Nat.le_of_ble_eq_true rfl⟩ (fun u9 H locs hq8 hP hD hS => ?_)
      obtain ⟨N10, n11, a12, r13, f14⟩ := u9
      obtain ⟨⟨hNB, hRB, hHT⟩, hs15, hv16, hq8b⟩ := hq8
      have hSM : SM N N10 n n11 := SM_tr hSM hs15
      have hMM : MM N N10 a a12 := MM_tr hMM hv16
      have hP : va_P D vwCl (XW x cy g N10 n11 a12 r13 ++ va_pl L f14) H := hP
      have hD : va_D _ (XW x cy g N10 n11 a12 r13 ++ va_pl L f14) := hD
      exact W.vret hx hb hr (fun t ht hW => ⟨⟨(N10, n11, a12, r13, f14), rfl, ⟨⟨hNB, hRB, hHT⟩, hSM, hMM, trivial⟩, by rw [ht]; exact hP, va_K.moved hW.alike hK, hD⟩, hS.F ht⟩) hS.2.2 dX9_stopFetcher_31
    · skip
      refine lv_iconst (v := 0) hx hb dX9_stopFetcher_19 (by decide) ?_
      refine lv_goto (tgt := 24) hx hb dX9_stopFetcher_20 (by decide) ?_
      refine pg_put (D := D) (ci := 0) (v := .int 0) (ty := .int) (C := RX0) (T := TX0) (N := 6) hx hb hts iX9_stopFetcher_0 tyX0 tyX0_ok nmX0 hown hK hP hD hS mb2.1 hf_o3 rfl 3 (by decide) (hts (.fieldLink RX9 233 "FondsRoom$Box" "place" "I") (by decide +kernel)) (fun _ h9 => h9) rfl (by decide +kernel) rfl rfl (Nat.le_of_ble_eq_true rfl) dX9_stopFetcher_24 (fun H locs hP hD hS => ?_)
      obtain ⟨f17, ef17⟩ : ∃ z, z = va_up f b2 (.inr (0, [.int n_o3, .int fo_o3, .int pr_o3, .int 0, va_rf h_o3, va_rf w_o3])) := ⟨_, rfl⟩
      have hP : va_P D vwCl (XW x cy g N n a r ++ va_pl L f17) H := by rw [ef17]; exact hP
      have hD : va_D (va_A (XW x cy g N n a r ++ va_pl L f) s.heap.size) (XW x cy g N n a r ++ va_pl L f17) := by rw [ef17]; exact hD
      have hHT : HT L K cy f17 := by rw [ef17]; exact HT_up hHT 0 mb2.2 ⟨n_o3, fo_o3, pr_o3, 0, h_o3, w_o3, rfl, spr_o3, sh_o3, sw_o3⟩
      have hf18 : f17 b2 = .inr (0, [.int n_o3, .int fo_o3, .int pr_o3, .int 0, va_rf h_o3, va_rf w_o3]) := by rw [ef17]; exact va_up_self _ _ _
      have hf19 : f17 wk = .inr (8, [.ref b2, va_rf g_o1, .int l_o1]) := by rw [ef17]; exact (va_up_ne _ _ (fun h9 => absurd (mwk.2.symm.trans ((congrArg K h9).trans mb2.2)) (by decide))).trans hf_o1
      refine lv_aload_n hx hb dX9_stopFetcher_27 rfl (lv_at hl 2 rfl) ?_
      refine gvV (As := []) (rest := []) ⟨hx, hb, hml, hown, hts⟩ (zX8_release l D x cy g L K hG N n a r f17 ⟨hNB, hRB, hHT⟩ _ wk  ⟨mwk.1, mwk.2⟩) (cwV 0 hts gX9_stopFetcher_X8_release rfl rfl rfl (by decide +kernel) ⟨Nat.le_of_ble_eq_true rfl, Nat.le_of_ble_eq_true rfl⟩) hK hP hD hS hA (pl_recv hK hP (ci := 8) rfl mwk.1 hf19) rfl hl.1 rfl (Nat.le_of_ble_eq_true rfl) dX9_stopFetcher_28 ⟨Nat.le_of_ble_eq_true rfl, Nat.le_of_ble_eq_true rfl⟩ (fun u21 H locs hq20 hP hD hS => ?_)
      obtain ⟨N22, n23, a24, r25, f26⟩ := u21
      obtain ⟨⟨hNB, hRB, hHT⟩, hs27, hv28, hq20b⟩ := hq20
      have hSM : SM N N22 n n23 := SM_tr hSM hs27
      have hMM : MM N N22 a a24 := MM_tr hMM hv28
      have hP : va_P D vwCl (XW x cy g N22 n23 a24 r25 ++ va_pl L f26) H := hP
      have hD : va_D _ (XW x cy g N22 n23 a24 r25 ++ va_pl L f26) := hD
      exact W.vret hx hb hr (fun t ht hW => ⟨⟨(N22, n23, a24, r25, f26), rfl, ⟨⟨hNB, hRB, hHT⟩, hSM, hMM, trivial⟩, by rw [ht]; exact hP, va_K.moved hW.alike hK, hD⟩, hS.F ht⟩) hS.2.2 dX9_stopFetcher_31

theorem iX9_stopCopyist_0 : ∀ w ∈ wsX00, w ∈ wsX9_stopCopyist := fun _ h => List.mem_cons_of_mem _ (List.mem_append_right _ h)
theorem iX9_stopCopyist_8 : ∀ w ∈ wsX80, w ∈ wsX9_stopCopyist := fun _ h => List.mem_cons_of_mem _ (List.mem_append_left _ (List.mem_append_right _ h))
set_option maxHeartbeats 4000000 in
set_option maxRecDepth 100000 in
theorem zX9_stopCopyist (l : Launch) (D : va_G) (x : Nat → Nat) (cy : Nat → ClassId) (g : Nat → Nat → Option Nat) (L : List Nat) (K : Nat → Nat) (hG : GO L K g) (N : Nat → Nat) (n : Nat → Int32) (a : Nat → Nat → Int32) (r : Nat → Nat → Option Nat) (f : Nat → va_E) (hC : CI L K cy N r f) (sz : Nat) (wk : Nat) (mwk : wk ∈ L ∧ K wk = 8) : Met l yX9_stopCopyist wsX9_stopCopyist ({ frames := 1, cells := 0, slots := 0, locals := 20 }) (PW D (TYS cy) (XW x cy g N n a r ++ va_pl L f) sz [.ref (x 0), .ref wk]) (va_Qv (fun (u : ST) => CI L K cy u.1 u.2.2.2.1 u.2.2.2.2 ∧ SM N u.1 n u.2.1 ∧ MM N u.1 a u.2.2.1 ∧ True) (BU D (TYS cy) (XW x cy g N n a r ++ va_pl L f) (WC x cy g L) sz) (va_A (XW x cy g N n a r ++ va_pl L f) sz)) 0 0 (va_A (XW x cy g N n a r ++ va_pl L f) sz) := by
  refine Met.ofW (cc := cX9_stopCopyist) (maxL := 3) (ret := none) (by decide) rfl ?_
  intro p e s m args below meth c s₁ B hml hv
  obtain ⟨rfl, hsz, hP, hK, hD0⟩ := hv
  have hx := B.exec
  have hb := B.bytes
  have hr := B.returns
  have hts := atoms_spec (ws := wsX9_stopCopyist) B.pre
  have hown : s.vm.findClass RX9 = some m.cls := findClass_of_methodNamed B.named
  have hlocks := B.notSynchronized
  subst hsz
  obtain ⟨hNB, hRB, hHT⟩ := hC
  have hSM : SM N N n n := SM_rf
  have hMM : MM N N a a := MM_rf
  have hD := hD0.self (sz := s.heap.size)
  have hA : ∀ q9 : Nat, s.heap.size ≤ q9 → va_A (XW x cy g N n a r ++ va_pl L f) s.heap.size q9 := fun q9 h => Or.inr h
  have hS : va_S (va_A (XW x cy g N n a r ++ va_pl L f) s.heap.size) s.heap s.heap [] := va_S.rf
  have hl := lv_entry ([.ref (x 0), .ref wk]) (n := 3) (Nat.le_of_ble_eq_true rfl)
  rw [lg_entry_eq]
  generalize (lg_sl ([.ref (x 0), .ref wk]) ++ List.replicate (3 - (lg_sl ([.ref (x 0), .ref wk])).length) Slot.unset).toArray = ls at hl ⊢
  have hl : lv_has ls 3 [(0, .ref (x 0)), (1, .ref wk)] := hl
  refine lv_aload_n hx hb dX9_stopCopyist_0 rfl (lv_at hl 1 rfl) ?_
  obtain ⟨b_o1, g_o1, l_o1, hf_o1, sb_o1, sg_o1⟩ : TE L K cy 8 (f wk) := by rw [← mwk.2]; exact hHT wk mwk.1
  refine pg_get (D := D) (ci := 8) (v := va_rf b_o1) (C := RX8) (T := TX8) (N := 3) hx hb hts iX9_stopCopyist_8 hown hK hP mwk.1 hf_o1 rfl 0 (by decide) (hts (.fieldLink RX9 227 "FondsRoom$Worker" "box" "LFondsRoom$Box;") (by decide +kernel)) (fun _ h9 => h9) rfl dX9_stopCopyist_1 ?_
  rcases eb2 : b_o1 with _ | b2
  · skip
    subst eb2
    have hP : va_P D vwCl (XW x cy g N n a r ++ va_pl L f) s.heap := by assumption
    have hD : va_D (va_A (XW x cy g N n a r ++ va_pl L f) s.heap.size) (XW x cy g N n a r ++ va_pl L f) := by assumption
    have hl : lv_has ls 3 [(0, .ref (x 0)), (1, .ref wk)] := by assumption
    refine lv_astore_nN (lv' := [(2, .null), (0, .ref (x 0)), (1, .ref wk)]) hx hb dX9_stopCopyist_4 rfl hl (by decide) rfl (fun ls hl => ?_)
    refine lv_aload_nN hx hb dX9_stopCopyist_5 rfl (lv_at hl 0 rfl) ?_
    refine lv_ifnonnullN hx hb dX9_stopCopyist_6 ?_
    exact W.vret hx hb hr (fun t ht hW => ⟨⟨(N, n, a, r, f), rfl, ⟨⟨hNB, hRB, hHT⟩, hSM, hMM, trivial⟩, by rw [ht]; exact hP, va_K.moved hW.alike hK, hD⟩, hS.F ht⟩) hS.2.2 dX9_stopCopyist_9
  · skip
    subst eb2
    have mb2 := sb_o1 b2 rfl
    have hP : va_P D vwCl (XW x cy g N n a r ++ va_pl L f) s.heap := by assumption
    have hD : va_D (va_A (XW x cy g N n a r ++ va_pl L f) s.heap.size) (XW x cy g N n a r ++ va_pl L f) := by assumption
    have hl : lv_has ls 3 [(0, .ref (x 0)), (1, .ref wk)] := by assumption
    refine lv_astore_n (lv' := [(2, .ref b2), (0, .ref (x 0)), (1, .ref wk)]) hx hb dX9_stopCopyist_4 rfl hl (by decide) rfl (fun ls hl => ?_)
    refine lv_aload_n hx hb dX9_stopCopyist_5 rfl (lv_at hl 0 rfl) ?_
    refine lv_ifnonnull (tgt := 10) hx hb dX9_stopCopyist_6 (by decide) ?_
    refine lv_aload_n hx hb dX9_stopCopyist_10 rfl (lv_at hl 0 rfl) ?_
    refine lv_aload_n hx hb dX9_stopCopyist_11 rfl (lv_at hl 0 rfl) ?_
    obtain ⟨n_o3, fo_o3, pr_o3, pl_o3, h_o3, w_o3, hf_o3, spr_o3, sh_o3, sw_o3⟩ : TE L K cy 0 (f b2) := by rw [← mb2.2]; exact hHT b2 mb2.1
    refine pg_get (D := D) (ci := 0) (v := va_rf h_o3) (C := RX0) (T := TX0) (N := 6) hx hb hts iX9_stopCopyist_0 hown hK hP mb2.1 hf_o3 rfl 4 (by decide) (hts (.fieldLink RX9 239 "FondsRoom$Box" "holder" "LFondsRoom$Reader;") (by decide +kernel)) (fun _ h9 => h9) rfl dX9_stopCopyist_12 ?_
    rcases eb4 : h_o3 with _ | b4
    · skip
      subst eb4
      have hP : va_P D vwCl (XW x cy g N n a r ++ va_pl L f) s.heap := by assumption
      have hD : va_D (va_A (XW x cy g N n a r ++ va_pl L f) s.heap.size) (XW x cy g N n a r ++ va_pl L f) := by assumption
      have hl : lv_has ls 3 [(2, .ref b2), (0, .ref (x 0)), (1, .ref wk)] := by assumption
      refine lv_ifnullN (tgt := 22) hx hb dX9_stopCopyist_15 (by decide) ?_
      refine lv_iconst (v := 2) hx hb dX9_stopCopyist_22 (by decide) ?_
      refine pg_put (D := D) (ci := 0) (v := .int 2) (ty := .int) (C := RX0) (T := TX0) (N := 6) hx hb hts iX9_stopCopyist_0 tyX0 tyX0_ok nmX0 hown hK hP hD hS mb2.1 hf_o3 rfl 3 (by decide) (hts (.fieldLink RX9 233 "FondsRoom$Box" "place" "I") (by decide +kernel)) (fun _ h9 => h9) rfl (by decide +kernel) rfl rfl (Nat.le_of_ble_eq_true rfl) dX9_stopCopyist_23 (fun H locs hP hD hS => ?_)
      obtain ⟨f5, ef5⟩ : ∃ z, z = va_up f b2 (.inr (0, [.int n_o3, .int fo_o3, .int pr_o3, .int 2, .null, va_rf w_o3])) := ⟨_, rfl⟩
      have hP : va_P D vwCl (XW x cy g N n a r ++ va_pl L f5) H := by rw [ef5]; exact hP
      have hD : va_D (va_A (XW x cy g N n a r ++ va_pl L f) s.heap.size) (XW x cy g N n a r ++ va_pl L f5) := by rw [ef5]; exact hD
      have hHT : HT L K cy f5 := by rw [ef5]; exact HT_up hHT 0 mb2.2 ⟨n_o3, fo_o3, pr_o3, 2, none, w_o3, rfl, spr_o3, rok_none, sw_o3⟩
      have hf6 : f5 b2 = .inr (0, [.int n_o3, .int fo_o3, .int pr_o3, .int 2, .null, va_rf w_o3]) := by rw [ef5]; exact va_up_self _ _ _
      have hf7 : f5 wk = .inr (8, [.ref b2, va_rf g_o1, .int l_o1]) := by rw [ef5]; exact (va_up_ne _ _ (fun h9 => absurd (mwk.2.symm.trans ((congrArg K h9).trans mb2.2)) (by decide))).trans hf_o1
      refine lv_aload_n hx hb dX9_stopCopyist_26 rfl (lv_at hl 2 rfl) ?_
      refine gvV (As := []) (rest := []) ⟨hx, hb, hml, hown, hts⟩ (zX8_release l D x cy g L K hG N n a r f5 ⟨hNB, hRB, hHT⟩ _ wk  ⟨mwk.1, mwk.2⟩) (cwV 0 hts gX9_stopCopyist_X8_release rfl rfl rfl (by decide +kernel) ⟨Nat.le_of_ble_eq_true rfl, Nat.le_of_ble_eq_true rfl⟩) hK hP hD hS hA (pl_recv hK hP (ci := 8) rfl mwk.1 hf7) rfl hl.1 rfl (Nat.le_of_ble_eq_true rfl) dX9_stopCopyist_27 ⟨Nat.le_of_ble_eq_true rfl, Nat.le_of_ble_eq_true rfl⟩ (fun u9 H locs hq8 hP hD hS => ?_)
      obtain ⟨N10, n11, a12, r13, f14⟩ := u9
      obtain ⟨⟨hNB, hRB, hHT⟩, hs15, hv16, hq8b⟩ := hq8
      have hSM : SM N N10 n n11 := SM_tr hSM hs15
      have hMM : MM N N10 a a12 := MM_tr hMM hv16
      have hP : va_P D vwCl (XW x cy g N10 n11 a12 r13 ++ va_pl L f14) H := hP
      have hD : va_D _ (XW x cy g N10 n11 a12 r13 ++ va_pl L f14) := hD
      exact W.vret hx hb hr (fun t ht hW => ⟨⟨(N10, n11, a12, r13, f14), rfl, ⟨⟨hNB, hRB, hHT⟩, hSM, hMM, trivial⟩, by rw [ht]; exact hP, va_K.moved hW.alike hK, hD⟩, hS.F ht⟩) hS.2.2 dX9_stopCopyist_30
    · skip
      subst eb4
      have mb4 := sh_o3 b4 rfl
      have hP : va_P D vwCl (XW x cy g N n a r ++ va_pl L f) s.heap := by assumption
      have hD : va_D (va_A (XW x cy g N n a r ++ va_pl L f) s.heap.size) (XW x cy g N n a r ++ va_pl L f) := by assumption
      have hl : lv_has ls 3 [(2, .ref b2), (0, .ref (x 0)), (1, .ref wk)] := by assumption
      refine lv_ifnull hx hb dX9_stopCopyist_15 ?_
      refine lv_iconst (v := 5) hx hb dX9_stopCopyist_18 (by decide) ?_
      refine lv_goto (tgt := 23) hx hb dX9_stopCopyist_19 (by decide) ?_
      refine pg_put (D := D) (ci := 0) (v := .int 5) (ty := .int) (C := RX0) (T := TX0) (N := 6) hx hb hts iX9_stopCopyist_0 tyX0 tyX0_ok nmX0 hown hK hP hD hS mb2.1 hf_o3 rfl 3 (by decide) (hts (.fieldLink RX9 233 "FondsRoom$Box" "place" "I") (by decide +kernel)) (fun _ h9 => h9) rfl (by decide +kernel) rfl rfl (Nat.le_of_ble_eq_true rfl) dX9_stopCopyist_23 (fun H locs hP hD hS => ?_)
      obtain ⟨f17, ef17⟩ : ∃ z, z = va_up f b2 (.inr (0, [.int n_o3, .int fo_o3, .int pr_o3, .int 5, .ref b4, va_rf w_o3])) := ⟨_, rfl⟩
      have hP : va_P D vwCl (XW x cy g N n a r ++ va_pl L f17) H := by rw [ef17]; exact hP
      have hD : va_D (va_A (XW x cy g N n a r ++ va_pl L f) s.heap.size) (XW x cy g N n a r ++ va_pl L f17) := by rw [ef17]; exact hD
      have hHT : HT L K cy f17 := by rw [ef17]; exact HT_up hHT 0 mb2.2 ⟨n_o3, fo_o3, pr_o3, 5, (some b4), w_o3, rfl, spr_o3, (rok_some mb4.1 mb4.2), sw_o3⟩
      have hf18 : f17 b2 = .inr (0, [.int n_o3, .int fo_o3, .int pr_o3, .int 5, .ref b4, va_rf w_o3]) := by rw [ef17]; exact va_up_self _ _ _
      have hf19 : f17 wk = .inr (8, [.ref b2, va_rf g_o1, .int l_o1]) := by rw [ef17]; exact (va_up_ne _ _ (fun h9 => absurd (mwk.2.symm.trans ((congrArg K h9).trans mb2.2)) (by decide))).trans hf_o1
      refine lv_aload_n hx hb dX9_stopCopyist_26 rfl (lv_at hl 2 rfl) ?_
      refine gvV (As := []) (rest := []) ⟨hx, hb, hml, hown, hts⟩ (zX8_release l D x cy g L K hG N n a r f17 ⟨hNB, hRB, hHT⟩ _ wk  ⟨mwk.1, mwk.2⟩) (cwV 0 hts gX9_stopCopyist_X8_release rfl rfl rfl (by decide +kernel) ⟨Nat.le_of_ble_eq_true rfl, Nat.le_of_ble_eq_true rfl⟩) hK hP hD hS hA (pl_recv hK hP (ci := 8) rfl mwk.1 hf19) rfl hl.1 rfl (Nat.le_of_ble_eq_true rfl) dX9_stopCopyist_27 ⟨Nat.le_of_ble_eq_true rfl, Nat.le_of_ble_eq_true rfl⟩ (fun u21 H locs hq20 hP hD hS => ?_)
      obtain ⟨N22, n23, a24, r25, f26⟩ := u21
      obtain ⟨⟨hNB, hRB, hHT⟩, hs27, hv28, hq20b⟩ := hq20
      have hSM : SM N N22 n n23 := SM_tr hSM hs27
      have hMM : MM N N22 a a24 := MM_tr hMM hv28
      have hP : va_P D vwCl (XW x cy g N22 n23 a24 r25 ++ va_pl L f26) H := hP
      have hD : va_D _ (XW x cy g N22 n23 a24 r25 ++ va_pl L f26) := hD
      exact W.vret hx hb hr (fun t ht hW => ⟨⟨(N22, n23, a24, r25, f26), rfl, ⟨⟨hNB, hRB, hHT⟩, hSM, hMM, trivial⟩, by rw [ht]; exact hP, va_K.moved hW.alike hK, hD⟩, hS.F ht⟩) hS.2.2 dX9_stopCopyist_30
