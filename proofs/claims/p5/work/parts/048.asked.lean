theorem iX9_addStep_6 : ∀ w ∈ wsX60, w ∈ wsX9_addStep := fun _ h => List.mem_cons_of_mem _ (List.mem_append_left _ (List.mem_append_right _ h))
theorem iX9_addStep_9 : ∀ w ∈ wsX90, w ∈ wsX9_addStep := fun _ h => List.mem_cons_of_mem _ (List.mem_append_left _ (List.mem_append_left _ (List.mem_append_right _ h)))
set_option maxHeartbeats 4000000 in
set_option maxRecDepth 100000 in
theorem zX9_addStep (l : Launch) (D : va_G) (x : Nat → Nat) (cy : Nat → ClassId) (g : Nat → Nat → Option Nat) (L : List Nat) (K : Nat → Nat) (hG : GO L K g) (N : Nat → Nat) (n : Nat → Int32) (a : Nat → Nat → Int32) (r : Nat → Nat → Option Nat) (f : Nat → va_E) (hC : CI L K cy N r f) (sz : Nat) (rd1 k1 b1 a1 u1 : Int32) : Met l yX9_addStep wsX9_addStep ({ frames := 1, cells := 0, slots := 0, locals := 24 }) (PW D (TYS cy) (XW x cy g N n a r ++ va_pl L f) sz [.ref (x 0), .int rd1, .int k1, .int b1, .int a1, .int u1]) (va_Qi (fun (res : Int32) (u : ST) => CI L K cy u.1 u.2.2.2.1 u.2.2.2.2 ∧ SM N u.1 n u.2.1 ∧ MM N u.1 a u.2.2.1 ∧ b01 res) (BU D (TYS cy) (XW x cy g N n a r ++ va_pl L f) (WC x cy g L) sz) (va_A (XW x cy g N n a r ++ va_pl L f) sz)) 0 0 (va_A (XW x cy g N n a r ++ va_pl L f) sz) := by
  refine Met.ofW (cc := cX9_addStep) (maxL := 6) (ret := (some .boolean)) (by decide) rfl ?_
  intro p e s m args below meth c s₁ B hml hv
  obtain ⟨rfl, hsz, hP, hK, hD0⟩ := hv
  have hx := B.exec
  have hb := B.bytes
  have hr := B.returns
  have hts := atoms_spec (ws := wsX9_addStep) B.pre
  have hown : s.vm.findClass RX9 = some m.cls := findClass_of_methodNamed B.named
  have hlocks := B.notSynchronized
  subst hsz
  obtain ⟨hNB, hRB, hHT⟩ := hC
  have hSM : SM N N n n := SM_rf
  have hMM : MM N N a a := MM_rf
  have hD := hD0.self (sz := s.heap.size)
  have hA : ∀ q9 : Nat, s.heap.size ≤ q9 → va_A (XW x cy g N n a r ++ va_pl L f) s.heap.size q9 := fun q9 h => Or.inr h
  have hS : va_S (va_A (XW x cy g N n a r ++ va_pl L f) s.heap.size) s.heap s.heap [] := va_S.rf
  have hl := lv_entry ([.ref (x 0), .int rd1, .int k1, .int b1, .int a1, .int u1]) (n := 6) (Nat.le_of_ble_eq_true rfl)
  rw [lg_entry_eq]
  generalize (lg_sl ([.ref (x 0), .int rd1, .int k1, .int b1, .int a1, .int u1]) ++ List.replicate (6 - (lg_sl ([.ref (x 0), .int rd1, .int k1, .int b1, .int a1, .int u1])).length) Slot.unset).toArray = ls at hl ⊢
  have hl : lv_has ls 6 [(0, .ref (x 0)), (1, .int rd1), (2, .int k1), (3, .int b1), (4, .int a1), (5, .int u1)] := hl
  refine lv_aload_n hx hb dX9_addStep_0 rfl (lv_at hl 0 rfl) ?_
  refine lv_iload_n hx hb dX9_addStep_1 rfl (lv_at hl 1 rfl) ?_
  refine gvI (As := [.int rd1]) (rest := []) ⟨hx, hb, hml, hown, hts⟩ (zX9_isReader l D x cy g L K hG N n a r f ⟨hNB, hRB, hHT⟩ _  rd1 ) (cwV 1 hts gX9_addStep_X9_isReader rfl rfl rfl (by decide +kernel) ⟨Nat.le_of_ble_eq_true rfl, Nat.le_of_ble_eq_true rfl⟩) hK hP hD hS hA (va_recv hK hP (ci := 9) (q0 := 0) rfl rfl) rfl hl.1 rfl (Nat.le_of_ble_eq_true rfl) dX9_addStep_2 ⟨Nat.le_of_ble_eq_true rfl, Nat.le_of_ble_eq_true rfl⟩ (fun q1 u2 H locs hq1 hP hD hS => ?_)
  have hP : va_P D vwCl (XW x cy g N n a r ++ va_pl L f) H := hP
  have hD : va_D _ (XW x cy g N n a r ++ va_pl L f) := hD
  refine lv_if_eq (tgt := 20) hx hb dX9_addStep_5 (by decide) (fun c3 => ?_) (fun c3 => ?_)
  · skip
    refine lv_iconst (v := 0) hx hb dX9_addStep_20 (by decide) ?_
    exact W.zret (v := 0) hx hb hr (rfl) (fun t ht hW => ⟨⟨0, (N, n, a, r, f), rfl, ⟨⟨hNB, hRB, hHT⟩, hSM, hMM, Or.inl rfl⟩, by rw [ht]; exact hP, va_K.moved hW.alike hK, hD⟩, hS.F ht⟩) hS.2.2 dX9_addStep_21
  · skip
    obtain ⟨j4, hj4, rfl⟩ := hq1.2.mp c3
    refine lv_aload_n hx hb dX9_addStep_8 rfl (lv_at hl 0 rfl) ?_
    refine va_get (D := D) (ci := 9) (v := .ref (x 3)) (C := RX9) (T := TX9) (N := 19) hx hb hts iX9_addStep_9 hown hK hP 0 rfl rfl 2 (by decide) (hts (.fieldLink RX9 27 "FondsRoom" "readers" "[LFondsRoom$Reader;") (by decide +kernel)) (fun _ h9 => h9) rfl dX9_addStep_9 ?_
    refine lv_iload_n hx hb dX9_addStep_12 rfl (lv_at hl 1 rfl) ?_
    have nb0 : N 0 ≤ 12 := hNB 0 (by decide)
    have nb1 : N 1 ≤ 40 := hNB 1 (by decide)
    have nb2 : N 2 ≤ 20 := hNB 2 (by decide)
    have nb3 : N 3 ≤ 4 := hNB 3 (by decide)
    have nb4 : N 4 ≤ 3 := hNB 4 (by decide)
    have nb5 : N 5 ≤ 20 := hNB 5 (by decide)
    have nb6 : N 6 ≤ 20 := hNB 6 (by decide)
    have nb7 : N 7 ≤ 20 := hNB 7 (by decide)
    have nb8 : N 8 ≤ 30 := hNB 8 (by decide)
    have nb9 : N 9 ≤ 400 := hNB 9 (by decide)
    refine va_aldq hx hb hK hP 3 4 rfl rfl (vp_in_nI (by omega) (by omega)) dX9_addStep_13 ?_
    obtain ⟨p5, ep5, mp5, kp5⟩ := hG.2.2.1 j4 (by omega)
    refine lv_tov (v' := .ref p5) (by rw [nI_clamp (by omega)]; show va_rf (g 2 j4) = _; rw [ep5]; rfl) ?_
    refine gsI (As := [.ref p5]) (rest := []) ⟨hx, hb, hml, hown, hts⟩ (zX9_isAway l D x cy g L K hG N n a r f ⟨hNB, hRB, hHT⟩ _ p5  ⟨mp5, kp5⟩) (va_cwS 1 hts gX9_addStep_X9_isAway rfl rfl rfl (by decide +kernel) ⟨Nat.le_of_ble_eq_true rfl, Nat.le_of_ble_eq_true rfl⟩) hK hP hD hS hA rfl hl.1 rfl (Nat.le_of_ble_eq_true rfl) dX9_addStep_14 ⟨Nat.le_of_ble_eq_true rfl, Nat.le_of_ble_eq_true rfl⟩ (fun q6 u7 H locs hq6 hP hD hS => ?_)
    have hP : va_P D vwCl (XW x cy g N n a r ++ va_pl L f) H := hP
    have hD : va_D _ (XW x cy g N n a r ++ va_pl L f) := hD
    refine lv_if_eq (tgt := 22) hx hb dX9_addStep_17 (by decide) (fun c8 => ?_) (fun c8 => ?_)
    · skip
      refine lv_aload_n hx hb dX9_addStep_22 rfl (lv_at hl 0 rfl) ?_
      refine va_get (D := D) (ci := 9) (v := .ref (x 3)) (C := RX9) (T := TX9) (N := 19) hx hb hts iX9_addStep_9 hown hK hP 0 rfl rfl 2 (by decide) (hts (.fieldLink RX9 27 "FondsRoom" "readers" "[LFondsRoom$Reader;") (by decide +kernel)) (fun _ h9 => h9) rfl dX9_addStep_23 ?_
      refine lv_iload_n hx hb dX9_addStep_26 rfl (lv_at hl 1 rfl) ?_
      refine va_aldq hx hb hK hP 3 4 rfl rfl (vp_in_nI (by omega) (by omega)) dX9_addStep_27 ?_
      obtain ⟨p9, ep9, mp9, kp9⟩ := hG.2.2.1 j4 (by omega)
      refine lv_tov (v' := .ref p9) (by rw [nI_clamp (by omega)]; show va_rf (g 2 j4) = _; rw [ep9]; rfl) ?_
      obtain ⟨n_o10, p_o10, ar_o10, rk_o10, nw_o10, st_o10, ct_o10, d_o10, aw_o10, rl_o10, cp_o10, cu_o10, w1_o10, w2_o10, w3_o10, ov_o10, co_o10, hf_o10, sp_o10, snw_o10, sd_o10, saw_o10, scu_o10⟩ : TE L K cy 6 (f p9) := by rw [← kp9]; exact hHT p9 mp9
      refine pg_get (D := D) (ci := 6) (v := .ref p_o10) (C := RX6) (T := TX6) (N := 17) hx hb hts iX9_addStep_6 hown hK hP mp9 hf_o10 rfl 1 (by decide) (hts (.fieldLink RX9 135 "FondsRoom$Reader" "plan" "LFondsRoom$Plan;") (by decide +kernel)) (fun _ h9 => h9) rfl dX9_addStep_28 ?_
      refine lv_iload_n hx hb dX9_addStep_31 rfl (lv_at hl 2 rfl) ?_
      refine lv_iload_n hx hb dX9_addStep_32 rfl (lv_at hl 3 rfl) ?_
      refine lv_iload hx hb dX9_addStep_33 (lv_at hl 4 rfl) ?_
      refine lv_iload hx hb dX9_addStep_35 (lv_at hl 5 rfl) ?_
      obtain ⟨k1_o13, k2_o13, k3_o13, k4_o13, k5_o13, sz_o13, bg_o13, rf_o13, hf_o13, sk1_o13, sk2_o13, sk3_o13, sk4_o13, sk5_o13, ssz_o13, sbg_o13, srf_o13⟩ : TE L K cy 5 (f p_o10) := by rw [← sp_o10.2]; exact hHT p_o10 sp_o10.1
      refine gvI (As := [.int k1, .int b1, .int a1, .int u1]) (rest := []) ⟨hx, hb, hml, hown, hts⟩ (zX5_append l D x cy g L K hG N n a r f ⟨hNB, hRB, hHT⟩ _ p_o10 k1 b1 a1 u1 ⟨sp_o10.1, sp_o10.2⟩) (cwV 4 hts gX9_addStep_X5_append rfl rfl rfl (by decide +kernel) ⟨Nat.le_of_ble_eq_true rfl, Nat.le_of_ble_eq_true rfl⟩) hK hP hD hS hA (pl_recv hK hP (ci := 5) rfl sp_o10.1 hf_o13) rfl hl.1 rfl (Nat.le_of_ble_eq_true rfl) dX9_addStep_37 ⟨Nat.le_of_ble_eq_true rfl, Nat.le_of_ble_eq_true rfl⟩ (fun q11 u12 H locs hq11 hP hD hS => ?_)
      obtain ⟨N14, n15, a16, r17, f18⟩ := u12
      obtain ⟨⟨hNB, hRB, hHT⟩, hs19, hv20, hq11b⟩ := hq11
      have hSM : SM N N14 n n15 := SM_tr hSM hs19
      have hMM : MM N N14 a a16 := MM_tr hMM hv20
      have hP : va_P D vwCl (XW x cy g N14 n15 a16 r17 ++ va_pl L f18) H := hP
      have hD : va_D _ (XW x cy g N14 n15 a16 r17 ++ va_pl L f18) := hD
      exact W.zret (v := q11) hx hb hr ((nz01 hq11b).1) (fun t ht hW => ⟨⟨q11, (N14, n15, a16, r17, f18), rfl, ⟨⟨hNB, hRB, hHT⟩, hSM, hMM, hq11b⟩, by rw [ht]; exact hP, va_K.moved hW.alike hK, hD⟩, hS.F ht⟩) hS.2.2 dX9_addStep_40
    · skip
      refine lv_iconst (v := 0) hx hb dX9_addStep_20 (by decide) ?_
      exact W.zret (v := 0) hx hb hr (rfl) (fun t ht hW => ⟨⟨0, (N, n, a, r, f), rfl, ⟨⟨hNB, hRB, hHT⟩, hSM, hMM, Or.inl rfl⟩, by rw [ht]; exact hP, va_K.moved hW.alike hK, hD⟩, hS.F ht⟩) hS.2.2 dX9_addStep_21

set_option maxHeartbeats 4000000 in
set_option maxRecDepth 100000 in
theorem zX9_ask (l : Launch) (D : va_G) (x : Nat → Nat) (cy : Nat → ClassId) (g : Nat → Nat → Option Nat) (L : List Nat) (K : Nat → Nat) (hG : GO L K g) (N : Nat → Nat) (n : Nat → Int32) (a : Nat → Nat → Int32) (r : Nat → Nat → Option Nat) (f : Nat → va_E) (hC : CI L K cy N r f) (sz : Nat) (rd1 b1 : Int32) : Met l yX9_ask wsX9_ask ({ frames := 2, cells := 0, slots := 0, locals := 49 }) (PW D (TYS cy) (XW x cy g N n a r ++ va_pl L f) sz [.ref (x 0), .int rd1, .int b1]) (va_Qi (fun (res : Int32) (u : ST) => CI L K cy u.1 u.2.2.2.1 u.2.2.2.2 ∧ SM N u.1 n u.2.1 ∧ MM N u.1 a u.2.2.1 ∧ b01 res) (BU D (TYS cy) (XW x cy g N n a r ++ va_pl L f) (WC x cy g L) sz) (va_A (XW x cy g N n a r ++ va_pl L f) sz)) 0 0 (va_A (XW x cy g N n a r ++ va_pl L f) sz) := by
  refine Met.ofW (cc := cX9_ask) (maxL := 3) (ret := (some .boolean)) (by decide) rfl ?_
  intro p e s m args below meth c s₁ B hml hv
  obtain ⟨rfl, hsz, hP, hK, hD0⟩ := hv
  have hx := B.exec
  have hb := B.bytes
  have hr := B.returns
  have hts := atoms_spec (ws := wsX9_ask) B.pre
  have hown : s.vm.findClass RX9 = some m.cls := findClass_of_methodNamed B.named
  have hlocks := B.notSynchronized
  subst hsz
  obtain ⟨hNB, hRB, hHT⟩ := hC
  have hSM : SM N N n n := SM_rf
  have hMM : MM N N a a := MM_rf
  have hD := hD0.self (sz := s.heap.size)
  have hA : ∀ q9 : Nat, s.heap.size ≤ q9 → va_A (XW x cy g N n a r ++ va_pl L f) s.heap.size q9 := fun q9 h => Or.inr h
  have hS : va_S (va_A (XW x cy g N n a r ++ va_pl L f) s.heap.size) s.heap s.heap [] := va_S.rf
  have hl := lv_entry ([.ref (x 0), .int rd1, .int b1]) (n := 3) (Nat.le_of_ble_eq_true rfl)
  rw [lg_entry_eq]
  generalize (lg_sl ([.ref (x 0), .int rd1, .int b1]) ++ List.replicate (3 - (lg_sl ([.ref (x 0), .int rd1, .int b1])).length) Slot.unset).toArray = ls at hl ⊢
  have hl : lv_has ls 3 [(0, .ref (x 0)), (1, .int rd1), (2, .int b1)] := hl
  refine lv_aload_n hx hb dX9_ask_0 rfl (lv_at hl 0 rfl) ?_
  refine lv_iload_n hx hb dX9_ask_1 rfl (lv_at hl 2 rfl) ?_
  refine gvI (As := [.int b1]) (rest := []) ⟨hx, hb, hml, hown, hts⟩ (zX9_isBox l D x cy g L K hG N n a r f ⟨hNB, hRB, hHT⟩ _  b1 ) (cwV 1 hts gX9_ask_X9_isBox rfl rfl rfl (by decide +kernel) ⟨Nat.le_of_ble_eq_true rfl, Nat.le_of_ble_eq_true rfl⟩) hK hP hD hS hA (va_recv hK hP (ci := 9) (q0 := 0) rfl rfl) rfl hl.1 rfl (Nat.le_of_ble_eq_true rfl) dX9_ask_2 ⟨Nat.le_of_ble_eq_true rfl, Nat.le_of_ble_eq_true rfl⟩ (fun q1 u2 H locs hq1 hP hD hS => ?_)
  have hP : va_P D vwCl (XW x cy g N n a r ++ va_pl L f) H := hP
  have hD : va_D _ (XW x cy g N n a r ++ va_pl L f) := hD
  refine lv_if_eq (tgt := 24) hx hb dX9_ask_5 (by decide) (fun c3 => ?_) (fun c3 => ?_)
  · skip
    refine lv_iconst (v := 0) hx hb dX9_ask_24 (by decide) ?_
    exact W.zret (v := 0) hx hb hr (rfl) (fun t ht hW => ⟨⟨0, (N, n, a, r, f), rfl, ⟨⟨hNB, hRB, hHT⟩, hSM, hMM, Or.inl rfl⟩, by rw [ht]; exact hP, va_K.moved hW.alike hK, hD⟩, hS.F ht⟩) hS.2.2 dX9_ask_25
  · skip
    obtain ⟨j4, hj4, rfl⟩ := hq1.2.mp c3
    refine lv_aload_n hx hb dX9_ask_8 rfl (lv_at hl 0 rfl) ?_
    refine lv_iload_n hx hb dX9_ask_9 rfl (lv_at hl 1 rfl) ?_
    refine lv_iconst (v := 0) hx hb dX9_ask_10 (by decide) ?_
    refine lv_iload_n hx hb dX9_ask_11 rfl (lv_at hl 2 rfl) ?_
    refine lv_iconst (v := 0) hx hb dX9_ask_12 (by decide) ?_
    refine lv_iconst (v := 0) hx hb dX9_ask_13 (by decide) ?_
    refine gvI (As := [.int rd1, .int 0, .int (nI j4), .int 0, .int 0]) (rest := []) ⟨hx, hb, hml, hown, hts⟩ (zX9_addStep l D x cy g L K hG N n a r f ⟨hNB, hRB, hHT⟩ _  rd1 0 (nI j4) 0 0 ) (cwV 5 hts gX9_ask_X9_addStep rfl rfl rfl (by decide +kernel) ⟨Nat.le_of_ble_eq_true rfl, Nat.le_of_ble_eq_true rfl⟩) hK hP hD hS hA (va_recv hK hP (ci := 9) (q0 := 0) rfl rfl) rfl hl.1 rfl (Nat.le_of_ble_eq_true rfl) dX9_ask_14 ⟨Nat.le_of_ble_eq_true rfl, Nat.le_of_ble_eq_true rfl⟩ (fun q5 u6 H locs hq5 hP hD hS => ?_)
    obtain ⟨N7, n8, a9, r10, f11⟩ := u6
    obtain ⟨⟨hNB, hRB, hHT⟩, hs12, hv13, hq5b⟩ := hq5
    have hSM : SM N N7 n n8 := SM_tr hSM hs12
    have hMM : MM N N7 a a9 := MM_tr hMM hv13
    have hP : va_P D vwCl (XW x cy g N7 n8 a9 r10 ++ va_pl L f11) H := hP
    have hD : va_D _ (XW x cy g N7 n8 a9 r10 ++ va_pl L f11) := hD
    refine lv_if_eq (tgt := 24) hx hb dX9_ask_17 (by decide) (fun c14 => ?_) (fun c14 => ?_)
    · skip
      refine lv_iconst (v := 0) hx hb dX9_ask_24 (by decide) ?_
      exact W.zret (v := 0) hx hb hr (rfl) (fun t ht hW => ⟨⟨0, (N7, n8, a9, r10, f11), rfl, ⟨⟨hNB, hRB, hHT⟩, hSM, hMM, Or.inl rfl⟩, by rw [ht]; exact hP, va_K.moved hW.alike hK, hD⟩, hS.F ht⟩) hS.2.2 dX9_ask_25
    · skip
      refine lv_iconst (v := 1) hx hb dX9_ask_20 (by decide) ?_
      refine lv_goto (tgt := 25) hx hb dX9_ask_21 (by decide) ?_
      exact W.zret (v := 1) hx hb hr (rfl) (fun t ht hW => ⟨⟨1, (N7, n8, a9, r10, f11), rfl, ⟨⟨hNB, hRB, hHT⟩, hSM, hMM, Or.inr rfl⟩, by rw [ht]; exact hP, va_K.moved hW.alike hK, hD⟩, hS.F ht⟩) hS.2.2 dX9_ask_25

set_option maxHeartbeats 4000000 in
set_option maxRecDepth 100000 in
theorem zX9_read (l : Launch) (D : va_G) (x : Nat → Nat) (cy : Nat → ClassId) (g : Nat → Nat → Option Nat) (L : List Nat) (K : Nat → Nat) (hG : GO L K g) (N : Nat → Nat) (n : Nat → Int32) (a : Nat → Nat → Int32) (r : Nat → Nat → Option Nat) (f : Nat → va_E) (hC : CI L K cy N r f) (sz : Nat) (rd1 b1 : Int32) : Met l yX9_read wsX9_read ({ frames := 2, cells := 0, slots := 0, locals := 49 }) (PW D (TYS cy) (XW x cy g N n a r ++ va_pl L f) sz [.ref (x 0), .int rd1, .int b1]) (va_Qi (fun (res : Int32) (u : ST) => CI L K cy u.1 u.2.2.2.1 u.2.2.2.2 ∧ SM N u.1 n u.2.1 ∧ MM N u.1 a u.2.2.1 ∧ b01 res) (BU D (TYS cy) (XW x cy g N n a r ++ va_pl L f) (WC x cy g L) sz) (va_A (XW x cy g N n a r ++ va_pl L f) sz)) 0 0 (va_A (XW x cy g N n a r ++ va_pl L f) sz) := by
  refine Met.ofW (cc := cX9_read) (maxL := 3) (ret := (some .boolean)) (by decide) rfl ?_
  intro p e s m args below meth c s₁ B hml hv
  obtain ⟨rfl, hsz, hP, hK, hD0⟩ := hv
  have hx := B.exec
  have hb := B.bytes
  have hr := B.returns
  have hts := atoms_spec (ws := wsX9_read) B.pre
  have hown : s.vm.findClass RX9 = some m.cls := findClass_of_methodNamed B.named
  have hlocks := B.notSynchronized
  subst hsz
  obtain ⟨hNB, hRB, hHT⟩ := hC
  have hSM : SM N N n n := SM_rf
  have hMM : MM N N a a := MM_rf
  have hD := hD0.self (sz := s.heap.size)
  have hA : ∀ q9 : Nat, s.heap.size ≤ q9 → va_A (XW x cy g N n a r ++ va_pl L f) s.heap.size q9 := fun q9 h => Or.inr h
  have hS : va_S (va_A (XW x cy g N n a r ++ va_pl L f) s.heap.size) s.heap s.heap [] := va_S.rf
  have hl := lv_entry ([.ref (x 0), .int rd1, .int b1]) (n := 3) (Nat.le_of_ble_eq_true rfl)
  rw [lg_entry_eq]
  generalize (lg_sl ([.ref (x 0), .int rd1, .int b1]) ++ List.replicate (3 - (lg_sl ([.ref (x 0), .int rd1, .int b1])).length) Slot.unset).toArray = ls at hl ⊢
  have hl : lv_has ls 3 [(0, .ref (x 0)), (1, .int rd1), (2, .int b1)] := hl
  refine lv_iload_n hx hb dX9_read_0 rfl (lv_at hl 2 rfl) ?_
  refine lv_iconst (v := 1) hx hb dX9_read_1 (by decide) ?_
  refine lv_bipush (v := 50) hx hb dX9_read_2 (by decide) ?_
  refine gsI (As := [.int b1, .int 1, .int 50]) (rest := []) ⟨hx, hb, hml, hown, hts⟩ (zX9_isWithin l D x cy g L K hG N n a r f ⟨hNB, hRB, hHT⟩ _  b1 1 50 ) (va_cwS 3 hts gX9_read_X9_isWithin rfl rfl rfl (by decide +kernel) ⟨Nat.le_of_ble_eq_true rfl, Nat.le_of_ble_eq_true rfl⟩) hK hP hD hS hA rfl hl.1 rfl (Nat.le_of_ble_eq_true rfl) dX9_read_4 ⟨Nat.le_of_ble_eq_true rfl, Nat.le_of_ble_eq_true rfl⟩ (fun q1 u2 H locs hq1 hP hD hS => ?_)
  have hP : va_P D vwCl (XW x cy g N n a r ++ va_pl L f) H := hP
  have hD : va_D _ (XW x cy g N n a r ++ va_pl L f) := hD
  obtain rfl : q1 = sp_in b1 1 50 := hq1
  refine lv_if_eq (tgt := 26) hx hb dX9_read_7 (by decide) (fun c3 => ?_) (fun c3 => ?_)
  · skip
    refine lv_iconst (v := 0) hx hb dX9_read_26 (by decide) ?_
    exact W.zret (v := 0) hx hb hr (rfl) (fun t ht hW => ⟨⟨0, (N, n, a, r, f), rfl, ⟨⟨hNB, hRB, hHT⟩, hSM, hMM, Or.inl rfl⟩, by rw [ht]; exact hP, va_K.moved hW.alike hK, hD⟩, hS.F ht⟩) hS.2.2 dX9_read_27
  · skip
    refine lv_aload_n hx hb dX9_read_10 rfl (lv_at hl 0 rfl) ?_
    refine lv_iload_n hx hb dX9_read_11 rfl (lv_at hl 1 rfl) ?_
    refine lv_iconst (v := 1) hx hb dX9_read_12 (by decide) ?_
    refine lv_iconst (v := (-1)) hx hb dX9_read_13 (by decide) ?_
    refine lv_iload_n hx hb dX9_read_14 rfl (lv_at hl 2 rfl) ?_
    refine lv_iconst (v := 0) hx hb dX9_read_15 (by decide) ?_
    refine gvI (As := [.int rd1, .int 1, .int (-1), .int b1, .int 0]) (rest := []) ⟨hx, hb, hml, hown, hts⟩ (zX9_addStep l D x cy g L K hG N n a r f ⟨hNB, hRB, hHT⟩ _  rd1 1 (-1) b1 0 ) (cwV 5 hts gX9_read_X9_addStep rfl rfl rfl (by decide +kernel) ⟨Nat.le_of_ble_eq_true rfl, Nat.le_of_ble_eq_true rfl⟩) hK hP hD hS hA (va_recv hK hP (ci := 9) (q0 := 0) rfl rfl) rfl hl.1 rfl (Nat.le_of_ble_eq_true rfl) dX9_read_16 ⟨Nat.le_of_ble_eq_true rfl, Nat.le_of_ble_eq_true rfl⟩ (fun q4 u5 H locs hq4 hP hD hS => ?_)
    obtain ⟨N6, n7, a8, r9, f10⟩ := u5
    obtain ⟨⟨hNB, hRB, hHT⟩, hs11, hv12, hq4b⟩ := hq4
    have hSM : SM N N6 n n7 := SM_tr hSM hs11
    have hMM : MM N N6 a a8 := MM_tr hMM hv12
    have hP : va_P D vwCl (XW x cy g N6 n7 a8 r9 ++ va_pl L f10) H := hP
    have hD : va_D _ (XW x cy g N6 n7 a8 r9 ++ va_pl L f10) := hD
    refine lv_if_eq (tgt := 26) hx hb dX9_read_19 (by decide) (fun c13 => ?_) (fun c13 => ?_)
    · skip
      refine lv_iconst (v := 0) hx hb dX9_read_26 (by decide) ?_
      exact W.zret (v := 0) hx hb hr (rfl) (fun t ht hW => ⟨⟨0, (N6, n7, a8, r9, f10), rfl, ⟨⟨hNB, hRB, hHT⟩, hSM, hMM, Or.inl rfl⟩, by rw [ht]; exact hP, va_K.moved hW.alike hK, hD⟩, hS.F ht⟩) hS.2.2 dX9_read_27
    · skip
      refine lv_iconst (v := 1) hx hb dX9_read_22 (by decide) ?_
      refine lv_goto (tgt := 27) hx hb dX9_read_23 (by decide) ?_
      exact W.zret (v := 1) hx hb hr (rfl) (fun t ht hW => ⟨⟨1, (N6, n7, a8, r9, f10), rfl, ⟨⟨hNB, hRB, hHT⟩, hSM, hMM, Or.inr rfl⟩, by rw [ht]; exact hP, va_K.moved hW.alike hK, hD⟩, hS.F ht⟩) hS.2.2 dX9_read_27

set_option maxHeartbeats 4000000 in
set_option maxRecDepth 100000 in
theorem zX9_copy (l : Launch) (D : va_G) (x : Nat → Nat) (cy : Nat → ClassId) (g : Nat → Nat → Option Nat) (L : List Nat) (K : Nat → Nat) (hG : GO L K g) (N : Nat → Nat) (n : Nat → Int32) (a : Nat → Nat → Int32) (r : Nat → Nat → Option Nat) (f : Nat → va_E) (hC : CI L K cy N r f) (sz : Nat) (rd1 b1 p1 u1 : Int32) : Met l yX9_copy wsX9_copy ({ frames := 2, cells := 0, slots := 0, locals := 49 }) (PW D (TYS cy) (XW x cy g N n a r ++ va_pl L f) sz [.ref (x 0), .int rd1, .int b1, .int p1, .int u1]) (va_Qi (fun (res : Int32) (u : ST) => CI L K cy u.1 u.2.2.2.1 u.2.2.2.2 ∧ SM N u.1 n u.2.1 ∧ MM N u.1 a u.2.2.1 ∧ b01 res) (BU D (TYS cy) (XW x cy g N n a r ++ va_pl L f) (WC x cy g L) sz) (va_A (XW x cy g N n a r ++ va_pl L f) sz)) 0 0 (va_A (XW x cy g N n a r ++ va_pl L f) sz) := by
  refine Met.ofW (cc := cX9_copy) (maxL := 5) (ret := (some .boolean)) (by decide) rfl ?_
  intro p e s m args below meth c s₁ B hml hv
  obtain ⟨rfl, hsz, hP, hK, hD0⟩ := hv
  have hx := B.exec
  have hb := B.bytes
  have hr := B.returns
  have hts := atoms_spec (ws := wsX9_copy) B.pre
  have hown : s.vm.findClass RX9 = some m.cls := findClass_of_methodNamed B.named
  have hlocks := B.notSynchronized
  subst hsz
  obtain ⟨hNB, hRB, hHT⟩ := hC
  have hSM : SM N N n n := SM_rf
  have hMM : MM N N a a := MM_rf
  have hD := hD0.self (sz := s.heap.size)
  have hA : ∀ q9 : Nat, s.heap.size ≤ q9 → va_A (XW x cy g N n a r ++ va_pl L f) s.heap.size q9 := fun q9 h => Or.inr h
  have hS : va_S (va_A (XW x cy g N n a r ++ va_pl L f) s.heap.size) s.heap s.heap [] := va_S.rf
  have hl := lv_entry ([.ref (x 0), .int rd1, .int b1, .int p1, .int u1]) (n := 5) (Nat.le_of_ble_eq_true rfl)
  rw [lg_entry_eq]
  generalize (lg_sl ([.ref (x 0), .int rd1, .int b1, .int p1, .int u1]) ++ List.replicate (5 - (lg_sl ([.ref (x 0), .int rd1, .int b1, .int p1, .int u1])).length) Slot.unset).toArray = ls at hl ⊢
  have hl : lv_has ls 5 [(0, .ref (x 0)), (1, .int rd1), (2, .int b1), (3, .int p1), (4, .int u1)] := hl
  refine lv_aload_n hx hb dX9_copy_0 rfl (lv_at hl 0 rfl) ?_
  refine lv_iload_n hx hb dX9_copy_1 rfl (lv_at hl 2 rfl) ?_
  refine gvI (As := [.int b1]) (rest := []) ⟨hx, hb, hml, hown, hts⟩ (zX9_isBox l D x cy g L K hG N n a r f ⟨hNB, hRB, hHT⟩ _  b1 ) (cwV 1 hts gX9_copy_X9_isBox rfl rfl rfl (by decide +kernel) ⟨Nat.le_of_ble_eq_true rfl, Nat.le_of_ble_eq_true rfl⟩) hK hP hD hS hA (va_recv hK hP (ci := 9) (q0 := 0) rfl rfl) rfl hl.1 rfl (Nat.le_of_ble_eq_true rfl) dX9_copy_2 ⟨Nat.le_of_ble_eq_true rfl, Nat.le_of_ble_eq_true rfl⟩ (fun q1 u2 H locs hq1 hP hD hS => ?_)
  have hP : va_P D vwCl (XW x cy g N n a r ++ va_pl L f) H := hP
  have hD : va_D _ (XW x cy g N n a r ++ va_pl L f) := hD
  refine lv_if_eq (tgt := 35) hx hb dX9_copy_5 (by decide) (fun c3 => ?_) (fun c3 => ?_)
  · skip
    refine lv_iconst (v := 0) hx hb dX9_copy_35 (by decide) ?_
    exact W.zret (v := 0) hx hb hr (rfl) (fun t ht hW => ⟨⟨0, (N, n, a, r, f), rfl, ⟨⟨hNB, hRB, hHT⟩, hSM, hMM, Or.inl rfl⟩, by rw [ht]; exact hP, va_K.moved hW.alike hK, hD⟩, hS.F ht⟩) hS.2.2 dX9_copy_36
  · skip
    obtain ⟨j4, hj4, rfl⟩ := hq1.2.mp c3
    refine lv_iload_n hx hb dX9_copy_8 rfl (lv_at hl 3 rfl) ?_
    refine lv_iconst (v := 1) hx hb dX9_copy_9 (by decide) ?_
    refine lv_bipush (v := 30) hx hb dX9_copy_10 (by decide) ?_
    refine gsI (As := [.int p1, .int 1, .int 30]) (rest := []) ⟨hx, hb, hml, hown, hts⟩ (zX9_isWithin l D x cy g L K hG N n a r f ⟨hNB, hRB, hHT⟩ _  p1 1 30 ) (va_cwS 3 hts gX9_copy_X9_isWithin rfl rfl rfl (by decide +kernel) ⟨Nat.le_of_ble_eq_true rfl, Nat.le_of_ble_eq_true rfl⟩) hK hP hD hS hA rfl hl.1 rfl (Nat.le_of_ble_eq_true rfl) dX9_copy_12 ⟨Nat.le_of_ble_eq_true rfl, Nat.le_of_ble_eq_true rfl⟩ (fun q5 u6 H locs hq5 hP hD hS => ?_)
    have hP : va_P D vwCl (XW x cy g N n a r ++ va_pl L f) H := hP
    have hD : va_D _ (XW x cy g N n a r ++ va_pl L f) := hD
    obtain rfl : q5 = sp_in p1 1 30 := hq5
    refine lv_if_eq (tgt := 35) hx hb dX9_copy_15 (by decide) (fun c7 => ?_) (fun c7 => ?_)
    · skip
      refine lv_iconst (v := 0) hx hb dX9_copy_35 (by decide) ?_
      exact W.zret (v := 0) hx hb hr (rfl) (fun t ht hW => ⟨⟨0, (N, n, a, r, f), rfl, ⟨⟨hNB, hRB, hHT⟩, hSM, hMM, Or.inl rfl⟩, by rw [ht]; exact hP, va_K.moved hW.alike hK, hD⟩, hS.F ht⟩) hS.2.2 dX9_copy_36
    · skip
      refine lv_aload_n hx hb dX9_copy_18 rfl (lv_at hl 0 rfl) ?_
      refine lv_iload_n hx hb dX9_copy_19 rfl (lv_at hl 1 rfl) ?_
      refine lv_iconst (v := 2) hx hb dX9_copy_20 (by decide) ?_
      refine lv_iload_n hx hb dX9_copy_21 rfl (lv_at hl 2 rfl) ?_
      refine lv_iload_n hx hb dX9_copy_22 rfl (lv_at hl 3 rfl) ?_
      refine lv_iload hx hb dX9_copy_23 (lv_at hl 4 rfl) ?_
      refine gvI (As := [.int rd1, .int 2, .int (nI j4), .int p1, .int u1]) (rest := []) ⟨hx, hb, hml, hown, hts⟩ (zX9_addStep l D x cy g L K hG N n a r f ⟨hNB, hRB, hHT⟩ _  rd1 2 (nI j4) p1 u1 ) (cwV 5 hts gX9_copy_X9_addStep rfl rfl rfl (by decide +kernel) ⟨Nat.le_of_ble_eq_true rfl, Nat.le_of_ble_eq_true rfl⟩) hK hP hD hS hA (va_recv hK hP (ci := 9) (q0 := 0) rfl rfl) rfl hl.1 rfl (Nat.le_of_ble_eq_true rfl) dX9_copy_25 ⟨Nat.le_of_ble_eq_true rfl, Nat.le_of_ble_eq_true rfl⟩ (fun q8 u9 H locs hq8 hP hD hS => ?_)
      obtain ⟨N10, n11, a12, r13, f14⟩ := u9
      obtain ⟨⟨hNB, hRB, hHT⟩, hs15, hv16, hq8b⟩ := hq8
      have hSM : SM N N10 n n11 := SM_tr hSM hs15
      have hMM : MM N N10 a a12 := MM_tr hMM hv16
      have hP : va_P D vwCl (XW x cy g N10 n11 a12 r13 ++ va_pl L f14) H := hP
      have hD : va_D _ (XW x cy g N10 n11 a12 r13 ++ va_pl L f14) := hD
      refine lv_if_eq (tgt := 35) hx hb dX9_copy_28 (by decide) (fun c17 => ?_) (fun c17 => ?_)
      · skip
        refine lv_iconst (v := 0) hx hb dX9_copy_35 (by decide) ?_
        exact W.zret (v := 0) hx hb hr (rfl) (fun t ht hW => ⟨⟨0, (N10, n11, a12, r13, f14), rfl, ⟨⟨hNB, hRB, hHT⟩, hSM, hMM, Or.inl rfl⟩, by rw [ht]; exact hP, va_K.moved hW.alike hK, hD⟩, hS.F ht⟩) hS.2.2 dX9_copy_36
      · skip
        refine lv_iconst (v := 1) hx hb dX9_copy_31 (by decide) ?_
        refine lv_goto (tgt := 36) hx hb dX9_copy_32 (by decide) ?_
        exact W.zret (v := 1) hx hb hr (rfl) (fun t ht hW => ⟨⟨1, (N10, n11, a12, r13, f14), rfl, ⟨⟨hNB, hRB, hHT⟩, hSM, hMM, Or.inr rfl⟩, by rw [ht]; exact hP, va_K.moved hW.alike hK, hD⟩, hS.F ht⟩) hS.2.2 dX9_copy_36

set_option maxHeartbeats 4000000 in
set_option maxRecDepth 100000 in
theorem zX9_back (l : Launch) (D : va_G) (x : Nat → Nat) (cy : Nat → ClassId) (g : Nat → Nat → Option Nat) (L : List Nat) (K : Nat → Nat) (hG : GO L K g) (N : Nat → Nat) (n : Nat → Int32) (a : Nat → Nat → Int32) (r : Nat → Nat → Option Nat) (f : Nat → va_E) (hC : CI L K cy N r f) (sz : Nat) (rd1 b1 : Int32) : Met l yX9_back wsX9_back ({ frames := 2, cells := 0, slots := 0, locals := 49 }) (PW D (TYS cy) (XW x cy g N n a r ++ va_pl L f) sz [.ref (x 0), .int rd1, .int b1]) (va_Qi (fun (res : Int32) (u : ST) => CI L K cy u.1 u.2.2.2.1 u.2.2.2.2 ∧ SM N u.1 n u.2.1 ∧ MM N u.1 a u.2.2.1 ∧ b01 res) (BU D (TYS cy) (XW x cy g N n a r ++ va_pl L f) (WC x cy g L) sz) (va_A (XW x cy g N n a r ++ va_pl L f) sz)) 0 0 (va_A (XW x cy g N n a r ++ va_pl L f) sz) := by
  refine Met.ofW (cc := cX9_back) (maxL := 3) (ret := (some .boolean)) (by decide) rfl ?_
  intro p e s m args below meth c s₁ B hml hv
  obtain ⟨rfl, hsz, hP, hK, hD0⟩ := hv
  have hx := B.exec
  have hb := B.bytes
  have hr := B.returns
  have hts := atoms_spec (ws := wsX9_back) B.pre
  have hown : s.vm.findClass RX9 = some m.cls := findClass_of_methodNamed B.named
  have hlocks := B.notSynchronized
  subst hsz
  obtain ⟨hNB, hRB, hHT⟩ := hC
  have hSM : SM N N n n := SM_rf
  have hMM : MM N N a a := MM_rf
  have hD := hD0.self (sz := s.heap.size)
  have hA : ∀ q9 : Nat, s.heap.size ≤ q9 → va_A (XW x cy g N n a r ++ va_pl L f) s.heap.size q9 := fun q9 h => Or.inr h
  have hS : va_S (va_A (XW x cy g N n a r ++ va_pl L f) s.heap.size) s.heap s.heap [] := va_S.rf
  have hl := lv_entry ([.ref (x 0), .int rd1, .int b1]) (n := 3) (Nat.le_of_ble_eq_true rfl)
  rw [lg_entry_eq]
  generalize (lg_sl ([.ref (x 0), .int rd1, .int b1]) ++ List.replicate (3 - (lg_sl ([.ref (x 0), .int rd1, .int b1])).length) Slot.unset).toArray = ls at hl ⊢
  have hl : lv_has ls 3 [(0, .ref (x 0)), (1, .int rd1), (2, .int b1)] := hl
  refine lv_aload_n hx hb dX9_back_0 rfl (lv_at hl 0 rfl) ?_
  refine lv_iload_n hx hb dX9_back_1 rfl (lv_at hl 2 rfl) ?_
  refine gvI (As := [.int b1]) (rest := []) ⟨hx, hb, hml, hown, hts⟩ (zX9_isBox l D x cy g L K hG N n a r f ⟨hNB, hRB, hHT⟩ _  b1 ) (cwV 1 hts gX9_back_X9_isBox rfl rfl rfl (by decide +kernel) ⟨Nat.le_of_ble_eq_true rfl, Nat.le_of_ble_eq_true rfl⟩) hK hP hD hS hA (va_recv hK hP (ci := 9) (q0 := 0) rfl rfl) rfl hl.1 rfl (Nat.le_of_ble_eq_true rfl) dX9_back_2 ⟨Nat.le_of_ble_eq_true rfl, Nat.le_of_ble_eq_true rfl⟩ (fun q1 u2 H locs hq1 hP hD hS => ?_)
  have hP : va_P D vwCl (XW x cy g N n a r ++ va_pl L f) H := hP
  have hD : va_D _ (XW x cy g N n a r ++ va_pl L f) := hD
  refine lv_if_eq (tgt := 24) hx hb dX9_back_5 (by decide) (fun c3 => ?_) (fun c3 => ?_)
  · skip
    refine lv_iconst (v := 0) hx hb dX9_back_24 (by decide) ?_
    exact W.zret (v := 0) hx hb hr (rfl) (fun t ht hW => ⟨⟨0, (N, n, a, r, f), rfl, ⟨⟨hNB, hRB, hHT⟩, hSM, hMM, Or.inl rfl⟩, by rw [ht]; exact hP, va_K.moved hW.alike hK, hD⟩, hS.F ht⟩) hS.2.2 dX9_back_25
  · skip
    obtain ⟨j4, hj4, rfl⟩ := hq1.2.mp c3
    refine lv_aload_n hx hb dX9_back_8 rfl (lv_at hl 0 rfl) ?_
    refine lv_iload_n hx hb dX9_back_9 rfl (lv_at hl 1 rfl) ?_
    refine lv_iconst (v := 3) hx hb dX9_back_10 (by decide) ?_
    refine lv_iload_n hx hb dX9_back_11 rfl (lv_at hl 2 rfl) ?_
    refine lv_iconst (v := 0) hx hb dX9_back_12 (by decide) ?_
    refine lv_iconst (v := 0) hx hb dX9_back_13 (by decide) ?_
    refine gvI (As := [.int rd1, .int 3, .int (nI j4), .int 0, .int 0]) (rest := []) ⟨hx, hb, hml, hown, hts⟩ (zX9_addStep l D x cy g L K hG N n a r f ⟨hNB, hRB, hHT⟩ _  rd1 3 (nI j4) 0 0 ) (cwV 5 hts gX9_back_X9_addStep rfl rfl rfl (by decide +kernel) ⟨Nat.le_of_ble_eq_true rfl, Nat.le_of_ble_eq_true rfl⟩) hK hP hD hS hA (va_recv hK hP (ci := 9) (q0 := 0) rfl rfl) rfl hl.1 rfl (Nat.le_of_ble_eq_true rfl) dX9_back_14 ⟨Nat.le_of_ble_eq_true rfl, Nat.le_of_ble_eq_true rfl⟩ (fun q5 u6 H locs hq5 hP hD hS => ?_)
    obtain ⟨N7, n8, a9, r10, f11⟩ := u6
    obtain ⟨⟨hNB, hRB, hHT⟩, hs12, hv13, hq5b⟩ := hq5
    have hSM : SM N N7 n n8 := SM_tr hSM hs12
    have hMM : MM N N7 a a9 := MM_tr hMM hv13
    have hP : va_P D vwCl (XW x cy g N7 n8 a9 r10 ++ va_pl L f11) H := hP
    have hD : va_D _ (XW x cy g N7 n8 a9 r10 ++ va_pl L f11) := hD
    refine lv_if_eq (tgt := 24) hx hb dX9_back_17 (by decide) (fun c14 => ?_) (fun c14 => ?_)
    · skip
      refine lv_iconst (v := 0) hx hb dX9_back_24 (by decide) ?_
      exact W.zret (v := 0) hx hb hr (rfl) (fun t ht hW => ⟨⟨0, (N7, n8, a9, r10, f11), rfl, ⟨⟨hNB, hRB, hHT⟩, hSM, hMM, Or.inl rfl⟩, by rw [ht]; exact hP, va_K.moved hW.alike hK, hD⟩, hS.F ht⟩) hS.2.2 dX9_back_25
    · skip
      refine lv_iconst (v := 1) hx hb dX9_back_20 (by decide) ?_
      refine lv_goto (tgt := 25) hx hb dX9_back_21 (by decide) ?_
      exact W.zret (v := 1) hx hb hr (rfl) (fun t ht hW => ⟨⟨1, (N7, n8, a9, r10, f11), rfl, ⟨⟨hNB, hRB, hHT⟩, hSM, hMM, Or.inr rfl⟩, by rw [ht]; exact hP, va_K.moved hW.alike hK, hD⟩, hS.F ht⟩) hS.2.2 dX9_back_25

theorem iX9_about_1 : ∀ w ∈ wsX10, w ∈ wsX9_about := fun _ h => List.mem_cons_of_mem _ (List.mem_append_left _ (List.mem_append_left _ (List.mem_append_right _ h)))
theorem iX9_about_5 : ∀ w ∈ wsX50, w ∈ wsX9_about := fun _ h => List.mem_cons_of_mem _ (List.mem_append_left _ (List.mem_append_right _ h))
theorem iX9_about_6 : ∀ w ∈ wsX60, w ∈ wsX9_about := fun _ h => List.mem_cons_of_mem _ (List.mem_append_left _ (List.mem_append_left _ (List.mem_append_left _ (List.mem_append_right _ h))))
theorem iX9_about_9 : ∀ w ∈ wsX90, w ∈ wsX9_about := fun _ h => List.mem_cons_of_mem _ (List.mem_append_left _ (List.mem_append_left _ (List.mem_append_left _ (List.mem_append_left _ (List.mem_append_right _ h)))))
set_option maxHeartbeats 4000000 in
set_option maxRecDepth 100000 in
theorem zX9_about (l : Launch) (D : va_G) (x : Nat → Nat) (cy : Nat → ClassId) (g : Nat → Nat → Option Nat) (L : List Nat) (K : Nat → Nat) (hG : GO L K g) (N : Nat → Nat) (n : Nat → Int32) (a : Nat → Nat → Int32) (r : Nat → Nat → Option Nat) (f : Nat → va_E) (hC : CI L K cy N r f) (sz : Nat) (rd1 v : Int32) : Met l yX9_about wsX9_about ({ frames := 1, cells := 0, slots := 0, locals := 23 }) (PW D (TYS cy) (XW x cy g N n a r ++ va_pl L f) sz [.ref (x 0), .int rd1, .int v]) (va_Qi (fun (res : Int32) (u : Unit) => True) (BU D (TYS cy) (XW x cy g N n a r ++ va_pl L f) (fun _ => XW x cy g N n a r ++ va_pl L f) sz) (va_A (XW x cy g N n a r ++ va_pl L f) sz)) 0 0 (va_A (XW x cy g N n a r ++ va_pl L f) sz) := by
  refine Met.ofW (cc := cX9_about) (maxL := 4) (ret := (some .int)) (by decide) rfl ?_
  intro p e s m args below meth c s₁ B hml hv
  obtain ⟨rfl, hsz, hP, hK, hD0⟩ := hv
  have hx := B.exec
  have hb := B.bytes
  have hr := B.returns
  have hts := atoms_spec (ws := wsX9_about) B.pre
  have hown : s.vm.findClass RX9 = some m.cls := findClass_of_methodNamed B.named
  have hlocks := B.notSynchronized
  subst hsz
  obtain ⟨hNB, hRB, hHT⟩ := hC
  have hSM : SM N N n n := SM_rf
  have hMM : MM N N a a := MM_rf
  have hD := hD0.self (sz := s.heap.size)
  have hA : ∀ q9 : Nat, s.heap.size ≤ q9 → va_A (XW x cy g N n a r ++ va_pl L f) s.heap.size q9 := fun q9 h => Or.inr h
  have hS : va_S (va_A (XW x cy g N n a r ++ va_pl L f) s.heap.size) s.heap s.heap [] := va_S.rf
  have hl := lv_entry ([.ref (x 0), .int rd1, .int v]) (n := 4) (Nat.le_of_ble_eq_true rfl)
  rw [lg_entry_eq]
  generalize (lg_sl ([.ref (x 0), .int rd1, .int v]) ++ List.replicate (4 - (lg_sl ([.ref (x 0), .int rd1, .int v])).length) Slot.unset).toArray = ls at hl ⊢
  have hl : lv_has ls 4 [(0, .ref (x 0)), (1, .int rd1), (2, .int v)] := hl
  refine lv_aload_n hx hb dX9_about_0 rfl (lv_at hl 0 rfl) ?_
  refine lv_iload_n hx hb dX9_about_1 rfl (lv_at hl 1 rfl) ?_
  refine gvI (As := [.int rd1]) (rest := []) ⟨hx, hb, hml, hown, hts⟩ (zX9_isReader l D x cy g L K hG N n a r f ⟨hNB, hRB, hHT⟩ _  rd1 ) (cwV 1 hts gX9_about_X9_isReader rfl rfl rfl (by decide +kernel) ⟨Nat.le_of_ble_eq_true rfl, Nat.le_of_ble_eq_true rfl⟩) hK hP hD hS hA (va_recv hK hP (ci := 9) (q0 := 0) rfl rfl) rfl hl.1 rfl (Nat.le_of_ble_eq_true rfl) dX9_about_2 ⟨Nat.le_of_ble_eq_true rfl, Nat.le_of_ble_eq_true rfl⟩ (fun q1 u2 H locs hq1 hP hD hS => ?_)
  have hP : va_P D vwCl (XW x cy g N n a r ++ va_pl L f) H := hP
  have hD : va_D _ (XW x cy g N n a r ++ va_pl L f) := hD
  refine lv_if_ne (tgt := 10) hx hb dX9_about_5 (by decide) (fun c3 => ?_) (fun c3 => ?_)
  · skip
    obtain ⟨j4, hj4, rfl⟩ := hq1.2.mp c3
    refine lv_aload_n hx hb dX9_about_10 rfl (lv_at hl 0 rfl) ?_
    refine va_get (D := D) (ci := 9) (v := .ref (x 3)) (C := RX9) (T := TX9) (N := 19) hx hb hts iX9_about_9 hown hK hP 0 rfl rfl 2 (by decide) (hts (.fieldLink RX9 27 "FondsRoom" "readers" "[LFondsRoom$Reader;") (by decide +kernel)) (fun _ h9 => h9) rfl dX9_about_11 ?_
    refine lv_iload_n hx hb dX9_about_14 rfl (lv_at hl 1 rfl) ?_
    have nb0 : N 0 ≤ 12 := hNB 0 (by decide)
    have nb1 : N 1 ≤ 40 := hNB 1 (by decide)
    have nb2 : N 2 ≤ 20 := hNB 2 (by decide)
    have nb3 : N 3 ≤ 4 := hNB 3 (by decide)
    have nb4 : N 4 ≤ 3 := hNB 4 (by decide)
    have nb5 : N 5 ≤ 20 := hNB 5 (by decide)
    have nb6 : N 6 ≤ 20 := hNB 6 (by decide)
    have nb7 : N 7 ≤ 20 := hNB 7 (by decide)
    have nb8 : N 8 ≤ 30 := hNB 8 (by decide)
    have nb9 : N 9 ≤ 400 := hNB 9 (by decide)
    refine va_aldq hx hb hK hP 3 4 rfl rfl (vp_in_nI (by omega) (by omega)) dX9_about_15 ?_
    obtain ⟨p5, ep5, mp5, kp5⟩ := hG.2.2.1 j4 (by omega)
    refine lv_tov (v' := .ref p5) (by rw [nI_clamp (by omega)]; show va_rf (g 2 j4) = _; rw [ep5]; rfl) ?_
    refine lv_astore_n (lv' := [(3, .ref p5), (0, .ref (x 0)), (1, .int (nI j4)), (2, .int v)]) hx hb dX9_about_16 rfl hl (by decide) rfl (fun ls hl => ?_)
    refine lv_iload_n hx hb dX9_about_17 rfl (lv_at hl 3 rfl) ?_
    by_cases j6 : v = 0
    · skip
      refine lv_tableIn (tgt := 76) hx hb dX9_about_18 (by rw [j6]; decide) (by rw [j6]; decide) (by rw [j6]; rfl) (by decide) ?_
      refine lv_aload_n hx hb dX9_about_76 rfl (lv_at hl 0 rfl) ?_
      obtain ⟨n_o7, p_o7, ar_o7, rk_o7, nw_o7, st_o7, ct_o7, d_o7, aw_o7, rl_o7, cp_o7, cu_o7, w1_o7, w2_o7, w3_o7, ov_o7, co_o7, hf_o7, sp_o7, snw_o7, sd_o7, saw_o7, scu_o7⟩ : TE L K cy 6 (f p5) := by rw [← kp5]; exact hHT p5 mp5
      refine pg_get (D := D) (ci := 6) (v := .int st_o7) (C := RX6) (T := TX6) (N := 17) hx hb hts iX9_about_6 hown hK hP mp5 hf_o7 rfl 5 (by decide) (hts (.fieldLink RX9 270 "FondsRoom$Reader" "state" "I") (by decide +kernel)) (fun _ h9 => h9) rfl dX9_about_77 ?_
      exact W.iret (v := st_o7) hx hb hr (fun t ht hW => ⟨⟨st_o7, (), rfl, trivial, by rw [ht]; exact hP, va_K.moved hW.alike hK, hD⟩, hS.F ht⟩) hS.2.2 dX9_about_80
    by_cases j8 : v = 1
    · skip
      refine lv_tableIn (tgt := 81) hx hb dX9_about_18 (by rw [j8]; decide) (by rw [j8]; decide) (by rw [j8]; rfl) (by decide) ?_
      refine lv_aload_n hx hb dX9_about_81 rfl (lv_at hl 0 rfl) ?_
      obtain ⟨n_o9, p_o9, ar_o9, rk_o9, nw_o9, st_o9, ct_o9, d_o9, aw_o9, rl_o9, cp_o9, cu_o9, w1_o9, w2_o9, w3_o9, ov_o9, co_o9, hf_o9, sp_o9, snw_o9, sd_o9, saw_o9, scu_o9⟩ : TE L K cy 6 (f p5) := by rw [← kp5]; exact hHT p5 mp5
      refine pg_get (D := D) (ci := 6) (v := va_rf d_o9) (C := RX6) (T := TX6) (N := 17) hx hb hts iX9_about_6 hown hK hP mp5 hf_o9 rfl 7 (by decide) (hts (.fieldLink RX9 328 "FondsRoom$Reader" "desk" "LFondsRoom$Desk;") (by decide +kernel)) (fun _ h9 => h9) rfl dX9_about_82 ?_
      rcases eb10 : d_o9 with _ | b10
      · skip
        subst eb10
        have hP : va_P D vwCl (XW x cy g N n a r ++ va_pl L f) H := by assumption
        have hD : va_D (va_A (XW x cy g N n a r ++ va_pl L f) s.heap.size) (XW x cy g N n a r ++ va_pl L f) := by assumption
        have hl : lv_has ls 4 [(3, .ref p5), (0, .ref (x 0)), (1, .int (nI j4)), (2, .int v)] := by assumption
        refine lv_ifnonnullN hx hb dX9_about_85 ?_
        refine lv_iconst (v := (-1)) hx hb dX9_about_88 (by decide) ?_
        refine lv_goto (tgt := 99) hx hb dX9_about_89 (by decide) ?_
        exact W.iret (v := (-1)) hx hb hr (fun t ht hW => ⟨⟨(-1), (), rfl, trivial, by rw [ht]; exact hP, va_K.moved hW.alike hK, hD⟩, hS.F ht⟩) hS.2.2 dX9_about_99
      · skip
        subst eb10
        have mb10 := sd_o9 b10 rfl
        have hP : va_P D vwCl (XW x cy g N n a r ++ va_pl L f) H := by assumption
        have hD : va_D (va_A (XW x cy g N n a r ++ va_pl L f) s.heap.size) (XW x cy g N n a r ++ va_pl L f) := by assumption
        have hl : lv_has ls 4 [(3, .ref p5), (0, .ref (x 0)), (1, .int (nI j4)), (2, .int v)] := by assumption
        refine lv_ifnonnull (tgt := 92) hx hb dX9_about_85 (by decide) ?_
        refine lv_aload_n hx hb dX9_about_92 rfl (lv_at hl 0 rfl) ?_
        refine pg_get (D := D) (ci := 6) (v := .ref b10) (C := RX6) (T := TX6) (N := 17) hx hb hts iX9_about_6 hown hK hP mp5 hf_o9 rfl 7 (by decide) (hts (.fieldLink RX9 328 "FondsRoom$Reader" "desk" "LFondsRoom$Desk;") (by decide +kernel)) (fun _ h9 => h9) rfl dX9_about_93 ?_
        obtain ⟨n_o11, wt_o11, s_o11, hf_o11, swt_o11, ss_o11⟩ : TE L K cy 1 (f b10) := by rw [← mb10.2]; exact hHT b10 mb10.1
        refine pg_get (D := D) (ci := 1) (v := .int n_o11) (C := RX1) (T := TX1) (N := 3) hx hb hts iX9_about_1 hown hK hP mb10.1 hf_o11 rfl 0 (by decide) (hts (.fieldLink RX9 380 "FondsRoom$Desk" "number" "I") (by decide +kernel)) (fun _ h9 => h9) rfl dX9_about_96 ?_
        exact W.iret (v := n_o11) hx hb hr (fun t ht hW => ⟨⟨n_o11, (), rfl, trivial, by rw [ht]; exact hP, va_K.moved hW.alike hK, hD⟩, hS.F ht⟩) hS.2.2 dX9_about_99
    by_cases j12 : v = 2
    · skip
      refine lv_tableIn (tgt := 100) hx hb dX9_about_18 (by rw [j12]; decide) (by rw [j12]; decide) (by rw [j12]; rfl) (by decide) ?_
      refine lv_aload_n hx hb dX9_about_100 rfl (lv_at hl 0 rfl) ?_
      obtain ⟨n_o13, p_o13, ar_o13, rk_o13, nw_o13, st_o13, ct_o13, d_o13, aw_o13, rl_o13, cp_o13, cu_o13, w1_o13, w2_o13, w3_o13, ov_o13, co_o13, hf_o13, sp_o13, snw_o13, sd_o13, saw_o13, scu_o13⟩ : TE L K cy 6 (f p5) := by rw [← kp5]; exact hHT p5 mp5
      refine pg_get (D := D) (ci := 6) (v := .ref p_o13) (C := RX6) (T := TX6) (N := 17) hx hb hts iX9_about_6 hown hK hP mp5 hf_o13 rfl 1 (by decide) (hts (.fieldLink RX9 135 "FondsRoom$Reader" "plan" "LFondsRoom$Plan;") (by decide +kernel)) (fun _ h9 => h9) rfl dX9_about_101 ?_
      obtain ⟨k1_o14, k2_o14, k3_o14, k4_o14, k5_o14, sz_o14, bg_o14, rf_o14, hf_o14, sk1_o14, sk2_o14, sk3_o14, sk4_o14, sk5_o14, ssz_o14, sbg_o14, srf_o14⟩ : TE L K cy 5 (f p_o13) := by rw [← sp_o13.2]; exact hHT p_o13 sp_o13.1
      refine pg_get (D := D) (ci := 5) (v := .int (nI bg_o14)) (C := RX5) (T := TX5) (N := 8) hx hb hts iX9_about_5 hown hK hP sp_o13.1 hf_o14 rfl 6 (by decide) (hts (.fieldLink RX9 290 "FondsRoom$Plan" "begun" "I") (by decide +kernel)) (fun _ h9 => h9) rfl dX9_about_104 ?_
      exact W.iret (v := (nI bg_o14)) hx hb hr (fun t ht hW => ⟨⟨(nI bg_o14), (), rfl, trivial, by rw [ht]; exact hP, va_K.moved hW.alike hK, hD⟩, hS.F ht⟩) hS.2.2 dX9_about_107
    by_cases j15 : v = 3
    · skip
      refine lv_tableIn (tgt := 108) hx hb dX9_about_18 (by rw [j15]; decide) (by rw [j15]; decide) (by rw [j15]; rfl) (by decide) ?_
      refine lv_aload_n hx hb dX9_about_108 rfl (lv_at hl 1 rfl) ?_
      refine lv_aload_n hx hb dX9_about_109 rfl (lv_at hl 0 rfl) ?_
      refine gvI (As := [.ref p5]) (rest := []) ⟨hx, hb, hml, hown, hts⟩ (zX9_heldBy l D x cy g L K hG N n a r f ⟨hNB, hRB, hHT⟩ _ p5  ⟨mp5, kp5⟩) (cwV 1 hts gX9_about_X9_heldBy rfl rfl rfl (by decide +kernel) ⟨Nat.le_of_ble_eq_true rfl, Nat.le_of_ble_eq_true rfl⟩) hK hP hD hS hA (va_recv hK hP (ci := 9) (q0 := 0) rfl rfl) rfl hl.1 rfl (Nat.le_of_ble_eq_true rfl) dX9_about_110 ⟨Nat.le_of_ble_eq_true rfl, Nat.le_of_ble_eq_true rfl⟩ (fun q16 u17 H locs hq16 hP hD hS => ?_)
      have hP : va_P D vwCl (XW x cy g N n a r ++ va_pl L f) H := hP
      have hD : va_D _ (XW x cy g N n a r ++ va_pl L f) := hD
      exact W.iret (v := q16) hx hb hr (fun t ht hW => ⟨⟨q16, (), rfl, trivial, by rw [ht]; exact hP, va_K.moved hW.alike hK, hD⟩, hS.F ht⟩) hS.2.2 dX9_about_113
    by_cases j18 : v = 4
    · skip
      refine lv_tableIn (tgt := 114) hx hb dX9_about_18 (by rw [j18]; decide) (by rw [j18]; decide) (by rw [j18]; rfl) (by decide) ?_
      refine lv_aload_n hx hb dX9_about_114 rfl (lv_at hl 0 rfl) ?_
      obtain ⟨n_o19, p_o19, ar_o19, rk_o19, nw_o19, st_o19, ct_o19, d_o19, aw_o19, rl_o19, cp_o19, cu_o19, w1_o19, w2_o19, w3_o19, ov_o19, co_o19, hf_o19, sp_o19, snw_o19, sd_o19, saw_o19, scu_o19⟩ : TE L K cy 6 (f p5) := by rw [← kp5]; exact hHT p5 mp5
      refine pg_get (D := D) (ci := 6) (v := .int st_o19) (C := RX6) (T := TX6) (N := 17) hx hb hts iX9_about_6 hown hK hP mp5 hf_o19 rfl 5 (by decide) (hts (.fieldLink RX9 270 "FondsRoom$Reader" "state" "I") (by decide +kernel)) (fun _ h9 => h9) rfl dX9_about_115 ?_
      refine lv_iconst (v := 3) hx hb dX9_about_118 (by decide) ?_
      refine lv_icmp_ne (tgt := 129) hx hb dX9_about_119 (by decide) (fun c20 => ?_) (fun c20 => ?_)
      · skip
        refine lv_iconst (v := 0) hx hb dX9_about_129 (by decide) ?_
        exact W.iret (v := 0) hx hb hr (fun t ht hW => ⟨⟨0, (), rfl, trivial, by rw [ht]; exact hP, va_K.moved hW.alike hK, hD⟩, hS.F ht⟩) hS.2.2 dX9_about_130
      · skip
        refine lv_aload_n hx hb dX9_about_122 rfl (lv_at hl 0 rfl) ?_
        refine pg_get (D := D) (ci := 6) (v := .int rl_o19) (C := RX6) (T := TX6) (N := 17) hx hb hts iX9_about_6 hown hK hP mp5 hf_o19 rfl 9 (by decide) (hts (.fieldLink RX9 284 "FondsRoom$Reader" "readLeft" "I") (by decide +kernel)) (fun _ h9 => h9) rfl dX9_about_123 ?_
        refine lv_goto (tgt := 130) hx hb dX9_about_126 (by decide) ?_
        exact W.iret (v := rl_o19) hx hb hr (fun t ht hW => ⟨⟨rl_o19, (), rfl, trivial, by rw [ht]; exact hP, va_K.moved hW.alike hK, hD⟩, hS.F ht⟩) hS.2.2 dX9_about_130
    by_cases j21 : v = 5
    · skip
      refine lv_tableIn (tgt := 131) hx hb dX9_about_18 (by rw [j21]; decide) (by rw [j21]; decide) (by rw [j21]; rfl) (by decide) ?_
      refine lv_aload_n hx hb dX9_about_131 rfl (lv_at hl 0 rfl) ?_
      obtain ⟨n_o22, p_o22, ar_o22, rk_o22, nw_o22, st_o22, ct_o22, d_o22, aw_o22, rl_o22, cp_o22, cu_o22, w1_o22, w2_o22, w3_o22, ov_o22, co_o22, hf_o22, sp_o22, snw_o22, sd_o22, saw_o22, scu_o22⟩ : TE L K cy 6 (f p5) := by rw [← kp5]; exact hHT p5 mp5
      refine pg_get (D := D) (ci := 6) (v := .int w1_o22) (C := RX6) (T := TX6) (N := 17) hx hb hts iX9_about_6 hown hK hP mp5 hf_o22 rfl 12 (by decide) (hts (.fieldLink RX9 421 "FondsRoom$Reader" "waitedDesk" "I") (by decide +kernel)) (fun _ h9 => h9) rfl dX9_about_132 ?_
      exact W.iret (v := w1_o22) hx hb hr (fun t ht hW => ⟨⟨w1_o22, (), rfl, trivial, by rw [ht]; exact hP, va_K.moved hW.alike hK, hD⟩, hS.F ht⟩) hS.2.2 dX9_about_135
    by_cases j23 : v = 6
    · skip
      refine lv_tableIn (tgt := 136) hx hb dX9_about_18 (by rw [j23]; decide) (by rw [j23]; decide) (by rw [j23]; rfl) (by decide) ?_
      refine lv_aload_n hx hb dX9_about_136 rfl (lv_at hl 0 rfl) ?_
      obtain ⟨n_o24, p_o24, ar_o24, rk_o24, nw_o24, st_o24, ct_o24, d_o24, aw_o24, rl_o24, cp_o24, cu_o24, w1_o24, w2_o24, w3_o24, ov_o24, co_o24, hf_o24, sp_o24, snw_o24, sd_o24, saw_o24, scu_o24⟩ : TE L K cy 6 (f p5) := by rw [← kp5]; exact hHT p5 mp5
      refine pg_get (D := D) (ci := 6) (v := .int w2_o24) (C := RX6) (T := TX6) (N := 17) hx hb hts iX9_about_6 hown hK hP mp5 hf_o24 rfl 13 (by decide) (hts (.fieldLink RX9 424 "FondsRoom$Reader" "waitedBox" "I") (by decide +kernel)) (fun _ h9 => h9) rfl dX9_about_137 ?_
      exact W.iret (v := w2_o24) hx hb hr (fun t ht hW => ⟨⟨w2_o24, (), rfl, trivial, by rw [ht]; exact hP, va_K.moved hW.alike hK, hD⟩, hS.F ht⟩) hS.2.2 dX9_about_140
    by_cases j25 : v = 7
    · skip
      refine lv_tableIn (tgt := 141) hx hb dX9_about_18 (by rw [j25]; decide) (by rw [j25]; decide) (by rw [j25]; rfl) (by decide) ?_
      refine lv_aload_n hx hb dX9_about_141 rfl (lv_at hl 0 rfl) ?_
      obtain ⟨n_o26, p_o26, ar_o26, rk_o26, nw_o26, st_o26, ct_o26, d_o26, aw_o26, rl_o26, cp_o26, cu_o26, w1_o26, w2_o26, w3_o26, ov_o26, co_o26, hf_o26, sp_o26, snw_o26, sd_o26, saw_o26, scu_o26⟩ : TE L K cy 6 (f p5) := by rw [← kp5]; exact hHT p5 mp5
      refine pg_get (D := D) (ci := 6) (v := .int w3_o26) (C := RX6) (T := TX6) (N := 17) hx hb hts iX9_about_6 hown hK hP mp5 hf_o26 rfl 14 (by decide) (hts (.fieldLink RX9 427 "FondsRoom$Reader" "waitedCopy" "I") (by decide +kernel)) (fun _ h9 => h9) rfl dX9_about_142 ?_
      exact W.iret (v := w3_o26) hx hb hr (fun t ht hW => ⟨⟨w3_o26, (), rfl, trivial, by rw [ht]; exact hP, va_K.moved hW.alike hK, hD⟩, hS.F ht⟩) hS.2.2 dX9_about_145
    by_cases j27 : v = 8
    · skip
      refine lv_tableIn (tgt := 146) hx hb dX9_about_18 (by rw [j27]; decide) (by rw [j27]; decide) (by rw [j27]; rfl) (by decide) ?_
      refine lv_aload_n hx hb dX9_about_146 rfl (lv_at hl 0 rfl) ?_
      obtain ⟨n_o28, p_o28, ar_o28, rk_o28, nw_o28, st_o28, ct_o28, d_o28, aw_o28, rl_o28, cp_o28, cu_o28, w1_o28, w2_o28, w3_o28, ov_o28, co_o28, hf_o28, sp_o28, snw_o28, sd_o28, saw_o28, scu_o28⟩ : TE L K cy 6 (f p5) := by rw [← kp5]; exact hHT p5 mp5
      refine pg_get (D := D) (ci := 6) (v := .int ov_o28) (C := RX6) (T := TX6) (N := 17) hx hb hts iX9_about_6 hown hK hP mp5 hf_o28 rfl 15 (by decide) (hts (.fieldLink RX9 377 "FondsRoom$Reader" "overtaken" "I") (by decide +kernel)) (fun _ h9 => h9) rfl dX9_about_147 ?_
      exact W.iret (v := ov_o28) hx hb hr (fun t ht hW => ⟨⟨ov_o28, (), rfl, trivial, by rw [ht]; exact hP, va_K.moved hW.alike hK, hD⟩, hS.F ht⟩) hS.2.2 dX9_about_150
    by_cases j29 : v = 9
    · skip
      refine lv_tableIn (tgt := 151) hx hb dX9_about_18 (by rw [j29]; decide) (by rw [j29]; decide) (by rw [j29]; rfl) (by decide) ?_
      refine lv_aload_n hx hb dX9_about_151 rfl (lv_at hl 0 rfl) ?_
      obtain ⟨n_o30, p_o30, ar_o30, rk_o30, nw_o30, st_o30, ct_o30, d_o30, aw_o30, rl_o30, cp_o30, cu_o30, w1_o30, w2_o30, w3_o30, ov_o30, co_o30, hf_o30, sp_o30, snw_o30, sd_o30, saw_o30, scu_o30⟩ : TE L K cy 6 (f p5) := by rw [← kp5]; exact hHT p5 mp5
      refine pg_get (D := D) (ci := 6) (v := .int co_o30) (C := RX6) (T := TX6) (N := 17) hx hb hts iX9_about_6 hown hK hP mp5 hf_o30 rfl 16 (by decide) (hts (.fieldLink RX9 281 "FondsRoom$Reader" "copies" "I") (by decide +kernel)) (fun _ h9 => h9) rfl dX9_about_152 ?_
      exact W.iret (v := co_o30) hx hb hr (fun t ht hW => ⟨⟨co_o30, (), rfl, trivial, by rw [ht]; exact hP, va_K.moved hW.alike hK, hD⟩, hS.F ht⟩) hS.2.2 dX9_about_155
    by_cases j31 : v = 10
    · skip
      refine lv_tableIn (tgt := 156) hx hb dX9_about_18 (by rw [j31]; decide) (by rw [j31]; decide) (by rw [j31]; rfl) (by decide) ?_
      refine lv_aload_n hx hb dX9_about_156 rfl (lv_at hl 0 rfl) ?_
      obtain ⟨n_o32, p_o32, ar_o32, rk_o32, nw_o32, st_o32, ct_o32, d_o32, aw_o32, rl_o32, cp_o32, cu_o32, w1_o32, w2_o32, w3_o32, ov_o32, co_o32, hf_o32, sp_o32, snw_o32, sd_o32, saw_o32, scu_o32⟩ : TE L K cy 6 (f p5) := by rw [← kp5]; exact hHT p5 mp5
      refine pg_get (D := D) (ci := 6) (v := .ref p_o32) (C := RX6) (T := TX6) (N := 17) hx hb hts iX9_about_6 hown hK hP mp5 hf_o32 rfl 1 (by decide) (hts (.fieldLink RX9 135 "FondsRoom$Reader" "plan" "LFondsRoom$Plan;") (by decide +kernel)) (fun _ h9 => h9) rfl dX9_about_157 ?_
      obtain ⟨k1_o33, k2_o33, k3_o33, k4_o33, k5_o33, sz_o33, bg_o33, rf_o33, hf_o33, sk1_o33, sk2_o33, sk3_o33, sk4_o33, sk5_o33, ssz_o33, sbg_o33, srf_o33⟩ : TE L K cy 5 (f p_o32) := by rw [← sp_o32.2]; exact hHT p_o32 sp_o32.1
      refine pg_get (D := D) (ci := 5) (v := .int (nI rf_o33)) (C := RX5) (T := TX5) (N := 8) hx hb hts iX9_about_5 hown hK hP sp_o32.1 hf_o33 rfl 7 (by decide) (hts (.fieldLink RX9 430 "FondsRoom$Plan" "refusals" "I") (by decide +kernel)) (fun _ h9 => h9) rfl dX9_about_160 ?_
      exact W.iret (v := (nI rf_o33)) hx hb hr (fun t ht hW => ⟨⟨(nI rf_o33), (), rfl, trivial, by rw [ht]; exact hP, va_K.moved hW.alike hK, hD⟩, hS.F ht⟩) hS.2.2 dX9_about_163
    have zj6 : (v).toInt ≠ 0 := fun h9 => j6 ((fa_eq _ _).mpr (h9.trans (by decide)))
    have zj8 : (v).toInt ≠ 1 := fun h9 => j8 ((fa_eq _ _).mpr (h9.trans (by decide)))
    have zj12 : (v).toInt ≠ 2 := fun h9 => j12 ((fa_eq _ _).mpr (h9.trans (by decide)))
    have zj15 : (v).toInt ≠ 3 := fun h9 => j15 ((fa_eq _ _).mpr (h9.trans (by decide)))
    have zj18 : (v).toInt ≠ 4 := fun h9 => j18 ((fa_eq _ _).mpr (h9.trans (by decide)))
    have zj21 : (v).toInt ≠ 5 := fun h9 => j21 ((fa_eq _ _).mpr (h9.trans (by decide)))
    have zj23 : (v).toInt ≠ 6 := fun h9 => j23 ((fa_eq _ _).mpr (h9.trans (by decide)))
    have zj25 : (v).toInt ≠ 7 := fun h9 => j25 ((fa_eq _ _).mpr (h9.trans (by decide)))
    have zj27 : (v).toInt ≠ 8 := fun h9 => j27 ((fa_eq _ _).mpr (h9.trans (by decide)))
    have zj29 : (v).toInt ≠ 9 := fun h9 => j29 ((fa_eq _ _).mpr (h9.trans (by decide)))
    have zj31 : (v).toInt ≠ 10 := fun h9 => j31 ((fa_eq _ _).mpr (h9.trans (by decide)))
    refine lv_tableOut (tgt := 164) hx hb dX9_about_18 (by omega) (by decide) ?_
    refine lv_iconst (v := (-1)) hx hb dX9_about_164 (by decide) ?_
    exact W.iret (v := (-1)) hx hb hr (fun t ht hW => ⟨⟨(-1), (), rfl, trivial, by rw [ht]; exact hP, va_K.moved hW.alike hK, hD⟩, hS.F ht⟩) hS.2.2 dX9_about_165
  · skip
    refine lv_iconst (v := (-1)) hx hb dX9_about_8 (by decide) ?_
    exact W.iret (v := (-1)) hx hb hr (fun t ht hW => ⟨⟨(-1), (), rfl, trivial, by rw [ht]; exact hP, va_K.moved hW.alike hK, hD⟩, hS.F ht⟩) hS.2.2 dX9_about_9

theorem iX9_held_0 : ∀ w ∈ wsX00, w ∈ wsX9_held := fun _ h => List.mem_cons_of_mem _ (List.mem_append_right _ h)
theorem iX9_held_9 : ∀ w ∈ wsX90, w ∈ wsX9_held := fun _ h => List.mem_cons_of_mem _ (List.mem_append_left _ (List.mem_append_right _ h))
set_option maxHeartbeats 4000000 in
set_option maxRecDepth 100000 in
theorem zX9_held (l : Launch) (D : va_G) (x : Nat → Nat) (cy : Nat → ClassId) (g : Nat → Nat → Option Nat) (L : List Nat) (K : Nat → Nat) (hG : GO L K g) (N : Nat → Nat) (n : Nat → Int32) (a : Nat → Nat → Int32) (r : Nat → Nat → Option Nat) (f : Nat → va_E) (hC : CI L K cy N r f) (sz : Nat) (rd1 v : Int32) : Met l yX9_held wsX9_held ({ frames := 1, cells := 0, slots := 0, locals := 21 }) (PW D (TYS cy) (XW x cy g N n a r ++ va_pl L f) sz [.ref (x 0), .int rd1, .int v]) (va_Qi (fun (res : Int32) (u : Unit) => True) (BU D (TYS cy) (XW x cy g N n a r ++ va_pl L f) (fun _ => XW x cy g N n a r ++ va_pl L f) sz) (va_A (XW x cy g N n a r ++ va_pl L f) sz)) 0 0 (va_A (XW x cy g N n a r ++ va_pl L f) sz) := by
  refine Met.ofW (cc := cX9_held) (maxL := 5) (ret := (some .int)) (by decide) rfl ?_
  intro p e s m args below meth c s₁ B hml hv
  obtain ⟨rfl, hsz, hP, hK, hD0⟩ := hv
  have hx := B.exec
  have hb := B.bytes
  have hr := B.returns
  have hts := atoms_spec (ws := wsX9_held) B.pre
  have hown : s.vm.findClass RX9 = some m.cls := findClass_of_methodNamed B.named
  have hlocks := B.notSynchronized
  subst hsz
  obtain ⟨hNB, hRB, hHT⟩ := hC
  have hSM : SM N N n n := SM_rf
  have hMM : MM N N a a := MM_rf
  have hD := hD0.self (sz := s.heap.size)
  have hA : ∀ q9 : Nat, s.heap.size ≤ q9 → va_A (XW x cy g N n a r ++ va_pl L f) s.heap.size q9 := fun q9 h => Or.inr h
  have hS : va_S (va_A (XW x cy g N n a r ++ va_pl L f) s.heap.size) s.heap s.heap [] := va_S.rf
  have hl := lv_entry ([.ref (x 0), .int rd1, .int v]) (n := 5) (Nat.le_of_ble_eq_true rfl)
  rw [lg_entry_eq]
  generalize (lg_sl ([.ref (x 0), .int rd1, .int v]) ++ List.replicate (5 - (lg_sl ([.ref (x 0), .int rd1, .int v])).length) Slot.unset).toArray = ls at hl ⊢
  have hl : lv_has ls 5 [(0, .ref (x 0)), (1, .int rd1), (2, .int v)] := hl
  refine lv_aload_n hx hb dX9_held_0 rfl (lv_at hl 0 rfl) ?_
  refine lv_iload_n hx hb dX9_held_1 rfl (lv_at hl 1 rfl) ?_
  refine gvI (As := [.int rd1]) (rest := []) ⟨hx, hb, hml, hown, hts⟩ (zX9_isReader l D x cy g L K hG N n a r f ⟨hNB, hRB, hHT⟩ _  rd1 ) (cwV 1 hts gX9_held_X9_isReader rfl rfl rfl (by decide +kernel) ⟨Nat.le_of_ble_eq_true rfl, Nat.le_of_ble_eq_true rfl⟩) hK hP hD hS hA (va_recv hK hP (ci := 9) (q0 := 0) rfl rfl) rfl hl.1 rfl (Nat.le_of_ble_eq_true rfl) dX9_held_2 ⟨Nat.le_of_ble_eq_true rfl, Nat.le_of_ble_eq_true rfl⟩ (fun q1 u2 H locs hq1 hP hD hS => ?_)
  have hP : va_P D vwCl (XW x cy g N n a r ++ va_pl L f) H := hP
  have hD : va_D _ (XW x cy g N n a r ++ va_pl L f) := hD
  refine lv_if_eq (tgt := 12) hx hb dX9_held_5 (by decide) (fun c3 => ?_) (fun c3 => ?_)
  · skip
    refine lv_iconst (v := (-1)) hx hb dX9_held_12 (by decide) ?_
    exact W.iret (v := (-1)) hx hb hr (fun t ht hW => ⟨⟨(-1), (), rfl, trivial, by rw [ht]; exact hP, va_K.moved hW.alike hK, hD⟩, hS.F ht⟩) hS.2.2 dX9_held_13
  · skip
    obtain ⟨j4, hj4, rfl⟩ := hq1.2.mp c3
    refine lv_iload_n hx hb dX9_held_8 rfl (lv_at hl 2 rfl) ?_
    refine lv_if_ge (tgt := 14) hx hb dX9_held_9 (by decide) (fun c5 => ?_) (fun c5 => ?_)
    · skip
      refine lv_iload_n hx hb dX9_held_14 rfl (lv_at hl 2 rfl) ?_
      refine lv_istore_n (lv' := [(3, .int v), (0, .ref (x 0)), (1, .int (nI j4)), (2, .int v)]) hx hb dX9_held_15 rfl hl (by decide) rfl (fun ls hl => ?_)
      refine lv_iconst (v := 0) hx hb dX9_held_16 (by decide) ?_
      refine lv_istore (lv' := [(4, .int 0), (3, .int v), (0, .ref (x 0)), (1, .int (nI j4)), (2, .int v)]) hx hb dX9_held_17 hl (by decide) rfl (fun ls hl => ?_)
      have key7 : ∀ (m9 j6 : Nat), 400 - j6 = m9 → j6 ≤ 400 → ∀ (v19_3 : Int32) , ∀ (H : Heap) (locs : List Loc) (ls : Array Slot), va_P D vwCl (XW x cy g N n a r ++ va_pl L f) H → va_D (va_A (XW x cy g N n a r ++ va_pl L f) s.heap.size) (XW x cy g N n a r ++ va_pl L f) → va_S (va_A (XW x cy g N n a r ++ va_pl L f) s.heap.size) s.heap H locs → lv_has ls 5 [(4, .int (nI j6)), (3, .int v19_3), (0, .ref (x 0)), (1, .int (nI j4)), (2, .int v)] → W p l e (headSpec wsX9_held ({ frames := 1, cells := 0, slots := 0, locals := 21 })).room s m #[.ref (x 0), .int (nI j4), .int v] below meth c H locs 0 0 (MQ below (va_Qi (fun (res : Int32) (u : Unit) => True) (BU D (TYS cy) (XW x cy g N n a r ++ va_pl L f) (fun _ => XW x cy g N n a r ++ va_pl L f) s.heap.size) (va_A (XW x cy g N n a r ++ va_pl L f) s.heap.size)) #[.ref (x 0), .int (nI j4), .int v] s 0 0 (va_A (XW x cy g N n a r ++ va_pl L f) s.heap.size)) (F0 m 19 ls []) := by
        intro m9
        induction m9 using Nat.strongRecOn with
        | _ m9 ihkey7 =>
          intro j6 hm9 hj400 v19_3 H locs ls hP hD hS hl
          subst hm9
          have nb0 : N 0 ≤ 12 := hNB 0 (by decide)
          have nb1 : N 1 ≤ 40 := hNB 1 (by decide)
          have nb2 : N 2 ≤ 20 := hNB 2 (by decide)
          have nb3 : N 3 ≤ 4 := hNB 3 (by decide)
          have nb4 : N 4 ≤ 3 := hNB 4 (by decide)
          have nb5 : N 5 ≤ 20 := hNB 5 (by decide)
          have nb6 : N 6 ≤ 20 := hNB 6 (by decide)
          have nb7 : N 7 ≤ 20 := hNB 7 (by decide)
          have nb8 : N 8 ≤ 30 := hNB 8 (by decide)
          have nb9 : N 9 ≤ 400 := hNB 9 (by decide)
          refine lv_iload hx hb dX9_held_19 (lv_at hl 0 rfl) ?_
          refine lv_aload_n hx hb dX9_held_21 rfl (lv_at hl 2 rfl) ?_
          refine va_get (D := D) (ci := 9) (v := .int (nI (N 1))) (C := RX9) (T := TX9) (N := 19) hx hb hts iX9_held_9 hown hK hP 0 rfl rfl 11 (by decide) (hts (.fieldLink RX9 88 "FondsRoom" "boxCount" "I") (by decide +kernel)) (fun _ h9 => h9) rfl dX9_held_22 ?_
          refine lv_icmp_ge (tgt := 63) hx hb dX9_held_25 (by decide) (fun c8 => ?_) (fun c8 => ?_)
          · skip
            have dc8 : (N 1) ≤ j6 := (nI_leI (a := (N 1)) (b := j6) (by omega) (by omega)).mp c8
            refine lv_iconst (v := (-1)) hx hb dX9_held_63 (by decide) ?_
            exact W.iret (v := (-1)) hx hb hr (fun t ht hW => ⟨⟨(-1), (), rfl, trivial, by rw [ht]; exact hP, va_K.moved hW.alike hK, hD⟩, hS.F ht⟩) hS.2.2 dX9_held_64
          · skip
            have dc8 : j6 < (N 1) := Nat.not_le.mp (fun h9 => c8 ((nI_leI (a := (N 1)) (b := j6) (by omega) (by omega)).mpr h9))
            refine lv_aload_n hx hb dX9_held_28 rfl (lv_at hl 2 rfl) ?_
            refine va_get (D := D) (ci := 9) (v := .ref (x 2)) (C := RX9) (T := TX9) (N := 19) hx hb hts iX9_held_9 hown hK hP 0 rfl rfl 1 (by decide) (hts (.fieldLink RX9 20 "FondsRoom" "boxes" "[LFondsRoom$Box;") (by decide +kernel)) (fun _ h9 => h9) rfl dX9_held_29 ?_
            refine lv_iload hx hb dX9_held_32 (lv_at hl 0 rfl) ?_
            refine va_aldq hx hb hK hP 2 3 rfl rfl (vp_in_nI (by omega) (by omega)) dX9_held_34 ?_
            obtain ⟨p9, ep9, mp9, kp9⟩ := hG.2.1 j6 (by omega)
            refine lv_tov (v' := .ref p9) (by rw [nI_clamp (by omega)]; show va_rf (g 1 j6) = _; rw [ep9]; rfl) ?_
            obtain ⟨n_o10, fo_o10, pr_o10, pl_o10, h_o10, w_o10, hf_o10, spr_o10, sh_o10, sw_o10⟩ : TE L K cy 0 (f p9) := by rw [← kp9]; exact hHT p9 mp9
            refine pg_get (D := D) (ci := 0) (v := va_rf h_o10) (C := RX0) (T := TX0) (N := 6) hx hb hts iX9_held_0 hown hK hP mp9 hf_o10 rfl 4 (by decide) (hts (.fieldLink RX9 239 "FondsRoom$Box" "holder" "LFondsRoom$Reader;") (by decide +kernel)) (fun _ h9 => h9) rfl dX9_held_35 ?_
            refine lv_aload_n hx hb dX9_held_38 rfl (lv_at hl 2 rfl) ?_
            refine va_get (D := D) (ci := 9) (v := .ref (x 3)) (C := RX9) (T := TX9) (N := 19) hx hb hts iX9_held_9 hown hK hP 0 rfl rfl 2 (by decide) (hts (.fieldLink RX9 27 "FondsRoom" "readers" "[LFondsRoom$Reader;") (by decide +kernel)) (fun _ h9 => h9) rfl dX9_held_39 ?_
            refine lv_iload_n hx hb dX9_held_42 rfl (lv_at hl 3 rfl) ?_
            refine va_aldq hx hb hK hP 3 4 rfl rfl (vp_in_nI (by omega) (by omega)) dX9_held_43 ?_
            obtain ⟨p11, ep11, mp11, kp11⟩ := hG.2.2.1 j4 (by omega)
            refine lv_tov (v' := .ref p11) (by rw [nI_clamp (by omega)]; show va_rf (g 2 j4) = _; rw [ep11]; rfl) ?_
            refine lv_acmp_ne (rx := h_o10) (ry := (some p11)) (tgt := 57) hx hb dX9_held_44 (by decide) (fun c12 => ?_) (fun c12 => ?_)
            · skip
              refine lv_iinc (v := nI (j6 + 1)) (lv' := [(4, .int (nI (j6 + 1))), (3, .int v19_3), (0, .ref (x 0)), (1, .int (nI j4)), (2, .int v)]) hx hb dX9_held_57 hl (k := 0) rfl (by rw [← nI_1]; rfl) (by decide) rfl (fun ls hl => ?_)
              refine lv_goto (tgt := 19) hx hb dX9_held_60 (by decide) ?_
              exact ihkey7 (400 - ((j6 + 1))) (by omega) ((j6 + 1)) rfl (by omega) v19_3 _ _ _ hP hD hS (lv_sub hl [0, 1, 2, 3, 4] rfl)
            · skip
              refine lv_iload_n hx hb dX9_held_47 rfl (lv_at hl 1 rfl) ?_
              refine lv_if_ne (tgt := 54) hx hb dX9_held_48 (by decide) (fun c13 => ?_) (fun c13 => ?_)
              · skip
                refine lv_iinc (v := v19_3 + (-1)) (lv' := [(3, .int (v19_3 + (-1))), (4, .int (nI j6)), (0, .ref (x 0)), (1, .int (nI j4)), (2, .int v)]) hx hb dX9_held_54 hl (k := 1) rfl rfl (by decide) rfl (fun ls hl => ?_)
                refine lv_iinc (v := nI (j6 + 1)) (lv' := [(4, .int (nI (j6 + 1))), (3, .int (v19_3 + (-1))), (0, .ref (x 0)), (1, .int (nI j4)), (2, .int v)]) hx hb dX9_held_57 hl (k := 1) rfl (by rw [← nI_1]; rfl) (by decide) rfl (fun ls hl => ?_)
                refine lv_goto (tgt := 19) hx hb dX9_held_60 (by decide) ?_
                exact ihkey7 (400 - ((j6 + 1))) (by omega) ((j6 + 1)) rfl (by omega) (v19_3 + (-1)) _ _ _ hP hD hS (lv_sub hl [0, 1, 2, 3, 4] rfl)
              · skip
                refine lv_iload hx hb dX9_held_51 (lv_at hl 0 rfl) ?_
                exact W.iret (v := (nI j6)) hx hb hr (fun t ht hW => ⟨⟨(nI j6), (), rfl, trivial, by rw [ht]; exact hP, va_K.moved hW.alike hK, hD⟩, hS.F ht⟩) hS.2.2 dX9_held_53
      have nb0 : N 0 ≤ 12 := hNB 0 (by decide)
      have nb1 : N 1 ≤ 40 := hNB 1 (by decide)
      have nb2 : N 2 ≤ 20 := hNB 2 (by decide)
      have nb3 : N 3 ≤ 4 := hNB 3 (by decide)
      have nb4 : N 4 ≤ 3 := hNB 4 (by decide)
      have nb5 : N 5 ≤ 20 := hNB 5 (by decide)
      have nb6 : N 6 ≤ 20 := hNB 6 (by decide)
      have nb7 : N 7 ≤ 20 := hNB 7 (by decide)
      have nb8 : N 8 ≤ 30 := hNB 8 (by decide)
      have nb9 : N 9 ≤ 400 := hNB 9 (by decide)
      exact key7 (400 - (0)) (0) rfl (by omega) v _ _ _ hP hD hS (lv_sub hl [0, 1, 2, 3, 4] rfl)
    · skip
      refine lv_iconst (v := (-1)) hx hb dX9_held_12 (by decide) ?_
      exact W.iret (v := (-1)) hx hb hr (fun t ht hW => ⟨⟨(-1), (), rfl, trivial, by rw [ht]; exact hP, va_K.moved hW.alike hK, hD⟩, hS.F ht⟩) hS.2.2 dX9_held_13

theorem iX5_refusalRule_5 : ∀ w ∈ wsX50, w ∈ wsX5_refusalRule := fun _ h => List.mem_cons_of_mem _ (List.mem_append_right _ h)
set_option maxHeartbeats 4000000 in
set_option maxRecDepth 100000 in
theorem zX5_refusalRule (l : Launch) (D : va_G) (x : Nat → Nat) (cy : Nat → ClassId) (g : Nat → Nat → Option Nat) (L : List Nat) (K : Nat → Nat) (hG : GO L K g) (N : Nat → Nat) (n : Nat → Int32) (a : Nat → Nat → Int32) (r : Nat → Nat → Option Nat) (f : Nat → va_E) (hC : CI L K cy N r f) (sz : Nat) (pp : Nat) (v : Int32) (mpp : pp ∈ L ∧ K pp = 5) : Met l yX5_refusalRule wsX5_refusalRule ({ frames := 0, cells := 0, slots := 0, locals := 0 }) (PW D (TYS cy) (XW x cy g N n a r ++ va_pl L f) sz [.ref pp, .int v]) (va_Qi (fun (res : Int32) (u : Unit) => True) (BU D (TYS cy) (XW x cy g N n a r ++ va_pl L f) (fun _ => XW x cy g N n a r ++ va_pl L f) sz) (va_A (XW x cy g N n a r ++ va_pl L f) sz)) 0 0 (va_A (XW x cy g N n a r ++ va_pl L f) sz) := by
  refine Met.ofW (cc := cX5_refusalRule) (maxL := 2) (ret := (some .int)) (by decide) rfl ?_
  intro p e s m args below meth c s₁ B hml hv
  obtain ⟨rfl, hsz, hP, hK, hD0⟩ := hv
  have hx := B.exec
  have hb := B.bytes
  have hr := B.returns
  have hts := atoms_spec (ws := wsX5_refusalRule) B.pre
  have hown : s.vm.findClass RX5 = some m.cls := findClass_of_methodNamed B.named
  have hlocks := B.notSynchronized
  subst hsz
  obtain ⟨hNB, hRB, hHT⟩ := hC
  have hSM : SM N N n n := SM_rf
  have hMM : MM N N a a := MM_rf
  have hD := hD0.self (sz := s.heap.size)
  have hA : ∀ q9 : Nat, s.heap.size ≤ q9 → va_A (XW x cy g N n a r ++ va_pl L f) s.heap.size q9 := fun q9 h => Or.inr h
  have hS : va_S (va_A (XW x cy g N n a r ++ va_pl L f) s.heap.size) s.heap s.heap [] := va_S.rf
  have hl := lv_entry ([.ref pp, .int v]) (n := 2) (Nat.le_of_ble_eq_true rfl)
  rw [lg_entry_eq]
  generalize (lg_sl ([.ref pp, .int v]) ++ List.replicate (2 - (lg_sl ([.ref pp, .int v])).length) Slot.unset).toArray = ls at hl ⊢
  have hl : lv_has ls 2 [(0, .ref pp), (1, .int v)] := hl
  refine lv_iload_n hx hb dX5_refusalRule_0 rfl (lv_at hl 1 rfl) ?_
  refine lv_if_lt (tgt := 21) hx hb dX5_refusalRule_1 (by decide) (fun c1 => ?_) (fun c1 => ?_)
  · skip
    refine lv_iconst (v := (-1)) hx hb dX5_refusalRule_21 (by decide) ?_
    exact W.iret (v := (-1)) hx hb hr (fun t ht hW => ⟨⟨(-1), (), rfl, trivial, by rw [ht]; exact hP, va_K.moved hW.alike hK, hD⟩, hS.F ht⟩) hS.2.2 dX5_refusalRule_22
  · skip
    refine lv_iload_n hx hb dX5_refusalRule_4 rfl (lv_at hl 1 rfl) ?_
    refine lv_aload_n hx hb dX5_refusalRule_5 rfl (lv_at hl 0 rfl) ?_
    obtain ⟨k1_o2, k2_o2, k3_o2, k4_o2, k5_o2, sz_o2, bg_o2, rf_o2, hf_o2, sk1_o2, sk2_o2, sk3_o2, sk4_o2, sk5_o2, ssz_o2, sbg_o2, srf_o2⟩ : TE L K cy 5 (f pp) := by rw [← mpp.2]; exact hHT pp mpp.1
    refine pg_get (D := D) (ci := 5) (v := .int (nI rf_o2)) (C := RX5) (T := TX5) (N := 8) hx hb hts iX5_refusalRule_5 hown hK hP mpp.1 hf_o2 rfl 7 (by decide) (hts (.fieldLink RX5 32 "FondsRoom$Plan" "refusals" "I") (by decide +kernel)) (fun _ h9 => h9) rfl dX5_refusalRule_6 ?_
    refine lv_icmp_ge (tgt := 21) hx hb dX5_refusalRule_9 (by decide) (fun c3 => ?_) (fun c3 => ?_)
    · skip
      refine lv_iconst (v := (-1)) hx hb dX5_refusalRule_21 (by decide) ?_
      exact W.iret (v := (-1)) hx hb hr (fun t ht hW => ⟨⟨(-1), (), rfl, trivial, by rw [ht]; exact hP, va_K.moved hW.alike hK, hD⟩, hS.F ht⟩) hS.2.2 dX5_refusalRule_22
    · skip
      obtain ⟨j4, hj4, rfl⟩ := ix_of c1 c3 (by omega)
      refine lv_aload_n hx hb dX5_refusalRule_12 rfl (lv_at hl 0 rfl) ?_
      refine pg_get (D := D) (ci := 5) (v := .ref k5_o2) (C := RX5) (T := TX5) (N := 8) hx hb hts iX5_refusalRule_5 hown hK hP mpp.1 hf_o2 rfl 4 (by decide) (hts (.fieldLink RX5 25 "FondsRoom$Plan" "rules" "[I") (by decide +kernel)) (fun _ h9 => h9) rfl dX5_refusalRule_13 ?_
      refine lv_iload_n hx hb dX5_refusalRule_16 rfl (lv_at hl 1 rfl) ?_
      have nb0 : N 0 ≤ 12 := hNB 0 (by decide)
      have nb1 : N 1 ≤ 40 := hNB 1 (by decide)
      have nb2 : N 2 ≤ 20 := hNB 2 (by decide)
      have nb3 : N 3 ≤ 4 := hNB 3 (by decide)
      have nb4 : N 4 ≤ 3 := hNB 4 (by decide)
      have nb5 : N 5 ≤ 20 := hNB 5 (by decide)
      have nb6 : N 6 ≤ 20 := hNB 6 (by decide)
      have nb7 : N 7 ≤ 20 := hNB 7 (by decide)
      have nb8 : N 8 ≤ 30 := hNB 8 (by decide)
      have nb9 : N 9 ≤ 400 := hNB 9 (by decide)
      obtain ⟨w6, ew6⟩ : TE L K cy 12 (f k5_o2) := by rw [← sk5_o2.2]; exact hHT k5_o2 sk5_o2.1
      refine pg_iald hx hb hK hP sk5_o2.1 0 ew6 rfl (vp_in_nI (by omega) (by omega)) dX5_refusalRule_17 ?_
      refine lv_topi (fun y5 ey5 => ?_)
      refine lv_goto (tgt := 22) hx hb dX5_refusalRule_18 (by decide) ?_
      exact W.iret (v := y5) hx hb hr (fun t ht hW => ⟨⟨y5, (), rfl, trivial, by rw [ht]; exact hP, va_K.moved hW.alike hK, hD⟩, hS.F ht⟩) hS.2.2 dX5_refusalRule_22

theorem iX9_refused_6 : ∀ w ∈ wsX60, w ∈ wsX9_refused := fun _ h => List.mem_cons_of_mem _ (List.mem_append_left _ (List.mem_append_right _ h))
theorem iX9_refused_9 : ∀ w ∈ wsX90, w ∈ wsX9_refused := fun _ h => List.mem_cons_of_mem _ (List.mem_append_left _ (List.mem_append_left _ (List.mem_append_right _ h)))
set_option maxHeartbeats 4000000 in
set_option maxRecDepth 100000 in
theorem zX9_refused (l : Launch) (D : va_G) (x : Nat → Nat) (cy : Nat → ClassId) (g : Nat → Nat → Option Nat) (L : List Nat) (K : Nat → Nat) (hG : GO L K g) (N : Nat → Nat) (n : Nat → Int32) (a : Nat → Nat → Int32) (r : Nat → Nat → Option Nat) (f : Nat → va_E) (hC : CI L K cy N r f) (sz : Nat) (rd1 v : Int32) : Met l yX9_refused wsX9_refused ({ frames := 1, cells := 0, slots := 0, locals := 21 }) (PW D (TYS cy) (XW x cy g N n a r ++ va_pl L f) sz [.ref (x 0), .int rd1, .int v]) (va_Qi (fun (res : Int32) (u : Unit) => True) (BU D (TYS cy) (XW x cy g N n a r ++ va_pl L f) (fun _ => XW x cy g N n a r ++ va_pl L f) sz) (va_A (XW x cy g N n a r ++ va_pl L f) sz)) 0 0 (va_A (XW x cy g N n a r ++ va_pl L f) sz) := by
  refine Met.ofW (cc := cX9_refused) (maxL := 3) (ret := (some .int)) (by decide) rfl ?_
  intro p e s m args below meth c s₁ B hml hv
  obtain ⟨rfl, hsz, hP, hK, hD0⟩ := hv
  have hx := B.exec
  have hb := B.bytes
  have hr := B.returns
  have hts := atoms_spec (ws := wsX9_refused) B.pre
  have hown : s.vm.findClass RX9 = some m.cls := findClass_of_methodNamed B.named
  have hlocks := B.notSynchronized
  subst hsz
  obtain ⟨hNB, hRB, hHT⟩ := hC
  have hSM : SM N N n n := SM_rf
  have hMM : MM N N a a := MM_rf
  have hD := hD0.self (sz := s.heap.size)
  have hA : ∀ q9 : Nat, s.heap.size ≤ q9 → va_A (XW x cy g N n a r ++ va_pl L f) s.heap.size q9 := fun q9 h => Or.inr h
  have hS : va_S (va_A (XW x cy g N n a r ++ va_pl L f) s.heap.size) s.heap s.heap [] := va_S.rf
  have hl := lv_entry ([.ref (x 0), .int rd1, .int v]) (n := 3) (Nat.le_of_ble_eq_true rfl)
  rw [lg_entry_eq]
  generalize (lg_sl ([.ref (x 0), .int rd1, .int v]) ++ List.replicate (3 - (lg_sl ([.ref (x 0), .int rd1, .int v])).length) Slot.unset).toArray = ls at hl ⊢
  have hl : lv_has ls 3 [(0, .ref (x 0)), (1, .int rd1), (2, .int v)] := hl
  refine lv_aload_n hx hb dX9_refused_0 rfl (lv_at hl 0 rfl) ?_
  refine lv_iload_n hx hb dX9_refused_1 rfl (lv_at hl 1 rfl) ?_
  refine gvI (As := [.int rd1]) (rest := []) ⟨hx, hb, hml, hown, hts⟩ (zX9_isReader l D x cy g L K hG N n a r f ⟨hNB, hRB, hHT⟩ _  rd1 ) (cwV 1 hts gX9_refused_X9_isReader rfl rfl rfl (by decide +kernel) ⟨Nat.le_of_ble_eq_true rfl, Nat.le_of_ble_eq_true rfl⟩) hK hP hD hS hA (va_recv hK hP (ci := 9) (q0 := 0) rfl rfl) rfl hl.1 rfl (Nat.le_of_ble_eq_true rfl) dX9_refused_2 ⟨Nat.le_of_ble_eq_true rfl, Nat.le_of_ble_eq_true rfl⟩ (fun q1 u2 H locs hq1 hP hD hS => ?_)
  have hP : va_P D vwCl (XW x cy g N n a r ++ va_pl L f) H := hP
  have hD : va_D _ (XW x cy g N n a r ++ va_pl L f) := hD
  refine lv_if_ne (tgt := 10) hx hb dX9_refused_5 (by decide) (fun c3 => ?_) (fun c3 => ?_)
  · skip
    obtain ⟨j4, hj4, rfl⟩ := hq1.2.mp c3
    refine lv_aload_n hx hb dX9_refused_10 rfl (lv_at hl 0 rfl) ?_
    refine va_get (D := D) (ci := 9) (v := .ref (x 3)) (C := RX9) (T := TX9) (N := 19) hx hb hts iX9_refused_9 hown hK hP 0 rfl rfl 2 (by decide) (hts (.fieldLink RX9 27 "FondsRoom" "readers" "[LFondsRoom$Reader;") (by decide +kernel)) (fun _ h9 => h9) rfl dX9_refused_11 ?_
    refine lv_iload_n hx hb dX9_refused_14 rfl (lv_at hl 1 rfl) ?_
    have nb0 : N 0 ≤ 12 := hNB 0 (by decide)
    have nb1 : N 1 ≤ 40 := hNB 1 (by decide)
    have nb2 : N 2 ≤ 20 := hNB 2 (by decide)
    have nb3 : N 3 ≤ 4 := hNB 3 (by decide)
    have nb4 : N 4 ≤ 3 := hNB 4 (by decide)
    have nb5 : N 5 ≤ 20 := hNB 5 (by decide)
    have nb6 : N 6 ≤ 20 := hNB 6 (by decide)
    have nb7 : N 7 ≤ 20 := hNB 7 (by decide)
    have nb8 : N 8 ≤ 30 := hNB 8 (by decide)
    have nb9 : N 9 ≤ 400 := hNB 9 (by decide)
    refine va_aldq hx hb hK hP 3 4 rfl rfl (vp_in_nI (by omega) (by omega)) dX9_refused_15 ?_
    obtain ⟨p5, ep5, mp5, kp5⟩ := hG.2.2.1 j4 (by omega)
    refine lv_tov (v' := .ref p5) (by rw [nI_clamp (by omega)]; show va_rf (g 2 j4) = _; rw [ep5]; rfl) ?_
    obtain ⟨n_o6, p_o6, ar_o6, rk_o6, nw_o6, st_o6, ct_o6, d_o6, aw_o6, rl_o6, cp_o6, cu_o6, w1_o6, w2_o6, w3_o6, ov_o6, co_o6, hf_o6, sp_o6, snw_o6, sd_o6, saw_o6, scu_o6⟩ : TE L K cy 6 (f p5) := by rw [← kp5]; exact hHT p5 mp5
    refine pg_get (D := D) (ci := 6) (v := .ref p_o6) (C := RX6) (T := TX6) (N := 17) hx hb hts iX9_refused_6 hown hK hP mp5 hf_o6 rfl 1 (by decide) (hts (.fieldLink RX9 135 "FondsRoom$Reader" "plan" "LFondsRoom$Plan;") (by decide +kernel)) (fun _ h9 => h9) rfl dX9_refused_16 ?_
    refine lv_iload_n hx hb dX9_refused_19 rfl (lv_at hl 2 rfl) ?_
    obtain ⟨k1_o9, k2_o9, k3_o9, k4_o9, k5_o9, sz_o9, bg_o9, rf_o9, hf_o9, sk1_o9, sk2_o9, sk3_o9, sk4_o9, sk5_o9, ssz_o9, sbg_o9, srf_o9⟩ : TE L K cy 5 (f p_o6) := by rw [← sp_o6.2]; exact hHT p_o6 sp_o6.1
    refine gvI (As := [.int v]) (rest := []) ⟨hx, hb, hml, hown, hts⟩ (zX5_refusalRule l D x cy g L K hG N n a r f ⟨hNB, hRB, hHT⟩ _ p_o6 v ⟨sp_o6.1, sp_o6.2⟩) (cwV 1 hts gX9_refused_X5_refusalRule rfl rfl rfl (by decide +kernel) ⟨Nat.le_of_ble_eq_true rfl, Nat.le_of_ble_eq_true rfl⟩) hK hP hD hS hA (pl_recv hK hP (ci := 5) rfl sp_o6.1 hf_o9) rfl hl.1 rfl (Nat.le_of_ble_eq_true rfl) dX9_refused_20 ⟨Nat.le_of_ble_eq_true rfl, Nat.le_of_ble_eq_true rfl⟩ (fun q7 u8 H locs hq7 hP hD hS => ?_)
    have hP : va_P D vwCl (XW x cy g N n a r ++ va_pl L f) H := hP
    have hD : va_D _ (XW x cy g N n a r ++ va_pl L f) := hD
    exact W.iret (v := q7) hx hb hr (fun t ht hW => ⟨⟨q7, (), rfl, trivial, by rw [ht]; exact hP, va_K.moved hW.alike hK, hD⟩, hS.F ht⟩) hS.2.2 dX9_refused_23
  · skip
    refine lv_iconst (v := (-1)) hx hb dX9_refused_8 (by decide) ?_
    exact W.iret (v := (-1)) hx hb hr (fun t ht hW => ⟨⟨(-1), (), rfl, trivial, by rw [ht]; exact hP, va_K.moved hW.alike hK, hD⟩, hS.F ht⟩) hS.2.2 dX9_refused_9

theorem iX9_place_0 : ∀ w ∈ wsX00, w ∈ wsX9_place := fun _ h => List.mem_cons_of_mem _ (List.mem_append_right _ h)
theorem iX9_place_9 : ∀ w ∈ wsX90, w ∈ wsX9_place := fun _ h => List.mem_cons_of_mem _ (List.mem_append_left _ (List.mem_append_right _ h))
set_option maxHeartbeats 4000000 in
set_option maxRecDepth 100000 in
theorem zX9_place (l : Launch) (D : va_G) (x : Nat → Nat) (cy : Nat → ClassId) (g : Nat → Nat → Option Nat) (L : List Nat) (K : Nat → Nat) (hG : GO L K g) (N : Nat → Nat) (n : Nat → Int32) (a : Nat → Nat → Int32) (r : Nat → Nat → Option Nat) (f : Nat → va_E) (hC : CI L K cy N r f) (sz : Nat) (v : Int32) : Met l yX9_place wsX9_place ({ frames := 1, cells := 0, slots := 0, locals := 21 }) (PW D (TYS cy) (XW x cy g N n a r ++ va_pl L f) sz [.ref (x 0), .int v]) (va_Qi (fun (res : Int32) (u : Unit) => True) (BU D (TYS cy) (XW x cy g N n a r ++ va_pl L f) (fun _ => XW x cy g N n a r ++ va_pl L f) sz) (va_A (XW x cy g N n a r ++ va_pl L f) sz)) 0 0 (va_A (XW x cy g N n a r ++ va_pl L f) sz) := by
  refine Met.ofW (cc := cX9_place) (maxL := 2) (ret := (some .int)) (by decide) rfl ?_
  intro p e s m args below meth c s₁ B hml hv
  obtain ⟨rfl, hsz, hP, hK, hD0⟩ := hv
  have hx := B.exec
  have hb := B.bytes
  have hr := B.returns
  have hts := atoms_spec (ws := wsX9_place) B.pre
  have hown : s.vm.findClass RX9 = some m.cls := findClass_of_methodNamed B.named
  have hlocks := B.notSynchronized
  subst hsz
  obtain ⟨hNB, hRB, hHT⟩ := hC
  have hSM : SM N N n n := SM_rf
  have hMM : MM N N a a := MM_rf
  have hD := hD0.self (sz := s.heap.size)
  have hA : ∀ q9 : Nat, s.heap.size ≤ q9 → va_A (XW x cy g N n a r ++ va_pl L f) s.heap.size q9 := fun q9 h => Or.inr h
  have hS : va_S (va_A (XW x cy g N n a r ++ va_pl L f) s.heap.size) s.heap s.heap [] := va_S.rf
  have hl := lv_entry ([.ref (x 0), .int v]) (n := 2) (Nat.le_of_ble_eq_true rfl)
  rw [lg_entry_eq]
  generalize (lg_sl ([.ref (x 0), .int v]) ++ List.replicate (2 - (lg_sl ([.ref (x 0), .int v])).length) Slot.unset).toArray = ls at hl ⊢
  have hl : lv_has ls 2 [(0, .ref (x 0)), (1, .int v)] := hl
  refine lv_aload_n hx hb dX9_place_0 rfl (lv_at hl 0 rfl) ?_
  refine lv_iload_n hx hb dX9_place_1 rfl (lv_at hl 1 rfl) ?_
  refine gvI (As := [.int v]) (rest := []) ⟨hx, hb, hml, hown, hts⟩ (zX9_isBox l D x cy g L K hG N n a r f ⟨hNB, hRB, hHT⟩ _  v ) (cwV 1 hts gX9_place_X9_isBox rfl rfl rfl (by decide +kernel) ⟨Nat.le_of_ble_eq_true rfl, Nat.le_of_ble_eq_true rfl⟩) hK hP hD hS hA (va_recv hK hP (ci := 9) (q0 := 0) rfl rfl) rfl hl.1 rfl (Nat.le_of_ble_eq_true rfl) dX9_place_2 ⟨Nat.le_of_ble_eq_true rfl, Nat.le_of_ble_eq_true rfl⟩ (fun q1 u2 H locs hq1 hP hD hS => ?_)
  have hP : va_P D vwCl (XW x cy g N n a r ++ va_pl L f) H := hP
  have hD : va_D _ (XW x cy g N n a r ++ va_pl L f) := hD
  refine lv_if_eq (tgt := 20) hx hb dX9_place_5 (by decide) (fun c3 => ?_) (fun c3 => ?_)
  · skip
    refine lv_iconst (v := (-1)) hx hb dX9_place_20 (by decide) ?_
    exact W.iret (v := (-1)) hx hb hr (fun t ht hW => ⟨⟨(-1), (), rfl, trivial, by rw [ht]; exact hP, va_K.moved hW.alike hK, hD⟩, hS.F ht⟩) hS.2.2 dX9_place_21
  · skip
    obtain ⟨j4, hj4, rfl⟩ := hq1.2.mp c3
    refine lv_aload_n hx hb dX9_place_8 rfl (lv_at hl 0 rfl) ?_
    refine va_get (D := D) (ci := 9) (v := .ref (x 2)) (C := RX9) (T := TX9) (N := 19) hx hb hts iX9_place_9 hown hK hP 0 rfl rfl 1 (by decide) (hts (.fieldLink RX9 20 "FondsRoom" "boxes" "[LFondsRoom$Box;") (by decide +kernel)) (fun _ h9 => h9) rfl dX9_place_9 ?_
    refine lv_iload_n hx hb dX9_place_12 rfl (lv_at hl 1 rfl) ?_
    have nb0 : N 0 ≤ 12 := hNB 0 (by decide)
    have nb1 : N 1 ≤ 40 := hNB 1 (by decide)
    have nb2 : N 2 ≤ 20 := hNB 2 (by decide)
    have nb3 : N 3 ≤ 4 := hNB 3 (by decide)
    have nb4 : N 4 ≤ 3 := hNB 4 (by decide)
    have nb5 : N 5 ≤ 20 := hNB 5 (by decide)
    have nb6 : N 6 ≤ 20 := hNB 6 (by decide)
    have nb7 : N 7 ≤ 20 := hNB 7 (by decide)
    have nb8 : N 8 ≤ 30 := hNB 8 (by decide)
    have nb9 : N 9 ≤ 400 := hNB 9 (by decide)
    refine va_aldq hx hb hK hP 2 3 rfl rfl (vp_in_nI (by omega) (by omega)) dX9_place_13 ?_
    obtain ⟨p5, ep5, mp5, kp5⟩ := hG.2.1 j4 (by omega)
    refine lv_tov (v' := .ref p5) (by rw [nI_clamp (by omega)]; show va_rf (g 1 j4) = _; rw [ep5]; rfl) ?_
    obtain ⟨n_o6, fo_o6, pr_o6, pl_o6, h_o6, w_o6, hf_o6, spr_o6, sh_o6, sw_o6⟩ : TE L K cy 0 (f p5) := by rw [← kp5]; exact hHT p5 mp5
    refine pg_get (D := D) (ci := 0) (v := .int pl_o6) (C := RX0) (T := TX0) (N := 6) hx hb hts iX9_place_0 hown hK hP mp5 hf_o6 rfl 3 (by decide) (hts (.fieldLink RX9 233 "FondsRoom$Box" "place" "I") (by decide +kernel)) (fun _ h9 => h9) rfl dX9_place_14 ?_
    refine lv_goto (tgt := 21) hx hb dX9_place_17 (by decide) ?_
    exact W.iret (v := pl_o6) hx hb hr (fun t ht hW => ⟨⟨pl_o6, (), rfl, trivial, by rw [ht]; exact hP, va_K.moved hW.alike hK, hD⟩, hS.F ht⟩) hS.2.2 dX9_place_21

theorem iX9_whose_0 : ∀ w ∈ wsX00, w ∈ wsX9_whose := fun _ h => List.mem_cons_of_mem _ (List.mem_append_left _ (List.mem_append_right _ h))
theorem iX9_whose_9 : ∀ w ∈ wsX90, w ∈ wsX9_whose := fun _ h => List.mem_cons_of_mem _ (List.mem_append_left _ (List.mem_append_left _ (List.mem_append_right _ h)))
set_option maxHeartbeats 4000000 in
set_option maxRecDepth 100000 in
theorem zX9_whose (l : Launch) (D : va_G) (x : Nat → Nat) (cy : Nat → ClassId) (g : Nat → Nat → Option Nat) (L : List Nat) (K : Nat → Nat) (hG : GO L K g) (N : Nat → Nat) (n : Nat → Int32) (a : Nat → Nat → Int32) (r : Nat → Nat → Option Nat) (f : Nat → va_E) (hC : CI L K cy N r f) (sz : Nat) (v : Int32) : Met l yX9_whose wsX9_whose ({ frames := 1, cells := 0, slots := 0, locals := 21 }) (PW D (TYS cy) (XW x cy g N n a r ++ va_pl L f) sz [.ref (x 0), .int v]) (va_Qi (fun (res : Int32) (u : Unit) => True) (BU D (TYS cy) (XW x cy g N n a r ++ va_pl L f) (fun _ => XW x cy g N n a r ++ va_pl L f) sz) (va_A (XW x cy g N n a r ++ va_pl L f) sz)) 0 0 (va_A (XW x cy g N n a r ++ va_pl L f) sz) := by
  refine Met.ofW (cc := cX9_whose) (maxL := 3) (ret := (some .int)) (by decide) rfl ?_
  intro p e s m args below meth c s₁ B hml hv
  obtain ⟨rfl, hsz, hP, hK, hD0⟩ := hv
  have hx := B.exec
  have hb := B.bytes
  have hr := B.returns
  have hts := atoms_spec (ws := wsX9_whose) B.pre
  have hown : s.vm.findClass RX9 = some m.cls := findClass_of_methodNamed B.named
  have hlocks := B.notSynchronized
  subst hsz
  obtain ⟨hNB, hRB, hHT⟩ := hC
  have hSM : SM N N n n := SM_rf
  have hMM : MM N N a a := MM_rf
  have hD := hD0.self (sz := s.heap.size)
  have hA : ∀ q9 : Nat, s.heap.size ≤ q9 → va_A (XW x cy g N n a r ++ va_pl L f) s.heap.size q9 := fun q9 h => Or.inr h
  have hS : va_S (va_A (XW x cy g N n a r ++ va_pl L f) s.heap.size) s.heap s.heap [] := va_S.rf
  have hl := lv_entry ([.ref (x 0), .int v]) (n := 3) (Nat.le_of_ble_eq_true rfl)
  rw [lg_entry_eq]
  generalize (lg_sl ([.ref (x 0), .int v]) ++ List.replicate (3 - (lg_sl ([.ref (x 0), .int v])).length) Slot.unset).toArray = ls at hl ⊢
  have hl : lv_has ls 3 [(0, .ref (x 0)), (1, .int v)] := hl
  refine lv_aload_n hx hb dX9_whose_0 rfl (lv_at hl 0 rfl) ?_
  refine lv_iload_n hx hb dX9_whose_1 rfl (lv_at hl 1 rfl) ?_
  refine gvI (As := [.int v]) (rest := []) ⟨hx, hb, hml, hown, hts⟩ (zX9_isBox l D x cy g L K hG N n a r f ⟨hNB, hRB, hHT⟩ _  v ) (cwV 1 hts gX9_whose_X9_isBox rfl rfl rfl (by decide +kernel) ⟨Nat.le_of_ble_eq_true rfl, Nat.le_of_ble_eq_true rfl⟩) hK hP hD hS hA (va_recv hK hP (ci := 9) (q0 := 0) rfl rfl) rfl hl.1 rfl (Nat.le_of_ble_eq_true rfl) dX9_whose_2 ⟨Nat.le_of_ble_eq_true rfl, Nat.le_of_ble_eq_true rfl⟩ (fun q1 u2 H locs hq1 hP hD hS => ?_)
  have hP : va_P D vwCl (XW x cy g N n a r ++ va_pl L f) H := hP
  have hD : va_D _ (XW x cy g N n a r ++ va_pl L f) := hD
  refine lv_if_ne (tgt := 10) hx hb dX9_whose_5 (by decide) (fun c3 => ?_) (fun c3 => ?_)
  · skip
    obtain ⟨j4, hj4, rfl⟩ := hq1.2.mp c3
    refine lv_aload_n hx hb dX9_whose_10 rfl (lv_at hl 0 rfl) ?_
    refine va_get (D := D) (ci := 9) (v := .ref (x 2)) (C := RX9) (T := TX9) (N := 19) hx hb hts iX9_whose_9 hown hK hP 0 rfl rfl 1 (by decide) (hts (.fieldLink RX9 20 "FondsRoom" "boxes" "[LFondsRoom$Box;") (by decide +kernel)) (fun _ h9 => h9) rfl dX9_whose_11 ?_
    refine lv_iload_n hx hb dX9_whose_14 rfl (lv_at hl 1 rfl) ?_
    have nb0 : N 0 ≤ 12 := hNB 0 (by decide)
    have nb1 : N 1 ≤ 40 := hNB 1 (by decide)
    have nb2 : N 2 ≤ 20 := hNB 2 (by decide)
    have nb3 : N 3 ≤ 4 := hNB 3 (by decide)
    have nb4 : N 4 ≤ 3 := hNB 4 (by decide)
    have nb5 : N 5 ≤ 20 := hNB 5 (by decide)
    have nb6 : N 6 ≤ 20 := hNB 6 (by decide)
    have nb7 : N 7 ≤ 20 := hNB 7 (by decide)
    have nb8 : N 8 ≤ 30 := hNB 8 (by decide)
    have nb9 : N 9 ≤ 400 := hNB 9 (by decide)
    refine va_aldq hx hb hK hP 2 3 rfl rfl (vp_in_nI (by omega) (by omega)) dX9_whose_15 ?_
    obtain ⟨p5, ep5, mp5, kp5⟩ := hG.2.1 j4 (by omega)
    refine lv_tov (v' := .ref p5) (by rw [nI_clamp (by omega)]; show va_rf (g 1 j4) = _; rw [ep5]; rfl) ?_
    obtain ⟨n_o6, fo_o6, pr_o6, pl_o6, h_o6, w_o6, hf_o6, spr_o6, sh_o6, sw_o6⟩ : TE L K cy 0 (f p5) := by rw [← kp5]; exact hHT p5 mp5
    refine pg_get (D := D) (ci := 0) (v := va_rf h_o6) (C := RX0) (T := TX0) (N := 6) hx hb hts iX9_whose_0 hown hK hP mp5 hf_o6 rfl 4 (by decide) (hts (.fieldLink RX9 239 "FondsRoom$Box" "holder" "LFondsRoom$Reader;") (by decide +kernel)) (fun _ h9 => h9) rfl dX9_whose_16 ?_
    rcases eb7 : h_o6 with _ | b7
    · skip
      subst eb7
      have hP : va_P D vwCl (XW x cy g N n a r ++ va_pl L f) H := by assumption
      have hD : va_D (va_A (XW x cy g N n a r ++ va_pl L f) s.heap.size) (XW x cy g N n a r ++ va_pl L f) := by assumption
      have hl : lv_has ls 3 [(0, .ref (x 0)), (1, .int (nI j4))] := by assumption
      refine lv_astore_nN (lv' := [(2, .null), (0, .ref (x 0)), (1, .int (nI j4))]) hx hb dX9_whose_19 rfl hl (by decide) rfl (fun ls hl => ?_)
      refine lv_aload_nN hx hb dX9_whose_20 rfl (lv_at hl 0 rfl) ?_
      refine lv_ifnullN (tgt := 28) hx hb dX9_whose_21 (by decide) ?_
      refine lv_aload_n hx hb dX9_whose_28 rfl (lv_at hl 1 rfl) ?_
      refine va_get (D := D) (ci := 9) (v := .ref (x 2)) (C := RX9) (T := TX9) (N := 19) hx hb hts iX9_whose_9 hown hK hP 0 rfl rfl 1 (by decide) (hts (.fieldLink RX9 20 "FondsRoom" "boxes" "[LFondsRoom$Box;") (by decide +kernel)) (fun _ h9 => h9) rfl dX9_whose_29 ?_
      refine lv_iload_n hx hb dX9_whose_32 rfl (lv_at hl 2 rfl) ?_
      refine va_aldq hx hb hK hP 2 3 rfl rfl (vp_in_nI (by omega) (by omega)) dX9_whose_33 ?_
      obtain ⟨p8, ep8, mp8, kp8⟩ := hG.2.1 j4 (by omega)
      refine lv_tov (v' := .ref p8) (by rw [nI_clamp (by omega)]; show va_rf (g 1 j4) = _; rw [ep8]; rfl) ?_
      obtain ⟨n_o9, fo_o9, pr_o9, pl_o9, h_o9, w_o9, hf_o9, spr_o9, sh_o9, sw_o9⟩ : TE L K cy 0 (f p8) := by rw [← kp8]; exact hHT p8 mp8
      refine pg_get (D := D) (ci := 0) (v := va_rf w_o9) (C := RX0) (T := TX0) (N := 6) hx hb hts iX9_whose_0 hown hK hP mp8 hf_o9 rfl 5 (by decide) (hts (.fieldLink RX9 260 "FondsRoom$Box" "wanter" "LFondsRoom$Reader;") (by decide +kernel)) (fun _ h9 => h9) rfl dX9_whose_34 ?_
      rcases eb10 : w_o9 with _ | b10
      · skip
        subst eb10
        have hP : va_P D vwCl (XW x cy g N n a r ++ va_pl L f) H := by assumption
        have hD : va_D (va_A (XW x cy g N n a r ++ va_pl L f) s.heap.size) (XW x cy g N n a r ++ va_pl L f) := by assumption
        have hl : lv_has ls 3 [(2, .null), (0, .ref (x 0)), (1, .int (nI j4))] := by assumption
        refine gsI (As := [.null]) (rest := []) ⟨hx, hb, hml, hown, hts⟩ (zX9_numberOf_n l D x cy g L K hG N n a r f ⟨hNB, hRB, hHT⟩ _   ) (va_cwS 1 hts gX9_whose_X9_numberOf rfl rfl rfl (by decide +kernel) ⟨Nat.le_of_ble_eq_true rfl, Nat.le_of_ble_eq_true rfl⟩) hK hP hD hS hA rfl hl.1 rfl (Nat.le_of_ble_eq_true rfl) dX9_whose_37 ⟨Nat.le_of_ble_eq_true rfl, Nat.le_of_ble_eq_true rfl⟩ (fun q11 u12 H locs hq11 hP hD hS => ?_)
        have hP : va_P D vwCl (XW x cy g N n a r ++ va_pl L f) H := hP
        have hD : va_D _ (XW x cy g N n a r ++ va_pl L f) := hD
        exact W.iret (v := q11) hx hb hr (fun t ht hW => ⟨⟨q11, (), rfl, trivial, by rw [ht]; exact hP, va_K.moved hW.alike hK, hD⟩, hS.F ht⟩) hS.2.2 dX9_whose_40
      · skip
        subst eb10
        have mb10 := sw_o9 b10 rfl
        have hP : va_P D vwCl (XW x cy g N n a r ++ va_pl L f) H := by assumption
        have hD : va_D (va_A (XW x cy g N n a r ++ va_pl L f) s.heap.size) (XW x cy g N n a r ++ va_pl L f) := by assumption
        have hl : lv_has ls 3 [(2, .null), (0, .ref (x 0)), (1, .int (nI j4))] := by assumption
        refine gsI (As := [.ref b10]) (rest := []) ⟨hx, hb, hml, hown, hts⟩ (zX9_numberOf_r l D x cy g L K hG N n a r f ⟨hNB, hRB, hHT⟩ _ b10  ⟨mb10.1, mb10.2⟩) (va_cwS 1 hts gX9_whose_X9_numberOf rfl rfl rfl (by decide +kernel) ⟨Nat.le_of_ble_eq_true rfl, Nat.le_of_ble_eq_true rfl⟩) hK hP hD hS hA rfl hl.1 rfl (Nat.le_of_ble_eq_true rfl) dX9_whose_37 ⟨Nat.le_of_ble_eq_true rfl, Nat.le_of_ble_eq_true rfl⟩ (fun q13 u14 H locs hq13 hP hD hS => ?_)
        have hP : va_P D vwCl (XW x cy g N n a r ++ va_pl L f) H := hP
        have hD : va_D _ (XW x cy g N n a r ++ va_pl L f) := hD
        exact W.iret (v := q13) hx hb hr (fun t ht hW => ⟨⟨q13, (), rfl, trivial, by rw [ht]; exact hP, va_K.moved hW.alike hK, hD⟩, hS.F ht⟩) hS.2.2 dX9_whose_40
    · skip
      subst eb7
      have mb7 := sh_o6 b7 rfl
      have hP : va_P D vwCl (XW x cy g N n a r ++ va_pl L f) H := by assumption
      have hD : va_D (va_A (XW x cy g N n a r ++ va_pl L f) s.heap.size) (XW x cy g N n a r ++ va_pl L f) := by assumption
      have hl : lv_has ls 3 [(0, .ref (x 0)), (1, .int (nI j4))] := by assumption
      refine lv_astore_n (lv' := [(2, .ref b7), (0, .ref (x 0)), (1, .int (nI j4))]) hx hb dX9_whose_19 rfl hl (by decide) rfl (fun ls hl => ?_)
      refine lv_aload_n hx hb dX9_whose_20 rfl (lv_at hl 0 rfl) ?_
      refine lv_ifnull hx hb dX9_whose_21 ?_
      refine lv_aload_n hx hb dX9_whose_24 rfl (lv_at hl 0 rfl) ?_
      refine lv_goto (tgt := 37) hx hb dX9_whose_25 (by decide) ?_
      refine gsI (As := [.ref b7]) (rest := []) ⟨hx, hb, hml, hown, hts⟩ (zX9_numberOf_r l D x cy g L K hG N n a r f ⟨hNB, hRB, hHT⟩ _ b7  ⟨mb7.1, mb7.2⟩) (va_cwS 1 hts gX9_whose_X9_numberOf rfl rfl rfl (by decide +kernel) ⟨Nat.le_of_ble_eq_true rfl, Nat.le_of_ble_eq_true rfl⟩) hK hP hD hS hA rfl hl.1 rfl (Nat.le_of_ble_eq_true rfl) dX9_whose_37 ⟨Nat.le_of_ble_eq_true rfl, Nat.le_of_ble_eq_true rfl⟩ (fun q15 u16 H locs hq15 hP hD hS => ?_)
      have hP : va_P D vwCl (XW x cy g N n a r ++ va_pl L f) H := hP
      have hD : va_D _ (XW x cy g N n a r ++ va_pl L f) := hD
      exact W.iret (v := q15) hx hb hr (fun t ht hW => ⟨⟨q15, (), rfl, trivial, by rw [ht]; exact hP, va_K.moved hW.alike hK, hD⟩, hS.F ht⟩) hS.2.2 dX9_whose_40
  · skip
    refine lv_iconst (v := (-1)) hx hb dX9_whose_8 (by decide) ?_
    exact W.iret (v := (-1)) hx hb hr (fun t ht hW => ⟨⟨(-1), (), rfl, trivial, by rw [ht]; exact hP, va_K.moved hW.alike hK, hD⟩, hS.F ht⟩) hS.2.2 dX9_whose_9

theorem iX9_seated_1 : ∀ w ∈ wsX10, w ∈ wsX9_seated := fun _ h => List.mem_cons_of_mem _ (List.mem_append_left _ (List.mem_append_right _ h))
theorem iX9_seated_9 : ∀ w ∈ wsX90, w ∈ wsX9_seated := fun _ h => List.mem_cons_of_mem _ (List.mem_append_left _ (List.mem_append_left _ (List.mem_append_right _ h)))
set_option maxHeartbeats 4000000 in
set_option maxRecDepth 100000 in
theorem zX9_seated (l : Launch) (D : va_G) (x : Nat → Nat) (cy : Nat → ClassId) (g : Nat → Nat → Option Nat) (L : List Nat) (K : Nat → Nat) (hG : GO L K g) (N : Nat → Nat) (n : Nat → Int32) (a : Nat → Nat → Int32) (r : Nat → Nat → Option Nat) (f : Nat → va_E) (hC : CI L K cy N r f) (sz : Nat) (v : Int32) : Met l yX9_seated wsX9_seated ({ frames := 1, cells := 0, slots := 0, locals := 22 }) (PW D (TYS cy) (XW x cy g N n a r ++ va_pl L f) sz [.ref (x 0), .int v]) (va_Qi (fun (res : Int32) (u : Unit) => True) (BU D (TYS cy) (XW x cy g N n a r ++ va_pl L f) (fun _ => XW x cy g N n a r ++ va_pl L f) sz) (va_A (XW x cy g N n a r ++ va_pl L f) sz)) 0 0 (va_A (XW x cy g N n a r ++ va_pl L f) sz) := by
  refine Met.ofW (cc := cX9_seated) (maxL := 2) (ret := (some .int)) (by decide) rfl ?_
  intro p e s m args below meth c s₁ B hml hv
  obtain ⟨rfl, hsz, hP, hK, hD0⟩ := hv
  have hx := B.exec
  have hb := B.bytes
  have hr := B.returns
  have hts := atoms_spec (ws := wsX9_seated) B.pre
  have hown : s.vm.findClass RX9 = some m.cls := findClass_of_methodNamed B.named
  have hlocks := B.notSynchronized
  subst hsz
  obtain ⟨hNB, hRB, hHT⟩ := hC
  have hSM : SM N N n n := SM_rf
  have hMM : MM N N a a := MM_rf
  have hD := hD0.self (sz := s.heap.size)
  have hA : ∀ q9 : Nat, s.heap.size ≤ q9 → va_A (XW x cy g N n a r ++ va_pl L f) s.heap.size q9 := fun q9 h => Or.inr h
  have hS : va_S (va_A (XW x cy g N n a r ++ va_pl L f) s.heap.size) s.heap s.heap [] := va_S.rf
  have hl := lv_entry ([.ref (x 0), .int v]) (n := 2) (Nat.le_of_ble_eq_true rfl)
  rw [lg_entry_eq]
  generalize (lg_sl ([.ref (x 0), .int v]) ++ List.replicate (2 - (lg_sl ([.ref (x 0), .int v])).length) Slot.unset).toArray = ls at hl ⊢
  have hl : lv_has ls 2 [(0, .ref (x 0)), (1, .int v)] := hl
  refine lv_iload_n hx hb dX9_seated_0 rfl (lv_at hl 1 rfl) ?_
  refine lv_iconst (v := 0) hx hb dX9_seated_1 (by decide) ?_
  refine lv_aload_n hx hb dX9_seated_2 rfl (lv_at hl 0 rfl) ?_
  refine va_get (D := D) (ci := 9) (v := .int (nI (N 0))) (C := RX9) (T := TX9) (N := 19) hx hb hts iX9_seated_9 hown hK hP 0 rfl rfl 10 (by decide) (hts (.fieldLink RX9 81 "FondsRoom" "deskCount" "I") (by decide +kernel)) (fun _ h9 => h9) rfl dX9_seated_3 ?_
  refine lv_iconst (v := 1) hx hb dX9_seated_6 (by decide) ?_
  refine lv_isub hx hb dX9_seated_7 ?_
  refine gsI (As := [.int v, .int 0, .int ((nI (N 0)) - 1)]) (rest := []) ⟨hx, hb, hml, hown, hts⟩ (zX9_isWithin l D x cy g L K hG N n a r f ⟨hNB, hRB, hHT⟩ _  v 0 ((nI (N 0)) - 1) ) (va_cwS 3 hts gX9_seated_X9_isWithin rfl rfl rfl (by decide +kernel) ⟨Nat.le_of_ble_eq_true rfl, Nat.le_of_ble_eq_true rfl⟩) hK hP hD hS hA rfl hl.1 rfl (Nat.le_of_ble_eq_true rfl) dX9_seated_8 ⟨Nat.le_of_ble_eq_true rfl, Nat.le_of_ble_eq_true rfl⟩ (fun q1 u2 H locs hq1 hP hD hS => ?_)
  have hP : va_P D vwCl (XW x cy g N n a r ++ va_pl L f) H := hP
  have hD : va_D _ (XW x cy g N n a r ++ va_pl L f) := hD
  obtain rfl : q1 = sp_in v 0 ((nI (N 0)) - 1) := hq1
  refine lv_if_eq (tgt := 29) hx hb dX9_seated_11 (by decide) (fun c3 => ?_) (fun c3 => ?_)
  · skip
    refine lv_iconst (v := (-1)) hx hb dX9_seated_29 (by decide) ?_
    exact W.iret (v := (-1)) hx hb hr (fun t ht hW => ⟨⟨(-1), (), rfl, trivial, by rw [ht]; exact hP, va_K.moved hW.alike hK, hD⟩, hS.F ht⟩) hS.2.2 dX9_seated_30
  · skip
    have nb0 : N 0 ≤ 12 := hNB 0 (by decide)
    have nb1 : N 1 ≤ 40 := hNB 1 (by decide)
    have nb2 : N 2 ≤ 20 := hNB 2 (by decide)
    have nb3 : N 3 ≤ 4 := hNB 3 (by decide)
    have nb4 : N 4 ≤ 3 := hNB 4 (by decide)
    have nb5 : N 5 ≤ 20 := hNB 5 (by decide)
    have nb6 : N 6 ≤ 20 := hNB 6 (by decide)
    have nb7 : N 7 ≤ 20 := hNB 7 (by decide)
    have nb8 : N 8 ≤ 30 := hNB 8 (by decide)
    have nb9 : N 9 ≤ 400 := hNB 9 (by decide)
    obtain ⟨js, hjs, rfl⟩ := (in_sub (by omega)).mp c3
    refine lv_aload_n hx hb dX9_seated_14 rfl (lv_at hl 0 rfl) ?_
    refine va_get (D := D) (ci := 9) (v := .ref (x 1)) (C := RX9) (T := TX9) (N := 19) hx hb hts iX9_seated_9 hown hK hP 0 rfl rfl 0 (by decide) (hts (.fieldLink RX9 11 "FondsRoom" "desks" "[LFondsRoom$Desk;") (by decide +kernel)) (fun _ h9 => h9) rfl dX9_seated_15 ?_
    refine lv_iload_n hx hb dX9_seated_18 rfl (lv_at hl 1 rfl) ?_
    refine va_aldq hx hb hK hP 1 2 rfl rfl (vp_in_nI (by omega) (by omega)) dX9_seated_19 ?_
    obtain ⟨p4, ep4, mp4, kp4⟩ := hG.1 js (by omega)
    refine lv_tov (v' := .ref p4) (by rw [nI_clamp (by omega)]; show va_rf (g 0 js) = _; rw [ep4]; rfl) ?_
    obtain ⟨n_o5, wt_o5, s_o5, hf_o5, swt_o5, ss_o5⟩ : TE L K cy 1 (f p4) := by rw [← kp4]; exact hHT p4 mp4
    refine pg_get (D := D) (ci := 1) (v := va_rf s_o5) (C := RX1) (T := TX1) (N := 3) hx hb hts iX9_seated_1 hown hK hP mp4 hf_o5 rfl 2 (by decide) (hts (.fieldLink RX9 348 "FondsRoom$Desk" "sitter" "LFondsRoom$Reader;") (by decide +kernel)) (fun _ h9 => h9) rfl dX9_seated_20 ?_
    rcases eb6 : s_o5 with _ | b6
    · skip
      subst eb6
      have hP : va_P D vwCl (XW x cy g N n a r ++ va_pl L f) H := by assumption
      have hD : va_D (va_A (XW x cy g N n a r ++ va_pl L f) s.heap.size) (XW x cy g N n a r ++ va_pl L f) := by assumption
      have hl : lv_has ls 2 [(0, .ref (x 0)), (1, .int (nI js))] := by assumption
      refine gsI (As := [.null]) (rest := []) ⟨hx, hb, hml, hown, hts⟩ (zX9_numberOf_n l D x cy g L K hG N n a r f ⟨hNB, hRB, hHT⟩ _   ) (va_cwS 1 hts gX9_seated_X9_numberOf rfl rfl rfl (by decide +kernel) ⟨Nat.le_of_ble_eq_true rfl, Nat.le_of_ble_eq_true rfl⟩) hK hP hD hS hA rfl hl.1 rfl (Nat.le_of_ble_eq_true rfl) dX9_seated_23 ⟨Nat.le_of_ble_eq_true rfl, Nat.le_of_ble_eq_true rfl⟩ (fun q7 u8 H locs hq7 hP hD hS => ?_)
      have hP : va_P D vwCl (XW x cy g N n a r ++ va_pl L f) H := hP
      have hD : va_D _ (XW x cy g N n a r ++ va_pl L f) := hD
      refine lv_goto (tgt := 30) hx hb dX9_seated_26 (by decide) ?_
      exact W.iret (v := q7) hx hb hr (fun t ht hW => ⟨⟨q7, (), rfl, trivial, by rw [ht]; exact hP, va_K.moved hW.alike hK, hD⟩, hS.F ht⟩) hS.2.2 dX9_seated_30
    · skip
      subst eb6
      have mb6 := ss_o5 b6 rfl
      have hP : va_P D vwCl (XW x cy g N n a r ++ va_pl L f) H := by assumption
      have hD : va_D (va_A (XW x cy g N n a r ++ va_pl L f) s.heap.size) (XW x cy g N n a r ++ va_pl L f) := by assumption
      have hl : lv_has ls 2 [(0, .ref (x 0)), (1, .int (nI js))] := by assumption
      refine gsI (As := [.ref b6]) (rest := []) ⟨hx, hb, hml, hown, hts⟩ (zX9_numberOf_r l D x cy g L K hG N n a r f ⟨hNB, hRB, hHT⟩ _ b6  ⟨mb6.1, mb6.2⟩) (va_cwS 1 hts gX9_seated_X9_numberOf rfl rfl rfl (by decide +kernel) ⟨Nat.le_of_ble_eq_true rfl, Nat.le_of_ble_eq_true rfl⟩) hK hP hD hS hA rfl hl.1 rfl (Nat.le_of_ble_eq_true rfl) dX9_seated_23 ⟨Nat.le_of_ble_eq_true rfl, Nat.le_of_ble_eq_true rfl⟩ (fun q9 u10 H locs hq9 hP hD hS => ?_)
      have hP : va_P D vwCl (XW x cy g N n a r ++ va_pl L f) H := hP
      have hD : va_D _ (XW x cy g N n a r ++ va_pl L f) := hD
      refine lv_goto (tgt := 30) hx hb dX9_seated_26 (by decide) ?_
      exact W.iret (v := q9) hx hb hr (fun t ht hW => ⟨⟨q9, (), rfl, trivial, by rw [ht]; exact hP, va_K.moved hW.alike hK, hD⟩, hS.F ht⟩) hS.2.2 dX9_seated_30

theorem iX9_worker_0 : ∀ w ∈ wsX00, w ∈ wsX9_worker := fun _ h => List.mem_cons_of_mem _ (List.mem_append_right _ h)
theorem iX9_worker_7 : ∀ w ∈ wsX70, w ∈ wsX9_worker := fun _ h => List.mem_cons_of_mem _ (List.mem_append_left _ (List.mem_append_left _ (List.mem_append_right _ h)))
theorem iX9_worker_8 : ∀ w ∈ wsX80, w ∈ wsX9_worker := fun _ h => List.mem_cons_of_mem _ (List.mem_append_left _ (List.mem_append_right _ h))
theorem iX9_worker_9 : ∀ w ∈ wsX90, w ∈ wsX9_worker := fun _ h => List.mem_cons_of_mem _ (List.mem_append_left _ (List.mem_append_left _ (List.mem_append_left _ (List.mem_append_right _ h))))
set_option maxHeartbeats 4000000 in
set_option maxRecDepth 100000 in
theorem zX9_worker (l : Launch) (D : va_G) (x : Nat → Nat) (cy : Nat → ClassId) (g : Nat → Nat → Option Nat) (L : List Nat) (K : Nat → Nat) (hG : GO L K g) (N : Nat → Nat) (n : Nat → Int32) (a : Nat → Nat → Int32) (r : Nat → Nat → Option Nat) (f : Nat → va_E) (hC : CI L K cy N r f) (sz : Nat) (k v wt : Int32) : Met l yX9_worker wsX9_worker ({ frames := 2, cells := 0, slots := 0, locals := 43 }) (PW D (TYS cy) (XW x cy g N n a r ++ va_pl L f) sz [.ref (x 0), .int k, .int v, .int wt]) (va_Qi (fun (res : Int32) (u : Unit) => True) (BU D (TYS cy) (XW x cy g N n a r ++ va_pl L f) (fun _ => XW x cy g N n a r ++ va_pl L f) sz) (va_A (XW x cy g N n a r ++ va_pl L f) sz)) 0 0 (va_A (XW x cy g N n a r ++ va_pl L f) sz) := by
  refine Met.ofW (cc := cX9_worker) (maxL := 5) (ret := (some .int)) (by decide) rfl ?_
  intro p e s m args below meth c s₁ B hml hv
  obtain ⟨rfl, hsz, hP, hK, hD0⟩ := hv
  have hx := B.exec
  have hb := B.bytes
  have hr := B.returns
  have hts := atoms_spec (ws := wsX9_worker) B.pre
  have hown : s.vm.findClass RX9 = some m.cls := findClass_of_methodNamed B.named
  have hlocks := B.notSynchronized
  subst hsz
  obtain ⟨hNB, hRB, hHT⟩ := hC
  have hSM : SM N N n n := SM_rf
  have hMM : MM N N a a := MM_rf
  have hD := hD0.self (sz := s.heap.size)
  have hA : ∀ q9 : Nat, s.heap.size ≤ q9 → va_A (XW x cy g N n a r ++ va_pl L f) s.heap.size q9 := fun q9 h => Or.inr h
  have hS : va_S (va_A (XW x cy g N n a r ++ va_pl L f) s.heap.size) s.heap s.heap [] := va_S.rf
  have hl := lv_entry ([.ref (x 0), .int k, .int v, .int wt]) (n := 5) (Nat.le_of_ble_eq_true rfl)
  rw [lg_entry_eq]
  generalize (lg_sl ([.ref (x 0), .int k, .int v, .int wt]) ++ List.replicate (5 - (lg_sl ([.ref (x 0), .int k, .int v, .int wt])).length) Slot.unset).toArray = ls at hl ⊢
  have hl : lv_has ls 5 [(0, .ref (x 0)), (1, .int k), (2, .int v), (3, .int wt)] := hl
  refine lv_iload_n hx hb dX9_worker_0 rfl (lv_at hl 1 rfl) ?_
  refine lv_if_eq (tgt := 13) hx hb dX9_worker_1 (by decide) (fun c1 => ?_) (fun c1 => ?_)
  · skip
    refine lv_iconst (v := (-1)) hx hb dX9_worker_13 (by decide) ?_
    exact W.iret (v := (-1)) hx hb hr (fun t ht hW => ⟨⟨(-1), (), rfl, trivial, by rw [ht]; exact hP, va_K.moved hW.alike hK, hD⟩, hS.F ht⟩) hS.2.2 dX9_worker_14
  · skip
    refine lv_aload_n hx hb dX9_worker_4 rfl (lv_at hl 0 rfl) ?_
    refine lv_iload_n hx hb dX9_worker_5 rfl (lv_at hl 1 rfl) ?_
    refine lv_iload_n hx hb dX9_worker_6 rfl (lv_at hl 2 rfl) ?_
    refine gvI (As := [.int k, .int v]) (rest := []) ⟨hx, hb, hml, hown, hts⟩ (zX9_isPerson l D x cy g L K hG N n a r f ⟨hNB, hRB, hHT⟩ _  k v ) (cwV 2 hts gX9_worker_X9_isPerson rfl rfl rfl (by decide +kernel) ⟨Nat.le_of_ble_eq_true rfl, Nat.le_of_ble_eq_true rfl⟩) hK hP hD hS hA (va_recv hK hP (ci := 9) (q0 := 0) rfl rfl) rfl hl.1 rfl (Nat.le_of_ble_eq_true rfl) dX9_worker_7 ⟨Nat.le_of_ble_eq_true rfl, Nat.le_of_ble_eq_true rfl⟩ (fun q2 u3 H locs hq2 hP hD hS => ?_)
    have hP : va_P D vwCl (XW x cy g N n a r ++ va_pl L f) H := hP
    have hD : va_D _ (XW x cy g N n a r ++ va_pl L f) := hD
    refine lv_if_ne (tgt := 15) hx hb dX9_worker_10 (by decide) (fun c4 => ?_) (fun c4 => ?_)
    · skip
      obtain ⟨j5, hj5, rfl⟩ := hq2.2.mp c4
      refine lv_iload_n hx hb dX9_worker_15 rfl (lv_at hl 1 rfl) ?_
      refine lv_iconst (v := 1) hx hb dX9_worker_16 (by decide) ?_
      refine lv_icmp_ne (tgt := 32) hx hb dX9_worker_17 (by decide) (fun c6 => ?_) (fun c6 => ?_)
      · skip
        have nb0 : N 0 ≤ 12 := hNB 0 (by decide)
        have nb1 : N 1 ≤ 40 := hNB 1 (by decide)
        have nb2 : N 2 ≤ 20 := hNB 2 (by decide)
        have nb3 : N 3 ≤ 4 := hNB 3 (by decide)
        have nb4 : N 4 ≤ 3 := hNB 4 (by decide)
        have nb5 : N 5 ≤ 20 := hNB 5 (by decide)
        have nb6 : N 6 ≤ 20 := hNB 6 (by decide)
        have nb7 : N 7 ≤ 20 := hNB 7 (by decide)
        have nb8 : N 8 ≤ 30 := hNB 8 (by decide)
        have nb9 : N 9 ≤ 400 := hNB 9 (by decide)
        have qj5 := hj5
        have qj5 := Nat.lt_of_lt_of_le qj5 (pcn_le c1 c6)
        refine lv_aload_n hx hb dX9_worker_32 rfl (lv_at hl 0 rfl) ?_
        refine va_get (D := D) (ci := 9) (v := .ref (x 6)) (C := RX9) (T := TX9) (N := 19) hx hb hts iX9_worker_9 hown hK hP 0 rfl rfl 4 (by decide) (hts (.fieldLink RX9 41 "FondsRoom" "copyists" "LFondsRoom$Staff;") (by decide +kernel)) (fun _ h9 => h9) rfl dX9_worker_33 ?_
        refine va_get (D := D) (ci := 7) (v := .ref (x 7)) (C := RX7) (T := TX7) (N := 2) hx hb hts iX9_worker_7 hown hK hP 6 rfl rfl 0 (by decide) (hts (.fieldLink RX9 216 "FondsRoom$Staff" "workers" "[LFondsRoom$Worker;") (by decide +kernel)) (fun _ h9 => h9) rfl dX9_worker_36 ?_
        refine lv_iload_n hx hb dX9_worker_39 rfl (lv_at hl 2 rfl) ?_
        refine va_aldq hx hb hK hP 7 5 rfl rfl (vp_in_nI (by omega) (by omega)) dX9_worker_40 ?_
        obtain ⟨p7, ep7, mp7, kp7⟩ := hG.2.2.2.2 j5 (by omega)
        refine lv_tov (v' := .ref p7) (by rw [nI_clamp (by omega)]; show va_rf (g 4 j5) = _; rw [ep7]; rfl) ?_
        refine lv_astore (lv' := [(4, .ref p7), (0, .ref (x 0)), (1, .int k), (2, .int (nI j5)), (3, .int wt)]) hx hb dX9_worker_41 hl (by decide) rfl (fun ls hl => ?_)
        refine lv_iload_n hx hb dX9_worker_43 rfl (lv_at hl 4 rfl) ?_
        refine lv_if_ne (tgt := 68) hx hb dX9_worker_44 (by decide) (fun c8 => ?_) (fun c8 => ?_)
        · skip
          refine lv_iload_n hx hb dX9_worker_68 rfl (lv_at hl 4 rfl) ?_
          refine lv_iconst (v := 1) hx hb dX9_worker_69 (by decide) ?_
          refine lv_icmp_ne (tgt := 81) hx hb dX9_worker_70 (by decide) (fun c9 => ?_) (fun c9 => ?_)
          · skip
            refine lv_iconst (v := (-1)) hx hb dX9_worker_81 (by decide) ?_
            exact W.iret (v := (-1)) hx hb hr (fun t ht hW => ⟨⟨(-1), (), rfl, trivial, by rw [ht]; exact hP, va_K.moved hW.alike hK, hD⟩, hS.F ht⟩) hS.2.2 dX9_worker_82
          · skip
            refine lv_aload hx hb dX9_worker_73 (lv_at hl 0 rfl) ?_
            obtain ⟨b_o10, g_o10, l_o10, hf_o10, sb_o10, sg_o10⟩ : TE L K cy 8 (f p7) := by rw [← kp7]; exact hHT p7 mp7
            refine pg_get (D := D) (ci := 8) (v := .int l_o10) (C := RX8) (T := TX8) (N := 3) hx hb hts iX9_worker_8 hown hK hP mp7 hf_o10 rfl 2 (by decide) (hts (.fieldLink RX9 243 "FondsRoom$Worker" "left" "I") (by decide +kernel)) (fun _ h9 => h9) rfl dX9_worker_75 ?_
            refine lv_goto (tgt := 82) hx hb dX9_worker_78 (by decide) ?_
            exact W.iret (v := l_o10) hx hb hr (fun t ht hW => ⟨⟨l_o10, (), rfl, trivial, by rw [ht]; exact hP, va_K.moved hW.alike hK, hD⟩, hS.F ht⟩) hS.2.2 dX9_worker_82
        · skip
          refine lv_aload hx hb dX9_worker_47 (lv_at hl 0 rfl) ?_
          obtain ⟨b_o11, g_o11, l_o11, hf_o11, sb_o11, sg_o11⟩ : TE L K cy 8 (f p7) := by rw [← kp7]; exact hHT p7 mp7
          refine pg_get (D := D) (ci := 8) (v := va_rf b_o11) (C := RX8) (T := TX8) (N := 3) hx hb hts iX9_worker_8 hown hK hP mp7 hf_o11 rfl 0 (by decide) (hts (.fieldLink RX9 227 "FondsRoom$Worker" "box" "LFondsRoom$Box;") (by decide +kernel)) (fun _ h9 => h9) rfl dX9_worker_49 ?_
          rcases eb12 : b_o11 with _ | b12
          · skip
            subst eb12
            have hP : va_P D vwCl (XW x cy g N n a r ++ va_pl L f) H := by assumption
            have hD : va_D (va_A (XW x cy g N n a r ++ va_pl L f) s.heap.size) (XW x cy g N n a r ++ va_pl L f) := by assumption
            have hl : lv_has ls 5 [(4, .ref p7), (0, .ref (x 0)), (1, .int k), (2, .int (nI j5)), (3, .int wt)] := by assumption
            refine lv_ifnonnullN hx hb dX9_worker_52 ?_
            refine lv_iconst (v := (-1)) hx hb dX9_worker_55 (by decide) ?_
            refine lv_goto (tgt := 67) hx hb dX9_worker_56 (by decide) ?_
            exact W.iret (v := (-1)) hx hb hr (fun t ht hW => ⟨⟨(-1), (), rfl, trivial, by rw [ht]; exact hP, va_K.moved hW.alike hK, hD⟩, hS.F ht⟩) hS.2.2 dX9_worker_67
          · skip
            subst eb12
            have mb12 := sb_o11 b12 rfl
            have hP : va_P D vwCl (XW x cy g N n a r ++ va_pl L f) H := by assumption
            have hD : va_D (va_A (XW x cy g N n a r ++ va_pl L f) s.heap.size) (XW x cy g N n a r ++ va_pl L f) := by assumption
            have hl : lv_has ls 5 [(4, .ref p7), (0, .ref (x 0)), (1, .int k), (2, .int (nI j5)), (3, .int wt)] := by assumption
            refine lv_ifnonnull (tgt := 59) hx hb dX9_worker_52 (by decide) ?_
            refine lv_aload hx hb dX9_worker_59 (lv_at hl 0 rfl) ?_
            refine pg_get (D := D) (ci := 8) (v := .ref b12) (C := RX8) (T := TX8) (N := 3) hx hb hts iX9_worker_8 hown hK hP mp7 hf_o11 rfl 0 (by decide) (hts (.fieldLink RX9 227 "FondsRoom$Worker" "box" "LFondsRoom$Box;") (by decide +kernel)) (fun _ h9 => h9) rfl dX9_worker_61 ?_
            obtain ⟨n_o13, fo_o13, pr_o13, pl_o13, h_o13, w_o13, hf_o13, spr_o13, sh_o13, sw_o13⟩ : TE L K cy 0 (f b12) := by rw [← mb12.2]; exact hHT b12 mb12.1
            refine pg_get (D := D) (ci := 0) (v := .int n_o13) (C := RX0) (T := TX0) (N := 6) hx hb hts iX9_worker_0 hown hK hP mb12.1 hf_o13 rfl 0 (by decide) (hts (.fieldLink RX9 253 "FondsRoom$Box" "number" "I") (by decide +kernel)) (fun _ h9 => h9) rfl dX9_worker_64 ?_
            exact W.iret (v := n_o13) hx hb hr (fun t ht hW => ⟨⟨n_o13, (), rfl, trivial, by rw [ht]; exact hP, va_K.moved hW.alike hK, hD⟩, hS.F ht⟩) hS.2.2 dX9_worker_67
      · skip
        have nb0 : N 0 ≤ 12 := hNB 0 (by decide)
        have nb1 : N 1 ≤ 40 := hNB 1 (by decide)
        have nb2 : N 2 ≤ 20 := hNB 2 (by decide)
        have nb3 : N 3 ≤ 4 := hNB 3 (by decide)
        have nb4 : N 4 ≤ 3 := hNB 4 (by decide)
        have nb5 : N 5 ≤ 20 := hNB 5 (by decide)
        have nb6 : N 6 ≤ 20 := hNB 6 (by decide)
        have nb7 : N 7 ≤ 20 := hNB 7 (by decide)
        have nb8 : N 8 ≤ 30 := hNB 8 (by decide)
        have nb9 : N 9 ≤ 400 := hNB 9 (by decide)
        have qj5 := hj5
        rw [pcn_1 c6] at qj5
        refine lv_aload_n hx hb dX9_worker_20 rfl (lv_at hl 0 rfl) ?_
        refine va_get (D := D) (ci := 9) (v := .ref (x 4)) (C := RX9) (T := TX9) (N := 19) hx hb hts iX9_worker_9 hown hK hP 0 rfl rfl 3 (by decide) (hts (.fieldLink RX9 37 "FondsRoom" "fetchers" "LFondsRoom$Staff;") (by decide +kernel)) (fun _ h9 => h9) rfl dX9_worker_21 ?_
        refine va_get (D := D) (ci := 7) (v := .ref (x 5)) (C := RX7) (T := TX7) (N := 2) hx hb hts iX9_worker_7 hown hK hP 4 rfl rfl 0 (by decide) (hts (.fieldLink RX9 216 "FondsRoom$Staff" "workers" "[LFondsRoom$Worker;") (by decide +kernel)) (fun _ h9 => h9) rfl dX9_worker_24 ?_
        refine lv_iload_n hx hb dX9_worker_27 rfl (lv_at hl 2 rfl) ?_
        refine va_aldq hx hb hK hP 5 5 rfl rfl (vp_in_nI (by omega) (by omega)) dX9_worker_28 ?_
        obtain ⟨p14, ep14, mp14, kp14⟩ := hG.2.2.2.1 j5 (by omega)
        refine lv_tov (v' := .ref p14) (by rw [nI_clamp (by omega)]; show va_rf (g 3 j5) = _; rw [ep14]; rfl) ?_
        refine lv_goto (tgt := 41) hx hb dX9_worker_29 (by decide) ?_
        refine lv_astore (lv' := [(4, .ref p14), (0, .ref (x 0)), (1, .int k), (2, .int (nI j5)), (3, .int wt)]) hx hb dX9_worker_41 hl (by decide) rfl (fun ls hl => ?_)
        refine lv_iload_n hx hb dX9_worker_43 rfl (lv_at hl 4 rfl) ?_
        refine lv_if_ne (tgt := 68) hx hb dX9_worker_44 (by decide) (fun c15 => ?_) (fun c15 => ?_)
        · skip
          refine lv_iload_n hx hb dX9_worker_68 rfl (lv_at hl 4 rfl) ?_
          refine lv_iconst (v := 1) hx hb dX9_worker_69 (by decide) ?_
          refine lv_icmp_ne (tgt := 81) hx hb dX9_worker_70 (by decide) (fun c16 => ?_) (fun c16 => ?_)
          · skip
            refine lv_iconst (v := (-1)) hx hb dX9_worker_81 (by decide) ?_
            exact W.iret (v := (-1)) hx hb hr (fun t ht hW => ⟨⟨(-1), (), rfl, trivial, by rw [ht]; exact hP, va_K.moved hW.alike hK, hD⟩, hS.F ht⟩) hS.2.2 dX9_worker_82
          · skip
            refine lv_aload hx hb dX9_worker_73 (lv_at hl 0 rfl) ?_
            obtain ⟨b_o17, g_o17, l_o17, hf_o17, sb_o17, sg_o17⟩ : TE L K cy 8 (f p14) := by rw [← kp14]; exact hHT p14 mp14
            refine pg_get (D := D) (ci := 8) (v := .int l_o17) (C := RX8) (T := TX8) (N := 3) hx hb hts iX9_worker_8 hown hK hP mp14 hf_o17 rfl 2 (by decide) (hts (.fieldLink RX9 243 "FondsRoom$Worker" "left" "I") (by decide +kernel)) (fun _ h9 => h9) rfl dX9_worker_75 ?_
            refine lv_goto (tgt := 82) hx hb dX9_worker_78 (by decide) ?_
            exact W.iret (v := l_o17) hx hb hr (fun t ht hW => ⟨⟨l_o17, (), rfl, trivial, by rw [ht]; exact hP, va_K.moved hW.alike hK, hD⟩, hS.F ht⟩) hS.2.2 dX9_worker_82
        · skip
          refine lv_aload hx hb dX9_worker_47 (lv_at hl 0 rfl) ?_
          obtain ⟨b_o18, g_o18, l_o18, hf_o18, sb_o18, sg_o18⟩ : TE L K cy 8 (f p14) := by rw [← kp14]; exact hHT p14 mp14
          refine pg_get (D := D) (ci := 8) (v := va_rf b_o18) (C := RX8) (T := TX8) (N := 3) hx hb hts iX9_worker_8 hown hK hP mp14 hf_o18 rfl 0 (by decide) (hts (.fieldLink RX9 227 "FondsRoom$Worker" "box" "LFondsRoom$Box;") (by decide +kernel)) (fun _ h9 => h9) rfl dX9_worker_49 ?_
          rcases eb19 : b_o18 with _ | b19
          · skip
            subst eb19
            have hP : va_P D vwCl (XW x cy g N n a r ++ va_pl L f) H := by assumption
            have hD : va_D (va_A (XW x cy g N n a r ++ va_pl L f) s.heap.size) (XW x cy g N n a r ++ va_pl L f) := by assumption
            have hl : lv_has ls 5 [(4, .ref p14), (0, .ref (x 0)), (1, .int k), (2, .int (nI j5)), (3, .int wt)] := by assumption
            refine lv_ifnonnullN hx hb dX9_worker_52 ?_
            refine lv_iconst (v := (-1)) hx hb dX9_worker_55 (by decide) ?_
            refine lv_goto (tgt := 67) hx hb dX9_worker_56 (by decide) ?_
            exact W.iret (v := (-1)) hx hb hr (fun t ht hW => ⟨⟨(-1), (), rfl, trivial, by rw [ht]; exact hP, va_K.moved hW.alike hK, hD⟩, hS.F ht⟩) hS.2.2 dX9_worker_67
          · skip
            subst eb19
            have mb19 := sb_o18 b19 rfl
            have hP : va_P D vwCl (XW x cy g N n a r ++ va_pl L f) H := by assumption
            have hD : va_D (va_A (XW x cy g N n a r ++ va_pl L f) s.heap.size) (XW x cy g N n a r ++ va_pl L f) := by assumption
            have hl : lv_has ls 5 [(4, .ref p14), (0, .ref (x 0)), (1, .int k), (2, .int (nI j5)), (3, .int wt)] := by assumption
            refine lv_ifnonnull (tgt := 59) hx hb dX9_worker_52 (by decide) ?_
            refine lv_aload hx hb dX9_worker_59 (lv_at hl 0 rfl) ?_
            refine pg_get (D := D) (ci := 8) (v := .ref b19) (C := RX8) (T := TX8) (N := 3) hx hb hts iX9_worker_8 hown hK hP mp14 hf_o18 rfl 0 (by decide) (hts (.fieldLink RX9 227 "FondsRoom$Worker" "box" "LFondsRoom$Box;") (by decide +kernel)) (fun _ h9 => h9) rfl dX9_worker_61 ?_
            obtain ⟨n_o20, fo_o20, pr_o20, pl_o20, h_o20, w_o20, hf_o20, spr_o20, sh_o20, sw_o20⟩ : TE L K cy 0 (f b19) := by rw [← mb19.2]; exact hHT b19 mb19.1
            refine pg_get (D := D) (ci := 0) (v := .int n_o20) (C := RX0) (T := TX0) (N := 6) hx hb hts iX9_worker_0 hown hK hP mb19.1 hf_o20 rfl 0 (by decide) (hts (.fieldLink RX9 253 "FondsRoom$Box" "number" "I") (by decide +kernel)) (fun _ h9 => h9) rfl dX9_worker_64 ?_
            exact W.iret (v := n_o20) hx hb hr (fun t ht hW => ⟨⟨n_o20, (), rfl, trivial, by rw [ht]; exact hP, va_K.moved hW.alike hK, hD⟩, hS.F ht⟩) hS.2.2 dX9_worker_67
    · skip
      refine lv_iconst (v := (-1)) hx hb dX9_worker_13 (by decide) ?_
      exact W.iret (v := (-1)) hx hb hr (fun t ht hW => ⟨⟨(-1), (), rfl, trivial, by rw [ht]; exact hP, va_K.moved hW.alike hK, hD⟩, hS.F ht⟩) hS.2.2 dX9_worker_14

theorem iX9_lineOf_9 : ∀ w ∈ wsX90, w ∈ wsX9_lineOf := fun _ h => List.mem_cons_of_mem _ (List.mem_append_right _ h)
set_option maxHeartbeats 4000000 in
set_option maxRecDepth 100000 in
theorem zX9_lineOf (l : Launch) (D : va_G) (x : Nat → Nat) (cy : Nat → ClassId) (g : Nat → Nat → Option Nat) (L : List Nat) (K : Nat → Nat) (hG : GO L K g) (N : Nat → Nat) (n : Nat → Int32) (a : Nat → Nat → Int32) (r : Nat → Nat → Option Nat) (f : Nat → va_E) (hC : CI L K cy N r f) (sz : Nat) (v : Int32) : Met l yX9_lineOf wsX9_lineOf ({ frames := 0, cells := 0, slots := 0, locals := 0 }) (PW D (TYS cy) (XW x cy g N n a r ++ va_pl L f) sz [.ref (x 0), .int v]) (va_Qq (fun (res : Option Nat) (u : Unit) => res = none ∨ res = some (x 8) ∨ res = some (x 10) ∨ res = some (x 12)) (BU D (TYS cy) (XW x cy g N n a r ++ va_pl L f) (fun _ => XW x cy g N n a r ++ va_pl L f) sz) (va_A (XW x cy g N n a r ++ va_pl L f) sz)) 0 0 (va_A (XW x cy g N n a r ++ va_pl L f) sz) := by
  refine Met.ofW (cc := cX9_lineOf) (maxL := 2) (ret := (some (.object "FondsRoom$Line"))) (by decide) rfl ?_
  intro p e s m args below meth c s₁ B hml hv
  obtain ⟨rfl, hsz, hP, hK, hD0⟩ := hv
  have hx := B.exec
  have hb := B.bytes
  have hr := B.returns
  have hts := atoms_spec (ws := wsX9_lineOf) B.pre
  have hown : s.vm.findClass RX9 = some m.cls := findClass_of_methodNamed B.named
  have hlocks := B.notSynchronized
  subst hsz
  obtain ⟨hNB, hRB, hHT⟩ := hC
  have hSM : SM N N n n := SM_rf
  have hMM : MM N N a a := MM_rf
  have hD := hD0.self (sz := s.heap.size)
  have hA : ∀ q9 : Nat, s.heap.size ≤ q9 → va_A (XW x cy g N n a r ++ va_pl L f) s.heap.size q9 := fun q9 h => Or.inr h
  have hS : va_S (va_A (XW x cy g N n a r ++ va_pl L f) s.heap.size) s.heap s.heap [] := va_S.rf
  have hl := lv_entry ([.ref (x 0), .int v]) (n := 2) (Nat.le_of_ble_eq_true rfl)
  rw [lg_entry_eq]
  generalize (lg_sl ([.ref (x 0), .int v]) ++ List.replicate (2 - (lg_sl ([.ref (x 0), .int v])).length) Slot.unset).toArray = ls at hl ⊢
  have hl : lv_has ls 2 [(0, .ref (x 0)), (1, .int v)] := hl
  refine lv_iload_n hx hb dX9_lineOf_0 rfl (lv_at hl 1 rfl) ?_
  by_cases j1 : v = 0
  · skip
    refine lv_tableIn (tgt := 28) hx hb dX9_lineOf_1 (by rw [j1]; decide) (by rw [j1]; decide) (by rw [j1]; rfl) (by decide) ?_
    refine lv_aload_n hx hb dX9_lineOf_28 rfl (lv_at hl 0 rfl) ?_
    refine va_get (D := D) (ci := 9) (v := .ref (x 8)) (C := RX9) (T := TX9) (N := 19) hx hb hts iX9_lineOf_9 hown hK hP 0 rfl rfl 5 (by decide) (hts (.fieldLink RX9 47 "FondsRoom" "deskLine" "LFondsRoom$Line;") (by decide +kernel)) (fun _ h9 => h9) rfl dX9_lineOf_29 ?_
    exact W.aret (v := .ref (x 8)) hx hb hr (Or.inl ⟨_, rfl⟩) (Or.inr ⟨_, rfl⟩) (fun t ht hW => ⟨⟨(some (x 8)), (), rfl, Or.inr (Or.inl rfl), by rw [ht]; exact hP, va_K.moved hW.alike hK, hD⟩, hS.F ht⟩) hS.2.2 dX9_lineOf_32
  by_cases j2 : v = 1
  · skip
    refine lv_tableIn (tgt := 33) hx hb dX9_lineOf_1 (by rw [j2]; decide) (by rw [j2]; decide) (by rw [j2]; rfl) (by decide) ?_
    refine lv_aload_n hx hb dX9_lineOf_33 rfl (lv_at hl 0 rfl) ?_
    refine va_get (D := D) (ci := 9) (v := .ref (x 10)) (C := RX9) (T := TX9) (N := 19) hx hb hts iX9_lineOf_9 hown hK hP 0 rfl rfl 6 (by decide) (hts (.fieldLink RX9 51 "FondsRoom" "boxTickets" "LFondsRoom$Line;") (by decide +kernel)) (fun _ h9 => h9) rfl dX9_lineOf_34 ?_
    exact W.aret (v := .ref (x 10)) hx hb hr (Or.inl ⟨_, rfl⟩) (Or.inr ⟨_, rfl⟩) (fun t ht hW => ⟨⟨(some (x 10)), (), rfl, Or.inr (Or.inr (Or.inl rfl)), by rw [ht]; exact hP, va_K.moved hW.alike hK, hD⟩, hS.F ht⟩) hS.2.2 dX9_lineOf_37
  by_cases j3 : v = 2
  · skip
    refine lv_tableIn (tgt := 38) hx hb dX9_lineOf_1 (by rw [j3]; decide) (by rw [j3]; decide) (by rw [j3]; rfl) (by decide) ?_
    refine lv_aload_n hx hb dX9_lineOf_38 rfl (lv_at hl 0 rfl) ?_
    refine va_get (D := D) (ci := 9) (v := .ref (x 12)) (C := RX9) (T := TX9) (N := 19) hx hb hts iX9_lineOf_9 hown hK hP 0 rfl rfl 7 (by decide) (hts (.fieldLink RX9 54 "FondsRoom" "copyTickets" "LFondsRoom$Line;") (by decide +kernel)) (fun _ h9 => h9) rfl dX9_lineOf_39 ?_
    exact W.aret (v := .ref (x 12)) hx hb hr (Or.inl ⟨_, rfl⟩) (Or.inr ⟨_, rfl⟩) (fun t ht hW => ⟨⟨(some (x 12)), (), rfl, Or.inr (Or.inr (Or.inr rfl)), by rw [ht]; exact hP, va_K.moved hW.alike hK, hD⟩, hS.F ht⟩) hS.2.2 dX9_lineOf_42
  have zj1 : (v).toInt ≠ 0 := fun h9 => j1 ((fa_eq _ _).mpr (h9.trans (by decide)))
  have zj2 : (v).toInt ≠ 1 := fun h9 => j2 ((fa_eq _ _).mpr (h9.trans (by decide)))
  have zj3 : (v).toInt ≠ 2 := fun h9 => j3 ((fa_eq _ _).mpr (h9.trans (by decide)))
  refine lv_tableOut (tgt := 43) hx hb dX9_lineOf_1 (by omega) (by decide) ?_
  refine lv_null hx hb dX9_lineOf_43 ?_
  exact W.aret (v := .null) hx hb hr (Or.inl ⟨_, rfl⟩) (Or.inl rfl) (fun t ht hW => ⟨⟨none, (), rfl, Or.inl rfl, by rw [ht]; exact hP, va_K.moved hW.alike hK, hD⟩, hS.F ht⟩) hS.2.2 dX9_lineOf_44

set_option maxHeartbeats 4000000 in
set_option maxRecDepth 100000 in
theorem zX9_waitsStill (l : Launch) (D : va_G) (x : Nat → Nat) (cy : Nat → ClassId) (g : Nat → Nat → Option Nat) (L : List Nat) (K : Nat → Nat) (hG : GO L K g) (N : Nat → Nat) (n : Nat → Int32) (a : Nat → Nat → Int32) (r : Nat → Nat → Option Nat) (f : Nat → va_E) (hC : CI L K cy N r f) (sz : Nat) (rd : Nat) (k : Int32) (mrd : rd ∈ L ∧ K rd = 6) : Met l yX9_waitsStill wsX9_waitsStill ({ frames := 1, cells := 0, slots := 0, locals := 21 }) (PW D (TYS cy) (XW x cy g N n a r ++ va_pl L f) sz [.ref (x 0), .int k, .ref rd]) (va_Qi (fun (res : Int32) (u : Unit) => b01 res) (BU D (TYS cy) (XW x cy g N n a r ++ va_pl L f) (fun _ => XW x cy g N n a r ++ va_pl L f) sz) (va_A (XW x cy g N n a r ++ va_pl L f) sz)) 0 0 (va_A (XW x cy g N n a r ++ va_pl L f) sz) := by
  refine Met.ofW (cc := cX9_waitsStill) (maxL := 3) (ret := (some .boolean)) (by decide) rfl ?_
  intro p e s m args below meth c s₁ B hml hv
  obtain ⟨rfl, hsz, hP, hK, hD0⟩ := hv
  have hx := B.exec
  have hb := B.bytes
  have hr := B.returns
  have hts := atoms_spec (ws := wsX9_waitsStill) B.pre
  have hown : s.vm.findClass RX9 = some m.cls := findClass_of_methodNamed B.named
  have hlocks := B.notSynchronized
  subst hsz
  obtain ⟨hNB, hRB, hHT⟩ := hC
  have hSM : SM N N n n := SM_rf
  have hMM : MM N N a a := MM_rf
  have hD := hD0.self (sz := s.heap.size)
  have hA : ∀ q9 : Nat, s.heap.size ≤ q9 → va_A (XW x cy g N n a r ++ va_pl L f) s.heap.size q9 := fun q9 h => Or.inr h
  have hS : va_S (va_A (XW x cy g N n a r ++ va_pl L f) s.heap.size) s.heap s.heap [] := va_S.rf
  have hl := lv_entry ([.ref (x 0), .int k, .ref rd]) (n := 3) (Nat.le_of_ble_eq_true rfl)
  rw [lg_entry_eq]
  generalize (lg_sl ([.ref (x 0), .int k, .ref rd]) ++ List.replicate (3 - (lg_sl ([.ref (x 0), .int k, .ref rd])).length) Slot.unset).toArray = ls at hl ⊢
  have hl : lv_has ls 3 [(0, .ref (x 0)), (1, .int k), (2, .ref rd)] := hl
  refine lv_iload_n hx hb dX9_waitsStill_0 rfl (lv_at hl 1 rfl) ?_
  refine lv_iconst (v := 1) hx hb dX9_waitsStill_1 (by decide) ?_
  refine lv_icmp_ne (tgt := 19) hx hb dX9_waitsStill_2 (by decide) (fun c1 => ?_) (fun c1 => ?_)
  · skip
    refine lv_iload_n hx hb dX9_waitsStill_19 rfl (lv_at hl 1 rfl) ?_
    refine lv_iconst (v := 2) hx hb dX9_waitsStill_20 (by decide) ?_
    refine lv_icmp_ne (tgt := 32) hx hb dX9_waitsStill_21 (by decide) (fun c2 => ?_) (fun c2 => ?_)
    · skip
      refine lv_iconst (v := 1) hx hb dX9_waitsStill_32 (by decide) ?_
      refine lv_goto (tgt := 37) hx hb dX9_waitsStill_33 (by decide) ?_
      exact W.zret (v := 1) hx hb hr (rfl) (fun t ht hW => ⟨⟨1, (), rfl, Or.inr rfl, by rw [ht]; exact hP, va_K.moved hW.alike hK, hD⟩, hS.F ht⟩) hS.2.2 dX9_waitsStill_37
    · skip
      refine lv_aload_n hx hb dX9_waitsStill_24 rfl (lv_at hl 2 rfl) ?_
      refine lv_iconst (v := 5) hx hb dX9_waitsStill_25 (by decide) ?_
      obtain ⟨n_o5, p_o5, ar_o5, rk_o5, nw_o5, st_o5, ct_o5, d_o5, aw_o5, rl_o5, cp_o5, cu_o5, w1_o5, w2_o5, w3_o5, ov_o5, co_o5, hf_o5, sp_o5, snw_o5, sd_o5, saw_o5, scu_o5⟩ : TE L K cy 6 (f rd) := by rw [← mrd.2]; exact hHT rd mrd.1
      refine gvI (As := [.int 5]) (rest := []) ⟨hx, hb, hml, hown, hts⟩ (zX6_awaitsAt l D x cy g L K hG N n a r f ⟨hNB, hRB, hHT⟩ _ rd 5 ⟨mrd.1, mrd.2⟩) (cwV 1 hts gX9_waitsStill_X6_awaitsAt rfl rfl rfl (by decide +kernel) ⟨Nat.le_of_ble_eq_true rfl, Nat.le_of_ble_eq_true rfl⟩) hK hP hD hS hA (pl_recv hK hP (ci := 6) rfl mrd.1 hf_o5) rfl hl.1 rfl (Nat.le_of_ble_eq_true rfl) dX9_waitsStill_26 ⟨Nat.le_of_ble_eq_true rfl, Nat.le_of_ble_eq_true rfl⟩ (fun q3 u4 H locs hq3 hP hD hS => ?_)
      have hP : va_P D vwCl (XW x cy g N n a r ++ va_pl L f) H := hP
      have hD : va_D _ (XW x cy g N n a r ++ va_pl L f) := hD
      refine lv_if_eq (tgt := 36) hx hb dX9_waitsStill_29 (by decide) (fun c6 => ?_) (fun c6 => ?_)
      · skip
        refine lv_iconst (v := 0) hx hb dX9_waitsStill_36 (by decide) ?_
        exact W.zret (v := 0) hx hb hr (rfl) (fun t ht hW => ⟨⟨0, (), rfl, Or.inl rfl, by rw [ht]; exact hP, va_K.moved hW.alike hK, hD⟩, hS.F ht⟩) hS.2.2 dX9_waitsStill_37
      · skip
        refine lv_iconst (v := 1) hx hb dX9_waitsStill_32 (by decide) ?_
        refine lv_goto (tgt := 37) hx hb dX9_waitsStill_33 (by decide) ?_
        exact W.zret (v := 1) hx hb hr (rfl) (fun t ht hW => ⟨⟨1, (), rfl, Or.inr rfl, by rw [ht]; exact hP, va_K.moved hW.alike hK, hD⟩, hS.F ht⟩) hS.2.2 dX9_waitsStill_37
  · skip
    refine lv_aload_n hx hb dX9_waitsStill_5 rfl (lv_at hl 2 rfl) ?_
    refine lv_iconst (v := 3) hx hb dX9_waitsStill_6 (by decide) ?_
    obtain ⟨n_o9, p_o9, ar_o9, rk_o9, nw_o9, st_o9, ct_o9, d_o9, aw_o9, rl_o9, cp_o9, cu_o9, w1_o9, w2_o9, w3_o9, ov_o9, co_o9, hf_o9, sp_o9, snw_o9, sd_o9, saw_o9, scu_o9⟩ : TE L K cy 6 (f rd) := by rw [← mrd.2]; exact hHT rd mrd.1
    refine gvI (As := [.int 3]) (rest := []) ⟨hx, hb, hml, hown, hts⟩ (zX6_awaitsAt l D x cy g L K hG N n a r f ⟨hNB, hRB, hHT⟩ _ rd 3 ⟨mrd.1, mrd.2⟩) (cwV 1 hts gX9_waitsStill_X6_awaitsAt rfl rfl rfl (by decide +kernel) ⟨Nat.le_of_ble_eq_true rfl, Nat.le_of_ble_eq_true rfl⟩) hK hP hD hS hA (pl_recv hK hP (ci := 6) rfl mrd.1 hf_o9) rfl hl.1 rfl (Nat.le_of_ble_eq_true rfl) dX9_waitsStill_7 ⟨Nat.le_of_ble_eq_true rfl, Nat.le_of_ble_eq_true rfl⟩ (fun q7 u8 H locs hq7 hP hD hS => ?_)
    have hP : va_P D vwCl (XW x cy g N n a r ++ va_pl L f) H := hP
    have hD : va_D _ (XW x cy g N n a r ++ va_pl L f) := hD
    refine lv_if_ne (tgt := 17) hx hb dX9_waitsStill_10 (by decide) (fun c10 => ?_) (fun c10 => ?_)
    · skip
      refine lv_iconst (v := 0) hx hb dX9_waitsStill_17 (by decide) ?_
      exact W.zret (v := 0) hx hb hr (rfl) (fun t ht hW => ⟨⟨0, (), rfl, Or.inl rfl, by rw [ht]; exact hP, va_K.moved hW.alike hK, hD⟩, hS.F ht⟩) hS.2.2 dX9_waitsStill_18
    · skip
      refine lv_iconst (v := 1) hx hb dX9_waitsStill_13 (by decide) ?_
      refine lv_goto (tgt := 18) hx hb dX9_waitsStill_14 (by decide) ?_
      exact W.zret (v := 1) hx hb hr (rfl) (fun t ht hW => ⟨⟨1, (), rfl, Or.inr rfl, by rw [ht]; exact hP, va_K.moved hW.alike hK, hD⟩, hS.F ht⟩) hS.2.2 dX9_waitsStill_18

theorem iX9_queue_3 : ∀ w ∈ wsX30, w ∈ wsX9_queue := fun _ h => List.mem_cons_of_mem _ (List.mem_append_left _ (List.mem_append_left _ (List.mem_append_left _ (List.mem_append_right _ h))))
theorem iX9_queue_6 : ∀ w ∈ wsX60, w ∈ wsX9_queue := fun _ h => List.mem_cons_of_mem _ (List.mem_append_left _ (List.mem_append_left _ (List.mem_append_right _ h)))
set_option maxHeartbeats 4000000 in
set_option maxRecDepth 100000 in
theorem zX9_queue (l : Launch) (D : va_G) (x : Nat → Nat) (cy : Nat → ClassId) (g : Nat → Nat → Option Nat) (L : List Nat) (K : Nat → Nat) (hG : GO L K g) (N : Nat → Nat) (n : Nat → Int32) (a : Nat → Nat → Int32) (r : Nat → Nat → Option Nat) (f : Nat → va_E) (hC : CI L K cy N r f) (sz : Nat) (k v : Int32) : Met l yX9_queue wsX9_queue ({ frames := 2, cells := 0, slots := 0, locals := 43 }) (PW D (TYS cy) (XW x cy g N n a r ++ va_pl L f) sz [.ref (x 0), .int k, .int v]) (va_Qi (fun (res : Int32) (u : Unit) => True) (BU D (TYS cy) (XW x cy g N n a r ++ va_pl L f) (fun _ => XW x cy g N n a r ++ va_pl L f) sz) (va_A (XW x cy g N n a r ++ va_pl L f) sz)) 0 0 (va_A (XW x cy g N n a r ++ va_pl L f) sz) := by
  refine Met.ofW (cc := cX9_queue) (maxL := 7) (ret := (some .int)) (by decide) rfl ?_
  intro p e s m args below meth c s₁ B hml hv
  obtain ⟨rfl, hsz, hP, hK, hD0⟩ := hv
  have hx := B.exec
  have hb := B.bytes
  have hr := B.returns
  have hts := atoms_spec (ws := wsX9_queue) B.pre
  have hown : s.vm.findClass RX9 = some m.cls := findClass_of_methodNamed B.named
  have hlocks := B.notSynchronized
  subst hsz
  obtain ⟨hNB, hRB, hHT⟩ := hC
  have hSM : SM N N n n := SM_rf
  have hMM : MM N N a a := MM_rf
  have hD := hD0.self (sz := s.heap.size)
  have hA : ∀ q9 : Nat, s.heap.size ≤ q9 → va_A (XW x cy g N n a r ++ va_pl L f) s.heap.size q9 := fun q9 h => Or.inr h
  have hS : va_S (va_A (XW x cy g N n a r ++ va_pl L f) s.heap.size) s.heap s.heap [] := va_S.rf
  have hl := lv_entry ([.ref (x 0), .int k, .int v]) (n := 7) (Nat.le_of_ble_eq_true rfl)
  rw [lg_entry_eq]
  generalize (lg_sl ([.ref (x 0), .int k, .int v]) ++ List.replicate (7 - (lg_sl ([.ref (x 0), .int k, .int v])).length) Slot.unset).toArray = ls at hl ⊢
  have hl : lv_has ls 7 [(0, .ref (x 0)), (1, .int k), (2, .int v)] := hl
  refine lv_aload_n hx hb dX9_queue_0 rfl (lv_at hl 0 rfl) ?_
  refine lv_iload_n hx hb dX9_queue_1 rfl (lv_at hl 1 rfl) ?_
  refine gvQ (As := [.int k]) (rest := []) ⟨hx, hb, hml, hown, hts⟩ (zX9_lineOf l D x cy g L K hG N n a r f ⟨hNB, hRB, hHT⟩ _  k ) (cwV 1 hts gX9_queue_X9_lineOf rfl rfl rfl (by decide +kernel) ⟨Nat.le_of_ble_eq_true rfl, Nat.le_of_ble_eq_true rfl⟩) hK hP hD hS hA (va_recv hK hP (ci := 9) (q0 := 0) rfl rfl) rfl hl.1 rfl (Nat.le_of_ble_eq_true rfl) dX9_queue_2 ⟨Nat.le_of_ble_eq_true rfl, Nat.le_of_ble_eq_true rfl⟩ (fun q1 u2 H locs hq1 hP hD hS => ?_)
  have hP : va_P D vwCl (XW x cy g N n a r ++ va_pl L f) H := hP
  have hD : va_D _ (XW x cy g N n a r ++ va_pl L f) := hD
  rcases hq1 with rfl | rfl | rfl | rfl
  · skip
    refine W.eq (g2 := F0 m 5 ls [.null]) rfl ?_
    refine lv_astore_nN (lv' := [(3, .null), (0, .ref (x 0)), (1, .int k), (2, .int v)]) hx hb dX9_queue_5 rfl hl (by decide) rfl (fun ls hl => ?_)
    refine lv_aload_nN hx hb dX9_queue_6 rfl (lv_at hl 0 rfl) ?_
    refine lv_ifnullN (tgt := 15) hx hb dX9_queue_7 (by decide) ?_
    refine lv_iconst (v := (-1)) hx hb dX9_queue_15 (by decide) ?_
    exact W.iret (v := (-1)) hx hb hr (fun t ht hW => ⟨⟨(-1), (), rfl, trivial, by rw [ht]; exact hP, va_K.moved hW.alike hK, hD⟩, hS.F ht⟩) hS.2.2 dX9_queue_16
  · skip
    refine W.eq (g2 := F0 m 5 ls [.ref (x 8)]) rfl ?_
    refine lv_astore_n (lv' := [(3, .ref (x 8)), (0, .ref (x 0)), (1, .int k), (2, .int v)]) hx hb dX9_queue_5 rfl hl (by decide) rfl (fun ls hl => ?_)
    refine lv_aload_n hx hb dX9_queue_6 rfl (lv_at hl 0 rfl) ?_
    refine lv_ifnull hx hb dX9_queue_7 ?_
    refine lv_iload_n hx hb dX9_queue_10 rfl (lv_at hl 3 rfl) ?_
    refine lv_iconst (v := (-1)) hx hb dX9_queue_11 (by decide) ?_
    refine lv_icmp_ge (tgt := 17) hx hb dX9_queue_12 (by decide) (fun c3 => ?_) (fun c3 => ?_)
    · skip
      refine lv_iconst (v := 0) hx hb dX9_queue_17 (by decide) ?_
      refine lv_istore (lv' := [(4, .int 0), (3, .ref (x 8)), (0, .ref (x 0)), (1, .int k), (2, .int v)]) hx hb dX9_queue_18 hl (by decide) rfl (fun ls hl => ?_)
      refine lv_iconst (v := 0) hx hb dX9_queue_20 (by decide) ?_
      refine lv_istore (lv' := [(5, .int 0), (4, .int 0), (3, .ref (x 8)), (0, .ref (x 0)), (1, .int k), (2, .int v)]) hx hb dX9_queue_21 hl (by decide) rfl (fun ls hl => ?_)
      have key5 : ∀ (m9 j4 : Nat), 400 - j4 = m9 → j4 ≤ 400 → ∀ (v23_4 : Int32) , ∀ (H : Heap) (locs : List Loc) (ls : Array Slot), va_P D vwCl (XW x cy g N n a r ++ va_pl L f) H → va_D (va_A (XW x cy g N n a r ++ va_pl L f) s.heap.size) (XW x cy g N n a r ++ va_pl L f) → va_S (va_A (XW x cy g N n a r ++ va_pl L f) s.heap.size) s.heap H locs → lv_has ls 7 [(5, .int (nI j4)), (4, .int v23_4), (3, .ref (x 8)), (0, .ref (x 0)), (1, .int k), (2, .int v)] → W p l e (headSpec wsX9_queue ({ frames := 2, cells := 0, slots := 0, locals := 43 })).room s m #[.ref (x 0), .int k, .int v] below meth c H locs 0 0 (MQ below (va_Qi (fun (res : Int32) (u : Unit) => True) (BU D (TYS cy) (XW x cy g N n a r ++ va_pl L f) (fun _ => XW x cy g N n a r ++ va_pl L f) s.heap.size) (va_A (XW x cy g N n a r ++ va_pl L f) s.heap.size)) #[.ref (x 0), .int k, .int v] s 0 0 (va_A (XW x cy g N n a r ++ va_pl L f) s.heap.size)) (F0 m 23 ls []) := by
        intro m9
        induction m9 using Nat.strongRecOn with
        | _ m9 ihkey5 =>
          intro j4 hm9 hj400 v23_4 H locs ls hP hD hS hl
          subst hm9
          have nb0 : N 0 ≤ 12 := hNB 0 (by decide)
          have nb1 : N 1 ≤ 40 := hNB 1 (by decide)
          have nb2 : N 2 ≤ 20 := hNB 2 (by decide)
          have nb3 : N 3 ≤ 4 := hNB 3 (by decide)
          have nb4 : N 4 ≤ 3 := hNB 4 (by decide)
          have nb5 : N 5 ≤ 20 := hNB 5 (by decide)
          have nb6 : N 6 ≤ 20 := hNB 6 (by decide)
          have nb7 : N 7 ≤ 20 := hNB 7 (by decide)
          have nb8 : N 8 ≤ 30 := hNB 8 (by decide)
          have nb9 : N 9 ≤ 400 := hNB 9 (by decide)
          refine lv_iload hx hb dX9_queue_23 (lv_at hl 0 rfl) ?_
          refine lv_aload_n hx hb dX9_queue_25 rfl (lv_at hl 2 rfl) ?_
          refine va_get (D := D) (ci := 3) (v := .int (nI (N 5))) (C := RX3) (T := TX3) (N := 2) hx hb hts iX9_queue_3 hown hK hP 8 rfl rfl 1 (by decide) (hts (.fieldLink RX9 373 "FondsRoom$Line" "size" "I") (by decide +kernel)) (fun _ h9 => h9) rfl dX9_queue_26 ?_
          refine lv_icmp_ge (tgt := 76) hx hb dX9_queue_29 (by decide) (fun c6 => ?_) (fun c6 => ?_)
          · skip
            have dc6 : (N 5) ≤ j4 := (nI_leI (a := (N 5)) (b := j4) (by omega) (by omega)).mp c6
            refine lv_iload_n hx hb dX9_queue_76 rfl (lv_at hl 5 rfl) ?_
            refine lv_iconst (v := (-1)) hx hb dX9_queue_77 (by decide) ?_
            refine lv_icmp_ne (tgt := 86) hx hb dX9_queue_78 (by decide) (fun c7 => ?_) (fun c7 => ?_)
            · skip
              refine lv_iconst (v := (-1)) hx hb dX9_queue_86 (by decide) ?_
              exact W.iret (v := (-1)) hx hb hr (fun t ht hW => ⟨⟨(-1), (), rfl, trivial, by rw [ht]; exact hP, va_K.moved hW.alike hK, hD⟩, hS.F ht⟩) hS.2.2 dX9_queue_87
            · skip
              refine lv_iload hx hb dX9_queue_81 (lv_at hl 1 rfl) ?_
              refine lv_goto (tgt := 87) hx hb dX9_queue_83 (by decide) ?_
              exact W.iret (v := v23_4) hx hb hr (fun t ht hW => ⟨⟨v23_4, (), rfl, trivial, by rw [ht]; exact hP, va_K.moved hW.alike hK, hD⟩, hS.F ht⟩) hS.2.2 dX9_queue_87
          · skip
            have dc6 : j4 < (N 5) := Nat.not_le.mp (fun h9 => c6 ((nI_leI (a := (N 5)) (b := j4) (by omega) (by omega)).mpr h9))
            refine lv_aload_n hx hb dX9_queue_32 rfl (lv_at hl 2 rfl) ?_
            refine lv_iload hx hb dX9_queue_33 (lv_at hl 0 rfl) ?_
            refine gvQ (As := [.int (nI j4)]) (rest := []) ⟨hx, hb, hml, hown, hts⟩ (zX3_at_0 l D x cy g L K hG N n a r f ⟨hNB, hRB, hHT⟩ _  (nI j4) ) (cwV 1 hts gX9_queue_X3_at rfl rfl rfl (by decide +kernel) ⟨Nat.le_of_ble_eq_true rfl, Nat.le_of_ble_eq_true rfl⟩) hK hP hD hS hA (va_recv hK hP (ci := 3) (q0 := 8) rfl rfl) rfl hl.1 rfl (Nat.le_of_ble_eq_true rfl) dX9_queue_35 ⟨Nat.le_of_ble_eq_true rfl, Nat.le_of_ble_eq_true rfl⟩ (fun q8 u9 H locs hq8 hP hD hS => ?_)
            have hP : va_P D vwCl (XW x cy g N n a r ++ va_pl L f) H := hP
            have hD : va_D _ (XW x cy g N n a r ++ va_pl L f) := hD
            rcases eb10 : q8 with _ | b10
            · skip
              subst eb10
              have hP : va_P D vwCl (XW x cy g N n a r ++ va_pl L f) H := by assumption
              have hD : va_D (va_A (XW x cy g N n a r ++ va_pl L f) s.heap.size) (XW x cy g N n a r ++ va_pl L f) := by assumption
              have hl : lv_has ls 7 [(5, .int (nI j4)), (4, .int v23_4), (3, .ref (x 8)), (0, .ref (x 0)), (1, .int k), (2, .int v)] := by assumption
              refine lv_astoreN (lv' := [(6, .null), (5, .int (nI j4)), (4, .int v23_4), (3, .ref (x 8)), (0, .ref (x 0)), (1, .int k), (2, .int v)]) hx hb dX9_queue_38 hl (by decide) rfl (fun ls hl => ?_)
              refine lv_aloadN hx hb dX9_queue_40 (lv_at hl 0 rfl) ?_
              refine lv_ifnullN (tgt := 70) hx hb dX9_queue_42 (by decide) ?_
              refine lv_iinc (v := nI (j4 + 1)) (lv' := [(5, .int (nI (j4 + 1))), (6, .null), (4, .int v23_4), (3, .ref (x 8)), (0, .ref (x 0)), (1, .int k), (2, .int v)]) hx hb dX9_queue_70 hl (k := 1) rfl (by rw [← nI_1]; rfl) (by decide) rfl (fun ls hl => ?_)
              refine lv_goto (tgt := 23) hx hb dX9_queue_73 (by decide) ?_
              exact ihkey5 (400 - ((j4 + 1))) (by omega) ((j4 + 1)) rfl (by omega) v23_4 _ _ _ hP hD hS (lv_sub hl [0, 2, 3, 4, 5, 6] rfl)
            · skip
              subst eb10
              have mb10 := hq8 b10 rfl
              have hP : va_P D vwCl (XW x cy g N n a r ++ va_pl L f) H := by assumption
              have hD : va_D (va_A (XW x cy g N n a r ++ va_pl L f) s.heap.size) (XW x cy g N n a r ++ va_pl L f) := by assumption
              have hl : lv_has ls 7 [(5, .int (nI j4)), (4, .int v23_4), (3, .ref (x 8)), (0, .ref (x 0)), (1, .int k), (2, .int v)] := by assumption
              refine lv_astore (lv' := [(6, .ref b10), (5, .int (nI j4)), (4, .int v23_4), (3, .ref (x 8)), (0, .ref (x 0)), (1, .int k), (2, .int v)]) hx hb dX9_queue_38 hl (by decide) rfl (fun ls hl => ?_)
              refine lv_aload hx hb dX9_queue_40 (lv_at hl 0 rfl) ?_
              refine lv_ifnull hx hb dX9_queue_42 ?_
              refine lv_aload_n hx hb dX9_queue_45 rfl (lv_at hl 4 rfl) ?_
              refine lv_iload_n hx hb dX9_queue_46 rfl (lv_at hl 5 rfl) ?_
              refine lv_aload hx hb dX9_queue_47 (lv_at hl 0 rfl) ?_
              refine gvI (As := [.int k, .ref b10]) (rest := []) ⟨hx, hb, hml, hown, hts⟩ (zX9_waitsStill l D x cy g L K hG N n a r f ⟨hNB, hRB, hHT⟩ _ b10 k ⟨mb10.1, mb10.2⟩) (cwV 2 hts gX9_queue_X9_waitsStill rfl rfl rfl (by decide +kernel) ⟨Nat.le_of_ble_eq_true rfl, Nat.le_of_ble_eq_true rfl⟩) hK hP hD hS hA (va_recv hK hP (ci := 9) (q0 := 0) rfl rfl) rfl hl.1 rfl (Nat.le_of_ble_eq_true rfl) dX9_queue_49 ⟨Nat.le_of_ble_eq_true rfl, Nat.le_of_ble_eq_true rfl⟩ (fun q11 u12 H locs hq11 hP hD hS => ?_)
              have hP : va_P D vwCl (XW x cy g N n a r ++ va_pl L f) H := hP
              have hD : va_D _ (XW x cy g N n a r ++ va_pl L f) := hD
              refine lv_if_eq (tgt := 70) hx hb dX9_queue_52 (by decide) (fun c13 => ?_) (fun c13 => ?_)
              · skip
                refine lv_iinc (v := nI (j4 + 1)) (lv' := [(5, .int (nI (j4 + 1))), (6, .ref b10), (4, .int v23_4), (3, .ref (x 8)), (0, .ref (x 0)), (1, .int k), (2, .int v)]) hx hb dX9_queue_70 hl (k := 1) rfl (by rw [← nI_1]; rfl) (by decide) rfl (fun ls hl => ?_)
                refine lv_goto (tgt := 23) hx hb dX9_queue_73 (by decide) ?_
                exact ihkey5 (400 - ((j4 + 1))) (by omega) ((j4 + 1)) rfl (by omega) v23_4 _ _ _ hP hD hS (lv_sub hl [0, 2, 3, 4, 5, 6] rfl)
              · skip
                refine lv_iload hx hb dX9_queue_55 (lv_at hl 2 rfl) ?_
                refine lv_iload_n hx hb dX9_queue_57 rfl (lv_at hl 6 rfl) ?_
                refine lv_icmp_ne (tgt := 67) hx hb dX9_queue_58 (by decide) (fun c14 => ?_) (fun c14 => ?_)
                · skip
                  refine lv_iinc (v := v23_4 + (1)) (lv' := [(4, .int (v23_4 + (1))), (6, .ref b10), (5, .int (nI j4)), (3, .ref (x 8)), (0, .ref (x 0)), (1, .int k), (2, .int v)]) hx hb dX9_queue_67 hl (k := 2) rfl rfl (by decide) rfl (fun ls hl => ?_)
                  refine lv_iinc (v := nI (j4 + 1)) (lv' := [(5, .int (nI (j4 + 1))), (4, .int (v23_4 + (1))), (6, .ref b10), (3, .ref (x 8)), (0, .ref (x 0)), (1, .int k), (2, .int v)]) hx hb dX9_queue_70 hl (k := 2) rfl (by rw [← nI_1]; rfl) (by decide) rfl (fun ls hl => ?_)
                  refine lv_goto (tgt := 23) hx hb dX9_queue_73 (by decide) ?_
                  exact ihkey5 (400 - ((j4 + 1))) (by omega) ((j4 + 1)) rfl (by omega) (v23_4 + (1)) _ _ _ hP hD hS (lv_sub hl [0, 1, 3, 4, 5, 6] rfl)
                · skip
                  refine lv_aload hx hb dX9_queue_61 (lv_at hl 0 rfl) ?_
                  obtain ⟨n_o15, p_o15, ar_o15, rk_o15, nw_o15, st_o15, ct_o15, d_o15, aw_o15, rl_o15, cp_o15, cu_o15, w1_o15, w2_o15, w3_o15, ov_o15, co_o15, hf_o15, sp_o15, snw_o15, sd_o15, saw_o15, scu_o15⟩ : TE L K cy 6 (f b10) := by rw [← mb10.2]; exact hHT b10 mb10.1
                  refine pg_get (D := D) (ci := 6) (v := .int n_o15) (C := RX6) (T := TX6) (N := 17) hx hb hts iX9_queue_6 hown hK hP mb10.1 hf_o15 rfl 0 (by decide) (hts (.fieldLink RX9 273 "FondsRoom$Reader" "number" "I") (by decide +kernel)) (fun _ h9 => h9) rfl dX9_queue_63 ?_
                  exact W.iret (v := n_o15) hx hb hr (fun t ht hW => ⟨⟨n_o15, (), rfl, trivial, by rw [ht]; exact hP, va_K.moved hW.alike hK, hD⟩, hS.F ht⟩) hS.2.2 dX9_queue_66
      have nb0 : N 0 ≤ 12 := hNB 0 (by decide)
      have nb1 : N 1 ≤ 40 := hNB 1 (by decide)
      have nb2 : N 2 ≤ 20 := hNB 2 (by decide)
      have nb3 : N 3 ≤ 4 := hNB 3 (by decide)
      have nb4 : N 4 ≤ 3 := hNB 4 (by decide)
      have nb5 : N 5 ≤ 20 := hNB 5 (by decide)
      have nb6 : N 6 ≤ 20 := hNB 6 (by decide)
      have nb7 : N 7 ≤ 20 := hNB 7 (by decide)
      have nb8 : N 8 ≤ 30 := hNB 8 (by decide)
      have nb9 : N 9 ≤ 400 := hNB 9 (by decide)
      exact key5 (400 - (0)) (0) rfl (by omega) 0 _ _ _ hP hD hS (lv_sub hl [0, 1, 2, 3, 4, 5] rfl)
    · skip
      refine lv_iconst (v := (-1)) hx hb dX9_queue_15 (by decide) ?_
      exact W.iret (v := (-1)) hx hb hr (fun t ht hW => ⟨⟨(-1), (), rfl, trivial, by rw [ht]; exact hP, va_K.moved hW.alike hK, hD⟩, hS.F ht⟩) hS.2.2 dX9_queue_16
  · skip
    refine W.eq (g2 := F0 m 5 ls [.ref (x 10)]) rfl ?_
    refine lv_astore_n (lv' := [(3, .ref (x 10)), (0, .ref (x 0)), (1, .int k), (2, .int v)]) hx hb dX9_queue_5 rfl hl (by decide) rfl (fun ls hl => ?_)
    refine lv_aload_n hx hb dX9_queue_6 rfl (lv_at hl 0 rfl) ?_
    refine lv_ifnull hx hb dX9_queue_7 ?_
    refine lv_iload_n hx hb dX9_queue_10 rfl (lv_at hl 3 rfl) ?_
    refine lv_iconst (v := (-1)) hx hb dX9_queue_11 (by decide) ?_
    refine lv_icmp_ge (tgt := 17) hx hb dX9_queue_12 (by decide) (fun c16 => ?_) (fun c16 => ?_)
    · skip
      refine lv_iconst (v := 0) hx hb dX9_queue_17 (by decide) ?_
      refine lv_istore (lv' := [(4, .int 0), (3, .ref (x 10)), (0, .ref (x 0)), (1, .int k), (2, .int v)]) hx hb dX9_queue_18 hl (by decide) rfl (fun ls hl => ?_)
      refine lv_iconst (v := 0) hx hb dX9_queue_20 (by decide) ?_
      refine lv_istore (lv' := [(5, .int 0), (4, .int 0), (3, .ref (x 10)), (0, .ref (x 0)), (1, .int k), (2, .int v)]) hx hb dX9_queue_21 hl (by decide) rfl (fun ls hl => ?_)
      have key18 : ∀ (m9 j17 : Nat), 400 - j17 = m9 → j17 ≤ 400 → ∀ (v23_4 : Int32) , ∀ (H : Heap) (locs : List Loc) (ls : Array Slot), va_P D vwCl (XW x cy g N n a r ++ va_pl L f) H → va_D (va_A (XW x cy g N n a r ++ va_pl L f) s.heap.size) (XW x cy g N n a r ++ va_pl L f) → va_S (va_A (XW x cy g N n a r ++ va_pl L f) s.heap.size) s.heap H locs → lv_has ls 7 [(5, .int (nI j17)), (4, .int v23_4), (3, .ref (x 10)), (0, .ref (x 0)), (1, .int k), (2, .int v)] → W p l e (headSpec wsX9_queue ({ frames := 2, cells := 0, slots := 0, locals := 43 })).room s m #[.ref (x 0), .int k, .int v] below meth c H locs 0 0 (MQ below (va_Qi (fun (res : Int32) (u : Unit) => True) (BU D (TYS cy) (XW x cy g N n a r ++ va_pl L f) (fun _ => XW x cy g N n a r ++ va_pl L f) s.heap.size) (va_A (XW x cy g N n a r ++ va_pl L f) s.heap.size)) #[.ref (x 0), .int k, .int v] s 0 0 (va_A (XW x cy g N n a r ++ va_pl L f) s.heap.size)) (F0 m 23 ls []) := by
        intro m9
        induction m9 using Nat.strongRecOn with
        | _ m9 ihkey18 =>
          intro j17 hm9 hj400 v23_4 H locs ls hP hD hS hl
          subst hm9
          have nb0 : N 0 ≤ 12 := hNB 0 (by decide)
          have nb1 : N 1 ≤ 40 := hNB 1 (by decide)
          have nb2 : N 2 ≤ 20 := hNB 2 (by decide)
          have nb3 : N 3 ≤ 4 := hNB 3 (by decide)
          have nb4 : N 4 ≤ 3 := hNB 4 (by decide)
          have nb5 : N 5 ≤ 20 := hNB 5 (by decide)
          have nb6 : N 6 ≤ 20 := hNB 6 (by decide)
          have nb7 : N 7 ≤ 20 := hNB 7 (by decide)
          have nb8 : N 8 ≤ 30 := hNB 8 (by decide)
          have nb9 : N 9 ≤ 400 := hNB 9 (by decide)
          refine lv_iload hx hb dX9_queue_23 (lv_at hl 0 rfl) ?_
          refine lv_aload_n hx hb dX9_queue_25 rfl (lv_at hl 2 rfl) ?_
          refine va_get (D := D) (ci := 3) (v := .int (nI (N 6))) (C := RX3) (T := TX3) (N := 2) hx hb hts iX9_queue_3 hown hK hP 10 rfl rfl 1 (by decide) (hts (.fieldLink RX9 373 "FondsRoom$Line" "size" "I") (by decide +kernel)) (fun _ h9 => h9) rfl dX9_queue_26 ?_
          refine lv_icmp_ge (tgt := 76) hx hb dX9_queue_29 (by decide) (fun c19 => ?_) (fun c19 => ?_)
          · skip
            have dc19 : (N 6) ≤ j17 := (nI_leI (a := (N 6)) (b := j17) (by omega) (by omega)).mp c19
            refine lv_iload_n hx hb dX9_queue_76 rfl (lv_at hl 5 rfl) ?_
            refine lv_iconst (v := (-1)) hx hb dX9_queue_77 (by decide) ?_
            refine lv_icmp_ne (tgt := 86) hx hb dX9_queue_78 (by decide) (fun c20 => ?_) (fun c20 => ?_)
            · skip
              refine lv_iconst (v := (-1)) hx hb dX9_queue_86 (by decide) ?_
              exact W.iret (v := (-1)) hx hb hr (fun t ht hW => ⟨⟨(-1), (), rfl, trivial, by rw [ht]; exact hP, va_K.moved hW.alike hK, hD⟩, hS.F ht⟩) hS.2.2 dX9_queue_87
            · skip
              refine lv_iload hx hb dX9_queue_81 (lv_at hl 1 rfl) ?_
              refine lv_goto (tgt := 87) hx hb dX9_queue_83 (by decide) ?_
              exact W.iret (v := v23_4) hx hb hr (fun t ht hW => ⟨⟨v23_4, (), rfl, trivial, by rw [ht]; exact hP, va_K.moved hW.alike hK, hD⟩, hS.F ht⟩) hS.2.2 dX9_queue_87
          · skip
            have dc19 : j17 < (N 6) := Nat.not_le.mp (fun h9 => c19 ((nI_leI (a := (N 6)) (b := j17) (by omega) (by omega)).mpr h9))
            refine lv_aload_n hx hb dX9_queue_32 rfl (lv_at hl 2 rfl) ?_
            refine lv_iload hx hb dX9_queue_33 (lv_at hl 0 rfl) ?_
            refine gvQ (As := [.int (nI j17)]) (rest := []) ⟨hx, hb, hml, hown, hts⟩ (zX3_at_1 l D x cy g L K hG N n a r f ⟨hNB, hRB, hHT⟩ _  (nI j17) ) (cwV 1 hts gX9_queue_X3_at rfl rfl rfl (by decide +kernel) ⟨Nat.le_of_ble_eq_true rfl, Nat.le_of_ble_eq_true rfl⟩) hK hP hD hS hA (va_recv hK hP (ci := 3) (q0 := 10) rfl rfl) rfl hl.1 rfl (Nat.le_of_ble_eq_true rfl) dX9_queue_35 ⟨Nat.le_of_ble_eq_true rfl, Nat.le_of_ble_eq_true rfl⟩ (fun q21 u22 H locs hq21 hP hD hS => ?_)
            have hP : va_P D vwCl (XW x cy g N n a r ++ va_pl L f) H := hP
            have hD : va_D _ (XW x cy g N n a r ++ va_pl L f) := hD
            rcases eb23 : q21 with _ | b23
            · skip
              subst eb23
              have hP : va_P D vwCl (XW x cy g N n a r ++ va_pl L f) H := by assumption
              have hD : va_D (va_A (XW x cy g N n a r ++ va_pl L f) s.heap.size) (XW x cy g N n a r ++ va_pl L f) := by assumption
              have hl : lv_has ls 7 [(5, .int (nI j17)), (4, .int v23_4), (3, .ref (x 10)), (0, .ref (x 0)), (1, .int k), (2, .int v)] := by assumption
              refine lv_astoreN (lv' := [(6, .null), (5, .int (nI j17)), (4, .int v23_4), (3, .ref (x 10)), (0, .ref (x 0)), (1, .int k), (2, .int v)]) hx hb dX9_queue_38 hl (by decide) rfl (fun ls hl => ?_)
              refine lv_aloadN hx hb dX9_queue_40 (lv_at hl 0 rfl) ?_
              refine lv_ifnullN (tgt := 70) hx hb dX9_queue_42 (by decide) ?_
              refine lv_iinc (v := nI (j17 + 1)) (lv' := [(5, .int (nI (j17 + 1))), (6, .null), (4, .int v23_4), (3, .ref (x 10)), (0, .ref (x 0)), (1, .int k), (2, .int v)]) hx hb dX9_queue_70 hl (k := 1) rfl (by rw [← nI_1]; rfl) (by decide) rfl (fun ls hl => ?_)
              refine lv_goto (tgt := 23) hx hb dX9_queue_73 (by decide) ?_
              exact ihkey18 (400 - ((j17 + 1))) (by omega) ((j17 + 1)) rfl (by omega) v23_4 _ _ _ hP hD hS (lv_sub hl [0, 2, 3, 4, 5, 6] rfl)
            · skip
              subst eb23
              have mb23 := hq21 b23 rfl
              have hP : va_P D vwCl (XW x cy g N n a r ++ va_pl L f) H := by assumption
              have hD : va_D (va_A (XW x cy g N n a r ++ va_pl L f) s.heap.size) (XW x cy g N n a r ++ va_pl L f) := by assumption
              have hl : lv_has ls 7 [(5, .int (nI j17)), (4, .int v23_4), (3, .ref (x 10)), (0, .ref (x 0)), (1, .int k), (2, .int v)] := by assumption
              refine lv_astore (lv' := [(6, .ref b23), (5, .int (nI j17)), (4, .int v23_4), (3, .ref (x 10)), (0, .ref (x 0)), (1, .int k), (2, .int v)]) hx hb dX9_queue_38 hl (by decide) rfl (fun ls hl => ?_)
              refine lv_aload hx hb dX9_queue_40 (lv_at hl 0 rfl) ?_
              refine lv_ifnull hx hb dX9_queue_42 ?_
              refine lv_aload_n hx hb dX9_queue_45 rfl (lv_at hl 4 rfl) ?_
              refine lv_iload_n hx hb dX9_queue_46 rfl (lv_at hl 5 rfl) ?_
              refine lv_aload hx hb dX9_queue_47 (lv_at hl 0 rfl) ?_
              refine gvI (As := [.int k, .ref b23]) (rest := []) ⟨hx, hb, hml, hown, hts⟩ (zX9_waitsStill l D x cy g L K hG N n a r f ⟨hNB, hRB, hHT⟩ _ b23 k ⟨mb23.1, mb23.2⟩) (cwV 2 hts gX9_queue_X9_waitsStill rfl rfl rfl (by decide +kernel) ⟨Nat.le_of_ble_eq_true rfl, Nat.le_of_ble_eq_true rfl⟩) hK hP hD hS hA (va_recv hK hP (ci := 9) (q0 := 0) rfl rfl) rfl hl.1 rfl (Nat.le_of_ble_eq_true rfl) dX9_queue_49 ⟨Nat.le_of_ble_eq_true rfl, Nat.le_of_ble_eq_true rfl⟩ (fun q24 u25 H locs hq24 hP hD hS => ?_)
              have hP : va_P D vwCl (XW x cy g N n a r ++ va_pl L f) H := hP
              have hD : va_D _ (XW x cy g N n a r ++ va_pl L f) := hD
              refine lv_if_eq (tgt := 70) hx hb dX9_queue_52 (by decide) (fun c26 => ?_) (fun c26 => ?_)
              · skip
                refine lv_iinc (v := nI (j17 + 1)) (lv' := [(5, .int (nI (j17 + 1))), (6, .ref b23), (4, .int v23_4), (3, .ref (x 10)), (0, .ref (x 0)), (1, .int k), (2, .int v)]) hx hb dX9_queue_70 hl (k := 1) rfl (by rw [← nI_1]; rfl) (by decide) rfl (fun ls hl => ?_)
                refine lv_goto (tgt := 23) hx hb dX9_queue_73 (by decide) ?_
                exact ihkey18 (400 - ((j17 + 1))) (by omega) ((j17 + 1)) rfl (by omega) v23_4 _ _ _ hP hD hS (lv_sub hl [0, 2, 3, 4, 5, 6] rfl)
              · skip
                refine lv_iload hx hb dX9_queue_55 (lv_at hl 2 rfl) ?_
                refine lv_iload_n hx hb dX9_queue_57 rfl (lv_at hl 6 rfl) ?_
                refine lv_icmp_ne (tgt := 67) hx hb dX9_queue_58 (by decide) (fun c27 => ?_) (fun c27 => ?_)
                · skip
                  refine lv_iinc (v := v23_4 + (1)) (lv' := [(4, .int (v23_4 + (1))), (6, .ref b23), (5, .int (nI j17)), (3, .ref (x 10)), (0, .ref (x 0)), (1, .int k), (2, .int v)]) hx hb dX9_queue_67 hl (k := 2) rfl rfl (by decide) rfl (fun ls hl => ?_)
                  refine lv_iinc (v := nI (j17 + 1)) (lv' := [(5, .int (nI (j17 + 1))), (4, .int (v23_4 + (1))), (6, .ref b23), (3, .ref (x 10)), (0, .ref (x 0)), (1, .int k), (2, .int v)]) hx hb dX9_queue_70 hl (k := 2) rfl (by rw [← nI_1]; rfl) (by decide) rfl (fun ls hl => ?_)
                  refine lv_goto (tgt := 23) hx hb dX9_queue_73 (by decide) ?_
                  exact ihkey18 (400 - ((j17 + 1))) (by omega) ((j17 + 1)) rfl (by omega) (v23_4 + (1)) _ _ _ hP hD hS (lv_sub hl [0, 1, 3, 4, 5, 6] rfl)
                · skip
                  refine lv_aload hx hb dX9_queue_61 (lv_at hl 0 rfl) ?_
                  obtain ⟨n_o28, p_o28, ar_o28, rk_o28, nw_o28, st_o28, ct_o28, d_o28, aw_o28, rl_o28, cp_o28, cu_o28, w1_o28, w2_o28, w3_o28, ov_o28, co_o28, hf_o28, sp_o28, snw_o28, sd_o28, saw_o28, scu_o28⟩ : TE L K cy 6 (f b23) := by rw [← mb23.2]; exact hHT b23 mb23.1
                  refine pg_get (D := D) (ci := 6) (v := .int n_o28) (C := RX6) (T := TX6) (N := 17) hx hb hts iX9_queue_6 hown hK hP mb23.1 hf_o28 rfl 0 (by decide) (hts (.fieldLink RX9 273 "FondsRoom$Reader" "number" "I") (by decide +kernel)) (fun _ h9 => h9) rfl dX9_queue_63 ?_
                  exact W.iret (v := n_o28) hx hb hr (fun t ht hW => ⟨⟨n_o28, (), rfl, trivial, by rw [ht]; exact hP, va_K.moved hW.alike hK, hD⟩, hS.F ht⟩) hS.2.2 dX9_queue_66
      have nb0 : N 0 ≤ 12 := hNB 0 (by decide)
      have nb1 : N 1 ≤ 40 := hNB 1 (by decide)
      have nb2 : N 2 ≤ 20 := hNB 2 (by decide)
      have nb3 : N 3 ≤ 4 := hNB 3 (by decide)
      have nb4 : N 4 ≤ 3 := hNB 4 (by decide)
      have nb5 : N 5 ≤ 20 := hNB 5 (by decide)
      have nb6 : N 6 ≤ 20 := hNB 6 (by decide)
      have nb7 : N 7 ≤ 20 := hNB 7 (by decide)
      have nb8 : N 8 ≤ 30 := hNB 8 (by decide)
      have nb9 : N 9 ≤ 400 := hNB 9 (by decide)
      exact key18 (400 - (0)) (0) rfl (by omega) 0 _ _ _ hP hD hS (lv_sub hl [0, 1, 2, 3, 4, 5] rfl)
    · skip
      refine lv_iconst (v := (-1)) hx hb dX9_queue_15 (by decide) ?_
      exact W.iret (v := (-1)) hx hb hr (fun t ht hW => ⟨⟨(-1), (), rfl, trivial, by rw [ht]; exact hP, va_K.moved hW.alike hK, hD⟩, hS.F ht⟩) hS.2.2 dX9_queue_16
  · skip
    refine W.eq (g2 := F0 m 5 ls [.ref (x 12)]) rfl ?_
    refine lv_astore_n (lv' := [(3, .ref (x 12)), (0, .ref (x 0)), (1, .int k), (2, .int v)]) hx hb dX9_queue_5 rfl hl (by decide) rfl (fun ls hl => ?_)
    refine lv_aload_n hx hb dX9_queue_6 rfl (lv_at hl 0 rfl) ?_
    refine lv_ifnull hx hb dX9_queue_7 ?_
    refine lv_iload_n hx hb dX9_queue_10 rfl (lv_at hl 3 rfl) ?_
    refine lv_iconst (v := (-1)) hx hb dX9_queue_11 (by decide) ?_
    refine lv_icmp_ge (tgt := 17) hx hb dX9_queue_12 (by decide) (fun c29 => ?_) (fun c29 => ?_)
    · skip
      refine lv_iconst (v := 0) hx hb dX9_queue_17 (by decide) ?_
      refine lv_istore (lv' := [(4, .int 0), (3, .ref (x 12)), (0, .ref (x 0)), (1, .int k), (2, .int v)]) hx hb dX9_queue_18 hl (by decide) rfl (fun ls hl => ?_)
      refine lv_iconst (v := 0) hx hb dX9_queue_20 (by decide) ?_
      refine lv_istore (lv' := [(5, .int 0), (4, .int 0), (3, .ref (x 12)), (0, .ref (x 0)), (1, .int k), (2, .int v)]) hx hb dX9_queue_21 hl (by decide) rfl (fun ls hl => ?_)
      have key31 : ∀ (m9 j30 : Nat), 400 - j30 = m9 → j30 ≤ 400 → ∀ (v23_4 : Int32) , ∀ (H : Heap) (locs : List Loc) (ls : Array Slot), va_P D vwCl (XW x cy g N n a r ++ va_pl L f) H → va_D (va_A (XW x cy g N n a r ++ va_pl L f) s.heap.size) (XW x cy g N n a r ++ va_pl L f) → va_S (va_A (XW x cy g N n a r ++ va_pl L f) s.heap.size) s.heap H locs → lv_has ls 7 [(5, .int (nI j30)), (4, .int v23_4), (3, .ref (x 12)), (0, .ref (x 0)), (1, .int k), (2, .int v)] → W p l e (headSpec wsX9_queue ({ frames := 2, cells := 0, slots := 0, locals := 43 })).room s m #[.ref (x 0), .int k, .int v] below meth c H locs 0 0 (MQ below (va_Qi (fun (res : Int32) (u : Unit) => True) (BU D (TYS cy) (XW x cy g N n a r ++ va_pl L f) (fun _ => XW x cy g N n a r ++ va_pl L f) s.heap.size) (va_A (XW x cy g N n a r ++ va_pl L f) s.heap.size)) #[.ref (x 0), .int k, .int v] s 0 0 (va_A (XW x cy g N n a r ++ va_pl L f) s.heap.size)) (F0 m 23 ls []) := by
        intro m9
        induction m9 using Nat.strongRecOn with
        | _ m9 ihkey31 =>
          intro j30 hm9 hj400 v23_4 H locs ls hP hD hS hl
          subst hm9
          have nb0 : N 0 ≤ 12 := hNB 0 (by decide)
          have nb1 : N 1 ≤ 40 := hNB 1 (by decide)
          have nb2 : N 2 ≤ 20 := hNB 2 (by decide)
          have nb3 : N 3 ≤ 4 := hNB 3 (by decide)
          have nb4 : N 4 ≤ 3 := hNB 4 (by decide)
          have nb5 : N 5 ≤ 20 := hNB 5 (by decide)
          have nb6 : N 6 ≤ 20 := hNB 6 (by decide)
          have nb7 : N 7 ≤ 20 := hNB 7 (by decide)
          have nb8 : N 8 ≤ 30 := hNB 8 (by decide)
          have nb9 : N 9 ≤ 400 := hNB 9 (by decide)
          refine lv_iload hx hb dX9_queue_23 (lv_at hl 0 rfl) ?_
          refine lv_aload_n hx hb dX9_queue_25 rfl (lv_at hl 2 rfl) ?_
          refine va_get (D := D) (ci := 3) (v := .int (nI (N 7))) (C := RX3) (T := TX3) (N := 2) hx hb hts iX9_queue_3 hown hK hP 12 rfl rfl 1 (by decide) (hts (.fieldLink RX9 373 "FondsRoom$Line" "size" "I") (by decide +kernel)) (fun _ h9 => h9) rfl dX9_queue_26 ?_
          refine lv_icmp_ge (tgt := 76) hx hb dX9_queue_29 (by decide) (fun c32 => ?_) (fun c32 => ?_)
          · skip
            have dc32 : (N 7) ≤ j30 := (nI_leI (a := (N 7)) (b := j30) (by omega) (by omega)).mp c32
            refine lv_iload_n hx hb dX9_queue_76 rfl (lv_at hl 5 rfl) ?_
            refine lv_iconst (v := (-1)) hx hb dX9_queue_77 (by decide) ?_
            refine lv_icmp_ne (tgt := 86) hx hb dX9_queue_78 (by decide) (fun c33 => ?_) (fun c33 => ?_)
            · skip
              refine lv_iconst (v := (-1)) hx hb dX9_queue_86 (by decide) ?_
              exact W.iret (v := (-1)) hx hb hr (fun t ht hW => ⟨⟨(-1), (), rfl, trivial, by rw [ht]; exact hP, va_K.moved hW.alike hK, hD⟩, hS.F ht⟩) hS.2.2 dX9_queue_87
            · skip
              refine lv_iload hx hb dX9_queue_81 (lv_at hl 1 rfl) ?_
              refine lv_goto (tgt := 87) hx hb dX9_queue_83 (by decide) ?_
              exact W.iret (v := v23_4) hx hb hr (fun t ht hW => ⟨⟨v23_4, (), rfl, trivial, by rw [ht]; exact hP, va_K.moved hW.alike hK, hD⟩, hS.F ht⟩) hS.2.2 dX9_queue_87
          · skip
            have dc32 : j30 < (N 7) := Nat.not_le.mp (fun h9 => c32 ((nI_leI (a := (N 7)) (b := j30) (by omega) (by omega)).mpr h9))
            refine lv_aload_n hx hb dX9_queue_32 rfl (lv_at hl 2 rfl) ?_
            refine lv_iload hx hb dX9_queue_33 (lv_at hl 0 rfl) ?_
            refine gvQ (As := [.int (nI j30)]) (rest := []) ⟨hx, hb, hml, hown, hts⟩ (zX3_at_2 l D x cy g L K hG N n a r f ⟨hNB, hRB, hHT⟩ _  (nI j30) ) (cwV 1 hts gX9_queue_X3_at rfl rfl rfl (by decide +kernel) ⟨Nat.le_of_ble_eq_true rfl, Nat.le_of_ble_eq_true rfl⟩) hK hP hD hS hA (va_recv hK hP (ci := 3) (q0 := 12) rfl rfl) rfl hl.1 rfl (Nat.le_of_ble_eq_true rfl) dX9_queue_35 ⟨Nat.le_of_ble_eq_true rfl, Nat.le_of_ble_eq_true rfl⟩ (fun q34 u35 H locs hq34 hP hD hS => ?_)
            have hP : va_P D vwCl (XW x cy g N n a r ++ va_pl L f) H := hP
            have hD : va_D _ (XW x cy g N n a r ++ va_pl L f) := hD
            rcases eb36 : q34 with _ | b36
            · skip
              subst eb36
              have hP : va_P D vwCl (XW x cy g N n a r ++ va_pl L f) H := by assumption
              have hD : va_D (va_A (XW x cy g N n a r ++ va_pl L f) s.heap.size) (XW x cy g N n a r ++ va_pl L f) := by assumption
              have hl : lv_has ls 7 [(5, .int (nI j30)), (4, .int v23_4), (3, .ref (x 12)), (0, .ref (x 0)), (1, .int k), (2, .int v)] := by assumption
              refine lv_astoreN (lv' := [(6, .null), (5, .int (nI j30)), (4, .int v23_4), (3, .ref (x 12)), (0, .ref (x 0)), (1, .int k), (2, .int v)]) hx hb dX9_queue_38 hl (by decide) rfl (fun ls hl => ?_)
              refine lv_aloadN hx hb dX9_queue_40 (lv_at hl 0 rfl) ?_
              refine lv_ifnullN (tgt := 70) hx hb dX9_queue_42 (by decide) ?_
              refine lv_iinc (v := nI (j30 + 1)) (lv' := [(5, .int (nI (j30 + 1))), (6, .null), (4, .int v23_4), (3, .ref (x 12)), (0, .ref (x 0)), (1, .int k), (2, .int v)]) hx hb dX9_queue_70 hl (k := 1) rfl (by rw [← nI_1]; rfl) (by decide) rfl (fun ls hl => ?_)
              refine lv_goto (tgt := 23) hx hb dX9_queue_73 (by decide) ?_
              exact ihkey31 (400 - ((j30 + 1))) (by omega) ((j30 + 1)) rfl (by omega) v23_4 _ _ _ hP hD hS (lv_sub hl [0, 2, 3, 4, 5, 6] rfl)
            · skip
              subst eb36
              have mb36 := hq34 b36 rfl
              have hP : va_P D vwCl (XW x cy g N n a r ++ va_pl L f) H := by assumption
              have hD : va_D (va_A (XW x cy g N n a r ++ va_pl L f) s.heap.size) (XW x cy g N n a r ++ va_pl L f) := by assumption
              have hl : lv_has ls 7 [(5, .int (nI j30)), (4, .int v23_4), (3, .ref (x 12)), (0, .ref (x 0)), (1, .int k), (2, .int v)] := by assumption
              refine lv_astore (lv' := [(6, .ref b36), (5, .int (nI j30)), (4, .int v23_4), (3, .ref (x 12)), (0, .ref (x 0)), (1, .int k), (2, .int v)]) hx hb dX9_queue_38 hl (by decide) rfl (fun ls hl => ?_)
              refine lv_aload hx hb dX9_queue_40 (lv_at hl 0 rfl) ?_
              refine lv_ifnull hx hb dX9_queue_42 ?_
              refine lv_aload_n hx hb dX9_queue_45 rfl (lv_at hl 4 rfl) ?_
              refine lv_iload_n hx hb dX9_queue_46 rfl (lv_at hl 5 rfl) ?_
              refine lv_aload hx hb dX9_queue_47 (lv_at hl 0 rfl) ?_
              refine gvI (As := [.int k, .ref b36]) (rest := []) ⟨hx, hb, hml, hown, hts⟩ (zX9_waitsStill l D x cy g L K hG N n a r f ⟨hNB, hRB, hHT⟩ _ b36 k ⟨mb36.1, mb36.2⟩) (cwV 2 hts gX9_queue_X9_waitsStill rfl rfl rfl (by decide +kernel) ⟨Nat.le_of_ble_eq_true rfl, Nat.le_of_ble_eq_true rfl⟩) hK hP hD hS hA (va_recv hK hP (ci := 9) (q0 := 0) rfl rfl) rfl hl.1 rfl (Nat.le_of_ble_eq_true rfl) dX9_queue_49 ⟨Nat.le_of_ble_eq_true rfl, Nat.le_of_ble_eq_true rfl⟩ (fun q37 u38 H locs hq37 hP hD hS => ?_)
              have hP : va_P D vwCl (XW x cy g N n a r ++ va_pl L f) H := hP
              have hD : va_D _ (XW x cy g N n a r ++ va_pl L f) := hD
              refine lv_if_eq (tgt := 70) hx hb dX9_queue_52 (by decide) (fun c39 => ?_) (fun c39 => ?_)
              · skip
                refine lv_iinc (v := nI (j30 + 1)) (lv' := [(5, .int (nI (j30 + 1))), (6, .ref b36), (4, .int v23_4), (3, .ref (x 12)), (0, .ref (x 0)), (1, .int k), (2, .int v)]) hx hb dX9_queue_70 hl (k := 1) rfl (by rw [← nI_1]; rfl) (by decide) rfl (fun ls hl => ?_)
                refine lv_goto (tgt := 23) hx hb dX9_queue_73 (by decide) ?_
                exact ihkey31 (400 - ((j30 + 1))) (by omega) ((j30 + 1)) rfl (by omega) v23_4 _ _ _ hP hD hS (lv_sub hl [0, 2, 3, 4, 5, 6] rfl)
              · skip
                refine lv_iload hx hb dX9_queue_55 (lv_at hl 2 rfl) ?_
                refine lv_iload_n hx hb dX9_queue_57 rfl (lv_at hl 6 rfl) ?_
                refine lv_icmp_ne (tgt := 67) hx hb dX9_queue_58 (by decide) (fun c40 => ?_) (fun c40 => ?_)
                · skip
                  refine lv_iinc (v := v23_4 + (1)) (lv' := [(4, .int (v23_4 + (1))), (6, .ref b36), (5, .int (nI j30)), (3, .ref (x 12)), (0, .ref (x 0)), (1, .int k), (2, .int v)]) hx hb dX9_queue_67 hl (k := 2) rfl rfl (by decide) rfl (fun ls hl => ?_)
                  refine lv_iinc (v := nI (j30 + 1)) (lv' := [(5, .int (nI (j30 + 1))), (4, .int (v23_4 + (1))), (6, .ref b36), (3, .ref (x 12)), (0, .ref (x 0)), (1, .int k), (2, .int v)]) hx hb dX9_queue_70 hl (k := 2) rfl (by rw [← nI_1]; rfl) (by decide) rfl (fun ls hl => ?_)
                  refine lv_goto (tgt := 23) hx hb dX9_queue_73 (by decide) ?_
                  exact ihkey31 (400 - ((j30 + 1))) (by omega) ((j30 + 1)) rfl (by omega) (v23_4 + (1)) _ _ _ hP hD hS (lv_sub hl [0, 1, 3, 4, 5, 6] rfl)
                · skip
                  refine lv_aload hx hb dX9_queue_61 (lv_at hl 0 rfl) ?_
                  obtain ⟨n_o41, p_o41, ar_o41, rk_o41, nw_o41, st_o41, ct_o41, d_o41, aw_o41, rl_o41, cp_o41, cu_o41, w1_o41, w2_o41, w3_o41, ov_o41, co_o41, hf_o41, sp_o41, snw_o41, sd_o41, saw_o41, scu_o41⟩ : TE L K cy 6 (f b36) := by rw [← mb36.2]; exact hHT b36 mb36.1
                  refine pg_get (D := D) (ci := 6) (v := .int n_o41) (C := RX6) (T := TX6) (N := 17) hx hb hts iX9_queue_6 hown hK hP mb36.1 hf_o41 rfl 0 (by decide) (hts (.fieldLink RX9 273 "FondsRoom$Reader" "number" "I") (by decide +kernel)) (fun _ h9 => h9) rfl dX9_queue_63 ?_
                  exact W.iret (v := n_o41) hx hb hr (fun t ht hW => ⟨⟨n_o41, (), rfl, trivial, by rw [ht]; exact hP, va_K.moved hW.alike hK, hD⟩, hS.F ht⟩) hS.2.2 dX9_queue_66
      have nb0 : N 0 ≤ 12 := hNB 0 (by decide)
      have nb1 : N 1 ≤ 40 := hNB 1 (by decide)
      have nb2 : N 2 ≤ 20 := hNB 2 (by decide)
      have nb3 : N 3 ≤ 4 := hNB 3 (by decide)
      have nb4 : N 4 ≤ 3 := hNB 4 (by decide)
      have nb5 : N 5 ≤ 20 := hNB 5 (by decide)
      have nb6 : N 6 ≤ 20 := hNB 6 (by decide)
      have nb7 : N 7 ≤ 20 := hNB 7 (by decide)
      have nb8 : N 8 ≤ 30 := hNB 8 (by decide)
      have nb9 : N 9 ≤ 400 := hNB 9 (by decide)
      exact key31 (400 - (0)) (0) rfl (by omega) 0 _ _ _ hP hD hS (lv_sub hl [0, 1, 2, 3, 4, 5] rfl)
    · skip
      refine lv_iconst (v := (-1)) hx hb dX9_queue_15 (by decide) ?_
      exact W.iret (v := (-1)) hx hb hr (fun t ht hW => ⟨⟨(-1), (), rfl, trivial, by rw [ht]; exact hP, va_K.moved hW.alike hK, hD⟩, hS.F ht⟩) hS.2.2 dX9_queue_16

theorem iX9_boxesAtHome_0 : ∀ w ∈ wsX00, w ∈ wsX9_boxesAtHome := fun _ h => List.mem_cons_of_mem _ (List.mem_append_right _ h)
theorem iX9_boxesAtHome_9 : ∀ w ∈ wsX90, w ∈ wsX9_boxesAtHome := fun _ h => List.mem_cons_of_mem _ (List.mem_append_left _ (List.mem_append_right _ h))
set_option maxHeartbeats 4000000 in
set_option maxRecDepth 100000 in
theorem zX9_boxesAtHome (l : Launch) (D : va_G) (x : Nat → Nat) (cy : Nat → ClassId) (g : Nat → Nat → Option Nat) (L : List Nat) (K : Nat → Nat) (hG : GO L K g) (N : Nat → Nat) (n : Nat → Int32) (a : Nat → Nat → Int32) (r : Nat → Nat → Option Nat) (f : Nat → va_E) (hC : CI L K cy N r f) (sz : Nat) : Met l yX9_boxesAtHome wsX9_boxesAtHome ({ frames := 0, cells := 0, slots := 0, locals := 0 }) (PW D (TYS cy) (XW x cy g N n a r ++ va_pl L f) sz [.ref (x 0)]) (va_Qi (fun (res : Int32) (u : Unit) => True) (BU D (TYS cy) (XW x cy g N n a r ++ va_pl L f) (fun _ => XW x cy g N n a r ++ va_pl L f) sz) (va_A (XW x cy g N n a r ++ va_pl L f) sz)) 0 0 (va_A (XW x cy g N n a r ++ va_pl L f) sz) := by
  refine Met.ofW (cc := cX9_boxesAtHome) (maxL := 3) (ret := (some .int)) (by decide) rfl ?_
  intro p e s m args below meth c s₁ B hml hv
  obtain ⟨rfl, hsz, hP, hK, hD0⟩ := hv
  have hx := B.exec
  have hb := B.bytes
  have hr := B.returns
  have hts := atoms_spec (ws := wsX9_boxesAtHome) B.pre
  have hown : s.vm.findClass RX9 = some m.cls := findClass_of_methodNamed B.named
  have hlocks := B.notSynchronized
  subst hsz
  obtain ⟨hNB, hRB, hHT⟩ := hC
  have hSM : SM N N n n := SM_rf
  have hMM : MM N N a a := MM_rf
  have hD := hD0.self (sz := s.heap.size)
  have hA : ∀ q9 : Nat, s.heap.size ≤ q9 → va_A (XW x cy g N n a r ++ va_pl L f) s.heap.size q9 := fun q9 h => Or.inr h
  have hS : va_S (va_A (XW x cy g N n a r ++ va_pl L f) s.heap.size) s.heap s.heap [] := va_S.rf
  have hl := lv_entry ([.ref (x 0)]) (n := 3) (Nat.le_of_ble_eq_true rfl)
  rw [lg_entry_eq]
  generalize (lg_sl ([.ref (x 0)]) ++ List.replicate (3 - (lg_sl ([.ref (x 0)])).length) Slot.unset).toArray = ls at hl ⊢
  have hl : lv_has ls 3 [(0, .ref (x 0))] := hl
  refine lv_iconst (v := 0) hx hb dX9_boxesAtHome_0 (by decide) ?_
  refine lv_istore_n (lv' := [(1, .int 0), (0, .ref (x 0))]) hx hb dX9_boxesAtHome_1 rfl hl (by decide) rfl (fun ls hl => ?_)
  refine lv_iconst (v := 0) hx hb dX9_boxesAtHome_2 (by decide) ?_
  refine lv_istore_n (lv' := [(2, .int 0), (1, .int 0), (0, .ref (x 0))]) hx hb dX9_boxesAtHome_3 rfl hl (by decide) rfl (fun ls hl => ?_)
  have key2 : ∀ (m9 j1 : Nat), 400 - j1 = m9 → j1 ≤ 400 → ∀ (v4_1 : Int32) , ∀ (H : Heap) (locs : List Loc) (ls : Array Slot), va_P D vwCl (XW x cy g N n a r ++ va_pl L f) H → va_D (va_A (XW x cy g N n a r ++ va_pl L f) s.heap.size) (XW x cy g N n a r ++ va_pl L f) → va_S (va_A (XW x cy g N n a r ++ va_pl L f) s.heap.size) s.heap H locs → lv_has ls 3 [(2, .int (nI j1)), (1, .int v4_1), (0, .ref (x 0))] → W p l e (headSpec wsX9_boxesAtHome ({ frames := 0, cells := 0, slots := 0, locals := 0 })).room s m #[.ref (x 0)] below meth c H locs 0 0 (MQ below (va_Qi (fun (res : Int32) (u : Unit) => True) (BU D (TYS cy) (XW x cy g N n a r ++ va_pl L f) (fun _ => XW x cy g N n a r ++ va_pl L f) s.heap.size) (va_A (XW x cy g N n a r ++ va_pl L f) s.heap.size)) #[.ref (x 0)] s 0 0 (va_A (XW x cy g N n a r ++ va_pl L f) s.heap.size)) (F0 m 4 ls []) := by
    intro m9
    induction m9 using Nat.strongRecOn with
    | _ m9 ihkey2 =>
      intro j1 hm9 hj400 v4_1 H locs ls hP hD hS hl
      subst hm9
      have nb0 : N 0 ≤ 12 := hNB 0 (by decide)
      have nb1 : N 1 ≤ 40 := hNB 1 (by decide)
      have nb2 : N 2 ≤ 20 := hNB 2 (by decide)
      have nb3 : N 3 ≤ 4 := hNB 3 (by decide)
      have nb4 : N 4 ≤ 3 := hNB 4 (by decide)
      have nb5 : N 5 ≤ 20 := hNB 5 (by decide)
      have nb6 : N 6 ≤ 20 := hNB 6 (by decide)
      have nb7 : N 7 ≤ 20 := hNB 7 (by decide)
      have nb8 : N 8 ≤ 30 := hNB 8 (by decide)
      have nb9 : N 9 ≤ 400 := hNB 9 (by decide)
      refine lv_iload_n hx hb dX9_boxesAtHome_4 rfl (lv_at hl 0 rfl) ?_
      refine lv_aload_n hx hb dX9_boxesAtHome_5 rfl (lv_at hl 2 rfl) ?_
      refine va_get (D := D) (ci := 9) (v := .int (nI (N 1))) (C := RX9) (T := TX9) (N := 19) hx hb hts iX9_boxesAtHome_9 hown hK hP 0 rfl rfl 11 (by decide) (hts (.fieldLink RX9 88 "FondsRoom" "boxCount" "I") (by decide +kernel)) (fun _ h9 => h9) rfl dX9_boxesAtHome_6 ?_
      refine lv_icmp_ge (tgt := 33) hx hb dX9_boxesAtHome_9 (by decide) (fun c3 => ?_) (fun c3 => ?_)
      · skip
        have dc3 : (N 1) ≤ j1 := (nI_leI (a := (N 1)) (b := j1) (by omega) (by omega)).mp c3
        refine lv_iload_n hx hb dX9_boxesAtHome_33 rfl (lv_at hl 1 rfl) ?_
        exact W.iret (v := v4_1) hx hb hr (fun t ht hW => ⟨⟨v4_1, (), rfl, trivial, by rw [ht]; exact hP, va_K.moved hW.alike hK, hD⟩, hS.F ht⟩) hS.2.2 dX9_boxesAtHome_34
      · skip
        have dc3 : j1 < (N 1) := Nat.not_le.mp (fun h9 => c3 ((nI_leI (a := (N 1)) (b := j1) (by omega) (by omega)).mpr h9))
        refine lv_aload_n hx hb dX9_boxesAtHome_12 rfl (lv_at hl 2 rfl) ?_
        refine va_get (D := D) (ci := 9) (v := .ref (x 2)) (C := RX9) (T := TX9) (N := 19) hx hb hts iX9_boxesAtHome_9 hown hK hP 0 rfl rfl 1 (by decide) (hts (.fieldLink RX9 20 "FondsRoom" "boxes" "[LFondsRoom$Box;") (by decide +kernel)) (fun _ h9 => h9) rfl dX9_boxesAtHome_13 ?_
        refine lv_iload_n hx hb dX9_boxesAtHome_16 rfl (lv_at hl 0 rfl) ?_
        refine va_aldq hx hb hK hP 2 3 rfl rfl (vp_in_nI (by omega) (by omega)) dX9_boxesAtHome_17 ?_
        obtain ⟨p4, ep4, mp4, kp4⟩ := hG.2.1 j1 (by omega)
        refine lv_tov (v' := .ref p4) (by rw [nI_clamp (by omega)]; show va_rf (g 1 j1) = _; rw [ep4]; rfl) ?_
        obtain ⟨n_o5, fo_o5, pr_o5, pl_o5, h_o5, w_o5, hf_o5, spr_o5, sh_o5, sw_o5⟩ : TE L K cy 0 (f p4) := by rw [← kp4]; exact hHT p4 mp4
        refine pg_get (D := D) (ci := 0) (v := .int pl_o5) (C := RX0) (T := TX0) (N := 6) hx hb hts iX9_boxesAtHome_0 hown hK hP mp4 hf_o5 rfl 3 (by decide) (hts (.fieldLink RX9 233 "FondsRoom$Box" "place" "I") (by decide +kernel)) (fun _ h9 => h9) rfl dX9_boxesAtHome_18 ?_
        refine lv_if_ne (tgt := 27) hx hb dX9_boxesAtHome_21 (by decide) (fun c6 => ?_) (fun c6 => ?_)
        · skip
          refine lv_iinc (v := nI (j1 + 1)) (lv' := [(2, .int (nI (j1 + 1))), (1, .int v4_1), (0, .ref (x 0))]) hx hb dX9_boxesAtHome_27 hl (k := 0) rfl (by rw [← nI_1]; rfl) (by decide) rfl (fun ls hl => ?_)
          refine lv_goto (tgt := 4) hx hb dX9_boxesAtHome_30 (by decide) ?_
          exact ihkey2 (400 - ((j1 + 1))) (by omega) ((j1 + 1)) rfl (by omega) v4_1 _ _ _ hP hD hS (lv_sub hl [0, 1, 2] rfl)
        · skip
          refine lv_iinc (v := v4_1 + (1)) (lv' := [(1, .int (v4_1 + (1))), (2, .int (nI j1)), (0, .ref (x 0))]) hx hb dX9_boxesAtHome_24 hl (k := 1) rfl rfl (by decide) rfl (fun ls hl => ?_)
          refine lv_iinc (v := nI (j1 + 1)) (lv' := [(2, .int (nI (j1 + 1))), (1, .int (v4_1 + (1))), (0, .ref (x 0))]) hx hb dX9_boxesAtHome_27 hl (k := 1) rfl (by rw [← nI_1]; rfl) (by decide) rfl (fun ls hl => ?_)
          refine lv_goto (tgt := 4) hx hb dX9_boxesAtHome_30 (by decide) ?_
          exact ihkey2 (400 - ((j1 + 1))) (by omega) ((j1 + 1)) rfl (by omega) (v4_1 + (1)) _ _ _ hP hD hS (lv_sub hl [0, 1, 2] rfl)
  have nb0 : N 0 ≤ 12 := hNB 0 (by decide)
  have nb1 : N 1 ≤ 40 := hNB 1 (by decide)
  have nb2 : N 2 ≤ 20 := hNB 2 (by decide)
  have nb3 : N 3 ≤ 4 := hNB 3 (by decide)
  have nb4 : N 4 ≤ 3 := hNB 4 (by decide)
  have nb5 : N 5 ≤ 20 := hNB 5 (by decide)
  have nb6 : N 6 ≤ 20 := hNB 6 (by decide)
  have nb7 : N 7 ≤ 20 := hNB 7 (by decide)
  have nb8 : N 8 ≤ 30 := hNB 8 (by decide)
  have nb9 : N 9 ≤ 400 := hNB 9 (by decide)
  exact key2 (400 - (0)) (0) rfl (by omega) 0 _ _ _ hP hD hS (lv_sub hl [0, 1, 2] rfl)

theorem iX9_isQuiet_9 : ∀ w ∈ wsX90, w ∈ wsX9_isQuiet := fun _ h => List.mem_cons_of_mem _ (List.mem_append_left _ (List.mem_append_left _ (List.mem_append_right _ h)))
set_option maxHeartbeats 4000000 in
set_option maxRecDepth 100000 in
theorem zX9_isQuiet (l : Launch) (D : va_G) (x : Nat → Nat) (cy : Nat → ClassId) (g : Nat → Nat → Option Nat) (L : List Nat) (K : Nat → Nat) (hG : GO L K g) (N : Nat → Nat) (n : Nat → Int32) (a : Nat → Nat → Int32) (r : Nat → Nat → Option Nat) (f : Nat → va_E) (hC : CI L K cy N r f) (sz : Nat) : Met l yX9_isQuiet wsX9_isQuiet ({ frames := 1, cells := 0, slots := 0, locals := 22 }) (PW D (TYS cy) (XW x cy g N n a r ++ va_pl L f) sz [.ref (x 0)]) (va_Qi (fun (res : Int32) (u : Unit) => b01 res) (BU D (TYS cy) (XW x cy g N n a r ++ va_pl L f) (fun _ => XW x cy g N n a r ++ va_pl L f) sz) (va_A (XW x cy g N n a r ++ va_pl L f) sz)) 0 0 (va_A (XW x cy g N n a r ++ va_pl L f) sz) := by
  refine Met.ofW (cc := cX9_isQuiet) (maxL := 2) (ret := (some .boolean)) (by decide) rfl ?_
  intro p e s m args below meth c s₁ B hml hv
  obtain ⟨rfl, hsz, hP, hK, hD0⟩ := hv
  have hx := B.exec
  have hb := B.bytes
  have hr := B.returns
  have hts := atoms_spec (ws := wsX9_isQuiet) B.pre
  have hown : s.vm.findClass RX9 = some m.cls := findClass_of_methodNamed B.named
  have hlocks := B.notSynchronized
  subst hsz
  obtain ⟨hNB, hRB, hHT⟩ := hC
  have hSM : SM N N n n := SM_rf
  have hMM : MM N N a a := MM_rf
  have hD := hD0.self (sz := s.heap.size)
  have hA : ∀ q9 : Nat, s.heap.size ≤ q9 → va_A (XW x cy g N n a r ++ va_pl L f) s.heap.size q9 := fun q9 h => Or.inr h
  have hS : va_S (va_A (XW x cy g N n a r ++ va_pl L f) s.heap.size) s.heap s.heap [] := va_S.rf
  have hl := lv_entry ([.ref (x 0)]) (n := 2) (Nat.le_of_ble_eq_true rfl)
  rw [lg_entry_eq]
  generalize (lg_sl ([.ref (x 0)]) ++ List.replicate (2 - (lg_sl ([.ref (x 0)])).length) Slot.unset).toArray = ls at hl ⊢
  have hl : lv_has ls 2 [(0, .ref (x 0))] := hl
  refine lv_iconst (v := 0) hx hb dX9_isQuiet_0 (by decide) ?_
  refine lv_istore_n (lv' := [(1, .int 0), (0, .ref (x 0))]) hx hb dX9_isQuiet_1 rfl hl (by decide) rfl (fun ls hl => ?_)
  have key2 : ∀ (m9 j1 : Nat), 400 - j1 = m9 → j1 ≤ 400 → ∀ (H : Heap) (locs : List Loc) (ls : Array Slot), va_P D vwCl (XW x cy g N n a r ++ va_pl L f) H → va_D (va_A (XW x cy g N n a r ++ va_pl L f) s.heap.size) (XW x cy g N n a r ++ va_pl L f) → va_S (va_A (XW x cy g N n a r ++ va_pl L f) s.heap.size) s.heap H locs → lv_has ls 2 [(1, .int (nI j1)), (0, .ref (x 0))] → W p l e (headSpec wsX9_isQuiet ({ frames := 1, cells := 0, slots := 0, locals := 22 })).room s m #[.ref (x 0)] below meth c H locs 0 0 (MQ below (va_Qi (fun (res : Int32) (u : Unit) => b01 res) (BU D (TYS cy) (XW x cy g N n a r ++ va_pl L f) (fun _ => XW x cy g N n a r ++ va_pl L f) s.heap.size) (va_A (XW x cy g N n a r ++ va_pl L f) s.heap.size)) #[.ref (x 0)] s 0 0 (va_A (XW x cy g N n a r ++ va_pl L f) s.heap.size)) (F0 m 2 ls []) := by
    intro m9
    induction m9 using Nat.strongRecOn with
    | _ m9 ihkey2 =>
      intro j1 hm9 hj400  H locs ls hP hD hS hl
      subst hm9
      have nb0 : N 0 ≤ 12 := hNB 0 (by decide)
      have nb1 : N 1 ≤ 40 := hNB 1 (by decide)
      have nb2 : N 2 ≤ 20 := hNB 2 (by decide)
      have nb3 : N 3 ≤ 4 := hNB 3 (by decide)
      have nb4 : N 4 ≤ 3 := hNB 4 (by decide)
      have nb5 : N 5 ≤ 20 := hNB 5 (by decide)
      have nb6 : N 6 ≤ 20 := hNB 6 (by decide)
      have nb7 : N 7 ≤ 20 := hNB 7 (by decide)
      have nb8 : N 8 ≤ 30 := hNB 8 (by decide)
      have nb9 : N 9 ≤ 400 := hNB 9 (by decide)
      refine lv_iload_n hx hb dX9_isQuiet_2 rfl (lv_at hl 0 rfl) ?_
      refine lv_aload_n hx hb dX9_isQuiet_3 rfl (lv_at hl 1 rfl) ?_
      refine va_get (D := D) (ci := 9) (v := .int (nI (N 2))) (C := RX9) (T := TX9) (N := 19) hx hb hts iX9_isQuiet_9 hown hK hP 0 rfl rfl 12 (by decide) (hts (.fieldLink RX9 104 "FondsRoom" "readerCount" "I") (by decide +kernel)) (fun _ h9 => h9) rfl dX9_isQuiet_4 ?_
      refine lv_icmp_ge (tgt := 30) hx hb dX9_isQuiet_7 (by decide) (fun c3 => ?_) (fun c3 => ?_)
      · skip
        have dc3 : (N 2) ≤ j1 := (nI_leI (a := (N 2)) (b := j1) (by omega) (by omega)).mp c3
        refine lv_aload_n hx hb dX9_isQuiet_30 rfl (lv_at hl 1 rfl) ?_
        refine gvI (As := []) (rest := []) ⟨hx, hb, hml, hown, hts⟩ (zX9_boxesAtHome l D x cy g L K hG N n a r f ⟨hNB, hRB, hHT⟩ _   ) (cwV 0 hts gX9_isQuiet_X9_boxesAtHome rfl rfl rfl (by decide +kernel) ⟨Nat.le_of_ble_eq_true rfl, Nat.le_of_ble_eq_true rfl⟩) hK hP hD hS hA (va_recv hK hP (ci := 9) (q0 := 0) rfl rfl) rfl hl.1 rfl (Nat.le_of_ble_eq_true rfl) dX9_isQuiet_31 ⟨Nat.le_of_ble_eq_true rfl, Nat.le_of_ble_eq_true rfl⟩ (fun q4 u5 H locs hq4 hP hD hS => ?_)
        have hP : va_P D vwCl (XW x cy g N n a r ++ va_pl L f) H := hP
        have hD : va_D _ (XW x cy g N n a r ++ va_pl L f) := hD
        refine lv_aload_n hx hb dX9_isQuiet_34 rfl (lv_at hl 1 rfl) ?_
        refine va_get (D := D) (ci := 9) (v := .int (nI (N 1))) (C := RX9) (T := TX9) (N := 19) hx hb hts iX9_isQuiet_9 hown hK hP 0 rfl rfl 11 (by decide) (hts (.fieldLink RX9 88 "FondsRoom" "boxCount" "I") (by decide +kernel)) (fun _ h9 => h9) rfl dX9_isQuiet_35 ?_
        refine lv_icmp_ne (tgt := 45) hx hb dX9_isQuiet_38 (by decide) (fun c6 => ?_) (fun c6 => ?_)
        · skip
          refine lv_iconst (v := 0) hx hb dX9_isQuiet_45 (by decide) ?_
          exact W.zret (v := 0) hx hb hr (rfl) (fun t ht hW => ⟨⟨0, (), rfl, Or.inl rfl, by rw [ht]; exact hP, va_K.moved hW.alike hK, hD⟩, hS.F ht⟩) hS.2.2 dX9_isQuiet_46
        · skip
          refine lv_iconst (v := 1) hx hb dX9_isQuiet_41 (by decide) ?_
          refine lv_goto (tgt := 46) hx hb dX9_isQuiet_42 (by decide) ?_
          exact W.zret (v := 1) hx hb hr (rfl) (fun t ht hW => ⟨⟨1, (), rfl, Or.inr rfl, by rw [ht]; exact hP, va_K.moved hW.alike hK, hD⟩, hS.F ht⟩) hS.2.2 dX9_isQuiet_46
      · skip
        have dc3 : j1 < (N 2) := Nat.not_le.mp (fun h9 => c3 ((nI_leI (a := (N 2)) (b := j1) (by omega) (by omega)).mpr h9))
        refine lv_aload_n hx hb dX9_isQuiet_10 rfl (lv_at hl 1 rfl) ?_
        refine va_get (D := D) (ci := 9) (v := .ref (x 3)) (C := RX9) (T := TX9) (N := 19) hx hb hts iX9_isQuiet_9 hown hK hP 0 rfl rfl 2 (by decide) (hts (.fieldLink RX9 27 "FondsRoom" "readers" "[LFondsRoom$Reader;") (by decide +kernel)) (fun _ h9 => h9) rfl dX9_isQuiet_11 ?_
        refine lv_iload_n hx hb dX9_isQuiet_14 rfl (lv_at hl 0 rfl) ?_
        refine va_aldq hx hb hK hP 3 4 rfl rfl (vp_in_nI (by omega) (by omega)) dX9_isQuiet_15 ?_
        obtain ⟨p7, ep7, mp7, kp7⟩ := hG.2.2.1 j1 (by omega)
        refine lv_tov (v' := .ref p7) (by rw [nI_clamp (by omega)]; show va_rf (g 2 j1) = _; rw [ep7]; rfl) ?_
        refine gsI (As := [.ref p7]) (rest := []) ⟨hx, hb, hml, hown, hts⟩ (zX9_isAway l D x cy g L K hG N n a r f ⟨hNB, hRB, hHT⟩ _ p7  ⟨mp7, kp7⟩) (va_cwS 1 hts gX9_isQuiet_X9_isAway rfl rfl rfl (by decide +kernel) ⟨Nat.le_of_ble_eq_true rfl, Nat.le_of_ble_eq_true rfl⟩) hK hP hD hS hA rfl hl.1 rfl (Nat.le_of_ble_eq_true rfl) dX9_isQuiet_16 ⟨Nat.le_of_ble_eq_true rfl, Nat.le_of_ble_eq_true rfl⟩ (fun q8 u9 H locs hq8 hP hD hS => ?_)
        have hP : va_P D vwCl (XW x cy g N n a r ++ va_pl L f) H := hP
        have hD : va_D _ (XW x cy g N n a r ++ va_pl L f) := hD
        refine lv_if_ne (tgt := 24) hx hb dX9_isQuiet_19 (by decide) (fun c10 => ?_) (fun c10 => ?_)
        · skip
          refine lv_iinc (v := nI (j1 + 1)) (lv' := [(1, .int (nI (j1 + 1))), (0, .ref (x 0))]) hx hb dX9_isQuiet_24 hl (k := 0) rfl (by rw [← nI_1]; rfl) (by decide) rfl (fun ls hl => ?_)
          refine lv_goto (tgt := 2) hx hb dX9_isQuiet_27 (by decide) ?_
          exact ihkey2 (400 - ((j1 + 1))) (by omega) ((j1 + 1)) rfl (by omega)  _ _ _ hP hD hS (lv_sub hl [0, 1] rfl)
        · skip
          refine lv_iconst (v := 0) hx hb dX9_isQuiet_22 (by decide) ?_
          exact W.zret (v := 0) hx hb hr (rfl) (fun t ht hW => ⟨⟨0, (), rfl, Or.inl rfl, by rw [ht]; exact hP, va_K.moved hW.alike hK, hD⟩, hS.F ht⟩) hS.2.2 dX9_isQuiet_23
  have nb0 : N 0 ≤ 12 := hNB 0 (by decide)
  have nb1 : N 1 ≤ 40 := hNB 1 (by decide)
  have nb2 : N 2 ≤ 20 := hNB 2 (by decide)
  have nb3 : N 3 ≤ 4 := hNB 3 (by decide)
  have nb4 : N 4 ≤ 3 := hNB 4 (by decide)
  have nb5 : N 5 ≤ 20 := hNB 5 (by decide)
  have nb6 : N 6 ≤ 20 := hNB 6 (by decide)
  have nb7 : N 7 ≤ 20 := hNB 7 (by decide)
  have nb8 : N 8 ≤ 30 := hNB 8 (by decide)
  have nb9 : N 9 ≤ 400 := hNB 9 (by decide)
  exact key2 (400 - (0)) (0) rfl (by omega)  _ _ _ hP hD hS (lv_sub hl [0, 1] rfl)

theorem iX9_greatestWaited_6 : ∀ w ∈ wsX60, w ∈ wsX9_greatestWaited := fun _ h => List.mem_cons_of_mem _ (List.mem_append_right _ h)
theorem iX9_greatestWaited_9 : ∀ w ∈ wsX90, w ∈ wsX9_greatestWaited := fun _ h => List.mem_cons_of_mem _ (List.mem_append_left _ (List.mem_append_right _ h))
set_option maxHeartbeats 4000000 in
set_option maxRecDepth 100000 in
theorem zX9_greatestWaited (l : Launch) (D : va_G) (x : Nat → Nat) (cy : Nat → ClassId) (g : Nat → Nat → Option Nat) (L : List Nat) (K : Nat → Nat) (hG : GO L K g) (N : Nat → Nat) (n : Nat → Int32) (a : Nat → Nat → Int32) (r : Nat → Nat → Option Nat) (f : Nat → va_E) (hC : CI L K cy N r f) (sz : Nat) (v : Int32) : Met l yX9_greatestWaited wsX9_greatestWaited ({ frames := 1, cells := 0, slots := 0, locals := 13 }) (PW D (TYS cy) (XW x cy g N n a r ++ va_pl L f) sz [.ref (x 0), .int v]) (va_Qi (fun (res : Int32) (u : Unit) => True) (BU D (TYS cy) (XW x cy g N n a r ++ va_pl L f) (fun _ => XW x cy g N n a r ++ va_pl L f) sz) (va_A (XW x cy g N n a r ++ va_pl L f) sz)) 0 0 (va_A (XW x cy g N n a r ++ va_pl L f) sz) := by
  refine Met.ofW (cc := cX9_greatestWaited) (maxL := 6) (ret := (some .int)) (by decide) rfl ?_
  intro p e s m args below meth c s₁ B hml hv
  obtain ⟨rfl, hsz, hP, hK, hD0⟩ := hv
  have hx := B.exec
  have hb := B.bytes
  have hr := B.returns
  have hts := atoms_spec (ws := wsX9_greatestWaited) B.pre
  have hown : s.vm.findClass RX9 = some m.cls := findClass_of_methodNamed B.named
  have hlocks := B.notSynchronized
  subst hsz
  obtain ⟨hNB, hRB, hHT⟩ := hC
  have hSM : SM N N n n := SM_rf
  have hMM : MM N N a a := MM_rf
  have hD := hD0.self (sz := s.heap.size)
  have hA : ∀ q9 : Nat, s.heap.size ≤ q9 → va_A (XW x cy g N n a r ++ va_pl L f) s.heap.size q9 := fun q9 h => Or.inr h
  have hS : va_S (va_A (XW x cy g N n a r ++ va_pl L f) s.heap.size) s.heap s.heap [] := va_S.rf
  have hl := lv_entry ([.ref (x 0), .int v]) (n := 6) (Nat.le_of_ble_eq_true rfl)
  rw [lg_entry_eq]
  generalize (lg_sl ([.ref (x 0), .int v]) ++ List.replicate (6 - (lg_sl ([.ref (x 0), .int v])).length) Slot.unset).toArray = ls at hl ⊢
  have hl : lv_has ls 6 [(0, .ref (x 0)), (1, .int v)] := hl
  refine lv_iconst (v := 0) hx hb dX9_greatestWaited_0 (by decide) ?_
  refine lv_istore_n (lv' := [(2, .int 0), (0, .ref (x 0)), (1, .int v)]) hx hb dX9_greatestWaited_1 rfl hl (by decide) rfl (fun ls hl => ?_)
  refine lv_iconst (v := 0) hx hb dX9_greatestWaited_2 (by decide) ?_
  refine lv_istore_n (lv' := [(3, .int 0), (2, .int 0), (0, .ref (x 0)), (1, .int v)]) hx hb dX9_greatestWaited_3 rfl hl (by decide) rfl (fun ls hl => ?_)
  have key2 : ∀ (m9 j1 : Nat), 400 - j1 = m9 → j1 ≤ 400 → ∀ (v4_2 : Int32) , ∀ (H : Heap) (locs : List Loc) (ls : Array Slot), va_P D vwCl (XW x cy g N n a r ++ va_pl L f) H → va_D (va_A (XW x cy g N n a r ++ va_pl L f) s.heap.size) (XW x cy g N n a r ++ va_pl L f) → va_S (va_A (XW x cy g N n a r ++ va_pl L f) s.heap.size) s.heap H locs → lv_has ls 6 [(3, .int (nI j1)), (2, .int v4_2), (0, .ref (x 0)), (1, .int v)] → W p l e (headSpec wsX9_greatestWaited ({ frames := 1, cells := 0, slots := 0, locals := 13 })).room s m #[.ref (x 0), .int v] below meth c H locs 0 0 (MQ below (va_Qi (fun (res : Int32) (u : Unit) => True) (BU D (TYS cy) (XW x cy g N n a r ++ va_pl L f) (fun _ => XW x cy g N n a r ++ va_pl L f) s.heap.size) (va_A (XW x cy g N n a r ++ va_pl L f) s.heap.size)) #[.ref (x 0), .int v] s 0 0 (va_A (XW x cy g N n a r ++ va_pl L f) s.heap.size)) (F0 m 4 ls []) := by
    intro m9
    induction m9 using Nat.strongRecOn with
    | _ m9 ihkey2 =>
      intro j1 hm9 hj400 v4_2 H locs ls hP hD hS hl
      subst hm9
      have nb0 : N 0 ≤ 12 := hNB 0 (by decide)
      have nb1 : N 1 ≤ 40 := hNB 1 (by decide)
      have nb2 : N 2 ≤ 20 := hNB 2 (by decide)
      have nb3 : N 3 ≤ 4 := hNB 3 (by decide)
      have nb4 : N 4 ≤ 3 := hNB 4 (by decide)
      have nb5 : N 5 ≤ 20 := hNB 5 (by decide)
      have nb6 : N 6 ≤ 20 := hNB 6 (by decide)
      have nb7 : N 7 ≤ 20 := hNB 7 (by decide)
      have nb8 : N 8 ≤ 30 := hNB 8 (by decide)
      have nb9 : N 9 ≤ 400 := hNB 9 (by decide)
      refine lv_iload_n hx hb dX9_greatestWaited_4 rfl (lv_at hl 0 rfl) ?_
      refine lv_aload_n hx hb dX9_greatestWaited_5 rfl (lv_at hl 2 rfl) ?_
      refine va_get (D := D) (ci := 9) (v := .int (nI (N 2))) (C := RX9) (T := TX9) (N := 19) hx hb hts iX9_greatestWaited_9 hown hK hP 0 rfl rfl 12 (by decide) (hts (.fieldLink RX9 104 "FondsRoom" "readerCount" "I") (by decide +kernel)) (fun _ h9 => h9) rfl dX9_greatestWaited_6 ?_
      refine lv_icmp_ge (tgt := 68) hx hb dX9_greatestWaited_9 (by decide) (fun c3 => ?_) (fun c3 => ?_)
      · skip
        have dc3 : (N 2) ≤ j1 := (nI_leI (a := (N 2)) (b := j1) (by omega) (by omega)).mp c3
        refine lv_iload_n hx hb dX9_greatestWaited_68 rfl (lv_at hl 1 rfl) ?_
        exact W.iret (v := v4_2) hx hb hr (fun t ht hW => ⟨⟨v4_2, (), rfl, trivial, by rw [ht]; exact hP, va_K.moved hW.alike hK, hD⟩, hS.F ht⟩) hS.2.2 dX9_greatestWaited_69
      · skip
        have dc3 : j1 < (N 2) := Nat.not_le.mp (fun h9 => c3 ((nI_leI (a := (N 2)) (b := j1) (by omega) (by omega)).mpr h9))
        refine lv_aload_n hx hb dX9_greatestWaited_12 rfl (lv_at hl 2 rfl) ?_
        refine va_get (D := D) (ci := 9) (v := .ref (x 3)) (C := RX9) (T := TX9) (N := 19) hx hb hts iX9_greatestWaited_9 hown hK hP 0 rfl rfl 2 (by decide) (hts (.fieldLink RX9 27 "FondsRoom" "readers" "[LFondsRoom$Reader;") (by decide +kernel)) (fun _ h9 => h9) rfl dX9_greatestWaited_13 ?_
        refine lv_iload_n hx hb dX9_greatestWaited_16 rfl (lv_at hl 0 rfl) ?_
        refine va_aldq hx hb hK hP 3 4 rfl rfl (vp_in_nI (by omega) (by omega)) dX9_greatestWaited_17 ?_
        obtain ⟨p4, ep4, mp4, kp4⟩ := hG.2.2.1 j1 (by omega)
        refine lv_tov (v' := .ref p4) (by rw [nI_clamp (by omega)]; show va_rf (g 2 j1) = _; rw [ep4]; rfl) ?_
        refine lv_astore (lv' := [(4, .ref p4), (3, .int (nI j1)), (2, .int v4_2), (0, .ref (x 0)), (1, .int v)]) hx hb dX9_greatestWaited_18 hl (by decide) rfl (fun ls hl => ?_)
        refine lv_iload_n hx hb dX9_greatestWaited_20 rfl (lv_at hl 4 rfl) ?_
        refine lv_bipush (v := 7) hx hb dX9_greatestWaited_21 (by decide) ?_
        refine lv_icmp_ne (tgt := 34) hx hb dX9_greatestWaited_23 (by decide) (fun c5 => ?_) (fun c5 => ?_)
        · skip
          refine lv_iload_n hx hb dX9_greatestWaited_34 rfl (lv_at hl 4 rfl) ?_
          refine lv_bipush (v := 8) hx hb dX9_greatestWaited_35 (by decide) ?_
          refine lv_icmp_ne (tgt := 48) hx hb dX9_greatestWaited_37 (by decide) (fun c6 => ?_) (fun c6 => ?_)
          · skip
            refine lv_aload hx hb dX9_greatestWaited_48 (lv_at hl 0 rfl) ?_
            obtain ⟨n_o7, p_o7, ar_o7, rk_o7, nw_o7, st_o7, ct_o7, d_o7, aw_o7, rl_o7, cp_o7, cu_o7, w1_o7, w2_o7, w3_o7, ov_o7, co_o7, hf_o7, sp_o7, snw_o7, sd_o7, saw_o7, scu_o7⟩ : TE L K cy 6 (f p4) := by rw [← kp4]; exact hHT p4 mp4
            refine pg_get (D := D) (ci := 6) (v := .int w3_o7) (C := RX6) (T := TX6) (N := 17) hx hb hts iX9_greatestWaited_6 hown hK hP mp4 hf_o7 rfl 14 (by decide) (hts (.fieldLink RX9 427 "FondsRoom$Reader" "waitedCopy" "I") (by decide +kernel)) (fun _ h9 => h9) rfl dX9_greatestWaited_50 ?_
            refine lv_istore (lv' := [(5, .int w3_o7), (4, .ref p4), (3, .int (nI j1)), (2, .int v4_2), (0, .ref (x 0)), (1, .int v)]) hx hb dX9_greatestWaited_53 hl (by decide) rfl (fun ls hl => ?_)
            refine lv_iload_n hx hb dX9_greatestWaited_55 rfl (lv_at hl 3 rfl) ?_
            refine lv_iload hx hb dX9_greatestWaited_56 (lv_at hl 0 rfl) ?_
            refine va_mmax hx hb (hml.trans hl.1.symm) hown (hts (.methodLink RX9 471 Lib.Math.max.name) (by decide +kernel)) (hts (.static Lib.Math.max.name) (by decide +kernel)) (hts (.initialized "java/lang/Math") (by decide +kernel)) (hts (.code Lib.Math.max.name Lib.Math.max.code 2 (some .int)) (by decide +kernel)) (Nat.le_of_ble_eq_true rfl) (Nat.le_of_ble_eq_true rfl) (Nat.le_of_ble_eq_true rfl) (Nat.le_of_ble_eq_true rfl) dX9_greatestWaited_58 ?_
            refine lv_topi (fun y8 ey8 => ?_)
            refine lv_istore_n (lv' := [(2, .int y8), (5, .int w3_o7), (4, .ref p4), (3, .int (nI j1)), (0, .ref (x 0)), (1, .int v)]) hx hb dX9_greatestWaited_61 rfl hl (by decide) rfl (fun ls hl => ?_)
            refine lv_iinc (v := nI (j1 + 1)) (lv' := [(3, .int (nI (j1 + 1))), (2, .int y8), (5, .int w3_o7), (4, .ref p4), (0, .ref (x 0)), (1, .int v)]) hx hb dX9_greatestWaited_62 hl (k := 3) rfl (by rw [← nI_1]; rfl) (by decide) rfl (fun ls hl => ?_)
            refine lv_goto (tgt := 4) hx hb dX9_greatestWaited_65 (by decide) ?_
            exact ihkey2 (400 - ((j1 + 1))) (by omega) ((j1 + 1)) rfl (by omega) y8 _ _ _ hP hD hS (lv_sub hl [0, 1, 4, 5] rfl)
          · skip
            refine lv_aload hx hb dX9_greatestWaited_40 (lv_at hl 0 rfl) ?_
            obtain ⟨n_o9, p_o9, ar_o9, rk_o9, nw_o9, st_o9, ct_o9, d_o9, aw_o9, rl_o9, cp_o9, cu_o9, w1_o9, w2_o9, w3_o9, ov_o9, co_o9, hf_o9, sp_o9, snw_o9, sd_o9, saw_o9, scu_o9⟩ : TE L K cy 6 (f p4) := by rw [← kp4]; exact hHT p4 mp4
            refine pg_get (D := D) (ci := 6) (v := .int w2_o9) (C := RX6) (T := TX6) (N := 17) hx hb hts iX9_greatestWaited_6 hown hK hP mp4 hf_o9 rfl 13 (by decide) (hts (.fieldLink RX9 424 "FondsRoom$Reader" "waitedBox" "I") (by decide +kernel)) (fun _ h9 => h9) rfl dX9_greatestWaited_42 ?_
            refine lv_goto (tgt := 53) hx hb dX9_greatestWaited_45 (by decide) ?_
            refine lv_istore (lv' := [(5, .int w2_o9), (4, .ref p4), (3, .int (nI j1)), (2, .int v4_2), (0, .ref (x 0)), (1, .int v)]) hx hb dX9_greatestWaited_53 hl (by decide) rfl (fun ls hl => ?_)
            refine lv_iload_n hx hb dX9_greatestWaited_55 rfl (lv_at hl 3 rfl) ?_
            refine lv_iload hx hb dX9_greatestWaited_56 (lv_at hl 0 rfl) ?_
            refine va_mmax hx hb (hml.trans hl.1.symm) hown (hts (.methodLink RX9 471 Lib.Math.max.name) (by decide +kernel)) (hts (.static Lib.Math.max.name) (by decide +kernel)) (hts (.initialized "java/lang/Math") (by decide +kernel)) (hts (.code Lib.Math.max.name Lib.Math.max.code 2 (some .int)) (by decide +kernel)) (Nat.le_of_ble_eq_true rfl) (Nat.le_of_ble_eq_true rfl) (Nat.le_of_ble_eq_true rfl) (Nat.le_of_ble_eq_true rfl) dX9_greatestWaited_58 ?_
            refine lv_topi (fun y10 ey10 => ?_)
            refine lv_istore_n (lv' := [(2, .int y10), (5, .int w2_o9), (4, .ref p4), (3, .int (nI j1)), (0, .ref (x 0)), (1, .int v)]) hx hb dX9_greatestWaited_61 rfl hl (by decide) rfl (fun ls hl => ?_)
            refine lv_iinc (v := nI (j1 + 1)) (lv' := [(3, .int (nI (j1 + 1))), (2, .int y10), (5, .int w2_o9), (4, .ref p4), (0, .ref (x 0)), (1, .int v)]) hx hb dX9_greatestWaited_62 hl (k := 3) rfl (by rw [← nI_1]; rfl) (by decide) rfl (fun ls hl => ?_)
            refine lv_goto (tgt := 4) hx hb dX9_greatestWaited_65 (by decide) ?_
            exact ihkey2 (400 - ((j1 + 1))) (by omega) ((j1 + 1)) rfl (by omega) y10 _ _ _ hP hD hS (lv_sub hl [0, 1, 4, 5] rfl)
        · skip
          refine lv_aload hx hb dX9_greatestWaited_26 (lv_at hl 0 rfl) ?_
          obtain ⟨n_o11, p_o11, ar_o11, rk_o11, nw_o11, st_o11, ct_o11, d_o11, aw_o11, rl_o11, cp_o11, cu_o11, w1_o11, w2_o11, w3_o11, ov_o11, co_o11, hf_o11, sp_o11, snw_o11, sd_o11, saw_o11, scu_o11⟩ : TE L K cy 6 (f p4) := by rw [← kp4]; exact hHT p4 mp4
          refine pg_get (D := D) (ci := 6) (v := .int w1_o11) (C := RX6) (T := TX6) (N := 17) hx hb hts iX9_greatestWaited_6 hown hK hP mp4 hf_o11 rfl 12 (by decide) (hts (.fieldLink RX9 421 "FondsRoom$Reader" "waitedDesk" "I") (by decide +kernel)) (fun _ h9 => h9) rfl dX9_greatestWaited_28 ?_
          refine lv_goto (tgt := 53) hx hb dX9_greatestWaited_31 (by decide) ?_
          refine lv_istore (lv' := [(5, .int w1_o11), (4, .ref p4), (3, .int (nI j1)), (2, .int v4_2), (0, .ref (x 0)), (1, .int v)]) hx hb dX9_greatestWaited_53 hl (by decide) rfl (fun ls hl => ?_)
          refine lv_iload_n hx hb dX9_greatestWaited_55 rfl (lv_at hl 3 rfl) ?_
          refine lv_iload hx hb dX9_greatestWaited_56 (lv_at hl 0 rfl) ?_
          refine va_mmax hx hb (hml.trans hl.1.symm) hown (hts (.methodLink RX9 471 Lib.Math.max.name) (by decide +kernel)) (hts (.static Lib.Math.max.name) (by decide +kernel)) (hts (.initialized "java/lang/Math") (by decide +kernel)) (hts (.code Lib.Math.max.name Lib.Math.max.code 2 (some .int)) (by decide +kernel)) (Nat.le_of_ble_eq_true rfl) (Nat.le_of_ble_eq_true rfl) (Nat.le_of_ble_eq_true rfl) (Nat.le_of_ble_eq_true rfl) dX9_greatestWaited_58 ?_
          refine lv_topi (fun y12 ey12 => ?_)
          refine lv_istore_n (lv' := [(2, .int y12), (5, .int w1_o11), (4, .ref p4), (3, .int (nI j1)), (0, .ref (x 0)), (1, .int v)]) hx hb dX9_greatestWaited_61 rfl hl (by decide) rfl (fun ls hl => ?_)
          refine lv_iinc (v := nI (j1 + 1)) (lv' := [(3, .int (nI (j1 + 1))), (2, .int y12), (5, .int w1_o11), (4, .ref p4), (0, .ref (x 0)), (1, .int v)]) hx hb dX9_greatestWaited_62 hl (k := 3) rfl (by rw [← nI_1]; rfl) (by decide) rfl (fun ls hl => ?_)
          refine lv_goto (tgt := 4) hx hb dX9_greatestWaited_65 (by decide) ?_
          exact ihkey2 (400 - ((j1 + 1))) (by omega) ((j1 + 1)) rfl (by omega) y12 _ _ _ hP hD hS (lv_sub hl [0, 1, 4, 5] rfl)
  have nb0 : N 0 ≤ 12 := hNB 0 (by decide)
  have nb1 : N 1 ≤ 40 := hNB 1 (by decide)
  have nb2 : N 2 ≤ 20 := hNB 2 (by decide)
  have nb3 : N 3 ≤ 4 := hNB 3 (by decide)
  have nb4 : N 4 ≤ 3 := hNB 4 (by decide)
  have nb5 : N 5 ≤ 20 := hNB 5 (by decide)
  have nb6 : N 6 ≤ 20 := hNB 6 (by decide)
  have nb7 : N 7 ≤ 20 := hNB 7 (by decide)
  have nb8 : N 8 ≤ 30 := hNB 8 (by decide)
  have nb9 : N 9 ≤ 400 := hNB 9 (by decide)
  exact key2 (400 - (0)) (0) rfl (by omega) 0 _ _ _ hP hD hS (lv_sub hl [0, 1, 2, 3] rfl)

theorem iX9_count_2 : ∀ w ∈ wsX20, w ∈ wsX9_count := fun _ h => List.mem_cons_of_mem _ (List.mem_append_left _ (List.mem_append_left _ (List.mem_append_left _ (List.mem_append_right _ h))))
theorem iX9_count_4 : ∀ w ∈ wsX40, w ∈ wsX9_count := fun _ h => List.mem_cons_of_mem _ (List.mem_append_left _ (List.mem_append_left _ (List.mem_append_right _ h)))
theorem iX9_count_9 : ∀ w ∈ wsX90, w ∈ wsX9_count := fun _ h => List.mem_cons_of_mem _ (List.mem_append_left _ (List.mem_append_left _ (List.mem_append_left _ (List.mem_append_left _ (List.mem_append_right _ h)))))
set_option maxHeartbeats 4000000 in
set_option maxRecDepth 100000 in
theorem zX9_count (l : Launch) (D : va_G) (x : Nat → Nat) (cy : Nat → ClassId) (g : Nat → Nat → Option Nat) (L : List Nat) (K : Nat → Nat) (hG : GO L K g) (N : Nat → Nat) (n : Nat → Int32) (a : Nat → Nat → Int32) (r : Nat → Nat → Option Nat) (f : Nat → va_E) (hC : CI L K cy N r f) (sz : Nat) (v : Int32) : Met l yX9_count wsX9_count ({ frames := 2, cells := 0, slots := 0, locals := 43 }) (PW D (TYS cy) (XW x cy g N n a r ++ va_pl L f) sz [.ref (x 0), .int v]) (va_Qi (fun (res : Int32) (u : Unit) => True) (BU D (TYS cy) (XW x cy g N n a r ++ va_pl L f) (fun _ => XW x cy g N n a r ++ va_pl L f) sz) (va_A (XW x cy g N n a r ++ va_pl L f) sz)) 0 0 (va_A (XW x cy g N n a r ++ va_pl L f) sz) := by
  refine Met.ofW (cc := cX9_count) (maxL := 2) (ret := (some .int)) (by decide) rfl ?_
  intro p e s m args below meth c s₁ B hml hv
  obtain ⟨rfl, hsz, hP, hK, hD0⟩ := hv
  have hx := B.exec
  have hb := B.bytes
  have hr := B.returns
  have hts := atoms_spec (ws := wsX9_count) B.pre
  have hown : s.vm.findClass RX9 = some m.cls := findClass_of_methodNamed B.named
  have hlocks := B.notSynchronized
  subst hsz
  obtain ⟨hNB, hRB, hHT⟩ := hC
  have hSM : SM N N n n := SM_rf
  have hMM : MM N N a a := MM_rf
  have hD := hD0.self (sz := s.heap.size)
  have hA : ∀ q9 : Nat, s.heap.size ≤ q9 → va_A (XW x cy g N n a r ++ va_pl L f) s.heap.size q9 := fun q9 h => Or.inr h
  have hS : va_S (va_A (XW x cy g N n a r ++ va_pl L f) s.heap.size) s.heap s.heap [] := va_S.rf
  have hl := lv_entry ([.ref (x 0), .int v]) (n := 2) (Nat.le_of_ble_eq_true rfl)
  rw [lg_entry_eq]
  generalize (lg_sl ([.ref (x 0), .int v]) ++ List.replicate (2 - (lg_sl ([.ref (x 0), .int v])).length) Slot.unset).toArray = ls at hl ⊢
  have hl : lv_has ls 2 [(0, .ref (x 0)), (1, .int v)] := hl
  refine lv_iload_n hx hb dX9_count_0 rfl (lv_at hl 1 rfl) ?_
  by_cases j1 : v = 0
  · skip
    refine lv_tableIn (tgt := 76) hx hb dX9_count_1 (by rw [j1]; decide) (by rw [j1]; decide) (by rw [j1]; rfl) (by decide) ?_
    refine lv_aload_n hx hb dX9_count_76 rfl (lv_at hl 0 rfl) ?_
    refine va_get (D := D) (ci := 9) (v := .int (n 1)) (C := RX9) (T := TX9) (N := 19) hx hb hts iX9_count_9 hown hK hP 0 rfl rfl 14 (by decide) (hts (.fieldLink RX9 78 "FondsRoom" "turn" "I") (by decide +kernel)) (fun _ h9 => h9) rfl dX9_count_77 ?_
    exact W.iret (v := (n 1)) hx hb hr (fun t ht hW => ⟨⟨(n 1), (), rfl, trivial, by rw [ht]; exact hP, va_K.moved hW.alike hK, hD⟩, hS.F ht⟩) hS.2.2 dX9_count_80
  by_cases j2 : v = 1
  · skip
    refine lv_tableIn (tgt := 81) hx hb dX9_count_1 (by rw [j2]; decide) (by rw [j2]; decide) (by rw [j2]; rfl) (by decide) ?_
    refine lv_aload_n hx hb dX9_count_81 rfl (lv_at hl 0 rfl) ?_
    refine va_get (D := D) (ci := 9) (v := .int (nI (N 0))) (C := RX9) (T := TX9) (N := 19) hx hb hts iX9_count_9 hown hK hP 0 rfl rfl 10 (by decide) (hts (.fieldLink RX9 81 "FondsRoom" "deskCount" "I") (by decide +kernel)) (fun _ h9 => h9) rfl dX9_count_82 ?_
    exact W.iret (v := (nI (N 0))) hx hb hr (fun t ht hW => ⟨⟨(nI (N 0)), (), rfl, trivial, by rw [ht]; exact hP, va_K.moved hW.alike hK, hD⟩, hS.F ht⟩) hS.2.2 dX9_count_85
  by_cases j3 : v = 2
  · skip
    refine lv_tableIn (tgt := 86) hx hb dX9_count_1 (by rw [j3]; decide) (by rw [j3]; decide) (by rw [j3]; rfl) (by decide) ?_
    refine lv_aload_n hx hb dX9_count_86 rfl (lv_at hl 0 rfl) ?_
    refine va_get (D := D) (ci := 9) (v := .int (nI (N 1))) (C := RX9) (T := TX9) (N := 19) hx hb hts iX9_count_9 hown hK hP 0 rfl rfl 11 (by decide) (hts (.fieldLink RX9 88 "FondsRoom" "boxCount" "I") (by decide +kernel)) (fun _ h9 => h9) rfl dX9_count_87 ?_
    exact W.iret (v := (nI (N 1))) hx hb hr (fun t ht hW => ⟨⟨(nI (N 1)), (), rfl, trivial, by rw [ht]; exact hP, va_K.moved hW.alike hK, hD⟩, hS.F ht⟩) hS.2.2 dX9_count_90
  by_cases j4 : v = 3
  · skip
    refine lv_tableIn (tgt := 91) hx hb dX9_count_1 (by rw [j4]; decide) (by rw [j4]; decide) (by rw [j4]; rfl) (by decide) ?_
    refine lv_aload_n hx hb dX9_count_91 rfl (lv_at hl 0 rfl) ?_
    refine va_get (D := D) (ci := 9) (v := .int (nI (N 2))) (C := RX9) (T := TX9) (N := 19) hx hb hts iX9_count_9 hown hK hP 0 rfl rfl 12 (by decide) (hts (.fieldLink RX9 104 "FondsRoom" "readerCount" "I") (by decide +kernel)) (fun _ h9 => h9) rfl dX9_count_92 ?_
    exact W.iret (v := (nI (N 2))) hx hb hr (fun t ht hW => ⟨⟨(nI (N 2)), (), rfl, trivial, by rw [ht]; exact hP, va_K.moved hW.alike hK, hD⟩, hS.F ht⟩) hS.2.2 dX9_count_95
  by_cases j5 : v = 4
  · skip
    refine lv_tableIn (tgt := 96) hx hb dX9_count_1 (by rw [j5]; decide) (by rw [j5]; decide) (by rw [j5]; rfl) (by decide) ?_
    refine lv_aload_n hx hb dX9_count_96 rfl (lv_at hl 0 rfl) ?_
    refine va_get (D := D) (ci := 9) (v := .ref (x 18)) (C := RX9) (T := TX9) (N := 19) hx hb hts iX9_count_9 hown hK hP 0 rfl rfl 9 (by decide) (hts (.fieldLink RX9 67 "FondsRoom" "events" "LFondsRoom$Events;") (by decide +kernel)) (fun _ h9 => h9) rfl dX9_count_97 ?_
    refine va_get (D := D) (ci := 2) (v := .int (nI (N 9))) (C := RX2) (T := TX2) (N := 2) hx hb hts iX9_count_2 hown hK hP 18 rfl rfl 1 (by decide) (hts (.fieldLink RX9 460 "FondsRoom$Events" "size" "I") (by decide +kernel)) (fun _ h9 => h9) rfl dX9_count_100 ?_
    exact W.iret (v := (nI (N 9))) hx hb hr (fun t ht hW => ⟨⟨(nI (N 9)), (), rfl, trivial, by rw [ht]; exact hP, va_K.moved hW.alike hK, hD⟩, hS.F ht⟩) hS.2.2 dX9_count_103
  by_cases j6 : v = 5
  · skip
    refine lv_tableIn (tgt := 104) hx hb dX9_count_1 (by rw [j6]; decide) (by rw [j6]; decide) (by rw [j6]; rfl) (by decide) ?_
    refine lv_aload_n hx hb dX9_count_104 rfl (lv_at hl 0 rfl) ?_
    refine gvI (As := []) (rest := []) ⟨hx, hb, hml, hown, hts⟩ (zX9_boxesAtHome l D x cy g L K hG N n a r f ⟨hNB, hRB, hHT⟩ _   ) (cwV 0 hts gX9_count_X9_boxesAtHome rfl rfl rfl (by decide +kernel) ⟨Nat.le_of_ble_eq_true rfl, Nat.le_of_ble_eq_true rfl⟩) hK hP hD hS hA (va_recv hK hP (ci := 9) (q0 := 0) rfl rfl) rfl hl.1 rfl (Nat.le_of_ble_eq_true rfl) dX9_count_105 ⟨Nat.le_of_ble_eq_true rfl, Nat.le_of_ble_eq_true rfl⟩ (fun q7 u8 H locs hq7 hP hD hS => ?_)
    have hP : va_P D vwCl (XW x cy g N n a r ++ va_pl L f) H := hP
    have hD : va_D _ (XW x cy g N n a r ++ va_pl L f) := hD
    exact W.iret (v := q7) hx hb hr (fun t ht hW => ⟨⟨q7, (), rfl, trivial, by rw [ht]; exact hP, va_K.moved hW.alike hK, hD⟩, hS.F ht⟩) hS.2.2 dX9_count_108
  by_cases j9 : v = 6
  · skip
    refine lv_tableIn (tgt := 109) hx hb dX9_count_1 (by rw [j9]; decide) (by rw [j9]; decide) (by rw [j9]; rfl) (by decide) ?_
    refine lv_aload_n hx hb dX9_count_109 rfl (lv_at hl 0 rfl) ?_
    refine gvI (As := []) (rest := []) ⟨hx, hb, hml, hown, hts⟩ (zX9_isQuiet l D x cy g L K hG N n a r f ⟨hNB, hRB, hHT⟩ _   ) (cwV 0 hts gX9_count_X9_isQuiet rfl rfl rfl (by decide +kernel) ⟨Nat.le_of_ble_eq_true rfl, Nat.le_of_ble_eq_true rfl⟩) hK hP hD hS hA (va_recv hK hP (ci := 9) (q0 := 0) rfl rfl) rfl hl.1 rfl (Nat.le_of_ble_eq_true rfl) dX9_count_110 ⟨Nat.le_of_ble_eq_true rfl, Nat.le_of_ble_eq_true rfl⟩ (fun q10 u11 H locs hq10 hP hD hS => ?_)
    have hP : va_P D vwCl (XW x cy g N n a r ++ va_pl L f) H := hP
    have hD : va_D _ (XW x cy g N n a r ++ va_pl L f) := hD
    refine lv_if_eq (tgt := 120) hx hb dX9_count_113 (by decide) (fun c12 => ?_) (fun c12 => ?_)
    · skip
      refine lv_iconst (v := 0) hx hb dX9_count_120 (by decide) ?_
      exact W.iret (v := 0) hx hb hr (fun t ht hW => ⟨⟨0, (), rfl, trivial, by rw [ht]; exact hP, va_K.moved hW.alike hK, hD⟩, hS.F ht⟩) hS.2.2 dX9_count_121
    · skip
      refine lv_iconst (v := 1) hx hb dX9_count_116 (by decide) ?_
      refine lv_goto (tgt := 121) hx hb dX9_count_117 (by decide) ?_
      exact W.iret (v := 1) hx hb hr (fun t ht hW => ⟨⟨1, (), rfl, trivial, by rw [ht]; exact hP, va_K.moved hW.alike hK, hD⟩, hS.F ht⟩) hS.2.2 dX9_count_121
  by_cases j13 : v = 7
  · skip
    refine lv_tableIn (tgt := 122) hx hb dX9_count_1 (by rw [j13]; decide) (by rw [j13]; decide) (by rw [j13]; rfl) (by decide) ?_
    refine lv_aload_n hx hb dX9_count_122 rfl (lv_at hl 0 rfl) ?_
    refine lv_iload_n hx hb dX9_count_123 rfl (lv_at hl 1 rfl) ?_
    refine gvI (As := [.int v]) (rest := []) ⟨hx, hb, hml, hown, hts⟩ (zX9_greatestWaited l D x cy g L K hG N n a r f ⟨hNB, hRB, hHT⟩ _  v ) (cwV 1 hts gX9_count_X9_greatestWaited rfl rfl rfl (by decide +kernel) ⟨Nat.le_of_ble_eq_true rfl, Nat.le_of_ble_eq_true rfl⟩) hK hP hD hS hA (va_recv hK hP (ci := 9) (q0 := 0) rfl rfl) rfl hl.1 rfl (Nat.le_of_ble_eq_true rfl) dX9_count_124 ⟨Nat.le_of_ble_eq_true rfl, Nat.le_of_ble_eq_true rfl⟩ (fun q14 u15 H locs hq14 hP hD hS => ?_)
    have hP : va_P D vwCl (XW x cy g N n a r ++ va_pl L f) H := hP
    have hD : va_D _ (XW x cy g N n a r ++ va_pl L f) := hD
    exact W.iret (v := q14) hx hb hr (fun t ht hW => ⟨⟨q14, (), rfl, trivial, by rw [ht]; exact hP, va_K.moved hW.alike hK, hD⟩, hS.F ht⟩) hS.2.2 dX9_count_127
  by_cases j16 : v = 8
  · skip
    refine lv_tableIn (tgt := 122) hx hb dX9_count_1 (by rw [j16]; decide) (by rw [j16]; decide) (by rw [j16]; rfl) (by decide) ?_
    refine lv_aload_n hx hb dX9_count_122 rfl (lv_at hl 0 rfl) ?_
    refine lv_iload_n hx hb dX9_count_123 rfl (lv_at hl 1 rfl) ?_
    refine gvI (As := [.int v]) (rest := []) ⟨hx, hb, hml, hown, hts⟩ (zX9_greatestWaited l D x cy g L K hG N n a r f ⟨hNB, hRB, hHT⟩ _  v ) (cwV 1 hts gX9_count_X9_greatestWaited rfl rfl rfl (by decide +kernel) ⟨Nat.le_of_ble_eq_true rfl, Nat.le_of_ble_eq_true rfl⟩) hK hP hD hS hA (va_recv hK hP (ci := 9) (q0 := 0) rfl rfl) rfl hl.1 rfl (Nat.le_of_ble_eq_true rfl) dX9_count_124 ⟨Nat.le_of_ble_eq_true rfl, Nat.le_of_ble_eq_true rfl⟩ (fun q17 u18 H locs hq17 hP hD hS => ?_)
    have hP : va_P D vwCl (XW x cy g N n a r ++ va_pl L f) H := hP
    have hD : va_D _ (XW x cy g N n a r ++ va_pl L f) := hD
    exact W.iret (v := q17) hx hb hr (fun t ht hW => ⟨⟨q17, (), rfl, trivial, by rw [ht]; exact hP, va_K.moved hW.alike hK, hD⟩, hS.F ht⟩) hS.2.2 dX9_count_127
  by_cases j19 : v = 9
  · skip
    refine lv_tableIn (tgt := 122) hx hb dX9_count_1 (by rw [j19]; decide) (by rw [j19]; decide) (by rw [j19]; rfl) (by decide) ?_
    refine lv_aload_n hx hb dX9_count_122 rfl (lv_at hl 0 rfl) ?_
    refine lv_iload_n hx hb dX9_count_123 rfl (lv_at hl 1 rfl) ?_
    refine gvI (As := [.int v]) (rest := []) ⟨hx, hb, hml, hown, hts⟩ (zX9_greatestWaited l D x cy g L K hG N n a r f ⟨hNB, hRB, hHT⟩ _  v ) (cwV 1 hts gX9_count_X9_greatestWaited rfl rfl rfl (by decide +kernel) ⟨Nat.le_of_ble_eq_true rfl, Nat.le_of_ble_eq_true rfl⟩) hK hP hD hS hA (va_recv hK hP (ci := 9) (q0 := 0) rfl rfl) rfl hl.1 rfl (Nat.le_of_ble_eq_true rfl) dX9_count_124 ⟨Nat.le_of_ble_eq_true rfl, Nat.le_of_ble_eq_true rfl⟩ (fun q20 u21 H locs hq20 hP hD hS => ?_)
    have hP : va_P D vwCl (XW x cy g N n a r ++ va_pl L f) H := hP
    have hD : va_D _ (XW x cy g N n a r ++ va_pl L f) := hD
    exact W.iret (v := q20) hx hb hr (fun t ht hW => ⟨⟨q20, (), rfl, trivial, by rw [ht]; exact hP, va_K.moved hW.alike hK, hD⟩, hS.F ht⟩) hS.2.2 dX9_count_127
  by_cases j22 : v = 10
  · skip
    refine lv_tableIn (tgt := 128) hx hb dX9_count_1 (by rw [j22]; decide) (by rw [j22]; decide) (by rw [j22]; rfl) (by decide) ?_
    refine lv_aload_n hx hb dX9_count_128 rfl (lv_at hl 0 rfl) ?_
    refine va_get (D := D) (ci := 9) (v := .int (n 3)) (C := RX9) (T := TX9) (N := 19) hx hb hts iX9_count_9 hown hK hP 0 rfl rfl 16 (by decide) (hts (.fieldLink RX9 278 "FondsRoom" "copiesMade" "I") (by decide +kernel)) (fun _ h9 => h9) rfl dX9_count_129 ?_
    exact W.iret (v := (n 3)) hx hb hr (fun t ht hW => ⟨⟨(n 3), (), rfl, trivial, by rw [ht]; exact hP, va_K.moved hW.alike hK, hD⟩, hS.F ht⟩) hS.2.2 dX9_count_132
  by_cases j23 : v = 11
  · skip
    refine lv_tableIn (tgt := 133) hx hb dX9_count_1 (by rw [j23]; decide) (by rw [j23]; decide) (by rw [j23]; rfl) (by decide) ?_
    refine lv_aload_n hx hb dX9_count_133 rfl (lv_at hl 0 rfl) ?_
    refine va_get (D := D) (ci := 9) (v := .int (n 4)) (C := RX9) (T := TX9) (N := 19) hx hb hts iX9_count_9 hown hK hP 0 rfl rfl 17 (by decide) (hts (.fieldLink RX9 392 "FondsRoom" "waysBegun" "I") (by decide +kernel)) (fun _ h9 => h9) rfl dX9_count_134 ?_
    exact W.iret (v := (n 4)) hx hb hr (fun t ht hW => ⟨⟨(n 4), (), rfl, trivial, by rw [ht]; exact hP, va_K.moved hW.alike hK, hD⟩, hS.F ht⟩) hS.2.2 dX9_count_137
  by_cases j24 : v = 12
  · skip
    refine lv_tableIn (tgt := 138) hx hb dX9_count_1 (by rw [j24]; decide) (by rw [j24]; decide) (by rw [j24]; rfl) (by decide) ?_
    refine lv_aload_n hx hb dX9_count_138 rfl (lv_at hl 0 rfl) ?_
    refine va_get (D := D) (ci := 9) (v := .int (n 2)) (C := RX9) (T := TX9) (N := 19) hx hb hts iX9_count_9 hown hK hP 0 rfl rfl 15 (by decide) (hts (.fieldLink RX9 75 "FondsRoom" "bellTurn" "I") (by decide +kernel)) (fun _ h9 => h9) rfl dX9_count_139 ?_
    exact W.iret (v := (n 2)) hx hb hr (fun t ht hW => ⟨⟨(n 2), (), rfl, trivial, by rw [ht]; exact hP, va_K.moved hW.alike hK, hD⟩, hS.F ht⟩) hS.2.2 dX9_count_142
  by_cases j25 : v = 13
  · skip
    refine lv_tableIn (tgt := 143) hx hb dX9_count_1 (by rw [j25]; decide) (by rw [j25]; decide) (by rw [j25]; rfl) (by decide) ?_
    refine lv_aload_n hx hb dX9_count_143 rfl (lv_at hl 0 rfl) ?_
    refine va_get (D := D) (ci := 9) (v := .ref (x 14)) (C := RX9) (T := TX9) (N := 19) hx hb hts iX9_count_9 hown hK hP 0 rfl rfl 8 (by decide) (hts (.fieldLink RX9 60 "FondsRoom" "mishaps" "LFondsRoom$Mishaps;") (by decide +kernel)) (fun _ h9 => h9) rfl dX9_count_144 ?_
    refine va_get (D := D) (ci := 4) (v := .int (nI (N 8))) (C := RX4) (T := TX4) (N := 4) hx hb hts iX9_count_4 hown hK hP 14 rfl rfl 3 (by decide) (hts (.fieldLink RX9 190 "FondsRoom$Mishaps" "size" "I") (by decide +kernel)) (fun _ h9 => h9) rfl dX9_count_147 ?_
    exact W.iret (v := (nI (N 8))) hx hb hr (fun t ht hW => ⟨⟨(nI (N 8)), (), rfl, trivial, by rw [ht]; exact hP, va_K.moved hW.alike hK, hD⟩, hS.F ht⟩) hS.2.2 dX9_count_150
  by_cases j26 : v = 14
  · skip
    refine lv_tableIn (tgt := 151) hx hb dX9_count_1 (by rw [j26]; decide) (by rw [j26]; decide) (by rw [j26]; rfl) (by decide) ?_
    refine lv_aload_n hx hb dX9_count_151 rfl (lv_at hl 0 rfl) ?_
    refine va_get (D := D) (ci := 9) (v := .int (n 5)) (C := RX9) (T := TX9) (N := 19) hx hb hts iX9_count_9 hown hK hP 0 rfl rfl 18 (by decide) (hts (.fieldLink RX9 408 "FondsRoom" "urgentRow" "I") (by decide +kernel)) (fun _ h9 => h9) rfl dX9_count_152 ?_
    exact W.iret (v := (n 5)) hx hb hr (fun t ht hW => ⟨⟨(n 5), (), rfl, trivial, by rw [ht]; exact hP, va_K.moved hW.alike hK, hD⟩, hS.F ht⟩) hS.2.2 dX9_count_155
  have zj1 : (v).toInt ≠ 0 := fun h9 => j1 ((fa_eq _ _).mpr (h9.trans (by decide)))
  have zj2 : (v).toInt ≠ 1 := fun h9 => j2 ((fa_eq _ _).mpr (h9.trans (by decide)))
  have zj3 : (v).toInt ≠ 2 := fun h9 => j3 ((fa_eq _ _).mpr (h9.trans (by decide)))
  have zj4 : (v).toInt ≠ 3 := fun h9 => j4 ((fa_eq _ _).mpr (h9.trans (by decide)))
  have zj5 : (v).toInt ≠ 4 := fun h9 => j5 ((fa_eq _ _).mpr (h9.trans (by decide)))
  have zj6 : (v).toInt ≠ 5 := fun h9 => j6 ((fa_eq _ _).mpr (h9.trans (by decide)))
  have zj9 : (v).toInt ≠ 6 := fun h9 => j9 ((fa_eq _ _).mpr (h9.trans (by decide)))
  have zj13 : (v).toInt ≠ 7 := fun h9 => j13 ((fa_eq _ _).mpr (h9.trans (by decide)))
  have zj16 : (v).toInt ≠ 8 := fun h9 => j16 ((fa_eq _ _).mpr (h9.trans (by decide)))
  have zj19 : (v).toInt ≠ 9 := fun h9 => j19 ((fa_eq _ _).mpr (h9.trans (by decide)))
  have zj22 : (v).toInt ≠ 10 := fun h9 => j22 ((fa_eq _ _).mpr (h9.trans (by decide)))
  have zj23 : (v).toInt ≠ 11 := fun h9 => j23 ((fa_eq _ _).mpr (h9.trans (by decide)))
  have zj24 : (v).toInt ≠ 12 := fun h9 => j24 ((fa_eq _ _).mpr (h9.trans (by decide)))
  have zj25 : (v).toInt ≠ 13 := fun h9 => j25 ((fa_eq _ _).mpr (h9.trans (by decide)))
  have zj26 : (v).toInt ≠ 14 := fun h9 => j26 ((fa_eq _ _).mpr (h9.trans (by decide)))
  refine lv_tableOut (tgt := 156) hx hb dX9_count_1 (by omega) (by decide) ?_
  refine lv_iconst (v := (-1)) hx hb dX9_count_156 (by decide) ?_
  exact W.iret (v := (-1)) hx hb hr (fun t ht hW => ⟨⟨(-1), (), rfl, trivial, by rw [ht]; exact hP, va_K.moved hW.alike hK, hD⟩, hS.F ht⟩) hS.2.2 dX9_count_157

theorem iX2_hasEntry_2 : ∀ w ∈ wsX20, w ∈ wsX2_hasEntry := fun _ h => List.mem_cons_of_mem _ (List.mem_append_right _ h)
set_option maxHeartbeats 4000000 in
set_option maxRecDepth 100000 in
theorem zX2_hasEntry (l : Launch) (D : va_G) (x : Nat → Nat) (cy : Nat → ClassId) (g : Nat → Nat → Option Nat) (L : List Nat) (K : Nat → Nat) (hG : GO L K g) (N : Nat → Nat) (n : Nat → Int32) (a : Nat → Nat → Int32) (r : Nat → Nat → Option Nat) (f : Nat → va_E) (hC : CI L K cy N r f) (sz : Nat) (v wt : Int32) : Met l yX2_hasEntry wsX2_hasEntry ({ frames := 0, cells := 0, slots := 0, locals := 0 }) (PW D (TYS cy) (XW x cy g N n a r ++ va_pl L f) sz [.ref (x 18), .int v, .int wt]) (va_Qi (fun (res : Int32) (u : Unit) => b01 res ∧ (¬ res = 0 → (∃ j, j < N 9 ∧ v = nI j) ∧ ∃ k, k < 4 ∧ wt = nI k)) (BU D (TYS cy) (XW x cy g N n a r ++ va_pl L f) (fun _ => XW x cy g N n a r ++ va_pl L f) sz) (va_A (XW x cy g N n a r ++ va_pl L f) sz)) 0 0 (va_A (XW x cy g N n a r ++ va_pl L f) sz) := by
  refine Met.ofW (cc := cX2_hasEntry) (maxL := 3) (ret := (some .boolean)) (by decide) rfl ?_
  intro p e s m args below meth c s₁ B hml hv
  obtain ⟨rfl, hsz, hP, hK, hD0⟩ := hv
  have hx := B.exec
  have hb := B.bytes
  have hr := B.returns
  have hts := atoms_spec (ws := wsX2_hasEntry) B.pre
  have hown : s.vm.findClass RX2 = some m.cls := findClass_of_methodNamed B.named
  have hlocks := B.notSynchronized
  subst hsz
  obtain ⟨hNB, hRB, hHT⟩ := hC
  have hSM : SM N N n n := SM_rf
  have hMM : MM N N a a := MM_rf
  have hD := hD0.self (sz := s.heap.size)
  have hA : ∀ q9 : Nat, s.heap.size ≤ q9 → va_A (XW x cy g N n a r ++ va_pl L f) s.heap.size q9 := fun q9 h => Or.inr h
  have hS : va_S (va_A (XW x cy g N n a r ++ va_pl L f) s.heap.size) s.heap s.heap [] := va_S.rf
  have hl := lv_entry ([.ref (x 18), .int v, .int wt]) (n := 3) (Nat.le_of_ble_eq_true rfl)
  rw [lg_entry_eq]
  generalize (lg_sl ([.ref (x 18), .int v, .int wt]) ++ List.replicate (3 - (lg_sl ([.ref (x 18), .int v, .int wt])).length) Slot.unset).toArray = ls at hl ⊢
  have hl : lv_has ls 3 [(0, .ref (x 18)), (1, .int v), (2, .int wt)] := hl
  refine lv_iload_n hx hb dX2_hasEntry_0 rfl (lv_at hl 1 rfl) ?_
  refine lv_if_lt (tgt := 25) hx hb dX2_hasEntry_1 (by decide) (fun c1 => ?_) (fun c1 => ?_)
  · skip
    refine lv_iconst (v := 0) hx hb dX2_hasEntry_25 (by decide) ?_
    exact W.zret (v := 0) hx hb hr (rfl) (fun t ht hW => ⟨⟨0, (), rfl, ⟨Or.inl rfl, fun h9 => absurd rfl h9⟩, by rw [ht]; exact hP, va_K.moved hW.alike hK, hD⟩, hS.F ht⟩) hS.2.2 dX2_hasEntry_26
  · skip
    refine lv_iload_n hx hb dX2_hasEntry_4 rfl (lv_at hl 1 rfl) ?_
    refine lv_aload_n hx hb dX2_hasEntry_5 rfl (lv_at hl 0 rfl) ?_
    refine va_get (D := D) (ci := 2) (v := .int (nI (N 9))) (C := RX2) (T := TX2) (N := 2) hx hb hts iX2_hasEntry_2 hown hK hP 18 rfl rfl 1 (by decide) (hts (.fieldLink RX2 15 "FondsRoom$Events" "size" "I") (by decide +kernel)) (fun _ h9 => h9) rfl dX2_hasEntry_6 ?_
    refine lv_icmp_ge (tgt := 25) hx hb dX2_hasEntry_9 (by decide) (fun c2 => ?_) (fun c2 => ?_)
    · skip
      refine lv_iconst (v := 0) hx hb dX2_hasEntry_25 (by decide) ?_
      exact W.zret (v := 0) hx hb hr (rfl) (fun t ht hW => ⟨⟨0, (), rfl, ⟨Or.inl rfl, fun h9 => absurd rfl h9⟩, by rw [ht]; exact hP, va_K.moved hW.alike hK, hD⟩, hS.F ht⟩) hS.2.2 dX2_hasEntry_26
    · skip
      refine lv_iload_n hx hb dX2_hasEntry_12 rfl (lv_at hl 2 rfl) ?_
      refine lv_if_lt (tgt := 25) hx hb dX2_hasEntry_13 (by decide) (fun c3 => ?_) (fun c3 => ?_)
      · skip
        refine lv_iconst (v := 0) hx hb dX2_hasEntry_25 (by decide) ?_
        exact W.zret (v := 0) hx hb hr (rfl) (fun t ht hW => ⟨⟨0, (), rfl, ⟨Or.inl rfl, fun h9 => absurd rfl h9⟩, by rw [ht]; exact hP, va_K.moved hW.alike hK, hD⟩, hS.F ht⟩) hS.2.2 dX2_hasEntry_26
      · skip
        refine lv_iload_n hx hb dX2_hasEntry_16 rfl (lv_at hl 2 rfl) ?_
        refine lv_iconst (v := 4) hx hb dX2_hasEntry_17 (by decide) ?_
        refine lv_icmp_ge (tgt := 25) hx hb dX2_hasEntry_18 (by decide) (fun c4 => ?_) (fun c4 => ?_)
        · skip
          refine lv_iconst (v := 0) hx hb dX2_hasEntry_25 (by decide) ?_
          exact W.zret (v := 0) hx hb hr (rfl) (fun t ht hW => ⟨⟨0, (), rfl, ⟨Or.inl rfl, fun h9 => absurd rfl h9⟩, by rw [ht]; exact hP, va_K.moved hW.alike hK, hD⟩, hS.F ht⟩) hS.2.2 dX2_hasEntry_26
        · skip
          refine lv_iconst (v := 1) hx hb dX2_hasEntry_21 (by decide) ?_
          refine lv_goto (tgt := 26) hx hb dX2_hasEntry_22 (by decide) ?_
          exact W.zret (v := 1) hx hb hr (rfl) (fun t ht hW => ⟨⟨1, (), rfl, ⟨Or.inr rfl, fun _ => ⟨ix_of c1 c2 (by have := hNB 9 (by decide); have h8 : cap 9 ≤ 400 := (by decide); omega), ix_of (c := 4) c3 c4 (by decide)⟩⟩, by rw [ht]; exact hP, va_K.moved hW.alike hK, hD⟩, hS.F ht⟩) hS.2.2 dX2_hasEntry_26

theorem iX2_entry_2 : ∀ w ∈ wsX20, w ∈ wsX2_entry := fun _ h => List.mem_cons_of_mem _ (List.mem_append_right _ h)
set_option maxHeartbeats 4000000 in
set_option maxRecDepth 100000 in
theorem zX2_entry (l : Launch) (D : va_G) (x : Nat → Nat) (cy : Nat → ClassId) (g : Nat → Nat → Option Nat) (L : List Nat) (K : Nat → Nat) (hG : GO L K g) (N : Nat → Nat) (n : Nat → Int32) (a : Nat → Nat → Int32) (r : Nat → Nat → Option Nat) (f : Nat → va_E) (hC : CI L K cy N r f) (sz : Nat) (v wt : Int32) : Met l yX2_entry wsX2_entry ({ frames := 1, cells := 0, slots := 0, locals := 22 }) (PW D (TYS cy) (XW x cy g N n a r ++ va_pl L f) sz [.ref (x 18), .int v, .int wt]) (va_Qi (fun (res : Int32) (u : Unit) => True) (BU D (TYS cy) (XW x cy g N n a r ++ va_pl L f) (fun _ => XW x cy g N n a r ++ va_pl L f) sz) (va_A (XW x cy g N n a r ++ va_pl L f) sz)) 0 0 (va_A (XW x cy g N n a r ++ va_pl L f) sz) := by
  refine Met.ofW (cc := cX2_entry) (maxL := 3) (ret := (some .int)) (by decide) rfl ?_
  intro p e s m args below meth c s₁ B hml hv
  obtain ⟨rfl, hsz, hP, hK, hD0⟩ := hv
  have hx := B.exec
  have hb := B.bytes
  have hr := B.returns
  have hts := atoms_spec (ws := wsX2_entry) B.pre
  have hown : s.vm.findClass RX2 = some m.cls := findClass_of_methodNamed B.named
  have hlocks := B.notSynchronized
  subst hsz
  obtain ⟨hNB, hRB, hHT⟩ := hC
  have hSM : SM N N n n := SM_rf
  have hMM : MM N N a a := MM_rf
  have hD := hD0.self (sz := s.heap.size)
  have hA : ∀ q9 : Nat, s.heap.size ≤ q9 → va_A (XW x cy g N n a r ++ va_pl L f) s.heap.size q9 := fun q9 h => Or.inr h
  have hS : va_S (va_A (XW x cy g N n a r ++ va_pl L f) s.heap.size) s.heap s.heap [] := va_S.rf
  have hl := lv_entry ([.ref (x 18), .int v, .int wt]) (n := 3) (Nat.le_of_ble_eq_true rfl)
  rw [lg_entry_eq]
  generalize (lg_sl ([.ref (x 18), .int v, .int wt]) ++ List.replicate (3 - (lg_sl ([.ref (x 18), .int v, .int wt])).length) Slot.unset).toArray = ls at hl ⊢
  have hl : lv_has ls 3 [(0, .ref (x 18)), (1, .int v), (2, .int wt)] := hl
  refine lv_aload_n hx hb dX2_entry_0 rfl (lv_at hl 0 rfl) ?_
  refine lv_iload_n hx hb dX2_entry_1 rfl (lv_at hl 1 rfl) ?_
  refine lv_iload_n hx hb dX2_entry_2 rfl (lv_at hl 2 rfl) ?_
  refine gvI (As := [.int v, .int wt]) (rest := []) ⟨hx, hb, hml, hown, hts⟩ (zX2_hasEntry l D x cy g L K hG N n a r f ⟨hNB, hRB, hHT⟩ _  v wt ) (cwV 2 hts gX2_entry_X2_hasEntry rfl rfl rfl (by decide +kernel) ⟨Nat.le_of_ble_eq_true rfl, Nat.le_of_ble_eq_true rfl⟩) hK hP hD hS hA (va_recv hK hP (ci := 2) (q0 := 18) rfl rfl) rfl hl.1 rfl (Nat.le_of_ble_eq_true rfl) dX2_entry_3 ⟨Nat.le_of_ble_eq_true rfl, Nat.le_of_ble_eq_true rfl⟩ (fun q1 u2 H locs hq1 hP hD hS => ?_)
  have hP : va_P D vwCl (XW x cy g N n a r ++ va_pl L f) H := hP
  have hD : va_D _ (XW x cy g N n a r ++ va_pl L f) := hD
  refine lv_if_eq (tgt := 22) hx hb dX2_entry_6 (by decide) (fun c3 => ?_) (fun c3 => ?_)
  · skip
    refine lv_iconst (v := (-1)) hx hb dX2_entry_22 (by decide) ?_
    exact W.iret (v := (-1)) hx hb hr (fun t ht hW => ⟨⟨(-1), (), rfl, trivial, by rw [ht]; exact hP, va_K.moved hW.alike hK, hD⟩, hS.F ht⟩) hS.2.2 dX2_entry_23
  · skip
    have nb0 : N 0 ≤ 12 := hNB 0 (by decide)
    have nb1 : N 1 ≤ 40 := hNB 1 (by decide)
    have nb2 : N 2 ≤ 20 := hNB 2 (by decide)
    have nb3 : N 3 ≤ 4 := hNB 3 (by decide)
    have nb4 : N 4 ≤ 3 := hNB 4 (by decide)
    have nb5 : N 5 ≤ 20 := hNB 5 (by decide)
    have nb6 : N 6 ≤ 20 := hNB 6 (by decide)
    have nb7 : N 7 ≤ 20 := hNB 7 (by decide)
    have nb8 : N 8 ≤ 30 := hNB 8 (by decide)
    have nb9 : N 9 ≤ 400 := hNB 9 (by decide)
    obtain ⟨⟨je, hje, rfl⟩, ke, hke, rfl⟩ := hq1.2 c3
    refine lv_aload_n hx hb dX2_entry_9 rfl (lv_at hl 0 rfl) ?_
    refine va_get (D := D) (ci := 2) (v := .ref (x 19)) (C := RX2) (T := TX2) (N := 2) hx hb hts iX2_entry_2 hown hK hP 18 rfl rfl 0 (by decide) (hts (.fieldLink RX2 11 "FondsRoom$Events" "rows" "[I") (by decide +kernel)) (fun _ h9 => h9) rfl dX2_entry_10 ?_
    refine lv_iload_n hx hb dX2_entry_13 rfl (lv_at hl 1 rfl) ?_
    refine lv_iconst (v := 4) hx hb dX2_entry_14 (by decide) ?_
    refine lv_imul hx hb dX2_entry_15 ?_
    refine lv_tov (v' := .int (nI (je * 4))) (congrArg Value.int (pk_mul je 4)) ?_
    refine lv_iload_n hx hb dX2_entry_16 rfl (lv_at hl 2 rfl) ?_
    refine lv_iadd hx hb dX2_entry_17 ?_
    refine lv_tov (v' := .int (nI ((je * 4) + ke))) (congrArg Value.int (nI_add (je * 4) ke)) ?_
    refine va_iald hx hb hK hP 19 0 rfl rfl (vp_in_nI (by omega) (by omega)) dX2_entry_18 ?_
    refine lv_topi (fun y4 ey4 => ?_)
    rw [nI_clamp (by omega)] at ey4
    refine lv_goto (tgt := 23) hx hb dX2_entry_19 (by decide) ?_
    exact W.iret (v := y4) hx hb hr (fun t ht hW => ⟨⟨y4, (), rfl, trivial, by rw [ht]; exact hP, va_K.moved hW.alike hK, hD⟩, hS.F ht⟩) hS.2.2 dX2_entry_23
