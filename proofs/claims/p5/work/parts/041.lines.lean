theorem iX3_at_3 : ∀ w ∈ wsX30, w ∈ wsX3_at := fun _ h => List.mem_cons_of_mem _ (List.mem_append_right _ h)
set_option maxHeartbeats 4000000 in
set_option maxRecDepth 100000 in
theorem zX3_at_0 (l : Launch) (D : va_G) (x : Nat → Nat) (cy : Nat → ClassId) (g : Nat → Nat → Option Nat) (L : List Nat) (K : Nat → Nat) (hG : GO L K g) (N : Nat → Nat) (n : Nat → Int32) (a : Nat → Nat → Int32) (r : Nat → Nat → Option Nat) (f : Nat → va_E) (hC : CI L K cy N r f) (sz : Nat) (v : Int32) : Met l yX3_at wsX3_at ({ frames := 0, cells := 0, slots := 0, locals := 0 }) (PW D (TYS cy) (XW x cy g N n a r ++ va_pl L f) sz [.ref (x 8), .int v]) (va_Qq (fun (res : Option Nat) (u : Unit) => rok L K 6 res) (BU D (TYS cy) (XW x cy g N n a r ++ va_pl L f) (fun _ => XW x cy g N n a r ++ va_pl L f) sz) (va_A (XW x cy g N n a r ++ va_pl L f) sz)) 0 0 (va_A (XW x cy g N n a r ++ va_pl L f) sz) := by
  refine Met.ofW (cc := cX3_at) (maxL := 2) (ret := (some (.object "FondsRoom$Reader"))) (by decide) rfl ?_
  intro p e s m args below meth c s₁ B hml hv
  obtain ⟨rfl, hsz, hP, hK, hD0⟩ := hv
  have hx := B.exec
  have hb := B.bytes
  have hr := B.returns
  have hts := atoms_spec (ws := wsX3_at) B.pre
  have hown : s.vm.findClass RX3 = some m.cls := findClass_of_methodNamed B.named
  have hlocks := B.notSynchronized
  subst hsz
  obtain ⟨hNB, hRB, hHT⟩ := hC
  have hSM : SM N N n n := SM_rf
  have hMM : MM N N a a := MM_rf
  have hD := hD0.self (sz := s.heap.size)
  have hA : ∀ q9 : Nat, s.heap.size ≤ q9 → va_A (XW x cy g N n a r ++ va_pl L f) s.heap.size q9 := fun q9 h => Or.inr h
  have hS : va_S (va_A (XW x cy g N n a r ++ va_pl L f) s.heap.size) s.heap s.heap [] := va_S.rf
  have hl := lv_entry ([.ref (x 8), .int v]) (n := 2) (Nat.le_of_ble_eq_true rfl)
  rw [lg_entry_eq]
  generalize (lg_sl ([.ref (x 8), .int v]) ++ List.replicate (2 - (lg_sl ([.ref (x 8), .int v])).length) Slot.unset).toArray = ls at hl ⊢
  have hl : lv_has ls 2 [(0, .ref (x 8)), (1, .int v)] := hl
  refine lv_iload_n hx hb dX3_at_0 rfl (lv_at hl 1 rfl) ?_
  refine lv_if_lt (tgt := 21) hx hb dX3_at_1 (by decide) (fun c1 => ?_) (fun c1 => ?_)
  · skip
    refine lv_null hx hb dX3_at_21 ?_
    exact W.aret (v := .null) hx hb hr (Or.inl ⟨_, rfl⟩) (Or.inl rfl) (fun t ht hW => ⟨⟨none, (), rfl, rok_none, by rw [ht]; exact hP, va_K.moved hW.alike hK, hD⟩, hS.F ht⟩) hS.2.2 dX3_at_22
  · skip
    refine lv_iload_n hx hb dX3_at_4 rfl (lv_at hl 1 rfl) ?_
    refine lv_aload_n hx hb dX3_at_5 rfl (lv_at hl 0 rfl) ?_
    refine va_get (D := D) (ci := 3) (v := .int (nI (N 5))) (C := RX3) (T := TX3) (N := 2) hx hb hts iX3_at_3 hown hK hP 8 rfl rfl 1 (by decide) (hts (.fieldLink RX3 17 "FondsRoom$Line" "size" "I") (by decide +kernel)) (fun _ h9 => h9) rfl dX3_at_6 ?_
    refine lv_icmp_ge (tgt := 21) hx hb dX3_at_9 (by decide) (fun c2 => ?_) (fun c2 => ?_)
    · skip
      refine lv_null hx hb dX3_at_21 ?_
      exact W.aret (v := .null) hx hb hr (Or.inl ⟨_, rfl⟩) (Or.inl rfl) (fun t ht hW => ⟨⟨none, (), rfl, rok_none, by rw [ht]; exact hP, va_K.moved hW.alike hK, hD⟩, hS.F ht⟩) hS.2.2 dX3_at_22
    · skip
      have nb0 : N 0 ≤ 12 := hNB 0 (by decide)
      have nb1 : N 1 ≤ 40 := hNB 1 (by decide)
      have nb2 : N 2 ≤ 20 := hNB 2 (by decide)
      have nb3 : N 3 ≤ 4 := hNB 3 (by decide)
      have nb4 : N 4 ≤ 3 := hNB 4 (by decide)
      have nb5 : N 5 ≤ 20 := hNB 5 (by decide)
      have nb6 : N 6 ≤ 20 := hNB 6 (by decide)
      have nb7 : N 7 ≤ 20 := hNB 7 (by decide)
      have nb8 : N 8 ≤ 30 := hNB 8 (by decide)
      have nb9 : N 9 ≤ 400 := hNB 9 (by decide)
      obtain ⟨j3, hj3, rfl⟩ := ix_of c1 c2 (by omega)
      refine lv_aload_n hx hb dX3_at_12 rfl (lv_at hl 0 rfl) ?_
      refine va_get (D := D) (ci := 3) (v := .ref (x 9)) (C := RX3) (T := TX3) (N := 2) hx hb hts iX3_at_3 hown hK hP 8 rfl rfl 0 (by decide) (hts (.fieldLink RX3 11 "FondsRoom$Line" "places" "[LFondsRoom$Reader;") (by decide +kernel)) (fun _ h9 => h9) rfl dX3_at_13 ?_
      refine lv_iload_n hx hb dX3_at_16 rfl (lv_at hl 1 rfl) ?_
      refine va_aldq hx hb hK hP 9 4 rfl rfl (vp_in_nI (by omega) (by omega)) dX3_at_17 ?_
      obtain ⟨t4, et4⟩ : ∃ z, z = r 0 j3 := ⟨_, rfl⟩
      have ht4 : rok L K 6 t4 := by rw [et4]; exact (hRB 0 (by decide)).1 j3
      refine lv_tov (v' := va_rf t4) (by rw [nI_clamp (by omega)]; rw [et4]; first | rfl | done) ?_
      refine lv_goto (tgt := 22) hx hb dX3_at_18 (by decide) ?_
      exact W.aret (v := va_rf t4) hx hb hr (Or.inl ⟨_, rfl⟩) (va_rf_or _) (fun t ht hW => ⟨⟨t4, (), rfl, ht4, by rw [ht]; exact hP, va_K.moved hW.alike hK, hD⟩, hS.F ht⟩) hS.2.2 dX3_at_22

theorem iX3_append_3 : ∀ w ∈ wsX30, w ∈ wsX3_append := fun _ h => List.mem_cons_of_mem _ (List.mem_append_right _ h)
set_option maxHeartbeats 4000000 in
set_option maxRecDepth 100000 in
theorem zX3_append_0 (l : Launch) (D : va_G) (x : Nat → Nat) (cy : Nat → ClassId) (g : Nat → Nat → Option Nat) (L : List Nat) (K : Nat → Nat) (hG : GO L K g) (N : Nat → Nat) (n : Nat → Int32) (a : Nat → Nat → Int32) (r : Nat → Nat → Option Nat) (f : Nat → va_E) (hC : CI L K cy N r f) (sz : Nat) (rd : Nat) (mrd : rd ∈ L ∧ K rd = 6) : Met l yX3_append wsX3_append ({ frames := 0, cells := 0, slots := 0, locals := 0 }) (PW D (TYS cy) (XW x cy g N n a r ++ va_pl L f) sz [.ref (x 8), .ref rd]) (va_Qv (fun (u : ST) => CI L K cy u.1 u.2.2.2.1 u.2.2.2.2 ∧ SM N u.1 n u.2.1 ∧ MM N u.1 a u.2.2.1 ∧ True) (BU D (TYS cy) (XW x cy g N n a r ++ va_pl L f) (WC x cy g L) sz) (va_A (XW x cy g N n a r ++ va_pl L f) sz)) 0 0 (va_A (XW x cy g N n a r ++ va_pl L f) sz) := by
  refine Met.ofW (cc := cX3_append) (maxL := 2) (ret := none) (by decide) rfl ?_
  intro p e s m args below meth c s₁ B hml hv
  obtain ⟨rfl, hsz, hP, hK, hD0⟩ := hv
  have hx := B.exec
  have hb := B.bytes
  have hr := B.returns
  have hts := atoms_spec (ws := wsX3_append) B.pre
  have hown : s.vm.findClass RX3 = some m.cls := findClass_of_methodNamed B.named
  have hlocks := B.notSynchronized
  subst hsz
  obtain ⟨hNB, hRB, hHT⟩ := hC
  have hSM : SM N N n n := SM_rf
  have hMM : MM N N a a := MM_rf
  have hD := hD0.self (sz := s.heap.size)
  have hA : ∀ q9 : Nat, s.heap.size ≤ q9 → va_A (XW x cy g N n a r ++ va_pl L f) s.heap.size q9 := fun q9 h => Or.inr h
  have hS : va_S (va_A (XW x cy g N n a r ++ va_pl L f) s.heap.size) s.heap s.heap [] := va_S.rf
  have hl := lv_entry ([.ref (x 8), .ref rd]) (n := 2) (Nat.le_of_ble_eq_true rfl)
  rw [lg_entry_eq]
  generalize (lg_sl ([.ref (x 8), .ref rd]) ++ List.replicate (2 - (lg_sl ([.ref (x 8), .ref rd])).length) Slot.unset).toArray = ls at hl ⊢
  have hl : lv_has ls 2 [(0, .ref (x 8)), (1, .ref rd)] := hl
  refine lv_aload_n hx hb dX3_append_0 rfl (lv_at hl 0 rfl) ?_
  refine va_get (D := D) (ci := 3) (v := .int (nI (N 5))) (C := RX3) (T := TX3) (N := 2) hx hb hts iX3_append_3 hown hK hP 8 rfl rfl 1 (by decide) (hts (.fieldLink RX3 17 "FondsRoom$Line" "size" "I") (by decide +kernel)) (fun _ h9 => h9) rfl dX3_append_1 ?_
  refine lv_bipush (v := 20) hx hb dX3_append_4 (by decide) ?_
  refine lv_icmp_ge (tgt := 29) hx hb dX3_append_6 (by decide) (fun c1 => ?_) (fun c1 => ?_)
  · skip
    have nb0 : N 0 ≤ 12 := hNB 0 (by decide)
    have nb1 : N 1 ≤ 40 := hNB 1 (by decide)
    have nb2 : N 2 ≤ 20 := hNB 2 (by decide)
    have nb3 : N 3 ≤ 4 := hNB 3 (by decide)
    have nb4 : N 4 ≤ 3 := hNB 4 (by decide)
    have nb5 : N 5 ≤ 20 := hNB 5 (by decide)
    have nb6 : N 6 ≤ 20 := hNB 6 (by decide)
    have nb7 : N 7 ≤ 20 := hNB 7 (by decide)
    have nb8 : N 8 ≤ 30 := hNB 8 (by decide)
    have nb9 : N 9 ≤ 400 := hNB 9 (by decide)
    have dc1 : 20 ≤ (N 5) := (nI_leI (a := 20) (b := (N 5)) (by omega) (by omega)).mp c1
    exact W.vret hx hb hr (fun t ht hW => ⟨⟨(N, n, a, r, f), rfl, ⟨⟨hNB, hRB, hHT⟩, hSM, hMM, trivial⟩, by rw [ht]; exact hP, va_K.moved hW.alike hK, hD⟩, hS.F ht⟩) hS.2.2 dX3_append_29
  · skip
    have nb0 : N 0 ≤ 12 := hNB 0 (by decide)
    have nb1 : N 1 ≤ 40 := hNB 1 (by decide)
    have nb2 : N 2 ≤ 20 := hNB 2 (by decide)
    have nb3 : N 3 ≤ 4 := hNB 3 (by decide)
    have nb4 : N 4 ≤ 3 := hNB 4 (by decide)
    have nb5 : N 5 ≤ 20 := hNB 5 (by decide)
    have nb6 : N 6 ≤ 20 := hNB 6 (by decide)
    have nb7 : N 7 ≤ 20 := hNB 7 (by decide)
    have nb8 : N 8 ≤ 30 := hNB 8 (by decide)
    have nb9 : N 9 ≤ 400 := hNB 9 (by decide)
    have dc1 : (N 5) < 20 := Nat.not_le.mp (fun h9 => c1 ((nI_leI (a := 20) (b := (N 5)) (by omega) (by omega)).mpr h9))
    refine lv_aload_n hx hb dX3_append_9 rfl (lv_at hl 0 rfl) ?_
    refine va_get (D := D) (ci := 3) (v := .ref (x 9)) (C := RX3) (T := TX3) (N := 2) hx hb hts iX3_append_3 hown hK hP 8 rfl rfl 0 (by decide) (hts (.fieldLink RX3 11 "FondsRoom$Line" "places" "[LFondsRoom$Reader;") (by decide +kernel)) (fun _ h9 => h9) rfl dX3_append_10 ?_
    refine lv_aload_n hx hb dX3_append_13 rfl (lv_at hl 0 rfl) ?_
    refine va_get (D := D) (ci := 3) (v := .int (nI (N 5))) (C := RX3) (T := TX3) (N := 2) hx hb hts iX3_append_3 hown hK hP 8 rfl rfl 1 (by decide) (hts (.fieldLink RX3 17 "FondsRoom$Line" "size" "I") (by decide +kernel)) (fun _ h9 => h9) rfl dX3_append_14 ?_
    refine lv_aload_n hx hb dX3_append_17 rfl (lv_at hl 1 rfl) ?_
    obtain ⟨n_o2, p_o2, ar_o2, rk_o2, nw_o2, st_o2, ct_o2, d_o2, aw_o2, rl_o2, cp_o2, cu_o2, w1_o2, w2_o2, w3_o2, ov_o2, co_o2, hf_o2, sp_o2, snw_o2, sd_o2, saw_o2, scu_o2⟩ : TE L K cy 6 (f rd) := by rw [← mrd.2]; exact hHT rd mrd.1
    obtain ⟨q3, hq3⟩ := va_pl_get (X := XW x cy g N n a r) (f := f) mrd.1
    rw [hf_o2] at hq3
    refine va_astq hx hb hK hP hD hS 9 4 q3 6 rfl rfl hq3 rfl (vp_in_nI (by omega) (by omega)) dX3_append_18 (fun H locs hP hD hS => ?_)
    rw [nI_clamp (by omega)] at hP hD
    obtain ⟨r4, er4⟩ : ∃ z, z = va_up r 0 (va_up (r 0) (N 5) (some rd)) := ⟨_, rfl⟩
    have hP : va_P D vwCl (XW x cy g N n a r4 ++ va_pl L f) H := by rw [er4]; exact hP
    have hD : va_D (va_A (XW x cy g N n a r ++ va_pl L f) s.heap.size) (XW x cy g N n a r4 ++ va_pl L f) := by rw [er4]; exact hD
    have hRB : RB L K N r4 := by rw [er4]; exact RB_r hRB 0 (N 5) rd mrd.1 mrd.2
    refine lv_aload_n hx hb dX3_append_19 rfl (lv_at hl 0 rfl) ?_
    refine lv_dup hx hb dX3_append_20 rfl ?_
    refine va_get (D := D) (ci := 3) (v := .int (nI (N 5))) (C := RX3) (T := TX3) (N := 2) hx hb hts iX3_append_3 hown hK hP 8 rfl rfl 1 (by decide) (hts (.fieldLink RX3 17 "FondsRoom$Line" "size" "I") (by decide +kernel)) (fun _ h9 => h9) rfl dX3_append_21 ?_
    refine lv_iconst (v := 1) hx hb dX3_append_24 (by decide) ?_
    refine lv_iadd hx hb dX3_append_25 ?_
    refine lv_tov (v' := .int (nI ((N 5) + 1))) (congrArg Value.int (nI_add (N 5) 1)) ?_
    refine va_put (D := D) (ci := 3) (v := .int (nI ((N 5) + 1))) (ty := .int) (C := RX3) (T := TX3) (N := 2) hx hb hts iX3_append_3 tyX3 tyX3_ok nmX3 hown hK hP hD hS 8 rfl rfl 1 (by decide) (hts (.fieldLink RX3 17 "FondsRoom$Line" "size" "I") (by decide +kernel)) (fun _ h9 => h9) rfl (by decide +kernel) rfl rfl (Nat.le_of_ble_eq_true rfl) dX3_append_26 (fun H locs hP hD hS => ?_)
    obtain ⟨N5, eN5⟩ : ∃ z, z = va_up N 5 ((N 5) + 1) := ⟨_, rfl⟩
    have hP : va_P D vwCl (XW x cy g N5 n a r4 ++ va_pl L f) H := by rw [eN5]; exact hP
    have hD : va_D (va_A (XW x cy g N n a r ++ va_pl L f) s.heap.size) (XW x cy g N5 n a r4 ++ va_pl L f) := by rw [eN5]; exact hD
    have hNB : NB N5 := by rw [eN5]; exact NB_up hNB 5 ((N 5) + 1) (by show ((N 5) + 1) ≤ 20; omega)
    have hRB : RB L K N5 r4 := by rw [eN5]; exact RB_N hRB 5 ((N 5) + 1) (fun j hj e9 i hi => by
      obtain rfl : j = 0 := by omega
      by_cases ez : i = N 5
      · subst ez; rw [er4, va_up_self, va_up_self]; exact fun w9 => by cases w9
      · exact (hRB 0 (by decide)).2 i (by show i < N 5; omega))
    have hSM : SM N N5 n n := by rw [eN5]; exact SM_N hSM 5 ((N 5) + 1) (by decide)
    have hMM : MM N N5 a a := by rw [eN5]; exact MM_N hMM 5 ((N 5) + 1) (by decide)
    exact W.vret hx hb hr (fun t ht hW => ⟨⟨(N5, n, a, r4, f), rfl, ⟨⟨hNB, hRB, hHT⟩, hSM, hMM, trivial⟩, by rw [ht]; exact hP, va_K.moved hW.alike hK, hD⟩, hS.F ht⟩) hS.2.2 dX3_append_29

theorem iX3_remove_3 : ∀ w ∈ wsX30, w ∈ wsX3_remove := fun _ h => List.mem_cons_of_mem _ (List.mem_append_right _ h)
set_option maxHeartbeats 4000000 in
set_option maxRecDepth 100000 in
theorem zX3_remove_0 (l : Launch) (D : va_G) (x : Nat → Nat) (cy : Nat → ClassId) (g : Nat → Nat → Option Nat) (L : List Nat) (K : Nat → Nat) (hG : GO L K g) (N : Nat → Nat) (n : Nat → Int32) (a : Nat → Nat → Int32) (r : Nat → Nat → Option Nat) (f : Nat → va_E) (hC : CI L K cy N r f) (sz : Nat) (rd : Nat) (mrd : rd ∈ L ∧ K rd = 6) : Met l yX3_remove wsX3_remove ({ frames := 0, cells := 0, slots := 0, locals := 0 }) (PW D (TYS cy) (XW x cy g N n a r ++ va_pl L f) sz [.ref (x 8), .ref rd]) (va_Qv (fun (u : ST) => CI L K cy u.1 u.2.2.2.1 u.2.2.2.2 ∧ SM N u.1 n u.2.1 ∧ MM N u.1 a u.2.2.1 ∧ True) (BU D (TYS cy) (XW x cy g N n a r ++ va_pl L f) (WC x cy g L) sz) (va_A (XW x cy g N n a r ++ va_pl L f) sz)) 0 0 (va_A (XW x cy g N n a r ++ va_pl L f) sz) := by
  refine Met.ofW (cc := cX3_remove) (maxL := 4) (ret := none) (by decide) rfl ?_
  intro p e s m args below meth c s₁ B hml hv
  obtain ⟨rfl, hsz, hP, hK, hD0⟩ := hv
  have hx := B.exec
  have hb := B.bytes
  have hr := B.returns
  have hts := atoms_spec (ws := wsX3_remove) B.pre
  have hown : s.vm.findClass RX3 = some m.cls := findClass_of_methodNamed B.named
  have hlocks := B.notSynchronized
  subst hsz
  obtain ⟨hNB, hRB, hHT⟩ := hC
  have hSM : SM N N n n := SM_rf
  have hMM : MM N N a a := MM_rf
  have hD := hD0.self (sz := s.heap.size)
  have hA : ∀ q9 : Nat, s.heap.size ≤ q9 → va_A (XW x cy g N n a r ++ va_pl L f) s.heap.size q9 := fun q9 h => Or.inr h
  have hS : va_S (va_A (XW x cy g N n a r ++ va_pl L f) s.heap.size) s.heap s.heap [] := va_S.rf
  have hl := lv_entry ([.ref (x 8), .ref rd]) (n := 4) (Nat.le_of_ble_eq_true rfl)
  rw [lg_entry_eq]
  generalize (lg_sl ([.ref (x 8), .ref rd]) ++ List.replicate (4 - (lg_sl ([.ref (x 8), .ref rd])).length) Slot.unset).toArray = ls at hl ⊢
  have hl : lv_has ls 4 [(0, .ref (x 8)), (1, .ref rd)] := hl
  refine lv_iconst (v := 0) hx hb dX3_remove_0 (by decide) ?_
  refine lv_istore_n (lv' := [(2, .int 0), (0, .ref (x 8)), (1, .ref rd)]) hx hb dX3_remove_1 rfl hl (by decide) rfl (fun ls hl => ?_)
  refine lv_iconst (v := 0) hx hb dX3_remove_2 (by decide) ?_
  refine lv_istore_n (lv' := [(3, .int 0), (2, .int 0), (0, .ref (x 8)), (1, .ref rd)]) hx hb dX3_remove_3 rfl hl (by decide) rfl (fun ls hl => ?_)
  have key2 : ∀ (m9 j1 : Nat), 400 - j1 = m9 → j1 ≤ 400 → ∀ (N3 : Nat → Nat) (n4 : Nat → Int32) (a5 : Nat → Nat → Int32) (r6 : Nat → Nat → Option Nat) (f7 : Nat → va_E) (kq : Nat), kq ≤ j1 → j1 ≤ N3 5 → NB N3 → RB L K N3 r6 → HT L K cy f7 → SM N N3 n n4 → MM N N3 a a5 → ∀ (H : Heap) (locs : List Loc) (ls : Array Slot), va_P D vwCl (XW x cy g N3 n4 a5 r6 ++ va_pl L f7) H → va_D (va_A (XW x cy g N n a r ++ va_pl L f) s.heap.size) (XW x cy g N3 n4 a5 r6 ++ va_pl L f7) → va_S (va_A (XW x cy g N n a r ++ va_pl L f) s.heap.size) s.heap H locs → lv_has ls 4 [(3, .int (nI j1)), (2, .int (nI kq)), (0, .ref (x 8)), (1, .ref rd)] → W p l e (headSpec wsX3_remove ({ frames := 0, cells := 0, slots := 0, locals := 0 })).room s m #[.ref (x 8), .ref rd] below meth c H locs 0 0 (MQ below (va_Qv (fun (u : ST) => CI L K cy u.1 u.2.2.2.1 u.2.2.2.2 ∧ SM N u.1 n u.2.1 ∧ MM N u.1 a u.2.2.1 ∧ True) (BU D (TYS cy) (XW x cy g N n a r ++ va_pl L f) (WC x cy g L) s.heap.size) (va_A (XW x cy g N n a r ++ va_pl L f) s.heap.size)) #[.ref (x 8), .ref rd] s 0 0 (va_A (XW x cy g N n a r ++ va_pl L f) s.heap.size)) (F0 m 4 ls []) := by
    intro m9
    induction m9 using Nat.strongRecOn with
    | _ m9 ihkey2 =>
      intro j1 hm9 hj400 N3 n4 a5 r6 f7 kq hkq hjN hNB hRB hHT hSM hMM H locs ls hP hD hS hl
      subst hm9
      have nb0 : N3 0 ≤ 12 := hNB 0 (by decide)
      have nb1 : N3 1 ≤ 40 := hNB 1 (by decide)
      have nb2 : N3 2 ≤ 20 := hNB 2 (by decide)
      have nb3 : N3 3 ≤ 4 := hNB 3 (by decide)
      have nb4 : N3 4 ≤ 3 := hNB 4 (by decide)
      have nb5 : N3 5 ≤ 20 := hNB 5 (by decide)
      have nb6 : N3 6 ≤ 20 := hNB 6 (by decide)
      have nb7 : N3 7 ≤ 20 := hNB 7 (by decide)
      have nb8 : N3 8 ≤ 30 := hNB 8 (by decide)
      have nb9 : N3 9 ≤ 400 := hNB 9 (by decide)
      refine lv_iload_n hx hb dX3_remove_4 rfl (lv_at hl 0 rfl) ?_
      refine lv_aload_n hx hb dX3_remove_5 rfl (lv_at hl 2 rfl) ?_
      refine va_get (D := D) (ci := 3) (v := .int (nI (N3 5))) (C := RX3) (T := TX3) (N := 2) hx hb hts iX3_remove_3 hown hK hP 8 rfl rfl 1 (by decide) (hts (.fieldLink RX3 17 "FondsRoom$Line" "size" "I") (by decide +kernel)) (fun _ h9 => h9) rfl dX3_remove_6 ?_
      refine lv_icmp_ge (tgt := 43) hx hb dX3_remove_9 (by decide) (fun c8 => ?_) (fun c8 => ?_)
      · skip
        have dc8 : (N3 5) ≤ j1 := (nI_leI (a := (N3 5)) (b := j1) (by omega) (by omega)).mp c8
        refine lv_aload_n hx hb dX3_remove_43 rfl (lv_at hl 2 rfl) ?_
        refine lv_iload_n hx hb dX3_remove_44 rfl (lv_at hl 1 rfl) ?_
        refine va_put (D := D) (ci := 3) (v := .int (nI kq)) (ty := .int) (C := RX3) (T := TX3) (N := 2) hx hb hts iX3_remove_3 tyX3 tyX3_ok nmX3 hown hK hP hD hS 8 rfl rfl 1 (by decide) (hts (.fieldLink RX3 17 "FondsRoom$Line" "size" "I") (by decide +kernel)) (fun _ h9 => h9) rfl (by decide +kernel) rfl rfl (Nat.le_of_ble_eq_true rfl) dX3_remove_45 (fun H locs hP hD hS => ?_)
        obtain ⟨N9, eN9⟩ : ∃ z, z = va_up N3 5 kq := ⟨_, rfl⟩
        have hP : va_P D vwCl (XW x cy g N9 n4 a5 r6 ++ va_pl L f7) H := by rw [eN9]; exact hP
        have hD : va_D (va_A (XW x cy g N n a r ++ va_pl L f) s.heap.size) (XW x cy g N9 n4 a5 r6 ++ va_pl L f7) := by rw [eN9]; exact hD
        have hNB : NB N9 := by rw [eN9]; exact NB_up hNB 5 kq (by show kq ≤ 20; omega)
        have hRB : RB L K N9 r6 := by rw [eN9]; exact RB_N hRB 5 kq (fun j hj e9 i hi => by
      obtain rfl : j = 0 := by omega
      exact (hRB 0 (by decide)).2 i (by show i < N3 5; omega))
        have hSM : SM N N9 n n4 := by rw [eN9]; exact SM_N hSM 5 kq (by decide)
        have hMM : MM N N9 a a5 := by rw [eN9]; exact MM_N hMM 5 kq (by decide)
        exact W.vret hx hb hr (fun t ht hW => ⟨⟨(N9, n4, a5, r6, f7), rfl, ⟨⟨hNB, hRB, hHT⟩, hSM, hMM, trivial⟩, by rw [ht]; exact hP, va_K.moved hW.alike hK, hD⟩, hS.F ht⟩) hS.2.2 dX3_remove_48
      · skip
        have dc8 : j1 < (N3 5) := Nat.not_le.mp (fun h9 => c8 ((nI_leI (a := (N3 5)) (b := j1) (by omega) (by omega)).mpr h9))
        refine lv_aload_n hx hb dX3_remove_12 rfl (lv_at hl 2 rfl) ?_
        refine va_get (D := D) (ci := 3) (v := .ref (x 9)) (C := RX3) (T := TX3) (N := 2) hx hb hts iX3_remove_3 hown hK hP 8 rfl rfl 0 (by decide) (hts (.fieldLink RX3 11 "FondsRoom$Line" "places" "[LFondsRoom$Reader;") (by decide +kernel)) (fun _ h9 => h9) rfl dX3_remove_13 ?_
        refine lv_iload_n hx hb dX3_remove_16 rfl (lv_at hl 0 rfl) ?_
        refine va_aldq hx hb hK hP 9 4 rfl rfl (vp_in_nI (by omega) (by omega)) dX3_remove_17 ?_
        obtain ⟨p10, ep10⟩ : ∃ z, r6 0 j1 = some z := Option.ne_none_iff_exists'.mp ((hRB 0 (by decide)).2 (j1) (by show j1 < N3 5; omega))
        have mp10 := (hRB 0 (by decide)).1 (j1) p10 ep10
        refine lv_tov (v' := .ref p10) (by rw [nI_clamp (by omega)]; show va_rf (r6 0 (j1)) = _; rw [ep10]; rfl) ?_
        refine lv_aload_n hx hb dX3_remove_18 rfl (lv_at hl 3 rfl) ?_
        refine lv_acmp_eq (rx := (some p10)) (ry := (some rd)) (tgt := 37) hx hb dX3_remove_19 (by decide) (fun c11 => ?_) (fun c11 => ?_)
        · skip
          refine lv_iinc (v := nI (j1 + 1)) (lv' := [(3, .int (nI (j1 + 1))), (2, .int (nI kq)), (0, .ref (x 8)), (1, .ref rd)]) hx hb dX3_remove_37 hl (k := 0) rfl (by rw [← nI_1]; rfl) (by decide) rfl (fun ls hl => ?_)
          refine lv_goto (tgt := 4) hx hb dX3_remove_40 (by decide) ?_
          exact ihkey2 (400 - ((j1 + 1))) (by omega) ((j1 + 1)) rfl (by omega) N3 n4 a5 r6 f7 (kq) (by omega) (by omega) hNB hRB hHT hSM hMM _ _ _ hP hD hS (lv_sub hl [0, 1, 2, 3] rfl)
        · skip
          refine lv_aload_n hx hb dX3_remove_22 rfl (lv_at hl 2 rfl) ?_
          refine va_get (D := D) (ci := 3) (v := .ref (x 9)) (C := RX3) (T := TX3) (N := 2) hx hb hts iX3_remove_3 hown hK hP 8 rfl rfl 0 (by decide) (hts (.fieldLink RX3 11 "FondsRoom$Line" "places" "[LFondsRoom$Reader;") (by decide +kernel)) (fun _ h9 => h9) rfl dX3_remove_23 ?_
          refine lv_iload_n hx hb dX3_remove_26 rfl (lv_at hl 1 rfl) ?_
          refine lv_aload_n hx hb dX3_remove_27 rfl (lv_at hl 2 rfl) ?_
          refine va_get (D := D) (ci := 3) (v := .ref (x 9)) (C := RX3) (T := TX3) (N := 2) hx hb hts iX3_remove_3 hown hK hP 8 rfl rfl 0 (by decide) (hts (.fieldLink RX3 11 "FondsRoom$Line" "places" "[LFondsRoom$Reader;") (by decide +kernel)) (fun _ h9 => h9) rfl dX3_remove_28 ?_
          refine lv_iload_n hx hb dX3_remove_31 rfl (lv_at hl 0 rfl) ?_
          refine va_aldq hx hb hK hP 9 4 rfl rfl (vp_in_nI (by omega) (by omega)) dX3_remove_32 ?_
          obtain ⟨p12, ep12⟩ : ∃ z, r6 0 j1 = some z := Option.ne_none_iff_exists'.mp ((hRB 0 (by decide)).2 (j1) (by show j1 < N3 5; omega))
          have mp12 := (hRB 0 (by decide)).1 (j1) p12 ep12
          refine lv_tov (v' := .ref p12) (by rw [nI_clamp (by omega)]; show va_rf (r6 0 (j1)) = _; rw [ep12]; rfl) ?_
          obtain ⟨n_o13, p_o13, ar_o13, rk_o13, nw_o13, st_o13, ct_o13, d_o13, aw_o13, rl_o13, cp_o13, cu_o13, w1_o13, w2_o13, w3_o13, ov_o13, co_o13, hf_o13, sp_o13, snw_o13, sd_o13, saw_o13, scu_o13⟩ : TE L K cy 6 (f7 p12) := by rw [← mp12.2]; exact hHT p12 mp12.1
          obtain ⟨q14, hq14⟩ := va_pl_get (X := XW x cy g N3 n4 a5 r6) (f := f7) mp12.1
          rw [hf_o13] at hq14
          refine va_astq hx hb hK hP hD hS 9 4 q14 6 rfl rfl hq14 rfl (vp_in_nI (by omega) (by omega)) dX3_remove_33 (fun H locs hP hD hS => ?_)
          rw [nI_clamp (by omega)] at hP hD
          obtain ⟨r15, er15⟩ : ∃ z, z = va_up r6 0 (va_up (r6 0) kq (some p12)) := ⟨_, rfl⟩
          have hP : va_P D vwCl (XW x cy g N3 n4 a5 r15 ++ va_pl L f7) H := by rw [er15]; exact hP
          have hD : va_D (va_A (XW x cy g N n a r ++ va_pl L f) s.heap.size) (XW x cy g N3 n4 a5 r15 ++ va_pl L f7) := by rw [er15]; exact hD
          have hRB : RB L K N3 r15 := by rw [er15]; exact RB_r hRB 0 kq p12 mp12.1 mp12.2
          refine lv_iinc (v := nI (kq + 1)) (lv' := [(2, .int (nI (kq + 1))), (3, .int (nI j1)), (0, .ref (x 8)), (1, .ref rd)]) hx hb dX3_remove_34 hl (k := 1) rfl (by rw [← nI_1]; rfl) (by decide) rfl (fun ls hl => ?_)
          refine lv_iinc (v := nI (j1 + 1)) (lv' := [(3, .int (nI (j1 + 1))), (2, .int (nI (kq + 1))), (0, .ref (x 8)), (1, .ref rd)]) hx hb dX3_remove_37 hl (k := 1) rfl (by rw [← nI_1]; rfl) (by decide) rfl (fun ls hl => ?_)
          refine lv_goto (tgt := 4) hx hb dX3_remove_40 (by decide) ?_
          exact ihkey2 (400 - ((j1 + 1))) (by omega) ((j1 + 1)) rfl (by omega) N3 n4 a5 r15 f7 ((kq + 1)) (by omega) (by omega) hNB hRB hHT hSM hMM _ _ _ hP hD hS (lv_sub hl [0, 1, 2, 3] rfl)
  have nb0 : N 0 ≤ 12 := hNB 0 (by decide)
  have nb1 : N 1 ≤ 40 := hNB 1 (by decide)
  have nb2 : N 2 ≤ 20 := hNB 2 (by decide)
  have nb3 : N 3 ≤ 4 := hNB 3 (by decide)
  have nb4 : N 4 ≤ 3 := hNB 4 (by decide)
  have nb5 : N 5 ≤ 20 := hNB 5 (by decide)
  have nb6 : N 6 ≤ 20 := hNB 6 (by decide)
  have nb7 : N 7 ≤ 20 := hNB 7 (by decide)
  have nb8 : N 8 ≤ 30 := hNB 8 (by decide)
  have nb9 : N 9 ≤ 400 := hNB 9 (by decide)
  exact key2 (400 - (0)) (0) rfl (by omega) N n a r f 0 (by omega) (by omega) hNB hRB hHT hSM hMM _ _ _ hP hD hS (lv_sub hl [0, 1, 2, 3] rfl)

set_option maxHeartbeats 4000000 in
set_option maxRecDepth 100000 in
theorem zX3_at_1 (l : Launch) (D : va_G) (x : Nat → Nat) (cy : Nat → ClassId) (g : Nat → Nat → Option Nat) (L : List Nat) (K : Nat → Nat) (hG : GO L K g) (N : Nat → Nat) (n : Nat → Int32) (a : Nat → Nat → Int32) (r : Nat → Nat → Option Nat) (f : Nat → va_E) (hC : CI L K cy N r f) (sz : Nat) (v : Int32) : Met l yX3_at wsX3_at ({ frames := 0, cells := 0, slots := 0, locals := 0 }) (PW D (TYS cy) (XW x cy g N n a r ++ va_pl L f) sz [.ref (x 10), .int v]) (va_Qq (fun (res : Option Nat) (u : Unit) => rok L K 6 res) (BU D (TYS cy) (XW x cy g N n a r ++ va_pl L f) (fun _ => XW x cy g N n a r ++ va_pl L f) sz) (va_A (XW x cy g N n a r ++ va_pl L f) sz)) 0 0 (va_A (XW x cy g N n a r ++ va_pl L f) sz) := by
  refine Met.ofW (cc := cX3_at) (maxL := 2) (ret := (some (.object "FondsRoom$Reader"))) (by decide) rfl ?_
  intro p e s m args below meth c s₁ B hml hv
  obtain ⟨rfl, hsz, hP, hK, hD0⟩ := hv
  have hx := B.exec
  have hb := B.bytes
  have hr := B.returns
  have hts := atoms_spec (ws := wsX3_at) B.pre
  have hown : s.vm.findClass RX3 = some m.cls := findClass_of_methodNamed B.named
  have hlocks := B.notSynchronized
  subst hsz
  obtain ⟨hNB, hRB, hHT⟩ := hC
  have hSM : SM N N n n := SM_rf
  have hMM : MM N N a a := MM_rf
  have hD := hD0.self (sz := s.heap.size)
  have hA : ∀ q9 : Nat, s.heap.size ≤ q9 → va_A (XW x cy g N n a r ++ va_pl L f) s.heap.size q9 := fun q9 h => Or.inr h
  have hS : va_S (va_A (XW x cy g N n a r ++ va_pl L f) s.heap.size) s.heap s.heap [] := va_S.rf
  have hl := lv_entry ([.ref (x 10), .int v]) (n := 2) (Nat.le_of_ble_eq_true rfl)
  rw [lg_entry_eq]
  generalize (lg_sl ([.ref (x 10), .int v]) ++ List.replicate (2 - (lg_sl ([.ref (x 10), .int v])).length) Slot.unset).toArray = ls at hl ⊢
  have hl : lv_has ls 2 [(0, .ref (x 10)), (1, .int v)] := hl
  refine lv_iload_n hx hb dX3_at_0 rfl (lv_at hl 1 rfl) ?_
  refine lv_if_lt (tgt := 21) hx hb dX3_at_1 (by decide) (fun c1 => ?_) (fun c1 => ?_)
  · skip
    refine lv_null hx hb dX3_at_21 ?_
    exact W.aret (v := .null) hx hb hr (Or.inl ⟨_, rfl⟩) (Or.inl rfl) (fun t ht hW => ⟨⟨none, (), rfl, rok_none, by rw [ht]; exact hP, va_K.moved hW.alike hK, hD⟩, hS.F ht⟩) hS.2.2 dX3_at_22
  · skip
    refine lv_iload_n hx hb dX3_at_4 rfl (lv_at hl 1 rfl) ?_
    refine lv_aload_n hx hb dX3_at_5 rfl (lv_at hl 0 rfl) ?_
    refine va_get (D := D) (ci := 3) (v := .int (nI (N 6))) (C := RX3) (T := TX3) (N := 2) hx hb hts iX3_at_3 hown hK hP 10 rfl rfl 1 (by decide) (hts (.fieldLink RX3 17 "FondsRoom$Line" "size" "I") (by decide +kernel)) (fun _ h9 => h9) rfl dX3_at_6 ?_
    refine lv_icmp_ge (tgt := 21) hx hb dX3_at_9 (by decide) (fun c2 => ?_) (fun c2 => ?_)
    · skip
      refine lv_null hx hb dX3_at_21 ?_
      exact W.aret (v := .null) hx hb hr (Or.inl ⟨_, rfl⟩) (Or.inl rfl) (fun t ht hW => ⟨⟨none, (), rfl, rok_none, by rw [ht]; exact hP, va_K.moved hW.alike hK, hD⟩, hS.F ht⟩) hS.2.2 dX3_at_22
    · skip
      have nb0 : N 0 ≤ 12 := hNB 0 (by decide)
      have nb1 : N 1 ≤ 40 := hNB 1 (by decide)
      have nb2 : N 2 ≤ 20 := hNB 2 (by decide)
      have nb3 : N 3 ≤ 4 := hNB 3 (by decide)
      have nb4 : N 4 ≤ 3 := hNB 4 (by decide)
      have nb5 : N 5 ≤ 20 := hNB 5 (by decide)
      have nb6 : N 6 ≤ 20 := hNB 6 (by decide)
      have nb7 : N 7 ≤ 20 := hNB 7 (by decide)
      have nb8 : N 8 ≤ 30 := hNB 8 (by decide)
      have nb9 : N 9 ≤ 400 := hNB 9 (by decide)
      obtain ⟨j3, hj3, rfl⟩ := ix_of c1 c2 (by omega)
      refine lv_aload_n hx hb dX3_at_12 rfl (lv_at hl 0 rfl) ?_
      refine va_get (D := D) (ci := 3) (v := .ref (x 11)) (C := RX3) (T := TX3) (N := 2) hx hb hts iX3_at_3 hown hK hP 10 rfl rfl 0 (by decide) (hts (.fieldLink RX3 11 "FondsRoom$Line" "places" "[LFondsRoom$Reader;") (by decide +kernel)) (fun _ h9 => h9) rfl dX3_at_13 ?_
      refine lv_iload_n hx hb dX3_at_16 rfl (lv_at hl 1 rfl) ?_
      refine va_aldq hx hb hK hP 11 4 rfl rfl (vp_in_nI (by omega) (by omega)) dX3_at_17 ?_
      obtain ⟨t4, et4⟩ : ∃ z, z = r 1 j3 := ⟨_, rfl⟩
      have ht4 : rok L K 6 t4 := by rw [et4]; exact (hRB 1 (by decide)).1 j3
      refine lv_tov (v' := va_rf t4) (by rw [nI_clamp (by omega)]; rw [et4]; first | rfl | done) ?_
      refine lv_goto (tgt := 22) hx hb dX3_at_18 (by decide) ?_
      exact W.aret (v := va_rf t4) hx hb hr (Or.inl ⟨_, rfl⟩) (va_rf_or _) (fun t ht hW => ⟨⟨t4, (), rfl, ht4, by rw [ht]; exact hP, va_K.moved hW.alike hK, hD⟩, hS.F ht⟩) hS.2.2 dX3_at_22

set_option maxHeartbeats 4000000 in
set_option maxRecDepth 100000 in
theorem zX3_append_1 (l : Launch) (D : va_G) (x : Nat → Nat) (cy : Nat → ClassId) (g : Nat → Nat → Option Nat) (L : List Nat) (K : Nat → Nat) (hG : GO L K g) (N : Nat → Nat) (n : Nat → Int32) (a : Nat → Nat → Int32) (r : Nat → Nat → Option Nat) (f : Nat → va_E) (hC : CI L K cy N r f) (sz : Nat) (rd : Nat) (mrd : rd ∈ L ∧ K rd = 6) : Met l yX3_append wsX3_append ({ frames := 0, cells := 0, slots := 0, locals := 0 }) (PW D (TYS cy) (XW x cy g N n a r ++ va_pl L f) sz [.ref (x 10), .ref rd]) (va_Qv (fun (u : ST) => CI L K cy u.1 u.2.2.2.1 u.2.2.2.2 ∧ SM N u.1 n u.2.1 ∧ MM N u.1 a u.2.2.1 ∧ True) (BU D (TYS cy) (XW x cy g N n a r ++ va_pl L f) (WC x cy g L) sz) (va_A (XW x cy g N n a r ++ va_pl L f) sz)) 0 0 (va_A (XW x cy g N n a r ++ va_pl L f) sz) := by
  refine Met.ofW (cc := cX3_append) (maxL := 2) (ret := none) (by decide) rfl ?_
  intro p e s m args below meth c s₁ B hml hv
  obtain ⟨rfl, hsz, hP, hK, hD0⟩ := hv
  have hx := B.exec
  have hb := B.bytes
  have hr := B.returns
  have hts := atoms_spec (ws := wsX3_append) B.pre
  have hown : s.vm.findClass RX3 = some m.cls := findClass_of_methodNamed B.named
  have hlocks := B.notSynchronized
  subst hsz
  obtain ⟨hNB, hRB, hHT⟩ := hC
  have hSM : SM N N n n := SM_rf
  have hMM : MM N N a a := MM_rf
  have hD := hD0.self (sz := s.heap.size)
  have hA : ∀ q9 : Nat, s.heap.size ≤ q9 → va_A (XW x cy g N n a r ++ va_pl L f) s.heap.size q9 := fun q9 h => Or.inr h
  have hS : va_S (va_A (XW x cy g N n a r ++ va_pl L f) s.heap.size) s.heap s.heap [] := va_S.rf
  have hl := lv_entry ([.ref (x 10), .ref rd]) (n := 2) (Nat.le_of_ble_eq_true rfl)
  rw [lg_entry_eq]
  generalize (lg_sl ([.ref (x 10), .ref rd]) ++ List.replicate (2 - (lg_sl ([.ref (x 10), .ref rd])).length) Slot.unset).toArray = ls at hl ⊢
  have hl : lv_has ls 2 [(0, .ref (x 10)), (1, .ref rd)] := hl
  refine lv_aload_n hx hb dX3_append_0 rfl (lv_at hl 0 rfl) ?_
  refine va_get (D := D) (ci := 3) (v := .int (nI (N 6))) (C := RX3) (T := TX3) (N := 2) hx hb hts iX3_append_3 hown hK hP 10 rfl rfl 1 (by decide) (hts (.fieldLink RX3 17 "FondsRoom$Line" "size" "I") (by decide +kernel)) (fun _ h9 => h9) rfl dX3_append_1 ?_
  refine lv_bipush (v := 20) hx hb dX3_append_4 (by decide) ?_
  refine lv_icmp_ge (tgt := 29) hx hb dX3_append_6 (by decide) (fun c1 => ?_) (fun c1 => ?_)
  · skip
    have nb0 : N 0 ≤ 12 := hNB 0 (by decide)
    have nb1 : N 1 ≤ 40 := hNB 1 (by decide)
    have nb2 : N 2 ≤ 20 := hNB 2 (by decide)
    have nb3 : N 3 ≤ 4 := hNB 3 (by decide)
    have nb4 : N 4 ≤ 3 := hNB 4 (by decide)
    have nb5 : N 5 ≤ 20 := hNB 5 (by decide)
    have nb6 : N 6 ≤ 20 := hNB 6 (by decide)
    have nb7 : N 7 ≤ 20 := hNB 7 (by decide)
    have nb8 : N 8 ≤ 30 := hNB 8 (by decide)
    have nb9 : N 9 ≤ 400 := hNB 9 (by decide)
    have dc1 : 20 ≤ (N 6) := (nI_leI (a := 20) (b := (N 6)) (by omega) (by omega)).mp c1
    exact W.vret hx hb hr (fun t ht hW => ⟨⟨(N, n, a, r, f), rfl, ⟨⟨hNB, hRB, hHT⟩, hSM, hMM, trivial⟩, by rw [ht]; exact hP, va_K.moved hW.alike hK, hD⟩, hS.F ht⟩) hS.2.2 dX3_append_29
  · skip
    have nb0 : N 0 ≤ 12 := hNB 0 (by decide)
    have nb1 : N 1 ≤ 40 := hNB 1 (by decide)
    have nb2 : N 2 ≤ 20 := hNB 2 (by decide)
    have nb3 : N 3 ≤ 4 := hNB 3 (by decide)
    have nb4 : N 4 ≤ 3 := hNB 4 (by decide)
    have nb5 : N 5 ≤ 20 := hNB 5 (by decide)
    have nb6 : N 6 ≤ 20 := hNB 6 (by decide)
    have nb7 : N 7 ≤ 20 := hNB 7 (by decide)
    have nb8 : N 8 ≤ 30 := hNB 8 (by decide)
    have nb9 : N 9 ≤ 400 := hNB 9 (by decide)
    have dc1 : (N 6) < 20 := Nat.not_le.mp (fun h9 => c1 ((nI_leI (a := 20) (b := (N 6)) (by omega) (by omega)).mpr h9))
    refine lv_aload_n hx hb dX3_append_9 rfl (lv_at hl 0 rfl) ?_
    refine va_get (D := D) (ci := 3) (v := .ref (x 11)) (C := RX3) (T := TX3) (N := 2) hx hb hts iX3_append_3 hown hK hP 10 rfl rfl 0 (by decide) (hts (.fieldLink RX3 11 "FondsRoom$Line" "places" "[LFondsRoom$Reader;") (by decide +kernel)) (fun _ h9 => h9) rfl dX3_append_10 ?_
    refine lv_aload_n hx hb dX3_append_13 rfl (lv_at hl 0 rfl) ?_
    refine va_get (D := D) (ci := 3) (v := .int (nI (N 6))) (C := RX3) (T := TX3) (N := 2) hx hb hts iX3_append_3 hown hK hP 10 rfl rfl 1 (by decide) (hts (.fieldLink RX3 17 "FondsRoom$Line" "size" "I") (by decide +kernel)) (fun _ h9 => h9) rfl dX3_append_14 ?_
    refine lv_aload_n hx hb dX3_append_17 rfl (lv_at hl 1 rfl) ?_
    obtain ⟨n_o2, p_o2, ar_o2, rk_o2, nw_o2, st_o2, ct_o2, d_o2, aw_o2, rl_o2, cp_o2, cu_o2, w1_o2, w2_o2, w3_o2, ov_o2, co_o2, hf_o2, sp_o2, snw_o2, sd_o2, saw_o2, scu_o2⟩ : TE L K cy 6 (f rd) := by rw [← mrd.2]; exact hHT rd mrd.1
    obtain ⟨q3, hq3⟩ := va_pl_get (X := XW x cy g N n a r) (f := f) mrd.1
    rw [hf_o2] at hq3
    refine va_astq hx hb hK hP hD hS 11 4 q3 6 rfl rfl hq3 rfl (vp_in_nI (by omega) (by omega)) dX3_append_18 (fun H locs hP hD hS => ?_)
    rw [nI_clamp (by omega)] at hP hD
    obtain ⟨r4, er4⟩ : ∃ z, z = va_up r 1 (va_up (r 1) (N 6) (some rd)) := ⟨_, rfl⟩
    have hP : va_P D vwCl (XW x cy g N n a r4 ++ va_pl L f) H := by rw [er4]; exact hP
    have hD : va_D (va_A (XW x cy g N n a r ++ va_pl L f) s.heap.size) (XW x cy g N n a r4 ++ va_pl L f) := by rw [er4]; exact hD
    have hRB : RB L K N r4 := by rw [er4]; exact RB_r hRB 1 (N 6) rd mrd.1 mrd.2
    refine lv_aload_n hx hb dX3_append_19 rfl (lv_at hl 0 rfl) ?_
    refine lv_dup hx hb dX3_append_20 rfl ?_
    refine va_get (D := D) (ci := 3) (v := .int (nI (N 6))) (C := RX3) (T := TX3) (N := 2) hx hb hts iX3_append_3 hown hK hP 10 rfl rfl 1 (by decide) (hts (.fieldLink RX3 17 "FondsRoom$Line" "size" "I") (by decide +kernel)) (fun _ h9 => h9) rfl dX3_append_21 ?_
    refine lv_iconst (v := 1) hx hb dX3_append_24 (by decide) ?_
    refine lv_iadd hx hb dX3_append_25 ?_
    refine lv_tov (v' := .int (nI ((N 6) + 1))) (congrArg Value.int (nI_add (N 6) 1)) ?_
    refine va_put (D := D) (ci := 3) (v := .int (nI ((N 6) + 1))) (ty := .int) (C := RX3) (T := TX3) (N := 2) hx hb hts iX3_append_3 tyX3 tyX3_ok nmX3 hown hK hP hD hS 10 rfl rfl 1 (by decide) (hts (.fieldLink RX3 17 "FondsRoom$Line" "size" "I") (by decide +kernel)) (fun _ h9 => h9) rfl (by decide +kernel) rfl rfl (Nat.le_of_ble_eq_true rfl) dX3_append_26 (fun H locs hP hD hS => ?_)
    obtain ⟨N5, eN5⟩ : ∃ z, z = va_up N 6 ((N 6) + 1) := ⟨_, rfl⟩
    have hP : va_P D vwCl (XW x cy g N5 n a r4 ++ va_pl L f) H := by rw [eN5]; exact hP
    have hD : va_D (va_A (XW x cy g N n a r ++ va_pl L f) s.heap.size) (XW x cy g N5 n a r4 ++ va_pl L f) := by rw [eN5]; exact hD
    have hNB : NB N5 := by rw [eN5]; exact NB_up hNB 6 ((N 6) + 1) (by show ((N 6) + 1) ≤ 20; omega)
    have hRB : RB L K N5 r4 := by rw [eN5]; exact RB_N hRB 6 ((N 6) + 1) (fun j hj e9 i hi => by
      obtain rfl : j = 1 := by omega
      by_cases ez : i = N 6
      · subst ez; rw [er4, va_up_self, va_up_self]; exact fun w9 => by cases w9
      · exact (hRB 1 (by decide)).2 i (by show i < N 6; omega))
    have hSM : SM N N5 n n := by rw [eN5]; exact SM_N hSM 6 ((N 6) + 1) (by decide)
    have hMM : MM N N5 a a := by rw [eN5]; exact MM_N hMM 6 ((N 6) + 1) (by decide)
    exact W.vret hx hb hr (fun t ht hW => ⟨⟨(N5, n, a, r4, f), rfl, ⟨⟨hNB, hRB, hHT⟩, hSM, hMM, trivial⟩, by rw [ht]; exact hP, va_K.moved hW.alike hK, hD⟩, hS.F ht⟩) hS.2.2 dX3_append_29

set_option maxHeartbeats 4000000 in
set_option maxRecDepth 100000 in
theorem zX3_remove_1 (l : Launch) (D : va_G) (x : Nat → Nat) (cy : Nat → ClassId) (g : Nat → Nat → Option Nat) (L : List Nat) (K : Nat → Nat) (hG : GO L K g) (N : Nat → Nat) (n : Nat → Int32) (a : Nat → Nat → Int32) (r : Nat → Nat → Option Nat) (f : Nat → va_E) (hC : CI L K cy N r f) (sz : Nat) (rd : Nat) (mrd : rd ∈ L ∧ K rd = 6) : Met l yX3_remove wsX3_remove ({ frames := 0, cells := 0, slots := 0, locals := 0 }) (PW D (TYS cy) (XW x cy g N n a r ++ va_pl L f) sz [.ref (x 10), .ref rd]) (va_Qv (fun (u : ST) => CI L K cy u.1 u.2.2.2.1 u.2.2.2.2 ∧ SM N u.1 n u.2.1 ∧ MM N u.1 a u.2.2.1 ∧ True) (BU D (TYS cy) (XW x cy g N n a r ++ va_pl L f) (WC x cy g L) sz) (va_A (XW x cy g N n a r ++ va_pl L f) sz)) 0 0 (va_A (XW x cy g N n a r ++ va_pl L f) sz) := by
  refine Met.ofW (cc := cX3_remove) (maxL := 4) (ret := none) (by decide) rfl ?_
  intro p e s m args below meth c s₁ B hml hv
  obtain ⟨rfl, hsz, hP, hK, hD0⟩ := hv
  have hx := B.exec
  have hb := B.bytes
  have hr := B.returns
  have hts := atoms_spec (ws := wsX3_remove) B.pre
  have hown : s.vm.findClass RX3 = some m.cls := findClass_of_methodNamed B.named
  have hlocks := B.notSynchronized
  subst hsz
  obtain ⟨hNB, hRB, hHT⟩ := hC
  have hSM : SM N N n n := SM_rf
  have hMM : MM N N a a := MM_rf
  have hD := hD0.self (sz := s.heap.size)
  have hA : ∀ q9 : Nat, s.heap.size ≤ q9 → va_A (XW x cy g N n a r ++ va_pl L f) s.heap.size q9 := fun q9 h => Or.inr h
  have hS : va_S (va_A (XW x cy g N n a r ++ va_pl L f) s.heap.size) s.heap s.heap [] := va_S.rf
  have hl := lv_entry ([.ref (x 10), .ref rd]) (n := 4) (Nat.le_of_ble_eq_true rfl)
  rw [lg_entry_eq]
  generalize (lg_sl ([.ref (x 10), .ref rd]) ++ List.replicate (4 - (lg_sl ([.ref (x 10), .ref rd])).length) Slot.unset).toArray = ls at hl ⊢
  have hl : lv_has ls 4 [(0, .ref (x 10)), (1, .ref rd)] := hl
  refine lv_iconst (v := 0) hx hb dX3_remove_0 (by decide) ?_
  refine lv_istore_n (lv' := [(2, .int 0), (0, .ref (x 10)), (1, .ref rd)]) hx hb dX3_remove_1 rfl hl (by decide) rfl (fun ls hl => ?_)
  refine lv_iconst (v := 0) hx hb dX3_remove_2 (by decide) ?_
  refine lv_istore_n (lv' := [(3, .int 0), (2, .int 0), (0, .ref (x 10)), (1, .ref rd)]) hx hb dX3_remove_3 rfl hl (by decide) rfl (fun ls hl => ?_)
  have key2 : ∀ (m9 j1 : Nat), 400 - j1 = m9 → j1 ≤ 400 → ∀ (N3 : Nat → Nat) (n4 : Nat → Int32) (a5 : Nat → Nat → Int32) (r6 : Nat → Nat → Option Nat) (f7 : Nat → va_E) (kq : Nat), kq ≤ j1 → j1 ≤ N3 6 → NB N3 → RB L K N3 r6 → HT L K cy f7 → SM N N3 n n4 → MM N N3 a a5 → ∀ (H : Heap) (locs : List Loc) (ls : Array Slot), va_P D vwCl (XW x cy g N3 n4 a5 r6 ++ va_pl L f7) H → va_D (va_A (XW x cy g N n a r ++ va_pl L f) s.heap.size) (XW x cy g N3 n4 a5 r6 ++ va_pl L f7) → va_S (va_A (XW x cy g N n a r ++ va_pl L f) s.heap.size) s.heap H locs → lv_has ls 4 [(3, .int (nI j1)), (2, .int (nI kq)), (0, .ref (x 10)), (1, .ref rd)] → W p l e (headSpec wsX3_remove ({ frames := 0, cells := 0, slots := 0, locals := 0 })).room s m #[.ref (x 10), .ref rd] below meth c H locs 0 0 (MQ below (va_Qv (fun (u : ST) => CI L K cy u.1 u.2.2.2.1 u.2.2.2.2 ∧ SM N u.1 n u.2.1 ∧ MM N u.1 a u.2.2.1 ∧ True) (BU D (TYS cy) (XW x cy g N n a r ++ va_pl L f) (WC x cy g L) s.heap.size) (va_A (XW x cy g N n a r ++ va_pl L f) s.heap.size)) #[.ref (x 10), .ref rd] s 0 0 (va_A (XW x cy g N n a r ++ va_pl L f) s.heap.size)) (F0 m 4 ls []) := by
    intro m9
    induction m9 using Nat.strongRecOn with
    | _ m9 ihkey2 =>
      intro j1 hm9 hj400 N3 n4 a5 r6 f7 kq hkq hjN hNB hRB hHT hSM hMM H locs ls hP hD hS hl
      subst hm9
      have nb0 : N3 0 ≤ 12 := hNB 0 (by decide)
      have nb1 : N3 1 ≤ 40 := hNB 1 (by decide)
      have nb2 : N3 2 ≤ 20 := hNB 2 (by decide)
      have nb3 : N3 3 ≤ 4 := hNB 3 (by decide)
      have nb4 : N3 4 ≤ 3 := hNB 4 (by decide)
      have nb5 : N3 5 ≤ 20 := hNB 5 (by decide)
      have nb6 : N3 6 ≤ 20 := hNB 6 (by decide)
      have nb7 : N3 7 ≤ 20 := hNB 7 (by decide)
      have nb8 : N3 8 ≤ 30 := hNB 8 (by decide)
      have nb9 : N3 9 ≤ 400 := hNB 9 (by decide)
      refine lv_iload_n hx hb dX3_remove_4 rfl (lv_at hl 0 rfl) ?_
      refine lv_aload_n hx hb dX3_remove_5 rfl (lv_at hl 2 rfl) ?_
      refine va_get (D := D) (ci := 3) (v := .int (nI (N3 6))) (C := RX3) (T := TX3) (N := 2) hx hb hts iX3_remove_3 hown hK hP 10 rfl rfl 1 (by decide) (hts (.fieldLink RX3 17 "FondsRoom$Line" "size" "I") (by decide +kernel)) (fun _ h9 => h9) rfl dX3_remove_6 ?_
      refine lv_icmp_ge (tgt := 43) hx hb dX3_remove_9 (by decide) (fun c8 => ?_) (fun c8 => ?_)
      · skip
        have dc8 : (N3 6) ≤ j1 := (nI_leI (a := (N3 6)) (b := j1) (by omega) (by omega)).mp c8
        refine lv_aload_n hx hb dX3_remove_43 rfl (lv_at hl 2 rfl) ?_
        refine lv_iload_n hx hb dX3_remove_44 rfl (lv_at hl 1 rfl) ?_
        refine va_put (D := D) (ci := 3) (v := .int (nI kq)) (ty := .int) (C := RX3) (T := TX3) (N := 2) hx hb hts iX3_remove_3 tyX3 tyX3_ok nmX3 hown hK hP hD hS 10 rfl rfl 1 (by decide) (hts (.fieldLink RX3 17 "FondsRoom$Line" "size" "I") (by decide +kernel)) (fun _ h9 => h9) rfl (by decide +kernel) rfl rfl (Nat.le_of_ble_eq_true rfl) dX3_remove_45 (fun H locs hP hD hS => ?_)
        obtain ⟨N9, eN9⟩ : ∃ z, z = va_up N3 6 kq := ⟨_, rfl⟩
        have hP : va_P D vwCl (XW x cy g N9 n4 a5 r6 ++ va_pl L f7) H := by rw [eN9]; exact hP
        have hD : va_D (va_A (XW x cy g N n a r ++ va_pl L f) s.heap.size) (XW x cy g N9 n4 a5 r6 ++ va_pl L f7) := by rw [eN9]; exact hD
        have hNB : NB N9 := by rw [eN9]; exact NB_up hNB 6 kq (by show kq ≤ 20; omega)
        have hRB : RB L K N9 r6 := by rw [eN9]; exact RB_N hRB 6 kq (fun j hj e9 i hi => by
      obtain rfl : j = 1 := by omega
      exact (hRB 1 (by decide)).2 i (by show i < N3 6; omega))
        have hSM : SM N N9 n n4 := by rw [eN9]; exact SM_N hSM 6 kq (by decide)
        have hMM : MM N N9 a a5 := by rw [eN9]; exact MM_N hMM 6 kq (by decide)
        exact W.vret hx hb hr (fun t ht hW => ⟨⟨(N9, n4, a5, r6, f7), rfl, ⟨⟨hNB, hRB, hHT⟩, hSM, hMM, trivial⟩, by rw [ht]; exact hP, va_K.moved hW.alike hK, hD⟩, hS.F ht⟩) hS.2.2 dX3_remove_48
      · skip
        have dc8 : j1 < (N3 6) := Nat.not_le.mp (fun h9 => c8 ((nI_leI (a := (N3 6)) (b := j1) (by omega) (by omega)).mpr h9))
        refine lv_aload_n hx hb dX3_remove_12 rfl (lv_at hl 2 rfl) ?_
        refine va_get (D := D) (ci := 3) (v := .ref (x 11)) (C := RX3) (T := TX3) (N := 2) hx hb hts iX3_remove_3 hown hK hP 10 rfl rfl 0 (by decide) (hts (.fieldLink RX3 11 "FondsRoom$Line" "places" "[LFondsRoom$Reader;") (by decide +kernel)) (fun _ h9 => h9) rfl dX3_remove_13 ?_
        refine lv_iload_n hx hb dX3_remove_16 rfl (lv_at hl 0 rfl) ?_
        refine va_aldq hx hb hK hP 11 4 rfl rfl (vp_in_nI (by omega) (by omega)) dX3_remove_17 ?_
        obtain ⟨p10, ep10⟩ : ∃ z, r6 1 j1 = some z := Option.ne_none_iff_exists'.mp ((hRB 1 (by decide)).2 (j1) (by show j1 < N3 6; omega))
        have mp10 := (hRB 1 (by decide)).1 (j1) p10 ep10
        refine lv_tov (v' := .ref p10) (by rw [nI_clamp (by omega)]; show va_rf (r6 1 (j1)) = _; rw [ep10]; rfl) ?_
        refine lv_aload_n hx hb dX3_remove_18 rfl (lv_at hl 3 rfl) ?_
        refine lv_acmp_eq (rx := (some p10)) (ry := (some rd)) (tgt := 37) hx hb dX3_remove_19 (by decide) (fun c11 => ?_) (fun c11 => ?_)
        · skip
          refine lv_iinc (v := nI (j1 + 1)) (lv' := [(3, .int (nI (j1 + 1))), (2, .int (nI kq)), (0, .ref (x 10)), (1, .ref rd)]) hx hb dX3_remove_37 hl (k := 0) rfl (by rw [← nI_1]; rfl) (by decide) rfl (fun ls hl => ?_)
          refine lv_goto (tgt := 4) hx hb dX3_remove_40 (by decide) ?_
          exact ihkey2 (400 - ((j1 + 1))) (by omega) ((j1 + 1)) rfl (by omega) N3 n4 a5 r6 f7 (kq) (by omega) (by omega) hNB hRB hHT hSM hMM _ _ _ hP hD hS (lv_sub hl [0, 1, 2, 3] rfl)
        · skip
          refine lv_aload_n hx hb dX3_remove_22 rfl (lv_at hl 2 rfl) ?_
          refine va_get (D := D) (ci := 3) (v := .ref (x 11)) (C := RX3) (T := TX3) (N := 2) hx hb hts iX3_remove_3 hown hK hP 10 rfl rfl 0 (by decide) (hts (.fieldLink RX3 11 "FondsRoom$Line" "places" "[LFondsRoom$Reader;") (by decide +kernel)) (fun _ h9 => h9) rfl dX3_remove_23 ?_
          refine lv_iload_n hx hb dX3_remove_26 rfl (lv_at hl 1 rfl) ?_
          refine lv_aload_n hx hb dX3_remove_27 rfl (lv_at hl 2 rfl) ?_
          refine va_get (D := D) (ci := 3) (v := .ref (x 11)) (C := RX3) (T := TX3) (N := 2) hx hb hts iX3_remove_3 hown hK hP 10 rfl rfl 0 (by decide) (hts (.fieldLink RX3 11 "FondsRoom$Line" "places" "[LFondsRoom$Reader;") (by decide +kernel)) (fun _ h9 => h9) rfl dX3_remove_28 ?_
          refine lv_iload_n hx hb dX3_remove_31 rfl (lv_at hl 0 rfl) ?_
          refine va_aldq hx hb hK hP 11 4 rfl rfl (vp_in_nI (by omega) (by omega)) dX3_remove_32 ?_
          obtain ⟨p12, ep12⟩ : ∃ z, r6 1 j1 = some z := Option.ne_none_iff_exists'.mp ((hRB 1 (by decide)).2 (j1) (by show j1 < N3 6; omega))
          have mp12 := (hRB 1 (by decide)).1 (j1) p12 ep12
          refine lv_tov (v' := .ref p12) (by rw [nI_clamp (by omega)]; show va_rf (r6 1 (j1)) = _; rw [ep12]; rfl) ?_
          obtain ⟨n_o13, p_o13, ar_o13, rk_o13, nw_o13, st_o13, ct_o13, d_o13, aw_o13, rl_o13, cp_o13, cu_o13, w1_o13, w2_o13, w3_o13, ov_o13, co_o13, hf_o13, sp_o13, snw_o13, sd_o13, saw_o13, scu_o13⟩ : TE L K cy 6 (f7 p12) := by rw [← mp12.2]; exact hHT p12 mp12.1
          obtain ⟨q14, hq14⟩ := va_pl_get (X := XW x cy g N3 n4 a5 r6) (f := f7) mp12.1
          rw [hf_o13] at hq14
          refine va_astq hx hb hK hP hD hS 11 4 q14 6 rfl rfl hq14 rfl (vp_in_nI (by omega) (by omega)) dX3_remove_33 (fun H locs hP hD hS => ?_)
          rw [nI_clamp (by omega)] at hP hD
          obtain ⟨r15, er15⟩ : ∃ z, z = va_up r6 1 (va_up (r6 1) kq (some p12)) := ⟨_, rfl⟩
          have hP : va_P D vwCl (XW x cy g N3 n4 a5 r15 ++ va_pl L f7) H := by rw [er15]; exact hP
          have hD : va_D (va_A (XW x cy g N n a r ++ va_pl L f) s.heap.size) (XW x cy g N3 n4 a5 r15 ++ va_pl L f7) := by rw [er15]; exact hD
          have hRB : RB L K N3 r15 := by rw [er15]; exact RB_r hRB 1 kq p12 mp12.1 mp12.2
          refine lv_iinc (v := nI (kq + 1)) (lv' := [(2, .int (nI (kq + 1))), (3, .int (nI j1)), (0, .ref (x 10)), (1, .ref rd)]) hx hb dX3_remove_34 hl (k := 1) rfl (by rw [← nI_1]; rfl) (by decide) rfl (fun ls hl => ?_)
          refine lv_iinc (v := nI (j1 + 1)) (lv' := [(3, .int (nI (j1 + 1))), (2, .int (nI (kq + 1))), (0, .ref (x 10)), (1, .ref rd)]) hx hb dX3_remove_37 hl (k := 1) rfl (by rw [← nI_1]; rfl) (by decide) rfl (fun ls hl => ?_)
          refine lv_goto (tgt := 4) hx hb dX3_remove_40 (by decide) ?_
          exact ihkey2 (400 - ((j1 + 1))) (by omega) ((j1 + 1)) rfl (by omega) N3 n4 a5 r15 f7 ((kq + 1)) (by omega) (by omega) hNB hRB hHT hSM hMM _ _ _ hP hD hS (lv_sub hl [0, 1, 2, 3] rfl)
  have nb0 : N 0 ≤ 12 := hNB 0 (by decide)
  have nb1 : N 1 ≤ 40 := hNB 1 (by decide)
  have nb2 : N 2 ≤ 20 := hNB 2 (by decide)
  have nb3 : N 3 ≤ 4 := hNB 3 (by decide)
  have nb4 : N 4 ≤ 3 := hNB 4 (by decide)
  have nb5 : N 5 ≤ 20 := hNB 5 (by decide)
  have nb6 : N 6 ≤ 20 := hNB 6 (by decide)
  have nb7 : N 7 ≤ 20 := hNB 7 (by decide)
  have nb8 : N 8 ≤ 30 := hNB 8 (by decide)
  have nb9 : N 9 ≤ 400 := hNB 9 (by decide)
  exact key2 (400 - (0)) (0) rfl (by omega) N n a r f 0 (by omega) (by omega) hNB hRB hHT hSM hMM _ _ _ hP hD hS (lv_sub hl [0, 1, 2, 3] rfl)

set_option maxHeartbeats 4000000 in
set_option maxRecDepth 100000 in
theorem zX3_at_2 (l : Launch) (D : va_G) (x : Nat → Nat) (cy : Nat → ClassId) (g : Nat → Nat → Option Nat) (L : List Nat) (K : Nat → Nat) (hG : GO L K g) (N : Nat → Nat) (n : Nat → Int32) (a : Nat → Nat → Int32) (r : Nat → Nat → Option Nat) (f : Nat → va_E) (hC : CI L K cy N r f) (sz : Nat) (v : Int32) : Met l yX3_at wsX3_at ({ frames := 0, cells := 0, slots := 0, locals := 0 }) (PW D (TYS cy) (XW x cy g N n a r ++ va_pl L f) sz [.ref (x 12), .int v]) (va_Qq (fun (res : Option Nat) (u : Unit) => rok L K 6 res) (BU D (TYS cy) (XW x cy g N n a r ++ va_pl L f) (fun _ => XW x cy g N n a r ++ va_pl L f) sz) (va_A (XW x cy g N n a r ++ va_pl L f) sz)) 0 0 (va_A (XW x cy g N n a r ++ va_pl L f) sz) := by
  refine Met.ofW (cc := cX3_at) (maxL := 2) (ret := (some (.object "FondsRoom$Reader"))) (by decide) rfl ?_
  intro p e s m args below meth c s₁ B hml hv
  obtain ⟨rfl, hsz, hP, hK, hD0⟩ := hv
  have hx := B.exec
  have hb := B.bytes
  have hr := B.returns
  have hts := atoms_spec (ws := wsX3_at) B.pre
  have hown : s.vm.findClass RX3 = some m.cls := findClass_of_methodNamed B.named
  have hlocks := B.notSynchronized
  subst hsz
  obtain ⟨hNB, hRB, hHT⟩ := hC
  have hSM : SM N N n n := SM_rf
  have hMM : MM N N a a := MM_rf
  have hD := hD0.self (sz := s.heap.size)
  have hA : ∀ q9 : Nat, s.heap.size ≤ q9 → va_A (XW x cy g N n a r ++ va_pl L f) s.heap.size q9 := fun q9 h => Or.inr h
  have hS : va_S (va_A (XW x cy g N n a r ++ va_pl L f) s.heap.size) s.heap s.heap [] := va_S.rf
  have hl := lv_entry ([.ref (x 12), .int v]) (n := 2) (Nat.le_of_ble_eq_true rfl)
  rw [lg_entry_eq]
  generalize (lg_sl ([.ref (x 12), .int v]) ++ List.replicate (2 - (lg_sl ([.ref (x 12), .int v])).length) Slot.unset).toArray = ls at hl ⊢
  have hl : lv_has ls 2 [(0, .ref (x 12)), (1, .int v)] := hl
  refine lv_iload_n hx hb dX3_at_0 rfl (lv_at hl 1 rfl) ?_
  refine lv_if_lt (tgt := 21) hx hb dX3_at_1 (by decide) (fun c1 => ?_) (fun c1 => ?_)
  · skip
    refine lv_null hx hb dX3_at_21 ?_
    exact W.aret (v := .null) hx hb hr (Or.inl ⟨_, rfl⟩) (Or.inl rfl) (fun t ht hW => ⟨⟨none, (), rfl, rok_none, by rw [ht]; exact hP, va_K.moved hW.alike hK, hD⟩, hS.F ht⟩) hS.2.2 dX3_at_22
  · skip
    refine lv_iload_n hx hb dX3_at_4 rfl (lv_at hl 1 rfl) ?_
    refine lv_aload_n hx hb dX3_at_5 rfl (lv_at hl 0 rfl) ?_
    refine va_get (D := D) (ci := 3) (v := .int (nI (N 7))) (C := RX3) (T := TX3) (N := 2) hx hb hts iX3_at_3 hown hK hP 12 rfl rfl 1 (by decide) (hts (.fieldLink RX3 17 "FondsRoom$Line" "size" "I") (by decide +kernel)) (fun _ h9 => h9) rfl dX3_at_6 ?_
    refine lv_icmp_ge (tgt := 21) hx hb dX3_at_9 (by decide) (fun c2 => ?_) (fun c2 => ?_)
    · skip
      refine lv_null hx hb dX3_at_21 ?_
      exact W.aret (v := .null) hx hb hr (Or.inl ⟨_, rfl⟩) (Or.inl rfl) (fun t ht hW => ⟨⟨none, (), rfl, rok_none, by rw [ht]; exact hP, va_K.moved hW.alike hK, hD⟩, hS.F ht⟩) hS.2.2 dX3_at_22
    · skip
      have nb0 : N 0 ≤ 12 := hNB 0 (by decide)
      have nb1 : N 1 ≤ 40 := hNB 1 (by decide)
      have nb2 : N 2 ≤ 20 := hNB 2 (by decide)
      have nb3 : N 3 ≤ 4 := hNB 3 (by decide)
      have nb4 : N 4 ≤ 3 := hNB 4 (by decide)
      have nb5 : N 5 ≤ 20 := hNB 5 (by decide)
      have nb6 : N 6 ≤ 20 := hNB 6 (by decide)
      have nb7 : N 7 ≤ 20 := hNB 7 (by decide)
      have nb8 : N 8 ≤ 30 := hNB 8 (by decide)
      have nb9 : N 9 ≤ 400 := hNB 9 (by decide)
      obtain ⟨j3, hj3, rfl⟩ := ix_of c1 c2 (by omega)
      refine lv_aload_n hx hb dX3_at_12 rfl (lv_at hl 0 rfl) ?_
      refine va_get (D := D) (ci := 3) (v := .ref (x 13)) (C := RX3) (T := TX3) (N := 2) hx hb hts iX3_at_3 hown hK hP 12 rfl rfl 0 (by decide) (hts (.fieldLink RX3 11 "FondsRoom$Line" "places" "[LFondsRoom$Reader;") (by decide +kernel)) (fun _ h9 => h9) rfl dX3_at_13 ?_
      refine lv_iload_n hx hb dX3_at_16 rfl (lv_at hl 1 rfl) ?_
      refine va_aldq hx hb hK hP 13 4 rfl rfl (vp_in_nI (by omega) (by omega)) dX3_at_17 ?_
      obtain ⟨t4, et4⟩ : ∃ z, z = r 2 j3 := ⟨_, rfl⟩
      have ht4 : rok L K 6 t4 := by rw [et4]; exact (hRB 2 (by decide)).1 j3
      refine lv_tov (v' := va_rf t4) (by rw [nI_clamp (by omega)]; rw [et4]; first | rfl | done) ?_
      refine lv_goto (tgt := 22) hx hb dX3_at_18 (by decide) ?_
      exact W.aret (v := va_rf t4) hx hb hr (Or.inl ⟨_, rfl⟩) (va_rf_or _) (fun t ht hW => ⟨⟨t4, (), rfl, ht4, by rw [ht]; exact hP, va_K.moved hW.alike hK, hD⟩, hS.F ht⟩) hS.2.2 dX3_at_22

set_option maxHeartbeats 4000000 in
set_option maxRecDepth 100000 in
theorem zX3_append_2 (l : Launch) (D : va_G) (x : Nat → Nat) (cy : Nat → ClassId) (g : Nat → Nat → Option Nat) (L : List Nat) (K : Nat → Nat) (hG : GO L K g) (N : Nat → Nat) (n : Nat → Int32) (a : Nat → Nat → Int32) (r : Nat → Nat → Option Nat) (f : Nat → va_E) (hC : CI L K cy N r f) (sz : Nat) (rd : Nat) (mrd : rd ∈ L ∧ K rd = 6) : Met l yX3_append wsX3_append ({ frames := 0, cells := 0, slots := 0, locals := 0 }) (PW D (TYS cy) (XW x cy g N n a r ++ va_pl L f) sz [.ref (x 12), .ref rd]) (va_Qv (fun (u : ST) => CI L K cy u.1 u.2.2.2.1 u.2.2.2.2 ∧ SM N u.1 n u.2.1 ∧ MM N u.1 a u.2.2.1 ∧ True) (BU D (TYS cy) (XW x cy g N n a r ++ va_pl L f) (WC x cy g L) sz) (va_A (XW x cy g N n a r ++ va_pl L f) sz)) 0 0 (va_A (XW x cy g N n a r ++ va_pl L f) sz) := by
  refine Met.ofW (cc := cX3_append) (maxL := 2) (ret := none) (by decide) rfl ?_
  intro p e s m args below meth c s₁ B hml hv
  obtain ⟨rfl, hsz, hP, hK, hD0⟩ := hv
  have hx := B.exec
  have hb := B.bytes
  have hr := B.returns
  have hts := atoms_spec (ws := wsX3_append) B.pre
  have hown : s.vm.findClass RX3 = some m.cls := findClass_of_methodNamed B.named
  have hlocks := B.notSynchronized
  subst hsz
  obtain ⟨hNB, hRB, hHT⟩ := hC
  have hSM : SM N N n n := SM_rf
  have hMM : MM N N a a := MM_rf
  have hD := hD0.self (sz := s.heap.size)
  have hA : ∀ q9 : Nat, s.heap.size ≤ q9 → va_A (XW x cy g N n a r ++ va_pl L f) s.heap.size q9 := fun q9 h => Or.inr h
  have hS : va_S (va_A (XW x cy g N n a r ++ va_pl L f) s.heap.size) s.heap s.heap [] := va_S.rf
  have hl := lv_entry ([.ref (x 12), .ref rd]) (n := 2) (Nat.le_of_ble_eq_true rfl)
  rw [lg_entry_eq]
  generalize (lg_sl ([.ref (x 12), .ref rd]) ++ List.replicate (2 - (lg_sl ([.ref (x 12), .ref rd])).length) Slot.unset).toArray = ls at hl ⊢
  have hl : lv_has ls 2 [(0, .ref (x 12)), (1, .ref rd)] := hl
  refine lv_aload_n hx hb dX3_append_0 rfl (lv_at hl 0 rfl) ?_
  refine va_get (D := D) (ci := 3) (v := .int (nI (N 7))) (C := RX3) (T := TX3) (N := 2) hx hb hts iX3_append_3 hown hK hP 12 rfl rfl 1 (by decide) (hts (.fieldLink RX3 17 "FondsRoom$Line" "size" "I") (by decide +kernel)) (fun _ h9 => h9) rfl dX3_append_1 ?_
  refine lv_bipush (v := 20) hx hb dX3_append_4 (by decide) ?_
  refine lv_icmp_ge (tgt := 29) hx hb dX3_append_6 (by decide) (fun c1 => ?_) (fun c1 => ?_)
  · skip
    have nb0 : N 0 ≤ 12 := hNB 0 (by decide)
    have nb1 : N 1 ≤ 40 := hNB 1 (by decide)
    have nb2 : N 2 ≤ 20 := hNB 2 (by decide)
    have nb3 : N 3 ≤ 4 := hNB 3 (by decide)
    have nb4 : N 4 ≤ 3 := hNB 4 (by decide)
    have nb5 : N 5 ≤ 20 := hNB 5 (by decide)
    have nb6 : N 6 ≤ 20 := hNB 6 (by decide)
    have nb7 : N 7 ≤ 20 := hNB 7 (by decide)
    have nb8 : N 8 ≤ 30 := hNB 8 (by decide)
    have nb9 : N 9 ≤ 400 := hNB 9 (by decide)
    have dc1 : 20 ≤ (N 7) := (nI_leI (a := 20) (b := (N 7)) (by omega) (by omega)).mp c1
    exact W.vret hx hb hr (fun t ht hW => ⟨⟨(N, n, a, r, f), rfl, ⟨⟨hNB, hRB, hHT⟩, hSM, hMM, trivial⟩, by rw [ht]; exact hP, va_K.moved hW.alike hK, hD⟩, hS.F ht⟩) hS.2.2 dX3_append_29
  · skip
    have nb0 : N 0 ≤ 12 := hNB 0 (by decide)
    have nb1 : N 1 ≤ 40 := hNB 1 (by decide)
    have nb2 : N 2 ≤ 20 := hNB 2 (by decide)
    have nb3 : N 3 ≤ 4 := hNB 3 (by decide)
    have nb4 : N 4 ≤ 3 := hNB 4 (by decide)
    have nb5 : N 5 ≤ 20 := hNB 5 (by decide)
    have nb6 : N 6 ≤ 20 := hNB 6 (by decide)
    have nb7 : N 7 ≤ 20 := hNB 7 (by decide)
    have nb8 : N 8 ≤ 30 := hNB 8 (by decide)
    have nb9 : N 9 ≤ 400 := hNB 9 (by decide)
    have dc1 : (N 7) < 20 := Nat.not_le.mp (fun h9 => c1 ((nI_leI (a := 20) (b := (N 7)) (by omega) (by omega)).mpr h9))
    refine lv_aload_n hx hb dX3_append_9 rfl (lv_at hl 0 rfl) ?_
    refine va_get (D := D) (ci := 3) (v := .ref (x 13)) (C := RX3) (T := TX3) (N := 2) hx hb hts iX3_append_3 hown hK hP 12 rfl rfl 0 (by decide) (hts (.fieldLink RX3 11 "FondsRoom$Line" "places" "[LFondsRoom$Reader;") (by decide +kernel)) (fun _ h9 => h9) rfl dX3_append_10 ?_
    refine lv_aload_n hx hb dX3_append_13 rfl (lv_at hl 0 rfl) ?_
    refine va_get (D := D) (ci := 3) (v := .int (nI (N 7))) (C := RX3) (T := TX3) (N := 2) hx hb hts iX3_append_3 hown hK hP 12 rfl rfl 1 (by decide) (hts (.fieldLink RX3 17 "FondsRoom$Line" "size" "I") (by decide +kernel)) (fun _ h9 => h9) rfl dX3_append_14 ?_
    refine lv_aload_n hx hb dX3_append_17 rfl (lv_at hl 1 rfl) ?_
    obtain ⟨n_o2, p_o2, ar_o2, rk_o2, nw_o2, st_o2, ct_o2, d_o2, aw_o2, rl_o2, cp_o2, cu_o2, w1_o2, w2_o2, w3_o2, ov_o2, co_o2, hf_o2, sp_o2, snw_o2, sd_o2, saw_o2, scu_o2⟩ : TE L K cy 6 (f rd) := by rw [← mrd.2]; exact hHT rd mrd.1
    obtain ⟨q3, hq3⟩ := va_pl_get (X := XW x cy g N n a r) (f := f) mrd.1
    rw [hf_o2] at hq3
    refine va_astq hx hb hK hP hD hS 13 4 q3 6 rfl rfl hq3 rfl (vp_in_nI (by omega) (by omega)) dX3_append_18 (fun H locs hP hD hS => ?_)
    rw [nI_clamp (by omega)] at hP hD
    obtain ⟨r4, er4⟩ : ∃ z, z = va_up r 2 (va_up (r 2) (N 7) (some rd)) := ⟨_, rfl⟩
    have hP : va_P D vwCl (XW x cy g N n a r4 ++ va_pl L f) H := by rw [er4]; exact hP
    have hD : va_D (va_A (XW x cy g N n a r ++ va_pl L f) s.heap.size) (XW x cy g N n a r4 ++ va_pl L f) := by rw [er4]; exact hD
    have hRB : RB L K N r4 := by rw [er4]; exact RB_r hRB 2 (N 7) rd mrd.1 mrd.2
    refine lv_aload_n hx hb dX3_append_19 rfl (lv_at hl 0 rfl) ?_
    refine lv_dup hx hb dX3_append_20 rfl ?_
    refine va_get (D := D) (ci := 3) (v := .int (nI (N 7))) (C := RX3) (T := TX3) (N := 2) hx hb hts iX3_append_3 hown hK hP 12 rfl rfl 1 (by decide) (hts (.fieldLink RX3 17 "FondsRoom$Line" "size" "I") (by decide +kernel)) (fun _ h9 => h9) rfl dX3_append_21 ?_
    refine lv_iconst (v := 1) hx hb dX3_append_24 (by decide) ?_
    refine lv_iadd hx hb dX3_append_25 ?_
    refine lv_tov (v' := .int (nI ((N 7) + 1))) (congrArg Value.int (nI_add (N 7) 1)) ?_
    refine va_put (D := D) (ci := 3) (v := .int (nI ((N 7) + 1))) (ty := .int) (C := RX3) (T := TX3) (N := 2) hx hb hts iX3_append_3 tyX3 tyX3_ok nmX3 hown hK hP hD hS 12 rfl rfl 1 (by decide) (hts (.fieldLink RX3 17 "FondsRoom$Line" "size" "I") (by decide +kernel)) (fun _ h9 => h9) rfl (by decide +kernel) rfl rfl (Nat.le_of_ble_eq_true rfl) dX3_append_26 (fun H locs hP hD hS => ?_)
    obtain ⟨N5, eN5⟩ : ∃ z, z = va_up N 7 ((N 7) + 1) := ⟨_, rfl⟩
    have hP : va_P D vwCl (XW x cy g N5 n a r4 ++ va_pl L f) H := by rw [eN5]; exact hP
    have hD : va_D (va_A (XW x cy g N n a r ++ va_pl L f) s.heap.size) (XW x cy g N5 n a r4 ++ va_pl L f) := by rw [eN5]; exact hD
    have hNB : NB N5 := by rw [eN5]; exact NB_up hNB 7 ((N 7) + 1) (by show ((N 7) + 1) ≤ 20; omega)
    have hRB : RB L K N5 r4 := by rw [eN5]; exact RB_N hRB 7 ((N 7) + 1) (fun j hj e9 i hi => by
      obtain rfl : j = 2 := by omega
      by_cases ez : i = N 7
      · subst ez; rw [er4, va_up_self, va_up_self]; exact fun w9 => by cases w9
      · exact (hRB 2 (by decide)).2 i (by show i < N 7; omega))
    have hSM : SM N N5 n n := by rw [eN5]; exact SM_N hSM 7 ((N 7) + 1) (by decide)
    have hMM : MM N N5 a a := by rw [eN5]; exact MM_N hMM 7 ((N 7) + 1) (by decide)
    exact W.vret hx hb hr (fun t ht hW => ⟨⟨(N5, n, a, r4, f), rfl, ⟨⟨hNB, hRB, hHT⟩, hSM, hMM, trivial⟩, by rw [ht]; exact hP, va_K.moved hW.alike hK, hD⟩, hS.F ht⟩) hS.2.2 dX3_append_29

set_option maxHeartbeats 4000000 in
set_option maxRecDepth 100000 in
theorem zX3_remove_2 (l : Launch) (D : va_G) (x : Nat → Nat) (cy : Nat → ClassId) (g : Nat → Nat → Option Nat) (L : List Nat) (K : Nat → Nat) (hG : GO L K g) (N : Nat → Nat) (n : Nat → Int32) (a : Nat → Nat → Int32) (r : Nat → Nat → Option Nat) (f : Nat → va_E) (hC : CI L K cy N r f) (sz : Nat) (rd : Nat) (mrd : rd ∈ L ∧ K rd = 6) : Met l yX3_remove wsX3_remove ({ frames := 0, cells := 0, slots := 0, locals := 0 }) (PW D (TYS cy) (XW x cy g N n a r ++ va_pl L f) sz [.ref (x 12), .ref rd]) (va_Qv (fun (u : ST) => CI L K cy u.1 u.2.2.2.1 u.2.2.2.2 ∧ SM N u.1 n u.2.1 ∧ MM N u.1 a u.2.2.1 ∧ True) (BU D (TYS cy) (XW x cy g N n a r ++ va_pl L f) (WC x cy g L) sz) (va_A (XW x cy g N n a r ++ va_pl L f) sz)) 0 0 (va_A (XW x cy g N n a r ++ va_pl L f) sz) := by
  refine Met.ofW (cc := cX3_remove) (maxL := 4) (ret := none) (by decide) rfl ?_
  intro p e s m args below meth c s₁ B hml hv
  obtain ⟨rfl, hsz, hP, hK, hD0⟩ := hv
  have hx := B.exec
  have hb := B.bytes
  have hr := B.returns
  have hts := atoms_spec (ws := wsX3_remove) B.pre
  have hown : s.vm.findClass RX3 = some m.cls := findClass_of_methodNamed B.named
  have hlocks := B.notSynchronized
  subst hsz
  obtain ⟨hNB, hRB, hHT⟩ := hC
  have hSM : SM N N n n := SM_rf
  have hMM : MM N N a a := MM_rf
  have hD := hD0.self (sz := s.heap.size)
  have hA : ∀ q9 : Nat, s.heap.size ≤ q9 → va_A (XW x cy g N n a r ++ va_pl L f) s.heap.size q9 := fun q9 h => Or.inr h
  have hS : va_S (va_A (XW x cy g N n a r ++ va_pl L f) s.heap.size) s.heap s.heap [] := va_S.rf
  have hl := lv_entry ([.ref (x 12), .ref rd]) (n := 4) (Nat.le_of_ble_eq_true rfl)
  rw [lg_entry_eq]
  generalize (lg_sl ([.ref (x 12), .ref rd]) ++ List.replicate (4 - (lg_sl ([.ref (x 12), .ref rd])).length) Slot.unset).toArray = ls at hl ⊢
  have hl : lv_has ls 4 [(0, .ref (x 12)), (1, .ref rd)] := hl
  refine lv_iconst (v := 0) hx hb dX3_remove_0 (by decide) ?_
  refine lv_istore_n (lv' := [(2, .int 0), (0, .ref (x 12)), (1, .ref rd)]) hx hb dX3_remove_1 rfl hl (by decide) rfl (fun ls hl => ?_)
  refine lv_iconst (v := 0) hx hb dX3_remove_2 (by decide) ?_
  refine lv_istore_n (lv' := [(3, .int 0), (2, .int 0), (0, .ref (x 12)), (1, .ref rd)]) hx hb dX3_remove_3 rfl hl (by decide) rfl (fun ls hl => ?_)
  have key2 : ∀ (m9 j1 : Nat), 400 - j1 = m9 → j1 ≤ 400 → ∀ (N3 : Nat → Nat) (n4 : Nat → Int32) (a5 : Nat → Nat → Int32) (r6 : Nat → Nat → Option Nat) (f7 : Nat → va_E) (kq : Nat), kq ≤ j1 → j1 ≤ N3 7 → NB N3 → RB L K N3 r6 → HT L K cy f7 → SM N N3 n n4 → MM N N3 a a5 → ∀ (H : Heap) (locs : List Loc) (ls : Array Slot), va_P D vwCl (XW x cy g N3 n4 a5 r6 ++ va_pl L f7) H → va_D (va_A (XW x cy g N n a r ++ va_pl L f) s.heap.size) (XW x cy g N3 n4 a5 r6 ++ va_pl L f7) → va_S (va_A (XW x cy g N n a r ++ va_pl L f) s.heap.size) s.heap H locs → lv_has ls 4 [(3, .int (nI j1)), (2, .int (nI kq)), (0, .ref (x 12)), (1, .ref rd)] → W p l e (headSpec wsX3_remove ({ frames := 0, cells := 0, slots := 0, locals := 0 })).room s m #[.ref (x 12), .ref rd] below meth c H locs 0 0 (MQ below (va_Qv (fun (u : ST) => CI L K cy u.1 u.2.2.2.1 u.2.2.2.2 ∧ SM N u.1 n u.2.1 ∧ MM N u.1 a u.2.2.1 ∧ True) (BU D (TYS cy) (XW x cy g N n a r ++ va_pl L f) (WC x cy g L) s.heap.size) (va_A (XW x cy g N n a r ++ va_pl L f) s.heap.size)) #[.ref (x 12), .ref rd] s 0 0 (va_A (XW x cy g N n a r ++ va_pl L f) s.heap.size)) (F0 m 4 ls []) := by
    intro m9
    induction m9 using Nat.strongRecOn with
    | _ m9 ihkey2 =>
      intro j1 hm9 hj400 N3 n4 a5 r6 f7 kq hkq hjN hNB hRB hHT hSM hMM H locs ls hP hD hS hl
      subst hm9
      have nb0 : N3 0 ≤ 12 := hNB 0 (by decide)
      have nb1 : N3 1 ≤ 40 := hNB 1 (by decide)
      have nb2 : N3 2 ≤ 20 := hNB 2 (by decide)
      have nb3 : N3 3 ≤ 4 := hNB 3 (by decide)
      have nb4 : N3 4 ≤ 3 := hNB 4 (by decide)
      have nb5 : N3 5 ≤ 20 := hNB 5 (by decide)
      have nb6 : N3 6 ≤ 20 := hNB 6 (by decide)
      have nb7 : N3 7 ≤ 20 := hNB 7 (by decide)
      have nb8 : N3 8 ≤ 30 := hNB 8 (by decide)
      have nb9 : N3 9 ≤ 400 := hNB 9 (by decide)
      refine lv_iload_n hx hb dX3_remove_4 rfl (lv_at hl 0 rfl) ?_
      refine lv_aload_n hx hb dX3_remove_5 rfl (lv_at hl 2 rfl) ?_
      refine va_get (D := D) (ci := 3) (v := .int (nI (N3 7))) (C := RX3) (T := TX3) (N := 2) hx hb hts iX3_remove_3 hown hK hP 12 rfl rfl 1 (by decide) (hts (.fieldLink RX3 17 "FondsRoom$Line" "size" "I") (by decide +kernel)) (fun _ h9 => h9) rfl dX3_remove_6 ?_
      refine lv_icmp_ge (tgt := 43) hx hb dX3_remove_9 (by decide) (fun c8 => ?_) (fun c8 => ?_)
      · skip
        have dc8 : (N3 7) ≤ j1 := (nI_leI (a := (N3 7)) (b := j1) (by omega) (by omega)).mp c8
        refine lv_aload_n hx hb dX3_remove_43 rfl (lv_at hl 2 rfl) ?_
        refine lv_iload_n hx hb dX3_remove_44 rfl (lv_at hl 1 rfl) ?_
        refine va_put (D := D) (ci := 3) (v := .int (nI kq)) (ty := .int) (C := RX3) (T := TX3) (N := 2) hx hb hts iX3_remove_3 tyX3 tyX3_ok nmX3 hown hK hP hD hS 12 rfl rfl 1 (by decide) (hts (.fieldLink RX3 17 "FondsRoom$Line" "size" "I") (by decide +kernel)) (fun _ h9 => h9) rfl (by decide +kernel) rfl rfl (Nat.le_of_ble_eq_true rfl) dX3_remove_45 (fun H locs hP hD hS => ?_)
        obtain ⟨N9, eN9⟩ : ∃ z, z = va_up N3 7 kq := ⟨_, rfl⟩
        have hP : va_P D vwCl (XW x cy g N9 n4 a5 r6 ++ va_pl L f7) H := by rw [eN9]; exact hP
        have hD : va_D (va_A (XW x cy g N n a r ++ va_pl L f) s.heap.size) (XW x cy g N9 n4 a5 r6 ++ va_pl L f7) := by rw [eN9]; exact hD
        have hNB : NB N9 := by rw [eN9]; exact NB_up hNB 7 kq (by show kq ≤ 20; omega)
        have hRB : RB L K N9 r6 := by rw [eN9]; exact RB_N hRB 7 kq (fun j hj e9 i hi => by
      obtain rfl : j = 2 := by omega
      exact (hRB 2 (by decide)).2 i (by show i < N3 7; omega))
        have hSM : SM N N9 n n4 := by rw [eN9]; exact SM_N hSM 7 kq (by decide)
        have hMM : MM N N9 a a5 := by rw [eN9]; exact MM_N hMM 7 kq (by decide)
        exact W.vret hx hb hr (fun t ht hW => ⟨⟨(N9, n4, a5, r6, f7), rfl, ⟨⟨hNB, hRB, hHT⟩, hSM, hMM, trivial⟩, by rw [ht]; exact hP, va_K.moved hW.alike hK, hD⟩, hS.F ht⟩) hS.2.2 dX3_remove_48
      · skip
        have dc8 : j1 < (N3 7) := Nat.not_le.mp (fun h9 => c8 ((nI_leI (a := (N3 7)) (b := j1) (by omega) (by omega)).mpr h9))
        refine lv_aload_n hx hb dX3_remove_12 rfl (lv_at hl 2 rfl) ?_
        refine va_get (D := D) (ci := 3) (v := .ref (x 13)) (C := RX3) (T := TX3) (N := 2) hx hb hts iX3_remove_3 hown hK hP 12 rfl rfl 0 (by decide) (hts (.fieldLink RX3 11 "FondsRoom$Line" "places" "[LFondsRoom$Reader;") (by decide +kernel)) (fun _ h9 => h9) rfl dX3_remove_13 ?_
        refine lv_iload_n hx hb dX3_remove_16 rfl (lv_at hl 0 rfl) ?_
        refine va_aldq hx hb hK hP 13 4 rfl rfl (vp_in_nI (by omega) (by omega)) dX3_remove_17 ?_
        obtain ⟨p10, ep10⟩ : ∃ z, r6 2 j1 = some z := Option.ne_none_iff_exists'.mp ((hRB 2 (by decide)).2 (j1) (by show j1 < N3 7; omega))
        have mp10 := (hRB 2 (by decide)).1 (j1) p10 ep10
        refine lv_tov (v' := .ref p10) (by rw [nI_clamp (by omega)]; show va_rf (r6 2 (j1)) = _; rw [ep10]; rfl) ?_
        refine lv_aload_n hx hb dX3_remove_18 rfl (lv_at hl 3 rfl) ?_
        refine lv_acmp_eq (rx := (some p10)) (ry := (some rd)) (tgt := 37) hx hb dX3_remove_19 (by decide) (fun c11 => ?_) (fun c11 => ?_)
        · skip
          refine lv_iinc (v := nI (j1 + 1)) (lv' := [(3, .int (nI (j1 + 1))), (2, .int (nI kq)), (0, .ref (x 12)), (1, .ref rd)]) hx hb dX3_remove_37 hl (k := 0) rfl (by rw [← nI_1]; rfl) (by decide) rfl (fun ls hl => ?_)
          refine lv_goto (tgt := 4) hx hb dX3_remove_40 (by decide) ?_
          exact ihkey2 (400 - ((j1 + 1))) (by omega) ((j1 + 1)) rfl (by omega) N3 n4 a5 r6 f7 (kq) (by omega) (by omega) hNB hRB hHT hSM hMM _ _ _ hP hD hS (lv_sub hl [0, 1, 2, 3] rfl)
        · skip
          refine lv_aload_n hx hb dX3_remove_22 rfl (lv_at hl 2 rfl) ?_
          refine va_get (D := D) (ci := 3) (v := .ref (x 13)) (C := RX3) (T := TX3) (N := 2) hx hb hts iX3_remove_3 hown hK hP 12 rfl rfl 0 (by decide) (hts (.fieldLink RX3 11 "FondsRoom$Line" "places" "[LFondsRoom$Reader;") (by decide +kernel)) (fun _ h9 => h9) rfl dX3_remove_23 ?_
          refine lv_iload_n hx hb dX3_remove_26 rfl (lv_at hl 1 rfl) ?_
          refine lv_aload_n hx hb dX3_remove_27 rfl (lv_at hl 2 rfl) ?_
          refine va_get (D := D) (ci := 3) (v := .ref (x 13)) (C := RX3) (T := TX3) (N := 2) hx hb hts iX3_remove_3 hown hK hP 12 rfl rfl 0 (by decide) (hts (.fieldLink RX3 11 "FondsRoom$Line" "places" "[LFondsRoom$Reader;") (by decide +kernel)) (fun _ h9 => h9) rfl dX3_remove_28 ?_
          refine lv_iload_n hx hb dX3_remove_31 rfl (lv_at hl 0 rfl) ?_
          refine va_aldq hx hb hK hP 13 4 rfl rfl (vp_in_nI (by omega) (by omega)) dX3_remove_32 ?_
          obtain ⟨p12, ep12⟩ : ∃ z, r6 2 j1 = some z := Option.ne_none_iff_exists'.mp ((hRB 2 (by decide)).2 (j1) (by show j1 < N3 7; omega))
          have mp12 := (hRB 2 (by decide)).1 (j1) p12 ep12
          refine lv_tov (v' := .ref p12) (by rw [nI_clamp (by omega)]; show va_rf (r6 2 (j1)) = _; rw [ep12]; rfl) ?_
          obtain ⟨n_o13, p_o13, ar_o13, rk_o13, nw_o13, st_o13, ct_o13, d_o13, aw_o13, rl_o13, cp_o13, cu_o13, w1_o13, w2_o13, w3_o13, ov_o13, co_o13, hf_o13, sp_o13, snw_o13, sd_o13, saw_o13, scu_o13⟩ : TE L K cy 6 (f7 p12) := by rw [← mp12.2]; exact hHT p12 mp12.1
          obtain ⟨q14, hq14⟩ := va_pl_get (X := XW x cy g N3 n4 a5 r6) (f := f7) mp12.1
          rw [hf_o13] at hq14
          refine va_astq hx hb hK hP hD hS 13 4 q14 6 rfl rfl hq14 rfl (vp_in_nI (by omega) (by omega)) dX3_remove_33 (fun H locs hP hD hS => ?_)
          rw [nI_clamp (by omega)] at hP hD
          obtain ⟨r15, er15⟩ : ∃ z, z = va_up r6 2 (va_up (r6 2) kq (some p12)) := ⟨_, rfl⟩
          have hP : va_P D vwCl (XW x cy g N3 n4 a5 r15 ++ va_pl L f7) H := by rw [er15]; exact hP
          have hD : va_D (va_A (XW x cy g N n a r ++ va_pl L f) s.heap.size) (XW x cy g N3 n4 a5 r15 ++ va_pl L f7) := by rw [er15]; exact hD
          have hRB : RB L K N3 r15 := by rw [er15]; exact RB_r hRB 2 kq p12 mp12.1 mp12.2
          refine lv_iinc (v := nI (kq + 1)) (lv' := [(2, .int (nI (kq + 1))), (3, .int (nI j1)), (0, .ref (x 12)), (1, .ref rd)]) hx hb dX3_remove_34 hl (k := 1) rfl (by rw [← nI_1]; rfl) (by decide) rfl (fun ls hl => ?_)
          refine lv_iinc (v := nI (j1 + 1)) (lv' := [(3, .int (nI (j1 + 1))), (2, .int (nI (kq + 1))), (0, .ref (x 12)), (1, .ref rd)]) hx hb dX3_remove_37 hl (k := 1) rfl (by rw [← nI_1]; rfl) (by decide) rfl (fun ls hl => ?_)
          refine lv_goto (tgt := 4) hx hb dX3_remove_40 (by decide) ?_
          exact ihkey2 (400 - ((j1 + 1))) (by omega) ((j1 + 1)) rfl (by omega) N3 n4 a5 r15 f7 ((kq + 1)) (by omega) (by omega) hNB hRB hHT hSM hMM _ _ _ hP hD hS (lv_sub hl [0, 1, 2, 3] rfl)
  have nb0 : N 0 ≤ 12 := hNB 0 (by decide)
  have nb1 : N 1 ≤ 40 := hNB 1 (by decide)
  have nb2 : N 2 ≤ 20 := hNB 2 (by decide)
  have nb3 : N 3 ≤ 4 := hNB 3 (by decide)
  have nb4 : N 4 ≤ 3 := hNB 4 (by decide)
  have nb5 : N 5 ≤ 20 := hNB 5 (by decide)
  have nb6 : N 6 ≤ 20 := hNB 6 (by decide)
  have nb7 : N 7 ≤ 20 := hNB 7 (by decide)
  have nb8 : N 8 ≤ 30 := hNB 8 (by decide)
  have nb9 : N 9 ≤ 400 := hNB 9 (by decide)
  exact key2 (400 - (0)) (0) rfl (by omega) N n a r f 0 (by omega) (by omega) hNB hRB hHT hSM hMM _ _ _ hP hD hS (lv_sub hl [0, 1, 2, 3] rfl)
