theorem iX9_desk_1 : ∀ w ∈ wsX10, w ∈ wsX9_desk := fun _ h => List.mem_cons_of_mem _ (List.mem_append_right _ h)
theorem iX9_desk_9 : ∀ w ∈ wsX90, w ∈ wsX9_desk := fun _ h => List.mem_cons_of_mem _ (List.mem_append_left _ (List.mem_append_right _ h))
set_option maxHeartbeats 4000000 in
set_option maxRecDepth 100000 in
theorem zX9_desk (l : Launch) (D : va_G) (x : Nat → Nat) (cy : Nat → ClassId) (g : Nat → Nat → Option Nat) (L : List Nat) (K : Nat → Nat) (hG : GO L K g) (N : Nat → Nat) (n : Nat → Int32) (a : Nat → Nat → Int32) (r : Nat → Nat → Option Nat) (f : Nat → va_E) (hC : CI L K cy N r f) (sz : Nat) (z1 : Int32) (zz1 : b01 z1) : Met l yX9_desk wsX9_desk ({ frames := 0, cells := 0, slots := 0, locals := 0 }) (PW D (TYS cy) (XW x cy g N n a r ++ va_pl L f) sz [.ref (x 0), .int z1]) (va_Qi (fun (res : Int32) (u : ST) => CI L K cy u.1 u.2.2.2.1 u.2.2.2.2 ∧ (res, ab u.1 u.2.1 u.2.2.1) = sp_desk (ab N n a)) (BU D (TYS cy) (XW x cy g N n a r ++ va_pl L f) (WC x cy g L) sz) (va_A (XW x cy g N n a r ++ va_pl L f) sz)) 0 0 (va_A (XW x cy g N n a r ++ va_pl L f) sz) := by
  refine Met.ofW (cc := cX9_desk) (maxL := 3) (ret := (some .int)) (by decide) rfl ?_
  intro p e s m args below meth c s₁ B hml hv
  obtain ⟨rfl, hsz, hP, hK, hD0⟩ := hv
  have hx := B.exec
  have hb := B.bytes
  have hr := B.returns
  have hts := atoms_spec (ws := wsX9_desk) B.pre
  have hown : s.vm.findClass RX9 = some m.cls := findClass_of_methodNamed B.named
  have hlocks := B.notSynchronized
  subst hsz
  obtain ⟨hNB, hRB, hHT⟩ := hC
  have hSM : SM N N n n := SM_rf
  have hMM : MM N N a a := MM_rf
  have hD := hD0.self (sz := s.heap.size)
  have hA : ∀ q9 : Nat, s.heap.size ≤ q9 → va_A (XW x cy g N n a r ++ va_pl L f) s.heap.size q9 := fun q9 h => Or.inr h
  have hS : va_S (va_A (XW x cy g N n a r ++ va_pl L f) s.heap.size) s.heap s.heap [] := va_S.rf
  have hl := lv_entry ([.ref (x 0), .int z1]) (n := 3) (Nat.le_of_ble_eq_true rfl)
  rw [lg_entry_eq]
  generalize (lg_sl ([.ref (x 0), .int z1]) ++ List.replicate (3 - (lg_sl ([.ref (x 0), .int z1])).length) Slot.unset).toArray = ls at hl ⊢
  have hl : lv_has ls 3 [(0, .ref (x 0)), (1, .int z1)] := hl
  refine lv_aload_n hx hb dX9_desk_0 rfl (lv_at hl 0 rfl) ?_
  refine va_get (D := D) (ci := 9) (v := .int (n 1)) (C := RX9) (T := TX9) (N := 19) hx hb hts iX9_desk_9 hown hK hP 0 rfl rfl 14 (by decide) (hts (.fieldLink RX9 78 "FondsRoom" "turn" "I") (by decide +kernel)) (fun _ h9 => h9) rfl dX9_desk_1 ?_
  refine lv_if_gt (tgt := 16) hx hb dX9_desk_4 (by decide) (fun c1 => ?_) (fun c1 => ?_)
  · skip
    refine lv_iconst (v := (-1)) hx hb dX9_desk_16 (by decide) ?_
    exact W.iret (v := (-1)) hx hb hr (fun t ht hW => ⟨⟨(-1), (N, n, a, r, f), rfl, ⟨⟨hNB, hRB, hHT⟩, (by show ((-1), ab N n a) = _; unfold sp_desk; exact (((if_pos (by first | exact c1 | exact nle_lt c1 | exact le_nlt c1 | exact nlt_le c1 | exact lt_nle c1 | exact fun h9 => h9 c1 | exact fun h9 => c1 h9.1 | exact dc1 | exact Nat.not_le.mpr dc1 | omega))).trans rfl).symm)⟩, by rw [ht]; exact hP, va_K.moved hW.alike hK, hD⟩, hS.F ht⟩) hS.2.2 dX9_desk_17
  · skip
    refine lv_aload_n hx hb dX9_desk_7 rfl (lv_at hl 0 rfl) ?_
    refine va_get (D := D) (ci := 9) (v := .int (nI (N 0))) (C := RX9) (T := TX9) (N := 19) hx hb hts iX9_desk_9 hown hK hP 0 rfl rfl 10 (by decide) (hts (.fieldLink RX9 81 "FondsRoom" "deskCount" "I") (by decide +kernel)) (fun _ h9 => h9) rfl dX9_desk_8 ?_
    refine lv_bipush (v := 12) hx hb dX9_desk_11 (by decide) ?_
    refine lv_icmp_lt (tgt := 18) hx hb dX9_desk_13 (by decide) (fun c2 => ?_) (fun c2 => ?_)
    · skip
      have nb0 : N 0 ≤ 12 := hNB 0 (by decide)
      have nb1 : N 1 ≤ 40 := hNB 1 (by decide)
      have nb2 : N 2 ≤ 20 := hNB 2 (by decide)
      have nb3 : N 3 ≤ 4 := hNB 3 (by decide)
      have nb4 : N 4 ≤ 3 := hNB 4 (by decide)
      have nb5 : N 5 ≤ 20 := hNB 5 (by decide)
      have nb6 : N 6 ≤ 20 := hNB 6 (by decide)
      have nb7 : N 7 ≤ 20 := hNB 7 (by decide)
      have nb8 : N 8 ≤ 30 := hNB 8 (by decide)
      have nb9 : N 9 ≤ 400 := hNB 9 (by decide)
      have dc2 : (N 0) < 12 := (nI_ltI (a := (N 0)) (b := 12) (by omega) (by omega)).mp c2
      refine lv_aload_n hx hb dX9_desk_18 rfl (lv_at hl 0 rfl) ?_
      refine va_get (D := D) (ci := 9) (v := .int (nI (N 0))) (C := RX9) (T := TX9) (N := 19) hx hb hts iX9_desk_9 hown hK hP 0 rfl rfl 10 (by decide) (hts (.fieldLink RX9 81 "FondsRoom" "deskCount" "I") (by decide +kernel)) (fun _ h9 => h9) rfl dX9_desk_19 ?_
      refine lv_istore_n (lv' := [(2, .int (nI (N 0))), (0, .ref (x 0)), (1, .int z1)]) hx hb dX9_desk_22 rfl hl (by decide) rfl (fun ls hl => ?_)
      refine lv_aload_n hx hb dX9_desk_23 rfl (lv_at hl 1 rfl) ?_
      refine va_get (D := D) (ci := 9) (v := .ref (x 1)) (C := RX9) (T := TX9) (N := 19) hx hb hts iX9_desk_9 hown hK hP 0 rfl rfl 0 (by decide) (hts (.fieldLink RX9 11 "FondsRoom" "desks" "[LFondsRoom$Desk;") (by decide +kernel)) (fun _ h9 => h9) rfl dX9_desk_24 ?_
      refine lv_iload_n hx hb dX9_desk_27 rfl (lv_at hl 0 rfl) ?_
      refine va_aldq hx hb hK hP 1 2 rfl rfl (vp_in_nI (by omega) (by omega)) dX9_desk_28 ?_
      obtain ⟨p3, ep3, mp3, kp3⟩ := hG.1 (N 0) (by omega)
      refine lv_tov (v' := .ref p3) (by rw [nI_clamp (by omega)]; show va_rf (g 0 (N 0)) = _; rw [ep3]; rfl) ?_
      refine lv_iload_n hx hb dX9_desk_29 rfl (lv_at hl 2 rfl) ?_
      obtain ⟨n_o4, wt_o4, s_o4, hf_o4, swt_o4, ss_o4⟩ : TE L K cy 1 (f p3) := by rw [← kp3]; exact hHT p3 mp3
      refine pg_put (D := D) (ci := 1) (v := .int z1) (ty := .boolean) (C := RX1) (T := TX1) (N := 3) hx hb hts iX9_desk_1 tyX1 tyX1_ok nmX1 hown hK hP hD hS mp3 hf_o4 rfl 1 (by decide) (hts (.fieldLink RX9 84 "FondsRoom$Desk" "watched" "Z") (by decide +kernel)) (fun _ h9 => h9) rfl (by decide +kernel) (nz01 zz1).1 (nz01 zz1).2 (Nat.le_of_ble_eq_true rfl) dX9_desk_30 (fun H locs hP hD hS => ?_)
      obtain ⟨f5, ef5⟩ : ∃ z, z = va_up f p3 (.inr (1, [.int n_o4, .int z1, va_rf s_o4])) := ⟨_, rfl⟩
      have hP : va_P D vwCl (XW x cy g N n a r ++ va_pl L f5) H := by rw [ef5]; exact hP
      have hD : va_D (va_A (XW x cy g N n a r ++ va_pl L f) s.heap.size) (XW x cy g N n a r ++ va_pl L f5) := by rw [ef5]; exact hD
      have hHT : HT L K cy f5 := by rw [ef5]; exact HT_up hHT 1 kp3 ⟨n_o4, z1, s_o4, rfl, zz1, ss_o4⟩
      have hf6 : f5 p3 = .inr (1, [.int n_o4, .int z1, va_rf s_o4]) := by rw [ef5]; exact va_up_self _ _ _
      refine lv_aload_n hx hb dX9_desk_33 rfl (lv_at hl 1 rfl) ?_
      refine lv_iload_n hx hb dX9_desk_34 rfl (lv_at hl 0 rfl) ?_
      refine lv_iconst (v := 1) hx hb dX9_desk_35 (by decide) ?_
      refine lv_iadd hx hb dX9_desk_36 ?_
      refine lv_tov (v' := .int (nI ((N 0) + 1))) (congrArg Value.int (nI_add (N 0) 1)) ?_
      refine va_put (D := D) (ci := 9) (v := .int (nI ((N 0) + 1))) (ty := .int) (C := RX9) (T := TX9) (N := 19) hx hb hts iX9_desk_9 tyX9 tyX9_ok nmX9 hown hK hP hD hS 0 rfl rfl 10 (by decide) (hts (.fieldLink RX9 81 "FondsRoom" "deskCount" "I") (by decide +kernel)) (fun _ h9 => h9) rfl (by decide +kernel) rfl rfl (Nat.le_of_ble_eq_true rfl) dX9_desk_37 (fun H locs hP hD hS => ?_)
      obtain ⟨N7, eN7⟩ : ∃ z, z = va_up N 0 ((N 0) + 1) := ⟨_, rfl⟩
      have hP : va_P D vwCl (XW x cy g N7 n a r ++ va_pl L f5) H := by rw [eN7]; exact hP
      have hD : va_D (va_A (XW x cy g N n a r ++ va_pl L f) s.heap.size) (XW x cy g N7 n a r ++ va_pl L f5) := by rw [eN7]; exact hD
      have hNB : NB N7 := by rw [eN7]; exact NB_up hNB 0 ((N 0) + 1) (by show ((N 0) + 1) ≤ 12; omega)
      have hRB : RB L K N7 r := by rw [eN7]; exact RB_N hRB 0 ((N 0) + 1) (fun j hj e9 => by omega)
      have hMM : MM N N7 a a := by rw [eN7]; exact MM_N hMM 0 ((N 0) + 1) (by decide)
      refine lv_iload_n hx hb dX9_desk_40 rfl (lv_at hl 0 rfl) ?_
      exact W.iret (v := (nI (N 0))) hx hb hr (fun t ht hW => ⟨⟨(nI (N 0)), (N7, n, a, r, f5), rfl, ⟨⟨hNB, hRB, hHT⟩, (by show ((nI (N 0)), ab N7 n a) = _; unfold sp_desk; exact ((((if_neg (by first | exact c1 | exact nle_lt c1 | exact le_nlt c1 | exact nlt_le c1 | exact lt_nle c1 | exact fun h9 => h9 c1 | exact fun h9 => c1 h9.1 | exact dc1 | exact Nat.not_le.mpr dc1 | omega)).trans (if_neg (by first | exact c2 | exact nle_lt c2 | exact le_nlt c2 | exact nlt_le c2 | exact lt_nle c2 | exact fun h9 => h9 c2 | exact fun h9 => c2 h9.1 | exact dc2 | exact Nat.not_le.mpr dc2 | omega)))).trans (by rw [eN7]; rfl)).symm)⟩, by rw [ht]; exact hP, va_K.moved hW.alike hK, hD⟩, hS.F ht⟩) hS.2.2 dX9_desk_41
    · skip
      have nb0 : N 0 ≤ 12 := hNB 0 (by decide)
      have nb1 : N 1 ≤ 40 := hNB 1 (by decide)
      have nb2 : N 2 ≤ 20 := hNB 2 (by decide)
      have nb3 : N 3 ≤ 4 := hNB 3 (by decide)
      have nb4 : N 4 ≤ 3 := hNB 4 (by decide)
      have nb5 : N 5 ≤ 20 := hNB 5 (by decide)
      have nb6 : N 6 ≤ 20 := hNB 6 (by decide)
      have nb7 : N 7 ≤ 20 := hNB 7 (by decide)
      have nb8 : N 8 ≤ 30 := hNB 8 (by decide)
      have nb9 : N 9 ≤ 400 := hNB 9 (by decide)
      have dc2 : 12 ≤ (N 0) := Nat.not_lt.mp (fun h9 => c2 ((nI_ltI (a := (N 0)) (b := 12) (by omega) (by omega)).mpr h9))
      refine lv_iconst (v := (-1)) hx hb dX9_desk_16 (by decide) ?_
      exact W.iret (v := (-1)) hx hb hr (fun t ht hW => ⟨⟨(-1), (N, n, a, r, f), rfl, ⟨⟨hNB, hRB, hHT⟩, (by show ((-1), ab N n a) = _; unfold sp_desk; exact ((((if_neg (by first | exact c1 | exact nle_lt c1 | exact le_nlt c1 | exact nlt_le c1 | exact lt_nle c1 | exact fun h9 => h9 c1 | exact fun h9 => c1 h9.1 | exact dc1 | exact Nat.not_le.mpr dc1 | omega)).trans (if_pos (by first | exact c2 | exact nle_lt c2 | exact le_nlt c2 | exact nlt_le c2 | exact lt_nle c2 | exact fun h9 => h9 c2 | exact fun h9 => c2 h9.1 | exact dc2 | exact Nat.not_le.mpr dc2 | omega)))).trans rfl).symm)⟩, by rw [ht]; exact hP, va_K.moved hW.alike hK, hD⟩, hS.F ht⟩) hS.2.2 dX9_desk_17

theorem iX9_box_0 : ∀ w ∈ wsX00, w ∈ wsX9_box := fun _ h => List.mem_cons_of_mem _ (List.mem_append_right _ h)
theorem iX9_box_9 : ∀ w ∈ wsX90, w ∈ wsX9_box := fun _ h => List.mem_cons_of_mem _ (List.mem_append_left _ (List.mem_append_right _ h))
set_option maxHeartbeats 4000000 in
set_option maxRecDepth 100000 in
theorem zX9_box (l : Launch) (D : va_G) (x : Nat → Nat) (cy : Nat → ClassId) (g : Nat → Nat → Option Nat) (L : List Nat) (K : Nat → Nat) (hG : GO L K g) (N : Nat → Nat) (n : Nat → Int32) (a : Nat → Nat → Int32) (r : Nat → Nat → Option Nat) (f : Nat → va_E) (hC : CI L K cy N r f) (sz : Nat) (fo z1 : Int32) (zz1 : b01 z1) : Met l yX9_box wsX9_box ({ frames := 1, cells := 0, slots := 0, locals := 22 }) (PW D (TYS cy) (XW x cy g N n a r ++ va_pl L f) sz [.ref (x 0), .int fo, .int z1]) (va_Qi (fun (res : Int32) (u : ST) => CI L K cy u.1 u.2.2.2.1 u.2.2.2.2 ∧ (res, ab u.1 u.2.1 u.2.2.1) = sp_box fo (ab N n a)) (BU D (TYS cy) (XW x cy g N n a r ++ va_pl L f) (WC x cy g L) sz) (va_A (XW x cy g N n a r ++ va_pl L f) sz)) 0 0 (va_A (XW x cy g N n a r ++ va_pl L f) sz) := by
  refine Met.ofW (cc := cX9_box) (maxL := 4) (ret := (some .int)) (by decide) rfl ?_
  intro p e s m args below meth c s₁ B hml hv
  obtain ⟨rfl, hsz, hP, hK, hD0⟩ := hv
  have hx := B.exec
  have hb := B.bytes
  have hr := B.returns
  have hts := atoms_spec (ws := wsX9_box) B.pre
  have hown : s.vm.findClass RX9 = some m.cls := findClass_of_methodNamed B.named
  have hlocks := B.notSynchronized
  subst hsz
  obtain ⟨hNB, hRB, hHT⟩ := hC
  have hSM : SM N N n n := SM_rf
  have hMM : MM N N a a := MM_rf
  have hD := hD0.self (sz := s.heap.size)
  have hA : ∀ q9 : Nat, s.heap.size ≤ q9 → va_A (XW x cy g N n a r ++ va_pl L f) s.heap.size q9 := fun q9 h => Or.inr h
  have hS : va_S (va_A (XW x cy g N n a r ++ va_pl L f) s.heap.size) s.heap s.heap [] := va_S.rf
  have hl := lv_entry ([.ref (x 0), .int fo, .int z1]) (n := 4) (Nat.le_of_ble_eq_true rfl)
  rw [lg_entry_eq]
  generalize (lg_sl ([.ref (x 0), .int fo, .int z1]) ++ List.replicate (4 - (lg_sl ([.ref (x 0), .int fo, .int z1])).length) Slot.unset).toArray = ls at hl ⊢
  have hl : lv_has ls 4 [(0, .ref (x 0)), (1, .int fo), (2, .int z1)] := hl
  refine lv_aload_n hx hb dX9_box_0 rfl (lv_at hl 0 rfl) ?_
  refine va_get (D := D) (ci := 9) (v := .int (n 1)) (C := RX9) (T := TX9) (N := 19) hx hb hts iX9_box_9 hown hK hP 0 rfl rfl 14 (by decide) (hts (.fieldLink RX9 78 "FondsRoom" "turn" "I") (by decide +kernel)) (fun _ h9 => h9) rfl dX9_box_1 ?_
  refine lv_if_gt (tgt := 26) hx hb dX9_box_4 (by decide) (fun c1 => ?_) (fun c1 => ?_)
  · skip
    refine lv_iconst (v := (-1)) hx hb dX9_box_26 (by decide) ?_
    exact W.iret (v := (-1)) hx hb hr (fun t ht hW => ⟨⟨(-1), (N, n, a, r, f), rfl, ⟨⟨hNB, hRB, hHT⟩, (by show ((-1), ab N n a) = _; unfold sp_box; exact (((if_pos (by first | exact c1 | exact nle_lt c1 | exact le_nlt c1 | exact nlt_le c1 | exact lt_nle c1 | exact fun h9 => h9 c1 | exact fun h9 => c1 h9.1 | exact dc1 | exact Nat.not_le.mpr dc1 | omega))).trans rfl).symm)⟩, by rw [ht]; exact hP, va_K.moved hW.alike hK, hD⟩, hS.F ht⟩) hS.2.2 dX9_box_27
  · skip
    refine lv_aload_n hx hb dX9_box_7 rfl (lv_at hl 0 rfl) ?_
    refine va_get (D := D) (ci := 9) (v := .int (nI (N 1))) (C := RX9) (T := TX9) (N := 19) hx hb hts iX9_box_9 hown hK hP 0 rfl rfl 11 (by decide) (hts (.fieldLink RX9 88 "FondsRoom" "boxCount" "I") (by decide +kernel)) (fun _ h9 => h9) rfl dX9_box_8 ?_
    refine lv_bipush (v := 40) hx hb dX9_box_11 (by decide) ?_
    refine lv_icmp_ge (tgt := 26) hx hb dX9_box_13 (by decide) (fun c2 => ?_) (fun c2 => ?_)
    · skip
      have nb0 : N 0 ≤ 12 := hNB 0 (by decide)
      have nb1 : N 1 ≤ 40 := hNB 1 (by decide)
      have nb2 : N 2 ≤ 20 := hNB 2 (by decide)
      have nb3 : N 3 ≤ 4 := hNB 3 (by decide)
      have nb4 : N 4 ≤ 3 := hNB 4 (by decide)
      have nb5 : N 5 ≤ 20 := hNB 5 (by decide)
      have nb6 : N 6 ≤ 20 := hNB 6 (by decide)
      have nb7 : N 7 ≤ 20 := hNB 7 (by decide)
      have nb8 : N 8 ≤ 30 := hNB 8 (by decide)
      have nb9 : N 9 ≤ 400 := hNB 9 (by decide)
      have dc2 : 40 ≤ (N 1) := (nI_leI (a := 40) (b := (N 1)) (by omega) (by omega)).mp c2
      refine lv_iconst (v := (-1)) hx hb dX9_box_26 (by decide) ?_
      exact W.iret (v := (-1)) hx hb hr (fun t ht hW => ⟨⟨(-1), (N, n, a, r, f), rfl, ⟨⟨hNB, hRB, hHT⟩, (by show ((-1), ab N n a) = _; unfold sp_box; exact ((((if_neg (by first | exact c1 | exact nle_lt c1 | exact le_nlt c1 | exact nlt_le c1 | exact lt_nle c1 | exact fun h9 => h9 c1 | exact fun h9 => c1 h9.1 | exact dc1 | exact Nat.not_le.mpr dc1 | omega)).trans (if_pos (by first | exact c2 | exact nle_lt c2 | exact le_nlt c2 | exact nlt_le c2 | exact lt_nle c2 | exact fun h9 => h9 c2 | exact fun h9 => c2 h9.1 | exact dc2 | exact Nat.not_le.mpr dc2 | omega)))).trans rfl).symm)⟩, by rw [ht]; exact hP, va_K.moved hW.alike hK, hD⟩, hS.F ht⟩) hS.2.2 dX9_box_27
    · skip
      have nb0 : N 0 ≤ 12 := hNB 0 (by decide)
      have nb1 : N 1 ≤ 40 := hNB 1 (by decide)
      have nb2 : N 2 ≤ 20 := hNB 2 (by decide)
      have nb3 : N 3 ≤ 4 := hNB 3 (by decide)
      have nb4 : N 4 ≤ 3 := hNB 4 (by decide)
      have nb5 : N 5 ≤ 20 := hNB 5 (by decide)
      have nb6 : N 6 ≤ 20 := hNB 6 (by decide)
      have nb7 : N 7 ≤ 20 := hNB 7 (by decide)
      have nb8 : N 8 ≤ 30 := hNB 8 (by decide)
      have nb9 : N 9 ≤ 400 := hNB 9 (by decide)
      have dc2 : (N 1) < 40 := Nat.not_le.mp (fun h9 => c2 ((nI_leI (a := 40) (b := (N 1)) (by omega) (by omega)).mpr h9))
      refine lv_iload_n hx hb dX9_box_16 rfl (lv_at hl 1 rfl) ?_
      refine lv_iconst (v := 0) hx hb dX9_box_17 (by decide) ?_
      refine lv_bipush (v := 9) hx hb dX9_box_18 (by decide) ?_
      refine gsI (As := [.int fo, .int 0, .int 9]) (rest := []) ⟨hx, hb, hml, hown, hts⟩ (zX9_isWithin l D x cy g L K hG N n a r f ⟨hNB, hRB, hHT⟩ _  fo 0 9 ) (va_cwS 3 hts gX9_box_X9_isWithin rfl rfl rfl (by decide +kernel) ⟨Nat.le_of_ble_eq_true rfl, Nat.le_of_ble_eq_true rfl⟩) hK hP hD hS hA rfl hl.1 rfl (Nat.le_of_ble_eq_true rfl) dX9_box_20 ⟨Nat.le_of_ble_eq_true rfl, Nat.le_of_ble_eq_true rfl⟩ (fun q3 u4 H locs hq3 hP hD hS => ?_)
      have hP : va_P D vwCl (XW x cy g N n a r ++ va_pl L f) H := hP
      have hD : va_D _ (XW x cy g N n a r ++ va_pl L f) := hD
      obtain rfl : q3 = sp_in fo 0 9 := hq3
      refine lv_if_ne (tgt := 28) hx hb dX9_box_23 (by decide) (fun c5 => ?_) (fun c5 => ?_)
      · skip
        refine lv_aload_n hx hb dX9_box_28 rfl (lv_at hl 0 rfl) ?_
        refine va_get (D := D) (ci := 9) (v := .int (nI (N 1))) (C := RX9) (T := TX9) (N := 19) hx hb hts iX9_box_9 hown hK hP 0 rfl rfl 11 (by decide) (hts (.fieldLink RX9 88 "FondsRoom" "boxCount" "I") (by decide +kernel)) (fun _ h9 => h9) rfl dX9_box_29 ?_
        refine lv_istore_n (lv' := [(3, .int (nI (N 1))), (0, .ref (x 0)), (1, .int fo), (2, .int z1)]) hx hb dX9_box_32 rfl hl (by decide) rfl (fun ls hl => ?_)
        refine lv_aload_n hx hb dX9_box_33 rfl (lv_at hl 1 rfl) ?_
        refine va_get (D := D) (ci := 9) (v := .ref (x 2)) (C := RX9) (T := TX9) (N := 19) hx hb hts iX9_box_9 hown hK hP 0 rfl rfl 1 (by decide) (hts (.fieldLink RX9 20 "FondsRoom" "boxes" "[LFondsRoom$Box;") (by decide +kernel)) (fun _ h9 => h9) rfl dX9_box_34 ?_
        refine lv_iload_n hx hb dX9_box_37 rfl (lv_at hl 0 rfl) ?_
        refine va_aldq hx hb hK hP 2 3 rfl rfl (vp_in_nI (by omega) (by omega)) dX9_box_38 ?_
        obtain ⟨p6, ep6, mp6, kp6⟩ := hG.2.1 (N 1) (by omega)
        refine lv_tov (v' := .ref p6) (by rw [nI_clamp (by omega)]; show va_rf (g 1 (N 1)) = _; rw [ep6]; rfl) ?_
        refine lv_iload_n hx hb dX9_box_39 rfl (lv_at hl 2 rfl) ?_
        obtain ⟨n_o7, fo_o7, pr_o7, pl_o7, h_o7, w_o7, hf_o7, spr_o7, sh_o7, sw_o7⟩ : TE L K cy 0 (f p6) := by rw [← kp6]; exact hHT p6 mp6
        refine pg_put (D := D) (ci := 0) (v := .int fo) (ty := .int) (C := RX0) (T := TX0) (N := 6) hx hb hts iX9_box_0 tyX0 tyX0_ok nmX0 hown hK hP hD hS mp6 hf_o7 rfl 1 (by decide) (hts (.fieldLink RX9 95 "FondsRoom$Box" "fonds" "I") (by decide +kernel)) (fun _ h9 => h9) rfl (by decide +kernel) rfl rfl (Nat.le_of_ble_eq_true rfl) dX9_box_40 (fun H locs hP hD hS => ?_)
        obtain ⟨f8, ef8⟩ : ∃ z, z = va_up f p6 (.inr (0, [.int n_o7, .int fo, .int pr_o7, .int pl_o7, va_rf h_o7, va_rf w_o7])) := ⟨_, rfl⟩
        have hP : va_P D vwCl (XW x cy g N n a r ++ va_pl L f8) H := by rw [ef8]; exact hP
        have hD : va_D (va_A (XW x cy g N n a r ++ va_pl L f) s.heap.size) (XW x cy g N n a r ++ va_pl L f8) := by rw [ef8]; exact hD
        have hHT : HT L K cy f8 := by rw [ef8]; exact HT_up hHT 0 kp6 ⟨n_o7, fo, pr_o7, pl_o7, h_o7, w_o7, rfl, spr_o7, sh_o7, sw_o7⟩
        have hf9 : f8 p6 = .inr (0, [.int n_o7, .int fo, .int pr_o7, .int pl_o7, va_rf h_o7, va_rf w_o7]) := by rw [ef8]; exact va_up_self _ _ _
        refine lv_aload_n hx hb dX9_box_43 rfl (lv_at hl 1 rfl) ?_
        refine va_get (D := D) (ci := 9) (v := .ref (x 2)) (C := RX9) (T := TX9) (N := 19) hx hb hts iX9_box_9 hown hK hP 0 rfl rfl 1 (by decide) (hts (.fieldLink RX9 20 "FondsRoom" "boxes" "[LFondsRoom$Box;") (by decide +kernel)) (fun _ h9 => h9) rfl dX9_box_44 ?_
        refine lv_iload_n hx hb dX9_box_47 rfl (lv_at hl 0 rfl) ?_
        refine va_aldq hx hb hK hP 2 3 rfl rfl (vp_in_nI (by omega) (by omega)) dX9_box_48 ?_
        obtain ⟨p10, ep10, mp10, kp10⟩ := hG.2.1 (N 1) (by omega)
        refine lv_tov (v' := .ref p10) (by rw [nI_clamp (by omega)]; show va_rf (g 1 (N 1)) = _; rw [ep10]; rfl) ?_
        refine lv_iload_n hx hb dX9_box_49 rfl (lv_at hl 3 rfl) ?_
        obtain ⟨n_o11, fo_o11, pr_o11, pl_o11, h_o11, w_o11, hf_o11, spr_o11, sh_o11, sw_o11⟩ : TE L K cy 0 (f8 p10) := by rw [← kp10]; exact hHT p10 mp10
        refine pg_put (D := D) (ci := 0) (v := .int z1) (ty := .boolean) (C := RX0) (T := TX0) (N := 6) hx hb hts iX9_box_0 tyX0 tyX0_ok nmX0 hown hK hP hD hS mp10 hf_o11 rfl 2 (by decide) (hts (.fieldLink RX9 98 "FondsRoom$Box" "precious" "Z") (by decide +kernel)) (fun _ h9 => h9) rfl (by decide +kernel) (nz01 zz1).1 (nz01 zz1).2 (Nat.le_of_ble_eq_true rfl) dX9_box_50 (fun H locs hP hD hS => ?_)
        obtain ⟨f12, ef12⟩ : ∃ z, z = va_up f8 p10 (.inr (0, [.int n_o11, .int fo_o11, .int z1, .int pl_o11, va_rf h_o11, va_rf w_o11])) := ⟨_, rfl⟩
        have hP : va_P D vwCl (XW x cy g N n a r ++ va_pl L f12) H := by rw [ef12]; exact hP
        have hD : va_D (va_A (XW x cy g N n a r ++ va_pl L f) s.heap.size) (XW x cy g N n a r ++ va_pl L f12) := by rw [ef12]; exact hD
        have hHT : HT L K cy f12 := by rw [ef12]; exact HT_up hHT 0 kp10 ⟨n_o11, fo_o11, z1, pl_o11, h_o11, w_o11, rfl, zz1, sh_o11, sw_o11⟩
        have hf13 : f12 p10 = .inr (0, [.int n_o11, .int fo_o11, .int z1, .int pl_o11, va_rf h_o11, va_rf w_o11]) := by rw [ef12]; exact va_up_self _ _ _
        refine lv_aload_n hx hb dX9_box_53 rfl (lv_at hl 1 rfl) ?_
        refine lv_iload_n hx hb dX9_box_54 rfl (lv_at hl 0 rfl) ?_
        refine lv_iconst (v := 1) hx hb dX9_box_55 (by decide) ?_
        refine lv_iadd hx hb dX9_box_56 ?_
        refine lv_tov (v' := .int (nI ((N 1) + 1))) (congrArg Value.int (nI_add (N 1) 1)) ?_
        refine va_put (D := D) (ci := 9) (v := .int (nI ((N 1) + 1))) (ty := .int) (C := RX9) (T := TX9) (N := 19) hx hb hts iX9_box_9 tyX9 tyX9_ok nmX9 hown hK hP hD hS 0 rfl rfl 11 (by decide) (hts (.fieldLink RX9 88 "FondsRoom" "boxCount" "I") (by decide +kernel)) (fun _ h9 => h9) rfl (by decide +kernel) rfl rfl (Nat.le_of_ble_eq_true rfl) dX9_box_57 (fun H locs hP hD hS => ?_)
        obtain ⟨N14, eN14⟩ : ∃ z, z = va_up N 1 ((N 1) + 1) := ⟨_, rfl⟩
        have hP : va_P D vwCl (XW x cy g N14 n a r ++ va_pl L f12) H := by rw [eN14]; exact hP
        have hD : va_D (va_A (XW x cy g N n a r ++ va_pl L f) s.heap.size) (XW x cy g N14 n a r ++ va_pl L f12) := by rw [eN14]; exact hD
        have hNB : NB N14 := by rw [eN14]; exact NB_up hNB 1 ((N 1) + 1) (by show ((N 1) + 1) ≤ 40; omega)
        have hRB : RB L K N14 r := by rw [eN14]; exact RB_N hRB 1 ((N 1) + 1) (fun j hj e9 => by omega)
        have hMM : MM N N14 a a := by rw [eN14]; exact MM_N hMM 1 ((N 1) + 1) (by decide)
        refine lv_iload_n hx hb dX9_box_60 rfl (lv_at hl 0 rfl) ?_
        exact W.iret (v := (nI (N 1))) hx hb hr (fun t ht hW => ⟨⟨(nI (N 1)), (N14, n, a, r, f12), rfl, ⟨⟨hNB, hRB, hHT⟩, (by show ((nI (N 1)), ab N14 n a) = _; unfold sp_box; exact ((((if_neg (by first | exact c1 | exact nle_lt c1 | exact le_nlt c1 | exact nlt_le c1 | exact lt_nle c1 | exact fun h9 => h9 c1 | exact fun h9 => c1 h9.1 | exact dc1 | exact Nat.not_le.mpr dc1 | omega)).trans ((if_neg (by first | exact c2 | exact nle_lt c2 | exact le_nlt c2 | exact nlt_le c2 | exact lt_nle c2 | exact fun h9 => h9 c2 | exact fun h9 => c2 h9.1 | exact dc2 | exact Nat.not_le.mpr dc2 | omega)).trans (if_neg (by first | exact c5 | exact nle_lt c5 | exact le_nlt c5 | exact nlt_le c5 | exact lt_nle c5 | exact fun h9 => h9 c5 | exact fun h9 => c5 h9.1 | exact dc5 | exact Nat.not_le.mpr dc5 | omega))))).trans (by rw [eN14]; rfl)).symm)⟩, by rw [ht]; exact hP, va_K.moved hW.alike hK, hD⟩, hS.F ht⟩) hS.2.2 dX9_box_61
      · skip
        refine lv_iconst (v := (-1)) hx hb dX9_box_26 (by decide) ?_
        exact W.iret (v := (-1)) hx hb hr (fun t ht hW => ⟨⟨(-1), (N, n, a, r, f), rfl, ⟨⟨hNB, hRB, hHT⟩, (by show ((-1), ab N n a) = _; unfold sp_box; exact ((((if_neg (by first | exact c1 | exact nle_lt c1 | exact le_nlt c1 | exact nlt_le c1 | exact lt_nle c1 | exact fun h9 => h9 c1 | exact fun h9 => c1 h9.1 | exact dc1 | exact Nat.not_le.mpr dc1 | omega)).trans ((if_neg (by first | exact c2 | exact nle_lt c2 | exact le_nlt c2 | exact nlt_le c2 | exact lt_nle c2 | exact fun h9 => h9 c2 | exact fun h9 => c2 h9.1 | exact dc2 | exact Nat.not_le.mpr dc2 | omega)).trans (if_pos (by first | exact c5 | exact nle_lt c5 | exact le_nlt c5 | exact nlt_le c5 | exact lt_nle c5 | exact fun h9 => h9 c5 | exact fun h9 => c5 h9.1 | exact dc5 | exact Nat.not_le.mpr dc5 | omega))))).trans rfl).symm)⟩, by rw [ht]; exact hP, va_K.moved hW.alike hK, hD⟩, hS.F ht⟩) hS.2.2 dX9_box_27

theorem iX9_people_7 : ∀ w ∈ wsX70, w ∈ wsX9_people := fun _ h => List.mem_cons_of_mem _ (List.mem_append_right _ h)
theorem iX9_people_9 : ∀ w ∈ wsX90, w ∈ wsX9_people := fun _ h => List.mem_cons_of_mem _ (List.mem_append_left _ (List.mem_append_right _ h))
set_option maxHeartbeats 4000000 in
set_option maxRecDepth 100000 in
theorem zX9_people (l : Launch) (D : va_G) (x : Nat → Nat) (cy : Nat → ClassId) (g : Nat → Nat → Option Nat) (L : List Nat) (K : Nat → Nat) (hG : GO L K g) (N : Nat → Nat) (n : Nat → Int32) (a : Nat → Nat → Int32) (r : Nat → Nat → Option Nat) (f : Nat → va_E) (hC : CI L K cy N r f) (sz : Nat) (fe co wy : Int32) : Met l yX9_people wsX9_people ({ frames := 1, cells := 0, slots := 0, locals := 22 }) (PW D (TYS cy) (XW x cy g N n a r ++ va_pl L f) sz [.ref (x 0), .int fe, .int co, .int wy]) (va_Qi (fun (res : Int32) (u : ST) => CI L K cy u.1 u.2.2.2.1 u.2.2.2.2 ∧ (res, ab u.1 u.2.1 u.2.2.1) = sp_people fe co wy (ab N n a)) (BU D (TYS cy) (XW x cy g N n a r ++ va_pl L f) (WC x cy g L) sz) (va_A (XW x cy g N n a r ++ va_pl L f) sz)) 0 0 (va_A (XW x cy g N n a r ++ va_pl L f) sz) := by
  refine Met.ofW (cc := cX9_people) (maxL := 4) (ret := (some .boolean)) (by decide) rfl ?_
  intro p e s m args below meth c s₁ B hml hv
  obtain ⟨rfl, hsz, hP, hK, hD0⟩ := hv
  have hx := B.exec
  have hb := B.bytes
  have hr := B.returns
  have hts := atoms_spec (ws := wsX9_people) B.pre
  have hown : s.vm.findClass RX9 = some m.cls := findClass_of_methodNamed B.named
  have hlocks := B.notSynchronized
  subst hsz
  obtain ⟨hNB, hRB, hHT⟩ := hC
  have hSM : SM N N n n := SM_rf
  have hMM : MM N N a a := MM_rf
  have hD := hD0.self (sz := s.heap.size)
  have hA : ∀ q9 : Nat, s.heap.size ≤ q9 → va_A (XW x cy g N n a r ++ va_pl L f) s.heap.size q9 := fun q9 h => Or.inr h
  have hS : va_S (va_A (XW x cy g N n a r ++ va_pl L f) s.heap.size) s.heap s.heap [] := va_S.rf
  have hl := lv_entry ([.ref (x 0), .int fe, .int co, .int wy]) (n := 4) (Nat.le_of_ble_eq_true rfl)
  rw [lg_entry_eq]
  generalize (lg_sl ([.ref (x 0), .int fe, .int co, .int wy]) ++ List.replicate (4 - (lg_sl ([.ref (x 0), .int fe, .int co, .int wy])).length) Slot.unset).toArray = ls at hl ⊢
  have hl : lv_has ls 4 [(0, .ref (x 0)), (1, .int fe), (2, .int co), (3, .int wy)] := hl
  refine lv_aload_n hx hb dX9_people_0 rfl (lv_at hl 0 rfl) ?_
  refine va_get (D := D) (ci := 9) (v := .int (n 1)) (C := RX9) (T := TX9) (N := 19) hx hb hts iX9_people_9 hown hK hP 0 rfl rfl 14 (by decide) (hts (.fieldLink RX9 78 "FondsRoom" "turn" "I") (by decide +kernel)) (fun _ h9 => h9) rfl dX9_people_1 ?_
  refine lv_if_gt (tgt := 34) hx hb dX9_people_4 (by decide) (fun c1 => ?_) (fun c1 => ?_)
  · skip
    refine lv_iconst (v := 0) hx hb dX9_people_34 (by decide) ?_
    exact W.zret (v := 0) hx hb hr (rfl) (fun t ht hW => ⟨⟨0, (N, n, a, r, f), rfl, ⟨⟨hNB, hRB, hHT⟩, (by show (0, ab N n a) = _; unfold sp_people; exact (((if_pos (by first | exact c1 | exact nle_lt c1 | exact le_nlt c1 | exact nlt_le c1 | exact lt_nle c1 | exact fun h9 => h9 c1 | exact fun h9 => c1 h9.1 | exact dc1 | exact Nat.not_le.mpr dc1 | omega))).trans rfl).symm)⟩, by rw [ht]; exact hP, va_K.moved hW.alike hK, hD⟩, hS.F ht⟩) hS.2.2 dX9_people_35
  · skip
    refine lv_iload_n hx hb dX9_people_7 rfl (lv_at hl 1 rfl) ?_
    refine lv_iconst (v := 1) hx hb dX9_people_8 (by decide) ?_
    refine lv_iconst (v := 4) hx hb dX9_people_9 (by decide) ?_
    refine gsI (As := [.int fe, .int 1, .int 4]) (rest := []) ⟨hx, hb, hml, hown, hts⟩ (zX9_isWithin l D x cy g L K hG N n a r f ⟨hNB, hRB, hHT⟩ _  fe 1 4 ) (va_cwS 3 hts gX9_people_X9_isWithin rfl rfl rfl (by decide +kernel) ⟨Nat.le_of_ble_eq_true rfl, Nat.le_of_ble_eq_true rfl⟩) hK hP hD hS hA rfl hl.1 rfl (Nat.le_of_ble_eq_true rfl) dX9_people_10 ⟨Nat.le_of_ble_eq_true rfl, Nat.le_of_ble_eq_true rfl⟩ (fun q2 u3 H locs hq2 hP hD hS => ?_)
    have hP : va_P D vwCl (XW x cy g N n a r ++ va_pl L f) H := hP
    have hD : va_D _ (XW x cy g N n a r ++ va_pl L f) := hD
    obtain rfl : q2 = sp_in fe 1 4 := hq2
    refine lv_if_eq (tgt := 34) hx hb dX9_people_13 (by decide) (fun c4 => ?_) (fun c4 => ?_)
    · skip
      refine lv_iconst (v := 0) hx hb dX9_people_34 (by decide) ?_
      exact W.zret (v := 0) hx hb hr (rfl) (fun t ht hW => ⟨⟨0, (N, n, a, r, f), rfl, ⟨⟨hNB, hRB, hHT⟩, (by show (0, ab N n a) = _; unfold sp_people; exact ((((if_neg (by first | exact c1 | exact nle_lt c1 | exact le_nlt c1 | exact nlt_le c1 | exact lt_nle c1 | exact fun h9 => h9 c1 | exact fun h9 => c1 h9.1 | exact dc1 | exact Nat.not_le.mpr dc1 | omega)).trans (if_pos (by first | exact c4 | exact nle_lt c4 | exact le_nlt c4 | exact nlt_le c4 | exact lt_nle c4 | exact fun h9 => h9 c4 | exact fun h9 => c4 h9.1 | exact dc4 | exact Nat.not_le.mpr dc4 | omega)))).trans rfl).symm)⟩, by rw [ht]; exact hP, va_K.moved hW.alike hK, hD⟩, hS.F ht⟩) hS.2.2 dX9_people_35
    · skip
      refine lv_iload_n hx hb dX9_people_16 rfl (lv_at hl 2 rfl) ?_
      refine lv_iconst (v := 1) hx hb dX9_people_17 (by decide) ?_
      refine lv_iconst (v := 3) hx hb dX9_people_18 (by decide) ?_
      refine gsI (As := [.int co, .int 1, .int 3]) (rest := []) ⟨hx, hb, hml, hown, hts⟩ (zX9_isWithin l D x cy g L K hG N n a r f ⟨hNB, hRB, hHT⟩ _  co 1 3 ) (va_cwS 3 hts gX9_people_X9_isWithin rfl rfl rfl (by decide +kernel) ⟨Nat.le_of_ble_eq_true rfl, Nat.le_of_ble_eq_true rfl⟩) hK hP hD hS hA rfl hl.1 rfl (Nat.le_of_ble_eq_true rfl) dX9_people_19 ⟨Nat.le_of_ble_eq_true rfl, Nat.le_of_ble_eq_true rfl⟩ (fun q5 u6 H locs hq5 hP hD hS => ?_)
      have hP : va_P D vwCl (XW x cy g N n a r ++ va_pl L f) H := hP
      have hD : va_D _ (XW x cy g N n a r ++ va_pl L f) := hD
      obtain rfl : q5 = sp_in co 1 3 := hq5
      refine lv_if_eq (tgt := 34) hx hb dX9_people_22 (by decide) (fun c7 => ?_) (fun c7 => ?_)
      · skip
        refine lv_iconst (v := 0) hx hb dX9_people_34 (by decide) ?_
        exact W.zret (v := 0) hx hb hr (rfl) (fun t ht hW => ⟨⟨0, (N, n, a, r, f), rfl, ⟨⟨hNB, hRB, hHT⟩, (by show (0, ab N n a) = _; unfold sp_people; exact ((((if_neg (by first | exact c1 | exact nle_lt c1 | exact le_nlt c1 | exact nlt_le c1 | exact lt_nle c1 | exact fun h9 => h9 c1 | exact fun h9 => c1 h9.1 | exact dc1 | exact Nat.not_le.mpr dc1 | omega)).trans ((if_neg (by first | exact c4 | exact nle_lt c4 | exact le_nlt c4 | exact nlt_le c4 | exact lt_nle c4 | exact fun h9 => h9 c4 | exact fun h9 => c4 h9.1 | exact dc4 | exact Nat.not_le.mpr dc4 | omega)).trans (if_pos (by first | exact c7 | exact nle_lt c7 | exact le_nlt c7 | exact nlt_le c7 | exact lt_nle c7 | exact fun h9 => h9 c7 | exact fun h9 => c7 h9.1 | exact dc7 | exact Nat.not_le.mpr dc7 | omega))))).trans rfl).symm)⟩, by rw [ht]; exact hP, va_K.moved hW.alike hK, hD⟩, hS.F ht⟩) hS.2.2 dX9_people_35
      · skip
        refine lv_iload_n hx hb dX9_people_25 rfl (lv_at hl 3 rfl) ?_
        refine lv_iconst (v := 1) hx hb dX9_people_26 (by decide) ?_
        refine lv_iconst (v := 5) hx hb dX9_people_27 (by decide) ?_
        refine gsI (As := [.int wy, .int 1, .int 5]) (rest := []) ⟨hx, hb, hml, hown, hts⟩ (zX9_isWithin l D x cy g L K hG N n a r f ⟨hNB, hRB, hHT⟩ _  wy 1 5 ) (va_cwS 3 hts gX9_people_X9_isWithin rfl rfl rfl (by decide +kernel) ⟨Nat.le_of_ble_eq_true rfl, Nat.le_of_ble_eq_true rfl⟩) hK hP hD hS hA rfl hl.1 rfl (Nat.le_of_ble_eq_true rfl) dX9_people_28 ⟨Nat.le_of_ble_eq_true rfl, Nat.le_of_ble_eq_true rfl⟩ (fun q8 u9 H locs hq8 hP hD hS => ?_)
        have hP : va_P D vwCl (XW x cy g N n a r ++ va_pl L f) H := hP
        have hD : va_D _ (XW x cy g N n a r ++ va_pl L f) := hD
        obtain rfl : q8 = sp_in wy 1 5 := hq8
        refine lv_if_ne (tgt := 36) hx hb dX9_people_31 (by decide) (fun c10 => ?_) (fun c10 => ?_)
        · skip
          have nb0 : N 0 ≤ 12 := hNB 0 (by decide)
          have nb1 : N 1 ≤ 40 := hNB 1 (by decide)
          have nb2 : N 2 ≤ 20 := hNB 2 (by decide)
          have nb3 : N 3 ≤ 4 := hNB 3 (by decide)
          have nb4 : N 4 ≤ 3 := hNB 4 (by decide)
          have nb5 : N 5 ≤ 20 := hNB 5 (by decide)
          have nb6 : N 6 ≤ 20 := hNB 6 (by decide)
          have nb7 : N 7 ≤ 20 := hNB 7 (by decide)
          have nb8 : N 8 ≤ 30 := hNB 8 (by decide)
          have nb9 : N 9 ≤ 400 := hNB 9 (by decide)
          obtain ⟨jf, hjf0, hjf, rfl⟩ := in_nI (a := 1) (b := 4) rfl rfl (by decide) c4 (by decide)
          obtain ⟨jc, hjc0, hjc, rfl⟩ := in_nI (a := 1) (b := 3) rfl rfl (by decide) c7 (by decide)
          refine lv_aload_n hx hb dX9_people_36 rfl (lv_at hl 0 rfl) ?_
          refine va_get (D := D) (ci := 9) (v := .ref (x 4)) (C := RX9) (T := TX9) (N := 19) hx hb hts iX9_people_9 hown hK hP 0 rfl rfl 3 (by decide) (hts (.fieldLink RX9 37 "FondsRoom" "fetchers" "LFondsRoom$Staff;") (by decide +kernel)) (fun _ h9 => h9) rfl dX9_people_37 ?_
          refine lv_iload_n hx hb dX9_people_40 rfl (lv_at hl 1 rfl) ?_
          refine va_put (D := D) (ci := 7) (v := .int (nI jf)) (ty := .int) (C := RX7) (T := TX7) (N := 2) hx hb hts iX9_people_7 tyX7 tyX7_ok nmX7 hown hK hP hD hS 4 rfl rfl 1 (by decide) (hts (.fieldLink RX9 101 "FondsRoom$Staff" "hired" "I") (by decide +kernel)) (fun _ h9 => h9) rfl (by decide +kernel) rfl rfl (Nat.le_of_ble_eq_true rfl) dX9_people_41 (fun H locs hP hD hS => ?_)
          obtain ⟨N11, eN11⟩ : ∃ z, z = va_up N 3 jf := ⟨_, rfl⟩
          have hP : va_P D vwCl (XW x cy g N11 n a r ++ va_pl L f) H := by rw [eN11]; exact hP
          have hD : va_D (va_A (XW x cy g N n a r ++ va_pl L f) s.heap.size) (XW x cy g N11 n a r ++ va_pl L f) := by rw [eN11]; exact hD
          have hNB : NB N11 := by rw [eN11]; exact NB_up hNB 3 jf (by show jf ≤ 4; omega)
          have hRB : RB L K N11 r := by rw [eN11]; exact RB_N hRB 3 jf (fun j hj e9 => by omega)
          have hMM : MM N N11 a a := by rw [eN11]; exact MM_N hMM 3 jf (by decide)
          refine lv_aload_n hx hb dX9_people_44 rfl (lv_at hl 0 rfl) ?_
          refine va_get (D := D) (ci := 9) (v := .ref (x 6)) (C := RX9) (T := TX9) (N := 19) hx hb hts iX9_people_9 hown hK hP 0 rfl rfl 4 (by decide) (hts (.fieldLink RX9 41 "FondsRoom" "copyists" "LFondsRoom$Staff;") (by decide +kernel)) (fun _ h9 => h9) rfl dX9_people_45 ?_
          refine lv_iload_n hx hb dX9_people_48 rfl (lv_at hl 2 rfl) ?_
          refine va_put (D := D) (ci := 7) (v := .int (nI jc)) (ty := .int) (C := RX7) (T := TX7) (N := 2) hx hb hts iX9_people_7 tyX7 tyX7_ok nmX7 hown hK hP hD hS 6 rfl rfl 1 (by decide) (hts (.fieldLink RX9 101 "FondsRoom$Staff" "hired" "I") (by decide +kernel)) (fun _ h9 => h9) rfl (by decide +kernel) rfl rfl (Nat.le_of_ble_eq_true rfl) dX9_people_49 (fun H locs hP hD hS => ?_)
          obtain ⟨N12, eN12⟩ : ∃ z, z = va_up N11 4 jc := ⟨_, rfl⟩
          have hP : va_P D vwCl (XW x cy g N12 n a r ++ va_pl L f) H := by rw [eN12]; exact hP
          have hD : va_D (va_A (XW x cy g N n a r ++ va_pl L f) s.heap.size) (XW x cy g N12 n a r ++ va_pl L f) := by rw [eN12]; exact hD
          have hNB : NB N12 := by rw [eN12]; exact NB_up hNB 4 jc (by show jc ≤ 3; omega)
          have hRB : RB L K N12 r := by rw [eN12]; exact RB_N hRB 4 jc (fun j hj e9 => by omega)
          have hMM : MM N N12 a a := by rw [eN12]; exact MM_N hMM 4 jc (by decide)
          refine lv_aload_n hx hb dX9_people_52 rfl (lv_at hl 0 rfl) ?_
          refine lv_iload_n hx hb dX9_people_53 rfl (lv_at hl 3 rfl) ?_
          refine va_put (D := D) (ci := 9) (v := .int wy) (ty := .int) (C := RX9) (T := TX9) (N := 19) hx hb hts iX9_people_9 tyX9 tyX9_ok nmX9 hown hK hP hD hS 0 rfl rfl 13 (by decide) (hts (.fieldLink RX9 71 "FondsRoom" "way" "I") (by decide +kernel)) (fun _ h9 => h9) rfl (by decide +kernel) rfl rfl (Nat.le_of_ble_eq_true rfl) dX9_people_54 (fun H locs hP hD hS => ?_)
          obtain ⟨n13, en13⟩ : ∃ z, z = va_up n 0 wy := ⟨_, rfl⟩
          have hP : va_P D vwCl (XW x cy g N12 n13 a r ++ va_pl L f) H := by rw [en13]; exact hP
          have hD : va_D (va_A (XW x cy g N n a r ++ va_pl L f) s.heap.size) (XW x cy g N12 n13 a r ++ va_pl L f) := by rw [en13]; exact hD
          refine lv_iconst (v := 1) hx hb dX9_people_57 (by decide) ?_
          exact W.zret (v := 1) hx hb hr (rfl) (fun t ht hW => ⟨⟨1, (N12, n13, a, r, f), rfl, ⟨⟨hNB, hRB, hHT⟩, (by show (1, ab N12 n13 a) = _; unfold sp_people; exact ((((if_neg (by first | exact c1 | exact nle_lt c1 | exact le_nlt c1 | exact nlt_le c1 | exact lt_nle c1 | exact fun h9 => h9 c1 | exact fun h9 => c1 h9.1 | exact dc1 | exact Nat.not_le.mpr dc1 | omega)).trans ((if_neg (by first | exact c4 | exact nle_lt c4 | exact le_nlt c4 | exact nlt_le c4 | exact lt_nle c4 | exact fun h9 => h9 c4 | exact fun h9 => c4 h9.1 | exact dc4 | exact Nat.not_le.mpr dc4 | omega)).trans ((if_neg (by first | exact c7 | exact nle_lt c7 | exact le_nlt c7 | exact nlt_le c7 | exact lt_nle c7 | exact fun h9 => h9 c7 | exact fun h9 => c7 h9.1 | exact dc7 | exact Nat.not_le.mpr dc7 | omega)).trans (if_neg (by first | exact c10 | exact nle_lt c10 | exact le_nlt c10 | exact nlt_le c10 | exact lt_nle c10 | exact fun h9 => h9 c10 | exact fun h9 => c10 h9.1 | exact dc10 | exact Nat.not_le.mpr dc10 | omega)))))).trans (by rw [eN12, eN11, en13, nI_clamp (by omega), nI_clamp (by omega)]; rfl)).symm)⟩, by rw [ht]; exact hP, va_K.moved hW.alike hK, hD⟩, hS.F ht⟩) hS.2.2 dX9_people_58
        · skip
          refine lv_iconst (v := 0) hx hb dX9_people_34 (by decide) ?_
          exact W.zret (v := 0) hx hb hr (rfl) (fun t ht hW => ⟨⟨0, (N, n, a, r, f), rfl, ⟨⟨hNB, hRB, hHT⟩, (by show (0, ab N n a) = _; unfold sp_people; exact ((((if_neg (by first | exact c1 | exact nle_lt c1 | exact le_nlt c1 | exact nlt_le c1 | exact lt_nle c1 | exact fun h9 => h9 c1 | exact fun h9 => c1 h9.1 | exact dc1 | exact Nat.not_le.mpr dc1 | omega)).trans ((if_neg (by first | exact c4 | exact nle_lt c4 | exact le_nlt c4 | exact nlt_le c4 | exact lt_nle c4 | exact fun h9 => h9 c4 | exact fun h9 => c4 h9.1 | exact dc4 | exact Nat.not_le.mpr dc4 | omega)).trans ((if_neg (by first | exact c7 | exact nle_lt c7 | exact le_nlt c7 | exact nlt_le c7 | exact lt_nle c7 | exact fun h9 => h9 c7 | exact fun h9 => c7 h9.1 | exact dc7 | exact Nat.not_le.mpr dc7 | omega)).trans (if_pos (by first | exact c10 | exact nle_lt c10 | exact le_nlt c10 | exact nlt_le c10 | exact lt_nle c10 | exact fun h9 => h9 c10 | exact fun h9 => c10 h9.1 | exact dc10 | exact Nat.not_le.mpr dc10 | omega)))))).trans rfl).symm)⟩, by rw [ht]; exact hP, va_K.moved hW.alike hK, hD⟩, hS.F ht⟩) hS.2.2 dX9_people_35

theorem iX9_bellHasBeen_9 : ∀ w ∈ wsX90, w ∈ wsX9_bellHasBeen := fun _ h => List.mem_cons_of_mem _ (List.mem_append_right _ h)
set_option maxHeartbeats 4000000 in
set_option maxRecDepth 100000 in
theorem zX9_bellHasBeen (l : Launch) (D : va_G) (x : Nat → Nat) (cy : Nat → ClassId) (g : Nat → Nat → Option Nat) (L : List Nat) (K : Nat → Nat) (hG : GO L K g) (N : Nat → Nat) (n : Nat → Int32) (a : Nat → Nat → Int32) (r : Nat → Nat → Option Nat) (f : Nat → va_E) (hC : CI L K cy N r f) (sz : Nat) : Met l yX9_bellHasBeen wsX9_bellHasBeen ({ frames := 0, cells := 0, slots := 0, locals := 0 }) (PW D (TYS cy) (XW x cy g N n a r ++ va_pl L f) sz [.ref (x 0)]) (va_Qi (fun (res : Int32) (u : Unit) => b01 res ∧ (¬ res = 0 ↔ (¬ n 2 = -1 ∧ n 2 ≤ n 1))) (BU D (TYS cy) (XW x cy g N n a r ++ va_pl L f) (fun _ => XW x cy g N n a r ++ va_pl L f) sz) (va_A (XW x cy g N n a r ++ va_pl L f) sz)) 0 0 (va_A (XW x cy g N n a r ++ va_pl L f) sz) := by
  refine Met.ofW (cc := cX9_bellHasBeen) (maxL := 1) (ret := (some .boolean)) (by decide) rfl ?_
  intro p e s m args below meth c s₁ B hml hv
  obtain ⟨rfl, hsz, hP, hK, hD0⟩ := hv
  have hx := B.exec
  have hb := B.bytes
  have hr := B.returns
  have hts := atoms_spec (ws := wsX9_bellHasBeen) B.pre
  have hown : s.vm.findClass RX9 = some m.cls := findClass_of_methodNamed B.named
  have hlocks := B.notSynchronized
  subst hsz
  obtain ⟨hNB, hRB, hHT⟩ := hC
  have hSM : SM N N n n := SM_rf
  have hMM : MM N N a a := MM_rf
  have hD := hD0.self (sz := s.heap.size)
  have hA : ∀ q9 : Nat, s.heap.size ≤ q9 → va_A (XW x cy g N n a r ++ va_pl L f) s.heap.size q9 := fun q9 h => Or.inr h
  have hS : va_S (va_A (XW x cy g N n a r ++ va_pl L f) s.heap.size) s.heap s.heap [] := va_S.rf
  have hl := lv_entry ([.ref (x 0)]) (n := 1) (Nat.le_of_ble_eq_true rfl)
  rw [lg_entry_eq]
  generalize (lg_sl ([.ref (x 0)]) ++ List.replicate (1 - (lg_sl ([.ref (x 0)])).length) Slot.unset).toArray = ls at hl ⊢
  have hl : lv_has ls 1 [(0, .ref (x 0))] := hl
  refine lv_aload_n hx hb dX9_bellHasBeen_0 rfl (lv_at hl 0 rfl) ?_
  refine va_get (D := D) (ci := 9) (v := .int (n 2)) (C := RX9) (T := TX9) (N := 19) hx hb hts iX9_bellHasBeen_9 hown hK hP 0 rfl rfl 15 (by decide) (hts (.fieldLink RX9 75 "FondsRoom" "bellTurn" "I") (by decide +kernel)) (fun _ h9 => h9) rfl dX9_bellHasBeen_1 ?_
  refine lv_iconst (v := (-1)) hx hb dX9_bellHasBeen_4 (by decide) ?_
  refine lv_icmp_eq (tgt := 23) hx hb dX9_bellHasBeen_5 (by decide) (fun c1 => ?_) (fun c1 => ?_)
  · skip
    refine lv_iconst (v := 0) hx hb dX9_bellHasBeen_23 (by decide) ?_
    exact W.zret (v := 0) hx hb hr (rfl) (fun t ht hW => ⟨⟨0, (), rfl, ⟨Or.inl rfl, fun h9 => absurd rfl h9, fun h9 => absurd c1 h9.1⟩, by rw [ht]; exact hP, va_K.moved hW.alike hK, hD⟩, hS.F ht⟩) hS.2.2 dX9_bellHasBeen_24
  · skip
    refine lv_aload_n hx hb dX9_bellHasBeen_8 rfl (lv_at hl 0 rfl) ?_
    refine va_get (D := D) (ci := 9) (v := .int (n 1)) (C := RX9) (T := TX9) (N := 19) hx hb hts iX9_bellHasBeen_9 hown hK hP 0 rfl rfl 14 (by decide) (hts (.fieldLink RX9 78 "FondsRoom" "turn" "I") (by decide +kernel)) (fun _ h9 => h9) rfl dX9_bellHasBeen_9 ?_
    refine lv_aload_n hx hb dX9_bellHasBeen_12 rfl (lv_at hl 0 rfl) ?_
    refine va_get (D := D) (ci := 9) (v := .int (n 2)) (C := RX9) (T := TX9) (N := 19) hx hb hts iX9_bellHasBeen_9 hown hK hP 0 rfl rfl 15 (by decide) (hts (.fieldLink RX9 75 "FondsRoom" "bellTurn" "I") (by decide +kernel)) (fun _ h9 => h9) rfl dX9_bellHasBeen_13 ?_
    refine lv_icmp_lt (tgt := 23) hx hb dX9_bellHasBeen_16 (by decide) (fun c2 => ?_) (fun c2 => ?_)
    · skip
      refine lv_iconst (v := 0) hx hb dX9_bellHasBeen_23 (by decide) ?_
      exact W.zret (v := 0) hx hb hr (rfl) (fun t ht hW => ⟨⟨0, (), rfl, ⟨Or.inl rfl, fun h9 => absurd rfl h9, fun h9 => absurd c2 (le_nlt h9.2)⟩, by rw [ht]; exact hP, va_K.moved hW.alike hK, hD⟩, hS.F ht⟩) hS.2.2 dX9_bellHasBeen_24
    · skip
      refine lv_iconst (v := 1) hx hb dX9_bellHasBeen_19 (by decide) ?_
      refine lv_goto (tgt := 24) hx hb dX9_bellHasBeen_20 (by decide) ?_
      exact W.zret (v := 1) hx hb hr (rfl) (fun t ht hW => ⟨⟨1, (), rfl, ⟨Or.inr rfl, fun _ => ⟨c1, nlt_le c2⟩, fun _ => by decide⟩, by rw [ht]; exact hP, va_K.moved hW.alike hK, hD⟩, hS.F ht⟩) hS.2.2 dX9_bellHasBeen_24

theorem iX9_reader_6 : ∀ w ∈ wsX60, w ∈ wsX9_reader := fun _ h => List.mem_cons_of_mem _ (List.mem_append_right _ h)
theorem iX9_reader_9 : ∀ w ∈ wsX90, w ∈ wsX9_reader := fun _ h => List.mem_cons_of_mem _ (List.mem_append_left _ (List.mem_append_right _ h))
set_option maxHeartbeats 4000000 in
set_option maxRecDepth 100000 in
theorem zX9_reader (l : Launch) (D : va_G) (x : Nat → Nat) (cy : Nat → ClassId) (g : Nat → Nat → Option Nat) (L : List Nat) (K : Nat → Nat) (hG : GO L K g) (N : Nat → Nat) (n : Nat → Int32) (a : Nat → Nat → Int32) (r : Nat → Nat → Option Nat) (f : Nat → va_E) (hC : CI L K cy N r f) (sz : Nat) (ar rk z1 : Int32) (zz1 : b01 z1) : Met l yX9_reader wsX9_reader ({ frames := 1, cells := 0, slots := 0, locals := 22 }) (PW D (TYS cy) (XW x cy g N n a r ++ va_pl L f) sz [.ref (x 0), .int ar, .int rk, .int z1]) (va_Qi (fun (res : Int32) (u : ST) => CI L K cy u.1 u.2.2.2.1 u.2.2.2.2 ∧ (res, ab u.1 u.2.1 u.2.2.1) = sp_reader ar rk (ab N n a)) (BU D (TYS cy) (XW x cy g N n a r ++ va_pl L f) (WC x cy g L) sz) (va_A (XW x cy g N n a r ++ va_pl L f) sz)) 0 0 (va_A (XW x cy g N n a r ++ va_pl L f) sz) := by
  refine Met.ofW (cc := cX9_reader) (maxL := 6) (ret := (some .int)) (by decide) rfl ?_
  intro p e s m args below meth c s₁ B hml hv
  obtain ⟨rfl, hsz, hP, hK, hD0⟩ := hv
  have hx := B.exec
  have hb := B.bytes
  have hr := B.returns
  have hts := atoms_spec (ws := wsX9_reader) B.pre
  have hown : s.vm.findClass RX9 = some m.cls := findClass_of_methodNamed B.named
  have hlocks := B.notSynchronized
  subst hsz
  obtain ⟨hNB, hRB, hHT⟩ := hC
  have hSM : SM N N n n := SM_rf
  have hMM : MM N N a a := MM_rf
  have hD := hD0.self (sz := s.heap.size)
  have hA : ∀ q9 : Nat, s.heap.size ≤ q9 → va_A (XW x cy g N n a r ++ va_pl L f) s.heap.size q9 := fun q9 h => Or.inr h
  have hS : va_S (va_A (XW x cy g N n a r ++ va_pl L f) s.heap.size) s.heap s.heap [] := va_S.rf
  have hl := lv_entry ([.ref (x 0), .int ar, .int rk, .int z1]) (n := 6) (Nat.le_of_ble_eq_true rfl)
  rw [lg_entry_eq]
  generalize (lg_sl ([.ref (x 0), .int ar, .int rk, .int z1]) ++ List.replicate (6 - (lg_sl ([.ref (x 0), .int ar, .int rk, .int z1])).length) Slot.unset).toArray = ls at hl ⊢
  have hl : lv_has ls 6 [(0, .ref (x 0)), (1, .int ar), (2, .int rk), (3, .int z1)] := hl
  refine lv_aload_n hx hb dX9_reader_0 rfl (lv_at hl 0 rfl) ?_
  refine va_get (D := D) (ci := 9) (v := .int (nI (N 2))) (C := RX9) (T := TX9) (N := 19) hx hb hts iX9_reader_9 hown hK hP 0 rfl rfl 12 (by decide) (hts (.fieldLink RX9 104 "FondsRoom" "readerCount" "I") (by decide +kernel)) (fun _ h9 => h9) rfl dX9_reader_1 ?_
  refine lv_bipush (v := 20) hx hb dX9_reader_4 (by decide) ?_
  refine lv_icmp_ge (tgt := 36) hx hb dX9_reader_6 (by decide) (fun c1 => ?_) (fun c1 => ?_)
  · skip
    have nb0 : N 0 ≤ 12 := hNB 0 (by decide)
    have nb1 : N 1 ≤ 40 := hNB 1 (by decide)
    have nb2 : N 2 ≤ 20 := hNB 2 (by decide)
    have nb3 : N 3 ≤ 4 := hNB 3 (by decide)
    have nb4 : N 4 ≤ 3 := hNB 4 (by decide)
    have nb5 : N 5 ≤ 20 := hNB 5 (by decide)
    have nb6 : N 6 ≤ 20 := hNB 6 (by decide)
    have nb7 : N 7 ≤ 20 := hNB 7 (by decide)
    have nb8 : N 8 ≤ 30 := hNB 8 (by decide)
    have nb9 : N 9 ≤ 400 := hNB 9 (by decide)
    have dc1 : 20 ≤ (N 2) := (nI_leI (a := 20) (b := (N 2)) (by omega) (by omega)).mp c1
    refine lv_iconst (v := (-1)) hx hb dX9_reader_36 (by decide) ?_
    exact W.iret (v := (-1)) hx hb hr (fun t ht hW => ⟨⟨(-1), (N, n, a, r, f), rfl, ⟨⟨hNB, hRB, hHT⟩, (by show ((-1), ab N n a) = _; unfold sp_reader; exact (((if_pos (by first | exact c1 | exact nle_lt c1 | exact le_nlt c1 | exact nlt_le c1 | exact lt_nle c1 | exact fun h9 => h9 c1 | exact fun h9 => c1 h9.1 | exact dc1 | exact Nat.not_le.mpr dc1 | omega))).trans rfl).symm)⟩, by rw [ht]; exact hP, va_K.moved hW.alike hK, hD⟩, hS.F ht⟩) hS.2.2 dX9_reader_37
  · skip
    have nb0 : N 0 ≤ 12 := hNB 0 (by decide)
    have nb1 : N 1 ≤ 40 := hNB 1 (by decide)
    have nb2 : N 2 ≤ 20 := hNB 2 (by decide)
    have nb3 : N 3 ≤ 4 := hNB 3 (by decide)
    have nb4 : N 4 ≤ 3 := hNB 4 (by decide)
    have nb5 : N 5 ≤ 20 := hNB 5 (by decide)
    have nb6 : N 6 ≤ 20 := hNB 6 (by decide)
    have nb7 : N 7 ≤ 20 := hNB 7 (by decide)
    have nb8 : N 8 ≤ 30 := hNB 8 (by decide)
    have nb9 : N 9 ≤ 400 := hNB 9 (by decide)
    have dc1 : (N 2) < 20 := Nat.not_le.mp (fun h9 => c1 ((nI_leI (a := 20) (b := (N 2)) (by omega) (by omega)).mpr h9))
    refine lv_iload_n hx hb dX9_reader_9 rfl (lv_at hl 1 rfl) ?_
    refine lv_iconst (v := 1) hx hb dX9_reader_10 (by decide) ?_
    refine lv_sipush (v := 1000) hx hb dX9_reader_11 (by decide) ?_
    refine gsI (As := [.int ar, .int 1, .int 1000]) (rest := []) ⟨hx, hb, hml, hown, hts⟩ (zX9_isWithin l D x cy g L K hG N n a r f ⟨hNB, hRB, hHT⟩ _  ar 1 1000 ) (va_cwS 3 hts gX9_reader_X9_isWithin rfl rfl rfl (by decide +kernel) ⟨Nat.le_of_ble_eq_true rfl, Nat.le_of_ble_eq_true rfl⟩) hK hP hD hS hA rfl hl.1 rfl (Nat.le_of_ble_eq_true rfl) dX9_reader_14 ⟨Nat.le_of_ble_eq_true rfl, Nat.le_of_ble_eq_true rfl⟩ (fun q2 u3 H locs hq2 hP hD hS => ?_)
    have hP : va_P D vwCl (XW x cy g N n a r ++ va_pl L f) H := hP
    have hD : va_D _ (XW x cy g N n a r ++ va_pl L f) := hD
    obtain rfl : q2 = sp_in ar 1 1000 := hq2
    refine lv_if_eq (tgt := 36) hx hb dX9_reader_17 (by decide) (fun c4 => ?_) (fun c4 => ?_)
    · skip
      refine lv_iconst (v := (-1)) hx hb dX9_reader_36 (by decide) ?_
      exact W.iret (v := (-1)) hx hb hr (fun t ht hW => ⟨⟨(-1), (N, n, a, r, f), rfl, ⟨⟨hNB, hRB, hHT⟩, (by show ((-1), ab N n a) = _; unfold sp_reader; exact ((((if_neg (by first | exact c1 | exact nle_lt c1 | exact le_nlt c1 | exact nlt_le c1 | exact lt_nle c1 | exact fun h9 => h9 c1 | exact fun h9 => c1 h9.1 | exact dc1 | exact Nat.not_le.mpr dc1 | omega)).trans (if_pos (by first | exact c4 | exact nle_lt c4 | exact le_nlt c4 | exact nlt_le c4 | exact lt_nle c4 | exact fun h9 => h9 c4 | exact fun h9 => c4 h9.1 | exact dc4 | exact Nat.not_le.mpr dc4 | omega)))).trans rfl).symm)⟩, by rw [ht]; exact hP, va_K.moved hW.alike hK, hD⟩, hS.F ht⟩) hS.2.2 dX9_reader_37
    · skip
      refine lv_iload_n hx hb dX9_reader_20 rfl (lv_at hl 2 rfl) ?_
      refine lv_iconst (v := 0) hx hb dX9_reader_21 (by decide) ?_
      refine lv_iconst (v := 3) hx hb dX9_reader_22 (by decide) ?_
      refine gsI (As := [.int rk, .int 0, .int 3]) (rest := []) ⟨hx, hb, hml, hown, hts⟩ (zX9_isWithin l D x cy g L K hG N n a r f ⟨hNB, hRB, hHT⟩ _  rk 0 3 ) (va_cwS 3 hts gX9_reader_X9_isWithin rfl rfl rfl (by decide +kernel) ⟨Nat.le_of_ble_eq_true rfl, Nat.le_of_ble_eq_true rfl⟩) hK hP hD hS hA rfl hl.1 rfl (Nat.le_of_ble_eq_true rfl) dX9_reader_23 ⟨Nat.le_of_ble_eq_true rfl, Nat.le_of_ble_eq_true rfl⟩ (fun q5 u6 H locs hq5 hP hD hS => ?_)
      have hP : va_P D vwCl (XW x cy g N n a r ++ va_pl L f) H := hP
      have hD : va_D _ (XW x cy g N n a r ++ va_pl L f) := hD
      obtain rfl : q5 = sp_in rk 0 3 := hq5
      refine lv_if_eq (tgt := 36) hx hb dX9_reader_26 (by decide) (fun c7 => ?_) (fun c7 => ?_)
      · skip
        refine lv_iconst (v := (-1)) hx hb dX9_reader_36 (by decide) ?_
        exact W.iret (v := (-1)) hx hb hr (fun t ht hW => ⟨⟨(-1), (N, n, a, r, f), rfl, ⟨⟨hNB, hRB, hHT⟩, (by show ((-1), ab N n a) = _; unfold sp_reader; exact ((((if_neg (by first | exact c1 | exact nle_lt c1 | exact le_nlt c1 | exact nlt_le c1 | exact lt_nle c1 | exact fun h9 => h9 c1 | exact fun h9 => c1 h9.1 | exact dc1 | exact Nat.not_le.mpr dc1 | omega)).trans ((if_neg (by first | exact c4 | exact nle_lt c4 | exact le_nlt c4 | exact nlt_le c4 | exact lt_nle c4 | exact fun h9 => h9 c4 | exact fun h9 => c4 h9.1 | exact dc4 | exact Nat.not_le.mpr dc4 | omega)).trans (if_pos (by first | exact c7 | exact nle_lt c7 | exact le_nlt c7 | exact nlt_le c7 | exact lt_nle c7 | exact fun h9 => h9 c7 | exact fun h9 => c7 h9.1 | exact dc7 | exact Nat.not_le.mpr dc7 | omega))))).trans rfl).symm)⟩, by rw [ht]; exact hP, va_K.moved hW.alike hK, hD⟩, hS.F ht⟩) hS.2.2 dX9_reader_37
      · skip
        refine lv_aload_n hx hb dX9_reader_29 rfl (lv_at hl 0 rfl) ?_
        refine gvI (As := []) (rest := []) ⟨hx, hb, hml, hown, hts⟩ (zX9_bellHasBeen l D x cy g L K hG N n a r f ⟨hNB, hRB, hHT⟩ _   ) (cwV 0 hts gX9_reader_X9_bellHasBeen rfl rfl rfl (by decide +kernel) ⟨Nat.le_of_ble_eq_true rfl, Nat.le_of_ble_eq_true rfl⟩) hK hP hD hS hA (va_recv hK hP (ci := 9) (q0 := 0) rfl rfl) rfl hl.1 rfl (Nat.le_of_ble_eq_true rfl) dX9_reader_30 ⟨Nat.le_of_ble_eq_true rfl, Nat.le_of_ble_eq_true rfl⟩ (fun q8 u9 H locs hq8 hP hD hS => ?_)
        have hP : va_P D vwCl (XW x cy g N n a r ++ va_pl L f) H := hP
        have hD : va_D _ (XW x cy g N n a r ++ va_pl L f) := hD
        refine lv_if_eq (tgt := 38) hx hb dX9_reader_33 (by decide) (fun c10 => ?_) (fun c10 => ?_)
        · skip
          refine lv_aload_n hx hb dX9_reader_38 rfl (lv_at hl 0 rfl) ?_
          refine va_get (D := D) (ci := 9) (v := .int (nI (N 2))) (C := RX9) (T := TX9) (N := 19) hx hb hts iX9_reader_9 hown hK hP 0 rfl rfl 12 (by decide) (hts (.fieldLink RX9 104 "FondsRoom" "readerCount" "I") (by decide +kernel)) (fun _ h9 => h9) rfl dX9_reader_39 ?_
          refine lv_istore (lv' := [(4, .int (nI (N 2))), (0, .ref (x 0)), (1, .int ar), (2, .int rk), (3, .int z1)]) hx hb dX9_reader_42 hl (by decide) rfl (fun ls hl => ?_)
          refine lv_aload_n hx hb dX9_reader_44 rfl (lv_at hl 1 rfl) ?_
          refine va_get (D := D) (ci := 9) (v := .ref (x 3)) (C := RX9) (T := TX9) (N := 19) hx hb hts iX9_reader_9 hown hK hP 0 rfl rfl 2 (by decide) (hts (.fieldLink RX9 27 "FondsRoom" "readers" "[LFondsRoom$Reader;") (by decide +kernel)) (fun _ h9 => h9) rfl dX9_reader_45 ?_
          refine lv_iload hx hb dX9_reader_48 (lv_at hl 0 rfl) ?_
          refine va_aldq hx hb hK hP 3 4 rfl rfl (vp_in_nI (by omega) (by omega)) dX9_reader_50 ?_
          obtain ⟨p11, ep11, mp11, kp11⟩ := hG.2.2.1 (N 2) (by omega)
          refine lv_tov (v' := .ref p11) (by rw [nI_clamp (by omega)]; show va_rf (g 2 (N 2)) = _; rw [ep11]; rfl) ?_
          refine lv_astore (lv' := [(5, .ref p11), (4, .int (nI (N 2))), (0, .ref (x 0)), (1, .int ar), (2, .int rk), (3, .int z1)]) hx hb dX9_reader_51 hl (by decide) rfl (fun ls hl => ?_)
          refine lv_aload hx hb dX9_reader_53 (lv_at hl 0 rfl) ?_
          refine lv_iload_n hx hb dX9_reader_55 rfl (lv_at hl 3 rfl) ?_
          obtain ⟨n_o12, p_o12, ar_o12, rk_o12, nw_o12, st_o12, ct_o12, d_o12, aw_o12, rl_o12, cp_o12, cu_o12, w1_o12, w2_o12, w3_o12, ov_o12, co_o12, hf_o12, sp_o12, snw_o12, sd_o12, saw_o12, scu_o12⟩ : TE L K cy 6 (f p11) := by rw [← kp11]; exact hHT p11 mp11
          refine pg_put (D := D) (ci := 6) (v := .int ar) (ty := .int) (C := RX6) (T := TX6) (N := 17) hx hb hts iX9_reader_6 tyX6 tyX6_ok nmX6 hown hK hP hD hS mp11 hf_o12 rfl 2 (by decide) (hts (.fieldLink RX9 111 "FondsRoom$Reader" "arrival" "I") (by decide +kernel)) (fun _ h9 => h9) rfl (by decide +kernel) rfl rfl (Nat.le_of_ble_eq_true rfl) dX9_reader_56 (fun H locs hP hD hS => ?_)
          obtain ⟨f13, ef13⟩ : ∃ z, z = va_up f p11 (.inr (6, [.int n_o12, .ref p_o12, .int ar, .int rk_o12, .int nw_o12, .int st_o12, .int ct_o12, va_rf d_o12, va_rf aw_o12, .int rl_o12, .int cp_o12, .int cu_o12, .int w1_o12, .int w2_o12, .int w3_o12, .int ov_o12, .int co_o12])) := ⟨_, rfl⟩
          have hP : va_P D vwCl (XW x cy g N n a r ++ va_pl L f13) H := by rw [ef13]; exact hP
          have hD : va_D (va_A (XW x cy g N n a r ++ va_pl L f) s.heap.size) (XW x cy g N n a r ++ va_pl L f13) := by rw [ef13]; exact hD
          have hHT : HT L K cy f13 := by rw [ef13]; exact HT_up hHT 6 kp11 ⟨n_o12, p_o12, ar, rk_o12, nw_o12, st_o12, ct_o12, d_o12, aw_o12, rl_o12, cp_o12, cu_o12, w1_o12, w2_o12, w3_o12, ov_o12, co_o12, rfl, ⟨sp_o12.1, sp_o12.2⟩, snw_o12, sd_o12, saw_o12, scu_o12⟩
          have hf14 : f13 p11 = .inr (6, [.int n_o12, .ref p_o12, .int ar, .int rk_o12, .int nw_o12, .int st_o12, .int ct_o12, va_rf d_o12, va_rf aw_o12, .int rl_o12, .int cp_o12, .int cu_o12, .int w1_o12, .int w2_o12, .int w3_o12, .int ov_o12, .int co_o12]) := by rw [ef13]; exact va_up_self _ _ _
          refine lv_aload hx hb dX9_reader_59 (lv_at hl 0 rfl) ?_
          refine lv_iload_n hx hb dX9_reader_61 rfl (lv_at hl 4 rfl) ?_
          refine pg_put (D := D) (ci := 6) (v := .int rk) (ty := .int) (C := RX6) (T := TX6) (N := 17) hx hb hts iX9_reader_6 tyX6 tyX6_ok nmX6 hown hK hP hD hS mp11 hf14 rfl 3 (by decide) (hts (.fieldLink RX9 114 "FondsRoom$Reader" "rank" "I") (by decide +kernel)) (fun _ h9 => h9) rfl (by decide +kernel) rfl rfl (Nat.le_of_ble_eq_true rfl) dX9_reader_62 (fun H locs hP hD hS => ?_)
          obtain ⟨f15, ef15⟩ : ∃ z, z = va_up f13 p11 (.inr (6, [.int n_o12, .ref p_o12, .int ar, .int rk, .int nw_o12, .int st_o12, .int ct_o12, va_rf d_o12, va_rf aw_o12, .int rl_o12, .int cp_o12, .int cu_o12, .int w1_o12, .int w2_o12, .int w3_o12, .int ov_o12, .int co_o12])) := ⟨_, rfl⟩
          have hP : va_P D vwCl (XW x cy g N n a r ++ va_pl L f15) H := by rw [ef15]; exact hP
          have hD : va_D (va_A (XW x cy g N n a r ++ va_pl L f) s.heap.size) (XW x cy g N n a r ++ va_pl L f15) := by rw [ef15]; exact hD
          have hHT : HT L K cy f15 := by rw [ef15]; exact HT_up hHT 6 kp11 ⟨n_o12, p_o12, ar, rk, nw_o12, st_o12, ct_o12, d_o12, aw_o12, rl_o12, cp_o12, cu_o12, w1_o12, w2_o12, w3_o12, ov_o12, co_o12, rfl, ⟨sp_o12.1, sp_o12.2⟩, snw_o12, sd_o12, saw_o12, scu_o12⟩
          have hf16 : f15 p11 = .inr (6, [.int n_o12, .ref p_o12, .int ar, .int rk, .int nw_o12, .int st_o12, .int ct_o12, va_rf d_o12, va_rf aw_o12, .int rl_o12, .int cp_o12, .int cu_o12, .int w1_o12, .int w2_o12, .int w3_o12, .int ov_o12, .int co_o12]) := by rw [ef15]; exact va_up_self _ _ _
          refine lv_aload hx hb dX9_reader_65 (lv_at hl 0 rfl) ?_
          refine lv_iload_n hx hb dX9_reader_67 rfl (lv_at hl 5 rfl) ?_
          refine pg_put (D := D) (ci := 6) (v := .int z1) (ty := .boolean) (C := RX6) (T := TX6) (N := 17) hx hb hts iX9_reader_6 tyX6 tyX6_ok nmX6 hown hK hP hD hS mp11 hf16 rfl 4 (by decide) (hts (.fieldLink RX9 117 "FondsRoom$Reader" "needsWatched" "Z") (by decide +kernel)) (fun _ h9 => h9) rfl (by decide +kernel) (nz01 zz1).1 (nz01 zz1).2 (Nat.le_of_ble_eq_true rfl) dX9_reader_68 (fun H locs hP hD hS => ?_)
          obtain ⟨f17, ef17⟩ : ∃ z, z = va_up f15 p11 (.inr (6, [.int n_o12, .ref p_o12, .int ar, .int rk, .int z1, .int st_o12, .int ct_o12, va_rf d_o12, va_rf aw_o12, .int rl_o12, .int cp_o12, .int cu_o12, .int w1_o12, .int w2_o12, .int w3_o12, .int ov_o12, .int co_o12])) := ⟨_, rfl⟩
          have hP : va_P D vwCl (XW x cy g N n a r ++ va_pl L f17) H := by rw [ef17]; exact hP
          have hD : va_D (va_A (XW x cy g N n a r ++ va_pl L f) s.heap.size) (XW x cy g N n a r ++ va_pl L f17) := by rw [ef17]; exact hD
          have hHT : HT L K cy f17 := by rw [ef17]; exact HT_up hHT 6 kp11 ⟨n_o12, p_o12, ar, rk, z1, st_o12, ct_o12, d_o12, aw_o12, rl_o12, cp_o12, cu_o12, w1_o12, w2_o12, w3_o12, ov_o12, co_o12, rfl, ⟨sp_o12.1, sp_o12.2⟩, zz1, sd_o12, saw_o12, scu_o12⟩
          have hf18 : f17 p11 = .inr (6, [.int n_o12, .ref p_o12, .int ar, .int rk, .int z1, .int st_o12, .int ct_o12, va_rf d_o12, va_rf aw_o12, .int rl_o12, .int cp_o12, .int cu_o12, .int w1_o12, .int w2_o12, .int w3_o12, .int ov_o12, .int co_o12]) := by rw [ef17]; exact va_up_self _ _ _
          refine lv_aload_n hx hb dX9_reader_71 rfl (lv_at hl 2 rfl) ?_
          refine lv_iload hx hb dX9_reader_72 (lv_at hl 1 rfl) ?_
          refine lv_iconst (v := 1) hx hb dX9_reader_74 (by decide) ?_
          refine lv_iadd hx hb dX9_reader_75 ?_
          refine lv_tov (v' := .int (nI ((N 2) + 1))) (congrArg Value.int (nI_add (N 2) 1)) ?_
          refine va_put (D := D) (ci := 9) (v := .int (nI ((N 2) + 1))) (ty := .int) (C := RX9) (T := TX9) (N := 19) hx hb hts iX9_reader_9 tyX9 tyX9_ok nmX9 hown hK hP hD hS 0 rfl rfl 12 (by decide) (hts (.fieldLink RX9 104 "FondsRoom" "readerCount" "I") (by decide +kernel)) (fun _ h9 => h9) rfl (by decide +kernel) rfl rfl (Nat.le_of_ble_eq_true rfl) dX9_reader_76 (fun H locs hP hD hS => ?_)
          obtain ⟨N19, eN19⟩ : ∃ z, z = va_up N 2 ((N 2) + 1) := ⟨_, rfl⟩
          have hP : va_P D vwCl (XW x cy g N19 n a r ++ va_pl L f17) H := by rw [eN19]; exact hP
          have hD : va_D (va_A (XW x cy g N n a r ++ va_pl L f) s.heap.size) (XW x cy g N19 n a r ++ va_pl L f17) := by rw [eN19]; exact hD
          have hNB : NB N19 := by rw [eN19]; exact NB_up hNB 2 ((N 2) + 1) (by show ((N 2) + 1) ≤ 20; omega)
          have hRB : RB L K N19 r := by rw [eN19]; exact RB_N hRB 2 ((N 2) + 1) (fun j hj e9 => by omega)
          have hMM : MM N N19 a a := by rw [eN19]; exact MM_N hMM 2 ((N 2) + 1) (by decide)
          refine lv_iload hx hb dX9_reader_79 (lv_at hl 1 rfl) ?_
          exact W.iret (v := (nI (N 2))) hx hb hr (fun t ht hW => ⟨⟨(nI (N 2)), (N19, n, a, r, f17), rfl, ⟨⟨hNB, hRB, hHT⟩, (by show ((nI (N 2)), ab N19 n a) = _; unfold sp_reader; exact ((((if_neg (by first | exact c1 | exact nle_lt c1 | exact le_nlt c1 | exact nlt_le c1 | exact lt_nle c1 | exact fun h9 => h9 c1 | exact fun h9 => c1 h9.1 | exact dc1 | exact Nat.not_le.mpr dc1 | omega)).trans ((if_neg (by first | exact c4 | exact nle_lt c4 | exact le_nlt c4 | exact nlt_le c4 | exact lt_nle c4 | exact fun h9 => h9 c4 | exact fun h9 => c4 h9.1 | exact dc4 | exact Nat.not_le.mpr dc4 | omega)).trans ((if_neg (by first | exact c7 | exact nle_lt c7 | exact le_nlt c7 | exact nlt_le c7 | exact lt_nle c7 | exact fun h9 => h9 c7 | exact fun h9 => c7 h9.1 | exact dc7 | exact Nat.not_le.mpr dc7 | omega)).trans (if_neg (by first | exact (fun h9 => (hq8.2.mpr h9) c10) | exact fun h9 => h9 (fun h9 => (hq8.2.mpr h9) c10) | omega)))))).trans (by rw [eN19]; rfl)).symm)⟩, by rw [ht]; exact hP, va_K.moved hW.alike hK, hD⟩, hS.F ht⟩) hS.2.2 dX9_reader_81
        · skip
          refine lv_iconst (v := (-1)) hx hb dX9_reader_36 (by decide) ?_
          exact W.iret (v := (-1)) hx hb hr (fun t ht hW => ⟨⟨(-1), (N, n, a, r, f), rfl, ⟨⟨hNB, hRB, hHT⟩, (by show ((-1), ab N n a) = _; unfold sp_reader; exact ((((if_neg (by first | exact c1 | exact nle_lt c1 | exact le_nlt c1 | exact nlt_le c1 | exact lt_nle c1 | exact fun h9 => h9 c1 | exact fun h9 => c1 h9.1 | exact dc1 | exact Nat.not_le.mpr dc1 | omega)).trans ((if_neg (by first | exact c4 | exact nle_lt c4 | exact le_nlt c4 | exact nlt_le c4 | exact lt_nle c4 | exact fun h9 => h9 c4 | exact fun h9 => c4 h9.1 | exact dc4 | exact Nat.not_le.mpr dc4 | omega)).trans ((if_neg (by first | exact c7 | exact nle_lt c7 | exact le_nlt c7 | exact nlt_le c7 | exact lt_nle c7 | exact fun h9 => h9 c7 | exact fun h9 => c7 h9.1 | exact dc7 | exact Nat.not_le.mpr dc7 | omega)).trans (if_pos (by first | exact (hq8.2.mp c10) | exact fun h9 => h9 (hq8.2.mp c10) | omega)))))).trans rfl).symm)⟩, by rw [ht]; exact hP, va_K.moved hW.alike hK, hD⟩, hS.F ht⟩) hS.2.2 dX9_reader_37

theorem iX9_bell_9 : ∀ w ∈ wsX90, w ∈ wsX9_bell := fun _ h => List.mem_cons_of_mem _ (List.mem_append_right _ h)
set_option maxHeartbeats 4000000 in
set_option maxRecDepth 100000 in
theorem zX9_bell (l : Launch) (D : va_G) (x : Nat → Nat) (cy : Nat → ClassId) (g : Nat → Nat → Option Nat) (L : List Nat) (K : Nat → Nat) (hG : GO L K g) (N : Nat → Nat) (n : Nat → Int32) (a : Nat → Nat → Int32) (r : Nat → Nat → Option Nat) (f : Nat → va_E) (hC : CI L K cy N r f) (sz : Nat) (v : Int32) : Met l yX9_bell wsX9_bell ({ frames := 0, cells := 0, slots := 0, locals := 0 }) (PW D (TYS cy) (XW x cy g N n a r ++ va_pl L f) sz [.ref (x 0), .int v]) (va_Qi (fun (res : Int32) (u : ST) => CI L K cy u.1 u.2.2.2.1 u.2.2.2.2 ∧ (res, ab u.1 u.2.1 u.2.2.1) = sp_bell v (ab N n a)) (BU D (TYS cy) (XW x cy g N n a r ++ va_pl L f) (WC x cy g L) sz) (va_A (XW x cy g N n a r ++ va_pl L f) sz)) 0 0 (va_A (XW x cy g N n a r ++ va_pl L f) sz) := by
  refine Met.ofW (cc := cX9_bell) (maxL := 2) (ret := (some .boolean)) (by decide) rfl ?_
  intro p e s m args below meth c s₁ B hml hv
  obtain ⟨rfl, hsz, hP, hK, hD0⟩ := hv
  have hx := B.exec
  have hb := B.bytes
  have hr := B.returns
  have hts := atoms_spec (ws := wsX9_bell) B.pre
  have hown : s.vm.findClass RX9 = some m.cls := findClass_of_methodNamed B.named
  have hlocks := B.notSynchronized
  subst hsz
  obtain ⟨hNB, hRB, hHT⟩ := hC
  have hSM : SM N N n n := SM_rf
  have hMM : MM N N a a := MM_rf
  have hD := hD0.self (sz := s.heap.size)
  have hA : ∀ q9 : Nat, s.heap.size ≤ q9 → va_A (XW x cy g N n a r ++ va_pl L f) s.heap.size q9 := fun q9 h => Or.inr h
  have hS : va_S (va_A (XW x cy g N n a r ++ va_pl L f) s.heap.size) s.heap s.heap [] := va_S.rf
  have hl := lv_entry ([.ref (x 0), .int v]) (n := 2) (Nat.le_of_ble_eq_true rfl)
  rw [lg_entry_eq]
  generalize (lg_sl ([.ref (x 0), .int v]) ++ List.replicate (2 - (lg_sl ([.ref (x 0), .int v])).length) Slot.unset).toArray = ls at hl ⊢
  have hl : lv_has ls 2 [(0, .ref (x 0)), (1, .int v)] := hl
  refine lv_iload_n hx hb dX9_bell_0 rfl (lv_at hl 1 rfl) ?_
  refine lv_aload_n hx hb dX9_bell_1 rfl (lv_at hl 0 rfl) ?_
  refine va_get (D := D) (ci := 9) (v := .int (n 1)) (C := RX9) (T := TX9) (N := 19) hx hb hts iX9_bell_9 hown hK hP 0 rfl rfl 14 (by decide) (hts (.fieldLink RX9 78 "FondsRoom" "turn" "I") (by decide +kernel)) (fun _ h9 => h9) rfl dX9_bell_2 ?_
  refine lv_icmp_le (tgt := 16) hx hb dX9_bell_5 (by decide) (fun c1 => ?_) (fun c1 => ?_)
  · skip
    refine lv_iconst (v := 0) hx hb dX9_bell_16 (by decide) ?_
    exact W.zret (v := 0) hx hb hr (rfl) (fun t ht hW => ⟨⟨0, (N, n, a, r, f), rfl, ⟨⟨hNB, hRB, hHT⟩, (by show (0, ab N n a) = _; unfold sp_bell; exact (((if_pos (by first | exact c1 | exact nle_lt c1 | exact le_nlt c1 | exact nlt_le c1 | exact lt_nle c1 | exact fun h9 => h9 c1 | exact fun h9 => c1 h9.1 | exact dc1 | exact Nat.not_le.mpr dc1 | omega))).trans rfl).symm)⟩, by rw [ht]; exact hP, va_K.moved hW.alike hK, hD⟩, hS.F ht⟩) hS.2.2 dX9_bell_17
  · skip
    refine lv_aload_n hx hb dX9_bell_8 rfl (lv_at hl 0 rfl) ?_
    refine va_get (D := D) (ci := 9) (v := .int (n 2)) (C := RX9) (T := TX9) (N := 19) hx hb hts iX9_bell_9 hown hK hP 0 rfl rfl 15 (by decide) (hts (.fieldLink RX9 75 "FondsRoom" "bellTurn" "I") (by decide +kernel)) (fun _ h9 => h9) rfl dX9_bell_9 ?_
    refine lv_iconst (v := (-1)) hx hb dX9_bell_12 (by decide) ?_
    refine lv_icmp_eq (tgt := 18) hx hb dX9_bell_13 (by decide) (fun c2 => ?_) (fun c2 => ?_)
    · skip
      refine lv_aload_n hx hb dX9_bell_18 rfl (lv_at hl 0 rfl) ?_
      refine lv_iload_n hx hb dX9_bell_19 rfl (lv_at hl 1 rfl) ?_
      refine va_put (D := D) (ci := 9) (v := .int v) (ty := .int) (C := RX9) (T := TX9) (N := 19) hx hb hts iX9_bell_9 tyX9 tyX9_ok nmX9 hown hK hP hD hS 0 rfl rfl 15 (by decide) (hts (.fieldLink RX9 75 "FondsRoom" "bellTurn" "I") (by decide +kernel)) (fun _ h9 => h9) rfl (by decide +kernel) rfl rfl (Nat.le_of_ble_eq_true rfl) dX9_bell_20 (fun H locs hP hD hS => ?_)
      obtain ⟨n3, en3⟩ : ∃ z, z = va_up n 2 v := ⟨_, rfl⟩
      have hP : va_P D vwCl (XW x cy g N n3 a r ++ va_pl L f) H := by rw [en3]; exact hP
      have hD : va_D (va_A (XW x cy g N n a r ++ va_pl L f) s.heap.size) (XW x cy g N n3 a r ++ va_pl L f) := by rw [en3]; exact hD
      refine lv_iconst (v := 1) hx hb dX9_bell_23 (by decide) ?_
      exact W.zret (v := 1) hx hb hr (rfl) (fun t ht hW => ⟨⟨1, (N, n3, a, r, f), rfl, ⟨⟨hNB, hRB, hHT⟩, (by show (1, ab N n3 a) = _; unfold sp_bell; exact ((((if_neg (by first | exact c1 | exact nle_lt c1 | exact le_nlt c1 | exact nlt_le c1 | exact lt_nle c1 | exact fun h9 => h9 c1 | exact fun h9 => c1 h9.1 | exact dc1 | exact Nat.not_le.mpr dc1 | omega)).trans (if_neg (by first | exact c2 | exact nle_lt c2 | exact le_nlt c2 | exact nlt_le c2 | exact lt_nle c2 | exact fun h9 => h9 c2 | exact fun h9 => c2 h9.1 | exact dc2 | exact Nat.not_le.mpr dc2 | omega)))).trans (by rw [en3]; rfl)).symm)⟩, by rw [ht]; exact hP, va_K.moved hW.alike hK, hD⟩, hS.F ht⟩) hS.2.2 dX9_bell_24
    · skip
      refine lv_iconst (v := 0) hx hb dX9_bell_16 (by decide) ?_
      exact W.zret (v := 0) hx hb hr (rfl) (fun t ht hW => ⟨⟨0, (N, n, a, r, f), rfl, ⟨⟨hNB, hRB, hHT⟩, (by show (0, ab N n a) = _; unfold sp_bell; exact ((((if_neg (by first | exact c1 | exact nle_lt c1 | exact le_nlt c1 | exact nlt_le c1 | exact lt_nle c1 | exact fun h9 => h9 c1 | exact fun h9 => c1 h9.1 | exact dc1 | exact Nat.not_le.mpr dc1 | omega)).trans (if_pos (by first | exact c2 | exact nle_lt c2 | exact le_nlt c2 | exact nlt_le c2 | exact lt_nle c2 | exact fun h9 => h9 c2 | exact fun h9 => c2 h9.1 | exact dc2 | exact Nat.not_le.mpr dc2 | omega)))).trans rfl).symm)⟩, by rw [ht]; exact hP, va_K.moved hW.alike hK, hD⟩, hS.F ht⟩) hS.2.2 dX9_bell_17

theorem iX9_mishap_9 : ∀ w ∈ wsX90, w ∈ wsX9_mishap := fun _ h => List.mem_cons_of_mem _ (List.mem_append_left _ (List.mem_append_left _ (List.mem_append_right _ h)))
set_option maxHeartbeats 4000000 in
set_option maxRecDepth 100000 in
theorem zX9_mishap (l : Launch) (D : va_G) (x : Nat → Nat) (cy : Nat → ClassId) (g : Nat → Nat → Option Nat) (L : List Nat) (K : Nat → Nat) (hG : GO L K g) (N : Nat → Nat) (n : Nat → Int32) (a : Nat → Nat → Int32) (r : Nat → Nat → Option Nat) (f : Nat → va_E) (hC : CI L K cy N r f) (sz : Nat) (v k wh : Int32) : Met l yX9_mishap wsX9_mishap ({ frames := 2, cells := 0, slots := 0, locals := 43 }) (PW D (TYS cy) (XW x cy g N n a r ++ va_pl L f) sz [.ref (x 0), .int v, .int k, .int wh]) (va_Qi (fun (res : Int32) (u : ST) => CI L K cy u.1 u.2.2.2.1 u.2.2.2.2 ∧ (res, ab u.1 u.2.1 u.2.2.1) = sp_mishap v k wh (ab N n a)) (BU D (TYS cy) (XW x cy g N n a r ++ va_pl L f) (WC x cy g L) sz) (va_A (XW x cy g N n a r ++ va_pl L f) sz)) 0 0 (va_A (XW x cy g N n a r ++ va_pl L f) sz) := by
  refine Met.ofW (cc := cX9_mishap) (maxL := 4) (ret := (some .boolean)) (by decide) rfl ?_
  intro p e s m args below meth c s₁ B hml hv
  obtain ⟨rfl, hsz, hP, hK, hD0⟩ := hv
  have hx := B.exec
  have hb := B.bytes
  have hr := B.returns
  have hts := atoms_spec (ws := wsX9_mishap) B.pre
  have hown : s.vm.findClass RX9 = some m.cls := findClass_of_methodNamed B.named
  have hlocks := B.notSynchronized
  subst hsz
  obtain ⟨hNB, hRB, hHT⟩ := hC
  have hSM : SM N N n n := SM_rf
  have hMM : MM N N a a := MM_rf
  have hD := hD0.self (sz := s.heap.size)
  have hA : ∀ q9 : Nat, s.heap.size ≤ q9 → va_A (XW x cy g N n a r ++ va_pl L f) s.heap.size q9 := fun q9 h => Or.inr h
  have hS : va_S (va_A (XW x cy g N n a r ++ va_pl L f) s.heap.size) s.heap s.heap [] := va_S.rf
  have hl := lv_entry ([.ref (x 0), .int v, .int k, .int wh]) (n := 4) (Nat.le_of_ble_eq_true rfl)
  rw [lg_entry_eq]
  generalize (lg_sl ([.ref (x 0), .int v, .int k, .int wh]) ++ List.replicate (4 - (lg_sl ([.ref (x 0), .int v, .int k, .int wh])).length) Slot.unset).toArray = ls at hl ⊢
  have hl : lv_has ls 4 [(0, .ref (x 0)), (1, .int v), (2, .int k), (3, .int wh)] := hl
  refine lv_iload_n hx hb dX9_mishap_0 rfl (lv_at hl 1 rfl) ?_
  refine lv_aload_n hx hb dX9_mishap_1 rfl (lv_at hl 0 rfl) ?_
  refine va_get (D := D) (ci := 9) (v := .int (n 1)) (C := RX9) (T := TX9) (N := 19) hx hb hts iX9_mishap_9 hown hK hP 0 rfl rfl 14 (by decide) (hts (.fieldLink RX9 78 "FondsRoom" "turn" "I") (by decide +kernel)) (fun _ h9 => h9) rfl dX9_mishap_2 ?_
  refine lv_icmp_le (tgt := 17) hx hb dX9_mishap_5 (by decide) (fun c1 => ?_) (fun c1 => ?_)
  · skip
    refine lv_iconst (v := 0) hx hb dX9_mishap_17 (by decide) ?_
    exact W.zret (v := 0) hx hb hr (rfl) (fun t ht hW => ⟨⟨0, (N, n, a, r, f), rfl, ⟨⟨hNB, hRB, hHT⟩, (by show (0, ab N n a) = _; unfold sp_mishap; exact (if_pos c1).symm)⟩, by rw [ht]; exact hP, va_K.moved hW.alike hK, hD⟩, hS.F ht⟩) hS.2.2 dX9_mishap_18
  · skip
    have nb0 : N 0 ≤ 12 := hNB 0 (by decide)
    have nb1 : N 1 ≤ 40 := hNB 1 (by decide)
    have nb2 : N 2 ≤ 20 := hNB 2 (by decide)
    have nb3 : N 3 ≤ 4 := hNB 3 (by decide)
    have nb4 : N 4 ≤ 3 := hNB 4 (by decide)
    have nb5 : N 5 ≤ 20 := hNB 5 (by decide)
    have nb6 : N 6 ≤ 20 := hNB 6 (by decide)
    have nb7 : N 7 ≤ 20 := hNB 7 (by decide)
    have nb8 : N 8 ≤ 30 := hNB 8 (by decide)
    have nb9 : N 9 ≤ 400 := hNB 9 (by decide)
    have hlim : pcn (N 2) (N 3) (N 4) k < 2 ^ 31 := by unfold pcn; (repeat' split) <;> omega
    refine lv_aload_n hx hb dX9_mishap_8 rfl (lv_at hl 0 rfl) ?_
    refine lv_iload_n hx hb dX9_mishap_9 rfl (lv_at hl 2 rfl) ?_
    refine lv_iload_n hx hb dX9_mishap_10 rfl (lv_at hl 3 rfl) ?_
    refine gvI (As := [.int k, .int wh]) (rest := []) ⟨hx, hb, hml, hown, hts⟩ (zX9_isPerson l D x cy g L K hG N n a r f ⟨hNB, hRB, hHT⟩ _  k wh ) (cwV 2 hts gX9_mishap_X9_isPerson rfl rfl rfl (by decide +kernel) ⟨Nat.le_of_ble_eq_true rfl, Nat.le_of_ble_eq_true rfl⟩) hK hP hD hS hA (va_recv hK hP (ci := 9) (q0 := 0) rfl rfl) rfl hl.1 rfl (Nat.le_of_ble_eq_true rfl) dX9_mishap_11 ⟨Nat.le_of_ble_eq_true rfl, Nat.le_of_ble_eq_true rfl⟩ (fun q2 u3 H locs hq2 hP hD hS => ?_)
    have hP : va_P D vwCl (XW x cy g N n a r ++ va_pl L f) H := hP
    have hD : va_D _ (XW x cy g N n a r ++ va_pl L f) := hD
    refine lv_if_ne (tgt := 19) hx hb dX9_mishap_14 (by decide) (fun c4 => ?_) (fun c4 => ?_)
    · skip
      obtain ⟨j5, hj5, rfl⟩ := hq2.2.mp c4
      refine lv_aload_n hx hb dX9_mishap_19 rfl (lv_at hl 0 rfl) ?_
      refine va_get (D := D) (ci := 9) (v := .ref (x 14)) (C := RX9) (T := TX9) (N := 19) hx hb hts iX9_mishap_9 hown hK hP 0 rfl rfl 8 (by decide) (hts (.fieldLink RX9 60 "FondsRoom" "mishaps" "LFondsRoom$Mishaps;") (by decide +kernel)) (fun _ h9 => h9) rfl dX9_mishap_20 ?_
      refine lv_iload_n hx hb dX9_mishap_23 rfl (lv_at hl 1 rfl) ?_
      refine lv_iload_n hx hb dX9_mishap_24 rfl (lv_at hl 2 rfl) ?_
      refine lv_iload_n hx hb dX9_mishap_25 rfl (lv_at hl 3 rfl) ?_
      refine gvI (As := [.int v, .int k, .int (nI j5)]) (rest := []) ⟨hx, hb, hml, hown, hts⟩ (zX4_append l D x cy g L K hG N n a r f ⟨hNB, hRB, hHT⟩ _  v k (nI j5) ) (cwV 3 hts gX9_mishap_X4_append rfl rfl rfl (by decide +kernel) ⟨Nat.le_of_ble_eq_true rfl, Nat.le_of_ble_eq_true rfl⟩) hK hP hD hS hA (va_recv hK hP (ci := 4) (q0 := 14) rfl rfl) rfl hl.1 rfl (Nat.le_of_ble_eq_true rfl) dX9_mishap_26 ⟨Nat.le_of_ble_eq_true rfl, Nat.le_of_ble_eq_true rfl⟩ (fun q6 u7 H locs hq6 hP hD hS => ?_)
      obtain ⟨N8, n9, a10, r11, f12⟩ := u7
      obtain ⟨⟨hNB, hRB, hHT⟩, hs13, hq6b⟩ := hq6
      have hSM : SM N N8 n n9 := SM_tr hSM hs13
      have hP : va_P D vwCl (XW x cy g N8 n9 a10 r11 ++ va_pl L f12) H := hP
      have hD : va_D _ (XW x cy g N8 n9 a10 r11 ++ va_pl L f12) := hD
      exact W.zret (v := q6) hx hb hr ((nz01 hq6b.1).1) (fun t ht hW => ⟨⟨q6, (N8, n9, a10, r11, f12), rfl, ⟨⟨hNB, hRB, hHT⟩, (by show (q6, ab N8 n9 a10) = _; unfold sp_mishap; refine Eq.trans ?_ ((if_neg c1).trans (if_neg (fun h9 => (pers_iff hlim).mp h9 ⟨j5, hj5, rfl⟩))).symm; rw [hq6b.2.1, ab_of hs13 hq6b.2.2])⟩, by rw [ht]; exact hP, va_K.moved hW.alike hK, hD⟩, hS.F ht⟩) hS.2.2 dX9_mishap_29
    · skip
      refine lv_iconst (v := 0) hx hb dX9_mishap_17 (by decide) ?_
      exact W.zret (v := 0) hx hb hr (rfl) (fun t ht hW => ⟨⟨0, (N, n, a, r, f), rfl, ⟨⟨hNB, hRB, hHT⟩, (by show (0, ab N n a) = _; unfold sp_mishap; exact ((if_neg c1).trans (if_pos ((pers_iff hlim).mpr (fun h9 => absurd c4 (hq2.2.mpr h9))))).symm)⟩, by rw [ht]; exact hP, va_K.moved hW.alike hK, hD⟩, hS.F ht⟩) hS.2.2 dX9_mishap_18

theorem iX9_run_9 : ∀ w ∈ wsX90, w ∈ wsX9_run := fun _ h => List.mem_cons_of_mem _ (List.mem_append_left _ (List.mem_append_left _ (List.mem_append_left _ (List.mem_append_left _ (List.mem_append_left _ (List.mem_append_left _ (List.mem_append_left _ (List.mem_append_left _ (List.mem_append_left _ (List.mem_append_right _ h))))))))))
set_option maxHeartbeats 4000000 in
set_option maxRecDepth 100000 in
theorem zX9_run (l : Launch) (D : va_G) (x : Nat → Nat) (cy : Nat → ClassId) (g : Nat → Nat → Option Nat) (L : List Nat) (K : Nat → Nat) (hG : GO L K g) (N : Nat → Nat) (n : Nat → Int32) (a : Nat → Nat → Int32) (r : Nat → Nat → Option Nat) (f : Nat → va_E) (hC : CI L K cy N r f) (sz : Nat) (vv : Int32) : Met l yX9_run wsX9_run ({ frames := 6, cells := 0, slots := 0, locals := 136 }) (PW D (TYS cy) (XW x cy g N n a r ++ va_pl L f) sz [.ref (x 0), .int vv]) (va_Qi (fun (res : Int32) (u : ST) => CI L K cy u.1 u.2.2.2.1 u.2.2.2.2 ∧ (res, ab u.1 u.2.1 u.2.2.1) = sp_run vv (ab N n a)) (BU D (TYS cy) (XW x cy g N n a r ++ va_pl L f) (WC x cy g L) sz) (va_A (XW x cy g N n a r ++ va_pl L f) sz)) 0 0 (va_A (XW x cy g N n a r ++ va_pl L f) sz) := by
  refine Met.ofW (cc := cX9_run) (maxL := 3) (ret := (some .int)) (by decide) rfl ?_
  intro p e s m args below meth c s₁ B hml hv
  obtain ⟨rfl, hsz, hP, hK, hD0⟩ := hv
  have hx := B.exec
  have hb := B.bytes
  have hr := B.returns
  have hts := atoms_spec (ws := wsX9_run) B.pre
  have hown : s.vm.findClass RX9 = some m.cls := findClass_of_methodNamed B.named
  have hlocks := B.notSynchronized
  subst hsz
  obtain ⟨hNB, hRB, hHT⟩ := hC
  have hSM : SM N N n n := SM_rf
  have hMM : MM N N a a := MM_rf
  have hD := hD0.self (sz := s.heap.size)
  have hA : ∀ q9 : Nat, s.heap.size ≤ q9 → va_A (XW x cy g N n a r ++ va_pl L f) s.heap.size q9 := fun q9 h => Or.inr h
  have hS : va_S (va_A (XW x cy g N n a r ++ va_pl L f) s.heap.size) s.heap s.heap [] := va_S.rf
  have hl := lv_entry ([.ref (x 0), .int vv]) (n := 3) (Nat.le_of_ble_eq_true rfl)
  rw [lg_entry_eq]
  generalize (lg_sl ([.ref (x 0), .int vv]) ++ List.replicate (3 - (lg_sl ([.ref (x 0), .int vv])).length) Slot.unset).toArray = ls at hl ⊢
  have hl : lv_has ls 3 [(0, .ref (x 0)), (1, .int vv)] := hl
  refine lv_iload_n hx hb dX9_run_0 rfl (lv_at hl 1 rfl) ?_
  refine lv_iconst (v := 0) hx hb dX9_run_1 (by decide) ?_
  refine lv_sipush (v := 200) hx hb dX9_run_2 (by decide) ?_
  refine gsI (As := [.int vv, .int 0, .int 200]) (rest := []) ⟨hx, hb, hml, hown, hts⟩ (zX9_isWithin l D x cy g L K hG N n a r f ⟨hNB, hRB, hHT⟩ _  vv 0 200 ) (va_cwS 3 hts gX9_run_X9_isWithin rfl rfl rfl (by decide +kernel) ⟨Nat.le_of_ble_eq_true rfl, Nat.le_of_ble_eq_true rfl⟩) hK hP hD hS hA rfl hl.1 rfl (Nat.le_of_ble_eq_true rfl) dX9_run_5 ⟨Nat.le_of_ble_eq_true rfl, Nat.le_of_ble_eq_true rfl⟩ (fun q1 u2 H locs hq1 hP hD hS => ?_)
  have hP : va_P D vwCl (XW x cy g N n a r ++ va_pl L f) H := hP
  have hD : va_D _ (XW x cy g N n a r ++ va_pl L f) := hD
  obtain rfl : q1 = sp_in vv 0 200 := hq1
  refine lv_if_ne (tgt := 13) hx hb dX9_run_8 (by decide) (fun c3 => ?_) (fun c3 => ?_)
  · skip
    obtain ⟨kk, hk0, hkk, rfl⟩ := in_nI (a := 0) (b := 200) rfl rfl (by decide) c3 (by decide)
    refine lv_iconst (v := 0) hx hb dX9_run_13 (by decide) ?_
    refine lv_istore_n (lv' := [(2, .int 0), (0, .ref (x 0)), (1, .int (nI kk))]) hx hb dX9_run_14 rfl hl (by decide) rfl (fun ls hl => ?_)
    have key5 : ∀ (m9 j4 : Nat), 400 - j4 = m9 → j4 ≤ 400 → ∀ (N6 : Nat → Nat) (n7 : Nat → Int32) (a8 : Nat → Nat → Int32) (r9 : Nat → Nat → Option Nat) (f10 : Nat → va_E) , j4 ≤ kk → ab N6 n7 a8 = ticks j4 (ab N n a) → NB N6 → RB L K N6 r9 → HT L K cy f10 → ∀ (H : Heap) (locs : List Loc) (ls : Array Slot), va_P D vwCl (XW x cy g N6 n7 a8 r9 ++ va_pl L f10) H → va_D (va_A (XW x cy g N n a r ++ va_pl L f) s.heap.size) (XW x cy g N6 n7 a8 r9 ++ va_pl L f10) → va_S (va_A (XW x cy g N n a r ++ va_pl L f) s.heap.size) s.heap H locs → lv_has ls 3 [(2, .int (nI j4)), (0, .ref (x 0)), (1, .int (nI kk))] → W p l e (headSpec wsX9_run ({ frames := 6, cells := 0, slots := 0, locals := 136 })).room s m #[.ref (x 0), .int (nI kk)] below meth c H locs 0 0 (MQ below (va_Qi (fun (res : Int32) (u : ST) => CI L K cy u.1 u.2.2.2.1 u.2.2.2.2 ∧ (res, ab u.1 u.2.1 u.2.2.1) = sp_run (nI kk) (ab N n a)) (BU D (TYS cy) (XW x cy g N n a r ++ va_pl L f) (WC x cy g L) s.heap.size) (va_A (XW x cy g N n a r ++ va_pl L f) s.heap.size)) #[.ref (x 0), .int (nI kk)] s 0 0 (va_A (XW x cy g N n a r ++ va_pl L f) s.heap.size)) (F0 m 15 ls []) := by
      intro m9
      induction m9 using Nat.strongRecOn with
      | _ m9 ihkey5 =>
        intro j4 hm9 hj400 N6 n7 a8 r9 f10 hjk hab hNB hRB hHT  H locs ls hP hD hS hl
        subst hm9
        have nb0 : N6 0 ≤ 12 := hNB 0 (by decide)
        have nb1 : N6 1 ≤ 40 := hNB 1 (by decide)
        have nb2 : N6 2 ≤ 20 := hNB 2 (by decide)
        have nb3 : N6 3 ≤ 4 := hNB 3 (by decide)
        have nb4 : N6 4 ≤ 3 := hNB 4 (by decide)
        have nb5 : N6 5 ≤ 20 := hNB 5 (by decide)
        have nb6 : N6 6 ≤ 20 := hNB 6 (by decide)
        have nb7 : N6 7 ≤ 20 := hNB 7 (by decide)
        have nb8 : N6 8 ≤ 30 := hNB 8 (by decide)
        have nb9 : N6 9 ≤ 400 := hNB 9 (by decide)
        refine lv_iload_n hx hb dX9_run_15 rfl (lv_at hl 0 rfl) ?_
        refine lv_iload_n hx hb dX9_run_16 rfl (lv_at hl 2 rfl) ?_
        refine lv_icmp_ge (tgt := 30) hx hb dX9_run_17 (by decide) (fun c11 => ?_) (fun c11 => ?_)
        · skip
          have dc11 : kk ≤ j4 := (nI_leI (a := kk) (b := j4) (by omega) (by omega)).mp c11
          refine lv_aload_n hx hb dX9_run_30 rfl (lv_at hl 1 rfl) ?_
          refine va_get (D := D) (ci := 9) (v := .int (n7 1)) (C := RX9) (T := TX9) (N := 19) hx hb hts iX9_run_9 hown hK hP 0 rfl rfl 14 (by decide) (hts (.fieldLink RX9 78 "FondsRoom" "turn" "I") (by decide +kernel)) (fun _ h9 => h9) rfl dX9_run_31 ?_
          exact W.iret (v := (n7 1)) hx hb hr (fun t ht hW => ⟨⟨(n7 1), (N6, n7, a8, r9, f10), rfl, ⟨⟨hNB, hRB, hHT⟩, (by show (n7 1, ab N6 n7 a8) = _; unfold sp_run; rw [if_neg c3, nI_clamp (by omega)]; have h8 : j4 = kk := (by omega); rw [← h8, ← hab])⟩, by rw [ht]; exact hP, va_K.moved hW.alike hK, hD⟩, hS.F ht⟩) hS.2.2 dX9_run_34
        · skip
          have dc11 : j4 < kk := Nat.not_le.mp (fun h9 => c11 ((nI_leI (a := kk) (b := j4) (by omega) (by omega)).mpr h9))
          refine lv_aload_n hx hb dX9_run_20 rfl (lv_at hl 1 rfl) ?_
          refine gvV (As := []) (rest := []) ⟨hx, hb, hml, hown, hts⟩ (zX9_passTurn l D x cy g L K hG N6 n7 a8 r9 f10 ⟨hNB, hRB, hHT⟩ _   ) (cwV 0 hts gX9_run_X9_passTurn rfl rfl rfl (by decide +kernel) ⟨Nat.le_of_ble_eq_true rfl, Nat.le_of_ble_eq_true rfl⟩) hK hP hD hS hA (va_recv hK hP (ci := 9) (q0 := 0) rfl rfl) rfl hl.1 rfl (Nat.le_of_ble_eq_true rfl) dX9_run_21 ⟨Nat.le_of_ble_eq_true rfl, Nat.le_of_ble_eq_true rfl⟩ (fun u13 H locs hq12 hP hD hS => ?_)
          obtain ⟨N14, n15, a16, r17, f18⟩ := u13
          obtain ⟨⟨hNB, hRB, hHT⟩, hq12b⟩ := hq12
          have hP : va_P D vwCl (XW x cy g N14 n15 a16 r17 ++ va_pl L f18) H := hP
          have hD : va_D _ (XW x cy g N14 n15 a16 r17 ++ va_pl L f18) := hD
          refine lv_iinc (v := nI (j4 + 1)) (lv' := [(2, .int (nI (j4 + 1))), (0, .ref (x 0)), (1, .int (nI kk))]) hx hb dX9_run_24 hl (k := 0) rfl (by rw [← nI_1]; rfl) (by decide) rfl (fun ls hl => ?_)
          refine lv_goto (tgt := 15) hx hb dX9_run_27 (by decide) ?_
          have nb0 : N14 0 ≤ 12 := hNB 0 (by decide)
          have nb1 : N14 1 ≤ 40 := hNB 1 (by decide)
          have nb2 : N14 2 ≤ 20 := hNB 2 (by decide)
          have nb3 : N14 3 ≤ 4 := hNB 3 (by decide)
          have nb4 : N14 4 ≤ 3 := hNB 4 (by decide)
          have nb5 : N14 5 ≤ 20 := hNB 5 (by decide)
          have nb6 : N14 6 ≤ 20 := hNB 6 (by decide)
          have nb7 : N14 7 ≤ 20 := hNB 7 (by decide)
          have nb8 : N14 8 ≤ 30 := hNB 8 (by decide)
          have nb9 : N14 9 ≤ 400 := hNB 9 (by decide)
          exact ihkey5 (400 - ((j4 + 1))) (by omega) ((j4 + 1)) rfl (by omega) N14 n15 a16 r17 f18 (by omega) (hq12b.trans (congrArg tick hab)) hNB hRB hHT  _ _ _ hP hD hS (lv_sub hl [0, 1, 2] rfl)
    have nb0 : N 0 ≤ 12 := hNB 0 (by decide)
    have nb1 : N 1 ≤ 40 := hNB 1 (by decide)
    have nb2 : N 2 ≤ 20 := hNB 2 (by decide)
    have nb3 : N 3 ≤ 4 := hNB 3 (by decide)
    have nb4 : N 4 ≤ 3 := hNB 4 (by decide)
    have nb5 : N 5 ≤ 20 := hNB 5 (by decide)
    have nb6 : N 6 ≤ 20 := hNB 6 (by decide)
    have nb7 : N 7 ≤ 20 := hNB 7 (by decide)
    have nb8 : N 8 ≤ 30 := hNB 8 (by decide)
    have nb9 : N 9 ≤ 400 := hNB 9 (by decide)
    exact key5 (400 - (0)) (0) rfl (by omega) N n a r f (by omega) rfl hNB hRB hHT  _ _ _ hP hD hS (lv_sub hl [0, 1, 2] rfl)
  · skip
    refine lv_iconst (v := (-1)) hx hb dX9_run_11 (by decide) ?_
    exact W.iret (v := (-1)) hx hb hr (fun t ht hW => ⟨⟨(-1), (N, n, a, r, f), rfl, ⟨⟨hNB, hRB, hHT⟩, (by show (-1, ab N n a) = _; unfold sp_run; exact (if_pos c3).symm)⟩, by rw [ht]; exact hP, va_K.moved hW.alike hK, hD⟩, hS.F ht⟩) hS.2.2 dX9_run_12
