theorem iX9_firstFreeDesk_1 : ∀ w ∈ wsX10, w ∈ wsX9_firstFreeDesk := fun _ h => List.mem_cons_of_mem _ (List.mem_append_right _ h)
theorem iX9_firstFreeDesk_9 : ∀ w ∈ wsX90, w ∈ wsX9_firstFreeDesk := fun _ h => List.mem_cons_of_mem _ (List.mem_append_left _ (List.mem_append_right _ h))
set_option maxHeartbeats 4000000 in
set_option maxRecDepth 100000 in
theorem zX9_firstFreeDesk (l : Launch) (D : va_G) (x : Nat → Nat) (cy : Nat → ClassId) (g : Nat → Nat → Option Nat) (L : List Nat) (K : Nat → Nat) (hG : GO L K g) (N : Nat → Nat) (n : Nat → Int32) (a : Nat → Nat → Int32) (r : Nat → Nat → Option Nat) (f : Nat → va_E) (hC : CI L K cy N r f) (sz : Nat) (v : Int32) : Met l yX9_firstFreeDesk wsX9_firstFreeDesk ({ frames := 0, cells := 0, slots := 0, locals := 0 }) (PW D (TYS cy) (XW x cy g N n a r ++ va_pl L f) sz [.ref (x 0), .int v]) (va_Qq (fun (res : Option Nat) (u : Unit) => rok L K 1 res) (BU D (TYS cy) (XW x cy g N n a r ++ va_pl L f) (fun _ => XW x cy g N n a r ++ va_pl L f) sz) (va_A (XW x cy g N n a r ++ va_pl L f) sz)) 0 0 (va_A (XW x cy g N n a r ++ va_pl L f) sz) := by
  refine Met.ofW (cc := cX9_firstFreeDesk) (maxL := 3) (ret := (some (.object "FondsRoom$Desk"))) (by decide) rfl ?_
  intro p e s m args below meth c s₁ B hml hv
  obtain ⟨rfl, hsz, hP, hK, hD0⟩ := hv
  have hx := B.exec
  have hb := B.bytes
  have hr := B.returns
  have hts := atoms_spec (ws := wsX9_firstFreeDesk) B.pre
  have hown : s.vm.findClass RX9 = some m.cls := findClass_of_methodNamed B.named
  have hlocks := B.notSynchronized
  subst hsz
  obtain ⟨hNB, hRB, hHT⟩ := hC
  have hSM : SM N N n n := SM_rf
  have hMM : MM N N a a := MM_rf
  have hD := hD0.self (sz := s.heap.size)
  have hA : ∀ q9 : Nat, s.heap.size ≤ q9 → va_A (XW x cy g N n a r ++ va_pl L f) s.heap.size q9 := fun q9 h => Or.inr h
  have hS : va_S (va_A (XW x cy g N n a r ++ va_pl L f) s.heap.size) s.heap s.heap [] := va_S.rf
  have hl := lv_entry ([.ref (x 0), .int v]) (n := 3) (Nat.le_of_ble_eq_true rfl)
  rw [lg_entry_eq]
  generalize (lg_sl ([.ref (x 0), .int v]) ++ List.replicate (3 - (lg_sl ([.ref (x 0), .int v])).length) Slot.unset).toArray = ls at hl ⊢
  have hl : lv_has ls 3 [(0, .ref (x 0)), (1, .int v)] := hl
  refine lv_iconst (v := 0) hx hb dX9_firstFreeDesk_0 (by decide) ?_
  refine lv_istore_n (lv' := [(2, .int 0), (0, .ref (x 0)), (1, .int v)]) hx hb dX9_firstFreeDesk_1 rfl hl (by decide) rfl (fun ls hl => ?_)
  have key2 : ∀ (m9 j1 : Nat), 400 - j1 = m9 → j1 ≤ 400 → ∀ (H : Heap) (locs : List Loc) (ls : Array Slot), va_P D vwCl (XW x cy g N n a r ++ va_pl L f) H → va_D (va_A (XW x cy g N n a r ++ va_pl L f) s.heap.size) (XW x cy g N n a r ++ va_pl L f) → va_S (va_A (XW x cy g N n a r ++ va_pl L f) s.heap.size) s.heap H locs → lv_has ls 3 [(2, .int (nI j1)), (0, .ref (x 0)), (1, .int v)] → W p l e (headSpec wsX9_firstFreeDesk ({ frames := 0, cells := 0, slots := 0, locals := 0 })).room s m #[.ref (x 0), .int v] below meth c H locs 0 0 (MQ below (va_Qq (fun (res : Option Nat) (u : Unit) => rok L K 1 res) (BU D (TYS cy) (XW x cy g N n a r ++ va_pl L f) (fun _ => XW x cy g N n a r ++ va_pl L f) s.heap.size) (va_A (XW x cy g N n a r ++ va_pl L f) s.heap.size)) #[.ref (x 0), .int v] s 0 0 (va_A (XW x cy g N n a r ++ va_pl L f) s.heap.size)) (F0 m 2 ls []) := by
    intro m9
    induction m9 using Nat.strongRecOn with
    | _ m9 ihkey2 =>
      intro j1 hm9 hj400  H locs ls hP hD hS hl
      subst hm9
      have nb0 : N 0 ≤ 12 := hNB 0 (by decide)
      have nb1 : N 1 ≤ 40 := hNB 1 (by decide)
      have nb2 : N 2 ≤ 20 := hNB 2 (by decide)
      have nb3 : N 3 ≤ 4 := hNB 3 (by decide)
      have nb4 : N 4 ≤ 3 := hNB 4 (by decide)
      have nb5 : N 5 ≤ 20 := hNB 5 (by decide)
      have nb6 : N 6 ≤ 20 := hNB 6 (by decide)
      have nb7 : N 7 ≤ 20 := hNB 7 (by decide)
      have nb8 : N 8 ≤ 30 := hNB 8 (by decide)
      have nb9 : N 9 ≤ 400 := hNB 9 (by decide)
      refine lv_iload_n hx hb dX9_firstFreeDesk_2 rfl (lv_at hl 0 rfl) ?_
      refine lv_aload_n hx hb dX9_firstFreeDesk_3 rfl (lv_at hl 1 rfl) ?_
      refine va_get (D := D) (ci := 9) (v := .int (nI (N 0))) (C := RX9) (T := TX9) (N := 19) hx hb hts iX9_firstFreeDesk_9 hown hK hP 0 rfl rfl 10 (by decide) (hts (.fieldLink RX9 81 "FondsRoom" "deskCount" "I") (by decide +kernel)) (fun _ h9 => h9) rfl dX9_firstFreeDesk_4 ?_
      refine lv_icmp_ge (tgt := 48) hx hb dX9_firstFreeDesk_7 (by decide) (fun c3 => ?_) (fun c3 => ?_)
      · skip
        have dc3 : (N 0) ≤ j1 := (nI_leI (a := (N 0)) (b := j1) (by omega) (by omega)).mp c3
        refine lv_null hx hb dX9_firstFreeDesk_48 ?_
        exact W.aret (v := .null) hx hb hr (Or.inl ⟨_, rfl⟩) (Or.inl rfl) (fun t ht hW => ⟨⟨none, (), rfl, rok_none, by rw [ht]; exact hP, va_K.moved hW.alike hK, hD⟩, hS.F ht⟩) hS.2.2 dX9_firstFreeDesk_49
      · skip
        have dc3 : j1 < (N 0) := Nat.not_le.mp (fun h9 => c3 ((nI_leI (a := (N 0)) (b := j1) (by omega) (by omega)).mpr h9))
        refine lv_aload_n hx hb dX9_firstFreeDesk_10 rfl (lv_at hl 1 rfl) ?_
        refine va_get (D := D) (ci := 9) (v := .ref (x 1)) (C := RX9) (T := TX9) (N := 19) hx hb hts iX9_firstFreeDesk_9 hown hK hP 0 rfl rfl 0 (by decide) (hts (.fieldLink RX9 11 "FondsRoom" "desks" "[LFondsRoom$Desk;") (by decide +kernel)) (fun _ h9 => h9) rfl dX9_firstFreeDesk_11 ?_
        refine lv_iload_n hx hb dX9_firstFreeDesk_14 rfl (lv_at hl 0 rfl) ?_
        refine va_aldq hx hb hK hP 1 2 rfl rfl (vp_in_nI (by omega) (by omega)) dX9_firstFreeDesk_15 ?_
        obtain ⟨p4, ep4, mp4, kp4⟩ := hG.1 j1 (by omega)
        refine lv_tov (v' := .ref p4) (by rw [nI_clamp (by omega)]; show va_rf (g 0 j1) = _; rw [ep4]; rfl) ?_
        obtain ⟨n_o5, wt_o5, s_o5, hf_o5, swt_o5, ss_o5⟩ : TE L K cy 1 (f p4) := by rw [← kp4]; exact hHT p4 mp4
        refine pg_get (D := D) (ci := 1) (v := va_rf s_o5) (C := RX1) (T := TX1) (N := 3) hx hb hts iX9_firstFreeDesk_1 hown hK hP mp4 hf_o5 rfl 2 (by decide) (hts (.fieldLink RX9 348 "FondsRoom$Desk" "sitter" "LFondsRoom$Reader;") (by decide +kernel)) (fun _ h9 => h9) rfl dX9_firstFreeDesk_16 ?_
        rcases eb6 : s_o5 with _ | b6
        · skip
          subst eb6
          have hP : va_P D vwCl (XW x cy g N n a r ++ va_pl L f) H := by assumption
          have hD : va_D (va_A (XW x cy g N n a r ++ va_pl L f) s.heap.size) (XW x cy g N n a r ++ va_pl L f) := by assumption
          have hl : lv_has ls 3 [(2, .int (nI j1)), (0, .ref (x 0)), (1, .int v)] := by assumption
          refine lv_ifnonnullN hx hb dX9_firstFreeDesk_19 ?_
          refine lv_aload_n hx hb dX9_firstFreeDesk_22 rfl (lv_at hl 1 rfl) ?_
          refine va_get (D := D) (ci := 9) (v := .ref (x 1)) (C := RX9) (T := TX9) (N := 19) hx hb hts iX9_firstFreeDesk_9 hown hK hP 0 rfl rfl 0 (by decide) (hts (.fieldLink RX9 11 "FondsRoom" "desks" "[LFondsRoom$Desk;") (by decide +kernel)) (fun _ h9 => h9) rfl dX9_firstFreeDesk_23 ?_
          refine lv_iload_n hx hb dX9_firstFreeDesk_26 rfl (lv_at hl 0 rfl) ?_
          refine va_aldq hx hb hK hP 1 2 rfl rfl (vp_in_nI (by omega) (by omega)) dX9_firstFreeDesk_27 ?_
          obtain ⟨p7, ep7, mp7, kp7⟩ := hG.1 j1 (by omega)
          refine lv_tov (v' := .ref p7) (by rw [nI_clamp (by omega)]; show va_rf (g 0 j1) = _; rw [ep7]; rfl) ?_
          obtain ⟨n_o8, wt_o8, s_o8, hf_o8, swt_o8, ss_o8⟩ : TE L K cy 1 (f p7) := by rw [← kp7]; exact hHT p7 mp7
          refine pg_get (D := D) (ci := 1) (v := .int wt_o8) (C := RX1) (T := TX1) (N := 3) hx hb hts iX9_firstFreeDesk_1 hown hK hP mp7 hf_o8 rfl 1 (by decide) (hts (.fieldLink RX9 84 "FondsRoom$Desk" "watched" "Z") (by decide +kernel)) (fun _ h9 => h9) rfl dX9_firstFreeDesk_28 ?_
          refine lv_iload_n hx hb dX9_firstFreeDesk_31 rfl (lv_at hl 2 rfl) ?_
          refine lv_icmp_ne (tgt := 42) hx hb dX9_firstFreeDesk_32 (by decide) (fun c9 => ?_) (fun c9 => ?_)
          · skip
            refine lv_iinc (v := nI (j1 + 1)) (lv' := [(2, .int (nI (j1 + 1))), (0, .ref (x 0)), (1, .int v)]) hx hb dX9_firstFreeDesk_42 hl (k := 0) rfl (by rw [← nI_1]; rfl) (by decide) rfl (fun ls hl => ?_)
            refine lv_goto (tgt := 2) hx hb dX9_firstFreeDesk_45 (by decide) ?_
            exact ihkey2 (400 - ((j1 + 1))) (by omega) ((j1 + 1)) rfl (by omega)  _ _ _ hP hD hS (lv_sub hl [0, 1, 2] rfl)
          · skip
            refine lv_aload_n hx hb dX9_firstFreeDesk_35 rfl (lv_at hl 1 rfl) ?_
            refine va_get (D := D) (ci := 9) (v := .ref (x 1)) (C := RX9) (T := TX9) (N := 19) hx hb hts iX9_firstFreeDesk_9 hown hK hP 0 rfl rfl 0 (by decide) (hts (.fieldLink RX9 11 "FondsRoom" "desks" "[LFondsRoom$Desk;") (by decide +kernel)) (fun _ h9 => h9) rfl dX9_firstFreeDesk_36 ?_
            refine lv_iload_n hx hb dX9_firstFreeDesk_39 rfl (lv_at hl 0 rfl) ?_
            refine va_aldq hx hb hK hP 1 2 rfl rfl (vp_in_nI (by omega) (by omega)) dX9_firstFreeDesk_40 ?_
            obtain ⟨p10, ep10, mp10, kp10⟩ := hG.1 j1 (by omega)
            refine lv_tov (v' := .ref p10) (by rw [nI_clamp (by omega)]; show va_rf (g 0 j1) = _; rw [ep10]; rfl) ?_
            exact W.aret (v := .ref p10) hx hb hr (Or.inl ⟨_, rfl⟩) (Or.inr ⟨_, rfl⟩) (fun t ht hW => ⟨⟨(some (p10)), (), rfl, (rok_some mp10 kp10), by rw [ht]; exact hP, va_K.moved hW.alike hK, hD⟩, hS.F ht⟩) hS.2.2 dX9_firstFreeDesk_41
        · skip
          subst eb6
          have mb6 := ss_o5 b6 rfl
          have hP : va_P D vwCl (XW x cy g N n a r ++ va_pl L f) H := by assumption
          have hD : va_D (va_A (XW x cy g N n a r ++ va_pl L f) s.heap.size) (XW x cy g N n a r ++ va_pl L f) := by assumption
          have hl : lv_has ls 3 [(2, .int (nI j1)), (0, .ref (x 0)), (1, .int v)] := by assumption
          refine lv_ifnonnull (tgt := 42) hx hb dX9_firstFreeDesk_19 (by decide) ?_
          refine lv_iinc (v := nI (j1 + 1)) (lv' := [(2, .int (nI (j1 + 1))), (0, .ref (x 0)), (1, .int v)]) hx hb dX9_firstFreeDesk_42 hl (k := 0) rfl (by rw [← nI_1]; rfl) (by decide) rfl (fun ls hl => ?_)
          refine lv_goto (tgt := 2) hx hb dX9_firstFreeDesk_45 (by decide) ?_
          exact ihkey2 (400 - ((j1 + 1))) (by omega) ((j1 + 1)) rfl (by omega)  _ _ _ hP hD hS (lv_sub hl [0, 1, 2] rfl)
  have nb0 : N 0 ≤ 12 := hNB 0 (by decide)
  have nb1 : N 1 ≤ 40 := hNB 1 (by decide)
  have nb2 : N 2 ≤ 20 := hNB 2 (by decide)
  have nb3 : N 3 ≤ 4 := hNB 3 (by decide)
  have nb4 : N 4 ≤ 3 := hNB 4 (by decide)
  have nb5 : N 5 ≤ 20 := hNB 5 (by decide)
  have nb6 : N 6 ≤ 20 := hNB 6 (by decide)
  have nb7 : N 7 ≤ 20 := hNB 7 (by decide)
  have nb8 : N 8 ≤ 30 := hNB 8 (by decide)
  have nb9 : N 9 ≤ 400 := hNB 9 (by decide)
  exact key2 (400 - (0)) (0) rfl (by omega)  _ _ _ hP hD hS (lv_sub hl [0, 1, 2] rfl)

theorem iX9_freeDeskFor_6 : ∀ w ∈ wsX60, w ∈ wsX9_freeDeskFor := fun _ h => List.mem_cons_of_mem _ (List.mem_append_left _ (List.mem_append_left _ (List.mem_append_right _ h)))
set_option maxHeartbeats 4000000 in
set_option maxRecDepth 100000 in
theorem zX9_freeDeskFor (l : Launch) (D : va_G) (x : Nat → Nat) (cy : Nat → ClassId) (g : Nat → Nat → Option Nat) (L : List Nat) (K : Nat → Nat) (hG : GO L K g) (N : Nat → Nat) (n : Nat → Int32) (a : Nat → Nat → Int32) (r : Nat → Nat → Option Nat) (f : Nat → va_E) (hC : CI L K cy N r f) (sz : Nat) (rd : Nat) (mrd : rd ∈ L ∧ K rd = 6) : Met l yX9_freeDeskFor wsX9_freeDeskFor ({ frames := 1, cells := 0, slots := 0, locals := 22 }) (PW D (TYS cy) (XW x cy g N n a r ++ va_pl L f) sz [.ref (x 0), .ref rd]) (va_Qq (fun (res : Option Nat) (u : Unit) => rok L K 1 res) (BU D (TYS cy) (XW x cy g N n a r ++ va_pl L f) (fun _ => XW x cy g N n a r ++ va_pl L f) sz) (va_A (XW x cy g N n a r ++ va_pl L f) sz)) 0 0 (va_A (XW x cy g N n a r ++ va_pl L f) sz) := by
  refine Met.ofW (cc := cX9_freeDeskFor) (maxL := 4) (ret := (some (.object "FondsRoom$Desk"))) (by decide) rfl ?_
  intro p e s m args below meth c s₁ B hml hv
  obtain ⟨rfl, hsz, hP, hK, hD0⟩ := hv
  have hx := B.exec
  have hb := B.bytes
  have hr := B.returns
  have hts := atoms_spec (ws := wsX9_freeDeskFor) B.pre
  have hown : s.vm.findClass RX9 = some m.cls := findClass_of_methodNamed B.named
  have hlocks := B.notSynchronized
  subst hsz
  obtain ⟨hNB, hRB, hHT⟩ := hC
  have hSM : SM N N n n := SM_rf
  have hMM : MM N N a a := MM_rf
  have hD := hD0.self (sz := s.heap.size)
  have hA : ∀ q9 : Nat, s.heap.size ≤ q9 → va_A (XW x cy g N n a r ++ va_pl L f) s.heap.size q9 := fun q9 h => Or.inr h
  have hS : va_S (va_A (XW x cy g N n a r ++ va_pl L f) s.heap.size) s.heap s.heap [] := va_S.rf
  have hl := lv_entry ([.ref (x 0), .ref rd]) (n := 4) (Nat.le_of_ble_eq_true rfl)
  rw [lg_entry_eq]
  generalize (lg_sl ([.ref (x 0), .ref rd]) ++ List.replicate (4 - (lg_sl ([.ref (x 0), .ref rd])).length) Slot.unset).toArray = ls at hl ⊢
  have hl : lv_has ls 4 [(0, .ref (x 0)), (1, .ref rd)] := hl
  refine lv_aload_n hx hb dX9_freeDeskFor_0 rfl (lv_at hl 0 rfl) ?_
  refine lv_iconst (v := 1) hx hb dX9_freeDeskFor_1 (by decide) ?_
  refine gvQ (As := [.int 1]) (rest := []) ⟨hx, hb, hml, hown, hts⟩ (zX9_firstFreeDesk l D x cy g L K hG N n a r f ⟨hNB, hRB, hHT⟩ _  1 ) (cwV 1 hts gX9_freeDeskFor_X9_firstFreeDesk rfl rfl rfl (by decide +kernel) ⟨Nat.le_of_ble_eq_true rfl, Nat.le_of_ble_eq_true rfl⟩) hK hP hD hS hA (va_recv hK hP (ci := 9) (q0 := 0) rfl rfl) rfl hl.1 rfl (Nat.le_of_ble_eq_true rfl) dX9_freeDeskFor_2 ⟨Nat.le_of_ble_eq_true rfl, Nat.le_of_ble_eq_true rfl⟩ (fun q1 u2 H locs hq1 hP hD hS => ?_)
  have hP : va_P D vwCl (XW x cy g N n a r ++ va_pl L f) H := hP
  have hD : va_D _ (XW x cy g N n a r ++ va_pl L f) := hD
  rcases eb3 : q1 with _ | b3
  · skip
    subst eb3
    have hP : va_P D vwCl (XW x cy g N n a r ++ va_pl L f) H := by assumption
    have hD : va_D (va_A (XW x cy g N n a r ++ va_pl L f) s.heap.size) (XW x cy g N n a r ++ va_pl L f) := by assumption
    have hl : lv_has ls 4 [(0, .ref (x 0)), (1, .ref rd)] := by assumption
    refine lv_astore_nN (lv' := [(2, .null), (0, .ref (x 0)), (1, .ref rd)]) hx hb dX9_freeDeskFor_5 rfl hl (by decide) rfl (fun ls hl => ?_)
    refine lv_aload_n hx hb dX9_freeDeskFor_6 rfl (lv_at hl 2 rfl) ?_
    obtain ⟨n_o4, p_o4, ar_o4, rk_o4, nw_o4, st_o4, ct_o4, d_o4, aw_o4, rl_o4, cp_o4, cu_o4, w1_o4, w2_o4, w3_o4, ov_o4, co_o4, hf_o4, sp_o4, snw_o4, sd_o4, saw_o4, scu_o4⟩ : TE L K cy 6 (f rd) := by rw [← mrd.2]; exact hHT rd mrd.1
    refine pg_get (D := D) (ci := 6) (v := .int nw_o4) (C := RX6) (T := TX6) (N := 17) hx hb hts iX9_freeDeskFor_6 hown hK hP mrd.1 hf_o4 rfl 4 (by decide) (hts (.fieldLink RX9 117 "FondsRoom$Reader" "needsWatched" "Z") (by decide +kernel)) (fun _ h9 => h9) rfl dX9_freeDeskFor_7 ?_
    refine lv_if_eq (tgt := 15) hx hb dX9_freeDeskFor_10 (by decide) (fun c5 => ?_) (fun c5 => ?_)
    · skip
      refine lv_aload_n hx hb dX9_freeDeskFor_15 rfl (lv_at hl 1 rfl) ?_
      refine lv_iconst (v := 0) hx hb dX9_freeDeskFor_16 (by decide) ?_
      refine gvQ (As := [.int 0]) (rest := []) ⟨hx, hb, hml, hown, hts⟩ (zX9_firstFreeDesk l D x cy g L K hG N n a r f ⟨hNB, hRB, hHT⟩ _  0 ) (cwV 1 hts gX9_freeDeskFor_X9_firstFreeDesk rfl rfl rfl (by decide +kernel) ⟨Nat.le_of_ble_eq_true rfl, Nat.le_of_ble_eq_true rfl⟩) hK hP hD hS hA (va_recv hK hP (ci := 9) (q0 := 0) rfl rfl) rfl hl.1 rfl (Nat.le_of_ble_eq_true rfl) dX9_freeDeskFor_17 ⟨Nat.le_of_ble_eq_true rfl, Nat.le_of_ble_eq_true rfl⟩ (fun q6 u7 H locs hq6 hP hD hS => ?_)
      have hP : va_P D vwCl (XW x cy g N n a r ++ va_pl L f) H := hP
      have hD : va_D _ (XW x cy g N n a r ++ va_pl L f) := hD
      rcases eb8 : q6 with _ | b8
      · skip
        subst eb8
        have hP : va_P D vwCl (XW x cy g N n a r ++ va_pl L f) H := by assumption
        have hD : va_D (va_A (XW x cy g N n a r ++ va_pl L f) s.heap.size) (XW x cy g N n a r ++ va_pl L f) := by assumption
        have hl : lv_has ls 4 [(2, .null), (0, .ref (x 0)), (1, .ref rd)] := by assumption
        refine lv_astore_nN (lv' := [(3, .null), (2, .null), (0, .ref (x 0)), (1, .ref rd)]) hx hb dX9_freeDeskFor_20 rfl hl (by decide) rfl (fun ls hl => ?_)
        refine lv_aload_nN hx hb dX9_freeDeskFor_21 rfl (lv_at hl 0 rfl) ?_
        refine lv_ifnullN (tgt := 29) hx hb dX9_freeDeskFor_22 (by decide) ?_
        refine lv_aload_nN hx hb dX9_freeDeskFor_29 rfl (lv_at hl 1 rfl) ?_
        exact W.aret (v := .null) hx hb hr (Or.inl ⟨_, rfl⟩) (Or.inl rfl) (fun t ht hW => ⟨⟨none, (), rfl, rok_none, by rw [ht]; exact hP, va_K.moved hW.alike hK, hD⟩, hS.F ht⟩) hS.2.2 dX9_freeDeskFor_30
      · skip
        subst eb8
        have mb8 := hq6 b8 rfl
        have hP : va_P D vwCl (XW x cy g N n a r ++ va_pl L f) H := by assumption
        have hD : va_D (va_A (XW x cy g N n a r ++ va_pl L f) s.heap.size) (XW x cy g N n a r ++ va_pl L f) := by assumption
        have hl : lv_has ls 4 [(2, .null), (0, .ref (x 0)), (1, .ref rd)] := by assumption
        refine lv_astore_n (lv' := [(3, .ref b8), (2, .null), (0, .ref (x 0)), (1, .ref rd)]) hx hb dX9_freeDeskFor_20 rfl hl (by decide) rfl (fun ls hl => ?_)
        refine lv_aload_n hx hb dX9_freeDeskFor_21 rfl (lv_at hl 0 rfl) ?_
        refine lv_ifnull hx hb dX9_freeDeskFor_22 ?_
        refine lv_aload_n hx hb dX9_freeDeskFor_25 rfl (lv_at hl 0 rfl) ?_
        refine lv_goto (tgt := 30) hx hb dX9_freeDeskFor_26 (by decide) ?_
        exact W.aret (v := .ref b8) hx hb hr (Or.inl ⟨_, rfl⟩) (Or.inr ⟨_, rfl⟩) (fun t ht hW => ⟨⟨(some (b8)), (), rfl, (rok_some mb8.1 mb8.2), by rw [ht]; exact hP, va_K.moved hW.alike hK, hD⟩, hS.F ht⟩) hS.2.2 dX9_freeDeskFor_30
    · skip
      refine lv_aload_nN hx hb dX9_freeDeskFor_13 rfl (lv_at hl 0 rfl) ?_
      exact W.aret (v := .null) hx hb hr (Or.inl ⟨_, rfl⟩) (Or.inl rfl) (fun t ht hW => ⟨⟨none, (), rfl, rok_none, by rw [ht]; exact hP, va_K.moved hW.alike hK, hD⟩, hS.F ht⟩) hS.2.2 dX9_freeDeskFor_14
  · skip
    subst eb3
    have mb3 := hq1 b3 rfl
    have hP : va_P D vwCl (XW x cy g N n a r ++ va_pl L f) H := by assumption
    have hD : va_D (va_A (XW x cy g N n a r ++ va_pl L f) s.heap.size) (XW x cy g N n a r ++ va_pl L f) := by assumption
    have hl : lv_has ls 4 [(0, .ref (x 0)), (1, .ref rd)] := by assumption
    refine lv_astore_n (lv' := [(2, .ref b3), (0, .ref (x 0)), (1, .ref rd)]) hx hb dX9_freeDeskFor_5 rfl hl (by decide) rfl (fun ls hl => ?_)
    refine lv_aload_n hx hb dX9_freeDeskFor_6 rfl (lv_at hl 2 rfl) ?_
    obtain ⟨n_o9, p_o9, ar_o9, rk_o9, nw_o9, st_o9, ct_o9, d_o9, aw_o9, rl_o9, cp_o9, cu_o9, w1_o9, w2_o9, w3_o9, ov_o9, co_o9, hf_o9, sp_o9, snw_o9, sd_o9, saw_o9, scu_o9⟩ : TE L K cy 6 (f rd) := by rw [← mrd.2]; exact hHT rd mrd.1
    refine pg_get (D := D) (ci := 6) (v := .int nw_o9) (C := RX6) (T := TX6) (N := 17) hx hb hts iX9_freeDeskFor_6 hown hK hP mrd.1 hf_o9 rfl 4 (by decide) (hts (.fieldLink RX9 117 "FondsRoom$Reader" "needsWatched" "Z") (by decide +kernel)) (fun _ h9 => h9) rfl dX9_freeDeskFor_7 ?_
    refine lv_if_eq (tgt := 15) hx hb dX9_freeDeskFor_10 (by decide) (fun c10 => ?_) (fun c10 => ?_)
    · skip
      refine lv_aload_n hx hb dX9_freeDeskFor_15 rfl (lv_at hl 1 rfl) ?_
      refine lv_iconst (v := 0) hx hb dX9_freeDeskFor_16 (by decide) ?_
      refine gvQ (As := [.int 0]) (rest := []) ⟨hx, hb, hml, hown, hts⟩ (zX9_firstFreeDesk l D x cy g L K hG N n a r f ⟨hNB, hRB, hHT⟩ _  0 ) (cwV 1 hts gX9_freeDeskFor_X9_firstFreeDesk rfl rfl rfl (by decide +kernel) ⟨Nat.le_of_ble_eq_true rfl, Nat.le_of_ble_eq_true rfl⟩) hK hP hD hS hA (va_recv hK hP (ci := 9) (q0 := 0) rfl rfl) rfl hl.1 rfl (Nat.le_of_ble_eq_true rfl) dX9_freeDeskFor_17 ⟨Nat.le_of_ble_eq_true rfl, Nat.le_of_ble_eq_true rfl⟩ (fun q11 u12 H locs hq11 hP hD hS => ?_)
      have hP : va_P D vwCl (XW x cy g N n a r ++ va_pl L f) H := hP
      have hD : va_D _ (XW x cy g N n a r ++ va_pl L f) := hD
      rcases eb13 : q11 with _ | b13
      · skip
        subst eb13
        have hP : va_P D vwCl (XW x cy g N n a r ++ va_pl L f) H := by assumption
        have hD : va_D (va_A (XW x cy g N n a r ++ va_pl L f) s.heap.size) (XW x cy g N n a r ++ va_pl L f) := by assumption
        have hl : lv_has ls 4 [(2, .ref b3), (0, .ref (x 0)), (1, .ref rd)] := by assumption
        refine lv_astore_nN (lv' := [(3, .null), (2, .ref b3), (0, .ref (x 0)), (1, .ref rd)]) hx hb dX9_freeDeskFor_20 rfl hl (by decide) rfl (fun ls hl => ?_)
        refine lv_aload_nN hx hb dX9_freeDeskFor_21 rfl (lv_at hl 0 rfl) ?_
        refine lv_ifnullN (tgt := 29) hx hb dX9_freeDeskFor_22 (by decide) ?_
        refine lv_aload_n hx hb dX9_freeDeskFor_29 rfl (lv_at hl 1 rfl) ?_
        exact W.aret (v := .ref b3) hx hb hr (Or.inl ⟨_, rfl⟩) (Or.inr ⟨_, rfl⟩) (fun t ht hW => ⟨⟨(some (b3)), (), rfl, (rok_some mb3.1 mb3.2), by rw [ht]; exact hP, va_K.moved hW.alike hK, hD⟩, hS.F ht⟩) hS.2.2 dX9_freeDeskFor_30
      · skip
        subst eb13
        have mb13 := hq11 b13 rfl
        have hP : va_P D vwCl (XW x cy g N n a r ++ va_pl L f) H := by assumption
        have hD : va_D (va_A (XW x cy g N n a r ++ va_pl L f) s.heap.size) (XW x cy g N n a r ++ va_pl L f) := by assumption
        have hl : lv_has ls 4 [(2, .ref b3), (0, .ref (x 0)), (1, .ref rd)] := by assumption
        refine lv_astore_n (lv' := [(3, .ref b13), (2, .ref b3), (0, .ref (x 0)), (1, .ref rd)]) hx hb dX9_freeDeskFor_20 rfl hl (by decide) rfl (fun ls hl => ?_)
        refine lv_aload_n hx hb dX9_freeDeskFor_21 rfl (lv_at hl 0 rfl) ?_
        refine lv_ifnull hx hb dX9_freeDeskFor_22 ?_
        refine lv_aload_n hx hb dX9_freeDeskFor_25 rfl (lv_at hl 0 rfl) ?_
        refine lv_goto (tgt := 30) hx hb dX9_freeDeskFor_26 (by decide) ?_
        exact W.aret (v := .ref b13) hx hb hr (Or.inl ⟨_, rfl⟩) (Or.inr ⟨_, rfl⟩) (fun t ht hW => ⟨⟨(some (b13)), (), rfl, (rok_some mb13.1 mb13.2), by rw [ht]; exact hP, va_K.moved hW.alike hK, hD⟩, hS.F ht⟩) hS.2.2 dX9_freeDeskFor_30
    · skip
      refine lv_aload_n hx hb dX9_freeDeskFor_13 rfl (lv_at hl 0 rfl) ?_
      exact W.aret (v := .ref b3) hx hb hr (Or.inl ⟨_, rfl⟩) (Or.inr ⟨_, rfl⟩) (fun t ht hW => ⟨⟨(some (b3)), (), rfl, (rok_some mb3.1 mb3.2), by rw [ht]; exact hP, va_K.moved hW.alike hK, hD⟩, hS.F ht⟩) hS.2.2 dX9_freeDeskFor_14

theorem iX9_seat_1 : ∀ w ∈ wsX10, w ∈ wsX9_seat := fun _ h => List.mem_cons_of_mem _ (List.mem_append_left _ (List.mem_append_left _ (List.mem_append_left _ (List.mem_append_right _ h))))
theorem iX9_seat_3 : ∀ w ∈ wsX30, w ∈ wsX9_seat := fun _ h => List.mem_cons_of_mem _ (List.mem_append_left _ (List.mem_append_right _ h))
theorem iX9_seat_6 : ∀ w ∈ wsX60, w ∈ wsX9_seat := fun _ h => List.mem_cons_of_mem _ (List.mem_append_left _ (List.mem_append_left _ (List.mem_append_right _ h)))
theorem iX9_seat_9 : ∀ w ∈ wsX90, w ∈ wsX9_seat := fun _ h => List.mem_cons_of_mem _ (List.mem_append_left _ (List.mem_append_left _ (List.mem_append_left _ (List.mem_append_left _ (List.mem_append_right _ h)))))
set_option maxHeartbeats 4000000 in
set_option maxRecDepth 100000 in
theorem zX9_seat (l : Launch) (D : va_G) (x : Nat → Nat) (cy : Nat → ClassId) (g : Nat → Nat → Option Nat) (L : List Nat) (K : Nat → Nat) (hG : GO L K g) (N : Nat → Nat) (n : Nat → Int32) (a : Nat → Nat → Int32) (r : Nat → Nat → Option Nat) (f : Nat → va_E) (hC : CI L K cy N r f) (sz : Nat) (rd dk : Nat) (mrd : rd ∈ L ∧ K rd = 6) (mdk : dk ∈ L ∧ K dk = 1) : Met l yX9_seat wsX9_seat ({ frames := 1, cells := 0, slots := 0, locals := 25 }) (PW D (TYS cy) (XW x cy g N n a r ++ va_pl L f) sz [.ref (x 0), .ref rd, .ref dk]) (va_Qv (fun (u : ST) => CI L K cy u.1 u.2.2.2.1 u.2.2.2.2 ∧ SM N u.1 n u.2.1 ∧ MM N u.1 a u.2.2.1 ∧ True) (BU D (TYS cy) (XW x cy g N n a r ++ va_pl L f) (WC x cy g L) sz) (va_A (XW x cy g N n a r ++ va_pl L f) sz)) 0 0 (va_A (XW x cy g N n a r ++ va_pl L f) sz) := by
  refine Met.ofW (cc := cX9_seat) (maxL := 5) (ret := none) (by decide) rfl ?_
  intro p e s m args below meth c s₁ B hml hv
  obtain ⟨rfl, hsz, hP, hK, hD0⟩ := hv
  have hx := B.exec
  have hb := B.bytes
  have hr := B.returns
  have hts := atoms_spec (ws := wsX9_seat) B.pre
  have hown : s.vm.findClass RX9 = some m.cls := findClass_of_methodNamed B.named
  have hlocks := B.notSynchronized
  subst hsz
  obtain ⟨hNB, hRB, hHT⟩ := hC
  have hSM : SM N N n n := SM_rf
  have hMM : MM N N a a := MM_rf
  have hD := hD0.self (sz := s.heap.size)
  have hA : ∀ q9 : Nat, s.heap.size ≤ q9 → va_A (XW x cy g N n a r ++ va_pl L f) s.heap.size q9 := fun q9 h => Or.inr h
  have hS : va_S (va_A (XW x cy g N n a r ++ va_pl L f) s.heap.size) s.heap s.heap [] := va_S.rf
  have hl := lv_entry ([.ref (x 0), .ref rd, .ref dk]) (n := 5) (Nat.le_of_ble_eq_true rfl)
  rw [lg_entry_eq]
  generalize (lg_sl ([.ref (x 0), .ref rd, .ref dk]) ++ List.replicate (5 - (lg_sl ([.ref (x 0), .ref rd, .ref dk])).length) Slot.unset).toArray = ls at hl ⊢
  have hl : lv_has ls 5 [(0, .ref (x 0)), (1, .ref rd), (2, .ref dk)] := hl
  refine lv_aload_n hx hb dX9_seat_0 rfl (lv_at hl 0 rfl) ?_
  refine va_get (D := D) (ci := 9) (v := .ref (x 8)) (C := RX9) (T := TX9) (N := 19) hx hb hts iX9_seat_9 hown hK hP 0 rfl rfl 5 (by decide) (hts (.fieldLink RX9 47 "FondsRoom" "deskLine" "LFondsRoom$Line;") (by decide +kernel)) (fun _ h9 => h9) rfl dX9_seat_1 ?_
  refine lv_aload_n hx hb dX9_seat_4 rfl (lv_at hl 1 rfl) ?_
  refine gvV (As := [.ref rd]) (rest := []) ⟨hx, hb, hml, hown, hts⟩ (zX3_remove_0 l D x cy g L K hG N n a r f ⟨hNB, hRB, hHT⟩ _ rd  ⟨mrd.1, mrd.2⟩) (cwV 1 hts gX9_seat_X3_remove rfl rfl rfl (by decide +kernel) ⟨Nat.le_of_ble_eq_true rfl, Nat.le_of_ble_eq_true rfl⟩) hK hP hD hS hA (va_recv hK hP (ci := 3) (q0 := 8) rfl rfl) rfl hl.1 rfl (Nat.le_of_ble_eq_true rfl) dX9_seat_5 ⟨Nat.le_of_ble_eq_true rfl, Nat.le_of_ble_eq_true rfl⟩ (fun u2 H locs hq1 hP hD hS => ?_)
  obtain ⟨N3, n4, a5, r6, f7⟩ := u2
  obtain ⟨⟨hNB, hRB, hHT⟩, hs8, hv9, hq1b⟩ := hq1
  have hSM : SM N N3 n n4 := SM_tr hSM hs8
  have hMM : MM N N3 a a5 := MM_tr hMM hv9
  have hP : va_P D vwCl (XW x cy g N3 n4 a5 r6 ++ va_pl L f7) H := hP
  have hD : va_D _ (XW x cy g N3 n4 a5 r6 ++ va_pl L f7) := hD
  refine lv_aload_n hx hb dX9_seat_8 rfl (lv_at hl 2 rfl) ?_
  refine lv_aload_n hx hb dX9_seat_9 rfl (lv_at hl 1 rfl) ?_
  obtain ⟨n_o10, wt_o10, s_o10, hf_o10, swt_o10, ss_o10⟩ : TE L K cy 1 (f7 dk) := by rw [← mdk.2]; exact hHT dk mdk.1
  refine pg_put (D := D) (ci := 1) (v := .ref rd) (ty := (.object "FondsRoom$Reader")) (C := RX1) (T := TX1) (N := 3) hx hb hts iX9_seat_1 tyX1 tyX1_ok nmX1 hown hK hP hD hS mdk.1 hf_o10 rfl 2 (by decide) (hts (.fieldLink RX9 348 "FondsRoom$Desk" "sitter" "LFondsRoom$Reader;") (by decide +kernel)) (fun _ h9 => h9) rfl (by decide +kernel) rfl rfl (Nat.le_of_ble_eq_true rfl) dX9_seat_10 (fun H locs hP hD hS => ?_)
  obtain ⟨f11, ef11⟩ : ∃ z, z = va_up f7 dk (.inr (1, [.int n_o10, .int wt_o10, .ref rd])) := ⟨_, rfl⟩
  have hP : va_P D vwCl (XW x cy g N3 n4 a5 r6 ++ va_pl L f11) H := by rw [ef11]; exact hP
  have hD : va_D (va_A (XW x cy g N n a r ++ va_pl L f) s.heap.size) (XW x cy g N3 n4 a5 r6 ++ va_pl L f11) := by rw [ef11]; exact hD
  have hHT : HT L K cy f11 := by rw [ef11]; exact HT_up hHT 1 mdk.2 ⟨n_o10, wt_o10, (some rd), rfl, swt_o10, (rok_some mrd.1 mrd.2)⟩
  have hf12 : f11 dk = .inr (1, [.int n_o10, .int wt_o10, .ref rd]) := by rw [ef11]; exact va_up_self _ _ _
  refine lv_aload_n hx hb dX9_seat_13 rfl (lv_at hl 1 rfl) ?_
  refine lv_aload_n hx hb dX9_seat_14 rfl (lv_at hl 2 rfl) ?_
  obtain ⟨n_o13, p_o13, ar_o13, rk_o13, nw_o13, st_o13, ct_o13, d_o13, aw_o13, rl_o13, cp_o13, cu_o13, w1_o13, w2_o13, w3_o13, ov_o13, co_o13, hf_o13, sp_o13, snw_o13, sd_o13, saw_o13, scu_o13⟩ : TE L K cy 6 (f11 rd) := by rw [← mrd.2]; exact hHT rd mrd.1
  refine pg_put (D := D) (ci := 6) (v := .ref dk) (ty := (.object "FondsRoom$Desk")) (C := RX6) (T := TX6) (N := 17) hx hb hts iX9_seat_6 tyX6 tyX6_ok nmX6 hown hK hP hD hS mrd.1 hf_o13 rfl 7 (by decide) (hts (.fieldLink RX9 328 "FondsRoom$Reader" "desk" "LFondsRoom$Desk;") (by decide +kernel)) (fun _ h9 => h9) rfl (by decide +kernel) rfl rfl (Nat.le_of_ble_eq_true rfl) dX9_seat_15 (fun H locs hP hD hS => ?_)
  obtain ⟨f14, ef14⟩ : ∃ z, z = va_up f11 rd (.inr (6, [.int n_o13, .ref p_o13, .int ar_o13, .int rk_o13, .int nw_o13, .int st_o13, .int ct_o13, .ref dk, va_rf aw_o13, .int rl_o13, .int cp_o13, .int cu_o13, .int w1_o13, .int w2_o13, .int w3_o13, .int ov_o13, .int co_o13])) := ⟨_, rfl⟩
  have hP : va_P D vwCl (XW x cy g N3 n4 a5 r6 ++ va_pl L f14) H := by rw [ef14]; exact hP
  have hD : va_D (va_A (XW x cy g N n a r ++ va_pl L f) s.heap.size) (XW x cy g N3 n4 a5 r6 ++ va_pl L f14) := by rw [ef14]; exact hD
  have hHT : HT L K cy f14 := by rw [ef14]; exact HT_up hHT 6 mrd.2 ⟨n_o13, p_o13, ar_o13, rk_o13, nw_o13, st_o13, ct_o13, (some dk), aw_o13, rl_o13, cp_o13, cu_o13, w1_o13, w2_o13, w3_o13, ov_o13, co_o13, rfl, ⟨sp_o13.1, sp_o13.2⟩, snw_o13, (rok_some mdk.1 mdk.2), saw_o13, scu_o13⟩
  have hf15 : f14 rd = .inr (6, [.int n_o13, .ref p_o13, .int ar_o13, .int rk_o13, .int nw_o13, .int st_o13, .int ct_o13, .ref dk, va_rf aw_o13, .int rl_o13, .int cp_o13, .int cu_o13, .int w1_o13, .int w2_o13, .int w3_o13, .int ov_o13, .int co_o13]) := by rw [ef14]; exact va_up_self _ _ _
  have hf16 : f14 dk = .inr (1, [.int n_o10, .int wt_o10, .ref rd]) := by rw [ef14]; exact (va_up_ne _ _ (fun h9 => absurd (mdk.2.symm.trans ((congrArg K h9).trans mrd.2)) (by decide))).trans hf12
  refine lv_aload_n hx hb dX9_seat_18 rfl (lv_at hl 1 rfl) ?_
  refine lv_bipush (v := 8) hx hb dX9_seat_19 (by decide) ?_
  refine pg_put (D := D) (ci := 6) (v := .int 8) (ty := .int) (C := RX6) (T := TX6) (N := 17) hx hb hts iX9_seat_6 tyX6 tyX6_ok nmX6 hown hK hP hD hS mrd.1 hf15 rfl 5 (by decide) (hts (.fieldLink RX9 270 "FondsRoom$Reader" "state" "I") (by decide +kernel)) (fun _ h9 => h9) rfl (by decide +kernel) rfl rfl (Nat.le_of_ble_eq_true rfl) dX9_seat_21 (fun H locs hP hD hS => ?_)
  obtain ⟨f17, ef17⟩ : ∃ z, z = va_up f14 rd (.inr (6, [.int n_o13, .ref p_o13, .int ar_o13, .int rk_o13, .int nw_o13, .int 8, .int ct_o13, .ref dk, va_rf aw_o13, .int rl_o13, .int cp_o13, .int cu_o13, .int w1_o13, .int w2_o13, .int w3_o13, .int ov_o13, .int co_o13])) := ⟨_, rfl⟩
  have hP : va_P D vwCl (XW x cy g N3 n4 a5 r6 ++ va_pl L f17) H := by rw [ef17]; exact hP
  have hD : va_D (va_A (XW x cy g N n a r ++ va_pl L f) s.heap.size) (XW x cy g N3 n4 a5 r6 ++ va_pl L f17) := by rw [ef17]; exact hD
  have hHT : HT L K cy f17 := by rw [ef17]; exact HT_up hHT 6 mrd.2 ⟨n_o13, p_o13, ar_o13, rk_o13, nw_o13, 8, ct_o13, (some dk), aw_o13, rl_o13, cp_o13, cu_o13, w1_o13, w2_o13, w3_o13, ov_o13, co_o13, rfl, ⟨sp_o13.1, sp_o13.2⟩, snw_o13, (rok_some mdk.1 mdk.2), saw_o13, scu_o13⟩
  have hf18 : f17 rd = .inr (6, [.int n_o13, .ref p_o13, .int ar_o13, .int rk_o13, .int nw_o13, .int 8, .int ct_o13, .ref dk, va_rf aw_o13, .int rl_o13, .int cp_o13, .int cu_o13, .int w1_o13, .int w2_o13, .int w3_o13, .int ov_o13, .int co_o13]) := by rw [ef17]; exact va_up_self _ _ _
  have hf19 : f17 dk = .inr (1, [.int n_o10, .int wt_o10, .ref rd]) := by rw [ef17]; exact (va_up_ne _ _ (fun h9 => absurd (mdk.2.symm.trans ((congrArg K h9).trans mrd.2)) (by decide))).trans hf16
  refine lv_iconst (v := 0) hx hb dX9_seat_24 (by decide) ?_
  refine lv_istore_n (lv' := [(3, .int 0), (0, .ref (x 0)), (1, .ref rd), (2, .ref dk)]) hx hb dX9_seat_25 rfl hl (by decide) rfl (fun ls hl => ?_)
  have key21 : ∀ (m9 j20 : Nat), 400 - j20 = m9 → j20 ≤ 400 → ∀ (N22 : Nat → Nat) (n23 : Nat → Int32) (a24 : Nat → Nat → Int32) (r25 : Nat → Nat → Option Nat) (f26 : Nat → va_E) , NB N22 → RB L K N22 r25 → HT L K cy f26 → SM N N22 n n23 → MM N N22 a a24 → ∀ (H : Heap) (locs : List Loc) (ls : Array Slot), va_P D vwCl (XW x cy g N22 n23 a24 r25 ++ va_pl L f26) H → va_D (va_A (XW x cy g N n a r ++ va_pl L f) s.heap.size) (XW x cy g N22 n23 a24 r25 ++ va_pl L f26) → va_S (va_A (XW x cy g N n a r ++ va_pl L f) s.heap.size) s.heap H locs → lv_has ls 5 [(3, .int (nI j20)), (0, .ref (x 0)), (1, .ref rd), (2, .ref dk)] → W p l e (headSpec wsX9_seat ({ frames := 1, cells := 0, slots := 0, locals := 25 })).room s m #[.ref (x 0), .ref rd, .ref dk] below meth c H locs 0 0 (MQ below (va_Qv (fun (u : ST) => CI L K cy u.1 u.2.2.2.1 u.2.2.2.2 ∧ SM N u.1 n u.2.1 ∧ MM N u.1 a u.2.2.1 ∧ True) (BU D (TYS cy) (XW x cy g N n a r ++ va_pl L f) (WC x cy g L) s.heap.size) (va_A (XW x cy g N n a r ++ va_pl L f) s.heap.size)) #[.ref (x 0), .ref rd, .ref dk] s 0 0 (va_A (XW x cy g N n a r ++ va_pl L f) s.heap.size)) (F0 m 26 ls []) := by
    intro m9
    induction m9 using Nat.strongRecOn with
    | _ m9 ihkey21 =>
      intro j20 hm9 hj400 N22 n23 a24 r25 f26  hNB hRB hHT hSM hMM H locs ls hP hD hS hl
      subst hm9
      have nb0 : N22 0 ≤ 12 := hNB 0 (by decide)
      have nb1 : N22 1 ≤ 40 := hNB 1 (by decide)
      have nb2 : N22 2 ≤ 20 := hNB 2 (by decide)
      have nb3 : N22 3 ≤ 4 := hNB 3 (by decide)
      have nb4 : N22 4 ≤ 3 := hNB 4 (by decide)
      have nb5 : N22 5 ≤ 20 := hNB 5 (by decide)
      have nb6 : N22 6 ≤ 20 := hNB 6 (by decide)
      have nb7 : N22 7 ≤ 20 := hNB 7 (by decide)
      have nb8 : N22 8 ≤ 30 := hNB 8 (by decide)
      have nb9 : N22 9 ≤ 400 := hNB 9 (by decide)
      refine lv_iload_n hx hb dX9_seat_26 rfl (lv_at hl 0 rfl) ?_
      refine lv_aload_n hx hb dX9_seat_27 rfl (lv_at hl 1 rfl) ?_
      refine va_get (D := D) (ci := 9) (v := .ref (x 8)) (C := RX9) (T := TX9) (N := 19) hx hb hts iX9_seat_9 hown hK hP 0 rfl rfl 5 (by decide) (hts (.fieldLink RX9 47 "FondsRoom" "deskLine" "LFondsRoom$Line;") (by decide +kernel)) (fun _ h9 => h9) rfl dX9_seat_28 ?_
      refine va_get (D := D) (ci := 3) (v := .int (nI (N22 5))) (C := RX3) (T := TX3) (N := 2) hx hb hts iX9_seat_3 hown hK hP 8 rfl rfl 1 (by decide) (hts (.fieldLink RX9 373 "FondsRoom$Line" "size" "I") (by decide +kernel)) (fun _ h9 => h9) rfl dX9_seat_31 ?_
      refine lv_icmp_ge (tgt := 78) hx hb dX9_seat_34 (by decide) (fun c27 => ?_) (fun c27 => ?_)
      · skip
        have dc27 : (N22 5) ≤ j20 := (nI_leI (a := (N22 5)) (b := j20) (by omega) (by omega)).mp c27
        refine lv_aload_n hx hb dX9_seat_78 rfl (lv_at hl 1 rfl) ?_
        refine va_get (D := D) (ci := 9) (v := .ref (x 18)) (C := RX9) (T := TX9) (N := 19) hx hb hts iX9_seat_9 hown hK hP 0 rfl rfl 9 (by decide) (hts (.fieldLink RX9 67 "FondsRoom" "events" "LFondsRoom$Events;") (by decide +kernel)) (fun _ h9 => h9) rfl dX9_seat_79 ?_
        refine lv_aload_n hx hb dX9_seat_82 rfl (lv_at hl 1 rfl) ?_
        refine va_get (D := D) (ci := 9) (v := .int (n23 1)) (C := RX9) (T := TX9) (N := 19) hx hb hts iX9_seat_9 hown hK hP 0 rfl rfl 14 (by decide) (hts (.fieldLink RX9 78 "FondsRoom" "turn" "I") (by decide +kernel)) (fun _ h9 => h9) rfl dX9_seat_83 ?_
        refine lv_aload_n hx hb dX9_seat_86 rfl (lv_at hl 2 rfl) ?_
        obtain ⟨n_o28, p_o28, ar_o28, rk_o28, nw_o28, st_o28, ct_o28, d_o28, aw_o28, rl_o28, cp_o28, cu_o28, w1_o28, w2_o28, w3_o28, ov_o28, co_o28, hf_o28, sp_o28, snw_o28, sd_o28, saw_o28, scu_o28⟩ : TE L K cy 6 (f26 rd) := by rw [← mrd.2]; exact hHT rd mrd.1
        refine pg_get (D := D) (ci := 6) (v := .int n_o28) (C := RX6) (T := TX6) (N := 17) hx hb hts iX9_seat_6 hown hK hP mrd.1 hf_o28 rfl 0 (by decide) (hts (.fieldLink RX9 273 "FondsRoom$Reader" "number" "I") (by decide +kernel)) (fun _ h9 => h9) rfl dX9_seat_87 ?_
        refine lv_iconst (v := 2) hx hb dX9_seat_90 (by decide) ?_
        refine lv_aload_n hx hb dX9_seat_91 rfl (lv_at hl 3 rfl) ?_
        obtain ⟨n_o29, wt_o29, s_o29, hf_o29, swt_o29, ss_o29⟩ : TE L K cy 1 (f26 dk) := by rw [← mdk.2]; exact hHT dk mdk.1
        refine pg_get (D := D) (ci := 1) (v := .int n_o29) (C := RX1) (T := TX1) (N := 3) hx hb hts iX9_seat_1 hown hK hP mdk.1 hf_o29 rfl 0 (by decide) (hts (.fieldLink RX9 380 "FondsRoom$Desk" "number" "I") (by decide +kernel)) (fun _ h9 => h9) rfl dX9_seat_92 ?_
        refine gvV (As := [.int (n23 1), .int n_o28, .int 2, .int n_o29]) (rest := []) ⟨hx, hb, hml, hown, hts⟩ (zX2_keep l D x cy g L K hG N22 n23 a24 r25 f26 ⟨hNB, hRB, hHT⟩ _  (n23 1) n_o28 2 n_o29 ) (cwV 4 hts gX9_seat_X2_keep rfl rfl rfl (by decide +kernel) ⟨Nat.le_of_ble_eq_true rfl, Nat.le_of_ble_eq_true rfl⟩) hK hP hD hS hA (va_recv hK hP (ci := 2) (q0 := 18) rfl rfl) rfl hl.1 rfl (Nat.le_of_ble_eq_true rfl) dX9_seat_95 ⟨Nat.le_of_ble_eq_true rfl, Nat.le_of_ble_eq_true rfl⟩ (fun u31 H locs hq30 hP hD hS => ?_)
        obtain ⟨N32, n33, a34, r35, f36⟩ := u31
        obtain ⟨⟨hNB, hRB, hHT⟩, hs37, hv38, hq30b⟩ := hq30
        have hSM : SM N N32 n n33 := SM_tr hSM hs37
        have hMM : MM N N32 a a34 := MM_tr hMM hv38
        have hP : va_P D vwCl (XW x cy g N32 n33 a34 r35 ++ va_pl L f36) H := hP
        have hD : va_D _ (XW x cy g N32 n33 a34 r35 ++ va_pl L f36) := hD
        exact W.vret hx hb hr (fun t ht hW => ⟨⟨(N32, n33, a34, r35, f36), rfl, ⟨⟨hNB, hRB, hHT⟩, hSM, hMM, trivial⟩, by rw [ht]; exact hP, va_K.moved hW.alike hK, hD⟩, hS.F ht⟩) hS.2.2 dX9_seat_98
      · skip
        have dc27 : j20 < (N22 5) := Nat.not_le.mp (fun h9 => c27 ((nI_leI (a := (N22 5)) (b := j20) (by omega) (by omega)).mpr h9))
        refine lv_aload_n hx hb dX9_seat_37 rfl (lv_at hl 1 rfl) ?_
        refine va_get (D := D) (ci := 9) (v := .ref (x 8)) (C := RX9) (T := TX9) (N := 19) hx hb hts iX9_seat_9 hown hK hP 0 rfl rfl 5 (by decide) (hts (.fieldLink RX9 47 "FondsRoom" "deskLine" "LFondsRoom$Line;") (by decide +kernel)) (fun _ h9 => h9) rfl dX9_seat_38 ?_
        refine lv_iload_n hx hb dX9_seat_41 rfl (lv_at hl 0 rfl) ?_
        refine gvQ (As := [.int (nI j20)]) (rest := []) ⟨hx, hb, hml, hown, hts⟩ (zX3_at_0 l D x cy g L K hG N22 n23 a24 r25 f26 ⟨hNB, hRB, hHT⟩ _  (nI j20) ) (cwV 1 hts gX9_seat_X3_at rfl rfl rfl (by decide +kernel) ⟨Nat.le_of_ble_eq_true rfl, Nat.le_of_ble_eq_true rfl⟩) hK hP hD hS hA (va_recv hK hP (ci := 3) (q0 := 8) rfl rfl) rfl hl.1 rfl (Nat.le_of_ble_eq_true rfl) dX9_seat_42 ⟨Nat.le_of_ble_eq_true rfl, Nat.le_of_ble_eq_true rfl⟩ (fun q39 u40 H locs hq39 hP hD hS => ?_)
        have hP : va_P D vwCl (XW x cy g N22 n23 a24 r25 ++ va_pl L f26) H := hP
        have hD : va_D _ (XW x cy g N22 n23 a24 r25 ++ va_pl L f26) := hD
        rcases eb41 : q39 with _ | b41
        · skip
          subst eb41
          have hP : va_P D vwCl (XW x cy g N22 n23 a24 r25 ++ va_pl L f26) H := by assumption
          have hD : va_D (va_A (XW x cy g N n a r ++ va_pl L f) s.heap.size) (XW x cy g N22 n23 a24 r25 ++ va_pl L f26) := by assumption
          have hl : lv_has ls 5 [(3, .int (nI j20)), (0, .ref (x 0)), (1, .ref rd), (2, .ref dk)] := by assumption
          refine lv_astoreN (lv' := [(4, .null), (3, .int (nI j20)), (0, .ref (x 0)), (1, .ref rd), (2, .ref dk)]) hx hb dX9_seat_45 hl (by decide) rfl (fun ls hl => ?_)
          refine lv_aloadN hx hb dX9_seat_47 (lv_at hl 0 rfl) ?_
          refine lv_ifnullN (tgt := 72) hx hb dX9_seat_49 (by decide) ?_
          refine lv_iinc (v := nI (j20 + 1)) (lv' := [(3, .int (nI (j20 + 1))), (4, .null), (0, .ref (x 0)), (1, .ref rd), (2, .ref dk)]) hx hb dX9_seat_72 hl (k := 1) rfl (by rw [← nI_1]; rfl) (by decide) rfl (fun ls hl => ?_)
          refine lv_goto (tgt := 26) hx hb dX9_seat_75 (by decide) ?_
          exact ihkey21 (400 - ((j20 + 1))) (by omega) ((j20 + 1)) rfl (by omega) N22 n23 a24 r25 f26  hNB hRB hHT hSM hMM _ _ _ hP hD hS (lv_sub hl [0, 2, 3, 4] rfl)
        · skip
          subst eb41
          have mb41 := hq39 b41 rfl
          have hP : va_P D vwCl (XW x cy g N22 n23 a24 r25 ++ va_pl L f26) H := by assumption
          have hD : va_D (va_A (XW x cy g N n a r ++ va_pl L f) s.heap.size) (XW x cy g N22 n23 a24 r25 ++ va_pl L f26) := by assumption
          have hl : lv_has ls 5 [(3, .int (nI j20)), (0, .ref (x 0)), (1, .ref rd), (2, .ref dk)] := by assumption
          refine lv_astore (lv' := [(4, .ref b41), (3, .int (nI j20)), (0, .ref (x 0)), (1, .ref rd), (2, .ref dk)]) hx hb dX9_seat_45 hl (by decide) rfl (fun ls hl => ?_)
          refine lv_aload hx hb dX9_seat_47 (lv_at hl 0 rfl) ?_
          refine lv_ifnull hx hb dX9_seat_49 ?_
          refine lv_aload_n hx hb dX9_seat_52 rfl (lv_at hl 3 rfl) ?_
          refine lv_aload hx hb dX9_seat_53 (lv_at hl 0 rfl) ?_
          obtain ⟨n_o44, p_o44, ar_o44, rk_o44, nw_o44, st_o44, ct_o44, d_o44, aw_o44, rl_o44, cp_o44, cu_o44, w1_o44, w2_o44, w3_o44, ov_o44, co_o44, hf_o44, sp_o44, snw_o44, sd_o44, saw_o44, scu_o44⟩ : TE L K cy 6 (f26 rd) := by rw [← mrd.2]; exact hHT rd mrd.1
          refine gvI (As := [.ref b41]) (rest := []) ⟨hx, hb, hml, hown, hts⟩ (zX6_cameBehind l D x cy g L K hG N22 n23 a24 r25 f26 ⟨hNB, hRB, hHT⟩ _ b41 rd  ⟨mb41.1, mb41.2⟩ ⟨mrd.1, mrd.2⟩) (cwV 1 hts gX9_seat_X6_cameBehind rfl rfl rfl (by decide +kernel) ⟨Nat.le_of_ble_eq_true rfl, Nat.le_of_ble_eq_true rfl⟩) hK hP hD hS hA (pl_recv hK hP (ci := 6) rfl mrd.1 hf_o44) rfl hl.1 rfl (Nat.le_of_ble_eq_true rfl) dX9_seat_55 ⟨Nat.le_of_ble_eq_true rfl, Nat.le_of_ble_eq_true rfl⟩ (fun q42 u43 H locs hq42 hP hD hS => ?_)
          have hP : va_P D vwCl (XW x cy g N22 n23 a24 r25 ++ va_pl L f26) H := hP
          have hD : va_D _ (XW x cy g N22 n23 a24 r25 ++ va_pl L f26) := hD
          refine lv_if_eq (tgt := 72) hx hb dX9_seat_58 (by decide) (fun c45 => ?_) (fun c45 => ?_)
          · skip
            refine lv_iinc (v := nI (j20 + 1)) (lv' := [(3, .int (nI (j20 + 1))), (4, .ref b41), (0, .ref (x 0)), (1, .ref rd), (2, .ref dk)]) hx hb dX9_seat_72 hl (k := 1) rfl (by rw [← nI_1]; rfl) (by decide) rfl (fun ls hl => ?_)
            refine lv_goto (tgt := 26) hx hb dX9_seat_75 (by decide) ?_
            exact ihkey21 (400 - ((j20 + 1))) (by omega) ((j20 + 1)) rfl (by omega) N22 n23 a24 r25 f26  hNB hRB hHT hSM hMM _ _ _ hP hD hS (lv_sub hl [0, 2, 3, 4] rfl)
          · skip
            refine lv_aload hx hb dX9_seat_61 (lv_at hl 0 rfl) ?_
            refine lv_dup hx hb dX9_seat_63 rfl ?_
            obtain ⟨n_o46, p_o46, ar_o46, rk_o46, nw_o46, st_o46, ct_o46, d_o46, aw_o46, rl_o46, cp_o46, cu_o46, w1_o46, w2_o46, w3_o46, ov_o46, co_o46, hf_o46, sp_o46, snw_o46, sd_o46, saw_o46, scu_o46⟩ : TE L K cy 6 (f26 b41) := by rw [← mb41.2]; exact hHT b41 mb41.1
            refine pg_get (D := D) (ci := 6) (v := .int ov_o46) (C := RX6) (T := TX6) (N := 17) hx hb hts iX9_seat_6 hown hK hP mb41.1 hf_o46 rfl 15 (by decide) (hts (.fieldLink RX9 377 "FondsRoom$Reader" "overtaken" "I") (by decide +kernel)) (fun _ h9 => h9) rfl dX9_seat_64 ?_
            refine lv_iconst (v := 1) hx hb dX9_seat_67 (by decide) ?_
            refine lv_iadd hx hb dX9_seat_68 ?_
            refine pg_put (D := D) (ci := 6) (v := .int (ov_o46 + 1)) (ty := .int) (C := RX6) (T := TX6) (N := 17) hx hb hts iX9_seat_6 tyX6 tyX6_ok nmX6 hown hK hP hD hS mb41.1 hf_o46 rfl 15 (by decide) (hts (.fieldLink RX9 377 "FondsRoom$Reader" "overtaken" "I") (by decide +kernel)) (fun _ h9 => h9) rfl (by decide +kernel) rfl rfl (Nat.le_of_ble_eq_true rfl) dX9_seat_69 (fun H locs hP hD hS => ?_)
            obtain ⟨f47, ef47⟩ : ∃ z, z = va_up f26 b41 (.inr (6, [.int n_o46, .ref p_o46, .int ar_o46, .int rk_o46, .int nw_o46, .int st_o46, .int ct_o46, va_rf d_o46, va_rf aw_o46, .int rl_o46, .int cp_o46, .int cu_o46, .int w1_o46, .int w2_o46, .int w3_o46, .int (ov_o46 + 1), .int co_o46])) := ⟨_, rfl⟩
            have hP : va_P D vwCl (XW x cy g N22 n23 a24 r25 ++ va_pl L f47) H := by rw [ef47]; exact hP
            have hD : va_D (va_A (XW x cy g N n a r ++ va_pl L f) s.heap.size) (XW x cy g N22 n23 a24 r25 ++ va_pl L f47) := by rw [ef47]; exact hD
            have hHT : HT L K cy f47 := by rw [ef47]; exact HT_up hHT 6 mb41.2 ⟨n_o46, p_o46, ar_o46, rk_o46, nw_o46, st_o46, ct_o46, d_o46, aw_o46, rl_o46, cp_o46, cu_o46, w1_o46, w2_o46, w3_o46, (ov_o46 + 1), co_o46, rfl, ⟨sp_o46.1, sp_o46.2⟩, snw_o46, sd_o46, saw_o46, scu_o46⟩
            have hf48 : f47 b41 = .inr (6, [.int n_o46, .ref p_o46, .int ar_o46, .int rk_o46, .int nw_o46, .int st_o46, .int ct_o46, va_rf d_o46, va_rf aw_o46, .int rl_o46, .int cp_o46, .int cu_o46, .int w1_o46, .int w2_o46, .int w3_o46, .int (ov_o46 + 1), .int co_o46]) := by rw [ef47]; exact va_up_self _ _ _
            refine lv_iinc (v := nI (j20 + 1)) (lv' := [(3, .int (nI (j20 + 1))), (4, .ref b41), (0, .ref (x 0)), (1, .ref rd), (2, .ref dk)]) hx hb dX9_seat_72 hl (k := 1) rfl (by rw [← nI_1]; rfl) (by decide) rfl (fun ls hl => ?_)
            refine lv_goto (tgt := 26) hx hb dX9_seat_75 (by decide) ?_
            exact ihkey21 (400 - ((j20 + 1))) (by omega) ((j20 + 1)) rfl (by omega) N22 n23 a24 r25 f47  hNB hRB hHT hSM hMM _ _ _ hP hD hS (lv_sub hl [0, 2, 3, 4] rfl)
  have nb0 : N3 0 ≤ 12 := hNB 0 (by decide)
  have nb1 : N3 1 ≤ 40 := hNB 1 (by decide)
  have nb2 : N3 2 ≤ 20 := hNB 2 (by decide)
  have nb3 : N3 3 ≤ 4 := hNB 3 (by decide)
  have nb4 : N3 4 ≤ 3 := hNB 4 (by decide)
  have nb5 : N3 5 ≤ 20 := hNB 5 (by decide)
  have nb6 : N3 6 ≤ 20 := hNB 6 (by decide)
  have nb7 : N3 7 ≤ 20 := hNB 7 (by decide)
  have nb8 : N3 8 ≤ 30 := hNB 8 (by decide)
  have nb9 : N3 9 ≤ 400 := hNB 9 (by decide)
  exact key21 (400 - (0)) (0) rfl (by omega) N3 n4 a5 r6 f17  hNB hRB hHT hSM hMM _ _ _ hP hD hS (lv_sub hl [0, 1, 2, 3] rfl)

theorem iX9_giveDesks_9 : ∀ w ∈ wsX90, w ∈ wsX9_giveDesks := fun _ h => List.mem_cons_of_mem _ (List.mem_append_left _ (List.mem_append_left _ (List.mem_append_left _ (List.mem_append_left _ (List.mem_append_right _ h)))))
set_option maxHeartbeats 4000000 in
set_option maxRecDepth 100000 in
theorem zX9_giveDesks (l : Launch) (D : va_G) (x : Nat → Nat) (cy : Nat → ClassId) (g : Nat → Nat → Option Nat) (L : List Nat) (K : Nat → Nat) (hG : GO L K g) (N : Nat → Nat) (n : Nat → Int32) (a : Nat → Nat → Int32) (r : Nat → Nat → Option Nat) (f : Nat → va_E) (hC : CI L K cy N r f) (sz : Nat) : Met l yX9_giveDesks wsX9_giveDesks ({ frames := 2, cells := 0, slots := 0, locals := 49 }) (PW D (TYS cy) (XW x cy g N n a r ++ va_pl L f) sz [.ref (x 0)]) (va_Qv (fun (u : ST) => CI L K cy u.1 u.2.2.2.1 u.2.2.2.2 ∧ SM N u.1 n u.2.1 ∧ MM N u.1 a u.2.2.1 ∧ True) (BU D (TYS cy) (XW x cy g N n a r ++ va_pl L f) (WC x cy g L) sz) (va_A (XW x cy g N n a r ++ va_pl L f) sz)) 0 0 (va_A (XW x cy g N n a r ++ va_pl L f) sz) := by
  refine Met.ofW (cc := cX9_giveDesks) (maxL := 5) (ret := none) (by decide) rfl ?_
  intro p e s m args below meth c s₁ B hml hv
  obtain ⟨rfl, hsz, hP, hK, hD0⟩ := hv
  have hx := B.exec
  have hb := B.bytes
  have hr := B.returns
  have hts := atoms_spec (ws := wsX9_giveDesks) B.pre
  have hown : s.vm.findClass RX9 = some m.cls := findClass_of_methodNamed B.named
  have hlocks := B.notSynchronized
  subst hsz
  obtain ⟨hNB, hRB, hHT⟩ := hC
  have hSM : SM N N n n := SM_rf
  have hMM : MM N N a a := MM_rf
  have hD := hD0.self (sz := s.heap.size)
  have hA : ∀ q9 : Nat, s.heap.size ≤ q9 → va_A (XW x cy g N n a r ++ va_pl L f) s.heap.size q9 := fun q9 h => Or.inr h
  have hS : va_S (va_A (XW x cy g N n a r ++ va_pl L f) s.heap.size) s.heap s.heap [] := va_S.rf
  have hl := lv_entry ([.ref (x 0)]) (n := 5) (Nat.le_of_ble_eq_true rfl)
  rw [lg_entry_eq]
  generalize (lg_sl ([.ref (x 0)]) ++ List.replicate (5 - (lg_sl ([.ref (x 0)])).length) Slot.unset).toArray = ls at hl ⊢
  have hl : lv_has ls 5 [(0, .ref (x 0))] := hl
  refine lv_iconst (v := 0) hx hb dX9_giveDesks_0 (by decide) ?_
  refine lv_istore_n (lv' := [(1, .int 0), (0, .ref (x 0))]) hx hb dX9_giveDesks_1 rfl hl (by decide) rfl (fun ls hl => ?_)
  refine lv_iconst (v := 0) hx hb dX9_giveDesks_2 (by decide) ?_
  refine lv_istore_n (lv' := [(2, .int 0), (1, .int 0), (0, .ref (x 0))]) hx hb dX9_giveDesks_3 rfl hl (by decide) rfl (fun ls hl => ?_)
  have key2 : ∀ (m9 j1 : Nat), 400 - j1 = m9 → j1 ≤ 400 → ∀ (N3 : Nat → Nat) (n4 : Nat → Int32) (a5 : Nat → Nat → Int32) (r6 : Nat → Nat → Option Nat) (f7 : Nat → va_E) (v4_1 : Int32) , NB N3 → RB L K N3 r6 → HT L K cy f7 → SM N N3 n n4 → MM N N3 a a5 → ∀ (H : Heap) (locs : List Loc) (ls : Array Slot), va_P D vwCl (XW x cy g N3 n4 a5 r6 ++ va_pl L f7) H → va_D (va_A (XW x cy g N n a r ++ va_pl L f) s.heap.size) (XW x cy g N3 n4 a5 r6 ++ va_pl L f7) → va_S (va_A (XW x cy g N n a r ++ va_pl L f) s.heap.size) s.heap H locs → lv_has ls 5 [(2, .int (nI j1)), (1, .int v4_1), (0, .ref (x 0))] → W p l e (headSpec wsX9_giveDesks ({ frames := 2, cells := 0, slots := 0, locals := 49 })).room s m #[.ref (x 0)] below meth c H locs 0 0 (MQ below (va_Qv (fun (u : ST) => CI L K cy u.1 u.2.2.2.1 u.2.2.2.2 ∧ SM N u.1 n u.2.1 ∧ MM N u.1 a u.2.2.1 ∧ True) (BU D (TYS cy) (XW x cy g N n a r ++ va_pl L f) (WC x cy g L) s.heap.size) (va_A (XW x cy g N n a r ++ va_pl L f) s.heap.size)) #[.ref (x 0)] s 0 0 (va_A (XW x cy g N n a r ++ va_pl L f) s.heap.size)) (F0 m 4 ls []) := by
    intro m9
    induction m9 using Nat.strongRecOn with
    | _ m9 ihkey2 =>
      intro j1 hm9 hj400 N3 n4 a5 r6 f7 v4_1 hNB hRB hHT hSM hMM H locs ls hP hD hS hl
      subst hm9
      have nb0 : N3 0 ≤ 12 := hNB 0 (by decide)
      have nb1 : N3 1 ≤ 40 := hNB 1 (by decide)
      have nb2 : N3 2 ≤ 20 := hNB 2 (by decide)
      have nb3 : N3 3 ≤ 4 := hNB 3 (by decide)
      have nb4 : N3 4 ≤ 3 := hNB 4 (by decide)
      have nb5 : N3 5 ≤ 20 := hNB 5 (by decide)
      have nb6 : N3 6 ≤ 20 := hNB 6 (by decide)
      have nb7 : N3 7 ≤ 20 := hNB 7 (by decide)
      have nb8 : N3 8 ≤ 30 := hNB 8 (by decide)
      have nb9 : N3 9 ≤ 400 := hNB 9 (by decide)
      refine lv_iload_n hx hb dX9_giveDesks_4 rfl (lv_at hl 0 rfl) ?_
      refine lv_aload_n hx hb dX9_giveDesks_5 rfl (lv_at hl 2 rfl) ?_
      refine va_get (D := D) (ci := 9) (v := .int (nI (N3 2))) (C := RX9) (T := TX9) (N := 19) hx hb hts iX9_giveDesks_9 hown hK hP 0 rfl rfl 12 (by decide) (hts (.fieldLink RX9 104 "FondsRoom" "readerCount" "I") (by decide +kernel)) (fun _ h9 => h9) rfl dX9_giveDesks_6 ?_
      refine lv_icmp_ge (tgt := 57) hx hb dX9_giveDesks_9 (by decide) (fun c8 => ?_) (fun c8 => ?_)
      · skip
        have dc8 : (N3 2) ≤ j1 := (nI_leI (a := (N3 2)) (b := j1) (by omega) (by omega)).mp c8
        exact W.vret hx hb hr (fun t ht hW => ⟨⟨(N3, n4, a5, r6, f7), rfl, ⟨⟨hNB, hRB, hHT⟩, hSM, hMM, trivial⟩, by rw [ht]; exact hP, va_K.moved hW.alike hK, hD⟩, hS.F ht⟩) hS.2.2 dX9_giveDesks_57
      · skip
        have dc8 : j1 < (N3 2) := Nat.not_le.mp (fun h9 => c8 ((nI_leI (a := (N3 2)) (b := j1) (by omega) (by omega)).mpr h9))
        refine lv_aload_n hx hb dX9_giveDesks_12 rfl (lv_at hl 2 rfl) ?_
        refine va_get (D := D) (ci := 9) (v := .ref (x 8)) (C := RX9) (T := TX9) (N := 19) hx hb hts iX9_giveDesks_9 hown hK hP 0 rfl rfl 5 (by decide) (hts (.fieldLink RX9 47 "FondsRoom" "deskLine" "LFondsRoom$Line;") (by decide +kernel)) (fun _ h9 => h9) rfl dX9_giveDesks_13 ?_
        refine lv_iload_n hx hb dX9_giveDesks_16 rfl (lv_at hl 1 rfl) ?_
        refine gvQ (As := [.int v4_1]) (rest := []) ⟨hx, hb, hml, hown, hts⟩ (zX3_at_0 l D x cy g L K hG N3 n4 a5 r6 f7 ⟨hNB, hRB, hHT⟩ _  v4_1 ) (cwV 1 hts gX9_giveDesks_X3_at rfl rfl rfl (by decide +kernel) ⟨Nat.le_of_ble_eq_true rfl, Nat.le_of_ble_eq_true rfl⟩) hK hP hD hS hA (va_recv hK hP (ci := 3) (q0 := 8) rfl rfl) rfl hl.1 rfl (Nat.le_of_ble_eq_true rfl) dX9_giveDesks_17 ⟨Nat.le_of_ble_eq_true rfl, Nat.le_of_ble_eq_true rfl⟩ (fun q9 u10 H locs hq9 hP hD hS => ?_)
        have hP : va_P D vwCl (XW x cy g N3 n4 a5 r6 ++ va_pl L f7) H := hP
        have hD : va_D _ (XW x cy g N3 n4 a5 r6 ++ va_pl L f7) := hD
        rcases eb11 : q9 with _ | b11
        · skip
          subst eb11
          have hP : va_P D vwCl (XW x cy g N3 n4 a5 r6 ++ va_pl L f7) H := by assumption
          have hD : va_D (va_A (XW x cy g N n a r ++ va_pl L f) s.heap.size) (XW x cy g N3 n4 a5 r6 ++ va_pl L f7) := by assumption
          have hl : lv_has ls 5 [(2, .int (nI j1)), (1, .int v4_1), (0, .ref (x 0))] := by assumption
          refine lv_astore_nN (lv' := [(3, .null), (2, .int (nI j1)), (1, .int v4_1), (0, .ref (x 0))]) hx hb dX9_giveDesks_20 rfl hl (by decide) rfl (fun ls hl => ?_)
          refine lv_aload_nN hx hb dX9_giveDesks_21 rfl (lv_at hl 0 rfl) ?_
          refine lv_ifnonnullN hx hb dX9_giveDesks_22 ?_
          exact W.vret hx hb hr (fun t ht hW => ⟨⟨(N3, n4, a5, r6, f7), rfl, ⟨⟨hNB, hRB, hHT⟩, hSM, hMM, trivial⟩, by rw [ht]; exact hP, va_K.moved hW.alike hK, hD⟩, hS.F ht⟩) hS.2.2 dX9_giveDesks_25
        · skip
          subst eb11
          have mb11 := hq9 b11 rfl
          have hP : va_P D vwCl (XW x cy g N3 n4 a5 r6 ++ va_pl L f7) H := by assumption
          have hD : va_D (va_A (XW x cy g N n a r ++ va_pl L f) s.heap.size) (XW x cy g N3 n4 a5 r6 ++ va_pl L f7) := by assumption
          have hl : lv_has ls 5 [(2, .int (nI j1)), (1, .int v4_1), (0, .ref (x 0))] := by assumption
          refine lv_astore_n (lv' := [(3, .ref b11), (2, .int (nI j1)), (1, .int v4_1), (0, .ref (x 0))]) hx hb dX9_giveDesks_20 rfl hl (by decide) rfl (fun ls hl => ?_)
          refine lv_aload_n hx hb dX9_giveDesks_21 rfl (lv_at hl 0 rfl) ?_
          refine lv_ifnonnull (tgt := 26) hx hb dX9_giveDesks_22 (by decide) ?_
          refine lv_aload_n hx hb dX9_giveDesks_26 rfl (lv_at hl 3 rfl) ?_
          refine lv_aload_n hx hb dX9_giveDesks_27 rfl (lv_at hl 0 rfl) ?_
          refine gvQ (As := [.ref b11]) (rest := []) ⟨hx, hb, hml, hown, hts⟩ (zX9_freeDeskFor l D x cy g L K hG N3 n4 a5 r6 f7 ⟨hNB, hRB, hHT⟩ _ b11  ⟨mb11.1, mb11.2⟩) (cwV 1 hts gX9_giveDesks_X9_freeDeskFor rfl rfl rfl (by decide +kernel) ⟨Nat.le_of_ble_eq_true rfl, Nat.le_of_ble_eq_true rfl⟩) hK hP hD hS hA (va_recv hK hP (ci := 9) (q0 := 0) rfl rfl) rfl hl.1 rfl (Nat.le_of_ble_eq_true rfl) dX9_giveDesks_28 ⟨Nat.le_of_ble_eq_true rfl, Nat.le_of_ble_eq_true rfl⟩ (fun q12 u13 H locs hq12 hP hD hS => ?_)
          have hP : va_P D vwCl (XW x cy g N3 n4 a5 r6 ++ va_pl L f7) H := hP
          have hD : va_D _ (XW x cy g N3 n4 a5 r6 ++ va_pl L f7) := hD
          rcases eb14 : q12 with _ | b14
          · skip
            subst eb14
            have hP : va_P D vwCl (XW x cy g N3 n4 a5 r6 ++ va_pl L f7) H := by assumption
            have hD : va_D (va_A (XW x cy g N n a r ++ va_pl L f) s.heap.size) (XW x cy g N3 n4 a5 r6 ++ va_pl L f7) := by assumption
            have hl : lv_has ls 5 [(3, .ref b11), (2, .int (nI j1)), (1, .int v4_1), (0, .ref (x 0))] := by assumption
            refine lv_astoreN (lv' := [(4, .null), (3, .ref b11), (2, .int (nI j1)), (1, .int v4_1), (0, .ref (x 0))]) hx hb dX9_giveDesks_31 hl (by decide) rfl (fun ls hl => ?_)
            refine lv_aloadN hx hb dX9_giveDesks_33 (lv_at hl 0 rfl) ?_
            refine lv_ifnonnullN hx hb dX9_giveDesks_35 ?_
            refine lv_iinc (v := v4_1 + (1)) (lv' := [(1, .int (v4_1 + (1))), (4, .null), (3, .ref b11), (2, .int (nI j1)), (0, .ref (x 0))]) hx hb dX9_giveDesks_38 hl (k := 3) rfl rfl (by decide) rfl (fun ls hl => ?_)
            refine lv_goto (tgt := 51) hx hb dX9_giveDesks_41 (by decide) ?_
            refine lv_iinc (v := nI (j1 + 1)) (lv' := [(2, .int (nI (j1 + 1))), (1, .int (v4_1 + (1))), (4, .null), (3, .ref b11), (0, .ref (x 0))]) hx hb dX9_giveDesks_51 hl (k := 3) rfl (by rw [← nI_1]; rfl) (by decide) rfl (fun ls hl => ?_)
            refine lv_goto (tgt := 4) hx hb dX9_giveDesks_54 (by decide) ?_
            exact ihkey2 (400 - ((j1 + 1))) (by omega) ((j1 + 1)) rfl (by omega) N3 n4 a5 r6 f7 (v4_1 + (1)) hNB hRB hHT hSM hMM _ _ _ hP hD hS (lv_sub hl [0, 1, 4] rfl)
          · skip
            subst eb14
            have mb14 := hq12 b14 rfl
            have hP : va_P D vwCl (XW x cy g N3 n4 a5 r6 ++ va_pl L f7) H := by assumption
            have hD : va_D (va_A (XW x cy g N n a r ++ va_pl L f) s.heap.size) (XW x cy g N3 n4 a5 r6 ++ va_pl L f7) := by assumption
            have hl : lv_has ls 5 [(3, .ref b11), (2, .int (nI j1)), (1, .int v4_1), (0, .ref (x 0))] := by assumption
            refine lv_astore (lv' := [(4, .ref b14), (3, .ref b11), (2, .int (nI j1)), (1, .int v4_1), (0, .ref (x 0))]) hx hb dX9_giveDesks_31 hl (by decide) rfl (fun ls hl => ?_)
            refine lv_aload hx hb dX9_giveDesks_33 (lv_at hl 0 rfl) ?_
            refine lv_ifnonnull (tgt := 44) hx hb dX9_giveDesks_35 (by decide) ?_
            refine lv_aload_n hx hb dX9_giveDesks_44 rfl (lv_at hl 4 rfl) ?_
            refine lv_aload_n hx hb dX9_giveDesks_45 rfl (lv_at hl 1 rfl) ?_
            refine lv_aload hx hb dX9_giveDesks_46 (lv_at hl 0 rfl) ?_
            refine gvV (As := [.ref b11, .ref b14]) (rest := []) ⟨hx, hb, hml, hown, hts⟩ (zX9_seat l D x cy g L K hG N3 n4 a5 r6 f7 ⟨hNB, hRB, hHT⟩ _ b11 b14  ⟨mb11.1, mb11.2⟩ ⟨mb14.1, mb14.2⟩) (cwV 2 hts gX9_giveDesks_X9_seat rfl rfl rfl (by decide +kernel) ⟨Nat.le_of_ble_eq_true rfl, Nat.le_of_ble_eq_true rfl⟩) hK hP hD hS hA (va_recv hK hP (ci := 9) (q0 := 0) rfl rfl) rfl hl.1 rfl (Nat.le_of_ble_eq_true rfl) dX9_giveDesks_48 ⟨Nat.le_of_ble_eq_true rfl, Nat.le_of_ble_eq_true rfl⟩ (fun u16 H locs hq15 hP hD hS => ?_)
            obtain ⟨N17, n18, a19, r20, f21⟩ := u16
            obtain ⟨⟨hNB, hRB, hHT⟩, hs22, hv23, hq15b⟩ := hq15
            have hSM : SM N N17 n n18 := SM_tr hSM hs22
            have hMM : MM N N17 a a19 := MM_tr hMM hv23
            have hP : va_P D vwCl (XW x cy g N17 n18 a19 r20 ++ va_pl L f21) H := hP
            have hD : va_D _ (XW x cy g N17 n18 a19 r20 ++ va_pl L f21) := hD
            refine lv_iinc (v := nI (j1 + 1)) (lv' := [(2, .int (nI (j1 + 1))), (4, .ref b14), (3, .ref b11), (1, .int v4_1), (0, .ref (x 0))]) hx hb dX9_giveDesks_51 hl (k := 2) rfl (by rw [← nI_1]; rfl) (by decide) rfl (fun ls hl => ?_)
            refine lv_goto (tgt := 4) hx hb dX9_giveDesks_54 (by decide) ?_
            have nb0 : N17 0 ≤ 12 := hNB 0 (by decide)
            have nb1 : N17 1 ≤ 40 := hNB 1 (by decide)
            have nb2 : N17 2 ≤ 20 := hNB 2 (by decide)
            have nb3 : N17 3 ≤ 4 := hNB 3 (by decide)
            have nb4 : N17 4 ≤ 3 := hNB 4 (by decide)
            have nb5 : N17 5 ≤ 20 := hNB 5 (by decide)
            have nb6 : N17 6 ≤ 20 := hNB 6 (by decide)
            have nb7 : N17 7 ≤ 20 := hNB 7 (by decide)
            have nb8 : N17 8 ≤ 30 := hNB 8 (by decide)
            have nb9 : N17 9 ≤ 400 := hNB 9 (by decide)
            exact ihkey2 (400 - ((j1 + 1))) (by omega) ((j1 + 1)) rfl (by omega) N17 n18 a19 r20 f21 v4_1 hNB hRB hHT hSM hMM _ _ _ hP hD hS (lv_sub hl [0, 3, 4] rfl)
  have nb0 : N 0 ≤ 12 := hNB 0 (by decide)
  have nb1 : N 1 ≤ 40 := hNB 1 (by decide)
  have nb2 : N 2 ≤ 20 := hNB 2 (by decide)
  have nb3 : N 3 ≤ 4 := hNB 3 (by decide)
  have nb4 : N 4 ≤ 3 := hNB 4 (by decide)
  have nb5 : N 5 ≤ 20 := hNB 5 (by decide)
  have nb6 : N 6 ≤ 20 := hNB 6 (by decide)
  have nb7 : N 7 ≤ 20 := hNB 7 (by decide)
  have nb8 : N 8 ≤ 30 := hNB 8 (by decide)
  have nb9 : N 9 ≤ 400 := hNB 9 (by decide)
  exact key2 (400 - (0)) (0) rfl (by omega) N n a r f 0 hNB hRB hHT hSM hMM _ _ _ hP hD hS (lv_sub hl [0, 1, 2] rfl)

theorem iX9_firstLeftBox_0 : ∀ w ∈ wsX00, w ∈ wsX9_firstLeftBox := fun _ h => List.mem_cons_of_mem _ (List.mem_append_right _ h)
theorem iX9_firstLeftBox_9 : ∀ w ∈ wsX90, w ∈ wsX9_firstLeftBox := fun _ h => List.mem_cons_of_mem _ (List.mem_append_left _ (List.mem_append_right _ h))
set_option maxHeartbeats 4000000 in
set_option maxRecDepth 100000 in
theorem zX9_firstLeftBox (l : Launch) (D : va_G) (x : Nat → Nat) (cy : Nat → ClassId) (g : Nat → Nat → Option Nat) (L : List Nat) (K : Nat → Nat) (hG : GO L K g) (N : Nat → Nat) (n : Nat → Int32) (a : Nat → Nat → Int32) (r : Nat → Nat → Option Nat) (f : Nat → va_E) (hC : CI L K cy N r f) (sz : Nat) : Met l yX9_firstLeftBox wsX9_firstLeftBox ({ frames := 0, cells := 0, slots := 0, locals := 0 }) (PW D (TYS cy) (XW x cy g N n a r ++ va_pl L f) sz [.ref (x 0)]) (va_Qq (fun (res : Option Nat) (u : Unit) => rok L K 0 res) (BU D (TYS cy) (XW x cy g N n a r ++ va_pl L f) (fun _ => XW x cy g N n a r ++ va_pl L f) sz) (va_A (XW x cy g N n a r ++ va_pl L f) sz)) 0 0 (va_A (XW x cy g N n a r ++ va_pl L f) sz) := by
  refine Met.ofW (cc := cX9_firstLeftBox) (maxL := 2) (ret := (some (.object "FondsRoom$Box"))) (by decide) rfl ?_
  intro p e s m args below meth c s₁ B hml hv
  obtain ⟨rfl, hsz, hP, hK, hD0⟩ := hv
  have hx := B.exec
  have hb := B.bytes
  have hr := B.returns
  have hts := atoms_spec (ws := wsX9_firstLeftBox) B.pre
  have hown : s.vm.findClass RX9 = some m.cls := findClass_of_methodNamed B.named
  have hlocks := B.notSynchronized
  subst hsz
  obtain ⟨hNB, hRB, hHT⟩ := hC
  have hSM : SM N N n n := SM_rf
  have hMM : MM N N a a := MM_rf
  have hD := hD0.self (sz := s.heap.size)
  have hA : ∀ q9 : Nat, s.heap.size ≤ q9 → va_A (XW x cy g N n a r ++ va_pl L f) s.heap.size q9 := fun q9 h => Or.inr h
  have hS : va_S (va_A (XW x cy g N n a r ++ va_pl L f) s.heap.size) s.heap s.heap [] := va_S.rf
  have hl := lv_entry ([.ref (x 0)]) (n := 2) (Nat.le_of_ble_eq_true rfl)
  rw [lg_entry_eq]
  generalize (lg_sl ([.ref (x 0)]) ++ List.replicate (2 - (lg_sl ([.ref (x 0)])).length) Slot.unset).toArray = ls at hl ⊢
  have hl : lv_has ls 2 [(0, .ref (x 0))] := hl
  refine lv_iconst (v := 0) hx hb dX9_firstLeftBox_0 (by decide) ?_
  refine lv_istore_n (lv' := [(1, .int 0), (0, .ref (x 0))]) hx hb dX9_firstLeftBox_1 rfl hl (by decide) rfl (fun ls hl => ?_)
  have key2 : ∀ (m9 j1 : Nat), 400 - j1 = m9 → j1 ≤ 400 → ∀ (H : Heap) (locs : List Loc) (ls : Array Slot), va_P D vwCl (XW x cy g N n a r ++ va_pl L f) H → va_D (va_A (XW x cy g N n a r ++ va_pl L f) s.heap.size) (XW x cy g N n a r ++ va_pl L f) → va_S (va_A (XW x cy g N n a r ++ va_pl L f) s.heap.size) s.heap H locs → lv_has ls 2 [(1, .int (nI j1)), (0, .ref (x 0))] → W p l e (headSpec wsX9_firstLeftBox ({ frames := 0, cells := 0, slots := 0, locals := 0 })).room s m #[.ref (x 0)] below meth c H locs 0 0 (MQ below (va_Qq (fun (res : Option Nat) (u : Unit) => rok L K 0 res) (BU D (TYS cy) (XW x cy g N n a r ++ va_pl L f) (fun _ => XW x cy g N n a r ++ va_pl L f) s.heap.size) (va_A (XW x cy g N n a r ++ va_pl L f) s.heap.size)) #[.ref (x 0)] s 0 0 (va_A (XW x cy g N n a r ++ va_pl L f) s.heap.size)) (F0 m 2 ls []) := by
    intro m9
    induction m9 using Nat.strongRecOn with
    | _ m9 ihkey2 =>
      intro j1 hm9 hj400  H locs ls hP hD hS hl
      subst hm9
      have nb0 : N 0 ≤ 12 := hNB 0 (by decide)
      have nb1 : N 1 ≤ 40 := hNB 1 (by decide)
      have nb2 : N 2 ≤ 20 := hNB 2 (by decide)
      have nb3 : N 3 ≤ 4 := hNB 3 (by decide)
      have nb4 : N 4 ≤ 3 := hNB 4 (by decide)
      have nb5 : N 5 ≤ 20 := hNB 5 (by decide)
      have nb6 : N 6 ≤ 20 := hNB 6 (by decide)
      have nb7 : N 7 ≤ 20 := hNB 7 (by decide)
      have nb8 : N 8 ≤ 30 := hNB 8 (by decide)
      have nb9 : N 9 ≤ 400 := hNB 9 (by decide)
      refine lv_iload_n hx hb dX9_firstLeftBox_2 rfl (lv_at hl 0 rfl) ?_
      refine lv_aload_n hx hb dX9_firstLeftBox_3 rfl (lv_at hl 1 rfl) ?_
      refine va_get (D := D) (ci := 9) (v := .int (nI (N 1))) (C := RX9) (T := TX9) (N := 19) hx hb hts iX9_firstLeftBox_9 hown hK hP 0 rfl rfl 11 (by decide) (hts (.fieldLink RX9 88 "FondsRoom" "boxCount" "I") (by decide +kernel)) (fun _ h9 => h9) rfl dX9_firstLeftBox_4 ?_
      refine lv_icmp_ge (tgt := 36) hx hb dX9_firstLeftBox_7 (by decide) (fun c3 => ?_) (fun c3 => ?_)
      · skip
        have dc3 : (N 1) ≤ j1 := (nI_leI (a := (N 1)) (b := j1) (by omega) (by omega)).mp c3
        refine lv_null hx hb dX9_firstLeftBox_36 ?_
        exact W.aret (v := .null) hx hb hr (Or.inl ⟨_, rfl⟩) (Or.inl rfl) (fun t ht hW => ⟨⟨none, (), rfl, rok_none, by rw [ht]; exact hP, va_K.moved hW.alike hK, hD⟩, hS.F ht⟩) hS.2.2 dX9_firstLeftBox_37
      · skip
        have dc3 : j1 < (N 1) := Nat.not_le.mp (fun h9 => c3 ((nI_leI (a := (N 1)) (b := j1) (by omega) (by omega)).mpr h9))
        refine lv_aload_n hx hb dX9_firstLeftBox_10 rfl (lv_at hl 1 rfl) ?_
        refine va_get (D := D) (ci := 9) (v := .ref (x 2)) (C := RX9) (T := TX9) (N := 19) hx hb hts iX9_firstLeftBox_9 hown hK hP 0 rfl rfl 1 (by decide) (hts (.fieldLink RX9 20 "FondsRoom" "boxes" "[LFondsRoom$Box;") (by decide +kernel)) (fun _ h9 => h9) rfl dX9_firstLeftBox_11 ?_
        refine lv_iload_n hx hb dX9_firstLeftBox_14 rfl (lv_at hl 0 rfl) ?_
        refine va_aldq hx hb hK hP 2 3 rfl rfl (vp_in_nI (by omega) (by omega)) dX9_firstLeftBox_15 ?_
        obtain ⟨p4, ep4, mp4, kp4⟩ := hG.2.1 j1 (by omega)
        refine lv_tov (v' := .ref p4) (by rw [nI_clamp (by omega)]; show va_rf (g 1 j1) = _; rw [ep4]; rfl) ?_
        obtain ⟨n_o5, fo_o5, pr_o5, pl_o5, h_o5, w_o5, hf_o5, spr_o5, sh_o5, sw_o5⟩ : TE L K cy 0 (f p4) := by rw [← kp4]; exact hHT p4 mp4
        refine pg_get (D := D) (ci := 0) (v := .int pl_o5) (C := RX0) (T := TX0) (N := 6) hx hb hts iX9_firstLeftBox_0 hown hK hP mp4 hf_o5 rfl 3 (by decide) (hts (.fieldLink RX9 233 "FondsRoom$Box" "place" "I") (by decide +kernel)) (fun _ h9 => h9) rfl dX9_firstLeftBox_16 ?_
        refine lv_iconst (v := 2) hx hb dX9_firstLeftBox_19 (by decide) ?_
        refine lv_icmp_ne (tgt := 30) hx hb dX9_firstLeftBox_20 (by decide) (fun c6 => ?_) (fun c6 => ?_)
        · skip
          refine lv_iinc (v := nI (j1 + 1)) (lv' := [(1, .int (nI (j1 + 1))), (0, .ref (x 0))]) hx hb dX9_firstLeftBox_30 hl (k := 0) rfl (by rw [← nI_1]; rfl) (by decide) rfl (fun ls hl => ?_)
          refine lv_goto (tgt := 2) hx hb dX9_firstLeftBox_33 (by decide) ?_
          exact ihkey2 (400 - ((j1 + 1))) (by omega) ((j1 + 1)) rfl (by omega)  _ _ _ hP hD hS (lv_sub hl [0, 1] rfl)
        · skip
          refine lv_aload_n hx hb dX9_firstLeftBox_23 rfl (lv_at hl 1 rfl) ?_
          refine va_get (D := D) (ci := 9) (v := .ref (x 2)) (C := RX9) (T := TX9) (N := 19) hx hb hts iX9_firstLeftBox_9 hown hK hP 0 rfl rfl 1 (by decide) (hts (.fieldLink RX9 20 "FondsRoom" "boxes" "[LFondsRoom$Box;") (by decide +kernel)) (fun _ h9 => h9) rfl dX9_firstLeftBox_24 ?_
          refine lv_iload_n hx hb dX9_firstLeftBox_27 rfl (lv_at hl 0 rfl) ?_
          refine va_aldq hx hb hK hP 2 3 rfl rfl (vp_in_nI (by omega) (by omega)) dX9_firstLeftBox_28 ?_
          obtain ⟨p7, ep7, mp7, kp7⟩ := hG.2.1 j1 (by omega)
          refine lv_tov (v' := .ref p7) (by rw [nI_clamp (by omega)]; show va_rf (g 1 j1) = _; rw [ep7]; rfl) ?_
          exact W.aret (v := .ref p7) hx hb hr (Or.inl ⟨_, rfl⟩) (Or.inr ⟨_, rfl⟩) (fun t ht hW => ⟨⟨(some (p7)), (), rfl, (rok_some mp7 kp7), by rw [ht]; exact hP, va_K.moved hW.alike hK, hD⟩, hS.F ht⟩) hS.2.2 dX9_firstLeftBox_29
  have nb0 : N 0 ≤ 12 := hNB 0 (by decide)
  have nb1 : N 1 ≤ 40 := hNB 1 (by decide)
  have nb2 : N 2 ≤ 20 := hNB 2 (by decide)
  have nb3 : N 3 ≤ 4 := hNB 3 (by decide)
  have nb4 : N 4 ≤ 3 := hNB 4 (by decide)
  have nb5 : N 5 ≤ 20 := hNB 5 (by decide)
  have nb6 : N 6 ≤ 20 := hNB 6 (by decide)
  have nb7 : N 7 ≤ 20 := hNB 7 (by decide)
  have nb8 : N 8 ≤ 30 := hNB 8 (by decide)
  have nb9 : N 9 ≤ 400 := hNB 9 (by decide)
  exact key2 (400 - (0)) (0) rfl (by omega)  _ _ _ hP hD hS (lv_sub hl [0, 1] rfl)

theorem iX9_firstAskerOfHomeBox_3 : ∀ w ∈ wsX30, w ∈ wsX9_firstAskerOfHomeBox := fun _ h => List.mem_cons_of_mem _ (List.mem_append_left _ (List.mem_append_left _ (List.mem_append_right _ h)))
theorem iX9_firstAskerOfHomeBox_9 : ∀ w ∈ wsX90, w ∈ wsX9_firstAskerOfHomeBox := fun _ h => List.mem_cons_of_mem _ (List.mem_append_left _ (List.mem_append_left _ (List.mem_append_left _ (List.mem_append_right _ h))))
set_option maxHeartbeats 4000000 in
set_option maxRecDepth 100000 in
theorem zX9_firstAskerOfHomeBox (l : Launch) (D : va_G) (x : Nat → Nat) (cy : Nat → ClassId) (g : Nat → Nat → Option Nat) (L : List Nat) (K : Nat → Nat) (hG : GO L K g) (N : Nat → Nat) (n : Nat → Int32) (a : Nat → Nat → Int32) (r : Nat → Nat → Option Nat) (f : Nat → va_E) (hC : CI L K cy N r f) (sz : Nat) : Met l yX9_firstAskerOfHomeBox wsX9_firstAskerOfHomeBox ({ frames := 1, cells := 0, slots := 0, locals := 21 }) (PW D (TYS cy) (XW x cy g N n a r ++ va_pl L f) sz [.ref (x 0)]) (va_Qq (fun (res : Option Nat) (u : Unit) => rok L K 6 res) (BU D (TYS cy) (XW x cy g N n a r ++ va_pl L f) (fun _ => XW x cy g N n a r ++ va_pl L f) sz) (va_A (XW x cy g N n a r ++ va_pl L f) sz)) 0 0 (va_A (XW x cy g N n a r ++ va_pl L f) sz) := by
  refine Met.ofW (cc := cX9_firstAskerOfHomeBox) (maxL := 3) (ret := (some (.object "FondsRoom$Reader"))) (by decide) rfl ?_
  intro p e s m args below meth c s₁ B hml hv
  obtain ⟨rfl, hsz, hP, hK, hD0⟩ := hv
  have hx := B.exec
  have hb := B.bytes
  have hr := B.returns
  have hts := atoms_spec (ws := wsX9_firstAskerOfHomeBox) B.pre
  have hown : s.vm.findClass RX9 = some m.cls := findClass_of_methodNamed B.named
  have hlocks := B.notSynchronized
  subst hsz
  obtain ⟨hNB, hRB, hHT⟩ := hC
  have hSM : SM N N n n := SM_rf
  have hMM : MM N N a a := MM_rf
  have hD := hD0.self (sz := s.heap.size)
  have hA : ∀ q9 : Nat, s.heap.size ≤ q9 → va_A (XW x cy g N n a r ++ va_pl L f) s.heap.size q9 := fun q9 h => Or.inr h
  have hS : va_S (va_A (XW x cy g N n a r ++ va_pl L f) s.heap.size) s.heap s.heap [] := va_S.rf
  have hl := lv_entry ([.ref (x 0)]) (n := 3) (Nat.le_of_ble_eq_true rfl)
  rw [lg_entry_eq]
  generalize (lg_sl ([.ref (x 0)]) ++ List.replicate (3 - (lg_sl ([.ref (x 0)])).length) Slot.unset).toArray = ls at hl ⊢
  have hl : lv_has ls 3 [(0, .ref (x 0))] := hl
  refine lv_iconst (v := 0) hx hb dX9_firstAskerOfHomeBox_0 (by decide) ?_
  refine lv_istore_n (lv' := [(1, .int 0), (0, .ref (x 0))]) hx hb dX9_firstAskerOfHomeBox_1 rfl hl (by decide) rfl (fun ls hl => ?_)
  have key2 : ∀ (m9 j1 : Nat), 400 - j1 = m9 → j1 ≤ 400 → ∀ (H : Heap) (locs : List Loc) (ls : Array Slot), va_P D vwCl (XW x cy g N n a r ++ va_pl L f) H → va_D (va_A (XW x cy g N n a r ++ va_pl L f) s.heap.size) (XW x cy g N n a r ++ va_pl L f) → va_S (va_A (XW x cy g N n a r ++ va_pl L f) s.heap.size) s.heap H locs → lv_has ls 3 [(1, .int (nI j1)), (0, .ref (x 0))] → W p l e (headSpec wsX9_firstAskerOfHomeBox ({ frames := 1, cells := 0, slots := 0, locals := 21 })).room s m #[.ref (x 0)] below meth c H locs 0 0 (MQ below (va_Qq (fun (res : Option Nat) (u : Unit) => rok L K 6 res) (BU D (TYS cy) (XW x cy g N n a r ++ va_pl L f) (fun _ => XW x cy g N n a r ++ va_pl L f) s.heap.size) (va_A (XW x cy g N n a r ++ va_pl L f) s.heap.size)) #[.ref (x 0)] s 0 0 (va_A (XW x cy g N n a r ++ va_pl L f) s.heap.size)) (F0 m 2 ls []) := by
    intro m9
    induction m9 using Nat.strongRecOn with
    | _ m9 ihkey2 =>
      intro j1 hm9 hj400  H locs ls hP hD hS hl
      subst hm9
      have nb0 : N 0 ≤ 12 := hNB 0 (by decide)
      have nb1 : N 1 ≤ 40 := hNB 1 (by decide)
      have nb2 : N 2 ≤ 20 := hNB 2 (by decide)
      have nb3 : N 3 ≤ 4 := hNB 3 (by decide)
      have nb4 : N 4 ≤ 3 := hNB 4 (by decide)
      have nb5 : N 5 ≤ 20 := hNB 5 (by decide)
      have nb6 : N 6 ≤ 20 := hNB 6 (by decide)
      have nb7 : N 7 ≤ 20 := hNB 7 (by decide)
      have nb8 : N 8 ≤ 30 := hNB 8 (by decide)
      have nb9 : N 9 ≤ 400 := hNB 9 (by decide)
      refine lv_iload_n hx hb dX9_firstAskerOfHomeBox_2 rfl (lv_at hl 0 rfl) ?_
      refine lv_aload_n hx hb dX9_firstAskerOfHomeBox_3 rfl (lv_at hl 1 rfl) ?_
      refine va_get (D := D) (ci := 9) (v := .ref (x 10)) (C := RX9) (T := TX9) (N := 19) hx hb hts iX9_firstAskerOfHomeBox_9 hown hK hP 0 rfl rfl 6 (by decide) (hts (.fieldLink RX9 51 "FondsRoom" "boxTickets" "LFondsRoom$Line;") (by decide +kernel)) (fun _ h9 => h9) rfl dX9_firstAskerOfHomeBox_4 ?_
      refine va_get (D := D) (ci := 3) (v := .int (nI (N 6))) (C := RX3) (T := TX3) (N := 2) hx hb hts iX9_firstAskerOfHomeBox_3 hown hK hP 10 rfl rfl 1 (by decide) (hts (.fieldLink RX9 373 "FondsRoom$Line" "size" "I") (by decide +kernel)) (fun _ h9 => h9) rfl dX9_firstAskerOfHomeBox_7 ?_
      refine lv_icmp_ge (tgt := 42) hx hb dX9_firstAskerOfHomeBox_10 (by decide) (fun c3 => ?_) (fun c3 => ?_)
      · skip
        have dc3 : (N 6) ≤ j1 := (nI_leI (a := (N 6)) (b := j1) (by omega) (by omega)).mp c3
        refine lv_null hx hb dX9_firstAskerOfHomeBox_42 ?_
        exact W.aret (v := .null) hx hb hr (Or.inl ⟨_, rfl⟩) (Or.inl rfl) (fun t ht hW => ⟨⟨none, (), rfl, rok_none, by rw [ht]; exact hP, va_K.moved hW.alike hK, hD⟩, hS.F ht⟩) hS.2.2 dX9_firstAskerOfHomeBox_43
      · skip
        have dc3 : j1 < (N 6) := Nat.not_le.mp (fun h9 => c3 ((nI_leI (a := (N 6)) (b := j1) (by omega) (by omega)).mpr h9))
        refine lv_aload_n hx hb dX9_firstAskerOfHomeBox_13 rfl (lv_at hl 1 rfl) ?_
        refine va_get (D := D) (ci := 9) (v := .ref (x 10)) (C := RX9) (T := TX9) (N := 19) hx hb hts iX9_firstAskerOfHomeBox_9 hown hK hP 0 rfl rfl 6 (by decide) (hts (.fieldLink RX9 51 "FondsRoom" "boxTickets" "LFondsRoom$Line;") (by decide +kernel)) (fun _ h9 => h9) rfl dX9_firstAskerOfHomeBox_14 ?_
        refine lv_iload_n hx hb dX9_firstAskerOfHomeBox_17 rfl (lv_at hl 0 rfl) ?_
        refine gvQ (As := [.int (nI j1)]) (rest := []) ⟨hx, hb, hml, hown, hts⟩ (zX3_at_1 l D x cy g L K hG N n a r f ⟨hNB, hRB, hHT⟩ _  (nI j1) ) (cwV 1 hts gX9_firstAskerOfHomeBox_X3_at rfl rfl rfl (by decide +kernel) ⟨Nat.le_of_ble_eq_true rfl, Nat.le_of_ble_eq_true rfl⟩) hK hP hD hS hA (va_recv hK hP (ci := 3) (q0 := 10) rfl rfl) rfl hl.1 rfl (Nat.le_of_ble_eq_true rfl) dX9_firstAskerOfHomeBox_18 ⟨Nat.le_of_ble_eq_true rfl, Nat.le_of_ble_eq_true rfl⟩ (fun q4 u5 H locs hq4 hP hD hS => ?_)
        have hP : va_P D vwCl (XW x cy g N n a r ++ va_pl L f) H := hP
        have hD : va_D _ (XW x cy g N n a r ++ va_pl L f) := hD
        rcases eb6 : q4 with _ | b6
        · skip
          subst eb6
          have hP : va_P D vwCl (XW x cy g N n a r ++ va_pl L f) H := by assumption
          have hD : va_D (va_A (XW x cy g N n a r ++ va_pl L f) s.heap.size) (XW x cy g N n a r ++ va_pl L f) := by assumption
          have hl : lv_has ls 3 [(1, .int (nI j1)), (0, .ref (x 0))] := by assumption
          refine lv_astore_nN (lv' := [(2, .null), (1, .int (nI j1)), (0, .ref (x 0))]) hx hb dX9_firstAskerOfHomeBox_21 rfl hl (by decide) rfl (fun ls hl => ?_)
          refine lv_aload_nN hx hb dX9_firstAskerOfHomeBox_22 rfl (lv_at hl 0 rfl) ?_
          refine lv_ifnullN (tgt := 36) hx hb dX9_firstAskerOfHomeBox_23 (by decide) ?_
          refine lv_iinc (v := nI (j1 + 1)) (lv' := [(1, .int (nI (j1 + 1))), (2, .null), (0, .ref (x 0))]) hx hb dX9_firstAskerOfHomeBox_36 hl (k := 1) rfl (by rw [← nI_1]; rfl) (by decide) rfl (fun ls hl => ?_)
          refine lv_goto (tgt := 2) hx hb dX9_firstAskerOfHomeBox_39 (by decide) ?_
          exact ihkey2 (400 - ((j1 + 1))) (by omega) ((j1 + 1)) rfl (by omega)  _ _ _ hP hD hS (lv_sub hl [0, 2] rfl)
        · skip
          subst eb6
          have mb6 := hq4 b6 rfl
          have hP : va_P D vwCl (XW x cy g N n a r ++ va_pl L f) H := by assumption
          have hD : va_D (va_A (XW x cy g N n a r ++ va_pl L f) s.heap.size) (XW x cy g N n a r ++ va_pl L f) := by assumption
          have hl : lv_has ls 3 [(1, .int (nI j1)), (0, .ref (x 0))] := by assumption
          refine lv_astore_n (lv' := [(2, .ref b6), (1, .int (nI j1)), (0, .ref (x 0))]) hx hb dX9_firstAskerOfHomeBox_21 rfl hl (by decide) rfl (fun ls hl => ?_)
          refine lv_aload_n hx hb dX9_firstAskerOfHomeBox_22 rfl (lv_at hl 0 rfl) ?_
          refine lv_ifnull hx hb dX9_firstAskerOfHomeBox_23 ?_
          refine lv_aload_n hx hb dX9_firstAskerOfHomeBox_26 rfl (lv_at hl 0 rfl) ?_
          refine lv_iconst (v := 0) hx hb dX9_firstAskerOfHomeBox_27 (by decide) ?_
          obtain ⟨n_o9, p_o9, ar_o9, rk_o9, nw_o9, st_o9, ct_o9, d_o9, aw_o9, rl_o9, cp_o9, cu_o9, w1_o9, w2_o9, w3_o9, ov_o9, co_o9, hf_o9, sp_o9, snw_o9, sd_o9, saw_o9, scu_o9⟩ : TE L K cy 6 (f b6) := by rw [← mb6.2]; exact hHT b6 mb6.1
          refine gvI (As := [.int 0]) (rest := []) ⟨hx, hb, hml, hown, hts⟩ (zX6_awaitsAt l D x cy g L K hG N n a r f ⟨hNB, hRB, hHT⟩ _ b6 0 ⟨mb6.1, mb6.2⟩) (cwV 1 hts gX9_firstAskerOfHomeBox_X6_awaitsAt rfl rfl rfl (by decide +kernel) ⟨Nat.le_of_ble_eq_true rfl, Nat.le_of_ble_eq_true rfl⟩) hK hP hD hS hA (pl_recv hK hP (ci := 6) rfl mb6.1 hf_o9) rfl hl.1 rfl (Nat.le_of_ble_eq_true rfl) dX9_firstAskerOfHomeBox_28 ⟨Nat.le_of_ble_eq_true rfl, Nat.le_of_ble_eq_true rfl⟩ (fun q7 u8 H locs hq7 hP hD hS => ?_)
          have hP : va_P D vwCl (XW x cy g N n a r ++ va_pl L f) H := hP
          have hD : va_D _ (XW x cy g N n a r ++ va_pl L f) := hD
          refine lv_if_eq (tgt := 36) hx hb dX9_firstAskerOfHomeBox_31 (by decide) (fun c10 => ?_) (fun c10 => ?_)
          · skip
            refine lv_iinc (v := nI (j1 + 1)) (lv' := [(1, .int (nI (j1 + 1))), (2, .ref b6), (0, .ref (x 0))]) hx hb dX9_firstAskerOfHomeBox_36 hl (k := 1) rfl (by rw [← nI_1]; rfl) (by decide) rfl (fun ls hl => ?_)
            refine lv_goto (tgt := 2) hx hb dX9_firstAskerOfHomeBox_39 (by decide) ?_
            exact ihkey2 (400 - ((j1 + 1))) (by omega) ((j1 + 1)) rfl (by omega)  _ _ _ hP hD hS (lv_sub hl [0, 2] rfl)
          · skip
            refine lv_aload_n hx hb dX9_firstAskerOfHomeBox_34 rfl (lv_at hl 0 rfl) ?_
            exact W.aret (v := .ref b6) hx hb hr (Or.inl ⟨_, rfl⟩) (Or.inr ⟨_, rfl⟩) (fun t ht hW => ⟨⟨(some (b6)), (), rfl, (rok_some mb6.1 mb6.2), by rw [ht]; exact hP, va_K.moved hW.alike hK, hD⟩, hS.F ht⟩) hS.2.2 dX9_firstAskerOfHomeBox_35
  have nb0 : N 0 ≤ 12 := hNB 0 (by decide)
  have nb1 : N 1 ≤ 40 := hNB 1 (by decide)
  have nb2 : N 2 ≤ 20 := hNB 2 (by decide)
  have nb3 : N 3 ≤ 4 := hNB 3 (by decide)
  have nb4 : N 4 ≤ 3 := hNB 4 (by decide)
  have nb5 : N 5 ≤ 20 := hNB 5 (by decide)
  have nb6 : N 6 ≤ 20 := hNB 6 (by decide)
  have nb7 : N 7 ≤ 20 := hNB 7 (by decide)
  have nb8 : N 8 ≤ 30 := hNB 8 (by decide)
  have nb9 : N 9 ≤ 400 := hNB 9 (by decide)
  exact key2 (400 - (0)) (0) rfl (by omega)  _ _ _ hP hD hS (lv_sub hl [0, 1] rfl)

theorem iX9_sendFetcher_0 : ∀ w ∈ wsX00, w ∈ wsX9_sendFetcher := fun _ h => List.mem_cons_of_mem _ (List.mem_append_left _ (List.mem_append_left _ (List.mem_append_left _ (List.mem_append_left _ (List.mem_append_right _ h)))))
theorem iX9_sendFetcher_6 : ∀ w ∈ wsX60, w ∈ wsX9_sendFetcher := fun _ h => List.mem_cons_of_mem _ (List.mem_append_left _ (List.mem_append_left _ (List.mem_append_right _ h)))
theorem iX9_sendFetcher_9 : ∀ w ∈ wsX90, w ∈ wsX9_sendFetcher := fun _ h => List.mem_cons_of_mem _ (List.mem_append_left _ (List.mem_append_left _ (List.mem_append_left _ (List.mem_append_right _ h))))
set_option maxHeartbeats 4000000 in
set_option maxRecDepth 100000 in
theorem zX9_sendFetcher (l : Launch) (D : va_G) (x : Nat → Nat) (cy : Nat → ClassId) (g : Nat → Nat → Option Nat) (L : List Nat) (K : Nat → Nat) (hG : GO L K g) (N : Nat → Nat) (n : Nat → Int32) (a : Nat → Nat → Int32) (r : Nat → Nat → Option Nat) (f : Nat → va_E) (hC : CI L K cy N r f) (sz : Nat) (wk : Nat) (mwk : wk ∈ L ∧ K wk = 8) : Met l yX9_sendFetcher wsX9_sendFetcher ({ frames := 2, cells := 0, slots := 0, locals := 43 }) (PW D (TYS cy) (XW x cy g N n a r ++ va_pl L f) sz [.ref (x 0), .ref wk]) (va_Qv (fun (u : ST) => CI L K cy u.1 u.2.2.2.1 u.2.2.2.2 ∧ SM N u.1 n u.2.1 ∧ MM N u.1 a u.2.2.1 ∧ True) (BU D (TYS cy) (XW x cy g N n a r ++ va_pl L f) (WC x cy g L) sz) (va_A (XW x cy g N n a r ++ va_pl L f) sz)) 0 0 (va_A (XW x cy g N n a r ++ va_pl L f) sz) := by
  refine Met.ofW (cc := cX9_sendFetcher) (maxL := 4) (ret := none) (by decide) rfl ?_
  intro p e s m args below meth c s₁ B hml hv
  obtain ⟨rfl, hsz, hP, hK, hD0⟩ := hv
  have hx := B.exec
  have hb := B.bytes
  have hr := B.returns
  have hts := atoms_spec (ws := wsX9_sendFetcher) B.pre
  have hown : s.vm.findClass RX9 = some m.cls := findClass_of_methodNamed B.named
  have hlocks := B.notSynchronized
  subst hsz
  obtain ⟨hNB, hRB, hHT⟩ := hC
  have hSM : SM N N n n := SM_rf
  have hMM : MM N N a a := MM_rf
  have hD := hD0.self (sz := s.heap.size)
  have hA : ∀ q9 : Nat, s.heap.size ≤ q9 → va_A (XW x cy g N n a r ++ va_pl L f) s.heap.size q9 := fun q9 h => Or.inr h
  have hS : va_S (va_A (XW x cy g N n a r ++ va_pl L f) s.heap.size) s.heap s.heap [] := va_S.rf
  have hl := lv_entry ([.ref (x 0), .ref wk]) (n := 4) (Nat.le_of_ble_eq_true rfl)
  rw [lg_entry_eq]
  generalize (lg_sl ([.ref (x 0), .ref wk]) ++ List.replicate (4 - (lg_sl ([.ref (x 0), .ref wk])).length) Slot.unset).toArray = ls at hl ⊢
  have hl : lv_has ls 4 [(0, .ref (x 0)), (1, .ref wk)] := hl
  refine lv_aload_n hx hb dX9_sendFetcher_0 rfl (lv_at hl 0 rfl) ?_
  refine gvQ (As := []) (rest := []) ⟨hx, hb, hml, hown, hts⟩ (zX9_firstLeftBox l D x cy g L K hG N n a r f ⟨hNB, hRB, hHT⟩ _   ) (cwV 0 hts gX9_sendFetcher_X9_firstLeftBox rfl rfl rfl (by decide +kernel) ⟨Nat.le_of_ble_eq_true rfl, Nat.le_of_ble_eq_true rfl⟩) hK hP hD hS hA (va_recv hK hP (ci := 9) (q0 := 0) rfl rfl) rfl hl.1 rfl (Nat.le_of_ble_eq_true rfl) dX9_sendFetcher_1 ⟨Nat.le_of_ble_eq_true rfl, Nat.le_of_ble_eq_true rfl⟩ (fun q1 u2 H locs hq1 hP hD hS => ?_)
  have hP : va_P D vwCl (XW x cy g N n a r ++ va_pl L f) H := hP
  have hD : va_D _ (XW x cy g N n a r ++ va_pl L f) := hD
  rcases eb3 : q1 with _ | b3
  · skip
    subst eb3
    have hP : va_P D vwCl (XW x cy g N n a r ++ va_pl L f) H := by assumption
    have hD : va_D (va_A (XW x cy g N n a r ++ va_pl L f) s.heap.size) (XW x cy g N n a r ++ va_pl L f) := by assumption
    have hl : lv_has ls 4 [(0, .ref (x 0)), (1, .ref wk)] := by assumption
    refine lv_astore_nN (lv' := [(2, .null), (0, .ref (x 0)), (1, .ref wk)]) hx hb dX9_sendFetcher_4 rfl hl (by decide) rfl (fun ls hl => ?_)
    refine lv_aload_nN hx hb dX9_sendFetcher_5 rfl (lv_at hl 0 rfl) ?_
    refine lv_ifnullN (tgt := 35) hx hb dX9_sendFetcher_6 (by decide) ?_
    refine lv_aload_n hx hb dX9_sendFetcher_35 rfl (lv_at hl 1 rfl) ?_
    refine gvQ (As := []) (rest := []) ⟨hx, hb, hml, hown, hts⟩ (zX9_firstAskerOfHomeBox l D x cy g L K hG N n a r f ⟨hNB, hRB, hHT⟩ _   ) (cwV 0 hts gX9_sendFetcher_X9_firstAskerOfHomeBox rfl rfl rfl (by decide +kernel) ⟨Nat.le_of_ble_eq_true rfl, Nat.le_of_ble_eq_true rfl⟩) hK hP hD hS hA (va_recv hK hP (ci := 9) (q0 := 0) rfl rfl) rfl hl.1 rfl (Nat.le_of_ble_eq_true rfl) dX9_sendFetcher_36 ⟨Nat.le_of_ble_eq_true rfl, Nat.le_of_ble_eq_true rfl⟩ (fun q4 u5 H locs hq4 hP hD hS => ?_)
    have hP : va_P D vwCl (XW x cy g N n a r ++ va_pl L f) H := hP
    have hD : va_D _ (XW x cy g N n a r ++ va_pl L f) := hD
    rcases eb6 : q4 with _ | b6
    · skip
      subst eb6
      have hP : va_P D vwCl (XW x cy g N n a r ++ va_pl L f) H := by assumption
      have hD : va_D (va_A (XW x cy g N n a r ++ va_pl L f) s.heap.size) (XW x cy g N n a r ++ va_pl L f) := by assumption
      have hl : lv_has ls 4 [(2, .null), (0, .ref (x 0)), (1, .ref wk)] := by assumption
      refine lv_astore_nN (lv' := [(3, .null), (2, .null), (0, .ref (x 0)), (1, .ref wk)]) hx hb dX9_sendFetcher_39 rfl hl (by decide) rfl (fun ls hl => ?_)
      refine lv_aload_nN hx hb dX9_sendFetcher_40 rfl (lv_at hl 0 rfl) ?_
      refine lv_ifnullN (tgt := 82) hx hb dX9_sendFetcher_41 (by decide) ?_
      exact W.vret hx hb hr (fun t ht hW => ⟨⟨(N, n, a, r, f), rfl, ⟨⟨hNB, hRB, hHT⟩, hSM, hMM, trivial⟩, by rw [ht]; exact hP, va_K.moved hW.alike hK, hD⟩, hS.F ht⟩) hS.2.2 dX9_sendFetcher_82
    · skip
      subst eb6
      have mb6 := hq4 b6 rfl
      have hP : va_P D vwCl (XW x cy g N n a r ++ va_pl L f) H := by assumption
      have hD : va_D (va_A (XW x cy g N n a r ++ va_pl L f) s.heap.size) (XW x cy g N n a r ++ va_pl L f) := by assumption
      have hl : lv_has ls 4 [(2, .null), (0, .ref (x 0)), (1, .ref wk)] := by assumption
      refine lv_astore_n (lv' := [(3, .ref b6), (2, .null), (0, .ref (x 0)), (1, .ref wk)]) hx hb dX9_sendFetcher_39 rfl hl (by decide) rfl (fun ls hl => ?_)
      refine lv_aload_n hx hb dX9_sendFetcher_40 rfl (lv_at hl 0 rfl) ?_
      refine lv_ifnull hx hb dX9_sendFetcher_41 ?_
      refine lv_aload_n hx hb dX9_sendFetcher_44 rfl (lv_at hl 0 rfl) ?_
      obtain ⟨n_o7, p_o7, ar_o7, rk_o7, nw_o7, st_o7, ct_o7, d_o7, aw_o7, rl_o7, cp_o7, cu_o7, w1_o7, w2_o7, w3_o7, ov_o7, co_o7, hf_o7, sp_o7, snw_o7, sd_o7, saw_o7, scu_o7⟩ : TE L K cy 6 (f b6) := by rw [← mb6.2]; exact hHT b6 mb6.1
      refine pg_get (D := D) (ci := 6) (v := va_rf aw_o7) (C := RX6) (T := TX6) (N := 17) hx hb hts iX9_sendFetcher_6 hown hK hP mb6.1 hf_o7 rfl 8 (by decide) (hts (.fieldLink RX9 267 "FondsRoom$Reader" "awaited" "LFondsRoom$Box;") (by decide +kernel)) (fun _ h9 => h9) rfl dX9_sendFetcher_45 ?_
      rcases eb8 : aw_o7 with _ | b8
      · skip
        subst eb8
        have hP : va_P D vwCl (XW x cy g N n a r ++ va_pl L f) H := by assumption
        have hD : va_D (va_A (XW x cy g N n a r ++ va_pl L f) s.heap.size) (XW x cy g N n a r ++ va_pl L f) := by assumption
        have hl : lv_has ls 4 [(3, .ref b6), (2, .null), (0, .ref (x 0)), (1, .ref wk)] := by assumption
        refine lv_ifnullN (tgt := 82) hx hb dX9_sendFetcher_48 (by decide) ?_
        exact W.vret hx hb hr (fun t ht hW => ⟨⟨(N, n, a, r, f), rfl, ⟨⟨hNB, hRB, hHT⟩, hSM, hMM, trivial⟩, by rw [ht]; exact hP, va_K.moved hW.alike hK, hD⟩, hS.F ht⟩) hS.2.2 dX9_sendFetcher_82
      · skip
        subst eb8
        have mb8 := saw_o7 b8 rfl
        have hP : va_P D vwCl (XW x cy g N n a r ++ va_pl L f) H := by assumption
        have hD : va_D (va_A (XW x cy g N n a r ++ va_pl L f) s.heap.size) (XW x cy g N n a r ++ va_pl L f) := by assumption
        have hl : lv_has ls 4 [(3, .ref b6), (2, .null), (0, .ref (x 0)), (1, .ref wk)] := by assumption
        refine lv_ifnull hx hb dX9_sendFetcher_48 ?_
        refine lv_aload_n hx hb dX9_sendFetcher_51 rfl (lv_at hl 0 rfl) ?_
        refine pg_get (D := D) (ci := 6) (v := .ref b8) (C := RX6) (T := TX6) (N := 17) hx hb hts iX9_sendFetcher_6 hown hK hP mb6.1 hf_o7 rfl 8 (by decide) (hts (.fieldLink RX9 267 "FondsRoom$Reader" "awaited" "LFondsRoom$Box;") (by decide +kernel)) (fun _ h9 => h9) rfl dX9_sendFetcher_52 ?_
        refine lv_iconst (v := 3) hx hb dX9_sendFetcher_55 (by decide) ?_
        obtain ⟨n_o9, fo_o9, pr_o9, pl_o9, h_o9, w_o9, hf_o9, spr_o9, sh_o9, sw_o9⟩ : TE L K cy 0 (f b8) := by rw [← mb8.2]; exact hHT b8 mb8.1
        refine pg_put (D := D) (ci := 0) (v := .int 3) (ty := .int) (C := RX0) (T := TX0) (N := 6) hx hb hts iX9_sendFetcher_0 tyX0 tyX0_ok nmX0 hown hK hP hD hS mb8.1 hf_o9 rfl 3 (by decide) (hts (.fieldLink RX9 233 "FondsRoom$Box" "place" "I") (by decide +kernel)) (fun _ h9 => h9) rfl (by decide +kernel) rfl rfl (Nat.le_of_ble_eq_true rfl) dX9_sendFetcher_56 (fun H locs hP hD hS => ?_)
        obtain ⟨f10, ef10⟩ : ∃ z, z = va_up f b8 (.inr (0, [.int n_o9, .int fo_o9, .int pr_o9, .int 3, va_rf h_o9, va_rf w_o9])) := ⟨_, rfl⟩
        have hP : va_P D vwCl (XW x cy g N n a r ++ va_pl L f10) H := by rw [ef10]; exact hP
        have hD : va_D (va_A (XW x cy g N n a r ++ va_pl L f) s.heap.size) (XW x cy g N n a r ++ va_pl L f10) := by rw [ef10]; exact hD
        have hHT : HT L K cy f10 := by rw [ef10]; exact HT_up hHT 0 mb8.2 ⟨n_o9, fo_o9, pr_o9, 3, h_o9, w_o9, rfl, spr_o9, sh_o9, sw_o9⟩
        have hf11 : f10 b8 = .inr (0, [.int n_o9, .int fo_o9, .int pr_o9, .int 3, va_rf h_o9, va_rf w_o9]) := by rw [ef10]; exact va_up_self _ _ _
        have hf12 : f10 b6 = .inr (6, [.int n_o7, .ref p_o7, .int ar_o7, .int rk_o7, .int nw_o7, .int st_o7, .int ct_o7, va_rf d_o7, .ref b8, .int rl_o7, .int cp_o7, .int cu_o7, .int w1_o7, .int w2_o7, .int w3_o7, .int ov_o7, .int co_o7]) := by rw [ef10]; exact (va_up_ne _ _ (fun h9 => absurd (mb6.2.symm.trans ((congrArg K h9).trans mb8.2)) (by decide))).trans hf_o7
        refine lv_aload_n hx hb dX9_sendFetcher_59 rfl (lv_at hl 3 rfl) ?_
        refine lv_aload_n hx hb dX9_sendFetcher_60 rfl (lv_at hl 0 rfl) ?_
        refine pg_get (D := D) (ci := 6) (v := .ref b8) (C := RX6) (T := TX6) (N := 17) hx hb hts iX9_sendFetcher_6 hown hK hP mb6.1 hf12 rfl 8 (by decide) (hts (.fieldLink RX9 267 "FondsRoom$Reader" "awaited" "LFondsRoom$Box;") (by decide +kernel)) (fun _ h9 => h9) rfl dX9_sendFetcher_61 ?_
        refine lv_aload_n hx hb dX9_sendFetcher_64 rfl (lv_at hl 0 rfl) ?_
        refine lv_aload_n hx hb dX9_sendFetcher_65 rfl (lv_at hl 2 rfl) ?_
        refine va_get (D := D) (ci := 9) (v := .int (n 0)) (C := RX9) (T := TX9) (N := 19) hx hb hts iX9_sendFetcher_9 hown hK hP 0 rfl rfl 13 (by decide) (hts (.fieldLink RX9 71 "FondsRoom" "way" "I") (by decide +kernel)) (fun _ h9 => h9) rfl dX9_sendFetcher_66 ?_
        obtain ⟨b_o15, g_o15, l_o15, hf_o15, sb_o15, sg_o15⟩ : TE L K cy 8 (f10 wk) := by rw [← mwk.2]; exact hHT wk mwk.1
        refine gvV (As := [.ref b8, .ref b6, .int (n 0)]) (rest := []) ⟨hx, hb, hml, hown, hts⟩ (zX8_begin_r l D x cy g L K hG N n a r f10 ⟨hNB, hRB, hHT⟩ _ b8 b6 wk (n 0) ⟨mb8.1, mb8.2⟩ ⟨mb6.1, mb6.2⟩ ⟨mwk.1, mwk.2⟩) (cwV 3 hts gX9_sendFetcher_X8_begin rfl rfl rfl (by decide +kernel) ⟨Nat.le_of_ble_eq_true rfl, Nat.le_of_ble_eq_true rfl⟩) hK hP hD hS hA (pl_recv hK hP (ci := 8) rfl mwk.1 hf_o15) rfl hl.1 rfl (Nat.le_of_ble_eq_true rfl) dX9_sendFetcher_69 ⟨Nat.le_of_ble_eq_true rfl, Nat.le_of_ble_eq_true rfl⟩ (fun u14 H locs hq13 hP hD hS => ?_)
        obtain ⟨N16, n17, a18, r19, f20⟩ := u14
        obtain ⟨⟨hNB, hRB, hHT⟩, hs21, hv22, hq13b⟩ := hq13
        have hSM : SM N N16 n n17 := SM_tr hSM hs21
        have hMM : MM N N16 a a18 := MM_tr hMM hv22
        have hP : va_P D vwCl (XW x cy g N16 n17 a18 r19 ++ va_pl L f20) H := hP
        have hD : va_D _ (XW x cy g N16 n17 a18 r19 ++ va_pl L f20) := hD
        refine lv_aload_n hx hb dX9_sendFetcher_72 rfl (lv_at hl 2 rfl) ?_
        refine lv_dup hx hb dX9_sendFetcher_73 rfl ?_
        refine va_get (D := D) (ci := 9) (v := .int (n17 4)) (C := RX9) (T := TX9) (N := 19) hx hb hts iX9_sendFetcher_9 hown hK hP 0 rfl rfl 17 (by decide) (hts (.fieldLink RX9 392 "FondsRoom" "waysBegun" "I") (by decide +kernel)) (fun _ h9 => h9) rfl dX9_sendFetcher_74 ?_
        refine lv_iconst (v := 1) hx hb dX9_sendFetcher_77 (by decide) ?_
        refine lv_iadd hx hb dX9_sendFetcher_78 ?_
        refine va_put (D := D) (ci := 9) (v := .int ((n17 4) + 1)) (ty := .int) (C := RX9) (T := TX9) (N := 19) hx hb hts iX9_sendFetcher_9 tyX9 tyX9_ok nmX9 hown hK hP hD hS 0 rfl rfl 17 (by decide) (hts (.fieldLink RX9 392 "FondsRoom" "waysBegun" "I") (by decide +kernel)) (fun _ h9 => h9) rfl (by decide +kernel) rfl rfl (Nat.le_of_ble_eq_true rfl) dX9_sendFetcher_79 (fun H locs hP hD hS => ?_)
        obtain ⟨n23, en23⟩ : ∃ z, z = va_up n17 4 ((n17 4) + 1) := ⟨_, rfl⟩
        have hP : va_P D vwCl (XW x cy g N16 n23 a18 r19 ++ va_pl L f20) H := by rw [en23]; exact hP
        have hD : va_D (va_A (XW x cy g N n a r ++ va_pl L f) s.heap.size) (XW x cy g N16 n23 a18 r19 ++ va_pl L f20) := by rw [en23]; exact hD
        have hSM : SM N N16 n n23 := by rw [en23]; exact SM_n hSM 4 ((n17 4) + 1) (by decide) (by decide)
        exact W.vret hx hb hr (fun t ht hW => ⟨⟨(N16, n23, a18, r19, f20), rfl, ⟨⟨hNB, hRB, hHT⟩, hSM, hMM, trivial⟩, by rw [ht]; exact hP, va_K.moved hW.alike hK, hD⟩, hS.F ht⟩) hS.2.2 dX9_sendFetcher_82
  · skip
    subst eb3
    have mb3 := hq1 b3 rfl
    have hP : va_P D vwCl (XW x cy g N n a r ++ va_pl L f) H := by assumption
    have hD : va_D (va_A (XW x cy g N n a r ++ va_pl L f) s.heap.size) (XW x cy g N n a r ++ va_pl L f) := by assumption
    have hl : lv_has ls 4 [(0, .ref (x 0)), (1, .ref wk)] := by assumption
    refine lv_astore_n (lv' := [(2, .ref b3), (0, .ref (x 0)), (1, .ref wk)]) hx hb dX9_sendFetcher_4 rfl hl (by decide) rfl (fun ls hl => ?_)
    refine lv_aload_n hx hb dX9_sendFetcher_5 rfl (lv_at hl 0 rfl) ?_
    refine lv_ifnull hx hb dX9_sendFetcher_6 ?_
    refine lv_aload_n hx hb dX9_sendFetcher_9 rfl (lv_at hl 0 rfl) ?_
    refine lv_iconst (v := 4) hx hb dX9_sendFetcher_10 (by decide) ?_
    obtain ⟨n_o24, fo_o24, pr_o24, pl_o24, h_o24, w_o24, hf_o24, spr_o24, sh_o24, sw_o24⟩ : TE L K cy 0 (f b3) := by rw [← mb3.2]; exact hHT b3 mb3.1
    refine pg_put (D := D) (ci := 0) (v := .int 4) (ty := .int) (C := RX0) (T := TX0) (N := 6) hx hb hts iX9_sendFetcher_0 tyX0 tyX0_ok nmX0 hown hK hP hD hS mb3.1 hf_o24 rfl 3 (by decide) (hts (.fieldLink RX9 233 "FondsRoom$Box" "place" "I") (by decide +kernel)) (fun _ h9 => h9) rfl (by decide +kernel) rfl rfl (Nat.le_of_ble_eq_true rfl) dX9_sendFetcher_11 (fun H locs hP hD hS => ?_)
    obtain ⟨f25, ef25⟩ : ∃ z, z = va_up f b3 (.inr (0, [.int n_o24, .int fo_o24, .int pr_o24, .int 4, va_rf h_o24, va_rf w_o24])) := ⟨_, rfl⟩
    have hP : va_P D vwCl (XW x cy g N n a r ++ va_pl L f25) H := by rw [ef25]; exact hP
    have hD : va_D (va_A (XW x cy g N n a r ++ va_pl L f) s.heap.size) (XW x cy g N n a r ++ va_pl L f25) := by rw [ef25]; exact hD
    have hHT : HT L K cy f25 := by rw [ef25]; exact HT_up hHT 0 mb3.2 ⟨n_o24, fo_o24, pr_o24, 4, h_o24, w_o24, rfl, spr_o24, sh_o24, sw_o24⟩
    have hf26 : f25 b3 = .inr (0, [.int n_o24, .int fo_o24, .int pr_o24, .int 4, va_rf h_o24, va_rf w_o24]) := by rw [ef25]; exact va_up_self _ _ _
    refine lv_aload_n hx hb dX9_sendFetcher_14 rfl (lv_at hl 2 rfl) ?_
    refine lv_aload_n hx hb dX9_sendFetcher_15 rfl (lv_at hl 0 rfl) ?_
    refine lv_null hx hb dX9_sendFetcher_16 ?_
    refine lv_aload_n hx hb dX9_sendFetcher_17 rfl (lv_at hl 1 rfl) ?_
    refine va_get (D := D) (ci := 9) (v := .int (n 0)) (C := RX9) (T := TX9) (N := 19) hx hb hts iX9_sendFetcher_9 hown hK hP 0 rfl rfl 13 (by decide) (hts (.fieldLink RX9 71 "FondsRoom" "way" "I") (by decide +kernel)) (fun _ h9 => h9) rfl dX9_sendFetcher_18 ?_
    obtain ⟨b_o29, g_o29, l_o29, hf_o29, sb_o29, sg_o29⟩ : TE L K cy 8 (f25 wk) := by rw [← mwk.2]; exact hHT wk mwk.1
    refine gvV (As := [.ref b3, .null, .int (n 0)]) (rest := []) ⟨hx, hb, hml, hown, hts⟩ (zX8_begin_n l D x cy g L K hG N n a r f25 ⟨hNB, hRB, hHT⟩ _ b3 wk (n 0) ⟨mb3.1, mb3.2⟩ ⟨mwk.1, mwk.2⟩) (cwV 3 hts gX9_sendFetcher_X8_begin rfl rfl rfl (by decide +kernel) ⟨Nat.le_of_ble_eq_true rfl, Nat.le_of_ble_eq_true rfl⟩) hK hP hD hS hA (pl_recv hK hP (ci := 8) rfl mwk.1 hf_o29) rfl hl.1 rfl (Nat.le_of_ble_eq_true rfl) dX9_sendFetcher_21 ⟨Nat.le_of_ble_eq_true rfl, Nat.le_of_ble_eq_true rfl⟩ (fun u28 H locs hq27 hP hD hS => ?_)
    obtain ⟨N30, n31, a32, r33, f34⟩ := u28
    obtain ⟨⟨hNB, hRB, hHT⟩, hs35, hv36, hq27b⟩ := hq27
    have hSM : SM N N30 n n31 := SM_tr hSM hs35
    have hMM : MM N N30 a a32 := MM_tr hMM hv36
    have hP : va_P D vwCl (XW x cy g N30 n31 a32 r33 ++ va_pl L f34) H := hP
    have hD : va_D _ (XW x cy g N30 n31 a32 r33 ++ va_pl L f34) := hD
    refine lv_aload_n hx hb dX9_sendFetcher_24 rfl (lv_at hl 1 rfl) ?_
    refine lv_dup hx hb dX9_sendFetcher_25 rfl ?_
    refine va_get (D := D) (ci := 9) (v := .int (n31 4)) (C := RX9) (T := TX9) (N := 19) hx hb hts iX9_sendFetcher_9 hown hK hP 0 rfl rfl 17 (by decide) (hts (.fieldLink RX9 392 "FondsRoom" "waysBegun" "I") (by decide +kernel)) (fun _ h9 => h9) rfl dX9_sendFetcher_26 ?_
    refine lv_iconst (v := 1) hx hb dX9_sendFetcher_29 (by decide) ?_
    refine lv_iadd hx hb dX9_sendFetcher_30 ?_
    refine va_put (D := D) (ci := 9) (v := .int ((n31 4) + 1)) (ty := .int) (C := RX9) (T := TX9) (N := 19) hx hb hts iX9_sendFetcher_9 tyX9 tyX9_ok nmX9 hown hK hP hD hS 0 rfl rfl 17 (by decide) (hts (.fieldLink RX9 392 "FondsRoom" "waysBegun" "I") (by decide +kernel)) (fun _ h9 => h9) rfl (by decide +kernel) rfl rfl (Nat.le_of_ble_eq_true rfl) dX9_sendFetcher_31 (fun H locs hP hD hS => ?_)
    obtain ⟨n37, en37⟩ : ∃ z, z = va_up n31 4 ((n31 4) + 1) := ⟨_, rfl⟩
    have hP : va_P D vwCl (XW x cy g N30 n37 a32 r33 ++ va_pl L f34) H := by rw [en37]; exact hP
    have hD : va_D (va_A (XW x cy g N n a r ++ va_pl L f) s.heap.size) (XW x cy g N30 n37 a32 r33 ++ va_pl L f34) := by rw [en37]; exact hD
    have hSM : SM N N30 n n37 := by rw [en37]; exact SM_n hSM 4 ((n31 4) + 1) (by decide) (by decide)
    exact W.vret hx hb hr (fun t ht hW => ⟨⟨(N30, n37, a32, r33, f34), rfl, ⟨⟨hNB, hRB, hHT⟩, hSM, hMM, trivial⟩, by rw [ht]; exact hP, va_K.moved hW.alike hK, hD⟩, hS.F ht⟩) hS.2.2 dX9_sendFetcher_34

theorem iX9_sendFetchers_7 : ∀ w ∈ wsX70, w ∈ wsX9_sendFetchers := fun _ h => List.mem_cons_of_mem _ (List.mem_append_left _ (List.mem_append_left _ (List.mem_append_left _ (List.mem_append_left _ (List.mem_append_right _ h)))))
theorem iX9_sendFetchers_8 : ∀ w ∈ wsX80, w ∈ wsX9_sendFetchers := fun _ h => List.mem_cons_of_mem _ (List.mem_append_left _ (List.mem_append_left _ (List.mem_append_left _ (List.mem_append_right _ h))))
theorem iX9_sendFetchers_9 : ∀ w ∈ wsX90, w ∈ wsX9_sendFetchers := fun _ h => List.mem_cons_of_mem _ (List.mem_append_left _ (List.mem_append_left _ (List.mem_append_left _ (List.mem_append_left _ (List.mem_append_left _ (List.mem_append_right _ h))))))
set_option maxHeartbeats 4000000 in
set_option maxRecDepth 100000 in
theorem zX9_sendFetchers (l : Launch) (D : va_G) (x : Nat → Nat) (cy : Nat → ClassId) (g : Nat → Nat → Option Nat) (L : List Nat) (K : Nat → Nat) (hG : GO L K g) (N : Nat → Nat) (n : Nat → Int32) (a : Nat → Nat → Int32) (r : Nat → Nat → Option Nat) (f : Nat → va_E) (hC : CI L K cy N r f) (sz : Nat) : Met l yX9_sendFetchers wsX9_sendFetchers ({ frames := 3, cells := 0, slots := 0, locals := 66 }) (PW D (TYS cy) (XW x cy g N n a r ++ va_pl L f) sz [.ref (x 0)]) (va_Qv (fun (u : ST) => CI L K cy u.1 u.2.2.2.1 u.2.2.2.2 ∧ SM N u.1 n u.2.1 ∧ MM N u.1 a u.2.2.1 ∧ True) (BU D (TYS cy) (XW x cy g N n a r ++ va_pl L f) (WC x cy g L) sz) (va_A (XW x cy g N n a r ++ va_pl L f) sz)) 0 0 (va_A (XW x cy g N n a r ++ va_pl L f) sz) := by
  refine Met.ofW (cc := cX9_sendFetchers) (maxL := 2) (ret := none) (by decide) rfl ?_
  intro p e s m args below meth c s₁ B hml hv
  obtain ⟨rfl, hsz, hP, hK, hD0⟩ := hv
  have hx := B.exec
  have hb := B.bytes
  have hr := B.returns
  have hts := atoms_spec (ws := wsX9_sendFetchers) B.pre
  have hown : s.vm.findClass RX9 = some m.cls := findClass_of_methodNamed B.named
  have hlocks := B.notSynchronized
  subst hsz
  obtain ⟨hNB, hRB, hHT⟩ := hC
  have hSM : SM N N n n := SM_rf
  have hMM : MM N N a a := MM_rf
  have hD := hD0.self (sz := s.heap.size)
  have hA : ∀ q9 : Nat, s.heap.size ≤ q9 → va_A (XW x cy g N n a r ++ va_pl L f) s.heap.size q9 := fun q9 h => Or.inr h
  have hS : va_S (va_A (XW x cy g N n a r ++ va_pl L f) s.heap.size) s.heap s.heap [] := va_S.rf
  have hl := lv_entry ([.ref (x 0)]) (n := 2) (Nat.le_of_ble_eq_true rfl)
  rw [lg_entry_eq]
  generalize (lg_sl ([.ref (x 0)]) ++ List.replicate (2 - (lg_sl ([.ref (x 0)])).length) Slot.unset).toArray = ls at hl ⊢
  have hl : lv_has ls 2 [(0, .ref (x 0))] := hl
  refine lv_iconst (v := 0) hx hb dX9_sendFetchers_0 (by decide) ?_
  refine lv_istore_n (lv' := [(1, .int 0), (0, .ref (x 0))]) hx hb dX9_sendFetchers_1 rfl hl (by decide) rfl (fun ls hl => ?_)
  have key2 : ∀ (m9 j1 : Nat), 400 - j1 = m9 → j1 ≤ 400 → ∀ (N3 : Nat → Nat) (n4 : Nat → Int32) (a5 : Nat → Nat → Int32) (r6 : Nat → Nat → Option Nat) (f7 : Nat → va_E) , NB N3 → RB L K N3 r6 → HT L K cy f7 → SM N N3 n n4 → MM N N3 a a5 → ∀ (H : Heap) (locs : List Loc) (ls : Array Slot), va_P D vwCl (XW x cy g N3 n4 a5 r6 ++ va_pl L f7) H → va_D (va_A (XW x cy g N n a r ++ va_pl L f) s.heap.size) (XW x cy g N3 n4 a5 r6 ++ va_pl L f7) → va_S (va_A (XW x cy g N n a r ++ va_pl L f) s.heap.size) s.heap H locs → lv_has ls 2 [(1, .int (nI j1)), (0, .ref (x 0))] → W p l e (headSpec wsX9_sendFetchers ({ frames := 3, cells := 0, slots := 0, locals := 66 })).room s m #[.ref (x 0)] below meth c H locs 0 0 (MQ below (va_Qv (fun (u : ST) => CI L K cy u.1 u.2.2.2.1 u.2.2.2.2 ∧ SM N u.1 n u.2.1 ∧ MM N u.1 a u.2.2.1 ∧ True) (BU D (TYS cy) (XW x cy g N n a r ++ va_pl L f) (WC x cy g L) s.heap.size) (va_A (XW x cy g N n a r ++ va_pl L f) s.heap.size)) #[.ref (x 0)] s 0 0 (va_A (XW x cy g N n a r ++ va_pl L f) s.heap.size)) (F0 m 2 ls []) := by
    intro m9
    induction m9 using Nat.strongRecOn with
    | _ m9 ihkey2 =>
      intro j1 hm9 hj400 N3 n4 a5 r6 f7  hNB hRB hHT hSM hMM H locs ls hP hD hS hl
      subst hm9
      have nb0 : N3 0 ≤ 12 := hNB 0 (by decide)
      have nb1 : N3 1 ≤ 40 := hNB 1 (by decide)
      have nb2 : N3 2 ≤ 20 := hNB 2 (by decide)
      have nb3 : N3 3 ≤ 4 := hNB 3 (by decide)
      have nb4 : N3 4 ≤ 3 := hNB 4 (by decide)
      have nb5 : N3 5 ≤ 20 := hNB 5 (by decide)
      have nb6 : N3 6 ≤ 20 := hNB 6 (by decide)
      have nb7 : N3 7 ≤ 20 := hNB 7 (by decide)
      have nb8 : N3 8 ≤ 30 := hNB 8 (by decide)
      have nb9 : N3 9 ≤ 400 := hNB 9 (by decide)
      refine lv_iload_n hx hb dX9_sendFetchers_2 rfl (lv_at hl 0 rfl) ?_
      refine lv_aload_n hx hb dX9_sendFetchers_3 rfl (lv_at hl 1 rfl) ?_
      refine va_get (D := D) (ci := 9) (v := .ref (x 4)) (C := RX9) (T := TX9) (N := 19) hx hb hts iX9_sendFetchers_9 hown hK hP 0 rfl rfl 3 (by decide) (hts (.fieldLink RX9 37 "FondsRoom" "fetchers" "LFondsRoom$Staff;") (by decide +kernel)) (fun _ h9 => h9) rfl dX9_sendFetchers_4 ?_
      refine va_get (D := D) (ci := 7) (v := .int (nI (N3 3))) (C := RX7) (T := TX7) (N := 2) hx hb hts iX9_sendFetchers_7 hown hK hP 4 rfl rfl 1 (by decide) (hts (.fieldLink RX9 101 "FondsRoom$Staff" "hired" "I") (by decide +kernel)) (fun _ h9 => h9) rfl dX9_sendFetchers_7 ?_
      refine lv_icmp_ge (tgt := 47) hx hb dX9_sendFetchers_10 (by decide) (fun c8 => ?_) (fun c8 => ?_)
      · skip
        have dc8 : (N3 3) ≤ j1 := (nI_leI (a := (N3 3)) (b := j1) (by omega) (by omega)).mp c8
        exact W.vret hx hb hr (fun t ht hW => ⟨⟨(N3, n4, a5, r6, f7), rfl, ⟨⟨hNB, hRB, hHT⟩, hSM, hMM, trivial⟩, by rw [ht]; exact hP, va_K.moved hW.alike hK, hD⟩, hS.F ht⟩) hS.2.2 dX9_sendFetchers_47
      · skip
        have dc8 : j1 < (N3 3) := Nat.not_le.mp (fun h9 => c8 ((nI_leI (a := (N3 3)) (b := j1) (by omega) (by omega)).mpr h9))
        refine lv_aload_n hx hb dX9_sendFetchers_13 rfl (lv_at hl 1 rfl) ?_
        refine va_get (D := D) (ci := 9) (v := .ref (x 4)) (C := RX9) (T := TX9) (N := 19) hx hb hts iX9_sendFetchers_9 hown hK hP 0 rfl rfl 3 (by decide) (hts (.fieldLink RX9 37 "FondsRoom" "fetchers" "LFondsRoom$Staff;") (by decide +kernel)) (fun _ h9 => h9) rfl dX9_sendFetchers_14 ?_
        refine va_get (D := D) (ci := 7) (v := .ref (x 5)) (C := RX7) (T := TX7) (N := 2) hx hb hts iX9_sendFetchers_7 hown hK hP 4 rfl rfl 0 (by decide) (hts (.fieldLink RX9 216 "FondsRoom$Staff" "workers" "[LFondsRoom$Worker;") (by decide +kernel)) (fun _ h9 => h9) rfl dX9_sendFetchers_17 ?_
        refine lv_iload_n hx hb dX9_sendFetchers_20 rfl (lv_at hl 0 rfl) ?_
        refine va_aldq hx hb hK hP 5 5 rfl rfl (vp_in_nI (by omega) (by omega)) dX9_sendFetchers_21 ?_
        obtain ⟨p9, ep9, mp9, kp9⟩ := hG.2.2.2.1 j1 (by omega)
        refine lv_tov (v' := .ref p9) (by rw [nI_clamp (by omega)]; show va_rf (g 3 j1) = _; rw [ep9]; rfl) ?_
        obtain ⟨b_o10, g_o10, l_o10, hf_o10, sb_o10, sg_o10⟩ : TE L K cy 8 (f7 p9) := by rw [← kp9]; exact hHT p9 mp9
        refine pg_get (D := D) (ci := 8) (v := va_rf b_o10) (C := RX8) (T := TX8) (N := 3) hx hb hts iX9_sendFetchers_8 hown hK hP mp9 hf_o10 rfl 0 (by decide) (hts (.fieldLink RX9 227 "FondsRoom$Worker" "box" "LFondsRoom$Box;") (by decide +kernel)) (fun _ h9 => h9) rfl dX9_sendFetchers_22 ?_
        rcases eb11 : b_o10 with _ | b11
        · skip
          subst eb11
          have hP : va_P D vwCl (XW x cy g N3 n4 a5 r6 ++ va_pl L f7) H := by assumption
          have hD : va_D (va_A (XW x cy g N n a r ++ va_pl L f) s.heap.size) (XW x cy g N3 n4 a5 r6 ++ va_pl L f7) := by assumption
          have hl : lv_has ls 2 [(1, .int (nI j1)), (0, .ref (x 0))] := by assumption
          refine lv_ifnonnullN hx hb dX9_sendFetchers_25 ?_
          refine lv_aload_n hx hb dX9_sendFetchers_28 rfl (lv_at hl 1 rfl) ?_
          refine lv_aload_n hx hb dX9_sendFetchers_29 rfl (lv_at hl 1 rfl) ?_
          refine va_get (D := D) (ci := 9) (v := .ref (x 4)) (C := RX9) (T := TX9) (N := 19) hx hb hts iX9_sendFetchers_9 hown hK hP 0 rfl rfl 3 (by decide) (hts (.fieldLink RX9 37 "FondsRoom" "fetchers" "LFondsRoom$Staff;") (by decide +kernel)) (fun _ h9 => h9) rfl dX9_sendFetchers_30 ?_
          refine va_get (D := D) (ci := 7) (v := .ref (x 5)) (C := RX7) (T := TX7) (N := 2) hx hb hts iX9_sendFetchers_7 hown hK hP 4 rfl rfl 0 (by decide) (hts (.fieldLink RX9 216 "FondsRoom$Staff" "workers" "[LFondsRoom$Worker;") (by decide +kernel)) (fun _ h9 => h9) rfl dX9_sendFetchers_33 ?_
          refine lv_iload_n hx hb dX9_sendFetchers_36 rfl (lv_at hl 0 rfl) ?_
          refine va_aldq hx hb hK hP 5 5 rfl rfl (vp_in_nI (by omega) (by omega)) dX9_sendFetchers_37 ?_
          obtain ⟨p12, ep12, mp12, kp12⟩ := hG.2.2.2.1 j1 (by omega)
          refine lv_tov (v' := .ref p12) (by rw [nI_clamp (by omega)]; show va_rf (g 3 j1) = _; rw [ep12]; rfl) ?_
          refine gvV (As := [.ref p12]) (rest := []) ⟨hx, hb, hml, hown, hts⟩ (zX9_sendFetcher l D x cy g L K hG N3 n4 a5 r6 f7 ⟨hNB, hRB, hHT⟩ _ p12  ⟨mp12, kp12⟩) (cwV 1 hts gX9_sendFetchers_X9_sendFetcher rfl rfl rfl (by decide +kernel) ⟨Nat.le_of_ble_eq_true rfl, Nat.le_of_ble_eq_true rfl⟩) hK hP hD hS hA (va_recv hK hP (ci := 9) (q0 := 0) rfl rfl) rfl hl.1 rfl (Nat.le_of_ble_eq_true rfl) dX9_sendFetchers_38 ⟨Nat.le_of_ble_eq_true rfl, Nat.le_of_ble_eq_true rfl⟩ (fun u14 H locs hq13 hP hD hS => ?_)
          obtain ⟨N15, n16, a17, r18, f19⟩ := u14
          obtain ⟨⟨hNB, hRB, hHT⟩, hs20, hv21, hq13b⟩ := hq13
          have hSM : SM N N15 n n16 := SM_tr hSM hs20
          have hMM : MM N N15 a a17 := MM_tr hMM hv21
          have hP : va_P D vwCl (XW x cy g N15 n16 a17 r18 ++ va_pl L f19) H := hP
          have hD : va_D _ (XW x cy g N15 n16 a17 r18 ++ va_pl L f19) := hD
          refine lv_iinc (v := nI (j1 + 1)) (lv' := [(1, .int (nI (j1 + 1))), (0, .ref (x 0))]) hx hb dX9_sendFetchers_41 hl (k := 0) rfl (by rw [← nI_1]; rfl) (by decide) rfl (fun ls hl => ?_)
          refine lv_goto (tgt := 2) hx hb dX9_sendFetchers_44 (by decide) ?_
          have nb0 : N15 0 ≤ 12 := hNB 0 (by decide)
          have nb1 : N15 1 ≤ 40 := hNB 1 (by decide)
          have nb2 : N15 2 ≤ 20 := hNB 2 (by decide)
          have nb3 : N15 3 ≤ 4 := hNB 3 (by decide)
          have nb4 : N15 4 ≤ 3 := hNB 4 (by decide)
          have nb5 : N15 5 ≤ 20 := hNB 5 (by decide)
          have nb6 : N15 6 ≤ 20 := hNB 6 (by decide)
          have nb7 : N15 7 ≤ 20 := hNB 7 (by decide)
          have nb8 : N15 8 ≤ 30 := hNB 8 (by decide)
          have nb9 : N15 9 ≤ 400 := hNB 9 (by decide)
          exact ihkey2 (400 - ((j1 + 1))) (by omega) ((j1 + 1)) rfl (by omega) N15 n16 a17 r18 f19  hNB hRB hHT hSM hMM _ _ _ hP hD hS (lv_sub hl [0, 1] rfl)
        · skip
          subst eb11
          have mb11 := sb_o10 b11 rfl
          have hP : va_P D vwCl (XW x cy g N3 n4 a5 r6 ++ va_pl L f7) H := by assumption
          have hD : va_D (va_A (XW x cy g N n a r ++ va_pl L f) s.heap.size) (XW x cy g N3 n4 a5 r6 ++ va_pl L f7) := by assumption
          have hl : lv_has ls 2 [(1, .int (nI j1)), (0, .ref (x 0))] := by assumption
          refine lv_ifnonnull (tgt := 41) hx hb dX9_sendFetchers_25 (by decide) ?_
          refine lv_iinc (v := nI (j1 + 1)) (lv' := [(1, .int (nI (j1 + 1))), (0, .ref (x 0))]) hx hb dX9_sendFetchers_41 hl (k := 0) rfl (by rw [← nI_1]; rfl) (by decide) rfl (fun ls hl => ?_)
          refine lv_goto (tgt := 2) hx hb dX9_sendFetchers_44 (by decide) ?_
          exact ihkey2 (400 - ((j1 + 1))) (by omega) ((j1 + 1)) rfl (by omega) N3 n4 a5 r6 f7  hNB hRB hHT hSM hMM _ _ _ hP hD hS (lv_sub hl [0, 1] rfl)
  have nb0 : N 0 ≤ 12 := hNB 0 (by decide)
  have nb1 : N 1 ≤ 40 := hNB 1 (by decide)
  have nb2 : N 2 ≤ 20 := hNB 2 (by decide)
  have nb3 : N 3 ≤ 4 := hNB 3 (by decide)
  have nb4 : N 4 ≤ 3 := hNB 4 (by decide)
  have nb5 : N 5 ≤ 20 := hNB 5 (by decide)
  have nb6 : N 6 ≤ 20 := hNB 6 (by decide)
  have nb7 : N 7 ≤ 20 := hNB 7 (by decide)
  have nb8 : N 8 ≤ 30 := hNB 8 (by decide)
  have nb9 : N 9 ≤ 400 := hNB 9 (by decide)
  exact key2 (400 - (0)) (0) rfl (by omega) N n a r f  hNB hRB hHT hSM hMM _ _ _ hP hD hS (lv_sub hl [0, 1] rfl)

theorem iX9_firstOrderer_3 : ∀ w ∈ wsX30, w ∈ wsX9_firstOrderer := fun _ h => List.mem_cons_of_mem _ (List.mem_append_left _ (List.mem_append_left _ (List.mem_append_right _ h)))
theorem iX9_firstOrderer_6 : ∀ w ∈ wsX60, w ∈ wsX9_firstOrderer := fun _ h => List.mem_cons_of_mem _ (List.mem_append_left _ (List.mem_append_right _ h))
theorem iX9_firstOrderer_9 : ∀ w ∈ wsX90, w ∈ wsX9_firstOrderer := fun _ h => List.mem_cons_of_mem _ (List.mem_append_left _ (List.mem_append_left _ (List.mem_append_left _ (List.mem_append_right _ h))))
set_option maxHeartbeats 4000000 in
set_option maxRecDepth 100000 in
theorem zX9_firstOrderer (l : Launch) (D : va_G) (x : Nat → Nat) (cy : Nat → ClassId) (g : Nat → Nat → Option Nat) (L : List Nat) (K : Nat → Nat) (hG : GO L K g) (N : Nat → Nat) (n : Nat → Int32) (a : Nat → Nat → Int32) (r : Nat → Nat → Option Nat) (f : Nat → va_E) (hC : CI L K cy N r f) (sz : Nat) (v : Int32) : Met l yX9_firstOrderer wsX9_firstOrderer ({ frames := 1, cells := 0, slots := 0, locals := 21 }) (PW D (TYS cy) (XW x cy g N n a r ++ va_pl L f) sz [.ref (x 0), .int v]) (va_Qq (fun (res : Option Nat) (u : Unit) => rok L K 6 res) (BU D (TYS cy) (XW x cy g N n a r ++ va_pl L f) (fun _ => XW x cy g N n a r ++ va_pl L f) sz) (va_A (XW x cy g N n a r ++ va_pl L f) sz)) 0 0 (va_A (XW x cy g N n a r ++ va_pl L f) sz) := by
  refine Met.ofW (cc := cX9_firstOrderer) (maxL := 4) (ret := (some (.object "FondsRoom$Reader"))) (by decide) rfl ?_
  intro p e s m args below meth c s₁ B hml hv
  obtain ⟨rfl, hsz, hP, hK, hD0⟩ := hv
  have hx := B.exec
  have hb := B.bytes
  have hr := B.returns
  have hts := atoms_spec (ws := wsX9_firstOrderer) B.pre
  have hown : s.vm.findClass RX9 = some m.cls := findClass_of_methodNamed B.named
  have hlocks := B.notSynchronized
  subst hsz
  obtain ⟨hNB, hRB, hHT⟩ := hC
  have hSM : SM N N n n := SM_rf
  have hMM : MM N N a a := MM_rf
  have hD := hD0.self (sz := s.heap.size)
  have hA : ∀ q9 : Nat, s.heap.size ≤ q9 → va_A (XW x cy g N n a r ++ va_pl L f) s.heap.size q9 := fun q9 h => Or.inr h
  have hS : va_S (va_A (XW x cy g N n a r ++ va_pl L f) s.heap.size) s.heap s.heap [] := va_S.rf
  have hl := lv_entry ([.ref (x 0), .int v]) (n := 4) (Nat.le_of_ble_eq_true rfl)
  rw [lg_entry_eq]
  generalize (lg_sl ([.ref (x 0), .int v]) ++ List.replicate (4 - (lg_sl ([.ref (x 0), .int v])).length) Slot.unset).toArray = ls at hl ⊢
  have hl : lv_has ls 4 [(0, .ref (x 0)), (1, .int v)] := hl
  refine lv_iconst (v := 0) hx hb dX9_firstOrderer_0 (by decide) ?_
  refine lv_istore_n (lv' := [(2, .int 0), (0, .ref (x 0)), (1, .int v)]) hx hb dX9_firstOrderer_1 rfl hl (by decide) rfl (fun ls hl => ?_)
  have key2 : ∀ (m9 j1 : Nat), 400 - j1 = m9 → j1 ≤ 400 → ∀ (H : Heap) (locs : List Loc) (ls : Array Slot), va_P D vwCl (XW x cy g N n a r ++ va_pl L f) H → va_D (va_A (XW x cy g N n a r ++ va_pl L f) s.heap.size) (XW x cy g N n a r ++ va_pl L f) → va_S (va_A (XW x cy g N n a r ++ va_pl L f) s.heap.size) s.heap H locs → lv_has ls 4 [(2, .int (nI j1)), (0, .ref (x 0)), (1, .int v)] → W p l e (headSpec wsX9_firstOrderer ({ frames := 1, cells := 0, slots := 0, locals := 21 })).room s m #[.ref (x 0), .int v] below meth c H locs 0 0 (MQ below (va_Qq (fun (res : Option Nat) (u : Unit) => rok L K 6 res) (BU D (TYS cy) (XW x cy g N n a r ++ va_pl L f) (fun _ => XW x cy g N n a r ++ va_pl L f) s.heap.size) (va_A (XW x cy g N n a r ++ va_pl L f) s.heap.size)) #[.ref (x 0), .int v] s 0 0 (va_A (XW x cy g N n a r ++ va_pl L f) s.heap.size)) (F0 m 2 ls []) := by
    intro m9
    induction m9 using Nat.strongRecOn with
    | _ m9 ihkey2 =>
      intro j1 hm9 hj400  H locs ls hP hD hS hl
      subst hm9
      have nb0 : N 0 ≤ 12 := hNB 0 (by decide)
      have nb1 : N 1 ≤ 40 := hNB 1 (by decide)
      have nb2 : N 2 ≤ 20 := hNB 2 (by decide)
      have nb3 : N 3 ≤ 4 := hNB 3 (by decide)
      have nb4 : N 4 ≤ 3 := hNB 4 (by decide)
      have nb5 : N 5 ≤ 20 := hNB 5 (by decide)
      have nb6 : N 6 ≤ 20 := hNB 6 (by decide)
      have nb7 : N 7 ≤ 20 := hNB 7 (by decide)
      have nb8 : N 8 ≤ 30 := hNB 8 (by decide)
      have nb9 : N 9 ≤ 400 := hNB 9 (by decide)
      refine lv_iload_n hx hb dX9_firstOrderer_2 rfl (lv_at hl 0 rfl) ?_
      refine lv_aload_n hx hb dX9_firstOrderer_3 rfl (lv_at hl 1 rfl) ?_
      refine va_get (D := D) (ci := 9) (v := .ref (x 12)) (C := RX9) (T := TX9) (N := 19) hx hb hts iX9_firstOrderer_9 hown hK hP 0 rfl rfl 7 (by decide) (hts (.fieldLink RX9 54 "FondsRoom" "copyTickets" "LFondsRoom$Line;") (by decide +kernel)) (fun _ h9 => h9) rfl dX9_firstOrderer_4 ?_
      refine va_get (D := D) (ci := 3) (v := .int (nI (N 7))) (C := RX3) (T := TX3) (N := 2) hx hb hts iX9_firstOrderer_3 hown hK hP 12 rfl rfl 1 (by decide) (hts (.fieldLink RX9 373 "FondsRoom$Line" "size" "I") (by decide +kernel)) (fun _ h9 => h9) rfl dX9_firstOrderer_7 ?_
      refine lv_icmp_ge (tgt := 50) hx hb dX9_firstOrderer_10 (by decide) (fun c3 => ?_) (fun c3 => ?_)
      · skip
        have dc3 : (N 7) ≤ j1 := (nI_leI (a := (N 7)) (b := j1) (by omega) (by omega)).mp c3
        refine lv_null hx hb dX9_firstOrderer_50 ?_
        exact W.aret (v := .null) hx hb hr (Or.inl ⟨_, rfl⟩) (Or.inl rfl) (fun t ht hW => ⟨⟨none, (), rfl, rok_none, by rw [ht]; exact hP, va_K.moved hW.alike hK, hD⟩, hS.F ht⟩) hS.2.2 dX9_firstOrderer_51
      · skip
        have dc3 : j1 < (N 7) := Nat.not_le.mp (fun h9 => c3 ((nI_leI (a := (N 7)) (b := j1) (by omega) (by omega)).mpr h9))
        refine lv_aload_n hx hb dX9_firstOrderer_13 rfl (lv_at hl 1 rfl) ?_
        refine va_get (D := D) (ci := 9) (v := .ref (x 12)) (C := RX9) (T := TX9) (N := 19) hx hb hts iX9_firstOrderer_9 hown hK hP 0 rfl rfl 7 (by decide) (hts (.fieldLink RX9 54 "FondsRoom" "copyTickets" "LFondsRoom$Line;") (by decide +kernel)) (fun _ h9 => h9) rfl dX9_firstOrderer_14 ?_
        refine lv_iload_n hx hb dX9_firstOrderer_17 rfl (lv_at hl 0 rfl) ?_
        refine gvQ (As := [.int (nI j1)]) (rest := []) ⟨hx, hb, hml, hown, hts⟩ (zX3_at_2 l D x cy g L K hG N n a r f ⟨hNB, hRB, hHT⟩ _  (nI j1) ) (cwV 1 hts gX9_firstOrderer_X3_at rfl rfl rfl (by decide +kernel) ⟨Nat.le_of_ble_eq_true rfl, Nat.le_of_ble_eq_true rfl⟩) hK hP hD hS hA (va_recv hK hP (ci := 3) (q0 := 12) rfl rfl) rfl hl.1 rfl (Nat.le_of_ble_eq_true rfl) dX9_firstOrderer_18 ⟨Nat.le_of_ble_eq_true rfl, Nat.le_of_ble_eq_true rfl⟩ (fun q4 u5 H locs hq4 hP hD hS => ?_)
        have hP : va_P D vwCl (XW x cy g N n a r ++ va_pl L f) H := hP
        have hD : va_D _ (XW x cy g N n a r ++ va_pl L f) := hD
        rcases eb6 : q4 with _ | b6
        · skip
          subst eb6
          have hP : va_P D vwCl (XW x cy g N n a r ++ va_pl L f) H := by assumption
          have hD : va_D (va_A (XW x cy g N n a r ++ va_pl L f) s.heap.size) (XW x cy g N n a r ++ va_pl L f) := by assumption
          have hl : lv_has ls 4 [(2, .int (nI j1)), (0, .ref (x 0)), (1, .int v)] := by assumption
          refine lv_astore_nN (lv' := [(3, .null), (2, .int (nI j1)), (0, .ref (x 0)), (1, .int v)]) hx hb dX9_firstOrderer_21 rfl hl (by decide) rfl (fun ls hl => ?_)
          refine lv_aload_nN hx hb dX9_firstOrderer_22 rfl (lv_at hl 0 rfl) ?_
          refine lv_ifnullN (tgt := 44) hx hb dX9_firstOrderer_23 (by decide) ?_
          refine lv_iinc (v := nI (j1 + 1)) (lv' := [(2, .int (nI (j1 + 1))), (3, .null), (0, .ref (x 0)), (1, .int v)]) hx hb dX9_firstOrderer_44 hl (k := 1) rfl (by rw [← nI_1]; rfl) (by decide) rfl (fun ls hl => ?_)
          refine lv_goto (tgt := 2) hx hb dX9_firstOrderer_47 (by decide) ?_
          exact ihkey2 (400 - ((j1 + 1))) (by omega) ((j1 + 1)) rfl (by omega)  _ _ _ hP hD hS (lv_sub hl [0, 2, 3] rfl)
        · skip
          subst eb6
          have mb6 := hq4 b6 rfl
          have hP : va_P D vwCl (XW x cy g N n a r ++ va_pl L f) H := by assumption
          have hD : va_D (va_A (XW x cy g N n a r ++ va_pl L f) s.heap.size) (XW x cy g N n a r ++ va_pl L f) := by assumption
          have hl : lv_has ls 4 [(2, .int (nI j1)), (0, .ref (x 0)), (1, .int v)] := by assumption
          refine lv_astore_n (lv' := [(3, .ref b6), (2, .int (nI j1)), (0, .ref (x 0)), (1, .int v)]) hx hb dX9_firstOrderer_21 rfl hl (by decide) rfl (fun ls hl => ?_)
          refine lv_aload_n hx hb dX9_firstOrderer_22 rfl (lv_at hl 0 rfl) ?_
          refine lv_ifnull hx hb dX9_firstOrderer_23 ?_
          refine lv_aload_n hx hb dX9_firstOrderer_26 rfl (lv_at hl 0 rfl) ?_
          refine lv_iconst (v := 5) hx hb dX9_firstOrderer_27 (by decide) ?_
          obtain ⟨n_o9, p_o9, ar_o9, rk_o9, nw_o9, st_o9, ct_o9, d_o9, aw_o9, rl_o9, cp_o9, cu_o9, w1_o9, w2_o9, w3_o9, ov_o9, co_o9, hf_o9, sp_o9, snw_o9, sd_o9, saw_o9, scu_o9⟩ : TE L K cy 6 (f b6) := by rw [← mb6.2]; exact hHT b6 mb6.1
          refine gvI (As := [.int 5]) (rest := []) ⟨hx, hb, hml, hown, hts⟩ (zX6_awaitsAt l D x cy g L K hG N n a r f ⟨hNB, hRB, hHT⟩ _ b6 5 ⟨mb6.1, mb6.2⟩) (cwV 1 hts gX9_firstOrderer_X6_awaitsAt rfl rfl rfl (by decide +kernel) ⟨Nat.le_of_ble_eq_true rfl, Nat.le_of_ble_eq_true rfl⟩) hK hP hD hS hA (pl_recv hK hP (ci := 6) rfl mb6.1 hf_o9) rfl hl.1 rfl (Nat.le_of_ble_eq_true rfl) dX9_firstOrderer_28 ⟨Nat.le_of_ble_eq_true rfl, Nat.le_of_ble_eq_true rfl⟩ (fun q7 u8 H locs hq7 hP hD hS => ?_)
          have hP : va_P D vwCl (XW x cy g N n a r ++ va_pl L f) H := hP
          have hD : va_D _ (XW x cy g N n a r ++ va_pl L f) := hD
          refine lv_if_eq (tgt := 44) hx hb dX9_firstOrderer_31 (by decide) (fun c10 => ?_) (fun c10 => ?_)
          · skip
            refine lv_iinc (v := nI (j1 + 1)) (lv' := [(2, .int (nI (j1 + 1))), (3, .ref b6), (0, .ref (x 0)), (1, .int v)]) hx hb dX9_firstOrderer_44 hl (k := 1) rfl (by rw [← nI_1]; rfl) (by decide) rfl (fun ls hl => ?_)
            refine lv_goto (tgt := 2) hx hb dX9_firstOrderer_47 (by decide) ?_
            exact ihkey2 (400 - ((j1 + 1))) (by omega) ((j1 + 1)) rfl (by omega)  _ _ _ hP hD hS (lv_sub hl [0, 2, 3] rfl)
          · skip
            refine lv_aload_n hx hb dX9_firstOrderer_34 rfl (lv_at hl 0 rfl) ?_
            refine pg_get (D := D) (ci := 6) (v := .int cu_o9) (C := RX6) (T := TX6) (N := 17) hx hb hts iX9_firstOrderer_6 hown hK hP mb6.1 hf_o9 rfl 11 (by decide) (hts (.fieldLink RX9 339 "FondsRoom$Reader" "copyUrgent" "Z") (by decide +kernel)) (fun _ h9 => h9) rfl dX9_firstOrderer_35 ?_
            refine lv_iload_n hx hb dX9_firstOrderer_38 rfl (lv_at hl 3 rfl) ?_
            refine lv_icmp_ne (tgt := 44) hx hb dX9_firstOrderer_39 (by decide) (fun c11 => ?_) (fun c11 => ?_)
            · skip
              refine lv_iinc (v := nI (j1 + 1)) (lv' := [(2, .int (nI (j1 + 1))), (3, .ref b6), (0, .ref (x 0)), (1, .int v)]) hx hb dX9_firstOrderer_44 hl (k := 1) rfl (by rw [← nI_1]; rfl) (by decide) rfl (fun ls hl => ?_)
              refine lv_goto (tgt := 2) hx hb dX9_firstOrderer_47 (by decide) ?_
              exact ihkey2 (400 - ((j1 + 1))) (by omega) ((j1 + 1)) rfl (by omega)  _ _ _ hP hD hS (lv_sub hl [0, 2, 3] rfl)
            · skip
              refine lv_aload_n hx hb dX9_firstOrderer_42 rfl (lv_at hl 0 rfl) ?_
              exact W.aret (v := .ref b6) hx hb hr (Or.inl ⟨_, rfl⟩) (Or.inr ⟨_, rfl⟩) (fun t ht hW => ⟨⟨(some (b6)), (), rfl, (rok_some mb6.1 mb6.2), by rw [ht]; exact hP, va_K.moved hW.alike hK, hD⟩, hS.F ht⟩) hS.2.2 dX9_firstOrderer_43
  have nb0 : N 0 ≤ 12 := hNB 0 (by decide)
  have nb1 : N 1 ≤ 40 := hNB 1 (by decide)
  have nb2 : N 2 ≤ 20 := hNB 2 (by decide)
  have nb3 : N 3 ≤ 4 := hNB 3 (by decide)
  have nb4 : N 4 ≤ 3 := hNB 4 (by decide)
  have nb5 : N 5 ≤ 20 := hNB 5 (by decide)
  have nb6 : N 6 ≤ 20 := hNB 6 (by decide)
  have nb7 : N 7 ≤ 20 := hNB 7 (by decide)
  have nb8 : N 8 ≤ 30 := hNB 8 (by decide)
  have nb9 : N 9 ≤ 400 := hNB 9 (by decide)
  exact key2 (400 - (0)) (0) rfl (by omega)  _ _ _ hP hD hS (lv_sub hl [0, 1, 2] rfl)

theorem iX9_nextOrderer_9 : ∀ w ∈ wsX90, w ∈ wsX9_nextOrderer := fun _ h => List.mem_cons_of_mem _ (List.mem_append_left _ (List.mem_append_left _ (List.mem_append_left _ (List.mem_append_right _ h))))
set_option maxHeartbeats 4000000 in
set_option maxRecDepth 100000 in
theorem zX9_nextOrderer (l : Launch) (D : va_G) (x : Nat → Nat) (cy : Nat → ClassId) (g : Nat → Nat → Option Nat) (L : List Nat) (K : Nat → Nat) (hG : GO L K g) (N : Nat → Nat) (n : Nat → Int32) (a : Nat → Nat → Int32) (r : Nat → Nat → Option Nat) (f : Nat → va_E) (hC : CI L K cy N r f) (sz : Nat) : Met l yX9_nextOrderer wsX9_nextOrderer ({ frames := 2, cells := 0, slots := 0, locals := 44 }) (PW D (TYS cy) (XW x cy g N n a r ++ va_pl L f) sz [.ref (x 0)]) (va_Qq (fun (res : Option Nat) (u : Unit) => rok L K 6 res) (BU D (TYS cy) (XW x cy g N n a r ++ va_pl L f) (fun _ => XW x cy g N n a r ++ va_pl L f) sz) (va_A (XW x cy g N n a r ++ va_pl L f) sz)) 0 0 (va_A (XW x cy g N n a r ++ va_pl L f) sz) := by
  refine Met.ofW (cc := cX9_nextOrderer) (maxL := 3) (ret := (some (.object "FondsRoom$Reader"))) (by decide) rfl ?_
  intro p e s m args below meth c s₁ B hml hv
  obtain ⟨rfl, hsz, hP, hK, hD0⟩ := hv
  have hx := B.exec
  have hb := B.bytes
  have hr := B.returns
  have hts := atoms_spec (ws := wsX9_nextOrderer) B.pre
  have hown : s.vm.findClass RX9 = some m.cls := findClass_of_methodNamed B.named
  have hlocks := B.notSynchronized
  subst hsz
  obtain ⟨hNB, hRB, hHT⟩ := hC
  have hSM : SM N N n n := SM_rf
  have hMM : MM N N a a := MM_rf
  have hD := hD0.self (sz := s.heap.size)
  have hA : ∀ q9 : Nat, s.heap.size ≤ q9 → va_A (XW x cy g N n a r ++ va_pl L f) s.heap.size q9 := fun q9 h => Or.inr h
  have hS : va_S (va_A (XW x cy g N n a r ++ va_pl L f) s.heap.size) s.heap s.heap [] := va_S.rf
  have hl := lv_entry ([.ref (x 0)]) (n := 3) (Nat.le_of_ble_eq_true rfl)
  rw [lg_entry_eq]
  generalize (lg_sl ([.ref (x 0)]) ++ List.replicate (3 - (lg_sl ([.ref (x 0)])).length) Slot.unset).toArray = ls at hl ⊢
  have hl : lv_has ls 3 [(0, .ref (x 0))] := hl
  refine lv_aload_n hx hb dX9_nextOrderer_0 rfl (lv_at hl 0 rfl) ?_
  refine lv_iconst (v := 1) hx hb dX9_nextOrderer_1 (by decide) ?_
  refine gvQ (As := [.int 1]) (rest := []) ⟨hx, hb, hml, hown, hts⟩ (zX9_firstOrderer l D x cy g L K hG N n a r f ⟨hNB, hRB, hHT⟩ _  1 ) (cwV 1 hts gX9_nextOrderer_X9_firstOrderer rfl rfl rfl (by decide +kernel) ⟨Nat.le_of_ble_eq_true rfl, Nat.le_of_ble_eq_true rfl⟩) hK hP hD hS hA (va_recv hK hP (ci := 9) (q0 := 0) rfl rfl) rfl hl.1 rfl (Nat.le_of_ble_eq_true rfl) dX9_nextOrderer_2 ⟨Nat.le_of_ble_eq_true rfl, Nat.le_of_ble_eq_true rfl⟩ (fun q1 u2 H locs hq1 hP hD hS => ?_)
  have hP : va_P D vwCl (XW x cy g N n a r ++ va_pl L f) H := hP
  have hD : va_D _ (XW x cy g N n a r ++ va_pl L f) := hD
  rcases eb3 : q1 with _ | b3
  · skip
    subst eb3
    have hP : va_P D vwCl (XW x cy g N n a r ++ va_pl L f) H := by assumption
    have hD : va_D (va_A (XW x cy g N n a r ++ va_pl L f) s.heap.size) (XW x cy g N n a r ++ va_pl L f) := by assumption
    have hl : lv_has ls 3 [(0, .ref (x 0))] := by assumption
    refine lv_astore_nN (lv' := [(1, .null), (0, .ref (x 0))]) hx hb dX9_nextOrderer_5 rfl hl (by decide) rfl (fun ls hl => ?_)
    refine lv_aload_n hx hb dX9_nextOrderer_6 rfl (lv_at hl 1 rfl) ?_
    refine lv_iconst (v := 0) hx hb dX9_nextOrderer_7 (by decide) ?_
    refine gvQ (As := [.int 0]) (rest := []) ⟨hx, hb, hml, hown, hts⟩ (zX9_firstOrderer l D x cy g L K hG N n a r f ⟨hNB, hRB, hHT⟩ _  0 ) (cwV 1 hts gX9_nextOrderer_X9_firstOrderer rfl rfl rfl (by decide +kernel) ⟨Nat.le_of_ble_eq_true rfl, Nat.le_of_ble_eq_true rfl⟩) hK hP hD hS hA (va_recv hK hP (ci := 9) (q0 := 0) rfl rfl) rfl hl.1 rfl (Nat.le_of_ble_eq_true rfl) dX9_nextOrderer_8 ⟨Nat.le_of_ble_eq_true rfl, Nat.le_of_ble_eq_true rfl⟩ (fun q4 u5 H locs hq4 hP hD hS => ?_)
    have hP : va_P D vwCl (XW x cy g N n a r ++ va_pl L f) H := hP
    have hD : va_D _ (XW x cy g N n a r ++ va_pl L f) := hD
    rcases eb6 : q4 with _ | b6
    · skip
      subst eb6
      have hP : va_P D vwCl (XW x cy g N n a r ++ va_pl L f) H := by assumption
      have hD : va_D (va_A (XW x cy g N n a r ++ va_pl L f) s.heap.size) (XW x cy g N n a r ++ va_pl L f) := by assumption
      have hl : lv_has ls 3 [(1, .null), (0, .ref (x 0))] := by assumption
      refine lv_astore_nN (lv' := [(2, .null), (1, .null), (0, .ref (x 0))]) hx hb dX9_nextOrderer_11 rfl hl (by decide) rfl (fun ls hl => ?_)
      refine lv_aload_nN hx hb dX9_nextOrderer_12 rfl (lv_at hl 1 rfl) ?_
      refine lv_ifnullN (tgt := 28) hx hb dX9_nextOrderer_13 (by decide) ?_
      refine lv_aload_nN hx hb dX9_nextOrderer_28 rfl (lv_at hl 0 rfl) ?_
      exact W.aret (v := .null) hx hb hr (Or.inl ⟨_, rfl⟩) (Or.inl rfl) (fun t ht hW => ⟨⟨none, (), rfl, rok_none, by rw [ht]; exact hP, va_K.moved hW.alike hK, hD⟩, hS.F ht⟩) hS.2.2 dX9_nextOrderer_29
    · skip
      subst eb6
      have mb6 := hq4 b6 rfl
      have hP : va_P D vwCl (XW x cy g N n a r ++ va_pl L f) H := by assumption
      have hD : va_D (va_A (XW x cy g N n a r ++ va_pl L f) s.heap.size) (XW x cy g N n a r ++ va_pl L f) := by assumption
      have hl : lv_has ls 3 [(1, .null), (0, .ref (x 0))] := by assumption
      refine lv_astore_n (lv' := [(2, .ref b6), (1, .null), (0, .ref (x 0))]) hx hb dX9_nextOrderer_11 rfl hl (by decide) rfl (fun ls hl => ?_)
      refine lv_aload_nN hx hb dX9_nextOrderer_12 rfl (lv_at hl 1 rfl) ?_
      refine lv_ifnullN (tgt := 28) hx hb dX9_nextOrderer_13 (by decide) ?_
      refine lv_aload_n hx hb dX9_nextOrderer_28 rfl (lv_at hl 0 rfl) ?_
      exact W.aret (v := .ref b6) hx hb hr (Or.inl ⟨_, rfl⟩) (Or.inr ⟨_, rfl⟩) (fun t ht hW => ⟨⟨(some (b6)), (), rfl, (rok_some mb6.1 mb6.2), by rw [ht]; exact hP, va_K.moved hW.alike hK, hD⟩, hS.F ht⟩) hS.2.2 dX9_nextOrderer_29
  · skip
    subst eb3
    have mb3 := hq1 b3 rfl
    have hP : va_P D vwCl (XW x cy g N n a r ++ va_pl L f) H := by assumption
    have hD : va_D (va_A (XW x cy g N n a r ++ va_pl L f) s.heap.size) (XW x cy g N n a r ++ va_pl L f) := by assumption
    have hl : lv_has ls 3 [(0, .ref (x 0))] := by assumption
    refine lv_astore_n (lv' := [(1, .ref b3), (0, .ref (x 0))]) hx hb dX9_nextOrderer_5 rfl hl (by decide) rfl (fun ls hl => ?_)
    refine lv_aload_n hx hb dX9_nextOrderer_6 rfl (lv_at hl 1 rfl) ?_
    refine lv_iconst (v := 0) hx hb dX9_nextOrderer_7 (by decide) ?_
    refine gvQ (As := [.int 0]) (rest := []) ⟨hx, hb, hml, hown, hts⟩ (zX9_firstOrderer l D x cy g L K hG N n a r f ⟨hNB, hRB, hHT⟩ _  0 ) (cwV 1 hts gX9_nextOrderer_X9_firstOrderer rfl rfl rfl (by decide +kernel) ⟨Nat.le_of_ble_eq_true rfl, Nat.le_of_ble_eq_true rfl⟩) hK hP hD hS hA (va_recv hK hP (ci := 9) (q0 := 0) rfl rfl) rfl hl.1 rfl (Nat.le_of_ble_eq_true rfl) dX9_nextOrderer_8 ⟨Nat.le_of_ble_eq_true rfl, Nat.le_of_ble_eq_true rfl⟩ (fun q7 u8 H locs hq7 hP hD hS => ?_)
    have hP : va_P D vwCl (XW x cy g N n a r ++ va_pl L f) H := hP
    have hD : va_D _ (XW x cy g N n a r ++ va_pl L f) := hD
    rcases eb9 : q7 with _ | b9
    · skip
      subst eb9
      have hP : va_P D vwCl (XW x cy g N n a r ++ va_pl L f) H := by assumption
      have hD : va_D (va_A (XW x cy g N n a r ++ va_pl L f) s.heap.size) (XW x cy g N n a r ++ va_pl L f) := by assumption
      have hl : lv_has ls 3 [(1, .ref b3), (0, .ref (x 0))] := by assumption
      refine lv_astore_nN (lv' := [(2, .null), (1, .ref b3), (0, .ref (x 0))]) hx hb dX9_nextOrderer_11 rfl hl (by decide) rfl (fun ls hl => ?_)
      refine lv_aload_n hx hb dX9_nextOrderer_12 rfl (lv_at hl 1 rfl) ?_
      refine lv_ifnull hx hb dX9_nextOrderer_13 ?_
      refine lv_aload_n hx hb dX9_nextOrderer_16 rfl (lv_at hl 2 rfl) ?_
      refine va_get (D := D) (ci := 9) (v := .int (n 5)) (C := RX9) (T := TX9) (N := 19) hx hb hts iX9_nextOrderer_9 hown hK hP 0 rfl rfl 18 (by decide) (hts (.fieldLink RX9 408 "FondsRoom" "urgentRow" "I") (by decide +kernel)) (fun _ h9 => h9) rfl dX9_nextOrderer_17 ?_
      refine lv_iconst (v := 3) hx hb dX9_nextOrderer_20 (by decide) ?_
      refine lv_icmp_lt (tgt := 30) hx hb dX9_nextOrderer_21 (by decide) (fun c10 => ?_) (fun c10 => ?_)
      · skip
        refine lv_aload_n hx hb dX9_nextOrderer_30 rfl (lv_at hl 1 rfl) ?_
        exact W.aret (v := .ref b3) hx hb hr (Or.inl ⟨_, rfl⟩) (Or.inr ⟨_, rfl⟩) (fun t ht hW => ⟨⟨(some (b3)), (), rfl, (rok_some mb3.1 mb3.2), by rw [ht]; exact hP, va_K.moved hW.alike hK, hD⟩, hS.F ht⟩) hS.2.2 dX9_nextOrderer_31
      · skip
        refine lv_aload_nN hx hb dX9_nextOrderer_24 rfl (lv_at hl 0 rfl) ?_
        refine lv_ifnullN (tgt := 30) hx hb dX9_nextOrderer_25 (by decide) ?_
        refine lv_aload_n hx hb dX9_nextOrderer_30 rfl (lv_at hl 1 rfl) ?_
        exact W.aret (v := .ref b3) hx hb hr (Or.inl ⟨_, rfl⟩) (Or.inr ⟨_, rfl⟩) (fun t ht hW => ⟨⟨(some (b3)), (), rfl, (rok_some mb3.1 mb3.2), by rw [ht]; exact hP, va_K.moved hW.alike hK, hD⟩, hS.F ht⟩) hS.2.2 dX9_nextOrderer_31
    · skip
      subst eb9
      have mb9 := hq7 b9 rfl
      have hP : va_P D vwCl (XW x cy g N n a r ++ va_pl L f) H := by assumption
      have hD : va_D (va_A (XW x cy g N n a r ++ va_pl L f) s.heap.size) (XW x cy g N n a r ++ va_pl L f) := by assumption
      have hl : lv_has ls 3 [(1, .ref b3), (0, .ref (x 0))] := by assumption
      refine lv_astore_n (lv' := [(2, .ref b9), (1, .ref b3), (0, .ref (x 0))]) hx hb dX9_nextOrderer_11 rfl hl (by decide) rfl (fun ls hl => ?_)
      refine lv_aload_n hx hb dX9_nextOrderer_12 rfl (lv_at hl 1 rfl) ?_
      refine lv_ifnull hx hb dX9_nextOrderer_13 ?_
      refine lv_aload_n hx hb dX9_nextOrderer_16 rfl (lv_at hl 2 rfl) ?_
      refine va_get (D := D) (ci := 9) (v := .int (n 5)) (C := RX9) (T := TX9) (N := 19) hx hb hts iX9_nextOrderer_9 hown hK hP 0 rfl rfl 18 (by decide) (hts (.fieldLink RX9 408 "FondsRoom" "urgentRow" "I") (by decide +kernel)) (fun _ h9 => h9) rfl dX9_nextOrderer_17 ?_
      refine lv_iconst (v := 3) hx hb dX9_nextOrderer_20 (by decide) ?_
      refine lv_icmp_lt (tgt := 30) hx hb dX9_nextOrderer_21 (by decide) (fun c11 => ?_) (fun c11 => ?_)
      · skip
        refine lv_aload_n hx hb dX9_nextOrderer_30 rfl (lv_at hl 1 rfl) ?_
        exact W.aret (v := .ref b3) hx hb hr (Or.inl ⟨_, rfl⟩) (Or.inr ⟨_, rfl⟩) (fun t ht hW => ⟨⟨(some (b3)), (), rfl, (rok_some mb3.1 mb3.2), by rw [ht]; exact hP, va_K.moved hW.alike hK, hD⟩, hS.F ht⟩) hS.2.2 dX9_nextOrderer_31
      · skip
        refine lv_aload_n hx hb dX9_nextOrderer_24 rfl (lv_at hl 0 rfl) ?_
        refine lv_ifnull hx hb dX9_nextOrderer_25 ?_
        refine lv_aload_n hx hb dX9_nextOrderer_28 rfl (lv_at hl 0 rfl) ?_
        exact W.aret (v := .ref b9) hx hb hr (Or.inl ⟨_, rfl⟩) (Or.inr ⟨_, rfl⟩) (fun t ht hW => ⟨⟨(some (b9)), (), rfl, (rok_some mb9.1 mb9.2), by rw [ht]; exact hP, va_K.moved hW.alike hK, hD⟩, hS.F ht⟩) hS.2.2 dX9_nextOrderer_29

theorem iX9_beginCopy_0 : ∀ w ∈ wsX00, w ∈ wsX9_beginCopy := fun _ h => List.mem_cons_of_mem _ (List.mem_append_left _ (List.mem_append_left _ (List.mem_append_left _ (List.mem_append_right _ h))))
theorem iX9_beginCopy_6 : ∀ w ∈ wsX60, w ∈ wsX9_beginCopy := fun _ h => List.mem_cons_of_mem _ (List.mem_append_left _ (List.mem_append_left _ (List.mem_append_left _ (List.mem_append_left _ (List.mem_append_right _ h)))))
theorem iX9_beginCopy_9 : ∀ w ∈ wsX90, w ∈ wsX9_beginCopy := fun _ h => List.mem_cons_of_mem _ (List.mem_append_left _ (List.mem_append_left _ (List.mem_append_right _ h)))
set_option maxHeartbeats 4000000 in
set_option maxRecDepth 100000 in
theorem zX9_beginCopy (l : Launch) (D : va_G) (x : Nat → Nat) (cy : Nat → ClassId) (g : Nat → Nat → Option Nat) (L : List Nat) (K : Nat → Nat) (hG : GO L K g) (N : Nat → Nat) (n : Nat → Int32) (a : Nat → Nat → Int32) (r : Nat → Nat → Option Nat) (f : Nat → va_E) (hC : CI L K cy N r f) (sz : Nat) (wk : Nat) (mwk : wk ∈ L ∧ K wk = 8) : Met l yX9_beginCopy wsX9_beginCopy ({ frames := 3, cells := 0, slots := 0, locals := 66 }) (PW D (TYS cy) (XW x cy g N n a r ++ va_pl L f) sz [.ref (x 0), .ref wk]) (va_Qv (fun (u : ST) => CI L K cy u.1 u.2.2.2.1 u.2.2.2.2 ∧ SM N u.1 n u.2.1 ∧ MM N u.1 a u.2.2.1 ∧ True) (BU D (TYS cy) (XW x cy g N n a r ++ va_pl L f) (WC x cy g L) sz) (va_A (XW x cy g N n a r ++ va_pl L f) sz)) 0 0 (va_A (XW x cy g N n a r ++ va_pl L f) sz) := by
  refine Met.ofW (cc := cX9_beginCopy) (maxL := 3) (ret := none) (by decide) rfl ?_
  intro p e s m args below meth c s₁ B hml hv
  obtain ⟨rfl, hsz, hP, hK, hD0⟩ := hv
  have hx := B.exec
  have hb := B.bytes
  have hr := B.returns
  have hts := atoms_spec (ws := wsX9_beginCopy) B.pre
  have hown : s.vm.findClass RX9 = some m.cls := findClass_of_methodNamed B.named
  have hlocks := B.notSynchronized
  subst hsz
  obtain ⟨hNB, hRB, hHT⟩ := hC
  have hSM : SM N N n n := SM_rf
  have hMM : MM N N a a := MM_rf
  have hD := hD0.self (sz := s.heap.size)
  have hA : ∀ q9 : Nat, s.heap.size ≤ q9 → va_A (XW x cy g N n a r ++ va_pl L f) s.heap.size q9 := fun q9 h => Or.inr h
  have hS : va_S (va_A (XW x cy g N n a r ++ va_pl L f) s.heap.size) s.heap s.heap [] := va_S.rf
  have hl := lv_entry ([.ref (x 0), .ref wk]) (n := 3) (Nat.le_of_ble_eq_true rfl)
  rw [lg_entry_eq]
  generalize (lg_sl ([.ref (x 0), .ref wk]) ++ List.replicate (3 - (lg_sl ([.ref (x 0), .ref wk])).length) Slot.unset).toArray = ls at hl ⊢
  have hl : lv_has ls 3 [(0, .ref (x 0)), (1, .ref wk)] := hl
  refine lv_aload_n hx hb dX9_beginCopy_0 rfl (lv_at hl 0 rfl) ?_
  refine gvQ (As := []) (rest := []) ⟨hx, hb, hml, hown, hts⟩ (zX9_nextOrderer l D x cy g L K hG N n a r f ⟨hNB, hRB, hHT⟩ _   ) (cwV 0 hts gX9_beginCopy_X9_nextOrderer rfl rfl rfl (by decide +kernel) ⟨Nat.le_of_ble_eq_true rfl, Nat.le_of_ble_eq_true rfl⟩) hK hP hD hS hA (va_recv hK hP (ci := 9) (q0 := 0) rfl rfl) rfl hl.1 rfl (Nat.le_of_ble_eq_true rfl) dX9_beginCopy_1 ⟨Nat.le_of_ble_eq_true rfl, Nat.le_of_ble_eq_true rfl⟩ (fun q1 u2 H locs hq1 hP hD hS => ?_)
  have hP : va_P D vwCl (XW x cy g N n a r ++ va_pl L f) H := hP
  have hD : va_D _ (XW x cy g N n a r ++ va_pl L f) := hD
  rcases eb3 : q1 with _ | b3
  · skip
    subst eb3
    have hP : va_P D vwCl (XW x cy g N n a r ++ va_pl L f) H := by assumption
    have hD : va_D (va_A (XW x cy g N n a r ++ va_pl L f) s.heap.size) (XW x cy g N n a r ++ va_pl L f) := by assumption
    have hl : lv_has ls 3 [(0, .ref (x 0)), (1, .ref wk)] := by assumption
    refine lv_astore_nN (lv' := [(2, .null), (0, .ref (x 0)), (1, .ref wk)]) hx hb dX9_beginCopy_4 rfl hl (by decide) rfl (fun ls hl => ?_)
    refine lv_aload_nN hx hb dX9_beginCopy_5 rfl (lv_at hl 0 rfl) ?_
    refine lv_ifnullN (tgt := 16) hx hb dX9_beginCopy_6 (by decide) ?_
    exact W.vret hx hb hr (fun t ht hW => ⟨⟨(N, n, a, r, f), rfl, ⟨⟨hNB, hRB, hHT⟩, hSM, hMM, trivial⟩, by rw [ht]; exact hP, va_K.moved hW.alike hK, hD⟩, hS.F ht⟩) hS.2.2 dX9_beginCopy_16
  · skip
    subst eb3
    have mb3 := hq1 b3 rfl
    have hP : va_P D vwCl (XW x cy g N n a r ++ va_pl L f) H := by assumption
    have hD : va_D (va_A (XW x cy g N n a r ++ va_pl L f) s.heap.size) (XW x cy g N n a r ++ va_pl L f) := by assumption
    have hl : lv_has ls 3 [(0, .ref (x 0)), (1, .ref wk)] := by assumption
    refine lv_astore_n (lv' := [(2, .ref b3), (0, .ref (x 0)), (1, .ref wk)]) hx hb dX9_beginCopy_4 rfl hl (by decide) rfl (fun ls hl => ?_)
    refine lv_aload_n hx hb dX9_beginCopy_5 rfl (lv_at hl 0 rfl) ?_
    refine lv_ifnull hx hb dX9_beginCopy_6 ?_
    refine lv_aload_n hx hb dX9_beginCopy_9 rfl (lv_at hl 0 rfl) ?_
    obtain ⟨n_o4, p_o4, ar_o4, rk_o4, nw_o4, st_o4, ct_o4, d_o4, aw_o4, rl_o4, cp_o4, cu_o4, w1_o4, w2_o4, w3_o4, ov_o4, co_o4, hf_o4, sp_o4, snw_o4, sd_o4, saw_o4, scu_o4⟩ : TE L K cy 6 (f b3) := by rw [← mb3.2]; exact hHT b3 mb3.1
    refine pg_get (D := D) (ci := 6) (v := va_rf aw_o4) (C := RX6) (T := TX6) (N := 17) hx hb hts iX9_beginCopy_6 hown hK hP mb3.1 hf_o4 rfl 8 (by decide) (hts (.fieldLink RX9 267 "FondsRoom$Reader" "awaited" "LFondsRoom$Box;") (by decide +kernel)) (fun _ h9 => h9) rfl dX9_beginCopy_10 ?_
    rcases eb5 : aw_o4 with _ | b5
    · skip
      subst eb5
      have hP : va_P D vwCl (XW x cy g N n a r ++ va_pl L f) H := by assumption
      have hD : va_D (va_A (XW x cy g N n a r ++ va_pl L f) s.heap.size) (XW x cy g N n a r ++ va_pl L f) := by assumption
      have hl : lv_has ls 3 [(2, .ref b3), (0, .ref (x 0)), (1, .ref wk)] := by assumption
      refine lv_ifnonnullN hx hb dX9_beginCopy_13 ?_
      exact W.vret hx hb hr (fun t ht hW => ⟨⟨(N, n, a, r, f), rfl, ⟨⟨hNB, hRB, hHT⟩, hSM, hMM, trivial⟩, by rw [ht]; exact hP, va_K.moved hW.alike hK, hD⟩, hS.F ht⟩) hS.2.2 dX9_beginCopy_16
    · skip
      subst eb5
      have mb5 := saw_o4 b5 rfl
      have hP : va_P D vwCl (XW x cy g N n a r ++ va_pl L f) H := by assumption
      have hD : va_D (va_A (XW x cy g N n a r ++ va_pl L f) s.heap.size) (XW x cy g N n a r ++ va_pl L f) := by assumption
      have hl : lv_has ls 3 [(2, .ref b3), (0, .ref (x 0)), (1, .ref wk)] := by assumption
      refine lv_ifnonnull (tgt := 17) hx hb dX9_beginCopy_13 (by decide) ?_
      refine lv_aload_n hx hb dX9_beginCopy_17 rfl (lv_at hl 0 rfl) ?_
      refine pg_get (D := D) (ci := 6) (v := .ref b5) (C := RX6) (T := TX6) (N := 17) hx hb hts iX9_beginCopy_6 hown hK hP mb3.1 hf_o4 rfl 8 (by decide) (hts (.fieldLink RX9 267 "FondsRoom$Reader" "awaited" "LFondsRoom$Box;") (by decide +kernel)) (fun _ h9 => h9) rfl dX9_beginCopy_18 ?_
      refine lv_bipush (v := 6) hx hb dX9_beginCopy_21 (by decide) ?_
      obtain ⟨n_o6, fo_o6, pr_o6, pl_o6, h_o6, w_o6, hf_o6, spr_o6, sh_o6, sw_o6⟩ : TE L K cy 0 (f b5) := by rw [← mb5.2]; exact hHT b5 mb5.1
      refine pg_put (D := D) (ci := 0) (v := .int 6) (ty := .int) (C := RX0) (T := TX0) (N := 6) hx hb hts iX9_beginCopy_0 tyX0 tyX0_ok nmX0 hown hK hP hD hS mb5.1 hf_o6 rfl 3 (by decide) (hts (.fieldLink RX9 233 "FondsRoom$Box" "place" "I") (by decide +kernel)) (fun _ h9 => h9) rfl (by decide +kernel) rfl rfl (Nat.le_of_ble_eq_true rfl) dX9_beginCopy_23 (fun H locs hP hD hS => ?_)
      obtain ⟨f7, ef7⟩ : ∃ z, z = va_up f b5 (.inr (0, [.int n_o6, .int fo_o6, .int pr_o6, .int 6, va_rf h_o6, va_rf w_o6])) := ⟨_, rfl⟩
      have hP : va_P D vwCl (XW x cy g N n a r ++ va_pl L f7) H := by rw [ef7]; exact hP
      have hD : va_D (va_A (XW x cy g N n a r ++ va_pl L f) s.heap.size) (XW x cy g N n a r ++ va_pl L f7) := by rw [ef7]; exact hD
      have hHT : HT L K cy f7 := by rw [ef7]; exact HT_up hHT 0 mb5.2 ⟨n_o6, fo_o6, pr_o6, 6, h_o6, w_o6, rfl, spr_o6, sh_o6, sw_o6⟩
      have hf8 : f7 b5 = .inr (0, [.int n_o6, .int fo_o6, .int pr_o6, .int 6, va_rf h_o6, va_rf w_o6]) := by rw [ef7]; exact va_up_self _ _ _
      have hf9 : f7 b3 = .inr (6, [.int n_o4, .ref p_o4, .int ar_o4, .int rk_o4, .int nw_o4, .int st_o4, .int ct_o4, va_rf d_o4, .ref b5, .int rl_o4, .int cp_o4, .int cu_o4, .int w1_o4, .int w2_o4, .int w3_o4, .int ov_o4, .int co_o4]) := by rw [ef7]; exact (va_up_ne _ _ (fun h9 => absurd (mb3.2.symm.trans ((congrArg K h9).trans mb5.2)) (by decide))).trans hf_o4
      refine lv_aload_n hx hb dX9_beginCopy_26 rfl (lv_at hl 2 rfl) ?_
      refine lv_aload_n hx hb dX9_beginCopy_27 rfl (lv_at hl 0 rfl) ?_
      refine pg_get (D := D) (ci := 6) (v := .ref b5) (C := RX6) (T := TX6) (N := 17) hx hb hts iX9_beginCopy_6 hown hK hP mb3.1 hf9 rfl 8 (by decide) (hts (.fieldLink RX9 267 "FondsRoom$Reader" "awaited" "LFondsRoom$Box;") (by decide +kernel)) (fun _ h9 => h9) rfl dX9_beginCopy_28 ?_
      refine lv_aload_n hx hb dX9_beginCopy_31 rfl (lv_at hl 0 rfl) ?_
      refine lv_aload_n hx hb dX9_beginCopy_32 rfl (lv_at hl 0 rfl) ?_
      refine pg_get (D := D) (ci := 6) (v := .int cp_o4) (C := RX6) (T := TX6) (N := 17) hx hb hts iX9_beginCopy_6 hown hK hP mb3.1 hf9 rfl 10 (by decide) (hts (.fieldLink RX9 336 "FondsRoom$Reader" "copyPages" "I") (by decide +kernel)) (fun _ h9 => h9) rfl dX9_beginCopy_33 ?_
      obtain ⟨b_o12, g_o12, l_o12, hf_o12, sb_o12, sg_o12⟩ : TE L K cy 8 (f7 wk) := by rw [← mwk.2]; exact hHT wk mwk.1
      refine gvV (As := [.ref b5, .ref b3, .int cp_o4]) (rest := []) ⟨hx, hb, hml, hown, hts⟩ (zX8_begin_r l D x cy g L K hG N n a r f7 ⟨hNB, hRB, hHT⟩ _ b5 b3 wk cp_o4 ⟨mb5.1, mb5.2⟩ ⟨mb3.1, mb3.2⟩ ⟨mwk.1, mwk.2⟩) (cwV 3 hts gX9_beginCopy_X8_begin rfl rfl rfl (by decide +kernel) ⟨Nat.le_of_ble_eq_true rfl, Nat.le_of_ble_eq_true rfl⟩) hK hP hD hS hA (pl_recv hK hP (ci := 8) rfl mwk.1 hf_o12) rfl hl.1 rfl (Nat.le_of_ble_eq_true rfl) dX9_beginCopy_36 ⟨Nat.le_of_ble_eq_true rfl, Nat.le_of_ble_eq_true rfl⟩ (fun u11 H locs hq10 hP hD hS => ?_)
      obtain ⟨N13, n14, a15, r16, f17⟩ := u11
      obtain ⟨⟨hNB, hRB, hHT⟩, hs18, hv19, hq10b⟩ := hq10
      have hSM : SM N N13 n n14 := SM_tr hSM hs18
      have hMM : MM N N13 a a15 := MM_tr hMM hv19
      have hP : va_P D vwCl (XW x cy g N13 n14 a15 r16 ++ va_pl L f17) H := hP
      have hD : va_D _ (XW x cy g N13 n14 a15 r16 ++ va_pl L f17) := hD
      refine lv_aload_n hx hb dX9_beginCopy_39 rfl (lv_at hl 1 rfl) ?_
      refine lv_aload_n hx hb dX9_beginCopy_40 rfl (lv_at hl 0 rfl) ?_
      obtain ⟨n_o20, p_o20, ar_o20, rk_o20, nw_o20, st_o20, ct_o20, d_o20, aw_o20, rl_o20, cp_o20, cu_o20, w1_o20, w2_o20, w3_o20, ov_o20, co_o20, hf_o20, sp_o20, snw_o20, sd_o20, saw_o20, scu_o20⟩ : TE L K cy 6 (f17 b3) := by rw [← mb3.2]; exact hHT b3 mb3.1
      refine pg_get (D := D) (ci := 6) (v := .int cu_o20) (C := RX6) (T := TX6) (N := 17) hx hb hts iX9_beginCopy_6 hown hK hP mb3.1 hf_o20 rfl 11 (by decide) (hts (.fieldLink RX9 339 "FondsRoom$Reader" "copyUrgent" "Z") (by decide +kernel)) (fun _ h9 => h9) rfl dX9_beginCopy_41 ?_
      refine lv_if_eq (tgt := 60) hx hb dX9_beginCopy_44 (by decide) (fun c21 => ?_) (fun c21 => ?_)
      · skip
        refine lv_iconst (v := 0) hx hb dX9_beginCopy_60 (by decide) ?_
        refine va_put (D := D) (ci := 9) (v := .int 0) (ty := .int) (C := RX9) (T := TX9) (N := 19) hx hb hts iX9_beginCopy_9 tyX9 tyX9_ok nmX9 hown hK hP hD hS 0 rfl rfl 18 (by decide) (hts (.fieldLink RX9 408 "FondsRoom" "urgentRow" "I") (by decide +kernel)) (fun _ h9 => h9) rfl (by decide +kernel) rfl rfl (Nat.le_of_ble_eq_true rfl) dX9_beginCopy_61 (fun H locs hP hD hS => ?_)
        obtain ⟨n22, en22⟩ : ∃ z, z = va_up n14 5 0 := ⟨_, rfl⟩
        have hP : va_P D vwCl (XW x cy g N13 n22 a15 r16 ++ va_pl L f17) H := by rw [en22]; exact hP
        have hD : va_D (va_A (XW x cy g N n a r ++ va_pl L f) s.heap.size) (XW x cy g N13 n22 a15 r16 ++ va_pl L f17) := by rw [en22]; exact hD
        have hSM : SM N N13 n n22 := by rw [en22]; exact SM_n hSM 5 0 (by decide) (by decide)
        exact W.vret hx hb hr (fun t ht hW => ⟨⟨(N13, n22, a15, r16, f17), rfl, ⟨⟨hNB, hRB, hHT⟩, hSM, hMM, trivial⟩, by rw [ht]; exact hP, va_K.moved hW.alike hK, hD⟩, hS.F ht⟩) hS.2.2 dX9_beginCopy_64
      · skip
        refine lv_aload_n hx hb dX9_beginCopy_47 rfl (lv_at hl 1 rfl) ?_
        refine va_get (D := D) (ci := 9) (v := .int (n14 5)) (C := RX9) (T := TX9) (N := 19) hx hb hts iX9_beginCopy_9 hown hK hP 0 rfl rfl 18 (by decide) (hts (.fieldLink RX9 408 "FondsRoom" "urgentRow" "I") (by decide +kernel)) (fun _ h9 => h9) rfl dX9_beginCopy_48 ?_
        refine lv_iconst (v := 1) hx hb dX9_beginCopy_51 (by decide) ?_
        refine lv_iadd hx hb dX9_beginCopy_52 ?_
        refine lv_iconst (v := 3) hx hb dX9_beginCopy_53 (by decide) ?_
        refine va_mmin hx hb (hml.trans hl.1.symm) hown (hts (.methodLink RX9 411 Lib.Math.min.name) (by decide +kernel)) (hts (.static Lib.Math.min.name) (by decide +kernel)) (hts (.initialized "java/lang/Math") (by decide +kernel)) (hts (.code Lib.Math.min.name Lib.Math.min.code 2 (some .int)) (by decide +kernel)) (Nat.le_of_ble_eq_true rfl) (Nat.le_of_ble_eq_true rfl) (Nat.le_of_ble_eq_true rfl) (Nat.le_of_ble_eq_true rfl) dX9_beginCopy_54 ?_
        refine lv_topi (fun y23 ey23 => ?_)
        refine lv_goto (tgt := 61) hx hb dX9_beginCopy_57 (by decide) ?_
        refine va_put (D := D) (ci := 9) (v := .int y23) (ty := .int) (C := RX9) (T := TX9) (N := 19) hx hb hts iX9_beginCopy_9 tyX9 tyX9_ok nmX9 hown hK hP hD hS 0 rfl rfl 18 (by decide) (hts (.fieldLink RX9 408 "FondsRoom" "urgentRow" "I") (by decide +kernel)) (fun _ h9 => h9) rfl (by decide +kernel) rfl rfl (Nat.le_of_ble_eq_true rfl) dX9_beginCopy_61 (fun H locs hP hD hS => ?_)
        obtain ⟨n24, en24⟩ : ∃ z, z = va_up n14 5 y23 := ⟨_, rfl⟩
        have hP : va_P D vwCl (XW x cy g N13 n24 a15 r16 ++ va_pl L f17) H := by rw [en24]; exact hP
        have hD : va_D (va_A (XW x cy g N n a r ++ va_pl L f) s.heap.size) (XW x cy g N13 n24 a15 r16 ++ va_pl L f17) := by rw [en24]; exact hD
        have hSM : SM N N13 n n24 := by rw [en24]; exact SM_n hSM 5 y23 (by decide) (by decide)
        exact W.vret hx hb hr (fun t ht hW => ⟨⟨(N13, n24, a15, r16, f17), rfl, ⟨⟨hNB, hRB, hHT⟩, hSM, hMM, trivial⟩, by rw [ht]; exact hP, va_K.moved hW.alike hK, hD⟩, hS.F ht⟩) hS.2.2 dX9_beginCopy_64

theorem iX9_beginCopies_7 : ∀ w ∈ wsX70, w ∈ wsX9_beginCopies := fun _ h => List.mem_cons_of_mem _ (List.mem_append_left _ (List.mem_append_left _ (List.mem_append_left _ (List.mem_append_left _ (List.mem_append_right _ h)))))
theorem iX9_beginCopies_8 : ∀ w ∈ wsX80, w ∈ wsX9_beginCopies := fun _ h => List.mem_cons_of_mem _ (List.mem_append_left _ (List.mem_append_left _ (List.mem_append_left _ (List.mem_append_right _ h))))
theorem iX9_beginCopies_9 : ∀ w ∈ wsX90, w ∈ wsX9_beginCopies := fun _ h => List.mem_cons_of_mem _ (List.mem_append_left _ (List.mem_append_left _ (List.mem_append_left _ (List.mem_append_left _ (List.mem_append_left _ (List.mem_append_right _ h))))))
set_option maxHeartbeats 4000000 in
set_option maxRecDepth 100000 in
theorem zX9_beginCopies (l : Launch) (D : va_G) (x : Nat → Nat) (cy : Nat → ClassId) (g : Nat → Nat → Option Nat) (L : List Nat) (K : Nat → Nat) (hG : GO L K g) (N : Nat → Nat) (n : Nat → Int32) (a : Nat → Nat → Int32) (r : Nat → Nat → Option Nat) (f : Nat → va_E) (hC : CI L K cy N r f) (sz : Nat) : Met l yX9_beginCopies wsX9_beginCopies ({ frames := 4, cells := 0, slots := 0, locals := 88 }) (PW D (TYS cy) (XW x cy g N n a r ++ va_pl L f) sz [.ref (x 0)]) (va_Qv (fun (u : ST) => CI L K cy u.1 u.2.2.2.1 u.2.2.2.2 ∧ SM N u.1 n u.2.1 ∧ MM N u.1 a u.2.2.1 ∧ True) (BU D (TYS cy) (XW x cy g N n a r ++ va_pl L f) (WC x cy g L) sz) (va_A (XW x cy g N n a r ++ va_pl L f) sz)) 0 0 (va_A (XW x cy g N n a r ++ va_pl L f) sz) := by
  refine Met.ofW (cc := cX9_beginCopies) (maxL := 2) (ret := none) (by decide) rfl ?_
  intro p e s m args below meth c s₁ B hml hv
  obtain ⟨rfl, hsz, hP, hK, hD0⟩ := hv
  have hx := B.exec
  have hb := B.bytes
  have hr := B.returns
  have hts := atoms_spec (ws := wsX9_beginCopies) B.pre
  have hown : s.vm.findClass RX9 = some m.cls := findClass_of_methodNamed B.named
  have hlocks := B.notSynchronized
  subst hsz
  obtain ⟨hNB, hRB, hHT⟩ := hC
  have hSM : SM N N n n := SM_rf
  have hMM : MM N N a a := MM_rf
  have hD := hD0.self (sz := s.heap.size)
  have hA : ∀ q9 : Nat, s.heap.size ≤ q9 → va_A (XW x cy g N n a r ++ va_pl L f) s.heap.size q9 := fun q9 h => Or.inr h
  have hS : va_S (va_A (XW x cy g N n a r ++ va_pl L f) s.heap.size) s.heap s.heap [] := va_S.rf
  have hl := lv_entry ([.ref (x 0)]) (n := 2) (Nat.le_of_ble_eq_true rfl)
  rw [lg_entry_eq]
  generalize (lg_sl ([.ref (x 0)]) ++ List.replicate (2 - (lg_sl ([.ref (x 0)])).length) Slot.unset).toArray = ls at hl ⊢
  have hl : lv_has ls 2 [(0, .ref (x 0))] := hl
  refine lv_iconst (v := 0) hx hb dX9_beginCopies_0 (by decide) ?_
  refine lv_istore_n (lv' := [(1, .int 0), (0, .ref (x 0))]) hx hb dX9_beginCopies_1 rfl hl (by decide) rfl (fun ls hl => ?_)
  have key2 : ∀ (m9 j1 : Nat), 400 - j1 = m9 → j1 ≤ 400 → ∀ (N3 : Nat → Nat) (n4 : Nat → Int32) (a5 : Nat → Nat → Int32) (r6 : Nat → Nat → Option Nat) (f7 : Nat → va_E) , NB N3 → RB L K N3 r6 → HT L K cy f7 → SM N N3 n n4 → MM N N3 a a5 → ∀ (H : Heap) (locs : List Loc) (ls : Array Slot), va_P D vwCl (XW x cy g N3 n4 a5 r6 ++ va_pl L f7) H → va_D (va_A (XW x cy g N n a r ++ va_pl L f) s.heap.size) (XW x cy g N3 n4 a5 r6 ++ va_pl L f7) → va_S (va_A (XW x cy g N n a r ++ va_pl L f) s.heap.size) s.heap H locs → lv_has ls 2 [(1, .int (nI j1)), (0, .ref (x 0))] → W p l e (headSpec wsX9_beginCopies ({ frames := 4, cells := 0, slots := 0, locals := 88 })).room s m #[.ref (x 0)] below meth c H locs 0 0 (MQ below (va_Qv (fun (u : ST) => CI L K cy u.1 u.2.2.2.1 u.2.2.2.2 ∧ SM N u.1 n u.2.1 ∧ MM N u.1 a u.2.2.1 ∧ True) (BU D (TYS cy) (XW x cy g N n a r ++ va_pl L f) (WC x cy g L) s.heap.size) (va_A (XW x cy g N n a r ++ va_pl L f) s.heap.size)) #[.ref (x 0)] s 0 0 (va_A (XW x cy g N n a r ++ va_pl L f) s.heap.size)) (F0 m 2 ls []) := by
    intro m9
    induction m9 using Nat.strongRecOn with
    | _ m9 ihkey2 =>
      intro j1 hm9 hj400 N3 n4 a5 r6 f7  hNB hRB hHT hSM hMM H locs ls hP hD hS hl
      subst hm9
      have nb0 : N3 0 ≤ 12 := hNB 0 (by decide)
      have nb1 : N3 1 ≤ 40 := hNB 1 (by decide)
      have nb2 : N3 2 ≤ 20 := hNB 2 (by decide)
      have nb3 : N3 3 ≤ 4 := hNB 3 (by decide)
      have nb4 : N3 4 ≤ 3 := hNB 4 (by decide)
      have nb5 : N3 5 ≤ 20 := hNB 5 (by decide)
      have nb6 : N3 6 ≤ 20 := hNB 6 (by decide)
      have nb7 : N3 7 ≤ 20 := hNB 7 (by decide)
      have nb8 : N3 8 ≤ 30 := hNB 8 (by decide)
      have nb9 : N3 9 ≤ 400 := hNB 9 (by decide)
      refine lv_iload_n hx hb dX9_beginCopies_2 rfl (lv_at hl 0 rfl) ?_
      refine lv_aload_n hx hb dX9_beginCopies_3 rfl (lv_at hl 1 rfl) ?_
      refine va_get (D := D) (ci := 9) (v := .ref (x 6)) (C := RX9) (T := TX9) (N := 19) hx hb hts iX9_beginCopies_9 hown hK hP 0 rfl rfl 4 (by decide) (hts (.fieldLink RX9 41 "FondsRoom" "copyists" "LFondsRoom$Staff;") (by decide +kernel)) (fun _ h9 => h9) rfl dX9_beginCopies_4 ?_
      refine va_get (D := D) (ci := 7) (v := .int (nI (N3 4))) (C := RX7) (T := TX7) (N := 2) hx hb hts iX9_beginCopies_7 hown hK hP 6 rfl rfl 1 (by decide) (hts (.fieldLink RX9 101 "FondsRoom$Staff" "hired" "I") (by decide +kernel)) (fun _ h9 => h9) rfl dX9_beginCopies_7 ?_
      refine lv_icmp_ge (tgt := 47) hx hb dX9_beginCopies_10 (by decide) (fun c8 => ?_) (fun c8 => ?_)
      · skip
        have dc8 : (N3 4) ≤ j1 := (nI_leI (a := (N3 4)) (b := j1) (by omega) (by omega)).mp c8
        exact W.vret hx hb hr (fun t ht hW => ⟨⟨(N3, n4, a5, r6, f7), rfl, ⟨⟨hNB, hRB, hHT⟩, hSM, hMM, trivial⟩, by rw [ht]; exact hP, va_K.moved hW.alike hK, hD⟩, hS.F ht⟩) hS.2.2 dX9_beginCopies_47
      · skip
        have dc8 : j1 < (N3 4) := Nat.not_le.mp (fun h9 => c8 ((nI_leI (a := (N3 4)) (b := j1) (by omega) (by omega)).mpr h9))
        refine lv_aload_n hx hb dX9_beginCopies_13 rfl (lv_at hl 1 rfl) ?_
        refine va_get (D := D) (ci := 9) (v := .ref (x 6)) (C := RX9) (T := TX9) (N := 19) hx hb hts iX9_beginCopies_9 hown hK hP 0 rfl rfl 4 (by decide) (hts (.fieldLink RX9 41 "FondsRoom" "copyists" "LFondsRoom$Staff;") (by decide +kernel)) (fun _ h9 => h9) rfl dX9_beginCopies_14 ?_
        refine va_get (D := D) (ci := 7) (v := .ref (x 7)) (C := RX7) (T := TX7) (N := 2) hx hb hts iX9_beginCopies_7 hown hK hP 6 rfl rfl 0 (by decide) (hts (.fieldLink RX9 216 "FondsRoom$Staff" "workers" "[LFondsRoom$Worker;") (by decide +kernel)) (fun _ h9 => h9) rfl dX9_beginCopies_17 ?_
        refine lv_iload_n hx hb dX9_beginCopies_20 rfl (lv_at hl 0 rfl) ?_
        refine va_aldq hx hb hK hP 7 5 rfl rfl (vp_in_nI (by omega) (by omega)) dX9_beginCopies_21 ?_
        obtain ⟨p9, ep9, mp9, kp9⟩ := hG.2.2.2.2 j1 (by omega)
        refine lv_tov (v' := .ref p9) (by rw [nI_clamp (by omega)]; show va_rf (g 4 j1) = _; rw [ep9]; rfl) ?_
        obtain ⟨b_o10, g_o10, l_o10, hf_o10, sb_o10, sg_o10⟩ : TE L K cy 8 (f7 p9) := by rw [← kp9]; exact hHT p9 mp9
        refine pg_get (D := D) (ci := 8) (v := va_rf b_o10) (C := RX8) (T := TX8) (N := 3) hx hb hts iX9_beginCopies_8 hown hK hP mp9 hf_o10 rfl 0 (by decide) (hts (.fieldLink RX9 227 "FondsRoom$Worker" "box" "LFondsRoom$Box;") (by decide +kernel)) (fun _ h9 => h9) rfl dX9_beginCopies_22 ?_
        rcases eb11 : b_o10 with _ | b11
        · skip
          subst eb11
          have hP : va_P D vwCl (XW x cy g N3 n4 a5 r6 ++ va_pl L f7) H := by assumption
          have hD : va_D (va_A (XW x cy g N n a r ++ va_pl L f) s.heap.size) (XW x cy g N3 n4 a5 r6 ++ va_pl L f7) := by assumption
          have hl : lv_has ls 2 [(1, .int (nI j1)), (0, .ref (x 0))] := by assumption
          refine lv_ifnonnullN hx hb dX9_beginCopies_25 ?_
          refine lv_aload_n hx hb dX9_beginCopies_28 rfl (lv_at hl 1 rfl) ?_
          refine lv_aload_n hx hb dX9_beginCopies_29 rfl (lv_at hl 1 rfl) ?_
          refine va_get (D := D) (ci := 9) (v := .ref (x 6)) (C := RX9) (T := TX9) (N := 19) hx hb hts iX9_beginCopies_9 hown hK hP 0 rfl rfl 4 (by decide) (hts (.fieldLink RX9 41 "FondsRoom" "copyists" "LFondsRoom$Staff;") (by decide +kernel)) (fun _ h9 => h9) rfl dX9_beginCopies_30 ?_
          refine va_get (D := D) (ci := 7) (v := .ref (x 7)) (C := RX7) (T := TX7) (N := 2) hx hb hts iX9_beginCopies_7 hown hK hP 6 rfl rfl 0 (by decide) (hts (.fieldLink RX9 216 "FondsRoom$Staff" "workers" "[LFondsRoom$Worker;") (by decide +kernel)) (fun _ h9 => h9) rfl dX9_beginCopies_33 ?_
          refine lv_iload_n hx hb dX9_beginCopies_36 rfl (lv_at hl 0 rfl) ?_
          refine va_aldq hx hb hK hP 7 5 rfl rfl (vp_in_nI (by omega) (by omega)) dX9_beginCopies_37 ?_
          obtain ⟨p12, ep12, mp12, kp12⟩ := hG.2.2.2.2 j1 (by omega)
          refine lv_tov (v' := .ref p12) (by rw [nI_clamp (by omega)]; show va_rf (g 4 j1) = _; rw [ep12]; rfl) ?_
          refine gvV (As := [.ref p12]) (rest := []) ⟨hx, hb, hml, hown, hts⟩ (zX9_beginCopy l D x cy g L K hG N3 n4 a5 r6 f7 ⟨hNB, hRB, hHT⟩ _ p12  ⟨mp12, kp12⟩) (cwV 1 hts gX9_beginCopies_X9_beginCopy rfl rfl rfl (by decide +kernel) ⟨Nat.le_of_ble_eq_true rfl, Nat.le_of_ble_eq_true rfl⟩) hK hP hD hS hA (va_recv hK hP (ci := 9) (q0 := 0) rfl rfl) rfl hl.1 rfl (Nat.le_of_ble_eq_true rfl) dX9_beginCopies_38 ⟨Nat.le_of_ble_eq_true rfl, Nat.le_of_ble_eq_true rfl⟩ (fun u14 H locs hq13 hP hD hS => ?_)
          obtain ⟨N15, n16, a17, r18, f19⟩ := u14
          obtain ⟨⟨hNB, hRB, hHT⟩, hs20, hv21, hq13b⟩ := hq13
          have hSM : SM N N15 n n16 := SM_tr hSM hs20
          have hMM : MM N N15 a a17 := MM_tr hMM hv21
          have hP : va_P D vwCl (XW x cy g N15 n16 a17 r18 ++ va_pl L f19) H := hP
          have hD : va_D _ (XW x cy g N15 n16 a17 r18 ++ va_pl L f19) := hD
          refine lv_iinc (v := nI (j1 + 1)) (lv' := [(1, .int (nI (j1 + 1))), (0, .ref (x 0))]) hx hb dX9_beginCopies_41 hl (k := 0) rfl (by rw [← nI_1]; rfl) (by decide) rfl (fun ls hl => ?_)
          refine lv_goto (tgt := 2) hx hb dX9_beginCopies_44 (by decide) ?_
          have nb0 : N15 0 ≤ 12 := hNB 0 (by decide)
          have nb1 : N15 1 ≤ 40 := hNB 1 (by decide)
          have nb2 : N15 2 ≤ 20 := hNB 2 (by decide)
          have nb3 : N15 3 ≤ 4 := hNB 3 (by decide)
          have nb4 : N15 4 ≤ 3 := hNB 4 (by decide)
          have nb5 : N15 5 ≤ 20 := hNB 5 (by decide)
          have nb6 : N15 6 ≤ 20 := hNB 6 (by decide)
          have nb7 : N15 7 ≤ 20 := hNB 7 (by decide)
          have nb8 : N15 8 ≤ 30 := hNB 8 (by decide)
          have nb9 : N15 9 ≤ 400 := hNB 9 (by decide)
          exact ihkey2 (400 - ((j1 + 1))) (by omega) ((j1 + 1)) rfl (by omega) N15 n16 a17 r18 f19  hNB hRB hHT hSM hMM _ _ _ hP hD hS (lv_sub hl [0, 1] rfl)
        · skip
          subst eb11
          have mb11 := sb_o10 b11 rfl
          have hP : va_P D vwCl (XW x cy g N3 n4 a5 r6 ++ va_pl L f7) H := by assumption
          have hD : va_D (va_A (XW x cy g N n a r ++ va_pl L f) s.heap.size) (XW x cy g N3 n4 a5 r6 ++ va_pl L f7) := by assumption
          have hl : lv_has ls 2 [(1, .int (nI j1)), (0, .ref (x 0))] := by assumption
          refine lv_ifnonnull (tgt := 41) hx hb dX9_beginCopies_25 (by decide) ?_
          refine lv_iinc (v := nI (j1 + 1)) (lv' := [(1, .int (nI (j1 + 1))), (0, .ref (x 0))]) hx hb dX9_beginCopies_41 hl (k := 0) rfl (by rw [← nI_1]; rfl) (by decide) rfl (fun ls hl => ?_)
          refine lv_goto (tgt := 2) hx hb dX9_beginCopies_44 (by decide) ?_
          exact ihkey2 (400 - ((j1 + 1))) (by omega) ((j1 + 1)) rfl (by omega) N3 n4 a5 r6 f7  hNB hRB hHT hSM hMM _ _ _ hP hD hS (lv_sub hl [0, 1] rfl)
  have nb0 : N 0 ≤ 12 := hNB 0 (by decide)
  have nb1 : N 1 ≤ 40 := hNB 1 (by decide)
  have nb2 : N 2 ≤ 20 := hNB 2 (by decide)
  have nb3 : N 3 ≤ 4 := hNB 3 (by decide)
  have nb4 : N 4 ≤ 3 := hNB 4 (by decide)
  have nb5 : N 5 ≤ 20 := hNB 5 (by decide)
  have nb6 : N 6 ≤ 20 := hNB 6 (by decide)
  have nb7 : N 7 ≤ 20 := hNB 7 (by decide)
  have nb8 : N 8 ≤ 30 := hNB 8 (by decide)
  have nb9 : N 9 ≤ 400 := hNB 9 (by decide)
  exact key2 (400 - (0)) (0) rfl (by omega) N n a r f  hNB hRB hHT hSM hMM _ _ _ hP hD hS (lv_sub hl [0, 1] rfl)

theorem iX9_countWaiting_6 : ∀ w ∈ wsX60, w ∈ wsX9_countWaiting := fun _ h => List.mem_cons_of_mem _ (List.mem_append_right _ h)
theorem iX9_countWaiting_9 : ∀ w ∈ wsX90, w ∈ wsX9_countWaiting := fun _ h => List.mem_cons_of_mem _ (List.mem_append_left _ (List.mem_append_right _ h))
set_option maxHeartbeats 4000000 in
set_option maxRecDepth 100000 in
theorem zX9_countWaiting (l : Launch) (D : va_G) (x : Nat → Nat) (cy : Nat → ClassId) (g : Nat → Nat → Option Nat) (L : List Nat) (K : Nat → Nat) (hG : GO L K g) (N : Nat → Nat) (n : Nat → Int32) (a : Nat → Nat → Int32) (r : Nat → Nat → Option Nat) (f : Nat → va_E) (hC : CI L K cy N r f) (sz : Nat) : Met l yX9_countWaiting wsX9_countWaiting ({ frames := 0, cells := 0, slots := 0, locals := 0 }) (PW D (TYS cy) (XW x cy g N n a r ++ va_pl L f) sz [.ref (x 0)]) (va_Qv (fun (u : ST) => CI L K cy u.1 u.2.2.2.1 u.2.2.2.2 ∧ SM N u.1 n u.2.1 ∧ MM N u.1 a u.2.2.1 ∧ True) (BU D (TYS cy) (XW x cy g N n a r ++ va_pl L f) (WC x cy g L) sz) (va_A (XW x cy g N n a r ++ va_pl L f) sz)) 0 0 (va_A (XW x cy g N n a r ++ va_pl L f) sz) := by
  refine Met.ofW (cc := cX9_countWaiting) (maxL := 3) (ret := none) (by decide) rfl ?_
  intro p e s m args below meth c s₁ B hml hv
  obtain ⟨rfl, hsz, hP, hK, hD0⟩ := hv
  have hx := B.exec
  have hb := B.bytes
  have hr := B.returns
  have hts := atoms_spec (ws := wsX9_countWaiting) B.pre
  have hown : s.vm.findClass RX9 = some m.cls := findClass_of_methodNamed B.named
  have hlocks := B.notSynchronized
  subst hsz
  obtain ⟨hNB, hRB, hHT⟩ := hC
  have hSM : SM N N n n := SM_rf
  have hMM : MM N N a a := MM_rf
  have hD := hD0.self (sz := s.heap.size)
  have hA : ∀ q9 : Nat, s.heap.size ≤ q9 → va_A (XW x cy g N n a r ++ va_pl L f) s.heap.size q9 := fun q9 h => Or.inr h
  have hS : va_S (va_A (XW x cy g N n a r ++ va_pl L f) s.heap.size) s.heap s.heap [] := va_S.rf
  have hl := lv_entry ([.ref (x 0)]) (n := 3) (Nat.le_of_ble_eq_true rfl)
  rw [lg_entry_eq]
  generalize (lg_sl ([.ref (x 0)]) ++ List.replicate (3 - (lg_sl ([.ref (x 0)])).length) Slot.unset).toArray = ls at hl ⊢
  have hl : lv_has ls 3 [(0, .ref (x 0))] := hl
  refine lv_iconst (v := 0) hx hb dX9_countWaiting_0 (by decide) ?_
  refine lv_istore_n (lv' := [(1, .int 0), (0, .ref (x 0))]) hx hb dX9_countWaiting_1 rfl hl (by decide) rfl (fun ls hl => ?_)
  have key2 : ∀ (m9 j1 : Nat), 400 - j1 = m9 → j1 ≤ 400 → ∀ (N3 : Nat → Nat) (n4 : Nat → Int32) (a5 : Nat → Nat → Int32) (r6 : Nat → Nat → Option Nat) (f7 : Nat → va_E) , NB N3 → RB L K N3 r6 → HT L K cy f7 → SM N N3 n n4 → MM N N3 a a5 → ∀ (H : Heap) (locs : List Loc) (ls : Array Slot), va_P D vwCl (XW x cy g N3 n4 a5 r6 ++ va_pl L f7) H → va_D (va_A (XW x cy g N n a r ++ va_pl L f) s.heap.size) (XW x cy g N3 n4 a5 r6 ++ va_pl L f7) → va_S (va_A (XW x cy g N n a r ++ va_pl L f) s.heap.size) s.heap H locs → lv_has ls 3 [(1, .int (nI j1)), (0, .ref (x 0))] → W p l e (headSpec wsX9_countWaiting ({ frames := 0, cells := 0, slots := 0, locals := 0 })).room s m #[.ref (x 0)] below meth c H locs 0 0 (MQ below (va_Qv (fun (u : ST) => CI L K cy u.1 u.2.2.2.1 u.2.2.2.2 ∧ SM N u.1 n u.2.1 ∧ MM N u.1 a u.2.2.1 ∧ True) (BU D (TYS cy) (XW x cy g N n a r ++ va_pl L f) (WC x cy g L) s.heap.size) (va_A (XW x cy g N n a r ++ va_pl L f) s.heap.size)) #[.ref (x 0)] s 0 0 (va_A (XW x cy g N n a r ++ va_pl L f) s.heap.size)) (F0 m 2 ls []) := by
    intro m9
    induction m9 using Nat.strongRecOn with
    | _ m9 ihkey2 =>
      intro j1 hm9 hj400 N3 n4 a5 r6 f7  hNB hRB hHT hSM hMM H locs ls hP hD hS hl
      subst hm9
      have nb0 : N3 0 ≤ 12 := hNB 0 (by decide)
      have nb1 : N3 1 ≤ 40 := hNB 1 (by decide)
      have nb2 : N3 2 ≤ 20 := hNB 2 (by decide)
      have nb3 : N3 3 ≤ 4 := hNB 3 (by decide)
      have nb4 : N3 4 ≤ 3 := hNB 4 (by decide)
      have nb5 : N3 5 ≤ 20 := hNB 5 (by decide)
      have nb6 : N3 6 ≤ 20 := hNB 6 (by decide)
      have nb7 : N3 7 ≤ 20 := hNB 7 (by decide)
      have nb8 : N3 8 ≤ 30 := hNB 8 (by decide)
      have nb9 : N3 9 ≤ 400 := hNB 9 (by decide)
      refine lv_iload_n hx hb dX9_countWaiting_2 rfl (lv_at hl 0 rfl) ?_
      refine lv_aload_n hx hb dX9_countWaiting_3 rfl (lv_at hl 1 rfl) ?_
      refine va_get (D := D) (ci := 9) (v := .int (nI (N3 2))) (C := RX9) (T := TX9) (N := 19) hx hb hts iX9_countWaiting_9 hown hK hP 0 rfl rfl 12 (by decide) (hts (.fieldLink RX9 104 "FondsRoom" "readerCount" "I") (by decide +kernel)) (fun _ h9 => h9) rfl dX9_countWaiting_4 ?_
      refine lv_icmp_ge (tgt := 97) hx hb dX9_countWaiting_7 (by decide) (fun c8 => ?_) (fun c8 => ?_)
      · skip
        have dc8 : (N3 2) ≤ j1 := (nI_leI (a := (N3 2)) (b := j1) (by omega) (by omega)).mp c8
        exact W.vret hx hb hr (fun t ht hW => ⟨⟨(N3, n4, a5, r6, f7), rfl, ⟨⟨hNB, hRB, hHT⟩, hSM, hMM, trivial⟩, by rw [ht]; exact hP, va_K.moved hW.alike hK, hD⟩, hS.F ht⟩) hS.2.2 dX9_countWaiting_97
      · skip
        have dc8 : j1 < (N3 2) := Nat.not_le.mp (fun h9 => c8 ((nI_leI (a := (N3 2)) (b := j1) (by omega) (by omega)).mpr h9))
        refine lv_aload_n hx hb dX9_countWaiting_10 rfl (lv_at hl 1 rfl) ?_
        refine va_get (D := D) (ci := 9) (v := .ref (x 3)) (C := RX9) (T := TX9) (N := 19) hx hb hts iX9_countWaiting_9 hown hK hP 0 rfl rfl 2 (by decide) (hts (.fieldLink RX9 27 "FondsRoom" "readers" "[LFondsRoom$Reader;") (by decide +kernel)) (fun _ h9 => h9) rfl dX9_countWaiting_11 ?_
        refine lv_iload_n hx hb dX9_countWaiting_14 rfl (lv_at hl 0 rfl) ?_
        refine va_aldq hx hb hK hP 3 4 rfl rfl (vp_in_nI (by omega) (by omega)) dX9_countWaiting_15 ?_
        obtain ⟨p9, ep9, mp9, kp9⟩ := hG.2.2.1 j1 (by omega)
        refine lv_tov (v' := .ref p9) (by rw [nI_clamp (by omega)]; show va_rf (g 2 j1) = _; rw [ep9]; rfl) ?_
        refine lv_astore_n (lv' := [(2, .ref p9), (1, .int (nI j1)), (0, .ref (x 0))]) hx hb dX9_countWaiting_16 rfl hl (by decide) rfl (fun ls hl => ?_)
        refine lv_aload_n hx hb dX9_countWaiting_17 rfl (lv_at hl 0 rfl) ?_
        obtain ⟨n_o10, p_o10, ar_o10, rk_o10, nw_o10, st_o10, ct_o10, d_o10, aw_o10, rl_o10, cp_o10, cu_o10, w1_o10, w2_o10, w3_o10, ov_o10, co_o10, hf_o10, sp_o10, snw_o10, sd_o10, saw_o10, scu_o10⟩ : TE L K cy 6 (f7 p9) := by rw [← kp9]; exact hHT p9 mp9
        refine pg_get (D := D) (ci := 6) (v := .int st_o10) (C := RX6) (T := TX6) (N := 17) hx hb hts iX9_countWaiting_6 hown hK hP mp9 hf_o10 rfl 5 (by decide) (hts (.fieldLink RX9 270 "FondsRoom$Reader" "state" "I") (by decide +kernel)) (fun _ h9 => h9) rfl dX9_countWaiting_18 ?_
        by_cases j11 : st_o10 = 1
        · skip
          refine lv_tableIn (tgt := 52) hx hb dX9_countWaiting_21 (by rw [j11]; decide) (by rw [j11]; decide) (by rw [j11]; rfl) (by decide) ?_
          refine lv_aload_n hx hb dX9_countWaiting_52 rfl (lv_at hl 0 rfl) ?_
          refine lv_dup hx hb dX9_countWaiting_53 rfl ?_
          refine pg_get (D := D) (ci := 6) (v := .int w1_o10) (C := RX6) (T := TX6) (N := 17) hx hb hts iX9_countWaiting_6 hown hK hP mp9 hf_o10 rfl 12 (by decide) (hts (.fieldLink RX9 421 "FondsRoom$Reader" "waitedDesk" "I") (by decide +kernel)) (fun _ h9 => h9) rfl dX9_countWaiting_54 ?_
          refine lv_iconst (v := 1) hx hb dX9_countWaiting_57 (by decide) ?_
          refine lv_iadd hx hb dX9_countWaiting_58 ?_
          refine pg_put (D := D) (ci := 6) (v := .int (w1_o10 + 1)) (ty := .int) (C := RX6) (T := TX6) (N := 17) hx hb hts iX9_countWaiting_6 tyX6 tyX6_ok nmX6 hown hK hP hD hS mp9 hf_o10 rfl 12 (by decide) (hts (.fieldLink RX9 421 "FondsRoom$Reader" "waitedDesk" "I") (by decide +kernel)) (fun _ h9 => h9) rfl (by decide +kernel) rfl rfl (Nat.le_of_ble_eq_true rfl) dX9_countWaiting_59 (fun H locs hP hD hS => ?_)
          obtain ⟨f12, ef12⟩ : ∃ z, z = va_up f7 p9 (.inr (6, [.int n_o10, .ref p_o10, .int ar_o10, .int rk_o10, .int nw_o10, .int st_o10, .int ct_o10, va_rf d_o10, va_rf aw_o10, .int rl_o10, .int cp_o10, .int cu_o10, .int (w1_o10 + 1), .int w2_o10, .int w3_o10, .int ov_o10, .int co_o10])) := ⟨_, rfl⟩
          have hP : va_P D vwCl (XW x cy g N3 n4 a5 r6 ++ va_pl L f12) H := by rw [ef12]; exact hP
          have hD : va_D (va_A (XW x cy g N n a r ++ va_pl L f) s.heap.size) (XW x cy g N3 n4 a5 r6 ++ va_pl L f12) := by rw [ef12]; exact hD
          have hHT : HT L K cy f12 := by rw [ef12]; exact HT_up hHT 6 kp9 ⟨n_o10, p_o10, ar_o10, rk_o10, nw_o10, st_o10, ct_o10, d_o10, aw_o10, rl_o10, cp_o10, cu_o10, (w1_o10 + 1), w2_o10, w3_o10, ov_o10, co_o10, rfl, ⟨sp_o10.1, sp_o10.2⟩, snw_o10, sd_o10, saw_o10, scu_o10⟩
          have hf13 : f12 p9 = .inr (6, [.int n_o10, .ref p_o10, .int ar_o10, .int rk_o10, .int nw_o10, .int st_o10, .int ct_o10, va_rf d_o10, va_rf aw_o10, .int rl_o10, .int cp_o10, .int cu_o10, .int (w1_o10 + 1), .int w2_o10, .int w3_o10, .int ov_o10, .int co_o10]) := by rw [ef12]; exact va_up_self _ _ _
          refine lv_goto (tgt := 91) hx hb dX9_countWaiting_62 (by decide) ?_
          refine lv_iinc (v := nI (j1 + 1)) (lv' := [(1, .int (nI (j1 + 1))), (2, .ref p9), (0, .ref (x 0))]) hx hb dX9_countWaiting_91 hl (k := 1) rfl (by rw [← nI_1]; rfl) (by decide) rfl (fun ls hl => ?_)
          refine lv_goto (tgt := 2) hx hb dX9_countWaiting_94 (by decide) ?_
          exact ihkey2 (400 - ((j1 + 1))) (by omega) ((j1 + 1)) rfl (by omega) N3 n4 a5 r6 f12  hNB hRB hHT hSM hMM _ _ _ hP hD hS (lv_sub hl [0, 2] rfl)
        by_cases j14 : st_o10 = 2
        · skip
          refine lv_tableIn (tgt := 65) hx hb dX9_countWaiting_21 (by rw [j14]; decide) (by rw [j14]; decide) (by rw [j14]; rfl) (by decide) ?_
          refine lv_aload_n hx hb dX9_countWaiting_65 rfl (lv_at hl 0 rfl) ?_
          refine lv_dup hx hb dX9_countWaiting_66 rfl ?_
          refine pg_get (D := D) (ci := 6) (v := .int w2_o10) (C := RX6) (T := TX6) (N := 17) hx hb hts iX9_countWaiting_6 hown hK hP mp9 hf_o10 rfl 13 (by decide) (hts (.fieldLink RX9 424 "FondsRoom$Reader" "waitedBox" "I") (by decide +kernel)) (fun _ h9 => h9) rfl dX9_countWaiting_67 ?_
          refine lv_iconst (v := 1) hx hb dX9_countWaiting_70 (by decide) ?_
          refine lv_iadd hx hb dX9_countWaiting_71 ?_
          refine pg_put (D := D) (ci := 6) (v := .int (w2_o10 + 1)) (ty := .int) (C := RX6) (T := TX6) (N := 17) hx hb hts iX9_countWaiting_6 tyX6 tyX6_ok nmX6 hown hK hP hD hS mp9 hf_o10 rfl 13 (by decide) (hts (.fieldLink RX9 424 "FondsRoom$Reader" "waitedBox" "I") (by decide +kernel)) (fun _ h9 => h9) rfl (by decide +kernel) rfl rfl (Nat.le_of_ble_eq_true rfl) dX9_countWaiting_72 (fun H locs hP hD hS => ?_)
          obtain ⟨f15, ef15⟩ : ∃ z, z = va_up f7 p9 (.inr (6, [.int n_o10, .ref p_o10, .int ar_o10, .int rk_o10, .int nw_o10, .int st_o10, .int ct_o10, va_rf d_o10, va_rf aw_o10, .int rl_o10, .int cp_o10, .int cu_o10, .int w1_o10, .int (w2_o10 + 1), .int w3_o10, .int ov_o10, .int co_o10])) := ⟨_, rfl⟩
          have hP : va_P D vwCl (XW x cy g N3 n4 a5 r6 ++ va_pl L f15) H := by rw [ef15]; exact hP
          have hD : va_D (va_A (XW x cy g N n a r ++ va_pl L f) s.heap.size) (XW x cy g N3 n4 a5 r6 ++ va_pl L f15) := by rw [ef15]; exact hD
          have hHT : HT L K cy f15 := by rw [ef15]; exact HT_up hHT 6 kp9 ⟨n_o10, p_o10, ar_o10, rk_o10, nw_o10, st_o10, ct_o10, d_o10, aw_o10, rl_o10, cp_o10, cu_o10, w1_o10, (w2_o10 + 1), w3_o10, ov_o10, co_o10, rfl, ⟨sp_o10.1, sp_o10.2⟩, snw_o10, sd_o10, saw_o10, scu_o10⟩
          have hf16 : f15 p9 = .inr (6, [.int n_o10, .ref p_o10, .int ar_o10, .int rk_o10, .int nw_o10, .int st_o10, .int ct_o10, va_rf d_o10, va_rf aw_o10, .int rl_o10, .int cp_o10, .int cu_o10, .int w1_o10, .int (w2_o10 + 1), .int w3_o10, .int ov_o10, .int co_o10]) := by rw [ef15]; exact va_up_self _ _ _
          refine lv_goto (tgt := 91) hx hb dX9_countWaiting_75 (by decide) ?_
          refine lv_iinc (v := nI (j1 + 1)) (lv' := [(1, .int (nI (j1 + 1))), (2, .ref p9), (0, .ref (x 0))]) hx hb dX9_countWaiting_91 hl (k := 1) rfl (by rw [← nI_1]; rfl) (by decide) rfl (fun ls hl => ?_)
          refine lv_goto (tgt := 2) hx hb dX9_countWaiting_94 (by decide) ?_
          exact ihkey2 (400 - ((j1 + 1))) (by omega) ((j1 + 1)) rfl (by omega) N3 n4 a5 r6 f15  hNB hRB hHT hSM hMM _ _ _ hP hD hS (lv_sub hl [0, 2] rfl)
        by_cases j17 : st_o10 = 3
        · skip
          refine lv_tableIn (tgt := 91) hx hb dX9_countWaiting_21 (by rw [j17]; decide) (by rw [j17]; decide) (by rw [j17]; rfl) (by decide) ?_
          refine lv_iinc (v := nI (j1 + 1)) (lv' := [(1, .int (nI (j1 + 1))), (2, .ref p9), (0, .ref (x 0))]) hx hb dX9_countWaiting_91 hl (k := 1) rfl (by rw [← nI_1]; rfl) (by decide) rfl (fun ls hl => ?_)
          refine lv_goto (tgt := 2) hx hb dX9_countWaiting_94 (by decide) ?_
          exact ihkey2 (400 - ((j1 + 1))) (by omega) ((j1 + 1)) rfl (by omega) N3 n4 a5 r6 f7  hNB hRB hHT hSM hMM _ _ _ hP hD hS (lv_sub hl [0, 2] rfl)
        by_cases j18 : st_o10 = 4
        · skip
          refine lv_tableIn (tgt := 78) hx hb dX9_countWaiting_21 (by rw [j18]; decide) (by rw [j18]; decide) (by rw [j18]; rfl) (by decide) ?_
          refine lv_aload_n hx hb dX9_countWaiting_78 rfl (lv_at hl 0 rfl) ?_
          refine lv_dup hx hb dX9_countWaiting_79 rfl ?_
          refine pg_get (D := D) (ci := 6) (v := .int w3_o10) (C := RX6) (T := TX6) (N := 17) hx hb hts iX9_countWaiting_6 hown hK hP mp9 hf_o10 rfl 14 (by decide) (hts (.fieldLink RX9 427 "FondsRoom$Reader" "waitedCopy" "I") (by decide +kernel)) (fun _ h9 => h9) rfl dX9_countWaiting_80 ?_
          refine lv_iconst (v := 1) hx hb dX9_countWaiting_83 (by decide) ?_
          refine lv_iadd hx hb dX9_countWaiting_84 ?_
          refine pg_put (D := D) (ci := 6) (v := .int (w3_o10 + 1)) (ty := .int) (C := RX6) (T := TX6) (N := 17) hx hb hts iX9_countWaiting_6 tyX6 tyX6_ok nmX6 hown hK hP hD hS mp9 hf_o10 rfl 14 (by decide) (hts (.fieldLink RX9 427 "FondsRoom$Reader" "waitedCopy" "I") (by decide +kernel)) (fun _ h9 => h9) rfl (by decide +kernel) rfl rfl (Nat.le_of_ble_eq_true rfl) dX9_countWaiting_85 (fun H locs hP hD hS => ?_)
          obtain ⟨f19, ef19⟩ : ∃ z, z = va_up f7 p9 (.inr (6, [.int n_o10, .ref p_o10, .int ar_o10, .int rk_o10, .int nw_o10, .int st_o10, .int ct_o10, va_rf d_o10, va_rf aw_o10, .int rl_o10, .int cp_o10, .int cu_o10, .int w1_o10, .int w2_o10, .int (w3_o10 + 1), .int ov_o10, .int co_o10])) := ⟨_, rfl⟩
          have hP : va_P D vwCl (XW x cy g N3 n4 a5 r6 ++ va_pl L f19) H := by rw [ef19]; exact hP
          have hD : va_D (va_A (XW x cy g N n a r ++ va_pl L f) s.heap.size) (XW x cy g N3 n4 a5 r6 ++ va_pl L f19) := by rw [ef19]; exact hD
          have hHT : HT L K cy f19 := by rw [ef19]; exact HT_up hHT 6 kp9 ⟨n_o10, p_o10, ar_o10, rk_o10, nw_o10, st_o10, ct_o10, d_o10, aw_o10, rl_o10, cp_o10, cu_o10, w1_o10, w2_o10, (w3_o10 + 1), ov_o10, co_o10, rfl, ⟨sp_o10.1, sp_o10.2⟩, snw_o10, sd_o10, saw_o10, scu_o10⟩
          have hf20 : f19 p9 = .inr (6, [.int n_o10, .ref p_o10, .int ar_o10, .int rk_o10, .int nw_o10, .int st_o10, .int ct_o10, va_rf d_o10, va_rf aw_o10, .int rl_o10, .int cp_o10, .int cu_o10, .int w1_o10, .int w2_o10, .int (w3_o10 + 1), .int ov_o10, .int co_o10]) := by rw [ef19]; exact va_up_self _ _ _
          refine lv_goto (tgt := 91) hx hb dX9_countWaiting_88 (by decide) ?_
          refine lv_iinc (v := nI (j1 + 1)) (lv' := [(1, .int (nI (j1 + 1))), (2, .ref p9), (0, .ref (x 0))]) hx hb dX9_countWaiting_91 hl (k := 1) rfl (by rw [← nI_1]; rfl) (by decide) rfl (fun ls hl => ?_)
          refine lv_goto (tgt := 2) hx hb dX9_countWaiting_94 (by decide) ?_
          exact ihkey2 (400 - ((j1 + 1))) (by omega) ((j1 + 1)) rfl (by omega) N3 n4 a5 r6 f19  hNB hRB hHT hSM hMM _ _ _ hP hD hS (lv_sub hl [0, 2] rfl)
        have zj11 : (st_o10).toInt ≠ 1 := fun h9 => j11 ((fa_eq _ _).mpr (h9.trans (by decide)))
        have zj14 : (st_o10).toInt ≠ 2 := fun h9 => j14 ((fa_eq _ _).mpr (h9.trans (by decide)))
        have zj17 : (st_o10).toInt ≠ 3 := fun h9 => j17 ((fa_eq _ _).mpr (h9.trans (by decide)))
        have zj18 : (st_o10).toInt ≠ 4 := fun h9 => j18 ((fa_eq _ _).mpr (h9.trans (by decide)))
        refine lv_tableOut (tgt := 91) hx hb dX9_countWaiting_21 (by omega) (by decide) ?_
        refine lv_iinc (v := nI (j1 + 1)) (lv' := [(1, .int (nI (j1 + 1))), (2, .ref p9), (0, .ref (x 0))]) hx hb dX9_countWaiting_91 hl (k := 1) rfl (by rw [← nI_1]; rfl) (by decide) rfl (fun ls hl => ?_)
        refine lv_goto (tgt := 2) hx hb dX9_countWaiting_94 (by decide) ?_
        exact ihkey2 (400 - ((j1 + 1))) (by omega) ((j1 + 1)) rfl (by omega) N3 n4 a5 r6 f7  hNB hRB hHT hSM hMM _ _ _ hP hD hS (lv_sub hl [0, 2] rfl)
  have nb0 : N 0 ≤ 12 := hNB 0 (by decide)
  have nb1 : N 1 ≤ 40 := hNB 1 (by decide)
  have nb2 : N 2 ≤ 20 := hNB 2 (by decide)
  have nb3 : N 3 ≤ 4 := hNB 3 (by decide)
  have nb4 : N 4 ≤ 3 := hNB 4 (by decide)
  have nb5 : N 5 ≤ 20 := hNB 5 (by decide)
  have nb6 : N 6 ≤ 20 := hNB 6 (by decide)
  have nb7 : N 7 ≤ 20 := hNB 7 (by decide)
  have nb8 : N 8 ≤ 30 := hNB 8 (by decide)
  have nb9 : N 9 ≤ 400 := hNB 9 (by decide)
  exact key2 (400 - (0)) (0) rfl (by omega) N n a r f  hNB hRB hHT hSM hMM _ _ _ hP hD hS (lv_sub hl [0, 1] rfl)
