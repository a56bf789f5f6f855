theorem iX6_awaitsAt_0 : ∀ w ∈ wsX00, w ∈ wsX6_awaitsAt := fun _ h => List.mem_cons_of_mem _ (List.mem_append_right _ h)
theorem iX6_awaitsAt_6 : ∀ w ∈ wsX60, w ∈ wsX6_awaitsAt := fun _ h => List.mem_cons_of_mem _ (List.mem_append_left _ (List.mem_append_right _ h))
set_option maxHeartbeats 4000000 in
set_option maxRecDepth 100000 in
theorem zX6_awaitsAt (l : Launch) (D : va_G) (x : Nat → Nat) (cy : Nat → ClassId) (g : Nat → Nat → Option Nat) (L : List Nat) (K : Nat → Nat) (hG : GO L K g) (N : Nat → Nat) (n : Nat → Int32) (a : Nat → Nat → Int32) (r : Nat → Nat → Option Nat) (f : Nat → va_E) (hC : CI L K cy N r f) (sz : Nat) (me : Nat) (v : Int32) (mme : me ∈ L ∧ K me = 6) : Met l yX6_awaitsAt wsX6_awaitsAt ({ frames := 0, cells := 0, slots := 0, locals := 0 }) (PW D (TYS cy) (XW x cy g N n a r ++ va_pl L f) sz [.ref me, .int v]) (va_Qi (fun (res : Int32) (u : Unit) => b01 res) (BU D (TYS cy) (XW x cy g N n a r ++ va_pl L f) (fun _ => XW x cy g N n a r ++ va_pl L f) sz) (va_A (XW x cy g N n a r ++ va_pl L f) sz)) 0 0 (va_A (XW x cy g N n a r ++ va_pl L f) sz) := by
  refine Met.ofW (cc := cX6_awaitsAt) (maxL := 2) (ret := (some .boolean)) (by decide) rfl ?_
  intro p e s m args below meth c s₁ B hml hv
  obtain ⟨rfl, hsz, hP, hK, hD0⟩ := hv
  have hx := B.exec
  have hb := B.bytes
  have hr := B.returns
  have hts := atoms_spec (ws := wsX6_awaitsAt) B.pre
  have hown : s.vm.findClass RX6 = some m.cls := findClass_of_methodNamed B.named
  have hlocks := B.notSynchronized
  subst hsz
  obtain ⟨hNB, hRB, hHT⟩ := hC
  have hSM : SM N N n n := SM_rf
  have hMM : MM N N a a := MM_rf
  have hD := hD0.self (sz := s.heap.size)
  have hA : ∀ q9 : Nat, s.heap.size ≤ q9 → va_A (XW x cy g N n a r ++ va_pl L f) s.heap.size q9 := fun q9 h => Or.inr h
  have hS : va_S (va_A (XW x cy g N n a r ++ va_pl L f) s.heap.size) s.heap s.heap [] := va_S.rf
  have hl := lv_entry ([.ref me, .int v]) (n := 2) (Nat.le_of_ble_eq_true rfl)
  rw [lg_entry_eq]
  generalize (lg_sl ([.ref me, .int v]) ++ List.replicate (2 - (lg_sl ([.ref me, .int v])).length) Slot.unset).toArray = ls at hl ⊢
  have hl : lv_has ls 2 [(0, .ref me), (1, .int v)] := hl
  refine lv_aload_n hx hb dX6_awaitsAt_0 rfl (lv_at hl 0 rfl) ?_
  obtain ⟨n_o1, p_o1, ar_o1, rk_o1, nw_o1, st_o1, ct_o1, d_o1, aw_o1, rl_o1, cp_o1, cu_o1, w1_o1, w2_o1, w3_o1, ov_o1, co_o1, hf_o1, sp_o1, snw_o1, sd_o1, saw_o1, scu_o1⟩ : TE L K cy 6 (f me) := by rw [← mme.2]; exact hHT me mme.1
  refine pg_get (D := D) (ci := 6) (v := va_rf aw_o1) (C := RX6) (T := TX6) (N := 17) hx hb hts iX6_awaitsAt_6 hown hK hP mme.1 hf_o1 rfl 8 (by decide) (hts (.fieldLink RX6 20 "FondsRoom$Reader" "awaited" "LFondsRoom$Box;") (by decide +kernel)) (fun _ h9 => h9) rfl dX6_awaitsAt_1 ?_
  rcases eb2 : aw_o1 with _ | b2
  · skip
    subst eb2
    have hP : va_P D vwCl (XW x cy g N n a r ++ va_pl L f) s.heap := by assumption
    have hD : va_D (va_A (XW x cy g N n a r ++ va_pl L f) s.heap.size) (XW x cy g N n a r ++ va_pl L f) := by assumption
    have hl : lv_has ls 2 [(0, .ref me), (1, .int v)] := by assumption
    refine lv_ifnullN (tgt := 22) hx hb dX6_awaitsAt_4 (by decide) ?_
    refine lv_iconst (v := 0) hx hb dX6_awaitsAt_22 (by decide) ?_
    exact W.zret (v := 0) hx hb hr (rfl) (fun t ht hW => ⟨⟨0, (), rfl, Or.inl rfl, by rw [ht]; exact hP, va_K.moved hW.alike hK, hD⟩, hS.F ht⟩) hS.2.2 dX6_awaitsAt_23
  · skip
    subst eb2
    have mb2 := saw_o1 b2 rfl
    have hP : va_P D vwCl (XW x cy g N n a r ++ va_pl L f) s.heap := by assumption
    have hD : va_D (va_A (XW x cy g N n a r ++ va_pl L f) s.heap.size) (XW x cy g N n a r ++ va_pl L f) := by assumption
    have hl : lv_has ls 2 [(0, .ref me), (1, .int v)] := by assumption
    refine lv_ifnull hx hb dX6_awaitsAt_4 ?_
    refine lv_aload_n hx hb dX6_awaitsAt_7 rfl (lv_at hl 0 rfl) ?_
    refine pg_get (D := D) (ci := 6) (v := .ref b2) (C := RX6) (T := TX6) (N := 17) hx hb hts iX6_awaitsAt_6 hown hK hP mme.1 hf_o1 rfl 8 (by decide) (hts (.fieldLink RX6 20 "FondsRoom$Reader" "awaited" "LFondsRoom$Box;") (by decide +kernel)) (fun _ h9 => h9) rfl dX6_awaitsAt_8 ?_
    obtain ⟨n_o3, fo_o3, pr_o3, pl_o3, h_o3, w_o3, hf_o3, spr_o3, sh_o3, sw_o3⟩ : TE L K cy 0 (f b2) := by rw [← mb2.2]; exact hHT b2 mb2.1
    refine pg_get (D := D) (ci := 0) (v := .int pl_o3) (C := RX0) (T := TX0) (N := 6) hx hb hts iX6_awaitsAt_0 hown hK hP mb2.1 hf_o3 rfl 3 (by decide) (hts (.fieldLink RX6 24 "FondsRoom$Box" "place" "I") (by decide +kernel)) (fun _ h9 => h9) rfl dX6_awaitsAt_11 ?_
    refine lv_iload_n hx hb dX6_awaitsAt_14 rfl (lv_at hl 1 rfl) ?_
    refine lv_icmp_ne (tgt := 22) hx hb dX6_awaitsAt_15 (by decide) (fun c4 => ?_) (fun c4 => ?_)
    · skip
      refine lv_iconst (v := 0) hx hb dX6_awaitsAt_22 (by decide) ?_
      exact W.zret (v := 0) hx hb hr (rfl) (fun t ht hW => ⟨⟨0, (), rfl, Or.inl rfl, by rw [ht]; exact hP, va_K.moved hW.alike hK, hD⟩, hS.F ht⟩) hS.2.2 dX6_awaitsAt_23
    · skip
      refine lv_iconst (v := 1) hx hb dX6_awaitsAt_18 (by decide) ?_
      refine lv_goto (tgt := 23) hx hb dX6_awaitsAt_19 (by decide) ?_
      exact W.zret (v := 1) hx hb hr (rfl) (fun t ht hW => ⟨⟨1, (), rfl, Or.inr rfl, by rw [ht]; exact hP, va_K.moved hW.alike hK, hD⟩, hS.F ht⟩) hS.2.2 dX6_awaitsAt_23

theorem iX6_cameBehind_6 : ∀ w ∈ wsX60, w ∈ wsX6_cameBehind := fun _ h => List.mem_cons_of_mem _ (List.mem_append_right _ h)
set_option maxHeartbeats 4000000 in
set_option maxRecDepth 100000 in
theorem zX6_cameBehind (l : Launch) (D : va_G) (x : Nat → Nat) (cy : Nat → ClassId) (g : Nat → Nat → Option Nat) (L : List Nat) (K : Nat → Nat) (hG : GO L K g) (N : Nat → Nat) (n : Nat → Int32) (a : Nat → Nat → Int32) (r : Nat → Nat → Option Nat) (f : Nat → va_E) (hC : CI L K cy N r f) (sz : Nat) (rd me : Nat) (mrd : rd ∈ L ∧ K rd = 6) (mme : me ∈ L ∧ K me = 6) : Met l yX6_cameBehind wsX6_cameBehind ({ frames := 0, cells := 0, slots := 0, locals := 0 }) (PW D (TYS cy) (XW x cy g N n a r ++ va_pl L f) sz [.ref me, .ref rd]) (va_Qi (fun (res : Int32) (u : Unit) => b01 res) (BU D (TYS cy) (XW x cy g N n a r ++ va_pl L f) (fun _ => XW x cy g N n a r ++ va_pl L f) sz) (va_A (XW x cy g N n a r ++ va_pl L f) sz)) 0 0 (va_A (XW x cy g N n a r ++ va_pl L f) sz) := by
  refine Met.ofW (cc := cX6_cameBehind) (maxL := 2) (ret := (some .boolean)) (by decide) rfl ?_
  intro p e s m args below meth c s₁ B hml hv
  obtain ⟨rfl, hsz, hP, hK, hD0⟩ := hv
  have hx := B.exec
  have hb := B.bytes
  have hr := B.returns
  have hts := atoms_spec (ws := wsX6_cameBehind) B.pre
  have hown : s.vm.findClass RX6 = some m.cls := findClass_of_methodNamed B.named
  have hlocks := B.notSynchronized
  subst hsz
  obtain ⟨hNB, hRB, hHT⟩ := hC
  have hSM : SM N N n n := SM_rf
  have hMM : MM N N a a := MM_rf
  have hD := hD0.self (sz := s.heap.size)
  have hA : ∀ q9 : Nat, s.heap.size ≤ q9 → va_A (XW x cy g N n a r ++ va_pl L f) s.heap.size q9 := fun q9 h => Or.inr h
  have hS : va_S (va_A (XW x cy g N n a r ++ va_pl L f) s.heap.size) s.heap s.heap [] := va_S.rf
  have hl := lv_entry ([.ref me, .ref rd]) (n := 2) (Nat.le_of_ble_eq_true rfl)
  rw [lg_entry_eq]
  generalize (lg_sl ([.ref me, .ref rd]) ++ List.replicate (2 - (lg_sl ([.ref me, .ref rd])).length) Slot.unset).toArray = ls at hl ⊢
  have hl : lv_has ls 2 [(0, .ref me), (1, .ref rd)] := hl
  refine lv_aload_n hx hb dX6_cameBehind_0 rfl (lv_at hl 0 rfl) ?_
  obtain ⟨n_o1, p_o1, ar_o1, rk_o1, nw_o1, st_o1, ct_o1, d_o1, aw_o1, rl_o1, cp_o1, cu_o1, w1_o1, w2_o1, w3_o1, ov_o1, co_o1, hf_o1, sp_o1, snw_o1, sd_o1, saw_o1, scu_o1⟩ : TE L K cy 6 (f me) := by rw [← mme.2]; exact hHT me mme.1
  refine pg_get (D := D) (ci := 6) (v := .int ct_o1) (C := RX6) (T := TX6) (N := 17) hx hb hts iX6_cameBehind_6 hown hK hP mme.1 hf_o1 rfl 6 (by decide) (hts (.fieldLink RX6 29 "FondsRoom$Reader" "cameTurn" "I") (by decide +kernel)) (fun _ h9 => h9) rfl dX6_cameBehind_1 ?_
  refine lv_aload_n hx hb dX6_cameBehind_4 rfl (lv_at hl 1 rfl) ?_
  obtain ⟨n_o2, p_o2, ar_o2, rk_o2, nw_o2, st_o2, ct_o2, d_o2, aw_o2, rl_o2, cp_o2, cu_o2, w1_o2, w2_o2, w3_o2, ov_o2, co_o2, hf_o2, sp_o2, snw_o2, sd_o2, saw_o2, scu_o2⟩ : TE L K cy 6 (f rd) := by rw [← mrd.2]; exact hHT rd mrd.1
  refine pg_get (D := D) (ci := 6) (v := .int ct_o2) (C := RX6) (T := TX6) (N := 17) hx hb hts iX6_cameBehind_6 hown hK hP mrd.1 hf_o2 rfl 6 (by decide) (hts (.fieldLink RX6 29 "FondsRoom$Reader" "cameTurn" "I") (by decide +kernel)) (fun _ h9 => h9) rfl dX6_cameBehind_5 ?_
  refine lv_icmp_gt (tgt := 33) hx hb dX6_cameBehind_8 (by decide) (fun c3 => ?_) (fun c3 => ?_)
  · skip
    refine lv_iconst (v := 1) hx hb dX6_cameBehind_33 (by decide) ?_
    refine lv_goto (tgt := 38) hx hb dX6_cameBehind_34 (by decide) ?_
    exact W.zret (v := 1) hx hb hr (rfl) (fun t ht hW => ⟨⟨1, (), rfl, Or.inr rfl, by rw [ht]; exact hP, va_K.moved hW.alike hK, hD⟩, hS.F ht⟩) hS.2.2 dX6_cameBehind_38
  · skip
    refine lv_aload_n hx hb dX6_cameBehind_11 rfl (lv_at hl 0 rfl) ?_
    refine pg_get (D := D) (ci := 6) (v := .int ct_o1) (C := RX6) (T := TX6) (N := 17) hx hb hts iX6_cameBehind_6 hown hK hP mme.1 hf_o1 rfl 6 (by decide) (hts (.fieldLink RX6 29 "FondsRoom$Reader" "cameTurn" "I") (by decide +kernel)) (fun _ h9 => h9) rfl dX6_cameBehind_12 ?_
    refine lv_aload_n hx hb dX6_cameBehind_15 rfl (lv_at hl 1 rfl) ?_
    refine pg_get (D := D) (ci := 6) (v := .int ct_o2) (C := RX6) (T := TX6) (N := 17) hx hb hts iX6_cameBehind_6 hown hK hP mrd.1 hf_o2 rfl 6 (by decide) (hts (.fieldLink RX6 29 "FondsRoom$Reader" "cameTurn" "I") (by decide +kernel)) (fun _ h9 => h9) rfl dX6_cameBehind_16 ?_
    refine lv_icmp_ne (tgt := 37) hx hb dX6_cameBehind_19 (by decide) (fun c4 => ?_) (fun c4 => ?_)
    · skip
      refine lv_iconst (v := 0) hx hb dX6_cameBehind_37 (by decide) ?_
      exact W.zret (v := 0) hx hb hr (rfl) (fun t ht hW => ⟨⟨0, (), rfl, Or.inl rfl, by rw [ht]; exact hP, va_K.moved hW.alike hK, hD⟩, hS.F ht⟩) hS.2.2 dX6_cameBehind_38
    · skip
      refine lv_aload_n hx hb dX6_cameBehind_22 rfl (lv_at hl 0 rfl) ?_
      refine pg_get (D := D) (ci := 6) (v := .int n_o1) (C := RX6) (T := TX6) (N := 17) hx hb hts iX6_cameBehind_6 hown hK hP mme.1 hf_o1 rfl 0 (by decide) (hts (.fieldLink RX6 7 "FondsRoom$Reader" "number" "I") (by decide +kernel)) (fun _ h9 => h9) rfl dX6_cameBehind_23 ?_
      refine lv_aload_n hx hb dX6_cameBehind_26 rfl (lv_at hl 1 rfl) ?_
      refine pg_get (D := D) (ci := 6) (v := .int n_o2) (C := RX6) (T := TX6) (N := 17) hx hb hts iX6_cameBehind_6 hown hK hP mrd.1 hf_o2 rfl 0 (by decide) (hts (.fieldLink RX6 7 "FondsRoom$Reader" "number" "I") (by decide +kernel)) (fun _ h9 => h9) rfl dX6_cameBehind_27 ?_
      refine lv_icmp_le (tgt := 37) hx hb dX6_cameBehind_30 (by decide) (fun c5 => ?_) (fun c5 => ?_)
      · skip
        refine lv_iconst (v := 0) hx hb dX6_cameBehind_37 (by decide) ?_
        exact W.zret (v := 0) hx hb hr (rfl) (fun t ht hW => ⟨⟨0, (), rfl, Or.inl rfl, by rw [ht]; exact hP, va_K.moved hW.alike hK, hD⟩, hS.F ht⟩) hS.2.2 dX6_cameBehind_38
      · skip
        refine lv_iconst (v := 1) hx hb dX6_cameBehind_33 (by decide) ?_
        refine lv_goto (tgt := 38) hx hb dX6_cameBehind_34 (by decide) ?_
        exact W.zret (v := 1) hx hb hr (rfl) (fun t ht hW => ⟨⟨1, (), rfl, Or.inr rfl, by rw [ht]; exact hP, va_K.moved hW.alike hK, hD⟩, hS.F ht⟩) hS.2.2 dX6_cameBehind_38

theorem iX6_isServedBefore_6 : ∀ w ∈ wsX60, w ∈ wsX6_isServedBefore := fun _ h => List.mem_cons_of_mem _ (List.mem_append_right _ h)
set_option maxHeartbeats 4000000 in
set_option maxRecDepth 100000 in
theorem zX6_isServedBefore (l : Launch) (D : va_G) (x : Nat → Nat) (cy : Nat → ClassId) (g : Nat → Nat → Option Nat) (L : List Nat) (K : Nat → Nat) (hG : GO L K g) (N : Nat → Nat) (n : Nat → Int32) (a : Nat → Nat → Int32) (r : Nat → Nat → Option Nat) (f : Nat → va_E) (hC : CI L K cy N r f) (sz : Nat) (rd me : Nat) (mrd : rd ∈ L ∧ K rd = 6) (mme : me ∈ L ∧ K me = 6) : Met l yX6_isServedBefore wsX6_isServedBefore ({ frames := 0, cells := 0, slots := 0, locals := 0 }) (PW D (TYS cy) (XW x cy g N n a r ++ va_pl L f) sz [.ref me, .ref rd]) (va_Qi (fun (res : Int32) (u : Unit) => b01 res) (BU D (TYS cy) (XW x cy g N n a r ++ va_pl L f) (fun _ => XW x cy g N n a r ++ va_pl L f) sz) (va_A (XW x cy g N n a r ++ va_pl L f) sz)) 0 0 (va_A (XW x cy g N n a r ++ va_pl L f) sz) := by
  refine Met.ofW (cc := cX6_isServedBefore) (maxL := 2) (ret := (some .boolean)) (by decide) rfl ?_
  intro p e s m args below meth c s₁ B hml hv
  obtain ⟨rfl, hsz, hP, hK, hD0⟩ := hv
  have hx := B.exec
  have hb := B.bytes
  have hr := B.returns
  have hts := atoms_spec (ws := wsX6_isServedBefore) B.pre
  have hown : s.vm.findClass RX6 = some m.cls := findClass_of_methodNamed B.named
  have hlocks := B.notSynchronized
  subst hsz
  obtain ⟨hNB, hRB, hHT⟩ := hC
  have hSM : SM N N n n := SM_rf
  have hMM : MM N N a a := MM_rf
  have hD := hD0.self (sz := s.heap.size)
  have hA : ∀ q9 : Nat, s.heap.size ≤ q9 → va_A (XW x cy g N n a r ++ va_pl L f) s.heap.size q9 := fun q9 h => Or.inr h
  have hS : va_S (va_A (XW x cy g N n a r ++ va_pl L f) s.heap.size) s.heap s.heap [] := va_S.rf
  have hl := lv_entry ([.ref me, .ref rd]) (n := 2) (Nat.le_of_ble_eq_true rfl)
  rw [lg_entry_eq]
  generalize (lg_sl ([.ref me, .ref rd]) ++ List.replicate (2 - (lg_sl ([.ref me, .ref rd])).length) Slot.unset).toArray = ls at hl ⊢
  have hl : lv_has ls 2 [(0, .ref me), (1, .ref rd)] := hl
  refine lv_aload_n hx hb dX6_isServedBefore_0 rfl (lv_at hl 0 rfl) ?_
  obtain ⟨n_o1, p_o1, ar_o1, rk_o1, nw_o1, st_o1, ct_o1, d_o1, aw_o1, rl_o1, cp_o1, cu_o1, w1_o1, w2_o1, w3_o1, ov_o1, co_o1, hf_o1, sp_o1, snw_o1, sd_o1, saw_o1, scu_o1⟩ : TE L K cy 6 (f me) := by rw [← mme.2]; exact hHT me mme.1
  refine pg_get (D := D) (ci := 6) (v := .int rk_o1) (C := RX6) (T := TX6) (N := 17) hx hb hts iX6_isServedBefore_6 hown hK hP mme.1 hf_o1 rfl 3 (by decide) (hts (.fieldLink RX6 32 "FondsRoom$Reader" "rank" "I") (by decide +kernel)) (fun _ h9 => h9) rfl dX6_isServedBefore_1 ?_
  refine lv_aload_n hx hb dX6_isServedBefore_4 rfl (lv_at hl 1 rfl) ?_
  obtain ⟨n_o2, p_o2, ar_o2, rk_o2, nw_o2, st_o2, ct_o2, d_o2, aw_o2, rl_o2, cp_o2, cu_o2, w1_o2, w2_o2, w3_o2, ov_o2, co_o2, hf_o2, sp_o2, snw_o2, sd_o2, saw_o2, scu_o2⟩ : TE L K cy 6 (f rd) := by rw [← mrd.2]; exact hHT rd mrd.1
  refine pg_get (D := D) (ci := 6) (v := .int rk_o2) (C := RX6) (T := TX6) (N := 17) hx hb hts iX6_isServedBefore_6 hown hK hP mrd.1 hf_o2 rfl 3 (by decide) (hts (.fieldLink RX6 32 "FondsRoom$Reader" "rank" "I") (by decide +kernel)) (fun _ h9 => h9) rfl dX6_isServedBefore_5 ?_
  refine lv_icmp_eq (tgt := 28) hx hb dX6_isServedBefore_8 (by decide) (fun c3 => ?_) (fun c3 => ?_)
  · skip
    refine lv_aload_n hx hb dX6_isServedBefore_28 rfl (lv_at hl 0 rfl) ?_
    refine pg_get (D := D) (ci := 6) (v := .int ar_o1) (C := RX6) (T := TX6) (N := 17) hx hb hts iX6_isServedBefore_6 hown hK hP mme.1 hf_o1 rfl 2 (by decide) (hts (.fieldLink RX6 35 "FondsRoom$Reader" "arrival" "I") (by decide +kernel)) (fun _ h9 => h9) rfl dX6_isServedBefore_29 ?_
    refine lv_aload_n hx hb dX6_isServedBefore_32 rfl (lv_at hl 1 rfl) ?_
    refine pg_get (D := D) (ci := 6) (v := .int ar_o2) (C := RX6) (T := TX6) (N := 17) hx hb hts iX6_isServedBefore_6 hown hK hP mrd.1 hf_o2 rfl 2 (by decide) (hts (.fieldLink RX6 35 "FondsRoom$Reader" "arrival" "I") (by decide +kernel)) (fun _ h9 => h9) rfl dX6_isServedBefore_33 ?_
    refine lv_icmp_eq (tgt := 56) hx hb dX6_isServedBefore_36 (by decide) (fun c4 => ?_) (fun c4 => ?_)
    · skip
      refine lv_aload_n hx hb dX6_isServedBefore_56 rfl (lv_at hl 0 rfl) ?_
      refine pg_get (D := D) (ci := 6) (v := .int n_o1) (C := RX6) (T := TX6) (N := 17) hx hb hts iX6_isServedBefore_6 hown hK hP mme.1 hf_o1 rfl 0 (by decide) (hts (.fieldLink RX6 7 "FondsRoom$Reader" "number" "I") (by decide +kernel)) (fun _ h9 => h9) rfl dX6_isServedBefore_57 ?_
      refine lv_aload_n hx hb dX6_isServedBefore_60 rfl (lv_at hl 1 rfl) ?_
      refine pg_get (D := D) (ci := 6) (v := .int n_o2) (C := RX6) (T := TX6) (N := 17) hx hb hts iX6_isServedBefore_6 hown hK hP mrd.1 hf_o2 rfl 0 (by decide) (hts (.fieldLink RX6 7 "FondsRoom$Reader" "number" "I") (by decide +kernel)) (fun _ h9 => h9) rfl dX6_isServedBefore_61 ?_
      refine lv_icmp_ge (tgt := 71) hx hb dX6_isServedBefore_64 (by decide) (fun c5 => ?_) (fun c5 => ?_)
      · skip
        refine lv_iconst (v := 0) hx hb dX6_isServedBefore_71 (by decide) ?_
        exact W.zret (v := 0) hx hb hr (rfl) (fun t ht hW => ⟨⟨0, (), rfl, Or.inl rfl, by rw [ht]; exact hP, va_K.moved hW.alike hK, hD⟩, hS.F ht⟩) hS.2.2 dX6_isServedBefore_72
      · skip
        refine lv_iconst (v := 1) hx hb dX6_isServedBefore_67 (by decide) ?_
        refine lv_goto (tgt := 72) hx hb dX6_isServedBefore_68 (by decide) ?_
        exact W.zret (v := 1) hx hb hr (rfl) (fun t ht hW => ⟨⟨1, (), rfl, Or.inr rfl, by rw [ht]; exact hP, va_K.moved hW.alike hK, hD⟩, hS.F ht⟩) hS.2.2 dX6_isServedBefore_72
    · skip
      refine lv_aload_n hx hb dX6_isServedBefore_39 rfl (lv_at hl 0 rfl) ?_
      refine pg_get (D := D) (ci := 6) (v := .int ar_o1) (C := RX6) (T := TX6) (N := 17) hx hb hts iX6_isServedBefore_6 hown hK hP mme.1 hf_o1 rfl 2 (by decide) (hts (.fieldLink RX6 35 "FondsRoom$Reader" "arrival" "I") (by decide +kernel)) (fun _ h9 => h9) rfl dX6_isServedBefore_40 ?_
      refine lv_aload_n hx hb dX6_isServedBefore_43 rfl (lv_at hl 1 rfl) ?_
      refine pg_get (D := D) (ci := 6) (v := .int ar_o2) (C := RX6) (T := TX6) (N := 17) hx hb hts iX6_isServedBefore_6 hown hK hP mrd.1 hf_o2 rfl 2 (by decide) (hts (.fieldLink RX6 35 "FondsRoom$Reader" "arrival" "I") (by decide +kernel)) (fun _ h9 => h9) rfl dX6_isServedBefore_44 ?_
      refine lv_icmp_ge (tgt := 54) hx hb dX6_isServedBefore_47 (by decide) (fun c6 => ?_) (fun c6 => ?_)
      · skip
        refine lv_iconst (v := 0) hx hb dX6_isServedBefore_54 (by decide) ?_
        exact W.zret (v := 0) hx hb hr (rfl) (fun t ht hW => ⟨⟨0, (), rfl, Or.inl rfl, by rw [ht]; exact hP, va_K.moved hW.alike hK, hD⟩, hS.F ht⟩) hS.2.2 dX6_isServedBefore_55
      · skip
        refine lv_iconst (v := 1) hx hb dX6_isServedBefore_50 (by decide) ?_
        refine lv_goto (tgt := 55) hx hb dX6_isServedBefore_51 (by decide) ?_
        exact W.zret (v := 1) hx hb hr (rfl) (fun t ht hW => ⟨⟨1, (), rfl, Or.inr rfl, by rw [ht]; exact hP, va_K.moved hW.alike hK, hD⟩, hS.F ht⟩) hS.2.2 dX6_isServedBefore_55
  · skip
    refine lv_aload_n hx hb dX6_isServedBefore_11 rfl (lv_at hl 0 rfl) ?_
    refine pg_get (D := D) (ci := 6) (v := .int rk_o1) (C := RX6) (T := TX6) (N := 17) hx hb hts iX6_isServedBefore_6 hown hK hP mme.1 hf_o1 rfl 3 (by decide) (hts (.fieldLink RX6 32 "FondsRoom$Reader" "rank" "I") (by decide +kernel)) (fun _ h9 => h9) rfl dX6_isServedBefore_12 ?_
    refine lv_aload_n hx hb dX6_isServedBefore_15 rfl (lv_at hl 1 rfl) ?_
    refine pg_get (D := D) (ci := 6) (v := .int rk_o2) (C := RX6) (T := TX6) (N := 17) hx hb hts iX6_isServedBefore_6 hown hK hP mrd.1 hf_o2 rfl 3 (by decide) (hts (.fieldLink RX6 32 "FondsRoom$Reader" "rank" "I") (by decide +kernel)) (fun _ h9 => h9) rfl dX6_isServedBefore_16 ?_
    refine lv_icmp_le (tgt := 26) hx hb dX6_isServedBefore_19 (by decide) (fun c7 => ?_) (fun c7 => ?_)
    · skip
      refine lv_iconst (v := 0) hx hb dX6_isServedBefore_26 (by decide) ?_
      exact W.zret (v := 0) hx hb hr (rfl) (fun t ht hW => ⟨⟨0, (), rfl, Or.inl rfl, by rw [ht]; exact hP, va_K.moved hW.alike hK, hD⟩, hS.F ht⟩) hS.2.2 dX6_isServedBefore_27
    · skip
      refine lv_iconst (v := 1) hx hb dX6_isServedBefore_22 (by decide) ?_
      refine lv_goto (tgt := 27) hx hb dX6_isServedBefore_23 (by decide) ?_
      exact W.zret (v := 1) hx hb hr (rfl) (fun t ht hW => ⟨⟨1, (), rfl, Or.inr rfl, by rw [ht]; exact hP, va_K.moved hW.alike hK, hD⟩, hS.F ht⟩) hS.2.2 dX6_isServedBefore_27

theorem iX3_insertByRank_3 : ∀ w ∈ wsX30, w ∈ wsX3_insertByRank := fun _ h => List.mem_cons_of_mem _ (List.mem_append_left _ (List.mem_append_right _ h))
set_option maxHeartbeats 4000000 in
set_option maxRecDepth 100000 in
theorem zX3_insertByRank (l : Launch) (D : va_G) (x : Nat → Nat) (cy : Nat → ClassId) (g : Nat → Nat → Option Nat) (L : List Nat) (K : Nat → Nat) (hG : GO L K g) (N : Nat → Nat) (n : Nat → Int32) (a : Nat → Nat → Int32) (r : Nat → Nat → Option Nat) (f : Nat → va_E) (hC : CI L K cy N r f) (sz : Nat) (rd : Nat) (mrd : rd ∈ L ∧ K rd = 6) : Met l yX3_insertByRank wsX3_insertByRank ({ frames := 1, cells := 0, slots := 0, locals := 21 }) (PW D (TYS cy) (XW x cy g N n a r ++ va_pl L f) sz [.ref (x 8), .ref rd]) (va_Qv (fun (u : ST) => CI L K cy u.1 u.2.2.2.1 u.2.2.2.2 ∧ SM N u.1 n u.2.1 ∧ MM N u.1 a u.2.2.1 ∧ True) (BU D (TYS cy) (XW x cy g N n a r ++ va_pl L f) (WC x cy g L) sz) (va_A (XW x cy g N n a r ++ va_pl L f) sz)) 0 0 (va_A (XW x cy g N n a r ++ va_pl L f) sz) := by
  refine Met.ofW (cc := cX3_insertByRank) (maxL := 3) (ret := none) (by decide) rfl ?_
  intro p e s m args below meth c s₁ B hml hv
  obtain ⟨rfl, hsz, hP, hK, hD0⟩ := hv
  have hx := B.exec
  have hb := B.bytes
  have hr := B.returns
  have hts := atoms_spec (ws := wsX3_insertByRank) B.pre
  have hown : s.vm.findClass RX3 = some m.cls := findClass_of_methodNamed B.named
  have hlocks := B.notSynchronized
  subst hsz
  obtain ⟨hNB, hRB, hHT⟩ := hC
  have hSM : SM N N n n := SM_rf
  have hMM : MM N N a a := MM_rf
  have hD := hD0.self (sz := s.heap.size)
  have hA : ∀ q9 : Nat, s.heap.size ≤ q9 → va_A (XW x cy g N n a r ++ va_pl L f) s.heap.size q9 := fun q9 h => Or.inr h
  have hS : va_S (va_A (XW x cy g N n a r ++ va_pl L f) s.heap.size) s.heap s.heap [] := va_S.rf
  have hl := lv_entry ([.ref (x 8), .ref rd]) (n := 3) (Nat.le_of_ble_eq_true rfl)
  rw [lg_entry_eq]
  generalize (lg_sl ([.ref (x 8), .ref rd]) ++ List.replicate (3 - (lg_sl ([.ref (x 8), .ref rd])).length) Slot.unset).toArray = ls at hl ⊢
  have hl : lv_has ls 3 [(0, .ref (x 8)), (1, .ref rd)] := hl
  refine lv_aload_n hx hb dX3_insertByRank_0 rfl (lv_at hl 0 rfl) ?_
  refine va_get (D := D) (ci := 3) (v := .int (nI (N 5))) (C := RX3) (T := TX3) (N := 2) hx hb hts iX3_insertByRank_3 hown hK hP 8 rfl rfl 1 (by decide) (hts (.fieldLink RX3 17 "FondsRoom$Line" "size" "I") (by decide +kernel)) (fun _ h9 => h9) rfl dX3_insertByRank_1 ?_
  refine lv_bipush (v := 20) hx hb dX3_insertByRank_4 (by decide) ?_
  refine lv_icmp_lt (tgt := 10) hx hb dX3_insertByRank_6 (by decide) (fun c1 => ?_) (fun c1 => ?_)
  · skip
    have nb0 : N 0 ≤ 12 := hNB 0 (by decide)
    have nb1 : N 1 ≤ 40 := hNB 1 (by decide)
    have nb2 : N 2 ≤ 20 := hNB 2 (by decide)
    have nb3 : N 3 ≤ 4 := hNB 3 (by decide)
    have nb4 : N 4 ≤ 3 := hNB 4 (by decide)
    have nb5 : N 5 ≤ 20 := hNB 5 (by decide)
    have nb6 : N 6 ≤ 20 := hNB 6 (by decide)
    have nb7 : N 7 ≤ 20 := hNB 7 (by decide)
    have nb8 : N 8 ≤ 30 := hNB 8 (by decide)
    have nb9 : N 9 ≤ 400 := hNB 9 (by decide)
    have dc1 : (N 5) < 20 := (nI_ltI (a := (N 5)) (b := 20) (by omega) (by omega)).mp c1
    refine lv_aload_n hx hb dX3_insertByRank_10 rfl (lv_at hl 0 rfl) ?_
    refine va_get (D := D) (ci := 3) (v := .int (nI (N 5))) (C := RX3) (T := TX3) (N := 2) hx hb hts iX3_insertByRank_3 hown hK hP 8 rfl rfl 1 (by decide) (hts (.fieldLink RX3 17 "FondsRoom$Line" "size" "I") (by decide +kernel)) (fun _ h9 => h9) rfl dX3_insertByRank_11 ?_
    refine lv_istore_n (lv' := [(2, .int (nI (N 5))), (0, .ref (x 8)), (1, .ref rd)]) hx hb dX3_insertByRank_14 rfl hl (by decide) rfl (fun ls hl => ?_)
    have key3 : ∀ (m9 j2 : Nat), j2 = m9 → ∀ (N4 : Nat → Nat) (n5 : Nat → Int32) (a6 : Nat → Nat → Int32) (r7 : Nat → Nat → Option Nat) (f8 : Nat → va_E) , j2 ≤ N4 5 → N4 5 < 20 → (j2 = N4 5 ∨ r7 0 (N4 5) ≠ none) → NB N4 → RB L K N4 r7 → HT L K cy f8 → SM N N4 n n5 → MM N N4 a a6 → ∀ (H : Heap) (locs : List Loc) (ls : Array Slot), va_P D vwCl (XW x cy g N4 n5 a6 r7 ++ va_pl L f8) H → va_D (va_A (XW x cy g N n a r ++ va_pl L f) s.heap.size) (XW x cy g N4 n5 a6 r7 ++ va_pl L f8) → va_S (va_A (XW x cy g N n a r ++ va_pl L f) s.heap.size) s.heap H locs → lv_has ls 3 [(2, .int (nI j2)), (0, .ref (x 8)), (1, .ref rd)] → W p l e (headSpec wsX3_insertByRank ({ frames := 1, cells := 0, slots := 0, locals := 21 })).room s m #[.ref (x 8), .ref rd] below meth c H locs 0 0 (MQ below (va_Qv (fun (u : ST) => CI L K cy u.1 u.2.2.2.1 u.2.2.2.2 ∧ SM N u.1 n u.2.1 ∧ MM N u.1 a u.2.2.1 ∧ True) (BU D (TYS cy) (XW x cy g N n a r ++ va_pl L f) (WC x cy g L) s.heap.size) (va_A (XW x cy g N n a r ++ va_pl L f) s.heap.size)) #[.ref (x 8), .ref rd] s 0 0 (va_A (XW x cy g N n a r ++ va_pl L f) s.heap.size)) (F0 m 15 ls []) := by
      intro m9
      induction m9 using Nat.strongRecOn with
      | _ m9 ihkey3 =>
        intro j2 hm9 N4 n5 a6 r7 f8 hgN hlt hgp hNB hRB hHT hSM hMM H locs ls hP hD hS hl
        subst hm9
        have nb0 : N4 0 ≤ 12 := hNB 0 (by decide)
        have nb1 : N4 1 ≤ 40 := hNB 1 (by decide)
        have nb2 : N4 2 ≤ 20 := hNB 2 (by decide)
        have nb3 : N4 3 ≤ 4 := hNB 3 (by decide)
        have nb4 : N4 4 ≤ 3 := hNB 4 (by decide)
        have nb5 : N4 5 ≤ 20 := hNB 5 (by decide)
        have nb6 : N4 6 ≤ 20 := hNB 6 (by decide)
        have nb7 : N4 7 ≤ 20 := hNB 7 (by decide)
        have nb8 : N4 8 ≤ 30 := hNB 8 (by decide)
        have nb9 : N4 9 ≤ 400 := hNB 9 (by decide)
        refine lv_iload_n hx hb dX3_insertByRank_15 rfl (lv_at hl 0 rfl) ?_
        refine lv_if_le (tgt := 54) hx hb dX3_insertByRank_16 (by decide) (fun c9 => ?_) (fun c9 => ?_)
        · skip
          have dc9 : j2 ≤ 0 := (nI_leI (a := j2) (b := 0) (by omega) (by omega)).mp c9
          refine lv_aload_n hx hb dX3_insertByRank_54 rfl (lv_at hl 1 rfl) ?_
          refine va_get (D := D) (ci := 3) (v := .ref (x 9)) (C := RX3) (T := TX3) (N := 2) hx hb hts iX3_insertByRank_3 hown hK hP 8 rfl rfl 0 (by decide) (hts (.fieldLink RX3 11 "FondsRoom$Line" "places" "[LFondsRoom$Reader;") (by decide +kernel)) (fun _ h9 => h9) rfl dX3_insertByRank_55 ?_
          refine lv_iload_n hx hb dX3_insertByRank_58 rfl (lv_at hl 0 rfl) ?_
          refine lv_aload_n hx hb dX3_insertByRank_59 rfl (lv_at hl 2 rfl) ?_
          obtain ⟨n_o10, p_o10, ar_o10, rk_o10, nw_o10, st_o10, ct_o10, d_o10, aw_o10, rl_o10, cp_o10, cu_o10, w1_o10, w2_o10, w3_o10, ov_o10, co_o10, hf_o10, sp_o10, snw_o10, sd_o10, saw_o10, scu_o10⟩ : TE L K cy 6 (f8 rd) := by rw [← mrd.2]; exact hHT rd mrd.1
          obtain ⟨q11, hq11⟩ := va_pl_get (X := XW x cy g N4 n5 a6 r7) (f := f8) mrd.1
          rw [hf_o10] at hq11
          refine va_astq hx hb hK hP hD hS 9 4 q11 6 rfl rfl hq11 rfl (vp_in_nI (by omega) (by omega)) dX3_insertByRank_60 (fun H locs hP hD hS => ?_)
          rw [nI_clamp (by omega)] at hP hD
          obtain ⟨r12, er12⟩ : ∃ z, z = va_up r7 0 (va_up (r7 0) j2 (some rd)) := ⟨_, rfl⟩
          have hP : va_P D vwCl (XW x cy g N4 n5 a6 r12 ++ va_pl L f8) H := by rw [er12]; exact hP
          have hD : va_D (va_A (XW x cy g N n a r ++ va_pl L f) s.heap.size) (XW x cy g N4 n5 a6 r12 ++ va_pl L f8) := by rw [er12]; exact hD
          have hRB : RB L K N4 r12 := by rw [er12]; exact RB_r hRB 0 j2 rd mrd.1 mrd.2
          refine lv_aload_n hx hb dX3_insertByRank_61 rfl (lv_at hl 1 rfl) ?_
          refine lv_dup hx hb dX3_insertByRank_62 rfl ?_
          refine va_get (D := D) (ci := 3) (v := .int (nI (N4 5))) (C := RX3) (T := TX3) (N := 2) hx hb hts iX3_insertByRank_3 hown hK hP 8 rfl rfl 1 (by decide) (hts (.fieldLink RX3 17 "FondsRoom$Line" "size" "I") (by decide +kernel)) (fun _ h9 => h9) rfl dX3_insertByRank_63 ?_
          refine lv_iconst (v := 1) hx hb dX3_insertByRank_66 (by decide) ?_
          refine lv_iadd hx hb dX3_insertByRank_67 ?_
          refine lv_tov (v' := .int (nI ((N4 5) + 1))) (congrArg Value.int (nI_add (N4 5) 1)) ?_
          refine va_put (D := D) (ci := 3) (v := .int (nI ((N4 5) + 1))) (ty := .int) (C := RX3) (T := TX3) (N := 2) hx hb hts iX3_insertByRank_3 tyX3 tyX3_ok nmX3 hown hK hP hD hS 8 rfl rfl 1 (by decide) (hts (.fieldLink RX3 17 "FondsRoom$Line" "size" "I") (by decide +kernel)) (fun _ h9 => h9) rfl (by decide +kernel) rfl rfl (Nat.le_of_ble_eq_true rfl) dX3_insertByRank_68 (fun H locs hP hD hS => ?_)
          obtain ⟨N13, eN13⟩ : ∃ z, z = va_up N4 5 ((N4 5) + 1) := ⟨_, rfl⟩
          have hP : va_P D vwCl (XW x cy g N13 n5 a6 r12 ++ va_pl L f8) H := by rw [eN13]; exact hP
          have hD : va_D (va_A (XW x cy g N n a r ++ va_pl L f) s.heap.size) (XW x cy g N13 n5 a6 r12 ++ va_pl L f8) := by rw [eN13]; exact hD
          have hNB : NB N13 := by rw [eN13]; exact NB_up hNB 5 ((N4 5) + 1) (by show ((N4 5) + 1) ≤ 20; omega)
          have hRB : RB L K N13 r12 := by rw [eN13]; exact RB_N hRB 5 ((N4 5) + 1) (fun j hj e9 i hi => by
      obtain rfl : j = 0 := by omega
      by_cases ez : i = N4 5
      · subst ez
        rcases hgp with g9 | g9
        · rw [er12, g9, va_up_self, va_up_self]; exact fun w9 => by cases w9
        · rw [er12, va_up_self]
          by_cases g8 : N4 5 = j2
          · rw [g8, va_up_self]; exact fun w9 => by cases w9
          · rw [va_up_ne _ _ g8]; exact g9
      · exact (hRB 0 (by decide)).2 i (by show i < N4 5; omega))
          have hSM : SM N N13 n n5 := by rw [eN13]; exact SM_N hSM 5 ((N4 5) + 1) (by decide)
          have hMM : MM N N13 a a6 := by rw [eN13]; exact MM_N hMM 5 ((N4 5) + 1) (by decide)
          exact W.vret hx hb hr (fun t ht hW => ⟨⟨(N13, n5, a6, r12, f8), rfl, ⟨⟨hNB, hRB, hHT⟩, hSM, hMM, trivial⟩, by rw [ht]; exact hP, va_K.moved hW.alike hK, hD⟩, hS.F ht⟩) hS.2.2 dX3_insertByRank_71
        · skip
          have dc9 : 0 < j2 := Nat.not_le.mp (fun h9 => c9 ((nI_leI (a := j2) (b := 0) (by omega) (by omega)).mpr h9))
          refine lv_aload_n hx hb dX3_insertByRank_19 rfl (lv_at hl 2 rfl) ?_
          refine lv_aload_n hx hb dX3_insertByRank_20 rfl (lv_at hl 1 rfl) ?_
          refine va_get (D := D) (ci := 3) (v := .ref (x 9)) (C := RX3) (T := TX3) (N := 2) hx hb hts iX3_insertByRank_3 hown hK hP 8 rfl rfl 0 (by decide) (hts (.fieldLink RX3 11 "FondsRoom$Line" "places" "[LFondsRoom$Reader;") (by decide +kernel)) (fun _ h9 => h9) rfl dX3_insertByRank_21 ?_
          refine lv_iload_n hx hb dX3_insertByRank_24 rfl (lv_at hl 0 rfl) ?_
          refine lv_iconst (v := 1) hx hb dX3_insertByRank_25 (by decide) ?_
          refine lv_isub hx hb dX3_insertByRank_26 ?_
          refine lv_tov (v' := .int (nI (j2 - 1))) (congrArg Value.int (pk_sub (a := j2) (b := 1) (by omega))) ?_
          refine va_aldq hx hb hK hP 9 4 rfl rfl (vp_in_nI (by omega) (by omega)) dX3_insertByRank_27 ?_
          obtain ⟨p14, ep14⟩ : ∃ z, r7 0 (j2 - 1) = some z := Option.ne_none_iff_exists'.mp ((hRB 0 (by decide)).2 ((j2 - 1)) (by show (j2 - 1) < N4 5; omega))
          have mp14 := (hRB 0 (by decide)).1 ((j2 - 1)) p14 ep14
          refine lv_tov (v' := .ref p14) (by rw [nI_clamp (by omega)]; show va_rf (r7 0 ((j2 - 1))) = _; rw [ep14]; rfl) ?_
          obtain ⟨n_o17, p_o17, ar_o17, rk_o17, nw_o17, st_o17, ct_o17, d_o17, aw_o17, rl_o17, cp_o17, cu_o17, w1_o17, w2_o17, w3_o17, ov_o17, co_o17, hf_o17, sp_o17, snw_o17, sd_o17, saw_o17, scu_o17⟩ : TE L K cy 6 (f8 rd) := by rw [← mrd.2]; exact hHT rd mrd.1
          refine gvI (As := [.ref p14]) (rest := []) ⟨hx, hb, hml, hown, hts⟩ (zX6_isServedBefore l D x cy g L K hG N4 n5 a6 r7 f8 ⟨hNB, hRB, hHT⟩ _ p14 rd  ⟨mp14.1, mp14.2⟩ ⟨mrd.1, mrd.2⟩) (cwV 1 hts gX3_insertByRank_X6_isServedBefore rfl rfl rfl (by decide +kernel) ⟨Nat.le_of_ble_eq_true rfl, Nat.le_of_ble_eq_true rfl⟩) hK hP hD hS hA (pl_recv hK hP (ci := 6) rfl mrd.1 hf_o17) rfl hl.1 rfl (Nat.le_of_ble_eq_true rfl) dX3_insertByRank_28 ⟨Nat.le_of_ble_eq_true rfl, Nat.le_of_ble_eq_true rfl⟩ (fun q15 u16 H locs hq15 hP hD hS => ?_)
          have hP : va_P D vwCl (XW x cy g N4 n5 a6 r7 ++ va_pl L f8) H := hP
          have hD : va_D _ (XW x cy g N4 n5 a6 r7 ++ va_pl L f8) := hD
          refine lv_if_eq (tgt := 54) hx hb dX3_insertByRank_31 (by decide) (fun c18 => ?_) (fun c18 => ?_)
          · skip
            refine lv_aload_n hx hb dX3_insertByRank_54 rfl (lv_at hl 1 rfl) ?_
            refine va_get (D := D) (ci := 3) (v := .ref (x 9)) (C := RX3) (T := TX3) (N := 2) hx hb hts iX3_insertByRank_3 hown hK hP 8 rfl rfl 0 (by decide) (hts (.fieldLink RX3 11 "FondsRoom$Line" "places" "[LFondsRoom$Reader;") (by decide +kernel)) (fun _ h9 => h9) rfl dX3_insertByRank_55 ?_
            refine lv_iload_n hx hb dX3_insertByRank_58 rfl (lv_at hl 0 rfl) ?_
            refine lv_aload_n hx hb dX3_insertByRank_59 rfl (lv_at hl 2 rfl) ?_
            obtain ⟨q19, hq19⟩ := va_pl_get (X := XW x cy g N4 n5 a6 r7) (f := f8) mrd.1
            rw [hf_o17] at hq19
            refine va_astq hx hb hK hP hD hS 9 4 q19 6 rfl rfl hq19 rfl (vp_in_nI (by omega) (by omega)) dX3_insertByRank_60 (fun H locs hP hD hS => ?_)
            rw [nI_clamp (by omega)] at hP hD
            obtain ⟨r20, er20⟩ : ∃ z, z = va_up r7 0 (va_up (r7 0) j2 (some rd)) := ⟨_, rfl⟩
            have hP : va_P D vwCl (XW x cy g N4 n5 a6 r20 ++ va_pl L f8) H := by rw [er20]; exact hP
            have hD : va_D (va_A (XW x cy g N n a r ++ va_pl L f) s.heap.size) (XW x cy g N4 n5 a6 r20 ++ va_pl L f8) := by rw [er20]; exact hD
            have hRB : RB L K N4 r20 := by rw [er20]; exact RB_r hRB 0 j2 rd mrd.1 mrd.2
            refine lv_aload_n hx hb dX3_insertByRank_61 rfl (lv_at hl 1 rfl) ?_
            refine lv_dup hx hb dX3_insertByRank_62 rfl ?_
            refine va_get (D := D) (ci := 3) (v := .int (nI (N4 5))) (C := RX3) (T := TX3) (N := 2) hx hb hts iX3_insertByRank_3 hown hK hP 8 rfl rfl 1 (by decide) (hts (.fieldLink RX3 17 "FondsRoom$Line" "size" "I") (by decide +kernel)) (fun _ h9 => h9) rfl dX3_insertByRank_63 ?_
            refine lv_iconst (v := 1) hx hb dX3_insertByRank_66 (by decide) ?_
            refine lv_iadd hx hb dX3_insertByRank_67 ?_
            refine lv_tov (v' := .int (nI ((N4 5) + 1))) (congrArg Value.int (nI_add (N4 5) 1)) ?_
            refine va_put (D := D) (ci := 3) (v := .int (nI ((N4 5) + 1))) (ty := .int) (C := RX3) (T := TX3) (N := 2) hx hb hts iX3_insertByRank_3 tyX3 tyX3_ok nmX3 hown hK hP hD hS 8 rfl rfl 1 (by decide) (hts (.fieldLink RX3 17 "FondsRoom$Line" "size" "I") (by decide +kernel)) (fun _ h9 => h9) rfl (by decide +kernel) rfl rfl (Nat.le_of_ble_eq_true rfl) dX3_insertByRank_68 (fun H locs hP hD hS => ?_)
            obtain ⟨N21, eN21⟩ : ∃ z, z = va_up N4 5 ((N4 5) + 1) := ⟨_, rfl⟩
            have hP : va_P D vwCl (XW x cy g N21 n5 a6 r20 ++ va_pl L f8) H := by rw [eN21]; exact hP
            have hD : va_D (va_A (XW x cy g N n a r ++ va_pl L f) s.heap.size) (XW x cy g N21 n5 a6 r20 ++ va_pl L f8) := by rw [eN21]; exact hD
            have hNB : NB N21 := by rw [eN21]; exact NB_up hNB 5 ((N4 5) + 1) (by show ((N4 5) + 1) ≤ 20; omega)
            have hRB : RB L K N21 r20 := by rw [eN21]; exact RB_N hRB 5 ((N4 5) + 1) (fun j hj e9 i hi => by
      obtain rfl : j = 0 := by omega
      by_cases ez : i = N4 5
      · subst ez
        rcases hgp with g9 | g9
        · rw [er20, g9, va_up_self, va_up_self]; exact fun w9 => by cases w9
        · rw [er20, va_up_self]
          by_cases g8 : N4 5 = j2
          · rw [g8, va_up_self]; exact fun w9 => by cases w9
          · rw [va_up_ne _ _ g8]; exact g9
      · exact (hRB 0 (by decide)).2 i (by show i < N4 5; omega))
            have hSM : SM N N21 n n5 := by rw [eN21]; exact SM_N hSM 5 ((N4 5) + 1) (by decide)
            have hMM : MM N N21 a a6 := by rw [eN21]; exact MM_N hMM 5 ((N4 5) + 1) (by decide)
            exact W.vret hx hb hr (fun t ht hW => ⟨⟨(N21, n5, a6, r20, f8), rfl, ⟨⟨hNB, hRB, hHT⟩, hSM, hMM, trivial⟩, by rw [ht]; exact hP, va_K.moved hW.alike hK, hD⟩, hS.F ht⟩) hS.2.2 dX3_insertByRank_71
          · skip
            refine lv_aload_n hx hb dX3_insertByRank_34 rfl (lv_at hl 1 rfl) ?_
            refine va_get (D := D) (ci := 3) (v := .ref (x 9)) (C := RX3) (T := TX3) (N := 2) hx hb hts iX3_insertByRank_3 hown hK hP 8 rfl rfl 0 (by decide) (hts (.fieldLink RX3 11 "FondsRoom$Line" "places" "[LFondsRoom$Reader;") (by decide +kernel)) (fun _ h9 => h9) rfl dX3_insertByRank_35 ?_
            refine lv_iload_n hx hb dX3_insertByRank_38 rfl (lv_at hl 0 rfl) ?_
            refine lv_aload_n hx hb dX3_insertByRank_39 rfl (lv_at hl 1 rfl) ?_
            refine va_get (D := D) (ci := 3) (v := .ref (x 9)) (C := RX3) (T := TX3) (N := 2) hx hb hts iX3_insertByRank_3 hown hK hP 8 rfl rfl 0 (by decide) (hts (.fieldLink RX3 11 "FondsRoom$Line" "places" "[LFondsRoom$Reader;") (by decide +kernel)) (fun _ h9 => h9) rfl dX3_insertByRank_40 ?_
            refine lv_iload_n hx hb dX3_insertByRank_43 rfl (lv_at hl 0 rfl) ?_
            refine lv_iconst (v := 1) hx hb dX3_insertByRank_44 (by decide) ?_
            refine lv_isub hx hb dX3_insertByRank_45 ?_
            refine lv_tov (v' := .int (nI (j2 - 1))) (congrArg Value.int (pk_sub (a := j2) (b := 1) (by omega))) ?_
            refine va_aldq hx hb hK hP 9 4 rfl rfl (vp_in_nI (by omega) (by omega)) dX3_insertByRank_46 ?_
            obtain ⟨p22, ep22⟩ : ∃ z, r7 0 (j2 - 1) = some z := Option.ne_none_iff_exists'.mp ((hRB 0 (by decide)).2 ((j2 - 1)) (by show (j2 - 1) < N4 5; omega))
            have mp22 := (hRB 0 (by decide)).1 ((j2 - 1)) p22 ep22
            refine lv_tov (v' := .ref p22) (by rw [nI_clamp (by omega)]; show va_rf (r7 0 ((j2 - 1))) = _; rw [ep22]; rfl) ?_
            obtain ⟨n_o23, p_o23, ar_o23, rk_o23, nw_o23, st_o23, ct_o23, d_o23, aw_o23, rl_o23, cp_o23, cu_o23, w1_o23, w2_o23, w3_o23, ov_o23, co_o23, hf_o23, sp_o23, snw_o23, sd_o23, saw_o23, scu_o23⟩ : TE L K cy 6 (f8 p22) := by rw [← mp22.2]; exact hHT p22 mp22.1
            obtain ⟨q24, hq24⟩ := va_pl_get (X := XW x cy g N4 n5 a6 r7) (f := f8) mp22.1
            rw [hf_o23] at hq24
            refine va_astq hx hb hK hP hD hS 9 4 q24 6 rfl rfl hq24 rfl (vp_in_nI (by omega) (by omega)) dX3_insertByRank_47 (fun H locs hP hD hS => ?_)
            rw [nI_clamp (by omega)] at hP hD
            obtain ⟨r25, er25⟩ : ∃ z, z = va_up r7 0 (va_up (r7 0) j2 (some p22)) := ⟨_, rfl⟩
            have hP : va_P D vwCl (XW x cy g N4 n5 a6 r25 ++ va_pl L f8) H := by rw [er25]; exact hP
            have hD : va_D (va_A (XW x cy g N n a r ++ va_pl L f) s.heap.size) (XW x cy g N4 n5 a6 r25 ++ va_pl L f8) := by rw [er25]; exact hD
            have hRB : RB L K N4 r25 := by rw [er25]; exact RB_r hRB 0 j2 p22 mp22.1 mp22.2
            refine lv_iinc (v := nI (j2 - 1)) (lv' := [(2, .int (nI (j2 - 1))), (0, .ref (x 8)), (1, .ref rd)]) hx hb dX3_insertByRank_48 hl (k := 0) rfl (by show nI j2 + (-1) = _; exact sb_m1 (by omega)) (by decide) rfl (fun ls hl => ?_)
            refine lv_goto (tgt := 15) hx hb dX3_insertByRank_51 (by decide) ?_
            exact ihkey3 ((j2 - 1)) (by omega) ((j2 - 1)) rfl N4 n5 a6 r25 f8 (by omega) (by omega) (Or.inr (by
        rcases hgp with g9 | g9
        · rw [er25, ← g9, va_up_self, va_up_self]; exact fun w9 => by cases w9
        · rw [er25, va_up_self]
          by_cases g8 : N4 5 = j2
          · rw [g8, va_up_self]; exact fun w9 => by cases w9
          · rw [va_up_ne _ _ g8]; exact g9)) hNB hRB hHT hSM hMM _ _ _ hP hD hS (lv_sub hl [0, 1, 2] rfl)
    exact key3 ((N 5)) ((N 5)) rfl N n a r f (by omega) (by omega) (Or.inl rfl) hNB hRB hHT hSM hMM _ _ _ hP hD hS (lv_sub hl [0, 1, 2] rfl)
  · skip
    have nb0 : N 0 ≤ 12 := hNB 0 (by decide)
    have nb1 : N 1 ≤ 40 := hNB 1 (by decide)
    have nb2 : N 2 ≤ 20 := hNB 2 (by decide)
    have nb3 : N 3 ≤ 4 := hNB 3 (by decide)
    have nb4 : N 4 ≤ 3 := hNB 4 (by decide)
    have nb5 : N 5 ≤ 20 := hNB 5 (by decide)
    have nb6 : N 6 ≤ 20 := hNB 6 (by decide)
    have nb7 : N 7 ≤ 20 := hNB 7 (by decide)
    have nb8 : N 8 ≤ 30 := hNB 8 (by decide)
    have nb9 : N 9 ≤ 400 := hNB 9 (by decide)
    have dc1 : 20 ≤ (N 5) := Nat.not_lt.mp (fun h9 => c1 ((nI_ltI (a := (N 5)) (b := 20) (by omega) (by omega)).mpr h9))
    exact W.vret hx hb hr (fun t ht hW => ⟨⟨(N, n, a, r, f), rfl, ⟨⟨hNB, hRB, hHT⟩, hSM, hMM, trivial⟩, by rw [ht]; exact hP, va_K.moved hW.alike hK, hD⟩, hS.F ht⟩) hS.2.2 dX3_insertByRank_9

theorem iX4_dropTurn_4 : ∀ w ∈ wsX40, w ∈ wsX4_dropTurn := fun _ h => List.mem_cons_of_mem _ (List.mem_append_right _ h)
set_option maxHeartbeats 4000000 in
set_option maxRecDepth 100000 in
theorem zX4_dropTurn (l : Launch) (D : va_G) (x : Nat → Nat) (cy : Nat → ClassId) (g : Nat → Nat → Option Nat) (L : List Nat) (K : Nat → Nat) (hG : GO L K g) (N : Nat → Nat) (n : Nat → Int32) (a : Nat → Nat → Int32) (r : Nat → Nat → Option Nat) (f : Nat → va_E) (hC : CI L K cy N r f) (sz : Nat) (v : Int32) : Met l yX4_dropTurn wsX4_dropTurn ({ frames := 0, cells := 0, slots := 0, locals := 0 }) (PW D (TYS cy) (XW x cy g N n a r ++ va_pl L f) sz [.ref (x 14), .int v]) (va_Qv (fun (u : ST) => CI L K cy u.1 u.2.2.2.1 u.2.2.2.2 ∧ SM N u.1 n u.2.1 ∧ ml (u.2.2.1 0) (u.1 8) = md (ml (a 0) (N 8)) v) (BU D (TYS cy) (XW x cy g N n a r ++ va_pl L f) (WC x cy g L) sz) (va_A (XW x cy g N n a r ++ va_pl L f) sz)) 0 0 (va_A (XW x cy g N n a r ++ va_pl L f) sz) := by
  refine Met.ofW (cc := cX4_dropTurn) (maxL := 4) (ret := none) (by decide) rfl ?_
  intro p e s m args below meth c s₁ B hml hv
  obtain ⟨rfl, hsz, hP, hK, hD0⟩ := hv
  have hx := B.exec
  have hb := B.bytes
  have hr := B.returns
  have hts := atoms_spec (ws := wsX4_dropTurn) B.pre
  have hown : s.vm.findClass RX4 = some m.cls := findClass_of_methodNamed B.named
  have hlocks := B.notSynchronized
  subst hsz
  obtain ⟨hNB, hRB, hHT⟩ := hC
  have hSM : SM N N n n := SM_rf
  have hMM : MM N N a a := MM_rf
  have hD := hD0.self (sz := s.heap.size)
  have hA : ∀ q9 : Nat, s.heap.size ≤ q9 → va_A (XW x cy g N n a r ++ va_pl L f) s.heap.size q9 := fun q9 h => Or.inr h
  have hS : va_S (va_A (XW x cy g N n a r ++ va_pl L f) s.heap.size) s.heap s.heap [] := va_S.rf
  have hl := lv_entry ([.ref (x 14), .int v]) (n := 4) (Nat.le_of_ble_eq_true rfl)
  rw [lg_entry_eq]
  generalize (lg_sl ([.ref (x 14), .int v]) ++ List.replicate (4 - (lg_sl ([.ref (x 14), .int v])).length) Slot.unset).toArray = ls at hl ⊢
  have hl : lv_has ls 4 [(0, .ref (x 14)), (1, .int v)] := hl
  refine lv_iconst (v := 0) hx hb dX4_dropTurn_0 (by decide) ?_
  refine lv_istore_n (lv' := [(2, .int 0), (0, .ref (x 14)), (1, .int v)]) hx hb dX4_dropTurn_1 rfl hl (by decide) rfl (fun ls hl => ?_)
  refine lv_iconst (v := 0) hx hb dX4_dropTurn_2 (by decide) ?_
  refine lv_istore_n (lv' := [(3, .int 0), (2, .int 0), (0, .ref (x 14)), (1, .int v)]) hx hb dX4_dropTurn_3 rfl hl (by decide) rfl (fun ls hl => ?_)
  have key2 : ∀ (m9 j1 : Nat), 400 - j1 = m9 → j1 ≤ 400 → ∀ (N3 : Nat → Nat) (n4 : Nat → Int32) (a5 : Nat → Nat → Int32) (r6 : Nat → Nat → Option Nat) (f7 : Nat → va_E) (kq : Nat), kq ≤ j1 → j1 ≤ N3 8 → N3 8 = N 8 → ml (a5 0) kq = md (ml (a 0) j1) v → (∀ i, j1 ≤ i → a5 0 i = a 0 i) → NB N3 → RB L K N3 r6 → HT L K cy f7 → SM N N3 n n4 → ∀ (H : Heap) (locs : List Loc) (ls : Array Slot), va_P D vwCl (XW x cy g N3 n4 a5 r6 ++ va_pl L f7) H → va_D (va_A (XW x cy g N n a r ++ va_pl L f) s.heap.size) (XW x cy g N3 n4 a5 r6 ++ va_pl L f7) → va_S (va_A (XW x cy g N n a r ++ va_pl L f) s.heap.size) s.heap H locs → lv_has ls 4 [(3, .int (nI j1)), (2, .int (nI kq)), (0, .ref (x 14)), (1, .int v)] → W p l e (headSpec wsX4_dropTurn ({ frames := 0, cells := 0, slots := 0, locals := 0 })).room s m #[.ref (x 14), .int v] below meth c H locs 0 0 (MQ below (va_Qv (fun (u : ST) => CI L K cy u.1 u.2.2.2.1 u.2.2.2.2 ∧ SM N u.1 n u.2.1 ∧ ml (u.2.2.1 0) (u.1 8) = md (ml (a 0) (N 8)) v) (BU D (TYS cy) (XW x cy g N n a r ++ va_pl L f) (WC x cy g L) s.heap.size) (va_A (XW x cy g N n a r ++ va_pl L f) s.heap.size)) #[.ref (x 14), .int v] s 0 0 (va_A (XW x cy g N n a r ++ va_pl L f) s.heap.size)) (F0 m 4 ls []) := by
    intro m9
    induction m9 using Nat.strongRecOn with
    | _ m9 ihkey2 =>
      intro j1 hm9 hj400 N3 n4 a5 r6 f7 kq hkq hjN hN8 hml hrs hNB hRB hHT hSM H locs ls hP hD hS hl
      subst hm9
      have nb0 : N3 0 ≤ 12 := hNB 0 (by decide)
      have nb1 : N3 1 ≤ 40 := hNB 1 (by decide)
      have nb2 : N3 2 ≤ 20 := hNB 2 (by decide)
      have nb3 : N3 3 ≤ 4 := hNB 3 (by decide)
      have nb4 : N3 4 ≤ 3 := hNB 4 (by decide)
      have nb5 : N3 5 ≤ 20 := hNB 5 (by decide)
      have nb6 : N3 6 ≤ 20 := hNB 6 (by decide)
      have nb7 : N3 7 ≤ 20 := hNB 7 (by decide)
      have nb8 : N3 8 ≤ 30 := hNB 8 (by decide)
      have nb9 : N3 9 ≤ 400 := hNB 9 (by decide)
      refine lv_iload_n hx hb dX4_dropTurn_4 rfl (lv_at hl 0 rfl) ?_
      refine lv_aload_n hx hb dX4_dropTurn_5 rfl (lv_at hl 2 rfl) ?_
      refine va_get (D := D) (ci := 4) (v := .int (nI (N3 8))) (C := RX4) (T := TX4) (N := 4) hx hb hts iX4_dropTurn_4 hown hK hP 14 rfl rfl 3 (by decide) (hts (.fieldLink RX4 21 "FondsRoom$Mishaps" "size" "I") (by decide +kernel)) (fun _ h9 => h9) rfl dX4_dropTurn_6 ?_
      refine lv_icmp_ge (tgt := 67) hx hb dX4_dropTurn_9 (by decide) (fun c8 => ?_) (fun c8 => ?_)
      · skip
        have dc8 : (N3 8) ≤ j1 := (nI_leI (a := (N3 8)) (b := j1) (by omega) (by omega)).mp c8
        refine lv_aload_n hx hb dX4_dropTurn_67 rfl (lv_at hl 2 rfl) ?_
        refine lv_iload_n hx hb dX4_dropTurn_68 rfl (lv_at hl 1 rfl) ?_
        refine va_put (D := D) (ci := 4) (v := .int (nI kq)) (ty := .int) (C := RX4) (T := TX4) (N := 4) hx hb hts iX4_dropTurn_4 tyX4 tyX4_ok nmX4 hown hK hP hD hS 14 rfl rfl 3 (by decide) (hts (.fieldLink RX4 21 "FondsRoom$Mishaps" "size" "I") (by decide +kernel)) (fun _ h9 => h9) rfl (by decide +kernel) rfl rfl (Nat.le_of_ble_eq_true rfl) dX4_dropTurn_69 (fun H locs hP hD hS => ?_)
        obtain ⟨N9, eN9⟩ : ∃ z, z = va_up N3 8 kq := ⟨_, rfl⟩
        have hP : va_P D vwCl (XW x cy g N9 n4 a5 r6 ++ va_pl L f7) H := by rw [eN9]; exact hP
        have hD : va_D (va_A (XW x cy g N n a r ++ va_pl L f) s.heap.size) (XW x cy g N9 n4 a5 r6 ++ va_pl L f7) := by rw [eN9]; exact hD
        have hNB : NB N9 := by rw [eN9]; exact NB_up hNB 8 kq (by show kq ≤ 30; omega)
        have hRB : RB L K N9 r6 := by rw [eN9]; exact RB_N hRB 8 kq (fun j hj e9 => by omega)
        have hSM : SM N N9 n n4 := by rw [eN9]; exact SM_N hSM 8 kq (by decide)
        exact W.vret hx hb hr (fun t ht hW => ⟨⟨(N9, n4, a5, r6, f7), rfl, ⟨⟨hNB, hRB, hHT⟩, hSM, (by show ml (a5 0) (N9 8) = _; rw [eN9, va_up_self, hml]; congr 1; congr 1; omega)⟩, by rw [ht]; exact hP, va_K.moved hW.alike hK, hD⟩, hS.F ht⟩) hS.2.2 dX4_dropTurn_72
      · skip
        have dc8 : j1 < (N3 8) := Nat.not_le.mp (fun h9 => c8 ((nI_leI (a := (N3 8)) (b := j1) (by omega) (by omega)).mpr h9))
        refine lv_aload_n hx hb dX4_dropTurn_12 rfl (lv_at hl 2 rfl) ?_
        refine va_get (D := D) (ci := 4) (v := .ref (x 15)) (C := RX4) (T := TX4) (N := 4) hx hb hts iX4_dropTurn_4 hown hK hP 14 rfl rfl 0 (by decide) (hts (.fieldLink RX4 9 "FondsRoom$Mishaps" "turns" "[I") (by decide +kernel)) (fun _ h9 => h9) rfl dX4_dropTurn_13 ?_
        refine lv_iload_n hx hb dX4_dropTurn_16 rfl (lv_at hl 0 rfl) ?_
        refine va_iald hx hb hK hP 15 0 rfl rfl (vp_in_nI (by omega) (by omega)) dX4_dropTurn_17 ?_
        refine lv_topi (fun y10 ey10 => ?_)
        rw [nI_clamp (by omega)] at ey10
        refine lv_iload_n hx hb dX4_dropTurn_18 rfl (lv_at hl 3 rfl) ?_
        refine lv_icmp_eq (tgt := 61) hx hb dX4_dropTurn_19 (by decide) (fun c11 => ?_) (fun c11 => ?_)
        · skip
          refine lv_iinc (v := nI (j1 + 1)) (lv' := [(3, .int (nI (j1 + 1))), (2, .int (nI kq)), (0, .ref (x 14)), (1, .int v)]) hx hb dX4_dropTurn_61 hl (k := 0) rfl (by rw [← nI_1]; rfl) (by decide) rfl (fun ls hl => ?_)
          refine lv_goto (tgt := 4) hx hb dX4_dropTurn_64 (by decide) ?_
          exact ihkey2 (400 - ((j1 + 1))) (by omega) ((j1 + 1)) rfl (by omega) N3 n4 a5 r6 f7 (kq) (by omega) (by omega) (by omega) (by rw [md_e _ _ _ ((hrs j1 (Nat.le_refl _)).symm.trans (ey10.symm.trans c11))]; exact hml) (fun i9 hi9 => hrs i9 (by omega)) hNB hRB hHT hSM _ _ _ hP hD hS (lv_sub hl [0, 1, 2, 3] rfl)
        · skip
          refine lv_aload_n hx hb dX4_dropTurn_22 rfl (lv_at hl 2 rfl) ?_
          refine va_get (D := D) (ci := 4) (v := .ref (x 15)) (C := RX4) (T := TX4) (N := 4) hx hb hts iX4_dropTurn_4 hown hK hP 14 rfl rfl 0 (by decide) (hts (.fieldLink RX4 9 "FondsRoom$Mishaps" "turns" "[I") (by decide +kernel)) (fun _ h9 => h9) rfl dX4_dropTurn_23 ?_
          refine lv_iload_n hx hb dX4_dropTurn_26 rfl (lv_at hl 1 rfl) ?_
          refine lv_aload_n hx hb dX4_dropTurn_27 rfl (lv_at hl 2 rfl) ?_
          refine va_get (D := D) (ci := 4) (v := .ref (x 15)) (C := RX4) (T := TX4) (N := 4) hx hb hts iX4_dropTurn_4 hown hK hP 14 rfl rfl 0 (by decide) (hts (.fieldLink RX4 9 "FondsRoom$Mishaps" "turns" "[I") (by decide +kernel)) (fun _ h9 => h9) rfl dX4_dropTurn_28 ?_
          refine lv_iload_n hx hb dX4_dropTurn_31 rfl (lv_at hl 0 rfl) ?_
          refine va_iald hx hb hK hP 15 0 rfl rfl (vp_in_nI (by omega) (by omega)) dX4_dropTurn_32 ?_
          refine lv_topi (fun y12 ey12 => ?_)
          rw [nI_clamp (by omega)] at ey12
          refine va_iast hx hb hK hP hD hS 15 0 rfl rfl (vp_in_nI (by omega) (by omega)) dX4_dropTurn_33 (fun H locs hP hD hS => ?_)
          rw [nI_clamp (by omega)] at hP hD
          obtain ⟨a13, ea13⟩ : ∃ z, z = va_up a5 0 (upd (a5 0) (kq) y12) := ⟨_, rfl⟩
          have hP : va_P D vwCl (XW x cy g N3 n4 a13 r6 ++ va_pl L f7) H := by rw [ea13]; exact hP
          have hD : va_D (va_A (XW x cy g N n a r ++ va_pl L f) s.heap.size) (XW x cy g N3 n4 a13 r6 ++ va_pl L f7) := by rw [ea13]; exact hD
          refine lv_aload_n hx hb dX4_dropTurn_34 rfl (lv_at hl 2 rfl) ?_
          refine va_get (D := D) (ci := 4) (v := .ref (x 16)) (C := RX4) (T := TX4) (N := 4) hx hb hts iX4_dropTurn_4 hown hK hP 14 rfl rfl 1 (by decide) (hts (.fieldLink RX4 15 "FondsRoom$Mishaps" "kinds" "[I") (by decide +kernel)) (fun _ h9 => h9) rfl dX4_dropTurn_35 ?_
          refine lv_iload_n hx hb dX4_dropTurn_38 rfl (lv_at hl 1 rfl) ?_
          refine lv_aload_n hx hb dX4_dropTurn_39 rfl (lv_at hl 2 rfl) ?_
          refine va_get (D := D) (ci := 4) (v := .ref (x 16)) (C := RX4) (T := TX4) (N := 4) hx hb hts iX4_dropTurn_4 hown hK hP 14 rfl rfl 1 (by decide) (hts (.fieldLink RX4 15 "FondsRoom$Mishaps" "kinds" "[I") (by decide +kernel)) (fun _ h9 => h9) rfl dX4_dropTurn_40 ?_
          refine lv_iload_n hx hb dX4_dropTurn_43 rfl (lv_at hl 0 rfl) ?_
          refine va_iald hx hb hK hP 16 0 rfl rfl (vp_in_nI (by omega) (by omega)) dX4_dropTurn_44 ?_
          refine lv_topi (fun y14 ey14 => ?_)
          rw [nI_clamp (by omega)] at ey14
          refine va_iast hx hb hK hP hD hS 16 0 rfl rfl (vp_in_nI (by omega) (by omega)) dX4_dropTurn_45 (fun H locs hP hD hS => ?_)
          rw [nI_clamp (by omega)] at hP hD
          obtain ⟨a15, ea15⟩ : ∃ z, z = va_up a13 1 (upd (a13 1) (kq) y14) := ⟨_, rfl⟩
          have hP : va_P D vwCl (XW x cy g N3 n4 a15 r6 ++ va_pl L f7) H := by rw [ea15]; exact hP
          have hD : va_D (va_A (XW x cy g N n a r ++ va_pl L f) s.heap.size) (XW x cy g N3 n4 a15 r6 ++ va_pl L f7) := by rw [ea15]; exact hD
          refine lv_aload_n hx hb dX4_dropTurn_46 rfl (lv_at hl 2 rfl) ?_
          refine va_get (D := D) (ci := 4) (v := .ref (x 17)) (C := RX4) (T := TX4) (N := 4) hx hb hts iX4_dropTurn_4 hown hK hP 14 rfl rfl 2 (by decide) (hts (.fieldLink RX4 18 "FondsRoom$Mishaps" "whos" "[I") (by decide +kernel)) (fun _ h9 => h9) rfl dX4_dropTurn_47 ?_
          refine lv_iload_n hx hb dX4_dropTurn_50 rfl (lv_at hl 1 rfl) ?_
          refine lv_aload_n hx hb dX4_dropTurn_51 rfl (lv_at hl 2 rfl) ?_
          refine va_get (D := D) (ci := 4) (v := .ref (x 17)) (C := RX4) (T := TX4) (N := 4) hx hb hts iX4_dropTurn_4 hown hK hP 14 rfl rfl 2 (by decide) (hts (.fieldLink RX4 18 "FondsRoom$Mishaps" "whos" "[I") (by decide +kernel)) (fun _ h9 => h9) rfl dX4_dropTurn_52 ?_
          refine lv_iload_n hx hb dX4_dropTurn_55 rfl (lv_at hl 0 rfl) ?_
          refine va_iald hx hb hK hP 17 0 rfl rfl (vp_in_nI (by omega) (by omega)) dX4_dropTurn_56 ?_
          refine lv_topi (fun y16 ey16 => ?_)
          rw [nI_clamp (by omega)] at ey16
          refine va_iast hx hb hK hP hD hS 17 0 rfl rfl (vp_in_nI (by omega) (by omega)) dX4_dropTurn_57 (fun H locs hP hD hS => ?_)
          rw [nI_clamp (by omega)] at hP hD
          obtain ⟨a17, ea17⟩ : ∃ z, z = va_up a15 2 (upd (a15 2) (kq) y16) := ⟨_, rfl⟩
          have hP : va_P D vwCl (XW x cy g N3 n4 a17 r6 ++ va_pl L f7) H := by rw [ea17]; exact hP
          have hD : va_D (va_A (XW x cy g N n a r ++ va_pl L f) s.heap.size) (XW x cy g N3 n4 a17 r6 ++ va_pl L f7) := by rw [ea17]; exact hD
          refine lv_iinc (v := nI (kq + 1)) (lv' := [(2, .int (nI (kq + 1))), (3, .int (nI j1)), (0, .ref (x 14)), (1, .int v)]) hx hb dX4_dropTurn_58 hl (k := 1) rfl (by rw [← nI_1]; rfl) (by decide) rfl (fun ls hl => ?_)
          refine lv_iinc (v := nI (j1 + 1)) (lv' := [(3, .int (nI (j1 + 1))), (2, .int (nI (kq + 1))), (0, .ref (x 14)), (1, .int v)]) hx hb dX4_dropTurn_61 hl (k := 1) rfl (by rw [← nI_1]; rfl) (by decide) rfl (fun ls hl => ?_)
          refine lv_goto (tgt := 4) hx hb dX4_dropTurn_64 (by decide) ?_
          exact ihkey2 (400 - ((j1 + 1))) (by omega) ((j1 + 1)) rfl (by omega) N3 n4 a17 r6 f7 ((kq + 1)) (by omega) (by omega) (by omega) (by rw [md_n _ _ _ (fun h9 => c11 (ey10.trans ((hrs j1 (Nat.le_refl _)).trans h9))), ea17, ea15, ea13, va_up_ne _ _ (show 0 ≠ 2 by decide), va_up_ne _ _ (show 0 ≠ 1 by decide), va_up_self, ml_put, ey12, hml, hrs j1 (Nat.le_refl _)]) (by rw [ea17, ea15, ea13, va_up_ne _ _ (show 0 ≠ 2 by decide), va_up_ne _ _ (show 0 ≠ 1 by decide), va_up_self]; exact ml_rest hrs hkq) hNB hRB hHT hSM _ _ _ hP hD hS (lv_sub hl [0, 1, 2, 3] rfl)
  have nb0 : N 0 ≤ 12 := hNB 0 (by decide)
  have nb1 : N 1 ≤ 40 := hNB 1 (by decide)
  have nb2 : N 2 ≤ 20 := hNB 2 (by decide)
  have nb3 : N 3 ≤ 4 := hNB 3 (by decide)
  have nb4 : N 4 ≤ 3 := hNB 4 (by decide)
  have nb5 : N 5 ≤ 20 := hNB 5 (by decide)
  have nb6 : N 6 ≤ 20 := hNB 6 (by decide)
  have nb7 : N 7 ≤ 20 := hNB 7 (by decide)
  have nb8 : N 8 ≤ 30 := hNB 8 (by decide)
  have nb9 : N 9 ≤ 400 := hNB 9 (by decide)
  exact key2 (400 - (0)) (0) rfl (by omega) N n a r f 0 (by omega) (by omega) rfl rfl (fun _ _ => rfl) hNB hRB hHT hSM _ _ _ hP hD hS (lv_sub hl [0, 1, 2, 3] rfl)
