theorem iX9_bring_0 : ∀ w ∈ wsX00, w ∈ wsX9_bring := fun _ h => List.mem_cons_of_mem _ (List.mem_append_left _ (List.mem_append_left _ (List.mem_append_left _ (List.mem_append_left _ (List.mem_append_right _ h)))))
theorem iX9_bring_6 : ∀ w ∈ wsX60, w ∈ wsX9_bring := fun _ h => List.mem_cons_of_mem _ (List.mem_append_left _ (List.mem_append_left _ (List.mem_append_right _ h)))
theorem iX9_bring_9 : ∀ w ∈ wsX90, w ∈ wsX9_bring := fun _ h => List.mem_cons_of_mem _ (List.mem_append_left _ (List.mem_append_left _ (List.mem_append_left _ (List.mem_append_right _ h))))
set_option maxHeartbeats 4000000 in
set_option maxRecDepth 100000 in
theorem zX9_bring_r (l : Launch) (D : va_G) (x : Nat → Nat) (cy : Nat → ClassId) (g : Nat → Nat → Option Nat) (L : List Nat) (K : Nat → Nat) (hG : GO L K g) (N : Nat → Nat) (n : Nat → Int32) (a : Nat → Nat → Int32) (r : Nat → Nat → Option Nat) (f : Nat → va_E) (hC : CI L K cy N r f) (sz : Nat) (bx rd : Nat) (mbx : bx ∈ L ∧ K bx = 0) (mrd : rd ∈ L ∧ K rd = 6) : Met l yX9_bring wsX9_bring ({ frames := 1, cells := 0, slots := 0, locals := 25 }) (PW D (TYS cy) (XW x cy g N n a r ++ va_pl L f) sz [.ref (x 0), .ref bx, .ref rd]) (va_Qv (fun (u : ST) => CI L K cy u.1 u.2.2.2.1 u.2.2.2.2 ∧ SM N u.1 n u.2.1 ∧ MM N u.1 a u.2.2.1 ∧ True) (BU D (TYS cy) (XW x cy g N n a r ++ va_pl L f) (WC x cy g L) sz) (va_A (XW x cy g N n a r ++ va_pl L f) sz)) 0 0 (va_A (XW x cy g N n a r ++ va_pl L f) sz) := by
  refine Met.ofW (cc := cX9_bring) (maxL := 3) (ret := none) (by decide) rfl ?_
  intro p e s m args below meth c s₁ B hml hv
  obtain ⟨rfl, hsz, hP, hK, hD0⟩ := hv
  have hx := B.exec
  have hb := B.bytes
  have hr := B.returns
  have hts := atoms_spec (ws := wsX9_bring) B.pre
  have hown : s.vm.findClass RX9 = some m.cls := findClass_of_methodNamed B.named
  have hlocks := B.notSynchronized
  subst hsz
  obtain ⟨hNB, hRB, hHT⟩ := hC
  have hSM : SM N N n n := SM_rf
  have hMM : MM N N a a := MM_rf
  have hD := hD0.self (sz := s.heap.size)
  have hA : ∀ q9 : Nat, s.heap.size ≤ q9 → va_A (XW x cy g N n a r ++ va_pl L f) s.heap.size q9 := fun q9 h => Or.inr h
  have hS : va_S (va_A (XW x cy g N n a r ++ va_pl L f) s.heap.size) s.heap s.heap [] := va_S.rf
  have hl := lv_entry ([.ref (x 0), .ref bx, .ref rd]) (n := 3) (Nat.le_of_ble_eq_true rfl)
  rw [lg_entry_eq]
  generalize (lg_sl ([.ref (x 0), .ref bx, .ref rd]) ++ List.replicate (3 - (lg_sl ([.ref (x 0), .ref bx, .ref rd])).length) Slot.unset).toArray = ls at hl ⊢
  have hl : lv_has ls 3 [(0, .ref (x 0)), (1, .ref bx), (2, .ref rd)] := hl
  refine lv_aload_n hx hb dX9_bring_0 rfl (lv_at hl 2 rfl) ?_
  refine lv_ifnonnull (tgt := 30) hx hb dX9_bring_1 (by decide) ?_
  refine lv_aload_n hx hb dX9_bring_30 rfl (lv_at hl 1 rfl) ?_
  obtain ⟨n_o1, fo_o1, pr_o1, pl_o1, h_o1, w_o1, hf_o1, spr_o1, sh_o1, sw_o1⟩ : TE L K cy 0 (f bx) := by rw [← mbx.2]; exact hHT bx mbx.1
  refine pg_get (D := D) (ci := 0) (v := va_rf w_o1) (C := RX0) (T := TX0) (N := 6) hx hb hts iX9_bring_0 hown hK hP mbx.1 hf_o1 rfl 5 (by decide) (hts (.fieldLink RX9 260 "FondsRoom$Box" "wanter" "LFondsRoom$Reader;") (by decide +kernel)) (fun _ h9 => h9) rfl dX9_bring_31 ?_
  refine lv_aload_n hx hb dX9_bring_34 rfl (lv_at hl 2 rfl) ?_
  refine lv_acmp_ne (rx := w_o1) (ry := (some rd)) (tgt := 95) hx hb dX9_bring_35 (by decide) (fun c2 => ?_) (fun c2 => ?_)
  · skip
    refine lv_aload_n hx hb dX9_bring_95 rfl (lv_at hl 1 rfl) ?_
    refine lv_iconst (v := 2) hx hb dX9_bring_96 (by decide) ?_
    refine pg_put (D := D) (ci := 0) (v := .int 2) (ty := .int) (C := RX0) (T := TX0) (N := 6) hx hb hts iX9_bring_0 tyX0 tyX0_ok nmX0 hown hK hP hD hS mbx.1 hf_o1 rfl 3 (by decide) (hts (.fieldLink RX9 233 "FondsRoom$Box" "place" "I") (by decide +kernel)) (fun _ h9 => h9) rfl (by decide +kernel) rfl rfl (Nat.le_of_ble_eq_true rfl) dX9_bring_97 (fun H locs hP hD hS => ?_)
    obtain ⟨f3, ef3⟩ : ∃ z, z = va_up f bx (.inr (0, [.int n_o1, .int fo_o1, .int pr_o1, .int 2, va_rf h_o1, va_rf w_o1])) := ⟨_, rfl⟩
    have hP : va_P D vwCl (XW x cy g N n a r ++ va_pl L f3) H := by rw [ef3]; exact hP
    have hD : va_D (va_A (XW x cy g N n a r ++ va_pl L f) s.heap.size) (XW x cy g N n a r ++ va_pl L f3) := by rw [ef3]; exact hD
    have hHT : HT L K cy f3 := by rw [ef3]; exact HT_up hHT 0 mbx.2 ⟨n_o1, fo_o1, pr_o1, 2, h_o1, w_o1, rfl, spr_o1, sh_o1, sw_o1⟩
    have hf4 : f3 bx = .inr (0, [.int n_o1, .int fo_o1, .int pr_o1, .int 2, va_rf h_o1, va_rf w_o1]) := by rw [ef3]; exact va_up_self _ _ _
    exact W.vret hx hb hr (fun t ht hW => ⟨⟨(N, n, a, r, f3), rfl, ⟨⟨hNB, hRB, hHT⟩, hSM, hMM, trivial⟩, by rw [ht]; exact hP, va_K.moved hW.alike hK, hD⟩, hS.F ht⟩) hS.2.2 dX9_bring_100
  · skip
    refine lv_aload_n hx hb dX9_bring_38 rfl (lv_at hl 0 rfl) ?_
    refine va_get (D := D) (ci := 9) (v := .ref (x 10)) (C := RX9) (T := TX9) (N := 19) hx hb hts iX9_bring_9 hown hK hP 0 rfl rfl 6 (by decide) (hts (.fieldLink RX9 51 "FondsRoom" "boxTickets" "LFondsRoom$Line;") (by decide +kernel)) (fun _ h9 => h9) rfl dX9_bring_39 ?_
    refine lv_aload_n hx hb dX9_bring_42 rfl (lv_at hl 2 rfl) ?_
    refine gvV (As := [.ref rd]) (rest := []) ⟨hx, hb, hml, hown, hts⟩ (zX3_remove_1 l D x cy g L K hG N n a r f ⟨hNB, hRB, hHT⟩ _ rd  ⟨mrd.1, mrd.2⟩) (cwV 1 hts gX9_bring_X3_remove rfl rfl rfl (by decide +kernel) ⟨Nat.le_of_ble_eq_true rfl, Nat.le_of_ble_eq_true rfl⟩) hK hP hD hS hA (va_recv hK hP (ci := 3) (q0 := 10) rfl rfl) rfl hl.1 rfl (Nat.le_of_ble_eq_true rfl) dX9_bring_43 ⟨Nat.le_of_ble_eq_true rfl, Nat.le_of_ble_eq_true rfl⟩ (fun u6 H locs hq5 hP hD hS => ?_)
    obtain ⟨N7, n8, a9, r10, f11⟩ := u6
    obtain ⟨⟨hNB, hRB, hHT⟩, hs12, hv13, hq5b⟩ := hq5
    have hSM : SM N N7 n n8 := SM_tr hSM hs12
    have hMM : MM N N7 a a9 := MM_tr hMM hv13
    have hP : va_P D vwCl (XW x cy g N7 n8 a9 r10 ++ va_pl L f11) H := hP
    have hD : va_D _ (XW x cy g N7 n8 a9 r10 ++ va_pl L f11) := hD
    refine lv_aload_n hx hb dX9_bring_46 rfl (lv_at hl 1 rfl) ?_
    refine lv_null hx hb dX9_bring_47 ?_
    obtain ⟨n_o14, fo_o14, pr_o14, pl_o14, h_o14, w_o14, hf_o14, spr_o14, sh_o14, sw_o14⟩ : TE L K cy 0 (f11 bx) := by rw [← mbx.2]; exact hHT bx mbx.1
    refine pg_put (D := D) (ci := 0) (v := .null) (ty := (.object "FondsRoom$Reader")) (C := RX0) (T := TX0) (N := 6) hx hb hts iX9_bring_0 tyX0 tyX0_ok nmX0 hown hK hP hD hS mbx.1 hf_o14 rfl 5 (by decide) (hts (.fieldLink RX9 260 "FondsRoom$Box" "wanter" "LFondsRoom$Reader;") (by decide +kernel)) (fun _ h9 => h9) rfl (by decide +kernel) rfl rfl (Nat.le_of_ble_eq_true rfl) dX9_bring_48 (fun H locs hP hD hS => ?_)
    obtain ⟨f15, ef15⟩ : ∃ z, z = va_up f11 bx (.inr (0, [.int n_o14, .int fo_o14, .int pr_o14, .int pl_o14, va_rf h_o14, .null])) := ⟨_, rfl⟩
    have hP : va_P D vwCl (XW x cy g N7 n8 a9 r10 ++ va_pl L f15) H := by rw [ef15]; exact hP
    have hD : va_D (va_A (XW x cy g N n a r ++ va_pl L f) s.heap.size) (XW x cy g N7 n8 a9 r10 ++ va_pl L f15) := by rw [ef15]; exact hD
    have hHT : HT L K cy f15 := by rw [ef15]; exact HT_up hHT 0 mbx.2 ⟨n_o14, fo_o14, pr_o14, pl_o14, h_o14, none, rfl, spr_o14, sh_o14, rok_none⟩
    have hf16 : f15 bx = .inr (0, [.int n_o14, .int fo_o14, .int pr_o14, .int pl_o14, va_rf h_o14, .null]) := by rw [ef15]; exact va_up_self _ _ _
    refine lv_aload_n hx hb dX9_bring_51 rfl (lv_at hl 1 rfl) ?_
    refine lv_aload_n hx hb dX9_bring_52 rfl (lv_at hl 2 rfl) ?_
    refine pg_put (D := D) (ci := 0) (v := .ref rd) (ty := (.object "FondsRoom$Reader")) (C := RX0) (T := TX0) (N := 6) hx hb hts iX9_bring_0 tyX0 tyX0_ok nmX0 hown hK hP hD hS mbx.1 hf16 rfl 4 (by decide) (hts (.fieldLink RX9 239 "FondsRoom$Box" "holder" "LFondsRoom$Reader;") (by decide +kernel)) (fun _ h9 => h9) rfl (by decide +kernel) rfl rfl (Nat.le_of_ble_eq_true rfl) dX9_bring_53 (fun H locs hP hD hS => ?_)
    obtain ⟨f17, ef17⟩ : ∃ z, z = va_up f15 bx (.inr (0, [.int n_o14, .int fo_o14, .int pr_o14, .int pl_o14, .ref rd, .null])) := ⟨_, rfl⟩
    have hP : va_P D vwCl (XW x cy g N7 n8 a9 r10 ++ va_pl L f17) H := by rw [ef17]; exact hP
    have hD : va_D (va_A (XW x cy g N n a r ++ va_pl L f) s.heap.size) (XW x cy g N7 n8 a9 r10 ++ va_pl L f17) := by rw [ef17]; exact hD
    have hHT : HT L K cy f17 := by rw [ef17]; exact HT_up hHT 0 mbx.2 ⟨n_o14, fo_o14, pr_o14, pl_o14, (some rd), none, rfl, spr_o14, (rok_some mrd.1 mrd.2), rok_none⟩
    have hf18 : f17 bx = .inr (0, [.int n_o14, .int fo_o14, .int pr_o14, .int pl_o14, .ref rd, .null]) := by rw [ef17]; exact va_up_self _ _ _
    refine lv_aload_n hx hb dX9_bring_56 rfl (lv_at hl 1 rfl) ?_
    refine lv_iconst (v := 1) hx hb dX9_bring_57 (by decide) ?_
    refine pg_put (D := D) (ci := 0) (v := .int 1) (ty := .int) (C := RX0) (T := TX0) (N := 6) hx hb hts iX9_bring_0 tyX0 tyX0_ok nmX0 hown hK hP hD hS mbx.1 hf18 rfl 3 (by decide) (hts (.fieldLink RX9 233 "FondsRoom$Box" "place" "I") (by decide +kernel)) (fun _ h9 => h9) rfl (by decide +kernel) rfl rfl (Nat.le_of_ble_eq_true rfl) dX9_bring_58 (fun H locs hP hD hS => ?_)
    obtain ⟨f19, ef19⟩ : ∃ z, z = va_up f17 bx (.inr (0, [.int n_o14, .int fo_o14, .int pr_o14, .int 1, .ref rd, .null])) := ⟨_, rfl⟩
    have hP : va_P D vwCl (XW x cy g N7 n8 a9 r10 ++ va_pl L f19) H := by rw [ef19]; exact hP
    have hD : va_D (va_A (XW x cy g N n a r ++ va_pl L f) s.heap.size) (XW x cy g N7 n8 a9 r10 ++ va_pl L f19) := by rw [ef19]; exact hD
    have hHT : HT L K cy f19 := by rw [ef19]; exact HT_up hHT 0 mbx.2 ⟨n_o14, fo_o14, pr_o14, 1, (some rd), none, rfl, spr_o14, (rok_some mrd.1 mrd.2), rok_none⟩
    have hf20 : f19 bx = .inr (0, [.int n_o14, .int fo_o14, .int pr_o14, .int 1, .ref rd, .null]) := by rw [ef19]; exact va_up_self _ _ _
    refine lv_aload_n hx hb dX9_bring_61 rfl (lv_at hl 2 rfl) ?_
    refine lv_null hx hb dX9_bring_62 ?_
    obtain ⟨n_o21, p_o21, ar_o21, rk_o21, nw_o21, st_o21, ct_o21, d_o21, aw_o21, rl_o21, cp_o21, cu_o21, w1_o21, w2_o21, w3_o21, ov_o21, co_o21, hf_o21, sp_o21, snw_o21, sd_o21, saw_o21, scu_o21⟩ : TE L K cy 6 (f19 rd) := by rw [← mrd.2]; exact hHT rd mrd.1
    refine pg_put (D := D) (ci := 6) (v := .null) (ty := (.object "FondsRoom$Box")) (C := RX6) (T := TX6) (N := 17) hx hb hts iX9_bring_6 tyX6 tyX6_ok nmX6 hown hK hP hD hS mrd.1 hf_o21 rfl 8 (by decide) (hts (.fieldLink RX9 267 "FondsRoom$Reader" "awaited" "LFondsRoom$Box;") (by decide +kernel)) (fun _ h9 => h9) rfl (by decide +kernel) rfl rfl (Nat.le_of_ble_eq_true rfl) dX9_bring_63 (fun H locs hP hD hS => ?_)
    obtain ⟨f22, ef22⟩ : ∃ z, z = va_up f19 rd (.inr (6, [.int n_o21, .ref p_o21, .int ar_o21, .int rk_o21, .int nw_o21, .int st_o21, .int ct_o21, va_rf d_o21, .null, .int rl_o21, .int cp_o21, .int cu_o21, .int w1_o21, .int w2_o21, .int w3_o21, .int ov_o21, .int co_o21])) := ⟨_, rfl⟩
    have hP : va_P D vwCl (XW x cy g N7 n8 a9 r10 ++ va_pl L f22) H := by rw [ef22]; exact hP
    have hD : va_D (va_A (XW x cy g N n a r ++ va_pl L f) s.heap.size) (XW x cy g N7 n8 a9 r10 ++ va_pl L f22) := by rw [ef22]; exact hD
    have hHT : HT L K cy f22 := by rw [ef22]; exact HT_up hHT 6 mrd.2 ⟨n_o21, p_o21, ar_o21, rk_o21, nw_o21, st_o21, ct_o21, d_o21, none, rl_o21, cp_o21, cu_o21, w1_o21, w2_o21, w3_o21, ov_o21, co_o21, rfl, ⟨sp_o21.1, sp_o21.2⟩, snw_o21, sd_o21, rok_none, scu_o21⟩
    have hf23 : f22 rd = .inr (6, [.int n_o21, .ref p_o21, .int ar_o21, .int rk_o21, .int nw_o21, .int st_o21, .int ct_o21, va_rf d_o21, .null, .int rl_o21, .int cp_o21, .int cu_o21, .int w1_o21, .int w2_o21, .int w3_o21, .int ov_o21, .int co_o21]) := by rw [ef22]; exact va_up_self _ _ _
    have hf24 : f22 bx = .inr (0, [.int n_o14, .int fo_o14, .int pr_o14, .int 1, .ref rd, .null]) := by rw [ef22]; exact (va_up_ne _ _ (fun h9 => absurd (mbx.2.symm.trans ((congrArg K h9).trans mrd.2)) (by decide))).trans hf20
    refine lv_aload_n hx hb dX9_bring_66 rfl (lv_at hl 2 rfl) ?_
    refine lv_bipush (v := 8) hx hb dX9_bring_67 (by decide) ?_
    refine pg_put (D := D) (ci := 6) (v := .int 8) (ty := .int) (C := RX6) (T := TX6) (N := 17) hx hb hts iX9_bring_6 tyX6 tyX6_ok nmX6 hown hK hP hD hS mrd.1 hf23 rfl 5 (by decide) (hts (.fieldLink RX9 270 "FondsRoom$Reader" "state" "I") (by decide +kernel)) (fun _ h9 => h9) rfl (by decide +kernel) rfl rfl (Nat.le_of_ble_eq_true rfl) dX9_bring_69 (fun H locs hP hD hS => ?_)
    obtain ⟨f25, ef25⟩ : ∃ z, z = va_up f22 rd (.inr (6, [.int n_o21, .ref p_o21, .int ar_o21, .int rk_o21, .int nw_o21, .int 8, .int ct_o21, va_rf d_o21, .null, .int rl_o21, .int cp_o21, .int cu_o21, .int w1_o21, .int w2_o21, .int w3_o21, .int ov_o21, .int co_o21])) := ⟨_, rfl⟩
    have hP : va_P D vwCl (XW x cy g N7 n8 a9 r10 ++ va_pl L f25) H := by rw [ef25]; exact hP
    have hD : va_D (va_A (XW x cy g N n a r ++ va_pl L f) s.heap.size) (XW x cy g N7 n8 a9 r10 ++ va_pl L f25) := by rw [ef25]; exact hD
    have hHT : HT L K cy f25 := by rw [ef25]; exact HT_up hHT 6 mrd.2 ⟨n_o21, p_o21, ar_o21, rk_o21, nw_o21, 8, ct_o21, d_o21, none, rl_o21, cp_o21, cu_o21, w1_o21, w2_o21, w3_o21, ov_o21, co_o21, rfl, ⟨sp_o21.1, sp_o21.2⟩, snw_o21, sd_o21, rok_none, scu_o21⟩
    have hf26 : f25 rd = .inr (6, [.int n_o21, .ref p_o21, .int ar_o21, .int rk_o21, .int nw_o21, .int 8, .int ct_o21, va_rf d_o21, .null, .int rl_o21, .int cp_o21, .int cu_o21, .int w1_o21, .int w2_o21, .int w3_o21, .int ov_o21, .int co_o21]) := by rw [ef25]; exact va_up_self _ _ _
    have hf27 : f25 bx = .inr (0, [.int n_o14, .int fo_o14, .int pr_o14, .int 1, .ref rd, .null]) := by rw [ef25]; exact (va_up_ne _ _ (fun h9 => absurd (mbx.2.symm.trans ((congrArg K h9).trans mrd.2)) (by decide))).trans hf24
    refine lv_aload_n hx hb dX9_bring_72 rfl (lv_at hl 0 rfl) ?_
    refine va_get (D := D) (ci := 9) (v := .ref (x 18)) (C := RX9) (T := TX9) (N := 19) hx hb hts iX9_bring_9 hown hK hP 0 rfl rfl 9 (by decide) (hts (.fieldLink RX9 67 "FondsRoom" "events" "LFondsRoom$Events;") (by decide +kernel)) (fun _ h9 => h9) rfl dX9_bring_73 ?_
    refine lv_aload_n hx hb dX9_bring_76 rfl (lv_at hl 0 rfl) ?_
    refine va_get (D := D) (ci := 9) (v := .int (n8 1)) (C := RX9) (T := TX9) (N := 19) hx hb hts iX9_bring_9 hown hK hP 0 rfl rfl 14 (by decide) (hts (.fieldLink RX9 78 "FondsRoom" "turn" "I") (by decide +kernel)) (fun _ h9 => h9) rfl dX9_bring_77 ?_
    refine lv_aload_n hx hb dX9_bring_80 rfl (lv_at hl 2 rfl) ?_
    refine pg_get (D := D) (ci := 6) (v := .int n_o21) (C := RX6) (T := TX6) (N := 17) hx hb hts iX9_bring_6 hown hK hP mrd.1 hf26 rfl 0 (by decide) (hts (.fieldLink RX9 273 "FondsRoom$Reader" "number" "I") (by decide +kernel)) (fun _ h9 => h9) rfl dX9_bring_81 ?_
    refine lv_iconst (v := 5) hx hb dX9_bring_84 (by decide) ?_
    refine lv_aload_n hx hb dX9_bring_85 rfl (lv_at hl 1 rfl) ?_
    refine pg_get (D := D) (ci := 0) (v := .int n_o14) (C := RX0) (T := TX0) (N := 6) hx hb hts iX9_bring_0 hown hK hP mbx.1 hf27 rfl 0 (by decide) (hts (.fieldLink RX9 253 "FondsRoom$Box" "number" "I") (by decide +kernel)) (fun _ h9 => h9) rfl dX9_bring_86 ?_
    refine gvV (As := [.int (n8 1), .int n_o21, .int 5, .int n_o14]) (rest := []) ⟨hx, hb, hml, hown, hts⟩ (zX2_keep l D x cy g L K hG N7 n8 a9 r10 f25 ⟨hNB, hRB, hHT⟩ _  (n8 1) n_o21 5 n_o14 ) (cwV 4 hts gX9_bring_X2_keep rfl rfl rfl (by decide +kernel) ⟨Nat.le_of_ble_eq_true rfl, Nat.le_of_ble_eq_true rfl⟩) hK hP hD hS hA (va_recv hK hP (ci := 2) (q0 := 18) rfl rfl) rfl hl.1 rfl (Nat.le_of_ble_eq_true rfl) dX9_bring_89 ⟨Nat.le_of_ble_eq_true rfl, Nat.le_of_ble_eq_true rfl⟩ (fun u29 H locs hq28 hP hD hS => ?_)
    obtain ⟨N30, n31, a32, r33, f34⟩ := u29
    obtain ⟨⟨hNB, hRB, hHT⟩, hs35, hv36, hq28b⟩ := hq28
    have hSM : SM N N30 n n31 := SM_tr hSM hs35
    have hMM : MM N N30 a a32 := MM_tr hMM hv36
    have hP : va_P D vwCl (XW x cy g N30 n31 a32 r33 ++ va_pl L f34) H := hP
    have hD : va_D _ (XW x cy g N30 n31 a32 r33 ++ va_pl L f34) := hD
    refine lv_goto (tgt := 100) hx hb dX9_bring_92 (by decide) ?_
    exact W.vret hx hb hr (fun t ht hW => ⟨⟨(N30, n31, a32, r33, f34), rfl, ⟨⟨hNB, hRB, hHT⟩, hSM, hMM, trivial⟩, by rw [ht]; exact hP, va_K.moved hW.alike hK, hD⟩, hS.F ht⟩) hS.2.2 dX9_bring_100

set_option maxHeartbeats 4000000 in
set_option maxRecDepth 100000 in
theorem zX9_bring_n (l : Launch) (D : va_G) (x : Nat → Nat) (cy : Nat → ClassId) (g : Nat → Nat → Option Nat) (L : List Nat) (K : Nat → Nat) (hG : GO L K g) (N : Nat → Nat) (n : Nat → Int32) (a : Nat → Nat → Int32) (r : Nat → Nat → Option Nat) (f : Nat → va_E) (hC : CI L K cy N r f) (sz : Nat) (bx : Nat) (mbx : bx ∈ L ∧ K bx = 0) : Met l yX9_bring wsX9_bring ({ frames := 1, cells := 0, slots := 0, locals := 25 }) (PW D (TYS cy) (XW x cy g N n a r ++ va_pl L f) sz [.ref (x 0), .ref bx, .null]) (va_Qv (fun (u : ST) => CI L K cy u.1 u.2.2.2.1 u.2.2.2.2 ∧ SM N u.1 n u.2.1 ∧ MM N u.1 a u.2.2.1 ∧ True) (BU D (TYS cy) (XW x cy g N n a r ++ va_pl L f) (WC x cy g L) sz) (va_A (XW x cy g N n a r ++ va_pl L f) sz)) 0 0 (va_A (XW x cy g N n a r ++ va_pl L f) sz) := by
  refine Met.ofW (cc := cX9_bring) (maxL := 3) (ret := none) (by decide) rfl ?_
  intro p e s m args below meth c s₁ B hml hv
  obtain ⟨rfl, hsz, hP, hK, hD0⟩ := hv
  have hx := B.exec
  have hb := B.bytes
  have hr := B.returns
  have hts := atoms_spec (ws := wsX9_bring) B.pre
  have hown : s.vm.findClass RX9 = some m.cls := findClass_of_methodNamed B.named
  have hlocks := B.notSynchronized
  subst hsz
  obtain ⟨hNB, hRB, hHT⟩ := hC
  have hSM : SM N N n n := SM_rf
  have hMM : MM N N a a := MM_rf
  have hD := hD0.self (sz := s.heap.size)
  have hA : ∀ q9 : Nat, s.heap.size ≤ q9 → va_A (XW x cy g N n a r ++ va_pl L f) s.heap.size q9 := fun q9 h => Or.inr h
  have hS : va_S (va_A (XW x cy g N n a r ++ va_pl L f) s.heap.size) s.heap s.heap [] := va_S.rf
  have hl := lv_entry ([.ref (x 0), .ref bx, .null]) (n := 3) (Nat.le_of_ble_eq_true rfl)
  rw [lg_entry_eq]
  generalize (lg_sl ([.ref (x 0), .ref bx, .null]) ++ List.replicate (3 - (lg_sl ([.ref (x 0), .ref bx, .null])).length) Slot.unset).toArray = ls at hl ⊢
  have hl : lv_has ls 3 [(0, .ref (x 0)), (1, .ref bx), (2, .null)] := hl
  refine lv_aload_nN hx hb dX9_bring_0 rfl (lv_at hl 2 rfl) ?_
  refine lv_ifnonnullN hx hb dX9_bring_1 ?_
  refine lv_aload_n hx hb dX9_bring_4 rfl (lv_at hl 1 rfl) ?_
  refine lv_iconst (v := 0) hx hb dX9_bring_5 (by decide) ?_
  obtain ⟨n_o1, fo_o1, pr_o1, pl_o1, h_o1, w_o1, hf_o1, spr_o1, sh_o1, sw_o1⟩ : TE L K cy 0 (f bx) := by rw [← mbx.2]; exact hHT bx mbx.1
  refine pg_put (D := D) (ci := 0) (v := .int 0) (ty := .int) (C := RX0) (T := TX0) (N := 6) hx hb hts iX9_bring_0 tyX0 tyX0_ok nmX0 hown hK hP hD hS mbx.1 hf_o1 rfl 3 (by decide) (hts (.fieldLink RX9 233 "FondsRoom$Box" "place" "I") (by decide +kernel)) (fun _ h9 => h9) rfl (by decide +kernel) rfl rfl (Nat.le_of_ble_eq_true rfl) dX9_bring_6 (fun H locs hP hD hS => ?_)
  obtain ⟨f2, ef2⟩ : ∃ z, z = va_up f bx (.inr (0, [.int n_o1, .int fo_o1, .int pr_o1, .int 0, va_rf h_o1, va_rf w_o1])) := ⟨_, rfl⟩
  have hP : va_P D vwCl (XW x cy g N n a r ++ va_pl L f2) H := by rw [ef2]; exact hP
  have hD : va_D (va_A (XW x cy g N n a r ++ va_pl L f) s.heap.size) (XW x cy g N n a r ++ va_pl L f2) := by rw [ef2]; exact hD
  have hHT : HT L K cy f2 := by rw [ef2]; exact HT_up hHT 0 mbx.2 ⟨n_o1, fo_o1, pr_o1, 0, h_o1, w_o1, rfl, spr_o1, sh_o1, sw_o1⟩
  have hf3 : f2 bx = .inr (0, [.int n_o1, .int fo_o1, .int pr_o1, .int 0, va_rf h_o1, va_rf w_o1]) := by rw [ef2]; exact va_up_self _ _ _
  refine lv_aload_n hx hb dX9_bring_9 rfl (lv_at hl 0 rfl) ?_
  refine va_get (D := D) (ci := 9) (v := .ref (x 18)) (C := RX9) (T := TX9) (N := 19) hx hb hts iX9_bring_9 hown hK hP 0 rfl rfl 9 (by decide) (hts (.fieldLink RX9 67 "FondsRoom" "events" "LFondsRoom$Events;") (by decide +kernel)) (fun _ h9 => h9) rfl dX9_bring_10 ?_
  refine lv_aload_n hx hb dX9_bring_13 rfl (lv_at hl 0 rfl) ?_
  refine va_get (D := D) (ci := 9) (v := .int (n 1)) (C := RX9) (T := TX9) (N := 19) hx hb hts iX9_bring_9 hown hK hP 0 rfl rfl 14 (by decide) (hts (.fieldLink RX9 78 "FondsRoom" "turn" "I") (by decide +kernel)) (fun _ h9 => h9) rfl dX9_bring_14 ?_
  refine lv_iconst (v := (-1)) hx hb dX9_bring_17 (by decide) ?_
  refine lv_bipush (v := 9) hx hb dX9_bring_18 (by decide) ?_
  refine lv_aload_n hx hb dX9_bring_20 rfl (lv_at hl 1 rfl) ?_
  refine pg_get (D := D) (ci := 0) (v := .int n_o1) (C := RX0) (T := TX0) (N := 6) hx hb hts iX9_bring_0 hown hK hP mbx.1 hf3 rfl 0 (by decide) (hts (.fieldLink RX9 253 "FondsRoom$Box" "number" "I") (by decide +kernel)) (fun _ h9 => h9) rfl dX9_bring_21 ?_
  refine gvV (As := [.int (n 1), .int (-1), .int 9, .int n_o1]) (rest := []) ⟨hx, hb, hml, hown, hts⟩ (zX2_keep l D x cy g L K hG N n a r f2 ⟨hNB, hRB, hHT⟩ _  (n 1) (-1) 9 n_o1 ) (cwV 4 hts gX9_bring_X2_keep rfl rfl rfl (by decide +kernel) ⟨Nat.le_of_ble_eq_true rfl, Nat.le_of_ble_eq_true rfl⟩) hK hP hD hS hA (va_recv hK hP (ci := 2) (q0 := 18) rfl rfl) rfl hl.1 rfl (Nat.le_of_ble_eq_true rfl) dX9_bring_24 ⟨Nat.le_of_ble_eq_true rfl, Nat.le_of_ble_eq_true rfl⟩ (fun u5 H locs hq4 hP hD hS => ?_)
  obtain ⟨N6, n7, a8, r9, f10⟩ := u5
  obtain ⟨⟨hNB, hRB, hHT⟩, hs11, hv12, hq4b⟩ := hq4
  have hSM : SM N N6 n n7 := SM_tr hSM hs11
  have hMM : MM N N6 a a8 := MM_tr hMM hv12
  have hP : va_P D vwCl (XW x cy g N6 n7 a8 r9 ++ va_pl L f10) H := hP
  have hD : va_D _ (XW x cy g N6 n7 a8 r9 ++ va_pl L f10) := hD
  refine lv_goto (tgt := 100) hx hb dX9_bring_27 (by decide) ?_
  exact W.vret hx hb hr (fun t ht hW => ⟨⟨(N6, n7, a8, r9, f10), rfl, ⟨⟨hNB, hRB, hHT⟩, hSM, hMM, trivial⟩, by rw [ht]; exact hP, va_K.moved hW.alike hK, hD⟩, hS.F ht⟩) hS.2.2 dX9_bring_100

theorem iX9_fetchersWalk_7 : ∀ w ∈ wsX70, w ∈ wsX9_fetchersWalk := fun _ h => List.mem_cons_of_mem _ (List.mem_append_left _ (List.mem_append_left _ (List.mem_append_left _ (List.mem_append_left _ (List.mem_append_left _ (List.mem_append_right _ h))))))
theorem iX9_fetchersWalk_8 : ∀ w ∈ wsX80, w ∈ wsX9_fetchersWalk := fun _ h => List.mem_cons_of_mem _ (List.mem_append_left _ (List.mem_append_left _ (List.mem_append_left _ (List.mem_append_left _ (List.mem_append_right _ h)))))
theorem iX9_fetchersWalk_9 : ∀ w ∈ wsX90, w ∈ wsX9_fetchersWalk := fun _ h => List.mem_cons_of_mem _ (List.mem_append_left _ (List.mem_append_left _ (List.mem_append_left _ (List.mem_append_left _ (List.mem_append_left _ (List.mem_append_left _ (List.mem_append_right _ h)))))))
set_option maxHeartbeats 4000000 in
set_option maxRecDepth 100000 in
theorem zX9_fetchersWalk (l : Launch) (D : va_G) (x : Nat → Nat) (cy : Nat → ClassId) (g : Nat → Nat → Option Nat) (L : List Nat) (K : Nat → Nat) (hG : GO L K g) (N : Nat → Nat) (n : Nat → Int32) (a : Nat → Nat → Int32) (r : Nat → Nat → Option Nat) (f : Nat → va_E) (hC : CI L K cy N r f) (sz : Nat) : Met l yX9_fetchersWalk wsX9_fetchersWalk ({ frames := 2, cells := 0, slots := 0, locals := 47 }) (PW D (TYS cy) (XW x cy g N n a r ++ va_pl L f) sz [.ref (x 0)]) (va_Qv (fun (u : ST) => CI L K cy u.1 u.2.2.2.1 u.2.2.2.2 ∧ SM N u.1 n u.2.1 ∧ MM N u.1 a u.2.2.1 ∧ True) (BU D (TYS cy) (XW x cy g N n a r ++ va_pl L f) (WC x cy g L) sz) (va_A (XW x cy g N n a r ++ va_pl L f) sz)) 0 0 (va_A (XW x cy g N n a r ++ va_pl L f) sz) := by
  refine Met.ofW (cc := cX9_fetchersWalk) (maxL := 4) (ret := none) (by decide) rfl ?_
  intro p e s m args below meth c s₁ B hml hv
  obtain ⟨rfl, hsz, hP, hK, hD0⟩ := hv
  have hx := B.exec
  have hb := B.bytes
  have hr := B.returns
  have hts := atoms_spec (ws := wsX9_fetchersWalk) B.pre
  have hown : s.vm.findClass RX9 = some m.cls := findClass_of_methodNamed B.named
  have hlocks := B.notSynchronized
  subst hsz
  obtain ⟨hNB, hRB, hHT⟩ := hC
  have hSM : SM N N n n := SM_rf
  have hMM : MM N N a a := MM_rf
  have hD := hD0.self (sz := s.heap.size)
  have hA : ∀ q9 : Nat, s.heap.size ≤ q9 → va_A (XW x cy g N n a r ++ va_pl L f) s.heap.size q9 := fun q9 h => Or.inr h
  have hS : va_S (va_A (XW x cy g N n a r ++ va_pl L f) s.heap.size) s.heap s.heap [] := va_S.rf
  have hl := lv_entry ([.ref (x 0)]) (n := 4) (Nat.le_of_ble_eq_true rfl)
  rw [lg_entry_eq]
  generalize (lg_sl ([.ref (x 0)]) ++ List.replicate (4 - (lg_sl ([.ref (x 0)])).length) Slot.unset).toArray = ls at hl ⊢
  have hl : lv_has ls 4 [(0, .ref (x 0))] := hl
  refine lv_iconst (v := 0) hx hb dX9_fetchersWalk_0 (by decide) ?_
  refine lv_istore_n (lv' := [(1, .int 0), (0, .ref (x 0))]) hx hb dX9_fetchersWalk_1 rfl hl (by decide) rfl (fun ls hl => ?_)
  have key2 : ∀ (m9 j1 : Nat), 400 - j1 = m9 → j1 ≤ 400 → ∀ (N3 : Nat → Nat) (n4 : Nat → Int32) (a5 : Nat → Nat → Int32) (r6 : Nat → Nat → Option Nat) (f7 : Nat → va_E) , NB N3 → RB L K N3 r6 → HT L K cy f7 → SM N N3 n n4 → MM N N3 a a5 → ∀ (H : Heap) (locs : List Loc) (ls : Array Slot), va_P D vwCl (XW x cy g N3 n4 a5 r6 ++ va_pl L f7) H → va_D (va_A (XW x cy g N n a r ++ va_pl L f) s.heap.size) (XW x cy g N3 n4 a5 r6 ++ va_pl L f7) → va_S (va_A (XW x cy g N n a r ++ va_pl L f) s.heap.size) s.heap H locs → lv_has ls 4 [(1, .int (nI j1)), (0, .ref (x 0))] → W p l e (headSpec wsX9_fetchersWalk ({ frames := 2, cells := 0, slots := 0, locals := 47 })).room s m #[.ref (x 0)] below meth c H locs 0 0 (MQ below (va_Qv (fun (u : ST) => CI L K cy u.1 u.2.2.2.1 u.2.2.2.2 ∧ SM N u.1 n u.2.1 ∧ MM N u.1 a u.2.2.1 ∧ True) (BU D (TYS cy) (XW x cy g N n a r ++ va_pl L f) (WC x cy g L) s.heap.size) (va_A (XW x cy g N n a r ++ va_pl L f) s.heap.size)) #[.ref (x 0)] s 0 0 (va_A (XW x cy g N n a r ++ va_pl L f) s.heap.size)) (F0 m 2 ls []) := by
    intro m9
    induction m9 using Nat.strongRecOn with
    | _ m9 ihkey2 =>
      intro j1 hm9 hj400 N3 n4 a5 r6 f7  hNB hRB hHT hSM hMM H locs ls hP hD hS hl
      subst hm9
      have nb0 : N3 0 ≤ 12 := hNB 0 (by decide)
      have nb1 : N3 1 ≤ 40 := hNB 1 (by decide)
      have nb2 : N3 2 ≤ 20 := hNB 2 (by decide)
      have nb3 : N3 3 ≤ 4 := hNB 3 (by decide)
      have nb4 : N3 4 ≤ 3 := hNB 4 (by decide)
      have nb5 : N3 5 ≤ 20 := hNB 5 (by decide)
      have nb6 : N3 6 ≤ 20 := hNB 6 (by decide)
      have nb7 : N3 7 ≤ 20 := hNB 7 (by decide)
      have nb8 : N3 8 ≤ 30 := hNB 8 (by decide)
      have nb9 : N3 9 ≤ 400 := hNB 9 (by decide)
      refine lv_iload_n hx hb dX9_fetchersWalk_2 rfl (lv_at hl 0 rfl) ?_
      refine lv_aload_n hx hb dX9_fetchersWalk_3 rfl (lv_at hl 1 rfl) ?_
      refine va_get (D := D) (ci := 9) (v := .ref (x 4)) (C := RX9) (T := TX9) (N := 19) hx hb hts iX9_fetchersWalk_9 hown hK hP 0 rfl rfl 3 (by decide) (hts (.fieldLink RX9 37 "FondsRoom" "fetchers" "LFondsRoom$Staff;") (by decide +kernel)) (fun _ h9 => h9) rfl dX9_fetchersWalk_4 ?_
      refine va_get (D := D) (ci := 7) (v := .int (nI (N3 3))) (C := RX7) (T := TX7) (N := 2) hx hb hts iX9_fetchersWalk_7 hown hK hP 4 rfl rfl 1 (by decide) (hts (.fieldLink RX9 101 "FondsRoom$Staff" "hired" "I") (by decide +kernel)) (fun _ h9 => h9) rfl dX9_fetchersWalk_7 ?_
      refine lv_icmp_ge (tgt := 71) hx hb dX9_fetchersWalk_10 (by decide) (fun c8 => ?_) (fun c8 => ?_)
      · skip
        have dc8 : (N3 3) ≤ j1 := (nI_leI (a := (N3 3)) (b := j1) (by omega) (by omega)).mp c8
        exact W.vret hx hb hr (fun t ht hW => ⟨⟨(N3, n4, a5, r6, f7), rfl, ⟨⟨hNB, hRB, hHT⟩, hSM, hMM, trivial⟩, by rw [ht]; exact hP, va_K.moved hW.alike hK, hD⟩, hS.F ht⟩) hS.2.2 dX9_fetchersWalk_71
      · skip
        have dc8 : j1 < (N3 3) := Nat.not_le.mp (fun h9 => c8 ((nI_leI (a := (N3 3)) (b := j1) (by omega) (by omega)).mpr h9))
        refine lv_aload_n hx hb dX9_fetchersWalk_13 rfl (lv_at hl 1 rfl) ?_
        refine va_get (D := D) (ci := 9) (v := .ref (x 4)) (C := RX9) (T := TX9) (N := 19) hx hb hts iX9_fetchersWalk_9 hown hK hP 0 rfl rfl 3 (by decide) (hts (.fieldLink RX9 37 "FondsRoom" "fetchers" "LFondsRoom$Staff;") (by decide +kernel)) (fun _ h9 => h9) rfl dX9_fetchersWalk_14 ?_
        refine va_get (D := D) (ci := 7) (v := .ref (x 5)) (C := RX7) (T := TX7) (N := 2) hx hb hts iX9_fetchersWalk_7 hown hK hP 4 rfl rfl 0 (by decide) (hts (.fieldLink RX9 216 "FondsRoom$Staff" "workers" "[LFondsRoom$Worker;") (by decide +kernel)) (fun _ h9 => h9) rfl dX9_fetchersWalk_17 ?_
        refine lv_iload_n hx hb dX9_fetchersWalk_20 rfl (lv_at hl 0 rfl) ?_
        refine va_aldq hx hb hK hP 5 5 rfl rfl (vp_in_nI (by omega) (by omega)) dX9_fetchersWalk_21 ?_
        obtain ⟨p9, ep9, mp9, kp9⟩ := hG.2.2.2.1 j1 (by omega)
        refine lv_tov (v' := .ref p9) (by rw [nI_clamp (by omega)]; show va_rf (g 3 j1) = _; rw [ep9]; rfl) ?_
        refine lv_astore_n (lv' := [(2, .ref p9), (1, .int (nI j1)), (0, .ref (x 0))]) hx hb dX9_fetchersWalk_22 rfl hl (by decide) rfl (fun ls hl => ?_)
        refine lv_aload_n hx hb dX9_fetchersWalk_23 rfl (lv_at hl 0 rfl) ?_
        obtain ⟨b_o10, g_o10, l_o10, hf_o10, sb_o10, sg_o10⟩ : TE L K cy 8 (f7 p9) := by rw [← kp9]; exact hHT p9 mp9
        refine pg_get (D := D) (ci := 8) (v := va_rf b_o10) (C := RX8) (T := TX8) (N := 3) hx hb hts iX9_fetchersWalk_8 hown hK hP mp9 hf_o10 rfl 0 (by decide) (hts (.fieldLink RX9 227 "FondsRoom$Worker" "box" "LFondsRoom$Box;") (by decide +kernel)) (fun _ h9 => h9) rfl dX9_fetchersWalk_24 ?_
        rcases eb11 : b_o10 with _ | b11
        · skip
          subst eb11
          have hP : va_P D vwCl (XW x cy g N3 n4 a5 r6 ++ va_pl L f7) H := by assumption
          have hD : va_D (va_A (XW x cy g N n a r ++ va_pl L f) s.heap.size) (XW x cy g N3 n4 a5 r6 ++ va_pl L f7) := by assumption
          have hl : lv_has ls 4 [(2, .ref p9), (1, .int (nI j1)), (0, .ref (x 0))] := by assumption
          refine lv_astore_nN (lv' := [(3, .null), (2, .ref p9), (1, .int (nI j1)), (0, .ref (x 0))]) hx hb dX9_fetchersWalk_27 rfl hl (by decide) rfl (fun ls hl => ?_)
          refine lv_aload_nN hx hb dX9_fetchersWalk_28 rfl (lv_at hl 0 rfl) ?_
          refine lv_ifnonnullN hx hb dX9_fetchersWalk_29 ?_
          refine lv_goto (tgt := 65) hx hb dX9_fetchersWalk_32 (by decide) ?_
          refine lv_iinc (v := nI (j1 + 1)) (lv' := [(1, .int (nI (j1 + 1))), (3, .null), (2, .ref p9), (0, .ref (x 0))]) hx hb dX9_fetchersWalk_65 hl (k := 2) rfl (by rw [← nI_1]; rfl) (by decide) rfl (fun ls hl => ?_)
          refine lv_goto (tgt := 2) hx hb dX9_fetchersWalk_68 (by decide) ?_
          exact ihkey2 (400 - ((j1 + 1))) (by omega) ((j1 + 1)) rfl (by omega) N3 n4 a5 r6 f7  hNB hRB hHT hSM hMM _ _ _ hP hD hS (lv_sub hl [0, 3] rfl)
        · skip
          subst eb11
          have mb11 := sb_o10 b11 rfl
          have hP : va_P D vwCl (XW x cy g N3 n4 a5 r6 ++ va_pl L f7) H := by assumption
          have hD : va_D (va_A (XW x cy g N n a r ++ va_pl L f) s.heap.size) (XW x cy g N3 n4 a5 r6 ++ va_pl L f7) := by assumption
          have hl : lv_has ls 4 [(2, .ref p9), (1, .int (nI j1)), (0, .ref (x 0))] := by assumption
          refine lv_astore_n (lv' := [(3, .ref b11), (2, .ref p9), (1, .int (nI j1)), (0, .ref (x 0))]) hx hb dX9_fetchersWalk_27 rfl hl (by decide) rfl (fun ls hl => ?_)
          refine lv_aload_n hx hb dX9_fetchersWalk_28 rfl (lv_at hl 0 rfl) ?_
          refine lv_ifnonnull (tgt := 35) hx hb dX9_fetchersWalk_29 (by decide) ?_
          refine lv_aload_n hx hb dX9_fetchersWalk_35 rfl (lv_at hl 1 rfl) ?_
          refine lv_dup hx hb dX9_fetchersWalk_36 rfl ?_
          refine pg_get (D := D) (ci := 8) (v := .int l_o10) (C := RX8) (T := TX8) (N := 3) hx hb hts iX9_fetchersWalk_8 hown hK hP mp9 hf_o10 rfl 2 (by decide) (hts (.fieldLink RX9 243 "FondsRoom$Worker" "left" "I") (by decide +kernel)) (fun _ h9 => h9) rfl dX9_fetchersWalk_37 ?_
          refine lv_iconst (v := 1) hx hb dX9_fetchersWalk_40 (by decide) ?_
          refine lv_isub hx hb dX9_fetchersWalk_41 ?_
          refine pg_put (D := D) (ci := 8) (v := .int (l_o10 - 1)) (ty := .int) (C := RX8) (T := TX8) (N := 3) hx hb hts iX9_fetchersWalk_8 tyX8 tyX8_ok nmX8 hown hK hP hD hS mp9 hf_o10 rfl 2 (by decide) (hts (.fieldLink RX9 243 "FondsRoom$Worker" "left" "I") (by decide +kernel)) (fun _ h9 => h9) rfl (by decide +kernel) rfl rfl (Nat.le_of_ble_eq_true rfl) dX9_fetchersWalk_42 (fun H locs hP hD hS => ?_)
          obtain ⟨f12, ef12⟩ : ∃ z, z = va_up f7 p9 (.inr (8, [.ref b11, va_rf g_o10, .int (l_o10 - 1)])) := ⟨_, rfl⟩
          have hP : va_P D vwCl (XW x cy g N3 n4 a5 r6 ++ va_pl L f12) H := by rw [ef12]; exact hP
          have hD : va_D (va_A (XW x cy g N n a r ++ va_pl L f) s.heap.size) (XW x cy g N3 n4 a5 r6 ++ va_pl L f12) := by rw [ef12]; exact hD
          have hHT : HT L K cy f12 := by rw [ef12]; exact HT_up hHT 8 kp9 ⟨(some b11), g_o10, (l_o10 - 1), rfl, (rok_some mb11.1 mb11.2), sg_o10⟩
          have hf13 : f12 p9 = .inr (8, [.ref b11, va_rf g_o10, .int (l_o10 - 1)]) := by rw [ef12]; exact va_up_self _ _ _
          refine lv_aload_n hx hb dX9_fetchersWalk_45 rfl (lv_at hl 1 rfl) ?_
          refine pg_get (D := D) (ci := 8) (v := .int (l_o10 - 1)) (C := RX8) (T := TX8) (N := 3) hx hb hts iX9_fetchersWalk_8 hown hK hP mp9 hf13 rfl 2 (by decide) (hts (.fieldLink RX9 243 "FondsRoom$Worker" "left" "I") (by decide +kernel)) (fun _ h9 => h9) rfl dX9_fetchersWalk_46 ?_
          refine lv_if_gt (tgt := 65) hx hb dX9_fetchersWalk_49 (by decide) (fun c14 => ?_) (fun c14 => ?_)
          · skip
            refine lv_iinc (v := nI (j1 + 1)) (lv' := [(1, .int (nI (j1 + 1))), (3, .ref b11), (2, .ref p9), (0, .ref (x 0))]) hx hb dX9_fetchersWalk_65 hl (k := 2) rfl (by rw [← nI_1]; rfl) (by decide) rfl (fun ls hl => ?_)
            refine lv_goto (tgt := 2) hx hb dX9_fetchersWalk_68 (by decide) ?_
            exact ihkey2 (400 - ((j1 + 1))) (by omega) ((j1 + 1)) rfl (by omega) N3 n4 a5 r6 f12  hNB hRB hHT hSM hMM _ _ _ hP hD hS (lv_sub hl [0, 3] rfl)
          · skip
            refine lv_aload_n hx hb dX9_fetchersWalk_52 rfl (lv_at hl 3 rfl) ?_
            refine lv_aload_n hx hb dX9_fetchersWalk_53 rfl (lv_at hl 0 rfl) ?_
            refine lv_aload_n hx hb dX9_fetchersWalk_54 rfl (lv_at hl 1 rfl) ?_
            refine pg_get (D := D) (ci := 8) (v := va_rf g_o10) (C := RX8) (T := TX8) (N := 3) hx hb hts iX9_fetchersWalk_8 hown hK hP mp9 hf13 rfl 1 (by decide) (hts (.fieldLink RX9 246 "FondsRoom$Worker" "goal" "LFondsRoom$Reader;") (by decide +kernel)) (fun _ h9 => h9) rfl dX9_fetchersWalk_55 ?_
            rcases eb15 : g_o10 with _ | b15
            · skip
              subst eb15
              have hP : va_P D vwCl (XW x cy g N3 n4 a5 r6 ++ va_pl L f12) H := by assumption
              have hD : va_D (va_A (XW x cy g N n a r ++ va_pl L f) s.heap.size) (XW x cy g N3 n4 a5 r6 ++ va_pl L f12) := by assumption
              have hl : lv_has ls 4 [(3, .ref b11), (2, .ref p9), (1, .int (nI j1)), (0, .ref (x 0))] := by assumption
              refine gvV (As := [.ref b11, .null]) (rest := []) ⟨hx, hb, hml, hown, hts⟩ (zX9_bring_n l D x cy g L K hG N3 n4 a5 r6 f12 ⟨hNB, hRB, hHT⟩ _ b11  ⟨mb11.1, mb11.2⟩) (cwV 2 hts gX9_fetchersWalk_X9_bring rfl rfl rfl (by decide +kernel) ⟨Nat.le_of_ble_eq_true rfl, Nat.le_of_ble_eq_true rfl⟩) hK hP hD hS hA (va_recv hK hP (ci := 9) (q0 := 0) rfl rfl) rfl hl.1 rfl (Nat.le_of_ble_eq_true rfl) dX9_fetchersWalk_58 ⟨Nat.le_of_ble_eq_true rfl, Nat.le_of_ble_eq_true rfl⟩ (fun u17 H locs hq16 hP hD hS => ?_)
              obtain ⟨N18, n19, a20, r21, f22⟩ := u17
              obtain ⟨⟨hNB, hRB, hHT⟩, hs23, hv24, hq16b⟩ := hq16
              have hSM : SM N N18 n n19 := SM_tr hSM hs23
              have hMM : MM N N18 a a20 := MM_tr hMM hv24
              have hP : va_P D vwCl (XW x cy g N18 n19 a20 r21 ++ va_pl L f22) H := hP
              have hD : va_D _ (XW x cy g N18 n19 a20 r21 ++ va_pl L f22) := hD
              refine lv_aload_n hx hb dX9_fetchersWalk_61 rfl (lv_at hl 1 rfl) ?_
              obtain ⟨b_o27, g_o27, l_o27, hf_o27, sb_o27, sg_o27⟩ : TE L K cy 8 (f22 p9) := by rw [← kp9]; exact hHT p9 mp9
              refine gvV (As := []) (rest := []) ⟨hx, hb, hml, hown, hts⟩ (zX8_release l D x cy g L K hG N18 n19 a20 r21 f22 ⟨hNB, hRB, hHT⟩ _ p9  ⟨mp9, kp9⟩) (cwV 0 hts gX9_fetchersWalk_X8_release rfl rfl rfl (by decide +kernel) ⟨Nat.le_of_ble_eq_true rfl, Nat.le_of_ble_eq_true rfl⟩) hK hP hD hS hA (pl_recv hK hP (ci := 8) rfl mp9 hf_o27) rfl hl.1 rfl (Nat.le_of_ble_eq_true rfl) dX9_fetchersWalk_62 ⟨Nat.le_of_ble_eq_true rfl, Nat.le_of_ble_eq_true rfl⟩ (fun u26 H locs hq25 hP hD hS => ?_)
              obtain ⟨N28, n29, a30, r31, f32⟩ := u26
              obtain ⟨⟨hNB, hRB, hHT⟩, hs33, hv34, hq25b⟩ := hq25
              have hSM : SM N N28 n n29 := SM_tr hSM hs33
              have hMM : MM N N28 a a30 := MM_tr hMM hv34
              have hP : va_P D vwCl (XW x cy g N28 n29 a30 r31 ++ va_pl L f32) H := hP
              have hD : va_D _ (XW x cy g N28 n29 a30 r31 ++ va_pl L f32) := hD
              refine lv_iinc (v := nI (j1 + 1)) (lv' := [(1, .int (nI (j1 + 1))), (3, .ref b11), (2, .ref p9), (0, .ref (x 0))]) hx hb dX9_fetchersWalk_65 hl (k := 2) rfl (by rw [← nI_1]; rfl) (by decide) rfl (fun ls hl => ?_)
              refine lv_goto (tgt := 2) hx hb dX9_fetchersWalk_68 (by decide) ?_
              have nb0 : N28 0 ≤ 12 := hNB 0 (by decide)
              have nb1 : N28 1 ≤ 40 := hNB 1 (by decide)
              have nb2 : N28 2 ≤ 20 := hNB 2 (by decide)
              have nb3 : N28 3 ≤ 4 := hNB 3 (by decide)
              have nb4 : N28 4 ≤ 3 := hNB 4 (by decide)
              have nb5 : N28 5 ≤ 20 := hNB 5 (by decide)
              have nb6 : N28 6 ≤ 20 := hNB 6 (by decide)
              have nb7 : N28 7 ≤ 20 := hNB 7 (by decide)
              have nb8 : N28 8 ≤ 30 := hNB 8 (by decide)
              have nb9 : N28 9 ≤ 400 := hNB 9 (by decide)
              exact ihkey2 (400 - ((j1 + 1))) (by omega) ((j1 + 1)) rfl (by omega) N28 n29 a30 r31 f32  hNB hRB hHT hSM hMM _ _ _ hP hD hS (lv_sub hl [0, 3] rfl)
            · skip
              subst eb15
              have mb15 := sg_o10 b15 rfl
              have hP : va_P D vwCl (XW x cy g N3 n4 a5 r6 ++ va_pl L f12) H := by assumption
              have hD : va_D (va_A (XW x cy g N n a r ++ va_pl L f) s.heap.size) (XW x cy g N3 n4 a5 r6 ++ va_pl L f12) := by assumption
              have hl : lv_has ls 4 [(3, .ref b11), (2, .ref p9), (1, .int (nI j1)), (0, .ref (x 0))] := by assumption
              refine gvV (As := [.ref b11, .ref b15]) (rest := []) ⟨hx, hb, hml, hown, hts⟩ (zX9_bring_r l D x cy g L K hG N3 n4 a5 r6 f12 ⟨hNB, hRB, hHT⟩ _ b11 b15  ⟨mb11.1, mb11.2⟩ ⟨mb15.1, mb15.2⟩) (cwV 2 hts gX9_fetchersWalk_X9_bring rfl rfl rfl (by decide +kernel) ⟨Nat.le_of_ble_eq_true rfl, Nat.le_of_ble_eq_true rfl⟩) hK hP hD hS hA (va_recv hK hP (ci := 9) (q0 := 0) rfl rfl) rfl hl.1 rfl (Nat.le_of_ble_eq_true rfl) dX9_fetchersWalk_58 ⟨Nat.le_of_ble_eq_true rfl, Nat.le_of_ble_eq_true rfl⟩ (fun u36 H locs hq35 hP hD hS => ?_)
              obtain ⟨N37, n38, a39, r40, f41⟩ := u36
              obtain ⟨⟨hNB, hRB, hHT⟩, hs42, hv43, hq35b⟩ := hq35
              have hSM : SM N N37 n n38 := SM_tr hSM hs42
              have hMM : MM N N37 a a39 := MM_tr hMM hv43
              have hP : va_P D vwCl (XW x cy g N37 n38 a39 r40 ++ va_pl L f41) H := hP
              have hD : va_D _ (XW x cy g N37 n38 a39 r40 ++ va_pl L f41) := hD
              refine lv_aload_n hx hb dX9_fetchersWalk_61 rfl (lv_at hl 1 rfl) ?_
              obtain ⟨b_o46, g_o46, l_o46, hf_o46, sb_o46, sg_o46⟩ : TE L K cy 8 (f41 p9) := by rw [← kp9]; exact hHT p9 mp9
              refine gvV (As := []) (rest := []) ⟨hx, hb, hml, hown, hts⟩ (zX8_release l D x cy g L K hG N37 n38 a39 r40 f41 ⟨hNB, hRB, hHT⟩ _ p9  ⟨mp9, kp9⟩) (cwV 0 hts gX9_fetchersWalk_X8_release rfl rfl rfl (by decide +kernel) ⟨Nat.le_of_ble_eq_true rfl, Nat.le_of_ble_eq_true rfl⟩) hK hP hD hS hA (pl_recv hK hP (ci := 8) rfl mp9 hf_o46) rfl hl.1 rfl (Nat.le_of_ble_eq_true rfl) dX9_fetchersWalk_62 ⟨Nat.le_of_ble_eq_true rfl, Nat.le_of_ble_eq_true rfl⟩ (fun u45 H locs hq44 hP hD hS => ?_)
              obtain ⟨N47, n48, a49, r50, f51⟩ := u45
              obtain ⟨⟨hNB, hRB, hHT⟩, hs52, hv53, hq44b⟩ := hq44
              have hSM : SM N N47 n n48 := SM_tr hSM hs52
              have hMM : MM N N47 a a49 := MM_tr hMM hv53
              have hP : va_P D vwCl (XW x cy g N47 n48 a49 r50 ++ va_pl L f51) H := hP
              have hD : va_D _ (XW x cy g N47 n48 a49 r50 ++ va_pl L f51) := hD
              refine lv_iinc (v := nI (j1 + 1)) (lv' := [(1, .int (nI (j1 + 1))), (3, .ref b11), (2, .ref p9), (0, .ref (x 0))]) hx hb dX9_fetchersWalk_65 hl (k := 2) rfl (by rw [← nI_1]; rfl) (by decide) rfl (fun ls hl => ?_)
              refine lv_goto (tgt := 2) hx hb dX9_fetchersWalk_68 (by decide) ?_
              have nb0 : N47 0 ≤ 12 := hNB 0 (by decide)
              have nb1 : N47 1 ≤ 40 := hNB 1 (by decide)
              have nb2 : N47 2 ≤ 20 := hNB 2 (by decide)
              have nb3 : N47 3 ≤ 4 := hNB 3 (by decide)
              have nb4 : N47 4 ≤ 3 := hNB 4 (by decide)
              have nb5 : N47 5 ≤ 20 := hNB 5 (by decide)
              have nb6 : N47 6 ≤ 20 := hNB 6 (by decide)
              have nb7 : N47 7 ≤ 20 := hNB 7 (by decide)
              have nb8 : N47 8 ≤ 30 := hNB 8 (by decide)
              have nb9 : N47 9 ≤ 400 := hNB 9 (by decide)
              exact ihkey2 (400 - ((j1 + 1))) (by omega) ((j1 + 1)) rfl (by omega) N47 n48 a49 r50 f51  hNB hRB hHT hSM hMM _ _ _ hP hD hS (lv_sub hl [0, 3] rfl)
  have nb0 : N 0 ≤ 12 := hNB 0 (by decide)
  have nb1 : N 1 ≤ 40 := hNB 1 (by decide)
  have nb2 : N 2 ≤ 20 := hNB 2 (by decide)
  have nb3 : N 3 ≤ 4 := hNB 3 (by decide)
  have nb4 : N 4 ≤ 3 := hNB 4 (by decide)
  have nb5 : N 5 ≤ 20 := hNB 5 (by decide)
  have nb6 : N 6 ≤ 20 := hNB 6 (by decide)
  have nb7 : N 7 ≤ 20 := hNB 7 (by decide)
  have nb8 : N 8 ≤ 30 := hNB 8 (by decide)
  have nb9 : N 9 ≤ 400 := hNB 9 (by decide)
  exact key2 (400 - (0)) (0) rfl (by omega) N n a r f  hNB hRB hHT hSM hMM _ _ _ hP hD hS (lv_sub hl [0, 1] rfl)

theorem iX9_finishCopy_0 : ∀ w ∈ wsX00, w ∈ wsX9_finishCopy := fun _ h => List.mem_cons_of_mem _ (List.mem_append_left _ (List.mem_append_left _ (List.mem_append_left _ (List.mem_append_right _ h))))
theorem iX9_finishCopy_6 : ∀ w ∈ wsX60, w ∈ wsX9_finishCopy := fun _ h => List.mem_cons_of_mem _ (List.mem_append_left _ (List.mem_append_left _ (List.mem_append_right _ h)))
theorem iX9_finishCopy_9 : ∀ w ∈ wsX90, w ∈ wsX9_finishCopy := fun _ h => List.mem_cons_of_mem _ (List.mem_append_left _ (List.mem_append_left _ (List.mem_append_left _ (List.mem_append_left _ (List.mem_append_right _ h)))))
set_option maxHeartbeats 4000000 in
set_option maxRecDepth 100000 in
theorem zX9_finishCopy (l : Launch) (D : va_G) (x : Nat → Nat) (cy : Nat → ClassId) (g : Nat → Nat → Option Nat) (L : List Nat) (K : Nat → Nat) (hG : GO L K g) (N : Nat → Nat) (n : Nat → Int32) (a : Nat → Nat → Int32) (r : Nat → Nat → Option Nat) (f : Nat → va_E) (hC : CI L K cy N r f) (sz : Nat) (bx : Nat) (mbx : bx ∈ L ∧ K bx = 0) : Met l yX9_finishCopy wsX9_finishCopy ({ frames := 1, cells := 0, slots := 0, locals := 25 }) (PW D (TYS cy) (XW x cy g N n a r ++ va_pl L f) sz [.ref (x 0), .ref bx]) (va_Qv (fun (u : ST) => CI L K cy u.1 u.2.2.2.1 u.2.2.2.2 ∧ SM N u.1 n u.2.1 ∧ MM N u.1 a u.2.2.1 ∧ True) (BU D (TYS cy) (XW x cy g N n a r ++ va_pl L f) (WC x cy g L) sz) (va_A (XW x cy g N n a r ++ va_pl L f) sz)) 0 0 (va_A (XW x cy g N n a r ++ va_pl L f) sz) := by
  refine Met.ofW (cc := cX9_finishCopy) (maxL := 3) (ret := none) (by decide) rfl ?_
  intro p e s m args below meth c s₁ B hml hv
  obtain ⟨rfl, hsz, hP, hK, hD0⟩ := hv
  have hx := B.exec
  have hb := B.bytes
  have hr := B.returns
  have hts := atoms_spec (ws := wsX9_finishCopy) B.pre
  have hown : s.vm.findClass RX9 = some m.cls := findClass_of_methodNamed B.named
  have hlocks := B.notSynchronized
  subst hsz
  obtain ⟨hNB, hRB, hHT⟩ := hC
  have hSM : SM N N n n := SM_rf
  have hMM : MM N N a a := MM_rf
  have hD := hD0.self (sz := s.heap.size)
  have hA : ∀ q9 : Nat, s.heap.size ≤ q9 → va_A (XW x cy g N n a r ++ va_pl L f) s.heap.size q9 := fun q9 h => Or.inr h
  have hS : va_S (va_A (XW x cy g N n a r ++ va_pl L f) s.heap.size) s.heap s.heap [] := va_S.rf
  have hl := lv_entry ([.ref (x 0), .ref bx]) (n := 3) (Nat.le_of_ble_eq_true rfl)
  rw [lg_entry_eq]
  generalize (lg_sl ([.ref (x 0), .ref bx]) ++ List.replicate (3 - (lg_sl ([.ref (x 0), .ref bx])).length) Slot.unset).toArray = ls at hl ⊢
  have hl : lv_has ls 3 [(0, .ref (x 0)), (1, .ref bx)] := hl
  refine lv_aload_n hx hb dX9_finishCopy_0 rfl (lv_at hl 0 rfl) ?_
  refine lv_dup hx hb dX9_finishCopy_1 rfl ?_
  refine va_get (D := D) (ci := 9) (v := .int (n 3)) (C := RX9) (T := TX9) (N := 19) hx hb hts iX9_finishCopy_9 hown hK hP 0 rfl rfl 16 (by decide) (hts (.fieldLink RX9 278 "FondsRoom" "copiesMade" "I") (by decide +kernel)) (fun _ h9 => h9) rfl dX9_finishCopy_2 ?_
  refine lv_iconst (v := 1) hx hb dX9_finishCopy_5 (by decide) ?_
  refine lv_iadd hx hb dX9_finishCopy_6 ?_
  refine va_put (D := D) (ci := 9) (v := .int ((n 3) + 1)) (ty := .int) (C := RX9) (T := TX9) (N := 19) hx hb hts iX9_finishCopy_9 tyX9 tyX9_ok nmX9 hown hK hP hD hS 0 rfl rfl 16 (by decide) (hts (.fieldLink RX9 278 "FondsRoom" "copiesMade" "I") (by decide +kernel)) (fun _ h9 => h9) rfl (by decide +kernel) rfl rfl (Nat.le_of_ble_eq_true rfl) dX9_finishCopy_7 (fun H locs hP hD hS => ?_)
  obtain ⟨n1, en1⟩ : ∃ z, z = va_up n 3 ((n 3) + 1) := ⟨_, rfl⟩
  have hP : va_P D vwCl (XW x cy g N n1 a r ++ va_pl L f) H := by rw [en1]; exact hP
  have hD : va_D (va_A (XW x cy g N n a r ++ va_pl L f) s.heap.size) (XW x cy g N n1 a r ++ va_pl L f) := by rw [en1]; exact hD
  have hSM : SM N N n n1 := by rw [en1]; exact SM_n hSM 3 ((n 3) + 1) (by decide) (by decide)
  refine lv_aload_n hx hb dX9_finishCopy_10 rfl (lv_at hl 1 rfl) ?_
  obtain ⟨n_o2, fo_o2, pr_o2, pl_o2, h_o2, w_o2, hf_o2, spr_o2, sh_o2, sw_o2⟩ : TE L K cy 0 (f bx) := by rw [← mbx.2]; exact hHT bx mbx.1
  refine pg_get (D := D) (ci := 0) (v := va_rf h_o2) (C := RX0) (T := TX0) (N := 6) hx hb hts iX9_finishCopy_0 hown hK hP mbx.1 hf_o2 rfl 4 (by decide) (hts (.fieldLink RX9 239 "FondsRoom$Box" "holder" "LFondsRoom$Reader;") (by decide +kernel)) (fun _ h9 => h9) rfl dX9_finishCopy_11 ?_
  rcases eb3 : h_o2 with _ | b3
  · skip
    subst eb3
    have hP : va_P D vwCl (XW x cy g N n1 a r ++ va_pl L f) H := by assumption
    have hD : va_D (va_A (XW x cy g N n a r ++ va_pl L f) s.heap.size) (XW x cy g N n1 a r ++ va_pl L f) := by assumption
    have hl : lv_has ls 3 [(0, .ref (x 0)), (1, .ref bx)] := by assumption
    refine lv_astore_nN (lv' := [(2, .null), (0, .ref (x 0)), (1, .ref bx)]) hx hb dX9_finishCopy_14 rfl hl (by decide) rfl (fun ls hl => ?_)
    refine lv_aload_nN hx hb dX9_finishCopy_15 rfl (lv_at hl 0 rfl) ?_
    refine lv_ifnonnullN hx hb dX9_finishCopy_16 ?_
    refine lv_aload_n hx hb dX9_finishCopy_19 rfl (lv_at hl 2 rfl) ?_
    refine lv_iconst (v := 2) hx hb dX9_finishCopy_20 (by decide) ?_
    refine pg_put (D := D) (ci := 0) (v := .int 2) (ty := .int) (C := RX0) (T := TX0) (N := 6) hx hb hts iX9_finishCopy_0 tyX0 tyX0_ok nmX0 hown hK hP hD hS mbx.1 hf_o2 rfl 3 (by decide) (hts (.fieldLink RX9 233 "FondsRoom$Box" "place" "I") (by decide +kernel)) (fun _ h9 => h9) rfl (by decide +kernel) rfl rfl (Nat.le_of_ble_eq_true rfl) dX9_finishCopy_21 (fun H locs hP hD hS => ?_)
    obtain ⟨f4, ef4⟩ : ∃ z, z = va_up f bx (.inr (0, [.int n_o2, .int fo_o2, .int pr_o2, .int 2, .null, va_rf w_o2])) := ⟨_, rfl⟩
    have hP : va_P D vwCl (XW x cy g N n1 a r ++ va_pl L f4) H := by rw [ef4]; exact hP
    have hD : va_D (va_A (XW x cy g N n a r ++ va_pl L f) s.heap.size) (XW x cy g N n1 a r ++ va_pl L f4) := by rw [ef4]; exact hD
    have hHT : HT L K cy f4 := by rw [ef4]; exact HT_up hHT 0 mbx.2 ⟨n_o2, fo_o2, pr_o2, 2, none, w_o2, rfl, spr_o2, rok_none, sw_o2⟩
    have hf5 : f4 bx = .inr (0, [.int n_o2, .int fo_o2, .int pr_o2, .int 2, .null, va_rf w_o2]) := by rw [ef4]; exact va_up_self _ _ _
    exact W.vret hx hb hr (fun t ht hW => ⟨⟨(N, n1, a, r, f4), rfl, ⟨⟨hNB, hRB, hHT⟩, hSM, hMM, trivial⟩, by rw [ht]; exact hP, va_K.moved hW.alike hK, hD⟩, hS.F ht⟩) hS.2.2 dX9_finishCopy_24
  · skip
    subst eb3
    have mb3 := sh_o2 b3 rfl
    have hP : va_P D vwCl (XW x cy g N n1 a r ++ va_pl L f) H := by assumption
    have hD : va_D (va_A (XW x cy g N n a r ++ va_pl L f) s.heap.size) (XW x cy g N n1 a r ++ va_pl L f) := by assumption
    have hl : lv_has ls 3 [(0, .ref (x 0)), (1, .ref bx)] := by assumption
    refine lv_astore_n (lv' := [(2, .ref b3), (0, .ref (x 0)), (1, .ref bx)]) hx hb dX9_finishCopy_14 rfl hl (by decide) rfl (fun ls hl => ?_)
    refine lv_aload_n hx hb dX9_finishCopy_15 rfl (lv_at hl 0 rfl) ?_
    refine lv_ifnonnull (tgt := 25) hx hb dX9_finishCopy_16 (by decide) ?_
    refine lv_aload_n hx hb dX9_finishCopy_25 rfl (lv_at hl 1 rfl) ?_
    refine va_get (D := D) (ci := 9) (v := .ref (x 12)) (C := RX9) (T := TX9) (N := 19) hx hb hts iX9_finishCopy_9 hown hK hP 0 rfl rfl 7 (by decide) (hts (.fieldLink RX9 54 "FondsRoom" "copyTickets" "LFondsRoom$Line;") (by decide +kernel)) (fun _ h9 => h9) rfl dX9_finishCopy_26 ?_
    refine lv_aload_n hx hb dX9_finishCopy_29 rfl (lv_at hl 0 rfl) ?_
    refine gvV (As := [.ref b3]) (rest := []) ⟨hx, hb, hml, hown, hts⟩ (zX3_remove_2 l D x cy g L K hG N n1 a r f ⟨hNB, hRB, hHT⟩ _ b3  ⟨mb3.1, mb3.2⟩) (cwV 1 hts gX9_finishCopy_X3_remove rfl rfl rfl (by decide +kernel) ⟨Nat.le_of_ble_eq_true rfl, Nat.le_of_ble_eq_true rfl⟩) hK hP hD hS hA (va_recv hK hP (ci := 3) (q0 := 12) rfl rfl) rfl hl.1 rfl (Nat.le_of_ble_eq_true rfl) dX9_finishCopy_30 ⟨Nat.le_of_ble_eq_true rfl, Nat.le_of_ble_eq_true rfl⟩ (fun u7 H locs hq6 hP hD hS => ?_)
    obtain ⟨N8, n9, a10, r11, f12⟩ := u7
    obtain ⟨⟨hNB, hRB, hHT⟩, hs13, hv14, hq6b⟩ := hq6
    have hSM : SM N N8 n n9 := SM_tr hSM hs13
    have hMM : MM N N8 a a10 := MM_tr hMM hv14
    have hP : va_P D vwCl (XW x cy g N8 n9 a10 r11 ++ va_pl L f12) H := hP
    have hD : va_D _ (XW x cy g N8 n9 a10 r11 ++ va_pl L f12) := hD
    refine lv_aload_n hx hb dX9_finishCopy_33 rfl (lv_at hl 2 rfl) ?_
    refine lv_iconst (v := 1) hx hb dX9_finishCopy_34 (by decide) ?_
    obtain ⟨n_o15, fo_o15, pr_o15, pl_o15, h_o15, w_o15, hf_o15, spr_o15, sh_o15, sw_o15⟩ : TE L K cy 0 (f12 bx) := by rw [← mbx.2]; exact hHT bx mbx.1
    refine pg_put (D := D) (ci := 0) (v := .int 1) (ty := .int) (C := RX0) (T := TX0) (N := 6) hx hb hts iX9_finishCopy_0 tyX0 tyX0_ok nmX0 hown hK hP hD hS mbx.1 hf_o15 rfl 3 (by decide) (hts (.fieldLink RX9 233 "FondsRoom$Box" "place" "I") (by decide +kernel)) (fun _ h9 => h9) rfl (by decide +kernel) rfl rfl (Nat.le_of_ble_eq_true rfl) dX9_finishCopy_35 (fun H locs hP hD hS => ?_)
    obtain ⟨f16, ef16⟩ : ∃ z, z = va_up f12 bx (.inr (0, [.int n_o15, .int fo_o15, .int pr_o15, .int 1, va_rf h_o15, va_rf w_o15])) := ⟨_, rfl⟩
    have hP : va_P D vwCl (XW x cy g N8 n9 a10 r11 ++ va_pl L f16) H := by rw [ef16]; exact hP
    have hD : va_D (va_A (XW x cy g N n a r ++ va_pl L f) s.heap.size) (XW x cy g N8 n9 a10 r11 ++ va_pl L f16) := by rw [ef16]; exact hD
    have hHT : HT L K cy f16 := by rw [ef16]; exact HT_up hHT 0 mbx.2 ⟨n_o15, fo_o15, pr_o15, 1, h_o15, w_o15, rfl, spr_o15, sh_o15, sw_o15⟩
    have hf17 : f16 bx = .inr (0, [.int n_o15, .int fo_o15, .int pr_o15, .int 1, va_rf h_o15, va_rf w_o15]) := by rw [ef16]; exact va_up_self _ _ _
    refine lv_aload_n hx hb dX9_finishCopy_38 rfl (lv_at hl 0 rfl) ?_
    refine lv_null hx hb dX9_finishCopy_39 ?_
    obtain ⟨n_o18, p_o18, ar_o18, rk_o18, nw_o18, st_o18, ct_o18, d_o18, aw_o18, rl_o18, cp_o18, cu_o18, w1_o18, w2_o18, w3_o18, ov_o18, co_o18, hf_o18, sp_o18, snw_o18, sd_o18, saw_o18, scu_o18⟩ : TE L K cy 6 (f16 b3) := by rw [← mb3.2]; exact hHT b3 mb3.1
    refine pg_put (D := D) (ci := 6) (v := .null) (ty := (.object "FondsRoom$Box")) (C := RX6) (T := TX6) (N := 17) hx hb hts iX9_finishCopy_6 tyX6 tyX6_ok nmX6 hown hK hP hD hS mb3.1 hf_o18 rfl 8 (by decide) (hts (.fieldLink RX9 267 "FondsRoom$Reader" "awaited" "LFondsRoom$Box;") (by decide +kernel)) (fun _ h9 => h9) rfl (by decide +kernel) rfl rfl (Nat.le_of_ble_eq_true rfl) dX9_finishCopy_40 (fun H locs hP hD hS => ?_)
    obtain ⟨f19, ef19⟩ : ∃ z, z = va_up f16 b3 (.inr (6, [.int n_o18, .ref p_o18, .int ar_o18, .int rk_o18, .int nw_o18, .int st_o18, .int ct_o18, va_rf d_o18, .null, .int rl_o18, .int cp_o18, .int cu_o18, .int w1_o18, .int w2_o18, .int w3_o18, .int ov_o18, .int co_o18])) := ⟨_, rfl⟩
    have hP : va_P D vwCl (XW x cy g N8 n9 a10 r11 ++ va_pl L f19) H := by rw [ef19]; exact hP
    have hD : va_D (va_A (XW x cy g N n a r ++ va_pl L f) s.heap.size) (XW x cy g N8 n9 a10 r11 ++ va_pl L f19) := by rw [ef19]; exact hD
    have hHT : HT L K cy f19 := by rw [ef19]; exact HT_up hHT 6 mb3.2 ⟨n_o18, p_o18, ar_o18, rk_o18, nw_o18, st_o18, ct_o18, d_o18, none, rl_o18, cp_o18, cu_o18, w1_o18, w2_o18, w3_o18, ov_o18, co_o18, rfl, ⟨sp_o18.1, sp_o18.2⟩, snw_o18, sd_o18, rok_none, scu_o18⟩
    have hf20 : f19 b3 = .inr (6, [.int n_o18, .ref p_o18, .int ar_o18, .int rk_o18, .int nw_o18, .int st_o18, .int ct_o18, va_rf d_o18, .null, .int rl_o18, .int cp_o18, .int cu_o18, .int w1_o18, .int w2_o18, .int w3_o18, .int ov_o18, .int co_o18]) := by rw [ef19]; exact va_up_self _ _ _
    have hf21 : f19 bx = .inr (0, [.int n_o15, .int fo_o15, .int pr_o15, .int 1, va_rf h_o15, va_rf w_o15]) := by rw [ef19]; exact (va_up_ne _ _ (fun h9 => absurd (mbx.2.symm.trans ((congrArg K h9).trans mb3.2)) (by decide))).trans hf17
    refine lv_aload_n hx hb dX9_finishCopy_43 rfl (lv_at hl 0 rfl) ?_
    refine lv_bipush (v := 8) hx hb dX9_finishCopy_44 (by decide) ?_
    refine pg_put (D := D) (ci := 6) (v := .int 8) (ty := .int) (C := RX6) (T := TX6) (N := 17) hx hb hts iX9_finishCopy_6 tyX6 tyX6_ok nmX6 hown hK hP hD hS mb3.1 hf20 rfl 5 (by decide) (hts (.fieldLink RX9 270 "FondsRoom$Reader" "state" "I") (by decide +kernel)) (fun _ h9 => h9) rfl (by decide +kernel) rfl rfl (Nat.le_of_ble_eq_true rfl) dX9_finishCopy_46 (fun H locs hP hD hS => ?_)
    obtain ⟨f22, ef22⟩ : ∃ z, z = va_up f19 b3 (.inr (6, [.int n_o18, .ref p_o18, .int ar_o18, .int rk_o18, .int nw_o18, .int 8, .int ct_o18, va_rf d_o18, .null, .int rl_o18, .int cp_o18, .int cu_o18, .int w1_o18, .int w2_o18, .int w3_o18, .int ov_o18, .int co_o18])) := ⟨_, rfl⟩
    have hP : va_P D vwCl (XW x cy g N8 n9 a10 r11 ++ va_pl L f22) H := by rw [ef22]; exact hP
    have hD : va_D (va_A (XW x cy g N n a r ++ va_pl L f) s.heap.size) (XW x cy g N8 n9 a10 r11 ++ va_pl L f22) := by rw [ef22]; exact hD
    have hHT : HT L K cy f22 := by rw [ef22]; exact HT_up hHT 6 mb3.2 ⟨n_o18, p_o18, ar_o18, rk_o18, nw_o18, 8, ct_o18, d_o18, none, rl_o18, cp_o18, cu_o18, w1_o18, w2_o18, w3_o18, ov_o18, co_o18, rfl, ⟨sp_o18.1, sp_o18.2⟩, snw_o18, sd_o18, rok_none, scu_o18⟩
    have hf23 : f22 b3 = .inr (6, [.int n_o18, .ref p_o18, .int ar_o18, .int rk_o18, .int nw_o18, .int 8, .int ct_o18, va_rf d_o18, .null, .int rl_o18, .int cp_o18, .int cu_o18, .int w1_o18, .int w2_o18, .int w3_o18, .int ov_o18, .int co_o18]) := by rw [ef22]; exact va_up_self _ _ _
    have hf24 : f22 bx = .inr (0, [.int n_o15, .int fo_o15, .int pr_o15, .int 1, va_rf h_o15, va_rf w_o15]) := by rw [ef22]; exact (va_up_ne _ _ (fun h9 => absurd (mbx.2.symm.trans ((congrArg K h9).trans mb3.2)) (by decide))).trans hf21
    refine lv_aload_n hx hb dX9_finishCopy_49 rfl (lv_at hl 0 rfl) ?_
    refine lv_dup hx hb dX9_finishCopy_50 rfl ?_
    refine pg_get (D := D) (ci := 6) (v := .int co_o18) (C := RX6) (T := TX6) (N := 17) hx hb hts iX9_finishCopy_6 hown hK hP mb3.1 hf23 rfl 16 (by decide) (hts (.fieldLink RX9 281 "FondsRoom$Reader" "copies" "I") (by decide +kernel)) (fun _ h9 => h9) rfl dX9_finishCopy_51 ?_
    refine lv_iconst (v := 1) hx hb dX9_finishCopy_54 (by decide) ?_
    refine lv_iadd hx hb dX9_finishCopy_55 ?_
    refine pg_put (D := D) (ci := 6) (v := .int (co_o18 + 1)) (ty := .int) (C := RX6) (T := TX6) (N := 17) hx hb hts iX9_finishCopy_6 tyX6 tyX6_ok nmX6 hown hK hP hD hS mb3.1 hf23 rfl 16 (by decide) (hts (.fieldLink RX9 281 "FondsRoom$Reader" "copies" "I") (by decide +kernel)) (fun _ h9 => h9) rfl (by decide +kernel) rfl rfl (Nat.le_of_ble_eq_true rfl) dX9_finishCopy_56 (fun H locs hP hD hS => ?_)
    obtain ⟨f25, ef25⟩ : ∃ z, z = va_up f22 b3 (.inr (6, [.int n_o18, .ref p_o18, .int ar_o18, .int rk_o18, .int nw_o18, .int 8, .int ct_o18, va_rf d_o18, .null, .int rl_o18, .int cp_o18, .int cu_o18, .int w1_o18, .int w2_o18, .int w3_o18, .int ov_o18, .int (co_o18 + 1)])) := ⟨_, rfl⟩
    have hP : va_P D vwCl (XW x cy g N8 n9 a10 r11 ++ va_pl L f25) H := by rw [ef25]; exact hP
    have hD : va_D (va_A (XW x cy g N n a r ++ va_pl L f) s.heap.size) (XW x cy g N8 n9 a10 r11 ++ va_pl L f25) := by rw [ef25]; exact hD
    have hHT : HT L K cy f25 := by rw [ef25]; exact HT_up hHT 6 mb3.2 ⟨n_o18, p_o18, ar_o18, rk_o18, nw_o18, 8, ct_o18, d_o18, none, rl_o18, cp_o18, cu_o18, w1_o18, w2_o18, w3_o18, ov_o18, (co_o18 + 1), rfl, ⟨sp_o18.1, sp_o18.2⟩, snw_o18, sd_o18, rok_none, scu_o18⟩
    have hf26 : f25 b3 = .inr (6, [.int n_o18, .ref p_o18, .int ar_o18, .int rk_o18, .int nw_o18, .int 8, .int ct_o18, va_rf d_o18, .null, .int rl_o18, .int cp_o18, .int cu_o18, .int w1_o18, .int w2_o18, .int w3_o18, .int ov_o18, .int (co_o18 + 1)]) := by rw [ef25]; exact va_up_self _ _ _
    have hf27 : f25 bx = .inr (0, [.int n_o15, .int fo_o15, .int pr_o15, .int 1, va_rf h_o15, va_rf w_o15]) := by rw [ef25]; exact (va_up_ne _ _ (fun h9 => absurd (mbx.2.symm.trans ((congrArg K h9).trans mb3.2)) (by decide))).trans hf24
    refine lv_aload_n hx hb dX9_finishCopy_59 rfl (lv_at hl 1 rfl) ?_
    refine va_get (D := D) (ci := 9) (v := .ref (x 18)) (C := RX9) (T := TX9) (N := 19) hx hb hts iX9_finishCopy_9 hown hK hP 0 rfl rfl 9 (by decide) (hts (.fieldLink RX9 67 "FondsRoom" "events" "LFondsRoom$Events;") (by decide +kernel)) (fun _ h9 => h9) rfl dX9_finishCopy_60 ?_
    refine lv_aload_n hx hb dX9_finishCopy_63 rfl (lv_at hl 1 rfl) ?_
    refine va_get (D := D) (ci := 9) (v := .int (n9 1)) (C := RX9) (T := TX9) (N := 19) hx hb hts iX9_finishCopy_9 hown hK hP 0 rfl rfl 14 (by decide) (hts (.fieldLink RX9 78 "FondsRoom" "turn" "I") (by decide +kernel)) (fun _ h9 => h9) rfl dX9_finishCopy_64 ?_
    refine lv_aload_n hx hb dX9_finishCopy_67 rfl (lv_at hl 0 rfl) ?_
    refine pg_get (D := D) (ci := 6) (v := .int n_o18) (C := RX6) (T := TX6) (N := 17) hx hb hts iX9_finishCopy_6 hown hK hP mb3.1 hf26 rfl 0 (by decide) (hts (.fieldLink RX9 273 "FondsRoom$Reader" "number" "I") (by decide +kernel)) (fun _ h9 => h9) rfl dX9_finishCopy_68 ?_
    refine lv_bipush (v := 6) hx hb dX9_finishCopy_71 (by decide) ?_
    refine lv_aload_n hx hb dX9_finishCopy_73 rfl (lv_at hl 2 rfl) ?_
    refine pg_get (D := D) (ci := 0) (v := .int n_o15) (C := RX0) (T := TX0) (N := 6) hx hb hts iX9_finishCopy_0 hown hK hP mbx.1 hf27 rfl 0 (by decide) (hts (.fieldLink RX9 253 "FondsRoom$Box" "number" "I") (by decide +kernel)) (fun _ h9 => h9) rfl dX9_finishCopy_74 ?_
    refine gvV (As := [.int (n9 1), .int n_o18, .int 6, .int n_o15]) (rest := []) ⟨hx, hb, hml, hown, hts⟩ (zX2_keep l D x cy g L K hG N8 n9 a10 r11 f25 ⟨hNB, hRB, hHT⟩ _  (n9 1) n_o18 6 n_o15 ) (cwV 4 hts gX9_finishCopy_X2_keep rfl rfl rfl (by decide +kernel) ⟨Nat.le_of_ble_eq_true rfl, Nat.le_of_ble_eq_true rfl⟩) hK hP hD hS hA (va_recv hK hP (ci := 2) (q0 := 18) rfl rfl) rfl hl.1 rfl (Nat.le_of_ble_eq_true rfl) dX9_finishCopy_77 ⟨Nat.le_of_ble_eq_true rfl, Nat.le_of_ble_eq_true rfl⟩ (fun u29 H locs hq28 hP hD hS => ?_)
    obtain ⟨N30, n31, a32, r33, f34⟩ := u29
    obtain ⟨⟨hNB, hRB, hHT⟩, hs35, hv36, hq28b⟩ := hq28
    have hSM : SM N N30 n n31 := SM_tr hSM hs35
    have hMM : MM N N30 a a32 := MM_tr hMM hv36
    have hP : va_P D vwCl (XW x cy g N30 n31 a32 r33 ++ va_pl L f34) H := hP
    have hD : va_D _ (XW x cy g N30 n31 a32 r33 ++ va_pl L f34) := hD
    exact W.vret hx hb hr (fun t ht hW => ⟨⟨(N30, n31, a32, r33, f34), rfl, ⟨⟨hNB, hRB, hHT⟩, hSM, hMM, trivial⟩, by rw [ht]; exact hP, va_K.moved hW.alike hK, hD⟩, hS.F ht⟩) hS.2.2 dX9_finishCopy_80

theorem iX9_copyistsWork_7 : ∀ w ∈ wsX70, w ∈ wsX9_copyistsWork := fun _ h => List.mem_cons_of_mem _ (List.mem_append_left _ (List.mem_append_left _ (List.mem_append_left _ (List.mem_append_left _ (List.mem_append_left _ (List.mem_append_right _ h))))))
theorem iX9_copyistsWork_8 : ∀ w ∈ wsX80, w ∈ wsX9_copyistsWork := fun _ h => List.mem_cons_of_mem _ (List.mem_append_left _ (List.mem_append_left _ (List.mem_append_left _ (List.mem_append_left _ (List.mem_append_right _ h)))))
theorem iX9_copyistsWork_9 : ∀ w ∈ wsX90, w ∈ wsX9_copyistsWork := fun _ h => List.mem_cons_of_mem _ (List.mem_append_left _ (List.mem_append_left _ (List.mem_append_left _ (List.mem_append_left _ (List.mem_append_left _ (List.mem_append_left _ (List.mem_append_right _ h)))))))
set_option maxHeartbeats 4000000 in
set_option maxRecDepth 100000 in
theorem zX9_copyistsWork (l : Launch) (D : va_G) (x : Nat → Nat) (cy : Nat → ClassId) (g : Nat → Nat → Option Nat) (L : List Nat) (K : Nat → Nat) (hG : GO L K g) (N : Nat → Nat) (n : Nat → Int32) (a : Nat → Nat → Int32) (r : Nat → Nat → Option Nat) (f : Nat → va_E) (hC : CI L K cy N r f) (sz : Nat) : Met l yX9_copyistsWork wsX9_copyistsWork ({ frames := 2, cells := 0, slots := 0, locals := 47 }) (PW D (TYS cy) (XW x cy g N n a r ++ va_pl L f) sz [.ref (x 0)]) (va_Qv (fun (u : ST) => CI L K cy u.1 u.2.2.2.1 u.2.2.2.2 ∧ SM N u.1 n u.2.1 ∧ MM N u.1 a u.2.2.1 ∧ True) (BU D (TYS cy) (XW x cy g N n a r ++ va_pl L f) (WC x cy g L) sz) (va_A (XW x cy g N n a r ++ va_pl L f) sz)) 0 0 (va_A (XW x cy g N n a r ++ va_pl L f) sz) := by
  refine Met.ofW (cc := cX9_copyistsWork) (maxL := 4) (ret := none) (by decide) rfl ?_
  intro p e s m args below meth c s₁ B hml hv
  obtain ⟨rfl, hsz, hP, hK, hD0⟩ := hv
  have hx := B.exec
  have hb := B.bytes
  have hr := B.returns
  have hts := atoms_spec (ws := wsX9_copyistsWork) B.pre
  have hown : s.vm.findClass RX9 = some m.cls := findClass_of_methodNamed B.named
  have hlocks := B.notSynchronized
  subst hsz
  obtain ⟨hNB, hRB, hHT⟩ := hC
  have hSM : SM N N n n := SM_rf
  have hMM : MM N N a a := MM_rf
  have hD := hD0.self (sz := s.heap.size)
  have hA : ∀ q9 : Nat, s.heap.size ≤ q9 → va_A (XW x cy g N n a r ++ va_pl L f) s.heap.size q9 := fun q9 h => Or.inr h
  have hS : va_S (va_A (XW x cy g N n a r ++ va_pl L f) s.heap.size) s.heap s.heap [] := va_S.rf
  have hl := lv_entry ([.ref (x 0)]) (n := 4) (Nat.le_of_ble_eq_true rfl)
  rw [lg_entry_eq]
  generalize (lg_sl ([.ref (x 0)]) ++ List.replicate (4 - (lg_sl ([.ref (x 0)])).length) Slot.unset).toArray = ls at hl ⊢
  have hl : lv_has ls 4 [(0, .ref (x 0))] := hl
  refine lv_iconst (v := 0) hx hb dX9_copyistsWork_0 (by decide) ?_
  refine lv_istore_n (lv' := [(1, .int 0), (0, .ref (x 0))]) hx hb dX9_copyistsWork_1 rfl hl (by decide) rfl (fun ls hl => ?_)
  have key2 : ∀ (m9 j1 : Nat), 400 - j1 = m9 → j1 ≤ 400 → ∀ (N3 : Nat → Nat) (n4 : Nat → Int32) (a5 : Nat → Nat → Int32) (r6 : Nat → Nat → Option Nat) (f7 : Nat → va_E) , NB N3 → RB L K N3 r6 → HT L K cy f7 → SM N N3 n n4 → MM N N3 a a5 → ∀ (H : Heap) (locs : List Loc) (ls : Array Slot), va_P D vwCl (XW x cy g N3 n4 a5 r6 ++ va_pl L f7) H → va_D (va_A (XW x cy g N n a r ++ va_pl L f) s.heap.size) (XW x cy g N3 n4 a5 r6 ++ va_pl L f7) → va_S (va_A (XW x cy g N n a r ++ va_pl L f) s.heap.size) s.heap H locs → lv_has ls 4 [(1, .int (nI j1)), (0, .ref (x 0))] → W p l e (headSpec wsX9_copyistsWork ({ frames := 2, cells := 0, slots := 0, locals := 47 })).room s m #[.ref (x 0)] below meth c H locs 0 0 (MQ below (va_Qv (fun (u : ST) => CI L K cy u.1 u.2.2.2.1 u.2.2.2.2 ∧ SM N u.1 n u.2.1 ∧ MM N u.1 a u.2.2.1 ∧ True) (BU D (TYS cy) (XW x cy g N n a r ++ va_pl L f) (WC x cy g L) s.heap.size) (va_A (XW x cy g N n a r ++ va_pl L f) s.heap.size)) #[.ref (x 0)] s 0 0 (va_A (XW x cy g N n a r ++ va_pl L f) s.heap.size)) (F0 m 2 ls []) := by
    intro m9
    induction m9 using Nat.strongRecOn with
    | _ m9 ihkey2 =>
      intro j1 hm9 hj400 N3 n4 a5 r6 f7  hNB hRB hHT hSM hMM H locs ls hP hD hS hl
      subst hm9
      have nb0 : N3 0 ≤ 12 := hNB 0 (by decide)
      have nb1 : N3 1 ≤ 40 := hNB 1 (by decide)
      have nb2 : N3 2 ≤ 20 := hNB 2 (by decide)
      have nb3 : N3 3 ≤ 4 := hNB 3 (by decide)
      have nb4 : N3 4 ≤ 3 := hNB 4 (by decide)
      have nb5 : N3 5 ≤ 20 := hNB 5 (by decide)
      have nb6 : N3 6 ≤ 20 := hNB 6 (by decide)
      have nb7 : N3 7 ≤ 20 := hNB 7 (by decide)
      have nb8 : N3 8 ≤ 30 := hNB 8 (by decide)
      have nb9 : N3 9 ≤ 400 := hNB 9 (by decide)
      refine lv_iload_n hx hb dX9_copyistsWork_2 rfl (lv_at hl 0 rfl) ?_
      refine lv_aload_n hx hb dX9_copyistsWork_3 rfl (lv_at hl 1 rfl) ?_
      refine va_get (D := D) (ci := 9) (v := .ref (x 6)) (C := RX9) (T := TX9) (N := 19) hx hb hts iX9_copyistsWork_9 hown hK hP 0 rfl rfl 4 (by decide) (hts (.fieldLink RX9 41 "FondsRoom" "copyists" "LFondsRoom$Staff;") (by decide +kernel)) (fun _ h9 => h9) rfl dX9_copyistsWork_4 ?_
      refine va_get (D := D) (ci := 7) (v := .int (nI (N3 4))) (C := RX7) (T := TX7) (N := 2) hx hb hts iX9_copyistsWork_7 hown hK hP 6 rfl rfl 1 (by decide) (hts (.fieldLink RX9 101 "FondsRoom$Staff" "hired" "I") (by decide +kernel)) (fun _ h9 => h9) rfl dX9_copyistsWork_7 ?_
      refine lv_icmp_ge (tgt := 67) hx hb dX9_copyistsWork_10 (by decide) (fun c8 => ?_) (fun c8 => ?_)
      · skip
        have dc8 : (N3 4) ≤ j1 := (nI_leI (a := (N3 4)) (b := j1) (by omega) (by omega)).mp c8
        exact W.vret hx hb hr (fun t ht hW => ⟨⟨(N3, n4, a5, r6, f7), rfl, ⟨⟨hNB, hRB, hHT⟩, hSM, hMM, trivial⟩, by rw [ht]; exact hP, va_K.moved hW.alike hK, hD⟩, hS.F ht⟩) hS.2.2 dX9_copyistsWork_67
      · skip
        have dc8 : j1 < (N3 4) := Nat.not_le.mp (fun h9 => c8 ((nI_leI (a := (N3 4)) (b := j1) (by omega) (by omega)).mpr h9))
        refine lv_aload_n hx hb dX9_copyistsWork_13 rfl (lv_at hl 1 rfl) ?_
        refine va_get (D := D) (ci := 9) (v := .ref (x 6)) (C := RX9) (T := TX9) (N := 19) hx hb hts iX9_copyistsWork_9 hown hK hP 0 rfl rfl 4 (by decide) (hts (.fieldLink RX9 41 "FondsRoom" "copyists" "LFondsRoom$Staff;") (by decide +kernel)) (fun _ h9 => h9) rfl dX9_copyistsWork_14 ?_
        refine va_get (D := D) (ci := 7) (v := .ref (x 7)) (C := RX7) (T := TX7) (N := 2) hx hb hts iX9_copyistsWork_7 hown hK hP 6 rfl rfl 0 (by decide) (hts (.fieldLink RX9 216 "FondsRoom$Staff" "workers" "[LFondsRoom$Worker;") (by decide +kernel)) (fun _ h9 => h9) rfl dX9_copyistsWork_17 ?_
        refine lv_iload_n hx hb dX9_copyistsWork_20 rfl (lv_at hl 0 rfl) ?_
        refine va_aldq hx hb hK hP 7 5 rfl rfl (vp_in_nI (by omega) (by omega)) dX9_copyistsWork_21 ?_
        obtain ⟨p9, ep9, mp9, kp9⟩ := hG.2.2.2.2 j1 (by omega)
        refine lv_tov (v' := .ref p9) (by rw [nI_clamp (by omega)]; show va_rf (g 4 j1) = _; rw [ep9]; rfl) ?_
        refine lv_astore_n (lv' := [(2, .ref p9), (1, .int (nI j1)), (0, .ref (x 0))]) hx hb dX9_copyistsWork_22 rfl hl (by decide) rfl (fun ls hl => ?_)
        refine lv_aload_n hx hb dX9_copyistsWork_23 rfl (lv_at hl 0 rfl) ?_
        obtain ⟨b_o10, g_o10, l_o10, hf_o10, sb_o10, sg_o10⟩ : TE L K cy 8 (f7 p9) := by rw [← kp9]; exact hHT p9 mp9
        refine pg_get (D := D) (ci := 8) (v := va_rf b_o10) (C := RX8) (T := TX8) (N := 3) hx hb hts iX9_copyistsWork_8 hown hK hP mp9 hf_o10 rfl 0 (by decide) (hts (.fieldLink RX9 227 "FondsRoom$Worker" "box" "LFondsRoom$Box;") (by decide +kernel)) (fun _ h9 => h9) rfl dX9_copyistsWork_24 ?_
        rcases eb11 : b_o10 with _ | b11
        · skip
          subst eb11
          have hP : va_P D vwCl (XW x cy g N3 n4 a5 r6 ++ va_pl L f7) H := by assumption
          have hD : va_D (va_A (XW x cy g N n a r ++ va_pl L f) s.heap.size) (XW x cy g N3 n4 a5 r6 ++ va_pl L f7) := by assumption
          have hl : lv_has ls 4 [(2, .ref p9), (1, .int (nI j1)), (0, .ref (x 0))] := by assumption
          refine lv_astore_nN (lv' := [(3, .null), (2, .ref p9), (1, .int (nI j1)), (0, .ref (x 0))]) hx hb dX9_copyistsWork_27 rfl hl (by decide) rfl (fun ls hl => ?_)
          refine lv_aload_nN hx hb dX9_copyistsWork_28 rfl (lv_at hl 0 rfl) ?_
          refine lv_ifnonnullN hx hb dX9_copyistsWork_29 ?_
          refine lv_goto (tgt := 61) hx hb dX9_copyistsWork_32 (by decide) ?_
          refine lv_iinc (v := nI (j1 + 1)) (lv' := [(1, .int (nI (j1 + 1))), (3, .null), (2, .ref p9), (0, .ref (x 0))]) hx hb dX9_copyistsWork_61 hl (k := 2) rfl (by rw [← nI_1]; rfl) (by decide) rfl (fun ls hl => ?_)
          refine lv_goto (tgt := 2) hx hb dX9_copyistsWork_64 (by decide) ?_
          exact ihkey2 (400 - ((j1 + 1))) (by omega) ((j1 + 1)) rfl (by omega) N3 n4 a5 r6 f7  hNB hRB hHT hSM hMM _ _ _ hP hD hS (lv_sub hl [0, 3] rfl)
        · skip
          subst eb11
          have mb11 := sb_o10 b11 rfl
          have hP : va_P D vwCl (XW x cy g N3 n4 a5 r6 ++ va_pl L f7) H := by assumption
          have hD : va_D (va_A (XW x cy g N n a r ++ va_pl L f) s.heap.size) (XW x cy g N3 n4 a5 r6 ++ va_pl L f7) := by assumption
          have hl : lv_has ls 4 [(2, .ref p9), (1, .int (nI j1)), (0, .ref (x 0))] := by assumption
          refine lv_astore_n (lv' := [(3, .ref b11), (2, .ref p9), (1, .int (nI j1)), (0, .ref (x 0))]) hx hb dX9_copyistsWork_27 rfl hl (by decide) rfl (fun ls hl => ?_)
          refine lv_aload_n hx hb dX9_copyistsWork_28 rfl (lv_at hl 0 rfl) ?_
          refine lv_ifnonnull (tgt := 35) hx hb dX9_copyistsWork_29 (by decide) ?_
          refine lv_aload_n hx hb dX9_copyistsWork_35 rfl (lv_at hl 1 rfl) ?_
          refine lv_dup hx hb dX9_copyistsWork_36 rfl ?_
          refine pg_get (D := D) (ci := 8) (v := .int l_o10) (C := RX8) (T := TX8) (N := 3) hx hb hts iX9_copyistsWork_8 hown hK hP mp9 hf_o10 rfl 2 (by decide) (hts (.fieldLink RX9 243 "FondsRoom$Worker" "left" "I") (by decide +kernel)) (fun _ h9 => h9) rfl dX9_copyistsWork_37 ?_
          refine lv_iconst (v := 1) hx hb dX9_copyistsWork_40 (by decide) ?_
          refine lv_isub hx hb dX9_copyistsWork_41 ?_
          refine pg_put (D := D) (ci := 8) (v := .int (l_o10 - 1)) (ty := .int) (C := RX8) (T := TX8) (N := 3) hx hb hts iX9_copyistsWork_8 tyX8 tyX8_ok nmX8 hown hK hP hD hS mp9 hf_o10 rfl 2 (by decide) (hts (.fieldLink RX9 243 "FondsRoom$Worker" "left" "I") (by decide +kernel)) (fun _ h9 => h9) rfl (by decide +kernel) rfl rfl (Nat.le_of_ble_eq_true rfl) dX9_copyistsWork_42 (fun H locs hP hD hS => ?_)
          obtain ⟨f12, ef12⟩ : ∃ z, z = va_up f7 p9 (.inr (8, [.ref b11, va_rf g_o10, .int (l_o10 - 1)])) := ⟨_, rfl⟩
          have hP : va_P D vwCl (XW x cy g N3 n4 a5 r6 ++ va_pl L f12) H := by rw [ef12]; exact hP
          have hD : va_D (va_A (XW x cy g N n a r ++ va_pl L f) s.heap.size) (XW x cy g N3 n4 a5 r6 ++ va_pl L f12) := by rw [ef12]; exact hD
          have hHT : HT L K cy f12 := by rw [ef12]; exact HT_up hHT 8 kp9 ⟨(some b11), g_o10, (l_o10 - 1), rfl, (rok_some mb11.1 mb11.2), sg_o10⟩
          have hf13 : f12 p9 = .inr (8, [.ref b11, va_rf g_o10, .int (l_o10 - 1)]) := by rw [ef12]; exact va_up_self _ _ _
          refine lv_aload_n hx hb dX9_copyistsWork_45 rfl (lv_at hl 1 rfl) ?_
          refine pg_get (D := D) (ci := 8) (v := .int (l_o10 - 1)) (C := RX8) (T := TX8) (N := 3) hx hb hts iX9_copyistsWork_8 hown hK hP mp9 hf13 rfl 2 (by decide) (hts (.fieldLink RX9 243 "FondsRoom$Worker" "left" "I") (by decide +kernel)) (fun _ h9 => h9) rfl dX9_copyistsWork_46 ?_
          refine lv_if_gt (tgt := 61) hx hb dX9_copyistsWork_49 (by decide) (fun c14 => ?_) (fun c14 => ?_)
          · skip
            refine lv_iinc (v := nI (j1 + 1)) (lv' := [(1, .int (nI (j1 + 1))), (3, .ref b11), (2, .ref p9), (0, .ref (x 0))]) hx hb dX9_copyistsWork_61 hl (k := 2) rfl (by rw [← nI_1]; rfl) (by decide) rfl (fun ls hl => ?_)
            refine lv_goto (tgt := 2) hx hb dX9_copyistsWork_64 (by decide) ?_
            exact ihkey2 (400 - ((j1 + 1))) (by omega) ((j1 + 1)) rfl (by omega) N3 n4 a5 r6 f12  hNB hRB hHT hSM hMM _ _ _ hP hD hS (lv_sub hl [0, 3] rfl)
          · skip
            refine lv_aload_n hx hb dX9_copyistsWork_52 rfl (lv_at hl 3 rfl) ?_
            refine lv_aload_n hx hb dX9_copyistsWork_53 rfl (lv_at hl 0 rfl) ?_
            refine gvV (As := [.ref b11]) (rest := []) ⟨hx, hb, hml, hown, hts⟩ (zX9_finishCopy l D x cy g L K hG N3 n4 a5 r6 f12 ⟨hNB, hRB, hHT⟩ _ b11  ⟨mb11.1, mb11.2⟩) (cwV 1 hts gX9_copyistsWork_X9_finishCopy rfl rfl rfl (by decide +kernel) ⟨Nat.le_of_ble_eq_true rfl, Nat.le_of_ble_eq_true rfl⟩) hK hP hD hS hA (va_recv hK hP (ci := 9) (q0 := 0) rfl rfl) rfl hl.1 rfl (Nat.le_of_ble_eq_true rfl) dX9_copyistsWork_54 ⟨Nat.le_of_ble_eq_true rfl, Nat.le_of_ble_eq_true rfl⟩ (fun u16 H locs hq15 hP hD hS => ?_)
            obtain ⟨N17, n18, a19, r20, f21⟩ := u16
            obtain ⟨⟨hNB, hRB, hHT⟩, hs22, hv23, hq15b⟩ := hq15
            have hSM : SM N N17 n n18 := SM_tr hSM hs22
            have hMM : MM N N17 a a19 := MM_tr hMM hv23
            have hP : va_P D vwCl (XW x cy g N17 n18 a19 r20 ++ va_pl L f21) H := hP
            have hD : va_D _ (XW x cy g N17 n18 a19 r20 ++ va_pl L f21) := hD
            refine lv_aload_n hx hb dX9_copyistsWork_57 rfl (lv_at hl 1 rfl) ?_
            obtain ⟨b_o26, g_o26, l_o26, hf_o26, sb_o26, sg_o26⟩ : TE L K cy 8 (f21 p9) := by rw [← kp9]; exact hHT p9 mp9
            refine gvV (As := []) (rest := []) ⟨hx, hb, hml, hown, hts⟩ (zX8_release l D x cy g L K hG N17 n18 a19 r20 f21 ⟨hNB, hRB, hHT⟩ _ p9  ⟨mp9, kp9⟩) (cwV 0 hts gX9_copyistsWork_X8_release rfl rfl rfl (by decide +kernel) ⟨Nat.le_of_ble_eq_true rfl, Nat.le_of_ble_eq_true rfl⟩) hK hP hD hS hA (pl_recv hK hP (ci := 8) rfl mp9 hf_o26) rfl hl.1 rfl (Nat.le_of_ble_eq_true rfl) dX9_copyistsWork_58 ⟨Nat.le_of_ble_eq_true rfl, Nat.le_of_ble_eq_true rfl⟩ (fun u25 H locs hq24 hP hD hS => ?_)
            obtain ⟨N27, n28, a29, r30, f31⟩ := u25
            obtain ⟨⟨hNB, hRB, hHT⟩, hs32, hv33, hq24b⟩ := hq24
            have hSM : SM N N27 n n28 := SM_tr hSM hs32
            have hMM : MM N N27 a a29 := MM_tr hMM hv33
            have hP : va_P D vwCl (XW x cy g N27 n28 a29 r30 ++ va_pl L f31) H := hP
            have hD : va_D _ (XW x cy g N27 n28 a29 r30 ++ va_pl L f31) := hD
            refine lv_iinc (v := nI (j1 + 1)) (lv' := [(1, .int (nI (j1 + 1))), (3, .ref b11), (2, .ref p9), (0, .ref (x 0))]) hx hb dX9_copyistsWork_61 hl (k := 2) rfl (by rw [← nI_1]; rfl) (by decide) rfl (fun ls hl => ?_)
            refine lv_goto (tgt := 2) hx hb dX9_copyistsWork_64 (by decide) ?_
            have nb0 : N27 0 ≤ 12 := hNB 0 (by decide)
            have nb1 : N27 1 ≤ 40 := hNB 1 (by decide)
            have nb2 : N27 2 ≤ 20 := hNB 2 (by decide)
            have nb3 : N27 3 ≤ 4 := hNB 3 (by decide)
            have nb4 : N27 4 ≤ 3 := hNB 4 (by decide)
            have nb5 : N27 5 ≤ 20 := hNB 5 (by decide)
            have nb6 : N27 6 ≤ 20 := hNB 6 (by decide)
            have nb7 : N27 7 ≤ 20 := hNB 7 (by decide)
            have nb8 : N27 8 ≤ 30 := hNB 8 (by decide)
            have nb9 : N27 9 ≤ 400 := hNB 9 (by decide)
            exact ihkey2 (400 - ((j1 + 1))) (by omega) ((j1 + 1)) rfl (by omega) N27 n28 a29 r30 f31  hNB hRB hHT hSM hMM _ _ _ hP hD hS (lv_sub hl [0, 3] rfl)
  have nb0 : N 0 ≤ 12 := hNB 0 (by decide)
  have nb1 : N 1 ≤ 40 := hNB 1 (by decide)
  have nb2 : N 2 ≤ 20 := hNB 2 (by decide)
  have nb3 : N 3 ≤ 4 := hNB 3 (by decide)
  have nb4 : N 4 ≤ 3 := hNB 4 (by decide)
  have nb5 : N 5 ≤ 20 := hNB 5 (by decide)
  have nb6 : N 6 ≤ 20 := hNB 6 (by decide)
  have nb7 : N 7 ≤ 20 := hNB 7 (by decide)
  have nb8 : N 8 ≤ 30 := hNB 8 (by decide)
  have nb9 : N 9 ≤ 400 := hNB 9 (by decide)
  exact key2 (400 - (0)) (0) rfl (by omega) N n a r f  hNB hRB hHT hSM hMM _ _ _ hP hD hS (lv_sub hl [0, 1] rfl)

theorem iX9_readersRead_6 : ∀ w ∈ wsX60, w ∈ wsX9_readersRead := fun _ h => List.mem_cons_of_mem _ (List.mem_append_right _ h)
theorem iX9_readersRead_9 : ∀ w ∈ wsX90, w ∈ wsX9_readersRead := fun _ h => List.mem_cons_of_mem _ (List.mem_append_left _ (List.mem_append_right _ h))
set_option maxHeartbeats 4000000 in
set_option maxRecDepth 100000 in
theorem zX9_readersRead (l : Launch) (D : va_G) (x : Nat → Nat) (cy : Nat → ClassId) (g : Nat → Nat → Option Nat) (L : List Nat) (K : Nat → Nat) (hG : GO L K g) (N : Nat → Nat) (n : Nat → Int32) (a : Nat → Nat → Int32) (r : Nat → Nat → Option Nat) (f : Nat → va_E) (hC : CI L K cy N r f) (sz : Nat) : Met l yX9_readersRead wsX9_readersRead ({ frames := 0, cells := 0, slots := 0, locals := 0 }) (PW D (TYS cy) (XW x cy g N n a r ++ va_pl L f) sz [.ref (x 0)]) (va_Qv (fun (u : ST) => CI L K cy u.1 u.2.2.2.1 u.2.2.2.2 ∧ SM N u.1 n u.2.1 ∧ MM N u.1 a u.2.2.1 ∧ True) (BU D (TYS cy) (XW x cy g N n a r ++ va_pl L f) (WC x cy g L) sz) (va_A (XW x cy g N n a r ++ va_pl L f) sz)) 0 0 (va_A (XW x cy g N n a r ++ va_pl L f) sz) := by
  refine Met.ofW (cc := cX9_readersRead) (maxL := 3) (ret := none) (by decide) rfl ?_
  intro p e s m args below meth c s₁ B hml hv
  obtain ⟨rfl, hsz, hP, hK, hD0⟩ := hv
  have hx := B.exec
  have hb := B.bytes
  have hr := B.returns
  have hts := atoms_spec (ws := wsX9_readersRead) B.pre
  have hown : s.vm.findClass RX9 = some m.cls := findClass_of_methodNamed B.named
  have hlocks := B.notSynchronized
  subst hsz
  obtain ⟨hNB, hRB, hHT⟩ := hC
  have hSM : SM N N n n := SM_rf
  have hMM : MM N N a a := MM_rf
  have hD := hD0.self (sz := s.heap.size)
  have hA : ∀ q9 : Nat, s.heap.size ≤ q9 → va_A (XW x cy g N n a r ++ va_pl L f) s.heap.size q9 := fun q9 h => Or.inr h
  have hS : va_S (va_A (XW x cy g N n a r ++ va_pl L f) s.heap.size) s.heap s.heap [] := va_S.rf
  have hl := lv_entry ([.ref (x 0)]) (n := 3) (Nat.le_of_ble_eq_true rfl)
  rw [lg_entry_eq]
  generalize (lg_sl ([.ref (x 0)]) ++ List.replicate (3 - (lg_sl ([.ref (x 0)])).length) Slot.unset).toArray = ls at hl ⊢
  have hl : lv_has ls 3 [(0, .ref (x 0))] := hl
  refine lv_iconst (v := 0) hx hb dX9_readersRead_0 (by decide) ?_
  refine lv_istore_n (lv' := [(1, .int 0), (0, .ref (x 0))]) hx hb dX9_readersRead_1 rfl hl (by decide) rfl (fun ls hl => ?_)
  have key2 : ∀ (m9 j1 : Nat), 400 - j1 = m9 → j1 ≤ 400 → ∀ (N3 : Nat → Nat) (n4 : Nat → Int32) (a5 : Nat → Nat → Int32) (r6 : Nat → Nat → Option Nat) (f7 : Nat → va_E) , NB N3 → RB L K N3 r6 → HT L K cy f7 → SM N N3 n n4 → MM N N3 a a5 → ∀ (H : Heap) (locs : List Loc) (ls : Array Slot), va_P D vwCl (XW x cy g N3 n4 a5 r6 ++ va_pl L f7) H → va_D (va_A (XW x cy g N n a r ++ va_pl L f) s.heap.size) (XW x cy g N3 n4 a5 r6 ++ va_pl L f7) → va_S (va_A (XW x cy g N n a r ++ va_pl L f) s.heap.size) s.heap H locs → lv_has ls 3 [(1, .int (nI j1)), (0, .ref (x 0))] → W p l e (headSpec wsX9_readersRead ({ frames := 0, cells := 0, slots := 0, locals := 0 })).room s m #[.ref (x 0)] below meth c H locs 0 0 (MQ below (va_Qv (fun (u : ST) => CI L K cy u.1 u.2.2.2.1 u.2.2.2.2 ∧ SM N u.1 n u.2.1 ∧ MM N u.1 a u.2.2.1 ∧ True) (BU D (TYS cy) (XW x cy g N n a r ++ va_pl L f) (WC x cy g L) s.heap.size) (va_A (XW x cy g N n a r ++ va_pl L f) s.heap.size)) #[.ref (x 0)] s 0 0 (va_A (XW x cy g N n a r ++ va_pl L f) s.heap.size)) (F0 m 2 ls []) := by
    intro m9
    induction m9 using Nat.strongRecOn with
    | _ m9 ihkey2 =>
      intro j1 hm9 hj400 N3 n4 a5 r6 f7  hNB hRB hHT hSM hMM H locs ls hP hD hS hl
      subst hm9
      have nb0 : N3 0 ≤ 12 := hNB 0 (by decide)
      have nb1 : N3 1 ≤ 40 := hNB 1 (by decide)
      have nb2 : N3 2 ≤ 20 := hNB 2 (by decide)
      have nb3 : N3 3 ≤ 4 := hNB 3 (by decide)
      have nb4 : N3 4 ≤ 3 := hNB 4 (by decide)
      have nb5 : N3 5 ≤ 20 := hNB 5 (by decide)
      have nb6 : N3 6 ≤ 20 := hNB 6 (by decide)
      have nb7 : N3 7 ≤ 20 := hNB 7 (by decide)
      have nb8 : N3 8 ≤ 30 := hNB 8 (by decide)
      have nb9 : N3 9 ≤ 400 := hNB 9 (by decide)
      refine lv_iload_n hx hb dX9_readersRead_2 rfl (lv_at hl 0 rfl) ?_
      refine lv_aload_n hx hb dX9_readersRead_3 rfl (lv_at hl 1 rfl) ?_
      refine va_get (D := D) (ci := 9) (v := .int (nI (N3 2))) (C := RX9) (T := TX9) (N := 19) hx hb hts iX9_readersRead_9 hown hK hP 0 rfl rfl 12 (by decide) (hts (.fieldLink RX9 104 "FondsRoom" "readerCount" "I") (by decide +kernel)) (fun _ h9 => h9) rfl dX9_readersRead_4 ?_
      refine lv_icmp_ge (tgt := 57) hx hb dX9_readersRead_7 (by decide) (fun c8 => ?_) (fun c8 => ?_)
      · skip
        have dc8 : (N3 2) ≤ j1 := (nI_leI (a := (N3 2)) (b := j1) (by omega) (by omega)).mp c8
        exact W.vret hx hb hr (fun t ht hW => ⟨⟨(N3, n4, a5, r6, f7), rfl, ⟨⟨hNB, hRB, hHT⟩, hSM, hMM, trivial⟩, by rw [ht]; exact hP, va_K.moved hW.alike hK, hD⟩, hS.F ht⟩) hS.2.2 dX9_readersRead_57
      · skip
        have dc8 : j1 < (N3 2) := Nat.not_le.mp (fun h9 => c8 ((nI_leI (a := (N3 2)) (b := j1) (by omega) (by omega)).mpr h9))
        refine lv_aload_n hx hb dX9_readersRead_10 rfl (lv_at hl 1 rfl) ?_
        refine va_get (D := D) (ci := 9) (v := .ref (x 3)) (C := RX9) (T := TX9) (N := 19) hx hb hts iX9_readersRead_9 hown hK hP 0 rfl rfl 2 (by decide) (hts (.fieldLink RX9 27 "FondsRoom" "readers" "[LFondsRoom$Reader;") (by decide +kernel)) (fun _ h9 => h9) rfl dX9_readersRead_11 ?_
        refine lv_iload_n hx hb dX9_readersRead_14 rfl (lv_at hl 0 rfl) ?_
        refine va_aldq hx hb hK hP 3 4 rfl rfl (vp_in_nI (by omega) (by omega)) dX9_readersRead_15 ?_
        obtain ⟨p9, ep9, mp9, kp9⟩ := hG.2.2.1 j1 (by omega)
        refine lv_tov (v' := .ref p9) (by rw [nI_clamp (by omega)]; show va_rf (g 2 j1) = _; rw [ep9]; rfl) ?_
        refine lv_astore_n (lv' := [(2, .ref p9), (1, .int (nI j1)), (0, .ref (x 0))]) hx hb dX9_readersRead_16 rfl hl (by decide) rfl (fun ls hl => ?_)
        refine lv_aload_n hx hb dX9_readersRead_17 rfl (lv_at hl 0 rfl) ?_
        obtain ⟨n_o10, p_o10, ar_o10, rk_o10, nw_o10, st_o10, ct_o10, d_o10, aw_o10, rl_o10, cp_o10, cu_o10, w1_o10, w2_o10, w3_o10, ov_o10, co_o10, hf_o10, sp_o10, snw_o10, sd_o10, saw_o10, scu_o10⟩ : TE L K cy 6 (f7 p9) := by rw [← kp9]; exact hHT p9 mp9
        refine pg_get (D := D) (ci := 6) (v := .int st_o10) (C := RX6) (T := TX6) (N := 17) hx hb hts iX9_readersRead_6 hown hK hP mp9 hf_o10 rfl 5 (by decide) (hts (.fieldLink RX9 270 "FondsRoom$Reader" "state" "I") (by decide +kernel)) (fun _ h9 => h9) rfl dX9_readersRead_18 ?_
        refine lv_iconst (v := 3) hx hb dX9_readersRead_21 (by decide) ?_
        refine lv_icmp_eq (tgt := 28) hx hb dX9_readersRead_22 (by decide) (fun c11 => ?_) (fun c11 => ?_)
        · skip
          refine lv_aload_n hx hb dX9_readersRead_28 rfl (lv_at hl 0 rfl) ?_
          refine lv_dup hx hb dX9_readersRead_29 rfl ?_
          refine pg_get (D := D) (ci := 6) (v := .int rl_o10) (C := RX6) (T := TX6) (N := 17) hx hb hts iX9_readersRead_6 hown hK hP mp9 hf_o10 rfl 9 (by decide) (hts (.fieldLink RX9 284 "FondsRoom$Reader" "readLeft" "I") (by decide +kernel)) (fun _ h9 => h9) rfl dX9_readersRead_30 ?_
          refine lv_iconst (v := 1) hx hb dX9_readersRead_33 (by decide) ?_
          refine lv_isub hx hb dX9_readersRead_34 ?_
          refine pg_put (D := D) (ci := 6) (v := .int (rl_o10 - 1)) (ty := .int) (C := RX6) (T := TX6) (N := 17) hx hb hts iX9_readersRead_6 tyX6 tyX6_ok nmX6 hown hK hP hD hS mp9 hf_o10 rfl 9 (by decide) (hts (.fieldLink RX9 284 "FondsRoom$Reader" "readLeft" "I") (by decide +kernel)) (fun _ h9 => h9) rfl (by decide +kernel) rfl rfl (Nat.le_of_ble_eq_true rfl) dX9_readersRead_35 (fun H locs hP hD hS => ?_)
          obtain ⟨f12, ef12⟩ : ∃ z, z = va_up f7 p9 (.inr (6, [.int n_o10, .ref p_o10, .int ar_o10, .int rk_o10, .int nw_o10, .int st_o10, .int ct_o10, va_rf d_o10, va_rf aw_o10, .int (rl_o10 - 1), .int cp_o10, .int cu_o10, .int w1_o10, .int w2_o10, .int w3_o10, .int ov_o10, .int co_o10])) := ⟨_, rfl⟩
          have hP : va_P D vwCl (XW x cy g N3 n4 a5 r6 ++ va_pl L f12) H := by rw [ef12]; exact hP
          have hD : va_D (va_A (XW x cy g N n a r ++ va_pl L f) s.heap.size) (XW x cy g N3 n4 a5 r6 ++ va_pl L f12) := by rw [ef12]; exact hD
          have hHT : HT L K cy f12 := by rw [ef12]; exact HT_up hHT 6 kp9 ⟨n_o10, p_o10, ar_o10, rk_o10, nw_o10, st_o10, ct_o10, d_o10, aw_o10, (rl_o10 - 1), cp_o10, cu_o10, w1_o10, w2_o10, w3_o10, ov_o10, co_o10, rfl, ⟨sp_o10.1, sp_o10.2⟩, snw_o10, sd_o10, saw_o10, scu_o10⟩
          have hf13 : f12 p9 = .inr (6, [.int n_o10, .ref p_o10, .int ar_o10, .int rk_o10, .int nw_o10, .int st_o10, .int ct_o10, va_rf d_o10, va_rf aw_o10, .int (rl_o10 - 1), .int cp_o10, .int cu_o10, .int w1_o10, .int w2_o10, .int w3_o10, .int ov_o10, .int co_o10]) := by rw [ef12]; exact va_up_self _ _ _
          refine lv_aload_n hx hb dX9_readersRead_38 rfl (lv_at hl 0 rfl) ?_
          refine pg_get (D := D) (ci := 6) (v := .int (rl_o10 - 1)) (C := RX6) (T := TX6) (N := 17) hx hb hts iX9_readersRead_6 hown hK hP mp9 hf13 rfl 9 (by decide) (hts (.fieldLink RX9 284 "FondsRoom$Reader" "readLeft" "I") (by decide +kernel)) (fun _ h9 => h9) rfl dX9_readersRead_39 ?_
          refine lv_if_gt (tgt := 51) hx hb dX9_readersRead_42 (by decide) (fun c14 => ?_) (fun c14 => ?_)
          · skip
            refine lv_iinc (v := nI (j1 + 1)) (lv' := [(1, .int (nI (j1 + 1))), (2, .ref p9), (0, .ref (x 0))]) hx hb dX9_readersRead_51 hl (k := 1) rfl (by rw [← nI_1]; rfl) (by decide) rfl (fun ls hl => ?_)
            refine lv_goto (tgt := 2) hx hb dX9_readersRead_54 (by decide) ?_
            exact ihkey2 (400 - ((j1 + 1))) (by omega) ((j1 + 1)) rfl (by omega) N3 n4 a5 r6 f12  hNB hRB hHT hSM hMM _ _ _ hP hD hS (lv_sub hl [0, 2] rfl)
          · skip
            refine lv_aload_n hx hb dX9_readersRead_45 rfl (lv_at hl 0 rfl) ?_
            refine lv_bipush (v := 8) hx hb dX9_readersRead_46 (by decide) ?_
            refine pg_put (D := D) (ci := 6) (v := .int 8) (ty := .int) (C := RX6) (T := TX6) (N := 17) hx hb hts iX9_readersRead_6 tyX6 tyX6_ok nmX6 hown hK hP hD hS mp9 hf13 rfl 5 (by decide) (hts (.fieldLink RX9 270 "FondsRoom$Reader" "state" "I") (by decide +kernel)) (fun _ h9 => h9) rfl (by decide +kernel) rfl rfl (Nat.le_of_ble_eq_true rfl) dX9_readersRead_48 (fun H locs hP hD hS => ?_)
            obtain ⟨f15, ef15⟩ : ∃ z, z = va_up f12 p9 (.inr (6, [.int n_o10, .ref p_o10, .int ar_o10, .int rk_o10, .int nw_o10, .int 8, .int ct_o10, va_rf d_o10, va_rf aw_o10, .int (rl_o10 - 1), .int cp_o10, .int cu_o10, .int w1_o10, .int w2_o10, .int w3_o10, .int ov_o10, .int co_o10])) := ⟨_, rfl⟩
            have hP : va_P D vwCl (XW x cy g N3 n4 a5 r6 ++ va_pl L f15) H := by rw [ef15]; exact hP
            have hD : va_D (va_A (XW x cy g N n a r ++ va_pl L f) s.heap.size) (XW x cy g N3 n4 a5 r6 ++ va_pl L f15) := by rw [ef15]; exact hD
            have hHT : HT L K cy f15 := by rw [ef15]; exact HT_up hHT 6 kp9 ⟨n_o10, p_o10, ar_o10, rk_o10, nw_o10, 8, ct_o10, d_o10, aw_o10, (rl_o10 - 1), cp_o10, cu_o10, w1_o10, w2_o10, w3_o10, ov_o10, co_o10, rfl, ⟨sp_o10.1, sp_o10.2⟩, snw_o10, sd_o10, saw_o10, scu_o10⟩
            have hf16 : f15 p9 = .inr (6, [.int n_o10, .ref p_o10, .int ar_o10, .int rk_o10, .int nw_o10, .int 8, .int ct_o10, va_rf d_o10, va_rf aw_o10, .int (rl_o10 - 1), .int cp_o10, .int cu_o10, .int w1_o10, .int w2_o10, .int w3_o10, .int ov_o10, .int co_o10]) := by rw [ef15]; exact va_up_self _ _ _
            refine lv_iinc (v := nI (j1 + 1)) (lv' := [(1, .int (nI (j1 + 1))), (2, .ref p9), (0, .ref (x 0))]) hx hb dX9_readersRead_51 hl (k := 1) rfl (by rw [← nI_1]; rfl) (by decide) rfl (fun ls hl => ?_)
            refine lv_goto (tgt := 2) hx hb dX9_readersRead_54 (by decide) ?_
            exact ihkey2 (400 - ((j1 + 1))) (by omega) ((j1 + 1)) rfl (by omega) N3 n4 a5 r6 f15  hNB hRB hHT hSM hMM _ _ _ hP hD hS (lv_sub hl [0, 2] rfl)
        · skip
          refine lv_goto (tgt := 51) hx hb dX9_readersRead_25 (by decide) ?_
          refine lv_iinc (v := nI (j1 + 1)) (lv' := [(1, .int (nI (j1 + 1))), (2, .ref p9), (0, .ref (x 0))]) hx hb dX9_readersRead_51 hl (k := 1) rfl (by rw [← nI_1]; rfl) (by decide) rfl (fun ls hl => ?_)
          refine lv_goto (tgt := 2) hx hb dX9_readersRead_54 (by decide) ?_
          exact ihkey2 (400 - ((j1 + 1))) (by omega) ((j1 + 1)) rfl (by omega) N3 n4 a5 r6 f7  hNB hRB hHT hSM hMM _ _ _ hP hD hS (lv_sub hl [0, 2] rfl)
  have nb0 : N 0 ≤ 12 := hNB 0 (by decide)
  have nb1 : N 1 ≤ 40 := hNB 1 (by decide)
  have nb2 : N 2 ≤ 20 := hNB 2 (by decide)
  have nb3 : N 3 ≤ 4 := hNB 3 (by decide)
  have nb4 : N 4 ≤ 3 := hNB 4 (by decide)
  have nb5 : N 5 ≤ 20 := hNB 5 (by decide)
  have nb6 : N 6 ≤ 20 := hNB 6 (by decide)
  have nb7 : N 7 ≤ 20 := hNB 7 (by decide)
  have nb8 : N 8 ≤ 30 := hNB 8 (by decide)
  have nb9 : N 9 ≤ 400 := hNB 9 (by decide)
  exact key2 (400 - (0)) (0) rfl (by omega) N n a r f  hNB hRB hHT hSM hMM _ _ _ hP hD hS (lv_sub hl [0, 1] rfl)

theorem iX9_goOn_5 : ∀ w ∈ wsX50, w ∈ wsX9_goOn := fun _ h => List.mem_cons_of_mem _ (List.mem_append_left _ (List.mem_append_left _ (List.mem_append_left _ (List.mem_append_left _ (List.mem_append_left _ (List.mem_append_right _ h))))))
theorem iX9_goOn_6 : ∀ w ∈ wsX60, w ∈ wsX9_goOn := fun _ h => List.mem_cons_of_mem _ (List.mem_append_left _ (List.mem_append_left _ (List.mem_append_left _ (List.mem_append_left _ (List.mem_append_left _ (List.mem_append_left _ (List.mem_append_right _ h)))))))
theorem iX9_goOn_9 : ∀ w ∈ wsX90, w ∈ wsX9_goOn := fun _ h => List.mem_cons_of_mem _ (List.mem_append_left _ (List.mem_append_left _ (List.mem_append_left _ (List.mem_append_left _ (List.mem_append_right _ h)))))
set_option maxHeartbeats 4000000 in
set_option maxRecDepth 100000 in
theorem zX9_goOn (l : Launch) (D : va_G) (x : Nat → Nat) (cy : Nat → ClassId) (g : Nat → Nat → Option Nat) (L : List Nat) (K : Nat → Nat) (hG : GO L K g) (N : Nat → Nat) (n : Nat → Int32) (a : Nat → Nat → Int32) (r : Nat → Nat → Option Nat) (f : Nat → va_E) (hC : CI L K cy N r f) (sz : Nat) (rd : Nat) (mrd : rd ∈ L ∧ K rd = 6) : Met l yX9_goOn wsX9_goOn ({ frames := 3, cells := 0, slots := 0, locals := 71 }) (PW D (TYS cy) (XW x cy g N n a r ++ va_pl L f) sz [.ref (x 0), .ref rd]) (va_Qv (fun (u : ST) => CI L K cy u.1 u.2.2.2.1 u.2.2.2.2 ∧ SM N u.1 n u.2.1 ∧ MM N u.1 a u.2.2.1 ∧ True) (BU D (TYS cy) (XW x cy g N n a r ++ va_pl L f) (WC x cy g L) sz) (va_A (XW x cy g N n a r ++ va_pl L f) sz)) 0 0 (va_A (XW x cy g N n a r ++ va_pl L f) sz) := by
  refine Met.ofW (cc := cX9_goOn) (maxL := 5) (ret := none) (by decide) rfl ?_
  intro p e s m args below meth c s₁ B hml hv
  obtain ⟨rfl, hsz, hP, hK, hD0⟩ := hv
  have hx := B.exec
  have hb := B.bytes
  have hr := B.returns
  have hts := atoms_spec (ws := wsX9_goOn) B.pre
  have hown : s.vm.findClass RX9 = some m.cls := findClass_of_methodNamed B.named
  have hlocks := B.notSynchronized
  subst hsz
  obtain ⟨hNB, hRB, hHT⟩ := hC
  have hSM : SM N N n n := SM_rf
  have hMM : MM N N a a := MM_rf
  have hD := hD0.self (sz := s.heap.size)
  have hA : ∀ q9 : Nat, s.heap.size ≤ q9 → va_A (XW x cy g N n a r ++ va_pl L f) s.heap.size q9 := fun q9 h => Or.inr h
  have hS : va_S (va_A (XW x cy g N n a r ++ va_pl L f) s.heap.size) s.heap s.heap [] := va_S.rf
  have hl := lv_entry ([.ref (x 0), .ref rd]) (n := 5) (Nat.le_of_ble_eq_true rfl)
  rw [lg_entry_eq]
  generalize (lg_sl ([.ref (x 0), .ref rd]) ++ List.replicate (5 - (lg_sl ([.ref (x 0), .ref rd])).length) Slot.unset).toArray = ls at hl ⊢
  have hl : lv_has ls 5 [(0, .ref (x 0)), (1, .ref rd)] := hl
  refine lv_aload_n hx hb dX9_goOn_0 rfl (lv_at hl 1 rfl) ?_
  obtain ⟨n_o1, p_o1, ar_o1, rk_o1, nw_o1, st_o1, ct_o1, d_o1, aw_o1, rl_o1, cp_o1, cu_o1, w1_o1, w2_o1, w3_o1, ov_o1, co_o1, hf_o1, sp_o1, snw_o1, sd_o1, saw_o1, scu_o1⟩ : TE L K cy 6 (f rd) := by rw [← mrd.2]; exact hHT rd mrd.1
  refine pg_get (D := D) (ci := 6) (v := .ref p_o1) (C := RX6) (T := TX6) (N := 17) hx hb hts iX9_goOn_6 hown hK hP mrd.1 hf_o1 rfl 1 (by decide) (hts (.fieldLink RX9 135 "FondsRoom$Reader" "plan" "LFondsRoom$Plan;") (by decide +kernel)) (fun _ h9 => h9) rfl dX9_goOn_1 ?_
  refine lv_astore_n (lv' := [(2, .ref p_o1), (0, .ref (x 0)), (1, .ref rd)]) hx hb dX9_goOn_4 rfl hl (by decide) rfl (fun ls hl => ?_)
  refine lv_aload_n hx hb dX9_goOn_5 rfl (lv_at hl 0 rfl) ?_
  obtain ⟨k1_o2, k2_o2, k3_o2, k4_o2, k5_o2, sz_o2, bg_o2, rf_o2, hf_o2, sk1_o2, sk2_o2, sk3_o2, sk4_o2, sk5_o2, ssz_o2, sbg_o2, srf_o2⟩ : TE L K cy 5 (f p_o1) := by rw [← sp_o1.2]; exact hHT p_o1 sp_o1.1
  refine pg_get (D := D) (ci := 5) (v := .int (nI bg_o2)) (C := RX5) (T := TX5) (N := 8) hx hb hts iX9_goOn_5 hown hK hP sp_o1.1 hf_o2 rfl 6 (by decide) (hts (.fieldLink RX9 290 "FondsRoom$Plan" "begun" "I") (by decide +kernel)) (fun _ h9 => h9) rfl dX9_goOn_6 ?_
  refine lv_istore_n (lv' := [(3, .int (nI bg_o2)), (2, .ref p_o1), (0, .ref (x 0)), (1, .ref rd)]) hx hb dX9_goOn_9 rfl hl (by decide) rfl (fun ls hl => ?_)
  have key4 : ∀ (m9 j3 : Nat), 400 - j3 = m9 → j3 ≤ 400 → ∀ (N5 : Nat → Nat) (n6 : Nat → Int32) (a7 : Nat → Nat → Int32) (r8 : Nat → Nat → Option Nat) (f9 : Nat → va_E) , NB N5 → RB L K N5 r8 → HT L K cy f9 → SM N N5 n n6 → MM N N5 a a7 → ∀ (H : Heap) (locs : List Loc) (ls : Array Slot), va_P D vwCl (XW x cy g N5 n6 a7 r8 ++ va_pl L f9) H → va_D (va_A (XW x cy g N n a r ++ va_pl L f) s.heap.size) (XW x cy g N5 n6 a7 r8 ++ va_pl L f9) → va_S (va_A (XW x cy g N n a r ++ va_pl L f) s.heap.size) s.heap H locs → lv_has ls 5 [(3, .int (nI j3)), (2, .ref p_o1), (0, .ref (x 0)), (1, .ref rd)] → W p l e (headSpec wsX9_goOn ({ frames := 3, cells := 0, slots := 0, locals := 71 })).room s m #[.ref (x 0), .ref rd] below meth c H locs 0 0 (MQ below (va_Qv (fun (u : ST) => CI L K cy u.1 u.2.2.2.1 u.2.2.2.2 ∧ SM N u.1 n u.2.1 ∧ MM N u.1 a u.2.2.1 ∧ True) (BU D (TYS cy) (XW x cy g N n a r ++ va_pl L f) (WC x cy g L) s.heap.size) (va_A (XW x cy g N n a r ++ va_pl L f) s.heap.size)) #[.ref (x 0), .ref rd] s 0 0 (va_A (XW x cy g N n a r ++ va_pl L f) s.heap.size)) (F0 m 10 ls []) := by
    intro m9
    induction m9 using Nat.strongRecOn with
    | _ m9 ihkey4 =>
      intro j3 hm9 hj400 N5 n6 a7 r8 f9  hNB hRB hHT hSM hMM H locs ls hP hD hS hl
      subst hm9
      have nb0 : N5 0 ≤ 12 := hNB 0 (by decide)
      have nb1 : N5 1 ≤ 40 := hNB 1 (by decide)
      have nb2 : N5 2 ≤ 20 := hNB 2 (by decide)
      have nb3 : N5 3 ≤ 4 := hNB 3 (by decide)
      have nb4 : N5 4 ≤ 3 := hNB 4 (by decide)
      have nb5 : N5 5 ≤ 20 := hNB 5 (by decide)
      have nb6 : N5 6 ≤ 20 := hNB 6 (by decide)
      have nb7 : N5 7 ≤ 20 := hNB 7 (by decide)
      have nb8 : N5 8 ≤ 30 := hNB 8 (by decide)
      have nb9 : N5 9 ≤ 400 := hNB 9 (by decide)
      refine lv_iload_n hx hb dX9_goOn_10 rfl (lv_at hl 0 rfl) ?_
      refine lv_aload_n hx hb dX9_goOn_11 rfl (lv_at hl 1 rfl) ?_
      obtain ⟨k1_o10, k2_o10, k3_o10, k4_o10, k5_o10, sz_o10, bg_o10, rf_o10, hf_o10, sk1_o10, sk2_o10, sk3_o10, sk4_o10, sk5_o10, ssz_o10, sbg_o10, srf_o10⟩ : TE L K cy 5 (f9 p_o1) := by rw [← sp_o1.2]; exact hHT p_o1 sp_o1.1
      refine pg_get (D := D) (ci := 5) (v := .int (nI sz_o10)) (C := RX5) (T := TX5) (N := 8) hx hb hts iX9_goOn_5 hown hK hP sp_o1.1 hf_o10 rfl 5 (by decide) (hts (.fieldLink RX9 293 "FondsRoom$Plan" "size" "I") (by decide +kernel)) (fun _ h9 => h9) rfl dX9_goOn_12 ?_
      refine lv_icmp_ge (tgt := 151) hx hb dX9_goOn_15 (by decide) (fun c11 => ?_) (fun c11 => ?_)
      · skip
        have dc11 : sz_o10 ≤ j3 := (nI_leI (a := sz_o10) (b := j3) (by omega) (by omega)).mp c11
        refine lv_aload_n hx hb dX9_goOn_151 rfl (lv_at hl 3 rfl) ?_
        obtain ⟨n_o12, p_o12, ar_o12, rk_o12, nw_o12, st_o12, ct_o12, d_o12, aw_o12, rl_o12, cp_o12, cu_o12, w1_o12, w2_o12, w3_o12, ov_o12, co_o12, hf_o12, sp_o12, snw_o12, sd_o12, saw_o12, scu_o12⟩ : TE L K cy 6 (f9 rd) := by rw [← mrd.2]; exact hHT rd mrd.1
        refine pg_get (D := D) (ci := 6) (v := .int st_o12) (C := RX6) (T := TX6) (N := 17) hx hb hts iX9_goOn_6 hown hK hP mrd.1 hf_o12 rfl 5 (by decide) (hts (.fieldLink RX9 270 "FondsRoom$Reader" "state" "I") (by decide +kernel)) (fun _ h9 => h9) rfl dX9_goOn_152 ?_
        refine lv_bipush (v := 8) hx hb dX9_goOn_155 (by decide) ?_
        refine lv_icmp_ne (tgt := 166) hx hb dX9_goOn_157 (by decide) (fun c13 => ?_) (fun c13 => ?_)
        · skip
          exact W.vret hx hb hr (fun t ht hW => ⟨⟨(N5, n6, a7, r8, f9), rfl, ⟨⟨hNB, hRB, hHT⟩, hSM, hMM, trivial⟩, by rw [ht]; exact hP, va_K.moved hW.alike hK, hD⟩, hS.F ht⟩) hS.2.2 dX9_goOn_166
        · skip
          refine lv_aload_n hx hb dX9_goOn_160 rfl (lv_at hl 2 rfl) ?_
          refine lv_aload_n hx hb dX9_goOn_161 rfl (lv_at hl 3 rfl) ?_
          refine lv_iconst (v := 5) hx hb dX9_goOn_162 (by decide) ?_
          refine gvV (As := [.ref rd, .int 5]) (rest := []) ⟨hx, hb, hml, hown, hts⟩ (zX9_depart l D x cy g L K hG N5 n6 a7 r8 f9 ⟨hNB, hRB, hHT⟩ _ rd 5 ⟨mrd.1, mrd.2⟩) (cwV 2 hts gX9_goOn_X9_depart rfl rfl rfl (by decide +kernel) ⟨Nat.le_of_ble_eq_true rfl, Nat.le_of_ble_eq_true rfl⟩) hK hP hD hS hA (va_recv hK hP (ci := 9) (q0 := 0) rfl rfl) rfl hl.1 rfl (Nat.le_of_ble_eq_true rfl) dX9_goOn_163 ⟨Nat.le_of_ble_eq_true rfl, Nat.le_of_ble_eq_true rfl⟩ (fun u15 H locs hq14 hP hD hS => ?_)
          obtain ⟨N16, n17, a18, r19, f20⟩ := u15
          obtain ⟨⟨hNB, hRB, hHT⟩, hs21, hv22, hq14b⟩ := hq14
          have hSM : SM N N16 n n17 := SM_tr hSM hs21
          have hMM : MM N N16 a a18 := MM_tr hMM hv22
          have hP : va_P D vwCl (XW x cy g N16 n17 a18 r19 ++ va_pl L f20) H := hP
          have hD : va_D _ (XW x cy g N16 n17 a18 r19 ++ va_pl L f20) := hD
          exact W.vret hx hb hr (fun t ht hW => ⟨⟨(N16, n17, a18, r19, f20), rfl, ⟨⟨hNB, hRB, hHT⟩, hSM, hMM, trivial⟩, by rw [ht]; exact hP, va_K.moved hW.alike hK, hD⟩, hS.F ht⟩) hS.2.2 dX9_goOn_166
      · skip
        have dc11 : j3 < sz_o10 := Nat.not_le.mp (fun h9 => c11 ((nI_leI (a := sz_o10) (b := j3) (by omega) (by omega)).mpr h9))
        refine lv_aload_n hx hb dX9_goOn_18 rfl (lv_at hl 3 rfl) ?_
        obtain ⟨n_o23, p_o23, ar_o23, rk_o23, nw_o23, st_o23, ct_o23, d_o23, aw_o23, rl_o23, cp_o23, cu_o23, w1_o23, w2_o23, w3_o23, ov_o23, co_o23, hf_o23, sp_o23, snw_o23, sd_o23, saw_o23, scu_o23⟩ : TE L K cy 6 (f9 rd) := by rw [← mrd.2]; exact hHT rd mrd.1
        refine pg_get (D := D) (ci := 6) (v := .int st_o23) (C := RX6) (T := TX6) (N := 17) hx hb hts iX9_goOn_6 hown hK hP mrd.1 hf_o23 rfl 5 (by decide) (hts (.fieldLink RX9 270 "FondsRoom$Reader" "state" "I") (by decide +kernel)) (fun _ h9 => h9) rfl dX9_goOn_19 ?_
        refine lv_bipush (v := 8) hx hb dX9_goOn_22 (by decide) ?_
        refine lv_icmp_ne (tgt := 151) hx hb dX9_goOn_24 (by decide) (fun c24 => ?_) (fun c24 => ?_)
        · skip
          refine lv_aload_n hx hb dX9_goOn_151 rfl (lv_at hl 3 rfl) ?_
          refine pg_get (D := D) (ci := 6) (v := .int st_o23) (C := RX6) (T := TX6) (N := 17) hx hb hts iX9_goOn_6 hown hK hP mrd.1 hf_o23 rfl 5 (by decide) (hts (.fieldLink RX9 270 "FondsRoom$Reader" "state" "I") (by decide +kernel)) (fun _ h9 => h9) rfl dX9_goOn_152 ?_
          refine lv_bipush (v := 8) hx hb dX9_goOn_155 (by decide) ?_
          refine lv_icmp_ne (tgt := 166) hx hb dX9_goOn_157 (by decide) (fun c25 => ?_) (fun c25 => ?_)
          · skip
            exact W.vret hx hb hr (fun t ht hW => ⟨⟨(N5, n6, a7, r8, f9), rfl, ⟨⟨hNB, hRB, hHT⟩, hSM, hMM, trivial⟩, by rw [ht]; exact hP, va_K.moved hW.alike hK, hD⟩, hS.F ht⟩) hS.2.2 dX9_goOn_166
          · skip
            refine lv_aload_n hx hb dX9_goOn_160 rfl (lv_at hl 2 rfl) ?_
            refine lv_aload_n hx hb dX9_goOn_161 rfl (lv_at hl 3 rfl) ?_
            refine lv_iconst (v := 5) hx hb dX9_goOn_162 (by decide) ?_
            refine gvV (As := [.ref rd, .int 5]) (rest := []) ⟨hx, hb, hml, hown, hts⟩ (zX9_depart l D x cy g L K hG N5 n6 a7 r8 f9 ⟨hNB, hRB, hHT⟩ _ rd 5 ⟨mrd.1, mrd.2⟩) (cwV 2 hts gX9_goOn_X9_depart rfl rfl rfl (by decide +kernel) ⟨Nat.le_of_ble_eq_true rfl, Nat.le_of_ble_eq_true rfl⟩) hK hP hD hS hA (va_recv hK hP (ci := 9) (q0 := 0) rfl rfl) rfl hl.1 rfl (Nat.le_of_ble_eq_true rfl) dX9_goOn_163 ⟨Nat.le_of_ble_eq_true rfl, Nat.le_of_ble_eq_true rfl⟩ (fun u27 H locs hq26 hP hD hS => ?_)
            obtain ⟨N28, n29, a30, r31, f32⟩ := u27
            obtain ⟨⟨hNB, hRB, hHT⟩, hs33, hv34, hq26b⟩ := hq26
            have hSM : SM N N28 n n29 := SM_tr hSM hs33
            have hMM : MM N N28 a a30 := MM_tr hMM hv34
            have hP : va_P D vwCl (XW x cy g N28 n29 a30 r31 ++ va_pl L f32) H := hP
            have hD : va_D _ (XW x cy g N28 n29 a30 r31 ++ va_pl L f32) := hD
            exact W.vret hx hb hr (fun t ht hW => ⟨⟨(N28, n29, a30, r31, f32), rfl, ⟨⟨hNB, hRB, hHT⟩, hSM, hMM, trivial⟩, by rw [ht]; exact hP, va_K.moved hW.alike hK, hD⟩, hS.F ht⟩) hS.2.2 dX9_goOn_166
        · skip
          refine lv_aload_n hx hb dX9_goOn_27 rfl (lv_at hl 1 rfl) ?_
          refine lv_iload_n hx hb dX9_goOn_28 rfl (lv_at hl 0 rfl) ?_
          refine lv_iconst (v := 1) hx hb dX9_goOn_29 (by decide) ?_
          refine lv_iadd hx hb dX9_goOn_30 ?_
          refine lv_tov (v' := .int (nI (j3 + 1))) (congrArg Value.int (nI_add j3 1)) ?_
          refine pg_put (D := D) (ci := 5) (v := .int (nI (j3 + 1))) (ty := .int) (C := RX5) (T := TX5) (N := 8) hx hb hts iX9_goOn_5 tyX5 tyX5_ok nmX5 hown hK hP hD hS sp_o1.1 hf_o10 rfl 6 (by decide) (hts (.fieldLink RX9 290 "FondsRoom$Plan" "begun" "I") (by decide +kernel)) (fun _ h9 => h9) rfl (by decide +kernel) rfl rfl (Nat.le_of_ble_eq_true rfl) dX9_goOn_31 (fun H locs hP hD hS => ?_)
          obtain ⟨f35, ef35⟩ : ∃ z, z = va_up f9 p_o1 (.inr (5, [.ref k1_o10, .ref k2_o10, .ref k3_o10, .ref k4_o10, .ref k5_o10, .int (nI sz_o10), .int (nI (j3 + 1)), .int (nI rf_o10)])) := ⟨_, rfl⟩
          have hP : va_P D vwCl (XW x cy g N5 n6 a7 r8 ++ va_pl L f35) H := by rw [ef35]; exact hP
          have hD : va_D (va_A (XW x cy g N n a r ++ va_pl L f) s.heap.size) (XW x cy g N5 n6 a7 r8 ++ va_pl L f35) := by rw [ef35]; exact hD
          have hHT : HT L K cy f35 := by rw [ef35]; exact HT_up hHT 5 sp_o1.2 ⟨k1_o10, k2_o10, k3_o10, k4_o10, k5_o10, sz_o10, (j3 + 1), rf_o10, rfl, ⟨sk1_o10.1, sk1_o10.2⟩, ⟨sk2_o10.1, sk2_o10.2⟩, ⟨sk3_o10.1, sk3_o10.2⟩, ⟨sk4_o10.1, sk4_o10.2⟩, ⟨sk5_o10.1, sk5_o10.2⟩, ssz_o10, (by omega), srf_o10⟩
          have hf36 : f35 p_o1 = .inr (5, [.ref k1_o10, .ref k2_o10, .ref k3_o10, .ref k4_o10, .ref k5_o10, .int (nI sz_o10), .int (nI (j3 + 1)), .int (nI rf_o10)]) := by rw [ef35]; exact va_up_self _ _ _
          have hf37 : f35 rd = .inr (6, [.int n_o23, .ref p_o23, .int ar_o23, .int rk_o23, .int nw_o23, .int st_o23, .int ct_o23, va_rf d_o23, va_rf aw_o23, .int rl_o23, .int cp_o23, .int cu_o23, .int w1_o23, .int w2_o23, .int w3_o23, .int ov_o23, .int co_o23]) := by rw [ef35]; exact (va_up_ne _ _ (fun h9 => absurd (mrd.2.symm.trans ((congrArg K h9).trans sp_o1.2)) (by decide))).trans hf_o23
          refine lv_aload_n hx hb dX9_goOn_34 rfl (lv_at hl 2 rfl) ?_
          refine lv_aload_n hx hb dX9_goOn_35 rfl (lv_at hl 1 rfl) ?_
          refine pg_get (D := D) (ci := 5) (v := .ref k2_o10) (C := RX5) (T := TX5) (N := 8) hx hb hts iX9_goOn_5 hown hK hP sp_o1.1 hf36 rfl 1 (by decide) (hts (.fieldLink RX9 294 "FondsRoom$Plan" "boxes" "[I") (by decide +kernel)) (fun _ h9 => h9) rfl dX9_goOn_36 ?_
          refine lv_iload_n hx hb dX9_goOn_39 rfl (lv_at hl 0 rfl) ?_
          obtain ⟨w39, ew39⟩ : TE L K cy 12 (f35 k2_o10) := by rw [← sk2_o10.2]; exact hHT k2_o10 sk2_o10.1
          refine pg_iald hx hb hK hP sk2_o10.1 0 ew39 rfl (vp_in_nI (by omega) (by omega)) dX9_goOn_40 ?_
          refine lv_topi (fun y38 ey38 => ?_)
          refine gvI (As := [.int y38]) (rest := []) ⟨hx, hb, hml, hown, hts⟩ (zX9_isBox l D x cy g L K hG N5 n6 a7 r8 f35 ⟨hNB, hRB, hHT⟩ _  y38 ) (cwV 1 hts gX9_goOn_X9_isBox rfl rfl rfl (by decide +kernel) ⟨Nat.le_of_ble_eq_true rfl, Nat.le_of_ble_eq_true rfl⟩) hK hP hD hS hA (va_recv hK hP (ci := 9) (q0 := 0) rfl rfl) rfl hl.1 rfl (Nat.le_of_ble_eq_true rfl) dX9_goOn_41 ⟨Nat.le_of_ble_eq_true rfl, Nat.le_of_ble_eq_true rfl⟩ (fun q40 u41 H locs hq40 hP hD hS => ?_)
          have hP : va_P D vwCl (XW x cy g N5 n6 a7 r8 ++ va_pl L f35) H := hP
          have hD : va_D _ (XW x cy g N5 n6 a7 r8 ++ va_pl L f35) := hD
          refine lv_if_eq (tgt := 61) hx hb dX9_goOn_44 (by decide) (fun c42 => ?_) (fun c42 => ?_)
          · skip
            refine lv_null hx hb dX9_goOn_61 ?_
            refine lv_astoreN (lv' := [(4, .null), (3, .int (nI j3)), (2, .ref p_o1), (0, .ref (x 0)), (1, .ref rd)]) hx hb dX9_goOn_62 hl (by decide) rfl (fun ls hl => ?_)
            refine lv_aloadN hx hb dX9_goOn_64 (lv_at hl 0 rfl) ?_
            refine lv_ifnonnullN hx hb dX9_goOn_66 ?_
            refine lv_aload_n hx hb dX9_goOn_69 rfl (lv_at hl 4 rfl) ?_
            refine lv_aload_n hx hb dX9_goOn_70 rfl (lv_at hl 2 rfl) ?_
            refine pg_get (D := D) (ci := 5) (v := .ref k3_o10) (C := RX5) (T := TX5) (N := 8) hx hb hts iX9_goOn_5 hown hK hP sp_o1.1 hf36 rfl 2 (by decide) (hts (.fieldLink RX9 296 "FondsRoom$Plan" "amounts" "[I") (by decide +kernel)) (fun _ h9 => h9) rfl dX9_goOn_71 ?_
            refine lv_iload_n hx hb dX9_goOn_74 rfl (lv_at hl 1 rfl) ?_
            obtain ⟨w44, ew44⟩ : TE L K cy 12 (f35 k3_o10) := by rw [← sk3_o10.2]; exact hHT k3_o10 sk3_o10.1
            refine pg_iald hx hb hK hP sk3_o10.1 0 ew44 rfl (vp_in_nI (by omega) (by omega)) dX9_goOn_75 ?_
            refine lv_topi (fun y43 ey43 => ?_)
            refine pg_put (D := D) (ci := 6) (v := .int y43) (ty := .int) (C := RX6) (T := TX6) (N := 17) hx hb hts iX9_goOn_6 tyX6 tyX6_ok nmX6 hown hK hP hD hS mrd.1 hf37 rfl 9 (by decide) (hts (.fieldLink RX9 284 "FondsRoom$Reader" "readLeft" "I") (by decide +kernel)) (fun _ h9 => h9) rfl (by decide +kernel) rfl rfl (Nat.le_of_ble_eq_true rfl) dX9_goOn_76 (fun H locs hP hD hS => ?_)
            obtain ⟨f45, ef45⟩ : ∃ z, z = va_up f35 rd (.inr (6, [.int n_o23, .ref p_o23, .int ar_o23, .int rk_o23, .int nw_o23, .int st_o23, .int ct_o23, va_rf d_o23, va_rf aw_o23, .int y43, .int cp_o23, .int cu_o23, .int w1_o23, .int w2_o23, .int w3_o23, .int ov_o23, .int co_o23])) := ⟨_, rfl⟩
            have hP : va_P D vwCl (XW x cy g N5 n6 a7 r8 ++ va_pl L f45) H := by rw [ef45]; exact hP
            have hD : va_D (va_A (XW x cy g N n a r ++ va_pl L f) s.heap.size) (XW x cy g N5 n6 a7 r8 ++ va_pl L f45) := by rw [ef45]; exact hD
            have hHT : HT L K cy f45 := by rw [ef45]; exact HT_up hHT 6 mrd.2 ⟨n_o23, p_o23, ar_o23, rk_o23, nw_o23, st_o23, ct_o23, d_o23, aw_o23, y43, cp_o23, cu_o23, w1_o23, w2_o23, w3_o23, ov_o23, co_o23, rfl, ⟨sp_o23.1, sp_o23.2⟩, snw_o23, sd_o23, saw_o23, scu_o23⟩
            have hf46 : f45 rd = .inr (6, [.int n_o23, .ref p_o23, .int ar_o23, .int rk_o23, .int nw_o23, .int st_o23, .int ct_o23, va_rf d_o23, va_rf aw_o23, .int y43, .int cp_o23, .int cu_o23, .int w1_o23, .int w2_o23, .int w3_o23, .int ov_o23, .int co_o23]) := by rw [ef45]; exact va_up_self _ _ _
            have hf47 : f45 p_o1 = .inr (5, [.ref k1_o10, .ref k2_o10, .ref k3_o10, .ref k4_o10, .ref k5_o10, .int (nI sz_o10), .int (nI (j3 + 1)), .int (nI rf_o10)]) := by rw [ef45]; exact (va_up_ne _ _ (fun h9 => absurd (sp_o1.2.symm.trans ((congrArg K h9).trans mrd.2)) (by decide))).trans hf36
            have hf48 : f45 k2_o10 = .inl (cy 0, 16, .inl w39) := by rw [ef45]; exact (va_up_ne _ _ (fun h9 => absurd (sk2_o10.2.symm.trans ((congrArg K h9).trans mrd.2)) (by decide))).trans ew39
            have hf49 : f45 k3_o10 = .inl (cy 0, 16, .inl w44) := by rw [ef45]; exact (va_up_ne _ _ (fun h9 => absurd (sk3_o10.2.symm.trans ((congrArg K h9).trans mrd.2)) (by decide))).trans ew44
            refine lv_aload_n hx hb dX9_goOn_79 rfl (lv_at hl 4 rfl) ?_
            refine lv_iconst (v := 3) hx hb dX9_goOn_80 (by decide) ?_
            refine pg_put (D := D) (ci := 6) (v := .int 3) (ty := .int) (C := RX6) (T := TX6) (N := 17) hx hb hts iX9_goOn_6 tyX6 tyX6_ok nmX6 hown hK hP hD hS mrd.1 hf46 rfl 5 (by decide) (hts (.fieldLink RX9 270 "FondsRoom$Reader" "state" "I") (by decide +kernel)) (fun _ h9 => h9) rfl (by decide +kernel) rfl rfl (Nat.le_of_ble_eq_true rfl) dX9_goOn_81 (fun H locs hP hD hS => ?_)
            obtain ⟨f50, ef50⟩ : ∃ z, z = va_up f45 rd (.inr (6, [.int n_o23, .ref p_o23, .int ar_o23, .int rk_o23, .int nw_o23, .int 3, .int ct_o23, va_rf d_o23, va_rf aw_o23, .int y43, .int cp_o23, .int cu_o23, .int w1_o23, .int w2_o23, .int w3_o23, .int ov_o23, .int co_o23])) := ⟨_, rfl⟩
            have hP : va_P D vwCl (XW x cy g N5 n6 a7 r8 ++ va_pl L f50) H := by rw [ef50]; exact hP
            have hD : va_D (va_A (XW x cy g N n a r ++ va_pl L f) s.heap.size) (XW x cy g N5 n6 a7 r8 ++ va_pl L f50) := by rw [ef50]; exact hD
            have hHT : HT L K cy f50 := by rw [ef50]; exact HT_up hHT 6 mrd.2 ⟨n_o23, p_o23, ar_o23, rk_o23, nw_o23, 3, ct_o23, d_o23, aw_o23, y43, cp_o23, cu_o23, w1_o23, w2_o23, w3_o23, ov_o23, co_o23, rfl, ⟨sp_o23.1, sp_o23.2⟩, snw_o23, sd_o23, saw_o23, scu_o23⟩
            have hf51 : f50 rd = .inr (6, [.int n_o23, .ref p_o23, .int ar_o23, .int rk_o23, .int nw_o23, .int 3, .int ct_o23, va_rf d_o23, va_rf aw_o23, .int y43, .int cp_o23, .int cu_o23, .int w1_o23, .int w2_o23, .int w3_o23, .int ov_o23, .int co_o23]) := by rw [ef50]; exact va_up_self _ _ _
            have hf52 : f50 p_o1 = .inr (5, [.ref k1_o10, .ref k2_o10, .ref k3_o10, .ref k4_o10, .ref k5_o10, .int (nI sz_o10), .int (nI (j3 + 1)), .int (nI rf_o10)]) := by rw [ef50]; exact (va_up_ne _ _ (fun h9 => absurd (sp_o1.2.symm.trans ((congrArg K h9).trans mrd.2)) (by decide))).trans hf47
            have hf53 : f50 k2_o10 = .inl (cy 0, 16, .inl w39) := by rw [ef50]; exact (va_up_ne _ _ (fun h9 => absurd (sk2_o10.2.symm.trans ((congrArg K h9).trans mrd.2)) (by decide))).trans hf48
            have hf54 : f50 k3_o10 = .inl (cy 0, 16, .inl w44) := by rw [ef50]; exact (va_up_ne _ _ (fun h9 => absurd (sk3_o10.2.symm.trans ((congrArg K h9).trans mrd.2)) (by decide))).trans hf49
            refine lv_goto (tgt := 145) hx hb dX9_goOn_84 (by decide) ?_
            refine lv_iinc (v := nI (j3 + 1)) (lv' := [(3, .int (nI (j3 + 1))), (4, .null), (2, .ref p_o1), (0, .ref (x 0)), (1, .ref rd)]) hx hb dX9_goOn_145 hl (k := 1) rfl (by rw [← nI_1]; rfl) (by decide) rfl (fun ls hl => ?_)
            refine lv_goto (tgt := 10) hx hb dX9_goOn_148 (by decide) ?_
            exact ihkey4 (400 - ((j3 + 1))) (by omega) ((j3 + 1)) rfl (by omega) N5 n6 a7 r8 f50  hNB hRB hHT hSM hMM _ _ _ hP hD hS (lv_sub hl [0, 2, 3, 4] rfl)
          · skip
            obtain ⟨j55, hj55, rfl⟩ := hq40.2.mp c42
            refine lv_aload_n hx hb dX9_goOn_47 rfl (lv_at hl 2 rfl) ?_
            refine va_get (D := D) (ci := 9) (v := .ref (x 2)) (C := RX9) (T := TX9) (N := 19) hx hb hts iX9_goOn_9 hown hK hP 0 rfl rfl 1 (by decide) (hts (.fieldLink RX9 20 "FondsRoom" "boxes" "[LFondsRoom$Box;") (by decide +kernel)) (fun _ h9 => h9) rfl dX9_goOn_48 ?_
            refine lv_aload_n hx hb dX9_goOn_51 rfl (lv_at hl 1 rfl) ?_
            refine pg_get (D := D) (ci := 5) (v := .ref k2_o10) (C := RX5) (T := TX5) (N := 8) hx hb hts iX9_goOn_5 hown hK hP sp_o1.1 hf36 rfl 1 (by decide) (hts (.fieldLink RX9 294 "FondsRoom$Plan" "boxes" "[I") (by decide +kernel)) (fun _ h9 => h9) rfl dX9_goOn_52 ?_
            refine lv_iload_n hx hb dX9_goOn_55 rfl (lv_at hl 0 rfl) ?_
            refine pg_iald hx hb hK hP sk2_o10.1 0 ew39 rfl (vp_in_nI (by omega) (by omega)) dX9_goOn_56 ?_
            refine lv_topi (fun y56 ey56 => ?_)
            obtain rfl : y56 = nI j55 := ey56.trans ey38.symm
            refine va_aldq hx hb hK hP 2 3 rfl rfl (vp_in_nI (by omega) (by omega)) dX9_goOn_57 ?_
            obtain ⟨p57, ep57, mp57, kp57⟩ := hG.2.1 j55 (by omega)
            refine lv_tov (v' := .ref p57) (by rw [nI_clamp (by omega)]; show va_rf (g 1 j55) = _; rw [ep57]; rfl) ?_
            refine lv_goto (tgt := 62) hx hb dX9_goOn_58 (by decide) ?_
            refine lv_astore (lv' := [(4, .ref p57), (3, .int (nI j3)), (2, .ref p_o1), (0, .ref (x 0)), (1, .ref rd)]) hx hb dX9_goOn_62 hl (by decide) rfl (fun ls hl => ?_)
            refine lv_aload hx hb dX9_goOn_64 (lv_at hl 0 rfl) ?_
            refine lv_ifnonnull (tgt := 87) hx hb dX9_goOn_66 (by decide) ?_
            refine lv_aload_n hx hb dX9_goOn_87 rfl (lv_at hl 2 rfl) ?_
            refine pg_get (D := D) (ci := 5) (v := .ref k1_o10) (C := RX5) (T := TX5) (N := 8) hx hb hts iX9_goOn_5 hown hK hP sp_o1.1 hf36 rfl 0 (by decide) (hts (.fieldLink RX9 299 "FondsRoom$Plan" "kinds" "[I") (by decide +kernel)) (fun _ h9 => h9) rfl dX9_goOn_88 ?_
            refine lv_iload_n hx hb dX9_goOn_91 rfl (lv_at hl 1 rfl) ?_
            obtain ⟨w59, ew59⟩ : TE L K cy 12 (f35 k1_o10) := by rw [← sk1_o10.2]; exact hHT k1_o10 sk1_o10.1
            refine pg_iald hx hb hK hP sk1_o10.1 0 ew59 rfl (vp_in_nI (by omega) (by omega)) dX9_goOn_92 ?_
            refine lv_topi (fun y58 ey58 => ?_)
            refine lv_if_ne (tgt := 106) hx hb dX9_goOn_93 (by decide) (fun c60 => ?_) (fun c60 => ?_)
            · skip
              refine lv_aload_n hx hb dX9_goOn_106 rfl (lv_at hl 2 rfl) ?_
              refine pg_get (D := D) (ci := 5) (v := .ref k1_o10) (C := RX5) (T := TX5) (N := 8) hx hb hts iX9_goOn_5 hown hK hP sp_o1.1 hf36 rfl 0 (by decide) (hts (.fieldLink RX9 299 "FondsRoom$Plan" "kinds" "[I") (by decide +kernel)) (fun _ h9 => h9) rfl dX9_goOn_107 ?_
              refine lv_iload_n hx hb dX9_goOn_110 rfl (lv_at hl 1 rfl) ?_
              refine pg_iald hx hb hK hP sk1_o10.1 0 ew59 rfl (vp_in_nI (by omega) (by omega)) dX9_goOn_111 ?_
              refine lv_topi (fun y61 ey61 => ?_)
              obtain rfl : y61 = y58 := ey61.trans ey58.symm
              refine lv_iconst (v := 2) hx hb dX9_goOn_112 (by decide) ?_
              refine lv_icmp_ne (tgt := 138) hx hb dX9_goOn_113 (by decide) (fun c62 => ?_) (fun c62 => ?_)
              · skip
                refine lv_aload_n hx hb dX9_goOn_138 rfl (lv_at hl 3 rfl) ?_
                refine lv_aload_n hx hb dX9_goOn_139 rfl (lv_at hl 4 rfl) ?_
                refine lv_aload hx hb dX9_goOn_140 (lv_at hl 0 rfl) ?_
                refine gvV (As := [.ref rd, .ref p57]) (rest := []) ⟨hx, hb, hml, hown, hts⟩ (zX9_giveBack l D x cy g L K hG N5 n6 a7 r8 f35 ⟨hNB, hRB, hHT⟩ _ rd p57  ⟨mrd.1, mrd.2⟩ ⟨mp57, kp57⟩) (cwV 2 hts gX9_goOn_X9_giveBack rfl rfl rfl (by decide +kernel) ⟨Nat.le_of_ble_eq_true rfl, Nat.le_of_ble_eq_true rfl⟩) hK hP hD hS hA (va_recv hK hP (ci := 9) (q0 := 0) rfl rfl) rfl hl.1 rfl (Nat.le_of_ble_eq_true rfl) dX9_goOn_142 ⟨Nat.le_of_ble_eq_true rfl, Nat.le_of_ble_eq_true rfl⟩ (fun u64 H locs hq63 hP hD hS => ?_)
                obtain ⟨N65, n66, a67, r68, f69⟩ := u64
                obtain ⟨⟨hNB, hRB, hHT⟩, hs70, hv71, hq63b⟩ := hq63
                have hSM : SM N N65 n n66 := SM_tr hSM hs70
                have hMM : MM N N65 a a67 := MM_tr hMM hv71
                have hP : va_P D vwCl (XW x cy g N65 n66 a67 r68 ++ va_pl L f69) H := hP
                have hD : va_D _ (XW x cy g N65 n66 a67 r68 ++ va_pl L f69) := hD
                refine lv_iinc (v := nI (j3 + 1)) (lv' := [(3, .int (nI (j3 + 1))), (4, .ref p57), (2, .ref p_o1), (0, .ref (x 0)), (1, .ref rd)]) hx hb dX9_goOn_145 hl (k := 1) rfl (by rw [← nI_1]; rfl) (by decide) rfl (fun ls hl => ?_)
                refine lv_goto (tgt := 10) hx hb dX9_goOn_148 (by decide) ?_
                have nb0 : N65 0 ≤ 12 := hNB 0 (by decide)
                have nb1 : N65 1 ≤ 40 := hNB 1 (by decide)
                have nb2 : N65 2 ≤ 20 := hNB 2 (by decide)
                have nb3 : N65 3 ≤ 4 := hNB 3 (by decide)
                have nb4 : N65 4 ≤ 3 := hNB 4 (by decide)
                have nb5 : N65 5 ≤ 20 := hNB 5 (by decide)
                have nb6 : N65 6 ≤ 20 := hNB 6 (by decide)
                have nb7 : N65 7 ≤ 20 := hNB 7 (by decide)
                have nb8 : N65 8 ≤ 30 := hNB 8 (by decide)
                have nb9 : N65 9 ≤ 400 := hNB 9 (by decide)
                exact ihkey4 (400 - ((j3 + 1))) (by omega) ((j3 + 1)) rfl (by omega) N65 n66 a67 r68 f69  hNB hRB hHT hSM hMM _ _ _ hP hD hS (lv_sub hl [0, 2, 3, 4] rfl)
              · skip
                refine lv_aload_n hx hb dX9_goOn_116 rfl (lv_at hl 3 rfl) ?_
                refine lv_aload_n hx hb dX9_goOn_117 rfl (lv_at hl 4 rfl) ?_
                refine lv_aload hx hb dX9_goOn_118 (lv_at hl 0 rfl) ?_
                refine lv_aload_n hx hb dX9_goOn_120 rfl (lv_at hl 2 rfl) ?_
                refine pg_get (D := D) (ci := 5) (v := .ref k3_o10) (C := RX5) (T := TX5) (N := 8) hx hb hts iX9_goOn_5 hown hK hP sp_o1.1 hf36 rfl 2 (by decide) (hts (.fieldLink RX9 296 "FondsRoom$Plan" "amounts" "[I") (by decide +kernel)) (fun _ h9 => h9) rfl dX9_goOn_121 ?_
                refine lv_iload_n hx hb dX9_goOn_124 rfl (lv_at hl 1 rfl) ?_
                obtain ⟨w73, ew73⟩ : TE L K cy 12 (f35 k3_o10) := by rw [← sk3_o10.2]; exact hHT k3_o10 sk3_o10.1
                refine pg_iald hx hb hK hP sk3_o10.1 0 ew73 rfl (vp_in_nI (by omega) (by omega)) dX9_goOn_125 ?_
                refine lv_topi (fun y72 ey72 => ?_)
                refine lv_aload_n hx hb dX9_goOn_126 rfl (lv_at hl 2 rfl) ?_
                refine pg_get (D := D) (ci := 5) (v := .ref k4_o10) (C := RX5) (T := TX5) (N := 8) hx hb hts iX9_goOn_5 hown hK hP sp_o1.1 hf36 rfl 3 (by decide) (hts (.fieldLink RX9 304 "FondsRoom$Plan" "urgents" "[Z") (by decide +kernel)) (fun _ h9 => h9) rfl dX9_goOn_127 ?_
                refine lv_iload_n hx hb dX9_goOn_130 rfl (lv_at hl 1 rfl) ?_
                obtain ⟨w75, ew75, zw75⟩ : TE L K cy 13 (f35 k4_o10) := by rw [← sk4_o10.2]; exact hHT k4_o10 sk4_o10.1
                refine pg_zald hx hb hK hP sk4_o10.1 1 ew75 rfl (vp_in_nI (by omega) (by omega)) dX9_goOn_131 ?_
                refine lv_topi (fun y74 ey74 => ?_)
                have zy74 : b01 y74 := by rw [ey74]; exact zw75 _
                refine gvV (As := [.ref rd, .ref p57, .int y72, .int y74]) (rest := []) ⟨hx, hb, hml, hown, hts⟩ (zX9_orderCopy l D x cy g L K hG N5 n6 a7 r8 f35 ⟨hNB, hRB, hHT⟩ _ rd p57 y72 y74 ⟨mrd.1, mrd.2⟩ ⟨mp57, kp57⟩ zy74) (cwV 4 hts gX9_goOn_X9_orderCopy rfl rfl rfl (by decide +kernel) ⟨Nat.le_of_ble_eq_true rfl, Nat.le_of_ble_eq_true rfl⟩) hK hP hD hS hA (va_recv hK hP (ci := 9) (q0 := 0) rfl rfl) rfl hl.1 rfl (Nat.le_of_ble_eq_true rfl) dX9_goOn_132 ⟨Nat.le_of_ble_eq_true rfl, Nat.le_of_ble_eq_true rfl⟩ (fun u77 H locs hq76 hP hD hS => ?_)
                obtain ⟨N78, n79, a80, r81, f82⟩ := u77
                obtain ⟨⟨hNB, hRB, hHT⟩, hs83, hv84, hq76b⟩ := hq76
                have hSM : SM N N78 n n79 := SM_tr hSM hs83
                have hMM : MM N N78 a a80 := MM_tr hMM hv84
                have hP : va_P D vwCl (XW x cy g N78 n79 a80 r81 ++ va_pl L f82) H := hP
                have hD : va_D _ (XW x cy g N78 n79 a80 r81 ++ va_pl L f82) := hD
                refine lv_goto (tgt := 145) hx hb dX9_goOn_135 (by decide) ?_
                refine lv_iinc (v := nI (j3 + 1)) (lv' := [(3, .int (nI (j3 + 1))), (4, .ref p57), (2, .ref p_o1), (0, .ref (x 0)), (1, .ref rd)]) hx hb dX9_goOn_145 hl (k := 1) rfl (by rw [← nI_1]; rfl) (by decide) rfl (fun ls hl => ?_)
                refine lv_goto (tgt := 10) hx hb dX9_goOn_148 (by decide) ?_
                have nb0 : N78 0 ≤ 12 := hNB 0 (by decide)
                have nb1 : N78 1 ≤ 40 := hNB 1 (by decide)
                have nb2 : N78 2 ≤ 20 := hNB 2 (by decide)
                have nb3 : N78 3 ≤ 4 := hNB 3 (by decide)
                have nb4 : N78 4 ≤ 3 := hNB 4 (by decide)
                have nb5 : N78 5 ≤ 20 := hNB 5 (by decide)
                have nb6 : N78 6 ≤ 20 := hNB 6 (by decide)
                have nb7 : N78 7 ≤ 20 := hNB 7 (by decide)
                have nb8 : N78 8 ≤ 30 := hNB 8 (by decide)
                have nb9 : N78 9 ≤ 400 := hNB 9 (by decide)
                exact ihkey4 (400 - ((j3 + 1))) (by omega) ((j3 + 1)) rfl (by omega) N78 n79 a80 r81 f82  hNB hRB hHT hSM hMM _ _ _ hP hD hS (lv_sub hl [0, 2, 3, 4] rfl)
            · skip
              refine lv_aload_n hx hb dX9_goOn_96 rfl (lv_at hl 3 rfl) ?_
              refine lv_aload_n hx hb dX9_goOn_97 rfl (lv_at hl 4 rfl) ?_
              refine lv_aload hx hb dX9_goOn_98 (lv_at hl 0 rfl) ?_
              refine gvV (As := [.ref rd, .ref p57]) (rest := []) ⟨hx, hb, hml, hown, hts⟩ (zX9_askFor l D x cy g L K hG N5 n6 a7 r8 f35 ⟨hNB, hRB, hHT⟩ _ rd p57  ⟨mrd.1, mrd.2⟩ ⟨mp57, kp57⟩) (cwV 2 hts gX9_goOn_X9_askFor rfl rfl rfl (by decide +kernel) ⟨Nat.le_of_ble_eq_true rfl, Nat.le_of_ble_eq_true rfl⟩) hK hP hD hS hA (va_recv hK hP (ci := 9) (q0 := 0) rfl rfl) rfl hl.1 rfl (Nat.le_of_ble_eq_true rfl) dX9_goOn_100 ⟨Nat.le_of_ble_eq_true rfl, Nat.le_of_ble_eq_true rfl⟩ (fun u86 H locs hq85 hP hD hS => ?_)
              obtain ⟨N87, n88, a89, r90, f91⟩ := u86
              obtain ⟨⟨hNB, hRB, hHT⟩, hs92, hv93, hq85b⟩ := hq85
              have hSM : SM N N87 n n88 := SM_tr hSM hs92
              have hMM : MM N N87 a a89 := MM_tr hMM hv93
              have hP : va_P D vwCl (XW x cy g N87 n88 a89 r90 ++ va_pl L f91) H := hP
              have hD : va_D _ (XW x cy g N87 n88 a89 r90 ++ va_pl L f91) := hD
              refine lv_goto (tgt := 145) hx hb dX9_goOn_103 (by decide) ?_
              refine lv_iinc (v := nI (j3 + 1)) (lv' := [(3, .int (nI (j3 + 1))), (4, .ref p57), (2, .ref p_o1), (0, .ref (x 0)), (1, .ref rd)]) hx hb dX9_goOn_145 hl (k := 1) rfl (by rw [← nI_1]; rfl) (by decide) rfl (fun ls hl => ?_)
              refine lv_goto (tgt := 10) hx hb dX9_goOn_148 (by decide) ?_
              have nb0 : N87 0 ≤ 12 := hNB 0 (by decide)
              have nb1 : N87 1 ≤ 40 := hNB 1 (by decide)
              have nb2 : N87 2 ≤ 20 := hNB 2 (by decide)
              have nb3 : N87 3 ≤ 4 := hNB 3 (by decide)
              have nb4 : N87 4 ≤ 3 := hNB 4 (by decide)
              have nb5 : N87 5 ≤ 20 := hNB 5 (by decide)
              have nb6 : N87 6 ≤ 20 := hNB 6 (by decide)
              have nb7 : N87 7 ≤ 20 := hNB 7 (by decide)
              have nb8 : N87 8 ≤ 30 := hNB 8 (by decide)
              have nb9 : N87 9 ≤ 400 := hNB 9 (by decide)
              exact ihkey4 (400 - ((j3 + 1))) (by omega) ((j3 + 1)) rfl (by omega) N87 n88 a89 r90 f91  hNB hRB hHT hSM hMM _ _ _ hP hD hS (lv_sub hl [0, 2, 3, 4] rfl)
  have nb0 : N 0 ≤ 12 := hNB 0 (by decide)
  have nb1 : N 1 ≤ 40 := hNB 1 (by decide)
  have nb2 : N 2 ≤ 20 := hNB 2 (by decide)
  have nb3 : N 3 ≤ 4 := hNB 3 (by decide)
  have nb4 : N 4 ≤ 3 := hNB 4 (by decide)
  have nb5 : N 5 ≤ 20 := hNB 5 (by decide)
  have nb6 : N 6 ≤ 20 := hNB 6 (by decide)
  have nb7 : N 7 ≤ 20 := hNB 7 (by decide)
  have nb8 : N 8 ≤ 30 := hNB 8 (by decide)
  have nb9 : N 9 ≤ 400 := hNB 9 (by decide)
  exact key4 (400 - (bg_o2)) (bg_o2) rfl (by omega) N n a r f  hNB hRB hHT hSM hMM _ _ _ hP hD hS (lv_sub hl [0, 1, 2, 3] rfl)

theorem iX9_readersGoOn_6 : ∀ w ∈ wsX60, w ∈ wsX9_readersGoOn := fun _ h => List.mem_cons_of_mem _ (List.mem_append_left _ (List.mem_append_left _ (List.mem_append_left _ (List.mem_append_left _ (List.mem_append_left _ (List.mem_append_right _ h))))))
theorem iX9_readersGoOn_9 : ∀ w ∈ wsX90, w ∈ wsX9_readersGoOn := fun _ h => List.mem_cons_of_mem _ (List.mem_append_left _ (List.mem_append_left _ (List.mem_append_left _ (List.mem_append_left _ (List.mem_append_left _ (List.mem_append_left _ (List.mem_append_right _ h)))))))
set_option maxHeartbeats 4000000 in
set_option maxRecDepth 100000 in
theorem zX9_readersGoOn (l : Launch) (D : va_G) (x : Nat → Nat) (cy : Nat → ClassId) (g : Nat → Nat → Option Nat) (L : List Nat) (K : Nat → Nat) (hG : GO L K g) (N : Nat → Nat) (n : Nat → Int32) (a : Nat → Nat → Int32) (r : Nat → Nat → Option Nat) (f : Nat → va_E) (hC : CI L K cy N r f) (sz : Nat) : Met l yX9_readersGoOn wsX9_readersGoOn ({ frames := 4, cells := 0, slots := 0, locals := 95 }) (PW D (TYS cy) (XW x cy g N n a r ++ va_pl L f) sz [.ref (x 0)]) (va_Qv (fun (u : ST) => CI L K cy u.1 u.2.2.2.1 u.2.2.2.2 ∧ SM N u.1 n u.2.1 ∧ MM N u.1 a u.2.2.1 ∧ True) (BU D (TYS cy) (XW x cy g N n a r ++ va_pl L f) (WC x cy g L) sz) (va_A (XW x cy g N n a r ++ va_pl L f) sz)) 0 0 (va_A (XW x cy g N n a r ++ va_pl L f) sz) := by
  refine Met.ofW (cc := cX9_readersGoOn) (maxL := 2) (ret := none) (by decide) rfl ?_
  intro p e s m args below meth c s₁ B hml hv
  obtain ⟨rfl, hsz, hP, hK, hD0⟩ := hv
  have hx := B.exec
  have hb := B.bytes
  have hr := B.returns
  have hts := atoms_spec (ws := wsX9_readersGoOn) B.pre
  have hown : s.vm.findClass RX9 = some m.cls := findClass_of_methodNamed B.named
  have hlocks := B.notSynchronized
  subst hsz
  obtain ⟨hNB, hRB, hHT⟩ := hC
  have hSM : SM N N n n := SM_rf
  have hMM : MM N N a a := MM_rf
  have hD := hD0.self (sz := s.heap.size)
  have hA : ∀ q9 : Nat, s.heap.size ≤ q9 → va_A (XW x cy g N n a r ++ va_pl L f) s.heap.size q9 := fun q9 h => Or.inr h
  have hS : va_S (va_A (XW x cy g N n a r ++ va_pl L f) s.heap.size) s.heap s.heap [] := va_S.rf
  have hl := lv_entry ([.ref (x 0)]) (n := 2) (Nat.le_of_ble_eq_true rfl)
  rw [lg_entry_eq]
  generalize (lg_sl ([.ref (x 0)]) ++ List.replicate (2 - (lg_sl ([.ref (x 0)])).length) Slot.unset).toArray = ls at hl ⊢
  have hl : lv_has ls 2 [(0, .ref (x 0))] := hl
  refine lv_iconst (v := 0) hx hb dX9_readersGoOn_0 (by decide) ?_
  refine lv_istore_n (lv' := [(1, .int 0), (0, .ref (x 0))]) hx hb dX9_readersGoOn_1 rfl hl (by decide) rfl (fun ls hl => ?_)
  have key2 : ∀ (m9 j1 : Nat), 400 - j1 = m9 → j1 ≤ 400 → ∀ (N3 : Nat → Nat) (n4 : Nat → Int32) (a5 : Nat → Nat → Int32) (r6 : Nat → Nat → Option Nat) (f7 : Nat → va_E) , NB N3 → RB L K N3 r6 → HT L K cy f7 → SM N N3 n n4 → MM N N3 a a5 → ∀ (H : Heap) (locs : List Loc) (ls : Array Slot), va_P D vwCl (XW x cy g N3 n4 a5 r6 ++ va_pl L f7) H → va_D (va_A (XW x cy g N n a r ++ va_pl L f) s.heap.size) (XW x cy g N3 n4 a5 r6 ++ va_pl L f7) → va_S (va_A (XW x cy g N n a r ++ va_pl L f) s.heap.size) s.heap H locs → lv_has ls 2 [(1, .int (nI j1)), (0, .ref (x 0))] → W p l e (headSpec wsX9_readersGoOn ({ frames := 4, cells := 0, slots := 0, locals := 95 })).room s m #[.ref (x 0)] below meth c H locs 0 0 (MQ below (va_Qv (fun (u : ST) => CI L K cy u.1 u.2.2.2.1 u.2.2.2.2 ∧ SM N u.1 n u.2.1 ∧ MM N u.1 a u.2.2.1 ∧ True) (BU D (TYS cy) (XW x cy g N n a r ++ va_pl L f) (WC x cy g L) s.heap.size) (va_A (XW x cy g N n a r ++ va_pl L f) s.heap.size)) #[.ref (x 0)] s 0 0 (va_A (XW x cy g N n a r ++ va_pl L f) s.heap.size)) (F0 m 2 ls []) := by
    intro m9
    induction m9 using Nat.strongRecOn with
    | _ m9 ihkey2 =>
      intro j1 hm9 hj400 N3 n4 a5 r6 f7  hNB hRB hHT hSM hMM H locs ls hP hD hS hl
      subst hm9
      have nb0 : N3 0 ≤ 12 := hNB 0 (by decide)
      have nb1 : N3 1 ≤ 40 := hNB 1 (by decide)
      have nb2 : N3 2 ≤ 20 := hNB 2 (by decide)
      have nb3 : N3 3 ≤ 4 := hNB 3 (by decide)
      have nb4 : N3 4 ≤ 3 := hNB 4 (by decide)
      have nb5 : N3 5 ≤ 20 := hNB 5 (by decide)
      have nb6 : N3 6 ≤ 20 := hNB 6 (by decide)
      have nb7 : N3 7 ≤ 20 := hNB 7 (by decide)
      have nb8 : N3 8 ≤ 30 := hNB 8 (by decide)
      have nb9 : N3 9 ≤ 400 := hNB 9 (by decide)
      refine lv_iload_n hx hb dX9_readersGoOn_2 rfl (lv_at hl 0 rfl) ?_
      refine lv_aload_n hx hb dX9_readersGoOn_3 rfl (lv_at hl 1 rfl) ?_
      refine va_get (D := D) (ci := 9) (v := .int (nI (N3 2))) (C := RX9) (T := TX9) (N := 19) hx hb hts iX9_readersGoOn_9 hown hK hP 0 rfl rfl 12 (by decide) (hts (.fieldLink RX9 104 "FondsRoom" "readerCount" "I") (by decide +kernel)) (fun _ h9 => h9) rfl dX9_readersGoOn_4 ?_
      refine lv_icmp_ge (tgt := 40) hx hb dX9_readersGoOn_7 (by decide) (fun c8 => ?_) (fun c8 => ?_)
      · skip
        have dc8 : (N3 2) ≤ j1 := (nI_leI (a := (N3 2)) (b := j1) (by omega) (by omega)).mp c8
        exact W.vret hx hb hr (fun t ht hW => ⟨⟨(N3, n4, a5, r6, f7), rfl, ⟨⟨hNB, hRB, hHT⟩, hSM, hMM, trivial⟩, by rw [ht]; exact hP, va_K.moved hW.alike hK, hD⟩, hS.F ht⟩) hS.2.2 dX9_readersGoOn_40
      · skip
        have dc8 : j1 < (N3 2) := Nat.not_le.mp (fun h9 => c8 ((nI_leI (a := (N3 2)) (b := j1) (by omega) (by omega)).mpr h9))
        refine lv_aload_n hx hb dX9_readersGoOn_10 rfl (lv_at hl 1 rfl) ?_
        refine va_get (D := D) (ci := 9) (v := .ref (x 3)) (C := RX9) (T := TX9) (N := 19) hx hb hts iX9_readersGoOn_9 hown hK hP 0 rfl rfl 2 (by decide) (hts (.fieldLink RX9 27 "FondsRoom" "readers" "[LFondsRoom$Reader;") (by decide +kernel)) (fun _ h9 => h9) rfl dX9_readersGoOn_11 ?_
        refine lv_iload_n hx hb dX9_readersGoOn_14 rfl (lv_at hl 0 rfl) ?_
        refine va_aldq hx hb hK hP 3 4 rfl rfl (vp_in_nI (by omega) (by omega)) dX9_readersGoOn_15 ?_
        obtain ⟨p9, ep9, mp9, kp9⟩ := hG.2.2.1 j1 (by omega)
        refine lv_tov (v' := .ref p9) (by rw [nI_clamp (by omega)]; show va_rf (g 2 j1) = _; rw [ep9]; rfl) ?_
        obtain ⟨n_o10, p_o10, ar_o10, rk_o10, nw_o10, st_o10, ct_o10, d_o10, aw_o10, rl_o10, cp_o10, cu_o10, w1_o10, w2_o10, w3_o10, ov_o10, co_o10, hf_o10, sp_o10, snw_o10, sd_o10, saw_o10, scu_o10⟩ : TE L K cy 6 (f7 p9) := by rw [← kp9]; exact hHT p9 mp9
        refine pg_get (D := D) (ci := 6) (v := .int st_o10) (C := RX6) (T := TX6) (N := 17) hx hb hts iX9_readersGoOn_6 hown hK hP mp9 hf_o10 rfl 5 (by decide) (hts (.fieldLink RX9 270 "FondsRoom$Reader" "state" "I") (by decide +kernel)) (fun _ h9 => h9) rfl dX9_readersGoOn_16 ?_
        refine lv_bipush (v := 8) hx hb dX9_readersGoOn_19 (by decide) ?_
        refine lv_icmp_ne (tgt := 34) hx hb dX9_readersGoOn_21 (by decide) (fun c11 => ?_) (fun c11 => ?_)
        · skip
          refine lv_iinc (v := nI (j1 + 1)) (lv' := [(1, .int (nI (j1 + 1))), (0, .ref (x 0))]) hx hb dX9_readersGoOn_34 hl (k := 0) rfl (by rw [← nI_1]; rfl) (by decide) rfl (fun ls hl => ?_)
          refine lv_goto (tgt := 2) hx hb dX9_readersGoOn_37 (by decide) ?_
          exact ihkey2 (400 - ((j1 + 1))) (by omega) ((j1 + 1)) rfl (by omega) N3 n4 a5 r6 f7  hNB hRB hHT hSM hMM _ _ _ hP hD hS (lv_sub hl [0, 1] rfl)
        · skip
          refine lv_aload_n hx hb dX9_readersGoOn_24 rfl (lv_at hl 1 rfl) ?_
          refine lv_aload_n hx hb dX9_readersGoOn_25 rfl (lv_at hl 1 rfl) ?_
          refine va_get (D := D) (ci := 9) (v := .ref (x 3)) (C := RX9) (T := TX9) (N := 19) hx hb hts iX9_readersGoOn_9 hown hK hP 0 rfl rfl 2 (by decide) (hts (.fieldLink RX9 27 "FondsRoom" "readers" "[LFondsRoom$Reader;") (by decide +kernel)) (fun _ h9 => h9) rfl dX9_readersGoOn_26 ?_
          refine lv_iload_n hx hb dX9_readersGoOn_29 rfl (lv_at hl 0 rfl) ?_
          refine va_aldq hx hb hK hP 3 4 rfl rfl (vp_in_nI (by omega) (by omega)) dX9_readersGoOn_30 ?_
          obtain ⟨p12, ep12, mp12, kp12⟩ := hG.2.2.1 j1 (by omega)
          refine lv_tov (v' := .ref p12) (by rw [nI_clamp (by omega)]; show va_rf (g 2 j1) = _; rw [ep12]; rfl) ?_
          refine gvV (As := [.ref p12]) (rest := []) ⟨hx, hb, hml, hown, hts⟩ (zX9_goOn l D x cy g L K hG N3 n4 a5 r6 f7 ⟨hNB, hRB, hHT⟩ _ p12  ⟨mp12, kp12⟩) (cwV 1 hts gX9_readersGoOn_X9_goOn rfl rfl rfl (by decide +kernel) ⟨Nat.le_of_ble_eq_true rfl, Nat.le_of_ble_eq_true rfl⟩) hK hP hD hS hA (va_recv hK hP (ci := 9) (q0 := 0) rfl rfl) rfl hl.1 rfl (Nat.le_of_ble_eq_true rfl) dX9_readersGoOn_31 ⟨Nat.le_of_ble_eq_true rfl, Nat.le_of_ble_eq_true rfl⟩ (fun u14 H locs hq13 hP hD hS => ?_)
          obtain ⟨N15, n16, a17, r18, f19⟩ := u14
          obtain ⟨⟨hNB, hRB, hHT⟩, hs20, hv21, hq13b⟩ := hq13
          have hSM : SM N N15 n n16 := SM_tr hSM hs20
          have hMM : MM N N15 a a17 := MM_tr hMM hv21
          have hP : va_P D vwCl (XW x cy g N15 n16 a17 r18 ++ va_pl L f19) H := hP
          have hD : va_D _ (XW x cy g N15 n16 a17 r18 ++ va_pl L f19) := hD
          refine lv_iinc (v := nI (j1 + 1)) (lv' := [(1, .int (nI (j1 + 1))), (0, .ref (x 0))]) hx hb dX9_readersGoOn_34 hl (k := 0) rfl (by rw [← nI_1]; rfl) (by decide) rfl (fun ls hl => ?_)
          refine lv_goto (tgt := 2) hx hb dX9_readersGoOn_37 (by decide) ?_
          have nb0 : N15 0 ≤ 12 := hNB 0 (by decide)
          have nb1 : N15 1 ≤ 40 := hNB 1 (by decide)
          have nb2 : N15 2 ≤ 20 := hNB 2 (by decide)
          have nb3 : N15 3 ≤ 4 := hNB 3 (by decide)
          have nb4 : N15 4 ≤ 3 := hNB 4 (by decide)
          have nb5 : N15 5 ≤ 20 := hNB 5 (by decide)
          have nb6 : N15 6 ≤ 20 := hNB 6 (by decide)
          have nb7 : N15 7 ≤ 20 := hNB 7 (by decide)
          have nb8 : N15 8 ≤ 30 := hNB 8 (by decide)
          have nb9 : N15 9 ≤ 400 := hNB 9 (by decide)
          exact ihkey2 (400 - ((j1 + 1))) (by omega) ((j1 + 1)) rfl (by omega) N15 n16 a17 r18 f19  hNB hRB hHT hSM hMM _ _ _ hP hD hS (lv_sub hl [0, 1] rfl)
  have nb0 : N 0 ≤ 12 := hNB 0 (by decide)
  have nb1 : N 1 ≤ 40 := hNB 1 (by decide)
  have nb2 : N 2 ≤ 20 := hNB 2 (by decide)
  have nb3 : N 3 ≤ 4 := hNB 3 (by decide)
  have nb4 : N 4 ≤ 3 := hNB 4 (by decide)
  have nb5 : N 5 ≤ 20 := hNB 5 (by decide)
  have nb6 : N 6 ≤ 20 := hNB 6 (by decide)
  have nb7 : N 7 ≤ 20 := hNB 7 (by decide)
  have nb8 : N 8 ≤ 30 := hNB 8 (by decide)
  have nb9 : N 9 ≤ 400 := hNB 9 (by decide)
  exact key2 (400 - (0)) (0) rfl (by omega) N n a r f  hNB hRB hHT hSM hMM _ _ _ hP hD hS (lv_sub hl [0, 1] rfl)

theorem iX9_readersCome_6 : ∀ w ∈ wsX60, w ∈ wsX9_readersCome := fun _ h => List.mem_cons_of_mem _ (List.mem_append_left _ (List.mem_append_left _ (List.mem_append_right _ h)))
theorem iX9_readersCome_9 : ∀ w ∈ wsX90, w ∈ wsX9_readersCome := fun _ h => List.mem_cons_of_mem _ (List.mem_append_left _ (List.mem_append_left _ (List.mem_append_left _ (List.mem_append_right _ h))))
set_option maxHeartbeats 4000000 in
set_option maxRecDepth 100000 in
theorem zX9_readersCome (l : Launch) (D : va_G) (x : Nat → Nat) (cy : Nat → ClassId) (g : Nat → Nat → Option Nat) (L : List Nat) (K : Nat → Nat) (hG : GO L K g) (N : Nat → Nat) (n : Nat → Int32) (a : Nat → Nat → Int32) (r : Nat → Nat → Option Nat) (f : Nat → va_E) (hC : CI L K cy N r f) (sz : Nat) : Met l yX9_readersCome wsX9_readersCome ({ frames := 2, cells := 0, slots := 0, locals := 43 }) (PW D (TYS cy) (XW x cy g N n a r ++ va_pl L f) sz [.ref (x 0)]) (va_Qv (fun (u : ST) => CI L K cy u.1 u.2.2.2.1 u.2.2.2.2 ∧ SM N u.1 n u.2.1 ∧ MM N u.1 a u.2.2.1 ∧ True) (BU D (TYS cy) (XW x cy g N n a r ++ va_pl L f) (WC x cy g L) sz) (va_A (XW x cy g N n a r ++ va_pl L f) sz)) 0 0 (va_A (XW x cy g N n a r ++ va_pl L f) sz) := by
  refine Met.ofW (cc := cX9_readersCome) (maxL := 3) (ret := none) (by decide) rfl ?_
  intro p e s m args below meth c s₁ B hml hv
  obtain ⟨rfl, hsz, hP, hK, hD0⟩ := hv
  have hx := B.exec
  have hb := B.bytes
  have hr := B.returns
  have hts := atoms_spec (ws := wsX9_readersCome) B.pre
  have hown : s.vm.findClass RX9 = some m.cls := findClass_of_methodNamed B.named
  have hlocks := B.notSynchronized
  subst hsz
  obtain ⟨hNB, hRB, hHT⟩ := hC
  have hSM : SM N N n n := SM_rf
  have hMM : MM N N a a := MM_rf
  have hD := hD0.self (sz := s.heap.size)
  have hA : ∀ q9 : Nat, s.heap.size ≤ q9 → va_A (XW x cy g N n a r ++ va_pl L f) s.heap.size q9 := fun q9 h => Or.inr h
  have hS : va_S (va_A (XW x cy g N n a r ++ va_pl L f) s.heap.size) s.heap s.heap [] := va_S.rf
  have hl := lv_entry ([.ref (x 0)]) (n := 3) (Nat.le_of_ble_eq_true rfl)
  rw [lg_entry_eq]
  generalize (lg_sl ([.ref (x 0)]) ++ List.replicate (3 - (lg_sl ([.ref (x 0)])).length) Slot.unset).toArray = ls at hl ⊢
  have hl : lv_has ls 3 [(0, .ref (x 0))] := hl
  refine lv_iconst (v := 0) hx hb dX9_readersCome_0 (by decide) ?_
  refine lv_istore_n (lv' := [(1, .int 0), (0, .ref (x 0))]) hx hb dX9_readersCome_1 rfl hl (by decide) rfl (fun ls hl => ?_)
  have key2 : ∀ (m9 j1 : Nat), 400 - j1 = m9 → j1 ≤ 400 → ∀ (N3 : Nat → Nat) (n4 : Nat → Int32) (a5 : Nat → Nat → Int32) (r6 : Nat → Nat → Option Nat) (f7 : Nat → va_E) , NB N3 → RB L K N3 r6 → HT L K cy f7 → SM N N3 n n4 → MM N N3 a a5 → ∀ (H : Heap) (locs : List Loc) (ls : Array Slot), va_P D vwCl (XW x cy g N3 n4 a5 r6 ++ va_pl L f7) H → va_D (va_A (XW x cy g N n a r ++ va_pl L f) s.heap.size) (XW x cy g N3 n4 a5 r6 ++ va_pl L f7) → va_S (va_A (XW x cy g N n a r ++ va_pl L f) s.heap.size) s.heap H locs → lv_has ls 3 [(1, .int (nI j1)), (0, .ref (x 0))] → W p l e (headSpec wsX9_readersCome ({ frames := 2, cells := 0, slots := 0, locals := 43 })).room s m #[.ref (x 0)] below meth c H locs 0 0 (MQ below (va_Qv (fun (u : ST) => CI L K cy u.1 u.2.2.2.1 u.2.2.2.2 ∧ SM N u.1 n u.2.1 ∧ MM N u.1 a u.2.2.1 ∧ True) (BU D (TYS cy) (XW x cy g N n a r ++ va_pl L f) (WC x cy g L) s.heap.size) (va_A (XW x cy g N n a r ++ va_pl L f) s.heap.size)) #[.ref (x 0)] s 0 0 (va_A (XW x cy g N n a r ++ va_pl L f) s.heap.size)) (F0 m 2 ls []) := by
    intro m9
    induction m9 using Nat.strongRecOn with
    | _ m9 ihkey2 =>
      intro j1 hm9 hj400 N3 n4 a5 r6 f7  hNB hRB hHT hSM hMM H locs ls hP hD hS hl
      subst hm9
      have nb0 : N3 0 ≤ 12 := hNB 0 (by decide)
      have nb1 : N3 1 ≤ 40 := hNB 1 (by decide)
      have nb2 : N3 2 ≤ 20 := hNB 2 (by decide)
      have nb3 : N3 3 ≤ 4 := hNB 3 (by decide)
      have nb4 : N3 4 ≤ 3 := hNB 4 (by decide)
      have nb5 : N3 5 ≤ 20 := hNB 5 (by decide)
      have nb6 : N3 6 ≤ 20 := hNB 6 (by decide)
      have nb7 : N3 7 ≤ 20 := hNB 7 (by decide)
      have nb8 : N3 8 ≤ 30 := hNB 8 (by decide)
      have nb9 : N3 9 ≤ 400 := hNB 9 (by decide)
      refine lv_iload_n hx hb dX9_readersCome_2 rfl (lv_at hl 0 rfl) ?_
      refine lv_aload_n hx hb dX9_readersCome_3 rfl (lv_at hl 1 rfl) ?_
      refine va_get (D := D) (ci := 9) (v := .int (nI (N3 2))) (C := RX9) (T := TX9) (N := 19) hx hb hts iX9_readersCome_9 hown hK hP 0 rfl rfl 12 (by decide) (hts (.fieldLink RX9 104 "FondsRoom" "readerCount" "I") (by decide +kernel)) (fun _ h9 => h9) rfl dX9_readersCome_4 ?_
      refine lv_icmp_ge (tgt := 79) hx hb dX9_readersCome_7 (by decide) (fun c8 => ?_) (fun c8 => ?_)
      · skip
        have dc8 : (N3 2) ≤ j1 := (nI_leI (a := (N3 2)) (b := j1) (by omega) (by omega)).mp c8
        exact W.vret hx hb hr (fun t ht hW => ⟨⟨(N3, n4, a5, r6, f7), rfl, ⟨⟨hNB, hRB, hHT⟩, hSM, hMM, trivial⟩, by rw [ht]; exact hP, va_K.moved hW.alike hK, hD⟩, hS.F ht⟩) hS.2.2 dX9_readersCome_79
      · skip
        have dc8 : j1 < (N3 2) := Nat.not_le.mp (fun h9 => c8 ((nI_leI (a := (N3 2)) (b := j1) (by omega) (by omega)).mpr h9))
        refine lv_aload_n hx hb dX9_readersCome_10 rfl (lv_at hl 1 rfl) ?_
        refine va_get (D := D) (ci := 9) (v := .ref (x 3)) (C := RX9) (T := TX9) (N := 19) hx hb hts iX9_readersCome_9 hown hK hP 0 rfl rfl 2 (by decide) (hts (.fieldLink RX9 27 "FondsRoom" "readers" "[LFondsRoom$Reader;") (by decide +kernel)) (fun _ h9 => h9) rfl dX9_readersCome_11 ?_
        refine lv_iload_n hx hb dX9_readersCome_14 rfl (lv_at hl 0 rfl) ?_
        refine va_aldq hx hb hK hP 3 4 rfl rfl (vp_in_nI (by omega) (by omega)) dX9_readersCome_15 ?_
        obtain ⟨p9, ep9, mp9, kp9⟩ := hG.2.2.1 j1 (by omega)
        refine lv_tov (v' := .ref p9) (by rw [nI_clamp (by omega)]; show va_rf (g 2 j1) = _; rw [ep9]; rfl) ?_
        refine lv_astore_n (lv' := [(2, .ref p9), (1, .int (nI j1)), (0, .ref (x 0))]) hx hb dX9_readersCome_16 rfl hl (by decide) rfl (fun ls hl => ?_)
        refine lv_aload_n hx hb dX9_readersCome_17 rfl (lv_at hl 0 rfl) ?_
        obtain ⟨n_o10, p_o10, ar_o10, rk_o10, nw_o10, st_o10, ct_o10, d_o10, aw_o10, rl_o10, cp_o10, cu_o10, w1_o10, w2_o10, w3_o10, ov_o10, co_o10, hf_o10, sp_o10, snw_o10, sd_o10, saw_o10, scu_o10⟩ : TE L K cy 6 (f7 p9) := by rw [← kp9]; exact hHT p9 mp9
        refine pg_get (D := D) (ci := 6) (v := .int st_o10) (C := RX6) (T := TX6) (N := 17) hx hb hts iX9_readersCome_6 hown hK hP mp9 hf_o10 rfl 5 (by decide) (hts (.fieldLink RX9 270 "FondsRoom$Reader" "state" "I") (by decide +kernel)) (fun _ h9 => h9) rfl dX9_readersCome_18 ?_
        refine lv_if_ne (tgt := 73) hx hb dX9_readersCome_21 (by decide) (fun c11 => ?_) (fun c11 => ?_)
        · skip
          refine lv_iinc (v := nI (j1 + 1)) (lv' := [(1, .int (nI (j1 + 1))), (2, .ref p9), (0, .ref (x 0))]) hx hb dX9_readersCome_73 hl (k := 1) rfl (by rw [← nI_1]; rfl) (by decide) rfl (fun ls hl => ?_)
          refine lv_goto (tgt := 2) hx hb dX9_readersCome_76 (by decide) ?_
          exact ihkey2 (400 - ((j1 + 1))) (by omega) ((j1 + 1)) rfl (by omega) N3 n4 a5 r6 f7  hNB hRB hHT hSM hMM _ _ _ hP hD hS (lv_sub hl [0, 2] rfl)
        · skip
          refine lv_aload_n hx hb dX9_readersCome_24 rfl (lv_at hl 0 rfl) ?_
          refine pg_get (D := D) (ci := 6) (v := .int ar_o10) (C := RX6) (T := TX6) (N := 17) hx hb hts iX9_readersCome_6 hown hK hP mp9 hf_o10 rfl 2 (by decide) (hts (.fieldLink RX9 111 "FondsRoom$Reader" "arrival" "I") (by decide +kernel)) (fun _ h9 => h9) rfl dX9_readersCome_25 ?_
          refine lv_aload_n hx hb dX9_readersCome_28 rfl (lv_at hl 2 rfl) ?_
          refine va_get (D := D) (ci := 9) (v := .int (n4 1)) (C := RX9) (T := TX9) (N := 19) hx hb hts iX9_readersCome_9 hown hK hP 0 rfl rfl 14 (by decide) (hts (.fieldLink RX9 78 "FondsRoom" "turn" "I") (by decide +kernel)) (fun _ h9 => h9) rfl dX9_readersCome_29 ?_
          refine lv_icmp_gt (tgt := 73) hx hb dX9_readersCome_32 (by decide) (fun c12 => ?_) (fun c12 => ?_)
          · skip
            refine lv_iinc (v := nI (j1 + 1)) (lv' := [(1, .int (nI (j1 + 1))), (2, .ref p9), (0, .ref (x 0))]) hx hb dX9_readersCome_73 hl (k := 1) rfl (by rw [← nI_1]; rfl) (by decide) rfl (fun ls hl => ?_)
            refine lv_goto (tgt := 2) hx hb dX9_readersCome_76 (by decide) ?_
            exact ihkey2 (400 - ((j1 + 1))) (by omega) ((j1 + 1)) rfl (by omega) N3 n4 a5 r6 f7  hNB hRB hHT hSM hMM _ _ _ hP hD hS (lv_sub hl [0, 2] rfl)
          · skip
            refine lv_aload_n hx hb dX9_readersCome_35 rfl (lv_at hl 0 rfl) ?_
            refine lv_iconst (v := 1) hx hb dX9_readersCome_36 (by decide) ?_
            refine pg_put (D := D) (ci := 6) (v := .int 1) (ty := .int) (C := RX6) (T := TX6) (N := 17) hx hb hts iX9_readersCome_6 tyX6 tyX6_ok nmX6 hown hK hP hD hS mp9 hf_o10 rfl 5 (by decide) (hts (.fieldLink RX9 270 "FondsRoom$Reader" "state" "I") (by decide +kernel)) (fun _ h9 => h9) rfl (by decide +kernel) rfl rfl (Nat.le_of_ble_eq_true rfl) dX9_readersCome_37 (fun H locs hP hD hS => ?_)
            obtain ⟨f13, ef13⟩ : ∃ z, z = va_up f7 p9 (.inr (6, [.int n_o10, .ref p_o10, .int ar_o10, .int rk_o10, .int nw_o10, .int 1, .int ct_o10, va_rf d_o10, va_rf aw_o10, .int rl_o10, .int cp_o10, .int cu_o10, .int w1_o10, .int w2_o10, .int w3_o10, .int ov_o10, .int co_o10])) := ⟨_, rfl⟩
            have hP : va_P D vwCl (XW x cy g N3 n4 a5 r6 ++ va_pl L f13) H := by rw [ef13]; exact hP
            have hD : va_D (va_A (XW x cy g N n a r ++ va_pl L f) s.heap.size) (XW x cy g N3 n4 a5 r6 ++ va_pl L f13) := by rw [ef13]; exact hD
            have hHT : HT L K cy f13 := by rw [ef13]; exact HT_up hHT 6 kp9 ⟨n_o10, p_o10, ar_o10, rk_o10, nw_o10, 1, ct_o10, d_o10, aw_o10, rl_o10, cp_o10, cu_o10, w1_o10, w2_o10, w3_o10, ov_o10, co_o10, rfl, ⟨sp_o10.1, sp_o10.2⟩, snw_o10, sd_o10, saw_o10, scu_o10⟩
            have hf14 : f13 p9 = .inr (6, [.int n_o10, .ref p_o10, .int ar_o10, .int rk_o10, .int nw_o10, .int 1, .int ct_o10, va_rf d_o10, va_rf aw_o10, .int rl_o10, .int cp_o10, .int cu_o10, .int w1_o10, .int w2_o10, .int w3_o10, .int ov_o10, .int co_o10]) := by rw [ef13]; exact va_up_self _ _ _
            refine lv_aload_n hx hb dX9_readersCome_40 rfl (lv_at hl 0 rfl) ?_
            refine lv_aload_n hx hb dX9_readersCome_41 rfl (lv_at hl 2 rfl) ?_
            refine va_get (D := D) (ci := 9) (v := .int (n4 1)) (C := RX9) (T := TX9) (N := 19) hx hb hts iX9_readersCome_9 hown hK hP 0 rfl rfl 14 (by decide) (hts (.fieldLink RX9 78 "FondsRoom" "turn" "I") (by decide +kernel)) (fun _ h9 => h9) rfl dX9_readersCome_42 ?_
            refine pg_put (D := D) (ci := 6) (v := .int (n4 1)) (ty := .int) (C := RX6) (T := TX6) (N := 17) hx hb hts iX9_readersCome_6 tyX6 tyX6_ok nmX6 hown hK hP hD hS mp9 hf14 rfl 6 (by decide) (hts (.fieldLink RX9 351 "FondsRoom$Reader" "cameTurn" "I") (by decide +kernel)) (fun _ h9 => h9) rfl (by decide +kernel) rfl rfl (Nat.le_of_ble_eq_true rfl) dX9_readersCome_45 (fun H locs hP hD hS => ?_)
            obtain ⟨f15, ef15⟩ : ∃ z, z = va_up f13 p9 (.inr (6, [.int n_o10, .ref p_o10, .int ar_o10, .int rk_o10, .int nw_o10, .int 1, .int (n4 1), va_rf d_o10, va_rf aw_o10, .int rl_o10, .int cp_o10, .int cu_o10, .int w1_o10, .int w2_o10, .int w3_o10, .int ov_o10, .int co_o10])) := ⟨_, rfl⟩
            have hP : va_P D vwCl (XW x cy g N3 n4 a5 r6 ++ va_pl L f15) H := by rw [ef15]; exact hP
            have hD : va_D (va_A (XW x cy g N n a r ++ va_pl L f) s.heap.size) (XW x cy g N3 n4 a5 r6 ++ va_pl L f15) := by rw [ef15]; exact hD
            have hHT : HT L K cy f15 := by rw [ef15]; exact HT_up hHT 6 kp9 ⟨n_o10, p_o10, ar_o10, rk_o10, nw_o10, 1, (n4 1), d_o10, aw_o10, rl_o10, cp_o10, cu_o10, w1_o10, w2_o10, w3_o10, ov_o10, co_o10, rfl, ⟨sp_o10.1, sp_o10.2⟩, snw_o10, sd_o10, saw_o10, scu_o10⟩
            have hf16 : f15 p9 = .inr (6, [.int n_o10, .ref p_o10, .int ar_o10, .int rk_o10, .int nw_o10, .int 1, .int (n4 1), va_rf d_o10, va_rf aw_o10, .int rl_o10, .int cp_o10, .int cu_o10, .int w1_o10, .int w2_o10, .int w3_o10, .int ov_o10, .int co_o10]) := by rw [ef15]; exact va_up_self _ _ _
            refine lv_aload_n hx hb dX9_readersCome_48 rfl (lv_at hl 2 rfl) ?_
            refine va_get (D := D) (ci := 9) (v := .ref (x 8)) (C := RX9) (T := TX9) (N := 19) hx hb hts iX9_readersCome_9 hown hK hP 0 rfl rfl 5 (by decide) (hts (.fieldLink RX9 47 "FondsRoom" "deskLine" "LFondsRoom$Line;") (by decide +kernel)) (fun _ h9 => h9) rfl dX9_readersCome_49 ?_
            refine lv_aload_n hx hb dX9_readersCome_52 rfl (lv_at hl 0 rfl) ?_
            refine gvV (As := [.ref p9]) (rest := []) ⟨hx, hb, hml, hown, hts⟩ (zX3_insertByRank l D x cy g L K hG N3 n4 a5 r6 f15 ⟨hNB, hRB, hHT⟩ _ p9  ⟨mp9, kp9⟩) (cwV 1 hts gX9_readersCome_X3_insertByRank rfl rfl rfl (by decide +kernel) ⟨Nat.le_of_ble_eq_true rfl, Nat.le_of_ble_eq_true rfl⟩) hK hP hD hS hA (va_recv hK hP (ci := 3) (q0 := 8) rfl rfl) rfl hl.1 rfl (Nat.le_of_ble_eq_true rfl) dX9_readersCome_53 ⟨Nat.le_of_ble_eq_true rfl, Nat.le_of_ble_eq_true rfl⟩ (fun u18 H locs hq17 hP hD hS => ?_)
            obtain ⟨N19, n20, a21, r22, f23⟩ := u18
            obtain ⟨⟨hNB, hRB, hHT⟩, hs24, hv25, hq17b⟩ := hq17
            have hSM : SM N N19 n n20 := SM_tr hSM hs24
            have hMM : MM N N19 a a21 := MM_tr hMM hv25
            have hP : va_P D vwCl (XW x cy g N19 n20 a21 r22 ++ va_pl L f23) H := hP
            have hD : va_D _ (XW x cy g N19 n20 a21 r22 ++ va_pl L f23) := hD
            refine lv_aload_n hx hb dX9_readersCome_56 rfl (lv_at hl 2 rfl) ?_
            refine va_get (D := D) (ci := 9) (v := .ref (x 18)) (C := RX9) (T := TX9) (N := 19) hx hb hts iX9_readersCome_9 hown hK hP 0 rfl rfl 9 (by decide) (hts (.fieldLink RX9 67 "FondsRoom" "events" "LFondsRoom$Events;") (by decide +kernel)) (fun _ h9 => h9) rfl dX9_readersCome_57 ?_
            refine lv_aload_n hx hb dX9_readersCome_60 rfl (lv_at hl 2 rfl) ?_
            refine va_get (D := D) (ci := 9) (v := .int (n20 1)) (C := RX9) (T := TX9) (N := 19) hx hb hts iX9_readersCome_9 hown hK hP 0 rfl rfl 14 (by decide) (hts (.fieldLink RX9 78 "FondsRoom" "turn" "I") (by decide +kernel)) (fun _ h9 => h9) rfl dX9_readersCome_61 ?_
            refine lv_aload_n hx hb dX9_readersCome_64 rfl (lv_at hl 0 rfl) ?_
            obtain ⟨n_o26, p_o26, ar_o26, rk_o26, nw_o26, st_o26, ct_o26, d_o26, aw_o26, rl_o26, cp_o26, cu_o26, w1_o26, w2_o26, w3_o26, ov_o26, co_o26, hf_o26, sp_o26, snw_o26, sd_o26, saw_o26, scu_o26⟩ : TE L K cy 6 (f23 p9) := by rw [← kp9]; exact hHT p9 mp9
            refine pg_get (D := D) (ci := 6) (v := .int n_o26) (C := RX6) (T := TX6) (N := 17) hx hb hts iX9_readersCome_6 hown hK hP mp9 hf_o26 rfl 0 (by decide) (hts (.fieldLink RX9 273 "FondsRoom$Reader" "number" "I") (by decide +kernel)) (fun _ h9 => h9) rfl dX9_readersCome_65 ?_
            refine lv_iconst (v := 1) hx hb dX9_readersCome_68 (by decide) ?_
            refine lv_iconst (v := 1) hx hb dX9_readersCome_69 (by decide) ?_
            refine gvV (As := [.int (n20 1), .int n_o26, .int 1, .int 1]) (rest := []) ⟨hx, hb, hml, hown, hts⟩ (zX2_keep l D x cy g L K hG N19 n20 a21 r22 f23 ⟨hNB, hRB, hHT⟩ _  (n20 1) n_o26 1 1 ) (cwV 4 hts gX9_readersCome_X2_keep rfl rfl rfl (by decide +kernel) ⟨Nat.le_of_ble_eq_true rfl, Nat.le_of_ble_eq_true rfl⟩) hK hP hD hS hA (va_recv hK hP (ci := 2) (q0 := 18) rfl rfl) rfl hl.1 rfl (Nat.le_of_ble_eq_true rfl) dX9_readersCome_70 ⟨Nat.le_of_ble_eq_true rfl, Nat.le_of_ble_eq_true rfl⟩ (fun u28 H locs hq27 hP hD hS => ?_)
            obtain ⟨N29, n30, a31, r32, f33⟩ := u28
            obtain ⟨⟨hNB, hRB, hHT⟩, hs34, hv35, hq27b⟩ := hq27
            have hSM : SM N N29 n n30 := SM_tr hSM hs34
            have hMM : MM N N29 a a31 := MM_tr hMM hv35
            have hP : va_P D vwCl (XW x cy g N29 n30 a31 r32 ++ va_pl L f33) H := hP
            have hD : va_D _ (XW x cy g N29 n30 a31 r32 ++ va_pl L f33) := hD
            refine lv_iinc (v := nI (j1 + 1)) (lv' := [(1, .int (nI (j1 + 1))), (2, .ref p9), (0, .ref (x 0))]) hx hb dX9_readersCome_73 hl (k := 1) rfl (by rw [← nI_1]; rfl) (by decide) rfl (fun ls hl => ?_)
            refine lv_goto (tgt := 2) hx hb dX9_readersCome_76 (by decide) ?_
            have nb0 : N29 0 ≤ 12 := hNB 0 (by decide)
            have nb1 : N29 1 ≤ 40 := hNB 1 (by decide)
            have nb2 : N29 2 ≤ 20 := hNB 2 (by decide)
            have nb3 : N29 3 ≤ 4 := hNB 3 (by decide)
            have nb4 : N29 4 ≤ 3 := hNB 4 (by decide)
            have nb5 : N29 5 ≤ 20 := hNB 5 (by decide)
            have nb6 : N29 6 ≤ 20 := hNB 6 (by decide)
            have nb7 : N29 7 ≤ 20 := hNB 7 (by decide)
            have nb8 : N29 8 ≤ 30 := hNB 8 (by decide)
            have nb9 : N29 9 ≤ 400 := hNB 9 (by decide)
            exact ihkey2 (400 - ((j1 + 1))) (by omega) ((j1 + 1)) rfl (by omega) N29 n30 a31 r32 f33  hNB hRB hHT hSM hMM _ _ _ hP hD hS (lv_sub hl [0, 2] rfl)
  have nb0 : N 0 ≤ 12 := hNB 0 (by decide)
  have nb1 : N 1 ≤ 40 := hNB 1 (by decide)
  have nb2 : N 2 ≤ 20 := hNB 2 (by decide)
  have nb3 : N 3 ≤ 4 := hNB 3 (by decide)
  have nb4 : N 4 ≤ 3 := hNB 4 (by decide)
  have nb5 : N 5 ≤ 20 := hNB 5 (by decide)
  have nb6 : N 6 ≤ 20 := hNB 6 (by decide)
  have nb7 : N 7 ≤ 20 := hNB 7 (by decide)
  have nb8 : N 8 ≤ 30 := hNB 8 (by decide)
  have nb9 : N 9 ≤ 400 := hNB 9 (by decide)
  exact key2 (400 - (0)) (0) rfl (by omega) N n a r f  hNB hRB hHT hSM hMM _ _ _ hP hD hS (lv_sub hl [0, 1] rfl)
