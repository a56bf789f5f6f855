theorem iX7_hasWorker_7 : ∀ w ∈ wsX70, w ∈ wsX7_hasWorker := fun _ h => List.mem_cons_of_mem _ (List.mem_append_right _ h)
set_option maxHeartbeats 4000000 in
set_option maxRecDepth 100000 in
theorem zX7_hasWorker_0 (l : Launch) (D : va_G) (x : Nat → Nat) (cy : Nat → ClassId) (g : Nat → Nat → Option Nat) (L : List Nat) (K : Nat → Nat) (hG : GO L K g) (N : Nat → Nat) (n : Nat → Int32) (a : Nat → Nat → Int32) (r : Nat → Nat → Option Nat) (f : Nat → va_E) (hC : CI L K cy N r f) (sz : Nat) (v : Int32) : Met l yX7_hasWorker wsX7_hasWorker ({ frames := 0, cells := 0, slots := 0, locals := 0 }) (PW D (TYS cy) (XW x cy g N n a r ++ va_pl L f) sz [.ref (x 4), .int v]) (va_Qi (fun (res : Int32) (u : Unit) => b01 res ∧ (¬ res = 0 ↔ ∃ j, j < N 3 ∧ v = nI j)) (BU D (TYS cy) (XW x cy g N n a r ++ va_pl L f) (fun _ => XW x cy g N n a r ++ va_pl L f) sz) (va_A (XW x cy g N n a r ++ va_pl L f) sz)) 0 0 (va_A (XW x cy g N n a r ++ va_pl L f) sz) := by
  refine Met.ofW (cc := cX7_hasWorker) (maxL := 2) (ret := (some .boolean)) (by decide) rfl ?_
  intro p e s m args below meth c s₁ B hml hv
  obtain ⟨rfl, hsz, hP, hK, hD0⟩ := hv
  have hx := B.exec
  have hb := B.bytes
  have hr := B.returns
  have hts := atoms_spec (ws := wsX7_hasWorker) B.pre
  have hown : s.vm.findClass RX7 = some m.cls := findClass_of_methodNamed B.named
  have hlocks := B.notSynchronized
  subst hsz
  obtain ⟨hNB, hRB, hHT⟩ := hC
  have hSM : SM N N n n := SM_rf
  have hMM : MM N N a a := MM_rf
  have hD := hD0.self (sz := s.heap.size)
  have hA : ∀ q9 : Nat, s.heap.size ≤ q9 → va_A (XW x cy g N n a r ++ va_pl L f) s.heap.size q9 := fun q9 h => Or.inr h
  have hS : va_S (va_A (XW x cy g N n a r ++ va_pl L f) s.heap.size) s.heap s.heap [] := va_S.rf
  have hl := lv_entry ([.ref (x 4), .int v]) (n := 2) (Nat.le_of_ble_eq_true rfl)
  rw [lg_entry_eq]
  generalize (lg_sl ([.ref (x 4), .int v]) ++ List.replicate (2 - (lg_sl ([.ref (x 4), .int v])).length) Slot.unset).toArray = ls at hl ⊢
  have hl : lv_has ls 2 [(0, .ref (x 4)), (1, .int v)] := hl
  refine lv_iload_n hx hb dX7_hasWorker_0 rfl (lv_at hl 1 rfl) ?_
  refine lv_if_lt (tgt := 25) hx hb dX7_hasWorker_1 (by decide) (fun c1 => ?_) (fun c1 => ?_)
  · skip
    refine lv_iconst (v := 0) hx hb dX7_hasWorker_25 (by decide) ?_
    exact W.zret (v := 0) hx hb hr (rfl) (fun t ht hW => ⟨⟨0, (), rfl, ⟨Or.inl rfl, fun h9 => absurd rfl h9, fun h9 => absurd h9 (ix_no1 c1 (by have := hNB 3 (by decide); have h8 : cap 3 ≤ 400 := (by decide); omega))⟩, by rw [ht]; exact hP, va_K.moved hW.alike hK, hD⟩, hS.F ht⟩) hS.2.2 dX7_hasWorker_26
  · skip
    refine lv_iload_n hx hb dX7_hasWorker_4 rfl (lv_at hl 1 rfl) ?_
    refine lv_aload_n hx hb dX7_hasWorker_5 rfl (lv_at hl 0 rfl) ?_
    refine va_get (D := D) (ci := 7) (v := .int (nI (N 3))) (C := RX7) (T := TX7) (N := 2) hx hb hts iX7_hasWorker_7 hown hK hP 4 rfl rfl 1 (by decide) (hts (.fieldLink RX7 22 "FondsRoom$Staff" "hired" "I") (by decide +kernel)) (fun _ h9 => h9) rfl dX7_hasWorker_6 ?_
    refine lv_icmp_ge (tgt := 25) hx hb dX7_hasWorker_9 (by decide) (fun c2 => ?_) (fun c2 => ?_)
    · skip
      refine lv_iconst (v := 0) hx hb dX7_hasWorker_25 (by decide) ?_
      exact W.zret (v := 0) hx hb hr (rfl) (fun t ht hW => ⟨⟨0, (), rfl, ⟨Or.inl rfl, fun h9 => absurd rfl h9, fun h9 => absurd h9 (ix_no2 c2 (by have := hNB 3 (by decide); have h8 : cap 3 ≤ 400 := (by decide); omega))⟩, by rw [ht]; exact hP, va_K.moved hW.alike hK, hD⟩, hS.F ht⟩) hS.2.2 dX7_hasWorker_26
    · skip
      have nb0 : N 0 ≤ 12 := hNB 0 (by decide)
      have nb1 : N 1 ≤ 40 := hNB 1 (by decide)
      have nb2 : N 2 ≤ 20 := hNB 2 (by decide)
      have nb3 : N 3 ≤ 4 := hNB 3 (by decide)
      have nb4 : N 4 ≤ 3 := hNB 4 (by decide)
      have nb5 : N 5 ≤ 20 := hNB 5 (by decide)
      have nb6 : N 6 ≤ 20 := hNB 6 (by decide)
      have nb7 : N 7 ≤ 20 := hNB 7 (by decide)
      have nb8 : N 8 ≤ 30 := hNB 8 (by decide)
      have nb9 : N 9 ≤ 400 := hNB 9 (by decide)
      obtain ⟨j3, hj3, rfl⟩ := ix_of c1 c2 (by omega)
      refine lv_iload_n hx hb dX7_hasWorker_12 rfl (lv_at hl 1 rfl) ?_
      refine lv_aload_n hx hb dX7_hasWorker_13 rfl (lv_at hl 0 rfl) ?_
      refine va_get (D := D) (ci := 7) (v := .ref (x 5)) (C := RX7) (T := TX7) (N := 2) hx hb hts iX7_hasWorker_7 hown hK hP 4 rfl rfl 0 (by decide) (hts (.fieldLink RX7 15 "FondsRoom$Staff" "workers" "[LFondsRoom$Worker;") (by decide +kernel)) (fun _ h9 => h9) rfl dX7_hasWorker_14 ?_
      refine va_alen (v := 4) hx hb hK hP 5 5 rfl rfl rfl dX7_hasWorker_17 ?_
      refine lv_icmp_ge (tgt := 25) hx hb dX7_hasWorker_18 (by decide) (fun c9 => absurd c9 (nI_ge (a := j3) (b := 4) (by omega) (by decide))) (fun _ => ?_)
      refine lv_iconst (v := 1) hx hb dX7_hasWorker_21 (by decide) ?_
      refine lv_goto (tgt := 26) hx hb dX7_hasWorker_22 (by decide) ?_
      exact W.zret (v := 1) hx hb hr (rfl) (fun t ht hW => ⟨⟨1, (), rfl, ⟨Or.inr rfl, fun _ => ⟨j3, hj3, rfl⟩, fun _ => by decide⟩, by rw [ht]; exact hP, va_K.moved hW.alike hK, hD⟩, hS.F ht⟩) hS.2.2 dX7_hasWorker_26

set_option maxHeartbeats 4000000 in
set_option maxRecDepth 100000 in
theorem zX7_hasWorker_1 (l : Launch) (D : va_G) (x : Nat → Nat) (cy : Nat → ClassId) (g : Nat → Nat → Option Nat) (L : List Nat) (K : Nat → Nat) (hG : GO L K g) (N : Nat → Nat) (n : Nat → Int32) (a : Nat → Nat → Int32) (r : Nat → Nat → Option Nat) (f : Nat → va_E) (hC : CI L K cy N r f) (sz : Nat) (v : Int32) : Met l yX7_hasWorker wsX7_hasWorker ({ frames := 0, cells := 0, slots := 0, locals := 0 }) (PW D (TYS cy) (XW x cy g N n a r ++ va_pl L f) sz [.ref (x 6), .int v]) (va_Qi (fun (res : Int32) (u : Unit) => b01 res ∧ (¬ res = 0 ↔ ∃ j, j < N 4 ∧ v = nI j)) (BU D (TYS cy) (XW x cy g N n a r ++ va_pl L f) (fun _ => XW x cy g N n a r ++ va_pl L f) sz) (va_A (XW x cy g N n a r ++ va_pl L f) sz)) 0 0 (va_A (XW x cy g N n a r ++ va_pl L f) sz) := by
  refine Met.ofW (cc := cX7_hasWorker) (maxL := 2) (ret := (some .boolean)) (by decide) rfl ?_
  intro p e s m args below meth c s₁ B hml hv
  obtain ⟨rfl, hsz, hP, hK, hD0⟩ := hv
  have hx := B.exec
  have hb := B.bytes
  have hr := B.returns
  have hts := atoms_spec (ws := wsX7_hasWorker) B.pre
  have hown : s.vm.findClass RX7 = some m.cls := findClass_of_methodNamed B.named
  have hlocks := B.notSynchronized
  subst hsz
  obtain ⟨hNB, hRB, hHT⟩ := hC
  have hSM : SM N N n n := SM_rf
  have hMM : MM N N a a := MM_rf
  have hD := hD0.self (sz := s.heap.size)
  have hA : ∀ q9 : Nat, s.heap.size ≤ q9 → va_A (XW x cy g N n a r ++ va_pl L f) s.heap.size q9 := fun q9 h => Or.inr h
  have hS : va_S (va_A (XW x cy g N n a r ++ va_pl L f) s.heap.size) s.heap s.heap [] := va_S.rf
  have hl := lv_entry ([.ref (x 6), .int v]) (n := 2) (Nat.le_of_ble_eq_true rfl)
  rw [lg_entry_eq]
  generalize (lg_sl ([.ref (x 6), .int v]) ++ List.replicate (2 - (lg_sl ([.ref (x 6), .int v])).length) Slot.unset).toArray = ls at hl ⊢
  have hl : lv_has ls 2 [(0, .ref (x 6)), (1, .int v)] := hl
  refine lv_iload_n hx hb dX7_hasWorker_0 rfl (lv_at hl 1 rfl) ?_
  refine lv_if_lt (tgt := 25) hx hb dX7_hasWorker_1 (by decide) (fun c1 => ?_) (fun c1 => ?_)
  · skip
    refine lv_iconst (v := 0) hx hb dX7_hasWorker_25 (by decide) ?_
    exact W.zret (v := 0) hx hb hr (rfl) (fun t ht hW => ⟨⟨0, (), rfl, ⟨Or.inl rfl, fun h9 => absurd rfl h9, fun h9 => absurd h9 (ix_no1 c1 (by have := hNB 4 (by decide); have h8 : cap 4 ≤ 400 := (by decide); omega))⟩, by rw [ht]; exact hP, va_K.moved hW.alike hK, hD⟩, hS.F ht⟩) hS.2.2 dX7_hasWorker_26
  · skip
    refine lv_iload_n hx hb dX7_hasWorker_4 rfl (lv_at hl 1 rfl) ?_
    refine lv_aload_n hx hb dX7_hasWorker_5 rfl (lv_at hl 0 rfl) ?_
    refine va_get (D := D) (ci := 7) (v := .int (nI (N 4))) (C := RX7) (T := TX7) (N := 2) hx hb hts iX7_hasWorker_7 hown hK hP 6 rfl rfl 1 (by decide) (hts (.fieldLink RX7 22 "FondsRoom$Staff" "hired" "I") (by decide +kernel)) (fun _ h9 => h9) rfl dX7_hasWorker_6 ?_
    refine lv_icmp_ge (tgt := 25) hx hb dX7_hasWorker_9 (by decide) (fun c2 => ?_) (fun c2 => ?_)
    · skip
      refine lv_iconst (v := 0) hx hb dX7_hasWorker_25 (by decide) ?_
      exact W.zret (v := 0) hx hb hr (rfl) (fun t ht hW => ⟨⟨0, (), rfl, ⟨Or.inl rfl, fun h9 => absurd rfl h9, fun h9 => absurd h9 (ix_no2 c2 (by have := hNB 4 (by decide); have h8 : cap 4 ≤ 400 := (by decide); omega))⟩, by rw [ht]; exact hP, va_K.moved hW.alike hK, hD⟩, hS.F ht⟩) hS.2.2 dX7_hasWorker_26
    · skip
      have nb0 : N 0 ≤ 12 := hNB 0 (by decide)
      have nb1 : N 1 ≤ 40 := hNB 1 (by decide)
      have nb2 : N 2 ≤ 20 := hNB 2 (by decide)
      have nb3 : N 3 ≤ 4 := hNB 3 (by decide)
      have nb4 : N 4 ≤ 3 := hNB 4 (by decide)
      have nb5 : N 5 ≤ 20 := hNB 5 (by decide)
      have nb6 : N 6 ≤ 20 := hNB 6 (by decide)
      have nb7 : N 7 ≤ 20 := hNB 7 (by decide)
      have nb8 : N 8 ≤ 30 := hNB 8 (by decide)
      have nb9 : N 9 ≤ 400 := hNB 9 (by decide)
      obtain ⟨j3, hj3, rfl⟩ := ix_of c1 c2 (by omega)
      refine lv_iload_n hx hb dX7_hasWorker_12 rfl (lv_at hl 1 rfl) ?_
      refine lv_aload_n hx hb dX7_hasWorker_13 rfl (lv_at hl 0 rfl) ?_
      refine va_get (D := D) (ci := 7) (v := .ref (x 7)) (C := RX7) (T := TX7) (N := 2) hx hb hts iX7_hasWorker_7 hown hK hP 6 rfl rfl 0 (by decide) (hts (.fieldLink RX7 15 "FondsRoom$Staff" "workers" "[LFondsRoom$Worker;") (by decide +kernel)) (fun _ h9 => h9) rfl dX7_hasWorker_14 ?_
      refine va_alen (v := 3) hx hb hK hP 7 5 rfl rfl rfl dX7_hasWorker_17 ?_
      refine lv_icmp_ge (tgt := 25) hx hb dX7_hasWorker_18 (by decide) (fun c9 => absurd c9 (nI_ge (a := j3) (b := 3) (by omega) (by decide))) (fun _ => ?_)
      refine lv_iconst (v := 1) hx hb dX7_hasWorker_21 (by decide) ?_
      refine lv_goto (tgt := 26) hx hb dX7_hasWorker_22 (by decide) ?_
      exact W.zret (v := 1) hx hb hr (rfl) (fun t ht hW => ⟨⟨1, (), rfl, ⟨Or.inr rfl, fun _ => ⟨j3, hj3, rfl⟩, fun _ => by decide⟩, by rw [ht]; exact hP, va_K.moved hW.alike hK, hD⟩, hS.F ht⟩) hS.2.2 dX7_hasWorker_26

theorem iX9_isPerson_9 : ∀ w ∈ wsX90, w ∈ wsX9_isPerson := fun _ h => List.mem_cons_of_mem _ (List.mem_append_left _ (List.mem_append_right _ h))
set_option maxHeartbeats 4000000 in
set_option maxRecDepth 100000 in
theorem zX9_isPerson (l : Launch) (D : va_G) (x : Nat → Nat) (cy : Nat → ClassId) (g : Nat → Nat → Option Nat) (L : List Nat) (K : Nat → Nat) (hG : GO L K g) (N : Nat → Nat) (n : Nat → Int32) (a : Nat → Nat → Int32) (r : Nat → Nat → Option Nat) (f : Nat → va_E) (hC : CI L K cy N r f) (sz : Nat) (k v : Int32) : Met l yX9_isPerson wsX9_isPerson ({ frames := 1, cells := 0, slots := 0, locals := 21 }) (PW D (TYS cy) (XW x cy g N n a r ++ va_pl L f) sz [.ref (x 0), .int k, .int v]) (va_Qi (fun (res : Int32) (u : Unit) => b01 res ∧ (¬ res = 0 ↔ ∃ j, j < pcn (N 2) (N 3) (N 4) k ∧ v = nI j)) (BU D (TYS cy) (XW x cy g N n a r ++ va_pl L f) (fun _ => XW x cy g N n a r ++ va_pl L f) sz) (va_A (XW x cy g N n a r ++ va_pl L f) sz)) 0 0 (va_A (XW x cy g N n a r ++ va_pl L f) sz) := by
  refine Met.ofW (cc := cX9_isPerson) (maxL := 3) (ret := (some .boolean)) (by decide) rfl ?_
  intro p e s m args below meth c s₁ B hml hv
  obtain ⟨rfl, hsz, hP, hK, hD0⟩ := hv
  have hx := B.exec
  have hb := B.bytes
  have hr := B.returns
  have hts := atoms_spec (ws := wsX9_isPerson) B.pre
  have hown : s.vm.findClass RX9 = some m.cls := findClass_of_methodNamed B.named
  have hlocks := B.notSynchronized
  subst hsz
  obtain ⟨hNB, hRB, hHT⟩ := hC
  have hSM : SM N N n n := SM_rf
  have hMM : MM N N a a := MM_rf
  have hD := hD0.self (sz := s.heap.size)
  have hA : ∀ q9 : Nat, s.heap.size ≤ q9 → va_A (XW x cy g N n a r ++ va_pl L f) s.heap.size q9 := fun q9 h => Or.inr h
  have hS : va_S (va_A (XW x cy g N n a r ++ va_pl L f) s.heap.size) s.heap s.heap [] := va_S.rf
  have hl := lv_entry ([.ref (x 0), .int k, .int v]) (n := 3) (Nat.le_of_ble_eq_true rfl)
  rw [lg_entry_eq]
  generalize (lg_sl ([.ref (x 0), .int k, .int v]) ++ List.replicate (3 - (lg_sl ([.ref (x 0), .int k, .int v])).length) Slot.unset).toArray = ls at hl ⊢
  have hl : lv_has ls 3 [(0, .ref (x 0)), (1, .int k), (2, .int v)] := hl
  refine lv_iload_n hx hb dX9_isPerson_0 rfl (lv_at hl 1 rfl) ?_
  by_cases j1 : k = 0
  · skip
    refine lv_tableIn (tgt := 28) hx hb dX9_isPerson_1 (by rw [j1]; decide) (by rw [j1]; decide) (by rw [j1]; rfl) (by decide) ?_
    refine lv_aload_n hx hb dX9_isPerson_28 rfl (lv_at hl 0 rfl) ?_
    refine lv_iload_n hx hb dX9_isPerson_29 rfl (lv_at hl 2 rfl) ?_
    refine gvI (As := [.int v]) (rest := []) ⟨hx, hb, hml, hown, hts⟩ (zX9_isReader l D x cy g L K hG N n a r f ⟨hNB, hRB, hHT⟩ _  v ) (cwV 1 hts gX9_isPerson_X9_isReader rfl rfl rfl (by decide +kernel) ⟨Nat.le_of_ble_eq_true rfl, Nat.le_of_ble_eq_true rfl⟩) hK hP hD hS hA (va_recv hK hP (ci := 9) (q0 := 0) rfl rfl) rfl hl.1 rfl (Nat.le_of_ble_eq_true rfl) dX9_isPerson_30 ⟨Nat.le_of_ble_eq_true rfl, Nat.le_of_ble_eq_true rfl⟩ (fun q2 u3 H locs hq2 hP hD hS => ?_)
    have hP : va_P D vwCl (XW x cy g N n a r ++ va_pl L f) H := hP
    have hD : va_D _ (XW x cy g N n a r ++ va_pl L f) := hD
    exact W.zret (v := q2) hx hb hr ((nz01 hq2.1).1) (fun t ht hW => ⟨⟨q2, (), rfl, ⟨hq2.1, by rw [pcn_0 j1]; exact hq2.2⟩, by rw [ht]; exact hP, va_K.moved hW.alike hK, hD⟩, hS.F ht⟩) hS.2.2 dX9_isPerson_33
  by_cases j4 : k = 1
  · skip
    refine lv_tableIn (tgt := 34) hx hb dX9_isPerson_1 (by rw [j4]; decide) (by rw [j4]; decide) (by rw [j4]; rfl) (by decide) ?_
    refine lv_aload_n hx hb dX9_isPerson_34 rfl (lv_at hl 0 rfl) ?_
    refine va_get (D := D) (ci := 9) (v := .ref (x 4)) (C := RX9) (T := TX9) (N := 19) hx hb hts iX9_isPerson_9 hown hK hP 0 rfl rfl 3 (by decide) (hts (.fieldLink RX9 37 "FondsRoom" "fetchers" "LFondsRoom$Staff;") (by decide +kernel)) (fun _ h9 => h9) rfl dX9_isPerson_35 ?_
    refine lv_iload_n hx hb dX9_isPerson_38 rfl (lv_at hl 2 rfl) ?_
    refine gvI (As := [.int v]) (rest := []) ⟨hx, hb, hml, hown, hts⟩ (zX7_hasWorker_0 l D x cy g L K hG N n a r f ⟨hNB, hRB, hHT⟩ _  v ) (cwV 1 hts gX9_isPerson_X7_hasWorker rfl rfl rfl (by decide +kernel) ⟨Nat.le_of_ble_eq_true rfl, Nat.le_of_ble_eq_true rfl⟩) hK hP hD hS hA (va_recv hK hP (ci := 7) (q0 := 4) rfl rfl) rfl hl.1 rfl (Nat.le_of_ble_eq_true rfl) dX9_isPerson_39 ⟨Nat.le_of_ble_eq_true rfl, Nat.le_of_ble_eq_true rfl⟩ (fun q5 u6 H locs hq5 hP hD hS => ?_)
    have hP : va_P D vwCl (XW x cy g N n a r ++ va_pl L f) H := hP
    have hD : va_D _ (XW x cy g N n a r ++ va_pl L f) := hD
    exact W.zret (v := q5) hx hb hr ((nz01 hq5.1).1) (fun t ht hW => ⟨⟨q5, (), rfl, ⟨hq5.1, by rw [pcn_1 j4]; exact hq5.2⟩, by rw [ht]; exact hP, va_K.moved hW.alike hK, hD⟩, hS.F ht⟩) hS.2.2 dX9_isPerson_42
  by_cases j7 : k = 2
  · skip
    refine lv_tableIn (tgt := 43) hx hb dX9_isPerson_1 (by rw [j7]; decide) (by rw [j7]; decide) (by rw [j7]; rfl) (by decide) ?_
    refine lv_aload_n hx hb dX9_isPerson_43 rfl (lv_at hl 0 rfl) ?_
    refine va_get (D := D) (ci := 9) (v := .ref (x 6)) (C := RX9) (T := TX9) (N := 19) hx hb hts iX9_isPerson_9 hown hK hP 0 rfl rfl 4 (by decide) (hts (.fieldLink RX9 41 "FondsRoom" "copyists" "LFondsRoom$Staff;") (by decide +kernel)) (fun _ h9 => h9) rfl dX9_isPerson_44 ?_
    refine lv_iload_n hx hb dX9_isPerson_47 rfl (lv_at hl 2 rfl) ?_
    refine gvI (As := [.int v]) (rest := []) ⟨hx, hb, hml, hown, hts⟩ (zX7_hasWorker_1 l D x cy g L K hG N n a r f ⟨hNB, hRB, hHT⟩ _  v ) (cwV 1 hts gX9_isPerson_X7_hasWorker rfl rfl rfl (by decide +kernel) ⟨Nat.le_of_ble_eq_true rfl, Nat.le_of_ble_eq_true rfl⟩) hK hP hD hS hA (va_recv hK hP (ci := 7) (q0 := 6) rfl rfl) rfl hl.1 rfl (Nat.le_of_ble_eq_true rfl) dX9_isPerson_48 ⟨Nat.le_of_ble_eq_true rfl, Nat.le_of_ble_eq_true rfl⟩ (fun q8 u9 H locs hq8 hP hD hS => ?_)
    have hP : va_P D vwCl (XW x cy g N n a r ++ va_pl L f) H := hP
    have hD : va_D _ (XW x cy g N n a r ++ va_pl L f) := hD
    exact W.zret (v := q8) hx hb hr ((nz01 hq8.1).1) (fun t ht hW => ⟨⟨q8, (), rfl, ⟨hq8.1, by rw [pcn_2 j7]; exact hq8.2⟩, by rw [ht]; exact hP, va_K.moved hW.alike hK, hD⟩, hS.F ht⟩) hS.2.2 dX9_isPerson_51
  have zj1 : (k).toInt ≠ 0 := fun h9 => j1 ((fa_eq _ _).mpr (h9.trans (by decide)))
  have zj4 : (k).toInt ≠ 1 := fun h9 => j4 ((fa_eq _ _).mpr (h9.trans (by decide)))
  have zj7 : (k).toInt ≠ 2 := fun h9 => j7 ((fa_eq _ _).mpr (h9.trans (by decide)))
  refine lv_tableOut (tgt := 52) hx hb dX9_isPerson_1 (by omega) (by decide) ?_
  refine lv_iconst (v := 0) hx hb dX9_isPerson_52 (by decide) ?_
  exact W.zret (v := 0) hx hb hr (rfl) (fun t ht hW => ⟨⟨0, (), rfl, ⟨Or.inl rfl, fun h9 => absurd rfl h9, fun ⟨j9, h8, _⟩ => absurd (lt_of_lt_of_eq h8 (pcn_3 j1 j4 j7)) (Nat.not_lt_zero _)⟩, by rw [ht]; exact hP, va_K.moved hW.alike hK, hD⟩, hS.F ht⟩) hS.2.2 dX9_isPerson_53

theorem iX9_suffer_7 : ∀ w ∈ wsX70, w ∈ wsX9_suffer := fun _ h => List.mem_cons_of_mem _ (List.mem_append_left _ (List.mem_append_left _ (List.mem_append_left _ (List.mem_append_left _ (List.mem_append_left _ (List.mem_append_left _ (List.mem_append_right _ h)))))))
theorem iX9_suffer_9 : ∀ w ∈ wsX90, w ∈ wsX9_suffer := fun _ h => List.mem_cons_of_mem _ (List.mem_append_left _ (List.mem_append_left _ (List.mem_append_left _ (List.mem_append_left _ (List.mem_append_left _ (List.mem_append_left _ (List.mem_append_left _ (List.mem_append_right _ h))))))))
set_option maxHeartbeats 4000000 in
set_option maxRecDepth 100000 in
theorem zX9_suffer (l : Launch) (D : va_G) (x : Nat → Nat) (cy : Nat → ClassId) (g : Nat → Nat → Option Nat) (L : List Nat) (K : Nat → Nat) (hG : GO L K g) (N : Nat → Nat) (n : Nat → Int32) (a : Nat → Nat → Int32) (r : Nat → Nat → Option Nat) (f : Nat → va_E) (hC : CI L K cy N r f) (sz : Nat) (k v : Int32) : Met l yX9_suffer wsX9_suffer ({ frames := 3, cells := 0, slots := 0, locals := 69 }) (PW D (TYS cy) (XW x cy g N n a r ++ va_pl L f) sz [.ref (x 0), .int k, .int v]) (va_Qv (fun (u : ST) => CI L K cy u.1 u.2.2.2.1 u.2.2.2.2 ∧ SM N u.1 n u.2.1 ∧ MM N u.1 a u.2.2.1 ∧ True) (BU D (TYS cy) (XW x cy g N n a r ++ va_pl L f) (WC x cy g L) sz) (va_A (XW x cy g N n a r ++ va_pl L f) sz)) 0 0 (va_A (XW x cy g N n a r ++ va_pl L f) sz) := by
  refine Met.ofW (cc := cX9_suffer) (maxL := 3) (ret := none) (by decide) rfl ?_
  intro p e s m args below meth c s₁ B hml hv
  obtain ⟨rfl, hsz, hP, hK, hD0⟩ := hv
  have hx := B.exec
  have hb := B.bytes
  have hr := B.returns
  have hts := atoms_spec (ws := wsX9_suffer) B.pre
  have hown : s.vm.findClass RX9 = some m.cls := findClass_of_methodNamed B.named
  have hlocks := B.notSynchronized
  subst hsz
  obtain ⟨hNB, hRB, hHT⟩ := hC
  have hSM : SM N N n n := SM_rf
  have hMM : MM N N a a := MM_rf
  have hD := hD0.self (sz := s.heap.size)
  have hA : ∀ q9 : Nat, s.heap.size ≤ q9 → va_A (XW x cy g N n a r ++ va_pl L f) s.heap.size q9 := fun q9 h => Or.inr h
  have hS : va_S (va_A (XW x cy g N n a r ++ va_pl L f) s.heap.size) s.heap s.heap [] := va_S.rf
  have hl := lv_entry ([.ref (x 0), .int k, .int v]) (n := 3) (Nat.le_of_ble_eq_true rfl)
  rw [lg_entry_eq]
  generalize (lg_sl ([.ref (x 0), .int k, .int v]) ++ List.replicate (3 - (lg_sl ([.ref (x 0), .int k, .int v])).length) Slot.unset).toArray = ls at hl ⊢
  have hl : lv_has ls 3 [(0, .ref (x 0)), (1, .int k), (2, .int v)] := hl
  refine lv_aload_n hx hb dX9_suffer_0 rfl (lv_at hl 0 rfl) ?_
  refine lv_iload_n hx hb dX9_suffer_1 rfl (lv_at hl 1 rfl) ?_
  refine lv_iload_n hx hb dX9_suffer_2 rfl (lv_at hl 2 rfl) ?_
  refine gvI (As := [.int k, .int v]) (rest := []) ⟨hx, hb, hml, hown, hts⟩ (zX9_isPerson l D x cy g L K hG N n a r f ⟨hNB, hRB, hHT⟩ _  k v ) (cwV 2 hts gX9_suffer_X9_isPerson rfl rfl rfl (by decide +kernel) ⟨Nat.le_of_ble_eq_true rfl, Nat.le_of_ble_eq_true rfl⟩) hK hP hD hS hA (va_recv hK hP (ci := 9) (q0 := 0) rfl rfl) rfl hl.1 rfl (Nat.le_of_ble_eq_true rfl) dX9_suffer_3 ⟨Nat.le_of_ble_eq_true rfl, Nat.le_of_ble_eq_true rfl⟩ (fun q1 u2 H locs hq1 hP hD hS => ?_)
  have hP : va_P D vwCl (XW x cy g N n a r ++ va_pl L f) H := hP
  have hD : va_D _ (XW x cy g N n a r ++ va_pl L f) := hD
  refine lv_if_ne (tgt := 10) hx hb dX9_suffer_6 (by decide) (fun c3 => ?_) (fun c3 => ?_)
  · skip
    obtain ⟨j4, hj4, rfl⟩ := hq1.2.mp c3
    refine lv_iload_n hx hb dX9_suffer_10 rfl (lv_at hl 1 rfl) ?_
    refine lv_if_ne (tgt := 41) hx hb dX9_suffer_11 (by decide) (fun c5 => ?_) (fun c5 => ?_)
    · skip
      refine lv_iload_n hx hb dX9_suffer_41 rfl (lv_at hl 1 rfl) ?_
      refine lv_iconst (v := 1) hx hb dX9_suffer_42 (by decide) ?_
      refine lv_icmp_ne (tgt := 62) hx hb dX9_suffer_43 (by decide) (fun c6 => ?_) (fun c6 => ?_)
      · skip
        have nb0 : N 0 ≤ 12 := hNB 0 (by decide)
        have nb1 : N 1 ≤ 40 := hNB 1 (by decide)
        have nb2 : N 2 ≤ 20 := hNB 2 (by decide)
        have nb3 : N 3 ≤ 4 := hNB 3 (by decide)
        have nb4 : N 4 ≤ 3 := hNB 4 (by decide)
        have nb5 : N 5 ≤ 20 := hNB 5 (by decide)
        have nb6 : N 6 ≤ 20 := hNB 6 (by decide)
        have nb7 : N 7 ≤ 20 := hNB 7 (by decide)
        have nb8 : N 8 ≤ 30 := hNB 8 (by decide)
        have nb9 : N 9 ≤ 400 := hNB 9 (by decide)
        have qj4 := hj4
        have qj4 := Nat.lt_of_lt_of_le qj4 (pcn_le c5 c6)
        refine lv_aload_n hx hb dX9_suffer_62 rfl (lv_at hl 0 rfl) ?_
        refine lv_aload_n hx hb dX9_suffer_63 rfl (lv_at hl 0 rfl) ?_
        refine va_get (D := D) (ci := 9) (v := .ref (x 6)) (C := RX9) (T := TX9) (N := 19) hx hb hts iX9_suffer_9 hown hK hP 0 rfl rfl 4 (by decide) (hts (.fieldLink RX9 41 "FondsRoom" "copyists" "LFondsRoom$Staff;") (by decide +kernel)) (fun _ h9 => h9) rfl dX9_suffer_64 ?_
        refine va_get (D := D) (ci := 7) (v := .ref (x 7)) (C := RX7) (T := TX7) (N := 2) hx hb hts iX9_suffer_7 hown hK hP 6 rfl rfl 0 (by decide) (hts (.fieldLink RX9 216 "FondsRoom$Staff" "workers" "[LFondsRoom$Worker;") (by decide +kernel)) (fun _ h9 => h9) rfl dX9_suffer_67 ?_
        refine lv_iload_n hx hb dX9_suffer_70 rfl (lv_at hl 2 rfl) ?_
        refine va_aldq hx hb hK hP 7 5 rfl rfl (vp_in_nI (by omega) (by omega)) dX9_suffer_71 ?_
        obtain ⟨p7, ep7, mp7, kp7⟩ := hG.2.2.2.2 j4 (by omega)
        refine lv_tov (v' := .ref p7) (by rw [nI_clamp (by omega)]; show va_rf (g 4 j4) = _; rw [ep7]; rfl) ?_
        refine gvV (As := [.ref p7]) (rest := []) ⟨hx, hb, hml, hown, hts⟩ (zX9_stopCopyist l D x cy g L K hG N n a r f ⟨hNB, hRB, hHT⟩ _ p7  ⟨mp7, kp7⟩) (cwV 1 hts gX9_suffer_X9_stopCopyist rfl rfl rfl (by decide +kernel) ⟨Nat.le_of_ble_eq_true rfl, Nat.le_of_ble_eq_true rfl⟩) hK hP hD hS hA (va_recv hK hP (ci := 9) (q0 := 0) rfl rfl) rfl hl.1 rfl (Nat.le_of_ble_eq_true rfl) dX9_suffer_72 ⟨Nat.le_of_ble_eq_true rfl, Nat.le_of_ble_eq_true rfl⟩ (fun u9 H locs hq8 hP hD hS => ?_)
        obtain ⟨N10, n11, a12, r13, f14⟩ := u9
        obtain ⟨⟨hNB, hRB, hHT⟩, hs15, hv16, hq8b⟩ := hq8
        have hSM : SM N N10 n n11 := SM_tr hSM hs15
        have hMM : MM N N10 a a12 := MM_tr hMM hv16
        have hP : va_P D vwCl (XW x cy g N10 n11 a12 r13 ++ va_pl L f14) H := hP
        have hD : va_D _ (XW x cy g N10 n11 a12 r13 ++ va_pl L f14) := hD
        exact W.vret hx hb hr (fun t ht hW => ⟨⟨(N10, n11, a12, r13, f14), rfl, ⟨⟨hNB, hRB, hHT⟩, hSM, hMM, trivial⟩, by rw [ht]; exact hP, va_K.moved hW.alike hK, hD⟩, hS.F ht⟩) hS.2.2 dX9_suffer_75
      · skip
        have nb0 : N 0 ≤ 12 := hNB 0 (by decide)
        have nb1 : N 1 ≤ 40 := hNB 1 (by decide)
        have nb2 : N 2 ≤ 20 := hNB 2 (by decide)
        have nb3 : N 3 ≤ 4 := hNB 3 (by decide)
        have nb4 : N 4 ≤ 3 := hNB 4 (by decide)
        have nb5 : N 5 ≤ 20 := hNB 5 (by decide)
        have nb6 : N 6 ≤ 20 := hNB 6 (by decide)
        have nb7 : N 7 ≤ 20 := hNB 7 (by decide)
        have nb8 : N 8 ≤ 30 := hNB 8 (by decide)
        have nb9 : N 9 ≤ 400 := hNB 9 (by decide)
        have qj4 := hj4
        rw [pcn_1 c6] at qj4
        refine lv_aload_n hx hb dX9_suffer_46 rfl (lv_at hl 0 rfl) ?_
        refine lv_aload_n hx hb dX9_suffer_47 rfl (lv_at hl 0 rfl) ?_
        refine va_get (D := D) (ci := 9) (v := .ref (x 4)) (C := RX9) (T := TX9) (N := 19) hx hb hts iX9_suffer_9 hown hK hP 0 rfl rfl 3 (by decide) (hts (.fieldLink RX9 37 "FondsRoom" "fetchers" "LFondsRoom$Staff;") (by decide +kernel)) (fun _ h9 => h9) rfl dX9_suffer_48 ?_
        refine va_get (D := D) (ci := 7) (v := .ref (x 5)) (C := RX7) (T := TX7) (N := 2) hx hb hts iX9_suffer_7 hown hK hP 4 rfl rfl 0 (by decide) (hts (.fieldLink RX9 216 "FondsRoom$Staff" "workers" "[LFondsRoom$Worker;") (by decide +kernel)) (fun _ h9 => h9) rfl dX9_suffer_51 ?_
        refine lv_iload_n hx hb dX9_suffer_54 rfl (lv_at hl 2 rfl) ?_
        refine va_aldq hx hb hK hP 5 5 rfl rfl (vp_in_nI (by omega) (by omega)) dX9_suffer_55 ?_
        obtain ⟨p17, ep17, mp17, kp17⟩ := hG.2.2.2.1 j4 (by omega)
        refine lv_tov (v' := .ref p17) (by rw [nI_clamp (by omega)]; show va_rf (g 3 j4) = _; rw [ep17]; rfl) ?_
        refine gvV (As := [.ref p17]) (rest := []) ⟨hx, hb, hml, hown, hts⟩ (zX9_stopFetcher l D x cy g L K hG N n a r f ⟨hNB, hRB, hHT⟩ _ p17  ⟨mp17, kp17⟩) (cwV 1 hts gX9_suffer_X9_stopFetcher rfl rfl rfl (by decide +kernel) ⟨Nat.le_of_ble_eq_true rfl, Nat.le_of_ble_eq_true rfl⟩) hK hP hD hS hA (va_recv hK hP (ci := 9) (q0 := 0) rfl rfl) rfl hl.1 rfl (Nat.le_of_ble_eq_true rfl) dX9_suffer_56 ⟨Nat.le_of_ble_eq_true rfl, Nat.le_of_ble_eq_true rfl⟩ (fun u19 H locs hq18 hP hD hS => ?_)
        obtain ⟨N20, n21, a22, r23, f24⟩ := u19
        obtain ⟨⟨hNB, hRB, hHT⟩, hs25, hv26, hq18b⟩ := hq18
        have hSM : SM N N20 n n21 := SM_tr hSM hs25
        have hMM : MM N N20 a a22 := MM_tr hMM hv26
        have hP : va_P D vwCl (XW x cy g N20 n21 a22 r23 ++ va_pl L f24) H := hP
        have hD : va_D _ (XW x cy g N20 n21 a22 r23 ++ va_pl L f24) := hD
        refine lv_goto (tgt := 75) hx hb dX9_suffer_59 (by decide) ?_
        exact W.vret hx hb hr (fun t ht hW => ⟨⟨(N20, n21, a22, r23, f24), rfl, ⟨⟨hNB, hRB, hHT⟩, hSM, hMM, trivial⟩, by rw [ht]; exact hP, va_K.moved hW.alike hK, hD⟩, hS.F ht⟩) hS.2.2 dX9_suffer_75
    · skip
      have nb0 : N 0 ≤ 12 := hNB 0 (by decide)
      have nb1 : N 1 ≤ 40 := hNB 1 (by decide)
      have nb2 : N 2 ≤ 20 := hNB 2 (by decide)
      have nb3 : N 3 ≤ 4 := hNB 3 (by decide)
      have nb4 : N 4 ≤ 3 := hNB 4 (by decide)
      have nb5 : N 5 ≤ 20 := hNB 5 (by decide)
      have nb6 : N 6 ≤ 20 := hNB 6 (by decide)
      have nb7 : N 7 ≤ 20 := hNB 7 (by decide)
      have nb8 : N 8 ≤ 30 := hNB 8 (by decide)
      have nb9 : N 9 ≤ 400 := hNB 9 (by decide)
      have qj4 := hj4
      rw [pcn_0 c5] at qj4
      refine lv_aload_n hx hb dX9_suffer_14 rfl (lv_at hl 0 rfl) ?_
      refine va_get (D := D) (ci := 9) (v := .ref (x 3)) (C := RX9) (T := TX9) (N := 19) hx hb hts iX9_suffer_9 hown hK hP 0 rfl rfl 2 (by decide) (hts (.fieldLink RX9 27 "FondsRoom" "readers" "[LFondsRoom$Reader;") (by decide +kernel)) (fun _ h9 => h9) rfl dX9_suffer_15 ?_
      refine lv_iload_n hx hb dX9_suffer_18 rfl (lv_at hl 2 rfl) ?_
      refine va_aldq hx hb hK hP 3 4 rfl rfl (vp_in_nI (by omega) (by omega)) dX9_suffer_19 ?_
      obtain ⟨p27, ep27, mp27, kp27⟩ := hG.2.2.1 j4 (by omega)
      refine lv_tov (v' := .ref p27) (by rw [nI_clamp (by omega)]; show va_rf (g 2 j4) = _; rw [ep27]; rfl) ?_
      refine gsI (As := [.ref p27]) (rest := []) ⟨hx, hb, hml, hown, hts⟩ (zX9_isInRoom l D x cy g L K hG N n a r f ⟨hNB, hRB, hHT⟩ _ p27  ⟨mp27, kp27⟩) (va_cwS 1 hts gX9_suffer_X9_isInRoom rfl rfl rfl (by decide +kernel) ⟨Nat.le_of_ble_eq_true rfl, Nat.le_of_ble_eq_true rfl⟩) hK hP hD hS hA rfl hl.1 rfl (Nat.le_of_ble_eq_true rfl) dX9_suffer_20 ⟨Nat.le_of_ble_eq_true rfl, Nat.le_of_ble_eq_true rfl⟩ (fun q28 u29 H locs hq28 hP hD hS => ?_)
      have hP : va_P D vwCl (XW x cy g N n a r ++ va_pl L f) H := hP
      have hD : va_D _ (XW x cy g N n a r ++ va_pl L f) := hD
      refine lv_if_eq (tgt := 75) hx hb dX9_suffer_23 (by decide) (fun c30 => ?_) (fun c30 => ?_)
      · skip
        exact W.vret hx hb hr (fun t ht hW => ⟨⟨(N, n, a, r, f), rfl, ⟨⟨hNB, hRB, hHT⟩, hSM, hMM, trivial⟩, by rw [ht]; exact hP, va_K.moved hW.alike hK, hD⟩, hS.F ht⟩) hS.2.2 dX9_suffer_75
      · skip
        refine lv_aload_n hx hb dX9_suffer_26 rfl (lv_at hl 0 rfl) ?_
        refine lv_aload_n hx hb dX9_suffer_27 rfl (lv_at hl 0 rfl) ?_
        refine va_get (D := D) (ci := 9) (v := .ref (x 3)) (C := RX9) (T := TX9) (N := 19) hx hb hts iX9_suffer_9 hown hK hP 0 rfl rfl 2 (by decide) (hts (.fieldLink RX9 27 "FondsRoom" "readers" "[LFondsRoom$Reader;") (by decide +kernel)) (fun _ h9 => h9) rfl dX9_suffer_28 ?_
        refine lv_iload_n hx hb dX9_suffer_31 rfl (lv_at hl 2 rfl) ?_
        refine va_aldq hx hb hK hP 3 4 rfl rfl (vp_in_nI (by omega) (by omega)) dX9_suffer_32 ?_
        obtain ⟨p31, ep31, mp31, kp31⟩ := hG.2.2.1 j4 (by omega)
        refine lv_tov (v' := .ref p31) (by rw [nI_clamp (by omega)]; show va_rf (g 2 j4) = _; rw [ep31]; rfl) ?_
        refine lv_bipush (v := 7) hx hb dX9_suffer_33 (by decide) ?_
        refine gvV (As := [.ref p31, .int 7]) (rest := []) ⟨hx, hb, hml, hown, hts⟩ (zX9_depart l D x cy g L K hG N n a r f ⟨hNB, hRB, hHT⟩ _ p31 7 ⟨mp31, kp31⟩) (cwV 2 hts gX9_suffer_X9_depart rfl rfl rfl (by decide +kernel) ⟨Nat.le_of_ble_eq_true rfl, Nat.le_of_ble_eq_true rfl⟩) hK hP hD hS hA (va_recv hK hP (ci := 9) (q0 := 0) rfl rfl) rfl hl.1 rfl (Nat.le_of_ble_eq_true rfl) dX9_suffer_35 ⟨Nat.le_of_ble_eq_true rfl, Nat.le_of_ble_eq_true rfl⟩ (fun u33 H locs hq32 hP hD hS => ?_)
        obtain ⟨N34, n35, a36, r37, f38⟩ := u33
        obtain ⟨⟨hNB, hRB, hHT⟩, hs39, hv40, hq32b⟩ := hq32
        have hSM : SM N N34 n n35 := SM_tr hSM hs39
        have hMM : MM N N34 a a36 := MM_tr hMM hv40
        have hP : va_P D vwCl (XW x cy g N34 n35 a36 r37 ++ va_pl L f38) H := hP
        have hD : va_D _ (XW x cy g N34 n35 a36 r37 ++ va_pl L f38) := hD
        refine lv_goto (tgt := 75) hx hb dX9_suffer_38 (by decide) ?_
        exact W.vret hx hb hr (fun t ht hW => ⟨⟨(N34, n35, a36, r37, f38), rfl, ⟨⟨hNB, hRB, hHT⟩, hSM, hMM, trivial⟩, by rw [ht]; exact hP, va_K.moved hW.alike hK, hD⟩, hS.F ht⟩) hS.2.2 dX9_suffer_75
  · skip
    exact W.vret hx hb hr (fun t ht hW => ⟨⟨(N, n, a, r, f), rfl, ⟨⟨hNB, hRB, hHT⟩, hSM, hMM, trivial⟩, by rw [ht]; exact hP, va_K.moved hW.alike hK, hD⟩, hS.F ht⟩) hS.2.2 dX9_suffer_9

theorem iX9_sufferMishaps_4 : ∀ w ∈ wsX40, w ∈ wsX9_sufferMishaps := fun _ h => List.mem_cons_of_mem _ (List.mem_append_left _ (List.mem_append_left _ (List.mem_append_left _ (List.mem_append_left _ (List.mem_append_left _ (List.mem_append_left _ (List.mem_append_left _ (List.mem_append_right _ h))))))))
theorem iX9_sufferMishaps_9 : ∀ w ∈ wsX90, w ∈ wsX9_sufferMishaps := fun _ h => List.mem_cons_of_mem _ (List.mem_append_left _ (List.mem_append_left _ (List.mem_append_left _ (List.mem_append_left _ (List.mem_append_left _ (List.mem_append_left _ (List.mem_append_left _ (List.mem_append_left _ (List.mem_append_right _ h)))))))))
set_option maxHeartbeats 4000000 in
set_option maxRecDepth 100000 in
theorem zX9_sufferMishaps (l : Launch) (D : va_G) (x : Nat → Nat) (cy : Nat → ClassId) (g : Nat → Nat → Option Nat) (L : List Nat) (K : Nat → Nat) (hG : GO L K g) (N : Nat → Nat) (n : Nat → Int32) (a : Nat → Nat → Int32) (r : Nat → Nat → Option Nat) (f : Nat → va_E) (hC : CI L K cy N r f) (sz : Nat) : Met l yX9_sufferMishaps wsX9_sufferMishaps ({ frames := 4, cells := 0, slots := 0, locals := 91 }) (PW D (TYS cy) (XW x cy g N n a r ++ va_pl L f) sz [.ref (x 0)]) (va_Qv (fun (u : ST) => CI L K cy u.1 u.2.2.2.1 u.2.2.2.2 ∧ SM N u.1 n u.2.1 ∧ ml (u.2.2.1 0) (u.1 8) = md (ml (a 0) (N 8)) (n 1)) (BU D (TYS cy) (XW x cy g N n a r ++ va_pl L f) (WC x cy g L) sz) (va_A (XW x cy g N n a r ++ va_pl L f) sz)) 0 0 (va_A (XW x cy g N n a r ++ va_pl L f) sz) := by
  refine Met.ofW (cc := cX9_sufferMishaps) (maxL := 2) (ret := none) (by decide) rfl ?_
  intro p e s m args below meth c s₁ B hml hv
  obtain ⟨rfl, hsz, hP, hK, hD0⟩ := hv
  have hx := B.exec
  have hb := B.bytes
  have hr := B.returns
  have hts := atoms_spec (ws := wsX9_sufferMishaps) B.pre
  have hown : s.vm.findClass RX9 = some m.cls := findClass_of_methodNamed B.named
  have hlocks := B.notSynchronized
  subst hsz
  obtain ⟨hNB, hRB, hHT⟩ := hC
  have hSM : SM N N n n := SM_rf
  have hMM : MM N N a a := MM_rf
  have hD := hD0.self (sz := s.heap.size)
  have hA : ∀ q9 : Nat, s.heap.size ≤ q9 → va_A (XW x cy g N n a r ++ va_pl L f) s.heap.size q9 := fun q9 h => Or.inr h
  have hS : va_S (va_A (XW x cy g N n a r ++ va_pl L f) s.heap.size) s.heap s.heap [] := va_S.rf
  have hl := lv_entry ([.ref (x 0)]) (n := 2) (Nat.le_of_ble_eq_true rfl)
  rw [lg_entry_eq]
  generalize (lg_sl ([.ref (x 0)]) ++ List.replicate (2 - (lg_sl ([.ref (x 0)])).length) Slot.unset).toArray = ls at hl ⊢
  have hl : lv_has ls 2 [(0, .ref (x 0))] := hl
  refine lv_iconst (v := 0) hx hb dX9_sufferMishaps_0 (by decide) ?_
  refine lv_istore_n (lv' := [(1, .int 0), (0, .ref (x 0))]) hx hb dX9_sufferMishaps_1 rfl hl (by decide) rfl (fun ls hl => ?_)
  have key2 : ∀ (m9 j1 : Nat), 400 - j1 = m9 → j1 ≤ 400 → ∀ (N3 : Nat → Nat) (n4 : Nat → Int32) (a5 : Nat → Nat → Int32) (r6 : Nat → Nat → Option Nat) (f7 : Nat → va_E) , NB N3 → RB L K N3 r6 → HT L K cy f7 → SM N N3 n n4 → MM N N3 a a5 → ∀ (H : Heap) (locs : List Loc) (ls : Array Slot), va_P D vwCl (XW x cy g N3 n4 a5 r6 ++ va_pl L f7) H → va_D (va_A (XW x cy g N n a r ++ va_pl L f) s.heap.size) (XW x cy g N3 n4 a5 r6 ++ va_pl L f7) → va_S (va_A (XW x cy g N n a r ++ va_pl L f) s.heap.size) s.heap H locs → lv_has ls 2 [(1, .int (nI j1)), (0, .ref (x 0))] → W p l e (headSpec wsX9_sufferMishaps ({ frames := 4, cells := 0, slots := 0, locals := 91 })).room s m #[.ref (x 0)] below meth c H locs 0 0 (MQ below (va_Qv (fun (u : ST) => CI L K cy u.1 u.2.2.2.1 u.2.2.2.2 ∧ SM N u.1 n u.2.1 ∧ ml (u.2.2.1 0) (u.1 8) = md (ml (a 0) (N 8)) (n 1)) (BU D (TYS cy) (XW x cy g N n a r ++ va_pl L f) (WC x cy g L) s.heap.size) (va_A (XW x cy g N n a r ++ va_pl L f) s.heap.size)) #[.ref (x 0)] s 0 0 (va_A (XW x cy g N n a r ++ va_pl L f) s.heap.size)) (F0 m 2 ls []) := by
    intro m9
    induction m9 using Nat.strongRecOn with
    | _ m9 ihkey2 =>
      intro j1 hm9 hj400 N3 n4 a5 r6 f7  hNB hRB hHT hSM hMM H locs ls hP hD hS hl
      subst hm9
      have nb0 : N3 0 ≤ 12 := hNB 0 (by decide)
      have nb1 : N3 1 ≤ 40 := hNB 1 (by decide)
      have nb2 : N3 2 ≤ 20 := hNB 2 (by decide)
      have nb3 : N3 3 ≤ 4 := hNB 3 (by decide)
      have nb4 : N3 4 ≤ 3 := hNB 4 (by decide)
      have nb5 : N3 5 ≤ 20 := hNB 5 (by decide)
      have nb6 : N3 6 ≤ 20 := hNB 6 (by decide)
      have nb7 : N3 7 ≤ 20 := hNB 7 (by decide)
      have nb8 : N3 8 ≤ 30 := hNB 8 (by decide)
      have nb9 : N3 9 ≤ 400 := hNB 9 (by decide)
      refine lv_iload_n hx hb dX9_sufferMishaps_2 rfl (lv_at hl 0 rfl) ?_
      refine lv_aload_n hx hb dX9_sufferMishaps_3 rfl (lv_at hl 1 rfl) ?_
      refine va_get (D := D) (ci := 9) (v := .ref (x 14)) (C := RX9) (T := TX9) (N := 19) hx hb hts iX9_sufferMishaps_9 hown hK hP 0 rfl rfl 8 (by decide) (hts (.fieldLink RX9 60 "FondsRoom" "mishaps" "LFondsRoom$Mishaps;") (by decide +kernel)) (fun _ h9 => h9) rfl dX9_sufferMishaps_4 ?_
      refine va_get (D := D) (ci := 4) (v := .int (nI (N3 8))) (C := RX4) (T := TX4) (N := 4) hx hb hts iX9_sufferMishaps_4 hown hK hP 14 rfl rfl 3 (by decide) (hts (.fieldLink RX9 190 "FondsRoom$Mishaps" "size" "I") (by decide +kernel)) (fun _ h9 => h9) rfl dX9_sufferMishaps_7 ?_
      refine lv_icmp_ge (tgt := 57) hx hb dX9_sufferMishaps_10 (by decide) (fun c8 => ?_) (fun c8 => ?_)
      · skip
        have dc8 : (N3 8) ≤ j1 := (nI_leI (a := (N3 8)) (b := j1) (by omega) (by omega)).mp c8
        refine lv_aload_n hx hb dX9_sufferMishaps_57 rfl (lv_at hl 1 rfl) ?_
        refine va_get (D := D) (ci := 9) (v := .ref (x 14)) (C := RX9) (T := TX9) (N := 19) hx hb hts iX9_sufferMishaps_9 hown hK hP 0 rfl rfl 8 (by decide) (hts (.fieldLink RX9 60 "FondsRoom" "mishaps" "LFondsRoom$Mishaps;") (by decide +kernel)) (fun _ h9 => h9) rfl dX9_sufferMishaps_58 ?_
        refine lv_aload_n hx hb dX9_sufferMishaps_61 rfl (lv_at hl 1 rfl) ?_
        refine va_get (D := D) (ci := 9) (v := .int (n4 1)) (C := RX9) (T := TX9) (N := 19) hx hb hts iX9_sufferMishaps_9 hown hK hP 0 rfl rfl 14 (by decide) (hts (.fieldLink RX9 78 "FondsRoom" "turn" "I") (by decide +kernel)) (fun _ h9 => h9) rfl dX9_sufferMishaps_62 ?_
        refine gvV (As := [.int (n4 1)]) (rest := []) ⟨hx, hb, hml, hown, hts⟩ (zX4_dropTurn l D x cy g L K hG N3 n4 a5 r6 f7 ⟨hNB, hRB, hHT⟩ _  (n4 1) ) (cwV 1 hts gX9_sufferMishaps_X4_dropTurn rfl rfl rfl (by decide +kernel) ⟨Nat.le_of_ble_eq_true rfl, Nat.le_of_ble_eq_true rfl⟩) hK hP hD hS hA (va_recv hK hP (ci := 4) (q0 := 14) rfl rfl) rfl hl.1 rfl (Nat.le_of_ble_eq_true rfl) dX9_sufferMishaps_65 ⟨Nat.le_of_ble_eq_true rfl, Nat.le_of_ble_eq_true rfl⟩ (fun u10 H locs hq9 hP hD hS => ?_)
        obtain ⟨N11, n12, a13, r14, f15⟩ := u10
        obtain ⟨⟨hNB, hRB, hHT⟩, hs16, hq9b⟩ := hq9
        have hSM : SM N N11 n n12 := SM_tr hSM hs16
        have hP : va_P D vwCl (XW x cy g N11 n12 a13 r14 ++ va_pl L f15) H := hP
        have hD : va_D _ (XW x cy g N11 n12 a13 r14 ++ va_pl L f15) := hD
        exact W.vret hx hb hr (fun t ht hW => ⟨⟨(N11, n12, a13, r14, f15), rfl, ⟨⟨hNB, hRB, hHT⟩, hSM, (hq9b.trans (by rw [hMM.1, hMM.2, hs16.2.1.symm.trans hSM.2.1]))⟩, by rw [ht]; exact hP, va_K.moved hW.alike hK, hD⟩, hS.F ht⟩) hS.2.2 dX9_sufferMishaps_68
      · skip
        have dc8 : j1 < (N3 8) := Nat.not_le.mp (fun h9 => c8 ((nI_leI (a := (N3 8)) (b := j1) (by omega) (by omega)).mpr h9))
        refine lv_aload_n hx hb dX9_sufferMishaps_13 rfl (lv_at hl 1 rfl) ?_
        refine va_get (D := D) (ci := 9) (v := .ref (x 14)) (C := RX9) (T := TX9) (N := 19) hx hb hts iX9_sufferMishaps_9 hown hK hP 0 rfl rfl 8 (by decide) (hts (.fieldLink RX9 60 "FondsRoom" "mishaps" "LFondsRoom$Mishaps;") (by decide +kernel)) (fun _ h9 => h9) rfl dX9_sufferMishaps_14 ?_
        refine va_get (D := D) (ci := 4) (v := .ref (x 15)) (C := RX4) (T := TX4) (N := 4) hx hb hts iX9_sufferMishaps_4 hown hK hP 14 rfl rfl 0 (by decide) (hts (.fieldLink RX9 193 "FondsRoom$Mishaps" "turns" "[I") (by decide +kernel)) (fun _ h9 => h9) rfl dX9_sufferMishaps_17 ?_
        refine lv_iload_n hx hb dX9_sufferMishaps_20 rfl (lv_at hl 0 rfl) ?_
        refine va_iald hx hb hK hP 15 0 rfl rfl (vp_in_nI (by omega) (by omega)) dX9_sufferMishaps_21 ?_
        refine lv_topi (fun y18 ey18 => ?_)
        rw [nI_clamp (by omega)] at ey18
        refine lv_aload_n hx hb dX9_sufferMishaps_22 rfl (lv_at hl 1 rfl) ?_
        refine va_get (D := D) (ci := 9) (v := .int (n4 1)) (C := RX9) (T := TX9) (N := 19) hx hb hts iX9_sufferMishaps_9 hown hK hP 0 rfl rfl 14 (by decide) (hts (.fieldLink RX9 78 "FondsRoom" "turn" "I") (by decide +kernel)) (fun _ h9 => h9) rfl dX9_sufferMishaps_23 ?_
        refine lv_icmp_ne (tgt := 51) hx hb dX9_sufferMishaps_26 (by decide) (fun c19 => ?_) (fun c19 => ?_)
        · skip
          refine lv_iinc (v := nI (j1 + 1)) (lv' := [(1, .int (nI (j1 + 1))), (0, .ref (x 0))]) hx hb dX9_sufferMishaps_51 hl (k := 0) rfl (by rw [← nI_1]; rfl) (by decide) rfl (fun ls hl => ?_)
          refine lv_goto (tgt := 2) hx hb dX9_sufferMishaps_54 (by decide) ?_
          exact ihkey2 (400 - ((j1 + 1))) (by omega) ((j1 + 1)) rfl (by omega) N3 n4 a5 r6 f7  hNB hRB hHT hSM hMM _ _ _ hP hD hS (lv_sub hl [0, 1] rfl)
        · skip
          refine lv_aload_n hx hb dX9_sufferMishaps_29 rfl (lv_at hl 1 rfl) ?_
          refine lv_aload_n hx hb dX9_sufferMishaps_30 rfl (lv_at hl 1 rfl) ?_
          refine va_get (D := D) (ci := 9) (v := .ref (x 14)) (C := RX9) (T := TX9) (N := 19) hx hb hts iX9_sufferMishaps_9 hown hK hP 0 rfl rfl 8 (by decide) (hts (.fieldLink RX9 60 "FondsRoom" "mishaps" "LFondsRoom$Mishaps;") (by decide +kernel)) (fun _ h9 => h9) rfl dX9_sufferMishaps_31 ?_
          refine va_get (D := D) (ci := 4) (v := .ref (x 16)) (C := RX4) (T := TX4) (N := 4) hx hb hts iX9_sufferMishaps_4 hown hK hP 14 rfl rfl 1 (by decide) (hts (.fieldLink RX9 197 "FondsRoom$Mishaps" "kinds" "[I") (by decide +kernel)) (fun _ h9 => h9) rfl dX9_sufferMishaps_34 ?_
          refine lv_iload_n hx hb dX9_sufferMishaps_37 rfl (lv_at hl 0 rfl) ?_
          refine va_iald hx hb hK hP 16 0 rfl rfl (vp_in_nI (by omega) (by omega)) dX9_sufferMishaps_38 ?_
          refine lv_topi (fun y20 ey20 => ?_)
          rw [nI_clamp (by omega)] at ey20
          refine lv_aload_n hx hb dX9_sufferMishaps_39 rfl (lv_at hl 1 rfl) ?_
          refine va_get (D := D) (ci := 9) (v := .ref (x 14)) (C := RX9) (T := TX9) (N := 19) hx hb hts iX9_sufferMishaps_9 hown hK hP 0 rfl rfl 8 (by decide) (hts (.fieldLink RX9 60 "FondsRoom" "mishaps" "LFondsRoom$Mishaps;") (by decide +kernel)) (fun _ h9 => h9) rfl dX9_sufferMishaps_40 ?_
          refine va_get (D := D) (ci := 4) (v := .ref (x 17)) (C := RX4) (T := TX4) (N := 4) hx hb hts iX9_sufferMishaps_4 hown hK hP 14 rfl rfl 2 (by decide) (hts (.fieldLink RX9 200 "FondsRoom$Mishaps" "whos" "[I") (by decide +kernel)) (fun _ h9 => h9) rfl dX9_sufferMishaps_43 ?_
          refine lv_iload_n hx hb dX9_sufferMishaps_46 rfl (lv_at hl 0 rfl) ?_
          refine va_iald hx hb hK hP 17 0 rfl rfl (vp_in_nI (by omega) (by omega)) dX9_sufferMishaps_47 ?_
          refine lv_topi (fun y21 ey21 => ?_)
          rw [nI_clamp (by omega)] at ey21
          refine gvV (As := [.int y20, .int y21]) (rest := []) ⟨hx, hb, hml, hown, hts⟩ (zX9_suffer l D x cy g L K hG N3 n4 a5 r6 f7 ⟨hNB, hRB, hHT⟩ _  y20 y21 ) (cwV 2 hts gX9_sufferMishaps_X9_suffer rfl rfl rfl (by decide +kernel) ⟨Nat.le_of_ble_eq_true rfl, Nat.le_of_ble_eq_true rfl⟩) hK hP hD hS hA (va_recv hK hP (ci := 9) (q0 := 0) rfl rfl) rfl hl.1 rfl (Nat.le_of_ble_eq_true rfl) dX9_sufferMishaps_48 ⟨Nat.le_of_ble_eq_true rfl, Nat.le_of_ble_eq_true rfl⟩ (fun u23 H locs hq22 hP hD hS => ?_)
          obtain ⟨N24, n25, a26, r27, f28⟩ := u23
          obtain ⟨⟨hNB, hRB, hHT⟩, hs29, hv30, hq22b⟩ := hq22
          have hSM : SM N N24 n n25 := SM_tr hSM hs29
          have hMM : MM N N24 a a26 := MM_tr hMM hv30
          have hP : va_P D vwCl (XW x cy g N24 n25 a26 r27 ++ va_pl L f28) H := hP
          have hD : va_D _ (XW x cy g N24 n25 a26 r27 ++ va_pl L f28) := hD
          refine lv_iinc (v := nI (j1 + 1)) (lv' := [(1, .int (nI (j1 + 1))), (0, .ref (x 0))]) hx hb dX9_sufferMishaps_51 hl (k := 0) rfl (by rw [← nI_1]; rfl) (by decide) rfl (fun ls hl => ?_)
          refine lv_goto (tgt := 2) hx hb dX9_sufferMishaps_54 (by decide) ?_
          have nb0 : N24 0 ≤ 12 := hNB 0 (by decide)
          have nb1 : N24 1 ≤ 40 := hNB 1 (by decide)
          have nb2 : N24 2 ≤ 20 := hNB 2 (by decide)
          have nb3 : N24 3 ≤ 4 := hNB 3 (by decide)
          have nb4 : N24 4 ≤ 3 := hNB 4 (by decide)
          have nb5 : N24 5 ≤ 20 := hNB 5 (by decide)
          have nb6 : N24 6 ≤ 20 := hNB 6 (by decide)
          have nb7 : N24 7 ≤ 20 := hNB 7 (by decide)
          have nb8 : N24 8 ≤ 30 := hNB 8 (by decide)
          have nb9 : N24 9 ≤ 400 := hNB 9 (by decide)
          exact ihkey2 (400 - ((j1 + 1))) (by omega) ((j1 + 1)) rfl (by omega) N24 n25 a26 r27 f28  hNB hRB hHT hSM hMM _ _ _ hP hD hS (lv_sub hl [0, 1] rfl)
  have nb0 : N 0 ≤ 12 := hNB 0 (by decide)
  have nb1 : N 1 ≤ 40 := hNB 1 (by decide)
  have nb2 : N 2 ≤ 20 := hNB 2 (by decide)
  have nb3 : N 3 ≤ 4 := hNB 3 (by decide)
  have nb4 : N 4 ≤ 3 := hNB 4 (by decide)
  have nb5 : N 5 ≤ 20 := hNB 5 (by decide)
  have nb6 : N 6 ≤ 20 := hNB 6 (by decide)
  have nb7 : N 7 ≤ 20 := hNB 7 (by decide)
  have nb8 : N 8 ≤ 30 := hNB 8 (by decide)
  have nb9 : N 9 ≤ 400 := hNB 9 (by decide)
  exact key2 (400 - (0)) (0) rfl (by omega) N n a r f  hNB hRB hHT hSM hMM _ _ _ hP hD hS (lv_sub hl [0, 1] rfl)

theorem iX9_ringBell_0 : ∀ w ∈ wsX00, w ∈ wsX9_ringBell := fun _ h => List.mem_cons_of_mem _ (List.mem_append_left _ (List.mem_append_left _ (List.mem_append_left _ (List.mem_append_left _ (List.mem_append_right _ h)))))
theorem iX9_ringBell_7 : ∀ w ∈ wsX70, w ∈ wsX9_ringBell := fun _ h => List.mem_cons_of_mem _ (List.mem_append_left _ (List.mem_append_left _ (List.mem_append_left _ (List.mem_append_left _ (List.mem_append_left _ (List.mem_append_left _ (List.mem_append_right _ h)))))))
theorem iX9_ringBell_8 : ∀ w ∈ wsX80, w ∈ wsX9_ringBell := fun _ h => List.mem_cons_of_mem _ (List.mem_append_left _ (List.mem_append_left _ (List.mem_append_left _ (List.mem_append_left _ (List.mem_append_left _ (List.mem_append_right _ h))))))
theorem iX9_ringBell_9 : ∀ w ∈ wsX90, w ∈ wsX9_ringBell := fun _ h => List.mem_cons_of_mem _ (List.mem_append_left _ (List.mem_append_left _ (List.mem_append_left _ (List.mem_append_left _ (List.mem_append_left _ (List.mem_append_left _ (List.mem_append_left _ (List.mem_append_right _ h))))))))
set_option maxHeartbeats 4000000 in
set_option maxRecDepth 100000 in
theorem zX9_ringBell (l : Launch) (D : va_G) (x : Nat → Nat) (cy : Nat → ClassId) (g : Nat → Nat → Option Nat) (L : List Nat) (K : Nat → Nat) (hG : GO L K g) (N : Nat → Nat) (n : Nat → Int32) (a : Nat → Nat → Int32) (r : Nat → Nat → Option Nat) (f : Nat → va_E) (hC : CI L K cy N r f) (sz : Nat) : Met l yX9_ringBell wsX9_ringBell ({ frames := 3, cells := 0, slots := 0, locals := 69 }) (PW D (TYS cy) (XW x cy g N n a r ++ va_pl L f) sz [.ref (x 0)]) (va_Qv (fun (u : ST) => CI L K cy u.1 u.2.2.2.1 u.2.2.2.2 ∧ SM N u.1 n u.2.1 ∧ MM N u.1 a u.2.2.1 ∧ True) (BU D (TYS cy) (XW x cy g N n a r ++ va_pl L f) (WC x cy g L) sz) (va_A (XW x cy g N n a r ++ va_pl L f) sz)) 0 0 (va_A (XW x cy g N n a r ++ va_pl L f) sz) := by
  refine Met.ofW (cc := cX9_ringBell) (maxL := 3) (ret := none) (by decide) rfl ?_
  intro p e s m args below meth c s₁ B hml hv
  obtain ⟨rfl, hsz, hP, hK, hD0⟩ := hv
  have hx := B.exec
  have hb := B.bytes
  have hr := B.returns
  have hts := atoms_spec (ws := wsX9_ringBell) B.pre
  have hown : s.vm.findClass RX9 = some m.cls := findClass_of_methodNamed B.named
  have hlocks := B.notSynchronized
  subst hsz
  obtain ⟨hNB, hRB, hHT⟩ := hC
  have hSM : SM N N n n := SM_rf
  have hMM : MM N N a a := MM_rf
  have hD := hD0.self (sz := s.heap.size)
  have hA : ∀ q9 : Nat, s.heap.size ≤ q9 → va_A (XW x cy g N n a r ++ va_pl L f) s.heap.size q9 := fun q9 h => Or.inr h
  have hS : va_S (va_A (XW x cy g N n a r ++ va_pl L f) s.heap.size) s.heap s.heap [] := va_S.rf
  have hl := lv_entry ([.ref (x 0)]) (n := 3) (Nat.le_of_ble_eq_true rfl)
  rw [lg_entry_eq]
  generalize (lg_sl ([.ref (x 0)]) ++ List.replicate (3 - (lg_sl ([.ref (x 0)])).length) Slot.unset).toArray = ls at hl ⊢
  have hl : lv_has ls 3 [(0, .ref (x 0))] := hl
  refine lv_iconst (v := 0) hx hb dX9_ringBell_0 (by decide) ?_
  refine lv_istore_n (lv' := [(1, .int 0), (0, .ref (x 0))]) hx hb dX9_ringBell_1 rfl hl (by decide) rfl (fun ls hl => ?_)
  have key2 : ∀ (m9 j1 : Nat), 400 - j1 = m9 → j1 ≤ 400 → ∀ (N3 : Nat → Nat) (n4 : Nat → Int32) (a5 : Nat → Nat → Int32) (r6 : Nat → Nat → Option Nat) (f7 : Nat → va_E) , NB N3 → RB L K N3 r6 → HT L K cy f7 → SM N N3 n n4 → MM N N3 a a5 → ∀ (H : Heap) (locs : List Loc) (ls : Array Slot), va_P D vwCl (XW x cy g N3 n4 a5 r6 ++ va_pl L f7) H → va_D (va_A (XW x cy g N n a r ++ va_pl L f) s.heap.size) (XW x cy g N3 n4 a5 r6 ++ va_pl L f7) → va_S (va_A (XW x cy g N n a r ++ va_pl L f) s.heap.size) s.heap H locs → lv_has ls 3 [(1, .int (nI j1)), (0, .ref (x 0))] → W p l e (headSpec wsX9_ringBell ({ frames := 3, cells := 0, slots := 0, locals := 69 })).room s m #[.ref (x 0)] below meth c H locs 0 0 (MQ below (va_Qv (fun (u : ST) => CI L K cy u.1 u.2.2.2.1 u.2.2.2.2 ∧ SM N u.1 n u.2.1 ∧ MM N u.1 a u.2.2.1 ∧ True) (BU D (TYS cy) (XW x cy g N n a r ++ va_pl L f) (WC x cy g L) s.heap.size) (va_A (XW x cy g N n a r ++ va_pl L f) s.heap.size)) #[.ref (x 0)] s 0 0 (va_A (XW x cy g N n a r ++ va_pl L f) s.heap.size)) (F0 m 2 ls []) := by
    intro m9
    induction m9 using Nat.strongRecOn with
    | _ m9 ihkey2 =>
      intro j1 hm9 hj400 N3 n4 a5 r6 f7  hNB hRB hHT hSM hMM H locs ls hP hD hS hl
      subst hm9
      have nb0 : N3 0 ≤ 12 := hNB 0 (by decide)
      have nb1 : N3 1 ≤ 40 := hNB 1 (by decide)
      have nb2 : N3 2 ≤ 20 := hNB 2 (by decide)
      have nb3 : N3 3 ≤ 4 := hNB 3 (by decide)
      have nb4 : N3 4 ≤ 3 := hNB 4 (by decide)
      have nb5 : N3 5 ≤ 20 := hNB 5 (by decide)
      have nb6 : N3 6 ≤ 20 := hNB 6 (by decide)
      have nb7 : N3 7 ≤ 20 := hNB 7 (by decide)
      have nb8 : N3 8 ≤ 30 := hNB 8 (by decide)
      have nb9 : N3 9 ≤ 400 := hNB 9 (by decide)
      refine lv_iload_n hx hb dX9_ringBell_2 rfl (lv_at hl 0 rfl) ?_
      refine lv_aload_n hx hb dX9_ringBell_3 rfl (lv_at hl 1 rfl) ?_
      refine va_get (D := D) (ci := 9) (v := .int (nI (N3 2))) (C := RX9) (T := TX9) (N := 19) hx hb hts iX9_ringBell_9 hown hK hP 0 rfl rfl 12 (by decide) (hts (.fieldLink RX9 104 "FondsRoom" "readerCount" "I") (by decide +kernel)) (fun _ h9 => h9) rfl dX9_ringBell_4 ?_
      refine lv_icmp_ge (tgt := 40) hx hb dX9_ringBell_7 (by decide) (fun c8 => ?_) (fun c8 => ?_)
      · skip
        have dc8 : (N3 2) ≤ j1 := (nI_leI (a := (N3 2)) (b := j1) (by omega) (by omega)).mp c8
        refine lv_iconst (v := 0) hx hb dX9_ringBell_40 (by decide) ?_
        refine lv_istore_n (lv' := [(1, .int 0), (0, .ref (x 0))]) hx hb dX9_ringBell_41 rfl hl (by decide) rfl (fun ls hl => ?_)
        have key10 : ∀ (m9 j9 : Nat), 400 - j9 = m9 → j9 ≤ 400 → ∀ (N11 : Nat → Nat) (n12 : Nat → Int32) (a13 : Nat → Nat → Int32) (r14 : Nat → Nat → Option Nat) (f15 : Nat → va_E) , NB N11 → RB L K N11 r14 → HT L K cy f15 → SM N N11 n n12 → MM N N11 a a13 → ∀ (H : Heap) (locs : List Loc) (ls : Array Slot), va_P D vwCl (XW x cy g N11 n12 a13 r14 ++ va_pl L f15) H → va_D (va_A (XW x cy g N n a r ++ va_pl L f) s.heap.size) (XW x cy g N11 n12 a13 r14 ++ va_pl L f15) → va_S (va_A (XW x cy g N n a r ++ va_pl L f) s.heap.size) s.heap H locs → lv_has ls 3 [(1, .int (nI j9)), (0, .ref (x 0))] → W p l e (headSpec wsX9_ringBell ({ frames := 3, cells := 0, slots := 0, locals := 69 })).room s m #[.ref (x 0)] below meth c H locs 0 0 (MQ below (va_Qv (fun (u : ST) => CI L K cy u.1 u.2.2.2.1 u.2.2.2.2 ∧ SM N u.1 n u.2.1 ∧ MM N u.1 a u.2.2.1 ∧ True) (BU D (TYS cy) (XW x cy g N n a r ++ va_pl L f) (WC x cy g L) s.heap.size) (va_A (XW x cy g N n a r ++ va_pl L f) s.heap.size)) #[.ref (x 0)] s 0 0 (va_A (XW x cy g N n a r ++ va_pl L f) s.heap.size)) (F0 m 42 ls []) := by
          intro m9
          induction m9 using Nat.strongRecOn with
          | _ m9 ihkey10 =>
            intro j9 hm9 hj400 N11 n12 a13 r14 f15  hNB hRB hHT hSM hMM H locs ls hP hD hS hl
            subst hm9
            have nb0 : N11 0 ≤ 12 := hNB 0 (by decide)
            have nb1 : N11 1 ≤ 40 := hNB 1 (by decide)
            have nb2 : N11 2 ≤ 20 := hNB 2 (by decide)
            have nb3 : N11 3 ≤ 4 := hNB 3 (by decide)
            have nb4 : N11 4 ≤ 3 := hNB 4 (by decide)
            have nb5 : N11 5 ≤ 20 := hNB 5 (by decide)
            have nb6 : N11 6 ≤ 20 := hNB 6 (by decide)
            have nb7 : N11 7 ≤ 20 := hNB 7 (by decide)
            have nb8 : N11 8 ≤ 30 := hNB 8 (by decide)
            have nb9 : N11 9 ≤ 400 := hNB 9 (by decide)
            refine lv_iload_n hx hb dX9_ringBell_42 rfl (lv_at hl 0 rfl) ?_
            refine lv_aload_n hx hb dX9_ringBell_43 rfl (lv_at hl 1 rfl) ?_
            refine va_get (D := D) (ci := 9) (v := .ref (x 4)) (C := RX9) (T := TX9) (N := 19) hx hb hts iX9_ringBell_9 hown hK hP 0 rfl rfl 3 (by decide) (hts (.fieldLink RX9 37 "FondsRoom" "fetchers" "LFondsRoom$Staff;") (by decide +kernel)) (fun _ h9 => h9) rfl dX9_ringBell_44 ?_
            refine va_get (D := D) (ci := 7) (v := .int (nI (N11 3))) (C := RX7) (T := TX7) (N := 2) hx hb hts iX9_ringBell_7 hown hK hP 4 rfl rfl 1 (by decide) (hts (.fieldLink RX9 101 "FondsRoom$Staff" "hired" "I") (by decide +kernel)) (fun _ h9 => h9) rfl dX9_ringBell_47 ?_
            refine lv_icmp_ge (tgt := 92) hx hb dX9_ringBell_50 (by decide) (fun c16 => ?_) (fun c16 => ?_)
            · skip
              have dc16 : (N11 3) ≤ j9 := (nI_leI (a := (N11 3)) (b := j9) (by omega) (by omega)).mp c16
              exact W.vret hx hb hr (fun t ht hW => ⟨⟨(N11, n12, a13, r14, f15), rfl, ⟨⟨hNB, hRB, hHT⟩, hSM, hMM, trivial⟩, by rw [ht]; exact hP, va_K.moved hW.alike hK, hD⟩, hS.F ht⟩) hS.2.2 dX9_ringBell_92
            · skip
              have dc16 : j9 < (N11 3) := Nat.not_le.mp (fun h9 => c16 ((nI_leI (a := (N11 3)) (b := j9) (by omega) (by omega)).mpr h9))
              refine lv_aload_n hx hb dX9_ringBell_53 rfl (lv_at hl 1 rfl) ?_
              refine va_get (D := D) (ci := 9) (v := .ref (x 4)) (C := RX9) (T := TX9) (N := 19) hx hb hts iX9_ringBell_9 hown hK hP 0 rfl rfl 3 (by decide) (hts (.fieldLink RX9 37 "FondsRoom" "fetchers" "LFondsRoom$Staff;") (by decide +kernel)) (fun _ h9 => h9) rfl dX9_ringBell_54 ?_
              refine va_get (D := D) (ci := 7) (v := .ref (x 5)) (C := RX7) (T := TX7) (N := 2) hx hb hts iX9_ringBell_7 hown hK hP 4 rfl rfl 0 (by decide) (hts (.fieldLink RX9 216 "FondsRoom$Staff" "workers" "[LFondsRoom$Worker;") (by decide +kernel)) (fun _ h9 => h9) rfl dX9_ringBell_57 ?_
              refine lv_iload_n hx hb dX9_ringBell_60 rfl (lv_at hl 0 rfl) ?_
              refine va_aldq hx hb hK hP 5 5 rfl rfl (vp_in_nI (by omega) (by omega)) dX9_ringBell_61 ?_
              obtain ⟨p17, ep17, mp17, kp17⟩ := hG.2.2.2.1 j9 (by omega)
              refine lv_tov (v' := .ref p17) (by rw [nI_clamp (by omega)]; show va_rf (g 3 j9) = _; rw [ep17]; rfl) ?_
              refine lv_astore_n (lv' := [(2, .ref p17), (1, .int (nI j9)), (0, .ref (x 0))]) hx hb dX9_ringBell_62 rfl hl (by decide) rfl (fun ls hl => ?_)
              refine lv_aload_n hx hb dX9_ringBell_63 rfl (lv_at hl 0 rfl) ?_
              obtain ⟨b_o18, g_o18, l_o18, hf_o18, sb_o18, sg_o18⟩ : TE L K cy 8 (f15 p17) := by rw [← kp17]; exact hHT p17 mp17
              refine pg_get (D := D) (ci := 8) (v := va_rf b_o18) (C := RX8) (T := TX8) (N := 3) hx hb hts iX9_ringBell_8 hown hK hP mp17 hf_o18 rfl 0 (by decide) (hts (.fieldLink RX9 227 "FondsRoom$Worker" "box" "LFondsRoom$Box;") (by decide +kernel)) (fun _ h9 => h9) rfl dX9_ringBell_64 ?_
              rcases eb19 : b_o18 with _ | b19
              · skip
                subst eb19
                have hP : va_P D vwCl (XW x cy g N11 n12 a13 r14 ++ va_pl L f15) H := by assumption
                have hD : va_D (va_A (XW x cy g N n a r ++ va_pl L f) s.heap.size) (XW x cy g N11 n12 a13 r14 ++ va_pl L f15) := by assumption
                have hl : lv_has ls 3 [(2, .ref p17), (1, .int (nI j9)), (0, .ref (x 0))] := by assumption
                refine lv_ifnullN (tgt := 86) hx hb dX9_ringBell_67 (by decide) ?_
                refine lv_iinc (v := nI (j9 + 1)) (lv' := [(1, .int (nI (j9 + 1))), (2, .ref p17), (0, .ref (x 0))]) hx hb dX9_ringBell_86 hl (k := 1) rfl (by rw [← nI_1]; rfl) (by decide) rfl (fun ls hl => ?_)
                refine lv_goto (tgt := 42) hx hb dX9_ringBell_89 (by decide) ?_
                exact ihkey10 (400 - ((j9 + 1))) (by omega) ((j9 + 1)) rfl (by omega) N11 n12 a13 r14 f15  hNB hRB hHT hSM hMM _ _ _ hP hD hS (lv_sub hl [0, 2] rfl)
              · skip
                subst eb19
                have mb19 := sb_o18 b19 rfl
                have hP : va_P D vwCl (XW x cy g N11 n12 a13 r14 ++ va_pl L f15) H := by assumption
                have hD : va_D (va_A (XW x cy g N n a r ++ va_pl L f) s.heap.size) (XW x cy g N11 n12 a13 r14 ++ va_pl L f15) := by assumption
                have hl : lv_has ls 3 [(2, .ref p17), (1, .int (nI j9)), (0, .ref (x 0))] := by assumption
                refine lv_ifnull hx hb dX9_ringBell_67 ?_
                refine lv_aload_n hx hb dX9_ringBell_70 rfl (lv_at hl 0 rfl) ?_
                refine pg_get (D := D) (ci := 8) (v := .ref b19) (C := RX8) (T := TX8) (N := 3) hx hb hts iX9_ringBell_8 hown hK hP mp17 hf_o18 rfl 0 (by decide) (hts (.fieldLink RX9 227 "FondsRoom$Worker" "box" "LFondsRoom$Box;") (by decide +kernel)) (fun _ h9 => h9) rfl dX9_ringBell_71 ?_
                obtain ⟨n_o20, fo_o20, pr_o20, pl_o20, h_o20, w_o20, hf_o20, spr_o20, sh_o20, sw_o20⟩ : TE L K cy 0 (f15 b19) := by rw [← mb19.2]; exact hHT b19 mb19.1
                refine pg_get (D := D) (ci := 0) (v := .int pl_o20) (C := RX0) (T := TX0) (N := 6) hx hb hts iX9_ringBell_0 hown hK hP mb19.1 hf_o20 rfl 3 (by decide) (hts (.fieldLink RX9 233 "FondsRoom$Box" "place" "I") (by decide +kernel)) (fun _ h9 => h9) rfl dX9_ringBell_74 ?_
                refine lv_iconst (v := 3) hx hb dX9_ringBell_77 (by decide) ?_
                refine lv_icmp_ne (tgt := 86) hx hb dX9_ringBell_78 (by decide) (fun c21 => ?_) (fun c21 => ?_)
                · skip
                  refine lv_iinc (v := nI (j9 + 1)) (lv' := [(1, .int (nI (j9 + 1))), (2, .ref p17), (0, .ref (x 0))]) hx hb dX9_ringBell_86 hl (k := 1) rfl (by rw [← nI_1]; rfl) (by decide) rfl (fun ls hl => ?_)
                  refine lv_goto (tgt := 42) hx hb dX9_ringBell_89 (by decide) ?_
                  exact ihkey10 (400 - ((j9 + 1))) (by omega) ((j9 + 1)) rfl (by omega) N11 n12 a13 r14 f15  hNB hRB hHT hSM hMM _ _ _ hP hD hS (lv_sub hl [0, 2] rfl)
                · skip
                  refine lv_aload_n hx hb dX9_ringBell_81 rfl (lv_at hl 2 rfl) ?_
                  refine lv_aload_n hx hb dX9_ringBell_82 rfl (lv_at hl 0 rfl) ?_
                  refine gvV (As := [.ref p17]) (rest := []) ⟨hx, hb, hml, hown, hts⟩ (zX9_stopFetcher l D x cy g L K hG N11 n12 a13 r14 f15 ⟨hNB, hRB, hHT⟩ _ p17  ⟨mp17, kp17⟩) (cwV 1 hts gX9_ringBell_X9_stopFetcher rfl rfl rfl (by decide +kernel) ⟨Nat.le_of_ble_eq_true rfl, Nat.le_of_ble_eq_true rfl⟩) hK hP hD hS hA (va_recv hK hP (ci := 9) (q0 := 0) rfl rfl) rfl hl.1 rfl (Nat.le_of_ble_eq_true rfl) dX9_ringBell_83 ⟨Nat.le_of_ble_eq_true rfl, Nat.le_of_ble_eq_true rfl⟩ (fun u23 H locs hq22 hP hD hS => ?_)
                  obtain ⟨N24, n25, a26, r27, f28⟩ := u23
                  obtain ⟨⟨hNB, hRB, hHT⟩, hs29, hv30, hq22b⟩ := hq22
                  have hSM : SM N N24 n n25 := SM_tr hSM hs29
                  have hMM : MM N N24 a a26 := MM_tr hMM hv30
                  have hP : va_P D vwCl (XW x cy g N24 n25 a26 r27 ++ va_pl L f28) H := hP
                  have hD : va_D _ (XW x cy g N24 n25 a26 r27 ++ va_pl L f28) := hD
                  refine lv_iinc (v := nI (j9 + 1)) (lv' := [(1, .int (nI (j9 + 1))), (2, .ref p17), (0, .ref (x 0))]) hx hb dX9_ringBell_86 hl (k := 1) rfl (by rw [← nI_1]; rfl) (by decide) rfl (fun ls hl => ?_)
                  refine lv_goto (tgt := 42) hx hb dX9_ringBell_89 (by decide) ?_
                  have nb0 : N24 0 ≤ 12 := hNB 0 (by decide)
                  have nb1 : N24 1 ≤ 40 := hNB 1 (by decide)
                  have nb2 : N24 2 ≤ 20 := hNB 2 (by decide)
                  have nb3 : N24 3 ≤ 4 := hNB 3 (by decide)
                  have nb4 : N24 4 ≤ 3 := hNB 4 (by decide)
                  have nb5 : N24 5 ≤ 20 := hNB 5 (by decide)
                  have nb6 : N24 6 ≤ 20 := hNB 6 (by decide)
                  have nb7 : N24 7 ≤ 20 := hNB 7 (by decide)
                  have nb8 : N24 8 ≤ 30 := hNB 8 (by decide)
                  have nb9 : N24 9 ≤ 400 := hNB 9 (by decide)
                  exact ihkey10 (400 - ((j9 + 1))) (by omega) ((j9 + 1)) rfl (by omega) N24 n25 a26 r27 f28  hNB hRB hHT hSM hMM _ _ _ hP hD hS (lv_sub hl [0, 2] rfl)
        exact key10 (400 - (0)) (0) rfl (by omega) N3 n4 a5 r6 f7  hNB hRB hHT hSM hMM _ _ _ hP hD hS (lv_sub hl [0, 1] rfl)
      · skip
        have dc8 : j1 < (N3 2) := Nat.not_le.mp (fun h9 => c8 ((nI_leI (a := (N3 2)) (b := j1) (by omega) (by omega)).mpr h9))
        refine lv_aload_n hx hb dX9_ringBell_10 rfl (lv_at hl 1 rfl) ?_
        refine va_get (D := D) (ci := 9) (v := .ref (x 3)) (C := RX9) (T := TX9) (N := 19) hx hb hts iX9_ringBell_9 hown hK hP 0 rfl rfl 2 (by decide) (hts (.fieldLink RX9 27 "FondsRoom" "readers" "[LFondsRoom$Reader;") (by decide +kernel)) (fun _ h9 => h9) rfl dX9_ringBell_11 ?_
        refine lv_iload_n hx hb dX9_ringBell_14 rfl (lv_at hl 0 rfl) ?_
        refine va_aldq hx hb hK hP 3 4 rfl rfl (vp_in_nI (by omega) (by omega)) dX9_ringBell_15 ?_
        obtain ⟨p31, ep31, mp31, kp31⟩ := hG.2.2.1 j1 (by omega)
        refine lv_tov (v' := .ref p31) (by rw [nI_clamp (by omega)]; show va_rf (g 2 j1) = _; rw [ep31]; rfl) ?_
        refine gsI (As := [.ref p31]) (rest := []) ⟨hx, hb, hml, hown, hts⟩ (zX9_isAway l D x cy g L K hG N3 n4 a5 r6 f7 ⟨hNB, hRB, hHT⟩ _ p31  ⟨mp31, kp31⟩) (va_cwS 1 hts gX9_ringBell_X9_isAway rfl rfl rfl (by decide +kernel) ⟨Nat.le_of_ble_eq_true rfl, Nat.le_of_ble_eq_true rfl⟩) hK hP hD hS hA rfl hl.1 rfl (Nat.le_of_ble_eq_true rfl) dX9_ringBell_16 ⟨Nat.le_of_ble_eq_true rfl, Nat.le_of_ble_eq_true rfl⟩ (fun q32 u33 H locs hq32 hP hD hS => ?_)
        have hP : va_P D vwCl (XW x cy g N3 n4 a5 r6 ++ va_pl L f7) H := hP
        have hD : va_D _ (XW x cy g N3 n4 a5 r6 ++ va_pl L f7) := hD
        refine lv_if_ne (tgt := 34) hx hb dX9_ringBell_19 (by decide) (fun c34 => ?_) (fun c34 => ?_)
        · skip
          refine lv_iinc (v := nI (j1 + 1)) (lv' := [(1, .int (nI (j1 + 1))), (0, .ref (x 0))]) hx hb dX9_ringBell_34 hl (k := 0) rfl (by rw [← nI_1]; rfl) (by decide) rfl (fun ls hl => ?_)
          refine lv_goto (tgt := 2) hx hb dX9_ringBell_37 (by decide) ?_
          exact ihkey2 (400 - ((j1 + 1))) (by omega) ((j1 + 1)) rfl (by omega) N3 n4 a5 r6 f7  hNB hRB hHT hSM hMM _ _ _ hP hD hS (lv_sub hl [0, 1] rfl)
        · skip
          refine lv_aload_n hx hb dX9_ringBell_22 rfl (lv_at hl 1 rfl) ?_
          refine lv_aload_n hx hb dX9_ringBell_23 rfl (lv_at hl 1 rfl) ?_
          refine va_get (D := D) (ci := 9) (v := .ref (x 3)) (C := RX9) (T := TX9) (N := 19) hx hb hts iX9_ringBell_9 hown hK hP 0 rfl rfl 2 (by decide) (hts (.fieldLink RX9 27 "FondsRoom" "readers" "[LFondsRoom$Reader;") (by decide +kernel)) (fun _ h9 => h9) rfl dX9_ringBell_24 ?_
          refine lv_iload_n hx hb dX9_ringBell_27 rfl (lv_at hl 0 rfl) ?_
          refine va_aldq hx hb hK hP 3 4 rfl rfl (vp_in_nI (by omega) (by omega)) dX9_ringBell_28 ?_
          obtain ⟨p35, ep35, mp35, kp35⟩ := hG.2.2.1 j1 (by omega)
          refine lv_tov (v' := .ref p35) (by rw [nI_clamp (by omega)]; show va_rf (g 2 j1) = _; rw [ep35]; rfl) ?_
          refine lv_bipush (v := 6) hx hb dX9_ringBell_29 (by decide) ?_
          refine gvV (As := [.ref p35, .int 6]) (rest := []) ⟨hx, hb, hml, hown, hts⟩ (zX9_depart l D x cy g L K hG N3 n4 a5 r6 f7 ⟨hNB, hRB, hHT⟩ _ p35 6 ⟨mp35, kp35⟩) (cwV 2 hts gX9_ringBell_X9_depart rfl rfl rfl (by decide +kernel) ⟨Nat.le_of_ble_eq_true rfl, Nat.le_of_ble_eq_true rfl⟩) hK hP hD hS hA (va_recv hK hP (ci := 9) (q0 := 0) rfl rfl) rfl hl.1 rfl (Nat.le_of_ble_eq_true rfl) dX9_ringBell_31 ⟨Nat.le_of_ble_eq_true rfl, Nat.le_of_ble_eq_true rfl⟩ (fun u37 H locs hq36 hP hD hS => ?_)
          obtain ⟨N38, n39, a40, r41, f42⟩ := u37
          obtain ⟨⟨hNB, hRB, hHT⟩, hs43, hv44, hq36b⟩ := hq36
          have hSM : SM N N38 n n39 := SM_tr hSM hs43
          have hMM : MM N N38 a a40 := MM_tr hMM hv44
          have hP : va_P D vwCl (XW x cy g N38 n39 a40 r41 ++ va_pl L f42) H := hP
          have hD : va_D _ (XW x cy g N38 n39 a40 r41 ++ va_pl L f42) := hD
          refine lv_iinc (v := nI (j1 + 1)) (lv' := [(1, .int (nI (j1 + 1))), (0, .ref (x 0))]) hx hb dX9_ringBell_34 hl (k := 0) rfl (by rw [← nI_1]; rfl) (by decide) rfl (fun ls hl => ?_)
          refine lv_goto (tgt := 2) hx hb dX9_ringBell_37 (by decide) ?_
          have nb0 : N38 0 ≤ 12 := hNB 0 (by decide)
          have nb1 : N38 1 ≤ 40 := hNB 1 (by decide)
          have nb2 : N38 2 ≤ 20 := hNB 2 (by decide)
          have nb3 : N38 3 ≤ 4 := hNB 3 (by decide)
          have nb4 : N38 4 ≤ 3 := hNB 4 (by decide)
          have nb5 : N38 5 ≤ 20 := hNB 5 (by decide)
          have nb6 : N38 6 ≤ 20 := hNB 6 (by decide)
          have nb7 : N38 7 ≤ 20 := hNB 7 (by decide)
          have nb8 : N38 8 ≤ 30 := hNB 8 (by decide)
          have nb9 : N38 9 ≤ 400 := hNB 9 (by decide)
          exact ihkey2 (400 - ((j1 + 1))) (by omega) ((j1 + 1)) rfl (by omega) N38 n39 a40 r41 f42  hNB hRB hHT hSM hMM _ _ _ hP hD hS (lv_sub hl [0, 1] rfl)
  have nb0 : N 0 ≤ 12 := hNB 0 (by decide)
  have nb1 : N 1 ≤ 40 := hNB 1 (by decide)
  have nb2 : N 2 ≤ 20 := hNB 2 (by decide)
  have nb3 : N 3 ≤ 4 := hNB 3 (by decide)
  have nb4 : N 4 ≤ 3 := hNB 4 (by decide)
  have nb5 : N 5 ≤ 20 := hNB 5 (by decide)
  have nb6 : N 6 ≤ 20 := hNB 6 (by decide)
  have nb7 : N 7 ≤ 20 := hNB 7 (by decide)
  have nb8 : N 8 ≤ 30 := hNB 8 (by decide)
  have nb9 : N 9 ≤ 400 := hNB 9 (by decide)
  exact key2 (400 - (0)) (0) rfl (by omega) N n a r f  hNB hRB hHT hSM hMM _ _ _ hP hD hS (lv_sub hl [0, 1] rfl)

theorem iX9_passTurn_9 : ∀ w ∈ wsX90, w ∈ wsX9_passTurn := fun _ h => List.mem_cons_of_mem _ (List.mem_append_left _ (List.mem_append_left _ (List.mem_append_left _ (List.mem_append_left _ (List.mem_append_left _ (List.mem_append_left _ (List.mem_append_left _ (List.mem_append_left _ (List.mem_append_left _ (List.mem_append_right _ h))))))))))
set_option maxHeartbeats 4000000 in
set_option maxRecDepth 100000 in
theorem zX9_passTurn (l : Launch) (D : va_G) (x : Nat → Nat) (cy : Nat → ClassId) (g : Nat → Nat → Option Nat) (L : List Nat) (K : Nat → Nat) (hG : GO L K g) (N : Nat → Nat) (n : Nat → Int32) (a : Nat → Nat → Int32) (r : Nat → Nat → Option Nat) (f : Nat → va_E) (hC : CI L K cy N r f) (sz : Nat) : Met l yX9_passTurn wsX9_passTurn ({ frames := 5, cells := 0, slots := 0, locals := 116 }) (PW D (TYS cy) (XW x cy g N n a r ++ va_pl L f) sz [.ref (x 0)]) (va_Qv (fun (u : ST) => CI L K cy u.1 u.2.2.2.1 u.2.2.2.2 ∧ ab u.1 u.2.1 u.2.2.1 = tick (ab N n a)) (BU D (TYS cy) (XW x cy g N n a r ++ va_pl L f) (WC x cy g L) sz) (va_A (XW x cy g N n a r ++ va_pl L f) sz)) 0 0 (va_A (XW x cy g N n a r ++ va_pl L f) sz) := by
  refine Met.ofW (cc := cX9_passTurn) (maxL := 1) (ret := none) (by decide) rfl ?_
  intro p e s m args below meth c s₁ B hml hv
  obtain ⟨rfl, hsz, hP, hK, hD0⟩ := hv
  have hx := B.exec
  have hb := B.bytes
  have hr := B.returns
  have hts := atoms_spec (ws := wsX9_passTurn) B.pre
  have hown : s.vm.findClass RX9 = some m.cls := findClass_of_methodNamed B.named
  have hlocks := B.notSynchronized
  subst hsz
  obtain ⟨hNB, hRB, hHT⟩ := hC
  have hSM : SM N N n n := SM_rf
  have hMM : MM N N a a := MM_rf
  have hD := hD0.self (sz := s.heap.size)
  have hA : ∀ q9 : Nat, s.heap.size ≤ q9 → va_A (XW x cy g N n a r ++ va_pl L f) s.heap.size q9 := fun q9 h => Or.inr h
  have hS : va_S (va_A (XW x cy g N n a r ++ va_pl L f) s.heap.size) s.heap s.heap [] := va_S.rf
  have hl := lv_entry ([.ref (x 0)]) (n := 1) (Nat.le_of_ble_eq_true rfl)
  rw [lg_entry_eq]
  generalize (lg_sl ([.ref (x 0)]) ++ List.replicate (1 - (lg_sl ([.ref (x 0)])).length) Slot.unset).toArray = ls at hl ⊢
  have hl : lv_has ls 1 [(0, .ref (x 0))] := hl
  refine lv_aload_n hx hb dX9_passTurn_0 rfl (lv_at hl 0 rfl) ?_
  refine lv_dup hx hb dX9_passTurn_1 rfl ?_
  refine va_get (D := D) (ci := 9) (v := .int (n 1)) (C := RX9) (T := TX9) (N := 19) hx hb hts iX9_passTurn_9 hown hK hP 0 rfl rfl 14 (by decide) (hts (.fieldLink RX9 78 "FondsRoom" "turn" "I") (by decide +kernel)) (fun _ h9 => h9) rfl dX9_passTurn_2 ?_
  refine lv_iconst (v := 1) hx hb dX9_passTurn_5 (by decide) ?_
  refine lv_iadd hx hb dX9_passTurn_6 ?_
  refine va_put (D := D) (ci := 9) (v := .int ((n 1) + 1)) (ty := .int) (C := RX9) (T := TX9) (N := 19) hx hb hts iX9_passTurn_9 tyX9 tyX9_ok nmX9 hown hK hP hD hS 0 rfl rfl 14 (by decide) (hts (.fieldLink RX9 78 "FondsRoom" "turn" "I") (by decide +kernel)) (fun _ h9 => h9) rfl (by decide +kernel) rfl rfl (Nat.le_of_ble_eq_true rfl) dX9_passTurn_7 (fun H locs hP hD hS => ?_)
  obtain ⟨n1, en1⟩ : ∃ z, z = va_up n 1 ((n 1) + 1) := ⟨_, rfl⟩
  have hP : va_P D vwCl (XW x cy g N n1 a r ++ va_pl L f) H := by rw [en1]; exact hP
  have hD : va_D (va_A (XW x cy g N n a r ++ va_pl L f) s.heap.size) (XW x cy g N n1 a r ++ va_pl L f) := by rw [en1]; exact hD
  have hSM : SM N N n1 n1 := SM_rf
  refine lv_aload_n hx hb dX9_passTurn_10 rfl (lv_at hl 0 rfl) ?_
  refine gvV (As := []) (rest := []) ⟨hx, hb, hml, hown, hts⟩ (zX9_sufferMishaps l D x cy g L K hG N n1 a r f ⟨hNB, hRB, hHT⟩ _   ) (cwV 0 hts gX9_passTurn_X9_sufferMishaps rfl rfl rfl (by decide +kernel) ⟨Nat.le_of_ble_eq_true rfl, Nat.le_of_ble_eq_true rfl⟩) hK hP hD hS hA (va_recv hK hP (ci := 9) (q0 := 0) rfl rfl) rfl hl.1 rfl (Nat.le_of_ble_eq_true rfl) dX9_passTurn_11 ⟨Nat.le_of_ble_eq_true rfl, Nat.le_of_ble_eq_true rfl⟩ (fun u3 H locs hq2 hP hD hS => ?_)
  obtain ⟨N4, n5, a6, r7, f8⟩ := u3
  obtain ⟨⟨hNB, hRB, hHT⟩, hs9, hq2b⟩ := hq2
  have hSM : SM N N4 n1 n5 := SM_tr hSM hs9
  have hP : va_P D vwCl (XW x cy g N4 n5 a6 r7 ++ va_pl L f8) H := hP
  have hD : va_D _ (XW x cy g N4 n5 a6 r7 ++ va_pl L f8) := hD
  have hMM : MM N4 N4 a6 a6 := MM_rf
  refine lv_aload_n hx hb dX9_passTurn_14 rfl (lv_at hl 0 rfl) ?_
  refine va_get (D := D) (ci := 9) (v := .int (n5 1)) (C := RX9) (T := TX9) (N := 19) hx hb hts iX9_passTurn_9 hown hK hP 0 rfl rfl 14 (by decide) (hts (.fieldLink RX9 78 "FondsRoom" "turn" "I") (by decide +kernel)) (fun _ h9 => h9) rfl dX9_passTurn_15 ?_
  refine lv_aload_n hx hb dX9_passTurn_18 rfl (lv_at hl 0 rfl) ?_
  refine va_get (D := D) (ci := 9) (v := .int (n5 2)) (C := RX9) (T := TX9) (N := 19) hx hb hts iX9_passTurn_9 hown hK hP 0 rfl rfl 15 (by decide) (hts (.fieldLink RX9 75 "FondsRoom" "bellTurn" "I") (by decide +kernel)) (fun _ h9 => h9) rfl dX9_passTurn_19 ?_
  refine lv_icmp_ne (tgt := 29) hx hb dX9_passTurn_22 (by decide) (fun c11 => ?_) (fun c11 => ?_)
  · skip
    refine lv_aload_n hx hb dX9_passTurn_29 rfl (lv_at hl 0 rfl) ?_
    refine gvV (As := []) (rest := []) ⟨hx, hb, hml, hown, hts⟩ (zX9_fetchersWalk l D x cy g L K hG N4 n5 a6 r7 f8 ⟨hNB, hRB, hHT⟩ _   ) (cwV 0 hts gX9_passTurn_X9_fetchersWalk rfl rfl rfl (by decide +kernel) ⟨Nat.le_of_ble_eq_true rfl, Nat.le_of_ble_eq_true rfl⟩) hK hP hD hS hA (va_recv hK hP (ci := 9) (q0 := 0) rfl rfl) rfl hl.1 rfl (Nat.le_of_ble_eq_true rfl) dX9_passTurn_30 ⟨Nat.le_of_ble_eq_true rfl, Nat.le_of_ble_eq_true rfl⟩ (fun u13 H locs hq12 hP hD hS => ?_)
    obtain ⟨N14, n15, a16, r17, f18⟩ := u13
    obtain ⟨⟨hNB, hRB, hHT⟩, hs19, hv20, hq12b⟩ := hq12
    have hSM : SM N N14 n1 n15 := SM_tr hSM hs19
    have hMM : MM N4 N14 a6 a16 := MM_tr hMM hv20
    have hP : va_P D vwCl (XW x cy g N14 n15 a16 r17 ++ va_pl L f18) H := hP
    have hD : va_D _ (XW x cy g N14 n15 a16 r17 ++ va_pl L f18) := hD
    refine lv_aload_n hx hb dX9_passTurn_33 rfl (lv_at hl 0 rfl) ?_
    refine gvV (As := []) (rest := []) ⟨hx, hb, hml, hown, hts⟩ (zX9_copyistsWork l D x cy g L K hG N14 n15 a16 r17 f18 ⟨hNB, hRB, hHT⟩ _   ) (cwV 0 hts gX9_passTurn_X9_copyistsWork rfl rfl rfl (by decide +kernel) ⟨Nat.le_of_ble_eq_true rfl, Nat.le_of_ble_eq_true rfl⟩) hK hP hD hS hA (va_recv hK hP (ci := 9) (q0 := 0) rfl rfl) rfl hl.1 rfl (Nat.le_of_ble_eq_true rfl) dX9_passTurn_34 ⟨Nat.le_of_ble_eq_true rfl, Nat.le_of_ble_eq_true rfl⟩ (fun u22 H locs hq21 hP hD hS => ?_)
    obtain ⟨N23, n24, a25, r26, f27⟩ := u22
    obtain ⟨⟨hNB, hRB, hHT⟩, hs28, hv29, hq21b⟩ := hq21
    have hSM : SM N N23 n1 n24 := SM_tr hSM hs28
    have hMM : MM N4 N23 a6 a25 := MM_tr hMM hv29
    have hP : va_P D vwCl (XW x cy g N23 n24 a25 r26 ++ va_pl L f27) H := hP
    have hD : va_D _ (XW x cy g N23 n24 a25 r26 ++ va_pl L f27) := hD
    refine lv_aload_n hx hb dX9_passTurn_37 rfl (lv_at hl 0 rfl) ?_
    refine gvV (As := []) (rest := []) ⟨hx, hb, hml, hown, hts⟩ (zX9_readersRead l D x cy g L K hG N23 n24 a25 r26 f27 ⟨hNB, hRB, hHT⟩ _   ) (cwV 0 hts gX9_passTurn_X9_readersRead rfl rfl rfl (by decide +kernel) ⟨Nat.le_of_ble_eq_true rfl, Nat.le_of_ble_eq_true rfl⟩) hK hP hD hS hA (va_recv hK hP (ci := 9) (q0 := 0) rfl rfl) rfl hl.1 rfl (Nat.le_of_ble_eq_true rfl) dX9_passTurn_38 ⟨Nat.le_of_ble_eq_true rfl, Nat.le_of_ble_eq_true rfl⟩ (fun u31 H locs hq30 hP hD hS => ?_)
    obtain ⟨N32, n33, a34, r35, f36⟩ := u31
    obtain ⟨⟨hNB, hRB, hHT⟩, hs37, hv38, hq30b⟩ := hq30
    have hSM : SM N N32 n1 n33 := SM_tr hSM hs37
    have hMM : MM N4 N32 a6 a34 := MM_tr hMM hv38
    have hP : va_P D vwCl (XW x cy g N32 n33 a34 r35 ++ va_pl L f36) H := hP
    have hD : va_D _ (XW x cy g N32 n33 a34 r35 ++ va_pl L f36) := hD
    refine lv_aload_n hx hb dX9_passTurn_41 rfl (lv_at hl 0 rfl) ?_
    refine gvV (As := []) (rest := []) ⟨hx, hb, hml, hown, hts⟩ (zX9_readersGoOn l D x cy g L K hG N32 n33 a34 r35 f36 ⟨hNB, hRB, hHT⟩ _   ) (cwV 0 hts gX9_passTurn_X9_readersGoOn rfl rfl rfl (by decide +kernel) ⟨Nat.le_of_ble_eq_true rfl, Nat.le_of_ble_eq_true rfl⟩) hK hP hD hS hA (va_recv hK hP (ci := 9) (q0 := 0) rfl rfl) rfl hl.1 rfl (Nat.le_of_ble_eq_true rfl) dX9_passTurn_42 ⟨Nat.le_of_ble_eq_true rfl, Nat.le_of_ble_eq_true rfl⟩ (fun u40 H locs hq39 hP hD hS => ?_)
    obtain ⟨N41, n42, a43, r44, f45⟩ := u40
    obtain ⟨⟨hNB, hRB, hHT⟩, hs46, hv47, hq39b⟩ := hq39
    have hSM : SM N N41 n1 n42 := SM_tr hSM hs46
    have hMM : MM N4 N41 a6 a43 := MM_tr hMM hv47
    have hP : va_P D vwCl (XW x cy g N41 n42 a43 r44 ++ va_pl L f45) H := hP
    have hD : va_D _ (XW x cy g N41 n42 a43 r44 ++ va_pl L f45) := hD
    refine lv_aload_n hx hb dX9_passTurn_45 rfl (lv_at hl 0 rfl) ?_
    refine gvV (As := []) (rest := []) ⟨hx, hb, hml, hown, hts⟩ (zX9_readersCome l D x cy g L K hG N41 n42 a43 r44 f45 ⟨hNB, hRB, hHT⟩ _   ) (cwV 0 hts gX9_passTurn_X9_readersCome rfl rfl rfl (by decide +kernel) ⟨Nat.le_of_ble_eq_true rfl, Nat.le_of_ble_eq_true rfl⟩) hK hP hD hS hA (va_recv hK hP (ci := 9) (q0 := 0) rfl rfl) rfl hl.1 rfl (Nat.le_of_ble_eq_true rfl) dX9_passTurn_46 ⟨Nat.le_of_ble_eq_true rfl, Nat.le_of_ble_eq_true rfl⟩ (fun u49 H locs hq48 hP hD hS => ?_)
    obtain ⟨N50, n51, a52, r53, f54⟩ := u49
    obtain ⟨⟨hNB, hRB, hHT⟩, hs55, hv56, hq48b⟩ := hq48
    have hSM : SM N N50 n1 n51 := SM_tr hSM hs55
    have hMM : MM N4 N50 a6 a52 := MM_tr hMM hv56
    have hP : va_P D vwCl (XW x cy g N50 n51 a52 r53 ++ va_pl L f54) H := hP
    have hD : va_D _ (XW x cy g N50 n51 a52 r53 ++ va_pl L f54) := hD
    refine lv_aload_n hx hb dX9_passTurn_49 rfl (lv_at hl 0 rfl) ?_
    refine gvV (As := []) (rest := []) ⟨hx, hb, hml, hown, hts⟩ (zX9_giveDesks l D x cy g L K hG N50 n51 a52 r53 f54 ⟨hNB, hRB, hHT⟩ _   ) (cwV 0 hts gX9_passTurn_X9_giveDesks rfl rfl rfl (by decide +kernel) ⟨Nat.le_of_ble_eq_true rfl, Nat.le_of_ble_eq_true rfl⟩) hK hP hD hS hA (va_recv hK hP (ci := 9) (q0 := 0) rfl rfl) rfl hl.1 rfl (Nat.le_of_ble_eq_true rfl) dX9_passTurn_50 ⟨Nat.le_of_ble_eq_true rfl, Nat.le_of_ble_eq_true rfl⟩ (fun u58 H locs hq57 hP hD hS => ?_)
    obtain ⟨N59, n60, a61, r62, f63⟩ := u58
    obtain ⟨⟨hNB, hRB, hHT⟩, hs64, hv65, hq57b⟩ := hq57
    have hSM : SM N N59 n1 n60 := SM_tr hSM hs64
    have hMM : MM N4 N59 a6 a61 := MM_tr hMM hv65
    have hP : va_P D vwCl (XW x cy g N59 n60 a61 r62 ++ va_pl L f63) H := hP
    have hD : va_D _ (XW x cy g N59 n60 a61 r62 ++ va_pl L f63) := hD
    refine lv_aload_n hx hb dX9_passTurn_53 rfl (lv_at hl 0 rfl) ?_
    refine gvV (As := []) (rest := []) ⟨hx, hb, hml, hown, hts⟩ (zX9_sendFetchers l D x cy g L K hG N59 n60 a61 r62 f63 ⟨hNB, hRB, hHT⟩ _   ) (cwV 0 hts gX9_passTurn_X9_sendFetchers rfl rfl rfl (by decide +kernel) ⟨Nat.le_of_ble_eq_true rfl, Nat.le_of_ble_eq_true rfl⟩) hK hP hD hS hA (va_recv hK hP (ci := 9) (q0 := 0) rfl rfl) rfl hl.1 rfl (Nat.le_of_ble_eq_true rfl) dX9_passTurn_54 ⟨Nat.le_of_ble_eq_true rfl, Nat.le_of_ble_eq_true rfl⟩ (fun u67 H locs hq66 hP hD hS => ?_)
    obtain ⟨N68, n69, a70, r71, f72⟩ := u67
    obtain ⟨⟨hNB, hRB, hHT⟩, hs73, hv74, hq66b⟩ := hq66
    have hSM : SM N N68 n1 n69 := SM_tr hSM hs73
    have hMM : MM N4 N68 a6 a70 := MM_tr hMM hv74
    have hP : va_P D vwCl (XW x cy g N68 n69 a70 r71 ++ va_pl L f72) H := hP
    have hD : va_D _ (XW x cy g N68 n69 a70 r71 ++ va_pl L f72) := hD
    refine lv_aload_n hx hb dX9_passTurn_57 rfl (lv_at hl 0 rfl) ?_
    refine gvV (As := []) (rest := []) ⟨hx, hb, hml, hown, hts⟩ (zX9_beginCopies l D x cy g L K hG N68 n69 a70 r71 f72 ⟨hNB, hRB, hHT⟩ _   ) (cwV 0 hts gX9_passTurn_X9_beginCopies rfl rfl rfl (by decide +kernel) ⟨Nat.le_of_ble_eq_true rfl, Nat.le_of_ble_eq_true rfl⟩) hK hP hD hS hA (va_recv hK hP (ci := 9) (q0 := 0) rfl rfl) rfl hl.1 rfl (Nat.le_of_ble_eq_true rfl) dX9_passTurn_58 ⟨Nat.le_of_ble_eq_true rfl, Nat.le_of_ble_eq_true rfl⟩ (fun u76 H locs hq75 hP hD hS => ?_)
    obtain ⟨N77, n78, a79, r80, f81⟩ := u76
    obtain ⟨⟨hNB, hRB, hHT⟩, hs82, hv83, hq75b⟩ := hq75
    have hSM : SM N N77 n1 n78 := SM_tr hSM hs82
    have hMM : MM N4 N77 a6 a79 := MM_tr hMM hv83
    have hP : va_P D vwCl (XW x cy g N77 n78 a79 r80 ++ va_pl L f81) H := hP
    have hD : va_D _ (XW x cy g N77 n78 a79 r80 ++ va_pl L f81) := hD
    refine lv_aload_n hx hb dX9_passTurn_61 rfl (lv_at hl 0 rfl) ?_
    refine gvV (As := []) (rest := []) ⟨hx, hb, hml, hown, hts⟩ (zX9_countWaiting l D x cy g L K hG N77 n78 a79 r80 f81 ⟨hNB, hRB, hHT⟩ _   ) (cwV 0 hts gX9_passTurn_X9_countWaiting rfl rfl rfl (by decide +kernel) ⟨Nat.le_of_ble_eq_true rfl, Nat.le_of_ble_eq_true rfl⟩) hK hP hD hS hA (va_recv hK hP (ci := 9) (q0 := 0) rfl rfl) rfl hl.1 rfl (Nat.le_of_ble_eq_true rfl) dX9_passTurn_62 ⟨Nat.le_of_ble_eq_true rfl, Nat.le_of_ble_eq_true rfl⟩ (fun u85 H locs hq84 hP hD hS => ?_)
    obtain ⟨N86, n87, a88, r89, f90⟩ := u85
    obtain ⟨⟨hNB, hRB, hHT⟩, hs91, hv92, hq84b⟩ := hq84
    have hSM : SM N N86 n1 n87 := SM_tr hSM hs91
    have hMM : MM N4 N86 a6 a88 := MM_tr hMM hv92
    have hP : va_P D vwCl (XW x cy g N86 n87 a88 r89 ++ va_pl L f90) H := hP
    have hD : va_D _ (XW x cy g N86 n87 a88 r89 ++ va_pl L f90) := hD
    exact W.vret hx hb hr (fun t ht hW => ⟨⟨(N86, n87, a88, r89, f90), rfl, ⟨⟨hNB, hRB, hHT⟩, (tick_of (N := N) (n := n) (a := a) hSM.1 (hSM.2.1.trans (by rw [en1]; exact va_up_self _ _ _)) (hSM.2.2.trans (by rw [en1]; exact va_up_ne _ _ (by decide))) (by show ml (a88 0) (N86 8) = _; rw [hMM.1, hMM.2]; exact hq2b.trans (by rw [show n1 1 = n 1 + 1 from (by rw [en1]; exact va_up_self _ _ _)])))⟩, by rw [ht]; exact hP, va_K.moved hW.alike hK, hD⟩, hS.F ht⟩) hS.2.2 dX9_passTurn_65
  · skip
    refine lv_aload_n hx hb dX9_passTurn_25 rfl (lv_at hl 0 rfl) ?_
    refine gvV (As := []) (rest := []) ⟨hx, hb, hml, hown, hts⟩ (zX9_ringBell l D x cy g L K hG N4 n5 a6 r7 f8 ⟨hNB, hRB, hHT⟩ _   ) (cwV 0 hts gX9_passTurn_X9_ringBell rfl rfl rfl (by decide +kernel) ⟨Nat.le_of_ble_eq_true rfl, Nat.le_of_ble_eq_true rfl⟩) hK hP hD hS hA (va_recv hK hP (ci := 9) (q0 := 0) rfl rfl) rfl hl.1 rfl (Nat.le_of_ble_eq_true rfl) dX9_passTurn_26 ⟨Nat.le_of_ble_eq_true rfl, Nat.le_of_ble_eq_true rfl⟩ (fun u94 H locs hq93 hP hD hS => ?_)
    obtain ⟨N95, n96, a97, r98, f99⟩ := u94
    obtain ⟨⟨hNB, hRB, hHT⟩, hs100, hv101, hq93b⟩ := hq93
    have hSM : SM N N95 n1 n96 := SM_tr hSM hs100
    have hMM : MM N4 N95 a6 a97 := MM_tr hMM hv101
    have hP : va_P D vwCl (XW x cy g N95 n96 a97 r98 ++ va_pl L f99) H := hP
    have hD : va_D _ (XW x cy g N95 n96 a97 r98 ++ va_pl L f99) := hD
    refine lv_aload_n hx hb dX9_passTurn_29 rfl (lv_at hl 0 rfl) ?_
    refine gvV (As := []) (rest := []) ⟨hx, hb, hml, hown, hts⟩ (zX9_fetchersWalk l D x cy g L K hG N95 n96 a97 r98 f99 ⟨hNB, hRB, hHT⟩ _   ) (cwV 0 hts gX9_passTurn_X9_fetchersWalk rfl rfl rfl (by decide +kernel) ⟨Nat.le_of_ble_eq_true rfl, Nat.le_of_ble_eq_true rfl⟩) hK hP hD hS hA (va_recv hK hP (ci := 9) (q0 := 0) rfl rfl) rfl hl.1 rfl (Nat.le_of_ble_eq_true rfl) dX9_passTurn_30 ⟨Nat.le_of_ble_eq_true rfl, Nat.le_of_ble_eq_true rfl⟩ (fun u103 H locs hq102 hP hD hS => ?_)
    obtain ⟨N104, n105, a106, r107, f108⟩ := u103
    obtain ⟨⟨hNB, hRB, hHT⟩, hs109, hv110, hq102b⟩ := hq102
    have hSM : SM N N104 n1 n105 := SM_tr hSM hs109
    have hMM : MM N4 N104 a6 a106 := MM_tr hMM hv110
    have hP : va_P D vwCl (XW x cy g N104 n105 a106 r107 ++ va_pl L f108) H := hP
    have hD : va_D _ (XW x cy g N104 n105 a106 r107 ++ va_pl L f108) := hD
    refine lv_aload_n hx hb dX9_passTurn_33 rfl (lv_at hl 0 rfl) ?_
    refine gvV (As := []) (rest := []) ⟨hx, hb, hml, hown, hts⟩ (zX9_copyistsWork l D x cy g L K hG N104 n105 a106 r107 f108 ⟨hNB, hRB, hHT⟩ _   ) (cwV 0 hts gX9_passTurn_X9_copyistsWork rfl rfl rfl (by decide +kernel) ⟨Nat.le_of_ble_eq_true rfl, Nat.le_of_ble_eq_true rfl⟩) hK hP hD hS hA (va_recv hK hP (ci := 9) (q0 := 0) rfl rfl) rfl hl.1 rfl (Nat.le_of_ble_eq_true rfl) dX9_passTurn_34 ⟨Nat.le_of_ble_eq_true rfl, Nat.le_of_ble_eq_true rfl⟩ (fun u112 H locs hq111 hP hD hS => ?_)
    obtain ⟨N113, n114, a115, r116, f117⟩ := u112
    obtain ⟨⟨hNB, hRB, hHT⟩, hs118, hv119, hq111b⟩ := hq111
    have hSM : SM N N113 n1 n114 := SM_tr hSM hs118
    have hMM : MM N4 N113 a6 a115 := MM_tr hMM hv119
    have hP : va_P D vwCl (XW x cy g N113 n114 a115 r116 ++ va_pl L f117) H := hP
    have hD : va_D _ (XW x cy g N113 n114 a115 r116 ++ va_pl L f117) := hD
    refine lv_aload_n hx hb dX9_passTurn_37 rfl (lv_at hl 0 rfl) ?_
    refine gvV (As := []) (rest := []) ⟨hx, hb, hml, hown, hts⟩ (zX9_readersRead l D x cy g L K hG N113 n114 a115 r116 f117 ⟨hNB, hRB, hHT⟩ _   ) (cwV 0 hts gX9_passTurn_X9_readersRead rfl rfl rfl (by decide +kernel) ⟨Nat.le_of_ble_eq_true rfl, Nat.le_of_ble_eq_true rfl⟩) hK hP hD hS hA (va_recv hK hP (ci := 9) (q0 := 0) rfl rfl) rfl hl.1 rfl (Nat.le_of_ble_eq_true rfl) dX9_passTurn_38 ⟨Nat.le_of_ble_eq_true rfl, Nat.le_of_ble_eq_true rfl⟩ (fun u121 H locs hq120 hP hD hS => ?_)
    obtain ⟨N122, n123, a124, r125, f126⟩ := u121
    obtain ⟨⟨hNB, hRB, hHT⟩, hs127, hv128, hq120b⟩ := hq120
    have hSM : SM N N122 n1 n123 := SM_tr hSM hs127
    have hMM : MM N4 N122 a6 a124 := MM_tr hMM hv128
    have hP : va_P D vwCl (XW x cy g N122 n123 a124 r125 ++ va_pl L f126) H := hP
    have hD : va_D _ (XW x cy g N122 n123 a124 r125 ++ va_pl L f126) := hD
    refine lv_aload_n hx hb dX9_passTurn_41 rfl (lv_at hl 0 rfl) ?_
    refine gvV (As := []) (rest := []) ⟨hx, hb, hml, hown, hts⟩ (zX9_readersGoOn l D x cy g L K hG N122 n123 a124 r125 f126 ⟨hNB, hRB, hHT⟩ _   ) (cwV 0 hts gX9_passTurn_X9_readersGoOn rfl rfl rfl (by decide +kernel) ⟨Nat.le_of_ble_eq_true rfl, Nat.le_of_ble_eq_true rfl⟩) hK hP hD hS hA (va_recv hK hP (ci := 9) (q0 := 0) rfl rfl) rfl hl.1 rfl (Nat.le_of_ble_eq_true rfl) dX9_passTurn_42 ⟨Nat.le_of_ble_eq_true rfl, Nat.le_of_ble_eq_true rfl⟩ (fun u130 H locs hq129 hP hD hS => ?_)
    obtain ⟨N131, n132, a133, r134, f135⟩ := u130
    obtain ⟨⟨hNB, hRB, hHT⟩, hs136, hv137, hq129b⟩ := hq129
    have hSM : SM N N131 n1 n132 := SM_tr hSM hs136
    have hMM : MM N4 N131 a6 a133 := MM_tr hMM hv137
    have hP : va_P D vwCl (XW x cy g N131 n132 a133 r134 ++ va_pl L f135) H := hP
    have hD : va_D _ (XW x cy g N131 n132 a133 r134 ++ va_pl L f135) := hD
    refine lv_aload_n hx hb dX9_passTurn_45 rfl (lv_at hl 0 rfl) ?_
    refine gvV (As := []) (rest := []) ⟨hx, hb, hml, hown, hts⟩ (zX9_readersCome l D x cy g L K hG N131 n132 a133 r134 f135 ⟨hNB, hRB, hHT⟩ _   ) (cwV 0 hts gX9_passTurn_X9_readersCome rfl rfl rfl (by decide +kernel) ⟨Nat.le_of_ble_eq_true rfl, Nat.le_of_ble_eq_true rfl⟩) hK hP hD hS hA (va_recv hK hP (ci := 9) (q0 := 0) rfl rfl) rfl hl.1 rfl (Nat.le_of_ble_eq_true rfl) dX9_passTurn_46 ⟨Nat.le_of_ble_eq_true rfl, Nat.le_of_ble_eq_true rfl⟩ (fun u139 H locs hq138 hP hD hS => ?_)
    obtain ⟨N140, n141, a142, r143, f144⟩ := u139
    obtain ⟨⟨hNB, hRB, hHT⟩, hs145, hv146, hq138b⟩ := hq138
    have hSM : SM N N140 n1 n141 := SM_tr hSM hs145
    have hMM : MM N4 N140 a6 a142 := MM_tr hMM hv146
    have hP : va_P D vwCl (XW x cy g N140 n141 a142 r143 ++ va_pl L f144) H := hP
    have hD : va_D _ (XW x cy g N140 n141 a142 r143 ++ va_pl L f144) := hD
    refine lv_aload_n hx hb dX9_passTurn_49 rfl (lv_at hl 0 rfl) ?_
    refine gvV (As := []) (rest := []) ⟨hx, hb, hml, hown, hts⟩ (zX9_giveDesks l D x cy g L K hG N140 n141 a142 r143 f144 ⟨hNB, hRB, hHT⟩ _   ) (cwV 0 hts gX9_passTurn_X9_giveDesks rfl rfl rfl (by decide +kernel) ⟨Nat.le_of_ble_eq_true rfl, Nat.le_of_ble_eq_true rfl⟩) hK hP hD hS hA (va_recv hK hP (ci := 9) (q0 := 0) rfl rfl) rfl hl.1 rfl (Nat.le_of_ble_eq_true rfl) dX9_passTurn_50 ⟨Nat.le_of_ble_eq_true rfl, Nat.le_of_ble_eq_true rfl⟩ (fun u148 H locs hq147 hP hD hS => ?_)
    obtain ⟨N149, n150, a151, r152, f153⟩ := u148
    obtain ⟨⟨hNB, hRB, hHT⟩, hs154, hv155, hq147b⟩ := hq147
    have hSM : SM N N149 n1 n150 := SM_tr hSM hs154
    have hMM : MM N4 N149 a6 a151 := MM_tr hMM hv155
    have hP : va_P D vwCl (XW x cy g N149 n150 a151 r152 ++ va_pl L f153) H := hP
    have hD : va_D _ (XW x cy g N149 n150 a151 r152 ++ va_pl L f153) := hD
    refine lv_aload_n hx hb dX9_passTurn_53 rfl (lv_at hl 0 rfl) ?_
    refine gvV (As := []) (rest := []) ⟨hx, hb, hml, hown, hts⟩ (zX9_sendFetchers l D x cy g L K hG N149 n150 a151 r152 f153 ⟨hNB, hRB, hHT⟩ _   ) (cwV 0 hts gX9_passTurn_X9_sendFetchers rfl rfl rfl (by decide +kernel) ⟨Nat.le_of_ble_eq_true rfl, Nat.le_of_ble_eq_true rfl⟩) hK hP hD hS hA (va_recv hK hP (ci := 9) (q0 := 0) rfl rfl) rfl hl.1 rfl (Nat.le_of_ble_eq_true rfl) dX9_passTurn_54 ⟨Nat.le_of_ble_eq_true rfl, Nat.le_of_ble_eq_true rfl⟩ (fun u157 H locs hq156 hP hD hS => ?_)
    obtain ⟨N158, n159, a160, r161, f162⟩ := u157
    obtain ⟨⟨hNB, hRB, hHT⟩, hs163, hv164, hq156b⟩ := hq156
    have hSM : SM N N158 n1 n159 := SM_tr hSM hs163
    have hMM : MM N4 N158 a6 a160 := MM_tr hMM hv164
    have hP : va_P D vwCl (XW x cy g N158 n159 a160 r161 ++ va_pl L f162) H := hP
    have hD : va_D _ (XW x cy g N158 n159 a160 r161 ++ va_pl L f162) := hD
    refine lv_aload_n hx hb dX9_passTurn_57 rfl (lv_at hl 0 rfl) ?_
    refine gvV (As := []) (rest := []) ⟨hx, hb, hml, hown, hts⟩ (zX9_beginCopies l D x cy g L K hG N158 n159 a160 r161 f162 ⟨hNB, hRB, hHT⟩ _   ) (cwV 0 hts gX9_passTurn_X9_beginCopies rfl rfl rfl (by decide +kernel) ⟨Nat.le_of_ble_eq_true rfl, Nat.le_of_ble_eq_true rfl⟩) hK hP hD hS hA (va_recv hK hP (ci := 9) (q0 := 0) rfl rfl) rfl hl.1 rfl (Nat.le_of_ble_eq_true rfl) dX9_passTurn_58 ⟨Nat.le_of_ble_eq_true rfl, Nat.le_of_ble_eq_true rfl⟩ (fun u166 H locs hq165 hP hD hS => ?_)
    obtain ⟨N167, n168, a169, r170, f171⟩ := u166
    obtain ⟨⟨hNB, hRB, hHT⟩, hs172, hv173, hq165b⟩ := hq165
    have hSM : SM N N167 n1 n168 := SM_tr hSM hs172
    have hMM : MM N4 N167 a6 a169 := MM_tr hMM hv173
    have hP : va_P D vwCl (XW x cy g N167 n168 a169 r170 ++ va_pl L f171) H := hP
    have hD : va_D _ (XW x cy g N167 n168 a169 r170 ++ va_pl L f171) := hD
    refine lv_aload_n hx hb dX9_passTurn_61 rfl (lv_at hl 0 rfl) ?_
    refine gvV (As := []) (rest := []) ⟨hx, hb, hml, hown, hts⟩ (zX9_countWaiting l D x cy g L K hG N167 n168 a169 r170 f171 ⟨hNB, hRB, hHT⟩ _   ) (cwV 0 hts gX9_passTurn_X9_countWaiting rfl rfl rfl (by decide +kernel) ⟨Nat.le_of_ble_eq_true rfl, Nat.le_of_ble_eq_true rfl⟩) hK hP hD hS hA (va_recv hK hP (ci := 9) (q0 := 0) rfl rfl) rfl hl.1 rfl (Nat.le_of_ble_eq_true rfl) dX9_passTurn_62 ⟨Nat.le_of_ble_eq_true rfl, Nat.le_of_ble_eq_true rfl⟩ (fun u175 H locs hq174 hP hD hS => ?_)
    obtain ⟨N176, n177, a178, r179, f180⟩ := u175
    obtain ⟨⟨hNB, hRB, hHT⟩, hs181, hv182, hq174b⟩ := hq174
    have hSM : SM N N176 n1 n177 := SM_tr hSM hs181
    have hMM : MM N4 N176 a6 a178 := MM_tr hMM hv182
    have hP : va_P D vwCl (XW x cy g N176 n177 a178 r179 ++ va_pl L f180) H := hP
    have hD : va_D _ (XW x cy g N176 n177 a178 r179 ++ va_pl L f180) := hD
    exact W.vret hx hb hr (fun t ht hW => ⟨⟨(N176, n177, a178, r179, f180), rfl, ⟨⟨hNB, hRB, hHT⟩, (tick_of (N := N) (n := n) (a := a) hSM.1 (hSM.2.1.trans (by rw [en1]; exact va_up_self _ _ _)) (hSM.2.2.trans (by rw [en1]; exact va_up_ne _ _ (by decide))) (by show ml (a178 0) (N176 8) = _; rw [hMM.1, hMM.2]; exact hq2b.trans (by rw [show n1 1 = n 1 + 1 from (by rw [en1]; exact va_up_self _ _ _)])))⟩, by rw [ht]; exact hP, va_K.moved hW.alike hK, hD⟩, hS.F ht⟩) hS.2.2 dX9_passTurn_65
