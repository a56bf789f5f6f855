theorem iX10_event_10 : ∀ w ∈ wsX100, w ∈ wsX10_event := fun _ h => List.mem_cons_of_mem _ (List.mem_append_right _ h)
set_option maxHeartbeats 8000000 in
set_option maxRecDepth 100000 in
theorem zX10_event (l : Launch) (D : va_G) (y : Nat → Nat) (cy : Nat → ClassId) (S0 : RS) (sz : Nat) (p1 p2 p3 p4 : Int32) (Sf : RS) (hF : gX10_event S0 p1 p2 p3 p4 = some Sf) : Met l yX10_event wsX10_event ({ frames := 0, cells := 0, slots := 0, locals := 0 }) (PW D (TYS cy) (YW y cy S0) sz [.ref (y 0), .int p1, .int p2, .int p3, .int p4]) (va_Qv (fun (u : Unit) => True) (BU D (TYS cy) (YW y cy S0) (fun _ => YW y cy Sf) sz) (va_A (YW y cy S0) sz)) 0 0 (va_A (YW y cy S0) sz) := by
  refine Met.ofW (cc := cX10_event) (maxL := 5) (ret := none) (by decide) rfl ?_
  intro p e s m args below meth c s₁ B hml hv
  obtain ⟨rfl, hsz, hP, hK, hD0⟩ := hv
  have hx := B.exec
  have hb := B.bytes
  have hr := B.returns
  have hts := atoms_spec (ws := wsX10_event) B.pre
  have hown : s.vm.findClass RX10 = some m.cls := findClass_of_methodNamed B.named
  have hlocks := B.notSynchronized
  subst hsz
  have hD := hD0.self (sz := s.heap.size)
  have hA : ∀ q9 : Nat, s.heap.size ≤ q9 → va_A (YW y cy S0) s.heap.size q9 := fun q9 h => Or.inr h
  have hS : va_S (va_A (YW y cy S0) s.heap.size) s.heap s.heap [] := va_S.rf
  have hl := lv_entry ([.ref (y 0), .int p1, .int p2, .int p3, .int p4]) (n := 5) (Nat.le_of_ble_eq_true rfl)
  rw [lg_entry_eq]
  generalize (lg_sl ([.ref (y 0), .int p1, .int p2, .int p3, .int p4]) ++ List.replicate (5 - (lg_sl ([.ref (y 0), .int p1, .int p2, .int p3, .int p4])).length) Slot.unset).toArray = ls at hl ⊢
  have hl : lv_has ls 5 [(0, .ref (y 0)), (1, .int p1), (2, .int p2), (3, .int p3), (4, .int p4)] := hl
  unfold gX10_event at hF
  refine lv_aload_n hx hb dX10_event_0 rfl (lv_at hl 0 rfl) ?_
  refine va_get (D := D) (ci := 10) (v := .int (S0 0 47)) (C := RX10) (T := TX10) (N := 58) hx hb hts iX10_event_10 hown hK hP 0 rfl rfl 47 (by decide) (hts (.fieldLink RX10 186 "FondsRoomModel" "events" "I") (List.mem_of_getElem? (i := 1) rfl)) (fun _ h9 => h9) rfl dX10_event_1 ?_
  refine lv_sipush (v := 400) hx hb dX10_event_4 (by decide) ?_
  refine lv_icmp_ne (tgt := 11) hx hb dX10_event_7 (by decide) (fun c1 => ?_) (fun c1 => ?_)
  · skip
    have hF := (if_neg c1).symm.trans hF
    refine lv_aload_n hx hb dX10_event_11 rfl (lv_at hl 0 rfl) ?_
    refine va_get (D := D) (ci := 10) (v := .ref (y 35)) (C := RX10) (T := TX10) (N := 58) hx hb hts iX10_event_10 hown hK hP 0 rfl rfl 48 (by decide) (hts (.fieldLink RX10 126 "FondsRoomModel" "eTurn" "[I") (List.mem_of_getElem? (i := 2) rfl)) (fun _ h9 => h9) rfl dX10_event_12 ?_
    refine lv_aload_n hx hb dX10_event_15 rfl (lv_at hl 0 rfl) ?_
    refine va_get (D := D) (ci := 10) (v := .int (S0 0 47)) (C := RX10) (T := TX10) (N := 58) hx hb hts iX10_event_10 hown hK hP 0 rfl rfl 47 (by decide) (hts (.fieldLink RX10 186 "FondsRoomModel" "events" "I") (List.mem_of_getElem? (i := 1) rfl)) (fun _ h9 => h9) rfl dX10_event_16 ?_
    refine lv_aload_n hx hb dX10_event_19 rfl (lv_at hl 0 rfl) ?_
    refine va_get (D := D) (ci := 10) (v := .int (S0 0 4)) (C := RX10) (T := TX10) (N := 58) hx hb hts iX10_event_10 hown hK hP 0 rfl rfl 4 (by decide) (hts (.fieldLink RX10 163 "FondsRoomModel" "turn" "I") (List.mem_of_getElem? (i := 3) rfl)) (fun _ h9 => h9) rfl dX10_event_20 ?_
    obtain ⟨hi2, hF⟩ := sv_s hF
    refine va_iast hx hb hK hP hD hS 35 0 rfl rfl hi2 dX10_event_23 (fun H locs hP hD hS => ?_)
    obtain ⟨S3, eS3⟩ : ∃ z, z = wr S0 35 ((S0 0 47) : Int32).toNatClampNeg (S0 0 4) := ⟨_, rfl⟩
    replace hF := hF S3 eS3
    have hP : va_P D vwCl (YW y cy S3) H := by rw [eS3]; exact hP
    have hD : va_D (va_A (YW y cy S0) s.heap.size) (YW y cy S3) := by rw [eS3]; exact hD
    refine lv_aload_n hx hb dX10_event_24 rfl (lv_at hl 0 rfl) ?_
    refine va_get (D := D) (ci := 10) (v := .ref (y 36)) (C := RX10) (T := TX10) (N := 58) hx hb hts iX10_event_10 hown hK hP 0 rfl rfl 49 (by decide) (hts (.fieldLink RX10 129 "FondsRoomModel" "eReader" "[I") (List.mem_of_getElem? (i := 4) rfl)) (fun _ h9 => h9) rfl dX10_event_25 ?_
    refine lv_aload_n hx hb dX10_event_28 rfl (lv_at hl 0 rfl) ?_
    refine va_get (D := D) (ci := 10) (v := .int (S3 0 47)) (C := RX10) (T := TX10) (N := 58) hx hb hts iX10_event_10 hown hK hP 0 rfl rfl 47 (by decide) (hts (.fieldLink RX10 186 "FondsRoomModel" "events" "I") (List.mem_of_getElem? (i := 1) rfl)) (fun _ h9 => h9) rfl dX10_event_29 ?_
    refine lv_iload_n hx hb dX10_event_32 rfl (lv_at hl 1 rfl) ?_
    obtain ⟨hi4, hF⟩ := sv_s hF
    refine va_iast hx hb hK hP hD hS 36 0 rfl rfl hi4 dX10_event_33 (fun H locs hP hD hS => ?_)
    obtain ⟨S5, eS5⟩ : ∃ z, z = wr S3 36 ((S3 0 47) : Int32).toNatClampNeg p1 := ⟨_, rfl⟩
    replace hF := hF S5 eS5
    have hP : va_P D vwCl (YW y cy S5) H := by rw [eS5]; exact hP
    have hD : va_D (va_A (YW y cy S0) s.heap.size) (YW y cy S5) := by rw [eS5]; exact hD
    refine lv_aload_n hx hb dX10_event_34 rfl (lv_at hl 0 rfl) ?_
    refine va_get (D := D) (ci := 10) (v := .ref (y 37)) (C := RX10) (T := TX10) (N := 58) hx hb hts iX10_event_10 hown hK hP 0 rfl rfl 50 (by decide) (hts (.fieldLink RX10 132 "FondsRoomModel" "eWhat" "[I") (List.mem_of_getElem? (i := 5) rfl)) (fun _ h9 => h9) rfl dX10_event_35 ?_
    refine lv_aload_n hx hb dX10_event_38 rfl (lv_at hl 0 rfl) ?_
    refine va_get (D := D) (ci := 10) (v := .int (S5 0 47)) (C := RX10) (T := TX10) (N := 58) hx hb hts iX10_event_10 hown hK hP 0 rfl rfl 47 (by decide) (hts (.fieldLink RX10 186 "FondsRoomModel" "events" "I") (List.mem_of_getElem? (i := 1) rfl)) (fun _ h9 => h9) rfl dX10_event_39 ?_
    refine lv_iload_n hx hb dX10_event_42 rfl (lv_at hl 2 rfl) ?_
    obtain ⟨hi6, hF⟩ := sv_s hF
    refine va_iast hx hb hK hP hD hS 37 0 rfl rfl hi6 dX10_event_43 (fun H locs hP hD hS => ?_)
    obtain ⟨S7, eS7⟩ : ∃ z, z = wr S5 37 ((S5 0 47) : Int32).toNatClampNeg p2 := ⟨_, rfl⟩
    replace hF := hF S7 eS7
    have hP : va_P D vwCl (YW y cy S7) H := by rw [eS7]; exact hP
    have hD : va_D (va_A (YW y cy S0) s.heap.size) (YW y cy S7) := by rw [eS7]; exact hD
    refine lv_aload_n hx hb dX10_event_44 rfl (lv_at hl 0 rfl) ?_
    refine va_get (D := D) (ci := 10) (v := .ref (y 38)) (C := RX10) (T := TX10) (N := 58) hx hb hts iX10_event_10 hown hK hP 0 rfl rfl 51 (by decide) (hts (.fieldLink RX10 135 "FondsRoomModel" "eNumber" "[I") (List.mem_of_getElem? (i := 6) rfl)) (fun _ h9 => h9) rfl dX10_event_45 ?_
    refine lv_aload_n hx hb dX10_event_48 rfl (lv_at hl 0 rfl) ?_
    refine va_get (D := D) (ci := 10) (v := .int (S7 0 47)) (C := RX10) (T := TX10) (N := 58) hx hb hts iX10_event_10 hown hK hP 0 rfl rfl 47 (by decide) (hts (.fieldLink RX10 186 "FondsRoomModel" "events" "I") (List.mem_of_getElem? (i := 1) rfl)) (fun _ h9 => h9) rfl dX10_event_49 ?_
    refine lv_iload_n hx hb dX10_event_52 rfl (lv_at hl 3 rfl) ?_
    obtain ⟨hi8, hF⟩ := sv_s hF
    refine va_iast hx hb hK hP hD hS 38 0 rfl rfl hi8 dX10_event_53 (fun H locs hP hD hS => ?_)
    obtain ⟨S9, eS9⟩ : ∃ z, z = wr S7 38 ((S7 0 47) : Int32).toNatClampNeg p3 := ⟨_, rfl⟩
    replace hF := hF S9 eS9
    have hP : va_P D vwCl (YW y cy S9) H := by rw [eS9]; exact hP
    have hD : va_D (va_A (YW y cy S0) s.heap.size) (YW y cy S9) := by rw [eS9]; exact hD
    refine lv_aload_n hx hb dX10_event_54 rfl (lv_at hl 0 rfl) ?_
    refine lv_dup hx hb dX10_event_55 rfl ?_
    refine va_get (D := D) (ci := 10) (v := .int (S9 0 47)) (C := RX10) (T := TX10) (N := 58) hx hb hts iX10_event_10 hown hK hP 0 rfl rfl 47 (by decide) (hts (.fieldLink RX10 186 "FondsRoomModel" "events" "I") (List.mem_of_getElem? (i := 1) rfl)) (fun _ h9 => h9) rfl dX10_event_56 ?_
    refine lv_iconst (v := 1) hx hb dX10_event_59 (by decide) ?_
    refine lv_iadd hx hb dX10_event_60 ?_
    refine va_put (D := D) (ci := 10) (v := .int ((S9 0 47) + 1)) (ty := .int) (C := RX10) (T := TX10) (N := 58) hx hb hts iX10_event_10 tyX10 tyX10_ok nmX10 hown hK hP hD hS 0 rfl rfl 47 (by decide) (hts (.fieldLink RX10 186 "FondsRoomModel" "events" "I") (List.mem_of_getElem? (i := 1) rfl)) (fun _ h9 => h9) rfl (by decide +kernel) rfl rfl (Nat.le_of_ble_eq_true rfl) dX10_event_61 (fun H locs hP hD hS => ?_)
    obtain ⟨S10, eS10⟩ : ∃ z, z = wr S9 0 47 ((S9 0 47) + 1) := ⟨_, rfl⟩
    replace hF := bnd_s hF S10 eS10
    have hP : va_P D vwCl (YW y cy S10) H := by rw [eS10]; exact hP
    have hD : va_D (va_A (YW y cy S0) s.heap.size) (YW y cy S10) := by rw [eS10]; exact hD
    have e2 := Option.some.inj hF
    have hP : va_P D vwCl (YW y cy Sf) H := by rw [← e2]; exact hP
    have hD : va_D (va_A (YW y cy S0) s.heap.size) (YW y cy Sf) := by rw [← e2]; exact hD
    exact W.vret hx hb hr (fun t ht hW => ⟨⟨(), rfl, trivial, by rw [ht]; exact hP, va_K.moved hW.alike hK, hD⟩, hS.F ht⟩) hS.2.2 dX10_event_64
  · skip
    have hF := (if_pos c1).symm.trans hF
    have e2 := Option.some.inj hF
    have hP : va_P D vwCl (YW y cy Sf) s.heap := by rw [← e2]; exact hP
    have hD : va_D (va_A (YW y cy S0) s.heap.size) (YW y cy Sf) := by rw [← e2]; exact hD
    exact W.vret hx hb hr (fun t ht hW => ⟨⟨(), rfl, trivial, by rw [ht]; exact hP, va_K.moved hW.alike hK, hD⟩, hS.F ht⟩) hS.2.2 dX10_event_10

theorem iX10_hasMany_10 : ∀ w ∈ wsX100, w ∈ wsX10_hasMany := fun _ h => List.mem_cons_of_mem _ (List.mem_append_right _ h)
set_option maxHeartbeats 8000000 in
set_option maxRecDepth 100000 in
theorem zX10_hasMany (l : Launch) (D : va_G) (y : Nat → Nat) (cy : Nat → ClassId) (S : RS) (sz : Nat) (p1 : Int32) (rv : Int32) (hF : gX10_hasMany S p1 = some rv) : Met l yX10_hasMany wsX10_hasMany ({ frames := 0, cells := 0, slots := 0, locals := 0 }) (PW D (TYS cy) (YW y cy S) sz [.ref (y 0), .int p1]) (va_Qi (fun (res : Int32) (u : Unit) => res = rv) (BU D (TYS cy) (YW y cy S) (fun _ => YW y cy S) sz) (va_A (YW y cy S) sz)) 0 0 (va_A (YW y cy S) sz) := by
  refine Met.ofW (cc := cX10_hasMany) (maxL := 4) (ret := (some .int)) (by decide) rfl ?_
  intro p e s m args below meth c s₁ B hml hv
  obtain ⟨rfl, hsz, hP, hK, hD0⟩ := hv
  have hx := B.exec
  have hb := B.bytes
  have hr := B.returns
  have hts := atoms_spec (ws := wsX10_hasMany) B.pre
  have hown : s.vm.findClass RX10 = some m.cls := findClass_of_methodNamed B.named
  have hlocks := B.notSynchronized
  subst hsz
  have hD := hD0.self (sz := s.heap.size)
  have hA : ∀ q9 : Nat, s.heap.size ≤ q9 → va_A (YW y cy S) s.heap.size q9 := fun q9 h => Or.inr h
  have hS : va_S (va_A (YW y cy S) s.heap.size) s.heap s.heap [] := va_S.rf
  have key4 : ∀ (K : Int32 → Option (Int32)), (∀ (v2 : Int32) (H : Heap) (locs : List Loc) (ls : Array Slot), K v2 = some rv → va_P D vwCl (YW y cy S) H → va_D (va_A (YW y cy S) s.heap.size) (YW y cy S) → va_S (va_A (YW y cy S) s.heap.size) s.heap H locs → lv_has ls 4 [(2, .int v2)] → W p l e (headSpec wsX10_hasMany ({ frames := 0, cells := 0, slots := 0, locals := 0 })).room s m #[.ref (y 0), .int p1] below meth c H locs 0 0 (MQ below (va_Qi (fun (res : Int32) (u : Unit) => res = rv) (BU D (TYS cy) (YW y cy S) (fun _ => YW y cy S) s.heap.size) (va_A (YW y cy S) s.heap.size)) #[.ref (y 0), .int p1] s 0 0 (va_A (YW y cy S) s.heap.size)) (F0 m 36 ls [])) → ∀ (fu : Nat) (v1 : Int32) (v2 : Int32) (v3 : Int32) (H : Heap) (locs : List Loc) (ls : Array Slot), gX10_hasMany_4 S K fu v1 v2 v3 = some rv → va_P D vwCl (YW y cy S) H → va_D (va_A (YW y cy S) s.heap.size) (YW y cy S) → va_S (va_A (YW y cy S) s.heap.size) s.heap H locs → lv_has ls 4 [(1, .int v1), (2, .int v2), (3, .int v3), (0, .ref (y 0))] → W p l e (headSpec wsX10_hasMany ({ frames := 0, cells := 0, slots := 0, locals := 0 })).room s m #[.ref (y 0), .int p1] below meth c H locs 0 0 (MQ below (va_Qi (fun (res : Int32) (u : Unit) => res = rv) (BU D (TYS cy) (YW y cy S) (fun _ => YW y cy S) s.heap.size) (va_A (YW y cy S) s.heap.size)) #[.ref (y 0), .int p1] s 0 0 (va_A (YW y cy S) s.heap.size)) (F0 m 4 ls []) := by
    intro K hKK fu
    induction fu with
    | zero =>
      intro v1 v2 v3 H locs ls hF
      exact absurd (show (none : Option (Int32)) = some rv from hF) (by simp)
    | succ fu4 ih4 =>
      intro v1 v2 v3 H locs ls hF hP hD hS hl
      rw [gX10_hasMany_4] at hF
      refine lv_iload_n hx hb dX10_hasMany_4 rfl (lv_at hl 2 rfl) ?_
      refine lv_aload_n hx hb dX10_hasMany_5 rfl (lv_at hl 3 rfl) ?_
      refine va_get (D := D) (ci := 10) (v := .int (S 0 2)) (C := RX10) (T := TX10) (N := 58) hx hb hts iX10_hasMany_10 hown hK hP 0 rfl rfl 2 (by decide) (hts (.fieldLink RX10 160 "FondsRoomModel" "boxes" "I") (List.mem_of_getElem? (i := 1) rfl)) (fun _ h9 => h9) rfl dX10_hasMany_6 ?_
      refine lv_icmp_ge (tgt := 36) hx hb dX10_hasMany_9 (by decide) (fun c1 => ?_) (fun c1 => ?_)
      · skip
        have hF := (if_pos c1).symm.trans hF
        exact hKK v2  _ _ _ hF hP hD hS (lv_sub hl [1] rfl)
      · skip
        have hF := (if_neg c1).symm.trans hF
        refine lv_iload_n hx hb dX10_hasMany_12 rfl (lv_at hl 1 rfl) ?_
        refine lv_aload_n hx hb dX10_hasMany_13 rfl (lv_at hl 3 rfl) ?_
        refine va_get (D := D) (ci := 10) (v := .ref (y 6)) (C := RX10) (T := TX10) (N := 58) hx hb hts iX10_hasMany_10 hown hK hP 0 rfl rfl 14 (by decide) (hts (.fieldLink RX10 39 "FondsRoomModel" "has" "[I") (List.mem_of_getElem? (i := 2) rfl)) (fun _ h9 => h9) rfl dX10_hasMany_14 ?_
        refine lv_iload_n hx hb dX10_hasMany_17 rfl (lv_at hl 2 rfl) ?_
        obtain ⟨hi3, hF⟩ := ld_s hF
        refine va_iald hx hb hK hP 6 0 rfl rfl hi3 dX10_hasMany_18 ?_
        refine lv_topi (fun y2 ey2 => ?_)
        replace hF := hF y2 ey2
        refine lv_iload_n hx hb dX10_hasMany_19 rfl (lv_at hl 0 rfl) ?_
        refine lv_icmp_ne (tgt := 27) hx hb dX10_hasMany_20 (by decide) (fun c4 => ?_) (fun c4 => ?_)
        · skip
          have hF := (if_neg c4).symm.trans hF
          refine lv_iconst (v := 0) hx hb dX10_hasMany_27 (by decide) ?_
          refine lv_iadd hx hb dX10_hasMany_28 ?_
          refine lv_istore_n (lv' := [(2, .int (v2 + 0)), (1, .int v1), (3, .int v3), (0, .ref (y 0))]) hx hb dX10_hasMany_29 rfl hl (by decide) rfl (fun ls hl => ?_)
          refine lv_iinc (v := v3 + 1) (lv' := [(3, .int (v3 + 1)), (2, .int (v2 + 0)), (1, .int v1), (0, .ref (y 0))]) hx hb dX10_hasMany_30 hl (k := 2) rfl rfl (by decide) rfl (fun ls hl => ?_)
          refine lv_goto (tgt := 4) hx hb dX10_hasMany_33 (by decide) ?_
          exact ih4 v1 (v2 + 0) (v3 + 1)  _ _ _ hF hP hD hS (lv_sub hl [2, 1, 0, 3] rfl)
        · skip
          have hF := (if_pos c4).symm.trans hF
          refine lv_iconst (v := 1) hx hb dX10_hasMany_23 (by decide) ?_
          refine lv_goto (tgt := 28) hx hb dX10_hasMany_24 (by decide) ?_
          refine lv_iadd hx hb dX10_hasMany_28 ?_
          refine lv_istore_n (lv' := [(2, .int (v2 + 1)), (1, .int v1), (3, .int v3), (0, .ref (y 0))]) hx hb dX10_hasMany_29 rfl hl (by decide) rfl (fun ls hl => ?_)
          refine lv_iinc (v := v3 + 1) (lv' := [(3, .int (v3 + 1)), (2, .int (v2 + 1)), (1, .int v1), (0, .ref (y 0))]) hx hb dX10_hasMany_30 hl (k := 2) rfl rfl (by decide) rfl (fun ls hl => ?_)
          refine lv_goto (tgt := 4) hx hb dX10_hasMany_33 (by decide) ?_
          exact ih4 v1 (v2 + 1) (v3 + 1)  _ _ _ hF hP hD hS (lv_sub hl [2, 1, 0, 3] rfl)
  have hl := lv_entry ([.ref (y 0), .int p1]) (n := 4) (Nat.le_of_ble_eq_true rfl)
  rw [lg_entry_eq]
  generalize (lg_sl ([.ref (y 0), .int p1]) ++ List.replicate (4 - (lg_sl ([.ref (y 0), .int p1])).length) Slot.unset).toArray = ls at hl ⊢
  have hl : lv_has ls 4 [(0, .ref (y 0)), (1, .int p1)] := hl
  unfold gX10_hasMany at hF
  refine lv_iconst (v := 0) hx hb dX10_hasMany_0 (by decide) ?_
  refine lv_istore_n (lv' := [(2, .int 0), (0, .ref (y 0)), (1, .int p1)]) hx hb dX10_hasMany_1 rfl hl (by decide) rfl (fun ls hl => ?_)
  refine lv_iconst (v := 0) hx hb dX10_hasMany_2 (by decide) ?_
  refine lv_istore_n (lv' := [(3, .int 0), (2, .int 0), (0, .ref (y 0)), (1, .int p1)]) hx hb dX10_hasMany_3 rfl hl (by decide) rfl (fun ls hl => ?_)
  refine key4 _ ?_ 1000 p1 0 0  _ _ _ hF hP hD hS (lv_sub hl [3, 1, 0, 2] rfl)
  intro v2_5 H locs ls hF hP hD hS hl
  refine lv_iload_n hx hb dX10_hasMany_36 rfl (lv_at hl 0 rfl) ?_
  have e1 := Option.some.inj hF
  exact W.iret (v := v2_5) hx hb hr (fun t ht hW => ⟨⟨v2_5, (), rfl, e1, by rw [ht]; exact hP, va_K.moved hW.alike hK, hD⟩, hS.F ht⟩) hS.2.2 dX10_hasMany_37

theorem iX10_freeDesk_10 : ∀ w ∈ wsX100, w ∈ wsX10_freeDesk := fun _ h => List.mem_cons_of_mem _ (List.mem_append_right _ h)
set_option maxHeartbeats 8000000 in
set_option maxRecDepth 100000 in
theorem zX10_freeDesk (l : Launch) (D : va_G) (y : Nat → Nat) (cy : Nat → ClassId) (S0 : RS) (sz : Nat) (p1 : Int32) (Sf : RS) (hF : gX10_freeDesk S0 p1 = some Sf) : Met l yX10_freeDesk wsX10_freeDesk ({ frames := 0, cells := 0, slots := 0, locals := 0 }) (PW D (TYS cy) (YW y cy S0) sz [.ref (y 0), .int p1]) (va_Qv (fun (u : Unit) => True) (BU D (TYS cy) (YW y cy S0) (fun _ => YW y cy Sf) sz) (va_A (YW y cy S0) sz)) 0 0 (va_A (YW y cy S0) sz) := by
  refine Met.ofW (cc := cX10_freeDesk) (maxL := 2) (ret := none) (by decide) rfl ?_
  intro p e s m args below meth c s₁ B hml hv
  obtain ⟨rfl, hsz, hP, hK, hD0⟩ := hv
  have hx := B.exec
  have hb := B.bytes
  have hr := B.returns
  have hts := atoms_spec (ws := wsX10_freeDesk) B.pre
  have hown : s.vm.findClass RX10 = some m.cls := findClass_of_methodNamed B.named
  have hlocks := B.notSynchronized
  subst hsz
  have hD := hD0.self (sz := s.heap.size)
  have hA : ∀ q9 : Nat, s.heap.size ≤ q9 → va_A (YW y cy S0) s.heap.size q9 := fun q9 h => Or.inr h
  have hS : va_S (va_A (YW y cy S0) s.heap.size) s.heap s.heap [] := va_S.rf
  have hl := lv_entry ([.ref (y 0), .int p1]) (n := 2) (Nat.le_of_ble_eq_true rfl)
  rw [lg_entry_eq]
  generalize (lg_sl ([.ref (y 0), .int p1]) ++ List.replicate (2 - (lg_sl ([.ref (y 0), .int p1])).length) Slot.unset).toArray = ls at hl ⊢
  have hl : lv_has ls 2 [(0, .ref (y 0)), (1, .int p1)] := hl
  unfold gX10_freeDesk at hF
  refine lv_aload_n hx hb dX10_freeDesk_0 rfl (lv_at hl 0 rfl) ?_
  refine va_get (D := D) (ci := 10) (v := .ref (y 16)) (C := RX10) (T := TX10) (N := 58) hx hb hts iX10_freeDesk_10 hown hK hP 0 rfl rfl 28 (by decide) (hts (.fieldLink RX10 69 "FondsRoomModel" "desk" "[I") (List.mem_of_getElem? (i := 1) rfl)) (fun _ h9 => h9) rfl dX10_freeDesk_1 ?_
  refine lv_iload_n hx hb dX10_freeDesk_4 rfl (lv_at hl 1 rfl) ?_
  obtain ⟨hi2, hF⟩ := ld_s hF
  refine va_iald hx hb hK hP 16 0 rfl rfl hi2 dX10_freeDesk_5 ?_
  refine lv_topi (fun y1 ey1 => ?_)
  replace hF := hF y1 ey1
  refine lv_iconst (v := (-1)) hx hb dX10_freeDesk_6 (by decide) ?_
  refine lv_icmp_eq (tgt := 22) hx hb dX10_freeDesk_7 (by decide) (fun c3 => ?_) (fun c3 => ?_)
  · skip
    have hF := (if_pos c3).symm.trans hF
    refine lv_aload_n hx hb dX10_freeDesk_22 rfl (lv_at hl 0 rfl) ?_
    refine va_get (D := D) (ci := 10) (v := .ref (y 16)) (C := RX10) (T := TX10) (N := 58) hx hb hts iX10_freeDesk_10 hown hK hP 0 rfl rfl 28 (by decide) (hts (.fieldLink RX10 69 "FondsRoomModel" "desk" "[I") (List.mem_of_getElem? (i := 1) rfl)) (fun _ h9 => h9) rfl dX10_freeDesk_23 ?_
    refine lv_iload_n hx hb dX10_freeDesk_26 rfl (lv_at hl 1 rfl) ?_
    refine lv_iconst (v := (-1)) hx hb dX10_freeDesk_27 (by decide) ?_
    obtain ⟨hi4, hF⟩ := sv_s hF
    refine va_iast hx hb hK hP hD hS 16 0 rfl rfl hi4 dX10_freeDesk_28 (fun H locs hP hD hS => ?_)
    obtain ⟨S5, eS5⟩ : ∃ z, z = wr S0 16 (p1 : Int32).toNatClampNeg (-1) := ⟨_, rfl⟩
    replace hF := hF S5 eS5
    have hP : va_P D vwCl (YW y cy S5) H := by rw [eS5]; exact hP
    have hD : va_D (va_A (YW y cy S0) s.heap.size) (YW y cy S5) := by rw [eS5]; exact hD
    have e2 := Option.some.inj hF
    have hP : va_P D vwCl (YW y cy Sf) H := by rw [← e2]; exact hP
    have hD : va_D (va_A (YW y cy S0) s.heap.size) (YW y cy Sf) := by rw [← e2]; exact hD
    exact W.vret hx hb hr (fun t ht hW => ⟨⟨(), rfl, trivial, by rw [ht]; exact hP, va_K.moved hW.alike hK, hD⟩, hS.F ht⟩) hS.2.2 dX10_freeDesk_29
  · skip
    have hF := (if_neg c3).symm.trans hF
    refine lv_aload_n hx hb dX10_freeDesk_10 rfl (lv_at hl 0 rfl) ?_
    refine va_get (D := D) (ci := 10) (v := .ref (y 2)) (C := RX10) (T := TX10) (N := 58) hx hb hts iX10_freeDesk_10 hown hK hP 0 rfl rfl 10 (by decide) (hts (.fieldLink RX10 26 "FondsRoomModel" "sitter" "[I") (List.mem_of_getElem? (i := 2) rfl)) (fun _ h9 => h9) rfl dX10_freeDesk_11 ?_
    refine lv_aload_n hx hb dX10_freeDesk_14 rfl (lv_at hl 0 rfl) ?_
    refine va_get (D := D) (ci := 10) (v := .ref (y 16)) (C := RX10) (T := TX10) (N := 58) hx hb hts iX10_freeDesk_10 hown hK hP 0 rfl rfl 28 (by decide) (hts (.fieldLink RX10 69 "FondsRoomModel" "desk" "[I") (List.mem_of_getElem? (i := 1) rfl)) (fun _ h9 => h9) rfl dX10_freeDesk_15 ?_
    refine lv_iload_n hx hb dX10_freeDesk_18 rfl (lv_at hl 1 rfl) ?_
    obtain ⟨hi7, hF⟩ := ld_s hF
    refine va_iald hx hb hK hP 16 0 rfl rfl hi7 dX10_freeDesk_19 ?_
    refine lv_topi (fun y6 ey6 => ?_)
    replace hF := hF y6 ey6
    refine lv_iconst (v := (-1)) hx hb dX10_freeDesk_20 (by decide) ?_
    obtain ⟨hi8, hF⟩ := sv_s hF
    refine va_iast hx hb hK hP hD hS 2 0 rfl rfl hi8 dX10_freeDesk_21 (fun H locs hP hD hS => ?_)
    obtain ⟨S9, eS9⟩ : ∃ z, z = wr S0 2 (y6 : Int32).toNatClampNeg (-1) := ⟨_, rfl⟩
    replace hF := hF S9 eS9
    have hP : va_P D vwCl (YW y cy S9) H := by rw [eS9]; exact hP
    have hD : va_D (va_A (YW y cy S0) s.heap.size) (YW y cy S9) := by rw [eS9]; exact hD
    refine lv_aload_n hx hb dX10_freeDesk_22 rfl (lv_at hl 0 rfl) ?_
    refine va_get (D := D) (ci := 10) (v := .ref (y 16)) (C := RX10) (T := TX10) (N := 58) hx hb hts iX10_freeDesk_10 hown hK hP 0 rfl rfl 28 (by decide) (hts (.fieldLink RX10 69 "FondsRoomModel" "desk" "[I") (List.mem_of_getElem? (i := 1) rfl)) (fun _ h9 => h9) rfl dX10_freeDesk_23 ?_
    refine lv_iload_n hx hb dX10_freeDesk_26 rfl (lv_at hl 1 rfl) ?_
    refine lv_iconst (v := (-1)) hx hb dX10_freeDesk_27 (by decide) ?_
    obtain ⟨hi10, hF⟩ := sv_s hF
    refine va_iast hx hb hK hP hD hS 16 0 rfl rfl hi10 dX10_freeDesk_28 (fun H locs hP hD hS => ?_)
    obtain ⟨S11, eS11⟩ : ∃ z, z = wr S9 16 (p1 : Int32).toNatClampNeg (-1) := ⟨_, rfl⟩
    replace hF := hF S11 eS11
    have hP : va_P D vwCl (YW y cy S11) H := by rw [eS11]; exact hP
    have hD : va_D (va_A (YW y cy S0) s.heap.size) (YW y cy S11) := by rw [eS11]; exact hD
    have e2 := Option.some.inj hF
    have hP : va_P D vwCl (YW y cy Sf) H := by rw [← e2]; exact hP
    have hD : va_D (va_A (YW y cy S0) s.heap.size) (YW y cy Sf) := by rw [← e2]; exact hD
    exact W.vret hx hb hr (fun t ht hW => ⟨⟨(), rfl, trivial, by rw [ht]; exact hP, va_K.moved hW.alike hK, hD⟩, hS.F ht⟩) hS.2.2 dX10_freeDesk_29

theorem iX10_isLeft_10 : ∀ w ∈ wsX100, w ∈ wsX10_isLeft := fun _ h => List.mem_cons_of_mem _ (List.mem_append_right _ h)
set_option maxHeartbeats 8000000 in
set_option maxRecDepth 100000 in
theorem zX10_isLeft (l : Launch) (D : va_G) (y : Nat → Nat) (cy : Nat → ClassId) (S0 : RS) (sz : Nat) (p1 : Int32) (Sf : RS) (hF : gX10_isLeft S0 p1 = some Sf) : Met l yX10_isLeft wsX10_isLeft ({ frames := 0, cells := 0, slots := 0, locals := 0 }) (PW D (TYS cy) (YW y cy S0) sz [.ref (y 0), .int p1]) (va_Qv (fun (u : Unit) => True) (BU D (TYS cy) (YW y cy S0) (fun _ => YW y cy Sf) sz) (va_A (YW y cy S0) sz)) 0 0 (va_A (YW y cy S0) sz) := by
  refine Met.ofW (cc := cX10_isLeft) (maxL := 2) (ret := none) (by decide) rfl ?_
  intro p e s m args below meth c s₁ B hml hv
  obtain ⟨rfl, hsz, hP, hK, hD0⟩ := hv
  have hx := B.exec
  have hb := B.bytes
  have hr := B.returns
  have hts := atoms_spec (ws := wsX10_isLeft) B.pre
  have hown : s.vm.findClass RX10 = some m.cls := findClass_of_methodNamed B.named
  have hlocks := B.notSynchronized
  subst hsz
  have hD := hD0.self (sz := s.heap.size)
  have hA : ∀ q9 : Nat, s.heap.size ≤ q9 → va_A (YW y cy S0) s.heap.size q9 := fun q9 h => Or.inr h
  have hS : va_S (va_A (YW y cy S0) s.heap.size) s.heap s.heap [] := va_S.rf
  have hl := lv_entry ([.ref (y 0), .int p1]) (n := 2) (Nat.le_of_ble_eq_true rfl)
  rw [lg_entry_eq]
  generalize (lg_sl ([.ref (y 0), .int p1]) ++ List.replicate (2 - (lg_sl ([.ref (y 0), .int p1])).length) Slot.unset).toArray = ls at hl ⊢
  have hl : lv_has ls 2 [(0, .ref (y 0)), (1, .int p1)] := hl
  unfold gX10_isLeft at hF
  refine lv_aload_n hx hb dX10_isLeft_0 rfl (lv_at hl 0 rfl) ?_
  refine va_get (D := D) (ci := 10) (v := .ref (y 5)) (C := RX10) (T := TX10) (N := 58) hx hb hts iX10_isLeft_10 hown hK hP 0 rfl rfl 13 (by decide) (hts (.fieldLink RX10 36 "FondsRoomModel" "place" "[I") (List.mem_of_getElem? (i := 1) rfl)) (fun _ h9 => h9) rfl dX10_isLeft_1 ?_
  refine lv_iload_n hx hb dX10_isLeft_4 rfl (lv_at hl 1 rfl) ?_
  refine lv_iconst (v := 2) hx hb dX10_isLeft_5 (by decide) ?_
  obtain ⟨hi1, hF⟩ := sv_s hF
  refine va_iast hx hb hK hP hD hS 5 0 rfl rfl hi1 dX10_isLeft_6 (fun H locs hP hD hS => ?_)
  obtain ⟨S2, eS2⟩ : ∃ z, z = wr S0 5 (p1 : Int32).toNatClampNeg 2 := ⟨_, rfl⟩
  replace hF := hF S2 eS2
  have hP : va_P D vwCl (YW y cy S2) H := by rw [eS2]; exact hP
  have hD : va_D (va_A (YW y cy S0) s.heap.size) (YW y cy S2) := by rw [eS2]; exact hD
  refine lv_aload_n hx hb dX10_isLeft_7 rfl (lv_at hl 0 rfl) ?_
  refine va_get (D := D) (ci := 10) (v := .ref (y 6)) (C := RX10) (T := TX10) (N := 58) hx hb hts iX10_isLeft_10 hown hK hP 0 rfl rfl 14 (by decide) (hts (.fieldLink RX10 39 "FondsRoomModel" "has" "[I") (List.mem_of_getElem? (i := 2) rfl)) (fun _ h9 => h9) rfl dX10_isLeft_8 ?_
  refine lv_iload_n hx hb dX10_isLeft_11 rfl (lv_at hl 1 rfl) ?_
  refine lv_iconst (v := (-1)) hx hb dX10_isLeft_12 (by decide) ?_
  obtain ⟨hi3, hF⟩ := sv_s hF
  refine va_iast hx hb hK hP hD hS 6 0 rfl rfl hi3 dX10_isLeft_13 (fun H locs hP hD hS => ?_)
  obtain ⟨S4, eS4⟩ : ∃ z, z = wr S2 6 (p1 : Int32).toNatClampNeg (-1) := ⟨_, rfl⟩
  replace hF := hF S4 eS4
  have hP : va_P D vwCl (YW y cy S4) H := by rw [eS4]; exact hP
  have hD : va_D (va_A (YW y cy S0) s.heap.size) (YW y cy S4) := by rw [eS4]; exact hD
  have e2 := Option.some.inj hF
  have hP : va_P D vwCl (YW y cy Sf) H := by rw [← e2]; exact hP
  have hD : va_D (va_A (YW y cy S0) s.heap.size) (YW y cy Sf) := by rw [← e2]; exact hD
  exact W.vret hx hb hr (fun t ht hW => ⟨⟨(), rfl, trivial, by rw [ht]; exact hP, va_K.moved hW.alike hK, hD⟩, hS.F ht⟩) hS.2.2 dX10_isLeft_14

theorem iX10_isHere_10 : ∀ w ∈ wsX100, w ∈ wsX10_isHere := fun _ h => List.mem_cons_of_mem _ (List.mem_append_right _ h)
set_option maxHeartbeats 8000000 in
set_option maxRecDepth 100000 in
theorem zX10_isHere (l : Launch) (D : va_G) (y : Nat → Nat) (cy : Nat → ClassId) (S : RS) (sz : Nat) (p1 : Int32) (rv : Int32) (hF : gX10_isHere S p1 = some rv) : Met l yX10_isHere wsX10_isHere ({ frames := 1, cells := 0, slots := 0, locals := 22 }) (PW D (TYS cy) (YW y cy S) sz [.ref (y 0), .int p1]) (va_Qi (fun (res : Int32) (u : Unit) => res = rv ∧ b01 rv) (BU D (TYS cy) (YW y cy S) (fun _ => YW y cy S) sz) (va_A (YW y cy S) sz)) 0 0 (va_A (YW y cy S) sz) := by
  refine Met.ofW (cc := cX10_isHere) (maxL := 2) (ret := (some .boolean)) (by decide) rfl ?_
  intro p e s m args below meth c s₁ B hml hv
  obtain ⟨rfl, hsz, hP, hK, hD0⟩ := hv
  have hx := B.exec
  have hb := B.bytes
  have hr := B.returns
  have hts := atoms_spec (ws := wsX10_isHere) B.pre
  have hown : s.vm.findClass RX10 = some m.cls := findClass_of_methodNamed B.named
  have hlocks := B.notSynchronized
  subst hsz
  have hD := hD0.self (sz := s.heap.size)
  have hA : ∀ q9 : Nat, s.heap.size ≤ q9 → va_A (YW y cy S) s.heap.size q9 := fun q9 h => Or.inr h
  have hS : va_S (va_A (YW y cy S) s.heap.size) s.heap s.heap [] := va_S.rf
  have hl := lv_entry ([.ref (y 0), .int p1]) (n := 2) (Nat.le_of_ble_eq_true rfl)
  rw [lg_entry_eq]
  generalize (lg_sl ([.ref (y 0), .int p1]) ++ List.replicate (2 - (lg_sl ([.ref (y 0), .int p1])).length) Slot.unset).toArray = ls at hl ⊢
  have hl : lv_has ls 2 [(0, .ref (y 0)), (1, .int p1)] := hl
  unfold gX10_isHere at hF
  refine lv_aload_n hx hb dX10_isHere_0 rfl (lv_at hl 0 rfl) ?_
  refine va_get (D := D) (ci := 10) (v := .ref (y 15)) (C := RX10) (T := TX10) (N := 58) hx hb hts iX10_isHere_10 hown hK hP 0 rfl rfl 27 (by decide) (hts (.fieldLink RX10 66 "FondsRoomModel" "state" "[I") (List.mem_of_getElem? (i := 1) rfl)) (fun _ h9 => h9) rfl dX10_isHere_1 ?_
  refine lv_iload_n hx hb dX10_isHere_4 rfl (lv_at hl 1 rfl) ?_
  obtain ⟨hi2, hF⟩ := ld_s hF
  refine va_iald hx hb hK hP 15 0 rfl rfl hi2 dX10_isHere_5 ?_
  refine lv_topi (fun y1 ey1 => ?_)
  replace hF := hF y1 ey1
  refine lv_iconst (v := 1) hx hb dX10_isHere_6 (by decide) ?_
  refine lv_iconst (v := 4) hx hb dX10_isHere_7 (by decide) ?_
  obtain ⟨r3, hq6, hF⟩ := bd1_s hF
  refine gsI (As := [.int y1, .int 1, .int 4]) (rest := []) ⟨hx, hb, hml, hown, hts⟩ (zX10_in l D y cy S _ y1 1 4 r3 hq6) (va_cwS 3 hts gX10_isHere_X10_in rfl rfl rfl (by decide +kernel) ⟨Nat.le_of_ble_eq_true rfl, Nat.le_of_ble_eq_true rfl⟩) hK hP hD hS hA rfl hl.1 rfl (Nat.le_of_ble_eq_true rfl) dX10_isHere_8 ⟨Nat.le_of_ble_eq_true rfl, Nat.le_of_ble_eq_true rfl⟩ (fun a7 u9 H locs hw5 hP hD hS => ?_)
  have hP : va_P D vwCl (YW y cy S) H := hP
  have hD : va_D _ (YW y cy S) := hD
  refine lv_tov (v' := .int r3) (congrArg Value.int hw5.1) ?_
  refine lv_if_ne (tgt := 25) hx hb dX10_isHere_11 (by decide) (fun c8 => ?_) (fun c8 => ?_)
  · skip
    have hF := (if_neg c8).symm.trans hF
    refine lv_iconst (v := 1) hx hb dX10_isHere_25 (by decide) ?_
    refine lv_goto (tgt := 30) hx hb dX10_isHere_26 (by decide) ?_
    have e1 := Option.some.inj hF
    exact W.zret (v := 1) hx hb hr (nz01 (Or.inr rfl)).1 (fun t ht hW => ⟨⟨1, (), rfl, ⟨e1, by rw [← e1]; exact Or.inr rfl⟩, by rw [ht]; exact hP, va_K.moved hW.alike hK, hD⟩, hS.F ht⟩) hS.2.2 dX10_isHere_30
  · skip
    have hF := (if_pos c8).symm.trans hF
    refine lv_aload_n hx hb dX10_isHere_14 rfl (lv_at hl 0 rfl) ?_
    refine va_get (D := D) (ci := 10) (v := .ref (y 15)) (C := RX10) (T := TX10) (N := 58) hx hb hts iX10_isHere_10 hown hK hP 0 rfl rfl 27 (by decide) (hts (.fieldLink RX10 66 "FondsRoomModel" "state" "[I") (List.mem_of_getElem? (i := 1) rfl)) (fun _ h9 => h9) rfl dX10_isHere_15 ?_
    refine lv_iload_n hx hb dX10_isHere_18 rfl (lv_at hl 1 rfl) ?_
    obtain ⟨hi10, hF⟩ := ld_s hF
    refine va_iald hx hb hK hP 15 0 rfl rfl hi10 dX10_isHere_19 ?_
    refine lv_topi (fun y9 ey9 => ?_)
    replace hF := hF y9 ey9
    refine lv_bipush (v := 8) hx hb dX10_isHere_20 (by decide) ?_
    refine lv_icmp_ne (tgt := 29) hx hb dX10_isHere_22 (by decide) (fun c11 => ?_) (fun c11 => ?_)
    · skip
      have hF := (if_neg c11).symm.trans hF
      refine lv_iconst (v := 0) hx hb dX10_isHere_29 (by decide) ?_
      have e1 := Option.some.inj hF
      exact W.zret (v := 0) hx hb hr (nz01 (Or.inl rfl)).1 (fun t ht hW => ⟨⟨0, (), rfl, ⟨e1, by rw [← e1]; exact Or.inl rfl⟩, by rw [ht]; exact hP, va_K.moved hW.alike hK, hD⟩, hS.F ht⟩) hS.2.2 dX10_isHere_30
    · skip
      have hF := (if_pos c11).symm.trans hF
      refine lv_iconst (v := 1) hx hb dX10_isHere_25 (by decide) ?_
      refine lv_goto (tgt := 30) hx hb dX10_isHere_26 (by decide) ?_
      have e1 := Option.some.inj hF
      exact W.zret (v := 1) hx hb hr (nz01 (Or.inr rfl)).1 (fun t ht hW => ⟨⟨1, (), rfl, ⟨e1, by rw [← e1]; exact Or.inr rfl⟩, by rw [ht]; exact hP, va_K.moved hW.alike hK, hD⟩, hS.F ht⟩) hS.2.2 dX10_isHere_30

theorem iX10_sentAway_10 : ∀ w ∈ wsX100, w ∈ wsX10_sentAway := fun _ h => List.mem_cons_of_mem _ (List.mem_append_right _ h)
set_option maxHeartbeats 8000000 in
set_option maxRecDepth 100000 in
theorem zX10_sentAway (l : Launch) (D : va_G) (y : Nat → Nat) (cy : Nat → ClassId) (S0 : RS) (sz : Nat) (p1 p2 : Int32) (Sf : RS) (hF : gX10_sentAway S0 p1 p2 = some Sf) : Met l yX10_sentAway wsX10_sentAway ({ frames := 1, cells := 0, slots := 0, locals := 24 }) (PW D (TYS cy) (YW y cy S0) sz [.ref (y 0), .int p1, .int p2]) (va_Qv (fun (u : Unit) => True) (BU D (TYS cy) (YW y cy S0) (fun _ => YW y cy Sf) sz) (va_A (YW y cy S0) sz)) 0 0 (va_A (YW y cy S0) sz) := by
  refine Met.ofW (cc := cX10_sentAway) (maxL := 4) (ret := none) (by decide) rfl ?_
  intro p e s m args below meth c s₁ B hml hv
  obtain ⟨rfl, hsz, hP, hK, hD0⟩ := hv
  have hx := B.exec
  have hb := B.bytes
  have hr := B.returns
  have hts := atoms_spec (ws := wsX10_sentAway) B.pre
  have hown : s.vm.findClass RX10 = some m.cls := findClass_of_methodNamed B.named
  have hlocks := B.notSynchronized
  subst hsz
  have hD := hD0.self (sz := s.heap.size)
  have hA : ∀ q9 : Nat, s.heap.size ≤ q9 → va_A (YW y cy S0) s.heap.size q9 := fun q9 h => Or.inr h
  have hS : va_S (va_A (YW y cy S0) s.heap.size) s.heap s.heap [] := va_S.rf
  have key2 : ∀ (K : Int32 → Int32 → RS → Option (RS)), (∀ (v1 : Int32) (v2 : Int32) (S : RS) (H : Heap) (locs : List Loc) (ls : Array Slot), K v1 v2 S = some Sf → va_P D vwCl (YW y cy S) H → va_D (va_A (YW y cy S0) s.heap.size) (YW y cy S) → va_S (va_A (YW y cy S0) s.heap.size) s.heap H locs → lv_has ls 4 [(1, .int v1), (2, .int v2), (0, .ref (y 0))] → W p l e (headSpec wsX10_sentAway ({ frames := 1, cells := 0, slots := 0, locals := 24 })).room s m #[.ref (y 0), .int p1, .int p2] below meth c H locs 0 0 (MQ below (va_Qv (fun (u : Unit) => True) (BU D (TYS cy) (YW y cy S0) (fun _ => YW y cy Sf) s.heap.size) (va_A (YW y cy S0) s.heap.size)) #[.ref (y 0), .int p1, .int p2] s 0 0 (va_A (YW y cy S0) s.heap.size)) (F0 m 72 ls [])) → ∀ (fu : Nat) (v1 : Int32) (v2 : Int32) (v3 : Int32) (S : RS) (H : Heap) (locs : List Loc) (ls : Array Slot), gX10_sentAway_2 K fu v1 v2 v3 S = some Sf → va_P D vwCl (YW y cy S) H → va_D (va_A (YW y cy S0) s.heap.size) (YW y cy S) → va_S (va_A (YW y cy S0) s.heap.size) s.heap H locs → lv_has ls 4 [(1, .int v1), (2, .int v2), (3, .int v3), (0, .ref (y 0))] → W p l e (headSpec wsX10_sentAway ({ frames := 1, cells := 0, slots := 0, locals := 24 })).room s m #[.ref (y 0), .int p1, .int p2] below meth c H locs 0 0 (MQ below (va_Qv (fun (u : Unit) => True) (BU D (TYS cy) (YW y cy S0) (fun _ => YW y cy Sf) s.heap.size) (va_A (YW y cy S0) s.heap.size)) #[.ref (y 0), .int p1, .int p2] s 0 0 (va_A (YW y cy S0) s.heap.size)) (F0 m 2 ls []) := by
    intro K hKK fu
    induction fu with
    | zero =>
      intro v1 v2 v3 S H locs ls hF
      exact absurd (show (none : Option (RS)) = some Sf from hF) (by simp)
    | succ fu2 ih2 =>
      intro v1 v2 v3 S H locs ls hF hP hD hS hl
      rw [gX10_sentAway_2] at hF
      refine lv_iload_n hx hb dX10_sentAway_2 rfl (lv_at hl 2 rfl) ?_
      refine lv_aload_n hx hb dX10_sentAway_3 rfl (lv_at hl 3 rfl) ?_
      refine va_get (D := D) (ci := 10) (v := .int (S 0 2)) (C := RX10) (T := TX10) (N := 58) hx hb hts iX10_sentAway_10 hown hK hP 0 rfl rfl 2 (by decide) (hts (.fieldLink RX10 160 "FondsRoomModel" "boxes" "I") (List.mem_of_getElem? (i := 1) rfl)) (fun _ h9 => h9) rfl dX10_sentAway_4 ?_
      refine lv_icmp_ge (tgt := 72) hx hb dX10_sentAway_7 (by decide) (fun c1 => ?_) (fun c1 => ?_)
      · skip
        have hF := (if_pos c1).symm.trans hF
        exact hKK v1 v2 S _ _ _ hF hP hD hS (lv_sub hl [0, 1, 3] rfl)
      · skip
        have hF := (if_neg c1).symm.trans hF
        refine lv_aload_n hx hb dX10_sentAway_10 rfl (lv_at hl 3 rfl) ?_
        refine va_get (D := D) (ci := 10) (v := .ref (y 7)) (C := RX10) (T := TX10) (N := 58) hx hb hts iX10_sentAway_10 hown hK hP 0 rfl rfl 15 (by decide) (hts (.fieldLink RX10 42 "FondsRoomModel" "ticket" "[I") (List.mem_of_getElem? (i := 2) rfl)) (fun _ h9 => h9) rfl dX10_sentAway_11 ?_
        refine lv_iload_n hx hb dX10_sentAway_14 rfl (lv_at hl 2 rfl) ?_
        obtain ⟨hi3, hF⟩ := ld_s hF
        refine va_iald hx hb hK hP 7 0 rfl rfl hi3 dX10_sentAway_15 ?_
        refine lv_topi (fun y2 ey2 => ?_)
        replace hF := hF y2 ey2
        refine lv_iload_n hx hb dX10_sentAway_16 rfl (lv_at hl 0 rfl) ?_
        refine lv_icmp_ne (tgt := 27) hx hb dX10_sentAway_17 (by decide) (fun c4 => ?_) (fun c4 => ?_)
        · skip
          have hF := (if_neg c4).symm.trans hF
          refine lv_aload_n hx hb dX10_sentAway_27 rfl (lv_at hl 3 rfl) ?_
          refine va_get (D := D) (ci := 10) (v := .ref (y 6)) (C := RX10) (T := TX10) (N := 58) hx hb hts iX10_sentAway_10 hown hK hP 0 rfl rfl 14 (by decide) (hts (.fieldLink RX10 39 "FondsRoomModel" "has" "[I") (List.mem_of_getElem? (i := 3) rfl)) (fun _ h9 => h9) rfl dX10_sentAway_28 ?_
          refine lv_iload_n hx hb dX10_sentAway_31 rfl (lv_at hl 2 rfl) ?_
          obtain ⟨hi6, hF⟩ := ld_s hF
          refine va_iald hx hb hK hP 6 0 rfl rfl hi6 dX10_sentAway_32 ?_
          refine lv_topi (fun y5 ey5 => ?_)
          replace hF := hF y5 ey5
          refine lv_iload_n hx hb dX10_sentAway_33 rfl (lv_at hl 0 rfl) ?_
          refine lv_icmp_eq (tgt := 40) hx hb dX10_sentAway_34 (by decide) (fun c7 => ?_) (fun c7 => ?_)
          · skip
            have hF := (if_pos c7).symm.trans hF
            refine lv_aload_n hx hb dX10_sentAway_40 rfl (lv_at hl 3 rfl) ?_
            refine va_get (D := D) (ci := 10) (v := .ref (y 5)) (C := RX10) (T := TX10) (N := 58) hx hb hts iX10_sentAway_10 hown hK hP 0 rfl rfl 13 (by decide) (hts (.fieldLink RX10 36 "FondsRoomModel" "place" "[I") (List.mem_of_getElem? (i := 4) rfl)) (fun _ h9 => h9) rfl dX10_sentAway_41 ?_
            refine lv_iload_n hx hb dX10_sentAway_44 rfl (lv_at hl 2 rfl) ?_
            obtain ⟨hi9, hF⟩ := ld_s hF
            refine va_iald hx hb hK hP 5 0 rfl rfl hi9 dX10_sentAway_45 ?_
            refine lv_topi (fun y8 ey8 => ?_)
            replace hF := hF y8 ey8
            refine lv_bipush (v := 6) hx hb dX10_sentAway_46 (by decide) ?_
            refine lv_icmp_ne (tgt := 61) hx hb dX10_sentAway_48 (by decide) (fun c10 => ?_) (fun c10 => ?_)
            · skip
              have hF := (if_neg c10).symm.trans hF
              refine lv_aload_n hx hb dX10_sentAway_61 rfl (lv_at hl 3 rfl) ?_
              refine lv_iload_n hx hb dX10_sentAway_62 rfl (lv_at hl 2 rfl) ?_
              obtain ⟨S12, hq14, hF⟩ := bd1_s hF
              refine gvV (As := [.int v3]) (rest := []) ⟨hx, hb, hml, hown, hts⟩ (zX10_isLeft l D y cy S _ v3 S12 hq14) (cwV 1 hts gX10_sentAway_X10_isLeft rfl rfl rfl (by decide +kernel) ⟨Nat.le_of_ble_eq_true rfl, Nat.le_of_ble_eq_true rfl⟩) hK hP hD hS hA (va_recv hK hP (ci := 10) (q0 := 0) rfl rfl) rfl hl.1 rfl (Nat.le_of_ble_eq_true rfl) dX10_sentAway_63 ⟨Nat.le_of_ble_eq_true rfl, Nat.le_of_ble_eq_true rfl⟩ (fun u9 H locs hw13 hP hD hS => ?_)
              have hP : va_P D vwCl (YW y cy S12) H := hP
              have hD : va_D _ (YW y cy S12) := hD
              refine lv_iinc (v := v3 + 1) (lv' := [(3, .int (v3 + 1)), (1, .int v1), (2, .int v2), (0, .ref (y 0))]) hx hb dX10_sentAway_66 hl (k := 2) rfl rfl (by decide) rfl (fun ls hl => ?_)
              refine lv_goto (tgt := 2) hx hb dX10_sentAway_69 (by decide) ?_
              exact ih2 v1 v2 (v3 + 1) S12 _ _ _ hF hP hD hS (lv_sub hl [1, 2, 0, 3] rfl)
            · skip
              have hF := (if_pos c10).symm.trans hF
              refine lv_aload_n hx hb dX10_sentAway_51 rfl (lv_at hl 3 rfl) ?_
              refine va_get (D := D) (ci := 10) (v := .ref (y 6)) (C := RX10) (T := TX10) (N := 58) hx hb hts iX10_sentAway_10 hown hK hP 0 rfl rfl 14 (by decide) (hts (.fieldLink RX10 39 "FondsRoomModel" "has" "[I") (List.mem_of_getElem? (i := 3) rfl)) (fun _ h9 => h9) rfl dX10_sentAway_52 ?_
              refine lv_iload_n hx hb dX10_sentAway_55 rfl (lv_at hl 2 rfl) ?_
              refine lv_iconst (v := (-1)) hx hb dX10_sentAway_56 (by decide) ?_
              obtain ⟨hi16, hF⟩ := sv_s hF
              refine va_iast hx hb hK hP hD hS 6 0 rfl rfl hi16 dX10_sentAway_57 (fun H locs hP hD hS => ?_)
              obtain ⟨S17, eS17⟩ : ∃ z, z = wr S 6 (v3 : Int32).toNatClampNeg (-1) := ⟨_, rfl⟩
              replace hF := hF S17 eS17
              have hP : va_P D vwCl (YW y cy S17) H := by rw [eS17]; exact hP
              have hD : va_D (va_A (YW y cy S0) s.heap.size) (YW y cy S17) := by rw [eS17]; exact hD
              refine lv_goto (tgt := 66) hx hb dX10_sentAway_58 (by decide) ?_
              refine lv_iinc (v := v3 + 1) (lv' := [(3, .int (v3 + 1)), (1, .int v1), (2, .int v2), (0, .ref (y 0))]) hx hb dX10_sentAway_66 hl (k := 2) rfl rfl (by decide) rfl (fun ls hl => ?_)
              refine lv_goto (tgt := 2) hx hb dX10_sentAway_69 (by decide) ?_
              exact ih2 v1 v2 (v3 + 1) S17 _ _ _ hF hP hD hS (lv_sub hl [1, 2, 0, 3] rfl)
          · skip
            have hF := (if_neg c7).symm.trans hF
            refine lv_goto (tgt := 66) hx hb dX10_sentAway_37 (by decide) ?_
            refine lv_iinc (v := v3 + 1) (lv' := [(3, .int (v3 + 1)), (1, .int v1), (2, .int v2), (0, .ref (y 0))]) hx hb dX10_sentAway_66 hl (k := 2) rfl rfl (by decide) rfl (fun ls hl => ?_)
            refine lv_goto (tgt := 2) hx hb dX10_sentAway_69 (by decide) ?_
            exact ih2 v1 v2 (v3 + 1) S _ _ _ hF hP hD hS (lv_sub hl [1, 2, 0, 3] rfl)
        · skip
          have hF := (if_pos c4).symm.trans hF
          refine lv_aload_n hx hb dX10_sentAway_20 rfl (lv_at hl 3 rfl) ?_
          refine va_get (D := D) (ci := 10) (v := .ref (y 7)) (C := RX10) (T := TX10) (N := 58) hx hb hts iX10_sentAway_10 hown hK hP 0 rfl rfl 15 (by decide) (hts (.fieldLink RX10 42 "FondsRoomModel" "ticket" "[I") (List.mem_of_getElem? (i := 2) rfl)) (fun _ h9 => h9) rfl dX10_sentAway_21 ?_
          refine lv_iload_n hx hb dX10_sentAway_24 rfl (lv_at hl 2 rfl) ?_
          refine lv_iconst (v := (-1)) hx hb dX10_sentAway_25 (by decide) ?_
          obtain ⟨hi18, hF⟩ := sv_s hF
          refine va_iast hx hb hK hP hD hS 7 0 rfl rfl hi18 dX10_sentAway_26 (fun H locs hP hD hS => ?_)
          obtain ⟨S19, eS19⟩ : ∃ z, z = wr S 7 (v3 : Int32).toNatClampNeg (-1) := ⟨_, rfl⟩
          replace hF := hF S19 eS19
          have hP : va_P D vwCl (YW y cy S19) H := by rw [eS19]; exact hP
          have hD : va_D (va_A (YW y cy S0) s.heap.size) (YW y cy S19) := by rw [eS19]; exact hD
          refine lv_aload_n hx hb dX10_sentAway_27 rfl (lv_at hl 3 rfl) ?_
          refine va_get (D := D) (ci := 10) (v := .ref (y 6)) (C := RX10) (T := TX10) (N := 58) hx hb hts iX10_sentAway_10 hown hK hP 0 rfl rfl 14 (by decide) (hts (.fieldLink RX10 39 "FondsRoomModel" "has" "[I") (List.mem_of_getElem? (i := 3) rfl)) (fun _ h9 => h9) rfl dX10_sentAway_28 ?_
          refine lv_iload_n hx hb dX10_sentAway_31 rfl (lv_at hl 2 rfl) ?_
          obtain ⟨hi21, hF⟩ := ld_s hF
          refine va_iald hx hb hK hP 6 0 rfl rfl hi21 dX10_sentAway_32 ?_
          refine lv_topi (fun y20 ey20 => ?_)
          replace hF := hF y20 ey20
          refine lv_iload_n hx hb dX10_sentAway_33 rfl (lv_at hl 0 rfl) ?_
          refine lv_icmp_eq (tgt := 40) hx hb dX10_sentAway_34 (by decide) (fun c22 => ?_) (fun c22 => ?_)
          · skip
            have hF := (if_pos c22).symm.trans hF
            refine lv_aload_n hx hb dX10_sentAway_40 rfl (lv_at hl 3 rfl) ?_
            refine va_get (D := D) (ci := 10) (v := .ref (y 5)) (C := RX10) (T := TX10) (N := 58) hx hb hts iX10_sentAway_10 hown hK hP 0 rfl rfl 13 (by decide) (hts (.fieldLink RX10 36 "FondsRoomModel" "place" "[I") (List.mem_of_getElem? (i := 4) rfl)) (fun _ h9 => h9) rfl dX10_sentAway_41 ?_
            refine lv_iload_n hx hb dX10_sentAway_44 rfl (lv_at hl 2 rfl) ?_
            obtain ⟨hi24, hF⟩ := ld_s hF
            refine va_iald hx hb hK hP 5 0 rfl rfl hi24 dX10_sentAway_45 ?_
            refine lv_topi (fun y23 ey23 => ?_)
            replace hF := hF y23 ey23
            refine lv_bipush (v := 6) hx hb dX10_sentAway_46 (by decide) ?_
            refine lv_icmp_ne (tgt := 61) hx hb dX10_sentAway_48 (by decide) (fun c25 => ?_) (fun c25 => ?_)
            · skip
              have hF := (if_neg c25).symm.trans hF
              refine lv_aload_n hx hb dX10_sentAway_61 rfl (lv_at hl 3 rfl) ?_
              refine lv_iload_n hx hb dX10_sentAway_62 rfl (lv_at hl 2 rfl) ?_
              obtain ⟨S27, hq29, hF⟩ := bd1_s hF
              refine gvV (As := [.int v3]) (rest := []) ⟨hx, hb, hml, hown, hts⟩ (zX10_isLeft l D y cy S19 _ v3 S27 hq29) (cwV 1 hts gX10_sentAway_X10_isLeft rfl rfl rfl (by decide +kernel) ⟨Nat.le_of_ble_eq_true rfl, Nat.le_of_ble_eq_true rfl⟩) hK hP hD hS hA (va_recv hK hP (ci := 10) (q0 := 0) rfl rfl) rfl hl.1 rfl (Nat.le_of_ble_eq_true rfl) dX10_sentAway_63 ⟨Nat.le_of_ble_eq_true rfl, Nat.le_of_ble_eq_true rfl⟩ (fun u9 H locs hw28 hP hD hS => ?_)
              have hP : va_P D vwCl (YW y cy S27) H := hP
              have hD : va_D _ (YW y cy S27) := hD
              refine lv_iinc (v := v3 + 1) (lv' := [(3, .int (v3 + 1)), (1, .int v1), (2, .int v2), (0, .ref (y 0))]) hx hb dX10_sentAway_66 hl (k := 2) rfl rfl (by decide) rfl (fun ls hl => ?_)
              refine lv_goto (tgt := 2) hx hb dX10_sentAway_69 (by decide) ?_
              exact ih2 v1 v2 (v3 + 1) S27 _ _ _ hF hP hD hS (lv_sub hl [1, 2, 0, 3] rfl)
            · skip
              have hF := (if_pos c25).symm.trans hF
              refine lv_aload_n hx hb dX10_sentAway_51 rfl (lv_at hl 3 rfl) ?_
              refine va_get (D := D) (ci := 10) (v := .ref (y 6)) (C := RX10) (T := TX10) (N := 58) hx hb hts iX10_sentAway_10 hown hK hP 0 rfl rfl 14 (by decide) (hts (.fieldLink RX10 39 "FondsRoomModel" "has" "[I") (List.mem_of_getElem? (i := 3) rfl)) (fun _ h9 => h9) rfl dX10_sentAway_52 ?_
              refine lv_iload_n hx hb dX10_sentAway_55 rfl (lv_at hl 2 rfl) ?_
              refine lv_iconst (v := (-1)) hx hb dX10_sentAway_56 (by decide) ?_
              obtain ⟨hi31, hF⟩ := sv_s hF
              refine va_iast hx hb hK hP hD hS 6 0 rfl rfl hi31 dX10_sentAway_57 (fun H locs hP hD hS => ?_)
              obtain ⟨S32, eS32⟩ : ∃ z, z = wr S19 6 (v3 : Int32).toNatClampNeg (-1) := ⟨_, rfl⟩
              replace hF := hF S32 eS32
              have hP : va_P D vwCl (YW y cy S32) H := by rw [eS32]; exact hP
              have hD : va_D (va_A (YW y cy S0) s.heap.size) (YW y cy S32) := by rw [eS32]; exact hD
              refine lv_goto (tgt := 66) hx hb dX10_sentAway_58 (by decide) ?_
              refine lv_iinc (v := v3 + 1) (lv' := [(3, .int (v3 + 1)), (1, .int v1), (2, .int v2), (0, .ref (y 0))]) hx hb dX10_sentAway_66 hl (k := 2) rfl rfl (by decide) rfl (fun ls hl => ?_)
              refine lv_goto (tgt := 2) hx hb dX10_sentAway_69 (by decide) ?_
              exact ih2 v1 v2 (v3 + 1) S32 _ _ _ hF hP hD hS (lv_sub hl [1, 2, 0, 3] rfl)
          · skip
            have hF := (if_neg c22).symm.trans hF
            refine lv_goto (tgt := 66) hx hb dX10_sentAway_37 (by decide) ?_
            refine lv_iinc (v := v3 + 1) (lv' := [(3, .int (v3 + 1)), (1, .int v1), (2, .int v2), (0, .ref (y 0))]) hx hb dX10_sentAway_66 hl (k := 2) rfl rfl (by decide) rfl (fun ls hl => ?_)
            refine lv_goto (tgt := 2) hx hb dX10_sentAway_69 (by decide) ?_
            exact ih2 v1 v2 (v3 + 1) S19 _ _ _ hF hP hD hS (lv_sub hl [1, 2, 0, 3] rfl)
  have hl := lv_entry ([.ref (y 0), .int p1, .int p2]) (n := 4) (Nat.le_of_ble_eq_true rfl)
  rw [lg_entry_eq]
  generalize (lg_sl ([.ref (y 0), .int p1, .int p2]) ++ List.replicate (4 - (lg_sl ([.ref (y 0), .int p1, .int p2])).length) Slot.unset).toArray = ls at hl ⊢
  have hl : lv_has ls 4 [(0, .ref (y 0)), (1, .int p1), (2, .int p2)] := hl
  unfold gX10_sentAway at hF
  refine lv_iconst (v := 0) hx hb dX10_sentAway_0 (by decide) ?_
  refine lv_istore_n (lv' := [(3, .int 0), (0, .ref (y 0)), (1, .int p1), (2, .int p2)]) hx hb dX10_sentAway_1 rfl hl (by decide) rfl (fun ls hl => ?_)
  refine key2 _ ?_ 1000 p1 p2 0 S0 _ _ _ hF hP hD hS (lv_sub hl [2, 3, 0, 1] rfl)
  intro v1_33 v2_34 S35 H locs ls hF hP hD hS hl
  refine lv_aload_n hx hb dX10_sentAway_72 rfl (lv_at hl 2 rfl) ?_
  refine lv_iload_n hx hb dX10_sentAway_73 rfl (lv_at hl 0 rfl) ?_
  obtain ⟨S37, hq39, hF⟩ := bd1_s hF
  refine gvV (As := [.int v1_33]) (rest := []) ⟨hx, hb, hml, hown, hts⟩ (zX10_freeDesk l D y cy S35 _ v1_33 S37 hq39) (cwV 1 hts gX10_sentAway_X10_freeDesk rfl rfl rfl (by decide +kernel) ⟨Nat.le_of_ble_eq_true rfl, Nat.le_of_ble_eq_true rfl⟩) hK hP hD hS hA (va_recv hK hP (ci := 10) (q0 := 0) rfl rfl) rfl hl.1 rfl (Nat.le_of_ble_eq_true rfl) dX10_sentAway_74 ⟨Nat.le_of_ble_eq_true rfl, Nat.le_of_ble_eq_true rfl⟩ (fun u9 H locs hw38 hP hD hS => ?_)
  have hP : va_P D vwCl (YW y cy S37) H := hP
  have hD : va_D _ (YW y cy S37) := hD
  refine lv_aload_n hx hb dX10_sentAway_77 rfl (lv_at hl 2 rfl) ?_
  refine va_get (D := D) (ci := 10) (v := .ref (y 19)) (C := RX10) (T := TX10) (N := 58) hx hb hts iX10_sentAway_10 hown hK hP 0 rfl rfl 31 (by decide) (hts (.fieldLink RX10 78 "FondsRoomModel" "left" "[I") (List.mem_of_getElem? (i := 5) rfl)) (fun _ h9 => h9) rfl dX10_sentAway_78 ?_
  refine lv_iload_n hx hb dX10_sentAway_81 rfl (lv_at hl 0 rfl) ?_
  refine lv_iconst (v := 0) hx hb dX10_sentAway_82 (by decide) ?_
  obtain ⟨hi41, hF⟩ := sv_s hF
  refine va_iast hx hb hK hP hD hS 19 0 rfl rfl hi41 dX10_sentAway_83 (fun H locs hP hD hS => ?_)
  obtain ⟨S42, eS42⟩ : ∃ z, z = wr S37 19 (v1_33 : Int32).toNatClampNeg 0 := ⟨_, rfl⟩
  replace hF := hF S42 eS42
  have hP : va_P D vwCl (YW y cy S42) H := by rw [eS42]; exact hP
  have hD : va_D (va_A (YW y cy S0) s.heap.size) (YW y cy S42) := by rw [eS42]; exact hD
  refine lv_aload_n hx hb dX10_sentAway_84 rfl (lv_at hl 2 rfl) ?_
  refine va_get (D := D) (ci := 10) (v := .ref (y 15)) (C := RX10) (T := TX10) (N := 58) hx hb hts iX10_sentAway_10 hown hK hP 0 rfl rfl 27 (by decide) (hts (.fieldLink RX10 66 "FondsRoomModel" "state" "[I") (List.mem_of_getElem? (i := 6) rfl)) (fun _ h9 => h9) rfl dX10_sentAway_85 ?_
  refine lv_iload_n hx hb dX10_sentAway_88 rfl (lv_at hl 0 rfl) ?_
  refine lv_iload_n hx hb dX10_sentAway_89 rfl (lv_at hl 1 rfl) ?_
  obtain ⟨hi43, hF⟩ := sv_s hF
  refine va_iast hx hb hK hP hD hS 15 0 rfl rfl hi43 dX10_sentAway_90 (fun H locs hP hD hS => ?_)
  obtain ⟨S44, eS44⟩ : ∃ z, z = wr S42 15 (v1_33 : Int32).toNatClampNeg v2_34 := ⟨_, rfl⟩
  replace hF := hF S44 eS44
  have hP : va_P D vwCl (YW y cy S44) H := by rw [eS44]; exact hP
  have hD : va_D (va_A (YW y cy S0) s.heap.size) (YW y cy S44) := by rw [eS44]; exact hD
  refine lv_aload_n hx hb dX10_sentAway_91 rfl (lv_at hl 2 rfl) ?_
  refine lv_iload_n hx hb dX10_sentAway_92 rfl (lv_at hl 0 rfl) ?_
  refine lv_bipush (v := 8) hx hb dX10_sentAway_93 (by decide) ?_
  refine lv_iload_n hx hb dX10_sentAway_95 rfl (lv_at hl 1 rfl) ?_
  refine lv_iconst (v := 1) hx hb dX10_sentAway_96 (by decide) ?_
  obtain ⟨S46, hq48, hF⟩ := bd1_s hF
  refine gvV (As := [.int v1_33, .int 8, .int v2_34, .int 1]) (rest := []) ⟨hx, hb, hml, hown, hts⟩ (zX10_event l D y cy S44 _ v1_33 8 v2_34 1 S46 hq48) (cwV 4 hts gX10_sentAway_X10_event rfl rfl rfl (by decide +kernel) ⟨Nat.le_of_ble_eq_true rfl, Nat.le_of_ble_eq_true rfl⟩) hK hP hD hS hA (va_recv hK hP (ci := 10) (q0 := 0) rfl rfl) rfl hl.1 rfl (Nat.le_of_ble_eq_true rfl) dX10_sentAway_97 ⟨Nat.le_of_ble_eq_true rfl, Nat.le_of_ble_eq_true rfl⟩ (fun u9 H locs hw47 hP hD hS => ?_)
  have hP : va_P D vwCl (YW y cy S46) H := hP
  have hD : va_D _ (YW y cy S46) := hD
  have e2 := Option.some.inj hF
  have hP : va_P D vwCl (YW y cy Sf) H := by rw [← e2]; exact hP
  have hD : va_D (va_A (YW y cy S0) s.heap.size) (YW y cy Sf) := by rw [← e2]; exact hD
  exact W.vret hx hb hr (fun t ht hW => ⟨⟨(), rfl, trivial, by rw [ht]; exact hP, va_K.moved hW.alike hK, hD⟩, hS.F ht⟩) hS.2.2 dX10_sentAway_100

theorem iX10_mishapOf_10 : ∀ w ∈ wsX100, w ∈ wsX10_mishapOf := fun _ h => List.mem_cons_of_mem _ (List.mem_append_right _ h)
set_option maxHeartbeats 8000000 in
set_option maxRecDepth 100000 in
theorem zX10_mishapOf (l : Launch) (D : va_G) (y : Nat → Nat) (cy : Nat → ClassId) (S0 : RS) (sz : Nat) (p1 p2 : Int32) (Sf : RS) (hF : gX10_mishapOf S0 p1 p2 = some Sf) : Met l yX10_mishapOf wsX10_mishapOf ({ frames := 2, cells := 0, slots := 0, locals := 47 }) (PW D (TYS cy) (YW y cy S0) sz [.ref (y 0), .int p1, .int p2]) (va_Qv (fun (u : Unit) => True) (BU D (TYS cy) (YW y cy S0) (fun _ => YW y cy Sf) sz) (va_A (YW y cy S0) sz)) 0 0 (va_A (YW y cy S0) sz) := by
  refine Met.ofW (cc := cX10_mishapOf) (maxL := 4) (ret := none) (by decide) rfl ?_
  intro p e s m args below meth c s₁ B hml hv
  obtain ⟨rfl, hsz, hP, hK, hD0⟩ := hv
  have hx := B.exec
  have hb := B.bytes
  have hr := B.returns
  have hts := atoms_spec (ws := wsX10_mishapOf) B.pre
  have hown : s.vm.findClass RX10 = some m.cls := findClass_of_methodNamed B.named
  have hlocks := B.notSynchronized
  subst hsz
  have hD := hD0.self (sz := s.heap.size)
  have hA : ∀ q9 : Nat, s.heap.size ≤ q9 → va_A (YW y cy S0) s.heap.size q9 := fun q9 h => Or.inr h
  have hS : va_S (va_A (YW y cy S0) s.heap.size) s.heap s.heap [] := va_S.rf
  have hl := lv_entry ([.ref (y 0), .int p1, .int p2]) (n := 4) (Nat.le_of_ble_eq_true rfl)
  rw [lg_entry_eq]
  generalize (lg_sl ([.ref (y 0), .int p1, .int p2]) ++ List.replicate (4 - (lg_sl ([.ref (y 0), .int p1, .int p2])).length) Slot.unset).toArray = ls at hl ⊢
  have hl : lv_has ls 4 [(0, .ref (y 0)), (1, .int p1), (2, .int p2)] := hl
  unfold gX10_mishapOf at hF
  refine lv_iload_n hx hb dX10_mishapOf_0 rfl (lv_at hl 1 rfl) ?_
  refine lv_if_ne (tgt := 22) hx hb dX10_mishapOf_1 (by decide) (fun c1 => ?_) (fun c1 => ?_)
  · skip
    have hF := (if_neg c1).symm.trans hF
    refine lv_iload_n hx hb dX10_mishapOf_22 rfl (lv_at hl 1 rfl) ?_
    refine lv_iconst (v := 1) hx hb dX10_mishapOf_23 (by decide) ?_
    refine lv_icmp_ne (tgt := 71) hx hb dX10_mishapOf_24 (by decide) (fun c2 => ?_) (fun c2 => ?_)
    · skip
      have hF := (if_neg c2).symm.trans hF
      refine lv_aload_n hx hb dX10_mishapOf_71 rfl (lv_at hl 0 rfl) ?_
      refine va_get (D := D) (ci := 10) (v := .ref (y 33)) (C := RX10) (T := TX10) (N := 58) hx hb hts iX10_mishapOf_10 hown hK hP 0 rfl rfl 45 (by decide) (hts (.fieldLink RX10 120 "FondsRoomModel" "cBox" "[I") (List.mem_of_getElem? (i := 4) rfl)) (fun _ h9 => h9) rfl dX10_mishapOf_72 ?_
      refine lv_iload_n hx hb dX10_mishapOf_75 rfl (lv_at hl 2 rfl) ?_
      obtain ⟨hi4, hF⟩ := ld_s hF
      refine va_iald hx hb hK hP 33 0 rfl rfl hi4 dX10_mishapOf_76 ?_
      refine lv_topi (fun y3 ey3 => ?_)
      replace hF := hF y3 ey3
      refine lv_istore_n (lv' := [(3, .int y3), (0, .ref (y 0)), (1, .int p1), (2, .int p2)]) hx hb dX10_mishapOf_77 rfl hl (by decide) rfl (fun ls hl => ?_)
      refine lv_iload_n hx hb dX10_mishapOf_78 rfl (lv_at hl 0 rfl) ?_
      refine lv_iconst (v := (-1)) hx hb dX10_mishapOf_79 (by decide) ?_
      refine lv_icmp_ne (tgt := 84) hx hb dX10_mishapOf_80 (by decide) (fun c5 => ?_) (fun c5 => ?_)
      · skip
        have hF := (if_neg c5).symm.trans hF
        refine lv_aload_n hx hb dX10_mishapOf_84 rfl (lv_at hl 1 rfl) ?_
        refine va_get (D := D) (ci := 10) (v := .ref (y 5)) (C := RX10) (T := TX10) (N := 58) hx hb hts iX10_mishapOf_10 hown hK hP 0 rfl rfl 13 (by decide) (hts (.fieldLink RX10 36 "FondsRoomModel" "place" "[I") (List.mem_of_getElem? (i := 2) rfl)) (fun _ h9 => h9) rfl dX10_mishapOf_85 ?_
        refine lv_iload_n hx hb dX10_mishapOf_88 rfl (lv_at hl 0 rfl) ?_
        refine lv_aload_n hx hb dX10_mishapOf_89 rfl (lv_at hl 1 rfl) ?_
        refine va_get (D := D) (ci := 10) (v := .ref (y 6)) (C := RX10) (T := TX10) (N := 58) hx hb hts iX10_mishapOf_10 hown hK hP 0 rfl rfl 14 (by decide) (hts (.fieldLink RX10 39 "FondsRoomModel" "has" "[I") (List.mem_of_getElem? (i := 5) rfl)) (fun _ h9 => h9) rfl dX10_mishapOf_90 ?_
        refine lv_iload_n hx hb dX10_mishapOf_93 rfl (lv_at hl 0 rfl) ?_
        obtain ⟨hi7, hF⟩ := ld_s hF
        refine va_iald hx hb hK hP 6 0 rfl rfl hi7 dX10_mishapOf_94 ?_
        refine lv_topi (fun y6 ey6 => ?_)
        replace hF := hF y6 ey6
        refine lv_iconst (v := (-1)) hx hb dX10_mishapOf_95 (by decide) ?_
        refine lv_icmp_ne (tgt := 103) hx hb dX10_mishapOf_96 (by decide) (fun c8 => ?_) (fun c8 => ?_)
        · skip
          have hF := (if_neg c8).symm.trans hF
          refine lv_iconst (v := 5) hx hb dX10_mishapOf_103 (by decide) ?_
          obtain ⟨hi9, hF⟩ := sv_s hF
          refine va_iast hx hb hK hP hD hS 5 0 rfl rfl hi9 dX10_mishapOf_104 (fun H locs hP hD hS => ?_)
          obtain ⟨S10, eS10⟩ : ∃ z, z = wr S0 5 (y3 : Int32).toNatClampNeg 5 := ⟨_, rfl⟩
          replace hF := hF S10 eS10
          have hP : va_P D vwCl (YW y cy S10) H := by rw [eS10]; exact hP
          have hD : va_D (va_A (YW y cy S0) s.heap.size) (YW y cy S10) := by rw [eS10]; exact hD
          refine lv_aload_n hx hb dX10_mishapOf_105 rfl (lv_at hl 1 rfl) ?_
          refine va_get (D := D) (ci := 10) (v := .ref (y 33)) (C := RX10) (T := TX10) (N := 58) hx hb hts iX10_mishapOf_10 hown hK hP 0 rfl rfl 45 (by decide) (hts (.fieldLink RX10 120 "FondsRoomModel" "cBox" "[I") (List.mem_of_getElem? (i := 4) rfl)) (fun _ h9 => h9) rfl dX10_mishapOf_106 ?_
          refine lv_iload_n hx hb dX10_mishapOf_109 rfl (lv_at hl 3 rfl) ?_
          refine lv_iconst (v := (-1)) hx hb dX10_mishapOf_110 (by decide) ?_
          obtain ⟨hi11, hF⟩ := sv_s hF
          refine va_iast hx hb hK hP hD hS 33 0 rfl rfl hi11 dX10_mishapOf_111 (fun H locs hP hD hS => ?_)
          obtain ⟨S12, eS12⟩ : ∃ z, z = wr S10 33 (p2 : Int32).toNatClampNeg (-1) := ⟨_, rfl⟩
          replace hF := hF S12 eS12
          have hP : va_P D vwCl (YW y cy S12) H := by rw [eS12]; exact hP
          have hD : va_D (va_A (YW y cy S0) s.heap.size) (YW y cy S12) := by rw [eS12]; exact hD
          have e2 := Option.some.inj hF
          have hP : va_P D vwCl (YW y cy Sf) H := by rw [← e2]; exact hP
          have hD : va_D (va_A (YW y cy S0) s.heap.size) (YW y cy Sf) := by rw [← e2]; exact hD
          exact W.vret hx hb hr (fun t ht hW => ⟨⟨(), rfl, trivial, by rw [ht]; exact hP, va_K.moved hW.alike hK, hD⟩, hS.F ht⟩) hS.2.2 dX10_mishapOf_112
        · skip
          have hF := (if_pos c8).symm.trans hF
          refine lv_iconst (v := 2) hx hb dX10_mishapOf_99 (by decide) ?_
          refine lv_goto (tgt := 104) hx hb dX10_mishapOf_100 (by decide) ?_
          obtain ⟨hi13, hF⟩ := sv_s hF
          refine va_iast hx hb hK hP hD hS 5 0 rfl rfl hi13 dX10_mishapOf_104 (fun H locs hP hD hS => ?_)
          obtain ⟨S14, eS14⟩ : ∃ z, z = wr S0 5 (y3 : Int32).toNatClampNeg 2 := ⟨_, rfl⟩
          replace hF := hF S14 eS14
          have hP : va_P D vwCl (YW y cy S14) H := by rw [eS14]; exact hP
          have hD : va_D (va_A (YW y cy S0) s.heap.size) (YW y cy S14) := by rw [eS14]; exact hD
          refine lv_aload_n hx hb dX10_mishapOf_105 rfl (lv_at hl 1 rfl) ?_
          refine va_get (D := D) (ci := 10) (v := .ref (y 33)) (C := RX10) (T := TX10) (N := 58) hx hb hts iX10_mishapOf_10 hown hK hP 0 rfl rfl 45 (by decide) (hts (.fieldLink RX10 120 "FondsRoomModel" "cBox" "[I") (List.mem_of_getElem? (i := 4) rfl)) (fun _ h9 => h9) rfl dX10_mishapOf_106 ?_
          refine lv_iload_n hx hb dX10_mishapOf_109 rfl (lv_at hl 3 rfl) ?_
          refine lv_iconst (v := (-1)) hx hb dX10_mishapOf_110 (by decide) ?_
          obtain ⟨hi15, hF⟩ := sv_s hF
          refine va_iast hx hb hK hP hD hS 33 0 rfl rfl hi15 dX10_mishapOf_111 (fun H locs hP hD hS => ?_)
          obtain ⟨S16, eS16⟩ : ∃ z, z = wr S14 33 (p2 : Int32).toNatClampNeg (-1) := ⟨_, rfl⟩
          replace hF := hF S16 eS16
          have hP : va_P D vwCl (YW y cy S16) H := by rw [eS16]; exact hP
          have hD : va_D (va_A (YW y cy S0) s.heap.size) (YW y cy S16) := by rw [eS16]; exact hD
          have e2 := Option.some.inj hF
          have hP : va_P D vwCl (YW y cy Sf) H := by rw [← e2]; exact hP
          have hD : va_D (va_A (YW y cy S0) s.heap.size) (YW y cy Sf) := by rw [← e2]; exact hD
          exact W.vret hx hb hr (fun t ht hW => ⟨⟨(), rfl, trivial, by rw [ht]; exact hP, va_K.moved hW.alike hK, hD⟩, hS.F ht⟩) hS.2.2 dX10_mishapOf_112
      · skip
        have hF := (if_pos c5).symm.trans hF
        have e2 := Option.some.inj hF
        have hP : va_P D vwCl (YW y cy Sf) s.heap := by rw [← e2]; exact hP
        have hD : va_D (va_A (YW y cy S0) s.heap.size) (YW y cy Sf) := by rw [← e2]; exact hD
        exact W.vret hx hb hr (fun t ht hW => ⟨⟨(), rfl, trivial, by rw [ht]; exact hP, va_K.moved hW.alike hK, hD⟩, hS.F ht⟩) hS.2.2 dX10_mishapOf_83
    · skip
      have hF := (if_pos c2).symm.trans hF
      refine lv_aload_n hx hb dX10_mishapOf_27 rfl (lv_at hl 0 rfl) ?_
      refine va_get (D := D) (ci := 10) (v := .ref (y 30)) (C := RX10) (T := TX10) (N := 58) hx hb hts iX10_mishapOf_10 hown hK hP 0 rfl rfl 42 (by decide) (hts (.fieldLink RX10 111 "FondsRoomModel" "fBox" "[I") (List.mem_of_getElem? (i := 1) rfl)) (fun _ h9 => h9) rfl dX10_mishapOf_28 ?_
      refine lv_iload_n hx hb dX10_mishapOf_31 rfl (lv_at hl 2 rfl) ?_
      obtain ⟨hi18, hF⟩ := ld_s hF
      refine va_iald hx hb hK hP 30 0 rfl rfl hi18 dX10_mishapOf_32 ?_
      refine lv_topi (fun y17 ey17 => ?_)
      replace hF := hF y17 ey17
      refine lv_istore_n (lv' := [(3, .int y17), (0, .ref (y 0)), (1, .int p1), (2, .int p2)]) hx hb dX10_mishapOf_33 rfl hl (by decide) rfl (fun ls hl => ?_)
      refine lv_iload_n hx hb dX10_mishapOf_34 rfl (lv_at hl 0 rfl) ?_
      refine lv_iconst (v := (-1)) hx hb dX10_mishapOf_35 (by decide) ?_
      refine lv_icmp_ne (tgt := 40) hx hb dX10_mishapOf_36 (by decide) (fun c19 => ?_) (fun c19 => ?_)
      · skip
        have hF := (if_neg c19).symm.trans hF
        refine lv_aload_n hx hb dX10_mishapOf_40 rfl (lv_at hl 1 rfl) ?_
        refine va_get (D := D) (ci := 10) (v := .ref (y 5)) (C := RX10) (T := TX10) (N := 58) hx hb hts iX10_mishapOf_10 hown hK hP 0 rfl rfl 13 (by decide) (hts (.fieldLink RX10 36 "FondsRoomModel" "place" "[I") (List.mem_of_getElem? (i := 2) rfl)) (fun _ h9 => h9) rfl dX10_mishapOf_41 ?_
        refine lv_iload_n hx hb dX10_mishapOf_44 rfl (lv_at hl 0 rfl) ?_
        refine lv_aload_n hx hb dX10_mishapOf_45 rfl (lv_at hl 1 rfl) ?_
        refine va_get (D := D) (ci := 10) (v := .ref (y 32)) (C := RX10) (T := TX10) (N := 58) hx hb hts iX10_mishapOf_10 hown hK hP 0 rfl rfl 44 (by decide) (hts (.fieldLink RX10 117 "FondsRoomModel" "fTo" "[I") (List.mem_of_getElem? (i := 3) rfl)) (fun _ h9 => h9) rfl dX10_mishapOf_46 ?_
        refine lv_iload_n hx hb dX10_mishapOf_49 rfl (lv_at hl 3 rfl) ?_
        obtain ⟨hi21, hF⟩ := ld_s hF
        refine va_iald hx hb hK hP 32 0 rfl rfl hi21 dX10_mishapOf_50 ?_
        refine lv_topi (fun y20 ey20 => ?_)
        replace hF := hF y20 ey20
        refine lv_iconst (v := (-1)) hx hb dX10_mishapOf_51 (by decide) ?_
        refine lv_icmp_ne (tgt := 59) hx hb dX10_mishapOf_52 (by decide) (fun c22 => ?_) (fun c22 => ?_)
        · skip
          have hF := (if_neg c22).symm.trans hF
          refine lv_iconst (v := 0) hx hb dX10_mishapOf_59 (by decide) ?_
          obtain ⟨hi23, hF⟩ := sv_s hF
          refine va_iast hx hb hK hP hD hS 5 0 rfl rfl hi23 dX10_mishapOf_60 (fun H locs hP hD hS => ?_)
          obtain ⟨S24, eS24⟩ : ∃ z, z = wr S0 5 (y17 : Int32).toNatClampNeg 0 := ⟨_, rfl⟩
          replace hF := hF S24 eS24
          have hP : va_P D vwCl (YW y cy S24) H := by rw [eS24]; exact hP
          have hD : va_D (va_A (YW y cy S0) s.heap.size) (YW y cy S24) := by rw [eS24]; exact hD
          refine lv_aload_n hx hb dX10_mishapOf_61 rfl (lv_at hl 1 rfl) ?_
          refine va_get (D := D) (ci := 10) (v := .ref (y 30)) (C := RX10) (T := TX10) (N := 58) hx hb hts iX10_mishapOf_10 hown hK hP 0 rfl rfl 42 (by decide) (hts (.fieldLink RX10 111 "FondsRoomModel" "fBox" "[I") (List.mem_of_getElem? (i := 1) rfl)) (fun _ h9 => h9) rfl dX10_mishapOf_62 ?_
          refine lv_iload_n hx hb dX10_mishapOf_65 rfl (lv_at hl 3 rfl) ?_
          refine lv_iconst (v := (-1)) hx hb dX10_mishapOf_66 (by decide) ?_
          obtain ⟨hi25, hF⟩ := sv_s hF
          refine va_iast hx hb hK hP hD hS 30 0 rfl rfl hi25 dX10_mishapOf_67 (fun H locs hP hD hS => ?_)
          obtain ⟨S26, eS26⟩ : ∃ z, z = wr S24 30 (p2 : Int32).toNatClampNeg (-1) := ⟨_, rfl⟩
          replace hF := hF S26 eS26
          have hP : va_P D vwCl (YW y cy S26) H := by rw [eS26]; exact hP
          have hD : va_D (va_A (YW y cy S0) s.heap.size) (YW y cy S26) := by rw [eS26]; exact hD
          refine lv_goto (tgt := 112) hx hb dX10_mishapOf_68 (by decide) ?_
          have e2 := Option.some.inj hF
          have hP : va_P D vwCl (YW y cy Sf) H := by rw [← e2]; exact hP
          have hD : va_D (va_A (YW y cy S0) s.heap.size) (YW y cy Sf) := by rw [← e2]; exact hD
          exact W.vret hx hb hr (fun t ht hW => ⟨⟨(), rfl, trivial, by rw [ht]; exact hP, va_K.moved hW.alike hK, hD⟩, hS.F ht⟩) hS.2.2 dX10_mishapOf_112
        · skip
          have hF := (if_pos c22).symm.trans hF
          refine lv_iconst (v := 2) hx hb dX10_mishapOf_55 (by decide) ?_
          refine lv_goto (tgt := 60) hx hb dX10_mishapOf_56 (by decide) ?_
          obtain ⟨hi27, hF⟩ := sv_s hF
          refine va_iast hx hb hK hP hD hS 5 0 rfl rfl hi27 dX10_mishapOf_60 (fun H locs hP hD hS => ?_)
          obtain ⟨S28, eS28⟩ : ∃ z, z = wr S0 5 (y17 : Int32).toNatClampNeg 2 := ⟨_, rfl⟩
          replace hF := hF S28 eS28
          have hP : va_P D vwCl (YW y cy S28) H := by rw [eS28]; exact hP
          have hD : va_D (va_A (YW y cy S0) s.heap.size) (YW y cy S28) := by rw [eS28]; exact hD
          refine lv_aload_n hx hb dX10_mishapOf_61 rfl (lv_at hl 1 rfl) ?_
          refine va_get (D := D) (ci := 10) (v := .ref (y 30)) (C := RX10) (T := TX10) (N := 58) hx hb hts iX10_mishapOf_10 hown hK hP 0 rfl rfl 42 (by decide) (hts (.fieldLink RX10 111 "FondsRoomModel" "fBox" "[I") (List.mem_of_getElem? (i := 1) rfl)) (fun _ h9 => h9) rfl dX10_mishapOf_62 ?_
          refine lv_iload_n hx hb dX10_mishapOf_65 rfl (lv_at hl 3 rfl) ?_
          refine lv_iconst (v := (-1)) hx hb dX10_mishapOf_66 (by decide) ?_
          obtain ⟨hi29, hF⟩ := sv_s hF
          refine va_iast hx hb hK hP hD hS 30 0 rfl rfl hi29 dX10_mishapOf_67 (fun H locs hP hD hS => ?_)
          obtain ⟨S30, eS30⟩ : ∃ z, z = wr S28 30 (p2 : Int32).toNatClampNeg (-1) := ⟨_, rfl⟩
          replace hF := hF S30 eS30
          have hP : va_P D vwCl (YW y cy S30) H := by rw [eS30]; exact hP
          have hD : va_D (va_A (YW y cy S0) s.heap.size) (YW y cy S30) := by rw [eS30]; exact hD
          refine lv_goto (tgt := 112) hx hb dX10_mishapOf_68 (by decide) ?_
          have e2 := Option.some.inj hF
          have hP : va_P D vwCl (YW y cy Sf) H := by rw [← e2]; exact hP
          have hD : va_D (va_A (YW y cy S0) s.heap.size) (YW y cy Sf) := by rw [← e2]; exact hD
          exact W.vret hx hb hr (fun t ht hW => ⟨⟨(), rfl, trivial, by rw [ht]; exact hP, va_K.moved hW.alike hK, hD⟩, hS.F ht⟩) hS.2.2 dX10_mishapOf_112
      · skip
        have hF := (if_pos c19).symm.trans hF
        have e2 := Option.some.inj hF
        have hP : va_P D vwCl (YW y cy Sf) s.heap := by rw [← e2]; exact hP
        have hD : va_D (va_A (YW y cy S0) s.heap.size) (YW y cy Sf) := by rw [← e2]; exact hD
        exact W.vret hx hb hr (fun t ht hW => ⟨⟨(), rfl, trivial, by rw [ht]; exact hP, va_K.moved hW.alike hK, hD⟩, hS.F ht⟩) hS.2.2 dX10_mishapOf_39
  · skip
    have hF := (if_pos c1).symm.trans hF
    refine lv_aload_n hx hb dX10_mishapOf_4 rfl (lv_at hl 0 rfl) ?_
    refine lv_iload_n hx hb dX10_mishapOf_5 rfl (lv_at hl 2 rfl) ?_
    obtain ⟨r31, hq34, hF⟩ := bd1_s hF
    refine gvI (As := [.int p2]) (rest := []) ⟨hx, hb, hml, hown, hts⟩ (zX10_isHere l D y cy S0 _ p2 r31 hq34) (cwV 1 hts gX10_mishapOf_X10_isHere rfl rfl rfl (by decide +kernel) ⟨Nat.le_of_ble_eq_true rfl, Nat.le_of_ble_eq_true rfl⟩) hK hP hD hS hA (va_recv hK hP (ci := 10) (q0 := 0) rfl rfl) rfl hl.1 rfl (Nat.le_of_ble_eq_true rfl) dX10_mishapOf_6 ⟨Nat.le_of_ble_eq_true rfl, Nat.le_of_ble_eq_true rfl⟩ (fun a35 u9 H locs hw33 hP hD hS => ?_)
    have hP : va_P D vwCl (YW y cy S0) H := hP
    have hD : va_D _ (YW y cy S0) := hD
    refine lv_tov (v' := .int r31) (congrArg Value.int hw33.1) ?_
    refine lv_if_eq (tgt := 112) hx hb dX10_mishapOf_9 (by decide) (fun c36 => ?_) (fun c36 => ?_)
    · skip
      have hF := (if_pos c36).symm.trans hF
      have e2 := Option.some.inj hF
      have hP : va_P D vwCl (YW y cy Sf) H := by rw [← e2]; exact hP
      have hD : va_D (va_A (YW y cy S0) s.heap.size) (YW y cy Sf) := by rw [← e2]; exact hD
      exact W.vret hx hb hr (fun t ht hW => ⟨⟨(), rfl, trivial, by rw [ht]; exact hP, va_K.moved hW.alike hK, hD⟩, hS.F ht⟩) hS.2.2 dX10_mishapOf_112
    · skip
      have hF := (if_neg c36).symm.trans hF
      refine lv_aload_n hx hb dX10_mishapOf_12 rfl (lv_at hl 0 rfl) ?_
      refine lv_iload_n hx hb dX10_mishapOf_13 rfl (lv_at hl 2 rfl) ?_
      refine lv_bipush (v := 7) hx hb dX10_mishapOf_14 (by decide) ?_
      obtain ⟨S38, hq40, hF⟩ := bd1_s hF
      refine gvV (As := [.int p2, .int 7]) (rest := []) ⟨hx, hb, hml, hown, hts⟩ (zX10_sentAway l D y cy S0 _ p2 7 S38 hq40) (cwV 2 hts gX10_mishapOf_X10_sentAway rfl rfl rfl (by decide +kernel) ⟨Nat.le_of_ble_eq_true rfl, Nat.le_of_ble_eq_true rfl⟩) hK hP hD hS hA (va_recv hK hP (ci := 10) (q0 := 0) rfl rfl) rfl hl.1 rfl (Nat.le_of_ble_eq_true rfl) dX10_mishapOf_16 ⟨Nat.le_of_ble_eq_true rfl, Nat.le_of_ble_eq_true rfl⟩ (fun u9 H locs hw39 hP hD hS => ?_)
      have hP : va_P D vwCl (YW y cy S38) H := hP
      have hD : va_D _ (YW y cy S38) := hD
      refine lv_goto (tgt := 112) hx hb dX10_mishapOf_19 (by decide) ?_
      have e2 := Option.some.inj hF
      have hP : va_P D vwCl (YW y cy Sf) H := by rw [← e2]; exact hP
      have hD : va_D (va_A (YW y cy S0) s.heap.size) (YW y cy Sf) := by rw [← e2]; exact hD
      exact W.vret hx hb hr (fun t ht hW => ⟨⟨(), rfl, trivial, by rw [ht]; exact hP, va_K.moved hW.alike hK, hD⟩, hS.F ht⟩) hS.2.2 dX10_mishapOf_112

theorem iX10_doMishaps_10 : ∀ w ∈ wsX100, w ∈ wsX10_doMishaps := fun _ h => List.mem_cons_of_mem _ (List.mem_append_right _ h)
set_option maxHeartbeats 8000000 in
set_option maxRecDepth 100000 in
theorem zX10_doMishaps (l : Launch) (D : va_G) (y : Nat → Nat) (cy : Nat → ClassId) (S0 : RS) (sz : Nat) (Sf : RS) (hF : gX10_doMishaps S0  = some Sf) : Met l yX10_doMishaps wsX10_doMishaps ({ frames := 3, cells := 0, slots := 0, locals := 70 }) (PW D (TYS cy) (YW y cy S0) sz [.ref (y 0)]) (va_Qv (fun (u : Unit) => True) (BU D (TYS cy) (YW y cy S0) (fun _ => YW y cy Sf) sz) (va_A (YW y cy S0) sz)) 0 0 (va_A (YW y cy S0) sz) := by
  refine Met.ofW (cc := cX10_doMishaps) (maxL := 3) (ret := none) (by decide) rfl ?_
  intro p e s m args below meth c s₁ B hml hv
  obtain ⟨rfl, hsz, hP, hK, hD0⟩ := hv
  have hx := B.exec
  have hb := B.bytes
  have hr := B.returns
  have hts := atoms_spec (ws := wsX10_doMishaps) B.pre
  have hown : s.vm.findClass RX10 = some m.cls := findClass_of_methodNamed B.named
  have hlocks := B.notSynchronized
  subst hsz
  have hD := hD0.self (sz := s.heap.size)
  have hA : ∀ q9 : Nat, s.heap.size ≤ q9 → va_A (YW y cy S0) s.heap.size q9 := fun q9 h => Or.inr h
  have hS : va_S (va_A (YW y cy S0) s.heap.size) s.heap s.heap [] := va_S.rf
  have key4 : ∀ (K : Int32 → RS → Option (RS)), (∀ (v1 : Int32) (S : RS) (H : Heap) (locs : List Loc) (ls : Array Slot), K v1 S = some Sf → va_P D vwCl (YW y cy S) H → va_D (va_A (YW y cy S0) s.heap.size) (YW y cy S) → va_S (va_A (YW y cy S0) s.heap.size) s.heap H locs → lv_has ls 3 [(1, .int v1), (0, .ref (y 0))] → W p l e (headSpec wsX10_doMishaps ({ frames := 3, cells := 0, slots := 0, locals := 70 })).room s m #[.ref (y 0)] below meth c H locs 0 0 (MQ below (va_Qv (fun (u : Unit) => True) (BU D (TYS cy) (YW y cy S0) (fun _ => YW y cy Sf) s.heap.size) (va_A (YW y cy S0) s.heap.size)) #[.ref (y 0)] s 0 0 (va_A (YW y cy S0) s.heap.size)) (F0 m 89 ls [])) → ∀ (fu : Nat) (v1 : Int32) (v2 : Int32) (S : RS) (H : Heap) (locs : List Loc) (ls : Array Slot), gX10_doMishaps_4 K fu v1 v2 S = some Sf → va_P D vwCl (YW y cy S) H → va_D (va_A (YW y cy S0) s.heap.size) (YW y cy S) → va_S (va_A (YW y cy S0) s.heap.size) s.heap H locs → lv_has ls 3 [(1, .int v1), (2, .int v2), (0, .ref (y 0))] → W p l e (headSpec wsX10_doMishaps ({ frames := 3, cells := 0, slots := 0, locals := 70 })).room s m #[.ref (y 0)] below meth c H locs 0 0 (MQ below (va_Qv (fun (u : Unit) => True) (BU D (TYS cy) (YW y cy S0) (fun _ => YW y cy Sf) s.heap.size) (va_A (YW y cy S0) s.heap.size)) #[.ref (y 0)] s 0 0 (va_A (YW y cy S0) s.heap.size)) (F0 m 4 ls []) := by
    intro K hKK fu
    induction fu with
    | zero =>
      intro v1 v2 S H locs ls hF
      exact absurd (show (none : Option (RS)) = some Sf from hF) (by simp)
    | succ fu4 ih4 =>
      intro v1 v2 S H locs ls hF hP hD hS hl
      rw [gX10_doMishaps_4] at hF
      refine lv_iload_n hx hb dX10_doMishaps_4 rfl (lv_at hl 1 rfl) ?_
      refine lv_aload_n hx hb dX10_doMishaps_5 rfl (lv_at hl 2 rfl) ?_
      refine va_get (D := D) (ci := 10) (v := .int (S 0 52)) (C := RX10) (T := TX10) (N := 58) hx hb hts iX10_doMishaps_10 hown hK hP 0 rfl rfl 52 (by decide) (hts (.fieldLink RX10 183 "FondsRoomModel" "mishaps" "I") (List.mem_of_getElem? (i := 1) rfl)) (fun _ h9 => h9) rfl dX10_doMishaps_6 ?_
      refine lv_icmp_ge (tgt := 89) hx hb dX10_doMishaps_9 (by decide) (fun c1 => ?_) (fun c1 => ?_)
      · skip
        have hF := (if_pos c1).symm.trans hF
        exact hKK v1 S _ _ _ hF hP hD hS (lv_sub hl [0, 2] rfl)
      · skip
        have hF := (if_neg c1).symm.trans hF
        refine lv_aload_n hx hb dX10_doMishaps_12 rfl (lv_at hl 2 rfl) ?_
        refine va_get (D := D) (ci := 10) (v := .ref (y 39)) (C := RX10) (T := TX10) (N := 58) hx hb hts iX10_doMishaps_10 hown hK hP 0 rfl rfl 53 (by decide) (hts (.fieldLink RX10 138 "FondsRoomModel" "mTurn" "[I") (List.mem_of_getElem? (i := 2) rfl)) (fun _ h9 => h9) rfl dX10_doMishaps_13 ?_
        refine lv_iload_n hx hb dX10_doMishaps_16 rfl (lv_at hl 1 rfl) ?_
        obtain ⟨hi3, hF⟩ := ld_s hF
        refine va_iald hx hb hK hP 39 0 rfl rfl hi3 dX10_doMishaps_17 ?_
        refine lv_topi (fun y2 ey2 => ?_)
        replace hF := hF y2 ey2
        refine lv_aload_n hx hb dX10_doMishaps_18 rfl (lv_at hl 2 rfl) ?_
        refine va_get (D := D) (ci := 10) (v := .int (S 0 4)) (C := RX10) (T := TX10) (N := 58) hx hb hts iX10_doMishaps_10 hown hK hP 0 rfl rfl 4 (by decide) (hts (.fieldLink RX10 163 "FondsRoomModel" "turn" "I") (List.mem_of_getElem? (i := 3) rfl)) (fun _ h9 => h9) rfl dX10_doMishaps_19 ?_
        refine lv_icmp_ne (tgt := 44) hx hb dX10_doMishaps_22 (by decide) (fun c4 => ?_) (fun c4 => ?_)
        · skip
          have hF := (if_neg c4).symm.trans hF
          refine lv_aload_n hx hb dX10_doMishaps_44 rfl (lv_at hl 2 rfl) ?_
          refine va_get (D := D) (ci := 10) (v := .ref (y 39)) (C := RX10) (T := TX10) (N := 58) hx hb hts iX10_doMishaps_10 hown hK hP 0 rfl rfl 53 (by decide) (hts (.fieldLink RX10 138 "FondsRoomModel" "mTurn" "[I") (List.mem_of_getElem? (i := 2) rfl)) (fun _ h9 => h9) rfl dX10_doMishaps_45 ?_
          refine lv_iload_n hx hb dX10_doMishaps_48 rfl (lv_at hl 0 rfl) ?_
          refine lv_aload_n hx hb dX10_doMishaps_49 rfl (lv_at hl 2 rfl) ?_
          refine va_get (D := D) (ci := 10) (v := .ref (y 39)) (C := RX10) (T := TX10) (N := 58) hx hb hts iX10_doMishaps_10 hown hK hP 0 rfl rfl 53 (by decide) (hts (.fieldLink RX10 138 "FondsRoomModel" "mTurn" "[I") (List.mem_of_getElem? (i := 2) rfl)) (fun _ h9 => h9) rfl dX10_doMishaps_50 ?_
          refine lv_iload_n hx hb dX10_doMishaps_53 rfl (lv_at hl 1 rfl) ?_
          obtain ⟨hi6, hF⟩ := ld_s hF
          refine va_iald hx hb hK hP 39 0 rfl rfl hi6 dX10_doMishaps_54 ?_
          refine lv_topi (fun y5 ey5 => ?_)
          replace hF := hF y5 ey5
          obtain ⟨hi7, hF⟩ := sv_s hF
          refine va_iast hx hb hK hP hD hS 39 0 rfl rfl hi7 dX10_doMishaps_55 (fun H locs hP hD hS => ?_)
          obtain ⟨S8, eS8⟩ : ∃ z, z = wr S 39 (v1 : Int32).toNatClampNeg y5 := ⟨_, rfl⟩
          replace hF := hF S8 eS8
          have hP : va_P D vwCl (YW y cy S8) H := by rw [eS8]; exact hP
          have hD : va_D (va_A (YW y cy S0) s.heap.size) (YW y cy S8) := by rw [eS8]; exact hD
          refine lv_aload_n hx hb dX10_doMishaps_56 rfl (lv_at hl 2 rfl) ?_
          refine va_get (D := D) (ci := 10) (v := .ref (y 40)) (C := RX10) (T := TX10) (N := 58) hx hb hts iX10_doMishaps_10 hown hK hP 0 rfl rfl 54 (by decide) (hts (.fieldLink RX10 141 "FondsRoomModel" "mKind" "[I") (List.mem_of_getElem? (i := 4) rfl)) (fun _ h9 => h9) rfl dX10_doMishaps_57 ?_
          refine lv_iload_n hx hb dX10_doMishaps_60 rfl (lv_at hl 0 rfl) ?_
          refine lv_aload_n hx hb dX10_doMishaps_61 rfl (lv_at hl 2 rfl) ?_
          refine va_get (D := D) (ci := 10) (v := .ref (y 40)) (C := RX10) (T := TX10) (N := 58) hx hb hts iX10_doMishaps_10 hown hK hP 0 rfl rfl 54 (by decide) (hts (.fieldLink RX10 141 "FondsRoomModel" "mKind" "[I") (List.mem_of_getElem? (i := 4) rfl)) (fun _ h9 => h9) rfl dX10_doMishaps_62 ?_
          refine lv_iload_n hx hb dX10_doMishaps_65 rfl (lv_at hl 1 rfl) ?_
          obtain ⟨hi10, hF⟩ := ld_s hF
          refine va_iald hx hb hK hP 40 0 rfl rfl hi10 dX10_doMishaps_66 ?_
          refine lv_topi (fun y9 ey9 => ?_)
          replace hF := hF y9 ey9
          obtain ⟨hi11, hF⟩ := sv_s hF
          refine va_iast hx hb hK hP hD hS 40 0 rfl rfl hi11 dX10_doMishaps_67 (fun H locs hP hD hS => ?_)
          obtain ⟨S12, eS12⟩ : ∃ z, z = wr S8 40 (v1 : Int32).toNatClampNeg y9 := ⟨_, rfl⟩
          replace hF := hF S12 eS12
          have hP : va_P D vwCl (YW y cy S12) H := by rw [eS12]; exact hP
          have hD : va_D (va_A (YW y cy S0) s.heap.size) (YW y cy S12) := by rw [eS12]; exact hD
          refine lv_aload_n hx hb dX10_doMishaps_68 rfl (lv_at hl 2 rfl) ?_
          refine va_get (D := D) (ci := 10) (v := .ref (y 41)) (C := RX10) (T := TX10) (N := 58) hx hb hts iX10_doMishaps_10 hown hK hP 0 rfl rfl 55 (by decide) (hts (.fieldLink RX10 144 "FondsRoomModel" "mWho" "[I") (List.mem_of_getElem? (i := 5) rfl)) (fun _ h9 => h9) rfl dX10_doMishaps_69 ?_
          refine lv_iload_n hx hb dX10_doMishaps_72 rfl (lv_at hl 0 rfl) ?_
          refine lv_aload_n hx hb dX10_doMishaps_73 rfl (lv_at hl 2 rfl) ?_
          refine va_get (D := D) (ci := 10) (v := .ref (y 41)) (C := RX10) (T := TX10) (N := 58) hx hb hts iX10_doMishaps_10 hown hK hP 0 rfl rfl 55 (by decide) (hts (.fieldLink RX10 144 "FondsRoomModel" "mWho" "[I") (List.mem_of_getElem? (i := 5) rfl)) (fun _ h9 => h9) rfl dX10_doMishaps_74 ?_
          refine lv_iload_n hx hb dX10_doMishaps_77 rfl (lv_at hl 1 rfl) ?_
          obtain ⟨hi14, hF⟩ := ld_s hF
          refine va_iald hx hb hK hP 41 0 rfl rfl hi14 dX10_doMishaps_78 ?_
          refine lv_topi (fun y13 ey13 => ?_)
          replace hF := hF y13 ey13
          obtain ⟨hi15, hF⟩ := sv_s hF
          refine va_iast hx hb hK hP hD hS 41 0 rfl rfl hi15 dX10_doMishaps_79 (fun H locs hP hD hS => ?_)
          obtain ⟨S16, eS16⟩ : ∃ z, z = wr S12 41 (v1 : Int32).toNatClampNeg y13 := ⟨_, rfl⟩
          replace hF := hF S16 eS16
          have hP : va_P D vwCl (YW y cy S16) H := by rw [eS16]; exact hP
          have hD : va_D (va_A (YW y cy S0) s.heap.size) (YW y cy S16) := by rw [eS16]; exact hD
          refine lv_iinc (v := v1 + 1) (lv' := [(1, .int (v1 + 1)), (2, .int v2), (0, .ref (y 0))]) hx hb dX10_doMishaps_80 hl (k := 0) rfl rfl (by decide) rfl (fun ls hl => ?_)
          refine lv_iinc (v := v2 + 1) (lv' := [(2, .int (v2 + 1)), (1, .int (v1 + 1)), (0, .ref (y 0))]) hx hb dX10_doMishaps_83 hl (k := 1) rfl rfl (by decide) rfl (fun ls hl => ?_)
          refine lv_goto (tgt := 4) hx hb dX10_doMishaps_86 (by decide) ?_
          exact ih4 (v1 + 1) (v2 + 1) S16 _ _ _ hF hP hD hS (lv_sub hl [1, 0, 2] rfl)
        · skip
          have hF := (if_pos c4).symm.trans hF
          refine lv_aload_n hx hb dX10_doMishaps_25 rfl (lv_at hl 2 rfl) ?_
          refine lv_aload_n hx hb dX10_doMishaps_26 rfl (lv_at hl 2 rfl) ?_
          refine va_get (D := D) (ci := 10) (v := .ref (y 40)) (C := RX10) (T := TX10) (N := 58) hx hb hts iX10_doMishaps_10 hown hK hP 0 rfl rfl 54 (by decide) (hts (.fieldLink RX10 141 "FondsRoomModel" "mKind" "[I") (List.mem_of_getElem? (i := 4) rfl)) (fun _ h9 => h9) rfl dX10_doMishaps_27 ?_
          refine lv_iload_n hx hb dX10_doMishaps_30 rfl (lv_at hl 1 rfl) ?_
          obtain ⟨hi18, hF⟩ := ld_s hF
          refine va_iald hx hb hK hP 40 0 rfl rfl hi18 dX10_doMishaps_31 ?_
          refine lv_topi (fun y17 ey17 => ?_)
          replace hF := hF y17 ey17
          refine lv_aload_n hx hb dX10_doMishaps_32 rfl (lv_at hl 2 rfl) ?_
          refine va_get (D := D) (ci := 10) (v := .ref (y 41)) (C := RX10) (T := TX10) (N := 58) hx hb hts iX10_doMishaps_10 hown hK hP 0 rfl rfl 55 (by decide) (hts (.fieldLink RX10 144 "FondsRoomModel" "mWho" "[I") (List.mem_of_getElem? (i := 5) rfl)) (fun _ h9 => h9) rfl dX10_doMishaps_33 ?_
          refine lv_iload_n hx hb dX10_doMishaps_36 rfl (lv_at hl 1 rfl) ?_
          obtain ⟨hi20, hF⟩ := ld_s hF
          refine va_iald hx hb hK hP 41 0 rfl rfl hi20 dX10_doMishaps_37 ?_
          refine lv_topi (fun y19 ey19 => ?_)
          replace hF := hF y19 ey19
          obtain ⟨S22, hq24, hF⟩ := bd1_s hF
          refine gvV (As := [.int y17, .int y19]) (rest := []) ⟨hx, hb, hml, hown, hts⟩ (zX10_mishapOf l D y cy S _ y17 y19 S22 hq24) (cwV 2 hts gX10_doMishaps_X10_mishapOf rfl rfl rfl (by decide +kernel) ⟨Nat.le_of_ble_eq_true rfl, Nat.le_of_ble_eq_true rfl⟩) hK hP hD hS hA (va_recv hK hP (ci := 10) (q0 := 0) rfl rfl) rfl hl.1 rfl (Nat.le_of_ble_eq_true rfl) dX10_doMishaps_38 ⟨Nat.le_of_ble_eq_true rfl, Nat.le_of_ble_eq_true rfl⟩ (fun u9 H locs hw23 hP hD hS => ?_)
          have hP : va_P D vwCl (YW y cy S22) H := hP
          have hD : va_D _ (YW y cy S22) := hD
          refine lv_goto (tgt := 83) hx hb dX10_doMishaps_41 (by decide) ?_
          refine lv_iinc (v := v2 + 1) (lv' := [(2, .int (v2 + 1)), (1, .int v1), (0, .ref (y 0))]) hx hb dX10_doMishaps_83 hl (k := 1) rfl rfl (by decide) rfl (fun ls hl => ?_)
          refine lv_goto (tgt := 4) hx hb dX10_doMishaps_86 (by decide) ?_
          exact ih4 v1 (v2 + 1) S22 _ _ _ hF hP hD hS (lv_sub hl [1, 0, 2] rfl)
  have hl := lv_entry ([.ref (y 0)]) (n := 3) (Nat.le_of_ble_eq_true rfl)
  rw [lg_entry_eq]
  generalize (lg_sl ([.ref (y 0)]) ++ List.replicate (3 - (lg_sl ([.ref (y 0)])).length) Slot.unset).toArray = ls at hl ⊢
  have hl : lv_has ls 3 [(0, .ref (y 0))] := hl
  unfold gX10_doMishaps at hF
  refine lv_iconst (v := 0) hx hb dX10_doMishaps_0 (by decide) ?_
  refine lv_istore_n (lv' := [(1, .int 0), (0, .ref (y 0))]) hx hb dX10_doMishaps_1 rfl hl (by decide) rfl (fun ls hl => ?_)
  refine lv_iconst (v := 0) hx hb dX10_doMishaps_2 (by decide) ?_
  refine lv_istore_n (lv' := [(2, .int 0), (1, .int 0), (0, .ref (y 0))]) hx hb dX10_doMishaps_3 rfl hl (by decide) rfl (fun ls hl => ?_)
  refine key4 _ ?_ 1000 0 0 S0 _ _ _ hF hP hD hS (lv_sub hl [1, 0, 2] rfl)
  intro v1_26 S27 H locs ls hF hP hD hS hl
  refine lv_aload_n hx hb dX10_doMishaps_89 rfl (lv_at hl 1 rfl) ?_
  refine lv_iload_n hx hb dX10_doMishaps_90 rfl (lv_at hl 0 rfl) ?_
  refine va_put (D := D) (ci := 10) (v := .int v1_26) (ty := .int) (C := RX10) (T := TX10) (N := 58) hx hb hts iX10_doMishaps_10 tyX10 tyX10_ok nmX10 hown hK hP hD hS 0 rfl rfl 52 (by decide) (hts (.fieldLink RX10 183 "FondsRoomModel" "mishaps" "I") (List.mem_of_getElem? (i := 1) rfl)) (fun _ h9 => h9) rfl (by decide +kernel) rfl rfl (Nat.le_of_ble_eq_true rfl) dX10_doMishaps_91 (fun H locs hP hD hS => ?_)
  obtain ⟨S28, eS28⟩ : ∃ z, z = wr S27 0 52 v1_26 := ⟨_, rfl⟩
  replace hF := bnd_s hF S28 eS28
  have hP : va_P D vwCl (YW y cy S28) H := by rw [eS28]; exact hP
  have hD : va_D (va_A (YW y cy S0) s.heap.size) (YW y cy S28) := by rw [eS28]; exact hD
  have e2 := Option.some.inj hF
  have hP : va_P D vwCl (YW y cy Sf) H := by rw [← e2]; exact hP
  have hD : va_D (va_A (YW y cy S0) s.heap.size) (YW y cy Sf) := by rw [← e2]; exact hD
  exact W.vret hx hb hr (fun t ht hW => ⟨⟨(), rfl, trivial, by rw [ht]; exact hP, va_K.moved hW.alike hK, hD⟩, hS.F ht⟩) hS.2.2 dX10_doMishaps_94

theorem iX10_doBell_10 : ∀ w ∈ wsX100, w ∈ wsX10_doBell := fun _ h => List.mem_cons_of_mem _ (List.mem_append_right _ h)
set_option maxHeartbeats 8000000 in
set_option maxRecDepth 100000 in
theorem zX10_doBell (l : Launch) (D : va_G) (y : Nat → Nat) (cy : Nat → ClassId) (S0 : RS) (sz : Nat) (Sf : RS) (hF : gX10_doBell S0  = some Sf) : Met l yX10_doBell wsX10_doBell ({ frames := 2, cells := 0, slots := 0, locals := 47 }) (PW D (TYS cy) (YW y cy S0) sz [.ref (y 0)]) (va_Qv (fun (u : Unit) => True) (BU D (TYS cy) (YW y cy S0) (fun _ => YW y cy Sf) sz) (va_A (YW y cy S0) sz)) 0 0 (va_A (YW y cy S0) sz) := by
  refine Met.ofW (cc := cX10_doBell) (maxL := 2) (ret := none) (by decide) rfl ?_
  intro p e s m args below meth c s₁ B hml hv
  obtain ⟨rfl, hsz, hP, hK, hD0⟩ := hv
  have hx := B.exec
  have hb := B.bytes
  have hr := B.returns
  have hts := atoms_spec (ws := wsX10_doBell) B.pre
  have hown : s.vm.findClass RX10 = some m.cls := findClass_of_methodNamed B.named
  have hlocks := B.notSynchronized
  subst hsz
  have hD := hD0.self (sz := s.heap.size)
  have hA : ∀ q9 : Nat, s.heap.size ≤ q9 → va_A (YW y cy S0) s.heap.size q9 := fun q9 h => Or.inr h
  have hS : va_S (va_A (YW y cy S0) s.heap.size) s.heap s.heap [] := va_S.rf
  have key14 : ∀ (K : RS → Option (RS)), (∀  (S : RS) (H : Heap) (locs : List Loc) (ls : Array Slot), K  S = some Sf → va_P D vwCl (YW y cy S) H → va_D (va_A (YW y cy S0) s.heap.size) (YW y cy S) → va_S (va_A (YW y cy S0) s.heap.size) s.heap H locs → lv_has ls 2 [(0, .ref (y 0))] → W p l e (headSpec wsX10_doBell ({ frames := 2, cells := 0, slots := 0, locals := 47 })).room s m #[.ref (y 0)] below meth c H locs 0 0 (MQ below (va_Qv (fun (u : Unit) => True) (BU D (TYS cy) (YW y cy S0) (fun _ => YW y cy Sf) s.heap.size) (va_A (YW y cy S0) s.heap.size)) #[.ref (y 0)] s 0 0 (va_A (YW y cy S0) s.heap.size)) (F0 m 73 ls [])) → ∀ (fu : Nat) (v1 : Int32) (S : RS) (H : Heap) (locs : List Loc) (ls : Array Slot), gX10_doBell_14 K fu v1 S = some Sf → va_P D vwCl (YW y cy S) H → va_D (va_A (YW y cy S0) s.heap.size) (YW y cy S) → va_S (va_A (YW y cy S0) s.heap.size) s.heap H locs → lv_has ls 2 [(1, .int v1), (0, .ref (y 0))] → W p l e (headSpec wsX10_doBell ({ frames := 2, cells := 0, slots := 0, locals := 47 })).room s m #[.ref (y 0)] below meth c H locs 0 0 (MQ below (va_Qv (fun (u : Unit) => True) (BU D (TYS cy) (YW y cy S0) (fun _ => YW y cy Sf) s.heap.size) (va_A (YW y cy S0) s.heap.size)) #[.ref (y 0)] s 0 0 (va_A (YW y cy S0) s.heap.size)) (F0 m 14 ls []) := by
    intro K hKK fu
    induction fu with
    | zero =>
      intro v1 S H locs ls hF
      exact absurd (show (none : Option (RS)) = some Sf from hF) (by simp)
    | succ fu14 ih14 =>
      intro v1 S H locs ls hF hP hD hS hl
      rw [gX10_doBell_14] at hF
      refine lv_iload_n hx hb dX10_doBell_14 rfl (lv_at hl 0 rfl) ?_
      refine lv_aload_n hx hb dX10_doBell_15 rfl (lv_at hl 1 rfl) ?_
      refine va_get (D := D) (ci := 10) (v := .int (S 0 3)) (C := RX10) (T := TX10) (N := 58) hx hb hts iX10_doBell_10 hown hK hP 0 rfl rfl 3 (by decide) (hts (.fieldLink RX10 153 "FondsRoomModel" "readers" "I") (List.mem_of_getElem? (i := 3) rfl)) (fun _ h9 => h9) rfl dX10_doBell_16 ?_
      refine lv_icmp_ge (tgt := 73) hx hb dX10_doBell_19 (by decide) (fun c2 => ?_) (fun c2 => ?_)
      · skip
        have hF := (if_pos c2).symm.trans hF
        exact hKK  S _ _ _ hF hP hD hS (lv_sub hl [1] rfl)
      · skip
        have hF := (if_neg c2).symm.trans hF
        refine lv_aload_n hx hb dX10_doBell_22 rfl (lv_at hl 1 rfl) ?_
        refine va_get (D := D) (ci := 10) (v := .ref (y 15)) (C := RX10) (T := TX10) (N := 58) hx hb hts iX10_doBell_10 hown hK hP 0 rfl rfl 27 (by decide) (hts (.fieldLink RX10 66 "FondsRoomModel" "state" "[I") (List.mem_of_getElem? (i := 4) rfl)) (fun _ h9 => h9) rfl dX10_doBell_23 ?_
        refine lv_iload_n hx hb dX10_doBell_26 rfl (lv_at hl 0 rfl) ?_
        obtain ⟨hi4, hF⟩ := ld_s hF
        refine va_iald hx hb hK hP 15 0 rfl rfl hi4 dX10_doBell_27 ?_
        refine lv_topi (fun y3 ey3 => ?_)
        replace hF := hF y3 ey3
        refine lv_if_ne (tgt := 52) hx hb dX10_doBell_28 (by decide) (fun c5 => ?_) (fun c5 => ?_)
        · skip
          have hF := (if_neg c5).symm.trans hF
          refine lv_aload_n hx hb dX10_doBell_52 rfl (lv_at hl 1 rfl) ?_
          refine lv_iload_n hx hb dX10_doBell_53 rfl (lv_at hl 0 rfl) ?_
          obtain ⟨r6, hq9, hF⟩ := bd1_s hF
          refine gvI (As := [.int v1]) (rest := []) ⟨hx, hb, hml, hown, hts⟩ (zX10_isHere l D y cy S _ v1 r6 hq9) (cwV 1 hts gX10_doBell_X10_isHere rfl rfl rfl (by decide +kernel) ⟨Nat.le_of_ble_eq_true rfl, Nat.le_of_ble_eq_true rfl⟩) hK hP hD hS hA (va_recv hK hP (ci := 10) (q0 := 0) rfl rfl) rfl hl.1 rfl (Nat.le_of_ble_eq_true rfl) dX10_doBell_54 ⟨Nat.le_of_ble_eq_true rfl, Nat.le_of_ble_eq_true rfl⟩ (fun a10 u9 H locs hw8 hP hD hS => ?_)
          have hP : va_P D vwCl (YW y cy S) H := hP
          have hD : va_D _ (YW y cy S) := hD
          refine lv_tov (v' := .int r6) (congrArg Value.int hw8.1) ?_
          refine lv_if_eq (tgt := 67) hx hb dX10_doBell_57 (by decide) (fun c11 => ?_) (fun c11 => ?_)
          · skip
            have hF := (if_pos c11).symm.trans hF
            refine lv_iinc (v := v1 + 1) (lv' := [(1, .int (v1 + 1)), (0, .ref (y 0))]) hx hb dX10_doBell_67 hl (k := 0) rfl rfl (by decide) rfl (fun ls hl => ?_)
            refine lv_goto (tgt := 14) hx hb dX10_doBell_70 (by decide) ?_
            exact ih14 (v1 + 1) S _ _ _ hF hP hD hS (lv_sub hl [0, 1] rfl)
          · skip
            have hF := (if_neg c11).symm.trans hF
            refine lv_aload_n hx hb dX10_doBell_60 rfl (lv_at hl 1 rfl) ?_
            refine lv_iload_n hx hb dX10_doBell_61 rfl (lv_at hl 0 rfl) ?_
            refine lv_bipush (v := 6) hx hb dX10_doBell_62 (by decide) ?_
            obtain ⟨S13, hq15, hF⟩ := bd1_s hF
            refine gvV (As := [.int v1, .int 6]) (rest := []) ⟨hx, hb, hml, hown, hts⟩ (zX10_sentAway l D y cy S _ v1 6 S13 hq15) (cwV 2 hts gX10_doBell_X10_sentAway rfl rfl rfl (by decide +kernel) ⟨Nat.le_of_ble_eq_true rfl, Nat.le_of_ble_eq_true rfl⟩) hK hP hD hS hA (va_recv hK hP (ci := 10) (q0 := 0) rfl rfl) rfl hl.1 rfl (Nat.le_of_ble_eq_true rfl) dX10_doBell_64 ⟨Nat.le_of_ble_eq_true rfl, Nat.le_of_ble_eq_true rfl⟩ (fun u9 H locs hw14 hP hD hS => ?_)
            have hP : va_P D vwCl (YW y cy S13) H := hP
            have hD : va_D _ (YW y cy S13) := hD
            refine lv_iinc (v := v1 + 1) (lv' := [(1, .int (v1 + 1)), (0, .ref (y 0))]) hx hb dX10_doBell_67 hl (k := 0) rfl rfl (by decide) rfl (fun ls hl => ?_)
            refine lv_goto (tgt := 14) hx hb dX10_doBell_70 (by decide) ?_
            exact ih14 (v1 + 1) S13 _ _ _ hF hP hD hS (lv_sub hl [0, 1] rfl)
        · skip
          have hF := (if_pos c5).symm.trans hF
          refine lv_aload_n hx hb dX10_doBell_31 rfl (lv_at hl 1 rfl) ?_
          refine va_get (D := D) (ci := 10) (v := .ref (y 15)) (C := RX10) (T := TX10) (N := 58) hx hb hts iX10_doBell_10 hown hK hP 0 rfl rfl 27 (by decide) (hts (.fieldLink RX10 66 "FondsRoomModel" "state" "[I") (List.mem_of_getElem? (i := 4) rfl)) (fun _ h9 => h9) rfl dX10_doBell_32 ?_
          refine lv_iload_n hx hb dX10_doBell_35 rfl (lv_at hl 0 rfl) ?_
          refine lv_bipush (v := 6) hx hb dX10_doBell_36 (by decide) ?_
          obtain ⟨hi17, hF⟩ := sv_s hF
          refine va_iast hx hb hK hP hD hS 15 0 rfl rfl hi17 dX10_doBell_38 (fun H locs hP hD hS => ?_)
          obtain ⟨S18, eS18⟩ : ∃ z, z = wr S 15 (v1 : Int32).toNatClampNeg 6 := ⟨_, rfl⟩
          replace hF := hF S18 eS18
          have hP : va_P D vwCl (YW y cy S18) H := by rw [eS18]; exact hP
          have hD : va_D (va_A (YW y cy S0) s.heap.size) (YW y cy S18) := by rw [eS18]; exact hD
          refine lv_aload_n hx hb dX10_doBell_39 rfl (lv_at hl 1 rfl) ?_
          refine lv_iload_n hx hb dX10_doBell_40 rfl (lv_at hl 0 rfl) ?_
          refine lv_bipush (v := 8) hx hb dX10_doBell_41 (by decide) ?_
          refine lv_bipush (v := 6) hx hb dX10_doBell_43 (by decide) ?_
          refine lv_iconst (v := 1) hx hb dX10_doBell_45 (by decide) ?_
          obtain ⟨S20, hq22, hF⟩ := bd1_s hF
          refine gvV (As := [.int v1, .int 8, .int 6, .int 1]) (rest := []) ⟨hx, hb, hml, hown, hts⟩ (zX10_event l D y cy S18 _ v1 8 6 1 S20 hq22) (cwV 4 hts gX10_doBell_X10_event rfl rfl rfl (by decide +kernel) ⟨Nat.le_of_ble_eq_true rfl, Nat.le_of_ble_eq_true rfl⟩) hK hP hD hS hA (va_recv hK hP (ci := 10) (q0 := 0) rfl rfl) rfl hl.1 rfl (Nat.le_of_ble_eq_true rfl) dX10_doBell_46 ⟨Nat.le_of_ble_eq_true rfl, Nat.le_of_ble_eq_true rfl⟩ (fun u9 H locs hw21 hP hD hS => ?_)
          have hP : va_P D vwCl (YW y cy S20) H := hP
          have hD : va_D _ (YW y cy S20) := hD
          refine lv_goto (tgt := 67) hx hb dX10_doBell_49 (by decide) ?_
          refine lv_iinc (v := v1 + 1) (lv' := [(1, .int (v1 + 1)), (0, .ref (y 0))]) hx hb dX10_doBell_67 hl (k := 0) rfl rfl (by decide) rfl (fun ls hl => ?_)
          refine lv_goto (tgt := 14) hx hb dX10_doBell_70 (by decide) ?_
          exact ih14 (v1 + 1) S20 _ _ _ hF hP hD hS (lv_sub hl [0, 1] rfl)
  have key75 : ∀ (K : RS → Option (RS)), (∀  (S : RS) (H : Heap) (locs : List Loc) (ls : Array Slot), K  S = some Sf → va_P D vwCl (YW y cy S) H → va_D (va_A (YW y cy S0) s.heap.size) (YW y cy S) → va_S (va_A (YW y cy S0) s.heap.size) s.heap H locs → lv_has ls 2 [] → W p l e (headSpec wsX10_doBell ({ frames := 2, cells := 0, slots := 0, locals := 47 })).room s m #[.ref (y 0)] below meth c H locs 0 0 (MQ below (va_Qv (fun (u : Unit) => True) (BU D (TYS cy) (YW y cy S0) (fun _ => YW y cy Sf) s.heap.size) (va_A (YW y cy S0) s.heap.size)) #[.ref (y 0)] s 0 0 (va_A (YW y cy S0) s.heap.size)) (F0 m 131 ls [])) → ∀ (fu : Nat) (v1 : Int32) (S : RS) (H : Heap) (locs : List Loc) (ls : Array Slot), gX10_doBell_75 K fu v1 S = some Sf → va_P D vwCl (YW y cy S) H → va_D (va_A (YW y cy S0) s.heap.size) (YW y cy S) → va_S (va_A (YW y cy S0) s.heap.size) s.heap H locs → lv_has ls 2 [(1, .int v1), (0, .ref (y 0))] → W p l e (headSpec wsX10_doBell ({ frames := 2, cells := 0, slots := 0, locals := 47 })).room s m #[.ref (y 0)] below meth c H locs 0 0 (MQ below (va_Qv (fun (u : Unit) => True) (BU D (TYS cy) (YW y cy S0) (fun _ => YW y cy Sf) s.heap.size) (va_A (YW y cy S0) s.heap.size)) #[.ref (y 0)] s 0 0 (va_A (YW y cy S0) s.heap.size)) (F0 m 75 ls []) := by
    intro K hKK fu
    induction fu with
    | zero =>
      intro v1 S H locs ls hF
      exact absurd (show (none : Option (RS)) = some Sf from hF) (by simp)
    | succ fu75 ih75 =>
      intro v1 S H locs ls hF hP hD hS hl
      rw [gX10_doBell_75] at hF
      refine lv_iload_n hx hb dX10_doBell_75 rfl (lv_at hl 0 rfl) ?_
      refine lv_aload_n hx hb dX10_doBell_76 rfl (lv_at hl 1 rfl) ?_
      refine va_get (D := D) (ci := 10) (v := .int (S 0 7)) (C := RX10) (T := TX10) (N := 58) hx hb hts iX10_doBell_10 hown hK hP 0 rfl rfl 7 (by decide) (hts (.fieldLink RX10 16 "FondsRoomModel" "fetchers" "I") (List.mem_of_getElem? (i := 5) rfl)) (fun _ h9 => h9) rfl dX10_doBell_77 ?_
      refine lv_icmp_ge (tgt := 131) hx hb dX10_doBell_80 (by decide) (fun c25 => ?_) (fun c25 => ?_)
      · skip
        have hF := (if_pos c25).symm.trans hF
        exact hKK  S _ _ _ hF hP hD hS (lv_sub hl [] rfl)
      · skip
        have hF := (if_neg c25).symm.trans hF
        refine lv_aload_n hx hb dX10_doBell_83 rfl (lv_at hl 1 rfl) ?_
        refine va_get (D := D) (ci := 10) (v := .ref (y 30)) (C := RX10) (T := TX10) (N := 58) hx hb hts iX10_doBell_10 hown hK hP 0 rfl rfl 42 (by decide) (hts (.fieldLink RX10 111 "FondsRoomModel" "fBox" "[I") (List.mem_of_getElem? (i := 6) rfl)) (fun _ h9 => h9) rfl dX10_doBell_84 ?_
        refine lv_iload_n hx hb dX10_doBell_87 rfl (lv_at hl 0 rfl) ?_
        obtain ⟨hi27, hF⟩ := ld_s hF
        refine va_iald hx hb hK hP 30 0 rfl rfl hi27 dX10_doBell_88 ?_
        refine lv_topi (fun y26 ey26 => ?_)
        replace hF := hF y26 ey26
        refine lv_iconst (v := (-1)) hx hb dX10_doBell_89 (by decide) ?_
        refine lv_icmp_eq (tgt := 125) hx hb dX10_doBell_90 (by decide) (fun c28 => ?_) (fun c28 => ?_)
        · skip
          have hF := (if_pos c28).symm.trans hF
          refine lv_iinc (v := v1 + 1) (lv' := [(1, .int (v1 + 1)), (0, .ref (y 0))]) hx hb dX10_doBell_125 hl (k := 0) rfl rfl (by decide) rfl (fun ls hl => ?_)
          refine lv_goto (tgt := 75) hx hb dX10_doBell_128 (by decide) ?_
          exact ih75 (v1 + 1) S _ _ _ hF hP hD hS (lv_sub hl [0, 1] rfl)
        · skip
          have hF := (if_neg c28).symm.trans hF
          refine lv_aload_n hx hb dX10_doBell_93 rfl (lv_at hl 1 rfl) ?_
          refine va_get (D := D) (ci := 10) (v := .ref (y 32)) (C := RX10) (T := TX10) (N := 58) hx hb hts iX10_doBell_10 hown hK hP 0 rfl rfl 44 (by decide) (hts (.fieldLink RX10 117 "FondsRoomModel" "fTo" "[I") (List.mem_of_getElem? (i := 7) rfl)) (fun _ h9 => h9) rfl dX10_doBell_94 ?_
          refine lv_iload_n hx hb dX10_doBell_97 rfl (lv_at hl 0 rfl) ?_
          obtain ⟨hi30, hF⟩ := ld_s hF
          refine va_iald hx hb hK hP 32 0 rfl rfl hi30 dX10_doBell_98 ?_
          refine lv_topi (fun y29 ey29 => ?_)
          replace hF := hF y29 ey29
          refine lv_iconst (v := (-1)) hx hb dX10_doBell_99 (by decide) ?_
          refine lv_icmp_ne (tgt := 106) hx hb dX10_doBell_100 (by decide) (fun c31 => ?_) (fun c31 => ?_)
          · skip
            have hF := (if_neg c31).symm.trans hF
            refine lv_aload_n hx hb dX10_doBell_106 rfl (lv_at hl 1 rfl) ?_
            refine va_get (D := D) (ci := 10) (v := .ref (y 5)) (C := RX10) (T := TX10) (N := 58) hx hb hts iX10_doBell_10 hown hK hP 0 rfl rfl 13 (by decide) (hts (.fieldLink RX10 36 "FondsRoomModel" "place" "[I") (List.mem_of_getElem? (i := 8) rfl)) (fun _ h9 => h9) rfl dX10_doBell_107 ?_
            refine lv_aload_n hx hb dX10_doBell_110 rfl (lv_at hl 1 rfl) ?_
            refine va_get (D := D) (ci := 10) (v := .ref (y 30)) (C := RX10) (T := TX10) (N := 58) hx hb hts iX10_doBell_10 hown hK hP 0 rfl rfl 42 (by decide) (hts (.fieldLink RX10 111 "FondsRoomModel" "fBox" "[I") (List.mem_of_getElem? (i := 6) rfl)) (fun _ h9 => h9) rfl dX10_doBell_111 ?_
            refine lv_iload_n hx hb dX10_doBell_114 rfl (lv_at hl 0 rfl) ?_
            obtain ⟨hi33, hF⟩ := ld_s hF
            refine va_iald hx hb hK hP 30 0 rfl rfl hi33 dX10_doBell_115 ?_
            refine lv_topi (fun y32 ey32 => ?_)
            replace hF := hF y32 ey32
            refine lv_iconst (v := 0) hx hb dX10_doBell_116 (by decide) ?_
            obtain ⟨hi34, hF⟩ := sv_s hF
            refine va_iast hx hb hK hP hD hS 5 0 rfl rfl hi34 dX10_doBell_117 (fun H locs hP hD hS => ?_)
            obtain ⟨S35, eS35⟩ : ∃ z, z = wr S 5 (y32 : Int32).toNatClampNeg 0 := ⟨_, rfl⟩
            replace hF := hF S35 eS35
            have hP : va_P D vwCl (YW y cy S35) H := by rw [eS35]; exact hP
            have hD : va_D (va_A (YW y cy S0) s.heap.size) (YW y cy S35) := by rw [eS35]; exact hD
            refine lv_aload_n hx hb dX10_doBell_118 rfl (lv_at hl 1 rfl) ?_
            refine va_get (D := D) (ci := 10) (v := .ref (y 30)) (C := RX10) (T := TX10) (N := 58) hx hb hts iX10_doBell_10 hown hK hP 0 rfl rfl 42 (by decide) (hts (.fieldLink RX10 111 "FondsRoomModel" "fBox" "[I") (List.mem_of_getElem? (i := 6) rfl)) (fun _ h9 => h9) rfl dX10_doBell_119 ?_
            refine lv_iload_n hx hb dX10_doBell_122 rfl (lv_at hl 0 rfl) ?_
            refine lv_iconst (v := (-1)) hx hb dX10_doBell_123 (by decide) ?_
            obtain ⟨hi36, hF⟩ := sv_s hF
            refine va_iast hx hb hK hP hD hS 30 0 rfl rfl hi36 dX10_doBell_124 (fun H locs hP hD hS => ?_)
            obtain ⟨S37, eS37⟩ : ∃ z, z = wr S35 30 (v1 : Int32).toNatClampNeg (-1) := ⟨_, rfl⟩
            replace hF := hF S37 eS37
            have hP : va_P D vwCl (YW y cy S37) H := by rw [eS37]; exact hP
            have hD : va_D (va_A (YW y cy S0) s.heap.size) (YW y cy S37) := by rw [eS37]; exact hD
            refine lv_iinc (v := v1 + 1) (lv' := [(1, .int (v1 + 1)), (0, .ref (y 0))]) hx hb dX10_doBell_125 hl (k := 0) rfl rfl (by decide) rfl (fun ls hl => ?_)
            refine lv_goto (tgt := 75) hx hb dX10_doBell_128 (by decide) ?_
            exact ih75 (v1 + 1) S37 _ _ _ hF hP hD hS (lv_sub hl [0, 1] rfl)
          · skip
            have hF := (if_pos c31).symm.trans hF
            refine lv_goto (tgt := 125) hx hb dX10_doBell_103 (by decide) ?_
            refine lv_iinc (v := v1 + 1) (lv' := [(1, .int (v1 + 1)), (0, .ref (y 0))]) hx hb dX10_doBell_125 hl (k := 0) rfl rfl (by decide) rfl (fun ls hl => ?_)
            refine lv_goto (tgt := 75) hx hb dX10_doBell_128 (by decide) ?_
            exact ih75 (v1 + 1) S _ _ _ hF hP hD hS (lv_sub hl [0, 1] rfl)
  have hl := lv_entry ([.ref (y 0)]) (n := 2) (Nat.le_of_ble_eq_true rfl)
  rw [lg_entry_eq]
  generalize (lg_sl ([.ref (y 0)]) ++ List.replicate (2 - (lg_sl ([.ref (y 0)])).length) Slot.unset).toArray = ls at hl ⊢
  have hl : lv_has ls 2 [(0, .ref (y 0))] := hl
  unfold gX10_doBell at hF
  refine lv_aload_n hx hb dX10_doBell_0 rfl (lv_at hl 0 rfl) ?_
  refine va_get (D := D) (ci := 10) (v := .int (S0 0 4)) (C := RX10) (T := TX10) (N := 58) hx hb hts iX10_doBell_10 hown hK hP 0 rfl rfl 4 (by decide) (hts (.fieldLink RX10 163 "FondsRoomModel" "turn" "I") (List.mem_of_getElem? (i := 1) rfl)) (fun _ h9 => h9) rfl dX10_doBell_1 ?_
  refine lv_aload_n hx hb dX10_doBell_4 rfl (lv_at hl 0 rfl) ?_
  refine va_get (D := D) (ci := 10) (v := .int (S0 0 5)) (C := RX10) (T := TX10) (N := 58) hx hb hts iX10_doBell_10 hown hK hP 0 rfl rfl 5 (by decide) (hts (.fieldLink RX10 9 "FondsRoomModel" "bellTurn" "I") (List.mem_of_getElem? (i := 2) rfl)) (fun _ h9 => h9) rfl dX10_doBell_5 ?_
  refine lv_icmp_eq (tgt := 12) hx hb dX10_doBell_8 (by decide) (fun c1 => ?_) (fun c1 => ?_)
  · skip
    have hF := (if_pos c1).symm.trans hF
    refine lv_iconst (v := 0) hx hb dX10_doBell_12 (by decide) ?_
    refine lv_istore_n (lv' := [(1, .int 0), (0, .ref (y 0))]) hx hb dX10_doBell_13 rfl hl (by decide) rfl (fun ls hl => ?_)
    refine key14 _ ?_ 1000 0 S0 _ _ _ hF hP hD hS (lv_sub hl [0, 1] rfl)
    intro S24 H locs ls hF hP hD hS hl
    refine lv_iconst (v := 0) hx hb dX10_doBell_73 (by decide) ?_
    refine lv_istore_n (lv' := [(1, .int 0), (0, .ref (y 0))]) hx hb dX10_doBell_74 rfl hl (by decide) rfl (fun ls hl => ?_)
    refine key75 _ ?_ 1000 0 S24 _ _ _ hF hP hD hS (lv_sub hl [0, 1] rfl)
    intro S38 H locs ls hF hP hD hS hl
    have e2 := Option.some.inj hF
    have hP : va_P D vwCl (YW y cy Sf) H := by rw [← e2]; exact hP
    have hD : va_D (va_A (YW y cy S0) s.heap.size) (YW y cy Sf) := by rw [← e2]; exact hD
    exact W.vret hx hb hr (fun t ht hW => ⟨⟨(), rfl, trivial, by rw [ht]; exact hP, va_K.moved hW.alike hK, hD⟩, hS.F ht⟩) hS.2.2 dX10_doBell_131
  · skip
    have hF := (if_neg c1).symm.trans hF
    have e2 := Option.some.inj hF
    have hP : va_P D vwCl (YW y cy Sf) s.heap := by rw [← e2]; exact hP
    have hD : va_D (va_A (YW y cy S0) s.heap.size) (YW y cy Sf) := by rw [← e2]; exact hD
    exact W.vret hx hb hr (fun t ht hW => ⟨⟨(), rfl, trivial, by rw [ht]; exact hP, va_K.moved hW.alike hK, hD⟩, hS.F ht⟩) hS.2.2 dX10_doBell_11

theorem iX10_doFetchers_10 : ∀ w ∈ wsX100, w ∈ wsX10_doFetchers := fun _ h => List.mem_cons_of_mem _ (List.mem_append_right _ h)
set_option maxHeartbeats 8000000 in
set_option maxRecDepth 100000 in
theorem zX10_doFetchers (l : Launch) (D : va_G) (y : Nat → Nat) (cy : Nat → ClassId) (S0 : RS) (sz : Nat) (Sf : RS) (hF : gX10_doFetchers S0  = some Sf) : Met l yX10_doFetchers wsX10_doFetchers ({ frames := 1, cells := 0, slots := 0, locals := 24 }) (PW D (TYS cy) (YW y cy S0) sz [.ref (y 0)]) (va_Qv (fun (u : Unit) => True) (BU D (TYS cy) (YW y cy S0) (fun _ => YW y cy Sf) sz) (va_A (YW y cy S0) sz)) 0 0 (va_A (YW y cy S0) sz) := by
  refine Met.ofW (cc := cX10_doFetchers) (maxL := 4) (ret := none) (by decide) rfl ?_
  intro p e s m args below meth c s₁ B hml hv
  obtain ⟨rfl, hsz, hP, hK, hD0⟩ := hv
  have hx := B.exec
  have hb := B.bytes
  have hr := B.returns
  have hts := atoms_spec (ws := wsX10_doFetchers) B.pre
  have hown : s.vm.findClass RX10 = some m.cls := findClass_of_methodNamed B.named
  have hlocks := B.notSynchronized
  subst hsz
  have hD := hD0.self (sz := s.heap.size)
  have hA : ∀ q9 : Nat, s.heap.size ≤ q9 → va_A (YW y cy S0) s.heap.size q9 := fun q9 h => Or.inr h
  have hS : va_S (va_A (YW y cy S0) s.heap.size) s.heap s.heap [] := va_S.rf
  have key2 : ∀ (K : RS → Option (RS)), (∀  (S : RS) (H : Heap) (locs : List Loc) (ls : Array Slot), K  S = some Sf → va_P D vwCl (YW y cy S) H → va_D (va_A (YW y cy S0) s.heap.size) (YW y cy S) → va_S (va_A (YW y cy S0) s.heap.size) s.heap H locs → lv_has ls 4 [] → W p l e (headSpec wsX10_doFetchers ({ frames := 1, cells := 0, slots := 0, locals := 24 })).room s m #[.ref (y 0)] below meth c H locs 0 0 (MQ below (va_Qv (fun (u : Unit) => True) (BU D (TYS cy) (YW y cy S0) (fun _ => YW y cy Sf) s.heap.size) (va_A (YW y cy S0) s.heap.size)) #[.ref (y 0)] s 0 0 (va_A (YW y cy S0) s.heap.size)) (F0 m 148 ls [])) → ∀ (fu : Nat) (v1 : Int32) (S : RS) (H : Heap) (locs : List Loc) (ls : Array Slot), gX10_doFetchers_2 K fu v1 S = some Sf → va_P D vwCl (YW y cy S) H → va_D (va_A (YW y cy S0) s.heap.size) (YW y cy S) → va_S (va_A (YW y cy S0) s.heap.size) s.heap H locs → lv_has ls 4 [(1, .int v1), (0, .ref (y 0))] → W p l e (headSpec wsX10_doFetchers ({ frames := 1, cells := 0, slots := 0, locals := 24 })).room s m #[.ref (y 0)] below meth c H locs 0 0 (MQ below (va_Qv (fun (u : Unit) => True) (BU D (TYS cy) (YW y cy S0) (fun _ => YW y cy Sf) s.heap.size) (va_A (YW y cy S0) s.heap.size)) #[.ref (y 0)] s 0 0 (va_A (YW y cy S0) s.heap.size)) (F0 m 2 ls []) := by
    intro K hKK fu
    induction fu with
    | zero =>
      intro v1 S H locs ls hF
      exact absurd (show (none : Option (RS)) = some Sf from hF) (by simp)
    | succ fu2 ih2 =>
      intro v1 S H locs ls hF hP hD hS hl
      rw [gX10_doFetchers_2] at hF
      refine lv_iload_n hx hb dX10_doFetchers_2 rfl (lv_at hl 0 rfl) ?_
      refine lv_aload_n hx hb dX10_doFetchers_3 rfl (lv_at hl 1 rfl) ?_
      refine va_get (D := D) (ci := 10) (v := .int (S 0 7)) (C := RX10) (T := TX10) (N := 58) hx hb hts iX10_doFetchers_10 hown hK hP 0 rfl rfl 7 (by decide) (hts (.fieldLink RX10 16 "FondsRoomModel" "fetchers" "I") (List.mem_of_getElem? (i := 1) rfl)) (fun _ h9 => h9) rfl dX10_doFetchers_4 ?_
      refine lv_icmp_ge (tgt := 148) hx hb dX10_doFetchers_7 (by decide) (fun c1 => ?_) (fun c1 => ?_)
      · skip
        have hF := (if_pos c1).symm.trans hF
        exact hKK  S _ _ _ hF hP hD hS (lv_sub hl [] rfl)
      · skip
        have hF := (if_neg c1).symm.trans hF
        refine lv_aload_n hx hb dX10_doFetchers_10 rfl (lv_at hl 1 rfl) ?_
        refine va_get (D := D) (ci := 10) (v := .ref (y 30)) (C := RX10) (T := TX10) (N := 58) hx hb hts iX10_doFetchers_10 hown hK hP 0 rfl rfl 42 (by decide) (hts (.fieldLink RX10 111 "FondsRoomModel" "fBox" "[I") (List.mem_of_getElem? (i := 2) rfl)) (fun _ h9 => h9) rfl dX10_doFetchers_11 ?_
        refine lv_iload_n hx hb dX10_doFetchers_14 rfl (lv_at hl 0 rfl) ?_
        obtain ⟨hi3, hF⟩ := ld_s hF
        refine va_iald hx hb hK hP 30 0 rfl rfl hi3 dX10_doFetchers_15 ?_
        refine lv_topi (fun y2 ey2 => ?_)
        replace hF := hF y2 ey2
        refine lv_istore_n (lv' := [(2, .int y2), (1, .int v1), (0, .ref (y 0))]) hx hb dX10_doFetchers_16 rfl hl (by decide) rfl (fun ls hl => ?_)
        refine lv_aload_n hx hb dX10_doFetchers_17 rfl (lv_at hl 2 rfl) ?_
        refine va_get (D := D) (ci := 10) (v := .ref (y 32)) (C := RX10) (T := TX10) (N := 58) hx hb hts iX10_doFetchers_10 hown hK hP 0 rfl rfl 44 (by decide) (hts (.fieldLink RX10 117 "FondsRoomModel" "fTo" "[I") (List.mem_of_getElem? (i := 3) rfl)) (fun _ h9 => h9) rfl dX10_doFetchers_18 ?_
        refine lv_iload_n hx hb dX10_doFetchers_21 rfl (lv_at hl 1 rfl) ?_
        obtain ⟨hi5, hF⟩ := ld_s hF
        refine va_iald hx hb hK hP 32 0 rfl rfl hi5 dX10_doFetchers_22 ?_
        refine lv_topi (fun y4 ey4 => ?_)
        replace hF := hF y4 ey4
        refine lv_istore_n (lv' := [(3, .int y4), (2, .int y2), (1, .int v1), (0, .ref (y 0))]) hx hb dX10_doFetchers_23 rfl hl (by decide) rfl (fun ls hl => ?_)
        refine lv_iload_n hx hb dX10_doFetchers_24 rfl (lv_at hl 1 rfl) ?_
        refine lv_iconst (v := (-1)) hx hb dX10_doFetchers_25 (by decide) ?_
        refine lv_icmp_ne (tgt := 32) hx hb dX10_doFetchers_26 (by decide) (fun c6 => ?_) (fun c6 => ?_)
        · skip
          have hF := (if_neg c6).symm.trans hF
          refine lv_aload_n hx hb dX10_doFetchers_32 rfl (lv_at hl 3 rfl) ?_
          refine va_get (D := D) (ci := 10) (v := .ref (y 31)) (C := RX10) (T := TX10) (N := 58) hx hb hts iX10_doFetchers_10 hown hK hP 0 rfl rfl 43 (by decide) (hts (.fieldLink RX10 114 "FondsRoomModel" "fLeft" "[I") (List.mem_of_getElem? (i := 4) rfl)) (fun _ h9 => h9) rfl dX10_doFetchers_33 ?_
          refine lv_iload_n hx hb dX10_doFetchers_36 rfl (lv_at hl 2 rfl) ?_
          refine lv_dup2_11 hx hb dX10_doFetchers_37 rfl rfl ?_
          obtain ⟨hi8, hF⟩ := ld_s hF
          refine va_iald hx hb hK hP 31 0 rfl rfl hi8 dX10_doFetchers_38 ?_
          refine lv_topi (fun y7 ey7 => ?_)
          replace hF := hF y7 ey7
          refine lv_iconst (v := 1) hx hb dX10_doFetchers_39 (by decide) ?_
          refine lv_isub hx hb dX10_doFetchers_40 ?_
          obtain ⟨hi9, hF⟩ := sv_s hF
          refine va_iast hx hb hK hP hD hS 31 0 rfl rfl hi9 dX10_doFetchers_41 (fun H locs hP hD hS => ?_)
          obtain ⟨S10, eS10⟩ : ∃ z, z = wr S 31 (v1 : Int32).toNatClampNeg (y7 - 1) := ⟨_, rfl⟩
          replace hF := hF S10 eS10
          have hP : va_P D vwCl (YW y cy S10) H := by rw [eS10]; exact hP
          have hD : va_D (va_A (YW y cy S0) s.heap.size) (YW y cy S10) := by rw [eS10]; exact hD
          refine lv_aload_n hx hb dX10_doFetchers_42 rfl (lv_at hl 3 rfl) ?_
          refine va_get (D := D) (ci := 10) (v := .ref (y 31)) (C := RX10) (T := TX10) (N := 58) hx hb hts iX10_doFetchers_10 hown hK hP 0 rfl rfl 43 (by decide) (hts (.fieldLink RX10 114 "FondsRoomModel" "fLeft" "[I") (List.mem_of_getElem? (i := 4) rfl)) (fun _ h9 => h9) rfl dX10_doFetchers_43 ?_
          refine lv_iload_n hx hb dX10_doFetchers_46 rfl (lv_at hl 2 rfl) ?_
          obtain ⟨hi12, hF⟩ := ld_s hF
          refine va_iald hx hb hK hP 31 0 rfl rfl hi12 dX10_doFetchers_47 ?_
          refine lv_topi (fun y11 ey11 => ?_)
          replace hF := hF y11 ey11
          refine lv_if_le (tgt := 54) hx hb dX10_doFetchers_48 (by decide) (fun c13 => ?_) (fun c13 => ?_)
          · skip
            have hF := (if_pos c13).symm.trans hF
            refine lv_aload_n hx hb dX10_doFetchers_54 rfl (lv_at hl 3 rfl) ?_
            refine va_get (D := D) (ci := 10) (v := .ref (y 30)) (C := RX10) (T := TX10) (N := 58) hx hb hts iX10_doFetchers_10 hown hK hP 0 rfl rfl 42 (by decide) (hts (.fieldLink RX10 111 "FondsRoomModel" "fBox" "[I") (List.mem_of_getElem? (i := 2) rfl)) (fun _ h9 => h9) rfl dX10_doFetchers_55 ?_
            refine lv_iload_n hx hb dX10_doFetchers_58 rfl (lv_at hl 2 rfl) ?_
            refine lv_iconst (v := (-1)) hx hb dX10_doFetchers_59 (by decide) ?_
            obtain ⟨hi14, hF⟩ := sv_s hF
            refine va_iast hx hb hK hP hD hS 30 0 rfl rfl hi14 dX10_doFetchers_60 (fun H locs hP hD hS => ?_)
            obtain ⟨S15, eS15⟩ : ∃ z, z = wr S10 30 (v1 : Int32).toNatClampNeg (-1) := ⟨_, rfl⟩
            replace hF := hF S15 eS15
            have hP : va_P D vwCl (YW y cy S15) H := by rw [eS15]; exact hP
            have hD : va_D (va_A (YW y cy S0) s.heap.size) (YW y cy S15) := by rw [eS15]; exact hD
            refine lv_iload_n hx hb dX10_doFetchers_61 rfl (lv_at hl 0 rfl) ?_
            refine lv_iconst (v := (-1)) hx hb dX10_doFetchers_62 (by decide) ?_
            refine lv_icmp_ne (tgt := 85) hx hb dX10_doFetchers_63 (by decide) (fun c16 => ?_) (fun c16 => ?_)
            · skip
              have hF := (if_neg c16).symm.trans hF
              refine lv_aload_n hx hb dX10_doFetchers_85 rfl (lv_at hl 3 rfl) ?_
              refine va_get (D := D) (ci := 10) (v := .ref (y 7)) (C := RX10) (T := TX10) (N := 58) hx hb hts iX10_doFetchers_10 hown hK hP 0 rfl rfl 15 (by decide) (hts (.fieldLink RX10 42 "FondsRoomModel" "ticket" "[I") (List.mem_of_getElem? (i := 6) rfl)) (fun _ h9 => h9) rfl dX10_doFetchers_86 ?_
              refine lv_iload_n hx hb dX10_doFetchers_89 rfl (lv_at hl 1 rfl) ?_
              obtain ⟨hi18, hF⟩ := ld_s hF
              refine va_iald hx hb hK hP 7 0 rfl rfl hi18 dX10_doFetchers_90 ?_
              refine lv_topi (fun y17 ey17 => ?_)
              replace hF := hF y17 ey17
              refine lv_iload_n hx hb dX10_doFetchers_91 rfl (lv_at hl 0 rfl) ?_
              refine lv_icmp_ne (tgt := 135) hx hb dX10_doFetchers_92 (by decide) (fun c19 => ?_) (fun c19 => ?_)
              · skip
                have hF := (if_neg c19).symm.trans hF
                refine lv_aload_n hx hb dX10_doFetchers_135 rfl (lv_at hl 3 rfl) ?_
                refine va_get (D := D) (ci := 10) (v := .ref (y 5)) (C := RX10) (T := TX10) (N := 58) hx hb hts iX10_doFetchers_10 hown hK hP 0 rfl rfl 13 (by decide) (hts (.fieldLink RX10 36 "FondsRoomModel" "place" "[I") (List.mem_of_getElem? (i := 5) rfl)) (fun _ h9 => h9) rfl dX10_doFetchers_136 ?_
                refine lv_iload_n hx hb dX10_doFetchers_139 rfl (lv_at hl 1 rfl) ?_
                refine lv_iconst (v := 2) hx hb dX10_doFetchers_140 (by decide) ?_
                obtain ⟨hi20, hF⟩ := sv_s hF
                refine va_iast hx hb hK hP hD hS 5 0 rfl rfl hi20 dX10_doFetchers_141 (fun H locs hP hD hS => ?_)
                obtain ⟨S21, eS21⟩ : ∃ z, z = wr S15 5 (y2 : Int32).toNatClampNeg 2 := ⟨_, rfl⟩
                replace hF := hF S21 eS21
                have hP : va_P D vwCl (YW y cy S21) H := by rw [eS21]; exact hP
                have hD : va_D (va_A (YW y cy S0) s.heap.size) (YW y cy S21) := by rw [eS21]; exact hD
                refine lv_iinc (v := v1 + 1) (lv' := [(1, .int (v1 + 1)), (3, .int y4), (2, .int y2), (0, .ref (y 0))]) hx hb dX10_doFetchers_142 hl (k := 2) rfl rfl (by decide) rfl (fun ls hl => ?_)
                refine lv_goto (tgt := 2) hx hb dX10_doFetchers_145 (by decide) ?_
                exact ih2 (v1 + 1) S21 _ _ _ hF hP hD hS (lv_sub hl [0, 3] rfl)
              · skip
                have hF := (if_pos c19).symm.trans hF
                refine lv_aload_n hx hb dX10_doFetchers_95 rfl (lv_at hl 3 rfl) ?_
                refine va_get (D := D) (ci := 10) (v := .ref (y 7)) (C := RX10) (T := TX10) (N := 58) hx hb hts iX10_doFetchers_10 hown hK hP 0 rfl rfl 15 (by decide) (hts (.fieldLink RX10 42 "FondsRoomModel" "ticket" "[I") (List.mem_of_getElem? (i := 6) rfl)) (fun _ h9 => h9) rfl dX10_doFetchers_96 ?_
                refine lv_iload_n hx hb dX10_doFetchers_99 rfl (lv_at hl 1 rfl) ?_
                refine lv_iconst (v := (-1)) hx hb dX10_doFetchers_100 (by decide) ?_
                obtain ⟨hi22, hF⟩ := sv_s hF
                refine va_iast hx hb hK hP hD hS 7 0 rfl rfl hi22 dX10_doFetchers_101 (fun H locs hP hD hS => ?_)
                obtain ⟨S23, eS23⟩ : ∃ z, z = wr S15 7 (y2 : Int32).toNatClampNeg (-1) := ⟨_, rfl⟩
                replace hF := hF S23 eS23
                have hP : va_P D vwCl (YW y cy S23) H := by rw [eS23]; exact hP
                have hD : va_D (va_A (YW y cy S0) s.heap.size) (YW y cy S23) := by rw [eS23]; exact hD
                refine lv_aload_n hx hb dX10_doFetchers_102 rfl (lv_at hl 3 rfl) ?_
                refine va_get (D := D) (ci := 10) (v := .ref (y 5)) (C := RX10) (T := TX10) (N := 58) hx hb hts iX10_doFetchers_10 hown hK hP 0 rfl rfl 13 (by decide) (hts (.fieldLink RX10 36 "FondsRoomModel" "place" "[I") (List.mem_of_getElem? (i := 5) rfl)) (fun _ h9 => h9) rfl dX10_doFetchers_103 ?_
                refine lv_iload_n hx hb dX10_doFetchers_106 rfl (lv_at hl 1 rfl) ?_
                refine lv_iconst (v := 1) hx hb dX10_doFetchers_107 (by decide) ?_
                obtain ⟨hi24, hF⟩ := sv_s hF
                refine va_iast hx hb hK hP hD hS 5 0 rfl rfl hi24 dX10_doFetchers_108 (fun H locs hP hD hS => ?_)
                obtain ⟨S25, eS25⟩ : ∃ z, z = wr S23 5 (y2 : Int32).toNatClampNeg 1 := ⟨_, rfl⟩
                replace hF := hF S25 eS25
                have hP : va_P D vwCl (YW y cy S25) H := by rw [eS25]; exact hP
                have hD : va_D (va_A (YW y cy S0) s.heap.size) (YW y cy S25) := by rw [eS25]; exact hD
                refine lv_aload_n hx hb dX10_doFetchers_109 rfl (lv_at hl 3 rfl) ?_
                refine va_get (D := D) (ci := 10) (v := .ref (y 6)) (C := RX10) (T := TX10) (N := 58) hx hb hts iX10_doFetchers_10 hown hK hP 0 rfl rfl 14 (by decide) (hts (.fieldLink RX10 39 "FondsRoomModel" "has" "[I") (List.mem_of_getElem? (i := 7) rfl)) (fun _ h9 => h9) rfl dX10_doFetchers_110 ?_
                refine lv_iload_n hx hb dX10_doFetchers_113 rfl (lv_at hl 1 rfl) ?_
                refine lv_iload_n hx hb dX10_doFetchers_114 rfl (lv_at hl 0 rfl) ?_
                obtain ⟨hi26, hF⟩ := sv_s hF
                refine va_iast hx hb hK hP hD hS 6 0 rfl rfl hi26 dX10_doFetchers_115 (fun H locs hP hD hS => ?_)
                obtain ⟨S27, eS27⟩ : ∃ z, z = wr S25 6 (y2 : Int32).toNatClampNeg y4 := ⟨_, rfl⟩
                replace hF := hF S27 eS27
                have hP : va_P D vwCl (YW y cy S27) H := by rw [eS27]; exact hP
                have hD : va_D (va_A (YW y cy S0) s.heap.size) (YW y cy S27) := by rw [eS27]; exact hD
                refine lv_aload_n hx hb dX10_doFetchers_116 rfl (lv_at hl 3 rfl) ?_
                refine va_get (D := D) (ci := 10) (v := .ref (y 15)) (C := RX10) (T := TX10) (N := 58) hx hb hts iX10_doFetchers_10 hown hK hP 0 rfl rfl 27 (by decide) (hts (.fieldLink RX10 66 "FondsRoomModel" "state" "[I") (List.mem_of_getElem? (i := 8) rfl)) (fun _ h9 => h9) rfl dX10_doFetchers_117 ?_
                refine lv_iload_n hx hb dX10_doFetchers_120 rfl (lv_at hl 0 rfl) ?_
                refine lv_bipush (v := 8) hx hb dX10_doFetchers_121 (by decide) ?_
                obtain ⟨hi28, hF⟩ := sv_s hF
                refine va_iast hx hb hK hP hD hS 15 0 rfl rfl hi28 dX10_doFetchers_123 (fun H locs hP hD hS => ?_)
                obtain ⟨S29, eS29⟩ : ∃ z, z = wr S27 15 (y4 : Int32).toNatClampNeg 8 := ⟨_, rfl⟩
                replace hF := hF S29 eS29
                have hP : va_P D vwCl (YW y cy S29) H := by rw [eS29]; exact hP
                have hD : va_D (va_A (YW y cy S0) s.heap.size) (YW y cy S29) := by rw [eS29]; exact hD
                refine lv_aload_n hx hb dX10_doFetchers_124 rfl (lv_at hl 3 rfl) ?_
                refine lv_iload_n hx hb dX10_doFetchers_125 rfl (lv_at hl 0 rfl) ?_
                refine lv_iconst (v := 5) hx hb dX10_doFetchers_126 (by decide) ?_
                refine lv_iload_n hx hb dX10_doFetchers_127 rfl (lv_at hl 1 rfl) ?_
                refine lv_iconst (v := 1) hx hb dX10_doFetchers_128 (by decide) ?_
                obtain ⟨S31, hq33, hF⟩ := bd1_s hF
                refine gvV (As := [.int y4, .int 5, .int y2, .int 1]) (rest := []) ⟨hx, hb, hml, hown, hts⟩ (zX10_event l D y cy S29 _ y4 5 y2 1 S31 hq33) (cwV 4 hts gX10_doFetchers_X10_event rfl rfl rfl (by decide +kernel) ⟨Nat.le_of_ble_eq_true rfl, Nat.le_of_ble_eq_true rfl⟩) hK hP hD hS hA (va_recv hK hP (ci := 10) (q0 := 0) rfl rfl) rfl hl.1 rfl (Nat.le_of_ble_eq_true rfl) dX10_doFetchers_129 ⟨Nat.le_of_ble_eq_true rfl, Nat.le_of_ble_eq_true rfl⟩ (fun u9 H locs hw32 hP hD hS => ?_)
                have hP : va_P D vwCl (YW y cy S31) H := hP
                have hD : va_D _ (YW y cy S31) := hD
                refine lv_goto (tgt := 142) hx hb dX10_doFetchers_132 (by decide) ?_
                refine lv_iinc (v := v1 + 1) (lv' := [(1, .int (v1 + 1)), (3, .int y4), (2, .int y2), (0, .ref (y 0))]) hx hb dX10_doFetchers_142 hl (k := 2) rfl rfl (by decide) rfl (fun ls hl => ?_)
                refine lv_goto (tgt := 2) hx hb dX10_doFetchers_145 (by decide) ?_
                exact ih2 (v1 + 1) S31 _ _ _ hF hP hD hS (lv_sub hl [0, 3] rfl)
            · skip
              have hF := (if_pos c16).symm.trans hF
              refine lv_aload_n hx hb dX10_doFetchers_66 rfl (lv_at hl 3 rfl) ?_
              refine va_get (D := D) (ci := 10) (v := .ref (y 5)) (C := RX10) (T := TX10) (N := 58) hx hb hts iX10_doFetchers_10 hown hK hP 0 rfl rfl 13 (by decide) (hts (.fieldLink RX10 36 "FondsRoomModel" "place" "[I") (List.mem_of_getElem? (i := 5) rfl)) (fun _ h9 => h9) rfl dX10_doFetchers_67 ?_
              refine lv_iload_n hx hb dX10_doFetchers_70 rfl (lv_at hl 1 rfl) ?_
              refine lv_iconst (v := 0) hx hb dX10_doFetchers_71 (by decide) ?_
              obtain ⟨hi35, hF⟩ := sv_s hF
              refine va_iast hx hb hK hP hD hS 5 0 rfl rfl hi35 dX10_doFetchers_72 (fun H locs hP hD hS => ?_)
              obtain ⟨S36, eS36⟩ : ∃ z, z = wr S15 5 (y2 : Int32).toNatClampNeg 0 := ⟨_, rfl⟩
              replace hF := hF S36 eS36
              have hP : va_P D vwCl (YW y cy S36) H := by rw [eS36]; exact hP
              have hD : va_D (va_A (YW y cy S0) s.heap.size) (YW y cy S36) := by rw [eS36]; exact hD
              refine lv_aload_n hx hb dX10_doFetchers_73 rfl (lv_at hl 3 rfl) ?_
              refine lv_iconst (v := (-1)) hx hb dX10_doFetchers_74 (by decide) ?_
              refine lv_bipush (v := 9) hx hb dX10_doFetchers_75 (by decide) ?_
              refine lv_iload_n hx hb dX10_doFetchers_77 rfl (lv_at hl 1 rfl) ?_
              refine lv_iconst (v := 1) hx hb dX10_doFetchers_78 (by decide) ?_
              obtain ⟨S38, hq40, hF⟩ := bd1_s hF
              refine gvV (As := [.int (-1), .int 9, .int y2, .int 1]) (rest := []) ⟨hx, hb, hml, hown, hts⟩ (zX10_event l D y cy S36 _ (-1) 9 y2 1 S38 hq40) (cwV 4 hts gX10_doFetchers_X10_event rfl rfl rfl (by decide +kernel) ⟨Nat.le_of_ble_eq_true rfl, Nat.le_of_ble_eq_true rfl⟩) hK hP hD hS hA (va_recv hK hP (ci := 10) (q0 := 0) rfl rfl) rfl hl.1 rfl (Nat.le_of_ble_eq_true rfl) dX10_doFetchers_79 ⟨Nat.le_of_ble_eq_true rfl, Nat.le_of_ble_eq_true rfl⟩ (fun u9 H locs hw39 hP hD hS => ?_)
              have hP : va_P D vwCl (YW y cy S38) H := hP
              have hD : va_D _ (YW y cy S38) := hD
              refine lv_goto (tgt := 142) hx hb dX10_doFetchers_82 (by decide) ?_
              refine lv_iinc (v := v1 + 1) (lv' := [(1, .int (v1 + 1)), (3, .int y4), (2, .int y2), (0, .ref (y 0))]) hx hb dX10_doFetchers_142 hl (k := 2) rfl rfl (by decide) rfl (fun ls hl => ?_)
              refine lv_goto (tgt := 2) hx hb dX10_doFetchers_145 (by decide) ?_
              exact ih2 (v1 + 1) S38 _ _ _ hF hP hD hS (lv_sub hl [0, 3] rfl)
          · skip
            have hF := (if_neg c13).symm.trans hF
            refine lv_goto (tgt := 142) hx hb dX10_doFetchers_51 (by decide) ?_
            refine lv_iinc (v := v1 + 1) (lv' := [(1, .int (v1 + 1)), (3, .int y4), (2, .int y2), (0, .ref (y 0))]) hx hb dX10_doFetchers_142 hl (k := 2) rfl rfl (by decide) rfl (fun ls hl => ?_)
            refine lv_goto (tgt := 2) hx hb dX10_doFetchers_145 (by decide) ?_
            exact ih2 (v1 + 1) S10 _ _ _ hF hP hD hS (lv_sub hl [0, 3] rfl)
        · skip
          have hF := (if_pos c6).symm.trans hF
          refine lv_goto (tgt := 142) hx hb dX10_doFetchers_29 (by decide) ?_
          refine lv_iinc (v := v1 + 1) (lv' := [(1, .int (v1 + 1)), (3, .int y4), (2, .int y2), (0, .ref (y 0))]) hx hb dX10_doFetchers_142 hl (k := 2) rfl rfl (by decide) rfl (fun ls hl => ?_)
          refine lv_goto (tgt := 2) hx hb dX10_doFetchers_145 (by decide) ?_
          exact ih2 (v1 + 1) S _ _ _ hF hP hD hS (lv_sub hl [0, 3] rfl)
  have hl := lv_entry ([.ref (y 0)]) (n := 4) (Nat.le_of_ble_eq_true rfl)
  rw [lg_entry_eq]
  generalize (lg_sl ([.ref (y 0)]) ++ List.replicate (4 - (lg_sl ([.ref (y 0)])).length) Slot.unset).toArray = ls at hl ⊢
  have hl : lv_has ls 4 [(0, .ref (y 0))] := hl
  unfold gX10_doFetchers at hF
  refine lv_iconst (v := 0) hx hb dX10_doFetchers_0 (by decide) ?_
  refine lv_istore_n (lv' := [(1, .int 0), (0, .ref (y 0))]) hx hb dX10_doFetchers_1 rfl hl (by decide) rfl (fun ls hl => ?_)
  refine key2 _ ?_ 1000 0 S0 _ _ _ hF hP hD hS (lv_sub hl [0, 1] rfl)
  intro S42 H locs ls hF hP hD hS hl
  have e2 := Option.some.inj hF
  have hP : va_P D vwCl (YW y cy Sf) H := by rw [← e2]; exact hP
  have hD : va_D (va_A (YW y cy S0) s.heap.size) (YW y cy Sf) := by rw [← e2]; exact hD
  exact W.vret hx hb hr (fun t ht hW => ⟨⟨(), rfl, trivial, by rw [ht]; exact hP, va_K.moved hW.alike hK, hD⟩, hS.F ht⟩) hS.2.2 dX10_doFetchers_148

theorem iX10_doCopyists_10 : ∀ w ∈ wsX100, w ∈ wsX10_doCopyists := fun _ h => List.mem_cons_of_mem _ (List.mem_append_right _ h)
set_option maxHeartbeats 8000000 in
set_option maxRecDepth 100000 in
theorem zX10_doCopyists (l : Launch) (D : va_G) (y : Nat → Nat) (cy : Nat → ClassId) (S0 : RS) (sz : Nat) (Sf : RS) (hF : gX10_doCopyists S0  = some Sf) : Met l yX10_doCopyists wsX10_doCopyists ({ frames := 1, cells := 0, slots := 0, locals := 24 }) (PW D (TYS cy) (YW y cy S0) sz [.ref (y 0)]) (va_Qv (fun (u : Unit) => True) (BU D (TYS cy) (YW y cy S0) (fun _ => YW y cy Sf) sz) (va_A (YW y cy S0) sz)) 0 0 (va_A (YW y cy S0) sz) := by
  refine Met.ofW (cc := cX10_doCopyists) (maxL := 4) (ret := none) (by decide) rfl ?_
  intro p e s m args below meth c s₁ B hml hv
  obtain ⟨rfl, hsz, hP, hK, hD0⟩ := hv
  have hx := B.exec
  have hb := B.bytes
  have hr := B.returns
  have hts := atoms_spec (ws := wsX10_doCopyists) B.pre
  have hown : s.vm.findClass RX10 = some m.cls := findClass_of_methodNamed B.named
  have hlocks := B.notSynchronized
  subst hsz
  have hD := hD0.self (sz := s.heap.size)
  have hA : ∀ q9 : Nat, s.heap.size ≤ q9 → va_A (YW y cy S0) s.heap.size q9 := fun q9 h => Or.inr h
  have hS : va_S (va_A (YW y cy S0) s.heap.size) s.heap s.heap [] := va_S.rf
  have key2 : ∀ (K : RS → Option (RS)), (∀  (S : RS) (H : Heap) (locs : List Loc) (ls : Array Slot), K  S = some Sf → va_P D vwCl (YW y cy S) H → va_D (va_A (YW y cy S0) s.heap.size) (YW y cy S) → va_S (va_A (YW y cy S0) s.heap.size) s.heap H locs → lv_has ls 4 [] → W p l e (headSpec wsX10_doCopyists ({ frames := 1, cells := 0, slots := 0, locals := 24 })).room s m #[.ref (y 0)] below meth c H locs 0 0 (MQ below (va_Qv (fun (u : Unit) => True) (BU D (TYS cy) (YW y cy S0) (fun _ => YW y cy Sf) s.heap.size) (va_A (YW y cy S0) s.heap.size)) #[.ref (y 0)] s 0 0 (va_A (YW y cy S0) s.heap.size)) (F0 m 126 ls [])) → ∀ (fu : Nat) (v1 : Int32) (S : RS) (H : Heap) (locs : List Loc) (ls : Array Slot), gX10_doCopyists_2 K fu v1 S = some Sf → va_P D vwCl (YW y cy S) H → va_D (va_A (YW y cy S0) s.heap.size) (YW y cy S) → va_S (va_A (YW y cy S0) s.heap.size) s.heap H locs → lv_has ls 4 [(1, .int v1), (0, .ref (y 0))] → W p l e (headSpec wsX10_doCopyists ({ frames := 1, cells := 0, slots := 0, locals := 24 })).room s m #[.ref (y 0)] below meth c H locs 0 0 (MQ below (va_Qv (fun (u : Unit) => True) (BU D (TYS cy) (YW y cy S0) (fun _ => YW y cy Sf) s.heap.size) (va_A (YW y cy S0) s.heap.size)) #[.ref (y 0)] s 0 0 (va_A (YW y cy S0) s.heap.size)) (F0 m 2 ls []) := by
    intro K hKK fu
    induction fu with
    | zero =>
      intro v1 S H locs ls hF
      exact absurd (show (none : Option (RS)) = some Sf from hF) (by simp)
    | succ fu2 ih2 =>
      intro v1 S H locs ls hF hP hD hS hl
      rw [gX10_doCopyists_2] at hF
      refine lv_iload_n hx hb dX10_doCopyists_2 rfl (lv_at hl 0 rfl) ?_
      refine lv_aload_n hx hb dX10_doCopyists_3 rfl (lv_at hl 1 rfl) ?_
      refine va_get (D := D) (ci := 10) (v := .int (S 0 8)) (C := RX10) (T := TX10) (N := 58) hx hb hts iX10_doCopyists_10 hown hK hP 0 rfl rfl 8 (by decide) (hts (.fieldLink RX10 19 "FondsRoomModel" "copyists" "I") (List.mem_of_getElem? (i := 1) rfl)) (fun _ h9 => h9) rfl dX10_doCopyists_4 ?_
      refine lv_icmp_ge (tgt := 126) hx hb dX10_doCopyists_7 (by decide) (fun c1 => ?_) (fun c1 => ?_)
      · skip
        have hF := (if_pos c1).symm.trans hF
        exact hKK  S _ _ _ hF hP hD hS (lv_sub hl [] rfl)
      · skip
        have hF := (if_neg c1).symm.trans hF
        refine lv_aload_n hx hb dX10_doCopyists_10 rfl (lv_at hl 1 rfl) ?_
        refine va_get (D := D) (ci := 10) (v := .ref (y 33)) (C := RX10) (T := TX10) (N := 58) hx hb hts iX10_doCopyists_10 hown hK hP 0 rfl rfl 45 (by decide) (hts (.fieldLink RX10 120 "FondsRoomModel" "cBox" "[I") (List.mem_of_getElem? (i := 2) rfl)) (fun _ h9 => h9) rfl dX10_doCopyists_11 ?_
        refine lv_iload_n hx hb dX10_doCopyists_14 rfl (lv_at hl 0 rfl) ?_
        obtain ⟨hi3, hF⟩ := ld_s hF
        refine va_iald hx hb hK hP 33 0 rfl rfl hi3 dX10_doCopyists_15 ?_
        refine lv_topi (fun y2 ey2 => ?_)
        replace hF := hF y2 ey2
        refine lv_istore_n (lv' := [(2, .int y2), (1, .int v1), (0, .ref (y 0))]) hx hb dX10_doCopyists_16 rfl hl (by decide) rfl (fun ls hl => ?_)
        refine lv_iload_n hx hb dX10_doCopyists_17 rfl (lv_at hl 0 rfl) ?_
        refine lv_iconst (v := (-1)) hx hb dX10_doCopyists_18 (by decide) ?_
        refine lv_icmp_ne (tgt := 25) hx hb dX10_doCopyists_19 (by decide) (fun c4 => ?_) (fun c4 => ?_)
        · skip
          have hF := (if_neg c4).symm.trans hF
          refine lv_aload_n hx hb dX10_doCopyists_25 rfl (lv_at hl 2 rfl) ?_
          refine va_get (D := D) (ci := 10) (v := .ref (y 34)) (C := RX10) (T := TX10) (N := 58) hx hb hts iX10_doCopyists_10 hown hK hP 0 rfl rfl 46 (by decide) (hts (.fieldLink RX10 123 "FondsRoomModel" "cLeft" "[I") (List.mem_of_getElem? (i := 3) rfl)) (fun _ h9 => h9) rfl dX10_doCopyists_26 ?_
          refine lv_iload_n hx hb dX10_doCopyists_29 rfl (lv_at hl 1 rfl) ?_
          refine lv_dup2_11 hx hb dX10_doCopyists_30 rfl rfl ?_
          obtain ⟨hi6, hF⟩ := ld_s hF
          refine va_iald hx hb hK hP 34 0 rfl rfl hi6 dX10_doCopyists_31 ?_
          refine lv_topi (fun y5 ey5 => ?_)
          replace hF := hF y5 ey5
          refine lv_iconst (v := 1) hx hb dX10_doCopyists_32 (by decide) ?_
          refine lv_isub hx hb dX10_doCopyists_33 ?_
          obtain ⟨hi7, hF⟩ := sv_s hF
          refine va_iast hx hb hK hP hD hS 34 0 rfl rfl hi7 dX10_doCopyists_34 (fun H locs hP hD hS => ?_)
          obtain ⟨S8, eS8⟩ : ∃ z, z = wr S 34 (v1 : Int32).toNatClampNeg (y5 - 1) := ⟨_, rfl⟩
          replace hF := hF S8 eS8
          have hP : va_P D vwCl (YW y cy S8) H := by rw [eS8]; exact hP
          have hD : va_D (va_A (YW y cy S0) s.heap.size) (YW y cy S8) := by rw [eS8]; exact hD
          refine lv_aload_n hx hb dX10_doCopyists_35 rfl (lv_at hl 2 rfl) ?_
          refine va_get (D := D) (ci := 10) (v := .ref (y 34)) (C := RX10) (T := TX10) (N := 58) hx hb hts iX10_doCopyists_10 hown hK hP 0 rfl rfl 46 (by decide) (hts (.fieldLink RX10 123 "FondsRoomModel" "cLeft" "[I") (List.mem_of_getElem? (i := 3) rfl)) (fun _ h9 => h9) rfl dX10_doCopyists_36 ?_
          refine lv_iload_n hx hb dX10_doCopyists_39 rfl (lv_at hl 1 rfl) ?_
          obtain ⟨hi10, hF⟩ := ld_s hF
          refine va_iald hx hb hK hP 34 0 rfl rfl hi10 dX10_doCopyists_40 ?_
          refine lv_topi (fun y9 ey9 => ?_)
          replace hF := hF y9 ey9
          refine lv_if_le (tgt := 47) hx hb dX10_doCopyists_41 (by decide) (fun c11 => ?_) (fun c11 => ?_)
          · skip
            have hF := (if_pos c11).symm.trans hF
            refine lv_aload_n hx hb dX10_doCopyists_47 rfl (lv_at hl 2 rfl) ?_
            refine va_get (D := D) (ci := 10) (v := .ref (y 33)) (C := RX10) (T := TX10) (N := 58) hx hb hts iX10_doCopyists_10 hown hK hP 0 rfl rfl 45 (by decide) (hts (.fieldLink RX10 120 "FondsRoomModel" "cBox" "[I") (List.mem_of_getElem? (i := 2) rfl)) (fun _ h9 => h9) rfl dX10_doCopyists_48 ?_
            refine lv_iload_n hx hb dX10_doCopyists_51 rfl (lv_at hl 1 rfl) ?_
            refine lv_iconst (v := (-1)) hx hb dX10_doCopyists_52 (by decide) ?_
            obtain ⟨hi12, hF⟩ := sv_s hF
            refine va_iast hx hb hK hP hD hS 33 0 rfl rfl hi12 dX10_doCopyists_53 (fun H locs hP hD hS => ?_)
            obtain ⟨S13, eS13⟩ : ∃ z, z = wr S8 33 (v1 : Int32).toNatClampNeg (-1) := ⟨_, rfl⟩
            replace hF := hF S13 eS13
            have hP : va_P D vwCl (YW y cy S13) H := by rw [eS13]; exact hP
            have hD : va_D (va_A (YW y cy S0) s.heap.size) (YW y cy S13) := by rw [eS13]; exact hD
            refine lv_aload_n hx hb dX10_doCopyists_54 rfl (lv_at hl 2 rfl) ?_
            refine lv_dup hx hb dX10_doCopyists_55 rfl ?_
            refine va_get (D := D) (ci := 10) (v := .int (S13 0 22)) (C := RX10) (T := TX10) (N := 58) hx hb hts iX10_doCopyists_10 hown hK hP 0 rfl rfl 22 (by decide) (hts (.fieldLink RX10 210 "FondsRoomModel" "made" "I") (List.mem_of_getElem? (i := 4) rfl)) (fun _ h9 => h9) rfl dX10_doCopyists_56 ?_
            refine lv_iconst (v := 1) hx hb dX10_doCopyists_59 (by decide) ?_
            refine lv_iadd hx hb dX10_doCopyists_60 ?_
            refine va_put (D := D) (ci := 10) (v := .int ((S13 0 22) + 1)) (ty := .int) (C := RX10) (T := TX10) (N := 58) hx hb hts iX10_doCopyists_10 tyX10 tyX10_ok nmX10 hown hK hP hD hS 0 rfl rfl 22 (by decide) (hts (.fieldLink RX10 210 "FondsRoomModel" "made" "I") (List.mem_of_getElem? (i := 4) rfl)) (fun _ h9 => h9) rfl (by decide +kernel) rfl rfl (Nat.le_of_ble_eq_true rfl) dX10_doCopyists_61 (fun H locs hP hD hS => ?_)
            obtain ⟨S14, eS14⟩ : ∃ z, z = wr S13 0 22 ((S13 0 22) + 1) := ⟨_, rfl⟩
            replace hF := bnd_s hF S14 eS14
            have hP : va_P D vwCl (YW y cy S14) H := by rw [eS14]; exact hP
            have hD : va_D (va_A (YW y cy S0) s.heap.size) (YW y cy S14) := by rw [eS14]; exact hD
            refine lv_aload_n hx hb dX10_doCopyists_64 rfl (lv_at hl 2 rfl) ?_
            refine va_get (D := D) (ci := 10) (v := .ref (y 6)) (C := RX10) (T := TX10) (N := 58) hx hb hts iX10_doCopyists_10 hown hK hP 0 rfl rfl 14 (by decide) (hts (.fieldLink RX10 39 "FondsRoomModel" "has" "[I") (List.mem_of_getElem? (i := 5) rfl)) (fun _ h9 => h9) rfl dX10_doCopyists_65 ?_
            refine lv_iload_n hx hb dX10_doCopyists_68 rfl (lv_at hl 0 rfl) ?_
            obtain ⟨hi16, hF⟩ := ld_s hF
            refine va_iald hx hb hK hP 6 0 rfl rfl hi16 dX10_doCopyists_69 ?_
            refine lv_topi (fun y15 ey15 => ?_)
            replace hF := hF y15 ey15
            refine lv_istore_n (lv' := [(3, .int y15), (2, .int y2), (1, .int v1), (0, .ref (y 0))]) hx hb dX10_doCopyists_70 rfl hl (by decide) rfl (fun ls hl => ?_)
            refine lv_iload_n hx hb dX10_doCopyists_71 rfl (lv_at hl 0 rfl) ?_
            refine lv_iconst (v := (-1)) hx hb dX10_doCopyists_72 (by decide) ?_
            refine lv_icmp_ne (tgt := 86) hx hb dX10_doCopyists_73 (by decide) (fun c17 => ?_) (fun c17 => ?_)
            · skip
              have hF := (if_neg c17).symm.trans hF
              refine lv_aload_n hx hb dX10_doCopyists_86 rfl (lv_at hl 3 rfl) ?_
              refine va_get (D := D) (ci := 10) (v := .ref (y 5)) (C := RX10) (T := TX10) (N := 58) hx hb hts iX10_doCopyists_10 hown hK hP 0 rfl rfl 13 (by decide) (hts (.fieldLink RX10 36 "FondsRoomModel" "place" "[I") (List.mem_of_getElem? (i := 6) rfl)) (fun _ h9 => h9) rfl dX10_doCopyists_87 ?_
              refine lv_iload_n hx hb dX10_doCopyists_90 rfl (lv_at hl 1 rfl) ?_
              refine lv_iconst (v := 1) hx hb dX10_doCopyists_91 (by decide) ?_
              obtain ⟨hi18, hF⟩ := sv_s hF
              refine va_iast hx hb hK hP hD hS 5 0 rfl rfl hi18 dX10_doCopyists_92 (fun H locs hP hD hS => ?_)
              obtain ⟨S19, eS19⟩ : ∃ z, z = wr S14 5 (y2 : Int32).toNatClampNeg 1 := ⟨_, rfl⟩
              replace hF := hF S19 eS19
              have hP : va_P D vwCl (YW y cy S19) H := by rw [eS19]; exact hP
              have hD : va_D (va_A (YW y cy S0) s.heap.size) (YW y cy S19) := by rw [eS19]; exact hD
              refine lv_aload_n hx hb dX10_doCopyists_93 rfl (lv_at hl 3 rfl) ?_
              refine va_get (D := D) (ci := 10) (v := .ref (y 15)) (C := RX10) (T := TX10) (N := 58) hx hb hts iX10_doCopyists_10 hown hK hP 0 rfl rfl 27 (by decide) (hts (.fieldLink RX10 66 "FondsRoomModel" "state" "[I") (List.mem_of_getElem? (i := 7) rfl)) (fun _ h9 => h9) rfl dX10_doCopyists_94 ?_
              refine lv_iload_n hx hb dX10_doCopyists_97 rfl (lv_at hl 0 rfl) ?_
              refine lv_bipush (v := 8) hx hb dX10_doCopyists_98 (by decide) ?_
              obtain ⟨hi20, hF⟩ := sv_s hF
              refine va_iast hx hb hK hP hD hS 15 0 rfl rfl hi20 dX10_doCopyists_100 (fun H locs hP hD hS => ?_)
              obtain ⟨S21, eS21⟩ : ∃ z, z = wr S19 15 (y15 : Int32).toNatClampNeg 8 := ⟨_, rfl⟩
              replace hF := hF S21 eS21
              have hP : va_P D vwCl (YW y cy S21) H := by rw [eS21]; exact hP
              have hD : va_D (va_A (YW y cy S0) s.heap.size) (YW y cy S21) := by rw [eS21]; exact hD
              refine lv_aload_n hx hb dX10_doCopyists_101 rfl (lv_at hl 3 rfl) ?_
              refine va_get (D := D) (ci := 10) (v := .ref (y 22)) (C := RX10) (T := TX10) (N := 58) hx hb hts iX10_doCopyists_10 hown hK hP 0 rfl rfl 34 (by decide) (hts (.fieldLink RX10 87 "FondsRoomModel" "madeFor" "[I") (List.mem_of_getElem? (i := 8) rfl)) (fun _ h9 => h9) rfl dX10_doCopyists_102 ?_
              refine lv_iload_n hx hb dX10_doCopyists_105 rfl (lv_at hl 0 rfl) ?_
              refine lv_dup2_11 hx hb dX10_doCopyists_106 rfl rfl ?_
              obtain ⟨hi23, hF⟩ := ld_s hF
              refine va_iald hx hb hK hP 22 0 rfl rfl hi23 dX10_doCopyists_107 ?_
              refine lv_topi (fun y22 ey22 => ?_)
              replace hF := hF y22 ey22
              refine lv_iconst (v := 1) hx hb dX10_doCopyists_108 (by decide) ?_
              refine lv_iadd hx hb dX10_doCopyists_109 ?_
              obtain ⟨hi24, hF⟩ := sv_s hF
              refine va_iast hx hb hK hP hD hS 22 0 rfl rfl hi24 dX10_doCopyists_110 (fun H locs hP hD hS => ?_)
              obtain ⟨S25, eS25⟩ : ∃ z, z = wr S21 22 (y15 : Int32).toNatClampNeg (y22 + 1) := ⟨_, rfl⟩
              replace hF := hF S25 eS25
              have hP : va_P D vwCl (YW y cy S25) H := by rw [eS25]; exact hP
              have hD : va_D (va_A (YW y cy S0) s.heap.size) (YW y cy S25) := by rw [eS25]; exact hD
              refine lv_aload_n hx hb dX10_doCopyists_111 rfl (lv_at hl 3 rfl) ?_
              refine lv_iload_n hx hb dX10_doCopyists_112 rfl (lv_at hl 0 rfl) ?_
              refine lv_bipush (v := 6) hx hb dX10_doCopyists_113 (by decide) ?_
              refine lv_iload_n hx hb dX10_doCopyists_115 rfl (lv_at hl 1 rfl) ?_
              refine lv_iconst (v := 1) hx hb dX10_doCopyists_116 (by decide) ?_
              obtain ⟨S27, hq29, hF⟩ := bd1_s hF
              refine gvV (As := [.int y15, .int 6, .int y2, .int 1]) (rest := []) ⟨hx, hb, hml, hown, hts⟩ (zX10_event l D y cy S25 _ y15 6 y2 1 S27 hq29) (cwV 4 hts gX10_doCopyists_X10_event rfl rfl rfl (by decide +kernel) ⟨Nat.le_of_ble_eq_true rfl, Nat.le_of_ble_eq_true rfl⟩) hK hP hD hS hA (va_recv hK hP (ci := 10) (q0 := 0) rfl rfl) rfl hl.1 rfl (Nat.le_of_ble_eq_true rfl) dX10_doCopyists_117 ⟨Nat.le_of_ble_eq_true rfl, Nat.le_of_ble_eq_true rfl⟩ (fun u9 H locs hw28 hP hD hS => ?_)
              have hP : va_P D vwCl (YW y cy S27) H := hP
              have hD : va_D _ (YW y cy S27) := hD
              refine lv_iinc (v := v1 + 1) (lv' := [(1, .int (v1 + 1)), (3, .int y15), (2, .int y2), (0, .ref (y 0))]) hx hb dX10_doCopyists_120 hl (k := 2) rfl rfl (by decide) rfl (fun ls hl => ?_)
              refine lv_goto (tgt := 2) hx hb dX10_doCopyists_123 (by decide) ?_
              exact ih2 (v1 + 1) S27 _ _ _ hF hP hD hS (lv_sub hl [0, 3] rfl)
            · skip
              have hF := (if_pos c17).symm.trans hF
              refine lv_aload_n hx hb dX10_doCopyists_76 rfl (lv_at hl 3 rfl) ?_
              refine va_get (D := D) (ci := 10) (v := .ref (y 5)) (C := RX10) (T := TX10) (N := 58) hx hb hts iX10_doCopyists_10 hown hK hP 0 rfl rfl 13 (by decide) (hts (.fieldLink RX10 36 "FondsRoomModel" "place" "[I") (List.mem_of_getElem? (i := 6) rfl)) (fun _ h9 => h9) rfl dX10_doCopyists_77 ?_
              refine lv_iload_n hx hb dX10_doCopyists_80 rfl (lv_at hl 1 rfl) ?_
              refine lv_iconst (v := 2) hx hb dX10_doCopyists_81 (by decide) ?_
              obtain ⟨hi31, hF⟩ := sv_s hF
              refine va_iast hx hb hK hP hD hS 5 0 rfl rfl hi31 dX10_doCopyists_82 (fun H locs hP hD hS => ?_)
              obtain ⟨S32, eS32⟩ : ∃ z, z = wr S14 5 (y2 : Int32).toNatClampNeg 2 := ⟨_, rfl⟩
              replace hF := hF S32 eS32
              have hP : va_P D vwCl (YW y cy S32) H := by rw [eS32]; exact hP
              have hD : va_D (va_A (YW y cy S0) s.heap.size) (YW y cy S32) := by rw [eS32]; exact hD
              refine lv_goto (tgt := 120) hx hb dX10_doCopyists_83 (by decide) ?_
              refine lv_iinc (v := v1 + 1) (lv' := [(1, .int (v1 + 1)), (3, .int y15), (2, .int y2), (0, .ref (y 0))]) hx hb dX10_doCopyists_120 hl (k := 2) rfl rfl (by decide) rfl (fun ls hl => ?_)
              refine lv_goto (tgt := 2) hx hb dX10_doCopyists_123 (by decide) ?_
              exact ih2 (v1 + 1) S32 _ _ _ hF hP hD hS (lv_sub hl [0, 3] rfl)
          · skip
            have hF := (if_neg c11).symm.trans hF
            refine lv_goto (tgt := 120) hx hb dX10_doCopyists_44 (by decide) ?_
            refine lv_iinc (v := v1 + 1) (lv' := [(1, .int (v1 + 1)), (2, .int y2), (0, .ref (y 0))]) hx hb dX10_doCopyists_120 hl (k := 1) rfl rfl (by decide) rfl (fun ls hl => ?_)
            refine lv_goto (tgt := 2) hx hb dX10_doCopyists_123 (by decide) ?_
            exact ih2 (v1 + 1) S8 _ _ _ hF hP hD hS (lv_sub hl [0, 2] rfl)
        · skip
          have hF := (if_pos c4).symm.trans hF
          refine lv_goto (tgt := 120) hx hb dX10_doCopyists_22 (by decide) ?_
          refine lv_iinc (v := v1 + 1) (lv' := [(1, .int (v1 + 1)), (2, .int y2), (0, .ref (y 0))]) hx hb dX10_doCopyists_120 hl (k := 1) rfl rfl (by decide) rfl (fun ls hl => ?_)
          refine lv_goto (tgt := 2) hx hb dX10_doCopyists_123 (by decide) ?_
          exact ih2 (v1 + 1) S _ _ _ hF hP hD hS (lv_sub hl [0, 2] rfl)
  have hl := lv_entry ([.ref (y 0)]) (n := 4) (Nat.le_of_ble_eq_true rfl)
  rw [lg_entry_eq]
  generalize (lg_sl ([.ref (y 0)]) ++ List.replicate (4 - (lg_sl ([.ref (y 0)])).length) Slot.unset).toArray = ls at hl ⊢
  have hl : lv_has ls 4 [(0, .ref (y 0))] := hl
  unfold gX10_doCopyists at hF
  refine lv_iconst (v := 0) hx hb dX10_doCopyists_0 (by decide) ?_
  refine lv_istore_n (lv' := [(1, .int 0), (0, .ref (y 0))]) hx hb dX10_doCopyists_1 rfl hl (by decide) rfl (fun ls hl => ?_)
  refine key2 _ ?_ 1000 0 S0 _ _ _ hF hP hD hS (lv_sub hl [0, 1] rfl)
  intro S33 H locs ls hF hP hD hS hl
  have e2 := Option.some.inj hF
  have hP : va_P D vwCl (YW y cy Sf) H := by rw [← e2]; exact hP
  have hD : va_D (va_A (YW y cy S0) s.heap.size) (YW y cy Sf) := by rw [← e2]; exact hD
  exact W.vret hx hb hr (fun t ht hW => ⟨⟨(), rfl, trivial, by rw [ht]; exact hP, va_K.moved hW.alike hK, hD⟩, hS.F ht⟩) hS.2.2 dX10_doCopyists_126

theorem iX10_rule_10 : ∀ w ∈ wsX100, w ∈ wsX10_rule := fun _ h => List.mem_cons_of_mem _ (List.mem_append_right _ h)
set_option maxHeartbeats 8000000 in
set_option maxRecDepth 100000 in
theorem zX10_rule (l : Launch) (D : va_G) (y : Nat → Nat) (cy : Nat → ClassId) (S : RS) (sz : Nat) (p1 p2 : Int32) (rv : Int32) (hF : gX10_rule S p1 p2 = some rv) : Met l yX10_rule wsX10_rule ({ frames := 1, cells := 0, slots := 0, locals := 23 }) (PW D (TYS cy) (YW y cy S) sz [.ref (y 0), .int p1, .int p2]) (va_Qi (fun (res : Int32) (u : Unit) => res = rv) (BU D (TYS cy) (YW y cy S) (fun _ => YW y cy S) sz) (va_A (YW y cy S) sz)) 0 0 (va_A (YW y cy S) sz) := by
  refine Met.ofW (cc := cX10_rule) (maxL := 4) (ret := (some .int)) (by decide) rfl ?_
  intro p e s m args below meth c s₁ B hml hv
  obtain ⟨rfl, hsz, hP, hK, hD0⟩ := hv
  have hx := B.exec
  have hb := B.bytes
  have hr := B.returns
  have hts := atoms_spec (ws := wsX10_rule) B.pre
  have hown : s.vm.findClass RX10 = some m.cls := findClass_of_methodNamed B.named
  have hlocks := B.notSynchronized
  subst hsz
  have hD := hD0.self (sz := s.heap.size)
  have hA : ∀ q9 : Nat, s.heap.size ≤ q9 → va_A (YW y cy S) s.heap.size q9 := fun q9 h => Or.inr h
  have hS : va_S (va_A (YW y cy S) s.heap.size) s.heap s.heap [] := va_S.rf
  have key50 : ∀ (K : Option (Int32)), (∀  (H : Heap) (locs : List Loc) (ls : Array Slot), K  = some rv → va_P D vwCl (YW y cy S) H → va_D (va_A (YW y cy S) s.heap.size) (YW y cy S) → va_S (va_A (YW y cy S) s.heap.size) s.heap H locs → lv_has ls 4 [] → W p l e (headSpec wsX10_rule ({ frames := 1, cells := 0, slots := 0, locals := 23 })).room s m #[.ref (y 0), .int p1, .int p2] below meth c H locs 0 0 (MQ below (va_Qi (fun (res : Int32) (u : Unit) => res = rv) (BU D (TYS cy) (YW y cy S) (fun _ => YW y cy S) s.heap.size) (va_A (YW y cy S) s.heap.size)) #[.ref (y 0), .int p1, .int p2] s 0 0 (va_A (YW y cy S) s.heap.size)) (F0 m 121 ls [])) → ∀ (fu : Nat) (v1 : Int32) (v2 : Int32) (v3 : Int32) (H : Heap) (locs : List Loc) (ls : Array Slot), gX10_rule_50 S K fu v1 v2 v3 = some rv → va_P D vwCl (YW y cy S) H → va_D (va_A (YW y cy S) s.heap.size) (YW y cy S) → va_S (va_A (YW y cy S) s.heap.size) s.heap H locs → lv_has ls 4 [(1, .int v1), (2, .int v2), (3, .int v3), (0, .ref (y 0))] → W p l e (headSpec wsX10_rule ({ frames := 1, cells := 0, slots := 0, locals := 23 })).room s m #[.ref (y 0), .int p1, .int p2] below meth c H locs 0 0 (MQ below (va_Qi (fun (res : Int32) (u : Unit) => res = rv) (BU D (TYS cy) (YW y cy S) (fun _ => YW y cy S) s.heap.size) (va_A (YW y cy S) s.heap.size)) #[.ref (y 0), .int p1, .int p2] s 0 0 (va_A (YW y cy S) s.heap.size)) (F0 m 50 ls []) := by
    intro K hKK fu
    induction fu with
    | zero =>
      intro v1 v2 v3 H locs ls hF
      exact absurd (show (none : Option (Int32)) = some rv from hF) (by simp)
    | succ fu50 ih50 =>
      intro v1 v2 v3 H locs ls hF hP hD hS hl
      rw [gX10_rule_50] at hF
      refine lv_iload_n hx hb dX10_rule_50 rfl (lv_at hl 2 rfl) ?_
      refine lv_aload_n hx hb dX10_rule_51 rfl (lv_at hl 3 rfl) ?_
      refine va_get (D := D) (ci := 10) (v := .int (S 0 2)) (C := RX10) (T := TX10) (N := 58) hx hb hts iX10_rule_10 hown hK hP 0 rfl rfl 2 (by decide) (hts (.fieldLink RX10 160 "FondsRoomModel" "boxes" "I") (List.mem_of_getElem? (i := 5) rfl)) (fun _ h9 => h9) rfl dX10_rule_52 ?_
      refine lv_icmp_ge (tgt := 121) hx hb dX10_rule_55 (by decide) (fun c13 => ?_) (fun c13 => ?_)
      · skip
        have hF := (if_pos c13).symm.trans hF
        exact hKK   _ _ _ hF hP hD hS (lv_sub hl [] rfl)
      · skip
        have hF := (if_neg c13).symm.trans hF
        refine lv_aload_n hx hb dX10_rule_58 rfl (lv_at hl 3 rfl) ?_
        refine va_get (D := D) (ci := 10) (v := .ref (y 3)) (C := RX10) (T := TX10) (N := 58) hx hb hts iX10_rule_10 hown hK hP 0 rfl rfl 11 (by decide) (hts (.fieldLink RX10 30 "FondsRoomModel" "fonds" "[I") (List.mem_of_getElem? (i := 6) rfl)) (fun _ h9 => h9) rfl dX10_rule_59 ?_
        refine lv_iload_n hx hb dX10_rule_62 rfl (lv_at hl 2 rfl) ?_
        obtain ⟨hi15, hF⟩ := ld_s hF
        refine va_iald hx hb hK hP 3 0 rfl rfl hi15 dX10_rule_63 ?_
        refine lv_topi (fun y14 ey14 => ?_)
        replace hF := hF y14 ey14
        refine lv_aload_n hx hb dX10_rule_64 rfl (lv_at hl 3 rfl) ?_
        refine va_get (D := D) (ci := 10) (v := .ref (y 3)) (C := RX10) (T := TX10) (N := 58) hx hb hts iX10_rule_10 hown hK hP 0 rfl rfl 11 (by decide) (hts (.fieldLink RX10 30 "FondsRoomModel" "fonds" "[I") (List.mem_of_getElem? (i := 6) rfl)) (fun _ h9 => h9) rfl dX10_rule_65 ?_
        refine lv_iload_n hx hb dX10_rule_68 rfl (lv_at hl 1 rfl) ?_
        obtain ⟨hi17, hF⟩ := ld_s hF
        refine va_iald hx hb hK hP 3 0 rfl rfl hi17 dX10_rule_69 ?_
        refine lv_topi (fun y16 ey16 => ?_)
        replace hF := hF y16 ey16
        refine lv_icmp_ne (tgt := 115) hx hb dX10_rule_70 (by decide) (fun c18 => ?_) (fun c18 => ?_)
        · skip
          have hF := (if_neg c18).symm.trans hF
          refine lv_iinc (v := v3 + 1) (lv' := [(3, .int (v3 + 1)), (1, .int v1), (2, .int v2), (0, .ref (y 0))]) hx hb dX10_rule_115 hl (k := 2) rfl rfl (by decide) rfl (fun ls hl => ?_)
          refine lv_goto (tgt := 50) hx hb dX10_rule_118 (by decide) ?_
          exact ih50 v1 v2 (v3 + 1)  _ _ _ hF hP hD hS (lv_sub hl [1, 2, 0, 3] rfl)
        · skip
          have hF := (if_pos c18).symm.trans hF
          refine lv_aload_n hx hb dX10_rule_73 rfl (lv_at hl 3 rfl) ?_
          refine va_get (D := D) (ci := 10) (v := .ref (y 6)) (C := RX10) (T := TX10) (N := 58) hx hb hts iX10_rule_10 hown hK hP 0 rfl rfl 14 (by decide) (hts (.fieldLink RX10 39 "FondsRoomModel" "has" "[I") (List.mem_of_getElem? (i := 4) rfl)) (fun _ h9 => h9) rfl dX10_rule_74 ?_
          refine lv_iload_n hx hb dX10_rule_77 rfl (lv_at hl 2 rfl) ?_
          obtain ⟨hi20, hF⟩ := ld_s hF
          refine va_iald hx hb hK hP 6 0 rfl rfl hi20 dX10_rule_78 ?_
          refine lv_topi (fun y19 ey19 => ?_)
          replace hF := hF y19 ey19
          refine lv_iconst (v := (-1)) hx hb dX10_rule_79 (by decide) ?_
          refine lv_icmp_eq (tgt := 93) hx hb dX10_rule_80 (by decide) (fun c21 => ?_) (fun c21 => ?_)
          · skip
            have hF := (if_pos c21).symm.trans hF
            refine lv_aload_n hx hb dX10_rule_93 rfl (lv_at hl 3 rfl) ?_
            refine va_get (D := D) (ci := 10) (v := .ref (y 7)) (C := RX10) (T := TX10) (N := 58) hx hb hts iX10_rule_10 hown hK hP 0 rfl rfl 15 (by decide) (hts (.fieldLink RX10 42 "FondsRoomModel" "ticket" "[I") (List.mem_of_getElem? (i := 7) rfl)) (fun _ h9 => h9) rfl dX10_rule_94 ?_
            refine lv_iload_n hx hb dX10_rule_97 rfl (lv_at hl 2 rfl) ?_
            obtain ⟨hi23, hF⟩ := ld_s hF
            refine va_iald hx hb hK hP 7 0 rfl rfl hi23 dX10_rule_98 ?_
            refine lv_topi (fun y22 ey22 => ?_)
            replace hF := hF y22 ey22
            refine lv_iconst (v := (-1)) hx hb dX10_rule_99 (by decide) ?_
            refine lv_icmp_eq (tgt := 115) hx hb dX10_rule_100 (by decide) (fun c24 => ?_) (fun c24 => ?_)
            · skip
              have hF := (if_pos c24).symm.trans hF
              refine lv_iinc (v := v3 + 1) (lv' := [(3, .int (v3 + 1)), (1, .int v1), (2, .int v2), (0, .ref (y 0))]) hx hb dX10_rule_115 hl (k := 2) rfl rfl (by decide) rfl (fun ls hl => ?_)
              refine lv_goto (tgt := 50) hx hb dX10_rule_118 (by decide) ?_
              exact ih50 v1 v2 (v3 + 1)  _ _ _ hF hP hD hS (lv_sub hl [1, 2, 0, 3] rfl)
            · skip
              have hF := (if_neg c24).symm.trans hF
              refine lv_aload_n hx hb dX10_rule_103 rfl (lv_at hl 3 rfl) ?_
              refine va_get (D := D) (ci := 10) (v := .ref (y 7)) (C := RX10) (T := TX10) (N := 58) hx hb hts iX10_rule_10 hown hK hP 0 rfl rfl 15 (by decide) (hts (.fieldLink RX10 42 "FondsRoomModel" "ticket" "[I") (List.mem_of_getElem? (i := 7) rfl)) (fun _ h9 => h9) rfl dX10_rule_104 ?_
              refine lv_iload_n hx hb dX10_rule_107 rfl (lv_at hl 2 rfl) ?_
              obtain ⟨hi26, hF⟩ := ld_s hF
              refine va_iald hx hb hK hP 7 0 rfl rfl hi26 dX10_rule_108 ?_
              refine lv_topi (fun y25 ey25 => ?_)
              replace hF := hF y25 ey25
              refine lv_iload_n hx hb dX10_rule_109 rfl (lv_at hl 0 rfl) ?_
              refine lv_icmp_eq (tgt := 115) hx hb dX10_rule_110 (by decide) (fun c27 => ?_) (fun c27 => ?_)
              · skip
                have hF := (if_pos c27).symm.trans hF
                refine lv_iinc (v := v3 + 1) (lv' := [(3, .int (v3 + 1)), (1, .int v1), (2, .int v2), (0, .ref (y 0))]) hx hb dX10_rule_115 hl (k := 2) rfl rfl (by decide) rfl (fun ls hl => ?_)
                refine lv_goto (tgt := 50) hx hb dX10_rule_118 (by decide) ?_
                exact ih50 v1 v2 (v3 + 1)  _ _ _ hF hP hD hS (lv_sub hl [1, 2, 0, 3] rfl)
              · skip
                have hF := (if_neg c27).symm.trans hF
                refine lv_iconst (v := 4) hx hb dX10_rule_113 (by decide) ?_
                have e1 := Option.some.inj hF
                exact W.iret (v := 4) hx hb hr (fun t ht hW => ⟨⟨4, (), rfl, e1, by rw [ht]; exact hP, va_K.moved hW.alike hK, hD⟩, hS.F ht⟩) hS.2.2 dX10_rule_114
          · skip
            have hF := (if_neg c21).symm.trans hF
            refine lv_aload_n hx hb dX10_rule_83 rfl (lv_at hl 3 rfl) ?_
            refine va_get (D := D) (ci := 10) (v := .ref (y 6)) (C := RX10) (T := TX10) (N := 58) hx hb hts iX10_rule_10 hown hK hP 0 rfl rfl 14 (by decide) (hts (.fieldLink RX10 39 "FondsRoomModel" "has" "[I") (List.mem_of_getElem? (i := 4) rfl)) (fun _ h9 => h9) rfl dX10_rule_84 ?_
            refine lv_iload_n hx hb dX10_rule_87 rfl (lv_at hl 2 rfl) ?_
            obtain ⟨hi29, hF⟩ := ld_s hF
            refine va_iald hx hb hK hP 6 0 rfl rfl hi29 dX10_rule_88 ?_
            refine lv_topi (fun y28 ey28 => ?_)
            replace hF := hF y28 ey28
            refine lv_iload_n hx hb dX10_rule_89 rfl (lv_at hl 0 rfl) ?_
            refine lv_icmp_ne (tgt := 113) hx hb dX10_rule_90 (by decide) (fun c30 => ?_) (fun c30 => ?_)
            · skip
              have hF := (if_neg c30).symm.trans hF
              refine lv_iconst (v := 4) hx hb dX10_rule_113 (by decide) ?_
              have e1 := Option.some.inj hF
              exact W.iret (v := 4) hx hb hr (fun t ht hW => ⟨⟨4, (), rfl, e1, by rw [ht]; exact hP, va_K.moved hW.alike hK, hD⟩, hS.F ht⟩) hS.2.2 dX10_rule_114
            · skip
              have hF := (if_pos c30).symm.trans hF
              refine lv_aload_n hx hb dX10_rule_93 rfl (lv_at hl 3 rfl) ?_
              refine va_get (D := D) (ci := 10) (v := .ref (y 7)) (C := RX10) (T := TX10) (N := 58) hx hb hts iX10_rule_10 hown hK hP 0 rfl rfl 15 (by decide) (hts (.fieldLink RX10 42 "FondsRoomModel" "ticket" "[I") (List.mem_of_getElem? (i := 7) rfl)) (fun _ h9 => h9) rfl dX10_rule_94 ?_
              refine lv_iload_n hx hb dX10_rule_97 rfl (lv_at hl 2 rfl) ?_
              obtain ⟨hi32, hF⟩ := ld_s hF
              refine va_iald hx hb hK hP 7 0 rfl rfl hi32 dX10_rule_98 ?_
              refine lv_topi (fun y31 ey31 => ?_)
              replace hF := hF y31 ey31
              refine lv_iconst (v := (-1)) hx hb dX10_rule_99 (by decide) ?_
              refine lv_icmp_eq (tgt := 115) hx hb dX10_rule_100 (by decide) (fun c33 => ?_) (fun c33 => ?_)
              · skip
                have hF := (if_pos c33).symm.trans hF
                refine lv_iinc (v := v3 + 1) (lv' := [(3, .int (v3 + 1)), (1, .int v1), (2, .int v2), (0, .ref (y 0))]) hx hb dX10_rule_115 hl (k := 2) rfl rfl (by decide) rfl (fun ls hl => ?_)
                refine lv_goto (tgt := 50) hx hb dX10_rule_118 (by decide) ?_
                exact ih50 v1 v2 (v3 + 1)  _ _ _ hF hP hD hS (lv_sub hl [1, 2, 0, 3] rfl)
              · skip
                have hF := (if_neg c33).symm.trans hF
                refine lv_aload_n hx hb dX10_rule_103 rfl (lv_at hl 3 rfl) ?_
                refine va_get (D := D) (ci := 10) (v := .ref (y 7)) (C := RX10) (T := TX10) (N := 58) hx hb hts iX10_rule_10 hown hK hP 0 rfl rfl 15 (by decide) (hts (.fieldLink RX10 42 "FondsRoomModel" "ticket" "[I") (List.mem_of_getElem? (i := 7) rfl)) (fun _ h9 => h9) rfl dX10_rule_104 ?_
                refine lv_iload_n hx hb dX10_rule_107 rfl (lv_at hl 2 rfl) ?_
                obtain ⟨hi35, hF⟩ := ld_s hF
                refine va_iald hx hb hK hP 7 0 rfl rfl hi35 dX10_rule_108 ?_
                refine lv_topi (fun y34 ey34 => ?_)
                replace hF := hF y34 ey34
                refine lv_iload_n hx hb dX10_rule_109 rfl (lv_at hl 0 rfl) ?_
                refine lv_icmp_eq (tgt := 115) hx hb dX10_rule_110 (by decide) (fun c36 => ?_) (fun c36 => ?_)
                · skip
                  have hF := (if_pos c36).symm.trans hF
                  refine lv_iinc (v := v3 + 1) (lv' := [(3, .int (v3 + 1)), (1, .int v1), (2, .int v2), (0, .ref (y 0))]) hx hb dX10_rule_115 hl (k := 2) rfl rfl (by decide) rfl (fun ls hl => ?_)
                  refine lv_goto (tgt := 50) hx hb dX10_rule_118 (by decide) ?_
                  exact ih50 v1 v2 (v3 + 1)  _ _ _ hF hP hD hS (lv_sub hl [1, 2, 0, 3] rfl)
                · skip
                  have hF := (if_neg c36).symm.trans hF
                  refine lv_iconst (v := 4) hx hb dX10_rule_113 (by decide) ?_
                  have e1 := Option.some.inj hF
                  exact W.iret (v := 4) hx hb hr (fun t ht hW => ⟨⟨4, (), rfl, e1, by rw [ht]; exact hP, va_K.moved hW.alike hK, hD⟩, hS.F ht⟩) hS.2.2 dX10_rule_114
  have hl := lv_entry ([.ref (y 0), .int p1, .int p2]) (n := 4) (Nat.le_of_ble_eq_true rfl)
  rw [lg_entry_eq]
  generalize (lg_sl ([.ref (y 0), .int p1, .int p2]) ++ List.replicate (4 - (lg_sl ([.ref (y 0), .int p1, .int p2])).length) Slot.unset).toArray = ls at hl ⊢
  have hl : lv_has ls 4 [(0, .ref (y 0)), (1, .int p1), (2, .int p2)] := hl
  unfold gX10_rule at hF
  refine lv_aload_n hx hb dX10_rule_0 rfl (lv_at hl 0 rfl) ?_
  refine lv_iload_n hx hb dX10_rule_1 rfl (lv_at hl 1 rfl) ?_
  obtain ⟨r1, hq4, hF⟩ := bd1_s hF
  refine gvI (As := [.int p1]) (rest := []) ⟨hx, hb, hml, hown, hts⟩ (zX10_hasMany l D y cy S _ p1 r1 hq4) (cwV 1 hts gX10_rule_X10_hasMany rfl rfl rfl (by decide +kernel) ⟨Nat.le_of_ble_eq_true rfl, Nat.le_of_ble_eq_true rfl⟩) hK hP hD hS hA (va_recv hK hP (ci := 10) (q0 := 0) rfl rfl) rfl hl.1 rfl (Nat.le_of_ble_eq_true rfl) dX10_rule_2 ⟨Nat.le_of_ble_eq_true rfl, Nat.le_of_ble_eq_true rfl⟩ (fun a5 u9 H locs hw3 hP hD hS => ?_)
  have hP : va_P D vwCl (YW y cy S) H := hP
  have hD : va_D _ (YW y cy S) := hD
  refine lv_tov (v' := .int r1) (congrArg Value.int hw3) ?_
  refine lv_iconst (v := 3) hx hb dX10_rule_5 (by decide) ?_
  refine lv_icmp_lt (tgt := 11) hx hb dX10_rule_6 (by decide) (fun c6 => ?_) (fun c6 => ?_)
  · skip
    have hF := (if_pos c6).symm.trans hF
    refine lv_aload_n hx hb dX10_rule_11 rfl (lv_at hl 0 rfl) ?_
    refine va_get (D := D) (ci := 10) (v := .ref (y 4)) (C := RX10) (T := TX10) (N := 58) hx hb hts iX10_rule_10 hown hK hP 0 rfl rfl 12 (by decide) (hts (.fieldLink RX10 33 "FondsRoomModel" "isPrecious" "[Z") (List.mem_of_getElem? (i := 1) rfl)) (fun _ h9 => h9) rfl dX10_rule_12 ?_
    refine lv_iload_n hx hb dX10_rule_15 rfl (lv_at hl 2 rfl) ?_
    obtain ⟨hi8, hF⟩ := ld_s hF
    refine va_zald hx hb hK hP 4 1 rfl rfl hi8 dX10_rule_16 ?_
    refine lv_topi (fun y7 ey7 => ?_)
    replace hF := hF y7 ey7
    refine lv_if_eq (tgt := 36) hx hb dX10_rule_17 (by decide) (fun c9 => ?_) (fun c9 => ?_)
    · skip
      have hF := (if_pos c9).symm.trans hF
      refine lv_aload_n hx hb dX10_rule_36 rfl (lv_at hl 0 rfl) ?_
      refine va_get (D := D) (ci := 10) (v := .ref (y 6)) (C := RX10) (T := TX10) (N := 58) hx hb hts iX10_rule_10 hown hK hP 0 rfl rfl 14 (by decide) (hts (.fieldLink RX10 39 "FondsRoomModel" "has" "[I") (List.mem_of_getElem? (i := 4) rfl)) (fun _ h9 => h9) rfl dX10_rule_37 ?_
      refine lv_iload_n hx hb dX10_rule_40 rfl (lv_at hl 2 rfl) ?_
      obtain ⟨hi11, hF⟩ := ld_s hF
      refine va_iald hx hb hK hP 6 0 rfl rfl hi11 dX10_rule_41 ?_
      refine lv_topi (fun y10 ey10 => ?_)
      replace hF := hF y10 ey10
      refine lv_iload_n hx hb dX10_rule_42 rfl (lv_at hl 1 rfl) ?_
      refine lv_icmp_ne (tgt := 48) hx hb dX10_rule_43 (by decide) (fun c12 => ?_) (fun c12 => ?_)
      · skip
        have hF := (if_neg c12).symm.trans hF
        refine lv_iconst (v := 0) hx hb dX10_rule_48 (by decide) ?_
        refine lv_istore_n (lv' := [(3, .int 0), (0, .ref (y 0)), (1, .int p1), (2, .int p2)]) hx hb dX10_rule_49 rfl hl (by decide) rfl (fun ls hl => ?_)
        refine key50 _ ?_ 1000 p1 p2 0  _ _ _ hF hP hD hS (lv_sub hl [2, 3, 0, 1] rfl)
        intro  H locs ls hF hP hD hS hl
        refine lv_iconst (v := 0) hx hb dX10_rule_121 (by decide) ?_
        have e1 := Option.some.inj hF
        exact W.iret (v := 0) hx hb hr (fun t ht hW => ⟨⟨0, (), rfl, e1, by rw [ht]; exact hP, va_K.moved hW.alike hK, hD⟩, hS.F ht⟩) hS.2.2 dX10_rule_122
      · skip
        have hF := (if_pos c12).symm.trans hF
        refine lv_iconst (v := 3) hx hb dX10_rule_46 (by decide) ?_
        have e1 := Option.some.inj hF
        exact W.iret (v := 3) hx hb hr (fun t ht hW => ⟨⟨3, (), rfl, e1, by rw [ht]; exact hP, va_K.moved hW.alike hK, hD⟩, hS.F ht⟩) hS.2.2 dX10_rule_47
    · skip
      have hF := (if_neg c9).symm.trans hF
      refine lv_aload_n hx hb dX10_rule_20 rfl (lv_at hl 0 rfl) ?_
      refine va_get (D := D) (ci := 10) (v := .ref (y 1)) (C := RX10) (T := TX10) (N := 58) hx hb hts iX10_rule_10 hown hK hP 0 rfl rfl 9 (by decide) (hts (.fieldLink RX10 22 "FondsRoomModel" "isWatched" "[Z") (List.mem_of_getElem? (i := 2) rfl)) (fun _ h9 => h9) rfl dX10_rule_21 ?_
      refine lv_aload_n hx hb dX10_rule_24 rfl (lv_at hl 0 rfl) ?_
      refine va_get (D := D) (ci := 10) (v := .ref (y 16)) (C := RX10) (T := TX10) (N := 58) hx hb hts iX10_rule_10 hown hK hP 0 rfl rfl 28 (by decide) (hts (.fieldLink RX10 69 "FondsRoomModel" "desk" "[I") (List.mem_of_getElem? (i := 3) rfl)) (fun _ h9 => h9) rfl dX10_rule_25 ?_
      refine lv_iload_n hx hb dX10_rule_28 rfl (lv_at hl 1 rfl) ?_
      obtain ⟨hi38, hF⟩ := ld_s hF
      refine va_iald hx hb hK hP 16 0 rfl rfl hi38 dX10_rule_29 ?_
      refine lv_topi (fun y37 ey37 => ?_)
      replace hF := hF y37 ey37
      obtain ⟨hi40, hF⟩ := ld_s hF
      refine va_zald hx hb hK hP 1 1 rfl rfl hi40 dX10_rule_30 ?_
      refine lv_topi (fun y39 ey39 => ?_)
      replace hF := hF y39 ey39
      refine lv_if_ne (tgt := 36) hx hb dX10_rule_31 (by decide) (fun c41 => ?_) (fun c41 => ?_)
      · skip
        have hF := (if_neg c41).symm.trans hF
        refine lv_aload_n hx hb dX10_rule_36 rfl (lv_at hl 0 rfl) ?_
        refine va_get (D := D) (ci := 10) (v := .ref (y 6)) (C := RX10) (T := TX10) (N := 58) hx hb hts iX10_rule_10 hown hK hP 0 rfl rfl 14 (by decide) (hts (.fieldLink RX10 39 "FondsRoomModel" "has" "[I") (List.mem_of_getElem? (i := 4) rfl)) (fun _ h9 => h9) rfl dX10_rule_37 ?_
        refine lv_iload_n hx hb dX10_rule_40 rfl (lv_at hl 2 rfl) ?_
        obtain ⟨hi43, hF⟩ := ld_s hF
        refine va_iald hx hb hK hP 6 0 rfl rfl hi43 dX10_rule_41 ?_
        refine lv_topi (fun y42 ey42 => ?_)
        replace hF := hF y42 ey42
        refine lv_iload_n hx hb dX10_rule_42 rfl (lv_at hl 1 rfl) ?_
        refine lv_icmp_ne (tgt := 48) hx hb dX10_rule_43 (by decide) (fun c44 => ?_) (fun c44 => ?_)
        · skip
          have hF := (if_neg c44).symm.trans hF
          refine lv_iconst (v := 0) hx hb dX10_rule_48 (by decide) ?_
          refine lv_istore_n (lv' := [(3, .int 0), (0, .ref (y 0)), (1, .int p1), (2, .int p2)]) hx hb dX10_rule_49 rfl hl (by decide) rfl (fun ls hl => ?_)
          refine key50 _ ?_ 1000 p1 p2 0  _ _ _ hF hP hD hS (lv_sub hl [2, 3, 0, 1] rfl)
          intro  H locs ls hF hP hD hS hl
          refine lv_iconst (v := 0) hx hb dX10_rule_121 (by decide) ?_
          have e1 := Option.some.inj hF
          exact W.iret (v := 0) hx hb hr (fun t ht hW => ⟨⟨0, (), rfl, e1, by rw [ht]; exact hP, va_K.moved hW.alike hK, hD⟩, hS.F ht⟩) hS.2.2 dX10_rule_122
        · skip
          have hF := (if_pos c44).symm.trans hF
          refine lv_iconst (v := 3) hx hb dX10_rule_46 (by decide) ?_
          have e1 := Option.some.inj hF
          exact W.iret (v := 3) hx hb hr (fun t ht hW => ⟨⟨3, (), rfl, e1, by rw [ht]; exact hP, va_K.moved hW.alike hK, hD⟩, hS.F ht⟩) hS.2.2 dX10_rule_47
      · skip
        have hF := (if_pos c41).symm.trans hF
        refine lv_iconst (v := 2) hx hb dX10_rule_34 (by decide) ?_
        have e1 := Option.some.inj hF
        exact W.iret (v := 2) hx hb hr (fun t ht hW => ⟨⟨2, (), rfl, e1, by rw [ht]; exact hP, va_K.moved hW.alike hK, hD⟩, hS.F ht⟩) hS.2.2 dX10_rule_35
  · skip
    have hF := (if_neg c6).symm.trans hF
    refine lv_iconst (v := 1) hx hb dX10_rule_9 (by decide) ?_
    have e1 := Option.some.inj hF
    exact W.iret (v := 1) hx hb hr (fun t ht hW => ⟨⟨1, (), rfl, e1, by rw [ht]; exact hP, va_K.moved hW.alike hK, hD⟩, hS.F ht⟩) hS.2.2 dX10_rule_10
