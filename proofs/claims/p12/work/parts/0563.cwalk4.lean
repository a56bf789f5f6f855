theorem iX9_firstOrderer_3 : ∀ w ∈ wsX30, w ∈ wsX9_firstOrderer := fun _ h => List.mem_cons_of_mem _ (List.mem_append_left _ (List.mem_append_left _ (List.mem_append_right _ h)))
theorem iX9_firstOrderer_6 : ∀ w ∈ wsX60, w ∈ wsX9_firstOrderer := fun _ h => List.mem_cons_of_mem _ (List.mem_append_left _ (List.mem_append_right _ h))
theorem iX9_firstOrderer_9 : ∀ w ∈ wsX90, w ∈ wsX9_firstOrderer := fun _ h => List.mem_cons_of_mem _ (List.mem_append_left _ (List.mem_append_left _ (List.mem_append_left _ (List.mem_append_right _ h))))
set_option maxHeartbeats 8000000 in
set_option maxRecDepth 100000 in
theorem zX9_firstOrderer (l : Launch) (D : va_G) (x : Nat → Nat) (cy : Nat → ClassId) (g : Nat → Nat → Option Nat) (L : List Nat) (K : Nat → Nat) (cf : Nat → Nat → Nat) (nm : Nat → Int32) (hG : GO L K g) (hL : PL L K cf) (S : CS) (hT : WT L K S.2) (sz : Nat) (ar1 : Int32)  (rv : Option Nat) (hF : gX9_firstOrderer g cf nm S ar1 = some rv) : Met l yX9_firstOrderer wsX9_firstOrderer ({ frames := 1, cells := 0, slots := 0, locals := 21 }) (PW D (TYS cy) (ZW x cy g S ++ va_pl L (pf cy K cf nm S)) sz [.ref (x 0), .int ar1]) (va_Qq (fun (res : Option Nat) (u : Unit) => res = rv ∧ rok L K 6 rv) (BU D (TYS cy) (ZW x cy g S ++ va_pl L (pf cy K cf nm S)) (fun _ => ZW x cy g S ++ va_pl L (pf cy K cf nm S)) sz) (va_A (ZW x cy g S ++ va_pl L (pf cy K cf nm S)) sz)) 0 0 (va_A (ZW x cy g S ++ va_pl L (pf cy K cf nm S)) sz) := by
  refine Met.ofW (cc := cX9_firstOrderer) (maxL := 4) (ret := (some (.object "FondsRoom$Reader"))) (by decide) rfl ?_
  intro p e s m args below meth c s₁ B hml hv
  obtain ⟨rfl, hsz, hP, hK, hD0⟩ := hv
  have hx := B.exec
  have hb := B.bytes
  have hr := B.returns
  have hts := atoms_spec (ws := wsX9_firstOrderer) B.pre
  have hown : s.vm.findClass RX9 = some m.cls := findClass_of_methodNamed B.named
  have hlocks := B.notSynchronized
  subst hsz
  have hD := hD0.self (sz := s.heap.size)
  have hA : ∀ q9 : Nat, s.heap.size ≤ q9 → va_A (ZW x cy g S ++ va_pl L (pf cy K cf nm S)) s.heap.size q9 := fun q9 h => Or.inr h
  have hS : va_S (va_A (ZW x cy g S ++ va_pl L (pf cy K cf nm S)) s.heap.size) s.heap s.heap [] := va_S.rf
  have key2 : ∀ (KK : Option (Option Nat)), (∀  (H : Heap) (locs : List Loc) (ls : Array Slot), KK  = some rv → va_P D vwCl (ZW x cy g S ++ va_pl L (pf cy K cf nm S)) H → va_D (va_A (ZW x cy g S ++ va_pl L (pf cy K cf nm S)) s.heap.size) (ZW x cy g S ++ va_pl L (pf cy K cf nm S)) → va_S (va_A (ZW x cy g S ++ va_pl L (pf cy K cf nm S)) s.heap.size) s.heap H locs → lv_has ls 4 [] → W p l e (headSpec wsX9_firstOrderer ({ frames := 1, cells := 0, slots := 0, locals := 21 })).room s m #[.ref (x 0), .int ar1] below meth c H locs 0 0 (MQ below (va_Qq (fun (res : Option Nat) (u : Unit) => res = rv ∧ rok L K 6 rv) (BU D (TYS cy) (ZW x cy g S ++ va_pl L (pf cy K cf nm S)) (fun _ => ZW x cy g S ++ va_pl L (pf cy K cf nm S)) s.heap.size) (va_A (ZW x cy g S ++ va_pl L (pf cy K cf nm S)) s.heap.size)) #[.ref (x 0), .int ar1] s 0 0 (va_A (ZW x cy g S ++ va_pl L (pf cy K cf nm S)) s.heap.size)) (F0 m 50 ls [])) → ∀ (fu : Nat) (v1 : Int32) (v2 : Int32) (H : Heap) (locs : List Loc) (ls : Array Slot), gX9_firstOrderer_2 S g cf nm KK fu v1 v2 = some rv → va_P D vwCl (ZW x cy g S ++ va_pl L (pf cy K cf nm S)) H → va_D (va_A (ZW x cy g S ++ va_pl L (pf cy K cf nm S)) s.heap.size) (ZW x cy g S ++ va_pl L (pf cy K cf nm S)) → va_S (va_A (ZW x cy g S ++ va_pl L (pf cy K cf nm S)) s.heap.size) s.heap H locs → lv_has ls 4 [(1, .int v1), (2, .int v2), (0, .ref (x 0))] → W p l e (headSpec wsX9_firstOrderer ({ frames := 1, cells := 0, slots := 0, locals := 21 })).room s m #[.ref (x 0), .int ar1] below meth c H locs 0 0 (MQ below (va_Qq (fun (res : Option Nat) (u : Unit) => res = rv ∧ rok L K 6 rv) (BU D (TYS cy) (ZW x cy g S ++ va_pl L (pf cy K cf nm S)) (fun _ => ZW x cy g S ++ va_pl L (pf cy K cf nm S)) s.heap.size) (va_A (ZW x cy g S ++ va_pl L (pf cy K cf nm S)) s.heap.size)) #[.ref (x 0), .int ar1] s 0 0 (va_A (ZW x cy g S ++ va_pl L (pf cy K cf nm S)) s.heap.size)) (F0 m 2 ls []) := by
    intro KK hKK fu
    induction fu with
    | zero =>
      intro v1 v2 H locs ls hF
      exact absurd (show (none : Option (Option Nat)) = some rv from hF) (by simp)
    | succ fu2 ih2 =>
      intro v1 v2 H locs ls hF hP hD hS hl
      rw [gX9_firstOrderer_2] at hF
      refine lv_iload_n hx hb dX9_firstOrderer_2 rfl (lv_at hl 1 rfl) ?_
      refine lv_aload_n hx hb dX9_firstOrderer_3 rfl (lv_at hl 2 rfl) ?_
      refine va_get (D := D) (ci := 9) (v := .ref (x 12)) (C := RX9) (T := TX9) (N := 19) hx hb hts iX9_firstOrderer_9 hown hK hP 0 rfl rfl 7 (by decide) (hts (.fieldLink RX9 54 "FondsRoom" "copyTickets" "LFondsRoom$Line;") (List.mem_of_getElem? (i := 1) rfl)) (fun _ h9 => h9) rfl dX9_firstOrderer_4 ?_
      refine va_get (D := D) (ci := 3) (v := .int (S.1 200 13)) (C := RX3) (T := TX3) (N := 2) hx hb hts iX9_firstOrderer_3 hown hK hP 12 rfl rfl 1 (by decide) (hts (.fieldLink RX9 373 "FondsRoom$Line" "size" "I") (List.mem_of_getElem? (i := 2) rfl)) (fun _ h9 => h9) rfl dX9_firstOrderer_7 ?_
      refine lv_icmp_ge (tgt := 50) hx hb dX9_firstOrderer_10 (by decide) (fun c1 => ?_) (fun c1 => ?_)
      · skip
        have hF := (if_pos c1).symm.trans hF
        exact hKK   _ _ _ hF hP hD hS (lv_sub hl [] rfl)
      · skip
        have hF := (if_neg c1).symm.trans hF
        refine lv_aload_n hx hb dX9_firstOrderer_13 rfl (lv_at hl 2 rfl) ?_
        refine va_get (D := D) (ci := 9) (v := .ref (x 12)) (C := RX9) (T := TX9) (N := 19) hx hb hts iX9_firstOrderer_9 hown hK hP 0 rfl rfl 7 (by decide) (hts (.fieldLink RX9 54 "FondsRoom" "copyTickets" "LFondsRoom$Line;") (List.mem_of_getElem? (i := 1) rfl)) (fun _ h9 => h9) rfl dX9_firstOrderer_14 ?_
        refine lv_iload_n hx hb dX9_firstOrderer_17 rfl (lv_at hl 1 rfl) ?_
        obtain ⟨q2, hq5, hF⟩ := bd1_s hF
        refine gvQ (As := [.int v2]) (rest := []) ⟨hx, hb, hml, hown, hts⟩ (zX3_at_2 l D x cy g L K cf nm hG hL S hT _ v2  q2 hq5) (cwV 1 hts gX9_firstOrderer_X3_at rfl rfl rfl (by decide +kernel) ⟨Nat.le_of_ble_eq_true rfl, Nat.le_of_ble_eq_true rfl⟩) hK hP hD hS hA (va_recv hK hP (ci := 3) (q0 := 12) rfl rfl) rfl hl.1 rfl (Nat.le_of_ble_eq_true rfl) dX9_firstOrderer_18 ⟨Nat.le_of_ble_eq_true rfl, Nat.le_of_ble_eq_true rfl⟩ (fun a6 u9 H locs hw4 hP hD hS => ?_)
        have hP : va_P D vwCl (ZW x cy g S ++ va_pl L (pf cy K cf nm S)) H := hP
        have hD : va_D _ (ZW x cy g S ++ va_pl L (pf cy K cf nm S)) := hD
        refine lv_tov (v' := va_rf q2) (congrArg va_rf hw4.1) ?_
        refine lq_astore_n (lv' := [(3, va_rf q2), (1, .int v1), (2, .int v2), (0, .ref (x 0))]) hx hb dX9_firstOrderer_21 rfl hl (by decide) rfl (fun ls hl => ?_)
        refine lq_aload_n hx hb dX9_firstOrderer_22 rfl (lv_at hl 0 rfl) ?_
        rcases eb7 : q2 with _ | b7
        · skip
          subst eb7
          replace hF := oc_n hF
          have hl : lv_has ls 4 [(3, .null), (1, .int v1), (2, .int v2), (0, .ref (x 0))] := hl
          refine W.eq (g2 := F0 m 23 ls [.null]) rfl ?_
          refine lv_ifnullN (tgt := 44) hx hb dX9_firstOrderer_23 (by decide) ?_
          refine lv_iinc (v := v2 + 1) (lv' := [(2, .int (v2 + 1)), (3, .null), (1, .int v1), (0, .ref (x 0))]) hx hb dX9_firstOrderer_44 hl (k := 2) rfl rfl (by decide) rfl (fun ls hl => ?_)
          refine lv_goto (tgt := 2) hx hb dX9_firstOrderer_47 (by decide) ?_
          exact ih2 v1 (v2 + 1)  _ _ _ hF hP hD hS (lv_sub hl [2, 0, 3] rfl)
        · skip
          subst eb7
          replace hF := oc_b hF
          have mb7 := hw4.2 b7 rfl
          have hl : lv_has ls 4 [(3, .ref b7), (1, .int v1), (2, .int v2), (0, .ref (x 0))] := hl
          refine W.eq (g2 := F0 m 23 ls [.ref b7]) rfl ?_
          refine lv_ifnull hx hb dX9_firstOrderer_23 ?_
          refine lv_aload_n hx hb dX9_firstOrderer_26 rfl (lv_at hl 0 rfl) ?_
          refine lv_iconst (v := 5) hx hb dX9_firstOrderer_27 (by decide) ?_
          obtain ⟨r8, hq11, hF⟩ := bd1_s hF
          refine gvI (As := [.int 5]) (rest := []) ⟨hx, hb, hml, hown, hts⟩ (zX6_awaitsAt l D x cy g L K cf nm hG hL S hT _ b7 5 ⟨mb7.1, mb7.2⟩ r8 hq11) (cwV 1 hts gX9_firstOrderer_X6_awaitsAt rfl rfl rfl (by decide +kernel) ⟨Nat.le_of_ble_eq_true rfl, Nat.le_of_ble_eq_true rfl⟩) hK hP hD hS hA (pl_recv hK hP (ci := 6) rfl mb7.1 (pf_6 mb7.2)) rfl hl.1 rfl (Nat.le_of_ble_eq_true rfl) dX9_firstOrderer_28 ⟨Nat.le_of_ble_eq_true rfl, Nat.le_of_ble_eq_true rfl⟩ (fun a12 u9 H locs hw10 hP hD hS => ?_)
          have hP : va_P D vwCl (ZW x cy g S ++ va_pl L (pf cy K cf nm S)) H := hP
          have hD : va_D _ (ZW x cy g S ++ va_pl L (pf cy K cf nm S)) := hD
          refine lv_tov (v' := .int r8) (congrArg Value.int hw10.1) ?_
          refine lv_if_eq (tgt := 44) hx hb dX9_firstOrderer_31 (by decide) (fun c13 => ?_) (fun c13 => ?_)
          · skip
            have hF := (if_pos c13).symm.trans hF
            refine lv_iinc (v := v2 + 1) (lv' := [(2, .int (v2 + 1)), (3, .ref b7), (1, .int v1), (0, .ref (x 0))]) hx hb dX9_firstOrderer_44 hl (k := 2) rfl rfl (by decide) rfl (fun ls hl => ?_)
            refine lv_goto (tgt := 2) hx hb dX9_firstOrderer_47 (by decide) ?_
            exact ih2 v1 (v2 + 1)  _ _ _ hF hP hD hS (lv_sub hl [2, 0, 3] rfl)
          · skip
            have hF := (if_neg c13).symm.trans hF
            refine lv_aload_n hx hb dX9_firstOrderer_34 rfl (lv_at hl 0 rfl) ?_
            refine pg_get (D := D) (ci := 6) (v := .int (S.1 131 b7)) (C := RX6) (T := TX6) (N := 17) hx hb hts iX9_firstOrderer_6 hown hK hP mb7.1 (pf_6 mb7.2) rfl 11 (by decide) (hts (.fieldLink RX9 339 "FondsRoom$Reader" "copyUrgent" "Z") (List.mem_of_getElem? (i := 3) rfl)) (fun _ h9 => h9) rfl dX9_firstOrderer_35 ?_
            refine lv_iload_n hx hb dX9_firstOrderer_38 rfl (lv_at hl 1 rfl) ?_
            refine lv_icmp_ne (tgt := 44) hx hb dX9_firstOrderer_39 (by decide) (fun c14 => ?_) (fun c14 => ?_)
            · skip
              have hF := (if_neg c14).symm.trans hF
              refine lv_iinc (v := v2 + 1) (lv' := [(2, .int (v2 + 1)), (3, .ref b7), (1, .int v1), (0, .ref (x 0))]) hx hb dX9_firstOrderer_44 hl (k := 2) rfl rfl (by decide) rfl (fun ls hl => ?_)
              refine lv_goto (tgt := 2) hx hb dX9_firstOrderer_47 (by decide) ?_
              exact ih2 v1 (v2 + 1)  _ _ _ hF hP hD hS (lv_sub hl [2, 0, 3] rfl)
            · skip
              have hF := (if_pos c14).symm.trans hF
              refine lv_aload_n hx hb dX9_firstOrderer_42 rfl (lv_at hl 0 rfl) ?_
              have e1 := Option.some.inj hF
              exact W.aret (v := .ref b7) hx hb hr (Or.inl ⟨_, rfl⟩) (Or.inr ⟨_, rfl⟩) (fun t ht hW => ⟨⟨(some (b7)), (), rfl, ⟨e1, by rw [← e1]; exact (rok_some mb7.1 mb7.2)⟩, by rw [ht]; exact hP, va_K.moved hW.alike hK, hD⟩, hS.F ht⟩) hS.2.2 dX9_firstOrderer_43
  have hl := lv_entry ([.ref (x 0), .int ar1]) (n := 4) (Nat.le_of_ble_eq_true rfl)
  rw [lg_entry_eq]
  generalize (lg_sl ([.ref (x 0), .int ar1]) ++ List.replicate (4 - (lg_sl ([.ref (x 0), .int ar1])).length) Slot.unset).toArray = ls at hl ⊢
  have hl : lv_has ls 4 [(0, .ref (x 0)), (1, .int ar1)] := hl
  unfold gX9_firstOrderer at hF
  refine lv_iconst (v := 0) hx hb dX9_firstOrderer_0 (by decide) ?_
  refine lv_istore_n (lv' := [(2, .int 0), (0, .ref (x 0)), (1, .int ar1)]) hx hb dX9_firstOrderer_1 rfl hl (by decide) rfl (fun ls hl => ?_)
  refine key2 _ ?_ 1000 ar1 0  _ _ _ hF hP hD hS (lv_sub hl [2, 0, 1] rfl)
  intro  H locs ls hF hP hD hS hl
  refine lv_null hx hb dX9_firstOrderer_50 ?_
  have e1 := Option.some.inj hF
  exact W.aret (v := .null) hx hb hr (Or.inl ⟨_, rfl⟩) (Or.inl rfl) (fun t ht hW => ⟨⟨none, (), rfl, ⟨e1, by rw [← e1]; exact rok_none⟩, by rw [ht]; exact hP, va_K.moved hW.alike hK, hD⟩, hS.F ht⟩) hS.2.2 dX9_firstOrderer_51

theorem iX9_nextOrderer_9 : ∀ w ∈ wsX90, w ∈ wsX9_nextOrderer := fun _ h => List.mem_cons_of_mem _ (List.mem_append_left _ (List.mem_append_left _ (List.mem_append_left _ (List.mem_append_right _ h))))
set_option maxHeartbeats 8000000 in
set_option maxRecDepth 100000 in
theorem zX9_nextOrderer (l : Launch) (D : va_G) (x : Nat → Nat) (cy : Nat → ClassId) (g : Nat → Nat → Option Nat) (L : List Nat) (K : Nat → Nat) (cf : Nat → Nat → Nat) (nm : Nat → Int32) (hG : GO L K g) (hL : PL L K cf) (S : CS) (hT : WT L K S.2) (sz : Nat)   (rv : Option Nat) (hF : gX9_nextOrderer g cf nm S  = some rv) : Met l yX9_nextOrderer wsX9_nextOrderer ({ frames := 2, cells := 0, slots := 0, locals := 44 }) (PW D (TYS cy) (ZW x cy g S ++ va_pl L (pf cy K cf nm S)) sz [.ref (x 0)]) (va_Qq (fun (res : Option Nat) (u : Unit) => res = rv ∧ rok L K 6 rv) (BU D (TYS cy) (ZW x cy g S ++ va_pl L (pf cy K cf nm S)) (fun _ => ZW x cy g S ++ va_pl L (pf cy K cf nm S)) sz) (va_A (ZW x cy g S ++ va_pl L (pf cy K cf nm S)) sz)) 0 0 (va_A (ZW x cy g S ++ va_pl L (pf cy K cf nm S)) sz) := by
  refine Met.ofW (cc := cX9_nextOrderer) (maxL := 3) (ret := (some (.object "FondsRoom$Reader"))) (by decide) rfl ?_
  intro p e s m args below meth c s₁ B hml hv
  obtain ⟨rfl, hsz, hP, hK, hD0⟩ := hv
  have hx := B.exec
  have hb := B.bytes
  have hr := B.returns
  have hts := atoms_spec (ws := wsX9_nextOrderer) B.pre
  have hown : s.vm.findClass RX9 = some m.cls := findClass_of_methodNamed B.named
  have hlocks := B.notSynchronized
  subst hsz
  have hD := hD0.self (sz := s.heap.size)
  have hA : ∀ q9 : Nat, s.heap.size ≤ q9 → va_A (ZW x cy g S ++ va_pl L (pf cy K cf nm S)) s.heap.size q9 := fun q9 h => Or.inr h
  have hS : va_S (va_A (ZW x cy g S ++ va_pl L (pf cy K cf nm S)) s.heap.size) s.heap s.heap [] := va_S.rf
  have hl := lv_entry ([.ref (x 0)]) (n := 3) (Nat.le_of_ble_eq_true rfl)
  rw [lg_entry_eq]
  generalize (lg_sl ([.ref (x 0)]) ++ List.replicate (3 - (lg_sl ([.ref (x 0)])).length) Slot.unset).toArray = ls at hl ⊢
  have hl : lv_has ls 3 [(0, .ref (x 0))] := hl
  unfold gX9_nextOrderer at hF
  refine lv_aload_n hx hb dX9_nextOrderer_0 rfl (lv_at hl 0 rfl) ?_
  refine lv_iconst (v := 1) hx hb dX9_nextOrderer_1 (by decide) ?_
  obtain ⟨q1, hq4, hF⟩ := bd1_s hF
  refine gvQ (As := [.int 1]) (rest := []) ⟨hx, hb, hml, hown, hts⟩ (zX9_firstOrderer l D x cy g L K cf nm hG hL S hT _ 1  q1 hq4) (cwV 1 hts gX9_nextOrderer_X9_firstOrderer rfl rfl rfl (by decide +kernel) ⟨Nat.le_of_ble_eq_true rfl, Nat.le_of_ble_eq_true rfl⟩) hK hP hD hS hA (va_recv hK hP (ci := 9) (q0 := 0) rfl rfl) rfl hl.1 rfl (Nat.le_of_ble_eq_true rfl) dX9_nextOrderer_2 ⟨Nat.le_of_ble_eq_true rfl, Nat.le_of_ble_eq_true rfl⟩ (fun a5 u9 H locs hw3 hP hD hS => ?_)
  have hP : va_P D vwCl (ZW x cy g S ++ va_pl L (pf cy K cf nm S)) H := hP
  have hD : va_D _ (ZW x cy g S ++ va_pl L (pf cy K cf nm S)) := hD
  refine lv_tov (v' := va_rf q1) (congrArg va_rf hw3.1) ?_
  refine lq_astore_n (lv' := [(1, va_rf q1), (0, .ref (x 0))]) hx hb dX9_nextOrderer_5 rfl hl (by decide) rfl (fun ls hl => ?_)
  refine lv_aload_n hx hb dX9_nextOrderer_6 rfl (lv_at hl 1 rfl) ?_
  refine lv_iconst (v := 0) hx hb dX9_nextOrderer_7 (by decide) ?_
  obtain ⟨q6, hq9, hF⟩ := bd1_s hF
  refine gvQ (As := [.int 0]) (rest := []) ⟨hx, hb, hml, hown, hts⟩ (zX9_firstOrderer l D x cy g L K cf nm hG hL S hT _ 0  q6 hq9) (cwV 1 hts gX9_nextOrderer_X9_firstOrderer rfl rfl rfl (by decide +kernel) ⟨Nat.le_of_ble_eq_true rfl, Nat.le_of_ble_eq_true rfl⟩) hK hP hD hS hA (va_recv hK hP (ci := 9) (q0 := 0) rfl rfl) rfl hl.1 rfl (Nat.le_of_ble_eq_true rfl) dX9_nextOrderer_8 ⟨Nat.le_of_ble_eq_true rfl, Nat.le_of_ble_eq_true rfl⟩ (fun a10 u9 H locs hw8 hP hD hS => ?_)
  have hP : va_P D vwCl (ZW x cy g S ++ va_pl L (pf cy K cf nm S)) H := hP
  have hD : va_D _ (ZW x cy g S ++ va_pl L (pf cy K cf nm S)) := hD
  refine lv_tov (v' := va_rf q6) (congrArg va_rf hw8.1) ?_
  refine lq_astore_n (lv' := [(2, va_rf q6), (1, va_rf q1), (0, .ref (x 0))]) hx hb dX9_nextOrderer_11 rfl hl (by decide) (by cases q1 <;> rfl) (fun ls hl => ?_)
  refine lq_aload_n hx hb dX9_nextOrderer_12 rfl (lv_at hl 1 rfl) ?_
  rcases eb11 : q1 with _ | b11
  · skip
    subst eb11
    replace hF := oc_n hF
    have hl : lv_has ls 3 [(2, va_rf q6), (1, .null), (0, .ref (x 0))] := hl
    refine W.eq (g2 := F0 m 13 ls [.null]) rfl ?_
    refine lv_ifnullN (tgt := 28) hx hb dX9_nextOrderer_13 (by decide) ?_
    refine lq_aload_n hx hb dX9_nextOrderer_28 rfl (lv_at hl 0 rfl) ?_
    have e1 := Option.some.inj hF
    exact W.aret (v := va_rf q6) hx hb hr (Or.inl ⟨_, rfl⟩) (va_rf_or _) (fun t ht hW => ⟨⟨q6, (), rfl, ⟨e1, by rw [← e1]; exact hw8.2⟩, by rw [ht]; exact hP, va_K.moved hW.alike hK, hD⟩, hS.F ht⟩) hS.2.2 dX9_nextOrderer_29
  · skip
    subst eb11
    replace hF := oc_b hF
    have mb11 := hw3.2 b11 rfl
    have hl : lv_has ls 3 [(2, va_rf q6), (1, .ref b11), (0, .ref (x 0))] := hl
    refine W.eq (g2 := F0 m 13 ls [.ref b11]) rfl ?_
    refine lv_ifnull hx hb dX9_nextOrderer_13 ?_
    refine lv_aload_n hx hb dX9_nextOrderer_16 rfl (lv_at hl 2 rfl) ?_
    refine va_get (D := D) (ci := 9) (v := .int (S.1 200 8)) (C := RX9) (T := TX9) (N := 19) hx hb hts iX9_nextOrderer_9 hown hK hP 0 rfl rfl 18 (by decide) (hts (.fieldLink RX9 408 "FondsRoom" "urgentRow" "I") (List.mem_of_getElem? (i := 1) rfl)) (fun _ h9 => h9) rfl dX9_nextOrderer_17 ?_
    refine lv_iconst (v := 3) hx hb dX9_nextOrderer_20 (by decide) ?_
    refine lv_icmp_lt (tgt := 30) hx hb dX9_nextOrderer_21 (by decide) (fun c12 => ?_) (fun c12 => ?_)
    · skip
      have hF := (if_pos c12).symm.trans hF
      refine lv_aload_n hx hb dX9_nextOrderer_30 rfl (lv_at hl 1 rfl) ?_
      have e1 := Option.some.inj hF
      exact W.aret (v := .ref b11) hx hb hr (Or.inl ⟨_, rfl⟩) (Or.inr ⟨_, rfl⟩) (fun t ht hW => ⟨⟨(some (b11)), (), rfl, ⟨e1, by rw [← e1]; exact (rok_some mb11.1 mb11.2)⟩, by rw [ht]; exact hP, va_K.moved hW.alike hK, hD⟩, hS.F ht⟩) hS.2.2 dX9_nextOrderer_31
    · skip
      have hF := (if_neg c12).symm.trans hF
      refine lq_aload_n hx hb dX9_nextOrderer_24 rfl (lv_at hl 0 rfl) ?_
      rcases eb13 : q6 with _ | b13
      · skip
        subst eb13
        replace hF := oc_n hF
        have hl : lv_has ls 3 [(2, .null), (1, .ref b11), (0, .ref (x 0))] := hl
        refine W.eq (g2 := F0 m 25 ls [.null]) rfl ?_
        refine lv_ifnullN (tgt := 30) hx hb dX9_nextOrderer_25 (by decide) ?_
        refine lv_aload_n hx hb dX9_nextOrderer_30 rfl (lv_at hl 1 rfl) ?_
        have e1 := Option.some.inj hF
        exact W.aret (v := .ref b11) hx hb hr (Or.inl ⟨_, rfl⟩) (Or.inr ⟨_, rfl⟩) (fun t ht hW => ⟨⟨(some (b11)), (), rfl, ⟨e1, by rw [← e1]; exact (rok_some mb11.1 mb11.2)⟩, by rw [ht]; exact hP, va_K.moved hW.alike hK, hD⟩, hS.F ht⟩) hS.2.2 dX9_nextOrderer_31
      · skip
        subst eb13
        replace hF := oc_b hF
        have mb13 := hw8.2 b13 rfl
        have hl : lv_has ls 3 [(2, .ref b13), (1, .ref b11), (0, .ref (x 0))] := hl
        refine W.eq (g2 := F0 m 25 ls [.ref b13]) rfl ?_
        refine lv_ifnull hx hb dX9_nextOrderer_25 ?_
        refine lv_aload_n hx hb dX9_nextOrderer_28 rfl (lv_at hl 0 rfl) ?_
        have e1 := Option.some.inj hF
        exact W.aret (v := .ref b13) hx hb hr (Or.inl ⟨_, rfl⟩) (Or.inr ⟨_, rfl⟩) (fun t ht hW => ⟨⟨(some (b13)), (), rfl, ⟨e1, by rw [← e1]; exact (rok_some mb13.1 mb13.2)⟩, by rw [ht]; exact hP, va_K.moved hW.alike hK, hD⟩, hS.F ht⟩) hS.2.2 dX9_nextOrderer_29

theorem iX9_beginCopy_0 : ∀ w ∈ wsX00, w ∈ wsX9_beginCopy := fun _ h => List.mem_cons_of_mem _ (List.mem_append_left _ (List.mem_append_left _ (List.mem_append_left _ (List.mem_append_right _ h))))
theorem iX9_beginCopy_6 : ∀ w ∈ wsX60, w ∈ wsX9_beginCopy := fun _ h => List.mem_cons_of_mem _ (List.mem_append_left _ (List.mem_append_left _ (List.mem_append_left _ (List.mem_append_left _ (List.mem_append_right _ h)))))
theorem iX9_beginCopy_9 : ∀ w ∈ wsX90, w ∈ wsX9_beginCopy := fun _ h => List.mem_cons_of_mem _ (List.mem_append_left _ (List.mem_append_left _ (List.mem_append_right _ h)))
set_option maxHeartbeats 8000000 in
set_option maxRecDepth 100000 in
theorem zX9_beginCopy (l : Launch) (D : va_G) (x : Nat → Nat) (cy : Nat → ClassId) (g : Nat → Nat → Option Nat) (L : List Nat) (K : Nat → Nat) (cf : Nat → Nat → Nat) (nm : Nat → Int32) (hG : GO L K g) (hL : PL L K cf) (S0 : CS) (hT : WT L K S0.2) (sz : Nat) (ar1 : Nat) (mar1 : ar1 ∈ L ∧ K ar1 = 8) (Sf : CS) (hF : gX9_beginCopy g cf nm S0 ar1 = some Sf) : Met l yX9_beginCopy wsX9_beginCopy ({ frames := 3, cells := 0, slots := 0, locals := 66 }) (PW D (TYS cy) (ZW x cy g S0 ++ va_pl L (pf cy K cf nm S0)) sz [.ref (x 0), .ref ar1]) (va_Qv (fun (u : Unit) => WT L K Sf.2) (BU D (TYS cy) (ZW x cy g S0 ++ va_pl L (pf cy K cf nm S0)) (fun _ => ZW x cy g Sf ++ va_pl L (pf cy K cf nm Sf)) sz) (va_A (ZW x cy g S0 ++ va_pl L (pf cy K cf nm S0)) sz)) 0 0 (va_A (ZW x cy g S0 ++ va_pl L (pf cy K cf nm S0)) sz) := by
  refine Met.ofW (cc := cX9_beginCopy) (maxL := 3) (ret := none) (by decide) rfl ?_
  intro p e s m args below meth c s₁ B hml hv
  obtain ⟨rfl, hsz, hP, hK, hD0⟩ := hv
  have hx := B.exec
  have hb := B.bytes
  have hr := B.returns
  have hts := atoms_spec (ws := wsX9_beginCopy) B.pre
  have hown : s.vm.findClass RX9 = some m.cls := findClass_of_methodNamed B.named
  have hlocks := B.notSynchronized
  subst hsz
  have hD := hD0.self (sz := s.heap.size)
  have hA : ∀ q9 : Nat, s.heap.size ≤ q9 → va_A (ZW x cy g S0 ++ va_pl L (pf cy K cf nm S0)) s.heap.size q9 := fun q9 h => Or.inr h
  have hS : va_S (va_A (ZW x cy g S0 ++ va_pl L (pf cy K cf nm S0)) s.heap.size) s.heap s.heap [] := va_S.rf
  have hl := lv_entry ([.ref (x 0), .ref ar1]) (n := 3) (Nat.le_of_ble_eq_true rfl)
  rw [lg_entry_eq]
  generalize (lg_sl ([.ref (x 0), .ref ar1]) ++ List.replicate (3 - (lg_sl ([.ref (x 0), .ref ar1])).length) Slot.unset).toArray = ls at hl ⊢
  have hl : lv_has ls 3 [(0, .ref (x 0)), (1, .ref ar1)] := hl
  unfold gX9_beginCopy at hF
  refine lv_aload_n hx hb dX9_beginCopy_0 rfl (lv_at hl 0 rfl) ?_
  obtain ⟨q1, hq4, hF⟩ := bd1_s hF
  refine gvQ (As := []) (rest := []) ⟨hx, hb, hml, hown, hts⟩ (zX9_nextOrderer l D x cy g L K cf nm hG hL S0 hT _   q1 hq4) (cwV 0 hts gX9_beginCopy_X9_nextOrderer rfl rfl rfl (by decide +kernel) ⟨Nat.le_of_ble_eq_true rfl, Nat.le_of_ble_eq_true rfl⟩) hK hP hD hS hA (va_recv hK hP (ci := 9) (q0 := 0) rfl rfl) rfl hl.1 rfl (Nat.le_of_ble_eq_true rfl) dX9_beginCopy_1 ⟨Nat.le_of_ble_eq_true rfl, Nat.le_of_ble_eq_true rfl⟩ (fun a5 u9 H locs hw3 hP hD hS => ?_)
  have hP : va_P D vwCl (ZW x cy g S0 ++ va_pl L (pf cy K cf nm S0)) H := hP
  have hD : va_D _ (ZW x cy g S0 ++ va_pl L (pf cy K cf nm S0)) := hD
  refine lv_tov (v' := va_rf q1) (congrArg va_rf hw3.1) ?_
  refine lq_astore_n (lv' := [(2, va_rf q1), (0, .ref (x 0)), (1, .ref ar1)]) hx hb dX9_beginCopy_4 rfl hl (by decide) rfl (fun ls hl => ?_)
  refine lq_aload_n hx hb dX9_beginCopy_5 rfl (lv_at hl 0 rfl) ?_
  rcases eb6 : q1 with _ | b6
  · skip
    subst eb6
    replace hF := oc_n hF
    have hl : lv_has ls 3 [(2, .null), (0, .ref (x 0)), (1, .ref ar1)] := hl
    refine W.eq (g2 := F0 m 6 ls [.null]) rfl ?_
    refine lv_ifnullN (tgt := 16) hx hb dX9_beginCopy_6 (by decide) ?_
    have e2 := Option.some.inj hF
    have hP : va_P D vwCl (ZW x cy g Sf ++ va_pl L (pf cy K cf nm Sf)) H := by rw [← e2]; exact hP
    have hD : va_D (va_A (ZW x cy g S0 ++ va_pl L (pf cy K cf nm S0)) s.heap.size) (ZW x cy g Sf ++ va_pl L (pf cy K cf nm Sf)) := by rw [← e2]; exact hD
    have hT : WT L K Sf.2 := by rw [← e2]; exact hT
    exact W.vret hx hb hr (fun t ht hW => ⟨⟨(), rfl, hT, by rw [ht]; exact hP, va_K.moved hW.alike hK, hD⟩, hS.F ht⟩) hS.2.2 dX9_beginCopy_16
  · skip
    subst eb6
    replace hF := oc_b hF
    have mb6 := hw3.2 b6 rfl
    have hl : lv_has ls 3 [(2, .ref b6), (0, .ref (x 0)), (1, .ref ar1)] := hl
    refine W.eq (g2 := F0 m 6 ls [.ref b6]) rfl ?_
    refine lv_ifnull hx hb dX9_beginCopy_6 ?_
    refine lv_aload_n hx hb dX9_beginCopy_9 rfl (lv_at hl 0 rfl) ?_
    refine pg_get (D := D) (ci := 6) (v := va_rf (S0.2 128 b6)) (C := RX6) (T := TX6) (N := 17) hx hb hts iX9_beginCopy_6 hown hK hP mb6.1 (pf_6 mb6.2) rfl 8 (by decide) (hts (.fieldLink RX9 267 "FondsRoom$Reader" "awaited" "LFondsRoom$Box;") (List.mem_of_getElem? (i := 1) rfl)) (fun _ h9 => h9) rfl dX9_beginCopy_10 ?_
    obtain ⟨q7, eq7⟩ : ∃ z, z = S0.2 128 b6 := ⟨_, rfl⟩
    replace hF := bnd_s hF q7 eq7
    have hq7 : rok L K 0 q7 := by rw [eq7]; exact hT 128 b6
    refine lv_tov (v' := va_rf q7) (by rw [eq7]) ?_
    rcases eb8 : q7 with _ | b8
    · skip
      subst eb8
      replace hF := oc_n hF
      have hl : lv_has ls 3 [(2, .ref b6), (0, .ref (x 0)), (1, .ref ar1)] := hl
      refine W.eq (g2 := F0 m 13 ls [.null]) rfl ?_
      refine lv_ifnonnullN hx hb dX9_beginCopy_13 ?_
      have e2 := Option.some.inj hF
      have hP : va_P D vwCl (ZW x cy g Sf ++ va_pl L (pf cy K cf nm Sf)) H := by rw [← e2]; exact hP
      have hD : va_D (va_A (ZW x cy g S0 ++ va_pl L (pf cy K cf nm S0)) s.heap.size) (ZW x cy g Sf ++ va_pl L (pf cy K cf nm Sf)) := by rw [← e2]; exact hD
      have hT : WT L K Sf.2 := by rw [← e2]; exact hT
      exact W.vret hx hb hr (fun t ht hW => ⟨⟨(), rfl, hT, by rw [ht]; exact hP, va_K.moved hW.alike hK, hD⟩, hS.F ht⟩) hS.2.2 dX9_beginCopy_16
    · skip
      subst eb8
      replace hF := oc_b hF
      have mb8 := hq7 b8 rfl
      have hl : lv_has ls 3 [(2, .ref b6), (0, .ref (x 0)), (1, .ref ar1)] := hl
      refine W.eq (g2 := F0 m 13 ls [.ref b8]) rfl ?_
      refine lv_ifnonnull (tgt := 17) hx hb dX9_beginCopy_13 (by decide) ?_
      refine lv_aload_n hx hb dX9_beginCopy_17 rfl (lv_at hl 0 rfl) ?_
      refine pg_get (D := D) (ci := 6) (v := va_rf (S0.2 128 b6)) (C := RX6) (T := TX6) (N := 17) hx hb hts iX9_beginCopy_6 hown hK hP mb6.1 (pf_6 mb6.2) rfl 8 (by decide) (hts (.fieldLink RX9 267 "FondsRoom$Reader" "awaited" "LFondsRoom$Box;") (List.mem_of_getElem? (i := 1) rfl)) (fun _ h9 => h9) rfl dX9_beginCopy_18 ?_
      obtain ⟨q9, eq9⟩ : ∃ z, z = S0.2 128 b6 := ⟨_, rfl⟩
      replace hF := bnd_s hF q9 eq9
      have hq9 : rok L K 0 q9 := by rw [eq9]; exact hT 128 b6
      refine lv_tov (v' := va_rf q9) (by rw [eq9]) ?_
      refine lv_bipush (v := 6) hx hb dX9_beginCopy_21 (by decide) ?_
      obtain ⟨b10, eb10, hF9⟩ := sm_s hF
      clear hF
      have hF := hF9
      clear hF9
      subst eb10
      have mb10 := hq9 b10 rfl
      have hl : lv_has ls 3 [(2, .ref b6), (0, .ref (x 0)), (1, .ref ar1)] := hl
      refine W.eq (g2 := F0 m 23 ls [.int 6, .ref b10]) rfl ?_
      refine pg_put (D := D) (ci := 0) (v := .int 6) (ty := .int) (C := RX0) (T := TX0) (N := 6) hx hb hts iX9_beginCopy_0 tyX0 tyX0_ok nmX0 hown hK hP hD hS mb10.1 (pf_0 mb10.2) rfl 3 (by decide) (hts (.fieldLink RX9 233 "FondsRoom$Box" "place" "I") (List.mem_of_getElem? (i := 2) rfl)) (fun _ h9 => h9) rfl (by decide +kernel) rfl rfl (Nat.le_of_ble_eq_true rfl) dX9_beginCopy_23 (fun H locs hP hD hS => ?_)
      obtain ⟨S11, eS11⟩ : ∃ z, z = wi S0 3 b10 6 := ⟨_, rfl⟩
      replace hF := bnd_s hF S11 eS11
      have hP : va_P D vwCl (ZW x cy g S11 ++ va_pl L (pf cy K cf nm S11)) H := by rw [eS11]; rw [← pu_0_3 mb10.2]; exact hP
      have hD : va_D (va_A (ZW x cy g S0 ++ va_pl L (pf cy K cf nm S0)) s.heap.size) (ZW x cy g S11 ++ va_pl L (pf cy K cf nm S11)) := by rw [eS11]; rw [← pu_0_3 mb10.2]; exact hD
      have hT : WT L K S11.2 := by rw [eS11]; exact hT
      refine lv_aload_n hx hb dX9_beginCopy_26 rfl (lv_at hl 2 rfl) ?_
      refine lv_aload_n hx hb dX9_beginCopy_27 rfl (lv_at hl 0 rfl) ?_
      refine pg_get (D := D) (ci := 6) (v := va_rf (S11.2 128 b6)) (C := RX6) (T := TX6) (N := 17) hx hb hts iX9_beginCopy_6 hown hK hP mb6.1 (pf_6 mb6.2) rfl 8 (by decide) (hts (.fieldLink RX9 267 "FondsRoom$Reader" "awaited" "LFondsRoom$Box;") (List.mem_of_getElem? (i := 1) rfl)) (fun _ h9 => h9) rfl dX9_beginCopy_28 ?_
      obtain ⟨q12, eq12⟩ : ∃ z, z = S11.2 128 b6 := ⟨_, rfl⟩
      replace hF := bnd_s hF q12 eq12
      have hq12 : rok L K 0 q12 := by rw [eq12]; exact hT 128 b6
      refine lv_tov (v' := va_rf q12) (by rw [eq12]) ?_
      refine lv_aload_n hx hb dX9_beginCopy_31 rfl (lv_at hl 0 rfl) ?_
      refine lv_aload_n hx hb dX9_beginCopy_32 rfl (lv_at hl 0 rfl) ?_
      refine pg_get (D := D) (ci := 6) (v := .int (S11.1 130 b6)) (C := RX6) (T := TX6) (N := 17) hx hb hts iX9_beginCopy_6 hown hK hP mb6.1 (pf_6 mb6.2) rfl 10 (by decide) (hts (.fieldLink RX9 336 "FondsRoom$Reader" "copyPages" "I") (List.mem_of_getElem? (i := 3) rfl)) (fun _ h9 => h9) rfl dX9_beginCopy_33 ?_
      obtain ⟨b13, eb13, hF9⟩ := sm_s hF
      clear hF
      have hF := hF9
      clear hF9
      subst eb13
      have mb13 := hq12 b13 rfl
      have hl : lv_has ls 3 [(2, .ref b6), (0, .ref (x 0)), (1, .ref ar1)] := hl
      refine W.eq (g2 := F0 m 36 ls [.int (S11.1 130 b6), .ref b6, .ref b13, .ref ar1]) rfl ?_
      obtain ⟨S15, hq17, hF⟩ := bd1_s hF
      refine gvV (As := [.ref b13, va_rf (some b6), .int (S11.1 130 b6)]) (rest := []) ⟨hx, hb, hml, hown, hts⟩ (zX8_begin l D x cy g L K cf nm hG hL S11 hT _ ar1 b13 (some b6) (S11.1 130 b6) ⟨mar1.1, mar1.2⟩ ⟨mb13.1, mb13.2⟩ (rok_some mb6.1 mb6.2) S15 hq17) (cwV 3 hts gX9_beginCopy_X8_begin rfl rfl rfl (by decide +kernel) ⟨Nat.le_of_ble_eq_true rfl, Nat.le_of_ble_eq_true rfl⟩) hK hP hD hS hA (pl_recv hK hP (ci := 8) rfl mar1.1 (pf_8 mar1.2)) rfl hl.1 rfl (Nat.le_of_ble_eq_true rfl) dX9_beginCopy_36 ⟨Nat.le_of_ble_eq_true rfl, Nat.le_of_ble_eq_true rfl⟩ (fun u9 H locs hw16 hP hD hS => ?_)
      have hT : WT L K S15.2 := hw16
      have hP : va_P D vwCl (ZW x cy g S15 ++ va_pl L (pf cy K cf nm S15)) H := hP
      have hD : va_D _ (ZW x cy g S15 ++ va_pl L (pf cy K cf nm S15)) := hD
      refine lv_aload_n hx hb dX9_beginCopy_39 rfl (lv_at hl 1 rfl) ?_
      refine lv_aload_n hx hb dX9_beginCopy_40 rfl (lv_at hl 0 rfl) ?_
      refine pg_get (D := D) (ci := 6) (v := .int (S15.1 131 b6)) (C := RX6) (T := TX6) (N := 17) hx hb hts iX9_beginCopy_6 hown hK hP mb6.1 (pf_6 mb6.2) rfl 11 (by decide) (hts (.fieldLink RX9 339 "FondsRoom$Reader" "copyUrgent" "Z") (List.mem_of_getElem? (i := 4) rfl)) (fun _ h9 => h9) rfl dX9_beginCopy_41 ?_
      refine lv_if_eq (tgt := 60) hx hb dX9_beginCopy_44 (by decide) (fun c19 => ?_) (fun c19 => ?_)
      · skip
        have hF := (if_pos c19).symm.trans hF
        refine lv_iconst (v := 0) hx hb dX9_beginCopy_60 (by decide) ?_
        refine va_put (D := D) (ci := 9) (v := .int 0) (ty := .int) (C := RX9) (T := TX9) (N := 19) hx hb hts iX9_beginCopy_9 tyX9 tyX9_ok nmX9 hown hK hP hD hS 0 rfl rfl 18 (by decide) (hts (.fieldLink RX9 408 "FondsRoom" "urgentRow" "I") (List.mem_of_getElem? (i := 5) rfl)) (fun _ h9 => h9) rfl (by decide +kernel) rfl rfl (Nat.le_of_ble_eq_true rfl) dX9_beginCopy_61 (fun H locs hP hD hS => ?_)
        obtain ⟨S20, eS20⟩ : ∃ z, z = wi S15 200 8 0 := ⟨_, rfl⟩
        replace hF := bnd_s hF S20 eS20
        have hP : va_P D vwCl (ZW x cy g S20 ++ va_pl L (pf cy K cf nm S20)) H := by rw [eS20]; rw [show pf cy K cf nm (wi S15 200 8 0) = pf cy K cf nm S15 from pf_200]; exact hP
        have hD : va_D (va_A (ZW x cy g S0 ++ va_pl L (pf cy K cf nm S0)) s.heap.size) (ZW x cy g S20 ++ va_pl L (pf cy K cf nm S20)) := by rw [eS20]; rw [show pf cy K cf nm (wi S15 200 8 0) = pf cy K cf nm S15 from pf_200]; exact hD
        have hT : WT L K S20.2 := by rw [eS20]; exact hT
        have e2 := Option.some.inj hF
        have hP : va_P D vwCl (ZW x cy g Sf ++ va_pl L (pf cy K cf nm Sf)) H := by rw [← e2]; exact hP
        have hD : va_D (va_A (ZW x cy g S0 ++ va_pl L (pf cy K cf nm S0)) s.heap.size) (ZW x cy g Sf ++ va_pl L (pf cy K cf nm Sf)) := by rw [← e2]; exact hD
        have hT : WT L K Sf.2 := by rw [← e2]; exact hT
        exact W.vret hx hb hr (fun t ht hW => ⟨⟨(), rfl, hT, by rw [ht]; exact hP, va_K.moved hW.alike hK, hD⟩, hS.F ht⟩) hS.2.2 dX9_beginCopy_64
      · skip
        have hF := (if_neg c19).symm.trans hF
        refine lv_aload_n hx hb dX9_beginCopy_47 rfl (lv_at hl 1 rfl) ?_
        refine va_get (D := D) (ci := 9) (v := .int (S15.1 200 8)) (C := RX9) (T := TX9) (N := 19) hx hb hts iX9_beginCopy_9 hown hK hP 0 rfl rfl 18 (by decide) (hts (.fieldLink RX9 408 "FondsRoom" "urgentRow" "I") (List.mem_of_getElem? (i := 5) rfl)) (fun _ h9 => h9) rfl dX9_beginCopy_48 ?_
        refine lv_iconst (v := 1) hx hb dX9_beginCopy_51 (by decide) ?_
        refine lv_iadd hx hb dX9_beginCopy_52 ?_
        refine lv_iconst (v := 3) hx hb dX9_beginCopy_53 (by decide) ?_
        refine va_mmin hx hb (hml.trans hl.1.symm) hown (hts (.methodLink RX9 411 Lib.Math.min.name) (List.mem_of_getElem? (i := 6) rfl)) (hts (.static Lib.Math.min.name) (List.mem_of_getElem? (i := 7) rfl)) (hts (.initialized "java/lang/Math") (List.mem_of_getElem? (i := 8) rfl)) (hts (.code Lib.Math.min.name Lib.Math.min.code 2 (some .int)) (List.mem_of_getElem? (i := 9) rfl)) (Nat.le_of_ble_eq_true rfl) (Nat.le_of_ble_eq_true rfl) (Nat.le_of_ble_eq_true rfl) (Nat.le_of_ble_eq_true rfl) dX9_beginCopy_54 ?_
        refine lv_topi (fun y21 ey21 => ?_)
        replace hF := bnd_s hF y21 ey21
        refine lv_goto (tgt := 61) hx hb dX9_beginCopy_57 (by decide) ?_
        refine va_put (D := D) (ci := 9) (v := .int y21) (ty := .int) (C := RX9) (T := TX9) (N := 19) hx hb hts iX9_beginCopy_9 tyX9 tyX9_ok nmX9 hown hK hP hD hS 0 rfl rfl 18 (by decide) (hts (.fieldLink RX9 408 "FondsRoom" "urgentRow" "I") (List.mem_of_getElem? (i := 5) rfl)) (fun _ h9 => h9) rfl (by decide +kernel) rfl rfl (Nat.le_of_ble_eq_true rfl) dX9_beginCopy_61 (fun H locs hP hD hS => ?_)
        obtain ⟨S22, eS22⟩ : ∃ z, z = wi S15 200 8 y21 := ⟨_, rfl⟩
        replace hF := bnd_s hF S22 eS22
        have hP : va_P D vwCl (ZW x cy g S22 ++ va_pl L (pf cy K cf nm S22)) H := by rw [eS22]; rw [show pf cy K cf nm (wi S15 200 8 y21) = pf cy K cf nm S15 from pf_200]; exact hP
        have hD : va_D (va_A (ZW x cy g S0 ++ va_pl L (pf cy K cf nm S0)) s.heap.size) (ZW x cy g S22 ++ va_pl L (pf cy K cf nm S22)) := by rw [eS22]; rw [show pf cy K cf nm (wi S15 200 8 y21) = pf cy K cf nm S15 from pf_200]; exact hD
        have hT : WT L K S22.2 := by rw [eS22]; exact hT
        have e2 := Option.some.inj hF
        have hP : va_P D vwCl (ZW x cy g Sf ++ va_pl L (pf cy K cf nm Sf)) H := by rw [← e2]; exact hP
        have hD : va_D (va_A (ZW x cy g S0 ++ va_pl L (pf cy K cf nm S0)) s.heap.size) (ZW x cy g Sf ++ va_pl L (pf cy K cf nm Sf)) := by rw [← e2]; exact hD
        have hT : WT L K Sf.2 := by rw [← e2]; exact hT
        exact W.vret hx hb hr (fun t ht hW => ⟨⟨(), rfl, hT, by rw [ht]; exact hP, va_K.moved hW.alike hK, hD⟩, hS.F ht⟩) hS.2.2 dX9_beginCopy_64

theorem iX9_beginCopies_7 : ∀ w ∈ wsX70, w ∈ wsX9_beginCopies := fun _ h => List.mem_cons_of_mem _ (List.mem_append_left _ (List.mem_append_left _ (List.mem_append_left _ (List.mem_append_left _ (List.mem_append_right _ h)))))
theorem iX9_beginCopies_8 : ∀ w ∈ wsX80, w ∈ wsX9_beginCopies := fun _ h => List.mem_cons_of_mem _ (List.mem_append_left _ (List.mem_append_left _ (List.mem_append_left _ (List.mem_append_right _ h))))
theorem iX9_beginCopies_9 : ∀ w ∈ wsX90, w ∈ wsX9_beginCopies := fun _ h => List.mem_cons_of_mem _ (List.mem_append_left _ (List.mem_append_left _ (List.mem_append_left _ (List.mem_append_left _ (List.mem_append_left _ (List.mem_append_right _ h))))))
set_option maxHeartbeats 8000000 in
set_option maxRecDepth 100000 in
theorem zX9_beginCopies (l : Launch) (D : va_G) (x : Nat → Nat) (cy : Nat → ClassId) (g : Nat → Nat → Option Nat) (L : List Nat) (K : Nat → Nat) (cf : Nat → Nat → Nat) (nm : Nat → Int32) (hG : GO L K g) (hL : PL L K cf) (S0 : CS) (hT : WT L K S0.2) (sz : Nat)   (Sf : CS) (hF : gX9_beginCopies g cf nm S0  = some Sf) : Met l yX9_beginCopies wsX9_beginCopies ({ frames := 4, cells := 0, slots := 0, locals := 88 }) (PW D (TYS cy) (ZW x cy g S0 ++ va_pl L (pf cy K cf nm S0)) sz [.ref (x 0)]) (va_Qv (fun (u : Unit) => WT L K Sf.2) (BU D (TYS cy) (ZW x cy g S0 ++ va_pl L (pf cy K cf nm S0)) (fun _ => ZW x cy g Sf ++ va_pl L (pf cy K cf nm Sf)) sz) (va_A (ZW x cy g S0 ++ va_pl L (pf cy K cf nm S0)) sz)) 0 0 (va_A (ZW x cy g S0 ++ va_pl L (pf cy K cf nm S0)) sz) := by
  refine Met.ofW (cc := cX9_beginCopies) (maxL := 2) (ret := none) (by decide) rfl ?_
  intro p e s m args below meth c s₁ B hml hv
  obtain ⟨rfl, hsz, hP, hK, hD0⟩ := hv
  have hx := B.exec
  have hb := B.bytes
  have hr := B.returns
  have hts := atoms_spec (ws := wsX9_beginCopies) B.pre
  have hown : s.vm.findClass RX9 = some m.cls := findClass_of_methodNamed B.named
  have hlocks := B.notSynchronized
  subst hsz
  have hD := hD0.self (sz := s.heap.size)
  have hA : ∀ q9 : Nat, s.heap.size ≤ q9 → va_A (ZW x cy g S0 ++ va_pl L (pf cy K cf nm S0)) s.heap.size q9 := fun q9 h => Or.inr h
  have hS : va_S (va_A (ZW x cy g S0 ++ va_pl L (pf cy K cf nm S0)) s.heap.size) s.heap s.heap [] := va_S.rf
  have key2 : ∀ (KK : CS → Option (CS)), (∀  (S : CS) (H : Heap) (locs : List Loc) (ls : Array Slot), KK  S = some Sf → WT L K S.2 → va_P D vwCl (ZW x cy g S ++ va_pl L (pf cy K cf nm S)) H → va_D (va_A (ZW x cy g S0 ++ va_pl L (pf cy K cf nm S0)) s.heap.size) (ZW x cy g S ++ va_pl L (pf cy K cf nm S)) → va_S (va_A (ZW x cy g S0 ++ va_pl L (pf cy K cf nm S0)) s.heap.size) s.heap H locs → lv_has ls 2 [] → W p l e (headSpec wsX9_beginCopies ({ frames := 4, cells := 0, slots := 0, locals := 88 })).room s m #[.ref (x 0)] below meth c H locs 0 0 (MQ below (va_Qv (fun (u : Unit) => WT L K Sf.2) (BU D (TYS cy) (ZW x cy g S0 ++ va_pl L (pf cy K cf nm S0)) (fun _ => ZW x cy g Sf ++ va_pl L (pf cy K cf nm Sf)) s.heap.size) (va_A (ZW x cy g S0 ++ va_pl L (pf cy K cf nm S0)) s.heap.size)) #[.ref (x 0)] s 0 0 (va_A (ZW x cy g S0 ++ va_pl L (pf cy K cf nm S0)) s.heap.size)) (F0 m 47 ls [])) → ∀ (fu : Nat) (v1 : Int32) (S : CS) (H : Heap) (locs : List Loc) (ls : Array Slot), gX9_beginCopies_2 g cf nm KK fu v1 S = some Sf → WT L K S.2 → va_P D vwCl (ZW x cy g S ++ va_pl L (pf cy K cf nm S)) H → va_D (va_A (ZW x cy g S0 ++ va_pl L (pf cy K cf nm S0)) s.heap.size) (ZW x cy g S ++ va_pl L (pf cy K cf nm S)) → va_S (va_A (ZW x cy g S0 ++ va_pl L (pf cy K cf nm S0)) s.heap.size) s.heap H locs → lv_has ls 2 [(1, .int v1), (0, .ref (x 0))] → W p l e (headSpec wsX9_beginCopies ({ frames := 4, cells := 0, slots := 0, locals := 88 })).room s m #[.ref (x 0)] below meth c H locs 0 0 (MQ below (va_Qv (fun (u : Unit) => WT L K Sf.2) (BU D (TYS cy) (ZW x cy g S0 ++ va_pl L (pf cy K cf nm S0)) (fun _ => ZW x cy g Sf ++ va_pl L (pf cy K cf nm Sf)) s.heap.size) (va_A (ZW x cy g S0 ++ va_pl L (pf cy K cf nm S0)) s.heap.size)) #[.ref (x 0)] s 0 0 (va_A (ZW x cy g S0 ++ va_pl L (pf cy K cf nm S0)) s.heap.size)) (F0 m 2 ls []) := by
    intro KK hKK fu
    induction fu with
    | zero =>
      intro v1 S H locs ls hF
      exact absurd (show (none : Option (CS)) = some Sf from hF) (by simp)
    | succ fu2 ih2 =>
      intro v1 S H locs ls hF hT hP hD hS hl
      rw [gX9_beginCopies_2] at hF
      refine lv_iload_n hx hb dX9_beginCopies_2 rfl (lv_at hl 0 rfl) ?_
      refine lv_aload_n hx hb dX9_beginCopies_3 rfl (lv_at hl 1 rfl) ?_
      refine va_get (D := D) (ci := 9) (v := .ref (x 6)) (C := RX9) (T := TX9) (N := 19) hx hb hts iX9_beginCopies_9 hown hK hP 0 rfl rfl 4 (by decide) (hts (.fieldLink RX9 41 "FondsRoom" "copyists" "LFondsRoom$Staff;") (List.mem_of_getElem? (i := 1) rfl)) (fun _ h9 => h9) rfl dX9_beginCopies_4 ?_
      refine va_get (D := D) (ci := 7) (v := .int (S.1 200 10)) (C := RX7) (T := TX7) (N := 2) hx hb hts iX9_beginCopies_7 hown hK hP 6 rfl rfl 1 (by decide) (hts (.fieldLink RX9 101 "FondsRoom$Staff" "hired" "I") (List.mem_of_getElem? (i := 2) rfl)) (fun _ h9 => h9) rfl dX9_beginCopies_7 ?_
      refine lv_icmp_ge (tgt := 47) hx hb dX9_beginCopies_10 (by decide) (fun c1 => ?_) (fun c1 => ?_)
      · skip
        have hF := (if_pos c1).symm.trans hF
        exact hKK  S _ _ _ hF hT hP hD hS (lv_sub hl [] rfl)
      · skip
        have hF := (if_neg c1).symm.trans hF
        refine lv_aload_n hx hb dX9_beginCopies_13 rfl (lv_at hl 1 rfl) ?_
        refine va_get (D := D) (ci := 9) (v := .ref (x 6)) (C := RX9) (T := TX9) (N := 19) hx hb hts iX9_beginCopies_9 hown hK hP 0 rfl rfl 4 (by decide) (hts (.fieldLink RX9 41 "FondsRoom" "copyists" "LFondsRoom$Staff;") (List.mem_of_getElem? (i := 1) rfl)) (fun _ h9 => h9) rfl dX9_beginCopies_14 ?_
        refine va_get (D := D) (ci := 7) (v := .ref (x 7)) (C := RX7) (T := TX7) (N := 2) hx hb hts iX9_beginCopies_7 hown hK hP 6 rfl rfl 0 (by decide) (hts (.fieldLink RX9 216 "FondsRoom$Staff" "workers" "[LFondsRoom$Worker;") (List.mem_of_getElem? (i := 3) rfl)) (fun _ h9 => h9) rfl dX9_beginCopies_17 ?_
        refine lv_iload_n hx hb dX9_beginCopies_20 rfl (lv_at hl 0 rfl) ?_
        obtain ⟨hi2, b3, eb3, hF⟩ := ga_s hF
        refine va_aldq hx hb hK hP 7 5 rfl rfl hi2 dX9_beginCopies_21 ?_
        refine lv_tov (v' := .ref b3) (by rw [eb3]; rfl) ?_
        have mb3 := GO_4 hG hi2 eb3
        refine pg_get (D := D) (ci := 8) (v := va_rf (S.2 160 b3)) (C := RX8) (T := TX8) (N := 3) hx hb hts iX9_beginCopies_8 hown hK hP mb3.1 (pf_8 mb3.2) rfl 0 (by decide) (hts (.fieldLink RX9 227 "FondsRoom$Worker" "box" "LFondsRoom$Box;") (List.mem_of_getElem? (i := 4) rfl)) (fun _ h9 => h9) rfl dX9_beginCopies_22 ?_
        obtain ⟨q4, eq4⟩ : ∃ z, z = S.2 160 b3 := ⟨_, rfl⟩
        replace hF := bnd_s hF q4 eq4
        have hq4 : rok L K 0 q4 := by rw [eq4]; exact hT 160 b3
        refine lv_tov (v' := va_rf q4) (by rw [eq4]) ?_
        rcases eb5 : q4 with _ | b5
        · skip
          subst eb5
          replace hF := oc_n hF
          have hl : lv_has ls 2 [(1, .int v1), (0, .ref (x 0))] := hl
          refine W.eq (g2 := F0 m 25 ls [.null]) rfl ?_
          refine lv_ifnonnullN hx hb dX9_beginCopies_25 ?_
          refine lv_aload_n hx hb dX9_beginCopies_28 rfl (lv_at hl 1 rfl) ?_
          refine lv_aload_n hx hb dX9_beginCopies_29 rfl (lv_at hl 1 rfl) ?_
          refine va_get (D := D) (ci := 9) (v := .ref (x 6)) (C := RX9) (T := TX9) (N := 19) hx hb hts iX9_beginCopies_9 hown hK hP 0 rfl rfl 4 (by decide) (hts (.fieldLink RX9 41 "FondsRoom" "copyists" "LFondsRoom$Staff;") (List.mem_of_getElem? (i := 1) rfl)) (fun _ h9 => h9) rfl dX9_beginCopies_30 ?_
          refine va_get (D := D) (ci := 7) (v := .ref (x 7)) (C := RX7) (T := TX7) (N := 2) hx hb hts iX9_beginCopies_7 hown hK hP 6 rfl rfl 0 (by decide) (hts (.fieldLink RX9 216 "FondsRoom$Staff" "workers" "[LFondsRoom$Worker;") (List.mem_of_getElem? (i := 3) rfl)) (fun _ h9 => h9) rfl dX9_beginCopies_33 ?_
          refine lv_iload_n hx hb dX9_beginCopies_36 rfl (lv_at hl 0 rfl) ?_
          obtain ⟨hi6, b7, eb7, hF⟩ := ga_s hF
          refine va_aldq hx hb hK hP 7 5 rfl rfl hi6 dX9_beginCopies_37 ?_
          refine lv_tov (v' := .ref b7) (by rw [eb7]; rfl) ?_
          have mb7 := GO_4 hG hi6 eb7
          obtain ⟨S9, hq11, hF⟩ := bd1_s hF
          refine gvV (As := [.ref b7]) (rest := []) ⟨hx, hb, hml, hown, hts⟩ (zX9_beginCopy l D x cy g L K cf nm hG hL S hT _ b7 ⟨mb7.1, mb7.2⟩ S9 hq11) (cwV 1 hts gX9_beginCopies_X9_beginCopy rfl rfl rfl (by decide +kernel) ⟨Nat.le_of_ble_eq_true rfl, Nat.le_of_ble_eq_true rfl⟩) hK hP hD hS hA (va_recv hK hP (ci := 9) (q0 := 0) rfl rfl) rfl hl.1 rfl (Nat.le_of_ble_eq_true rfl) dX9_beginCopies_38 ⟨Nat.le_of_ble_eq_true rfl, Nat.le_of_ble_eq_true rfl⟩ (fun u9 H locs hw10 hP hD hS => ?_)
          have hT : WT L K S9.2 := hw10
          have hP : va_P D vwCl (ZW x cy g S9 ++ va_pl L (pf cy K cf nm S9)) H := hP
          have hD : va_D _ (ZW x cy g S9 ++ va_pl L (pf cy K cf nm S9)) := hD
          refine lv_iinc (v := v1 + 1) (lv' := [(1, .int (v1 + 1)), (0, .ref (x 0))]) hx hb dX9_beginCopies_41 hl (k := 0) rfl rfl (by decide) rfl (fun ls hl => ?_)
          refine lv_goto (tgt := 2) hx hb dX9_beginCopies_44 (by decide) ?_
          exact ih2 (v1 + 1) S9 _ _ _ hF hT hP hD hS (lv_sub hl [0, 1] rfl)
        · skip
          subst eb5
          replace hF := oc_b hF
          have mb5 := hq4 b5 rfl
          have hl : lv_has ls 2 [(1, .int v1), (0, .ref (x 0))] := hl
          refine W.eq (g2 := F0 m 25 ls [.ref b5]) rfl ?_
          refine lv_ifnonnull (tgt := 41) hx hb dX9_beginCopies_25 (by decide) ?_
          refine lv_iinc (v := v1 + 1) (lv' := [(1, .int (v1 + 1)), (0, .ref (x 0))]) hx hb dX9_beginCopies_41 hl (k := 0) rfl rfl (by decide) rfl (fun ls hl => ?_)
          refine lv_goto (tgt := 2) hx hb dX9_beginCopies_44 (by decide) ?_
          exact ih2 (v1 + 1) S _ _ _ hF hT hP hD hS (lv_sub hl [0, 1] rfl)
  have hl := lv_entry ([.ref (x 0)]) (n := 2) (Nat.le_of_ble_eq_true rfl)
  rw [lg_entry_eq]
  generalize (lg_sl ([.ref (x 0)]) ++ List.replicate (2 - (lg_sl ([.ref (x 0)])).length) Slot.unset).toArray = ls at hl ⊢
  have hl : lv_has ls 2 [(0, .ref (x 0))] := hl
  unfold gX9_beginCopies at hF
  refine lv_iconst (v := 0) hx hb dX9_beginCopies_0 (by decide) ?_
  refine lv_istore_n (lv' := [(1, .int 0), (0, .ref (x 0))]) hx hb dX9_beginCopies_1 rfl hl (by decide) rfl (fun ls hl => ?_)
  refine key2 _ ?_ 1000 0 S0 _ _ _ hF hT hP hD hS (lv_sub hl [0, 1] rfl)
  intro S13 H locs ls hF hT hP hD hS hl
  have e2 := Option.some.inj hF
  have hP : va_P D vwCl (ZW x cy g Sf ++ va_pl L (pf cy K cf nm Sf)) H := by rw [← e2]; exact hP
  have hD : va_D (va_A (ZW x cy g S0 ++ va_pl L (pf cy K cf nm S0)) s.heap.size) (ZW x cy g Sf ++ va_pl L (pf cy K cf nm Sf)) := by rw [← e2]; exact hD
  have hT : WT L K Sf.2 := by rw [← e2]; exact hT
  exact W.vret hx hb hr (fun t ht hW => ⟨⟨(), rfl, hT, by rw [ht]; exact hP, va_K.moved hW.alike hK, hD⟩, hS.F ht⟩) hS.2.2 dX9_beginCopies_47

theorem iX9_countWaiting_6 : ∀ w ∈ wsX60, w ∈ wsX9_countWaiting := fun _ h => List.mem_cons_of_mem _ (List.mem_append_right _ h)
theorem iX9_countWaiting_9 : ∀ w ∈ wsX90, w ∈ wsX9_countWaiting := fun _ h => List.mem_cons_of_mem _ (List.mem_append_left _ (List.mem_append_right _ h))
set_option maxHeartbeats 8000000 in
set_option maxRecDepth 100000 in
theorem zX9_countWaiting (l : Launch) (D : va_G) (x : Nat → Nat) (cy : Nat → ClassId) (g : Nat → Nat → Option Nat) (L : List Nat) (K : Nat → Nat) (cf : Nat → Nat → Nat) (nm : Nat → Int32) (hG : GO L K g) (hL : PL L K cf) (S0 : CS) (hT : WT L K S0.2) (sz : Nat)   (Sf : CS) (hF : gX9_countWaiting g cf nm S0  = some Sf) : Met l yX9_countWaiting wsX9_countWaiting ({ frames := 0, cells := 0, slots := 0, locals := 0 }) (PW D (TYS cy) (ZW x cy g S0 ++ va_pl L (pf cy K cf nm S0)) sz [.ref (x 0)]) (va_Qv (fun (u : Unit) => WT L K Sf.2) (BU D (TYS cy) (ZW x cy g S0 ++ va_pl L (pf cy K cf nm S0)) (fun _ => ZW x cy g Sf ++ va_pl L (pf cy K cf nm Sf)) sz) (va_A (ZW x cy g S0 ++ va_pl L (pf cy K cf nm S0)) sz)) 0 0 (va_A (ZW x cy g S0 ++ va_pl L (pf cy K cf nm S0)) sz) := by
  refine Met.ofW (cc := cX9_countWaiting) (maxL := 3) (ret := none) (by decide) rfl ?_
  intro p e s m args below meth c s₁ B hml hv
  obtain ⟨rfl, hsz, hP, hK, hD0⟩ := hv
  have hx := B.exec
  have hb := B.bytes
  have hr := B.returns
  have hts := atoms_spec (ws := wsX9_countWaiting) B.pre
  have hown : s.vm.findClass RX9 = some m.cls := findClass_of_methodNamed B.named
  have hlocks := B.notSynchronized
  subst hsz
  have hD := hD0.self (sz := s.heap.size)
  have hA : ∀ q9 : Nat, s.heap.size ≤ q9 → va_A (ZW x cy g S0 ++ va_pl L (pf cy K cf nm S0)) s.heap.size q9 := fun q9 h => Or.inr h
  have hS : va_S (va_A (ZW x cy g S0 ++ va_pl L (pf cy K cf nm S0)) s.heap.size) s.heap s.heap [] := va_S.rf
  have key2 : ∀ (KK : CS → Option (CS)), (∀  (S : CS) (H : Heap) (locs : List Loc) (ls : Array Slot), KK  S = some Sf → WT L K S.2 → va_P D vwCl (ZW x cy g S ++ va_pl L (pf cy K cf nm S)) H → va_D (va_A (ZW x cy g S0 ++ va_pl L (pf cy K cf nm S0)) s.heap.size) (ZW x cy g S ++ va_pl L (pf cy K cf nm S)) → va_S (va_A (ZW x cy g S0 ++ va_pl L (pf cy K cf nm S0)) s.heap.size) s.heap H locs → lv_has ls 3 [] → W p l e (headSpec wsX9_countWaiting ({ frames := 0, cells := 0, slots := 0, locals := 0 })).room s m #[.ref (x 0)] below meth c H locs 0 0 (MQ below (va_Qv (fun (u : Unit) => WT L K Sf.2) (BU D (TYS cy) (ZW x cy g S0 ++ va_pl L (pf cy K cf nm S0)) (fun _ => ZW x cy g Sf ++ va_pl L (pf cy K cf nm Sf)) s.heap.size) (va_A (ZW x cy g S0 ++ va_pl L (pf cy K cf nm S0)) s.heap.size)) #[.ref (x 0)] s 0 0 (va_A (ZW x cy g S0 ++ va_pl L (pf cy K cf nm S0)) s.heap.size)) (F0 m 97 ls [])) → ∀ (fu : Nat) (v1 : Int32) (S : CS) (H : Heap) (locs : List Loc) (ls : Array Slot), gX9_countWaiting_2 g cf nm KK fu v1 S = some Sf → WT L K S.2 → va_P D vwCl (ZW x cy g S ++ va_pl L (pf cy K cf nm S)) H → va_D (va_A (ZW x cy g S0 ++ va_pl L (pf cy K cf nm S0)) s.heap.size) (ZW x cy g S ++ va_pl L (pf cy K cf nm S)) → va_S (va_A (ZW x cy g S0 ++ va_pl L (pf cy K cf nm S0)) s.heap.size) s.heap H locs → lv_has ls 3 [(1, .int v1), (0, .ref (x 0))] → W p l e (headSpec wsX9_countWaiting ({ frames := 0, cells := 0, slots := 0, locals := 0 })).room s m #[.ref (x 0)] below meth c H locs 0 0 (MQ below (va_Qv (fun (u : Unit) => WT L K Sf.2) (BU D (TYS cy) (ZW x cy g S0 ++ va_pl L (pf cy K cf nm S0)) (fun _ => ZW x cy g Sf ++ va_pl L (pf cy K cf nm Sf)) s.heap.size) (va_A (ZW x cy g S0 ++ va_pl L (pf cy K cf nm S0)) s.heap.size)) #[.ref (x 0)] s 0 0 (va_A (ZW x cy g S0 ++ va_pl L (pf cy K cf nm S0)) s.heap.size)) (F0 m 2 ls []) := by
    intro KK hKK fu
    induction fu with
    | zero =>
      intro v1 S H locs ls hF
      exact absurd (show (none : Option (CS)) = some Sf from hF) (by simp)
    | succ fu2 ih2 =>
      intro v1 S H locs ls hF hT hP hD hS hl
      rw [gX9_countWaiting_2] at hF
      refine lv_iload_n hx hb dX9_countWaiting_2 rfl (lv_at hl 0 rfl) ?_
      refine lv_aload_n hx hb dX9_countWaiting_3 rfl (lv_at hl 1 rfl) ?_
      refine va_get (D := D) (ci := 9) (v := .int (S.1 200 2)) (C := RX9) (T := TX9) (N := 19) hx hb hts iX9_countWaiting_9 hown hK hP 0 rfl rfl 12 (by decide) (hts (.fieldLink RX9 104 "FondsRoom" "readerCount" "I") (List.mem_of_getElem? (i := 1) rfl)) (fun _ h9 => h9) rfl dX9_countWaiting_4 ?_
      refine lv_icmp_ge (tgt := 97) hx hb dX9_countWaiting_7 (by decide) (fun c1 => ?_) (fun c1 => ?_)
      · skip
        have hF := (if_pos c1).symm.trans hF
        exact hKK  S _ _ _ hF hT hP hD hS (lv_sub hl [] rfl)
      · skip
        have hF := (if_neg c1).symm.trans hF
        refine lv_aload_n hx hb dX9_countWaiting_10 rfl (lv_at hl 1 rfl) ?_
        refine va_get (D := D) (ci := 9) (v := .ref (x 3)) (C := RX9) (T := TX9) (N := 19) hx hb hts iX9_countWaiting_9 hown hK hP 0 rfl rfl 2 (by decide) (hts (.fieldLink RX9 27 "FondsRoom" "readers" "[LFondsRoom$Reader;") (List.mem_of_getElem? (i := 2) rfl)) (fun _ h9 => h9) rfl dX9_countWaiting_11 ?_
        refine lv_iload_n hx hb dX9_countWaiting_14 rfl (lv_at hl 0 rfl) ?_
        obtain ⟨hi2, b3, eb3, hF⟩ := ga_s hF
        refine va_aldq hx hb hK hP 3 4 rfl rfl hi2 dX9_countWaiting_15 ?_
        refine lv_tov (v' := .ref b3) (by rw [eb3]; rfl) ?_
        have mb3 := GO_2 hG hi2 eb3
        refine lv_astore_n (lv' := [(2, .ref b3), (1, .int v1), (0, .ref (x 0))]) hx hb dX9_countWaiting_16 rfl hl (by decide) rfl (fun ls hl => ?_)
        refine lv_aload_n hx hb dX9_countWaiting_17 rfl (lv_at hl 0 rfl) ?_
        refine pg_get (D := D) (ci := 6) (v := .int (S.1 125 b3)) (C := RX6) (T := TX6) (N := 17) hx hb hts iX9_countWaiting_6 hown hK hP mb3.1 (pf_6 mb3.2) rfl 5 (by decide) (hts (.fieldLink RX9 270 "FondsRoom$Reader" "state" "I") (List.mem_of_getElem? (i := 3) rfl)) (fun _ h9 => h9) rfl dX9_countWaiting_18 ?_
        by_cases j4 : (S.1 125 b3) = 1
        · skip
          have hF := (if_pos j4).symm.trans hF
          refine lv_tableIn (tgt := 52) hx hb dX9_countWaiting_21 (by rw [j4]; decide) (by rw [j4]; decide) (by rw [j4]; rfl) (by decide) ?_
          refine lv_aload_n hx hb dX9_countWaiting_52 rfl (lv_at hl 0 rfl) ?_
          refine lv_dup hx hb dX9_countWaiting_53 rfl ?_
          refine pg_get (D := D) (ci := 6) (v := .int (S.1 132 b3)) (C := RX6) (T := TX6) (N := 17) hx hb hts iX9_countWaiting_6 hown hK hP mb3.1 (pf_6 mb3.2) rfl 12 (by decide) (hts (.fieldLink RX9 421 "FondsRoom$Reader" "waitedDesk" "I") (List.mem_of_getElem? (i := 4) rfl)) (fun _ h9 => h9) rfl dX9_countWaiting_54 ?_
          refine lv_iconst (v := 1) hx hb dX9_countWaiting_57 (by decide) ?_
          refine lv_iadd hx hb dX9_countWaiting_58 ?_
          refine pg_put (D := D) (ci := 6) (v := .int ((S.1 132 b3) + 1)) (ty := .int) (C := RX6) (T := TX6) (N := 17) hx hb hts iX9_countWaiting_6 tyX6 tyX6_ok nmX6 hown hK hP hD hS mb3.1 (pf_6 mb3.2) rfl 12 (by decide) (hts (.fieldLink RX9 421 "FondsRoom$Reader" "waitedDesk" "I") (List.mem_of_getElem? (i := 4) rfl)) (fun _ h9 => h9) rfl (by decide +kernel) rfl rfl (Nat.le_of_ble_eq_true rfl) dX9_countWaiting_59 (fun H locs hP hD hS => ?_)
          obtain ⟨S5, eS5⟩ : ∃ z, z = wi S 132 b3 ((S.1 132 b3) + 1) := ⟨_, rfl⟩
          replace hF := bnd_s hF S5 eS5
          have hP : va_P D vwCl (ZW x cy g S5 ++ va_pl L (pf cy K cf nm S5)) H := by rw [eS5]; rw [← pu_6_12 mb3.2]; exact hP
          have hD : va_D (va_A (ZW x cy g S0 ++ va_pl L (pf cy K cf nm S0)) s.heap.size) (ZW x cy g S5 ++ va_pl L (pf cy K cf nm S5)) := by rw [eS5]; rw [← pu_6_12 mb3.2]; exact hD
          have hT : WT L K S5.2 := by rw [eS5]; exact hT
          refine lv_goto (tgt := 91) hx hb dX9_countWaiting_62 (by decide) ?_
          refine lv_iinc (v := v1 + 1) (lv' := [(1, .int (v1 + 1)), (2, .ref b3), (0, .ref (x 0))]) hx hb dX9_countWaiting_91 hl (k := 1) rfl rfl (by decide) rfl (fun ls hl => ?_)
          refine lv_goto (tgt := 2) hx hb dX9_countWaiting_94 (by decide) ?_
          exact ih2 (v1 + 1) S5 _ _ _ hF hT hP hD hS (lv_sub hl [0, 2] rfl)
        replace hF := (if_neg j4).symm.trans hF
        by_cases j6 : (S.1 125 b3) = 2
        · skip
          have hF := (if_pos j6).symm.trans hF
          refine lv_tableIn (tgt := 65) hx hb dX9_countWaiting_21 (by rw [j6]; decide) (by rw [j6]; decide) (by rw [j6]; rfl) (by decide) ?_
          refine lv_aload_n hx hb dX9_countWaiting_65 rfl (lv_at hl 0 rfl) ?_
          refine lv_dup hx hb dX9_countWaiting_66 rfl ?_
          refine pg_get (D := D) (ci := 6) (v := .int (S.1 133 b3)) (C := RX6) (T := TX6) (N := 17) hx hb hts iX9_countWaiting_6 hown hK hP mb3.1 (pf_6 mb3.2) rfl 13 (by decide) (hts (.fieldLink RX9 424 "FondsRoom$Reader" "waitedBox" "I") (List.mem_of_getElem? (i := 5) rfl)) (fun _ h9 => h9) rfl dX9_countWaiting_67 ?_
          refine lv_iconst (v := 1) hx hb dX9_countWaiting_70 (by decide) ?_
          refine lv_iadd hx hb dX9_countWaiting_71 ?_
          refine pg_put (D := D) (ci := 6) (v := .int ((S.1 133 b3) + 1)) (ty := .int) (C := RX6) (T := TX6) (N := 17) hx hb hts iX9_countWaiting_6 tyX6 tyX6_ok nmX6 hown hK hP hD hS mb3.1 (pf_6 mb3.2) rfl 13 (by decide) (hts (.fieldLink RX9 424 "FondsRoom$Reader" "waitedBox" "I") (List.mem_of_getElem? (i := 5) rfl)) (fun _ h9 => h9) rfl (by decide +kernel) rfl rfl (Nat.le_of_ble_eq_true rfl) dX9_countWaiting_72 (fun H locs hP hD hS => ?_)
          obtain ⟨S7, eS7⟩ : ∃ z, z = wi S 133 b3 ((S.1 133 b3) + 1) := ⟨_, rfl⟩
          replace hF := bnd_s hF S7 eS7
          have hP : va_P D vwCl (ZW x cy g S7 ++ va_pl L (pf cy K cf nm S7)) H := by rw [eS7]; rw [← pu_6_13 mb3.2]; exact hP
          have hD : va_D (va_A (ZW x cy g S0 ++ va_pl L (pf cy K cf nm S0)) s.heap.size) (ZW x cy g S7 ++ va_pl L (pf cy K cf nm S7)) := by rw [eS7]; rw [← pu_6_13 mb3.2]; exact hD
          have hT : WT L K S7.2 := by rw [eS7]; exact hT
          refine lv_goto (tgt := 91) hx hb dX9_countWaiting_75 (by decide) ?_
          refine lv_iinc (v := v1 + 1) (lv' := [(1, .int (v1 + 1)), (2, .ref b3), (0, .ref (x 0))]) hx hb dX9_countWaiting_91 hl (k := 1) rfl rfl (by decide) rfl (fun ls hl => ?_)
          refine lv_goto (tgt := 2) hx hb dX9_countWaiting_94 (by decide) ?_
          exact ih2 (v1 + 1) S7 _ _ _ hF hT hP hD hS (lv_sub hl [0, 2] rfl)
        replace hF := (if_neg j6).symm.trans hF
        by_cases j8 : (S.1 125 b3) = 3
        · skip
          have hF := (if_pos j8).symm.trans hF
          refine lv_tableIn (tgt := 91) hx hb dX9_countWaiting_21 (by rw [j8]; decide) (by rw [j8]; decide) (by rw [j8]; rfl) (by decide) ?_
          refine lv_iinc (v := v1 + 1) (lv' := [(1, .int (v1 + 1)), (2, .ref b3), (0, .ref (x 0))]) hx hb dX9_countWaiting_91 hl (k := 1) rfl rfl (by decide) rfl (fun ls hl => ?_)
          refine lv_goto (tgt := 2) hx hb dX9_countWaiting_94 (by decide) ?_
          exact ih2 (v1 + 1) S _ _ _ hF hT hP hD hS (lv_sub hl [0, 2] rfl)
        replace hF := (if_neg j8).symm.trans hF
        by_cases j9 : (S.1 125 b3) = 4
        · skip
          have hF := (if_pos j9).symm.trans hF
          refine lv_tableIn (tgt := 78) hx hb dX9_countWaiting_21 (by rw [j9]; decide) (by rw [j9]; decide) (by rw [j9]; rfl) (by decide) ?_
          refine lv_aload_n hx hb dX9_countWaiting_78 rfl (lv_at hl 0 rfl) ?_
          refine lv_dup hx hb dX9_countWaiting_79 rfl ?_
          refine pg_get (D := D) (ci := 6) (v := .int (S.1 134 b3)) (C := RX6) (T := TX6) (N := 17) hx hb hts iX9_countWaiting_6 hown hK hP mb3.1 (pf_6 mb3.2) rfl 14 (by decide) (hts (.fieldLink RX9 427 "FondsRoom$Reader" "waitedCopy" "I") (List.mem_of_getElem? (i := 6) rfl)) (fun _ h9 => h9) rfl dX9_countWaiting_80 ?_
          refine lv_iconst (v := 1) hx hb dX9_countWaiting_83 (by decide) ?_
          refine lv_iadd hx hb dX9_countWaiting_84 ?_
          refine pg_put (D := D) (ci := 6) (v := .int ((S.1 134 b3) + 1)) (ty := .int) (C := RX6) (T := TX6) (N := 17) hx hb hts iX9_countWaiting_6 tyX6 tyX6_ok nmX6 hown hK hP hD hS mb3.1 (pf_6 mb3.2) rfl 14 (by decide) (hts (.fieldLink RX9 427 "FondsRoom$Reader" "waitedCopy" "I") (List.mem_of_getElem? (i := 6) rfl)) (fun _ h9 => h9) rfl (by decide +kernel) rfl rfl (Nat.le_of_ble_eq_true rfl) dX9_countWaiting_85 (fun H locs hP hD hS => ?_)
          obtain ⟨S10, eS10⟩ : ∃ z, z = wi S 134 b3 ((S.1 134 b3) + 1) := ⟨_, rfl⟩
          replace hF := bnd_s hF S10 eS10
          have hP : va_P D vwCl (ZW x cy g S10 ++ va_pl L (pf cy K cf nm S10)) H := by rw [eS10]; rw [← pu_6_14 mb3.2]; exact hP
          have hD : va_D (va_A (ZW x cy g S0 ++ va_pl L (pf cy K cf nm S0)) s.heap.size) (ZW x cy g S10 ++ va_pl L (pf cy K cf nm S10)) := by rw [eS10]; rw [← pu_6_14 mb3.2]; exact hD
          have hT : WT L K S10.2 := by rw [eS10]; exact hT
          refine lv_goto (tgt := 91) hx hb dX9_countWaiting_88 (by decide) ?_
          refine lv_iinc (v := v1 + 1) (lv' := [(1, .int (v1 + 1)), (2, .ref b3), (0, .ref (x 0))]) hx hb dX9_countWaiting_91 hl (k := 1) rfl rfl (by decide) rfl (fun ls hl => ?_)
          refine lv_goto (tgt := 2) hx hb dX9_countWaiting_94 (by decide) ?_
          exact ih2 (v1 + 1) S10 _ _ _ hF hT hP hD hS (lv_sub hl [0, 2] rfl)
        replace hF := (if_neg j9).symm.trans hF
        have zj4 : ((S.1 125 b3)).toInt ≠ 1 := fun h9 => j4 ((fa_eq _ _).mpr (h9.trans (by decide)))
        have zj6 : ((S.1 125 b3)).toInt ≠ 2 := fun h9 => j6 ((fa_eq _ _).mpr (h9.trans (by decide)))
        have zj8 : ((S.1 125 b3)).toInt ≠ 3 := fun h9 => j8 ((fa_eq _ _).mpr (h9.trans (by decide)))
        have zj9 : ((S.1 125 b3)).toInt ≠ 4 := fun h9 => j9 ((fa_eq _ _).mpr (h9.trans (by decide)))
        refine lv_tableOut (tgt := 91) hx hb dX9_countWaiting_21 (by omega) (by decide) ?_
        refine lv_iinc (v := v1 + 1) (lv' := [(1, .int (v1 + 1)), (2, .ref b3), (0, .ref (x 0))]) hx hb dX9_countWaiting_91 hl (k := 1) rfl rfl (by decide) rfl (fun ls hl => ?_)
        refine lv_goto (tgt := 2) hx hb dX9_countWaiting_94 (by decide) ?_
        exact ih2 (v1 + 1) S _ _ _ hF hT hP hD hS (lv_sub hl [0, 2] rfl)
  have hl := lv_entry ([.ref (x 0)]) (n := 3) (Nat.le_of_ble_eq_true rfl)
  rw [lg_entry_eq]
  generalize (lg_sl ([.ref (x 0)]) ++ List.replicate (3 - (lg_sl ([.ref (x 0)])).length) Slot.unset).toArray = ls at hl ⊢
  have hl : lv_has ls 3 [(0, .ref (x 0))] := hl
  unfold gX9_countWaiting at hF
  refine lv_iconst (v := 0) hx hb dX9_countWaiting_0 (by decide) ?_
  refine lv_istore_n (lv' := [(1, .int 0), (0, .ref (x 0))]) hx hb dX9_countWaiting_1 rfl hl (by decide) rfl (fun ls hl => ?_)
  refine key2 _ ?_ 1000 0 S0 _ _ _ hF hT hP hD hS (lv_sub hl [0, 1] rfl)
  intro S11 H locs ls hF hT hP hD hS hl
  have e2 := Option.some.inj hF
  have hP : va_P D vwCl (ZW x cy g Sf ++ va_pl L (pf cy K cf nm Sf)) H := by rw [← e2]; exact hP
  have hD : va_D (va_A (ZW x cy g S0 ++ va_pl L (pf cy K cf nm S0)) s.heap.size) (ZW x cy g Sf ++ va_pl L (pf cy K cf nm Sf)) := by rw [← e2]; exact hD
  have hT : WT L K Sf.2 := by rw [← e2]; exact hT
  exact W.vret hx hb hr (fun t ht hW => ⟨⟨(), rfl, hT, by rw [ht]; exact hP, va_K.moved hW.alike hK, hD⟩, hS.F ht⟩) hS.2.2 dX9_countWaiting_97

theorem iX9_passTurn_9 : ∀ w ∈ wsX90, w ∈ wsX9_passTurn := fun _ h => List.mem_cons_of_mem _ (List.mem_append_left _ (List.mem_append_left _ (List.mem_append_left _ (List.mem_append_left _ (List.mem_append_left _ (List.mem_append_left _ (List.mem_append_left _ (List.mem_append_left _ (List.mem_append_left _ (List.mem_append_right _ h))))))))))
set_option maxHeartbeats 8000000 in
set_option maxRecDepth 100000 in
theorem zX9_passTurn (l : Launch) (D : va_G) (x : Nat → Nat) (cy : Nat → ClassId) (g : Nat → Nat → Option Nat) (L : List Nat) (K : Nat → Nat) (cf : Nat → Nat → Nat) (nm : Nat → Int32) (hG : GO L K g) (hL : PL L K cf) (S0 : CS) (hT : WT L K S0.2) (sz : Nat)   (Sf : CS) (hF : gX9_passTurn g cf nm S0  = some Sf) : Met l yX9_passTurn wsX9_passTurn ({ frames := 5, cells := 0, slots := 0, locals := 116 }) (PW D (TYS cy) (ZW x cy g S0 ++ va_pl L (pf cy K cf nm S0)) sz [.ref (x 0)]) (va_Qv (fun (u : Unit) => WT L K Sf.2) (BU D (TYS cy) (ZW x cy g S0 ++ va_pl L (pf cy K cf nm S0)) (fun _ => ZW x cy g Sf ++ va_pl L (pf cy K cf nm Sf)) sz) (va_A (ZW x cy g S0 ++ va_pl L (pf cy K cf nm S0)) sz)) 0 0 (va_A (ZW x cy g S0 ++ va_pl L (pf cy K cf nm S0)) sz) := by
  refine Met.ofW (cc := cX9_passTurn) (maxL := 1) (ret := none) (by decide) rfl ?_
  intro p e s m args below meth c s₁ B hml hv
  obtain ⟨rfl, hsz, hP, hK, hD0⟩ := hv
  have hx := B.exec
  have hb := B.bytes
  have hr := B.returns
  have hts := atoms_spec (ws := wsX9_passTurn) B.pre
  have hown : s.vm.findClass RX9 = some m.cls := findClass_of_methodNamed B.named
  have hlocks := B.notSynchronized
  subst hsz
  have hD := hD0.self (sz := s.heap.size)
  have hA : ∀ q9 : Nat, s.heap.size ≤ q9 → va_A (ZW x cy g S0 ++ va_pl L (pf cy K cf nm S0)) s.heap.size q9 := fun q9 h => Or.inr h
  have hS : va_S (va_A (ZW x cy g S0 ++ va_pl L (pf cy K cf nm S0)) s.heap.size) s.heap s.heap [] := va_S.rf
  have hl := lv_entry ([.ref (x 0)]) (n := 1) (Nat.le_of_ble_eq_true rfl)
  rw [lg_entry_eq]
  generalize (lg_sl ([.ref (x 0)]) ++ List.replicate (1 - (lg_sl ([.ref (x 0)])).length) Slot.unset).toArray = ls at hl ⊢
  have hl : lv_has ls 1 [(0, .ref (x 0))] := hl
  unfold gX9_passTurn at hF
  refine lv_aload_n hx hb dX9_passTurn_0 rfl (lv_at hl 0 rfl) ?_
  refine lv_dup hx hb dX9_passTurn_1 rfl ?_
  refine va_get (D := D) (ci := 9) (v := .int (S0.1 200 4)) (C := RX9) (T := TX9) (N := 19) hx hb hts iX9_passTurn_9 hown hK hP 0 rfl rfl 14 (by decide) (hts (.fieldLink RX9 78 "FondsRoom" "turn" "I") (List.mem_of_getElem? (i := 1) rfl)) (fun _ h9 => h9) rfl dX9_passTurn_2 ?_
  refine lv_iconst (v := 1) hx hb dX9_passTurn_5 (by decide) ?_
  refine lv_iadd hx hb dX9_passTurn_6 ?_
  refine va_put (D := D) (ci := 9) (v := .int ((S0.1 200 4) + 1)) (ty := .int) (C := RX9) (T := TX9) (N := 19) hx hb hts iX9_passTurn_9 tyX9 tyX9_ok nmX9 hown hK hP hD hS 0 rfl rfl 14 (by decide) (hts (.fieldLink RX9 78 "FondsRoom" "turn" "I") (List.mem_of_getElem? (i := 1) rfl)) (fun _ h9 => h9) rfl (by decide +kernel) rfl rfl (Nat.le_of_ble_eq_true rfl) dX9_passTurn_7 (fun H locs hP hD hS => ?_)
  obtain ⟨S1, eS1⟩ : ∃ z, z = wi S0 200 4 ((S0.1 200 4) + 1) := ⟨_, rfl⟩
  replace hF := bnd_s hF S1 eS1
  have hP : va_P D vwCl (ZW x cy g S1 ++ va_pl L (pf cy K cf nm S1)) H := by rw [eS1]; rw [show pf cy K cf nm (wi S0 200 4 ((S0.1 200 4) + 1)) = pf cy K cf nm S0 from pf_200]; exact hP
  have hD : va_D (va_A (ZW x cy g S0 ++ va_pl L (pf cy K cf nm S0)) s.heap.size) (ZW x cy g S1 ++ va_pl L (pf cy K cf nm S1)) := by rw [eS1]; rw [show pf cy K cf nm (wi S0 200 4 ((S0.1 200 4) + 1)) = pf cy K cf nm S0 from pf_200]; exact hD
  have hT : WT L K S1.2 := by rw [eS1]; exact hT
  refine lv_aload_n hx hb dX9_passTurn_10 rfl (lv_at hl 0 rfl) ?_
  obtain ⟨S3, hq5, hF⟩ := bd1_s hF
  refine gvV (As := []) (rest := []) ⟨hx, hb, hml, hown, hts⟩ (zX9_sufferMishaps l D x cy g L K cf nm hG hL S1 hT _   S3 hq5) (cwV 0 hts gX9_passTurn_X9_sufferMishaps rfl rfl rfl (by decide +kernel) ⟨Nat.le_of_ble_eq_true rfl, Nat.le_of_ble_eq_true rfl⟩) hK hP hD hS hA (va_recv hK hP (ci := 9) (q0 := 0) rfl rfl) rfl hl.1 rfl (Nat.le_of_ble_eq_true rfl) dX9_passTurn_11 ⟨Nat.le_of_ble_eq_true rfl, Nat.le_of_ble_eq_true rfl⟩ (fun u9 H locs hw4 hP hD hS => ?_)
  have hT : WT L K S3.2 := hw4
  have hP : va_P D vwCl (ZW x cy g S3 ++ va_pl L (pf cy K cf nm S3)) H := hP
  have hD : va_D _ (ZW x cy g S3 ++ va_pl L (pf cy K cf nm S3)) := hD
  refine lv_aload_n hx hb dX9_passTurn_14 rfl (lv_at hl 0 rfl) ?_
  refine va_get (D := D) (ci := 9) (v := .int (S3.1 200 4)) (C := RX9) (T := TX9) (N := 19) hx hb hts iX9_passTurn_9 hown hK hP 0 rfl rfl 14 (by decide) (hts (.fieldLink RX9 78 "FondsRoom" "turn" "I") (List.mem_of_getElem? (i := 1) rfl)) (fun _ h9 => h9) rfl dX9_passTurn_15 ?_
  refine lv_aload_n hx hb dX9_passTurn_18 rfl (lv_at hl 0 rfl) ?_
  refine va_get (D := D) (ci := 9) (v := .int (S3.1 200 5)) (C := RX9) (T := TX9) (N := 19) hx hb hts iX9_passTurn_9 hown hK hP 0 rfl rfl 15 (by decide) (hts (.fieldLink RX9 75 "FondsRoom" "bellTurn" "I") (List.mem_of_getElem? (i := 2) rfl)) (fun _ h9 => h9) rfl dX9_passTurn_19 ?_
  refine lv_icmp_ne (tgt := 29) hx hb dX9_passTurn_22 (by decide) (fun c7 => ?_) (fun c7 => ?_)
  · skip
    have hF := (if_neg c7).symm.trans hF
    refine lv_aload_n hx hb dX9_passTurn_29 rfl (lv_at hl 0 rfl) ?_
    obtain ⟨S9, hq11, hF⟩ := bd1_s hF
    refine gvV (As := []) (rest := []) ⟨hx, hb, hml, hown, hts⟩ (zX9_fetchersWalk l D x cy g L K cf nm hG hL S3 hT _   S9 hq11) (cwV 0 hts gX9_passTurn_X9_fetchersWalk rfl rfl rfl (by decide +kernel) ⟨Nat.le_of_ble_eq_true rfl, Nat.le_of_ble_eq_true rfl⟩) hK hP hD hS hA (va_recv hK hP (ci := 9) (q0 := 0) rfl rfl) rfl hl.1 rfl (Nat.le_of_ble_eq_true rfl) dX9_passTurn_30 ⟨Nat.le_of_ble_eq_true rfl, Nat.le_of_ble_eq_true rfl⟩ (fun u9 H locs hw10 hP hD hS => ?_)
    have hT : WT L K S9.2 := hw10
    have hP : va_P D vwCl (ZW x cy g S9 ++ va_pl L (pf cy K cf nm S9)) H := hP
    have hD : va_D _ (ZW x cy g S9 ++ va_pl L (pf cy K cf nm S9)) := hD
    refine lv_aload_n hx hb dX9_passTurn_33 rfl (lv_at hl 0 rfl) ?_
    obtain ⟨S14, hq16, hF⟩ := bd1_s hF
    refine gvV (As := []) (rest := []) ⟨hx, hb, hml, hown, hts⟩ (zX9_copyistsWork l D x cy g L K cf nm hG hL S9 hT _   S14 hq16) (cwV 0 hts gX9_passTurn_X9_copyistsWork rfl rfl rfl (by decide +kernel) ⟨Nat.le_of_ble_eq_true rfl, Nat.le_of_ble_eq_true rfl⟩) hK hP hD hS hA (va_recv hK hP (ci := 9) (q0 := 0) rfl rfl) rfl hl.1 rfl (Nat.le_of_ble_eq_true rfl) dX9_passTurn_34 ⟨Nat.le_of_ble_eq_true rfl, Nat.le_of_ble_eq_true rfl⟩ (fun u9 H locs hw15 hP hD hS => ?_)
    have hT : WT L K S14.2 := hw15
    have hP : va_P D vwCl (ZW x cy g S14 ++ va_pl L (pf cy K cf nm S14)) H := hP
    have hD : va_D _ (ZW x cy g S14 ++ va_pl L (pf cy K cf nm S14)) := hD
    refine lv_aload_n hx hb dX9_passTurn_37 rfl (lv_at hl 0 rfl) ?_
    obtain ⟨S19, hq21, hF⟩ := bd1_s hF
    refine gvV (As := []) (rest := []) ⟨hx, hb, hml, hown, hts⟩ (zX9_readersRead l D x cy g L K cf nm hG hL S14 hT _   S19 hq21) (cwV 0 hts gX9_passTurn_X9_readersRead rfl rfl rfl (by decide +kernel) ⟨Nat.le_of_ble_eq_true rfl, Nat.le_of_ble_eq_true rfl⟩) hK hP hD hS hA (va_recv hK hP (ci := 9) (q0 := 0) rfl rfl) rfl hl.1 rfl (Nat.le_of_ble_eq_true rfl) dX9_passTurn_38 ⟨Nat.le_of_ble_eq_true rfl, Nat.le_of_ble_eq_true rfl⟩ (fun u9 H locs hw20 hP hD hS => ?_)
    have hT : WT L K S19.2 := hw20
    have hP : va_P D vwCl (ZW x cy g S19 ++ va_pl L (pf cy K cf nm S19)) H := hP
    have hD : va_D _ (ZW x cy g S19 ++ va_pl L (pf cy K cf nm S19)) := hD
    refine lv_aload_n hx hb dX9_passTurn_41 rfl (lv_at hl 0 rfl) ?_
    obtain ⟨S24, hq26, hF⟩ := bd1_s hF
    refine gvV (As := []) (rest := []) ⟨hx, hb, hml, hown, hts⟩ (zX9_readersGoOn l D x cy g L K cf nm hG hL S19 hT _   S24 hq26) (cwV 0 hts gX9_passTurn_X9_readersGoOn rfl rfl rfl (by decide +kernel) ⟨Nat.le_of_ble_eq_true rfl, Nat.le_of_ble_eq_true rfl⟩) hK hP hD hS hA (va_recv hK hP (ci := 9) (q0 := 0) rfl rfl) rfl hl.1 rfl (Nat.le_of_ble_eq_true rfl) dX9_passTurn_42 ⟨Nat.le_of_ble_eq_true rfl, Nat.le_of_ble_eq_true rfl⟩ (fun u9 H locs hw25 hP hD hS => ?_)
    have hT : WT L K S24.2 := hw25
    have hP : va_P D vwCl (ZW x cy g S24 ++ va_pl L (pf cy K cf nm S24)) H := hP
    have hD : va_D _ (ZW x cy g S24 ++ va_pl L (pf cy K cf nm S24)) := hD
    refine lv_aload_n hx hb dX9_passTurn_45 rfl (lv_at hl 0 rfl) ?_
    obtain ⟨S29, hq31, hF⟩ := bd1_s hF
    refine gvV (As := []) (rest := []) ⟨hx, hb, hml, hown, hts⟩ (zX9_readersCome l D x cy g L K cf nm hG hL S24 hT _   S29 hq31) (cwV 0 hts gX9_passTurn_X9_readersCome rfl rfl rfl (by decide +kernel) ⟨Nat.le_of_ble_eq_true rfl, Nat.le_of_ble_eq_true rfl⟩) hK hP hD hS hA (va_recv hK hP (ci := 9) (q0 := 0) rfl rfl) rfl hl.1 rfl (Nat.le_of_ble_eq_true rfl) dX9_passTurn_46 ⟨Nat.le_of_ble_eq_true rfl, Nat.le_of_ble_eq_true rfl⟩ (fun u9 H locs hw30 hP hD hS => ?_)
    have hT : WT L K S29.2 := hw30
    have hP : va_P D vwCl (ZW x cy g S29 ++ va_pl L (pf cy K cf nm S29)) H := hP
    have hD : va_D _ (ZW x cy g S29 ++ va_pl L (pf cy K cf nm S29)) := hD
    refine lv_aload_n hx hb dX9_passTurn_49 rfl (lv_at hl 0 rfl) ?_
    obtain ⟨S34, hq36, hF⟩ := bd1_s hF
    refine gvV (As := []) (rest := []) ⟨hx, hb, hml, hown, hts⟩ (zX9_giveDesks l D x cy g L K cf nm hG hL S29 hT _   S34 hq36) (cwV 0 hts gX9_passTurn_X9_giveDesks rfl rfl rfl (by decide +kernel) ⟨Nat.le_of_ble_eq_true rfl, Nat.le_of_ble_eq_true rfl⟩) hK hP hD hS hA (va_recv hK hP (ci := 9) (q0 := 0) rfl rfl) rfl hl.1 rfl (Nat.le_of_ble_eq_true rfl) dX9_passTurn_50 ⟨Nat.le_of_ble_eq_true rfl, Nat.le_of_ble_eq_true rfl⟩ (fun u9 H locs hw35 hP hD hS => ?_)
    have hT : WT L K S34.2 := hw35
    have hP : va_P D vwCl (ZW x cy g S34 ++ va_pl L (pf cy K cf nm S34)) H := hP
    have hD : va_D _ (ZW x cy g S34 ++ va_pl L (pf cy K cf nm S34)) := hD
    refine lv_aload_n hx hb dX9_passTurn_53 rfl (lv_at hl 0 rfl) ?_
    obtain ⟨S39, hq41, hF⟩ := bd1_s hF
    refine gvV (As := []) (rest := []) ⟨hx, hb, hml, hown, hts⟩ (zX9_sendFetchers l D x cy g L K cf nm hG hL S34 hT _   S39 hq41) (cwV 0 hts gX9_passTurn_X9_sendFetchers rfl rfl rfl (by decide +kernel) ⟨Nat.le_of_ble_eq_true rfl, Nat.le_of_ble_eq_true rfl⟩) hK hP hD hS hA (va_recv hK hP (ci := 9) (q0 := 0) rfl rfl) rfl hl.1 rfl (Nat.le_of_ble_eq_true rfl) dX9_passTurn_54 ⟨Nat.le_of_ble_eq_true rfl, Nat.le_of_ble_eq_true rfl⟩ (fun u9 H locs hw40 hP hD hS => ?_)
    have hT : WT L K S39.2 := hw40
    have hP : va_P D vwCl (ZW x cy g S39 ++ va_pl L (pf cy K cf nm S39)) H := hP
    have hD : va_D _ (ZW x cy g S39 ++ va_pl L (pf cy K cf nm S39)) := hD
    refine lv_aload_n hx hb dX9_passTurn_57 rfl (lv_at hl 0 rfl) ?_
    obtain ⟨S44, hq46, hF⟩ := bd1_s hF
    refine gvV (As := []) (rest := []) ⟨hx, hb, hml, hown, hts⟩ (zX9_beginCopies l D x cy g L K cf nm hG hL S39 hT _   S44 hq46) (cwV 0 hts gX9_passTurn_X9_beginCopies rfl rfl rfl (by decide +kernel) ⟨Nat.le_of_ble_eq_true rfl, Nat.le_of_ble_eq_true rfl⟩) hK hP hD hS hA (va_recv hK hP (ci := 9) (q0 := 0) rfl rfl) rfl hl.1 rfl (Nat.le_of_ble_eq_true rfl) dX9_passTurn_58 ⟨Nat.le_of_ble_eq_true rfl, Nat.le_of_ble_eq_true rfl⟩ (fun u9 H locs hw45 hP hD hS => ?_)
    have hT : WT L K S44.2 := hw45
    have hP : va_P D vwCl (ZW x cy g S44 ++ va_pl L (pf cy K cf nm S44)) H := hP
    have hD : va_D _ (ZW x cy g S44 ++ va_pl L (pf cy K cf nm S44)) := hD
    refine lv_aload_n hx hb dX9_passTurn_61 rfl (lv_at hl 0 rfl) ?_
    obtain ⟨S49, hq51, hF⟩ := bd1_s hF
    refine gvV (As := []) (rest := []) ⟨hx, hb, hml, hown, hts⟩ (zX9_countWaiting l D x cy g L K cf nm hG hL S44 hT _   S49 hq51) (cwV 0 hts gX9_passTurn_X9_countWaiting rfl rfl rfl (by decide +kernel) ⟨Nat.le_of_ble_eq_true rfl, Nat.le_of_ble_eq_true rfl⟩) hK hP hD hS hA (va_recv hK hP (ci := 9) (q0 := 0) rfl rfl) rfl hl.1 rfl (Nat.le_of_ble_eq_true rfl) dX9_passTurn_62 ⟨Nat.le_of_ble_eq_true rfl, Nat.le_of_ble_eq_true rfl⟩ (fun u9 H locs hw50 hP hD hS => ?_)
    have hT : WT L K S49.2 := hw50
    have hP : va_P D vwCl (ZW x cy g S49 ++ va_pl L (pf cy K cf nm S49)) H := hP
    have hD : va_D _ (ZW x cy g S49 ++ va_pl L (pf cy K cf nm S49)) := hD
    have e2 := Option.some.inj hF
    have hP : va_P D vwCl (ZW x cy g Sf ++ va_pl L (pf cy K cf nm Sf)) H := by rw [← e2]; exact hP
    have hD : va_D (va_A (ZW x cy g S0 ++ va_pl L (pf cy K cf nm S0)) s.heap.size) (ZW x cy g Sf ++ va_pl L (pf cy K cf nm Sf)) := by rw [← e2]; exact hD
    have hT : WT L K Sf.2 := by rw [← e2]; exact hT
    exact W.vret hx hb hr (fun t ht hW => ⟨⟨(), rfl, hT, by rw [ht]; exact hP, va_K.moved hW.alike hK, hD⟩, hS.F ht⟩) hS.2.2 dX9_passTurn_65
  · skip
    have hF := (if_pos c7).symm.trans hF
    refine lv_aload_n hx hb dX9_passTurn_25 rfl (lv_at hl 0 rfl) ?_
    obtain ⟨S54, hq56, hF⟩ := bd1_s hF
    refine gvV (As := []) (rest := []) ⟨hx, hb, hml, hown, hts⟩ (zX9_ringBell l D x cy g L K cf nm hG hL S3 hT _   S54 hq56) (cwV 0 hts gX9_passTurn_X9_ringBell rfl rfl rfl (by decide +kernel) ⟨Nat.le_of_ble_eq_true rfl, Nat.le_of_ble_eq_true rfl⟩) hK hP hD hS hA (va_recv hK hP (ci := 9) (q0 := 0) rfl rfl) rfl hl.1 rfl (Nat.le_of_ble_eq_true rfl) dX9_passTurn_26 ⟨Nat.le_of_ble_eq_true rfl, Nat.le_of_ble_eq_true rfl⟩ (fun u9 H locs hw55 hP hD hS => ?_)
    have hT : WT L K S54.2 := hw55
    have hP : va_P D vwCl (ZW x cy g S54 ++ va_pl L (pf cy K cf nm S54)) H := hP
    have hD : va_D _ (ZW x cy g S54 ++ va_pl L (pf cy K cf nm S54)) := hD
    refine lv_aload_n hx hb dX9_passTurn_29 rfl (lv_at hl 0 rfl) ?_
    obtain ⟨S59, hq61, hF⟩ := bd1_s hF
    refine gvV (As := []) (rest := []) ⟨hx, hb, hml, hown, hts⟩ (zX9_fetchersWalk l D x cy g L K cf nm hG hL S54 hT _   S59 hq61) (cwV 0 hts gX9_passTurn_X9_fetchersWalk rfl rfl rfl (by decide +kernel) ⟨Nat.le_of_ble_eq_true rfl, Nat.le_of_ble_eq_true rfl⟩) hK hP hD hS hA (va_recv hK hP (ci := 9) (q0 := 0) rfl rfl) rfl hl.1 rfl (Nat.le_of_ble_eq_true rfl) dX9_passTurn_30 ⟨Nat.le_of_ble_eq_true rfl, Nat.le_of_ble_eq_true rfl⟩ (fun u9 H locs hw60 hP hD hS => ?_)
    have hT : WT L K S59.2 := hw60
    have hP : va_P D vwCl (ZW x cy g S59 ++ va_pl L (pf cy K cf nm S59)) H := hP
    have hD : va_D _ (ZW x cy g S59 ++ va_pl L (pf cy K cf nm S59)) := hD
    refine lv_aload_n hx hb dX9_passTurn_33 rfl (lv_at hl 0 rfl) ?_
    obtain ⟨S64, hq66, hF⟩ := bd1_s hF
    refine gvV (As := []) (rest := []) ⟨hx, hb, hml, hown, hts⟩ (zX9_copyistsWork l D x cy g L K cf nm hG hL S59 hT _   S64 hq66) (cwV 0 hts gX9_passTurn_X9_copyistsWork rfl rfl rfl (by decide +kernel) ⟨Nat.le_of_ble_eq_true rfl, Nat.le_of_ble_eq_true rfl⟩) hK hP hD hS hA (va_recv hK hP (ci := 9) (q0 := 0) rfl rfl) rfl hl.1 rfl (Nat.le_of_ble_eq_true rfl) dX9_passTurn_34 ⟨Nat.le_of_ble_eq_true rfl, Nat.le_of_ble_eq_true rfl⟩ (fun u9 H locs hw65 hP hD hS => ?_)
    have hT : WT L K S64.2 := hw65
    have hP : va_P D vwCl (ZW x cy g S64 ++ va_pl L (pf cy K cf nm S64)) H := hP
    have hD : va_D _ (ZW x cy g S64 ++ va_pl L (pf cy K cf nm S64)) := hD
    refine lv_aload_n hx hb dX9_passTurn_37 rfl (lv_at hl 0 rfl) ?_
    obtain ⟨S69, hq71, hF⟩ := bd1_s hF
    refine gvV (As := []) (rest := []) ⟨hx, hb, hml, hown, hts⟩ (zX9_readersRead l D x cy g L K cf nm hG hL S64 hT _   S69 hq71) (cwV 0 hts gX9_passTurn_X9_readersRead rfl rfl rfl (by decide +kernel) ⟨Nat.le_of_ble_eq_true rfl, Nat.le_of_ble_eq_true rfl⟩) hK hP hD hS hA (va_recv hK hP (ci := 9) (q0 := 0) rfl rfl) rfl hl.1 rfl (Nat.le_of_ble_eq_true rfl) dX9_passTurn_38 ⟨Nat.le_of_ble_eq_true rfl, Nat.le_of_ble_eq_true rfl⟩ (fun u9 H locs hw70 hP hD hS => ?_)
    have hT : WT L K S69.2 := hw70
    have hP : va_P D vwCl (ZW x cy g S69 ++ va_pl L (pf cy K cf nm S69)) H := hP
    have hD : va_D _ (ZW x cy g S69 ++ va_pl L (pf cy K cf nm S69)) := hD
    refine lv_aload_n hx hb dX9_passTurn_41 rfl (lv_at hl 0 rfl) ?_
    obtain ⟨S74, hq76, hF⟩ := bd1_s hF
    refine gvV (As := []) (rest := []) ⟨hx, hb, hml, hown, hts⟩ (zX9_readersGoOn l D x cy g L K cf nm hG hL S69 hT _   S74 hq76) (cwV 0 hts gX9_passTurn_X9_readersGoOn rfl rfl rfl (by decide +kernel) ⟨Nat.le_of_ble_eq_true rfl, Nat.le_of_ble_eq_true rfl⟩) hK hP hD hS hA (va_recv hK hP (ci := 9) (q0 := 0) rfl rfl) rfl hl.1 rfl (Nat.le_of_ble_eq_true rfl) dX9_passTurn_42 ⟨Nat.le_of_ble_eq_true rfl, Nat.le_of_ble_eq_true rfl⟩ (fun u9 H locs hw75 hP hD hS => ?_)
    have hT : WT L K S74.2 := hw75
    have hP : va_P D vwCl (ZW x cy g S74 ++ va_pl L (pf cy K cf nm S74)) H := hP
    have hD : va_D _ (ZW x cy g S74 ++ va_pl L (pf cy K cf nm S74)) := hD
    refine lv_aload_n hx hb dX9_passTurn_45 rfl (lv_at hl 0 rfl) ?_
    obtain ⟨S79, hq81, hF⟩ := bd1_s hF
    refine gvV (As := []) (rest := []) ⟨hx, hb, hml, hown, hts⟩ (zX9_readersCome l D x cy g L K cf nm hG hL S74 hT _   S79 hq81) (cwV 0 hts gX9_passTurn_X9_readersCome rfl rfl rfl (by decide +kernel) ⟨Nat.le_of_ble_eq_true rfl, Nat.le_of_ble_eq_true rfl⟩) hK hP hD hS hA (va_recv hK hP (ci := 9) (q0 := 0) rfl rfl) rfl hl.1 rfl (Nat.le_of_ble_eq_true rfl) dX9_passTurn_46 ⟨Nat.le_of_ble_eq_true rfl, Nat.le_of_ble_eq_true rfl⟩ (fun u9 H locs hw80 hP hD hS => ?_)
    have hT : WT L K S79.2 := hw80
    have hP : va_P D vwCl (ZW x cy g S79 ++ va_pl L (pf cy K cf nm S79)) H := hP
    have hD : va_D _ (ZW x cy g S79 ++ va_pl L (pf cy K cf nm S79)) := hD
    refine lv_aload_n hx hb dX9_passTurn_49 rfl (lv_at hl 0 rfl) ?_
    obtain ⟨S84, hq86, hF⟩ := bd1_s hF
    refine gvV (As := []) (rest := []) ⟨hx, hb, hml, hown, hts⟩ (zX9_giveDesks l D x cy g L K cf nm hG hL S79 hT _   S84 hq86) (cwV 0 hts gX9_passTurn_X9_giveDesks rfl rfl rfl (by decide +kernel) ⟨Nat.le_of_ble_eq_true rfl, Nat.le_of_ble_eq_true rfl⟩) hK hP hD hS hA (va_recv hK hP (ci := 9) (q0 := 0) rfl rfl) rfl hl.1 rfl (Nat.le_of_ble_eq_true rfl) dX9_passTurn_50 ⟨Nat.le_of_ble_eq_true rfl, Nat.le_of_ble_eq_true rfl⟩ (fun u9 H locs hw85 hP hD hS => ?_)
    have hT : WT L K S84.2 := hw85
    have hP : va_P D vwCl (ZW x cy g S84 ++ va_pl L (pf cy K cf nm S84)) H := hP
    have hD : va_D _ (ZW x cy g S84 ++ va_pl L (pf cy K cf nm S84)) := hD
    refine lv_aload_n hx hb dX9_passTurn_53 rfl (lv_at hl 0 rfl) ?_
    obtain ⟨S89, hq91, hF⟩ := bd1_s hF
    refine gvV (As := []) (rest := []) ⟨hx, hb, hml, hown, hts⟩ (zX9_sendFetchers l D x cy g L K cf nm hG hL S84 hT _   S89 hq91) (cwV 0 hts gX9_passTurn_X9_sendFetchers rfl rfl rfl (by decide +kernel) ⟨Nat.le_of_ble_eq_true rfl, Nat.le_of_ble_eq_true rfl⟩) hK hP hD hS hA (va_recv hK hP (ci := 9) (q0 := 0) rfl rfl) rfl hl.1 rfl (Nat.le_of_ble_eq_true rfl) dX9_passTurn_54 ⟨Nat.le_of_ble_eq_true rfl, Nat.le_of_ble_eq_true rfl⟩ (fun u9 H locs hw90 hP hD hS => ?_)
    have hT : WT L K S89.2 := hw90
    have hP : va_P D vwCl (ZW x cy g S89 ++ va_pl L (pf cy K cf nm S89)) H := hP
    have hD : va_D _ (ZW x cy g S89 ++ va_pl L (pf cy K cf nm S89)) := hD
    refine lv_aload_n hx hb dX9_passTurn_57 rfl (lv_at hl 0 rfl) ?_
    obtain ⟨S94, hq96, hF⟩ := bd1_s hF
    refine gvV (As := []) (rest := []) ⟨hx, hb, hml, hown, hts⟩ (zX9_beginCopies l D x cy g L K cf nm hG hL S89 hT _   S94 hq96) (cwV 0 hts gX9_passTurn_X9_beginCopies rfl rfl rfl (by decide +kernel) ⟨Nat.le_of_ble_eq_true rfl, Nat.le_of_ble_eq_true rfl⟩) hK hP hD hS hA (va_recv hK hP (ci := 9) (q0 := 0) rfl rfl) rfl hl.1 rfl (Nat.le_of_ble_eq_true rfl) dX9_passTurn_58 ⟨Nat.le_of_ble_eq_true rfl, Nat.le_of_ble_eq_true rfl⟩ (fun u9 H locs hw95 hP hD hS => ?_)
    have hT : WT L K S94.2 := hw95
    have hP : va_P D vwCl (ZW x cy g S94 ++ va_pl L (pf cy K cf nm S94)) H := hP
    have hD : va_D _ (ZW x cy g S94 ++ va_pl L (pf cy K cf nm S94)) := hD
    refine lv_aload_n hx hb dX9_passTurn_61 rfl (lv_at hl 0 rfl) ?_
    obtain ⟨S99, hq101, hF⟩ := bd1_s hF
    refine gvV (As := []) (rest := []) ⟨hx, hb, hml, hown, hts⟩ (zX9_countWaiting l D x cy g L K cf nm hG hL S94 hT _   S99 hq101) (cwV 0 hts gX9_passTurn_X9_countWaiting rfl rfl rfl (by decide +kernel) ⟨Nat.le_of_ble_eq_true rfl, Nat.le_of_ble_eq_true rfl⟩) hK hP hD hS hA (va_recv hK hP (ci := 9) (q0 := 0) rfl rfl) rfl hl.1 rfl (Nat.le_of_ble_eq_true rfl) dX9_passTurn_62 ⟨Nat.le_of_ble_eq_true rfl, Nat.le_of_ble_eq_true rfl⟩ (fun u9 H locs hw100 hP hD hS => ?_)
    have hT : WT L K S99.2 := hw100
    have hP : va_P D vwCl (ZW x cy g S99 ++ va_pl L (pf cy K cf nm S99)) H := hP
    have hD : va_D _ (ZW x cy g S99 ++ va_pl L (pf cy K cf nm S99)) := hD
    have e2 := Option.some.inj hF
    have hP : va_P D vwCl (ZW x cy g Sf ++ va_pl L (pf cy K cf nm Sf)) H := by rw [← e2]; exact hP
    have hD : va_D (va_A (ZW x cy g S0 ++ va_pl L (pf cy K cf nm S0)) s.heap.size) (ZW x cy g Sf ++ va_pl L (pf cy K cf nm Sf)) := by rw [← e2]; exact hD
    have hT : WT L K Sf.2 := by rw [← e2]; exact hT
    exact W.vret hx hb hr (fun t ht hW => ⟨⟨(), rfl, hT, by rw [ht]; exact hP, va_K.moved hW.alike hK, hD⟩, hS.F ht⟩) hS.2.2 dX9_passTurn_65

theorem iX9_bellHasBeen_9 : ∀ w ∈ wsX90, w ∈ wsX9_bellHasBeen := fun _ h => List.mem_cons_of_mem _ (List.mem_append_right _ h)
set_option maxHeartbeats 8000000 in
set_option maxRecDepth 100000 in
theorem zX9_bellHasBeen (l : Launch) (D : va_G) (x : Nat → Nat) (cy : Nat → ClassId) (g : Nat → Nat → Option Nat) (L : List Nat) (K : Nat → Nat) (cf : Nat → Nat → Nat) (nm : Nat → Int32) (hG : GO L K g) (hL : PL L K cf) (S : CS) (hT : WT L K S.2) (sz : Nat)   (rv : Int32) (hF : gX9_bellHasBeen g cf nm S  = some rv) : Met l yX9_bellHasBeen wsX9_bellHasBeen ({ frames := 0, cells := 0, slots := 0, locals := 0 }) (PW D (TYS cy) (ZW x cy g S ++ va_pl L (pf cy K cf nm S)) sz [.ref (x 0)]) (va_Qi (fun (res : Int32) (u : Unit) => res = rv ∧ b01 rv) (BU D (TYS cy) (ZW x cy g S ++ va_pl L (pf cy K cf nm S)) (fun _ => ZW x cy g S ++ va_pl L (pf cy K cf nm S)) sz) (va_A (ZW x cy g S ++ va_pl L (pf cy K cf nm S)) sz)) 0 0 (va_A (ZW x cy g S ++ va_pl L (pf cy K cf nm S)) sz) := by
  refine Met.ofW (cc := cX9_bellHasBeen) (maxL := 1) (ret := (some .boolean)) (by decide) rfl ?_
  intro p e s m args below meth c s₁ B hml hv
  obtain ⟨rfl, hsz, hP, hK, hD0⟩ := hv
  have hx := B.exec
  have hb := B.bytes
  have hr := B.returns
  have hts := atoms_spec (ws := wsX9_bellHasBeen) B.pre
  have hown : s.vm.findClass RX9 = some m.cls := findClass_of_methodNamed B.named
  have hlocks := B.notSynchronized
  subst hsz
  have hD := hD0.self (sz := s.heap.size)
  have hA : ∀ q9 : Nat, s.heap.size ≤ q9 → va_A (ZW x cy g S ++ va_pl L (pf cy K cf nm S)) s.heap.size q9 := fun q9 h => Or.inr h
  have hS : va_S (va_A (ZW x cy g S ++ va_pl L (pf cy K cf nm S)) s.heap.size) s.heap s.heap [] := va_S.rf
  have hl := lv_entry ([.ref (x 0)]) (n := 1) (Nat.le_of_ble_eq_true rfl)
  rw [lg_entry_eq]
  generalize (lg_sl ([.ref (x 0)]) ++ List.replicate (1 - (lg_sl ([.ref (x 0)])).length) Slot.unset).toArray = ls at hl ⊢
  have hl : lv_has ls 1 [(0, .ref (x 0))] := hl
  unfold gX9_bellHasBeen at hF
  refine lv_aload_n hx hb dX9_bellHasBeen_0 rfl (lv_at hl 0 rfl) ?_
  refine va_get (D := D) (ci := 9) (v := .int (S.1 200 5)) (C := RX9) (T := TX9) (N := 19) hx hb hts iX9_bellHasBeen_9 hown hK hP 0 rfl rfl 15 (by decide) (hts (.fieldLink RX9 75 "FondsRoom" "bellTurn" "I") (List.mem_of_getElem? (i := 1) rfl)) (fun _ h9 => h9) rfl dX9_bellHasBeen_1 ?_
  refine lv_iconst (v := (-1)) hx hb dX9_bellHasBeen_4 (by decide) ?_
  refine lv_icmp_eq (tgt := 23) hx hb dX9_bellHasBeen_5 (by decide) (fun c1 => ?_) (fun c1 => ?_)
  · skip
    have hF := (if_pos c1).symm.trans hF
    refine lv_iconst (v := 0) hx hb dX9_bellHasBeen_23 (by decide) ?_
    have e1 := Option.some.inj hF
    exact W.zret (v := 0) hx hb hr (nz01 (Or.inl rfl)).1 (fun t ht hW => ⟨⟨0, (), rfl, ⟨e1, by rw [← e1]; exact Or.inl rfl⟩, by rw [ht]; exact hP, va_K.moved hW.alike hK, hD⟩, hS.F ht⟩) hS.2.2 dX9_bellHasBeen_24
  · skip
    have hF := (if_neg c1).symm.trans hF
    refine lv_aload_n hx hb dX9_bellHasBeen_8 rfl (lv_at hl 0 rfl) ?_
    refine va_get (D := D) (ci := 9) (v := .int (S.1 200 4)) (C := RX9) (T := TX9) (N := 19) hx hb hts iX9_bellHasBeen_9 hown hK hP 0 rfl rfl 14 (by decide) (hts (.fieldLink RX9 78 "FondsRoom" "turn" "I") (List.mem_of_getElem? (i := 2) rfl)) (fun _ h9 => h9) rfl dX9_bellHasBeen_9 ?_
    refine lv_aload_n hx hb dX9_bellHasBeen_12 rfl (lv_at hl 0 rfl) ?_
    refine va_get (D := D) (ci := 9) (v := .int (S.1 200 5)) (C := RX9) (T := TX9) (N := 19) hx hb hts iX9_bellHasBeen_9 hown hK hP 0 rfl rfl 15 (by decide) (hts (.fieldLink RX9 75 "FondsRoom" "bellTurn" "I") (List.mem_of_getElem? (i := 1) rfl)) (fun _ h9 => h9) rfl dX9_bellHasBeen_13 ?_
    refine lv_icmp_lt (tgt := 23) hx hb dX9_bellHasBeen_16 (by decide) (fun c2 => ?_) (fun c2 => ?_)
    · skip
      have hF := (if_pos c2).symm.trans hF
      refine lv_iconst (v := 0) hx hb dX9_bellHasBeen_23 (by decide) ?_
      have e1 := Option.some.inj hF
      exact W.zret (v := 0) hx hb hr (nz01 (Or.inl rfl)).1 (fun t ht hW => ⟨⟨0, (), rfl, ⟨e1, by rw [← e1]; exact Or.inl rfl⟩, by rw [ht]; exact hP, va_K.moved hW.alike hK, hD⟩, hS.F ht⟩) hS.2.2 dX9_bellHasBeen_24
    · skip
      have hF := (if_neg c2).symm.trans hF
      refine lv_iconst (v := 1) hx hb dX9_bellHasBeen_19 (by decide) ?_
      refine lv_goto (tgt := 24) hx hb dX9_bellHasBeen_20 (by decide) ?_
      have e1 := Option.some.inj hF
      exact W.zret (v := 1) hx hb hr (nz01 (Or.inr rfl)).1 (fun t ht hW => ⟨⟨1, (), rfl, ⟨e1, by rw [← e1]; exact Or.inr rfl⟩, by rw [ht]; exact hP, va_K.moved hW.alike hK, hD⟩, hS.F ht⟩) hS.2.2 dX9_bellHasBeen_24

theorem iX9_desk_1 : ∀ w ∈ wsX10, w ∈ wsX9_desk := fun _ h => List.mem_cons_of_mem _ (List.mem_append_right _ h)
theorem iX9_desk_9 : ∀ w ∈ wsX90, w ∈ wsX9_desk := fun _ h => List.mem_cons_of_mem _ (List.mem_append_left _ (List.mem_append_right _ h))
set_option maxHeartbeats 8000000 in
set_option maxRecDepth 100000 in
theorem zX9_desk (l : Launch) (D : va_G) (x : Nat → Nat) (cy : Nat → ClassId) (g : Nat → Nat → Option Nat) (L : List Nat) (K : Nat → Nat) (cf : Nat → Nat → Nat) (nm : Nat → Int32) (hG : GO L K g) (hL : PL L K cf) (S0 : CS) (hT : WT L K S0.2) (sz : Nat) (ar1 : Int32)  (rv : Int32) (Sf : CS) (hF : gX9_desk g cf nm S0 ar1 = some (rv, Sf)) : Met l yX9_desk wsX9_desk ({ frames := 0, cells := 0, slots := 0, locals := 0 }) (PW D (TYS cy) (ZW x cy g S0 ++ va_pl L (pf cy K cf nm S0)) sz [.ref (x 0), .int ar1]) (va_Qi (fun (res : Int32) (u : Unit) => (res = rv) ∧ WT L K Sf.2) (BU D (TYS cy) (ZW x cy g S0 ++ va_pl L (pf cy K cf nm S0)) (fun _ => ZW x cy g Sf ++ va_pl L (pf cy K cf nm Sf)) sz) (va_A (ZW x cy g S0 ++ va_pl L (pf cy K cf nm S0)) sz)) 0 0 (va_A (ZW x cy g S0 ++ va_pl L (pf cy K cf nm S0)) sz) := by
  refine Met.ofW (cc := cX9_desk) (maxL := 3) (ret := (some .int)) (by decide) rfl ?_
  intro p e s m args below meth c s₁ B hml hv
  obtain ⟨rfl, hsz, hP, hK, hD0⟩ := hv
  have hx := B.exec
  have hb := B.bytes
  have hr := B.returns
  have hts := atoms_spec (ws := wsX9_desk) B.pre
  have hown : s.vm.findClass RX9 = some m.cls := findClass_of_methodNamed B.named
  have hlocks := B.notSynchronized
  subst hsz
  have hD := hD0.self (sz := s.heap.size)
  have hA : ∀ q9 : Nat, s.heap.size ≤ q9 → va_A (ZW x cy g S0 ++ va_pl L (pf cy K cf nm S0)) s.heap.size q9 := fun q9 h => Or.inr h
  have hS : va_S (va_A (ZW x cy g S0 ++ va_pl L (pf cy K cf nm S0)) s.heap.size) s.heap s.heap [] := va_S.rf
  have hl := lv_entry ([.ref (x 0), .int ar1]) (n := 3) (Nat.le_of_ble_eq_true rfl)
  rw [lg_entry_eq]
  generalize (lg_sl ([.ref (x 0), .int ar1]) ++ List.replicate (3 - (lg_sl ([.ref (x 0), .int ar1])).length) Slot.unset).toArray = ls at hl ⊢
  have hl : lv_has ls 3 [(0, .ref (x 0)), (1, .int ar1)] := hl
  unfold gX9_desk at hF
  refine lv_aload_n hx hb dX9_desk_0 rfl (lv_at hl 0 rfl) ?_
  refine va_get (D := D) (ci := 9) (v := .int (S0.1 200 4)) (C := RX9) (T := TX9) (N := 19) hx hb hts iX9_desk_9 hown hK hP 0 rfl rfl 14 (by decide) (hts (.fieldLink RX9 78 "FondsRoom" "turn" "I") (List.mem_of_getElem? (i := 1) rfl)) (fun _ h9 => h9) rfl dX9_desk_1 ?_
  refine lv_if_gt (tgt := 16) hx hb dX9_desk_4 (by decide) (fun c1 => ?_) (fun c1 => ?_)
  · skip
    have hF := (if_pos c1).symm.trans hF
    refine lv_iconst (v := (-1)) hx hb dX9_desk_16 (by decide) ?_
    obtain ⟨e1, e2⟩ := ret2 hF
    have hP : va_P D vwCl (ZW x cy g Sf ++ va_pl L (pf cy K cf nm Sf)) s.heap := by rw [← e2]; exact hP
    have hD : va_D (va_A (ZW x cy g S0 ++ va_pl L (pf cy K cf nm S0)) s.heap.size) (ZW x cy g Sf ++ va_pl L (pf cy K cf nm Sf)) := by rw [← e2]; exact hD
    have hT : WT L K Sf.2 := by rw [← e2]; exact hT
    exact W.iret (v := (-1)) hx hb hr (fun t ht hW => ⟨⟨(-1), (), rfl, ⟨e1, hT⟩, by rw [ht]; exact hP, va_K.moved hW.alike hK, hD⟩, hS.F ht⟩) hS.2.2 dX9_desk_17
  · skip
    have hF := (if_neg c1).symm.trans hF
    refine lv_aload_n hx hb dX9_desk_7 rfl (lv_at hl 0 rfl) ?_
    refine va_get (D := D) (ci := 9) (v := .int (S0.1 200 0)) (C := RX9) (T := TX9) (N := 19) hx hb hts iX9_desk_9 hown hK hP 0 rfl rfl 10 (by decide) (hts (.fieldLink RX9 81 "FondsRoom" "deskCount" "I") (List.mem_of_getElem? (i := 2) rfl)) (fun _ h9 => h9) rfl dX9_desk_8 ?_
    refine lv_bipush (v := 12) hx hb dX9_desk_11 (by decide) ?_
    refine lv_icmp_lt (tgt := 18) hx hb dX9_desk_13 (by decide) (fun c2 => ?_) (fun c2 => ?_)
    · skip
      have hF := (if_pos c2).symm.trans hF
      refine lv_aload_n hx hb dX9_desk_18 rfl (lv_at hl 0 rfl) ?_
      refine va_get (D := D) (ci := 9) (v := .int (S0.1 200 0)) (C := RX9) (T := TX9) (N := 19) hx hb hts iX9_desk_9 hown hK hP 0 rfl rfl 10 (by decide) (hts (.fieldLink RX9 81 "FondsRoom" "deskCount" "I") (List.mem_of_getElem? (i := 2) rfl)) (fun _ h9 => h9) rfl dX9_desk_19 ?_
      refine lv_istore_n (lv' := [(2, .int (S0.1 200 0)), (0, .ref (x 0)), (1, .int ar1)]) hx hb dX9_desk_22 rfl hl (by decide) rfl (fun ls hl => ?_)
      refine lv_aload_n hx hb dX9_desk_23 rfl (lv_at hl 1 rfl) ?_
      refine va_get (D := D) (ci := 9) (v := .ref (x 1)) (C := RX9) (T := TX9) (N := 19) hx hb hts iX9_desk_9 hown hK hP 0 rfl rfl 0 (by decide) (hts (.fieldLink RX9 11 "FondsRoom" "desks" "[LFondsRoom$Desk;") (List.mem_of_getElem? (i := 3) rfl)) (fun _ h9 => h9) rfl dX9_desk_24 ?_
      refine lv_iload_n hx hb dX9_desk_27 rfl (lv_at hl 0 rfl) ?_
      obtain ⟨hi3, b4, eb4, hF⟩ := ga_s hF
      refine va_aldq hx hb hK hP 1 2 rfl rfl hi3 dX9_desk_28 ?_
      refine lv_tov (v' := .ref b4) (by rw [eb4]; rfl) ?_
      have mb4 := GO_0 hG hi3 eb4
      refine lv_iload_n hx hb dX9_desk_29 rfl (lv_at hl 2 rfl) ?_
      obtain ⟨hz30, hF⟩ := ck_s hF
      refine pg_put (D := D) (ci := 1) (v := .int ar1) (ty := .boolean) (C := RX1) (T := TX1) (N := 3) hx hb hts iX9_desk_1 tyX1 tyX1_ok nmX1 hown hK hP hD hS mb4.1 (pf_1 mb4.2) rfl 1 (by decide) (hts (.fieldLink RX9 84 "FondsRoom$Desk" "watched" "Z") (List.mem_of_getElem? (i := 4) rfl)) (fun _ h9 => h9) rfl (by decide +kernel) (nz01 hz30).1 (nz01 hz30).2 (Nat.le_of_ble_eq_true rfl) dX9_desk_30 (fun H locs hP hD hS => ?_)
      obtain ⟨S5, eS5⟩ : ∃ z, z = wi S0 21 b4 ar1 := ⟨_, rfl⟩
      replace hF := bnd_s hF S5 eS5
      have hP : va_P D vwCl (ZW x cy g S5 ++ va_pl L (pf cy K cf nm S5)) H := by rw [eS5]; rw [← pu_1_1 mb4.2]; exact hP
      have hD : va_D (va_A (ZW x cy g S0 ++ va_pl L (pf cy K cf nm S0)) s.heap.size) (ZW x cy g S5 ++ va_pl L (pf cy K cf nm S5)) := by rw [eS5]; rw [← pu_1_1 mb4.2]; exact hD
      have hT : WT L K S5.2 := by rw [eS5]; exact hT
      refine lv_aload_n hx hb dX9_desk_33 rfl (lv_at hl 1 rfl) ?_
      refine lv_iload_n hx hb dX9_desk_34 rfl (lv_at hl 0 rfl) ?_
      refine lv_iconst (v := 1) hx hb dX9_desk_35 (by decide) ?_
      refine lv_iadd hx hb dX9_desk_36 ?_
      refine va_put (D := D) (ci := 9) (v := .int ((S0.1 200 0) + 1)) (ty := .int) (C := RX9) (T := TX9) (N := 19) hx hb hts iX9_desk_9 tyX9 tyX9_ok nmX9 hown hK hP hD hS 0 rfl rfl 10 (by decide) (hts (.fieldLink RX9 81 "FondsRoom" "deskCount" "I") (List.mem_of_getElem? (i := 2) rfl)) (fun _ h9 => h9) rfl (by decide +kernel) rfl rfl (Nat.le_of_ble_eq_true rfl) dX9_desk_37 (fun H locs hP hD hS => ?_)
      obtain ⟨S6, eS6⟩ : ∃ z, z = wi S5 200 0 ((S0.1 200 0) + 1) := ⟨_, rfl⟩
      replace hF := bnd_s hF S6 eS6
      have hP : va_P D vwCl (ZW x cy g S6 ++ va_pl L (pf cy K cf nm S6)) H := by rw [eS6]; rw [show pf cy K cf nm (wi S5 200 0 ((S0.1 200 0) + 1)) = pf cy K cf nm S5 from pf_200]; exact hP
      have hD : va_D (va_A (ZW x cy g S0 ++ va_pl L (pf cy K cf nm S0)) s.heap.size) (ZW x cy g S6 ++ va_pl L (pf cy K cf nm S6)) := by rw [eS6]; rw [show pf cy K cf nm (wi S5 200 0 ((S0.1 200 0) + 1)) = pf cy K cf nm S5 from pf_200]; exact hD
      have hT : WT L K S6.2 := by rw [eS6]; exact hT
      refine lv_iload_n hx hb dX9_desk_40 rfl (lv_at hl 0 rfl) ?_
      obtain ⟨e1, e2⟩ := ret2 hF
      have hP : va_P D vwCl (ZW x cy g Sf ++ va_pl L (pf cy K cf nm Sf)) H := by rw [← e2]; exact hP
      have hD : va_D (va_A (ZW x cy g S0 ++ va_pl L (pf cy K cf nm S0)) s.heap.size) (ZW x cy g Sf ++ va_pl L (pf cy K cf nm Sf)) := by rw [← e2]; exact hD
      have hT : WT L K Sf.2 := by rw [← e2]; exact hT
      exact W.iret (v := (S0.1 200 0)) hx hb hr (fun t ht hW => ⟨⟨(S0.1 200 0), (), rfl, ⟨e1, hT⟩, by rw [ht]; exact hP, va_K.moved hW.alike hK, hD⟩, hS.F ht⟩) hS.2.2 dX9_desk_41
    · skip
      have hF := (if_neg c2).symm.trans hF
      refine lv_iconst (v := (-1)) hx hb dX9_desk_16 (by decide) ?_
      obtain ⟨e1, e2⟩ := ret2 hF
      have hP : va_P D vwCl (ZW x cy g Sf ++ va_pl L (pf cy K cf nm Sf)) s.heap := by rw [← e2]; exact hP
      have hD : va_D (va_A (ZW x cy g S0 ++ va_pl L (pf cy K cf nm S0)) s.heap.size) (ZW x cy g Sf ++ va_pl L (pf cy K cf nm Sf)) := by rw [← e2]; exact hD
      have hT : WT L K Sf.2 := by rw [← e2]; exact hT
      exact W.iret (v := (-1)) hx hb hr (fun t ht hW => ⟨⟨(-1), (), rfl, ⟨e1, hT⟩, by rw [ht]; exact hP, va_K.moved hW.alike hK, hD⟩, hS.F ht⟩) hS.2.2 dX9_desk_17

theorem iX9_box_0 : ∀ w ∈ wsX00, w ∈ wsX9_box := fun _ h => List.mem_cons_of_mem _ (List.mem_append_right _ h)
theorem iX9_box_9 : ∀ w ∈ wsX90, w ∈ wsX9_box := fun _ h => List.mem_cons_of_mem _ (List.mem_append_left _ (List.mem_append_right _ h))
set_option maxHeartbeats 8000000 in
set_option maxRecDepth 100000 in
theorem zX9_box (l : Launch) (D : va_G) (x : Nat → Nat) (cy : Nat → ClassId) (g : Nat → Nat → Option Nat) (L : List Nat) (K : Nat → Nat) (cf : Nat → Nat → Nat) (nm : Nat → Int32) (hG : GO L K g) (hL : PL L K cf) (S0 : CS) (hT : WT L K S0.2) (sz : Nat) (ar1 : Int32) (ar2 : Int32)  (rv : Int32) (Sf : CS) (hF : gX9_box g cf nm S0 ar1 ar2 = some (rv, Sf)) : Met l yX9_box wsX9_box ({ frames := 1, cells := 0, slots := 0, locals := 22 }) (PW D (TYS cy) (ZW x cy g S0 ++ va_pl L (pf cy K cf nm S0)) sz [.ref (x 0), .int ar1, .int ar2]) (va_Qi (fun (res : Int32) (u : Unit) => (res = rv) ∧ WT L K Sf.2) (BU D (TYS cy) (ZW x cy g S0 ++ va_pl L (pf cy K cf nm S0)) (fun _ => ZW x cy g Sf ++ va_pl L (pf cy K cf nm Sf)) sz) (va_A (ZW x cy g S0 ++ va_pl L (pf cy K cf nm S0)) sz)) 0 0 (va_A (ZW x cy g S0 ++ va_pl L (pf cy K cf nm S0)) sz) := by
  refine Met.ofW (cc := cX9_box) (maxL := 4) (ret := (some .int)) (by decide) rfl ?_
  intro p e s m args below meth c s₁ B hml hv
  obtain ⟨rfl, hsz, hP, hK, hD0⟩ := hv
  have hx := B.exec
  have hb := B.bytes
  have hr := B.returns
  have hts := atoms_spec (ws := wsX9_box) B.pre
  have hown : s.vm.findClass RX9 = some m.cls := findClass_of_methodNamed B.named
  have hlocks := B.notSynchronized
  subst hsz
  have hD := hD0.self (sz := s.heap.size)
  have hA : ∀ q9 : Nat, s.heap.size ≤ q9 → va_A (ZW x cy g S0 ++ va_pl L (pf cy K cf nm S0)) s.heap.size q9 := fun q9 h => Or.inr h
  have hS : va_S (va_A (ZW x cy g S0 ++ va_pl L (pf cy K cf nm S0)) s.heap.size) s.heap s.heap [] := va_S.rf
  have hl := lv_entry ([.ref (x 0), .int ar1, .int ar2]) (n := 4) (Nat.le_of_ble_eq_true rfl)
  rw [lg_entry_eq]
  generalize (lg_sl ([.ref (x 0), .int ar1, .int ar2]) ++ List.replicate (4 - (lg_sl ([.ref (x 0), .int ar1, .int ar2])).length) Slot.unset).toArray = ls at hl ⊢
  have hl : lv_has ls 4 [(0, .ref (x 0)), (1, .int ar1), (2, .int ar2)] := hl
  unfold gX9_box at hF
  refine lv_aload_n hx hb dX9_box_0 rfl (lv_at hl 0 rfl) ?_
  refine va_get (D := D) (ci := 9) (v := .int (S0.1 200 4)) (C := RX9) (T := TX9) (N := 19) hx hb hts iX9_box_9 hown hK hP 0 rfl rfl 14 (by decide) (hts (.fieldLink RX9 78 "FondsRoom" "turn" "I") (List.mem_of_getElem? (i := 1) rfl)) (fun _ h9 => h9) rfl dX9_box_1 ?_
  refine lv_if_gt (tgt := 26) hx hb dX9_box_4 (by decide) (fun c1 => ?_) (fun c1 => ?_)
  · skip
    have hF := (if_pos c1).symm.trans hF
    refine lv_iconst (v := (-1)) hx hb dX9_box_26 (by decide) ?_
    obtain ⟨e1, e2⟩ := ret2 hF
    have hP : va_P D vwCl (ZW x cy g Sf ++ va_pl L (pf cy K cf nm Sf)) s.heap := by rw [← e2]; exact hP
    have hD : va_D (va_A (ZW x cy g S0 ++ va_pl L (pf cy K cf nm S0)) s.heap.size) (ZW x cy g Sf ++ va_pl L (pf cy K cf nm Sf)) := by rw [← e2]; exact hD
    have hT : WT L K Sf.2 := by rw [← e2]; exact hT
    exact W.iret (v := (-1)) hx hb hr (fun t ht hW => ⟨⟨(-1), (), rfl, ⟨e1, hT⟩, by rw [ht]; exact hP, va_K.moved hW.alike hK, hD⟩, hS.F ht⟩) hS.2.2 dX9_box_27
  · skip
    have hF := (if_neg c1).symm.trans hF
    refine lv_aload_n hx hb dX9_box_7 rfl (lv_at hl 0 rfl) ?_
    refine va_get (D := D) (ci := 9) (v := .int (S0.1 200 1)) (C := RX9) (T := TX9) (N := 19) hx hb hts iX9_box_9 hown hK hP 0 rfl rfl 11 (by decide) (hts (.fieldLink RX9 88 "FondsRoom" "boxCount" "I") (List.mem_of_getElem? (i := 2) rfl)) (fun _ h9 => h9) rfl dX9_box_8 ?_
    refine lv_bipush (v := 40) hx hb dX9_box_11 (by decide) ?_
    refine lv_icmp_ge (tgt := 26) hx hb dX9_box_13 (by decide) (fun c2 => ?_) (fun c2 => ?_)
    · skip
      have hF := (if_pos c2).symm.trans hF
      refine lv_iconst (v := (-1)) hx hb dX9_box_26 (by decide) ?_
      obtain ⟨e1, e2⟩ := ret2 hF
      have hP : va_P D vwCl (ZW x cy g Sf ++ va_pl L (pf cy K cf nm Sf)) s.heap := by rw [← e2]; exact hP
      have hD : va_D (va_A (ZW x cy g S0 ++ va_pl L (pf cy K cf nm S0)) s.heap.size) (ZW x cy g Sf ++ va_pl L (pf cy K cf nm Sf)) := by rw [← e2]; exact hD
      have hT : WT L K Sf.2 := by rw [← e2]; exact hT
      exact W.iret (v := (-1)) hx hb hr (fun t ht hW => ⟨⟨(-1), (), rfl, ⟨e1, hT⟩, by rw [ht]; exact hP, va_K.moved hW.alike hK, hD⟩, hS.F ht⟩) hS.2.2 dX9_box_27
    · skip
      have hF := (if_neg c2).symm.trans hF
      refine lv_iload_n hx hb dX9_box_16 rfl (lv_at hl 1 rfl) ?_
      refine lv_iconst (v := 0) hx hb dX9_box_17 (by decide) ?_
      refine lv_bipush (v := 9) hx hb dX9_box_18 (by decide) ?_
      obtain ⟨r3, hq6, hF⟩ := bd1_s hF
      refine gsI (As := [.int ar1, .int 0, .int 9]) (rest := []) ⟨hx, hb, hml, hown, hts⟩ (zX9_isWithin l D x cy g L K cf nm hG hL S0 hT _ ar1 0 9  r3 hq6) (va_cwS 3 hts gX9_box_X9_isWithin rfl rfl rfl (by decide +kernel) ⟨Nat.le_of_ble_eq_true rfl, Nat.le_of_ble_eq_true rfl⟩) hK hP hD hS hA rfl hl.1 rfl (Nat.le_of_ble_eq_true rfl) dX9_box_20 ⟨Nat.le_of_ble_eq_true rfl, Nat.le_of_ble_eq_true rfl⟩ (fun a7 u9 H locs hw5 hP hD hS => ?_)
      have hP : va_P D vwCl (ZW x cy g S0 ++ va_pl L (pf cy K cf nm S0)) H := hP
      have hD : va_D _ (ZW x cy g S0 ++ va_pl L (pf cy K cf nm S0)) := hD
      refine lv_tov (v' := .int r3) (congrArg Value.int hw5.1) ?_
      refine lv_if_ne (tgt := 28) hx hb dX9_box_23 (by decide) (fun c8 => ?_) (fun c8 => ?_)
      · skip
        have hF := (if_neg c8).symm.trans hF
        refine lv_aload_n hx hb dX9_box_28 rfl (lv_at hl 0 rfl) ?_
        refine va_get (D := D) (ci := 9) (v := .int (S0.1 200 1)) (C := RX9) (T := TX9) (N := 19) hx hb hts iX9_box_9 hown hK hP 0 rfl rfl 11 (by decide) (hts (.fieldLink RX9 88 "FondsRoom" "boxCount" "I") (List.mem_of_getElem? (i := 2) rfl)) (fun _ h9 => h9) rfl dX9_box_29 ?_
        refine lv_istore_n (lv' := [(3, .int (S0.1 200 1)), (0, .ref (x 0)), (1, .int ar1), (2, .int ar2)]) hx hb dX9_box_32 rfl hl (by decide) rfl (fun ls hl => ?_)
        refine lv_aload_n hx hb dX9_box_33 rfl (lv_at hl 1 rfl) ?_
        refine va_get (D := D) (ci := 9) (v := .ref (x 2)) (C := RX9) (T := TX9) (N := 19) hx hb hts iX9_box_9 hown hK hP 0 rfl rfl 1 (by decide) (hts (.fieldLink RX9 20 "FondsRoom" "boxes" "[LFondsRoom$Box;") (List.mem_of_getElem? (i := 3) rfl)) (fun _ h9 => h9) rfl dX9_box_34 ?_
        refine lv_iload_n hx hb dX9_box_37 rfl (lv_at hl 0 rfl) ?_
        obtain ⟨hi9, b10, eb10, hF⟩ := ga_s hF
        refine va_aldq hx hb hK hP 2 3 rfl rfl hi9 dX9_box_38 ?_
        refine lv_tov (v' := .ref b10) (by rw [eb10]; rfl) ?_
        have mb10 := GO_1 hG hi9 eb10
        refine lv_iload_n hx hb dX9_box_39 rfl (lv_at hl 2 rfl) ?_
        refine pg_put (D := D) (ci := 0) (v := .int ar1) (ty := .int) (C := RX0) (T := TX0) (N := 6) hx hb hts iX9_box_0 tyX0 tyX0_ok nmX0 hown hK hP hD hS mb10.1 (pf_0 mb10.2) rfl 1 (by decide) (hts (.fieldLink RX9 95 "FondsRoom$Box" "fonds" "I") (List.mem_of_getElem? (i := 4) rfl)) (fun _ h9 => h9) rfl (by decide +kernel) rfl rfl (Nat.le_of_ble_eq_true rfl) dX9_box_40 (fun H locs hP hD hS => ?_)
        obtain ⟨S11, eS11⟩ : ∃ z, z = wi S0 1 b10 ar1 := ⟨_, rfl⟩
        replace hF := bnd_s hF S11 eS11
        have hP : va_P D vwCl (ZW x cy g S11 ++ va_pl L (pf cy K cf nm S11)) H := by rw [eS11]; rw [← pu_0_1 mb10.2]; exact hP
        have hD : va_D (va_A (ZW x cy g S0 ++ va_pl L (pf cy K cf nm S0)) s.heap.size) (ZW x cy g S11 ++ va_pl L (pf cy K cf nm S11)) := by rw [eS11]; rw [← pu_0_1 mb10.2]; exact hD
        have hT : WT L K S11.2 := by rw [eS11]; exact hT
        refine lv_aload_n hx hb dX9_box_43 rfl (lv_at hl 1 rfl) ?_
        refine va_get (D := D) (ci := 9) (v := .ref (x 2)) (C := RX9) (T := TX9) (N := 19) hx hb hts iX9_box_9 hown hK hP 0 rfl rfl 1 (by decide) (hts (.fieldLink RX9 20 "FondsRoom" "boxes" "[LFondsRoom$Box;") (List.mem_of_getElem? (i := 3) rfl)) (fun _ h9 => h9) rfl dX9_box_44 ?_
        refine lv_iload_n hx hb dX9_box_47 rfl (lv_at hl 0 rfl) ?_
        obtain ⟨hi12, b13, eb13, hF⟩ := ga_s hF
        refine va_aldq hx hb hK hP 2 3 rfl rfl hi12 dX9_box_48 ?_
        refine lv_tov (v' := .ref b13) (by rw [eb13]; rfl) ?_
        have mb13 := GO_1 hG hi12 eb13
        refine lv_iload_n hx hb dX9_box_49 rfl (lv_at hl 3 rfl) ?_
        obtain ⟨hz50, hF⟩ := ck_s hF
        refine pg_put (D := D) (ci := 0) (v := .int ar2) (ty := .boolean) (C := RX0) (T := TX0) (N := 6) hx hb hts iX9_box_0 tyX0 tyX0_ok nmX0 hown hK hP hD hS mb13.1 (pf_0 mb13.2) rfl 2 (by decide) (hts (.fieldLink RX9 98 "FondsRoom$Box" "precious" "Z") (List.mem_of_getElem? (i := 5) rfl)) (fun _ h9 => h9) rfl (by decide +kernel) (nz01 hz50).1 (nz01 hz50).2 (Nat.le_of_ble_eq_true rfl) dX9_box_50 (fun H locs hP hD hS => ?_)
        obtain ⟨S14, eS14⟩ : ∃ z, z = wi S11 2 b13 ar2 := ⟨_, rfl⟩
        replace hF := bnd_s hF S14 eS14
        have hP : va_P D vwCl (ZW x cy g S14 ++ va_pl L (pf cy K cf nm S14)) H := by rw [eS14]; rw [← pu_0_2 mb13.2]; exact hP
        have hD : va_D (va_A (ZW x cy g S0 ++ va_pl L (pf cy K cf nm S0)) s.heap.size) (ZW x cy g S14 ++ va_pl L (pf cy K cf nm S14)) := by rw [eS14]; rw [← pu_0_2 mb13.2]; exact hD
        have hT : WT L K S14.2 := by rw [eS14]; exact hT
        refine lv_aload_n hx hb dX9_box_53 rfl (lv_at hl 1 rfl) ?_
        refine lv_iload_n hx hb dX9_box_54 rfl (lv_at hl 0 rfl) ?_
        refine lv_iconst (v := 1) hx hb dX9_box_55 (by decide) ?_
        refine lv_iadd hx hb dX9_box_56 ?_
        refine va_put (D := D) (ci := 9) (v := .int ((S0.1 200 1) + 1)) (ty := .int) (C := RX9) (T := TX9) (N := 19) hx hb hts iX9_box_9 tyX9 tyX9_ok nmX9 hown hK hP hD hS 0 rfl rfl 11 (by decide) (hts (.fieldLink RX9 88 "FondsRoom" "boxCount" "I") (List.mem_of_getElem? (i := 2) rfl)) (fun _ h9 => h9) rfl (by decide +kernel) rfl rfl (Nat.le_of_ble_eq_true rfl) dX9_box_57 (fun H locs hP hD hS => ?_)
        obtain ⟨S15, eS15⟩ : ∃ z, z = wi S14 200 1 ((S0.1 200 1) + 1) := ⟨_, rfl⟩
        replace hF := bnd_s hF S15 eS15
        have hP : va_P D vwCl (ZW x cy g S15 ++ va_pl L (pf cy K cf nm S15)) H := by rw [eS15]; rw [show pf cy K cf nm (wi S14 200 1 ((S0.1 200 1) + 1)) = pf cy K cf nm S14 from pf_200]; exact hP
        have hD : va_D (va_A (ZW x cy g S0 ++ va_pl L (pf cy K cf nm S0)) s.heap.size) (ZW x cy g S15 ++ va_pl L (pf cy K cf nm S15)) := by rw [eS15]; rw [show pf cy K cf nm (wi S14 200 1 ((S0.1 200 1) + 1)) = pf cy K cf nm S14 from pf_200]; exact hD
        have hT : WT L K S15.2 := by rw [eS15]; exact hT
        refine lv_iload_n hx hb dX9_box_60 rfl (lv_at hl 0 rfl) ?_
        obtain ⟨e1, e2⟩ := ret2 hF
        have hP : va_P D vwCl (ZW x cy g Sf ++ va_pl L (pf cy K cf nm Sf)) H := by rw [← e2]; exact hP
        have hD : va_D (va_A (ZW x cy g S0 ++ va_pl L (pf cy K cf nm S0)) s.heap.size) (ZW x cy g Sf ++ va_pl L (pf cy K cf nm Sf)) := by rw [← e2]; exact hD
        have hT : WT L K Sf.2 := by rw [← e2]; exact hT
        exact W.iret (v := (S0.1 200 1)) hx hb hr (fun t ht hW => ⟨⟨(S0.1 200 1), (), rfl, ⟨e1, hT⟩, by rw [ht]; exact hP, va_K.moved hW.alike hK, hD⟩, hS.F ht⟩) hS.2.2 dX9_box_61
      · skip
        have hF := (if_pos c8).symm.trans hF
        refine lv_iconst (v := (-1)) hx hb dX9_box_26 (by decide) ?_
        obtain ⟨e1, e2⟩ := ret2 hF
        have hP : va_P D vwCl (ZW x cy g Sf ++ va_pl L (pf cy K cf nm Sf)) H := by rw [← e2]; exact hP
        have hD : va_D (va_A (ZW x cy g S0 ++ va_pl L (pf cy K cf nm S0)) s.heap.size) (ZW x cy g Sf ++ va_pl L (pf cy K cf nm Sf)) := by rw [← e2]; exact hD
        have hT : WT L K Sf.2 := by rw [← e2]; exact hT
        exact W.iret (v := (-1)) hx hb hr (fun t ht hW => ⟨⟨(-1), (), rfl, ⟨e1, hT⟩, by rw [ht]; exact hP, va_K.moved hW.alike hK, hD⟩, hS.F ht⟩) hS.2.2 dX9_box_27

theorem iX9_people_7 : ∀ w ∈ wsX70, w ∈ wsX9_people := fun _ h => List.mem_cons_of_mem _ (List.mem_append_right _ h)
theorem iX9_people_9 : ∀ w ∈ wsX90, w ∈ wsX9_people := fun _ h => List.mem_cons_of_mem _ (List.mem_append_left _ (List.mem_append_right _ h))
set_option maxHeartbeats 8000000 in
set_option maxRecDepth 100000 in
theorem zX9_people (l : Launch) (D : va_G) (x : Nat → Nat) (cy : Nat → ClassId) (g : Nat → Nat → Option Nat) (L : List Nat) (K : Nat → Nat) (cf : Nat → Nat → Nat) (nm : Nat → Int32) (hG : GO L K g) (hL : PL L K cf) (S0 : CS) (hT : WT L K S0.2) (sz : Nat) (ar1 : Int32) (ar2 : Int32) (ar3 : Int32)  (rv : Int32) (Sf : CS) (hF : gX9_people g cf nm S0 ar1 ar2 ar3 = some (rv, Sf)) : Met l yX9_people wsX9_people ({ frames := 1, cells := 0, slots := 0, locals := 22 }) (PW D (TYS cy) (ZW x cy g S0 ++ va_pl L (pf cy K cf nm S0)) sz [.ref (x 0), .int ar1, .int ar2, .int ar3]) (va_Qi (fun (res : Int32) (u : Unit) => (res = rv ∧ b01 rv) ∧ WT L K Sf.2) (BU D (TYS cy) (ZW x cy g S0 ++ va_pl L (pf cy K cf nm S0)) (fun _ => ZW x cy g Sf ++ va_pl L (pf cy K cf nm Sf)) sz) (va_A (ZW x cy g S0 ++ va_pl L (pf cy K cf nm S0)) sz)) 0 0 (va_A (ZW x cy g S0 ++ va_pl L (pf cy K cf nm S0)) sz) := by
  refine Met.ofW (cc := cX9_people) (maxL := 4) (ret := (some .boolean)) (by decide) rfl ?_
  intro p e s m args below meth c s₁ B hml hv
  obtain ⟨rfl, hsz, hP, hK, hD0⟩ := hv
  have hx := B.exec
  have hb := B.bytes
  have hr := B.returns
  have hts := atoms_spec (ws := wsX9_people) B.pre
  have hown : s.vm.findClass RX9 = some m.cls := findClass_of_methodNamed B.named
  have hlocks := B.notSynchronized
  subst hsz
  have hD := hD0.self (sz := s.heap.size)
  have hA : ∀ q9 : Nat, s.heap.size ≤ q9 → va_A (ZW x cy g S0 ++ va_pl L (pf cy K cf nm S0)) s.heap.size q9 := fun q9 h => Or.inr h
  have hS : va_S (va_A (ZW x cy g S0 ++ va_pl L (pf cy K cf nm S0)) s.heap.size) s.heap s.heap [] := va_S.rf
  have hl := lv_entry ([.ref (x 0), .int ar1, .int ar2, .int ar3]) (n := 4) (Nat.le_of_ble_eq_true rfl)
  rw [lg_entry_eq]
  generalize (lg_sl ([.ref (x 0), .int ar1, .int ar2, .int ar3]) ++ List.replicate (4 - (lg_sl ([.ref (x 0), .int ar1, .int ar2, .int ar3])).length) Slot.unset).toArray = ls at hl ⊢
  have hl : lv_has ls 4 [(0, .ref (x 0)), (1, .int ar1), (2, .int ar2), (3, .int ar3)] := hl
  unfold gX9_people at hF
  refine lv_aload_n hx hb dX9_people_0 rfl (lv_at hl 0 rfl) ?_
  refine va_get (D := D) (ci := 9) (v := .int (S0.1 200 4)) (C := RX9) (T := TX9) (N := 19) hx hb hts iX9_people_9 hown hK hP 0 rfl rfl 14 (by decide) (hts (.fieldLink RX9 78 "FondsRoom" "turn" "I") (List.mem_of_getElem? (i := 1) rfl)) (fun _ h9 => h9) rfl dX9_people_1 ?_
  refine lv_if_gt (tgt := 34) hx hb dX9_people_4 (by decide) (fun c1 => ?_) (fun c1 => ?_)
  · skip
    have hF := (if_pos c1).symm.trans hF
    refine lv_iconst (v := 0) hx hb dX9_people_34 (by decide) ?_
    obtain ⟨e1, e2⟩ := ret2 hF
    have hP : va_P D vwCl (ZW x cy g Sf ++ va_pl L (pf cy K cf nm Sf)) s.heap := by rw [← e2]; exact hP
    have hD : va_D (va_A (ZW x cy g S0 ++ va_pl L (pf cy K cf nm S0)) s.heap.size) (ZW x cy g Sf ++ va_pl L (pf cy K cf nm Sf)) := by rw [← e2]; exact hD
    have hT : WT L K Sf.2 := by rw [← e2]; exact hT
    exact W.zret (v := 0) hx hb hr (nz01 (Or.inl rfl)).1 (fun t ht hW => ⟨⟨0, (), rfl, ⟨⟨e1, by rw [← e1]; exact Or.inl rfl⟩, hT⟩, by rw [ht]; exact hP, va_K.moved hW.alike hK, hD⟩, hS.F ht⟩) hS.2.2 dX9_people_35
  · skip
    have hF := (if_neg c1).symm.trans hF
    refine lv_iload_n hx hb dX9_people_7 rfl (lv_at hl 1 rfl) ?_
    refine lv_iconst (v := 1) hx hb dX9_people_8 (by decide) ?_
    refine lv_iconst (v := 4) hx hb dX9_people_9 (by decide) ?_
    obtain ⟨r2, hq5, hF⟩ := bd1_s hF
    refine gsI (As := [.int ar1, .int 1, .int 4]) (rest := []) ⟨hx, hb, hml, hown, hts⟩ (zX9_isWithin l D x cy g L K cf nm hG hL S0 hT _ ar1 1 4  r2 hq5) (va_cwS 3 hts gX9_people_X9_isWithin rfl rfl rfl (by decide +kernel) ⟨Nat.le_of_ble_eq_true rfl, Nat.le_of_ble_eq_true rfl⟩) hK hP hD hS hA rfl hl.1 rfl (Nat.le_of_ble_eq_true rfl) dX9_people_10 ⟨Nat.le_of_ble_eq_true rfl, Nat.le_of_ble_eq_true rfl⟩ (fun a6 u9 H locs hw4 hP hD hS => ?_)
    have hP : va_P D vwCl (ZW x cy g S0 ++ va_pl L (pf cy K cf nm S0)) H := hP
    have hD : va_D _ (ZW x cy g S0 ++ va_pl L (pf cy K cf nm S0)) := hD
    refine lv_tov (v' := .int r2) (congrArg Value.int hw4.1) ?_
    refine lv_if_eq (tgt := 34) hx hb dX9_people_13 (by decide) (fun c7 => ?_) (fun c7 => ?_)
    · skip
      have hF := (if_pos c7).symm.trans hF
      refine lv_iconst (v := 0) hx hb dX9_people_34 (by decide) ?_
      obtain ⟨e1, e2⟩ := ret2 hF
      have hP : va_P D vwCl (ZW x cy g Sf ++ va_pl L (pf cy K cf nm Sf)) H := by rw [← e2]; exact hP
      have hD : va_D (va_A (ZW x cy g S0 ++ va_pl L (pf cy K cf nm S0)) s.heap.size) (ZW x cy g Sf ++ va_pl L (pf cy K cf nm Sf)) := by rw [← e2]; exact hD
      have hT : WT L K Sf.2 := by rw [← e2]; exact hT
      exact W.zret (v := 0) hx hb hr (nz01 (Or.inl rfl)).1 (fun t ht hW => ⟨⟨0, (), rfl, ⟨⟨e1, by rw [← e1]; exact Or.inl rfl⟩, hT⟩, by rw [ht]; exact hP, va_K.moved hW.alike hK, hD⟩, hS.F ht⟩) hS.2.2 dX9_people_35
    · skip
      have hF := (if_neg c7).symm.trans hF
      refine lv_iload_n hx hb dX9_people_16 rfl (lv_at hl 2 rfl) ?_
      refine lv_iconst (v := 1) hx hb dX9_people_17 (by decide) ?_
      refine lv_iconst (v := 3) hx hb dX9_people_18 (by decide) ?_
      obtain ⟨r8, hq11, hF⟩ := bd1_s hF
      refine gsI (As := [.int ar2, .int 1, .int 3]) (rest := []) ⟨hx, hb, hml, hown, hts⟩ (zX9_isWithin l D x cy g L K cf nm hG hL S0 hT _ ar2 1 3  r8 hq11) (va_cwS 3 hts gX9_people_X9_isWithin rfl rfl rfl (by decide +kernel) ⟨Nat.le_of_ble_eq_true rfl, Nat.le_of_ble_eq_true rfl⟩) hK hP hD hS hA rfl hl.1 rfl (Nat.le_of_ble_eq_true rfl) dX9_people_19 ⟨Nat.le_of_ble_eq_true rfl, Nat.le_of_ble_eq_true rfl⟩ (fun a12 u9 H locs hw10 hP hD hS => ?_)
      have hP : va_P D vwCl (ZW x cy g S0 ++ va_pl L (pf cy K cf nm S0)) H := hP
      have hD : va_D _ (ZW x cy g S0 ++ va_pl L (pf cy K cf nm S0)) := hD
      refine lv_tov (v' := .int r8) (congrArg Value.int hw10.1) ?_
      refine lv_if_eq (tgt := 34) hx hb dX9_people_22 (by decide) (fun c13 => ?_) (fun c13 => ?_)
      · skip
        have hF := (if_pos c13).symm.trans hF
        refine lv_iconst (v := 0) hx hb dX9_people_34 (by decide) ?_
        obtain ⟨e1, e2⟩ := ret2 hF
        have hP : va_P D vwCl (ZW x cy g Sf ++ va_pl L (pf cy K cf nm Sf)) H := by rw [← e2]; exact hP
        have hD : va_D (va_A (ZW x cy g S0 ++ va_pl L (pf cy K cf nm S0)) s.heap.size) (ZW x cy g Sf ++ va_pl L (pf cy K cf nm Sf)) := by rw [← e2]; exact hD
        have hT : WT L K Sf.2 := by rw [← e2]; exact hT
        exact W.zret (v := 0) hx hb hr (nz01 (Or.inl rfl)).1 (fun t ht hW => ⟨⟨0, (), rfl, ⟨⟨e1, by rw [← e1]; exact Or.inl rfl⟩, hT⟩, by rw [ht]; exact hP, va_K.moved hW.alike hK, hD⟩, hS.F ht⟩) hS.2.2 dX9_people_35
      · skip
        have hF := (if_neg c13).symm.trans hF
        refine lv_iload_n hx hb dX9_people_25 rfl (lv_at hl 3 rfl) ?_
        refine lv_iconst (v := 1) hx hb dX9_people_26 (by decide) ?_
        refine lv_iconst (v := 5) hx hb dX9_people_27 (by decide) ?_
        obtain ⟨r14, hq17, hF⟩ := bd1_s hF
        refine gsI (As := [.int ar3, .int 1, .int 5]) (rest := []) ⟨hx, hb, hml, hown, hts⟩ (zX9_isWithin l D x cy g L K cf nm hG hL S0 hT _ ar3 1 5  r14 hq17) (va_cwS 3 hts gX9_people_X9_isWithin rfl rfl rfl (by decide +kernel) ⟨Nat.le_of_ble_eq_true rfl, Nat.le_of_ble_eq_true rfl⟩) hK hP hD hS hA rfl hl.1 rfl (Nat.le_of_ble_eq_true rfl) dX9_people_28 ⟨Nat.le_of_ble_eq_true rfl, Nat.le_of_ble_eq_true rfl⟩ (fun a18 u9 H locs hw16 hP hD hS => ?_)
        have hP : va_P D vwCl (ZW x cy g S0 ++ va_pl L (pf cy K cf nm S0)) H := hP
        have hD : va_D _ (ZW x cy g S0 ++ va_pl L (pf cy K cf nm S0)) := hD
        refine lv_tov (v' := .int r14) (congrArg Value.int hw16.1) ?_
        refine lv_if_ne (tgt := 36) hx hb dX9_people_31 (by decide) (fun c19 => ?_) (fun c19 => ?_)
        · skip
          have hF := (if_neg c19).symm.trans hF
          refine lv_aload_n hx hb dX9_people_36 rfl (lv_at hl 0 rfl) ?_
          refine va_get (D := D) (ci := 9) (v := .ref (x 4)) (C := RX9) (T := TX9) (N := 19) hx hb hts iX9_people_9 hown hK hP 0 rfl rfl 3 (by decide) (hts (.fieldLink RX9 37 "FondsRoom" "fetchers" "LFondsRoom$Staff;") (List.mem_of_getElem? (i := 2) rfl)) (fun _ h9 => h9) rfl dX9_people_37 ?_
          refine lv_iload_n hx hb dX9_people_40 rfl (lv_at hl 1 rfl) ?_
          refine va_put (D := D) (ci := 7) (v := .int ar1) (ty := .int) (C := RX7) (T := TX7) (N := 2) hx hb hts iX9_people_7 tyX7 tyX7_ok nmX7 hown hK hP hD hS 4 rfl rfl 1 (by decide) (hts (.fieldLink RX9 101 "FondsRoom$Staff" "hired" "I") (List.mem_of_getElem? (i := 3) rfl)) (fun _ h9 => h9) rfl (by decide +kernel) rfl rfl (Nat.le_of_ble_eq_true rfl) dX9_people_41 (fun H locs hP hD hS => ?_)
          obtain ⟨S20, eS20⟩ : ∃ z, z = wi S0 200 9 ar1 := ⟨_, rfl⟩
          replace hF := bnd_s hF S20 eS20
          have hP : va_P D vwCl (ZW x cy g S20 ++ va_pl L (pf cy K cf nm S20)) H := by rw [eS20]; rw [show pf cy K cf nm (wi S0 200 9 ar1) = pf cy K cf nm S0 from pf_200]; exact hP
          have hD : va_D (va_A (ZW x cy g S0 ++ va_pl L (pf cy K cf nm S0)) s.heap.size) (ZW x cy g S20 ++ va_pl L (pf cy K cf nm S20)) := by rw [eS20]; rw [show pf cy K cf nm (wi S0 200 9 ar1) = pf cy K cf nm S0 from pf_200]; exact hD
          have hT : WT L K S20.2 := by rw [eS20]; exact hT
          refine lv_aload_n hx hb dX9_people_44 rfl (lv_at hl 0 rfl) ?_
          refine va_get (D := D) (ci := 9) (v := .ref (x 6)) (C := RX9) (T := TX9) (N := 19) hx hb hts iX9_people_9 hown hK hP 0 rfl rfl 4 (by decide) (hts (.fieldLink RX9 41 "FondsRoom" "copyists" "LFondsRoom$Staff;") (List.mem_of_getElem? (i := 4) rfl)) (fun _ h9 => h9) rfl dX9_people_45 ?_
          refine lv_iload_n hx hb dX9_people_48 rfl (lv_at hl 2 rfl) ?_
          refine va_put (D := D) (ci := 7) (v := .int ar2) (ty := .int) (C := RX7) (T := TX7) (N := 2) hx hb hts iX9_people_7 tyX7 tyX7_ok nmX7 hown hK hP hD hS 6 rfl rfl 1 (by decide) (hts (.fieldLink RX9 101 "FondsRoom$Staff" "hired" "I") (List.mem_of_getElem? (i := 3) rfl)) (fun _ h9 => h9) rfl (by decide +kernel) rfl rfl (Nat.le_of_ble_eq_true rfl) dX9_people_49 (fun H locs hP hD hS => ?_)
          obtain ⟨S21, eS21⟩ : ∃ z, z = wi S20 200 10 ar2 := ⟨_, rfl⟩
          replace hF := bnd_s hF S21 eS21
          have hP : va_P D vwCl (ZW x cy g S21 ++ va_pl L (pf cy K cf nm S21)) H := by rw [eS21]; rw [show pf cy K cf nm (wi S20 200 10 ar2) = pf cy K cf nm S20 from pf_200]; exact hP
          have hD : va_D (va_A (ZW x cy g S0 ++ va_pl L (pf cy K cf nm S0)) s.heap.size) (ZW x cy g S21 ++ va_pl L (pf cy K cf nm S21)) := by rw [eS21]; rw [show pf cy K cf nm (wi S20 200 10 ar2) = pf cy K cf nm S20 from pf_200]; exact hD
          have hT : WT L K S21.2 := by rw [eS21]; exact hT
          refine lv_aload_n hx hb dX9_people_52 rfl (lv_at hl 0 rfl) ?_
          refine lv_iload_n hx hb dX9_people_53 rfl (lv_at hl 3 rfl) ?_
          refine va_put (D := D) (ci := 9) (v := .int ar3) (ty := .int) (C := RX9) (T := TX9) (N := 19) hx hb hts iX9_people_9 tyX9 tyX9_ok nmX9 hown hK hP hD hS 0 rfl rfl 13 (by decide) (hts (.fieldLink RX9 71 "FondsRoom" "way" "I") (List.mem_of_getElem? (i := 5) rfl)) (fun _ h9 => h9) rfl (by decide +kernel) rfl rfl (Nat.le_of_ble_eq_true rfl) dX9_people_54 (fun H locs hP hD hS => ?_)
          obtain ⟨S22, eS22⟩ : ∃ z, z = wi S21 200 3 ar3 := ⟨_, rfl⟩
          replace hF := bnd_s hF S22 eS22
          have hP : va_P D vwCl (ZW x cy g S22 ++ va_pl L (pf cy K cf nm S22)) H := by rw [eS22]; rw [show pf cy K cf nm (wi S21 200 3 ar3) = pf cy K cf nm S21 from pf_200]; exact hP
          have hD : va_D (va_A (ZW x cy g S0 ++ va_pl L (pf cy K cf nm S0)) s.heap.size) (ZW x cy g S22 ++ va_pl L (pf cy K cf nm S22)) := by rw [eS22]; rw [show pf cy K cf nm (wi S21 200 3 ar3) = pf cy K cf nm S21 from pf_200]; exact hD
          have hT : WT L K S22.2 := by rw [eS22]; exact hT
          refine lv_iconst (v := 1) hx hb dX9_people_57 (by decide) ?_
          obtain ⟨e1, e2⟩ := ret2 hF
          have hP : va_P D vwCl (ZW x cy g Sf ++ va_pl L (pf cy K cf nm Sf)) H := by rw [← e2]; exact hP
          have hD : va_D (va_A (ZW x cy g S0 ++ va_pl L (pf cy K cf nm S0)) s.heap.size) (ZW x cy g Sf ++ va_pl L (pf cy K cf nm Sf)) := by rw [← e2]; exact hD
          have hT : WT L K Sf.2 := by rw [← e2]; exact hT
          exact W.zret (v := 1) hx hb hr (nz01 (Or.inr rfl)).1 (fun t ht hW => ⟨⟨1, (), rfl, ⟨⟨e1, by rw [← e1]; exact Or.inr rfl⟩, hT⟩, by rw [ht]; exact hP, va_K.moved hW.alike hK, hD⟩, hS.F ht⟩) hS.2.2 dX9_people_58
        · skip
          have hF := (if_pos c19).symm.trans hF
          refine lv_iconst (v := 0) hx hb dX9_people_34 (by decide) ?_
          obtain ⟨e1, e2⟩ := ret2 hF
          have hP : va_P D vwCl (ZW x cy g Sf ++ va_pl L (pf cy K cf nm Sf)) H := by rw [← e2]; exact hP
          have hD : va_D (va_A (ZW x cy g S0 ++ va_pl L (pf cy K cf nm S0)) s.heap.size) (ZW x cy g Sf ++ va_pl L (pf cy K cf nm Sf)) := by rw [← e2]; exact hD
          have hT : WT L K Sf.2 := by rw [← e2]; exact hT
          exact W.zret (v := 0) hx hb hr (nz01 (Or.inl rfl)).1 (fun t ht hW => ⟨⟨0, (), rfl, ⟨⟨e1, by rw [← e1]; exact Or.inl rfl⟩, hT⟩, by rw [ht]; exact hP, va_K.moved hW.alike hK, hD⟩, hS.F ht⟩) hS.2.2 dX9_people_35

theorem iX9_reader_6 : ∀ w ∈ wsX60, w ∈ wsX9_reader := fun _ h => List.mem_cons_of_mem _ (List.mem_append_right _ h)
theorem iX9_reader_9 : ∀ w ∈ wsX90, w ∈ wsX9_reader := fun _ h => List.mem_cons_of_mem _ (List.mem_append_left _ (List.mem_append_right _ h))
set_option maxHeartbeats 8000000 in
set_option maxRecDepth 100000 in
theorem zX9_reader (l : Launch) (D : va_G) (x : Nat → Nat) (cy : Nat → ClassId) (g : Nat → Nat → Option Nat) (L : List Nat) (K : Nat → Nat) (cf : Nat → Nat → Nat) (nm : Nat → Int32) (hG : GO L K g) (hL : PL L K cf) (S0 : CS) (hT : WT L K S0.2) (sz : Nat) (ar1 : Int32) (ar2 : Int32) (ar3 : Int32)  (rv : Int32) (Sf : CS) (hF : gX9_reader g cf nm S0 ar1 ar2 ar3 = some (rv, Sf)) : Met l yX9_reader wsX9_reader ({ frames := 1, cells := 0, slots := 0, locals := 22 }) (PW D (TYS cy) (ZW x cy g S0 ++ va_pl L (pf cy K cf nm S0)) sz [.ref (x 0), .int ar1, .int ar2, .int ar3]) (va_Qi (fun (res : Int32) (u : Unit) => (res = rv) ∧ WT L K Sf.2) (BU D (TYS cy) (ZW x cy g S0 ++ va_pl L (pf cy K cf nm S0)) (fun _ => ZW x cy g Sf ++ va_pl L (pf cy K cf nm Sf)) sz) (va_A (ZW x cy g S0 ++ va_pl L (pf cy K cf nm S0)) sz)) 0 0 (va_A (ZW x cy g S0 ++ va_pl L (pf cy K cf nm S0)) sz) := by
  refine Met.ofW (cc := cX9_reader) (maxL := 6) (ret := (some .int)) (by decide) rfl ?_
  intro p e s m args below meth c s₁ B hml hv
  obtain ⟨rfl, hsz, hP, hK, hD0⟩ := hv
  have hx := B.exec
  have hb := B.bytes
  have hr := B.returns
  have hts := atoms_spec (ws := wsX9_reader) B.pre
  have hown : s.vm.findClass RX9 = some m.cls := findClass_of_methodNamed B.named
  have hlocks := B.notSynchronized
  subst hsz
  have hD := hD0.self (sz := s.heap.size)
  have hA : ∀ q9 : Nat, s.heap.size ≤ q9 → va_A (ZW x cy g S0 ++ va_pl L (pf cy K cf nm S0)) s.heap.size q9 := fun q9 h => Or.inr h
  have hS : va_S (va_A (ZW x cy g S0 ++ va_pl L (pf cy K cf nm S0)) s.heap.size) s.heap s.heap [] := va_S.rf
  have hl := lv_entry ([.ref (x 0), .int ar1, .int ar2, .int ar3]) (n := 6) (Nat.le_of_ble_eq_true rfl)
  rw [lg_entry_eq]
  generalize (lg_sl ([.ref (x 0), .int ar1, .int ar2, .int ar3]) ++ List.replicate (6 - (lg_sl ([.ref (x 0), .int ar1, .int ar2, .int ar3])).length) Slot.unset).toArray = ls at hl ⊢
  have hl : lv_has ls 6 [(0, .ref (x 0)), (1, .int ar1), (2, .int ar2), (3, .int ar3)] := hl
  unfold gX9_reader at hF
  refine lv_aload_n hx hb dX9_reader_0 rfl (lv_at hl 0 rfl) ?_
  refine va_get (D := D) (ci := 9) (v := .int (S0.1 200 2)) (C := RX9) (T := TX9) (N := 19) hx hb hts iX9_reader_9 hown hK hP 0 rfl rfl 12 (by decide) (hts (.fieldLink RX9 104 "FondsRoom" "readerCount" "I") (List.mem_of_getElem? (i := 1) rfl)) (fun _ h9 => h9) rfl dX9_reader_1 ?_
  refine lv_bipush (v := 20) hx hb dX9_reader_4 (by decide) ?_
  refine lv_icmp_ge (tgt := 36) hx hb dX9_reader_6 (by decide) (fun c1 => ?_) (fun c1 => ?_)
  · skip
    have hF := (if_pos c1).symm.trans hF
    refine lv_iconst (v := (-1)) hx hb dX9_reader_36 (by decide) ?_
    obtain ⟨e1, e2⟩ := ret2 hF
    have hP : va_P D vwCl (ZW x cy g Sf ++ va_pl L (pf cy K cf nm Sf)) s.heap := by rw [← e2]; exact hP
    have hD : va_D (va_A (ZW x cy g S0 ++ va_pl L (pf cy K cf nm S0)) s.heap.size) (ZW x cy g Sf ++ va_pl L (pf cy K cf nm Sf)) := by rw [← e2]; exact hD
    have hT : WT L K Sf.2 := by rw [← e2]; exact hT
    exact W.iret (v := (-1)) hx hb hr (fun t ht hW => ⟨⟨(-1), (), rfl, ⟨e1, hT⟩, by rw [ht]; exact hP, va_K.moved hW.alike hK, hD⟩, hS.F ht⟩) hS.2.2 dX9_reader_37
  · skip
    have hF := (if_neg c1).symm.trans hF
    refine lv_iload_n hx hb dX9_reader_9 rfl (lv_at hl 1 rfl) ?_
    refine lv_iconst (v := 1) hx hb dX9_reader_10 (by decide) ?_
    refine lv_sipush (v := 1000) hx hb dX9_reader_11 (by decide) ?_
    obtain ⟨r2, hq5, hF⟩ := bd1_s hF
    refine gsI (As := [.int ar1, .int 1, .int 1000]) (rest := []) ⟨hx, hb, hml, hown, hts⟩ (zX9_isWithin l D x cy g L K cf nm hG hL S0 hT _ ar1 1 1000  r2 hq5) (va_cwS 3 hts gX9_reader_X9_isWithin rfl rfl rfl (by decide +kernel) ⟨Nat.le_of_ble_eq_true rfl, Nat.le_of_ble_eq_true rfl⟩) hK hP hD hS hA rfl hl.1 rfl (Nat.le_of_ble_eq_true rfl) dX9_reader_14 ⟨Nat.le_of_ble_eq_true rfl, Nat.le_of_ble_eq_true rfl⟩ (fun a6 u9 H locs hw4 hP hD hS => ?_)
    have hP : va_P D vwCl (ZW x cy g S0 ++ va_pl L (pf cy K cf nm S0)) H := hP
    have hD : va_D _ (ZW x cy g S0 ++ va_pl L (pf cy K cf nm S0)) := hD
    refine lv_tov (v' := .int r2) (congrArg Value.int hw4.1) ?_
    refine lv_if_eq (tgt := 36) hx hb dX9_reader_17 (by decide) (fun c7 => ?_) (fun c7 => ?_)
    · skip
      have hF := (if_pos c7).symm.trans hF
      refine lv_iconst (v := (-1)) hx hb dX9_reader_36 (by decide) ?_
      obtain ⟨e1, e2⟩ := ret2 hF
      have hP : va_P D vwCl (ZW x cy g Sf ++ va_pl L (pf cy K cf nm Sf)) H := by rw [← e2]; exact hP
      have hD : va_D (va_A (ZW x cy g S0 ++ va_pl L (pf cy K cf nm S0)) s.heap.size) (ZW x cy g Sf ++ va_pl L (pf cy K cf nm Sf)) := by rw [← e2]; exact hD
      have hT : WT L K Sf.2 := by rw [← e2]; exact hT
      exact W.iret (v := (-1)) hx hb hr (fun t ht hW => ⟨⟨(-1), (), rfl, ⟨e1, hT⟩, by rw [ht]; exact hP, va_K.moved hW.alike hK, hD⟩, hS.F ht⟩) hS.2.2 dX9_reader_37
    · skip
      have hF := (if_neg c7).symm.trans hF
      refine lv_iload_n hx hb dX9_reader_20 rfl (lv_at hl 2 rfl) ?_
      refine lv_iconst (v := 0) hx hb dX9_reader_21 (by decide) ?_
      refine lv_iconst (v := 3) hx hb dX9_reader_22 (by decide) ?_
      obtain ⟨r8, hq11, hF⟩ := bd1_s hF
      refine gsI (As := [.int ar2, .int 0, .int 3]) (rest := []) ⟨hx, hb, hml, hown, hts⟩ (zX9_isWithin l D x cy g L K cf nm hG hL S0 hT _ ar2 0 3  r8 hq11) (va_cwS 3 hts gX9_reader_X9_isWithin rfl rfl rfl (by decide +kernel) ⟨Nat.le_of_ble_eq_true rfl, Nat.le_of_ble_eq_true rfl⟩) hK hP hD hS hA rfl hl.1 rfl (Nat.le_of_ble_eq_true rfl) dX9_reader_23 ⟨Nat.le_of_ble_eq_true rfl, Nat.le_of_ble_eq_true rfl⟩ (fun a12 u9 H locs hw10 hP hD hS => ?_)
      have hP : va_P D vwCl (ZW x cy g S0 ++ va_pl L (pf cy K cf nm S0)) H := hP
      have hD : va_D _ (ZW x cy g S0 ++ va_pl L (pf cy K cf nm S0)) := hD
      refine lv_tov (v' := .int r8) (congrArg Value.int hw10.1) ?_
      refine lv_if_eq (tgt := 36) hx hb dX9_reader_26 (by decide) (fun c13 => ?_) (fun c13 => ?_)
      · skip
        have hF := (if_pos c13).symm.trans hF
        refine lv_iconst (v := (-1)) hx hb dX9_reader_36 (by decide) ?_
        obtain ⟨e1, e2⟩ := ret2 hF
        have hP : va_P D vwCl (ZW x cy g Sf ++ va_pl L (pf cy K cf nm Sf)) H := by rw [← e2]; exact hP
        have hD : va_D (va_A (ZW x cy g S0 ++ va_pl L (pf cy K cf nm S0)) s.heap.size) (ZW x cy g Sf ++ va_pl L (pf cy K cf nm Sf)) := by rw [← e2]; exact hD
        have hT : WT L K Sf.2 := by rw [← e2]; exact hT
        exact W.iret (v := (-1)) hx hb hr (fun t ht hW => ⟨⟨(-1), (), rfl, ⟨e1, hT⟩, by rw [ht]; exact hP, va_K.moved hW.alike hK, hD⟩, hS.F ht⟩) hS.2.2 dX9_reader_37
      · skip
        have hF := (if_neg c13).symm.trans hF
        refine lv_aload_n hx hb dX9_reader_29 rfl (lv_at hl 0 rfl) ?_
        obtain ⟨r14, hq17, hF⟩ := bd1_s hF
        refine gvI (As := []) (rest := []) ⟨hx, hb, hml, hown, hts⟩ (zX9_bellHasBeen l D x cy g L K cf nm hG hL S0 hT _   r14 hq17) (cwV 0 hts gX9_reader_X9_bellHasBeen rfl rfl rfl (by decide +kernel) ⟨Nat.le_of_ble_eq_true rfl, Nat.le_of_ble_eq_true rfl⟩) hK hP hD hS hA (va_recv hK hP (ci := 9) (q0 := 0) rfl rfl) rfl hl.1 rfl (Nat.le_of_ble_eq_true rfl) dX9_reader_30 ⟨Nat.le_of_ble_eq_true rfl, Nat.le_of_ble_eq_true rfl⟩ (fun a18 u9 H locs hw16 hP hD hS => ?_)
        have hP : va_P D vwCl (ZW x cy g S0 ++ va_pl L (pf cy K cf nm S0)) H := hP
        have hD : va_D _ (ZW x cy g S0 ++ va_pl L (pf cy K cf nm S0)) := hD
        refine lv_tov (v' := .int r14) (congrArg Value.int hw16.1) ?_
        refine lv_if_eq (tgt := 38) hx hb dX9_reader_33 (by decide) (fun c19 => ?_) (fun c19 => ?_)
        · skip
          have hF := (if_pos c19).symm.trans hF
          refine lv_aload_n hx hb dX9_reader_38 rfl (lv_at hl 0 rfl) ?_
          refine va_get (D := D) (ci := 9) (v := .int (S0.1 200 2)) (C := RX9) (T := TX9) (N := 19) hx hb hts iX9_reader_9 hown hK hP 0 rfl rfl 12 (by decide) (hts (.fieldLink RX9 104 "FondsRoom" "readerCount" "I") (List.mem_of_getElem? (i := 1) rfl)) (fun _ h9 => h9) rfl dX9_reader_39 ?_
          refine lv_istore (lv' := [(4, .int (S0.1 200 2)), (0, .ref (x 0)), (1, .int ar1), (2, .int ar2), (3, .int ar3)]) hx hb dX9_reader_42 hl (by decide) rfl (fun ls hl => ?_)
          refine lv_aload_n hx hb dX9_reader_44 rfl (lv_at hl 1 rfl) ?_
          refine va_get (D := D) (ci := 9) (v := .ref (x 3)) (C := RX9) (T := TX9) (N := 19) hx hb hts iX9_reader_9 hown hK hP 0 rfl rfl 2 (by decide) (hts (.fieldLink RX9 27 "FondsRoom" "readers" "[LFondsRoom$Reader;") (List.mem_of_getElem? (i := 2) rfl)) (fun _ h9 => h9) rfl dX9_reader_45 ?_
          refine lv_iload hx hb dX9_reader_48 (lv_at hl 0 rfl) ?_
          obtain ⟨hi20, b21, eb21, hF⟩ := ga_s hF
          refine va_aldq hx hb hK hP 3 4 rfl rfl hi20 dX9_reader_50 ?_
          refine lv_tov (v' := .ref b21) (by rw [eb21]; rfl) ?_
          have mb21 := GO_2 hG hi20 eb21
          refine lv_astore (lv' := [(5, .ref b21), (4, .int (S0.1 200 2)), (0, .ref (x 0)), (1, .int ar1), (2, .int ar2), (3, .int ar3)]) hx hb dX9_reader_51 hl (by decide) rfl (fun ls hl => ?_)
          refine lv_aload hx hb dX9_reader_53 (lv_at hl 0 rfl) ?_
          refine lv_iload_n hx hb dX9_reader_55 rfl (lv_at hl 3 rfl) ?_
          refine pg_put (D := D) (ci := 6) (v := .int ar1) (ty := .int) (C := RX6) (T := TX6) (N := 17) hx hb hts iX9_reader_6 tyX6 tyX6_ok nmX6 hown hK hP hD hS mb21.1 (pf_6 mb21.2) rfl 2 (by decide) (hts (.fieldLink RX9 111 "FondsRoom$Reader" "arrival" "I") (List.mem_of_getElem? (i := 3) rfl)) (fun _ h9 => h9) rfl (by decide +kernel) rfl rfl (Nat.le_of_ble_eq_true rfl) dX9_reader_56 (fun H locs hP hD hS => ?_)
          obtain ⟨S22, eS22⟩ : ∃ z, z = wi S0 122 b21 ar1 := ⟨_, rfl⟩
          replace hF := bnd_s hF S22 eS22
          have hP : va_P D vwCl (ZW x cy g S22 ++ va_pl L (pf cy K cf nm S22)) H := by rw [eS22]; rw [← pu_6_2 mb21.2]; exact hP
          have hD : va_D (va_A (ZW x cy g S0 ++ va_pl L (pf cy K cf nm S0)) s.heap.size) (ZW x cy g S22 ++ va_pl L (pf cy K cf nm S22)) := by rw [eS22]; rw [← pu_6_2 mb21.2]; exact hD
          have hT : WT L K S22.2 := by rw [eS22]; exact hT
          refine lv_aload hx hb dX9_reader_59 (lv_at hl 0 rfl) ?_
          refine lv_iload_n hx hb dX9_reader_61 rfl (lv_at hl 4 rfl) ?_
          refine pg_put (D := D) (ci := 6) (v := .int ar2) (ty := .int) (C := RX6) (T := TX6) (N := 17) hx hb hts iX9_reader_6 tyX6 tyX6_ok nmX6 hown hK hP hD hS mb21.1 (pf_6 mb21.2) rfl 3 (by decide) (hts (.fieldLink RX9 114 "FondsRoom$Reader" "rank" "I") (List.mem_of_getElem? (i := 4) rfl)) (fun _ h9 => h9) rfl (by decide +kernel) rfl rfl (Nat.le_of_ble_eq_true rfl) dX9_reader_62 (fun H locs hP hD hS => ?_)
          obtain ⟨S23, eS23⟩ : ∃ z, z = wi S22 123 b21 ar2 := ⟨_, rfl⟩
          replace hF := bnd_s hF S23 eS23
          have hP : va_P D vwCl (ZW x cy g S23 ++ va_pl L (pf cy K cf nm S23)) H := by rw [eS23]; rw [← pu_6_3 mb21.2]; exact hP
          have hD : va_D (va_A (ZW x cy g S0 ++ va_pl L (pf cy K cf nm S0)) s.heap.size) (ZW x cy g S23 ++ va_pl L (pf cy K cf nm S23)) := by rw [eS23]; rw [← pu_6_3 mb21.2]; exact hD
          have hT : WT L K S23.2 := by rw [eS23]; exact hT
          refine lv_aload hx hb dX9_reader_65 (lv_at hl 0 rfl) ?_
          refine lv_iload_n hx hb dX9_reader_67 rfl (lv_at hl 5 rfl) ?_
          obtain ⟨hz68, hF⟩ := ck_s hF
          refine pg_put (D := D) (ci := 6) (v := .int ar3) (ty := .boolean) (C := RX6) (T := TX6) (N := 17) hx hb hts iX9_reader_6 tyX6 tyX6_ok nmX6 hown hK hP hD hS mb21.1 (pf_6 mb21.2) rfl 4 (by decide) (hts (.fieldLink RX9 117 "FondsRoom$Reader" "needsWatched" "Z") (List.mem_of_getElem? (i := 5) rfl)) (fun _ h9 => h9) rfl (by decide +kernel) (nz01 hz68).1 (nz01 hz68).2 (Nat.le_of_ble_eq_true rfl) dX9_reader_68 (fun H locs hP hD hS => ?_)
          obtain ⟨S24, eS24⟩ : ∃ z, z = wi S23 124 b21 ar3 := ⟨_, rfl⟩
          replace hF := bnd_s hF S24 eS24
          have hP : va_P D vwCl (ZW x cy g S24 ++ va_pl L (pf cy K cf nm S24)) H := by rw [eS24]; rw [← pu_6_4 mb21.2]; exact hP
          have hD : va_D (va_A (ZW x cy g S0 ++ va_pl L (pf cy K cf nm S0)) s.heap.size) (ZW x cy g S24 ++ va_pl L (pf cy K cf nm S24)) := by rw [eS24]; rw [← pu_6_4 mb21.2]; exact hD
          have hT : WT L K S24.2 := by rw [eS24]; exact hT
          refine lv_aload_n hx hb dX9_reader_71 rfl (lv_at hl 2 rfl) ?_
          refine lv_iload hx hb dX9_reader_72 (lv_at hl 1 rfl) ?_
          refine lv_iconst (v := 1) hx hb dX9_reader_74 (by decide) ?_
          refine lv_iadd hx hb dX9_reader_75 ?_
          refine va_put (D := D) (ci := 9) (v := .int ((S0.1 200 2) + 1)) (ty := .int) (C := RX9) (T := TX9) (N := 19) hx hb hts iX9_reader_9 tyX9 tyX9_ok nmX9 hown hK hP hD hS 0 rfl rfl 12 (by decide) (hts (.fieldLink RX9 104 "FondsRoom" "readerCount" "I") (List.mem_of_getElem? (i := 1) rfl)) (fun _ h9 => h9) rfl (by decide +kernel) rfl rfl (Nat.le_of_ble_eq_true rfl) dX9_reader_76 (fun H locs hP hD hS => ?_)
          obtain ⟨S25, eS25⟩ : ∃ z, z = wi S24 200 2 ((S0.1 200 2) + 1) := ⟨_, rfl⟩
          replace hF := bnd_s hF S25 eS25
          have hP : va_P D vwCl (ZW x cy g S25 ++ va_pl L (pf cy K cf nm S25)) H := by rw [eS25]; rw [show pf cy K cf nm (wi S24 200 2 ((S0.1 200 2) + 1)) = pf cy K cf nm S24 from pf_200]; exact hP
          have hD : va_D (va_A (ZW x cy g S0 ++ va_pl L (pf cy K cf nm S0)) s.heap.size) (ZW x cy g S25 ++ va_pl L (pf cy K cf nm S25)) := by rw [eS25]; rw [show pf cy K cf nm (wi S24 200 2 ((S0.1 200 2) + 1)) = pf cy K cf nm S24 from pf_200]; exact hD
          have hT : WT L K S25.2 := by rw [eS25]; exact hT
          refine lv_iload hx hb dX9_reader_79 (lv_at hl 1 rfl) ?_
          obtain ⟨e1, e2⟩ := ret2 hF
          have hP : va_P D vwCl (ZW x cy g Sf ++ va_pl L (pf cy K cf nm Sf)) H := by rw [← e2]; exact hP
          have hD : va_D (va_A (ZW x cy g S0 ++ va_pl L (pf cy K cf nm S0)) s.heap.size) (ZW x cy g Sf ++ va_pl L (pf cy K cf nm Sf)) := by rw [← e2]; exact hD
          have hT : WT L K Sf.2 := by rw [← e2]; exact hT
          exact W.iret (v := (S0.1 200 2)) hx hb hr (fun t ht hW => ⟨⟨(S0.1 200 2), (), rfl, ⟨e1, hT⟩, by rw [ht]; exact hP, va_K.moved hW.alike hK, hD⟩, hS.F ht⟩) hS.2.2 dX9_reader_81
        · skip
          have hF := (if_neg c19).symm.trans hF
          refine lv_iconst (v := (-1)) hx hb dX9_reader_36 (by decide) ?_
          obtain ⟨e1, e2⟩ := ret2 hF
          have hP : va_P D vwCl (ZW x cy g Sf ++ va_pl L (pf cy K cf nm Sf)) H := by rw [← e2]; exact hP
          have hD : va_D (va_A (ZW x cy g S0 ++ va_pl L (pf cy K cf nm S0)) s.heap.size) (ZW x cy g Sf ++ va_pl L (pf cy K cf nm Sf)) := by rw [← e2]; exact hD
          have hT : WT L K Sf.2 := by rw [← e2]; exact hT
          exact W.iret (v := (-1)) hx hb hr (fun t ht hW => ⟨⟨(-1), (), rfl, ⟨e1, hT⟩, by rw [ht]; exact hP, va_K.moved hW.alike hK, hD⟩, hS.F ht⟩) hS.2.2 dX9_reader_37

theorem iX9_addStep_6 : ∀ w ∈ wsX60, w ∈ wsX9_addStep := fun _ h => List.mem_cons_of_mem _ (List.mem_append_left _ (List.mem_append_right _ h))
theorem iX9_addStep_9 : ∀ w ∈ wsX90, w ∈ wsX9_addStep := fun _ h => List.mem_cons_of_mem _ (List.mem_append_left _ (List.mem_append_left _ (List.mem_append_right _ h)))
set_option maxHeartbeats 8000000 in
set_option maxRecDepth 100000 in
theorem zX9_addStep (l : Launch) (D : va_G) (x : Nat → Nat) (cy : Nat → ClassId) (g : Nat → Nat → Option Nat) (L : List Nat) (K : Nat → Nat) (cf : Nat → Nat → Nat) (nm : Nat → Int32) (hG : GO L K g) (hL : PL L K cf) (S0 : CS) (hT : WT L K S0.2) (sz : Nat) (ar1 : Int32) (ar2 : Int32) (ar3 : Int32) (ar4 : Int32) (ar5 : Int32)  (rv : Int32) (Sf : CS) (hF : gX9_addStep g cf nm S0 ar1 ar2 ar3 ar4 ar5 = some (rv, Sf)) : Met l yX9_addStep wsX9_addStep ({ frames := 1, cells := 0, slots := 0, locals := 24 }) (PW D (TYS cy) (ZW x cy g S0 ++ va_pl L (pf cy K cf nm S0)) sz [.ref (x 0), .int ar1, .int ar2, .int ar3, .int ar4, .int ar5]) (va_Qi (fun (res : Int32) (u : Unit) => (res = rv ∧ b01 rv) ∧ WT L K Sf.2) (BU D (TYS cy) (ZW x cy g S0 ++ va_pl L (pf cy K cf nm S0)) (fun _ => ZW x cy g Sf ++ va_pl L (pf cy K cf nm Sf)) sz) (va_A (ZW x cy g S0 ++ va_pl L (pf cy K cf nm S0)) sz)) 0 0 (va_A (ZW x cy g S0 ++ va_pl L (pf cy K cf nm S0)) sz) := by
  refine Met.ofW (cc := cX9_addStep) (maxL := 6) (ret := (some .boolean)) (by decide) rfl ?_
  intro p e s m args below meth c s₁ B hml hv
  obtain ⟨rfl, hsz, hP, hK, hD0⟩ := hv
  have hx := B.exec
  have hb := B.bytes
  have hr := B.returns
  have hts := atoms_spec (ws := wsX9_addStep) B.pre
  have hown : s.vm.findClass RX9 = some m.cls := findClass_of_methodNamed B.named
  have hlocks := B.notSynchronized
  subst hsz
  have hD := hD0.self (sz := s.heap.size)
  have hA : ∀ q9 : Nat, s.heap.size ≤ q9 → va_A (ZW x cy g S0 ++ va_pl L (pf cy K cf nm S0)) s.heap.size q9 := fun q9 h => Or.inr h
  have hS : va_S (va_A (ZW x cy g S0 ++ va_pl L (pf cy K cf nm S0)) s.heap.size) s.heap s.heap [] := va_S.rf
  have hl := lv_entry ([.ref (x 0), .int ar1, .int ar2, .int ar3, .int ar4, .int ar5]) (n := 6) (Nat.le_of_ble_eq_true rfl)
  rw [lg_entry_eq]
  generalize (lg_sl ([.ref (x 0), .int ar1, .int ar2, .int ar3, .int ar4, .int ar5]) ++ List.replicate (6 - (lg_sl ([.ref (x 0), .int ar1, .int ar2, .int ar3, .int ar4, .int ar5])).length) Slot.unset).toArray = ls at hl ⊢
  have hl : lv_has ls 6 [(0, .ref (x 0)), (1, .int ar1), (2, .int ar2), (3, .int ar3), (4, .int ar4), (5, .int ar5)] := hl
  unfold gX9_addStep at hF
  refine lv_aload_n hx hb dX9_addStep_0 rfl (lv_at hl 0 rfl) ?_
  refine lv_iload_n hx hb dX9_addStep_1 rfl (lv_at hl 1 rfl) ?_
  obtain ⟨r1, hq4, hF⟩ := bd1_s hF
  refine gvI (As := [.int ar1]) (rest := []) ⟨hx, hb, hml, hown, hts⟩ (zX9_isReader l D x cy g L K cf nm hG hL S0 hT _ ar1  r1 hq4) (cwV 1 hts gX9_addStep_X9_isReader rfl rfl rfl (by decide +kernel) ⟨Nat.le_of_ble_eq_true rfl, Nat.le_of_ble_eq_true rfl⟩) hK hP hD hS hA (va_recv hK hP (ci := 9) (q0 := 0) rfl rfl) rfl hl.1 rfl (Nat.le_of_ble_eq_true rfl) dX9_addStep_2 ⟨Nat.le_of_ble_eq_true rfl, Nat.le_of_ble_eq_true rfl⟩ (fun a5 u9 H locs hw3 hP hD hS => ?_)
  have hP : va_P D vwCl (ZW x cy g S0 ++ va_pl L (pf cy K cf nm S0)) H := hP
  have hD : va_D _ (ZW x cy g S0 ++ va_pl L (pf cy K cf nm S0)) := hD
  refine lv_tov (v' := .int r1) (congrArg Value.int hw3.1) ?_
  refine lv_if_eq (tgt := 20) hx hb dX9_addStep_5 (by decide) (fun c6 => ?_) (fun c6 => ?_)
  · skip
    have hF := (if_pos c6).symm.trans hF
    refine lv_iconst (v := 0) hx hb dX9_addStep_20 (by decide) ?_
    obtain ⟨e1, e2⟩ := ret2 hF
    have hP : va_P D vwCl (ZW x cy g Sf ++ va_pl L (pf cy K cf nm Sf)) H := by rw [← e2]; exact hP
    have hD : va_D (va_A (ZW x cy g S0 ++ va_pl L (pf cy K cf nm S0)) s.heap.size) (ZW x cy g Sf ++ va_pl L (pf cy K cf nm Sf)) := by rw [← e2]; exact hD
    have hT : WT L K Sf.2 := by rw [← e2]; exact hT
    exact W.zret (v := 0) hx hb hr (nz01 (Or.inl rfl)).1 (fun t ht hW => ⟨⟨0, (), rfl, ⟨⟨e1, by rw [← e1]; exact Or.inl rfl⟩, hT⟩, by rw [ht]; exact hP, va_K.moved hW.alike hK, hD⟩, hS.F ht⟩) hS.2.2 dX9_addStep_21
  · skip
    have hF := (if_neg c6).symm.trans hF
    refine lv_aload_n hx hb dX9_addStep_8 rfl (lv_at hl 0 rfl) ?_
    refine va_get (D := D) (ci := 9) (v := .ref (x 3)) (C := RX9) (T := TX9) (N := 19) hx hb hts iX9_addStep_9 hown hK hP 0 rfl rfl 2 (by decide) (hts (.fieldLink RX9 27 "FondsRoom" "readers" "[LFondsRoom$Reader;") (List.mem_of_getElem? (i := 1) rfl)) (fun _ h9 => h9) rfl dX9_addStep_9 ?_
    refine lv_iload_n hx hb dX9_addStep_12 rfl (lv_at hl 1 rfl) ?_
    obtain ⟨hi7, b8, eb8, hF⟩ := ga_s hF
    refine va_aldq hx hb hK hP 3 4 rfl rfl hi7 dX9_addStep_13 ?_
    refine lv_tov (v' := .ref b8) (by rw [eb8]; rfl) ?_
    have mb8 := GO_2 hG hi7 eb8
    obtain ⟨r9, hq12, hF⟩ := bd1_s hF
    refine gsI (As := [.ref b8]) (rest := []) ⟨hx, hb, hml, hown, hts⟩ (zX9_isAway l D x cy g L K cf nm hG hL S0 hT _ b8 ⟨mb8.1, mb8.2⟩ r9 hq12) (va_cwS 1 hts gX9_addStep_X9_isAway rfl rfl rfl (by decide +kernel) ⟨Nat.le_of_ble_eq_true rfl, Nat.le_of_ble_eq_true rfl⟩) hK hP hD hS hA rfl hl.1 rfl (Nat.le_of_ble_eq_true rfl) dX9_addStep_14 ⟨Nat.le_of_ble_eq_true rfl, Nat.le_of_ble_eq_true rfl⟩ (fun a13 u9 H locs hw11 hP hD hS => ?_)
    have hP : va_P D vwCl (ZW x cy g S0 ++ va_pl L (pf cy K cf nm S0)) H := hP
    have hD : va_D _ (ZW x cy g S0 ++ va_pl L (pf cy K cf nm S0)) := hD
    refine lv_tov (v' := .int r9) (congrArg Value.int hw11.1) ?_
    refine lv_if_eq (tgt := 22) hx hb dX9_addStep_17 (by decide) (fun c14 => ?_) (fun c14 => ?_)
    · skip
      have hF := (if_pos c14).symm.trans hF
      refine lv_aload_n hx hb dX9_addStep_22 rfl (lv_at hl 0 rfl) ?_
      refine va_get (D := D) (ci := 9) (v := .ref (x 3)) (C := RX9) (T := TX9) (N := 19) hx hb hts iX9_addStep_9 hown hK hP 0 rfl rfl 2 (by decide) (hts (.fieldLink RX9 27 "FondsRoom" "readers" "[LFondsRoom$Reader;") (List.mem_of_getElem? (i := 1) rfl)) (fun _ h9 => h9) rfl dX9_addStep_23 ?_
      refine lv_iload_n hx hb dX9_addStep_26 rfl (lv_at hl 1 rfl) ?_
      obtain ⟨hi15, b16, eb16, hF⟩ := ga_s hF
      refine va_aldq hx hb hK hP 3 4 rfl rfl hi15 dX9_addStep_27 ?_
      refine lv_tov (v' := .ref b16) (by rw [eb16]; rfl) ?_
      have mb16 := GO_2 hG hi15 eb16
      refine pg_get (D := D) (ci := 6) (v := .ref (cf 0 b16)) (C := RX6) (T := TX6) (N := 17) hx hb hts iX9_addStep_6 hown hK hP mb16.1 (pf_6 mb16.2) rfl 1 (by decide) (hts (.fieldLink RX9 135 "FondsRoom$Reader" "plan" "LFondsRoom$Plan;") (List.mem_of_getElem? (i := 2) rfl)) (fun _ h9 => h9) rfl dX9_addStep_28 ?_
      obtain ⟨p17, ep17⟩ : ∃ z, z = cf 0 b16 := ⟨_, rfl⟩
      replace hF := bnd_s hF p17 ep17
      have mp17 : p17 ∈ L ∧ K p17 = 5 := by rw [ep17]; exact (hL _ mb16.1).2.1 mb16.2
      refine lv_tov (v' := .ref p17) (by rw [ep17]) ?_
      refine lv_iload_n hx hb dX9_addStep_31 rfl (lv_at hl 2 rfl) ?_
      refine lv_iload_n hx hb dX9_addStep_32 rfl (lv_at hl 3 rfl) ?_
      refine lv_iload hx hb dX9_addStep_33 (lv_at hl 4 rfl) ?_
      refine lv_iload hx hb dX9_addStep_35 (lv_at hl 5 rfl) ?_
      obtain ⟨r18, S19, hq21, hF⟩ := bd2_s hF
      refine gvI (As := [.int ar2, .int ar3, .int ar4, .int ar5]) (rest := []) ⟨hx, hb, hml, hown, hts⟩ (zX5_append l D x cy g L K cf nm hG hL S0 hT _ p17 ar2 ar3 ar4 ar5 ⟨mp17.1, mp17.2⟩ r18 S19 hq21) (cwV 4 hts gX9_addStep_X5_append rfl rfl rfl (by decide +kernel) ⟨Nat.le_of_ble_eq_true rfl, Nat.le_of_ble_eq_true rfl⟩) hK hP hD hS hA (pl_recv hK hP (ci := 5) rfl mp17.1 (pf_5 mp17.2)) rfl hl.1 rfl (Nat.le_of_ble_eq_true rfl) dX9_addStep_37 ⟨Nat.le_of_ble_eq_true rfl, Nat.le_of_ble_eq_true rfl⟩ (fun a22 u9 H locs hw20 hP hD hS => ?_)
      have hT : WT L K S19.2 := hw20.2
      have hP : va_P D vwCl (ZW x cy g S19 ++ va_pl L (pf cy K cf nm S19)) H := hP
      have hD : va_D _ (ZW x cy g S19 ++ va_pl L (pf cy K cf nm S19)) := hD
      refine lv_tov (v' := .int r18) (congrArg Value.int hw20.1.1) ?_
      obtain ⟨e1, e2⟩ := ret2 hF
      have hP : va_P D vwCl (ZW x cy g Sf ++ va_pl L (pf cy K cf nm Sf)) H := by rw [← e2]; exact hP
      have hD : va_D (va_A (ZW x cy g S0 ++ va_pl L (pf cy K cf nm S0)) s.heap.size) (ZW x cy g Sf ++ va_pl L (pf cy K cf nm Sf)) := by rw [← e2]; exact hD
      have hT : WT L K Sf.2 := by rw [← e2]; exact hT
      exact W.zret (v := r18) hx hb hr (nz01 (hw20.1.2)).1 (fun t ht hW => ⟨⟨r18, (), rfl, ⟨⟨e1, by rw [← e1]; exact hw20.1.2⟩, hT⟩, by rw [ht]; exact hP, va_K.moved hW.alike hK, hD⟩, hS.F ht⟩) hS.2.2 dX9_addStep_40
    · skip
      have hF := (if_neg c14).symm.trans hF
      refine lv_iconst (v := 0) hx hb dX9_addStep_20 (by decide) ?_
      obtain ⟨e1, e2⟩ := ret2 hF
      have hP : va_P D vwCl (ZW x cy g Sf ++ va_pl L (pf cy K cf nm Sf)) H := by rw [← e2]; exact hP
      have hD : va_D (va_A (ZW x cy g S0 ++ va_pl L (pf cy K cf nm S0)) s.heap.size) (ZW x cy g Sf ++ va_pl L (pf cy K cf nm Sf)) := by rw [← e2]; exact hD
      have hT : WT L K Sf.2 := by rw [← e2]; exact hT
      exact W.zret (v := 0) hx hb hr (nz01 (Or.inl rfl)).1 (fun t ht hW => ⟨⟨0, (), rfl, ⟨⟨e1, by rw [← e1]; exact Or.inl rfl⟩, hT⟩, by rw [ht]; exact hP, va_K.moved hW.alike hK, hD⟩, hS.F ht⟩) hS.2.2 dX9_addStep_21

set_option maxHeartbeats 8000000 in
set_option maxRecDepth 100000 in
theorem zX9_ask (l : Launch) (D : va_G) (x : Nat → Nat) (cy : Nat → ClassId) (g : Nat → Nat → Option Nat) (L : List Nat) (K : Nat → Nat) (cf : Nat → Nat → Nat) (nm : Nat → Int32) (hG : GO L K g) (hL : PL L K cf) (S0 : CS) (hT : WT L K S0.2) (sz : Nat) (ar1 : Int32) (ar2 : Int32)  (rv : Int32) (Sf : CS) (hF : gX9_ask g cf nm S0 ar1 ar2 = some (rv, Sf)) : Met l yX9_ask wsX9_ask ({ frames := 2, cells := 0, slots := 0, locals := 49 }) (PW D (TYS cy) (ZW x cy g S0 ++ va_pl L (pf cy K cf nm S0)) sz [.ref (x 0), .int ar1, .int ar2]) (va_Qi (fun (res : Int32) (u : Unit) => (res = rv ∧ b01 rv) ∧ WT L K Sf.2) (BU D (TYS cy) (ZW x cy g S0 ++ va_pl L (pf cy K cf nm S0)) (fun _ => ZW x cy g Sf ++ va_pl L (pf cy K cf nm Sf)) sz) (va_A (ZW x cy g S0 ++ va_pl L (pf cy K cf nm S0)) sz)) 0 0 (va_A (ZW x cy g S0 ++ va_pl L (pf cy K cf nm S0)) sz) := by
  refine Met.ofW (cc := cX9_ask) (maxL := 3) (ret := (some .boolean)) (by decide) rfl ?_
  intro p e s m args below meth c s₁ B hml hv
  obtain ⟨rfl, hsz, hP, hK, hD0⟩ := hv
  have hx := B.exec
  have hb := B.bytes
  have hr := B.returns
  have hts := atoms_spec (ws := wsX9_ask) B.pre
  have hown : s.vm.findClass RX9 = some m.cls := findClass_of_methodNamed B.named
  have hlocks := B.notSynchronized
  subst hsz
  have hD := hD0.self (sz := s.heap.size)
  have hA : ∀ q9 : Nat, s.heap.size ≤ q9 → va_A (ZW x cy g S0 ++ va_pl L (pf cy K cf nm S0)) s.heap.size q9 := fun q9 h => Or.inr h
  have hS : va_S (va_A (ZW x cy g S0 ++ va_pl L (pf cy K cf nm S0)) s.heap.size) s.heap s.heap [] := va_S.rf
  have hl := lv_entry ([.ref (x 0), .int ar1, .int ar2]) (n := 3) (Nat.le_of_ble_eq_true rfl)
  rw [lg_entry_eq]
  generalize (lg_sl ([.ref (x 0), .int ar1, .int ar2]) ++ List.replicate (3 - (lg_sl ([.ref (x 0), .int ar1, .int ar2])).length) Slot.unset).toArray = ls at hl ⊢
  have hl : lv_has ls 3 [(0, .ref (x 0)), (1, .int ar1), (2, .int ar2)] := hl
  unfold gX9_ask at hF
  refine lv_aload_n hx hb dX9_ask_0 rfl (lv_at hl 0 rfl) ?_
  refine lv_iload_n hx hb dX9_ask_1 rfl (lv_at hl 2 rfl) ?_
  obtain ⟨r1, hq4, hF⟩ := bd1_s hF
  refine gvI (As := [.int ar2]) (rest := []) ⟨hx, hb, hml, hown, hts⟩ (zX9_isBox l D x cy g L K cf nm hG hL S0 hT _ ar2  r1 hq4) (cwV 1 hts gX9_ask_X9_isBox rfl rfl rfl (by decide +kernel) ⟨Nat.le_of_ble_eq_true rfl, Nat.le_of_ble_eq_true rfl⟩) hK hP hD hS hA (va_recv hK hP (ci := 9) (q0 := 0) rfl rfl) rfl hl.1 rfl (Nat.le_of_ble_eq_true rfl) dX9_ask_2 ⟨Nat.le_of_ble_eq_true rfl, Nat.le_of_ble_eq_true rfl⟩ (fun a5 u9 H locs hw3 hP hD hS => ?_)
  have hP : va_P D vwCl (ZW x cy g S0 ++ va_pl L (pf cy K cf nm S0)) H := hP
  have hD : va_D _ (ZW x cy g S0 ++ va_pl L (pf cy K cf nm S0)) := hD
  refine lv_tov (v' := .int r1) (congrArg Value.int hw3.1) ?_
  refine lv_if_eq (tgt := 24) hx hb dX9_ask_5 (by decide) (fun c6 => ?_) (fun c6 => ?_)
  · skip
    have hF := (if_pos c6).symm.trans hF
    refine lv_iconst (v := 0) hx hb dX9_ask_24 (by decide) ?_
    obtain ⟨e1, e2⟩ := ret2 hF
    have hP : va_P D vwCl (ZW x cy g Sf ++ va_pl L (pf cy K cf nm Sf)) H := by rw [← e2]; exact hP
    have hD : va_D (va_A (ZW x cy g S0 ++ va_pl L (pf cy K cf nm S0)) s.heap.size) (ZW x cy g Sf ++ va_pl L (pf cy K cf nm Sf)) := by rw [← e2]; exact hD
    have hT : WT L K Sf.2 := by rw [← e2]; exact hT
    exact W.zret (v := 0) hx hb hr (nz01 (Or.inl rfl)).1 (fun t ht hW => ⟨⟨0, (), rfl, ⟨⟨e1, by rw [← e1]; exact Or.inl rfl⟩, hT⟩, by rw [ht]; exact hP, va_K.moved hW.alike hK, hD⟩, hS.F ht⟩) hS.2.2 dX9_ask_25
  · skip
    have hF := (if_neg c6).symm.trans hF
    refine lv_aload_n hx hb dX9_ask_8 rfl (lv_at hl 0 rfl) ?_
    refine lv_iload_n hx hb dX9_ask_9 rfl (lv_at hl 1 rfl) ?_
    refine lv_iconst (v := 0) hx hb dX9_ask_10 (by decide) ?_
    refine lv_iload_n hx hb dX9_ask_11 rfl (lv_at hl 2 rfl) ?_
    refine lv_iconst (v := 0) hx hb dX9_ask_12 (by decide) ?_
    refine lv_iconst (v := 0) hx hb dX9_ask_13 (by decide) ?_
    obtain ⟨r7, S8, hq10, hF⟩ := bd2_s hF
    refine gvI (As := [.int ar1, .int 0, .int ar2, .int 0, .int 0]) (rest := []) ⟨hx, hb, hml, hown, hts⟩ (zX9_addStep l D x cy g L K cf nm hG hL S0 hT _ ar1 0 ar2 0 0  r7 S8 hq10) (cwV 5 hts gX9_ask_X9_addStep rfl rfl rfl (by decide +kernel) ⟨Nat.le_of_ble_eq_true rfl, Nat.le_of_ble_eq_true rfl⟩) hK hP hD hS hA (va_recv hK hP (ci := 9) (q0 := 0) rfl rfl) rfl hl.1 rfl (Nat.le_of_ble_eq_true rfl) dX9_ask_14 ⟨Nat.le_of_ble_eq_true rfl, Nat.le_of_ble_eq_true rfl⟩ (fun a11 u9 H locs hw9 hP hD hS => ?_)
    have hT : WT L K S8.2 := hw9.2
    have hP : va_P D vwCl (ZW x cy g S8 ++ va_pl L (pf cy K cf nm S8)) H := hP
    have hD : va_D _ (ZW x cy g S8 ++ va_pl L (pf cy K cf nm S8)) := hD
    refine lv_tov (v' := .int r7) (congrArg Value.int hw9.1.1) ?_
    refine lv_if_eq (tgt := 24) hx hb dX9_ask_17 (by decide) (fun c12 => ?_) (fun c12 => ?_)
    · skip
      have hF := (if_pos c12).symm.trans hF
      refine lv_iconst (v := 0) hx hb dX9_ask_24 (by decide) ?_
      obtain ⟨e1, e2⟩ := ret2 hF
      have hP : va_P D vwCl (ZW x cy g Sf ++ va_pl L (pf cy K cf nm Sf)) H := by rw [← e2]; exact hP
      have hD : va_D (va_A (ZW x cy g S0 ++ va_pl L (pf cy K cf nm S0)) s.heap.size) (ZW x cy g Sf ++ va_pl L (pf cy K cf nm Sf)) := by rw [← e2]; exact hD
      have hT : WT L K Sf.2 := by rw [← e2]; exact hT
      exact W.zret (v := 0) hx hb hr (nz01 (Or.inl rfl)).1 (fun t ht hW => ⟨⟨0, (), rfl, ⟨⟨e1, by rw [← e1]; exact Or.inl rfl⟩, hT⟩, by rw [ht]; exact hP, va_K.moved hW.alike hK, hD⟩, hS.F ht⟩) hS.2.2 dX9_ask_25
    · skip
      have hF := (if_neg c12).symm.trans hF
      refine lv_iconst (v := 1) hx hb dX9_ask_20 (by decide) ?_
      refine lv_goto (tgt := 25) hx hb dX9_ask_21 (by decide) ?_
      obtain ⟨e1, e2⟩ := ret2 hF
      have hP : va_P D vwCl (ZW x cy g Sf ++ va_pl L (pf cy K cf nm Sf)) H := by rw [← e2]; exact hP
      have hD : va_D (va_A (ZW x cy g S0 ++ va_pl L (pf cy K cf nm S0)) s.heap.size) (ZW x cy g Sf ++ va_pl L (pf cy K cf nm Sf)) := by rw [← e2]; exact hD
      have hT : WT L K Sf.2 := by rw [← e2]; exact hT
      exact W.zret (v := 1) hx hb hr (nz01 (Or.inr rfl)).1 (fun t ht hW => ⟨⟨1, (), rfl, ⟨⟨e1, by rw [← e1]; exact Or.inr rfl⟩, hT⟩, by rw [ht]; exact hP, va_K.moved hW.alike hK, hD⟩, hS.F ht⟩) hS.2.2 dX9_ask_25

set_option maxHeartbeats 8000000 in
set_option maxRecDepth 100000 in
theorem zX9_read (l : Launch) (D : va_G) (x : Nat → Nat) (cy : Nat → ClassId) (g : Nat → Nat → Option Nat) (L : List Nat) (K : Nat → Nat) (cf : Nat → Nat → Nat) (nm : Nat → Int32) (hG : GO L K g) (hL : PL L K cf) (S0 : CS) (hT : WT L K S0.2) (sz : Nat) (ar1 : Int32) (ar2 : Int32)  (rv : Int32) (Sf : CS) (hF : gX9_read g cf nm S0 ar1 ar2 = some (rv, Sf)) : Met l yX9_read wsX9_read ({ frames := 2, cells := 0, slots := 0, locals := 49 }) (PW D (TYS cy) (ZW x cy g S0 ++ va_pl L (pf cy K cf nm S0)) sz [.ref (x 0), .int ar1, .int ar2]) (va_Qi (fun (res : Int32) (u : Unit) => (res = rv ∧ b01 rv) ∧ WT L K Sf.2) (BU D (TYS cy) (ZW x cy g S0 ++ va_pl L (pf cy K cf nm S0)) (fun _ => ZW x cy g Sf ++ va_pl L (pf cy K cf nm Sf)) sz) (va_A (ZW x cy g S0 ++ va_pl L (pf cy K cf nm S0)) sz)) 0 0 (va_A (ZW x cy g S0 ++ va_pl L (pf cy K cf nm S0)) sz) := by
  refine Met.ofW (cc := cX9_read) (maxL := 3) (ret := (some .boolean)) (by decide) rfl ?_
  intro p e s m args below meth c s₁ B hml hv
  obtain ⟨rfl, hsz, hP, hK, hD0⟩ := hv
  have hx := B.exec
  have hb := B.bytes
  have hr := B.returns
  have hts := atoms_spec (ws := wsX9_read) B.pre
  have hown : s.vm.findClass RX9 = some m.cls := findClass_of_methodNamed B.named
  have hlocks := B.notSynchronized
  subst hsz
  have hD := hD0.self (sz := s.heap.size)
  have hA : ∀ q9 : Nat, s.heap.size ≤ q9 → va_A (ZW x cy g S0 ++ va_pl L (pf cy K cf nm S0)) s.heap.size q9 := fun q9 h => Or.inr h
  have hS : va_S (va_A (ZW x cy g S0 ++ va_pl L (pf cy K cf nm S0)) s.heap.size) s.heap s.heap [] := va_S.rf
  have hl := lv_entry ([.ref (x 0), .int ar1, .int ar2]) (n := 3) (Nat.le_of_ble_eq_true rfl)
  rw [lg_entry_eq]
  generalize (lg_sl ([.ref (x 0), .int ar1, .int ar2]) ++ List.replicate (3 - (lg_sl ([.ref (x 0), .int ar1, .int ar2])).length) Slot.unset).toArray = ls at hl ⊢
  have hl : lv_has ls 3 [(0, .ref (x 0)), (1, .int ar1), (2, .int ar2)] := hl
  unfold gX9_read at hF
  refine lv_iload_n hx hb dX9_read_0 rfl (lv_at hl 2 rfl) ?_
  refine lv_iconst (v := 1) hx hb dX9_read_1 (by decide) ?_
  refine lv_bipush (v := 50) hx hb dX9_read_2 (by decide) ?_
  obtain ⟨r1, hq4, hF⟩ := bd1_s hF
  refine gsI (As := [.int ar2, .int 1, .int 50]) (rest := []) ⟨hx, hb, hml, hown, hts⟩ (zX9_isWithin l D x cy g L K cf nm hG hL S0 hT _ ar2 1 50  r1 hq4) (va_cwS 3 hts gX9_read_X9_isWithin rfl rfl rfl (by decide +kernel) ⟨Nat.le_of_ble_eq_true rfl, Nat.le_of_ble_eq_true rfl⟩) hK hP hD hS hA rfl hl.1 rfl (Nat.le_of_ble_eq_true rfl) dX9_read_4 ⟨Nat.le_of_ble_eq_true rfl, Nat.le_of_ble_eq_true rfl⟩ (fun a5 u9 H locs hw3 hP hD hS => ?_)
  have hP : va_P D vwCl (ZW x cy g S0 ++ va_pl L (pf cy K cf nm S0)) H := hP
  have hD : va_D _ (ZW x cy g S0 ++ va_pl L (pf cy K cf nm S0)) := hD
  refine lv_tov (v' := .int r1) (congrArg Value.int hw3.1) ?_
  refine lv_if_eq (tgt := 26) hx hb dX9_read_7 (by decide) (fun c6 => ?_) (fun c6 => ?_)
  · skip
    have hF := (if_pos c6).symm.trans hF
    refine lv_iconst (v := 0) hx hb dX9_read_26 (by decide) ?_
    obtain ⟨e1, e2⟩ := ret2 hF
    have hP : va_P D vwCl (ZW x cy g Sf ++ va_pl L (pf cy K cf nm Sf)) H := by rw [← e2]; exact hP
    have hD : va_D (va_A (ZW x cy g S0 ++ va_pl L (pf cy K cf nm S0)) s.heap.size) (ZW x cy g Sf ++ va_pl L (pf cy K cf nm Sf)) := by rw [← e2]; exact hD
    have hT : WT L K Sf.2 := by rw [← e2]; exact hT
    exact W.zret (v := 0) hx hb hr (nz01 (Or.inl rfl)).1 (fun t ht hW => ⟨⟨0, (), rfl, ⟨⟨e1, by rw [← e1]; exact Or.inl rfl⟩, hT⟩, by rw [ht]; exact hP, va_K.moved hW.alike hK, hD⟩, hS.F ht⟩) hS.2.2 dX9_read_27
  · skip
    have hF := (if_neg c6).symm.trans hF
    refine lv_aload_n hx hb dX9_read_10 rfl (lv_at hl 0 rfl) ?_
    refine lv_iload_n hx hb dX9_read_11 rfl (lv_at hl 1 rfl) ?_
    refine lv_iconst (v := 1) hx hb dX9_read_12 (by decide) ?_
    refine lv_iconst (v := (-1)) hx hb dX9_read_13 (by decide) ?_
    refine lv_iload_n hx hb dX9_read_14 rfl (lv_at hl 2 rfl) ?_
    refine lv_iconst (v := 0) hx hb dX9_read_15 (by decide) ?_
    obtain ⟨r7, S8, hq10, hF⟩ := bd2_s hF
    refine gvI (As := [.int ar1, .int 1, .int (-1), .int ar2, .int 0]) (rest := []) ⟨hx, hb, hml, hown, hts⟩ (zX9_addStep l D x cy g L K cf nm hG hL S0 hT _ ar1 1 (-1) ar2 0  r7 S8 hq10) (cwV 5 hts gX9_read_X9_addStep rfl rfl rfl (by decide +kernel) ⟨Nat.le_of_ble_eq_true rfl, Nat.le_of_ble_eq_true rfl⟩) hK hP hD hS hA (va_recv hK hP (ci := 9) (q0 := 0) rfl rfl) rfl hl.1 rfl (Nat.le_of_ble_eq_true rfl) dX9_read_16 ⟨Nat.le_of_ble_eq_true rfl, Nat.le_of_ble_eq_true rfl⟩ (fun a11 u9 H locs hw9 hP hD hS => ?_)
    have hT : WT L K S8.2 := hw9.2
    have hP : va_P D vwCl (ZW x cy g S8 ++ va_pl L (pf cy K cf nm S8)) H := hP
    have hD : va_D _ (ZW x cy g S8 ++ va_pl L (pf cy K cf nm S8)) := hD
    refine lv_tov (v' := .int r7) (congrArg Value.int hw9.1.1) ?_
    refine lv_if_eq (tgt := 26) hx hb dX9_read_19 (by decide) (fun c12 => ?_) (fun c12 => ?_)
    · skip
      have hF := (if_pos c12).symm.trans hF
      refine lv_iconst (v := 0) hx hb dX9_read_26 (by decide) ?_
      obtain ⟨e1, e2⟩ := ret2 hF
      have hP : va_P D vwCl (ZW x cy g Sf ++ va_pl L (pf cy K cf nm Sf)) H := by rw [← e2]; exact hP
      have hD : va_D (va_A (ZW x cy g S0 ++ va_pl L (pf cy K cf nm S0)) s.heap.size) (ZW x cy g Sf ++ va_pl L (pf cy K cf nm Sf)) := by rw [← e2]; exact hD
      have hT : WT L K Sf.2 := by rw [← e2]; exact hT
      exact W.zret (v := 0) hx hb hr (nz01 (Or.inl rfl)).1 (fun t ht hW => ⟨⟨0, (), rfl, ⟨⟨e1, by rw [← e1]; exact Or.inl rfl⟩, hT⟩, by rw [ht]; exact hP, va_K.moved hW.alike hK, hD⟩, hS.F ht⟩) hS.2.2 dX9_read_27
    · skip
      have hF := (if_neg c12).symm.trans hF
      refine lv_iconst (v := 1) hx hb dX9_read_22 (by decide) ?_
      refine lv_goto (tgt := 27) hx hb dX9_read_23 (by decide) ?_
      obtain ⟨e1, e2⟩ := ret2 hF
      have hP : va_P D vwCl (ZW x cy g Sf ++ va_pl L (pf cy K cf nm Sf)) H := by rw [← e2]; exact hP
      have hD : va_D (va_A (ZW x cy g S0 ++ va_pl L (pf cy K cf nm S0)) s.heap.size) (ZW x cy g Sf ++ va_pl L (pf cy K cf nm Sf)) := by rw [← e2]; exact hD
      have hT : WT L K Sf.2 := by rw [← e2]; exact hT
      exact W.zret (v := 1) hx hb hr (nz01 (Or.inr rfl)).1 (fun t ht hW => ⟨⟨1, (), rfl, ⟨⟨e1, by rw [← e1]; exact Or.inr rfl⟩, hT⟩, by rw [ht]; exact hP, va_K.moved hW.alike hK, hD⟩, hS.F ht⟩) hS.2.2 dX9_read_27
