theorem iX9_boxesAtHome_0 : ∀ w ∈ wsX00, w ∈ wsX9_boxesAtHome := fun _ h => List.mem_cons_of_mem _ (List.mem_append_right _ h)
theorem iX9_boxesAtHome_9 : ∀ w ∈ wsX90, w ∈ wsX9_boxesAtHome := fun _ h => List.mem_cons_of_mem _ (List.mem_append_left _ (List.mem_append_right _ h))
set_option maxHeartbeats 8000000 in
set_option maxRecDepth 100000 in
theorem zX9_boxesAtHome (l : Launch) (D : va_G) (x : Nat → Nat) (cy : Nat → ClassId) (g : Nat → Nat → Option Nat) (L : List Nat) (K : Nat → Nat) (cf : Nat → Nat → Nat) (nm : Nat → Int32) (hG : GO L K g) (hL : PL L K cf) (S : CS) (hT : WT L K S.2) (sz : Nat)   (rv : Int32) (hF : gX9_boxesAtHome g cf nm S  = some rv) : Met l yX9_boxesAtHome wsX9_boxesAtHome ({ frames := 0, cells := 0, slots := 0, locals := 0 }) (PW D (TYS cy) (ZW x cy g S ++ va_pl L (pf cy K cf nm S)) sz [.ref (x 0)]) (va_Qi (fun (res : Int32) (u : Unit) => res = rv) (BU D (TYS cy) (ZW x cy g S ++ va_pl L (pf cy K cf nm S)) (fun _ => ZW x cy g S ++ va_pl L (pf cy K cf nm S)) sz) (va_A (ZW x cy g S ++ va_pl L (pf cy K cf nm S)) sz)) 0 0 (va_A (ZW x cy g S ++ va_pl L (pf cy K cf nm S)) sz) := by
  refine Met.ofW (cc := cX9_boxesAtHome) (maxL := 3) (ret := (some .int)) (by decide) rfl ?_
  intro p e s m args below meth c s₁ B hml hv
  obtain ⟨rfl, hsz, hP, hK, hD0⟩ := hv
  have hx := B.exec
  have hb := B.bytes
  have hr := B.returns
  have hts := atoms_spec (ws := wsX9_boxesAtHome) B.pre
  have hown : s.vm.findClass RX9 = some m.cls := findClass_of_methodNamed B.named
  have hlocks := B.notSynchronized
  subst hsz
  have hD := hD0.self (sz := s.heap.size)
  have hA : ∀ q9 : Nat, s.heap.size ≤ q9 → va_A (ZW x cy g S ++ va_pl L (pf cy K cf nm S)) s.heap.size q9 := fun q9 h => Or.inr h
  have hS : va_S (va_A (ZW x cy g S ++ va_pl L (pf cy K cf nm S)) s.heap.size) s.heap s.heap [] := va_S.rf
  have key4 : ∀ (KK : Int32 → Option (Int32)), (∀ (v1 : Int32) (H : Heap) (locs : List Loc) (ls : Array Slot), KK v1 = some rv → va_P D vwCl (ZW x cy g S ++ va_pl L (pf cy K cf nm S)) H → va_D (va_A (ZW x cy g S ++ va_pl L (pf cy K cf nm S)) s.heap.size) (ZW x cy g S ++ va_pl L (pf cy K cf nm S)) → va_S (va_A (ZW x cy g S ++ va_pl L (pf cy K cf nm S)) s.heap.size) s.heap H locs → lv_has ls 3 [(1, .int v1)] → W p l e (headSpec wsX9_boxesAtHome ({ frames := 0, cells := 0, slots := 0, locals := 0 })).room s m #[.ref (x 0)] below meth c H locs 0 0 (MQ below (va_Qi (fun (res : Int32) (u : Unit) => res = rv) (BU D (TYS cy) (ZW x cy g S ++ va_pl L (pf cy K cf nm S)) (fun _ => ZW x cy g S ++ va_pl L (pf cy K cf nm S)) s.heap.size) (va_A (ZW x cy g S ++ va_pl L (pf cy K cf nm S)) s.heap.size)) #[.ref (x 0)] s 0 0 (va_A (ZW x cy g S ++ va_pl L (pf cy K cf nm S)) s.heap.size)) (F0 m 33 ls [])) → ∀ (fu : Nat) (v1 : Int32) (v2 : Int32) (H : Heap) (locs : List Loc) (ls : Array Slot), gX9_boxesAtHome_4 S g cf nm KK fu v1 v2 = some rv → va_P D vwCl (ZW x cy g S ++ va_pl L (pf cy K cf nm S)) H → va_D (va_A (ZW x cy g S ++ va_pl L (pf cy K cf nm S)) s.heap.size) (ZW x cy g S ++ va_pl L (pf cy K cf nm S)) → va_S (va_A (ZW x cy g S ++ va_pl L (pf cy K cf nm S)) s.heap.size) s.heap H locs → lv_has ls 3 [(1, .int v1), (2, .int v2), (0, .ref (x 0))] → W p l e (headSpec wsX9_boxesAtHome ({ frames := 0, cells := 0, slots := 0, locals := 0 })).room s m #[.ref (x 0)] below meth c H locs 0 0 (MQ below (va_Qi (fun (res : Int32) (u : Unit) => res = rv) (BU D (TYS cy) (ZW x cy g S ++ va_pl L (pf cy K cf nm S)) (fun _ => ZW x cy g S ++ va_pl L (pf cy K cf nm S)) s.heap.size) (va_A (ZW x cy g S ++ va_pl L (pf cy K cf nm S)) s.heap.size)) #[.ref (x 0)] s 0 0 (va_A (ZW x cy g S ++ va_pl L (pf cy K cf nm S)) s.heap.size)) (F0 m 4 ls []) := by
    intro KK hKK fu
    induction fu with
    | zero =>
      intro v1 v2 H locs ls hF
      exact absurd (show (none : Option (Int32)) = some rv from hF) (by simp)
    | succ fu4 ih4 =>
      intro v1 v2 H locs ls hF hP hD hS hl
      rw [gX9_boxesAtHome_4] at hF
      refine lv_iload_n hx hb dX9_boxesAtHome_4 rfl (lv_at hl 1 rfl) ?_
      refine lv_aload_n hx hb dX9_boxesAtHome_5 rfl (lv_at hl 2 rfl) ?_
      refine va_get (D := D) (ci := 9) (v := .int (S.1 200 1)) (C := RX9) (T := TX9) (N := 19) hx hb hts iX9_boxesAtHome_9 hown hK hP 0 rfl rfl 11 (by decide) (hts (.fieldLink RX9 88 "FondsRoom" "boxCount" "I") (List.mem_of_getElem? (i := 1) rfl)) (fun _ h9 => h9) rfl dX9_boxesAtHome_6 ?_
      refine lv_icmp_ge (tgt := 33) hx hb dX9_boxesAtHome_9 (by decide) (fun c1 => ?_) (fun c1 => ?_)
      · skip
        have hF := (if_pos c1).symm.trans hF
        exact hKK v1  _ _ _ hF hP hD hS (lv_sub hl [0] rfl)
      · skip
        have hF := (if_neg c1).symm.trans hF
        refine lv_aload_n hx hb dX9_boxesAtHome_12 rfl (lv_at hl 2 rfl) ?_
        refine va_get (D := D) (ci := 9) (v := .ref (x 2)) (C := RX9) (T := TX9) (N := 19) hx hb hts iX9_boxesAtHome_9 hown hK hP 0 rfl rfl 1 (by decide) (hts (.fieldLink RX9 20 "FondsRoom" "boxes" "[LFondsRoom$Box;") (List.mem_of_getElem? (i := 2) rfl)) (fun _ h9 => h9) rfl dX9_boxesAtHome_13 ?_
        refine lv_iload_n hx hb dX9_boxesAtHome_16 rfl (lv_at hl 1 rfl) ?_
        obtain ⟨hi2, b3, eb3, hF⟩ := ga_s hF
        refine va_aldq hx hb hK hP 2 3 rfl rfl hi2 dX9_boxesAtHome_17 ?_
        refine lv_tov (v' := .ref b3) (by rw [eb3]; rfl) ?_
        have mb3 := GO_1 hG hi2 eb3
        refine pg_get (D := D) (ci := 0) (v := .int (S.1 3 b3)) (C := RX0) (T := TX0) (N := 6) hx hb hts iX9_boxesAtHome_0 hown hK hP mb3.1 (pf_0 mb3.2) rfl 3 (by decide) (hts (.fieldLink RX9 233 "FondsRoom$Box" "place" "I") (List.mem_of_getElem? (i := 3) rfl)) (fun _ h9 => h9) rfl dX9_boxesAtHome_18 ?_
        refine lv_if_ne (tgt := 27) hx hb dX9_boxesAtHome_21 (by decide) (fun c4 => ?_) (fun c4 => ?_)
        · skip
          have hF := (if_neg c4).symm.trans hF
          refine lv_iinc (v := v2 + 1) (lv' := [(2, .int (v2 + 1)), (1, .int v1), (0, .ref (x 0))]) hx hb dX9_boxesAtHome_27 hl (k := 1) rfl rfl (by decide) rfl (fun ls hl => ?_)
          refine lv_goto (tgt := 4) hx hb dX9_boxesAtHome_30 (by decide) ?_
          exact ih4 v1 (v2 + 1)  _ _ _ hF hP hD hS (lv_sub hl [1, 0, 2] rfl)
        · skip
          have hF := (if_pos c4).symm.trans hF
          refine lv_iinc (v := v1 + 1) (lv' := [(1, .int (v1 + 1)), (2, .int v2), (0, .ref (x 0))]) hx hb dX9_boxesAtHome_24 hl (k := 0) rfl rfl (by decide) rfl (fun ls hl => ?_)
          refine lv_iinc (v := v2 + 1) (lv' := [(2, .int (v2 + 1)), (1, .int (v1 + 1)), (0, .ref (x 0))]) hx hb dX9_boxesAtHome_27 hl (k := 1) rfl rfl (by decide) rfl (fun ls hl => ?_)
          refine lv_goto (tgt := 4) hx hb dX9_boxesAtHome_30 (by decide) ?_
          exact ih4 (v1 + 1) (v2 + 1)  _ _ _ hF hP hD hS (lv_sub hl [1, 0, 2] rfl)
  have hl := lv_entry ([.ref (x 0)]) (n := 3) (Nat.le_of_ble_eq_true rfl)
  rw [lg_entry_eq]
  generalize (lg_sl ([.ref (x 0)]) ++ List.replicate (3 - (lg_sl ([.ref (x 0)])).length) Slot.unset).toArray = ls at hl ⊢
  have hl : lv_has ls 3 [(0, .ref (x 0))] := hl
  unfold gX9_boxesAtHome at hF
  refine lv_iconst (v := 0) hx hb dX9_boxesAtHome_0 (by decide) ?_
  refine lv_istore_n (lv' := [(1, .int 0), (0, .ref (x 0))]) hx hb dX9_boxesAtHome_1 rfl hl (by decide) rfl (fun ls hl => ?_)
  refine lv_iconst (v := 0) hx hb dX9_boxesAtHome_2 (by decide) ?_
  refine lv_istore_n (lv' := [(2, .int 0), (1, .int 0), (0, .ref (x 0))]) hx hb dX9_boxesAtHome_3 rfl hl (by decide) rfl (fun ls hl => ?_)
  refine key4 _ ?_ 1000 0 0  _ _ _ hF hP hD hS (lv_sub hl [1, 0, 2] rfl)
  intro v1_5 H locs ls hF hP hD hS hl
  refine lv_iload_n hx hb dX9_boxesAtHome_33 rfl (lv_at hl 0 rfl) ?_
  have e1 := Option.some.inj hF
  exact W.iret (v := v1_5) hx hb hr (fun t ht hW => ⟨⟨v1_5, (), rfl, e1, by rw [ht]; exact hP, va_K.moved hW.alike hK, hD⟩, hS.F ht⟩) hS.2.2 dX9_boxesAtHome_34

theorem iX9_isQuiet_9 : ∀ w ∈ wsX90, w ∈ wsX9_isQuiet := fun _ h => List.mem_cons_of_mem _ (List.mem_append_left _ (List.mem_append_left _ (List.mem_append_right _ h)))
set_option maxHeartbeats 8000000 in
set_option maxRecDepth 100000 in
theorem zX9_isQuiet (l : Launch) (D : va_G) (x : Nat → Nat) (cy : Nat → ClassId) (g : Nat → Nat → Option Nat) (L : List Nat) (K : Nat → Nat) (cf : Nat → Nat → Nat) (nm : Nat → Int32) (hG : GO L K g) (hL : PL L K cf) (S : CS) (hT : WT L K S.2) (sz : Nat)   (rv : Int32) (hF : gX9_isQuiet g cf nm S  = some rv) : Met l yX9_isQuiet wsX9_isQuiet ({ frames := 1, cells := 0, slots := 0, locals := 22 }) (PW D (TYS cy) (ZW x cy g S ++ va_pl L (pf cy K cf nm S)) sz [.ref (x 0)]) (va_Qi (fun (res : Int32) (u : Unit) => res = rv ∧ b01 rv) (BU D (TYS cy) (ZW x cy g S ++ va_pl L (pf cy K cf nm S)) (fun _ => ZW x cy g S ++ va_pl L (pf cy K cf nm S)) sz) (va_A (ZW x cy g S ++ va_pl L (pf cy K cf nm S)) sz)) 0 0 (va_A (ZW x cy g S ++ va_pl L (pf cy K cf nm S)) sz) := by
  refine Met.ofW (cc := cX9_isQuiet) (maxL := 2) (ret := (some .boolean)) (by decide) rfl ?_
  intro p e s m args below meth c s₁ B hml hv
  obtain ⟨rfl, hsz, hP, hK, hD0⟩ := hv
  have hx := B.exec
  have hb := B.bytes
  have hr := B.returns
  have hts := atoms_spec (ws := wsX9_isQuiet) B.pre
  have hown : s.vm.findClass RX9 = some m.cls := findClass_of_methodNamed B.named
  have hlocks := B.notSynchronized
  subst hsz
  have hD := hD0.self (sz := s.heap.size)
  have hA : ∀ q9 : Nat, s.heap.size ≤ q9 → va_A (ZW x cy g S ++ va_pl L (pf cy K cf nm S)) s.heap.size q9 := fun q9 h => Or.inr h
  have hS : va_S (va_A (ZW x cy g S ++ va_pl L (pf cy K cf nm S)) s.heap.size) s.heap s.heap [] := va_S.rf
  have key2 : ∀ (KK : Option (Int32)), (∀  (H : Heap) (locs : List Loc) (ls : Array Slot), KK  = some rv → va_P D vwCl (ZW x cy g S ++ va_pl L (pf cy K cf nm S)) H → va_D (va_A (ZW x cy g S ++ va_pl L (pf cy K cf nm S)) s.heap.size) (ZW x cy g S ++ va_pl L (pf cy K cf nm S)) → va_S (va_A (ZW x cy g S ++ va_pl L (pf cy K cf nm S)) s.heap.size) s.heap H locs → lv_has ls 2 [(0, .ref (x 0))] → W p l e (headSpec wsX9_isQuiet ({ frames := 1, cells := 0, slots := 0, locals := 22 })).room s m #[.ref (x 0)] below meth c H locs 0 0 (MQ below (va_Qi (fun (res : Int32) (u : Unit) => res = rv ∧ b01 rv) (BU D (TYS cy) (ZW x cy g S ++ va_pl L (pf cy K cf nm S)) (fun _ => ZW x cy g S ++ va_pl L (pf cy K cf nm S)) s.heap.size) (va_A (ZW x cy g S ++ va_pl L (pf cy K cf nm S)) s.heap.size)) #[.ref (x 0)] s 0 0 (va_A (ZW x cy g S ++ va_pl L (pf cy K cf nm S)) s.heap.size)) (F0 m 30 ls [])) → ∀ (fu : Nat) (v1 : Int32) (H : Heap) (locs : List Loc) (ls : Array Slot), gX9_isQuiet_2 S g cf nm KK fu v1 = some rv → va_P D vwCl (ZW x cy g S ++ va_pl L (pf cy K cf nm S)) H → va_D (va_A (ZW x cy g S ++ va_pl L (pf cy K cf nm S)) s.heap.size) (ZW x cy g S ++ va_pl L (pf cy K cf nm S)) → va_S (va_A (ZW x cy g S ++ va_pl L (pf cy K cf nm S)) s.heap.size) s.heap H locs → lv_has ls 2 [(1, .int v1), (0, .ref (x 0))] → W p l e (headSpec wsX9_isQuiet ({ frames := 1, cells := 0, slots := 0, locals := 22 })).room s m #[.ref (x 0)] below meth c H locs 0 0 (MQ below (va_Qi (fun (res : Int32) (u : Unit) => res = rv ∧ b01 rv) (BU D (TYS cy) (ZW x cy g S ++ va_pl L (pf cy K cf nm S)) (fun _ => ZW x cy g S ++ va_pl L (pf cy K cf nm S)) s.heap.size) (va_A (ZW x cy g S ++ va_pl L (pf cy K cf nm S)) s.heap.size)) #[.ref (x 0)] s 0 0 (va_A (ZW x cy g S ++ va_pl L (pf cy K cf nm S)) s.heap.size)) (F0 m 2 ls []) := by
    intro KK hKK fu
    induction fu with
    | zero =>
      intro v1 H locs ls hF
      exact absurd (show (none : Option (Int32)) = some rv from hF) (by simp)
    | succ fu2 ih2 =>
      intro v1 H locs ls hF hP hD hS hl
      rw [gX9_isQuiet_2] at hF
      refine lv_iload_n hx hb dX9_isQuiet_2 rfl (lv_at hl 0 rfl) ?_
      refine lv_aload_n hx hb dX9_isQuiet_3 rfl (lv_at hl 1 rfl) ?_
      refine va_get (D := D) (ci := 9) (v := .int (S.1 200 2)) (C := RX9) (T := TX9) (N := 19) hx hb hts iX9_isQuiet_9 hown hK hP 0 rfl rfl 12 (by decide) (hts (.fieldLink RX9 104 "FondsRoom" "readerCount" "I") (List.mem_of_getElem? (i := 1) rfl)) (fun _ h9 => h9) rfl dX9_isQuiet_4 ?_
      refine lv_icmp_ge (tgt := 30) hx hb dX9_isQuiet_7 (by decide) (fun c1 => ?_) (fun c1 => ?_)
      · skip
        have hF := (if_pos c1).symm.trans hF
        exact hKK   _ _ _ hF hP hD hS (lv_sub hl [1] rfl)
      · skip
        have hF := (if_neg c1).symm.trans hF
        refine lv_aload_n hx hb dX9_isQuiet_10 rfl (lv_at hl 1 rfl) ?_
        refine va_get (D := D) (ci := 9) (v := .ref (x 3)) (C := RX9) (T := TX9) (N := 19) hx hb hts iX9_isQuiet_9 hown hK hP 0 rfl rfl 2 (by decide) (hts (.fieldLink RX9 27 "FondsRoom" "readers" "[LFondsRoom$Reader;") (List.mem_of_getElem? (i := 2) rfl)) (fun _ h9 => h9) rfl dX9_isQuiet_11 ?_
        refine lv_iload_n hx hb dX9_isQuiet_14 rfl (lv_at hl 0 rfl) ?_
        obtain ⟨hi2, b3, eb3, hF⟩ := ga_s hF
        refine va_aldq hx hb hK hP 3 4 rfl rfl hi2 dX9_isQuiet_15 ?_
        refine lv_tov (v' := .ref b3) (by rw [eb3]; rfl) ?_
        have mb3 := GO_2 hG hi2 eb3
        obtain ⟨r4, hq7, hF⟩ := bd1_s hF
        refine gsI (As := [.ref b3]) (rest := []) ⟨hx, hb, hml, hown, hts⟩ (zX9_isAway l D x cy g L K cf nm hG hL S hT _ b3 ⟨mb3.1, mb3.2⟩ r4 hq7) (va_cwS 1 hts gX9_isQuiet_X9_isAway rfl rfl rfl (by decide +kernel) ⟨Nat.le_of_ble_eq_true rfl, Nat.le_of_ble_eq_true rfl⟩) hK hP hD hS hA rfl hl.1 rfl (Nat.le_of_ble_eq_true rfl) dX9_isQuiet_16 ⟨Nat.le_of_ble_eq_true rfl, Nat.le_of_ble_eq_true rfl⟩ (fun a8 u9 H locs hw6 hP hD hS => ?_)
        have hP : va_P D vwCl (ZW x cy g S ++ va_pl L (pf cy K cf nm S)) H := hP
        have hD : va_D _ (ZW x cy g S ++ va_pl L (pf cy K cf nm S)) := hD
        refine lv_tov (v' := .int r4) (congrArg Value.int hw6.1) ?_
        refine lv_if_ne (tgt := 24) hx hb dX9_isQuiet_19 (by decide) (fun c9 => ?_) (fun c9 => ?_)
        · skip
          have hF := (if_neg c9).symm.trans hF
          refine lv_iinc (v := v1 + 1) (lv' := [(1, .int (v1 + 1)), (0, .ref (x 0))]) hx hb dX9_isQuiet_24 hl (k := 0) rfl rfl (by decide) rfl (fun ls hl => ?_)
          refine lv_goto (tgt := 2) hx hb dX9_isQuiet_27 (by decide) ?_
          exact ih2 (v1 + 1)  _ _ _ hF hP hD hS (lv_sub hl [0, 1] rfl)
        · skip
          have hF := (if_pos c9).symm.trans hF
          refine lv_iconst (v := 0) hx hb dX9_isQuiet_22 (by decide) ?_
          have e1 := Option.some.inj hF
          exact W.zret (v := 0) hx hb hr (nz01 (Or.inl rfl)).1 (fun t ht hW => ⟨⟨0, (), rfl, ⟨e1, by rw [← e1]; exact Or.inl rfl⟩, by rw [ht]; exact hP, va_K.moved hW.alike hK, hD⟩, hS.F ht⟩) hS.2.2 dX9_isQuiet_23
  have hl := lv_entry ([.ref (x 0)]) (n := 2) (Nat.le_of_ble_eq_true rfl)
  rw [lg_entry_eq]
  generalize (lg_sl ([.ref (x 0)]) ++ List.replicate (2 - (lg_sl ([.ref (x 0)])).length) Slot.unset).toArray = ls at hl ⊢
  have hl : lv_has ls 2 [(0, .ref (x 0))] := hl
  unfold gX9_isQuiet at hF
  refine lv_iconst (v := 0) hx hb dX9_isQuiet_0 (by decide) ?_
  refine lv_istore_n (lv' := [(1, .int 0), (0, .ref (x 0))]) hx hb dX9_isQuiet_1 rfl hl (by decide) rfl (fun ls hl => ?_)
  refine key2 _ ?_ 1000 0  _ _ _ hF hP hD hS (lv_sub hl [0, 1] rfl)
  intro  H locs ls hF hP hD hS hl
  refine lv_aload_n hx hb dX9_isQuiet_30 rfl (lv_at hl 0 rfl) ?_
  obtain ⟨r10, hq13, hF⟩ := bd1_s hF
  refine gvI (As := []) (rest := []) ⟨hx, hb, hml, hown, hts⟩ (zX9_boxesAtHome l D x cy g L K cf nm hG hL S hT _   r10 hq13) (cwV 0 hts gX9_isQuiet_X9_boxesAtHome rfl rfl rfl (by decide +kernel) ⟨Nat.le_of_ble_eq_true rfl, Nat.le_of_ble_eq_true rfl⟩) hK hP hD hS hA (va_recv hK hP (ci := 9) (q0 := 0) rfl rfl) rfl hl.1 rfl (Nat.le_of_ble_eq_true rfl) dX9_isQuiet_31 ⟨Nat.le_of_ble_eq_true rfl, Nat.le_of_ble_eq_true rfl⟩ (fun a14 u9 H locs hw12 hP hD hS => ?_)
  have hP : va_P D vwCl (ZW x cy g S ++ va_pl L (pf cy K cf nm S)) H := hP
  have hD : va_D _ (ZW x cy g S ++ va_pl L (pf cy K cf nm S)) := hD
  refine lv_tov (v' := .int r10) (congrArg Value.int hw12) ?_
  refine lv_aload_n hx hb dX9_isQuiet_34 rfl (lv_at hl 0 rfl) ?_
  refine va_get (D := D) (ci := 9) (v := .int (S.1 200 1)) (C := RX9) (T := TX9) (N := 19) hx hb hts iX9_isQuiet_9 hown hK hP 0 rfl rfl 11 (by decide) (hts (.fieldLink RX9 88 "FondsRoom" "boxCount" "I") (List.mem_of_getElem? (i := 3) rfl)) (fun _ h9 => h9) rfl dX9_isQuiet_35 ?_
  refine lv_icmp_ne (tgt := 45) hx hb dX9_isQuiet_38 (by decide) (fun c15 => ?_) (fun c15 => ?_)
  · skip
    have hF := (if_neg c15).symm.trans hF
    refine lv_iconst (v := 0) hx hb dX9_isQuiet_45 (by decide) ?_
    have e1 := Option.some.inj hF
    exact W.zret (v := 0) hx hb hr (nz01 (Or.inl rfl)).1 (fun t ht hW => ⟨⟨0, (), rfl, ⟨e1, by rw [← e1]; exact Or.inl rfl⟩, by rw [ht]; exact hP, va_K.moved hW.alike hK, hD⟩, hS.F ht⟩) hS.2.2 dX9_isQuiet_46
  · skip
    have hF := (if_pos c15).symm.trans hF
    refine lv_iconst (v := 1) hx hb dX9_isQuiet_41 (by decide) ?_
    refine lv_goto (tgt := 46) hx hb dX9_isQuiet_42 (by decide) ?_
    have e1 := Option.some.inj hF
    exact W.zret (v := 1) hx hb hr (nz01 (Or.inr rfl)).1 (fun t ht hW => ⟨⟨1, (), rfl, ⟨e1, by rw [← e1]; exact Or.inr rfl⟩, by rw [ht]; exact hP, va_K.moved hW.alike hK, hD⟩, hS.F ht⟩) hS.2.2 dX9_isQuiet_46

theorem iX9_greatestWaited_6 : ∀ w ∈ wsX60, w ∈ wsX9_greatestWaited := fun _ h => List.mem_cons_of_mem _ (List.mem_append_right _ h)
theorem iX9_greatestWaited_9 : ∀ w ∈ wsX90, w ∈ wsX9_greatestWaited := fun _ h => List.mem_cons_of_mem _ (List.mem_append_left _ (List.mem_append_right _ h))
set_option maxHeartbeats 8000000 in
set_option maxRecDepth 100000 in
theorem zX9_greatestWaited (l : Launch) (D : va_G) (x : Nat → Nat) (cy : Nat → ClassId) (g : Nat → Nat → Option Nat) (L : List Nat) (K : Nat → Nat) (cf : Nat → Nat → Nat) (nm : Nat → Int32) (hG : GO L K g) (hL : PL L K cf) (S : CS) (hT : WT L K S.2) (sz : Nat) (ar1 : Int32)  (rv : Int32) (hF : gX9_greatestWaited g cf nm S ar1 = some rv) : Met l yX9_greatestWaited wsX9_greatestWaited ({ frames := 1, cells := 0, slots := 0, locals := 13 }) (PW D (TYS cy) (ZW x cy g S ++ va_pl L (pf cy K cf nm S)) sz [.ref (x 0), .int ar1]) (va_Qi (fun (res : Int32) (u : Unit) => res = rv) (BU D (TYS cy) (ZW x cy g S ++ va_pl L (pf cy K cf nm S)) (fun _ => ZW x cy g S ++ va_pl L (pf cy K cf nm S)) sz) (va_A (ZW x cy g S ++ va_pl L (pf cy K cf nm S)) sz)) 0 0 (va_A (ZW x cy g S ++ va_pl L (pf cy K cf nm S)) sz) := by
  refine Met.ofW (cc := cX9_greatestWaited) (maxL := 6) (ret := (some .int)) (by decide) rfl ?_
  intro p e s m args below meth c s₁ B hml hv
  obtain ⟨rfl, hsz, hP, hK, hD0⟩ := hv
  have hx := B.exec
  have hb := B.bytes
  have hr := B.returns
  have hts := atoms_spec (ws := wsX9_greatestWaited) B.pre
  have hown : s.vm.findClass RX9 = some m.cls := findClass_of_methodNamed B.named
  have hlocks := B.notSynchronized
  subst hsz
  have hD := hD0.self (sz := s.heap.size)
  have hA : ∀ q9 : Nat, s.heap.size ≤ q9 → va_A (ZW x cy g S ++ va_pl L (pf cy K cf nm S)) s.heap.size q9 := fun q9 h => Or.inr h
  have hS : va_S (va_A (ZW x cy g S ++ va_pl L (pf cy K cf nm S)) s.heap.size) s.heap s.heap [] := va_S.rf
  have key4 : ∀ (KK : Int32 → Option (Int32)), (∀ (v2 : Int32) (H : Heap) (locs : List Loc) (ls : Array Slot), KK v2 = some rv → va_P D vwCl (ZW x cy g S ++ va_pl L (pf cy K cf nm S)) H → va_D (va_A (ZW x cy g S ++ va_pl L (pf cy K cf nm S)) s.heap.size) (ZW x cy g S ++ va_pl L (pf cy K cf nm S)) → va_S (va_A (ZW x cy g S ++ va_pl L (pf cy K cf nm S)) s.heap.size) s.heap H locs → lv_has ls 6 [(2, .int v2)] → W p l e (headSpec wsX9_greatestWaited ({ frames := 1, cells := 0, slots := 0, locals := 13 })).room s m #[.ref (x 0), .int ar1] below meth c H locs 0 0 (MQ below (va_Qi (fun (res : Int32) (u : Unit) => res = rv) (BU D (TYS cy) (ZW x cy g S ++ va_pl L (pf cy K cf nm S)) (fun _ => ZW x cy g S ++ va_pl L (pf cy K cf nm S)) s.heap.size) (va_A (ZW x cy g S ++ va_pl L (pf cy K cf nm S)) s.heap.size)) #[.ref (x 0), .int ar1] s 0 0 (va_A (ZW x cy g S ++ va_pl L (pf cy K cf nm S)) s.heap.size)) (F0 m 68 ls [])) → ∀ (fu : Nat) (v1 : Int32) (v2 : Int32) (v3 : Int32) (H : Heap) (locs : List Loc) (ls : Array Slot), gX9_greatestWaited_4 S g cf nm KK fu v1 v2 v3 = some rv → va_P D vwCl (ZW x cy g S ++ va_pl L (pf cy K cf nm S)) H → va_D (va_A (ZW x cy g S ++ va_pl L (pf cy K cf nm S)) s.heap.size) (ZW x cy g S ++ va_pl L (pf cy K cf nm S)) → va_S (va_A (ZW x cy g S ++ va_pl L (pf cy K cf nm S)) s.heap.size) s.heap H locs → lv_has ls 6 [(1, .int v1), (2, .int v2), (3, .int v3), (0, .ref (x 0))] → W p l e (headSpec wsX9_greatestWaited ({ frames := 1, cells := 0, slots := 0, locals := 13 })).room s m #[.ref (x 0), .int ar1] below meth c H locs 0 0 (MQ below (va_Qi (fun (res : Int32) (u : Unit) => res = rv) (BU D (TYS cy) (ZW x cy g S ++ va_pl L (pf cy K cf nm S)) (fun _ => ZW x cy g S ++ va_pl L (pf cy K cf nm S)) s.heap.size) (va_A (ZW x cy g S ++ va_pl L (pf cy K cf nm S)) s.heap.size)) #[.ref (x 0), .int ar1] s 0 0 (va_A (ZW x cy g S ++ va_pl L (pf cy K cf nm S)) s.heap.size)) (F0 m 4 ls []) := by
    intro KK hKK fu
    induction fu with
    | zero =>
      intro v1 v2 v3 H locs ls hF
      exact absurd (show (none : Option (Int32)) = some rv from hF) (by simp)
    | succ fu4 ih4 =>
      intro v1 v2 v3 H locs ls hF hP hD hS hl
      rw [gX9_greatestWaited_4] at hF
      refine lv_iload_n hx hb dX9_greatestWaited_4 rfl (lv_at hl 2 rfl) ?_
      refine lv_aload_n hx hb dX9_greatestWaited_5 rfl (lv_at hl 3 rfl) ?_
      refine va_get (D := D) (ci := 9) (v := .int (S.1 200 2)) (C := RX9) (T := TX9) (N := 19) hx hb hts iX9_greatestWaited_9 hown hK hP 0 rfl rfl 12 (by decide) (hts (.fieldLink RX9 104 "FondsRoom" "readerCount" "I") (List.mem_of_getElem? (i := 1) rfl)) (fun _ h9 => h9) rfl dX9_greatestWaited_6 ?_
      refine lv_icmp_ge (tgt := 68) hx hb dX9_greatestWaited_9 (by decide) (fun c1 => ?_) (fun c1 => ?_)
      · skip
        have hF := (if_pos c1).symm.trans hF
        exact hKK v2  _ _ _ hF hP hD hS (lv_sub hl [1] rfl)
      · skip
        have hF := (if_neg c1).symm.trans hF
        refine lv_aload_n hx hb dX9_greatestWaited_12 rfl (lv_at hl 3 rfl) ?_
        refine va_get (D := D) (ci := 9) (v := .ref (x 3)) (C := RX9) (T := TX9) (N := 19) hx hb hts iX9_greatestWaited_9 hown hK hP 0 rfl rfl 2 (by decide) (hts (.fieldLink RX9 27 "FondsRoom" "readers" "[LFondsRoom$Reader;") (List.mem_of_getElem? (i := 2) rfl)) (fun _ h9 => h9) rfl dX9_greatestWaited_13 ?_
        refine lv_iload_n hx hb dX9_greatestWaited_16 rfl (lv_at hl 2 rfl) ?_
        obtain ⟨hi2, b3, eb3, hF⟩ := ga_s hF
        refine va_aldq hx hb hK hP 3 4 rfl rfl hi2 dX9_greatestWaited_17 ?_
        refine lv_tov (v' := .ref b3) (by rw [eb3]; rfl) ?_
        have mb3 := GO_2 hG hi2 eb3
        refine lv_astore (lv' := [(4, .ref b3), (1, .int v1), (2, .int v2), (3, .int v3), (0, .ref (x 0))]) hx hb dX9_greatestWaited_18 hl (by decide) rfl (fun ls hl => ?_)
        refine lv_iload_n hx hb dX9_greatestWaited_20 rfl (lv_at hl 1 rfl) ?_
        refine lv_bipush (v := 7) hx hb dX9_greatestWaited_21 (by decide) ?_
        refine lv_icmp_ne (tgt := 34) hx hb dX9_greatestWaited_23 (by decide) (fun c4 => ?_) (fun c4 => ?_)
        · skip
          have hF := (if_neg c4).symm.trans hF
          refine lv_iload_n hx hb dX9_greatestWaited_34 rfl (lv_at hl 1 rfl) ?_
          refine lv_bipush (v := 8) hx hb dX9_greatestWaited_35 (by decide) ?_
          refine lv_icmp_ne (tgt := 48) hx hb dX9_greatestWaited_37 (by decide) (fun c5 => ?_) (fun c5 => ?_)
          · skip
            have hF := (if_neg c5).symm.trans hF
            refine lv_aload hx hb dX9_greatestWaited_48 (lv_at hl 0 rfl) ?_
            refine pg_get (D := D) (ci := 6) (v := .int (S.1 134 b3)) (C := RX6) (T := TX6) (N := 17) hx hb hts iX9_greatestWaited_6 hown hK hP mb3.1 (pf_6 mb3.2) rfl 14 (by decide) (hts (.fieldLink RX9 427 "FondsRoom$Reader" "waitedCopy" "I") (List.mem_of_getElem? (i := 5) rfl)) (fun _ h9 => h9) rfl dX9_greatestWaited_50 ?_
            refine lv_istore (lv' := [(5, .int (S.1 134 b3)), (4, .ref b3), (1, .int v1), (2, .int v2), (3, .int v3), (0, .ref (x 0))]) hx hb dX9_greatestWaited_53 hl (by decide) rfl (fun ls hl => ?_)
            refine lv_iload_n hx hb dX9_greatestWaited_55 rfl (lv_at hl 3 rfl) ?_
            refine lv_iload hx hb dX9_greatestWaited_56 (lv_at hl 0 rfl) ?_
            refine va_mmax hx hb (hml.trans hl.1.symm) hown (hts (.methodLink RX9 471 Lib.Math.max.name) (List.mem_of_getElem? (i := 6) rfl)) (hts (.static Lib.Math.max.name) (List.mem_of_getElem? (i := 7) rfl)) (hts (.initialized "java/lang/Math") (List.mem_of_getElem? (i := 8) rfl)) (hts (.code Lib.Math.max.name Lib.Math.max.code 2 (some .int)) (List.mem_of_getElem? (i := 9) rfl)) (Nat.le_of_ble_eq_true rfl) (Nat.le_of_ble_eq_true rfl) (Nat.le_of_ble_eq_true rfl) (Nat.le_of_ble_eq_true rfl) dX9_greatestWaited_58 ?_
            refine lv_topi (fun y6 ey6 => ?_)
            replace hF := bnd_s hF y6 ey6
            refine lv_istore_n (lv' := [(2, .int y6), (5, .int (S.1 134 b3)), (4, .ref b3), (1, .int v1), (3, .int v3), (0, .ref (x 0))]) hx hb dX9_greatestWaited_61 rfl hl (by decide) rfl (fun ls hl => ?_)
            refine lv_iinc (v := v3 + 1) (lv' := [(3, .int (v3 + 1)), (2, .int y6), (5, .int (S.1 134 b3)), (4, .ref b3), (1, .int v1), (0, .ref (x 0))]) hx hb dX9_greatestWaited_62 hl (k := 4) rfl rfl (by decide) rfl (fun ls hl => ?_)
            refine lv_goto (tgt := 4) hx hb dX9_greatestWaited_65 (by decide) ?_
            exact ih4 v1 y6 (v3 + 1)  _ _ _ hF hP hD hS (lv_sub hl [4, 1, 0, 5] rfl)
          · skip
            have hF := (if_pos c5).symm.trans hF
            refine lv_aload hx hb dX9_greatestWaited_40 (lv_at hl 0 rfl) ?_
            refine pg_get (D := D) (ci := 6) (v := .int (S.1 133 b3)) (C := RX6) (T := TX6) (N := 17) hx hb hts iX9_greatestWaited_6 hown hK hP mb3.1 (pf_6 mb3.2) rfl 13 (by decide) (hts (.fieldLink RX9 424 "FondsRoom$Reader" "waitedBox" "I") (List.mem_of_getElem? (i := 4) rfl)) (fun _ h9 => h9) rfl dX9_greatestWaited_42 ?_
            refine lv_goto (tgt := 53) hx hb dX9_greatestWaited_45 (by decide) ?_
            refine lv_istore (lv' := [(5, .int (S.1 133 b3)), (4, .ref b3), (1, .int v1), (2, .int v2), (3, .int v3), (0, .ref (x 0))]) hx hb dX9_greatestWaited_53 hl (by decide) rfl (fun ls hl => ?_)
            refine lv_iload_n hx hb dX9_greatestWaited_55 rfl (lv_at hl 3 rfl) ?_
            refine lv_iload hx hb dX9_greatestWaited_56 (lv_at hl 0 rfl) ?_
            refine va_mmax hx hb (hml.trans hl.1.symm) hown (hts (.methodLink RX9 471 Lib.Math.max.name) (List.mem_of_getElem? (i := 6) rfl)) (hts (.static Lib.Math.max.name) (List.mem_of_getElem? (i := 7) rfl)) (hts (.initialized "java/lang/Math") (List.mem_of_getElem? (i := 8) rfl)) (hts (.code Lib.Math.max.name Lib.Math.max.code 2 (some .int)) (List.mem_of_getElem? (i := 9) rfl)) (Nat.le_of_ble_eq_true rfl) (Nat.le_of_ble_eq_true rfl) (Nat.le_of_ble_eq_true rfl) (Nat.le_of_ble_eq_true rfl) dX9_greatestWaited_58 ?_
            refine lv_topi (fun y7 ey7 => ?_)
            replace hF := bnd_s hF y7 ey7
            refine lv_istore_n (lv' := [(2, .int y7), (5, .int (S.1 133 b3)), (4, .ref b3), (1, .int v1), (3, .int v3), (0, .ref (x 0))]) hx hb dX9_greatestWaited_61 rfl hl (by decide) rfl (fun ls hl => ?_)
            refine lv_iinc (v := v3 + 1) (lv' := [(3, .int (v3 + 1)), (2, .int y7), (5, .int (S.1 133 b3)), (4, .ref b3), (1, .int v1), (0, .ref (x 0))]) hx hb dX9_greatestWaited_62 hl (k := 4) rfl rfl (by decide) rfl (fun ls hl => ?_)
            refine lv_goto (tgt := 4) hx hb dX9_greatestWaited_65 (by decide) ?_
            exact ih4 v1 y7 (v3 + 1)  _ _ _ hF hP hD hS (lv_sub hl [4, 1, 0, 5] rfl)
        · skip
          have hF := (if_pos c4).symm.trans hF
          refine lv_aload hx hb dX9_greatestWaited_26 (lv_at hl 0 rfl) ?_
          refine pg_get (D := D) (ci := 6) (v := .int (S.1 132 b3)) (C := RX6) (T := TX6) (N := 17) hx hb hts iX9_greatestWaited_6 hown hK hP mb3.1 (pf_6 mb3.2) rfl 12 (by decide) (hts (.fieldLink RX9 421 "FondsRoom$Reader" "waitedDesk" "I") (List.mem_of_getElem? (i := 3) rfl)) (fun _ h9 => h9) rfl dX9_greatestWaited_28 ?_
          refine lv_goto (tgt := 53) hx hb dX9_greatestWaited_31 (by decide) ?_
          refine lv_istore (lv' := [(5, .int (S.1 132 b3)), (4, .ref b3), (1, .int v1), (2, .int v2), (3, .int v3), (0, .ref (x 0))]) hx hb dX9_greatestWaited_53 hl (by decide) rfl (fun ls hl => ?_)
          refine lv_iload_n hx hb dX9_greatestWaited_55 rfl (lv_at hl 3 rfl) ?_
          refine lv_iload hx hb dX9_greatestWaited_56 (lv_at hl 0 rfl) ?_
          refine va_mmax hx hb (hml.trans hl.1.symm) hown (hts (.methodLink RX9 471 Lib.Math.max.name) (List.mem_of_getElem? (i := 6) rfl)) (hts (.static Lib.Math.max.name) (List.mem_of_getElem? (i := 7) rfl)) (hts (.initialized "java/lang/Math") (List.mem_of_getElem? (i := 8) rfl)) (hts (.code Lib.Math.max.name Lib.Math.max.code 2 (some .int)) (List.mem_of_getElem? (i := 9) rfl)) (Nat.le_of_ble_eq_true rfl) (Nat.le_of_ble_eq_true rfl) (Nat.le_of_ble_eq_true rfl) (Nat.le_of_ble_eq_true rfl) dX9_greatestWaited_58 ?_
          refine lv_topi (fun y8 ey8 => ?_)
          replace hF := bnd_s hF y8 ey8
          refine lv_istore_n (lv' := [(2, .int y8), (5, .int (S.1 132 b3)), (4, .ref b3), (1, .int v1), (3, .int v3), (0, .ref (x 0))]) hx hb dX9_greatestWaited_61 rfl hl (by decide) rfl (fun ls hl => ?_)
          refine lv_iinc (v := v3 + 1) (lv' := [(3, .int (v3 + 1)), (2, .int y8), (5, .int (S.1 132 b3)), (4, .ref b3), (1, .int v1), (0, .ref (x 0))]) hx hb dX9_greatestWaited_62 hl (k := 4) rfl rfl (by decide) rfl (fun ls hl => ?_)
          refine lv_goto (tgt := 4) hx hb dX9_greatestWaited_65 (by decide) ?_
          exact ih4 v1 y8 (v3 + 1)  _ _ _ hF hP hD hS (lv_sub hl [4, 1, 0, 5] rfl)
  have hl := lv_entry ([.ref (x 0), .int ar1]) (n := 6) (Nat.le_of_ble_eq_true rfl)
  rw [lg_entry_eq]
  generalize (lg_sl ([.ref (x 0), .int ar1]) ++ List.replicate (6 - (lg_sl ([.ref (x 0), .int ar1])).length) Slot.unset).toArray = ls at hl ⊢
  have hl : lv_has ls 6 [(0, .ref (x 0)), (1, .int ar1)] := hl
  unfold gX9_greatestWaited at hF
  refine lv_iconst (v := 0) hx hb dX9_greatestWaited_0 (by decide) ?_
  refine lv_istore_n (lv' := [(2, .int 0), (0, .ref (x 0)), (1, .int ar1)]) hx hb dX9_greatestWaited_1 rfl hl (by decide) rfl (fun ls hl => ?_)
  refine lv_iconst (v := 0) hx hb dX9_greatestWaited_2 (by decide) ?_
  refine lv_istore_n (lv' := [(3, .int 0), (2, .int 0), (0, .ref (x 0)), (1, .int ar1)]) hx hb dX9_greatestWaited_3 rfl hl (by decide) rfl (fun ls hl => ?_)
  refine key4 _ ?_ 1000 ar1 0 0  _ _ _ hF hP hD hS (lv_sub hl [3, 1, 0, 2] rfl)
  intro v2_9 H locs ls hF hP hD hS hl
  refine lv_iload_n hx hb dX9_greatestWaited_68 rfl (lv_at hl 0 rfl) ?_
  have e1 := Option.some.inj hF
  exact W.iret (v := v2_9) hx hb hr (fun t ht hW => ⟨⟨v2_9, (), rfl, e1, by rw [ht]; exact hP, va_K.moved hW.alike hK, hD⟩, hS.F ht⟩) hS.2.2 dX9_greatestWaited_69

theorem iX9_count_2 : ∀ w ∈ wsX20, w ∈ wsX9_count := fun _ h => List.mem_cons_of_mem _ (List.mem_append_left _ (List.mem_append_left _ (List.mem_append_left _ (List.mem_append_right _ h))))
theorem iX9_count_4 : ∀ w ∈ wsX40, w ∈ wsX9_count := fun _ h => List.mem_cons_of_mem _ (List.mem_append_left _ (List.mem_append_left _ (List.mem_append_right _ h)))
theorem iX9_count_9 : ∀ w ∈ wsX90, w ∈ wsX9_count := fun _ h => List.mem_cons_of_mem _ (List.mem_append_left _ (List.mem_append_left _ (List.mem_append_left _ (List.mem_append_left _ (List.mem_append_right _ h)))))
set_option maxHeartbeats 8000000 in
set_option maxRecDepth 100000 in
theorem zX9_count (l : Launch) (D : va_G) (x : Nat → Nat) (cy : Nat → ClassId) (g : Nat → Nat → Option Nat) (L : List Nat) (K : Nat → Nat) (cf : Nat → Nat → Nat) (nm : Nat → Int32) (hG : GO L K g) (hL : PL L K cf) (S : CS) (hT : WT L K S.2) (sz : Nat) (ar1 : Int32)  (rv : Int32) (hF : gX9_count g cf nm S ar1 = some rv) : Met l yX9_count wsX9_count ({ frames := 2, cells := 0, slots := 0, locals := 43 }) (PW D (TYS cy) (ZW x cy g S ++ va_pl L (pf cy K cf nm S)) sz [.ref (x 0), .int ar1]) (va_Qi (fun (res : Int32) (u : Unit) => res = rv) (BU D (TYS cy) (ZW x cy g S ++ va_pl L (pf cy K cf nm S)) (fun _ => ZW x cy g S ++ va_pl L (pf cy K cf nm S)) sz) (va_A (ZW x cy g S ++ va_pl L (pf cy K cf nm S)) sz)) 0 0 (va_A (ZW x cy g S ++ va_pl L (pf cy K cf nm S)) sz) := by
  refine Met.ofW (cc := cX9_count) (maxL := 2) (ret := (some .int)) (by decide) rfl ?_
  intro p e s m args below meth c s₁ B hml hv
  obtain ⟨rfl, hsz, hP, hK, hD0⟩ := hv
  have hx := B.exec
  have hb := B.bytes
  have hr := B.returns
  have hts := atoms_spec (ws := wsX9_count) B.pre
  have hown : s.vm.findClass RX9 = some m.cls := findClass_of_methodNamed B.named
  have hlocks := B.notSynchronized
  subst hsz
  have hD := hD0.self (sz := s.heap.size)
  have hA : ∀ q9 : Nat, s.heap.size ≤ q9 → va_A (ZW x cy g S ++ va_pl L (pf cy K cf nm S)) s.heap.size q9 := fun q9 h => Or.inr h
  have hS : va_S (va_A (ZW x cy g S ++ va_pl L (pf cy K cf nm S)) s.heap.size) s.heap s.heap [] := va_S.rf
  have hl := lv_entry ([.ref (x 0), .int ar1]) (n := 2) (Nat.le_of_ble_eq_true rfl)
  rw [lg_entry_eq]
  generalize (lg_sl ([.ref (x 0), .int ar1]) ++ List.replicate (2 - (lg_sl ([.ref (x 0), .int ar1])).length) Slot.unset).toArray = ls at hl ⊢
  have hl : lv_has ls 2 [(0, .ref (x 0)), (1, .int ar1)] := hl
  unfold gX9_count at hF
  refine lv_iload_n hx hb dX9_count_0 rfl (lv_at hl 1 rfl) ?_
  by_cases j1 : ar1 = 0
  · skip
    have hF := (if_pos j1).symm.trans hF
    refine lv_tableIn (tgt := 76) hx hb dX9_count_1 (by rw [j1]; decide) (by rw [j1]; decide) (by rw [j1]; rfl) (by decide) ?_
    refine lv_aload_n hx hb dX9_count_76 rfl (lv_at hl 0 rfl) ?_
    refine va_get (D := D) (ci := 9) (v := .int (S.1 200 4)) (C := RX9) (T := TX9) (N := 19) hx hb hts iX9_count_9 hown hK hP 0 rfl rfl 14 (by decide) (hts (.fieldLink RX9 78 "FondsRoom" "turn" "I") (List.mem_of_getElem? (i := 1) rfl)) (fun _ h9 => h9) rfl dX9_count_77 ?_
    have e1 := Option.some.inj hF
    exact W.iret (v := (S.1 200 4)) hx hb hr (fun t ht hW => ⟨⟨(S.1 200 4), (), rfl, e1, by rw [ht]; exact hP, va_K.moved hW.alike hK, hD⟩, hS.F ht⟩) hS.2.2 dX9_count_80
  replace hF := (if_neg j1).symm.trans hF
  by_cases j2 : ar1 = 1
  · skip
    have hF := (if_pos j2).symm.trans hF
    refine lv_tableIn (tgt := 81) hx hb dX9_count_1 (by rw [j2]; decide) (by rw [j2]; decide) (by rw [j2]; rfl) (by decide) ?_
    refine lv_aload_n hx hb dX9_count_81 rfl (lv_at hl 0 rfl) ?_
    refine va_get (D := D) (ci := 9) (v := .int (S.1 200 0)) (C := RX9) (T := TX9) (N := 19) hx hb hts iX9_count_9 hown hK hP 0 rfl rfl 10 (by decide) (hts (.fieldLink RX9 81 "FondsRoom" "deskCount" "I") (List.mem_of_getElem? (i := 2) rfl)) (fun _ h9 => h9) rfl dX9_count_82 ?_
    have e1 := Option.some.inj hF
    exact W.iret (v := (S.1 200 0)) hx hb hr (fun t ht hW => ⟨⟨(S.1 200 0), (), rfl, e1, by rw [ht]; exact hP, va_K.moved hW.alike hK, hD⟩, hS.F ht⟩) hS.2.2 dX9_count_85
  replace hF := (if_neg j2).symm.trans hF
  by_cases j3 : ar1 = 2
  · skip
    have hF := (if_pos j3).symm.trans hF
    refine lv_tableIn (tgt := 86) hx hb dX9_count_1 (by rw [j3]; decide) (by rw [j3]; decide) (by rw [j3]; rfl) (by decide) ?_
    refine lv_aload_n hx hb dX9_count_86 rfl (lv_at hl 0 rfl) ?_
    refine va_get (D := D) (ci := 9) (v := .int (S.1 200 1)) (C := RX9) (T := TX9) (N := 19) hx hb hts iX9_count_9 hown hK hP 0 rfl rfl 11 (by decide) (hts (.fieldLink RX9 88 "FondsRoom" "boxCount" "I") (List.mem_of_getElem? (i := 3) rfl)) (fun _ h9 => h9) rfl dX9_count_87 ?_
    have e1 := Option.some.inj hF
    exact W.iret (v := (S.1 200 1)) hx hb hr (fun t ht hW => ⟨⟨(S.1 200 1), (), rfl, e1, by rw [ht]; exact hP, va_K.moved hW.alike hK, hD⟩, hS.F ht⟩) hS.2.2 dX9_count_90
  replace hF := (if_neg j3).symm.trans hF
  by_cases j4 : ar1 = 3
  · skip
    have hF := (if_pos j4).symm.trans hF
    refine lv_tableIn (tgt := 91) hx hb dX9_count_1 (by rw [j4]; decide) (by rw [j4]; decide) (by rw [j4]; rfl) (by decide) ?_
    refine lv_aload_n hx hb dX9_count_91 rfl (lv_at hl 0 rfl) ?_
    refine va_get (D := D) (ci := 9) (v := .int (S.1 200 2)) (C := RX9) (T := TX9) (N := 19) hx hb hts iX9_count_9 hown hK hP 0 rfl rfl 12 (by decide) (hts (.fieldLink RX9 104 "FondsRoom" "readerCount" "I") (List.mem_of_getElem? (i := 4) rfl)) (fun _ h9 => h9) rfl dX9_count_92 ?_
    have e1 := Option.some.inj hF
    exact W.iret (v := (S.1 200 2)) hx hb hr (fun t ht hW => ⟨⟨(S.1 200 2), (), rfl, e1, by rw [ht]; exact hP, va_K.moved hW.alike hK, hD⟩, hS.F ht⟩) hS.2.2 dX9_count_95
  replace hF := (if_neg j4).symm.trans hF
  by_cases j5 : ar1 = 4
  · skip
    have hF := (if_pos j5).symm.trans hF
    refine lv_tableIn (tgt := 96) hx hb dX9_count_1 (by rw [j5]; decide) (by rw [j5]; decide) (by rw [j5]; rfl) (by decide) ?_
    refine lv_aload_n hx hb dX9_count_96 rfl (lv_at hl 0 rfl) ?_
    refine va_get (D := D) (ci := 9) (v := .ref (x 18)) (C := RX9) (T := TX9) (N := 19) hx hb hts iX9_count_9 hown hK hP 0 rfl rfl 9 (by decide) (hts (.fieldLink RX9 67 "FondsRoom" "events" "LFondsRoom$Events;") (List.mem_of_getElem? (i := 5) rfl)) (fun _ h9 => h9) rfl dX9_count_97 ?_
    refine va_get (D := D) (ci := 2) (v := .int (S.1 200 15)) (C := RX2) (T := TX2) (N := 2) hx hb hts iX9_count_2 hown hK hP 18 rfl rfl 1 (by decide) (hts (.fieldLink RX9 460 "FondsRoom$Events" "size" "I") (List.mem_of_getElem? (i := 6) rfl)) (fun _ h9 => h9) rfl dX9_count_100 ?_
    have e1 := Option.some.inj hF
    exact W.iret (v := (S.1 200 15)) hx hb hr (fun t ht hW => ⟨⟨(S.1 200 15), (), rfl, e1, by rw [ht]; exact hP, va_K.moved hW.alike hK, hD⟩, hS.F ht⟩) hS.2.2 dX9_count_103
  replace hF := (if_neg j5).symm.trans hF
  by_cases j6 : ar1 = 5
  · skip
    have hF := (if_pos j6).symm.trans hF
    refine lv_tableIn (tgt := 104) hx hb dX9_count_1 (by rw [j6]; decide) (by rw [j6]; decide) (by rw [j6]; rfl) (by decide) ?_
    refine lv_aload_n hx hb dX9_count_104 rfl (lv_at hl 0 rfl) ?_
    obtain ⟨r7, hq10, hF⟩ := bd1_s hF
    refine gvI (As := []) (rest := []) ⟨hx, hb, hml, hown, hts⟩ (zX9_boxesAtHome l D x cy g L K cf nm hG hL S hT _   r7 hq10) (cwV 0 hts gX9_count_X9_boxesAtHome rfl rfl rfl (by decide +kernel) ⟨Nat.le_of_ble_eq_true rfl, Nat.le_of_ble_eq_true rfl⟩) hK hP hD hS hA (va_recv hK hP (ci := 9) (q0 := 0) rfl rfl) rfl hl.1 rfl (Nat.le_of_ble_eq_true rfl) dX9_count_105 ⟨Nat.le_of_ble_eq_true rfl, Nat.le_of_ble_eq_true rfl⟩ (fun a11 u9 H locs hw9 hP hD hS => ?_)
    have hP : va_P D vwCl (ZW x cy g S ++ va_pl L (pf cy K cf nm S)) H := hP
    have hD : va_D _ (ZW x cy g S ++ va_pl L (pf cy K cf nm S)) := hD
    refine lv_tov (v' := .int r7) (congrArg Value.int hw9) ?_
    have e1 := Option.some.inj hF
    exact W.iret (v := r7) hx hb hr (fun t ht hW => ⟨⟨r7, (), rfl, e1, by rw [ht]; exact hP, va_K.moved hW.alike hK, hD⟩, hS.F ht⟩) hS.2.2 dX9_count_108
  replace hF := (if_neg j6).symm.trans hF
  by_cases j12 : ar1 = 6
  · skip
    have hF := (if_pos j12).symm.trans hF
    refine lv_tableIn (tgt := 109) hx hb dX9_count_1 (by rw [j12]; decide) (by rw [j12]; decide) (by rw [j12]; rfl) (by decide) ?_
    refine lv_aload_n hx hb dX9_count_109 rfl (lv_at hl 0 rfl) ?_
    obtain ⟨r13, hq16, hF⟩ := bd1_s hF
    refine gvI (As := []) (rest := []) ⟨hx, hb, hml, hown, hts⟩ (zX9_isQuiet l D x cy g L K cf nm hG hL S hT _   r13 hq16) (cwV 0 hts gX9_count_X9_isQuiet rfl rfl rfl (by decide +kernel) ⟨Nat.le_of_ble_eq_true rfl, Nat.le_of_ble_eq_true rfl⟩) hK hP hD hS hA (va_recv hK hP (ci := 9) (q0 := 0) rfl rfl) rfl hl.1 rfl (Nat.le_of_ble_eq_true rfl) dX9_count_110 ⟨Nat.le_of_ble_eq_true rfl, Nat.le_of_ble_eq_true rfl⟩ (fun a17 u9 H locs hw15 hP hD hS => ?_)
    have hP : va_P D vwCl (ZW x cy g S ++ va_pl L (pf cy K cf nm S)) H := hP
    have hD : va_D _ (ZW x cy g S ++ va_pl L (pf cy K cf nm S)) := hD
    refine lv_tov (v' := .int r13) (congrArg Value.int hw15.1) ?_
    refine lv_if_eq (tgt := 120) hx hb dX9_count_113 (by decide) (fun c18 => ?_) (fun c18 => ?_)
    · skip
      have hF := (if_pos c18).symm.trans hF
      refine lv_iconst (v := 0) hx hb dX9_count_120 (by decide) ?_
      have e1 := Option.some.inj hF
      exact W.iret (v := 0) hx hb hr (fun t ht hW => ⟨⟨0, (), rfl, e1, by rw [ht]; exact hP, va_K.moved hW.alike hK, hD⟩, hS.F ht⟩) hS.2.2 dX9_count_121
    · skip
      have hF := (if_neg c18).symm.trans hF
      refine lv_iconst (v := 1) hx hb dX9_count_116 (by decide) ?_
      refine lv_goto (tgt := 121) hx hb dX9_count_117 (by decide) ?_
      have e1 := Option.some.inj hF
      exact W.iret (v := 1) hx hb hr (fun t ht hW => ⟨⟨1, (), rfl, e1, by rw [ht]; exact hP, va_K.moved hW.alike hK, hD⟩, hS.F ht⟩) hS.2.2 dX9_count_121
  replace hF := (if_neg j12).symm.trans hF
  by_cases j19 : ar1 = 7
  · skip
    have hF := (if_pos j19).symm.trans hF
    refine lv_tableIn (tgt := 122) hx hb dX9_count_1 (by rw [j19]; decide) (by rw [j19]; decide) (by rw [j19]; rfl) (by decide) ?_
    refine lv_aload_n hx hb dX9_count_122 rfl (lv_at hl 0 rfl) ?_
    refine lv_iload_n hx hb dX9_count_123 rfl (lv_at hl 1 rfl) ?_
    obtain ⟨r20, hq23, hF⟩ := bd1_s hF
    refine gvI (As := [.int ar1]) (rest := []) ⟨hx, hb, hml, hown, hts⟩ (zX9_greatestWaited l D x cy g L K cf nm hG hL S hT _ ar1  r20 hq23) (cwV 1 hts gX9_count_X9_greatestWaited rfl rfl rfl (by decide +kernel) ⟨Nat.le_of_ble_eq_true rfl, Nat.le_of_ble_eq_true rfl⟩) hK hP hD hS hA (va_recv hK hP (ci := 9) (q0 := 0) rfl rfl) rfl hl.1 rfl (Nat.le_of_ble_eq_true rfl) dX9_count_124 ⟨Nat.le_of_ble_eq_true rfl, Nat.le_of_ble_eq_true rfl⟩ (fun a24 u9 H locs hw22 hP hD hS => ?_)
    have hP : va_P D vwCl (ZW x cy g S ++ va_pl L (pf cy K cf nm S)) H := hP
    have hD : va_D _ (ZW x cy g S ++ va_pl L (pf cy K cf nm S)) := hD
    refine lv_tov (v' := .int r20) (congrArg Value.int hw22) ?_
    have e1 := Option.some.inj hF
    exact W.iret (v := r20) hx hb hr (fun t ht hW => ⟨⟨r20, (), rfl, e1, by rw [ht]; exact hP, va_K.moved hW.alike hK, hD⟩, hS.F ht⟩) hS.2.2 dX9_count_127
  replace hF := (if_neg j19).symm.trans hF
  by_cases j25 : ar1 = 8
  · skip
    have hF := (if_pos j25).symm.trans hF
    refine lv_tableIn (tgt := 122) hx hb dX9_count_1 (by rw [j25]; decide) (by rw [j25]; decide) (by rw [j25]; rfl) (by decide) ?_
    refine lv_aload_n hx hb dX9_count_122 rfl (lv_at hl 0 rfl) ?_
    refine lv_iload_n hx hb dX9_count_123 rfl (lv_at hl 1 rfl) ?_
    obtain ⟨r26, hq29, hF⟩ := bd1_s hF
    refine gvI (As := [.int ar1]) (rest := []) ⟨hx, hb, hml, hown, hts⟩ (zX9_greatestWaited l D x cy g L K cf nm hG hL S hT _ ar1  r26 hq29) (cwV 1 hts gX9_count_X9_greatestWaited rfl rfl rfl (by decide +kernel) ⟨Nat.le_of_ble_eq_true rfl, Nat.le_of_ble_eq_true rfl⟩) hK hP hD hS hA (va_recv hK hP (ci := 9) (q0 := 0) rfl rfl) rfl hl.1 rfl (Nat.le_of_ble_eq_true rfl) dX9_count_124 ⟨Nat.le_of_ble_eq_true rfl, Nat.le_of_ble_eq_true rfl⟩ (fun a30 u9 H locs hw28 hP hD hS => ?_)
    have hP : va_P D vwCl (ZW x cy g S ++ va_pl L (pf cy K cf nm S)) H := hP
    have hD : va_D _ (ZW x cy g S ++ va_pl L (pf cy K cf nm S)) := hD
    refine lv_tov (v' := .int r26) (congrArg Value.int hw28) ?_
    have e1 := Option.some.inj hF
    exact W.iret (v := r26) hx hb hr (fun t ht hW => ⟨⟨r26, (), rfl, e1, by rw [ht]; exact hP, va_K.moved hW.alike hK, hD⟩, hS.F ht⟩) hS.2.2 dX9_count_127
  replace hF := (if_neg j25).symm.trans hF
  by_cases j31 : ar1 = 9
  · skip
    have hF := (if_pos j31).symm.trans hF
    refine lv_tableIn (tgt := 122) hx hb dX9_count_1 (by rw [j31]; decide) (by rw [j31]; decide) (by rw [j31]; rfl) (by decide) ?_
    refine lv_aload_n hx hb dX9_count_122 rfl (lv_at hl 0 rfl) ?_
    refine lv_iload_n hx hb dX9_count_123 rfl (lv_at hl 1 rfl) ?_
    obtain ⟨r32, hq35, hF⟩ := bd1_s hF
    refine gvI (As := [.int ar1]) (rest := []) ⟨hx, hb, hml, hown, hts⟩ (zX9_greatestWaited l D x cy g L K cf nm hG hL S hT _ ar1  r32 hq35) (cwV 1 hts gX9_count_X9_greatestWaited rfl rfl rfl (by decide +kernel) ⟨Nat.le_of_ble_eq_true rfl, Nat.le_of_ble_eq_true rfl⟩) hK hP hD hS hA (va_recv hK hP (ci := 9) (q0 := 0) rfl rfl) rfl hl.1 rfl (Nat.le_of_ble_eq_true rfl) dX9_count_124 ⟨Nat.le_of_ble_eq_true rfl, Nat.le_of_ble_eq_true rfl⟩ (fun a36 u9 H locs hw34 hP hD hS => ?_)
    have hP : va_P D vwCl (ZW x cy g S ++ va_pl L (pf cy K cf nm S)) H := hP
    have hD : va_D _ (ZW x cy g S ++ va_pl L (pf cy K cf nm S)) := hD
    refine lv_tov (v' := .int r32) (congrArg Value.int hw34) ?_
    have e1 := Option.some.inj hF
    exact W.iret (v := r32) hx hb hr (fun t ht hW => ⟨⟨r32, (), rfl, e1, by rw [ht]; exact hP, va_K.moved hW.alike hK, hD⟩, hS.F ht⟩) hS.2.2 dX9_count_127
  replace hF := (if_neg j31).symm.trans hF
  by_cases j37 : ar1 = 10
  · skip
    have hF := (if_pos j37).symm.trans hF
    refine lv_tableIn (tgt := 128) hx hb dX9_count_1 (by rw [j37]; decide) (by rw [j37]; decide) (by rw [j37]; rfl) (by decide) ?_
    refine lv_aload_n hx hb dX9_count_128 rfl (lv_at hl 0 rfl) ?_
    refine va_get (D := D) (ci := 9) (v := .int (S.1 200 6)) (C := RX9) (T := TX9) (N := 19) hx hb hts iX9_count_9 hown hK hP 0 rfl rfl 16 (by decide) (hts (.fieldLink RX9 278 "FondsRoom" "copiesMade" "I") (List.mem_of_getElem? (i := 7) rfl)) (fun _ h9 => h9) rfl dX9_count_129 ?_
    have e1 := Option.some.inj hF
    exact W.iret (v := (S.1 200 6)) hx hb hr (fun t ht hW => ⟨⟨(S.1 200 6), (), rfl, e1, by rw [ht]; exact hP, va_K.moved hW.alike hK, hD⟩, hS.F ht⟩) hS.2.2 dX9_count_132
  replace hF := (if_neg j37).symm.trans hF
  by_cases j38 : ar1 = 11
  · skip
    have hF := (if_pos j38).symm.trans hF
    refine lv_tableIn (tgt := 133) hx hb dX9_count_1 (by rw [j38]; decide) (by rw [j38]; decide) (by rw [j38]; rfl) (by decide) ?_
    refine lv_aload_n hx hb dX9_count_133 rfl (lv_at hl 0 rfl) ?_
    refine va_get (D := D) (ci := 9) (v := .int (S.1 200 7)) (C := RX9) (T := TX9) (N := 19) hx hb hts iX9_count_9 hown hK hP 0 rfl rfl 17 (by decide) (hts (.fieldLink RX9 392 "FondsRoom" "waysBegun" "I") (List.mem_of_getElem? (i := 8) rfl)) (fun _ h9 => h9) rfl dX9_count_134 ?_
    have e1 := Option.some.inj hF
    exact W.iret (v := (S.1 200 7)) hx hb hr (fun t ht hW => ⟨⟨(S.1 200 7), (), rfl, e1, by rw [ht]; exact hP, va_K.moved hW.alike hK, hD⟩, hS.F ht⟩) hS.2.2 dX9_count_137
  replace hF := (if_neg j38).symm.trans hF
  by_cases j39 : ar1 = 12
  · skip
    have hF := (if_pos j39).symm.trans hF
    refine lv_tableIn (tgt := 138) hx hb dX9_count_1 (by rw [j39]; decide) (by rw [j39]; decide) (by rw [j39]; rfl) (by decide) ?_
    refine lv_aload_n hx hb dX9_count_138 rfl (lv_at hl 0 rfl) ?_
    refine va_get (D := D) (ci := 9) (v := .int (S.1 200 5)) (C := RX9) (T := TX9) (N := 19) hx hb hts iX9_count_9 hown hK hP 0 rfl rfl 15 (by decide) (hts (.fieldLink RX9 75 "FondsRoom" "bellTurn" "I") (List.mem_of_getElem? (i := 9) rfl)) (fun _ h9 => h9) rfl dX9_count_139 ?_
    have e1 := Option.some.inj hF
    exact W.iret (v := (S.1 200 5)) hx hb hr (fun t ht hW => ⟨⟨(S.1 200 5), (), rfl, e1, by rw [ht]; exact hP, va_K.moved hW.alike hK, hD⟩, hS.F ht⟩) hS.2.2 dX9_count_142
  replace hF := (if_neg j39).symm.trans hF
  by_cases j40 : ar1 = 13
  · skip
    have hF := (if_pos j40).symm.trans hF
    refine lv_tableIn (tgt := 143) hx hb dX9_count_1 (by rw [j40]; decide) (by rw [j40]; decide) (by rw [j40]; rfl) (by decide) ?_
    refine lv_aload_n hx hb dX9_count_143 rfl (lv_at hl 0 rfl) ?_
    refine va_get (D := D) (ci := 9) (v := .ref (x 14)) (C := RX9) (T := TX9) (N := 19) hx hb hts iX9_count_9 hown hK hP 0 rfl rfl 8 (by decide) (hts (.fieldLink RX9 60 "FondsRoom" "mishaps" "LFondsRoom$Mishaps;") (List.mem_of_getElem? (i := 10) rfl)) (fun _ h9 => h9) rfl dX9_count_144 ?_
    refine va_get (D := D) (ci := 4) (v := .int (S.1 200 14)) (C := RX4) (T := TX4) (N := 4) hx hb hts iX9_count_4 hown hK hP 14 rfl rfl 3 (by decide) (hts (.fieldLink RX9 190 "FondsRoom$Mishaps" "size" "I") (List.mem_of_getElem? (i := 11) rfl)) (fun _ h9 => h9) rfl dX9_count_147 ?_
    have e1 := Option.some.inj hF
    exact W.iret (v := (S.1 200 14)) hx hb hr (fun t ht hW => ⟨⟨(S.1 200 14), (), rfl, e1, by rw [ht]; exact hP, va_K.moved hW.alike hK, hD⟩, hS.F ht⟩) hS.2.2 dX9_count_150
  replace hF := (if_neg j40).symm.trans hF
  by_cases j41 : ar1 = 14
  · skip
    have hF := (if_pos j41).symm.trans hF
    refine lv_tableIn (tgt := 151) hx hb dX9_count_1 (by rw [j41]; decide) (by rw [j41]; decide) (by rw [j41]; rfl) (by decide) ?_
    refine lv_aload_n hx hb dX9_count_151 rfl (lv_at hl 0 rfl) ?_
    refine va_get (D := D) (ci := 9) (v := .int (S.1 200 8)) (C := RX9) (T := TX9) (N := 19) hx hb hts iX9_count_9 hown hK hP 0 rfl rfl 18 (by decide) (hts (.fieldLink RX9 408 "FondsRoom" "urgentRow" "I") (List.mem_of_getElem? (i := 12) rfl)) (fun _ h9 => h9) rfl dX9_count_152 ?_
    have e1 := Option.some.inj hF
    exact W.iret (v := (S.1 200 8)) hx hb hr (fun t ht hW => ⟨⟨(S.1 200 8), (), rfl, e1, by rw [ht]; exact hP, va_K.moved hW.alike hK, hD⟩, hS.F ht⟩) hS.2.2 dX9_count_155
  replace hF := (if_neg j41).symm.trans hF
  have zj1 : (ar1).toInt ≠ 0 := fun h9 => j1 ((fa_eq _ _).mpr (h9.trans (by decide)))
  have zj2 : (ar1).toInt ≠ 1 := fun h9 => j2 ((fa_eq _ _).mpr (h9.trans (by decide)))
  have zj3 : (ar1).toInt ≠ 2 := fun h9 => j3 ((fa_eq _ _).mpr (h9.trans (by decide)))
  have zj4 : (ar1).toInt ≠ 3 := fun h9 => j4 ((fa_eq _ _).mpr (h9.trans (by decide)))
  have zj5 : (ar1).toInt ≠ 4 := fun h9 => j5 ((fa_eq _ _).mpr (h9.trans (by decide)))
  have zj6 : (ar1).toInt ≠ 5 := fun h9 => j6 ((fa_eq _ _).mpr (h9.trans (by decide)))
  have zj12 : (ar1).toInt ≠ 6 := fun h9 => j12 ((fa_eq _ _).mpr (h9.trans (by decide)))
  have zj19 : (ar1).toInt ≠ 7 := fun h9 => j19 ((fa_eq _ _).mpr (h9.trans (by decide)))
  have zj25 : (ar1).toInt ≠ 8 := fun h9 => j25 ((fa_eq _ _).mpr (h9.trans (by decide)))
  have zj31 : (ar1).toInt ≠ 9 := fun h9 => j31 ((fa_eq _ _).mpr (h9.trans (by decide)))
  have zj37 : (ar1).toInt ≠ 10 := fun h9 => j37 ((fa_eq _ _).mpr (h9.trans (by decide)))
  have zj38 : (ar1).toInt ≠ 11 := fun h9 => j38 ((fa_eq _ _).mpr (h9.trans (by decide)))
  have zj39 : (ar1).toInt ≠ 12 := fun h9 => j39 ((fa_eq _ _).mpr (h9.trans (by decide)))
  have zj40 : (ar1).toInt ≠ 13 := fun h9 => j40 ((fa_eq _ _).mpr (h9.trans (by decide)))
  have zj41 : (ar1).toInt ≠ 14 := fun h9 => j41 ((fa_eq _ _).mpr (h9.trans (by decide)))
  refine lv_tableOut (tgt := 156) hx hb dX9_count_1 (by omega) (by decide) ?_
  refine lv_iconst (v := (-1)) hx hb dX9_count_156 (by decide) ?_
  have e1 := Option.some.inj hF
  exact W.iret (v := (-1)) hx hb hr (fun t ht hW => ⟨⟨(-1), (), rfl, e1, by rw [ht]; exact hP, va_K.moved hW.alike hK, hD⟩, hS.F ht⟩) hS.2.2 dX9_count_157
