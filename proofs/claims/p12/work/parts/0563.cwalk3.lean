theorem iX9_readersRead_6 : ∀ w ∈ wsX60, w ∈ wsX9_readersRead := fun _ h => List.mem_cons_of_mem _ (List.mem_append_right _ h)
theorem iX9_readersRead_9 : ∀ w ∈ wsX90, w ∈ wsX9_readersRead := fun _ h => List.mem_cons_of_mem _ (List.mem_append_left _ (List.mem_append_right _ h))
set_option maxHeartbeats 8000000 in
set_option maxRecDepth 100000 in
theorem zX9_readersRead (l : Launch) (D : va_G) (x : Nat → Nat) (cy : Nat → ClassId) (g : Nat → Nat → Option Nat) (L : List Nat) (K : Nat → Nat) (cf : Nat → Nat → Nat) (nm : Nat → Int32) (hG : GO L K g) (hL : PL L K cf) (S0 : CS) (hT : WT L K S0.2) (sz : Nat)   (Sf : CS) (hF : gX9_readersRead g cf nm S0  = some Sf) : Met l yX9_readersRead wsX9_readersRead ({ frames := 0, cells := 0, slots := 0, locals := 0 }) (PW D (TYS cy) (ZW x cy g S0 ++ va_pl L (pf cy K cf nm S0)) sz [.ref (x 0)]) (va_Qv (fun (u : Unit) => WT L K Sf.2) (BU D (TYS cy) (ZW x cy g S0 ++ va_pl L (pf cy K cf nm S0)) (fun _ => ZW x cy g Sf ++ va_pl L (pf cy K cf nm Sf)) sz) (va_A (ZW x cy g S0 ++ va_pl L (pf cy K cf nm S0)) sz)) 0 0 (va_A (ZW x cy g S0 ++ va_pl L (pf cy K cf nm S0)) sz) := by
  refine Met.ofW (cc := cX9_readersRead) (maxL := 3) (ret := none) (by decide) rfl ?_
  intro p e s m args below meth c s₁ B hml hv
  obtain ⟨rfl, hsz, hP, hK, hD0⟩ := hv
  have hx := B.exec
  have hb := B.bytes
  have hr := B.returns
  have hts := atoms_spec (ws := wsX9_readersRead) B.pre
  have hown : s.vm.findClass RX9 = some m.cls := findClass_of_methodNamed B.named
  have hlocks := B.notSynchronized
  subst hsz
  have hD := hD0.self (sz := s.heap.size)
  have hA : ∀ q9 : Nat, s.heap.size ≤ q9 → va_A (ZW x cy g S0 ++ va_pl L (pf cy K cf nm S0)) s.heap.size q9 := fun q9 h => Or.inr h
  have hS : va_S (va_A (ZW x cy g S0 ++ va_pl L (pf cy K cf nm S0)) s.heap.size) s.heap s.heap [] := va_S.rf
  have key2 : ∀ (KK : CS → Option (CS)), (∀  (S : CS) (H : Heap) (locs : List Loc) (ls : Array Slot), KK  S = some Sf → WT L K S.2 → va_P D vwCl (ZW x cy g S ++ va_pl L (pf cy K cf nm S)) H → va_D (va_A (ZW x cy g S0 ++ va_pl L (pf cy K cf nm S0)) s.heap.size) (ZW x cy g S ++ va_pl L (pf cy K cf nm S)) → va_S (va_A (ZW x cy g S0 ++ va_pl L (pf cy K cf nm S0)) s.heap.size) s.heap H locs → lv_has ls 3 [] → W p l e (headSpec wsX9_readersRead ({ frames := 0, cells := 0, slots := 0, locals := 0 })).room s m #[.ref (x 0)] below meth c H locs 0 0 (MQ below (va_Qv (fun (u : Unit) => WT L K Sf.2) (BU D (TYS cy) (ZW x cy g S0 ++ va_pl L (pf cy K cf nm S0)) (fun _ => ZW x cy g Sf ++ va_pl L (pf cy K cf nm Sf)) s.heap.size) (va_A (ZW x cy g S0 ++ va_pl L (pf cy K cf nm S0)) s.heap.size)) #[.ref (x 0)] s 0 0 (va_A (ZW x cy g S0 ++ va_pl L (pf cy K cf nm S0)) s.heap.size)) (F0 m 57 ls [])) → ∀ (fu : Nat) (v1 : Int32) (S : CS) (H : Heap) (locs : List Loc) (ls : Array Slot), gX9_readersRead_2 g cf nm KK fu v1 S = some Sf → WT L K S.2 → va_P D vwCl (ZW x cy g S ++ va_pl L (pf cy K cf nm S)) H → va_D (va_A (ZW x cy g S0 ++ va_pl L (pf cy K cf nm S0)) s.heap.size) (ZW x cy g S ++ va_pl L (pf cy K cf nm S)) → va_S (va_A (ZW x cy g S0 ++ va_pl L (pf cy K cf nm S0)) s.heap.size) s.heap H locs → lv_has ls 3 [(1, .int v1), (0, .ref (x 0))] → W p l e (headSpec wsX9_readersRead ({ frames := 0, cells := 0, slots := 0, locals := 0 })).room s m #[.ref (x 0)] below meth c H locs 0 0 (MQ below (va_Qv (fun (u : Unit) => WT L K Sf.2) (BU D (TYS cy) (ZW x cy g S0 ++ va_pl L (pf cy K cf nm S0)) (fun _ => ZW x cy g Sf ++ va_pl L (pf cy K cf nm Sf)) s.heap.size) (va_A (ZW x cy g S0 ++ va_pl L (pf cy K cf nm S0)) s.heap.size)) #[.ref (x 0)] s 0 0 (va_A (ZW x cy g S0 ++ va_pl L (pf cy K cf nm S0)) s.heap.size)) (F0 m 2 ls []) := by
    intro KK hKK fu
    induction fu with
    | zero =>
      intro v1 S H locs ls hF
      exact absurd (show (none : Option (CS)) = some Sf from hF) (by simp)
    | succ fu2 ih2 =>
      intro v1 S H locs ls hF hT hP hD hS hl
      rw [gX9_readersRead_2] at hF
      refine lv_iload_n hx hb dX9_readersRead_2 rfl (lv_at hl 0 rfl) ?_
      refine lv_aload_n hx hb dX9_readersRead_3 rfl (lv_at hl 1 rfl) ?_
      refine va_get (D := D) (ci := 9) (v := .int (S.1 200 2)) (C := RX9) (T := TX9) (N := 19) hx hb hts iX9_readersRead_9 hown hK hP 0 rfl rfl 12 (by decide) (hts (.fieldLink RX9 104 "FondsRoom" "readerCount" "I") (List.mem_of_getElem? (i := 1) rfl)) (fun _ h9 => h9) rfl dX9_readersRead_4 ?_
      refine lv_icmp_ge (tgt := 57) hx hb dX9_readersRead_7 (by decide) (fun c1 => ?_) (fun c1 => ?_)
      · skip
        have hF := (if_pos c1).symm.trans hF
        exact hKK  S _ _ _ hF hT hP hD hS (lv_sub hl [] rfl)
      · skip
        have hF := (if_neg c1).symm.trans hF
        refine lv_aload_n hx hb dX9_readersRead_10 rfl (lv_at hl 1 rfl) ?_
        refine va_get (D := D) (ci := 9) (v := .ref (x 3)) (C := RX9) (T := TX9) (N := 19) hx hb hts iX9_readersRead_9 hown hK hP 0 rfl rfl 2 (by decide) (hts (.fieldLink RX9 27 "FondsRoom" "readers" "[LFondsRoom$Reader;") (List.mem_of_getElem? (i := 2) rfl)) (fun _ h9 => h9) rfl dX9_readersRead_11 ?_
        refine lv_iload_n hx hb dX9_readersRead_14 rfl (lv_at hl 0 rfl) ?_
        obtain ⟨hi2, b3, eb3, hF⟩ := ga_s hF
        refine va_aldq hx hb hK hP 3 4 rfl rfl hi2 dX9_readersRead_15 ?_
        refine lv_tov (v' := .ref b3) (by rw [eb3]; rfl) ?_
        have mb3 := GO_2 hG hi2 eb3
        refine lv_astore_n (lv' := [(2, .ref b3), (1, .int v1), (0, .ref (x 0))]) hx hb dX9_readersRead_16 rfl hl (by decide) rfl (fun ls hl => ?_)
        refine lv_aload_n hx hb dX9_readersRead_17 rfl (lv_at hl 0 rfl) ?_
        refine pg_get (D := D) (ci := 6) (v := .int (S.1 125 b3)) (C := RX6) (T := TX6) (N := 17) hx hb hts iX9_readersRead_6 hown hK hP mb3.1 (pf_6 mb3.2) rfl 5 (by decide) (hts (.fieldLink RX9 270 "FondsRoom$Reader" "state" "I") (List.mem_of_getElem? (i := 3) rfl)) (fun _ h9 => h9) rfl dX9_readersRead_18 ?_
        refine lv_iconst (v := 3) hx hb dX9_readersRead_21 (by decide) ?_
        refine lv_icmp_eq (tgt := 28) hx hb dX9_readersRead_22 (by decide) (fun c4 => ?_) (fun c4 => ?_)
        · skip
          have hF := (if_pos c4).symm.trans hF
          refine lv_aload_n hx hb dX9_readersRead_28 rfl (lv_at hl 0 rfl) ?_
          refine lv_dup hx hb dX9_readersRead_29 rfl ?_
          refine pg_get (D := D) (ci := 6) (v := .int (S.1 129 b3)) (C := RX6) (T := TX6) (N := 17) hx hb hts iX9_readersRead_6 hown hK hP mb3.1 (pf_6 mb3.2) rfl 9 (by decide) (hts (.fieldLink RX9 284 "FondsRoom$Reader" "readLeft" "I") (List.mem_of_getElem? (i := 4) rfl)) (fun _ h9 => h9) rfl dX9_readersRead_30 ?_
          refine lv_iconst (v := 1) hx hb dX9_readersRead_33 (by decide) ?_
          refine lv_isub hx hb dX9_readersRead_34 ?_
          refine pg_put (D := D) (ci := 6) (v := .int ((S.1 129 b3) - 1)) (ty := .int) (C := RX6) (T := TX6) (N := 17) hx hb hts iX9_readersRead_6 tyX6 tyX6_ok nmX6 hown hK hP hD hS mb3.1 (pf_6 mb3.2) rfl 9 (by decide) (hts (.fieldLink RX9 284 "FondsRoom$Reader" "readLeft" "I") (List.mem_of_getElem? (i := 4) rfl)) (fun _ h9 => h9) rfl (by decide +kernel) rfl rfl (Nat.le_of_ble_eq_true rfl) dX9_readersRead_35 (fun H locs hP hD hS => ?_)
          obtain ⟨S5, eS5⟩ : ∃ z, z = wi S 129 b3 ((S.1 129 b3) - 1) := ⟨_, rfl⟩
          replace hF := bnd_s hF S5 eS5
          have hP : va_P D vwCl (ZW x cy g S5 ++ va_pl L (pf cy K cf nm S5)) H := by rw [eS5]; rw [← pu_6_9 mb3.2]; exact hP
          have hD : va_D (va_A (ZW x cy g S0 ++ va_pl L (pf cy K cf nm S0)) s.heap.size) (ZW x cy g S5 ++ va_pl L (pf cy K cf nm S5)) := by rw [eS5]; rw [← pu_6_9 mb3.2]; exact hD
          have hT : WT L K S5.2 := by rw [eS5]; exact hT
          refine lv_aload_n hx hb dX9_readersRead_38 rfl (lv_at hl 0 rfl) ?_
          refine pg_get (D := D) (ci := 6) (v := .int (S5.1 129 b3)) (C := RX6) (T := TX6) (N := 17) hx hb hts iX9_readersRead_6 hown hK hP mb3.1 (pf_6 mb3.2) rfl 9 (by decide) (hts (.fieldLink RX9 284 "FondsRoom$Reader" "readLeft" "I") (List.mem_of_getElem? (i := 4) rfl)) (fun _ h9 => h9) rfl dX9_readersRead_39 ?_
          refine lv_if_gt (tgt := 51) hx hb dX9_readersRead_42 (by decide) (fun c6 => ?_) (fun c6 => ?_)
          · skip
            have hF := (if_pos c6).symm.trans hF
            refine lv_iinc (v := v1 + 1) (lv' := [(1, .int (v1 + 1)), (2, .ref b3), (0, .ref (x 0))]) hx hb dX9_readersRead_51 hl (k := 1) rfl rfl (by decide) rfl (fun ls hl => ?_)
            refine lv_goto (tgt := 2) hx hb dX9_readersRead_54 (by decide) ?_
            exact ih2 (v1 + 1) S5 _ _ _ hF hT hP hD hS (lv_sub hl [0, 2] rfl)
          · skip
            have hF := (if_neg c6).symm.trans hF
            refine lv_aload_n hx hb dX9_readersRead_45 rfl (lv_at hl 0 rfl) ?_
            refine lv_bipush (v := 8) hx hb dX9_readersRead_46 (by decide) ?_
            refine pg_put (D := D) (ci := 6) (v := .int 8) (ty := .int) (C := RX6) (T := TX6) (N := 17) hx hb hts iX9_readersRead_6 tyX6 tyX6_ok nmX6 hown hK hP hD hS mb3.1 (pf_6 mb3.2) rfl 5 (by decide) (hts (.fieldLink RX9 270 "FondsRoom$Reader" "state" "I") (List.mem_of_getElem? (i := 3) rfl)) (fun _ h9 => h9) rfl (by decide +kernel) rfl rfl (Nat.le_of_ble_eq_true rfl) dX9_readersRead_48 (fun H locs hP hD hS => ?_)
            obtain ⟨S7, eS7⟩ : ∃ z, z = wi S5 125 b3 8 := ⟨_, rfl⟩
            replace hF := bnd_s hF S7 eS7
            have hP : va_P D vwCl (ZW x cy g S7 ++ va_pl L (pf cy K cf nm S7)) H := by rw [eS7]; rw [← pu_6_5 mb3.2]; exact hP
            have hD : va_D (va_A (ZW x cy g S0 ++ va_pl L (pf cy K cf nm S0)) s.heap.size) (ZW x cy g S7 ++ va_pl L (pf cy K cf nm S7)) := by rw [eS7]; rw [← pu_6_5 mb3.2]; exact hD
            have hT : WT L K S7.2 := by rw [eS7]; exact hT
            refine lv_iinc (v := v1 + 1) (lv' := [(1, .int (v1 + 1)), (2, .ref b3), (0, .ref (x 0))]) hx hb dX9_readersRead_51 hl (k := 1) rfl rfl (by decide) rfl (fun ls hl => ?_)
            refine lv_goto (tgt := 2) hx hb dX9_readersRead_54 (by decide) ?_
            exact ih2 (v1 + 1) S7 _ _ _ hF hT hP hD hS (lv_sub hl [0, 2] rfl)
        · skip
          have hF := (if_neg c4).symm.trans hF
          refine lv_goto (tgt := 51) hx hb dX9_readersRead_25 (by decide) ?_
          refine lv_iinc (v := v1 + 1) (lv' := [(1, .int (v1 + 1)), (2, .ref b3), (0, .ref (x 0))]) hx hb dX9_readersRead_51 hl (k := 1) rfl rfl (by decide) rfl (fun ls hl => ?_)
          refine lv_goto (tgt := 2) hx hb dX9_readersRead_54 (by decide) ?_
          exact ih2 (v1 + 1) S _ _ _ hF hT hP hD hS (lv_sub hl [0, 2] rfl)
  have hl := lv_entry ([.ref (x 0)]) (n := 3) (Nat.le_of_ble_eq_true rfl)
  rw [lg_entry_eq]
  generalize (lg_sl ([.ref (x 0)]) ++ List.replicate (3 - (lg_sl ([.ref (x 0)])).length) Slot.unset).toArray = ls at hl ⊢
  have hl : lv_has ls 3 [(0, .ref (x 0))] := hl
  unfold gX9_readersRead at hF
  refine lv_iconst (v := 0) hx hb dX9_readersRead_0 (by decide) ?_
  refine lv_istore_n (lv' := [(1, .int 0), (0, .ref (x 0))]) hx hb dX9_readersRead_1 rfl hl (by decide) rfl (fun ls hl => ?_)
  refine key2 _ ?_ 1000 0 S0 _ _ _ hF hT hP hD hS (lv_sub hl [0, 1] rfl)
  intro S8 H locs ls hF hT hP hD hS hl
  have e2 := Option.some.inj hF
  have hP : va_P D vwCl (ZW x cy g Sf ++ va_pl L (pf cy K cf nm Sf)) H := by rw [← e2]; exact hP
  have hD : va_D (va_A (ZW x cy g S0 ++ va_pl L (pf cy K cf nm S0)) s.heap.size) (ZW x cy g Sf ++ va_pl L (pf cy K cf nm Sf)) := by rw [← e2]; exact hD
  have hT : WT L K Sf.2 := by rw [← e2]; exact hT
  exact W.vret hx hb hr (fun t ht hW => ⟨⟨(), rfl, hT, by rw [ht]; exact hP, va_K.moved hW.alike hK, hD⟩, hS.F ht⟩) hS.2.2 dX9_readersRead_57

theorem iX9_goOn_5 : ∀ w ∈ wsX50, w ∈ wsX9_goOn := fun _ h => List.mem_cons_of_mem _ (List.mem_append_left _ (List.mem_append_left _ (List.mem_append_left _ (List.mem_append_left _ (List.mem_append_left _ (List.mem_append_right _ h))))))
theorem iX9_goOn_6 : ∀ w ∈ wsX60, w ∈ wsX9_goOn := fun _ h => List.mem_cons_of_mem _ (List.mem_append_left _ (List.mem_append_left _ (List.mem_append_left _ (List.mem_append_left _ (List.mem_append_left _ (List.mem_append_left _ (List.mem_append_right _ h)))))))
theorem iX9_goOn_9 : ∀ w ∈ wsX90, w ∈ wsX9_goOn := fun _ h => List.mem_cons_of_mem _ (List.mem_append_left _ (List.mem_append_left _ (List.mem_append_left _ (List.mem_append_left _ (List.mem_append_right _ h)))))
set_option maxHeartbeats 8000000 in
set_option maxRecDepth 100000 in
theorem zX9_goOn (l : Launch) (D : va_G) (x : Nat → Nat) (cy : Nat → ClassId) (g : Nat → Nat → Option Nat) (L : List Nat) (K : Nat → Nat) (cf : Nat → Nat → Nat) (nm : Nat → Int32) (hG : GO L K g) (hL : PL L K cf) (S0 : CS) (hT : WT L K S0.2) (sz : Nat) (ar1 : Nat) (mar1 : ar1 ∈ L ∧ K ar1 = 6) (Sf : CS) (hF : gX9_goOn g cf nm S0 ar1 = some Sf) : Met l yX9_goOn wsX9_goOn ({ frames := 3, cells := 0, slots := 0, locals := 71 }) (PW D (TYS cy) (ZW x cy g S0 ++ va_pl L (pf cy K cf nm S0)) sz [.ref (x 0), .ref ar1]) (va_Qv (fun (u : Unit) => WT L K Sf.2) (BU D (TYS cy) (ZW x cy g S0 ++ va_pl L (pf cy K cf nm S0)) (fun _ => ZW x cy g Sf ++ va_pl L (pf cy K cf nm Sf)) sz) (va_A (ZW x cy g S0 ++ va_pl L (pf cy K cf nm S0)) sz)) 0 0 (va_A (ZW x cy g S0 ++ va_pl L (pf cy K cf nm S0)) sz) := by
  refine Met.ofW (cc := cX9_goOn) (maxL := 5) (ret := none) (by decide) rfl ?_
  intro p e s m args below meth c s₁ B hml hv
  obtain ⟨rfl, hsz, hP, hK, hD0⟩ := hv
  have hx := B.exec
  have hb := B.bytes
  have hr := B.returns
  have hts := atoms_spec (ws := wsX9_goOn) B.pre
  have hown : s.vm.findClass RX9 = some m.cls := findClass_of_methodNamed B.named
  have hlocks := B.notSynchronized
  subst hsz
  have hD := hD0.self (sz := s.heap.size)
  have hA : ∀ q9 : Nat, s.heap.size ≤ q9 → va_A (ZW x cy g S0 ++ va_pl L (pf cy K cf nm S0)) s.heap.size q9 := fun q9 h => Or.inr h
  have hS : va_S (va_A (ZW x cy g S0 ++ va_pl L (pf cy K cf nm S0)) s.heap.size) s.heap s.heap [] := va_S.rf
  have key10 : ∀ (KK : Nat → CS → Option (CS)), (∀ (v1 : Nat) (S : CS) (H : Heap) (locs : List Loc) (ls : Array Slot), KK v1 S = some Sf → WT L K S.2 → (v1 ∈ L ∧ K v1 = 6) → va_P D vwCl (ZW x cy g S ++ va_pl L (pf cy K cf nm S)) H → va_D (va_A (ZW x cy g S0 ++ va_pl L (pf cy K cf nm S0)) s.heap.size) (ZW x cy g S ++ va_pl L (pf cy K cf nm S)) → va_S (va_A (ZW x cy g S0 ++ va_pl L (pf cy K cf nm S0)) s.heap.size) s.heap H locs → lv_has ls 5 [(1, .ref v1), (0, .ref (x 0))] → W p l e (headSpec wsX9_goOn ({ frames := 3, cells := 0, slots := 0, locals := 71 })).room s m #[.ref (x 0), .ref ar1] below meth c H locs 0 0 (MQ below (va_Qv (fun (u : Unit) => WT L K Sf.2) (BU D (TYS cy) (ZW x cy g S0 ++ va_pl L (pf cy K cf nm S0)) (fun _ => ZW x cy g Sf ++ va_pl L (pf cy K cf nm Sf)) s.heap.size) (va_A (ZW x cy g S0 ++ va_pl L (pf cy K cf nm S0)) s.heap.size)) #[.ref (x 0), .ref ar1] s 0 0 (va_A (ZW x cy g S0 ++ va_pl L (pf cy K cf nm S0)) s.heap.size)) (F0 m 151 ls [])) → ∀ (fu : Nat) (v1 : Nat) (v2 : Nat) (v3 : Int32) (S : CS) (H : Heap) (locs : List Loc) (ls : Array Slot), gX9_goOn_10 g cf nm KK fu v1 v2 v3 S = some Sf → WT L K S.2 → (v1 ∈ L ∧ K v1 = 6) → (v2 ∈ L ∧ K v2 = 5) → va_P D vwCl (ZW x cy g S ++ va_pl L (pf cy K cf nm S)) H → va_D (va_A (ZW x cy g S0 ++ va_pl L (pf cy K cf nm S0)) s.heap.size) (ZW x cy g S ++ va_pl L (pf cy K cf nm S)) → va_S (va_A (ZW x cy g S0 ++ va_pl L (pf cy K cf nm S0)) s.heap.size) s.heap H locs → lv_has ls 5 [(1, .ref v1), (2, .ref v2), (3, .int v3), (0, .ref (x 0))] → W p l e (headSpec wsX9_goOn ({ frames := 3, cells := 0, slots := 0, locals := 71 })).room s m #[.ref (x 0), .ref ar1] below meth c H locs 0 0 (MQ below (va_Qv (fun (u : Unit) => WT L K Sf.2) (BU D (TYS cy) (ZW x cy g S0 ++ va_pl L (pf cy K cf nm S0)) (fun _ => ZW x cy g Sf ++ va_pl L (pf cy K cf nm Sf)) s.heap.size) (va_A (ZW x cy g S0 ++ va_pl L (pf cy K cf nm S0)) s.heap.size)) #[.ref (x 0), .ref ar1] s 0 0 (va_A (ZW x cy g S0 ++ va_pl L (pf cy K cf nm S0)) s.heap.size)) (F0 m 10 ls []) := by
    intro KK hKK fu
    induction fu with
    | zero =>
      intro v1 v2 v3 S H locs ls hF
      exact absurd (show (none : Option (CS)) = some Sf from hF) (by simp)
    | succ fu10 ih10 =>
      intro v1 v2 v3 S H locs ls hF hT mv1 mv2 hP hD hS hl
      rw [gX9_goOn_10] at hF
      refine lv_iload_n hx hb dX9_goOn_10 rfl (lv_at hl 2 rfl) ?_
      refine lv_aload_n hx hb dX9_goOn_11 rfl (lv_at hl 1 rfl) ?_
      refine pg_get (D := D) (ci := 5) (v := .int (S.1 105 v2)) (C := RX5) (T := TX5) (N := 8) hx hb hts iX9_goOn_5 hown hK hP mv2.1 (pf_5 mv2.2) rfl 5 (by decide) (hts (.fieldLink RX9 293 "FondsRoom$Plan" "size" "I") (List.mem_of_getElem? (i := 3) rfl)) (fun _ h9 => h9) rfl dX9_goOn_12 ?_
      refine lv_icmp_ge (tgt := 151) hx hb dX9_goOn_15 (by decide) (fun c2 => ?_) (fun c2 => ?_)
      · skip
        have hF := (if_pos c2).symm.trans hF
        exact hKK v1 S _ _ _ hF hT ⟨mv1.1, mv1.2⟩ hP hD hS (lv_sub hl [0, 3] rfl)
      · skip
        have hF := (if_neg c2).symm.trans hF
        refine lv_aload_n hx hb dX9_goOn_18 rfl (lv_at hl 0 rfl) ?_
        refine pg_get (D := D) (ci := 6) (v := .int (S.1 125 v1)) (C := RX6) (T := TX6) (N := 17) hx hb hts iX9_goOn_6 hown hK hP mv1.1 (pf_6 mv1.2) rfl 5 (by decide) (hts (.fieldLink RX9 270 "FondsRoom$Reader" "state" "I") (List.mem_of_getElem? (i := 4) rfl)) (fun _ h9 => h9) rfl dX9_goOn_19 ?_
        refine lv_bipush (v := 8) hx hb dX9_goOn_22 (by decide) ?_
        refine lv_icmp_ne (tgt := 151) hx hb dX9_goOn_24 (by decide) (fun c3 => ?_) (fun c3 => ?_)
        · skip
          have hF := (if_neg c3).symm.trans hF
          exact hKK v1 S _ _ _ hF hT ⟨mv1.1, mv1.2⟩ hP hD hS (lv_sub hl [0, 3] rfl)
        · skip
          have hF := (if_pos c3).symm.trans hF
          refine lv_aload_n hx hb dX9_goOn_27 rfl (lv_at hl 1 rfl) ?_
          refine lv_iload_n hx hb dX9_goOn_28 rfl (lv_at hl 2 rfl) ?_
          refine lv_iconst (v := 1) hx hb dX9_goOn_29 (by decide) ?_
          refine lv_iadd hx hb dX9_goOn_30 ?_
          refine pg_put (D := D) (ci := 5) (v := .int (v3 + 1)) (ty := .int) (C := RX5) (T := TX5) (N := 8) hx hb hts iX9_goOn_5 tyX5 tyX5_ok nmX5 hown hK hP hD hS mv2.1 (pf_5 mv2.2) rfl 6 (by decide) (hts (.fieldLink RX9 290 "FondsRoom$Plan" "begun" "I") (List.mem_of_getElem? (i := 2) rfl)) (fun _ h9 => h9) rfl (by decide +kernel) rfl rfl (Nat.le_of_ble_eq_true rfl) dX9_goOn_31 (fun H locs hP hD hS => ?_)
          obtain ⟨S4, eS4⟩ : ∃ z, z = wi S 106 v2 (v3 + 1) := ⟨_, rfl⟩
          replace hF := bnd_s hF S4 eS4
          have hP : va_P D vwCl (ZW x cy g S4 ++ va_pl L (pf cy K cf nm S4)) H := by rw [eS4]; rw [← pu_5_6 mv2.2]; exact hP
          have hD : va_D (va_A (ZW x cy g S0 ++ va_pl L (pf cy K cf nm S0)) s.heap.size) (ZW x cy g S4 ++ va_pl L (pf cy K cf nm S4)) := by rw [eS4]; rw [← pu_5_6 mv2.2]; exact hD
          have hT : WT L K S4.2 := by rw [eS4]; exact hT
          refine lv_aload_n hx hb dX9_goOn_34 rfl (lv_at hl 3 rfl) ?_
          refine lv_aload_n hx hb dX9_goOn_35 rfl (lv_at hl 1 rfl) ?_
          refine pg_get (D := D) (ci := 5) (v := .ref (cf 2 v2)) (C := RX5) (T := TX5) (N := 8) hx hb hts iX9_goOn_5 hown hK hP mv2.1 (pf_5 mv2.2) rfl 1 (by decide) (hts (.fieldLink RX9 294 "FondsRoom$Plan" "boxes" "[I") (List.mem_of_getElem? (i := 5) rfl)) (fun _ h9 => h9) rfl dX9_goOn_36 ?_
          obtain ⟨p5, ep5⟩ : ∃ z, z = cf 2 v2 := ⟨_, rfl⟩
          replace hF := bnd_s hF p5 ep5
          have mp5 : p5 ∈ L ∧ K p5 = 12 := by rw [ep5]; exact ((hL _ mv2.1).2.2 mv2.2).2.1
          refine lv_tov (v' := .ref p5) (by rw [ep5]) ?_
          refine lv_iload_n hx hb dX9_goOn_39 rfl (lv_at hl 2 rfl) ?_
          obtain ⟨hi7, hF⟩ := ld_s hF
          refine pg_iald hx hb hK hP mp5.1 0 (pf_12 mp5.2) rfl hi7 dX9_goOn_40 ?_
          refine lv_topi (fun y6 ey6 => ?_)
          replace hF := hF y6 ey6
          obtain ⟨r8, hq11, hF⟩ := bd1_s hF
          refine gvI (As := [.int y6]) (rest := []) ⟨hx, hb, hml, hown, hts⟩ (zX9_isBox l D x cy g L K cf nm hG hL S4 hT _ y6  r8 hq11) (cwV 1 hts gX9_goOn_X9_isBox rfl rfl rfl (by decide +kernel) ⟨Nat.le_of_ble_eq_true rfl, Nat.le_of_ble_eq_true rfl⟩) hK hP hD hS hA (va_recv hK hP (ci := 9) (q0 := 0) rfl rfl) rfl hl.1 rfl (Nat.le_of_ble_eq_true rfl) dX9_goOn_41 ⟨Nat.le_of_ble_eq_true rfl, Nat.le_of_ble_eq_true rfl⟩ (fun a12 u9 H locs hw10 hP hD hS => ?_)
          have hP : va_P D vwCl (ZW x cy g S4 ++ va_pl L (pf cy K cf nm S4)) H := hP
          have hD : va_D _ (ZW x cy g S4 ++ va_pl L (pf cy K cf nm S4)) := hD
          refine lv_tov (v' := .int r8) (congrArg Value.int hw10.1) ?_
          refine lv_if_eq (tgt := 61) hx hb dX9_goOn_44 (by decide) (fun c13 => ?_) (fun c13 => ?_)
          · skip
            have hF := (if_pos c13).symm.trans hF
            refine lv_null hx hb dX9_goOn_61 ?_
            refine lv_astoreN (lv' := [(4, .null), (1, .ref v1), (2, .ref v2), (3, .int v3), (0, .ref (x 0))]) hx hb dX9_goOn_62 hl (by decide) rfl (fun ls hl => ?_)
            refine lv_aloadN hx hb dX9_goOn_64 (lv_at hl 0 rfl) ?_
            refine lv_ifnonnullN hx hb dX9_goOn_66 ?_
            refine lv_aload_n hx hb dX9_goOn_69 rfl (lv_at hl 1 rfl) ?_
            refine lv_aload_n hx hb dX9_goOn_70 rfl (lv_at hl 2 rfl) ?_
            refine pg_get (D := D) (ci := 5) (v := .ref (cf 3 v2)) (C := RX5) (T := TX5) (N := 8) hx hb hts iX9_goOn_5 hown hK hP mv2.1 (pf_5 mv2.2) rfl 2 (by decide) (hts (.fieldLink RX9 296 "FondsRoom$Plan" "amounts" "[I") (List.mem_of_getElem? (i := 7) rfl)) (fun _ h9 => h9) rfl dX9_goOn_71 ?_
            obtain ⟨p14, ep14⟩ : ∃ z, z = cf 3 v2 := ⟨_, rfl⟩
            replace hF := bnd_s hF p14 ep14
            have mp14 : p14 ∈ L ∧ K p14 = 12 := by rw [ep14]; exact ((hL _ mv2.1).2.2 mv2.2).2.2.1
            refine lv_tov (v' := .ref p14) (by rw [ep14]) ?_
            refine lv_iload_n hx hb dX9_goOn_74 rfl (lv_at hl 3 rfl) ?_
            obtain ⟨hi16, hF⟩ := ld_s hF
            refine pg_iald hx hb hK hP mp14.1 0 (pf_12 mp14.2) rfl hi16 dX9_goOn_75 ?_
            refine lv_topi (fun y15 ey15 => ?_)
            replace hF := hF y15 ey15
            refine pg_put (D := D) (ci := 6) (v := .int y15) (ty := .int) (C := RX6) (T := TX6) (N := 17) hx hb hts iX9_goOn_6 tyX6 tyX6_ok nmX6 hown hK hP hD hS mv1.1 (pf_6 mv1.2) rfl 9 (by decide) (hts (.fieldLink RX9 284 "FondsRoom$Reader" "readLeft" "I") (List.mem_of_getElem? (i := 8) rfl)) (fun _ h9 => h9) rfl (by decide +kernel) rfl rfl (Nat.le_of_ble_eq_true rfl) dX9_goOn_76 (fun H locs hP hD hS => ?_)
            obtain ⟨S17, eS17⟩ : ∃ z, z = wi S4 129 v1 y15 := ⟨_, rfl⟩
            replace hF := bnd_s hF S17 eS17
            have hP : va_P D vwCl (ZW x cy g S17 ++ va_pl L (pf cy K cf nm S17)) H := by rw [eS17]; rw [← pu_6_9 mv1.2]; exact hP
            have hD : va_D (va_A (ZW x cy g S0 ++ va_pl L (pf cy K cf nm S0)) s.heap.size) (ZW x cy g S17 ++ va_pl L (pf cy K cf nm S17)) := by rw [eS17]; rw [← pu_6_9 mv1.2]; exact hD
            have hT : WT L K S17.2 := by rw [eS17]; exact hT
            refine lv_aload_n hx hb dX9_goOn_79 rfl (lv_at hl 1 rfl) ?_
            refine lv_iconst (v := 3) hx hb dX9_goOn_80 (by decide) ?_
            refine pg_put (D := D) (ci := 6) (v := .int 3) (ty := .int) (C := RX6) (T := TX6) (N := 17) hx hb hts iX9_goOn_6 tyX6 tyX6_ok nmX6 hown hK hP hD hS mv1.1 (pf_6 mv1.2) rfl 5 (by decide) (hts (.fieldLink RX9 270 "FondsRoom$Reader" "state" "I") (List.mem_of_getElem? (i := 4) rfl)) (fun _ h9 => h9) rfl (by decide +kernel) rfl rfl (Nat.le_of_ble_eq_true rfl) dX9_goOn_81 (fun H locs hP hD hS => ?_)
            obtain ⟨S18, eS18⟩ : ∃ z, z = wi S17 125 v1 3 := ⟨_, rfl⟩
            replace hF := bnd_s hF S18 eS18
            have hP : va_P D vwCl (ZW x cy g S18 ++ va_pl L (pf cy K cf nm S18)) H := by rw [eS18]; rw [← pu_6_5 mv1.2]; exact hP
            have hD : va_D (va_A (ZW x cy g S0 ++ va_pl L (pf cy K cf nm S0)) s.heap.size) (ZW x cy g S18 ++ va_pl L (pf cy K cf nm S18)) := by rw [eS18]; rw [← pu_6_5 mv1.2]; exact hD
            have hT : WT L K S18.2 := by rw [eS18]; exact hT
            refine lv_goto (tgt := 145) hx hb dX9_goOn_84 (by decide) ?_
            refine lv_iinc (v := v3 + 1) (lv' := [(3, .int (v3 + 1)), (4, .null), (1, .ref v1), (2, .ref v2), (0, .ref (x 0))]) hx hb dX9_goOn_145 hl (k := 3) rfl rfl (by decide) rfl (fun ls hl => ?_)
            refine lv_goto (tgt := 10) hx hb dX9_goOn_148 (by decide) ?_
            exact ih10 v1 v2 (v3 + 1) S18 _ _ _ hF hT ⟨mv1.1, mv1.2⟩ ⟨mv2.1, mv2.2⟩ hP hD hS (lv_sub hl [2, 3, 0, 4] rfl)
          · skip
            have hF := (if_neg c13).symm.trans hF
            refine lv_aload_n hx hb dX9_goOn_47 rfl (lv_at hl 3 rfl) ?_
            refine va_get (D := D) (ci := 9) (v := .ref (x 2)) (C := RX9) (T := TX9) (N := 19) hx hb hts iX9_goOn_9 hown hK hP 0 rfl rfl 1 (by decide) (hts (.fieldLink RX9 20 "FondsRoom" "boxes" "[LFondsRoom$Box;") (List.mem_of_getElem? (i := 6) rfl)) (fun _ h9 => h9) rfl dX9_goOn_48 ?_
            refine lv_aload_n hx hb dX9_goOn_51 rfl (lv_at hl 1 rfl) ?_
            refine pg_get (D := D) (ci := 5) (v := .ref (cf 2 v2)) (C := RX5) (T := TX5) (N := 8) hx hb hts iX9_goOn_5 hown hK hP mv2.1 (pf_5 mv2.2) rfl 1 (by decide) (hts (.fieldLink RX9 294 "FondsRoom$Plan" "boxes" "[I") (List.mem_of_getElem? (i := 5) rfl)) (fun _ h9 => h9) rfl dX9_goOn_52 ?_
            obtain ⟨p19, ep19⟩ : ∃ z, z = cf 2 v2 := ⟨_, rfl⟩
            replace hF := bnd_s hF p19 ep19
            have mp19 : p19 ∈ L ∧ K p19 = 12 := by rw [ep19]; exact ((hL _ mv2.1).2.2 mv2.2).2.1
            refine lv_tov (v' := .ref p19) (by rw [ep19]) ?_
            refine lv_iload_n hx hb dX9_goOn_55 rfl (lv_at hl 2 rfl) ?_
            obtain ⟨hi21, hF⟩ := ld_s hF
            refine pg_iald hx hb hK hP mp19.1 0 (pf_12 mp19.2) rfl hi21 dX9_goOn_56 ?_
            refine lv_topi (fun y20 ey20 => ?_)
            replace hF := hF y20 ey20
            obtain ⟨hi22, b23, eb23, hF⟩ := ga_s hF
            refine va_aldq hx hb hK hP 2 3 rfl rfl hi22 dX9_goOn_57 ?_
            refine lv_tov (v' := .ref b23) (by rw [eb23]; rfl) ?_
            have mb23 := GO_1 hG hi22 eb23
            refine lv_goto (tgt := 62) hx hb dX9_goOn_58 (by decide) ?_
            refine lv_astore (lv' := [(4, .ref b23), (1, .ref v1), (2, .ref v2), (3, .int v3), (0, .ref (x 0))]) hx hb dX9_goOn_62 hl (by decide) rfl (fun ls hl => ?_)
            refine lv_aload hx hb dX9_goOn_64 (lv_at hl 0 rfl) ?_
            refine lv_ifnonnull (tgt := 87) hx hb dX9_goOn_66 (by decide) ?_
            refine lv_aload_n hx hb dX9_goOn_87 rfl (lv_at hl 2 rfl) ?_
            refine pg_get (D := D) (ci := 5) (v := .ref (cf 1 v2)) (C := RX5) (T := TX5) (N := 8) hx hb hts iX9_goOn_5 hown hK hP mv2.1 (pf_5 mv2.2) rfl 0 (by decide) (hts (.fieldLink RX9 299 "FondsRoom$Plan" "kinds" "[I") (List.mem_of_getElem? (i := 9) rfl)) (fun _ h9 => h9) rfl dX9_goOn_88 ?_
            obtain ⟨p24, ep24⟩ : ∃ z, z = cf 1 v2 := ⟨_, rfl⟩
            replace hF := bnd_s hF p24 ep24
            have mp24 : p24 ∈ L ∧ K p24 = 12 := by rw [ep24]; exact ((hL _ mv2.1).2.2 mv2.2).1
            refine lv_tov (v' := .ref p24) (by rw [ep24]) ?_
            refine lv_iload_n hx hb dX9_goOn_91 rfl (lv_at hl 3 rfl) ?_
            obtain ⟨hi26, hF⟩ := ld_s hF
            refine pg_iald hx hb hK hP mp24.1 0 (pf_12 mp24.2) rfl hi26 dX9_goOn_92 ?_
            refine lv_topi (fun y25 ey25 => ?_)
            replace hF := hF y25 ey25
            refine lv_if_ne (tgt := 106) hx hb dX9_goOn_93 (by decide) (fun c27 => ?_) (fun c27 => ?_)
            · skip
              have hF := (if_neg c27).symm.trans hF
              refine lv_aload_n hx hb dX9_goOn_106 rfl (lv_at hl 2 rfl) ?_
              refine pg_get (D := D) (ci := 5) (v := .ref (cf 1 v2)) (C := RX5) (T := TX5) (N := 8) hx hb hts iX9_goOn_5 hown hK hP mv2.1 (pf_5 mv2.2) rfl 0 (by decide) (hts (.fieldLink RX9 299 "FondsRoom$Plan" "kinds" "[I") (List.mem_of_getElem? (i := 9) rfl)) (fun _ h9 => h9) rfl dX9_goOn_107 ?_
              obtain ⟨p28, ep28⟩ : ∃ z, z = cf 1 v2 := ⟨_, rfl⟩
              replace hF := bnd_s hF p28 ep28
              have mp28 : p28 ∈ L ∧ K p28 = 12 := by rw [ep28]; exact ((hL _ mv2.1).2.2 mv2.2).1
              refine lv_tov (v' := .ref p28) (by rw [ep28]) ?_
              refine lv_iload_n hx hb dX9_goOn_110 rfl (lv_at hl 3 rfl) ?_
              obtain ⟨hi30, hF⟩ := ld_s hF
              refine pg_iald hx hb hK hP mp28.1 0 (pf_12 mp28.2) rfl hi30 dX9_goOn_111 ?_
              refine lv_topi (fun y29 ey29 => ?_)
              replace hF := hF y29 ey29
              refine lv_iconst (v := 2) hx hb dX9_goOn_112 (by decide) ?_
              refine lv_icmp_ne (tgt := 138) hx hb dX9_goOn_113 (by decide) (fun c31 => ?_) (fun c31 => ?_)
              · skip
                have hF := (if_neg c31).symm.trans hF
                refine lv_aload_n hx hb dX9_goOn_138 rfl (lv_at hl 4 rfl) ?_
                refine lv_aload_n hx hb dX9_goOn_139 rfl (lv_at hl 1 rfl) ?_
                refine lv_aload hx hb dX9_goOn_140 (lv_at hl 0 rfl) ?_
                obtain ⟨S33, hq35, hF⟩ := bd1_s hF
                refine gvV (As := [.ref v1, .ref b23]) (rest := []) ⟨hx, hb, hml, hown, hts⟩ (zX9_giveBack l D x cy g L K cf nm hG hL S4 hT _ v1 b23 ⟨mv1.1, mv1.2⟩ ⟨mb23.1, mb23.2⟩ S33 hq35) (cwV 2 hts gX9_goOn_X9_giveBack rfl rfl rfl (by decide +kernel) ⟨Nat.le_of_ble_eq_true rfl, Nat.le_of_ble_eq_true rfl⟩) hK hP hD hS hA (va_recv hK hP (ci := 9) (q0 := 0) rfl rfl) rfl hl.1 rfl (Nat.le_of_ble_eq_true rfl) dX9_goOn_142 ⟨Nat.le_of_ble_eq_true rfl, Nat.le_of_ble_eq_true rfl⟩ (fun u9 H locs hw34 hP hD hS => ?_)
                have hT : WT L K S33.2 := hw34
                have hP : va_P D vwCl (ZW x cy g S33 ++ va_pl L (pf cy K cf nm S33)) H := hP
                have hD : va_D _ (ZW x cy g S33 ++ va_pl L (pf cy K cf nm S33)) := hD
                refine lv_iinc (v := v3 + 1) (lv' := [(3, .int (v3 + 1)), (4, .ref b23), (1, .ref v1), (2, .ref v2), (0, .ref (x 0))]) hx hb dX9_goOn_145 hl (k := 3) rfl rfl (by decide) rfl (fun ls hl => ?_)
                refine lv_goto (tgt := 10) hx hb dX9_goOn_148 (by decide) ?_
                exact ih10 v1 v2 (v3 + 1) S33 _ _ _ hF hT ⟨mv1.1, mv1.2⟩ ⟨mv2.1, mv2.2⟩ hP hD hS (lv_sub hl [2, 3, 0, 4] rfl)
              · skip
                have hF := (if_pos c31).symm.trans hF
                refine lv_aload_n hx hb dX9_goOn_116 rfl (lv_at hl 4 rfl) ?_
                refine lv_aload_n hx hb dX9_goOn_117 rfl (lv_at hl 1 rfl) ?_
                refine lv_aload hx hb dX9_goOn_118 (lv_at hl 0 rfl) ?_
                refine lv_aload_n hx hb dX9_goOn_120 rfl (lv_at hl 2 rfl) ?_
                refine pg_get (D := D) (ci := 5) (v := .ref (cf 3 v2)) (C := RX5) (T := TX5) (N := 8) hx hb hts iX9_goOn_5 hown hK hP mv2.1 (pf_5 mv2.2) rfl 2 (by decide) (hts (.fieldLink RX9 296 "FondsRoom$Plan" "amounts" "[I") (List.mem_of_getElem? (i := 7) rfl)) (fun _ h9 => h9) rfl dX9_goOn_121 ?_
                obtain ⟨p37, ep37⟩ : ∃ z, z = cf 3 v2 := ⟨_, rfl⟩
                replace hF := bnd_s hF p37 ep37
                have mp37 : p37 ∈ L ∧ K p37 = 12 := by rw [ep37]; exact ((hL _ mv2.1).2.2 mv2.2).2.2.1
                refine lv_tov (v' := .ref p37) (by rw [ep37]) ?_
                refine lv_iload_n hx hb dX9_goOn_124 rfl (lv_at hl 3 rfl) ?_
                obtain ⟨hi39, hF⟩ := ld_s hF
                refine pg_iald hx hb hK hP mp37.1 0 (pf_12 mp37.2) rfl hi39 dX9_goOn_125 ?_
                refine lv_topi (fun y38 ey38 => ?_)
                replace hF := hF y38 ey38
                refine lv_aload_n hx hb dX9_goOn_126 rfl (lv_at hl 2 rfl) ?_
                refine pg_get (D := D) (ci := 5) (v := .ref (cf 4 v2)) (C := RX5) (T := TX5) (N := 8) hx hb hts iX9_goOn_5 hown hK hP mv2.1 (pf_5 mv2.2) rfl 3 (by decide) (hts (.fieldLink RX9 304 "FondsRoom$Plan" "urgents" "[Z") (List.mem_of_getElem? (i := 10) rfl)) (fun _ h9 => h9) rfl dX9_goOn_127 ?_
                obtain ⟨p40, ep40⟩ : ∃ z, z = cf 4 v2 := ⟨_, rfl⟩
                replace hF := bnd_s hF p40 ep40
                have mp40 : p40 ∈ L ∧ K p40 = 13 := by rw [ep40]; exact ((hL _ mv2.1).2.2 mv2.2).2.2.2.1
                refine lv_tov (v' := .ref p40) (by rw [ep40]) ?_
                refine lv_iload_n hx hb dX9_goOn_130 rfl (lv_at hl 3 rfl) ?_
                obtain ⟨hi42, hF⟩ := ld_s hF
                refine pg_zald hx hb hK hP mp40.1 1 (pf_13 mp40.2) rfl hi42 dX9_goOn_131 ?_
                refine lv_topi (fun y41 ey41 => ?_)
                replace hF := hF y41 ey41
                obtain ⟨S44, hq46, hF⟩ := bd1_s hF
                refine gvV (As := [.ref v1, .ref b23, .int y38, .int y41]) (rest := []) ⟨hx, hb, hml, hown, hts⟩ (zX9_orderCopy l D x cy g L K cf nm hG hL S4 hT _ v1 b23 y38 y41 ⟨mv1.1, mv1.2⟩ ⟨mb23.1, mb23.2⟩ S44 hq46) (cwV 4 hts gX9_goOn_X9_orderCopy rfl rfl rfl (by decide +kernel) ⟨Nat.le_of_ble_eq_true rfl, Nat.le_of_ble_eq_true rfl⟩) hK hP hD hS hA (va_recv hK hP (ci := 9) (q0 := 0) rfl rfl) rfl hl.1 rfl (Nat.le_of_ble_eq_true rfl) dX9_goOn_132 ⟨Nat.le_of_ble_eq_true rfl, Nat.le_of_ble_eq_true rfl⟩ (fun u9 H locs hw45 hP hD hS => ?_)
                have hT : WT L K S44.2 := hw45
                have hP : va_P D vwCl (ZW x cy g S44 ++ va_pl L (pf cy K cf nm S44)) H := hP
                have hD : va_D _ (ZW x cy g S44 ++ va_pl L (pf cy K cf nm S44)) := hD
                refine lv_goto (tgt := 145) hx hb dX9_goOn_135 (by decide) ?_
                refine lv_iinc (v := v3 + 1) (lv' := [(3, .int (v3 + 1)), (4, .ref b23), (1, .ref v1), (2, .ref v2), (0, .ref (x 0))]) hx hb dX9_goOn_145 hl (k := 3) rfl rfl (by decide) rfl (fun ls hl => ?_)
                refine lv_goto (tgt := 10) hx hb dX9_goOn_148 (by decide) ?_
                exact ih10 v1 v2 (v3 + 1) S44 _ _ _ hF hT ⟨mv1.1, mv1.2⟩ ⟨mv2.1, mv2.2⟩ hP hD hS (lv_sub hl [2, 3, 0, 4] rfl)
            · skip
              have hF := (if_pos c27).symm.trans hF
              refine lv_aload_n hx hb dX9_goOn_96 rfl (lv_at hl 4 rfl) ?_
              refine lv_aload_n hx hb dX9_goOn_97 rfl (lv_at hl 1 rfl) ?_
              refine lv_aload hx hb dX9_goOn_98 (lv_at hl 0 rfl) ?_
              obtain ⟨S49, hq51, hF⟩ := bd1_s hF
              refine gvV (As := [.ref v1, .ref b23]) (rest := []) ⟨hx, hb, hml, hown, hts⟩ (zX9_askFor l D x cy g L K cf nm hG hL S4 hT _ v1 b23 ⟨mv1.1, mv1.2⟩ ⟨mb23.1, mb23.2⟩ S49 hq51) (cwV 2 hts gX9_goOn_X9_askFor rfl rfl rfl (by decide +kernel) ⟨Nat.le_of_ble_eq_true rfl, Nat.le_of_ble_eq_true rfl⟩) hK hP hD hS hA (va_recv hK hP (ci := 9) (q0 := 0) rfl rfl) rfl hl.1 rfl (Nat.le_of_ble_eq_true rfl) dX9_goOn_100 ⟨Nat.le_of_ble_eq_true rfl, Nat.le_of_ble_eq_true rfl⟩ (fun u9 H locs hw50 hP hD hS => ?_)
              have hT : WT L K S49.2 := hw50
              have hP : va_P D vwCl (ZW x cy g S49 ++ va_pl L (pf cy K cf nm S49)) H := hP
              have hD : va_D _ (ZW x cy g S49 ++ va_pl L (pf cy K cf nm S49)) := hD
              refine lv_goto (tgt := 145) hx hb dX9_goOn_103 (by decide) ?_
              refine lv_iinc (v := v3 + 1) (lv' := [(3, .int (v3 + 1)), (4, .ref b23), (1, .ref v1), (2, .ref v2), (0, .ref (x 0))]) hx hb dX9_goOn_145 hl (k := 3) rfl rfl (by decide) rfl (fun ls hl => ?_)
              refine lv_goto (tgt := 10) hx hb dX9_goOn_148 (by decide) ?_
              exact ih10 v1 v2 (v3 + 1) S49 _ _ _ hF hT ⟨mv1.1, mv1.2⟩ ⟨mv2.1, mv2.2⟩ hP hD hS (lv_sub hl [2, 3, 0, 4] rfl)
  have hl := lv_entry ([.ref (x 0), .ref ar1]) (n := 5) (Nat.le_of_ble_eq_true rfl)
  rw [lg_entry_eq]
  generalize (lg_sl ([.ref (x 0), .ref ar1]) ++ List.replicate (5 - (lg_sl ([.ref (x 0), .ref ar1])).length) Slot.unset).toArray = ls at hl ⊢
  have hl : lv_has ls 5 [(0, .ref (x 0)), (1, .ref ar1)] := hl
  unfold gX9_goOn at hF
  refine lv_aload_n hx hb dX9_goOn_0 rfl (lv_at hl 1 rfl) ?_
  refine pg_get (D := D) (ci := 6) (v := .ref (cf 0 ar1)) (C := RX6) (T := TX6) (N := 17) hx hb hts iX9_goOn_6 hown hK hP mar1.1 (pf_6 mar1.2) rfl 1 (by decide) (hts (.fieldLink RX9 135 "FondsRoom$Reader" "plan" "LFondsRoom$Plan;") (List.mem_of_getElem? (i := 1) rfl)) (fun _ h9 => h9) rfl dX9_goOn_1 ?_
  obtain ⟨p1, ep1⟩ : ∃ z, z = cf 0 ar1 := ⟨_, rfl⟩
  replace hF := bnd_s hF p1 ep1
  have mp1 : p1 ∈ L ∧ K p1 = 5 := by rw [ep1]; exact (hL _ mar1.1).2.1 mar1.2
  refine lv_tov (v' := .ref p1) (by rw [ep1]) ?_
  refine lv_astore_n (lv' := [(2, .ref p1), (0, .ref (x 0)), (1, .ref ar1)]) hx hb dX9_goOn_4 rfl hl (by decide) rfl (fun ls hl => ?_)
  refine lv_aload_n hx hb dX9_goOn_5 rfl (lv_at hl 0 rfl) ?_
  refine pg_get (D := D) (ci := 5) (v := .int (S0.1 106 p1)) (C := RX5) (T := TX5) (N := 8) hx hb hts iX9_goOn_5 hown hK hP mp1.1 (pf_5 mp1.2) rfl 6 (by decide) (hts (.fieldLink RX9 290 "FondsRoom$Plan" "begun" "I") (List.mem_of_getElem? (i := 2) rfl)) (fun _ h9 => h9) rfl dX9_goOn_6 ?_
  refine lv_istore_n (lv' := [(3, .int (S0.1 106 p1)), (2, .ref p1), (0, .ref (x 0)), (1, .ref ar1)]) hx hb dX9_goOn_9 rfl hl (by decide) rfl (fun ls hl => ?_)
  refine key10 _ ?_ 1000 ar1 p1 (S0.1 106 p1) S0 _ _ _ hF hT ⟨mar1.1, mar1.2⟩ ⟨mp1.1, mp1.2⟩ hP hD hS (lv_sub hl [3, 1, 0, 2] rfl)
  intro v1_53 S54 H locs ls hF hT mv1_53 hP hD hS hl
  refine lv_aload_n hx hb dX9_goOn_151 rfl (lv_at hl 0 rfl) ?_
  refine pg_get (D := D) (ci := 6) (v := .int (S54.1 125 v1_53)) (C := RX6) (T := TX6) (N := 17) hx hb hts iX9_goOn_6 hown hK hP mv1_53.1 (pf_6 mv1_53.2) rfl 5 (by decide) (hts (.fieldLink RX9 270 "FondsRoom$Reader" "state" "I") (List.mem_of_getElem? (i := 4) rfl)) (fun _ h9 => h9) rfl dX9_goOn_152 ?_
  refine lv_bipush (v := 8) hx hb dX9_goOn_155 (by decide) ?_
  refine lv_icmp_ne (tgt := 166) hx hb dX9_goOn_157 (by decide) (fun c55 => ?_) (fun c55 => ?_)
  · skip
    have hF := (if_neg c55).symm.trans hF
    have e2 := Option.some.inj hF
    have hP : va_P D vwCl (ZW x cy g Sf ++ va_pl L (pf cy K cf nm Sf)) H := by rw [← e2]; exact hP
    have hD : va_D (va_A (ZW x cy g S0 ++ va_pl L (pf cy K cf nm S0)) s.heap.size) (ZW x cy g Sf ++ va_pl L (pf cy K cf nm Sf)) := by rw [← e2]; exact hD
    have hT : WT L K Sf.2 := by rw [← e2]; exact hT
    exact W.vret hx hb hr (fun t ht hW => ⟨⟨(), rfl, hT, by rw [ht]; exact hP, va_K.moved hW.alike hK, hD⟩, hS.F ht⟩) hS.2.2 dX9_goOn_166
  · skip
    have hF := (if_pos c55).symm.trans hF
    refine lv_aload_n hx hb dX9_goOn_160 rfl (lv_at hl 1 rfl) ?_
    refine lv_aload_n hx hb dX9_goOn_161 rfl (lv_at hl 0 rfl) ?_
    refine lv_iconst (v := 5) hx hb dX9_goOn_162 (by decide) ?_
    obtain ⟨S57, hq59, hF⟩ := bd1_s hF
    refine gvV (As := [.ref v1_53, .int 5]) (rest := []) ⟨hx, hb, hml, hown, hts⟩ (zX9_depart l D x cy g L K cf nm hG hL S54 hT _ v1_53 5 ⟨mv1_53.1, mv1_53.2⟩ S57 hq59) (cwV 2 hts gX9_goOn_X9_depart rfl rfl rfl (by decide +kernel) ⟨Nat.le_of_ble_eq_true rfl, Nat.le_of_ble_eq_true rfl⟩) hK hP hD hS hA (va_recv hK hP (ci := 9) (q0 := 0) rfl rfl) rfl hl.1 rfl (Nat.le_of_ble_eq_true rfl) dX9_goOn_163 ⟨Nat.le_of_ble_eq_true rfl, Nat.le_of_ble_eq_true rfl⟩ (fun u9 H locs hw58 hP hD hS => ?_)
    have hT : WT L K S57.2 := hw58
    have hP : va_P D vwCl (ZW x cy g S57 ++ va_pl L (pf cy K cf nm S57)) H := hP
    have hD : va_D _ (ZW x cy g S57 ++ va_pl L (pf cy K cf nm S57)) := hD
    have e2 := Option.some.inj hF
    have hP : va_P D vwCl (ZW x cy g Sf ++ va_pl L (pf cy K cf nm Sf)) H := by rw [← e2]; exact hP
    have hD : va_D (va_A (ZW x cy g S0 ++ va_pl L (pf cy K cf nm S0)) s.heap.size) (ZW x cy g Sf ++ va_pl L (pf cy K cf nm Sf)) := by rw [← e2]; exact hD
    have hT : WT L K Sf.2 := by rw [← e2]; exact hT
    exact W.vret hx hb hr (fun t ht hW => ⟨⟨(), rfl, hT, by rw [ht]; exact hP, va_K.moved hW.alike hK, hD⟩, hS.F ht⟩) hS.2.2 dX9_goOn_166

theorem iX9_readersGoOn_6 : ∀ w ∈ wsX60, w ∈ wsX9_readersGoOn := fun _ h => List.mem_cons_of_mem _ (List.mem_append_left _ (List.mem_append_left _ (List.mem_append_left _ (List.mem_append_left _ (List.mem_append_left _ (List.mem_append_right _ h))))))
theorem iX9_readersGoOn_9 : ∀ w ∈ wsX90, w ∈ wsX9_readersGoOn := fun _ h => List.mem_cons_of_mem _ (List.mem_append_left _ (List.mem_append_left _ (List.mem_append_left _ (List.mem_append_left _ (List.mem_append_left _ (List.mem_append_left _ (List.mem_append_right _ h)))))))
set_option maxHeartbeats 8000000 in
set_option maxRecDepth 100000 in
theorem zX9_readersGoOn (l : Launch) (D : va_G) (x : Nat → Nat) (cy : Nat → ClassId) (g : Nat → Nat → Option Nat) (L : List Nat) (K : Nat → Nat) (cf : Nat → Nat → Nat) (nm : Nat → Int32) (hG : GO L K g) (hL : PL L K cf) (S0 : CS) (hT : WT L K S0.2) (sz : Nat)   (Sf : CS) (hF : gX9_readersGoOn g cf nm S0  = some Sf) : Met l yX9_readersGoOn wsX9_readersGoOn ({ frames := 4, cells := 0, slots := 0, locals := 95 }) (PW D (TYS cy) (ZW x cy g S0 ++ va_pl L (pf cy K cf nm S0)) sz [.ref (x 0)]) (va_Qv (fun (u : Unit) => WT L K Sf.2) (BU D (TYS cy) (ZW x cy g S0 ++ va_pl L (pf cy K cf nm S0)) (fun _ => ZW x cy g Sf ++ va_pl L (pf cy K cf nm Sf)) sz) (va_A (ZW x cy g S0 ++ va_pl L (pf cy K cf nm S0)) sz)) 0 0 (va_A (ZW x cy g S0 ++ va_pl L (pf cy K cf nm S0)) sz) := by
  refine Met.ofW (cc := cX9_readersGoOn) (maxL := 2) (ret := none) (by decide) rfl ?_
  intro p e s m args below meth c s₁ B hml hv
  obtain ⟨rfl, hsz, hP, hK, hD0⟩ := hv
  have hx := B.exec
  have hb := B.bytes
  have hr := B.returns
  have hts := atoms_spec (ws := wsX9_readersGoOn) B.pre
  have hown : s.vm.findClass RX9 = some m.cls := findClass_of_methodNamed B.named
  have hlocks := B.notSynchronized
  subst hsz
  have hD := hD0.self (sz := s.heap.size)
  have hA : ∀ q9 : Nat, s.heap.size ≤ q9 → va_A (ZW x cy g S0 ++ va_pl L (pf cy K cf nm S0)) s.heap.size q9 := fun q9 h => Or.inr h
  have hS : va_S (va_A (ZW x cy g S0 ++ va_pl L (pf cy K cf nm S0)) s.heap.size) s.heap s.heap [] := va_S.rf
  have key2 : ∀ (KK : CS → Option (CS)), (∀  (S : CS) (H : Heap) (locs : List Loc) (ls : Array Slot), KK  S = some Sf → WT L K S.2 → va_P D vwCl (ZW x cy g S ++ va_pl L (pf cy K cf nm S)) H → va_D (va_A (ZW x cy g S0 ++ va_pl L (pf cy K cf nm S0)) s.heap.size) (ZW x cy g S ++ va_pl L (pf cy K cf nm S)) → va_S (va_A (ZW x cy g S0 ++ va_pl L (pf cy K cf nm S0)) s.heap.size) s.heap H locs → lv_has ls 2 [] → W p l e (headSpec wsX9_readersGoOn ({ frames := 4, cells := 0, slots := 0, locals := 95 })).room s m #[.ref (x 0)] below meth c H locs 0 0 (MQ below (va_Qv (fun (u : Unit) => WT L K Sf.2) (BU D (TYS cy) (ZW x cy g S0 ++ va_pl L (pf cy K cf nm S0)) (fun _ => ZW x cy g Sf ++ va_pl L (pf cy K cf nm Sf)) s.heap.size) (va_A (ZW x cy g S0 ++ va_pl L (pf cy K cf nm S0)) s.heap.size)) #[.ref (x 0)] s 0 0 (va_A (ZW x cy g S0 ++ va_pl L (pf cy K cf nm S0)) s.heap.size)) (F0 m 40 ls [])) → ∀ (fu : Nat) (v1 : Int32) (S : CS) (H : Heap) (locs : List Loc) (ls : Array Slot), gX9_readersGoOn_2 g cf nm KK fu v1 S = some Sf → WT L K S.2 → va_P D vwCl (ZW x cy g S ++ va_pl L (pf cy K cf nm S)) H → va_D (va_A (ZW x cy g S0 ++ va_pl L (pf cy K cf nm S0)) s.heap.size) (ZW x cy g S ++ va_pl L (pf cy K cf nm S)) → va_S (va_A (ZW x cy g S0 ++ va_pl L (pf cy K cf nm S0)) s.heap.size) s.heap H locs → lv_has ls 2 [(1, .int v1), (0, .ref (x 0))] → W p l e (headSpec wsX9_readersGoOn ({ frames := 4, cells := 0, slots := 0, locals := 95 })).room s m #[.ref (x 0)] below meth c H locs 0 0 (MQ below (va_Qv (fun (u : Unit) => WT L K Sf.2) (BU D (TYS cy) (ZW x cy g S0 ++ va_pl L (pf cy K cf nm S0)) (fun _ => ZW x cy g Sf ++ va_pl L (pf cy K cf nm Sf)) s.heap.size) (va_A (ZW x cy g S0 ++ va_pl L (pf cy K cf nm S0)) s.heap.size)) #[.ref (x 0)] s 0 0 (va_A (ZW x cy g S0 ++ va_pl L (pf cy K cf nm S0)) s.heap.size)) (F0 m 2 ls []) := by
    intro KK hKK fu
    induction fu with
    | zero =>
      intro v1 S H locs ls hF
      exact absurd (show (none : Option (CS)) = some Sf from hF) (by simp)
    | succ fu2 ih2 =>
      intro v1 S H locs ls hF hT hP hD hS hl
      rw [gX9_readersGoOn_2] at hF
      refine lv_iload_n hx hb dX9_readersGoOn_2 rfl (lv_at hl 0 rfl) ?_
      refine lv_aload_n hx hb dX9_readersGoOn_3 rfl (lv_at hl 1 rfl) ?_
      refine va_get (D := D) (ci := 9) (v := .int (S.1 200 2)) (C := RX9) (T := TX9) (N := 19) hx hb hts iX9_readersGoOn_9 hown hK hP 0 rfl rfl 12 (by decide) (hts (.fieldLink RX9 104 "FondsRoom" "readerCount" "I") (List.mem_of_getElem? (i := 1) rfl)) (fun _ h9 => h9) rfl dX9_readersGoOn_4 ?_
      refine lv_icmp_ge (tgt := 40) hx hb dX9_readersGoOn_7 (by decide) (fun c1 => ?_) (fun c1 => ?_)
      · skip
        have hF := (if_pos c1).symm.trans hF
        exact hKK  S _ _ _ hF hT hP hD hS (lv_sub hl [] rfl)
      · skip
        have hF := (if_neg c1).symm.trans hF
        refine lv_aload_n hx hb dX9_readersGoOn_10 rfl (lv_at hl 1 rfl) ?_
        refine va_get (D := D) (ci := 9) (v := .ref (x 3)) (C := RX9) (T := TX9) (N := 19) hx hb hts iX9_readersGoOn_9 hown hK hP 0 rfl rfl 2 (by decide) (hts (.fieldLink RX9 27 "FondsRoom" "readers" "[LFondsRoom$Reader;") (List.mem_of_getElem? (i := 2) rfl)) (fun _ h9 => h9) rfl dX9_readersGoOn_11 ?_
        refine lv_iload_n hx hb dX9_readersGoOn_14 rfl (lv_at hl 0 rfl) ?_
        obtain ⟨hi2, b3, eb3, hF⟩ := ga_s hF
        refine va_aldq hx hb hK hP 3 4 rfl rfl hi2 dX9_readersGoOn_15 ?_
        refine lv_tov (v' := .ref b3) (by rw [eb3]; rfl) ?_
        have mb3 := GO_2 hG hi2 eb3
        refine pg_get (D := D) (ci := 6) (v := .int (S.1 125 b3)) (C := RX6) (T := TX6) (N := 17) hx hb hts iX9_readersGoOn_6 hown hK hP mb3.1 (pf_6 mb3.2) rfl 5 (by decide) (hts (.fieldLink RX9 270 "FondsRoom$Reader" "state" "I") (List.mem_of_getElem? (i := 3) rfl)) (fun _ h9 => h9) rfl dX9_readersGoOn_16 ?_
        refine lv_bipush (v := 8) hx hb dX9_readersGoOn_19 (by decide) ?_
        refine lv_icmp_ne (tgt := 34) hx hb dX9_readersGoOn_21 (by decide) (fun c4 => ?_) (fun c4 => ?_)
        · skip
          have hF := (if_neg c4).symm.trans hF
          refine lv_iinc (v := v1 + 1) (lv' := [(1, .int (v1 + 1)), (0, .ref (x 0))]) hx hb dX9_readersGoOn_34 hl (k := 0) rfl rfl (by decide) rfl (fun ls hl => ?_)
          refine lv_goto (tgt := 2) hx hb dX9_readersGoOn_37 (by decide) ?_
          exact ih2 (v1 + 1) S _ _ _ hF hT hP hD hS (lv_sub hl [0, 1] rfl)
        · skip
          have hF := (if_pos c4).symm.trans hF
          refine lv_aload_n hx hb dX9_readersGoOn_24 rfl (lv_at hl 1 rfl) ?_
          refine lv_aload_n hx hb dX9_readersGoOn_25 rfl (lv_at hl 1 rfl) ?_
          refine va_get (D := D) (ci := 9) (v := .ref (x 3)) (C := RX9) (T := TX9) (N := 19) hx hb hts iX9_readersGoOn_9 hown hK hP 0 rfl rfl 2 (by decide) (hts (.fieldLink RX9 27 "FondsRoom" "readers" "[LFondsRoom$Reader;") (List.mem_of_getElem? (i := 2) rfl)) (fun _ h9 => h9) rfl dX9_readersGoOn_26 ?_
          refine lv_iload_n hx hb dX9_readersGoOn_29 rfl (lv_at hl 0 rfl) ?_
          obtain ⟨hi5, b6, eb6, hF⟩ := ga_s hF
          refine va_aldq hx hb hK hP 3 4 rfl rfl hi5 dX9_readersGoOn_30 ?_
          refine lv_tov (v' := .ref b6) (by rw [eb6]; rfl) ?_
          have mb6 := GO_2 hG hi5 eb6
          obtain ⟨S8, hq10, hF⟩ := bd1_s hF
          refine gvV (As := [.ref b6]) (rest := []) ⟨hx, hb, hml, hown, hts⟩ (zX9_goOn l D x cy g L K cf nm hG hL S hT _ b6 ⟨mb6.1, mb6.2⟩ S8 hq10) (cwV 1 hts gX9_readersGoOn_X9_goOn rfl rfl rfl (by decide +kernel) ⟨Nat.le_of_ble_eq_true rfl, Nat.le_of_ble_eq_true rfl⟩) hK hP hD hS hA (va_recv hK hP (ci := 9) (q0 := 0) rfl rfl) rfl hl.1 rfl (Nat.le_of_ble_eq_true rfl) dX9_readersGoOn_31 ⟨Nat.le_of_ble_eq_true rfl, Nat.le_of_ble_eq_true rfl⟩ (fun u9 H locs hw9 hP hD hS => ?_)
          have hT : WT L K S8.2 := hw9
          have hP : va_P D vwCl (ZW x cy g S8 ++ va_pl L (pf cy K cf nm S8)) H := hP
          have hD : va_D _ (ZW x cy g S8 ++ va_pl L (pf cy K cf nm S8)) := hD
          refine lv_iinc (v := v1 + 1) (lv' := [(1, .int (v1 + 1)), (0, .ref (x 0))]) hx hb dX9_readersGoOn_34 hl (k := 0) rfl rfl (by decide) rfl (fun ls hl => ?_)
          refine lv_goto (tgt := 2) hx hb dX9_readersGoOn_37 (by decide) ?_
          exact ih2 (v1 + 1) S8 _ _ _ hF hT hP hD hS (lv_sub hl [0, 1] rfl)
  have hl := lv_entry ([.ref (x 0)]) (n := 2) (Nat.le_of_ble_eq_true rfl)
  rw [lg_entry_eq]
  generalize (lg_sl ([.ref (x 0)]) ++ List.replicate (2 - (lg_sl ([.ref (x 0)])).length) Slot.unset).toArray = ls at hl ⊢
  have hl : lv_has ls 2 [(0, .ref (x 0))] := hl
  unfold gX9_readersGoOn at hF
  refine lv_iconst (v := 0) hx hb dX9_readersGoOn_0 (by decide) ?_
  refine lv_istore_n (lv' := [(1, .int 0), (0, .ref (x 0))]) hx hb dX9_readersGoOn_1 rfl hl (by decide) rfl (fun ls hl => ?_)
  refine key2 _ ?_ 1000 0 S0 _ _ _ hF hT hP hD hS (lv_sub hl [0, 1] rfl)
  intro S12 H locs ls hF hT hP hD hS hl
  have e2 := Option.some.inj hF
  have hP : va_P D vwCl (ZW x cy g Sf ++ va_pl L (pf cy K cf nm Sf)) H := by rw [← e2]; exact hP
  have hD : va_D (va_A (ZW x cy g S0 ++ va_pl L (pf cy K cf nm S0)) s.heap.size) (ZW x cy g Sf ++ va_pl L (pf cy K cf nm Sf)) := by rw [← e2]; exact hD
  have hT : WT L K Sf.2 := by rw [← e2]; exact hT
  exact W.vret hx hb hr (fun t ht hW => ⟨⟨(), rfl, hT, by rw [ht]; exact hP, va_K.moved hW.alike hK, hD⟩, hS.F ht⟩) hS.2.2 dX9_readersGoOn_40

theorem iX9_readersCome_6 : ∀ w ∈ wsX60, w ∈ wsX9_readersCome := fun _ h => List.mem_cons_of_mem _ (List.mem_append_left _ (List.mem_append_left _ (List.mem_append_right _ h)))
theorem iX9_readersCome_9 : ∀ w ∈ wsX90, w ∈ wsX9_readersCome := fun _ h => List.mem_cons_of_mem _ (List.mem_append_left _ (List.mem_append_left _ (List.mem_append_left _ (List.mem_append_right _ h))))
set_option maxHeartbeats 8000000 in
set_option maxRecDepth 100000 in
theorem zX9_readersCome (l : Launch) (D : va_G) (x : Nat → Nat) (cy : Nat → ClassId) (g : Nat → Nat → Option Nat) (L : List Nat) (K : Nat → Nat) (cf : Nat → Nat → Nat) (nm : Nat → Int32) (hG : GO L K g) (hL : PL L K cf) (S0 : CS) (hT : WT L K S0.2) (sz : Nat)   (Sf : CS) (hF : gX9_readersCome g cf nm S0  = some Sf) : Met l yX9_readersCome wsX9_readersCome ({ frames := 2, cells := 0, slots := 0, locals := 43 }) (PW D (TYS cy) (ZW x cy g S0 ++ va_pl L (pf cy K cf nm S0)) sz [.ref (x 0)]) (va_Qv (fun (u : Unit) => WT L K Sf.2) (BU D (TYS cy) (ZW x cy g S0 ++ va_pl L (pf cy K cf nm S0)) (fun _ => ZW x cy g Sf ++ va_pl L (pf cy K cf nm Sf)) sz) (va_A (ZW x cy g S0 ++ va_pl L (pf cy K cf nm S0)) sz)) 0 0 (va_A (ZW x cy g S0 ++ va_pl L (pf cy K cf nm S0)) sz) := by
  refine Met.ofW (cc := cX9_readersCome) (maxL := 3) (ret := none) (by decide) rfl ?_
  intro p e s m args below meth c s₁ B hml hv
  obtain ⟨rfl, hsz, hP, hK, hD0⟩ := hv
  have hx := B.exec
  have hb := B.bytes
  have hr := B.returns
  have hts := atoms_spec (ws := wsX9_readersCome) B.pre
  have hown : s.vm.findClass RX9 = some m.cls := findClass_of_methodNamed B.named
  have hlocks := B.notSynchronized
  subst hsz
  have hD := hD0.self (sz := s.heap.size)
  have hA : ∀ q9 : Nat, s.heap.size ≤ q9 → va_A (ZW x cy g S0 ++ va_pl L (pf cy K cf nm S0)) s.heap.size q9 := fun q9 h => Or.inr h
  have hS : va_S (va_A (ZW x cy g S0 ++ va_pl L (pf cy K cf nm S0)) s.heap.size) s.heap s.heap [] := va_S.rf
  have key2 : ∀ (KK : CS → Option (CS)), (∀  (S : CS) (H : Heap) (locs : List Loc) (ls : Array Slot), KK  S = some Sf → WT L K S.2 → va_P D vwCl (ZW x cy g S ++ va_pl L (pf cy K cf nm S)) H → va_D (va_A (ZW x cy g S0 ++ va_pl L (pf cy K cf nm S0)) s.heap.size) (ZW x cy g S ++ va_pl L (pf cy K cf nm S)) → va_S (va_A (ZW x cy g S0 ++ va_pl L (pf cy K cf nm S0)) s.heap.size) s.heap H locs → lv_has ls 3 [] → W p l e (headSpec wsX9_readersCome ({ frames := 2, cells := 0, slots := 0, locals := 43 })).room s m #[.ref (x 0)] below meth c H locs 0 0 (MQ below (va_Qv (fun (u : Unit) => WT L K Sf.2) (BU D (TYS cy) (ZW x cy g S0 ++ va_pl L (pf cy K cf nm S0)) (fun _ => ZW x cy g Sf ++ va_pl L (pf cy K cf nm Sf)) s.heap.size) (va_A (ZW x cy g S0 ++ va_pl L (pf cy K cf nm S0)) s.heap.size)) #[.ref (x 0)] s 0 0 (va_A (ZW x cy g S0 ++ va_pl L (pf cy K cf nm S0)) s.heap.size)) (F0 m 79 ls [])) → ∀ (fu : Nat) (v1 : Int32) (S : CS) (H : Heap) (locs : List Loc) (ls : Array Slot), gX9_readersCome_2 g cf nm KK fu v1 S = some Sf → WT L K S.2 → va_P D vwCl (ZW x cy g S ++ va_pl L (pf cy K cf nm S)) H → va_D (va_A (ZW x cy g S0 ++ va_pl L (pf cy K cf nm S0)) s.heap.size) (ZW x cy g S ++ va_pl L (pf cy K cf nm S)) → va_S (va_A (ZW x cy g S0 ++ va_pl L (pf cy K cf nm S0)) s.heap.size) s.heap H locs → lv_has ls 3 [(1, .int v1), (0, .ref (x 0))] → W p l e (headSpec wsX9_readersCome ({ frames := 2, cells := 0, slots := 0, locals := 43 })).room s m #[.ref (x 0)] below meth c H locs 0 0 (MQ below (va_Qv (fun (u : Unit) => WT L K Sf.2) (BU D (TYS cy) (ZW x cy g S0 ++ va_pl L (pf cy K cf nm S0)) (fun _ => ZW x cy g Sf ++ va_pl L (pf cy K cf nm Sf)) s.heap.size) (va_A (ZW x cy g S0 ++ va_pl L (pf cy K cf nm S0)) s.heap.size)) #[.ref (x 0)] s 0 0 (va_A (ZW x cy g S0 ++ va_pl L (pf cy K cf nm S0)) s.heap.size)) (F0 m 2 ls []) := by
    intro KK hKK fu
    induction fu with
    | zero =>
      intro v1 S H locs ls hF
      exact absurd (show (none : Option (CS)) = some Sf from hF) (by simp)
    | succ fu2 ih2 =>
      intro v1 S H locs ls hF hT hP hD hS hl
      rw [gX9_readersCome_2] at hF
      refine lv_iload_n hx hb dX9_readersCome_2 rfl (lv_at hl 0 rfl) ?_
      refine lv_aload_n hx hb dX9_readersCome_3 rfl (lv_at hl 1 rfl) ?_
      refine va_get (D := D) (ci := 9) (v := .int (S.1 200 2)) (C := RX9) (T := TX9) (N := 19) hx hb hts iX9_readersCome_9 hown hK hP 0 rfl rfl 12 (by decide) (hts (.fieldLink RX9 104 "FondsRoom" "readerCount" "I") (List.mem_of_getElem? (i := 1) rfl)) (fun _ h9 => h9) rfl dX9_readersCome_4 ?_
      refine lv_icmp_ge (tgt := 79) hx hb dX9_readersCome_7 (by decide) (fun c1 => ?_) (fun c1 => ?_)
      · skip
        have hF := (if_pos c1).symm.trans hF
        exact hKK  S _ _ _ hF hT hP hD hS (lv_sub hl [] rfl)
      · skip
        have hF := (if_neg c1).symm.trans hF
        refine lv_aload_n hx hb dX9_readersCome_10 rfl (lv_at hl 1 rfl) ?_
        refine va_get (D := D) (ci := 9) (v := .ref (x 3)) (C := RX9) (T := TX9) (N := 19) hx hb hts iX9_readersCome_9 hown hK hP 0 rfl rfl 2 (by decide) (hts (.fieldLink RX9 27 "FondsRoom" "readers" "[LFondsRoom$Reader;") (List.mem_of_getElem? (i := 2) rfl)) (fun _ h9 => h9) rfl dX9_readersCome_11 ?_
        refine lv_iload_n hx hb dX9_readersCome_14 rfl (lv_at hl 0 rfl) ?_
        obtain ⟨hi2, b3, eb3, hF⟩ := ga_s hF
        refine va_aldq hx hb hK hP 3 4 rfl rfl hi2 dX9_readersCome_15 ?_
        refine lv_tov (v' := .ref b3) (by rw [eb3]; rfl) ?_
        have mb3 := GO_2 hG hi2 eb3
        refine lv_astore_n (lv' := [(2, .ref b3), (1, .int v1), (0, .ref (x 0))]) hx hb dX9_readersCome_16 rfl hl (by decide) rfl (fun ls hl => ?_)
        refine lv_aload_n hx hb dX9_readersCome_17 rfl (lv_at hl 0 rfl) ?_
        refine pg_get (D := D) (ci := 6) (v := .int (S.1 125 b3)) (C := RX6) (T := TX6) (N := 17) hx hb hts iX9_readersCome_6 hown hK hP mb3.1 (pf_6 mb3.2) rfl 5 (by decide) (hts (.fieldLink RX9 270 "FondsRoom$Reader" "state" "I") (List.mem_of_getElem? (i := 3) rfl)) (fun _ h9 => h9) rfl dX9_readersCome_18 ?_
        refine lv_if_ne (tgt := 73) hx hb dX9_readersCome_21 (by decide) (fun c4 => ?_) (fun c4 => ?_)
        · skip
          have hF := (if_neg c4).symm.trans hF
          refine lv_iinc (v := v1 + 1) (lv' := [(1, .int (v1 + 1)), (2, .ref b3), (0, .ref (x 0))]) hx hb dX9_readersCome_73 hl (k := 1) rfl rfl (by decide) rfl (fun ls hl => ?_)
          refine lv_goto (tgt := 2) hx hb dX9_readersCome_76 (by decide) ?_
          exact ih2 (v1 + 1) S _ _ _ hF hT hP hD hS (lv_sub hl [0, 2] rfl)
        · skip
          have hF := (if_pos c4).symm.trans hF
          refine lv_aload_n hx hb dX9_readersCome_24 rfl (lv_at hl 0 rfl) ?_
          refine pg_get (D := D) (ci := 6) (v := .int (S.1 122 b3)) (C := RX6) (T := TX6) (N := 17) hx hb hts iX9_readersCome_6 hown hK hP mb3.1 (pf_6 mb3.2) rfl 2 (by decide) (hts (.fieldLink RX9 111 "FondsRoom$Reader" "arrival" "I") (List.mem_of_getElem? (i := 4) rfl)) (fun _ h9 => h9) rfl dX9_readersCome_25 ?_
          refine lv_aload_n hx hb dX9_readersCome_28 rfl (lv_at hl 2 rfl) ?_
          refine va_get (D := D) (ci := 9) (v := .int (S.1 200 4)) (C := RX9) (T := TX9) (N := 19) hx hb hts iX9_readersCome_9 hown hK hP 0 rfl rfl 14 (by decide) (hts (.fieldLink RX9 78 "FondsRoom" "turn" "I") (List.mem_of_getElem? (i := 5) rfl)) (fun _ h9 => h9) rfl dX9_readersCome_29 ?_
          refine lv_icmp_gt (tgt := 73) hx hb dX9_readersCome_32 (by decide) (fun c5 => ?_) (fun c5 => ?_)
          · skip
            have hF := (if_pos c5).symm.trans hF
            refine lv_iinc (v := v1 + 1) (lv' := [(1, .int (v1 + 1)), (2, .ref b3), (0, .ref (x 0))]) hx hb dX9_readersCome_73 hl (k := 1) rfl rfl (by decide) rfl (fun ls hl => ?_)
            refine lv_goto (tgt := 2) hx hb dX9_readersCome_76 (by decide) ?_
            exact ih2 (v1 + 1) S _ _ _ hF hT hP hD hS (lv_sub hl [0, 2] rfl)
          · skip
            have hF := (if_neg c5).symm.trans hF
            refine lv_aload_n hx hb dX9_readersCome_35 rfl (lv_at hl 0 rfl) ?_
            refine lv_iconst (v := 1) hx hb dX9_readersCome_36 (by decide) ?_
            refine pg_put (D := D) (ci := 6) (v := .int 1) (ty := .int) (C := RX6) (T := TX6) (N := 17) hx hb hts iX9_readersCome_6 tyX6 tyX6_ok nmX6 hown hK hP hD hS mb3.1 (pf_6 mb3.2) rfl 5 (by decide) (hts (.fieldLink RX9 270 "FondsRoom$Reader" "state" "I") (List.mem_of_getElem? (i := 3) rfl)) (fun _ h9 => h9) rfl (by decide +kernel) rfl rfl (Nat.le_of_ble_eq_true rfl) dX9_readersCome_37 (fun H locs hP hD hS => ?_)
            obtain ⟨S6, eS6⟩ : ∃ z, z = wi S 125 b3 1 := ⟨_, rfl⟩
            replace hF := bnd_s hF S6 eS6
            have hP : va_P D vwCl (ZW x cy g S6 ++ va_pl L (pf cy K cf nm S6)) H := by rw [eS6]; rw [← pu_6_5 mb3.2]; exact hP
            have hD : va_D (va_A (ZW x cy g S0 ++ va_pl L (pf cy K cf nm S0)) s.heap.size) (ZW x cy g S6 ++ va_pl L (pf cy K cf nm S6)) := by rw [eS6]; rw [← pu_6_5 mb3.2]; exact hD
            have hT : WT L K S6.2 := by rw [eS6]; exact hT
            refine lv_aload_n hx hb dX9_readersCome_40 rfl (lv_at hl 0 rfl) ?_
            refine lv_aload_n hx hb dX9_readersCome_41 rfl (lv_at hl 2 rfl) ?_
            refine va_get (D := D) (ci := 9) (v := .int (S6.1 200 4)) (C := RX9) (T := TX9) (N := 19) hx hb hts iX9_readersCome_9 hown hK hP 0 rfl rfl 14 (by decide) (hts (.fieldLink RX9 78 "FondsRoom" "turn" "I") (List.mem_of_getElem? (i := 5) rfl)) (fun _ h9 => h9) rfl dX9_readersCome_42 ?_
            refine pg_put (D := D) (ci := 6) (v := .int (S6.1 200 4)) (ty := .int) (C := RX6) (T := TX6) (N := 17) hx hb hts iX9_readersCome_6 tyX6 tyX6_ok nmX6 hown hK hP hD hS mb3.1 (pf_6 mb3.2) rfl 6 (by decide) (hts (.fieldLink RX9 351 "FondsRoom$Reader" "cameTurn" "I") (List.mem_of_getElem? (i := 6) rfl)) (fun _ h9 => h9) rfl (by decide +kernel) rfl rfl (Nat.le_of_ble_eq_true rfl) dX9_readersCome_45 (fun H locs hP hD hS => ?_)
            obtain ⟨S7, eS7⟩ : ∃ z, z = wi S6 126 b3 (S6.1 200 4) := ⟨_, rfl⟩
            replace hF := bnd_s hF S7 eS7
            have hP : va_P D vwCl (ZW x cy g S7 ++ va_pl L (pf cy K cf nm S7)) H := by rw [eS7]; rw [← pu_6_6 mb3.2]; exact hP
            have hD : va_D (va_A (ZW x cy g S0 ++ va_pl L (pf cy K cf nm S0)) s.heap.size) (ZW x cy g S7 ++ va_pl L (pf cy K cf nm S7)) := by rw [eS7]; rw [← pu_6_6 mb3.2]; exact hD
            have hT : WT L K S7.2 := by rw [eS7]; exact hT
            refine lv_aload_n hx hb dX9_readersCome_48 rfl (lv_at hl 2 rfl) ?_
            refine va_get (D := D) (ci := 9) (v := .ref (x 8)) (C := RX9) (T := TX9) (N := 19) hx hb hts iX9_readersCome_9 hown hK hP 0 rfl rfl 5 (by decide) (hts (.fieldLink RX9 47 "FondsRoom" "deskLine" "LFondsRoom$Line;") (List.mem_of_getElem? (i := 7) rfl)) (fun _ h9 => h9) rfl dX9_readersCome_49 ?_
            refine lv_aload_n hx hb dX9_readersCome_52 rfl (lv_at hl 0 rfl) ?_
            obtain ⟨S9, hq11, hF⟩ := bd1_s hF
            refine gvV (As := [.ref b3]) (rest := []) ⟨hx, hb, hml, hown, hts⟩ (zX3_insertByRank l D x cy g L K cf nm hG hL S7 hT _ b3 ⟨mb3.1, mb3.2⟩ S9 hq11) (cwV 1 hts gX9_readersCome_X3_insertByRank rfl rfl rfl (by decide +kernel) ⟨Nat.le_of_ble_eq_true rfl, Nat.le_of_ble_eq_true rfl⟩) hK hP hD hS hA (va_recv hK hP (ci := 3) (q0 := 8) rfl rfl) rfl hl.1 rfl (Nat.le_of_ble_eq_true rfl) dX9_readersCome_53 ⟨Nat.le_of_ble_eq_true rfl, Nat.le_of_ble_eq_true rfl⟩ (fun u9 H locs hw10 hP hD hS => ?_)
            have hT : WT L K S9.2 := hw10
            have hP : va_P D vwCl (ZW x cy g S9 ++ va_pl L (pf cy K cf nm S9)) H := hP
            have hD : va_D _ (ZW x cy g S9 ++ va_pl L (pf cy K cf nm S9)) := hD
            refine lv_aload_n hx hb dX9_readersCome_56 rfl (lv_at hl 2 rfl) ?_
            refine va_get (D := D) (ci := 9) (v := .ref (x 18)) (C := RX9) (T := TX9) (N := 19) hx hb hts iX9_readersCome_9 hown hK hP 0 rfl rfl 9 (by decide) (hts (.fieldLink RX9 67 "FondsRoom" "events" "LFondsRoom$Events;") (List.mem_of_getElem? (i := 8) rfl)) (fun _ h9 => h9) rfl dX9_readersCome_57 ?_
            refine lv_aload_n hx hb dX9_readersCome_60 rfl (lv_at hl 2 rfl) ?_
            refine va_get (D := D) (ci := 9) (v := .int (S9.1 200 4)) (C := RX9) (T := TX9) (N := 19) hx hb hts iX9_readersCome_9 hown hK hP 0 rfl rfl 14 (by decide) (hts (.fieldLink RX9 78 "FondsRoom" "turn" "I") (List.mem_of_getElem? (i := 5) rfl)) (fun _ h9 => h9) rfl dX9_readersCome_61 ?_
            refine lv_aload_n hx hb dX9_readersCome_64 rfl (lv_at hl 0 rfl) ?_
            refine pg_get (D := D) (ci := 6) (v := .int (nm b3)) (C := RX6) (T := TX6) (N := 17) hx hb hts iX9_readersCome_6 hown hK hP mb3.1 (pf_6 mb3.2) rfl 0 (by decide) (hts (.fieldLink RX9 273 "FondsRoom$Reader" "number" "I") (List.mem_of_getElem? (i := 9) rfl)) (fun _ h9 => h9) rfl dX9_readersCome_65 ?_
            refine lv_iconst (v := 1) hx hb dX9_readersCome_68 (by decide) ?_
            refine lv_iconst (v := 1) hx hb dX9_readersCome_69 (by decide) ?_
            obtain ⟨S14, hq16, hF⟩ := bd1_s hF
            refine gvV (As := [.int (S9.1 200 4), .int (nm b3), .int 1, .int 1]) (rest := []) ⟨hx, hb, hml, hown, hts⟩ (zX2_keep l D x cy g L K cf nm hG hL S9 hT _ (S9.1 200 4) (nm b3) 1 1  S14 hq16) (cwV 4 hts gX9_readersCome_X2_keep rfl rfl rfl (by decide +kernel) ⟨Nat.le_of_ble_eq_true rfl, Nat.le_of_ble_eq_true rfl⟩) hK hP hD hS hA (va_recv hK hP (ci := 2) (q0 := 18) rfl rfl) rfl hl.1 rfl (Nat.le_of_ble_eq_true rfl) dX9_readersCome_70 ⟨Nat.le_of_ble_eq_true rfl, Nat.le_of_ble_eq_true rfl⟩ (fun u9 H locs hw15 hP hD hS => ?_)
            have hT : WT L K S14.2 := hw15
            have hP : va_P D vwCl (ZW x cy g S14 ++ va_pl L (pf cy K cf nm S14)) H := hP
            have hD : va_D _ (ZW x cy g S14 ++ va_pl L (pf cy K cf nm S14)) := hD
            refine lv_iinc (v := v1 + 1) (lv' := [(1, .int (v1 + 1)), (2, .ref b3), (0, .ref (x 0))]) hx hb dX9_readersCome_73 hl (k := 1) rfl rfl (by decide) rfl (fun ls hl => ?_)
            refine lv_goto (tgt := 2) hx hb dX9_readersCome_76 (by decide) ?_
            exact ih2 (v1 + 1) S14 _ _ _ hF hT hP hD hS (lv_sub hl [0, 2] rfl)
  have hl := lv_entry ([.ref (x 0)]) (n := 3) (Nat.le_of_ble_eq_true rfl)
  rw [lg_entry_eq]
  generalize (lg_sl ([.ref (x 0)]) ++ List.replicate (3 - (lg_sl ([.ref (x 0)])).length) Slot.unset).toArray = ls at hl ⊢
  have hl : lv_has ls 3 [(0, .ref (x 0))] := hl
  unfold gX9_readersCome at hF
  refine lv_iconst (v := 0) hx hb dX9_readersCome_0 (by decide) ?_
  refine lv_istore_n (lv' := [(1, .int 0), (0, .ref (x 0))]) hx hb dX9_readersCome_1 rfl hl (by decide) rfl (fun ls hl => ?_)
  refine key2 _ ?_ 1000 0 S0 _ _ _ hF hT hP hD hS (lv_sub hl [0, 1] rfl)
  intro S18 H locs ls hF hT hP hD hS hl
  have e2 := Option.some.inj hF
  have hP : va_P D vwCl (ZW x cy g Sf ++ va_pl L (pf cy K cf nm Sf)) H := by rw [← e2]; exact hP
  have hD : va_D (va_A (ZW x cy g S0 ++ va_pl L (pf cy K cf nm S0)) s.heap.size) (ZW x cy g Sf ++ va_pl L (pf cy K cf nm Sf)) := by rw [← e2]; exact hD
  have hT : WT L K Sf.2 := by rw [← e2]; exact hT
  exact W.vret hx hb hr (fun t ht hW => ⟨⟨(), rfl, hT, by rw [ht]; exact hP, va_K.moved hW.alike hK, hD⟩, hS.F ht⟩) hS.2.2 dX9_readersCome_79

theorem iX9_firstFreeDesk_1 : ∀ w ∈ wsX10, w ∈ wsX9_firstFreeDesk := fun _ h => List.mem_cons_of_mem _ (List.mem_append_right _ h)
theorem iX9_firstFreeDesk_9 : ∀ w ∈ wsX90, w ∈ wsX9_firstFreeDesk := fun _ h => List.mem_cons_of_mem _ (List.mem_append_left _ (List.mem_append_right _ h))
set_option maxHeartbeats 8000000 in
set_option maxRecDepth 100000 in
theorem zX9_firstFreeDesk (l : Launch) (D : va_G) (x : Nat → Nat) (cy : Nat → ClassId) (g : Nat → Nat → Option Nat) (L : List Nat) (K : Nat → Nat) (cf : Nat → Nat → Nat) (nm : Nat → Int32) (hG : GO L K g) (hL : PL L K cf) (S : CS) (hT : WT L K S.2) (sz : Nat) (ar1 : Int32)  (rv : Option Nat) (hF : gX9_firstFreeDesk g cf nm S ar1 = some rv) : Met l yX9_firstFreeDesk wsX9_firstFreeDesk ({ frames := 0, cells := 0, slots := 0, locals := 0 }) (PW D (TYS cy) (ZW x cy g S ++ va_pl L (pf cy K cf nm S)) sz [.ref (x 0), .int ar1]) (va_Qq (fun (res : Option Nat) (u : Unit) => res = rv ∧ rok L K 1 rv) (BU D (TYS cy) (ZW x cy g S ++ va_pl L (pf cy K cf nm S)) (fun _ => ZW x cy g S ++ va_pl L (pf cy K cf nm S)) sz) (va_A (ZW x cy g S ++ va_pl L (pf cy K cf nm S)) sz)) 0 0 (va_A (ZW x cy g S ++ va_pl L (pf cy K cf nm S)) sz) := by
  refine Met.ofW (cc := cX9_firstFreeDesk) (maxL := 3) (ret := (some (.object "FondsRoom$Desk"))) (by decide) rfl ?_
  intro p e s m args below meth c s₁ B hml hv
  obtain ⟨rfl, hsz, hP, hK, hD0⟩ := hv
  have hx := B.exec
  have hb := B.bytes
  have hr := B.returns
  have hts := atoms_spec (ws := wsX9_firstFreeDesk) B.pre
  have hown : s.vm.findClass RX9 = some m.cls := findClass_of_methodNamed B.named
  have hlocks := B.notSynchronized
  subst hsz
  have hD := hD0.self (sz := s.heap.size)
  have hA : ∀ q9 : Nat, s.heap.size ≤ q9 → va_A (ZW x cy g S ++ va_pl L (pf cy K cf nm S)) s.heap.size q9 := fun q9 h => Or.inr h
  have hS : va_S (va_A (ZW x cy g S ++ va_pl L (pf cy K cf nm S)) s.heap.size) s.heap s.heap [] := va_S.rf
  have key2 : ∀ (KK : Option (Option Nat)), (∀  (H : Heap) (locs : List Loc) (ls : Array Slot), KK  = some rv → va_P D vwCl (ZW x cy g S ++ va_pl L (pf cy K cf nm S)) H → va_D (va_A (ZW x cy g S ++ va_pl L (pf cy K cf nm S)) s.heap.size) (ZW x cy g S ++ va_pl L (pf cy K cf nm S)) → va_S (va_A (ZW x cy g S ++ va_pl L (pf cy K cf nm S)) s.heap.size) s.heap H locs → lv_has ls 3 [] → W p l e (headSpec wsX9_firstFreeDesk ({ frames := 0, cells := 0, slots := 0, locals := 0 })).room s m #[.ref (x 0), .int ar1] below meth c H locs 0 0 (MQ below (va_Qq (fun (res : Option Nat) (u : Unit) => res = rv ∧ rok L K 1 rv) (BU D (TYS cy) (ZW x cy g S ++ va_pl L (pf cy K cf nm S)) (fun _ => ZW x cy g S ++ va_pl L (pf cy K cf nm S)) s.heap.size) (va_A (ZW x cy g S ++ va_pl L (pf cy K cf nm S)) s.heap.size)) #[.ref (x 0), .int ar1] s 0 0 (va_A (ZW x cy g S ++ va_pl L (pf cy K cf nm S)) s.heap.size)) (F0 m 48 ls [])) → ∀ (fu : Nat) (v1 : Int32) (v2 : Int32) (H : Heap) (locs : List Loc) (ls : Array Slot), gX9_firstFreeDesk_2 S g cf nm KK fu v1 v2 = some rv → va_P D vwCl (ZW x cy g S ++ va_pl L (pf cy K cf nm S)) H → va_D (va_A (ZW x cy g S ++ va_pl L (pf cy K cf nm S)) s.heap.size) (ZW x cy g S ++ va_pl L (pf cy K cf nm S)) → va_S (va_A (ZW x cy g S ++ va_pl L (pf cy K cf nm S)) s.heap.size) s.heap H locs → lv_has ls 3 [(1, .int v1), (2, .int v2), (0, .ref (x 0))] → W p l e (headSpec wsX9_firstFreeDesk ({ frames := 0, cells := 0, slots := 0, locals := 0 })).room s m #[.ref (x 0), .int ar1] below meth c H locs 0 0 (MQ below (va_Qq (fun (res : Option Nat) (u : Unit) => res = rv ∧ rok L K 1 rv) (BU D (TYS cy) (ZW x cy g S ++ va_pl L (pf cy K cf nm S)) (fun _ => ZW x cy g S ++ va_pl L (pf cy K cf nm S)) s.heap.size) (va_A (ZW x cy g S ++ va_pl L (pf cy K cf nm S)) s.heap.size)) #[.ref (x 0), .int ar1] s 0 0 (va_A (ZW x cy g S ++ va_pl L (pf cy K cf nm S)) s.heap.size)) (F0 m 2 ls []) := by
    intro KK hKK fu
    induction fu with
    | zero =>
      intro v1 v2 H locs ls hF
      exact absurd (show (none : Option (Option Nat)) = some rv from hF) (by simp)
    | succ fu2 ih2 =>
      intro v1 v2 H locs ls hF hP hD hS hl
      rw [gX9_firstFreeDesk_2] at hF
      refine lv_iload_n hx hb dX9_firstFreeDesk_2 rfl (lv_at hl 1 rfl) ?_
      refine lv_aload_n hx hb dX9_firstFreeDesk_3 rfl (lv_at hl 2 rfl) ?_
      refine va_get (D := D) (ci := 9) (v := .int (S.1 200 0)) (C := RX9) (T := TX9) (N := 19) hx hb hts iX9_firstFreeDesk_9 hown hK hP 0 rfl rfl 10 (by decide) (hts (.fieldLink RX9 81 "FondsRoom" "deskCount" "I") (List.mem_of_getElem? (i := 1) rfl)) (fun _ h9 => h9) rfl dX9_firstFreeDesk_4 ?_
      refine lv_icmp_ge (tgt := 48) hx hb dX9_firstFreeDesk_7 (by decide) (fun c1 => ?_) (fun c1 => ?_)
      · skip
        have hF := (if_pos c1).symm.trans hF
        exact hKK   _ _ _ hF hP hD hS (lv_sub hl [] rfl)
      · skip
        have hF := (if_neg c1).symm.trans hF
        refine lv_aload_n hx hb dX9_firstFreeDesk_10 rfl (lv_at hl 2 rfl) ?_
        refine va_get (D := D) (ci := 9) (v := .ref (x 1)) (C := RX9) (T := TX9) (N := 19) hx hb hts iX9_firstFreeDesk_9 hown hK hP 0 rfl rfl 0 (by decide) (hts (.fieldLink RX9 11 "FondsRoom" "desks" "[LFondsRoom$Desk;") (List.mem_of_getElem? (i := 2) rfl)) (fun _ h9 => h9) rfl dX9_firstFreeDesk_11 ?_
        refine lv_iload_n hx hb dX9_firstFreeDesk_14 rfl (lv_at hl 1 rfl) ?_
        obtain ⟨hi2, b3, eb3, hF⟩ := ga_s hF
        refine va_aldq hx hb hK hP 1 2 rfl rfl hi2 dX9_firstFreeDesk_15 ?_
        refine lv_tov (v' := .ref b3) (by rw [eb3]; rfl) ?_
        have mb3 := GO_0 hG hi2 eb3
        refine pg_get (D := D) (ci := 1) (v := va_rf (S.2 22 b3)) (C := RX1) (T := TX1) (N := 3) hx hb hts iX9_firstFreeDesk_1 hown hK hP mb3.1 (pf_1 mb3.2) rfl 2 (by decide) (hts (.fieldLink RX9 348 "FondsRoom$Desk" "sitter" "LFondsRoom$Reader;") (List.mem_of_getElem? (i := 3) rfl)) (fun _ h9 => h9) rfl dX9_firstFreeDesk_16 ?_
        obtain ⟨q4, eq4⟩ : ∃ z, z = S.2 22 b3 := ⟨_, rfl⟩
        replace hF := bnd_s hF q4 eq4
        have hq4 : rok L K 6 q4 := by rw [eq4]; exact hT 22 b3
        refine lv_tov (v' := va_rf q4) (by rw [eq4]) ?_
        rcases eb5 : q4 with _ | b5
        · skip
          subst eb5
          replace hF := oc_n hF
          have hl : lv_has ls 3 [(1, .int v1), (2, .int v2), (0, .ref (x 0))] := hl
          refine W.eq (g2 := F0 m 19 ls [.null]) rfl ?_
          refine lv_ifnonnullN hx hb dX9_firstFreeDesk_19 ?_
          refine lv_aload_n hx hb dX9_firstFreeDesk_22 rfl (lv_at hl 2 rfl) ?_
          refine va_get (D := D) (ci := 9) (v := .ref (x 1)) (C := RX9) (T := TX9) (N := 19) hx hb hts iX9_firstFreeDesk_9 hown hK hP 0 rfl rfl 0 (by decide) (hts (.fieldLink RX9 11 "FondsRoom" "desks" "[LFondsRoom$Desk;") (List.mem_of_getElem? (i := 2) rfl)) (fun _ h9 => h9) rfl dX9_firstFreeDesk_23 ?_
          refine lv_iload_n hx hb dX9_firstFreeDesk_26 rfl (lv_at hl 1 rfl) ?_
          obtain ⟨hi6, b7, eb7, hF⟩ := ga_s hF
          refine va_aldq hx hb hK hP 1 2 rfl rfl hi6 dX9_firstFreeDesk_27 ?_
          refine lv_tov (v' := .ref b7) (by rw [eb7]; rfl) ?_
          have mb7 := GO_0 hG hi6 eb7
          refine pg_get (D := D) (ci := 1) (v := .int (S.1 21 b7)) (C := RX1) (T := TX1) (N := 3) hx hb hts iX9_firstFreeDesk_1 hown hK hP mb7.1 (pf_1 mb7.2) rfl 1 (by decide) (hts (.fieldLink RX9 84 "FondsRoom$Desk" "watched" "Z") (List.mem_of_getElem? (i := 4) rfl)) (fun _ h9 => h9) rfl dX9_firstFreeDesk_28 ?_
          refine lv_iload_n hx hb dX9_firstFreeDesk_31 rfl (lv_at hl 0 rfl) ?_
          refine lv_icmp_ne (tgt := 42) hx hb dX9_firstFreeDesk_32 (by decide) (fun c8 => ?_) (fun c8 => ?_)
          · skip
            have hF := (if_neg c8).symm.trans hF
            refine lv_iinc (v := v2 + 1) (lv' := [(2, .int (v2 + 1)), (1, .int v1), (0, .ref (x 0))]) hx hb dX9_firstFreeDesk_42 hl (k := 1) rfl rfl (by decide) rfl (fun ls hl => ?_)
            refine lv_goto (tgt := 2) hx hb dX9_firstFreeDesk_45 (by decide) ?_
            exact ih2 v1 (v2 + 1)  _ _ _ hF hP hD hS (lv_sub hl [1, 0, 2] rfl)
          · skip
            have hF := (if_pos c8).symm.trans hF
            refine lv_aload_n hx hb dX9_firstFreeDesk_35 rfl (lv_at hl 2 rfl) ?_
            refine va_get (D := D) (ci := 9) (v := .ref (x 1)) (C := RX9) (T := TX9) (N := 19) hx hb hts iX9_firstFreeDesk_9 hown hK hP 0 rfl rfl 0 (by decide) (hts (.fieldLink RX9 11 "FondsRoom" "desks" "[LFondsRoom$Desk;") (List.mem_of_getElem? (i := 2) rfl)) (fun _ h9 => h9) rfl dX9_firstFreeDesk_36 ?_
            refine lv_iload_n hx hb dX9_firstFreeDesk_39 rfl (lv_at hl 1 rfl) ?_
            obtain ⟨hi9, b10, eb10, hF⟩ := ga_s hF
            refine va_aldq hx hb hK hP 1 2 rfl rfl hi9 dX9_firstFreeDesk_40 ?_
            refine lv_tov (v' := .ref b10) (by rw [eb10]; rfl) ?_
            have mb10 := GO_0 hG hi9 eb10
            have e1 := Option.some.inj hF
            exact W.aret (v := .ref b10) hx hb hr (Or.inl ⟨_, rfl⟩) (Or.inr ⟨_, rfl⟩) (fun t ht hW => ⟨⟨(some (b10)), (), rfl, ⟨e1, by rw [← e1]; exact (rok_some mb10.1 mb10.2)⟩, by rw [ht]; exact hP, va_K.moved hW.alike hK, hD⟩, hS.F ht⟩) hS.2.2 dX9_firstFreeDesk_41
        · skip
          subst eb5
          replace hF := oc_b hF
          have mb5 := hq4 b5 rfl
          have hl : lv_has ls 3 [(1, .int v1), (2, .int v2), (0, .ref (x 0))] := hl
          refine W.eq (g2 := F0 m 19 ls [.ref b5]) rfl ?_
          refine lv_ifnonnull (tgt := 42) hx hb dX9_firstFreeDesk_19 (by decide) ?_
          refine lv_iinc (v := v2 + 1) (lv' := [(2, .int (v2 + 1)), (1, .int v1), (0, .ref (x 0))]) hx hb dX9_firstFreeDesk_42 hl (k := 1) rfl rfl (by decide) rfl (fun ls hl => ?_)
          refine lv_goto (tgt := 2) hx hb dX9_firstFreeDesk_45 (by decide) ?_
          exact ih2 v1 (v2 + 1)  _ _ _ hF hP hD hS (lv_sub hl [1, 0, 2] rfl)
  have hl := lv_entry ([.ref (x 0), .int ar1]) (n := 3) (Nat.le_of_ble_eq_true rfl)
  rw [lg_entry_eq]
  generalize (lg_sl ([.ref (x 0), .int ar1]) ++ List.replicate (3 - (lg_sl ([.ref (x 0), .int ar1])).length) Slot.unset).toArray = ls at hl ⊢
  have hl : lv_has ls 3 [(0, .ref (x 0)), (1, .int ar1)] := hl
  unfold gX9_firstFreeDesk at hF
  refine lv_iconst (v := 0) hx hb dX9_firstFreeDesk_0 (by decide) ?_
  refine lv_istore_n (lv' := [(2, .int 0), (0, .ref (x 0)), (1, .int ar1)]) hx hb dX9_firstFreeDesk_1 rfl hl (by decide) rfl (fun ls hl => ?_)
  refine key2 _ ?_ 1000 ar1 0  _ _ _ hF hP hD hS (lv_sub hl [2, 0, 1] rfl)
  intro  H locs ls hF hP hD hS hl
  refine lv_null hx hb dX9_firstFreeDesk_48 ?_
  have e1 := Option.some.inj hF
  exact W.aret (v := .null) hx hb hr (Or.inl ⟨_, rfl⟩) (Or.inl rfl) (fun t ht hW => ⟨⟨none, (), rfl, ⟨e1, by rw [← e1]; exact rok_none⟩, by rw [ht]; exact hP, va_K.moved hW.alike hK, hD⟩, hS.F ht⟩) hS.2.2 dX9_firstFreeDesk_49

theorem iX9_freeDeskFor_6 : ∀ w ∈ wsX60, w ∈ wsX9_freeDeskFor := fun _ h => List.mem_cons_of_mem _ (List.mem_append_left _ (List.mem_append_left _ (List.mem_append_right _ h)))
set_option maxHeartbeats 8000000 in
set_option maxRecDepth 100000 in
theorem zX9_freeDeskFor (l : Launch) (D : va_G) (x : Nat → Nat) (cy : Nat → ClassId) (g : Nat → Nat → Option Nat) (L : List Nat) (K : Nat → Nat) (cf : Nat → Nat → Nat) (nm : Nat → Int32) (hG : GO L K g) (hL : PL L K cf) (S : CS) (hT : WT L K S.2) (sz : Nat) (ar1 : Nat) (mar1 : ar1 ∈ L ∧ K ar1 = 6) (rv : Option Nat) (hF : gX9_freeDeskFor g cf nm S ar1 = some rv) : Met l yX9_freeDeskFor wsX9_freeDeskFor ({ frames := 1, cells := 0, slots := 0, locals := 22 }) (PW D (TYS cy) (ZW x cy g S ++ va_pl L (pf cy K cf nm S)) sz [.ref (x 0), .ref ar1]) (va_Qq (fun (res : Option Nat) (u : Unit) => res = rv ∧ rok L K 1 rv) (BU D (TYS cy) (ZW x cy g S ++ va_pl L (pf cy K cf nm S)) (fun _ => ZW x cy g S ++ va_pl L (pf cy K cf nm S)) sz) (va_A (ZW x cy g S ++ va_pl L (pf cy K cf nm S)) sz)) 0 0 (va_A (ZW x cy g S ++ va_pl L (pf cy K cf nm S)) sz) := by
  refine Met.ofW (cc := cX9_freeDeskFor) (maxL := 4) (ret := (some (.object "FondsRoom$Desk"))) (by decide) rfl ?_
  intro p e s m args below meth c s₁ B hml hv
  obtain ⟨rfl, hsz, hP, hK, hD0⟩ := hv
  have hx := B.exec
  have hb := B.bytes
  have hr := B.returns
  have hts := atoms_spec (ws := wsX9_freeDeskFor) B.pre
  have hown : s.vm.findClass RX9 = some m.cls := findClass_of_methodNamed B.named
  have hlocks := B.notSynchronized
  subst hsz
  have hD := hD0.self (sz := s.heap.size)
  have hA : ∀ q9 : Nat, s.heap.size ≤ q9 → va_A (ZW x cy g S ++ va_pl L (pf cy K cf nm S)) s.heap.size q9 := fun q9 h => Or.inr h
  have hS : va_S (va_A (ZW x cy g S ++ va_pl L (pf cy K cf nm S)) s.heap.size) s.heap s.heap [] := va_S.rf
  have hl := lv_entry ([.ref (x 0), .ref ar1]) (n := 4) (Nat.le_of_ble_eq_true rfl)
  rw [lg_entry_eq]
  generalize (lg_sl ([.ref (x 0), .ref ar1]) ++ List.replicate (4 - (lg_sl ([.ref (x 0), .ref ar1])).length) Slot.unset).toArray = ls at hl ⊢
  have hl : lv_has ls 4 [(0, .ref (x 0)), (1, .ref ar1)] := hl
  unfold gX9_freeDeskFor at hF
  refine lv_aload_n hx hb dX9_freeDeskFor_0 rfl (lv_at hl 0 rfl) ?_
  refine lv_iconst (v := 1) hx hb dX9_freeDeskFor_1 (by decide) ?_
  obtain ⟨q1, hq4, hF⟩ := bd1_s hF
  refine gvQ (As := [.int 1]) (rest := []) ⟨hx, hb, hml, hown, hts⟩ (zX9_firstFreeDesk l D x cy g L K cf nm hG hL S hT _ 1  q1 hq4) (cwV 1 hts gX9_freeDeskFor_X9_firstFreeDesk rfl rfl rfl (by decide +kernel) ⟨Nat.le_of_ble_eq_true rfl, Nat.le_of_ble_eq_true rfl⟩) hK hP hD hS hA (va_recv hK hP (ci := 9) (q0 := 0) rfl rfl) rfl hl.1 rfl (Nat.le_of_ble_eq_true rfl) dX9_freeDeskFor_2 ⟨Nat.le_of_ble_eq_true rfl, Nat.le_of_ble_eq_true rfl⟩ (fun a5 u9 H locs hw3 hP hD hS => ?_)
  have hP : va_P D vwCl (ZW x cy g S ++ va_pl L (pf cy K cf nm S)) H := hP
  have hD : va_D _ (ZW x cy g S ++ va_pl L (pf cy K cf nm S)) := hD
  refine lv_tov (v' := va_rf q1) (congrArg va_rf hw3.1) ?_
  refine lq_astore_n (lv' := [(2, va_rf q1), (0, .ref (x 0)), (1, .ref ar1)]) hx hb dX9_freeDeskFor_5 rfl hl (by decide) rfl (fun ls hl => ?_)
  refine lv_aload_n hx hb dX9_freeDeskFor_6 rfl (lv_at hl 2 rfl) ?_
  refine pg_get (D := D) (ci := 6) (v := .int (S.1 124 ar1)) (C := RX6) (T := TX6) (N := 17) hx hb hts iX9_freeDeskFor_6 hown hK hP mar1.1 (pf_6 mar1.2) rfl 4 (by decide) (hts (.fieldLink RX9 117 "FondsRoom$Reader" "needsWatched" "Z") (List.mem_of_getElem? (i := 1) rfl)) (fun _ h9 => h9) rfl dX9_freeDeskFor_7 ?_
  refine lv_if_eq (tgt := 15) hx hb dX9_freeDeskFor_10 (by decide) (fun c6 => ?_) (fun c6 => ?_)
  · skip
    have hF := (if_pos c6).symm.trans hF
    refine lv_aload_n hx hb dX9_freeDeskFor_15 rfl (lv_at hl 1 rfl) ?_
    refine lv_iconst (v := 0) hx hb dX9_freeDeskFor_16 (by decide) ?_
    obtain ⟨q7, hq10, hF⟩ := bd1_s hF
    refine gvQ (As := [.int 0]) (rest := []) ⟨hx, hb, hml, hown, hts⟩ (zX9_firstFreeDesk l D x cy g L K cf nm hG hL S hT _ 0  q7 hq10) (cwV 1 hts gX9_freeDeskFor_X9_firstFreeDesk rfl rfl rfl (by decide +kernel) ⟨Nat.le_of_ble_eq_true rfl, Nat.le_of_ble_eq_true rfl⟩) hK hP hD hS hA (va_recv hK hP (ci := 9) (q0 := 0) rfl rfl) rfl hl.1 rfl (Nat.le_of_ble_eq_true rfl) dX9_freeDeskFor_17 ⟨Nat.le_of_ble_eq_true rfl, Nat.le_of_ble_eq_true rfl⟩ (fun a11 u9 H locs hw9 hP hD hS => ?_)
    have hP : va_P D vwCl (ZW x cy g S ++ va_pl L (pf cy K cf nm S)) H := hP
    have hD : va_D _ (ZW x cy g S ++ va_pl L (pf cy K cf nm S)) := hD
    refine lv_tov (v' := va_rf q7) (congrArg va_rf hw9.1) ?_
    refine lq_astore_n (lv' := [(3, va_rf q7), (2, va_rf q1), (0, .ref (x 0)), (1, .ref ar1)]) hx hb dX9_freeDeskFor_20 rfl hl (by decide) (by cases q1 <;> rfl) (fun ls hl => ?_)
    refine lq_aload_n hx hb dX9_freeDeskFor_21 rfl (lv_at hl 0 rfl) ?_
    rcases eb12 : q7 with _ | b12
    · skip
      subst eb12
      replace hF := oc_n hF
      have hl : lv_has ls 4 [(3, .null), (2, va_rf q1), (0, .ref (x 0)), (1, .ref ar1)] := hl
      refine W.eq (g2 := F0 m 22 ls [.null]) rfl ?_
      refine lv_ifnullN (tgt := 29) hx hb dX9_freeDeskFor_22 (by decide) ?_
      refine lq_aload_n hx hb dX9_freeDeskFor_29 rfl (lv_at hl 1 rfl) ?_
      have e1 := Option.some.inj hF
      exact W.aret (v := va_rf q1) hx hb hr (Or.inl ⟨_, rfl⟩) (va_rf_or _) (fun t ht hW => ⟨⟨q1, (), rfl, ⟨e1, by rw [← e1]; exact hw3.2⟩, by rw [ht]; exact hP, va_K.moved hW.alike hK, hD⟩, hS.F ht⟩) hS.2.2 dX9_freeDeskFor_30
    · skip
      subst eb12
      replace hF := oc_b hF
      have mb12 := hw9.2 b12 rfl
      have hl : lv_has ls 4 [(3, .ref b12), (2, va_rf q1), (0, .ref (x 0)), (1, .ref ar1)] := hl
      refine W.eq (g2 := F0 m 22 ls [.ref b12]) rfl ?_
      refine lv_ifnull hx hb dX9_freeDeskFor_22 ?_
      refine lv_aload_n hx hb dX9_freeDeskFor_25 rfl (lv_at hl 0 rfl) ?_
      refine lv_goto (tgt := 30) hx hb dX9_freeDeskFor_26 (by decide) ?_
      have e1 := Option.some.inj hF
      exact W.aret (v := .ref b12) hx hb hr (Or.inl ⟨_, rfl⟩) (Or.inr ⟨_, rfl⟩) (fun t ht hW => ⟨⟨(some (b12)), (), rfl, ⟨e1, by rw [← e1]; exact (rok_some mb12.1 mb12.2)⟩, by rw [ht]; exact hP, va_K.moved hW.alike hK, hD⟩, hS.F ht⟩) hS.2.2 dX9_freeDeskFor_30
  · skip
    have hF := (if_neg c6).symm.trans hF
    refine lq_aload_n hx hb dX9_freeDeskFor_13 rfl (lv_at hl 0 rfl) ?_
    have e1 := Option.some.inj hF
    exact W.aret (v := va_rf q1) hx hb hr (Or.inl ⟨_, rfl⟩) (va_rf_or _) (fun t ht hW => ⟨⟨q1, (), rfl, ⟨e1, by rw [← e1]; exact hw3.2⟩, by rw [ht]; exact hP, va_K.moved hW.alike hK, hD⟩, hS.F ht⟩) hS.2.2 dX9_freeDeskFor_14

theorem iX9_seat_1 : ∀ w ∈ wsX10, w ∈ wsX9_seat := fun _ h => List.mem_cons_of_mem _ (List.mem_append_left _ (List.mem_append_left _ (List.mem_append_left _ (List.mem_append_right _ h))))
theorem iX9_seat_3 : ∀ w ∈ wsX30, w ∈ wsX9_seat := fun _ h => List.mem_cons_of_mem _ (List.mem_append_left _ (List.mem_append_right _ h))
theorem iX9_seat_6 : ∀ w ∈ wsX60, w ∈ wsX9_seat := fun _ h => List.mem_cons_of_mem _ (List.mem_append_left _ (List.mem_append_left _ (List.mem_append_right _ h)))
theorem iX9_seat_9 : ∀ w ∈ wsX90, w ∈ wsX9_seat := fun _ h => List.mem_cons_of_mem _ (List.mem_append_left _ (List.mem_append_left _ (List.mem_append_left _ (List.mem_append_left _ (List.mem_append_right _ h)))))
set_option maxHeartbeats 8000000 in
set_option maxRecDepth 100000 in
theorem zX9_seat (l : Launch) (D : va_G) (x : Nat → Nat) (cy : Nat → ClassId) (g : Nat → Nat → Option Nat) (L : List Nat) (K : Nat → Nat) (cf : Nat → Nat → Nat) (nm : Nat → Int32) (hG : GO L K g) (hL : PL L K cf) (S0 : CS) (hT : WT L K S0.2) (sz : Nat) (ar1 : Nat) (ar2 : Nat) (mar1 : ar1 ∈ L ∧ K ar1 = 6) (mar2 : ar2 ∈ L ∧ K ar2 = 1) (Sf : CS) (hF : gX9_seat g cf nm S0 ar1 ar2 = some Sf) : Met l yX9_seat wsX9_seat ({ frames := 1, cells := 0, slots := 0, locals := 25 }) (PW D (TYS cy) (ZW x cy g S0 ++ va_pl L (pf cy K cf nm S0)) sz [.ref (x 0), .ref ar1, .ref ar2]) (va_Qv (fun (u : Unit) => WT L K Sf.2) (BU D (TYS cy) (ZW x cy g S0 ++ va_pl L (pf cy K cf nm S0)) (fun _ => ZW x cy g Sf ++ va_pl L (pf cy K cf nm Sf)) sz) (va_A (ZW x cy g S0 ++ va_pl L (pf cy K cf nm S0)) sz)) 0 0 (va_A (ZW x cy g S0 ++ va_pl L (pf cy K cf nm S0)) sz) := by
  refine Met.ofW (cc := cX9_seat) (maxL := 5) (ret := none) (by decide) rfl ?_
  intro p e s m args below meth c s₁ B hml hv
  obtain ⟨rfl, hsz, hP, hK, hD0⟩ := hv
  have hx := B.exec
  have hb := B.bytes
  have hr := B.returns
  have hts := atoms_spec (ws := wsX9_seat) B.pre
  have hown : s.vm.findClass RX9 = some m.cls := findClass_of_methodNamed B.named
  have hlocks := B.notSynchronized
  subst hsz
  have hD := hD0.self (sz := s.heap.size)
  have hA : ∀ q9 : Nat, s.heap.size ≤ q9 → va_A (ZW x cy g S0 ++ va_pl L (pf cy K cf nm S0)) s.heap.size q9 := fun q9 h => Or.inr h
  have hS : va_S (va_A (ZW x cy g S0 ++ va_pl L (pf cy K cf nm S0)) s.heap.size) s.heap s.heap [] := va_S.rf
  have key26 : ∀ (KK : Nat → Nat → CS → Option (CS)), (∀ (v1 : Nat) (v2 : Nat) (S : CS) (H : Heap) (locs : List Loc) (ls : Array Slot), KK v1 v2 S = some Sf → WT L K S.2 → (v1 ∈ L ∧ K v1 = 6) → (v2 ∈ L ∧ K v2 = 1) → va_P D vwCl (ZW x cy g S ++ va_pl L (pf cy K cf nm S)) H → va_D (va_A (ZW x cy g S0 ++ va_pl L (pf cy K cf nm S0)) s.heap.size) (ZW x cy g S ++ va_pl L (pf cy K cf nm S)) → va_S (va_A (ZW x cy g S0 ++ va_pl L (pf cy K cf nm S0)) s.heap.size) s.heap H locs → lv_has ls 5 [(1, .ref v1), (2, .ref v2), (0, .ref (x 0))] → W p l e (headSpec wsX9_seat ({ frames := 1, cells := 0, slots := 0, locals := 25 })).room s m #[.ref (x 0), .ref ar1, .ref ar2] below meth c H locs 0 0 (MQ below (va_Qv (fun (u : Unit) => WT L K Sf.2) (BU D (TYS cy) (ZW x cy g S0 ++ va_pl L (pf cy K cf nm S0)) (fun _ => ZW x cy g Sf ++ va_pl L (pf cy K cf nm Sf)) s.heap.size) (va_A (ZW x cy g S0 ++ va_pl L (pf cy K cf nm S0)) s.heap.size)) #[.ref (x 0), .ref ar1, .ref ar2] s 0 0 (va_A (ZW x cy g S0 ++ va_pl L (pf cy K cf nm S0)) s.heap.size)) (F0 m 78 ls [])) → ∀ (fu : Nat) (v1 : Nat) (v2 : Nat) (v3 : Int32) (S : CS) (H : Heap) (locs : List Loc) (ls : Array Slot), gX9_seat_26 g cf nm KK fu v1 v2 v3 S = some Sf → WT L K S.2 → (v1 ∈ L ∧ K v1 = 6) → (v2 ∈ L ∧ K v2 = 1) → va_P D vwCl (ZW x cy g S ++ va_pl L (pf cy K cf nm S)) H → va_D (va_A (ZW x cy g S0 ++ va_pl L (pf cy K cf nm S0)) s.heap.size) (ZW x cy g S ++ va_pl L (pf cy K cf nm S)) → va_S (va_A (ZW x cy g S0 ++ va_pl L (pf cy K cf nm S0)) s.heap.size) s.heap H locs → lv_has ls 5 [(1, .ref v1), (2, .ref v2), (3, .int v3), (0, .ref (x 0))] → W p l e (headSpec wsX9_seat ({ frames := 1, cells := 0, slots := 0, locals := 25 })).room s m #[.ref (x 0), .ref ar1, .ref ar2] below meth c H locs 0 0 (MQ below (va_Qv (fun (u : Unit) => WT L K Sf.2) (BU D (TYS cy) (ZW x cy g S0 ++ va_pl L (pf cy K cf nm S0)) (fun _ => ZW x cy g Sf ++ va_pl L (pf cy K cf nm Sf)) s.heap.size) (va_A (ZW x cy g S0 ++ va_pl L (pf cy K cf nm S0)) s.heap.size)) #[.ref (x 0), .ref ar1, .ref ar2] s 0 0 (va_A (ZW x cy g S0 ++ va_pl L (pf cy K cf nm S0)) s.heap.size)) (F0 m 26 ls []) := by
    intro KK hKK fu
    induction fu with
    | zero =>
      intro v1 v2 v3 S H locs ls hF
      exact absurd (show (none : Option (CS)) = some Sf from hF) (by simp)
    | succ fu26 ih26 =>
      intro v1 v2 v3 S H locs ls hF hT mv1 mv2 hP hD hS hl
      rw [gX9_seat_26] at hF
      refine lv_iload_n hx hb dX9_seat_26 rfl (lv_at hl 2 rfl) ?_
      refine lv_aload_n hx hb dX9_seat_27 rfl (lv_at hl 3 rfl) ?_
      refine va_get (D := D) (ci := 9) (v := .ref (x 8)) (C := RX9) (T := TX9) (N := 19) hx hb hts iX9_seat_9 hown hK hP 0 rfl rfl 5 (by decide) (hts (.fieldLink RX9 47 "FondsRoom" "deskLine" "LFondsRoom$Line;") (List.mem_of_getElem? (i := 1) rfl)) (fun _ h9 => h9) rfl dX9_seat_28 ?_
      refine va_get (D := D) (ci := 3) (v := .int (S.1 200 11)) (C := RX3) (T := TX3) (N := 2) hx hb hts iX9_seat_3 hown hK hP 8 rfl rfl 1 (by decide) (hts (.fieldLink RX9 373 "FondsRoom$Line" "size" "I") (List.mem_of_getElem? (i := 5) rfl)) (fun _ h9 => h9) rfl dX9_seat_31 ?_
      refine lv_icmp_ge (tgt := 78) hx hb dX9_seat_34 (by decide) (fun c9 => ?_) (fun c9 => ?_)
      · skip
        have hF := (if_pos c9).symm.trans hF
        exact hKK v1 v2 S _ _ _ hF hT ⟨mv1.1, mv1.2⟩ ⟨mv2.1, mv2.2⟩ hP hD hS (lv_sub hl [0, 1, 3] rfl)
      · skip
        have hF := (if_neg c9).symm.trans hF
        refine lv_aload_n hx hb dX9_seat_37 rfl (lv_at hl 3 rfl) ?_
        refine va_get (D := D) (ci := 9) (v := .ref (x 8)) (C := RX9) (T := TX9) (N := 19) hx hb hts iX9_seat_9 hown hK hP 0 rfl rfl 5 (by decide) (hts (.fieldLink RX9 47 "FondsRoom" "deskLine" "LFondsRoom$Line;") (List.mem_of_getElem? (i := 1) rfl)) (fun _ h9 => h9) rfl dX9_seat_38 ?_
        refine lv_iload_n hx hb dX9_seat_41 rfl (lv_at hl 2 rfl) ?_
        obtain ⟨q10, hq13, hF⟩ := bd1_s hF
        refine gvQ (As := [.int v3]) (rest := []) ⟨hx, hb, hml, hown, hts⟩ (zX3_at_0 l D x cy g L K cf nm hG hL S hT _ v3  q10 hq13) (cwV 1 hts gX9_seat_X3_at rfl rfl rfl (by decide +kernel) ⟨Nat.le_of_ble_eq_true rfl, Nat.le_of_ble_eq_true rfl⟩) hK hP hD hS hA (va_recv hK hP (ci := 3) (q0 := 8) rfl rfl) rfl hl.1 rfl (Nat.le_of_ble_eq_true rfl) dX9_seat_42 ⟨Nat.le_of_ble_eq_true rfl, Nat.le_of_ble_eq_true rfl⟩ (fun a14 u9 H locs hw12 hP hD hS => ?_)
        have hP : va_P D vwCl (ZW x cy g S ++ va_pl L (pf cy K cf nm S)) H := hP
        have hD : va_D _ (ZW x cy g S ++ va_pl L (pf cy K cf nm S)) := hD
        refine lv_tov (v' := va_rf q10) (congrArg va_rf hw12.1) ?_
        refine lq_astore (lv' := [(4, va_rf q10), (1, .ref v1), (2, .ref v2), (3, .int v3), (0, .ref (x 0))]) hx hb dX9_seat_45 hl (by decide) rfl (fun ls hl => ?_)
        refine lq_aload hx hb dX9_seat_47 (lv_at hl 0 rfl) ?_
        rcases eb15 : q10 with _ | b15
        · skip
          subst eb15
          replace hF := oc_n hF
          have hl : lv_has ls 5 [(4, .null), (1, .ref v1), (2, .ref v2), (3, .int v3), (0, .ref (x 0))] := hl
          refine W.eq (g2 := F0 m 49 ls [.null]) rfl ?_
          refine lv_ifnullN (tgt := 72) hx hb dX9_seat_49 (by decide) ?_
          refine lv_iinc (v := v3 + 1) (lv' := [(3, .int (v3 + 1)), (4, .null), (1, .ref v1), (2, .ref v2), (0, .ref (x 0))]) hx hb dX9_seat_72 hl (k := 3) rfl rfl (by decide) rfl (fun ls hl => ?_)
          refine lv_goto (tgt := 26) hx hb dX9_seat_75 (by decide) ?_
          exact ih26 v1 v2 (v3 + 1) S _ _ _ hF hT ⟨mv1.1, mv1.2⟩ ⟨mv2.1, mv2.2⟩ hP hD hS (lv_sub hl [2, 3, 0, 4] rfl)
        · skip
          subst eb15
          replace hF := oc_b hF
          have mb15 := hw12.2 b15 rfl
          have hl : lv_has ls 5 [(4, .ref b15), (1, .ref v1), (2, .ref v2), (3, .int v3), (0, .ref (x 0))] := hl
          refine W.eq (g2 := F0 m 49 ls [.ref b15]) rfl ?_
          refine lv_ifnull hx hb dX9_seat_49 ?_
          refine lv_aload_n hx hb dX9_seat_52 rfl (lv_at hl 1 rfl) ?_
          refine lv_aload hx hb dX9_seat_53 (lv_at hl 0 rfl) ?_
          obtain ⟨r16, hq19, hF⟩ := bd1_s hF
          refine gvI (As := [.ref b15]) (rest := []) ⟨hx, hb, hml, hown, hts⟩ (zX6_cameBehind l D x cy g L K cf nm hG hL S hT _ v1 b15 ⟨mv1.1, mv1.2⟩ ⟨mb15.1, mb15.2⟩ r16 hq19) (cwV 1 hts gX9_seat_X6_cameBehind rfl rfl rfl (by decide +kernel) ⟨Nat.le_of_ble_eq_true rfl, Nat.le_of_ble_eq_true rfl⟩) hK hP hD hS hA (pl_recv hK hP (ci := 6) rfl mv1.1 (pf_6 mv1.2)) rfl hl.1 rfl (Nat.le_of_ble_eq_true rfl) dX9_seat_55 ⟨Nat.le_of_ble_eq_true rfl, Nat.le_of_ble_eq_true rfl⟩ (fun a20 u9 H locs hw18 hP hD hS => ?_)
          have hP : va_P D vwCl (ZW x cy g S ++ va_pl L (pf cy K cf nm S)) H := hP
          have hD : va_D _ (ZW x cy g S ++ va_pl L (pf cy K cf nm S)) := hD
          refine lv_tov (v' := .int r16) (congrArg Value.int hw18.1) ?_
          refine lv_if_eq (tgt := 72) hx hb dX9_seat_58 (by decide) (fun c21 => ?_) (fun c21 => ?_)
          · skip
            have hF := (if_pos c21).symm.trans hF
            refine lv_iinc (v := v3 + 1) (lv' := [(3, .int (v3 + 1)), (4, .ref b15), (1, .ref v1), (2, .ref v2), (0, .ref (x 0))]) hx hb dX9_seat_72 hl (k := 3) rfl rfl (by decide) rfl (fun ls hl => ?_)
            refine lv_goto (tgt := 26) hx hb dX9_seat_75 (by decide) ?_
            exact ih26 v1 v2 (v3 + 1) S _ _ _ hF hT ⟨mv1.1, mv1.2⟩ ⟨mv2.1, mv2.2⟩ hP hD hS (lv_sub hl [2, 3, 0, 4] rfl)
          · skip
            have hF := (if_neg c21).symm.trans hF
            refine lv_aload hx hb dX9_seat_61 (lv_at hl 0 rfl) ?_
            refine lv_dup hx hb dX9_seat_63 rfl ?_
            refine pg_get (D := D) (ci := 6) (v := .int (S.1 135 b15)) (C := RX6) (T := TX6) (N := 17) hx hb hts iX9_seat_6 hown hK hP mb15.1 (pf_6 mb15.2) rfl 15 (by decide) (hts (.fieldLink RX9 377 "FondsRoom$Reader" "overtaken" "I") (List.mem_of_getElem? (i := 6) rfl)) (fun _ h9 => h9) rfl dX9_seat_64 ?_
            refine lv_iconst (v := 1) hx hb dX9_seat_67 (by decide) ?_
            refine lv_iadd hx hb dX9_seat_68 ?_
            refine pg_put (D := D) (ci := 6) (v := .int ((S.1 135 b15) + 1)) (ty := .int) (C := RX6) (T := TX6) (N := 17) hx hb hts iX9_seat_6 tyX6 tyX6_ok nmX6 hown hK hP hD hS mb15.1 (pf_6 mb15.2) rfl 15 (by decide) (hts (.fieldLink RX9 377 "FondsRoom$Reader" "overtaken" "I") (List.mem_of_getElem? (i := 6) rfl)) (fun _ h9 => h9) rfl (by decide +kernel) rfl rfl (Nat.le_of_ble_eq_true rfl) dX9_seat_69 (fun H locs hP hD hS => ?_)
            obtain ⟨S22, eS22⟩ : ∃ z, z = wi S 135 b15 ((S.1 135 b15) + 1) := ⟨_, rfl⟩
            replace hF := bnd_s hF S22 eS22
            have hP : va_P D vwCl (ZW x cy g S22 ++ va_pl L (pf cy K cf nm S22)) H := by rw [eS22]; rw [← pu_6_15 mb15.2]; exact hP
            have hD : va_D (va_A (ZW x cy g S0 ++ va_pl L (pf cy K cf nm S0)) s.heap.size) (ZW x cy g S22 ++ va_pl L (pf cy K cf nm S22)) := by rw [eS22]; rw [← pu_6_15 mb15.2]; exact hD
            have hT : WT L K S22.2 := by rw [eS22]; exact hT
            refine lv_iinc (v := v3 + 1) (lv' := [(3, .int (v3 + 1)), (4, .ref b15), (1, .ref v1), (2, .ref v2), (0, .ref (x 0))]) hx hb dX9_seat_72 hl (k := 3) rfl rfl (by decide) rfl (fun ls hl => ?_)
            refine lv_goto (tgt := 26) hx hb dX9_seat_75 (by decide) ?_
            exact ih26 v1 v2 (v3 + 1) S22 _ _ _ hF hT ⟨mv1.1, mv1.2⟩ ⟨mv2.1, mv2.2⟩ hP hD hS (lv_sub hl [2, 3, 0, 4] rfl)
  have hl := lv_entry ([.ref (x 0), .ref ar1, .ref ar2]) (n := 5) (Nat.le_of_ble_eq_true rfl)
  rw [lg_entry_eq]
  generalize (lg_sl ([.ref (x 0), .ref ar1, .ref ar2]) ++ List.replicate (5 - (lg_sl ([.ref (x 0), .ref ar1, .ref ar2])).length) Slot.unset).toArray = ls at hl ⊢
  have hl : lv_has ls 5 [(0, .ref (x 0)), (1, .ref ar1), (2, .ref ar2)] := hl
  unfold gX9_seat at hF
  refine lv_aload_n hx hb dX9_seat_0 rfl (lv_at hl 0 rfl) ?_
  refine va_get (D := D) (ci := 9) (v := .ref (x 8)) (C := RX9) (T := TX9) (N := 19) hx hb hts iX9_seat_9 hown hK hP 0 rfl rfl 5 (by decide) (hts (.fieldLink RX9 47 "FondsRoom" "deskLine" "LFondsRoom$Line;") (List.mem_of_getElem? (i := 1) rfl)) (fun _ h9 => h9) rfl dX9_seat_1 ?_
  refine lv_aload_n hx hb dX9_seat_4 rfl (lv_at hl 1 rfl) ?_
  obtain ⟨S2, hq4, hF⟩ := bd1_s hF
  refine gvV (As := [.ref ar1]) (rest := []) ⟨hx, hb, hml, hown, hts⟩ (zX3_remove_0 l D x cy g L K cf nm hG hL S0 hT _ ar1 ⟨mar1.1, mar1.2⟩ S2 hq4) (cwV 1 hts gX9_seat_X3_remove rfl rfl rfl (by decide +kernel) ⟨Nat.le_of_ble_eq_true rfl, Nat.le_of_ble_eq_true rfl⟩) hK hP hD hS hA (va_recv hK hP (ci := 3) (q0 := 8) rfl rfl) rfl hl.1 rfl (Nat.le_of_ble_eq_true rfl) dX9_seat_5 ⟨Nat.le_of_ble_eq_true rfl, Nat.le_of_ble_eq_true rfl⟩ (fun u9 H locs hw3 hP hD hS => ?_)
  have hT : WT L K S2.2 := hw3
  have hP : va_P D vwCl (ZW x cy g S2 ++ va_pl L (pf cy K cf nm S2)) H := hP
  have hD : va_D _ (ZW x cy g S2 ++ va_pl L (pf cy K cf nm S2)) := hD
  refine lv_aload_n hx hb dX9_seat_8 rfl (lv_at hl 2 rfl) ?_
  refine lv_aload_n hx hb dX9_seat_9 rfl (lv_at hl 1 rfl) ?_
  refine pg_put (D := D) (ci := 1) (v := .ref ar1) (ty := (.object "FondsRoom$Reader")) (C := RX1) (T := TX1) (N := 3) hx hb hts iX9_seat_1 tyX1 tyX1_ok nmX1 hown hK hP hD hS mar2.1 (pf_1 mar2.2) rfl 2 (by decide) (hts (.fieldLink RX9 348 "FondsRoom$Desk" "sitter" "LFondsRoom$Reader;") (List.mem_of_getElem? (i := 2) rfl)) (fun _ h9 => h9) rfl (by decide +kernel) rfl rfl (Nat.le_of_ble_eq_true rfl) dX9_seat_10 (fun H locs hP hD hS => ?_)
  obtain ⟨S6, eS6⟩ : ∃ z, z = wq S2 22 ar2 (some ar1) := ⟨_, rfl⟩
  replace hF := bnd_s hF S6 eS6
  have hP : va_P D vwCl (ZW x cy g S6 ++ va_pl L (pf cy K cf nm S6)) H := by rw [eS6]; rw [← pu_1_2 mar2.2]; exact hP
  have hD : va_D (va_A (ZW x cy g S0 ++ va_pl L (pf cy K cf nm S0)) s.heap.size) (ZW x cy g S6 ++ va_pl L (pf cy K cf nm S6)) := by rw [eS6]; rw [← pu_1_2 mar2.2]; exact hD
  have hT : WT L K S6.2 := by rw [eS6]; exact WT_up hT 22 ar2 (rok_some mar1.1 mar1.2)
  refine lv_aload_n hx hb dX9_seat_13 rfl (lv_at hl 1 rfl) ?_
  refine lv_aload_n hx hb dX9_seat_14 rfl (lv_at hl 2 rfl) ?_
  refine pg_put (D := D) (ci := 6) (v := .ref ar2) (ty := (.object "FondsRoom$Desk")) (C := RX6) (T := TX6) (N := 17) hx hb hts iX9_seat_6 tyX6 tyX6_ok nmX6 hown hK hP hD hS mar1.1 (pf_6 mar1.2) rfl 7 (by decide) (hts (.fieldLink RX9 328 "FondsRoom$Reader" "desk" "LFondsRoom$Desk;") (List.mem_of_getElem? (i := 3) rfl)) (fun _ h9 => h9) rfl (by decide +kernel) rfl rfl (Nat.le_of_ble_eq_true rfl) dX9_seat_15 (fun H locs hP hD hS => ?_)
  obtain ⟨S7, eS7⟩ : ∃ z, z = wq S6 127 ar1 (some ar2) := ⟨_, rfl⟩
  replace hF := bnd_s hF S7 eS7
  have hP : va_P D vwCl (ZW x cy g S7 ++ va_pl L (pf cy K cf nm S7)) H := by rw [eS7]; rw [← pu_6_7 mar1.2]; exact hP
  have hD : va_D (va_A (ZW x cy g S0 ++ va_pl L (pf cy K cf nm S0)) s.heap.size) (ZW x cy g S7 ++ va_pl L (pf cy K cf nm S7)) := by rw [eS7]; rw [← pu_6_7 mar1.2]; exact hD
  have hT : WT L K S7.2 := by rw [eS7]; exact WT_up hT 127 ar1 (rok_some mar2.1 mar2.2)
  refine lv_aload_n hx hb dX9_seat_18 rfl (lv_at hl 1 rfl) ?_
  refine lv_bipush (v := 8) hx hb dX9_seat_19 (by decide) ?_
  refine pg_put (D := D) (ci := 6) (v := .int 8) (ty := .int) (C := RX6) (T := TX6) (N := 17) hx hb hts iX9_seat_6 tyX6 tyX6_ok nmX6 hown hK hP hD hS mar1.1 (pf_6 mar1.2) rfl 5 (by decide) (hts (.fieldLink RX9 270 "FondsRoom$Reader" "state" "I") (List.mem_of_getElem? (i := 4) rfl)) (fun _ h9 => h9) rfl (by decide +kernel) rfl rfl (Nat.le_of_ble_eq_true rfl) dX9_seat_21 (fun H locs hP hD hS => ?_)
  obtain ⟨S8, eS8⟩ : ∃ z, z = wi S7 125 ar1 8 := ⟨_, rfl⟩
  replace hF := bnd_s hF S8 eS8
  have hP : va_P D vwCl (ZW x cy g S8 ++ va_pl L (pf cy K cf nm S8)) H := by rw [eS8]; rw [← pu_6_5 mar1.2]; exact hP
  have hD : va_D (va_A (ZW x cy g S0 ++ va_pl L (pf cy K cf nm S0)) s.heap.size) (ZW x cy g S8 ++ va_pl L (pf cy K cf nm S8)) := by rw [eS8]; rw [← pu_6_5 mar1.2]; exact hD
  have hT : WT L K S8.2 := by rw [eS8]; exact hT
  refine lv_iconst (v := 0) hx hb dX9_seat_24 (by decide) ?_
  refine lv_istore_n (lv' := [(3, .int 0), (0, .ref (x 0)), (1, .ref ar1), (2, .ref ar2)]) hx hb dX9_seat_25 rfl hl (by decide) rfl (fun ls hl => ?_)
  refine key26 _ ?_ 1000 ar1 ar2 0 S8 _ _ _ hF hT ⟨mar1.1, mar1.2⟩ ⟨mar2.1, mar2.2⟩ hP hD hS (lv_sub hl [2, 3, 0, 1] rfl)
  intro v1_23 v2_24 S25 H locs ls hF hT mv1_23 mv2_24 hP hD hS hl
  refine lv_aload_n hx hb dX9_seat_78 rfl (lv_at hl 2 rfl) ?_
  refine va_get (D := D) (ci := 9) (v := .ref (x 18)) (C := RX9) (T := TX9) (N := 19) hx hb hts iX9_seat_9 hown hK hP 0 rfl rfl 9 (by decide) (hts (.fieldLink RX9 67 "FondsRoom" "events" "LFondsRoom$Events;") (List.mem_of_getElem? (i := 7) rfl)) (fun _ h9 => h9) rfl dX9_seat_79 ?_
  refine lv_aload_n hx hb dX9_seat_82 rfl (lv_at hl 2 rfl) ?_
  refine va_get (D := D) (ci := 9) (v := .int (S25.1 200 4)) (C := RX9) (T := TX9) (N := 19) hx hb hts iX9_seat_9 hown hK hP 0 rfl rfl 14 (by decide) (hts (.fieldLink RX9 78 "FondsRoom" "turn" "I") (List.mem_of_getElem? (i := 8) rfl)) (fun _ h9 => h9) rfl dX9_seat_83 ?_
  refine lv_aload_n hx hb dX9_seat_86 rfl (lv_at hl 0 rfl) ?_
  refine pg_get (D := D) (ci := 6) (v := .int (nm v1_23)) (C := RX6) (T := TX6) (N := 17) hx hb hts iX9_seat_6 hown hK hP mv1_23.1 (pf_6 mv1_23.2) rfl 0 (by decide) (hts (.fieldLink RX9 273 "FondsRoom$Reader" "number" "I") (List.mem_of_getElem? (i := 9) rfl)) (fun _ h9 => h9) rfl dX9_seat_87 ?_
  refine lv_iconst (v := 2) hx hb dX9_seat_90 (by decide) ?_
  refine lv_aload_n hx hb dX9_seat_91 rfl (lv_at hl 1 rfl) ?_
  refine pg_get (D := D) (ci := 1) (v := .int (nm v2_24)) (C := RX1) (T := TX1) (N := 3) hx hb hts iX9_seat_1 hown hK hP mv2_24.1 (pf_1 mv2_24.2) rfl 0 (by decide) (hts (.fieldLink RX9 380 "FondsRoom$Desk" "number" "I") (List.mem_of_getElem? (i := 10) rfl)) (fun _ h9 => h9) rfl dX9_seat_92 ?_
  obtain ⟨S27, hq29, hF⟩ := bd1_s hF
  refine gvV (As := [.int (S25.1 200 4), .int (nm v1_23), .int 2, .int (nm v2_24)]) (rest := []) ⟨hx, hb, hml, hown, hts⟩ (zX2_keep l D x cy g L K cf nm hG hL S25 hT _ (S25.1 200 4) (nm v1_23) 2 (nm v2_24)  S27 hq29) (cwV 4 hts gX9_seat_X2_keep rfl rfl rfl (by decide +kernel) ⟨Nat.le_of_ble_eq_true rfl, Nat.le_of_ble_eq_true rfl⟩) hK hP hD hS hA (va_recv hK hP (ci := 2) (q0 := 18) rfl rfl) rfl hl.1 rfl (Nat.le_of_ble_eq_true rfl) dX9_seat_95 ⟨Nat.le_of_ble_eq_true rfl, Nat.le_of_ble_eq_true rfl⟩ (fun u9 H locs hw28 hP hD hS => ?_)
  have hT : WT L K S27.2 := hw28
  have hP : va_P D vwCl (ZW x cy g S27 ++ va_pl L (pf cy K cf nm S27)) H := hP
  have hD : va_D _ (ZW x cy g S27 ++ va_pl L (pf cy K cf nm S27)) := hD
  have e2 := Option.some.inj hF
  have hP : va_P D vwCl (ZW x cy g Sf ++ va_pl L (pf cy K cf nm Sf)) H := by rw [← e2]; exact hP
  have hD : va_D (va_A (ZW x cy g S0 ++ va_pl L (pf cy K cf nm S0)) s.heap.size) (ZW x cy g Sf ++ va_pl L (pf cy K cf nm Sf)) := by rw [← e2]; exact hD
  have hT : WT L K Sf.2 := by rw [← e2]; exact hT
  exact W.vret hx hb hr (fun t ht hW => ⟨⟨(), rfl, hT, by rw [ht]; exact hP, va_K.moved hW.alike hK, hD⟩, hS.F ht⟩) hS.2.2 dX9_seat_98

theorem iX9_giveDesks_9 : ∀ w ∈ wsX90, w ∈ wsX9_giveDesks := fun _ h => List.mem_cons_of_mem _ (List.mem_append_left _ (List.mem_append_left _ (List.mem_append_left _ (List.mem_append_left _ (List.mem_append_right _ h)))))
set_option maxHeartbeats 8000000 in
set_option maxRecDepth 100000 in
theorem zX9_giveDesks (l : Launch) (D : va_G) (x : Nat → Nat) (cy : Nat → ClassId) (g : Nat → Nat → Option Nat) (L : List Nat) (K : Nat → Nat) (cf : Nat → Nat → Nat) (nm : Nat → Int32) (hG : GO L K g) (hL : PL L K cf) (S0 : CS) (hT : WT L K S0.2) (sz : Nat)   (Sf : CS) (hF : gX9_giveDesks g cf nm S0  = some Sf) : Met l yX9_giveDesks wsX9_giveDesks ({ frames := 2, cells := 0, slots := 0, locals := 49 }) (PW D (TYS cy) (ZW x cy g S0 ++ va_pl L (pf cy K cf nm S0)) sz [.ref (x 0)]) (va_Qv (fun (u : Unit) => WT L K Sf.2) (BU D (TYS cy) (ZW x cy g S0 ++ va_pl L (pf cy K cf nm S0)) (fun _ => ZW x cy g Sf ++ va_pl L (pf cy K cf nm Sf)) sz) (va_A (ZW x cy g S0 ++ va_pl L (pf cy K cf nm S0)) sz)) 0 0 (va_A (ZW x cy g S0 ++ va_pl L (pf cy K cf nm S0)) sz) := by
  refine Met.ofW (cc := cX9_giveDesks) (maxL := 5) (ret := none) (by decide) rfl ?_
  intro p e s m args below meth c s₁ B hml hv
  obtain ⟨rfl, hsz, hP, hK, hD0⟩ := hv
  have hx := B.exec
  have hb := B.bytes
  have hr := B.returns
  have hts := atoms_spec (ws := wsX9_giveDesks) B.pre
  have hown : s.vm.findClass RX9 = some m.cls := findClass_of_methodNamed B.named
  have hlocks := B.notSynchronized
  subst hsz
  have hD := hD0.self (sz := s.heap.size)
  have hA : ∀ q9 : Nat, s.heap.size ≤ q9 → va_A (ZW x cy g S0 ++ va_pl L (pf cy K cf nm S0)) s.heap.size q9 := fun q9 h => Or.inr h
  have hS : va_S (va_A (ZW x cy g S0 ++ va_pl L (pf cy K cf nm S0)) s.heap.size) s.heap s.heap [] := va_S.rf
  have key4 : ∀ (KK : CS → Option (CS)), (∀  (S : CS) (H : Heap) (locs : List Loc) (ls : Array Slot), KK  S = some Sf → WT L K S.2 → va_P D vwCl (ZW x cy g S ++ va_pl L (pf cy K cf nm S)) H → va_D (va_A (ZW x cy g S0 ++ va_pl L (pf cy K cf nm S0)) s.heap.size) (ZW x cy g S ++ va_pl L (pf cy K cf nm S)) → va_S (va_A (ZW x cy g S0 ++ va_pl L (pf cy K cf nm S0)) s.heap.size) s.heap H locs → lv_has ls 5 [] → W p l e (headSpec wsX9_giveDesks ({ frames := 2, cells := 0, slots := 0, locals := 49 })).room s m #[.ref (x 0)] below meth c H locs 0 0 (MQ below (va_Qv (fun (u : Unit) => WT L K Sf.2) (BU D (TYS cy) (ZW x cy g S0 ++ va_pl L (pf cy K cf nm S0)) (fun _ => ZW x cy g Sf ++ va_pl L (pf cy K cf nm Sf)) s.heap.size) (va_A (ZW x cy g S0 ++ va_pl L (pf cy K cf nm S0)) s.heap.size)) #[.ref (x 0)] s 0 0 (va_A (ZW x cy g S0 ++ va_pl L (pf cy K cf nm S0)) s.heap.size)) (F0 m 57 ls [])) → ∀ (fu : Nat) (v1 : Int32) (v2 : Int32) (S : CS) (H : Heap) (locs : List Loc) (ls : Array Slot), gX9_giveDesks_4 g cf nm KK fu v1 v2 S = some Sf → WT L K S.2 → va_P D vwCl (ZW x cy g S ++ va_pl L (pf cy K cf nm S)) H → va_D (va_A (ZW x cy g S0 ++ va_pl L (pf cy K cf nm S0)) s.heap.size) (ZW x cy g S ++ va_pl L (pf cy K cf nm S)) → va_S (va_A (ZW x cy g S0 ++ va_pl L (pf cy K cf nm S0)) s.heap.size) s.heap H locs → lv_has ls 5 [(1, .int v1), (2, .int v2), (0, .ref (x 0))] → W p l e (headSpec wsX9_giveDesks ({ frames := 2, cells := 0, slots := 0, locals := 49 })).room s m #[.ref (x 0)] below meth c H locs 0 0 (MQ below (va_Qv (fun (u : Unit) => WT L K Sf.2) (BU D (TYS cy) (ZW x cy g S0 ++ va_pl L (pf cy K cf nm S0)) (fun _ => ZW x cy g Sf ++ va_pl L (pf cy K cf nm Sf)) s.heap.size) (va_A (ZW x cy g S0 ++ va_pl L (pf cy K cf nm S0)) s.heap.size)) #[.ref (x 0)] s 0 0 (va_A (ZW x cy g S0 ++ va_pl L (pf cy K cf nm S0)) s.heap.size)) (F0 m 4 ls []) := by
    intro KK hKK fu
    induction fu with
    | zero =>
      intro v1 v2 S H locs ls hF
      exact absurd (show (none : Option (CS)) = some Sf from hF) (by simp)
    | succ fu4 ih4 =>
      intro v1 v2 S H locs ls hF hT hP hD hS hl
      rw [gX9_giveDesks_4] at hF
      refine lv_iload_n hx hb dX9_giveDesks_4 rfl (lv_at hl 1 rfl) ?_
      refine lv_aload_n hx hb dX9_giveDesks_5 rfl (lv_at hl 2 rfl) ?_
      refine va_get (D := D) (ci := 9) (v := .int (S.1 200 2)) (C := RX9) (T := TX9) (N := 19) hx hb hts iX9_giveDesks_9 hown hK hP 0 rfl rfl 12 (by decide) (hts (.fieldLink RX9 104 "FondsRoom" "readerCount" "I") (List.mem_of_getElem? (i := 1) rfl)) (fun _ h9 => h9) rfl dX9_giveDesks_6 ?_
      refine lv_icmp_ge (tgt := 57) hx hb dX9_giveDesks_9 (by decide) (fun c1 => ?_) (fun c1 => ?_)
      · skip
        have hF := (if_pos c1).symm.trans hF
        exact hKK  S _ _ _ hF hT hP hD hS (lv_sub hl [] rfl)
      · skip
        have hF := (if_neg c1).symm.trans hF
        refine lv_aload_n hx hb dX9_giveDesks_12 rfl (lv_at hl 2 rfl) ?_
        refine va_get (D := D) (ci := 9) (v := .ref (x 8)) (C := RX9) (T := TX9) (N := 19) hx hb hts iX9_giveDesks_9 hown hK hP 0 rfl rfl 5 (by decide) (hts (.fieldLink RX9 47 "FondsRoom" "deskLine" "LFondsRoom$Line;") (List.mem_of_getElem? (i := 2) rfl)) (fun _ h9 => h9) rfl dX9_giveDesks_13 ?_
        refine lv_iload_n hx hb dX9_giveDesks_16 rfl (lv_at hl 0 rfl) ?_
        obtain ⟨q2, hq5, hF⟩ := bd1_s hF
        refine gvQ (As := [.int v1]) (rest := []) ⟨hx, hb, hml, hown, hts⟩ (zX3_at_0 l D x cy g L K cf nm hG hL S hT _ v1  q2 hq5) (cwV 1 hts gX9_giveDesks_X3_at rfl rfl rfl (by decide +kernel) ⟨Nat.le_of_ble_eq_true rfl, Nat.le_of_ble_eq_true rfl⟩) hK hP hD hS hA (va_recv hK hP (ci := 3) (q0 := 8) rfl rfl) rfl hl.1 rfl (Nat.le_of_ble_eq_true rfl) dX9_giveDesks_17 ⟨Nat.le_of_ble_eq_true rfl, Nat.le_of_ble_eq_true rfl⟩ (fun a6 u9 H locs hw4 hP hD hS => ?_)
        have hP : va_P D vwCl (ZW x cy g S ++ va_pl L (pf cy K cf nm S)) H := hP
        have hD : va_D _ (ZW x cy g S ++ va_pl L (pf cy K cf nm S)) := hD
        refine lv_tov (v' := va_rf q2) (congrArg va_rf hw4.1) ?_
        refine lq_astore_n (lv' := [(3, va_rf q2), (1, .int v1), (2, .int v2), (0, .ref (x 0))]) hx hb dX9_giveDesks_20 rfl hl (by decide) rfl (fun ls hl => ?_)
        refine lq_aload_n hx hb dX9_giveDesks_21 rfl (lv_at hl 0 rfl) ?_
        rcases eb7 : q2 with _ | b7
        · skip
          subst eb7
          replace hF := oc_n hF
          have hl : lv_has ls 5 [(3, .null), (1, .int v1), (2, .int v2), (0, .ref (x 0))] := hl
          refine W.eq (g2 := F0 m 22 ls [.null]) rfl ?_
          refine lv_ifnonnullN hx hb dX9_giveDesks_22 ?_
          have e2 := Option.some.inj hF
          have hP : va_P D vwCl (ZW x cy g Sf ++ va_pl L (pf cy K cf nm Sf)) H := by rw [← e2]; exact hP
          have hD : va_D (va_A (ZW x cy g S0 ++ va_pl L (pf cy K cf nm S0)) s.heap.size) (ZW x cy g Sf ++ va_pl L (pf cy K cf nm Sf)) := by rw [← e2]; exact hD
          have hT : WT L K Sf.2 := by rw [← e2]; exact hT
          exact W.vret hx hb hr (fun t ht hW => ⟨⟨(), rfl, hT, by rw [ht]; exact hP, va_K.moved hW.alike hK, hD⟩, hS.F ht⟩) hS.2.2 dX9_giveDesks_25
        · skip
          subst eb7
          replace hF := oc_b hF
          have mb7 := hw4.2 b7 rfl
          have hl : lv_has ls 5 [(3, .ref b7), (1, .int v1), (2, .int v2), (0, .ref (x 0))] := hl
          refine W.eq (g2 := F0 m 22 ls [.ref b7]) rfl ?_
          refine lv_ifnonnull (tgt := 26) hx hb dX9_giveDesks_22 (by decide) ?_
          refine lv_aload_n hx hb dX9_giveDesks_26 rfl (lv_at hl 3 rfl) ?_
          refine lv_aload_n hx hb dX9_giveDesks_27 rfl (lv_at hl 0 rfl) ?_
          obtain ⟨q8, hq11, hF⟩ := bd1_s hF
          refine gvQ (As := [.ref b7]) (rest := []) ⟨hx, hb, hml, hown, hts⟩ (zX9_freeDeskFor l D x cy g L K cf nm hG hL S hT _ b7 ⟨mb7.1, mb7.2⟩ q8 hq11) (cwV 1 hts gX9_giveDesks_X9_freeDeskFor rfl rfl rfl (by decide +kernel) ⟨Nat.le_of_ble_eq_true rfl, Nat.le_of_ble_eq_true rfl⟩) hK hP hD hS hA (va_recv hK hP (ci := 9) (q0 := 0) rfl rfl) rfl hl.1 rfl (Nat.le_of_ble_eq_true rfl) dX9_giveDesks_28 ⟨Nat.le_of_ble_eq_true rfl, Nat.le_of_ble_eq_true rfl⟩ (fun a12 u9 H locs hw10 hP hD hS => ?_)
          have hP : va_P D vwCl (ZW x cy g S ++ va_pl L (pf cy K cf nm S)) H := hP
          have hD : va_D _ (ZW x cy g S ++ va_pl L (pf cy K cf nm S)) := hD
          refine lv_tov (v' := va_rf q8) (congrArg va_rf hw10.1) ?_
          refine lq_astore (lv' := [(4, va_rf q8), (3, .ref b7), (1, .int v1), (2, .int v2), (0, .ref (x 0))]) hx hb dX9_giveDesks_31 hl (by decide) rfl (fun ls hl => ?_)
          refine lq_aload hx hb dX9_giveDesks_33 (lv_at hl 0 rfl) ?_
          rcases eb13 : q8 with _ | b13
          · skip
            subst eb13
            replace hF := oc_n hF
            have hl : lv_has ls 5 [(4, .null), (3, .ref b7), (1, .int v1), (2, .int v2), (0, .ref (x 0))] := hl
            refine W.eq (g2 := F0 m 35 ls [.null]) rfl ?_
            refine lv_ifnonnullN hx hb dX9_giveDesks_35 ?_
            refine lv_iinc (v := v1 + 1) (lv' := [(1, .int (v1 + 1)), (4, .null), (3, .ref b7), (2, .int v2), (0, .ref (x 0))]) hx hb dX9_giveDesks_38 hl (k := 2) rfl rfl (by decide) rfl (fun ls hl => ?_)
            refine lv_goto (tgt := 51) hx hb dX9_giveDesks_41 (by decide) ?_
            refine lv_iinc (v := v2 + 1) (lv' := [(2, .int (v2 + 1)), (1, .int (v1 + 1)), (4, .null), (3, .ref b7), (0, .ref (x 0))]) hx hb dX9_giveDesks_51 hl (k := 3) rfl rfl (by decide) rfl (fun ls hl => ?_)
            refine lv_goto (tgt := 4) hx hb dX9_giveDesks_54 (by decide) ?_
            exact ih4 (v1 + 1) (v2 + 1) S _ _ _ hF hT hP hD hS (lv_sub hl [1, 0, 4] rfl)
          · skip
            subst eb13
            replace hF := oc_b hF
            have mb13 := hw10.2 b13 rfl
            have hl : lv_has ls 5 [(4, .ref b13), (3, .ref b7), (1, .int v1), (2, .int v2), (0, .ref (x 0))] := hl
            refine W.eq (g2 := F0 m 35 ls [.ref b13]) rfl ?_
            refine lv_ifnonnull (tgt := 44) hx hb dX9_giveDesks_35 (by decide) ?_
            refine lv_aload_n hx hb dX9_giveDesks_44 rfl (lv_at hl 4 rfl) ?_
            refine lv_aload_n hx hb dX9_giveDesks_45 rfl (lv_at hl 1 rfl) ?_
            refine lv_aload hx hb dX9_giveDesks_46 (lv_at hl 0 rfl) ?_
            obtain ⟨S15, hq17, hF⟩ := bd1_s hF
            refine gvV (As := [.ref b7, .ref b13]) (rest := []) ⟨hx, hb, hml, hown, hts⟩ (zX9_seat l D x cy g L K cf nm hG hL S hT _ b7 b13 ⟨mb7.1, mb7.2⟩ ⟨mb13.1, mb13.2⟩ S15 hq17) (cwV 2 hts gX9_giveDesks_X9_seat rfl rfl rfl (by decide +kernel) ⟨Nat.le_of_ble_eq_true rfl, Nat.le_of_ble_eq_true rfl⟩) hK hP hD hS hA (va_recv hK hP (ci := 9) (q0 := 0) rfl rfl) rfl hl.1 rfl (Nat.le_of_ble_eq_true rfl) dX9_giveDesks_48 ⟨Nat.le_of_ble_eq_true rfl, Nat.le_of_ble_eq_true rfl⟩ (fun u9 H locs hw16 hP hD hS => ?_)
            have hT : WT L K S15.2 := hw16
            have hP : va_P D vwCl (ZW x cy g S15 ++ va_pl L (pf cy K cf nm S15)) H := hP
            have hD : va_D _ (ZW x cy g S15 ++ va_pl L (pf cy K cf nm S15)) := hD
            refine lv_iinc (v := v2 + 1) (lv' := [(2, .int (v2 + 1)), (4, .ref b13), (3, .ref b7), (1, .int v1), (0, .ref (x 0))]) hx hb dX9_giveDesks_51 hl (k := 3) rfl rfl (by decide) rfl (fun ls hl => ?_)
            refine lv_goto (tgt := 4) hx hb dX9_giveDesks_54 (by decide) ?_
            exact ih4 v1 (v2 + 1) S15 _ _ _ hF hT hP hD hS (lv_sub hl [3, 0, 4] rfl)
  have hl := lv_entry ([.ref (x 0)]) (n := 5) (Nat.le_of_ble_eq_true rfl)
  rw [lg_entry_eq]
  generalize (lg_sl ([.ref (x 0)]) ++ List.replicate (5 - (lg_sl ([.ref (x 0)])).length) Slot.unset).toArray = ls at hl ⊢
  have hl : lv_has ls 5 [(0, .ref (x 0))] := hl
  unfold gX9_giveDesks at hF
  refine lv_iconst (v := 0) hx hb dX9_giveDesks_0 (by decide) ?_
  refine lv_istore_n (lv' := [(1, .int 0), (0, .ref (x 0))]) hx hb dX9_giveDesks_1 rfl hl (by decide) rfl (fun ls hl => ?_)
  refine lv_iconst (v := 0) hx hb dX9_giveDesks_2 (by decide) ?_
  refine lv_istore_n (lv' := [(2, .int 0), (1, .int 0), (0, .ref (x 0))]) hx hb dX9_giveDesks_3 rfl hl (by decide) rfl (fun ls hl => ?_)
  refine key4 _ ?_ 1000 0 0 S0 _ _ _ hF hT hP hD hS (lv_sub hl [1, 0, 2] rfl)
  intro S19 H locs ls hF hT hP hD hS hl
  have e2 := Option.some.inj hF
  have hP : va_P D vwCl (ZW x cy g Sf ++ va_pl L (pf cy K cf nm Sf)) H := by rw [← e2]; exact hP
  have hD : va_D (va_A (ZW x cy g S0 ++ va_pl L (pf cy K cf nm S0)) s.heap.size) (ZW x cy g Sf ++ va_pl L (pf cy K cf nm Sf)) := by rw [← e2]; exact hD
  have hT : WT L K Sf.2 := by rw [← e2]; exact hT
  exact W.vret hx hb hr (fun t ht hW => ⟨⟨(), rfl, hT, by rw [ht]; exact hP, va_K.moved hW.alike hK, hD⟩, hS.F ht⟩) hS.2.2 dX9_giveDesks_57

theorem iX9_firstLeftBox_0 : ∀ w ∈ wsX00, w ∈ wsX9_firstLeftBox := fun _ h => List.mem_cons_of_mem _ (List.mem_append_right _ h)
theorem iX9_firstLeftBox_9 : ∀ w ∈ wsX90, w ∈ wsX9_firstLeftBox := fun _ h => List.mem_cons_of_mem _ (List.mem_append_left _ (List.mem_append_right _ h))
set_option maxHeartbeats 8000000 in
set_option maxRecDepth 100000 in
theorem zX9_firstLeftBox (l : Launch) (D : va_G) (x : Nat → Nat) (cy : Nat → ClassId) (g : Nat → Nat → Option Nat) (L : List Nat) (K : Nat → Nat) (cf : Nat → Nat → Nat) (nm : Nat → Int32) (hG : GO L K g) (hL : PL L K cf) (S : CS) (hT : WT L K S.2) (sz : Nat)   (rv : Option Nat) (hF : gX9_firstLeftBox g cf nm S  = some rv) : Met l yX9_firstLeftBox wsX9_firstLeftBox ({ frames := 0, cells := 0, slots := 0, locals := 0 }) (PW D (TYS cy) (ZW x cy g S ++ va_pl L (pf cy K cf nm S)) sz [.ref (x 0)]) (va_Qq (fun (res : Option Nat) (u : Unit) => res = rv ∧ rok L K 0 rv) (BU D (TYS cy) (ZW x cy g S ++ va_pl L (pf cy K cf nm S)) (fun _ => ZW x cy g S ++ va_pl L (pf cy K cf nm S)) sz) (va_A (ZW x cy g S ++ va_pl L (pf cy K cf nm S)) sz)) 0 0 (va_A (ZW x cy g S ++ va_pl L (pf cy K cf nm S)) sz) := by
  refine Met.ofW (cc := cX9_firstLeftBox) (maxL := 2) (ret := (some (.object "FondsRoom$Box"))) (by decide) rfl ?_
  intro p e s m args below meth c s₁ B hml hv
  obtain ⟨rfl, hsz, hP, hK, hD0⟩ := hv
  have hx := B.exec
  have hb := B.bytes
  have hr := B.returns
  have hts := atoms_spec (ws := wsX9_firstLeftBox) B.pre
  have hown : s.vm.findClass RX9 = some m.cls := findClass_of_methodNamed B.named
  have hlocks := B.notSynchronized
  subst hsz
  have hD := hD0.self (sz := s.heap.size)
  have hA : ∀ q9 : Nat, s.heap.size ≤ q9 → va_A (ZW x cy g S ++ va_pl L (pf cy K cf nm S)) s.heap.size q9 := fun q9 h => Or.inr h
  have hS : va_S (va_A (ZW x cy g S ++ va_pl L (pf cy K cf nm S)) s.heap.size) s.heap s.heap [] := va_S.rf
  have key2 : ∀ (KK : Option (Option Nat)), (∀  (H : Heap) (locs : List Loc) (ls : Array Slot), KK  = some rv → va_P D vwCl (ZW x cy g S ++ va_pl L (pf cy K cf nm S)) H → va_D (va_A (ZW x cy g S ++ va_pl L (pf cy K cf nm S)) s.heap.size) (ZW x cy g S ++ va_pl L (pf cy K cf nm S)) → va_S (va_A (ZW x cy g S ++ va_pl L (pf cy K cf nm S)) s.heap.size) s.heap H locs → lv_has ls 2 [] → W p l e (headSpec wsX9_firstLeftBox ({ frames := 0, cells := 0, slots := 0, locals := 0 })).room s m #[.ref (x 0)] below meth c H locs 0 0 (MQ below (va_Qq (fun (res : Option Nat) (u : Unit) => res = rv ∧ rok L K 0 rv) (BU D (TYS cy) (ZW x cy g S ++ va_pl L (pf cy K cf nm S)) (fun _ => ZW x cy g S ++ va_pl L (pf cy K cf nm S)) s.heap.size) (va_A (ZW x cy g S ++ va_pl L (pf cy K cf nm S)) s.heap.size)) #[.ref (x 0)] s 0 0 (va_A (ZW x cy g S ++ va_pl L (pf cy K cf nm S)) s.heap.size)) (F0 m 36 ls [])) → ∀ (fu : Nat) (v1 : Int32) (H : Heap) (locs : List Loc) (ls : Array Slot), gX9_firstLeftBox_2 S g cf nm KK fu v1 = some rv → va_P D vwCl (ZW x cy g S ++ va_pl L (pf cy K cf nm S)) H → va_D (va_A (ZW x cy g S ++ va_pl L (pf cy K cf nm S)) s.heap.size) (ZW x cy g S ++ va_pl L (pf cy K cf nm S)) → va_S (va_A (ZW x cy g S ++ va_pl L (pf cy K cf nm S)) s.heap.size) s.heap H locs → lv_has ls 2 [(1, .int v1), (0, .ref (x 0))] → W p l e (headSpec wsX9_firstLeftBox ({ frames := 0, cells := 0, slots := 0, locals := 0 })).room s m #[.ref (x 0)] below meth c H locs 0 0 (MQ below (va_Qq (fun (res : Option Nat) (u : Unit) => res = rv ∧ rok L K 0 rv) (BU D (TYS cy) (ZW x cy g S ++ va_pl L (pf cy K cf nm S)) (fun _ => ZW x cy g S ++ va_pl L (pf cy K cf nm S)) s.heap.size) (va_A (ZW x cy g S ++ va_pl L (pf cy K cf nm S)) s.heap.size)) #[.ref (x 0)] s 0 0 (va_A (ZW x cy g S ++ va_pl L (pf cy K cf nm S)) s.heap.size)) (F0 m 2 ls []) := by
    intro KK hKK fu
    induction fu with
    | zero =>
      intro v1 H locs ls hF
      exact absurd (show (none : Option (Option Nat)) = some rv from hF) (by simp)
    | succ fu2 ih2 =>
      intro v1 H locs ls hF hP hD hS hl
      rw [gX9_firstLeftBox_2] at hF
      refine lv_iload_n hx hb dX9_firstLeftBox_2 rfl (lv_at hl 0 rfl) ?_
      refine lv_aload_n hx hb dX9_firstLeftBox_3 rfl (lv_at hl 1 rfl) ?_
      refine va_get (D := D) (ci := 9) (v := .int (S.1 200 1)) (C := RX9) (T := TX9) (N := 19) hx hb hts iX9_firstLeftBox_9 hown hK hP 0 rfl rfl 11 (by decide) (hts (.fieldLink RX9 88 "FondsRoom" "boxCount" "I") (List.mem_of_getElem? (i := 1) rfl)) (fun _ h9 => h9) rfl dX9_firstLeftBox_4 ?_
      refine lv_icmp_ge (tgt := 36) hx hb dX9_firstLeftBox_7 (by decide) (fun c1 => ?_) (fun c1 => ?_)
      · skip
        have hF := (if_pos c1).symm.trans hF
        exact hKK   _ _ _ hF hP hD hS (lv_sub hl [] rfl)
      · skip
        have hF := (if_neg c1).symm.trans hF
        refine lv_aload_n hx hb dX9_firstLeftBox_10 rfl (lv_at hl 1 rfl) ?_
        refine va_get (D := D) (ci := 9) (v := .ref (x 2)) (C := RX9) (T := TX9) (N := 19) hx hb hts iX9_firstLeftBox_9 hown hK hP 0 rfl rfl 1 (by decide) (hts (.fieldLink RX9 20 "FondsRoom" "boxes" "[LFondsRoom$Box;") (List.mem_of_getElem? (i := 2) rfl)) (fun _ h9 => h9) rfl dX9_firstLeftBox_11 ?_
        refine lv_iload_n hx hb dX9_firstLeftBox_14 rfl (lv_at hl 0 rfl) ?_
        obtain ⟨hi2, b3, eb3, hF⟩ := ga_s hF
        refine va_aldq hx hb hK hP 2 3 rfl rfl hi2 dX9_firstLeftBox_15 ?_
        refine lv_tov (v' := .ref b3) (by rw [eb3]; rfl) ?_
        have mb3 := GO_1 hG hi2 eb3
        refine pg_get (D := D) (ci := 0) (v := .int (S.1 3 b3)) (C := RX0) (T := TX0) (N := 6) hx hb hts iX9_firstLeftBox_0 hown hK hP mb3.1 (pf_0 mb3.2) rfl 3 (by decide) (hts (.fieldLink RX9 233 "FondsRoom$Box" "place" "I") (List.mem_of_getElem? (i := 3) rfl)) (fun _ h9 => h9) rfl dX9_firstLeftBox_16 ?_
        refine lv_iconst (v := 2) hx hb dX9_firstLeftBox_19 (by decide) ?_
        refine lv_icmp_ne (tgt := 30) hx hb dX9_firstLeftBox_20 (by decide) (fun c4 => ?_) (fun c4 => ?_)
        · skip
          have hF := (if_neg c4).symm.trans hF
          refine lv_iinc (v := v1 + 1) (lv' := [(1, .int (v1 + 1)), (0, .ref (x 0))]) hx hb dX9_firstLeftBox_30 hl (k := 0) rfl rfl (by decide) rfl (fun ls hl => ?_)
          refine lv_goto (tgt := 2) hx hb dX9_firstLeftBox_33 (by decide) ?_
          exact ih2 (v1 + 1)  _ _ _ hF hP hD hS (lv_sub hl [0, 1] rfl)
        · skip
          have hF := (if_pos c4).symm.trans hF
          refine lv_aload_n hx hb dX9_firstLeftBox_23 rfl (lv_at hl 1 rfl) ?_
          refine va_get (D := D) (ci := 9) (v := .ref (x 2)) (C := RX9) (T := TX9) (N := 19) hx hb hts iX9_firstLeftBox_9 hown hK hP 0 rfl rfl 1 (by decide) (hts (.fieldLink RX9 20 "FondsRoom" "boxes" "[LFondsRoom$Box;") (List.mem_of_getElem? (i := 2) rfl)) (fun _ h9 => h9) rfl dX9_firstLeftBox_24 ?_
          refine lv_iload_n hx hb dX9_firstLeftBox_27 rfl (lv_at hl 0 rfl) ?_
          obtain ⟨hi5, b6, eb6, hF⟩ := ga_s hF
          refine va_aldq hx hb hK hP 2 3 rfl rfl hi5 dX9_firstLeftBox_28 ?_
          refine lv_tov (v' := .ref b6) (by rw [eb6]; rfl) ?_
          have mb6 := GO_1 hG hi5 eb6
          have e1 := Option.some.inj hF
          exact W.aret (v := .ref b6) hx hb hr (Or.inl ⟨_, rfl⟩) (Or.inr ⟨_, rfl⟩) (fun t ht hW => ⟨⟨(some (b6)), (), rfl, ⟨e1, by rw [← e1]; exact (rok_some mb6.1 mb6.2)⟩, by rw [ht]; exact hP, va_K.moved hW.alike hK, hD⟩, hS.F ht⟩) hS.2.2 dX9_firstLeftBox_29
  have hl := lv_entry ([.ref (x 0)]) (n := 2) (Nat.le_of_ble_eq_true rfl)
  rw [lg_entry_eq]
  generalize (lg_sl ([.ref (x 0)]) ++ List.replicate (2 - (lg_sl ([.ref (x 0)])).length) Slot.unset).toArray = ls at hl ⊢
  have hl : lv_has ls 2 [(0, .ref (x 0))] := hl
  unfold gX9_firstLeftBox at hF
  refine lv_iconst (v := 0) hx hb dX9_firstLeftBox_0 (by decide) ?_
  refine lv_istore_n (lv' := [(1, .int 0), (0, .ref (x 0))]) hx hb dX9_firstLeftBox_1 rfl hl (by decide) rfl (fun ls hl => ?_)
  refine key2 _ ?_ 1000 0  _ _ _ hF hP hD hS (lv_sub hl [0, 1] rfl)
  intro  H locs ls hF hP hD hS hl
  refine lv_null hx hb dX9_firstLeftBox_36 ?_
  have e1 := Option.some.inj hF
  exact W.aret (v := .null) hx hb hr (Or.inl ⟨_, rfl⟩) (Or.inl rfl) (fun t ht hW => ⟨⟨none, (), rfl, ⟨e1, by rw [← e1]; exact rok_none⟩, by rw [ht]; exact hP, va_K.moved hW.alike hK, hD⟩, hS.F ht⟩) hS.2.2 dX9_firstLeftBox_37

theorem iX9_firstAskerOfHomeBox_3 : ∀ w ∈ wsX30, w ∈ wsX9_firstAskerOfHomeBox := fun _ h => List.mem_cons_of_mem _ (List.mem_append_left _ (List.mem_append_left _ (List.mem_append_right _ h)))
theorem iX9_firstAskerOfHomeBox_9 : ∀ w ∈ wsX90, w ∈ wsX9_firstAskerOfHomeBox := fun _ h => List.mem_cons_of_mem _ (List.mem_append_left _ (List.mem_append_left _ (List.mem_append_left _ (List.mem_append_right _ h))))
set_option maxHeartbeats 8000000 in
set_option maxRecDepth 100000 in
theorem zX9_firstAskerOfHomeBox (l : Launch) (D : va_G) (x : Nat → Nat) (cy : Nat → ClassId) (g : Nat → Nat → Option Nat) (L : List Nat) (K : Nat → Nat) (cf : Nat → Nat → Nat) (nm : Nat → Int32) (hG : GO L K g) (hL : PL L K cf) (S : CS) (hT : WT L K S.2) (sz : Nat)   (rv : Option Nat) (hF : gX9_firstAskerOfHomeBox g cf nm S  = some rv) : Met l yX9_firstAskerOfHomeBox wsX9_firstAskerOfHomeBox ({ frames := 1, cells := 0, slots := 0, locals := 21 }) (PW D (TYS cy) (ZW x cy g S ++ va_pl L (pf cy K cf nm S)) sz [.ref (x 0)]) (va_Qq (fun (res : Option Nat) (u : Unit) => res = rv ∧ rok L K 6 rv) (BU D (TYS cy) (ZW x cy g S ++ va_pl L (pf cy K cf nm S)) (fun _ => ZW x cy g S ++ va_pl L (pf cy K cf nm S)) sz) (va_A (ZW x cy g S ++ va_pl L (pf cy K cf nm S)) sz)) 0 0 (va_A (ZW x cy g S ++ va_pl L (pf cy K cf nm S)) sz) := by
  refine Met.ofW (cc := cX9_firstAskerOfHomeBox) (maxL := 3) (ret := (some (.object "FondsRoom$Reader"))) (by decide) rfl ?_
  intro p e s m args below meth c s₁ B hml hv
  obtain ⟨rfl, hsz, hP, hK, hD0⟩ := hv
  have hx := B.exec
  have hb := B.bytes
  have hr := B.returns
  have hts := atoms_spec (ws := wsX9_firstAskerOfHomeBox) B.pre
  have hown : s.vm.findClass RX9 = some m.cls := findClass_of_methodNamed B.named
  have hlocks := B.notSynchronized
  subst hsz
  have hD := hD0.self (sz := s.heap.size)
  have hA : ∀ q9 : Nat, s.heap.size ≤ q9 → va_A (ZW x cy g S ++ va_pl L (pf cy K cf nm S)) s.heap.size q9 := fun q9 h => Or.inr h
  have hS : va_S (va_A (ZW x cy g S ++ va_pl L (pf cy K cf nm S)) s.heap.size) s.heap s.heap [] := va_S.rf
  have key2 : ∀ (KK : Option (Option Nat)), (∀  (H : Heap) (locs : List Loc) (ls : Array Slot), KK  = some rv → va_P D vwCl (ZW x cy g S ++ va_pl L (pf cy K cf nm S)) H → va_D (va_A (ZW x cy g S ++ va_pl L (pf cy K cf nm S)) s.heap.size) (ZW x cy g S ++ va_pl L (pf cy K cf nm S)) → va_S (va_A (ZW x cy g S ++ va_pl L (pf cy K cf nm S)) s.heap.size) s.heap H locs → lv_has ls 3 [] → W p l e (headSpec wsX9_firstAskerOfHomeBox ({ frames := 1, cells := 0, slots := 0, locals := 21 })).room s m #[.ref (x 0)] below meth c H locs 0 0 (MQ below (va_Qq (fun (res : Option Nat) (u : Unit) => res = rv ∧ rok L K 6 rv) (BU D (TYS cy) (ZW x cy g S ++ va_pl L (pf cy K cf nm S)) (fun _ => ZW x cy g S ++ va_pl L (pf cy K cf nm S)) s.heap.size) (va_A (ZW x cy g S ++ va_pl L (pf cy K cf nm S)) s.heap.size)) #[.ref (x 0)] s 0 0 (va_A (ZW x cy g S ++ va_pl L (pf cy K cf nm S)) s.heap.size)) (F0 m 42 ls [])) → ∀ (fu : Nat) (v1 : Int32) (H : Heap) (locs : List Loc) (ls : Array Slot), gX9_firstAskerOfHomeBox_2 S g cf nm KK fu v1 = some rv → va_P D vwCl (ZW x cy g S ++ va_pl L (pf cy K cf nm S)) H → va_D (va_A (ZW x cy g S ++ va_pl L (pf cy K cf nm S)) s.heap.size) (ZW x cy g S ++ va_pl L (pf cy K cf nm S)) → va_S (va_A (ZW x cy g S ++ va_pl L (pf cy K cf nm S)) s.heap.size) s.heap H locs → lv_has ls 3 [(1, .int v1), (0, .ref (x 0))] → W p l e (headSpec wsX9_firstAskerOfHomeBox ({ frames := 1, cells := 0, slots := 0, locals := 21 })).room s m #[.ref (x 0)] below meth c H locs 0 0 (MQ below (va_Qq (fun (res : Option Nat) (u : Unit) => res = rv ∧ rok L K 6 rv) (BU D (TYS cy) (ZW x cy g S ++ va_pl L (pf cy K cf nm S)) (fun _ => ZW x cy g S ++ va_pl L (pf cy K cf nm S)) s.heap.size) (va_A (ZW x cy g S ++ va_pl L (pf cy K cf nm S)) s.heap.size)) #[.ref (x 0)] s 0 0 (va_A (ZW x cy g S ++ va_pl L (pf cy K cf nm S)) s.heap.size)) (F0 m 2 ls []) := by
    intro KK hKK fu
    induction fu with
    | zero =>
      intro v1 H locs ls hF
      exact absurd (show (none : Option (Option Nat)) = some rv from hF) (by simp)
    | succ fu2 ih2 =>
      intro v1 H locs ls hF hP hD hS hl
      rw [gX9_firstAskerOfHomeBox_2] at hF
      refine lv_iload_n hx hb dX9_firstAskerOfHomeBox_2 rfl (lv_at hl 0 rfl) ?_
      refine lv_aload_n hx hb dX9_firstAskerOfHomeBox_3 rfl (lv_at hl 1 rfl) ?_
      refine va_get (D := D) (ci := 9) (v := .ref (x 10)) (C := RX9) (T := TX9) (N := 19) hx hb hts iX9_firstAskerOfHomeBox_9 hown hK hP 0 rfl rfl 6 (by decide) (hts (.fieldLink RX9 51 "FondsRoom" "boxTickets" "LFondsRoom$Line;") (List.mem_of_getElem? (i := 1) rfl)) (fun _ h9 => h9) rfl dX9_firstAskerOfHomeBox_4 ?_
      refine va_get (D := D) (ci := 3) (v := .int (S.1 200 12)) (C := RX3) (T := TX3) (N := 2) hx hb hts iX9_firstAskerOfHomeBox_3 hown hK hP 10 rfl rfl 1 (by decide) (hts (.fieldLink RX9 373 "FondsRoom$Line" "size" "I") (List.mem_of_getElem? (i := 2) rfl)) (fun _ h9 => h9) rfl dX9_firstAskerOfHomeBox_7 ?_
      refine lv_icmp_ge (tgt := 42) hx hb dX9_firstAskerOfHomeBox_10 (by decide) (fun c1 => ?_) (fun c1 => ?_)
      · skip
        have hF := (if_pos c1).symm.trans hF
        exact hKK   _ _ _ hF hP hD hS (lv_sub hl [] rfl)
      · skip
        have hF := (if_neg c1).symm.trans hF
        refine lv_aload_n hx hb dX9_firstAskerOfHomeBox_13 rfl (lv_at hl 1 rfl) ?_
        refine va_get (D := D) (ci := 9) (v := .ref (x 10)) (C := RX9) (T := TX9) (N := 19) hx hb hts iX9_firstAskerOfHomeBox_9 hown hK hP 0 rfl rfl 6 (by decide) (hts (.fieldLink RX9 51 "FondsRoom" "boxTickets" "LFondsRoom$Line;") (List.mem_of_getElem? (i := 1) rfl)) (fun _ h9 => h9) rfl dX9_firstAskerOfHomeBox_14 ?_
        refine lv_iload_n hx hb dX9_firstAskerOfHomeBox_17 rfl (lv_at hl 0 rfl) ?_
        obtain ⟨q2, hq5, hF⟩ := bd1_s hF
        refine gvQ (As := [.int v1]) (rest := []) ⟨hx, hb, hml, hown, hts⟩ (zX3_at_1 l D x cy g L K cf nm hG hL S hT _ v1  q2 hq5) (cwV 1 hts gX9_firstAskerOfHomeBox_X3_at rfl rfl rfl (by decide +kernel) ⟨Nat.le_of_ble_eq_true rfl, Nat.le_of_ble_eq_true rfl⟩) hK hP hD hS hA (va_recv hK hP (ci := 3) (q0 := 10) rfl rfl) rfl hl.1 rfl (Nat.le_of_ble_eq_true rfl) dX9_firstAskerOfHomeBox_18 ⟨Nat.le_of_ble_eq_true rfl, Nat.le_of_ble_eq_true rfl⟩ (fun a6 u9 H locs hw4 hP hD hS => ?_)
        have hP : va_P D vwCl (ZW x cy g S ++ va_pl L (pf cy K cf nm S)) H := hP
        have hD : va_D _ (ZW x cy g S ++ va_pl L (pf cy K cf nm S)) := hD
        refine lv_tov (v' := va_rf q2) (congrArg va_rf hw4.1) ?_
        refine lq_astore_n (lv' := [(2, va_rf q2), (1, .int v1), (0, .ref (x 0))]) hx hb dX9_firstAskerOfHomeBox_21 rfl hl (by decide) rfl (fun ls hl => ?_)
        refine lq_aload_n hx hb dX9_firstAskerOfHomeBox_22 rfl (lv_at hl 0 rfl) ?_
        rcases eb7 : q2 with _ | b7
        · skip
          subst eb7
          replace hF := oc_n hF
          have hl : lv_has ls 3 [(2, .null), (1, .int v1), (0, .ref (x 0))] := hl
          refine W.eq (g2 := F0 m 23 ls [.null]) rfl ?_
          refine lv_ifnullN (tgt := 36) hx hb dX9_firstAskerOfHomeBox_23 (by decide) ?_
          refine lv_iinc (v := v1 + 1) (lv' := [(1, .int (v1 + 1)), (2, .null), (0, .ref (x 0))]) hx hb dX9_firstAskerOfHomeBox_36 hl (k := 1) rfl rfl (by decide) rfl (fun ls hl => ?_)
          refine lv_goto (tgt := 2) hx hb dX9_firstAskerOfHomeBox_39 (by decide) ?_
          exact ih2 (v1 + 1)  _ _ _ hF hP hD hS (lv_sub hl [0, 2] rfl)
        · skip
          subst eb7
          replace hF := oc_b hF
          have mb7 := hw4.2 b7 rfl
          have hl : lv_has ls 3 [(2, .ref b7), (1, .int v1), (0, .ref (x 0))] := hl
          refine W.eq (g2 := F0 m 23 ls [.ref b7]) rfl ?_
          refine lv_ifnull hx hb dX9_firstAskerOfHomeBox_23 ?_
          refine lv_aload_n hx hb dX9_firstAskerOfHomeBox_26 rfl (lv_at hl 0 rfl) ?_
          refine lv_iconst (v := 0) hx hb dX9_firstAskerOfHomeBox_27 (by decide) ?_
          obtain ⟨r8, hq11, hF⟩ := bd1_s hF
          refine gvI (As := [.int 0]) (rest := []) ⟨hx, hb, hml, hown, hts⟩ (zX6_awaitsAt l D x cy g L K cf nm hG hL S hT _ b7 0 ⟨mb7.1, mb7.2⟩ r8 hq11) (cwV 1 hts gX9_firstAskerOfHomeBox_X6_awaitsAt rfl rfl rfl (by decide +kernel) ⟨Nat.le_of_ble_eq_true rfl, Nat.le_of_ble_eq_true rfl⟩) hK hP hD hS hA (pl_recv hK hP (ci := 6) rfl mb7.1 (pf_6 mb7.2)) rfl hl.1 rfl (Nat.le_of_ble_eq_true rfl) dX9_firstAskerOfHomeBox_28 ⟨Nat.le_of_ble_eq_true rfl, Nat.le_of_ble_eq_true rfl⟩ (fun a12 u9 H locs hw10 hP hD hS => ?_)
          have hP : va_P D vwCl (ZW x cy g S ++ va_pl L (pf cy K cf nm S)) H := hP
          have hD : va_D _ (ZW x cy g S ++ va_pl L (pf cy K cf nm S)) := hD
          refine lv_tov (v' := .int r8) (congrArg Value.int hw10.1) ?_
          refine lv_if_eq (tgt := 36) hx hb dX9_firstAskerOfHomeBox_31 (by decide) (fun c13 => ?_) (fun c13 => ?_)
          · skip
            have hF := (if_pos c13).symm.trans hF
            refine lv_iinc (v := v1 + 1) (lv' := [(1, .int (v1 + 1)), (2, .ref b7), (0, .ref (x 0))]) hx hb dX9_firstAskerOfHomeBox_36 hl (k := 1) rfl rfl (by decide) rfl (fun ls hl => ?_)
            refine lv_goto (tgt := 2) hx hb dX9_firstAskerOfHomeBox_39 (by decide) ?_
            exact ih2 (v1 + 1)  _ _ _ hF hP hD hS (lv_sub hl [0, 2] rfl)
          · skip
            have hF := (if_neg c13).symm.trans hF
            refine lv_aload_n hx hb dX9_firstAskerOfHomeBox_34 rfl (lv_at hl 0 rfl) ?_
            have e1 := Option.some.inj hF
            exact W.aret (v := .ref b7) hx hb hr (Or.inl ⟨_, rfl⟩) (Or.inr ⟨_, rfl⟩) (fun t ht hW => ⟨⟨(some (b7)), (), rfl, ⟨e1, by rw [← e1]; exact (rok_some mb7.1 mb7.2)⟩, by rw [ht]; exact hP, va_K.moved hW.alike hK, hD⟩, hS.F ht⟩) hS.2.2 dX9_firstAskerOfHomeBox_35
  have hl := lv_entry ([.ref (x 0)]) (n := 3) (Nat.le_of_ble_eq_true rfl)
  rw [lg_entry_eq]
  generalize (lg_sl ([.ref (x 0)]) ++ List.replicate (3 - (lg_sl ([.ref (x 0)])).length) Slot.unset).toArray = ls at hl ⊢
  have hl : lv_has ls 3 [(0, .ref (x 0))] := hl
  unfold gX9_firstAskerOfHomeBox at hF
  refine lv_iconst (v := 0) hx hb dX9_firstAskerOfHomeBox_0 (by decide) ?_
  refine lv_istore_n (lv' := [(1, .int 0), (0, .ref (x 0))]) hx hb dX9_firstAskerOfHomeBox_1 rfl hl (by decide) rfl (fun ls hl => ?_)
  refine key2 _ ?_ 1000 0  _ _ _ hF hP hD hS (lv_sub hl [0, 1] rfl)
  intro  H locs ls hF hP hD hS hl
  refine lv_null hx hb dX9_firstAskerOfHomeBox_42 ?_
  have e1 := Option.some.inj hF
  exact W.aret (v := .null) hx hb hr (Or.inl ⟨_, rfl⟩) (Or.inl rfl) (fun t ht hW => ⟨⟨none, (), rfl, ⟨e1, by rw [← e1]; exact rok_none⟩, by rw [ht]; exact hP, va_K.moved hW.alike hK, hD⟩, hS.F ht⟩) hS.2.2 dX9_firstAskerOfHomeBox_43

theorem iX9_sendFetcher_0 : ∀ w ∈ wsX00, w ∈ wsX9_sendFetcher := fun _ h => List.mem_cons_of_mem _ (List.mem_append_left _ (List.mem_append_left _ (List.mem_append_left _ (List.mem_append_left _ (List.mem_append_right _ h)))))
theorem iX9_sendFetcher_6 : ∀ w ∈ wsX60, w ∈ wsX9_sendFetcher := fun _ h => List.mem_cons_of_mem _ (List.mem_append_left _ (List.mem_append_left _ (List.mem_append_right _ h)))
theorem iX9_sendFetcher_9 : ∀ w ∈ wsX90, w ∈ wsX9_sendFetcher := fun _ h => List.mem_cons_of_mem _ (List.mem_append_left _ (List.mem_append_left _ (List.mem_append_left _ (List.mem_append_right _ h))))
set_option maxHeartbeats 8000000 in
set_option maxRecDepth 100000 in
theorem zX9_sendFetcher (l : Launch) (D : va_G) (x : Nat → Nat) (cy : Nat → ClassId) (g : Nat → Nat → Option Nat) (L : List Nat) (K : Nat → Nat) (cf : Nat → Nat → Nat) (nm : Nat → Int32) (hG : GO L K g) (hL : PL L K cf) (S0 : CS) (hT : WT L K S0.2) (sz : Nat) (ar1 : Nat) (mar1 : ar1 ∈ L ∧ K ar1 = 8) (Sf : CS) (hF : gX9_sendFetcher g cf nm S0 ar1 = some Sf) : Met l yX9_sendFetcher wsX9_sendFetcher ({ frames := 2, cells := 0, slots := 0, locals := 43 }) (PW D (TYS cy) (ZW x cy g S0 ++ va_pl L (pf cy K cf nm S0)) sz [.ref (x 0), .ref ar1]) (va_Qv (fun (u : Unit) => WT L K Sf.2) (BU D (TYS cy) (ZW x cy g S0 ++ va_pl L (pf cy K cf nm S0)) (fun _ => ZW x cy g Sf ++ va_pl L (pf cy K cf nm Sf)) sz) (va_A (ZW x cy g S0 ++ va_pl L (pf cy K cf nm S0)) sz)) 0 0 (va_A (ZW x cy g S0 ++ va_pl L (pf cy K cf nm S0)) sz) := by
  refine Met.ofW (cc := cX9_sendFetcher) (maxL := 4) (ret := none) (by decide) rfl ?_
  intro p e s m args below meth c s₁ B hml hv
  obtain ⟨rfl, hsz, hP, hK, hD0⟩ := hv
  have hx := B.exec
  have hb := B.bytes
  have hr := B.returns
  have hts := atoms_spec (ws := wsX9_sendFetcher) B.pre
  have hown : s.vm.findClass RX9 = some m.cls := findClass_of_methodNamed B.named
  have hlocks := B.notSynchronized
  subst hsz
  have hD := hD0.self (sz := s.heap.size)
  have hA : ∀ q9 : Nat, s.heap.size ≤ q9 → va_A (ZW x cy g S0 ++ va_pl L (pf cy K cf nm S0)) s.heap.size q9 := fun q9 h => Or.inr h
  have hS : va_S (va_A (ZW x cy g S0 ++ va_pl L (pf cy K cf nm S0)) s.heap.size) s.heap s.heap [] := va_S.rf
  have hl := lv_entry ([.ref (x 0), .ref ar1]) (n := 4) (Nat.le_of_ble_eq_true rfl)
  rw [lg_entry_eq]
  generalize (lg_sl ([.ref (x 0), .ref ar1]) ++ List.replicate (4 - (lg_sl ([.ref (x 0), .ref ar1])).length) Slot.unset).toArray = ls at hl ⊢
  have hl : lv_has ls 4 [(0, .ref (x 0)), (1, .ref ar1)] := hl
  unfold gX9_sendFetcher at hF
  refine lv_aload_n hx hb dX9_sendFetcher_0 rfl (lv_at hl 0 rfl) ?_
  obtain ⟨q1, hq4, hF⟩ := bd1_s hF
  refine gvQ (As := []) (rest := []) ⟨hx, hb, hml, hown, hts⟩ (zX9_firstLeftBox l D x cy g L K cf nm hG hL S0 hT _   q1 hq4) (cwV 0 hts gX9_sendFetcher_X9_firstLeftBox rfl rfl rfl (by decide +kernel) ⟨Nat.le_of_ble_eq_true rfl, Nat.le_of_ble_eq_true rfl⟩) hK hP hD hS hA (va_recv hK hP (ci := 9) (q0 := 0) rfl rfl) rfl hl.1 rfl (Nat.le_of_ble_eq_true rfl) dX9_sendFetcher_1 ⟨Nat.le_of_ble_eq_true rfl, Nat.le_of_ble_eq_true rfl⟩ (fun a5 u9 H locs hw3 hP hD hS => ?_)
  have hP : va_P D vwCl (ZW x cy g S0 ++ va_pl L (pf cy K cf nm S0)) H := hP
  have hD : va_D _ (ZW x cy g S0 ++ va_pl L (pf cy K cf nm S0)) := hD
  refine lv_tov (v' := va_rf q1) (congrArg va_rf hw3.1) ?_
  refine lq_astore_n (lv' := [(2, va_rf q1), (0, .ref (x 0)), (1, .ref ar1)]) hx hb dX9_sendFetcher_4 rfl hl (by decide) rfl (fun ls hl => ?_)
  refine lq_aload_n hx hb dX9_sendFetcher_5 rfl (lv_at hl 0 rfl) ?_
  rcases eb6 : q1 with _ | b6
  · skip
    subst eb6
    replace hF := oc_n hF
    have hl : lv_has ls 4 [(2, .null), (0, .ref (x 0)), (1, .ref ar1)] := hl
    refine W.eq (g2 := F0 m 6 ls [.null]) rfl ?_
    refine lv_ifnullN (tgt := 35) hx hb dX9_sendFetcher_6 (by decide) ?_
    refine lv_aload_n hx hb dX9_sendFetcher_35 rfl (lv_at hl 1 rfl) ?_
    obtain ⟨q7, hq10, hF⟩ := bd1_s hF
    refine gvQ (As := []) (rest := []) ⟨hx, hb, hml, hown, hts⟩ (zX9_firstAskerOfHomeBox l D x cy g L K cf nm hG hL S0 hT _   q7 hq10) (cwV 0 hts gX9_sendFetcher_X9_firstAskerOfHomeBox rfl rfl rfl (by decide +kernel) ⟨Nat.le_of_ble_eq_true rfl, Nat.le_of_ble_eq_true rfl⟩) hK hP hD hS hA (va_recv hK hP (ci := 9) (q0 := 0) rfl rfl) rfl hl.1 rfl (Nat.le_of_ble_eq_true rfl) dX9_sendFetcher_36 ⟨Nat.le_of_ble_eq_true rfl, Nat.le_of_ble_eq_true rfl⟩ (fun a11 u9 H locs hw9 hP hD hS => ?_)
    have hP : va_P D vwCl (ZW x cy g S0 ++ va_pl L (pf cy K cf nm S0)) H := hP
    have hD : va_D _ (ZW x cy g S0 ++ va_pl L (pf cy K cf nm S0)) := hD
    refine lv_tov (v' := va_rf q7) (congrArg va_rf hw9.1) ?_
    refine lq_astore_n (lv' := [(3, va_rf q7), (2, .null), (0, .ref (x 0)), (1, .ref ar1)]) hx hb dX9_sendFetcher_39 rfl hl (by decide) rfl (fun ls hl => ?_)
    refine lq_aload_n hx hb dX9_sendFetcher_40 rfl (lv_at hl 0 rfl) ?_
    rcases eb12 : q7 with _ | b12
    · skip
      subst eb12
      replace hF := oc_n hF
      have hl : lv_has ls 4 [(3, .null), (2, .null), (0, .ref (x 0)), (1, .ref ar1)] := hl
      refine W.eq (g2 := F0 m 41 ls [.null]) rfl ?_
      refine lv_ifnullN (tgt := 82) hx hb dX9_sendFetcher_41 (by decide) ?_
      have e2 := Option.some.inj hF
      have hP : va_P D vwCl (ZW x cy g Sf ++ va_pl L (pf cy K cf nm Sf)) H := by rw [← e2]; exact hP
      have hD : va_D (va_A (ZW x cy g S0 ++ va_pl L (pf cy K cf nm S0)) s.heap.size) (ZW x cy g Sf ++ va_pl L (pf cy K cf nm Sf)) := by rw [← e2]; exact hD
      have hT : WT L K Sf.2 := by rw [← e2]; exact hT
      exact W.vret hx hb hr (fun t ht hW => ⟨⟨(), rfl, hT, by rw [ht]; exact hP, va_K.moved hW.alike hK, hD⟩, hS.F ht⟩) hS.2.2 dX9_sendFetcher_82
    · skip
      subst eb12
      replace hF := oc_b hF
      have mb12 := hw9.2 b12 rfl
      have hl : lv_has ls 4 [(3, .ref b12), (2, .null), (0, .ref (x 0)), (1, .ref ar1)] := hl
      refine W.eq (g2 := F0 m 41 ls [.ref b12]) rfl ?_
      refine lv_ifnull hx hb dX9_sendFetcher_41 ?_
      refine lv_aload_n hx hb dX9_sendFetcher_44 rfl (lv_at hl 0 rfl) ?_
      refine pg_get (D := D) (ci := 6) (v := va_rf (S0.2 128 b12)) (C := RX6) (T := TX6) (N := 17) hx hb hts iX9_sendFetcher_6 hown hK hP mb12.1 (pf_6 mb12.2) rfl 8 (by decide) (hts (.fieldLink RX9 267 "FondsRoom$Reader" "awaited" "LFondsRoom$Box;") (List.mem_of_getElem? (i := 4) rfl)) (fun _ h9 => h9) rfl dX9_sendFetcher_45 ?_
      obtain ⟨q13, eq13⟩ : ∃ z, z = S0.2 128 b12 := ⟨_, rfl⟩
      replace hF := bnd_s hF q13 eq13
      have hq13 : rok L K 0 q13 := by rw [eq13]; exact hT 128 b12
      refine lv_tov (v' := va_rf q13) (by rw [eq13]) ?_
      rcases eb14 : q13 with _ | b14
      · skip
        subst eb14
        replace hF := oc_n hF
        have hl : lv_has ls 4 [(3, .ref b12), (2, .null), (0, .ref (x 0)), (1, .ref ar1)] := hl
        refine W.eq (g2 := F0 m 48 ls [.null]) rfl ?_
        refine lv_ifnullN (tgt := 82) hx hb dX9_sendFetcher_48 (by decide) ?_
        have e2 := Option.some.inj hF
        have hP : va_P D vwCl (ZW x cy g Sf ++ va_pl L (pf cy K cf nm Sf)) H := by rw [← e2]; exact hP
        have hD : va_D (va_A (ZW x cy g S0 ++ va_pl L (pf cy K cf nm S0)) s.heap.size) (ZW x cy g Sf ++ va_pl L (pf cy K cf nm Sf)) := by rw [← e2]; exact hD
        have hT : WT L K Sf.2 := by rw [← e2]; exact hT
        exact W.vret hx hb hr (fun t ht hW => ⟨⟨(), rfl, hT, by rw [ht]; exact hP, va_K.moved hW.alike hK, hD⟩, hS.F ht⟩) hS.2.2 dX9_sendFetcher_82
      · skip
        subst eb14
        replace hF := oc_b hF
        have mb14 := hq13 b14 rfl
        have hl : lv_has ls 4 [(3, .ref b12), (2, .null), (0, .ref (x 0)), (1, .ref ar1)] := hl
        refine W.eq (g2 := F0 m 48 ls [.ref b14]) rfl ?_
        refine lv_ifnull hx hb dX9_sendFetcher_48 ?_
        refine lv_aload_n hx hb dX9_sendFetcher_51 rfl (lv_at hl 0 rfl) ?_
        refine pg_get (D := D) (ci := 6) (v := va_rf (S0.2 128 b12)) (C := RX6) (T := TX6) (N := 17) hx hb hts iX9_sendFetcher_6 hown hK hP mb12.1 (pf_6 mb12.2) rfl 8 (by decide) (hts (.fieldLink RX9 267 "FondsRoom$Reader" "awaited" "LFondsRoom$Box;") (List.mem_of_getElem? (i := 4) rfl)) (fun _ h9 => h9) rfl dX9_sendFetcher_52 ?_
        obtain ⟨q15, eq15⟩ : ∃ z, z = S0.2 128 b12 := ⟨_, rfl⟩
        replace hF := bnd_s hF q15 eq15
        have hq15 : rok L K 0 q15 := by rw [eq15]; exact hT 128 b12
        refine lv_tov (v' := va_rf q15) (by rw [eq15]) ?_
        refine lv_iconst (v := 3) hx hb dX9_sendFetcher_55 (by decide) ?_
        obtain ⟨b16, eb16, hF9⟩ := sm_s hF
        clear hF
        have hF := hF9
        clear hF9
        subst eb16
        have mb16 := hq15 b16 rfl
        have hl : lv_has ls 4 [(3, .ref b12), (2, .null), (0, .ref (x 0)), (1, .ref ar1)] := hl
        refine W.eq (g2 := F0 m 56 ls [.int 3, .ref b16]) rfl ?_
        refine pg_put (D := D) (ci := 0) (v := .int 3) (ty := .int) (C := RX0) (T := TX0) (N := 6) hx hb hts iX9_sendFetcher_0 tyX0 tyX0_ok nmX0 hown hK hP hD hS mb16.1 (pf_0 mb16.2) rfl 3 (by decide) (hts (.fieldLink RX9 233 "FondsRoom$Box" "place" "I") (List.mem_of_getElem? (i := 1) rfl)) (fun _ h9 => h9) rfl (by decide +kernel) rfl rfl (Nat.le_of_ble_eq_true rfl) dX9_sendFetcher_56 (fun H locs hP hD hS => ?_)
        obtain ⟨S17, eS17⟩ : ∃ z, z = wi S0 3 b16 3 := ⟨_, rfl⟩
        replace hF := bnd_s hF S17 eS17
        have hP : va_P D vwCl (ZW x cy g S17 ++ va_pl L (pf cy K cf nm S17)) H := by rw [eS17]; rw [← pu_0_3 mb16.2]; exact hP
        have hD : va_D (va_A (ZW x cy g S0 ++ va_pl L (pf cy K cf nm S0)) s.heap.size) (ZW x cy g S17 ++ va_pl L (pf cy K cf nm S17)) := by rw [eS17]; rw [← pu_0_3 mb16.2]; exact hD
        have hT : WT L K S17.2 := by rw [eS17]; exact hT
        refine lv_aload_n hx hb dX9_sendFetcher_59 rfl (lv_at hl 3 rfl) ?_
        refine lv_aload_n hx hb dX9_sendFetcher_60 rfl (lv_at hl 0 rfl) ?_
        refine pg_get (D := D) (ci := 6) (v := va_rf (S17.2 128 b12)) (C := RX6) (T := TX6) (N := 17) hx hb hts iX9_sendFetcher_6 hown hK hP mb12.1 (pf_6 mb12.2) rfl 8 (by decide) (hts (.fieldLink RX9 267 "FondsRoom$Reader" "awaited" "LFondsRoom$Box;") (List.mem_of_getElem? (i := 4) rfl)) (fun _ h9 => h9) rfl dX9_sendFetcher_61 ?_
        obtain ⟨q18, eq18⟩ : ∃ z, z = S17.2 128 b12 := ⟨_, rfl⟩
        replace hF := bnd_s hF q18 eq18
        have hq18 : rok L K 0 q18 := by rw [eq18]; exact hT 128 b12
        refine lv_tov (v' := va_rf q18) (by rw [eq18]) ?_
        refine lv_aload_n hx hb dX9_sendFetcher_64 rfl (lv_at hl 0 rfl) ?_
        refine lv_aload_n hx hb dX9_sendFetcher_65 rfl (lv_at hl 2 rfl) ?_
        refine va_get (D := D) (ci := 9) (v := .int (S17.1 200 3)) (C := RX9) (T := TX9) (N := 19) hx hb hts iX9_sendFetcher_9 hown hK hP 0 rfl rfl 13 (by decide) (hts (.fieldLink RX9 71 "FondsRoom" "way" "I") (List.mem_of_getElem? (i := 2) rfl)) (fun _ h9 => h9) rfl dX9_sendFetcher_66 ?_
        obtain ⟨b19, eb19, hF9⟩ := sm_s hF
        clear hF
        have hF := hF9
        clear hF9
        subst eb19
        have mb19 := hq18 b19 rfl
        have hl : lv_has ls 4 [(3, .ref b12), (2, .null), (0, .ref (x 0)), (1, .ref ar1)] := hl
        refine W.eq (g2 := F0 m 69 ls [.int (S17.1 200 3), .ref b12, .ref b19, .ref ar1]) rfl ?_
        obtain ⟨S21, hq23, hF⟩ := bd1_s hF
        refine gvV (As := [.ref b19, va_rf (some b12), .int (S17.1 200 3)]) (rest := []) ⟨hx, hb, hml, hown, hts⟩ (zX8_begin l D x cy g L K cf nm hG hL S17 hT _ ar1 b19 (some b12) (S17.1 200 3) ⟨mar1.1, mar1.2⟩ ⟨mb19.1, mb19.2⟩ (rok_some mb12.1 mb12.2) S21 hq23) (cwV 3 hts gX9_sendFetcher_X8_begin rfl rfl rfl (by decide +kernel) ⟨Nat.le_of_ble_eq_true rfl, Nat.le_of_ble_eq_true rfl⟩) hK hP hD hS hA (pl_recv hK hP (ci := 8) rfl mar1.1 (pf_8 mar1.2)) rfl hl.1 rfl (Nat.le_of_ble_eq_true rfl) dX9_sendFetcher_69 ⟨Nat.le_of_ble_eq_true rfl, Nat.le_of_ble_eq_true rfl⟩ (fun u9 H locs hw22 hP hD hS => ?_)
        have hT : WT L K S21.2 := hw22
        have hP : va_P D vwCl (ZW x cy g S21 ++ va_pl L (pf cy K cf nm S21)) H := hP
        have hD : va_D _ (ZW x cy g S21 ++ va_pl L (pf cy K cf nm S21)) := hD
        refine lv_aload_n hx hb dX9_sendFetcher_72 rfl (lv_at hl 2 rfl) ?_
        refine lv_dup hx hb dX9_sendFetcher_73 rfl ?_
        refine va_get (D := D) (ci := 9) (v := .int (S21.1 200 7)) (C := RX9) (T := TX9) (N := 19) hx hb hts iX9_sendFetcher_9 hown hK hP 0 rfl rfl 17 (by decide) (hts (.fieldLink RX9 392 "FondsRoom" "waysBegun" "I") (List.mem_of_getElem? (i := 3) rfl)) (fun _ h9 => h9) rfl dX9_sendFetcher_74 ?_
        refine lv_iconst (v := 1) hx hb dX9_sendFetcher_77 (by decide) ?_
        refine lv_iadd hx hb dX9_sendFetcher_78 ?_
        refine va_put (D := D) (ci := 9) (v := .int ((S21.1 200 7) + 1)) (ty := .int) (C := RX9) (T := TX9) (N := 19) hx hb hts iX9_sendFetcher_9 tyX9 tyX9_ok nmX9 hown hK hP hD hS 0 rfl rfl 17 (by decide) (hts (.fieldLink RX9 392 "FondsRoom" "waysBegun" "I") (List.mem_of_getElem? (i := 3) rfl)) (fun _ h9 => h9) rfl (by decide +kernel) rfl rfl (Nat.le_of_ble_eq_true rfl) dX9_sendFetcher_79 (fun H locs hP hD hS => ?_)
        obtain ⟨S25, eS25⟩ : ∃ z, z = wi S21 200 7 ((S21.1 200 7) + 1) := ⟨_, rfl⟩
        replace hF := bnd_s hF S25 eS25
        have hP : va_P D vwCl (ZW x cy g S25 ++ va_pl L (pf cy K cf nm S25)) H := by rw [eS25]; rw [show pf cy K cf nm (wi S21 200 7 ((S21.1 200 7) + 1)) = pf cy K cf nm S21 from pf_200]; exact hP
        have hD : va_D (va_A (ZW x cy g S0 ++ va_pl L (pf cy K cf nm S0)) s.heap.size) (ZW x cy g S25 ++ va_pl L (pf cy K cf nm S25)) := by rw [eS25]; rw [show pf cy K cf nm (wi S21 200 7 ((S21.1 200 7) + 1)) = pf cy K cf nm S21 from pf_200]; exact hD
        have hT : WT L K S25.2 := by rw [eS25]; exact hT
        have e2 := Option.some.inj hF
        have hP : va_P D vwCl (ZW x cy g Sf ++ va_pl L (pf cy K cf nm Sf)) H := by rw [← e2]; exact hP
        have hD : va_D (va_A (ZW x cy g S0 ++ va_pl L (pf cy K cf nm S0)) s.heap.size) (ZW x cy g Sf ++ va_pl L (pf cy K cf nm Sf)) := by rw [← e2]; exact hD
        have hT : WT L K Sf.2 := by rw [← e2]; exact hT
        exact W.vret hx hb hr (fun t ht hW => ⟨⟨(), rfl, hT, by rw [ht]; exact hP, va_K.moved hW.alike hK, hD⟩, hS.F ht⟩) hS.2.2 dX9_sendFetcher_82
  · skip
    subst eb6
    replace hF := oc_b hF
    have mb6 := hw3.2 b6 rfl
    have hl : lv_has ls 4 [(2, .ref b6), (0, .ref (x 0)), (1, .ref ar1)] := hl
    refine W.eq (g2 := F0 m 6 ls [.ref b6]) rfl ?_
    refine lv_ifnull hx hb dX9_sendFetcher_6 ?_
    refine lv_aload_n hx hb dX9_sendFetcher_9 rfl (lv_at hl 0 rfl) ?_
    refine lv_iconst (v := 4) hx hb dX9_sendFetcher_10 (by decide) ?_
    refine pg_put (D := D) (ci := 0) (v := .int 4) (ty := .int) (C := RX0) (T := TX0) (N := 6) hx hb hts iX9_sendFetcher_0 tyX0 tyX0_ok nmX0 hown hK hP hD hS mb6.1 (pf_0 mb6.2) rfl 3 (by decide) (hts (.fieldLink RX9 233 "FondsRoom$Box" "place" "I") (List.mem_of_getElem? (i := 1) rfl)) (fun _ h9 => h9) rfl (by decide +kernel) rfl rfl (Nat.le_of_ble_eq_true rfl) dX9_sendFetcher_11 (fun H locs hP hD hS => ?_)
    obtain ⟨S26, eS26⟩ : ∃ z, z = wi S0 3 b6 4 := ⟨_, rfl⟩
    replace hF := bnd_s hF S26 eS26
    have hP : va_P D vwCl (ZW x cy g S26 ++ va_pl L (pf cy K cf nm S26)) H := by rw [eS26]; rw [← pu_0_3 mb6.2]; exact hP
    have hD : va_D (va_A (ZW x cy g S0 ++ va_pl L (pf cy K cf nm S0)) s.heap.size) (ZW x cy g S26 ++ va_pl L (pf cy K cf nm S26)) := by rw [eS26]; rw [← pu_0_3 mb6.2]; exact hD
    have hT : WT L K S26.2 := by rw [eS26]; exact hT
    refine lv_aload_n hx hb dX9_sendFetcher_14 rfl (lv_at hl 2 rfl) ?_
    refine lv_aload_n hx hb dX9_sendFetcher_15 rfl (lv_at hl 0 rfl) ?_
    refine lv_null hx hb dX9_sendFetcher_16 ?_
    refine lv_aload_n hx hb dX9_sendFetcher_17 rfl (lv_at hl 1 rfl) ?_
    refine va_get (D := D) (ci := 9) (v := .int (S26.1 200 3)) (C := RX9) (T := TX9) (N := 19) hx hb hts iX9_sendFetcher_9 hown hK hP 0 rfl rfl 13 (by decide) (hts (.fieldLink RX9 71 "FondsRoom" "way" "I") (List.mem_of_getElem? (i := 2) rfl)) (fun _ h9 => h9) rfl dX9_sendFetcher_18 ?_
    obtain ⟨S28, hq30, hF⟩ := bd1_s hF
    refine gvV (As := [.ref b6, va_rf none, .int (S26.1 200 3)]) (rest := []) ⟨hx, hb, hml, hown, hts⟩ (zX8_begin l D x cy g L K cf nm hG hL S26 hT _ ar1 b6 none (S26.1 200 3) ⟨mar1.1, mar1.2⟩ ⟨mb6.1, mb6.2⟩ rok_none S28 hq30) (cwV 3 hts gX9_sendFetcher_X8_begin rfl rfl rfl (by decide +kernel) ⟨Nat.le_of_ble_eq_true rfl, Nat.le_of_ble_eq_true rfl⟩) hK hP hD hS hA (pl_recv hK hP (ci := 8) rfl mar1.1 (pf_8 mar1.2)) rfl hl.1 rfl (Nat.le_of_ble_eq_true rfl) dX9_sendFetcher_21 ⟨Nat.le_of_ble_eq_true rfl, Nat.le_of_ble_eq_true rfl⟩ (fun u9 H locs hw29 hP hD hS => ?_)
    have hT : WT L K S28.2 := hw29
    have hP : va_P D vwCl (ZW x cy g S28 ++ va_pl L (pf cy K cf nm S28)) H := hP
    have hD : va_D _ (ZW x cy g S28 ++ va_pl L (pf cy K cf nm S28)) := hD
    refine lv_aload_n hx hb dX9_sendFetcher_24 rfl (lv_at hl 1 rfl) ?_
    refine lv_dup hx hb dX9_sendFetcher_25 rfl ?_
    refine va_get (D := D) (ci := 9) (v := .int (S28.1 200 7)) (C := RX9) (T := TX9) (N := 19) hx hb hts iX9_sendFetcher_9 hown hK hP 0 rfl rfl 17 (by decide) (hts (.fieldLink RX9 392 "FondsRoom" "waysBegun" "I") (List.mem_of_getElem? (i := 3) rfl)) (fun _ h9 => h9) rfl dX9_sendFetcher_26 ?_
    refine lv_iconst (v := 1) hx hb dX9_sendFetcher_29 (by decide) ?_
    refine lv_iadd hx hb dX9_sendFetcher_30 ?_
    refine va_put (D := D) (ci := 9) (v := .int ((S28.1 200 7) + 1)) (ty := .int) (C := RX9) (T := TX9) (N := 19) hx hb hts iX9_sendFetcher_9 tyX9 tyX9_ok nmX9 hown hK hP hD hS 0 rfl rfl 17 (by decide) (hts (.fieldLink RX9 392 "FondsRoom" "waysBegun" "I") (List.mem_of_getElem? (i := 3) rfl)) (fun _ h9 => h9) rfl (by decide +kernel) rfl rfl (Nat.le_of_ble_eq_true rfl) dX9_sendFetcher_31 (fun H locs hP hD hS => ?_)
    obtain ⟨S32, eS32⟩ : ∃ z, z = wi S28 200 7 ((S28.1 200 7) + 1) := ⟨_, rfl⟩
    replace hF := bnd_s hF S32 eS32
    have hP : va_P D vwCl (ZW x cy g S32 ++ va_pl L (pf cy K cf nm S32)) H := by rw [eS32]; rw [show pf cy K cf nm (wi S28 200 7 ((S28.1 200 7) + 1)) = pf cy K cf nm S28 from pf_200]; exact hP
    have hD : va_D (va_A (ZW x cy g S0 ++ va_pl L (pf cy K cf nm S0)) s.heap.size) (ZW x cy g S32 ++ va_pl L (pf cy K cf nm S32)) := by rw [eS32]; rw [show pf cy K cf nm (wi S28 200 7 ((S28.1 200 7) + 1)) = pf cy K cf nm S28 from pf_200]; exact hD
    have hT : WT L K S32.2 := by rw [eS32]; exact hT
    have e2 := Option.some.inj hF
    have hP : va_P D vwCl (ZW x cy g Sf ++ va_pl L (pf cy K cf nm Sf)) H := by rw [← e2]; exact hP
    have hD : va_D (va_A (ZW x cy g S0 ++ va_pl L (pf cy K cf nm S0)) s.heap.size) (ZW x cy g Sf ++ va_pl L (pf cy K cf nm Sf)) := by rw [← e2]; exact hD
    have hT : WT L K Sf.2 := by rw [← e2]; exact hT
    exact W.vret hx hb hr (fun t ht hW => ⟨⟨(), rfl, hT, by rw [ht]; exact hP, va_K.moved hW.alike hK, hD⟩, hS.F ht⟩) hS.2.2 dX9_sendFetcher_34

theorem iX9_sendFetchers_7 : ∀ w ∈ wsX70, w ∈ wsX9_sendFetchers := fun _ h => List.mem_cons_of_mem _ (List.mem_append_left _ (List.mem_append_left _ (List.mem_append_left _ (List.mem_append_left _ (List.mem_append_right _ h)))))
theorem iX9_sendFetchers_8 : ∀ w ∈ wsX80, w ∈ wsX9_sendFetchers := fun _ h => List.mem_cons_of_mem _ (List.mem_append_left _ (List.mem_append_left _ (List.mem_append_left _ (List.mem_append_right _ h))))
theorem iX9_sendFetchers_9 : ∀ w ∈ wsX90, w ∈ wsX9_sendFetchers := fun _ h => List.mem_cons_of_mem _ (List.mem_append_left _ (List.mem_append_left _ (List.mem_append_left _ (List.mem_append_left _ (List.mem_append_left _ (List.mem_append_right _ h))))))
set_option maxHeartbeats 8000000 in
set_option maxRecDepth 100000 in
theorem zX9_sendFetchers (l : Launch) (D : va_G) (x : Nat → Nat) (cy : Nat → ClassId) (g : Nat → Nat → Option Nat) (L : List Nat) (K : Nat → Nat) (cf : Nat → Nat → Nat) (nm : Nat → Int32) (hG : GO L K g) (hL : PL L K cf) (S0 : CS) (hT : WT L K S0.2) (sz : Nat)   (Sf : CS) (hF : gX9_sendFetchers g cf nm S0  = some Sf) : Met l yX9_sendFetchers wsX9_sendFetchers ({ frames := 3, cells := 0, slots := 0, locals := 66 }) (PW D (TYS cy) (ZW x cy g S0 ++ va_pl L (pf cy K cf nm S0)) sz [.ref (x 0)]) (va_Qv (fun (u : Unit) => WT L K Sf.2) (BU D (TYS cy) (ZW x cy g S0 ++ va_pl L (pf cy K cf nm S0)) (fun _ => ZW x cy g Sf ++ va_pl L (pf cy K cf nm Sf)) sz) (va_A (ZW x cy g S0 ++ va_pl L (pf cy K cf nm S0)) sz)) 0 0 (va_A (ZW x cy g S0 ++ va_pl L (pf cy K cf nm S0)) sz) := by
  refine Met.ofW (cc := cX9_sendFetchers) (maxL := 2) (ret := none) (by decide) rfl ?_
  intro p e s m args below meth c s₁ B hml hv
  obtain ⟨rfl, hsz, hP, hK, hD0⟩ := hv
  have hx := B.exec
  have hb := B.bytes
  have hr := B.returns
  have hts := atoms_spec (ws := wsX9_sendFetchers) B.pre
  have hown : s.vm.findClass RX9 = some m.cls := findClass_of_methodNamed B.named
  have hlocks := B.notSynchronized
  subst hsz
  have hD := hD0.self (sz := s.heap.size)
  have hA : ∀ q9 : Nat, s.heap.size ≤ q9 → va_A (ZW x cy g S0 ++ va_pl L (pf cy K cf nm S0)) s.heap.size q9 := fun q9 h => Or.inr h
  have hS : va_S (va_A (ZW x cy g S0 ++ va_pl L (pf cy K cf nm S0)) s.heap.size) s.heap s.heap [] := va_S.rf
  have key2 : ∀ (KK : CS → Option (CS)), (∀  (S : CS) (H : Heap) (locs : List Loc) (ls : Array Slot), KK  S = some Sf → WT L K S.2 → va_P D vwCl (ZW x cy g S ++ va_pl L (pf cy K cf nm S)) H → va_D (va_A (ZW x cy g S0 ++ va_pl L (pf cy K cf nm S0)) s.heap.size) (ZW x cy g S ++ va_pl L (pf cy K cf nm S)) → va_S (va_A (ZW x cy g S0 ++ va_pl L (pf cy K cf nm S0)) s.heap.size) s.heap H locs → lv_has ls 2 [] → W p l e (headSpec wsX9_sendFetchers ({ frames := 3, cells := 0, slots := 0, locals := 66 })).room s m #[.ref (x 0)] below meth c H locs 0 0 (MQ below (va_Qv (fun (u : Unit) => WT L K Sf.2) (BU D (TYS cy) (ZW x cy g S0 ++ va_pl L (pf cy K cf nm S0)) (fun _ => ZW x cy g Sf ++ va_pl L (pf cy K cf nm Sf)) s.heap.size) (va_A (ZW x cy g S0 ++ va_pl L (pf cy K cf nm S0)) s.heap.size)) #[.ref (x 0)] s 0 0 (va_A (ZW x cy g S0 ++ va_pl L (pf cy K cf nm S0)) s.heap.size)) (F0 m 47 ls [])) → ∀ (fu : Nat) (v1 : Int32) (S : CS) (H : Heap) (locs : List Loc) (ls : Array Slot), gX9_sendFetchers_2 g cf nm KK fu v1 S = some Sf → WT L K S.2 → va_P D vwCl (ZW x cy g S ++ va_pl L (pf cy K cf nm S)) H → va_D (va_A (ZW x cy g S0 ++ va_pl L (pf cy K cf nm S0)) s.heap.size) (ZW x cy g S ++ va_pl L (pf cy K cf nm S)) → va_S (va_A (ZW x cy g S0 ++ va_pl L (pf cy K cf nm S0)) s.heap.size) s.heap H locs → lv_has ls 2 [(1, .int v1), (0, .ref (x 0))] → W p l e (headSpec wsX9_sendFetchers ({ frames := 3, cells := 0, slots := 0, locals := 66 })).room s m #[.ref (x 0)] below meth c H locs 0 0 (MQ below (va_Qv (fun (u : Unit) => WT L K Sf.2) (BU D (TYS cy) (ZW x cy g S0 ++ va_pl L (pf cy K cf nm S0)) (fun _ => ZW x cy g Sf ++ va_pl L (pf cy K cf nm Sf)) s.heap.size) (va_A (ZW x cy g S0 ++ va_pl L (pf cy K cf nm S0)) s.heap.size)) #[.ref (x 0)] s 0 0 (va_A (ZW x cy g S0 ++ va_pl L (pf cy K cf nm S0)) s.heap.size)) (F0 m 2 ls []) := by
    intro KK hKK fu
    induction fu with
    | zero =>
      intro v1 S H locs ls hF
      exact absurd (show (none : Option (CS)) = some Sf from hF) (by simp)
    | succ fu2 ih2 =>
      intro v1 S H locs ls hF hT hP hD hS hl
      rw [gX9_sendFetchers_2] at hF
      refine lv_iload_n hx hb dX9_sendFetchers_2 rfl (lv_at hl 0 rfl) ?_
      refine lv_aload_n hx hb dX9_sendFetchers_3 rfl (lv_at hl 1 rfl) ?_
      refine va_get (D := D) (ci := 9) (v := .ref (x 4)) (C := RX9) (T := TX9) (N := 19) hx hb hts iX9_sendFetchers_9 hown hK hP 0 rfl rfl 3 (by decide) (hts (.fieldLink RX9 37 "FondsRoom" "fetchers" "LFondsRoom$Staff;") (List.mem_of_getElem? (i := 1) rfl)) (fun _ h9 => h9) rfl dX9_sendFetchers_4 ?_
      refine va_get (D := D) (ci := 7) (v := .int (S.1 200 9)) (C := RX7) (T := TX7) (N := 2) hx hb hts iX9_sendFetchers_7 hown hK hP 4 rfl rfl 1 (by decide) (hts (.fieldLink RX9 101 "FondsRoom$Staff" "hired" "I") (List.mem_of_getElem? (i := 2) rfl)) (fun _ h9 => h9) rfl dX9_sendFetchers_7 ?_
      refine lv_icmp_ge (tgt := 47) hx hb dX9_sendFetchers_10 (by decide) (fun c1 => ?_) (fun c1 => ?_)
      · skip
        have hF := (if_pos c1).symm.trans hF
        exact hKK  S _ _ _ hF hT hP hD hS (lv_sub hl [] rfl)
      · skip
        have hF := (if_neg c1).symm.trans hF
        refine lv_aload_n hx hb dX9_sendFetchers_13 rfl (lv_at hl 1 rfl) ?_
        refine va_get (D := D) (ci := 9) (v := .ref (x 4)) (C := RX9) (T := TX9) (N := 19) hx hb hts iX9_sendFetchers_9 hown hK hP 0 rfl rfl 3 (by decide) (hts (.fieldLink RX9 37 "FondsRoom" "fetchers" "LFondsRoom$Staff;") (List.mem_of_getElem? (i := 1) rfl)) (fun _ h9 => h9) rfl dX9_sendFetchers_14 ?_
        refine va_get (D := D) (ci := 7) (v := .ref (x 5)) (C := RX7) (T := TX7) (N := 2) hx hb hts iX9_sendFetchers_7 hown hK hP 4 rfl rfl 0 (by decide) (hts (.fieldLink RX9 216 "FondsRoom$Staff" "workers" "[LFondsRoom$Worker;") (List.mem_of_getElem? (i := 3) rfl)) (fun _ h9 => h9) rfl dX9_sendFetchers_17 ?_
        refine lv_iload_n hx hb dX9_sendFetchers_20 rfl (lv_at hl 0 rfl) ?_
        obtain ⟨hi2, b3, eb3, hF⟩ := ga_s hF
        refine va_aldq hx hb hK hP 5 5 rfl rfl hi2 dX9_sendFetchers_21 ?_
        refine lv_tov (v' := .ref b3) (by rw [eb3]; rfl) ?_
        have mb3 := GO_3 hG hi2 eb3
        refine pg_get (D := D) (ci := 8) (v := va_rf (S.2 160 b3)) (C := RX8) (T := TX8) (N := 3) hx hb hts iX9_sendFetchers_8 hown hK hP mb3.1 (pf_8 mb3.2) rfl 0 (by decide) (hts (.fieldLink RX9 227 "FondsRoom$Worker" "box" "LFondsRoom$Box;") (List.mem_of_getElem? (i := 4) rfl)) (fun _ h9 => h9) rfl dX9_sendFetchers_22 ?_
        obtain ⟨q4, eq4⟩ : ∃ z, z = S.2 160 b3 := ⟨_, rfl⟩
        replace hF := bnd_s hF q4 eq4
        have hq4 : rok L K 0 q4 := by rw [eq4]; exact hT 160 b3
        refine lv_tov (v' := va_rf q4) (by rw [eq4]) ?_
        rcases eb5 : q4 with _ | b5
        · skip
          subst eb5
          replace hF := oc_n hF
          have hl : lv_has ls 2 [(1, .int v1), (0, .ref (x 0))] := hl
          refine W.eq (g2 := F0 m 25 ls [.null]) rfl ?_
          refine lv_ifnonnullN hx hb dX9_sendFetchers_25 ?_
          refine lv_aload_n hx hb dX9_sendFetchers_28 rfl (lv_at hl 1 rfl) ?_
          refine lv_aload_n hx hb dX9_sendFetchers_29 rfl (lv_at hl 1 rfl) ?_
          refine va_get (D := D) (ci := 9) (v := .ref (x 4)) (C := RX9) (T := TX9) (N := 19) hx hb hts iX9_sendFetchers_9 hown hK hP 0 rfl rfl 3 (by decide) (hts (.fieldLink RX9 37 "FondsRoom" "fetchers" "LFondsRoom$Staff;") (List.mem_of_getElem? (i := 1) rfl)) (fun _ h9 => h9) rfl dX9_sendFetchers_30 ?_
          refine va_get (D := D) (ci := 7) (v := .ref (x 5)) (C := RX7) (T := TX7) (N := 2) hx hb hts iX9_sendFetchers_7 hown hK hP 4 rfl rfl 0 (by decide) (hts (.fieldLink RX9 216 "FondsRoom$Staff" "workers" "[LFondsRoom$Worker;") (List.mem_of_getElem? (i := 3) rfl)) (fun _ h9 => h9) rfl dX9_sendFetchers_33 ?_
          refine lv_iload_n hx hb dX9_sendFetchers_36 rfl (lv_at hl 0 rfl) ?_
          obtain ⟨hi6, b7, eb7, hF⟩ := ga_s hF
          refine va_aldq hx hb hK hP 5 5 rfl rfl hi6 dX9_sendFetchers_37 ?_
          refine lv_tov (v' := .ref b7) (by rw [eb7]; rfl) ?_
          have mb7 := GO_3 hG hi6 eb7
          obtain ⟨S9, hq11, hF⟩ := bd1_s hF
          refine gvV (As := [.ref b7]) (rest := []) ⟨hx, hb, hml, hown, hts⟩ (zX9_sendFetcher l D x cy g L K cf nm hG hL S hT _ b7 ⟨mb7.1, mb7.2⟩ S9 hq11) (cwV 1 hts gX9_sendFetchers_X9_sendFetcher rfl rfl rfl (by decide +kernel) ⟨Nat.le_of_ble_eq_true rfl, Nat.le_of_ble_eq_true rfl⟩) hK hP hD hS hA (va_recv hK hP (ci := 9) (q0 := 0) rfl rfl) rfl hl.1 rfl (Nat.le_of_ble_eq_true rfl) dX9_sendFetchers_38 ⟨Nat.le_of_ble_eq_true rfl, Nat.le_of_ble_eq_true rfl⟩ (fun u9 H locs hw10 hP hD hS => ?_)
          have hT : WT L K S9.2 := hw10
          have hP : va_P D vwCl (ZW x cy g S9 ++ va_pl L (pf cy K cf nm S9)) H := hP
          have hD : va_D _ (ZW x cy g S9 ++ va_pl L (pf cy K cf nm S9)) := hD
          refine lv_iinc (v := v1 + 1) (lv' := [(1, .int (v1 + 1)), (0, .ref (x 0))]) hx hb dX9_sendFetchers_41 hl (k := 0) rfl rfl (by decide) rfl (fun ls hl => ?_)
          refine lv_goto (tgt := 2) hx hb dX9_sendFetchers_44 (by decide) ?_
          exact ih2 (v1 + 1) S9 _ _ _ hF hT hP hD hS (lv_sub hl [0, 1] rfl)
        · skip
          subst eb5
          replace hF := oc_b hF
          have mb5 := hq4 b5 rfl
          have hl : lv_has ls 2 [(1, .int v1), (0, .ref (x 0))] := hl
          refine W.eq (g2 := F0 m 25 ls [.ref b5]) rfl ?_
          refine lv_ifnonnull (tgt := 41) hx hb dX9_sendFetchers_25 (by decide) ?_
          refine lv_iinc (v := v1 + 1) (lv' := [(1, .int (v1 + 1)), (0, .ref (x 0))]) hx hb dX9_sendFetchers_41 hl (k := 0) rfl rfl (by decide) rfl (fun ls hl => ?_)
          refine lv_goto (tgt := 2) hx hb dX9_sendFetchers_44 (by decide) ?_
          exact ih2 (v1 + 1) S _ _ _ hF hT hP hD hS (lv_sub hl [0, 1] rfl)
  have hl := lv_entry ([.ref (x 0)]) (n := 2) (Nat.le_of_ble_eq_true rfl)
  rw [lg_entry_eq]
  generalize (lg_sl ([.ref (x 0)]) ++ List.replicate (2 - (lg_sl ([.ref (x 0)])).length) Slot.unset).toArray = ls at hl ⊢
  have hl : lv_has ls 2 [(0, .ref (x 0))] := hl
  unfold gX9_sendFetchers at hF
  refine lv_iconst (v := 0) hx hb dX9_sendFetchers_0 (by decide) ?_
  refine lv_istore_n (lv' := [(1, .int 0), (0, .ref (x 0))]) hx hb dX9_sendFetchers_1 rfl hl (by decide) rfl (fun ls hl => ?_)
  refine key2 _ ?_ 1000 0 S0 _ _ _ hF hT hP hD hS (lv_sub hl [0, 1] rfl)
  intro S13 H locs ls hF hT hP hD hS hl
  have e2 := Option.some.inj hF
  have hP : va_P D vwCl (ZW x cy g Sf ++ va_pl L (pf cy K cf nm Sf)) H := by rw [← e2]; exact hP
  have hD : va_D (va_A (ZW x cy g S0 ++ va_pl L (pf cy K cf nm S0)) s.heap.size) (ZW x cy g Sf ++ va_pl L (pf cy K cf nm Sf)) := by rw [← e2]; exact hD
  have hT : WT L K Sf.2 := by rw [← e2]; exact hT
  exact W.vret hx hb hr (fun t ht hW => ⟨⟨(), rfl, hT, by rw [ht]; exact hP, va_K.moved hW.alike hK, hD⟩, hS.F ht⟩) hS.2.2 dX9_sendFetchers_47
