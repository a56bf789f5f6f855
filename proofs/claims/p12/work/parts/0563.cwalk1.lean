set_option maxHeartbeats 8000000 in
set_option maxRecDepth 100000 in
theorem zX3_at_2 (l : Launch) (D : va_G) (x : Nat → Nat) (cy : Nat → ClassId) (g : Nat → Nat → Option Nat) (L : List Nat) (K : Nat → Nat) (cf : Nat → Nat → Nat) (nm : Nat → Int32) (hG : GO L K g) (hL : PL L K cf) (S : CS) (hT : WT L K S.2) (sz : Nat) (ar1 : Int32)  (rv : Option Nat) (hF : gX3_at_2 g cf nm S ar1 = some rv) : Met l yX3_at wsX3_at ({ frames := 0, cells := 0, slots := 0, locals := 0 }) (PW D (TYS cy) (ZW x cy g S ++ va_pl L (pf cy K cf nm S)) sz [.ref (x 12), .int ar1]) (va_Qq (fun (res : Option Nat) (u : Unit) => res = rv ∧ rok L K 6 rv) (BU D (TYS cy) (ZW x cy g S ++ va_pl L (pf cy K cf nm S)) (fun _ => ZW x cy g S ++ va_pl L (pf cy K cf nm S)) sz) (va_A (ZW x cy g S ++ va_pl L (pf cy K cf nm S)) sz)) 0 0 (va_A (ZW x cy g S ++ va_pl L (pf cy K cf nm S)) sz) := by
  refine Met.ofW (cc := cX3_at) (maxL := 2) (ret := (some (.object "FondsRoom$Reader"))) (by decide) rfl ?_
  intro p e s m args below meth c s₁ B hml hv
  obtain ⟨rfl, hsz, hP, hK, hD0⟩ := hv
  have hx := B.exec
  have hb := B.bytes
  have hr := B.returns
  have hts := atoms_spec (ws := wsX3_at) B.pre
  have hown : s.vm.findClass RX3 = some m.cls := findClass_of_methodNamed B.named
  have hlocks := B.notSynchronized
  subst hsz
  have hD := hD0.self (sz := s.heap.size)
  have hA : ∀ q9 : Nat, s.heap.size ≤ q9 → va_A (ZW x cy g S ++ va_pl L (pf cy K cf nm S)) s.heap.size q9 := fun q9 h => Or.inr h
  have hS : va_S (va_A (ZW x cy g S ++ va_pl L (pf cy K cf nm S)) s.heap.size) s.heap s.heap [] := va_S.rf
  have hl := lv_entry ([.ref (x 12), .int ar1]) (n := 2) (Nat.le_of_ble_eq_true rfl)
  rw [lg_entry_eq]
  generalize (lg_sl ([.ref (x 12), .int ar1]) ++ List.replicate (2 - (lg_sl ([.ref (x 12), .int ar1])).length) Slot.unset).toArray = ls at hl ⊢
  have hl : lv_has ls 2 [(0, .ref (x 12)), (1, .int ar1)] := hl
  unfold gX3_at_2 at hF
  refine lv_iload_n hx hb dX3_at_0 rfl (lv_at hl 1 rfl) ?_
  refine lv_if_lt (tgt := 21) hx hb dX3_at_1 (by decide) (fun c1 => ?_) (fun c1 => ?_)
  · skip
    have hF := (if_pos c1).symm.trans hF
    refine lv_null hx hb dX3_at_21 ?_
    have e1 := Option.some.inj hF
    exact W.aret (v := .null) hx hb hr (Or.inl ⟨_, rfl⟩) (Or.inl rfl) (fun t ht hW => ⟨⟨none, (), rfl, ⟨e1, by rw [← e1]; exact rok_none⟩, by rw [ht]; exact hP, va_K.moved hW.alike hK, hD⟩, hS.F ht⟩) hS.2.2 dX3_at_22
  · skip
    have hF := (if_neg c1).symm.trans hF
    refine lv_iload_n hx hb dX3_at_4 rfl (lv_at hl 1 rfl) ?_
    refine lv_aload_n hx hb dX3_at_5 rfl (lv_at hl 0 rfl) ?_
    refine va_get (D := D) (ci := 3) (v := .int (S.1 200 13)) (C := RX3) (T := TX3) (N := 2) hx hb hts iX3_at_3 hown hK hP 12 rfl rfl 1 (by decide) (hts (.fieldLink RX3 17 "FondsRoom$Line" "size" "I") (List.mem_of_getElem? (i := 1) rfl)) (fun _ h9 => h9) rfl dX3_at_6 ?_
    refine lv_icmp_ge (tgt := 21) hx hb dX3_at_9 (by decide) (fun c2 => ?_) (fun c2 => ?_)
    · skip
      have hF := (if_pos c2).symm.trans hF
      refine lv_null hx hb dX3_at_21 ?_
      have e1 := Option.some.inj hF
      exact W.aret (v := .null) hx hb hr (Or.inl ⟨_, rfl⟩) (Or.inl rfl) (fun t ht hW => ⟨⟨none, (), rfl, ⟨e1, by rw [← e1]; exact rok_none⟩, by rw [ht]; exact hP, va_K.moved hW.alike hK, hD⟩, hS.F ht⟩) hS.2.2 dX3_at_22
    · skip
      have hF := (if_neg c2).symm.trans hF
      refine lv_aload_n hx hb dX3_at_12 rfl (lv_at hl 0 rfl) ?_
      refine va_get (D := D) (ci := 3) (v := .ref (x 13)) (C := RX3) (T := TX3) (N := 2) hx hb hts iX3_at_3 hown hK hP 12 rfl rfl 0 (by decide) (hts (.fieldLink RX3 11 "FondsRoom$Line" "places" "[LFondsRoom$Reader;") (List.mem_of_getElem? (i := 2) rfl)) (fun _ h9 => h9) rfl dX3_at_13 ?_
      refine lv_iload_n hx hb dX3_at_16 rfl (lv_at hl 1 rfl) ?_
      obtain ⟨hi3, hF⟩ := lq_s hF
      refine va_aldq hx hb hK hP 13 4 rfl rfl hi3 dX3_at_17 ?_
      obtain ⟨q4, eq4⟩ : ∃ z, z = S.2 207 (ar1 : Int32).toNatClampNeg := ⟨_, rfl⟩
      replace hF := hF q4 eq4
      have hq4 : rok L K 6 q4 := by rw [eq4]; exact hT 207 _
      refine lv_tov (v' := va_rf q4) (by rw [eq4]) ?_
      refine lv_goto (tgt := 22) hx hb dX3_at_18 (by decide) ?_
      have e1 := Option.some.inj hF
      exact W.aret (v := va_rf q4) hx hb hr (Or.inl ⟨_, rfl⟩) (va_rf_or _) (fun t ht hW => ⟨⟨q4, (), rfl, ⟨e1, by rw [← e1]; exact hq4⟩, by rw [ht]; exact hP, va_K.moved hW.alike hK, hD⟩, hS.F ht⟩) hS.2.2 dX3_at_22

set_option maxHeartbeats 8000000 in
set_option maxRecDepth 100000 in
theorem zX3_remove_2 (l : Launch) (D : va_G) (x : Nat → Nat) (cy : Nat → ClassId) (g : Nat → Nat → Option Nat) (L : List Nat) (K : Nat → Nat) (cf : Nat → Nat → Nat) (nm : Nat → Int32) (hG : GO L K g) (hL : PL L K cf) (S0 : CS) (hT : WT L K S0.2) (sz : Nat) (ar1 : Nat) (mar1 : ar1 ∈ L ∧ K ar1 = 6) (Sf : CS) (hF : gX3_remove_2 g cf nm S0 ar1 = some Sf) : Met l yX3_remove wsX3_remove ({ frames := 0, cells := 0, slots := 0, locals := 0 }) (PW D (TYS cy) (ZW x cy g S0 ++ va_pl L (pf cy K cf nm S0)) sz [.ref (x 12), .ref ar1]) (va_Qv (fun (u : Unit) => WT L K Sf.2) (BU D (TYS cy) (ZW x cy g S0 ++ va_pl L (pf cy K cf nm S0)) (fun _ => ZW x cy g Sf ++ va_pl L (pf cy K cf nm Sf)) sz) (va_A (ZW x cy g S0 ++ va_pl L (pf cy K cf nm S0)) sz)) 0 0 (va_A (ZW x cy g S0 ++ va_pl L (pf cy K cf nm S0)) sz) := by
  refine Met.ofW (cc := cX3_remove) (maxL := 4) (ret := none) (by decide) rfl ?_
  intro p e s m args below meth c s₁ B hml hv
  obtain ⟨rfl, hsz, hP, hK, hD0⟩ := hv
  have hx := B.exec
  have hb := B.bytes
  have hr := B.returns
  have hts := atoms_spec (ws := wsX3_remove) B.pre
  have hown : s.vm.findClass RX3 = some m.cls := findClass_of_methodNamed B.named
  have hlocks := B.notSynchronized
  subst hsz
  have hD := hD0.self (sz := s.heap.size)
  have hA : ∀ q9 : Nat, s.heap.size ≤ q9 → va_A (ZW x cy g S0 ++ va_pl L (pf cy K cf nm S0)) s.heap.size q9 := fun q9 h => Or.inr h
  have hS : va_S (va_A (ZW x cy g S0 ++ va_pl L (pf cy K cf nm S0)) s.heap.size) s.heap s.heap [] := va_S.rf
  have key4 : ∀ (KK : Int32 → CS → Option (CS)), (∀ (v2 : Int32) (S : CS) (H : Heap) (locs : List Loc) (ls : Array Slot), KK v2 S = some Sf → WT L K S.2 → va_P D vwCl (ZW x cy g S ++ va_pl L (pf cy K cf nm S)) H → va_D (va_A (ZW x cy g S0 ++ va_pl L (pf cy K cf nm S0)) s.heap.size) (ZW x cy g S ++ va_pl L (pf cy K cf nm S)) → va_S (va_A (ZW x cy g S0 ++ va_pl L (pf cy K cf nm S0)) s.heap.size) s.heap H locs → lv_has ls 4 [(2, .int v2), (0, .ref (x 12))] → W p l e (headSpec wsX3_remove ({ frames := 0, cells := 0, slots := 0, locals := 0 })).room s m #[.ref (x 12), .ref ar1] below meth c H locs 0 0 (MQ below (va_Qv (fun (u : Unit) => WT L K Sf.2) (BU D (TYS cy) (ZW x cy g S0 ++ va_pl L (pf cy K cf nm S0)) (fun _ => ZW x cy g Sf ++ va_pl L (pf cy K cf nm Sf)) s.heap.size) (va_A (ZW x cy g S0 ++ va_pl L (pf cy K cf nm S0)) s.heap.size)) #[.ref (x 12), .ref ar1] s 0 0 (va_A (ZW x cy g S0 ++ va_pl L (pf cy K cf nm S0)) s.heap.size)) (F0 m 43 ls [])) → ∀ (fu : Nat) (v1 : Nat) (v2 : Int32) (v3 : Int32) (S : CS) (H : Heap) (locs : List Loc) (ls : Array Slot), gX3_remove_2_4 g cf nm KK fu v1 v2 v3 S = some Sf → WT L K S.2 → (v1 ∈ L ∧ K v1 = 6) → va_P D vwCl (ZW x cy g S ++ va_pl L (pf cy K cf nm S)) H → va_D (va_A (ZW x cy g S0 ++ va_pl L (pf cy K cf nm S0)) s.heap.size) (ZW x cy g S ++ va_pl L (pf cy K cf nm S)) → va_S (va_A (ZW x cy g S0 ++ va_pl L (pf cy K cf nm S0)) s.heap.size) s.heap H locs → lv_has ls 4 [(1, .ref v1), (2, .int v2), (3, .int v3), (0, .ref (x 12))] → W p l e (headSpec wsX3_remove ({ frames := 0, cells := 0, slots := 0, locals := 0 })).room s m #[.ref (x 12), .ref ar1] below meth c H locs 0 0 (MQ below (va_Qv (fun (u : Unit) => WT L K Sf.2) (BU D (TYS cy) (ZW x cy g S0 ++ va_pl L (pf cy K cf nm S0)) (fun _ => ZW x cy g Sf ++ va_pl L (pf cy K cf nm Sf)) s.heap.size) (va_A (ZW x cy g S0 ++ va_pl L (pf cy K cf nm S0)) s.heap.size)) #[.ref (x 12), .ref ar1] s 0 0 (va_A (ZW x cy g S0 ++ va_pl L (pf cy K cf nm S0)) s.heap.size)) (F0 m 4 ls []) := by
    intro KK hKK fu
    induction fu with
    | zero =>
      intro v1 v2 v3 S H locs ls hF
      exact absurd (show (none : Option (CS)) = some Sf from hF) (by simp)
    | succ fu4 ih4 =>
      intro v1 v2 v3 S H locs ls hF hT mv1 hP hD hS hl
      rw [gX3_remove_2_4] at hF
      refine lv_iload_n hx hb dX3_remove_4 rfl (lv_at hl 2 rfl) ?_
      refine lv_aload_n hx hb dX3_remove_5 rfl (lv_at hl 3 rfl) ?_
      refine va_get (D := D) (ci := 3) (v := .int (S.1 200 13)) (C := RX3) (T := TX3) (N := 2) hx hb hts iX3_remove_3 hown hK hP 12 rfl rfl 1 (by decide) (hts (.fieldLink RX3 17 "FondsRoom$Line" "size" "I") (List.mem_of_getElem? (i := 1) rfl)) (fun _ h9 => h9) rfl dX3_remove_6 ?_
      refine lv_icmp_ge (tgt := 43) hx hb dX3_remove_9 (by decide) (fun c1 => ?_) (fun c1 => ?_)
      · skip
        have hF := (if_pos c1).symm.trans hF
        exact hKK v2 S _ _ _ hF hT hP hD hS (lv_sub hl [1, 3] rfl)
      · skip
        have hF := (if_neg c1).symm.trans hF
        refine lv_aload_n hx hb dX3_remove_12 rfl (lv_at hl 3 rfl) ?_
        refine va_get (D := D) (ci := 3) (v := .ref (x 13)) (C := RX3) (T := TX3) (N := 2) hx hb hts iX3_remove_3 hown hK hP 12 rfl rfl 0 (by decide) (hts (.fieldLink RX3 11 "FondsRoom$Line" "places" "[LFondsRoom$Reader;") (List.mem_of_getElem? (i := 2) rfl)) (fun _ h9 => h9) rfl dX3_remove_13 ?_
        refine lv_iload_n hx hb dX3_remove_16 rfl (lv_at hl 2 rfl) ?_
        obtain ⟨hi2, hF⟩ := lq_s hF
        refine va_aldq hx hb hK hP 13 4 rfl rfl hi2 dX3_remove_17 ?_
        obtain ⟨q3, eq3⟩ : ∃ z, z = S.2 207 (v3 : Int32).toNatClampNeg := ⟨_, rfl⟩
        replace hF := hF q3 eq3
        have hq3 : rok L K 6 q3 := by rw [eq3]; exact hT 207 _
        refine lv_tov (v' := va_rf q3) (by rw [eq3]) ?_
        refine lv_aload_n hx hb dX3_remove_18 rfl (lv_at hl 0 rfl) ?_
        refine lv_acmp_eq (rx := q3) (ry := (some v1)) (tgt := 37) hx hb dX3_remove_19 (by decide) (fun c4 => ?_) (fun c4 => ?_)
        · skip
          have hF := (if_pos c4).symm.trans hF
          refine lv_iinc (v := v3 + 1) (lv' := [(3, .int (v3 + 1)), (1, .ref v1), (2, .int v2), (0, .ref (x 12))]) hx hb dX3_remove_37 hl (k := 2) rfl rfl (by decide) rfl (fun ls hl => ?_)
          refine lv_goto (tgt := 4) hx hb dX3_remove_40 (by decide) ?_
          exact ih4 v1 v2 (v3 + 1) S _ _ _ hF hT ⟨mv1.1, mv1.2⟩ hP hD hS (lv_sub hl [1, 2, 0, 3] rfl)
        · skip
          have hF := (if_neg c4).symm.trans hF
          refine lv_aload_n hx hb dX3_remove_22 rfl (lv_at hl 3 rfl) ?_
          refine va_get (D := D) (ci := 3) (v := .ref (x 13)) (C := RX3) (T := TX3) (N := 2) hx hb hts iX3_remove_3 hown hK hP 12 rfl rfl 0 (by decide) (hts (.fieldLink RX3 11 "FondsRoom$Line" "places" "[LFondsRoom$Reader;") (List.mem_of_getElem? (i := 2) rfl)) (fun _ h9 => h9) rfl dX3_remove_23 ?_
          refine lv_iload_n hx hb dX3_remove_26 rfl (lv_at hl 1 rfl) ?_
          refine lv_aload_n hx hb dX3_remove_27 rfl (lv_at hl 3 rfl) ?_
          refine va_get (D := D) (ci := 3) (v := .ref (x 13)) (C := RX3) (T := TX3) (N := 2) hx hb hts iX3_remove_3 hown hK hP 12 rfl rfl 0 (by decide) (hts (.fieldLink RX3 11 "FondsRoom$Line" "places" "[LFondsRoom$Reader;") (List.mem_of_getElem? (i := 2) rfl)) (fun _ h9 => h9) rfl dX3_remove_28 ?_
          refine lv_iload_n hx hb dX3_remove_31 rfl (lv_at hl 2 rfl) ?_
          obtain ⟨hi5, hF⟩ := lq_s hF
          refine va_aldq hx hb hK hP 13 4 rfl rfl hi5 dX3_remove_32 ?_
          obtain ⟨q6, eq6⟩ : ∃ z, z = S.2 207 (v3 : Int32).toNatClampNeg := ⟨_, rfl⟩
          replace hF := hF q6 eq6
          have hq6 : rok L K 6 q6 := by rw [eq6]; exact hT 207 _
          refine lv_tov (v' := va_rf q6) (by rw [eq6]) ?_
          obtain ⟨b7, eb7, hF9⟩ := sm_s hF
          clear hF
          have hF := hF9
          clear hF9
          subst eb7
          have mb7 := hq6 b7 rfl
          have hl : lv_has ls 4 [(1, .ref v1), (2, .int v2), (3, .int v3), (0, .ref (x 12))] := hl
          refine W.eq (g2 := F0 m 33 ls [.ref b7, .int v2, .ref (x 13)]) rfl ?_
          obtain ⟨hi8, hF⟩ := sq_s hF
          obtain ⟨qk9, hqk9⟩ := va_pl_get (X := ZW x cy g S) (f := pf cy K cf nm S) mb7.1
          rw [pf_6 mb7.2] at hqk9
          refine va_astq hx hb hK hP hD hS 13 4 qk9 6 rfl rfl hqk9 rfl hi8 dX3_remove_33 (fun H locs hP hD hS => ?_)
          obtain ⟨S10, eS10⟩ : ∃ z, z = wq S 207 (v2 : Int32).toNatClampNeg (some b7) := ⟨_, rfl⟩
          replace hF := hF S10 eS10
          have hP : va_P D vwCl (ZW x cy g S10 ++ va_pl L (pf cy K cf nm S10)) H := by rw [eS10]; rw [show pf cy K cf nm (wq S 207 (v2 : Int32).toNatClampNeg (some b7)) = pf cy K cf nm S from pf_207]; exact hP
          have hD : va_D (va_A (ZW x cy g S0 ++ va_pl L (pf cy K cf nm S0)) s.heap.size) (ZW x cy g S10 ++ va_pl L (pf cy K cf nm S10)) := by rw [eS10]; rw [show pf cy K cf nm (wq S 207 (v2 : Int32).toNatClampNeg (some b7)) = pf cy K cf nm S from pf_207]; exact hD
          have hT : WT L K S10.2 := by rw [eS10]; exact WT_up hT 207 _ (rok_some mb7.1 mb7.2)
          refine lv_iinc (v := v2 + 1) (lv' := [(2, .int (v2 + 1)), (1, .ref v1), (3, .int v3), (0, .ref (x 12))]) hx hb dX3_remove_34 hl (k := 1) rfl rfl (by decide) rfl (fun ls hl => ?_)
          refine lv_iinc (v := v3 + 1) (lv' := [(3, .int (v3 + 1)), (2, .int (v2 + 1)), (1, .ref v1), (0, .ref (x 12))]) hx hb dX3_remove_37 hl (k := 2) rfl rfl (by decide) rfl (fun ls hl => ?_)
          refine lv_goto (tgt := 4) hx hb dX3_remove_40 (by decide) ?_
          exact ih4 v1 (v2 + 1) (v3 + 1) S10 _ _ _ hF hT ⟨mv1.1, mv1.2⟩ hP hD hS (lv_sub hl [2, 1, 0, 3] rfl)
  have hl := lv_entry ([.ref (x 12), .ref ar1]) (n := 4) (Nat.le_of_ble_eq_true rfl)
  rw [lg_entry_eq]
  generalize (lg_sl ([.ref (x 12), .ref ar1]) ++ List.replicate (4 - (lg_sl ([.ref (x 12), .ref ar1])).length) Slot.unset).toArray = ls at hl ⊢
  have hl : lv_has ls 4 [(0, .ref (x 12)), (1, .ref ar1)] := hl
  unfold gX3_remove_2 at hF
  refine lv_iconst (v := 0) hx hb dX3_remove_0 (by decide) ?_
  refine lv_istore_n (lv' := [(2, .int 0), (0, .ref (x 12)), (1, .ref ar1)]) hx hb dX3_remove_1 rfl hl (by decide) rfl (fun ls hl => ?_)
  refine lv_iconst (v := 0) hx hb dX3_remove_2 (by decide) ?_
  refine lv_istore_n (lv' := [(3, .int 0), (2, .int 0), (0, .ref (x 12)), (1, .ref ar1)]) hx hb dX3_remove_3 rfl hl (by decide) rfl (fun ls hl => ?_)
  refine key4 _ ?_ 1000 ar1 0 0 S0 _ _ _ hF hT ⟨mar1.1, mar1.2⟩ hP hD hS (lv_sub hl [3, 1, 0, 2] rfl)
  intro v2_11 S12 H locs ls hF hT hP hD hS hl
  refine lv_aload_n hx hb dX3_remove_43 rfl (lv_at hl 1 rfl) ?_
  refine lv_iload_n hx hb dX3_remove_44 rfl (lv_at hl 0 rfl) ?_
  refine va_put (D := D) (ci := 3) (v := .int v2_11) (ty := .int) (C := RX3) (T := TX3) (N := 2) hx hb hts iX3_remove_3 tyX3 tyX3_ok nmX3 hown hK hP hD hS 12 rfl rfl 1 (by decide) (hts (.fieldLink RX3 17 "FondsRoom$Line" "size" "I") (List.mem_of_getElem? (i := 1) rfl)) (fun _ h9 => h9) rfl (by decide +kernel) rfl rfl (Nat.le_of_ble_eq_true rfl) dX3_remove_45 (fun H locs hP hD hS => ?_)
  obtain ⟨S13, eS13⟩ : ∃ z, z = wi S12 200 13 v2_11 := ⟨_, rfl⟩
  replace hF := bnd_s hF S13 eS13
  have hP : va_P D vwCl (ZW x cy g S13 ++ va_pl L (pf cy K cf nm S13)) H := by rw [eS13]; rw [show pf cy K cf nm (wi S12 200 13 v2_11) = pf cy K cf nm S12 from pf_200]; exact hP
  have hD : va_D (va_A (ZW x cy g S0 ++ va_pl L (pf cy K cf nm S0)) s.heap.size) (ZW x cy g S13 ++ va_pl L (pf cy K cf nm S13)) := by rw [eS13]; rw [show pf cy K cf nm (wi S12 200 13 v2_11) = pf cy K cf nm S12 from pf_200]; exact hD
  have hT : WT L K S13.2 := by rw [eS13]; exact hT
  have e2 := Option.some.inj hF
  have hP : va_P D vwCl (ZW x cy g Sf ++ va_pl L (pf cy K cf nm Sf)) H := by rw [← e2]; exact hP
  have hD : va_D (va_A (ZW x cy g S0 ++ va_pl L (pf cy K cf nm S0)) s.heap.size) (ZW x cy g Sf ++ va_pl L (pf cy K cf nm Sf)) := by rw [← e2]; exact hD
  have hT : WT L K Sf.2 := by rw [← e2]; exact hT
  exact W.vret hx hb hr (fun t ht hW => ⟨⟨(), rfl, hT, by rw [ht]; exact hP, va_K.moved hW.alike hK, hD⟩, hS.F ht⟩) hS.2.2 dX3_remove_48

set_option maxHeartbeats 8000000 in
set_option maxRecDepth 100000 in
theorem zX3_append_2 (l : Launch) (D : va_G) (x : Nat → Nat) (cy : Nat → ClassId) (g : Nat → Nat → Option Nat) (L : List Nat) (K : Nat → Nat) (cf : Nat → Nat → Nat) (nm : Nat → Int32) (hG : GO L K g) (hL : PL L K cf) (S0 : CS) (hT : WT L K S0.2) (sz : Nat) (ar1 : Nat) (mar1 : ar1 ∈ L ∧ K ar1 = 6) (Sf : CS) (hF : gX3_append_2 g cf nm S0 ar1 = some Sf) : Met l yX3_append wsX3_append ({ frames := 0, cells := 0, slots := 0, locals := 0 }) (PW D (TYS cy) (ZW x cy g S0 ++ va_pl L (pf cy K cf nm S0)) sz [.ref (x 12), .ref ar1]) (va_Qv (fun (u : Unit) => WT L K Sf.2) (BU D (TYS cy) (ZW x cy g S0 ++ va_pl L (pf cy K cf nm S0)) (fun _ => ZW x cy g Sf ++ va_pl L (pf cy K cf nm Sf)) sz) (va_A (ZW x cy g S0 ++ va_pl L (pf cy K cf nm S0)) sz)) 0 0 (va_A (ZW x cy g S0 ++ va_pl L (pf cy K cf nm S0)) sz) := by
  refine Met.ofW (cc := cX3_append) (maxL := 2) (ret := none) (by decide) rfl ?_
  intro p e s m args below meth c s₁ B hml hv
  obtain ⟨rfl, hsz, hP, hK, hD0⟩ := hv
  have hx := B.exec
  have hb := B.bytes
  have hr := B.returns
  have hts := atoms_spec (ws := wsX3_append) B.pre
  have hown : s.vm.findClass RX3 = some m.cls := findClass_of_methodNamed B.named
  have hlocks := B.notSynchronized
  subst hsz
  have hD := hD0.self (sz := s.heap.size)
  have hA : ∀ q9 : Nat, s.heap.size ≤ q9 → va_A (ZW x cy g S0 ++ va_pl L (pf cy K cf nm S0)) s.heap.size q9 := fun q9 h => Or.inr h
  have hS : va_S (va_A (ZW x cy g S0 ++ va_pl L (pf cy K cf nm S0)) s.heap.size) s.heap s.heap [] := va_S.rf
  have hl := lv_entry ([.ref (x 12), .ref ar1]) (n := 2) (Nat.le_of_ble_eq_true rfl)
  rw [lg_entry_eq]
  generalize (lg_sl ([.ref (x 12), .ref ar1]) ++ List.replicate (2 - (lg_sl ([.ref (x 12), .ref ar1])).length) Slot.unset).toArray = ls at hl ⊢
  have hl : lv_has ls 2 [(0, .ref (x 12)), (1, .ref ar1)] := hl
  unfold gX3_append_2 at hF
  refine lv_aload_n hx hb dX3_append_0 rfl (lv_at hl 0 rfl) ?_
  refine va_get (D := D) (ci := 3) (v := .int (S0.1 200 13)) (C := RX3) (T := TX3) (N := 2) hx hb hts iX3_append_3 hown hK hP 12 rfl rfl 1 (by decide) (hts (.fieldLink RX3 17 "FondsRoom$Line" "size" "I") (List.mem_of_getElem? (i := 1) rfl)) (fun _ h9 => h9) rfl dX3_append_1 ?_
  refine lv_bipush (v := 20) hx hb dX3_append_4 (by decide) ?_
  refine lv_icmp_ge (tgt := 29) hx hb dX3_append_6 (by decide) (fun c1 => ?_) (fun c1 => ?_)
  · skip
    have hF := (if_pos c1).symm.trans hF
    have e2 := Option.some.inj hF
    have hP : va_P D vwCl (ZW x cy g Sf ++ va_pl L (pf cy K cf nm Sf)) s.heap := by rw [← e2]; exact hP
    have hD : va_D (va_A (ZW x cy g S0 ++ va_pl L (pf cy K cf nm S0)) s.heap.size) (ZW x cy g Sf ++ va_pl L (pf cy K cf nm Sf)) := by rw [← e2]; exact hD
    have hT : WT L K Sf.2 := by rw [← e2]; exact hT
    exact W.vret hx hb hr (fun t ht hW => ⟨⟨(), rfl, hT, by rw [ht]; exact hP, va_K.moved hW.alike hK, hD⟩, hS.F ht⟩) hS.2.2 dX3_append_29
  · skip
    have hF := (if_neg c1).symm.trans hF
    refine lv_aload_n hx hb dX3_append_9 rfl (lv_at hl 0 rfl) ?_
    refine va_get (D := D) (ci := 3) (v := .ref (x 13)) (C := RX3) (T := TX3) (N := 2) hx hb hts iX3_append_3 hown hK hP 12 rfl rfl 0 (by decide) (hts (.fieldLink RX3 11 "FondsRoom$Line" "places" "[LFondsRoom$Reader;") (List.mem_of_getElem? (i := 2) rfl)) (fun _ h9 => h9) rfl dX3_append_10 ?_
    refine lv_aload_n hx hb dX3_append_13 rfl (lv_at hl 0 rfl) ?_
    refine va_get (D := D) (ci := 3) (v := .int (S0.1 200 13)) (C := RX3) (T := TX3) (N := 2) hx hb hts iX3_append_3 hown hK hP 12 rfl rfl 1 (by decide) (hts (.fieldLink RX3 17 "FondsRoom$Line" "size" "I") (List.mem_of_getElem? (i := 1) rfl)) (fun _ h9 => h9) rfl dX3_append_14 ?_
    refine lv_aload_n hx hb dX3_append_17 rfl (lv_at hl 1 rfl) ?_
    obtain ⟨hi2, hF⟩ := sq_s hF
    obtain ⟨qk3, hqk3⟩ := va_pl_get (X := ZW x cy g S0) (f := pf cy K cf nm S0) mar1.1
    rw [pf_6 mar1.2] at hqk3
    refine va_astq hx hb hK hP hD hS 13 4 qk3 6 rfl rfl hqk3 rfl hi2 dX3_append_18 (fun H locs hP hD hS => ?_)
    obtain ⟨S4, eS4⟩ : ∃ z, z = wq S0 207 ((S0.1 200 13) : Int32).toNatClampNeg (some ar1) := ⟨_, rfl⟩
    replace hF := hF S4 eS4
    have hP : va_P D vwCl (ZW x cy g S4 ++ va_pl L (pf cy K cf nm S4)) H := by rw [eS4]; rw [show pf cy K cf nm (wq S0 207 ((S0.1 200 13) : Int32).toNatClampNeg (some ar1)) = pf cy K cf nm S0 from pf_207]; exact hP
    have hD : va_D (va_A (ZW x cy g S0 ++ va_pl L (pf cy K cf nm S0)) s.heap.size) (ZW x cy g S4 ++ va_pl L (pf cy K cf nm S4)) := by rw [eS4]; rw [show pf cy K cf nm (wq S0 207 ((S0.1 200 13) : Int32).toNatClampNeg (some ar1)) = pf cy K cf nm S0 from pf_207]; exact hD
    have hT : WT L K S4.2 := by rw [eS4]; exact WT_up hT 207 _ (rok_some mar1.1 mar1.2)
    refine lv_aload_n hx hb dX3_append_19 rfl (lv_at hl 0 rfl) ?_
    refine lv_dup hx hb dX3_append_20 rfl ?_
    refine va_get (D := D) (ci := 3) (v := .int (S4.1 200 13)) (C := RX3) (T := TX3) (N := 2) hx hb hts iX3_append_3 hown hK hP 12 rfl rfl 1 (by decide) (hts (.fieldLink RX3 17 "FondsRoom$Line" "size" "I") (List.mem_of_getElem? (i := 1) rfl)) (fun _ h9 => h9) rfl dX3_append_21 ?_
    refine lv_iconst (v := 1) hx hb dX3_append_24 (by decide) ?_
    refine lv_iadd hx hb dX3_append_25 ?_
    refine va_put (D := D) (ci := 3) (v := .int ((S4.1 200 13) + 1)) (ty := .int) (C := RX3) (T := TX3) (N := 2) hx hb hts iX3_append_3 tyX3 tyX3_ok nmX3 hown hK hP hD hS 12 rfl rfl 1 (by decide) (hts (.fieldLink RX3 17 "FondsRoom$Line" "size" "I") (List.mem_of_getElem? (i := 1) rfl)) (fun _ h9 => h9) rfl (by decide +kernel) rfl rfl (Nat.le_of_ble_eq_true rfl) dX3_append_26 (fun H locs hP hD hS => ?_)
    obtain ⟨S5, eS5⟩ : ∃ z, z = wi S4 200 13 ((S4.1 200 13) + 1) := ⟨_, rfl⟩
    replace hF := bnd_s hF S5 eS5
    have hP : va_P D vwCl (ZW x cy g S5 ++ va_pl L (pf cy K cf nm S5)) H := by rw [eS5]; rw [show pf cy K cf nm (wi S4 200 13 ((S4.1 200 13) + 1)) = pf cy K cf nm S4 from pf_200]; exact hP
    have hD : va_D (va_A (ZW x cy g S0 ++ va_pl L (pf cy K cf nm S0)) s.heap.size) (ZW x cy g S5 ++ va_pl L (pf cy K cf nm S5)) := by rw [eS5]; rw [show pf cy K cf nm (wi S4 200 13 ((S4.1 200 13) + 1)) = pf cy K cf nm S4 from pf_200]; exact hD
    have hT : WT L K S5.2 := by rw [eS5]; exact hT
    have e2 := Option.some.inj hF
    have hP : va_P D vwCl (ZW x cy g Sf ++ va_pl L (pf cy K cf nm Sf)) H := by rw [← e2]; exact hP
    have hD : va_D (va_A (ZW x cy g S0 ++ va_pl L (pf cy K cf nm S0)) s.heap.size) (ZW x cy g Sf ++ va_pl L (pf cy K cf nm Sf)) := by rw [← e2]; exact hD
    have hT : WT L K Sf.2 := by rw [← e2]; exact hT
    exact W.vret hx hb hr (fun t ht hW => ⟨⟨(), rfl, hT, by rw [ht]; exact hP, va_K.moved hW.alike hK, hD⟩, hS.F ht⟩) hS.2.2 dX3_append_29

theorem iX3_insertByRank_3 : ∀ w ∈ wsX30, w ∈ wsX3_insertByRank := fun _ h => List.mem_cons_of_mem _ (List.mem_append_left _ (List.mem_append_right _ h))
set_option maxHeartbeats 8000000 in
set_option maxRecDepth 100000 in
theorem zX3_insertByRank (l : Launch) (D : va_G) (x : Nat → Nat) (cy : Nat → ClassId) (g : Nat → Nat → Option Nat) (L : List Nat) (K : Nat → Nat) (cf : Nat → Nat → Nat) (nm : Nat → Int32) (hG : GO L K g) (hL : PL L K cf) (S0 : CS) (hT : WT L K S0.2) (sz : Nat) (ar1 : Nat) (mar1 : ar1 ∈ L ∧ K ar1 = 6) (Sf : CS) (hF : gX3_insertByRank g cf nm S0 ar1 = some Sf) : Met l yX3_insertByRank wsX3_insertByRank ({ frames := 1, cells := 0, slots := 0, locals := 21 }) (PW D (TYS cy) (ZW x cy g S0 ++ va_pl L (pf cy K cf nm S0)) sz [.ref (x 8), .ref ar1]) (va_Qv (fun (u : Unit) => WT L K Sf.2) (BU D (TYS cy) (ZW x cy g S0 ++ va_pl L (pf cy K cf nm S0)) (fun _ => ZW x cy g Sf ++ va_pl L (pf cy K cf nm Sf)) sz) (va_A (ZW x cy g S0 ++ va_pl L (pf cy K cf nm S0)) sz)) 0 0 (va_A (ZW x cy g S0 ++ va_pl L (pf cy K cf nm S0)) sz) := by
  refine Met.ofW (cc := cX3_insertByRank) (maxL := 3) (ret := none) (by decide) rfl ?_
  intro p e s m args below meth c s₁ B hml hv
  obtain ⟨rfl, hsz, hP, hK, hD0⟩ := hv
  have hx := B.exec
  have hb := B.bytes
  have hr := B.returns
  have hts := atoms_spec (ws := wsX3_insertByRank) B.pre
  have hown : s.vm.findClass RX3 = some m.cls := findClass_of_methodNamed B.named
  have hlocks := B.notSynchronized
  subst hsz
  have hD := hD0.self (sz := s.heap.size)
  have hA : ∀ q9 : Nat, s.heap.size ≤ q9 → va_A (ZW x cy g S0 ++ va_pl L (pf cy K cf nm S0)) s.heap.size q9 := fun q9 h => Or.inr h
  have hS : va_S (va_A (ZW x cy g S0 ++ va_pl L (pf cy K cf nm S0)) s.heap.size) s.heap s.heap [] := va_S.rf
  have key15 : ∀ (KK : Nat → Int32 → CS → Option (CS)), (∀ (v1 : Nat) (v2 : Int32) (S : CS) (H : Heap) (locs : List Loc) (ls : Array Slot), KK v1 v2 S = some Sf → WT L K S.2 → (v1 ∈ L ∧ K v1 = 6) → va_P D vwCl (ZW x cy g S ++ va_pl L (pf cy K cf nm S)) H → va_D (va_A (ZW x cy g S0 ++ va_pl L (pf cy K cf nm S0)) s.heap.size) (ZW x cy g S ++ va_pl L (pf cy K cf nm S)) → va_S (va_A (ZW x cy g S0 ++ va_pl L (pf cy K cf nm S0)) s.heap.size) s.heap H locs → lv_has ls 3 [(1, .ref v1), (2, .int v2), (0, .ref (x 8))] → W p l e (headSpec wsX3_insertByRank ({ frames := 1, cells := 0, slots := 0, locals := 21 })).room s m #[.ref (x 8), .ref ar1] below meth c H locs 0 0 (MQ below (va_Qv (fun (u : Unit) => WT L K Sf.2) (BU D (TYS cy) (ZW x cy g S0 ++ va_pl L (pf cy K cf nm S0)) (fun _ => ZW x cy g Sf ++ va_pl L (pf cy K cf nm Sf)) s.heap.size) (va_A (ZW x cy g S0 ++ va_pl L (pf cy K cf nm S0)) s.heap.size)) #[.ref (x 8), .ref ar1] s 0 0 (va_A (ZW x cy g S0 ++ va_pl L (pf cy K cf nm S0)) s.heap.size)) (F0 m 54 ls [])) → ∀ (fu : Nat) (v1 : Nat) (v2 : Int32) (S : CS) (H : Heap) (locs : List Loc) (ls : Array Slot), gX3_insertByRank_15 g cf nm KK fu v1 v2 S = some Sf → WT L K S.2 → (v1 ∈ L ∧ K v1 = 6) → va_P D vwCl (ZW x cy g S ++ va_pl L (pf cy K cf nm S)) H → va_D (va_A (ZW x cy g S0 ++ va_pl L (pf cy K cf nm S0)) s.heap.size) (ZW x cy g S ++ va_pl L (pf cy K cf nm S)) → va_S (va_A (ZW x cy g S0 ++ va_pl L (pf cy K cf nm S0)) s.heap.size) s.heap H locs → lv_has ls 3 [(1, .ref v1), (2, .int v2), (0, .ref (x 8))] → W p l e (headSpec wsX3_insertByRank ({ frames := 1, cells := 0, slots := 0, locals := 21 })).room s m #[.ref (x 8), .ref ar1] below meth c H locs 0 0 (MQ below (va_Qv (fun (u : Unit) => WT L K Sf.2) (BU D (TYS cy) (ZW x cy g S0 ++ va_pl L (pf cy K cf nm S0)) (fun _ => ZW x cy g Sf ++ va_pl L (pf cy K cf nm Sf)) s.heap.size) (va_A (ZW x cy g S0 ++ va_pl L (pf cy K cf nm S0)) s.heap.size)) #[.ref (x 8), .ref ar1] s 0 0 (va_A (ZW x cy g S0 ++ va_pl L (pf cy K cf nm S0)) s.heap.size)) (F0 m 15 ls []) := by
    intro KK hKK fu
    induction fu with
    | zero =>
      intro v1 v2 S H locs ls hF
      exact absurd (show (none : Option (CS)) = some Sf from hF) (by simp)
    | succ fu15 ih15 =>
      intro v1 v2 S H locs ls hF hT mv1 hP hD hS hl
      rw [gX3_insertByRank_15] at hF
      refine lv_iload_n hx hb dX3_insertByRank_15 rfl (lv_at hl 1 rfl) ?_
      refine lv_if_le (tgt := 54) hx hb dX3_insertByRank_16 (by decide) (fun c2 => ?_) (fun c2 => ?_)
      · skip
        have hF := (if_pos c2).symm.trans hF
        exact hKK v1 v2 S _ _ _ hF hT ⟨mv1.1, mv1.2⟩ hP hD hS (lv_sub hl [0, 1, 2] rfl)
      · skip
        have hF := (if_neg c2).symm.trans hF
        refine lv_aload_n hx hb dX3_insertByRank_19 rfl (lv_at hl 0 rfl) ?_
        refine lv_aload_n hx hb dX3_insertByRank_20 rfl (lv_at hl 2 rfl) ?_
        refine va_get (D := D) (ci := 3) (v := .ref (x 9)) (C := RX3) (T := TX3) (N := 2) hx hb hts iX3_insertByRank_3 hown hK hP 8 rfl rfl 0 (by decide) (hts (.fieldLink RX3 11 "FondsRoom$Line" "places" "[LFondsRoom$Reader;") (List.mem_of_getElem? (i := 2) rfl)) (fun _ h9 => h9) rfl dX3_insertByRank_21 ?_
        refine lv_iload_n hx hb dX3_insertByRank_24 rfl (lv_at hl 1 rfl) ?_
        refine lv_iconst (v := 1) hx hb dX3_insertByRank_25 (by decide) ?_
        refine lv_isub hx hb dX3_insertByRank_26 ?_
        obtain ⟨hi3, hF⟩ := lq_s hF
        refine va_aldq hx hb hK hP 9 4 rfl rfl hi3 dX3_insertByRank_27 ?_
        obtain ⟨q4, eq4⟩ : ∃ z, z = S.2 205 ((v2 - 1) : Int32).toNatClampNeg := ⟨_, rfl⟩
        replace hF := hF q4 eq4
        have hq4 : rok L K 6 q4 := by rw [eq4]; exact hT 205 _
        refine lv_tov (v' := va_rf q4) (by rw [eq4]) ?_
        obtain ⟨b5, eb5, hF9⟩ := sm_s hF
        clear hF
        have hF := hF9
        clear hF9
        subst eb5
        have mb5 := hq4 b5 rfl
        have hl : lv_has ls 3 [(1, .ref v1), (2, .int v2), (0, .ref (x 8))] := hl
        refine W.eq (g2 := F0 m 28 ls [.ref b5, .ref v1]) rfl ?_
        obtain ⟨r6, hq9, hF⟩ := bd1_s hF
        refine gvI (As := [.ref b5]) (rest := []) ⟨hx, hb, hml, hown, hts⟩ (zX6_isServedBefore l D x cy g L K cf nm hG hL S hT _ v1 b5 ⟨mv1.1, mv1.2⟩ ⟨mb5.1, mb5.2⟩ r6 hq9) (cwV 1 hts gX3_insertByRank_X6_isServedBefore rfl rfl rfl (by decide +kernel) ⟨Nat.le_of_ble_eq_true rfl, Nat.le_of_ble_eq_true rfl⟩) hK hP hD hS hA (pl_recv hK hP (ci := 6) rfl mv1.1 (pf_6 mv1.2)) rfl hl.1 rfl (Nat.le_of_ble_eq_true rfl) dX3_insertByRank_28 ⟨Nat.le_of_ble_eq_true rfl, Nat.le_of_ble_eq_true rfl⟩ (fun a10 u9 H locs hw8 hP hD hS => ?_)
        have hP : va_P D vwCl (ZW x cy g S ++ va_pl L (pf cy K cf nm S)) H := hP
        have hD : va_D _ (ZW x cy g S ++ va_pl L (pf cy K cf nm S)) := hD
        refine lv_tov (v' := .int r6) (congrArg Value.int hw8.1) ?_
        refine lv_if_eq (tgt := 54) hx hb dX3_insertByRank_31 (by decide) (fun c11 => ?_) (fun c11 => ?_)
        · skip
          have hF := (if_pos c11).symm.trans hF
          exact hKK v1 v2 S _ _ _ hF hT ⟨mv1.1, mv1.2⟩ hP hD hS (lv_sub hl [0, 1, 2] rfl)
        · skip
          have hF := (if_neg c11).symm.trans hF
          refine lv_aload_n hx hb dX3_insertByRank_34 rfl (lv_at hl 2 rfl) ?_
          refine va_get (D := D) (ci := 3) (v := .ref (x 9)) (C := RX3) (T := TX3) (N := 2) hx hb hts iX3_insertByRank_3 hown hK hP 8 rfl rfl 0 (by decide) (hts (.fieldLink RX3 11 "FondsRoom$Line" "places" "[LFondsRoom$Reader;") (List.mem_of_getElem? (i := 2) rfl)) (fun _ h9 => h9) rfl dX3_insertByRank_35 ?_
          refine lv_iload_n hx hb dX3_insertByRank_38 rfl (lv_at hl 1 rfl) ?_
          refine lv_aload_n hx hb dX3_insertByRank_39 rfl (lv_at hl 2 rfl) ?_
          refine va_get (D := D) (ci := 3) (v := .ref (x 9)) (C := RX3) (T := TX3) (N := 2) hx hb hts iX3_insertByRank_3 hown hK hP 8 rfl rfl 0 (by decide) (hts (.fieldLink RX3 11 "FondsRoom$Line" "places" "[LFondsRoom$Reader;") (List.mem_of_getElem? (i := 2) rfl)) (fun _ h9 => h9) rfl dX3_insertByRank_40 ?_
          refine lv_iload_n hx hb dX3_insertByRank_43 rfl (lv_at hl 1 rfl) ?_
          refine lv_iconst (v := 1) hx hb dX3_insertByRank_44 (by decide) ?_
          refine lv_isub hx hb dX3_insertByRank_45 ?_
          obtain ⟨hi12, hF⟩ := lq_s hF
          refine va_aldq hx hb hK hP 9 4 rfl rfl hi12 dX3_insertByRank_46 ?_
          obtain ⟨q13, eq13⟩ : ∃ z, z = S.2 205 ((v2 - 1) : Int32).toNatClampNeg := ⟨_, rfl⟩
          replace hF := hF q13 eq13
          have hq13 : rok L K 6 q13 := by rw [eq13]; exact hT 205 _
          refine lv_tov (v' := va_rf q13) (by rw [eq13]) ?_
          obtain ⟨b14, eb14, hF9⟩ := sm_s hF
          clear hF
          have hF := hF9
          clear hF9
          subst eb14
          have mb14 := hq13 b14 rfl
          have hl : lv_has ls 3 [(1, .ref v1), (2, .int v2), (0, .ref (x 8))] := hl
          refine W.eq (g2 := F0 m 47 ls [.ref b14, .int v2, .ref (x 9)]) rfl ?_
          obtain ⟨hi15, hF⟩ := sq_s hF
          obtain ⟨qk16, hqk16⟩ := va_pl_get (X := ZW x cy g S) (f := pf cy K cf nm S) mb14.1
          rw [pf_6 mb14.2] at hqk16
          refine va_astq hx hb hK hP hD hS 9 4 qk16 6 rfl rfl hqk16 rfl hi15 dX3_insertByRank_47 (fun H locs hP hD hS => ?_)
          obtain ⟨S17, eS17⟩ : ∃ z, z = wq S 205 (v2 : Int32).toNatClampNeg (some b14) := ⟨_, rfl⟩
          replace hF := hF S17 eS17
          have hP : va_P D vwCl (ZW x cy g S17 ++ va_pl L (pf cy K cf nm S17)) H := by rw [eS17]; rw [show pf cy K cf nm (wq S 205 (v2 : Int32).toNatClampNeg (some b14)) = pf cy K cf nm S from pf_205]; exact hP
          have hD : va_D (va_A (ZW x cy g S0 ++ va_pl L (pf cy K cf nm S0)) s.heap.size) (ZW x cy g S17 ++ va_pl L (pf cy K cf nm S17)) := by rw [eS17]; rw [show pf cy K cf nm (wq S 205 (v2 : Int32).toNatClampNeg (some b14)) = pf cy K cf nm S from pf_205]; exact hD
          have hT : WT L K S17.2 := by rw [eS17]; exact WT_up hT 205 _ (rok_some mb14.1 mb14.2)
          refine lv_iinc (v := v2 + (-1)) (lv' := [(2, .int (v2 + (-1))), (1, .ref v1), (0, .ref (x 8))]) hx hb dX3_insertByRank_48 hl (k := 1) rfl rfl (by decide) rfl (fun ls hl => ?_)
          refine lv_goto (tgt := 15) hx hb dX3_insertByRank_51 (by decide) ?_
          exact ih15 v1 (v2 + (-1)) S17 _ _ _ hF hT ⟨mv1.1, mv1.2⟩ hP hD hS (lv_sub hl [1, 0, 2] rfl)
  have hl := lv_entry ([.ref (x 8), .ref ar1]) (n := 3) (Nat.le_of_ble_eq_true rfl)
  rw [lg_entry_eq]
  generalize (lg_sl ([.ref (x 8), .ref ar1]) ++ List.replicate (3 - (lg_sl ([.ref (x 8), .ref ar1])).length) Slot.unset).toArray = ls at hl ⊢
  have hl : lv_has ls 3 [(0, .ref (x 8)), (1, .ref ar1)] := hl
  unfold gX3_insertByRank at hF
  refine lv_aload_n hx hb dX3_insertByRank_0 rfl (lv_at hl 0 rfl) ?_
  refine va_get (D := D) (ci := 3) (v := .int (S0.1 200 11)) (C := RX3) (T := TX3) (N := 2) hx hb hts iX3_insertByRank_3 hown hK hP 8 rfl rfl 1 (by decide) (hts (.fieldLink RX3 17 "FondsRoom$Line" "size" "I") (List.mem_of_getElem? (i := 1) rfl)) (fun _ h9 => h9) rfl dX3_insertByRank_1 ?_
  refine lv_bipush (v := 20) hx hb dX3_insertByRank_4 (by decide) ?_
  refine lv_icmp_lt (tgt := 10) hx hb dX3_insertByRank_6 (by decide) (fun c1 => ?_) (fun c1 => ?_)
  · skip
    have hF := (if_pos c1).symm.trans hF
    refine lv_aload_n hx hb dX3_insertByRank_10 rfl (lv_at hl 0 rfl) ?_
    refine va_get (D := D) (ci := 3) (v := .int (S0.1 200 11)) (C := RX3) (T := TX3) (N := 2) hx hb hts iX3_insertByRank_3 hown hK hP 8 rfl rfl 1 (by decide) (hts (.fieldLink RX3 17 "FondsRoom$Line" "size" "I") (List.mem_of_getElem? (i := 1) rfl)) (fun _ h9 => h9) rfl dX3_insertByRank_11 ?_
    refine lv_istore_n (lv' := [(2, .int (S0.1 200 11)), (0, .ref (x 8)), (1, .ref ar1)]) hx hb dX3_insertByRank_14 rfl hl (by decide) rfl (fun ls hl => ?_)
    refine key15 _ ?_ 1000 ar1 (S0.1 200 11) S0 _ _ _ hF hT ⟨mar1.1, mar1.2⟩ hP hD hS (lv_sub hl [2, 0, 1] rfl)
    intro v1_18 v2_19 S20 H locs ls hF hT mv1_18 hP hD hS hl
    refine lv_aload_n hx hb dX3_insertByRank_54 rfl (lv_at hl 2 rfl) ?_
    refine va_get (D := D) (ci := 3) (v := .ref (x 9)) (C := RX3) (T := TX3) (N := 2) hx hb hts iX3_insertByRank_3 hown hK hP 8 rfl rfl 0 (by decide) (hts (.fieldLink RX3 11 "FondsRoom$Line" "places" "[LFondsRoom$Reader;") (List.mem_of_getElem? (i := 2) rfl)) (fun _ h9 => h9) rfl dX3_insertByRank_55 ?_
    refine lv_iload_n hx hb dX3_insertByRank_58 rfl (lv_at hl 1 rfl) ?_
    refine lv_aload_n hx hb dX3_insertByRank_59 rfl (lv_at hl 0 rfl) ?_
    obtain ⟨hi21, hF⟩ := sq_s hF
    obtain ⟨qk22, hqk22⟩ := va_pl_get (X := ZW x cy g S20) (f := pf cy K cf nm S20) mv1_18.1
    rw [pf_6 mv1_18.2] at hqk22
    refine va_astq hx hb hK hP hD hS 9 4 qk22 6 rfl rfl hqk22 rfl hi21 dX3_insertByRank_60 (fun H locs hP hD hS => ?_)
    obtain ⟨S23, eS23⟩ : ∃ z, z = wq S20 205 (v2_19 : Int32).toNatClampNeg (some v1_18) := ⟨_, rfl⟩
    replace hF := hF S23 eS23
    have hP : va_P D vwCl (ZW x cy g S23 ++ va_pl L (pf cy K cf nm S23)) H := by rw [eS23]; rw [show pf cy K cf nm (wq S20 205 (v2_19 : Int32).toNatClampNeg (some v1_18)) = pf cy K cf nm S20 from pf_205]; exact hP
    have hD : va_D (va_A (ZW x cy g S0 ++ va_pl L (pf cy K cf nm S0)) s.heap.size) (ZW x cy g S23 ++ va_pl L (pf cy K cf nm S23)) := by rw [eS23]; rw [show pf cy K cf nm (wq S20 205 (v2_19 : Int32).toNatClampNeg (some v1_18)) = pf cy K cf nm S20 from pf_205]; exact hD
    have hT : WT L K S23.2 := by rw [eS23]; exact WT_up hT 205 _ (rok_some mv1_18.1 mv1_18.2)
    refine lv_aload_n hx hb dX3_insertByRank_61 rfl (lv_at hl 2 rfl) ?_
    refine lv_dup hx hb dX3_insertByRank_62 rfl ?_
    refine va_get (D := D) (ci := 3) (v := .int (S23.1 200 11)) (C := RX3) (T := TX3) (N := 2) hx hb hts iX3_insertByRank_3 hown hK hP 8 rfl rfl 1 (by decide) (hts (.fieldLink RX3 17 "FondsRoom$Line" "size" "I") (List.mem_of_getElem? (i := 1) rfl)) (fun _ h9 => h9) rfl dX3_insertByRank_63 ?_
    refine lv_iconst (v := 1) hx hb dX3_insertByRank_66 (by decide) ?_
    refine lv_iadd hx hb dX3_insertByRank_67 ?_
    refine va_put (D := D) (ci := 3) (v := .int ((S23.1 200 11) + 1)) (ty := .int) (C := RX3) (T := TX3) (N := 2) hx hb hts iX3_insertByRank_3 tyX3 tyX3_ok nmX3 hown hK hP hD hS 8 rfl rfl 1 (by decide) (hts (.fieldLink RX3 17 "FondsRoom$Line" "size" "I") (List.mem_of_getElem? (i := 1) rfl)) (fun _ h9 => h9) rfl (by decide +kernel) rfl rfl (Nat.le_of_ble_eq_true rfl) dX3_insertByRank_68 (fun H locs hP hD hS => ?_)
    obtain ⟨S24, eS24⟩ : ∃ z, z = wi S23 200 11 ((S23.1 200 11) + 1) := ⟨_, rfl⟩
    replace hF := bnd_s hF S24 eS24
    have hP : va_P D vwCl (ZW x cy g S24 ++ va_pl L (pf cy K cf nm S24)) H := by rw [eS24]; rw [show pf cy K cf nm (wi S23 200 11 ((S23.1 200 11) + 1)) = pf cy K cf nm S23 from pf_200]; exact hP
    have hD : va_D (va_A (ZW x cy g S0 ++ va_pl L (pf cy K cf nm S0)) s.heap.size) (ZW x cy g S24 ++ va_pl L (pf cy K cf nm S24)) := by rw [eS24]; rw [show pf cy K cf nm (wi S23 200 11 ((S23.1 200 11) + 1)) = pf cy K cf nm S23 from pf_200]; exact hD
    have hT : WT L K S24.2 := by rw [eS24]; exact hT
    have e2 := Option.some.inj hF
    have hP : va_P D vwCl (ZW x cy g Sf ++ va_pl L (pf cy K cf nm Sf)) H := by rw [← e2]; exact hP
    have hD : va_D (va_A (ZW x cy g S0 ++ va_pl L (pf cy K cf nm S0)) s.heap.size) (ZW x cy g Sf ++ va_pl L (pf cy K cf nm Sf)) := by rw [← e2]; exact hD
    have hT : WT L K Sf.2 := by rw [← e2]; exact hT
    exact W.vret hx hb hr (fun t ht hW => ⟨⟨(), rfl, hT, by rw [ht]; exact hP, va_K.moved hW.alike hK, hD⟩, hS.F ht⟩) hS.2.2 dX3_insertByRank_71
  · skip
    have hF := (if_neg c1).symm.trans hF
    have e2 := Option.some.inj hF
    have hP : va_P D vwCl (ZW x cy g Sf ++ va_pl L (pf cy K cf nm Sf)) s.heap := by rw [← e2]; exact hP
    have hD : va_D (va_A (ZW x cy g S0 ++ va_pl L (pf cy K cf nm S0)) s.heap.size) (ZW x cy g Sf ++ va_pl L (pf cy K cf nm Sf)) := by rw [← e2]; exact hD
    have hT : WT L K Sf.2 := by rw [← e2]; exact hT
    exact W.vret hx hb hr (fun t ht hW => ⟨⟨(), rfl, hT, by rw [ht]; exact hP, va_K.moved hW.alike hK, hD⟩, hS.F ht⟩) hS.2.2 dX3_insertByRank_9

theorem iX7_hasWorker_7 : ∀ w ∈ wsX70, w ∈ wsX7_hasWorker := fun _ h => List.mem_cons_of_mem _ (List.mem_append_right _ h)
set_option maxHeartbeats 8000000 in
set_option maxRecDepth 100000 in
theorem zX7_hasWorker_0 (l : Launch) (D : va_G) (x : Nat → Nat) (cy : Nat → ClassId) (g : Nat → Nat → Option Nat) (L : List Nat) (K : Nat → Nat) (cf : Nat → Nat → Nat) (nm : Nat → Int32) (hG : GO L K g) (hL : PL L K cf) (S : CS) (hT : WT L K S.2) (sz : Nat) (ar1 : Int32)  (rv : Int32) (hF : gX7_hasWorker_0 g cf nm S ar1 = some rv) : Met l yX7_hasWorker wsX7_hasWorker ({ frames := 0, cells := 0, slots := 0, locals := 0 }) (PW D (TYS cy) (ZW x cy g S ++ va_pl L (pf cy K cf nm S)) sz [.ref (x 4), .int ar1]) (va_Qi (fun (res : Int32) (u : Unit) => res = rv ∧ b01 rv) (BU D (TYS cy) (ZW x cy g S ++ va_pl L (pf cy K cf nm S)) (fun _ => ZW x cy g S ++ va_pl L (pf cy K cf nm S)) sz) (va_A (ZW x cy g S ++ va_pl L (pf cy K cf nm S)) sz)) 0 0 (va_A (ZW x cy g S ++ va_pl L (pf cy K cf nm S)) sz) := by
  refine Met.ofW (cc := cX7_hasWorker) (maxL := 2) (ret := (some .boolean)) (by decide) rfl ?_
  intro p e s m args below meth c s₁ B hml hv
  obtain ⟨rfl, hsz, hP, hK, hD0⟩ := hv
  have hx := B.exec
  have hb := B.bytes
  have hr := B.returns
  have hts := atoms_spec (ws := wsX7_hasWorker) B.pre
  have hown : s.vm.findClass RX7 = some m.cls := findClass_of_methodNamed B.named
  have hlocks := B.notSynchronized
  subst hsz
  have hD := hD0.self (sz := s.heap.size)
  have hA : ∀ q9 : Nat, s.heap.size ≤ q9 → va_A (ZW x cy g S ++ va_pl L (pf cy K cf nm S)) s.heap.size q9 := fun q9 h => Or.inr h
  have hS : va_S (va_A (ZW x cy g S ++ va_pl L (pf cy K cf nm S)) s.heap.size) s.heap s.heap [] := va_S.rf
  have hl := lv_entry ([.ref (x 4), .int ar1]) (n := 2) (Nat.le_of_ble_eq_true rfl)
  rw [lg_entry_eq]
  generalize (lg_sl ([.ref (x 4), .int ar1]) ++ List.replicate (2 - (lg_sl ([.ref (x 4), .int ar1])).length) Slot.unset).toArray = ls at hl ⊢
  have hl : lv_has ls 2 [(0, .ref (x 4)), (1, .int ar1)] := hl
  unfold gX7_hasWorker_0 at hF
  refine lv_iload_n hx hb dX7_hasWorker_0 rfl (lv_at hl 1 rfl) ?_
  refine lv_if_lt (tgt := 25) hx hb dX7_hasWorker_1 (by decide) (fun c1 => ?_) (fun c1 => ?_)
  · skip
    have hF := (if_pos c1).symm.trans hF
    refine lv_iconst (v := 0) hx hb dX7_hasWorker_25 (by decide) ?_
    have e1 := Option.some.inj hF
    exact W.zret (v := 0) hx hb hr (nz01 (Or.inl rfl)).1 (fun t ht hW => ⟨⟨0, (), rfl, ⟨e1, by rw [← e1]; exact Or.inl rfl⟩, by rw [ht]; exact hP, va_K.moved hW.alike hK, hD⟩, hS.F ht⟩) hS.2.2 dX7_hasWorker_26
  · skip
    have hF := (if_neg c1).symm.trans hF
    refine lv_iload_n hx hb dX7_hasWorker_4 rfl (lv_at hl 1 rfl) ?_
    refine lv_aload_n hx hb dX7_hasWorker_5 rfl (lv_at hl 0 rfl) ?_
    refine va_get (D := D) (ci := 7) (v := .int (S.1 200 9)) (C := RX7) (T := TX7) (N := 2) hx hb hts iX7_hasWorker_7 hown hK hP 4 rfl rfl 1 (by decide) (hts (.fieldLink RX7 22 "FondsRoom$Staff" "hired" "I") (List.mem_of_getElem? (i := 1) rfl)) (fun _ h9 => h9) rfl dX7_hasWorker_6 ?_
    refine lv_icmp_ge (tgt := 25) hx hb dX7_hasWorker_9 (by decide) (fun c2 => ?_) (fun c2 => ?_)
    · skip
      have hF := (if_pos c2).symm.trans hF
      refine lv_iconst (v := 0) hx hb dX7_hasWorker_25 (by decide) ?_
      have e1 := Option.some.inj hF
      exact W.zret (v := 0) hx hb hr (nz01 (Or.inl rfl)).1 (fun t ht hW => ⟨⟨0, (), rfl, ⟨e1, by rw [← e1]; exact Or.inl rfl⟩, by rw [ht]; exact hP, va_K.moved hW.alike hK, hD⟩, hS.F ht⟩) hS.2.2 dX7_hasWorker_26
    · skip
      have hF := (if_neg c2).symm.trans hF
      refine lv_iload_n hx hb dX7_hasWorker_12 rfl (lv_at hl 1 rfl) ?_
      refine lv_aload_n hx hb dX7_hasWorker_13 rfl (lv_at hl 0 rfl) ?_
      refine va_get (D := D) (ci := 7) (v := .ref (x 5)) (C := RX7) (T := TX7) (N := 2) hx hb hts iX7_hasWorker_7 hown hK hP 4 rfl rfl 0 (by decide) (hts (.fieldLink RX7 15 "FondsRoom$Staff" "workers" "[LFondsRoom$Worker;") (List.mem_of_getElem? (i := 2) rfl)) (fun _ h9 => h9) rfl dX7_hasWorker_14 ?_
      refine va_alen (v := 4) hx hb hK hP 5 5 rfl rfl rfl dX7_hasWorker_17 ?_
      refine lv_icmp_ge (tgt := 25) hx hb dX7_hasWorker_18 (by decide) (fun c3 => ?_) (fun c3 => ?_)
      · skip
        have hF := (if_pos c3).symm.trans hF
        refine lv_iconst (v := 0) hx hb dX7_hasWorker_25 (by decide) ?_
        have e1 := Option.some.inj hF
        exact W.zret (v := 0) hx hb hr (nz01 (Or.inl rfl)).1 (fun t ht hW => ⟨⟨0, (), rfl, ⟨e1, by rw [← e1]; exact Or.inl rfl⟩, by rw [ht]; exact hP, va_K.moved hW.alike hK, hD⟩, hS.F ht⟩) hS.2.2 dX7_hasWorker_26
      · skip
        have hF := (if_neg c3).symm.trans hF
        refine lv_iconst (v := 1) hx hb dX7_hasWorker_21 (by decide) ?_
        refine lv_goto (tgt := 26) hx hb dX7_hasWorker_22 (by decide) ?_
        have e1 := Option.some.inj hF
        exact W.zret (v := 1) hx hb hr (nz01 (Or.inr rfl)).1 (fun t ht hW => ⟨⟨1, (), rfl, ⟨e1, by rw [← e1]; exact Or.inr rfl⟩, by rw [ht]; exact hP, va_K.moved hW.alike hK, hD⟩, hS.F ht⟩) hS.2.2 dX7_hasWorker_26

set_option maxHeartbeats 8000000 in
set_option maxRecDepth 100000 in
theorem zX7_hasWorker_1 (l : Launch) (D : va_G) (x : Nat → Nat) (cy : Nat → ClassId) (g : Nat → Nat → Option Nat) (L : List Nat) (K : Nat → Nat) (cf : Nat → Nat → Nat) (nm : Nat → Int32) (hG : GO L K g) (hL : PL L K cf) (S : CS) (hT : WT L K S.2) (sz : Nat) (ar1 : Int32)  (rv : Int32) (hF : gX7_hasWorker_1 g cf nm S ar1 = some rv) : Met l yX7_hasWorker wsX7_hasWorker ({ frames := 0, cells := 0, slots := 0, locals := 0 }) (PW D (TYS cy) (ZW x cy g S ++ va_pl L (pf cy K cf nm S)) sz [.ref (x 6), .int ar1]) (va_Qi (fun (res : Int32) (u : Unit) => res = rv ∧ b01 rv) (BU D (TYS cy) (ZW x cy g S ++ va_pl L (pf cy K cf nm S)) (fun _ => ZW x cy g S ++ va_pl L (pf cy K cf nm S)) sz) (va_A (ZW x cy g S ++ va_pl L (pf cy K cf nm S)) sz)) 0 0 (va_A (ZW x cy g S ++ va_pl L (pf cy K cf nm S)) sz) := by
  refine Met.ofW (cc := cX7_hasWorker) (maxL := 2) (ret := (some .boolean)) (by decide) rfl ?_
  intro p e s m args below meth c s₁ B hml hv
  obtain ⟨rfl, hsz, hP, hK, hD0⟩ := hv
  have hx := B.exec
  have hb := B.bytes
  have hr := B.returns
  have hts := atoms_spec (ws := wsX7_hasWorker) B.pre
  have hown : s.vm.findClass RX7 = some m.cls := findClass_of_methodNamed B.named
  have hlocks := B.notSynchronized
  subst hsz
  have hD := hD0.self (sz := s.heap.size)
  have hA : ∀ q9 : Nat, s.heap.size ≤ q9 → va_A (ZW x cy g S ++ va_pl L (pf cy K cf nm S)) s.heap.size q9 := fun q9 h => Or.inr h
  have hS : va_S (va_A (ZW x cy g S ++ va_pl L (pf cy K cf nm S)) s.heap.size) s.heap s.heap [] := va_S.rf
  have hl := lv_entry ([.ref (x 6), .int ar1]) (n := 2) (Nat.le_of_ble_eq_true rfl)
  rw [lg_entry_eq]
  generalize (lg_sl ([.ref (x 6), .int ar1]) ++ List.replicate (2 - (lg_sl ([.ref (x 6), .int ar1])).length) Slot.unset).toArray = ls at hl ⊢
  have hl : lv_has ls 2 [(0, .ref (x 6)), (1, .int ar1)] := hl
  unfold gX7_hasWorker_1 at hF
  refine lv_iload_n hx hb dX7_hasWorker_0 rfl (lv_at hl 1 rfl) ?_
  refine lv_if_lt (tgt := 25) hx hb dX7_hasWorker_1 (by decide) (fun c1 => ?_) (fun c1 => ?_)
  · skip
    have hF := (if_pos c1).symm.trans hF
    refine lv_iconst (v := 0) hx hb dX7_hasWorker_25 (by decide) ?_
    have e1 := Option.some.inj hF
    exact W.zret (v := 0) hx hb hr (nz01 (Or.inl rfl)).1 (fun t ht hW => ⟨⟨0, (), rfl, ⟨e1, by rw [← e1]; exact Or.inl rfl⟩, by rw [ht]; exact hP, va_K.moved hW.alike hK, hD⟩, hS.F ht⟩) hS.2.2 dX7_hasWorker_26
  · skip
    have hF := (if_neg c1).symm.trans hF
    refine lv_iload_n hx hb dX7_hasWorker_4 rfl (lv_at hl 1 rfl) ?_
    refine lv_aload_n hx hb dX7_hasWorker_5 rfl (lv_at hl 0 rfl) ?_
    refine va_get (D := D) (ci := 7) (v := .int (S.1 200 10)) (C := RX7) (T := TX7) (N := 2) hx hb hts iX7_hasWorker_7 hown hK hP 6 rfl rfl 1 (by decide) (hts (.fieldLink RX7 22 "FondsRoom$Staff" "hired" "I") (List.mem_of_getElem? (i := 1) rfl)) (fun _ h9 => h9) rfl dX7_hasWorker_6 ?_
    refine lv_icmp_ge (tgt := 25) hx hb dX7_hasWorker_9 (by decide) (fun c2 => ?_) (fun c2 => ?_)
    · skip
      have hF := (if_pos c2).symm.trans hF
      refine lv_iconst (v := 0) hx hb dX7_hasWorker_25 (by decide) ?_
      have e1 := Option.some.inj hF
      exact W.zret (v := 0) hx hb hr (nz01 (Or.inl rfl)).1 (fun t ht hW => ⟨⟨0, (), rfl, ⟨e1, by rw [← e1]; exact Or.inl rfl⟩, by rw [ht]; exact hP, va_K.moved hW.alike hK, hD⟩, hS.F ht⟩) hS.2.2 dX7_hasWorker_26
    · skip
      have hF := (if_neg c2).symm.trans hF
      refine lv_iload_n hx hb dX7_hasWorker_12 rfl (lv_at hl 1 rfl) ?_
      refine lv_aload_n hx hb dX7_hasWorker_13 rfl (lv_at hl 0 rfl) ?_
      refine va_get (D := D) (ci := 7) (v := .ref (x 7)) (C := RX7) (T := TX7) (N := 2) hx hb hts iX7_hasWorker_7 hown hK hP 6 rfl rfl 0 (by decide) (hts (.fieldLink RX7 15 "FondsRoom$Staff" "workers" "[LFondsRoom$Worker;") (List.mem_of_getElem? (i := 2) rfl)) (fun _ h9 => h9) rfl dX7_hasWorker_14 ?_
      refine va_alen (v := 3) hx hb hK hP 7 5 rfl rfl rfl dX7_hasWorker_17 ?_
      refine lv_icmp_ge (tgt := 25) hx hb dX7_hasWorker_18 (by decide) (fun c3 => ?_) (fun c3 => ?_)
      · skip
        have hF := (if_pos c3).symm.trans hF
        refine lv_iconst (v := 0) hx hb dX7_hasWorker_25 (by decide) ?_
        have e1 := Option.some.inj hF
        exact W.zret (v := 0) hx hb hr (nz01 (Or.inl rfl)).1 (fun t ht hW => ⟨⟨0, (), rfl, ⟨e1, by rw [← e1]; exact Or.inl rfl⟩, by rw [ht]; exact hP, va_K.moved hW.alike hK, hD⟩, hS.F ht⟩) hS.2.2 dX7_hasWorker_26
      · skip
        have hF := (if_neg c3).symm.trans hF
        refine lv_iconst (v := 1) hx hb dX7_hasWorker_21 (by decide) ?_
        refine lv_goto (tgt := 26) hx hb dX7_hasWorker_22 (by decide) ?_
        have e1 := Option.some.inj hF
        exact W.zret (v := 1) hx hb hr (nz01 (Or.inr rfl)).1 (fun t ht hW => ⟨⟨1, (), rfl, ⟨e1, by rw [← e1]; exact Or.inr rfl⟩, by rw [ht]; exact hP, va_K.moved hW.alike hK, hD⟩, hS.F ht⟩) hS.2.2 dX7_hasWorker_26

theorem iX9_isPerson_9 : ∀ w ∈ wsX90, w ∈ wsX9_isPerson := fun _ h => List.mem_cons_of_mem _ (List.mem_append_left _ (List.mem_append_right _ h))
set_option maxHeartbeats 8000000 in
set_option maxRecDepth 100000 in
theorem zX9_isPerson (l : Launch) (D : va_G) (x : Nat → Nat) (cy : Nat → ClassId) (g : Nat → Nat → Option Nat) (L : List Nat) (K : Nat → Nat) (cf : Nat → Nat → Nat) (nm : Nat → Int32) (hG : GO L K g) (hL : PL L K cf) (S : CS) (hT : WT L K S.2) (sz : Nat) (ar1 : Int32) (ar2 : Int32)  (rv : Int32) (hF : gX9_isPerson g cf nm S ar1 ar2 = some rv) : Met l yX9_isPerson wsX9_isPerson ({ frames := 1, cells := 0, slots := 0, locals := 21 }) (PW D (TYS cy) (ZW x cy g S ++ va_pl L (pf cy K cf nm S)) sz [.ref (x 0), .int ar1, .int ar2]) (va_Qi (fun (res : Int32) (u : Unit) => res = rv ∧ b01 rv) (BU D (TYS cy) (ZW x cy g S ++ va_pl L (pf cy K cf nm S)) (fun _ => ZW x cy g S ++ va_pl L (pf cy K cf nm S)) sz) (va_A (ZW x cy g S ++ va_pl L (pf cy K cf nm S)) sz)) 0 0 (va_A (ZW x cy g S ++ va_pl L (pf cy K cf nm S)) sz) := by
  refine Met.ofW (cc := cX9_isPerson) (maxL := 3) (ret := (some .boolean)) (by decide) rfl ?_
  intro p e s m args below meth c s₁ B hml hv
  obtain ⟨rfl, hsz, hP, hK, hD0⟩ := hv
  have hx := B.exec
  have hb := B.bytes
  have hr := B.returns
  have hts := atoms_spec (ws := wsX9_isPerson) B.pre
  have hown : s.vm.findClass RX9 = some m.cls := findClass_of_methodNamed B.named
  have hlocks := B.notSynchronized
  subst hsz
  have hD := hD0.self (sz := s.heap.size)
  have hA : ∀ q9 : Nat, s.heap.size ≤ q9 → va_A (ZW x cy g S ++ va_pl L (pf cy K cf nm S)) s.heap.size q9 := fun q9 h => Or.inr h
  have hS : va_S (va_A (ZW x cy g S ++ va_pl L (pf cy K cf nm S)) s.heap.size) s.heap s.heap [] := va_S.rf
  have hl := lv_entry ([.ref (x 0), .int ar1, .int ar2]) (n := 3) (Nat.le_of_ble_eq_true rfl)
  rw [lg_entry_eq]
  generalize (lg_sl ([.ref (x 0), .int ar1, .int ar2]) ++ List.replicate (3 - (lg_sl ([.ref (x 0), .int ar1, .int ar2])).length) Slot.unset).toArray = ls at hl ⊢
  have hl : lv_has ls 3 [(0, .ref (x 0)), (1, .int ar1), (2, .int ar2)] := hl
  unfold gX9_isPerson at hF
  refine lv_iload_n hx hb dX9_isPerson_0 rfl (lv_at hl 1 rfl) ?_
  by_cases j1 : ar1 = 0
  · skip
    have hF := (if_pos j1).symm.trans hF
    refine lv_tableIn (tgt := 28) hx hb dX9_isPerson_1 (by rw [j1]; decide) (by rw [j1]; decide) (by rw [j1]; rfl) (by decide) ?_
    refine lv_aload_n hx hb dX9_isPerson_28 rfl (lv_at hl 0 rfl) ?_
    refine lv_iload_n hx hb dX9_isPerson_29 rfl (lv_at hl 2 rfl) ?_
    obtain ⟨r2, hq5, hF⟩ := bd1_s hF
    refine gvI (As := [.int ar2]) (rest := []) ⟨hx, hb, hml, hown, hts⟩ (zX9_isReader l D x cy g L K cf nm hG hL S hT _ ar2  r2 hq5) (cwV 1 hts gX9_isPerson_X9_isReader rfl rfl rfl (by decide +kernel) ⟨Nat.le_of_ble_eq_true rfl, Nat.le_of_ble_eq_true rfl⟩) hK hP hD hS hA (va_recv hK hP (ci := 9) (q0 := 0) rfl rfl) rfl hl.1 rfl (Nat.le_of_ble_eq_true rfl) dX9_isPerson_30 ⟨Nat.le_of_ble_eq_true rfl, Nat.le_of_ble_eq_true rfl⟩ (fun a6 u9 H locs hw4 hP hD hS => ?_)
    have hP : va_P D vwCl (ZW x cy g S ++ va_pl L (pf cy K cf nm S)) H := hP
    have hD : va_D _ (ZW x cy g S ++ va_pl L (pf cy K cf nm S)) := hD
    refine lv_tov (v' := .int r2) (congrArg Value.int hw4.1) ?_
    have e1 := Option.some.inj hF
    exact W.zret (v := r2) hx hb hr (nz01 (hw4.2)).1 (fun t ht hW => ⟨⟨r2, (), rfl, ⟨e1, by rw [← e1]; exact hw4.2⟩, by rw [ht]; exact hP, va_K.moved hW.alike hK, hD⟩, hS.F ht⟩) hS.2.2 dX9_isPerson_33
  replace hF := (if_neg j1).symm.trans hF
  by_cases j7 : ar1 = 1
  · skip
    have hF := (if_pos j7).symm.trans hF
    refine lv_tableIn (tgt := 34) hx hb dX9_isPerson_1 (by rw [j7]; decide) (by rw [j7]; decide) (by rw [j7]; rfl) (by decide) ?_
    refine lv_aload_n hx hb dX9_isPerson_34 rfl (lv_at hl 0 rfl) ?_
    refine va_get (D := D) (ci := 9) (v := .ref (x 4)) (C := RX9) (T := TX9) (N := 19) hx hb hts iX9_isPerson_9 hown hK hP 0 rfl rfl 3 (by decide) (hts (.fieldLink RX9 37 "FondsRoom" "fetchers" "LFondsRoom$Staff;") (List.mem_of_getElem? (i := 1) rfl)) (fun _ h9 => h9) rfl dX9_isPerson_35 ?_
    refine lv_iload_n hx hb dX9_isPerson_38 rfl (lv_at hl 2 rfl) ?_
    obtain ⟨r8, hq11, hF⟩ := bd1_s hF
    refine gvI (As := [.int ar2]) (rest := []) ⟨hx, hb, hml, hown, hts⟩ (zX7_hasWorker_0 l D x cy g L K cf nm hG hL S hT _ ar2  r8 hq11) (cwV 1 hts gX9_isPerson_X7_hasWorker rfl rfl rfl (by decide +kernel) ⟨Nat.le_of_ble_eq_true rfl, Nat.le_of_ble_eq_true rfl⟩) hK hP hD hS hA (va_recv hK hP (ci := 7) (q0 := 4) rfl rfl) rfl hl.1 rfl (Nat.le_of_ble_eq_true rfl) dX9_isPerson_39 ⟨Nat.le_of_ble_eq_true rfl, Nat.le_of_ble_eq_true rfl⟩ (fun a12 u9 H locs hw10 hP hD hS => ?_)
    have hP : va_P D vwCl (ZW x cy g S ++ va_pl L (pf cy K cf nm S)) H := hP
    have hD : va_D _ (ZW x cy g S ++ va_pl L (pf cy K cf nm S)) := hD
    refine lv_tov (v' := .int r8) (congrArg Value.int hw10.1) ?_
    have e1 := Option.some.inj hF
    exact W.zret (v := r8) hx hb hr (nz01 (hw10.2)).1 (fun t ht hW => ⟨⟨r8, (), rfl, ⟨e1, by rw [← e1]; exact hw10.2⟩, by rw [ht]; exact hP, va_K.moved hW.alike hK, hD⟩, hS.F ht⟩) hS.2.2 dX9_isPerson_42
  replace hF := (if_neg j7).symm.trans hF
  by_cases j13 : ar1 = 2
  · skip
    have hF := (if_pos j13).symm.trans hF
    refine lv_tableIn (tgt := 43) hx hb dX9_isPerson_1 (by rw [j13]; decide) (by rw [j13]; decide) (by rw [j13]; rfl) (by decide) ?_
    refine lv_aload_n hx hb dX9_isPerson_43 rfl (lv_at hl 0 rfl) ?_
    refine va_get (D := D) (ci := 9) (v := .ref (x 6)) (C := RX9) (T := TX9) (N := 19) hx hb hts iX9_isPerson_9 hown hK hP 0 rfl rfl 4 (by decide) (hts (.fieldLink RX9 41 "FondsRoom" "copyists" "LFondsRoom$Staff;") (List.mem_of_getElem? (i := 2) rfl)) (fun _ h9 => h9) rfl dX9_isPerson_44 ?_
    refine lv_iload_n hx hb dX9_isPerson_47 rfl (lv_at hl 2 rfl) ?_
    obtain ⟨r14, hq17, hF⟩ := bd1_s hF
    refine gvI (As := [.int ar2]) (rest := []) ⟨hx, hb, hml, hown, hts⟩ (zX7_hasWorker_1 l D x cy g L K cf nm hG hL S hT _ ar2  r14 hq17) (cwV 1 hts gX9_isPerson_X7_hasWorker rfl rfl rfl (by decide +kernel) ⟨Nat.le_of_ble_eq_true rfl, Nat.le_of_ble_eq_true rfl⟩) hK hP hD hS hA (va_recv hK hP (ci := 7) (q0 := 6) rfl rfl) rfl hl.1 rfl (Nat.le_of_ble_eq_true rfl) dX9_isPerson_48 ⟨Nat.le_of_ble_eq_true rfl, Nat.le_of_ble_eq_true rfl⟩ (fun a18 u9 H locs hw16 hP hD hS => ?_)
    have hP : va_P D vwCl (ZW x cy g S ++ va_pl L (pf cy K cf nm S)) H := hP
    have hD : va_D _ (ZW x cy g S ++ va_pl L (pf cy K cf nm S)) := hD
    refine lv_tov (v' := .int r14) (congrArg Value.int hw16.1) ?_
    have e1 := Option.some.inj hF
    exact W.zret (v := r14) hx hb hr (nz01 (hw16.2)).1 (fun t ht hW => ⟨⟨r14, (), rfl, ⟨e1, by rw [← e1]; exact hw16.2⟩, by rw [ht]; exact hP, va_K.moved hW.alike hK, hD⟩, hS.F ht⟩) hS.2.2 dX9_isPerson_51
  replace hF := (if_neg j13).symm.trans hF
  have zj1 : (ar1).toInt ≠ 0 := fun h9 => j1 ((fa_eq _ _).mpr (h9.trans (by decide)))
  have zj7 : (ar1).toInt ≠ 1 := fun h9 => j7 ((fa_eq _ _).mpr (h9.trans (by decide)))
  have zj13 : (ar1).toInt ≠ 2 := fun h9 => j13 ((fa_eq _ _).mpr (h9.trans (by decide)))
  refine lv_tableOut (tgt := 52) hx hb dX9_isPerson_1 (by omega) (by decide) ?_
  refine lv_iconst (v := 0) hx hb dX9_isPerson_52 (by decide) ?_
  have e1 := Option.some.inj hF
  exact W.zret (v := 0) hx hb hr (nz01 (Or.inl rfl)).1 (fun t ht hW => ⟨⟨0, (), rfl, ⟨e1, by rw [← e1]; exact Or.inl rfl⟩, by rw [ht]; exact hP, va_K.moved hW.alike hK, hD⟩, hS.F ht⟩) hS.2.2 dX9_isPerson_53

theorem iX9_isAway_6 : ∀ w ∈ wsX60, w ∈ wsX9_isAway := fun _ h => List.mem_cons_of_mem _ (List.mem_append_right _ h)
set_option maxHeartbeats 8000000 in
set_option maxRecDepth 100000 in
theorem zX9_isAway (l : Launch) (D : va_G) (x : Nat → Nat) (cy : Nat → ClassId) (g : Nat → Nat → Option Nat) (L : List Nat) (K : Nat → Nat) (cf : Nat → Nat → Nat) (nm : Nat → Int32) (hG : GO L K g) (hL : PL L K cf) (S : CS) (hT : WT L K S.2) (sz : Nat) (ar1 : Nat) (mar1 : ar1 ∈ L ∧ K ar1 = 6) (rv : Int32) (hF : gX9_isAway g cf nm S ar1 = some rv) : Met l yX9_isAway wsX9_isAway ({ frames := 0, cells := 0, slots := 0, locals := 0 }) (PW D (TYS cy) (ZW x cy g S ++ va_pl L (pf cy K cf nm S)) sz [.ref ar1]) (va_Qi (fun (res : Int32) (u : Unit) => res = rv ∧ b01 rv) (BU D (TYS cy) (ZW x cy g S ++ va_pl L (pf cy K cf nm S)) (fun _ => ZW x cy g S ++ va_pl L (pf cy K cf nm S)) sz) (va_A (ZW x cy g S ++ va_pl L (pf cy K cf nm S)) sz)) 0 0 (va_A (ZW x cy g S ++ va_pl L (pf cy K cf nm S)) sz) := by
  refine Met.ofW (cc := cX9_isAway) (maxL := 1) (ret := (some .boolean)) (by decide) rfl ?_
  intro p e s m args below meth c s₁ B hml hv
  obtain ⟨rfl, hsz, hP, hK, hD0⟩ := hv
  have hx := B.exec
  have hb := B.bytes
  have hr := B.returns
  have hts := atoms_spec (ws := wsX9_isAway) B.pre
  have hown : s.vm.findClass RX9 = some m.cls := findClass_of_methodNamed B.named
  have hlocks := B.notSynchronized
  subst hsz
  have hD := hD0.self (sz := s.heap.size)
  have hA : ∀ q9 : Nat, s.heap.size ≤ q9 → va_A (ZW x cy g S ++ va_pl L (pf cy K cf nm S)) s.heap.size q9 := fun q9 h => Or.inr h
  have hS : va_S (va_A (ZW x cy g S ++ va_pl L (pf cy K cf nm S)) s.heap.size) s.heap s.heap [] := va_S.rf
  have hl := lv_entry ([.ref ar1]) (n := 1) (Nat.le_of_ble_eq_true rfl)
  rw [lg_entry_eq]
  generalize (lg_sl ([.ref ar1]) ++ List.replicate (1 - (lg_sl ([.ref ar1])).length) Slot.unset).toArray = ls at hl ⊢
  have hl : lv_has ls 1 [(0, .ref ar1)] := hl
  unfold gX9_isAway at hF
  refine lv_aload_n hx hb dX9_isAway_0 rfl (lv_at hl 0 rfl) ?_
  refine pg_get (D := D) (ci := 6) (v := .int (S.1 125 ar1)) (C := RX6) (T := TX6) (N := 17) hx hb hts iX9_isAway_6 hown hK hP mar1.1 (pf_6 mar1.2) rfl 5 (by decide) (hts (.fieldLink RX9 270 "FondsRoom$Reader" "state" "I") (List.mem_of_getElem? (i := 1) rfl)) (fun _ h9 => h9) rfl dX9_isAway_1 ?_
  refine lv_iconst (v := 5) hx hb dX9_isAway_4 (by decide) ?_
  refine lv_icmp_eq (tgt := 26) hx hb dX9_isAway_5 (by decide) (fun c1 => ?_) (fun c1 => ?_)
  · skip
    have hF := (if_pos c1).symm.trans hF
    refine lv_iconst (v := 1) hx hb dX9_isAway_26 (by decide) ?_
    refine lv_goto (tgt := 31) hx hb dX9_isAway_27 (by decide) ?_
    have e1 := Option.some.inj hF
    exact W.zret (v := 1) hx hb hr (nz01 (Or.inr rfl)).1 (fun t ht hW => ⟨⟨1, (), rfl, ⟨e1, by rw [← e1]; exact Or.inr rfl⟩, by rw [ht]; exact hP, va_K.moved hW.alike hK, hD⟩, hS.F ht⟩) hS.2.2 dX9_isAway_31
  · skip
    have hF := (if_neg c1).symm.trans hF
    refine lv_aload_n hx hb dX9_isAway_8 rfl (lv_at hl 0 rfl) ?_
    refine pg_get (D := D) (ci := 6) (v := .int (S.1 125 ar1)) (C := RX6) (T := TX6) (N := 17) hx hb hts iX9_isAway_6 hown hK hP mar1.1 (pf_6 mar1.2) rfl 5 (by decide) (hts (.fieldLink RX9 270 "FondsRoom$Reader" "state" "I") (List.mem_of_getElem? (i := 1) rfl)) (fun _ h9 => h9) rfl dX9_isAway_9 ?_
    refine lv_bipush (v := 6) hx hb dX9_isAway_12 (by decide) ?_
    refine lv_icmp_eq (tgt := 26) hx hb dX9_isAway_14 (by decide) (fun c2 => ?_) (fun c2 => ?_)
    · skip
      have hF := (if_pos c2).symm.trans hF
      refine lv_iconst (v := 1) hx hb dX9_isAway_26 (by decide) ?_
      refine lv_goto (tgt := 31) hx hb dX9_isAway_27 (by decide) ?_
      have e1 := Option.some.inj hF
      exact W.zret (v := 1) hx hb hr (nz01 (Or.inr rfl)).1 (fun t ht hW => ⟨⟨1, (), rfl, ⟨e1, by rw [← e1]; exact Or.inr rfl⟩, by rw [ht]; exact hP, va_K.moved hW.alike hK, hD⟩, hS.F ht⟩) hS.2.2 dX9_isAway_31
    · skip
      have hF := (if_neg c2).symm.trans hF
      refine lv_aload_n hx hb dX9_isAway_17 rfl (lv_at hl 0 rfl) ?_
      refine pg_get (D := D) (ci := 6) (v := .int (S.1 125 ar1)) (C := RX6) (T := TX6) (N := 17) hx hb hts iX9_isAway_6 hown hK hP mar1.1 (pf_6 mar1.2) rfl 5 (by decide) (hts (.fieldLink RX9 270 "FondsRoom$Reader" "state" "I") (List.mem_of_getElem? (i := 1) rfl)) (fun _ h9 => h9) rfl dX9_isAway_18 ?_
      refine lv_bipush (v := 7) hx hb dX9_isAway_21 (by decide) ?_
      refine lv_icmp_ne (tgt := 30) hx hb dX9_isAway_23 (by decide) (fun c3 => ?_) (fun c3 => ?_)
      · skip
        have hF := (if_neg c3).symm.trans hF
        refine lv_iconst (v := 0) hx hb dX9_isAway_30 (by decide) ?_
        have e1 := Option.some.inj hF
        exact W.zret (v := 0) hx hb hr (nz01 (Or.inl rfl)).1 (fun t ht hW => ⟨⟨0, (), rfl, ⟨e1, by rw [← e1]; exact Or.inl rfl⟩, by rw [ht]; exact hP, va_K.moved hW.alike hK, hD⟩, hS.F ht⟩) hS.2.2 dX9_isAway_31
      · skip
        have hF := (if_pos c3).symm.trans hF
        refine lv_iconst (v := 1) hx hb dX9_isAway_26 (by decide) ?_
        refine lv_goto (tgt := 31) hx hb dX9_isAway_27 (by decide) ?_
        have e1 := Option.some.inj hF
        exact W.zret (v := 1) hx hb hr (nz01 (Or.inr rfl)).1 (fun t ht hW => ⟨⟨1, (), rfl, ⟨e1, by rw [← e1]; exact Or.inr rfl⟩, by rw [ht]; exact hP, va_K.moved hW.alike hK, hD⟩, hS.F ht⟩) hS.2.2 dX9_isAway_31

theorem iX9_isInRoom_6 : ∀ w ∈ wsX60, w ∈ wsX9_isInRoom := fun _ h => List.mem_cons_of_mem _ (List.mem_append_right _ h)
set_option maxHeartbeats 8000000 in
set_option maxRecDepth 100000 in
theorem zX9_isInRoom (l : Launch) (D : va_G) (x : Nat → Nat) (cy : Nat → ClassId) (g : Nat → Nat → Option Nat) (L : List Nat) (K : Nat → Nat) (cf : Nat → Nat → Nat) (nm : Nat → Int32) (hG : GO L K g) (hL : PL L K cf) (S : CS) (hT : WT L K S.2) (sz : Nat) (ar1 : Nat) (mar1 : ar1 ∈ L ∧ K ar1 = 6) (rv : Int32) (hF : gX9_isInRoom g cf nm S ar1 = some rv) : Met l yX9_isInRoom wsX9_isInRoom ({ frames := 1, cells := 0, slots := 0, locals := 20 }) (PW D (TYS cy) (ZW x cy g S ++ va_pl L (pf cy K cf nm S)) sz [.ref ar1]) (va_Qi (fun (res : Int32) (u : Unit) => res = rv ∧ b01 rv) (BU D (TYS cy) (ZW x cy g S ++ va_pl L (pf cy K cf nm S)) (fun _ => ZW x cy g S ++ va_pl L (pf cy K cf nm S)) sz) (va_A (ZW x cy g S ++ va_pl L (pf cy K cf nm S)) sz)) 0 0 (va_A (ZW x cy g S ++ va_pl L (pf cy K cf nm S)) sz) := by
  refine Met.ofW (cc := cX9_isInRoom) (maxL := 1) (ret := (some .boolean)) (by decide) rfl ?_
  intro p e s m args below meth c s₁ B hml hv
  obtain ⟨rfl, hsz, hP, hK, hD0⟩ := hv
  have hx := B.exec
  have hb := B.bytes
  have hr := B.returns
  have hts := atoms_spec (ws := wsX9_isInRoom) B.pre
  have hown : s.vm.findClass RX9 = some m.cls := findClass_of_methodNamed B.named
  have hlocks := B.notSynchronized
  subst hsz
  have hD := hD0.self (sz := s.heap.size)
  have hA : ∀ q9 : Nat, s.heap.size ≤ q9 → va_A (ZW x cy g S ++ va_pl L (pf cy K cf nm S)) s.heap.size q9 := fun q9 h => Or.inr h
  have hS : va_S (va_A (ZW x cy g S ++ va_pl L (pf cy K cf nm S)) s.heap.size) s.heap s.heap [] := va_S.rf
  have hl := lv_entry ([.ref ar1]) (n := 1) (Nat.le_of_ble_eq_true rfl)
  rw [lg_entry_eq]
  generalize (lg_sl ([.ref ar1]) ++ List.replicate (1 - (lg_sl ([.ref ar1])).length) Slot.unset).toArray = ls at hl ⊢
  have hl : lv_has ls 1 [(0, .ref ar1)] := hl
  unfold gX9_isInRoom at hF
  refine lv_aload_n hx hb dX9_isInRoom_0 rfl (lv_at hl 0 rfl) ?_
  refine pg_get (D := D) (ci := 6) (v := .int (S.1 125 ar1)) (C := RX6) (T := TX6) (N := 17) hx hb hts iX9_isInRoom_6 hown hK hP mar1.1 (pf_6 mar1.2) rfl 5 (by decide) (hts (.fieldLink RX9 270 "FondsRoom$Reader" "state" "I") (List.mem_of_getElem? (i := 1) rfl)) (fun _ h9 => h9) rfl dX9_isInRoom_1 ?_
  refine lv_if_eq (tgt := 18) hx hb dX9_isInRoom_4 (by decide) (fun c1 => ?_) (fun c1 => ?_)
  · skip
    have hF := (if_pos c1).symm.trans hF
    refine lv_iconst (v := 0) hx hb dX9_isInRoom_18 (by decide) ?_
    have e1 := Option.some.inj hF
    exact W.zret (v := 0) hx hb hr (nz01 (Or.inl rfl)).1 (fun t ht hW => ⟨⟨0, (), rfl, ⟨e1, by rw [← e1]; exact Or.inl rfl⟩, by rw [ht]; exact hP, va_K.moved hW.alike hK, hD⟩, hS.F ht⟩) hS.2.2 dX9_isInRoom_19
  · skip
    have hF := (if_neg c1).symm.trans hF
    refine lv_aload_n hx hb dX9_isInRoom_7 rfl (lv_at hl 0 rfl) ?_
    obtain ⟨r2, hq5, hF⟩ := bd1_s hF
    refine gsI (As := [.ref ar1]) (rest := []) ⟨hx, hb, hml, hown, hts⟩ (zX9_isAway l D x cy g L K cf nm hG hL S hT _ ar1 ⟨mar1.1, mar1.2⟩ r2 hq5) (va_cwS 1 hts gX9_isInRoom_X9_isAway rfl rfl rfl (by decide +kernel) ⟨Nat.le_of_ble_eq_true rfl, Nat.le_of_ble_eq_true rfl⟩) hK hP hD hS hA rfl hl.1 rfl (Nat.le_of_ble_eq_true rfl) dX9_isInRoom_8 ⟨Nat.le_of_ble_eq_true rfl, Nat.le_of_ble_eq_true rfl⟩ (fun a6 u9 H locs hw4 hP hD hS => ?_)
    have hP : va_P D vwCl (ZW x cy g S ++ va_pl L (pf cy K cf nm S)) H := hP
    have hD : va_D _ (ZW x cy g S ++ va_pl L (pf cy K cf nm S)) := hD
    refine lv_tov (v' := .int r2) (congrArg Value.int hw4.1) ?_
    refine lv_if_ne (tgt := 18) hx hb dX9_isInRoom_11 (by decide) (fun c7 => ?_) (fun c7 => ?_)
    · skip
      have hF := (if_neg c7).symm.trans hF
      refine lv_iconst (v := 0) hx hb dX9_isInRoom_18 (by decide) ?_
      have e1 := Option.some.inj hF
      exact W.zret (v := 0) hx hb hr (nz01 (Or.inl rfl)).1 (fun t ht hW => ⟨⟨0, (), rfl, ⟨e1, by rw [← e1]; exact Or.inl rfl⟩, by rw [ht]; exact hP, va_K.moved hW.alike hK, hD⟩, hS.F ht⟩) hS.2.2 dX9_isInRoom_19
    · skip
      have hF := (if_pos c7).symm.trans hF
      refine lv_iconst (v := 1) hx hb dX9_isInRoom_14 (by decide) ?_
      refine lv_goto (tgt := 19) hx hb dX9_isInRoom_15 (by decide) ?_
      have e1 := Option.some.inj hF
      exact W.zret (v := 1) hx hb hr (nz01 (Or.inr rfl)).1 (fun t ht hW => ⟨⟨1, (), rfl, ⟨e1, by rw [← e1]; exact Or.inr rfl⟩, by rw [ht]; exact hP, va_K.moved hW.alike hK, hD⟩, hS.F ht⟩) hS.2.2 dX9_isInRoom_19

theorem iX9_numberOf_6 : ∀ w ∈ wsX60, w ∈ wsX9_numberOf := fun _ h => List.mem_cons_of_mem _ (List.mem_append_right _ h)
set_option maxHeartbeats 8000000 in
set_option maxRecDepth 100000 in
theorem zX9_numberOf (l : Launch) (D : va_G) (x : Nat → Nat) (cy : Nat → ClassId) (g : Nat → Nat → Option Nat) (L : List Nat) (K : Nat → Nat) (cf : Nat → Nat → Nat) (nm : Nat → Int32) (hG : GO L K g) (hL : PL L K cf) (S : CS) (hT : WT L K S.2) (sz : Nat) (ar1 : Option Nat) (mar1 : rok L K 6 ar1) (rv : Int32) (hF : gX9_numberOf g cf nm S ar1 = some rv) : Met l yX9_numberOf wsX9_numberOf ({ frames := 0, cells := 0, slots := 0, locals := 0 }) (PW D (TYS cy) (ZW x cy g S ++ va_pl L (pf cy K cf nm S)) sz [va_rf ar1]) (va_Qi (fun (res : Int32) (u : Unit) => res = rv) (BU D (TYS cy) (ZW x cy g S ++ va_pl L (pf cy K cf nm S)) (fun _ => ZW x cy g S ++ va_pl L (pf cy K cf nm S)) sz) (va_A (ZW x cy g S ++ va_pl L (pf cy K cf nm S)) sz)) 0 0 (va_A (ZW x cy g S ++ va_pl L (pf cy K cf nm S)) sz) := by
  refine Met.ofW (cc := cX9_numberOf) (maxL := 1) (ret := (some .int)) (by decide) rfl ?_
  intro p e s m args below meth c s₁ B hml hv
  obtain ⟨rfl, hsz, hP, hK, hD0⟩ := hv
  have hx := B.exec
  have hb := B.bytes
  have hr := B.returns
  have hts := atoms_spec (ws := wsX9_numberOf) B.pre
  have hown : s.vm.findClass RX9 = some m.cls := findClass_of_methodNamed B.named
  have hlocks := B.notSynchronized
  subst hsz
  have hD := hD0.self (sz := s.heap.size)
  have hA : ∀ q9 : Nat, s.heap.size ≤ q9 → va_A (ZW x cy g S ++ va_pl L (pf cy K cf nm S)) s.heap.size q9 := fun q9 h => Or.inr h
  have hS : va_S (va_A (ZW x cy g S ++ va_pl L (pf cy K cf nm S)) s.heap.size) s.heap s.heap [] := va_S.rf
  have hl := lv_entry ([va_rf ar1]) (n := 1) (by cases ar1 <;> exact Nat.le_of_ble_eq_true rfl)
  rw [lg_entry_eq]
  generalize (lg_sl ([va_rf ar1]) ++ List.replicate (1 - (lg_sl ([va_rf ar1])).length) Slot.unset).toArray = ls at hl ⊢
  have hl : lv_has ls 1 [(0, va_rf ar1)] := by cases ar1 <;> exact hl
  unfold gX9_numberOf at hF
  refine lq_aload_n hx hb dX9_numberOf_0 rfl (lv_at hl 0 rfl) ?_
  rcases eb1 : ar1 with _ | b1
  · skip
    subst eb1
    replace hF := oc_n hF
    have hl : lv_has ls 1 [(0, .null)] := hl
    refine W.eq (g2 := F0 m 1 ls [.null]) rfl ?_
    refine lv_ifnonnullN hx hb dX9_numberOf_1 ?_
    refine lv_iconst (v := (-1)) hx hb dX9_numberOf_4 (by decide) ?_
    refine lv_goto (tgt := 12) hx hb dX9_numberOf_5 (by decide) ?_
    have e1 := Option.some.inj hF
    exact W.iret (v := (-1)) hx hb hr (fun t ht hW => ⟨⟨(-1), (), rfl, e1, by rw [ht]; exact hP, va_K.moved hW.alike hK, hD⟩, hS.F ht⟩) hS.2.2 dX9_numberOf_12
  · skip
    subst eb1
    replace hF := oc_b hF
    have mb1 := mar1 b1 rfl
    have hl : lv_has ls 1 [(0, .ref b1)] := hl
    refine W.eq (g2 := F0 m 1 ls [.ref b1]) rfl ?_
    refine lv_ifnonnull (tgt := 8) hx hb dX9_numberOf_1 (by decide) ?_
    refine lv_aload_n hx hb dX9_numberOf_8 rfl (lv_at hl 0 rfl) ?_
    refine pg_get (D := D) (ci := 6) (v := .int (nm b1)) (C := RX6) (T := TX6) (N := 17) hx hb hts iX9_numberOf_6 hown hK hP mb1.1 (pf_6 mb1.2) rfl 0 (by decide) (hts (.fieldLink RX9 273 "FondsRoom$Reader" "number" "I") (List.mem_of_getElem? (i := 1) rfl)) (fun _ h9 => h9) rfl dX9_numberOf_9 ?_
    have e1 := Option.some.inj hF
    exact W.iret (v := (nm b1)) hx hb hr (fun t ht hW => ⟨⟨(nm b1), (), rfl, e1, by rw [ht]; exact hP, va_K.moved hW.alike hK, hD⟩, hS.F ht⟩) hS.2.2 dX9_numberOf_12

theorem iX9_heldBy_0 : ∀ w ∈ wsX00, w ∈ wsX9_heldBy := fun _ h => List.mem_cons_of_mem _ (List.mem_append_right _ h)
theorem iX9_heldBy_9 : ∀ w ∈ wsX90, w ∈ wsX9_heldBy := fun _ h => List.mem_cons_of_mem _ (List.mem_append_left _ (List.mem_append_right _ h))
set_option maxHeartbeats 8000000 in
set_option maxRecDepth 100000 in
theorem zX9_heldBy (l : Launch) (D : va_G) (x : Nat → Nat) (cy : Nat → ClassId) (g : Nat → Nat → Option Nat) (L : List Nat) (K : Nat → Nat) (cf : Nat → Nat → Nat) (nm : Nat → Int32) (hG : GO L K g) (hL : PL L K cf) (S : CS) (hT : WT L K S.2) (sz : Nat) (ar1 : Nat) (mar1 : ar1 ∈ L ∧ K ar1 = 6) (rv : Int32) (hF : gX9_heldBy g cf nm S ar1 = some rv) : Met l yX9_heldBy wsX9_heldBy ({ frames := 0, cells := 0, slots := 0, locals := 0 }) (PW D (TYS cy) (ZW x cy g S ++ va_pl L (pf cy K cf nm S)) sz [.ref (x 0), .ref ar1]) (va_Qi (fun (res : Int32) (u : Unit) => res = rv) (BU D (TYS cy) (ZW x cy g S ++ va_pl L (pf cy K cf nm S)) (fun _ => ZW x cy g S ++ va_pl L (pf cy K cf nm S)) sz) (va_A (ZW x cy g S ++ va_pl L (pf cy K cf nm S)) sz)) 0 0 (va_A (ZW x cy g S ++ va_pl L (pf cy K cf nm S)) sz) := by
  refine Met.ofW (cc := cX9_heldBy) (maxL := 4) (ret := (some .int)) (by decide) rfl ?_
  intro p e s m args below meth c s₁ B hml hv
  obtain ⟨rfl, hsz, hP, hK, hD0⟩ := hv
  have hx := B.exec
  have hb := B.bytes
  have hr := B.returns
  have hts := atoms_spec (ws := wsX9_heldBy) B.pre
  have hown : s.vm.findClass RX9 = some m.cls := findClass_of_methodNamed B.named
  have hlocks := B.notSynchronized
  subst hsz
  have hD := hD0.self (sz := s.heap.size)
  have hA : ∀ q9 : Nat, s.heap.size ≤ q9 → va_A (ZW x cy g S ++ va_pl L (pf cy K cf nm S)) s.heap.size q9 := fun q9 h => Or.inr h
  have hS : va_S (va_A (ZW x cy g S ++ va_pl L (pf cy K cf nm S)) s.heap.size) s.heap s.heap [] := va_S.rf
  have key4 : ∀ (KK : Int32 → Option (Int32)), (∀ (v2 : Int32) (H : Heap) (locs : List Loc) (ls : Array Slot), KK v2 = some rv → va_P D vwCl (ZW x cy g S ++ va_pl L (pf cy K cf nm S)) H → va_D (va_A (ZW x cy g S ++ va_pl L (pf cy K cf nm S)) s.heap.size) (ZW x cy g S ++ va_pl L (pf cy K cf nm S)) → va_S (va_A (ZW x cy g S ++ va_pl L (pf cy K cf nm S)) s.heap.size) s.heap H locs → lv_has ls 4 [(2, .int v2)] → W p l e (headSpec wsX9_heldBy ({ frames := 0, cells := 0, slots := 0, locals := 0 })).room s m #[.ref (x 0), .ref ar1] below meth c H locs 0 0 (MQ below (va_Qi (fun (res : Int32) (u : Unit) => res = rv) (BU D (TYS cy) (ZW x cy g S ++ va_pl L (pf cy K cf nm S)) (fun _ => ZW x cy g S ++ va_pl L (pf cy K cf nm S)) s.heap.size) (va_A (ZW x cy g S ++ va_pl L (pf cy K cf nm S)) s.heap.size)) #[.ref (x 0), .ref ar1] s 0 0 (va_A (ZW x cy g S ++ va_pl L (pf cy K cf nm S)) s.heap.size)) (F0 m 34 ls [])) → ∀ (fu : Nat) (v1 : Nat) (v2 : Int32) (v3 : Int32) (H : Heap) (locs : List Loc) (ls : Array Slot), gX9_heldBy_4 S g cf nm KK fu v1 v2 v3 = some rv → (v1 ∈ L ∧ K v1 = 6) → va_P D vwCl (ZW x cy g S ++ va_pl L (pf cy K cf nm S)) H → va_D (va_A (ZW x cy g S ++ va_pl L (pf cy K cf nm S)) s.heap.size) (ZW x cy g S ++ va_pl L (pf cy K cf nm S)) → va_S (va_A (ZW x cy g S ++ va_pl L (pf cy K cf nm S)) s.heap.size) s.heap H locs → lv_has ls 4 [(1, .ref v1), (2, .int v2), (3, .int v3), (0, .ref (x 0))] → W p l e (headSpec wsX9_heldBy ({ frames := 0, cells := 0, slots := 0, locals := 0 })).room s m #[.ref (x 0), .ref ar1] below meth c H locs 0 0 (MQ below (va_Qi (fun (res : Int32) (u : Unit) => res = rv) (BU D (TYS cy) (ZW x cy g S ++ va_pl L (pf cy K cf nm S)) (fun _ => ZW x cy g S ++ va_pl L (pf cy K cf nm S)) s.heap.size) (va_A (ZW x cy g S ++ va_pl L (pf cy K cf nm S)) s.heap.size)) #[.ref (x 0), .ref ar1] s 0 0 (va_A (ZW x cy g S ++ va_pl L (pf cy K cf nm S)) s.heap.size)) (F0 m 4 ls []) := by
    intro KK hKK fu
    induction fu with
    | zero =>
      intro v1 v2 v3 H locs ls hF
      exact absurd (show (none : Option (Int32)) = some rv from hF) (by simp)
    | succ fu4 ih4 =>
      intro v1 v2 v3 H locs ls hF mv1 hP hD hS hl
      rw [gX9_heldBy_4] at hF
      refine lv_iload_n hx hb dX9_heldBy_4 rfl (lv_at hl 2 rfl) ?_
      refine lv_aload_n hx hb dX9_heldBy_5 rfl (lv_at hl 3 rfl) ?_
      refine va_get (D := D) (ci := 9) (v := .int (S.1 200 1)) (C := RX9) (T := TX9) (N := 19) hx hb hts iX9_heldBy_9 hown hK hP 0 rfl rfl 11 (by decide) (hts (.fieldLink RX9 88 "FondsRoom" "boxCount" "I") (List.mem_of_getElem? (i := 1) rfl)) (fun _ h9 => h9) rfl dX9_heldBy_6 ?_
      refine lv_icmp_ge (tgt := 34) hx hb dX9_heldBy_9 (by decide) (fun c1 => ?_) (fun c1 => ?_)
      · skip
        have hF := (if_pos c1).symm.trans hF
        exact hKK v2  _ _ _ hF hP hD hS (lv_sub hl [1] rfl)
      · skip
        have hF := (if_neg c1).symm.trans hF
        refine lv_aload_n hx hb dX9_heldBy_12 rfl (lv_at hl 3 rfl) ?_
        refine va_get (D := D) (ci := 9) (v := .ref (x 2)) (C := RX9) (T := TX9) (N := 19) hx hb hts iX9_heldBy_9 hown hK hP 0 rfl rfl 1 (by decide) (hts (.fieldLink RX9 20 "FondsRoom" "boxes" "[LFondsRoom$Box;") (List.mem_of_getElem? (i := 2) rfl)) (fun _ h9 => h9) rfl dX9_heldBy_13 ?_
        refine lv_iload_n hx hb dX9_heldBy_16 rfl (lv_at hl 2 rfl) ?_
        obtain ⟨hi2, b3, eb3, hF⟩ := ga_s hF
        refine va_aldq hx hb hK hP 2 3 rfl rfl hi2 dX9_heldBy_17 ?_
        refine lv_tov (v' := .ref b3) (by rw [eb3]; rfl) ?_
        have mb3 := GO_1 hG hi2 eb3
        refine pg_get (D := D) (ci := 0) (v := va_rf (S.2 4 b3)) (C := RX0) (T := TX0) (N := 6) hx hb hts iX9_heldBy_0 hown hK hP mb3.1 (pf_0 mb3.2) rfl 4 (by decide) (hts (.fieldLink RX9 239 "FondsRoom$Box" "holder" "LFondsRoom$Reader;") (List.mem_of_getElem? (i := 3) rfl)) (fun _ h9 => h9) rfl dX9_heldBy_18 ?_
        obtain ⟨q4, eq4⟩ : ∃ z, z = S.2 4 b3 := ⟨_, rfl⟩
        replace hF := bnd_s hF q4 eq4
        have hq4 : rok L K 6 q4 := by rw [eq4]; exact hT 4 b3
        refine lv_tov (v' := va_rf q4) (by rw [eq4]) ?_
        refine lv_aload_n hx hb dX9_heldBy_21 rfl (lv_at hl 0 rfl) ?_
        refine lv_acmp_ne (rx := q4) (ry := (some v1)) (tgt := 28) hx hb dX9_heldBy_22 (by decide) (fun c5 => ?_) (fun c5 => ?_)
        · skip
          have hF := (if_neg c5).symm.trans hF
          refine lv_iinc (v := v3 + 1) (lv' := [(3, .int (v3 + 1)), (1, .ref v1), (2, .int v2), (0, .ref (x 0))]) hx hb dX9_heldBy_28 hl (k := 2) rfl rfl (by decide) rfl (fun ls hl => ?_)
          refine lv_goto (tgt := 4) hx hb dX9_heldBy_31 (by decide) ?_
          exact ih4 v1 v2 (v3 + 1)  _ _ _ hF ⟨mv1.1, mv1.2⟩ hP hD hS (lv_sub hl [1, 2, 0, 3] rfl)
        · skip
          have hF := (if_pos c5).symm.trans hF
          refine lv_iinc (v := v2 + 1) (lv' := [(2, .int (v2 + 1)), (1, .ref v1), (3, .int v3), (0, .ref (x 0))]) hx hb dX9_heldBy_25 hl (k := 1) rfl rfl (by decide) rfl (fun ls hl => ?_)
          refine lv_iinc (v := v3 + 1) (lv' := [(3, .int (v3 + 1)), (2, .int (v2 + 1)), (1, .ref v1), (0, .ref (x 0))]) hx hb dX9_heldBy_28 hl (k := 2) rfl rfl (by decide) rfl (fun ls hl => ?_)
          refine lv_goto (tgt := 4) hx hb dX9_heldBy_31 (by decide) ?_
          exact ih4 v1 (v2 + 1) (v3 + 1)  _ _ _ hF ⟨mv1.1, mv1.2⟩ hP hD hS (lv_sub hl [2, 1, 0, 3] rfl)
  have hl := lv_entry ([.ref (x 0), .ref ar1]) (n := 4) (Nat.le_of_ble_eq_true rfl)
  rw [lg_entry_eq]
  generalize (lg_sl ([.ref (x 0), .ref ar1]) ++ List.replicate (4 - (lg_sl ([.ref (x 0), .ref ar1])).length) Slot.unset).toArray = ls at hl ⊢
  have hl : lv_has ls 4 [(0, .ref (x 0)), (1, .ref ar1)] := hl
  unfold gX9_heldBy at hF
  refine lv_iconst (v := 0) hx hb dX9_heldBy_0 (by decide) ?_
  refine lv_istore_n (lv' := [(2, .int 0), (0, .ref (x 0)), (1, .ref ar1)]) hx hb dX9_heldBy_1 rfl hl (by decide) rfl (fun ls hl => ?_)
  refine lv_iconst (v := 0) hx hb dX9_heldBy_2 (by decide) ?_
  refine lv_istore_n (lv' := [(3, .int 0), (2, .int 0), (0, .ref (x 0)), (1, .ref ar1)]) hx hb dX9_heldBy_3 rfl hl (by decide) rfl (fun ls hl => ?_)
  refine key4 _ ?_ 1000 ar1 0 0  _ _ _ hF ⟨mar1.1, mar1.2⟩ hP hD hS (lv_sub hl [3, 1, 0, 2] rfl)
  intro v2_6 H locs ls hF hP hD hS hl
  refine lv_iload_n hx hb dX9_heldBy_34 rfl (lv_at hl 0 rfl) ?_
  have e1 := Option.some.inj hF
  exact W.iret (v := v2_6) hx hb hr (fun t ht hW => ⟨⟨v2_6, (), rfl, e1, by rw [ht]; exact hP, va_K.moved hW.alike hK, hD⟩, hS.F ht⟩) hS.2.2 dX9_heldBy_35

theorem iX9_isTakenByAnother_0 : ∀ w ∈ wsX00, w ∈ wsX9_isTakenByAnother := fun _ h => List.mem_cons_of_mem _ (List.mem_append_right _ h)
theorem iX9_isTakenByAnother_9 : ∀ w ∈ wsX90, w ∈ wsX9_isTakenByAnother := fun _ h => List.mem_cons_of_mem _ (List.mem_append_left _ (List.mem_append_right _ h))
set_option maxHeartbeats 8000000 in
set_option maxRecDepth 100000 in
theorem zX9_isTakenByAnother (l : Launch) (D : va_G) (x : Nat → Nat) (cy : Nat → ClassId) (g : Nat → Nat → Option Nat) (L : List Nat) (K : Nat → Nat) (cf : Nat → Nat → Nat) (nm : Nat → Int32) (hG : GO L K g) (hL : PL L K cf) (S : CS) (hT : WT L K S.2) (sz : Nat) (ar1 : Int32) (ar2 : Nat) (mar2 : ar2 ∈ L ∧ K ar2 = 6) (rv : Int32) (hF : gX9_isTakenByAnother g cf nm S ar1 ar2 = some rv) : Met l yX9_isTakenByAnother wsX9_isTakenByAnother ({ frames := 0, cells := 0, slots := 0, locals := 0 }) (PW D (TYS cy) (ZW x cy g S ++ va_pl L (pf cy K cf nm S)) sz [.ref (x 0), .int ar1, .ref ar2]) (va_Qi (fun (res : Int32) (u : Unit) => res = rv ∧ b01 rv) (BU D (TYS cy) (ZW x cy g S ++ va_pl L (pf cy K cf nm S)) (fun _ => ZW x cy g S ++ va_pl L (pf cy K cf nm S)) sz) (va_A (ZW x cy g S ++ va_pl L (pf cy K cf nm S)) sz)) 0 0 (va_A (ZW x cy g S ++ va_pl L (pf cy K cf nm S)) sz) := by
  refine Met.ofW (cc := cX9_isTakenByAnother) (maxL := 6) (ret := (some .boolean)) (by decide) rfl ?_
  intro p e s m args below meth c s₁ B hml hv
  obtain ⟨rfl, hsz, hP, hK, hD0⟩ := hv
  have hx := B.exec
  have hb := B.bytes
  have hr := B.returns
  have hts := atoms_spec (ws := wsX9_isTakenByAnother) B.pre
  have hown : s.vm.findClass RX9 = some m.cls := findClass_of_methodNamed B.named
  have hlocks := B.notSynchronized
  subst hsz
  have hD := hD0.self (sz := s.heap.size)
  have hA : ∀ q9 : Nat, s.heap.size ≤ q9 → va_A (ZW x cy g S ++ va_pl L (pf cy K cf nm S)) s.heap.size q9 := fun q9 h => Or.inr h
  have hS : va_S (va_A (ZW x cy g S ++ va_pl L (pf cy K cf nm S)) s.heap.size) s.heap s.heap [] := va_S.rf
  have key2 : ∀ (KK : Option (Int32)), (∀  (H : Heap) (locs : List Loc) (ls : Array Slot), KK  = some rv → va_P D vwCl (ZW x cy g S ++ va_pl L (pf cy K cf nm S)) H → va_D (va_A (ZW x cy g S ++ va_pl L (pf cy K cf nm S)) s.heap.size) (ZW x cy g S ++ va_pl L (pf cy K cf nm S)) → va_S (va_A (ZW x cy g S ++ va_pl L (pf cy K cf nm S)) s.heap.size) s.heap H locs → lv_has ls 6 [] → W p l e (headSpec wsX9_isTakenByAnother ({ frames := 0, cells := 0, slots := 0, locals := 0 })).room s m #[.ref (x 0), .int ar1, .ref ar2] below meth c H locs 0 0 (MQ below (va_Qi (fun (res : Int32) (u : Unit) => res = rv ∧ b01 rv) (BU D (TYS cy) (ZW x cy g S ++ va_pl L (pf cy K cf nm S)) (fun _ => ZW x cy g S ++ va_pl L (pf cy K cf nm S)) s.heap.size) (va_A (ZW x cy g S ++ va_pl L (pf cy K cf nm S)) s.heap.size)) #[.ref (x 0), .int ar1, .ref ar2] s 0 0 (va_A (ZW x cy g S ++ va_pl L (pf cy K cf nm S)) s.heap.size)) (F0 m 69 ls [])) → ∀ (fu : Nat) (v1 : Int32) (v2 : Nat) (v3 : Int32) (H : Heap) (locs : List Loc) (ls : Array Slot), gX9_isTakenByAnother_2 S g cf nm KK fu v1 v2 v3 = some rv → (v2 ∈ L ∧ K v2 = 6) → va_P D vwCl (ZW x cy g S ++ va_pl L (pf cy K cf nm S)) H → va_D (va_A (ZW x cy g S ++ va_pl L (pf cy K cf nm S)) s.heap.size) (ZW x cy g S ++ va_pl L (pf cy K cf nm S)) → va_S (va_A (ZW x cy g S ++ va_pl L (pf cy K cf nm S)) s.heap.size) s.heap H locs → lv_has ls 6 [(1, .int v1), (2, .ref v2), (3, .int v3), (0, .ref (x 0))] → W p l e (headSpec wsX9_isTakenByAnother ({ frames := 0, cells := 0, slots := 0, locals := 0 })).room s m #[.ref (x 0), .int ar1, .ref ar2] below meth c H locs 0 0 (MQ below (va_Qi (fun (res : Int32) (u : Unit) => res = rv ∧ b01 rv) (BU D (TYS cy) (ZW x cy g S ++ va_pl L (pf cy K cf nm S)) (fun _ => ZW x cy g S ++ va_pl L (pf cy K cf nm S)) s.heap.size) (va_A (ZW x cy g S ++ va_pl L (pf cy K cf nm S)) s.heap.size)) #[.ref (x 0), .int ar1, .ref ar2] s 0 0 (va_A (ZW x cy g S ++ va_pl L (pf cy K cf nm S)) s.heap.size)) (F0 m 2 ls []) := by
    intro KK hKK fu
    induction fu with
    | zero =>
      intro v1 v2 v3 H locs ls hF
      exact absurd (show (none : Option (Int32)) = some rv from hF) (by simp)
    | succ fu2 ih2 =>
      intro v1 v2 v3 H locs ls hF mv2 hP hD hS hl
      rw [gX9_isTakenByAnother_2] at hF
      refine lv_iload_n hx hb dX9_isTakenByAnother_2 rfl (lv_at hl 2 rfl) ?_
      refine lv_aload_n hx hb dX9_isTakenByAnother_3 rfl (lv_at hl 3 rfl) ?_
      refine va_get (D := D) (ci := 9) (v := .int (S.1 200 1)) (C := RX9) (T := TX9) (N := 19) hx hb hts iX9_isTakenByAnother_9 hown hK hP 0 rfl rfl 11 (by decide) (hts (.fieldLink RX9 88 "FondsRoom" "boxCount" "I") (List.mem_of_getElem? (i := 1) rfl)) (fun _ h9 => h9) rfl dX9_isTakenByAnother_4 ?_
      refine lv_icmp_ge (tgt := 69) hx hb dX9_isTakenByAnother_7 (by decide) (fun c1 => ?_) (fun c1 => ?_)
      · skip
        have hF := (if_pos c1).symm.trans hF
        exact hKK   _ _ _ hF hP hD hS (lv_sub hl [] rfl)
      · skip
        have hF := (if_neg c1).symm.trans hF
        refine lv_aload_n hx hb dX9_isTakenByAnother_10 rfl (lv_at hl 3 rfl) ?_
        refine va_get (D := D) (ci := 9) (v := .ref (x 2)) (C := RX9) (T := TX9) (N := 19) hx hb hts iX9_isTakenByAnother_9 hown hK hP 0 rfl rfl 1 (by decide) (hts (.fieldLink RX9 20 "FondsRoom" "boxes" "[LFondsRoom$Box;") (List.mem_of_getElem? (i := 2) rfl)) (fun _ h9 => h9) rfl dX9_isTakenByAnother_11 ?_
        refine lv_iload_n hx hb dX9_isTakenByAnother_14 rfl (lv_at hl 2 rfl) ?_
        obtain ⟨hi2, b3, eb3, hF⟩ := ga_s hF
        refine va_aldq hx hb hK hP 2 3 rfl rfl hi2 dX9_isTakenByAnother_15 ?_
        refine lv_tov (v' := .ref b3) (by rw [eb3]; rfl) ?_
        have mb3 := GO_1 hG hi2 eb3
        refine lv_astore (lv' := [(4, .ref b3), (1, .int v1), (2, .ref v2), (3, .int v3), (0, .ref (x 0))]) hx hb dX9_isTakenByAnother_16 hl (by decide) rfl (fun ls hl => ?_)
        refine lv_aload hx hb dX9_isTakenByAnother_18 (lv_at hl 0 rfl) ?_
        refine pg_get (D := D) (ci := 0) (v := va_rf (S.2 4 b3)) (C := RX0) (T := TX0) (N := 6) hx hb hts iX9_isTakenByAnother_0 hown hK hP mb3.1 (pf_0 mb3.2) rfl 4 (by decide) (hts (.fieldLink RX9 239 "FondsRoom$Box" "holder" "LFondsRoom$Reader;") (List.mem_of_getElem? (i := 3) rfl)) (fun _ h9 => h9) rfl dX9_isTakenByAnother_20 ?_
        obtain ⟨q4, eq4⟩ : ∃ z, z = S.2 4 b3 := ⟨_, rfl⟩
        replace hF := bnd_s hF q4 eq4
        have hq4 : rok L K 6 q4 := by rw [eq4]; exact hT 4 b3
        refine lv_tov (v' := va_rf q4) (by rw [eq4]) ?_
        rcases eb5 : q4 with _ | b5
        · skip
          subst eb5
          replace hF := oc_n hF
          have hl : lv_has ls 6 [(4, .ref b3), (1, .int v1), (2, .ref v2), (3, .int v3), (0, .ref (x 0))] := hl
          refine W.eq (g2 := F0 m 23 ls [.null]) rfl ?_
          refine lv_ifnullN (tgt := 34) hx hb dX9_isTakenByAnother_23 (by decide) ?_
          refine lv_aload hx hb dX9_isTakenByAnother_34 (lv_at hl 0 rfl) ?_
          refine pg_get (D := D) (ci := 0) (v := va_rf (S.2 5 b3)) (C := RX0) (T := TX0) (N := 6) hx hb hts iX9_isTakenByAnother_0 hown hK hP mb3.1 (pf_0 mb3.2) rfl 5 (by decide) (hts (.fieldLink RX9 260 "FondsRoom$Box" "wanter" "LFondsRoom$Reader;") (List.mem_of_getElem? (i := 4) rfl)) (fun _ h9 => h9) rfl dX9_isTakenByAnother_36 ?_
          obtain ⟨q6, eq6⟩ : ∃ z, z = S.2 5 b3 := ⟨_, rfl⟩
          replace hF := bnd_s hF q6 eq6
          have hq6 : rok L K 6 q6 := by rw [eq6]; exact hT 5 b3
          refine lv_tov (v' := va_rf q6) (by rw [eq6]) ?_
          refine lq_astore (lv' := [(5, va_rf q6), (4, .ref b3), (1, .int v1), (2, .ref v2), (3, .int v3), (0, .ref (x 0))]) hx hb dX9_isTakenByAnother_39 hl (by decide) rfl (fun ls hl => ?_)
          refine lv_aload hx hb dX9_isTakenByAnother_41 (lv_at hl 1 rfl) ?_
          refine pg_get (D := D) (ci := 0) (v := .int (S.1 1 b3)) (C := RX0) (T := TX0) (N := 6) hx hb hts iX9_isTakenByAnother_0 hown hK hP mb3.1 (pf_0 mb3.2) rfl 1 (by decide) (hts (.fieldLink RX9 95 "FondsRoom$Box" "fonds" "I") (List.mem_of_getElem? (i := 5) rfl)) (fun _ h9 => h9) rfl dX9_isTakenByAnother_43 ?_
          refine lv_iload_n hx hb dX9_isTakenByAnother_46 rfl (lv_at hl 2 rfl) ?_
          refine lv_icmp_ne (tgt := 63) hx hb dX9_isTakenByAnother_47 (by decide) (fun c7 => ?_) (fun c7 => ?_)
          · skip
            have hF := (if_neg c7).symm.trans hF
            refine lv_iinc (v := v3 + 1) (lv' := [(3, .int (v3 + 1)), (5, va_rf q6), (4, .ref b3), (1, .int v1), (2, .ref v2), (0, .ref (x 0))]) hx hb dX9_isTakenByAnother_63 hl (k := 4) rfl rfl (by decide) rfl (fun ls hl => ?_)
            refine lv_goto (tgt := 2) hx hb dX9_isTakenByAnother_66 (by decide) ?_
            exact ih2 v1 v2 (v3 + 1)  _ _ _ hF ⟨mv2.1, mv2.2⟩ hP hD hS (lv_sub hl [3, 4, 0, 5] rfl)
          · skip
            have hF := (if_pos c7).symm.trans hF
            refine lq_aload hx hb dX9_isTakenByAnother_50 (lv_at hl 0 rfl) ?_
            rcases eb8 : q6 with _ | b8
            · skip
              subst eb8
              replace hF := oc_n hF
              have hl : lv_has ls 6 [(5, .null), (4, .ref b3), (1, .int v1), (2, .ref v2), (3, .int v3), (0, .ref (x 0))] := hl
              refine W.eq (g2 := F0 m 52 ls [.null]) rfl ?_
              refine lv_ifnullN (tgt := 63) hx hb dX9_isTakenByAnother_52 (by decide) ?_
              refine lv_iinc (v := v3 + 1) (lv' := [(3, .int (v3 + 1)), (5, .null), (4, .ref b3), (1, .int v1), (2, .ref v2), (0, .ref (x 0))]) hx hb dX9_isTakenByAnother_63 hl (k := 4) rfl rfl (by decide) rfl (fun ls hl => ?_)
              refine lv_goto (tgt := 2) hx hb dX9_isTakenByAnother_66 (by decide) ?_
              exact ih2 v1 v2 (v3 + 1)  _ _ _ hF ⟨mv2.1, mv2.2⟩ hP hD hS (lv_sub hl [3, 4, 0, 5] rfl)
            · skip
              subst eb8
              replace hF := oc_b hF
              have mb8 := hq6 b8 rfl
              have hl : lv_has ls 6 [(5, .ref b8), (4, .ref b3), (1, .int v1), (2, .ref v2), (3, .int v3), (0, .ref (x 0))] := hl
              refine W.eq (g2 := F0 m 52 ls [.ref b8]) rfl ?_
              refine lv_ifnull hx hb dX9_isTakenByAnother_52 ?_
              refine lv_aload hx hb dX9_isTakenByAnother_55 (lv_at hl 0 rfl) ?_
              refine lv_aload_n hx hb dX9_isTakenByAnother_57 rfl (lv_at hl 3 rfl) ?_
              refine lv_acmp_eq (rx := (some b8)) (ry := (some v2)) (tgt := 63) hx hb dX9_isTakenByAnother_58 (by decide) (fun c9 => ?_) (fun c9 => ?_)
              · skip
                have hF := (if_pos c9).symm.trans hF
                refine lv_iinc (v := v3 + 1) (lv' := [(3, .int (v3 + 1)), (5, .ref b8), (4, .ref b3), (1, .int v1), (2, .ref v2), (0, .ref (x 0))]) hx hb dX9_isTakenByAnother_63 hl (k := 4) rfl rfl (by decide) rfl (fun ls hl => ?_)
                refine lv_goto (tgt := 2) hx hb dX9_isTakenByAnother_66 (by decide) ?_
                exact ih2 v1 v2 (v3 + 1)  _ _ _ hF ⟨mv2.1, mv2.2⟩ hP hD hS (lv_sub hl [3, 4, 0, 5] rfl)
              · skip
                have hF := (if_neg c9).symm.trans hF
                refine lv_iconst (v := 1) hx hb dX9_isTakenByAnother_61 (by decide) ?_
                have e1 := Option.some.inj hF
                exact W.zret (v := 1) hx hb hr (nz01 (Or.inr rfl)).1 (fun t ht hW => ⟨⟨1, (), rfl, ⟨e1, by rw [← e1]; exact Or.inr rfl⟩, by rw [ht]; exact hP, va_K.moved hW.alike hK, hD⟩, hS.F ht⟩) hS.2.2 dX9_isTakenByAnother_62
        · skip
          subst eb5
          replace hF := oc_b hF
          have mb5 := hq4 b5 rfl
          have hl : lv_has ls 6 [(4, .ref b3), (1, .int v1), (2, .ref v2), (3, .int v3), (0, .ref (x 0))] := hl
          refine W.eq (g2 := F0 m 23 ls [.ref b5]) rfl ?_
          refine lv_ifnull hx hb dX9_isTakenByAnother_23 ?_
          refine lv_aload hx hb dX9_isTakenByAnother_26 (lv_at hl 0 rfl) ?_
          refine pg_get (D := D) (ci := 0) (v := va_rf (S.2 4 b3)) (C := RX0) (T := TX0) (N := 6) hx hb hts iX9_isTakenByAnother_0 hown hK hP mb3.1 (pf_0 mb3.2) rfl 4 (by decide) (hts (.fieldLink RX9 239 "FondsRoom$Box" "holder" "LFondsRoom$Reader;") (List.mem_of_getElem? (i := 3) rfl)) (fun _ h9 => h9) rfl dX9_isTakenByAnother_28 ?_
          obtain ⟨q10, eq10⟩ : ∃ z, z = S.2 4 b3 := ⟨_, rfl⟩
          replace hF := bnd_s hF q10 eq10
          have hq10 : rok L K 6 q10 := by rw [eq10]; exact hT 4 b3
          refine lv_tov (v' := va_rf q10) (by rw [eq10]) ?_
          refine lv_goto (tgt := 39) hx hb dX9_isTakenByAnother_31 (by decide) ?_
          refine lq_astore (lv' := [(5, va_rf q10), (4, .ref b3), (1, .int v1), (2, .ref v2), (3, .int v3), (0, .ref (x 0))]) hx hb dX9_isTakenByAnother_39 hl (by decide) rfl (fun ls hl => ?_)
          refine lv_aload hx hb dX9_isTakenByAnother_41 (lv_at hl 1 rfl) ?_
          refine pg_get (D := D) (ci := 0) (v := .int (S.1 1 b3)) (C := RX0) (T := TX0) (N := 6) hx hb hts iX9_isTakenByAnother_0 hown hK hP mb3.1 (pf_0 mb3.2) rfl 1 (by decide) (hts (.fieldLink RX9 95 "FondsRoom$Box" "fonds" "I") (List.mem_of_getElem? (i := 5) rfl)) (fun _ h9 => h9) rfl dX9_isTakenByAnother_43 ?_
          refine lv_iload_n hx hb dX9_isTakenByAnother_46 rfl (lv_at hl 2 rfl) ?_
          refine lv_icmp_ne (tgt := 63) hx hb dX9_isTakenByAnother_47 (by decide) (fun c11 => ?_) (fun c11 => ?_)
          · skip
            have hF := (if_neg c11).symm.trans hF
            refine lv_iinc (v := v3 + 1) (lv' := [(3, .int (v3 + 1)), (5, va_rf q10), (4, .ref b3), (1, .int v1), (2, .ref v2), (0, .ref (x 0))]) hx hb dX9_isTakenByAnother_63 hl (k := 4) rfl rfl (by decide) rfl (fun ls hl => ?_)
            refine lv_goto (tgt := 2) hx hb dX9_isTakenByAnother_66 (by decide) ?_
            exact ih2 v1 v2 (v3 + 1)  _ _ _ hF ⟨mv2.1, mv2.2⟩ hP hD hS (lv_sub hl [3, 4, 0, 5] rfl)
          · skip
            have hF := (if_pos c11).symm.trans hF
            refine lq_aload hx hb dX9_isTakenByAnother_50 (lv_at hl 0 rfl) ?_
            rcases eb12 : q10 with _ | b12
            · skip
              subst eb12
              replace hF := oc_n hF
              have hl : lv_has ls 6 [(5, .null), (4, .ref b3), (1, .int v1), (2, .ref v2), (3, .int v3), (0, .ref (x 0))] := hl
              refine W.eq (g2 := F0 m 52 ls [.null]) rfl ?_
              refine lv_ifnullN (tgt := 63) hx hb dX9_isTakenByAnother_52 (by decide) ?_
              refine lv_iinc (v := v3 + 1) (lv' := [(3, .int (v3 + 1)), (5, .null), (4, .ref b3), (1, .int v1), (2, .ref v2), (0, .ref (x 0))]) hx hb dX9_isTakenByAnother_63 hl (k := 4) rfl rfl (by decide) rfl (fun ls hl => ?_)
              refine lv_goto (tgt := 2) hx hb dX9_isTakenByAnother_66 (by decide) ?_
              exact ih2 v1 v2 (v3 + 1)  _ _ _ hF ⟨mv2.1, mv2.2⟩ hP hD hS (lv_sub hl [3, 4, 0, 5] rfl)
            · skip
              subst eb12
              replace hF := oc_b hF
              have mb12 := hq10 b12 rfl
              have hl : lv_has ls 6 [(5, .ref b12), (4, .ref b3), (1, .int v1), (2, .ref v2), (3, .int v3), (0, .ref (x 0))] := hl
              refine W.eq (g2 := F0 m 52 ls [.ref b12]) rfl ?_
              refine lv_ifnull hx hb dX9_isTakenByAnother_52 ?_
              refine lv_aload hx hb dX9_isTakenByAnother_55 (lv_at hl 0 rfl) ?_
              refine lv_aload_n hx hb dX9_isTakenByAnother_57 rfl (lv_at hl 3 rfl) ?_
              refine lv_acmp_eq (rx := (some b12)) (ry := (some v2)) (tgt := 63) hx hb dX9_isTakenByAnother_58 (by decide) (fun c13 => ?_) (fun c13 => ?_)
              · skip
                have hF := (if_pos c13).symm.trans hF
                refine lv_iinc (v := v3 + 1) (lv' := [(3, .int (v3 + 1)), (5, .ref b12), (4, .ref b3), (1, .int v1), (2, .ref v2), (0, .ref (x 0))]) hx hb dX9_isTakenByAnother_63 hl (k := 4) rfl rfl (by decide) rfl (fun ls hl => ?_)
                refine lv_goto (tgt := 2) hx hb dX9_isTakenByAnother_66 (by decide) ?_
                exact ih2 v1 v2 (v3 + 1)  _ _ _ hF ⟨mv2.1, mv2.2⟩ hP hD hS (lv_sub hl [3, 4, 0, 5] rfl)
              · skip
                have hF := (if_neg c13).symm.trans hF
                refine lv_iconst (v := 1) hx hb dX9_isTakenByAnother_61 (by decide) ?_
                have e1 := Option.some.inj hF
                exact W.zret (v := 1) hx hb hr (nz01 (Or.inr rfl)).1 (fun t ht hW => ⟨⟨1, (), rfl, ⟨e1, by rw [← e1]; exact Or.inr rfl⟩, by rw [ht]; exact hP, va_K.moved hW.alike hK, hD⟩, hS.F ht⟩) hS.2.2 dX9_isTakenByAnother_62
  have hl := lv_entry ([.ref (x 0), .int ar1, .ref ar2]) (n := 6) (Nat.le_of_ble_eq_true rfl)
  rw [lg_entry_eq]
  generalize (lg_sl ([.ref (x 0), .int ar1, .ref ar2]) ++ List.replicate (6 - (lg_sl ([.ref (x 0), .int ar1, .ref ar2])).length) Slot.unset).toArray = ls at hl ⊢
  have hl : lv_has ls 6 [(0, .ref (x 0)), (1, .int ar1), (2, .ref ar2)] := hl
  unfold gX9_isTakenByAnother at hF
  refine lv_iconst (v := 0) hx hb dX9_isTakenByAnother_0 (by decide) ?_
  refine lv_istore_n (lv' := [(3, .int 0), (0, .ref (x 0)), (1, .int ar1), (2, .ref ar2)]) hx hb dX9_isTakenByAnother_1 rfl hl (by decide) rfl (fun ls hl => ?_)
  refine key2 _ ?_ 1000 ar1 ar2 0  _ _ _ hF ⟨mar2.1, mar2.2⟩ hP hD hS (lv_sub hl [2, 3, 0, 1] rfl)
  intro  H locs ls hF hP hD hS hl
  refine lv_iconst (v := 0) hx hb dX9_isTakenByAnother_69 (by decide) ?_
  have e1 := Option.some.inj hF
  exact W.zret (v := 0) hx hb hr (nz01 (Or.inl rfl)).1 (fun t ht hW => ⟨⟨0, (), rfl, ⟨e1, by rw [← e1]; exact Or.inl rfl⟩, by rw [ht]; exact hP, va_K.moved hW.alike hK, hD⟩, hS.F ht⟩) hS.2.2 dX9_isTakenByAnother_70

theorem iX9_ruleAgainst_0 : ∀ w ∈ wsX00, w ∈ wsX9_ruleAgainst := fun _ h => List.mem_cons_of_mem _ (List.mem_append_left _ (List.mem_append_left _ (List.mem_append_left _ (List.mem_append_right _ h))))
theorem iX9_ruleAgainst_1 : ∀ w ∈ wsX10, w ∈ wsX9_ruleAgainst := fun _ h => List.mem_cons_of_mem _ (List.mem_append_left _ (List.mem_append_right _ h))
theorem iX9_ruleAgainst_6 : ∀ w ∈ wsX60, w ∈ wsX9_ruleAgainst := fun _ h => List.mem_cons_of_mem _ (List.mem_append_left _ (List.mem_append_left _ (List.mem_append_right _ h)))
set_option maxHeartbeats 8000000 in
set_option maxRecDepth 100000 in
theorem zX9_ruleAgainst (l : Launch) (D : va_G) (x : Nat → Nat) (cy : Nat → ClassId) (g : Nat → Nat → Option Nat) (L : List Nat) (K : Nat → Nat) (cf : Nat → Nat → Nat) (nm : Nat → Int32) (hG : GO L K g) (hL : PL L K cf) (S : CS) (hT : WT L K S.2) (sz : Nat) (ar1 : Nat) (ar2 : Nat) (mar1 : ar1 ∈ L ∧ K ar1 = 6) (mar2 : ar2 ∈ L ∧ K ar2 = 0) (rv : Int32) (hF : gX9_ruleAgainst g cf nm S ar1 ar2 = some rv) : Met l yX9_ruleAgainst wsX9_ruleAgainst ({ frames := 1, cells := 0, slots := 0, locals := 25 }) (PW D (TYS cy) (ZW x cy g S ++ va_pl L (pf cy K cf nm S)) sz [.ref (x 0), .ref ar1, .ref ar2]) (va_Qi (fun (res : Int32) (u : Unit) => res = rv) (BU D (TYS cy) (ZW x cy g S ++ va_pl L (pf cy K cf nm S)) (fun _ => ZW x cy g S ++ va_pl L (pf cy K cf nm S)) sz) (va_A (ZW x cy g S ++ va_pl L (pf cy K cf nm S)) sz)) 0 0 (va_A (ZW x cy g S ++ va_pl L (pf cy K cf nm S)) sz) := by
  refine Met.ofW (cc := cX9_ruleAgainst) (maxL := 3) (ret := (some .int)) (by decide) rfl ?_
  intro p e s m args below meth c s₁ B hml hv
  obtain ⟨rfl, hsz, hP, hK, hD0⟩ := hv
  have hx := B.exec
  have hb := B.bytes
  have hr := B.returns
  have hts := atoms_spec (ws := wsX9_ruleAgainst) B.pre
  have hown : s.vm.findClass RX9 = some m.cls := findClass_of_methodNamed B.named
  have hlocks := B.notSynchronized
  subst hsz
  have hD := hD0.self (sz := s.heap.size)
  have hA : ∀ q9 : Nat, s.heap.size ≤ q9 → va_A (ZW x cy g S ++ va_pl L (pf cy K cf nm S)) s.heap.size q9 := fun q9 h => Or.inr h
  have hS : va_S (va_A (ZW x cy g S ++ va_pl L (pf cy K cf nm S)) s.heap.size) s.heap s.heap [] := va_S.rf
  have hl := lv_entry ([.ref (x 0), .ref ar1, .ref ar2]) (n := 3) (Nat.le_of_ble_eq_true rfl)
  rw [lg_entry_eq]
  generalize (lg_sl ([.ref (x 0), .ref ar1, .ref ar2]) ++ List.replicate (3 - (lg_sl ([.ref (x 0), .ref ar1, .ref ar2])).length) Slot.unset).toArray = ls at hl ⊢
  have hl : lv_has ls 3 [(0, .ref (x 0)), (1, .ref ar1), (2, .ref ar2)] := hl
  unfold gX9_ruleAgainst at hF
  refine lv_aload_n hx hb dX9_ruleAgainst_0 rfl (lv_at hl 0 rfl) ?_
  refine lv_aload_n hx hb dX9_ruleAgainst_1 rfl (lv_at hl 1 rfl) ?_
  obtain ⟨r1, hq4, hF⟩ := bd1_s hF
  refine gvI (As := [.ref ar1]) (rest := []) ⟨hx, hb, hml, hown, hts⟩ (zX9_heldBy l D x cy g L K cf nm hG hL S hT _ ar1 ⟨mar1.1, mar1.2⟩ r1 hq4) (cwV 1 hts gX9_ruleAgainst_X9_heldBy rfl rfl rfl (by decide +kernel) ⟨Nat.le_of_ble_eq_true rfl, Nat.le_of_ble_eq_true rfl⟩) hK hP hD hS hA (va_recv hK hP (ci := 9) (q0 := 0) rfl rfl) rfl hl.1 rfl (Nat.le_of_ble_eq_true rfl) dX9_ruleAgainst_2 ⟨Nat.le_of_ble_eq_true rfl, Nat.le_of_ble_eq_true rfl⟩ (fun a5 u9 H locs hw3 hP hD hS => ?_)
  have hP : va_P D vwCl (ZW x cy g S ++ va_pl L (pf cy K cf nm S)) H := hP
  have hD : va_D _ (ZW x cy g S ++ va_pl L (pf cy K cf nm S)) := hD
  refine lv_tov (v' := .int r1) (congrArg Value.int hw3) ?_
  refine lv_iconst (v := 3) hx hb dX9_ruleAgainst_5 (by decide) ?_
  refine lv_icmp_lt (tgt := 11) hx hb dX9_ruleAgainst_6 (by decide) (fun c6 => ?_) (fun c6 => ?_)
  · skip
    have hF := (if_pos c6).symm.trans hF
    refine lv_aload_n hx hb dX9_ruleAgainst_11 rfl (lv_at hl 2 rfl) ?_
    refine pg_get (D := D) (ci := 0) (v := .int (S.1 2 ar2)) (C := RX0) (T := TX0) (N := 6) hx hb hts iX9_ruleAgainst_0 hown hK hP mar2.1 (pf_0 mar2.2) rfl 2 (by decide) (hts (.fieldLink RX9 98 "FondsRoom$Box" "precious" "Z") (List.mem_of_getElem? (i := 1) rfl)) (fun _ h9 => h9) rfl dX9_ruleAgainst_12 ?_
    refine lv_if_eq (tgt := 37) hx hb dX9_ruleAgainst_15 (by decide) (fun c7 => ?_) (fun c7 => ?_)
    · skip
      have hF := (if_pos c7).symm.trans hF
      refine lv_aload_n hx hb dX9_ruleAgainst_37 rfl (lv_at hl 2 rfl) ?_
      refine pg_get (D := D) (ci := 0) (v := va_rf (S.2 4 ar2)) (C := RX0) (T := TX0) (N := 6) hx hb hts iX9_ruleAgainst_0 hown hK hP mar2.1 (pf_0 mar2.2) rfl 4 (by decide) (hts (.fieldLink RX9 239 "FondsRoom$Box" "holder" "LFondsRoom$Reader;") (List.mem_of_getElem? (i := 4) rfl)) (fun _ h9 => h9) rfl dX9_ruleAgainst_38 ?_
      obtain ⟨q8, eq8⟩ : ∃ z, z = S.2 4 ar2 := ⟨_, rfl⟩
      replace hF := bnd_s hF q8 eq8
      have hq8 : rok L K 6 q8 := by rw [eq8]; exact hT 4 ar2
      refine lv_tov (v' := va_rf q8) (by rw [eq8]) ?_
      refine lv_aload_n hx hb dX9_ruleAgainst_41 rfl (lv_at hl 1 rfl) ?_
      refine lv_acmp_ne (rx := q8) (ry := (some ar1)) (tgt := 47) hx hb dX9_ruleAgainst_42 (by decide) (fun c9 => ?_) (fun c9 => ?_)
      · skip
        have hF := (if_neg c9).symm.trans hF
        refine lv_aload_n hx hb dX9_ruleAgainst_47 rfl (lv_at hl 0 rfl) ?_
        refine lv_aload_n hx hb dX9_ruleAgainst_48 rfl (lv_at hl 2 rfl) ?_
        refine pg_get (D := D) (ci := 0) (v := .int (S.1 1 ar2)) (C := RX0) (T := TX0) (N := 6) hx hb hts iX9_ruleAgainst_0 hown hK hP mar2.1 (pf_0 mar2.2) rfl 1 (by decide) (hts (.fieldLink RX9 95 "FondsRoom$Box" "fonds" "I") (List.mem_of_getElem? (i := 5) rfl)) (fun _ h9 => h9) rfl dX9_ruleAgainst_49 ?_
        refine lv_aload_n hx hb dX9_ruleAgainst_52 rfl (lv_at hl 1 rfl) ?_
        obtain ⟨r10, hq13, hF⟩ := bd1_s hF
        refine gvI (As := [.int (S.1 1 ar2), .ref ar1]) (rest := []) ⟨hx, hb, hml, hown, hts⟩ (zX9_isTakenByAnother l D x cy g L K cf nm hG hL S hT _ (S.1 1 ar2) ar1 ⟨mar1.1, mar1.2⟩ r10 hq13) (cwV 2 hts gX9_ruleAgainst_X9_isTakenByAnother rfl rfl rfl (by decide +kernel) ⟨Nat.le_of_ble_eq_true rfl, Nat.le_of_ble_eq_true rfl⟩) hK hP hD hS hA (va_recv hK hP (ci := 9) (q0 := 0) rfl rfl) rfl hl.1 rfl (Nat.le_of_ble_eq_true rfl) dX9_ruleAgainst_53 ⟨Nat.le_of_ble_eq_true rfl, Nat.le_of_ble_eq_true rfl⟩ (fun a14 u9 H locs hw12 hP hD hS => ?_)
        have hP : va_P D vwCl (ZW x cy g S ++ va_pl L (pf cy K cf nm S)) H := hP
        have hD : va_D _ (ZW x cy g S ++ va_pl L (pf cy K cf nm S)) := hD
        refine lv_tov (v' := .int r10) (congrArg Value.int hw12.1) ?_
        refine lv_if_eq (tgt := 61) hx hb dX9_ruleAgainst_56 (by decide) (fun c15 => ?_) (fun c15 => ?_)
        · skip
          have hF := (if_pos c15).symm.trans hF
          refine lv_iconst (v := (-1)) hx hb dX9_ruleAgainst_61 (by decide) ?_
          have e1 := Option.some.inj hF
          exact W.iret (v := (-1)) hx hb hr (fun t ht hW => ⟨⟨(-1), (), rfl, e1, by rw [ht]; exact hP, va_K.moved hW.alike hK, hD⟩, hS.F ht⟩) hS.2.2 dX9_ruleAgainst_62
        · skip
          have hF := (if_neg c15).symm.trans hF
          refine lv_iconst (v := 4) hx hb dX9_ruleAgainst_59 (by decide) ?_
          have e1 := Option.some.inj hF
          exact W.iret (v := 4) hx hb hr (fun t ht hW => ⟨⟨4, (), rfl, e1, by rw [ht]; exact hP, va_K.moved hW.alike hK, hD⟩, hS.F ht⟩) hS.2.2 dX9_ruleAgainst_60
      · skip
        have hF := (if_pos c9).symm.trans hF
        refine lv_iconst (v := 3) hx hb dX9_ruleAgainst_45 (by decide) ?_
        have e1 := Option.some.inj hF
        exact W.iret (v := 3) hx hb hr (fun t ht hW => ⟨⟨3, (), rfl, e1, by rw [ht]; exact hP, va_K.moved hW.alike hK, hD⟩, hS.F ht⟩) hS.2.2 dX9_ruleAgainst_46
    · skip
      have hF := (if_neg c7).symm.trans hF
      refine lv_aload_n hx hb dX9_ruleAgainst_18 rfl (lv_at hl 1 rfl) ?_
      refine pg_get (D := D) (ci := 6) (v := va_rf (S.2 127 ar1)) (C := RX6) (T := TX6) (N := 17) hx hb hts iX9_ruleAgainst_6 hown hK hP mar1.1 (pf_6 mar1.2) rfl 7 (by decide) (hts (.fieldLink RX9 328 "FondsRoom$Reader" "desk" "LFondsRoom$Desk;") (List.mem_of_getElem? (i := 2) rfl)) (fun _ h9 => h9) rfl dX9_ruleAgainst_19 ?_
      obtain ⟨q16, eq16⟩ : ∃ z, z = S.2 127 ar1 := ⟨_, rfl⟩
      replace hF := bnd_s hF q16 eq16
      have hq16 : rok L K 1 q16 := by rw [eq16]; exact hT 127 ar1
      refine lv_tov (v' := va_rf q16) (by rw [eq16]) ?_
      rcases eb17 : q16 with _ | b17
      · skip
        subst eb17
        replace hF := oc_n hF
        have hl : lv_has ls 3 [(0, .ref (x 0)), (1, .ref ar1), (2, .ref ar2)] := hl
        refine W.eq (g2 := F0 m 22 ls [.null]) rfl ?_
        refine lv_ifnullN (tgt := 35) hx hb dX9_ruleAgainst_22 (by decide) ?_
        refine lv_iconst (v := 2) hx hb dX9_ruleAgainst_35 (by decide) ?_
        have e1 := Option.some.inj hF
        exact W.iret (v := 2) hx hb hr (fun t ht hW => ⟨⟨2, (), rfl, e1, by rw [ht]; exact hP, va_K.moved hW.alike hK, hD⟩, hS.F ht⟩) hS.2.2 dX9_ruleAgainst_36
      · skip
        subst eb17
        replace hF := oc_b hF
        have mb17 := hq16 b17 rfl
        have hl : lv_has ls 3 [(0, .ref (x 0)), (1, .ref ar1), (2, .ref ar2)] := hl
        refine W.eq (g2 := F0 m 22 ls [.ref b17]) rfl ?_
        refine lv_ifnull hx hb dX9_ruleAgainst_22 ?_
        refine lv_aload_n hx hb dX9_ruleAgainst_25 rfl (lv_at hl 1 rfl) ?_
        refine pg_get (D := D) (ci := 6) (v := va_rf (S.2 127 ar1)) (C := RX6) (T := TX6) (N := 17) hx hb hts iX9_ruleAgainst_6 hown hK hP mar1.1 (pf_6 mar1.2) rfl 7 (by decide) (hts (.fieldLink RX9 328 "FondsRoom$Reader" "desk" "LFondsRoom$Desk;") (List.mem_of_getElem? (i := 2) rfl)) (fun _ h9 => h9) rfl dX9_ruleAgainst_26 ?_
        obtain ⟨q18, eq18⟩ : ∃ z, z = S.2 127 ar1 := ⟨_, rfl⟩
        replace hF := bnd_s hF q18 eq18
        have hq18 : rok L K 1 q18 := by rw [eq18]; exact hT 127 ar1
        refine lv_tov (v' := va_rf q18) (by rw [eq18]) ?_
        obtain ⟨b19, eb19, hF9⟩ := sm_s hF
        clear hF
        have hF := hF9
        clear hF9
        subst eb19
        have mb19 := hq18 b19 rfl
        have hl : lv_has ls 3 [(0, .ref (x 0)), (1, .ref ar1), (2, .ref ar2)] := hl
        refine W.eq (g2 := F0 m 29 ls [.ref b19]) rfl ?_
        refine pg_get (D := D) (ci := 1) (v := .int (S.1 21 b19)) (C := RX1) (T := TX1) (N := 3) hx hb hts iX9_ruleAgainst_1 hown hK hP mb19.1 (pf_1 mb19.2) rfl 1 (by decide) (hts (.fieldLink RX9 84 "FondsRoom$Desk" "watched" "Z") (List.mem_of_getElem? (i := 3) rfl)) (fun _ h9 => h9) rfl dX9_ruleAgainst_29 ?_
        refine lv_if_ne (tgt := 37) hx hb dX9_ruleAgainst_32 (by decide) (fun c20 => ?_) (fun c20 => ?_)
        · skip
          have hF := (if_neg c20).symm.trans hF
          refine lv_aload_n hx hb dX9_ruleAgainst_37 rfl (lv_at hl 2 rfl) ?_
          refine pg_get (D := D) (ci := 0) (v := va_rf (S.2 4 ar2)) (C := RX0) (T := TX0) (N := 6) hx hb hts iX9_ruleAgainst_0 hown hK hP mar2.1 (pf_0 mar2.2) rfl 4 (by decide) (hts (.fieldLink RX9 239 "FondsRoom$Box" "holder" "LFondsRoom$Reader;") (List.mem_of_getElem? (i := 4) rfl)) (fun _ h9 => h9) rfl dX9_ruleAgainst_38 ?_
          obtain ⟨q21, eq21⟩ : ∃ z, z = S.2 4 ar2 := ⟨_, rfl⟩
          replace hF := bnd_s hF q21 eq21
          have hq21 : rok L K 6 q21 := by rw [eq21]; exact hT 4 ar2
          refine lv_tov (v' := va_rf q21) (by rw [eq21]) ?_
          refine lv_aload_n hx hb dX9_ruleAgainst_41 rfl (lv_at hl 1 rfl) ?_
          refine lv_acmp_ne (rx := q21) (ry := (some ar1)) (tgt := 47) hx hb dX9_ruleAgainst_42 (by decide) (fun c22 => ?_) (fun c22 => ?_)
          · skip
            have hF := (if_neg c22).symm.trans hF
            refine lv_aload_n hx hb dX9_ruleAgainst_47 rfl (lv_at hl 0 rfl) ?_
            refine lv_aload_n hx hb dX9_ruleAgainst_48 rfl (lv_at hl 2 rfl) ?_
            refine pg_get (D := D) (ci := 0) (v := .int (S.1 1 ar2)) (C := RX0) (T := TX0) (N := 6) hx hb hts iX9_ruleAgainst_0 hown hK hP mar2.1 (pf_0 mar2.2) rfl 1 (by decide) (hts (.fieldLink RX9 95 "FondsRoom$Box" "fonds" "I") (List.mem_of_getElem? (i := 5) rfl)) (fun _ h9 => h9) rfl dX9_ruleAgainst_49 ?_
            refine lv_aload_n hx hb dX9_ruleAgainst_52 rfl (lv_at hl 1 rfl) ?_
            obtain ⟨r23, hq26, hF⟩ := bd1_s hF
            refine gvI (As := [.int (S.1 1 ar2), .ref ar1]) (rest := []) ⟨hx, hb, hml, hown, hts⟩ (zX9_isTakenByAnother l D x cy g L K cf nm hG hL S hT _ (S.1 1 ar2) ar1 ⟨mar1.1, mar1.2⟩ r23 hq26) (cwV 2 hts gX9_ruleAgainst_X9_isTakenByAnother rfl rfl rfl (by decide +kernel) ⟨Nat.le_of_ble_eq_true rfl, Nat.le_of_ble_eq_true rfl⟩) hK hP hD hS hA (va_recv hK hP (ci := 9) (q0 := 0) rfl rfl) rfl hl.1 rfl (Nat.le_of_ble_eq_true rfl) dX9_ruleAgainst_53 ⟨Nat.le_of_ble_eq_true rfl, Nat.le_of_ble_eq_true rfl⟩ (fun a27 u9 H locs hw25 hP hD hS => ?_)
            have hP : va_P D vwCl (ZW x cy g S ++ va_pl L (pf cy K cf nm S)) H := hP
            have hD : va_D _ (ZW x cy g S ++ va_pl L (pf cy K cf nm S)) := hD
            refine lv_tov (v' := .int r23) (congrArg Value.int hw25.1) ?_
            refine lv_if_eq (tgt := 61) hx hb dX9_ruleAgainst_56 (by decide) (fun c28 => ?_) (fun c28 => ?_)
            · skip
              have hF := (if_pos c28).symm.trans hF
              refine lv_iconst (v := (-1)) hx hb dX9_ruleAgainst_61 (by decide) ?_
              have e1 := Option.some.inj hF
              exact W.iret (v := (-1)) hx hb hr (fun t ht hW => ⟨⟨(-1), (), rfl, e1, by rw [ht]; exact hP, va_K.moved hW.alike hK, hD⟩, hS.F ht⟩) hS.2.2 dX9_ruleAgainst_62
            · skip
              have hF := (if_neg c28).symm.trans hF
              refine lv_iconst (v := 4) hx hb dX9_ruleAgainst_59 (by decide) ?_
              have e1 := Option.some.inj hF
              exact W.iret (v := 4) hx hb hr (fun t ht hW => ⟨⟨4, (), rfl, e1, by rw [ht]; exact hP, va_K.moved hW.alike hK, hD⟩, hS.F ht⟩) hS.2.2 dX9_ruleAgainst_60
          · skip
            have hF := (if_pos c22).symm.trans hF
            refine lv_iconst (v := 3) hx hb dX9_ruleAgainst_45 (by decide) ?_
            have e1 := Option.some.inj hF
            exact W.iret (v := 3) hx hb hr (fun t ht hW => ⟨⟨3, (), rfl, e1, by rw [ht]; exact hP, va_K.moved hW.alike hK, hD⟩, hS.F ht⟩) hS.2.2 dX9_ruleAgainst_46
        · skip
          have hF := (if_pos c20).symm.trans hF
          refine lv_iconst (v := 2) hx hb dX9_ruleAgainst_35 (by decide) ?_
          have e1 := Option.some.inj hF
          exact W.iret (v := 2) hx hb hr (fun t ht hW => ⟨⟨2, (), rfl, e1, by rw [ht]; exact hP, va_K.moved hW.alike hK, hD⟩, hS.F ht⟩) hS.2.2 dX9_ruleAgainst_36
  · skip
    have hF := (if_neg c6).symm.trans hF
    refine lv_iconst (v := 1) hx hb dX9_ruleAgainst_9 (by decide) ?_
    have e1 := Option.some.inj hF
    exact W.iret (v := 1) hx hb hr (fun t ht hW => ⟨⟨1, (), rfl, e1, by rw [ht]; exact hP, va_K.moved hW.alike hK, hD⟩, hS.F ht⟩) hS.2.2 dX9_ruleAgainst_10

theorem iX9_refuse_6 : ∀ w ∈ wsX60, w ∈ wsX9_refuse := fun _ h => List.mem_cons_of_mem _ (List.mem_append_left _ (List.mem_append_left _ (List.mem_append_left _ (List.mem_append_right _ h))))
theorem iX9_refuse_9 : ∀ w ∈ wsX90, w ∈ wsX9_refuse := fun _ h => List.mem_cons_of_mem _ (List.mem_append_left _ (List.mem_append_left _ (List.mem_append_right _ h)))
set_option maxHeartbeats 8000000 in
set_option maxRecDepth 100000 in
theorem zX9_refuse (l : Launch) (D : va_G) (x : Nat → Nat) (cy : Nat → ClassId) (g : Nat → Nat → Option Nat) (L : List Nat) (K : Nat → Nat) (cf : Nat → Nat → Nat) (nm : Nat → Int32) (hG : GO L K g) (hL : PL L K cf) (S0 : CS) (hT : WT L K S0.2) (sz : Nat) (ar1 : Nat) (ar2 : Int32) (mar1 : ar1 ∈ L ∧ K ar1 = 6) (Sf : CS) (hF : gX9_refuse g cf nm S0 ar1 ar2 = some Sf) : Met l yX9_refuse wsX9_refuse ({ frames := 1, cells := 0, slots := 0, locals := 25 }) (PW D (TYS cy) (ZW x cy g S0 ++ va_pl L (pf cy K cf nm S0)) sz [.ref (x 0), .ref ar1, .int ar2]) (va_Qv (fun (u : Unit) => WT L K Sf.2) (BU D (TYS cy) (ZW x cy g S0 ++ va_pl L (pf cy K cf nm S0)) (fun _ => ZW x cy g Sf ++ va_pl L (pf cy K cf nm Sf)) sz) (va_A (ZW x cy g S0 ++ va_pl L (pf cy K cf nm S0)) sz)) 0 0 (va_A (ZW x cy g S0 ++ va_pl L (pf cy K cf nm S0)) sz) := by
  refine Met.ofW (cc := cX9_refuse) (maxL := 3) (ret := none) (by decide) rfl ?_
  intro p e s m args below meth c s₁ B hml hv
  obtain ⟨rfl, hsz, hP, hK, hD0⟩ := hv
  have hx := B.exec
  have hb := B.bytes
  have hr := B.returns
  have hts := atoms_spec (ws := wsX9_refuse) B.pre
  have hown : s.vm.findClass RX9 = some m.cls := findClass_of_methodNamed B.named
  have hlocks := B.notSynchronized
  subst hsz
  have hD := hD0.self (sz := s.heap.size)
  have hA : ∀ q9 : Nat, s.heap.size ≤ q9 → va_A (ZW x cy g S0 ++ va_pl L (pf cy K cf nm S0)) s.heap.size q9 := fun q9 h => Or.inr h
  have hS : va_S (va_A (ZW x cy g S0 ++ va_pl L (pf cy K cf nm S0)) s.heap.size) s.heap s.heap [] := va_S.rf
  have hl := lv_entry ([.ref (x 0), .ref ar1, .int ar2]) (n := 3) (Nat.le_of_ble_eq_true rfl)
  rw [lg_entry_eq]
  generalize (lg_sl ([.ref (x 0), .ref ar1, .int ar2]) ++ List.replicate (3 - (lg_sl ([.ref (x 0), .ref ar1, .int ar2])).length) Slot.unset).toArray = ls at hl ⊢
  have hl : lv_has ls 3 [(0, .ref (x 0)), (1, .ref ar1), (2, .int ar2)] := hl
  unfold gX9_refuse at hF
  refine lv_aload_n hx hb dX9_refuse_0 rfl (lv_at hl 1 rfl) ?_
  refine pg_get (D := D) (ci := 6) (v := .ref (cf 0 ar1)) (C := RX6) (T := TX6) (N := 17) hx hb hts iX9_refuse_6 hown hK hP mar1.1 (pf_6 mar1.2) rfl 1 (by decide) (hts (.fieldLink RX9 135 "FondsRoom$Reader" "plan" "LFondsRoom$Plan;") (List.mem_of_getElem? (i := 1) rfl)) (fun _ h9 => h9) rfl dX9_refuse_1 ?_
  obtain ⟨p1, ep1⟩ : ∃ z, z = cf 0 ar1 := ⟨_, rfl⟩
  replace hF := bnd_s hF p1 ep1
  have mp1 : p1 ∈ L ∧ K p1 = 5 := by rw [ep1]; exact (hL _ mar1.1).2.1 mar1.2
  refine lv_tov (v' := .ref p1) (by rw [ep1]) ?_
  refine lv_iload_n hx hb dX9_refuse_4 rfl (lv_at hl 2 rfl) ?_
  obtain ⟨S3, hq5, hF⟩ := bd1_s hF
  refine gvV (As := [.int ar2]) (rest := []) ⟨hx, hb, hml, hown, hts⟩ (zX5_noteRefusal l D x cy g L K cf nm hG hL S0 hT _ p1 ar2 ⟨mp1.1, mp1.2⟩ S3 hq5) (cwV 1 hts gX9_refuse_X5_noteRefusal rfl rfl rfl (by decide +kernel) ⟨Nat.le_of_ble_eq_true rfl, Nat.le_of_ble_eq_true rfl⟩) hK hP hD hS hA (pl_recv hK hP (ci := 5) rfl mp1.1 (pf_5 mp1.2)) rfl hl.1 rfl (Nat.le_of_ble_eq_true rfl) dX9_refuse_5 ⟨Nat.le_of_ble_eq_true rfl, Nat.le_of_ble_eq_true rfl⟩ (fun u9 H locs hw4 hP hD hS => ?_)
  have hT : WT L K S3.2 := hw4
  have hP : va_P D vwCl (ZW x cy g S3 ++ va_pl L (pf cy K cf nm S3)) H := hP
  have hD : va_D _ (ZW x cy g S3 ++ va_pl L (pf cy K cf nm S3)) := hD
  refine lv_aload_n hx hb dX9_refuse_8 rfl (lv_at hl 0 rfl) ?_
  refine va_get (D := D) (ci := 9) (v := .ref (x 18)) (C := RX9) (T := TX9) (N := 19) hx hb hts iX9_refuse_9 hown hK hP 0 rfl rfl 9 (by decide) (hts (.fieldLink RX9 67 "FondsRoom" "events" "LFondsRoom$Events;") (List.mem_of_getElem? (i := 2) rfl)) (fun _ h9 => h9) rfl dX9_refuse_9 ?_
  refine lv_aload_n hx hb dX9_refuse_12 rfl (lv_at hl 0 rfl) ?_
  refine va_get (D := D) (ci := 9) (v := .int (S3.1 200 4)) (C := RX9) (T := TX9) (N := 19) hx hb hts iX9_refuse_9 hown hK hP 0 rfl rfl 14 (by decide) (hts (.fieldLink RX9 78 "FondsRoom" "turn" "I") (List.mem_of_getElem? (i := 3) rfl)) (fun _ h9 => h9) rfl dX9_refuse_13 ?_
  refine lv_aload_n hx hb dX9_refuse_16 rfl (lv_at hl 1 rfl) ?_
  refine pg_get (D := D) (ci := 6) (v := .int (nm ar1)) (C := RX6) (T := TX6) (N := 17) hx hb hts iX9_refuse_6 hown hK hP mar1.1 (pf_6 mar1.2) rfl 0 (by decide) (hts (.fieldLink RX9 273 "FondsRoom$Reader" "number" "I") (List.mem_of_getElem? (i := 4) rfl)) (fun _ h9 => h9) rfl dX9_refuse_17 ?_
  refine lv_iconst (v := 4) hx hb dX9_refuse_20 (by decide) ?_
  refine lv_iload_n hx hb dX9_refuse_21 rfl (lv_at hl 2 rfl) ?_
  obtain ⟨S8, hq10, hF⟩ := bd1_s hF
  refine gvV (As := [.int (S3.1 200 4), .int (nm ar1), .int 4, .int ar2]) (rest := []) ⟨hx, hb, hml, hown, hts⟩ (zX2_keep l D x cy g L K cf nm hG hL S3 hT _ (S3.1 200 4) (nm ar1) 4 ar2  S8 hq10) (cwV 4 hts gX9_refuse_X2_keep rfl rfl rfl (by decide +kernel) ⟨Nat.le_of_ble_eq_true rfl, Nat.le_of_ble_eq_true rfl⟩) hK hP hD hS hA (va_recv hK hP (ci := 2) (q0 := 18) rfl rfl) rfl hl.1 rfl (Nat.le_of_ble_eq_true rfl) dX9_refuse_22 ⟨Nat.le_of_ble_eq_true rfl, Nat.le_of_ble_eq_true rfl⟩ (fun u9 H locs hw9 hP hD hS => ?_)
  have hT : WT L K S8.2 := hw9
  have hP : va_P D vwCl (ZW x cy g S8 ++ va_pl L (pf cy K cf nm S8)) H := hP
  have hD : va_D _ (ZW x cy g S8 ++ va_pl L (pf cy K cf nm S8)) := hD
  have e2 := Option.some.inj hF
  have hP : va_P D vwCl (ZW x cy g Sf ++ va_pl L (pf cy K cf nm Sf)) H := by rw [← e2]; exact hP
  have hD : va_D (va_A (ZW x cy g S0 ++ va_pl L (pf cy K cf nm S0)) s.heap.size) (ZW x cy g Sf ++ va_pl L (pf cy K cf nm Sf)) := by rw [← e2]; exact hD
  have hT : WT L K Sf.2 := by rw [← e2]; exact hT
  exact W.vret hx hb hr (fun t ht hW => ⟨⟨(), rfl, hT, by rw [ht]; exact hP, va_K.moved hW.alike hK, hD⟩, hS.F ht⟩) hS.2.2 dX9_refuse_25

theorem iX9_giveBack_0 : ∀ w ∈ wsX00, w ∈ wsX9_giveBack := fun _ h => List.mem_cons_of_mem _ (List.mem_append_left _ (List.mem_append_left _ (List.mem_append_left _ (List.mem_append_left _ (List.mem_append_right _ h)))))
theorem iX9_giveBack_6 : ∀ w ∈ wsX60, w ∈ wsX9_giveBack := fun _ h => List.mem_cons_of_mem _ (List.mem_append_left _ (List.mem_append_left _ (List.mem_append_right _ h)))
theorem iX9_giveBack_9 : ∀ w ∈ wsX90, w ∈ wsX9_giveBack := fun _ h => List.mem_cons_of_mem _ (List.mem_append_left _ (List.mem_append_left _ (List.mem_append_left _ (List.mem_append_right _ h))))
set_option maxHeartbeats 8000000 in
set_option maxRecDepth 100000 in
theorem zX9_giveBack (l : Launch) (D : va_G) (x : Nat → Nat) (cy : Nat → ClassId) (g : Nat → Nat → Option Nat) (L : List Nat) (K : Nat → Nat) (cf : Nat → Nat → Nat) (nm : Nat → Int32) (hG : GO L K g) (hL : PL L K cf) (S0 : CS) (hT : WT L K S0.2) (sz : Nat) (ar1 : Nat) (ar2 : Nat) (mar1 : ar1 ∈ L ∧ K ar1 = 6) (mar2 : ar2 ∈ L ∧ K ar2 = 0) (Sf : CS) (hF : gX9_giveBack g cf nm S0 ar1 ar2 = some Sf) : Met l yX9_giveBack wsX9_giveBack ({ frames := 2, cells := 0, slots := 0, locals := 47 }) (PW D (TYS cy) (ZW x cy g S0 ++ va_pl L (pf cy K cf nm S0)) sz [.ref (x 0), .ref ar1, .ref ar2]) (va_Qv (fun (u : Unit) => WT L K Sf.2) (BU D (TYS cy) (ZW x cy g S0 ++ va_pl L (pf cy K cf nm S0)) (fun _ => ZW x cy g Sf ++ va_pl L (pf cy K cf nm Sf)) sz) (va_A (ZW x cy g S0 ++ va_pl L (pf cy K cf nm S0)) sz)) 0 0 (va_A (ZW x cy g S0 ++ va_pl L (pf cy K cf nm S0)) sz) := by
  refine Met.ofW (cc := cX9_giveBack) (maxL := 3) (ret := none) (by decide) rfl ?_
  intro p e s m args below meth c s₁ B hml hv
  obtain ⟨rfl, hsz, hP, hK, hD0⟩ := hv
  have hx := B.exec
  have hb := B.bytes
  have hr := B.returns
  have hts := atoms_spec (ws := wsX9_giveBack) B.pre
  have hown : s.vm.findClass RX9 = some m.cls := findClass_of_methodNamed B.named
  have hlocks := B.notSynchronized
  subst hsz
  have hD := hD0.self (sz := s.heap.size)
  have hA : ∀ q9 : Nat, s.heap.size ≤ q9 → va_A (ZW x cy g S0 ++ va_pl L (pf cy K cf nm S0)) s.heap.size q9 := fun q9 h => Or.inr h
  have hS : va_S (va_A (ZW x cy g S0 ++ va_pl L (pf cy K cf nm S0)) s.heap.size) s.heap s.heap [] := va_S.rf
  have hl := lv_entry ([.ref (x 0), .ref ar1, .ref ar2]) (n := 3) (Nat.le_of_ble_eq_true rfl)
  rw [lg_entry_eq]
  generalize (lg_sl ([.ref (x 0), .ref ar1, .ref ar2]) ++ List.replicate (3 - (lg_sl ([.ref (x 0), .ref ar1, .ref ar2])).length) Slot.unset).toArray = ls at hl ⊢
  have hl : lv_has ls 3 [(0, .ref (x 0)), (1, .ref ar1), (2, .ref ar2)] := hl
  unfold gX9_giveBack at hF
  refine lv_aload_n hx hb dX9_giveBack_0 rfl (lv_at hl 2 rfl) ?_
  refine pg_get (D := D) (ci := 0) (v := va_rf (S0.2 4 ar2)) (C := RX0) (T := TX0) (N := 6) hx hb hts iX9_giveBack_0 hown hK hP mar2.1 (pf_0 mar2.2) rfl 4 (by decide) (hts (.fieldLink RX9 239 "FondsRoom$Box" "holder" "LFondsRoom$Reader;") (List.mem_of_getElem? (i := 1) rfl)) (fun _ h9 => h9) rfl dX9_giveBack_1 ?_
  obtain ⟨q1, eq1⟩ : ∃ z, z = S0.2 4 ar2 := ⟨_, rfl⟩
  replace hF := bnd_s hF q1 eq1
  have hq1 : rok L K 6 q1 := by rw [eq1]; exact hT 4 ar2
  refine lv_tov (v' := va_rf q1) (by rw [eq1]) ?_
  refine lv_aload_n hx hb dX9_giveBack_4 rfl (lv_at hl 1 rfl) ?_
  refine lv_acmp_eq (rx := q1) (ry := (some ar1)) (tgt := 15) hx hb dX9_giveBack_5 (by decide) (fun c2 => ?_) (fun c2 => ?_)
  · skip
    have hF := (if_pos c2).symm.trans hF
    refine lv_aload_n hx hb dX9_giveBack_15 rfl (lv_at hl 2 rfl) ?_
    refine lv_null hx hb dX9_giveBack_16 ?_
    refine pg_put (D := D) (ci := 0) (v := .null) (ty := (.object "FondsRoom$Reader")) (C := RX0) (T := TX0) (N := 6) hx hb hts iX9_giveBack_0 tyX0 tyX0_ok nmX0 hown hK hP hD hS mar2.1 (pf_0 mar2.2) rfl 4 (by decide) (hts (.fieldLink RX9 239 "FondsRoom$Box" "holder" "LFondsRoom$Reader;") (List.mem_of_getElem? (i := 1) rfl)) (fun _ h9 => h9) rfl (by decide +kernel) rfl rfl (Nat.le_of_ble_eq_true rfl) dX9_giveBack_17 (fun H locs hP hD hS => ?_)
    obtain ⟨S3, eS3⟩ : ∃ z, z = wq S0 4 ar2 none := ⟨_, rfl⟩
    replace hF := bnd_s hF S3 eS3
    have hP : va_P D vwCl (ZW x cy g S3 ++ va_pl L (pf cy K cf nm S3)) H := by rw [eS3]; rw [← pu_0_4 mar2.2]; exact hP
    have hD : va_D (va_A (ZW x cy g S0 ++ va_pl L (pf cy K cf nm S0)) s.heap.size) (ZW x cy g S3 ++ va_pl L (pf cy K cf nm S3)) := by rw [eS3]; rw [← pu_0_4 mar2.2]; exact hD
    have hT : WT L K S3.2 := by rw [eS3]; exact WT_up hT 4 ar2 rok_none
    refine lv_aload_n hx hb dX9_giveBack_20 rfl (lv_at hl 2 rfl) ?_
    refine lv_iconst (v := 2) hx hb dX9_giveBack_21 (by decide) ?_
    refine pg_put (D := D) (ci := 0) (v := .int 2) (ty := .int) (C := RX0) (T := TX0) (N := 6) hx hb hts iX9_giveBack_0 tyX0 tyX0_ok nmX0 hown hK hP hD hS mar2.1 (pf_0 mar2.2) rfl 3 (by decide) (hts (.fieldLink RX9 233 "FondsRoom$Box" "place" "I") (List.mem_of_getElem? (i := 2) rfl)) (fun _ h9 => h9) rfl (by decide +kernel) rfl rfl (Nat.le_of_ble_eq_true rfl) dX9_giveBack_22 (fun H locs hP hD hS => ?_)
    obtain ⟨S4, eS4⟩ : ∃ z, z = wi S3 3 ar2 2 := ⟨_, rfl⟩
    replace hF := bnd_s hF S4 eS4
    have hP : va_P D vwCl (ZW x cy g S4 ++ va_pl L (pf cy K cf nm S4)) H := by rw [eS4]; rw [← pu_0_3 mar2.2]; exact hP
    have hD : va_D (va_A (ZW x cy g S0 ++ va_pl L (pf cy K cf nm S0)) s.heap.size) (ZW x cy g S4 ++ va_pl L (pf cy K cf nm S4)) := by rw [eS4]; rw [← pu_0_3 mar2.2]; exact hD
    have hT : WT L K S4.2 := by rw [eS4]; exact hT
    refine lv_aload_n hx hb dX9_giveBack_25 rfl (lv_at hl 0 rfl) ?_
    refine va_get (D := D) (ci := 9) (v := .ref (x 18)) (C := RX9) (T := TX9) (N := 19) hx hb hts iX9_giveBack_9 hown hK hP 0 rfl rfl 9 (by decide) (hts (.fieldLink RX9 67 "FondsRoom" "events" "LFondsRoom$Events;") (List.mem_of_getElem? (i := 3) rfl)) (fun _ h9 => h9) rfl dX9_giveBack_26 ?_
    refine lv_aload_n hx hb dX9_giveBack_29 rfl (lv_at hl 0 rfl) ?_
    refine va_get (D := D) (ci := 9) (v := .int (S4.1 200 4)) (C := RX9) (T := TX9) (N := 19) hx hb hts iX9_giveBack_9 hown hK hP 0 rfl rfl 14 (by decide) (hts (.fieldLink RX9 78 "FondsRoom" "turn" "I") (List.mem_of_getElem? (i := 4) rfl)) (fun _ h9 => h9) rfl dX9_giveBack_30 ?_
    refine lv_aload_n hx hb dX9_giveBack_33 rfl (lv_at hl 1 rfl) ?_
    refine pg_get (D := D) (ci := 6) (v := .int (nm ar1)) (C := RX6) (T := TX6) (N := 17) hx hb hts iX9_giveBack_6 hown hK hP mar1.1 (pf_6 mar1.2) rfl 0 (by decide) (hts (.fieldLink RX9 273 "FondsRoom$Reader" "number" "I") (List.mem_of_getElem? (i := 5) rfl)) (fun _ h9 => h9) rfl dX9_giveBack_34 ?_
    refine lv_bipush (v := 7) hx hb dX9_giveBack_37 (by decide) ?_
    refine lv_aload_n hx hb dX9_giveBack_39 rfl (lv_at hl 2 rfl) ?_
    refine pg_get (D := D) (ci := 0) (v := .int (nm ar2)) (C := RX0) (T := TX0) (N := 6) hx hb hts iX9_giveBack_0 hown hK hP mar2.1 (pf_0 mar2.2) rfl 0 (by decide) (hts (.fieldLink RX9 253 "FondsRoom$Box" "number" "I") (List.mem_of_getElem? (i := 6) rfl)) (fun _ h9 => h9) rfl dX9_giveBack_40 ?_
    obtain ⟨S6, hq8, hF⟩ := bd1_s hF
    refine gvV (As := [.int (S4.1 200 4), .int (nm ar1), .int 7, .int (nm ar2)]) (rest := []) ⟨hx, hb, hml, hown, hts⟩ (zX2_keep l D x cy g L K cf nm hG hL S4 hT _ (S4.1 200 4) (nm ar1) 7 (nm ar2)  S6 hq8) (cwV 4 hts gX9_giveBack_X2_keep rfl rfl rfl (by decide +kernel) ⟨Nat.le_of_ble_eq_true rfl, Nat.le_of_ble_eq_true rfl⟩) hK hP hD hS hA (va_recv hK hP (ci := 2) (q0 := 18) rfl rfl) rfl hl.1 rfl (Nat.le_of_ble_eq_true rfl) dX9_giveBack_43 ⟨Nat.le_of_ble_eq_true rfl, Nat.le_of_ble_eq_true rfl⟩ (fun u9 H locs hw7 hP hD hS => ?_)
    have hT : WT L K S6.2 := hw7
    have hP : va_P D vwCl (ZW x cy g S6 ++ va_pl L (pf cy K cf nm S6)) H := hP
    have hD : va_D _ (ZW x cy g S6 ++ va_pl L (pf cy K cf nm S6)) := hD
    have e2 := Option.some.inj hF
    have hP : va_P D vwCl (ZW x cy g Sf ++ va_pl L (pf cy K cf nm Sf)) H := by rw [← e2]; exact hP
    have hD : va_D (va_A (ZW x cy g S0 ++ va_pl L (pf cy K cf nm S0)) s.heap.size) (ZW x cy g Sf ++ va_pl L (pf cy K cf nm Sf)) := by rw [← e2]; exact hD
    have hT : WT L K Sf.2 := by rw [← e2]; exact hT
    exact W.vret hx hb hr (fun t ht hW => ⟨⟨(), rfl, hT, by rw [ht]; exact hP, va_K.moved hW.alike hK, hD⟩, hS.F ht⟩) hS.2.2 dX9_giveBack_46
  · skip
    have hF := (if_neg c2).symm.trans hF
    refine lv_aload_n hx hb dX9_giveBack_8 rfl (lv_at hl 0 rfl) ?_
    refine lv_aload_n hx hb dX9_giveBack_9 rfl (lv_at hl 1 rfl) ?_
    refine lv_iconst (v := 5) hx hb dX9_giveBack_10 (by decide) ?_
    obtain ⟨S11, hq13, hF⟩ := bd1_s hF
    refine gvV (As := [.ref ar1, .int 5]) (rest := []) ⟨hx, hb, hml, hown, hts⟩ (zX9_refuse l D x cy g L K cf nm hG hL S0 hT _ ar1 5 ⟨mar1.1, mar1.2⟩ S11 hq13) (cwV 2 hts gX9_giveBack_X9_refuse rfl rfl rfl (by decide +kernel) ⟨Nat.le_of_ble_eq_true rfl, Nat.le_of_ble_eq_true rfl⟩) hK hP hD hS hA (va_recv hK hP (ci := 9) (q0 := 0) rfl rfl) rfl hl.1 rfl (Nat.le_of_ble_eq_true rfl) dX9_giveBack_11 ⟨Nat.le_of_ble_eq_true rfl, Nat.le_of_ble_eq_true rfl⟩ (fun u9 H locs hw12 hP hD hS => ?_)
    have hT : WT L K S11.2 := hw12
    have hP : va_P D vwCl (ZW x cy g S11 ++ va_pl L (pf cy K cf nm S11)) H := hP
    have hD : va_D _ (ZW x cy g S11 ++ va_pl L (pf cy K cf nm S11)) := hD
    have e2 := Option.some.inj hF
    have hP : va_P D vwCl (ZW x cy g Sf ++ va_pl L (pf cy K cf nm Sf)) H := by rw [← e2]; exact hP
    have hD : va_D (va_A (ZW x cy g S0 ++ va_pl L (pf cy K cf nm S0)) s.heap.size) (ZW x cy g Sf ++ va_pl L (pf cy K cf nm Sf)) := by rw [← e2]; exact hD
    have hT : WT L K Sf.2 := by rw [← e2]; exact hT
    exact W.vret hx hb hr (fun t ht hW => ⟨⟨(), rfl, hT, by rw [ht]; exact hP, va_K.moved hW.alike hK, hD⟩, hS.F ht⟩) hS.2.2 dX9_giveBack_14

theorem iX9_orderCopy_0 : ∀ w ∈ wsX00, w ∈ wsX9_orderCopy := fun _ h => List.mem_cons_of_mem _ (List.mem_append_left _ (List.mem_append_left _ (List.mem_append_left _ (List.mem_append_left _ (List.mem_append_left _ (List.mem_append_right _ h))))))
theorem iX9_orderCopy_6 : ∀ w ∈ wsX60, w ∈ wsX9_orderCopy := fun _ h => List.mem_cons_of_mem _ (List.mem_append_left _ (List.mem_append_left _ (List.mem_append_left _ (List.mem_append_left _ (List.mem_append_right _ h)))))
theorem iX9_orderCopy_9 : ∀ w ∈ wsX90, w ∈ wsX9_orderCopy := fun _ h => List.mem_cons_of_mem _ (List.mem_append_left _ (List.mem_append_left _ (List.mem_append_left _ (List.mem_append_right _ h))))
set_option maxHeartbeats 8000000 in
set_option maxRecDepth 100000 in
theorem zX9_orderCopy (l : Launch) (D : va_G) (x : Nat → Nat) (cy : Nat → ClassId) (g : Nat → Nat → Option Nat) (L : List Nat) (K : Nat → Nat) (cf : Nat → Nat → Nat) (nm : Nat → Int32) (hG : GO L K g) (hL : PL L K cf) (S0 : CS) (hT : WT L K S0.2) (sz : Nat) (ar1 : Nat) (ar2 : Nat) (ar3 : Int32) (ar4 : Int32) (mar1 : ar1 ∈ L ∧ K ar1 = 6) (mar2 : ar2 ∈ L ∧ K ar2 = 0) (Sf : CS) (hF : gX9_orderCopy g cf nm S0 ar1 ar2 ar3 ar4 = some Sf) : Met l yX9_orderCopy wsX9_orderCopy ({ frames := 2, cells := 0, slots := 0, locals := 47 }) (PW D (TYS cy) (ZW x cy g S0 ++ va_pl L (pf cy K cf nm S0)) sz [.ref (x 0), .ref ar1, .ref ar2, .int ar3, .int ar4]) (va_Qv (fun (u : Unit) => WT L K Sf.2) (BU D (TYS cy) (ZW x cy g S0 ++ va_pl L (pf cy K cf nm S0)) (fun _ => ZW x cy g Sf ++ va_pl L (pf cy K cf nm Sf)) sz) (va_A (ZW x cy g S0 ++ va_pl L (pf cy K cf nm S0)) sz)) 0 0 (va_A (ZW x cy g S0 ++ va_pl L (pf cy K cf nm S0)) sz) := by
  refine Met.ofW (cc := cX9_orderCopy) (maxL := 5) (ret := none) (by decide) rfl ?_
  intro p e s m args below meth c s₁ B hml hv
  obtain ⟨rfl, hsz, hP, hK, hD0⟩ := hv
  have hx := B.exec
  have hb := B.bytes
  have hr := B.returns
  have hts := atoms_spec (ws := wsX9_orderCopy) B.pre
  have hown : s.vm.findClass RX9 = some m.cls := findClass_of_methodNamed B.named
  have hlocks := B.notSynchronized
  subst hsz
  have hD := hD0.self (sz := s.heap.size)
  have hA : ∀ q9 : Nat, s.heap.size ≤ q9 → va_A (ZW x cy g S0 ++ va_pl L (pf cy K cf nm S0)) s.heap.size q9 := fun q9 h => Or.inr h
  have hS : va_S (va_A (ZW x cy g S0 ++ va_pl L (pf cy K cf nm S0)) s.heap.size) s.heap s.heap [] := va_S.rf
  have hl := lv_entry ([.ref (x 0), .ref ar1, .ref ar2, .int ar3, .int ar4]) (n := 5) (Nat.le_of_ble_eq_true rfl)
  rw [lg_entry_eq]
  generalize (lg_sl ([.ref (x 0), .ref ar1, .ref ar2, .int ar3, .int ar4]) ++ List.replicate (5 - (lg_sl ([.ref (x 0), .ref ar1, .ref ar2, .int ar3, .int ar4])).length) Slot.unset).toArray = ls at hl ⊢
  have hl : lv_has ls 5 [(0, .ref (x 0)), (1, .ref ar1), (2, .ref ar2), (3, .int ar3), (4, .int ar4)] := hl
  unfold gX9_orderCopy at hF
  refine lv_aload_n hx hb dX9_orderCopy_0 rfl (lv_at hl 2 rfl) ?_
  refine pg_get (D := D) (ci := 0) (v := va_rf (S0.2 4 ar2)) (C := RX0) (T := TX0) (N := 6) hx hb hts iX9_orderCopy_0 hown hK hP mar2.1 (pf_0 mar2.2) rfl 4 (by decide) (hts (.fieldLink RX9 239 "FondsRoom$Box" "holder" "LFondsRoom$Reader;") (List.mem_of_getElem? (i := 1) rfl)) (fun _ h9 => h9) rfl dX9_orderCopy_1 ?_
  obtain ⟨q1, eq1⟩ : ∃ z, z = S0.2 4 ar2 := ⟨_, rfl⟩
  replace hF := bnd_s hF q1 eq1
  have hq1 : rok L K 6 q1 := by rw [eq1]; exact hT 4 ar2
  refine lv_tov (v' := va_rf q1) (by rw [eq1]) ?_
  refine lv_aload_n hx hb dX9_orderCopy_4 rfl (lv_at hl 1 rfl) ?_
  refine lv_acmp_eq (rx := q1) (ry := (some ar1)) (tgt := 15) hx hb dX9_orderCopy_5 (by decide) (fun c2 => ?_) (fun c2 => ?_)
  · skip
    have hF := (if_pos c2).symm.trans hF
    refine lv_aload_n hx hb dX9_orderCopy_15 rfl (lv_at hl 2 rfl) ?_
    refine lv_iconst (v := 5) hx hb dX9_orderCopy_16 (by decide) ?_
    refine pg_put (D := D) (ci := 0) (v := .int 5) (ty := .int) (C := RX0) (T := TX0) (N := 6) hx hb hts iX9_orderCopy_0 tyX0 tyX0_ok nmX0 hown hK hP hD hS mar2.1 (pf_0 mar2.2) rfl 3 (by decide) (hts (.fieldLink RX9 233 "FondsRoom$Box" "place" "I") (List.mem_of_getElem? (i := 2) rfl)) (fun _ h9 => h9) rfl (by decide +kernel) rfl rfl (Nat.le_of_ble_eq_true rfl) dX9_orderCopy_17 (fun H locs hP hD hS => ?_)
    obtain ⟨S3, eS3⟩ : ∃ z, z = wi S0 3 ar2 5 := ⟨_, rfl⟩
    replace hF := bnd_s hF S3 eS3
    have hP : va_P D vwCl (ZW x cy g S3 ++ va_pl L (pf cy K cf nm S3)) H := by rw [eS3]; rw [← pu_0_3 mar2.2]; exact hP
    have hD : va_D (va_A (ZW x cy g S0 ++ va_pl L (pf cy K cf nm S0)) s.heap.size) (ZW x cy g S3 ++ va_pl L (pf cy K cf nm S3)) := by rw [eS3]; rw [← pu_0_3 mar2.2]; exact hD
    have hT : WT L K S3.2 := by rw [eS3]; exact hT
    refine lv_aload_n hx hb dX9_orderCopy_20 rfl (lv_at hl 1 rfl) ?_
    refine lv_aload_n hx hb dX9_orderCopy_21 rfl (lv_at hl 2 rfl) ?_
    refine pg_put (D := D) (ci := 6) (v := .ref ar2) (ty := (.object "FondsRoom$Box")) (C := RX6) (T := TX6) (N := 17) hx hb hts iX9_orderCopy_6 tyX6 tyX6_ok nmX6 hown hK hP hD hS mar1.1 (pf_6 mar1.2) rfl 8 (by decide) (hts (.fieldLink RX9 267 "FondsRoom$Reader" "awaited" "LFondsRoom$Box;") (List.mem_of_getElem? (i := 3) rfl)) (fun _ h9 => h9) rfl (by decide +kernel) rfl rfl (Nat.le_of_ble_eq_true rfl) dX9_orderCopy_22 (fun H locs hP hD hS => ?_)
    obtain ⟨S4, eS4⟩ : ∃ z, z = wq S3 128 ar1 (some ar2) := ⟨_, rfl⟩
    replace hF := bnd_s hF S4 eS4
    have hP : va_P D vwCl (ZW x cy g S4 ++ va_pl L (pf cy K cf nm S4)) H := by rw [eS4]; rw [← pu_6_8 mar1.2]; exact hP
    have hD : va_D (va_A (ZW x cy g S0 ++ va_pl L (pf cy K cf nm S0)) s.heap.size) (ZW x cy g S4 ++ va_pl L (pf cy K cf nm S4)) := by rw [eS4]; rw [← pu_6_8 mar1.2]; exact hD
    have hT : WT L K S4.2 := by rw [eS4]; exact WT_up hT 128 ar1 (rok_some mar2.1 mar2.2)
    refine lv_aload_n hx hb dX9_orderCopy_25 rfl (lv_at hl 1 rfl) ?_
    refine lv_iload_n hx hb dX9_orderCopy_26 rfl (lv_at hl 3 rfl) ?_
    refine pg_put (D := D) (ci := 6) (v := .int ar3) (ty := .int) (C := RX6) (T := TX6) (N := 17) hx hb hts iX9_orderCopy_6 tyX6 tyX6_ok nmX6 hown hK hP hD hS mar1.1 (pf_6 mar1.2) rfl 10 (by decide) (hts (.fieldLink RX9 336 "FondsRoom$Reader" "copyPages" "I") (List.mem_of_getElem? (i := 4) rfl)) (fun _ h9 => h9) rfl (by decide +kernel) rfl rfl (Nat.le_of_ble_eq_true rfl) dX9_orderCopy_27 (fun H locs hP hD hS => ?_)
    obtain ⟨S5, eS5⟩ : ∃ z, z = wi S4 130 ar1 ar3 := ⟨_, rfl⟩
    replace hF := bnd_s hF S5 eS5
    have hP : va_P D vwCl (ZW x cy g S5 ++ va_pl L (pf cy K cf nm S5)) H := by rw [eS5]; rw [← pu_6_10 mar1.2]; exact hP
    have hD : va_D (va_A (ZW x cy g S0 ++ va_pl L (pf cy K cf nm S0)) s.heap.size) (ZW x cy g S5 ++ va_pl L (pf cy K cf nm S5)) := by rw [eS5]; rw [← pu_6_10 mar1.2]; exact hD
    have hT : WT L K S5.2 := by rw [eS5]; exact hT
    refine lv_aload_n hx hb dX9_orderCopy_30 rfl (lv_at hl 1 rfl) ?_
    refine lv_iload hx hb dX9_orderCopy_31 (lv_at hl 4 rfl) ?_
    obtain ⟨hz33, hF⟩ := ck_s hF
    refine pg_put (D := D) (ci := 6) (v := .int ar4) (ty := .boolean) (C := RX6) (T := TX6) (N := 17) hx hb hts iX9_orderCopy_6 tyX6 tyX6_ok nmX6 hown hK hP hD hS mar1.1 (pf_6 mar1.2) rfl 11 (by decide) (hts (.fieldLink RX9 339 "FondsRoom$Reader" "copyUrgent" "Z") (List.mem_of_getElem? (i := 5) rfl)) (fun _ h9 => h9) rfl (by decide +kernel) (nz01 hz33).1 (nz01 hz33).2 (Nat.le_of_ble_eq_true rfl) dX9_orderCopy_33 (fun H locs hP hD hS => ?_)
    obtain ⟨S6, eS6⟩ : ∃ z, z = wi S5 131 ar1 ar4 := ⟨_, rfl⟩
    replace hF := bnd_s hF S6 eS6
    have hP : va_P D vwCl (ZW x cy g S6 ++ va_pl L (pf cy K cf nm S6)) H := by rw [eS6]; rw [← pu_6_11 mar1.2]; exact hP
    have hD : va_D (va_A (ZW x cy g S0 ++ va_pl L (pf cy K cf nm S0)) s.heap.size) (ZW x cy g S6 ++ va_pl L (pf cy K cf nm S6)) := by rw [eS6]; rw [← pu_6_11 mar1.2]; exact hD
    have hT : WT L K S6.2 := by rw [eS6]; exact hT
    refine lv_aload_n hx hb dX9_orderCopy_36 rfl (lv_at hl 1 rfl) ?_
    refine lv_iconst (v := 4) hx hb dX9_orderCopy_37 (by decide) ?_
    refine pg_put (D := D) (ci := 6) (v := .int 4) (ty := .int) (C := RX6) (T := TX6) (N := 17) hx hb hts iX9_orderCopy_6 tyX6 tyX6_ok nmX6 hown hK hP hD hS mar1.1 (pf_6 mar1.2) rfl 5 (by decide) (hts (.fieldLink RX9 270 "FondsRoom$Reader" "state" "I") (List.mem_of_getElem? (i := 6) rfl)) (fun _ h9 => h9) rfl (by decide +kernel) rfl rfl (Nat.le_of_ble_eq_true rfl) dX9_orderCopy_38 (fun H locs hP hD hS => ?_)
    obtain ⟨S7, eS7⟩ : ∃ z, z = wi S6 125 ar1 4 := ⟨_, rfl⟩
    replace hF := bnd_s hF S7 eS7
    have hP : va_P D vwCl (ZW x cy g S7 ++ va_pl L (pf cy K cf nm S7)) H := by rw [eS7]; rw [← pu_6_5 mar1.2]; exact hP
    have hD : va_D (va_A (ZW x cy g S0 ++ va_pl L (pf cy K cf nm S0)) s.heap.size) (ZW x cy g S7 ++ va_pl L (pf cy K cf nm S7)) := by rw [eS7]; rw [← pu_6_5 mar1.2]; exact hD
    have hT : WT L K S7.2 := by rw [eS7]; exact hT
    refine lv_aload_n hx hb dX9_orderCopy_41 rfl (lv_at hl 0 rfl) ?_
    refine va_get (D := D) (ci := 9) (v := .ref (x 12)) (C := RX9) (T := TX9) (N := 19) hx hb hts iX9_orderCopy_9 hown hK hP 0 rfl rfl 7 (by decide) (hts (.fieldLink RX9 54 "FondsRoom" "copyTickets" "LFondsRoom$Line;") (List.mem_of_getElem? (i := 7) rfl)) (fun _ h9 => h9) rfl dX9_orderCopy_42 ?_
    refine lv_aload_n hx hb dX9_orderCopy_45 rfl (lv_at hl 1 rfl) ?_
    obtain ⟨S9, hq11, hF⟩ := bd1_s hF
    refine gvV (As := [.ref ar1]) (rest := []) ⟨hx, hb, hml, hown, hts⟩ (zX3_append_2 l D x cy g L K cf nm hG hL S7 hT _ ar1 ⟨mar1.1, mar1.2⟩ S9 hq11) (cwV 1 hts gX9_orderCopy_X3_append rfl rfl rfl (by decide +kernel) ⟨Nat.le_of_ble_eq_true rfl, Nat.le_of_ble_eq_true rfl⟩) hK hP hD hS hA (va_recv hK hP (ci := 3) (q0 := 12) rfl rfl) rfl hl.1 rfl (Nat.le_of_ble_eq_true rfl) dX9_orderCopy_46 ⟨Nat.le_of_ble_eq_true rfl, Nat.le_of_ble_eq_true rfl⟩ (fun u9 H locs hw10 hP hD hS => ?_)
    have hT : WT L K S9.2 := hw10
    have hP : va_P D vwCl (ZW x cy g S9 ++ va_pl L (pf cy K cf nm S9)) H := hP
    have hD : va_D _ (ZW x cy g S9 ++ va_pl L (pf cy K cf nm S9)) := hD
    have e2 := Option.some.inj hF
    have hP : va_P D vwCl (ZW x cy g Sf ++ va_pl L (pf cy K cf nm Sf)) H := by rw [← e2]; exact hP
    have hD : va_D (va_A (ZW x cy g S0 ++ va_pl L (pf cy K cf nm S0)) s.heap.size) (ZW x cy g Sf ++ va_pl L (pf cy K cf nm Sf)) := by rw [← e2]; exact hD
    have hT : WT L K Sf.2 := by rw [← e2]; exact hT
    exact W.vret hx hb hr (fun t ht hW => ⟨⟨(), rfl, hT, by rw [ht]; exact hP, va_K.moved hW.alike hK, hD⟩, hS.F ht⟩) hS.2.2 dX9_orderCopy_49
  · skip
    have hF := (if_neg c2).symm.trans hF
    refine lv_aload_n hx hb dX9_orderCopy_8 rfl (lv_at hl 0 rfl) ?_
    refine lv_aload_n hx hb dX9_orderCopy_9 rfl (lv_at hl 1 rfl) ?_
    refine lv_iconst (v := 5) hx hb dX9_orderCopy_10 (by decide) ?_
    obtain ⟨S14, hq16, hF⟩ := bd1_s hF
    refine gvV (As := [.ref ar1, .int 5]) (rest := []) ⟨hx, hb, hml, hown, hts⟩ (zX9_refuse l D x cy g L K cf nm hG hL S0 hT _ ar1 5 ⟨mar1.1, mar1.2⟩ S14 hq16) (cwV 2 hts gX9_orderCopy_X9_refuse rfl rfl rfl (by decide +kernel) ⟨Nat.le_of_ble_eq_true rfl, Nat.le_of_ble_eq_true rfl⟩) hK hP hD hS hA (va_recv hK hP (ci := 9) (q0 := 0) rfl rfl) rfl hl.1 rfl (Nat.le_of_ble_eq_true rfl) dX9_orderCopy_11 ⟨Nat.le_of_ble_eq_true rfl, Nat.le_of_ble_eq_true rfl⟩ (fun u9 H locs hw15 hP hD hS => ?_)
    have hT : WT L K S14.2 := hw15
    have hP : va_P D vwCl (ZW x cy g S14 ++ va_pl L (pf cy K cf nm S14)) H := hP
    have hD : va_D _ (ZW x cy g S14 ++ va_pl L (pf cy K cf nm S14)) := hD
    have e2 := Option.some.inj hF
    have hP : va_P D vwCl (ZW x cy g Sf ++ va_pl L (pf cy K cf nm Sf)) H := by rw [← e2]; exact hP
    have hD : va_D (va_A (ZW x cy g S0 ++ va_pl L (pf cy K cf nm S0)) s.heap.size) (ZW x cy g Sf ++ va_pl L (pf cy K cf nm Sf)) := by rw [← e2]; exact hD
    have hT : WT L K Sf.2 := by rw [← e2]; exact hT
    exact W.vret hx hb hr (fun t ht hW => ⟨⟨(), rfl, hT, by rw [ht]; exact hP, va_K.moved hW.alike hK, hD⟩, hS.F ht⟩) hS.2.2 dX9_orderCopy_14

theorem iX9_askFor_0 : ∀ w ∈ wsX00, w ∈ wsX9_askFor := fun _ h => List.mem_cons_of_mem _ (List.mem_append_left _ (List.mem_append_left _ (List.mem_append_left _ (List.mem_append_left _ (List.mem_append_right _ h)))))
theorem iX9_askFor_6 : ∀ w ∈ wsX60, w ∈ wsX9_askFor := fun _ h => List.mem_cons_of_mem _ (List.mem_append_left _ (List.mem_append_left _ (List.mem_append_left _ (List.mem_append_left _ (List.mem_append_left _ (List.mem_append_right _ h))))))
theorem iX9_askFor_9 : ∀ w ∈ wsX90, w ∈ wsX9_askFor := fun _ h => List.mem_cons_of_mem _ (List.mem_append_left _ (List.mem_append_left _ (List.mem_append_left _ (List.mem_append_left _ (List.mem_append_left _ (List.mem_append_left _ (List.mem_append_right _ h)))))))
set_option maxHeartbeats 8000000 in
set_option maxRecDepth 100000 in
theorem zX9_askFor (l : Launch) (D : va_G) (x : Nat → Nat) (cy : Nat → ClassId) (g : Nat → Nat → Option Nat) (L : List Nat) (K : Nat → Nat) (cf : Nat → Nat → Nat) (nm : Nat → Int32) (hG : GO L K g) (hL : PL L K cf) (S0 : CS) (hT : WT L K S0.2) (sz : Nat) (ar1 : Nat) (ar2 : Nat) (mar1 : ar1 ∈ L ∧ K ar1 = 6) (mar2 : ar2 ∈ L ∧ K ar2 = 0) (Sf : CS) (hF : gX9_askFor g cf nm S0 ar1 ar2 = some Sf) : Met l yX9_askFor wsX9_askFor ({ frames := 2, cells := 0, slots := 0, locals := 47 }) (PW D (TYS cy) (ZW x cy g S0 ++ va_pl L (pf cy K cf nm S0)) sz [.ref (x 0), .ref ar1, .ref ar2]) (va_Qv (fun (u : Unit) => WT L K Sf.2) (BU D (TYS cy) (ZW x cy g S0 ++ va_pl L (pf cy K cf nm S0)) (fun _ => ZW x cy g Sf ++ va_pl L (pf cy K cf nm Sf)) sz) (va_A (ZW x cy g S0 ++ va_pl L (pf cy K cf nm S0)) sz)) 0 0 (va_A (ZW x cy g S0 ++ va_pl L (pf cy K cf nm S0)) sz) := by
  refine Met.ofW (cc := cX9_askFor) (maxL := 4) (ret := none) (by decide) rfl ?_
  intro p e s m args below meth c s₁ B hml hv
  obtain ⟨rfl, hsz, hP, hK, hD0⟩ := hv
  have hx := B.exec
  have hb := B.bytes
  have hr := B.returns
  have hts := atoms_spec (ws := wsX9_askFor) B.pre
  have hown : s.vm.findClass RX9 = some m.cls := findClass_of_methodNamed B.named
  have hlocks := B.notSynchronized
  subst hsz
  have hD := hD0.self (sz := s.heap.size)
  have hA : ∀ q9 : Nat, s.heap.size ≤ q9 → va_A (ZW x cy g S0 ++ va_pl L (pf cy K cf nm S0)) s.heap.size q9 := fun q9 h => Or.inr h
  have hS : va_S (va_A (ZW x cy g S0 ++ va_pl L (pf cy K cf nm S0)) s.heap.size) s.heap s.heap [] := va_S.rf
  have hl := lv_entry ([.ref (x 0), .ref ar1, .ref ar2]) (n := 4) (Nat.le_of_ble_eq_true rfl)
  rw [lg_entry_eq]
  generalize (lg_sl ([.ref (x 0), .ref ar1, .ref ar2]) ++ List.replicate (4 - (lg_sl ([.ref (x 0), .ref ar1, .ref ar2])).length) Slot.unset).toArray = ls at hl ⊢
  have hl : lv_has ls 4 [(0, .ref (x 0)), (1, .ref ar1), (2, .ref ar2)] := hl
  unfold gX9_askFor at hF
  refine lv_aload_n hx hb dX9_askFor_0 rfl (lv_at hl 0 rfl) ?_
  refine va_get (D := D) (ci := 9) (v := .ref (x 18)) (C := RX9) (T := TX9) (N := 19) hx hb hts iX9_askFor_9 hown hK hP 0 rfl rfl 9 (by decide) (hts (.fieldLink RX9 67 "FondsRoom" "events" "LFondsRoom$Events;") (List.mem_of_getElem? (i := 1) rfl)) (fun _ h9 => h9) rfl dX9_askFor_1 ?_
  refine lv_aload_n hx hb dX9_askFor_4 rfl (lv_at hl 0 rfl) ?_
  refine va_get (D := D) (ci := 9) (v := .int (S0.1 200 4)) (C := RX9) (T := TX9) (N := 19) hx hb hts iX9_askFor_9 hown hK hP 0 rfl rfl 14 (by decide) (hts (.fieldLink RX9 78 "FondsRoom" "turn" "I") (List.mem_of_getElem? (i := 2) rfl)) (fun _ h9 => h9) rfl dX9_askFor_5 ?_
  refine lv_aload_n hx hb dX9_askFor_8 rfl (lv_at hl 1 rfl) ?_
  refine pg_get (D := D) (ci := 6) (v := .int (nm ar1)) (C := RX6) (T := TX6) (N := 17) hx hb hts iX9_askFor_6 hown hK hP mar1.1 (pf_6 mar1.2) rfl 0 (by decide) (hts (.fieldLink RX9 273 "FondsRoom$Reader" "number" "I") (List.mem_of_getElem? (i := 3) rfl)) (fun _ h9 => h9) rfl dX9_askFor_9 ?_
  refine lv_iconst (v := 3) hx hb dX9_askFor_12 (by decide) ?_
  refine lv_aload_n hx hb dX9_askFor_13 rfl (lv_at hl 2 rfl) ?_
  refine pg_get (D := D) (ci := 0) (v := .int (nm ar2)) (C := RX0) (T := TX0) (N := 6) hx hb hts iX9_askFor_0 hown hK hP mar2.1 (pf_0 mar2.2) rfl 0 (by decide) (hts (.fieldLink RX9 253 "FondsRoom$Box" "number" "I") (List.mem_of_getElem? (i := 4) rfl)) (fun _ h9 => h9) rfl dX9_askFor_14 ?_
  obtain ⟨S2, hq4, hF⟩ := bd1_s hF
  refine gvV (As := [.int (S0.1 200 4), .int (nm ar1), .int 3, .int (nm ar2)]) (rest := []) ⟨hx, hb, hml, hown, hts⟩ (zX2_keep l D x cy g L K cf nm hG hL S0 hT _ (S0.1 200 4) (nm ar1) 3 (nm ar2)  S2 hq4) (cwV 4 hts gX9_askFor_X2_keep rfl rfl rfl (by decide +kernel) ⟨Nat.le_of_ble_eq_true rfl, Nat.le_of_ble_eq_true rfl⟩) hK hP hD hS hA (va_recv hK hP (ci := 2) (q0 := 18) rfl rfl) rfl hl.1 rfl (Nat.le_of_ble_eq_true rfl) dX9_askFor_17 ⟨Nat.le_of_ble_eq_true rfl, Nat.le_of_ble_eq_true rfl⟩ (fun u9 H locs hw3 hP hD hS => ?_)
  have hT : WT L K S2.2 := hw3
  have hP : va_P D vwCl (ZW x cy g S2 ++ va_pl L (pf cy K cf nm S2)) H := hP
  have hD : va_D _ (ZW x cy g S2 ++ va_pl L (pf cy K cf nm S2)) := hD
  refine lv_aload_n hx hb dX9_askFor_20 rfl (lv_at hl 0 rfl) ?_
  refine lv_aload_n hx hb dX9_askFor_21 rfl (lv_at hl 1 rfl) ?_
  refine lv_aload_n hx hb dX9_askFor_22 rfl (lv_at hl 2 rfl) ?_
  obtain ⟨r6, hq9, hF⟩ := bd1_s hF
  refine gvI (As := [.ref ar1, .ref ar2]) (rest := []) ⟨hx, hb, hml, hown, hts⟩ (zX9_ruleAgainst l D x cy g L K cf nm hG hL S2 hT _ ar1 ar2 ⟨mar1.1, mar1.2⟩ ⟨mar2.1, mar2.2⟩ r6 hq9) (cwV 2 hts gX9_askFor_X9_ruleAgainst rfl rfl rfl (by decide +kernel) ⟨Nat.le_of_ble_eq_true rfl, Nat.le_of_ble_eq_true rfl⟩) hK hP hD hS hA (va_recv hK hP (ci := 9) (q0 := 0) rfl rfl) rfl hl.1 rfl (Nat.le_of_ble_eq_true rfl) dX9_askFor_23 ⟨Nat.le_of_ble_eq_true rfl, Nat.le_of_ble_eq_true rfl⟩ (fun a10 u9 H locs hw8 hP hD hS => ?_)
  have hP : va_P D vwCl (ZW x cy g S2 ++ va_pl L (pf cy K cf nm S2)) H := hP
  have hD : va_D _ (ZW x cy g S2 ++ va_pl L (pf cy K cf nm S2)) := hD
  refine lv_tov (v' := .int r6) (congrArg Value.int hw8) ?_
  refine lv_istore_n (lv' := [(3, .int r6), (0, .ref (x 0)), (1, .ref ar1), (2, .ref ar2)]) hx hb dX9_askFor_26 rfl hl (by decide) rfl (fun ls hl => ?_)
  refine lv_iload_n hx hb dX9_askFor_27 rfl (lv_at hl 0 rfl) ?_
  refine lv_iconst (v := (-1)) hx hb dX9_askFor_28 (by decide) ?_
  refine lv_icmp_eq (tgt := 39) hx hb dX9_askFor_29 (by decide) (fun c11 => ?_) (fun c11 => ?_)
  · skip
    have hF := (if_pos c11).symm.trans hF
    refine lv_aload_n hx hb dX9_askFor_39 rfl (lv_at hl 3 rfl) ?_
    refine lv_aload_n hx hb dX9_askFor_40 rfl (lv_at hl 2 rfl) ?_
    refine pg_put (D := D) (ci := 0) (v := .ref ar1) (ty := (.object "FondsRoom$Reader")) (C := RX0) (T := TX0) (N := 6) hx hb hts iX9_askFor_0 tyX0 tyX0_ok nmX0 hown hK hP hD hS mar2.1 (pf_0 mar2.2) rfl 5 (by decide) (hts (.fieldLink RX9 260 "FondsRoom$Box" "wanter" "LFondsRoom$Reader;") (List.mem_of_getElem? (i := 5) rfl)) (fun _ h9 => h9) rfl (by decide +kernel) rfl rfl (Nat.le_of_ble_eq_true rfl) dX9_askFor_41 (fun H locs hP hD hS => ?_)
    obtain ⟨S12, eS12⟩ : ∃ z, z = wq S2 5 ar2 (some ar1) := ⟨_, rfl⟩
    replace hF := bnd_s hF S12 eS12
    have hP : va_P D vwCl (ZW x cy g S12 ++ va_pl L (pf cy K cf nm S12)) H := by rw [eS12]; rw [← pu_0_5 mar2.2]; exact hP
    have hD : va_D (va_A (ZW x cy g S0 ++ va_pl L (pf cy K cf nm S0)) s.heap.size) (ZW x cy g S12 ++ va_pl L (pf cy K cf nm S12)) := by rw [eS12]; rw [← pu_0_5 mar2.2]; exact hD
    have hT : WT L K S12.2 := by rw [eS12]; exact WT_up hT 5 ar2 (rok_some mar1.1 mar1.2)
    refine lv_aload_n hx hb dX9_askFor_44 rfl (lv_at hl 2 rfl) ?_
    refine lv_aload_n hx hb dX9_askFor_45 rfl (lv_at hl 3 rfl) ?_
    refine pg_put (D := D) (ci := 6) (v := .ref ar2) (ty := (.object "FondsRoom$Box")) (C := RX6) (T := TX6) (N := 17) hx hb hts iX9_askFor_6 tyX6 tyX6_ok nmX6 hown hK hP hD hS mar1.1 (pf_6 mar1.2) rfl 8 (by decide) (hts (.fieldLink RX9 267 "FondsRoom$Reader" "awaited" "LFondsRoom$Box;") (List.mem_of_getElem? (i := 6) rfl)) (fun _ h9 => h9) rfl (by decide +kernel) rfl rfl (Nat.le_of_ble_eq_true rfl) dX9_askFor_46 (fun H locs hP hD hS => ?_)
    obtain ⟨S13, eS13⟩ : ∃ z, z = wq S12 128 ar1 (some ar2) := ⟨_, rfl⟩
    replace hF := bnd_s hF S13 eS13
    have hP : va_P D vwCl (ZW x cy g S13 ++ va_pl L (pf cy K cf nm S13)) H := by rw [eS13]; rw [← pu_6_8 mar1.2]; exact hP
    have hD : va_D (va_A (ZW x cy g S0 ++ va_pl L (pf cy K cf nm S0)) s.heap.size) (ZW x cy g S13 ++ va_pl L (pf cy K cf nm S13)) := by rw [eS13]; rw [← pu_6_8 mar1.2]; exact hD
    have hT : WT L K S13.2 := by rw [eS13]; exact WT_up hT 128 ar1 (rok_some mar2.1 mar2.2)
    refine lv_aload_n hx hb dX9_askFor_49 rfl (lv_at hl 2 rfl) ?_
    refine lv_iconst (v := 2) hx hb dX9_askFor_50 (by decide) ?_
    refine pg_put (D := D) (ci := 6) (v := .int 2) (ty := .int) (C := RX6) (T := TX6) (N := 17) hx hb hts iX9_askFor_6 tyX6 tyX6_ok nmX6 hown hK hP hD hS mar1.1 (pf_6 mar1.2) rfl 5 (by decide) (hts (.fieldLink RX9 270 "FondsRoom$Reader" "state" "I") (List.mem_of_getElem? (i := 7) rfl)) (fun _ h9 => h9) rfl (by decide +kernel) rfl rfl (Nat.le_of_ble_eq_true rfl) dX9_askFor_51 (fun H locs hP hD hS => ?_)
    obtain ⟨S14, eS14⟩ : ∃ z, z = wi S13 125 ar1 2 := ⟨_, rfl⟩
    replace hF := bnd_s hF S14 eS14
    have hP : va_P D vwCl (ZW x cy g S14 ++ va_pl L (pf cy K cf nm S14)) H := by rw [eS14]; rw [← pu_6_5 mar1.2]; exact hP
    have hD : va_D (va_A (ZW x cy g S0 ++ va_pl L (pf cy K cf nm S0)) s.heap.size) (ZW x cy g S14 ++ va_pl L (pf cy K cf nm S14)) := by rw [eS14]; rw [← pu_6_5 mar1.2]; exact hD
    have hT : WT L K S14.2 := by rw [eS14]; exact hT
    refine lv_aload_n hx hb dX9_askFor_54 rfl (lv_at hl 1 rfl) ?_
    refine va_get (D := D) (ci := 9) (v := .ref (x 10)) (C := RX9) (T := TX9) (N := 19) hx hb hts iX9_askFor_9 hown hK hP 0 rfl rfl 6 (by decide) (hts (.fieldLink RX9 51 "FondsRoom" "boxTickets" "LFondsRoom$Line;") (List.mem_of_getElem? (i := 8) rfl)) (fun _ h9 => h9) rfl dX9_askFor_55 ?_
    refine lv_aload_n hx hb dX9_askFor_58 rfl (lv_at hl 2 rfl) ?_
    obtain ⟨S16, hq18, hF⟩ := bd1_s hF
    refine gvV (As := [.ref ar1]) (rest := []) ⟨hx, hb, hml, hown, hts⟩ (zX3_append_1 l D x cy g L K cf nm hG hL S14 hT _ ar1 ⟨mar1.1, mar1.2⟩ S16 hq18) (cwV 1 hts gX9_askFor_X3_append rfl rfl rfl (by decide +kernel) ⟨Nat.le_of_ble_eq_true rfl, Nat.le_of_ble_eq_true rfl⟩) hK hP hD hS hA (va_recv hK hP (ci := 3) (q0 := 10) rfl rfl) rfl hl.1 rfl (Nat.le_of_ble_eq_true rfl) dX9_askFor_59 ⟨Nat.le_of_ble_eq_true rfl, Nat.le_of_ble_eq_true rfl⟩ (fun u9 H locs hw17 hP hD hS => ?_)
    have hT : WT L K S16.2 := hw17
    have hP : va_P D vwCl (ZW x cy g S16 ++ va_pl L (pf cy K cf nm S16)) H := hP
    have hD : va_D _ (ZW x cy g S16 ++ va_pl L (pf cy K cf nm S16)) := hD
    have e2 := Option.some.inj hF
    have hP : va_P D vwCl (ZW x cy g Sf ++ va_pl L (pf cy K cf nm Sf)) H := by rw [← e2]; exact hP
    have hD : va_D (va_A (ZW x cy g S0 ++ va_pl L (pf cy K cf nm S0)) s.heap.size) (ZW x cy g Sf ++ va_pl L (pf cy K cf nm Sf)) := by rw [← e2]; exact hD
    have hT : WT L K Sf.2 := by rw [← e2]; exact hT
    exact W.vret hx hb hr (fun t ht hW => ⟨⟨(), rfl, hT, by rw [ht]; exact hP, va_K.moved hW.alike hK, hD⟩, hS.F ht⟩) hS.2.2 dX9_askFor_62
  · skip
    have hF := (if_neg c11).symm.trans hF
    refine lv_aload_n hx hb dX9_askFor_32 rfl (lv_at hl 1 rfl) ?_
    refine lv_aload_n hx hb dX9_askFor_33 rfl (lv_at hl 2 rfl) ?_
    refine lv_iload_n hx hb dX9_askFor_34 rfl (lv_at hl 0 rfl) ?_
    obtain ⟨S21, hq23, hF⟩ := bd1_s hF
    refine gvV (As := [.ref ar1, .int r6]) (rest := []) ⟨hx, hb, hml, hown, hts⟩ (zX9_refuse l D x cy g L K cf nm hG hL S2 hT _ ar1 r6 ⟨mar1.1, mar1.2⟩ S21 hq23) (cwV 2 hts gX9_askFor_X9_refuse rfl rfl rfl (by decide +kernel) ⟨Nat.le_of_ble_eq_true rfl, Nat.le_of_ble_eq_true rfl⟩) hK hP hD hS hA (va_recv hK hP (ci := 9) (q0 := 0) rfl rfl) rfl hl.1 rfl (Nat.le_of_ble_eq_true rfl) dX9_askFor_35 ⟨Nat.le_of_ble_eq_true rfl, Nat.le_of_ble_eq_true rfl⟩ (fun u9 H locs hw22 hP hD hS => ?_)
    have hT : WT L K S21.2 := hw22
    have hP : va_P D vwCl (ZW x cy g S21 ++ va_pl L (pf cy K cf nm S21)) H := hP
    have hD : va_D _ (ZW x cy g S21 ++ va_pl L (pf cy K cf nm S21)) := hD
    have e2 := Option.some.inj hF
    have hP : va_P D vwCl (ZW x cy g Sf ++ va_pl L (pf cy K cf nm Sf)) H := by rw [← e2]; exact hP
    have hD : va_D (va_A (ZW x cy g S0 ++ va_pl L (pf cy K cf nm S0)) s.heap.size) (ZW x cy g Sf ++ va_pl L (pf cy K cf nm Sf)) := by rw [← e2]; exact hD
    have hT : WT L K Sf.2 := by rw [← e2]; exact hT
    exact W.vret hx hb hr (fun t ht hW => ⟨⟨(), rfl, hT, by rw [ht]; exact hP, va_K.moved hW.alike hK, hD⟩, hS.F ht⟩) hS.2.2 dX9_askFor_38

theorem iX9_dropTickets_0 : ∀ w ∈ wsX00, w ∈ wsX9_dropTickets := fun _ h => List.mem_cons_of_mem _ (List.mem_append_left _ (List.mem_append_right _ h))
theorem iX9_dropTickets_6 : ∀ w ∈ wsX60, w ∈ wsX9_dropTickets := fun _ h => List.mem_cons_of_mem _ (List.mem_append_left _ (List.mem_append_left _ (List.mem_append_right _ h)))
theorem iX9_dropTickets_9 : ∀ w ∈ wsX90, w ∈ wsX9_dropTickets := fun _ h => List.mem_cons_of_mem _ (List.mem_append_left _ (List.mem_append_left _ (List.mem_append_left _ (List.mem_append_right _ h))))
set_option maxHeartbeats 8000000 in
set_option maxRecDepth 100000 in
theorem zX9_dropTickets (l : Launch) (D : va_G) (x : Nat → Nat) (cy : Nat → ClassId) (g : Nat → Nat → Option Nat) (L : List Nat) (K : Nat → Nat) (cf : Nat → Nat → Nat) (nm : Nat → Int32) (hG : GO L K g) (hL : PL L K cf) (S0 : CS) (hT : WT L K S0.2) (sz : Nat) (ar1 : Nat) (mar1 : ar1 ∈ L ∧ K ar1 = 6) (Sf : CS) (hF : gX9_dropTickets g cf nm S0 ar1 = some Sf) : Met l yX9_dropTickets wsX9_dropTickets ({ frames := 1, cells := 0, slots := 0, locals := 23 }) (PW D (TYS cy) (ZW x cy g S0 ++ va_pl L (pf cy K cf nm S0)) sz [.ref (x 0), .ref ar1]) (va_Qv (fun (u : Unit) => WT L K Sf.2) (BU D (TYS cy) (ZW x cy g S0 ++ va_pl L (pf cy K cf nm S0)) (fun _ => ZW x cy g Sf ++ va_pl L (pf cy K cf nm Sf)) sz) (va_A (ZW x cy g S0 ++ va_pl L (pf cy K cf nm S0)) sz)) 0 0 (va_A (ZW x cy g S0 ++ va_pl L (pf cy K cf nm S0)) sz) := by
  refine Met.ofW (cc := cX9_dropTickets) (maxL := 3) (ret := none) (by decide) rfl ?_
  intro p e s m args below meth c s₁ B hml hv
  obtain ⟨rfl, hsz, hP, hK, hD0⟩ := hv
  have hx := B.exec
  have hb := B.bytes
  have hr := B.returns
  have hts := atoms_spec (ws := wsX9_dropTickets) B.pre
  have hown : s.vm.findClass RX9 = some m.cls := findClass_of_methodNamed B.named
  have hlocks := B.notSynchronized
  subst hsz
  have hD := hD0.self (sz := s.heap.size)
  have hA : ∀ q9 : Nat, s.heap.size ≤ q9 → va_A (ZW x cy g S0 ++ va_pl L (pf cy K cf nm S0)) s.heap.size q9 := fun q9 h => Or.inr h
  have hS : va_S (va_A (ZW x cy g S0 ++ va_pl L (pf cy K cf nm S0)) s.heap.size) s.heap s.heap [] := va_S.rf
  have hl := lv_entry ([.ref (x 0), .ref ar1]) (n := 3) (Nat.le_of_ble_eq_true rfl)
  rw [lg_entry_eq]
  generalize (lg_sl ([.ref (x 0), .ref ar1]) ++ List.replicate (3 - (lg_sl ([.ref (x 0), .ref ar1])).length) Slot.unset).toArray = ls at hl ⊢
  have hl : lv_has ls 3 [(0, .ref (x 0)), (1, .ref ar1)] := hl
  unfold gX9_dropTickets at hF
  refine lv_aload_n hx hb dX9_dropTickets_0 rfl (lv_at hl 0 rfl) ?_
  refine va_get (D := D) (ci := 9) (v := .ref (x 10)) (C := RX9) (T := TX9) (N := 19) hx hb hts iX9_dropTickets_9 hown hK hP 0 rfl rfl 6 (by decide) (hts (.fieldLink RX9 51 "FondsRoom" "boxTickets" "LFondsRoom$Line;") (List.mem_of_getElem? (i := 1) rfl)) (fun _ h9 => h9) rfl dX9_dropTickets_1 ?_
  refine lv_aload_n hx hb dX9_dropTickets_4 rfl (lv_at hl 1 rfl) ?_
  obtain ⟨S2, hq4, hF⟩ := bd1_s hF
  refine gvV (As := [.ref ar1]) (rest := []) ⟨hx, hb, hml, hown, hts⟩ (zX3_remove_1 l D x cy g L K cf nm hG hL S0 hT _ ar1 ⟨mar1.1, mar1.2⟩ S2 hq4) (cwV 1 hts gX9_dropTickets_X3_remove rfl rfl rfl (by decide +kernel) ⟨Nat.le_of_ble_eq_true rfl, Nat.le_of_ble_eq_true rfl⟩) hK hP hD hS hA (va_recv hK hP (ci := 3) (q0 := 10) rfl rfl) rfl hl.1 rfl (Nat.le_of_ble_eq_true rfl) dX9_dropTickets_5 ⟨Nat.le_of_ble_eq_true rfl, Nat.le_of_ble_eq_true rfl⟩ (fun u9 H locs hw3 hP hD hS => ?_)
  have hT : WT L K S2.2 := hw3
  have hP : va_P D vwCl (ZW x cy g S2 ++ va_pl L (pf cy K cf nm S2)) H := hP
  have hD : va_D _ (ZW x cy g S2 ++ va_pl L (pf cy K cf nm S2)) := hD
  refine lv_aload_n hx hb dX9_dropTickets_8 rfl (lv_at hl 0 rfl) ?_
  refine va_get (D := D) (ci := 9) (v := .ref (x 12)) (C := RX9) (T := TX9) (N := 19) hx hb hts iX9_dropTickets_9 hown hK hP 0 rfl rfl 7 (by decide) (hts (.fieldLink RX9 54 "FondsRoom" "copyTickets" "LFondsRoom$Line;") (List.mem_of_getElem? (i := 2) rfl)) (fun _ h9 => h9) rfl dX9_dropTickets_9 ?_
  refine lv_aload_n hx hb dX9_dropTickets_12 rfl (lv_at hl 1 rfl) ?_
  obtain ⟨S7, hq9, hF⟩ := bd1_s hF
  refine gvV (As := [.ref ar1]) (rest := []) ⟨hx, hb, hml, hown, hts⟩ (zX3_remove_2 l D x cy g L K cf nm hG hL S2 hT _ ar1 ⟨mar1.1, mar1.2⟩ S7 hq9) (cwV 1 hts gX9_dropTickets_X3_remove rfl rfl rfl (by decide +kernel) ⟨Nat.le_of_ble_eq_true rfl, Nat.le_of_ble_eq_true rfl⟩) hK hP hD hS hA (va_recv hK hP (ci := 3) (q0 := 12) rfl rfl) rfl hl.1 rfl (Nat.le_of_ble_eq_true rfl) dX9_dropTickets_13 ⟨Nat.le_of_ble_eq_true rfl, Nat.le_of_ble_eq_true rfl⟩ (fun u9 H locs hw8 hP hD hS => ?_)
  have hT : WT L K S7.2 := hw8
  have hP : va_P D vwCl (ZW x cy g S7 ++ va_pl L (pf cy K cf nm S7)) H := hP
  have hD : va_D _ (ZW x cy g S7 ++ va_pl L (pf cy K cf nm S7)) := hD
  refine lv_aload_n hx hb dX9_dropTickets_16 rfl (lv_at hl 1 rfl) ?_
  refine pg_get (D := D) (ci := 6) (v := va_rf (S7.2 128 ar1)) (C := RX6) (T := TX6) (N := 17) hx hb hts iX9_dropTickets_6 hown hK hP mar1.1 (pf_6 mar1.2) rfl 8 (by decide) (hts (.fieldLink RX9 267 "FondsRoom$Reader" "awaited" "LFondsRoom$Box;") (List.mem_of_getElem? (i := 3) rfl)) (fun _ h9 => h9) rfl dX9_dropTickets_17 ?_
  obtain ⟨q11, eq11⟩ : ∃ z, z = S7.2 128 ar1 := ⟨_, rfl⟩
  replace hF := bnd_s hF q11 eq11
  have hq11 : rok L K 0 q11 := by rw [eq11]; exact hT 128 ar1
  refine lv_tov (v' := va_rf q11) (by rw [eq11]) ?_
  refine lq_astore_n (lv' := [(2, va_rf q11), (0, .ref (x 0)), (1, .ref ar1)]) hx hb dX9_dropTickets_20 rfl hl (by decide) rfl (fun ls hl => ?_)
  refine lq_aload_n hx hb dX9_dropTickets_21 rfl (lv_at hl 0 rfl) ?_
  rcases eb12 : q11 with _ | b12
  · skip
    subst eb12
    replace hF := oc_n hF
    have hl : lv_has ls 3 [(2, .null), (0, .ref (x 0)), (1, .ref ar1)] := hl
    refine W.eq (g2 := F0 m 22 ls [.null]) rfl ?_
    refine lv_ifnullN (tgt := 38) hx hb dX9_dropTickets_22 (by decide) ?_
    refine lv_aload_n hx hb dX9_dropTickets_38 rfl (lv_at hl 2 rfl) ?_
    refine lv_null hx hb dX9_dropTickets_39 ?_
    refine pg_put (D := D) (ci := 6) (v := .null) (ty := (.object "FondsRoom$Box")) (C := RX6) (T := TX6) (N := 17) hx hb hts iX9_dropTickets_6 tyX6 tyX6_ok nmX6 hown hK hP hD hS mar1.1 (pf_6 mar1.2) rfl 8 (by decide) (hts (.fieldLink RX9 267 "FondsRoom$Reader" "awaited" "LFondsRoom$Box;") (List.mem_of_getElem? (i := 3) rfl)) (fun _ h9 => h9) rfl (by decide +kernel) rfl rfl (Nat.le_of_ble_eq_true rfl) dX9_dropTickets_40 (fun H locs hP hD hS => ?_)
    obtain ⟨S13, eS13⟩ : ∃ z, z = wq S7 128 ar1 none := ⟨_, rfl⟩
    replace hF := bnd_s hF S13 eS13
    have hP : va_P D vwCl (ZW x cy g S13 ++ va_pl L (pf cy K cf nm S13)) H := by rw [eS13]; rw [← pu_6_8 mar1.2]; exact hP
    have hD : va_D (va_A (ZW x cy g S0 ++ va_pl L (pf cy K cf nm S0)) s.heap.size) (ZW x cy g S13 ++ va_pl L (pf cy K cf nm S13)) := by rw [eS13]; rw [← pu_6_8 mar1.2]; exact hD
    have hT : WT L K S13.2 := by rw [eS13]; exact WT_up hT 128 ar1 rok_none
    have e2 := Option.some.inj hF
    have hP : va_P D vwCl (ZW x cy g Sf ++ va_pl L (pf cy K cf nm Sf)) H := by rw [← e2]; exact hP
    have hD : va_D (va_A (ZW x cy g S0 ++ va_pl L (pf cy K cf nm S0)) s.heap.size) (ZW x cy g Sf ++ va_pl L (pf cy K cf nm Sf)) := by rw [← e2]; exact hD
    have hT : WT L K Sf.2 := by rw [← e2]; exact hT
    exact W.vret hx hb hr (fun t ht hW => ⟨⟨(), rfl, hT, by rw [ht]; exact hP, va_K.moved hW.alike hK, hD⟩, hS.F ht⟩) hS.2.2 dX9_dropTickets_43
  · skip
    subst eb12
    replace hF := oc_b hF
    have mb12 := hq11 b12 rfl
    have hl : lv_has ls 3 [(2, .ref b12), (0, .ref (x 0)), (1, .ref ar1)] := hl
    refine W.eq (g2 := F0 m 22 ls [.ref b12]) rfl ?_
    refine lv_ifnull hx hb dX9_dropTickets_22 ?_
    refine lv_aload_n hx hb dX9_dropTickets_25 rfl (lv_at hl 0 rfl) ?_
    refine pg_get (D := D) (ci := 0) (v := va_rf (S7.2 5 b12)) (C := RX0) (T := TX0) (N := 6) hx hb hts iX9_dropTickets_0 hown hK hP mb12.1 (pf_0 mb12.2) rfl 5 (by decide) (hts (.fieldLink RX9 260 "FondsRoom$Box" "wanter" "LFondsRoom$Reader;") (List.mem_of_getElem? (i := 4) rfl)) (fun _ h9 => h9) rfl dX9_dropTickets_26 ?_
    obtain ⟨q14, eq14⟩ : ∃ z, z = S7.2 5 b12 := ⟨_, rfl⟩
    replace hF := bnd_s hF q14 eq14
    have hq14 : rok L K 6 q14 := by rw [eq14]; exact hT 5 b12
    refine lv_tov (v' := va_rf q14) (by rw [eq14]) ?_
    refine lv_aload_n hx hb dX9_dropTickets_29 rfl (lv_at hl 2 rfl) ?_
    refine lv_acmp_ne (rx := q14) (ry := (some ar1)) (tgt := 38) hx hb dX9_dropTickets_30 (by decide) (fun c15 => ?_) (fun c15 => ?_)
    · skip
      have hF := (if_neg c15).symm.trans hF
      refine lv_aload_n hx hb dX9_dropTickets_38 rfl (lv_at hl 2 rfl) ?_
      refine lv_null hx hb dX9_dropTickets_39 ?_
      refine pg_put (D := D) (ci := 6) (v := .null) (ty := (.object "FondsRoom$Box")) (C := RX6) (T := TX6) (N := 17) hx hb hts iX9_dropTickets_6 tyX6 tyX6_ok nmX6 hown hK hP hD hS mar1.1 (pf_6 mar1.2) rfl 8 (by decide) (hts (.fieldLink RX9 267 "FondsRoom$Reader" "awaited" "LFondsRoom$Box;") (List.mem_of_getElem? (i := 3) rfl)) (fun _ h9 => h9) rfl (by decide +kernel) rfl rfl (Nat.le_of_ble_eq_true rfl) dX9_dropTickets_40 (fun H locs hP hD hS => ?_)
      obtain ⟨S16, eS16⟩ : ∃ z, z = wq S7 128 ar1 none := ⟨_, rfl⟩
      replace hF := bnd_s hF S16 eS16
      have hP : va_P D vwCl (ZW x cy g S16 ++ va_pl L (pf cy K cf nm S16)) H := by rw [eS16]; rw [← pu_6_8 mar1.2]; exact hP
      have hD : va_D (va_A (ZW x cy g S0 ++ va_pl L (pf cy K cf nm S0)) s.heap.size) (ZW x cy g S16 ++ va_pl L (pf cy K cf nm S16)) := by rw [eS16]; rw [← pu_6_8 mar1.2]; exact hD
      have hT : WT L K S16.2 := by rw [eS16]; exact WT_up hT 128 ar1 rok_none
      have e2 := Option.some.inj hF
      have hP : va_P D vwCl (ZW x cy g Sf ++ va_pl L (pf cy K cf nm Sf)) H := by rw [← e2]; exact hP
      have hD : va_D (va_A (ZW x cy g S0 ++ va_pl L (pf cy K cf nm S0)) s.heap.size) (ZW x cy g Sf ++ va_pl L (pf cy K cf nm Sf)) := by rw [← e2]; exact hD
      have hT : WT L K Sf.2 := by rw [← e2]; exact hT
      exact W.vret hx hb hr (fun t ht hW => ⟨⟨(), rfl, hT, by rw [ht]; exact hP, va_K.moved hW.alike hK, hD⟩, hS.F ht⟩) hS.2.2 dX9_dropTickets_43
    · skip
      have hF := (if_pos c15).symm.trans hF
      refine lv_aload_n hx hb dX9_dropTickets_33 rfl (lv_at hl 0 rfl) ?_
      refine lv_null hx hb dX9_dropTickets_34 ?_
      refine pg_put (D := D) (ci := 0) (v := .null) (ty := (.object "FondsRoom$Reader")) (C := RX0) (T := TX0) (N := 6) hx hb hts iX9_dropTickets_0 tyX0 tyX0_ok nmX0 hown hK hP hD hS mb12.1 (pf_0 mb12.2) rfl 5 (by decide) (hts (.fieldLink RX9 260 "FondsRoom$Box" "wanter" "LFondsRoom$Reader;") (List.mem_of_getElem? (i := 4) rfl)) (fun _ h9 => h9) rfl (by decide +kernel) rfl rfl (Nat.le_of_ble_eq_true rfl) dX9_dropTickets_35 (fun H locs hP hD hS => ?_)
      obtain ⟨S17, eS17⟩ : ∃ z, z = wq S7 5 b12 none := ⟨_, rfl⟩
      replace hF := bnd_s hF S17 eS17
      have hP : va_P D vwCl (ZW x cy g S17 ++ va_pl L (pf cy K cf nm S17)) H := by rw [eS17]; rw [← pu_0_5 mb12.2]; exact hP
      have hD : va_D (va_A (ZW x cy g S0 ++ va_pl L (pf cy K cf nm S0)) s.heap.size) (ZW x cy g S17 ++ va_pl L (pf cy K cf nm S17)) := by rw [eS17]; rw [← pu_0_5 mb12.2]; exact hD
      have hT : WT L K S17.2 := by rw [eS17]; exact WT_up hT 5 b12 rok_none
      refine lv_aload_n hx hb dX9_dropTickets_38 rfl (lv_at hl 2 rfl) ?_
      refine lv_null hx hb dX9_dropTickets_39 ?_
      refine pg_put (D := D) (ci := 6) (v := .null) (ty := (.object "FondsRoom$Box")) (C := RX6) (T := TX6) (N := 17) hx hb hts iX9_dropTickets_6 tyX6 tyX6_ok nmX6 hown hK hP hD hS mar1.1 (pf_6 mar1.2) rfl 8 (by decide) (hts (.fieldLink RX9 267 "FondsRoom$Reader" "awaited" "LFondsRoom$Box;") (List.mem_of_getElem? (i := 3) rfl)) (fun _ h9 => h9) rfl (by decide +kernel) rfl rfl (Nat.le_of_ble_eq_true rfl) dX9_dropTickets_40 (fun H locs hP hD hS => ?_)
      obtain ⟨S18, eS18⟩ : ∃ z, z = wq S17 128 ar1 none := ⟨_, rfl⟩
      replace hF := bnd_s hF S18 eS18
      have hP : va_P D vwCl (ZW x cy g S18 ++ va_pl L (pf cy K cf nm S18)) H := by rw [eS18]; rw [← pu_6_8 mar1.2]; exact hP
      have hD : va_D (va_A (ZW x cy g S0 ++ va_pl L (pf cy K cf nm S0)) s.heap.size) (ZW x cy g S18 ++ va_pl L (pf cy K cf nm S18)) := by rw [eS18]; rw [← pu_6_8 mar1.2]; exact hD
      have hT : WT L K S18.2 := by rw [eS18]; exact WT_up hT 128 ar1 rok_none
      have e2 := Option.some.inj hF
      have hP : va_P D vwCl (ZW x cy g Sf ++ va_pl L (pf cy K cf nm Sf)) H := by rw [← e2]; exact hP
      have hD : va_D (va_A (ZW x cy g S0 ++ va_pl L (pf cy K cf nm S0)) s.heap.size) (ZW x cy g Sf ++ va_pl L (pf cy K cf nm Sf)) := by rw [← e2]; exact hD
      have hT : WT L K Sf.2 := by rw [← e2]; exact hT
      exact W.vret hx hb hr (fun t ht hW => ⟨⟨(), rfl, hT, by rw [ht]; exact hP, va_K.moved hW.alike hK, hD⟩, hS.F ht⟩) hS.2.2 dX9_dropTickets_43
