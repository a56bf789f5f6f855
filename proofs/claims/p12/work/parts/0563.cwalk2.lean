theorem iX9_depart_0 : ∀ w ∈ wsX00, w ∈ wsX9_depart := fun _ h => List.mem_cons_of_mem _ (List.mem_append_left _ (List.mem_append_left _ (List.mem_append_left _ (List.mem_append_left _ (List.mem_append_right _ h)))))
theorem iX9_depart_1 : ∀ w ∈ wsX10, w ∈ wsX9_depart := fun _ h => List.mem_cons_of_mem _ (List.mem_append_left _ (List.mem_append_left _ (List.mem_append_right _ h)))
theorem iX9_depart_6 : ∀ w ∈ wsX60, w ∈ wsX9_depart := fun _ h => List.mem_cons_of_mem _ (List.mem_append_left _ (List.mem_append_left _ (List.mem_append_left _ (List.mem_append_right _ h))))
theorem iX9_depart_9 : ∀ w ∈ wsX90, w ∈ wsX9_depart := fun _ h => List.mem_cons_of_mem _ (List.mem_append_left _ (List.mem_append_left _ (List.mem_append_left _ (List.mem_append_left _ (List.mem_append_left _ (List.mem_append_right _ h))))))
set_option maxHeartbeats 8000000 in
set_option maxRecDepth 100000 in
theorem zX9_depart (l : Launch) (D : va_G) (x : Nat → Nat) (cy : Nat → ClassId) (g : Nat → Nat → Option Nat) (L : List Nat) (K : Nat → Nat) (cf : Nat → Nat → Nat) (nm : Nat → Int32) (hG : GO L K g) (hL : PL L K cf) (S0 : CS) (hT : WT L K S0.2) (sz : Nat) (ar1 : Nat) (ar2 : Int32) (mar1 : ar1 ∈ L ∧ K ar1 = 6) (Sf : CS) (hF : gX9_depart g cf nm S0 ar1 ar2 = some Sf) : Met l yX9_depart wsX9_depart ({ frames := 2, cells := 0, slots := 0, locals := 45 }) (PW D (TYS cy) (ZW x cy g S0 ++ va_pl L (pf cy K cf nm S0)) sz [.ref (x 0), .ref ar1, .int ar2]) (va_Qv (fun (u : Unit) => WT L K Sf.2) (BU D (TYS cy) (ZW x cy g S0 ++ va_pl L (pf cy K cf nm S0)) (fun _ => ZW x cy g Sf ++ va_pl L (pf cy K cf nm Sf)) sz) (va_A (ZW x cy g S0 ++ va_pl L (pf cy K cf nm S0)) sz)) 0 0 (va_A (ZW x cy g S0 ++ va_pl L (pf cy K cf nm S0)) sz) := by
  refine Met.ofW (cc := cX9_depart) (maxL := 5) (ret := none) (by decide) rfl ?_
  intro p e s m args below meth c s₁ B hml hv
  obtain ⟨rfl, hsz, hP, hK, hD0⟩ := hv
  have hx := B.exec
  have hb := B.bytes
  have hr := B.returns
  have hts := atoms_spec (ws := wsX9_depart) B.pre
  have hown : s.vm.findClass RX9 = some m.cls := findClass_of_methodNamed B.named
  have hlocks := B.notSynchronized
  subst hsz
  have hD := hD0.self (sz := s.heap.size)
  have hA : ∀ q9 : Nat, s.heap.size ≤ q9 → va_A (ZW x cy g S0 ++ va_pl L (pf cy K cf nm S0)) s.heap.size q9 := fun q9 h => Or.inr h
  have hS : va_S (va_A (ZW x cy g S0 ++ va_pl L (pf cy K cf nm S0)) s.heap.size) s.heap s.heap [] := va_S.rf
  have key15 : ∀ (KK : Nat → Int32 → CS → Option (CS)), (∀ (v1 : Nat) (v2 : Int32) (S : CS) (H : Heap) (locs : List Loc) (ls : Array Slot), KK v1 v2 S = some Sf → WT L K S.2 → (v1 ∈ L ∧ K v1 = 6) → va_P D vwCl (ZW x cy g S ++ va_pl L (pf cy K cf nm S)) H → va_D (va_A (ZW x cy g S0 ++ va_pl L (pf cy K cf nm S0)) s.heap.size) (ZW x cy g S ++ va_pl L (pf cy K cf nm S)) → va_S (va_A (ZW x cy g S0 ++ va_pl L (pf cy K cf nm S0)) s.heap.size) s.heap H locs → lv_has ls 5 [(1, .ref v1), (2, .int v2), (0, .ref (x 0))] → W p l e (headSpec wsX9_depart ({ frames := 2, cells := 0, slots := 0, locals := 45 })).room s m #[.ref (x 0), .ref ar1, .int ar2] below meth c H locs 0 0 (MQ below (va_Qv (fun (u : Unit) => WT L K Sf.2) (BU D (TYS cy) (ZW x cy g S0 ++ va_pl L (pf cy K cf nm S0)) (fun _ => ZW x cy g Sf ++ va_pl L (pf cy K cf nm Sf)) s.heap.size) (va_A (ZW x cy g S0 ++ va_pl L (pf cy K cf nm S0)) s.heap.size)) #[.ref (x 0), .ref ar1, .int ar2] s 0 0 (va_A (ZW x cy g S0 ++ va_pl L (pf cy K cf nm S0)) s.heap.size)) (F0 m 68 ls [])) → ∀ (fu : Nat) (v1 : Nat) (v2 : Int32) (v3 : Int32) (S : CS) (H : Heap) (locs : List Loc) (ls : Array Slot), gX9_depart_15 g cf nm KK fu v1 v2 v3 S = some Sf → WT L K S.2 → (v1 ∈ L ∧ K v1 = 6) → va_P D vwCl (ZW x cy g S ++ va_pl L (pf cy K cf nm S)) H → va_D (va_A (ZW x cy g S0 ++ va_pl L (pf cy K cf nm S0)) s.heap.size) (ZW x cy g S ++ va_pl L (pf cy K cf nm S)) → va_S (va_A (ZW x cy g S0 ++ va_pl L (pf cy K cf nm S0)) s.heap.size) s.heap H locs → lv_has ls 5 [(1, .ref v1), (2, .int v2), (3, .int v3), (0, .ref (x 0))] → W p l e (headSpec wsX9_depart ({ frames := 2, cells := 0, slots := 0, locals := 45 })).room s m #[.ref (x 0), .ref ar1, .int ar2] below meth c H locs 0 0 (MQ below (va_Qv (fun (u : Unit) => WT L K Sf.2) (BU D (TYS cy) (ZW x cy g S0 ++ va_pl L (pf cy K cf nm S0)) (fun _ => ZW x cy g Sf ++ va_pl L (pf cy K cf nm Sf)) s.heap.size) (va_A (ZW x cy g S0 ++ va_pl L (pf cy K cf nm S0)) s.heap.size)) #[.ref (x 0), .ref ar1, .int ar2] s 0 0 (va_A (ZW x cy g S0 ++ va_pl L (pf cy K cf nm S0)) s.heap.size)) (F0 m 15 ls []) := by
    intro KK hKK fu
    induction fu with
    | zero =>
      intro v1 v2 v3 S H locs ls hF
      exact absurd (show (none : Option (CS)) = some Sf from hF) (by simp)
    | succ fu15 ih15 =>
      intro v1 v2 v3 S H locs ls hF hT mv1 hP hD hS hl
      rw [gX9_depart_15] at hF
      refine lv_iload_n hx hb dX9_depart_15 rfl (lv_at hl 2 rfl) ?_
      refine lv_aload_n hx hb dX9_depart_16 rfl (lv_at hl 3 rfl) ?_
      refine va_get (D := D) (ci := 9) (v := .int (S.1 200 1)) (C := RX9) (T := TX9) (N := 19) hx hb hts iX9_depart_9 hown hK hP 0 rfl rfl 11 (by decide) (hts (.fieldLink RX9 88 "FondsRoom" "boxCount" "I") (List.mem_of_getElem? (i := 2) rfl)) (fun _ h9 => h9) rfl dX9_depart_17 ?_
      refine lv_icmp_ge (tgt := 68) hx hb dX9_depart_20 (by decide) (fun c11 => ?_) (fun c11 => ?_)
      · skip
        have hF := (if_pos c11).symm.trans hF
        exact hKK v1 v2 S _ _ _ hF hT ⟨mv1.1, mv1.2⟩ hP hD hS (lv_sub hl [0, 1, 3] rfl)
      · skip
        have hF := (if_neg c11).symm.trans hF
        refine lv_aload_n hx hb dX9_depart_23 rfl (lv_at hl 3 rfl) ?_
        refine va_get (D := D) (ci := 9) (v := .ref (x 2)) (C := RX9) (T := TX9) (N := 19) hx hb hts iX9_depart_9 hown hK hP 0 rfl rfl 1 (by decide) (hts (.fieldLink RX9 20 "FondsRoom" "boxes" "[LFondsRoom$Box;") (List.mem_of_getElem? (i := 3) rfl)) (fun _ h9 => h9) rfl dX9_depart_24 ?_
        refine lv_iload_n hx hb dX9_depart_27 rfl (lv_at hl 2 rfl) ?_
        obtain ⟨hi12, b13, eb13, hF⟩ := ga_s hF
        refine va_aldq hx hb hK hP 2 3 rfl rfl hi12 dX9_depart_28 ?_
        refine lv_tov (v' := .ref b13) (by rw [eb13]; rfl) ?_
        have mb13 := GO_1 hG hi12 eb13
        refine lv_astore (lv' := [(4, .ref b13), (1, .ref v1), (2, .int v2), (3, .int v3), (0, .ref (x 0))]) hx hb dX9_depart_29 hl (by decide) rfl (fun ls hl => ?_)
        refine lv_aload hx hb dX9_depart_31 (lv_at hl 0 rfl) ?_
        refine pg_get (D := D) (ci := 0) (v := va_rf (S.2 4 b13)) (C := RX0) (T := TX0) (N := 6) hx hb hts iX9_depart_0 hown hK hP mb13.1 (pf_0 mb13.2) rfl 4 (by decide) (hts (.fieldLink RX9 239 "FondsRoom$Box" "holder" "LFondsRoom$Reader;") (List.mem_of_getElem? (i := 4) rfl)) (fun _ h9 => h9) rfl dX9_depart_33 ?_
        obtain ⟨q14, eq14⟩ : ∃ z, z = S.2 4 b13 := ⟨_, rfl⟩
        replace hF := bnd_s hF q14 eq14
        have hq14 : rok L K 6 q14 := by rw [eq14]; exact hT 4 b13
        refine lv_tov (v' := va_rf q14) (by rw [eq14]) ?_
        refine lv_aload_n hx hb dX9_depart_36 rfl (lv_at hl 1 rfl) ?_
        refine lv_acmp_ne (rx := q14) (ry := (some v1)) (tgt := 62) hx hb dX9_depart_37 (by decide) (fun c15 => ?_) (fun c15 => ?_)
        · skip
          have hF := (if_neg c15).symm.trans hF
          refine lv_iinc (v := v3 + 1) (lv' := [(3, .int (v3 + 1)), (4, .ref b13), (1, .ref v1), (2, .int v2), (0, .ref (x 0))]) hx hb dX9_depart_62 hl (k := 3) rfl rfl (by decide) rfl (fun ls hl => ?_)
          refine lv_goto (tgt := 15) hx hb dX9_depart_65 (by decide) ?_
          exact ih15 v1 v2 (v3 + 1) S _ _ _ hF hT ⟨mv1.1, mv1.2⟩ hP hD hS (lv_sub hl [2, 3, 0, 4] rfl)
        · skip
          have hF := (if_pos c15).symm.trans hF
          refine lv_aload hx hb dX9_depart_40 (lv_at hl 0 rfl) ?_
          refine lv_null hx hb dX9_depart_42 ?_
          refine pg_put (D := D) (ci := 0) (v := .null) (ty := (.object "FondsRoom$Reader")) (C := RX0) (T := TX0) (N := 6) hx hb hts iX9_depart_0 tyX0 tyX0_ok nmX0 hown hK hP hD hS mb13.1 (pf_0 mb13.2) rfl 4 (by decide) (hts (.fieldLink RX9 239 "FondsRoom$Box" "holder" "LFondsRoom$Reader;") (List.mem_of_getElem? (i := 4) rfl)) (fun _ h9 => h9) rfl (by decide +kernel) rfl rfl (Nat.le_of_ble_eq_true rfl) dX9_depart_43 (fun H locs hP hD hS => ?_)
          obtain ⟨S16, eS16⟩ : ∃ z, z = wq S 4 b13 none := ⟨_, rfl⟩
          replace hF := bnd_s hF S16 eS16
          have hP : va_P D vwCl (ZW x cy g S16 ++ va_pl L (pf cy K cf nm S16)) H := by rw [eS16]; rw [← pu_0_4 mb13.2]; exact hP
          have hD : va_D (va_A (ZW x cy g S0 ++ va_pl L (pf cy K cf nm S0)) s.heap.size) (ZW x cy g S16 ++ va_pl L (pf cy K cf nm S16)) := by rw [eS16]; rw [← pu_0_4 mb13.2]; exact hD
          have hT : WT L K S16.2 := by rw [eS16]; exact WT_up hT 4 b13 rok_none
          refine lv_aload hx hb dX9_depart_46 (lv_at hl 0 rfl) ?_
          refine pg_get (D := D) (ci := 0) (v := .int (S16.1 3 b13)) (C := RX0) (T := TX0) (N := 6) hx hb hts iX9_depart_0 hown hK hP mb13.1 (pf_0 mb13.2) rfl 3 (by decide) (hts (.fieldLink RX9 233 "FondsRoom$Box" "place" "I") (List.mem_of_getElem? (i := 5) rfl)) (fun _ h9 => h9) rfl dX9_depart_48 ?_
          refine lv_bipush (v := 6) hx hb dX9_depart_51 (by decide) ?_
          refine lv_icmp_eq (tgt := 62) hx hb dX9_depart_53 (by decide) (fun c17 => ?_) (fun c17 => ?_)
          · skip
            have hF := (if_pos c17).symm.trans hF
            refine lv_iinc (v := v3 + 1) (lv' := [(3, .int (v3 + 1)), (4, .ref b13), (1, .ref v1), (2, .int v2), (0, .ref (x 0))]) hx hb dX9_depart_62 hl (k := 3) rfl rfl (by decide) rfl (fun ls hl => ?_)
            refine lv_goto (tgt := 15) hx hb dX9_depart_65 (by decide) ?_
            exact ih15 v1 v2 (v3 + 1) S16 _ _ _ hF hT ⟨mv1.1, mv1.2⟩ hP hD hS (lv_sub hl [2, 3, 0, 4] rfl)
          · skip
            have hF := (if_neg c17).symm.trans hF
            refine lv_aload hx hb dX9_depart_56 (lv_at hl 0 rfl) ?_
            refine lv_iconst (v := 2) hx hb dX9_depart_58 (by decide) ?_
            refine pg_put (D := D) (ci := 0) (v := .int 2) (ty := .int) (C := RX0) (T := TX0) (N := 6) hx hb hts iX9_depart_0 tyX0 tyX0_ok nmX0 hown hK hP hD hS mb13.1 (pf_0 mb13.2) rfl 3 (by decide) (hts (.fieldLink RX9 233 "FondsRoom$Box" "place" "I") (List.mem_of_getElem? (i := 5) rfl)) (fun _ h9 => h9) rfl (by decide +kernel) rfl rfl (Nat.le_of_ble_eq_true rfl) dX9_depart_59 (fun H locs hP hD hS => ?_)
            obtain ⟨S18, eS18⟩ : ∃ z, z = wi S16 3 b13 2 := ⟨_, rfl⟩
            replace hF := bnd_s hF S18 eS18
            have hP : va_P D vwCl (ZW x cy g S18 ++ va_pl L (pf cy K cf nm S18)) H := by rw [eS18]; rw [← pu_0_3 mb13.2]; exact hP
            have hD : va_D (va_A (ZW x cy g S0 ++ va_pl L (pf cy K cf nm S0)) s.heap.size) (ZW x cy g S18 ++ va_pl L (pf cy K cf nm S18)) := by rw [eS18]; rw [← pu_0_3 mb13.2]; exact hD
            have hT : WT L K S18.2 := by rw [eS18]; exact hT
            refine lv_iinc (v := v3 + 1) (lv' := [(3, .int (v3 + 1)), (4, .ref b13), (1, .ref v1), (2, .int v2), (0, .ref (x 0))]) hx hb dX9_depart_62 hl (k := 3) rfl rfl (by decide) rfl (fun ls hl => ?_)
            refine lv_goto (tgt := 15) hx hb dX9_depart_65 (by decide) ?_
            exact ih15 v1 v2 (v3 + 1) S18 _ _ _ hF hT ⟨mv1.1, mv1.2⟩ hP hD hS (lv_sub hl [2, 3, 0, 4] rfl)
  have hl := lv_entry ([.ref (x 0), .ref ar1, .int ar2]) (n := 5) (Nat.le_of_ble_eq_true rfl)
  rw [lg_entry_eq]
  generalize (lg_sl ([.ref (x 0), .ref ar1, .int ar2]) ++ List.replicate (5 - (lg_sl ([.ref (x 0), .ref ar1, .int ar2])).length) Slot.unset).toArray = ls at hl ⊢
  have hl : lv_has ls 5 [(0, .ref (x 0)), (1, .ref ar1), (2, .int ar2)] := hl
  unfold gX9_depart at hF
  refine lv_aload_n hx hb dX9_depart_0 rfl (lv_at hl 0 rfl) ?_
  refine va_get (D := D) (ci := 9) (v := .ref (x 8)) (C := RX9) (T := TX9) (N := 19) hx hb hts iX9_depart_9 hown hK hP 0 rfl rfl 5 (by decide) (hts (.fieldLink RX9 47 "FondsRoom" "deskLine" "LFondsRoom$Line;") (List.mem_of_getElem? (i := 1) rfl)) (fun _ h9 => h9) rfl dX9_depart_1 ?_
  refine lv_aload_n hx hb dX9_depart_4 rfl (lv_at hl 1 rfl) ?_
  obtain ⟨S2, hq4, hF⟩ := bd1_s hF
  refine gvV (As := [.ref ar1]) (rest := []) ⟨hx, hb, hml, hown, hts⟩ (zX3_remove_0 l D x cy g L K cf nm hG hL S0 hT _ ar1 ⟨mar1.1, mar1.2⟩ S2 hq4) (cwV 1 hts gX9_depart_X3_remove rfl rfl rfl (by decide +kernel) ⟨Nat.le_of_ble_eq_true rfl, Nat.le_of_ble_eq_true rfl⟩) hK hP hD hS hA (va_recv hK hP (ci := 3) (q0 := 8) rfl rfl) rfl hl.1 rfl (Nat.le_of_ble_eq_true rfl) dX9_depart_5 ⟨Nat.le_of_ble_eq_true rfl, Nat.le_of_ble_eq_true rfl⟩ (fun u9 H locs hw3 hP hD hS => ?_)
  have hT : WT L K S2.2 := hw3
  have hP : va_P D vwCl (ZW x cy g S2 ++ va_pl L (pf cy K cf nm S2)) H := hP
  have hD : va_D _ (ZW x cy g S2 ++ va_pl L (pf cy K cf nm S2)) := hD
  refine lv_aload_n hx hb dX9_depart_8 rfl (lv_at hl 0 rfl) ?_
  refine lv_aload_n hx hb dX9_depart_9 rfl (lv_at hl 1 rfl) ?_
  obtain ⟨S7, hq9, hF⟩ := bd1_s hF
  refine gvV (As := [.ref ar1]) (rest := []) ⟨hx, hb, hml, hown, hts⟩ (zX9_dropTickets l D x cy g L K cf nm hG hL S2 hT _ ar1 ⟨mar1.1, mar1.2⟩ S7 hq9) (cwV 1 hts gX9_depart_X9_dropTickets rfl rfl rfl (by decide +kernel) ⟨Nat.le_of_ble_eq_true rfl, Nat.le_of_ble_eq_true rfl⟩) hK hP hD hS hA (va_recv hK hP (ci := 9) (q0 := 0) rfl rfl) rfl hl.1 rfl (Nat.le_of_ble_eq_true rfl) dX9_depart_10 ⟨Nat.le_of_ble_eq_true rfl, Nat.le_of_ble_eq_true rfl⟩ (fun u9 H locs hw8 hP hD hS => ?_)
  have hT : WT L K S7.2 := hw8
  have hP : va_P D vwCl (ZW x cy g S7 ++ va_pl L (pf cy K cf nm S7)) H := hP
  have hD : va_D _ (ZW x cy g S7 ++ va_pl L (pf cy K cf nm S7)) := hD
  refine lv_iconst (v := 0) hx hb dX9_depart_13 (by decide) ?_
  refine lv_istore_n (lv' := [(3, .int 0), (0, .ref (x 0)), (1, .ref ar1), (2, .int ar2)]) hx hb dX9_depart_14 rfl hl (by decide) rfl (fun ls hl => ?_)
  refine key15 _ ?_ 1000 ar1 ar2 0 S7 _ _ _ hF hT ⟨mar1.1, mar1.2⟩ hP hD hS (lv_sub hl [2, 3, 0, 1] rfl)
  intro v1_19 v2_20 S21 H locs ls hF hT mv1_19 hP hD hS hl
  refine lv_aload_n hx hb dX9_depart_68 rfl (lv_at hl 0 rfl) ?_
  refine pg_get (D := D) (ci := 6) (v := va_rf (S21.2 127 v1_19)) (C := RX6) (T := TX6) (N := 17) hx hb hts iX9_depart_6 hown hK hP mv1_19.1 (pf_6 mv1_19.2) rfl 7 (by decide) (hts (.fieldLink RX9 328 "FondsRoom$Reader" "desk" "LFondsRoom$Desk;") (List.mem_of_getElem? (i := 6) rfl)) (fun _ h9 => h9) rfl dX9_depart_69 ?_
  obtain ⟨q22, eq22⟩ : ∃ z, z = S21.2 127 v1_19 := ⟨_, rfl⟩
  replace hF := bnd_s hF q22 eq22
  have hq22 : rok L K 1 q22 := by rw [eq22]; exact hT 127 v1_19
  refine lv_tov (v' := va_rf q22) (by rw [eq22]) ?_
  rcases eb23 : q22 with _ | b23
  · skip
    subst eb23
    replace hF := oc_n hF
    have hl : lv_has ls 5 [(1, .ref v1_19), (2, .int v2_20), (0, .ref (x 0))] := hl
    refine W.eq (g2 := F0 m 72 ls [.null]) rfl ?_
    refine lv_ifnullN (tgt := 88) hx hb dX9_depart_72 (by decide) ?_
    refine lv_aload_n hx hb dX9_depart_88 rfl (lv_at hl 0 rfl) ?_
    refine lv_iload_n hx hb dX9_depart_89 rfl (lv_at hl 1 rfl) ?_
    refine pg_put (D := D) (ci := 6) (v := .int v2_20) (ty := .int) (C := RX6) (T := TX6) (N := 17) hx hb hts iX9_depart_6 tyX6 tyX6_ok nmX6 hown hK hP hD hS mv1_19.1 (pf_6 mv1_19.2) rfl 5 (by decide) (hts (.fieldLink RX9 270 "FondsRoom$Reader" "state" "I") (List.mem_of_getElem? (i := 8) rfl)) (fun _ h9 => h9) rfl (by decide +kernel) rfl rfl (Nat.le_of_ble_eq_true rfl) dX9_depart_90 (fun H locs hP hD hS => ?_)
    obtain ⟨S24, eS24⟩ : ∃ z, z = wi S21 125 v1_19 v2_20 := ⟨_, rfl⟩
    replace hF := bnd_s hF S24 eS24
    have hP : va_P D vwCl (ZW x cy g S24 ++ va_pl L (pf cy K cf nm S24)) H := by rw [eS24]; rw [← pu_6_5 mv1_19.2]; exact hP
    have hD : va_D (va_A (ZW x cy g S0 ++ va_pl L (pf cy K cf nm S0)) s.heap.size) (ZW x cy g S24 ++ va_pl L (pf cy K cf nm S24)) := by rw [eS24]; rw [← pu_6_5 mv1_19.2]; exact hD
    have hT : WT L K S24.2 := by rw [eS24]; exact hT
    refine lv_aload_n hx hb dX9_depart_93 rfl (lv_at hl 2 rfl) ?_
    refine va_get (D := D) (ci := 9) (v := .ref (x 18)) (C := RX9) (T := TX9) (N := 19) hx hb hts iX9_depart_9 hown hK hP 0 rfl rfl 9 (by decide) (hts (.fieldLink RX9 67 "FondsRoom" "events" "LFondsRoom$Events;") (List.mem_of_getElem? (i := 9) rfl)) (fun _ h9 => h9) rfl dX9_depart_94 ?_
    refine lv_aload_n hx hb dX9_depart_97 rfl (lv_at hl 2 rfl) ?_
    refine va_get (D := D) (ci := 9) (v := .int (S24.1 200 4)) (C := RX9) (T := TX9) (N := 19) hx hb hts iX9_depart_9 hown hK hP 0 rfl rfl 14 (by decide) (hts (.fieldLink RX9 78 "FondsRoom" "turn" "I") (List.mem_of_getElem? (i := 10) rfl)) (fun _ h9 => h9) rfl dX9_depart_98 ?_
    refine lv_aload_n hx hb dX9_depart_101 rfl (lv_at hl 0 rfl) ?_
    refine pg_get (D := D) (ci := 6) (v := .int (nm v1_19)) (C := RX6) (T := TX6) (N := 17) hx hb hts iX9_depart_6 hown hK hP mv1_19.1 (pf_6 mv1_19.2) rfl 0 (by decide) (hts (.fieldLink RX9 273 "FondsRoom$Reader" "number" "I") (List.mem_of_getElem? (i := 11) rfl)) (fun _ h9 => h9) rfl dX9_depart_102 ?_
    refine lv_bipush (v := 8) hx hb dX9_depart_105 (by decide) ?_
    refine lv_iload_n hx hb dX9_depart_107 rfl (lv_at hl 1 rfl) ?_
    obtain ⟨S26, hq28, hF⟩ := bd1_s hF
    refine gvV (As := [.int (S24.1 200 4), .int (nm v1_19), .int 8, .int v2_20]) (rest := []) ⟨hx, hb, hml, hown, hts⟩ (zX2_keep l D x cy g L K cf nm hG hL S24 hT _ (S24.1 200 4) (nm v1_19) 8 v2_20  S26 hq28) (cwV 4 hts gX9_depart_X2_keep rfl rfl rfl (by decide +kernel) ⟨Nat.le_of_ble_eq_true rfl, Nat.le_of_ble_eq_true rfl⟩) hK hP hD hS hA (va_recv hK hP (ci := 2) (q0 := 18) rfl rfl) rfl hl.1 rfl (Nat.le_of_ble_eq_true rfl) dX9_depart_108 ⟨Nat.le_of_ble_eq_true rfl, Nat.le_of_ble_eq_true rfl⟩ (fun u9 H locs hw27 hP hD hS => ?_)
    have hT : WT L K S26.2 := hw27
    have hP : va_P D vwCl (ZW x cy g S26 ++ va_pl L (pf cy K cf nm S26)) H := hP
    have hD : va_D _ (ZW x cy g S26 ++ va_pl L (pf cy K cf nm S26)) := hD
    have e2 := Option.some.inj hF
    have hP : va_P D vwCl (ZW x cy g Sf ++ va_pl L (pf cy K cf nm Sf)) H := by rw [← e2]; exact hP
    have hD : va_D (va_A (ZW x cy g S0 ++ va_pl L (pf cy K cf nm S0)) s.heap.size) (ZW x cy g Sf ++ va_pl L (pf cy K cf nm Sf)) := by rw [← e2]; exact hD
    have hT : WT L K Sf.2 := by rw [← e2]; exact hT
    exact W.vret hx hb hr (fun t ht hW => ⟨⟨(), rfl, hT, by rw [ht]; exact hP, va_K.moved hW.alike hK, hD⟩, hS.F ht⟩) hS.2.2 dX9_depart_111
  · skip
    subst eb23
    replace hF := oc_b hF
    have mb23 := hq22 b23 rfl
    have hl : lv_has ls 5 [(1, .ref v1_19), (2, .int v2_20), (0, .ref (x 0))] := hl
    refine W.eq (g2 := F0 m 72 ls [.ref b23]) rfl ?_
    refine lv_ifnull hx hb dX9_depart_72 ?_
    refine lv_aload_n hx hb dX9_depart_75 rfl (lv_at hl 0 rfl) ?_
    refine pg_get (D := D) (ci := 6) (v := va_rf (S21.2 127 v1_19)) (C := RX6) (T := TX6) (N := 17) hx hb hts iX9_depart_6 hown hK hP mv1_19.1 (pf_6 mv1_19.2) rfl 7 (by decide) (hts (.fieldLink RX9 328 "FondsRoom$Reader" "desk" "LFondsRoom$Desk;") (List.mem_of_getElem? (i := 6) rfl)) (fun _ h9 => h9) rfl dX9_depart_76 ?_
    obtain ⟨q30, eq30⟩ : ∃ z, z = S21.2 127 v1_19 := ⟨_, rfl⟩
    replace hF := bnd_s hF q30 eq30
    have hq30 : rok L K 1 q30 := by rw [eq30]; exact hT 127 v1_19
    refine lv_tov (v' := va_rf q30) (by rw [eq30]) ?_
    refine lv_null hx hb dX9_depart_79 ?_
    obtain ⟨b31, eb31, hF9⟩ := sm_s hF
    clear hF
    have hF := hF9
    clear hF9
    subst eb31
    have mb31 := hq30 b31 rfl
    have hl : lv_has ls 5 [(1, .ref v1_19), (2, .int v2_20), (0, .ref (x 0))] := hl
    refine W.eq (g2 := F0 m 80 ls [.null, .ref b31]) rfl ?_
    refine pg_put (D := D) (ci := 1) (v := .null) (ty := (.object "FondsRoom$Reader")) (C := RX1) (T := TX1) (N := 3) hx hb hts iX9_depart_1 tyX1 tyX1_ok nmX1 hown hK hP hD hS mb31.1 (pf_1 mb31.2) rfl 2 (by decide) (hts (.fieldLink RX9 348 "FondsRoom$Desk" "sitter" "LFondsRoom$Reader;") (List.mem_of_getElem? (i := 7) rfl)) (fun _ h9 => h9) rfl (by decide +kernel) rfl rfl (Nat.le_of_ble_eq_true rfl) dX9_depart_80 (fun H locs hP hD hS => ?_)
    obtain ⟨S32, eS32⟩ : ∃ z, z = wq S21 22 b31 none := ⟨_, rfl⟩
    replace hF := bnd_s hF S32 eS32
    have hP : va_P D vwCl (ZW x cy g S32 ++ va_pl L (pf cy K cf nm S32)) H := by rw [eS32]; rw [← pu_1_2 mb31.2]; exact hP
    have hD : va_D (va_A (ZW x cy g S0 ++ va_pl L (pf cy K cf nm S0)) s.heap.size) (ZW x cy g S32 ++ va_pl L (pf cy K cf nm S32)) := by rw [eS32]; rw [← pu_1_2 mb31.2]; exact hD
    have hT : WT L K S32.2 := by rw [eS32]; exact WT_up hT 22 b31 rok_none
    refine lv_aload_n hx hb dX9_depart_83 rfl (lv_at hl 0 rfl) ?_
    refine lv_null hx hb dX9_depart_84 ?_
    refine pg_put (D := D) (ci := 6) (v := .null) (ty := (.object "FondsRoom$Desk")) (C := RX6) (T := TX6) (N := 17) hx hb hts iX9_depart_6 tyX6 tyX6_ok nmX6 hown hK hP hD hS mv1_19.1 (pf_6 mv1_19.2) rfl 7 (by decide) (hts (.fieldLink RX9 328 "FondsRoom$Reader" "desk" "LFondsRoom$Desk;") (List.mem_of_getElem? (i := 6) rfl)) (fun _ h9 => h9) rfl (by decide +kernel) rfl rfl (Nat.le_of_ble_eq_true rfl) dX9_depart_85 (fun H locs hP hD hS => ?_)
    obtain ⟨S33, eS33⟩ : ∃ z, z = wq S32 127 v1_19 none := ⟨_, rfl⟩
    replace hF := bnd_s hF S33 eS33
    have hP : va_P D vwCl (ZW x cy g S33 ++ va_pl L (pf cy K cf nm S33)) H := by rw [eS33]; rw [← pu_6_7 mv1_19.2]; exact hP
    have hD : va_D (va_A (ZW x cy g S0 ++ va_pl L (pf cy K cf nm S0)) s.heap.size) (ZW x cy g S33 ++ va_pl L (pf cy K cf nm S33)) := by rw [eS33]; rw [← pu_6_7 mv1_19.2]; exact hD
    have hT : WT L K S33.2 := by rw [eS33]; exact WT_up hT 127 v1_19 rok_none
    refine lv_aload_n hx hb dX9_depart_88 rfl (lv_at hl 0 rfl) ?_
    refine lv_iload_n hx hb dX9_depart_89 rfl (lv_at hl 1 rfl) ?_
    refine pg_put (D := D) (ci := 6) (v := .int v2_20) (ty := .int) (C := RX6) (T := TX6) (N := 17) hx hb hts iX9_depart_6 tyX6 tyX6_ok nmX6 hown hK hP hD hS mv1_19.1 (pf_6 mv1_19.2) rfl 5 (by decide) (hts (.fieldLink RX9 270 "FondsRoom$Reader" "state" "I") (List.mem_of_getElem? (i := 8) rfl)) (fun _ h9 => h9) rfl (by decide +kernel) rfl rfl (Nat.le_of_ble_eq_true rfl) dX9_depart_90 (fun H locs hP hD hS => ?_)
    obtain ⟨S34, eS34⟩ : ∃ z, z = wi S33 125 v1_19 v2_20 := ⟨_, rfl⟩
    replace hF := bnd_s hF S34 eS34
    have hP : va_P D vwCl (ZW x cy g S34 ++ va_pl L (pf cy K cf nm S34)) H := by rw [eS34]; rw [← pu_6_5 mv1_19.2]; exact hP
    have hD : va_D (va_A (ZW x cy g S0 ++ va_pl L (pf cy K cf nm S0)) s.heap.size) (ZW x cy g S34 ++ va_pl L (pf cy K cf nm S34)) := by rw [eS34]; rw [← pu_6_5 mv1_19.2]; exact hD
    have hT : WT L K S34.2 := by rw [eS34]; exact hT
    refine lv_aload_n hx hb dX9_depart_93 rfl (lv_at hl 2 rfl) ?_
    refine va_get (D := D) (ci := 9) (v := .ref (x 18)) (C := RX9) (T := TX9) (N := 19) hx hb hts iX9_depart_9 hown hK hP 0 rfl rfl 9 (by decide) (hts (.fieldLink RX9 67 "FondsRoom" "events" "LFondsRoom$Events;") (List.mem_of_getElem? (i := 9) rfl)) (fun _ h9 => h9) rfl dX9_depart_94 ?_
    refine lv_aload_n hx hb dX9_depart_97 rfl (lv_at hl 2 rfl) ?_
    refine va_get (D := D) (ci := 9) (v := .int (S34.1 200 4)) (C := RX9) (T := TX9) (N := 19) hx hb hts iX9_depart_9 hown hK hP 0 rfl rfl 14 (by decide) (hts (.fieldLink RX9 78 "FondsRoom" "turn" "I") (List.mem_of_getElem? (i := 10) rfl)) (fun _ h9 => h9) rfl dX9_depart_98 ?_
    refine lv_aload_n hx hb dX9_depart_101 rfl (lv_at hl 0 rfl) ?_
    refine pg_get (D := D) (ci := 6) (v := .int (nm v1_19)) (C := RX6) (T := TX6) (N := 17) hx hb hts iX9_depart_6 hown hK hP mv1_19.1 (pf_6 mv1_19.2) rfl 0 (by decide) (hts (.fieldLink RX9 273 "FondsRoom$Reader" "number" "I") (List.mem_of_getElem? (i := 11) rfl)) (fun _ h9 => h9) rfl dX9_depart_102 ?_
    refine lv_bipush (v := 8) hx hb dX9_depart_105 (by decide) ?_
    refine lv_iload_n hx hb dX9_depart_107 rfl (lv_at hl 1 rfl) ?_
    obtain ⟨S36, hq38, hF⟩ := bd1_s hF
    refine gvV (As := [.int (S34.1 200 4), .int (nm v1_19), .int 8, .int v2_20]) (rest := []) ⟨hx, hb, hml, hown, hts⟩ (zX2_keep l D x cy g L K cf nm hG hL S34 hT _ (S34.1 200 4) (nm v1_19) 8 v2_20  S36 hq38) (cwV 4 hts gX9_depart_X2_keep rfl rfl rfl (by decide +kernel) ⟨Nat.le_of_ble_eq_true rfl, Nat.le_of_ble_eq_true rfl⟩) hK hP hD hS hA (va_recv hK hP (ci := 2) (q0 := 18) rfl rfl) rfl hl.1 rfl (Nat.le_of_ble_eq_true rfl) dX9_depart_108 ⟨Nat.le_of_ble_eq_true rfl, Nat.le_of_ble_eq_true rfl⟩ (fun u9 H locs hw37 hP hD hS => ?_)
    have hT : WT L K S36.2 := hw37
    have hP : va_P D vwCl (ZW x cy g S36 ++ va_pl L (pf cy K cf nm S36)) H := hP
    have hD : va_D _ (ZW x cy g S36 ++ va_pl L (pf cy K cf nm S36)) := hD
    have e2 := Option.some.inj hF
    have hP : va_P D vwCl (ZW x cy g Sf ++ va_pl L (pf cy K cf nm Sf)) H := by rw [← e2]; exact hP
    have hD : va_D (va_A (ZW x cy g S0 ++ va_pl L (pf cy K cf nm S0)) s.heap.size) (ZW x cy g Sf ++ va_pl L (pf cy K cf nm Sf)) := by rw [← e2]; exact hD
    have hT : WT L K Sf.2 := by rw [← e2]; exact hT
    exact W.vret hx hb hr (fun t ht hW => ⟨⟨(), rfl, hT, by rw [ht]; exact hP, va_K.moved hW.alike hK, hD⟩, hS.F ht⟩) hS.2.2 dX9_depart_111

theorem iX9_stopFetcher_0 : ∀ w ∈ wsX00, w ∈ wsX9_stopFetcher := fun _ h => List.mem_cons_of_mem _ (List.mem_append_right _ h)
theorem iX9_stopFetcher_8 : ∀ w ∈ wsX80, w ∈ wsX9_stopFetcher := fun _ h => List.mem_cons_of_mem _ (List.mem_append_left _ (List.mem_append_right _ h))
set_option maxHeartbeats 8000000 in
set_option maxRecDepth 100000 in
theorem zX9_stopFetcher (l : Launch) (D : va_G) (x : Nat → Nat) (cy : Nat → ClassId) (g : Nat → Nat → Option Nat) (L : List Nat) (K : Nat → Nat) (cf : Nat → Nat → Nat) (nm : Nat → Int32) (hG : GO L K g) (hL : PL L K cf) (S0 : CS) (hT : WT L K S0.2) (sz : Nat) (ar1 : Nat) (mar1 : ar1 ∈ L ∧ K ar1 = 8) (Sf : CS) (hF : gX9_stopFetcher g cf nm S0 ar1 = some Sf) : Met l yX9_stopFetcher wsX9_stopFetcher ({ frames := 1, cells := 0, slots := 0, locals := 20 }) (PW D (TYS cy) (ZW x cy g S0 ++ va_pl L (pf cy K cf nm S0)) sz [.ref (x 0), .ref ar1]) (va_Qv (fun (u : Unit) => WT L K Sf.2) (BU D (TYS cy) (ZW x cy g S0 ++ va_pl L (pf cy K cf nm S0)) (fun _ => ZW x cy g Sf ++ va_pl L (pf cy K cf nm Sf)) sz) (va_A (ZW x cy g S0 ++ va_pl L (pf cy K cf nm S0)) sz)) 0 0 (va_A (ZW x cy g S0 ++ va_pl L (pf cy K cf nm S0)) sz) := by
  refine Met.ofW (cc := cX9_stopFetcher) (maxL := 3) (ret := none) (by decide) rfl ?_
  intro p e s m args below meth c s₁ B hml hv
  obtain ⟨rfl, hsz, hP, hK, hD0⟩ := hv
  have hx := B.exec
  have hb := B.bytes
  have hr := B.returns
  have hts := atoms_spec (ws := wsX9_stopFetcher) B.pre
  have hown : s.vm.findClass RX9 = some m.cls := findClass_of_methodNamed B.named
  have hlocks := B.notSynchronized
  subst hsz
  have hD := hD0.self (sz := s.heap.size)
  have hA : ∀ q9 : Nat, s.heap.size ≤ q9 → va_A (ZW x cy g S0 ++ va_pl L (pf cy K cf nm S0)) s.heap.size q9 := fun q9 h => Or.inr h
  have hS : va_S (va_A (ZW x cy g S0 ++ va_pl L (pf cy K cf nm S0)) s.heap.size) s.heap s.heap [] := va_S.rf
  have hl := lv_entry ([.ref (x 0), .ref ar1]) (n := 3) (Nat.le_of_ble_eq_true rfl)
  rw [lg_entry_eq]
  generalize (lg_sl ([.ref (x 0), .ref ar1]) ++ List.replicate (3 - (lg_sl ([.ref (x 0), .ref ar1])).length) Slot.unset).toArray = ls at hl ⊢
  have hl : lv_has ls 3 [(0, .ref (x 0)), (1, .ref ar1)] := hl
  unfold gX9_stopFetcher at hF
  refine lv_aload_n hx hb dX9_stopFetcher_0 rfl (lv_at hl 1 rfl) ?_
  refine pg_get (D := D) (ci := 8) (v := va_rf (S0.2 160 ar1)) (C := RX8) (T := TX8) (N := 3) hx hb hts iX9_stopFetcher_8 hown hK hP mar1.1 (pf_8 mar1.2) rfl 0 (by decide) (hts (.fieldLink RX9 227 "FondsRoom$Worker" "box" "LFondsRoom$Box;") (List.mem_of_getElem? (i := 1) rfl)) (fun _ h9 => h9) rfl dX9_stopFetcher_1 ?_
  obtain ⟨q1, eq1⟩ : ∃ z, z = S0.2 160 ar1 := ⟨_, rfl⟩
  replace hF := bnd_s hF q1 eq1
  have hq1 : rok L K 0 q1 := by rw [eq1]; exact hT 160 ar1
  refine lv_tov (v' := va_rf q1) (by rw [eq1]) ?_
  refine lq_astore_n (lv' := [(2, va_rf q1), (0, .ref (x 0)), (1, .ref ar1)]) hx hb dX9_stopFetcher_4 rfl hl (by decide) rfl (fun ls hl => ?_)
  refine lq_aload_n hx hb dX9_stopFetcher_5 rfl (lv_at hl 0 rfl) ?_
  rcases eb2 : q1 with _ | b2
  · skip
    subst eb2
    replace hF := oc_n hF
    have hl : lv_has ls 3 [(2, .null), (0, .ref (x 0)), (1, .ref ar1)] := hl
    refine W.eq (g2 := F0 m 6 ls [.null]) rfl ?_
    refine lv_ifnonnullN hx hb dX9_stopFetcher_6 ?_
    have e2 := Option.some.inj hF
    have hP : va_P D vwCl (ZW x cy g Sf ++ va_pl L (pf cy K cf nm Sf)) s.heap := by rw [← e2]; exact hP
    have hD : va_D (va_A (ZW x cy g S0 ++ va_pl L (pf cy K cf nm S0)) s.heap.size) (ZW x cy g Sf ++ va_pl L (pf cy K cf nm Sf)) := by rw [← e2]; exact hD
    have hT : WT L K Sf.2 := by rw [← e2]; exact hT
    exact W.vret hx hb hr (fun t ht hW => ⟨⟨(), rfl, hT, by rw [ht]; exact hP, va_K.moved hW.alike hK, hD⟩, hS.F ht⟩) hS.2.2 dX9_stopFetcher_9
  · skip
    subst eb2
    replace hF := oc_b hF
    have mb2 := hq1 b2 rfl
    have hl : lv_has ls 3 [(2, .ref b2), (0, .ref (x 0)), (1, .ref ar1)] := hl
    refine W.eq (g2 := F0 m 6 ls [.ref b2]) rfl ?_
    refine lv_ifnonnull (tgt := 10) hx hb dX9_stopFetcher_6 (by decide) ?_
    refine lv_aload_n hx hb dX9_stopFetcher_10 rfl (lv_at hl 0 rfl) ?_
    refine lv_aload_n hx hb dX9_stopFetcher_11 rfl (lv_at hl 0 rfl) ?_
    refine pg_get (D := D) (ci := 0) (v := .int (S0.1 3 b2)) (C := RX0) (T := TX0) (N := 6) hx hb hts iX9_stopFetcher_0 hown hK hP mb2.1 (pf_0 mb2.2) rfl 3 (by decide) (hts (.fieldLink RX9 233 "FondsRoom$Box" "place" "I") (List.mem_of_getElem? (i := 2) rfl)) (fun _ h9 => h9) rfl dX9_stopFetcher_12 ?_
    refine lv_iconst (v := 3) hx hb dX9_stopFetcher_15 (by decide) ?_
    refine lv_icmp_ne (tgt := 23) hx hb dX9_stopFetcher_16 (by decide) (fun c3 => ?_) (fun c3 => ?_)
    · skip
      have hF := (if_neg c3).symm.trans hF
      refine lv_iconst (v := 2) hx hb dX9_stopFetcher_23 (by decide) ?_
      refine pg_put (D := D) (ci := 0) (v := .int 2) (ty := .int) (C := RX0) (T := TX0) (N := 6) hx hb hts iX9_stopFetcher_0 tyX0 tyX0_ok nmX0 hown hK hP hD hS mb2.1 (pf_0 mb2.2) rfl 3 (by decide) (hts (.fieldLink RX9 233 "FondsRoom$Box" "place" "I") (List.mem_of_getElem? (i := 2) rfl)) (fun _ h9 => h9) rfl (by decide +kernel) rfl rfl (Nat.le_of_ble_eq_true rfl) dX9_stopFetcher_24 (fun H locs hP hD hS => ?_)
      obtain ⟨S4, eS4⟩ : ∃ z, z = wi S0 3 b2 2 := ⟨_, rfl⟩
      replace hF := bnd_s hF S4 eS4
      have hP : va_P D vwCl (ZW x cy g S4 ++ va_pl L (pf cy K cf nm S4)) H := by rw [eS4]; rw [← pu_0_3 mb2.2]; exact hP
      have hD : va_D (va_A (ZW x cy g S0 ++ va_pl L (pf cy K cf nm S0)) s.heap.size) (ZW x cy g S4 ++ va_pl L (pf cy K cf nm S4)) := by rw [eS4]; rw [← pu_0_3 mb2.2]; exact hD
      have hT : WT L K S4.2 := by rw [eS4]; exact hT
      refine lv_aload_n hx hb dX9_stopFetcher_27 rfl (lv_at hl 2 rfl) ?_
      obtain ⟨S6, hq8, hF⟩ := bd1_s hF
      refine gvV (As := []) (rest := []) ⟨hx, hb, hml, hown, hts⟩ (zX8_release l D x cy g L K cf nm hG hL S4 hT _ ar1 ⟨mar1.1, mar1.2⟩ S6 hq8) (cwV 0 hts gX9_stopFetcher_X8_release rfl rfl rfl (by decide +kernel) ⟨Nat.le_of_ble_eq_true rfl, Nat.le_of_ble_eq_true rfl⟩) hK hP hD hS hA (pl_recv hK hP (ci := 8) rfl mar1.1 (pf_8 mar1.2)) rfl hl.1 rfl (Nat.le_of_ble_eq_true rfl) dX9_stopFetcher_28 ⟨Nat.le_of_ble_eq_true rfl, Nat.le_of_ble_eq_true rfl⟩ (fun u9 H locs hw7 hP hD hS => ?_)
      have hT : WT L K S6.2 := hw7
      have hP : va_P D vwCl (ZW x cy g S6 ++ va_pl L (pf cy K cf nm S6)) H := hP
      have hD : va_D _ (ZW x cy g S6 ++ va_pl L (pf cy K cf nm S6)) := hD
      have e2 := Option.some.inj hF
      have hP : va_P D vwCl (ZW x cy g Sf ++ va_pl L (pf cy K cf nm Sf)) H := by rw [← e2]; exact hP
      have hD : va_D (va_A (ZW x cy g S0 ++ va_pl L (pf cy K cf nm S0)) s.heap.size) (ZW x cy g Sf ++ va_pl L (pf cy K cf nm Sf)) := by rw [← e2]; exact hD
      have hT : WT L K Sf.2 := by rw [← e2]; exact hT
      exact W.vret hx hb hr (fun t ht hW => ⟨⟨(), rfl, hT, by rw [ht]; exact hP, va_K.moved hW.alike hK, hD⟩, hS.F ht⟩) hS.2.2 dX9_stopFetcher_31
    · skip
      have hF := (if_pos c3).symm.trans hF
      refine lv_iconst (v := 0) hx hb dX9_stopFetcher_19 (by decide) ?_
      refine lv_goto (tgt := 24) hx hb dX9_stopFetcher_20 (by decide) ?_
      refine pg_put (D := D) (ci := 0) (v := .int 0) (ty := .int) (C := RX0) (T := TX0) (N := 6) hx hb hts iX9_stopFetcher_0 tyX0 tyX0_ok nmX0 hown hK hP hD hS mb2.1 (pf_0 mb2.2) rfl 3 (by decide) (hts (.fieldLink RX9 233 "FondsRoom$Box" "place" "I") (List.mem_of_getElem? (i := 2) rfl)) (fun _ h9 => h9) rfl (by decide +kernel) rfl rfl (Nat.le_of_ble_eq_true rfl) dX9_stopFetcher_24 (fun H locs hP hD hS => ?_)
      obtain ⟨S10, eS10⟩ : ∃ z, z = wi S0 3 b2 0 := ⟨_, rfl⟩
      replace hF := bnd_s hF S10 eS10
      have hP : va_P D vwCl (ZW x cy g S10 ++ va_pl L (pf cy K cf nm S10)) H := by rw [eS10]; rw [← pu_0_3 mb2.2]; exact hP
      have hD : va_D (va_A (ZW x cy g S0 ++ va_pl L (pf cy K cf nm S0)) s.heap.size) (ZW x cy g S10 ++ va_pl L (pf cy K cf nm S10)) := by rw [eS10]; rw [← pu_0_3 mb2.2]; exact hD
      have hT : WT L K S10.2 := by rw [eS10]; exact hT
      refine lv_aload_n hx hb dX9_stopFetcher_27 rfl (lv_at hl 2 rfl) ?_
      obtain ⟨S12, hq14, hF⟩ := bd1_s hF
      refine gvV (As := []) (rest := []) ⟨hx, hb, hml, hown, hts⟩ (zX8_release l D x cy g L K cf nm hG hL S10 hT _ ar1 ⟨mar1.1, mar1.2⟩ S12 hq14) (cwV 0 hts gX9_stopFetcher_X8_release rfl rfl rfl (by decide +kernel) ⟨Nat.le_of_ble_eq_true rfl, Nat.le_of_ble_eq_true rfl⟩) hK hP hD hS hA (pl_recv hK hP (ci := 8) rfl mar1.1 (pf_8 mar1.2)) rfl hl.1 rfl (Nat.le_of_ble_eq_true rfl) dX9_stopFetcher_28 ⟨Nat.le_of_ble_eq_true rfl, Nat.le_of_ble_eq_true rfl⟩ (fun u9 H locs hw13 hP hD hS => ?_)
      have hT : WT L K S12.2 := hw13
      have hP : va_P D vwCl (ZW x cy g S12 ++ va_pl L (pf cy K cf nm S12)) H := hP
      have hD : va_D _ (ZW x cy g S12 ++ va_pl L (pf cy K cf nm S12)) := hD
      have e2 := Option.some.inj hF
      have hP : va_P D vwCl (ZW x cy g Sf ++ va_pl L (pf cy K cf nm Sf)) H := by rw [← e2]; exact hP
      have hD : va_D (va_A (ZW x cy g S0 ++ va_pl L (pf cy K cf nm S0)) s.heap.size) (ZW x cy g Sf ++ va_pl L (pf cy K cf nm Sf)) := by rw [← e2]; exact hD
      have hT : WT L K Sf.2 := by rw [← e2]; exact hT
      exact W.vret hx hb hr (fun t ht hW => ⟨⟨(), rfl, hT, by rw [ht]; exact hP, va_K.moved hW.alike hK, hD⟩, hS.F ht⟩) hS.2.2 dX9_stopFetcher_31

theorem iX9_stopCopyist_0 : ∀ w ∈ wsX00, w ∈ wsX9_stopCopyist := fun _ h => List.mem_cons_of_mem _ (List.mem_append_right _ h)
theorem iX9_stopCopyist_8 : ∀ w ∈ wsX80, w ∈ wsX9_stopCopyist := fun _ h => List.mem_cons_of_mem _ (List.mem_append_left _ (List.mem_append_right _ h))
set_option maxHeartbeats 8000000 in
set_option maxRecDepth 100000 in
theorem zX9_stopCopyist (l : Launch) (D : va_G) (x : Nat → Nat) (cy : Nat → ClassId) (g : Nat → Nat → Option Nat) (L : List Nat) (K : Nat → Nat) (cf : Nat → Nat → Nat) (nm : Nat → Int32) (hG : GO L K g) (hL : PL L K cf) (S0 : CS) (hT : WT L K S0.2) (sz : Nat) (ar1 : Nat) (mar1 : ar1 ∈ L ∧ K ar1 = 8) (Sf : CS) (hF : gX9_stopCopyist g cf nm S0 ar1 = some Sf) : Met l yX9_stopCopyist wsX9_stopCopyist ({ frames := 1, cells := 0, slots := 0, locals := 20 }) (PW D (TYS cy) (ZW x cy g S0 ++ va_pl L (pf cy K cf nm S0)) sz [.ref (x 0), .ref ar1]) (va_Qv (fun (u : Unit) => WT L K Sf.2) (BU D (TYS cy) (ZW x cy g S0 ++ va_pl L (pf cy K cf nm S0)) (fun _ => ZW x cy g Sf ++ va_pl L (pf cy K cf nm Sf)) sz) (va_A (ZW x cy g S0 ++ va_pl L (pf cy K cf nm S0)) sz)) 0 0 (va_A (ZW x cy g S0 ++ va_pl L (pf cy K cf nm S0)) sz) := by
  refine Met.ofW (cc := cX9_stopCopyist) (maxL := 3) (ret := none) (by decide) rfl ?_
  intro p e s m args below meth c s₁ B hml hv
  obtain ⟨rfl, hsz, hP, hK, hD0⟩ := hv
  have hx := B.exec
  have hb := B.bytes
  have hr := B.returns
  have hts := atoms_spec (ws := wsX9_stopCopyist) B.pre
  have hown : s.vm.findClass RX9 = some m.cls := findClass_of_methodNamed B.named
  have hlocks := B.notSynchronized
  subst hsz
  have hD := hD0.self (sz := s.heap.size)
  have hA : ∀ q9 : Nat, s.heap.size ≤ q9 → va_A (ZW x cy g S0 ++ va_pl L (pf cy K cf nm S0)) s.heap.size q9 := fun q9 h => Or.inr h
  have hS : va_S (va_A (ZW x cy g S0 ++ va_pl L (pf cy K cf nm S0)) s.heap.size) s.heap s.heap [] := va_S.rf
  have hl := lv_entry ([.ref (x 0), .ref ar1]) (n := 3) (Nat.le_of_ble_eq_true rfl)
  rw [lg_entry_eq]
  generalize (lg_sl ([.ref (x 0), .ref ar1]) ++ List.replicate (3 - (lg_sl ([.ref (x 0), .ref ar1])).length) Slot.unset).toArray = ls at hl ⊢
  have hl : lv_has ls 3 [(0, .ref (x 0)), (1, .ref ar1)] := hl
  unfold gX9_stopCopyist at hF
  refine lv_aload_n hx hb dX9_stopCopyist_0 rfl (lv_at hl 1 rfl) ?_
  refine pg_get (D := D) (ci := 8) (v := va_rf (S0.2 160 ar1)) (C := RX8) (T := TX8) (N := 3) hx hb hts iX9_stopCopyist_8 hown hK hP mar1.1 (pf_8 mar1.2) rfl 0 (by decide) (hts (.fieldLink RX9 227 "FondsRoom$Worker" "box" "LFondsRoom$Box;") (List.mem_of_getElem? (i := 1) rfl)) (fun _ h9 => h9) rfl dX9_stopCopyist_1 ?_
  obtain ⟨q1, eq1⟩ : ∃ z, z = S0.2 160 ar1 := ⟨_, rfl⟩
  replace hF := bnd_s hF q1 eq1
  have hq1 : rok L K 0 q1 := by rw [eq1]; exact hT 160 ar1
  refine lv_tov (v' := va_rf q1) (by rw [eq1]) ?_
  refine lq_astore_n (lv' := [(2, va_rf q1), (0, .ref (x 0)), (1, .ref ar1)]) hx hb dX9_stopCopyist_4 rfl hl (by decide) rfl (fun ls hl => ?_)
  refine lq_aload_n hx hb dX9_stopCopyist_5 rfl (lv_at hl 0 rfl) ?_
  rcases eb2 : q1 with _ | b2
  · skip
    subst eb2
    replace hF := oc_n hF
    have hl : lv_has ls 3 [(2, .null), (0, .ref (x 0)), (1, .ref ar1)] := hl
    refine W.eq (g2 := F0 m 6 ls [.null]) rfl ?_
    refine lv_ifnonnullN hx hb dX9_stopCopyist_6 ?_
    have e2 := Option.some.inj hF
    have hP : va_P D vwCl (ZW x cy g Sf ++ va_pl L (pf cy K cf nm Sf)) s.heap := by rw [← e2]; exact hP
    have hD : va_D (va_A (ZW x cy g S0 ++ va_pl L (pf cy K cf nm S0)) s.heap.size) (ZW x cy g Sf ++ va_pl L (pf cy K cf nm Sf)) := by rw [← e2]; exact hD
    have hT : WT L K Sf.2 := by rw [← e2]; exact hT
    exact W.vret hx hb hr (fun t ht hW => ⟨⟨(), rfl, hT, by rw [ht]; exact hP, va_K.moved hW.alike hK, hD⟩, hS.F ht⟩) hS.2.2 dX9_stopCopyist_9
  · skip
    subst eb2
    replace hF := oc_b hF
    have mb2 := hq1 b2 rfl
    have hl : lv_has ls 3 [(2, .ref b2), (0, .ref (x 0)), (1, .ref ar1)] := hl
    refine W.eq (g2 := F0 m 6 ls [.ref b2]) rfl ?_
    refine lv_ifnonnull (tgt := 10) hx hb dX9_stopCopyist_6 (by decide) ?_
    refine lv_aload_n hx hb dX9_stopCopyist_10 rfl (lv_at hl 0 rfl) ?_
    refine lv_aload_n hx hb dX9_stopCopyist_11 rfl (lv_at hl 0 rfl) ?_
    refine pg_get (D := D) (ci := 0) (v := va_rf (S0.2 4 b2)) (C := RX0) (T := TX0) (N := 6) hx hb hts iX9_stopCopyist_0 hown hK hP mb2.1 (pf_0 mb2.2) rfl 4 (by decide) (hts (.fieldLink RX9 239 "FondsRoom$Box" "holder" "LFondsRoom$Reader;") (List.mem_of_getElem? (i := 2) rfl)) (fun _ h9 => h9) rfl dX9_stopCopyist_12 ?_
    obtain ⟨q3, eq3⟩ : ∃ z, z = S0.2 4 b2 := ⟨_, rfl⟩
    replace hF := bnd_s hF q3 eq3
    have hq3 : rok L K 6 q3 := by rw [eq3]; exact hT 4 b2
    refine lv_tov (v' := va_rf q3) (by rw [eq3]) ?_
    rcases eb4 : q3 with _ | b4
    · skip
      subst eb4
      replace hF := oc_n hF
      have hl : lv_has ls 3 [(2, .ref b2), (0, .ref (x 0)), (1, .ref ar1)] := hl
      refine W.eq (g2 := F0 m 15 ls [.null, .ref b2]) rfl ?_
      refine lv_ifnullN (tgt := 22) hx hb dX9_stopCopyist_15 (by decide) ?_
      refine lv_iconst (v := 2) hx hb dX9_stopCopyist_22 (by decide) ?_
      refine pg_put (D := D) (ci := 0) (v := .int 2) (ty := .int) (C := RX0) (T := TX0) (N := 6) hx hb hts iX9_stopCopyist_0 tyX0 tyX0_ok nmX0 hown hK hP hD hS mb2.1 (pf_0 mb2.2) rfl 3 (by decide) (hts (.fieldLink RX9 233 "FondsRoom$Box" "place" "I") (List.mem_of_getElem? (i := 3) rfl)) (fun _ h9 => h9) rfl (by decide +kernel) rfl rfl (Nat.le_of_ble_eq_true rfl) dX9_stopCopyist_23 (fun H locs hP hD hS => ?_)
      obtain ⟨S5, eS5⟩ : ∃ z, z = wi S0 3 b2 2 := ⟨_, rfl⟩
      replace hF := bnd_s hF S5 eS5
      have hP : va_P D vwCl (ZW x cy g S5 ++ va_pl L (pf cy K cf nm S5)) H := by rw [eS5]; rw [← pu_0_3 mb2.2]; exact hP
      have hD : va_D (va_A (ZW x cy g S0 ++ va_pl L (pf cy K cf nm S0)) s.heap.size) (ZW x cy g S5 ++ va_pl L (pf cy K cf nm S5)) := by rw [eS5]; rw [← pu_0_3 mb2.2]; exact hD
      have hT : WT L K S5.2 := by rw [eS5]; exact hT
      refine lv_aload_n hx hb dX9_stopCopyist_26 rfl (lv_at hl 2 rfl) ?_
      obtain ⟨S7, hq9, hF⟩ := bd1_s hF
      refine gvV (As := []) (rest := []) ⟨hx, hb, hml, hown, hts⟩ (zX8_release l D x cy g L K cf nm hG hL S5 hT _ ar1 ⟨mar1.1, mar1.2⟩ S7 hq9) (cwV 0 hts gX9_stopCopyist_X8_release rfl rfl rfl (by decide +kernel) ⟨Nat.le_of_ble_eq_true rfl, Nat.le_of_ble_eq_true rfl⟩) hK hP hD hS hA (pl_recv hK hP (ci := 8) rfl mar1.1 (pf_8 mar1.2)) rfl hl.1 rfl (Nat.le_of_ble_eq_true rfl) dX9_stopCopyist_27 ⟨Nat.le_of_ble_eq_true rfl, Nat.le_of_ble_eq_true rfl⟩ (fun u9 H locs hw8 hP hD hS => ?_)
      have hT : WT L K S7.2 := hw8
      have hP : va_P D vwCl (ZW x cy g S7 ++ va_pl L (pf cy K cf nm S7)) H := hP
      have hD : va_D _ (ZW x cy g S7 ++ va_pl L (pf cy K cf nm S7)) := hD
      have e2 := Option.some.inj hF
      have hP : va_P D vwCl (ZW x cy g Sf ++ va_pl L (pf cy K cf nm Sf)) H := by rw [← e2]; exact hP
      have hD : va_D (va_A (ZW x cy g S0 ++ va_pl L (pf cy K cf nm S0)) s.heap.size) (ZW x cy g Sf ++ va_pl L (pf cy K cf nm Sf)) := by rw [← e2]; exact hD
      have hT : WT L K Sf.2 := by rw [← e2]; exact hT
      exact W.vret hx hb hr (fun t ht hW => ⟨⟨(), rfl, hT, by rw [ht]; exact hP, va_K.moved hW.alike hK, hD⟩, hS.F ht⟩) hS.2.2 dX9_stopCopyist_30
    · skip
      subst eb4
      replace hF := oc_b hF
      have mb4 := hq3 b4 rfl
      have hl : lv_has ls 3 [(2, .ref b2), (0, .ref (x 0)), (1, .ref ar1)] := hl
      refine W.eq (g2 := F0 m 15 ls [.ref b4, .ref b2]) rfl ?_
      refine lv_ifnull hx hb dX9_stopCopyist_15 ?_
      refine lv_iconst (v := 5) hx hb dX9_stopCopyist_18 (by decide) ?_
      refine lv_goto (tgt := 23) hx hb dX9_stopCopyist_19 (by decide) ?_
      refine pg_put (D := D) (ci := 0) (v := .int 5) (ty := .int) (C := RX0) (T := TX0) (N := 6) hx hb hts iX9_stopCopyist_0 tyX0 tyX0_ok nmX0 hown hK hP hD hS mb2.1 (pf_0 mb2.2) rfl 3 (by decide) (hts (.fieldLink RX9 233 "FondsRoom$Box" "place" "I") (List.mem_of_getElem? (i := 3) rfl)) (fun _ h9 => h9) rfl (by decide +kernel) rfl rfl (Nat.le_of_ble_eq_true rfl) dX9_stopCopyist_23 (fun H locs hP hD hS => ?_)
      obtain ⟨S11, eS11⟩ : ∃ z, z = wi S0 3 b2 5 := ⟨_, rfl⟩
      replace hF := bnd_s hF S11 eS11
      have hP : va_P D vwCl (ZW x cy g S11 ++ va_pl L (pf cy K cf nm S11)) H := by rw [eS11]; rw [← pu_0_3 mb2.2]; exact hP
      have hD : va_D (va_A (ZW x cy g S0 ++ va_pl L (pf cy K cf nm S0)) s.heap.size) (ZW x cy g S11 ++ va_pl L (pf cy K cf nm S11)) := by rw [eS11]; rw [← pu_0_3 mb2.2]; exact hD
      have hT : WT L K S11.2 := by rw [eS11]; exact hT
      refine lv_aload_n hx hb dX9_stopCopyist_26 rfl (lv_at hl 2 rfl) ?_
      obtain ⟨S13, hq15, hF⟩ := bd1_s hF
      refine gvV (As := []) (rest := []) ⟨hx, hb, hml, hown, hts⟩ (zX8_release l D x cy g L K cf nm hG hL S11 hT _ ar1 ⟨mar1.1, mar1.2⟩ S13 hq15) (cwV 0 hts gX9_stopCopyist_X8_release rfl rfl rfl (by decide +kernel) ⟨Nat.le_of_ble_eq_true rfl, Nat.le_of_ble_eq_true rfl⟩) hK hP hD hS hA (pl_recv hK hP (ci := 8) rfl mar1.1 (pf_8 mar1.2)) rfl hl.1 rfl (Nat.le_of_ble_eq_true rfl) dX9_stopCopyist_27 ⟨Nat.le_of_ble_eq_true rfl, Nat.le_of_ble_eq_true rfl⟩ (fun u9 H locs hw14 hP hD hS => ?_)
      have hT : WT L K S13.2 := hw14
      have hP : va_P D vwCl (ZW x cy g S13 ++ va_pl L (pf cy K cf nm S13)) H := hP
      have hD : va_D _ (ZW x cy g S13 ++ va_pl L (pf cy K cf nm S13)) := hD
      have e2 := Option.some.inj hF
      have hP : va_P D vwCl (ZW x cy g Sf ++ va_pl L (pf cy K cf nm Sf)) H := by rw [← e2]; exact hP
      have hD : va_D (va_A (ZW x cy g S0 ++ va_pl L (pf cy K cf nm S0)) s.heap.size) (ZW x cy g Sf ++ va_pl L (pf cy K cf nm Sf)) := by rw [← e2]; exact hD
      have hT : WT L K Sf.2 := by rw [← e2]; exact hT
      exact W.vret hx hb hr (fun t ht hW => ⟨⟨(), rfl, hT, by rw [ht]; exact hP, va_K.moved hW.alike hK, hD⟩, hS.F ht⟩) hS.2.2 dX9_stopCopyist_30

theorem iX9_suffer_7 : ∀ w ∈ wsX70, w ∈ wsX9_suffer := fun _ h => List.mem_cons_of_mem _ (List.mem_append_left _ (List.mem_append_left _ (List.mem_append_left _ (List.mem_append_left _ (List.mem_append_left _ (List.mem_append_left _ (List.mem_append_right _ h)))))))
theorem iX9_suffer_9 : ∀ w ∈ wsX90, w ∈ wsX9_suffer := fun _ h => List.mem_cons_of_mem _ (List.mem_append_left _ (List.mem_append_left _ (List.mem_append_left _ (List.mem_append_left _ (List.mem_append_left _ (List.mem_append_left _ (List.mem_append_left _ (List.mem_append_right _ h))))))))
set_option maxHeartbeats 8000000 in
set_option maxRecDepth 100000 in
theorem zX9_suffer (l : Launch) (D : va_G) (x : Nat → Nat) (cy : Nat → ClassId) (g : Nat → Nat → Option Nat) (L : List Nat) (K : Nat → Nat) (cf : Nat → Nat → Nat) (nm : Nat → Int32) (hG : GO L K g) (hL : PL L K cf) (S0 : CS) (hT : WT L K S0.2) (sz : Nat) (ar1 : Int32) (ar2 : Int32)  (Sf : CS) (hF : gX9_suffer g cf nm S0 ar1 ar2 = some Sf) : Met l yX9_suffer wsX9_suffer ({ frames := 3, cells := 0, slots := 0, locals := 69 }) (PW D (TYS cy) (ZW x cy g S0 ++ va_pl L (pf cy K cf nm S0)) sz [.ref (x 0), .int ar1, .int ar2]) (va_Qv (fun (u : Unit) => WT L K Sf.2) (BU D (TYS cy) (ZW x cy g S0 ++ va_pl L (pf cy K cf nm S0)) (fun _ => ZW x cy g Sf ++ va_pl L (pf cy K cf nm Sf)) sz) (va_A (ZW x cy g S0 ++ va_pl L (pf cy K cf nm S0)) sz)) 0 0 (va_A (ZW x cy g S0 ++ va_pl L (pf cy K cf nm S0)) sz) := by
  refine Met.ofW (cc := cX9_suffer) (maxL := 3) (ret := none) (by decide) rfl ?_
  intro p e s m args below meth c s₁ B hml hv
  obtain ⟨rfl, hsz, hP, hK, hD0⟩ := hv
  have hx := B.exec
  have hb := B.bytes
  have hr := B.returns
  have hts := atoms_spec (ws := wsX9_suffer) B.pre
  have hown : s.vm.findClass RX9 = some m.cls := findClass_of_methodNamed B.named
  have hlocks := B.notSynchronized
  subst hsz
  have hD := hD0.self (sz := s.heap.size)
  have hA : ∀ q9 : Nat, s.heap.size ≤ q9 → va_A (ZW x cy g S0 ++ va_pl L (pf cy K cf nm S0)) s.heap.size q9 := fun q9 h => Or.inr h
  have hS : va_S (va_A (ZW x cy g S0 ++ va_pl L (pf cy K cf nm S0)) s.heap.size) s.heap s.heap [] := va_S.rf
  have hl := lv_entry ([.ref (x 0), .int ar1, .int ar2]) (n := 3) (Nat.le_of_ble_eq_true rfl)
  rw [lg_entry_eq]
  generalize (lg_sl ([.ref (x 0), .int ar1, .int ar2]) ++ List.replicate (3 - (lg_sl ([.ref (x 0), .int ar1, .int ar2])).length) Slot.unset).toArray = ls at hl ⊢
  have hl : lv_has ls 3 [(0, .ref (x 0)), (1, .int ar1), (2, .int ar2)] := hl
  unfold gX9_suffer at hF
  refine lv_aload_n hx hb dX9_suffer_0 rfl (lv_at hl 0 rfl) ?_
  refine lv_iload_n hx hb dX9_suffer_1 rfl (lv_at hl 1 rfl) ?_
  refine lv_iload_n hx hb dX9_suffer_2 rfl (lv_at hl 2 rfl) ?_
  obtain ⟨r1, hq4, hF⟩ := bd1_s hF
  refine gvI (As := [.int ar1, .int ar2]) (rest := []) ⟨hx, hb, hml, hown, hts⟩ (zX9_isPerson l D x cy g L K cf nm hG hL S0 hT _ ar1 ar2  r1 hq4) (cwV 2 hts gX9_suffer_X9_isPerson rfl rfl rfl (by decide +kernel) ⟨Nat.le_of_ble_eq_true rfl, Nat.le_of_ble_eq_true rfl⟩) hK hP hD hS hA (va_recv hK hP (ci := 9) (q0 := 0) rfl rfl) rfl hl.1 rfl (Nat.le_of_ble_eq_true rfl) dX9_suffer_3 ⟨Nat.le_of_ble_eq_true rfl, Nat.le_of_ble_eq_true rfl⟩ (fun a5 u9 H locs hw3 hP hD hS => ?_)
  have hP : va_P D vwCl (ZW x cy g S0 ++ va_pl L (pf cy K cf nm S0)) H := hP
  have hD : va_D _ (ZW x cy g S0 ++ va_pl L (pf cy K cf nm S0)) := hD
  refine lv_tov (v' := .int r1) (congrArg Value.int hw3.1) ?_
  refine lv_if_ne (tgt := 10) hx hb dX9_suffer_6 (by decide) (fun c6 => ?_) (fun c6 => ?_)
  · skip
    have hF := (if_neg c6).symm.trans hF
    refine lv_iload_n hx hb dX9_suffer_10 rfl (lv_at hl 1 rfl) ?_
    refine lv_if_ne (tgt := 41) hx hb dX9_suffer_11 (by decide) (fun c7 => ?_) (fun c7 => ?_)
    · skip
      have hF := (if_neg c7).symm.trans hF
      refine lv_iload_n hx hb dX9_suffer_41 rfl (lv_at hl 1 rfl) ?_
      refine lv_iconst (v := 1) hx hb dX9_suffer_42 (by decide) ?_
      refine lv_icmp_ne (tgt := 62) hx hb dX9_suffer_43 (by decide) (fun c8 => ?_) (fun c8 => ?_)
      · skip
        have hF := (if_neg c8).symm.trans hF
        refine lv_aload_n hx hb dX9_suffer_62 rfl (lv_at hl 0 rfl) ?_
        refine lv_aload_n hx hb dX9_suffer_63 rfl (lv_at hl 0 rfl) ?_
        refine va_get (D := D) (ci := 9) (v := .ref (x 6)) (C := RX9) (T := TX9) (N := 19) hx hb hts iX9_suffer_9 hown hK hP 0 rfl rfl 4 (by decide) (hts (.fieldLink RX9 41 "FondsRoom" "copyists" "LFondsRoom$Staff;") (List.mem_of_getElem? (i := 4) rfl)) (fun _ h9 => h9) rfl dX9_suffer_64 ?_
        refine va_get (D := D) (ci := 7) (v := .ref (x 7)) (C := RX7) (T := TX7) (N := 2) hx hb hts iX9_suffer_7 hown hK hP 6 rfl rfl 0 (by decide) (hts (.fieldLink RX9 216 "FondsRoom$Staff" "workers" "[LFondsRoom$Worker;") (List.mem_of_getElem? (i := 3) rfl)) (fun _ h9 => h9) rfl dX9_suffer_67 ?_
        refine lv_iload_n hx hb dX9_suffer_70 rfl (lv_at hl 2 rfl) ?_
        obtain ⟨hi9, b10, eb10, hF⟩ := ga_s hF
        refine va_aldq hx hb hK hP 7 5 rfl rfl hi9 dX9_suffer_71 ?_
        refine lv_tov (v' := .ref b10) (by rw [eb10]; rfl) ?_
        have mb10 := GO_4 hG hi9 eb10
        obtain ⟨S12, hq14, hF⟩ := bd1_s hF
        refine gvV (As := [.ref b10]) (rest := []) ⟨hx, hb, hml, hown, hts⟩ (zX9_stopCopyist l D x cy g L K cf nm hG hL S0 hT _ b10 ⟨mb10.1, mb10.2⟩ S12 hq14) (cwV 1 hts gX9_suffer_X9_stopCopyist rfl rfl rfl (by decide +kernel) ⟨Nat.le_of_ble_eq_true rfl, Nat.le_of_ble_eq_true rfl⟩) hK hP hD hS hA (va_recv hK hP (ci := 9) (q0 := 0) rfl rfl) rfl hl.1 rfl (Nat.le_of_ble_eq_true rfl) dX9_suffer_72 ⟨Nat.le_of_ble_eq_true rfl, Nat.le_of_ble_eq_true rfl⟩ (fun u9 H locs hw13 hP hD hS => ?_)
        have hT : WT L K S12.2 := hw13
        have hP : va_P D vwCl (ZW x cy g S12 ++ va_pl L (pf cy K cf nm S12)) H := hP
        have hD : va_D _ (ZW x cy g S12 ++ va_pl L (pf cy K cf nm S12)) := hD
        have e2 := Option.some.inj hF
        have hP : va_P D vwCl (ZW x cy g Sf ++ va_pl L (pf cy K cf nm Sf)) H := by rw [← e2]; exact hP
        have hD : va_D (va_A (ZW x cy g S0 ++ va_pl L (pf cy K cf nm S0)) s.heap.size) (ZW x cy g Sf ++ va_pl L (pf cy K cf nm Sf)) := by rw [← e2]; exact hD
        have hT : WT L K Sf.2 := by rw [← e2]; exact hT
        exact W.vret hx hb hr (fun t ht hW => ⟨⟨(), rfl, hT, by rw [ht]; exact hP, va_K.moved hW.alike hK, hD⟩, hS.F ht⟩) hS.2.2 dX9_suffer_75
      · skip
        have hF := (if_pos c8).symm.trans hF
        refine lv_aload_n hx hb dX9_suffer_46 rfl (lv_at hl 0 rfl) ?_
        refine lv_aload_n hx hb dX9_suffer_47 rfl (lv_at hl 0 rfl) ?_
        refine va_get (D := D) (ci := 9) (v := .ref (x 4)) (C := RX9) (T := TX9) (N := 19) hx hb hts iX9_suffer_9 hown hK hP 0 rfl rfl 3 (by decide) (hts (.fieldLink RX9 37 "FondsRoom" "fetchers" "LFondsRoom$Staff;") (List.mem_of_getElem? (i := 2) rfl)) (fun _ h9 => h9) rfl dX9_suffer_48 ?_
        refine va_get (D := D) (ci := 7) (v := .ref (x 5)) (C := RX7) (T := TX7) (N := 2) hx hb hts iX9_suffer_7 hown hK hP 4 rfl rfl 0 (by decide) (hts (.fieldLink RX9 216 "FondsRoom$Staff" "workers" "[LFondsRoom$Worker;") (List.mem_of_getElem? (i := 3) rfl)) (fun _ h9 => h9) rfl dX9_suffer_51 ?_
        refine lv_iload_n hx hb dX9_suffer_54 rfl (lv_at hl 2 rfl) ?_
        obtain ⟨hi16, b17, eb17, hF⟩ := ga_s hF
        refine va_aldq hx hb hK hP 5 5 rfl rfl hi16 dX9_suffer_55 ?_
        refine lv_tov (v' := .ref b17) (by rw [eb17]; rfl) ?_
        have mb17 := GO_3 hG hi16 eb17
        obtain ⟨S19, hq21, hF⟩ := bd1_s hF
        refine gvV (As := [.ref b17]) (rest := []) ⟨hx, hb, hml, hown, hts⟩ (zX9_stopFetcher l D x cy g L K cf nm hG hL S0 hT _ b17 ⟨mb17.1, mb17.2⟩ S19 hq21) (cwV 1 hts gX9_suffer_X9_stopFetcher rfl rfl rfl (by decide +kernel) ⟨Nat.le_of_ble_eq_true rfl, Nat.le_of_ble_eq_true rfl⟩) hK hP hD hS hA (va_recv hK hP (ci := 9) (q0 := 0) rfl rfl) rfl hl.1 rfl (Nat.le_of_ble_eq_true rfl) dX9_suffer_56 ⟨Nat.le_of_ble_eq_true rfl, Nat.le_of_ble_eq_true rfl⟩ (fun u9 H locs hw20 hP hD hS => ?_)
        have hT : WT L K S19.2 := hw20
        have hP : va_P D vwCl (ZW x cy g S19 ++ va_pl L (pf cy K cf nm S19)) H := hP
        have hD : va_D _ (ZW x cy g S19 ++ va_pl L (pf cy K cf nm S19)) := hD
        refine lv_goto (tgt := 75) hx hb dX9_suffer_59 (by decide) ?_
        have e2 := Option.some.inj hF
        have hP : va_P D vwCl (ZW x cy g Sf ++ va_pl L (pf cy K cf nm Sf)) H := by rw [← e2]; exact hP
        have hD : va_D (va_A (ZW x cy g S0 ++ va_pl L (pf cy K cf nm S0)) s.heap.size) (ZW x cy g Sf ++ va_pl L (pf cy K cf nm Sf)) := by rw [← e2]; exact hD
        have hT : WT L K Sf.2 := by rw [← e2]; exact hT
        exact W.vret hx hb hr (fun t ht hW => ⟨⟨(), rfl, hT, by rw [ht]; exact hP, va_K.moved hW.alike hK, hD⟩, hS.F ht⟩) hS.2.2 dX9_suffer_75
    · skip
      have hF := (if_pos c7).symm.trans hF
      refine lv_aload_n hx hb dX9_suffer_14 rfl (lv_at hl 0 rfl) ?_
      refine va_get (D := D) (ci := 9) (v := .ref (x 3)) (C := RX9) (T := TX9) (N := 19) hx hb hts iX9_suffer_9 hown hK hP 0 rfl rfl 2 (by decide) (hts (.fieldLink RX9 27 "FondsRoom" "readers" "[LFondsRoom$Reader;") (List.mem_of_getElem? (i := 1) rfl)) (fun _ h9 => h9) rfl dX9_suffer_15 ?_
      refine lv_iload_n hx hb dX9_suffer_18 rfl (lv_at hl 2 rfl) ?_
      obtain ⟨hi23, b24, eb24, hF⟩ := ga_s hF
      refine va_aldq hx hb hK hP 3 4 rfl rfl hi23 dX9_suffer_19 ?_
      refine lv_tov (v' := .ref b24) (by rw [eb24]; rfl) ?_
      have mb24 := GO_2 hG hi23 eb24
      obtain ⟨r25, hq28, hF⟩ := bd1_s hF
      refine gsI (As := [.ref b24]) (rest := []) ⟨hx, hb, hml, hown, hts⟩ (zX9_isInRoom l D x cy g L K cf nm hG hL S0 hT _ b24 ⟨mb24.1, mb24.2⟩ r25 hq28) (va_cwS 1 hts gX9_suffer_X9_isInRoom rfl rfl rfl (by decide +kernel) ⟨Nat.le_of_ble_eq_true rfl, Nat.le_of_ble_eq_true rfl⟩) hK hP hD hS hA rfl hl.1 rfl (Nat.le_of_ble_eq_true rfl) dX9_suffer_20 ⟨Nat.le_of_ble_eq_true rfl, Nat.le_of_ble_eq_true rfl⟩ (fun a29 u9 H locs hw27 hP hD hS => ?_)
      have hP : va_P D vwCl (ZW x cy g S0 ++ va_pl L (pf cy K cf nm S0)) H := hP
      have hD : va_D _ (ZW x cy g S0 ++ va_pl L (pf cy K cf nm S0)) := hD
      refine lv_tov (v' := .int r25) (congrArg Value.int hw27.1) ?_
      refine lv_if_eq (tgt := 75) hx hb dX9_suffer_23 (by decide) (fun c30 => ?_) (fun c30 => ?_)
      · skip
        have hF := (if_pos c30).symm.trans hF
        have e2 := Option.some.inj hF
        have hP : va_P D vwCl (ZW x cy g Sf ++ va_pl L (pf cy K cf nm Sf)) H := by rw [← e2]; exact hP
        have hD : va_D (va_A (ZW x cy g S0 ++ va_pl L (pf cy K cf nm S0)) s.heap.size) (ZW x cy g Sf ++ va_pl L (pf cy K cf nm Sf)) := by rw [← e2]; exact hD
        have hT : WT L K Sf.2 := by rw [← e2]; exact hT
        exact W.vret hx hb hr (fun t ht hW => ⟨⟨(), rfl, hT, by rw [ht]; exact hP, va_K.moved hW.alike hK, hD⟩, hS.F ht⟩) hS.2.2 dX9_suffer_75
      · skip
        have hF := (if_neg c30).symm.trans hF
        refine lv_aload_n hx hb dX9_suffer_26 rfl (lv_at hl 0 rfl) ?_
        refine lv_aload_n hx hb dX9_suffer_27 rfl (lv_at hl 0 rfl) ?_
        refine va_get (D := D) (ci := 9) (v := .ref (x 3)) (C := RX9) (T := TX9) (N := 19) hx hb hts iX9_suffer_9 hown hK hP 0 rfl rfl 2 (by decide) (hts (.fieldLink RX9 27 "FondsRoom" "readers" "[LFondsRoom$Reader;") (List.mem_of_getElem? (i := 1) rfl)) (fun _ h9 => h9) rfl dX9_suffer_28 ?_
        refine lv_iload_n hx hb dX9_suffer_31 rfl (lv_at hl 2 rfl) ?_
        obtain ⟨hi31, b32, eb32, hF⟩ := ga_s hF
        refine va_aldq hx hb hK hP 3 4 rfl rfl hi31 dX9_suffer_32 ?_
        refine lv_tov (v' := .ref b32) (by rw [eb32]; rfl) ?_
        have mb32 := GO_2 hG hi31 eb32
        refine lv_bipush (v := 7) hx hb dX9_suffer_33 (by decide) ?_
        obtain ⟨S34, hq36, hF⟩ := bd1_s hF
        refine gvV (As := [.ref b32, .int 7]) (rest := []) ⟨hx, hb, hml, hown, hts⟩ (zX9_depart l D x cy g L K cf nm hG hL S0 hT _ b32 7 ⟨mb32.1, mb32.2⟩ S34 hq36) (cwV 2 hts gX9_suffer_X9_depart rfl rfl rfl (by decide +kernel) ⟨Nat.le_of_ble_eq_true rfl, Nat.le_of_ble_eq_true rfl⟩) hK hP hD hS hA (va_recv hK hP (ci := 9) (q0 := 0) rfl rfl) rfl hl.1 rfl (Nat.le_of_ble_eq_true rfl) dX9_suffer_35 ⟨Nat.le_of_ble_eq_true rfl, Nat.le_of_ble_eq_true rfl⟩ (fun u9 H locs hw35 hP hD hS => ?_)
        have hT : WT L K S34.2 := hw35
        have hP : va_P D vwCl (ZW x cy g S34 ++ va_pl L (pf cy K cf nm S34)) H := hP
        have hD : va_D _ (ZW x cy g S34 ++ va_pl L (pf cy K cf nm S34)) := hD
        refine lv_goto (tgt := 75) hx hb dX9_suffer_38 (by decide) ?_
        have e2 := Option.some.inj hF
        have hP : va_P D vwCl (ZW x cy g Sf ++ va_pl L (pf cy K cf nm Sf)) H := by rw [← e2]; exact hP
        have hD : va_D (va_A (ZW x cy g S0 ++ va_pl L (pf cy K cf nm S0)) s.heap.size) (ZW x cy g Sf ++ va_pl L (pf cy K cf nm Sf)) := by rw [← e2]; exact hD
        have hT : WT L K Sf.2 := by rw [← e2]; exact hT
        exact W.vret hx hb hr (fun t ht hW => ⟨⟨(), rfl, hT, by rw [ht]; exact hP, va_K.moved hW.alike hK, hD⟩, hS.F ht⟩) hS.2.2 dX9_suffer_75
  · skip
    have hF := (if_pos c6).symm.trans hF
    have e2 := Option.some.inj hF
    have hP : va_P D vwCl (ZW x cy g Sf ++ va_pl L (pf cy K cf nm Sf)) H := by rw [← e2]; exact hP
    have hD : va_D (va_A (ZW x cy g S0 ++ va_pl L (pf cy K cf nm S0)) s.heap.size) (ZW x cy g Sf ++ va_pl L (pf cy K cf nm Sf)) := by rw [← e2]; exact hD
    have hT : WT L K Sf.2 := by rw [← e2]; exact hT
    exact W.vret hx hb hr (fun t ht hW => ⟨⟨(), rfl, hT, by rw [ht]; exact hP, va_K.moved hW.alike hK, hD⟩, hS.F ht⟩) hS.2.2 dX9_suffer_9

theorem iX9_sufferMishaps_4 : ∀ w ∈ wsX40, w ∈ wsX9_sufferMishaps := fun _ h => List.mem_cons_of_mem _ (List.mem_append_left _ (List.mem_append_left _ (List.mem_append_left _ (List.mem_append_left _ (List.mem_append_left _ (List.mem_append_left _ (List.mem_append_left _ (List.mem_append_right _ h))))))))
theorem iX9_sufferMishaps_9 : ∀ w ∈ wsX90, w ∈ wsX9_sufferMishaps := fun _ h => List.mem_cons_of_mem _ (List.mem_append_left _ (List.mem_append_left _ (List.mem_append_left _ (List.mem_append_left _ (List.mem_append_left _ (List.mem_append_left _ (List.mem_append_left _ (List.mem_append_left _ (List.mem_append_right _ h)))))))))
set_option maxHeartbeats 8000000 in
set_option maxRecDepth 100000 in
theorem zX9_sufferMishaps (l : Launch) (D : va_G) (x : Nat → Nat) (cy : Nat → ClassId) (g : Nat → Nat → Option Nat) (L : List Nat) (K : Nat → Nat) (cf : Nat → Nat → Nat) (nm : Nat → Int32) (hG : GO L K g) (hL : PL L K cf) (S0 : CS) (hT : WT L K S0.2) (sz : Nat)   (Sf : CS) (hF : gX9_sufferMishaps g cf nm S0  = some Sf) : Met l yX9_sufferMishaps wsX9_sufferMishaps ({ frames := 4, cells := 0, slots := 0, locals := 91 }) (PW D (TYS cy) (ZW x cy g S0 ++ va_pl L (pf cy K cf nm S0)) sz [.ref (x 0)]) (va_Qv (fun (u : Unit) => WT L K Sf.2) (BU D (TYS cy) (ZW x cy g S0 ++ va_pl L (pf cy K cf nm S0)) (fun _ => ZW x cy g Sf ++ va_pl L (pf cy K cf nm Sf)) sz) (va_A (ZW x cy g S0 ++ va_pl L (pf cy K cf nm S0)) sz)) 0 0 (va_A (ZW x cy g S0 ++ va_pl L (pf cy K cf nm S0)) sz) := by
  refine Met.ofW (cc := cX9_sufferMishaps) (maxL := 2) (ret := none) (by decide) rfl ?_
  intro p e s m args below meth c s₁ B hml hv
  obtain ⟨rfl, hsz, hP, hK, hD0⟩ := hv
  have hx := B.exec
  have hb := B.bytes
  have hr := B.returns
  have hts := atoms_spec (ws := wsX9_sufferMishaps) B.pre
  have hown : s.vm.findClass RX9 = some m.cls := findClass_of_methodNamed B.named
  have hlocks := B.notSynchronized
  subst hsz
  have hD := hD0.self (sz := s.heap.size)
  have hA : ∀ q9 : Nat, s.heap.size ≤ q9 → va_A (ZW x cy g S0 ++ va_pl L (pf cy K cf nm S0)) s.heap.size q9 := fun q9 h => Or.inr h
  have hS : va_S (va_A (ZW x cy g S0 ++ va_pl L (pf cy K cf nm S0)) s.heap.size) s.heap s.heap [] := va_S.rf
  have key2 : ∀ (KK : CS → Option (CS)), (∀  (S : CS) (H : Heap) (locs : List Loc) (ls : Array Slot), KK  S = some Sf → WT L K S.2 → va_P D vwCl (ZW x cy g S ++ va_pl L (pf cy K cf nm S)) H → va_D (va_A (ZW x cy g S0 ++ va_pl L (pf cy K cf nm S0)) s.heap.size) (ZW x cy g S ++ va_pl L (pf cy K cf nm S)) → va_S (va_A (ZW x cy g S0 ++ va_pl L (pf cy K cf nm S0)) s.heap.size) s.heap H locs → lv_has ls 2 [(0, .ref (x 0))] → W p l e (headSpec wsX9_sufferMishaps ({ frames := 4, cells := 0, slots := 0, locals := 91 })).room s m #[.ref (x 0)] below meth c H locs 0 0 (MQ below (va_Qv (fun (u : Unit) => WT L K Sf.2) (BU D (TYS cy) (ZW x cy g S0 ++ va_pl L (pf cy K cf nm S0)) (fun _ => ZW x cy g Sf ++ va_pl L (pf cy K cf nm Sf)) s.heap.size) (va_A (ZW x cy g S0 ++ va_pl L (pf cy K cf nm S0)) s.heap.size)) #[.ref (x 0)] s 0 0 (va_A (ZW x cy g S0 ++ va_pl L (pf cy K cf nm S0)) s.heap.size)) (F0 m 57 ls [])) → ∀ (fu : Nat) (v1 : Int32) (S : CS) (H : Heap) (locs : List Loc) (ls : Array Slot), gX9_sufferMishaps_2 g cf nm KK fu v1 S = some Sf → WT L K S.2 → va_P D vwCl (ZW x cy g S ++ va_pl L (pf cy K cf nm S)) H → va_D (va_A (ZW x cy g S0 ++ va_pl L (pf cy K cf nm S0)) s.heap.size) (ZW x cy g S ++ va_pl L (pf cy K cf nm S)) → va_S (va_A (ZW x cy g S0 ++ va_pl L (pf cy K cf nm S0)) s.heap.size) s.heap H locs → lv_has ls 2 [(1, .int v1), (0, .ref (x 0))] → W p l e (headSpec wsX9_sufferMishaps ({ frames := 4, cells := 0, slots := 0, locals := 91 })).room s m #[.ref (x 0)] below meth c H locs 0 0 (MQ below (va_Qv (fun (u : Unit) => WT L K Sf.2) (BU D (TYS cy) (ZW x cy g S0 ++ va_pl L (pf cy K cf nm S0)) (fun _ => ZW x cy g Sf ++ va_pl L (pf cy K cf nm Sf)) s.heap.size) (va_A (ZW x cy g S0 ++ va_pl L (pf cy K cf nm S0)) s.heap.size)) #[.ref (x 0)] s 0 0 (va_A (ZW x cy g S0 ++ va_pl L (pf cy K cf nm S0)) s.heap.size)) (F0 m 2 ls []) := by
    intro KK hKK fu
    induction fu with
    | zero =>
      intro v1 S H locs ls hF
      exact absurd (show (none : Option (CS)) = some Sf from hF) (by simp)
    | succ fu2 ih2 =>
      intro v1 S H locs ls hF hT hP hD hS hl
      rw [gX9_sufferMishaps_2] at hF
      refine lv_iload_n hx hb dX9_sufferMishaps_2 rfl (lv_at hl 0 rfl) ?_
      refine lv_aload_n hx hb dX9_sufferMishaps_3 rfl (lv_at hl 1 rfl) ?_
      refine va_get (D := D) (ci := 9) (v := .ref (x 14)) (C := RX9) (T := TX9) (N := 19) hx hb hts iX9_sufferMishaps_9 hown hK hP 0 rfl rfl 8 (by decide) (hts (.fieldLink RX9 60 "FondsRoom" "mishaps" "LFondsRoom$Mishaps;") (List.mem_of_getElem? (i := 1) rfl)) (fun _ h9 => h9) rfl dX9_sufferMishaps_4 ?_
      refine va_get (D := D) (ci := 4) (v := .int (S.1 200 14)) (C := RX4) (T := TX4) (N := 4) hx hb hts iX9_sufferMishaps_4 hown hK hP 14 rfl rfl 3 (by decide) (hts (.fieldLink RX9 190 "FondsRoom$Mishaps" "size" "I") (List.mem_of_getElem? (i := 2) rfl)) (fun _ h9 => h9) rfl dX9_sufferMishaps_7 ?_
      refine lv_icmp_ge (tgt := 57) hx hb dX9_sufferMishaps_10 (by decide) (fun c1 => ?_) (fun c1 => ?_)
      · skip
        have hF := (if_pos c1).symm.trans hF
        exact hKK  S _ _ _ hF hT hP hD hS (lv_sub hl [1] rfl)
      · skip
        have hF := (if_neg c1).symm.trans hF
        refine lv_aload_n hx hb dX9_sufferMishaps_13 rfl (lv_at hl 1 rfl) ?_
        refine va_get (D := D) (ci := 9) (v := .ref (x 14)) (C := RX9) (T := TX9) (N := 19) hx hb hts iX9_sufferMishaps_9 hown hK hP 0 rfl rfl 8 (by decide) (hts (.fieldLink RX9 60 "FondsRoom" "mishaps" "LFondsRoom$Mishaps;") (List.mem_of_getElem? (i := 1) rfl)) (fun _ h9 => h9) rfl dX9_sufferMishaps_14 ?_
        refine va_get (D := D) (ci := 4) (v := .ref (x 15)) (C := RX4) (T := TX4) (N := 4) hx hb hts iX9_sufferMishaps_4 hown hK hP 14 rfl rfl 0 (by decide) (hts (.fieldLink RX9 193 "FondsRoom$Mishaps" "turns" "[I") (List.mem_of_getElem? (i := 3) rfl)) (fun _ h9 => h9) rfl dX9_sufferMishaps_17 ?_
        refine lv_iload_n hx hb dX9_sufferMishaps_20 rfl (lv_at hl 0 rfl) ?_
        obtain ⟨hi3, hF⟩ := ld_s hF
        refine va_iald hx hb hK hP 15 0 rfl rfl hi3 dX9_sufferMishaps_21 ?_
        refine lv_topi (fun y2 ey2 => ?_)
        replace hF := hF y2 ey2
        refine lv_aload_n hx hb dX9_sufferMishaps_22 rfl (lv_at hl 1 rfl) ?_
        refine va_get (D := D) (ci := 9) (v := .int (S.1 200 4)) (C := RX9) (T := TX9) (N := 19) hx hb hts iX9_sufferMishaps_9 hown hK hP 0 rfl rfl 14 (by decide) (hts (.fieldLink RX9 78 "FondsRoom" "turn" "I") (List.mem_of_getElem? (i := 4) rfl)) (fun _ h9 => h9) rfl dX9_sufferMishaps_23 ?_
        refine lv_icmp_ne (tgt := 51) hx hb dX9_sufferMishaps_26 (by decide) (fun c4 => ?_) (fun c4 => ?_)
        · skip
          have hF := (if_neg c4).symm.trans hF
          refine lv_iinc (v := v1 + 1) (lv' := [(1, .int (v1 + 1)), (0, .ref (x 0))]) hx hb dX9_sufferMishaps_51 hl (k := 0) rfl rfl (by decide) rfl (fun ls hl => ?_)
          refine lv_goto (tgt := 2) hx hb dX9_sufferMishaps_54 (by decide) ?_
          exact ih2 (v1 + 1) S _ _ _ hF hT hP hD hS (lv_sub hl [0, 1] rfl)
        · skip
          have hF := (if_pos c4).symm.trans hF
          refine lv_aload_n hx hb dX9_sufferMishaps_29 rfl (lv_at hl 1 rfl) ?_
          refine lv_aload_n hx hb dX9_sufferMishaps_30 rfl (lv_at hl 1 rfl) ?_
          refine va_get (D := D) (ci := 9) (v := .ref (x 14)) (C := RX9) (T := TX9) (N := 19) hx hb hts iX9_sufferMishaps_9 hown hK hP 0 rfl rfl 8 (by decide) (hts (.fieldLink RX9 60 "FondsRoom" "mishaps" "LFondsRoom$Mishaps;") (List.mem_of_getElem? (i := 1) rfl)) (fun _ h9 => h9) rfl dX9_sufferMishaps_31 ?_
          refine va_get (D := D) (ci := 4) (v := .ref (x 16)) (C := RX4) (T := TX4) (N := 4) hx hb hts iX9_sufferMishaps_4 hown hK hP 14 rfl rfl 1 (by decide) (hts (.fieldLink RX9 197 "FondsRoom$Mishaps" "kinds" "[I") (List.mem_of_getElem? (i := 5) rfl)) (fun _ h9 => h9) rfl dX9_sufferMishaps_34 ?_
          refine lv_iload_n hx hb dX9_sufferMishaps_37 rfl (lv_at hl 0 rfl) ?_
          obtain ⟨hi6, hF⟩ := ld_s hF
          refine va_iald hx hb hK hP 16 0 rfl rfl hi6 dX9_sufferMishaps_38 ?_
          refine lv_topi (fun y5 ey5 => ?_)
          replace hF := hF y5 ey5
          refine lv_aload_n hx hb dX9_sufferMishaps_39 rfl (lv_at hl 1 rfl) ?_
          refine va_get (D := D) (ci := 9) (v := .ref (x 14)) (C := RX9) (T := TX9) (N := 19) hx hb hts iX9_sufferMishaps_9 hown hK hP 0 rfl rfl 8 (by decide) (hts (.fieldLink RX9 60 "FondsRoom" "mishaps" "LFondsRoom$Mishaps;") (List.mem_of_getElem? (i := 1) rfl)) (fun _ h9 => h9) rfl dX9_sufferMishaps_40 ?_
          refine va_get (D := D) (ci := 4) (v := .ref (x 17)) (C := RX4) (T := TX4) (N := 4) hx hb hts iX9_sufferMishaps_4 hown hK hP 14 rfl rfl 2 (by decide) (hts (.fieldLink RX9 200 "FondsRoom$Mishaps" "whos" "[I") (List.mem_of_getElem? (i := 6) rfl)) (fun _ h9 => h9) rfl dX9_sufferMishaps_43 ?_
          refine lv_iload_n hx hb dX9_sufferMishaps_46 rfl (lv_at hl 0 rfl) ?_
          obtain ⟨hi8, hF⟩ := ld_s hF
          refine va_iald hx hb hK hP 17 0 rfl rfl hi8 dX9_sufferMishaps_47 ?_
          refine lv_topi (fun y7 ey7 => ?_)
          replace hF := hF y7 ey7
          obtain ⟨S10, hq12, hF⟩ := bd1_s hF
          refine gvV (As := [.int y5, .int y7]) (rest := []) ⟨hx, hb, hml, hown, hts⟩ (zX9_suffer l D x cy g L K cf nm hG hL S hT _ y5 y7  S10 hq12) (cwV 2 hts gX9_sufferMishaps_X9_suffer rfl rfl rfl (by decide +kernel) ⟨Nat.le_of_ble_eq_true rfl, Nat.le_of_ble_eq_true rfl⟩) hK hP hD hS hA (va_recv hK hP (ci := 9) (q0 := 0) rfl rfl) rfl hl.1 rfl (Nat.le_of_ble_eq_true rfl) dX9_sufferMishaps_48 ⟨Nat.le_of_ble_eq_true rfl, Nat.le_of_ble_eq_true rfl⟩ (fun u9 H locs hw11 hP hD hS => ?_)
          have hT : WT L K S10.2 := hw11
          have hP : va_P D vwCl (ZW x cy g S10 ++ va_pl L (pf cy K cf nm S10)) H := hP
          have hD : va_D _ (ZW x cy g S10 ++ va_pl L (pf cy K cf nm S10)) := hD
          refine lv_iinc (v := v1 + 1) (lv' := [(1, .int (v1 + 1)), (0, .ref (x 0))]) hx hb dX9_sufferMishaps_51 hl (k := 0) rfl rfl (by decide) rfl (fun ls hl => ?_)
          refine lv_goto (tgt := 2) hx hb dX9_sufferMishaps_54 (by decide) ?_
          exact ih2 (v1 + 1) S10 _ _ _ hF hT hP hD hS (lv_sub hl [0, 1] rfl)
  have hl := lv_entry ([.ref (x 0)]) (n := 2) (Nat.le_of_ble_eq_true rfl)
  rw [lg_entry_eq]
  generalize (lg_sl ([.ref (x 0)]) ++ List.replicate (2 - (lg_sl ([.ref (x 0)])).length) Slot.unset).toArray = ls at hl ⊢
  have hl : lv_has ls 2 [(0, .ref (x 0))] := hl
  unfold gX9_sufferMishaps at hF
  refine lv_iconst (v := 0) hx hb dX9_sufferMishaps_0 (by decide) ?_
  refine lv_istore_n (lv' := [(1, .int 0), (0, .ref (x 0))]) hx hb dX9_sufferMishaps_1 rfl hl (by decide) rfl (fun ls hl => ?_)
  refine key2 _ ?_ 1000 0 S0 _ _ _ hF hT hP hD hS (lv_sub hl [0, 1] rfl)
  intro S14 H locs ls hF hT hP hD hS hl
  refine lv_aload_n hx hb dX9_sufferMishaps_57 rfl (lv_at hl 0 rfl) ?_
  refine va_get (D := D) (ci := 9) (v := .ref (x 14)) (C := RX9) (T := TX9) (N := 19) hx hb hts iX9_sufferMishaps_9 hown hK hP 0 rfl rfl 8 (by decide) (hts (.fieldLink RX9 60 "FondsRoom" "mishaps" "LFondsRoom$Mishaps;") (List.mem_of_getElem? (i := 1) rfl)) (fun _ h9 => h9) rfl dX9_sufferMishaps_58 ?_
  refine lv_aload_n hx hb dX9_sufferMishaps_61 rfl (lv_at hl 0 rfl) ?_
  refine va_get (D := D) (ci := 9) (v := .int (S14.1 200 4)) (C := RX9) (T := TX9) (N := 19) hx hb hts iX9_sufferMishaps_9 hown hK hP 0 rfl rfl 14 (by decide) (hts (.fieldLink RX9 78 "FondsRoom" "turn" "I") (List.mem_of_getElem? (i := 4) rfl)) (fun _ h9 => h9) rfl dX9_sufferMishaps_62 ?_
  obtain ⟨S16, hq18, hF⟩ := bd1_s hF
  refine gvV (As := [.int (S14.1 200 4)]) (rest := []) ⟨hx, hb, hml, hown, hts⟩ (zX4_dropTurn l D x cy g L K cf nm hG hL S14 hT _ (S14.1 200 4)  S16 hq18) (cwV 1 hts gX9_sufferMishaps_X4_dropTurn rfl rfl rfl (by decide +kernel) ⟨Nat.le_of_ble_eq_true rfl, Nat.le_of_ble_eq_true rfl⟩) hK hP hD hS hA (va_recv hK hP (ci := 4) (q0 := 14) rfl rfl) rfl hl.1 rfl (Nat.le_of_ble_eq_true rfl) dX9_sufferMishaps_65 ⟨Nat.le_of_ble_eq_true rfl, Nat.le_of_ble_eq_true rfl⟩ (fun u9 H locs hw17 hP hD hS => ?_)
  have hT : WT L K S16.2 := hw17
  have hP : va_P D vwCl (ZW x cy g S16 ++ va_pl L (pf cy K cf nm S16)) H := hP
  have hD : va_D _ (ZW x cy g S16 ++ va_pl L (pf cy K cf nm S16)) := hD
  have e2 := Option.some.inj hF
  have hP : va_P D vwCl (ZW x cy g Sf ++ va_pl L (pf cy K cf nm Sf)) H := by rw [← e2]; exact hP
  have hD : va_D (va_A (ZW x cy g S0 ++ va_pl L (pf cy K cf nm S0)) s.heap.size) (ZW x cy g Sf ++ va_pl L (pf cy K cf nm Sf)) := by rw [← e2]; exact hD
  have hT : WT L K Sf.2 := by rw [← e2]; exact hT
  exact W.vret hx hb hr (fun t ht hW => ⟨⟨(), rfl, hT, by rw [ht]; exact hP, va_K.moved hW.alike hK, hD⟩, hS.F ht⟩) hS.2.2 dX9_sufferMishaps_68

theorem iX9_ringBell_0 : ∀ w ∈ wsX00, w ∈ wsX9_ringBell := fun _ h => List.mem_cons_of_mem _ (List.mem_append_left _ (List.mem_append_left _ (List.mem_append_left _ (List.mem_append_left _ (List.mem_append_right _ h)))))
theorem iX9_ringBell_7 : ∀ w ∈ wsX70, w ∈ wsX9_ringBell := fun _ h => List.mem_cons_of_mem _ (List.mem_append_left _ (List.mem_append_left _ (List.mem_append_left _ (List.mem_append_left _ (List.mem_append_left _ (List.mem_append_left _ (List.mem_append_right _ h)))))))
theorem iX9_ringBell_8 : ∀ w ∈ wsX80, w ∈ wsX9_ringBell := fun _ h => List.mem_cons_of_mem _ (List.mem_append_left _ (List.mem_append_left _ (List.mem_append_left _ (List.mem_append_left _ (List.mem_append_left _ (List.mem_append_right _ h))))))
theorem iX9_ringBell_9 : ∀ w ∈ wsX90, w ∈ wsX9_ringBell := fun _ h => List.mem_cons_of_mem _ (List.mem_append_left _ (List.mem_append_left _ (List.mem_append_left _ (List.mem_append_left _ (List.mem_append_left _ (List.mem_append_left _ (List.mem_append_left _ (List.mem_append_right _ h))))))))
set_option maxHeartbeats 8000000 in
set_option maxRecDepth 100000 in
theorem zX9_ringBell (l : Launch) (D : va_G) (x : Nat → Nat) (cy : Nat → ClassId) (g : Nat → Nat → Option Nat) (L : List Nat) (K : Nat → Nat) (cf : Nat → Nat → Nat) (nm : Nat → Int32) (hG : GO L K g) (hL : PL L K cf) (S0 : CS) (hT : WT L K S0.2) (sz : Nat)   (Sf : CS) (hF : gX9_ringBell g cf nm S0  = some Sf) : Met l yX9_ringBell wsX9_ringBell ({ frames := 3, cells := 0, slots := 0, locals := 69 }) (PW D (TYS cy) (ZW x cy g S0 ++ va_pl L (pf cy K cf nm S0)) sz [.ref (x 0)]) (va_Qv (fun (u : Unit) => WT L K Sf.2) (BU D (TYS cy) (ZW x cy g S0 ++ va_pl L (pf cy K cf nm S0)) (fun _ => ZW x cy g Sf ++ va_pl L (pf cy K cf nm Sf)) sz) (va_A (ZW x cy g S0 ++ va_pl L (pf cy K cf nm S0)) sz)) 0 0 (va_A (ZW x cy g S0 ++ va_pl L (pf cy K cf nm S0)) sz) := by
  refine Met.ofW (cc := cX9_ringBell) (maxL := 3) (ret := none) (by decide) rfl ?_
  intro p e s m args below meth c s₁ B hml hv
  obtain ⟨rfl, hsz, hP, hK, hD0⟩ := hv
  have hx := B.exec
  have hb := B.bytes
  have hr := B.returns
  have hts := atoms_spec (ws := wsX9_ringBell) B.pre
  have hown : s.vm.findClass RX9 = some m.cls := findClass_of_methodNamed B.named
  have hlocks := B.notSynchronized
  subst hsz
  have hD := hD0.self (sz := s.heap.size)
  have hA : ∀ q9 : Nat, s.heap.size ≤ q9 → va_A (ZW x cy g S0 ++ va_pl L (pf cy K cf nm S0)) s.heap.size q9 := fun q9 h => Or.inr h
  have hS : va_S (va_A (ZW x cy g S0 ++ va_pl L (pf cy K cf nm S0)) s.heap.size) s.heap s.heap [] := va_S.rf
  have key2 : ∀ (KK : CS → Option (CS)), (∀  (S : CS) (H : Heap) (locs : List Loc) (ls : Array Slot), KK  S = some Sf → WT L K S.2 → va_P D vwCl (ZW x cy g S ++ va_pl L (pf cy K cf nm S)) H → va_D (va_A (ZW x cy g S0 ++ va_pl L (pf cy K cf nm S0)) s.heap.size) (ZW x cy g S ++ va_pl L (pf cy K cf nm S)) → va_S (va_A (ZW x cy g S0 ++ va_pl L (pf cy K cf nm S0)) s.heap.size) s.heap H locs → lv_has ls 3 [(0, .ref (x 0))] → W p l e (headSpec wsX9_ringBell ({ frames := 3, cells := 0, slots := 0, locals := 69 })).room s m #[.ref (x 0)] below meth c H locs 0 0 (MQ below (va_Qv (fun (u : Unit) => WT L K Sf.2) (BU D (TYS cy) (ZW x cy g S0 ++ va_pl L (pf cy K cf nm S0)) (fun _ => ZW x cy g Sf ++ va_pl L (pf cy K cf nm Sf)) s.heap.size) (va_A (ZW x cy g S0 ++ va_pl L (pf cy K cf nm S0)) s.heap.size)) #[.ref (x 0)] s 0 0 (va_A (ZW x cy g S0 ++ va_pl L (pf cy K cf nm S0)) s.heap.size)) (F0 m 40 ls [])) → ∀ (fu : Nat) (v1 : Int32) (S : CS) (H : Heap) (locs : List Loc) (ls : Array Slot), gX9_ringBell_2 g cf nm KK fu v1 S = some Sf → WT L K S.2 → va_P D vwCl (ZW x cy g S ++ va_pl L (pf cy K cf nm S)) H → va_D (va_A (ZW x cy g S0 ++ va_pl L (pf cy K cf nm S0)) s.heap.size) (ZW x cy g S ++ va_pl L (pf cy K cf nm S)) → va_S (va_A (ZW x cy g S0 ++ va_pl L (pf cy K cf nm S0)) s.heap.size) s.heap H locs → lv_has ls 3 [(1, .int v1), (0, .ref (x 0))] → W p l e (headSpec wsX9_ringBell ({ frames := 3, cells := 0, slots := 0, locals := 69 })).room s m #[.ref (x 0)] below meth c H locs 0 0 (MQ below (va_Qv (fun (u : Unit) => WT L K Sf.2) (BU D (TYS cy) (ZW x cy g S0 ++ va_pl L (pf cy K cf nm S0)) (fun _ => ZW x cy g Sf ++ va_pl L (pf cy K cf nm Sf)) s.heap.size) (va_A (ZW x cy g S0 ++ va_pl L (pf cy K cf nm S0)) s.heap.size)) #[.ref (x 0)] s 0 0 (va_A (ZW x cy g S0 ++ va_pl L (pf cy K cf nm S0)) s.heap.size)) (F0 m 2 ls []) := by
    intro KK hKK fu
    induction fu with
    | zero =>
      intro v1 S H locs ls hF
      exact absurd (show (none : Option (CS)) = some Sf from hF) (by simp)
    | succ fu2 ih2 =>
      intro v1 S H locs ls hF hT hP hD hS hl
      rw [gX9_ringBell_2] at hF
      refine lv_iload_n hx hb dX9_ringBell_2 rfl (lv_at hl 0 rfl) ?_
      refine lv_aload_n hx hb dX9_ringBell_3 rfl (lv_at hl 1 rfl) ?_
      refine va_get (D := D) (ci := 9) (v := .int (S.1 200 2)) (C := RX9) (T := TX9) (N := 19) hx hb hts iX9_ringBell_9 hown hK hP 0 rfl rfl 12 (by decide) (hts (.fieldLink RX9 104 "FondsRoom" "readerCount" "I") (List.mem_of_getElem? (i := 1) rfl)) (fun _ h9 => h9) rfl dX9_ringBell_4 ?_
      refine lv_icmp_ge (tgt := 40) hx hb dX9_ringBell_7 (by decide) (fun c1 => ?_) (fun c1 => ?_)
      · skip
        have hF := (if_pos c1).symm.trans hF
        exact hKK  S _ _ _ hF hT hP hD hS (lv_sub hl [1] rfl)
      · skip
        have hF := (if_neg c1).symm.trans hF
        refine lv_aload_n hx hb dX9_ringBell_10 rfl (lv_at hl 1 rfl) ?_
        refine va_get (D := D) (ci := 9) (v := .ref (x 3)) (C := RX9) (T := TX9) (N := 19) hx hb hts iX9_ringBell_9 hown hK hP 0 rfl rfl 2 (by decide) (hts (.fieldLink RX9 27 "FondsRoom" "readers" "[LFondsRoom$Reader;") (List.mem_of_getElem? (i := 2) rfl)) (fun _ h9 => h9) rfl dX9_ringBell_11 ?_
        refine lv_iload_n hx hb dX9_ringBell_14 rfl (lv_at hl 0 rfl) ?_
        obtain ⟨hi2, b3, eb3, hF⟩ := ga_s hF
        refine va_aldq hx hb hK hP 3 4 rfl rfl hi2 dX9_ringBell_15 ?_
        refine lv_tov (v' := .ref b3) (by rw [eb3]; rfl) ?_
        have mb3 := GO_2 hG hi2 eb3
        obtain ⟨r4, hq7, hF⟩ := bd1_s hF
        refine gsI (As := [.ref b3]) (rest := []) ⟨hx, hb, hml, hown, hts⟩ (zX9_isAway l D x cy g L K cf nm hG hL S hT _ b3 ⟨mb3.1, mb3.2⟩ r4 hq7) (va_cwS 1 hts gX9_ringBell_X9_isAway rfl rfl rfl (by decide +kernel) ⟨Nat.le_of_ble_eq_true rfl, Nat.le_of_ble_eq_true rfl⟩) hK hP hD hS hA rfl hl.1 rfl (Nat.le_of_ble_eq_true rfl) dX9_ringBell_16 ⟨Nat.le_of_ble_eq_true rfl, Nat.le_of_ble_eq_true rfl⟩ (fun a8 u9 H locs hw6 hP hD hS => ?_)
        have hP : va_P D vwCl (ZW x cy g S ++ va_pl L (pf cy K cf nm S)) H := hP
        have hD : va_D _ (ZW x cy g S ++ va_pl L (pf cy K cf nm S)) := hD
        refine lv_tov (v' := .int r4) (congrArg Value.int hw6.1) ?_
        refine lv_if_ne (tgt := 34) hx hb dX9_ringBell_19 (by decide) (fun c9 => ?_) (fun c9 => ?_)
        · skip
          have hF := (if_neg c9).symm.trans hF
          refine lv_iinc (v := v1 + 1) (lv' := [(1, .int (v1 + 1)), (0, .ref (x 0))]) hx hb dX9_ringBell_34 hl (k := 0) rfl rfl (by decide) rfl (fun ls hl => ?_)
          refine lv_goto (tgt := 2) hx hb dX9_ringBell_37 (by decide) ?_
          exact ih2 (v1 + 1) S _ _ _ hF hT hP hD hS (lv_sub hl [0, 1] rfl)
        · skip
          have hF := (if_pos c9).symm.trans hF
          refine lv_aload_n hx hb dX9_ringBell_22 rfl (lv_at hl 1 rfl) ?_
          refine lv_aload_n hx hb dX9_ringBell_23 rfl (lv_at hl 1 rfl) ?_
          refine va_get (D := D) (ci := 9) (v := .ref (x 3)) (C := RX9) (T := TX9) (N := 19) hx hb hts iX9_ringBell_9 hown hK hP 0 rfl rfl 2 (by decide) (hts (.fieldLink RX9 27 "FondsRoom" "readers" "[LFondsRoom$Reader;") (List.mem_of_getElem? (i := 2) rfl)) (fun _ h9 => h9) rfl dX9_ringBell_24 ?_
          refine lv_iload_n hx hb dX9_ringBell_27 rfl (lv_at hl 0 rfl) ?_
          obtain ⟨hi10, b11, eb11, hF⟩ := ga_s hF
          refine va_aldq hx hb hK hP 3 4 rfl rfl hi10 dX9_ringBell_28 ?_
          refine lv_tov (v' := .ref b11) (by rw [eb11]; rfl) ?_
          have mb11 := GO_2 hG hi10 eb11
          refine lv_bipush (v := 6) hx hb dX9_ringBell_29 (by decide) ?_
          obtain ⟨S13, hq15, hF⟩ := bd1_s hF
          refine gvV (As := [.ref b11, .int 6]) (rest := []) ⟨hx, hb, hml, hown, hts⟩ (zX9_depart l D x cy g L K cf nm hG hL S hT _ b11 6 ⟨mb11.1, mb11.2⟩ S13 hq15) (cwV 2 hts gX9_ringBell_X9_depart rfl rfl rfl (by decide +kernel) ⟨Nat.le_of_ble_eq_true rfl, Nat.le_of_ble_eq_true rfl⟩) hK hP hD hS hA (va_recv hK hP (ci := 9) (q0 := 0) rfl rfl) rfl hl.1 rfl (Nat.le_of_ble_eq_true rfl) dX9_ringBell_31 ⟨Nat.le_of_ble_eq_true rfl, Nat.le_of_ble_eq_true rfl⟩ (fun u9 H locs hw14 hP hD hS => ?_)
          have hT : WT L K S13.2 := hw14
          have hP : va_P D vwCl (ZW x cy g S13 ++ va_pl L (pf cy K cf nm S13)) H := hP
          have hD : va_D _ (ZW x cy g S13 ++ va_pl L (pf cy K cf nm S13)) := hD
          refine lv_iinc (v := v1 + 1) (lv' := [(1, .int (v1 + 1)), (0, .ref (x 0))]) hx hb dX9_ringBell_34 hl (k := 0) rfl rfl (by decide) rfl (fun ls hl => ?_)
          refine lv_goto (tgt := 2) hx hb dX9_ringBell_37 (by decide) ?_
          exact ih2 (v1 + 1) S13 _ _ _ hF hT hP hD hS (lv_sub hl [0, 1] rfl)
  have key42 : ∀ (KK : CS → Option (CS)), (∀  (S : CS) (H : Heap) (locs : List Loc) (ls : Array Slot), KK  S = some Sf → WT L K S.2 → va_P D vwCl (ZW x cy g S ++ va_pl L (pf cy K cf nm S)) H → va_D (va_A (ZW x cy g S0 ++ va_pl L (pf cy K cf nm S0)) s.heap.size) (ZW x cy g S ++ va_pl L (pf cy K cf nm S)) → va_S (va_A (ZW x cy g S0 ++ va_pl L (pf cy K cf nm S0)) s.heap.size) s.heap H locs → lv_has ls 3 [] → W p l e (headSpec wsX9_ringBell ({ frames := 3, cells := 0, slots := 0, locals := 69 })).room s m #[.ref (x 0)] below meth c H locs 0 0 (MQ below (va_Qv (fun (u : Unit) => WT L K Sf.2) (BU D (TYS cy) (ZW x cy g S0 ++ va_pl L (pf cy K cf nm S0)) (fun _ => ZW x cy g Sf ++ va_pl L (pf cy K cf nm Sf)) s.heap.size) (va_A (ZW x cy g S0 ++ va_pl L (pf cy K cf nm S0)) s.heap.size)) #[.ref (x 0)] s 0 0 (va_A (ZW x cy g S0 ++ va_pl L (pf cy K cf nm S0)) s.heap.size)) (F0 m 92 ls [])) → ∀ (fu : Nat) (v1 : Int32) (S : CS) (H : Heap) (locs : List Loc) (ls : Array Slot), gX9_ringBell_42 g cf nm KK fu v1 S = some Sf → WT L K S.2 → va_P D vwCl (ZW x cy g S ++ va_pl L (pf cy K cf nm S)) H → va_D (va_A (ZW x cy g S0 ++ va_pl L (pf cy K cf nm S0)) s.heap.size) (ZW x cy g S ++ va_pl L (pf cy K cf nm S)) → va_S (va_A (ZW x cy g S0 ++ va_pl L (pf cy K cf nm S0)) s.heap.size) s.heap H locs → lv_has ls 3 [(1, .int v1), (0, .ref (x 0))] → W p l e (headSpec wsX9_ringBell ({ frames := 3, cells := 0, slots := 0, locals := 69 })).room s m #[.ref (x 0)] below meth c H locs 0 0 (MQ below (va_Qv (fun (u : Unit) => WT L K Sf.2) (BU D (TYS cy) (ZW x cy g S0 ++ va_pl L (pf cy K cf nm S0)) (fun _ => ZW x cy g Sf ++ va_pl L (pf cy K cf nm Sf)) s.heap.size) (va_A (ZW x cy g S0 ++ va_pl L (pf cy K cf nm S0)) s.heap.size)) #[.ref (x 0)] s 0 0 (va_A (ZW x cy g S0 ++ va_pl L (pf cy K cf nm S0)) s.heap.size)) (F0 m 42 ls []) := by
    intro KK hKK fu
    induction fu with
    | zero =>
      intro v1 S H locs ls hF
      exact absurd (show (none : Option (CS)) = some Sf from hF) (by simp)
    | succ fu42 ih42 =>
      intro v1 S H locs ls hF hT hP hD hS hl
      rw [gX9_ringBell_42] at hF
      refine lv_iload_n hx hb dX9_ringBell_42 rfl (lv_at hl 0 rfl) ?_
      refine lv_aload_n hx hb dX9_ringBell_43 rfl (lv_at hl 1 rfl) ?_
      refine va_get (D := D) (ci := 9) (v := .ref (x 4)) (C := RX9) (T := TX9) (N := 19) hx hb hts iX9_ringBell_9 hown hK hP 0 rfl rfl 3 (by decide) (hts (.fieldLink RX9 37 "FondsRoom" "fetchers" "LFondsRoom$Staff;") (List.mem_of_getElem? (i := 3) rfl)) (fun _ h9 => h9) rfl dX9_ringBell_44 ?_
      refine va_get (D := D) (ci := 7) (v := .int (S.1 200 9)) (C := RX7) (T := TX7) (N := 2) hx hb hts iX9_ringBell_7 hown hK hP 4 rfl rfl 1 (by decide) (hts (.fieldLink RX9 101 "FondsRoom$Staff" "hired" "I") (List.mem_of_getElem? (i := 4) rfl)) (fun _ h9 => h9) rfl dX9_ringBell_47 ?_
      refine lv_icmp_ge (tgt := 92) hx hb dX9_ringBell_50 (by decide) (fun c18 => ?_) (fun c18 => ?_)
      · skip
        have hF := (if_pos c18).symm.trans hF
        exact hKK  S _ _ _ hF hT hP hD hS (lv_sub hl [] rfl)
      · skip
        have hF := (if_neg c18).symm.trans hF
        refine lv_aload_n hx hb dX9_ringBell_53 rfl (lv_at hl 1 rfl) ?_
        refine va_get (D := D) (ci := 9) (v := .ref (x 4)) (C := RX9) (T := TX9) (N := 19) hx hb hts iX9_ringBell_9 hown hK hP 0 rfl rfl 3 (by decide) (hts (.fieldLink RX9 37 "FondsRoom" "fetchers" "LFondsRoom$Staff;") (List.mem_of_getElem? (i := 3) rfl)) (fun _ h9 => h9) rfl dX9_ringBell_54 ?_
        refine va_get (D := D) (ci := 7) (v := .ref (x 5)) (C := RX7) (T := TX7) (N := 2) hx hb hts iX9_ringBell_7 hown hK hP 4 rfl rfl 0 (by decide) (hts (.fieldLink RX9 216 "FondsRoom$Staff" "workers" "[LFondsRoom$Worker;") (List.mem_of_getElem? (i := 5) rfl)) (fun _ h9 => h9) rfl dX9_ringBell_57 ?_
        refine lv_iload_n hx hb dX9_ringBell_60 rfl (lv_at hl 0 rfl) ?_
        obtain ⟨hi19, b20, eb20, hF⟩ := ga_s hF
        refine va_aldq hx hb hK hP 5 5 rfl rfl hi19 dX9_ringBell_61 ?_
        refine lv_tov (v' := .ref b20) (by rw [eb20]; rfl) ?_
        have mb20 := GO_3 hG hi19 eb20
        refine lv_astore_n (lv' := [(2, .ref b20), (1, .int v1), (0, .ref (x 0))]) hx hb dX9_ringBell_62 rfl hl (by decide) rfl (fun ls hl => ?_)
        refine lv_aload_n hx hb dX9_ringBell_63 rfl (lv_at hl 0 rfl) ?_
        refine pg_get (D := D) (ci := 8) (v := va_rf (S.2 160 b20)) (C := RX8) (T := TX8) (N := 3) hx hb hts iX9_ringBell_8 hown hK hP mb20.1 (pf_8 mb20.2) rfl 0 (by decide) (hts (.fieldLink RX9 227 "FondsRoom$Worker" "box" "LFondsRoom$Box;") (List.mem_of_getElem? (i := 6) rfl)) (fun _ h9 => h9) rfl dX9_ringBell_64 ?_
        obtain ⟨q21, eq21⟩ : ∃ z, z = S.2 160 b20 := ⟨_, rfl⟩
        replace hF := bnd_s hF q21 eq21
        have hq21 : rok L K 0 q21 := by rw [eq21]; exact hT 160 b20
        refine lv_tov (v' := va_rf q21) (by rw [eq21]) ?_
        rcases eb22 : q21 with _ | b22
        · skip
          subst eb22
          replace hF := oc_n hF
          have hl : lv_has ls 3 [(2, .ref b20), (1, .int v1), (0, .ref (x 0))] := hl
          refine W.eq (g2 := F0 m 67 ls [.null]) rfl ?_
          refine lv_ifnullN (tgt := 86) hx hb dX9_ringBell_67 (by decide) ?_
          refine lv_iinc (v := v1 + 1) (lv' := [(1, .int (v1 + 1)), (2, .ref b20), (0, .ref (x 0))]) hx hb dX9_ringBell_86 hl (k := 1) rfl rfl (by decide) rfl (fun ls hl => ?_)
          refine lv_goto (tgt := 42) hx hb dX9_ringBell_89 (by decide) ?_
          exact ih42 (v1 + 1) S _ _ _ hF hT hP hD hS (lv_sub hl [0, 2] rfl)
        · skip
          subst eb22
          replace hF := oc_b hF
          have mb22 := hq21 b22 rfl
          have hl : lv_has ls 3 [(2, .ref b20), (1, .int v1), (0, .ref (x 0))] := hl
          refine W.eq (g2 := F0 m 67 ls [.ref b22]) rfl ?_
          refine lv_ifnull hx hb dX9_ringBell_67 ?_
          refine lv_aload_n hx hb dX9_ringBell_70 rfl (lv_at hl 0 rfl) ?_
          refine pg_get (D := D) (ci := 8) (v := va_rf (S.2 160 b20)) (C := RX8) (T := TX8) (N := 3) hx hb hts iX9_ringBell_8 hown hK hP mb20.1 (pf_8 mb20.2) rfl 0 (by decide) (hts (.fieldLink RX9 227 "FondsRoom$Worker" "box" "LFondsRoom$Box;") (List.mem_of_getElem? (i := 6) rfl)) (fun _ h9 => h9) rfl dX9_ringBell_71 ?_
          obtain ⟨q23, eq23⟩ : ∃ z, z = S.2 160 b20 := ⟨_, rfl⟩
          replace hF := bnd_s hF q23 eq23
          have hq23 : rok L K 0 q23 := by rw [eq23]; exact hT 160 b20
          refine lv_tov (v' := va_rf q23) (by rw [eq23]) ?_
          obtain ⟨b24, eb24, hF9⟩ := sm_s hF
          clear hF
          have hF := hF9
          clear hF9
          subst eb24
          have mb24 := hq23 b24 rfl
          have hl : lv_has ls 3 [(2, .ref b20), (1, .int v1), (0, .ref (x 0))] := hl
          refine W.eq (g2 := F0 m 74 ls [.ref b24]) rfl ?_
          refine pg_get (D := D) (ci := 0) (v := .int (S.1 3 b24)) (C := RX0) (T := TX0) (N := 6) hx hb hts iX9_ringBell_0 hown hK hP mb24.1 (pf_0 mb24.2) rfl 3 (by decide) (hts (.fieldLink RX9 233 "FondsRoom$Box" "place" "I") (List.mem_of_getElem? (i := 7) rfl)) (fun _ h9 => h9) rfl dX9_ringBell_74 ?_
          refine lv_iconst (v := 3) hx hb dX9_ringBell_77 (by decide) ?_
          refine lv_icmp_ne (tgt := 86) hx hb dX9_ringBell_78 (by decide) (fun c25 => ?_) (fun c25 => ?_)
          · skip
            have hF := (if_neg c25).symm.trans hF
            refine lv_iinc (v := v1 + 1) (lv' := [(1, .int (v1 + 1)), (2, .ref b20), (0, .ref (x 0))]) hx hb dX9_ringBell_86 hl (k := 1) rfl rfl (by decide) rfl (fun ls hl => ?_)
            refine lv_goto (tgt := 42) hx hb dX9_ringBell_89 (by decide) ?_
            exact ih42 (v1 + 1) S _ _ _ hF hT hP hD hS (lv_sub hl [0, 2] rfl)
          · skip
            have hF := (if_pos c25).symm.trans hF
            refine lv_aload_n hx hb dX9_ringBell_81 rfl (lv_at hl 2 rfl) ?_
            refine lv_aload_n hx hb dX9_ringBell_82 rfl (lv_at hl 0 rfl) ?_
            obtain ⟨S27, hq29, hF⟩ := bd1_s hF
            refine gvV (As := [.ref b20]) (rest := []) ⟨hx, hb, hml, hown, hts⟩ (zX9_stopFetcher l D x cy g L K cf nm hG hL S hT _ b20 ⟨mb20.1, mb20.2⟩ S27 hq29) (cwV 1 hts gX9_ringBell_X9_stopFetcher rfl rfl rfl (by decide +kernel) ⟨Nat.le_of_ble_eq_true rfl, Nat.le_of_ble_eq_true rfl⟩) hK hP hD hS hA (va_recv hK hP (ci := 9) (q0 := 0) rfl rfl) rfl hl.1 rfl (Nat.le_of_ble_eq_true rfl) dX9_ringBell_83 ⟨Nat.le_of_ble_eq_true rfl, Nat.le_of_ble_eq_true rfl⟩ (fun u9 H locs hw28 hP hD hS => ?_)
            have hT : WT L K S27.2 := hw28
            have hP : va_P D vwCl (ZW x cy g S27 ++ va_pl L (pf cy K cf nm S27)) H := hP
            have hD : va_D _ (ZW x cy g S27 ++ va_pl L (pf cy K cf nm S27)) := hD
            refine lv_iinc (v := v1 + 1) (lv' := [(1, .int (v1 + 1)), (2, .ref b20), (0, .ref (x 0))]) hx hb dX9_ringBell_86 hl (k := 1) rfl rfl (by decide) rfl (fun ls hl => ?_)
            refine lv_goto (tgt := 42) hx hb dX9_ringBell_89 (by decide) ?_
            exact ih42 (v1 + 1) S27 _ _ _ hF hT hP hD hS (lv_sub hl [0, 2] rfl)
  have hl := lv_entry ([.ref (x 0)]) (n := 3) (Nat.le_of_ble_eq_true rfl)
  rw [lg_entry_eq]
  generalize (lg_sl ([.ref (x 0)]) ++ List.replicate (3 - (lg_sl ([.ref (x 0)])).length) Slot.unset).toArray = ls at hl ⊢
  have hl : lv_has ls 3 [(0, .ref (x 0))] := hl
  unfold gX9_ringBell at hF
  refine lv_iconst (v := 0) hx hb dX9_ringBell_0 (by decide) ?_
  refine lv_istore_n (lv' := [(1, .int 0), (0, .ref (x 0))]) hx hb dX9_ringBell_1 rfl hl (by decide) rfl (fun ls hl => ?_)
  refine key2 _ ?_ 1000 0 S0 _ _ _ hF hT hP hD hS (lv_sub hl [0, 1] rfl)
  intro S17 H locs ls hF hT hP hD hS hl
  refine lv_iconst (v := 0) hx hb dX9_ringBell_40 (by decide) ?_
  refine lv_istore_n (lv' := [(1, .int 0), (0, .ref (x 0))]) hx hb dX9_ringBell_41 rfl hl (by decide) rfl (fun ls hl => ?_)
  refine key42 _ ?_ 1000 0 S17 _ _ _ hF hT hP hD hS (lv_sub hl [0, 1] rfl)
  intro S31 H locs ls hF hT hP hD hS hl
  have e2 := Option.some.inj hF
  have hP : va_P D vwCl (ZW x cy g Sf ++ va_pl L (pf cy K cf nm Sf)) H := by rw [← e2]; exact hP
  have hD : va_D (va_A (ZW x cy g S0 ++ va_pl L (pf cy K cf nm S0)) s.heap.size) (ZW x cy g Sf ++ va_pl L (pf cy K cf nm Sf)) := by rw [← e2]; exact hD
  have hT : WT L K Sf.2 := by rw [← e2]; exact hT
  exact W.vret hx hb hr (fun t ht hW => ⟨⟨(), rfl, hT, by rw [ht]; exact hP, va_K.moved hW.alike hK, hD⟩, hS.F ht⟩) hS.2.2 dX9_ringBell_92

theorem iX9_bring_0 : ∀ w ∈ wsX00, w ∈ wsX9_bring := fun _ h => List.mem_cons_of_mem _ (List.mem_append_left _ (List.mem_append_left _ (List.mem_append_left _ (List.mem_append_left _ (List.mem_append_right _ h)))))
theorem iX9_bring_6 : ∀ w ∈ wsX60, w ∈ wsX9_bring := fun _ h => List.mem_cons_of_mem _ (List.mem_append_left _ (List.mem_append_left _ (List.mem_append_right _ h)))
theorem iX9_bring_9 : ∀ w ∈ wsX90, w ∈ wsX9_bring := fun _ h => List.mem_cons_of_mem _ (List.mem_append_left _ (List.mem_append_left _ (List.mem_append_left _ (List.mem_append_right _ h))))
set_option maxHeartbeats 8000000 in
set_option maxRecDepth 100000 in
theorem zX9_bring (l : Launch) (D : va_G) (x : Nat → Nat) (cy : Nat → ClassId) (g : Nat → Nat → Option Nat) (L : List Nat) (K : Nat → Nat) (cf : Nat → Nat → Nat) (nm : Nat → Int32) (hG : GO L K g) (hL : PL L K cf) (S0 : CS) (hT : WT L K S0.2) (sz : Nat) (ar1 : Nat) (ar2 : Option Nat) (mar1 : ar1 ∈ L ∧ K ar1 = 0) (mar2 : rok L K 6 ar2) (Sf : CS) (hF : gX9_bring g cf nm S0 ar1 ar2 = some Sf) : Met l yX9_bring wsX9_bring ({ frames := 1, cells := 0, slots := 0, locals := 25 }) (PW D (TYS cy) (ZW x cy g S0 ++ va_pl L (pf cy K cf nm S0)) sz [.ref (x 0), .ref ar1, va_rf ar2]) (va_Qv (fun (u : Unit) => WT L K Sf.2) (BU D (TYS cy) (ZW x cy g S0 ++ va_pl L (pf cy K cf nm S0)) (fun _ => ZW x cy g Sf ++ va_pl L (pf cy K cf nm Sf)) sz) (va_A (ZW x cy g S0 ++ va_pl L (pf cy K cf nm S0)) sz)) 0 0 (va_A (ZW x cy g S0 ++ va_pl L (pf cy K cf nm S0)) sz) := by
  refine Met.ofW (cc := cX9_bring) (maxL := 3) (ret := none) (by decide) rfl ?_
  intro p e s m args below meth c s₁ B hml hv
  obtain ⟨rfl, hsz, hP, hK, hD0⟩ := hv
  have hx := B.exec
  have hb := B.bytes
  have hr := B.returns
  have hts := atoms_spec (ws := wsX9_bring) B.pre
  have hown : s.vm.findClass RX9 = some m.cls := findClass_of_methodNamed B.named
  have hlocks := B.notSynchronized
  subst hsz
  have hD := hD0.self (sz := s.heap.size)
  have hA : ∀ q9 : Nat, s.heap.size ≤ q9 → va_A (ZW x cy g S0 ++ va_pl L (pf cy K cf nm S0)) s.heap.size q9 := fun q9 h => Or.inr h
  have hS : va_S (va_A (ZW x cy g S0 ++ va_pl L (pf cy K cf nm S0)) s.heap.size) s.heap s.heap [] := va_S.rf
  have hl := lv_entry ([.ref (x 0), .ref ar1, va_rf ar2]) (n := 3) (by cases ar2 <;> exact Nat.le_of_ble_eq_true rfl)
  rw [lg_entry_eq]
  generalize (lg_sl ([.ref (x 0), .ref ar1, va_rf ar2]) ++ List.replicate (3 - (lg_sl ([.ref (x 0), .ref ar1, va_rf ar2])).length) Slot.unset).toArray = ls at hl ⊢
  have hl : lv_has ls 3 [(0, .ref (x 0)), (1, .ref ar1), (2, va_rf ar2)] := by cases ar2 <;> exact hl
  unfold gX9_bring at hF
  refine lq_aload_n hx hb dX9_bring_0 rfl (lv_at hl 2 rfl) ?_
  rcases eb1 : ar2 with _ | b1
  · skip
    subst eb1
    replace hF := oc_n hF
    have hl : lv_has ls 3 [(0, .ref (x 0)), (1, .ref ar1), (2, .null)] := hl
    refine W.eq (g2 := F0 m 1 ls [.null]) rfl ?_
    refine lv_ifnonnullN hx hb dX9_bring_1 ?_
    refine lv_aload_n hx hb dX9_bring_4 rfl (lv_at hl 1 rfl) ?_
    refine lv_iconst (v := 0) hx hb dX9_bring_5 (by decide) ?_
    refine pg_put (D := D) (ci := 0) (v := .int 0) (ty := .int) (C := RX0) (T := TX0) (N := 6) hx hb hts iX9_bring_0 tyX0 tyX0_ok nmX0 hown hK hP hD hS mar1.1 (pf_0 mar1.2) rfl 3 (by decide) (hts (.fieldLink RX9 233 "FondsRoom$Box" "place" "I") (List.mem_of_getElem? (i := 1) rfl)) (fun _ h9 => h9) rfl (by decide +kernel) rfl rfl (Nat.le_of_ble_eq_true rfl) dX9_bring_6 (fun H locs hP hD hS => ?_)
    obtain ⟨S2, eS2⟩ : ∃ z, z = wi S0 3 ar1 0 := ⟨_, rfl⟩
    replace hF := bnd_s hF S2 eS2
    have hP : va_P D vwCl (ZW x cy g S2 ++ va_pl L (pf cy K cf nm S2)) H := by rw [eS2]; rw [← pu_0_3 mar1.2]; exact hP
    have hD : va_D (va_A (ZW x cy g S0 ++ va_pl L (pf cy K cf nm S0)) s.heap.size) (ZW x cy g S2 ++ va_pl L (pf cy K cf nm S2)) := by rw [eS2]; rw [← pu_0_3 mar1.2]; exact hD
    have hT : WT L K S2.2 := by rw [eS2]; exact hT
    refine lv_aload_n hx hb dX9_bring_9 rfl (lv_at hl 0 rfl) ?_
    refine va_get (D := D) (ci := 9) (v := .ref (x 18)) (C := RX9) (T := TX9) (N := 19) hx hb hts iX9_bring_9 hown hK hP 0 rfl rfl 9 (by decide) (hts (.fieldLink RX9 67 "FondsRoom" "events" "LFondsRoom$Events;") (List.mem_of_getElem? (i := 2) rfl)) (fun _ h9 => h9) rfl dX9_bring_10 ?_
    refine lv_aload_n hx hb dX9_bring_13 rfl (lv_at hl 0 rfl) ?_
    refine va_get (D := D) (ci := 9) (v := .int (S2.1 200 4)) (C := RX9) (T := TX9) (N := 19) hx hb hts iX9_bring_9 hown hK hP 0 rfl rfl 14 (by decide) (hts (.fieldLink RX9 78 "FondsRoom" "turn" "I") (List.mem_of_getElem? (i := 3) rfl)) (fun _ h9 => h9) rfl dX9_bring_14 ?_
    refine lv_iconst (v := (-1)) hx hb dX9_bring_17 (by decide) ?_
    refine lv_bipush (v := 9) hx hb dX9_bring_18 (by decide) ?_
    refine lv_aload_n hx hb dX9_bring_20 rfl (lv_at hl 1 rfl) ?_
    refine pg_get (D := D) (ci := 0) (v := .int (nm ar1)) (C := RX0) (T := TX0) (N := 6) hx hb hts iX9_bring_0 hown hK hP mar1.1 (pf_0 mar1.2) rfl 0 (by decide) (hts (.fieldLink RX9 253 "FondsRoom$Box" "number" "I") (List.mem_of_getElem? (i := 4) rfl)) (fun _ h9 => h9) rfl dX9_bring_21 ?_
    obtain ⟨S4, hq6, hF⟩ := bd1_s hF
    refine gvV (As := [.int (S2.1 200 4), .int (-1), .int 9, .int (nm ar1)]) (rest := []) ⟨hx, hb, hml, hown, hts⟩ (zX2_keep l D x cy g L K cf nm hG hL S2 hT _ (S2.1 200 4) (-1) 9 (nm ar1)  S4 hq6) (cwV 4 hts gX9_bring_X2_keep rfl rfl rfl (by decide +kernel) ⟨Nat.le_of_ble_eq_true rfl, Nat.le_of_ble_eq_true rfl⟩) hK hP hD hS hA (va_recv hK hP (ci := 2) (q0 := 18) rfl rfl) rfl hl.1 rfl (Nat.le_of_ble_eq_true rfl) dX9_bring_24 ⟨Nat.le_of_ble_eq_true rfl, Nat.le_of_ble_eq_true rfl⟩ (fun u9 H locs hw5 hP hD hS => ?_)
    have hT : WT L K S4.2 := hw5
    have hP : va_P D vwCl (ZW x cy g S4 ++ va_pl L (pf cy K cf nm S4)) H := hP
    have hD : va_D _ (ZW x cy g S4 ++ va_pl L (pf cy K cf nm S4)) := hD
    refine lv_goto (tgt := 100) hx hb dX9_bring_27 (by decide) ?_
    have e2 := Option.some.inj hF
    have hP : va_P D vwCl (ZW x cy g Sf ++ va_pl L (pf cy K cf nm Sf)) H := by rw [← e2]; exact hP
    have hD : va_D (va_A (ZW x cy g S0 ++ va_pl L (pf cy K cf nm S0)) s.heap.size) (ZW x cy g Sf ++ va_pl L (pf cy K cf nm Sf)) := by rw [← e2]; exact hD
    have hT : WT L K Sf.2 := by rw [← e2]; exact hT
    exact W.vret hx hb hr (fun t ht hW => ⟨⟨(), rfl, hT, by rw [ht]; exact hP, va_K.moved hW.alike hK, hD⟩, hS.F ht⟩) hS.2.2 dX9_bring_100
  · skip
    subst eb1
    replace hF := oc_b hF
    have mb1 := mar2 b1 rfl
    have hl : lv_has ls 3 [(0, .ref (x 0)), (1, .ref ar1), (2, .ref b1)] := hl
    refine W.eq (g2 := F0 m 1 ls [.ref b1]) rfl ?_
    refine lv_ifnonnull (tgt := 30) hx hb dX9_bring_1 (by decide) ?_
    refine lv_aload_n hx hb dX9_bring_30 rfl (lv_at hl 1 rfl) ?_
    refine pg_get (D := D) (ci := 0) (v := va_rf (S0.2 5 ar1)) (C := RX0) (T := TX0) (N := 6) hx hb hts iX9_bring_0 hown hK hP mar1.1 (pf_0 mar1.2) rfl 5 (by decide) (hts (.fieldLink RX9 260 "FondsRoom$Box" "wanter" "LFondsRoom$Reader;") (List.mem_of_getElem? (i := 5) rfl)) (fun _ h9 => h9) rfl dX9_bring_31 ?_
    obtain ⟨q8, eq8⟩ : ∃ z, z = S0.2 5 ar1 := ⟨_, rfl⟩
    replace hF := bnd_s hF q8 eq8
    have hq8 : rok L K 6 q8 := by rw [eq8]; exact hT 5 ar1
    refine lv_tov (v' := va_rf q8) (by rw [eq8]) ?_
    refine lv_aload_n hx hb dX9_bring_34 rfl (lv_at hl 2 rfl) ?_
    refine lv_acmp_ne (rx := q8) (ry := (some b1)) (tgt := 95) hx hb dX9_bring_35 (by decide) (fun c9 => ?_) (fun c9 => ?_)
    · skip
      have hF := (if_neg c9).symm.trans hF
      refine lv_aload_n hx hb dX9_bring_95 rfl (lv_at hl 1 rfl) ?_
      refine lv_iconst (v := 2) hx hb dX9_bring_96 (by decide) ?_
      refine pg_put (D := D) (ci := 0) (v := .int 2) (ty := .int) (C := RX0) (T := TX0) (N := 6) hx hb hts iX9_bring_0 tyX0 tyX0_ok nmX0 hown hK hP hD hS mar1.1 (pf_0 mar1.2) rfl 3 (by decide) (hts (.fieldLink RX9 233 "FondsRoom$Box" "place" "I") (List.mem_of_getElem? (i := 1) rfl)) (fun _ h9 => h9) rfl (by decide +kernel) rfl rfl (Nat.le_of_ble_eq_true rfl) dX9_bring_97 (fun H locs hP hD hS => ?_)
      obtain ⟨S10, eS10⟩ : ∃ z, z = wi S0 3 ar1 2 := ⟨_, rfl⟩
      replace hF := bnd_s hF S10 eS10
      have hP : va_P D vwCl (ZW x cy g S10 ++ va_pl L (pf cy K cf nm S10)) H := by rw [eS10]; rw [← pu_0_3 mar1.2]; exact hP
      have hD : va_D (va_A (ZW x cy g S0 ++ va_pl L (pf cy K cf nm S0)) s.heap.size) (ZW x cy g S10 ++ va_pl L (pf cy K cf nm S10)) := by rw [eS10]; rw [← pu_0_3 mar1.2]; exact hD
      have hT : WT L K S10.2 := by rw [eS10]; exact hT
      have e2 := Option.some.inj hF
      have hP : va_P D vwCl (ZW x cy g Sf ++ va_pl L (pf cy K cf nm Sf)) H := by rw [← e2]; exact hP
      have hD : va_D (va_A (ZW x cy g S0 ++ va_pl L (pf cy K cf nm S0)) s.heap.size) (ZW x cy g Sf ++ va_pl L (pf cy K cf nm Sf)) := by rw [← e2]; exact hD
      have hT : WT L K Sf.2 := by rw [← e2]; exact hT
      exact W.vret hx hb hr (fun t ht hW => ⟨⟨(), rfl, hT, by rw [ht]; exact hP, va_K.moved hW.alike hK, hD⟩, hS.F ht⟩) hS.2.2 dX9_bring_100
    · skip
      have hF := (if_pos c9).symm.trans hF
      refine lv_aload_n hx hb dX9_bring_38 rfl (lv_at hl 0 rfl) ?_
      refine va_get (D := D) (ci := 9) (v := .ref (x 10)) (C := RX9) (T := TX9) (N := 19) hx hb hts iX9_bring_9 hown hK hP 0 rfl rfl 6 (by decide) (hts (.fieldLink RX9 51 "FondsRoom" "boxTickets" "LFondsRoom$Line;") (List.mem_of_getElem? (i := 6) rfl)) (fun _ h9 => h9) rfl dX9_bring_39 ?_
      refine lv_aload_n hx hb dX9_bring_42 rfl (lv_at hl 2 rfl) ?_
      obtain ⟨S12, hq14, hF⟩ := bd1_s hF
      refine gvV (As := [.ref b1]) (rest := []) ⟨hx, hb, hml, hown, hts⟩ (zX3_remove_1 l D x cy g L K cf nm hG hL S0 hT _ b1 ⟨mb1.1, mb1.2⟩ S12 hq14) (cwV 1 hts gX9_bring_X3_remove rfl rfl rfl (by decide +kernel) ⟨Nat.le_of_ble_eq_true rfl, Nat.le_of_ble_eq_true rfl⟩) hK hP hD hS hA (va_recv hK hP (ci := 3) (q0 := 10) rfl rfl) rfl hl.1 rfl (Nat.le_of_ble_eq_true rfl) dX9_bring_43 ⟨Nat.le_of_ble_eq_true rfl, Nat.le_of_ble_eq_true rfl⟩ (fun u9 H locs hw13 hP hD hS => ?_)
      have hT : WT L K S12.2 := hw13
      have hP : va_P D vwCl (ZW x cy g S12 ++ va_pl L (pf cy K cf nm S12)) H := hP
      have hD : va_D _ (ZW x cy g S12 ++ va_pl L (pf cy K cf nm S12)) := hD
      refine lv_aload_n hx hb dX9_bring_46 rfl (lv_at hl 1 rfl) ?_
      refine lv_null hx hb dX9_bring_47 ?_
      refine pg_put (D := D) (ci := 0) (v := .null) (ty := (.object "FondsRoom$Reader")) (C := RX0) (T := TX0) (N := 6) hx hb hts iX9_bring_0 tyX0 tyX0_ok nmX0 hown hK hP hD hS mar1.1 (pf_0 mar1.2) rfl 5 (by decide) (hts (.fieldLink RX9 260 "FondsRoom$Box" "wanter" "LFondsRoom$Reader;") (List.mem_of_getElem? (i := 5) rfl)) (fun _ h9 => h9) rfl (by decide +kernel) rfl rfl (Nat.le_of_ble_eq_true rfl) dX9_bring_48 (fun H locs hP hD hS => ?_)
      obtain ⟨S16, eS16⟩ : ∃ z, z = wq S12 5 ar1 none := ⟨_, rfl⟩
      replace hF := bnd_s hF S16 eS16
      have hP : va_P D vwCl (ZW x cy g S16 ++ va_pl L (pf cy K cf nm S16)) H := by rw [eS16]; rw [← pu_0_5 mar1.2]; exact hP
      have hD : va_D (va_A (ZW x cy g S0 ++ va_pl L (pf cy K cf nm S0)) s.heap.size) (ZW x cy g S16 ++ va_pl L (pf cy K cf nm S16)) := by rw [eS16]; rw [← pu_0_5 mar1.2]; exact hD
      have hT : WT L K S16.2 := by rw [eS16]; exact WT_up hT 5 ar1 rok_none
      refine lv_aload_n hx hb dX9_bring_51 rfl (lv_at hl 1 rfl) ?_
      refine lv_aload_n hx hb dX9_bring_52 rfl (lv_at hl 2 rfl) ?_
      refine pg_put (D := D) (ci := 0) (v := .ref b1) (ty := (.object "FondsRoom$Reader")) (C := RX0) (T := TX0) (N := 6) hx hb hts iX9_bring_0 tyX0 tyX0_ok nmX0 hown hK hP hD hS mar1.1 (pf_0 mar1.2) rfl 4 (by decide) (hts (.fieldLink RX9 239 "FondsRoom$Box" "holder" "LFondsRoom$Reader;") (List.mem_of_getElem? (i := 7) rfl)) (fun _ h9 => h9) rfl (by decide +kernel) rfl rfl (Nat.le_of_ble_eq_true rfl) dX9_bring_53 (fun H locs hP hD hS => ?_)
      obtain ⟨S17, eS17⟩ : ∃ z, z = wq S16 4 ar1 (some b1) := ⟨_, rfl⟩
      replace hF := bnd_s hF S17 eS17
      have hP : va_P D vwCl (ZW x cy g S17 ++ va_pl L (pf cy K cf nm S17)) H := by rw [eS17]; rw [← pu_0_4 mar1.2]; exact hP
      have hD : va_D (va_A (ZW x cy g S0 ++ va_pl L (pf cy K cf nm S0)) s.heap.size) (ZW x cy g S17 ++ va_pl L (pf cy K cf nm S17)) := by rw [eS17]; rw [← pu_0_4 mar1.2]; exact hD
      have hT : WT L K S17.2 := by rw [eS17]; exact WT_up hT 4 ar1 (rok_some mb1.1 mb1.2)
      refine lv_aload_n hx hb dX9_bring_56 rfl (lv_at hl 1 rfl) ?_
      refine lv_iconst (v := 1) hx hb dX9_bring_57 (by decide) ?_
      refine pg_put (D := D) (ci := 0) (v := .int 1) (ty := .int) (C := RX0) (T := TX0) (N := 6) hx hb hts iX9_bring_0 tyX0 tyX0_ok nmX0 hown hK hP hD hS mar1.1 (pf_0 mar1.2) rfl 3 (by decide) (hts (.fieldLink RX9 233 "FondsRoom$Box" "place" "I") (List.mem_of_getElem? (i := 1) rfl)) (fun _ h9 => h9) rfl (by decide +kernel) rfl rfl (Nat.le_of_ble_eq_true rfl) dX9_bring_58 (fun H locs hP hD hS => ?_)
      obtain ⟨S18, eS18⟩ : ∃ z, z = wi S17 3 ar1 1 := ⟨_, rfl⟩
      replace hF := bnd_s hF S18 eS18
      have hP : va_P D vwCl (ZW x cy g S18 ++ va_pl L (pf cy K cf nm S18)) H := by rw [eS18]; rw [← pu_0_3 mar1.2]; exact hP
      have hD : va_D (va_A (ZW x cy g S0 ++ va_pl L (pf cy K cf nm S0)) s.heap.size) (ZW x cy g S18 ++ va_pl L (pf cy K cf nm S18)) := by rw [eS18]; rw [← pu_0_3 mar1.2]; exact hD
      have hT : WT L K S18.2 := by rw [eS18]; exact hT
      refine lv_aload_n hx hb dX9_bring_61 rfl (lv_at hl 2 rfl) ?_
      refine lv_null hx hb dX9_bring_62 ?_
      refine pg_put (D := D) (ci := 6) (v := .null) (ty := (.object "FondsRoom$Box")) (C := RX6) (T := TX6) (N := 17) hx hb hts iX9_bring_6 tyX6 tyX6_ok nmX6 hown hK hP hD hS mb1.1 (pf_6 mb1.2) rfl 8 (by decide) (hts (.fieldLink RX9 267 "FondsRoom$Reader" "awaited" "LFondsRoom$Box;") (List.mem_of_getElem? (i := 8) rfl)) (fun _ h9 => h9) rfl (by decide +kernel) rfl rfl (Nat.le_of_ble_eq_true rfl) dX9_bring_63 (fun H locs hP hD hS => ?_)
      obtain ⟨S19, eS19⟩ : ∃ z, z = wq S18 128 b1 none := ⟨_, rfl⟩
      replace hF := bnd_s hF S19 eS19
      have hP : va_P D vwCl (ZW x cy g S19 ++ va_pl L (pf cy K cf nm S19)) H := by rw [eS19]; rw [← pu_6_8 mb1.2]; exact hP
      have hD : va_D (va_A (ZW x cy g S0 ++ va_pl L (pf cy K cf nm S0)) s.heap.size) (ZW x cy g S19 ++ va_pl L (pf cy K cf nm S19)) := by rw [eS19]; rw [← pu_6_8 mb1.2]; exact hD
      have hT : WT L K S19.2 := by rw [eS19]; exact WT_up hT 128 b1 rok_none
      refine lv_aload_n hx hb dX9_bring_66 rfl (lv_at hl 2 rfl) ?_
      refine lv_bipush (v := 8) hx hb dX9_bring_67 (by decide) ?_
      refine pg_put (D := D) (ci := 6) (v := .int 8) (ty := .int) (C := RX6) (T := TX6) (N := 17) hx hb hts iX9_bring_6 tyX6 tyX6_ok nmX6 hown hK hP hD hS mb1.1 (pf_6 mb1.2) rfl 5 (by decide) (hts (.fieldLink RX9 270 "FondsRoom$Reader" "state" "I") (List.mem_of_getElem? (i := 9) rfl)) (fun _ h9 => h9) rfl (by decide +kernel) rfl rfl (Nat.le_of_ble_eq_true rfl) dX9_bring_69 (fun H locs hP hD hS => ?_)
      obtain ⟨S20, eS20⟩ : ∃ z, z = wi S19 125 b1 8 := ⟨_, rfl⟩
      replace hF := bnd_s hF S20 eS20
      have hP : va_P D vwCl (ZW x cy g S20 ++ va_pl L (pf cy K cf nm S20)) H := by rw [eS20]; rw [← pu_6_5 mb1.2]; exact hP
      have hD : va_D (va_A (ZW x cy g S0 ++ va_pl L (pf cy K cf nm S0)) s.heap.size) (ZW x cy g S20 ++ va_pl L (pf cy K cf nm S20)) := by rw [eS20]; rw [← pu_6_5 mb1.2]; exact hD
      have hT : WT L K S20.2 := by rw [eS20]; exact hT
      refine lv_aload_n hx hb dX9_bring_72 rfl (lv_at hl 0 rfl) ?_
      refine va_get (D := D) (ci := 9) (v := .ref (x 18)) (C := RX9) (T := TX9) (N := 19) hx hb hts iX9_bring_9 hown hK hP 0 rfl rfl 9 (by decide) (hts (.fieldLink RX9 67 "FondsRoom" "events" "LFondsRoom$Events;") (List.mem_of_getElem? (i := 2) rfl)) (fun _ h9 => h9) rfl dX9_bring_73 ?_
      refine lv_aload_n hx hb dX9_bring_76 rfl (lv_at hl 0 rfl) ?_
      refine va_get (D := D) (ci := 9) (v := .int (S20.1 200 4)) (C := RX9) (T := TX9) (N := 19) hx hb hts iX9_bring_9 hown hK hP 0 rfl rfl 14 (by decide) (hts (.fieldLink RX9 78 "FondsRoom" "turn" "I") (List.mem_of_getElem? (i := 3) rfl)) (fun _ h9 => h9) rfl dX9_bring_77 ?_
      refine lv_aload_n hx hb dX9_bring_80 rfl (lv_at hl 2 rfl) ?_
      refine pg_get (D := D) (ci := 6) (v := .int (nm b1)) (C := RX6) (T := TX6) (N := 17) hx hb hts iX9_bring_6 hown hK hP mb1.1 (pf_6 mb1.2) rfl 0 (by decide) (hts (.fieldLink RX9 273 "FondsRoom$Reader" "number" "I") (List.mem_of_getElem? (i := 10) rfl)) (fun _ h9 => h9) rfl dX9_bring_81 ?_
      refine lv_iconst (v := 5) hx hb dX9_bring_84 (by decide) ?_
      refine lv_aload_n hx hb dX9_bring_85 rfl (lv_at hl 1 rfl) ?_
      refine pg_get (D := D) (ci := 0) (v := .int (nm ar1)) (C := RX0) (T := TX0) (N := 6) hx hb hts iX9_bring_0 hown hK hP mar1.1 (pf_0 mar1.2) rfl 0 (by decide) (hts (.fieldLink RX9 253 "FondsRoom$Box" "number" "I") (List.mem_of_getElem? (i := 4) rfl)) (fun _ h9 => h9) rfl dX9_bring_86 ?_
      obtain ⟨S22, hq24, hF⟩ := bd1_s hF
      refine gvV (As := [.int (S20.1 200 4), .int (nm b1), .int 5, .int (nm ar1)]) (rest := []) ⟨hx, hb, hml, hown, hts⟩ (zX2_keep l D x cy g L K cf nm hG hL S20 hT _ (S20.1 200 4) (nm b1) 5 (nm ar1)  S22 hq24) (cwV 4 hts gX9_bring_X2_keep rfl rfl rfl (by decide +kernel) ⟨Nat.le_of_ble_eq_true rfl, Nat.le_of_ble_eq_true rfl⟩) hK hP hD hS hA (va_recv hK hP (ci := 2) (q0 := 18) rfl rfl) rfl hl.1 rfl (Nat.le_of_ble_eq_true rfl) dX9_bring_89 ⟨Nat.le_of_ble_eq_true rfl, Nat.le_of_ble_eq_true rfl⟩ (fun u9 H locs hw23 hP hD hS => ?_)
      have hT : WT L K S22.2 := hw23
      have hP : va_P D vwCl (ZW x cy g S22 ++ va_pl L (pf cy K cf nm S22)) H := hP
      have hD : va_D _ (ZW x cy g S22 ++ va_pl L (pf cy K cf nm S22)) := hD
      refine lv_goto (tgt := 100) hx hb dX9_bring_92 (by decide) ?_
      have e2 := Option.some.inj hF
      have hP : va_P D vwCl (ZW x cy g Sf ++ va_pl L (pf cy K cf nm Sf)) H := by rw [← e2]; exact hP
      have hD : va_D (va_A (ZW x cy g S0 ++ va_pl L (pf cy K cf nm S0)) s.heap.size) (ZW x cy g Sf ++ va_pl L (pf cy K cf nm Sf)) := by rw [← e2]; exact hD
      have hT : WT L K Sf.2 := by rw [← e2]; exact hT
      exact W.vret hx hb hr (fun t ht hW => ⟨⟨(), rfl, hT, by rw [ht]; exact hP, va_K.moved hW.alike hK, hD⟩, hS.F ht⟩) hS.2.2 dX9_bring_100

theorem iX9_fetchersWalk_7 : ∀ w ∈ wsX70, w ∈ wsX9_fetchersWalk := fun _ h => List.mem_cons_of_mem _ (List.mem_append_left _ (List.mem_append_left _ (List.mem_append_left _ (List.mem_append_left _ (List.mem_append_left _ (List.mem_append_right _ h))))))
theorem iX9_fetchersWalk_8 : ∀ w ∈ wsX80, w ∈ wsX9_fetchersWalk := fun _ h => List.mem_cons_of_mem _ (List.mem_append_left _ (List.mem_append_left _ (List.mem_append_left _ (List.mem_append_left _ (List.mem_append_right _ h)))))
theorem iX9_fetchersWalk_9 : ∀ w ∈ wsX90, w ∈ wsX9_fetchersWalk := fun _ h => List.mem_cons_of_mem _ (List.mem_append_left _ (List.mem_append_left _ (List.mem_append_left _ (List.mem_append_left _ (List.mem_append_left _ (List.mem_append_left _ (List.mem_append_right _ h)))))))
set_option maxHeartbeats 8000000 in
set_option maxRecDepth 100000 in
theorem zX9_fetchersWalk (l : Launch) (D : va_G) (x : Nat → Nat) (cy : Nat → ClassId) (g : Nat → Nat → Option Nat) (L : List Nat) (K : Nat → Nat) (cf : Nat → Nat → Nat) (nm : Nat → Int32) (hG : GO L K g) (hL : PL L K cf) (S0 : CS) (hT : WT L K S0.2) (sz : Nat)   (Sf : CS) (hF : gX9_fetchersWalk g cf nm S0  = some Sf) : Met l yX9_fetchersWalk wsX9_fetchersWalk ({ frames := 2, cells := 0, slots := 0, locals := 47 }) (PW D (TYS cy) (ZW x cy g S0 ++ va_pl L (pf cy K cf nm S0)) sz [.ref (x 0)]) (va_Qv (fun (u : Unit) => WT L K Sf.2) (BU D (TYS cy) (ZW x cy g S0 ++ va_pl L (pf cy K cf nm S0)) (fun _ => ZW x cy g Sf ++ va_pl L (pf cy K cf nm Sf)) sz) (va_A (ZW x cy g S0 ++ va_pl L (pf cy K cf nm S0)) sz)) 0 0 (va_A (ZW x cy g S0 ++ va_pl L (pf cy K cf nm S0)) sz) := by
  refine Met.ofW (cc := cX9_fetchersWalk) (maxL := 4) (ret := none) (by decide) rfl ?_
  intro p e s m args below meth c s₁ B hml hv
  obtain ⟨rfl, hsz, hP, hK, hD0⟩ := hv
  have hx := B.exec
  have hb := B.bytes
  have hr := B.returns
  have hts := atoms_spec (ws := wsX9_fetchersWalk) B.pre
  have hown : s.vm.findClass RX9 = some m.cls := findClass_of_methodNamed B.named
  have hlocks := B.notSynchronized
  subst hsz
  have hD := hD0.self (sz := s.heap.size)
  have hA : ∀ q9 : Nat, s.heap.size ≤ q9 → va_A (ZW x cy g S0 ++ va_pl L (pf cy K cf nm S0)) s.heap.size q9 := fun q9 h => Or.inr h
  have hS : va_S (va_A (ZW x cy g S0 ++ va_pl L (pf cy K cf nm S0)) s.heap.size) s.heap s.heap [] := va_S.rf
  have key2 : ∀ (KK : CS → Option (CS)), (∀  (S : CS) (H : Heap) (locs : List Loc) (ls : Array Slot), KK  S = some Sf → WT L K S.2 → va_P D vwCl (ZW x cy g S ++ va_pl L (pf cy K cf nm S)) H → va_D (va_A (ZW x cy g S0 ++ va_pl L (pf cy K cf nm S0)) s.heap.size) (ZW x cy g S ++ va_pl L (pf cy K cf nm S)) → va_S (va_A (ZW x cy g S0 ++ va_pl L (pf cy K cf nm S0)) s.heap.size) s.heap H locs → lv_has ls 4 [] → W p l e (headSpec wsX9_fetchersWalk ({ frames := 2, cells := 0, slots := 0, locals := 47 })).room s m #[.ref (x 0)] below meth c H locs 0 0 (MQ below (va_Qv (fun (u : Unit) => WT L K Sf.2) (BU D (TYS cy) (ZW x cy g S0 ++ va_pl L (pf cy K cf nm S0)) (fun _ => ZW x cy g Sf ++ va_pl L (pf cy K cf nm Sf)) s.heap.size) (va_A (ZW x cy g S0 ++ va_pl L (pf cy K cf nm S0)) s.heap.size)) #[.ref (x 0)] s 0 0 (va_A (ZW x cy g S0 ++ va_pl L (pf cy K cf nm S0)) s.heap.size)) (F0 m 71 ls [])) → ∀ (fu : Nat) (v1 : Int32) (S : CS) (H : Heap) (locs : List Loc) (ls : Array Slot), gX9_fetchersWalk_2 g cf nm KK fu v1 S = some Sf → WT L K S.2 → va_P D vwCl (ZW x cy g S ++ va_pl L (pf cy K cf nm S)) H → va_D (va_A (ZW x cy g S0 ++ va_pl L (pf cy K cf nm S0)) s.heap.size) (ZW x cy g S ++ va_pl L (pf cy K cf nm S)) → va_S (va_A (ZW x cy g S0 ++ va_pl L (pf cy K cf nm S0)) s.heap.size) s.heap H locs → lv_has ls 4 [(1, .int v1), (0, .ref (x 0))] → W p l e (headSpec wsX9_fetchersWalk ({ frames := 2, cells := 0, slots := 0, locals := 47 })).room s m #[.ref (x 0)] below meth c H locs 0 0 (MQ below (va_Qv (fun (u : Unit) => WT L K Sf.2) (BU D (TYS cy) (ZW x cy g S0 ++ va_pl L (pf cy K cf nm S0)) (fun _ => ZW x cy g Sf ++ va_pl L (pf cy K cf nm Sf)) s.heap.size) (va_A (ZW x cy g S0 ++ va_pl L (pf cy K cf nm S0)) s.heap.size)) #[.ref (x 0)] s 0 0 (va_A (ZW x cy g S0 ++ va_pl L (pf cy K cf nm S0)) s.heap.size)) (F0 m 2 ls []) := by
    intro KK hKK fu
    induction fu with
    | zero =>
      intro v1 S H locs ls hF
      exact absurd (show (none : Option (CS)) = some Sf from hF) (by simp)
    | succ fu2 ih2 =>
      intro v1 S H locs ls hF hT hP hD hS hl
      rw [gX9_fetchersWalk_2] at hF
      refine lv_iload_n hx hb dX9_fetchersWalk_2 rfl (lv_at hl 0 rfl) ?_
      refine lv_aload_n hx hb dX9_fetchersWalk_3 rfl (lv_at hl 1 rfl) ?_
      refine va_get (D := D) (ci := 9) (v := .ref (x 4)) (C := RX9) (T := TX9) (N := 19) hx hb hts iX9_fetchersWalk_9 hown hK hP 0 rfl rfl 3 (by decide) (hts (.fieldLink RX9 37 "FondsRoom" "fetchers" "LFondsRoom$Staff;") (List.mem_of_getElem? (i := 1) rfl)) (fun _ h9 => h9) rfl dX9_fetchersWalk_4 ?_
      refine va_get (D := D) (ci := 7) (v := .int (S.1 200 9)) (C := RX7) (T := TX7) (N := 2) hx hb hts iX9_fetchersWalk_7 hown hK hP 4 rfl rfl 1 (by decide) (hts (.fieldLink RX9 101 "FondsRoom$Staff" "hired" "I") (List.mem_of_getElem? (i := 2) rfl)) (fun _ h9 => h9) rfl dX9_fetchersWalk_7 ?_
      refine lv_icmp_ge (tgt := 71) hx hb dX9_fetchersWalk_10 (by decide) (fun c1 => ?_) (fun c1 => ?_)
      · skip
        have hF := (if_pos c1).symm.trans hF
        exact hKK  S _ _ _ hF hT hP hD hS (lv_sub hl [] rfl)
      · skip
        have hF := (if_neg c1).symm.trans hF
        refine lv_aload_n hx hb dX9_fetchersWalk_13 rfl (lv_at hl 1 rfl) ?_
        refine va_get (D := D) (ci := 9) (v := .ref (x 4)) (C := RX9) (T := TX9) (N := 19) hx hb hts iX9_fetchersWalk_9 hown hK hP 0 rfl rfl 3 (by decide) (hts (.fieldLink RX9 37 "FondsRoom" "fetchers" "LFondsRoom$Staff;") (List.mem_of_getElem? (i := 1) rfl)) (fun _ h9 => h9) rfl dX9_fetchersWalk_14 ?_
        refine va_get (D := D) (ci := 7) (v := .ref (x 5)) (C := RX7) (T := TX7) (N := 2) hx hb hts iX9_fetchersWalk_7 hown hK hP 4 rfl rfl 0 (by decide) (hts (.fieldLink RX9 216 "FondsRoom$Staff" "workers" "[LFondsRoom$Worker;") (List.mem_of_getElem? (i := 3) rfl)) (fun _ h9 => h9) rfl dX9_fetchersWalk_17 ?_
        refine lv_iload_n hx hb dX9_fetchersWalk_20 rfl (lv_at hl 0 rfl) ?_
        obtain ⟨hi2, b3, eb3, hF⟩ := ga_s hF
        refine va_aldq hx hb hK hP 5 5 rfl rfl hi2 dX9_fetchersWalk_21 ?_
        refine lv_tov (v' := .ref b3) (by rw [eb3]; rfl) ?_
        have mb3 := GO_3 hG hi2 eb3
        refine lv_astore_n (lv' := [(2, .ref b3), (1, .int v1), (0, .ref (x 0))]) hx hb dX9_fetchersWalk_22 rfl hl (by decide) rfl (fun ls hl => ?_)
        refine lv_aload_n hx hb dX9_fetchersWalk_23 rfl (lv_at hl 0 rfl) ?_
        refine pg_get (D := D) (ci := 8) (v := va_rf (S.2 160 b3)) (C := RX8) (T := TX8) (N := 3) hx hb hts iX9_fetchersWalk_8 hown hK hP mb3.1 (pf_8 mb3.2) rfl 0 (by decide) (hts (.fieldLink RX9 227 "FondsRoom$Worker" "box" "LFondsRoom$Box;") (List.mem_of_getElem? (i := 4) rfl)) (fun _ h9 => h9) rfl dX9_fetchersWalk_24 ?_
        obtain ⟨q4, eq4⟩ : ∃ z, z = S.2 160 b3 := ⟨_, rfl⟩
        replace hF := bnd_s hF q4 eq4
        have hq4 : rok L K 0 q4 := by rw [eq4]; exact hT 160 b3
        refine lv_tov (v' := va_rf q4) (by rw [eq4]) ?_
        refine lq_astore_n (lv' := [(3, va_rf q4), (2, .ref b3), (1, .int v1), (0, .ref (x 0))]) hx hb dX9_fetchersWalk_27 rfl hl (by decide) rfl (fun ls hl => ?_)
        refine lq_aload_n hx hb dX9_fetchersWalk_28 rfl (lv_at hl 0 rfl) ?_
        rcases eb5 : q4 with _ | b5
        · skip
          subst eb5
          replace hF := oc_n hF
          have hl : lv_has ls 4 [(3, .null), (2, .ref b3), (1, .int v1), (0, .ref (x 0))] := hl
          refine W.eq (g2 := F0 m 29 ls [.null]) rfl ?_
          refine lv_ifnonnullN hx hb dX9_fetchersWalk_29 ?_
          refine lv_goto (tgt := 65) hx hb dX9_fetchersWalk_32 (by decide) ?_
          refine lv_iinc (v := v1 + 1) (lv' := [(1, .int (v1 + 1)), (3, .null), (2, .ref b3), (0, .ref (x 0))]) hx hb dX9_fetchersWalk_65 hl (k := 2) rfl rfl (by decide) rfl (fun ls hl => ?_)
          refine lv_goto (tgt := 2) hx hb dX9_fetchersWalk_68 (by decide) ?_
          exact ih2 (v1 + 1) S _ _ _ hF hT hP hD hS (lv_sub hl [0, 3] rfl)
        · skip
          subst eb5
          replace hF := oc_b hF
          have mb5 := hq4 b5 rfl
          have hl : lv_has ls 4 [(3, .ref b5), (2, .ref b3), (1, .int v1), (0, .ref (x 0))] := hl
          refine W.eq (g2 := F0 m 29 ls [.ref b5]) rfl ?_
          refine lv_ifnonnull (tgt := 35) hx hb dX9_fetchersWalk_29 (by decide) ?_
          refine lv_aload_n hx hb dX9_fetchersWalk_35 rfl (lv_at hl 1 rfl) ?_
          refine lv_dup hx hb dX9_fetchersWalk_36 rfl ?_
          refine pg_get (D := D) (ci := 8) (v := .int (S.1 162 b3)) (C := RX8) (T := TX8) (N := 3) hx hb hts iX9_fetchersWalk_8 hown hK hP mb3.1 (pf_8 mb3.2) rfl 2 (by decide) (hts (.fieldLink RX9 243 "FondsRoom$Worker" "left" "I") (List.mem_of_getElem? (i := 5) rfl)) (fun _ h9 => h9) rfl dX9_fetchersWalk_37 ?_
          refine lv_iconst (v := 1) hx hb dX9_fetchersWalk_40 (by decide) ?_
          refine lv_isub hx hb dX9_fetchersWalk_41 ?_
          refine pg_put (D := D) (ci := 8) (v := .int ((S.1 162 b3) - 1)) (ty := .int) (C := RX8) (T := TX8) (N := 3) hx hb hts iX9_fetchersWalk_8 tyX8 tyX8_ok nmX8 hown hK hP hD hS mb3.1 (pf_8 mb3.2) rfl 2 (by decide) (hts (.fieldLink RX9 243 "FondsRoom$Worker" "left" "I") (List.mem_of_getElem? (i := 5) rfl)) (fun _ h9 => h9) rfl (by decide +kernel) rfl rfl (Nat.le_of_ble_eq_true rfl) dX9_fetchersWalk_42 (fun H locs hP hD hS => ?_)
          obtain ⟨S6, eS6⟩ : ∃ z, z = wi S 162 b3 ((S.1 162 b3) - 1) := ⟨_, rfl⟩
          replace hF := bnd_s hF S6 eS6
          have hP : va_P D vwCl (ZW x cy g S6 ++ va_pl L (pf cy K cf nm S6)) H := by rw [eS6]; rw [← pu_8_2 mb3.2]; exact hP
          have hD : va_D (va_A (ZW x cy g S0 ++ va_pl L (pf cy K cf nm S0)) s.heap.size) (ZW x cy g S6 ++ va_pl L (pf cy K cf nm S6)) := by rw [eS6]; rw [← pu_8_2 mb3.2]; exact hD
          have hT : WT L K S6.2 := by rw [eS6]; exact hT
          refine lv_aload_n hx hb dX9_fetchersWalk_45 rfl (lv_at hl 1 rfl) ?_
          refine pg_get (D := D) (ci := 8) (v := .int (S6.1 162 b3)) (C := RX8) (T := TX8) (N := 3) hx hb hts iX9_fetchersWalk_8 hown hK hP mb3.1 (pf_8 mb3.2) rfl 2 (by decide) (hts (.fieldLink RX9 243 "FondsRoom$Worker" "left" "I") (List.mem_of_getElem? (i := 5) rfl)) (fun _ h9 => h9) rfl dX9_fetchersWalk_46 ?_
          refine lv_if_gt (tgt := 65) hx hb dX9_fetchersWalk_49 (by decide) (fun c7 => ?_) (fun c7 => ?_)
          · skip
            have hF := (if_pos c7).symm.trans hF
            refine lv_iinc (v := v1 + 1) (lv' := [(1, .int (v1 + 1)), (3, .ref b5), (2, .ref b3), (0, .ref (x 0))]) hx hb dX9_fetchersWalk_65 hl (k := 2) rfl rfl (by decide) rfl (fun ls hl => ?_)
            refine lv_goto (tgt := 2) hx hb dX9_fetchersWalk_68 (by decide) ?_
            exact ih2 (v1 + 1) S6 _ _ _ hF hT hP hD hS (lv_sub hl [0, 3] rfl)
          · skip
            have hF := (if_neg c7).symm.trans hF
            refine lv_aload_n hx hb dX9_fetchersWalk_52 rfl (lv_at hl 3 rfl) ?_
            refine lv_aload_n hx hb dX9_fetchersWalk_53 rfl (lv_at hl 0 rfl) ?_
            refine lv_aload_n hx hb dX9_fetchersWalk_54 rfl (lv_at hl 1 rfl) ?_
            refine pg_get (D := D) (ci := 8) (v := va_rf (S6.2 161 b3)) (C := RX8) (T := TX8) (N := 3) hx hb hts iX9_fetchersWalk_8 hown hK hP mb3.1 (pf_8 mb3.2) rfl 1 (by decide) (hts (.fieldLink RX9 246 "FondsRoom$Worker" "goal" "LFondsRoom$Reader;") (List.mem_of_getElem? (i := 6) rfl)) (fun _ h9 => h9) rfl dX9_fetchersWalk_55 ?_
            obtain ⟨q8, eq8⟩ : ∃ z, z = S6.2 161 b3 := ⟨_, rfl⟩
            replace hF := bnd_s hF q8 eq8
            have hq8 : rok L K 6 q8 := by rw [eq8]; exact hT 161 b3
            refine lv_tov (v' := va_rf q8) (by rw [eq8]) ?_
            obtain ⟨S10, hq12, hF⟩ := bd1_s hF
            refine gvV (As := [.ref b5, va_rf q8]) (rest := []) ⟨hx, hb, hml, hown, hts⟩ (zX9_bring l D x cy g L K cf nm hG hL S6 hT _ b5 q8 ⟨mb5.1, mb5.2⟩ hq8 S10 hq12) (cwV 2 hts gX9_fetchersWalk_X9_bring rfl rfl rfl (by decide +kernel) ⟨Nat.le_of_ble_eq_true rfl, Nat.le_of_ble_eq_true rfl⟩) hK hP hD hS hA (va_recv hK hP (ci := 9) (q0 := 0) rfl rfl) rfl hl.1 rfl (Nat.le_of_ble_eq_true rfl) dX9_fetchersWalk_58 ⟨Nat.le_of_ble_eq_true rfl, Nat.le_of_ble_eq_true rfl⟩ (fun u9 H locs hw11 hP hD hS => ?_)
            have hT : WT L K S10.2 := hw11
            have hP : va_P D vwCl (ZW x cy g S10 ++ va_pl L (pf cy K cf nm S10)) H := hP
            have hD : va_D _ (ZW x cy g S10 ++ va_pl L (pf cy K cf nm S10)) := hD
            refine lv_aload_n hx hb dX9_fetchersWalk_61 rfl (lv_at hl 1 rfl) ?_
            obtain ⟨S15, hq17, hF⟩ := bd1_s hF
            refine gvV (As := []) (rest := []) ⟨hx, hb, hml, hown, hts⟩ (zX8_release l D x cy g L K cf nm hG hL S10 hT _ b3 ⟨mb3.1, mb3.2⟩ S15 hq17) (cwV 0 hts gX9_fetchersWalk_X8_release rfl rfl rfl (by decide +kernel) ⟨Nat.le_of_ble_eq_true rfl, Nat.le_of_ble_eq_true rfl⟩) hK hP hD hS hA (pl_recv hK hP (ci := 8) rfl mb3.1 (pf_8 mb3.2)) rfl hl.1 rfl (Nat.le_of_ble_eq_true rfl) dX9_fetchersWalk_62 ⟨Nat.le_of_ble_eq_true rfl, Nat.le_of_ble_eq_true rfl⟩ (fun u9 H locs hw16 hP hD hS => ?_)
            have hT : WT L K S15.2 := hw16
            have hP : va_P D vwCl (ZW x cy g S15 ++ va_pl L (pf cy K cf nm S15)) H := hP
            have hD : va_D _ (ZW x cy g S15 ++ va_pl L (pf cy K cf nm S15)) := hD
            refine lv_iinc (v := v1 + 1) (lv' := [(1, .int (v1 + 1)), (3, .ref b5), (2, .ref b3), (0, .ref (x 0))]) hx hb dX9_fetchersWalk_65 hl (k := 2) rfl rfl (by decide) rfl (fun ls hl => ?_)
            refine lv_goto (tgt := 2) hx hb dX9_fetchersWalk_68 (by decide) ?_
            exact ih2 (v1 + 1) S15 _ _ _ hF hT hP hD hS (lv_sub hl [0, 3] rfl)
  have hl := lv_entry ([.ref (x 0)]) (n := 4) (Nat.le_of_ble_eq_true rfl)
  rw [lg_entry_eq]
  generalize (lg_sl ([.ref (x 0)]) ++ List.replicate (4 - (lg_sl ([.ref (x 0)])).length) Slot.unset).toArray = ls at hl ⊢
  have hl : lv_has ls 4 [(0, .ref (x 0))] := hl
  unfold gX9_fetchersWalk at hF
  refine lv_iconst (v := 0) hx hb dX9_fetchersWalk_0 (by decide) ?_
  refine lv_istore_n (lv' := [(1, .int 0), (0, .ref (x 0))]) hx hb dX9_fetchersWalk_1 rfl hl (by decide) rfl (fun ls hl => ?_)
  refine key2 _ ?_ 1000 0 S0 _ _ _ hF hT hP hD hS (lv_sub hl [0, 1] rfl)
  intro S19 H locs ls hF hT hP hD hS hl
  have e2 := Option.some.inj hF
  have hP : va_P D vwCl (ZW x cy g Sf ++ va_pl L (pf cy K cf nm Sf)) H := by rw [← e2]; exact hP
  have hD : va_D (va_A (ZW x cy g S0 ++ va_pl L (pf cy K cf nm S0)) s.heap.size) (ZW x cy g Sf ++ va_pl L (pf cy K cf nm Sf)) := by rw [← e2]; exact hD
  have hT : WT L K Sf.2 := by rw [← e2]; exact hT
  exact W.vret hx hb hr (fun t ht hW => ⟨⟨(), rfl, hT, by rw [ht]; exact hP, va_K.moved hW.alike hK, hD⟩, hS.F ht⟩) hS.2.2 dX9_fetchersWalk_71

theorem iX9_finishCopy_0 : ∀ w ∈ wsX00, w ∈ wsX9_finishCopy := fun _ h => List.mem_cons_of_mem _ (List.mem_append_left _ (List.mem_append_left _ (List.mem_append_left _ (List.mem_append_right _ h))))
theorem iX9_finishCopy_6 : ∀ w ∈ wsX60, w ∈ wsX9_finishCopy := fun _ h => List.mem_cons_of_mem _ (List.mem_append_left _ (List.mem_append_left _ (List.mem_append_right _ h)))
theorem iX9_finishCopy_9 : ∀ w ∈ wsX90, w ∈ wsX9_finishCopy := fun _ h => List.mem_cons_of_mem _ (List.mem_append_left _ (List.mem_append_left _ (List.mem_append_left _ (List.mem_append_left _ (List.mem_append_right _ h)))))
set_option maxHeartbeats 8000000 in
set_option maxRecDepth 100000 in
theorem zX9_finishCopy (l : Launch) (D : va_G) (x : Nat → Nat) (cy : Nat → ClassId) (g : Nat → Nat → Option Nat) (L : List Nat) (K : Nat → Nat) (cf : Nat → Nat → Nat) (nm : Nat → Int32) (hG : GO L K g) (hL : PL L K cf) (S0 : CS) (hT : WT L K S0.2) (sz : Nat) (ar1 : Nat) (mar1 : ar1 ∈ L ∧ K ar1 = 0) (Sf : CS) (hF : gX9_finishCopy g cf nm S0 ar1 = some Sf) : Met l yX9_finishCopy wsX9_finishCopy ({ frames := 1, cells := 0, slots := 0, locals := 25 }) (PW D (TYS cy) (ZW x cy g S0 ++ va_pl L (pf cy K cf nm S0)) sz [.ref (x 0), .ref ar1]) (va_Qv (fun (u : Unit) => WT L K Sf.2) (BU D (TYS cy) (ZW x cy g S0 ++ va_pl L (pf cy K cf nm S0)) (fun _ => ZW x cy g Sf ++ va_pl L (pf cy K cf nm Sf)) sz) (va_A (ZW x cy g S0 ++ va_pl L (pf cy K cf nm S0)) sz)) 0 0 (va_A (ZW x cy g S0 ++ va_pl L (pf cy K cf nm S0)) sz) := by
  refine Met.ofW (cc := cX9_finishCopy) (maxL := 3) (ret := none) (by decide) rfl ?_
  intro p e s m args below meth c s₁ B hml hv
  obtain ⟨rfl, hsz, hP, hK, hD0⟩ := hv
  have hx := B.exec
  have hb := B.bytes
  have hr := B.returns
  have hts := atoms_spec (ws := wsX9_finishCopy) B.pre
  have hown : s.vm.findClass RX9 = some m.cls := findClass_of_methodNamed B.named
  have hlocks := B.notSynchronized
  subst hsz
  have hD := hD0.self (sz := s.heap.size)
  have hA : ∀ q9 : Nat, s.heap.size ≤ q9 → va_A (ZW x cy g S0 ++ va_pl L (pf cy K cf nm S0)) s.heap.size q9 := fun q9 h => Or.inr h
  have hS : va_S (va_A (ZW x cy g S0 ++ va_pl L (pf cy K cf nm S0)) s.heap.size) s.heap s.heap [] := va_S.rf
  have hl := lv_entry ([.ref (x 0), .ref ar1]) (n := 3) (Nat.le_of_ble_eq_true rfl)
  rw [lg_entry_eq]
  generalize (lg_sl ([.ref (x 0), .ref ar1]) ++ List.replicate (3 - (lg_sl ([.ref (x 0), .ref ar1])).length) Slot.unset).toArray = ls at hl ⊢
  have hl : lv_has ls 3 [(0, .ref (x 0)), (1, .ref ar1)] := hl
  unfold gX9_finishCopy at hF
  refine lv_aload_n hx hb dX9_finishCopy_0 rfl (lv_at hl 0 rfl) ?_
  refine lv_dup hx hb dX9_finishCopy_1 rfl ?_
  refine va_get (D := D) (ci := 9) (v := .int (S0.1 200 6)) (C := RX9) (T := TX9) (N := 19) hx hb hts iX9_finishCopy_9 hown hK hP 0 rfl rfl 16 (by decide) (hts (.fieldLink RX9 278 "FondsRoom" "copiesMade" "I") (List.mem_of_getElem? (i := 1) rfl)) (fun _ h9 => h9) rfl dX9_finishCopy_2 ?_
  refine lv_iconst (v := 1) hx hb dX9_finishCopy_5 (by decide) ?_
  refine lv_iadd hx hb dX9_finishCopy_6 ?_
  refine va_put (D := D) (ci := 9) (v := .int ((S0.1 200 6) + 1)) (ty := .int) (C := RX9) (T := TX9) (N := 19) hx hb hts iX9_finishCopy_9 tyX9 tyX9_ok nmX9 hown hK hP hD hS 0 rfl rfl 16 (by decide) (hts (.fieldLink RX9 278 "FondsRoom" "copiesMade" "I") (List.mem_of_getElem? (i := 1) rfl)) (fun _ h9 => h9) rfl (by decide +kernel) rfl rfl (Nat.le_of_ble_eq_true rfl) dX9_finishCopy_7 (fun H locs hP hD hS => ?_)
  obtain ⟨S1, eS1⟩ : ∃ z, z = wi S0 200 6 ((S0.1 200 6) + 1) := ⟨_, rfl⟩
  replace hF := bnd_s hF S1 eS1
  have hP : va_P D vwCl (ZW x cy g S1 ++ va_pl L (pf cy K cf nm S1)) H := by rw [eS1]; rw [show pf cy K cf nm (wi S0 200 6 ((S0.1 200 6) + 1)) = pf cy K cf nm S0 from pf_200]; exact hP
  have hD : va_D (va_A (ZW x cy g S0 ++ va_pl L (pf cy K cf nm S0)) s.heap.size) (ZW x cy g S1 ++ va_pl L (pf cy K cf nm S1)) := by rw [eS1]; rw [show pf cy K cf nm (wi S0 200 6 ((S0.1 200 6) + 1)) = pf cy K cf nm S0 from pf_200]; exact hD
  have hT : WT L K S1.2 := by rw [eS1]; exact hT
  refine lv_aload_n hx hb dX9_finishCopy_10 rfl (lv_at hl 1 rfl) ?_
  refine pg_get (D := D) (ci := 0) (v := va_rf (S1.2 4 ar1)) (C := RX0) (T := TX0) (N := 6) hx hb hts iX9_finishCopy_0 hown hK hP mar1.1 (pf_0 mar1.2) rfl 4 (by decide) (hts (.fieldLink RX9 239 "FondsRoom$Box" "holder" "LFondsRoom$Reader;") (List.mem_of_getElem? (i := 2) rfl)) (fun _ h9 => h9) rfl dX9_finishCopy_11 ?_
  obtain ⟨q2, eq2⟩ : ∃ z, z = S1.2 4 ar1 := ⟨_, rfl⟩
  replace hF := bnd_s hF q2 eq2
  have hq2 : rok L K 6 q2 := by rw [eq2]; exact hT 4 ar1
  refine lv_tov (v' := va_rf q2) (by rw [eq2]) ?_
  refine lq_astore_n (lv' := [(2, va_rf q2), (0, .ref (x 0)), (1, .ref ar1)]) hx hb dX9_finishCopy_14 rfl hl (by decide) rfl (fun ls hl => ?_)
  refine lq_aload_n hx hb dX9_finishCopy_15 rfl (lv_at hl 0 rfl) ?_
  rcases eb3 : q2 with _ | b3
  · skip
    subst eb3
    replace hF := oc_n hF
    have hl : lv_has ls 3 [(2, .null), (0, .ref (x 0)), (1, .ref ar1)] := hl
    refine W.eq (g2 := F0 m 16 ls [.null]) rfl ?_
    refine lv_ifnonnullN hx hb dX9_finishCopy_16 ?_
    refine lv_aload_n hx hb dX9_finishCopy_19 rfl (lv_at hl 2 rfl) ?_
    refine lv_iconst (v := 2) hx hb dX9_finishCopy_20 (by decide) ?_
    refine pg_put (D := D) (ci := 0) (v := .int 2) (ty := .int) (C := RX0) (T := TX0) (N := 6) hx hb hts iX9_finishCopy_0 tyX0 tyX0_ok nmX0 hown hK hP hD hS mar1.1 (pf_0 mar1.2) rfl 3 (by decide) (hts (.fieldLink RX9 233 "FondsRoom$Box" "place" "I") (List.mem_of_getElem? (i := 3) rfl)) (fun _ h9 => h9) rfl (by decide +kernel) rfl rfl (Nat.le_of_ble_eq_true rfl) dX9_finishCopy_21 (fun H locs hP hD hS => ?_)
    obtain ⟨S4, eS4⟩ : ∃ z, z = wi S1 3 ar1 2 := ⟨_, rfl⟩
    replace hF := bnd_s hF S4 eS4
    have hP : va_P D vwCl (ZW x cy g S4 ++ va_pl L (pf cy K cf nm S4)) H := by rw [eS4]; rw [← pu_0_3 mar1.2]; exact hP
    have hD : va_D (va_A (ZW x cy g S0 ++ va_pl L (pf cy K cf nm S0)) s.heap.size) (ZW x cy g S4 ++ va_pl L (pf cy K cf nm S4)) := by rw [eS4]; rw [← pu_0_3 mar1.2]; exact hD
    have hT : WT L K S4.2 := by rw [eS4]; exact hT
    have e2 := Option.some.inj hF
    have hP : va_P D vwCl (ZW x cy g Sf ++ va_pl L (pf cy K cf nm Sf)) H := by rw [← e2]; exact hP
    have hD : va_D (va_A (ZW x cy g S0 ++ va_pl L (pf cy K cf nm S0)) s.heap.size) (ZW x cy g Sf ++ va_pl L (pf cy K cf nm Sf)) := by rw [← e2]; exact hD
    have hT : WT L K Sf.2 := by rw [← e2]; exact hT
    exact W.vret hx hb hr (fun t ht hW => ⟨⟨(), rfl, hT, by rw [ht]; exact hP, va_K.moved hW.alike hK, hD⟩, hS.F ht⟩) hS.2.2 dX9_finishCopy_24
  · skip
    subst eb3
    replace hF := oc_b hF
    have mb3 := hq2 b3 rfl
    have hl : lv_has ls 3 [(2, .ref b3), (0, .ref (x 0)), (1, .ref ar1)] := hl
    refine W.eq (g2 := F0 m 16 ls [.ref b3]) rfl ?_
    refine lv_ifnonnull (tgt := 25) hx hb dX9_finishCopy_16 (by decide) ?_
    refine lv_aload_n hx hb dX9_finishCopy_25 rfl (lv_at hl 1 rfl) ?_
    refine va_get (D := D) (ci := 9) (v := .ref (x 12)) (C := RX9) (T := TX9) (N := 19) hx hb hts iX9_finishCopy_9 hown hK hP 0 rfl rfl 7 (by decide) (hts (.fieldLink RX9 54 "FondsRoom" "copyTickets" "LFondsRoom$Line;") (List.mem_of_getElem? (i := 4) rfl)) (fun _ h9 => h9) rfl dX9_finishCopy_26 ?_
    refine lv_aload_n hx hb dX9_finishCopy_29 rfl (lv_at hl 0 rfl) ?_
    obtain ⟨S6, hq8, hF⟩ := bd1_s hF
    refine gvV (As := [.ref b3]) (rest := []) ⟨hx, hb, hml, hown, hts⟩ (zX3_remove_2 l D x cy g L K cf nm hG hL S1 hT _ b3 ⟨mb3.1, mb3.2⟩ S6 hq8) (cwV 1 hts gX9_finishCopy_X3_remove rfl rfl rfl (by decide +kernel) ⟨Nat.le_of_ble_eq_true rfl, Nat.le_of_ble_eq_true rfl⟩) hK hP hD hS hA (va_recv hK hP (ci := 3) (q0 := 12) rfl rfl) rfl hl.1 rfl (Nat.le_of_ble_eq_true rfl) dX9_finishCopy_30 ⟨Nat.le_of_ble_eq_true rfl, Nat.le_of_ble_eq_true rfl⟩ (fun u9 H locs hw7 hP hD hS => ?_)
    have hT : WT L K S6.2 := hw7
    have hP : va_P D vwCl (ZW x cy g S6 ++ va_pl L (pf cy K cf nm S6)) H := hP
    have hD : va_D _ (ZW x cy g S6 ++ va_pl L (pf cy K cf nm S6)) := hD
    refine lv_aload_n hx hb dX9_finishCopy_33 rfl (lv_at hl 2 rfl) ?_
    refine lv_iconst (v := 1) hx hb dX9_finishCopy_34 (by decide) ?_
    refine pg_put (D := D) (ci := 0) (v := .int 1) (ty := .int) (C := RX0) (T := TX0) (N := 6) hx hb hts iX9_finishCopy_0 tyX0 tyX0_ok nmX0 hown hK hP hD hS mar1.1 (pf_0 mar1.2) rfl 3 (by decide) (hts (.fieldLink RX9 233 "FondsRoom$Box" "place" "I") (List.mem_of_getElem? (i := 3) rfl)) (fun _ h9 => h9) rfl (by decide +kernel) rfl rfl (Nat.le_of_ble_eq_true rfl) dX9_finishCopy_35 (fun H locs hP hD hS => ?_)
    obtain ⟨S10, eS10⟩ : ∃ z, z = wi S6 3 ar1 1 := ⟨_, rfl⟩
    replace hF := bnd_s hF S10 eS10
    have hP : va_P D vwCl (ZW x cy g S10 ++ va_pl L (pf cy K cf nm S10)) H := by rw [eS10]; rw [← pu_0_3 mar1.2]; exact hP
    have hD : va_D (va_A (ZW x cy g S0 ++ va_pl L (pf cy K cf nm S0)) s.heap.size) (ZW x cy g S10 ++ va_pl L (pf cy K cf nm S10)) := by rw [eS10]; rw [← pu_0_3 mar1.2]; exact hD
    have hT : WT L K S10.2 := by rw [eS10]; exact hT
    refine lv_aload_n hx hb dX9_finishCopy_38 rfl (lv_at hl 0 rfl) ?_
    refine lv_null hx hb dX9_finishCopy_39 ?_
    refine pg_put (D := D) (ci := 6) (v := .null) (ty := (.object "FondsRoom$Box")) (C := RX6) (T := TX6) (N := 17) hx hb hts iX9_finishCopy_6 tyX6 tyX6_ok nmX6 hown hK hP hD hS mb3.1 (pf_6 mb3.2) rfl 8 (by decide) (hts (.fieldLink RX9 267 "FondsRoom$Reader" "awaited" "LFondsRoom$Box;") (List.mem_of_getElem? (i := 5) rfl)) (fun _ h9 => h9) rfl (by decide +kernel) rfl rfl (Nat.le_of_ble_eq_true rfl) dX9_finishCopy_40 (fun H locs hP hD hS => ?_)
    obtain ⟨S11, eS11⟩ : ∃ z, z = wq S10 128 b3 none := ⟨_, rfl⟩
    replace hF := bnd_s hF S11 eS11
    have hP : va_P D vwCl (ZW x cy g S11 ++ va_pl L (pf cy K cf nm S11)) H := by rw [eS11]; rw [← pu_6_8 mb3.2]; exact hP
    have hD : va_D (va_A (ZW x cy g S0 ++ va_pl L (pf cy K cf nm S0)) s.heap.size) (ZW x cy g S11 ++ va_pl L (pf cy K cf nm S11)) := by rw [eS11]; rw [← pu_6_8 mb3.2]; exact hD
    have hT : WT L K S11.2 := by rw [eS11]; exact WT_up hT 128 b3 rok_none
    refine lv_aload_n hx hb dX9_finishCopy_43 rfl (lv_at hl 0 rfl) ?_
    refine lv_bipush (v := 8) hx hb dX9_finishCopy_44 (by decide) ?_
    refine pg_put (D := D) (ci := 6) (v := .int 8) (ty := .int) (C := RX6) (T := TX6) (N := 17) hx hb hts iX9_finishCopy_6 tyX6 tyX6_ok nmX6 hown hK hP hD hS mb3.1 (pf_6 mb3.2) rfl 5 (by decide) (hts (.fieldLink RX9 270 "FondsRoom$Reader" "state" "I") (List.mem_of_getElem? (i := 6) rfl)) (fun _ h9 => h9) rfl (by decide +kernel) rfl rfl (Nat.le_of_ble_eq_true rfl) dX9_finishCopy_46 (fun H locs hP hD hS => ?_)
    obtain ⟨S12, eS12⟩ : ∃ z, z = wi S11 125 b3 8 := ⟨_, rfl⟩
    replace hF := bnd_s hF S12 eS12
    have hP : va_P D vwCl (ZW x cy g S12 ++ va_pl L (pf cy K cf nm S12)) H := by rw [eS12]; rw [← pu_6_5 mb3.2]; exact hP
    have hD : va_D (va_A (ZW x cy g S0 ++ va_pl L (pf cy K cf nm S0)) s.heap.size) (ZW x cy g S12 ++ va_pl L (pf cy K cf nm S12)) := by rw [eS12]; rw [← pu_6_5 mb3.2]; exact hD
    have hT : WT L K S12.2 := by rw [eS12]; exact hT
    refine lv_aload_n hx hb dX9_finishCopy_49 rfl (lv_at hl 0 rfl) ?_
    refine lv_dup hx hb dX9_finishCopy_50 rfl ?_
    refine pg_get (D := D) (ci := 6) (v := .int (S12.1 136 b3)) (C := RX6) (T := TX6) (N := 17) hx hb hts iX9_finishCopy_6 hown hK hP mb3.1 (pf_6 mb3.2) rfl 16 (by decide) (hts (.fieldLink RX9 281 "FondsRoom$Reader" "copies" "I") (List.mem_of_getElem? (i := 7) rfl)) (fun _ h9 => h9) rfl dX9_finishCopy_51 ?_
    refine lv_iconst (v := 1) hx hb dX9_finishCopy_54 (by decide) ?_
    refine lv_iadd hx hb dX9_finishCopy_55 ?_
    refine pg_put (D := D) (ci := 6) (v := .int ((S12.1 136 b3) + 1)) (ty := .int) (C := RX6) (T := TX6) (N := 17) hx hb hts iX9_finishCopy_6 tyX6 tyX6_ok nmX6 hown hK hP hD hS mb3.1 (pf_6 mb3.2) rfl 16 (by decide) (hts (.fieldLink RX9 281 "FondsRoom$Reader" "copies" "I") (List.mem_of_getElem? (i := 7) rfl)) (fun _ h9 => h9) rfl (by decide +kernel) rfl rfl (Nat.le_of_ble_eq_true rfl) dX9_finishCopy_56 (fun H locs hP hD hS => ?_)
    obtain ⟨S13, eS13⟩ : ∃ z, z = wi S12 136 b3 ((S12.1 136 b3) + 1) := ⟨_, rfl⟩
    replace hF := bnd_s hF S13 eS13
    have hP : va_P D vwCl (ZW x cy g S13 ++ va_pl L (pf cy K cf nm S13)) H := by rw [eS13]; rw [← pu_6_16 mb3.2]; exact hP
    have hD : va_D (va_A (ZW x cy g S0 ++ va_pl L (pf cy K cf nm S0)) s.heap.size) (ZW x cy g S13 ++ va_pl L (pf cy K cf nm S13)) := by rw [eS13]; rw [← pu_6_16 mb3.2]; exact hD
    have hT : WT L K S13.2 := by rw [eS13]; exact hT
    refine lv_aload_n hx hb dX9_finishCopy_59 rfl (lv_at hl 1 rfl) ?_
    refine va_get (D := D) (ci := 9) (v := .ref (x 18)) (C := RX9) (T := TX9) (N := 19) hx hb hts iX9_finishCopy_9 hown hK hP 0 rfl rfl 9 (by decide) (hts (.fieldLink RX9 67 "FondsRoom" "events" "LFondsRoom$Events;") (List.mem_of_getElem? (i := 8) rfl)) (fun _ h9 => h9) rfl dX9_finishCopy_60 ?_
    refine lv_aload_n hx hb dX9_finishCopy_63 rfl (lv_at hl 1 rfl) ?_
    refine va_get (D := D) (ci := 9) (v := .int (S13.1 200 4)) (C := RX9) (T := TX9) (N := 19) hx hb hts iX9_finishCopy_9 hown hK hP 0 rfl rfl 14 (by decide) (hts (.fieldLink RX9 78 "FondsRoom" "turn" "I") (List.mem_of_getElem? (i := 9) rfl)) (fun _ h9 => h9) rfl dX9_finishCopy_64 ?_
    refine lv_aload_n hx hb dX9_finishCopy_67 rfl (lv_at hl 0 rfl) ?_
    refine pg_get (D := D) (ci := 6) (v := .int (nm b3)) (C := RX6) (T := TX6) (N := 17) hx hb hts iX9_finishCopy_6 hown hK hP mb3.1 (pf_6 mb3.2) rfl 0 (by decide) (hts (.fieldLink RX9 273 "FondsRoom$Reader" "number" "I") (List.mem_of_getElem? (i := 10) rfl)) (fun _ h9 => h9) rfl dX9_finishCopy_68 ?_
    refine lv_bipush (v := 6) hx hb dX9_finishCopy_71 (by decide) ?_
    refine lv_aload_n hx hb dX9_finishCopy_73 rfl (lv_at hl 2 rfl) ?_
    refine pg_get (D := D) (ci := 0) (v := .int (nm ar1)) (C := RX0) (T := TX0) (N := 6) hx hb hts iX9_finishCopy_0 hown hK hP mar1.1 (pf_0 mar1.2) rfl 0 (by decide) (hts (.fieldLink RX9 253 "FondsRoom$Box" "number" "I") (List.mem_of_getElem? (i := 11) rfl)) (fun _ h9 => h9) rfl dX9_finishCopy_74 ?_
    obtain ⟨S15, hq17, hF⟩ := bd1_s hF
    refine gvV (As := [.int (S13.1 200 4), .int (nm b3), .int 6, .int (nm ar1)]) (rest := []) ⟨hx, hb, hml, hown, hts⟩ (zX2_keep l D x cy g L K cf nm hG hL S13 hT _ (S13.1 200 4) (nm b3) 6 (nm ar1)  S15 hq17) (cwV 4 hts gX9_finishCopy_X2_keep rfl rfl rfl (by decide +kernel) ⟨Nat.le_of_ble_eq_true rfl, Nat.le_of_ble_eq_true rfl⟩) hK hP hD hS hA (va_recv hK hP (ci := 2) (q0 := 18) rfl rfl) rfl hl.1 rfl (Nat.le_of_ble_eq_true rfl) dX9_finishCopy_77 ⟨Nat.le_of_ble_eq_true rfl, Nat.le_of_ble_eq_true rfl⟩ (fun u9 H locs hw16 hP hD hS => ?_)
    have hT : WT L K S15.2 := hw16
    have hP : va_P D vwCl (ZW x cy g S15 ++ va_pl L (pf cy K cf nm S15)) H := hP
    have hD : va_D _ (ZW x cy g S15 ++ va_pl L (pf cy K cf nm S15)) := hD
    have e2 := Option.some.inj hF
    have hP : va_P D vwCl (ZW x cy g Sf ++ va_pl L (pf cy K cf nm Sf)) H := by rw [← e2]; exact hP
    have hD : va_D (va_A (ZW x cy g S0 ++ va_pl L (pf cy K cf nm S0)) s.heap.size) (ZW x cy g Sf ++ va_pl L (pf cy K cf nm Sf)) := by rw [← e2]; exact hD
    have hT : WT L K Sf.2 := by rw [← e2]; exact hT
    exact W.vret hx hb hr (fun t ht hW => ⟨⟨(), rfl, hT, by rw [ht]; exact hP, va_K.moved hW.alike hK, hD⟩, hS.F ht⟩) hS.2.2 dX9_finishCopy_80

theorem iX9_copyistsWork_7 : ∀ w ∈ wsX70, w ∈ wsX9_copyistsWork := fun _ h => List.mem_cons_of_mem _ (List.mem_append_left _ (List.mem_append_left _ (List.mem_append_left _ (List.mem_append_left _ (List.mem_append_left _ (List.mem_append_right _ h))))))
theorem iX9_copyistsWork_8 : ∀ w ∈ wsX80, w ∈ wsX9_copyistsWork := fun _ h => List.mem_cons_of_mem _ (List.mem_append_left _ (List.mem_append_left _ (List.mem_append_left _ (List.mem_append_left _ (List.mem_append_right _ h)))))
theorem iX9_copyistsWork_9 : ∀ w ∈ wsX90, w ∈ wsX9_copyistsWork := fun _ h => List.mem_cons_of_mem _ (List.mem_append_left _ (List.mem_append_left _ (List.mem_append_left _ (List.mem_append_left _ (List.mem_append_left _ (List.mem_append_left _ (List.mem_append_right _ h)))))))
set_option maxHeartbeats 8000000 in
set_option maxRecDepth 100000 in
theorem zX9_copyistsWork (l : Launch) (D : va_G) (x : Nat → Nat) (cy : Nat → ClassId) (g : Nat → Nat → Option Nat) (L : List Nat) (K : Nat → Nat) (cf : Nat → Nat → Nat) (nm : Nat → Int32) (hG : GO L K g) (hL : PL L K cf) (S0 : CS) (hT : WT L K S0.2) (sz : Nat)   (Sf : CS) (hF : gX9_copyistsWork g cf nm S0  = some Sf) : Met l yX9_copyistsWork wsX9_copyistsWork ({ frames := 2, cells := 0, slots := 0, locals := 47 }) (PW D (TYS cy) (ZW x cy g S0 ++ va_pl L (pf cy K cf nm S0)) sz [.ref (x 0)]) (va_Qv (fun (u : Unit) => WT L K Sf.2) (BU D (TYS cy) (ZW x cy g S0 ++ va_pl L (pf cy K cf nm S0)) (fun _ => ZW x cy g Sf ++ va_pl L (pf cy K cf nm Sf)) sz) (va_A (ZW x cy g S0 ++ va_pl L (pf cy K cf nm S0)) sz)) 0 0 (va_A (ZW x cy g S0 ++ va_pl L (pf cy K cf nm S0)) sz) := by
  refine Met.ofW (cc := cX9_copyistsWork) (maxL := 4) (ret := none) (by decide) rfl ?_
  intro p e s m args below meth c s₁ B hml hv
  obtain ⟨rfl, hsz, hP, hK, hD0⟩ := hv
  have hx := B.exec
  have hb := B.bytes
  have hr := B.returns
  have hts := atoms_spec (ws := wsX9_copyistsWork) B.pre
  have hown : s.vm.findClass RX9 = some m.cls := findClass_of_methodNamed B.named
  have hlocks := B.notSynchronized
  subst hsz
  have hD := hD0.self (sz := s.heap.size)
  have hA : ∀ q9 : Nat, s.heap.size ≤ q9 → va_A (ZW x cy g S0 ++ va_pl L (pf cy K cf nm S0)) s.heap.size q9 := fun q9 h => Or.inr h
  have hS : va_S (va_A (ZW x cy g S0 ++ va_pl L (pf cy K cf nm S0)) s.heap.size) s.heap s.heap [] := va_S.rf
  have key2 : ∀ (KK : CS → Option (CS)), (∀  (S : CS) (H : Heap) (locs : List Loc) (ls : Array Slot), KK  S = some Sf → WT L K S.2 → va_P D vwCl (ZW x cy g S ++ va_pl L (pf cy K cf nm S)) H → va_D (va_A (ZW x cy g S0 ++ va_pl L (pf cy K cf nm S0)) s.heap.size) (ZW x cy g S ++ va_pl L (pf cy K cf nm S)) → va_S (va_A (ZW x cy g S0 ++ va_pl L (pf cy K cf nm S0)) s.heap.size) s.heap H locs → lv_has ls 4 [] → W p l e (headSpec wsX9_copyistsWork ({ frames := 2, cells := 0, slots := 0, locals := 47 })).room s m #[.ref (x 0)] below meth c H locs 0 0 (MQ below (va_Qv (fun (u : Unit) => WT L K Sf.2) (BU D (TYS cy) (ZW x cy g S0 ++ va_pl L (pf cy K cf nm S0)) (fun _ => ZW x cy g Sf ++ va_pl L (pf cy K cf nm Sf)) s.heap.size) (va_A (ZW x cy g S0 ++ va_pl L (pf cy K cf nm S0)) s.heap.size)) #[.ref (x 0)] s 0 0 (va_A (ZW x cy g S0 ++ va_pl L (pf cy K cf nm S0)) s.heap.size)) (F0 m 67 ls [])) → ∀ (fu : Nat) (v1 : Int32) (S : CS) (H : Heap) (locs : List Loc) (ls : Array Slot), gX9_copyistsWork_2 g cf nm KK fu v1 S = some Sf → WT L K S.2 → va_P D vwCl (ZW x cy g S ++ va_pl L (pf cy K cf nm S)) H → va_D (va_A (ZW x cy g S0 ++ va_pl L (pf cy K cf nm S0)) s.heap.size) (ZW x cy g S ++ va_pl L (pf cy K cf nm S)) → va_S (va_A (ZW x cy g S0 ++ va_pl L (pf cy K cf nm S0)) s.heap.size) s.heap H locs → lv_has ls 4 [(1, .int v1), (0, .ref (x 0))] → W p l e (headSpec wsX9_copyistsWork ({ frames := 2, cells := 0, slots := 0, locals := 47 })).room s m #[.ref (x 0)] below meth c H locs 0 0 (MQ below (va_Qv (fun (u : Unit) => WT L K Sf.2) (BU D (TYS cy) (ZW x cy g S0 ++ va_pl L (pf cy K cf nm S0)) (fun _ => ZW x cy g Sf ++ va_pl L (pf cy K cf nm Sf)) s.heap.size) (va_A (ZW x cy g S0 ++ va_pl L (pf cy K cf nm S0)) s.heap.size)) #[.ref (x 0)] s 0 0 (va_A (ZW x cy g S0 ++ va_pl L (pf cy K cf nm S0)) s.heap.size)) (F0 m 2 ls []) := by
    intro KK hKK fu
    induction fu with
    | zero =>
      intro v1 S H locs ls hF
      exact absurd (show (none : Option (CS)) = some Sf from hF) (by simp)
    | succ fu2 ih2 =>
      intro v1 S H locs ls hF hT hP hD hS hl
      rw [gX9_copyistsWork_2] at hF
      refine lv_iload_n hx hb dX9_copyistsWork_2 rfl (lv_at hl 0 rfl) ?_
      refine lv_aload_n hx hb dX9_copyistsWork_3 rfl (lv_at hl 1 rfl) ?_
      refine va_get (D := D) (ci := 9) (v := .ref (x 6)) (C := RX9) (T := TX9) (N := 19) hx hb hts iX9_copyistsWork_9 hown hK hP 0 rfl rfl 4 (by decide) (hts (.fieldLink RX9 41 "FondsRoom" "copyists" "LFondsRoom$Staff;") (List.mem_of_getElem? (i := 1) rfl)) (fun _ h9 => h9) rfl dX9_copyistsWork_4 ?_
      refine va_get (D := D) (ci := 7) (v := .int (S.1 200 10)) (C := RX7) (T := TX7) (N := 2) hx hb hts iX9_copyistsWork_7 hown hK hP 6 rfl rfl 1 (by decide) (hts (.fieldLink RX9 101 "FondsRoom$Staff" "hired" "I") (List.mem_of_getElem? (i := 2) rfl)) (fun _ h9 => h9) rfl dX9_copyistsWork_7 ?_
      refine lv_icmp_ge (tgt := 67) hx hb dX9_copyistsWork_10 (by decide) (fun c1 => ?_) (fun c1 => ?_)
      · skip
        have hF := (if_pos c1).symm.trans hF
        exact hKK  S _ _ _ hF hT hP hD hS (lv_sub hl [] rfl)
      · skip
        have hF := (if_neg c1).symm.trans hF
        refine lv_aload_n hx hb dX9_copyistsWork_13 rfl (lv_at hl 1 rfl) ?_
        refine va_get (D := D) (ci := 9) (v := .ref (x 6)) (C := RX9) (T := TX9) (N := 19) hx hb hts iX9_copyistsWork_9 hown hK hP 0 rfl rfl 4 (by decide) (hts (.fieldLink RX9 41 "FondsRoom" "copyists" "LFondsRoom$Staff;") (List.mem_of_getElem? (i := 1) rfl)) (fun _ h9 => h9) rfl dX9_copyistsWork_14 ?_
        refine va_get (D := D) (ci := 7) (v := .ref (x 7)) (C := RX7) (T := TX7) (N := 2) hx hb hts iX9_copyistsWork_7 hown hK hP 6 rfl rfl 0 (by decide) (hts (.fieldLink RX9 216 "FondsRoom$Staff" "workers" "[LFondsRoom$Worker;") (List.mem_of_getElem? (i := 3) rfl)) (fun _ h9 => h9) rfl dX9_copyistsWork_17 ?_
        refine lv_iload_n hx hb dX9_copyistsWork_20 rfl (lv_at hl 0 rfl) ?_
        obtain ⟨hi2, b3, eb3, hF⟩ := ga_s hF
        refine va_aldq hx hb hK hP 7 5 rfl rfl hi2 dX9_copyistsWork_21 ?_
        refine lv_tov (v' := .ref b3) (by rw [eb3]; rfl) ?_
        have mb3 := GO_4 hG hi2 eb3
        refine lv_astore_n (lv' := [(2, .ref b3), (1, .int v1), (0, .ref (x 0))]) hx hb dX9_copyistsWork_22 rfl hl (by decide) rfl (fun ls hl => ?_)
        refine lv_aload_n hx hb dX9_copyistsWork_23 rfl (lv_at hl 0 rfl) ?_
        refine pg_get (D := D) (ci := 8) (v := va_rf (S.2 160 b3)) (C := RX8) (T := TX8) (N := 3) hx hb hts iX9_copyistsWork_8 hown hK hP mb3.1 (pf_8 mb3.2) rfl 0 (by decide) (hts (.fieldLink RX9 227 "FondsRoom$Worker" "box" "LFondsRoom$Box;") (List.mem_of_getElem? (i := 4) rfl)) (fun _ h9 => h9) rfl dX9_copyistsWork_24 ?_
        obtain ⟨q4, eq4⟩ : ∃ z, z = S.2 160 b3 := ⟨_, rfl⟩
        replace hF := bnd_s hF q4 eq4
        have hq4 : rok L K 0 q4 := by rw [eq4]; exact hT 160 b3
        refine lv_tov (v' := va_rf q4) (by rw [eq4]) ?_
        refine lq_astore_n (lv' := [(3, va_rf q4), (2, .ref b3), (1, .int v1), (0, .ref (x 0))]) hx hb dX9_copyistsWork_27 rfl hl (by decide) rfl (fun ls hl => ?_)
        refine lq_aload_n hx hb dX9_copyistsWork_28 rfl (lv_at hl 0 rfl) ?_
        rcases eb5 : q4 with _ | b5
        · skip
          subst eb5
          replace hF := oc_n hF
          have hl : lv_has ls 4 [(3, .null), (2, .ref b3), (1, .int v1), (0, .ref (x 0))] := hl
          refine W.eq (g2 := F0 m 29 ls [.null]) rfl ?_
          refine lv_ifnonnullN hx hb dX9_copyistsWork_29 ?_
          refine lv_goto (tgt := 61) hx hb dX9_copyistsWork_32 (by decide) ?_
          refine lv_iinc (v := v1 + 1) (lv' := [(1, .int (v1 + 1)), (3, .null), (2, .ref b3), (0, .ref (x 0))]) hx hb dX9_copyistsWork_61 hl (k := 2) rfl rfl (by decide) rfl (fun ls hl => ?_)
          refine lv_goto (tgt := 2) hx hb dX9_copyistsWork_64 (by decide) ?_
          exact ih2 (v1 + 1) S _ _ _ hF hT hP hD hS (lv_sub hl [0, 3] rfl)
        · skip
          subst eb5
          replace hF := oc_b hF
          have mb5 := hq4 b5 rfl
          have hl : lv_has ls 4 [(3, .ref b5), (2, .ref b3), (1, .int v1), (0, .ref (x 0))] := hl
          refine W.eq (g2 := F0 m 29 ls [.ref b5]) rfl ?_
          refine lv_ifnonnull (tgt := 35) hx hb dX9_copyistsWork_29 (by decide) ?_
          refine lv_aload_n hx hb dX9_copyistsWork_35 rfl (lv_at hl 1 rfl) ?_
          refine lv_dup hx hb dX9_copyistsWork_36 rfl ?_
          refine pg_get (D := D) (ci := 8) (v := .int (S.1 162 b3)) (C := RX8) (T := TX8) (N := 3) hx hb hts iX9_copyistsWork_8 hown hK hP mb3.1 (pf_8 mb3.2) rfl 2 (by decide) (hts (.fieldLink RX9 243 "FondsRoom$Worker" "left" "I") (List.mem_of_getElem? (i := 5) rfl)) (fun _ h9 => h9) rfl dX9_copyistsWork_37 ?_
          refine lv_iconst (v := 1) hx hb dX9_copyistsWork_40 (by decide) ?_
          refine lv_isub hx hb dX9_copyistsWork_41 ?_
          refine pg_put (D := D) (ci := 8) (v := .int ((S.1 162 b3) - 1)) (ty := .int) (C := RX8) (T := TX8) (N := 3) hx hb hts iX9_copyistsWork_8 tyX8 tyX8_ok nmX8 hown hK hP hD hS mb3.1 (pf_8 mb3.2) rfl 2 (by decide) (hts (.fieldLink RX9 243 "FondsRoom$Worker" "left" "I") (List.mem_of_getElem? (i := 5) rfl)) (fun _ h9 => h9) rfl (by decide +kernel) rfl rfl (Nat.le_of_ble_eq_true rfl) dX9_copyistsWork_42 (fun H locs hP hD hS => ?_)
          obtain ⟨S6, eS6⟩ : ∃ z, z = wi S 162 b3 ((S.1 162 b3) - 1) := ⟨_, rfl⟩
          replace hF := bnd_s hF S6 eS6
          have hP : va_P D vwCl (ZW x cy g S6 ++ va_pl L (pf cy K cf nm S6)) H := by rw [eS6]; rw [← pu_8_2 mb3.2]; exact hP
          have hD : va_D (va_A (ZW x cy g S0 ++ va_pl L (pf cy K cf nm S0)) s.heap.size) (ZW x cy g S6 ++ va_pl L (pf cy K cf nm S6)) := by rw [eS6]; rw [← pu_8_2 mb3.2]; exact hD
          have hT : WT L K S6.2 := by rw [eS6]; exact hT
          refine lv_aload_n hx hb dX9_copyistsWork_45 rfl (lv_at hl 1 rfl) ?_
          refine pg_get (D := D) (ci := 8) (v := .int (S6.1 162 b3)) (C := RX8) (T := TX8) (N := 3) hx hb hts iX9_copyistsWork_8 hown hK hP mb3.1 (pf_8 mb3.2) rfl 2 (by decide) (hts (.fieldLink RX9 243 "FondsRoom$Worker" "left" "I") (List.mem_of_getElem? (i := 5) rfl)) (fun _ h9 => h9) rfl dX9_copyistsWork_46 ?_
          refine lv_if_gt (tgt := 61) hx hb dX9_copyistsWork_49 (by decide) (fun c7 => ?_) (fun c7 => ?_)
          · skip
            have hF := (if_pos c7).symm.trans hF
            refine lv_iinc (v := v1 + 1) (lv' := [(1, .int (v1 + 1)), (3, .ref b5), (2, .ref b3), (0, .ref (x 0))]) hx hb dX9_copyistsWork_61 hl (k := 2) rfl rfl (by decide) rfl (fun ls hl => ?_)
            refine lv_goto (tgt := 2) hx hb dX9_copyistsWork_64 (by decide) ?_
            exact ih2 (v1 + 1) S6 _ _ _ hF hT hP hD hS (lv_sub hl [0, 3] rfl)
          · skip
            have hF := (if_neg c7).symm.trans hF
            refine lv_aload_n hx hb dX9_copyistsWork_52 rfl (lv_at hl 3 rfl) ?_
            refine lv_aload_n hx hb dX9_copyistsWork_53 rfl (lv_at hl 0 rfl) ?_
            obtain ⟨S9, hq11, hF⟩ := bd1_s hF
            refine gvV (As := [.ref b5]) (rest := []) ⟨hx, hb, hml, hown, hts⟩ (zX9_finishCopy l D x cy g L K cf nm hG hL S6 hT _ b5 ⟨mb5.1, mb5.2⟩ S9 hq11) (cwV 1 hts gX9_copyistsWork_X9_finishCopy rfl rfl rfl (by decide +kernel) ⟨Nat.le_of_ble_eq_true rfl, Nat.le_of_ble_eq_true rfl⟩) hK hP hD hS hA (va_recv hK hP (ci := 9) (q0 := 0) rfl rfl) rfl hl.1 rfl (Nat.le_of_ble_eq_true rfl) dX9_copyistsWork_54 ⟨Nat.le_of_ble_eq_true rfl, Nat.le_of_ble_eq_true rfl⟩ (fun u9 H locs hw10 hP hD hS => ?_)
            have hT : WT L K S9.2 := hw10
            have hP : va_P D vwCl (ZW x cy g S9 ++ va_pl L (pf cy K cf nm S9)) H := hP
            have hD : va_D _ (ZW x cy g S9 ++ va_pl L (pf cy K cf nm S9)) := hD
            refine lv_aload_n hx hb dX9_copyistsWork_57 rfl (lv_at hl 1 rfl) ?_
            obtain ⟨S14, hq16, hF⟩ := bd1_s hF
            refine gvV (As := []) (rest := []) ⟨hx, hb, hml, hown, hts⟩ (zX8_release l D x cy g L K cf nm hG hL S9 hT _ b3 ⟨mb3.1, mb3.2⟩ S14 hq16) (cwV 0 hts gX9_copyistsWork_X8_release rfl rfl rfl (by decide +kernel) ⟨Nat.le_of_ble_eq_true rfl, Nat.le_of_ble_eq_true rfl⟩) hK hP hD hS hA (pl_recv hK hP (ci := 8) rfl mb3.1 (pf_8 mb3.2)) rfl hl.1 rfl (Nat.le_of_ble_eq_true rfl) dX9_copyistsWork_58 ⟨Nat.le_of_ble_eq_true rfl, Nat.le_of_ble_eq_true rfl⟩ (fun u9 H locs hw15 hP hD hS => ?_)
            have hT : WT L K S14.2 := hw15
            have hP : va_P D vwCl (ZW x cy g S14 ++ va_pl L (pf cy K cf nm S14)) H := hP
            have hD : va_D _ (ZW x cy g S14 ++ va_pl L (pf cy K cf nm S14)) := hD
            refine lv_iinc (v := v1 + 1) (lv' := [(1, .int (v1 + 1)), (3, .ref b5), (2, .ref b3), (0, .ref (x 0))]) hx hb dX9_copyistsWork_61 hl (k := 2) rfl rfl (by decide) rfl (fun ls hl => ?_)
            refine lv_goto (tgt := 2) hx hb dX9_copyistsWork_64 (by decide) ?_
            exact ih2 (v1 + 1) S14 _ _ _ hF hT hP hD hS (lv_sub hl [0, 3] rfl)
  have hl := lv_entry ([.ref (x 0)]) (n := 4) (Nat.le_of_ble_eq_true rfl)
  rw [lg_entry_eq]
  generalize (lg_sl ([.ref (x 0)]) ++ List.replicate (4 - (lg_sl ([.ref (x 0)])).length) Slot.unset).toArray = ls at hl ⊢
  have hl : lv_has ls 4 [(0, .ref (x 0))] := hl
  unfold gX9_copyistsWork at hF
  refine lv_iconst (v := 0) hx hb dX9_copyistsWork_0 (by decide) ?_
  refine lv_istore_n (lv' := [(1, .int 0), (0, .ref (x 0))]) hx hb dX9_copyistsWork_1 rfl hl (by decide) rfl (fun ls hl => ?_)
  refine key2 _ ?_ 1000 0 S0 _ _ _ hF hT hP hD hS (lv_sub hl [0, 1] rfl)
  intro S18 H locs ls hF hT hP hD hS hl
  have e2 := Option.some.inj hF
  have hP : va_P D vwCl (ZW x cy g Sf ++ va_pl L (pf cy K cf nm Sf)) H := by rw [← e2]; exact hP
  have hD : va_D (va_A (ZW x cy g S0 ++ va_pl L (pf cy K cf nm S0)) s.heap.size) (ZW x cy g Sf ++ va_pl L (pf cy K cf nm Sf)) := by rw [← e2]; exact hD
  have hT : WT L K Sf.2 := by rw [← e2]; exact hT
  exact W.vret hx hb hr (fun t ht hW => ⟨⟨(), rfl, hT, by rw [ht]; exact hP, va_K.moved hW.alike hK, hD⟩, hS.F ht⟩) hS.2.2 dX9_copyistsWork_67
