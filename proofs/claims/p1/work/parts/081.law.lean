set_option maxHeartbeats 16000000 in
set_option maxRecDepth 100000 in
theorem whole_start {p : Program} {e : Env} {s : State} {m : MethodId} {below : List Frame} {meth : Method} {c : Code} (l : Launch) (hls : l.stackTraces = false) {b L : Nat} {xs : Nat → Int32} (hL : L ≤ 5) (C0 : lw_At p s m meth c b L xs) : W p l e room_1 s m #[Value.ref b] below meth c s.heap [] 0 0 (lw_Z below #[Value.ref b] s) (entryFrame m ([Value.ref b] : List Value).toArray 7) := by
  obtain ⟨hx, hb, hr, hml, hown, hts, hX, hbl, hlocks, hgv⟩ := id C0
  have hb : c.code = cL_law := hb
  have hown : s.vm.findClass RL = some m.cls := hown
  have hts0 : ∀ w ∈ wsL_law0, w.before #[Value.ref b] s = true := fun w h => hts w (wsL_law_in0 w h)
  have hA : ∀ q : Nat, s.heap.size ≤ q → (fun q : Nat => s.heap.size ≤ q) q := fun _ h => h
  have hbA : ¬ (fun q : Nat => s.heap.size ≤ q) b := Nat.not_le.mpr hbl
  obtain ⟨c0, i0, K0⟩ := u_known (C := RX0) (T := TX0) (N := 6) (n := 6) hts wi_wsX00 (hts (.instantiable RX0 6) (by decide +kernel))
  obtain ⟨c1, i1, K1⟩ := u_known (C := RX1) (T := TX1) (N := 3) (n := 3) hts wi_wsX10 (hts (.instantiable RX1 3) (by decide +kernel))
  obtain ⟨c2, i2, K2⟩ := u_known (C := RX2) (T := TX2) (N := 2) (n := 2) hts wi_wsX20 (hts (.instantiable RX2 2) (by decide +kernel))
  obtain ⟨c3, i3, K3⟩ := u_known (C := RX3) (T := TX3) (N := 2) (n := 2) hts wi_wsX30 (hts (.instantiable RX3 2) (by decide +kernel))
  obtain ⟨c4, i4, K4⟩ := u_known (C := RX4) (T := TX4) (N := 4) (n := 4) hts wi_wsX40 (hts (.instantiable RX4 4) (by decide +kernel))
  obtain ⟨c5, i5, K5⟩ := u_known (C := RX5) (T := TX5) (N := 8) (n := 8) hts wi_wsX50 (hts (.instantiable RX5 8) (by decide +kernel))
  obtain ⟨c6, i6, K6⟩ := u_known (C := RX6) (T := TX6) (N := 17) (n := 17) hts wi_wsX60 (hts (.instantiable RX6 17) (by decide +kernel))
  obtain ⟨c7, i7, K7⟩ := u_known (C := RX7) (T := TX7) (N := 2) (n := 2) hts wi_wsX70 (hts (.instantiable RX7 2) (by decide +kernel))
  obtain ⟨c8, i8, K8⟩ := u_known (C := RX8) (T := TX8) (N := 3) (n := 3) hts wi_wsX80 (hts (.instantiable RX8 3) (by decide +kernel))
  obtain ⟨c9, i9, K9⟩ := u_known (C := RX9) (T := TX9) (N := 19) (n := 19) hts wi_wsX90 (hts (.instantiable RX9 19) (by decide +kernel))
  obtain ⟨c10, i10, K10⟩ := u_known (C := RX10) (T := TX10) (N := 58) (n := 58) hts wi_wsX100 (hts (.instantiable RX10 58) (by decide +kernel))
  obtain ⟨D, hKc⟩ : ∃ D : va_G, ∀ (k : Nat) (q : vw_C), vwCl[k]? = some q → u_Kn s q.1 q.2.1 q.2.2 (D.1 k) (D.2 k) := by
    refine ⟨(fun k => ([c0, c1, c2, c3, c4, c5, c6, c7, c8, c9, c10] : List ClassId).getD k c0, fun k => ([i0, i1, i2, i3, i4, i5, i6, i7, i8, i9, i10] : List (Nat → Nat)).getD k i0), ?_⟩
    intro k q hq
    match k, hq with
    | 0, hq => cases hq; exact K0
    | 1, hq => cases hq; exact K1
    | 2, hq => cases hq; exact K2
    | 3, hq => cases hq; exact K3
    | 4, hq => cases hq; exact K4
    | 5, hq => cases hq; exact K5
    | 6, hq => cases hq; exact K6
    | 7, hq => cases hq; exact K7
    | 8, hq => cases hq; exact K8
    | 9, hq => cases hq; exact K9
    | 10, hq => cases hq; exact K10
    | k + 11, hq => simp [vwCl] at hq
  obtain ⟨t0, kt0, ct0, f01, f02, f03⟩ := Cond.arrayClass_spec (hts (.arrayClass .int) (by decide +kernel))
  obtain ⟨t1, kt1, ct1, f11, f12, f13⟩ := Cond.arrayClass_spec (hts (.arrayClass .boolean) (by decide +kernel))
  obtain ⟨ct2, t2, kt2, f21, f22, f23, f24, f25⟩ := Cond.arrayOver_spec (hts (.arrayOver (.object "FondsRoom$Desk")) (by decide +kernel))
  obtain ⟨ct3, t3, kt3, f31, f32, f33, f34, f35⟩ := Cond.arrayOver_spec (hts (.arrayOver (.object "FondsRoom$Box")) (by decide +kernel))
  obtain ⟨ct4, t4, kt4, f41, f42, f43, f44, f45⟩ := Cond.arrayOver_spec (hts (.arrayOver (.object "FondsRoom$Reader")) (by decide +kernel))
  obtain ⟨ct5, t5, kt5, f51, f52, f53, f54, f55⟩ := Cond.arrayOver_spec (hts (.arrayOver (.object "FondsRoom$Worker")) (by decide +kernel))
  obtain ⟨cy, hK⟩ : ∃ cy : Nat → ClassId, va_K D vwCl (TYS cy) s := by
    refine ⟨fun k => ([t0, t1, t2, t3, t4, t5] : List ClassId).getD k t0, hKc, fun k q hq => ?_⟩
    match k, hq with
    | 0, hq => cases hq; exact ⟨fun N z => ⟨(fun k h => by cases h), kt0, f02, ct0, f03⟩, f01⟩
    | 1, hq => cases hq; exact ⟨fun N z => ⟨(fun k h => by cases h), kt1, f12, ct1, f13⟩, f11⟩
    | 2, hq => cases hq; exact ⟨fun N z => ⟨(fun k h => by cases h), kt2, f23, ct2, f24⟩, kt2, ct2, f23, f24, f21, f25⟩
    | 3, hq => cases hq; exact ⟨fun N z => ⟨(fun k h => by cases h), kt3, f33, ct3, f34⟩, kt3, ct3, f33, f34, f31, f35⟩
    | 4, hq => cases hq; exact ⟨fun N z => ⟨(fun k h => by cases h), kt4, f43, ct4, f44⟩, kt4, ct4, f43, f44, f41, f45⟩
    | 5, hq => cases hq; exact ⟨fun N z => ⟨(fun k h => by cases h), kt5, f53, ct5, f54⟩, kt5, ct5, f53, f54, f51, f55⟩
    | k + 6, hq => simp [TYS] at hq
  have hE : EXT s := ⟨va_AO.of (hts (.arrayOver (.object "FondsRoom$Desk")) (by decide +kernel)), va_AO.of (hts (.arrayOver (.object "FondsRoom$Box")) (by decide +kernel)), va_AO.of (hts (.arrayOver (.object "FondsRoom$Reader")) (by decide +kernel)), va_AO.of (hts (.arrayOver (.object "FondsRoom$Worker")) (by decide +kernel)), va_Nw.of rfl (hts (.methodLinkNest RX7 21 yX8_init "FondsRoom") (by decide +kernel))⟩
  have hflat := flat_of_before _ hgv
  have hZ1 : vx_Zq Bundle.tN "UNASSIGNED_STACK" Bundle.steD (fun q : Nat => s.heap.size ≤ q) s s.heap := vx_Zqof (hts (.laysStatic Bundle.tN "UNASSIGNED_STACK" Bundle.steD) (by decide +kernel)) (hts (.initialized Bundle.tN) (by decide +kernel)) (hflat (.isRef (.static Bundle.tN "UNASSIGNED_STACK" Bundle.steD)) (by decide +kernel)) (fun a ha => Nat.not_le.mpr ha)
  have hZ2 : vx_Zq Bundle.tN "SUPPRESSED_SENTINEL" Bundle.listD (fun q : Nat => s.heap.size ≤ q) s s.heap := vx_Zqof (hts (.laysStatic Bundle.tN "SUPPRESSED_SENTINEL" Bundle.listD) (by decide +kernel)) (hts (.initialized Bundle.tN) (by decide +kernel)) (hflat (.isRef (.static Bundle.tN "SUPPRESSED_SENTINEL" Bundle.listD)) (by decide +kernel)) (fun a ha => Nat.not_le.mpr ha)
  obtain ⟨sa, cSa, cellSa, kSa, hsa, -⟩ := Cond.exactly_spec (hflat (.exactly (.string "FondsRoom" 452) "java/lang/String") (by decide +kernel))
  have hstr : vk_R RX9 452 "no such event" sa s := vk_R.of (hts (.stringRef "FondsRoom" 452 "no such event") (by decide +kernel)) hsa
  have hcst : NWX s := ⟨va_Nw.of rfl (hts (.castable NSE NSE) (by decide +kernel)), va_Nw.of rfl (hts (.declares ⟨"java/lang/RuntimeException", "<init>", "(Ljava/lang/String;)V"⟩) (by decide +kernel)), va_Nw.of rfl (hts (.declares ⟨"java/lang/Exception", "<init>", "(Ljava/lang/String;)V"⟩) (by decide +kernel)), va_Nw.of rfl (hts (.declares ⟨"java/lang/Throwable", "<init>", "(Ljava/lang/String;)V"⟩) (by decide +kernel))⟩
  have hS : va_S (fun q : Nat => s.heap.size ≤ q) s.heap s.heap [] := va_S.rf
  have hP : va_P D vwCl [] s.heap := P0
  have hD : va_D (fun q : Nat => s.heap.size ≤ q) [] := D0
  obtain ⟨x0, hx0⟩ : ∃ y : Int32, y = xs 0 := ⟨_, rfl⟩
  obtain ⟨x1, hx1⟩ : ∃ y : Int32, y = xs 1 := ⟨_, rfl⟩
  obtain ⟨x2, hx2⟩ : ∃ y : Int32, y = xs 2 := ⟨_, rfl⟩
  obtain ⟨x3, hx3⟩ : ∃ y : Int32, y = xs 3 := ⟨_, rfl⟩
  obtain ⟨x4, hx4⟩ : ∃ y : Int32, y = xs 4 := ⟨_, rfl⟩
  have hl := lv_entry ([.ref b]) (n := 7) (Nat.le_of_ble_eq_true rfl)
  rw [lg_entry_eq]
  generalize (lg_sl ([.ref b]) ++ List.replicate (7 - (lg_sl ([.ref b])).length) Slot.unset).toArray = ls at hl ⊢
  have hl : lv_has ls 7 [(0, .ref b)] := hl
  refine va_new (ci := 9) (fs := [.null, .null, .null, .null, .null, .null, .null, .null, .null, .null, .int 0, .int 0, .int 0, .int 0, .int 0, .int 0, .int 0, .int 0, .int 0]) (C := RX9) (T := TX9) (N := 19) hx hb hts wi_wsX90 tyX9 tyX9_ok hown (hts (.classLink RL 8 RX9) (by decide +kernel)) (hts (.instantiable RX9 19) (by decide +kernel)) (hts (.initialized RX9) (by decide +kernel)) hK hP hD hS hA rfl (fun j hj => by rcases (show j = 0 ∨ j = 1 ∨ j = 2 ∨ j = 3 ∨ j = 4 ∨ j = 5 ∨ j = 6 ∨ j = 7 ∨ j = 8 ∨ j = 9 ∨ j = 10 ∨ j = 11 ∨ j = 12 ∨ j = 13 ∨ j = 14 ∨ j = 15 ∨ j = 16 ∨ j = 17 ∨ j = 18 by omega) with rfl | rfl | rfl | rfl | rfl | rfl | rfl | rfl | rfl | rfl | rfl | rfl | rfl | rfl | rfl | rfl | rfl | rfl | rfl <;> rfl) (Nat.le_of_ble_eq_true rfl) (Nat.le_of_ble_eq_true rfl) dL_law_0 (fun a9 H hP hD hS => ?_)
  refine lv_dup hx hb dL_law_3 rfl ?_
  refine ciV (wr := []) (As := []) (rest := [.ref a9]) ⟨hx, hb, hml, hown, hts0⟩ (mX9_init l D cy _ a9) (cwI 0 hts0 gL_law_X9_init rfl rfl rfl (hts (.initialized RX9) (by decide +kernel)) (hts (.methodLink RL 15 yX9_init) (by decide +kernel)) (hts (.instanceMethod yX9_init) (by decide +kernel)) rfl (by decide +kernel) ⟨Nat.le_of_ble_eq_true rfl, Nat.le_of_ble_eq_true rfl⟩) hE hK hP hD hS hA [0] [] rfl rfl (by decide) (by decide) (by decide) rfl hl.1 rfl (Nat.le_of_ble_eq_true rfl) dL_law_4 ⟨(Nat.le_of_ble_eq_true rfl), (Nat.le_of_ble_eq_true rfl)⟩ (fun uq g H locs hP hD hS => ?_)
  obtain ⟨q, eq⟩ : ∃ q : Nat → Nat, q = fun k => if k = 0 then a9 else uq k := ⟨_, rfl⟩
  have eq0 : q 0 = a9 := by rw [eq]; rfl
  have hP2 : va_P D vwCl (FW q cy g 0) H := by rw [eq]; exact hP
  have hD2 : va_D (fun q9 : Nat => s.heap.size ≤ q9) (FW q cy g 0) := by rw [eq]; exact hD
  clear hP hD eq
  subst eq0
  have hP : va_P D vwCl (FW q cy g 0) H := hP2
  have hD : va_D (fun q9 : Nat => s.heap.size ≤ q9) (FW q cy g 0) := hD2
  clear hP2 hD2
  refine lv_astore_n (lv' := [(1, .ref (q 0)), (0, .ref b)]) hx hb dL_law_7 rfl hl (by decide) rfl (fun ls hl => ?_)
  refine va_new (ci := 10) (fs := [.int 0, .int 0, .int 0, .int 0, .int 0, .int 0, .int 0, .int 0, .int 0, .null, .null, .null, .null, .null, .null, .null, .null, .null, .null, .null, .int 0, .int 0, .int 0, .int 0, .null, .null, .null, .null, .null, .null, .null, .null, .null, .null, .null, .null, .null, .null, .null, .null, .null, .null, .null, .null, .null, .null, .null, .int 0, .null, .null, .null, .null, .int 0, .null, .null, .null, .null, .int 0]) (C := RX10) (T := TX10) (N := 58) hx hb hts wi_wsX100 tyX10 tyX10_ok hown (hts (.classLink RL 16 RX10) (by decide +kernel)) (hts (.instantiable RX10 58) (by decide +kernel)) (hts (.initialized RX10) (by decide +kernel)) hK hP hD hS hA rfl (fun j hj => by rcases (show j = 0 ∨ j = 1 ∨ j = 2 ∨ j = 3 ∨ j = 4 ∨ j = 5 ∨ j = 6 ∨ j = 7 ∨ j = 8 ∨ j = 9 ∨ j = 10 ∨ j = 11 ∨ j = 12 ∨ j = 13 ∨ j = 14 ∨ j = 15 ∨ j = 16 ∨ j = 17 ∨ j = 18 ∨ j = 19 ∨ j = 20 ∨ j = 21 ∨ j = 22 ∨ j = 23 ∨ j = 24 ∨ j = 25 ∨ j = 26 ∨ j = 27 ∨ j = 28 ∨ j = 29 ∨ j = 30 ∨ j = 31 ∨ j = 32 ∨ j = 33 ∨ j = 34 ∨ j = 35 ∨ j = 36 ∨ j = 37 ∨ j = 38 ∨ j = 39 ∨ j = 40 ∨ j = 41 ∨ j = 42 ∨ j = 43 ∨ j = 44 ∨ j = 45 ∨ j = 46 ∨ j = 47 ∨ j = 48 ∨ j = 49 ∨ j = 50 ∨ j = 51 ∨ j = 52 ∨ j = 53 ∨ j = 54 ∨ j = 55 ∨ j = 56 ∨ j = 57 by omega) with rfl | rfl | rfl | rfl | rfl | rfl | rfl | rfl | rfl | rfl | rfl | rfl | rfl | rfl | rfl | rfl | rfl | rfl | rfl | rfl | rfl | rfl | rfl | rfl | rfl | rfl | rfl | rfl | rfl | rfl | rfl | rfl | rfl | rfl | rfl | rfl | rfl | rfl | rfl | rfl | rfl | rfl | rfl | rfl | rfl | rfl | rfl | rfl | rfl | rfl | rfl | rfl | rfl | rfl | rfl | rfl | rfl | rfl <;> rfl) (Nat.le_of_ble_eq_true rfl) (Nat.le_of_ble_eq_true rfl) dL_law_8 (fun a10 H hP hD hS => ?_)
  refine lv_dup hx hb dL_law_11 rfl ?_
  refine ciV (wr := FW q cy g 0) (As := []) (rest := [.ref a10]) ⟨hx, hb, hml, hown, hts0⟩ (mX10_init l D cy _ a10) (cwI 0 hts0 gL_law_X10_init rfl rfl rfl (hts (.initialized RX10) (by decide +kernel)) (hts (.methodLink RL 18 yX10_init) (by decide +kernel)) (hts (.instanceMethod yX10_init) (by decide +kernel)) rfl (by decide +kernel) ⟨Nat.le_of_ble_eq_true rfl, Nat.le_of_ble_eq_true rfl⟩) hE hK hP hD hS hA [22] [0, 1, 2, 3, 4, 5, 6, 7, 8, 9, 10, 11, 12, 13, 14, 15, 16, 17, 18, 19, 20, 21] rfl rfl (by decide) (by decide) (by decide) rfl hl.1 rfl (Nat.le_of_ble_eq_true rfl) dL_law_12 ⟨(Nat.le_of_ble_eq_true rfl), (Nat.le_of_ble_eq_true rfl)⟩ (fun uz _gz H locs hP hD hS => ?_)
  obtain ⟨z, ez⟩ : ∃ z : Nat → Nat, z = fun k => if k = 58 then a10 else uz k := ⟨_, rfl⟩
  have ez0 : z 58 = a10 := by rw [ez]; rfl
  have hP2 : va_P D vwCl (FW q cy g 0 ++ MW z cy 0) H := by rw [ez]; exact hP
  have hD2 : va_D (fun q9 : Nat => s.heap.size ≤ q9) (FW q cy g 0 ++ MW z cy 0) := by rw [ez]; exact hD
  clear hP hD ez
  subst ez0
  have hP : va_P D vwCl (FW q cy g 0 ++ MW z cy 0) H := hP2
  have hD : va_D (fun q9 : Nat => s.heap.size ≤ q9) (FW q cy g 0 ++ MW z cy 0) := hD2
  clear hP2 hD2
  refine lv_astore_n (lv' := [(2, .ref (z 58)), (1, .ref (q 0)), (0, .ref b)]) hx hb dL_law_15 rfl hl (by decide) rfl (fun ls hl => ?_)
  refine lv_iconst (v := 1) hx hb dL_law_16 (by decide) ?_
  refine va_newa (atype := .long) (ty := .long) (a0 := (1, .inr (.inl (fun _ => 0)))) hx hb (hts (.arrayClass .long) (by decide +kernel)) rfl hK hP hD hS hA (fun _ => rfl) (by decide) (by decide) (by decide) (Nat.le_of_ble_eq_true rfl) (Nat.le_of_ble_eq_true rfl) dL_law_17 (fun ao cAo H hK2 hP hD hS => ?_)
  have hP := hP.sub (ws' := FW q cy g 0 ++ MW z cy 0) [0, 1, 2, 3, 4, 5, 6, 7, 8, 9, 10, 11, 12, 13, 14, 15, 16, 17, 18, 19, 20, 21, 22, 23, 24, 25, 26, 27, 28, 29, 30, 31, 32, 33, 34, 35, 36, 37, 38] rfl
  have hD := hD.sub (ws' := FW q cy g 0 ++ MW z cy 0) [0, 1, 2, 3, 4, 5, 6, 7, 8, 9, 10, 11, 12, 13, 14, 15, 16, 17, 18, 19, 20, 21, 22, 23, 24, 25, 26, 27, 28, 29, 30, 31, 32, 33, 34, 35, 36, 37, 38] (by decide) rfl
  refine lv_astore_n (lv' := [(3, .ref ao), (2, .ref (z 58)), (1, .ref (q 0)), (0, .ref b)]) hx hb dL_law_19 rfl hl (by decide) rfl (fun ls hl => ?_)
  refine lv_iconst (v := 0) hx hb dL_law_20 (by decide) ?_
  refine lv_istore (lv' := [(4, .int 0), (3, .ref ao), (2, .ref (z 58)), (1, .ref (q 0)), (0, .ref b)]) hx hb dL_law_21 hl (by decide) rfl (fun ls hl => ?_)
  rcases (show L = 5 ∨ L = 0 ∨ L = 1 ∨ L = 2 ∨ L = 3 ∨ L = 4 by omega) with rfl | rfl | rfl | rfl | rfl | rfl
  · skip
    refine lv_iload hx hb dL_law_23 (lv_at hl 0 rfl) ?_
    refine lv_aload_n hx hb dL_law_25 rfl (lv_at hl 4 rfl) ?_
    refine va_slen hx hb hX hbl hbA hS dL_law_26 ?_
    refine lv_topi (fun y1 ey1 => ?_)
    obtain rfl : y1 = 5 := ey1.trans (by decide)
    refine lv_iconst (v := 5) hx hb dL_law_27 (by decide) ?_
    refine lv_isub hx hb dL_law_28 ?_
    refine lv_topi (fun y2 ey2 => ?_)
    obtain rfl : y2 = 0 := ey2.trans (by decide)
    refine lv_icmp_gt (tgt := 1002) hx hb dL_law_29 (by decide) (fun c9 => absurd c9 (by decide)) (fun _ => ?_)
    refine lv_aload_n hx hb dL_law_32 rfl (lv_at hl 4 rfl) ?_
    refine lv_iload hx hb dL_law_33 (lv_at hl 0 rfl) ?_
    refine va_sld hx hb hX hbl hbA hS (vp_in_iff.mpr (by decide)) dL_law_35 ?_
    refine lv_topi (fun y3 ey3 => ?_)
    obtain rfl : x0 = y3 := hx0.trans ey3.symm
    refine lv_bipush (v := 31) hx hb dL_law_36 (by decide) ?_
    refine lv_iand hx hb dL_law_38 ?_
    refine lv_topi (fun wd ewd => ?_)
    by_cases j4 : wd = 0
    · skip
      subst j4
      refine lv_tableIn (tgt := 136) hx hb dL_law_39 (by decide) (by decide) rfl (by decide) ?_
      refine lv_aload_n hx hb dL_law_136 rfl (lv_at hl 3 rfl) ?_
      refine lv_aload_n hx hb dL_law_137 rfl (lv_at hl 4 rfl) ?_
      refine lv_iload hx hb dL_law_138 (lv_at hl 0 rfl) ?_
      refine lv_iconst (v := 1) hx hb dL_law_140 (by decide) ?_
      refine lv_iadd hx hb dL_law_141 ?_
      refine lv_topi (fun y5 ey5 => ?_)
      obtain rfl : y5 = 1 := ey5.trans (by decide)
      refine va_sld hx hb hX hbl hbA hS (vp_in_iff.mpr (by decide)) dL_law_142 ?_
      refine lv_topi (fun y6 ey6 => ?_)
      obtain rfl : x1 = y6 := hx1.trans ey6.symm
      refine lv_if_eq (tgt := 150) hx hb dL_law_143 (by decide) (fun c7 => ?_) (fun c7 => ?_)
      · skip
        refine lv_iconst (v := 0) hx hb dL_law_150 (by decide) ?_
        refine cvI (wr := MW z cy 0) (As := [.int 0]) (rest := []) ⟨hx, hb, hml, hown, hts0⟩ (mX9_desk l D q cy g _ 0 (Or.inl rfl)) (cwV 1 hts0 gL_law_X9_desk rfl rfl rfl (by decide +kernel) ⟨Nat.le_of_ble_eq_true rfl, Nat.le_of_ble_eq_true rfl⟩) hK hP hD hS hA [0, 1, 2, 3, 4, 5, 6, 7, 8, 9, 10, 11, 12, 13, 14, 15, 16, 17, 18, 19, 20, 21] [22, 23, 24, 25, 26, 27, 28, 29, 30, 31, 32, 33, 34, 35, 36, 37, 38] rfl rfl (by decide) (by decide) (by decide) 0 9 rfl rfl rfl hl.1 rfl (Nat.le_of_ble_eq_true rfl) dL_law_151 ⟨(Nat.le_of_ble_eq_true rfl), (Nat.le_of_ble_eq_true rfl)⟩ (fun r8 H locs hr8 hP hD hS => ?_)
        obtain rfl : r8 = 0 := hr8
        have hP := hP.sub (ws' := MW z cy 0) [0, 1, 2, 3, 4, 5, 6, 7, 8, 9, 10, 11, 12, 13, 14, 15, 16] rfl
        have hD := hD.sub (ws' := MW z cy 0) [0, 1, 2, 3, 4, 5, 6, 7, 8, 9, 10, 11, 12, 13, 14, 15, 16] (by decide) rfl
        refine lv_aload_n hx hb dL_law_154 rfl (lv_at hl 2 rfl) ?_
        refine lv_aload_n hx hb dL_law_155 rfl (lv_at hl 4 rfl) ?_
        refine lv_iload hx hb dL_law_156 (lv_at hl 0 rfl) ?_
        refine lv_iconst (v := 1) hx hb dL_law_158 (by decide) ?_
        refine lv_iadd hx hb dL_law_159 ?_
        refine lv_topi (fun y9 ey9 => ?_)
        obtain rfl : y9 = 1 := ey9.trans (by decide)
        refine va_sld hx hb hX hbl hbA hS (vp_in_iff.mpr (by decide)) dL_law_160 ?_
        refine lv_topi (fun y10 ey10 => ?_)
        obtain rfl : x1 = y10 := hx1.trans ey10.symm
        refine lv_if_eq (tgt := 168) hx hb dL_law_161 (by decide) (fun _ => ?_) (fun c9 => absurd (c7) c9)
        refine lv_iconst (v := 0) hx hb dL_law_168 (by decide) ?_
        refine cvI (wr := []) (As := [.int 0]) (rest := [.int 0]) ⟨hx, hb, hml, hown, hts0⟩ (mX10_desk l D z cy _ 0 ) (cwV 1 hts0 gL_law_X10_desk rfl rfl rfl (by decide +kernel) ⟨Nat.le_of_ble_eq_true rfl, Nat.le_of_ble_eq_true rfl⟩) hK hP hD hS hA [0, 1, 2, 3, 4, 5, 6, 7, 8, 9, 10, 11, 12, 13, 14, 15, 16] [] rfl rfl (by decide) (by decide) (by decide) 0 10 rfl rfl rfl hl.1 rfl (Nat.le_of_ble_eq_true rfl) dL_law_169 ⟨(Nat.le_of_ble_eq_true rfl), (Nat.le_of_ble_eq_true rfl)⟩ (fun r11 H locs hr11 hP hD hS => ?_)
        obtain rfl : r11 = 0 := hr11
        refine lv_icmp_eq (tgt := 996) hx hb dL_law_172 (by decide) (fun _ => ?_) (fun c9 => absurd (by decide) c9)
        refine lv_iinc (v := 5) (lv' := [(4, .int 5), (3, .ref ao), (2, .ref (z 58)), (1, .ref (q 0)), (0, .ref b)]) hx hb dL_law_996 hl (k := 0) rfl (by decide) (by decide) rfl (fun ls hl => ?_)
        refine lv_goto (tgt := 23) hx hb dL_law_999 (by decide) ?_
        refine lv_iload hx hb dL_law_23 (lv_at hl 0 rfl) ?_
        refine lv_aload_n hx hb dL_law_25 rfl (lv_at hl 4 rfl) ?_
        refine va_slen hx hb hX hbl hbA hS dL_law_26 ?_
        refine lv_topi (fun y12 ey12 => ?_)
        obtain rfl : y12 = 5 := ey12.trans (by decide)
        refine lv_iconst (v := 5) hx hb dL_law_27 (by decide) ?_
        refine lv_isub hx hb dL_law_28 ?_
        refine lv_topi (fun y13 ey13 => ?_)
        obtain rfl : y13 = 0 := ey13.trans (by decide)
        refine lv_icmp_gt (tgt := 1002) hx hb dL_law_29 (by decide) (fun _ => ?_) (fun c9 => absurd (by decide) c9)
        refine lv_iconst (v := 1) hx hb dL_law_1002 (by decide) ?_
        refine va_forget (fun q9 h9 => hS.2.2 q9 h9) ?_
        refine W.widen (k := 600002) (n := 7302232) (Nat.le_of_ble_eq_true rfl) (Nat.le_of_ble_eq_true rfl) ?_
        exact lw_ret hx hb hr hlocks dL_law_1003
      · skip
        refine lv_iconst (v := 1) hx hb dL_law_146 (by decide) ?_
        refine lv_goto (tgt := 151) hx hb dL_law_147 (by decide) ?_
        refine cvI (wr := MW z cy 0) (As := [.int 1]) (rest := []) ⟨hx, hb, hml, hown, hts0⟩ (mX9_desk l D q cy g _ 1 (Or.inr rfl)) (cwV 1 hts0 gL_law_X9_desk rfl rfl rfl (by decide +kernel) ⟨Nat.le_of_ble_eq_true rfl, Nat.le_of_ble_eq_true rfl⟩) hK hP hD hS hA [0, 1, 2, 3, 4, 5, 6, 7, 8, 9, 10, 11, 12, 13, 14, 15, 16, 17, 18, 19, 20, 21] [22, 23, 24, 25, 26, 27, 28, 29, 30, 31, 32, 33, 34, 35, 36, 37, 38] rfl rfl (by decide) (by decide) (by decide) 0 9 rfl rfl rfl hl.1 rfl (Nat.le_of_ble_eq_true rfl) dL_law_151 ⟨(Nat.le_of_ble_eq_true rfl), (Nat.le_of_ble_eq_true rfl)⟩ (fun r14 H locs hr14 hP hD hS => ?_)
        obtain rfl : r14 = 0 := hr14
        have hP := hP.sub (ws' := MW z cy 0) [0, 1, 2, 3, 4, 5, 6, 7, 8, 9, 10, 11, 12, 13, 14, 15, 16] rfl
        have hD := hD.sub (ws' := MW z cy 0) [0, 1, 2, 3, 4, 5, 6, 7, 8, 9, 10, 11, 12, 13, 14, 15, 16] (by decide) rfl
        refine lv_aload_n hx hb dL_law_154 rfl (lv_at hl 2 rfl) ?_
        refine lv_aload_n hx hb dL_law_155 rfl (lv_at hl 4 rfl) ?_
        refine lv_iload hx hb dL_law_156 (lv_at hl 0 rfl) ?_
        refine lv_iconst (v := 1) hx hb dL_law_158 (by decide) ?_
        refine lv_iadd hx hb dL_law_159 ?_
        refine lv_topi (fun y15 ey15 => ?_)
        obtain rfl : y15 = 1 := ey15.trans (by decide)
        refine va_sld hx hb hX hbl hbA hS (vp_in_iff.mpr (by decide)) dL_law_160 ?_
        refine lv_topi (fun y16 ey16 => ?_)
        obtain rfl : x1 = y16 := hx1.trans ey16.symm
        refine lv_if_eq (tgt := 168) hx hb dL_law_161 (by decide) (fun c9 => absurd c9 (c7)) (fun _ => ?_)
        refine lv_iconst (v := 1) hx hb dL_law_164 (by decide) ?_
        refine lv_goto (tgt := 169) hx hb dL_law_165 (by decide) ?_
        refine cvI (wr := []) (As := [.int 1]) (rest := [.int 0]) ⟨hx, hb, hml, hown, hts0⟩ (mX10_desk l D z cy _ 1 ) (cwV 1 hts0 gL_law_X10_desk rfl rfl rfl (by decide +kernel) ⟨Nat.le_of_ble_eq_true rfl, Nat.le_of_ble_eq_true rfl⟩) hK hP hD hS hA [0, 1, 2, 3, 4, 5, 6, 7, 8, 9, 10, 11, 12, 13, 14, 15, 16] [] rfl rfl (by decide) (by decide) (by decide) 0 10 rfl rfl rfl hl.1 rfl (Nat.le_of_ble_eq_true rfl) dL_law_169 ⟨(Nat.le_of_ble_eq_true rfl), (Nat.le_of_ble_eq_true rfl)⟩ (fun r17 H locs hr17 hP hD hS => ?_)
        obtain rfl : r17 = 0 := hr17
        refine lv_icmp_eq (tgt := 996) hx hb dL_law_172 (by decide) (fun _ => ?_) (fun c9 => absurd (by decide) c9)
        refine lv_iinc (v := 5) (lv' := [(4, .int 5), (3, .ref ao), (2, .ref (z 58)), (1, .ref (q 0)), (0, .ref b)]) hx hb dL_law_996 hl (k := 0) rfl (by decide) (by decide) rfl (fun ls hl => ?_)
        refine lv_goto (tgt := 23) hx hb dL_law_999 (by decide) ?_
        refine lv_iload hx hb dL_law_23 (lv_at hl 0 rfl) ?_
        refine lv_aload_n hx hb dL_law_25 rfl (lv_at hl 4 rfl) ?_
        refine va_slen hx hb hX hbl hbA hS dL_law_26 ?_
        refine lv_topi (fun y18 ey18 => ?_)
        obtain rfl : y18 = 5 := ey18.trans (by decide)
        refine lv_iconst (v := 5) hx hb dL_law_27 (by decide) ?_
        refine lv_isub hx hb dL_law_28 ?_
        refine lv_topi (fun y19 ey19 => ?_)
        obtain rfl : y19 = 0 := ey19.trans (by decide)
        refine lv_icmp_gt (tgt := 1002) hx hb dL_law_29 (by decide) (fun _ => ?_) (fun c9 => absurd (by decide) c9)
        refine lv_iconst (v := 1) hx hb dL_law_1002 (by decide) ?_
        refine va_forget (fun q9 h9 => hS.2.2 q9 h9) ?_
        refine W.widen (k := 600002) (n := 7302232) (Nat.le_of_ble_eq_true rfl) (Nat.le_of_ble_eq_true rfl) ?_
        exact lw_ret hx hb hr hlocks dL_law_1003
    by_cases j20 : wd = 1
    · skip
      subst j20
      refine lv_tableIn (tgt := 177) hx hb dL_law_39 (by decide) (by decide) rfl (by decide) ?_
      refine lv_aload_n hx hb dL_law_177 rfl (lv_at hl 3 rfl) ?_
      refine lv_aload_n hx hb dL_law_178 rfl (lv_at hl 4 rfl) ?_
      refine lv_iload hx hb dL_law_179 (lv_at hl 0 rfl) ?_
      refine lv_iconst (v := 1) hx hb dL_law_181 (by decide) ?_
      refine lv_iadd hx hb dL_law_182 ?_
      refine lv_topi (fun y21 ey21 => ?_)
      obtain rfl : y21 = 1 := ey21.trans (by decide)
      refine va_sld hx hb hX hbl hbA hS (vp_in_iff.mpr (by decide)) dL_law_183 ?_
      refine lv_topi (fun y22 ey22 => ?_)
      obtain rfl : x1 = y22 := hx1.trans ey22.symm
      refine lv_aload_n hx hb dL_law_184 rfl (lv_at hl 4 rfl) ?_
      refine lv_iload hx hb dL_law_185 (lv_at hl 0 rfl) ?_
      refine lv_iconst (v := 2) hx hb dL_law_187 (by decide) ?_
      refine lv_iadd hx hb dL_law_188 ?_
      refine lv_topi (fun y23 ey23 => ?_)
      obtain rfl : y23 = 2 := ey23.trans (by decide)
      refine va_sld hx hb hX hbl hbA hS (vp_in_iff.mpr (by decide)) dL_law_189 ?_
      refine lv_topi (fun y24 ey24 => ?_)
      obtain rfl : x2 = y24 := hx2.trans ey24.symm
      refine lv_if_eq (tgt := 197) hx hb dL_law_190 (by decide) (fun c25 => ?_) (fun c25 => ?_)
      · skip
        refine lv_iconst (v := 0) hx hb dL_law_197 (by decide) ?_
        refine cvI (wr := MW z cy 0) (As := [.int x1, .int 0]) (rest := []) ⟨hx, hb, hml, hown, hts0⟩ (mX9_box l D q cy g _ x1 0 (Or.inl rfl)) (cwV 2 hts0 gL_law_X9_box rfl rfl rfl (by decide +kernel) ⟨Nat.le_of_ble_eq_true rfl, Nat.le_of_ble_eq_true rfl⟩) hK hP hD hS hA [0, 1, 2, 3, 4, 5, 6, 7, 8, 9, 10, 11, 12, 13, 14, 15, 16, 17, 18, 19, 20, 21] [22, 23, 24, 25, 26, 27, 28, 29, 30, 31, 32, 33, 34, 35, 36, 37, 38] rfl rfl (by decide) (by decide) (by decide) 0 9 rfl rfl rfl hl.1 rfl (Nat.le_of_ble_eq_true rfl) dL_law_198 ⟨(Nat.le_of_ble_eq_true rfl), (Nat.le_of_ble_eq_true rfl)⟩ (fun r26 H locs hr26 hP hD hS => ?_)
        obtain rfl : r26 = sp_box x1 := hr26
        have hP := hP.sub (ws' := MW z cy 0) [0, 1, 2, 3, 4, 5, 6, 7, 8, 9, 10, 11, 12, 13, 14, 15, 16] rfl
        have hD := hD.sub (ws' := MW z cy 0) [0, 1, 2, 3, 4, 5, 6, 7, 8, 9, 10, 11, 12, 13, 14, 15, 16] (by decide) rfl
        refine lv_aload_n hx hb dL_law_201 rfl (lv_at hl 2 rfl) ?_
        refine lv_aload_n hx hb dL_law_202 rfl (lv_at hl 4 rfl) ?_
        refine lv_iload hx hb dL_law_203 (lv_at hl 0 rfl) ?_
        refine lv_iconst (v := 1) hx hb dL_law_205 (by decide) ?_
        refine lv_iadd hx hb dL_law_206 ?_
        refine lv_topi (fun y27 ey27 => ?_)
        obtain rfl : y27 = 1 := ey27.trans (by decide)
        refine va_sld hx hb hX hbl hbA hS (vp_in_iff.mpr (by decide)) dL_law_207 ?_
        refine lv_topi (fun y28 ey28 => ?_)
        obtain rfl : x1 = y28 := hx1.trans ey28.symm
        refine lv_aload_n hx hb dL_law_208 rfl (lv_at hl 4 rfl) ?_
        refine lv_iload hx hb dL_law_209 (lv_at hl 0 rfl) ?_
        refine lv_iconst (v := 2) hx hb dL_law_211 (by decide) ?_
        refine lv_iadd hx hb dL_law_212 ?_
        refine lv_topi (fun y29 ey29 => ?_)
        obtain rfl : y29 = 2 := ey29.trans (by decide)
        refine va_sld hx hb hX hbl hbA hS (vp_in_iff.mpr (by decide)) dL_law_213 ?_
        refine lv_topi (fun y30 ey30 => ?_)
        obtain rfl : x2 = y30 := hx2.trans ey30.symm
        refine lv_if_eq (tgt := 221) hx hb dL_law_214 (by decide) (fun _ => ?_) (fun c9 => absurd (c25) c9)
        refine lv_iconst (v := 0) hx hb dL_law_221 (by decide) ?_
        refine cvI (wr := []) (As := [.int x1, .int 0]) (rest := [.int (sp_box x1)]) ⟨hx, hb, hml, hown, hts0⟩ (mX10_box l D z cy _ x1 0 ) (cwV 2 hts0 gL_law_X10_box rfl rfl rfl (by decide +kernel) ⟨Nat.le_of_ble_eq_true rfl, Nat.le_of_ble_eq_true rfl⟩) hK hP hD hS hA [0, 1, 2, 3, 4, 5, 6, 7, 8, 9, 10, 11, 12, 13, 14, 15, 16] [] rfl rfl (by decide) (by decide) (by decide) 0 10 rfl rfl rfl hl.1 rfl (Nat.le_of_ble_eq_true rfl) dL_law_222 ⟨(Nat.le_of_ble_eq_true rfl), (Nat.le_of_ble_eq_true rfl)⟩ (fun r31 H locs hr31 hP hD hS => ?_)
        obtain rfl : r31 = sp_box x1 := hr31
        refine lv_icmp_eq (tgt := 996) hx hb dL_law_225 (by decide) (fun _ => ?_) (fun c9 => absurd (rfl) c9)
        refine lv_iinc (v := 5) (lv' := [(4, .int 5), (3, .ref ao), (2, .ref (z 58)), (1, .ref (q 0)), (0, .ref b)]) hx hb dL_law_996 hl (k := 0) rfl (by decide) (by decide) rfl (fun ls hl => ?_)
        refine lv_goto (tgt := 23) hx hb dL_law_999 (by decide) ?_
        refine lv_iload hx hb dL_law_23 (lv_at hl 0 rfl) ?_
        refine lv_aload_n hx hb dL_law_25 rfl (lv_at hl 4 rfl) ?_
        refine va_slen hx hb hX hbl hbA hS dL_law_26 ?_
        refine lv_topi (fun y32 ey32 => ?_)
        obtain rfl : y32 = 5 := ey32.trans (by decide)
        refine lv_iconst (v := 5) hx hb dL_law_27 (by decide) ?_
        refine lv_isub hx hb dL_law_28 ?_
        refine lv_topi (fun y33 ey33 => ?_)
        obtain rfl : y33 = 0 := ey33.trans (by decide)
        refine lv_icmp_gt (tgt := 1002) hx hb dL_law_29 (by decide) (fun _ => ?_) (fun c9 => absurd (by decide) c9)
        refine lv_iconst (v := 1) hx hb dL_law_1002 (by decide) ?_
        refine va_forget (fun q9 h9 => hS.2.2 q9 h9) ?_
        refine W.widen (k := 600002) (n := 7302232) (Nat.le_of_ble_eq_true rfl) (Nat.le_of_ble_eq_true rfl) ?_
        exact lw_ret hx hb hr hlocks dL_law_1003
      · skip
        refine lv_iconst (v := 1) hx hb dL_law_193 (by decide) ?_
        refine lv_goto (tgt := 198) hx hb dL_law_194 (by decide) ?_
        refine cvI (wr := MW z cy 0) (As := [.int x1, .int 1]) (rest := []) ⟨hx, hb, hml, hown, hts0⟩ (mX9_box l D q cy g _ x1 1 (Or.inr rfl)) (cwV 2 hts0 gL_law_X9_box rfl rfl rfl (by decide +kernel) ⟨Nat.le_of_ble_eq_true rfl, Nat.le_of_ble_eq_true rfl⟩) hK hP hD hS hA [0, 1, 2, 3, 4, 5, 6, 7, 8, 9, 10, 11, 12, 13, 14, 15, 16, 17, 18, 19, 20, 21] [22, 23, 24, 25, 26, 27, 28, 29, 30, 31, 32, 33, 34, 35, 36, 37, 38] rfl rfl (by decide) (by decide) (by decide) 0 9 rfl rfl rfl hl.1 rfl (Nat.le_of_ble_eq_true rfl) dL_law_198 ⟨(Nat.le_of_ble_eq_true rfl), (Nat.le_of_ble_eq_true rfl)⟩ (fun r34 H locs hr34 hP hD hS => ?_)
        obtain rfl : r34 = sp_box x1 := hr34
        have hP := hP.sub (ws' := MW z cy 0) [0, 1, 2, 3, 4, 5, 6, 7, 8, 9, 10, 11, 12, 13, 14, 15, 16] rfl
        have hD := hD.sub (ws' := MW z cy 0) [0, 1, 2, 3, 4, 5, 6, 7, 8, 9, 10, 11, 12, 13, 14, 15, 16] (by decide) rfl
        refine lv_aload_n hx hb dL_law_201 rfl (lv_at hl 2 rfl) ?_
        refine lv_aload_n hx hb dL_law_202 rfl (lv_at hl 4 rfl) ?_
        refine lv_iload hx hb dL_law_203 (lv_at hl 0 rfl) ?_
        refine lv_iconst (v := 1) hx hb dL_law_205 (by decide) ?_
        refine lv_iadd hx hb dL_law_206 ?_
        refine lv_topi (fun y35 ey35 => ?_)
        obtain rfl : y35 = 1 := ey35.trans (by decide)
        refine va_sld hx hb hX hbl hbA hS (vp_in_iff.mpr (by decide)) dL_law_207 ?_
        refine lv_topi (fun y36 ey36 => ?_)
        obtain rfl : x1 = y36 := hx1.trans ey36.symm
        refine lv_aload_n hx hb dL_law_208 rfl (lv_at hl 4 rfl) ?_
        refine lv_iload hx hb dL_law_209 (lv_at hl 0 rfl) ?_
        refine lv_iconst (v := 2) hx hb dL_law_211 (by decide) ?_
        refine lv_iadd hx hb dL_law_212 ?_
        refine lv_topi (fun y37 ey37 => ?_)
        obtain rfl : y37 = 2 := ey37.trans (by decide)
        refine va_sld hx hb hX hbl hbA hS (vp_in_iff.mpr (by decide)) dL_law_213 ?_
        refine lv_topi (fun y38 ey38 => ?_)
        obtain rfl : x2 = y38 := hx2.trans ey38.symm
        refine lv_if_eq (tgt := 221) hx hb dL_law_214 (by decide) (fun c9 => absurd c9 (c25)) (fun _ => ?_)
        refine lv_iconst (v := 1) hx hb dL_law_217 (by decide) ?_
        refine lv_goto (tgt := 222) hx hb dL_law_218 (by decide) ?_
        refine cvI (wr := []) (As := [.int x1, .int 1]) (rest := [.int (sp_box x1)]) ⟨hx, hb, hml, hown, hts0⟩ (mX10_box l D z cy _ x1 1 ) (cwV 2 hts0 gL_law_X10_box rfl rfl rfl (by decide +kernel) ⟨Nat.le_of_ble_eq_true rfl, Nat.le_of_ble_eq_true rfl⟩) hK hP hD hS hA [0, 1, 2, 3, 4, 5, 6, 7, 8, 9, 10, 11, 12, 13, 14, 15, 16] [] rfl rfl (by decide) (by decide) (by decide) 0 10 rfl rfl rfl hl.1 rfl (Nat.le_of_ble_eq_true rfl) dL_law_222 ⟨(Nat.le_of_ble_eq_true rfl), (Nat.le_of_ble_eq_true rfl)⟩ (fun r39 H locs hr39 hP hD hS => ?_)
        obtain rfl : r39 = sp_box x1 := hr39
        refine lv_icmp_eq (tgt := 996) hx hb dL_law_225 (by decide) (fun _ => ?_) (fun c9 => absurd (rfl) c9)
        refine lv_iinc (v := 5) (lv' := [(4, .int 5), (3, .ref ao), (2, .ref (z 58)), (1, .ref (q 0)), (0, .ref b)]) hx hb dL_law_996 hl (k := 0) rfl (by decide) (by decide) rfl (fun ls hl => ?_)
        refine lv_goto (tgt := 23) hx hb dL_law_999 (by decide) ?_
        refine lv_iload hx hb dL_law_23 (lv_at hl 0 rfl) ?_
        refine lv_aload_n hx hb dL_law_25 rfl (lv_at hl 4 rfl) ?_
        refine va_slen hx hb hX hbl hbA hS dL_law_26 ?_
        refine lv_topi (fun y40 ey40 => ?_)
        obtain rfl : y40 = 5 := ey40.trans (by decide)
        refine lv_iconst (v := 5) hx hb dL_law_27 (by decide) ?_
        refine lv_isub hx hb dL_law_28 ?_
        refine lv_topi (fun y41 ey41 => ?_)
        obtain rfl : y41 = 0 := ey41.trans (by decide)
        refine lv_icmp_gt (tgt := 1002) hx hb dL_law_29 (by decide) (fun _ => ?_) (fun c9 => absurd (by decide) c9)
        refine lv_iconst (v := 1) hx hb dL_law_1002 (by decide) ?_
        refine va_forget (fun q9 h9 => hS.2.2 q9 h9) ?_
        refine W.widen (k := 600002) (n := 7302232) (Nat.le_of_ble_eq_true rfl) (Nat.le_of_ble_eq_true rfl) ?_
        exact lw_ret hx hb hr hlocks dL_law_1003
    by_cases j42 : wd = 2
    · skip
      subst j42
      refine lv_tableIn (tgt := 230) hx hb dL_law_39 (by decide) (by decide) rfl (by decide) ?_
      refine lv_aload_n hx hb dL_law_230 rfl (lv_at hl 3 rfl) ?_
      refine lv_aload_n hx hb dL_law_231 rfl (lv_at hl 4 rfl) ?_
      refine lv_iload hx hb dL_law_232 (lv_at hl 0 rfl) ?_
      refine lv_iconst (v := 1) hx hb dL_law_234 (by decide) ?_
      refine lv_iadd hx hb dL_law_235 ?_
      refine lv_topi (fun y43 ey43 => ?_)
      obtain rfl : y43 = 1 := ey43.trans (by decide)
      refine va_sld hx hb hX hbl hbA hS (vp_in_iff.mpr (by decide)) dL_law_236 ?_
      refine lv_topi (fun y44 ey44 => ?_)
      obtain rfl : x1 = y44 := hx1.trans ey44.symm
      refine lv_aload_n hx hb dL_law_237 rfl (lv_at hl 4 rfl) ?_
      refine lv_iload hx hb dL_law_238 (lv_at hl 0 rfl) ?_
      refine lv_iconst (v := 2) hx hb dL_law_240 (by decide) ?_
      refine lv_iadd hx hb dL_law_241 ?_
      refine lv_topi (fun y45 ey45 => ?_)
      obtain rfl : y45 = 2 := ey45.trans (by decide)
      refine va_sld hx hb hX hbl hbA hS (vp_in_iff.mpr (by decide)) dL_law_242 ?_
      refine lv_topi (fun y46 ey46 => ?_)
      obtain rfl : x2 = y46 := hx2.trans ey46.symm
      refine lv_aload_n hx hb dL_law_243 rfl (lv_at hl 4 rfl) ?_
      refine lv_iload hx hb dL_law_244 (lv_at hl 0 rfl) ?_
      refine lv_iconst (v := 3) hx hb dL_law_246 (by decide) ?_
      refine lv_iadd hx hb dL_law_247 ?_
      refine lv_topi (fun y47 ey47 => ?_)
      obtain rfl : y47 = 3 := ey47.trans (by decide)
      refine va_sld hx hb hX hbl hbA hS (vp_in_iff.mpr (by decide)) dL_law_248 ?_
      refine lv_topi (fun y48 ey48 => ?_)
      obtain rfl : x3 = y48 := hx3.trans ey48.symm
      refine cvI (wr := MW z cy 0) (As := [.int x1, .int x2, .int x3]) (rest := []) ⟨hx, hb, hml, hown, hts0⟩ (mX9_people l D q cy g _ x1 x2 x3 ) (cwV 3 hts0 gL_law_X9_people rfl rfl rfl (by decide +kernel) ⟨Nat.le_of_ble_eq_true rfl, Nat.le_of_ble_eq_true rfl⟩) hK hP hD hS hA [0, 1, 2, 3, 4, 5, 6, 7, 8, 9, 10, 11, 12, 13, 14, 15, 16, 17, 18, 19, 20, 21] [22, 23, 24, 25, 26, 27, 28, 29, 30, 31, 32, 33, 34, 35, 36, 37, 38] rfl rfl (by decide) (by decide) (by decide) 0 9 rfl rfl rfl hl.1 rfl (Nat.le_of_ble_eq_true rfl) dL_law_249 ⟨(Nat.le_of_ble_eq_true rfl), (Nat.le_of_ble_eq_true rfl)⟩ (fun r49 H locs hr49 hP hD hS => ?_)
      obtain rfl : r49 = sp_people x1 x2 x3 := hr49
      have hP := hP.sub (ws' := MW z cy 0) [0, 1, 2, 3, 4, 5, 6, 7, 8, 9, 10, 11, 12, 13, 14, 15, 16] rfl
      have hD := hD.sub (ws' := MW z cy 0) [0, 1, 2, 3, 4, 5, 6, 7, 8, 9, 10, 11, 12, 13, 14, 15, 16] (by decide) rfl
      refine lv_aload_n hx hb dL_law_252 rfl (lv_at hl 2 rfl) ?_
      refine lv_aload_n hx hb dL_law_253 rfl (lv_at hl 4 rfl) ?_
      refine lv_iload hx hb dL_law_254 (lv_at hl 0 rfl) ?_
      refine lv_iconst (v := 1) hx hb dL_law_256 (by decide) ?_
      refine lv_iadd hx hb dL_law_257 ?_
      refine lv_topi (fun y50 ey50 => ?_)
      obtain rfl : y50 = 1 := ey50.trans (by decide)
      refine va_sld hx hb hX hbl hbA hS (vp_in_iff.mpr (by decide)) dL_law_258 ?_
      refine lv_topi (fun y51 ey51 => ?_)
      obtain rfl : x1 = y51 := hx1.trans ey51.symm
      refine lv_aload_n hx hb dL_law_259 rfl (lv_at hl 4 rfl) ?_
      refine lv_iload hx hb dL_law_260 (lv_at hl 0 rfl) ?_
      refine lv_iconst (v := 2) hx hb dL_law_262 (by decide) ?_
      refine lv_iadd hx hb dL_law_263 ?_
      refine lv_topi (fun y52 ey52 => ?_)
      obtain rfl : y52 = 2 := ey52.trans (by decide)
      refine va_sld hx hb hX hbl hbA hS (vp_in_iff.mpr (by decide)) dL_law_264 ?_
      refine lv_topi (fun y53 ey53 => ?_)
      obtain rfl : x2 = y53 := hx2.trans ey53.symm
      refine lv_aload_n hx hb dL_law_265 rfl (lv_at hl 4 rfl) ?_
      refine lv_iload hx hb dL_law_266 (lv_at hl 0 rfl) ?_
      refine lv_iconst (v := 3) hx hb dL_law_268 (by decide) ?_
      refine lv_iadd hx hb dL_law_269 ?_
      refine lv_topi (fun y54 ey54 => ?_)
      obtain rfl : y54 = 3 := ey54.trans (by decide)
      refine va_sld hx hb hX hbl hbA hS (vp_in_iff.mpr (by decide)) dL_law_270 ?_
      refine lv_topi (fun y55 ey55 => ?_)
      obtain rfl : x3 = y55 := hx3.trans ey55.symm
      refine cvI (wr := []) (As := [.int x1, .int x2, .int x3]) (rest := [.int (sp_people x1 x2 x3)]) ⟨hx, hb, hml, hown, hts0⟩ (mX10_people l D z cy _ x1 x2 x3 ) (cwV 3 hts0 gL_law_X10_people rfl rfl rfl (by decide +kernel) ⟨Nat.le_of_ble_eq_true rfl, Nat.le_of_ble_eq_true rfl⟩) hK hP hD hS hA [0, 1, 2, 3, 4, 5, 6, 7, 8, 9, 10, 11, 12, 13, 14, 15, 16] [] rfl rfl (by decide) (by decide) (by decide) 0 10 rfl rfl rfl hl.1 rfl (Nat.le_of_ble_eq_true rfl) dL_law_271 ⟨(Nat.le_of_ble_eq_true rfl), (Nat.le_of_ble_eq_true rfl)⟩ (fun r56 H locs hr56 hP hD hS => ?_)
      obtain rfl : r56 = sp_people x1 x2 x3 := hr56
      refine lv_icmp_eq (tgt := 996) hx hb dL_law_274 (by decide) (fun _ => ?_) (fun c9 => absurd (rfl) c9)
      refine lv_iinc (v := 5) (lv' := [(4, .int 5), (3, .ref ao), (2, .ref (z 58)), (1, .ref (q 0)), (0, .ref b)]) hx hb dL_law_996 hl (k := 0) rfl (by decide) (by decide) rfl (fun ls hl => ?_)
      refine lv_goto (tgt := 23) hx hb dL_law_999 (by decide) ?_
      refine lv_iload hx hb dL_law_23 (lv_at hl 0 rfl) ?_
      refine lv_aload_n hx hb dL_law_25 rfl (lv_at hl 4 rfl) ?_
      refine va_slen hx hb hX hbl hbA hS dL_law_26 ?_
      refine lv_topi (fun y57 ey57 => ?_)
      obtain rfl : y57 = 5 := ey57.trans (by decide)
      refine lv_iconst (v := 5) hx hb dL_law_27 (by decide) ?_
      refine lv_isub hx hb dL_law_28 ?_
      refine lv_topi (fun y58 ey58 => ?_)
      obtain rfl : y58 = 0 := ey58.trans (by decide)
      refine lv_icmp_gt (tgt := 1002) hx hb dL_law_29 (by decide) (fun _ => ?_) (fun c9 => absurd (by decide) c9)
      refine lv_iconst (v := 1) hx hb dL_law_1002 (by decide) ?_
      refine va_forget (fun q9 h9 => hS.2.2 q9 h9) ?_
      refine W.widen (k := 600002) (n := 7302232) (Nat.le_of_ble_eq_true rfl) (Nat.le_of_ble_eq_true rfl) ?_
      exact lw_ret hx hb hr hlocks dL_law_1003
    by_cases j59 : wd = 3
    · skip
      subst j59
      refine lv_tableIn (tgt := 279) hx hb dL_law_39 (by decide) (by decide) rfl (by decide) ?_
      refine lv_aload_n hx hb dL_law_279 rfl (lv_at hl 3 rfl) ?_
      refine lv_aload_n hx hb dL_law_280 rfl (lv_at hl 4 rfl) ?_
      refine lv_iload hx hb dL_law_281 (lv_at hl 0 rfl) ?_
      refine lv_iconst (v := 1) hx hb dL_law_283 (by decide) ?_
      refine lv_iadd hx hb dL_law_284 ?_
      refine lv_topi (fun y60 ey60 => ?_)
      obtain rfl : y60 = 1 := ey60.trans (by decide)
      refine va_sld hx hb hX hbl hbA hS (vp_in_iff.mpr (by decide)) dL_law_285 ?_
      refine lv_topi (fun y61 ey61 => ?_)
      obtain rfl : x1 = y61 := hx1.trans ey61.symm
      refine lv_aload_n hx hb dL_law_286 rfl (lv_at hl 4 rfl) ?_
      refine lv_iload hx hb dL_law_287 (lv_at hl 0 rfl) ?_
      refine lv_iconst (v := 2) hx hb dL_law_289 (by decide) ?_
      refine lv_iadd hx hb dL_law_290 ?_
      refine lv_topi (fun y62 ey62 => ?_)
      obtain rfl : y62 = 2 := ey62.trans (by decide)
      refine va_sld hx hb hX hbl hbA hS (vp_in_iff.mpr (by decide)) dL_law_291 ?_
      refine lv_topi (fun y63 ey63 => ?_)
      obtain rfl : x2 = y63 := hx2.trans ey63.symm
      refine lv_aload_n hx hb dL_law_292 rfl (lv_at hl 4 rfl) ?_
      refine lv_iload hx hb dL_law_293 (lv_at hl 0 rfl) ?_
      refine lv_iconst (v := 3) hx hb dL_law_295 (by decide) ?_
      refine lv_iadd hx hb dL_law_296 ?_
      refine lv_topi (fun y64 ey64 => ?_)
      obtain rfl : y64 = 3 := ey64.trans (by decide)
      refine va_sld hx hb hX hbl hbA hS (vp_in_iff.mpr (by decide)) dL_law_297 ?_
      refine lv_topi (fun y65 ey65 => ?_)
      obtain rfl : x3 = y65 := hx3.trans ey65.symm
      refine lv_if_eq (tgt := 305) hx hb dL_law_298 (by decide) (fun c66 => ?_) (fun c66 => ?_)
      · skip
        refine lv_iconst (v := 0) hx hb dL_law_305 (by decide) ?_
        refine cvI (wr := MW z cy 0) (As := [.int x1, .int x2, .int 0]) (rest := []) ⟨hx, hb, hml, hown, hts0⟩ (mX9_reader l D q cy g _ x1 x2 0 (Or.inl rfl)) (cwV 3 hts0 gL_law_X9_reader rfl rfl rfl (by decide +kernel) ⟨Nat.le_of_ble_eq_true rfl, Nat.le_of_ble_eq_true rfl⟩) hK hP hD hS hA [0, 1, 2, 3, 4, 5, 6, 7, 8, 9, 10, 11, 12, 13, 14, 15, 16, 17, 18, 19, 20, 21] [22, 23, 24, 25, 26, 27, 28, 29, 30, 31, 32, 33, 34, 35, 36, 37, 38] rfl rfl (by decide) (by decide) (by decide) 0 9 rfl rfl rfl hl.1 rfl (Nat.le_of_ble_eq_true rfl) dL_law_306 ⟨(Nat.le_of_ble_eq_true rfl), (Nat.le_of_ble_eq_true rfl)⟩ (fun r67 H locs hr67 hP hD hS => ?_)
        obtain rfl : r67 = sp_reader x1 x2 := hr67
        have hP := hP.sub (ws' := MW z cy 0) [0, 1, 2, 3, 4, 5, 6, 7, 8, 9, 10, 11, 12, 13, 14, 15, 16] rfl
        have hD := hD.sub (ws' := MW z cy 0) [0, 1, 2, 3, 4, 5, 6, 7, 8, 9, 10, 11, 12, 13, 14, 15, 16] (by decide) rfl
        refine lv_aload_n hx hb dL_law_309 rfl (lv_at hl 2 rfl) ?_
        refine lv_aload_n hx hb dL_law_310 rfl (lv_at hl 4 rfl) ?_
        refine lv_iload hx hb dL_law_311 (lv_at hl 0 rfl) ?_
        refine lv_iconst (v := 1) hx hb dL_law_313 (by decide) ?_
        refine lv_iadd hx hb dL_law_314 ?_
        refine lv_topi (fun y68 ey68 => ?_)
        obtain rfl : y68 = 1 := ey68.trans (by decide)
        refine va_sld hx hb hX hbl hbA hS (vp_in_iff.mpr (by decide)) dL_law_315 ?_
        refine lv_topi (fun y69 ey69 => ?_)
        obtain rfl : x1 = y69 := hx1.trans ey69.symm
        refine lv_aload_n hx hb dL_law_316 rfl (lv_at hl 4 rfl) ?_
        refine lv_iload hx hb dL_law_317 (lv_at hl 0 rfl) ?_
        refine lv_iconst (v := 2) hx hb dL_law_319 (by decide) ?_
        refine lv_iadd hx hb dL_law_320 ?_
        refine lv_topi (fun y70 ey70 => ?_)
        obtain rfl : y70 = 2 := ey70.trans (by decide)
        refine va_sld hx hb hX hbl hbA hS (vp_in_iff.mpr (by decide)) dL_law_321 ?_
        refine lv_topi (fun y71 ey71 => ?_)
        obtain rfl : x2 = y71 := hx2.trans ey71.symm
        refine lv_aload_n hx hb dL_law_322 rfl (lv_at hl 4 rfl) ?_
        refine lv_iload hx hb dL_law_323 (lv_at hl 0 rfl) ?_
        refine lv_iconst (v := 3) hx hb dL_law_325 (by decide) ?_
        refine lv_iadd hx hb dL_law_326 ?_
        refine lv_topi (fun y72 ey72 => ?_)
        obtain rfl : y72 = 3 := ey72.trans (by decide)
        refine va_sld hx hb hX hbl hbA hS (vp_in_iff.mpr (by decide)) dL_law_327 ?_
        refine lv_topi (fun y73 ey73 => ?_)
        obtain rfl : x3 = y73 := hx3.trans ey73.symm
        refine lv_if_eq (tgt := 335) hx hb dL_law_328 (by decide) (fun _ => ?_) (fun c9 => absurd (c66) c9)
        refine lv_iconst (v := 0) hx hb dL_law_335 (by decide) ?_
        refine cvI (wr := []) (As := [.int x1, .int x2, .int 0]) (rest := [.int (sp_reader x1 x2)]) ⟨hx, hb, hml, hown, hts0⟩ (mX10_reader l D z cy _ x1 x2 0 ) (cwV 3 hts0 gL_law_X10_reader rfl rfl rfl (by decide +kernel) ⟨Nat.le_of_ble_eq_true rfl, Nat.le_of_ble_eq_true rfl⟩) hK hP hD hS hA [0, 1, 2, 3, 4, 5, 6, 7, 8, 9, 10, 11, 12, 13, 14, 15, 16] [] rfl rfl (by decide) (by decide) (by decide) 0 10 rfl rfl rfl hl.1 rfl (Nat.le_of_ble_eq_true rfl) dL_law_336 ⟨(Nat.le_of_ble_eq_true rfl), (Nat.le_of_ble_eq_true rfl)⟩ (fun r74 H locs hr74 hP hD hS => ?_)
        obtain rfl : r74 = sp_reader x1 x2 := hr74
        refine lv_icmp_eq (tgt := 996) hx hb dL_law_339 (by decide) (fun _ => ?_) (fun c9 => absurd (rfl) c9)
        refine lv_iinc (v := 5) (lv' := [(4, .int 5), (3, .ref ao), (2, .ref (z 58)), (1, .ref (q 0)), (0, .ref b)]) hx hb dL_law_996 hl (k := 0) rfl (by decide) (by decide) rfl (fun ls hl => ?_)
        refine lv_goto (tgt := 23) hx hb dL_law_999 (by decide) ?_
        refine lv_iload hx hb dL_law_23 (lv_at hl 0 rfl) ?_
        refine lv_aload_n hx hb dL_law_25 rfl (lv_at hl 4 rfl) ?_
        refine va_slen hx hb hX hbl hbA hS dL_law_26 ?_
        refine lv_topi (fun y75 ey75 => ?_)
        obtain rfl : y75 = 5 := ey75.trans (by decide)
        refine lv_iconst (v := 5) hx hb dL_law_27 (by decide) ?_
        refine lv_isub hx hb dL_law_28 ?_
        refine lv_topi (fun y76 ey76 => ?_)
        obtain rfl : y76 = 0 := ey76.trans (by decide)
        refine lv_icmp_gt (tgt := 1002) hx hb dL_law_29 (by decide) (fun _ => ?_) (fun c9 => absurd (by decide) c9)
        refine lv_iconst (v := 1) hx hb dL_law_1002 (by decide) ?_
        refine va_forget (fun q9 h9 => hS.2.2 q9 h9) ?_
        refine W.widen (k := 600002) (n := 7302232) (Nat.le_of_ble_eq_true rfl) (Nat.le_of_ble_eq_true rfl) ?_
        exact lw_ret hx hb hr hlocks dL_law_1003
      · skip
        refine lv_iconst (v := 1) hx hb dL_law_301 (by decide) ?_
        refine lv_goto (tgt := 306) hx hb dL_law_302 (by decide) ?_
        refine cvI (wr := MW z cy 0) (As := [.int x1, .int x2, .int 1]) (rest := []) ⟨hx, hb, hml, hown, hts0⟩ (mX9_reader l D q cy g _ x1 x2 1 (Or.inr rfl)) (cwV 3 hts0 gL_law_X9_reader rfl rfl rfl (by decide +kernel) ⟨Nat.le_of_ble_eq_true rfl, Nat.le_of_ble_eq_true rfl⟩) hK hP hD hS hA [0, 1, 2, 3, 4, 5, 6, 7, 8, 9, 10, 11, 12, 13, 14, 15, 16, 17, 18, 19, 20, 21] [22, 23, 24, 25, 26, 27, 28, 29, 30, 31, 32, 33, 34, 35, 36, 37, 38] rfl rfl (by decide) (by decide) (by decide) 0 9 rfl rfl rfl hl.1 rfl (Nat.le_of_ble_eq_true rfl) dL_law_306 ⟨(Nat.le_of_ble_eq_true rfl), (Nat.le_of_ble_eq_true rfl)⟩ (fun r77 H locs hr77 hP hD hS => ?_)
        obtain rfl : r77 = sp_reader x1 x2 := hr77
        have hP := hP.sub (ws' := MW z cy 0) [0, 1, 2, 3, 4, 5, 6, 7, 8, 9, 10, 11, 12, 13, 14, 15, 16] rfl
        have hD := hD.sub (ws' := MW z cy 0) [0, 1, 2, 3, 4, 5, 6, 7, 8, 9, 10, 11, 12, 13, 14, 15, 16] (by decide) rfl
        refine lv_aload_n hx hb dL_law_309 rfl (lv_at hl 2 rfl) ?_
        refine lv_aload_n hx hb dL_law_310 rfl (lv_at hl 4 rfl) ?_
        refine lv_iload hx hb dL_law_311 (lv_at hl 0 rfl) ?_
        refine lv_iconst (v := 1) hx hb dL_law_313 (by decide) ?_
        refine lv_iadd hx hb dL_law_314 ?_
        refine lv_topi (fun y78 ey78 => ?_)
        obtain rfl : y78 = 1 := ey78.trans (by decide)
        refine va_sld hx hb hX hbl hbA hS (vp_in_iff.mpr (by decide)) dL_law_315 ?_
        refine lv_topi (fun y79 ey79 => ?_)
        obtain rfl : x1 = y79 := hx1.trans ey79.symm
        refine lv_aload_n hx hb dL_law_316 rfl (lv_at hl 4 rfl) ?_
        refine lv_iload hx hb dL_law_317 (lv_at hl 0 rfl) ?_
        refine lv_iconst (v := 2) hx hb dL_law_319 (by decide) ?_
        refine lv_iadd hx hb dL_law_320 ?_
        refine lv_topi (fun y80 ey80 => ?_)
        obtain rfl : y80 = 2 := ey80.trans (by decide)
        refine va_sld hx hb hX hbl hbA hS (vp_in_iff.mpr (by decide)) dL_law_321 ?_
        refine lv_topi (fun y81 ey81 => ?_)
        obtain rfl : x2 = y81 := hx2.trans ey81.symm
        refine lv_aload_n hx hb dL_law_322 rfl (lv_at hl 4 rfl) ?_
        refine lv_iload hx hb dL_law_323 (lv_at hl 0 rfl) ?_
        refine lv_iconst (v := 3) hx hb dL_law_325 (by decide) ?_
        refine lv_iadd hx hb dL_law_326 ?_
        refine lv_topi (fun y82 ey82 => ?_)
        obtain rfl : y82 = 3 := ey82.trans (by decide)
        refine va_sld hx hb hX hbl hbA hS (vp_in_iff.mpr (by decide)) dL_law_327 ?_
        refine lv_topi (fun y83 ey83 => ?_)
        obtain rfl : x3 = y83 := hx3.trans ey83.symm
        refine lv_if_eq (tgt := 335) hx hb dL_law_328 (by decide) (fun c9 => absurd c9 (c66)) (fun _ => ?_)
        refine lv_iconst (v := 1) hx hb dL_law_331 (by decide) ?_
        refine lv_goto (tgt := 336) hx hb dL_law_332 (by decide) ?_
        refine cvI (wr := []) (As := [.int x1, .int x2, .int 1]) (rest := [.int (sp_reader x1 x2)]) ⟨hx, hb, hml, hown, hts0⟩ (mX10_reader l D z cy _ x1 x2 1 ) (cwV 3 hts0 gL_law_X10_reader rfl rfl rfl (by decide +kernel) ⟨Nat.le_of_ble_eq_true rfl, Nat.le_of_ble_eq_true rfl⟩) hK hP hD hS hA [0, 1, 2, 3, 4, 5, 6, 7, 8, 9, 10, 11, 12, 13, 14, 15, 16] [] rfl rfl (by decide) (by decide) (by decide) 0 10 rfl rfl rfl hl.1 rfl (Nat.le_of_ble_eq_true rfl) dL_law_336 ⟨(Nat.le_of_ble_eq_true rfl), (Nat.le_of_ble_eq_true rfl)⟩ (fun r84 H locs hr84 hP hD hS => ?_)
        obtain rfl : r84 = sp_reader x1 x2 := hr84
        refine lv_icmp_eq (tgt := 996) hx hb dL_law_339 (by decide) (fun _ => ?_) (fun c9 => absurd (rfl) c9)
        refine lv_iinc (v := 5) (lv' := [(4, .int 5), (3, .ref ao), (2, .ref (z 58)), (1, .ref (q 0)), (0, .ref b)]) hx hb dL_law_996 hl (k := 0) rfl (by decide) (by decide) rfl (fun ls hl => ?_)
        refine lv_goto (tgt := 23) hx hb dL_law_999 (by decide) ?_
        refine lv_iload hx hb dL_law_23 (lv_at hl 0 rfl) ?_
        refine lv_aload_n hx hb dL_law_25 rfl (lv_at hl 4 rfl) ?_
        refine va_slen hx hb hX hbl hbA hS dL_law_26 ?_
        refine lv_topi (fun y85 ey85 => ?_)
        obtain rfl : y85 = 5 := ey85.trans (by decide)
        refine lv_iconst (v := 5) hx hb dL_law_27 (by decide) ?_
        refine lv_isub hx hb dL_law_28 ?_
        refine lv_topi (fun y86 ey86 => ?_)
        obtain rfl : y86 = 0 := ey86.trans (by decide)
        refine lv_icmp_gt (tgt := 1002) hx hb dL_law_29 (by decide) (fun _ => ?_) (fun c9 => absurd (by decide) c9)
        refine lv_iconst (v := 1) hx hb dL_law_1002 (by decide) ?_
        refine va_forget (fun q9 h9 => hS.2.2 q9 h9) ?_
        refine W.widen (k := 600002) (n := 7302232) (Nat.le_of_ble_eq_true rfl) (Nat.le_of_ble_eq_true rfl) ?_
        exact lw_ret hx hb hr hlocks dL_law_1003
    by_cases j87 : wd = 4
    · skip
      subst j87
      refine lv_tableIn (tgt := 344) hx hb dL_law_39 (by decide) (by decide) rfl (by decide) ?_
      refine lv_aload_n hx hb dL_law_344 rfl (lv_at hl 3 rfl) ?_
      refine lv_aload_n hx hb dL_law_345 rfl (lv_at hl 4 rfl) ?_
      refine lv_iload hx hb dL_law_346 (lv_at hl 0 rfl) ?_
      refine lv_iconst (v := 1) hx hb dL_law_348 (by decide) ?_
      refine lv_iadd hx hb dL_law_349 ?_
      refine lv_topi (fun y88 ey88 => ?_)
      obtain rfl : y88 = 1 := ey88.trans (by decide)
      refine va_sld hx hb hX hbl hbA hS (vp_in_iff.mpr (by decide)) dL_law_350 ?_
      refine lv_topi (fun y89 ey89 => ?_)
      obtain rfl : x1 = y89 := hx1.trans ey89.symm
      refine lv_aload_n hx hb dL_law_351 rfl (lv_at hl 4 rfl) ?_
      refine lv_iload hx hb dL_law_352 (lv_at hl 0 rfl) ?_
      refine lv_iconst (v := 2) hx hb dL_law_354 (by decide) ?_
      refine lv_iadd hx hb dL_law_355 ?_
      refine lv_topi (fun y90 ey90 => ?_)
      obtain rfl : y90 = 2 := ey90.trans (by decide)
      refine va_sld hx hb hX hbl hbA hS (vp_in_iff.mpr (by decide)) dL_law_356 ?_
      refine lv_topi (fun y91 ey91 => ?_)
      obtain rfl : x2 = y91 := hx2.trans ey91.symm
      refine cvI (wr := MW z cy 0) (As := [.int x1, .int x2]) (rest := []) ⟨hx, hb, hml, hown, hts0⟩ (mX9_ask l D q cy g _ x1 x2 ) (cwV 2 hts0 gL_law_X9_ask rfl rfl rfl (by decide +kernel) ⟨Nat.le_of_ble_eq_true rfl, Nat.le_of_ble_eq_true rfl⟩) hK hP hD hS hA [0, 1, 2, 3, 4, 5, 6, 7, 8, 9, 10, 11, 12, 13, 14, 15, 16, 17, 18, 19, 20, 21] [22, 23, 24, 25, 26, 27, 28, 29, 30, 31, 32, 33, 34, 35, 36, 37, 38] rfl rfl (by decide) (by decide) (by decide) 0 9 rfl rfl rfl hl.1 rfl (Nat.le_of_ble_eq_true rfl) dL_law_357 ⟨(Nat.le_of_ble_eq_true rfl), (Nat.le_of_ble_eq_true rfl)⟩ (fun r92 H locs hr92 hP hD hS => ?_)
      obtain rfl : r92 = 0 := hr92
      have hP := hP.sub (ws' := MW z cy 0) [0, 1, 2, 3, 4, 5, 6, 7, 8, 9, 10, 11, 12, 13, 14, 15, 16] rfl
      have hD := hD.sub (ws' := MW z cy 0) [0, 1, 2, 3, 4, 5, 6, 7, 8, 9, 10, 11, 12, 13, 14, 15, 16] (by decide) rfl
      refine lv_aload_n hx hb dL_law_360 rfl (lv_at hl 2 rfl) ?_
      refine lv_aload_n hx hb dL_law_361 rfl (lv_at hl 4 rfl) ?_
      refine lv_iload hx hb dL_law_362 (lv_at hl 0 rfl) ?_
      refine lv_iconst (v := 1) hx hb dL_law_364 (by decide) ?_
      refine lv_iadd hx hb dL_law_365 ?_
      refine lv_topi (fun y93 ey93 => ?_)
      obtain rfl : y93 = 1 := ey93.trans (by decide)
      refine va_sld hx hb hX hbl hbA hS (vp_in_iff.mpr (by decide)) dL_law_366 ?_
      refine lv_topi (fun y94 ey94 => ?_)
      obtain rfl : x1 = y94 := hx1.trans ey94.symm
      refine lv_aload_n hx hb dL_law_367 rfl (lv_at hl 4 rfl) ?_
      refine lv_iload hx hb dL_law_368 (lv_at hl 0 rfl) ?_
      refine lv_iconst (v := 2) hx hb dL_law_370 (by decide) ?_
      refine lv_iadd hx hb dL_law_371 ?_
      refine lv_topi (fun y95 ey95 => ?_)
      obtain rfl : y95 = 2 := ey95.trans (by decide)
      refine va_sld hx hb hX hbl hbA hS (vp_in_iff.mpr (by decide)) dL_law_372 ?_
      refine lv_topi (fun y96 ey96 => ?_)
      obtain rfl : x2 = y96 := hx2.trans ey96.symm
      refine cvI (wr := []) (As := [.int x1, .int x2]) (rest := [.int 0]) ⟨hx, hb, hml, hown, hts0⟩ (mX10_ask l D z cy _ x1 x2 ) (cwV 2 hts0 gL_law_X10_ask rfl rfl rfl (by decide +kernel) ⟨Nat.le_of_ble_eq_true rfl, Nat.le_of_ble_eq_true rfl⟩) hK hP hD hS hA [0, 1, 2, 3, 4, 5, 6, 7, 8, 9, 10, 11, 12, 13, 14, 15, 16] [] rfl rfl (by decide) (by decide) (by decide) 0 10 rfl rfl rfl hl.1 rfl (Nat.le_of_ble_eq_true rfl) dL_law_373 ⟨(Nat.le_of_ble_eq_true rfl), (Nat.le_of_ble_eq_true rfl)⟩ (fun r97 H locs hr97 hP hD hS => ?_)
      obtain rfl : r97 = 0 := hr97
      have hP : va_P D vwCl (MW z cy 0) H := hP
      have hD : va_D _ (MW z cy 0) := hD
      refine lv_icmp_eq (tgt := 996) hx hb dL_law_376 (by decide) (fun _ => ?_) (fun c9 => absurd (by decide) c9)
      refine lv_iinc (v := 5) (lv' := [(4, .int 5), (3, .ref ao), (2, .ref (z 58)), (1, .ref (q 0)), (0, .ref b)]) hx hb dL_law_996 hl (k := 0) rfl (by decide) (by decide) rfl (fun ls hl => ?_)
      refine lv_goto (tgt := 23) hx hb dL_law_999 (by decide) ?_
      refine lv_iload hx hb dL_law_23 (lv_at hl 0 rfl) ?_
      refine lv_aload_n hx hb dL_law_25 rfl (lv_at hl 4 rfl) ?_
      refine va_slen hx hb hX hbl hbA hS dL_law_26 ?_
      refine lv_topi (fun y98 ey98 => ?_)
      obtain rfl : y98 = 5 := ey98.trans (by decide)
      refine lv_iconst (v := 5) hx hb dL_law_27 (by decide) ?_
      refine lv_isub hx hb dL_law_28 ?_
      refine lv_topi (fun y99 ey99 => ?_)
      obtain rfl : y99 = 0 := ey99.trans (by decide)
      refine lv_icmp_gt (tgt := 1002) hx hb dL_law_29 (by decide) (fun _ => ?_) (fun c9 => absurd (by decide) c9)
      refine lv_iconst (v := 1) hx hb dL_law_1002 (by decide) ?_
      refine va_forget (fun q9 h9 => hS.2.2 q9 h9) ?_
      refine W.widen (k := 600002) (n := 7302232) (Nat.le_of_ble_eq_true rfl) (Nat.le_of_ble_eq_true rfl) ?_
      exact lw_ret hx hb hr hlocks dL_law_1003
    by_cases j100 : wd = 5
    · skip
      subst j100
      refine lv_tableIn (tgt := 381) hx hb dL_law_39 (by decide) (by decide) rfl (by decide) ?_
      refine lv_aload_n hx hb dL_law_381 rfl (lv_at hl 3 rfl) ?_
      refine lv_aload_n hx hb dL_law_382 rfl (lv_at hl 4 rfl) ?_
      refine lv_iload hx hb dL_law_383 (lv_at hl 0 rfl) ?_
      refine lv_iconst (v := 1) hx hb dL_law_385 (by decide) ?_
      refine lv_iadd hx hb dL_law_386 ?_
      refine lv_topi (fun y101 ey101 => ?_)
      obtain rfl : y101 = 1 := ey101.trans (by decide)
      refine va_sld hx hb hX hbl hbA hS (vp_in_iff.mpr (by decide)) dL_law_387 ?_
      refine lv_topi (fun y102 ey102 => ?_)
      obtain rfl : x1 = y102 := hx1.trans ey102.symm
      refine lv_aload_n hx hb dL_law_388 rfl (lv_at hl 4 rfl) ?_
      refine lv_iload hx hb dL_law_389 (lv_at hl 0 rfl) ?_
      refine lv_iconst (v := 2) hx hb dL_law_391 (by decide) ?_
      refine lv_iadd hx hb dL_law_392 ?_
      refine lv_topi (fun y103 ey103 => ?_)
      obtain rfl : y103 = 2 := ey103.trans (by decide)
      refine va_sld hx hb hX hbl hbA hS (vp_in_iff.mpr (by decide)) dL_law_393 ?_
      refine lv_topi (fun y104 ey104 => ?_)
      obtain rfl : x2 = y104 := hx2.trans ey104.symm
      refine cvI (wr := MW z cy 0) (As := [.int x1, .int x2]) (rest := []) ⟨hx, hb, hml, hown, hts0⟩ (mX9_read l D q cy g _ x1 x2 ) (cwV 2 hts0 gL_law_X9_read rfl rfl rfl (by decide +kernel) ⟨Nat.le_of_ble_eq_true rfl, Nat.le_of_ble_eq_true rfl⟩) hK hP hD hS hA [0, 1, 2, 3, 4, 5, 6, 7, 8, 9, 10, 11, 12, 13, 14, 15, 16, 17, 18, 19, 20, 21] [22, 23, 24, 25, 26, 27, 28, 29, 30, 31, 32, 33, 34, 35, 36, 37, 38] rfl rfl (by decide) (by decide) (by decide) 0 9 rfl rfl rfl hl.1 rfl (Nat.le_of_ble_eq_true rfl) dL_law_394 ⟨(Nat.le_of_ble_eq_true rfl), (Nat.le_of_ble_eq_true rfl)⟩ (fun r105 H locs hr105 hP hD hS => ?_)
      obtain rfl : r105 = 0 := hr105
      have hP := hP.sub (ws' := MW z cy 0) [0, 1, 2, 3, 4, 5, 6, 7, 8, 9, 10, 11, 12, 13, 14, 15, 16] rfl
      have hD := hD.sub (ws' := MW z cy 0) [0, 1, 2, 3, 4, 5, 6, 7, 8, 9, 10, 11, 12, 13, 14, 15, 16] (by decide) rfl
      refine lv_aload_n hx hb dL_law_397 rfl (lv_at hl 2 rfl) ?_
      refine lv_aload_n hx hb dL_law_398 rfl (lv_at hl 4 rfl) ?_
      refine lv_iload hx hb dL_law_399 (lv_at hl 0 rfl) ?_
      refine lv_iconst (v := 1) hx hb dL_law_401 (by decide) ?_
      refine lv_iadd hx hb dL_law_402 ?_
      refine lv_topi (fun y106 ey106 => ?_)
      obtain rfl : y106 = 1 := ey106.trans (by decide)
      refine va_sld hx hb hX hbl hbA hS (vp_in_iff.mpr (by decide)) dL_law_403 ?_
      refine lv_topi (fun y107 ey107 => ?_)
      obtain rfl : x1 = y107 := hx1.trans ey107.symm
      refine lv_aload_n hx hb dL_law_404 rfl (lv_at hl 4 rfl) ?_
      refine lv_iload hx hb dL_law_405 (lv_at hl 0 rfl) ?_
      refine lv_iconst (v := 2) hx hb dL_law_407 (by decide) ?_
      refine lv_iadd hx hb dL_law_408 ?_
      refine lv_topi (fun y108 ey108 => ?_)
      obtain rfl : y108 = 2 := ey108.trans (by decide)
      refine va_sld hx hb hX hbl hbA hS (vp_in_iff.mpr (by decide)) dL_law_409 ?_
      refine lv_topi (fun y109 ey109 => ?_)
      obtain rfl : x2 = y109 := hx2.trans ey109.symm
      refine cvI (wr := []) (As := [.int x1, .int x2]) (rest := [.int 0]) ⟨hx, hb, hml, hown, hts0⟩ (mX10_read l D z cy _ x1 x2 ) (cwV 2 hts0 gL_law_X10_read rfl rfl rfl (by decide +kernel) ⟨Nat.le_of_ble_eq_true rfl, Nat.le_of_ble_eq_true rfl⟩) hK hP hD hS hA [0, 1, 2, 3, 4, 5, 6, 7, 8, 9, 10, 11, 12, 13, 14, 15, 16] [] rfl rfl (by decide) (by decide) (by decide) 0 10 rfl rfl rfl hl.1 rfl (Nat.le_of_ble_eq_true rfl) dL_law_410 ⟨(Nat.le_of_ble_eq_true rfl), (Nat.le_of_ble_eq_true rfl)⟩ (fun r110 H locs hr110 hP hD hS => ?_)
      obtain rfl : r110 = 0 := hr110
      have hP : va_P D vwCl (MW z cy 0) H := hP
      have hD : va_D _ (MW z cy 0) := hD
      refine lv_icmp_eq (tgt := 996) hx hb dL_law_413 (by decide) (fun _ => ?_) (fun c9 => absurd (by decide) c9)
      refine lv_iinc (v := 5) (lv' := [(4, .int 5), (3, .ref ao), (2, .ref (z 58)), (1, .ref (q 0)), (0, .ref b)]) hx hb dL_law_996 hl (k := 0) rfl (by decide) (by decide) rfl (fun ls hl => ?_)
      refine lv_goto (tgt := 23) hx hb dL_law_999 (by decide) ?_
      refine lv_iload hx hb dL_law_23 (lv_at hl 0 rfl) ?_
      refine lv_aload_n hx hb dL_law_25 rfl (lv_at hl 4 rfl) ?_
      refine va_slen hx hb hX hbl hbA hS dL_law_26 ?_
      refine lv_topi (fun y111 ey111 => ?_)
      obtain rfl : y111 = 5 := ey111.trans (by decide)
      refine lv_iconst (v := 5) hx hb dL_law_27 (by decide) ?_
      refine lv_isub hx hb dL_law_28 ?_
      refine lv_topi (fun y112 ey112 => ?_)
      obtain rfl : y112 = 0 := ey112.trans (by decide)
      refine lv_icmp_gt (tgt := 1002) hx hb dL_law_29 (by decide) (fun _ => ?_) (fun c9 => absurd (by decide) c9)
      refine lv_iconst (v := 1) hx hb dL_law_1002 (by decide) ?_
      refine va_forget (fun q9 h9 => hS.2.2 q9 h9) ?_
      refine W.widen (k := 600002) (n := 7302232) (Nat.le_of_ble_eq_true rfl) (Nat.le_of_ble_eq_true rfl) ?_
      exact lw_ret hx hb hr hlocks dL_law_1003
    by_cases j113 : wd = 6
    · skip
      subst j113
      refine lv_tableIn (tgt := 418) hx hb dL_law_39 (by decide) (by decide) rfl (by decide) ?_
      refine lv_aload_n hx hb dL_law_418 rfl (lv_at hl 3 rfl) ?_
      refine lv_aload_n hx hb dL_law_419 rfl (lv_at hl 4 rfl) ?_
      refine lv_iload hx hb dL_law_420 (lv_at hl 0 rfl) ?_
      refine lv_iconst (v := 1) hx hb dL_law_422 (by decide) ?_
      refine lv_iadd hx hb dL_law_423 ?_
      refine lv_topi (fun y114 ey114 => ?_)
      obtain rfl : y114 = 1 := ey114.trans (by decide)
      refine va_sld hx hb hX hbl hbA hS (vp_in_iff.mpr (by decide)) dL_law_424 ?_
      refine lv_topi (fun y115 ey115 => ?_)
      obtain rfl : x1 = y115 := hx1.trans ey115.symm
      refine lv_aload_n hx hb dL_law_425 rfl (lv_at hl 4 rfl) ?_
      refine lv_iload hx hb dL_law_426 (lv_at hl 0 rfl) ?_
      refine lv_iconst (v := 2) hx hb dL_law_428 (by decide) ?_
      refine lv_iadd hx hb dL_law_429 ?_
      refine lv_topi (fun y116 ey116 => ?_)
      obtain rfl : y116 = 2 := ey116.trans (by decide)
      refine va_sld hx hb hX hbl hbA hS (vp_in_iff.mpr (by decide)) dL_law_430 ?_
      refine lv_topi (fun y117 ey117 => ?_)
      obtain rfl : x2 = y117 := hx2.trans ey117.symm
      refine lv_aload_n hx hb dL_law_431 rfl (lv_at hl 4 rfl) ?_
      refine lv_iload hx hb dL_law_432 (lv_at hl 0 rfl) ?_
      refine lv_iconst (v := 3) hx hb dL_law_434 (by decide) ?_
      refine lv_iadd hx hb dL_law_435 ?_
      refine lv_topi (fun y118 ey118 => ?_)
      obtain rfl : y118 = 3 := ey118.trans (by decide)
      refine va_sld hx hb hX hbl hbA hS (vp_in_iff.mpr (by decide)) dL_law_436 ?_
      refine lv_topi (fun y119 ey119 => ?_)
      obtain rfl : x3 = y119 := hx3.trans ey119.symm
      refine lv_aload_n hx hb dL_law_437 rfl (lv_at hl 4 rfl) ?_
      refine lv_iload hx hb dL_law_438 (lv_at hl 0 rfl) ?_
      refine lv_iconst (v := 4) hx hb dL_law_440 (by decide) ?_
      refine lv_iadd hx hb dL_law_441 ?_
      refine lv_topi (fun y120 ey120 => ?_)
      obtain rfl : y120 = 4 := ey120.trans (by decide)
      refine va_sld hx hb hX hbl hbA hS (vp_in_iff.mpr (by decide)) dL_law_442 ?_
      refine lv_topi (fun y121 ey121 => ?_)
      obtain rfl : x4 = y121 := hx4.trans ey121.symm
      refine lv_if_eq (tgt := 450) hx hb dL_law_443 (by decide) (fun c122 => ?_) (fun c122 => ?_)
      · skip
        refine lv_iconst (v := 0) hx hb dL_law_450 (by decide) ?_
        refine cvI (wr := MW z cy 0) (As := [.int x1, .int x2, .int x3, .int 0]) (rest := []) ⟨hx, hb, hml, hown, hts0⟩ (mX9_copy l D q cy g _ x1 x2 x3 0 ) (cwV 4 hts0 gL_law_X9_copy rfl rfl rfl (by decide +kernel) ⟨Nat.le_of_ble_eq_true rfl, Nat.le_of_ble_eq_true rfl⟩) hK hP hD hS hA [0, 1, 2, 3, 4, 5, 6, 7, 8, 9, 10, 11, 12, 13, 14, 15, 16, 17, 18, 19, 20, 21] [22, 23, 24, 25, 26, 27, 28, 29, 30, 31, 32, 33, 34, 35, 36, 37, 38] rfl rfl (by decide) (by decide) (by decide) 0 9 rfl rfl rfl hl.1 rfl (Nat.le_of_ble_eq_true rfl) dL_law_451 ⟨(Nat.le_of_ble_eq_true rfl), (Nat.le_of_ble_eq_true rfl)⟩ (fun r123 H locs hr123 hP hD hS => ?_)
        obtain rfl : r123 = 0 := hr123
        have hP := hP.sub (ws' := MW z cy 0) [0, 1, 2, 3, 4, 5, 6, 7, 8, 9, 10, 11, 12, 13, 14, 15, 16] rfl
        have hD := hD.sub (ws' := MW z cy 0) [0, 1, 2, 3, 4, 5, 6, 7, 8, 9, 10, 11, 12, 13, 14, 15, 16] (by decide) rfl
        refine lv_aload_n hx hb dL_law_454 rfl (lv_at hl 2 rfl) ?_
        refine lv_aload_n hx hb dL_law_455 rfl (lv_at hl 4 rfl) ?_
        refine lv_iload hx hb dL_law_456 (lv_at hl 0 rfl) ?_
        refine lv_iconst (v := 1) hx hb dL_law_458 (by decide) ?_
        refine lv_iadd hx hb dL_law_459 ?_
        refine lv_topi (fun y124 ey124 => ?_)
        obtain rfl : y124 = 1 := ey124.trans (by decide)
        refine va_sld hx hb hX hbl hbA hS (vp_in_iff.mpr (by decide)) dL_law_460 ?_
        refine lv_topi (fun y125 ey125 => ?_)
        obtain rfl : x1 = y125 := hx1.trans ey125.symm
        refine lv_aload_n hx hb dL_law_461 rfl (lv_at hl 4 rfl) ?_
        refine lv_iload hx hb dL_law_462 (lv_at hl 0 rfl) ?_
        refine lv_iconst (v := 2) hx hb dL_law_464 (by decide) ?_
        refine lv_iadd hx hb dL_law_465 ?_
        refine lv_topi (fun y126 ey126 => ?_)
        obtain rfl : y126 = 2 := ey126.trans (by decide)
        refine va_sld hx hb hX hbl hbA hS (vp_in_iff.mpr (by decide)) dL_law_466 ?_
        refine lv_topi (fun y127 ey127 => ?_)
        obtain rfl : x2 = y127 := hx2.trans ey127.symm
        refine lv_aload_n hx hb dL_law_467 rfl (lv_at hl 4 rfl) ?_
        refine lv_iload hx hb dL_law_468 (lv_at hl 0 rfl) ?_
        refine lv_iconst (v := 3) hx hb dL_law_470 (by decide) ?_
        refine lv_iadd hx hb dL_law_471 ?_
        refine lv_topi (fun y128 ey128 => ?_)
        obtain rfl : y128 = 3 := ey128.trans (by decide)
        refine va_sld hx hb hX hbl hbA hS (vp_in_iff.mpr (by decide)) dL_law_472 ?_
        refine lv_topi (fun y129 ey129 => ?_)
        obtain rfl : x3 = y129 := hx3.trans ey129.symm
        refine lv_aload_n hx hb dL_law_473 rfl (lv_at hl 4 rfl) ?_
        refine lv_iload hx hb dL_law_474 (lv_at hl 0 rfl) ?_
        refine lv_iconst (v := 4) hx hb dL_law_476 (by decide) ?_
        refine lv_iadd hx hb dL_law_477 ?_
        refine lv_topi (fun y130 ey130 => ?_)
        obtain rfl : y130 = 4 := ey130.trans (by decide)
        refine va_sld hx hb hX hbl hbA hS (vp_in_iff.mpr (by decide)) dL_law_478 ?_
        refine lv_topi (fun y131 ey131 => ?_)
        obtain rfl : x4 = y131 := hx4.trans ey131.symm
        refine lv_if_eq (tgt := 486) hx hb dL_law_479 (by decide) (fun _ => ?_) (fun c9 => absurd (c122) c9)
        refine lv_iconst (v := 0) hx hb dL_law_486 (by decide) ?_
        refine cvI (wr := []) (As := [.int x1, .int x2, .int x3, .int 0]) (rest := [.int 0]) ⟨hx, hb, hml, hown, hts0⟩ (mX10_copy l D z cy _ x1 x2 x3 0 ) (cwV 4 hts0 gL_law_X10_copy rfl rfl rfl (by decide +kernel) ⟨Nat.le_of_ble_eq_true rfl, Nat.le_of_ble_eq_true rfl⟩) hK hP hD hS hA [0, 1, 2, 3, 4, 5, 6, 7, 8, 9, 10, 11, 12, 13, 14, 15, 16] [] rfl rfl (by decide) (by decide) (by decide) 0 10 rfl rfl rfl hl.1 rfl (Nat.le_of_ble_eq_true rfl) dL_law_487 ⟨(Nat.le_of_ble_eq_true rfl), (Nat.le_of_ble_eq_true rfl)⟩ (fun r132 H locs hr132 hP hD hS => ?_)
        obtain rfl : r132 = 0 := hr132
        have hP : va_P D vwCl (MW z cy 0) H := hP
        have hD : va_D _ (MW z cy 0) := hD
        refine lv_icmp_eq (tgt := 996) hx hb dL_law_490 (by decide) (fun _ => ?_) (fun c9 => absurd (by decide) c9)
        refine lv_iinc (v := 5) (lv' := [(4, .int 5), (3, .ref ao), (2, .ref (z 58)), (1, .ref (q 0)), (0, .ref b)]) hx hb dL_law_996 hl (k := 0) rfl (by decide) (by decide) rfl (fun ls hl => ?_)
        refine lv_goto (tgt := 23) hx hb dL_law_999 (by decide) ?_
        refine lv_iload hx hb dL_law_23 (lv_at hl 0 rfl) ?_
        refine lv_aload_n hx hb dL_law_25 rfl (lv_at hl 4 rfl) ?_
        refine va_slen hx hb hX hbl hbA hS dL_law_26 ?_
        refine lv_topi (fun y133 ey133 => ?_)
        obtain rfl : y133 = 5 := ey133.trans (by decide)
        refine lv_iconst (v := 5) hx hb dL_law_27 (by decide) ?_
        refine lv_isub hx hb dL_law_28 ?_
        refine lv_topi (fun y134 ey134 => ?_)
        obtain rfl : y134 = 0 := ey134.trans (by decide)
        refine lv_icmp_gt (tgt := 1002) hx hb dL_law_29 (by decide) (fun _ => ?_) (fun c9 => absurd (by decide) c9)
        refine lv_iconst (v := 1) hx hb dL_law_1002 (by decide) ?_
        refine va_forget (fun q9 h9 => hS.2.2 q9 h9) ?_
        refine W.widen (k := 600002) (n := 7302232) (Nat.le_of_ble_eq_true rfl) (Nat.le_of_ble_eq_true rfl) ?_
        exact lw_ret hx hb hr hlocks dL_law_1003
      · skip
        refine lv_iconst (v := 1) hx hb dL_law_446 (by decide) ?_
        refine lv_goto (tgt := 451) hx hb dL_law_447 (by decide) ?_
        refine cvI (wr := MW z cy 0) (As := [.int x1, .int x2, .int x3, .int 1]) (rest := []) ⟨hx, hb, hml, hown, hts0⟩ (mX9_copy l D q cy g _ x1 x2 x3 1 ) (cwV 4 hts0 gL_law_X9_copy rfl rfl rfl (by decide +kernel) ⟨Nat.le_of_ble_eq_true rfl, Nat.le_of_ble_eq_true rfl⟩) hK hP hD hS hA [0, 1, 2, 3, 4, 5, 6, 7, 8, 9, 10, 11, 12, 13, 14, 15, 16, 17, 18, 19, 20, 21] [22, 23, 24, 25, 26, 27, 28, 29, 30, 31, 32, 33, 34, 35, 36, 37, 38] rfl rfl (by decide) (by decide) (by decide) 0 9 rfl rfl rfl hl.1 rfl (Nat.le_of_ble_eq_true rfl) dL_law_451 ⟨(Nat.le_of_ble_eq_true rfl), (Nat.le_of_ble_eq_true rfl)⟩ (fun r135 H locs hr135 hP hD hS => ?_)
        obtain rfl : r135 = 0 := hr135
        have hP := hP.sub (ws' := MW z cy 0) [0, 1, 2, 3, 4, 5, 6, 7, 8, 9, 10, 11, 12, 13, 14, 15, 16] rfl
        have hD := hD.sub (ws' := MW z cy 0) [0, 1, 2, 3, 4, 5, 6, 7, 8, 9, 10, 11, 12, 13, 14, 15, 16] (by decide) rfl
        refine lv_aload_n hx hb dL_law_454 rfl (lv_at hl 2 rfl) ?_
        refine lv_aload_n hx hb dL_law_455 rfl (lv_at hl 4 rfl) ?_
        refine lv_iload hx hb dL_law_456 (lv_at hl 0 rfl) ?_
        refine lv_iconst (v := 1) hx hb dL_law_458 (by decide) ?_
        refine lv_iadd hx hb dL_law_459 ?_
        refine lv_topi (fun y136 ey136 => ?_)
        obtain rfl : y136 = 1 := ey136.trans (by decide)
        refine va_sld hx hb hX hbl hbA hS (vp_in_iff.mpr (by decide)) dL_law_460 ?_
        refine lv_topi (fun y137 ey137 => ?_)
        obtain rfl : x1 = y137 := hx1.trans ey137.symm
        refine lv_aload_n hx hb dL_law_461 rfl (lv_at hl 4 rfl) ?_
        refine lv_iload hx hb dL_law_462 (lv_at hl 0 rfl) ?_
        refine lv_iconst (v := 2) hx hb dL_law_464 (by decide) ?_
        refine lv_iadd hx hb dL_law_465 ?_
        refine lv_topi (fun y138 ey138 => ?_)
        obtain rfl : y138 = 2 := ey138.trans (by decide)
        refine va_sld hx hb hX hbl hbA hS (vp_in_iff.mpr (by decide)) dL_law_466 ?_
        refine lv_topi (fun y139 ey139 => ?_)
        obtain rfl : x2 = y139 := hx2.trans ey139.symm
        refine lv_aload_n hx hb dL_law_467 rfl (lv_at hl 4 rfl) ?_
        refine lv_iload hx hb dL_law_468 (lv_at hl 0 rfl) ?_
        refine lv_iconst (v := 3) hx hb dL_law_470 (by decide) ?_
        refine lv_iadd hx hb dL_law_471 ?_
        refine lv_topi (fun y140 ey140 => ?_)
        obtain rfl : y140 = 3 := ey140.trans (by decide)
        refine va_sld hx hb hX hbl hbA hS (vp_in_iff.mpr (by decide)) dL_law_472 ?_
        refine lv_topi (fun y141 ey141 => ?_)
        obtain rfl : x3 = y141 := hx3.trans ey141.symm
        refine lv_aload_n hx hb dL_law_473 rfl (lv_at hl 4 rfl) ?_
        refine lv_iload hx hb dL_law_474 (lv_at hl 0 rfl) ?_
        refine lv_iconst (v := 4) hx hb dL_law_476 (by decide) ?_
        refine lv_iadd hx hb dL_law_477 ?_
        refine lv_topi (fun y142 ey142 => ?_)
        obtain rfl : y142 = 4 := ey142.trans (by decide)
        refine va_sld hx hb hX hbl hbA hS (vp_in_iff.mpr (by decide)) dL_law_478 ?_
        refine lv_topi (fun y143 ey143 => ?_)
        obtain rfl : x4 = y143 := hx4.trans ey143.symm
        refine lv_if_eq (tgt := 486) hx hb dL_law_479 (by decide) (fun c9 => absurd c9 (c122)) (fun _ => ?_)
        refine lv_iconst (v := 1) hx hb dL_law_482 (by decide) ?_
        refine lv_goto (tgt := 487) hx hb dL_law_483 (by decide) ?_
        refine cvI (wr := []) (As := [.int x1, .int x2, .int x3, .int 1]) (rest := [.int 0]) ⟨hx, hb, hml, hown, hts0⟩ (mX10_copy l D z cy _ x1 x2 x3 1 ) (cwV 4 hts0 gL_law_X10_copy rfl rfl rfl (by decide +kernel) ⟨Nat.le_of_ble_eq_true rfl, Nat.le_of_ble_eq_true rfl⟩) hK hP hD hS hA [0, 1, 2, 3, 4, 5, 6, 7, 8, 9, 10, 11, 12, 13, 14, 15, 16] [] rfl rfl (by decide) (by decide) (by decide) 0 10 rfl rfl rfl hl.1 rfl (Nat.le_of_ble_eq_true rfl) dL_law_487 ⟨(Nat.le_of_ble_eq_true rfl), (Nat.le_of_ble_eq_true rfl)⟩ (fun r144 H locs hr144 hP hD hS => ?_)
        obtain rfl : r144 = 0 := hr144
        have hP : va_P D vwCl (MW z cy 0) H := hP
        have hD : va_D _ (MW z cy 0) := hD
        refine lv_icmp_eq (tgt := 996) hx hb dL_law_490 (by decide) (fun _ => ?_) (fun c9 => absurd (by decide) c9)
        refine lv_iinc (v := 5) (lv' := [(4, .int 5), (3, .ref ao), (2, .ref (z 58)), (1, .ref (q 0)), (0, .ref b)]) hx hb dL_law_996 hl (k := 0) rfl (by decide) (by decide) rfl (fun ls hl => ?_)
        refine lv_goto (tgt := 23) hx hb dL_law_999 (by decide) ?_
        refine lv_iload hx hb dL_law_23 (lv_at hl 0 rfl) ?_
        refine lv_aload_n hx hb dL_law_25 rfl (lv_at hl 4 rfl) ?_
        refine va_slen hx hb hX hbl hbA hS dL_law_26 ?_
        refine lv_topi (fun y145 ey145 => ?_)
        obtain rfl : y145 = 5 := ey145.trans (by decide)
        refine lv_iconst (v := 5) hx hb dL_law_27 (by decide) ?_
        refine lv_isub hx hb dL_law_28 ?_
        refine lv_topi (fun y146 ey146 => ?_)
        obtain rfl : y146 = 0 := ey146.trans (by decide)
        refine lv_icmp_gt (tgt := 1002) hx hb dL_law_29 (by decide) (fun _ => ?_) (fun c9 => absurd (by decide) c9)
        refine lv_iconst (v := 1) hx hb dL_law_1002 (by decide) ?_
        refine va_forget (fun q9 h9 => hS.2.2 q9 h9) ?_
        refine W.widen (k := 600002) (n := 7302232) (Nat.le_of_ble_eq_true rfl) (Nat.le_of_ble_eq_true rfl) ?_
        exact lw_ret hx hb hr hlocks dL_law_1003
    by_cases j147 : wd = 7
    · skip
      subst j147
      refine lv_tableIn (tgt := 495) hx hb dL_law_39 (by decide) (by decide) rfl (by decide) ?_
      refine lv_aload_n hx hb dL_law_495 rfl (lv_at hl 3 rfl) ?_
      refine lv_aload_n hx hb dL_law_496 rfl (lv_at hl 4 rfl) ?_
      refine lv_iload hx hb dL_law_497 (lv_at hl 0 rfl) ?_
      refine lv_iconst (v := 1) hx hb dL_law_499 (by decide) ?_
      refine lv_iadd hx hb dL_law_500 ?_
      refine lv_topi (fun y148 ey148 => ?_)
      obtain rfl : y148 = 1 := ey148.trans (by decide)
      refine va_sld hx hb hX hbl hbA hS (vp_in_iff.mpr (by decide)) dL_law_501 ?_
      refine lv_topi (fun y149 ey149 => ?_)
      obtain rfl : x1 = y149 := hx1.trans ey149.symm
      refine lv_aload_n hx hb dL_law_502 rfl (lv_at hl 4 rfl) ?_
      refine lv_iload hx hb dL_law_503 (lv_at hl 0 rfl) ?_
      refine lv_iconst (v := 2) hx hb dL_law_505 (by decide) ?_
      refine lv_iadd hx hb dL_law_506 ?_
      refine lv_topi (fun y150 ey150 => ?_)
      obtain rfl : y150 = 2 := ey150.trans (by decide)
      refine va_sld hx hb hX hbl hbA hS (vp_in_iff.mpr (by decide)) dL_law_507 ?_
      refine lv_topi (fun y151 ey151 => ?_)
      obtain rfl : x2 = y151 := hx2.trans ey151.symm
      refine cvI (wr := MW z cy 0) (As := [.int x1, .int x2]) (rest := []) ⟨hx, hb, hml, hown, hts0⟩ (mX9_back l D q cy g _ x1 x2 ) (cwV 2 hts0 gL_law_X9_back rfl rfl rfl (by decide +kernel) ⟨Nat.le_of_ble_eq_true rfl, Nat.le_of_ble_eq_true rfl⟩) hK hP hD hS hA [0, 1, 2, 3, 4, 5, 6, 7, 8, 9, 10, 11, 12, 13, 14, 15, 16, 17, 18, 19, 20, 21] [22, 23, 24, 25, 26, 27, 28, 29, 30, 31, 32, 33, 34, 35, 36, 37, 38] rfl rfl (by decide) (by decide) (by decide) 0 9 rfl rfl rfl hl.1 rfl (Nat.le_of_ble_eq_true rfl) dL_law_508 ⟨(Nat.le_of_ble_eq_true rfl), (Nat.le_of_ble_eq_true rfl)⟩ (fun r152 H locs hr152 hP hD hS => ?_)
      obtain rfl : r152 = 0 := hr152
      have hP := hP.sub (ws' := MW z cy 0) [0, 1, 2, 3, 4, 5, 6, 7, 8, 9, 10, 11, 12, 13, 14, 15, 16] rfl
      have hD := hD.sub (ws' := MW z cy 0) [0, 1, 2, 3, 4, 5, 6, 7, 8, 9, 10, 11, 12, 13, 14, 15, 16] (by decide) rfl
      refine lv_aload_n hx hb dL_law_511 rfl (lv_at hl 2 rfl) ?_
      refine lv_aload_n hx hb dL_law_512 rfl (lv_at hl 4 rfl) ?_
      refine lv_iload hx hb dL_law_513 (lv_at hl 0 rfl) ?_
      refine lv_iconst (v := 1) hx hb dL_law_515 (by decide) ?_
      refine lv_iadd hx hb dL_law_516 ?_
      refine lv_topi (fun y153 ey153 => ?_)
      obtain rfl : y153 = 1 := ey153.trans (by decide)
      refine va_sld hx hb hX hbl hbA hS (vp_in_iff.mpr (by decide)) dL_law_517 ?_
      refine lv_topi (fun y154 ey154 => ?_)
      obtain rfl : x1 = y154 := hx1.trans ey154.symm
      refine lv_aload_n hx hb dL_law_518 rfl (lv_at hl 4 rfl) ?_
      refine lv_iload hx hb dL_law_519 (lv_at hl 0 rfl) ?_
      refine lv_iconst (v := 2) hx hb dL_law_521 (by decide) ?_
      refine lv_iadd hx hb dL_law_522 ?_
      refine lv_topi (fun y155 ey155 => ?_)
      obtain rfl : y155 = 2 := ey155.trans (by decide)
      refine va_sld hx hb hX hbl hbA hS (vp_in_iff.mpr (by decide)) dL_law_523 ?_
      refine lv_topi (fun y156 ey156 => ?_)
      obtain rfl : x2 = y156 := hx2.trans ey156.symm
      refine cvI (wr := []) (As := [.int x1, .int x2]) (rest := [.int 0]) ⟨hx, hb, hml, hown, hts0⟩ (mX10_back l D z cy _ x1 x2 ) (cwV 2 hts0 gL_law_X10_back rfl rfl rfl (by decide +kernel) ⟨Nat.le_of_ble_eq_true rfl, Nat.le_of_ble_eq_true rfl⟩) hK hP hD hS hA [0, 1, 2, 3, 4, 5, 6, 7, 8, 9, 10, 11, 12, 13, 14, 15, 16] [] rfl rfl (by decide) (by decide) (by decide) 0 10 rfl rfl rfl hl.1 rfl (Nat.le_of_ble_eq_true rfl) dL_law_524 ⟨(Nat.le_of_ble_eq_true rfl), (Nat.le_of_ble_eq_true rfl)⟩ (fun r157 H locs hr157 hP hD hS => ?_)
      obtain rfl : r157 = 0 := hr157
      have hP : va_P D vwCl (MW z cy 0) H := hP
      have hD : va_D _ (MW z cy 0) := hD
      refine lv_icmp_eq (tgt := 996) hx hb dL_law_527 (by decide) (fun _ => ?_) (fun c9 => absurd (by decide) c9)
      refine lv_iinc (v := 5) (lv' := [(4, .int 5), (3, .ref ao), (2, .ref (z 58)), (1, .ref (q 0)), (0, .ref b)]) hx hb dL_law_996 hl (k := 0) rfl (by decide) (by decide) rfl (fun ls hl => ?_)
      refine lv_goto (tgt := 23) hx hb dL_law_999 (by decide) ?_
      refine lv_iload hx hb dL_law_23 (lv_at hl 0 rfl) ?_
      refine lv_aload_n hx hb dL_law_25 rfl (lv_at hl 4 rfl) ?_
      refine va_slen hx hb hX hbl hbA hS dL_law_26 ?_
      refine lv_topi (fun y158 ey158 => ?_)
      obtain rfl : y158 = 5 := ey158.trans (by decide)
      refine lv_iconst (v := 5) hx hb dL_law_27 (by decide) ?_
      refine lv_isub hx hb dL_law_28 ?_
      refine lv_topi (fun y159 ey159 => ?_)
      obtain rfl : y159 = 0 := ey159.trans (by decide)
      refine lv_icmp_gt (tgt := 1002) hx hb dL_law_29 (by decide) (fun _ => ?_) (fun c9 => absurd (by decide) c9)
      refine lv_iconst (v := 1) hx hb dL_law_1002 (by decide) ?_
      refine va_forget (fun q9 h9 => hS.2.2 q9 h9) ?_
      refine W.widen (k := 600002) (n := 7302232) (Nat.le_of_ble_eq_true rfl) (Nat.le_of_ble_eq_true rfl) ?_
      exact lw_ret hx hb hr hlocks dL_law_1003
    by_cases j160 : wd = 8
    · skip
      subst j160
      refine lv_tableIn (tgt := 532) hx hb dL_law_39 (by decide) (by decide) rfl (by decide) ?_
      refine lv_aload_n hx hb dL_law_532 rfl (lv_at hl 3 rfl) ?_
      refine lv_aload_n hx hb dL_law_533 rfl (lv_at hl 4 rfl) ?_
      refine lv_iload hx hb dL_law_534 (lv_at hl 0 rfl) ?_
      refine lv_iconst (v := 1) hx hb dL_law_536 (by decide) ?_
      refine lv_iadd hx hb dL_law_537 ?_
      refine lv_topi (fun y161 ey161 => ?_)
      obtain rfl : y161 = 1 := ey161.trans (by decide)
      refine va_sld hx hb hX hbl hbA hS (vp_in_iff.mpr (by decide)) dL_law_538 ?_
      refine lv_topi (fun y162 ey162 => ?_)
      obtain rfl : x1 = y162 := hx1.trans ey162.symm
      refine cvI (wr := MW z cy 0) (As := [.int x1]) (rest := []) ⟨hx, hb, hml, hown, hts0⟩ (mX9_bell l D q cy g _ x1 ) (cwV 1 hts0 gL_law_X9_bell rfl rfl rfl (by decide +kernel) ⟨Nat.le_of_ble_eq_true rfl, Nat.le_of_ble_eq_true rfl⟩) hK hP hD hS hA [0, 1, 2, 3, 4, 5, 6, 7, 8, 9, 10, 11, 12, 13, 14, 15, 16, 17, 18, 19, 20, 21] [22, 23, 24, 25, 26, 27, 28, 29, 30, 31, 32, 33, 34, 35, 36, 37, 38] rfl rfl (by decide) (by decide) (by decide) 0 9 rfl rfl rfl hl.1 rfl (Nat.le_of_ble_eq_true rfl) dL_law_539 ⟨(Nat.le_of_ble_eq_true rfl), (Nat.le_of_ble_eq_true rfl)⟩ (fun r163 H locs hr163 hP hD hS => ?_)
      obtain rfl : r163 = sp_bell x1 := hr163
      have hP := hP.sub (ws' := MW z cy 0) [0, 1, 2, 3, 4, 5, 6, 7, 8, 9, 10, 11, 12, 13, 14, 15, 16] rfl
      have hD := hD.sub (ws' := MW z cy 0) [0, 1, 2, 3, 4, 5, 6, 7, 8, 9, 10, 11, 12, 13, 14, 15, 16] (by decide) rfl
      refine lv_aload_n hx hb dL_law_542 rfl (lv_at hl 2 rfl) ?_
      refine lv_aload_n hx hb dL_law_543 rfl (lv_at hl 4 rfl) ?_
      refine lv_iload hx hb dL_law_544 (lv_at hl 0 rfl) ?_
      refine lv_iconst (v := 1) hx hb dL_law_546 (by decide) ?_
      refine lv_iadd hx hb dL_law_547 ?_
      refine lv_topi (fun y164 ey164 => ?_)
      obtain rfl : y164 = 1 := ey164.trans (by decide)
      refine va_sld hx hb hX hbl hbA hS (vp_in_iff.mpr (by decide)) dL_law_548 ?_
      refine lv_topi (fun y165 ey165 => ?_)
      obtain rfl : x1 = y165 := hx1.trans ey165.symm
      refine cvI (wr := []) (As := [.int x1]) (rest := [.int (sp_bell x1)]) ⟨hx, hb, hml, hown, hts0⟩ (mX10_bell l D z cy _ x1 ) (cwV 1 hts0 gL_law_X10_bell rfl rfl rfl (by decide +kernel) ⟨Nat.le_of_ble_eq_true rfl, Nat.le_of_ble_eq_true rfl⟩) hK hP hD hS hA [0, 1, 2, 3, 4, 5, 6, 7, 8, 9, 10, 11, 12, 13, 14, 15, 16] [] rfl rfl (by decide) (by decide) (by decide) 0 10 rfl rfl rfl hl.1 rfl (Nat.le_of_ble_eq_true rfl) dL_law_549 ⟨(Nat.le_of_ble_eq_true rfl), (Nat.le_of_ble_eq_true rfl)⟩ (fun r166 H locs hr166 hP hD hS => ?_)
      obtain rfl : r166 = sp_bell x1 := hr166
      refine lv_icmp_eq (tgt := 996) hx hb dL_law_552 (by decide) (fun _ => ?_) (fun c9 => absurd (rfl) c9)
      refine lv_iinc (v := 5) (lv' := [(4, .int 5), (3, .ref ao), (2, .ref (z 58)), (1, .ref (q 0)), (0, .ref b)]) hx hb dL_law_996 hl (k := 0) rfl (by decide) (by decide) rfl (fun ls hl => ?_)
      refine lv_goto (tgt := 23) hx hb dL_law_999 (by decide) ?_
      refine lv_iload hx hb dL_law_23 (lv_at hl 0 rfl) ?_
      refine lv_aload_n hx hb dL_law_25 rfl (lv_at hl 4 rfl) ?_
      refine va_slen hx hb hX hbl hbA hS dL_law_26 ?_
      refine lv_topi (fun y167 ey167 => ?_)
      obtain rfl : y167 = 5 := ey167.trans (by decide)
      refine lv_iconst (v := 5) hx hb dL_law_27 (by decide) ?_
      refine lv_isub hx hb dL_law_28 ?_
      refine lv_topi (fun y168 ey168 => ?_)
      obtain rfl : y168 = 0 := ey168.trans (by decide)
      refine lv_icmp_gt (tgt := 1002) hx hb dL_law_29 (by decide) (fun _ => ?_) (fun c9 => absurd (by decide) c9)
      refine lv_iconst (v := 1) hx hb dL_law_1002 (by decide) ?_
      refine va_forget (fun q9 h9 => hS.2.2 q9 h9) ?_
      refine W.widen (k := 600002) (n := 7302232) (Nat.le_of_ble_eq_true rfl) (Nat.le_of_ble_eq_true rfl) ?_
      exact lw_ret hx hb hr hlocks dL_law_1003
    by_cases j169 : wd = 9
    · skip
      subst j169
      refine lv_tableIn (tgt := 557) hx hb dL_law_39 (by decide) (by decide) rfl (by decide) ?_
      refine lv_aload_n hx hb dL_law_557 rfl (lv_at hl 3 rfl) ?_
      refine lv_aload_n hx hb dL_law_558 rfl (lv_at hl 4 rfl) ?_
      refine lv_iload hx hb dL_law_559 (lv_at hl 0 rfl) ?_
      refine lv_iconst (v := 1) hx hb dL_law_561 (by decide) ?_
      refine lv_iadd hx hb dL_law_562 ?_
      refine lv_topi (fun y170 ey170 => ?_)
      obtain rfl : y170 = 1 := ey170.trans (by decide)
      refine va_sld hx hb hX hbl hbA hS (vp_in_iff.mpr (by decide)) dL_law_563 ?_
      refine lv_topi (fun y171 ey171 => ?_)
      obtain rfl : x1 = y171 := hx1.trans ey171.symm
      refine lv_aload_n hx hb dL_law_564 rfl (lv_at hl 4 rfl) ?_
      refine lv_iload hx hb dL_law_565 (lv_at hl 0 rfl) ?_
      refine lv_iconst (v := 2) hx hb dL_law_567 (by decide) ?_
      refine lv_iadd hx hb dL_law_568 ?_
      refine lv_topi (fun y172 ey172 => ?_)
      obtain rfl : y172 = 2 := ey172.trans (by decide)
      refine va_sld hx hb hX hbl hbA hS (vp_in_iff.mpr (by decide)) dL_law_569 ?_
      refine lv_topi (fun y173 ey173 => ?_)
      obtain rfl : x2 = y173 := hx2.trans ey173.symm
      refine lv_aload_n hx hb dL_law_570 rfl (lv_at hl 4 rfl) ?_
      refine lv_iload hx hb dL_law_571 (lv_at hl 0 rfl) ?_
      refine lv_iconst (v := 3) hx hb dL_law_573 (by decide) ?_
      refine lv_iadd hx hb dL_law_574 ?_
      refine lv_topi (fun y174 ey174 => ?_)
      obtain rfl : y174 = 3 := ey174.trans (by decide)
      refine va_sld hx hb hX hbl hbA hS (vp_in_iff.mpr (by decide)) dL_law_575 ?_
      refine lv_topi (fun y175 ey175 => ?_)
      obtain rfl : x3 = y175 := hx3.trans ey175.symm
      refine cvI (wr := MW z cy 0) (As := [.int x1, .int x2, .int x3]) (rest := []) ⟨hx, hb, hml, hown, hts0⟩ (mX9_mishap l D q cy g _ x1 x2 x3 ) (cwV 3 hts0 gL_law_X9_mishap rfl rfl rfl (by decide +kernel) ⟨Nat.le_of_ble_eq_true rfl, Nat.le_of_ble_eq_true rfl⟩) hK hP hD hS hA [0, 1, 2, 3, 4, 5, 6, 7, 8, 9, 10, 11, 12, 13, 14, 15, 16, 17, 18, 19, 20, 21] [22, 23, 24, 25, 26, 27, 28, 29, 30, 31, 32, 33, 34, 35, 36, 37, 38] rfl rfl (by decide) (by decide) (by decide) 0 9 rfl rfl rfl hl.1 rfl (Nat.le_of_ble_eq_true rfl) dL_law_576 ⟨(Nat.le_of_ble_eq_true rfl), (Nat.le_of_ble_eq_true rfl)⟩ (fun r176 H locs hr176 hP hD hS => ?_)
      obtain rfl : r176 = sp_mishap x1 x2 x3 := hr176
      have hP := hP.sub (ws' := MW z cy 0) [0, 1, 2, 3, 4, 5, 6, 7, 8, 9, 10, 11, 12, 13, 14, 15, 16] rfl
      have hD := hD.sub (ws' := MW z cy 0) [0, 1, 2, 3, 4, 5, 6, 7, 8, 9, 10, 11, 12, 13, 14, 15, 16] (by decide) rfl
      refine lv_aload_n hx hb dL_law_579 rfl (lv_at hl 2 rfl) ?_
      refine lv_aload_n hx hb dL_law_580 rfl (lv_at hl 4 rfl) ?_
      refine lv_iload hx hb dL_law_581 (lv_at hl 0 rfl) ?_
      refine lv_iconst (v := 1) hx hb dL_law_583 (by decide) ?_
      refine lv_iadd hx hb dL_law_584 ?_
      refine lv_topi (fun y177 ey177 => ?_)
      obtain rfl : y177 = 1 := ey177.trans (by decide)
      refine va_sld hx hb hX hbl hbA hS (vp_in_iff.mpr (by decide)) dL_law_585 ?_
      refine lv_topi (fun y178 ey178 => ?_)
      obtain rfl : x1 = y178 := hx1.trans ey178.symm
      refine lv_aload_n hx hb dL_law_586 rfl (lv_at hl 4 rfl) ?_
      refine lv_iload hx hb dL_law_587 (lv_at hl 0 rfl) ?_
      refine lv_iconst (v := 2) hx hb dL_law_589 (by decide) ?_
      refine lv_iadd hx hb dL_law_590 ?_
      refine lv_topi (fun y179 ey179 => ?_)
      obtain rfl : y179 = 2 := ey179.trans (by decide)
      refine va_sld hx hb hX hbl hbA hS (vp_in_iff.mpr (by decide)) dL_law_591 ?_
      refine lv_topi (fun y180 ey180 => ?_)
      obtain rfl : x2 = y180 := hx2.trans ey180.symm
      refine lv_aload_n hx hb dL_law_592 rfl (lv_at hl 4 rfl) ?_
      refine lv_iload hx hb dL_law_593 (lv_at hl 0 rfl) ?_
      refine lv_iconst (v := 3) hx hb dL_law_595 (by decide) ?_
      refine lv_iadd hx hb dL_law_596 ?_
      refine lv_topi (fun y181 ey181 => ?_)
      obtain rfl : y181 = 3 := ey181.trans (by decide)
      refine va_sld hx hb hX hbl hbA hS (vp_in_iff.mpr (by decide)) dL_law_597 ?_
      refine lv_topi (fun y182 ey182 => ?_)
      obtain rfl : x3 = y182 := hx3.trans ey182.symm
      refine cvI (wr := []) (As := [.int x1, .int x2, .int x3]) (rest := [.int (sp_mishap x1 x2 x3)]) ⟨hx, hb, hml, hown, hts0⟩ (mX10_mishap l D z cy _ x1 x2 x3 ) (cwV 3 hts0 gL_law_X10_mishap rfl rfl rfl (by decide +kernel) ⟨Nat.le_of_ble_eq_true rfl, Nat.le_of_ble_eq_true rfl⟩) hK hP hD hS hA [0, 1, 2, 3, 4, 5, 6, 7, 8, 9, 10, 11, 12, 13, 14, 15, 16] [] rfl rfl (by decide) (by decide) (by decide) 0 10 rfl rfl rfl hl.1 rfl (Nat.le_of_ble_eq_true rfl) dL_law_598 ⟨(Nat.le_of_ble_eq_true rfl), (Nat.le_of_ble_eq_true rfl)⟩ (fun r183 H locs hr183 hP hD hS => ?_)
      obtain rfl : r183 = sp_mishap x1 x2 x3 := hr183
      refine lv_icmp_eq (tgt := 996) hx hb dL_law_601 (by decide) (fun _ => ?_) (fun c9 => absurd (rfl) c9)
      refine lv_iinc (v := 5) (lv' := [(4, .int 5), (3, .ref ao), (2, .ref (z 58)), (1, .ref (q 0)), (0, .ref b)]) hx hb dL_law_996 hl (k := 0) rfl (by decide) (by decide) rfl (fun ls hl => ?_)
      refine lv_goto (tgt := 23) hx hb dL_law_999 (by decide) ?_
      refine lv_iload hx hb dL_law_23 (lv_at hl 0 rfl) ?_
      refine lv_aload_n hx hb dL_law_25 rfl (lv_at hl 4 rfl) ?_
      refine va_slen hx hb hX hbl hbA hS dL_law_26 ?_
      refine lv_topi (fun y184 ey184 => ?_)
      obtain rfl : y184 = 5 := ey184.trans (by decide)
      refine lv_iconst (v := 5) hx hb dL_law_27 (by decide) ?_
      refine lv_isub hx hb dL_law_28 ?_
      refine lv_topi (fun y185 ey185 => ?_)
      obtain rfl : y185 = 0 := ey185.trans (by decide)
      refine lv_icmp_gt (tgt := 1002) hx hb dL_law_29 (by decide) (fun _ => ?_) (fun c9 => absurd (by decide) c9)
      refine lv_iconst (v := 1) hx hb dL_law_1002 (by decide) ?_
      refine va_forget (fun q9 h9 => hS.2.2 q9 h9) ?_
      refine W.widen (k := 600002) (n := 7302232) (Nat.le_of_ble_eq_true rfl) (Nat.le_of_ble_eq_true rfl) ?_
      exact lw_ret hx hb hr hlocks dL_law_1003
    by_cases j186 : wd = 10
    · skip
      subst j186
      refine lv_tableIn (tgt := 606) hx hb dL_law_39 (by decide) (by decide) rfl (by decide) ?_
      refine lv_aload_n hx hb dL_law_606 rfl (lv_at hl 3 rfl) ?_
      refine lv_aload_n hx hb dL_law_607 rfl (lv_at hl 4 rfl) ?_
      refine lv_iload hx hb dL_law_608 (lv_at hl 0 rfl) ?_
      refine lv_iconst (v := 1) hx hb dL_law_610 (by decide) ?_
      refine lv_iadd hx hb dL_law_611 ?_
      refine lv_topi (fun y187 ey187 => ?_)
      obtain rfl : y187 = 1 := ey187.trans (by decide)
      refine va_sld hx hb hX hbl hbA hS (vp_in_iff.mpr (by decide)) dL_law_612 ?_
      refine lv_topi (fun y188 ey188 => ?_)
      obtain rfl : x1 = y188 := hx1.trans ey188.symm
      refine cvI (wr := MW z cy 0) (As := [.int x1]) (rest := []) ⟨hx, hb, hml, hown, hts0⟩ (mX9_run l D q cy g _ x1 ) (cwV 1 hts0 gL_law_X9_run rfl rfl rfl (by decide +kernel) ⟨Nat.le_of_ble_eq_true rfl, Nat.le_of_ble_eq_true rfl⟩) hK hP hD hS hA [0, 1, 2, 3, 4, 5, 6, 7, 8, 9, 10, 11, 12, 13, 14, 15, 16, 17, 18, 19, 20, 21] [22, 23, 24, 25, 26, 27, 28, 29, 30, 31, 32, 33, 34, 35, 36, 37, 38] rfl rfl (by decide) (by decide) (by decide) 0 9 rfl rfl rfl hl.1 rfl (Nat.le_of_ble_eq_true rfl) dL_law_613 ⟨(Nat.le_of_ble_eq_true rfl), (Nat.le_of_ble_eq_true rfl)⟩ (fun r189 H locs hr189 hP hD hS => ?_)
      obtain rfl : r189 = sp_run x1 := hr189
      have hP := hP.sub (ws' := MW z cy 0) [0, 1, 2, 3, 4, 5, 6, 7, 8, 9, 10, 11, 12, 13, 14, 15, 16] rfl
      have hD := hD.sub (ws' := MW z cy 0) [0, 1, 2, 3, 4, 5, 6, 7, 8, 9, 10, 11, 12, 13, 14, 15, 16] (by decide) rfl
      refine lv_aload_n hx hb dL_law_616 rfl (lv_at hl 2 rfl) ?_
      refine lv_aload_n hx hb dL_law_617 rfl (lv_at hl 4 rfl) ?_
      refine lv_iload hx hb dL_law_618 (lv_at hl 0 rfl) ?_
      refine lv_iconst (v := 1) hx hb dL_law_620 (by decide) ?_
      refine lv_iadd hx hb dL_law_621 ?_
      refine lv_topi (fun y190 ey190 => ?_)
      obtain rfl : y190 = 1 := ey190.trans (by decide)
      refine va_sld hx hb hX hbl hbA hS (vp_in_iff.mpr (by decide)) dL_law_622 ?_
      refine lv_topi (fun y191 ey191 => ?_)
      obtain rfl : x1 = y191 := hx1.trans ey191.symm
      refine cvI (wr := []) (As := [.int x1]) (rest := [.int (sp_run x1)]) ⟨hx, hb, hml, hown, hts0⟩ (mX10_run l D z cy _ x1 ) (cwV 1 hts0 gL_law_X10_run rfl rfl rfl (by decide +kernel) ⟨Nat.le_of_ble_eq_true rfl, Nat.le_of_ble_eq_true rfl⟩) hK hP hD hS hA [0, 1, 2, 3, 4, 5, 6, 7, 8, 9, 10, 11, 12, 13, 14, 15, 16] [] rfl rfl (by decide) (by decide) (by decide) 0 10 rfl rfl rfl hl.1 rfl (Nat.le_of_ble_eq_true rfl) dL_law_623 ⟨(Nat.le_of_ble_eq_true rfl), (Nat.le_of_ble_eq_true rfl)⟩ (fun r192 H locs hr192 hP hD hS => ?_)
      obtain rfl : r192 = sp_run x1 := hr192
      refine lv_icmp_eq (tgt := 996) hx hb dL_law_626 (by decide) (fun _ => ?_) (fun c9 => absurd (rfl) c9)
      refine lv_iinc (v := 5) (lv' := [(4, .int 5), (3, .ref ao), (2, .ref (z 58)), (1, .ref (q 0)), (0, .ref b)]) hx hb dL_law_996 hl (k := 0) rfl (by decide) (by decide) rfl (fun ls hl => ?_)
      refine lv_goto (tgt := 23) hx hb dL_law_999 (by decide) ?_
      refine lv_iload hx hb dL_law_23 (lv_at hl 0 rfl) ?_
      refine lv_aload_n hx hb dL_law_25 rfl (lv_at hl 4 rfl) ?_
      refine va_slen hx hb hX hbl hbA hS dL_law_26 ?_
      refine lv_topi (fun y193 ey193 => ?_)
      obtain rfl : y193 = 5 := ey193.trans (by decide)
      refine lv_iconst (v := 5) hx hb dL_law_27 (by decide) ?_
      refine lv_isub hx hb dL_law_28 ?_
      refine lv_topi (fun y194 ey194 => ?_)
      obtain rfl : y194 = 0 := ey194.trans (by decide)
      refine lv_icmp_gt (tgt := 1002) hx hb dL_law_29 (by decide) (fun _ => ?_) (fun c9 => absurd (by decide) c9)
      refine lv_iconst (v := 1) hx hb dL_law_1002 (by decide) ?_
      refine va_forget (fun q9 h9 => hS.2.2 q9 h9) ?_
      refine W.widen (k := 600002) (n := 7302232) (Nat.le_of_ble_eq_true rfl) (Nat.le_of_ble_eq_true rfl) ?_
      exact lw_ret hx hb hr hlocks dL_law_1003
    by_cases j195 : wd = 11
    · skip
      subst j195
      refine lv_tableIn (tgt := 631) hx hb dL_law_39 (by decide) (by decide) rfl (by decide) ?_
      refine lv_aload_n hx hb dL_law_631 rfl (lv_at hl 3 rfl) ?_
      refine lv_aload_n hx hb dL_law_632 rfl (lv_at hl 4 rfl) ?_
      refine lv_iload hx hb dL_law_633 (lv_at hl 0 rfl) ?_
      refine lv_iconst (v := 1) hx hb dL_law_635 (by decide) ?_
      refine lv_iadd hx hb dL_law_636 ?_
      refine lv_topi (fun y196 ey196 => ?_)
      obtain rfl : y196 = 1 := ey196.trans (by decide)
      refine va_sld hx hb hX hbl hbA hS (vp_in_iff.mpr (by decide)) dL_law_637 ?_
      refine lv_topi (fun y197 ey197 => ?_)
      obtain rfl : x1 = y197 := hx1.trans ey197.symm
      refine lv_aload_n hx hb dL_law_638 rfl (lv_at hl 4 rfl) ?_
      refine lv_iload hx hb dL_law_639 (lv_at hl 0 rfl) ?_
      refine lv_iconst (v := 2) hx hb dL_law_641 (by decide) ?_
      refine lv_iadd hx hb dL_law_642 ?_
      refine lv_topi (fun y198 ey198 => ?_)
      obtain rfl : y198 = 2 := ey198.trans (by decide)
      refine va_sld hx hb hX hbl hbA hS (vp_in_iff.mpr (by decide)) dL_law_643 ?_
      refine lv_topi (fun y199 ey199 => ?_)
      obtain rfl : x2 = y199 := hx2.trans ey199.symm
      refine cvI (wr := MW z cy 0) (As := [.int x1, .int x2]) (rest := []) ⟨hx, hb, hml, hown, hts0⟩ (mX9_about l D q cy g _ x1 x2 ) (cwV 2 hts0 gL_law_X9_about rfl rfl rfl (by decide +kernel) ⟨Nat.le_of_ble_eq_true rfl, Nat.le_of_ble_eq_true rfl⟩) hK hP hD hS hA [0, 1, 2, 3, 4, 5, 6, 7, 8, 9, 10, 11, 12, 13, 14, 15, 16, 17, 18, 19, 20, 21] [22, 23, 24, 25, 26, 27, 28, 29, 30, 31, 32, 33, 34, 35, 36, 37, 38] rfl rfl (by decide) (by decide) (by decide) 0 9 rfl rfl rfl hl.1 rfl (Nat.le_of_ble_eq_true rfl) dL_law_644 ⟨(Nat.le_of_ble_eq_true rfl), (Nat.le_of_ble_eq_true rfl)⟩ (fun r200 H locs hr200 hP hD hS => ?_)
      obtain rfl : r200 = (-1) := hr200
      have hP := hP.sub (ws' := MW z cy 0) [0, 1, 2, 3, 4, 5, 6, 7, 8, 9, 10, 11, 12, 13, 14, 15, 16] rfl
      have hD := hD.sub (ws' := MW z cy 0) [0, 1, 2, 3, 4, 5, 6, 7, 8, 9, 10, 11, 12, 13, 14, 15, 16] (by decide) rfl
      refine lv_aload_n hx hb dL_law_647 rfl (lv_at hl 2 rfl) ?_
      refine lv_aload_n hx hb dL_law_648 rfl (lv_at hl 4 rfl) ?_
      refine lv_iload hx hb dL_law_649 (lv_at hl 0 rfl) ?_
      refine lv_iconst (v := 1) hx hb dL_law_651 (by decide) ?_
      refine lv_iadd hx hb dL_law_652 ?_
      refine lv_topi (fun y201 ey201 => ?_)
      obtain rfl : y201 = 1 := ey201.trans (by decide)
      refine va_sld hx hb hX hbl hbA hS (vp_in_iff.mpr (by decide)) dL_law_653 ?_
      refine lv_topi (fun y202 ey202 => ?_)
      obtain rfl : x1 = y202 := hx1.trans ey202.symm
      refine lv_aload_n hx hb dL_law_654 rfl (lv_at hl 4 rfl) ?_
      refine lv_iload hx hb dL_law_655 (lv_at hl 0 rfl) ?_
      refine lv_iconst (v := 2) hx hb dL_law_657 (by decide) ?_
      refine lv_iadd hx hb dL_law_658 ?_
      refine lv_topi (fun y203 ey203 => ?_)
      obtain rfl : y203 = 2 := ey203.trans (by decide)
      refine va_sld hx hb hX hbl hbA hS (vp_in_iff.mpr (by decide)) dL_law_659 ?_
      refine lv_topi (fun y204 ey204 => ?_)
      obtain rfl : x2 = y204 := hx2.trans ey204.symm
      refine cvI (wr := []) (As := [.int x1, .int x2]) (rest := [.int (-1)]) ⟨hx, hb, hml, hown, hts0⟩ (mX10_about l D z cy _ x1 x2 ) (cwV 2 hts0 gL_law_X10_about rfl rfl rfl (by decide +kernel) ⟨Nat.le_of_ble_eq_true rfl, Nat.le_of_ble_eq_true rfl⟩) hK hP hD hS hA [0, 1, 2, 3, 4, 5, 6, 7, 8, 9, 10, 11, 12, 13, 14, 15, 16] [] rfl rfl (by decide) (by decide) (by decide) 0 10 rfl rfl rfl hl.1 rfl (Nat.le_of_ble_eq_true rfl) dL_law_660 ⟨(Nat.le_of_ble_eq_true rfl), (Nat.le_of_ble_eq_true rfl)⟩ (fun r205 H locs hr205 hP hD hS => ?_)
      obtain rfl : r205 = (-1) := hr205
      have hP : va_P D vwCl (MW z cy 0) H := hP
      have hD : va_D _ (MW z cy 0) := hD
      refine lv_icmp_eq (tgt := 996) hx hb dL_law_663 (by decide) (fun _ => ?_) (fun c9 => absurd (by decide) c9)
      refine lv_iinc (v := 5) (lv' := [(4, .int 5), (3, .ref ao), (2, .ref (z 58)), (1, .ref (q 0)), (0, .ref b)]) hx hb dL_law_996 hl (k := 0) rfl (by decide) (by decide) rfl (fun ls hl => ?_)
      refine lv_goto (tgt := 23) hx hb dL_law_999 (by decide) ?_
      refine lv_iload hx hb dL_law_23 (lv_at hl 0 rfl) ?_
      refine lv_aload_n hx hb dL_law_25 rfl (lv_at hl 4 rfl) ?_
      refine va_slen hx hb hX hbl hbA hS dL_law_26 ?_
      refine lv_topi (fun y206 ey206 => ?_)
      obtain rfl : y206 = 5 := ey206.trans (by decide)
      refine lv_iconst (v := 5) hx hb dL_law_27 (by decide) ?_
      refine lv_isub hx hb dL_law_28 ?_
      refine lv_topi (fun y207 ey207 => ?_)
      obtain rfl : y207 = 0 := ey207.trans (by decide)
      refine lv_icmp_gt (tgt := 1002) hx hb dL_law_29 (by decide) (fun _ => ?_) (fun c9 => absurd (by decide) c9)
      refine lv_iconst (v := 1) hx hb dL_law_1002 (by decide) ?_
      refine va_forget (fun q9 h9 => hS.2.2 q9 h9) ?_
      refine W.widen (k := 600002) (n := 7302232) (Nat.le_of_ble_eq_true rfl) (Nat.le_of_ble_eq_true rfl) ?_
      exact lw_ret hx hb hr hlocks dL_law_1003
    by_cases j208 : wd = 12
    · skip
      subst j208
      refine lv_tableIn (tgt := 668) hx hb dL_law_39 (by decide) (by decide) rfl (by decide) ?_
      refine lv_aload_n hx hb dL_law_668 rfl (lv_at hl 3 rfl) ?_
      refine lv_aload_n hx hb dL_law_669 rfl (lv_at hl 4 rfl) ?_
      refine lv_iload hx hb dL_law_670 (lv_at hl 0 rfl) ?_
      refine lv_iconst (v := 1) hx hb dL_law_672 (by decide) ?_
      refine lv_iadd hx hb dL_law_673 ?_
      refine lv_topi (fun y209 ey209 => ?_)
      obtain rfl : y209 = 1 := ey209.trans (by decide)
      refine va_sld hx hb hX hbl hbA hS (vp_in_iff.mpr (by decide)) dL_law_674 ?_
      refine lv_topi (fun y210 ey210 => ?_)
      obtain rfl : x1 = y210 := hx1.trans ey210.symm
      refine lv_aload_n hx hb dL_law_675 rfl (lv_at hl 4 rfl) ?_
      refine lv_iload hx hb dL_law_676 (lv_at hl 0 rfl) ?_
      refine lv_iconst (v := 2) hx hb dL_law_678 (by decide) ?_
      refine lv_iadd hx hb dL_law_679 ?_
      refine lv_topi (fun y211 ey211 => ?_)
      obtain rfl : y211 = 2 := ey211.trans (by decide)
      refine va_sld hx hb hX hbl hbA hS (vp_in_iff.mpr (by decide)) dL_law_680 ?_
      refine lv_topi (fun y212 ey212 => ?_)
      obtain rfl : x2 = y212 := hx2.trans ey212.symm
      refine cvI (wr := MW z cy 0) (As := [.int x1, .int x2]) (rest := []) ⟨hx, hb, hml, hown, hts0⟩ (mX9_held l D q cy g _ x1 x2 ) (cwV 2 hts0 gL_law_X9_held rfl rfl rfl (by decide +kernel) ⟨Nat.le_of_ble_eq_true rfl, Nat.le_of_ble_eq_true rfl⟩) hK hP hD hS hA [0, 1, 2, 3, 4, 5, 6, 7, 8, 9, 10, 11, 12, 13, 14, 15, 16, 17, 18, 19, 20, 21] [22, 23, 24, 25, 26, 27, 28, 29, 30, 31, 32, 33, 34, 35, 36, 37, 38] rfl rfl (by decide) (by decide) (by decide) 0 9 rfl rfl rfl hl.1 rfl (Nat.le_of_ble_eq_true rfl) dL_law_681 ⟨(Nat.le_of_ble_eq_true rfl), (Nat.le_of_ble_eq_true rfl)⟩ (fun r213 H locs hr213 hP hD hS => ?_)
      obtain rfl : r213 = (-1) := hr213
      have hP := hP.sub (ws' := MW z cy 0) [0, 1, 2, 3, 4, 5, 6, 7, 8, 9, 10, 11, 12, 13, 14, 15, 16] rfl
      have hD := hD.sub (ws' := MW z cy 0) [0, 1, 2, 3, 4, 5, 6, 7, 8, 9, 10, 11, 12, 13, 14, 15, 16] (by decide) rfl
      refine lv_aload_n hx hb dL_law_684 rfl (lv_at hl 2 rfl) ?_
      refine lv_aload_n hx hb dL_law_685 rfl (lv_at hl 4 rfl) ?_
      refine lv_iload hx hb dL_law_686 (lv_at hl 0 rfl) ?_
      refine lv_iconst (v := 1) hx hb dL_law_688 (by decide) ?_
      refine lv_iadd hx hb dL_law_689 ?_
      refine lv_topi (fun y214 ey214 => ?_)
      obtain rfl : y214 = 1 := ey214.trans (by decide)
      refine va_sld hx hb hX hbl hbA hS (vp_in_iff.mpr (by decide)) dL_law_690 ?_
      refine lv_topi (fun y215 ey215 => ?_)
      obtain rfl : x1 = y215 := hx1.trans ey215.symm
      refine lv_aload_n hx hb dL_law_691 rfl (lv_at hl 4 rfl) ?_
      refine lv_iload hx hb dL_law_692 (lv_at hl 0 rfl) ?_
      refine lv_iconst (v := 2) hx hb dL_law_694 (by decide) ?_
      refine lv_iadd hx hb dL_law_695 ?_
      refine lv_topi (fun y216 ey216 => ?_)
      obtain rfl : y216 = 2 := ey216.trans (by decide)
      refine va_sld hx hb hX hbl hbA hS (vp_in_iff.mpr (by decide)) dL_law_696 ?_
      refine lv_topi (fun y217 ey217 => ?_)
      obtain rfl : x2 = y217 := hx2.trans ey217.symm
      refine cvI (wr := []) (As := [.int x1, .int x2]) (rest := [.int (-1)]) ⟨hx, hb, hml, hown, hts0⟩ (mX10_held l D z cy _ x1 x2 ) (cwV 2 hts0 gL_law_X10_held rfl rfl rfl (by decide +kernel) ⟨Nat.le_of_ble_eq_true rfl, Nat.le_of_ble_eq_true rfl⟩) hK hP hD hS hA [0, 1, 2, 3, 4, 5, 6, 7, 8, 9, 10, 11, 12, 13, 14, 15, 16] [] rfl rfl (by decide) (by decide) (by decide) 0 10 rfl rfl rfl hl.1 rfl (Nat.le_of_ble_eq_true rfl) dL_law_697 ⟨(Nat.le_of_ble_eq_true rfl), (Nat.le_of_ble_eq_true rfl)⟩ (fun r218 H locs hr218 hP hD hS => ?_)
      obtain rfl : r218 = (-1) := hr218
      have hP : va_P D vwCl (MW z cy 0) H := hP
      have hD : va_D _ (MW z cy 0) := hD
      refine lv_icmp_eq (tgt := 996) hx hb dL_law_700 (by decide) (fun _ => ?_) (fun c9 => absurd (by decide) c9)
      refine lv_iinc (v := 5) (lv' := [(4, .int 5), (3, .ref ao), (2, .ref (z 58)), (1, .ref (q 0)), (0, .ref b)]) hx hb dL_law_996 hl (k := 0) rfl (by decide) (by decide) rfl (fun ls hl => ?_)
      refine lv_goto (tgt := 23) hx hb dL_law_999 (by decide) ?_
      refine lv_iload hx hb dL_law_23 (lv_at hl 0 rfl) ?_
      refine lv_aload_n hx hb dL_law_25 rfl (lv_at hl 4 rfl) ?_
      refine va_slen hx hb hX hbl hbA hS dL_law_26 ?_
      refine lv_topi (fun y219 ey219 => ?_)
      obtain rfl : y219 = 5 := ey219.trans (by decide)
      refine lv_iconst (v := 5) hx hb dL_law_27 (by decide) ?_
      refine lv_isub hx hb dL_law_28 ?_
      refine lv_topi (fun y220 ey220 => ?_)
      obtain rfl : y220 = 0 := ey220.trans (by decide)
      refine lv_icmp_gt (tgt := 1002) hx hb dL_law_29 (by decide) (fun _ => ?_) (fun c9 => absurd (by decide) c9)
      refine lv_iconst (v := 1) hx hb dL_law_1002 (by decide) ?_
      refine va_forget (fun q9 h9 => hS.2.2 q9 h9) ?_
      refine W.widen (k := 600002) (n := 7302232) (Nat.le_of_ble_eq_true rfl) (Nat.le_of_ble_eq_true rfl) ?_
      exact lw_ret hx hb hr hlocks dL_law_1003
    by_cases j221 : wd = 13
    · skip
      subst j221
      refine lv_tableIn (tgt := 705) hx hb dL_law_39 (by decide) (by decide) rfl (by decide) ?_
      refine lv_aload_n hx hb dL_law_705 rfl (lv_at hl 3 rfl) ?_
      refine lv_aload_n hx hb dL_law_706 rfl (lv_at hl 4 rfl) ?_
      refine lv_iload hx hb dL_law_707 (lv_at hl 0 rfl) ?_
      refine lv_iconst (v := 1) hx hb dL_law_709 (by decide) ?_
      refine lv_iadd hx hb dL_law_710 ?_
      refine lv_topi (fun y222 ey222 => ?_)
      obtain rfl : y222 = 1 := ey222.trans (by decide)
      refine va_sld hx hb hX hbl hbA hS (vp_in_iff.mpr (by decide)) dL_law_711 ?_
      refine lv_topi (fun y223 ey223 => ?_)
      obtain rfl : x1 = y223 := hx1.trans ey223.symm
      refine lv_aload_n hx hb dL_law_712 rfl (lv_at hl 4 rfl) ?_
      refine lv_iload hx hb dL_law_713 (lv_at hl 0 rfl) ?_
      refine lv_iconst (v := 2) hx hb dL_law_715 (by decide) ?_
      refine lv_iadd hx hb dL_law_716 ?_
      refine lv_topi (fun y224 ey224 => ?_)
      obtain rfl : y224 = 2 := ey224.trans (by decide)
      refine va_sld hx hb hX hbl hbA hS (vp_in_iff.mpr (by decide)) dL_law_717 ?_
      refine lv_topi (fun y225 ey225 => ?_)
      obtain rfl : x2 = y225 := hx2.trans ey225.symm
      refine cvI (wr := MW z cy 0) (As := [.int x1, .int x2]) (rest := []) ⟨hx, hb, hml, hown, hts0⟩ (mX9_refused l D q cy g _ x1 x2 ) (cwV 2 hts0 gL_law_X9_refused rfl rfl rfl (by decide +kernel) ⟨Nat.le_of_ble_eq_true rfl, Nat.le_of_ble_eq_true rfl⟩) hK hP hD hS hA [0, 1, 2, 3, 4, 5, 6, 7, 8, 9, 10, 11, 12, 13, 14, 15, 16, 17, 18, 19, 20, 21] [22, 23, 24, 25, 26, 27, 28, 29, 30, 31, 32, 33, 34, 35, 36, 37, 38] rfl rfl (by decide) (by decide) (by decide) 0 9 rfl rfl rfl hl.1 rfl (Nat.le_of_ble_eq_true rfl) dL_law_718 ⟨(Nat.le_of_ble_eq_true rfl), (Nat.le_of_ble_eq_true rfl)⟩ (fun r226 H locs hr226 hP hD hS => ?_)
      obtain rfl : r226 = (-1) := hr226
      have hP := hP.sub (ws' := MW z cy 0) [0, 1, 2, 3, 4, 5, 6, 7, 8, 9, 10, 11, 12, 13, 14, 15, 16] rfl
      have hD := hD.sub (ws' := MW z cy 0) [0, 1, 2, 3, 4, 5, 6, 7, 8, 9, 10, 11, 12, 13, 14, 15, 16] (by decide) rfl
      refine lv_aload_n hx hb dL_law_721 rfl (lv_at hl 2 rfl) ?_
      refine lv_aload_n hx hb dL_law_722 rfl (lv_at hl 4 rfl) ?_
      refine lv_iload hx hb dL_law_723 (lv_at hl 0 rfl) ?_
      refine lv_iconst (v := 1) hx hb dL_law_725 (by decide) ?_
      refine lv_iadd hx hb dL_law_726 ?_
      refine lv_topi (fun y227 ey227 => ?_)
      obtain rfl : y227 = 1 := ey227.trans (by decide)
      refine va_sld hx hb hX hbl hbA hS (vp_in_iff.mpr (by decide)) dL_law_727 ?_
      refine lv_topi (fun y228 ey228 => ?_)
      obtain rfl : x1 = y228 := hx1.trans ey228.symm
      refine lv_aload_n hx hb dL_law_728 rfl (lv_at hl 4 rfl) ?_
      refine lv_iload hx hb dL_law_729 (lv_at hl 0 rfl) ?_
      refine lv_iconst (v := 2) hx hb dL_law_731 (by decide) ?_
      refine lv_iadd hx hb dL_law_732 ?_
      refine lv_topi (fun y229 ey229 => ?_)
      obtain rfl : y229 = 2 := ey229.trans (by decide)
      refine va_sld hx hb hX hbl hbA hS (vp_in_iff.mpr (by decide)) dL_law_733 ?_
      refine lv_topi (fun y230 ey230 => ?_)
      obtain rfl : x2 = y230 := hx2.trans ey230.symm
      refine cvI (wr := []) (As := [.int x1, .int x2]) (rest := [.int (-1)]) ⟨hx, hb, hml, hown, hts0⟩ (mX10_refused l D z cy _ x1 x2 ) (cwV 2 hts0 gL_law_X10_refused rfl rfl rfl (by decide +kernel) ⟨Nat.le_of_ble_eq_true rfl, Nat.le_of_ble_eq_true rfl⟩) hK hP hD hS hA [0, 1, 2, 3, 4, 5, 6, 7, 8, 9, 10, 11, 12, 13, 14, 15, 16] [] rfl rfl (by decide) (by decide) (by decide) 0 10 rfl rfl rfl hl.1 rfl (Nat.le_of_ble_eq_true rfl) dL_law_734 ⟨(Nat.le_of_ble_eq_true rfl), (Nat.le_of_ble_eq_true rfl)⟩ (fun r231 H locs hr231 hP hD hS => ?_)
      obtain rfl : r231 = (-1) := hr231
      have hP : va_P D vwCl (MW z cy 0) H := hP
      have hD : va_D _ (MW z cy 0) := hD
      refine lv_icmp_eq (tgt := 996) hx hb dL_law_737 (by decide) (fun _ => ?_) (fun c9 => absurd (by decide) c9)
      refine lv_iinc (v := 5) (lv' := [(4, .int 5), (3, .ref ao), (2, .ref (z 58)), (1, .ref (q 0)), (0, .ref b)]) hx hb dL_law_996 hl (k := 0) rfl (by decide) (by decide) rfl (fun ls hl => ?_)
      refine lv_goto (tgt := 23) hx hb dL_law_999 (by decide) ?_
      refine lv_iload hx hb dL_law_23 (lv_at hl 0 rfl) ?_
      refine lv_aload_n hx hb dL_law_25 rfl (lv_at hl 4 rfl) ?_
      refine va_slen hx hb hX hbl hbA hS dL_law_26 ?_
      refine lv_topi (fun y232 ey232 => ?_)
      obtain rfl : y232 = 5 := ey232.trans (by decide)
      refine lv_iconst (v := 5) hx hb dL_law_27 (by decide) ?_
      refine lv_isub hx hb dL_law_28 ?_
      refine lv_topi (fun y233 ey233 => ?_)
      obtain rfl : y233 = 0 := ey233.trans (by decide)
      refine lv_icmp_gt (tgt := 1002) hx hb dL_law_29 (by decide) (fun _ => ?_) (fun c9 => absurd (by decide) c9)
      refine lv_iconst (v := 1) hx hb dL_law_1002 (by decide) ?_
      refine va_forget (fun q9 h9 => hS.2.2 q9 h9) ?_
      refine W.widen (k := 600002) (n := 7302232) (Nat.le_of_ble_eq_true rfl) (Nat.le_of_ble_eq_true rfl) ?_
      exact lw_ret hx hb hr hlocks dL_law_1003
    by_cases j234 : wd = 14
    · skip
      subst j234
      refine lv_tableIn (tgt := 742) hx hb dL_law_39 (by decide) (by decide) rfl (by decide) ?_
      refine lv_aload_n hx hb dL_law_742 rfl (lv_at hl 3 rfl) ?_
      refine lv_aload_n hx hb dL_law_743 rfl (lv_at hl 4 rfl) ?_
      refine lv_iload hx hb dL_law_744 (lv_at hl 0 rfl) ?_
      refine lv_iconst (v := 1) hx hb dL_law_746 (by decide) ?_
      refine lv_iadd hx hb dL_law_747 ?_
      refine lv_topi (fun y235 ey235 => ?_)
      obtain rfl : y235 = 1 := ey235.trans (by decide)
      refine va_sld hx hb hX hbl hbA hS (vp_in_iff.mpr (by decide)) dL_law_748 ?_
      refine lv_topi (fun y236 ey236 => ?_)
      obtain rfl : x1 = y236 := hx1.trans ey236.symm
      refine cvI (wr := MW z cy 0) (As := [.int x1]) (rest := []) ⟨hx, hb, hml, hown, hts0⟩ (mX9_place l D q cy g _ x1 ) (cwV 1 hts0 gL_law_X9_place rfl rfl rfl (by decide +kernel) ⟨Nat.le_of_ble_eq_true rfl, Nat.le_of_ble_eq_true rfl⟩) hK hP hD hS hA [0, 1, 2, 3, 4, 5, 6, 7, 8, 9, 10, 11, 12, 13, 14, 15, 16, 17, 18, 19, 20, 21] [22, 23, 24, 25, 26, 27, 28, 29, 30, 31, 32, 33, 34, 35, 36, 37, 38] rfl rfl (by decide) (by decide) (by decide) 0 9 rfl rfl rfl hl.1 rfl (Nat.le_of_ble_eq_true rfl) dL_law_749 ⟨(Nat.le_of_ble_eq_true rfl), (Nat.le_of_ble_eq_true rfl)⟩ (fun r237 H locs hr237 hP hD hS => ?_)
      obtain rfl : r237 = (-1) := hr237
      have hP := hP.sub (ws' := MW z cy 0) [0, 1, 2, 3, 4, 5, 6, 7, 8, 9, 10, 11, 12, 13, 14, 15, 16] rfl
      have hD := hD.sub (ws' := MW z cy 0) [0, 1, 2, 3, 4, 5, 6, 7, 8, 9, 10, 11, 12, 13, 14, 15, 16] (by decide) rfl
      refine lv_aload_n hx hb dL_law_752 rfl (lv_at hl 2 rfl) ?_
      refine lv_aload_n hx hb dL_law_753 rfl (lv_at hl 4 rfl) ?_
      refine lv_iload hx hb dL_law_754 (lv_at hl 0 rfl) ?_
      refine lv_iconst (v := 1) hx hb dL_law_756 (by decide) ?_
      refine lv_iadd hx hb dL_law_757 ?_
      refine lv_topi (fun y238 ey238 => ?_)
      obtain rfl : y238 = 1 := ey238.trans (by decide)
      refine va_sld hx hb hX hbl hbA hS (vp_in_iff.mpr (by decide)) dL_law_758 ?_
      refine lv_topi (fun y239 ey239 => ?_)
      obtain rfl : x1 = y239 := hx1.trans ey239.symm
      refine cvI (wr := []) (As := [.int x1]) (rest := [.int (-1)]) ⟨hx, hb, hml, hown, hts0⟩ (mX10_place l D z cy _ x1 ) (cwV 1 hts0 gL_law_X10_place rfl rfl rfl (by decide +kernel) ⟨Nat.le_of_ble_eq_true rfl, Nat.le_of_ble_eq_true rfl⟩) hK hP hD hS hA [0, 1, 2, 3, 4, 5, 6, 7, 8, 9, 10, 11, 12, 13, 14, 15, 16] [] rfl rfl (by decide) (by decide) (by decide) 0 10 rfl rfl rfl hl.1 rfl (Nat.le_of_ble_eq_true rfl) dL_law_759 ⟨(Nat.le_of_ble_eq_true rfl), (Nat.le_of_ble_eq_true rfl)⟩ (fun r240 H locs hr240 hP hD hS => ?_)
      obtain rfl : r240 = (-1) := hr240
      have hP : va_P D vwCl (MW z cy 0) H := hP
      have hD : va_D _ (MW z cy 0) := hD
      refine lv_icmp_eq (tgt := 996) hx hb dL_law_762 (by decide) (fun _ => ?_) (fun c9 => absurd (by decide) c9)
      refine lv_iinc (v := 5) (lv' := [(4, .int 5), (3, .ref ao), (2, .ref (z 58)), (1, .ref (q 0)), (0, .ref b)]) hx hb dL_law_996 hl (k := 0) rfl (by decide) (by decide) rfl (fun ls hl => ?_)
      refine lv_goto (tgt := 23) hx hb dL_law_999 (by decide) ?_
      refine lv_iload hx hb dL_law_23 (lv_at hl 0 rfl) ?_
      refine lv_aload_n hx hb dL_law_25 rfl (lv_at hl 4 rfl) ?_
      refine va_slen hx hb hX hbl hbA hS dL_law_26 ?_
      refine lv_topi (fun y241 ey241 => ?_)
      obtain rfl : y241 = 5 := ey241.trans (by decide)
      refine lv_iconst (v := 5) hx hb dL_law_27 (by decide) ?_
      refine lv_isub hx hb dL_law_28 ?_
      refine lv_topi (fun y242 ey242 => ?_)
      obtain rfl : y242 = 0 := ey242.trans (by decide)
      refine lv_icmp_gt (tgt := 1002) hx hb dL_law_29 (by decide) (fun _ => ?_) (fun c9 => absurd (by decide) c9)
      refine lv_iconst (v := 1) hx hb dL_law_1002 (by decide) ?_
      refine va_forget (fun q9 h9 => hS.2.2 q9 h9) ?_
      refine W.widen (k := 600002) (n := 7302232) (Nat.le_of_ble_eq_true rfl) (Nat.le_of_ble_eq_true rfl) ?_
      exact lw_ret hx hb hr hlocks dL_law_1003
    by_cases j243 : wd = 15
    · skip
      subst j243
      refine lv_tableIn (tgt := 767) hx hb dL_law_39 (by decide) (by decide) rfl (by decide) ?_
      refine lv_aload_n hx hb dL_law_767 rfl (lv_at hl 3 rfl) ?_
      refine lv_aload_n hx hb dL_law_768 rfl (lv_at hl 4 rfl) ?_
      refine lv_iload hx hb dL_law_769 (lv_at hl 0 rfl) ?_
      refine lv_iconst (v := 1) hx hb dL_law_771 (by decide) ?_
      refine lv_iadd hx hb dL_law_772 ?_
      refine lv_topi (fun y244 ey244 => ?_)
      obtain rfl : y244 = 1 := ey244.trans (by decide)
      refine va_sld hx hb hX hbl hbA hS (vp_in_iff.mpr (by decide)) dL_law_773 ?_
      refine lv_topi (fun y245 ey245 => ?_)
      obtain rfl : x1 = y245 := hx1.trans ey245.symm
      refine cvI (wr := MW z cy 0) (As := [.int x1]) (rest := []) ⟨hx, hb, hml, hown, hts0⟩ (mX9_whose l D q cy g _ x1 ) (cwV 1 hts0 gL_law_X9_whose rfl rfl rfl (by decide +kernel) ⟨Nat.le_of_ble_eq_true rfl, Nat.le_of_ble_eq_true rfl⟩) hK hP hD hS hA [0, 1, 2, 3, 4, 5, 6, 7, 8, 9, 10, 11, 12, 13, 14, 15, 16, 17, 18, 19, 20, 21] [22, 23, 24, 25, 26, 27, 28, 29, 30, 31, 32, 33, 34, 35, 36, 37, 38] rfl rfl (by decide) (by decide) (by decide) 0 9 rfl rfl rfl hl.1 rfl (Nat.le_of_ble_eq_true rfl) dL_law_774 ⟨(Nat.le_of_ble_eq_true rfl), (Nat.le_of_ble_eq_true rfl)⟩ (fun r246 H locs hr246 hP hD hS => ?_)
      obtain rfl : r246 = (-1) := hr246
      have hP := hP.sub (ws' := MW z cy 0) [0, 1, 2, 3, 4, 5, 6, 7, 8, 9, 10, 11, 12, 13, 14, 15, 16] rfl
      have hD := hD.sub (ws' := MW z cy 0) [0, 1, 2, 3, 4, 5, 6, 7, 8, 9, 10, 11, 12, 13, 14, 15, 16] (by decide) rfl
      refine lv_aload_n hx hb dL_law_777 rfl (lv_at hl 2 rfl) ?_
      refine lv_aload_n hx hb dL_law_778 rfl (lv_at hl 4 rfl) ?_
      refine lv_iload hx hb dL_law_779 (lv_at hl 0 rfl) ?_
      refine lv_iconst (v := 1) hx hb dL_law_781 (by decide) ?_
      refine lv_iadd hx hb dL_law_782 ?_
      refine lv_topi (fun y247 ey247 => ?_)
      obtain rfl : y247 = 1 := ey247.trans (by decide)
      refine va_sld hx hb hX hbl hbA hS (vp_in_iff.mpr (by decide)) dL_law_783 ?_
      refine lv_topi (fun y248 ey248 => ?_)
      obtain rfl : x1 = y248 := hx1.trans ey248.symm
      refine cvI (wr := []) (As := [.int x1]) (rest := [.int (-1)]) ⟨hx, hb, hml, hown, hts0⟩ (mX10_whose l D z cy _ x1 ) (cwV 1 hts0 gL_law_X10_whose rfl rfl rfl (by decide +kernel) ⟨Nat.le_of_ble_eq_true rfl, Nat.le_of_ble_eq_true rfl⟩) hK hP hD hS hA [0, 1, 2, 3, 4, 5, 6, 7, 8, 9, 10, 11, 12, 13, 14, 15, 16] [] rfl rfl (by decide) (by decide) (by decide) 0 10 rfl rfl rfl hl.1 rfl (Nat.le_of_ble_eq_true rfl) dL_law_784 ⟨(Nat.le_of_ble_eq_true rfl), (Nat.le_of_ble_eq_true rfl)⟩ (fun r249 H locs hr249 hP hD hS => ?_)
      obtain rfl : r249 = (-1) := hr249
      have hP : va_P D vwCl (MW z cy 0) H := hP
      have hD : va_D _ (MW z cy 0) := hD
      refine lv_icmp_eq (tgt := 996) hx hb dL_law_787 (by decide) (fun _ => ?_) (fun c9 => absurd (by decide) c9)
      refine lv_iinc (v := 5) (lv' := [(4, .int 5), (3, .ref ao), (2, .ref (z 58)), (1, .ref (q 0)), (0, .ref b)]) hx hb dL_law_996 hl (k := 0) rfl (by decide) (by decide) rfl (fun ls hl => ?_)
      refine lv_goto (tgt := 23) hx hb dL_law_999 (by decide) ?_
      refine lv_iload hx hb dL_law_23 (lv_at hl 0 rfl) ?_
      refine lv_aload_n hx hb dL_law_25 rfl (lv_at hl 4 rfl) ?_
      refine va_slen hx hb hX hbl hbA hS dL_law_26 ?_
      refine lv_topi (fun y250 ey250 => ?_)
      obtain rfl : y250 = 5 := ey250.trans (by decide)
      refine lv_iconst (v := 5) hx hb dL_law_27 (by decide) ?_
      refine lv_isub hx hb dL_law_28 ?_
      refine lv_topi (fun y251 ey251 => ?_)
      obtain rfl : y251 = 0 := ey251.trans (by decide)
      refine lv_icmp_gt (tgt := 1002) hx hb dL_law_29 (by decide) (fun _ => ?_) (fun c9 => absurd (by decide) c9)
      refine lv_iconst (v := 1) hx hb dL_law_1002 (by decide) ?_
      refine va_forget (fun q9 h9 => hS.2.2 q9 h9) ?_
      refine W.widen (k := 600002) (n := 7302232) (Nat.le_of_ble_eq_true rfl) (Nat.le_of_ble_eq_true rfl) ?_
      exact lw_ret hx hb hr hlocks dL_law_1003
    by_cases j252 : wd = 16
    · skip
      subst j252
      refine lv_tableIn (tgt := 792) hx hb dL_law_39 (by decide) (by decide) rfl (by decide) ?_
      refine lv_aload_n hx hb dL_law_792 rfl (lv_at hl 3 rfl) ?_
      refine lv_aload_n hx hb dL_law_793 rfl (lv_at hl 4 rfl) ?_
      refine lv_iload hx hb dL_law_794 (lv_at hl 0 rfl) ?_
      refine lv_iconst (v := 1) hx hb dL_law_796 (by decide) ?_
      refine lv_iadd hx hb dL_law_797 ?_
      refine lv_topi (fun y253 ey253 => ?_)
      obtain rfl : y253 = 1 := ey253.trans (by decide)
      refine va_sld hx hb hX hbl hbA hS (vp_in_iff.mpr (by decide)) dL_law_798 ?_
      refine lv_topi (fun y254 ey254 => ?_)
      obtain rfl : x1 = y254 := hx1.trans ey254.symm
      refine cvI (wr := MW z cy 0) (As := [.int x1]) (rest := []) ⟨hx, hb, hml, hown, hts0⟩ (mX9_seated l D q cy g _ x1 ) (cwV 1 hts0 gL_law_X9_seated rfl rfl rfl (by decide +kernel) ⟨Nat.le_of_ble_eq_true rfl, Nat.le_of_ble_eq_true rfl⟩) hK hP hD hS hA [0, 1, 2, 3, 4, 5, 6, 7, 8, 9, 10, 11, 12, 13, 14, 15, 16, 17, 18, 19, 20, 21] [22, 23, 24, 25, 26, 27, 28, 29, 30, 31, 32, 33, 34, 35, 36, 37, 38] rfl rfl (by decide) (by decide) (by decide) 0 9 rfl rfl rfl hl.1 rfl (Nat.le_of_ble_eq_true rfl) dL_law_799 ⟨(Nat.le_of_ble_eq_true rfl), (Nat.le_of_ble_eq_true rfl)⟩ (fun r255 H locs hr255 hP hD hS => ?_)
      obtain rfl : r255 = (-1) := hr255
      have hP := hP.sub (ws' := MW z cy 0) [0, 1, 2, 3, 4, 5, 6, 7, 8, 9, 10, 11, 12, 13, 14, 15, 16] rfl
      have hD := hD.sub (ws' := MW z cy 0) [0, 1, 2, 3, 4, 5, 6, 7, 8, 9, 10, 11, 12, 13, 14, 15, 16] (by decide) rfl
      refine lv_aload_n hx hb dL_law_802 rfl (lv_at hl 2 rfl) ?_
      refine lv_aload_n hx hb dL_law_803 rfl (lv_at hl 4 rfl) ?_
      refine lv_iload hx hb dL_law_804 (lv_at hl 0 rfl) ?_
      refine lv_iconst (v := 1) hx hb dL_law_806 (by decide) ?_
      refine lv_iadd hx hb dL_law_807 ?_
      refine lv_topi (fun y256 ey256 => ?_)
      obtain rfl : y256 = 1 := ey256.trans (by decide)
      refine va_sld hx hb hX hbl hbA hS (vp_in_iff.mpr (by decide)) dL_law_808 ?_
      refine lv_topi (fun y257 ey257 => ?_)
      obtain rfl : x1 = y257 := hx1.trans ey257.symm
      refine cvI (wr := []) (As := [.int x1]) (rest := [.int (-1)]) ⟨hx, hb, hml, hown, hts0⟩ (mX10_seated l D z cy _ x1 ) (cwV 1 hts0 gL_law_X10_seated rfl rfl rfl (by decide +kernel) ⟨Nat.le_of_ble_eq_true rfl, Nat.le_of_ble_eq_true rfl⟩) hK hP hD hS hA [0, 1, 2, 3, 4, 5, 6, 7, 8, 9, 10, 11, 12, 13, 14, 15, 16] [] rfl rfl (by decide) (by decide) (by decide) 0 10 rfl rfl rfl hl.1 rfl (Nat.le_of_ble_eq_true rfl) dL_law_809 ⟨(Nat.le_of_ble_eq_true rfl), (Nat.le_of_ble_eq_true rfl)⟩ (fun r258 H locs hr258 hP hD hS => ?_)
      obtain rfl : r258 = (-1) := hr258
      have hP : va_P D vwCl (MW z cy 0) H := hP
      have hD : va_D _ (MW z cy 0) := hD
      refine lv_icmp_eq (tgt := 996) hx hb dL_law_812 (by decide) (fun _ => ?_) (fun c9 => absurd (by decide) c9)
      refine lv_iinc (v := 5) (lv' := [(4, .int 5), (3, .ref ao), (2, .ref (z 58)), (1, .ref (q 0)), (0, .ref b)]) hx hb dL_law_996 hl (k := 0) rfl (by decide) (by decide) rfl (fun ls hl => ?_)
      refine lv_goto (tgt := 23) hx hb dL_law_999 (by decide) ?_
      refine lv_iload hx hb dL_law_23 (lv_at hl 0 rfl) ?_
      refine lv_aload_n hx hb dL_law_25 rfl (lv_at hl 4 rfl) ?_
      refine va_slen hx hb hX hbl hbA hS dL_law_26 ?_
      refine lv_topi (fun y259 ey259 => ?_)
      obtain rfl : y259 = 5 := ey259.trans (by decide)
      refine lv_iconst (v := 5) hx hb dL_law_27 (by decide) ?_
      refine lv_isub hx hb dL_law_28 ?_
      refine lv_topi (fun y260 ey260 => ?_)
      obtain rfl : y260 = 0 := ey260.trans (by decide)
      refine lv_icmp_gt (tgt := 1002) hx hb dL_law_29 (by decide) (fun _ => ?_) (fun c9 => absurd (by decide) c9)
      refine lv_iconst (v := 1) hx hb dL_law_1002 (by decide) ?_
      refine va_forget (fun q9 h9 => hS.2.2 q9 h9) ?_
      refine W.widen (k := 600002) (n := 7302232) (Nat.le_of_ble_eq_true rfl) (Nat.le_of_ble_eq_true rfl) ?_
      exact lw_ret hx hb hr hlocks dL_law_1003
    by_cases j261 : wd = 17
    · skip
      subst j261
      refine lv_tableIn (tgt := 817) hx hb dL_law_39 (by decide) (by decide) rfl (by decide) ?_
      by_cases hw9 : x1 = 0 ∨ sp_person x1 x2 = 0
      · skip
        refine lv_aload_n hx hb dL_law_817 rfl (lv_at hl 3 rfl) ?_
        refine lv_aload_n hx hb dL_law_818 rfl (lv_at hl 4 rfl) ?_
        refine lv_iload hx hb dL_law_819 (lv_at hl 0 rfl) ?_
        refine lv_iconst (v := 1) hx hb dL_law_821 (by decide) ?_
        refine lv_iadd hx hb dL_law_822 ?_
        refine lv_topi (fun y262 ey262 => ?_)
        obtain rfl : y262 = 1 := ey262.trans (by decide)
        refine va_sld hx hb hX hbl hbA hS (vp_in_iff.mpr (by decide)) dL_law_823 ?_
        refine lv_topi (fun y263 ey263 => ?_)
        obtain rfl : x1 = y263 := hx1.trans ey263.symm
        refine lv_aload_n hx hb dL_law_824 rfl (lv_at hl 4 rfl) ?_
        refine lv_iload hx hb dL_law_825 (lv_at hl 0 rfl) ?_
        refine lv_iconst (v := 2) hx hb dL_law_827 (by decide) ?_
        refine lv_iadd hx hb dL_law_828 ?_
        refine lv_topi (fun y264 ey264 => ?_)
        obtain rfl : y264 = 2 := ey264.trans (by decide)
        refine va_sld hx hb hX hbl hbA hS (vp_in_iff.mpr (by decide)) dL_law_829 ?_
        refine lv_topi (fun y265 ey265 => ?_)
        obtain rfl : x2 = y265 := hx2.trans ey265.symm
        refine lv_aload_n hx hb dL_law_830 rfl (lv_at hl 4 rfl) ?_
        refine lv_iload hx hb dL_law_831 (lv_at hl 0 rfl) ?_
        refine lv_iconst (v := 3) hx hb dL_law_833 (by decide) ?_
        refine lv_iadd hx hb dL_law_834 ?_
        refine lv_topi (fun y266 ey266 => ?_)
        obtain rfl : y266 = 3 := ey266.trans (by decide)
        refine va_sld hx hb hX hbl hbA hS (vp_in_iff.mpr (by decide)) dL_law_835 ?_
        refine lv_topi (fun y267 ey267 => ?_)
        obtain rfl : x3 = y267 := hx3.trans ey267.symm
        refine cvI (wr := MW z cy 0) (As := [.int x1, .int x2, .int x3]) (rest := []) ⟨hx, hb, hml, hown, hts0⟩ (mX9_worker_no l D q cy g _ x1 x2 x3 hw9) (cwV 3 hts0 gL_law_X9_worker rfl rfl rfl (by decide +kernel) ⟨Nat.le_of_ble_eq_true rfl, Nat.le_of_ble_eq_true rfl⟩) hK hP hD hS hA [0, 1, 2, 3, 4, 5, 6, 7, 8, 9, 10, 11, 12, 13, 14, 15, 16, 17, 18, 19, 20, 21] [22, 23, 24, 25, 26, 27, 28, 29, 30, 31, 32, 33, 34, 35, 36, 37, 38] rfl rfl (by decide) (by decide) (by decide) 0 9 rfl rfl rfl hl.1 rfl (Nat.le_of_ble_eq_true rfl) dL_law_836 ⟨(Nat.le_of_ble_eq_true rfl), (Nat.le_of_ble_eq_true rfl)⟩ (fun r268 H locs hr268 hP hD hS => ?_)
        obtain rfl : r268 = (-1) := hr268
        have hP := hP.sub (ws' := MW z cy 0) [0, 1, 2, 3, 4, 5, 6, 7, 8, 9, 10, 11, 12, 13, 14, 15, 16] rfl
        have hD := hD.sub (ws' := MW z cy 0) [0, 1, 2, 3, 4, 5, 6, 7, 8, 9, 10, 11, 12, 13, 14, 15, 16] (by decide) rfl
        refine lv_aload_n hx hb dL_law_839 rfl (lv_at hl 2 rfl) ?_
        refine lv_aload_n hx hb dL_law_840 rfl (lv_at hl 4 rfl) ?_
        refine lv_iload hx hb dL_law_841 (lv_at hl 0 rfl) ?_
        refine lv_iconst (v := 1) hx hb dL_law_843 (by decide) ?_
        refine lv_iadd hx hb dL_law_844 ?_
        refine lv_topi (fun y269 ey269 => ?_)
        obtain rfl : y269 = 1 := ey269.trans (by decide)
        refine va_sld hx hb hX hbl hbA hS (vp_in_iff.mpr (by decide)) dL_law_845 ?_
        refine lv_topi (fun y270 ey270 => ?_)
        obtain rfl : x1 = y270 := hx1.trans ey270.symm
        refine lv_aload_n hx hb dL_law_846 rfl (lv_at hl 4 rfl) ?_
        refine lv_iload hx hb dL_law_847 (lv_at hl 0 rfl) ?_
        refine lv_iconst (v := 2) hx hb dL_law_849 (by decide) ?_
        refine lv_iadd hx hb dL_law_850 ?_
        refine lv_topi (fun y271 ey271 => ?_)
        obtain rfl : y271 = 2 := ey271.trans (by decide)
        refine va_sld hx hb hX hbl hbA hS (vp_in_iff.mpr (by decide)) dL_law_851 ?_
        refine lv_topi (fun y272 ey272 => ?_)
        obtain rfl : x2 = y272 := hx2.trans ey272.symm
        refine lv_aload_n hx hb dL_law_852 rfl (lv_at hl 4 rfl) ?_
        refine lv_iload hx hb dL_law_853 (lv_at hl 0 rfl) ?_
        refine lv_iconst (v := 3) hx hb dL_law_855 (by decide) ?_
        refine lv_iadd hx hb dL_law_856 ?_
        refine lv_topi (fun y273 ey273 => ?_)
        obtain rfl : y273 = 3 := ey273.trans (by decide)
        refine va_sld hx hb hX hbl hbA hS (vp_in_iff.mpr (by decide)) dL_law_857 ?_
        refine lv_topi (fun y274 ey274 => ?_)
        obtain rfl : x3 = y274 := hx3.trans ey274.symm
        refine cvI (wr := []) (As := [.int x1, .int x2, .int x3]) (rest := [.int (-1)]) ⟨hx, hb, hml, hown, hts0⟩ (mX10_worker_no l D z cy _ x1 x2 x3 hw9) (cwV 3 hts0 gL_law_X10_worker rfl rfl rfl (by decide +kernel) ⟨Nat.le_of_ble_eq_true rfl, Nat.le_of_ble_eq_true rfl⟩) hK hP hD hS hA [0, 1, 2, 3, 4, 5, 6, 7, 8, 9, 10, 11, 12, 13, 14, 15, 16] [] rfl rfl (by decide) (by decide) (by decide) 0 10 rfl rfl rfl hl.1 rfl (Nat.le_of_ble_eq_true rfl) dL_law_858 ⟨(Nat.le_of_ble_eq_true rfl), (Nat.le_of_ble_eq_true rfl)⟩ (fun r275 H locs hr275 hP hD hS => ?_)
        obtain rfl : r275 = (-1) := hr275
        have hP : va_P D vwCl (MW z cy 0) H := hP
        have hD : va_D _ (MW z cy 0) := hD
        refine lv_icmp_eq (tgt := 996) hx hb dL_law_861 (by decide) (fun _ => ?_) (fun c9 => absurd (by decide) c9)
        refine lv_iinc (v := 5) (lv' := [(4, .int 5), (3, .ref ao), (2, .ref (z 58)), (1, .ref (q 0)), (0, .ref b)]) hx hb dL_law_996 hl (k := 0) rfl (by decide) (by decide) rfl (fun ls hl => ?_)
        refine lv_goto (tgt := 23) hx hb dL_law_999 (by decide) ?_
        refine lv_iload hx hb dL_law_23 (lv_at hl 0 rfl) ?_
        refine lv_aload_n hx hb dL_law_25 rfl (lv_at hl 4 rfl) ?_
        refine va_slen hx hb hX hbl hbA hS dL_law_26 ?_
        refine lv_topi (fun y276 ey276 => ?_)
        obtain rfl : y276 = 5 := ey276.trans (by decide)
        refine lv_iconst (v := 5) hx hb dL_law_27 (by decide) ?_
        refine lv_isub hx hb dL_law_28 ?_
        refine lv_topi (fun y277 ey277 => ?_)
        obtain rfl : y277 = 0 := ey277.trans (by decide)
        refine lv_icmp_gt (tgt := 1002) hx hb dL_law_29 (by decide) (fun _ => ?_) (fun c9 => absurd (by decide) c9)
        refine lv_iconst (v := 1) hx hb dL_law_1002 (by decide) ?_
        refine va_forget (fun q9 h9 => hS.2.2 q9 h9) ?_
        refine W.widen (k := 600002) (n := 7302232) (Nat.le_of_ble_eq_true rfl) (Nat.le_of_ble_eq_true rfl) ?_
        exact lw_ret hx hb hr hlocks dL_law_1003
      · skip
        rcases person_cases hw9 with ⟨rfl, rfl | rfl⟩ | ⟨rfl, rfl⟩
        · skip
          refine lv_aload_n hx hb dL_law_817 rfl (lv_at hl 3 rfl) ?_
          refine lv_aload_n hx hb dL_law_818 rfl (lv_at hl 4 rfl) ?_
          refine lv_iload hx hb dL_law_819 (lv_at hl 0 rfl) ?_
          refine lv_iconst (v := 1) hx hb dL_law_821 (by decide) ?_
          refine lv_iadd hx hb dL_law_822 ?_
          refine lv_topi (fun y278 ey278 => ?_)
          obtain rfl : y278 = 1 := ey278.trans (by decide)
          refine va_sld hx hb hX hbl hbA hS (vp_in_iff.mpr (by decide)) dL_law_823 ?_
          refine lv_topi (fun y279 ey279 => ?_)
          obtain rfl : y279 = 1 := ey279.trans hx1.symm
          refine lv_aload_n hx hb dL_law_824 rfl (lv_at hl 4 rfl) ?_
          refine lv_iload hx hb dL_law_825 (lv_at hl 0 rfl) ?_
          refine lv_iconst (v := 2) hx hb dL_law_827 (by decide) ?_
          refine lv_iadd hx hb dL_law_828 ?_
          refine lv_topi (fun y280 ey280 => ?_)
          obtain rfl : y280 = 2 := ey280.trans (by decide)
          refine va_sld hx hb hX hbl hbA hS (vp_in_iff.mpr (by decide)) dL_law_829 ?_
          refine lv_topi (fun y281 ey281 => ?_)
          obtain rfl : y281 = 0 := ey281.trans hx2.symm
          refine lv_aload_n hx hb dL_law_830 rfl (lv_at hl 4 rfl) ?_
          refine lv_iload hx hb dL_law_831 (lv_at hl 0 rfl) ?_
          refine lv_iconst (v := 3) hx hb dL_law_833 (by decide) ?_
          refine lv_iadd hx hb dL_law_834 ?_
          refine lv_topi (fun y282 ey282 => ?_)
          obtain rfl : y282 = 3 := ey282.trans (by decide)
          refine va_sld hx hb hX hbl hbA hS (vp_in_iff.mpr (by decide)) dL_law_835 ?_
          refine lv_topi (fun y283 ey283 => ?_)
          obtain rfl : x3 = y283 := hx3.trans ey283.symm
          refine cvI (wr := MW z cy 0) (As := [.int 1, .int 0, .int x3]) (rest := []) ⟨hx, hb, hml, hown, hts0⟩ (mX9_worker_10 l D q cy g _ x3 ) (cwV 3 hts0 gL_law_X9_worker rfl rfl rfl (by decide +kernel) ⟨Nat.le_of_ble_eq_true rfl, Nat.le_of_ble_eq_true rfl⟩) hK hP hD hS hA [0, 1, 2, 3, 4, 5, 6, 7, 8, 9, 10, 11, 12, 13, 14, 15, 16, 17, 18, 19, 20, 21] [22, 23, 24, 25, 26, 27, 28, 29, 30, 31, 32, 33, 34, 35, 36, 37, 38] rfl rfl (by decide) (by decide) (by decide) 0 9 rfl rfl rfl hl.1 rfl (Nat.le_of_ble_eq_true rfl) dL_law_836 ⟨(Nat.le_of_ble_eq_true rfl), (Nat.le_of_ble_eq_true rfl)⟩ (fun r284 H locs hr284 hP hD hS => ?_)
          obtain rfl : r284 = sp_worker x3 := hr284
          have hP := hP.sub (ws' := MW z cy 0) [0, 1, 2, 3, 4, 5, 6, 7, 8, 9, 10, 11, 12, 13, 14, 15, 16] rfl
          have hD := hD.sub (ws' := MW z cy 0) [0, 1, 2, 3, 4, 5, 6, 7, 8, 9, 10, 11, 12, 13, 14, 15, 16] (by decide) rfl
          refine lv_aload_n hx hb dL_law_839 rfl (lv_at hl 2 rfl) ?_
          refine lv_aload_n hx hb dL_law_840 rfl (lv_at hl 4 rfl) ?_
          refine lv_iload hx hb dL_law_841 (lv_at hl 0 rfl) ?_
          refine lv_iconst (v := 1) hx hb dL_law_843 (by decide) ?_
          refine lv_iadd hx hb dL_law_844 ?_
          refine lv_topi (fun y285 ey285 => ?_)
          obtain rfl : y285 = 1 := ey285.trans (by decide)
          refine va_sld hx hb hX hbl hbA hS (vp_in_iff.mpr (by decide)) dL_law_845 ?_
          refine lv_topi (fun y286 ey286 => ?_)
          obtain rfl : y286 = 1 := ey286.trans hx1.symm
          refine lv_aload_n hx hb dL_law_846 rfl (lv_at hl 4 rfl) ?_
          refine lv_iload hx hb dL_law_847 (lv_at hl 0 rfl) ?_
          refine lv_iconst (v := 2) hx hb dL_law_849 (by decide) ?_
          refine lv_iadd hx hb dL_law_850 ?_
          refine lv_topi (fun y287 ey287 => ?_)
          obtain rfl : y287 = 2 := ey287.trans (by decide)
          refine va_sld hx hb hX hbl hbA hS (vp_in_iff.mpr (by decide)) dL_law_851 ?_
          refine lv_topi (fun y288 ey288 => ?_)
          obtain rfl : y288 = 0 := ey288.trans hx2.symm
          refine lv_aload_n hx hb dL_law_852 rfl (lv_at hl 4 rfl) ?_
          refine lv_iload hx hb dL_law_853 (lv_at hl 0 rfl) ?_
          refine lv_iconst (v := 3) hx hb dL_law_855 (by decide) ?_
          refine lv_iadd hx hb dL_law_856 ?_
          refine lv_topi (fun y289 ey289 => ?_)
          obtain rfl : y289 = 3 := ey289.trans (by decide)
          refine va_sld hx hb hX hbl hbA hS (vp_in_iff.mpr (by decide)) dL_law_857 ?_
          refine lv_topi (fun y290 ey290 => ?_)
          obtain rfl : x3 = y290 := hx3.trans ey290.symm
          refine cvI (wr := []) (As := [.int 1, .int 0, .int x3]) (rest := [.int (sp_worker x3)]) ⟨hx, hb, hml, hown, hts0⟩ (mX10_worker_10 l D z cy _ x3 ) (cwV 3 hts0 gL_law_X10_worker rfl rfl rfl (by decide +kernel) ⟨Nat.le_of_ble_eq_true rfl, Nat.le_of_ble_eq_true rfl⟩) hK hP hD hS hA [0, 1, 2, 3, 4, 5, 6, 7, 8, 9, 10, 11, 12, 13, 14, 15, 16] [] rfl rfl (by decide) (by decide) (by decide) 0 10 rfl rfl rfl hl.1 rfl (Nat.le_of_ble_eq_true rfl) dL_law_858 ⟨(Nat.le_of_ble_eq_true rfl), (Nat.le_of_ble_eq_true rfl)⟩ (fun r291 H locs hr291 hP hD hS => ?_)
          obtain rfl : r291 = sp_worker x3 := hr291
          have hP : va_P D vwCl (MW z cy 0) H := hP
          have hD : va_D _ (MW z cy 0) := hD
          refine lv_icmp_eq (tgt := 996) hx hb dL_law_861 (by decide) (fun _ => ?_) (fun c9 => absurd (rfl) c9)
          refine lv_iinc (v := 5) (lv' := [(4, .int 5), (3, .ref ao), (2, .ref (z 58)), (1, .ref (q 0)), (0, .ref b)]) hx hb dL_law_996 hl (k := 0) rfl (by decide) (by decide) rfl (fun ls hl => ?_)
          refine lv_goto (tgt := 23) hx hb dL_law_999 (by decide) ?_
          refine lv_iload hx hb dL_law_23 (lv_at hl 0 rfl) ?_
          refine lv_aload_n hx hb dL_law_25 rfl (lv_at hl 4 rfl) ?_
          refine va_slen hx hb hX hbl hbA hS dL_law_26 ?_
          refine lv_topi (fun y292 ey292 => ?_)
          obtain rfl : y292 = 5 := ey292.trans (by decide)
          refine lv_iconst (v := 5) hx hb dL_law_27 (by decide) ?_
          refine lv_isub hx hb dL_law_28 ?_
          refine lv_topi (fun y293 ey293 => ?_)
          obtain rfl : y293 = 0 := ey293.trans (by decide)
          refine lv_icmp_gt (tgt := 1002) hx hb dL_law_29 (by decide) (fun _ => ?_) (fun c9 => absurd (by decide) c9)
          refine lv_iconst (v := 1) hx hb dL_law_1002 (by decide) ?_
          refine va_forget (fun q9 h9 => hS.2.2 q9 h9) ?_
          refine W.widen (k := 600002) (n := 7302232) (Nat.le_of_ble_eq_true rfl) (Nat.le_of_ble_eq_true rfl) ?_
          exact lw_ret hx hb hr hlocks dL_law_1003
        · skip
          refine lv_aload_n hx hb dL_law_817 rfl (lv_at hl 3 rfl) ?_
          refine lv_aload_n hx hb dL_law_818 rfl (lv_at hl 4 rfl) ?_
          refine lv_iload hx hb dL_law_819 (lv_at hl 0 rfl) ?_
          refine lv_iconst (v := 1) hx hb dL_law_821 (by decide) ?_
          refine lv_iadd hx hb dL_law_822 ?_
          refine lv_topi (fun y294 ey294 => ?_)
          obtain rfl : y294 = 1 := ey294.trans (by decide)
          refine va_sld hx hb hX hbl hbA hS (vp_in_iff.mpr (by decide)) dL_law_823 ?_
          refine lv_topi (fun y295 ey295 => ?_)
          obtain rfl : y295 = 1 := ey295.trans hx1.symm
          refine lv_aload_n hx hb dL_law_824 rfl (lv_at hl 4 rfl) ?_
          refine lv_iload hx hb dL_law_825 (lv_at hl 0 rfl) ?_
          refine lv_iconst (v := 2) hx hb dL_law_827 (by decide) ?_
          refine lv_iadd hx hb dL_law_828 ?_
          refine lv_topi (fun y296 ey296 => ?_)
          obtain rfl : y296 = 2 := ey296.trans (by decide)
          refine va_sld hx hb hX hbl hbA hS (vp_in_iff.mpr (by decide)) dL_law_829 ?_
          refine lv_topi (fun y297 ey297 => ?_)
          obtain rfl : y297 = 1 := ey297.trans hx2.symm
          refine lv_aload_n hx hb dL_law_830 rfl (lv_at hl 4 rfl) ?_
          refine lv_iload hx hb dL_law_831 (lv_at hl 0 rfl) ?_
          refine lv_iconst (v := 3) hx hb dL_law_833 (by decide) ?_
          refine lv_iadd hx hb dL_law_834 ?_
          refine lv_topi (fun y298 ey298 => ?_)
          obtain rfl : y298 = 3 := ey298.trans (by decide)
          refine va_sld hx hb hX hbl hbA hS (vp_in_iff.mpr (by decide)) dL_law_835 ?_
          refine lv_topi (fun y299 ey299 => ?_)
          obtain rfl : x3 = y299 := hx3.trans ey299.symm
          refine cvI (wr := MW z cy 0) (As := [.int 1, .int 1, .int x3]) (rest := []) ⟨hx, hb, hml, hown, hts0⟩ (mX9_worker_11 l D q cy g _ x3 ) (cwV 3 hts0 gL_law_X9_worker rfl rfl rfl (by decide +kernel) ⟨Nat.le_of_ble_eq_true rfl, Nat.le_of_ble_eq_true rfl⟩) hK hP hD hS hA [0, 1, 2, 3, 4, 5, 6, 7, 8, 9, 10, 11, 12, 13, 14, 15, 16, 17, 18, 19, 20, 21] [22, 23, 24, 25, 26, 27, 28, 29, 30, 31, 32, 33, 34, 35, 36, 37, 38] rfl rfl (by decide) (by decide) (by decide) 0 9 rfl rfl rfl hl.1 rfl (Nat.le_of_ble_eq_true rfl) dL_law_836 ⟨(Nat.le_of_ble_eq_true rfl), (Nat.le_of_ble_eq_true rfl)⟩ (fun r300 H locs hr300 hP hD hS => ?_)
          obtain rfl : r300 = sp_worker x3 := hr300
          have hP := hP.sub (ws' := MW z cy 0) [0, 1, 2, 3, 4, 5, 6, 7, 8, 9, 10, 11, 12, 13, 14, 15, 16] rfl
          have hD := hD.sub (ws' := MW z cy 0) [0, 1, 2, 3, 4, 5, 6, 7, 8, 9, 10, 11, 12, 13, 14, 15, 16] (by decide) rfl
          refine lv_aload_n hx hb dL_law_839 rfl (lv_at hl 2 rfl) ?_
          refine lv_aload_n hx hb dL_law_840 rfl (lv_at hl 4 rfl) ?_
          refine lv_iload hx hb dL_law_841 (lv_at hl 0 rfl) ?_
          refine lv_iconst (v := 1) hx hb dL_law_843 (by decide) ?_
          refine lv_iadd hx hb dL_law_844 ?_
          refine lv_topi (fun y301 ey301 => ?_)
          obtain rfl : y301 = 1 := ey301.trans (by decide)
          refine va_sld hx hb hX hbl hbA hS (vp_in_iff.mpr (by decide)) dL_law_845 ?_
          refine lv_topi (fun y302 ey302 => ?_)
          obtain rfl : y302 = 1 := ey302.trans hx1.symm
          refine lv_aload_n hx hb dL_law_846 rfl (lv_at hl 4 rfl) ?_
          refine lv_iload hx hb dL_law_847 (lv_at hl 0 rfl) ?_
          refine lv_iconst (v := 2) hx hb dL_law_849 (by decide) ?_
          refine lv_iadd hx hb dL_law_850 ?_
          refine lv_topi (fun y303 ey303 => ?_)
          obtain rfl : y303 = 2 := ey303.trans (by decide)
          refine va_sld hx hb hX hbl hbA hS (vp_in_iff.mpr (by decide)) dL_law_851 ?_
          refine lv_topi (fun y304 ey304 => ?_)
          obtain rfl : y304 = 1 := ey304.trans hx2.symm
          refine lv_aload_n hx hb dL_law_852 rfl (lv_at hl 4 rfl) ?_
          refine lv_iload hx hb dL_law_853 (lv_at hl 0 rfl) ?_
          refine lv_iconst (v := 3) hx hb dL_law_855 (by decide) ?_
          refine lv_iadd hx hb dL_law_856 ?_
          refine lv_topi (fun y305 ey305 => ?_)
          obtain rfl : y305 = 3 := ey305.trans (by decide)
          refine va_sld hx hb hX hbl hbA hS (vp_in_iff.mpr (by decide)) dL_law_857 ?_
          refine lv_topi (fun y306 ey306 => ?_)
          obtain rfl : x3 = y306 := hx3.trans ey306.symm
          refine cvI (wr := []) (As := [.int 1, .int 1, .int x3]) (rest := [.int (sp_worker x3)]) ⟨hx, hb, hml, hown, hts0⟩ (mX10_worker_11 l D z cy _ x3 ) (cwV 3 hts0 gL_law_X10_worker rfl rfl rfl (by decide +kernel) ⟨Nat.le_of_ble_eq_true rfl, Nat.le_of_ble_eq_true rfl⟩) hK hP hD hS hA [0, 1, 2, 3, 4, 5, 6, 7, 8, 9, 10, 11, 12, 13, 14, 15, 16] [] rfl rfl (by decide) (by decide) (by decide) 0 10 rfl rfl rfl hl.1 rfl (Nat.le_of_ble_eq_true rfl) dL_law_858 ⟨(Nat.le_of_ble_eq_true rfl), (Nat.le_of_ble_eq_true rfl)⟩ (fun r307 H locs hr307 hP hD hS => ?_)
          obtain rfl : r307 = sp_worker x3 := hr307
          have hP : va_P D vwCl (MW z cy 0) H := hP
          have hD : va_D _ (MW z cy 0) := hD
          refine lv_icmp_eq (tgt := 996) hx hb dL_law_861 (by decide) (fun _ => ?_) (fun c9 => absurd (rfl) c9)
          refine lv_iinc (v := 5) (lv' := [(4, .int 5), (3, .ref ao), (2, .ref (z 58)), (1, .ref (q 0)), (0, .ref b)]) hx hb dL_law_996 hl (k := 0) rfl (by decide) (by decide) rfl (fun ls hl => ?_)
          refine lv_goto (tgt := 23) hx hb dL_law_999 (by decide) ?_
          refine lv_iload hx hb dL_law_23 (lv_at hl 0 rfl) ?_
          refine lv_aload_n hx hb dL_law_25 rfl (lv_at hl 4 rfl) ?_
          refine va_slen hx hb hX hbl hbA hS dL_law_26 ?_
          refine lv_topi (fun y308 ey308 => ?_)
          obtain rfl : y308 = 5 := ey308.trans (by decide)
          refine lv_iconst (v := 5) hx hb dL_law_27 (by decide) ?_
          refine lv_isub hx hb dL_law_28 ?_
          refine lv_topi (fun y309 ey309 => ?_)
          obtain rfl : y309 = 0 := ey309.trans (by decide)
          refine lv_icmp_gt (tgt := 1002) hx hb dL_law_29 (by decide) (fun _ => ?_) (fun c9 => absurd (by decide) c9)
          refine lv_iconst (v := 1) hx hb dL_law_1002 (by decide) ?_
          refine va_forget (fun q9 h9 => hS.2.2 q9 h9) ?_
          refine W.widen (k := 600002) (n := 7302232) (Nat.le_of_ble_eq_true rfl) (Nat.le_of_ble_eq_true rfl) ?_
          exact lw_ret hx hb hr hlocks dL_law_1003
        · skip
          refine lv_aload_n hx hb dL_law_817 rfl (lv_at hl 3 rfl) ?_
          refine lv_aload_n hx hb dL_law_818 rfl (lv_at hl 4 rfl) ?_
          refine lv_iload hx hb dL_law_819 (lv_at hl 0 rfl) ?_
          refine lv_iconst (v := 1) hx hb dL_law_821 (by decide) ?_
          refine lv_iadd hx hb dL_law_822 ?_
          refine lv_topi (fun y310 ey310 => ?_)
          obtain rfl : y310 = 1 := ey310.trans (by decide)
          refine va_sld hx hb hX hbl hbA hS (vp_in_iff.mpr (by decide)) dL_law_823 ?_
          refine lv_topi (fun y311 ey311 => ?_)
          obtain rfl : y311 = 2 := ey311.trans hx1.symm
          refine lv_aload_n hx hb dL_law_824 rfl (lv_at hl 4 rfl) ?_
          refine lv_iload hx hb dL_law_825 (lv_at hl 0 rfl) ?_
          refine lv_iconst (v := 2) hx hb dL_law_827 (by decide) ?_
          refine lv_iadd hx hb dL_law_828 ?_
          refine lv_topi (fun y312 ey312 => ?_)
          obtain rfl : y312 = 2 := ey312.trans (by decide)
          refine va_sld hx hb hX hbl hbA hS (vp_in_iff.mpr (by decide)) dL_law_829 ?_
          refine lv_topi (fun y313 ey313 => ?_)
          obtain rfl : y313 = 0 := ey313.trans hx2.symm
          refine lv_aload_n hx hb dL_law_830 rfl (lv_at hl 4 rfl) ?_
          refine lv_iload hx hb dL_law_831 (lv_at hl 0 rfl) ?_
          refine lv_iconst (v := 3) hx hb dL_law_833 (by decide) ?_
          refine lv_iadd hx hb dL_law_834 ?_
          refine lv_topi (fun y314 ey314 => ?_)
          obtain rfl : y314 = 3 := ey314.trans (by decide)
          refine va_sld hx hb hX hbl hbA hS (vp_in_iff.mpr (by decide)) dL_law_835 ?_
          refine lv_topi (fun y315 ey315 => ?_)
          obtain rfl : x3 = y315 := hx3.trans ey315.symm
          refine cvI (wr := MW z cy 0) (As := [.int 2, .int 0, .int x3]) (rest := []) ⟨hx, hb, hml, hown, hts0⟩ (mX9_worker_20 l D q cy g _ x3 ) (cwV 3 hts0 gL_law_X9_worker rfl rfl rfl (by decide +kernel) ⟨Nat.le_of_ble_eq_true rfl, Nat.le_of_ble_eq_true rfl⟩) hK hP hD hS hA [0, 1, 2, 3, 4, 5, 6, 7, 8, 9, 10, 11, 12, 13, 14, 15, 16, 17, 18, 19, 20, 21] [22, 23, 24, 25, 26, 27, 28, 29, 30, 31, 32, 33, 34, 35, 36, 37, 38] rfl rfl (by decide) (by decide) (by decide) 0 9 rfl rfl rfl hl.1 rfl (Nat.le_of_ble_eq_true rfl) dL_law_836 ⟨(Nat.le_of_ble_eq_true rfl), (Nat.le_of_ble_eq_true rfl)⟩ (fun r316 H locs hr316 hP hD hS => ?_)
          obtain rfl : r316 = sp_worker x3 := hr316
          have hP := hP.sub (ws' := MW z cy 0) [0, 1, 2, 3, 4, 5, 6, 7, 8, 9, 10, 11, 12, 13, 14, 15, 16] rfl
          have hD := hD.sub (ws' := MW z cy 0) [0, 1, 2, 3, 4, 5, 6, 7, 8, 9, 10, 11, 12, 13, 14, 15, 16] (by decide) rfl
          refine lv_aload_n hx hb dL_law_839 rfl (lv_at hl 2 rfl) ?_
          refine lv_aload_n hx hb dL_law_840 rfl (lv_at hl 4 rfl) ?_
          refine lv_iload hx hb dL_law_841 (lv_at hl 0 rfl) ?_
          refine lv_iconst (v := 1) hx hb dL_law_843 (by decide) ?_
          refine lv_iadd hx hb dL_law_844 ?_
          refine lv_topi (fun y317 ey317 => ?_)
          obtain rfl : y317 = 1 := ey317.trans (by decide)
          refine va_sld hx hb hX hbl hbA hS (vp_in_iff.mpr (by decide)) dL_law_845 ?_
          refine lv_topi (fun y318 ey318 => ?_)
          obtain rfl : y318 = 2 := ey318.trans hx1.symm
          refine lv_aload_n hx hb dL_law_846 rfl (lv_at hl 4 rfl) ?_
          refine lv_iload hx hb dL_law_847 (lv_at hl 0 rfl) ?_
          refine lv_iconst (v := 2) hx hb dL_law_849 (by decide) ?_
          refine lv_iadd hx hb dL_law_850 ?_
          refine lv_topi (fun y319 ey319 => ?_)
          obtain rfl : y319 = 2 := ey319.trans (by decide)
          refine va_sld hx hb hX hbl hbA hS (vp_in_iff.mpr (by decide)) dL_law_851 ?_
          refine lv_topi (fun y320 ey320 => ?_)
          obtain rfl : y320 = 0 := ey320.trans hx2.symm
          refine lv_aload_n hx hb dL_law_852 rfl (lv_at hl 4 rfl) ?_
          refine lv_iload hx hb dL_law_853 (lv_at hl 0 rfl) ?_
          refine lv_iconst (v := 3) hx hb dL_law_855 (by decide) ?_
          refine lv_iadd hx hb dL_law_856 ?_
          refine lv_topi (fun y321 ey321 => ?_)
          obtain rfl : y321 = 3 := ey321.trans (by decide)
          refine va_sld hx hb hX hbl hbA hS (vp_in_iff.mpr (by decide)) dL_law_857 ?_
          refine lv_topi (fun y322 ey322 => ?_)
          obtain rfl : x3 = y322 := hx3.trans ey322.symm
          refine cvI (wr := []) (As := [.int 2, .int 0, .int x3]) (rest := [.int (sp_worker x3)]) ⟨hx, hb, hml, hown, hts0⟩ (mX10_worker_20 l D z cy _ x3 ) (cwV 3 hts0 gL_law_X10_worker rfl rfl rfl (by decide +kernel) ⟨Nat.le_of_ble_eq_true rfl, Nat.le_of_ble_eq_true rfl⟩) hK hP hD hS hA [0, 1, 2, 3, 4, 5, 6, 7, 8, 9, 10, 11, 12, 13, 14, 15, 16] [] rfl rfl (by decide) (by decide) (by decide) 0 10 rfl rfl rfl hl.1 rfl (Nat.le_of_ble_eq_true rfl) dL_law_858 ⟨(Nat.le_of_ble_eq_true rfl), (Nat.le_of_ble_eq_true rfl)⟩ (fun r323 H locs hr323 hP hD hS => ?_)
          obtain rfl : r323 = sp_worker x3 := hr323
          have hP : va_P D vwCl (MW z cy 0) H := hP
          have hD : va_D _ (MW z cy 0) := hD
          refine lv_icmp_eq (tgt := 996) hx hb dL_law_861 (by decide) (fun _ => ?_) (fun c9 => absurd (rfl) c9)
          refine lv_iinc (v := 5) (lv' := [(4, .int 5), (3, .ref ao), (2, .ref (z 58)), (1, .ref (q 0)), (0, .ref b)]) hx hb dL_law_996 hl (k := 0) rfl (by decide) (by decide) rfl (fun ls hl => ?_)
          refine lv_goto (tgt := 23) hx hb dL_law_999 (by decide) ?_
          refine lv_iload hx hb dL_law_23 (lv_at hl 0 rfl) ?_
          refine lv_aload_n hx hb dL_law_25 rfl (lv_at hl 4 rfl) ?_
          refine va_slen hx hb hX hbl hbA hS dL_law_26 ?_
          refine lv_topi (fun y324 ey324 => ?_)
          obtain rfl : y324 = 5 := ey324.trans (by decide)
          refine lv_iconst (v := 5) hx hb dL_law_27 (by decide) ?_
          refine lv_isub hx hb dL_law_28 ?_
          refine lv_topi (fun y325 ey325 => ?_)
          obtain rfl : y325 = 0 := ey325.trans (by decide)
          refine lv_icmp_gt (tgt := 1002) hx hb dL_law_29 (by decide) (fun _ => ?_) (fun c9 => absurd (by decide) c9)
          refine lv_iconst (v := 1) hx hb dL_law_1002 (by decide) ?_
          refine va_forget (fun q9 h9 => hS.2.2 q9 h9) ?_
          refine W.widen (k := 600002) (n := 7302232) (Nat.le_of_ble_eq_true rfl) (Nat.le_of_ble_eq_true rfl) ?_
          exact lw_ret hx hb hr hlocks dL_law_1003
    by_cases j326 : wd = 18
    · skip
      subst j326
      refine lv_tableIn (tgt := 866) hx hb dL_law_39 (by decide) (by decide) rfl (by decide) ?_
      by_cases n0 : x1 = 0
      · skip
        subst n0
        refine lv_aload_n hx hb dL_law_866 rfl (lv_at hl 3 rfl) ?_
        refine lv_aload_n hx hb dL_law_867 rfl (lv_at hl 4 rfl) ?_
        refine lv_iload hx hb dL_law_868 (lv_at hl 0 rfl) ?_
        refine lv_iconst (v := 1) hx hb dL_law_870 (by decide) ?_
        refine lv_iadd hx hb dL_law_871 ?_
        refine lv_topi (fun y327 ey327 => ?_)
        obtain rfl : y327 = 1 := ey327.trans (by decide)
        refine va_sld hx hb hX hbl hbA hS (vp_in_iff.mpr (by decide)) dL_law_872 ?_
        refine lv_topi (fun y328 ey328 => ?_)
        obtain rfl : y328 = 0 := ey328.trans hx1.symm
        refine lv_aload_n hx hb dL_law_873 rfl (lv_at hl 4 rfl) ?_
        refine lv_iload hx hb dL_law_874 (lv_at hl 0 rfl) ?_
        refine lv_iconst (v := 2) hx hb dL_law_876 (by decide) ?_
        refine lv_iadd hx hb dL_law_877 ?_
        refine lv_topi (fun y329 ey329 => ?_)
        obtain rfl : y329 = 2 := ey329.trans (by decide)
        refine va_sld hx hb hX hbl hbA hS (vp_in_iff.mpr (by decide)) dL_law_878 ?_
        refine lv_topi (fun y330 ey330 => ?_)
        obtain rfl : x2 = y330 := hx2.trans ey330.symm
        refine cvI (wr := MW z cy 0) (As := [.int 0, .int x2]) (rest := []) ⟨hx, hb, hml, hown, hts0⟩ (mX9_queue_0 l D q cy g _ x2 ) (cwV 2 hts0 gL_law_X9_queue rfl rfl rfl (by decide +kernel) ⟨Nat.le_of_ble_eq_true rfl, Nat.le_of_ble_eq_true rfl⟩) hK hP hD hS hA [0, 1, 2, 3, 4, 5, 6, 7, 8, 9, 10, 11, 12, 13, 14, 15, 16, 17, 18, 19, 20, 21] [22, 23, 24, 25, 26, 27, 28, 29, 30, 31, 32, 33, 34, 35, 36, 37, 38] rfl rfl (by decide) (by decide) (by decide) 0 9 rfl rfl rfl hl.1 rfl (Nat.le_of_ble_eq_true rfl) dL_law_879 ⟨(Nat.le_of_ble_eq_true rfl), (Nat.le_of_ble_eq_true rfl)⟩ (fun r331 H locs hr331 hP hD hS => ?_)
        obtain rfl : r331 = sp_queue x2 := hr331
        have hP := hP.sub (ws' := MW z cy 0) [0, 1, 2, 3, 4, 5, 6, 7, 8, 9, 10, 11, 12, 13, 14, 15, 16] rfl
        have hD := hD.sub (ws' := MW z cy 0) [0, 1, 2, 3, 4, 5, 6, 7, 8, 9, 10, 11, 12, 13, 14, 15, 16] (by decide) rfl
        refine lv_aload_n hx hb dL_law_882 rfl (lv_at hl 2 rfl) ?_
        refine lv_aload_n hx hb dL_law_883 rfl (lv_at hl 4 rfl) ?_
        refine lv_iload hx hb dL_law_884 (lv_at hl 0 rfl) ?_
        refine lv_iconst (v := 1) hx hb dL_law_886 (by decide) ?_
        refine lv_iadd hx hb dL_law_887 ?_
        refine lv_topi (fun y332 ey332 => ?_)
        obtain rfl : y332 = 1 := ey332.trans (by decide)
        refine va_sld hx hb hX hbl hbA hS (vp_in_iff.mpr (by decide)) dL_law_888 ?_
        refine lv_topi (fun y333 ey333 => ?_)
        obtain rfl : y333 = 0 := ey333.trans hx1.symm
        refine lv_aload_n hx hb dL_law_889 rfl (lv_at hl 4 rfl) ?_
        refine lv_iload hx hb dL_law_890 (lv_at hl 0 rfl) ?_
        refine lv_iconst (v := 2) hx hb dL_law_892 (by decide) ?_
        refine lv_iadd hx hb dL_law_893 ?_
        refine lv_topi (fun y334 ey334 => ?_)
        obtain rfl : y334 = 2 := ey334.trans (by decide)
        refine va_sld hx hb hX hbl hbA hS (vp_in_iff.mpr (by decide)) dL_law_894 ?_
        refine lv_topi (fun y335 ey335 => ?_)
        obtain rfl : x2 = y335 := hx2.trans ey335.symm
        refine cvI (wr := []) (As := [.int 0, .int x2]) (rest := [.int (sp_queue x2)]) ⟨hx, hb, hml, hown, hts0⟩ (mX10_queue_0 l D z cy _ x2 ) (cwV 2 hts0 gL_law_X10_queue rfl rfl rfl (by decide +kernel) ⟨Nat.le_of_ble_eq_true rfl, Nat.le_of_ble_eq_true rfl⟩) hK hP hD hS hA [0, 1, 2, 3, 4, 5, 6, 7, 8, 9, 10, 11, 12, 13, 14, 15, 16] [] rfl rfl (by decide) (by decide) (by decide) 0 10 rfl rfl rfl hl.1 rfl (Nat.le_of_ble_eq_true rfl) dL_law_895 ⟨(Nat.le_of_ble_eq_true rfl), (Nat.le_of_ble_eq_true rfl)⟩ (fun r336 H locs hr336 hP hD hS => ?_)
        obtain rfl : r336 = sp_queue x2 := hr336
        have hP : va_P D vwCl (MW z cy 0) H := hP
        have hD : va_D _ (MW z cy 0) := hD
        refine lv_icmp_eq (tgt := 996) hx hb dL_law_898 (by decide) (fun _ => ?_) (fun c9 => absurd (rfl) c9)
        refine lv_iinc (v := 5) (lv' := [(4, .int 5), (3, .ref ao), (2, .ref (z 58)), (1, .ref (q 0)), (0, .ref b)]) hx hb dL_law_996 hl (k := 0) rfl (by decide) (by decide) rfl (fun ls hl => ?_)
        refine lv_goto (tgt := 23) hx hb dL_law_999 (by decide) ?_
        refine lv_iload hx hb dL_law_23 (lv_at hl 0 rfl) ?_
        refine lv_aload_n hx hb dL_law_25 rfl (lv_at hl 4 rfl) ?_
        refine va_slen hx hb hX hbl hbA hS dL_law_26 ?_
        refine lv_topi (fun y337 ey337 => ?_)
        obtain rfl : y337 = 5 := ey337.trans (by decide)
        refine lv_iconst (v := 5) hx hb dL_law_27 (by decide) ?_
        refine lv_isub hx hb dL_law_28 ?_
        refine lv_topi (fun y338 ey338 => ?_)
        obtain rfl : y338 = 0 := ey338.trans (by decide)
        refine lv_icmp_gt (tgt := 1002) hx hb dL_law_29 (by decide) (fun _ => ?_) (fun c9 => absurd (by decide) c9)
        refine lv_iconst (v := 1) hx hb dL_law_1002 (by decide) ?_
        refine va_forget (fun q9 h9 => hS.2.2 q9 h9) ?_
        refine W.widen (k := 600002) (n := 7302232) (Nat.le_of_ble_eq_true rfl) (Nat.le_of_ble_eq_true rfl) ?_
        exact lw_ret hx hb hr hlocks dL_law_1003
      by_cases n1 : x1 = 1
      · skip
        subst n1
        refine lv_aload_n hx hb dL_law_866 rfl (lv_at hl 3 rfl) ?_
        refine lv_aload_n hx hb dL_law_867 rfl (lv_at hl 4 rfl) ?_
        refine lv_iload hx hb dL_law_868 (lv_at hl 0 rfl) ?_
        refine lv_iconst (v := 1) hx hb dL_law_870 (by decide) ?_
        refine lv_iadd hx hb dL_law_871 ?_
        refine lv_topi (fun y339 ey339 => ?_)
        obtain rfl : y339 = 1 := ey339.trans (by decide)
        refine va_sld hx hb hX hbl hbA hS (vp_in_iff.mpr (by decide)) dL_law_872 ?_
        refine lv_topi (fun y340 ey340 => ?_)
        obtain rfl : y340 = 1 := ey340.trans hx1.symm
        refine lv_aload_n hx hb dL_law_873 rfl (lv_at hl 4 rfl) ?_
        refine lv_iload hx hb dL_law_874 (lv_at hl 0 rfl) ?_
        refine lv_iconst (v := 2) hx hb dL_law_876 (by decide) ?_
        refine lv_iadd hx hb dL_law_877 ?_
        refine lv_topi (fun y341 ey341 => ?_)
        obtain rfl : y341 = 2 := ey341.trans (by decide)
        refine va_sld hx hb hX hbl hbA hS (vp_in_iff.mpr (by decide)) dL_law_878 ?_
        refine lv_topi (fun y342 ey342 => ?_)
        obtain rfl : x2 = y342 := hx2.trans ey342.symm
        refine cvI (wr := MW z cy 0) (As := [.int 1, .int x2]) (rest := []) ⟨hx, hb, hml, hown, hts0⟩ (mX9_queue_1 l D q cy g _ x2 ) (cwV 2 hts0 gL_law_X9_queue rfl rfl rfl (by decide +kernel) ⟨Nat.le_of_ble_eq_true rfl, Nat.le_of_ble_eq_true rfl⟩) hK hP hD hS hA [0, 1, 2, 3, 4, 5, 6, 7, 8, 9, 10, 11, 12, 13, 14, 15, 16, 17, 18, 19, 20, 21] [22, 23, 24, 25, 26, 27, 28, 29, 30, 31, 32, 33, 34, 35, 36, 37, 38] rfl rfl (by decide) (by decide) (by decide) 0 9 rfl rfl rfl hl.1 rfl (Nat.le_of_ble_eq_true rfl) dL_law_879 ⟨(Nat.le_of_ble_eq_true rfl), (Nat.le_of_ble_eq_true rfl)⟩ (fun r343 H locs hr343 hP hD hS => ?_)
        obtain rfl : r343 = sp_queue x2 := hr343
        have hP := hP.sub (ws' := MW z cy 0) [0, 1, 2, 3, 4, 5, 6, 7, 8, 9, 10, 11, 12, 13, 14, 15, 16] rfl
        have hD := hD.sub (ws' := MW z cy 0) [0, 1, 2, 3, 4, 5, 6, 7, 8, 9, 10, 11, 12, 13, 14, 15, 16] (by decide) rfl
        refine lv_aload_n hx hb dL_law_882 rfl (lv_at hl 2 rfl) ?_
        refine lv_aload_n hx hb dL_law_883 rfl (lv_at hl 4 rfl) ?_
        refine lv_iload hx hb dL_law_884 (lv_at hl 0 rfl) ?_
        refine lv_iconst (v := 1) hx hb dL_law_886 (by decide) ?_
        refine lv_iadd hx hb dL_law_887 ?_
        refine lv_topi (fun y344 ey344 => ?_)
        obtain rfl : y344 = 1 := ey344.trans (by decide)
        refine va_sld hx hb hX hbl hbA hS (vp_in_iff.mpr (by decide)) dL_law_888 ?_
        refine lv_topi (fun y345 ey345 => ?_)
        obtain rfl : y345 = 1 := ey345.trans hx1.symm
        refine lv_aload_n hx hb dL_law_889 rfl (lv_at hl 4 rfl) ?_
        refine lv_iload hx hb dL_law_890 (lv_at hl 0 rfl) ?_
        refine lv_iconst (v := 2) hx hb dL_law_892 (by decide) ?_
        refine lv_iadd hx hb dL_law_893 ?_
        refine lv_topi (fun y346 ey346 => ?_)
        obtain rfl : y346 = 2 := ey346.trans (by decide)
        refine va_sld hx hb hX hbl hbA hS (vp_in_iff.mpr (by decide)) dL_law_894 ?_
        refine lv_topi (fun y347 ey347 => ?_)
        obtain rfl : x2 = y347 := hx2.trans ey347.symm
        refine cvI (wr := []) (As := [.int 1, .int x2]) (rest := [.int (sp_queue x2)]) ⟨hx, hb, hml, hown, hts0⟩ (mX10_queue_1 l D z cy _ x2 ) (cwV 2 hts0 gL_law_X10_queue rfl rfl rfl (by decide +kernel) ⟨Nat.le_of_ble_eq_true rfl, Nat.le_of_ble_eq_true rfl⟩) hK hP hD hS hA [0, 1, 2, 3, 4, 5, 6, 7, 8, 9, 10, 11, 12, 13, 14, 15, 16] [] rfl rfl (by decide) (by decide) (by decide) 0 10 rfl rfl rfl hl.1 rfl (Nat.le_of_ble_eq_true rfl) dL_law_895 ⟨(Nat.le_of_ble_eq_true rfl), (Nat.le_of_ble_eq_true rfl)⟩ (fun r348 H locs hr348 hP hD hS => ?_)
        obtain rfl : r348 = sp_queue x2 := hr348
        have hP : va_P D vwCl (MW z cy 0) H := hP
        have hD : va_D _ (MW z cy 0) := hD
        refine lv_icmp_eq (tgt := 996) hx hb dL_law_898 (by decide) (fun _ => ?_) (fun c9 => absurd (rfl) c9)
        refine lv_iinc (v := 5) (lv' := [(4, .int 5), (3, .ref ao), (2, .ref (z 58)), (1, .ref (q 0)), (0, .ref b)]) hx hb dL_law_996 hl (k := 0) rfl (by decide) (by decide) rfl (fun ls hl => ?_)
        refine lv_goto (tgt := 23) hx hb dL_law_999 (by decide) ?_
        refine lv_iload hx hb dL_law_23 (lv_at hl 0 rfl) ?_
        refine lv_aload_n hx hb dL_law_25 rfl (lv_at hl 4 rfl) ?_
        refine va_slen hx hb hX hbl hbA hS dL_law_26 ?_
        refine lv_topi (fun y349 ey349 => ?_)
        obtain rfl : y349 = 5 := ey349.trans (by decide)
        refine lv_iconst (v := 5) hx hb dL_law_27 (by decide) ?_
        refine lv_isub hx hb dL_law_28 ?_
        refine lv_topi (fun y350 ey350 => ?_)
        obtain rfl : y350 = 0 := ey350.trans (by decide)
        refine lv_icmp_gt (tgt := 1002) hx hb dL_law_29 (by decide) (fun _ => ?_) (fun c9 => absurd (by decide) c9)
        refine lv_iconst (v := 1) hx hb dL_law_1002 (by decide) ?_
        refine va_forget (fun q9 h9 => hS.2.2 q9 h9) ?_
        refine W.widen (k := 600002) (n := 7302232) (Nat.le_of_ble_eq_true rfl) (Nat.le_of_ble_eq_true rfl) ?_
        exact lw_ret hx hb hr hlocks dL_law_1003
      by_cases n2 : x1 = 2
      · skip
        subst n2
        refine lv_aload_n hx hb dL_law_866 rfl (lv_at hl 3 rfl) ?_
        refine lv_aload_n hx hb dL_law_867 rfl (lv_at hl 4 rfl) ?_
        refine lv_iload hx hb dL_law_868 (lv_at hl 0 rfl) ?_
        refine lv_iconst (v := 1) hx hb dL_law_870 (by decide) ?_
        refine lv_iadd hx hb dL_law_871 ?_
        refine lv_topi (fun y351 ey351 => ?_)
        obtain rfl : y351 = 1 := ey351.trans (by decide)
        refine va_sld hx hb hX hbl hbA hS (vp_in_iff.mpr (by decide)) dL_law_872 ?_
        refine lv_topi (fun y352 ey352 => ?_)
        obtain rfl : y352 = 2 := ey352.trans hx1.symm
        refine lv_aload_n hx hb dL_law_873 rfl (lv_at hl 4 rfl) ?_
        refine lv_iload hx hb dL_law_874 (lv_at hl 0 rfl) ?_
        refine lv_iconst (v := 2) hx hb dL_law_876 (by decide) ?_
        refine lv_iadd hx hb dL_law_877 ?_
        refine lv_topi (fun y353 ey353 => ?_)
        obtain rfl : y353 = 2 := ey353.trans (by decide)
        refine va_sld hx hb hX hbl hbA hS (vp_in_iff.mpr (by decide)) dL_law_878 ?_
        refine lv_topi (fun y354 ey354 => ?_)
        obtain rfl : x2 = y354 := hx2.trans ey354.symm
        refine cvI (wr := MW z cy 0) (As := [.int 2, .int x2]) (rest := []) ⟨hx, hb, hml, hown, hts0⟩ (mX9_queue_2 l D q cy g _ x2 ) (cwV 2 hts0 gL_law_X9_queue rfl rfl rfl (by decide +kernel) ⟨Nat.le_of_ble_eq_true rfl, Nat.le_of_ble_eq_true rfl⟩) hK hP hD hS hA [0, 1, 2, 3, 4, 5, 6, 7, 8, 9, 10, 11, 12, 13, 14, 15, 16, 17, 18, 19, 20, 21] [22, 23, 24, 25, 26, 27, 28, 29, 30, 31, 32, 33, 34, 35, 36, 37, 38] rfl rfl (by decide) (by decide) (by decide) 0 9 rfl rfl rfl hl.1 rfl (Nat.le_of_ble_eq_true rfl) dL_law_879 ⟨(Nat.le_of_ble_eq_true rfl), (Nat.le_of_ble_eq_true rfl)⟩ (fun r355 H locs hr355 hP hD hS => ?_)
        obtain rfl : r355 = sp_queue x2 := hr355
        have hP := hP.sub (ws' := MW z cy 0) [0, 1, 2, 3, 4, 5, 6, 7, 8, 9, 10, 11, 12, 13, 14, 15, 16] rfl
        have hD := hD.sub (ws' := MW z cy 0) [0, 1, 2, 3, 4, 5, 6, 7, 8, 9, 10, 11, 12, 13, 14, 15, 16] (by decide) rfl
        refine lv_aload_n hx hb dL_law_882 rfl (lv_at hl 2 rfl) ?_
        refine lv_aload_n hx hb dL_law_883 rfl (lv_at hl 4 rfl) ?_
        refine lv_iload hx hb dL_law_884 (lv_at hl 0 rfl) ?_
        refine lv_iconst (v := 1) hx hb dL_law_886 (by decide) ?_
        refine lv_iadd hx hb dL_law_887 ?_
        refine lv_topi (fun y356 ey356 => ?_)
        obtain rfl : y356 = 1 := ey356.trans (by decide)
        refine va_sld hx hb hX hbl hbA hS (vp_in_iff.mpr (by decide)) dL_law_888 ?_
        refine lv_topi (fun y357 ey357 => ?_)
        obtain rfl : y357 = 2 := ey357.trans hx1.symm
        refine lv_aload_n hx hb dL_law_889 rfl (lv_at hl 4 rfl) ?_
        refine lv_iload hx hb dL_law_890 (lv_at hl 0 rfl) ?_
        refine lv_iconst (v := 2) hx hb dL_law_892 (by decide) ?_
        refine lv_iadd hx hb dL_law_893 ?_
        refine lv_topi (fun y358 ey358 => ?_)
        obtain rfl : y358 = 2 := ey358.trans (by decide)
        refine va_sld hx hb hX hbl hbA hS (vp_in_iff.mpr (by decide)) dL_law_894 ?_
        refine lv_topi (fun y359 ey359 => ?_)
        obtain rfl : x2 = y359 := hx2.trans ey359.symm
        refine cvI (wr := []) (As := [.int 2, .int x2]) (rest := [.int (sp_queue x2)]) ⟨hx, hb, hml, hown, hts0⟩ (mX10_queue_2 l D z cy _ x2 ) (cwV 2 hts0 gL_law_X10_queue rfl rfl rfl (by decide +kernel) ⟨Nat.le_of_ble_eq_true rfl, Nat.le_of_ble_eq_true rfl⟩) hK hP hD hS hA [0, 1, 2, 3, 4, 5, 6, 7, 8, 9, 10, 11, 12, 13, 14, 15, 16] [] rfl rfl (by decide) (by decide) (by decide) 0 10 rfl rfl rfl hl.1 rfl (Nat.le_of_ble_eq_true rfl) dL_law_895 ⟨(Nat.le_of_ble_eq_true rfl), (Nat.le_of_ble_eq_true rfl)⟩ (fun r360 H locs hr360 hP hD hS => ?_)
        obtain rfl : r360 = sp_queue x2 := hr360
        have hP : va_P D vwCl (MW z cy 0) H := hP
        have hD : va_D _ (MW z cy 0) := hD
        refine lv_icmp_eq (tgt := 996) hx hb dL_law_898 (by decide) (fun _ => ?_) (fun c9 => absurd (rfl) c9)
        refine lv_iinc (v := 5) (lv' := [(4, .int 5), (3, .ref ao), (2, .ref (z 58)), (1, .ref (q 0)), (0, .ref b)]) hx hb dL_law_996 hl (k := 0) rfl (by decide) (by decide) rfl (fun ls hl => ?_)
        refine lv_goto (tgt := 23) hx hb dL_law_999 (by decide) ?_
        refine lv_iload hx hb dL_law_23 (lv_at hl 0 rfl) ?_
        refine lv_aload_n hx hb dL_law_25 rfl (lv_at hl 4 rfl) ?_
        refine va_slen hx hb hX hbl hbA hS dL_law_26 ?_
        refine lv_topi (fun y361 ey361 => ?_)
        obtain rfl : y361 = 5 := ey361.trans (by decide)
        refine lv_iconst (v := 5) hx hb dL_law_27 (by decide) ?_
        refine lv_isub hx hb dL_law_28 ?_
        refine lv_topi (fun y362 ey362 => ?_)
        obtain rfl : y362 = 0 := ey362.trans (by decide)
        refine lv_icmp_gt (tgt := 1002) hx hb dL_law_29 (by decide) (fun _ => ?_) (fun c9 => absurd (by decide) c9)
        refine lv_iconst (v := 1) hx hb dL_law_1002 (by decide) ?_
        refine va_forget (fun q9 h9 => hS.2.2 q9 h9) ?_
        refine W.widen (k := 600002) (n := 7302232) (Nat.le_of_ble_eq_true rfl) (Nat.le_of_ble_eq_true rfl) ?_
        exact lw_ret hx hb hr hlocks dL_law_1003
      refine lv_aload_n hx hb dL_law_866 rfl (lv_at hl 3 rfl) ?_
      refine lv_aload_n hx hb dL_law_867 rfl (lv_at hl 4 rfl) ?_
      refine lv_iload hx hb dL_law_868 (lv_at hl 0 rfl) ?_
      refine lv_iconst (v := 1) hx hb dL_law_870 (by decide) ?_
      refine lv_iadd hx hb dL_law_871 ?_
      refine lv_topi (fun y363 ey363 => ?_)
      obtain rfl : y363 = 1 := ey363.trans (by decide)
      refine va_sld hx hb hX hbl hbA hS (vp_in_iff.mpr (by decide)) dL_law_872 ?_
      refine lv_topi (fun y364 ey364 => ?_)
      obtain rfl : x1 = y364 := hx1.trans ey364.symm
      refine lv_aload_n hx hb dL_law_873 rfl (lv_at hl 4 rfl) ?_
      refine lv_iload hx hb dL_law_874 (lv_at hl 0 rfl) ?_
      refine lv_iconst (v := 2) hx hb dL_law_876 (by decide) ?_
      refine lv_iadd hx hb dL_law_877 ?_
      refine lv_topi (fun y365 ey365 => ?_)
      obtain rfl : y365 = 2 := ey365.trans (by decide)
      refine va_sld hx hb hX hbl hbA hS (vp_in_iff.mpr (by decide)) dL_law_878 ?_
      refine lv_topi (fun y366 ey366 => ?_)
      obtain rfl : x2 = y366 := hx2.trans ey366.symm
      refine cvI (wr := MW z cy 0) (As := [.int x1, .int x2]) (rest := []) ⟨hx, hb, hml, hown, hts0⟩ (mX9_queue_no l D q cy g _ x1 x2 n0 n1 n2) (cwV 2 hts0 gL_law_X9_queue rfl rfl rfl (by decide +kernel) ⟨Nat.le_of_ble_eq_true rfl, Nat.le_of_ble_eq_true rfl⟩) hK hP hD hS hA [0, 1, 2, 3, 4, 5, 6, 7, 8, 9, 10, 11, 12, 13, 14, 15, 16, 17, 18, 19, 20, 21] [22, 23, 24, 25, 26, 27, 28, 29, 30, 31, 32, 33, 34, 35, 36, 37, 38] rfl rfl (by decide) (by decide) (by decide) 0 9 rfl rfl rfl hl.1 rfl (Nat.le_of_ble_eq_true rfl) dL_law_879 ⟨(Nat.le_of_ble_eq_true rfl), (Nat.le_of_ble_eq_true rfl)⟩ (fun r367 H locs hr367 hP hD hS => ?_)
      obtain rfl : r367 = (-1) := hr367
      have hP := hP.sub (ws' := MW z cy 0) [0, 1, 2, 3, 4, 5, 6, 7, 8, 9, 10, 11, 12, 13, 14, 15, 16] rfl
      have hD := hD.sub (ws' := MW z cy 0) [0, 1, 2, 3, 4, 5, 6, 7, 8, 9, 10, 11, 12, 13, 14, 15, 16] (by decide) rfl
      refine lv_aload_n hx hb dL_law_882 rfl (lv_at hl 2 rfl) ?_
      refine lv_aload_n hx hb dL_law_883 rfl (lv_at hl 4 rfl) ?_
      refine lv_iload hx hb dL_law_884 (lv_at hl 0 rfl) ?_
      refine lv_iconst (v := 1) hx hb dL_law_886 (by decide) ?_
      refine lv_iadd hx hb dL_law_887 ?_
      refine lv_topi (fun y368 ey368 => ?_)
      obtain rfl : y368 = 1 := ey368.trans (by decide)
      refine va_sld hx hb hX hbl hbA hS (vp_in_iff.mpr (by decide)) dL_law_888 ?_
      refine lv_topi (fun y369 ey369 => ?_)
      obtain rfl : x1 = y369 := hx1.trans ey369.symm
      refine lv_aload_n hx hb dL_law_889 rfl (lv_at hl 4 rfl) ?_
      refine lv_iload hx hb dL_law_890 (lv_at hl 0 rfl) ?_
      refine lv_iconst (v := 2) hx hb dL_law_892 (by decide) ?_
      refine lv_iadd hx hb dL_law_893 ?_
      refine lv_topi (fun y370 ey370 => ?_)
      obtain rfl : y370 = 2 := ey370.trans (by decide)
      refine va_sld hx hb hX hbl hbA hS (vp_in_iff.mpr (by decide)) dL_law_894 ?_
      refine lv_topi (fun y371 ey371 => ?_)
      obtain rfl : x2 = y371 := hx2.trans ey371.symm
      refine cvI (wr := []) (As := [.int x1, .int x2]) (rest := [.int (-1)]) ⟨hx, hb, hml, hown, hts0⟩ (mX10_queue_no l D z cy _ x1 x2 n0 n1 n2) (cwV 2 hts0 gL_law_X10_queue rfl rfl rfl (by decide +kernel) ⟨Nat.le_of_ble_eq_true rfl, Nat.le_of_ble_eq_true rfl⟩) hK hP hD hS hA [0, 1, 2, 3, 4, 5, 6, 7, 8, 9, 10, 11, 12, 13, 14, 15, 16] [] rfl rfl (by decide) (by decide) (by decide) 0 10 rfl rfl rfl hl.1 rfl (Nat.le_of_ble_eq_true rfl) dL_law_895 ⟨(Nat.le_of_ble_eq_true rfl), (Nat.le_of_ble_eq_true rfl)⟩ (fun r372 H locs hr372 hP hD hS => ?_)
      obtain rfl : r372 = (-1) := hr372
      have hP : va_P D vwCl (MW z cy 0) H := hP
      have hD : va_D _ (MW z cy 0) := hD
      refine lv_icmp_eq (tgt := 996) hx hb dL_law_898 (by decide) (fun _ => ?_) (fun c9 => absurd (by decide) c9)
      refine lv_iinc (v := 5) (lv' := [(4, .int 5), (3, .ref ao), (2, .ref (z 58)), (1, .ref (q 0)), (0, .ref b)]) hx hb dL_law_996 hl (k := 0) rfl (by decide) (by decide) rfl (fun ls hl => ?_)
      refine lv_goto (tgt := 23) hx hb dL_law_999 (by decide) ?_
      refine lv_iload hx hb dL_law_23 (lv_at hl 0 rfl) ?_
      refine lv_aload_n hx hb dL_law_25 rfl (lv_at hl 4 rfl) ?_
      refine va_slen hx hb hX hbl hbA hS dL_law_26 ?_
      refine lv_topi (fun y373 ey373 => ?_)
      obtain rfl : y373 = 5 := ey373.trans (by decide)
      refine lv_iconst (v := 5) hx hb dL_law_27 (by decide) ?_
      refine lv_isub hx hb dL_law_28 ?_
      refine lv_topi (fun y374 ey374 => ?_)
      obtain rfl : y374 = 0 := ey374.trans (by decide)
      refine lv_icmp_gt (tgt := 1002) hx hb dL_law_29 (by decide) (fun _ => ?_) (fun c9 => absurd (by decide) c9)
      refine lv_iconst (v := 1) hx hb dL_law_1002 (by decide) ?_
      refine va_forget (fun q9 h9 => hS.2.2 q9 h9) ?_
      refine W.widen (k := 600002) (n := 7302232) (Nat.le_of_ble_eq_true rfl) (Nat.le_of_ble_eq_true rfl) ?_
      exact lw_ret hx hb hr hlocks dL_law_1003
    by_cases j375 : wd = 19
    · skip
      subst j375
      refine lv_tableIn (tgt := 903) hx hb dL_law_39 (by decide) (by decide) rfl (by decide) ?_
      refine lv_aload_n hx hb dL_law_903 rfl (lv_at hl 3 rfl) ?_
      refine lv_aload_n hx hb dL_law_904 rfl (lv_at hl 4 rfl) ?_
      refine lv_iload hx hb dL_law_905 (lv_at hl 0 rfl) ?_
      refine lv_iconst (v := 1) hx hb dL_law_907 (by decide) ?_
      refine lv_iadd hx hb dL_law_908 ?_
      refine lv_topi (fun y376 ey376 => ?_)
      obtain rfl : y376 = 1 := ey376.trans (by decide)
      refine va_sld hx hb hX hbl hbA hS (vp_in_iff.mpr (by decide)) dL_law_909 ?_
      refine lv_topi (fun y377 ey377 => ?_)
      obtain rfl : x1 = y377 := hx1.trans ey377.symm
      refine lv_aload_n hx hb dL_law_910 rfl (lv_at hl 4 rfl) ?_
      refine lv_iload hx hb dL_law_911 (lv_at hl 0 rfl) ?_
      refine lv_iconst (v := 2) hx hb dL_law_913 (by decide) ?_
      refine lv_iadd hx hb dL_law_914 ?_
      refine lv_topi (fun y378 ey378 => ?_)
      obtain rfl : y378 = 2 := ey378.trans (by decide)
      refine va_sld hx hb hX hbl hbA hS (vp_in_iff.mpr (by decide)) dL_law_915 ?_
      refine lv_topi (fun y379 ey379 => ?_)
      obtain rfl : x2 = y379 := hx2.trans ey379.symm
      refine lv_aload_n hx hb dL_law_916 rfl (lv_at hl 1 rfl) ?_
      have hFc := va_free (wc := FW q cy g 0) hD hS hA [0, 1, 2, 3, 4, 5, 6, 7, 8, 9, 10, 11, 12, 13, 14, 15, 16, 17, 18, 19, 20, 21] rfl
      have hPc := hP.sub (ws' := FW q cy g 0) [0, 1, 2, 3, 4, 5, 6, 7, 8, 9, 10, 11, 12, 13, 14, 15, 16, 17, 18, 19, 20, 21] rfl
      have hDc := hD.sub (ws' := FW q cy g 0) [0, 1, 2, 3, 4, 5, 6, 7, 8, 9, 10, 11, 12, 13, 14, 15, 16, 17, 18, 19, 20, 21] (by decide) rfl
      refine va_calli (vx_runSW (hh := [(0, 10, 13, 13)]) (As := [.ref (q 0), .int x1, .int x2, .ref ao]) (rest := []) ⟨hx, hb, hml, hown, hts⟩ (mL_event l hls D q cy g _ sa ao x1 x2) (vx_cwSW 4 hts gLL_event rfl rfl rfl (by decide +kernel) ⟨Nat.le_of_ble_eq_true rfl, Nat.le_of_ble_eq_true rfl⟩) ⟨PWe_blind, fun U hU hW => ⟨rfl, by rw [hU], by rw [hU]; exact hPc, va_K.moved hW.alike hK, hDc.weaken (fun _ _ _ _ => trivial), EVX_warm hW (by rw [hU]; exact vx_Zq.narrow (vx_Zq.kept hZ1 hS.2.1) hFc) (by rw [hU]; exact vx_Zq.narrow (vx_Zq.kept hZ2 hS.2.1) hFc) hstr hcst⟩⟩ rfl rfl hl.1 rfl (lv_room (Nat.le_of_ble_eq_true rfl)) dL_law_917 ⟨Nat.le_of_ble_eq_true rfl, Nat.le_of_ble_eq_true rfl⟩) hS (fun q9 _ h => hFc q9 h) hFc (fun r9 u t H1 locs ht hvm hw hB hz1 hk1 hS => ?_)
      obtain ⟨hP1, hK1, hD1⟩ := hB
      rw [ht] at hP1
      obtain ⟨hP, hD⟩ := va_join (wr := MW z cy 0) (w1 := ([] : va_W)) hP hD [0, 1, 2, 3, 4, 5, 6, 7, 8, 9, 10, 11, 12, 13, 14, 15, 16, 17, 18, 19, 20, 21] [22, 23, 24, 25, 26, 27, 28, 29, 30, 31, 32, 33, 34, 35, 36, 37, 38] rfl rfl (by decide) (by decide) hk1 hFc hP1 hD1
      have hP := hP.sub (ws' := MW z cy 0) [0, 1, 2, 3, 4, 5, 6, 7, 8, 9, 10, 11, 12, 13, 14, 15, 16] rfl
      have hD := hD.sub (ws' := MW z cy 0) [0, 1, 2, 3, 4, 5, 6, 7, 8, 9, 10, 11, 12, 13, 14, 15, 16] (by decide) rfl
      generalize H1 = H at hP hS ⊢
      obtain rfl : r9 = 1 := hw
      refine lv_istore (lv' := [(5, .int 1), (4, .int 0), (3, .ref ao), (2, .ref (z 58)), (1, .ref (q 0)), (0, .ref b)]) hx hb dL_law_920 hl (by decide) rfl (fun ls hl => ?_)
      refine lv_aload_n hx hb dL_law_922 rfl (lv_at hl 3 rfl) ?_
      refine lv_aload_n hx hb dL_law_923 rfl (lv_at hl 5 rfl) ?_
      refine lv_iload hx hb dL_law_924 (lv_at hl 1 rfl) ?_
      refine lv_iconst (v := 1) hx hb dL_law_926 (by decide) ?_
      refine lv_iadd hx hb dL_law_927 ?_
      refine lv_topi (fun y380 ey380 => ?_)
      obtain rfl : y380 = 1 := ey380.trans (by decide)
      refine va_sld hx hb hX hbl hbA hS (vp_in_iff.mpr (by decide)) dL_law_928 ?_
      refine lv_topi (fun y381 ey381 => ?_)
      obtain rfl : x1 = y381 := hx1.trans ey381.symm
      refine lv_aload_n hx hb dL_law_929 rfl (lv_at hl 5 rfl) ?_
      refine lv_iload hx hb dL_law_930 (lv_at hl 1 rfl) ?_
      refine lv_iconst (v := 2) hx hb dL_law_932 (by decide) ?_
      refine lv_iadd hx hb dL_law_933 ?_
      refine lv_topi (fun y382 ey382 => ?_)
      obtain rfl : y382 = 2 := ey382.trans (by decide)
      refine va_sld hx hb hX hbl hbA hS (vp_in_iff.mpr (by decide)) dL_law_934 ?_
      refine lv_topi (fun y383 ey383 => ?_)
      obtain rfl : x2 = y383 := hx2.trans ey383.symm
      refine cvI (wr := []) (As := [.int x1, .int x2]) (rest := []) ⟨hx, hb, hml, hown, hts0⟩ (mX10_event_ l D z cy _ x1 x2 ) (cwV 2 hts0 gL_law_X10_event_ rfl rfl rfl (by decide +kernel) ⟨Nat.le_of_ble_eq_true rfl, Nat.le_of_ble_eq_true rfl⟩) hK hP hD hS hA [0, 1, 2, 3, 4, 5, 6, 7, 8, 9, 10, 11, 12, 13, 14, 15, 16] [] rfl rfl (by decide) (by decide) (by decide) 0 10 rfl rfl rfl hl.1 rfl (Nat.le_of_ble_eq_true rfl) dL_law_935 ⟨(Nat.le_of_ble_eq_true rfl), (Nat.le_of_ble_eq_true rfl)⟩ (fun r384 H locs hr384 hP hD hS => ?_)
      obtain rfl : r384 = 0 := hr384
      have hP : va_P D vwCl (MWe z cy 0) H := hP
      have hD : va_D _ (MWe z cy 0) := hD
      refine lv_istore (lv' := [(6, .int 0), (5, .int 1), (4, .int 0), (3, .ref ao), (2, .ref (z 58)), (1, .ref (q 0)), (0, .ref b)]) hx hb dL_law_938 hl (by decide) rfl (fun ls hl => ?_)
      refine lv_aload_n hx hb dL_law_940 rfl (lv_at hl 4 rfl) ?_
      refine cvI (wr := []) (As := []) (rest := []) ⟨hx, hb, hml, hown, hts0⟩ (mX10_thrown l D z cy _  ) (cwV 0 hts0 gL_law_X10_thrown rfl rfl rfl (by decide +kernel) ⟨Nat.le_of_ble_eq_true rfl, Nat.le_of_ble_eq_true rfl⟩) hK hP hD hS hA [0, 1, 2, 3, 4, 5, 6, 7, 8, 9, 10, 11, 12, 13, 14, 15, 16] [] rfl rfl (by decide) (by decide) (by decide) 0 10 rfl rfl rfl hl.1 rfl (Nat.le_of_ble_eq_true rfl) dL_law_941 ⟨(Nat.le_of_ble_eq_true rfl), (Nat.le_of_ble_eq_true rfl)⟩ (fun r385 H locs hr385 hP hD hS => ?_)
      obtain rfl : r385 = 1 := hr385
      have hP : va_P D vwCl (MWe z cy 0) H := hP
      have hD : va_D _ (MWe z cy 0) := hD
      refine lv_iload hx hb dL_law_944 (lv_at hl 1 rfl) ?_
      refine lv_icmp_eq (tgt := 951) hx hb dL_law_946 (by decide) (fun _ => ?_) (fun c9 => absurd (by decide) c9)
      refine lv_iload hx hb dL_law_951 (lv_at hl 1 rfl) ?_
      refine lv_if_ne (tgt := 968) hx hb dL_law_953 (by decide) (fun _ => ?_) (fun c9 => absurd c9 (by decide))
      refine lv_goto (tgt := 996) hx hb dL_law_968 (by decide) ?_
      refine lv_iinc (v := 5) (lv' := [(4, .int 5), (6, .int 0), (5, .int 1), (3, .ref ao), (2, .ref (z 58)), (1, .ref (q 0)), (0, .ref b)]) hx hb dL_law_996 hl (k := 2) rfl (by decide) (by decide) rfl (fun ls hl => ?_)
      refine lv_goto (tgt := 23) hx hb dL_law_999 (by decide) ?_
      refine lv_iload hx hb dL_law_23 (lv_at hl 0 rfl) ?_
      refine lv_aload_n hx hb dL_law_25 rfl (lv_at hl 6 rfl) ?_
      refine va_slen hx hb hX hbl hbA hS dL_law_26 ?_
      refine lv_topi (fun y386 ey386 => ?_)
      obtain rfl : y386 = 5 := ey386.trans (by decide)
      refine lv_iconst (v := 5) hx hb dL_law_27 (by decide) ?_
      refine lv_isub hx hb dL_law_28 ?_
      refine lv_topi (fun y387 ey387 => ?_)
      obtain rfl : y387 = 0 := ey387.trans (by decide)
      refine lv_icmp_gt (tgt := 1002) hx hb dL_law_29 (by decide) (fun _ => ?_) (fun c9 => absurd (by decide) c9)
      refine lv_iconst (v := 1) hx hb dL_law_1002 (by decide) ?_
      refine va_forget (fun q9 h9 => hS.2.2 q9 h9) ?_
      refine W.widen (k := 600002) (n := 7302232) (Nat.le_of_ble_eq_true rfl) (Nat.le_of_ble_eq_true rfl) ?_
      exact lw_ret hx hb hr hlocks dL_law_1003
    by_cases j388 : wd = 20
    · skip
      subst j388
      refine lv_tableIn (tgt := 971) hx hb dL_law_39 (by decide) (by decide) rfl (by decide) ?_
      refine lv_aload_n hx hb dL_law_971 rfl (lv_at hl 3 rfl) ?_
      refine lv_aload_n hx hb dL_law_972 rfl (lv_at hl 4 rfl) ?_
      refine lv_iload hx hb dL_law_973 (lv_at hl 0 rfl) ?_
      refine lv_iconst (v := 1) hx hb dL_law_975 (by decide) ?_
      refine lv_iadd hx hb dL_law_976 ?_
      refine lv_topi (fun y389 ey389 => ?_)
      obtain rfl : y389 = 1 := ey389.trans (by decide)
      refine va_sld hx hb hX hbl hbA hS (vp_in_iff.mpr (by decide)) dL_law_977 ?_
      refine lv_topi (fun y390 ey390 => ?_)
      obtain rfl : x1 = y390 := hx1.trans ey390.symm
      refine cvI (wr := MW z cy 0) (As := [.int x1]) (rest := []) ⟨hx, hb, hml, hown, hts0⟩ (mX9_count l D q cy g _ x1 ) (cwV 1 hts0 gL_law_X9_count rfl rfl rfl (by decide +kernel) ⟨Nat.le_of_ble_eq_true rfl, Nat.le_of_ble_eq_true rfl⟩) hK hP hD hS hA [0, 1, 2, 3, 4, 5, 6, 7, 8, 9, 10, 11, 12, 13, 14, 15, 16, 17, 18, 19, 20, 21] [22, 23, 24, 25, 26, 27, 28, 29, 30, 31, 32, 33, 34, 35, 36, 37, 38] rfl rfl (by decide) (by decide) (by decide) 0 9 rfl rfl rfl hl.1 rfl (Nat.le_of_ble_eq_true rfl) dL_law_978 ⟨(Nat.le_of_ble_eq_true rfl), (Nat.le_of_ble_eq_true rfl)⟩ (fun r391 H locs hr391 hP hD hS => ?_)
      obtain rfl : r391 = sp_count x1 := hr391
      have hP := hP.sub (ws' := MW z cy 0) [0, 1, 2, 3, 4, 5, 6, 7, 8, 9, 10, 11, 12, 13, 14, 15, 16] rfl
      have hD := hD.sub (ws' := MW z cy 0) [0, 1, 2, 3, 4, 5, 6, 7, 8, 9, 10, 11, 12, 13, 14, 15, 16] (by decide) rfl
      refine lv_aload_n hx hb dL_law_981 rfl (lv_at hl 2 rfl) ?_
      refine lv_aload_n hx hb dL_law_982 rfl (lv_at hl 4 rfl) ?_
      refine lv_iload hx hb dL_law_983 (lv_at hl 0 rfl) ?_
      refine lv_iconst (v := 1) hx hb dL_law_985 (by decide) ?_
      refine lv_iadd hx hb dL_law_986 ?_
      refine lv_topi (fun y392 ey392 => ?_)
      obtain rfl : y392 = 1 := ey392.trans (by decide)
      refine va_sld hx hb hX hbl hbA hS (vp_in_iff.mpr (by decide)) dL_law_987 ?_
      refine lv_topi (fun y393 ey393 => ?_)
      obtain rfl : x1 = y393 := hx1.trans ey393.symm
      refine cvI (wr := []) (As := [.int x1]) (rest := [.int (sp_count x1)]) ⟨hx, hb, hml, hown, hts0⟩ (mX10_count l D z cy _ x1 ) (cwV 1 hts0 gL_law_X10_count rfl rfl rfl (by decide +kernel) ⟨Nat.le_of_ble_eq_true rfl, Nat.le_of_ble_eq_true rfl⟩) hK hP hD hS hA [0, 1, 2, 3, 4, 5, 6, 7, 8, 9, 10, 11, 12, 13, 14, 15, 16] [] rfl rfl (by decide) (by decide) (by decide) 0 10 rfl rfl rfl hl.1 rfl (Nat.le_of_ble_eq_true rfl) dL_law_988 ⟨(Nat.le_of_ble_eq_true rfl), (Nat.le_of_ble_eq_true rfl)⟩ (fun r394 H locs hr394 hP hD hS => ?_)
      obtain rfl : r394 = sp_count x1 := hr394
      have hP : va_P D vwCl (MW z cy 0) H := hP
      have hD : va_D _ (MW z cy 0) := hD
      refine lv_icmp_eq (tgt := 996) hx hb dL_law_991 (by decide) (fun _ => ?_) (fun c9 => absurd (rfl) c9)
      refine lv_iinc (v := 5) (lv' := [(4, .int 5), (3, .ref ao), (2, .ref (z 58)), (1, .ref (q 0)), (0, .ref b)]) hx hb dL_law_996 hl (k := 0) rfl (by decide) (by decide) rfl (fun ls hl => ?_)
      refine lv_goto (tgt := 23) hx hb dL_law_999 (by decide) ?_
      refine lv_iload hx hb dL_law_23 (lv_at hl 0 rfl) ?_
      refine lv_aload_n hx hb dL_law_25 rfl (lv_at hl 4 rfl) ?_
      refine va_slen hx hb hX hbl hbA hS dL_law_26 ?_
      refine lv_topi (fun y395 ey395 => ?_)
      obtain rfl : y395 = 5 := ey395.trans (by decide)
      refine lv_iconst (v := 5) hx hb dL_law_27 (by decide) ?_
      refine lv_isub hx hb dL_law_28 ?_
      refine lv_topi (fun y396 ey396 => ?_)
      obtain rfl : y396 = 0 := ey396.trans (by decide)
      refine lv_icmp_gt (tgt := 1002) hx hb dL_law_29 (by decide) (fun _ => ?_) (fun c9 => absurd (by decide) c9)
      refine lv_iconst (v := 1) hx hb dL_law_1002 (by decide) ?_
      refine va_forget (fun q9 h9 => hS.2.2 q9 h9) ?_
      refine W.widen (k := 600002) (n := 7302232) (Nat.le_of_ble_eq_true rfl) (Nat.le_of_ble_eq_true rfl) ?_
      exact lw_ret hx hb hr hlocks dL_law_1003
    have hout := ts_out (x := wd) (n := 21) (by decide) (fun j9 hj9 => by rcases (show j9 = 0 ∨ j9 = 1 ∨ j9 = 2 ∨ j9 = 3 ∨ j9 = 4 ∨ j9 = 5 ∨ j9 = 6 ∨ j9 = 7 ∨ j9 = 8 ∨ j9 = 9 ∨ j9 = 10 ∨ j9 = 11 ∨ j9 = 12 ∨ j9 = 13 ∨ j9 = 14 ∨ j9 = 15 ∨ j9 = 16 ∨ j9 = 17 ∨ j9 = 18 ∨ j9 = 19 ∨ j9 = 20 by omega) with rfl | rfl | rfl | rfl | rfl | rfl | rfl | rfl | rfl | rfl | rfl | rfl | rfl | rfl | rfl | rfl | rfl | rfl | rfl | rfl | rfl <;> first | exact j4 | exact j20 | exact j42 | exact j59 | exact j87 | exact j100 | exact j113 | exact j147 | exact j160 | exact j169 | exact j186 | exact j195 | exact j208 | exact j221 | exact j234 | exact j243 | exact j252 | exact j261 | exact j326 | exact j375 | exact j388)
    refine lv_tableOut (tgt := 996) hx hb dL_law_39 (by omega) (by decide) ?_
    refine lv_iinc (v := 5) (lv' := [(4, .int 5), (3, .ref ao), (2, .ref (z 58)), (1, .ref (q 0)), (0, .ref b)]) hx hb dL_law_996 hl (k := 0) rfl (by decide) (by decide) rfl (fun ls hl => ?_)
    refine lv_goto (tgt := 23) hx hb dL_law_999 (by decide) ?_
    refine lv_iload hx hb dL_law_23 (lv_at hl 0 rfl) ?_
    refine lv_aload_n hx hb dL_law_25 rfl (lv_at hl 4 rfl) ?_
    refine va_slen hx hb hX hbl hbA hS dL_law_26 ?_
    refine lv_topi (fun y397 ey397 => ?_)
    obtain rfl : y397 = 5 := ey397.trans (by decide)
    refine lv_iconst (v := 5) hx hb dL_law_27 (by decide) ?_
    refine lv_isub hx hb dL_law_28 ?_
    refine lv_topi (fun y398 ey398 => ?_)
    obtain rfl : y398 = 0 := ey398.trans (by decide)
    refine lv_icmp_gt (tgt := 1002) hx hb dL_law_29 (by decide) (fun _ => ?_) (fun c9 => absurd (by decide) c9)
    refine lv_iconst (v := 1) hx hb dL_law_1002 (by decide) ?_
    refine va_forget (fun q9 h9 => hS.2.2 q9 h9) ?_
    refine W.widen (k := 600002) (n := 7302232) (Nat.le_of_ble_eq_true rfl) (Nat.le_of_ble_eq_true rfl) ?_
    exact lw_ret hx hb hr hlocks dL_law_1003
  · skip
    refine lv_iload hx hb dL_law_23 (lv_at hl 0 rfl) ?_
    refine lv_aload_n hx hb dL_law_25 rfl (lv_at hl 4 rfl) ?_
    refine va_slen hx hb hX hbl hbA hS dL_law_26 ?_
    refine lv_topi (fun y399 ey399 => ?_)
    obtain rfl : y399 = 0 := ey399.trans (by decide)
    refine lv_iconst (v := 5) hx hb dL_law_27 (by decide) ?_
    refine lv_isub hx hb dL_law_28 ?_
    refine lv_topi (fun y400 ey400 => ?_)
    obtain rfl : y400 = (-5) := ey400.trans (by decide)
    refine lv_icmp_gt (tgt := 1002) hx hb dL_law_29 (by decide) (fun _ => ?_) (fun c9 => absurd (by decide) c9)
    refine lv_iconst (v := 1) hx hb dL_law_1002 (by decide) ?_
    refine va_forget (fun q9 h9 => hS.2.2 q9 h9) ?_
    refine W.widen (k := 600002) (n := 7302232) (Nat.le_of_ble_eq_true rfl) (Nat.le_of_ble_eq_true rfl) ?_
    exact lw_ret hx hb hr hlocks dL_law_1003
  · skip
    refine lv_iload hx hb dL_law_23 (lv_at hl 0 rfl) ?_
    refine lv_aload_n hx hb dL_law_25 rfl (lv_at hl 4 rfl) ?_
    refine va_slen hx hb hX hbl hbA hS dL_law_26 ?_
    refine lv_topi (fun y401 ey401 => ?_)
    obtain rfl : y401 = 1 := ey401.trans (by decide)
    refine lv_iconst (v := 5) hx hb dL_law_27 (by decide) ?_
    refine lv_isub hx hb dL_law_28 ?_
    refine lv_topi (fun y402 ey402 => ?_)
    obtain rfl : y402 = (-4) := ey402.trans (by decide)
    refine lv_icmp_gt (tgt := 1002) hx hb dL_law_29 (by decide) (fun _ => ?_) (fun c9 => absurd (by decide) c9)
    refine lv_iconst (v := 1) hx hb dL_law_1002 (by decide) ?_
    refine va_forget (fun q9 h9 => hS.2.2 q9 h9) ?_
    refine W.widen (k := 600002) (n := 7302232) (Nat.le_of_ble_eq_true rfl) (Nat.le_of_ble_eq_true rfl) ?_
    exact lw_ret hx hb hr hlocks dL_law_1003
  · skip
    refine lv_iload hx hb dL_law_23 (lv_at hl 0 rfl) ?_
    refine lv_aload_n hx hb dL_law_25 rfl (lv_at hl 4 rfl) ?_
    refine va_slen hx hb hX hbl hbA hS dL_law_26 ?_
    refine lv_topi (fun y403 ey403 => ?_)
    obtain rfl : y403 = 2 := ey403.trans (by decide)
    refine lv_iconst (v := 5) hx hb dL_law_27 (by decide) ?_
    refine lv_isub hx hb dL_law_28 ?_
    refine lv_topi (fun y404 ey404 => ?_)
    obtain rfl : y404 = (-3) := ey404.trans (by decide)
    refine lv_icmp_gt (tgt := 1002) hx hb dL_law_29 (by decide) (fun _ => ?_) (fun c9 => absurd (by decide) c9)
    refine lv_iconst (v := 1) hx hb dL_law_1002 (by decide) ?_
    refine va_forget (fun q9 h9 => hS.2.2 q9 h9) ?_
    refine W.widen (k := 600002) (n := 7302232) (Nat.le_of_ble_eq_true rfl) (Nat.le_of_ble_eq_true rfl) ?_
    exact lw_ret hx hb hr hlocks dL_law_1003
  · skip
    refine lv_iload hx hb dL_law_23 (lv_at hl 0 rfl) ?_
    refine lv_aload_n hx hb dL_law_25 rfl (lv_at hl 4 rfl) ?_
    refine va_slen hx hb hX hbl hbA hS dL_law_26 ?_
    refine lv_topi (fun y405 ey405 => ?_)
    obtain rfl : y405 = 3 := ey405.trans (by decide)
    refine lv_iconst (v := 5) hx hb dL_law_27 (by decide) ?_
    refine lv_isub hx hb dL_law_28 ?_
    refine lv_topi (fun y406 ey406 => ?_)
    obtain rfl : y406 = (-2) := ey406.trans (by decide)
    refine lv_icmp_gt (tgt := 1002) hx hb dL_law_29 (by decide) (fun _ => ?_) (fun c9 => absurd (by decide) c9)
    refine lv_iconst (v := 1) hx hb dL_law_1002 (by decide) ?_
    refine va_forget (fun q9 h9 => hS.2.2 q9 h9) ?_
    refine W.widen (k := 600002) (n := 7302232) (Nat.le_of_ble_eq_true rfl) (Nat.le_of_ble_eq_true rfl) ?_
    exact lw_ret hx hb hr hlocks dL_law_1003
  · skip
    refine lv_iload hx hb dL_law_23 (lv_at hl 0 rfl) ?_
    refine lv_aload_n hx hb dL_law_25 rfl (lv_at hl 4 rfl) ?_
    refine va_slen hx hb hX hbl hbA hS dL_law_26 ?_
    refine lv_topi (fun y407 ey407 => ?_)
    obtain rfl : y407 = 4 := ey407.trans (by decide)
    refine lv_iconst (v := 5) hx hb dL_law_27 (by decide) ?_
    refine lv_isub hx hb dL_law_28 ?_
    refine lv_topi (fun y408 ey408 => ?_)
    obtain rfl : y408 = (-1) := ey408.trans (by decide)
    refine lv_icmp_gt (tgt := 1002) hx hb dL_law_29 (by decide) (fun _ => ?_) (fun c9 => absurd (by decide) c9)
    refine lv_iconst (v := 1) hx hb dL_law_1002 (by decide) ?_
    refine va_forget (fun q9 h9 => hS.2.2 q9 h9) ?_
    refine W.widen (k := 600002) (n := 7302232) (Nat.le_of_ble_eq_true rfl) (Nat.le_of_ble_eq_true rfl) ?_
    exact lw_ret hx hb hr hlocks dL_law_1003
