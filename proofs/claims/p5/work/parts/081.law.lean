set_option maxHeartbeats 64000000 in
set_option maxRecDepth 100000 in
theorem whole_start {p : Program} {e : Env} {s : State} {m : MethodId} {below : List Frame} {meth : Method} {c : Code} (l : Launch) (hls : l.stackTraces = false) {b L0 : Nat} {xs : Nat → Int32} (hL : L0 ≤ 2560) (C0 : lw_At p s m meth c b L0 xs) : W p l e room_1 s m #[Value.ref b] below meth c s.heap [] 0 0 (lw_Z below #[Value.ref b] s) (entryFrame m ([Value.ref b] : List Value).toArray 7) := by
  obtain ⟨hx, hb, hr, hml, hown, hts, hX, hbl, hlocks, hgv⟩ := id C0
  have hb : c.code = cL_law := hb
  have hown : s.vm.findClass RL = some m.cls := hown
  have hts0 : ∀ w ∈ wsL_law0, w.before #[Value.ref b] s = true := fun w h => hts w (wsL_law_in0 w h)
  have hA : ∀ q : Nat, s.heap.size ≤ q → (fun q : Nat => s.heap.size ≤ q) q := fun _ h => h
  have hbA : ¬ (fun q : Nat => s.heap.size ≤ q) b := Nat.not_le.mpr hbl
  have hrc : 601024 ≤ room_1.cells := Nat.le_of_ble_eq_true rfl
  have hrs : 7293034 ≤ room_1.slots := Nat.le_of_ble_eq_true rfl
  obtain ⟨c0, i0, K0⟩ := u_known (C := RX0) (T := TX0) (N := 6) (n := 6) hts wi_wsX00 (hts (.instantiable RX0 6) (by decide +kernel))
  obtain ⟨c1, i1, K1⟩ := u_known (C := RX1) (T := TX1) (N := 3) (n := 3) hts wi_wsX10 (hts (.instantiable RX1 3) (by decide +kernel))
  obtain ⟨c2, i2, K2⟩ := u_known (C := RX2) (T := TX2) (N := 2) (n := 2) hts wi_wsX20 (hts (.instantiable RX2 2) (by decide +kernel))
  obtain ⟨c3, i3, K3⟩ := u_known (C := RX3) (T := TX3) (N := 2) (n := 2) hts wi_wsX30 (hts (.instantiable RX3 2) (by decide +kernel))
  obtain ⟨c4, i4, K4⟩ := u_known (C := RX4) (T := TX4) (N := 4) (n := 4) hts wi_wsX40 (hts (.instantiable RX4 4) (by decide +kernel))
  obtain ⟨c5, i5, K5⟩ := u_known (C := RX5) (T := TX5) (N := 8) (n := 8) hts wi_wsX50 (hts (.instantiable RX5 8) (by decide +kernel))
  obtain ⟨c6, i6, K6⟩ := u_known (C := RX6) (T := TX6) (N := 17) (n := 17) hts wi_wsX60 (hts (.instantiable RX6 17) (by decide +kernel))
  obtain ⟨c7, i7, K7⟩ := u_known (C := RX7) (T := TX7) (N := 2) (n := 2) hts wi_wsX70 (hts (.instantiable RX7 2) (by decide +kernel))
  obtain ⟨c8, i8, K8⟩ := u_known (C := RX8) (T := TX8) (N := 3) (n := 3) hts wi_wsX80 (hts (.instantiable RX8 3) (by decide +kernel))
  obtain ⟨c9, i9, K9⟩ := u_known (C := RX9) (T := TX9) (N := 19) (n := 19) hts wi_wsX90 (hts (.instantiable RX9 19) (by decide +kernel))
  obtain ⟨c10, i10, K10⟩ := u_known (C := RX10) (T := TX10) (N := 58) (n := 58) hts wi_wsX100 (hts (.instantiable RX10 58) (by decide +kernel))
  obtain ⟨D, hKc⟩ : ∃ D : va_G, ∀ (k : Nat) (q : vw_C), vwCl[k]? = some q → u_Kn s q.1 q.2.1 q.2.2 (D.1 k) (D.2 k) := by
    refine ⟨(fun k => ([c0, c1, c2, c3, c4, c5, c6, c7, c8, c9, c10] : List ClassId).getD k c0, fun k => ([i0, i1, i2, i3, i4, i5, i6, i7, i8, i9, i10] : List (Nat → Nat)).getD k i0), ?_⟩
    intro k q hq
    match k, hq with
    | 0, hq => cases hq; exact K0
    | 1, hq => cases hq; exact K1
    | 2, hq => cases hq; exact K2
    | 3, hq => cases hq; exact K3
    | 4, hq => cases hq; exact K4
    | 5, hq => cases hq; exact K5
    | 6, hq => cases hq; exact K6
    | 7, hq => cases hq; exact K7
    | 8, hq => cases hq; exact K8
    | 9, hq => cases hq; exact K9
    | 10, hq => cases hq; exact K10
    | k + 11, hq => simp [vwCl] at hq
  obtain ⟨t0, kt0, ct0, f01, f02, f03⟩ := Cond.arrayClass_spec (hts (.arrayClass .int) (by decide +kernel))
  obtain ⟨t1, kt1, ct1, f11, f12, f13⟩ := Cond.arrayClass_spec (hts (.arrayClass .boolean) (by decide +kernel))
  obtain ⟨ct2, t2, kt2, f21, f22, f23, f24, f25⟩ := Cond.arrayOver_spec (hts (.arrayOver (.object "FondsRoom$Desk")) (by decide +kernel))
  obtain ⟨ct3, t3, kt3, f31, f32, f33, f34, f35⟩ := Cond.arrayOver_spec (hts (.arrayOver (.object "FondsRoom$Box")) (by decide +kernel))
  obtain ⟨ct4, t4, kt4, f41, f42, f43, f44, f45⟩ := Cond.arrayOver_spec (hts (.arrayOver (.object "FondsRoom$Reader")) (by decide +kernel))
  obtain ⟨ct5, t5, kt5, f51, f52, f53, f54, f55⟩ := Cond.arrayOver_spec (hts (.arrayOver (.object "FondsRoom$Worker")) (by decide +kernel))
  obtain ⟨cy, hK⟩ : ∃ cy : Nat → ClassId, va_K D vwCl (TYS cy) s := by
    refine ⟨fun k => ([t0, t1, t2, t3, t4, t5] : List ClassId).getD k t0, hKc, fun k q hq => ?_⟩
    match k, hq with
    | 0, hq => cases hq; exact ⟨fun N z => ⟨(fun k h => by cases h), kt0, f02, ct0, f03⟩, f01⟩
    | 1, hq => cases hq; exact ⟨fun N z => ⟨(fun k h => by cases h), kt1, f12, ct1, f13⟩, f11⟩
    | 2, hq => cases hq; exact ⟨fun N z => ⟨(fun k h => by cases h), kt2, f23, ct2, f24⟩, kt2, ct2, f23, f24, f21, f25⟩
    | 3, hq => cases hq; exact ⟨fun N z => ⟨(fun k h => by cases h), kt3, f33, ct3, f34⟩, kt3, ct3, f33, f34, f31, f35⟩
    | 4, hq => cases hq; exact ⟨fun N z => ⟨(fun k h => by cases h), kt4, f43, ct4, f44⟩, kt4, ct4, f43, f44, f41, f45⟩
    | 5, hq => cases hq; exact ⟨fun N z => ⟨(fun k h => by cases h), kt5, f53, ct5, f54⟩, kt5, ct5, f53, f54, f51, f55⟩
    | k + 6, hq => simp [TYS] at hq
  have hE : EXT s := ⟨va_AO.of (hts (.arrayOver (.object "FondsRoom$Desk")) (by decide +kernel)), va_AO.of (hts (.arrayOver (.object "FondsRoom$Box")) (by decide +kernel)), va_AO.of (hts (.arrayOver (.object "FondsRoom$Reader")) (by decide +kernel)), va_AO.of (hts (.arrayOver (.object "FondsRoom$Worker")) (by decide +kernel)), va_Nw.of rfl (hts (.methodLinkNest RX7 21 yX8_init "FondsRoom") (by decide +kernel))⟩
  have hflat := flat_of_before _ hgv
  have hZ1 : vx_Zq Bundle.tN "UNASSIGNED_STACK" Bundle.steD (fun q : Nat => s.heap.size ≤ q) s s.heap := vx_Zqof (hts (.laysStatic Bundle.tN "UNASSIGNED_STACK" Bundle.steD) (by decide +kernel)) (hts (.initialized Bundle.tN) (by decide +kernel)) (hflat (.isRef (.static Bundle.tN "UNASSIGNED_STACK" Bundle.steD)) (by decide +kernel)) (fun a ha => Nat.not_le.mpr ha)
  have hZ2 : vx_Zq Bundle.tN "SUPPRESSED_SENTINEL" Bundle.listD (fun q : Nat => s.heap.size ≤ q) s s.heap := vx_Zqof (hts (.laysStatic Bundle.tN "SUPPRESSED_SENTINEL" Bundle.listD) (by decide +kernel)) (hts (.initialized Bundle.tN) (by decide +kernel)) (hflat (.isRef (.static Bundle.tN "SUPPRESSED_SENTINEL" Bundle.listD)) (by decide +kernel)) (fun a ha => Nat.not_le.mpr ha)
  obtain ⟨sa, cSa, cellSa, kSa, hsa, -⟩ := Cond.exactly_spec (hflat (.exactly (.string "FondsRoom" 452) "java/lang/String") (by decide +kernel))
  have hstr : vk_R RX9 452 "no such event" sa s := vk_R.of (hts (.stringRef "FondsRoom" 452 "no such event") (by decide +kernel)) hsa
  have hcst : NWX s := ⟨va_Nw.of rfl (hts (.castable NSE NSE) (by decide +kernel)), va_Nw.of rfl (hts (.declares ⟨"java/lang/RuntimeException", "<init>", "(Ljava/lang/String;)V"⟩) (by decide +kernel)), va_Nw.of rfl (hts (.declares ⟨"java/lang/Exception", "<init>", "(Ljava/lang/String;)V"⟩) (by decide +kernel)), va_Nw.of rfl (hts (.declares ⟨"java/lang/Throwable", "<init>", "(Ljava/lang/String;)V"⟩) (by decide +kernel))⟩
  have hS : va_S (fun q : Nat => s.heap.size ≤ q) s.heap s.heap [] := va_S.rf
  have hP : va_P D vwCl [] s.heap := P0
  have hD : va_D (fun q : Nat => s.heap.size ≤ q) [] := D0
  have hl := lv_entry ([.ref b]) (n := 7) (Nat.le_of_ble_eq_true rfl)
  rw [lg_entry_eq]
  generalize (lg_sl ([.ref b]) ++ List.replicate (7 - (lg_sl ([.ref b])).length) Slot.unset).toArray = ls at hl ⊢
  have hl : lv_has ls 7 [(0, .ref b)] := hl
  refine va_new (ci := 9) (fs := [.null, .null, .null, .null, .null, .null, .null, .null, .null, .null, .int 0, .int 0, .int 0, .int 0, .int 0, .int 0, .int 0, .int 0, .int 0]) (C := RX9) (T := TX9) (N := 19) hx hb hts wi_wsX90 tyX9 tyX9_ok hown (hts (.classLink RL 8 RX9) (by decide +kernel)) (hts (.instantiable RX9 19) (by decide +kernel)) (hts (.initialized RX9) (by decide +kernel)) hK hP hD hS hA rfl (fun j hj => by rcases (show j = 0 ∨ j = 1 ∨ j = 2 ∨ j = 3 ∨ j = 4 ∨ j = 5 ∨ j = 6 ∨ j = 7 ∨ j = 8 ∨ j = 9 ∨ j = 10 ∨ j = 11 ∨ j = 12 ∨ j = 13 ∨ j = 14 ∨ j = 15 ∨ j = 16 ∨ j = 17 ∨ j = 18 by omega) with rfl | rfl | rfl | rfl | rfl | rfl | rfl | rfl | rfl | rfl | rfl | rfl | rfl | rfl | rfl | rfl | rfl | rfl | rfl <;> rfl) (Nat.le_of_ble_eq_true rfl) (Nat.le_of_ble_eq_true rfl) dL_law_0 (fun a9 H hP hD hS => ?_)
  refine lv_dup hx hb dL_law_3 rfl ?_
  refine ciH (wa := ([] : va_W)) (As := []) (rest := [.ref a9]) ⟨hx, hb, hml, hown, hts0⟩ (mX9_init l D cy _ a9) (cwI 0 hts0 gL_law_X9_init rfl rfl rfl (hts (.initialized RX9) (by decide +kernel)) (hts (.methodLink RL 15 yX9_init) (by decide +kernel)) (hts (.instanceMethod yX9_init) (by decide +kernel)) rfl (by decide +kernel) ⟨Nat.le_of_ble_eq_true rfl, Nat.le_of_ble_eq_true rfl⟩) hE hK hP hD hS hA rfl hl.1 rfl (Nat.le_of_ble_eq_true rfl) dL_law_4 ⟨Nat.le_of_ble_eq_true rfl, Nat.le_of_ble_eq_true rfl⟩ (fun u9 H locs hu9 hP hD hS => ?_)
  obtain ⟨xq, g, L, K, cf, nm⟩ := u9
  obtain ⟨x, ex⟩ : ∃ x : Nat → Nat, x = fun k => if k = 0 then a9 else xq k := ⟨_, rfl⟩
  have ex0 : x 0 = a9 := by rw [ex]; rfl
  have hP2 : va_P D vwCl (XW x cy g N0 n0 (fun _ _ => 0) (fun _ _ => none) ++ va_pl L (f0 cy K cf nm)) H := by rw [ex]; exact hP
  have hD2 : va_D (fun q9 : Nat => s.heap.size ≤ q9) (XW x cy g N0 n0 (fun _ _ => 0) (fun _ _ => none) ++ va_pl L (f0 cy K cf nm)) := by rw [ex]; exact hD
  clear hP hD ex
  subst ex0
  have hP : va_P D vwCl (XW x cy g N0 n0 (fun _ _ => 0) (fun _ _ => none) ++ va_pl L (f0 cy K cf nm)) H := hP2
  have hD : va_D (fun q9 : Nat => s.heap.size ≤ q9) (XW x cy g N0 n0 (fun _ _ => 0) (fun _ _ => none) ++ va_pl L (f0 cy K cf nm)) := hD2
  clear hP2 hD2
  refine lv_astore_n (lv' := [(1, .ref (x 0)), (0, .ref b)]) hx hb dL_law_7 rfl hl (by decide) rfl (fun ls hl => ?_)
  refine va_new (ci := 10) (fs := [.int 0, .int 0, .int 0, .int 0, .int 0, .int 0, .int 0, .int 0, .int 0, .null, .null, .null, .null, .null, .null, .null, .null, .null, .null, .null, .int 0, .int 0, .int 0, .int 0, .null, .null, .null, .null, .null, .null, .null, .null, .null, .null, .null, .null, .null, .null, .null, .null, .null, .null, .null, .null, .null, .null, .null, .int 0, .null, .null, .null, .null, .int 0, .null, .null, .null, .null, .int 0]) (C := RX10) (T := TX10) (N := 58) hx hb hts wi_wsX100 tyX10 tyX10_ok hown (hts (.classLink RL 16 RX10) (by decide +kernel)) (hts (.instantiable RX10 58) (by decide +kernel)) (hts (.initialized RX10) (by decide +kernel)) hK hP hD hS hA rfl (fun j hj => by rcases (show j = 0 ∨ j = 1 ∨ j = 2 ∨ j = 3 ∨ j = 4 ∨ j = 5 ∨ j = 6 ∨ j = 7 ∨ j = 8 ∨ j = 9 ∨ j = 10 ∨ j = 11 ∨ j = 12 ∨ j = 13 ∨ j = 14 ∨ j = 15 ∨ j = 16 ∨ j = 17 ∨ j = 18 ∨ j = 19 ∨ j = 20 ∨ j = 21 ∨ j = 22 ∨ j = 23 ∨ j = 24 ∨ j = 25 ∨ j = 26 ∨ j = 27 ∨ j = 28 ∨ j = 29 ∨ j = 30 ∨ j = 31 ∨ j = 32 ∨ j = 33 ∨ j = 34 ∨ j = 35 ∨ j = 36 ∨ j = 37 ∨ j = 38 ∨ j = 39 ∨ j = 40 ∨ j = 41 ∨ j = 42 ∨ j = 43 ∨ j = 44 ∨ j = 45 ∨ j = 46 ∨ j = 47 ∨ j = 48 ∨ j = 49 ∨ j = 50 ∨ j = 51 ∨ j = 52 ∨ j = 53 ∨ j = 54 ∨ j = 55 ∨ j = 56 ∨ j = 57 by omega) with rfl | rfl | rfl | rfl | rfl | rfl | rfl | rfl | rfl | rfl | rfl | rfl | rfl | rfl | rfl | rfl | rfl | rfl | rfl | rfl | rfl | rfl | rfl | rfl | rfl | rfl | rfl | rfl | rfl | rfl | rfl | rfl | rfl | rfl | rfl | rfl | rfl | rfl | rfl | rfl | rfl | rfl | rfl | rfl | rfl | rfl | rfl | rfl | rfl | rfl | rfl | rfl | rfl | rfl | rfl | rfl | rfl | rfl <;> rfl) (Nat.le_of_ble_eq_true rfl) (Nat.le_of_ble_eq_true rfl) dL_law_8 (fun a10 H hP hD hS => ?_)
  refine lv_dup hx hb dL_law_11 rfl ?_
  refine ciH (wa := XW x cy g N0 n0 (fun _ _ => 0) (fun _ _ => none) ++ va_pl L (f0 cy K cf nm)) (As := []) (rest := [.ref a10]) ⟨hx, hb, hml, hown, hts0⟩ (mX10_init l D cy _ a10) (cwI 0 hts0 gL_law_X10_init rfl rfl rfl (hts (.initialized RX10) (by decide +kernel)) (hts (.methodLink RL 18 yX10_init) (by decide +kernel)) (hts (.instanceMethod yX10_init) (by decide +kernel)) rfl (by decide +kernel) ⟨Nat.le_of_ble_eq_true rfl, Nat.le_of_ble_eq_true rfl⟩) hE hK hP hD hS hA rfl hl.1 rfl (Nat.le_of_ble_eq_true rfl) dL_law_12 ⟨Nat.le_of_ble_eq_true rfl, Nat.le_of_ble_eq_true rfl⟩ (fun u10 H locs hu10 hP hD hS => ?_)
  obtain ⟨yq, _gz⟩ := u10
  obtain ⟨y, ey⟩ : ∃ y : Nat → Nat, y = fun k => if k = 0 then a10 else yq k := ⟨_, rfl⟩
  have ey0 : y 0 = a10 := by rw [ey]; rfl
  have hP2 : va_P D vwCl (XW x cy g N0 n0 (fun _ _ => 0) (fun _ _ => none) ++ va_pl L (f0 cy K cf nm) ++ YW y cy S0) H := by rw [ey]; exact hP
  have hD2 : va_D (fun q9 : Nat => s.heap.size ≤ q9) (XW x cy g N0 n0 (fun _ _ => 0) (fun _ _ => none) ++ va_pl L (f0 cy K cf nm) ++ YW y cy S0) := by rw [ey]; exact hD
  clear hP hD ey
  subst ey0
  have hP : va_P D vwCl (XW x cy g N0 n0 (fun _ _ => 0) (fun _ _ => none) ++ va_pl L (f0 cy K cf nm) ++ YW y cy S0) H := hP2
  have hD : va_D (fun q9 : Nat => s.heap.size ≤ q9) (XW x cy g N0 n0 (fun _ _ => 0) (fun _ _ => none) ++ va_pl L (f0 cy K cf nm) ++ YW y cy S0) := hD2
  clear hP2 hD2
  refine lv_astore_n (lv' := [(2, .ref (y 0)), (1, .ref (x 0)), (0, .ref b)]) hx hb dL_law_15 rfl hl (by decide) rfl (fun ls hl => ?_)
  refine lv_iconst (v := 1) hx hb dL_law_16 (by decide) ?_
  refine va_newa (atype := .long) (ty := .long) (a0 := (1, .inr (.inl (fun _ => 0)))) hx hb (hts (.arrayClass .long) (by decide +kernel)) rfl hK hP hD hS hA (fun _ => rfl) (by decide) (by decide) (by decide) (Nat.le_of_ble_eq_true rfl) (Nat.le_of_ble_eq_true rfl) dL_law_17 (fun ao co H hK2 hP hD hS => ?_)
  have hP : va_P D vwCl ((OU ao co (fun _ => 0) ++ (XW x cy g N0 n0 (fun _ _ => 0) (fun _ _ => none) ++ va_pl L (f0 cy K cf nm))) ++ YW y cy S0) H := third_P hP
  have hD : va_D (fun q9 : Nat => s.heap.size ≤ q9) ((OU ao co (fun _ => 0) ++ (XW x cy g N0 n0 (fun _ _ => 0) (fun _ _ => none) ++ va_pl L (f0 cy K cf nm))) ++ YW y cy S0) := third_D hD
  refine lv_astore_n (lv' := [(3, .ref ao), (2, .ref (y 0)), (1, .ref (x 0)), (0, .ref b)]) hx hb dL_law_19 rfl hl (by decide) rfl (fun ls hl => ?_)
  refine lv_iconst (v := 0) hx hb dL_law_20 (by decide) ?_
  refine lv_istore (lv' := [(4, .int 0), (3, .ref ao), (2, .ref (y 0)), (1, .ref (x 0)), (0, .ref b)]) hx hb dL_law_21 hl (by decide) rfl (fun ls hl => ?_)
  have hG : GO L K g := INI_GO hu9
  have loop : ∀ (k i : Nat), L0 < i + k → i ≤ 2560 → ∀ (N : Nat → Nat) (n : Nat → Int32) (a : Nat → Nat → Int32) (r : Nat → Nat → Option Nat) (f : Nat → va_E) (fo : Nat → Int64) (S : RS), CI L K cy N r f → StA (ab N n a) S → ∀ (H : Heap) (locs : List Loc) (ls : Array Slot), va_P D vwCl ((OU ao co fo ++ (XW x cy g N n a r ++ va_pl L f)) ++ YW y cy S) H → va_D (fun q9 : Nat => s.heap.size ≤ q9) ((OU ao co fo ++ (XW x cy g N n a r ++ va_pl L f)) ++ YW y cy S) → va_S (fun q : Nat => s.heap.size ≤ q) s.heap H locs → lv_has ls 7 [(0, .ref b), (1, .ref (x 0)), (2, .ref (y 0)), (3, .ref ao), (4, .int (nI i))] → W p l e room_1 s m #[Value.ref b] below meth c H locs (300 + i) (20000 + 6 * i) (lw_Z below #[Value.ref b] s) (F0 m 23 ls []) := by
    intro k
    induction k with
    | zero =>
      intro i hk hi N n a r f fo S hC hSt H locs ls hP hD hS hl
      refine lv_iload hx hb dL_law_23 (lv_at hl 4 rfl) ?_
      refine lv_aload_n hx hb dL_law_25 rfl (lv_at hl 0 rfl) ?_
      refine va_slen hx hb hX hbl hbA hS dL_law_26 ?_
      refine lv_topi (fun y1 ey1 => ?_)
      obtain rfl : nI L0 = y1 := ey1.symm
      refine lv_iconst (v := 5) hx hb dL_law_27 (by decide) ?_
      refine lv_isub hx hb dL_law_28 ?_
      refine lv_icmp_gt (tgt := 974) hx hb dL_law_29 (by decide) (fun c9 => ?_) (fun c9 => ?_)
      · skip
        refine lv_iconst (v := 1) hx hb dL_law_974 (by decide) ?_
        refine va_forget (fun q9 h9 => hS.2.2 q9 h9) ?_
        refine W.widen (k := 601024) (n := 7293034) (by omega) (by omega) ?_
        exact lw_ret hx hb hr hlocks dL_law_975
      · exfalso
        rw [fa_lt, show (5 : Int32) = nI 5 from rfl, pk_sub_toInt (by omega) (by omega), nI_toInt (by omega)] at c9
        omega
    | succ k ih =>
      intro i hk hi N n a r f fo S hC hSt H locs ls hP hD hS hl
      refine lv_iload hx hb dL_law_23 (lv_at hl 4 rfl) ?_
      refine lv_aload_n hx hb dL_law_25 rfl (lv_at hl 0 rfl) ?_
      refine va_slen hx hb hX hbl hbA hS dL_law_26 ?_
      refine lv_topi (fun y2 ey2 => ?_)
      obtain rfl : nI L0 = y2 := ey2.symm
      refine lv_iconst (v := 5) hx hb dL_law_27 (by decide) ?_
      refine lv_isub hx hb dL_law_28 ?_
      refine lv_icmp_gt (tgt := 974) hx hb dL_law_29 (by decide) (fun c9 => ?_) (fun c9 => ?_)
      · skip
        refine lv_iconst (v := 1) hx hb dL_law_974 (by decide) ?_
        refine va_forget (fun q9 h9 => hS.2.2 q9 h9) ?_
        refine W.widen (k := 601024) (n := 7293034) (by omega) (by omega) ?_
        exact lw_ret hx hb hr hlocks dL_law_975
      · skip
        have hi5 : i + 5 ≤ L0 := by
          rw [fa_lt, show (5 : Int32) = nI 5 from rfl, pk_sub_toInt (by omega) (by omega), nI_toInt (by omega)] at c9
          omega
        obtain ⟨v0, hv0⟩ : ∃ z : Int32, z = xs (i) := ⟨_, rfl⟩
        obtain ⟨v1, hv1⟩ : ∃ z : Int32, z = xs (i + 1) := ⟨_, rfl⟩
        obtain ⟨v2, hv2⟩ : ∃ z : Int32, z = xs (i + 2) := ⟨_, rfl⟩
        obtain ⟨v3, hv3⟩ : ∃ z : Int32, z = xs (i + 3) := ⟨_, rfl⟩
        obtain ⟨v4, hv4⟩ : ∃ z : Int32, z = xs (i + 4) := ⟨_, rfl⟩
        refine lv_aload_n hx hb dL_law_32 rfl (lv_at hl 0 rfl) ?_
        refine lv_iload hx hb dL_law_33 (lv_at hl 4 rfl) ?_
        refine va_sld hx hb hX hbl hbA hS (vp_in_nI (by omega) (by omega)) dL_law_35 ?_
        refine lv_topi (fun y3 ey3 => ?_)
        rw [nI_clamp (by omega)] at ey3
        obtain rfl : v0 = y3 := hv0.trans ey3.symm
        refine lv_bipush (v := 31) hx hb dL_law_36 (by decide) ?_
        refine lv_iand hx hb dL_law_38 ?_
        refine lv_topi (fun wd ewd => ?_)
        by_cases j0 : wd = 0
        · skip
          refine lv_tableIn (tgt := 136) hx hb dL_law_39 (by rw [j0]; decide) (by rw [j0]; decide) (by rw [j0]; rfl) (by decide) ?_
          refine lv_aload_n hx hb dL_law_136 rfl (lv_at hl 1 rfl) ?_
          refine lv_aload_n hx hb dL_law_137 rfl (lv_at hl 0 rfl) ?_
          refine lv_iload hx hb dL_law_138 (lv_at hl 4 rfl) ?_
          refine lv_iconst (v := 1) hx hb dL_law_140 (by decide) ?_
          refine lv_iadd hx hb dL_law_141 ?_
          refine lv_tov (v' := .int (nI (i + 1))) (congrArg Value.int (nI_add i 1)) ?_
          refine va_sld hx hb hX hbl hbA hS (vp_in_nI (by omega) (by omega)) dL_law_142 ?_
          refine lv_topi (fun y4 ey4 => ?_)
          rw [nI_clamp (by omega)] at ey4
          obtain rfl : v1 = y4 := hv1.trans ey4.symm
          by_cases c5 : v1 = 0
          · skip
            refine lv_if_eq (tgt := 150) hx hb dL_law_143 (by decide) (fun _ => ?_) (fun c9 => absurd c5 c9)
            refine lv_iconst (v := 0) hx hb dL_law_150 (by decide) ?_
            refine mvI (wo := OU ao co fo) (As := [.int 0]) (rest := []) ⟨hx, hb, hml, hown, hts0⟩ (zX9_desk l D x cy g L K hG N n a r f hC _ 0 (Or.inl rfl)) (cwV 1 hts0 gL_law_X9_desk rfl rfl rfl (by decide +kernel) ⟨Nat.le_of_ble_eq_true rfl, Nat.le_of_ble_eq_true rfl⟩) hK hP hD hS hA (fun h9 => va_recv hK h9 (ci := 9) (q0 := 0) rfl rfl) rfl hl.1 rfl (Nat.le_of_ble_eq_true rfl) dL_law_151 ⟨by omega, by omega⟩ (fun r6 u7 H locs hw8 hP hD hS => ?_)
            obtain ⟨N9, n10, a11, r12, f13⟩ := u7
            obtain ⟨hC, hsp⟩ := hw8
            have hP : va_P D vwCl ((OU ao co fo ++ (XW x cy g N9 n10 a11 r12 ++ va_pl L f13)) ++ YW y cy S) H := hP
            have hD : va_D (fun q9 : Nat => s.heap.size ≤ q9) ((OU ao co fo ++ (XW x cy g N9 n10 a11 r12 ++ va_pl L f13)) ++ YW y cy S) := hD
            refine lv_pop hx hb dL_law_154 rfl ?_
            refine lv_aload_n hx hb dL_law_155 rfl (lv_at hl 2 rfl) ?_
            refine lv_aload_n hx hb dL_law_156 rfl (lv_at hl 0 rfl) ?_
            refine lv_iload hx hb dL_law_157 (lv_at hl 4 rfl) ?_
            refine lv_iconst (v := 1) hx hb dL_law_159 (by decide) ?_
            refine lv_iadd hx hb dL_law_160 ?_
            refine lv_tov (v' := .int (nI (i + 1))) (congrArg Value.int (nI_add i 1)) ?_
            refine va_sld hx hb hX hbl hbA hS (vp_in_nI (by omega) (by omega)) dL_law_161 ?_
            refine lv_topi (fun y14 ey14 => ?_)
            rw [nI_clamp (by omega)] at ey14
            obtain rfl : v1 = y14 := hv1.trans ey14.symm
            refine lv_if_eq (tgt := 169) hx hb dL_law_162 (by decide) (fun _ => ?_) (fun c9 => absurd c5 c9)
            refine lv_iconst (v := 0) hx hb dL_law_169 (by decide) ?_
            obtain ⟨⟨rv15, S16⟩, hF17, hq18⟩ := t_desk (d := N 0) (bx := N 1) (rd := N 2) (fe := N 3) (co := N 4) (t := n 1) (bl := n 2) (ms := ml (a 0) (N 8)) hSt 0
            refine hvI (As := [.int 0]) (rest := []) ⟨hx, hb, hml, hown, hts0⟩ (zX10_desk l D y cy S _ 0 rv15 S16 hF17) (cwV 1 hts0 gL_law_X10_desk rfl rfl rfl (by decide +kernel) ⟨Nat.le_of_ble_eq_true rfl, Nat.le_of_ble_eq_true rfl⟩) hK hP hD hS hA (fun h9 => va_recv hK h9 (ci := 10) (q0 := 0) rfl rfl) rfl hl.1 rfl (Nat.le_of_ble_eq_true rfl) dL_law_170 ⟨by omega, by omega⟩ (fun a19 u20 H locs hw21 hP hD hS => ?_)
            have hP : va_P D vwCl ((OU ao co fo ++ (XW x cy g N9 n10 a11 r12 ++ va_pl L f13)) ++ YW y cy S16) H := hP
            have hD : va_D (fun q9 : Nat => s.heap.size ≤ q9) ((OU ao co fo ++ (XW x cy g N9 n10 a11 r12 ++ va_pl L f13)) ++ YW y cy S16) := hD
            refine lv_tov (v' := .int rv15) (congrArg Value.int hw21) ?_
            obtain ⟨s9, hs9, hSt⟩ := hq18
            obtain ⟨e1, e2⟩ := Prod.mk.inj (hs9.trans hsp.symm)
            have hSt : StA (ab N9 n10 a11) S16 := by rw [e2] at hSt; exact hSt
            refine lv_pop hx hb dL_law_173 rfl ?_
            refine lv_goto (tgt := 968) hx hb dL_law_174 (by decide) ?_
            refine lv_iinc (v := nI (i + 5)) (lv' := [(4, .int (nI (i + 5))), (0, .ref b), (1, .ref (x 0)), (2, .ref (y 0)), (3, .ref ao)]) hx hb dL_law_968 hl (k := 4) rfl (nI_add i 5) (by decide) rfl (fun ls hl => ?_)
            refine lv_goto (tgt := 23) hx hb dL_law_971 (by decide) ?_
            refine W.widen (k := 300 + (i + 5)) (n := 20000 + 6 * (i + 5)) (by omega) (by omega) ?_
            exact ih (i + 5) (by omega) (by omega) N9 n10 a11 r12 f13 fo S16 hC hSt H _ _ hP hD hS (lv_sub hl [1, 2, 3, 4, 0] rfl)
          · skip
            refine lv_if_eq (tgt := 150) hx hb dL_law_143 (by decide) (fun c9 => absurd c9 c5) (fun _ => ?_)
            refine lv_iconst (v := 1) hx hb dL_law_146 (by decide) ?_
            refine lv_goto (tgt := 151) hx hb dL_law_147 (by decide) ?_
            refine mvI (wo := OU ao co fo) (As := [.int 1]) (rest := []) ⟨hx, hb, hml, hown, hts0⟩ (zX9_desk l D x cy g L K hG N n a r f hC _ 1 (Or.inr rfl)) (cwV 1 hts0 gL_law_X9_desk rfl rfl rfl (by decide +kernel) ⟨Nat.le_of_ble_eq_true rfl, Nat.le_of_ble_eq_true rfl⟩) hK hP hD hS hA (fun h9 => va_recv hK h9 (ci := 9) (q0 := 0) rfl rfl) rfl hl.1 rfl (Nat.le_of_ble_eq_true rfl) dL_law_151 ⟨by omega, by omega⟩ (fun r22 u23 H locs hw24 hP hD hS => ?_)
            obtain ⟨N25, n26, a27, r28, f29⟩ := u23
            obtain ⟨hC, hsp⟩ := hw24
            have hP : va_P D vwCl ((OU ao co fo ++ (XW x cy g N25 n26 a27 r28 ++ va_pl L f29)) ++ YW y cy S) H := hP
            have hD : va_D (fun q9 : Nat => s.heap.size ≤ q9) ((OU ao co fo ++ (XW x cy g N25 n26 a27 r28 ++ va_pl L f29)) ++ YW y cy S) := hD
            refine lv_pop hx hb dL_law_154 rfl ?_
            refine lv_aload_n hx hb dL_law_155 rfl (lv_at hl 2 rfl) ?_
            refine lv_aload_n hx hb dL_law_156 rfl (lv_at hl 0 rfl) ?_
            refine lv_iload hx hb dL_law_157 (lv_at hl 4 rfl) ?_
            refine lv_iconst (v := 1) hx hb dL_law_159 (by decide) ?_
            refine lv_iadd hx hb dL_law_160 ?_
            refine lv_tov (v' := .int (nI (i + 1))) (congrArg Value.int (nI_add i 1)) ?_
            refine va_sld hx hb hX hbl hbA hS (vp_in_nI (by omega) (by omega)) dL_law_161 ?_
            refine lv_topi (fun y30 ey30 => ?_)
            rw [nI_clamp (by omega)] at ey30
            obtain rfl : v1 = y30 := hv1.trans ey30.symm
            refine lv_if_eq (tgt := 169) hx hb dL_law_162 (by decide) (fun c9 => absurd c9 c5) (fun _ => ?_)
            refine lv_iconst (v := 1) hx hb dL_law_165 (by decide) ?_
            refine lv_goto (tgt := 170) hx hb dL_law_166 (by decide) ?_
            obtain ⟨⟨rv31, S32⟩, hF33, hq34⟩ := t_desk (d := N 0) (bx := N 1) (rd := N 2) (fe := N 3) (co := N 4) (t := n 1) (bl := n 2) (ms := ml (a 0) (N 8)) hSt 1
            refine hvI (As := [.int 1]) (rest := []) ⟨hx, hb, hml, hown, hts0⟩ (zX10_desk l D y cy S _ 1 rv31 S32 hF33) (cwV 1 hts0 gL_law_X10_desk rfl rfl rfl (by decide +kernel) ⟨Nat.le_of_ble_eq_true rfl, Nat.le_of_ble_eq_true rfl⟩) hK hP hD hS hA (fun h9 => va_recv hK h9 (ci := 10) (q0 := 0) rfl rfl) rfl hl.1 rfl (Nat.le_of_ble_eq_true rfl) dL_law_170 ⟨by omega, by omega⟩ (fun a35 u36 H locs hw37 hP hD hS => ?_)
            have hP : va_P D vwCl ((OU ao co fo ++ (XW x cy g N25 n26 a27 r28 ++ va_pl L f29)) ++ YW y cy S32) H := hP
            have hD : va_D (fun q9 : Nat => s.heap.size ≤ q9) ((OU ao co fo ++ (XW x cy g N25 n26 a27 r28 ++ va_pl L f29)) ++ YW y cy S32) := hD
            refine lv_tov (v' := .int rv31) (congrArg Value.int hw37) ?_
            obtain ⟨s9, hs9, hSt⟩ := hq34
            obtain ⟨e1, e2⟩ := Prod.mk.inj (hs9.trans hsp.symm)
            have hSt : StA (ab N25 n26 a27) S32 := by rw [e2] at hSt; exact hSt
            refine lv_pop hx hb dL_law_173 rfl ?_
            refine lv_goto (tgt := 968) hx hb dL_law_174 (by decide) ?_
            refine lv_iinc (v := nI (i + 5)) (lv' := [(4, .int (nI (i + 5))), (0, .ref b), (1, .ref (x 0)), (2, .ref (y 0)), (3, .ref ao)]) hx hb dL_law_968 hl (k := 4) rfl (nI_add i 5) (by decide) rfl (fun ls hl => ?_)
            refine lv_goto (tgt := 23) hx hb dL_law_971 (by decide) ?_
            refine W.widen (k := 300 + (i + 5)) (n := 20000 + 6 * (i + 5)) (by omega) (by omega) ?_
            exact ih (i + 5) (by omega) (by omega) N25 n26 a27 r28 f29 fo S32 hC hSt H _ _ hP hD hS (lv_sub hl [1, 2, 3, 4, 0] rfl)
        by_cases j1 : wd = 1
        · skip
          refine lv_tableIn (tgt := 177) hx hb dL_law_39 (by rw [j1]; decide) (by rw [j1]; decide) (by rw [j1]; rfl) (by decide) ?_
          refine lv_aload_n hx hb dL_law_177 rfl (lv_at hl 1 rfl) ?_
          refine lv_aload_n hx hb dL_law_178 rfl (lv_at hl 0 rfl) ?_
          refine lv_iload hx hb dL_law_179 (lv_at hl 4 rfl) ?_
          refine lv_iconst (v := 1) hx hb dL_law_181 (by decide) ?_
          refine lv_iadd hx hb dL_law_182 ?_
          refine lv_tov (v' := .int (nI (i + 1))) (congrArg Value.int (nI_add i 1)) ?_
          refine va_sld hx hb hX hbl hbA hS (vp_in_nI (by omega) (by omega)) dL_law_183 ?_
          refine lv_topi (fun y38 ey38 => ?_)
          rw [nI_clamp (by omega)] at ey38
          obtain rfl : v1 = y38 := hv1.trans ey38.symm
          refine lv_aload_n hx hb dL_law_184 rfl (lv_at hl 0 rfl) ?_
          refine lv_iload hx hb dL_law_185 (lv_at hl 4 rfl) ?_
          refine lv_iconst (v := 2) hx hb dL_law_187 (by decide) ?_
          refine lv_iadd hx hb dL_law_188 ?_
          refine lv_tov (v' := .int (nI (i + 2))) (congrArg Value.int (nI_add i 2)) ?_
          refine va_sld hx hb hX hbl hbA hS (vp_in_nI (by omega) (by omega)) dL_law_189 ?_
          refine lv_topi (fun y39 ey39 => ?_)
          rw [nI_clamp (by omega)] at ey39
          obtain rfl : v2 = y39 := hv2.trans ey39.symm
          by_cases c40 : v2 = 0
          · skip
            refine lv_if_eq (tgt := 197) hx hb dL_law_190 (by decide) (fun _ => ?_) (fun c9 => absurd c40 c9)
            refine lv_iconst (v := 0) hx hb dL_law_197 (by decide) ?_
            refine mvI (wo := OU ao co fo) (As := [.int v1, .int 0]) (rest := []) ⟨hx, hb, hml, hown, hts0⟩ (zX9_box l D x cy g L K hG N n a r f hC _ v1 0 (Or.inl rfl)) (cwV 2 hts0 gL_law_X9_box rfl rfl rfl (by decide +kernel) ⟨Nat.le_of_ble_eq_true rfl, Nat.le_of_ble_eq_true rfl⟩) hK hP hD hS hA (fun h9 => va_recv hK h9 (ci := 9) (q0 := 0) rfl rfl) rfl hl.1 rfl (Nat.le_of_ble_eq_true rfl) dL_law_198 ⟨by omega, by omega⟩ (fun r41 u42 H locs hw43 hP hD hS => ?_)
            obtain ⟨N44, n45, a46, r47, f48⟩ := u42
            obtain ⟨hC, hsp⟩ := hw43
            have hP : va_P D vwCl ((OU ao co fo ++ (XW x cy g N44 n45 a46 r47 ++ va_pl L f48)) ++ YW y cy S) H := hP
            have hD : va_D (fun q9 : Nat => s.heap.size ≤ q9) ((OU ao co fo ++ (XW x cy g N44 n45 a46 r47 ++ va_pl L f48)) ++ YW y cy S) := hD
            refine lv_pop hx hb dL_law_201 rfl ?_
            refine lv_aload_n hx hb dL_law_202 rfl (lv_at hl 2 rfl) ?_
            refine lv_aload_n hx hb dL_law_203 rfl (lv_at hl 0 rfl) ?_
            refine lv_iload hx hb dL_law_204 (lv_at hl 4 rfl) ?_
            refine lv_iconst (v := 1) hx hb dL_law_206 (by decide) ?_
            refine lv_iadd hx hb dL_law_207 ?_
            refine lv_tov (v' := .int (nI (i + 1))) (congrArg Value.int (nI_add i 1)) ?_
            refine va_sld hx hb hX hbl hbA hS (vp_in_nI (by omega) (by omega)) dL_law_208 ?_
            refine lv_topi (fun y49 ey49 => ?_)
            rw [nI_clamp (by omega)] at ey49
            obtain rfl : v1 = y49 := hv1.trans ey49.symm
            refine lv_aload_n hx hb dL_law_209 rfl (lv_at hl 0 rfl) ?_
            refine lv_iload hx hb dL_law_210 (lv_at hl 4 rfl) ?_
            refine lv_iconst (v := 2) hx hb dL_law_212 (by decide) ?_
            refine lv_iadd hx hb dL_law_213 ?_
            refine lv_tov (v' := .int (nI (i + 2))) (congrArg Value.int (nI_add i 2)) ?_
            refine va_sld hx hb hX hbl hbA hS (vp_in_nI (by omega) (by omega)) dL_law_214 ?_
            refine lv_topi (fun y50 ey50 => ?_)
            rw [nI_clamp (by omega)] at ey50
            obtain rfl : v2 = y50 := hv2.trans ey50.symm
            refine lv_if_eq (tgt := 222) hx hb dL_law_215 (by decide) (fun _ => ?_) (fun c9 => absurd c40 c9)
            refine lv_iconst (v := 0) hx hb dL_law_222 (by decide) ?_
            obtain ⟨⟨rv51, S52⟩, hF53, hq54⟩ := t_box (d := N 0) (bx := N 1) (rd := N 2) (fe := N 3) (co := N 4) (t := n 1) (bl := n 2) (ms := ml (a 0) (N 8)) hSt v1 0
            refine hvI (As := [.int v1, .int 0]) (rest := []) ⟨hx, hb, hml, hown, hts0⟩ (zX10_box l D y cy S _ v1 0 rv51 S52 hF53) (cwV 2 hts0 gL_law_X10_box rfl rfl rfl (by decide +kernel) ⟨Nat.le_of_ble_eq_true rfl, Nat.le_of_ble_eq_true rfl⟩) hK hP hD hS hA (fun h9 => va_recv hK h9 (ci := 10) (q0 := 0) rfl rfl) rfl hl.1 rfl (Nat.le_of_ble_eq_true rfl) dL_law_223 ⟨by omega, by omega⟩ (fun a55 u56 H locs hw57 hP hD hS => ?_)
            have hP : va_P D vwCl ((OU ao co fo ++ (XW x cy g N44 n45 a46 r47 ++ va_pl L f48)) ++ YW y cy S52) H := hP
            have hD : va_D (fun q9 : Nat => s.heap.size ≤ q9) ((OU ao co fo ++ (XW x cy g N44 n45 a46 r47 ++ va_pl L f48)) ++ YW y cy S52) := hD
            refine lv_tov (v' := .int rv51) (congrArg Value.int hw57) ?_
            obtain ⟨s9, hs9, hSt⟩ := hq54
            obtain ⟨e1, e2⟩ := Prod.mk.inj (hs9.trans hsp.symm)
            have hSt : StA (ab N44 n45 a46) S52 := by rw [e2] at hSt; exact hSt
            refine lv_pop hx hb dL_law_226 rfl ?_
            refine lv_goto (tgt := 968) hx hb dL_law_227 (by decide) ?_
            refine lv_iinc (v := nI (i + 5)) (lv' := [(4, .int (nI (i + 5))), (0, .ref b), (1, .ref (x 0)), (2, .ref (y 0)), (3, .ref ao)]) hx hb dL_law_968 hl (k := 4) rfl (nI_add i 5) (by decide) rfl (fun ls hl => ?_)
            refine lv_goto (tgt := 23) hx hb dL_law_971 (by decide) ?_
            refine W.widen (k := 300 + (i + 5)) (n := 20000 + 6 * (i + 5)) (by omega) (by omega) ?_
            exact ih (i + 5) (by omega) (by omega) N44 n45 a46 r47 f48 fo S52 hC hSt H _ _ hP hD hS (lv_sub hl [1, 2, 3, 4, 0] rfl)
          · skip
            refine lv_if_eq (tgt := 197) hx hb dL_law_190 (by decide) (fun c9 => absurd c9 c40) (fun _ => ?_)
            refine lv_iconst (v := 1) hx hb dL_law_193 (by decide) ?_
            refine lv_goto (tgt := 198) hx hb dL_law_194 (by decide) ?_
            refine mvI (wo := OU ao co fo) (As := [.int v1, .int 1]) (rest := []) ⟨hx, hb, hml, hown, hts0⟩ (zX9_box l D x cy g L K hG N n a r f hC _ v1 1 (Or.inr rfl)) (cwV 2 hts0 gL_law_X9_box rfl rfl rfl (by decide +kernel) ⟨Nat.le_of_ble_eq_true rfl, Nat.le_of_ble_eq_true rfl⟩) hK hP hD hS hA (fun h9 => va_recv hK h9 (ci := 9) (q0 := 0) rfl rfl) rfl hl.1 rfl (Nat.le_of_ble_eq_true rfl) dL_law_198 ⟨by omega, by omega⟩ (fun r58 u59 H locs hw60 hP hD hS => ?_)
            obtain ⟨N61, n62, a63, r64, f65⟩ := u59
            obtain ⟨hC, hsp⟩ := hw60
            have hP : va_P D vwCl ((OU ao co fo ++ (XW x cy g N61 n62 a63 r64 ++ va_pl L f65)) ++ YW y cy S) H := hP
            have hD : va_D (fun q9 : Nat => s.heap.size ≤ q9) ((OU ao co fo ++ (XW x cy g N61 n62 a63 r64 ++ va_pl L f65)) ++ YW y cy S) := hD
            refine lv_pop hx hb dL_law_201 rfl ?_
            refine lv_aload_n hx hb dL_law_202 rfl (lv_at hl 2 rfl) ?_
            refine lv_aload_n hx hb dL_law_203 rfl (lv_at hl 0 rfl) ?_
            refine lv_iload hx hb dL_law_204 (lv_at hl 4 rfl) ?_
            refine lv_iconst (v := 1) hx hb dL_law_206 (by decide) ?_
            refine lv_iadd hx hb dL_law_207 ?_
            refine lv_tov (v' := .int (nI (i + 1))) (congrArg Value.int (nI_add i 1)) ?_
            refine va_sld hx hb hX hbl hbA hS (vp_in_nI (by omega) (by omega)) dL_law_208 ?_
            refine lv_topi (fun y66 ey66 => ?_)
            rw [nI_clamp (by omega)] at ey66
            obtain rfl : v1 = y66 := hv1.trans ey66.symm
            refine lv_aload_n hx hb dL_law_209 rfl (lv_at hl 0 rfl) ?_
            refine lv_iload hx hb dL_law_210 (lv_at hl 4 rfl) ?_
            refine lv_iconst (v := 2) hx hb dL_law_212 (by decide) ?_
            refine lv_iadd hx hb dL_law_213 ?_
            refine lv_tov (v' := .int (nI (i + 2))) (congrArg Value.int (nI_add i 2)) ?_
            refine va_sld hx hb hX hbl hbA hS (vp_in_nI (by omega) (by omega)) dL_law_214 ?_
            refine lv_topi (fun y67 ey67 => ?_)
            rw [nI_clamp (by omega)] at ey67
            obtain rfl : v2 = y67 := hv2.trans ey67.symm
            refine lv_if_eq (tgt := 222) hx hb dL_law_215 (by decide) (fun c9 => absurd c9 c40) (fun _ => ?_)
            refine lv_iconst (v := 1) hx hb dL_law_218 (by decide) ?_
            refine lv_goto (tgt := 223) hx hb dL_law_219 (by decide) ?_
            obtain ⟨⟨rv68, S69⟩, hF70, hq71⟩ := t_box (d := N 0) (bx := N 1) (rd := N 2) (fe := N 3) (co := N 4) (t := n 1) (bl := n 2) (ms := ml (a 0) (N 8)) hSt v1 1
            refine hvI (As := [.int v1, .int 1]) (rest := []) ⟨hx, hb, hml, hown, hts0⟩ (zX10_box l D y cy S _ v1 1 rv68 S69 hF70) (cwV 2 hts0 gL_law_X10_box rfl rfl rfl (by decide +kernel) ⟨Nat.le_of_ble_eq_true rfl, Nat.le_of_ble_eq_true rfl⟩) hK hP hD hS hA (fun h9 => va_recv hK h9 (ci := 10) (q0 := 0) rfl rfl) rfl hl.1 rfl (Nat.le_of_ble_eq_true rfl) dL_law_223 ⟨by omega, by omega⟩ (fun a72 u73 H locs hw74 hP hD hS => ?_)
            have hP : va_P D vwCl ((OU ao co fo ++ (XW x cy g N61 n62 a63 r64 ++ va_pl L f65)) ++ YW y cy S69) H := hP
            have hD : va_D (fun q9 : Nat => s.heap.size ≤ q9) ((OU ao co fo ++ (XW x cy g N61 n62 a63 r64 ++ va_pl L f65)) ++ YW y cy S69) := hD
            refine lv_tov (v' := .int rv68) (congrArg Value.int hw74) ?_
            obtain ⟨s9, hs9, hSt⟩ := hq71
            obtain ⟨e1, e2⟩ := Prod.mk.inj (hs9.trans hsp.symm)
            have hSt : StA (ab N61 n62 a63) S69 := by rw [e2] at hSt; exact hSt
            refine lv_pop hx hb dL_law_226 rfl ?_
            refine lv_goto (tgt := 968) hx hb dL_law_227 (by decide) ?_
            refine lv_iinc (v := nI (i + 5)) (lv' := [(4, .int (nI (i + 5))), (0, .ref b), (1, .ref (x 0)), (2, .ref (y 0)), (3, .ref ao)]) hx hb dL_law_968 hl (k := 4) rfl (nI_add i 5) (by decide) rfl (fun ls hl => ?_)
            refine lv_goto (tgt := 23) hx hb dL_law_971 (by decide) ?_
            refine W.widen (k := 300 + (i + 5)) (n := 20000 + 6 * (i + 5)) (by omega) (by omega) ?_
            exact ih (i + 5) (by omega) (by omega) N61 n62 a63 r64 f65 fo S69 hC hSt H _ _ hP hD hS (lv_sub hl [1, 2, 3, 4, 0] rfl)
        by_cases j2 : wd = 2
        · skip
          refine lv_tableIn (tgt := 230) hx hb dL_law_39 (by rw [j2]; decide) (by rw [j2]; decide) (by rw [j2]; rfl) (by decide) ?_
          refine lv_aload_n hx hb dL_law_230 rfl (lv_at hl 1 rfl) ?_
          refine lv_aload_n hx hb dL_law_231 rfl (lv_at hl 0 rfl) ?_
          refine lv_iload hx hb dL_law_232 (lv_at hl 4 rfl) ?_
          refine lv_iconst (v := 1) hx hb dL_law_234 (by decide) ?_
          refine lv_iadd hx hb dL_law_235 ?_
          refine lv_tov (v' := .int (nI (i + 1))) (congrArg Value.int (nI_add i 1)) ?_
          refine va_sld hx hb hX hbl hbA hS (vp_in_nI (by omega) (by omega)) dL_law_236 ?_
          refine lv_topi (fun y75 ey75 => ?_)
          rw [nI_clamp (by omega)] at ey75
          obtain rfl : v1 = y75 := hv1.trans ey75.symm
          refine lv_aload_n hx hb dL_law_237 rfl (lv_at hl 0 rfl) ?_
          refine lv_iload hx hb dL_law_238 (lv_at hl 4 rfl) ?_
          refine lv_iconst (v := 2) hx hb dL_law_240 (by decide) ?_
          refine lv_iadd hx hb dL_law_241 ?_
          refine lv_tov (v' := .int (nI (i + 2))) (congrArg Value.int (nI_add i 2)) ?_
          refine va_sld hx hb hX hbl hbA hS (vp_in_nI (by omega) (by omega)) dL_law_242 ?_
          refine lv_topi (fun y76 ey76 => ?_)
          rw [nI_clamp (by omega)] at ey76
          obtain rfl : v2 = y76 := hv2.trans ey76.symm
          refine lv_aload_n hx hb dL_law_243 rfl (lv_at hl 0 rfl) ?_
          refine lv_iload hx hb dL_law_244 (lv_at hl 4 rfl) ?_
          refine lv_iconst (v := 3) hx hb dL_law_246 (by decide) ?_
          refine lv_iadd hx hb dL_law_247 ?_
          refine lv_tov (v' := .int (nI (i + 3))) (congrArg Value.int (nI_add i 3)) ?_
          refine va_sld hx hb hX hbl hbA hS (vp_in_nI (by omega) (by omega)) dL_law_248 ?_
          refine lv_topi (fun y77 ey77 => ?_)
          rw [nI_clamp (by omega)] at ey77
          obtain rfl : v3 = y77 := hv3.trans ey77.symm
          refine mvI (wo := OU ao co fo) (As := [.int v1, .int v2, .int v3]) (rest := []) ⟨hx, hb, hml, hown, hts0⟩ (zX9_people l D x cy g L K hG N n a r f hC _ v1 v2 v3) (cwV 3 hts0 gL_law_X9_people rfl rfl rfl (by decide +kernel) ⟨Nat.le_of_ble_eq_true rfl, Nat.le_of_ble_eq_true rfl⟩) hK hP hD hS hA (fun h9 => va_recv hK h9 (ci := 9) (q0 := 0) rfl rfl) rfl hl.1 rfl (Nat.le_of_ble_eq_true rfl) dL_law_249 ⟨by omega, by omega⟩ (fun r78 u79 H locs hw80 hP hD hS => ?_)
          obtain ⟨N81, n82, a83, r84, f85⟩ := u79
          obtain ⟨hC, hsp⟩ := hw80
          have hP : va_P D vwCl ((OU ao co fo ++ (XW x cy g N81 n82 a83 r84 ++ va_pl L f85)) ++ YW y cy S) H := hP
          have hD : va_D (fun q9 : Nat => s.heap.size ≤ q9) ((OU ao co fo ++ (XW x cy g N81 n82 a83 r84 ++ va_pl L f85)) ++ YW y cy S) := hD
          refine lv_pop hx hb dL_law_252 rfl ?_
          refine lv_aload_n hx hb dL_law_253 rfl (lv_at hl 2 rfl) ?_
          refine lv_aload_n hx hb dL_law_254 rfl (lv_at hl 0 rfl) ?_
          refine lv_iload hx hb dL_law_255 (lv_at hl 4 rfl) ?_
          refine lv_iconst (v := 1) hx hb dL_law_257 (by decide) ?_
          refine lv_iadd hx hb dL_law_258 ?_
          refine lv_tov (v' := .int (nI (i + 1))) (congrArg Value.int (nI_add i 1)) ?_
          refine va_sld hx hb hX hbl hbA hS (vp_in_nI (by omega) (by omega)) dL_law_259 ?_
          refine lv_topi (fun y86 ey86 => ?_)
          rw [nI_clamp (by omega)] at ey86
          obtain rfl : v1 = y86 := hv1.trans ey86.symm
          refine lv_aload_n hx hb dL_law_260 rfl (lv_at hl 0 rfl) ?_
          refine lv_iload hx hb dL_law_261 (lv_at hl 4 rfl) ?_
          refine lv_iconst (v := 2) hx hb dL_law_263 (by decide) ?_
          refine lv_iadd hx hb dL_law_264 ?_
          refine lv_tov (v' := .int (nI (i + 2))) (congrArg Value.int (nI_add i 2)) ?_
          refine va_sld hx hb hX hbl hbA hS (vp_in_nI (by omega) (by omega)) dL_law_265 ?_
          refine lv_topi (fun y87 ey87 => ?_)
          rw [nI_clamp (by omega)] at ey87
          obtain rfl : v2 = y87 := hv2.trans ey87.symm
          refine lv_aload_n hx hb dL_law_266 rfl (lv_at hl 0 rfl) ?_
          refine lv_iload hx hb dL_law_267 (lv_at hl 4 rfl) ?_
          refine lv_iconst (v := 3) hx hb dL_law_269 (by decide) ?_
          refine lv_iadd hx hb dL_law_270 ?_
          refine lv_tov (v' := .int (nI (i + 3))) (congrArg Value.int (nI_add i 3)) ?_
          refine va_sld hx hb hX hbl hbA hS (vp_in_nI (by omega) (by omega)) dL_law_271 ?_
          refine lv_topi (fun y88 ey88 => ?_)
          rw [nI_clamp (by omega)] at ey88
          obtain rfl : v3 = y88 := hv3.trans ey88.symm
          obtain ⟨⟨rv89, S90⟩, hF91, hq92⟩ := t_people (d := N 0) (bx := N 1) (rd := N 2) (fe := N 3) (co := N 4) (t := n 1) (bl := n 2) (ms := ml (a 0) (N 8)) hSt v1 v2 v3
          refine hvI (As := [.int v1, .int v2, .int v3]) (rest := []) ⟨hx, hb, hml, hown, hts0⟩ (zX10_people l D y cy S _ v1 v2 v3 rv89 S90 hF91) (cwV 3 hts0 gL_law_X10_people rfl rfl rfl (by decide +kernel) ⟨Nat.le_of_ble_eq_true rfl, Nat.le_of_ble_eq_true rfl⟩) hK hP hD hS hA (fun h9 => va_recv hK h9 (ci := 10) (q0 := 0) rfl rfl) rfl hl.1 rfl (Nat.le_of_ble_eq_true rfl) dL_law_272 ⟨by omega, by omega⟩ (fun a93 u94 H locs hw95 hP hD hS => ?_)
          have hP : va_P D vwCl ((OU ao co fo ++ (XW x cy g N81 n82 a83 r84 ++ va_pl L f85)) ++ YW y cy S90) H := hP
          have hD : va_D (fun q9 : Nat => s.heap.size ≤ q9) ((OU ao co fo ++ (XW x cy g N81 n82 a83 r84 ++ va_pl L f85)) ++ YW y cy S90) := hD
          refine lv_tov (v' := .int rv89) (congrArg Value.int hw95.1) ?_
          obtain ⟨s9, hs9, hSt⟩ := hq92
          obtain ⟨e1, e2⟩ := Prod.mk.inj (hs9.trans hsp.symm)
          have hSt : StA (ab N81 n82 a83) S90 := by rw [e2] at hSt; exact hSt
          refine lv_pop hx hb dL_law_275 rfl ?_
          refine lv_goto (tgt := 968) hx hb dL_law_276 (by decide) ?_
          refine lv_iinc (v := nI (i + 5)) (lv' := [(4, .int (nI (i + 5))), (0, .ref b), (1, .ref (x 0)), (2, .ref (y 0)), (3, .ref ao)]) hx hb dL_law_968 hl (k := 4) rfl (nI_add i 5) (by decide) rfl (fun ls hl => ?_)
          refine lv_goto (tgt := 23) hx hb dL_law_971 (by decide) ?_
          refine W.widen (k := 300 + (i + 5)) (n := 20000 + 6 * (i + 5)) (by omega) (by omega) ?_
          exact ih (i + 5) (by omega) (by omega) N81 n82 a83 r84 f85 fo S90 hC hSt H _ _ hP hD hS (lv_sub hl [1, 2, 3, 4, 0] rfl)
        by_cases j3 : wd = 3
        · skip
          refine lv_tableIn (tgt := 279) hx hb dL_law_39 (by rw [j3]; decide) (by rw [j3]; decide) (by rw [j3]; rfl) (by decide) ?_
          refine lv_aload_n hx hb dL_law_279 rfl (lv_at hl 1 rfl) ?_
          refine lv_aload_n hx hb dL_law_280 rfl (lv_at hl 0 rfl) ?_
          refine lv_iload hx hb dL_law_281 (lv_at hl 4 rfl) ?_
          refine lv_iconst (v := 1) hx hb dL_law_283 (by decide) ?_
          refine lv_iadd hx hb dL_law_284 ?_
          refine lv_tov (v' := .int (nI (i + 1))) (congrArg Value.int (nI_add i 1)) ?_
          refine va_sld hx hb hX hbl hbA hS (vp_in_nI (by omega) (by omega)) dL_law_285 ?_
          refine lv_topi (fun y96 ey96 => ?_)
          rw [nI_clamp (by omega)] at ey96
          obtain rfl : v1 = y96 := hv1.trans ey96.symm
          refine lv_aload_n hx hb dL_law_286 rfl (lv_at hl 0 rfl) ?_
          refine lv_iload hx hb dL_law_287 (lv_at hl 4 rfl) ?_
          refine lv_iconst (v := 2) hx hb dL_law_289 (by decide) ?_
          refine lv_iadd hx hb dL_law_290 ?_
          refine lv_tov (v' := .int (nI (i + 2))) (congrArg Value.int (nI_add i 2)) ?_
          refine va_sld hx hb hX hbl hbA hS (vp_in_nI (by omega) (by omega)) dL_law_291 ?_
          refine lv_topi (fun y97 ey97 => ?_)
          rw [nI_clamp (by omega)] at ey97
          obtain rfl : v2 = y97 := hv2.trans ey97.symm
          refine lv_aload_n hx hb dL_law_292 rfl (lv_at hl 0 rfl) ?_
          refine lv_iload hx hb dL_law_293 (lv_at hl 4 rfl) ?_
          refine lv_iconst (v := 3) hx hb dL_law_295 (by decide) ?_
          refine lv_iadd hx hb dL_law_296 ?_
          refine lv_tov (v' := .int (nI (i + 3))) (congrArg Value.int (nI_add i 3)) ?_
          refine va_sld hx hb hX hbl hbA hS (vp_in_nI (by omega) (by omega)) dL_law_297 ?_
          refine lv_topi (fun y98 ey98 => ?_)
          rw [nI_clamp (by omega)] at ey98
          obtain rfl : v3 = y98 := hv3.trans ey98.symm
          by_cases c99 : v3 = 0
          · skip
            refine lv_if_eq (tgt := 305) hx hb dL_law_298 (by decide) (fun _ => ?_) (fun c9 => absurd c99 c9)
            refine lv_iconst (v := 0) hx hb dL_law_305 (by decide) ?_
            refine mvI (wo := OU ao co fo) (As := [.int v1, .int v2, .int 0]) (rest := []) ⟨hx, hb, hml, hown, hts0⟩ (zX9_reader l D x cy g L K hG N n a r f hC _ v1 v2 0 (Or.inl rfl)) (cwV 3 hts0 gL_law_X9_reader rfl rfl rfl (by decide +kernel) ⟨Nat.le_of_ble_eq_true rfl, Nat.le_of_ble_eq_true rfl⟩) hK hP hD hS hA (fun h9 => va_recv hK h9 (ci := 9) (q0 := 0) rfl rfl) rfl hl.1 rfl (Nat.le_of_ble_eq_true rfl) dL_law_306 ⟨by omega, by omega⟩ (fun r100 u101 H locs hw102 hP hD hS => ?_)
            obtain ⟨N103, n104, a105, r106, f107⟩ := u101
            obtain ⟨hC, hsp⟩ := hw102
            have hP : va_P D vwCl ((OU ao co fo ++ (XW x cy g N103 n104 a105 r106 ++ va_pl L f107)) ++ YW y cy S) H := hP
            have hD : va_D (fun q9 : Nat => s.heap.size ≤ q9) ((OU ao co fo ++ (XW x cy g N103 n104 a105 r106 ++ va_pl L f107)) ++ YW y cy S) := hD
            refine lv_aload_n hx hb dL_law_309 rfl (lv_at hl 2 rfl) ?_
            refine lv_aload_n hx hb dL_law_310 rfl (lv_at hl 0 rfl) ?_
            refine lv_iload hx hb dL_law_311 (lv_at hl 4 rfl) ?_
            refine lv_iconst (v := 1) hx hb dL_law_313 (by decide) ?_
            refine lv_iadd hx hb dL_law_314 ?_
            refine lv_tov (v' := .int (nI (i + 1))) (congrArg Value.int (nI_add i 1)) ?_
            refine va_sld hx hb hX hbl hbA hS (vp_in_nI (by omega) (by omega)) dL_law_315 ?_
            refine lv_topi (fun y108 ey108 => ?_)
            rw [nI_clamp (by omega)] at ey108
            obtain rfl : v1 = y108 := hv1.trans ey108.symm
            refine lv_aload_n hx hb dL_law_316 rfl (lv_at hl 0 rfl) ?_
            refine lv_iload hx hb dL_law_317 (lv_at hl 4 rfl) ?_
            refine lv_iconst (v := 2) hx hb dL_law_319 (by decide) ?_
            refine lv_iadd hx hb dL_law_320 ?_
            refine lv_tov (v' := .int (nI (i + 2))) (congrArg Value.int (nI_add i 2)) ?_
            refine va_sld hx hb hX hbl hbA hS (vp_in_nI (by omega) (by omega)) dL_law_321 ?_
            refine lv_topi (fun y109 ey109 => ?_)
            rw [nI_clamp (by omega)] at ey109
            obtain rfl : v2 = y109 := hv2.trans ey109.symm
            refine lv_aload_n hx hb dL_law_322 rfl (lv_at hl 0 rfl) ?_
            refine lv_iload hx hb dL_law_323 (lv_at hl 4 rfl) ?_
            refine lv_iconst (v := 3) hx hb dL_law_325 (by decide) ?_
            refine lv_iadd hx hb dL_law_326 ?_
            refine lv_tov (v' := .int (nI (i + 3))) (congrArg Value.int (nI_add i 3)) ?_
            refine va_sld hx hb hX hbl hbA hS (vp_in_nI (by omega) (by omega)) dL_law_327 ?_
            refine lv_topi (fun y110 ey110 => ?_)
            rw [nI_clamp (by omega)] at ey110
            obtain rfl : v3 = y110 := hv3.trans ey110.symm
            refine lv_if_eq (tgt := 335) hx hb dL_law_328 (by decide) (fun _ => ?_) (fun c9 => absurd c99 c9)
            refine lv_iconst (v := 0) hx hb dL_law_335 (by decide) ?_
            obtain ⟨⟨rv111, S112⟩, hF113, hq114⟩ := t_reader (d := N 0) (bx := N 1) (rd := N 2) (fe := N 3) (co := N 4) (t := n 1) (bl := n 2) (ms := ml (a 0) (N 8)) hSt v1 v2 0
            refine hvI (As := [.int v1, .int v2, .int 0]) (rest := [.int r100]) ⟨hx, hb, hml, hown, hts0⟩ (zX10_reader l D y cy S _ v1 v2 0 rv111 S112 hF113) (cwV 3 hts0 gL_law_X10_reader rfl rfl rfl (by decide +kernel) ⟨Nat.le_of_ble_eq_true rfl, Nat.le_of_ble_eq_true rfl⟩) hK hP hD hS hA (fun h9 => va_recv hK h9 (ci := 10) (q0 := 0) rfl rfl) rfl hl.1 rfl (Nat.le_of_ble_eq_true rfl) dL_law_336 ⟨by omega, by omega⟩ (fun a115 u116 H locs hw117 hP hD hS => ?_)
            have hP : va_P D vwCl ((OU ao co fo ++ (XW x cy g N103 n104 a105 r106 ++ va_pl L f107)) ++ YW y cy S112) H := hP
            have hD : va_D (fun q9 : Nat => s.heap.size ≤ q9) ((OU ao co fo ++ (XW x cy g N103 n104 a105 r106 ++ va_pl L f107)) ++ YW y cy S112) := hD
            refine lv_tov (v' := .int rv111) (congrArg Value.int hw117) ?_
            obtain ⟨s9, hs9, hSt⟩ := hq114
            obtain ⟨e1, e2⟩ := Prod.mk.inj (hs9.trans hsp.symm)
            have hSt : StA (ab N103 n104 a105) S112 := by rw [e2] at hSt; exact hSt
            refine lv_icmp_eq (tgt := 968) hx hb dL_law_339 (by decide) (fun _ => ?_) (fun c9 => absurd (e1.symm) c9)
            refine lv_iinc (v := nI (i + 5)) (lv' := [(4, .int (nI (i + 5))), (0, .ref b), (1, .ref (x 0)), (2, .ref (y 0)), (3, .ref ao)]) hx hb dL_law_968 hl (k := 4) rfl (nI_add i 5) (by decide) rfl (fun ls hl => ?_)
            refine lv_goto (tgt := 23) hx hb dL_law_971 (by decide) ?_
            refine W.widen (k := 300 + (i + 5)) (n := 20000 + 6 * (i + 5)) (by omega) (by omega) ?_
            exact ih (i + 5) (by omega) (by omega) N103 n104 a105 r106 f107 fo S112 hC hSt H _ _ hP hD hS (lv_sub hl [1, 2, 3, 4, 0] rfl)
          · skip
            refine lv_if_eq (tgt := 305) hx hb dL_law_298 (by decide) (fun c9 => absurd c9 c99) (fun _ => ?_)
            refine lv_iconst (v := 1) hx hb dL_law_301 (by decide) ?_
            refine lv_goto (tgt := 306) hx hb dL_law_302 (by decide) ?_
            refine mvI (wo := OU ao co fo) (As := [.int v1, .int v2, .int 1]) (rest := []) ⟨hx, hb, hml, hown, hts0⟩ (zX9_reader l D x cy g L K hG N n a r f hC _ v1 v2 1 (Or.inr rfl)) (cwV 3 hts0 gL_law_X9_reader rfl rfl rfl (by decide +kernel) ⟨Nat.le_of_ble_eq_true rfl, Nat.le_of_ble_eq_true rfl⟩) hK hP hD hS hA (fun h9 => va_recv hK h9 (ci := 9) (q0 := 0) rfl rfl) rfl hl.1 rfl (Nat.le_of_ble_eq_true rfl) dL_law_306 ⟨by omega, by omega⟩ (fun r118 u119 H locs hw120 hP hD hS => ?_)
            obtain ⟨N121, n122, a123, r124, f125⟩ := u119
            obtain ⟨hC, hsp⟩ := hw120
            have hP : va_P D vwCl ((OU ao co fo ++ (XW x cy g N121 n122 a123 r124 ++ va_pl L f125)) ++ YW y cy S) H := hP
            have hD : va_D (fun q9 : Nat => s.heap.size ≤ q9) ((OU ao co fo ++ (XW x cy g N121 n122 a123 r124 ++ va_pl L f125)) ++ YW y cy S) := hD
            refine lv_aload_n hx hb dL_law_309 rfl (lv_at hl 2 rfl) ?_
            refine lv_aload_n hx hb dL_law_310 rfl (lv_at hl 0 rfl) ?_
            refine lv_iload hx hb dL_law_311 (lv_at hl 4 rfl) ?_
            refine lv_iconst (v := 1) hx hb dL_law_313 (by decide) ?_
            refine lv_iadd hx hb dL_law_314 ?_
            refine lv_tov (v' := .int (nI (i + 1))) (congrArg Value.int (nI_add i 1)) ?_
            refine va_sld hx hb hX hbl hbA hS (vp_in_nI (by omega) (by omega)) dL_law_315 ?_
            refine lv_topi (fun y126 ey126 => ?_)
            rw [nI_clamp (by omega)] at ey126
            obtain rfl : v1 = y126 := hv1.trans ey126.symm
            refine lv_aload_n hx hb dL_law_316 rfl (lv_at hl 0 rfl) ?_
            refine lv_iload hx hb dL_law_317 (lv_at hl 4 rfl) ?_
            refine lv_iconst (v := 2) hx hb dL_law_319 (by decide) ?_
            refine lv_iadd hx hb dL_law_320 ?_
            refine lv_tov (v' := .int (nI (i + 2))) (congrArg Value.int (nI_add i 2)) ?_
            refine va_sld hx hb hX hbl hbA hS (vp_in_nI (by omega) (by omega)) dL_law_321 ?_
            refine lv_topi (fun y127 ey127 => ?_)
            rw [nI_clamp (by omega)] at ey127
            obtain rfl : v2 = y127 := hv2.trans ey127.symm
            refine lv_aload_n hx hb dL_law_322 rfl (lv_at hl 0 rfl) ?_
            refine lv_iload hx hb dL_law_323 (lv_at hl 4 rfl) ?_
            refine lv_iconst (v := 3) hx hb dL_law_325 (by decide) ?_
            refine lv_iadd hx hb dL_law_326 ?_
            refine lv_tov (v' := .int (nI (i + 3))) (congrArg Value.int (nI_add i 3)) ?_
            refine va_sld hx hb hX hbl hbA hS (vp_in_nI (by omega) (by omega)) dL_law_327 ?_
            refine lv_topi (fun y128 ey128 => ?_)
            rw [nI_clamp (by omega)] at ey128
            obtain rfl : v3 = y128 := hv3.trans ey128.symm
            refine lv_if_eq (tgt := 335) hx hb dL_law_328 (by decide) (fun c9 => absurd c9 c99) (fun _ => ?_)
            refine lv_iconst (v := 1) hx hb dL_law_331 (by decide) ?_
            refine lv_goto (tgt := 336) hx hb dL_law_332 (by decide) ?_
            obtain ⟨⟨rv129, S130⟩, hF131, hq132⟩ := t_reader (d := N 0) (bx := N 1) (rd := N 2) (fe := N 3) (co := N 4) (t := n 1) (bl := n 2) (ms := ml (a 0) (N 8)) hSt v1 v2 1
            refine hvI (As := [.int v1, .int v2, .int 1]) (rest := [.int r118]) ⟨hx, hb, hml, hown, hts0⟩ (zX10_reader l D y cy S _ v1 v2 1 rv129 S130 hF131) (cwV 3 hts0 gL_law_X10_reader rfl rfl rfl (by decide +kernel) ⟨Nat.le_of_ble_eq_true rfl, Nat.le_of_ble_eq_true rfl⟩) hK hP hD hS hA (fun h9 => va_recv hK h9 (ci := 10) (q0 := 0) rfl rfl) rfl hl.1 rfl (Nat.le_of_ble_eq_true rfl) dL_law_336 ⟨by omega, by omega⟩ (fun a133 u134 H locs hw135 hP hD hS => ?_)
            have hP : va_P D vwCl ((OU ao co fo ++ (XW x cy g N121 n122 a123 r124 ++ va_pl L f125)) ++ YW y cy S130) H := hP
            have hD : va_D (fun q9 : Nat => s.heap.size ≤ q9) ((OU ao co fo ++ (XW x cy g N121 n122 a123 r124 ++ va_pl L f125)) ++ YW y cy S130) := hD
            refine lv_tov (v' := .int rv129) (congrArg Value.int hw135) ?_
            obtain ⟨s9, hs9, hSt⟩ := hq132
            obtain ⟨e1, e2⟩ := Prod.mk.inj (hs9.trans hsp.symm)
            have hSt : StA (ab N121 n122 a123) S130 := by rw [e2] at hSt; exact hSt
            refine lv_icmp_eq (tgt := 968) hx hb dL_law_339 (by decide) (fun _ => ?_) (fun c9 => absurd (e1.symm) c9)
            refine lv_iinc (v := nI (i + 5)) (lv' := [(4, .int (nI (i + 5))), (0, .ref b), (1, .ref (x 0)), (2, .ref (y 0)), (3, .ref ao)]) hx hb dL_law_968 hl (k := 4) rfl (nI_add i 5) (by decide) rfl (fun ls hl => ?_)
            refine lv_goto (tgt := 23) hx hb dL_law_971 (by decide) ?_
            refine W.widen (k := 300 + (i + 5)) (n := 20000 + 6 * (i + 5)) (by omega) (by omega) ?_
            exact ih (i + 5) (by omega) (by omega) N121 n122 a123 r124 f125 fo S130 hC hSt H _ _ hP hD hS (lv_sub hl [1, 2, 3, 4, 0] rfl)
        by_cases j4 : wd = 4
        · skip
          refine lv_tableIn (tgt := 344) hx hb dL_law_39 (by rw [j4]; decide) (by rw [j4]; decide) (by rw [j4]; rfl) (by decide) ?_
          refine lv_aload_n hx hb dL_law_344 rfl (lv_at hl 1 rfl) ?_
          refine lv_aload_n hx hb dL_law_345 rfl (lv_at hl 0 rfl) ?_
          refine lv_iload hx hb dL_law_346 (lv_at hl 4 rfl) ?_
          refine lv_iconst (v := 1) hx hb dL_law_348 (by decide) ?_
          refine lv_iadd hx hb dL_law_349 ?_
          refine lv_tov (v' := .int (nI (i + 1))) (congrArg Value.int (nI_add i 1)) ?_
          refine va_sld hx hb hX hbl hbA hS (vp_in_nI (by omega) (by omega)) dL_law_350 ?_
          refine lv_topi (fun y136 ey136 => ?_)
          rw [nI_clamp (by omega)] at ey136
          obtain rfl : v1 = y136 := hv1.trans ey136.symm
          refine lv_aload_n hx hb dL_law_351 rfl (lv_at hl 0 rfl) ?_
          refine lv_iload hx hb dL_law_352 (lv_at hl 4 rfl) ?_
          refine lv_iconst (v := 2) hx hb dL_law_354 (by decide) ?_
          refine lv_iadd hx hb dL_law_355 ?_
          refine lv_tov (v' := .int (nI (i + 2))) (congrArg Value.int (nI_add i 2)) ?_
          refine va_sld hx hb hX hbl hbA hS (vp_in_nI (by omega) (by omega)) dL_law_356 ?_
          refine lv_topi (fun y137 ey137 => ?_)
          rw [nI_clamp (by omega)] at ey137
          obtain rfl : v2 = y137 := hv2.trans ey137.symm
          refine mvI (wo := OU ao co fo) (As := [.int v1, .int v2]) (rest := []) ⟨hx, hb, hml, hown, hts0⟩ (zX9_ask l D x cy g L K hG N n a r f hC _ v1 v2) (cwV 2 hts0 gL_law_X9_ask rfl rfl rfl (by decide +kernel) ⟨Nat.le_of_ble_eq_true rfl, Nat.le_of_ble_eq_true rfl⟩) hK hP hD hS hA (fun h9 => va_recv hK h9 (ci := 9) (q0 := 0) rfl rfl) rfl hl.1 rfl (Nat.le_of_ble_eq_true rfl) dL_law_357 ⟨by omega, by omega⟩ (fun r138 u139 H locs hw140 hP hD hS => ?_)
          obtain ⟨N141, n142, a143, r144, f145⟩ := u139
          obtain ⟨hC, hsm, hmv, -⟩ := hw140
          have hab : ab N141 n142 a143 = ab N n a := ab_SM hsm hmv
          have hP : va_P D vwCl ((OU ao co fo ++ (XW x cy g N141 n142 a143 r144 ++ va_pl L f145)) ++ YW y cy S) H := hP
          have hD : va_D (fun q9 : Nat => s.heap.size ≤ q9) ((OU ao co fo ++ (XW x cy g N141 n142 a143 r144 ++ va_pl L f145)) ++ YW y cy S) := hD
          refine lv_pop hx hb dL_law_360 rfl ?_
          refine lv_aload_n hx hb dL_law_361 rfl (lv_at hl 2 rfl) ?_
          refine lv_aload_n hx hb dL_law_362 rfl (lv_at hl 0 rfl) ?_
          refine lv_iload hx hb dL_law_363 (lv_at hl 4 rfl) ?_
          refine lv_iconst (v := 1) hx hb dL_law_365 (by decide) ?_
          refine lv_iadd hx hb dL_law_366 ?_
          refine lv_tov (v' := .int (nI (i + 1))) (congrArg Value.int (nI_add i 1)) ?_
          refine va_sld hx hb hX hbl hbA hS (vp_in_nI (by omega) (by omega)) dL_law_367 ?_
          refine lv_topi (fun y146 ey146 => ?_)
          rw [nI_clamp (by omega)] at ey146
          obtain rfl : v1 = y146 := hv1.trans ey146.symm
          refine lv_aload_n hx hb dL_law_368 rfl (lv_at hl 0 rfl) ?_
          refine lv_iload hx hb dL_law_369 (lv_at hl 4 rfl) ?_
          refine lv_iconst (v := 2) hx hb dL_law_371 (by decide) ?_
          refine lv_iadd hx hb dL_law_372 ?_
          refine lv_tov (v' := .int (nI (i + 2))) (congrArg Value.int (nI_add i 2)) ?_
          refine va_sld hx hb hX hbl hbA hS (vp_in_nI (by omega) (by omega)) dL_law_373 ?_
          refine lv_topi (fun y147 ey147 => ?_)
          rw [nI_clamp (by omega)] at ey147
          obtain rfl : v2 = y147 := hv2.trans ey147.symm
          obtain ⟨⟨rv148, S149⟩, hF150, hq151⟩ := t_ask (d := N 0) (bx := N 1) (rd := N 2) (fe := N 3) (co := N 4) (t := n 1) (bl := n 2) (ms := ml (a 0) (N 8)) hSt v1 v2
          refine hvI (As := [.int v1, .int v2]) (rest := []) ⟨hx, hb, hml, hown, hts0⟩ (zX10_ask l D y cy S _ v1 v2 rv148 S149 hF150) (cwV 2 hts0 gL_law_X10_ask rfl rfl rfl (by decide +kernel) ⟨Nat.le_of_ble_eq_true rfl, Nat.le_of_ble_eq_true rfl⟩) hK hP hD hS hA (fun h9 => va_recv hK h9 (ci := 10) (q0 := 0) rfl rfl) rfl hl.1 rfl (Nat.le_of_ble_eq_true rfl) dL_law_374 ⟨by omega, by omega⟩ (fun a152 u153 H locs hw154 hP hD hS => ?_)
          have hP : va_P D vwCl ((OU ao co fo ++ (XW x cy g N141 n142 a143 r144 ++ va_pl L f145)) ++ YW y cy S149) H := hP
          have hD : va_D (fun q9 : Nat => s.heap.size ≤ q9) ((OU ao co fo ++ (XW x cy g N141 n142 a143 r144 ++ va_pl L f145)) ++ YW y cy S149) := hD
          refine lv_tov (v' := .int rv148) (congrArg Value.int hw154.1) ?_
          have hSt : StA (ab N141 n142 a143) S149 := by rw [hab]; exact hq151
          refine lv_pop hx hb dL_law_377 rfl ?_
          refine lv_goto (tgt := 968) hx hb dL_law_378 (by decide) ?_
          refine lv_iinc (v := nI (i + 5)) (lv' := [(4, .int (nI (i + 5))), (0, .ref b), (1, .ref (x 0)), (2, .ref (y 0)), (3, .ref ao)]) hx hb dL_law_968 hl (k := 4) rfl (nI_add i 5) (by decide) rfl (fun ls hl => ?_)
          refine lv_goto (tgt := 23) hx hb dL_law_971 (by decide) ?_
          refine W.widen (k := 300 + (i + 5)) (n := 20000 + 6 * (i + 5)) (by omega) (by omega) ?_
          exact ih (i + 5) (by omega) (by omega) N141 n142 a143 r144 f145 fo S149 hC hSt H _ _ hP hD hS (lv_sub hl [1, 2, 3, 4, 0] rfl)
        by_cases j5 : wd = 5
        · skip
          refine lv_tableIn (tgt := 381) hx hb dL_law_39 (by rw [j5]; decide) (by rw [j5]; decide) (by rw [j5]; rfl) (by decide) ?_
          refine lv_aload_n hx hb dL_law_381 rfl (lv_at hl 1 rfl) ?_
          refine lv_aload_n hx hb dL_law_382 rfl (lv_at hl 0 rfl) ?_
          refine lv_iload hx hb dL_law_383 (lv_at hl 4 rfl) ?_
          refine lv_iconst (v := 1) hx hb dL_law_385 (by decide) ?_
          refine lv_iadd hx hb dL_law_386 ?_
          refine lv_tov (v' := .int (nI (i + 1))) (congrArg Value.int (nI_add i 1)) ?_
          refine va_sld hx hb hX hbl hbA hS (vp_in_nI (by omega) (by omega)) dL_law_387 ?_
          refine lv_topi (fun y155 ey155 => ?_)
          rw [nI_clamp (by omega)] at ey155
          obtain rfl : v1 = y155 := hv1.trans ey155.symm
          refine lv_aload_n hx hb dL_law_388 rfl (lv_at hl 0 rfl) ?_
          refine lv_iload hx hb dL_law_389 (lv_at hl 4 rfl) ?_
          refine lv_iconst (v := 2) hx hb dL_law_391 (by decide) ?_
          refine lv_iadd hx hb dL_law_392 ?_
          refine lv_tov (v' := .int (nI (i + 2))) (congrArg Value.int (nI_add i 2)) ?_
          refine va_sld hx hb hX hbl hbA hS (vp_in_nI (by omega) (by omega)) dL_law_393 ?_
          refine lv_topi (fun y156 ey156 => ?_)
          rw [nI_clamp (by omega)] at ey156
          obtain rfl : v2 = y156 := hv2.trans ey156.symm
          refine mvI (wo := OU ao co fo) (As := [.int v1, .int v2]) (rest := []) ⟨hx, hb, hml, hown, hts0⟩ (zX9_read l D x cy g L K hG N n a r f hC _ v1 v2) (cwV 2 hts0 gL_law_X9_read rfl rfl rfl (by decide +kernel) ⟨Nat.le_of_ble_eq_true rfl, Nat.le_of_ble_eq_true rfl⟩) hK hP hD hS hA (fun h9 => va_recv hK h9 (ci := 9) (q0 := 0) rfl rfl) rfl hl.1 rfl (Nat.le_of_ble_eq_true rfl) dL_law_394 ⟨by omega, by omega⟩ (fun r157 u158 H locs hw159 hP hD hS => ?_)
          obtain ⟨N160, n161, a162, r163, f164⟩ := u158
          obtain ⟨hC, hsm, hmv, -⟩ := hw159
          have hab : ab N160 n161 a162 = ab N n a := ab_SM hsm hmv
          have hP : va_P D vwCl ((OU ao co fo ++ (XW x cy g N160 n161 a162 r163 ++ va_pl L f164)) ++ YW y cy S) H := hP
          have hD : va_D (fun q9 : Nat => s.heap.size ≤ q9) ((OU ao co fo ++ (XW x cy g N160 n161 a162 r163 ++ va_pl L f164)) ++ YW y cy S) := hD
          refine lv_pop hx hb dL_law_397 rfl ?_
          refine lv_aload_n hx hb dL_law_398 rfl (lv_at hl 2 rfl) ?_
          refine lv_aload_n hx hb dL_law_399 rfl (lv_at hl 0 rfl) ?_
          refine lv_iload hx hb dL_law_400 (lv_at hl 4 rfl) ?_
          refine lv_iconst (v := 1) hx hb dL_law_402 (by decide) ?_
          refine lv_iadd hx hb dL_law_403 ?_
          refine lv_tov (v' := .int (nI (i + 1))) (congrArg Value.int (nI_add i 1)) ?_
          refine va_sld hx hb hX hbl hbA hS (vp_in_nI (by omega) (by omega)) dL_law_404 ?_
          refine lv_topi (fun y165 ey165 => ?_)
          rw [nI_clamp (by omega)] at ey165
          obtain rfl : v1 = y165 := hv1.trans ey165.symm
          refine lv_aload_n hx hb dL_law_405 rfl (lv_at hl 0 rfl) ?_
          refine lv_iload hx hb dL_law_406 (lv_at hl 4 rfl) ?_
          refine lv_iconst (v := 2) hx hb dL_law_408 (by decide) ?_
          refine lv_iadd hx hb dL_law_409 ?_
          refine lv_tov (v' := .int (nI (i + 2))) (congrArg Value.int (nI_add i 2)) ?_
          refine va_sld hx hb hX hbl hbA hS (vp_in_nI (by omega) (by omega)) dL_law_410 ?_
          refine lv_topi (fun y166 ey166 => ?_)
          rw [nI_clamp (by omega)] at ey166
          obtain rfl : v2 = y166 := hv2.trans ey166.symm
          obtain ⟨⟨rv167, S168⟩, hF169, hq170⟩ := t_read (d := N 0) (bx := N 1) (rd := N 2) (fe := N 3) (co := N 4) (t := n 1) (bl := n 2) (ms := ml (a 0) (N 8)) hSt v1 v2
          refine hvI (As := [.int v1, .int v2]) (rest := []) ⟨hx, hb, hml, hown, hts0⟩ (zX10_read l D y cy S _ v1 v2 rv167 S168 hF169) (cwV 2 hts0 gL_law_X10_read rfl rfl rfl (by decide +kernel) ⟨Nat.le_of_ble_eq_true rfl, Nat.le_of_ble_eq_true rfl⟩) hK hP hD hS hA (fun h9 => va_recv hK h9 (ci := 10) (q0 := 0) rfl rfl) rfl hl.1 rfl (Nat.le_of_ble_eq_true rfl) dL_law_411 ⟨by omega, by omega⟩ (fun a171 u172 H locs hw173 hP hD hS => ?_)
          have hP : va_P D vwCl ((OU ao co fo ++ (XW x cy g N160 n161 a162 r163 ++ va_pl L f164)) ++ YW y cy S168) H := hP
          have hD : va_D (fun q9 : Nat => s.heap.size ≤ q9) ((OU ao co fo ++ (XW x cy g N160 n161 a162 r163 ++ va_pl L f164)) ++ YW y cy S168) := hD
          refine lv_tov (v' := .int rv167) (congrArg Value.int hw173.1) ?_
          have hSt : StA (ab N160 n161 a162) S168 := by rw [hab]; exact hq170
          refine lv_pop hx hb dL_law_414 rfl ?_
          refine lv_goto (tgt := 968) hx hb dL_law_415 (by decide) ?_
          refine lv_iinc (v := nI (i + 5)) (lv' := [(4, .int (nI (i + 5))), (0, .ref b), (1, .ref (x 0)), (2, .ref (y 0)), (3, .ref ao)]) hx hb dL_law_968 hl (k := 4) rfl (nI_add i 5) (by decide) rfl (fun ls hl => ?_)
          refine lv_goto (tgt := 23) hx hb dL_law_971 (by decide) ?_
          refine W.widen (k := 300 + (i + 5)) (n := 20000 + 6 * (i + 5)) (by omega) (by omega) ?_
          exact ih (i + 5) (by omega) (by omega) N160 n161 a162 r163 f164 fo S168 hC hSt H _ _ hP hD hS (lv_sub hl [1, 2, 3, 4, 0] rfl)
        by_cases j6 : wd = 6
        · skip
          refine lv_tableIn (tgt := 418) hx hb dL_law_39 (by rw [j6]; decide) (by rw [j6]; decide) (by rw [j6]; rfl) (by decide) ?_
          refine lv_aload_n hx hb dL_law_418 rfl (lv_at hl 1 rfl) ?_
          refine lv_aload_n hx hb dL_law_419 rfl (lv_at hl 0 rfl) ?_
          refine lv_iload hx hb dL_law_420 (lv_at hl 4 rfl) ?_
          refine lv_iconst (v := 1) hx hb dL_law_422 (by decide) ?_
          refine lv_iadd hx hb dL_law_423 ?_
          refine lv_tov (v' := .int (nI (i + 1))) (congrArg Value.int (nI_add i 1)) ?_
          refine va_sld hx hb hX hbl hbA hS (vp_in_nI (by omega) (by omega)) dL_law_424 ?_
          refine lv_topi (fun y174 ey174 => ?_)
          rw [nI_clamp (by omega)] at ey174
          obtain rfl : v1 = y174 := hv1.trans ey174.symm
          refine lv_aload_n hx hb dL_law_425 rfl (lv_at hl 0 rfl) ?_
          refine lv_iload hx hb dL_law_426 (lv_at hl 4 rfl) ?_
          refine lv_iconst (v := 2) hx hb dL_law_428 (by decide) ?_
          refine lv_iadd hx hb dL_law_429 ?_
          refine lv_tov (v' := .int (nI (i + 2))) (congrArg Value.int (nI_add i 2)) ?_
          refine va_sld hx hb hX hbl hbA hS (vp_in_nI (by omega) (by omega)) dL_law_430 ?_
          refine lv_topi (fun y175 ey175 => ?_)
          rw [nI_clamp (by omega)] at ey175
          obtain rfl : v2 = y175 := hv2.trans ey175.symm
          refine lv_aload_n hx hb dL_law_431 rfl (lv_at hl 0 rfl) ?_
          refine lv_iload hx hb dL_law_432 (lv_at hl 4 rfl) ?_
          refine lv_iconst (v := 3) hx hb dL_law_434 (by decide) ?_
          refine lv_iadd hx hb dL_law_435 ?_
          refine lv_tov (v' := .int (nI (i + 3))) (congrArg Value.int (nI_add i 3)) ?_
          refine va_sld hx hb hX hbl hbA hS (vp_in_nI (by omega) (by omega)) dL_law_436 ?_
          refine lv_topi (fun y176 ey176 => ?_)
          rw [nI_clamp (by omega)] at ey176
          obtain rfl : v3 = y176 := hv3.trans ey176.symm
          refine lv_aload_n hx hb dL_law_437 rfl (lv_at hl 0 rfl) ?_
          refine lv_iload hx hb dL_law_438 (lv_at hl 4 rfl) ?_
          refine lv_iconst (v := 4) hx hb dL_law_440 (by decide) ?_
          refine lv_iadd hx hb dL_law_441 ?_
          refine lv_tov (v' := .int (nI (i + 4))) (congrArg Value.int (nI_add i 4)) ?_
          refine va_sld hx hb hX hbl hbA hS (vp_in_nI (by omega) (by omega)) dL_law_442 ?_
          refine lv_topi (fun y177 ey177 => ?_)
          rw [nI_clamp (by omega)] at ey177
          obtain rfl : v4 = y177 := hv4.trans ey177.symm
          by_cases c178 : v4 = 0
          · skip
            refine lv_if_eq (tgt := 450) hx hb dL_law_443 (by decide) (fun _ => ?_) (fun c9 => absurd c178 c9)
            refine lv_iconst (v := 0) hx hb dL_law_450 (by decide) ?_
            refine mvI (wo := OU ao co fo) (As := [.int v1, .int v2, .int v3, .int 0]) (rest := []) ⟨hx, hb, hml, hown, hts0⟩ (zX9_copy l D x cy g L K hG N n a r f hC _ v1 v2 v3 0) (cwV 4 hts0 gL_law_X9_copy rfl rfl rfl (by decide +kernel) ⟨Nat.le_of_ble_eq_true rfl, Nat.le_of_ble_eq_true rfl⟩) hK hP hD hS hA (fun h9 => va_recv hK h9 (ci := 9) (q0 := 0) rfl rfl) rfl hl.1 rfl (Nat.le_of_ble_eq_true rfl) dL_law_451 ⟨by omega, by omega⟩ (fun r179 u180 H locs hw181 hP hD hS => ?_)
            obtain ⟨N182, n183, a184, r185, f186⟩ := u180
            obtain ⟨hC, hsm, hmv, -⟩ := hw181
            have hab : ab N182 n183 a184 = ab N n a := ab_SM hsm hmv
            have hP : va_P D vwCl ((OU ao co fo ++ (XW x cy g N182 n183 a184 r185 ++ va_pl L f186)) ++ YW y cy S) H := hP
            have hD : va_D (fun q9 : Nat => s.heap.size ≤ q9) ((OU ao co fo ++ (XW x cy g N182 n183 a184 r185 ++ va_pl L f186)) ++ YW y cy S) := hD
            refine lv_pop hx hb dL_law_454 rfl ?_
            refine lv_aload_n hx hb dL_law_455 rfl (lv_at hl 2 rfl) ?_
            refine lv_aload_n hx hb dL_law_456 rfl (lv_at hl 0 rfl) ?_
            refine lv_iload hx hb dL_law_457 (lv_at hl 4 rfl) ?_
            refine lv_iconst (v := 1) hx hb dL_law_459 (by decide) ?_
            refine lv_iadd hx hb dL_law_460 ?_
            refine lv_tov (v' := .int (nI (i + 1))) (congrArg Value.int (nI_add i 1)) ?_
            refine va_sld hx hb hX hbl hbA hS (vp_in_nI (by omega) (by omega)) dL_law_461 ?_
            refine lv_topi (fun y187 ey187 => ?_)
            rw [nI_clamp (by omega)] at ey187
            obtain rfl : v1 = y187 := hv1.trans ey187.symm
            refine lv_aload_n hx hb dL_law_462 rfl (lv_at hl 0 rfl) ?_
            refine lv_iload hx hb dL_law_463 (lv_at hl 4 rfl) ?_
            refine lv_iconst (v := 2) hx hb dL_law_465 (by decide) ?_
            refine lv_iadd hx hb dL_law_466 ?_
            refine lv_tov (v' := .int (nI (i + 2))) (congrArg Value.int (nI_add i 2)) ?_
            refine va_sld hx hb hX hbl hbA hS (vp_in_nI (by omega) (by omega)) dL_law_467 ?_
            refine lv_topi (fun y188 ey188 => ?_)
            rw [nI_clamp (by omega)] at ey188
            obtain rfl : v2 = y188 := hv2.trans ey188.symm
            refine lv_aload_n hx hb dL_law_468 rfl (lv_at hl 0 rfl) ?_
            refine lv_iload hx hb dL_law_469 (lv_at hl 4 rfl) ?_
            refine lv_iconst (v := 3) hx hb dL_law_471 (by decide) ?_
            refine lv_iadd hx hb dL_law_472 ?_
            refine lv_tov (v' := .int (nI (i + 3))) (congrArg Value.int (nI_add i 3)) ?_
            refine va_sld hx hb hX hbl hbA hS (vp_in_nI (by omega) (by omega)) dL_law_473 ?_
            refine lv_topi (fun y189 ey189 => ?_)
            rw [nI_clamp (by omega)] at ey189
            obtain rfl : v3 = y189 := hv3.trans ey189.symm
            refine lv_aload_n hx hb dL_law_474 rfl (lv_at hl 0 rfl) ?_
            refine lv_iload hx hb dL_law_475 (lv_at hl 4 rfl) ?_
            refine lv_iconst (v := 4) hx hb dL_law_477 (by decide) ?_
            refine lv_iadd hx hb dL_law_478 ?_
            refine lv_tov (v' := .int (nI (i + 4))) (congrArg Value.int (nI_add i 4)) ?_
            refine va_sld hx hb hX hbl hbA hS (vp_in_nI (by omega) (by omega)) dL_law_479 ?_
            refine lv_topi (fun y190 ey190 => ?_)
            rw [nI_clamp (by omega)] at ey190
            obtain rfl : v4 = y190 := hv4.trans ey190.symm
            refine lv_if_eq (tgt := 487) hx hb dL_law_480 (by decide) (fun _ => ?_) (fun c9 => absurd c178 c9)
            refine lv_iconst (v := 0) hx hb dL_law_487 (by decide) ?_
            obtain ⟨⟨rv191, S192⟩, hF193, hq194⟩ := t_copy (d := N 0) (bx := N 1) (rd := N 2) (fe := N 3) (co := N 4) (t := n 1) (bl := n 2) (ms := ml (a 0) (N 8)) hSt v1 v2 v3 0
            refine hvI (As := [.int v1, .int v2, .int v3, .int 0]) (rest := []) ⟨hx, hb, hml, hown, hts0⟩ (zX10_copy l D y cy S _ v1 v2 v3 0 rv191 S192 hF193) (cwV 4 hts0 gL_law_X10_copy rfl rfl rfl (by decide +kernel) ⟨Nat.le_of_ble_eq_true rfl, Nat.le_of_ble_eq_true rfl⟩) hK hP hD hS hA (fun h9 => va_recv hK h9 (ci := 10) (q0 := 0) rfl rfl) rfl hl.1 rfl (Nat.le_of_ble_eq_true rfl) dL_law_488 ⟨by omega, by omega⟩ (fun a195 u196 H locs hw197 hP hD hS => ?_)
            have hP : va_P D vwCl ((OU ao co fo ++ (XW x cy g N182 n183 a184 r185 ++ va_pl L f186)) ++ YW y cy S192) H := hP
            have hD : va_D (fun q9 : Nat => s.heap.size ≤ q9) ((OU ao co fo ++ (XW x cy g N182 n183 a184 r185 ++ va_pl L f186)) ++ YW y cy S192) := hD
            refine lv_tov (v' := .int rv191) (congrArg Value.int hw197.1) ?_
            have hSt : StA (ab N182 n183 a184) S192 := by rw [hab]; exact hq194
            refine lv_pop hx hb dL_law_491 rfl ?_
            refine lv_goto (tgt := 968) hx hb dL_law_492 (by decide) ?_
            refine lv_iinc (v := nI (i + 5)) (lv' := [(4, .int (nI (i + 5))), (0, .ref b), (1, .ref (x 0)), (2, .ref (y 0)), (3, .ref ao)]) hx hb dL_law_968 hl (k := 4) rfl (nI_add i 5) (by decide) rfl (fun ls hl => ?_)
            refine lv_goto (tgt := 23) hx hb dL_law_971 (by decide) ?_
            refine W.widen (k := 300 + (i + 5)) (n := 20000 + 6 * (i + 5)) (by omega) (by omega) ?_
            exact ih (i + 5) (by omega) (by omega) N182 n183 a184 r185 f186 fo S192 hC hSt H _ _ hP hD hS (lv_sub hl [1, 2, 3, 4, 0] rfl)
          · skip
            refine lv_if_eq (tgt := 450) hx hb dL_law_443 (by decide) (fun c9 => absurd c9 c178) (fun _ => ?_)
            refine lv_iconst (v := 1) hx hb dL_law_446 (by decide) ?_
            refine lv_goto (tgt := 451) hx hb dL_law_447 (by decide) ?_
            refine mvI (wo := OU ao co fo) (As := [.int v1, .int v2, .int v3, .int 1]) (rest := []) ⟨hx, hb, hml, hown, hts0⟩ (zX9_copy l D x cy g L K hG N n a r f hC _ v1 v2 v3 1) (cwV 4 hts0 gL_law_X9_copy rfl rfl rfl (by decide +kernel) ⟨Nat.le_of_ble_eq_true rfl, Nat.le_of_ble_eq_true rfl⟩) hK hP hD hS hA (fun h9 => va_recv hK h9 (ci := 9) (q0 := 0) rfl rfl) rfl hl.1 rfl (Nat.le_of_ble_eq_true rfl) dL_law_451 ⟨by omega, by omega⟩ (fun r198 u199 H locs hw200 hP hD hS => ?_)
            obtain ⟨N201, n202, a203, r204, f205⟩ := u199
            obtain ⟨hC, hsm, hmv, -⟩ := hw200
            have hab : ab N201 n202 a203 = ab N n a := ab_SM hsm hmv
            have hP : va_P D vwCl ((OU ao co fo ++ (XW x cy g N201 n202 a203 r204 ++ va_pl L f205)) ++ YW y cy S) H := hP
            have hD : va_D (fun q9 : Nat => s.heap.size ≤ q9) ((OU ao co fo ++ (XW x cy g N201 n202 a203 r204 ++ va_pl L f205)) ++ YW y cy S) := hD
            refine lv_pop hx hb dL_law_454 rfl ?_
            refine lv_aload_n hx hb dL_law_455 rfl (lv_at hl 2 rfl) ?_
            refine lv_aload_n hx hb dL_law_456 rfl (lv_at hl 0 rfl) ?_
            refine lv_iload hx hb dL_law_457 (lv_at hl 4 rfl) ?_
            refine lv_iconst (v := 1) hx hb dL_law_459 (by decide) ?_
            refine lv_iadd hx hb dL_law_460 ?_
            refine lv_tov (v' := .int (nI (i + 1))) (congrArg Value.int (nI_add i 1)) ?_
            refine va_sld hx hb hX hbl hbA hS (vp_in_nI (by omega) (by omega)) dL_law_461 ?_
            refine lv_topi (fun y206 ey206 => ?_)
            rw [nI_clamp (by omega)] at ey206
            obtain rfl : v1 = y206 := hv1.trans ey206.symm
            refine lv_aload_n hx hb dL_law_462 rfl (lv_at hl 0 rfl) ?_
            refine lv_iload hx hb dL_law_463 (lv_at hl 4 rfl) ?_
            refine lv_iconst (v := 2) hx hb dL_law_465 (by decide) ?_
            refine lv_iadd hx hb dL_law_466 ?_
            refine lv_tov (v' := .int (nI (i + 2))) (congrArg Value.int (nI_add i 2)) ?_
            refine va_sld hx hb hX hbl hbA hS (vp_in_nI (by omega) (by omega)) dL_law_467 ?_
            refine lv_topi (fun y207 ey207 => ?_)
            rw [nI_clamp (by omega)] at ey207
            obtain rfl : v2 = y207 := hv2.trans ey207.symm
            refine lv_aload_n hx hb dL_law_468 rfl (lv_at hl 0 rfl) ?_
            refine lv_iload hx hb dL_law_469 (lv_at hl 4 rfl) ?_
            refine lv_iconst (v := 3) hx hb dL_law_471 (by decide) ?_
            refine lv_iadd hx hb dL_law_472 ?_
            refine lv_tov (v' := .int (nI (i + 3))) (congrArg Value.int (nI_add i 3)) ?_
            refine va_sld hx hb hX hbl hbA hS (vp_in_nI (by omega) (by omega)) dL_law_473 ?_
            refine lv_topi (fun y208 ey208 => ?_)
            rw [nI_clamp (by omega)] at ey208
            obtain rfl : v3 = y208 := hv3.trans ey208.symm
            refine lv_aload_n hx hb dL_law_474 rfl (lv_at hl 0 rfl) ?_
            refine lv_iload hx hb dL_law_475 (lv_at hl 4 rfl) ?_
            refine lv_iconst (v := 4) hx hb dL_law_477 (by decide) ?_
            refine lv_iadd hx hb dL_law_478 ?_
            refine lv_tov (v' := .int (nI (i + 4))) (congrArg Value.int (nI_add i 4)) ?_
            refine va_sld hx hb hX hbl hbA hS (vp_in_nI (by omega) (by omega)) dL_law_479 ?_
            refine lv_topi (fun y209 ey209 => ?_)
            rw [nI_clamp (by omega)] at ey209
            obtain rfl : v4 = y209 := hv4.trans ey209.symm
            refine lv_if_eq (tgt := 487) hx hb dL_law_480 (by decide) (fun c9 => absurd c9 c178) (fun _ => ?_)
            refine lv_iconst (v := 1) hx hb dL_law_483 (by decide) ?_
            refine lv_goto (tgt := 488) hx hb dL_law_484 (by decide) ?_
            obtain ⟨⟨rv210, S211⟩, hF212, hq213⟩ := t_copy (d := N 0) (bx := N 1) (rd := N 2) (fe := N 3) (co := N 4) (t := n 1) (bl := n 2) (ms := ml (a 0) (N 8)) hSt v1 v2 v3 1
            refine hvI (As := [.int v1, .int v2, .int v3, .int 1]) (rest := []) ⟨hx, hb, hml, hown, hts0⟩ (zX10_copy l D y cy S _ v1 v2 v3 1 rv210 S211 hF212) (cwV 4 hts0 gL_law_X10_copy rfl rfl rfl (by decide +kernel) ⟨Nat.le_of_ble_eq_true rfl, Nat.le_of_ble_eq_true rfl⟩) hK hP hD hS hA (fun h9 => va_recv hK h9 (ci := 10) (q0 := 0) rfl rfl) rfl hl.1 rfl (Nat.le_of_ble_eq_true rfl) dL_law_488 ⟨by omega, by omega⟩ (fun a214 u215 H locs hw216 hP hD hS => ?_)
            have hP : va_P D vwCl ((OU ao co fo ++ (XW x cy g N201 n202 a203 r204 ++ va_pl L f205)) ++ YW y cy S211) H := hP
            have hD : va_D (fun q9 : Nat => s.heap.size ≤ q9) ((OU ao co fo ++ (XW x cy g N201 n202 a203 r204 ++ va_pl L f205)) ++ YW y cy S211) := hD
            refine lv_tov (v' := .int rv210) (congrArg Value.int hw216.1) ?_
            have hSt : StA (ab N201 n202 a203) S211 := by rw [hab]; exact hq213
            refine lv_pop hx hb dL_law_491 rfl ?_
            refine lv_goto (tgt := 968) hx hb dL_law_492 (by decide) ?_
            refine lv_iinc (v := nI (i + 5)) (lv' := [(4, .int (nI (i + 5))), (0, .ref b), (1, .ref (x 0)), (2, .ref (y 0)), (3, .ref ao)]) hx hb dL_law_968 hl (k := 4) rfl (nI_add i 5) (by decide) rfl (fun ls hl => ?_)
            refine lv_goto (tgt := 23) hx hb dL_law_971 (by decide) ?_
            refine W.widen (k := 300 + (i + 5)) (n := 20000 + 6 * (i + 5)) (by omega) (by omega) ?_
            exact ih (i + 5) (by omega) (by omega) N201 n202 a203 r204 f205 fo S211 hC hSt H _ _ hP hD hS (lv_sub hl [1, 2, 3, 4, 0] rfl)
        by_cases j7 : wd = 7
        · skip
          refine lv_tableIn (tgt := 495) hx hb dL_law_39 (by rw [j7]; decide) (by rw [j7]; decide) (by rw [j7]; rfl) (by decide) ?_
          refine lv_aload_n hx hb dL_law_495 rfl (lv_at hl 1 rfl) ?_
          refine lv_aload_n hx hb dL_law_496 rfl (lv_at hl 0 rfl) ?_
          refine lv_iload hx hb dL_law_497 (lv_at hl 4 rfl) ?_
          refine lv_iconst (v := 1) hx hb dL_law_499 (by decide) ?_
          refine lv_iadd hx hb dL_law_500 ?_
          refine lv_tov (v' := .int (nI (i + 1))) (congrArg Value.int (nI_add i 1)) ?_
          refine va_sld hx hb hX hbl hbA hS (vp_in_nI (by omega) (by omega)) dL_law_501 ?_
          refine lv_topi (fun y217 ey217 => ?_)
          rw [nI_clamp (by omega)] at ey217
          obtain rfl : v1 = y217 := hv1.trans ey217.symm
          refine lv_aload_n hx hb dL_law_502 rfl (lv_at hl 0 rfl) ?_
          refine lv_iload hx hb dL_law_503 (lv_at hl 4 rfl) ?_
          refine lv_iconst (v := 2) hx hb dL_law_505 (by decide) ?_
          refine lv_iadd hx hb dL_law_506 ?_
          refine lv_tov (v' := .int (nI (i + 2))) (congrArg Value.int (nI_add i 2)) ?_
          refine va_sld hx hb hX hbl hbA hS (vp_in_nI (by omega) (by omega)) dL_law_507 ?_
          refine lv_topi (fun y218 ey218 => ?_)
          rw [nI_clamp (by omega)] at ey218
          obtain rfl : v2 = y218 := hv2.trans ey218.symm
          refine mvI (wo := OU ao co fo) (As := [.int v1, .int v2]) (rest := []) ⟨hx, hb, hml, hown, hts0⟩ (zX9_back l D x cy g L K hG N n a r f hC _ v1 v2) (cwV 2 hts0 gL_law_X9_back rfl rfl rfl (by decide +kernel) ⟨Nat.le_of_ble_eq_true rfl, Nat.le_of_ble_eq_true rfl⟩) hK hP hD hS hA (fun h9 => va_recv hK h9 (ci := 9) (q0 := 0) rfl rfl) rfl hl.1 rfl (Nat.le_of_ble_eq_true rfl) dL_law_508 ⟨by omega, by omega⟩ (fun r219 u220 H locs hw221 hP hD hS => ?_)
          obtain ⟨N222, n223, a224, r225, f226⟩ := u220
          obtain ⟨hC, hsm, hmv, -⟩ := hw221
          have hab : ab N222 n223 a224 = ab N n a := ab_SM hsm hmv
          have hP : va_P D vwCl ((OU ao co fo ++ (XW x cy g N222 n223 a224 r225 ++ va_pl L f226)) ++ YW y cy S) H := hP
          have hD : va_D (fun q9 : Nat => s.heap.size ≤ q9) ((OU ao co fo ++ (XW x cy g N222 n223 a224 r225 ++ va_pl L f226)) ++ YW y cy S) := hD
          refine lv_pop hx hb dL_law_511 rfl ?_
          refine lv_aload_n hx hb dL_law_512 rfl (lv_at hl 2 rfl) ?_
          refine lv_aload_n hx hb dL_law_513 rfl (lv_at hl 0 rfl) ?_
          refine lv_iload hx hb dL_law_514 (lv_at hl 4 rfl) ?_
          refine lv_iconst (v := 1) hx hb dL_law_516 (by decide) ?_
          refine lv_iadd hx hb dL_law_517 ?_
          refine lv_tov (v' := .int (nI (i + 1))) (congrArg Value.int (nI_add i 1)) ?_
          refine va_sld hx hb hX hbl hbA hS (vp_in_nI (by omega) (by omega)) dL_law_518 ?_
          refine lv_topi (fun y227 ey227 => ?_)
          rw [nI_clamp (by omega)] at ey227
          obtain rfl : v1 = y227 := hv1.trans ey227.symm
          refine lv_aload_n hx hb dL_law_519 rfl (lv_at hl 0 rfl) ?_
          refine lv_iload hx hb dL_law_520 (lv_at hl 4 rfl) ?_
          refine lv_iconst (v := 2) hx hb dL_law_522 (by decide) ?_
          refine lv_iadd hx hb dL_law_523 ?_
          refine lv_tov (v' := .int (nI (i + 2))) (congrArg Value.int (nI_add i 2)) ?_
          refine va_sld hx hb hX hbl hbA hS (vp_in_nI (by omega) (by omega)) dL_law_524 ?_
          refine lv_topi (fun y228 ey228 => ?_)
          rw [nI_clamp (by omega)] at ey228
          obtain rfl : v2 = y228 := hv2.trans ey228.symm
          obtain ⟨⟨rv229, S230⟩, hF231, hq232⟩ := t_back (d := N 0) (bx := N 1) (rd := N 2) (fe := N 3) (co := N 4) (t := n 1) (bl := n 2) (ms := ml (a 0) (N 8)) hSt v1 v2
          refine hvI (As := [.int v1, .int v2]) (rest := []) ⟨hx, hb, hml, hown, hts0⟩ (zX10_back l D y cy S _ v1 v2 rv229 S230 hF231) (cwV 2 hts0 gL_law_X10_back rfl rfl rfl (by decide +kernel) ⟨Nat.le_of_ble_eq_true rfl, Nat.le_of_ble_eq_true rfl⟩) hK hP hD hS hA (fun h9 => va_recv hK h9 (ci := 10) (q0 := 0) rfl rfl) rfl hl.1 rfl (Nat.le_of_ble_eq_true rfl) dL_law_525 ⟨by omega, by omega⟩ (fun a233 u234 H locs hw235 hP hD hS => ?_)
          have hP : va_P D vwCl ((OU ao co fo ++ (XW x cy g N222 n223 a224 r225 ++ va_pl L f226)) ++ YW y cy S230) H := hP
          have hD : va_D (fun q9 : Nat => s.heap.size ≤ q9) ((OU ao co fo ++ (XW x cy g N222 n223 a224 r225 ++ va_pl L f226)) ++ YW y cy S230) := hD
          refine lv_tov (v' := .int rv229) (congrArg Value.int hw235.1) ?_
          have hSt : StA (ab N222 n223 a224) S230 := by rw [hab]; exact hq232
          refine lv_pop hx hb dL_law_528 rfl ?_
          refine lv_goto (tgt := 968) hx hb dL_law_529 (by decide) ?_
          refine lv_iinc (v := nI (i + 5)) (lv' := [(4, .int (nI (i + 5))), (0, .ref b), (1, .ref (x 0)), (2, .ref (y 0)), (3, .ref ao)]) hx hb dL_law_968 hl (k := 4) rfl (nI_add i 5) (by decide) rfl (fun ls hl => ?_)
          refine lv_goto (tgt := 23) hx hb dL_law_971 (by decide) ?_
          refine W.widen (k := 300 + (i + 5)) (n := 20000 + 6 * (i + 5)) (by omega) (by omega) ?_
          exact ih (i + 5) (by omega) (by omega) N222 n223 a224 r225 f226 fo S230 hC hSt H _ _ hP hD hS (lv_sub hl [1, 2, 3, 4, 0] rfl)
        by_cases j8 : wd = 8
        · skip
          refine lv_tableIn (tgt := 532) hx hb dL_law_39 (by rw [j8]; decide) (by rw [j8]; decide) (by rw [j8]; rfl) (by decide) ?_
          refine lv_aload_n hx hb dL_law_532 rfl (lv_at hl 1 rfl) ?_
          refine lv_aload_n hx hb dL_law_533 rfl (lv_at hl 0 rfl) ?_
          refine lv_iload hx hb dL_law_534 (lv_at hl 4 rfl) ?_
          refine lv_iconst (v := 1) hx hb dL_law_536 (by decide) ?_
          refine lv_iadd hx hb dL_law_537 ?_
          refine lv_tov (v' := .int (nI (i + 1))) (congrArg Value.int (nI_add i 1)) ?_
          refine va_sld hx hb hX hbl hbA hS (vp_in_nI (by omega) (by omega)) dL_law_538 ?_
          refine lv_topi (fun y236 ey236 => ?_)
          rw [nI_clamp (by omega)] at ey236
          obtain rfl : v1 = y236 := hv1.trans ey236.symm
          refine mvI (wo := OU ao co fo) (As := [.int v1]) (rest := []) ⟨hx, hb, hml, hown, hts0⟩ (zX9_bell l D x cy g L K hG N n a r f hC _ v1) (cwV 1 hts0 gL_law_X9_bell rfl rfl rfl (by decide +kernel) ⟨Nat.le_of_ble_eq_true rfl, Nat.le_of_ble_eq_true rfl⟩) hK hP hD hS hA (fun h9 => va_recv hK h9 (ci := 9) (q0 := 0) rfl rfl) rfl hl.1 rfl (Nat.le_of_ble_eq_true rfl) dL_law_539 ⟨by omega, by omega⟩ (fun r237 u238 H locs hw239 hP hD hS => ?_)
          obtain ⟨N240, n241, a242, r243, f244⟩ := u238
          obtain ⟨hC, hsp⟩ := hw239
          have hP : va_P D vwCl ((OU ao co fo ++ (XW x cy g N240 n241 a242 r243 ++ va_pl L f244)) ++ YW y cy S) H := hP
          have hD : va_D (fun q9 : Nat => s.heap.size ≤ q9) ((OU ao co fo ++ (XW x cy g N240 n241 a242 r243 ++ va_pl L f244)) ++ YW y cy S) := hD
          refine lv_pop hx hb dL_law_542 rfl ?_
          refine lv_aload_n hx hb dL_law_543 rfl (lv_at hl 2 rfl) ?_
          refine lv_aload_n hx hb dL_law_544 rfl (lv_at hl 0 rfl) ?_
          refine lv_iload hx hb dL_law_545 (lv_at hl 4 rfl) ?_
          refine lv_iconst (v := 1) hx hb dL_law_547 (by decide) ?_
          refine lv_iadd hx hb dL_law_548 ?_
          refine lv_tov (v' := .int (nI (i + 1))) (congrArg Value.int (nI_add i 1)) ?_
          refine va_sld hx hb hX hbl hbA hS (vp_in_nI (by omega) (by omega)) dL_law_549 ?_
          refine lv_topi (fun y245 ey245 => ?_)
          rw [nI_clamp (by omega)] at ey245
          obtain rfl : v1 = y245 := hv1.trans ey245.symm
          obtain ⟨⟨rv246, S247⟩, hF248, hq249⟩ := t_bell (d := N 0) (bx := N 1) (rd := N 2) (fe := N 3) (co := N 4) (t := n 1) (bl := n 2) (ms := ml (a 0) (N 8)) hSt v1
          refine hvI (As := [.int v1]) (rest := []) ⟨hx, hb, hml, hown, hts0⟩ (zX10_bell l D y cy S _ v1 rv246 S247 hF248) (cwV 1 hts0 gL_law_X10_bell rfl rfl rfl (by decide +kernel) ⟨Nat.le_of_ble_eq_true rfl, Nat.le_of_ble_eq_true rfl⟩) hK hP hD hS hA (fun h9 => va_recv hK h9 (ci := 10) (q0 := 0) rfl rfl) rfl hl.1 rfl (Nat.le_of_ble_eq_true rfl) dL_law_550 ⟨by omega, by omega⟩ (fun a250 u251 H locs hw252 hP hD hS => ?_)
          have hP : va_P D vwCl ((OU ao co fo ++ (XW x cy g N240 n241 a242 r243 ++ va_pl L f244)) ++ YW y cy S247) H := hP
          have hD : va_D (fun q9 : Nat => s.heap.size ≤ q9) ((OU ao co fo ++ (XW x cy g N240 n241 a242 r243 ++ va_pl L f244)) ++ YW y cy S247) := hD
          refine lv_tov (v' := .int rv246) (congrArg Value.int hw252.1) ?_
          obtain ⟨s9, hs9, hSt⟩ := hq249
          obtain ⟨e1, e2⟩ := Prod.mk.inj (hs9.trans hsp.symm)
          have hSt : StA (ab N240 n241 a242) S247 := by rw [e2] at hSt; exact hSt
          refine lv_pop hx hb dL_law_553 rfl ?_
          refine lv_goto (tgt := 968) hx hb dL_law_554 (by decide) ?_
          refine lv_iinc (v := nI (i + 5)) (lv' := [(4, .int (nI (i + 5))), (0, .ref b), (1, .ref (x 0)), (2, .ref (y 0)), (3, .ref ao)]) hx hb dL_law_968 hl (k := 4) rfl (nI_add i 5) (by decide) rfl (fun ls hl => ?_)
          refine lv_goto (tgt := 23) hx hb dL_law_971 (by decide) ?_
          refine W.widen (k := 300 + (i + 5)) (n := 20000 + 6 * (i + 5)) (by omega) (by omega) ?_
          exact ih (i + 5) (by omega) (by omega) N240 n241 a242 r243 f244 fo S247 hC hSt H _ _ hP hD hS (lv_sub hl [1, 2, 3, 4, 0] rfl)
        by_cases j9 : wd = 9
        · skip
          refine lv_tableIn (tgt := 557) hx hb dL_law_39 (by rw [j9]; decide) (by rw [j9]; decide) (by rw [j9]; rfl) (by decide) ?_
          refine lv_aload_n hx hb dL_law_557 rfl (lv_at hl 1 rfl) ?_
          refine lv_aload_n hx hb dL_law_558 rfl (lv_at hl 0 rfl) ?_
          refine lv_iload hx hb dL_law_559 (lv_at hl 4 rfl) ?_
          refine lv_iconst (v := 1) hx hb dL_law_561 (by decide) ?_
          refine lv_iadd hx hb dL_law_562 ?_
          refine lv_tov (v' := .int (nI (i + 1))) (congrArg Value.int (nI_add i 1)) ?_
          refine va_sld hx hb hX hbl hbA hS (vp_in_nI (by omega) (by omega)) dL_law_563 ?_
          refine lv_topi (fun y253 ey253 => ?_)
          rw [nI_clamp (by omega)] at ey253
          obtain rfl : v1 = y253 := hv1.trans ey253.symm
          refine lv_aload_n hx hb dL_law_564 rfl (lv_at hl 0 rfl) ?_
          refine lv_iload hx hb dL_law_565 (lv_at hl 4 rfl) ?_
          refine lv_iconst (v := 2) hx hb dL_law_567 (by decide) ?_
          refine lv_iadd hx hb dL_law_568 ?_
          refine lv_tov (v' := .int (nI (i + 2))) (congrArg Value.int (nI_add i 2)) ?_
          refine va_sld hx hb hX hbl hbA hS (vp_in_nI (by omega) (by omega)) dL_law_569 ?_
          refine lv_topi (fun y254 ey254 => ?_)
          rw [nI_clamp (by omega)] at ey254
          obtain rfl : v2 = y254 := hv2.trans ey254.symm
          refine lv_aload_n hx hb dL_law_570 rfl (lv_at hl 0 rfl) ?_
          refine lv_iload hx hb dL_law_571 (lv_at hl 4 rfl) ?_
          refine lv_iconst (v := 3) hx hb dL_law_573 (by decide) ?_
          refine lv_iadd hx hb dL_law_574 ?_
          refine lv_tov (v' := .int (nI (i + 3))) (congrArg Value.int (nI_add i 3)) ?_
          refine va_sld hx hb hX hbl hbA hS (vp_in_nI (by omega) (by omega)) dL_law_575 ?_
          refine lv_topi (fun y255 ey255 => ?_)
          rw [nI_clamp (by omega)] at ey255
          obtain rfl : v3 = y255 := hv3.trans ey255.symm
          refine mvI (wo := OU ao co fo) (As := [.int v1, .int v2, .int v3]) (rest := []) ⟨hx, hb, hml, hown, hts0⟩ (zX9_mishap l D x cy g L K hG N n a r f hC _ v1 v2 v3) (cwV 3 hts0 gL_law_X9_mishap rfl rfl rfl (by decide +kernel) ⟨Nat.le_of_ble_eq_true rfl, Nat.le_of_ble_eq_true rfl⟩) hK hP hD hS hA (fun h9 => va_recv hK h9 (ci := 9) (q0 := 0) rfl rfl) rfl hl.1 rfl (Nat.le_of_ble_eq_true rfl) dL_law_576 ⟨by omega, by omega⟩ (fun r256 u257 H locs hw258 hP hD hS => ?_)
          obtain ⟨N259, n260, a261, r262, f263⟩ := u257
          obtain ⟨hC, hsp⟩ := hw258
          have hP : va_P D vwCl ((OU ao co fo ++ (XW x cy g N259 n260 a261 r262 ++ va_pl L f263)) ++ YW y cy S) H := hP
          have hD : va_D (fun q9 : Nat => s.heap.size ≤ q9) ((OU ao co fo ++ (XW x cy g N259 n260 a261 r262 ++ va_pl L f263)) ++ YW y cy S) := hD
          refine lv_pop hx hb dL_law_579 rfl ?_
          refine lv_aload_n hx hb dL_law_580 rfl (lv_at hl 2 rfl) ?_
          refine lv_aload_n hx hb dL_law_581 rfl (lv_at hl 0 rfl) ?_
          refine lv_iload hx hb dL_law_582 (lv_at hl 4 rfl) ?_
          refine lv_iconst (v := 1) hx hb dL_law_584 (by decide) ?_
          refine lv_iadd hx hb dL_law_585 ?_
          refine lv_tov (v' := .int (nI (i + 1))) (congrArg Value.int (nI_add i 1)) ?_
          refine va_sld hx hb hX hbl hbA hS (vp_in_nI (by omega) (by omega)) dL_law_586 ?_
          refine lv_topi (fun y264 ey264 => ?_)
          rw [nI_clamp (by omega)] at ey264
          obtain rfl : v1 = y264 := hv1.trans ey264.symm
          refine lv_aload_n hx hb dL_law_587 rfl (lv_at hl 0 rfl) ?_
          refine lv_iload hx hb dL_law_588 (lv_at hl 4 rfl) ?_
          refine lv_iconst (v := 2) hx hb dL_law_590 (by decide) ?_
          refine lv_iadd hx hb dL_law_591 ?_
          refine lv_tov (v' := .int (nI (i + 2))) (congrArg Value.int (nI_add i 2)) ?_
          refine va_sld hx hb hX hbl hbA hS (vp_in_nI (by omega) (by omega)) dL_law_592 ?_
          refine lv_topi (fun y265 ey265 => ?_)
          rw [nI_clamp (by omega)] at ey265
          obtain rfl : v2 = y265 := hv2.trans ey265.symm
          refine lv_aload_n hx hb dL_law_593 rfl (lv_at hl 0 rfl) ?_
          refine lv_iload hx hb dL_law_594 (lv_at hl 4 rfl) ?_
          refine lv_iconst (v := 3) hx hb dL_law_596 (by decide) ?_
          refine lv_iadd hx hb dL_law_597 ?_
          refine lv_tov (v' := .int (nI (i + 3))) (congrArg Value.int (nI_add i 3)) ?_
          refine va_sld hx hb hX hbl hbA hS (vp_in_nI (by omega) (by omega)) dL_law_598 ?_
          refine lv_topi (fun y266 ey266 => ?_)
          rw [nI_clamp (by omega)] at ey266
          obtain rfl : v3 = y266 := hv3.trans ey266.symm
          obtain ⟨⟨rv267, S268⟩, hF269, hq270⟩ := t_mishap (d := N 0) (bx := N 1) (rd := N 2) (fe := N 3) (co := N 4) (t := n 1) (bl := n 2) (ms := ml (a 0) (N 8)) hSt v1 v2 v3
          refine hvI (As := [.int v1, .int v2, .int v3]) (rest := []) ⟨hx, hb, hml, hown, hts0⟩ (zX10_mishap l D y cy S _ v1 v2 v3 rv267 S268 hF269) (cwV 3 hts0 gL_law_X10_mishap rfl rfl rfl (by decide +kernel) ⟨Nat.le_of_ble_eq_true rfl, Nat.le_of_ble_eq_true rfl⟩) hK hP hD hS hA (fun h9 => va_recv hK h9 (ci := 10) (q0 := 0) rfl rfl) rfl hl.1 rfl (Nat.le_of_ble_eq_true rfl) dL_law_599 ⟨by omega, by omega⟩ (fun a271 u272 H locs hw273 hP hD hS => ?_)
          have hP : va_P D vwCl ((OU ao co fo ++ (XW x cy g N259 n260 a261 r262 ++ va_pl L f263)) ++ YW y cy S268) H := hP
          have hD : va_D (fun q9 : Nat => s.heap.size ≤ q9) ((OU ao co fo ++ (XW x cy g N259 n260 a261 r262 ++ va_pl L f263)) ++ YW y cy S268) := hD
          refine lv_tov (v' := .int rv267) (congrArg Value.int hw273.1) ?_
          obtain ⟨s9, hs9, hSt⟩ := hq270
          obtain ⟨e1, e2⟩ := Prod.mk.inj (hs9.trans hsp.symm)
          have hSt : StA (ab N259 n260 a261) S268 := by rw [e2] at hSt; exact hSt
          refine lv_pop hx hb dL_law_602 rfl ?_
          refine lv_goto (tgt := 968) hx hb dL_law_603 (by decide) ?_
          refine lv_iinc (v := nI (i + 5)) (lv' := [(4, .int (nI (i + 5))), (0, .ref b), (1, .ref (x 0)), (2, .ref (y 0)), (3, .ref ao)]) hx hb dL_law_968 hl (k := 4) rfl (nI_add i 5) (by decide) rfl (fun ls hl => ?_)
          refine lv_goto (tgt := 23) hx hb dL_law_971 (by decide) ?_
          refine W.widen (k := 300 + (i + 5)) (n := 20000 + 6 * (i + 5)) (by omega) (by omega) ?_
          exact ih (i + 5) (by omega) (by omega) N259 n260 a261 r262 f263 fo S268 hC hSt H _ _ hP hD hS (lv_sub hl [1, 2, 3, 4, 0] rfl)
        by_cases j10 : wd = 10
        · skip
          refine lv_tableIn (tgt := 606) hx hb dL_law_39 (by rw [j10]; decide) (by rw [j10]; decide) (by rw [j10]; rfl) (by decide) ?_
          refine lv_aload_n hx hb dL_law_606 rfl (lv_at hl 1 rfl) ?_
          refine lv_aload_n hx hb dL_law_607 rfl (lv_at hl 0 rfl) ?_
          refine lv_iload hx hb dL_law_608 (lv_at hl 4 rfl) ?_
          refine lv_iconst (v := 1) hx hb dL_law_610 (by decide) ?_
          refine lv_iadd hx hb dL_law_611 ?_
          refine lv_tov (v' := .int (nI (i + 1))) (congrArg Value.int (nI_add i 1)) ?_
          refine va_sld hx hb hX hbl hbA hS (vp_in_nI (by omega) (by omega)) dL_law_612 ?_
          refine lv_topi (fun y274 ey274 => ?_)
          rw [nI_clamp (by omega)] at ey274
          obtain rfl : v1 = y274 := hv1.trans ey274.symm
          refine mvI (wo := OU ao co fo) (As := [.int v1]) (rest := []) ⟨hx, hb, hml, hown, hts0⟩ (zX9_run l D x cy g L K hG N n a r f hC _ v1) (cwV 1 hts0 gL_law_X9_run rfl rfl rfl (by decide +kernel) ⟨Nat.le_of_ble_eq_true rfl, Nat.le_of_ble_eq_true rfl⟩) hK hP hD hS hA (fun h9 => va_recv hK h9 (ci := 9) (q0 := 0) rfl rfl) rfl hl.1 rfl (Nat.le_of_ble_eq_true rfl) dL_law_613 ⟨by omega, by omega⟩ (fun r275 u276 H locs hw277 hP hD hS => ?_)
          obtain ⟨N278, n279, a280, r281, f282⟩ := u276
          obtain ⟨hC, hsp⟩ := hw277
          have hP : va_P D vwCl ((OU ao co fo ++ (XW x cy g N278 n279 a280 r281 ++ va_pl L f282)) ++ YW y cy S) H := hP
          have hD : va_D (fun q9 : Nat => s.heap.size ≤ q9) ((OU ao co fo ++ (XW x cy g N278 n279 a280 r281 ++ va_pl L f282)) ++ YW y cy S) := hD
          refine lv_pop hx hb dL_law_616 rfl ?_
          refine lv_aload_n hx hb dL_law_617 rfl (lv_at hl 2 rfl) ?_
          refine lv_aload_n hx hb dL_law_618 rfl (lv_at hl 0 rfl) ?_
          refine lv_iload hx hb dL_law_619 (lv_at hl 4 rfl) ?_
          refine lv_iconst (v := 1) hx hb dL_law_621 (by decide) ?_
          refine lv_iadd hx hb dL_law_622 ?_
          refine lv_tov (v' := .int (nI (i + 1))) (congrArg Value.int (nI_add i 1)) ?_
          refine va_sld hx hb hX hbl hbA hS (vp_in_nI (by omega) (by omega)) dL_law_623 ?_
          refine lv_topi (fun y283 ey283 => ?_)
          rw [nI_clamp (by omega)] at ey283
          obtain rfl : v1 = y283 := hv1.trans ey283.symm
          obtain ⟨⟨rv284, S285⟩, hF286, hq287⟩ := t_run (d := N 0) (bx := N 1) (rd := N 2) (fe := N 3) (co := N 4) (t := n 1) (bl := n 2) (ms := ml (a 0) (N 8)) hSt v1
          refine hvI (As := [.int v1]) (rest := []) ⟨hx, hb, hml, hown, hts0⟩ (zX10_run l D y cy S _ v1 rv284 S285 hF286) (cwV 1 hts0 gL_law_X10_run rfl rfl rfl (by decide +kernel) ⟨Nat.le_of_ble_eq_true rfl, Nat.le_of_ble_eq_true rfl⟩) hK hP hD hS hA (fun h9 => va_recv hK h9 (ci := 10) (q0 := 0) rfl rfl) rfl hl.1 rfl (Nat.le_of_ble_eq_true rfl) dL_law_624 ⟨by omega, by omega⟩ (fun a288 u289 H locs hw290 hP hD hS => ?_)
          have hP : va_P D vwCl ((OU ao co fo ++ (XW x cy g N278 n279 a280 r281 ++ va_pl L f282)) ++ YW y cy S285) H := hP
          have hD : va_D (fun q9 : Nat => s.heap.size ≤ q9) ((OU ao co fo ++ (XW x cy g N278 n279 a280 r281 ++ va_pl L f282)) ++ YW y cy S285) := hD
          refine lv_tov (v' := .int rv284) (congrArg Value.int hw290) ?_
          obtain ⟨s9, hs9, hSt⟩ := hq287
          obtain ⟨e1, e2⟩ := Prod.mk.inj (hs9.trans hsp.symm)
          have hSt : StA (ab N278 n279 a280) S285 := by rw [e2] at hSt; exact hSt
          refine lv_pop hx hb dL_law_627 rfl ?_
          refine lv_goto (tgt := 968) hx hb dL_law_628 (by decide) ?_
          refine lv_iinc (v := nI (i + 5)) (lv' := [(4, .int (nI (i + 5))), (0, .ref b), (1, .ref (x 0)), (2, .ref (y 0)), (3, .ref ao)]) hx hb dL_law_968 hl (k := 4) rfl (nI_add i 5) (by decide) rfl (fun ls hl => ?_)
          refine lv_goto (tgt := 23) hx hb dL_law_971 (by decide) ?_
          refine W.widen (k := 300 + (i + 5)) (n := 20000 + 6 * (i + 5)) (by omega) (by omega) ?_
          exact ih (i + 5) (by omega) (by omega) N278 n279 a280 r281 f282 fo S285 hC hSt H _ _ hP hD hS (lv_sub hl [1, 2, 3, 4, 0] rfl)
        by_cases j11 : wd = 11
        · skip
          refine lv_tableIn (tgt := 631) hx hb dL_law_39 (by rw [j11]; decide) (by rw [j11]; decide) (by rw [j11]; rfl) (by decide) ?_
          refine lv_aload_n hx hb dL_law_631 rfl (lv_at hl 1 rfl) ?_
          refine lv_aload_n hx hb dL_law_632 rfl (lv_at hl 0 rfl) ?_
          refine lv_iload hx hb dL_law_633 (lv_at hl 4 rfl) ?_
          refine lv_iconst (v := 1) hx hb dL_law_635 (by decide) ?_
          refine lv_iadd hx hb dL_law_636 ?_
          refine lv_tov (v' := .int (nI (i + 1))) (congrArg Value.int (nI_add i 1)) ?_
          refine va_sld hx hb hX hbl hbA hS (vp_in_nI (by omega) (by omega)) dL_law_637 ?_
          refine lv_topi (fun y291 ey291 => ?_)
          rw [nI_clamp (by omega)] at ey291
          obtain rfl : v1 = y291 := hv1.trans ey291.symm
          refine lv_aload_n hx hb dL_law_638 rfl (lv_at hl 0 rfl) ?_
          refine lv_iload hx hb dL_law_639 (lv_at hl 4 rfl) ?_
          refine lv_iconst (v := 2) hx hb dL_law_641 (by decide) ?_
          refine lv_iadd hx hb dL_law_642 ?_
          refine lv_tov (v' := .int (nI (i + 2))) (congrArg Value.int (nI_add i 2)) ?_
          refine va_sld hx hb hX hbl hbA hS (vp_in_nI (by omega) (by omega)) dL_law_643 ?_
          refine lv_topi (fun y292 ey292 => ?_)
          rw [nI_clamp (by omega)] at ey292
          obtain rfl : v2 = y292 := hv2.trans ey292.symm
          refine mvI (wo := OU ao co fo) (As := [.int v1, .int v2]) (rest := []) ⟨hx, hb, hml, hown, hts0⟩ (zX9_about l D x cy g L K hG N n a r f hC _ v1 v2) (cwV 2 hts0 gL_law_X9_about rfl rfl rfl (by decide +kernel) ⟨Nat.le_of_ble_eq_true rfl, Nat.le_of_ble_eq_true rfl⟩) hK hP hD hS hA (fun h9 => va_recv hK h9 (ci := 9) (q0 := 0) rfl rfl) rfl hl.1 rfl (Nat.le_of_ble_eq_true rfl) dL_law_644 ⟨by omega, by omega⟩ (fun r293 u294 H locs hw295 hP hD hS => ?_)
          have hP : va_P D vwCl ((OU ao co fo ++ (XW x cy g N n a r ++ va_pl L f)) ++ YW y cy S) H := hP
          have hD : va_D (fun q9 : Nat => s.heap.size ≤ q9) ((OU ao co fo ++ (XW x cy g N n a r ++ va_pl L f)) ++ YW y cy S) := hD
          refine lv_pop hx hb dL_law_647 rfl ?_
          refine lv_aload_n hx hb dL_law_648 rfl (lv_at hl 2 rfl) ?_
          refine lv_aload_n hx hb dL_law_649 rfl (lv_at hl 0 rfl) ?_
          refine lv_iload hx hb dL_law_650 (lv_at hl 4 rfl) ?_
          refine lv_iconst (v := 1) hx hb dL_law_652 (by decide) ?_
          refine lv_iadd hx hb dL_law_653 ?_
          refine lv_tov (v' := .int (nI (i + 1))) (congrArg Value.int (nI_add i 1)) ?_
          refine va_sld hx hb hX hbl hbA hS (vp_in_nI (by omega) (by omega)) dL_law_654 ?_
          refine lv_topi (fun y296 ey296 => ?_)
          rw [nI_clamp (by omega)] at ey296
          obtain rfl : v1 = y296 := hv1.trans ey296.symm
          refine lv_aload_n hx hb dL_law_655 rfl (lv_at hl 0 rfl) ?_
          refine lv_iload hx hb dL_law_656 (lv_at hl 4 rfl) ?_
          refine lv_iconst (v := 2) hx hb dL_law_658 (by decide) ?_
          refine lv_iadd hx hb dL_law_659 ?_
          refine lv_tov (v' := .int (nI (i + 2))) (congrArg Value.int (nI_add i 2)) ?_
          refine va_sld hx hb hX hbl hbA hS (vp_in_nI (by omega) (by omega)) dL_law_660 ?_
          refine lv_topi (fun y297 ey297 => ?_)
          rw [nI_clamp (by omega)] at ey297
          obtain rfl : v2 = y297 := hv2.trans ey297.symm
          obtain ⟨⟨rv298, S299⟩, hF300, hq301⟩ := t_about (d := N 0) (bx := N 1) (rd := N 2) (fe := N 3) (co := N 4) (t := n 1) (bl := n 2) (ms := ml (a 0) (N 8)) hSt v1 v2
          refine hvI (As := [.int v1, .int v2]) (rest := []) ⟨hx, hb, hml, hown, hts0⟩ (zX10_about l D y cy S _ v1 v2 rv298 S299 hF300) (cwV 2 hts0 gL_law_X10_about rfl rfl rfl (by decide +kernel) ⟨Nat.le_of_ble_eq_true rfl, Nat.le_of_ble_eq_true rfl⟩) hK hP hD hS hA (fun h9 => va_recv hK h9 (ci := 10) (q0 := 0) rfl rfl) rfl hl.1 rfl (Nat.le_of_ble_eq_true rfl) dL_law_661 ⟨by omega, by omega⟩ (fun a302 u303 H locs hw304 hP hD hS => ?_)
          have hP : va_P D vwCl ((OU ao co fo ++ (XW x cy g N n a r ++ va_pl L f)) ++ YW y cy S299) H := hP
          have hD : va_D (fun q9 : Nat => s.heap.size ≤ q9) ((OU ao co fo ++ (XW x cy g N n a r ++ va_pl L f)) ++ YW y cy S299) := hD
          refine lv_tov (v' := .int rv298) (congrArg Value.int hw304) ?_
          have hSt : StA (ab N n a) S299 := hq301
          refine lv_pop hx hb dL_law_664 rfl ?_
          refine lv_goto (tgt := 968) hx hb dL_law_665 (by decide) ?_
          refine lv_iinc (v := nI (i + 5)) (lv' := [(4, .int (nI (i + 5))), (0, .ref b), (1, .ref (x 0)), (2, .ref (y 0)), (3, .ref ao)]) hx hb dL_law_968 hl (k := 4) rfl (nI_add i 5) (by decide) rfl (fun ls hl => ?_)
          refine lv_goto (tgt := 23) hx hb dL_law_971 (by decide) ?_
          refine W.widen (k := 300 + (i + 5)) (n := 20000 + 6 * (i + 5)) (by omega) (by omega) ?_
          exact ih (i + 5) (by omega) (by omega) N n a r f fo S299 hC hSt H _ _ hP hD hS (lv_sub hl [1, 2, 3, 4, 0] rfl)
        by_cases j12 : wd = 12
        · skip
          refine lv_tableIn (tgt := 668) hx hb dL_law_39 (by rw [j12]; decide) (by rw [j12]; decide) (by rw [j12]; rfl) (by decide) ?_
          refine lv_aload_n hx hb dL_law_668 rfl (lv_at hl 1 rfl) ?_
          refine lv_aload_n hx hb dL_law_669 rfl (lv_at hl 0 rfl) ?_
          refine lv_iload hx hb dL_law_670 (lv_at hl 4 rfl) ?_
          refine lv_iconst (v := 1) hx hb dL_law_672 (by decide) ?_
          refine lv_iadd hx hb dL_law_673 ?_
          refine lv_tov (v' := .int (nI (i + 1))) (congrArg Value.int (nI_add i 1)) ?_
          refine va_sld hx hb hX hbl hbA hS (vp_in_nI (by omega) (by omega)) dL_law_674 ?_
          refine lv_topi (fun y305 ey305 => ?_)
          rw [nI_clamp (by omega)] at ey305
          obtain rfl : v1 = y305 := hv1.trans ey305.symm
          refine lv_aload_n hx hb dL_law_675 rfl (lv_at hl 0 rfl) ?_
          refine lv_iload hx hb dL_law_676 (lv_at hl 4 rfl) ?_
          refine lv_iconst (v := 2) hx hb dL_law_678 (by decide) ?_
          refine lv_iadd hx hb dL_law_679 ?_
          refine lv_tov (v' := .int (nI (i + 2))) (congrArg Value.int (nI_add i 2)) ?_
          refine va_sld hx hb hX hbl hbA hS (vp_in_nI (by omega) (by omega)) dL_law_680 ?_
          refine lv_topi (fun y306 ey306 => ?_)
          rw [nI_clamp (by omega)] at ey306
          obtain rfl : v2 = y306 := hv2.trans ey306.symm
          refine mvI (wo := OU ao co fo) (As := [.int v1, .int v2]) (rest := []) ⟨hx, hb, hml, hown, hts0⟩ (zX9_held l D x cy g L K hG N n a r f hC _ v1 v2) (cwV 2 hts0 gL_law_X9_held rfl rfl rfl (by decide +kernel) ⟨Nat.le_of_ble_eq_true rfl, Nat.le_of_ble_eq_true rfl⟩) hK hP hD hS hA (fun h9 => va_recv hK h9 (ci := 9) (q0 := 0) rfl rfl) rfl hl.1 rfl (Nat.le_of_ble_eq_true rfl) dL_law_681 ⟨by omega, by omega⟩ (fun r307 u308 H locs hw309 hP hD hS => ?_)
          have hP : va_P D vwCl ((OU ao co fo ++ (XW x cy g N n a r ++ va_pl L f)) ++ YW y cy S) H := hP
          have hD : va_D (fun q9 : Nat => s.heap.size ≤ q9) ((OU ao co fo ++ (XW x cy g N n a r ++ va_pl L f)) ++ YW y cy S) := hD
          refine lv_pop hx hb dL_law_684 rfl ?_
          refine lv_aload_n hx hb dL_law_685 rfl (lv_at hl 2 rfl) ?_
          refine lv_aload_n hx hb dL_law_686 rfl (lv_at hl 0 rfl) ?_
          refine lv_iload hx hb dL_law_687 (lv_at hl 4 rfl) ?_
          refine lv_iconst (v := 1) hx hb dL_law_689 (by decide) ?_
          refine lv_iadd hx hb dL_law_690 ?_
          refine lv_tov (v' := .int (nI (i + 1))) (congrArg Value.int (nI_add i 1)) ?_
          refine va_sld hx hb hX hbl hbA hS (vp_in_nI (by omega) (by omega)) dL_law_691 ?_
          refine lv_topi (fun y310 ey310 => ?_)
          rw [nI_clamp (by omega)] at ey310
          obtain rfl : v1 = y310 := hv1.trans ey310.symm
          refine lv_aload_n hx hb dL_law_692 rfl (lv_at hl 0 rfl) ?_
          refine lv_iload hx hb dL_law_693 (lv_at hl 4 rfl) ?_
          refine lv_iconst (v := 2) hx hb dL_law_695 (by decide) ?_
          refine lv_iadd hx hb dL_law_696 ?_
          refine lv_tov (v' := .int (nI (i + 2))) (congrArg Value.int (nI_add i 2)) ?_
          refine va_sld hx hb hX hbl hbA hS (vp_in_nI (by omega) (by omega)) dL_law_697 ?_
          refine lv_topi (fun y311 ey311 => ?_)
          rw [nI_clamp (by omega)] at ey311
          obtain rfl : v2 = y311 := hv2.trans ey311.symm
          obtain ⟨⟨rv312, S313⟩, hF314, hq315⟩ := t_held (d := N 0) (bx := N 1) (rd := N 2) (fe := N 3) (co := N 4) (t := n 1) (bl := n 2) (ms := ml (a 0) (N 8)) hSt v1 v2
          refine hvI (As := [.int v1, .int v2]) (rest := []) ⟨hx, hb, hml, hown, hts0⟩ (zX10_held l D y cy S _ v1 v2 rv312 S313 hF314) (cwV 2 hts0 gL_law_X10_held rfl rfl rfl (by decide +kernel) ⟨Nat.le_of_ble_eq_true rfl, Nat.le_of_ble_eq_true rfl⟩) hK hP hD hS hA (fun h9 => va_recv hK h9 (ci := 10) (q0 := 0) rfl rfl) rfl hl.1 rfl (Nat.le_of_ble_eq_true rfl) dL_law_698 ⟨by omega, by omega⟩ (fun a316 u317 H locs hw318 hP hD hS => ?_)
          have hP : va_P D vwCl ((OU ao co fo ++ (XW x cy g N n a r ++ va_pl L f)) ++ YW y cy S313) H := hP
          have hD : va_D (fun q9 : Nat => s.heap.size ≤ q9) ((OU ao co fo ++ (XW x cy g N n a r ++ va_pl L f)) ++ YW y cy S313) := hD
          refine lv_tov (v' := .int rv312) (congrArg Value.int hw318) ?_
          have hSt : StA (ab N n a) S313 := hq315
          refine lv_pop hx hb dL_law_701 rfl ?_
          refine lv_goto (tgt := 968) hx hb dL_law_702 (by decide) ?_
          refine lv_iinc (v := nI (i + 5)) (lv' := [(4, .int (nI (i + 5))), (0, .ref b), (1, .ref (x 0)), (2, .ref (y 0)), (3, .ref ao)]) hx hb dL_law_968 hl (k := 4) rfl (nI_add i 5) (by decide) rfl (fun ls hl => ?_)
          refine lv_goto (tgt := 23) hx hb dL_law_971 (by decide) ?_
          refine W.widen (k := 300 + (i + 5)) (n := 20000 + 6 * (i + 5)) (by omega) (by omega) ?_
          exact ih (i + 5) (by omega) (by omega) N n a r f fo S313 hC hSt H _ _ hP hD hS (lv_sub hl [1, 2, 3, 4, 0] rfl)
        by_cases j13 : wd = 13
        · skip
          refine lv_tableIn (tgt := 705) hx hb dL_law_39 (by rw [j13]; decide) (by rw [j13]; decide) (by rw [j13]; rfl) (by decide) ?_
          refine lv_aload_n hx hb dL_law_705 rfl (lv_at hl 1 rfl) ?_
          refine lv_aload_n hx hb dL_law_706 rfl (lv_at hl 0 rfl) ?_
          refine lv_iload hx hb dL_law_707 (lv_at hl 4 rfl) ?_
          refine lv_iconst (v := 1) hx hb dL_law_709 (by decide) ?_
          refine lv_iadd hx hb dL_law_710 ?_
          refine lv_tov (v' := .int (nI (i + 1))) (congrArg Value.int (nI_add i 1)) ?_
          refine va_sld hx hb hX hbl hbA hS (vp_in_nI (by omega) (by omega)) dL_law_711 ?_
          refine lv_topi (fun y319 ey319 => ?_)
          rw [nI_clamp (by omega)] at ey319
          obtain rfl : v1 = y319 := hv1.trans ey319.symm
          refine lv_aload_n hx hb dL_law_712 rfl (lv_at hl 0 rfl) ?_
          refine lv_iload hx hb dL_law_713 (lv_at hl 4 rfl) ?_
          refine lv_iconst (v := 2) hx hb dL_law_715 (by decide) ?_
          refine lv_iadd hx hb dL_law_716 ?_
          refine lv_tov (v' := .int (nI (i + 2))) (congrArg Value.int (nI_add i 2)) ?_
          refine va_sld hx hb hX hbl hbA hS (vp_in_nI (by omega) (by omega)) dL_law_717 ?_
          refine lv_topi (fun y320 ey320 => ?_)
          rw [nI_clamp (by omega)] at ey320
          obtain rfl : v2 = y320 := hv2.trans ey320.symm
          refine mvI (wo := OU ao co fo) (As := [.int v1, .int v2]) (rest := []) ⟨hx, hb, hml, hown, hts0⟩ (zX9_refused l D x cy g L K hG N n a r f hC _ v1 v2) (cwV 2 hts0 gL_law_X9_refused rfl rfl rfl (by decide +kernel) ⟨Nat.le_of_ble_eq_true rfl, Nat.le_of_ble_eq_true rfl⟩) hK hP hD hS hA (fun h9 => va_recv hK h9 (ci := 9) (q0 := 0) rfl rfl) rfl hl.1 rfl (Nat.le_of_ble_eq_true rfl) dL_law_718 ⟨by omega, by omega⟩ (fun r321 u322 H locs hw323 hP hD hS => ?_)
          have hP : va_P D vwCl ((OU ao co fo ++ (XW x cy g N n a r ++ va_pl L f)) ++ YW y cy S) H := hP
          have hD : va_D (fun q9 : Nat => s.heap.size ≤ q9) ((OU ao co fo ++ (XW x cy g N n a r ++ va_pl L f)) ++ YW y cy S) := hD
          refine lv_pop hx hb dL_law_721 rfl ?_
          refine lv_aload_n hx hb dL_law_722 rfl (lv_at hl 2 rfl) ?_
          refine lv_aload_n hx hb dL_law_723 rfl (lv_at hl 0 rfl) ?_
          refine lv_iload hx hb dL_law_724 (lv_at hl 4 rfl) ?_
          refine lv_iconst (v := 1) hx hb dL_law_726 (by decide) ?_
          refine lv_iadd hx hb dL_law_727 ?_
          refine lv_tov (v' := .int (nI (i + 1))) (congrArg Value.int (nI_add i 1)) ?_
          refine va_sld hx hb hX hbl hbA hS (vp_in_nI (by omega) (by omega)) dL_law_728 ?_
          refine lv_topi (fun y324 ey324 => ?_)
          rw [nI_clamp (by omega)] at ey324
          obtain rfl : v1 = y324 := hv1.trans ey324.symm
          refine lv_aload_n hx hb dL_law_729 rfl (lv_at hl 0 rfl) ?_
          refine lv_iload hx hb dL_law_730 (lv_at hl 4 rfl) ?_
          refine lv_iconst (v := 2) hx hb dL_law_732 (by decide) ?_
          refine lv_iadd hx hb dL_law_733 ?_
          refine lv_tov (v' := .int (nI (i + 2))) (congrArg Value.int (nI_add i 2)) ?_
          refine va_sld hx hb hX hbl hbA hS (vp_in_nI (by omega) (by omega)) dL_law_734 ?_
          refine lv_topi (fun y325 ey325 => ?_)
          rw [nI_clamp (by omega)] at ey325
          obtain rfl : v2 = y325 := hv2.trans ey325.symm
          obtain ⟨⟨rv326, S327⟩, hF328, hq329⟩ := t_refused (d := N 0) (bx := N 1) (rd := N 2) (fe := N 3) (co := N 4) (t := n 1) (bl := n 2) (ms := ml (a 0) (N 8)) hSt v1 v2
          refine hvI (As := [.int v1, .int v2]) (rest := []) ⟨hx, hb, hml, hown, hts0⟩ (zX10_refused l D y cy S _ v1 v2 rv326 S327 hF328) (cwV 2 hts0 gL_law_X10_refused rfl rfl rfl (by decide +kernel) ⟨Nat.le_of_ble_eq_true rfl, Nat.le_of_ble_eq_true rfl⟩) hK hP hD hS hA (fun h9 => va_recv hK h9 (ci := 10) (q0 := 0) rfl rfl) rfl hl.1 rfl (Nat.le_of_ble_eq_true rfl) dL_law_735 ⟨by omega, by omega⟩ (fun a330 u331 H locs hw332 hP hD hS => ?_)
          have hP : va_P D vwCl ((OU ao co fo ++ (XW x cy g N n a r ++ va_pl L f)) ++ YW y cy S327) H := hP
          have hD : va_D (fun q9 : Nat => s.heap.size ≤ q9) ((OU ao co fo ++ (XW x cy g N n a r ++ va_pl L f)) ++ YW y cy S327) := hD
          refine lv_tov (v' := .int rv326) (congrArg Value.int hw332) ?_
          have hSt : StA (ab N n a) S327 := hq329
          refine lv_pop hx hb dL_law_738 rfl ?_
          refine lv_goto (tgt := 968) hx hb dL_law_739 (by decide) ?_
          refine lv_iinc (v := nI (i + 5)) (lv' := [(4, .int (nI (i + 5))), (0, .ref b), (1, .ref (x 0)), (2, .ref (y 0)), (3, .ref ao)]) hx hb dL_law_968 hl (k := 4) rfl (nI_add i 5) (by decide) rfl (fun ls hl => ?_)
          refine lv_goto (tgt := 23) hx hb dL_law_971 (by decide) ?_
          refine W.widen (k := 300 + (i + 5)) (n := 20000 + 6 * (i + 5)) (by omega) (by omega) ?_
          exact ih (i + 5) (by omega) (by omega) N n a r f fo S327 hC hSt H _ _ hP hD hS (lv_sub hl [1, 2, 3, 4, 0] rfl)
        by_cases j14 : wd = 14
        · skip
          refine lv_tableIn (tgt := 742) hx hb dL_law_39 (by rw [j14]; decide) (by rw [j14]; decide) (by rw [j14]; rfl) (by decide) ?_
          refine lv_aload_n hx hb dL_law_742 rfl (lv_at hl 1 rfl) ?_
          refine lv_aload_n hx hb dL_law_743 rfl (lv_at hl 0 rfl) ?_
          refine lv_iload hx hb dL_law_744 (lv_at hl 4 rfl) ?_
          refine lv_iconst (v := 1) hx hb dL_law_746 (by decide) ?_
          refine lv_iadd hx hb dL_law_747 ?_
          refine lv_tov (v' := .int (nI (i + 1))) (congrArg Value.int (nI_add i 1)) ?_
          refine va_sld hx hb hX hbl hbA hS (vp_in_nI (by omega) (by omega)) dL_law_748 ?_
          refine lv_topi (fun y333 ey333 => ?_)
          rw [nI_clamp (by omega)] at ey333
          obtain rfl : v1 = y333 := hv1.trans ey333.symm
          refine mvI (wo := OU ao co fo) (As := [.int v1]) (rest := []) ⟨hx, hb, hml, hown, hts0⟩ (zX9_place l D x cy g L K hG N n a r f hC _ v1) (cwV 1 hts0 gL_law_X9_place rfl rfl rfl (by decide +kernel) ⟨Nat.le_of_ble_eq_true rfl, Nat.le_of_ble_eq_true rfl⟩) hK hP hD hS hA (fun h9 => va_recv hK h9 (ci := 9) (q0 := 0) rfl rfl) rfl hl.1 rfl (Nat.le_of_ble_eq_true rfl) dL_law_749 ⟨by omega, by omega⟩ (fun r334 u335 H locs hw336 hP hD hS => ?_)
          have hP : va_P D vwCl ((OU ao co fo ++ (XW x cy g N n a r ++ va_pl L f)) ++ YW y cy S) H := hP
          have hD : va_D (fun q9 : Nat => s.heap.size ≤ q9) ((OU ao co fo ++ (XW x cy g N n a r ++ va_pl L f)) ++ YW y cy S) := hD
          refine lv_pop hx hb dL_law_752 rfl ?_
          refine lv_aload_n hx hb dL_law_753 rfl (lv_at hl 2 rfl) ?_
          refine lv_aload_n hx hb dL_law_754 rfl (lv_at hl 0 rfl) ?_
          refine lv_iload hx hb dL_law_755 (lv_at hl 4 rfl) ?_
          refine lv_iconst (v := 1) hx hb dL_law_757 (by decide) ?_
          refine lv_iadd hx hb dL_law_758 ?_
          refine lv_tov (v' := .int (nI (i + 1))) (congrArg Value.int (nI_add i 1)) ?_
          refine va_sld hx hb hX hbl hbA hS (vp_in_nI (by omega) (by omega)) dL_law_759 ?_
          refine lv_topi (fun y337 ey337 => ?_)
          rw [nI_clamp (by omega)] at ey337
          obtain rfl : v1 = y337 := hv1.trans ey337.symm
          obtain ⟨⟨rv338, S339⟩, hF340, hq341⟩ := t_place (d := N 0) (bx := N 1) (rd := N 2) (fe := N 3) (co := N 4) (t := n 1) (bl := n 2) (ms := ml (a 0) (N 8)) hSt v1
          refine hvI (As := [.int v1]) (rest := []) ⟨hx, hb, hml, hown, hts0⟩ (zX10_place l D y cy S _ v1 rv338 S339 hF340) (cwV 1 hts0 gL_law_X10_place rfl rfl rfl (by decide +kernel) ⟨Nat.le_of_ble_eq_true rfl, Nat.le_of_ble_eq_true rfl⟩) hK hP hD hS hA (fun h9 => va_recv hK h9 (ci := 10) (q0 := 0) rfl rfl) rfl hl.1 rfl (Nat.le_of_ble_eq_true rfl) dL_law_760 ⟨by omega, by omega⟩ (fun a342 u343 H locs hw344 hP hD hS => ?_)
          have hP : va_P D vwCl ((OU ao co fo ++ (XW x cy g N n a r ++ va_pl L f)) ++ YW y cy S339) H := hP
          have hD : va_D (fun q9 : Nat => s.heap.size ≤ q9) ((OU ao co fo ++ (XW x cy g N n a r ++ va_pl L f)) ++ YW y cy S339) := hD
          refine lv_tov (v' := .int rv338) (congrArg Value.int hw344) ?_
          have hSt : StA (ab N n a) S339 := hq341
          refine lv_pop hx hb dL_law_763 rfl ?_
          refine lv_goto (tgt := 968) hx hb dL_law_764 (by decide) ?_
          refine lv_iinc (v := nI (i + 5)) (lv' := [(4, .int (nI (i + 5))), (0, .ref b), (1, .ref (x 0)), (2, .ref (y 0)), (3, .ref ao)]) hx hb dL_law_968 hl (k := 4) rfl (nI_add i 5) (by decide) rfl (fun ls hl => ?_)
          refine lv_goto (tgt := 23) hx hb dL_law_971 (by decide) ?_
          refine W.widen (k := 300 + (i + 5)) (n := 20000 + 6 * (i + 5)) (by omega) (by omega) ?_
          exact ih (i + 5) (by omega) (by omega) N n a r f fo S339 hC hSt H _ _ hP hD hS (lv_sub hl [1, 2, 3, 4, 0] rfl)
        by_cases j15 : wd = 15
        · skip
          refine lv_tableIn (tgt := 767) hx hb dL_law_39 (by rw [j15]; decide) (by rw [j15]; decide) (by rw [j15]; rfl) (by decide) ?_
          refine lv_aload_n hx hb dL_law_767 rfl (lv_at hl 1 rfl) ?_
          refine lv_aload_n hx hb dL_law_768 rfl (lv_at hl 0 rfl) ?_
          refine lv_iload hx hb dL_law_769 (lv_at hl 4 rfl) ?_
          refine lv_iconst (v := 1) hx hb dL_law_771 (by decide) ?_
          refine lv_iadd hx hb dL_law_772 ?_
          refine lv_tov (v' := .int (nI (i + 1))) (congrArg Value.int (nI_add i 1)) ?_
          refine va_sld hx hb hX hbl hbA hS (vp_in_nI (by omega) (by omega)) dL_law_773 ?_
          refine lv_topi (fun y345 ey345 => ?_)
          rw [nI_clamp (by omega)] at ey345
          obtain rfl : v1 = y345 := hv1.trans ey345.symm
          refine mvI (wo := OU ao co fo) (As := [.int v1]) (rest := []) ⟨hx, hb, hml, hown, hts0⟩ (zX9_whose l D x cy g L K hG N n a r f hC _ v1) (cwV 1 hts0 gL_law_X9_whose rfl rfl rfl (by decide +kernel) ⟨Nat.le_of_ble_eq_true rfl, Nat.le_of_ble_eq_true rfl⟩) hK hP hD hS hA (fun h9 => va_recv hK h9 (ci := 9) (q0 := 0) rfl rfl) rfl hl.1 rfl (Nat.le_of_ble_eq_true rfl) dL_law_774 ⟨by omega, by omega⟩ (fun r346 u347 H locs hw348 hP hD hS => ?_)
          have hP : va_P D vwCl ((OU ao co fo ++ (XW x cy g N n a r ++ va_pl L f)) ++ YW y cy S) H := hP
          have hD : va_D (fun q9 : Nat => s.heap.size ≤ q9) ((OU ao co fo ++ (XW x cy g N n a r ++ va_pl L f)) ++ YW y cy S) := hD
          refine lv_pop hx hb dL_law_777 rfl ?_
          refine lv_aload_n hx hb dL_law_778 rfl (lv_at hl 2 rfl) ?_
          refine lv_aload_n hx hb dL_law_779 rfl (lv_at hl 0 rfl) ?_
          refine lv_iload hx hb dL_law_780 (lv_at hl 4 rfl) ?_
          refine lv_iconst (v := 1) hx hb dL_law_782 (by decide) ?_
          refine lv_iadd hx hb dL_law_783 ?_
          refine lv_tov (v' := .int (nI (i + 1))) (congrArg Value.int (nI_add i 1)) ?_
          refine va_sld hx hb hX hbl hbA hS (vp_in_nI (by omega) (by omega)) dL_law_784 ?_
          refine lv_topi (fun y349 ey349 => ?_)
          rw [nI_clamp (by omega)] at ey349
          obtain rfl : v1 = y349 := hv1.trans ey349.symm
          obtain ⟨⟨rv350, S351⟩, hF352, hq353⟩ := t_whose (d := N 0) (bx := N 1) (rd := N 2) (fe := N 3) (co := N 4) (t := n 1) (bl := n 2) (ms := ml (a 0) (N 8)) hSt v1
          refine hvI (As := [.int v1]) (rest := []) ⟨hx, hb, hml, hown, hts0⟩ (zX10_whose l D y cy S _ v1 rv350 S351 hF352) (cwV 1 hts0 gL_law_X10_whose rfl rfl rfl (by decide +kernel) ⟨Nat.le_of_ble_eq_true rfl, Nat.le_of_ble_eq_true rfl⟩) hK hP hD hS hA (fun h9 => va_recv hK h9 (ci := 10) (q0 := 0) rfl rfl) rfl hl.1 rfl (Nat.le_of_ble_eq_true rfl) dL_law_785 ⟨by omega, by omega⟩ (fun a354 u355 H locs hw356 hP hD hS => ?_)
          have hP : va_P D vwCl ((OU ao co fo ++ (XW x cy g N n a r ++ va_pl L f)) ++ YW y cy S351) H := hP
          have hD : va_D (fun q9 : Nat => s.heap.size ≤ q9) ((OU ao co fo ++ (XW x cy g N n a r ++ va_pl L f)) ++ YW y cy S351) := hD
          refine lv_tov (v' := .int rv350) (congrArg Value.int hw356) ?_
          have hSt : StA (ab N n a) S351 := hq353
          refine lv_pop hx hb dL_law_788 rfl ?_
          refine lv_goto (tgt := 968) hx hb dL_law_789 (by decide) ?_
          refine lv_iinc (v := nI (i + 5)) (lv' := [(4, .int (nI (i + 5))), (0, .ref b), (1, .ref (x 0)), (2, .ref (y 0)), (3, .ref ao)]) hx hb dL_law_968 hl (k := 4) rfl (nI_add i 5) (by decide) rfl (fun ls hl => ?_)
          refine lv_goto (tgt := 23) hx hb dL_law_971 (by decide) ?_
          refine W.widen (k := 300 + (i + 5)) (n := 20000 + 6 * (i + 5)) (by omega) (by omega) ?_
          exact ih (i + 5) (by omega) (by omega) N n a r f fo S351 hC hSt H _ _ hP hD hS (lv_sub hl [1, 2, 3, 4, 0] rfl)
        by_cases j16 : wd = 16
        · skip
          refine lv_tableIn (tgt := 792) hx hb dL_law_39 (by rw [j16]; decide) (by rw [j16]; decide) (by rw [j16]; rfl) (by decide) ?_
          refine lv_aload_n hx hb dL_law_792 rfl (lv_at hl 1 rfl) ?_
          refine lv_aload_n hx hb dL_law_793 rfl (lv_at hl 0 rfl) ?_
          refine lv_iload hx hb dL_law_794 (lv_at hl 4 rfl) ?_
          refine lv_iconst (v := 1) hx hb dL_law_796 (by decide) ?_
          refine lv_iadd hx hb dL_law_797 ?_
          refine lv_tov (v' := .int (nI (i + 1))) (congrArg Value.int (nI_add i 1)) ?_
          refine va_sld hx hb hX hbl hbA hS (vp_in_nI (by omega) (by omega)) dL_law_798 ?_
          refine lv_topi (fun y357 ey357 => ?_)
          rw [nI_clamp (by omega)] at ey357
          obtain rfl : v1 = y357 := hv1.trans ey357.symm
          refine mvI (wo := OU ao co fo) (As := [.int v1]) (rest := []) ⟨hx, hb, hml, hown, hts0⟩ (zX9_seated l D x cy g L K hG N n a r f hC _ v1) (cwV 1 hts0 gL_law_X9_seated rfl rfl rfl (by decide +kernel) ⟨Nat.le_of_ble_eq_true rfl, Nat.le_of_ble_eq_true rfl⟩) hK hP hD hS hA (fun h9 => va_recv hK h9 (ci := 9) (q0 := 0) rfl rfl) rfl hl.1 rfl (Nat.le_of_ble_eq_true rfl) dL_law_799 ⟨by omega, by omega⟩ (fun r358 u359 H locs hw360 hP hD hS => ?_)
          have hP : va_P D vwCl ((OU ao co fo ++ (XW x cy g N n a r ++ va_pl L f)) ++ YW y cy S) H := hP
          have hD : va_D (fun q9 : Nat => s.heap.size ≤ q9) ((OU ao co fo ++ (XW x cy g N n a r ++ va_pl L f)) ++ YW y cy S) := hD
          refine lv_pop hx hb dL_law_802 rfl ?_
          refine lv_aload_n hx hb dL_law_803 rfl (lv_at hl 2 rfl) ?_
          refine lv_aload_n hx hb dL_law_804 rfl (lv_at hl 0 rfl) ?_
          refine lv_iload hx hb dL_law_805 (lv_at hl 4 rfl) ?_
          refine lv_iconst (v := 1) hx hb dL_law_807 (by decide) ?_
          refine lv_iadd hx hb dL_law_808 ?_
          refine lv_tov (v' := .int (nI (i + 1))) (congrArg Value.int (nI_add i 1)) ?_
          refine va_sld hx hb hX hbl hbA hS (vp_in_nI (by omega) (by omega)) dL_law_809 ?_
          refine lv_topi (fun y361 ey361 => ?_)
          rw [nI_clamp (by omega)] at ey361
          obtain rfl : v1 = y361 := hv1.trans ey361.symm
          obtain ⟨⟨rv362, S363⟩, hF364, hq365⟩ := t_seated (d := N 0) (bx := N 1) (rd := N 2) (fe := N 3) (co := N 4) (t := n 1) (bl := n 2) (ms := ml (a 0) (N 8)) hSt v1
          refine hvI (As := [.int v1]) (rest := []) ⟨hx, hb, hml, hown, hts0⟩ (zX10_seated l D y cy S _ v1 rv362 S363 hF364) (cwV 1 hts0 gL_law_X10_seated rfl rfl rfl (by decide +kernel) ⟨Nat.le_of_ble_eq_true rfl, Nat.le_of_ble_eq_true rfl⟩) hK hP hD hS hA (fun h9 => va_recv hK h9 (ci := 10) (q0 := 0) rfl rfl) rfl hl.1 rfl (Nat.le_of_ble_eq_true rfl) dL_law_810 ⟨by omega, by omega⟩ (fun a366 u367 H locs hw368 hP hD hS => ?_)
          have hP : va_P D vwCl ((OU ao co fo ++ (XW x cy g N n a r ++ va_pl L f)) ++ YW y cy S363) H := hP
          have hD : va_D (fun q9 : Nat => s.heap.size ≤ q9) ((OU ao co fo ++ (XW x cy g N n a r ++ va_pl L f)) ++ YW y cy S363) := hD
          refine lv_tov (v' := .int rv362) (congrArg Value.int hw368) ?_
          have hSt : StA (ab N n a) S363 := hq365
          refine lv_pop hx hb dL_law_813 rfl ?_
          refine lv_goto (tgt := 968) hx hb dL_law_814 (by decide) ?_
          refine lv_iinc (v := nI (i + 5)) (lv' := [(4, .int (nI (i + 5))), (0, .ref b), (1, .ref (x 0)), (2, .ref (y 0)), (3, .ref ao)]) hx hb dL_law_968 hl (k := 4) rfl (nI_add i 5) (by decide) rfl (fun ls hl => ?_)
          refine lv_goto (tgt := 23) hx hb dL_law_971 (by decide) ?_
          refine W.widen (k := 300 + (i + 5)) (n := 20000 + 6 * (i + 5)) (by omega) (by omega) ?_
          exact ih (i + 5) (by omega) (by omega) N n a r f fo S363 hC hSt H _ _ hP hD hS (lv_sub hl [1, 2, 3, 4, 0] rfl)
        by_cases j17 : wd = 17
        · skip
          refine lv_tableIn (tgt := 817) hx hb dL_law_39 (by rw [j17]; decide) (by rw [j17]; decide) (by rw [j17]; rfl) (by decide) ?_
          refine lv_aload_n hx hb dL_law_817 rfl (lv_at hl 1 rfl) ?_
          refine lv_aload_n hx hb dL_law_818 rfl (lv_at hl 0 rfl) ?_
          refine lv_iload hx hb dL_law_819 (lv_at hl 4 rfl) ?_
          refine lv_iconst (v := 1) hx hb dL_law_821 (by decide) ?_
          refine lv_iadd hx hb dL_law_822 ?_
          refine lv_tov (v' := .int (nI (i + 1))) (congrArg Value.int (nI_add i 1)) ?_
          refine va_sld hx hb hX hbl hbA hS (vp_in_nI (by omega) (by omega)) dL_law_823 ?_
          refine lv_topi (fun y369 ey369 => ?_)
          rw [nI_clamp (by omega)] at ey369
          obtain rfl : v1 = y369 := hv1.trans ey369.symm
          refine lv_aload_n hx hb dL_law_824 rfl (lv_at hl 0 rfl) ?_
          refine lv_iload hx hb dL_law_825 (lv_at hl 4 rfl) ?_
          refine lv_iconst (v := 2) hx hb dL_law_827 (by decide) ?_
          refine lv_iadd hx hb dL_law_828 ?_
          refine lv_tov (v' := .int (nI (i + 2))) (congrArg Value.int (nI_add i 2)) ?_
          refine va_sld hx hb hX hbl hbA hS (vp_in_nI (by omega) (by omega)) dL_law_829 ?_
          refine lv_topi (fun y370 ey370 => ?_)
          rw [nI_clamp (by omega)] at ey370
          obtain rfl : v2 = y370 := hv2.trans ey370.symm
          refine lv_aload_n hx hb dL_law_830 rfl (lv_at hl 0 rfl) ?_
          refine lv_iload hx hb dL_law_831 (lv_at hl 4 rfl) ?_
          refine lv_iconst (v := 3) hx hb dL_law_833 (by decide) ?_
          refine lv_iadd hx hb dL_law_834 ?_
          refine lv_tov (v' := .int (nI (i + 3))) (congrArg Value.int (nI_add i 3)) ?_
          refine va_sld hx hb hX hbl hbA hS (vp_in_nI (by omega) (by omega)) dL_law_835 ?_
          refine lv_topi (fun y371 ey371 => ?_)
          rw [nI_clamp (by omega)] at ey371
          obtain rfl : v3 = y371 := hv3.trans ey371.symm
          refine mvI (wo := OU ao co fo) (As := [.int v1, .int v2, .int v3]) (rest := []) ⟨hx, hb, hml, hown, hts0⟩ (zX9_worker l D x cy g L K hG N n a r f hC _ v1 v2 v3) (cwV 3 hts0 gL_law_X9_worker rfl rfl rfl (by decide +kernel) ⟨Nat.le_of_ble_eq_true rfl, Nat.le_of_ble_eq_true rfl⟩) hK hP hD hS hA (fun h9 => va_recv hK h9 (ci := 9) (q0 := 0) rfl rfl) rfl hl.1 rfl (Nat.le_of_ble_eq_true rfl) dL_law_836 ⟨by omega, by omega⟩ (fun r372 u373 H locs hw374 hP hD hS => ?_)
          have hP : va_P D vwCl ((OU ao co fo ++ (XW x cy g N n a r ++ va_pl L f)) ++ YW y cy S) H := hP
          have hD : va_D (fun q9 : Nat => s.heap.size ≤ q9) ((OU ao co fo ++ (XW x cy g N n a r ++ va_pl L f)) ++ YW y cy S) := hD
          refine lv_pop hx hb dL_law_839 rfl ?_
          refine lv_aload_n hx hb dL_law_840 rfl (lv_at hl 2 rfl) ?_
          refine lv_aload_n hx hb dL_law_841 rfl (lv_at hl 0 rfl) ?_
          refine lv_iload hx hb dL_law_842 (lv_at hl 4 rfl) ?_
          refine lv_iconst (v := 1) hx hb dL_law_844 (by decide) ?_
          refine lv_iadd hx hb dL_law_845 ?_
          refine lv_tov (v' := .int (nI (i + 1))) (congrArg Value.int (nI_add i 1)) ?_
          refine va_sld hx hb hX hbl hbA hS (vp_in_nI (by omega) (by omega)) dL_law_846 ?_
          refine lv_topi (fun y375 ey375 => ?_)
          rw [nI_clamp (by omega)] at ey375
          obtain rfl : v1 = y375 := hv1.trans ey375.symm
          refine lv_aload_n hx hb dL_law_847 rfl (lv_at hl 0 rfl) ?_
          refine lv_iload hx hb dL_law_848 (lv_at hl 4 rfl) ?_
          refine lv_iconst (v := 2) hx hb dL_law_850 (by decide) ?_
          refine lv_iadd hx hb dL_law_851 ?_
          refine lv_tov (v' := .int (nI (i + 2))) (congrArg Value.int (nI_add i 2)) ?_
          refine va_sld hx hb hX hbl hbA hS (vp_in_nI (by omega) (by omega)) dL_law_852 ?_
          refine lv_topi (fun y376 ey376 => ?_)
          rw [nI_clamp (by omega)] at ey376
          obtain rfl : v2 = y376 := hv2.trans ey376.symm
          refine lv_aload_n hx hb dL_law_853 rfl (lv_at hl 0 rfl) ?_
          refine lv_iload hx hb dL_law_854 (lv_at hl 4 rfl) ?_
          refine lv_iconst (v := 3) hx hb dL_law_856 (by decide) ?_
          refine lv_iadd hx hb dL_law_857 ?_
          refine lv_tov (v' := .int (nI (i + 3))) (congrArg Value.int (nI_add i 3)) ?_
          refine va_sld hx hb hX hbl hbA hS (vp_in_nI (by omega) (by omega)) dL_law_858 ?_
          refine lv_topi (fun y377 ey377 => ?_)
          rw [nI_clamp (by omega)] at ey377
          obtain rfl : v3 = y377 := hv3.trans ey377.symm
          obtain ⟨⟨rv378, S379⟩, hF380, hq381⟩ := t_worker (d := N 0) (bx := N 1) (rd := N 2) (fe := N 3) (co := N 4) (t := n 1) (bl := n 2) (ms := ml (a 0) (N 8)) hSt v1 v2 v3
          refine hvI (As := [.int v1, .int v2, .int v3]) (rest := []) ⟨hx, hb, hml, hown, hts0⟩ (zX10_worker l D y cy S _ v1 v2 v3 rv378 S379 hF380) (cwV 3 hts0 gL_law_X10_worker rfl rfl rfl (by decide +kernel) ⟨Nat.le_of_ble_eq_true rfl, Nat.le_of_ble_eq_true rfl⟩) hK hP hD hS hA (fun h9 => va_recv hK h9 (ci := 10) (q0 := 0) rfl rfl) rfl hl.1 rfl (Nat.le_of_ble_eq_true rfl) dL_law_859 ⟨by omega, by omega⟩ (fun a382 u383 H locs hw384 hP hD hS => ?_)
          have hP : va_P D vwCl ((OU ao co fo ++ (XW x cy g N n a r ++ va_pl L f)) ++ YW y cy S379) H := hP
          have hD : va_D (fun q9 : Nat => s.heap.size ≤ q9) ((OU ao co fo ++ (XW x cy g N n a r ++ va_pl L f)) ++ YW y cy S379) := hD
          refine lv_tov (v' := .int rv378) (congrArg Value.int hw384) ?_
          have hSt : StA (ab N n a) S379 := hq381
          refine lv_pop hx hb dL_law_862 rfl ?_
          refine lv_goto (tgt := 968) hx hb dL_law_863 (by decide) ?_
          refine lv_iinc (v := nI (i + 5)) (lv' := [(4, .int (nI (i + 5))), (0, .ref b), (1, .ref (x 0)), (2, .ref (y 0)), (3, .ref ao)]) hx hb dL_law_968 hl (k := 4) rfl (nI_add i 5) (by decide) rfl (fun ls hl => ?_)
          refine lv_goto (tgt := 23) hx hb dL_law_971 (by decide) ?_
          refine W.widen (k := 300 + (i + 5)) (n := 20000 + 6 * (i + 5)) (by omega) (by omega) ?_
          exact ih (i + 5) (by omega) (by omega) N n a r f fo S379 hC hSt H _ _ hP hD hS (lv_sub hl [1, 2, 3, 4, 0] rfl)
        by_cases j18 : wd = 18
        · skip
          refine lv_tableIn (tgt := 866) hx hb dL_law_39 (by rw [j18]; decide) (by rw [j18]; decide) (by rw [j18]; rfl) (by decide) ?_
          refine lv_aload_n hx hb dL_law_866 rfl (lv_at hl 1 rfl) ?_
          refine lv_aload_n hx hb dL_law_867 rfl (lv_at hl 0 rfl) ?_
          refine lv_iload hx hb dL_law_868 (lv_at hl 4 rfl) ?_
          refine lv_iconst (v := 1) hx hb dL_law_870 (by decide) ?_
          refine lv_iadd hx hb dL_law_871 ?_
          refine lv_tov (v' := .int (nI (i + 1))) (congrArg Value.int (nI_add i 1)) ?_
          refine va_sld hx hb hX hbl hbA hS (vp_in_nI (by omega) (by omega)) dL_law_872 ?_
          refine lv_topi (fun y385 ey385 => ?_)
          rw [nI_clamp (by omega)] at ey385
          obtain rfl : v1 = y385 := hv1.trans ey385.symm
          refine lv_aload_n hx hb dL_law_873 rfl (lv_at hl 0 rfl) ?_
          refine lv_iload hx hb dL_law_874 (lv_at hl 4 rfl) ?_
          refine lv_iconst (v := 2) hx hb dL_law_876 (by decide) ?_
          refine lv_iadd hx hb dL_law_877 ?_
          refine lv_tov (v' := .int (nI (i + 2))) (congrArg Value.int (nI_add i 2)) ?_
          refine va_sld hx hb hX hbl hbA hS (vp_in_nI (by omega) (by omega)) dL_law_878 ?_
          refine lv_topi (fun y386 ey386 => ?_)
          rw [nI_clamp (by omega)] at ey386
          obtain rfl : v2 = y386 := hv2.trans ey386.symm
          refine mvI (wo := OU ao co fo) (As := [.int v1, .int v2]) (rest := []) ⟨hx, hb, hml, hown, hts0⟩ (zX9_queue l D x cy g L K hG N n a r f hC _ v1 v2) (cwV 2 hts0 gL_law_X9_queue rfl rfl rfl (by decide +kernel) ⟨Nat.le_of_ble_eq_true rfl, Nat.le_of_ble_eq_true rfl⟩) hK hP hD hS hA (fun h9 => va_recv hK h9 (ci := 9) (q0 := 0) rfl rfl) rfl hl.1 rfl (Nat.le_of_ble_eq_true rfl) dL_law_879 ⟨by omega, by omega⟩ (fun r387 u388 H locs hw389 hP hD hS => ?_)
          have hP : va_P D vwCl ((OU ao co fo ++ (XW x cy g N n a r ++ va_pl L f)) ++ YW y cy S) H := hP
          have hD : va_D (fun q9 : Nat => s.heap.size ≤ q9) ((OU ao co fo ++ (XW x cy g N n a r ++ va_pl L f)) ++ YW y cy S) := hD
          refine lv_pop hx hb dL_law_882 rfl ?_
          refine lv_aload_n hx hb dL_law_883 rfl (lv_at hl 2 rfl) ?_
          refine lv_aload_n hx hb dL_law_884 rfl (lv_at hl 0 rfl) ?_
          refine lv_iload hx hb dL_law_885 (lv_at hl 4 rfl) ?_
          refine lv_iconst (v := 1) hx hb dL_law_887 (by decide) ?_
          refine lv_iadd hx hb dL_law_888 ?_
          refine lv_tov (v' := .int (nI (i + 1))) (congrArg Value.int (nI_add i 1)) ?_
          refine va_sld hx hb hX hbl hbA hS (vp_in_nI (by omega) (by omega)) dL_law_889 ?_
          refine lv_topi (fun y390 ey390 => ?_)
          rw [nI_clamp (by omega)] at ey390
          obtain rfl : v1 = y390 := hv1.trans ey390.symm
          refine lv_aload_n hx hb dL_law_890 rfl (lv_at hl 0 rfl) ?_
          refine lv_iload hx hb dL_law_891 (lv_at hl 4 rfl) ?_
          refine lv_iconst (v := 2) hx hb dL_law_893 (by decide) ?_
          refine lv_iadd hx hb dL_law_894 ?_
          refine lv_tov (v' := .int (nI (i + 2))) (congrArg Value.int (nI_add i 2)) ?_
          refine va_sld hx hb hX hbl hbA hS (vp_in_nI (by omega) (by omega)) dL_law_895 ?_
          refine lv_topi (fun y391 ey391 => ?_)
          rw [nI_clamp (by omega)] at ey391
          obtain rfl : v2 = y391 := hv2.trans ey391.symm
          obtain ⟨⟨rv392, S393⟩, hF394, hq395⟩ := t_queue (d := N 0) (bx := N 1) (rd := N 2) (fe := N 3) (co := N 4) (t := n 1) (bl := n 2) (ms := ml (a 0) (N 8)) hSt v1 v2
          refine hvI (As := [.int v1, .int v2]) (rest := []) ⟨hx, hb, hml, hown, hts0⟩ (zX10_queue l D y cy S _ v1 v2 rv392 S393 hF394) (cwV 2 hts0 gL_law_X10_queue rfl rfl rfl (by decide +kernel) ⟨Nat.le_of_ble_eq_true rfl, Nat.le_of_ble_eq_true rfl⟩) hK hP hD hS hA (fun h9 => va_recv hK h9 (ci := 10) (q0 := 0) rfl rfl) rfl hl.1 rfl (Nat.le_of_ble_eq_true rfl) dL_law_896 ⟨by omega, by omega⟩ (fun a396 u397 H locs hw398 hP hD hS => ?_)
          have hP : va_P D vwCl ((OU ao co fo ++ (XW x cy g N n a r ++ va_pl L f)) ++ YW y cy S393) H := hP
          have hD : va_D (fun q9 : Nat => s.heap.size ≤ q9) ((OU ao co fo ++ (XW x cy g N n a r ++ va_pl L f)) ++ YW y cy S393) := hD
          refine lv_tov (v' := .int rv392) (congrArg Value.int hw398) ?_
          have hSt : StA (ab N n a) S393 := hq395
          refine lv_pop hx hb dL_law_899 rfl ?_
          refine lv_goto (tgt := 968) hx hb dL_law_900 (by decide) ?_
          refine lv_iinc (v := nI (i + 5)) (lv' := [(4, .int (nI (i + 5))), (0, .ref b), (1, .ref (x 0)), (2, .ref (y 0)), (3, .ref ao)]) hx hb dL_law_968 hl (k := 4) rfl (nI_add i 5) (by decide) rfl (fun ls hl => ?_)
          refine lv_goto (tgt := 23) hx hb dL_law_971 (by decide) ?_
          refine W.widen (k := 300 + (i + 5)) (n := 20000 + 6 * (i + 5)) (by omega) (by omega) ?_
          exact ih (i + 5) (by omega) (by omega) N n a r f fo S393 hC hSt H _ _ hP hD hS (lv_sub hl [1, 2, 3, 4, 0] rfl)
        by_cases j19 : wd = 19
        · skip
          refine lv_tableIn (tgt := 903) hx hb dL_law_39 (by rw [j19]; decide) (by rw [j19]; decide) (by rw [j19]; rfl) (by decide) ?_
          refine lv_aload_n hx hb dL_law_903 rfl (lv_at hl 1 rfl) ?_
          refine lv_aload_n hx hb dL_law_904 rfl (lv_at hl 0 rfl) ?_
          refine lv_iload hx hb dL_law_905 (lv_at hl 4 rfl) ?_
          refine lv_iconst (v := 1) hx hb dL_law_907 (by decide) ?_
          refine lv_iadd hx hb dL_law_908 ?_
          refine lv_tov (v' := .int (nI (i + 1))) (congrArg Value.int (nI_add i 1)) ?_
          refine va_sld hx hb hX hbl hbA hS (vp_in_nI (by omega) (by omega)) dL_law_909 ?_
          refine lv_topi (fun y399 ey399 => ?_)
          rw [nI_clamp (by omega)] at ey399
          obtain rfl : v1 = y399 := hv1.trans ey399.symm
          refine lv_aload_n hx hb dL_law_910 rfl (lv_at hl 0 rfl) ?_
          refine lv_iload hx hb dL_law_911 (lv_at hl 4 rfl) ?_
          refine lv_iconst (v := 2) hx hb dL_law_913 (by decide) ?_
          refine lv_iadd hx hb dL_law_914 ?_
          refine lv_tov (v' := .int (nI (i + 2))) (congrArg Value.int (nI_add i 2)) ?_
          refine va_sld hx hb hX hbl hbA hS (vp_in_nI (by omega) (by omega)) dL_law_915 ?_
          refine lv_topi (fun y400 ey400 => ?_)
          rw [nI_clamp (by omega)] at ey400
          obtain rfl : v2 = y400 := hv2.trans ey400.symm
          refine lv_aload_n hx hb dL_law_916 rfl (lv_at hl 3 rfl) ?_
          have hPc : va_P D vwCl (OU ao co fo ++ (XW x cy g N n a r ++ va_pl L f)) H := P_a hP
          have hDc : va_D (fun q9 : Nat => s.heap.size ≤ q9) (OU ao co fo ++ (XW x cy g N n a r ++ va_pl L f)) := D_a hD
          have hFc := F_of hDc (fun q h => hA q (Nat.le_trans hS.1 h))
          refine va_calli (vx_runSW (hh := [(0, 10, 13, 13)]) (As := [.ref (x 0), .int v1, .int v2, .ref ao]) (rest := []) ⟨hx, hb, hml, hown, hts⟩ (mL_event l hls D x cy g L K hG N n a r f hC _ sa ao co fo v1 v2) (vx_cwSW 4 hts gLL_event rfl rfl rfl (by decide +kernel) ⟨Nat.le_of_ble_eq_true rfl, Nat.le_of_ble_eq_true rfl⟩) ⟨PWe_blind, fun U hU hW => ⟨rfl, by rw [hU], by rw [hU]; exact hPc, va_K.moved hW.alike hK2, hDc.weaken (fun _ _ _ _ => trivial), EVX_warm hW (by rw [hU]; exact vx_Zq.narrow (vx_Zq.kept hZ1 hS.2.1) hFc) (by rw [hU]; exact vx_Zq.narrow (vx_Zq.kept hZ2 hS.2.1) hFc) hstr hcst⟩⟩ rfl rfl hl.1 rfl (lv_room (Nat.le_of_ble_eq_true rfl)) dL_law_917 ⟨by omega, by omega⟩) hS (fun q9 _ h => hFc q9 h) hFc (fun r9 fo9 t H1 locs ht hvm hw hB hz1 hk1 hS => ?_)
          obtain ⟨hP1, hK1, hD1⟩ := hB
          rw [ht] at hP1
          obtain ⟨hP, hD⟩ := half_1 hP hD hk1 hFc hP1 hD1
          generalize H1 = H at hP hS ⊢
          have hP : va_P D vwCl ((OU ao co fo9 ++ (XW x cy g N n a r ++ va_pl L f)) ++ YW y cy S) H := hP
          have hD : va_D (fun q9 : Nat => s.heap.size ≤ q9) ((OU ao co fo9 ++ (XW x cy g N n a r ++ va_pl L f)) ++ YW y cy S) := hD
          refine lv_istore (lv' := [(5, .int r9), (0, .ref b), (1, .ref (x 0)), (2, .ref (y 0)), (3, .ref ao), (4, .int (nI i))]) hx hb dL_law_920 hl (by decide) rfl (fun ls hl => ?_)
          refine lv_aload_n hx hb dL_law_922 rfl (lv_at hl 3 rfl) ?_
          refine lv_aload_n hx hb dL_law_923 rfl (lv_at hl 1 rfl) ?_
          refine lv_iload hx hb dL_law_924 (lv_at hl 5 rfl) ?_
          refine lv_iconst (v := 1) hx hb dL_law_926 (by decide) ?_
          refine lv_iadd hx hb dL_law_927 ?_
          refine lv_tov (v' := .int (nI (i + 1))) (congrArg Value.int (nI_add i 1)) ?_
          refine va_sld hx hb hX hbl hbA hS (vp_in_nI (by omega) (by omega)) dL_law_928 ?_
          refine lv_topi (fun y401 ey401 => ?_)
          rw [nI_clamp (by omega)] at ey401
          obtain rfl : v1 = y401 := hv1.trans ey401.symm
          refine lv_aload_n hx hb dL_law_929 rfl (lv_at hl 1 rfl) ?_
          refine lv_iload hx hb dL_law_930 (lv_at hl 5 rfl) ?_
          refine lv_iconst (v := 2) hx hb dL_law_932 (by decide) ?_
          refine lv_iadd hx hb dL_law_933 ?_
          refine lv_tov (v' := .int (nI (i + 2))) (congrArg Value.int (nI_add i 2)) ?_
          refine va_sld hx hb hX hbl hbA hS (vp_in_nI (by omega) (by omega)) dL_law_934 ?_
          refine lv_topi (fun y402 ey402 => ?_)
          rw [nI_clamp (by omega)] at ey402
          obtain rfl : v2 = y402 := hv2.trans ey402.symm
          obtain ⟨⟨rv403, S404⟩, hF405, hq406⟩ := t_event_ (d := N 0) (bx := N 1) (rd := N 2) (fe := N 3) (co := N 4) (t := n 1) (bl := n 2) (ms := ml (a 0) (N 8)) hSt v1 v2
          refine hvI (As := [.int v1, .int v2]) (rest := []) ⟨hx, hb, hml, hown, hts0⟩ (zX10_event_ l D y cy S _ v1 v2 rv403 S404 hF405) (cwV 2 hts0 gL_law_X10_event_ rfl rfl rfl (by decide +kernel) ⟨Nat.le_of_ble_eq_true rfl, Nat.le_of_ble_eq_true rfl⟩) hK hP hD hS hA (fun h9 => va_recv hK h9 (ci := 10) (q0 := 0) rfl rfl) rfl hl.1 rfl (Nat.le_of_ble_eq_true rfl) dL_law_935 ⟨by omega, by omega⟩ (fun a407 u408 H locs hw409 hP hD hS => ?_)
          have hP : va_P D vwCl ((OU ao co fo9 ++ (XW x cy g N n a r ++ va_pl L f)) ++ YW y cy S404) H := hP
          have hD : va_D (fun q9 : Nat => s.heap.size ≤ q9) ((OU ao co fo9 ++ (XW x cy g N n a r ++ va_pl L f)) ++ YW y cy S404) := hD
          refine lv_tov (v' := .int rv403) (congrArg Value.int hw409) ?_
          have hSt : StA (ab N n a) S404 := hq406
          refine lv_istore (lv' := [(6, .int rv403), (5, .int r9), (0, .ref b), (1, .ref (x 0)), (2, .ref (y 0)), (3, .ref ao), (4, .int (nI i))]) hx hb dL_law_938 hl (by decide) rfl (fun ls hl => ?_)
          refine lv_goto (tgt := 968) hx hb dL_law_940 (by decide) ?_
          refine lv_iinc (v := nI (i + 5)) (lv' := [(4, .int (nI (i + 5))), (6, .int rv403), (5, .int r9), (0, .ref b), (1, .ref (x 0)), (2, .ref (y 0)), (3, .ref ao)]) hx hb dL_law_968 hl (k := 6) rfl (nI_add i 5) (by decide) rfl (fun ls hl => ?_)
          refine lv_goto (tgt := 23) hx hb dL_law_971 (by decide) ?_
          refine W.widen (k := 300 + (i + 5)) (n := 20000 + 6 * (i + 5)) (by omega) (by omega) ?_
          exact ih (i + 5) (by omega) (by omega) N n a r f fo9 S404 hC hSt H _ _ hP hD hS (lv_sub hl [3, 4, 5, 6, 0] rfl)
        by_cases j20 : wd = 20
        · skip
          refine lv_tableIn (tgt := 943) hx hb dL_law_39 (by rw [j20]; decide) (by rw [j20]; decide) (by rw [j20]; rfl) (by decide) ?_
          refine lv_aload_n hx hb dL_law_943 rfl (lv_at hl 1 rfl) ?_
          refine lv_aload_n hx hb dL_law_944 rfl (lv_at hl 0 rfl) ?_
          refine lv_iload hx hb dL_law_945 (lv_at hl 4 rfl) ?_
          refine lv_iconst (v := 1) hx hb dL_law_947 (by decide) ?_
          refine lv_iadd hx hb dL_law_948 ?_
          refine lv_tov (v' := .int (nI (i + 1))) (congrArg Value.int (nI_add i 1)) ?_
          refine va_sld hx hb hX hbl hbA hS (vp_in_nI (by omega) (by omega)) dL_law_949 ?_
          refine lv_topi (fun y410 ey410 => ?_)
          rw [nI_clamp (by omega)] at ey410
          obtain rfl : v1 = y410 := hv1.trans ey410.symm
          refine mvI (wo := OU ao co fo) (As := [.int v1]) (rest := []) ⟨hx, hb, hml, hown, hts0⟩ (zX9_count l D x cy g L K hG N n a r f hC _ v1) (cwV 1 hts0 gL_law_X9_count rfl rfl rfl (by decide +kernel) ⟨Nat.le_of_ble_eq_true rfl, Nat.le_of_ble_eq_true rfl⟩) hK hP hD hS hA (fun h9 => va_recv hK h9 (ci := 9) (q0 := 0) rfl rfl) rfl hl.1 rfl (Nat.le_of_ble_eq_true rfl) dL_law_950 ⟨by omega, by omega⟩ (fun r411 u412 H locs hw413 hP hD hS => ?_)
          have hP : va_P D vwCl ((OU ao co fo ++ (XW x cy g N n a r ++ va_pl L f)) ++ YW y cy S) H := hP
          have hD : va_D (fun q9 : Nat => s.heap.size ≤ q9) ((OU ao co fo ++ (XW x cy g N n a r ++ va_pl L f)) ++ YW y cy S) := hD
          refine lv_pop hx hb dL_law_953 rfl ?_
          refine lv_aload_n hx hb dL_law_954 rfl (lv_at hl 2 rfl) ?_
          refine lv_aload_n hx hb dL_law_955 rfl (lv_at hl 0 rfl) ?_
          refine lv_iload hx hb dL_law_956 (lv_at hl 4 rfl) ?_
          refine lv_iconst (v := 1) hx hb dL_law_958 (by decide) ?_
          refine lv_iadd hx hb dL_law_959 ?_
          refine lv_tov (v' := .int (nI (i + 1))) (congrArg Value.int (nI_add i 1)) ?_
          refine va_sld hx hb hX hbl hbA hS (vp_in_nI (by omega) (by omega)) dL_law_960 ?_
          refine lv_topi (fun y414 ey414 => ?_)
          rw [nI_clamp (by omega)] at ey414
          obtain rfl : v1 = y414 := hv1.trans ey414.symm
          obtain ⟨⟨rv415, S416⟩, hF417, hq418⟩ := t_count (d := N 0) (bx := N 1) (rd := N 2) (fe := N 3) (co := N 4) (t := n 1) (bl := n 2) (ms := ml (a 0) (N 8)) hSt v1
          refine hvI (As := [.int v1]) (rest := []) ⟨hx, hb, hml, hown, hts0⟩ (zX10_count l D y cy S _ v1 rv415 S416 hF417) (cwV 1 hts0 gL_law_X10_count rfl rfl rfl (by decide +kernel) ⟨Nat.le_of_ble_eq_true rfl, Nat.le_of_ble_eq_true rfl⟩) hK hP hD hS hA (fun h9 => va_recv hK h9 (ci := 10) (q0 := 0) rfl rfl) rfl hl.1 rfl (Nat.le_of_ble_eq_true rfl) dL_law_961 ⟨by omega, by omega⟩ (fun a419 u420 H locs hw421 hP hD hS => ?_)
          have hP : va_P D vwCl ((OU ao co fo ++ (XW x cy g N n a r ++ va_pl L f)) ++ YW y cy S416) H := hP
          have hD : va_D (fun q9 : Nat => s.heap.size ≤ q9) ((OU ao co fo ++ (XW x cy g N n a r ++ va_pl L f)) ++ YW y cy S416) := hD
          refine lv_tov (v' := .int rv415) (congrArg Value.int hw421) ?_
          have hSt : StA (ab N n a) S416 := hq418
          refine lv_pop hx hb dL_law_964 rfl ?_
          refine lv_goto (tgt := 968) hx hb dL_law_965 (by decide) ?_
          refine lv_iinc (v := nI (i + 5)) (lv' := [(4, .int (nI (i + 5))), (0, .ref b), (1, .ref (x 0)), (2, .ref (y 0)), (3, .ref ao)]) hx hb dL_law_968 hl (k := 4) rfl (nI_add i 5) (by decide) rfl (fun ls hl => ?_)
          refine lv_goto (tgt := 23) hx hb dL_law_971 (by decide) ?_
          refine W.widen (k := 300 + (i + 5)) (n := 20000 + 6 * (i + 5)) (by omega) (by omega) ?_
          exact ih (i + 5) (by omega) (by omega) N n a r f fo S416 hC hSt H _ _ hP hD hS (lv_sub hl [1, 2, 3, 4, 0] rfl)
        have zj0 : (wd).toInt ≠ 0 := fun h9 => j0 ((fa_eq _ _).mpr (h9.trans (by decide)))
        have zj1 : (wd).toInt ≠ 1 := fun h9 => j1 ((fa_eq _ _).mpr (h9.trans (by decide)))
        have zj2 : (wd).toInt ≠ 2 := fun h9 => j2 ((fa_eq _ _).mpr (h9.trans (by decide)))
        have zj3 : (wd).toInt ≠ 3 := fun h9 => j3 ((fa_eq _ _).mpr (h9.trans (by decide)))
        have zj4 : (wd).toInt ≠ 4 := fun h9 => j4 ((fa_eq _ _).mpr (h9.trans (by decide)))
        have zj5 : (wd).toInt ≠ 5 := fun h9 => j5 ((fa_eq _ _).mpr (h9.trans (by decide)))
        have zj6 : (wd).toInt ≠ 6 := fun h9 => j6 ((fa_eq _ _).mpr (h9.trans (by decide)))
        have zj7 : (wd).toInt ≠ 7 := fun h9 => j7 ((fa_eq _ _).mpr (h9.trans (by decide)))
        have zj8 : (wd).toInt ≠ 8 := fun h9 => j8 ((fa_eq _ _).mpr (h9.trans (by decide)))
        have zj9 : (wd).toInt ≠ 9 := fun h9 => j9 ((fa_eq _ _).mpr (h9.trans (by decide)))
        have zj10 : (wd).toInt ≠ 10 := fun h9 => j10 ((fa_eq _ _).mpr (h9.trans (by decide)))
        have zj11 : (wd).toInt ≠ 11 := fun h9 => j11 ((fa_eq _ _).mpr (h9.trans (by decide)))
        have zj12 : (wd).toInt ≠ 12 := fun h9 => j12 ((fa_eq _ _).mpr (h9.trans (by decide)))
        have zj13 : (wd).toInt ≠ 13 := fun h9 => j13 ((fa_eq _ _).mpr (h9.trans (by decide)))
        have zj14 : (wd).toInt ≠ 14 := fun h9 => j14 ((fa_eq _ _).mpr (h9.trans (by decide)))
        have zj15 : (wd).toInt ≠ 15 := fun h9 => j15 ((fa_eq _ _).mpr (h9.trans (by decide)))
        have zj16 : (wd).toInt ≠ 16 := fun h9 => j16 ((fa_eq _ _).mpr (h9.trans (by decide)))
        have zj17 : (wd).toInt ≠ 17 := fun h9 => j17 ((fa_eq _ _).mpr (h9.trans (by decide)))
        have zj18 : (wd).toInt ≠ 18 := fun h9 => j18 ((fa_eq _ _).mpr (h9.trans (by decide)))
        have zj19 : (wd).toInt ≠ 19 := fun h9 => j19 ((fa_eq _ _).mpr (h9.trans (by decide)))
        have zj20 : (wd).toInt ≠ 20 := fun h9 => j20 ((fa_eq _ _).mpr (h9.trans (by decide)))
        refine lv_tableOut (tgt := 968) hx hb dL_law_39 (by omega) (by decide) ?_
        refine lv_iinc (v := nI (i + 5)) (lv' := [(4, .int (nI (i + 5))), (0, .ref b), (1, .ref (x 0)), (2, .ref (y 0)), (3, .ref ao)]) hx hb dL_law_968 hl (k := 4) rfl (nI_add i 5) (by decide) rfl (fun ls hl => ?_)
        refine lv_goto (tgt := 23) hx hb dL_law_971 (by decide) ?_
        refine W.widen (k := 300 + (i + 5)) (n := 20000 + 6 * (i + 5)) (by omega) (by omega) ?_
        exact ih (i + 5) (by omega) (by omega) N n a r f fo S hC hSt H _ _ hP hD hS (lv_sub hl [1, 2, 3, 4, 0] rfl)
  refine W.widen (k := 300 + 0) (n := 20000 + 6 * 0) (Nat.le_of_ble_eq_true rfl) (Nat.le_of_ble_eq_true rfl) ?_
  exact loop 3000 0 (by omega) (by omega) N0 n0 (fun _ _ => 0) (fun _ _ => none) (f0 cy K cf nm) (fun _ => 0) S0 (INI_CI hu9 cy) StA_0 H _ _ hP hD hS (lv_sub hl [4, 3, 2, 1, 0] rfl)
