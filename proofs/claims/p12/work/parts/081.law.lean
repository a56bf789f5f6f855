set_option maxHeartbeats 64000000 in
set_option maxRecDepth 100000 in
theorem whole_start {p : Program} {e : Env} {s : State} {m : MethodId} {below : List Frame} {meth : Method} {c : Code} (l : Launch) (hls : l.stackTraces = false) {b L0 : Nat} {xs : Nat → Int32} (hL : L0 ≤ 2560) (C0 : lw_At p s m meth c b L0 xs) : W p l e room_1 s m #[Value.ref b] below meth c s.heap [] 0 0 (lw_Z below #[Value.ref b] s) (entryFrame m ([Value.ref b] : List Value).toArray 7) := by
  obtain ⟨hx, hb, hr, hml, hown, hts, hX, hbl, hlocks, hgv⟩ := id C0
  have hb : c.code = cL_law := hb
  have hown : s.vm.findClass RL = some m.cls := hown
  have hts0 : ∀ w ∈ wsL_law0, w.before #[Value.ref b] s = true := fun w h => hts w (wsL_law_in0 w h)
  have hA : ∀ q : Nat, s.heap.size ≤ q → (fun q : Nat => s.heap.size ≤ q) q := fun _ h => h
  have hbA : ¬ (fun q : Nat => s.heap.size ≤ q) b := Nat.not_le.mpr hbl
  have hrc : 601024 ≤ room_1.cells := Nat.le_of_ble_eq_true rfl
  have hrs : 7293034 ≤ room_1.slots := Nat.le_of_ble_eq_true rfl
  obtain ⟨c0, i0, K0⟩ := u_known (C := RX0) (T := TX0) (N := 6) (n := 6) hts wi_wsX00 (hts (.instantiable RX0 6) (segsT_in _ (List.mem_of_getElem? (i := 1) rfl) _ (List.mem_of_getElem? (i := 45) rfl)))
  obtain ⟨c1, i1, K1⟩ := u_known (C := RX1) (T := TX1) (N := 3) (n := 3) hts wi_wsX10 (hts (.instantiable RX1 3) (segsT_in _ (List.mem_of_getElem? (i := 1) rfl) _ (List.mem_of_getElem? (i := 27) rfl)))
  obtain ⟨c2, i2, K2⟩ := u_known (C := RX2) (T := TX2) (N := 2) (n := 2) hts wi_wsX20 (hts (.instantiable RX2 2) (segsT_in _ (List.mem_of_getElem? (i := 2) rfl) _ (List.mem_of_getElem? (i := 12) rfl)))
  obtain ⟨c3, i3, K3⟩ := u_known (C := RX3) (T := TX3) (N := 2) (n := 2) hts wi_wsX30 (hts (.instantiable RX3 2) (segsT_in _ (List.mem_of_getElem? (i := 1) rfl) _ (List.mem_of_getElem? (i := 214) rfl)))
  obtain ⟨c4, i4, K4⟩ := u_known (C := RX4) (T := TX4) (N := 4) (n := 4) hts wi_wsX40 (hts (.instantiable RX4 4) (segsT_in _ (List.mem_of_getElem? (i := 1) rfl) _ (List.mem_of_getElem? (i := 229) rfl)))
  obtain ⟨c5, i5, K5⟩ := u_known (C := RX5) (T := TX5) (N := 8) (n := 8) hts wi_wsX50 (hts (.instantiable RX5 8) (segsT_in _ (List.mem_of_getElem? (i := 1) rfl) _ (List.mem_of_getElem? (i := 79) rfl)))
  obtain ⟨c6, i6, K6⟩ := u_known (C := RX6) (T := TX6) (N := 17) (n := 17) hts wi_wsX60 (hts (.instantiable RX6 17) (segsT_in _ (List.mem_of_getElem? (i := 1) rfl) _ (List.mem_of_getElem? (i := 73) rfl)))
  obtain ⟨c7, i7, K7⟩ := u_known (C := RX7) (T := TX7) (N := 2) (n := 2) hts wi_wsX70 (hts (.instantiable RX7 2) (segsT_in _ (List.mem_of_getElem? (i := 1) rfl) _ (List.mem_of_getElem? (i := 176) rfl)))
  obtain ⟨c8, i8, K8⟩ := u_known (C := RX8) (T := TX8) (N := 3) (n := 3) hts wi_wsX80 (hts (.instantiable RX8 3) (segsT_in _ (List.mem_of_getElem? (i := 1) rfl) _ (List.mem_of_getElem? (i := 186) rfl)))
  obtain ⟨c9, i9, K9⟩ := u_known (C := RX9) (T := TX9) (N := 19) (n := 19) hts wi_wsX90 (hts (.instantiable RX9 19) (segsT_in _ (List.mem_of_getElem? (i := 1) rfl) _ (List.mem_of_getElem? (i := 18) rfl)))
  obtain ⟨c10, i10, K10⟩ := u_known (C := RX10) (T := TX10) (N := 58) (n := 58) hts wi_wsX100 (hts (.instantiable RX10 58) (segsT_in _ (List.mem_of_getElem? (i := 4) rfl) _ (List.mem_of_getElem? (i := 31) rfl)))
  obtain ⟨D, hKc⟩ : ∃ D : va_G, ∀ (k : Nat) (q : vw_C), vwCl[k]? = some q → u_Kn s q.1 q.2.1 q.2.2 (D.1 k) (D.2 k) := by
    refine ⟨(fun k => ([c0, c1, c2, c3, c4, c5, c6, c7, c8, c9, c10] : List ClassId).getD k c0, fun k => ([i0, i1, i2, i3, i4, i5, i6, i7, i8, i9, i10] : List (Nat → Nat)).getD k i0), ?_⟩
    intro k q hq
    match k, hq with
    | 0, hq => cases hq; exact K0
    | 1, hq => cases hq; exact K1
    | 2, hq => cases hq; exact K2
    | 3, hq => cases hq; exact K3
    | 4, hq => cases hq; exact K4
    | 5, hq => cases hq; exact K5
    | 6, hq => cases hq; exact K6
    | 7, hq => cases hq; exact K7
    | 8, hq => cases hq; exact K8
    | 9, hq => cases hq; exact K9
    | 10, hq => cases hq; exact K10
    | k + 11, hq => simp [vwCl] at hq
  obtain ⟨t0, kt0, ct0, f01, f02, f03⟩ := Cond.arrayClass_spec (hts (.arrayClass .int) (segsT_in _ (List.mem_of_getElem? (i := 1) rfl) _ (List.mem_of_getElem? (i := 115) rfl)))
  obtain ⟨t1, kt1, ct1, f11, f12, f13⟩ := Cond.arrayClass_spec (hts (.arrayClass .boolean) (segsT_in _ (List.mem_of_getElem? (i := 1) rfl) _ (List.mem_of_getElem? (i := 116) rfl)))
  obtain ⟨ct2, t2, kt2, f21, f22, f23, f24, f25⟩ := Cond.arrayOver_spec (hts (.arrayOver (.object "FondsRoom$Desk")) (segsT_in _ (List.mem_of_getElem? (i := 1) rfl) _ (List.mem_of_getElem? (i := 26) rfl)))
  obtain ⟨ct3, t3, kt3, f31, f32, f33, f34, f35⟩ := Cond.arrayOver_spec (hts (.arrayOver (.object "FondsRoom$Box")) (segsT_in _ (List.mem_of_getElem? (i := 1) rfl) _ (List.mem_of_getElem? (i := 44) rfl)))
  obtain ⟨ct4, t4, kt4, f41, f42, f43, f44, f45⟩ := Cond.arrayOver_spec (hts (.arrayOver (.object "FondsRoom$Reader")) (segsT_in _ (List.mem_of_getElem? (i := 1) rfl) _ (List.mem_of_getElem? (i := 72) rfl)))
  obtain ⟨ct5, t5, kt5, f51, f52, f53, f54, f55⟩ := Cond.arrayOver_spec (hts (.arrayOver (.object "FondsRoom$Worker")) (segsT_in _ (List.mem_of_getElem? (i := 1) rfl) _ (List.mem_of_getElem? (i := 185) rfl)))
  obtain ⟨cy, hK⟩ : ∃ cy : Nat → ClassId, va_K D vwCl (TYS cy) s := by
    refine ⟨fun k => ([t0, t1, t2, t3, t4, t5] : List ClassId).getD k t0, hKc, fun k q hq => ?_⟩
    match k, hq with
    | 0, hq => cases hq; exact ⟨fun N z => ⟨(fun k h => by cases h), kt0, f02, ct0, f03⟩, f01⟩
    | 1, hq => cases hq; exact ⟨fun N z => ⟨(fun k h => by cases h), kt1, f12, ct1, f13⟩, f11⟩
    | 2, hq => cases hq; exact ⟨fun N z => ⟨(fun k h => by cases h), kt2, f23, ct2, f24⟩, kt2, ct2, f23, f24, f21, f25⟩
    | 3, hq => cases hq; exact ⟨fun N z => ⟨(fun k h => by cases h), kt3, f33, ct3, f34⟩, kt3, ct3, f33, f34, f31, f35⟩
    | 4, hq => cases hq; exact ⟨fun N z => ⟨(fun k h => by cases h), kt4, f43, ct4, f44⟩, kt4, ct4, f43, f44, f41, f45⟩
    | 5, hq => cases hq; exact ⟨fun N z => ⟨(fun k h => by cases h), kt5, f53, ct5, f54⟩, kt5, ct5, f53, f54, f51, f55⟩
    | k + 6, hq => simp [TYS] at hq
  have hE : EXT s := ⟨va_AO.of (hts (.arrayOver (.object "FondsRoom$Desk")) (segsT_in _ (List.mem_of_getElem? (i := 1) rfl) _ (List.mem_of_getElem? (i := 26) rfl))), va_AO.of (hts (.arrayOver (.object "FondsRoom$Box")) (segsT_in _ (List.mem_of_getElem? (i := 1) rfl) _ (List.mem_of_getElem? (i := 44) rfl))), va_AO.of (hts (.arrayOver (.object "FondsRoom$Reader")) (segsT_in _ (List.mem_of_getElem? (i := 1) rfl) _ (List.mem_of_getElem? (i := 72) rfl))), va_AO.of (hts (.arrayOver (.object "FondsRoom$Worker")) (segsT_in _ (List.mem_of_getElem? (i := 1) rfl) _ (List.mem_of_getElem? (i := 185) rfl))), va_Nw.of rfl (hts (.methodLinkNest RX7 21 yX8_init "FondsRoom") (segsT_in _ (List.mem_of_getElem? (i := 1) rfl) _ (List.mem_of_getElem? (i := 187) rfl)))⟩
  have hflat := flat_of_before _ hgv
  have hZ1 : vx_Zq Bundle.tN "UNASSIGNED_STACK" Bundle.steD (fun q : Nat => s.heap.size ≤ q) s s.heap := vx_Zqof (hts (.laysStatic Bundle.tN "UNASSIGNED_STACK" Bundle.steD) (by decide +kernel)) (hts (.initialized Bundle.tN) (by decide +kernel)) (hflat (.isRef (.static Bundle.tN "UNASSIGNED_STACK" Bundle.steD)) (by decide +kernel)) (fun a ha => Nat.not_le.mpr ha)
  have hZ2 : vx_Zq Bundle.tN "SUPPRESSED_SENTINEL" Bundle.listD (fun q : Nat => s.heap.size ≤ q) s s.heap := vx_Zqof (hts (.laysStatic Bundle.tN "SUPPRESSED_SENTINEL" Bundle.listD) (by decide +kernel)) (hts (.initialized Bundle.tN) (by decide +kernel)) (hflat (.isRef (.static Bundle.tN "SUPPRESSED_SENTINEL" Bundle.listD)) (by decide +kernel)) (fun a ha => Nat.not_le.mpr ha)
  obtain ⟨sa, cSa, cellSa, kSa, hsa, -⟩ := Cond.exactly_spec (hflat (.exactly (.string "FondsRoom" 452) "java/lang/String") (by decide +kernel))
  have hstr : vk_R RX9 452 "no such event" sa s := vk_R.of (hts (.stringRef "FondsRoom" 452 "no such event") (segsT_in _ (List.mem_of_getElem? (i := 3) rfl) _ (List.mem_of_getElem? (i := 238) rfl))) hsa
  have hcst : NWX s := ⟨va_Nw.of rfl (hts (.castable NSE NSE) (by decide +kernel)), va_Nw.of rfl (hts (.declares ⟨"java/lang/RuntimeException", "<init>", "(Ljava/lang/String;)V"⟩) (by decide +kernel)), va_Nw.of rfl (hts (.declares ⟨"java/lang/Exception", "<init>", "(Ljava/lang/String;)V"⟩) (by decide +kernel)), va_Nw.of rfl (hts (.declares ⟨"java/lang/Throwable", "<init>", "(Ljava/lang/String;)V"⟩) (by decide +kernel))⟩
  have hS : va_S (fun q : Nat => s.heap.size ≤ q) s.heap s.heap [] := va_S.rf
  have hP : va_P D vwCl [] s.heap := P0
  have hD : va_D (fun q : Nat => s.heap.size ≤ q) [] := D0
  have hl := lv_entry ([.ref b]) (n := 7) (Nat.le_of_ble_eq_true rfl)
  rw [lg_entry_eq]
  generalize (lg_sl ([.ref b]) ++ List.replicate (7 - (lg_sl ([.ref b])).length) Slot.unset).toArray = ls at hl ⊢
  have hl : lv_has ls 7 [(0, .ref b)] := hl
  refine va_new (ci := 9) (fs := [.null, .null, .null, .null, .null, .null, .null, .null, .null, .null, .int 0, .int 0, .int 0, .int 0, .int 0, .int 0, .int 0, .int 0, .int 0]) (C := RX9) (T := TX9) (N := 19) hx hb hts wi_wsX90 tyX9 tyX9_ok hown (hts (.classLink RL 8 RX9) (segsT_in _ (List.mem_of_getElem? (i := 1) rfl) _ (List.mem_of_getElem? (i := 17) rfl))) (hts (.instantiable RX9 19) (segsT_in _ (List.mem_of_getElem? (i := 1) rfl) _ (List.mem_of_getElem? (i := 18) rfl))) (hts (.initialized RX9) (segsT_in _ (List.mem_of_getElem? (i := 1) rfl) _ (List.mem_of_getElem? (i := 1) rfl))) hK hP hD hS hA rfl (fun j hj => by rcases (show j = 0 ∨ j = 1 ∨ j = 2 ∨ j = 3 ∨ j = 4 ∨ j = 5 ∨ j = 6 ∨ j = 7 ∨ j = 8 ∨ j = 9 ∨ j = 10 ∨ j = 11 ∨ j = 12 ∨ j = 13 ∨ j = 14 ∨ j = 15 ∨ j = 16 ∨ j = 17 ∨ j = 18 by omega) with rfl | rfl | rfl | rfl | rfl | rfl | rfl | rfl | rfl | rfl | rfl | rfl | rfl | rfl | rfl | rfl | rfl | rfl | rfl <;> rfl) (Nat.le_of_ble_eq_true rfl) (Nat.le_of_ble_eq_true rfl) dL_law_0 (fun a9 H hP hD hS => ?_)
  refine lv_dup hx hb dL_law_3 rfl ?_
  refine ciH (wa := ([] : va_W)) (As := []) (rest := [.ref a9]) ⟨hx, hb, hml, hown, hts0⟩ (mX9_init l D cy _ a9) (cwI 0 hts0 gL_law_X9_init rfl rfl rfl (hts (.initialized RX9) (segsT_in _ (List.mem_of_getElem? (i := 1) rfl) _ (List.mem_of_getElem? (i := 1) rfl))) (hts (.methodLink RL 15 yX9_init) (segsT_in _ (List.mem_of_getElem? (i := 1) rfl) _ (List.mem_of_getElem? (i := 19) rfl))) (hts (.instanceMethod yX9_init) (segsT_in _ (List.mem_of_getElem? (i := 1) rfl) _ (List.mem_of_getElem? (i := 20) rfl))) rfl (by decide +kernel) ⟨Nat.le_of_ble_eq_true rfl, Nat.le_of_ble_eq_true rfl⟩) hE hK hP hD hS hA rfl hl.1 rfl (Nat.le_of_ble_eq_true rfl) dL_law_4 ⟨Nat.le_of_ble_eq_true rfl, Nat.le_of_ble_eq_true rfl⟩ (fun u9 H locs hu9 hP hD hS => ?_)
  obtain ⟨xq, g, L, K, cf, nm⟩ := u9
  obtain ⟨x, ex⟩ : ∃ x : Nat → Nat, x = fun k => if k = 0 then a9 else xq k := ⟨_, rfl⟩
  have ex0 : x 0 = a9 := by rw [ex]; rfl
  have hP2 : va_P D vwCl (XW x cy g N0 n0 (fun _ _ => 0) (fun _ _ => none) ++ va_pl L (f0 cy K cf nm)) H := by rw [ex]; exact hP
  have hD2 : va_D (fun q9 : Nat => s.heap.size ≤ q9) (XW x cy g N0 n0 (fun _ _ => 0) (fun _ _ => none) ++ va_pl L (f0 cy K cf nm)) := by rw [ex]; exact hD
  clear hP hD ex
  subst ex0
  have hP : va_P D vwCl (XW x cy g N0 n0 (fun _ _ => 0) (fun _ _ => none) ++ va_pl L (f0 cy K cf nm)) H := hP2
  have hD : va_D (fun q9 : Nat => s.heap.size ≤ q9) (XW x cy g N0 n0 (fun _ _ => 0) (fun _ _ => none) ++ va_pl L (f0 cy K cf nm)) := hD2
  clear hP2 hD2
  refine lv_astore_n (lv' := [(1, .ref (x 0)), (0, .ref b)]) hx hb dL_law_7 rfl hl (by decide) rfl (fun ls hl => ?_)
  refine va_new (ci := 10) (fs := [.int 0, .int 0, .int 0, .int 0, .int 0, .int 0, .int 0, .int 0, .int 0, .null, .null, .null, .null, .null, .null, .null, .null, .null, .null, .null, .int 0, .int 0, .int 0, .int 0, .null, .null, .null, .null, .null, .null, .null, .null, .null, .null, .null, .null, .null, .null, .null, .null, .null, .null, .null, .null, .null, .null, .null, .int 0, .null, .null, .null, .null, .int 0, .null, .null, .null, .null, .int 0]) (C := RX10) (T := TX10) (N := 58) hx hb hts wi_wsX100 tyX10 tyX10_ok hown (hts (.classLink RL 16 RX10) (segsT_in _ (List.mem_of_getElem? (i := 4) rfl) _ (List.mem_of_getElem? (i := 30) rfl))) (hts (.instantiable RX10 58) (segsT_in _ (List.mem_of_getElem? (i := 4) rfl) _ (List.mem_of_getElem? (i := 31) rfl))) (hts (.initialized RX10) (segsT_in _ (List.mem_of_getElem? (i := 1) rfl) _ (List.mem_of_getElem? (i := 12) rfl))) hK hP hD hS hA rfl (fun j hj => by rcases (show j = 0 ∨ j = 1 ∨ j = 2 ∨ j = 3 ∨ j = 4 ∨ j = 5 ∨ j = 6 ∨ j = 7 ∨ j = 8 ∨ j = 9 ∨ j = 10 ∨ j = 11 ∨ j = 12 ∨ j = 13 ∨ j = 14 ∨ j = 15 ∨ j = 16 ∨ j = 17 ∨ j = 18 ∨ j = 19 ∨ j = 20 ∨ j = 21 ∨ j = 22 ∨ j = 23 ∨ j = 24 ∨ j = 25 ∨ j = 26 ∨ j = 27 ∨ j = 28 ∨ j = 29 ∨ j = 30 ∨ j = 31 ∨ j = 32 ∨ j = 33 ∨ j = 34 ∨ j = 35 ∨ j = 36 ∨ j = 37 ∨ j = 38 ∨ j = 39 ∨ j = 40 ∨ j = 41 ∨ j = 42 ∨ j = 43 ∨ j = 44 ∨ j = 45 ∨ j = 46 ∨ j = 47 ∨ j = 48 ∨ j = 49 ∨ j = 50 ∨ j = 51 ∨ j = 52 ∨ j = 53 ∨ j = 54 ∨ j = 55 ∨ j = 56 ∨ j = 57 by omega) with rfl | rfl | rfl | rfl | rfl | rfl | rfl | rfl | rfl | rfl | rfl | rfl | rfl | rfl | rfl | rfl | rfl | rfl | rfl | rfl | rfl | rfl | rfl | rfl | rfl | rfl | rfl | rfl | rfl | rfl | rfl | rfl | rfl | rfl | rfl | rfl | rfl | rfl | rfl | rfl | rfl | rfl | rfl | rfl | rfl | rfl | rfl | rfl | rfl | rfl | rfl | rfl | rfl | rfl | rfl | rfl | rfl | rfl <;> rfl) (Nat.le_of_ble_eq_true rfl) (Nat.le_of_ble_eq_true rfl) dL_law_8 (fun a10 H hP hD hS => ?_)
  refine lv_dup hx hb dL_law_11 rfl ?_
  refine ciH (wa := XW x cy g N0 n0 (fun _ _ => 0) (fun _ _ => none) ++ va_pl L (f0 cy K cf nm)) (As := []) (rest := [.ref a10]) ⟨hx, hb, hml, hown, hts0⟩ (mX10_init l D cy _ a10) (cwI 0 hts0 gL_law_X10_init rfl rfl rfl (hts (.initialized RX10) (segsT_in _ (List.mem_of_getElem? (i := 1) rfl) _ (List.mem_of_getElem? (i := 12) rfl))) (hts (.methodLink RL 18 yX10_init) (segsT_in _ (List.mem_of_getElem? (i := 4) rfl) _ (List.mem_of_getElem? (i := 32) rfl))) (hts (.instanceMethod yX10_init) (segsT_in _ (List.mem_of_getElem? (i := 4) rfl) _ (List.mem_of_getElem? (i := 33) rfl))) rfl (by decide +kernel) ⟨Nat.le_of_ble_eq_true rfl, Nat.le_of_ble_eq_true rfl⟩) hE hK hP hD hS hA rfl hl.1 rfl (Nat.le_of_ble_eq_true rfl) dL_law_12 ⟨Nat.le_of_ble_eq_true rfl, Nat.le_of_ble_eq_true rfl⟩ (fun u10 H locs hu10 hP hD hS => ?_)
  obtain ⟨yq, _gz⟩ := u10
  obtain ⟨y, ey⟩ : ∃ y : Nat → Nat, y = fun k => if k = 0 then a10 else yq k := ⟨_, rfl⟩
  have ey0 : y 0 = a10 := by rw [ey]; rfl
  have hP2 : va_P D vwCl (XW x cy g N0 n0 (fun _ _ => 0) (fun _ _ => none) ++ va_pl L (f0 cy K cf nm) ++ YW y cy S0) H := by rw [ey]; exact hP
  have hD2 : va_D (fun q9 : Nat => s.heap.size ≤ q9) (XW x cy g N0 n0 (fun _ _ => 0) (fun _ _ => none) ++ va_pl L (f0 cy K cf nm) ++ YW y cy S0) := by rw [ey]; exact hD
  clear hP hD ey
  subst ey0
  have hP : va_P D vwCl (XW x cy g N0 n0 (fun _ _ => 0) (fun _ _ => none) ++ va_pl L (f0 cy K cf nm) ++ YW y cy S0) H := hP2
  have hD : va_D (fun q9 : Nat => s.heap.size ≤ q9) (XW x cy g N0 n0 (fun _ _ => 0) (fun _ _ => none) ++ va_pl L (f0 cy K cf nm) ++ YW y cy S0) := hD2
  clear hP2 hD2
  refine lv_astore_n (lv' := [(2, .ref (y 0)), (1, .ref (x 0)), (0, .ref b)]) hx hb dL_law_15 rfl hl (by decide) rfl (fun ls hl => ?_)
  refine lv_iconst (v := 1) hx hb dL_law_16 (by decide) ?_
  refine va_newa (atype := .long) (ty := .long) (a0 := (1, .inr (.inl (fun _ => 0)))) hx hb (hts (.arrayClass .long) (segsT_in _ (List.mem_of_getElem? (i := 5) rfl) _ (List.mem_of_getElem? (i := 183) rfl))) rfl hK hP hD hS hA (fun _ => rfl) (by decide) (by decide) (by decide) (Nat.le_of_ble_eq_true rfl) (Nat.le_of_ble_eq_true rfl) dL_law_17 (fun ao co H hK2 hP hD hS => ?_)
  have hP : va_P D vwCl ((OU ao co (fun _ => 0) ++ (XW x cy g N0 n0 (fun _ _ => 0) (fun _ _ => none) ++ va_pl L (f0 cy K cf nm))) ++ YW y cy S0) H := third_P hP
  have hD : va_D (fun q9 : Nat => s.heap.size ≤ q9) ((OU ao co (fun _ => 0) ++ (XW x cy g N0 n0 (fun _ _ => 0) (fun _ _ => none) ++ va_pl L (f0 cy K cf nm))) ++ YW y cy S0) := third_D hD
  refine lv_astore_n (lv' := [(3, .ref ao), (2, .ref (y 0)), (1, .ref (x 0)), (0, .ref b)]) hx hb dL_law_19 rfl hl (by decide) rfl (fun ls hl => ?_)
  refine lv_iconst (v := 0) hx hb dL_law_20 (by decide) ?_
  refine lv_istore (lv' := [(4, .int 0), (3, .ref ao), (2, .ref (y 0)), (1, .ref (x 0)), (0, .ref b)]) hx hb dL_law_21 hl (by decide) rfl (fun ls hl => ?_)
  have hG : GO L K g := INI_GO hu9
  have hL : PL L K cf := hu9.1.1
  obtain ⟨A, he⟩ : ∃ A, EN g cf nm A := ⟨_, EN_of hu9⟩
  have hP : va_P D vwCl ((OU ao co (fun _ => 0) ++ (ZW x cy g CZ ++ va_pl L (pf cy K cf nm CZ))) ++ YW y cy S0) H := by rw [← W_0 (x := x) (cy := cy) (g := g) (nm := nm) hL]; exact hP
  have hD : va_D (fun q9 : Nat => s.heap.size ≤ q9) ((OU ao co (fun _ => 0) ++ (ZW x cy g CZ ++ va_pl L (pf cy K cf nm CZ))) ++ YW y cy S0) := by rw [← W_0 (x := x) (cy := cy) (g := g) (nm := nm) hL]; exact hD
  have loop : ∀ (k i : Nat), L0 < i + k → i ≤ 2560 → ∀ (C : CS) (fo : Nat → Int64) (S : RS), WT L K C.2 → RX (RMN (NTB 0 (200 * i))) A cf C S → ∀ (H : Heap) (locs : List Loc) (ls : Array Slot), va_P D vwCl ((OU ao co fo ++ (ZW x cy g C ++ va_pl L (pf cy K cf nm C))) ++ YW y cy S) H → va_D (fun q9 : Nat => s.heap.size ≤ q9) ((OU ao co fo ++ (ZW x cy g C ++ va_pl L (pf cy K cf nm C))) ++ YW y cy S) → va_S (fun q : Nat => s.heap.size ≤ q) s.heap H locs → lv_has ls 7 [(0, .ref b), (1, .ref (x 0)), (2, .ref (y 0)), (3, .ref ao), (4, .int (nI i))] → W p l e room_1 s m #[Value.ref b] below meth c H locs (300 + i) (20000 + 6 * i) (lw_Z below #[Value.ref b] s) (F0 m 23 ls []) := by
    intro k
    induction k with
    | zero =>
      intro i hk hi C fo S hT hXQ H locs ls hP hD hS hl
      refine lv_iload hx hb dL_law_23 (lv_at hl 4 rfl) ?_
      refine lv_aload_n hx hb dL_law_25 rfl (lv_at hl 0 rfl) ?_
      refine va_slen hx hb hX hbl hbA hS dL_law_26 ?_
      refine lv_topi (fun y1 ey1 => ?_)
      obtain rfl : nI L0 = y1 := ey1.symm
      refine lv_iconst (v := 5) hx hb dL_law_27 (by decide) ?_
      refine lv_isub hx hb dL_law_28 ?_
      refine lv_icmp_gt (tgt := 974) hx hb dL_law_29 (by decide) (fun c9 => ?_) (fun c9 => ?_)
      · skip
        refine lv_iconst (v := 1) hx hb dL_law_974 (by decide) ?_
        refine va_forget (fun q9 h9 => hS.2.2 q9 h9) ?_
        refine W.widen (k := 601024) (n := 7293034) (by omega) (by omega) ?_
        exact lw_ret hx hb hr hlocks dL_law_975
      · exfalso
        rw [fa_lt, show (5 : Int32) = nI 5 from rfl, pk_sub_toInt (by omega) (by omega), nI_toInt (by omega)] at c9
        omega
    | succ k ih =>
      intro i hk hi C fo S hT hXQ H locs ls hP hD hS hl
      refine lv_iload hx hb dL_law_23 (lv_at hl 4 rfl) ?_
      refine lv_aload_n hx hb dL_law_25 rfl (lv_at hl 0 rfl) ?_
      refine va_slen hx hb hX hbl hbA hS dL_law_26 ?_
      refine lv_topi (fun y2 ey2 => ?_)
      obtain rfl : nI L0 = y2 := ey2.symm
      refine lv_iconst (v := 5) hx hb dL_law_27 (by decide) ?_
      refine lv_isub hx hb dL_law_28 ?_
      refine lv_icmp_gt (tgt := 974) hx hb dL_law_29 (by decide) (fun c9 => ?_) (fun c9 => ?_)
      · skip
        refine lv_iconst (v := 1) hx hb dL_law_974 (by decide) ?_
        refine va_forget (fun q9 h9 => hS.2.2 q9 h9) ?_
        refine W.widen (k := 601024) (n := 7293034) (by omega) (by omega) ?_
        exact lw_ret hx hb hr hlocks dL_law_975
      · skip
        have hi5 : i + 5 ≤ L0 := by
          rw [fa_lt, show (5 : Int32) = nI 5 from rfl, pk_sub_toInt (by omega) (by omega), nI_toInt (by omega)] at c9
          omega
        obtain ⟨v0, hv0⟩ : ∃ z : Int32, z = xs (i) := ⟨_, rfl⟩
        obtain ⟨v1, hv1⟩ : ∃ z : Int32, z = xs (i + 1) := ⟨_, rfl⟩
        obtain ⟨v2, hv2⟩ : ∃ z : Int32, z = xs (i + 2) := ⟨_, rfl⟩
        obtain ⟨v3, hv3⟩ : ∃ z : Int32, z = xs (i + 3) := ⟨_, rfl⟩
        obtain ⟨v4, hv4⟩ : ∃ z : Int32, z = xs (i + 4) := ⟨_, rfl⟩
        refine lv_aload_n hx hb dL_law_32 rfl (lv_at hl 0 rfl) ?_
        refine lv_iload hx hb dL_law_33 (lv_at hl 4 rfl) ?_
        refine va_sld hx hb hX hbl hbA hS (vp_in_nI (by omega) (by omega)) dL_law_35 ?_
        refine lv_topi (fun y3 ey3 => ?_)
        rw [nI_clamp (by omega)] at ey3
        obtain rfl : v0 = y3 := hv0.trans ey3.symm
        refine lv_bipush (v := 31) hx hb dL_law_36 (by decide) ?_
        refine lv_iand hx hb dL_law_38 ?_
        refine lv_topi (fun wd ewd => ?_)
        by_cases j0 : wd = 0
        · skip
          refine lv_tableIn (tgt := 136) hx hb dL_law_39 (by rw [j0]; decide) (by rw [j0]; decide) (by rw [j0]; rfl) (by decide) ?_
          refine lv_aload_n hx hb dL_law_136 rfl (lv_at hl 1 rfl) ?_
          refine lv_aload_n hx hb dL_law_137 rfl (lv_at hl 0 rfl) ?_
          refine lv_iload hx hb dL_law_138 (lv_at hl 4 rfl) ?_
          refine lv_iconst (v := 1) hx hb dL_law_140 (by decide) ?_
          refine lv_iadd hx hb dL_law_141 ?_
          refine lv_tov (v' := .int (nI (i + 1))) (congrArg Value.int (nI_add i 1)) ?_
          refine va_sld hx hb hX hbl hbA hS (vp_in_nI (by omega) (by omega)) dL_law_142 ?_
          refine lv_topi (fun y4 ey4 => ?_)
          rw [nI_clamp (by omega)] at ey4
          obtain rfl : v1 = y4 := hv1.trans ey4.symm
          by_cases c5 : v1 = 0
          · skip
            refine lv_if_eq (tgt := 150) hx hb dL_law_143 (by decide) (fun _ => ?_) (fun c9 => absurd c5 c9)
            refine lv_iconst (v := 0) hx hb dL_law_150 (by decide) ?_
            obtain ⟨⟨rc6, C8⟩, ⟨rs7, S9⟩, ec10, es11, eq12, hXQ⟩ := w_desk he hXQ (w := 0) (Or.inl rfl)
            refine mvI (wo := OU ao co fo) (As := [.int 0]) (rest := []) ⟨hx, hb, hml, hown, hts0⟩ (zX9_desk l D x cy g L K cf nm hG hL C hT _ 0 rc6 C8 ec10) (cwV 1 hts0 gL_law_X9_desk rfl rfl rfl (by decide +kernel) ⟨Nat.le_of_ble_eq_true rfl, Nat.le_of_ble_eq_true rfl⟩) hK hP hD hS hA (fun h9 => va_recv hK h9 (ci := 9) (q0 := 0) rfl rfl) rfl hl.1 rfl (Nat.le_of_ble_eq_true rfl) dL_law_151 ⟨by omega, by omega⟩ (fun a15 u13 H locs hw14 hP hD hS => ?_)
            obtain ⟨hw14, hT⟩ := hw14
            have hP : va_P D vwCl ((OU ao co fo ++ (ZW x cy g C8 ++ va_pl L (pf cy K cf nm C8))) ++ YW y cy S) H := hP
            have hD : va_D (fun q9 : Nat => s.heap.size ≤ q9) ((OU ao co fo ++ (ZW x cy g C8 ++ va_pl L (pf cy K cf nm C8))) ++ YW y cy S) := hD
            refine lv_tov (v' := .int rc6) (congrArg Value.int hw14) ?_
            refine lv_pop hx hb dL_law_154 rfl ?_
            refine lv_aload_n hx hb dL_law_155 rfl (lv_at hl 2 rfl) ?_
            refine lv_aload_n hx hb dL_law_156 rfl (lv_at hl 0 rfl) ?_
            refine lv_iload hx hb dL_law_157 (lv_at hl 4 rfl) ?_
            refine lv_iconst (v := 1) hx hb dL_law_159 (by decide) ?_
            refine lv_iadd hx hb dL_law_160 ?_
            refine lv_tov (v' := .int (nI (i + 1))) (congrArg Value.int (nI_add i 1)) ?_
            refine va_sld hx hb hX hbl hbA hS (vp_in_nI (by omega) (by omega)) dL_law_161 ?_
            refine lv_topi (fun y16 ey16 => ?_)
            rw [nI_clamp (by omega)] at ey16
            obtain rfl : v1 = y16 := hv1.trans ey16.symm
            refine lv_if_eq (tgt := 169) hx hb dL_law_162 (by decide) (fun _ => ?_) (fun c9 => absurd c5 c9)
            refine lv_iconst (v := 0) hx hb dL_law_169 (by decide) ?_
            refine hvI (As := [.int 0]) (rest := []) ⟨hx, hb, hml, hown, hts0⟩ (zX10_desk l D y cy S _ 0 rs7 S9 es11) (cwV 1 hts0 gL_law_X10_desk rfl rfl rfl (by decide +kernel) ⟨Nat.le_of_ble_eq_true rfl, Nat.le_of_ble_eq_true rfl⟩) hK hP hD hS hA (fun h9 => va_recv hK h9 (ci := 10) (q0 := 0) rfl rfl) rfl hl.1 rfl (Nat.le_of_ble_eq_true rfl) dL_law_170 ⟨by omega, by omega⟩ (fun a17 u18 H locs hw19 hP hD hS => ?_)
            have hP : va_P D vwCl ((OU ao co fo ++ (ZW x cy g C8 ++ va_pl L (pf cy K cf nm C8))) ++ YW y cy S9) H := hP
            have hD : va_D (fun q9 : Nat => s.heap.size ≤ q9) ((OU ao co fo ++ (ZW x cy g C8 ++ va_pl L (pf cy K cf nm C8))) ++ YW y cy S9) := hD
            refine lv_tov (v' := .int rs7) (congrArg Value.int hw19) ?_
            refine lv_pop hx hb dL_law_173 rfl ?_
            refine lv_goto (tgt := 968) hx hb dL_law_174 (by decide) ?_
            refine lv_iinc (v := nI (i + 5)) (lv' := [(4, .int (nI (i + 5))), (0, .ref b), (1, .ref (x 0)), (2, .ref (y 0)), (3, .ref ao)]) hx hb dL_law_968 hl (k := 4) rfl (nI_add i 5) (by decide) rfl (fun ls hl => ?_)
            refine lv_goto (tgt := 23) hx hb dL_law_971 (by decide) ?_
            refine W.widen (k := 300 + (i + 5)) (n := 20000 + 6 * (i + 5)) (by omega) (by omega) ?_
            exact ih (i + 5) (by omega) (by omega) C8 fo S9 hT (RX_B hXQ (by omega)) H _ _ hP hD hS (lv_sub hl [1, 2, 3, 4, 0] rfl)
          · skip
            refine lv_if_eq (tgt := 150) hx hb dL_law_143 (by decide) (fun c9 => absurd c9 c5) (fun _ => ?_)
            refine lv_iconst (v := 1) hx hb dL_law_146 (by decide) ?_
            refine lv_goto (tgt := 151) hx hb dL_law_147 (by decide) ?_
            obtain ⟨⟨rc20, C22⟩, ⟨rs21, S23⟩, ec24, es25, eq26, hXQ⟩ := w_desk he hXQ (w := 1) (Or.inr rfl)
            refine mvI (wo := OU ao co fo) (As := [.int 1]) (rest := []) ⟨hx, hb, hml, hown, hts0⟩ (zX9_desk l D x cy g L K cf nm hG hL C hT _ 1 rc20 C22 ec24) (cwV 1 hts0 gL_law_X9_desk rfl rfl rfl (by decide +kernel) ⟨Nat.le_of_ble_eq_true rfl, Nat.le_of_ble_eq_true rfl⟩) hK hP hD hS hA (fun h9 => va_recv hK h9 (ci := 9) (q0 := 0) rfl rfl) rfl hl.1 rfl (Nat.le_of_ble_eq_true rfl) dL_law_151 ⟨by omega, by omega⟩ (fun a29 u27 H locs hw28 hP hD hS => ?_)
            obtain ⟨hw28, hT⟩ := hw28
            have hP : va_P D vwCl ((OU ao co fo ++ (ZW x cy g C22 ++ va_pl L (pf cy K cf nm C22))) ++ YW y cy S) H := hP
            have hD : va_D (fun q9 : Nat => s.heap.size ≤ q9) ((OU ao co fo ++ (ZW x cy g C22 ++ va_pl L (pf cy K cf nm C22))) ++ YW y cy S) := hD
            refine lv_tov (v' := .int rc20) (congrArg Value.int hw28) ?_
            refine lv_pop hx hb dL_law_154 rfl ?_
            refine lv_aload_n hx hb dL_law_155 rfl (lv_at hl 2 rfl) ?_
            refine lv_aload_n hx hb dL_law_156 rfl (lv_at hl 0 rfl) ?_
            refine lv_iload hx hb dL_law_157 (lv_at hl 4 rfl) ?_
            refine lv_iconst (v := 1) hx hb dL_law_159 (by decide) ?_
            refine lv_iadd hx hb dL_law_160 ?_
            refine lv_tov (v' := .int (nI (i + 1))) (congrArg Value.int (nI_add i 1)) ?_
            refine va_sld hx hb hX hbl hbA hS (vp_in_nI (by omega) (by omega)) dL_law_161 ?_
            refine lv_topi (fun y30 ey30 => ?_)
            rw [nI_clamp (by omega)] at ey30
            obtain rfl : v1 = y30 := hv1.trans ey30.symm
            refine lv_if_eq (tgt := 169) hx hb dL_law_162 (by decide) (fun c9 => absurd c9 c5) (fun _ => ?_)
            refine lv_iconst (v := 1) hx hb dL_law_165 (by decide) ?_
            refine lv_goto (tgt := 170) hx hb dL_law_166 (by decide) ?_
            refine hvI (As := [.int 1]) (rest := []) ⟨hx, hb, hml, hown, hts0⟩ (zX10_desk l D y cy S _ 1 rs21 S23 es25) (cwV 1 hts0 gL_law_X10_desk rfl rfl rfl (by decide +kernel) ⟨Nat.le_of_ble_eq_true rfl, Nat.le_of_ble_eq_true rfl⟩) hK hP hD hS hA (fun h9 => va_recv hK h9 (ci := 10) (q0 := 0) rfl rfl) rfl hl.1 rfl (Nat.le_of_ble_eq_true rfl) dL_law_170 ⟨by omega, by omega⟩ (fun a31 u32 H locs hw33 hP hD hS => ?_)
            have hP : va_P D vwCl ((OU ao co fo ++ (ZW x cy g C22 ++ va_pl L (pf cy K cf nm C22))) ++ YW y cy S23) H := hP
            have hD : va_D (fun q9 : Nat => s.heap.size ≤ q9) ((OU ao co fo ++ (ZW x cy g C22 ++ va_pl L (pf cy K cf nm C22))) ++ YW y cy S23) := hD
            refine lv_tov (v' := .int rs21) (congrArg Value.int hw33) ?_
            refine lv_pop hx hb dL_law_173 rfl ?_
            refine lv_goto (tgt := 968) hx hb dL_law_174 (by decide) ?_
            refine lv_iinc (v := nI (i + 5)) (lv' := [(4, .int (nI (i + 5))), (0, .ref b), (1, .ref (x 0)), (2, .ref (y 0)), (3, .ref ao)]) hx hb dL_law_968 hl (k := 4) rfl (nI_add i 5) (by decide) rfl (fun ls hl => ?_)
            refine lv_goto (tgt := 23) hx hb dL_law_971 (by decide) ?_
            refine W.widen (k := 300 + (i + 5)) (n := 20000 + 6 * (i + 5)) (by omega) (by omega) ?_
            exact ih (i + 5) (by omega) (by omega) C22 fo S23 hT (RX_B hXQ (by omega)) H _ _ hP hD hS (lv_sub hl [1, 2, 3, 4, 0] rfl)
        by_cases j1 : wd = 1
        · skip
          refine lv_tableIn (tgt := 177) hx hb dL_law_39 (by rw [j1]; decide) (by rw [j1]; decide) (by rw [j1]; rfl) (by decide) ?_
          refine lv_aload_n hx hb dL_law_177 rfl (lv_at hl 1 rfl) ?_
          refine lv_aload_n hx hb dL_law_178 rfl (lv_at hl 0 rfl) ?_
          refine lv_iload hx hb dL_law_179 (lv_at hl 4 rfl) ?_
          refine lv_iconst (v := 1) hx hb dL_law_181 (by decide) ?_
          refine lv_iadd hx hb dL_law_182 ?_
          refine lv_tov (v' := .int (nI (i + 1))) (congrArg Value.int (nI_add i 1)) ?_
          refine va_sld hx hb hX hbl hbA hS (vp_in_nI (by omega) (by omega)) dL_law_183 ?_
          refine lv_topi (fun y34 ey34 => ?_)
          rw [nI_clamp (by omega)] at ey34
          obtain rfl : v1 = y34 := hv1.trans ey34.symm
          refine lv_aload_n hx hb dL_law_184 rfl (lv_at hl 0 rfl) ?_
          refine lv_iload hx hb dL_law_185 (lv_at hl 4 rfl) ?_
          refine lv_iconst (v := 2) hx hb dL_law_187 (by decide) ?_
          refine lv_iadd hx hb dL_law_188 ?_
          refine lv_tov (v' := .int (nI (i + 2))) (congrArg Value.int (nI_add i 2)) ?_
          refine va_sld hx hb hX hbl hbA hS (vp_in_nI (by omega) (by omega)) dL_law_189 ?_
          refine lv_topi (fun y35 ey35 => ?_)
          rw [nI_clamp (by omega)] at ey35
          obtain rfl : v2 = y35 := hv2.trans ey35.symm
          by_cases c36 : v2 = 0
          · skip
            refine lv_if_eq (tgt := 197) hx hb dL_law_190 (by decide) (fun _ => ?_) (fun c9 => absurd c36 c9)
            refine lv_iconst (v := 0) hx hb dL_law_197 (by decide) ?_
            obtain ⟨⟨rc37, C39⟩, ⟨rs38, S40⟩, ec41, es42, eq43, hXQ⟩ := w_box he hXQ (w := 0) v1 (Or.inl rfl)
            refine mvI (wo := OU ao co fo) (As := [.int v1, .int 0]) (rest := []) ⟨hx, hb, hml, hown, hts0⟩ (zX9_box l D x cy g L K cf nm hG hL C hT _ v1 0 rc37 C39 ec41) (cwV 2 hts0 gL_law_X9_box rfl rfl rfl (by decide +kernel) ⟨Nat.le_of_ble_eq_true rfl, Nat.le_of_ble_eq_true rfl⟩) hK hP hD hS hA (fun h9 => va_recv hK h9 (ci := 9) (q0 := 0) rfl rfl) rfl hl.1 rfl (Nat.le_of_ble_eq_true rfl) dL_law_198 ⟨by omega, by omega⟩ (fun a46 u44 H locs hw45 hP hD hS => ?_)
            obtain ⟨hw45, hT⟩ := hw45
            have hP : va_P D vwCl ((OU ao co fo ++ (ZW x cy g C39 ++ va_pl L (pf cy K cf nm C39))) ++ YW y cy S) H := hP
            have hD : va_D (fun q9 : Nat => s.heap.size ≤ q9) ((OU ao co fo ++ (ZW x cy g C39 ++ va_pl L (pf cy K cf nm C39))) ++ YW y cy S) := hD
            refine lv_tov (v' := .int rc37) (congrArg Value.int hw45) ?_
            refine lv_pop hx hb dL_law_201 rfl ?_
            refine lv_aload_n hx hb dL_law_202 rfl (lv_at hl 2 rfl) ?_
            refine lv_aload_n hx hb dL_law_203 rfl (lv_at hl 0 rfl) ?_
            refine lv_iload hx hb dL_law_204 (lv_at hl 4 rfl) ?_
            refine lv_iconst (v := 1) hx hb dL_law_206 (by decide) ?_
            refine lv_iadd hx hb dL_law_207 ?_
            refine lv_tov (v' := .int (nI (i + 1))) (congrArg Value.int (nI_add i 1)) ?_
            refine va_sld hx hb hX hbl hbA hS (vp_in_nI (by omega) (by omega)) dL_law_208 ?_
            refine lv_topi (fun y47 ey47 => ?_)
            rw [nI_clamp (by omega)] at ey47
            obtain rfl : v1 = y47 := hv1.trans ey47.symm
            refine lv_aload_n hx hb dL_law_209 rfl (lv_at hl 0 rfl) ?_
            refine lv_iload hx hb dL_law_210 (lv_at hl 4 rfl) ?_
            refine lv_iconst (v := 2) hx hb dL_law_212 (by decide) ?_
            refine lv_iadd hx hb dL_law_213 ?_
            refine lv_tov (v' := .int (nI (i + 2))) (congrArg Value.int (nI_add i 2)) ?_
            refine va_sld hx hb hX hbl hbA hS (vp_in_nI (by omega) (by omega)) dL_law_214 ?_
            refine lv_topi (fun y48 ey48 => ?_)
            rw [nI_clamp (by omega)] at ey48
            obtain rfl : v2 = y48 := hv2.trans ey48.symm
            refine lv_if_eq (tgt := 222) hx hb dL_law_215 (by decide) (fun _ => ?_) (fun c9 => absurd c36 c9)
            refine lv_iconst (v := 0) hx hb dL_law_222 (by decide) ?_
            refine hvI (As := [.int v1, .int 0]) (rest := []) ⟨hx, hb, hml, hown, hts0⟩ (zX10_box l D y cy S _ v1 0 rs38 S40 es42) (cwV 2 hts0 gL_law_X10_box rfl rfl rfl (by decide +kernel) ⟨Nat.le_of_ble_eq_true rfl, Nat.le_of_ble_eq_true rfl⟩) hK hP hD hS hA (fun h9 => va_recv hK h9 (ci := 10) (q0 := 0) rfl rfl) rfl hl.1 rfl (Nat.le_of_ble_eq_true rfl) dL_law_223 ⟨by omega, by omega⟩ (fun a49 u50 H locs hw51 hP hD hS => ?_)
            have hP : va_P D vwCl ((OU ao co fo ++ (ZW x cy g C39 ++ va_pl L (pf cy K cf nm C39))) ++ YW y cy S40) H := hP
            have hD : va_D (fun q9 : Nat => s.heap.size ≤ q9) ((OU ao co fo ++ (ZW x cy g C39 ++ va_pl L (pf cy K cf nm C39))) ++ YW y cy S40) := hD
            refine lv_tov (v' := .int rs38) (congrArg Value.int hw51) ?_
            refine lv_pop hx hb dL_law_226 rfl ?_
            refine lv_goto (tgt := 968) hx hb dL_law_227 (by decide) ?_
            refine lv_iinc (v := nI (i + 5)) (lv' := [(4, .int (nI (i + 5))), (0, .ref b), (1, .ref (x 0)), (2, .ref (y 0)), (3, .ref ao)]) hx hb dL_law_968 hl (k := 4) rfl (nI_add i 5) (by decide) rfl (fun ls hl => ?_)
            refine lv_goto (tgt := 23) hx hb dL_law_971 (by decide) ?_
            refine W.widen (k := 300 + (i + 5)) (n := 20000 + 6 * (i + 5)) (by omega) (by omega) ?_
            exact ih (i + 5) (by omega) (by omega) C39 fo S40 hT (RX_B hXQ (by omega)) H _ _ hP hD hS (lv_sub hl [1, 2, 3, 4, 0] rfl)
          · skip
            refine lv_if_eq (tgt := 197) hx hb dL_law_190 (by decide) (fun c9 => absurd c9 c36) (fun _ => ?_)
            refine lv_iconst (v := 1) hx hb dL_law_193 (by decide) ?_
            refine lv_goto (tgt := 198) hx hb dL_law_194 (by decide) ?_
            obtain ⟨⟨rc52, C54⟩, ⟨rs53, S55⟩, ec56, es57, eq58, hXQ⟩ := w_box he hXQ (w := 1) v1 (Or.inr rfl)
            refine mvI (wo := OU ao co fo) (As := [.int v1, .int 1]) (rest := []) ⟨hx, hb, hml, hown, hts0⟩ (zX9_box l D x cy g L K cf nm hG hL C hT _ v1 1 rc52 C54 ec56) (cwV 2 hts0 gL_law_X9_box rfl rfl rfl (by decide +kernel) ⟨Nat.le_of_ble_eq_true rfl, Nat.le_of_ble_eq_true rfl⟩) hK hP hD hS hA (fun h9 => va_recv hK h9 (ci := 9) (q0 := 0) rfl rfl) rfl hl.1 rfl (Nat.le_of_ble_eq_true rfl) dL_law_198 ⟨by omega, by omega⟩ (fun a61 u59 H locs hw60 hP hD hS => ?_)
            obtain ⟨hw60, hT⟩ := hw60
            have hP : va_P D vwCl ((OU ao co fo ++ (ZW x cy g C54 ++ va_pl L (pf cy K cf nm C54))) ++ YW y cy S) H := hP
            have hD : va_D (fun q9 : Nat => s.heap.size ≤ q9) ((OU ao co fo ++ (ZW x cy g C54 ++ va_pl L (pf cy K cf nm C54))) ++ YW y cy S) := hD
            refine lv_tov (v' := .int rc52) (congrArg Value.int hw60) ?_
            refine lv_pop hx hb dL_law_201 rfl ?_
            refine lv_aload_n hx hb dL_law_202 rfl (lv_at hl 2 rfl) ?_
            refine lv_aload_n hx hb dL_law_203 rfl (lv_at hl 0 rfl) ?_
            refine lv_iload hx hb dL_law_204 (lv_at hl 4 rfl) ?_
            refine lv_iconst (v := 1) hx hb dL_law_206 (by decide) ?_
            refine lv_iadd hx hb dL_law_207 ?_
            refine lv_tov (v' := .int (nI (i + 1))) (congrArg Value.int (nI_add i 1)) ?_
            refine va_sld hx hb hX hbl hbA hS (vp_in_nI (by omega) (by omega)) dL_law_208 ?_
            refine lv_topi (fun y62 ey62 => ?_)
            rw [nI_clamp (by omega)] at ey62
            obtain rfl : v1 = y62 := hv1.trans ey62.symm
            refine lv_aload_n hx hb dL_law_209 rfl (lv_at hl 0 rfl) ?_
            refine lv_iload hx hb dL_law_210 (lv_at hl 4 rfl) ?_
            refine lv_iconst (v := 2) hx hb dL_law_212 (by decide) ?_
            refine lv_iadd hx hb dL_law_213 ?_
            refine lv_tov (v' := .int (nI (i + 2))) (congrArg Value.int (nI_add i 2)) ?_
            refine va_sld hx hb hX hbl hbA hS (vp_in_nI (by omega) (by omega)) dL_law_214 ?_
            refine lv_topi (fun y63 ey63 => ?_)
            rw [nI_clamp (by omega)] at ey63
            obtain rfl : v2 = y63 := hv2.trans ey63.symm
            refine lv_if_eq (tgt := 222) hx hb dL_law_215 (by decide) (fun c9 => absurd c9 c36) (fun _ => ?_)
            refine lv_iconst (v := 1) hx hb dL_law_218 (by decide) ?_
            refine lv_goto (tgt := 223) hx hb dL_law_219 (by decide) ?_
            refine hvI (As := [.int v1, .int 1]) (rest := []) ⟨hx, hb, hml, hown, hts0⟩ (zX10_box l D y cy S _ v1 1 rs53 S55 es57) (cwV 2 hts0 gL_law_X10_box rfl rfl rfl (by decide +kernel) ⟨Nat.le_of_ble_eq_true rfl, Nat.le_of_ble_eq_true rfl⟩) hK hP hD hS hA (fun h9 => va_recv hK h9 (ci := 10) (q0 := 0) rfl rfl) rfl hl.1 rfl (Nat.le_of_ble_eq_true rfl) dL_law_223 ⟨by omega, by omega⟩ (fun a64 u65 H locs hw66 hP hD hS => ?_)
            have hP : va_P D vwCl ((OU ao co fo ++ (ZW x cy g C54 ++ va_pl L (pf cy K cf nm C54))) ++ YW y cy S55) H := hP
            have hD : va_D (fun q9 : Nat => s.heap.size ≤ q9) ((OU ao co fo ++ (ZW x cy g C54 ++ va_pl L (pf cy K cf nm C54))) ++ YW y cy S55) := hD
            refine lv_tov (v' := .int rs53) (congrArg Value.int hw66) ?_
            refine lv_pop hx hb dL_law_226 rfl ?_
            refine lv_goto (tgt := 968) hx hb dL_law_227 (by decide) ?_
            refine lv_iinc (v := nI (i + 5)) (lv' := [(4, .int (nI (i + 5))), (0, .ref b), (1, .ref (x 0)), (2, .ref (y 0)), (3, .ref ao)]) hx hb dL_law_968 hl (k := 4) rfl (nI_add i 5) (by decide) rfl (fun ls hl => ?_)
            refine lv_goto (tgt := 23) hx hb dL_law_971 (by decide) ?_
            refine W.widen (k := 300 + (i + 5)) (n := 20000 + 6 * (i + 5)) (by omega) (by omega) ?_
            exact ih (i + 5) (by omega) (by omega) C54 fo S55 hT (RX_B hXQ (by omega)) H _ _ hP hD hS (lv_sub hl [1, 2, 3, 4, 0] rfl)
        by_cases j2 : wd = 2
        · skip
          refine lv_tableIn (tgt := 230) hx hb dL_law_39 (by rw [j2]; decide) (by rw [j2]; decide) (by rw [j2]; rfl) (by decide) ?_
          refine lv_aload_n hx hb dL_law_230 rfl (lv_at hl 1 rfl) ?_
          refine lv_aload_n hx hb dL_law_231 rfl (lv_at hl 0 rfl) ?_
          refine lv_iload hx hb dL_law_232 (lv_at hl 4 rfl) ?_
          refine lv_iconst (v := 1) hx hb dL_law_234 (by decide) ?_
          refine lv_iadd hx hb dL_law_235 ?_
          refine lv_tov (v' := .int (nI (i + 1))) (congrArg Value.int (nI_add i 1)) ?_
          refine va_sld hx hb hX hbl hbA hS (vp_in_nI (by omega) (by omega)) dL_law_236 ?_
          refine lv_topi (fun y67 ey67 => ?_)
          rw [nI_clamp (by omega)] at ey67
          obtain rfl : v1 = y67 := hv1.trans ey67.symm
          refine lv_aload_n hx hb dL_law_237 rfl (lv_at hl 0 rfl) ?_
          refine lv_iload hx hb dL_law_238 (lv_at hl 4 rfl) ?_
          refine lv_iconst (v := 2) hx hb dL_law_240 (by decide) ?_
          refine lv_iadd hx hb dL_law_241 ?_
          refine lv_tov (v' := .int (nI (i + 2))) (congrArg Value.int (nI_add i 2)) ?_
          refine va_sld hx hb hX hbl hbA hS (vp_in_nI (by omega) (by omega)) dL_law_242 ?_
          refine lv_topi (fun y68 ey68 => ?_)
          rw [nI_clamp (by omega)] at ey68
          obtain rfl : v2 = y68 := hv2.trans ey68.symm
          refine lv_aload_n hx hb dL_law_243 rfl (lv_at hl 0 rfl) ?_
          refine lv_iload hx hb dL_law_244 (lv_at hl 4 rfl) ?_
          refine lv_iconst (v := 3) hx hb dL_law_246 (by decide) ?_
          refine lv_iadd hx hb dL_law_247 ?_
          refine lv_tov (v' := .int (nI (i + 3))) (congrArg Value.int (nI_add i 3)) ?_
          refine va_sld hx hb hX hbl hbA hS (vp_in_nI (by omega) (by omega)) dL_law_248 ?_
          refine lv_topi (fun y69 ey69 => ?_)
          rw [nI_clamp (by omega)] at ey69
          obtain rfl : v3 = y69 := hv3.trans ey69.symm
          obtain ⟨⟨rc70, C72⟩, ⟨rs71, S73⟩, ec74, es75, eq76, hXQ⟩ := w_people (g := g) (nm := nm) hXQ v1 v2 v3
          refine mvI (wo := OU ao co fo) (As := [.int v1, .int v2, .int v3]) (rest := []) ⟨hx, hb, hml, hown, hts0⟩ (zX9_people l D x cy g L K cf nm hG hL C hT _ v1 v2 v3 rc70 C72 ec74) (cwV 3 hts0 gL_law_X9_people rfl rfl rfl (by decide +kernel) ⟨Nat.le_of_ble_eq_true rfl, Nat.le_of_ble_eq_true rfl⟩) hK hP hD hS hA (fun h9 => va_recv hK h9 (ci := 9) (q0 := 0) rfl rfl) rfl hl.1 rfl (Nat.le_of_ble_eq_true rfl) dL_law_249 ⟨by omega, by omega⟩ (fun a79 u77 H locs hw78 hP hD hS => ?_)
          obtain ⟨hw78, hT⟩ := hw78
          have hP : va_P D vwCl ((OU ao co fo ++ (ZW x cy g C72 ++ va_pl L (pf cy K cf nm C72))) ++ YW y cy S) H := hP
          have hD : va_D (fun q9 : Nat => s.heap.size ≤ q9) ((OU ao co fo ++ (ZW x cy g C72 ++ va_pl L (pf cy K cf nm C72))) ++ YW y cy S) := hD
          refine lv_tov (v' := .int rc70) (congrArg Value.int hw78.1) ?_
          refine lv_pop hx hb dL_law_252 rfl ?_
          refine lv_aload_n hx hb dL_law_253 rfl (lv_at hl 2 rfl) ?_
          refine lv_aload_n hx hb dL_law_254 rfl (lv_at hl 0 rfl) ?_
          refine lv_iload hx hb dL_law_255 (lv_at hl 4 rfl) ?_
          refine lv_iconst (v := 1) hx hb dL_law_257 (by decide) ?_
          refine lv_iadd hx hb dL_law_258 ?_
          refine lv_tov (v' := .int (nI (i + 1))) (congrArg Value.int (nI_add i 1)) ?_
          refine va_sld hx hb hX hbl hbA hS (vp_in_nI (by omega) (by omega)) dL_law_259 ?_
          refine lv_topi (fun y80 ey80 => ?_)
          rw [nI_clamp (by omega)] at ey80
          obtain rfl : v1 = y80 := hv1.trans ey80.symm
          refine lv_aload_n hx hb dL_law_260 rfl (lv_at hl 0 rfl) ?_
          refine lv_iload hx hb dL_law_261 (lv_at hl 4 rfl) ?_
          refine lv_iconst (v := 2) hx hb dL_law_263 (by decide) ?_
          refine lv_iadd hx hb dL_law_264 ?_
          refine lv_tov (v' := .int (nI (i + 2))) (congrArg Value.int (nI_add i 2)) ?_
          refine va_sld hx hb hX hbl hbA hS (vp_in_nI (by omega) (by omega)) dL_law_265 ?_
          refine lv_topi (fun y81 ey81 => ?_)
          rw [nI_clamp (by omega)] at ey81
          obtain rfl : v2 = y81 := hv2.trans ey81.symm
          refine lv_aload_n hx hb dL_law_266 rfl (lv_at hl 0 rfl) ?_
          refine lv_iload hx hb dL_law_267 (lv_at hl 4 rfl) ?_
          refine lv_iconst (v := 3) hx hb dL_law_269 (by decide) ?_
          refine lv_iadd hx hb dL_law_270 ?_
          refine lv_tov (v' := .int (nI (i + 3))) (congrArg Value.int (nI_add i 3)) ?_
          refine va_sld hx hb hX hbl hbA hS (vp_in_nI (by omega) (by omega)) dL_law_271 ?_
          refine lv_topi (fun y82 ey82 => ?_)
          rw [nI_clamp (by omega)] at ey82
          obtain rfl : v3 = y82 := hv3.trans ey82.symm
          refine hvI (As := [.int v1, .int v2, .int v3]) (rest := []) ⟨hx, hb, hml, hown, hts0⟩ (zX10_people l D y cy S _ v1 v2 v3 rs71 S73 es75) (cwV 3 hts0 gL_law_X10_people rfl rfl rfl (by decide +kernel) ⟨Nat.le_of_ble_eq_true rfl, Nat.le_of_ble_eq_true rfl⟩) hK hP hD hS hA (fun h9 => va_recv hK h9 (ci := 10) (q0 := 0) rfl rfl) rfl hl.1 rfl (Nat.le_of_ble_eq_true rfl) dL_law_272 ⟨by omega, by omega⟩ (fun a83 u84 H locs hw85 hP hD hS => ?_)
          have hP : va_P D vwCl ((OU ao co fo ++ (ZW x cy g C72 ++ va_pl L (pf cy K cf nm C72))) ++ YW y cy S73) H := hP
          have hD : va_D (fun q9 : Nat => s.heap.size ≤ q9) ((OU ao co fo ++ (ZW x cy g C72 ++ va_pl L (pf cy K cf nm C72))) ++ YW y cy S73) := hD
          refine lv_tov (v' := .int rs71) (congrArg Value.int hw85.1) ?_
          refine lv_pop hx hb dL_law_275 rfl ?_
          refine lv_goto (tgt := 968) hx hb dL_law_276 (by decide) ?_
          refine lv_iinc (v := nI (i + 5)) (lv' := [(4, .int (nI (i + 5))), (0, .ref b), (1, .ref (x 0)), (2, .ref (y 0)), (3, .ref ao)]) hx hb dL_law_968 hl (k := 4) rfl (nI_add i 5) (by decide) rfl (fun ls hl => ?_)
          refine lv_goto (tgt := 23) hx hb dL_law_971 (by decide) ?_
          refine W.widen (k := 300 + (i + 5)) (n := 20000 + 6 * (i + 5)) (by omega) (by omega) ?_
          exact ih (i + 5) (by omega) (by omega) C72 fo S73 hT (RX_B hXQ (by omega)) H _ _ hP hD hS (lv_sub hl [1, 2, 3, 4, 0] rfl)
        by_cases j3 : wd = 3
        · skip
          refine lv_tableIn (tgt := 279) hx hb dL_law_39 (by rw [j3]; decide) (by rw [j3]; decide) (by rw [j3]; rfl) (by decide) ?_
          refine lv_aload_n hx hb dL_law_279 rfl (lv_at hl 1 rfl) ?_
          refine lv_aload_n hx hb dL_law_280 rfl (lv_at hl 0 rfl) ?_
          refine lv_iload hx hb dL_law_281 (lv_at hl 4 rfl) ?_
          refine lv_iconst (v := 1) hx hb dL_law_283 (by decide) ?_
          refine lv_iadd hx hb dL_law_284 ?_
          refine lv_tov (v' := .int (nI (i + 1))) (congrArg Value.int (nI_add i 1)) ?_
          refine va_sld hx hb hX hbl hbA hS (vp_in_nI (by omega) (by omega)) dL_law_285 ?_
          refine lv_topi (fun y86 ey86 => ?_)
          rw [nI_clamp (by omega)] at ey86
          obtain rfl : v1 = y86 := hv1.trans ey86.symm
          refine lv_aload_n hx hb dL_law_286 rfl (lv_at hl 0 rfl) ?_
          refine lv_iload hx hb dL_law_287 (lv_at hl 4 rfl) ?_
          refine lv_iconst (v := 2) hx hb dL_law_289 (by decide) ?_
          refine lv_iadd hx hb dL_law_290 ?_
          refine lv_tov (v' := .int (nI (i + 2))) (congrArg Value.int (nI_add i 2)) ?_
          refine va_sld hx hb hX hbl hbA hS (vp_in_nI (by omega) (by omega)) dL_law_291 ?_
          refine lv_topi (fun y87 ey87 => ?_)
          rw [nI_clamp (by omega)] at ey87
          obtain rfl : v2 = y87 := hv2.trans ey87.symm
          refine lv_aload_n hx hb dL_law_292 rfl (lv_at hl 0 rfl) ?_
          refine lv_iload hx hb dL_law_293 (lv_at hl 4 rfl) ?_
          refine lv_iconst (v := 3) hx hb dL_law_295 (by decide) ?_
          refine lv_iadd hx hb dL_law_296 ?_
          refine lv_tov (v' := .int (nI (i + 3))) (congrArg Value.int (nI_add i 3)) ?_
          refine va_sld hx hb hX hbl hbA hS (vp_in_nI (by omega) (by omega)) dL_law_297 ?_
          refine lv_topi (fun y88 ey88 => ?_)
          rw [nI_clamp (by omega)] at ey88
          obtain rfl : v3 = y88 := hv3.trans ey88.symm
          by_cases c89 : v3 = 0
          · skip
            refine lv_if_eq (tgt := 305) hx hb dL_law_298 (by decide) (fun _ => ?_) (fun c9 => absurd c89 c9)
            refine lv_iconst (v := 0) hx hb dL_law_305 (by decide) ?_
            obtain ⟨⟨rc90, C92⟩, ⟨rs91, S93⟩, ec94, es95, eq96, hXQ⟩ := w_reader he hXQ (w := 0) v1 v2 (Or.inl rfl)
            refine mvI (wo := OU ao co fo) (As := [.int v1, .int v2, .int 0]) (rest := []) ⟨hx, hb, hml, hown, hts0⟩ (zX9_reader l D x cy g L K cf nm hG hL C hT _ v1 v2 0 rc90 C92 ec94) (cwV 3 hts0 gL_law_X9_reader rfl rfl rfl (by decide +kernel) ⟨Nat.le_of_ble_eq_true rfl, Nat.le_of_ble_eq_true rfl⟩) hK hP hD hS hA (fun h9 => va_recv hK h9 (ci := 9) (q0 := 0) rfl rfl) rfl hl.1 rfl (Nat.le_of_ble_eq_true rfl) dL_law_306 ⟨by omega, by omega⟩ (fun a99 u97 H locs hw98 hP hD hS => ?_)
            obtain ⟨hw98, hT⟩ := hw98
            have hP : va_P D vwCl ((OU ao co fo ++ (ZW x cy g C92 ++ va_pl L (pf cy K cf nm C92))) ++ YW y cy S) H := hP
            have hD : va_D (fun q9 : Nat => s.heap.size ≤ q9) ((OU ao co fo ++ (ZW x cy g C92 ++ va_pl L (pf cy K cf nm C92))) ++ YW y cy S) := hD
            refine lv_tov (v' := .int rc90) (congrArg Value.int hw98) ?_
            refine lv_pop hx hb dL_law_309 rfl ?_
            refine lv_aload_n hx hb dL_law_310 rfl (lv_at hl 2 rfl) ?_
            refine lv_aload_n hx hb dL_law_311 rfl (lv_at hl 0 rfl) ?_
            refine lv_iload hx hb dL_law_312 (lv_at hl 4 rfl) ?_
            refine lv_iconst (v := 1) hx hb dL_law_314 (by decide) ?_
            refine lv_iadd hx hb dL_law_315 ?_
            refine lv_tov (v' := .int (nI (i + 1))) (congrArg Value.int (nI_add i 1)) ?_
            refine va_sld hx hb hX hbl hbA hS (vp_in_nI (by omega) (by omega)) dL_law_316 ?_
            refine lv_topi (fun y100 ey100 => ?_)
            rw [nI_clamp (by omega)] at ey100
            obtain rfl : v1 = y100 := hv1.trans ey100.symm
            refine lv_aload_n hx hb dL_law_317 rfl (lv_at hl 0 rfl) ?_
            refine lv_iload hx hb dL_law_318 (lv_at hl 4 rfl) ?_
            refine lv_iconst (v := 2) hx hb dL_law_320 (by decide) ?_
            refine lv_iadd hx hb dL_law_321 ?_
            refine lv_tov (v' := .int (nI (i + 2))) (congrArg Value.int (nI_add i 2)) ?_
            refine va_sld hx hb hX hbl hbA hS (vp_in_nI (by omega) (by omega)) dL_law_322 ?_
            refine lv_topi (fun y101 ey101 => ?_)
            rw [nI_clamp (by omega)] at ey101
            obtain rfl : v2 = y101 := hv2.trans ey101.symm
            refine lv_aload_n hx hb dL_law_323 rfl (lv_at hl 0 rfl) ?_
            refine lv_iload hx hb dL_law_324 (lv_at hl 4 rfl) ?_
            refine lv_iconst (v := 3) hx hb dL_law_326 (by decide) ?_
            refine lv_iadd hx hb dL_law_327 ?_
            refine lv_tov (v' := .int (nI (i + 3))) (congrArg Value.int (nI_add i 3)) ?_
            refine va_sld hx hb hX hbl hbA hS (vp_in_nI (by omega) (by omega)) dL_law_328 ?_
            refine lv_topi (fun y102 ey102 => ?_)
            rw [nI_clamp (by omega)] at ey102
            obtain rfl : v3 = y102 := hv3.trans ey102.symm
            refine lv_if_eq (tgt := 336) hx hb dL_law_329 (by decide) (fun _ => ?_) (fun c9 => absurd c89 c9)
            refine lv_iconst (v := 0) hx hb dL_law_336 (by decide) ?_
            refine hvI (As := [.int v1, .int v2, .int 0]) (rest := []) ⟨hx, hb, hml, hown, hts0⟩ (zX10_reader l D y cy S _ v1 v2 0 rs91 S93 es95) (cwV 3 hts0 gL_law_X10_reader rfl rfl rfl (by decide +kernel) ⟨Nat.le_of_ble_eq_true rfl, Nat.le_of_ble_eq_true rfl⟩) hK hP hD hS hA (fun h9 => va_recv hK h9 (ci := 10) (q0 := 0) rfl rfl) rfl hl.1 rfl (Nat.le_of_ble_eq_true rfl) dL_law_337 ⟨by omega, by omega⟩ (fun a103 u104 H locs hw105 hP hD hS => ?_)
            have hP : va_P D vwCl ((OU ao co fo ++ (ZW x cy g C92 ++ va_pl L (pf cy K cf nm C92))) ++ YW y cy S93) H := hP
            have hD : va_D (fun q9 : Nat => s.heap.size ≤ q9) ((OU ao co fo ++ (ZW x cy g C92 ++ va_pl L (pf cy K cf nm C92))) ++ YW y cy S93) := hD
            refine lv_tov (v' := .int rs91) (congrArg Value.int hw105) ?_
            refine lv_pop hx hb dL_law_340 rfl ?_
            refine lv_goto (tgt := 968) hx hb dL_law_341 (by decide) ?_
            refine lv_iinc (v := nI (i + 5)) (lv' := [(4, .int (nI (i + 5))), (0, .ref b), (1, .ref (x 0)), (2, .ref (y 0)), (3, .ref ao)]) hx hb dL_law_968 hl (k := 4) rfl (nI_add i 5) (by decide) rfl (fun ls hl => ?_)
            refine lv_goto (tgt := 23) hx hb dL_law_971 (by decide) ?_
            refine W.widen (k := 300 + (i + 5)) (n := 20000 + 6 * (i + 5)) (by omega) (by omega) ?_
            exact ih (i + 5) (by omega) (by omega) C92 fo S93 hT (RX_B hXQ (by omega)) H _ _ hP hD hS (lv_sub hl [1, 2, 3, 4, 0] rfl)
          · skip
            refine lv_if_eq (tgt := 305) hx hb dL_law_298 (by decide) (fun c9 => absurd c9 c89) (fun _ => ?_)
            refine lv_iconst (v := 1) hx hb dL_law_301 (by decide) ?_
            refine lv_goto (tgt := 306) hx hb dL_law_302 (by decide) ?_
            obtain ⟨⟨rc106, C108⟩, ⟨rs107, S109⟩, ec110, es111, eq112, hXQ⟩ := w_reader he hXQ (w := 1) v1 v2 (Or.inr rfl)
            refine mvI (wo := OU ao co fo) (As := [.int v1, .int v2, .int 1]) (rest := []) ⟨hx, hb, hml, hown, hts0⟩ (zX9_reader l D x cy g L K cf nm hG hL C hT _ v1 v2 1 rc106 C108 ec110) (cwV 3 hts0 gL_law_X9_reader rfl rfl rfl (by decide +kernel) ⟨Nat.le_of_ble_eq_true rfl, Nat.le_of_ble_eq_true rfl⟩) hK hP hD hS hA (fun h9 => va_recv hK h9 (ci := 9) (q0 := 0) rfl rfl) rfl hl.1 rfl (Nat.le_of_ble_eq_true rfl) dL_law_306 ⟨by omega, by omega⟩ (fun a115 u113 H locs hw114 hP hD hS => ?_)
            obtain ⟨hw114, hT⟩ := hw114
            have hP : va_P D vwCl ((OU ao co fo ++ (ZW x cy g C108 ++ va_pl L (pf cy K cf nm C108))) ++ YW y cy S) H := hP
            have hD : va_D (fun q9 : Nat => s.heap.size ≤ q9) ((OU ao co fo ++ (ZW x cy g C108 ++ va_pl L (pf cy K cf nm C108))) ++ YW y cy S) := hD
            refine lv_tov (v' := .int rc106) (congrArg Value.int hw114) ?_
            refine lv_pop hx hb dL_law_309 rfl ?_
            refine lv_aload_n hx hb dL_law_310 rfl (lv_at hl 2 rfl) ?_
            refine lv_aload_n hx hb dL_law_311 rfl (lv_at hl 0 rfl) ?_
            refine lv_iload hx hb dL_law_312 (lv_at hl 4 rfl) ?_
            refine lv_iconst (v := 1) hx hb dL_law_314 (by decide) ?_
            refine lv_iadd hx hb dL_law_315 ?_
            refine lv_tov (v' := .int (nI (i + 1))) (congrArg Value.int (nI_add i 1)) ?_
            refine va_sld hx hb hX hbl hbA hS (vp_in_nI (by omega) (by omega)) dL_law_316 ?_
            refine lv_topi (fun y116 ey116 => ?_)
            rw [nI_clamp (by omega)] at ey116
            obtain rfl : v1 = y116 := hv1.trans ey116.symm
            refine lv_aload_n hx hb dL_law_317 rfl (lv_at hl 0 rfl) ?_
            refine lv_iload hx hb dL_law_318 (lv_at hl 4 rfl) ?_
            refine lv_iconst (v := 2) hx hb dL_law_320 (by decide) ?_
            refine lv_iadd hx hb dL_law_321 ?_
            refine lv_tov (v' := .int (nI (i + 2))) (congrArg Value.int (nI_add i 2)) ?_
            refine va_sld hx hb hX hbl hbA hS (vp_in_nI (by omega) (by omega)) dL_law_322 ?_
            refine lv_topi (fun y117 ey117 => ?_)
            rw [nI_clamp (by omega)] at ey117
            obtain rfl : v2 = y117 := hv2.trans ey117.symm
            refine lv_aload_n hx hb dL_law_323 rfl (lv_at hl 0 rfl) ?_
            refine lv_iload hx hb dL_law_324 (lv_at hl 4 rfl) ?_
            refine lv_iconst (v := 3) hx hb dL_law_326 (by decide) ?_
            refine lv_iadd hx hb dL_law_327 ?_
            refine lv_tov (v' := .int (nI (i + 3))) (congrArg Value.int (nI_add i 3)) ?_
            refine va_sld hx hb hX hbl hbA hS (vp_in_nI (by omega) (by omega)) dL_law_328 ?_
            refine lv_topi (fun y118 ey118 => ?_)
            rw [nI_clamp (by omega)] at ey118
            obtain rfl : v3 = y118 := hv3.trans ey118.symm
            refine lv_if_eq (tgt := 336) hx hb dL_law_329 (by decide) (fun c9 => absurd c9 c89) (fun _ => ?_)
            refine lv_iconst (v := 1) hx hb dL_law_332 (by decide) ?_
            refine lv_goto (tgt := 337) hx hb dL_law_333 (by decide) ?_
            refine hvI (As := [.int v1, .int v2, .int 1]) (rest := []) ⟨hx, hb, hml, hown, hts0⟩ (zX10_reader l D y cy S _ v1 v2 1 rs107 S109 es111) (cwV 3 hts0 gL_law_X10_reader rfl rfl rfl (by decide +kernel) ⟨Nat.le_of_ble_eq_true rfl, Nat.le_of_ble_eq_true rfl⟩) hK hP hD hS hA (fun h9 => va_recv hK h9 (ci := 10) (q0 := 0) rfl rfl) rfl hl.1 rfl (Nat.le_of_ble_eq_true rfl) dL_law_337 ⟨by omega, by omega⟩ (fun a119 u120 H locs hw121 hP hD hS => ?_)
            have hP : va_P D vwCl ((OU ao co fo ++ (ZW x cy g C108 ++ va_pl L (pf cy K cf nm C108))) ++ YW y cy S109) H := hP
            have hD : va_D (fun q9 : Nat => s.heap.size ≤ q9) ((OU ao co fo ++ (ZW x cy g C108 ++ va_pl L (pf cy K cf nm C108))) ++ YW y cy S109) := hD
            refine lv_tov (v' := .int rs107) (congrArg Value.int hw121) ?_
            refine lv_pop hx hb dL_law_340 rfl ?_
            refine lv_goto (tgt := 968) hx hb dL_law_341 (by decide) ?_
            refine lv_iinc (v := nI (i + 5)) (lv' := [(4, .int (nI (i + 5))), (0, .ref b), (1, .ref (x 0)), (2, .ref (y 0)), (3, .ref ao)]) hx hb dL_law_968 hl (k := 4) rfl (nI_add i 5) (by decide) rfl (fun ls hl => ?_)
            refine lv_goto (tgt := 23) hx hb dL_law_971 (by decide) ?_
            refine W.widen (k := 300 + (i + 5)) (n := 20000 + 6 * (i + 5)) (by omega) (by omega) ?_
            exact ih (i + 5) (by omega) (by omega) C108 fo S109 hT (RX_B hXQ (by omega)) H _ _ hP hD hS (lv_sub hl [1, 2, 3, 4, 0] rfl)
        by_cases j4 : wd = 4
        · skip
          refine lv_tableIn (tgt := 344) hx hb dL_law_39 (by rw [j4]; decide) (by rw [j4]; decide) (by rw [j4]; rfl) (by decide) ?_
          refine lv_aload_n hx hb dL_law_344 rfl (lv_at hl 1 rfl) ?_
          refine lv_aload_n hx hb dL_law_345 rfl (lv_at hl 0 rfl) ?_
          refine lv_iload hx hb dL_law_346 (lv_at hl 4 rfl) ?_
          refine lv_iconst (v := 1) hx hb dL_law_348 (by decide) ?_
          refine lv_iadd hx hb dL_law_349 ?_
          refine lv_tov (v' := .int (nI (i + 1))) (congrArg Value.int (nI_add i 1)) ?_
          refine va_sld hx hb hX hbl hbA hS (vp_in_nI (by omega) (by omega)) dL_law_350 ?_
          refine lv_topi (fun y122 ey122 => ?_)
          rw [nI_clamp (by omega)] at ey122
          obtain rfl : v1 = y122 := hv1.trans ey122.symm
          refine lv_aload_n hx hb dL_law_351 rfl (lv_at hl 0 rfl) ?_
          refine lv_iload hx hb dL_law_352 (lv_at hl 4 rfl) ?_
          refine lv_iconst (v := 2) hx hb dL_law_354 (by decide) ?_
          refine lv_iadd hx hb dL_law_355 ?_
          refine lv_tov (v' := .int (nI (i + 2))) (congrArg Value.int (nI_add i 2)) ?_
          refine va_sld hx hb hX hbl hbA hS (vp_in_nI (by omega) (by omega)) dL_law_356 ?_
          refine lv_topi (fun y123 ey123 => ?_)
          rw [nI_clamp (by omega)] at ey123
          obtain rfl : v2 = y123 := hv2.trans ey123.symm
          obtain ⟨⟨rc124, C126⟩, ⟨rs125, S127⟩, ec128, es129, eq130, hXQ⟩ := w_ask he hXQ v1 v2
          refine mvI (wo := OU ao co fo) (As := [.int v1, .int v2]) (rest := []) ⟨hx, hb, hml, hown, hts0⟩ (zX9_ask l D x cy g L K cf nm hG hL C hT _ v1 v2 rc124 C126 ec128) (cwV 2 hts0 gL_law_X9_ask rfl rfl rfl (by decide +kernel) ⟨Nat.le_of_ble_eq_true rfl, Nat.le_of_ble_eq_true rfl⟩) hK hP hD hS hA (fun h9 => va_recv hK h9 (ci := 9) (q0 := 0) rfl rfl) rfl hl.1 rfl (Nat.le_of_ble_eq_true rfl) dL_law_357 ⟨by omega, by omega⟩ (fun a133 u131 H locs hw132 hP hD hS => ?_)
          obtain ⟨hw132, hT⟩ := hw132
          have hP : va_P D vwCl ((OU ao co fo ++ (ZW x cy g C126 ++ va_pl L (pf cy K cf nm C126))) ++ YW y cy S) H := hP
          have hD : va_D (fun q9 : Nat => s.heap.size ≤ q9) ((OU ao co fo ++ (ZW x cy g C126 ++ va_pl L (pf cy K cf nm C126))) ++ YW y cy S) := hD
          refine lv_tov (v' := .int rc124) (congrArg Value.int hw132.1) ?_
          refine lv_pop hx hb dL_law_360 rfl ?_
          refine lv_aload_n hx hb dL_law_361 rfl (lv_at hl 2 rfl) ?_
          refine lv_aload_n hx hb dL_law_362 rfl (lv_at hl 0 rfl) ?_
          refine lv_iload hx hb dL_law_363 (lv_at hl 4 rfl) ?_
          refine lv_iconst (v := 1) hx hb dL_law_365 (by decide) ?_
          refine lv_iadd hx hb dL_law_366 ?_
          refine lv_tov (v' := .int (nI (i + 1))) (congrArg Value.int (nI_add i 1)) ?_
          refine va_sld hx hb hX hbl hbA hS (vp_in_nI (by omega) (by omega)) dL_law_367 ?_
          refine lv_topi (fun y134 ey134 => ?_)
          rw [nI_clamp (by omega)] at ey134
          obtain rfl : v1 = y134 := hv1.trans ey134.symm
          refine lv_aload_n hx hb dL_law_368 rfl (lv_at hl 0 rfl) ?_
          refine lv_iload hx hb dL_law_369 (lv_at hl 4 rfl) ?_
          refine lv_iconst (v := 2) hx hb dL_law_371 (by decide) ?_
          refine lv_iadd hx hb dL_law_372 ?_
          refine lv_tov (v' := .int (nI (i + 2))) (congrArg Value.int (nI_add i 2)) ?_
          refine va_sld hx hb hX hbl hbA hS (vp_in_nI (by omega) (by omega)) dL_law_373 ?_
          refine lv_topi (fun y135 ey135 => ?_)
          rw [nI_clamp (by omega)] at ey135
          obtain rfl : v2 = y135 := hv2.trans ey135.symm
          refine hvI (As := [.int v1, .int v2]) (rest := []) ⟨hx, hb, hml, hown, hts0⟩ (zX10_ask l D y cy S _ v1 v2 rs125 S127 es129) (cwV 2 hts0 gL_law_X10_ask rfl rfl rfl (by decide +kernel) ⟨Nat.le_of_ble_eq_true rfl, Nat.le_of_ble_eq_true rfl⟩) hK hP hD hS hA (fun h9 => va_recv hK h9 (ci := 10) (q0 := 0) rfl rfl) rfl hl.1 rfl (Nat.le_of_ble_eq_true rfl) dL_law_374 ⟨by omega, by omega⟩ (fun a136 u137 H locs hw138 hP hD hS => ?_)
          have hP : va_P D vwCl ((OU ao co fo ++ (ZW x cy g C126 ++ va_pl L (pf cy K cf nm C126))) ++ YW y cy S127) H := hP
          have hD : va_D (fun q9 : Nat => s.heap.size ≤ q9) ((OU ao co fo ++ (ZW x cy g C126 ++ va_pl L (pf cy K cf nm C126))) ++ YW y cy S127) := hD
          refine lv_tov (v' := .int rs125) (congrArg Value.int hw138.1) ?_
          refine lv_pop hx hb dL_law_377 rfl ?_
          refine lv_goto (tgt := 968) hx hb dL_law_378 (by decide) ?_
          refine lv_iinc (v := nI (i + 5)) (lv' := [(4, .int (nI (i + 5))), (0, .ref b), (1, .ref (x 0)), (2, .ref (y 0)), (3, .ref ao)]) hx hb dL_law_968 hl (k := 4) rfl (nI_add i 5) (by decide) rfl (fun ls hl => ?_)
          refine lv_goto (tgt := 23) hx hb dL_law_971 (by decide) ?_
          refine W.widen (k := 300 + (i + 5)) (n := 20000 + 6 * (i + 5)) (by omega) (by omega) ?_
          exact ih (i + 5) (by omega) (by omega) C126 fo S127 hT (RX_B hXQ (by omega)) H _ _ hP hD hS (lv_sub hl [1, 2, 3, 4, 0] rfl)
        by_cases j5 : wd = 5
        · skip
          refine lv_tableIn (tgt := 381) hx hb dL_law_39 (by rw [j5]; decide) (by rw [j5]; decide) (by rw [j5]; rfl) (by decide) ?_
          refine lv_aload_n hx hb dL_law_381 rfl (lv_at hl 1 rfl) ?_
          refine lv_aload_n hx hb dL_law_382 rfl (lv_at hl 0 rfl) ?_
          refine lv_iload hx hb dL_law_383 (lv_at hl 4 rfl) ?_
          refine lv_iconst (v := 1) hx hb dL_law_385 (by decide) ?_
          refine lv_iadd hx hb dL_law_386 ?_
          refine lv_tov (v' := .int (nI (i + 1))) (congrArg Value.int (nI_add i 1)) ?_
          refine va_sld hx hb hX hbl hbA hS (vp_in_nI (by omega) (by omega)) dL_law_387 ?_
          refine lv_topi (fun y139 ey139 => ?_)
          rw [nI_clamp (by omega)] at ey139
          obtain rfl : v1 = y139 := hv1.trans ey139.symm
          refine lv_aload_n hx hb dL_law_388 rfl (lv_at hl 0 rfl) ?_
          refine lv_iload hx hb dL_law_389 (lv_at hl 4 rfl) ?_
          refine lv_iconst (v := 2) hx hb dL_law_391 (by decide) ?_
          refine lv_iadd hx hb dL_law_392 ?_
          refine lv_tov (v' := .int (nI (i + 2))) (congrArg Value.int (nI_add i 2)) ?_
          refine va_sld hx hb hX hbl hbA hS (vp_in_nI (by omega) (by omega)) dL_law_393 ?_
          refine lv_topi (fun y140 ey140 => ?_)
          rw [nI_clamp (by omega)] at ey140
          obtain rfl : v2 = y140 := hv2.trans ey140.symm
          obtain ⟨⟨rc141, C143⟩, ⟨rs142, S144⟩, ec145, es146, eq147, hXQ⟩ := w_read he hXQ v1 v2
          refine mvI (wo := OU ao co fo) (As := [.int v1, .int v2]) (rest := []) ⟨hx, hb, hml, hown, hts0⟩ (zX9_read l D x cy g L K cf nm hG hL C hT _ v1 v2 rc141 C143 ec145) (cwV 2 hts0 gL_law_X9_read rfl rfl rfl (by decide +kernel) ⟨Nat.le_of_ble_eq_true rfl, Nat.le_of_ble_eq_true rfl⟩) hK hP hD hS hA (fun h9 => va_recv hK h9 (ci := 9) (q0 := 0) rfl rfl) rfl hl.1 rfl (Nat.le_of_ble_eq_true rfl) dL_law_394 ⟨by omega, by omega⟩ (fun a150 u148 H locs hw149 hP hD hS => ?_)
          obtain ⟨hw149, hT⟩ := hw149
          have hP : va_P D vwCl ((OU ao co fo ++ (ZW x cy g C143 ++ va_pl L (pf cy K cf nm C143))) ++ YW y cy S) H := hP
          have hD : va_D (fun q9 : Nat => s.heap.size ≤ q9) ((OU ao co fo ++ (ZW x cy g C143 ++ va_pl L (pf cy K cf nm C143))) ++ YW y cy S) := hD
          refine lv_tov (v' := .int rc141) (congrArg Value.int hw149.1) ?_
          refine lv_pop hx hb dL_law_397 rfl ?_
          refine lv_aload_n hx hb dL_law_398 rfl (lv_at hl 2 rfl) ?_
          refine lv_aload_n hx hb dL_law_399 rfl (lv_at hl 0 rfl) ?_
          refine lv_iload hx hb dL_law_400 (lv_at hl 4 rfl) ?_
          refine lv_iconst (v := 1) hx hb dL_law_402 (by decide) ?_
          refine lv_iadd hx hb dL_law_403 ?_
          refine lv_tov (v' := .int (nI (i + 1))) (congrArg Value.int (nI_add i 1)) ?_
          refine va_sld hx hb hX hbl hbA hS (vp_in_nI (by omega) (by omega)) dL_law_404 ?_
          refine lv_topi (fun y151 ey151 => ?_)
          rw [nI_clamp (by omega)] at ey151
          obtain rfl : v1 = y151 := hv1.trans ey151.symm
          refine lv_aload_n hx hb dL_law_405 rfl (lv_at hl 0 rfl) ?_
          refine lv_iload hx hb dL_law_406 (lv_at hl 4 rfl) ?_
          refine lv_iconst (v := 2) hx hb dL_law_408 (by decide) ?_
          refine lv_iadd hx hb dL_law_409 ?_
          refine lv_tov (v' := .int (nI (i + 2))) (congrArg Value.int (nI_add i 2)) ?_
          refine va_sld hx hb hX hbl hbA hS (vp_in_nI (by omega) (by omega)) dL_law_410 ?_
          refine lv_topi (fun y152 ey152 => ?_)
          rw [nI_clamp (by omega)] at ey152
          obtain rfl : v2 = y152 := hv2.trans ey152.symm
          refine hvI (As := [.int v1, .int v2]) (rest := []) ⟨hx, hb, hml, hown, hts0⟩ (zX10_read l D y cy S _ v1 v2 rs142 S144 es146) (cwV 2 hts0 gL_law_X10_read rfl rfl rfl (by decide +kernel) ⟨Nat.le_of_ble_eq_true rfl, Nat.le_of_ble_eq_true rfl⟩) hK hP hD hS hA (fun h9 => va_recv hK h9 (ci := 10) (q0 := 0) rfl rfl) rfl hl.1 rfl (Nat.le_of_ble_eq_true rfl) dL_law_411 ⟨by omega, by omega⟩ (fun a153 u154 H locs hw155 hP hD hS => ?_)
          have hP : va_P D vwCl ((OU ao co fo ++ (ZW x cy g C143 ++ va_pl L (pf cy K cf nm C143))) ++ YW y cy S144) H := hP
          have hD : va_D (fun q9 : Nat => s.heap.size ≤ q9) ((OU ao co fo ++ (ZW x cy g C143 ++ va_pl L (pf cy K cf nm C143))) ++ YW y cy S144) := hD
          refine lv_tov (v' := .int rs142) (congrArg Value.int hw155.1) ?_
          refine lv_pop hx hb dL_law_414 rfl ?_
          refine lv_goto (tgt := 968) hx hb dL_law_415 (by decide) ?_
          refine lv_iinc (v := nI (i + 5)) (lv' := [(4, .int (nI (i + 5))), (0, .ref b), (1, .ref (x 0)), (2, .ref (y 0)), (3, .ref ao)]) hx hb dL_law_968 hl (k := 4) rfl (nI_add i 5) (by decide) rfl (fun ls hl => ?_)
          refine lv_goto (tgt := 23) hx hb dL_law_971 (by decide) ?_
          refine W.widen (k := 300 + (i + 5)) (n := 20000 + 6 * (i + 5)) (by omega) (by omega) ?_
          exact ih (i + 5) (by omega) (by omega) C143 fo S144 hT (RX_B hXQ (by omega)) H _ _ hP hD hS (lv_sub hl [1, 2, 3, 4, 0] rfl)
        by_cases j6 : wd = 6
        · skip
          refine lv_tableIn (tgt := 418) hx hb dL_law_39 (by rw [j6]; decide) (by rw [j6]; decide) (by rw [j6]; rfl) (by decide) ?_
          refine lv_aload_n hx hb dL_law_418 rfl (lv_at hl 1 rfl) ?_
          refine lv_aload_n hx hb dL_law_419 rfl (lv_at hl 0 rfl) ?_
          refine lv_iload hx hb dL_law_420 (lv_at hl 4 rfl) ?_
          refine lv_iconst (v := 1) hx hb dL_law_422 (by decide) ?_
          refine lv_iadd hx hb dL_law_423 ?_
          refine lv_tov (v' := .int (nI (i + 1))) (congrArg Value.int (nI_add i 1)) ?_
          refine va_sld hx hb hX hbl hbA hS (vp_in_nI (by omega) (by omega)) dL_law_424 ?_
          refine lv_topi (fun y156 ey156 => ?_)
          rw [nI_clamp (by omega)] at ey156
          obtain rfl : v1 = y156 := hv1.trans ey156.symm
          refine lv_aload_n hx hb dL_law_425 rfl (lv_at hl 0 rfl) ?_
          refine lv_iload hx hb dL_law_426 (lv_at hl 4 rfl) ?_
          refine lv_iconst (v := 2) hx hb dL_law_428 (by decide) ?_
          refine lv_iadd hx hb dL_law_429 ?_
          refine lv_tov (v' := .int (nI (i + 2))) (congrArg Value.int (nI_add i 2)) ?_
          refine va_sld hx hb hX hbl hbA hS (vp_in_nI (by omega) (by omega)) dL_law_430 ?_
          refine lv_topi (fun y157 ey157 => ?_)
          rw [nI_clamp (by omega)] at ey157
          obtain rfl : v2 = y157 := hv2.trans ey157.symm
          refine lv_aload_n hx hb dL_law_431 rfl (lv_at hl 0 rfl) ?_
          refine lv_iload hx hb dL_law_432 (lv_at hl 4 rfl) ?_
          refine lv_iconst (v := 3) hx hb dL_law_434 (by decide) ?_
          refine lv_iadd hx hb dL_law_435 ?_
          refine lv_tov (v' := .int (nI (i + 3))) (congrArg Value.int (nI_add i 3)) ?_
          refine va_sld hx hb hX hbl hbA hS (vp_in_nI (by omega) (by omega)) dL_law_436 ?_
          refine lv_topi (fun y158 ey158 => ?_)
          rw [nI_clamp (by omega)] at ey158
          obtain rfl : v3 = y158 := hv3.trans ey158.symm
          refine lv_aload_n hx hb dL_law_437 rfl (lv_at hl 0 rfl) ?_
          refine lv_iload hx hb dL_law_438 (lv_at hl 4 rfl) ?_
          refine lv_iconst (v := 4) hx hb dL_law_440 (by decide) ?_
          refine lv_iadd hx hb dL_law_441 ?_
          refine lv_tov (v' := .int (nI (i + 4))) (congrArg Value.int (nI_add i 4)) ?_
          refine va_sld hx hb hX hbl hbA hS (vp_in_nI (by omega) (by omega)) dL_law_442 ?_
          refine lv_topi (fun y159 ey159 => ?_)
          rw [nI_clamp (by omega)] at ey159
          obtain rfl : v4 = y159 := hv4.trans ey159.symm
          by_cases c160 : v4 = 0
          · skip
            refine lv_if_eq (tgt := 450) hx hb dL_law_443 (by decide) (fun _ => ?_) (fun c9 => absurd c160 c9)
            refine lv_iconst (v := 0) hx hb dL_law_450 (by decide) ?_
            obtain ⟨⟨rc161, C163⟩, ⟨rs162, S164⟩, ec165, es166, eq167, hXQ⟩ := w_copy he hXQ (u := 0) v1 v2 v3 (Or.inl rfl)
            refine mvI (wo := OU ao co fo) (As := [.int v1, .int v2, .int v3, .int 0]) (rest := []) ⟨hx, hb, hml, hown, hts0⟩ (zX9_copy l D x cy g L K cf nm hG hL C hT _ v1 v2 v3 0 rc161 C163 ec165) (cwV 4 hts0 gL_law_X9_copy rfl rfl rfl (by decide +kernel) ⟨Nat.le_of_ble_eq_true rfl, Nat.le_of_ble_eq_true rfl⟩) hK hP hD hS hA (fun h9 => va_recv hK h9 (ci := 9) (q0 := 0) rfl rfl) rfl hl.1 rfl (Nat.le_of_ble_eq_true rfl) dL_law_451 ⟨by omega, by omega⟩ (fun a170 u168 H locs hw169 hP hD hS => ?_)
            obtain ⟨hw169, hT⟩ := hw169
            have hP : va_P D vwCl ((OU ao co fo ++ (ZW x cy g C163 ++ va_pl L (pf cy K cf nm C163))) ++ YW y cy S) H := hP
            have hD : va_D (fun q9 : Nat => s.heap.size ≤ q9) ((OU ao co fo ++ (ZW x cy g C163 ++ va_pl L (pf cy K cf nm C163))) ++ YW y cy S) := hD
            refine lv_tov (v' := .int rc161) (congrArg Value.int hw169.1) ?_
            refine lv_pop hx hb dL_law_454 rfl ?_
            refine lv_aload_n hx hb dL_law_455 rfl (lv_at hl 2 rfl) ?_
            refine lv_aload_n hx hb dL_law_456 rfl (lv_at hl 0 rfl) ?_
            refine lv_iload hx hb dL_law_457 (lv_at hl 4 rfl) ?_
            refine lv_iconst (v := 1) hx hb dL_law_459 (by decide) ?_
            refine lv_iadd hx hb dL_law_460 ?_
            refine lv_tov (v' := .int (nI (i + 1))) (congrArg Value.int (nI_add i 1)) ?_
            refine va_sld hx hb hX hbl hbA hS (vp_in_nI (by omega) (by omega)) dL_law_461 ?_
            refine lv_topi (fun y171 ey171 => ?_)
            rw [nI_clamp (by omega)] at ey171
            obtain rfl : v1 = y171 := hv1.trans ey171.symm
            refine lv_aload_n hx hb dL_law_462 rfl (lv_at hl 0 rfl) ?_
            refine lv_iload hx hb dL_law_463 (lv_at hl 4 rfl) ?_
            refine lv_iconst (v := 2) hx hb dL_law_465 (by decide) ?_
            refine lv_iadd hx hb dL_law_466 ?_
            refine lv_tov (v' := .int (nI (i + 2))) (congrArg Value.int (nI_add i 2)) ?_
            refine va_sld hx hb hX hbl hbA hS (vp_in_nI (by omega) (by omega)) dL_law_467 ?_
            refine lv_topi (fun y172 ey172 => ?_)
            rw [nI_clamp (by omega)] at ey172
            obtain rfl : v2 = y172 := hv2.trans ey172.symm
            refine lv_aload_n hx hb dL_law_468 rfl (lv_at hl 0 rfl) ?_
            refine lv_iload hx hb dL_law_469 (lv_at hl 4 rfl) ?_
            refine lv_iconst (v := 3) hx hb dL_law_471 (by decide) ?_
            refine lv_iadd hx hb dL_law_472 ?_
            refine lv_tov (v' := .int (nI (i + 3))) (congrArg Value.int (nI_add i 3)) ?_
            refine va_sld hx hb hX hbl hbA hS (vp_in_nI (by omega) (by omega)) dL_law_473 ?_
            refine lv_topi (fun y173 ey173 => ?_)
            rw [nI_clamp (by omega)] at ey173
            obtain rfl : v3 = y173 := hv3.trans ey173.symm
            refine lv_aload_n hx hb dL_law_474 rfl (lv_at hl 0 rfl) ?_
            refine lv_iload hx hb dL_law_475 (lv_at hl 4 rfl) ?_
            refine lv_iconst (v := 4) hx hb dL_law_477 (by decide) ?_
            refine lv_iadd hx hb dL_law_478 ?_
            refine lv_tov (v' := .int (nI (i + 4))) (congrArg Value.int (nI_add i 4)) ?_
            refine va_sld hx hb hX hbl hbA hS (vp_in_nI (by omega) (by omega)) dL_law_479 ?_
            refine lv_topi (fun y174 ey174 => ?_)
            rw [nI_clamp (by omega)] at ey174
            obtain rfl : v4 = y174 := hv4.trans ey174.symm
            refine lv_if_eq (tgt := 487) hx hb dL_law_480 (by decide) (fun _ => ?_) (fun c9 => absurd c160 c9)
            refine lv_iconst (v := 0) hx hb dL_law_487 (by decide) ?_
            refine hvI (As := [.int v1, .int v2, .int v3, .int 0]) (rest := []) ⟨hx, hb, hml, hown, hts0⟩ (zX10_copy l D y cy S _ v1 v2 v3 0 rs162 S164 es166) (cwV 4 hts0 gL_law_X10_copy rfl rfl rfl (by decide +kernel) ⟨Nat.le_of_ble_eq_true rfl, Nat.le_of_ble_eq_true rfl⟩) hK hP hD hS hA (fun h9 => va_recv hK h9 (ci := 10) (q0 := 0) rfl rfl) rfl hl.1 rfl (Nat.le_of_ble_eq_true rfl) dL_law_488 ⟨by omega, by omega⟩ (fun a175 u176 H locs hw177 hP hD hS => ?_)
            have hP : va_P D vwCl ((OU ao co fo ++ (ZW x cy g C163 ++ va_pl L (pf cy K cf nm C163))) ++ YW y cy S164) H := hP
            have hD : va_D (fun q9 : Nat => s.heap.size ≤ q9) ((OU ao co fo ++ (ZW x cy g C163 ++ va_pl L (pf cy K cf nm C163))) ++ YW y cy S164) := hD
            refine lv_tov (v' := .int rs162) (congrArg Value.int hw177.1) ?_
            refine lv_pop hx hb dL_law_491 rfl ?_
            refine lv_goto (tgt := 968) hx hb dL_law_492 (by decide) ?_
            refine lv_iinc (v := nI (i + 5)) (lv' := [(4, .int (nI (i + 5))), (0, .ref b), (1, .ref (x 0)), (2, .ref (y 0)), (3, .ref ao)]) hx hb dL_law_968 hl (k := 4) rfl (nI_add i 5) (by decide) rfl (fun ls hl => ?_)
            refine lv_goto (tgt := 23) hx hb dL_law_971 (by decide) ?_
            refine W.widen (k := 300 + (i + 5)) (n := 20000 + 6 * (i + 5)) (by omega) (by omega) ?_
            exact ih (i + 5) (by omega) (by omega) C163 fo S164 hT (RX_B hXQ (by omega)) H _ _ hP hD hS (lv_sub hl [1, 2, 3, 4, 0] rfl)
          · skip
            refine lv_if_eq (tgt := 450) hx hb dL_law_443 (by decide) (fun c9 => absurd c9 c160) (fun _ => ?_)
            refine lv_iconst (v := 1) hx hb dL_law_446 (by decide) ?_
            refine lv_goto (tgt := 451) hx hb dL_law_447 (by decide) ?_
            obtain ⟨⟨rc178, C180⟩, ⟨rs179, S181⟩, ec182, es183, eq184, hXQ⟩ := w_copy he hXQ (u := 1) v1 v2 v3 (Or.inr rfl)
            refine mvI (wo := OU ao co fo) (As := [.int v1, .int v2, .int v3, .int 1]) (rest := []) ⟨hx, hb, hml, hown, hts0⟩ (zX9_copy l D x cy g L K cf nm hG hL C hT _ v1 v2 v3 1 rc178 C180 ec182) (cwV 4 hts0 gL_law_X9_copy rfl rfl rfl (by decide +kernel) ⟨Nat.le_of_ble_eq_true rfl, Nat.le_of_ble_eq_true rfl⟩) hK hP hD hS hA (fun h9 => va_recv hK h9 (ci := 9) (q0 := 0) rfl rfl) rfl hl.1 rfl (Nat.le_of_ble_eq_true rfl) dL_law_451 ⟨by omega, by omega⟩ (fun a187 u185 H locs hw186 hP hD hS => ?_)
            obtain ⟨hw186, hT⟩ := hw186
            have hP : va_P D vwCl ((OU ao co fo ++ (ZW x cy g C180 ++ va_pl L (pf cy K cf nm C180))) ++ YW y cy S) H := hP
            have hD : va_D (fun q9 : Nat => s.heap.size ≤ q9) ((OU ao co fo ++ (ZW x cy g C180 ++ va_pl L (pf cy K cf nm C180))) ++ YW y cy S) := hD
            refine lv_tov (v' := .int rc178) (congrArg Value.int hw186.1) ?_
            refine lv_pop hx hb dL_law_454 rfl ?_
            refine lv_aload_n hx hb dL_law_455 rfl (lv_at hl 2 rfl) ?_
            refine lv_aload_n hx hb dL_law_456 rfl (lv_at hl 0 rfl) ?_
            refine lv_iload hx hb dL_law_457 (lv_at hl 4 rfl) ?_
            refine lv_iconst (v := 1) hx hb dL_law_459 (by decide) ?_
            refine lv_iadd hx hb dL_law_460 ?_
            refine lv_tov (v' := .int (nI (i + 1))) (congrArg Value.int (nI_add i 1)) ?_
            refine va_sld hx hb hX hbl hbA hS (vp_in_nI (by omega) (by omega)) dL_law_461 ?_
            refine lv_topi (fun y188 ey188 => ?_)
            rw [nI_clamp (by omega)] at ey188
            obtain rfl : v1 = y188 := hv1.trans ey188.symm
            refine lv_aload_n hx hb dL_law_462 rfl (lv_at hl 0 rfl) ?_
            refine lv_iload hx hb dL_law_463 (lv_at hl 4 rfl) ?_
            refine lv_iconst (v := 2) hx hb dL_law_465 (by decide) ?_
            refine lv_iadd hx hb dL_law_466 ?_
            refine lv_tov (v' := .int (nI (i + 2))) (congrArg Value.int (nI_add i 2)) ?_
            refine va_sld hx hb hX hbl hbA hS (vp_in_nI (by omega) (by omega)) dL_law_467 ?_
            refine lv_topi (fun y189 ey189 => ?_)
            rw [nI_clamp (by omega)] at ey189
            obtain rfl : v2 = y189 := hv2.trans ey189.symm
            refine lv_aload_n hx hb dL_law_468 rfl (lv_at hl 0 rfl) ?_
            refine lv_iload hx hb dL_law_469 (lv_at hl 4 rfl) ?_
            refine lv_iconst (v := 3) hx hb dL_law_471 (by decide) ?_
            refine lv_iadd hx hb dL_law_472 ?_
            refine lv_tov (v' := .int (nI (i + 3))) (congrArg Value.int (nI_add i 3)) ?_
            refine va_sld hx hb hX hbl hbA hS (vp_in_nI (by omega) (by omega)) dL_law_473 ?_
            refine lv_topi (fun y190 ey190 => ?_)
            rw [nI_clamp (by omega)] at ey190
            obtain rfl : v3 = y190 := hv3.trans ey190.symm
            refine lv_aload_n hx hb dL_law_474 rfl (lv_at hl 0 rfl) ?_
            refine lv_iload hx hb dL_law_475 (lv_at hl 4 rfl) ?_
            refine lv_iconst (v := 4) hx hb dL_law_477 (by decide) ?_
            refine lv_iadd hx hb dL_law_478 ?_
            refine lv_tov (v' := .int (nI (i + 4))) (congrArg Value.int (nI_add i 4)) ?_
            refine va_sld hx hb hX hbl hbA hS (vp_in_nI (by omega) (by omega)) dL_law_479 ?_
            refine lv_topi (fun y191 ey191 => ?_)
            rw [nI_clamp (by omega)] at ey191
            obtain rfl : v4 = y191 := hv4.trans ey191.symm
            refine lv_if_eq (tgt := 487) hx hb dL_law_480 (by decide) (fun c9 => absurd c9 c160) (fun _ => ?_)
            refine lv_iconst (v := 1) hx hb dL_law_483 (by decide) ?_
            refine lv_goto (tgt := 488) hx hb dL_law_484 (by decide) ?_
            refine hvI (As := [.int v1, .int v2, .int v3, .int 1]) (rest := []) ⟨hx, hb, hml, hown, hts0⟩ (zX10_copy l D y cy S _ v1 v2 v3 1 rs179 S181 es183) (cwV 4 hts0 gL_law_X10_copy rfl rfl rfl (by decide +kernel) ⟨Nat.le_of_ble_eq_true rfl, Nat.le_of_ble_eq_true rfl⟩) hK hP hD hS hA (fun h9 => va_recv hK h9 (ci := 10) (q0 := 0) rfl rfl) rfl hl.1 rfl (Nat.le_of_ble_eq_true rfl) dL_law_488 ⟨by omega, by omega⟩ (fun a192 u193 H locs hw194 hP hD hS => ?_)
            have hP : va_P D vwCl ((OU ao co fo ++ (ZW x cy g C180 ++ va_pl L (pf cy K cf nm C180))) ++ YW y cy S181) H := hP
            have hD : va_D (fun q9 : Nat => s.heap.size ≤ q9) ((OU ao co fo ++ (ZW x cy g C180 ++ va_pl L (pf cy K cf nm C180))) ++ YW y cy S181) := hD
            refine lv_tov (v' := .int rs179) (congrArg Value.int hw194.1) ?_
            refine lv_pop hx hb dL_law_491 rfl ?_
            refine lv_goto (tgt := 968) hx hb dL_law_492 (by decide) ?_
            refine lv_iinc (v := nI (i + 5)) (lv' := [(4, .int (nI (i + 5))), (0, .ref b), (1, .ref (x 0)), (2, .ref (y 0)), (3, .ref ao)]) hx hb dL_law_968 hl (k := 4) rfl (nI_add i 5) (by decide) rfl (fun ls hl => ?_)
            refine lv_goto (tgt := 23) hx hb dL_law_971 (by decide) ?_
            refine W.widen (k := 300 + (i + 5)) (n := 20000 + 6 * (i + 5)) (by omega) (by omega) ?_
            exact ih (i + 5) (by omega) (by omega) C180 fo S181 hT (RX_B hXQ (by omega)) H _ _ hP hD hS (lv_sub hl [1, 2, 3, 4, 0] rfl)
        by_cases j7 : wd = 7
        · skip
          refine lv_tableIn (tgt := 495) hx hb dL_law_39 (by rw [j7]; decide) (by rw [j7]; decide) (by rw [j7]; rfl) (by decide) ?_
          refine lv_aload_n hx hb dL_law_495 rfl (lv_at hl 1 rfl) ?_
          refine lv_aload_n hx hb dL_law_496 rfl (lv_at hl 0 rfl) ?_
          refine lv_iload hx hb dL_law_497 (lv_at hl 4 rfl) ?_
          refine lv_iconst (v := 1) hx hb dL_law_499 (by decide) ?_
          refine lv_iadd hx hb dL_law_500 ?_
          refine lv_tov (v' := .int (nI (i + 1))) (congrArg Value.int (nI_add i 1)) ?_
          refine va_sld hx hb hX hbl hbA hS (vp_in_nI (by omega) (by omega)) dL_law_501 ?_
          refine lv_topi (fun y195 ey195 => ?_)
          rw [nI_clamp (by omega)] at ey195
          obtain rfl : v1 = y195 := hv1.trans ey195.symm
          refine lv_aload_n hx hb dL_law_502 rfl (lv_at hl 0 rfl) ?_
          refine lv_iload hx hb dL_law_503 (lv_at hl 4 rfl) ?_
          refine lv_iconst (v := 2) hx hb dL_law_505 (by decide) ?_
          refine lv_iadd hx hb dL_law_506 ?_
          refine lv_tov (v' := .int (nI (i + 2))) (congrArg Value.int (nI_add i 2)) ?_
          refine va_sld hx hb hX hbl hbA hS (vp_in_nI (by omega) (by omega)) dL_law_507 ?_
          refine lv_topi (fun y196 ey196 => ?_)
          rw [nI_clamp (by omega)] at ey196
          obtain rfl : v2 = y196 := hv2.trans ey196.symm
          obtain ⟨⟨rc197, C199⟩, ⟨rs198, S200⟩, ec201, es202, eq203, hXQ⟩ := w_back he hXQ v1 v2
          refine mvI (wo := OU ao co fo) (As := [.int v1, .int v2]) (rest := []) ⟨hx, hb, hml, hown, hts0⟩ (zX9_back l D x cy g L K cf nm hG hL C hT _ v1 v2 rc197 C199 ec201) (cwV 2 hts0 gL_law_X9_back rfl rfl rfl (by decide +kernel) ⟨Nat.le_of_ble_eq_true rfl, Nat.le_of_ble_eq_true rfl⟩) hK hP hD hS hA (fun h9 => va_recv hK h9 (ci := 9) (q0 := 0) rfl rfl) rfl hl.1 rfl (Nat.le_of_ble_eq_true rfl) dL_law_508 ⟨by omega, by omega⟩ (fun a206 u204 H locs hw205 hP hD hS => ?_)
          obtain ⟨hw205, hT⟩ := hw205
          have hP : va_P D vwCl ((OU ao co fo ++ (ZW x cy g C199 ++ va_pl L (pf cy K cf nm C199))) ++ YW y cy S) H := hP
          have hD : va_D (fun q9 : Nat => s.heap.size ≤ q9) ((OU ao co fo ++ (ZW x cy g C199 ++ va_pl L (pf cy K cf nm C199))) ++ YW y cy S) := hD
          refine lv_tov (v' := .int rc197) (congrArg Value.int hw205.1) ?_
          refine lv_pop hx hb dL_law_511 rfl ?_
          refine lv_aload_n hx hb dL_law_512 rfl (lv_at hl 2 rfl) ?_
          refine lv_aload_n hx hb dL_law_513 rfl (lv_at hl 0 rfl) ?_
          refine lv_iload hx hb dL_law_514 (lv_at hl 4 rfl) ?_
          refine lv_iconst (v := 1) hx hb dL_law_516 (by decide) ?_
          refine lv_iadd hx hb dL_law_517 ?_
          refine lv_tov (v' := .int (nI (i + 1))) (congrArg Value.int (nI_add i 1)) ?_
          refine va_sld hx hb hX hbl hbA hS (vp_in_nI (by omega) (by omega)) dL_law_518 ?_
          refine lv_topi (fun y207 ey207 => ?_)
          rw [nI_clamp (by omega)] at ey207
          obtain rfl : v1 = y207 := hv1.trans ey207.symm
          refine lv_aload_n hx hb dL_law_519 rfl (lv_at hl 0 rfl) ?_
          refine lv_iload hx hb dL_law_520 (lv_at hl 4 rfl) ?_
          refine lv_iconst (v := 2) hx hb dL_law_522 (by decide) ?_
          refine lv_iadd hx hb dL_law_523 ?_
          refine lv_tov (v' := .int (nI (i + 2))) (congrArg Value.int (nI_add i 2)) ?_
          refine va_sld hx hb hX hbl hbA hS (vp_in_nI (by omega) (by omega)) dL_law_524 ?_
          refine lv_topi (fun y208 ey208 => ?_)
          rw [nI_clamp (by omega)] at ey208
          obtain rfl : v2 = y208 := hv2.trans ey208.symm
          refine hvI (As := [.int v1, .int v2]) (rest := []) ⟨hx, hb, hml, hown, hts0⟩ (zX10_back l D y cy S _ v1 v2 rs198 S200 es202) (cwV 2 hts0 gL_law_X10_back rfl rfl rfl (by decide +kernel) ⟨Nat.le_of_ble_eq_true rfl, Nat.le_of_ble_eq_true rfl⟩) hK hP hD hS hA (fun h9 => va_recv hK h9 (ci := 10) (q0 := 0) rfl rfl) rfl hl.1 rfl (Nat.le_of_ble_eq_true rfl) dL_law_525 ⟨by omega, by omega⟩ (fun a209 u210 H locs hw211 hP hD hS => ?_)
          have hP : va_P D vwCl ((OU ao co fo ++ (ZW x cy g C199 ++ va_pl L (pf cy K cf nm C199))) ++ YW y cy S200) H := hP
          have hD : va_D (fun q9 : Nat => s.heap.size ≤ q9) ((OU ao co fo ++ (ZW x cy g C199 ++ va_pl L (pf cy K cf nm C199))) ++ YW y cy S200) := hD
          refine lv_tov (v' := .int rs198) (congrArg Value.int hw211.1) ?_
          refine lv_pop hx hb dL_law_528 rfl ?_
          refine lv_goto (tgt := 968) hx hb dL_law_529 (by decide) ?_
          refine lv_iinc (v := nI (i + 5)) (lv' := [(4, .int (nI (i + 5))), (0, .ref b), (1, .ref (x 0)), (2, .ref (y 0)), (3, .ref ao)]) hx hb dL_law_968 hl (k := 4) rfl (nI_add i 5) (by decide) rfl (fun ls hl => ?_)
          refine lv_goto (tgt := 23) hx hb dL_law_971 (by decide) ?_
          refine W.widen (k := 300 + (i + 5)) (n := 20000 + 6 * (i + 5)) (by omega) (by omega) ?_
          exact ih (i + 5) (by omega) (by omega) C199 fo S200 hT (RX_B hXQ (by omega)) H _ _ hP hD hS (lv_sub hl [1, 2, 3, 4, 0] rfl)
        by_cases j8 : wd = 8
        · skip
          refine lv_tableIn (tgt := 532) hx hb dL_law_39 (by rw [j8]; decide) (by rw [j8]; decide) (by rw [j8]; rfl) (by decide) ?_
          refine lv_aload_n hx hb dL_law_532 rfl (lv_at hl 1 rfl) ?_
          refine lv_aload_n hx hb dL_law_533 rfl (lv_at hl 0 rfl) ?_
          refine lv_iload hx hb dL_law_534 (lv_at hl 4 rfl) ?_
          refine lv_iconst (v := 1) hx hb dL_law_536 (by decide) ?_
          refine lv_iadd hx hb dL_law_537 ?_
          refine lv_tov (v' := .int (nI (i + 1))) (congrArg Value.int (nI_add i 1)) ?_
          refine va_sld hx hb hX hbl hbA hS (vp_in_nI (by omega) (by omega)) dL_law_538 ?_
          refine lv_topi (fun y212 ey212 => ?_)
          rw [nI_clamp (by omega)] at ey212
          obtain rfl : v1 = y212 := hv1.trans ey212.symm
          obtain ⟨⟨rc213, C215⟩, ⟨rs214, S216⟩, ec217, es218, eq219, hXQ⟩ := w_bell (g := g) (nm := nm) hXQ v1
          refine mvI (wo := OU ao co fo) (As := [.int v1]) (rest := []) ⟨hx, hb, hml, hown, hts0⟩ (zX9_bell l D x cy g L K cf nm hG hL C hT _ v1 rc213 C215 ec217) (cwV 1 hts0 gL_law_X9_bell rfl rfl rfl (by decide +kernel) ⟨Nat.le_of_ble_eq_true rfl, Nat.le_of_ble_eq_true rfl⟩) hK hP hD hS hA (fun h9 => va_recv hK h9 (ci := 9) (q0 := 0) rfl rfl) rfl hl.1 rfl (Nat.le_of_ble_eq_true rfl) dL_law_539 ⟨by omega, by omega⟩ (fun a222 u220 H locs hw221 hP hD hS => ?_)
          obtain ⟨hw221, hT⟩ := hw221
          have hP : va_P D vwCl ((OU ao co fo ++ (ZW x cy g C215 ++ va_pl L (pf cy K cf nm C215))) ++ YW y cy S) H := hP
          have hD : va_D (fun q9 : Nat => s.heap.size ≤ q9) ((OU ao co fo ++ (ZW x cy g C215 ++ va_pl L (pf cy K cf nm C215))) ++ YW y cy S) := hD
          refine lv_tov (v' := .int rc213) (congrArg Value.int hw221.1) ?_
          refine lv_pop hx hb dL_law_542 rfl ?_
          refine lv_aload_n hx hb dL_law_543 rfl (lv_at hl 2 rfl) ?_
          refine lv_aload_n hx hb dL_law_544 rfl (lv_at hl 0 rfl) ?_
          refine lv_iload hx hb dL_law_545 (lv_at hl 4 rfl) ?_
          refine lv_iconst (v := 1) hx hb dL_law_547 (by decide) ?_
          refine lv_iadd hx hb dL_law_548 ?_
          refine lv_tov (v' := .int (nI (i + 1))) (congrArg Value.int (nI_add i 1)) ?_
          refine va_sld hx hb hX hbl hbA hS (vp_in_nI (by omega) (by omega)) dL_law_549 ?_
          refine lv_topi (fun y223 ey223 => ?_)
          rw [nI_clamp (by omega)] at ey223
          obtain rfl : v1 = y223 := hv1.trans ey223.symm
          refine hvI (As := [.int v1]) (rest := []) ⟨hx, hb, hml, hown, hts0⟩ (zX10_bell l D y cy S _ v1 rs214 S216 es218) (cwV 1 hts0 gL_law_X10_bell rfl rfl rfl (by decide +kernel) ⟨Nat.le_of_ble_eq_true rfl, Nat.le_of_ble_eq_true rfl⟩) hK hP hD hS hA (fun h9 => va_recv hK h9 (ci := 10) (q0 := 0) rfl rfl) rfl hl.1 rfl (Nat.le_of_ble_eq_true rfl) dL_law_550 ⟨by omega, by omega⟩ (fun a224 u225 H locs hw226 hP hD hS => ?_)
          have hP : va_P D vwCl ((OU ao co fo ++ (ZW x cy g C215 ++ va_pl L (pf cy K cf nm C215))) ++ YW y cy S216) H := hP
          have hD : va_D (fun q9 : Nat => s.heap.size ≤ q9) ((OU ao co fo ++ (ZW x cy g C215 ++ va_pl L (pf cy K cf nm C215))) ++ YW y cy S216) := hD
          refine lv_tov (v' := .int rs214) (congrArg Value.int hw226.1) ?_
          refine lv_pop hx hb dL_law_553 rfl ?_
          refine lv_goto (tgt := 968) hx hb dL_law_554 (by decide) ?_
          refine lv_iinc (v := nI (i + 5)) (lv' := [(4, .int (nI (i + 5))), (0, .ref b), (1, .ref (x 0)), (2, .ref (y 0)), (3, .ref ao)]) hx hb dL_law_968 hl (k := 4) rfl (nI_add i 5) (by decide) rfl (fun ls hl => ?_)
          refine lv_goto (tgt := 23) hx hb dL_law_971 (by decide) ?_
          refine W.widen (k := 300 + (i + 5)) (n := 20000 + 6 * (i + 5)) (by omega) (by omega) ?_
          exact ih (i + 5) (by omega) (by omega) C215 fo S216 hT (RX_B hXQ (by omega)) H _ _ hP hD hS (lv_sub hl [1, 2, 3, 4, 0] rfl)
        by_cases j9 : wd = 9
        · skip
          refine lv_tableIn (tgt := 557) hx hb dL_law_39 (by rw [j9]; decide) (by rw [j9]; decide) (by rw [j9]; rfl) (by decide) ?_
          refine lv_aload_n hx hb dL_law_557 rfl (lv_at hl 1 rfl) ?_
          refine lv_aload_n hx hb dL_law_558 rfl (lv_at hl 0 rfl) ?_
          refine lv_iload hx hb dL_law_559 (lv_at hl 4 rfl) ?_
          refine lv_iconst (v := 1) hx hb dL_law_561 (by decide) ?_
          refine lv_iadd hx hb dL_law_562 ?_
          refine lv_tov (v' := .int (nI (i + 1))) (congrArg Value.int (nI_add i 1)) ?_
          refine va_sld hx hb hX hbl hbA hS (vp_in_nI (by omega) (by omega)) dL_law_563 ?_
          refine lv_topi (fun y227 ey227 => ?_)
          rw [nI_clamp (by omega)] at ey227
          obtain rfl : v1 = y227 := hv1.trans ey227.symm
          refine lv_aload_n hx hb dL_law_564 rfl (lv_at hl 0 rfl) ?_
          refine lv_iload hx hb dL_law_565 (lv_at hl 4 rfl) ?_
          refine lv_iconst (v := 2) hx hb dL_law_567 (by decide) ?_
          refine lv_iadd hx hb dL_law_568 ?_
          refine lv_tov (v' := .int (nI (i + 2))) (congrArg Value.int (nI_add i 2)) ?_
          refine va_sld hx hb hX hbl hbA hS (vp_in_nI (by omega) (by omega)) dL_law_569 ?_
          refine lv_topi (fun y228 ey228 => ?_)
          rw [nI_clamp (by omega)] at ey228
          obtain rfl : v2 = y228 := hv2.trans ey228.symm
          refine lv_aload_n hx hb dL_law_570 rfl (lv_at hl 0 rfl) ?_
          refine lv_iload hx hb dL_law_571 (lv_at hl 4 rfl) ?_
          refine lv_iconst (v := 3) hx hb dL_law_573 (by decide) ?_
          refine lv_iadd hx hb dL_law_574 ?_
          refine lv_tov (v' := .int (nI (i + 3))) (congrArg Value.int (nI_add i 3)) ?_
          refine va_sld hx hb hX hbl hbA hS (vp_in_nI (by omega) (by omega)) dL_law_575 ?_
          refine lv_topi (fun y229 ey229 => ?_)
          rw [nI_clamp (by omega)] at ey229
          obtain rfl : v3 = y229 := hv3.trans ey229.symm
          obtain ⟨⟨rc230, C232⟩, ⟨rs231, S233⟩, ec234, es235, eq236, hXQ⟩ := w_mishap (g := g) (nm := nm) hXQ v1 v2 v3
          refine mvI (wo := OU ao co fo) (As := [.int v1, .int v2, .int v3]) (rest := []) ⟨hx, hb, hml, hown, hts0⟩ (zX9_mishap l D x cy g L K cf nm hG hL C hT _ v1 v2 v3 rc230 C232 ec234) (cwV 3 hts0 gL_law_X9_mishap rfl rfl rfl (by decide +kernel) ⟨Nat.le_of_ble_eq_true rfl, Nat.le_of_ble_eq_true rfl⟩) hK hP hD hS hA (fun h9 => va_recv hK h9 (ci := 9) (q0 := 0) rfl rfl) rfl hl.1 rfl (Nat.le_of_ble_eq_true rfl) dL_law_576 ⟨by omega, by omega⟩ (fun a239 u237 H locs hw238 hP hD hS => ?_)
          obtain ⟨hw238, hT⟩ := hw238
          have hP : va_P D vwCl ((OU ao co fo ++ (ZW x cy g C232 ++ va_pl L (pf cy K cf nm C232))) ++ YW y cy S) H := hP
          have hD : va_D (fun q9 : Nat => s.heap.size ≤ q9) ((OU ao co fo ++ (ZW x cy g C232 ++ va_pl L (pf cy K cf nm C232))) ++ YW y cy S) := hD
          refine lv_tov (v' := .int rc230) (congrArg Value.int hw238.1) ?_
          refine lv_pop hx hb dL_law_579 rfl ?_
          refine lv_aload_n hx hb dL_law_580 rfl (lv_at hl 2 rfl) ?_
          refine lv_aload_n hx hb dL_law_581 rfl (lv_at hl 0 rfl) ?_
          refine lv_iload hx hb dL_law_582 (lv_at hl 4 rfl) ?_
          refine lv_iconst (v := 1) hx hb dL_law_584 (by decide) ?_
          refine lv_iadd hx hb dL_law_585 ?_
          refine lv_tov (v' := .int (nI (i + 1))) (congrArg Value.int (nI_add i 1)) ?_
          refine va_sld hx hb hX hbl hbA hS (vp_in_nI (by omega) (by omega)) dL_law_586 ?_
          refine lv_topi (fun y240 ey240 => ?_)
          rw [nI_clamp (by omega)] at ey240
          obtain rfl : v1 = y240 := hv1.trans ey240.symm
          refine lv_aload_n hx hb dL_law_587 rfl (lv_at hl 0 rfl) ?_
          refine lv_iload hx hb dL_law_588 (lv_at hl 4 rfl) ?_
          refine lv_iconst (v := 2) hx hb dL_law_590 (by decide) ?_
          refine lv_iadd hx hb dL_law_591 ?_
          refine lv_tov (v' := .int (nI (i + 2))) (congrArg Value.int (nI_add i 2)) ?_
          refine va_sld hx hb hX hbl hbA hS (vp_in_nI (by omega) (by omega)) dL_law_592 ?_
          refine lv_topi (fun y241 ey241 => ?_)
          rw [nI_clamp (by omega)] at ey241
          obtain rfl : v2 = y241 := hv2.trans ey241.symm
          refine lv_aload_n hx hb dL_law_593 rfl (lv_at hl 0 rfl) ?_
          refine lv_iload hx hb dL_law_594 (lv_at hl 4 rfl) ?_
          refine lv_iconst (v := 3) hx hb dL_law_596 (by decide) ?_
          refine lv_iadd hx hb dL_law_597 ?_
          refine lv_tov (v' := .int (nI (i + 3))) (congrArg Value.int (nI_add i 3)) ?_
          refine va_sld hx hb hX hbl hbA hS (vp_in_nI (by omega) (by omega)) dL_law_598 ?_
          refine lv_topi (fun y242 ey242 => ?_)
          rw [nI_clamp (by omega)] at ey242
          obtain rfl : v3 = y242 := hv3.trans ey242.symm
          refine hvI (As := [.int v1, .int v2, .int v3]) (rest := []) ⟨hx, hb, hml, hown, hts0⟩ (zX10_mishap l D y cy S _ v1 v2 v3 rs231 S233 es235) (cwV 3 hts0 gL_law_X10_mishap rfl rfl rfl (by decide +kernel) ⟨Nat.le_of_ble_eq_true rfl, Nat.le_of_ble_eq_true rfl⟩) hK hP hD hS hA (fun h9 => va_recv hK h9 (ci := 10) (q0 := 0) rfl rfl) rfl hl.1 rfl (Nat.le_of_ble_eq_true rfl) dL_law_599 ⟨by omega, by omega⟩ (fun a243 u244 H locs hw245 hP hD hS => ?_)
          have hP : va_P D vwCl ((OU ao co fo ++ (ZW x cy g C232 ++ va_pl L (pf cy K cf nm C232))) ++ YW y cy S233) H := hP
          have hD : va_D (fun q9 : Nat => s.heap.size ≤ q9) ((OU ao co fo ++ (ZW x cy g C232 ++ va_pl L (pf cy K cf nm C232))) ++ YW y cy S233) := hD
          refine lv_tov (v' := .int rs231) (congrArg Value.int hw245.1) ?_
          refine lv_pop hx hb dL_law_602 rfl ?_
          refine lv_goto (tgt := 968) hx hb dL_law_603 (by decide) ?_
          refine lv_iinc (v := nI (i + 5)) (lv' := [(4, .int (nI (i + 5))), (0, .ref b), (1, .ref (x 0)), (2, .ref (y 0)), (3, .ref ao)]) hx hb dL_law_968 hl (k := 4) rfl (nI_add i 5) (by decide) rfl (fun ls hl => ?_)
          refine lv_goto (tgt := 23) hx hb dL_law_971 (by decide) ?_
          refine W.widen (k := 300 + (i + 5)) (n := 20000 + 6 * (i + 5)) (by omega) (by omega) ?_
          exact ih (i + 5) (by omega) (by omega) C232 fo S233 hT (RX_B hXQ (by omega)) H _ _ hP hD hS (lv_sub hl [1, 2, 3, 4, 0] rfl)
        by_cases j10 : wd = 10
        · skip
          refine lv_tableIn (tgt := 606) hx hb dL_law_39 (by rw [j10]; decide) (by rw [j10]; decide) (by rw [j10]; rfl) (by decide) ?_
          refine lv_aload_n hx hb dL_law_606 rfl (lv_at hl 1 rfl) ?_
          refine lv_aload_n hx hb dL_law_607 rfl (lv_at hl 0 rfl) ?_
          refine lv_iload hx hb dL_law_608 (lv_at hl 4 rfl) ?_
          refine lv_iconst (v := 1) hx hb dL_law_610 (by decide) ?_
          refine lv_iadd hx hb dL_law_611 ?_
          refine lv_tov (v' := .int (nI (i + 1))) (congrArg Value.int (nI_add i 1)) ?_
          refine va_sld hx hb hX hbl hbA hS (vp_in_nI (by omega) (by omega)) dL_law_612 ?_
          refine lv_topi (fun y246 ey246 => ?_)
          rw [nI_clamp (by omega)] at ey246
          obtain rfl : v1 = y246 := hv1.trans ey246.symm
          obtain ⟨⟨rc247, C249⟩, ⟨rs248, S250⟩, ec251, es252, eq253, hXQ2⟩ := w_run he (B := 200 * i) (by omega) hXQ v1
          refine mvI (wo := OU ao co fo) (As := [.int v1]) (rest := []) ⟨hx, hb, hml, hown, hts0⟩ (zX9_run l D x cy g L K cf nm hG hL C hT _ v1 rc247 C249 ec251) (cwV 1 hts0 gL_law_X9_run rfl rfl rfl (by decide +kernel) ⟨Nat.le_of_ble_eq_true rfl, Nat.le_of_ble_eq_true rfl⟩) hK hP hD hS hA (fun h9 => va_recv hK h9 (ci := 9) (q0 := 0) rfl rfl) rfl hl.1 rfl (Nat.le_of_ble_eq_true rfl) dL_law_613 ⟨by omega, by omega⟩ (fun a256 u254 H locs hw255 hP hD hS => ?_)
          obtain ⟨hw255, hT⟩ := hw255
          have hP : va_P D vwCl ((OU ao co fo ++ (ZW x cy g C249 ++ va_pl L (pf cy K cf nm C249))) ++ YW y cy S) H := hP
          have hD : va_D (fun q9 : Nat => s.heap.size ≤ q9) ((OU ao co fo ++ (ZW x cy g C249 ++ va_pl L (pf cy K cf nm C249))) ++ YW y cy S) := hD
          refine lv_tov (v' := .int rc247) (congrArg Value.int hw255) ?_
          refine lv_aload_n hx hb dL_law_616 rfl (lv_at hl 2 rfl) ?_
          refine lv_aload_n hx hb dL_law_617 rfl (lv_at hl 0 rfl) ?_
          refine lv_iload hx hb dL_law_618 (lv_at hl 4 rfl) ?_
          refine lv_iconst (v := 1) hx hb dL_law_620 (by decide) ?_
          refine lv_iadd hx hb dL_law_621 ?_
          refine lv_tov (v' := .int (nI (i + 1))) (congrArg Value.int (nI_add i 1)) ?_
          refine va_sld hx hb hX hbl hbA hS (vp_in_nI (by omega) (by omega)) dL_law_622 ?_
          refine lv_topi (fun y257 ey257 => ?_)
          rw [nI_clamp (by omega)] at ey257
          obtain rfl : v1 = y257 := hv1.trans ey257.symm
          refine hvI (As := [.int v1]) (rest := [.int rc247]) ⟨hx, hb, hml, hown, hts0⟩ (zX10_run l D y cy S _ v1 rs248 S250 es252) (cwV 1 hts0 gL_law_X10_run rfl rfl rfl (by decide +kernel) ⟨Nat.le_of_ble_eq_true rfl, Nat.le_of_ble_eq_true rfl⟩) hK hP hD hS hA (fun h9 => va_recv hK h9 (ci := 10) (q0 := 0) rfl rfl) rfl hl.1 rfl (Nat.le_of_ble_eq_true rfl) dL_law_623 ⟨by omega, by omega⟩ (fun a258 u259 H locs hw260 hP hD hS => ?_)
          have hP : va_P D vwCl ((OU ao co fo ++ (ZW x cy g C249 ++ va_pl L (pf cy K cf nm C249))) ++ YW y cy S250) H := hP
          have hD : va_D (fun q9 : Nat => s.heap.size ≤ q9) ((OU ao co fo ++ (ZW x cy g C249 ++ va_pl L (pf cy K cf nm C249))) ++ YW y cy S250) := hD
          refine lv_tov (v' := .int rs248) (congrArg Value.int hw260) ?_
          have hXQ := RX_B (B' := 200 * (i + 5)) hXQ2 (by omega)
          refine lv_icmp_eq (tgt := 968) hx hb dL_law_626 (by decide) (fun _ => ?_) (fun c9 => absurd (eq253) c9)
          refine lv_iinc (v := nI (i + 5)) (lv' := [(4, .int (nI (i + 5))), (0, .ref b), (1, .ref (x 0)), (2, .ref (y 0)), (3, .ref ao)]) hx hb dL_law_968 hl (k := 4) rfl (nI_add i 5) (by decide) rfl (fun ls hl => ?_)
          refine lv_goto (tgt := 23) hx hb dL_law_971 (by decide) ?_
          refine W.widen (k := 300 + (i + 5)) (n := 20000 + 6 * (i + 5)) (by omega) (by omega) ?_
          exact ih (i + 5) (by omega) (by omega) C249 fo S250 hT (hXQ) H _ _ hP hD hS (lv_sub hl [1, 2, 3, 4, 0] rfl)
        by_cases j11 : wd = 11
        · skip
          refine lv_tableIn (tgt := 631) hx hb dL_law_39 (by rw [j11]; decide) (by rw [j11]; decide) (by rw [j11]; rfl) (by decide) ?_
          refine lv_aload_n hx hb dL_law_631 rfl (lv_at hl 1 rfl) ?_
          refine lv_aload_n hx hb dL_law_632 rfl (lv_at hl 0 rfl) ?_
          refine lv_iload hx hb dL_law_633 (lv_at hl 4 rfl) ?_
          refine lv_iconst (v := 1) hx hb dL_law_635 (by decide) ?_
          refine lv_iadd hx hb dL_law_636 ?_
          refine lv_tov (v' := .int (nI (i + 1))) (congrArg Value.int (nI_add i 1)) ?_
          refine va_sld hx hb hX hbl hbA hS (vp_in_nI (by omega) (by omega)) dL_law_637 ?_
          refine lv_topi (fun y261 ey261 => ?_)
          rw [nI_clamp (by omega)] at ey261
          obtain rfl : v1 = y261 := hv1.trans ey261.symm
          refine lv_aload_n hx hb dL_law_638 rfl (lv_at hl 0 rfl) ?_
          refine lv_iload hx hb dL_law_639 (lv_at hl 4 rfl) ?_
          refine lv_iconst (v := 2) hx hb dL_law_641 (by decide) ?_
          refine lv_iadd hx hb dL_law_642 ?_
          refine lv_tov (v' := .int (nI (i + 2))) (congrArg Value.int (nI_add i 2)) ?_
          refine va_sld hx hb hX hbl hbA hS (vp_in_nI (by omega) (by omega)) dL_law_643 ?_
          refine lv_topi (fun y262 ey262 => ?_)
          rw [nI_clamp (by omega)] at ey262
          obtain rfl : v2 = y262 := hv2.trans ey262.symm
          obtain ⟨rc263, ⟨rs264, S266⟩, ec267, es268, eq269, hXQ⟩ := w_about he hXQ v1 v2
          refine mvI (wo := OU ao co fo) (As := [.int v1, .int v2]) (rest := []) ⟨hx, hb, hml, hown, hts0⟩ (zX9_about l D x cy g L K cf nm hG hL C hT _ v1 v2 rc263 ec267) (cwV 2 hts0 gL_law_X9_about rfl rfl rfl (by decide +kernel) ⟨Nat.le_of_ble_eq_true rfl, Nat.le_of_ble_eq_true rfl⟩) hK hP hD hS hA (fun h9 => va_recv hK h9 (ci := 9) (q0 := 0) rfl rfl) rfl hl.1 rfl (Nat.le_of_ble_eq_true rfl) dL_law_644 ⟨by omega, by omega⟩ (fun a272 u270 H locs hw271 hP hD hS => ?_)
          have hP : va_P D vwCl ((OU ao co fo ++ (ZW x cy g C ++ va_pl L (pf cy K cf nm C))) ++ YW y cy S) H := hP
          have hD : va_D (fun q9 : Nat => s.heap.size ≤ q9) ((OU ao co fo ++ (ZW x cy g C ++ va_pl L (pf cy K cf nm C))) ++ YW y cy S) := hD
          refine lv_tov (v' := .int rc263) (congrArg Value.int hw271) ?_
          refine lv_pop hx hb dL_law_647 rfl ?_
          refine lv_aload_n hx hb dL_law_648 rfl (lv_at hl 2 rfl) ?_
          refine lv_aload_n hx hb dL_law_649 rfl (lv_at hl 0 rfl) ?_
          refine lv_iload hx hb dL_law_650 (lv_at hl 4 rfl) ?_
          refine lv_iconst (v := 1) hx hb dL_law_652 (by decide) ?_
          refine lv_iadd hx hb dL_law_653 ?_
          refine lv_tov (v' := .int (nI (i + 1))) (congrArg Value.int (nI_add i 1)) ?_
          refine va_sld hx hb hX hbl hbA hS (vp_in_nI (by omega) (by omega)) dL_law_654 ?_
          refine lv_topi (fun y273 ey273 => ?_)
          rw [nI_clamp (by omega)] at ey273
          obtain rfl : v1 = y273 := hv1.trans ey273.symm
          refine lv_aload_n hx hb dL_law_655 rfl (lv_at hl 0 rfl) ?_
          refine lv_iload hx hb dL_law_656 (lv_at hl 4 rfl) ?_
          refine lv_iconst (v := 2) hx hb dL_law_658 (by decide) ?_
          refine lv_iadd hx hb dL_law_659 ?_
          refine lv_tov (v' := .int (nI (i + 2))) (congrArg Value.int (nI_add i 2)) ?_
          refine va_sld hx hb hX hbl hbA hS (vp_in_nI (by omega) (by omega)) dL_law_660 ?_
          refine lv_topi (fun y274 ey274 => ?_)
          rw [nI_clamp (by omega)] at ey274
          obtain rfl : v2 = y274 := hv2.trans ey274.symm
          refine hvI (As := [.int v1, .int v2]) (rest := []) ⟨hx, hb, hml, hown, hts0⟩ (zX10_about l D y cy S _ v1 v2 rs264 S266 es268) (cwV 2 hts0 gL_law_X10_about rfl rfl rfl (by decide +kernel) ⟨Nat.le_of_ble_eq_true rfl, Nat.le_of_ble_eq_true rfl⟩) hK hP hD hS hA (fun h9 => va_recv hK h9 (ci := 10) (q0 := 0) rfl rfl) rfl hl.1 rfl (Nat.le_of_ble_eq_true rfl) dL_law_661 ⟨by omega, by omega⟩ (fun a275 u276 H locs hw277 hP hD hS => ?_)
          have hP : va_P D vwCl ((OU ao co fo ++ (ZW x cy g C ++ va_pl L (pf cy K cf nm C))) ++ YW y cy S266) H := hP
          have hD : va_D (fun q9 : Nat => s.heap.size ≤ q9) ((OU ao co fo ++ (ZW x cy g C ++ va_pl L (pf cy K cf nm C))) ++ YW y cy S266) := hD
          refine lv_tov (v' := .int rs264) (congrArg Value.int hw277) ?_
          refine lv_pop hx hb dL_law_664 rfl ?_
          refine lv_goto (tgt := 968) hx hb dL_law_665 (by decide) ?_
          refine lv_iinc (v := nI (i + 5)) (lv' := [(4, .int (nI (i + 5))), (0, .ref b), (1, .ref (x 0)), (2, .ref (y 0)), (3, .ref ao)]) hx hb dL_law_968 hl (k := 4) rfl (nI_add i 5) (by decide) rfl (fun ls hl => ?_)
          refine lv_goto (tgt := 23) hx hb dL_law_971 (by decide) ?_
          refine W.widen (k := 300 + (i + 5)) (n := 20000 + 6 * (i + 5)) (by omega) (by omega) ?_
          exact ih (i + 5) (by omega) (by omega) C fo S266 hT (RX_B hXQ (by omega)) H _ _ hP hD hS (lv_sub hl [1, 2, 3, 4, 0] rfl)
        by_cases j12 : wd = 12
        · skip
          refine lv_tableIn (tgt := 668) hx hb dL_law_39 (by rw [j12]; decide) (by rw [j12]; decide) (by rw [j12]; rfl) (by decide) ?_
          refine lv_aload_n hx hb dL_law_668 rfl (lv_at hl 1 rfl) ?_
          refine lv_aload_n hx hb dL_law_669 rfl (lv_at hl 0 rfl) ?_
          refine lv_iload hx hb dL_law_670 (lv_at hl 4 rfl) ?_
          refine lv_iconst (v := 1) hx hb dL_law_672 (by decide) ?_
          refine lv_iadd hx hb dL_law_673 ?_
          refine lv_tov (v' := .int (nI (i + 1))) (congrArg Value.int (nI_add i 1)) ?_
          refine va_sld hx hb hX hbl hbA hS (vp_in_nI (by omega) (by omega)) dL_law_674 ?_
          refine lv_topi (fun y278 ey278 => ?_)
          rw [nI_clamp (by omega)] at ey278
          obtain rfl : v1 = y278 := hv1.trans ey278.symm
          refine lv_aload_n hx hb dL_law_675 rfl (lv_at hl 0 rfl) ?_
          refine lv_iload hx hb dL_law_676 (lv_at hl 4 rfl) ?_
          refine lv_iconst (v := 2) hx hb dL_law_678 (by decide) ?_
          refine lv_iadd hx hb dL_law_679 ?_
          refine lv_tov (v' := .int (nI (i + 2))) (congrArg Value.int (nI_add i 2)) ?_
          refine va_sld hx hb hX hbl hbA hS (vp_in_nI (by omega) (by omega)) dL_law_680 ?_
          refine lv_topi (fun y279 ey279 => ?_)
          rw [nI_clamp (by omega)] at ey279
          obtain rfl : v2 = y279 := hv2.trans ey279.symm
          obtain ⟨rc280, ⟨rs281, S283⟩, ec284, es285, eq286, hXQ⟩ := w_heldq he hXQ v1 v2
          refine mvI (wo := OU ao co fo) (As := [.int v1, .int v2]) (rest := []) ⟨hx, hb, hml, hown, hts0⟩ (zX9_held l D x cy g L K cf nm hG hL C hT _ v1 v2 rc280 ec284) (cwV 2 hts0 gL_law_X9_held rfl rfl rfl (by decide +kernel) ⟨Nat.le_of_ble_eq_true rfl, Nat.le_of_ble_eq_true rfl⟩) hK hP hD hS hA (fun h9 => va_recv hK h9 (ci := 9) (q0 := 0) rfl rfl) rfl hl.1 rfl (Nat.le_of_ble_eq_true rfl) dL_law_681 ⟨by omega, by omega⟩ (fun a289 u287 H locs hw288 hP hD hS => ?_)
          have hP : va_P D vwCl ((OU ao co fo ++ (ZW x cy g C ++ va_pl L (pf cy K cf nm C))) ++ YW y cy S) H := hP
          have hD : va_D (fun q9 : Nat => s.heap.size ≤ q9) ((OU ao co fo ++ (ZW x cy g C ++ va_pl L (pf cy K cf nm C))) ++ YW y cy S) := hD
          refine lv_tov (v' := .int rc280) (congrArg Value.int hw288) ?_
          refine lv_pop hx hb dL_law_684 rfl ?_
          refine lv_aload_n hx hb dL_law_685 rfl (lv_at hl 2 rfl) ?_
          refine lv_aload_n hx hb dL_law_686 rfl (lv_at hl 0 rfl) ?_
          refine lv_iload hx hb dL_law_687 (lv_at hl 4 rfl) ?_
          refine lv_iconst (v := 1) hx hb dL_law_689 (by decide) ?_
          refine lv_iadd hx hb dL_law_690 ?_
          refine lv_tov (v' := .int (nI (i + 1))) (congrArg Value.int (nI_add i 1)) ?_
          refine va_sld hx hb hX hbl hbA hS (vp_in_nI (by omega) (by omega)) dL_law_691 ?_
          refine lv_topi (fun y290 ey290 => ?_)
          rw [nI_clamp (by omega)] at ey290
          obtain rfl : v1 = y290 := hv1.trans ey290.symm
          refine lv_aload_n hx hb dL_law_692 rfl (lv_at hl 0 rfl) ?_
          refine lv_iload hx hb dL_law_693 (lv_at hl 4 rfl) ?_
          refine lv_iconst (v := 2) hx hb dL_law_695 (by decide) ?_
          refine lv_iadd hx hb dL_law_696 ?_
          refine lv_tov (v' := .int (nI (i + 2))) (congrArg Value.int (nI_add i 2)) ?_
          refine va_sld hx hb hX hbl hbA hS (vp_in_nI (by omega) (by omega)) dL_law_697 ?_
          refine lv_topi (fun y291 ey291 => ?_)
          rw [nI_clamp (by omega)] at ey291
          obtain rfl : v2 = y291 := hv2.trans ey291.symm
          refine hvI (As := [.int v1, .int v2]) (rest := []) ⟨hx, hb, hml, hown, hts0⟩ (zX10_held l D y cy S _ v1 v2 rs281 S283 es285) (cwV 2 hts0 gL_law_X10_held rfl rfl rfl (by decide +kernel) ⟨Nat.le_of_ble_eq_true rfl, Nat.le_of_ble_eq_true rfl⟩) hK hP hD hS hA (fun h9 => va_recv hK h9 (ci := 10) (q0 := 0) rfl rfl) rfl hl.1 rfl (Nat.le_of_ble_eq_true rfl) dL_law_698 ⟨by omega, by omega⟩ (fun a292 u293 H locs hw294 hP hD hS => ?_)
          have hP : va_P D vwCl ((OU ao co fo ++ (ZW x cy g C ++ va_pl L (pf cy K cf nm C))) ++ YW y cy S283) H := hP
          have hD : va_D (fun q9 : Nat => s.heap.size ≤ q9) ((OU ao co fo ++ (ZW x cy g C ++ va_pl L (pf cy K cf nm C))) ++ YW y cy S283) := hD
          refine lv_tov (v' := .int rs281) (congrArg Value.int hw294) ?_
          refine lv_pop hx hb dL_law_701 rfl ?_
          refine lv_goto (tgt := 968) hx hb dL_law_702 (by decide) ?_
          refine lv_iinc (v := nI (i + 5)) (lv' := [(4, .int (nI (i + 5))), (0, .ref b), (1, .ref (x 0)), (2, .ref (y 0)), (3, .ref ao)]) hx hb dL_law_968 hl (k := 4) rfl (nI_add i 5) (by decide) rfl (fun ls hl => ?_)
          refine lv_goto (tgt := 23) hx hb dL_law_971 (by decide) ?_
          refine W.widen (k := 300 + (i + 5)) (n := 20000 + 6 * (i + 5)) (by omega) (by omega) ?_
          exact ih (i + 5) (by omega) (by omega) C fo S283 hT (RX_B hXQ (by omega)) H _ _ hP hD hS (lv_sub hl [1, 2, 3, 4, 0] rfl)
        by_cases j13 : wd = 13
        · skip
          refine lv_tableIn (tgt := 705) hx hb dL_law_39 (by rw [j13]; decide) (by rw [j13]; decide) (by rw [j13]; rfl) (by decide) ?_
          refine lv_aload_n hx hb dL_law_705 rfl (lv_at hl 1 rfl) ?_
          refine lv_aload_n hx hb dL_law_706 rfl (lv_at hl 0 rfl) ?_
          refine lv_iload hx hb dL_law_707 (lv_at hl 4 rfl) ?_
          refine lv_iconst (v := 1) hx hb dL_law_709 (by decide) ?_
          refine lv_iadd hx hb dL_law_710 ?_
          refine lv_tov (v' := .int (nI (i + 1))) (congrArg Value.int (nI_add i 1)) ?_
          refine va_sld hx hb hX hbl hbA hS (vp_in_nI (by omega) (by omega)) dL_law_711 ?_
          refine lv_topi (fun y295 ey295 => ?_)
          rw [nI_clamp (by omega)] at ey295
          obtain rfl : v1 = y295 := hv1.trans ey295.symm
          refine lv_aload_n hx hb dL_law_712 rfl (lv_at hl 0 rfl) ?_
          refine lv_iload hx hb dL_law_713 (lv_at hl 4 rfl) ?_
          refine lv_iconst (v := 2) hx hb dL_law_715 (by decide) ?_
          refine lv_iadd hx hb dL_law_716 ?_
          refine lv_tov (v' := .int (nI (i + 2))) (congrArg Value.int (nI_add i 2)) ?_
          refine va_sld hx hb hX hbl hbA hS (vp_in_nI (by omega) (by omega)) dL_law_717 ?_
          refine lv_topi (fun y296 ey296 => ?_)
          rw [nI_clamp (by omega)] at ey296
          obtain rfl : v2 = y296 := hv2.trans ey296.symm
          obtain ⟨rc297, ⟨rs298, S300⟩, ec301, es302, eq303, hXQ⟩ := w_refused he hXQ v1 v2
          refine mvI (wo := OU ao co fo) (As := [.int v1, .int v2]) (rest := []) ⟨hx, hb, hml, hown, hts0⟩ (zX9_refused l D x cy g L K cf nm hG hL C hT _ v1 v2 rc297 ec301) (cwV 2 hts0 gL_law_X9_refused rfl rfl rfl (by decide +kernel) ⟨Nat.le_of_ble_eq_true rfl, Nat.le_of_ble_eq_true rfl⟩) hK hP hD hS hA (fun h9 => va_recv hK h9 (ci := 9) (q0 := 0) rfl rfl) rfl hl.1 rfl (Nat.le_of_ble_eq_true rfl) dL_law_718 ⟨by omega, by omega⟩ (fun a306 u304 H locs hw305 hP hD hS => ?_)
          have hP : va_P D vwCl ((OU ao co fo ++ (ZW x cy g C ++ va_pl L (pf cy K cf nm C))) ++ YW y cy S) H := hP
          have hD : va_D (fun q9 : Nat => s.heap.size ≤ q9) ((OU ao co fo ++ (ZW x cy g C ++ va_pl L (pf cy K cf nm C))) ++ YW y cy S) := hD
          refine lv_tov (v' := .int rc297) (congrArg Value.int hw305) ?_
          refine lv_pop hx hb dL_law_721 rfl ?_
          refine lv_aload_n hx hb dL_law_722 rfl (lv_at hl 2 rfl) ?_
          refine lv_aload_n hx hb dL_law_723 rfl (lv_at hl 0 rfl) ?_
          refine lv_iload hx hb dL_law_724 (lv_at hl 4 rfl) ?_
          refine lv_iconst (v := 1) hx hb dL_law_726 (by decide) ?_
          refine lv_iadd hx hb dL_law_727 ?_
          refine lv_tov (v' := .int (nI (i + 1))) (congrArg Value.int (nI_add i 1)) ?_
          refine va_sld hx hb hX hbl hbA hS (vp_in_nI (by omega) (by omega)) dL_law_728 ?_
          refine lv_topi (fun y307 ey307 => ?_)
          rw [nI_clamp (by omega)] at ey307
          obtain rfl : v1 = y307 := hv1.trans ey307.symm
          refine lv_aload_n hx hb dL_law_729 rfl (lv_at hl 0 rfl) ?_
          refine lv_iload hx hb dL_law_730 (lv_at hl 4 rfl) ?_
          refine lv_iconst (v := 2) hx hb dL_law_732 (by decide) ?_
          refine lv_iadd hx hb dL_law_733 ?_
          refine lv_tov (v' := .int (nI (i + 2))) (congrArg Value.int (nI_add i 2)) ?_
          refine va_sld hx hb hX hbl hbA hS (vp_in_nI (by omega) (by omega)) dL_law_734 ?_
          refine lv_topi (fun y308 ey308 => ?_)
          rw [nI_clamp (by omega)] at ey308
          obtain rfl : v2 = y308 := hv2.trans ey308.symm
          refine hvI (As := [.int v1, .int v2]) (rest := []) ⟨hx, hb, hml, hown, hts0⟩ (zX10_refused l D y cy S _ v1 v2 rs298 S300 es302) (cwV 2 hts0 gL_law_X10_refused rfl rfl rfl (by decide +kernel) ⟨Nat.le_of_ble_eq_true rfl, Nat.le_of_ble_eq_true rfl⟩) hK hP hD hS hA (fun h9 => va_recv hK h9 (ci := 10) (q0 := 0) rfl rfl) rfl hl.1 rfl (Nat.le_of_ble_eq_true rfl) dL_law_735 ⟨by omega, by omega⟩ (fun a309 u310 H locs hw311 hP hD hS => ?_)
          have hP : va_P D vwCl ((OU ao co fo ++ (ZW x cy g C ++ va_pl L (pf cy K cf nm C))) ++ YW y cy S300) H := hP
          have hD : va_D (fun q9 : Nat => s.heap.size ≤ q9) ((OU ao co fo ++ (ZW x cy g C ++ va_pl L (pf cy K cf nm C))) ++ YW y cy S300) := hD
          refine lv_tov (v' := .int rs298) (congrArg Value.int hw311) ?_
          refine lv_pop hx hb dL_law_738 rfl ?_
          refine lv_goto (tgt := 968) hx hb dL_law_739 (by decide) ?_
          refine lv_iinc (v := nI (i + 5)) (lv' := [(4, .int (nI (i + 5))), (0, .ref b), (1, .ref (x 0)), (2, .ref (y 0)), (3, .ref ao)]) hx hb dL_law_968 hl (k := 4) rfl (nI_add i 5) (by decide) rfl (fun ls hl => ?_)
          refine lv_goto (tgt := 23) hx hb dL_law_971 (by decide) ?_
          refine W.widen (k := 300 + (i + 5)) (n := 20000 + 6 * (i + 5)) (by omega) (by omega) ?_
          exact ih (i + 5) (by omega) (by omega) C fo S300 hT (RX_B hXQ (by omega)) H _ _ hP hD hS (lv_sub hl [1, 2, 3, 4, 0] rfl)
        by_cases j14 : wd = 14
        · skip
          refine lv_tableIn (tgt := 742) hx hb dL_law_39 (by rw [j14]; decide) (by rw [j14]; decide) (by rw [j14]; rfl) (by decide) ?_
          refine lv_aload_n hx hb dL_law_742 rfl (lv_at hl 1 rfl) ?_
          refine lv_aload_n hx hb dL_law_743 rfl (lv_at hl 0 rfl) ?_
          refine lv_iload hx hb dL_law_744 (lv_at hl 4 rfl) ?_
          refine lv_iconst (v := 1) hx hb dL_law_746 (by decide) ?_
          refine lv_iadd hx hb dL_law_747 ?_
          refine lv_tov (v' := .int (nI (i + 1))) (congrArg Value.int (nI_add i 1)) ?_
          refine va_sld hx hb hX hbl hbA hS (vp_in_nI (by omega) (by omega)) dL_law_748 ?_
          refine lv_topi (fun y312 ey312 => ?_)
          rw [nI_clamp (by omega)] at ey312
          obtain rfl : v1 = y312 := hv1.trans ey312.symm
          obtain ⟨rc313, ⟨rs314, S316⟩, ec317, es318, eq319, hXQ⟩ := w_place he hXQ v1
          refine mvI (wo := OU ao co fo) (As := [.int v1]) (rest := []) ⟨hx, hb, hml, hown, hts0⟩ (zX9_place l D x cy g L K cf nm hG hL C hT _ v1 rc313 ec317) (cwV 1 hts0 gL_law_X9_place rfl rfl rfl (by decide +kernel) ⟨Nat.le_of_ble_eq_true rfl, Nat.le_of_ble_eq_true rfl⟩) hK hP hD hS hA (fun h9 => va_recv hK h9 (ci := 9) (q0 := 0) rfl rfl) rfl hl.1 rfl (Nat.le_of_ble_eq_true rfl) dL_law_749 ⟨by omega, by omega⟩ (fun a322 u320 H locs hw321 hP hD hS => ?_)
          have hP : va_P D vwCl ((OU ao co fo ++ (ZW x cy g C ++ va_pl L (pf cy K cf nm C))) ++ YW y cy S) H := hP
          have hD : va_D (fun q9 : Nat => s.heap.size ≤ q9) ((OU ao co fo ++ (ZW x cy g C ++ va_pl L (pf cy K cf nm C))) ++ YW y cy S) := hD
          refine lv_tov (v' := .int rc313) (congrArg Value.int hw321) ?_
          refine lv_pop hx hb dL_law_752 rfl ?_
          refine lv_aload_n hx hb dL_law_753 rfl (lv_at hl 2 rfl) ?_
          refine lv_aload_n hx hb dL_law_754 rfl (lv_at hl 0 rfl) ?_
          refine lv_iload hx hb dL_law_755 (lv_at hl 4 rfl) ?_
          refine lv_iconst (v := 1) hx hb dL_law_757 (by decide) ?_
          refine lv_iadd hx hb dL_law_758 ?_
          refine lv_tov (v' := .int (nI (i + 1))) (congrArg Value.int (nI_add i 1)) ?_
          refine va_sld hx hb hX hbl hbA hS (vp_in_nI (by omega) (by omega)) dL_law_759 ?_
          refine lv_topi (fun y323 ey323 => ?_)
          rw [nI_clamp (by omega)] at ey323
          obtain rfl : v1 = y323 := hv1.trans ey323.symm
          refine hvI (As := [.int v1]) (rest := []) ⟨hx, hb, hml, hown, hts0⟩ (zX10_place l D y cy S _ v1 rs314 S316 es318) (cwV 1 hts0 gL_law_X10_place rfl rfl rfl (by decide +kernel) ⟨Nat.le_of_ble_eq_true rfl, Nat.le_of_ble_eq_true rfl⟩) hK hP hD hS hA (fun h9 => va_recv hK h9 (ci := 10) (q0 := 0) rfl rfl) rfl hl.1 rfl (Nat.le_of_ble_eq_true rfl) dL_law_760 ⟨by omega, by omega⟩ (fun a324 u325 H locs hw326 hP hD hS => ?_)
          have hP : va_P D vwCl ((OU ao co fo ++ (ZW x cy g C ++ va_pl L (pf cy K cf nm C))) ++ YW y cy S316) H := hP
          have hD : va_D (fun q9 : Nat => s.heap.size ≤ q9) ((OU ao co fo ++ (ZW x cy g C ++ va_pl L (pf cy K cf nm C))) ++ YW y cy S316) := hD
          refine lv_tov (v' := .int rs314) (congrArg Value.int hw326) ?_
          refine lv_pop hx hb dL_law_763 rfl ?_
          refine lv_goto (tgt := 968) hx hb dL_law_764 (by decide) ?_
          refine lv_iinc (v := nI (i + 5)) (lv' := [(4, .int (nI (i + 5))), (0, .ref b), (1, .ref (x 0)), (2, .ref (y 0)), (3, .ref ao)]) hx hb dL_law_968 hl (k := 4) rfl (nI_add i 5) (by decide) rfl (fun ls hl => ?_)
          refine lv_goto (tgt := 23) hx hb dL_law_971 (by decide) ?_
          refine W.widen (k := 300 + (i + 5)) (n := 20000 + 6 * (i + 5)) (by omega) (by omega) ?_
          exact ih (i + 5) (by omega) (by omega) C fo S316 hT (RX_B hXQ (by omega)) H _ _ hP hD hS (lv_sub hl [1, 2, 3, 4, 0] rfl)
        by_cases j15 : wd = 15
        · skip
          refine lv_tableIn (tgt := 767) hx hb dL_law_39 (by rw [j15]; decide) (by rw [j15]; decide) (by rw [j15]; rfl) (by decide) ?_
          refine lv_aload_n hx hb dL_law_767 rfl (lv_at hl 1 rfl) ?_
          refine lv_aload_n hx hb dL_law_768 rfl (lv_at hl 0 rfl) ?_
          refine lv_iload hx hb dL_law_769 (lv_at hl 4 rfl) ?_
          refine lv_iconst (v := 1) hx hb dL_law_771 (by decide) ?_
          refine lv_iadd hx hb dL_law_772 ?_
          refine lv_tov (v' := .int (nI (i + 1))) (congrArg Value.int (nI_add i 1)) ?_
          refine va_sld hx hb hX hbl hbA hS (vp_in_nI (by omega) (by omega)) dL_law_773 ?_
          refine lv_topi (fun y327 ey327 => ?_)
          rw [nI_clamp (by omega)] at ey327
          obtain rfl : v1 = y327 := hv1.trans ey327.symm
          obtain ⟨rc328, ⟨rs329, S331⟩, ec332, es333, eq334, hXQ⟩ := w_whose he hXQ v1
          refine mvI (wo := OU ao co fo) (As := [.int v1]) (rest := []) ⟨hx, hb, hml, hown, hts0⟩ (zX9_whose l D x cy g L K cf nm hG hL C hT _ v1 rc328 ec332) (cwV 1 hts0 gL_law_X9_whose rfl rfl rfl (by decide +kernel) ⟨Nat.le_of_ble_eq_true rfl, Nat.le_of_ble_eq_true rfl⟩) hK hP hD hS hA (fun h9 => va_recv hK h9 (ci := 9) (q0 := 0) rfl rfl) rfl hl.1 rfl (Nat.le_of_ble_eq_true rfl) dL_law_774 ⟨by omega, by omega⟩ (fun a337 u335 H locs hw336 hP hD hS => ?_)
          have hP : va_P D vwCl ((OU ao co fo ++ (ZW x cy g C ++ va_pl L (pf cy K cf nm C))) ++ YW y cy S) H := hP
          have hD : va_D (fun q9 : Nat => s.heap.size ≤ q9) ((OU ao co fo ++ (ZW x cy g C ++ va_pl L (pf cy K cf nm C))) ++ YW y cy S) := hD
          refine lv_tov (v' := .int rc328) (congrArg Value.int hw336) ?_
          refine lv_pop hx hb dL_law_777 rfl ?_
          refine lv_aload_n hx hb dL_law_778 rfl (lv_at hl 2 rfl) ?_
          refine lv_aload_n hx hb dL_law_779 rfl (lv_at hl 0 rfl) ?_
          refine lv_iload hx hb dL_law_780 (lv_at hl 4 rfl) ?_
          refine lv_iconst (v := 1) hx hb dL_law_782 (by decide) ?_
          refine lv_iadd hx hb dL_law_783 ?_
          refine lv_tov (v' := .int (nI (i + 1))) (congrArg Value.int (nI_add i 1)) ?_
          refine va_sld hx hb hX hbl hbA hS (vp_in_nI (by omega) (by omega)) dL_law_784 ?_
          refine lv_topi (fun y338 ey338 => ?_)
          rw [nI_clamp (by omega)] at ey338
          obtain rfl : v1 = y338 := hv1.trans ey338.symm
          refine hvI (As := [.int v1]) (rest := []) ⟨hx, hb, hml, hown, hts0⟩ (zX10_whose l D y cy S _ v1 rs329 S331 es333) (cwV 1 hts0 gL_law_X10_whose rfl rfl rfl (by decide +kernel) ⟨Nat.le_of_ble_eq_true rfl, Nat.le_of_ble_eq_true rfl⟩) hK hP hD hS hA (fun h9 => va_recv hK h9 (ci := 10) (q0 := 0) rfl rfl) rfl hl.1 rfl (Nat.le_of_ble_eq_true rfl) dL_law_785 ⟨by omega, by omega⟩ (fun a339 u340 H locs hw341 hP hD hS => ?_)
          have hP : va_P D vwCl ((OU ao co fo ++ (ZW x cy g C ++ va_pl L (pf cy K cf nm C))) ++ YW y cy S331) H := hP
          have hD : va_D (fun q9 : Nat => s.heap.size ≤ q9) ((OU ao co fo ++ (ZW x cy g C ++ va_pl L (pf cy K cf nm C))) ++ YW y cy S331) := hD
          refine lv_tov (v' := .int rs329) (congrArg Value.int hw341) ?_
          refine lv_pop hx hb dL_law_788 rfl ?_
          refine lv_goto (tgt := 968) hx hb dL_law_789 (by decide) ?_
          refine lv_iinc (v := nI (i + 5)) (lv' := [(4, .int (nI (i + 5))), (0, .ref b), (1, .ref (x 0)), (2, .ref (y 0)), (3, .ref ao)]) hx hb dL_law_968 hl (k := 4) rfl (nI_add i 5) (by decide) rfl (fun ls hl => ?_)
          refine lv_goto (tgt := 23) hx hb dL_law_971 (by decide) ?_
          refine W.widen (k := 300 + (i + 5)) (n := 20000 + 6 * (i + 5)) (by omega) (by omega) ?_
          exact ih (i + 5) (by omega) (by omega) C fo S331 hT (RX_B hXQ (by omega)) H _ _ hP hD hS (lv_sub hl [1, 2, 3, 4, 0] rfl)
        by_cases j16 : wd = 16
        · skip
          refine lv_tableIn (tgt := 792) hx hb dL_law_39 (by rw [j16]; decide) (by rw [j16]; decide) (by rw [j16]; rfl) (by decide) ?_
          refine lv_aload_n hx hb dL_law_792 rfl (lv_at hl 1 rfl) ?_
          refine lv_aload_n hx hb dL_law_793 rfl (lv_at hl 0 rfl) ?_
          refine lv_iload hx hb dL_law_794 (lv_at hl 4 rfl) ?_
          refine lv_iconst (v := 1) hx hb dL_law_796 (by decide) ?_
          refine lv_iadd hx hb dL_law_797 ?_
          refine lv_tov (v' := .int (nI (i + 1))) (congrArg Value.int (nI_add i 1)) ?_
          refine va_sld hx hb hX hbl hbA hS (vp_in_nI (by omega) (by omega)) dL_law_798 ?_
          refine lv_topi (fun y342 ey342 => ?_)
          rw [nI_clamp (by omega)] at ey342
          obtain rfl : v1 = y342 := hv1.trans ey342.symm
          obtain ⟨rc343, ⟨rs344, S346⟩, ec347, es348, eq349, hXQ⟩ := w_seated he hXQ v1
          refine mvI (wo := OU ao co fo) (As := [.int v1]) (rest := []) ⟨hx, hb, hml, hown, hts0⟩ (zX9_seated l D x cy g L K cf nm hG hL C hT _ v1 rc343 ec347) (cwV 1 hts0 gL_law_X9_seated rfl rfl rfl (by decide +kernel) ⟨Nat.le_of_ble_eq_true rfl, Nat.le_of_ble_eq_true rfl⟩) hK hP hD hS hA (fun h9 => va_recv hK h9 (ci := 9) (q0 := 0) rfl rfl) rfl hl.1 rfl (Nat.le_of_ble_eq_true rfl) dL_law_799 ⟨by omega, by omega⟩ (fun a352 u350 H locs hw351 hP hD hS => ?_)
          have hP : va_P D vwCl ((OU ao co fo ++ (ZW x cy g C ++ va_pl L (pf cy K cf nm C))) ++ YW y cy S) H := hP
          have hD : va_D (fun q9 : Nat => s.heap.size ≤ q9) ((OU ao co fo ++ (ZW x cy g C ++ va_pl L (pf cy K cf nm C))) ++ YW y cy S) := hD
          refine lv_tov (v' := .int rc343) (congrArg Value.int hw351) ?_
          refine lv_pop hx hb dL_law_802 rfl ?_
          refine lv_aload_n hx hb dL_law_803 rfl (lv_at hl 2 rfl) ?_
          refine lv_aload_n hx hb dL_law_804 rfl (lv_at hl 0 rfl) ?_
          refine lv_iload hx hb dL_law_805 (lv_at hl 4 rfl) ?_
          refine lv_iconst (v := 1) hx hb dL_law_807 (by decide) ?_
          refine lv_iadd hx hb dL_law_808 ?_
          refine lv_tov (v' := .int (nI (i + 1))) (congrArg Value.int (nI_add i 1)) ?_
          refine va_sld hx hb hX hbl hbA hS (vp_in_nI (by omega) (by omega)) dL_law_809 ?_
          refine lv_topi (fun y353 ey353 => ?_)
          rw [nI_clamp (by omega)] at ey353
          obtain rfl : v1 = y353 := hv1.trans ey353.symm
          refine hvI (As := [.int v1]) (rest := []) ⟨hx, hb, hml, hown, hts0⟩ (zX10_seated l D y cy S _ v1 rs344 S346 es348) (cwV 1 hts0 gL_law_X10_seated rfl rfl rfl (by decide +kernel) ⟨Nat.le_of_ble_eq_true rfl, Nat.le_of_ble_eq_true rfl⟩) hK hP hD hS hA (fun h9 => va_recv hK h9 (ci := 10) (q0 := 0) rfl rfl) rfl hl.1 rfl (Nat.le_of_ble_eq_true rfl) dL_law_810 ⟨by omega, by omega⟩ (fun a354 u355 H locs hw356 hP hD hS => ?_)
          have hP : va_P D vwCl ((OU ao co fo ++ (ZW x cy g C ++ va_pl L (pf cy K cf nm C))) ++ YW y cy S346) H := hP
          have hD : va_D (fun q9 : Nat => s.heap.size ≤ q9) ((OU ao co fo ++ (ZW x cy g C ++ va_pl L (pf cy K cf nm C))) ++ YW y cy S346) := hD
          refine lv_tov (v' := .int rs344) (congrArg Value.int hw356) ?_
          refine lv_pop hx hb dL_law_813 rfl ?_
          refine lv_goto (tgt := 968) hx hb dL_law_814 (by decide) ?_
          refine lv_iinc (v := nI (i + 5)) (lv' := [(4, .int (nI (i + 5))), (0, .ref b), (1, .ref (x 0)), (2, .ref (y 0)), (3, .ref ao)]) hx hb dL_law_968 hl (k := 4) rfl (nI_add i 5) (by decide) rfl (fun ls hl => ?_)
          refine lv_goto (tgt := 23) hx hb dL_law_971 (by decide) ?_
          refine W.widen (k := 300 + (i + 5)) (n := 20000 + 6 * (i + 5)) (by omega) (by omega) ?_
          exact ih (i + 5) (by omega) (by omega) C fo S346 hT (RX_B hXQ (by omega)) H _ _ hP hD hS (lv_sub hl [1, 2, 3, 4, 0] rfl)
        by_cases j17 : wd = 17
        · skip
          refine lv_tableIn (tgt := 817) hx hb dL_law_39 (by rw [j17]; decide) (by rw [j17]; decide) (by rw [j17]; rfl) (by decide) ?_
          refine lv_aload_n hx hb dL_law_817 rfl (lv_at hl 1 rfl) ?_
          refine lv_aload_n hx hb dL_law_818 rfl (lv_at hl 0 rfl) ?_
          refine lv_iload hx hb dL_law_819 (lv_at hl 4 rfl) ?_
          refine lv_iconst (v := 1) hx hb dL_law_821 (by decide) ?_
          refine lv_iadd hx hb dL_law_822 ?_
          refine lv_tov (v' := .int (nI (i + 1))) (congrArg Value.int (nI_add i 1)) ?_
          refine va_sld hx hb hX hbl hbA hS (vp_in_nI (by omega) (by omega)) dL_law_823 ?_
          refine lv_topi (fun y357 ey357 => ?_)
          rw [nI_clamp (by omega)] at ey357
          obtain rfl : v1 = y357 := hv1.trans ey357.symm
          refine lv_aload_n hx hb dL_law_824 rfl (lv_at hl 0 rfl) ?_
          refine lv_iload hx hb dL_law_825 (lv_at hl 4 rfl) ?_
          refine lv_iconst (v := 2) hx hb dL_law_827 (by decide) ?_
          refine lv_iadd hx hb dL_law_828 ?_
          refine lv_tov (v' := .int (nI (i + 2))) (congrArg Value.int (nI_add i 2)) ?_
          refine va_sld hx hb hX hbl hbA hS (vp_in_nI (by omega) (by omega)) dL_law_829 ?_
          refine lv_topi (fun y358 ey358 => ?_)
          rw [nI_clamp (by omega)] at ey358
          obtain rfl : v2 = y358 := hv2.trans ey358.symm
          refine lv_aload_n hx hb dL_law_830 rfl (lv_at hl 0 rfl) ?_
          refine lv_iload hx hb dL_law_831 (lv_at hl 4 rfl) ?_
          refine lv_iconst (v := 3) hx hb dL_law_833 (by decide) ?_
          refine lv_iadd hx hb dL_law_834 ?_
          refine lv_tov (v' := .int (nI (i + 3))) (congrArg Value.int (nI_add i 3)) ?_
          refine va_sld hx hb hX hbl hbA hS (vp_in_nI (by omega) (by omega)) dL_law_835 ?_
          refine lv_topi (fun y359 ey359 => ?_)
          rw [nI_clamp (by omega)] at ey359
          obtain rfl : v3 = y359 := hv3.trans ey359.symm
          obtain ⟨rc360, ⟨rs361, S363⟩, ec364, es365, eq366, hXQ⟩ := w_worker he hXQ v1 v2 v3
          refine mvI (wo := OU ao co fo) (As := [.int v1, .int v2, .int v3]) (rest := []) ⟨hx, hb, hml, hown, hts0⟩ (zX9_worker l D x cy g L K cf nm hG hL C hT _ v1 v2 v3 rc360 ec364) (cwV 3 hts0 gL_law_X9_worker rfl rfl rfl (by decide +kernel) ⟨Nat.le_of_ble_eq_true rfl, Nat.le_of_ble_eq_true rfl⟩) hK hP hD hS hA (fun h9 => va_recv hK h9 (ci := 9) (q0 := 0) rfl rfl) rfl hl.1 rfl (Nat.le_of_ble_eq_true rfl) dL_law_836 ⟨by omega, by omega⟩ (fun a369 u367 H locs hw368 hP hD hS => ?_)
          have hP : va_P D vwCl ((OU ao co fo ++ (ZW x cy g C ++ va_pl L (pf cy K cf nm C))) ++ YW y cy S) H := hP
          have hD : va_D (fun q9 : Nat => s.heap.size ≤ q9) ((OU ao co fo ++ (ZW x cy g C ++ va_pl L (pf cy K cf nm C))) ++ YW y cy S) := hD
          refine lv_tov (v' := .int rc360) (congrArg Value.int hw368) ?_
          refine lv_pop hx hb dL_law_839 rfl ?_
          refine lv_aload_n hx hb dL_law_840 rfl (lv_at hl 2 rfl) ?_
          refine lv_aload_n hx hb dL_law_841 rfl (lv_at hl 0 rfl) ?_
          refine lv_iload hx hb dL_law_842 (lv_at hl 4 rfl) ?_
          refine lv_iconst (v := 1) hx hb dL_law_844 (by decide) ?_
          refine lv_iadd hx hb dL_law_845 ?_
          refine lv_tov (v' := .int (nI (i + 1))) (congrArg Value.int (nI_add i 1)) ?_
          refine va_sld hx hb hX hbl hbA hS (vp_in_nI (by omega) (by omega)) dL_law_846 ?_
          refine lv_topi (fun y370 ey370 => ?_)
          rw [nI_clamp (by omega)] at ey370
          obtain rfl : v1 = y370 := hv1.trans ey370.symm
          refine lv_aload_n hx hb dL_law_847 rfl (lv_at hl 0 rfl) ?_
          refine lv_iload hx hb dL_law_848 (lv_at hl 4 rfl) ?_
          refine lv_iconst (v := 2) hx hb dL_law_850 (by decide) ?_
          refine lv_iadd hx hb dL_law_851 ?_
          refine lv_tov (v' := .int (nI (i + 2))) (congrArg Value.int (nI_add i 2)) ?_
          refine va_sld hx hb hX hbl hbA hS (vp_in_nI (by omega) (by omega)) dL_law_852 ?_
          refine lv_topi (fun y371 ey371 => ?_)
          rw [nI_clamp (by omega)] at ey371
          obtain rfl : v2 = y371 := hv2.trans ey371.symm
          refine lv_aload_n hx hb dL_law_853 rfl (lv_at hl 0 rfl) ?_
          refine lv_iload hx hb dL_law_854 (lv_at hl 4 rfl) ?_
          refine lv_iconst (v := 3) hx hb dL_law_856 (by decide) ?_
          refine lv_iadd hx hb dL_law_857 ?_
          refine lv_tov (v' := .int (nI (i + 3))) (congrArg Value.int (nI_add i 3)) ?_
          refine va_sld hx hb hX hbl hbA hS (vp_in_nI (by omega) (by omega)) dL_law_858 ?_
          refine lv_topi (fun y372 ey372 => ?_)
          rw [nI_clamp (by omega)] at ey372
          obtain rfl : v3 = y372 := hv3.trans ey372.symm
          refine hvI (As := [.int v1, .int v2, .int v3]) (rest := []) ⟨hx, hb, hml, hown, hts0⟩ (zX10_worker l D y cy S _ v1 v2 v3 rs361 S363 es365) (cwV 3 hts0 gL_law_X10_worker rfl rfl rfl (by decide +kernel) ⟨Nat.le_of_ble_eq_true rfl, Nat.le_of_ble_eq_true rfl⟩) hK hP hD hS hA (fun h9 => va_recv hK h9 (ci := 10) (q0 := 0) rfl rfl) rfl hl.1 rfl (Nat.le_of_ble_eq_true rfl) dL_law_859 ⟨by omega, by omega⟩ (fun a373 u374 H locs hw375 hP hD hS => ?_)
          have hP : va_P D vwCl ((OU ao co fo ++ (ZW x cy g C ++ va_pl L (pf cy K cf nm C))) ++ YW y cy S363) H := hP
          have hD : va_D (fun q9 : Nat => s.heap.size ≤ q9) ((OU ao co fo ++ (ZW x cy g C ++ va_pl L (pf cy K cf nm C))) ++ YW y cy S363) := hD
          refine lv_tov (v' := .int rs361) (congrArg Value.int hw375) ?_
          refine lv_pop hx hb dL_law_862 rfl ?_
          refine lv_goto (tgt := 968) hx hb dL_law_863 (by decide) ?_
          refine lv_iinc (v := nI (i + 5)) (lv' := [(4, .int (nI (i + 5))), (0, .ref b), (1, .ref (x 0)), (2, .ref (y 0)), (3, .ref ao)]) hx hb dL_law_968 hl (k := 4) rfl (nI_add i 5) (by decide) rfl (fun ls hl => ?_)
          refine lv_goto (tgt := 23) hx hb dL_law_971 (by decide) ?_
          refine W.widen (k := 300 + (i + 5)) (n := 20000 + 6 * (i + 5)) (by omega) (by omega) ?_
          exact ih (i + 5) (by omega) (by omega) C fo S363 hT (RX_B hXQ (by omega)) H _ _ hP hD hS (lv_sub hl [1, 2, 3, 4, 0] rfl)
        by_cases j18 : wd = 18
        · skip
          refine lv_tableIn (tgt := 866) hx hb dL_law_39 (by rw [j18]; decide) (by rw [j18]; decide) (by rw [j18]; rfl) (by decide) ?_
          refine lv_aload_n hx hb dL_law_866 rfl (lv_at hl 1 rfl) ?_
          refine lv_aload_n hx hb dL_law_867 rfl (lv_at hl 0 rfl) ?_
          refine lv_iload hx hb dL_law_868 (lv_at hl 4 rfl) ?_
          refine lv_iconst (v := 1) hx hb dL_law_870 (by decide) ?_
          refine lv_iadd hx hb dL_law_871 ?_
          refine lv_tov (v' := .int (nI (i + 1))) (congrArg Value.int (nI_add i 1)) ?_
          refine va_sld hx hb hX hbl hbA hS (vp_in_nI (by omega) (by omega)) dL_law_872 ?_
          refine lv_topi (fun y376 ey376 => ?_)
          rw [nI_clamp (by omega)] at ey376
          obtain rfl : v1 = y376 := hv1.trans ey376.symm
          refine lv_aload_n hx hb dL_law_873 rfl (lv_at hl 0 rfl) ?_
          refine lv_iload hx hb dL_law_874 (lv_at hl 4 rfl) ?_
          refine lv_iconst (v := 2) hx hb dL_law_876 (by decide) ?_
          refine lv_iadd hx hb dL_law_877 ?_
          refine lv_tov (v' := .int (nI (i + 2))) (congrArg Value.int (nI_add i 2)) ?_
          refine va_sld hx hb hX hbl hbA hS (vp_in_nI (by omega) (by omega)) dL_law_878 ?_
          refine lv_topi (fun y377 ey377 => ?_)
          rw [nI_clamp (by omega)] at ey377
          obtain rfl : v2 = y377 := hv2.trans ey377.symm
          obtain ⟨rc378, ⟨rs379, S381⟩, ec382, es383, eq384, hXQ⟩ := w_queue he hXQ v1 v2
          refine mvI (wo := OU ao co fo) (As := [.int v1, .int v2]) (rest := []) ⟨hx, hb, hml, hown, hts0⟩ (zX9_queue l D x cy g L K cf nm hG hL C hT _ v1 v2 rc378 ec382) (cwV 2 hts0 gL_law_X9_queue rfl rfl rfl (by decide +kernel) ⟨Nat.le_of_ble_eq_true rfl, Nat.le_of_ble_eq_true rfl⟩) hK hP hD hS hA (fun h9 => va_recv hK h9 (ci := 9) (q0 := 0) rfl rfl) rfl hl.1 rfl (Nat.le_of_ble_eq_true rfl) dL_law_879 ⟨by omega, by omega⟩ (fun a387 u385 H locs hw386 hP hD hS => ?_)
          have hP : va_P D vwCl ((OU ao co fo ++ (ZW x cy g C ++ va_pl L (pf cy K cf nm C))) ++ YW y cy S) H := hP
          have hD : va_D (fun q9 : Nat => s.heap.size ≤ q9) ((OU ao co fo ++ (ZW x cy g C ++ va_pl L (pf cy K cf nm C))) ++ YW y cy S) := hD
          refine lv_tov (v' := .int rc378) (congrArg Value.int hw386) ?_
          refine lv_pop hx hb dL_law_882 rfl ?_
          refine lv_aload_n hx hb dL_law_883 rfl (lv_at hl 2 rfl) ?_
          refine lv_aload_n hx hb dL_law_884 rfl (lv_at hl 0 rfl) ?_
          refine lv_iload hx hb dL_law_885 (lv_at hl 4 rfl) ?_
          refine lv_iconst (v := 1) hx hb dL_law_887 (by decide) ?_
          refine lv_iadd hx hb dL_law_888 ?_
          refine lv_tov (v' := .int (nI (i + 1))) (congrArg Value.int (nI_add i 1)) ?_
          refine va_sld hx hb hX hbl hbA hS (vp_in_nI (by omega) (by omega)) dL_law_889 ?_
          refine lv_topi (fun y388 ey388 => ?_)
          rw [nI_clamp (by omega)] at ey388
          obtain rfl : v1 = y388 := hv1.trans ey388.symm
          refine lv_aload_n hx hb dL_law_890 rfl (lv_at hl 0 rfl) ?_
          refine lv_iload hx hb dL_law_891 (lv_at hl 4 rfl) ?_
          refine lv_iconst (v := 2) hx hb dL_law_893 (by decide) ?_
          refine lv_iadd hx hb dL_law_894 ?_
          refine lv_tov (v' := .int (nI (i + 2))) (congrArg Value.int (nI_add i 2)) ?_
          refine va_sld hx hb hX hbl hbA hS (vp_in_nI (by omega) (by omega)) dL_law_895 ?_
          refine lv_topi (fun y389 ey389 => ?_)
          rw [nI_clamp (by omega)] at ey389
          obtain rfl : v2 = y389 := hv2.trans ey389.symm
          refine hvI (As := [.int v1, .int v2]) (rest := []) ⟨hx, hb, hml, hown, hts0⟩ (zX10_queue l D y cy S _ v1 v2 rs379 S381 es383) (cwV 2 hts0 gL_law_X10_queue rfl rfl rfl (by decide +kernel) ⟨Nat.le_of_ble_eq_true rfl, Nat.le_of_ble_eq_true rfl⟩) hK hP hD hS hA (fun h9 => va_recv hK h9 (ci := 10) (q0 := 0) rfl rfl) rfl hl.1 rfl (Nat.le_of_ble_eq_true rfl) dL_law_896 ⟨by omega, by omega⟩ (fun a390 u391 H locs hw392 hP hD hS => ?_)
          have hP : va_P D vwCl ((OU ao co fo ++ (ZW x cy g C ++ va_pl L (pf cy K cf nm C))) ++ YW y cy S381) H := hP
          have hD : va_D (fun q9 : Nat => s.heap.size ≤ q9) ((OU ao co fo ++ (ZW x cy g C ++ va_pl L (pf cy K cf nm C))) ++ YW y cy S381) := hD
          refine lv_tov (v' := .int rs379) (congrArg Value.int hw392) ?_
          refine lv_pop hx hb dL_law_899 rfl ?_
          refine lv_goto (tgt := 968) hx hb dL_law_900 (by decide) ?_
          refine lv_iinc (v := nI (i + 5)) (lv' := [(4, .int (nI (i + 5))), (0, .ref b), (1, .ref (x 0)), (2, .ref (y 0)), (3, .ref ao)]) hx hb dL_law_968 hl (k := 4) rfl (nI_add i 5) (by decide) rfl (fun ls hl => ?_)
          refine lv_goto (tgt := 23) hx hb dL_law_971 (by decide) ?_
          refine W.widen (k := 300 + (i + 5)) (n := 20000 + 6 * (i + 5)) (by omega) (by omega) ?_
          exact ih (i + 5) (by omega) (by omega) C fo S381 hT (RX_B hXQ (by omega)) H _ _ hP hD hS (lv_sub hl [1, 2, 3, 4, 0] rfl)
        by_cases j19 : wd = 19
        · skip
          refine lv_tableIn (tgt := 903) hx hb dL_law_39 (by rw [j19]; decide) (by rw [j19]; decide) (by rw [j19]; rfl) (by decide) ?_
          refine lv_aload_n hx hb dL_law_903 rfl (lv_at hl 1 rfl) ?_
          refine lv_aload_n hx hb dL_law_904 rfl (lv_at hl 0 rfl) ?_
          refine lv_iload hx hb dL_law_905 (lv_at hl 4 rfl) ?_
          refine lv_iconst (v := 1) hx hb dL_law_907 (by decide) ?_
          refine lv_iadd hx hb dL_law_908 ?_
          refine lv_tov (v' := .int (nI (i + 1))) (congrArg Value.int (nI_add i 1)) ?_
          refine va_sld hx hb hX hbl hbA hS (vp_in_nI (by omega) (by omega)) dL_law_909 ?_
          refine lv_topi (fun y393 ey393 => ?_)
          rw [nI_clamp (by omega)] at ey393
          obtain rfl : v1 = y393 := hv1.trans ey393.symm
          refine lv_aload_n hx hb dL_law_910 rfl (lv_at hl 0 rfl) ?_
          refine lv_iload hx hb dL_law_911 (lv_at hl 4 rfl) ?_
          refine lv_iconst (v := 2) hx hb dL_law_913 (by decide) ?_
          refine lv_iadd hx hb dL_law_914 ?_
          refine lv_tov (v' := .int (nI (i + 2))) (congrArg Value.int (nI_add i 2)) ?_
          refine va_sld hx hb hX hbl hbA hS (vp_in_nI (by omega) (by omega)) dL_law_915 ?_
          refine lv_topi (fun y394 ey394 => ?_)
          rw [nI_clamp (by omega)] at ey394
          obtain rfl : v2 = y394 := hv2.trans ey394.symm
          refine lv_aload_n hx hb dL_law_916 rfl (lv_at hl 3 rfl) ?_
          have hPc : va_P D vwCl (OU ao co fo ++ (ZW x cy g C ++ va_pl L (pf cy K cf nm C))) H := P_a hP
          have hDc : va_D (fun q9 : Nat => s.heap.size ≤ q9) (OU ao co fo ++ (ZW x cy g C ++ va_pl L (pf cy K cf nm C))) := D_a hD
          have hFc := F_of hDc (fun q h => hA q (Nat.le_trans hS.1 h))
          refine va_calli (vx_runSW (hh := [(0, 10, 13, 13)]) (As := [.ref (x 0), .int v1, .int v2, .ref ao]) (rest := []) ⟨hx, hb, hml, hown, hts⟩ (mL_event l hls D x cy g L K cf nm hG hL C hT (fun v w => g_entry hXQ v w) _ sa ao co fo v1 v2) (vx_cwSW 4 hts gLL_event rfl rfl rfl (by decide +kernel) ⟨Nat.le_of_ble_eq_true rfl, Nat.le_of_ble_eq_true rfl⟩) ⟨PWe_blind, fun U hU hW => ⟨rfl, by rw [hU], by rw [hU]; exact hPc, va_K.moved hW.alike hK2, hDc.weaken (fun _ _ _ _ => trivial), EVX_warm hW (by rw [hU]; exact vx_Zq.narrow (vx_Zq.kept hZ1 hS.2.1) hFc) (by rw [hU]; exact vx_Zq.narrow (vx_Zq.kept hZ2 hS.2.1) hFc) hstr hcst⟩⟩ rfl rfl hl.1 rfl (lv_room (Nat.le_of_ble_eq_true rfl)) dL_law_917 ⟨by omega, by omega⟩) hS (fun q9 _ h => hFc q9 h) hFc (fun r9 fo9 t H1 locs ht hvm hw hB hz1 hk1 hS => ?_)
          obtain ⟨hP1, hK1, hD1⟩ := hB
          rw [ht] at hP1
          obtain ⟨hP, hD⟩ := half_1 hP hD hk1 hFc hP1 hD1
          generalize H1 = H at hP hS ⊢
          have hP : va_P D vwCl ((OU ao co fo9 ++ (ZW x cy g C ++ va_pl L (pf cy K cf nm C))) ++ YW y cy S) H := hP
          have hD : va_D (fun q9 : Nat => s.heap.size ≤ q9) ((OU ao co fo9 ++ (ZW x cy g C ++ va_pl L (pf cy K cf nm C))) ++ YW y cy S) := hD
          refine lv_istore (lv' := [(5, .int r9), (0, .ref b), (1, .ref (x 0)), (2, .ref (y 0)), (3, .ref ao), (4, .int (nI i))]) hx hb dL_law_920 hl (by decide) rfl (fun ls hl => ?_)
          refine lv_aload_n hx hb dL_law_922 rfl (lv_at hl 3 rfl) ?_
          refine lv_aload_n hx hb dL_law_923 rfl (lv_at hl 1 rfl) ?_
          refine lv_iload hx hb dL_law_924 (lv_at hl 5 rfl) ?_
          refine lv_iconst (v := 1) hx hb dL_law_926 (by decide) ?_
          refine lv_iadd hx hb dL_law_927 ?_
          refine lv_tov (v' := .int (nI (i + 1))) (congrArg Value.int (nI_add i 1)) ?_
          refine va_sld hx hb hX hbl hbA hS (vp_in_nI (by omega) (by omega)) dL_law_928 ?_
          refine lv_topi (fun y395 ey395 => ?_)
          rw [nI_clamp (by omega)] at ey395
          obtain rfl : v1 = y395 := hv1.trans ey395.symm
          refine lv_aload_n hx hb dL_law_929 rfl (lv_at hl 1 rfl) ?_
          refine lv_iload hx hb dL_law_930 (lv_at hl 5 rfl) ?_
          refine lv_iconst (v := 2) hx hb dL_law_932 (by decide) ?_
          refine lv_iadd hx hb dL_law_933 ?_
          refine lv_tov (v' := .int (nI (i + 2))) (congrArg Value.int (nI_add i 2)) ?_
          refine va_sld hx hb hX hbl hbA hS (vp_in_nI (by omega) (by omega)) dL_law_934 ?_
          refine lv_topi (fun y396 ey396 => ?_)
          rw [nI_clamp (by omega)] at ey396
          obtain rfl : v2 = y396 := hv2.trans ey396.symm
          obtain ⟨⟨rs397, S398⟩, es399, hXQ⟩ := u_event hXQ v1 v2
          refine hvI (As := [.int v1, .int v2]) (rest := []) ⟨hx, hb, hml, hown, hts0⟩ (zX10_event_ l D y cy S _ v1 v2 rs397 S398 es399) (cwV 2 hts0 gL_law_X10_event_ rfl rfl rfl (by decide +kernel) ⟨Nat.le_of_ble_eq_true rfl, Nat.le_of_ble_eq_true rfl⟩) hK hP hD hS hA (fun h9 => va_recv hK h9 (ci := 10) (q0 := 0) rfl rfl) rfl hl.1 rfl (Nat.le_of_ble_eq_true rfl) dL_law_935 ⟨by omega, by omega⟩ (fun a400 u401 H locs hw402 hP hD hS => ?_)
          have hP : va_P D vwCl ((OU ao co fo9 ++ (ZW x cy g C ++ va_pl L (pf cy K cf nm C))) ++ YW y cy S398) H := hP
          have hD : va_D (fun q9 : Nat => s.heap.size ≤ q9) ((OU ao co fo9 ++ (ZW x cy g C ++ va_pl L (pf cy K cf nm C))) ++ YW y cy S398) := hD
          refine lv_tov (v' := .int rs397) (congrArg Value.int hw402) ?_
          refine lv_istore (lv' := [(6, .int rs397), (5, .int r9), (0, .ref b), (1, .ref (x 0)), (2, .ref (y 0)), (3, .ref ao), (4, .int (nI i))]) hx hb dL_law_938 hl (by decide) rfl (fun ls hl => ?_)
          refine lv_goto (tgt := 968) hx hb dL_law_940 (by decide) ?_
          refine lv_iinc (v := nI (i + 5)) (lv' := [(4, .int (nI (i + 5))), (6, .int rs397), (5, .int r9), (0, .ref b), (1, .ref (x 0)), (2, .ref (y 0)), (3, .ref ao)]) hx hb dL_law_968 hl (k := 6) rfl (nI_add i 5) (by decide) rfl (fun ls hl => ?_)
          refine lv_goto (tgt := 23) hx hb dL_law_971 (by decide) ?_
          refine W.widen (k := 300 + (i + 5)) (n := 20000 + 6 * (i + 5)) (by omega) (by omega) ?_
          exact ih (i + 5) (by omega) (by omega) C fo9 S398 hT (RX_B hXQ (by omega)) H _ _ hP hD hS (lv_sub hl [3, 4, 5, 6, 0] rfl)
        by_cases j20 : wd = 20
        · skip
          refine lv_tableIn (tgt := 943) hx hb dL_law_39 (by rw [j20]; decide) (by rw [j20]; decide) (by rw [j20]; rfl) (by decide) ?_
          refine lv_aload_n hx hb dL_law_943 rfl (lv_at hl 1 rfl) ?_
          refine lv_aload_n hx hb dL_law_944 rfl (lv_at hl 0 rfl) ?_
          refine lv_iload hx hb dL_law_945 (lv_at hl 4 rfl) ?_
          refine lv_iconst (v := 1) hx hb dL_law_947 (by decide) ?_
          refine lv_iadd hx hb dL_law_948 ?_
          refine lv_tov (v' := .int (nI (i + 1))) (congrArg Value.int (nI_add i 1)) ?_
          refine va_sld hx hb hX hbl hbA hS (vp_in_nI (by omega) (by omega)) dL_law_949 ?_
          refine lv_topi (fun y403 ey403 => ?_)
          rw [nI_clamp (by omega)] at ey403
          obtain rfl : v1 = y403 := hv1.trans ey403.symm
          obtain ⟨rc404, ⟨rs405, S407⟩, ec408, es409, hXQ⟩ := w_count he hXQ v1
          refine mvI (wo := OU ao co fo) (As := [.int v1]) (rest := []) ⟨hx, hb, hml, hown, hts0⟩ (zX9_count l D x cy g L K cf nm hG hL C hT _ v1 rc404 ec408) (cwV 1 hts0 gL_law_X9_count rfl rfl rfl (by decide +kernel) ⟨Nat.le_of_ble_eq_true rfl, Nat.le_of_ble_eq_true rfl⟩) hK hP hD hS hA (fun h9 => va_recv hK h9 (ci := 9) (q0 := 0) rfl rfl) rfl hl.1 rfl (Nat.le_of_ble_eq_true rfl) dL_law_950 ⟨by omega, by omega⟩ (fun a413 u411 H locs hw412 hP hD hS => ?_)
          have hP : va_P D vwCl ((OU ao co fo ++ (ZW x cy g C ++ va_pl L (pf cy K cf nm C))) ++ YW y cy S) H := hP
          have hD : va_D (fun q9 : Nat => s.heap.size ≤ q9) ((OU ao co fo ++ (ZW x cy g C ++ va_pl L (pf cy K cf nm C))) ++ YW y cy S) := hD
          refine lv_tov (v' := .int rc404) (congrArg Value.int hw412) ?_
          refine lv_pop hx hb dL_law_953 rfl ?_
          refine lv_aload_n hx hb dL_law_954 rfl (lv_at hl 2 rfl) ?_
          refine lv_aload_n hx hb dL_law_955 rfl (lv_at hl 0 rfl) ?_
          refine lv_iload hx hb dL_law_956 (lv_at hl 4 rfl) ?_
          refine lv_iconst (v := 1) hx hb dL_law_958 (by decide) ?_
          refine lv_iadd hx hb dL_law_959 ?_
          refine lv_tov (v' := .int (nI (i + 1))) (congrArg Value.int (nI_add i 1)) ?_
          refine va_sld hx hb hX hbl hbA hS (vp_in_nI (by omega) (by omega)) dL_law_960 ?_
          refine lv_topi (fun y414 ey414 => ?_)
          rw [nI_clamp (by omega)] at ey414
          obtain rfl : v1 = y414 := hv1.trans ey414.symm
          refine hvI (As := [.int v1]) (rest := []) ⟨hx, hb, hml, hown, hts0⟩ (zX10_count l D y cy S _ v1 rs405 S407 es409) (cwV 1 hts0 gL_law_X10_count rfl rfl rfl (by decide +kernel) ⟨Nat.le_of_ble_eq_true rfl, Nat.le_of_ble_eq_true rfl⟩) hK hP hD hS hA (fun h9 => va_recv hK h9 (ci := 10) (q0 := 0) rfl rfl) rfl hl.1 rfl (Nat.le_of_ble_eq_true rfl) dL_law_961 ⟨by omega, by omega⟩ (fun a415 u416 H locs hw417 hP hD hS => ?_)
          have hP : va_P D vwCl ((OU ao co fo ++ (ZW x cy g C ++ va_pl L (pf cy K cf nm C))) ++ YW y cy S407) H := hP
          have hD : va_D (fun q9 : Nat => s.heap.size ≤ q9) ((OU ao co fo ++ (ZW x cy g C ++ va_pl L (pf cy K cf nm C))) ++ YW y cy S407) := hD
          refine lv_tov (v' := .int rs405) (congrArg Value.int hw417) ?_
          refine lv_pop hx hb dL_law_964 rfl ?_
          refine lv_goto (tgt := 968) hx hb dL_law_965 (by decide) ?_
          refine lv_iinc (v := nI (i + 5)) (lv' := [(4, .int (nI (i + 5))), (0, .ref b), (1, .ref (x 0)), (2, .ref (y 0)), (3, .ref ao)]) hx hb dL_law_968 hl (k := 4) rfl (nI_add i 5) (by decide) rfl (fun ls hl => ?_)
          refine lv_goto (tgt := 23) hx hb dL_law_971 (by decide) ?_
          refine W.widen (k := 300 + (i + 5)) (n := 20000 + 6 * (i + 5)) (by omega) (by omega) ?_
          exact ih (i + 5) (by omega) (by omega) C fo S407 hT (RX_B hXQ (by omega)) H _ _ hP hD hS (lv_sub hl [1, 2, 3, 4, 0] rfl)
        have zj0 : (wd).toInt ≠ 0 := fun h9 => j0 ((fa_eq _ _).mpr (h9.trans (by decide)))
        have zj1 : (wd).toInt ≠ 1 := fun h9 => j1 ((fa_eq _ _).mpr (h9.trans (by decide)))
        have zj2 : (wd).toInt ≠ 2 := fun h9 => j2 ((fa_eq _ _).mpr (h9.trans (by decide)))
        have zj3 : (wd).toInt ≠ 3 := fun h9 => j3 ((fa_eq _ _).mpr (h9.trans (by decide)))
        have zj4 : (wd).toInt ≠ 4 := fun h9 => j4 ((fa_eq _ _).mpr (h9.trans (by decide)))
        have zj5 : (wd).toInt ≠ 5 := fun h9 => j5 ((fa_eq _ _).mpr (h9.trans (by decide)))
        have zj6 : (wd).toInt ≠ 6 := fun h9 => j6 ((fa_eq _ _).mpr (h9.trans (by decide)))
        have zj7 : (wd).toInt ≠ 7 := fun h9 => j7 ((fa_eq _ _).mpr (h9.trans (by decide)))
        have zj8 : (wd).toInt ≠ 8 := fun h9 => j8 ((fa_eq _ _).mpr (h9.trans (by decide)))
        have zj9 : (wd).toInt ≠ 9 := fun h9 => j9 ((fa_eq _ _).mpr (h9.trans (by decide)))
        have zj10 : (wd).toInt ≠ 10 := fun h9 => j10 ((fa_eq _ _).mpr (h9.trans (by decide)))
        have zj11 : (wd).toInt ≠ 11 := fun h9 => j11 ((fa_eq _ _).mpr (h9.trans (by decide)))
        have zj12 : (wd).toInt ≠ 12 := fun h9 => j12 ((fa_eq _ _).mpr (h9.trans (by decide)))
        have zj13 : (wd).toInt ≠ 13 := fun h9 => j13 ((fa_eq _ _).mpr (h9.trans (by decide)))
        have zj14 : (wd).toInt ≠ 14 := fun h9 => j14 ((fa_eq _ _).mpr (h9.trans (by decide)))
        have zj15 : (wd).toInt ≠ 15 := fun h9 => j15 ((fa_eq _ _).mpr (h9.trans (by decide)))
        have zj16 : (wd).toInt ≠ 16 := fun h9 => j16 ((fa_eq _ _).mpr (h9.trans (by decide)))
        have zj17 : (wd).toInt ≠ 17 := fun h9 => j17 ((fa_eq _ _).mpr (h9.trans (by decide)))
        have zj18 : (wd).toInt ≠ 18 := fun h9 => j18 ((fa_eq _ _).mpr (h9.trans (by decide)))
        have zj19 : (wd).toInt ≠ 19 := fun h9 => j19 ((fa_eq _ _).mpr (h9.trans (by decide)))
        have zj20 : (wd).toInt ≠ 20 := fun h9 => j20 ((fa_eq _ _).mpr (h9.trans (by decide)))
        refine lv_tableOut (tgt := 968) hx hb dL_law_39 (by omega) (by decide) ?_
        refine lv_iinc (v := nI (i + 5)) (lv' := [(4, .int (nI (i + 5))), (0, .ref b), (1, .ref (x 0)), (2, .ref (y 0)), (3, .ref ao)]) hx hb dL_law_968 hl (k := 4) rfl (nI_add i 5) (by decide) rfl (fun ls hl => ?_)
        refine lv_goto (tgt := 23) hx hb dL_law_971 (by decide) ?_
        refine W.widen (k := 300 + (i + 5)) (n := 20000 + 6 * (i + 5)) (by omega) (by omega) ?_
        exact ih (i + 5) (by omega) (by omega) C fo S hT (RX_B hXQ (by omega)) H _ _ hP hD hS (lv_sub hl [1, 2, 3, 4, 0] rfl)
  refine W.widen (k := 300 + 0) (n := 20000 + 6 * 0) (Nat.le_of_ble_eq_true rfl) (Nat.le_of_ble_eq_true rfl) ?_
  exact loop 3000 0 (by omega) (by omega) CZ (fun _ => 0) S0 WT_0 RX_init H _ _ hP hD hS (lv_sub hl [4, 3, 2, 1, 0] rfl)
