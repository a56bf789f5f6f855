/-! constructors: what the tables say of arrays of objects goes along; the world behind one is told by addresses u -/
abbrev EXT (U : State) : Prop := va_AO "FondsRoom$Desk" U ∧ va_AO "FondsRoom$Box" U ∧ va_AO "FondsRoom$Reader" U ∧ va_AO "FondsRoom$Worker" U ∧ va_Nw (.methodLinkNest RX7 21 yX8_init "FondsRoom") U
theorem EXT_warm {s U : State} (hW : s.WarmedH U.vm) (h : EXT s) : EXT U := ⟨h.1.moved hW.alike, h.2.1.moved hW.alike, h.2.2.1.moved hW.alike, h.2.2.2.1.moved hW.alike, va_Nw.warmM hW h.2.2.2.2⟩
theorem ra_uniq {D : va_G} {tys : List (ClassId × FieldType)} {s : State} (hK : va_K D vwCl tys s) (i j : Nat) {c1 c2 : ClassId} {ty : FieldType} (h1 : tys[i]? = some (c1, ty)) (h2 : tys[j]? = some (c2, ty)) : c1 = c2 := by
  have a1 := (hK.2 i _ h1).2
  have a2 := (hK.2 j _ h2).2
  have key : ∀ c : ClassId, va_RA s c ty → s.vm.findClass ("[" ++ ty.toString) = some c := by
    intro c h
    cases ty with
    | object C => obtain ⟨kA, comp, -, -, -, h4⟩ := h; exact h4
    | _ => exact h
  exact Option.some.inj ((key c1 a1).symm.trans (key c2 a2))
theorem nwI (N : Nat) (cA : ClassId) : vp_cell cA (N, .inl (fun _ => 0)) = arrV cA N (fun _ => defaultValue .int) := rfl
theorem nwZ (N : Nat) (cA : ClassId) : vp_cell cA (N, .inl (fun _ => 0)) = arrV cA N (fun _ => defaultValue .boolean) := rfl
theorem va_up_same {α : Type} (f : Nat → α) (k : Nat) (v : α) (h : f k = v) : va_up f k v = f := by
  funext j
  by_cases hj : j = k
  · subst hj; rw [va_up_self]; exact h.symm
  · rw [va_up_ne _ _ hj]
section WRQ
abbrev PWi (D : va_G) (TY : List (ClassId × FieldType)) (W0 : va_W) (sz : Nat) (av : List Value) : Array Value → State → Prop := va_Pc av (fun U => U.heap.size = sz ∧ va_P D vwCl W0 U.heap ∧ va_K D vwCl TY U ∧ va_D (fun _ => True) W0 ∧ EXT U)
abbrev QU (D : va_G) (TY : List (ClassId × FieldType)) (W0 : va_W) (W1 : (Nat → Nat) → (Nat → Nat → Option Nat) → va_W) (sz : Nat) : Array Value → State → Outcome → State → Prop := va_Qv (fun (_ : (Nat → Nat) × (Nat → Nat → Option Nat)) => True) (fun u t => va_P D vwCl (W1 u.1 u.2) t.heap ∧ va_K D vwCl TY t ∧ va_D (va_A W0 sz) (W1 u.1 u.2)) (va_A W0 sz)
theorem PWi_blind {D : va_G} {TY : List (ClassId × FieldType)} {W0 : va_W} {sz : Nat} {av : List Value} : FrameBlind (PWi D TY W0 sz av) := fun a U g mk h => by
  obtain ⟨h1, h2, h3, h4, h5, h6⟩ := h
  exact ⟨h1, h2, h3, va_K.moved (u := U) (U := U.calling g mk a) (Vm.Alike.refl U.vm) h4, h5, h6.1.moved (Vm.Alike.refl U.vm), h6.2.1.moved (Vm.Alike.refl U.vm), h6.2.2.1.moved (Vm.Alike.refl U.vm), h6.2.2.2.1.moved (Vm.Alike.refl U.vm), va_Nw.same rfl rfl h6.2.2.2.2⟩
variable {p : Program} {l : Launch} {e : Env} {R : Room} {s : State} {m : MethodId} {args : Array Value} {below : List Frame} {meth : Method} {c : Code} {H : Heap} {locs : List Loc} {cells slots : Nat} {Q : State → Prop}
variable {pc : Nat} {ls : Array Slot} {rest st0 : List Value} {A : Nat → Prop} {H0 : Heap} {mc ms : Nat} {D : va_G} {TY : List (ClassId × FieldType)} {ws wc wr : va_W} {W1 : (Nat → Nat) → (Nat → Nat → Option Nat) → va_W}
variable {y : MethodName} {bytes cc : ByteArray} {maxL nL n index : Nat} {wsy : List Cond} {rm : Room} {Ts : List Cond} {own host : String} {b : Nat} {As : List Value}
theorem ciV (S : CallFix p m c cc nL s args Ts own) (hM : Met l y wsy rm (PWi D TY wc H.size (.ref b :: As)) (QU D TY wc W1 H.size) mc ms (va_A wc H.size)) (cw : CallB R s args own index y bytes maxL none wsy rm mc ms n ∧ y.name = "<init>" ∧ (Cond.instanceMethod y).before args s = true) (hE : EXT s)
    (hK : va_K D vwCl TY s) (hP : va_P D vwCl ws H) (hD : va_D A ws) (hS : va_S A H0 H locs) (hA : ∀ q, H0.size ≤ q → A q) (isC isR : List Nat) (hC : isC.map (fun i => ws[i]?) = wc.map some) (hR : isR.map (fun i => ws[i]?) = wr.map some) (hnC : va_nd isC = true) (hnR : va_nd isR = true) (hdis : ∀ i ∈ isR, i ∉ isC)
    (hn : As.length = n) (hsize : ls.size = nL) (hstack : st0 = As.reverse ++ .ref b :: rest) (hW : (rest.map fun v => v.category).sum ≤ 8) (hdg : decode cc pc = .ok (.invokespecial index, 3)) (hf : cells + mc ≤ R.cells ∧ slots + ms ≤ R.slots)
    (kk : ∀ (u : Nat → Nat) (v : Nat → Nat → Option Nat) (H1 : Heap) (locs1 : List Loc), va_P D vwCl (wr ++ W1 u v) H1 → va_D A (wr ++ W1 u v) → va_S A H0 H1 locs1 → W p l e R s m args below meth c H1 locs1 (cells + mc) (slots + ms) Q (F0 m (pc + 3) ls rest)) : W p l e R s m args below meth c H locs cells slots Q (F0 m pc ls st0) := by
  have hPc : va_P D vwCl wc H := fun k q hq => by
    obtain ⟨i, _, h⟩ := va_in_of isC hC hq
    exact hP i q h
  have hDc : va_D A wc := hD.sub isC hnC hC
  have hFc := va_free (wc := wc) hD hS hA isC hC
  refine va_callv (va_runI (As := As) (rest := rest) S hM cw ⟨PWi_blind, fun U hU hW => ⟨rfl, by rw [hU], by rw [hU]; exact hPc, va_K.moved hW.alike hK, hDc.weaken (fun _ _ _ _ => trivial), EXT_warm hW hE⟩⟩ rfl hn hsize hstack (lv_room hW) hdg hf) hS (fun q _ h => hFc q h) hFc (fun u t H1 locs1 ht hvm hw hB hz1 hk1 hS1 => ?_)
  obtain ⟨hP1, hK1, hD1⟩ := hB
  rw [ht] at hP1
  obtain ⟨hP2, hD2⟩ := va_join (wr := wr) (w1 := W1 u.1 u.2) hP hD isC isR hC hR hnR hdis hk1 hFc hP1 hD1
  exact kk u.1 u.2 H1 locs1 hP2 hD2 hS1
theorem ciN (S : CallFix p m c cc nL s args Ts own) (hM : Met l y wsy rm (PWi D TY wc H.size (.ref b :: As)) (QU D TY wc W1 H.size) mc ms (va_A wc H.size)) (cw : va_CN R s args own index y host bytes maxL none wsy rm mc ms n ∧ y.name = "<init>" ∧ (Cond.instanceMethod y).before args s = true) (hE : EXT s)
    (hK : va_K D vwCl TY s) (hP : va_P D vwCl ws H) (hD : va_D A ws) (hS : va_S A H0 H locs) (hA : ∀ q, H0.size ≤ q → A q) (isC isR : List Nat) (hC : isC.map (fun i => ws[i]?) = wc.map some) (hR : isR.map (fun i => ws[i]?) = wr.map some) (hnC : va_nd isC = true) (hnR : va_nd isR = true) (hdis : ∀ i ∈ isR, i ∉ isC)
    (hn : As.length = n) (hsize : ls.size = nL) (hstack : st0 = As.reverse ++ .ref b :: rest) (hW : (rest.map fun v => v.category).sum ≤ 8) (hdg : decode cc pc = .ok (.invokespecial index, 3)) (hf : cells + mc ≤ R.cells ∧ slots + ms ≤ R.slots)
    (kk : ∀ (u : Nat → Nat) (v : Nat → Nat → Option Nat) (H1 : Heap) (locs1 : List Loc), va_P D vwCl (wr ++ W1 u v) H1 → va_D A (wr ++ W1 u v) → va_S A H0 H1 locs1 → W p l e R s m args below meth c H1 locs1 (cells + mc) (slots + ms) Q (F0 m (pc + 3) ls rest)) : W p l e R s m args below meth c H locs cells slots Q (F0 m pc ls st0) := by
  have hPc : va_P D vwCl wc H := fun k q hq => by
    obtain ⟨i, _, h⟩ := va_in_of isC hC hq
    exact hP i q h
  have hDc : va_D A wc := hD.sub isC hnC hC
  have hFc := va_free (wc := wc) hD hS hA isC hC
  refine va_callv (va_runIN (As := As) (rest := rest) S hM cw ⟨PWi_blind, fun U hU hW => ⟨rfl, by rw [hU], by rw [hU]; exact hPc, va_K.moved hW.alike hK, hDc.weaken (fun _ _ _ _ => trivial), EXT_warm hW hE⟩⟩ rfl hn hsize hstack (lv_room hW) hdg hf) hS (fun q _ h => hFc q h) hFc (fun u t H1 locs1 ht hvm hw hB hz1 hk1 hS1 => ?_)
  obtain ⟨hP1, hK1, hD1⟩ := hB
  rw [ht] at hP1
  obtain ⟨hP2, hD2⟩ := va_join (wr := wr) (w1 := W1 u.1 u.2) hP hD isC isR hC hR hnR hdis hk1 hFc hP1 hD1
  exact kk u.1 u.2 H1 locs1 hP2 hD2 hS1
/-- a constructor's call beside a pool -/
theorem ciP {X pl : va_W} (S : CallFix p m c cc nL s args Ts own) (hM : Met l y wsy rm (PWi D TY wc H.size (.ref b :: As)) (QU D TY wc W1 H.size) mc ms (va_A wc H.size)) (cw : CallB R s args own index y bytes maxL none wsy rm mc ms n ∧ y.name = "<init>" ∧ (Cond.instanceMethod y).before args s = true) (hE : EXT s)
    (hK : va_K D vwCl TY s) (hP : va_P D vwCl (X ++ pl) H) (hD : va_D A (X ++ pl)) (hS : va_S A H0 H locs) (hA : ∀ q, H0.size ≤ q → A q) (isC isR : List Nat) (hC : isC.map (fun i => X[i]?) = wc.map some) (hR : isR.map (fun i => X[i]?) = wr.map some) (hnC : va_nd isC = true) (hnR : va_nd isR = true) (hdis : ∀ i ∈ isR, i ∉ isC)
    (hn : As.length = n) (hsize : ls.size = nL) (hstack : st0 = As.reverse ++ .ref b :: rest) (hW : (rest.map fun v => v.category).sum ≤ 8) (hdg : decode cc pc = .ok (.invokespecial index, 3)) (hf : cells + mc ≤ R.cells ∧ slots + ms ≤ R.slots)
    (kk : ∀ (u : Nat → Nat) (v : Nat → Nat → Option Nat) (H1 : Heap) (locs1 : List Loc), va_P D vwCl ((wr ++ W1 u v) ++ pl) H1 → va_D A ((wr ++ W1 u v) ++ pl) → va_S A H0 H1 locs1 → W p l e R s m args below meth c H1 locs1 (cells + mc) (slots + ms) Q (F0 m (pc + 3) ls rest)) : W p l e R s m args below meth c H locs cells slots Q (F0 m pc ls st0) := by
  have up : ∀ (i : Nat) (q : Nat × va_E), X[i]? = some q → (X ++ pl)[i]? = some q := fun i q h => by
    rw [List.getElem?_append_left (List.getElem?_eq_some_iff.mp h).1]
    exact h
  have hC' : isC.map (fun i => (X ++ pl)[i]?) = wc.map some := by
    rw [← hC]
    refine List.map_congr_left (fun i hi => ?_)
    have h1 : X[i]? ∈ wc.map some := by rw [← hC]; exact List.mem_map.mpr ⟨i, hi, rfl⟩
    obtain ⟨q, _, hq⟩ := List.mem_map.mp h1
    rw [up i q hq.symm, hq.symm]
  have hPc : va_P D vwCl wc H := fun k q hq => by
    obtain ⟨i, _, h⟩ := va_in_of isC hC hq
    exact hP i q (up i q h)
  have hDc : va_D A wc := hD.sub isC hnC hC'
  have hFc := va_free (wc := wc) hD hS hA isC hC'
  refine va_callv (va_runI (As := As) (rest := rest) S hM cw ⟨PWi_blind, fun U hU hW => ⟨rfl, by rw [hU], by rw [hU]; exact hPc, va_K.moved hW.alike hK, hDc.weaken (fun _ _ _ _ => trivial), EXT_warm hW hE⟩⟩ rfl hn hsize hstack (lv_room hW) hdg hf) hS (fun q _ h => hFc q h) hFc (fun u t H1 locs1 ht hvm hw hB hz1 hk1 hS1 => ?_)
  obtain ⟨hP1, hK1, hD1⟩ := hB
  rw [ht] at hP1
  obtain ⟨hP2, hD2⟩ := va_joinQ (wr := wr) (w1 := W1 u.1 u.2) hP hD isC isR hC hR hnR hdis hk1 hFc hP1 hD1
  exact kk u.1 u.2 H1 locs1 hP2 hD2 hS1
end WRQ
