/-! worlds of two halves: a call that has one of them -/
section HLF
variable {D : va_G} {cl : List vw_C} {A0 A : Nat → Prop} {wa wb wc wo w1 : va_W} {H H1 : Heap}
theorem up_a (wa wb : va_W) (i : Nat) (q : Nat × va_E) (h : wa[i]? = some q) : (wa ++ wb)[i]? = some q := by
  rw [List.getElem?_append_left (List.getElem?_eq_some_iff.mp h).1]
  exact h
theorem up_b (wa wb : va_W) (i : Nat) (q : Nat × va_E) (h : wb[i]? = some q) : (wa ++ wb)[wa.length + i]? = some q := by
  rw [List.getElem?_append_right (by omega), Nat.add_sub_cancel_left]
  exact h
theorem P_a (h : va_P D cl (wa ++ wb) H) : va_P D cl wa H := fun k q hq => h k q (up_a wa wb k q hq)
theorem P_b (h : va_P D cl (wa ++ wb) H) : va_P D cl wb H := fun k q hq => h _ q (up_b wa wb k q hq)
theorem D_a (h : va_D A0 (wa ++ wb)) : va_D A0 wa := ⟨fun i j p q hi hj e => h.1 i j p q (up_a wa wb i p hi) (up_a wa wb j q hj) e, fun k q hq => h.2 k q (up_a wa wb k q hq)⟩
theorem D_b (h : va_D A0 (wa ++ wb)) : va_D A0 wb := ⟨fun i j p q hi hj e => by
  have := h.1 _ _ p q (up_b wa wb i p hi) (up_b wa wb j q hj) e
  omega, fun k q hq => h.2 _ q (up_b wa wb k q hq)⟩
theorem F_of (hD : va_D A0 wc) (hA : ∀ q, H.size ≤ q → A0 q) : ∀ q, va_A wc H.size q → A0 q := fun q h => by
  rcases h with ⟨k, e, h⟩ | h
  · exact hD.2 k _ h
  · exact hA q h
theorem half_1 (hP : va_P D cl (wa ++ wb) H) (hD : va_D A0 (wa ++ wb)) (hk : ∀ q : Nat, q < H.size → ¬ va_A wa H.size q → H1[q]? = H[q]?) (hF : ∀ q, va_A wa H.size q → A0 q) (hP1 : va_P D cl w1 H1) (hD1 : va_D (va_A wa H.size) w1) : va_P D cl (w1 ++ wb) H1 ∧ va_D A0 (w1 ++ wb) := by
  have apart : ∀ (k : Nat) (q : Nat × va_E), wb[k]? = some q → q.1 < H.size ∧ ¬ va_A wa H.size q.1 := by
    intro k q hq
    have h2 := up_b wa wb k q hq
    have hl := (hP _ q h2).lt
    refine ⟨hl, fun h => ?_⟩
    rcases h with ⟨k2, e, h⟩ | h
    · have h3 := hD.1 _ _ q (q.1, e) h2 (up_a wa wb k2 _ h) rfl
      have h4 := (List.getElem?_eq_some_iff.mp h).1
      omega
    · omega
  refine ⟨va_P.app hP1 (fun k q hq => ?_), va_D.app (hD1.weaken (fun k q _ h => hF q.1 h)) (D_b hD) (fun i j x y hx hy hxy => ?_)⟩
  · obtain ⟨g1, g2⟩ := apart k q hq
    exact (hP _ q (up_b wa wb k q hq)).kept (hk q.1 g1 g2)
  · exact (apart j y hy).2 (by rw [← hxy]; exact hD1.2 i x hx)
theorem half_2 (hP : va_P D cl (wa ++ wb) H) (hD : va_D A0 (wa ++ wb)) (hk : ∀ q : Nat, q < H.size → ¬ va_A wb H.size q → H1[q]? = H[q]?) (hF : ∀ q, va_A wb H.size q → A0 q) (hP1 : va_P D cl w1 H1) (hD1 : va_D (va_A wb H.size) w1) : va_P D cl (wa ++ w1) H1 ∧ va_D A0 (wa ++ w1) := by
  have hP' : va_P D cl (wb ++ wa) H := by
    have h := va_P.swap (a := []) (b := wa) (c := wb) hP
    exact h
  have hD' : va_D A0 (wb ++ wa) := by
    have h := va_D.swap (a := []) (b := wa) (c := wb) hD
    exact h
  obtain ⟨h1, h2⟩ := half_1 hP' hD' hk hF hP1 hD1
  have h3 := va_P.swap (a := []) (b := w1) (c := wa) h1
  have h4 := va_D.swap (a := []) (b := w1) (c := wa) h2
  exact ⟨h3, h4⟩
theorem third_P (h : va_P D cl ((wa ++ wb) ++ wo) H) : va_P D cl ((wo ++ wa) ++ wb) H := by
  have h2 := va_P.swap (a := []) (b := wa ++ wb) (c := wo) h
  rw [List.append_assoc]
  exact h2
theorem third_D (h : va_D A0 ((wa ++ wb) ++ wo)) : va_D A0 ((wo ++ wa) ++ wb) := by
  have h2 := va_D.swap (a := []) (b := wa ++ wb) (c := wo) h
  rw [List.append_assoc]
  exact h2
end HLF
section HCL
variable {p : Program} {l : Launch} {e : Env} {R : Room} {s : State} {m : MethodId} {args : Array Value} {below : List Frame} {meth : Method} {c : Code} {H : Heap} {locs : List Loc} {cells slots : Nat} {Q : State → Prop}
variable {pc : Nat} {ls : Array Slot} {rest st0 : List Value} {A : Nat → Prop} {H0 : Heap} {mc ms : Nat} {D : va_G} {TY : List (ClassId × FieldType)} {wa wb wc wo : va_W}
variable {y : MethodName} {bytes cc : ByteArray} {maxL nL n index : Nat} {ret : Option FieldType} {wsy : List Cond} {rm : Room} {Ts : List Cond} {own C : String} {b : Nat} {As : List Value}
/-- a constructor, its cell behind the rest -/
theorem ciH {S0 : Type} {post : S0 → Prop} {W1 : S0 → va_W} (S : CallFix p m c cc nL s args Ts own) (hM : Met l y wsy rm (PWi D TY wc H.size (.ref b :: As)) (va_Qv post (fun u t => va_P D vwCl (W1 u) t.heap ∧ va_K D vwCl TY t ∧ va_D (va_A wc H.size) (W1 u)) (va_A wc H.size)) mc ms (va_A wc H.size)) (cw : CallB R s args own index y bytes maxL none wsy rm mc ms n ∧ y.name = "<init>" ∧ (Cond.instanceMethod y).before args s = true) (hE : EXT s)
    (hK : va_K D vwCl TY s) (hP : va_P D vwCl (wa ++ wc) H) (hD : va_D A (wa ++ wc)) (hS : va_S A H0 H locs) (hA : ∀ q, H0.size ≤ q → A q)
    (hn : As.length = n) (hsize : ls.size = nL) (hstack : st0 = As.reverse ++ .ref b :: rest) (hW : (rest.map fun v => v.category).sum ≤ 8) (hdg : decode cc pc = .ok (.invokespecial index, 3)) (hf : cells + mc ≤ R.cells ∧ slots + ms ≤ R.slots)
    (kk : ∀ (u : S0) (H1 : Heap) (locs1 : List Loc), post u → va_P D vwCl (wa ++ W1 u) H1 → va_D A (wa ++ W1 u) → va_S A H0 H1 locs1 → W p l e R s m args below meth c H1 locs1 (cells + mc) (slots + ms) Q (F0 m (pc + 3) ls rest)) : W p l e R s m args below meth c H locs cells slots Q (F0 m pc ls st0) := by
  have hFc := F_of (D_b hD) (fun q h => hA q (Nat.le_trans hS.1 h))
  refine va_callv (va_runI (As := As) (rest := rest) S hM cw ⟨PWi_blind, fun U hU hW => ⟨rfl, by rw [hU], by rw [hU]; exact P_b hP, va_K.moved hW.alike hK, (D_b hD).weaken (fun _ _ _ _ => trivial), EXT_warm hW hE⟩⟩ rfl hn hsize hstack (lv_room hW) hdg hf) hS (fun q _ h => hFc q h) hFc (fun u t H1 locs1 ht hvm hw hB hz1 hk1 hS1 => ?_)
  obtain ⟨hP1, hK1, hD1⟩ := hB
  rw [ht] at hP1
  obtain ⟨hP2, hD2⟩ := half_2 hP hD hk1 hFc hP1 hD1
  exact kk u H1 locs1 hw hP2 hD2 hS1
/-- a call that has the last part -/
theorem hvI {S0 : Type} {post : Int32 → S0 → Prop} {W1 : S0 → va_W} (S : CallFix p m c cc nL s args Ts own) (hM : Met l y wsy rm (PW D TY wb H.size (.ref b :: As)) (va_Qi post (BU D TY wb W1 H.size) (va_A wb H.size)) mc ms (va_A wb H.size)) (cw : CallW R s args own C index y bytes maxL ret wsy rm mc ms n)
    (hK : va_K D vwCl TY s) (hP : va_P D vwCl (wa ++ wb) H) (hD : va_D A (wa ++ wb)) (hS : va_S A H0 H locs) (hA : ∀ q, H0.size ≤ q → A q) (hrec : va_P D vwCl wb H → ∃ cell : Cell, H[b]? = some cell ∧ cell.vm.isStatics = false ∧ s.vm.findClass C = some cell.cls)
    (hn : As.length = n) (hsize : ls.size = nL) (hstack : st0 = As.reverse ++ .ref b :: rest) (hW : (rest.map fun v => v.category).sum ≤ 8) (hdg : decode cc pc = .ok (.invokevirtual index, 3)) (hf : cells + mc ≤ R.cells ∧ slots + ms ≤ R.slots)
    (kk : ∀ (r : Int32) (u : S0) (H1 : Heap) (locs1 : List Loc), post r u → va_P D vwCl (wa ++ W1 u) H1 → va_D A (wa ++ W1 u) → va_S A H0 H1 locs1 → W p l e R s m args below meth c H1 locs1 (cells + mc) (slots + ms) Q (F0 m (pc + 3) ls (.int r :: rest))) : W p l e R s m args below meth c H locs cells slots Q (F0 m pc ls st0) := by
  have hFc := F_of (D_b hD) (fun q h => hA q (Nat.le_trans hS.1 h))
  refine va_calli (va_runV (As := As) (rest := rest) S hM cw ⟨PW_blind, hrec (P_b hP), fun U hU hW => ⟨rfl, by rw [hU], by rw [hU]; exact P_b hP, va_K.moved hW.alike hK, (D_b hD).weaken (fun _ _ _ _ => trivial)⟩⟩ rfl hn hsize hstack (lv_room hW) hdg hf) hS (fun q _ h => hFc q h) hFc (fun r u t H1 locs1 ht hvm hw hB hz1 hk1 hS1 => ?_)
  obtain ⟨hP1, hK1, hD1⟩ := hB
  rw [ht] at hP1
  obtain ⟨hP2, hD2⟩ := half_2 hP hD hk1 hFc hP1 hD1
  exact kk r u H1 locs1 hw hP2 hD2 hS1
/-- a call that has the middle part -/
theorem mvI {S0 : Type} {post : Int32 → S0 → Prop} {W1 : S0 → va_W} (S : CallFix p m c cc nL s args Ts own) (hM : Met l y wsy rm (PW D TY wa H.size (.ref b :: As)) (va_Qi post (BU D TY wa W1 H.size) (va_A wa H.size)) mc ms (va_A wa H.size)) (cw : CallW R s args own C index y bytes maxL ret wsy rm mc ms n)
    (hK : va_K D vwCl TY s) (hP : va_P D vwCl ((wo ++ wa) ++ wb) H) (hD : va_D A ((wo ++ wa) ++ wb)) (hS : va_S A H0 H locs) (hA : ∀ q, H0.size ≤ q → A q) (hrec : va_P D vwCl wa H → ∃ cell : Cell, H[b]? = some cell ∧ cell.vm.isStatics = false ∧ s.vm.findClass C = some cell.cls)
    (hn : As.length = n) (hsize : ls.size = nL) (hstack : st0 = As.reverse ++ .ref b :: rest) (hW : (rest.map fun v => v.category).sum ≤ 8) (hdg : decode cc pc = .ok (.invokevirtual index, 3)) (hf : cells + mc ≤ R.cells ∧ slots + ms ≤ R.slots)
    (kk : ∀ (r : Int32) (u : S0) (H1 : Heap) (locs1 : List Loc), post r u → va_P D vwCl ((wo ++ W1 u) ++ wb) H1 → va_D A ((wo ++ W1 u) ++ wb) → va_S A H0 H1 locs1 → W p l e R s m args below meth c H1 locs1 (cells + mc) (slots + ms) Q (F0 m (pc + 3) ls (.int r :: rest))) : W p l e R s m args below meth c H locs cells slots Q (F0 m pc ls st0) :=
  hvI S hM cw hK (va_P.swap hP) (va_D.swap hD) hS hA hrec hn hsize hstack hW hdg hf (fun r u H1 locs1 hw hP1 hD1 hS1 => kk r u H1 locs1 hw (va_P.swap hP1) (va_D.swap hD1) hS1)
end HCL
abbrev OU (ao : Nat) (co : ClassId) (fo : Nat → Int64) : va_W := [(ao, .inl (co, 1, .inr (.inl fo)))]
/-- the room as it is made is typed -/
theorem INI_GO {L : List Nat} {K : Nat → Nat} {c : Nat → Nat → Nat} {nm : Nat → Int32} {g : Nat → Nat → Option Nat} (h : INI L K c nm g) : GO L K g := by
  obtain ⟨⟨_, h1, h0, h2⟩, h3, h4⟩ := h
  refine ⟨fun i hi => ?_, fun i hi => ?_, fun i hi => ?_, fun i hi => ?_, fun i hi => ?_⟩
  · obtain ⟨b, a1, a2, a3, _⟩ := h1 i hi; exact ⟨b, a1, a2, a3⟩
  · obtain ⟨b, a1, a2, a3, _⟩ := h0 i hi; exact ⟨b, a1, a2, a3⟩
  · obtain ⟨b, a1, a2, a3, _⟩ := h2 i hi; exact ⟨b, a1, a2, a3⟩
  · obtain ⟨b, a1, a2, a3, _⟩ := h3 i hi; exact ⟨b, a1, a2, a3⟩
  · obtain ⟨b, a1, a2, a3, _⟩ := h4 i hi; exact ⟨b, a1, a2, a3⟩
theorem b01_0 : b01 0 := Or.inl rfl
theorem INI_CI {L : List Nat} {K : Nat → Nat} {c : Nat → Nat → Nat} {nm : Nat → Int32} {g : Nat → Nat → Option Nat} (h : INI L K c nm g) (cy : Nat → ClassId) : CI L K cy N0 (fun _ _ => none) (f0 cy K c nm) := by
  refine ⟨fun k hk => ?_, fun k hk => ⟨fun i => rok_none, fun i hi => ?_⟩, fun a ha => ?_⟩
  · unfold N0 cap
    rcases (show k = 0 ∨ k = 1 ∨ k = 2 ∨ k = 3 ∨ k = 4 ∨ k = 5 ∨ k = 6 ∨ k = 7 ∨ k = 8 ∨ k = 9 by omega) with rfl | rfl | rfl | rfl | rfl | rfl | rfl | rfl | rfl | rfl <;> decide
  · rcases (show k = 0 ∨ k = 1 ∨ k = 2 by omega) with rfl | rfl | rfl <;> exact absurd hi (Nat.not_lt_zero i)
  · obtain ⟨t1, t2, t3⟩ := h.1.1 a ha
    rcases t1 with e | e | e | e | e | e | e
    · rw [e]
      refine ⟨nm a, 0, 0, 0, none, none, ?_, b01_0, rok_none, rok_none⟩
      unfold f0
      rw [e]
      rfl
    · rw [e]
      refine ⟨nm a, 0, none, ?_, b01_0, rok_none⟩
      unfold f0
      rw [e]
      rfl
    · rw [e]
      obtain ⟨q1, q2, q3, q4, q5⟩ := t3 e
      refine ⟨c 1 a, c 2 a, c 3 a, c 4 a, c 5 a, 0, 0, 0, ?_, q1, q2, q3, q4, q5, by decide, by decide, by decide⟩
      unfold f0
      rw [e]
      rfl
    · rw [e]
      refine ⟨nm a, c 0 a, 0, 0, 0, 0, 0, none, none, 0, 0, 0, 0, 0, 0, 0, 0, ?_, t2 e, b01_0, rok_none, rok_none, b01_0⟩
      unfold f0
      rw [e]
      rfl
    · rw [e]
      refine ⟨none, none, 0, ?_, rok_none, rok_none⟩
      unfold f0
      rw [e]
      rfl
    · rw [e]
      refine ⟨fun _ => 0, ?_⟩
      unfold f0
      rw [e]
      rfl
    · rw [e]
      refine ⟨fun _ => 0, ?_, fun _ => b01_0⟩
      unfold f0
      rw [e]
      rfl
/-- the reference as it is made -/
theorem S0_30 (i : Nat) : S0 30 i = if i < 4 then -1 else 0 := by
  show upd (upd (upd (upd (fun _ => 0) 0 (-1)) 1 (-1)) 2 (-1)) 3 (-1) i = _
  unfold upd
  grind
theorem S0_33 (i : Nat) : S0 33 i = if i < 3 then -1 else 0 := by
  show upd (upd (upd (fun _ => 0) 0 (-1)) 1 (-1)) 2 (-1) i = _
  unfold upd
  grind
theorem StA_0 : StA (ab N0 n0 (fun _ _ => 0)) S0 := by
  have z : ∀ n, 0 < n → oi n 0 := fun n hn => Or.inr ⟨0, hn, rfl⟩
  refine ⟨⟨⟨rfl, by decide⟩, ⟨rfl, by decide⟩, ⟨rfl, by decide⟩, ⟨rfl, by decide⟩, ⟨rfl, by decide⟩, rfl, rfl, ⟨0, by omega, rfl, rfl⟩, ⟨0, by omega, rfl⟩⟩, ⟨fun _ => z 12 (by decide), fun _ => ⟨0, 0, 0, by omega, by omega, by omega, rfl, rfl, rfl⟩, fun _ => ⟨0, by decide, rfl⟩, fun _ => z 20 (by decide), fun _ => z 20 (by decide), fun i => ?_, fun _ => z 20 (by decide), fun i => ?_, fun _ => ⟨0, by decide, rfl⟩⟩, ?_⟩
  · rw [S0_30]
    split
    · exact Or.inl rfl
    · exact z 40 (by decide)
  · rw [S0_33]
    split
    · exact Or.inl rfl
    · exact z 40 (by decide)
  · refine ⟨fun _ _ => rfl, fun r h => absurd h (by show ¬ ((0 : Int32) = 2 ∨ (0 : Int32) = 3 ∨ (0 : Int32) = 4 ∨ (0 : Int32) = 8); decide), fun b r hb => absurd hb (Nat.not_lt_zero b), fun b b' r hb => absurd hb (Nat.not_lt_zero b), fun b r hb => absurd hb (Nat.not_lt_zero b), fun b b' r hb => absurd hb (Nat.not_lt_zero b), fun i b hi hb e => ?_, fun i b hi hb e => ?_, fun i i' b hi hi' hb e => ?_, fun i i' b hi hi' hb e => ?_, fun r i s hr hi hs e => ?_, fun k => ⟨0, rfl, by decide, fun _ => by decide, fun _ _ => by decide⟩⟩
    · rw [S0_33, if_pos hi] at e
      exact absurd e.symm (nI_nm (by omega))
    · rw [S0_30, if_pos hi] at e
      exact absurd e.symm (nI_nm (by omega))
    · rw [S0_30, if_pos hi] at e
      exact absurd e.symm (nI_nm (by omega))
    · rw [S0_33, if_pos hi] at e
      exact absurd e.symm (nI_nm (by omega))
    · have : 0 = s := nI_inj (by omega) (by omega) e
      omega
