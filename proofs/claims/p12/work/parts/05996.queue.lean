section QUEUE
variable {g : Nat → Nat → Option Nat} {cf : Nat → Nat → Nat} {nm : Nat → Int32} {A : Nat → Nat → Nat} {M : MP} {nd nb nr fe co : Nat} {W : Nat → Nat} {DL BT CT : List Nat} {C : CS} {S : RS}
/-! queue: the class goes through a line, the reference through the tickets -/
theorem oc_e {β : Type} (b : Nat) (A : Option β) (B : Nat → Option β) : oc (some b) A B = B b := rfl
theorem q_step {l : List Nat} {key : Nat → Nat} {kept : Nat → Prop} [DecidablePred kept] {v2 : Int32} {T : Nat} {KC : Int32 → Option Int32} {KR : Int32 → Option (Int32 × RS)} {L : Nat → Int32 → Nat → Option Int32} {R : Nat → Int32 → Nat → Option (Int32 × RS)} {Q : Int32 → Int32 × RS → Prop}
    (h0 : ∀ fu x, L (fu + 1) x l.length = KC x) (h1 : ∀ fu x m (h : m < l.length), L (fu + 1) x m = if kept l[m] then (if x = v2 then some (nI l[m]) else L fu (x + 1) (m + 1)) else L fu x (m + 1))
    (r0 : ∀ fu x, R (fu + 1) x T = KR x) (r1 : ∀ fu x τ, τ < T → (∀ r, r ∈ l → ¬ key r = τ) → R (fu + 1) x τ = R fu x (τ + 1))
    (r2 : ∀ fu x τ r, τ < T → r ∈ l → key r = τ → R (fu + 1) x τ = if kept r then (if x = v2 then some (nI r, S) else R fu (x + 1) (τ + 1)) else R fu x (τ + 1))
    (hsort : l.Pairwise (fun a b => key a < key b)) (hlt : ∀ r, r ∈ l → key r < T) (hK : ∀ x, ok2 (KC x) (KR x) Q) (hQ : ∀ r, Q (nI r) (nI r, S)) :
    ∀ (fuR fuC τ m : Nat) (x : Int32), τ ≤ T → T - τ < fuR → m ≤ l.length → l.length - m < fuC → (∀ i (h : i < l.length), i < m → key l[i] < τ) → (∀ i (h : i < l.length), m ≤ i → τ ≤ key l[i]) → ok2 (L fuC x m) (R fuR x τ) Q := by
  intro fuR
  induction fuR with
  | zero => intro fuC τ m x h1 h2; omega
  | succ fuR ih =>
    intro fuC τ m x hτ hf hm hfc hlo hhi
    obtain ⟨fuC, rfl⟩ : ∃ z, fuC = z + 1 := ⟨fuC - 1, by omega⟩
    by_cases hT : τ = T
    · subst hT
      have hml : m = l.length := by
        rcases Nat.lt_or_ge m l.length with h | h
        · have k1 := hhi m h (Nat.le_refl _)
          have k2 := hlt _ (List.getElem_mem h)
          omega
        · omega
      rw [hml, h0, r0]
      exact hK x
    · have hτT : τ < T := by omega
      by_cases hit : ∃ r, r ∈ l ∧ key r = τ
      · obtain ⟨r, hr, ek⟩ := hit
        obtain ⟨i, hi, ei⟩ := List.mem_iff_getElem.mp hr
        have hmi : m = i := by
          rcases Nat.lt_trichotomy i m with h | h | h
          · have := hlo i hi h
            rw [ei] at this
            omega
          · exact h.symm
          · have k1 := hhi m (by omega) (Nat.le_refl _)
            have k2 := List.pairwise_iff_getElem.mp hsort m i (by omega) hi h
            rw [ei] at k2
            omega
        subst hmi
        have hlo2 : ∀ i (h : i < l.length), i < m + 1 → key l[i] < τ + 1 := fun i h h2 => by
          by_cases e : i = m
          · subst e
            rw [ei]
            omega
          · have := hlo i h (by omega)
            omega
        have hhi2 : ∀ i (h : i < l.length), m + 1 ≤ i → τ + 1 ≤ key l[i] := fun i h h2 => by
          have k2 := List.pairwise_iff_getElem.mp hsort m i hi h (by omega)
          rw [ei] at k2
          omega
        rw [h1 fuC x m hi, r2 fuR x τ r hτT hr ek, ei]
        refine b_ite Iff.rfl (fun _ _ => b_ite Iff.rfl (fun _ _ => b_some (hQ r)) (fun _ _ => ih fuC (τ + 1) (m + 1) _ (by omega) (by omega) (by omega) (by omega) hlo2 hhi2)) (fun _ _ => ih fuC (τ + 1) (m + 1) _ (by omega) (by omega) (by omega) (by omega) hlo2 hhi2)
      · rw [r1 fuR x τ hτT (fun r hr e => hit ⟨r, hr, e⟩)]
        refine ih (fuC + 1) (τ + 1) m x (by omega) (by omega) hm hfc (fun i h h2 => ?_) (fun i h h2 => ?_)
        · have := hlo i h h2
          omega
        · have k1 := hhi i h h2
          rcases Nat.lt_or_ge τ (key l[i]) with k2 | k2
          · exact k2
          · exact absurd ⟨l[i], List.getElem_mem h, by omega⟩ hit
/-- does the awaited box stand there -/
theorem g_aw (h : Rel M A cf nd nb nr fe co W DL BT CT C S) {r : Nat} (hr : r < 20) (hs : S 15 r = 2 ∨ S 15 r = 4) (k : Int32) : gX6_awaitsAt g cf nm C (A 2 r) k = some (if S 5 (W r) = k then 1 else 0) := by
  obtain ⟨⟨t, bl, ms, hst⟩, hM, h1, h2, h3, h4, h5, h6, h7, hrest⟩ := h
  have b2 := hst.1.2.1.2
  have hw : W r < nb := hs.elim (fun e => (h7.2.2.2.2.1 r hr e).1) (fun e => (h7.2.2.2.2.2 r hr e).1)
  have q := h7.2.2.1 r hr
  rw [if_pos hs] at q
  unfold gX6_awaitsAt
  show oc (C.2 128 (A 2 r)) _ _ = _
  rw [q]
  show (if C.1 3 (A 1 (W r)) = k then some 1 else some 0) = _
  rw [h3.2.2.1 (W r) (by omega)]
  by_cases c : S 5 (W r) = k
  · rw [if_pos c, if_pos c]
  · rw [if_neg c, if_neg c]
theorem r_77_1n {K : Int32 → Int32 → Int32 → Int32 → RS → Option (Int32 × RS)} {v2 τ : Int32} (e2 : S 0 2 = nI nb) (hnb : nb ≤ 40) : ∀ (fu j : Nat) (x : Int32), j ≤ nb → nb - j < fu → (∀ b, j ≤ b → b < nb → ¬ (¬ S 7 b = -1 ∧ S 8 b = τ)) → gX10_queue_77 K fu 1 v2 x τ (nI j) S = K 1 v2 x τ S := by
  intro fu
  induction fu with
  | zero => intro j x hj hf; omega
  | succ fu ih =>
    intro j x hj hf hn
    rw [gX10_queue_77, nI_1 j]
    by_cases c : S 0 2 ≤ nI j
    · rw [if_pos c]
    have hjb : j < nb := nl e2 (by omega) (by omega) c
    have hnext := ih (j + 1) x (by omega) (by omega) (fun b hb hb2 => hn b (by omega) hb2)
    rw [if_neg c, if_pos (show (1 : Int32) = 1 from rfl), ld_nI (j := j) rfl (by omega) (by decide)]
    by_cases c7 : S 7 j = -1
    · rw [if_pos c7]
      exact hnext
    rw [if_neg c7, ld_nI (j := j) rfl (by omega) (by decide)]
    by_cases c8 : S 8 j = τ
    · exact absurd ⟨c7, c8⟩ (hn j (Nat.le_refl _) hjb)
    rw [if_neg c8]
    exact hnext
theorem r_77_1h {K : Int32 → Int32 → Int32 → Int32 → RS → Option (Int32 × RS)} {v2 τ : Int32} (e2 : S 0 2 = nI nb) (hnb : nb ≤ 40) {b0 : Nat} (hb0 : b0 < nb) (h7 : ¬ S 7 b0 = -1) (h8 : S 8 b0 = τ) (hu : ∀ b, b < nb → b ≠ b0 → ¬ (¬ S 7 b = -1 ∧ S 8 b = τ)) : ∀ (fu j : Nat) (x : Int32), j ≤ b0 → nb - j < fu → gX10_queue_77 K fu 1 v2 x τ (nI j) S = if ¬ S 5 b0 = 3 then (if x = v2 then some (S 7 b0, S) else K 1 v2 (x + 1) τ S) else K 1 v2 x τ S := by
  intro fu
  induction fu with
  | zero => intro j x hj hf; omega
  | succ fu ih =>
    intro j x hj hf
    rw [gX10_queue_77, nI_1 j]
    have hjb : j < nb := by omega
    have c : ¬ S 0 2 ≤ nI j := fun c => by
      have := (nI_leI (a := nb) (b := j) (by omega) (by omega)).mp (e2 ▸ c)
      omega
    have hrest : ∀ x, gX10_queue_77 K fu 1 v2 x τ (nI (j + 1)) S = (if j = b0 then K 1 v2 x τ S else gX10_queue_77 K fu 1 v2 x τ (nI (j + 1)) S) := fun x => by
      by_cases e : j = b0
      · rw [if_pos e]
        exact r_77_1n e2 hnb fu (j + 1) x (by omega) (by omega) (fun b hb hb2 => hu b hb2 (by omega))
      · rw [if_neg e]
    rw [if_neg c, if_pos (show (1 : Int32) = 1 from rfl), ld_nI (j := j) rfl (by omega) (by decide)]
    by_cases e : j = b0
    · subst e
      rw [if_neg h7, ld_nI (j := j) rfl (by omega) (by decide), if_pos h8, ld_nI (j := j) rfl (by omega) (by decide)]
      have hx : ∀ x, gX10_queue_77 K fu 1 v2 x τ (nI (j + 1)) S = K 1 v2 x τ S := fun x => r_77_1n e2 hnb fu (j + 1) x (by omega) (by omega) (fun b hb hb2 => hu b hb2 (by omega))
      by_cases c5 : S 5 j = 3
      · rw [if_pos c5, if_neg (fun k => k c5)]
        exact hx x
      · rw [if_neg c5, if_pos c5]
        by_cases cx : x = v2
        · rw [if_pos cx, if_pos cx, if_pos (show (1 : Int32) = 1 from rfl), ld_nI (j := j) rfl (by omega) (by decide)]
        · rw [if_neg cx, if_neg cx]
          exact hx (x + 1)
    · have hnext := ih (j + 1) x (by omega) (by omega)
      by_cases c7 : S 7 j = -1
      · rw [if_pos c7]
        exact hnext
      rw [if_neg c7, ld_nI (j := j) rfl (by omega) (by decide)]
      by_cases c8 : S 8 j = τ
      · exact absurd ⟨c7, c8⟩ (hu j hjb e)
      rw [if_neg c8]
      exact hnext
theorem r_77_2n {K : Int32 → Int32 → Int32 → Int32 → RS → Option (Int32 × RS)} {v2 τ : Int32} (e2 : S 0 2 = nI nb) (hnb : nb ≤ 40) : ∀ (fu j : Nat) (x : Int32), j ≤ nb → nb - j < fu → (∀ b, j ≤ b → b < nb → ¬ (S 5 b = 5 ∧ S 9 b = τ)) → gX10_queue_77 K fu 2 v2 x τ (nI j) S = K 2 v2 x τ S := by
  intro fu
  induction fu with
  | zero => intro j x hj hf; omega
  | succ fu ih =>
    intro j x hj hf hn
    rw [gX10_queue_77, nI_1 j]
    by_cases c : S 0 2 ≤ nI j
    · rw [if_pos c]
    have hjb : j < nb := nl e2 (by omega) (by omega) c
    have hnext := ih (j + 1) x (by omega) (by omega) (fun b hb hb2 => hn b (by omega) hb2)
    rw [if_neg c, if_neg (show ¬ (2 : Int32) = 1 by decide), ld_nI (j := j) rfl (by omega) (by decide)]
    by_cases c7 : S 5 j = 5
    · rw [if_pos c7, ld_nI (j := j) rfl (by omega) (by decide)]
      by_cases c8 : S 9 j = τ
      · exact absurd ⟨c7, c8⟩ (hn j (Nat.le_refl _) hjb)
      rw [if_neg c8]
      exact hnext
    · rw [if_neg c7]
      exact hnext
theorem r_77_2h {K : Int32 → Int32 → Int32 → Int32 → RS → Option (Int32 × RS)} {v2 τ : Int32} (e2 : S 0 2 = nI nb) (hnb : nb ≤ 40) {b0 : Nat} (hb0 : b0 < nb) (h7 : S 5 b0 = 5) (h8 : S 9 b0 = τ) (hu : ∀ b, b < nb → b ≠ b0 → ¬ (S 5 b = 5 ∧ S 9 b = τ)) : ∀ (fu j : Nat) (x : Int32), j ≤ b0 → nb - j < fu → gX10_queue_77 K fu 2 v2 x τ (nI j) S = if x = v2 then some (S 6 b0, S) else K 2 v2 (x + 1) τ S := by
  intro fu
  induction fu with
  | zero => intro j x hj hf; omega
  | succ fu ih =>
    intro j x hj hf
    rw [gX10_queue_77, nI_1 j]
    have hjb : j < nb := by omega
    have c : ¬ S 0 2 ≤ nI j := fun c => by
      have := (nI_leI (a := nb) (b := j) (by omega) (by omega)).mp (e2 ▸ c)
      omega
    rw [if_neg c, if_neg (show ¬ (2 : Int32) = 1 by decide), ld_nI (j := j) rfl (by omega) (by decide)]
    by_cases e : j = b0
    · subst e
      rw [if_pos h7, ld_nI (j := j) rfl (by omega) (by decide), if_pos h8]
      have hx : ∀ x, gX10_queue_77 K fu 2 v2 x τ (nI (j + 1)) S = K 2 v2 x τ S := fun x => r_77_2n e2 hnb fu (j + 1) x (by omega) (by omega) (fun b hb hb2 => hu b hb2 (by omega))
      by_cases cx : x = v2
      · rw [if_pos cx, if_pos cx, if_neg (show ¬ (2 : Int32) = 1 by decide), ld_nI (j := j) rfl (by omega) (by decide)]
      · rw [if_neg cx, if_neg cx]
        exact hx (x + 1)
    · have hnext := ih (j + 1) x (by omega) (by omega)
      by_cases c7 : S 5 j = 5
      · rw [if_pos c7, ld_nI (j := j) rfl (by omega) (by decide)]
        by_cases c8 : S 9 j = τ
        · exact absurd ⟨c7, c8⟩ (hu j hjb e)
        rw [if_neg c8]
        exact hnext
      · rw [if_neg c7]
        exact hnext
/-- the places of a line, in order -/
theorem q_first {l : List Nat} {v sp : Int32} {L : Nat → Int32 → Nat → Option Int32} (hl : l.length ≤ 20) (h0 : ∀ fu x, L (fu + 1) x l.length = if v = -1 then some x else some (-1)) (h1 : ∀ fu x m (h : m < l.length), L (fu + 1) x m = if x = v then some (nI l[m]) else L fu (x + 1) (m + 1)) (ha : v = -1 → sp = nI l.length) (hb : ∀ i (h : i < l.length), v = nI i → sp = nI l[i]) (hc : ¬ v = -1 → (∀ i, i < l.length → ¬ v = nI i) → sp = -1) : ∀ (fu m : Nat), m ≤ l.length → l.length - m < fu → (∀ i, i < m → ¬ v = nI i) → L fu (nI m) m = some sp := by
  intro fu
  induction fu with
  | zero => intro m hm hf; omega
  | succ fu ih =>
    intro m hm hf hno
    by_cases e : m = l.length
    · subst e
      rw [h0]
      by_cases c : v = -1
      · rw [if_pos c, ha c]
      · rw [if_neg c, hc c hno]
    · have hml : m < l.length := by omega
      rw [h1 fu (nI m) m hml]
      by_cases c : nI m = v
      · rw [if_pos c, hb m hml c.symm]
      · rw [if_neg c, nI_1]
        refine ih (m + 1) (by omega) (by omega) (fun i hi k => ?_)
        by_cases e2 : i = m
        · subst e2
          exact c k.symm
        · exact hno i (by omega) k
theorem w_queue (he : EN g cf nm A) (h : RX M A cf C S) (k v : Int32) : ok2 (gX9_queue g cf nm C k v) (gX10_queue S k v) (fun x y => x = y.1 ∧ RX M A cf C y.2) := by
  have hd := RX_0 h 0
  unfold gX10_queue
  refine r_bnd ?_
  generalize wr S 0 0 0 = S1 at hd ⊢
  obtain ⟨nd, nb, nr, fe, co, W, DL, BT, CT, hr⟩ := id hd
  obtain ⟨⟨t, bl, ms, hst⟩, hM, h1, h2, h3, h4, h5, h6, h7, h8, h9, h10, h11, h12⟩ := id hr
  obtain ⟨⟨e1, b1⟩, ⟨e2, b2⟩, ⟨e3, b3⟩, ⟨e7, b7⟩, ⟨e8, b8⟩, e4, e5, hm, hev⟩ := id hst.1
  obtain ⟨⟨l0, m0, p0⟩, ⟨l1, m1, p1⟩, ⟨l2, m2, p2⟩⟩ := id h8
  obtain ⟨a1, a2, a3, a4, T, a5, a6, a7, a8⟩ := id h9
  have hJ := hst.2.2
  have hR := hst.2.1
  have hbad : ∀ o : Option Int32, o = some (-1) → ok2 o (some ((-1 : Int32), S1)) (fun x y => x = y.1 ∧ RX M A cf C y.2) := fun o e => by
    rw [e]
    exact b_some ⟨rfl, hd⟩
  refine r_eq (g_in k 0 2) ?_
  unfold gX9_queue
  by_cases k0 : k = 0
  · subst k0
    rw [if_pos rfl]
    refine r_f (by decide) (b_ite Iff.rfl (fun cv _ => ?_) (fun _ _ => b_some ⟨rfl, hd⟩))
    refine r_t rfl (r_bd (r_find hr) (fun S2 h2' => ?_))
    obtain ⟨f, hf, eS, hr2⟩ := h2'
    have hd2 : RX M A cf C S2 := ⟨nd, nb, nr, fe, co, W, DL, BT, CT, hr2⟩
    have e57 : S2 0 57 = nI DL.length := by
      rw [eS]
      rfl
    have e42 : S2 42 = f := by
      rw [eS]
      exact va_up_self _ _ _
    have hl := l0.2.1
    have hstep : ∀ fu (x : Int32) (m : Nat) (hm : m < DL.length), gX9_queue_23 C g cf nm (fun v2_19 v4_20 => if v2_19 = (-1) then (some v4_20) else (some (-1))) (fu + 1) 0 v x (nI m) = if x = v then some (nI DL[m]) else gX9_queue_23 C g cf nm (fun v2_19 v4_20 => if v2_19 = (-1) then (some v4_20) else (some (-1))) fu 0 v (x + 1) (nI (m + 1)) := fun fu x m hm => by
      have c : ¬ C.1 200 11 ≤ nI m := fun c => by
        rw [l0.1] at c
        have := (nI_leI (by omega) (by omega)).mp c
        omega
      rw [gX9_queue_23, if_neg c, nI_1 m, g_at0 (g := g) (cf := cf) (nm := nm) (C := C) l0 (by omega), dif_pos hm, bd1_e, oc_e]
      have hw : gX9_waitsStill g cf nm C 0 (A 2 DL[m]) = some 1 := by
        unfold gX9_waitsStill
        rw [if_neg (by decide), if_neg (by decide)]
      have hmem := (m0 _).mp (List.getElem_mem hm)
      rw [hw, bd1_e, if_neg (show ¬ (1 : Int32) = 0 by decide), (he.2.2.1 DL[m] (by omega)).2.1]
    have hend : ∀ fu (x : Int32), gX9_queue_23 C g cf nm (fun v2_19 v4_20 => if v2_19 = (-1) then (some v4_20) else (some (-1))) (fu + 1) 0 v x (nI DL.length) = if v = -1 then some x else some (-1) := fun fu x => by
      rw [gX9_queue_23, if_pos (by rw [l0.1]; exact (nI_leI (by omega) (by omega)).mpr (Nat.le_refl _))]
    have hfirst : ∀ sp, (v = -1 → sp = nI DL.length) → (∀ i (h : i < DL.length), v = nI i → sp = nI DL[i]) → (¬ v = -1 → (∀ i, i < DL.length → ¬ v = nI i) → sp = -1) → gX9_queue_23 C g cf nm (fun v2_19 v4_20 => if v2_19 = (-1) then (some v4_20) else (some (-1))) 1000 0 v 0 0 = some sp := fun sp ha hb hc => by
      have := q_first (L := fun fu x m => gX9_queue_23 C g cf nm (fun v2_19 v4_20 => if v2_19 = (-1) then (some v4_20) else (some (-1))) fu 0 v x (nI m)) hl hend hstep ha hb hc 1000 0 (Nat.zero_le _) (by omega) (fun i hi => absurd hi (Nat.not_lt_zero i))
      exact this
    by_cases c1 : v = -1
    · refine r_t c1 ?_
      rw [hfirst (nI DL.length) (fun _ => rfl) (fun i hi e => absurd (e.symm.trans c1) (nI_nm (by omega))) (fun c => absurd c1 c)]
      exact b_some ⟨e57.symm, hd2⟩
    · refine r_f c1 ?_
      have k0 : (0 : Int32).toInt = 0 := by decide
      have k1 : (-1 : Int32).toInt = -1 := by decide
      have hv0 : ¬ v < 0 := by
        rw [fa_lt, k0]
        rw [fa_le, k1] at cv
        rw [fa_eq, k1] at c1
        omega
      by_cases c2 : S2 0 57 ≤ v
      · refine r_t c2 ?_
        rw [e57] at c2
        rw [hfirst (-1) (fun c => absurd c c1) (fun i hi e => ?_) (fun _ _ => rfl)]
        · exact b_some ⟨rfl, hd2⟩
        · rw [e] at c2
          have := (nI_leI (by omega) (by omega)).mp c2
          omega
      · refine r_f c2 ?_
        rw [e57] at c2
        obtain ⟨i, hi, rfl⟩ := ix_of hv0 c2 (by omega)
        refine r_ld rfl (show i < 20 by omega) (by decide) (fun y ey => ?_)
        have hy : y = nI DL[i] := by
          rw [ey, e42]
          exact hf i hi
        rw [hfirst (nI DL[i]) (fun c => absurd c c1) (fun i2 hi2 e => ?_) (fun _ hn => absurd rfl (hn i hi))]
        · exact b_some ⟨hy.symm, hd2⟩
        · have : i = i2 := nI_inj (by omega) (by omega) e
          subst this
          rfl
  rw [if_neg k0]
  have hz : (0 : Int32) = nI 0 := rfl
  have hfin : ∀ x : Int32, ok2 (if v = (-1) then (some x) else (some (-1))) (if v = (-1) then (some (x, S1)) else (some ((-1), S1))) (fun x y => x = y.1 ∧ RX M A cf C y.2) := fun x => b_ite Iff.rfl (fun _ _ => b_some ⟨rfl, hd⟩) (fun _ _ => b_some ⟨rfl, hd⟩)
  have hT320 : T ≤ 320 := by omega
  by_cases k1 : k = 1
  · subst k1
    rw [if_pos rfl]
    refine r_f (by decide) (b_ite Iff.rfl (fun cv _ => ?_) (fun _ _ => b_some ⟨rfl, hd⟩))
    refine r_f k0 ?_
    have hl := l1.2.1
    -- a box with a ticket is its reader's
    have hbox : ∀ b, b < nb → ¬ S1 7 b = -1 → ∃ r, r ∈ BT ∧ S1 7 b = nI r ∧ W r = b := fun b hb k7 => by
      rcases hR.2.2.2.1 b with e | ⟨r, hr20, e⟩
      · exact absurd e k7
      · have s2 := hJ.2.2.1 b r hb hr20 e
        obtain ⟨w1, w2⟩ := h7.2.2.2.2.1 r hr20 s2
        have hrn : r < nr := by
          rcases Nat.lt_or_ge r nr with q | q
          · exact q
          · have := hJ.1 r q
            rw [s2] at this
            exact absurd this (by decide)
        exact ⟨r, (m1 r).mpr ⟨hrn, s2⟩, e, hJ.2.2.2.1 (W r) b r w1 hb hr20 w2 e⟩
    have hin : ∀ r, r ∈ BT → r < 20 ∧ S1 15 r = 2 := fun r hr9 => ⟨by have := ((m1 r).mp hr9).1; omega, ((m1 r).mp hr9).2⟩
    have hkey : ∀ r, r ∈ BT → ∃ τ, τ < T ∧ S1 8 (W r) = nI τ := fun r hr9 => a7 r (hin r hr9).1 (hin r hr9).2
    have hkey2 : ∀ r, r ∈ BT → S1 8 (W r) = nI (S1 8 (W r)).toNatClampNeg ∧ (S1 8 (W r)).toNatClampNeg < T := fun r hr9 => by
      obtain ⟨τ, h1, h2⟩ := hkey r hr9
      rw [h2, nI_clamp (by omega)]
      exact ⟨rfl, h1⟩
    rw [hz]
    refine q_step (l := BT) (key := fun r => (S1 8 (W r)).toNatClampNeg) (kept := fun r => ¬ S1 5 (W r) = 3) (v2 := v) (T := T) (S := S1) (KC := fun x => if v = (-1) then (some x) else (some (-1))) (KR := fun x => if v = (-1) then (some (x, S1)) else (some ((-1), S1))) (L := fun fu x m => gX9_queue_1023 C g cf nm (fun v2_40 v4_41 => if v2_40 = (-1) then (some v4_41) else (some (-1))) fu 1 v x (nI m)) (R := fun fu x τ => gX10_queue_65 (fun v2_45 v3_46 S47 => if v2_45 = (-1) then (some (v3_46, S47)) else (some ((-1), S47))) fu 1 v x (nI τ) S1) (fun fu x => ?_) (fun fu x m hm => ?_) (fun fu x => ?_) (fun fu x τ hτ hno => ?_) (fun fu x τ r hτ hr9 ek => ?_) ?_ (fun r hr9 => (hkey2 r hr9).2) hfin (fun r => ⟨rfl, hd⟩) 3000000000 1000 0 0 _ (Nat.zero_le _) (by omega) (Nat.zero_le _) (by omega) (fun i _ hi => absurd hi (Nat.not_lt_zero i)) (fun i _ _ => Nat.zero_le _)
    · show gX9_queue_1023 C g cf nm _ (fu + 1) 1 v x (nI BT.length) = _
      rw [gX9_queue_1023, if_pos (by rw [l1.1]; exact (nI_leI (by omega) (by omega)).mpr (Nat.le_refl _))]
    · show gX9_queue_1023 C g cf nm _ (fu + 1) 1 v x (nI m) = _
      have c : ¬ C.1 200 12 ≤ nI m := fun c => by
        rw [l1.1] at c
        have := (nI_leI (by omega) (by omega)).mp c
        omega
      rw [gX9_queue_1023, if_neg c, nI_1 m, g_at1 (g := g) (cf := cf) (nm := nm) (C := C) l1 (by omega), dif_pos hm, bd1_e, oc_e]
      obtain ⟨i1, i2⟩ := hin _ (List.getElem_mem hm)
      have hw : gX9_waitsStill g cf nm C 1 (A 2 BT[m]) = some (if ¬ S1 5 (W BT[m]) = 3 then 1 else 0) := by
        unfold gX9_waitsStill
        rw [if_pos rfl, g_aw hr i1 (Or.inl i2) 3]
        by_cases c5 : S1 5 (W BT[m]) = 3
        · rw [if_pos c5, if_neg (fun q => q c5)]
          rfl
        · rw [if_neg c5, if_pos c5]
          rfl
      rw [hw]
      by_cases c5 : S1 5 (W BT[m]) = 3
      · rw [if_neg (show ¬ ¬ S1 5 (W BT[m]) = 3 from fun q => q c5), if_neg (show ¬ ¬ S1 5 (W BT[m]) = 3 from fun q => q c5)]
        rfl
      · rw [if_pos c5, if_pos c5]
        rw [bd1_e, if_neg (show ¬ (1 : Int32) = 0 by decide), (he.2.2.1 BT[m] i1).2.1]
    · show gX10_queue_65 _ (fu + 1) 1 v x (nI T) S1 = _
      rw [gX10_queue_65, if_pos (by rw [a5]; exact (nI_leI (by omega) (by omega)).mpr (Nat.le_refl _))]
    · show gX10_queue_65 _ (fu + 1) 1 v x (nI τ) S1 = _
      have hn9 : ∀ b, 0 ≤ b → b < nb → ¬ (¬ S1 7 b = -1 ∧ S1 8 b = nI τ) := fun b _ hb k9 => by
        obtain ⟨r, hr9, _, hw⟩ := hbox b hb k9.1
        refine hno r hr9 ?_
        show (S1 8 (W r)).toNatClampNeg = τ
        rw [hw, k9.2, nI_clamp (by omega)]
      rw [gX10_queue_65, if_neg (fun c => by rw [a5] at c; have := (nI_leI (by omega) (by omega)).mp c; omega), hz, r_77_1n e2 b2 1000 0 x (Nat.zero_le _) (by omega) hn9, nI_1]
    · show gX10_queue_65 _ (fu + 1) 1 v x (nI τ) S1 = _
      obtain ⟨i1, i2⟩ := hin r hr9
      obtain ⟨w1, w2⟩ := h7.2.2.2.2.1 r i1 i2
      have k8 : S1 8 (W r) = nI τ := by
        rw [(hkey2 r hr9).1]
        exact congrArg nI ek
      have hu : ∀ b, b < nb → b ≠ W r → ¬ (¬ S1 7 b = -1 ∧ S1 8 b = nI τ) := fun b hb hne ⟨k7, k9⟩ => by
        obtain ⟨r2, hr2, _, hw⟩ := hbox b hb k7
        have hrr : r2 = r := by
          obtain ⟨x1, hx1, ex1⟩ := List.mem_iff_getElem.mp hr9
          obtain ⟨x2, hx2, ex2⟩ := List.mem_iff_getElem.mp hr2
          rcases Nat.lt_trichotomy x1 x2 with q | q | q
          · have := List.pairwise_iff_getElem.mp p1 x1 x2 hx1 hx2 q
            rw [ex1, ex2, hw, k8, k9] at this
            exact absurd this i_lt_irr
          · subst q
            rw [← ex1, ← ex2]
          · have := List.pairwise_iff_getElem.mp p1 x2 x1 hx2 hx1 q
            rw [ex1, ex2, hw, k8, k9] at this
            exact absurd this i_lt_irr
        rw [hrr] at hw
        exact hne hw.symm
      rw [gX10_queue_65, if_neg (fun c => by rw [a5] at c; have := (nI_leI (by omega) (by omega)).mp c; omega), hz, r_77_1h e2 b2 w1 (by rw [w2]; exact nI_nm (by omega)) k8 hu 1000 0 x (Nat.zero_le _) (by omega), nI_1, w2]
    · refine List.Pairwise.imp_of_mem (fun {x y} hx hy hxy => ?_) p1
      obtain ⟨q1, q2⟩ := hkey2 x hx
      obtain ⟨q3, q4⟩ := hkey2 y hy
      rw [q1, q3] at hxy
      exact (nI_ltI (by omega) (by omega)).mp hxy
  rw [if_neg k1]
  by_cases k2 : k = 2
  · subst k2
    rw [if_pos rfl]
    refine r_f (by decide) (b_ite Iff.rfl (fun cv _ => ?_) (fun _ _ => b_some ⟨rfl, hd⟩))
    refine r_f k0 ?_
    have hl := l2.2.1
    have hbox : ∀ b, b < nb → S1 5 b = 5 → ∃ r, r ∈ CT ∧ S1 6 b = nI r ∧ W r = b := fun b hb k5 => by
      have k6 := a2 b hb k5
      rcases hR.2.2.2.2.1 b with e | ⟨r, hr20, e⟩
      · exact absurd e k6
      · have s4 : S1 15 r = 4 := by
          rcases hJ.2.2.2.2.1 b r hb hr20 e with q | ⟨_, q⟩
          · rw [k5] at q
            exact absurd q (by decide)
          · exact q
        obtain ⟨w1, w2, w3⟩ := h7.2.2.2.2.2 r hr20 s4
        have hrn : r < nr := by
          rcases Nat.lt_or_ge r nr with q | q
          · exact q
          · have := hJ.1 r q
            rw [s4] at this
            exact absurd this (by decide)
        have n1 : ¬ S1 5 (W r) = 1 := fun q => by
          rw [q] at w3
          exact absurd w3 (by decide)
        exact ⟨r, (m2 r).mpr ⟨hrn, s4⟩, e, hJ.2.2.2.2.2.1 (W r) b r w1 hb hr20 w2 e n1 (by rw [k5]; decide)⟩
    have hin : ∀ r, r ∈ CT → r < 20 ∧ S1 15 r = 4 := fun r hr9 => ⟨by have := ((m2 r).mp hr9).1; omega, ((m2 r).mp hr9).2⟩
    have hkey2 : ∀ r, r ∈ CT → S1 9 (W r) = nI (S1 9 (W r)).toNatClampNeg ∧ (S1 9 (W r)).toNatClampNeg < T := fun r hr9 => by
      obtain ⟨τ, h1, h2⟩ := a8 r (hin r hr9).1 (hin r hr9).2
      rw [h2, nI_clamp (by omega)]
      exact ⟨rfl, h1⟩
    rw [hz]
    refine q_step (l := CT) (key := fun r => (S1 9 (W r)).toNatClampNeg) (kept := fun r => S1 5 (W r) = 5) (v2 := v) (T := T) (S := S1) (KC := fun x => if v = (-1) then (some x) else (some (-1))) (KR := fun x => if v = (-1) then (some (x, S1)) else (some ((-1), S1))) (L := fun fu x m => gX9_queue_2023 C g cf nm (fun v2_61 v4_62 => if v2_61 = (-1) then (some v4_62) else (some (-1))) fu 2 v x (nI m)) (R := fun fu x τ => gX10_queue_65 (fun v2_45 v3_46 S47 => if v2_45 = (-1) then (some (v3_46, S47)) else (some ((-1), S47))) fu 2 v x (nI τ) S1) (fun fu x => ?_) (fun fu x m hm => ?_) (fun fu x => ?_) (fun fu x τ hτ hno => ?_) (fun fu x τ r hτ hr9 ek => ?_) ?_ (fun r hr9 => (hkey2 r hr9).2) hfin (fun r => ⟨rfl, hd⟩) 3000000000 1000 0 0 _ (Nat.zero_le _) (by omega) (Nat.zero_le _) (by omega) (fun i _ hi => absurd hi (Nat.not_lt_zero i)) (fun i _ _ => Nat.zero_le _)
    · show gX9_queue_2023 C g cf nm _ (fu + 1) 2 v x (nI CT.length) = _
      rw [gX9_queue_2023, if_pos (by rw [l2.1]; exact (nI_leI (by omega) (by omega)).mpr (Nat.le_refl _))]
    · show gX9_queue_2023 C g cf nm _ (fu + 1) 2 v x (nI m) = _
      have c : ¬ C.1 200 13 ≤ nI m := fun c => by
        rw [l2.1] at c
        have := (nI_leI (by omega) (by omega)).mp c
        omega
      rw [gX9_queue_2023, if_neg c, nI_1 m, g_at2 (g := g) (cf := cf) (nm := nm) (C := C) l2 (by omega), dif_pos hm, bd1_e, oc_e]
      obtain ⟨i1, i2⟩ := hin _ (List.getElem_mem hm)
      have hw : gX9_waitsStill g cf nm C 2 (A 2 CT[m]) = some (if S1 5 (W CT[m]) = 5 then 1 else 0) := by
        unfold gX9_waitsStill
        rw [if_neg (by decide), if_pos rfl, g_aw hr i1 (Or.inr i2) 5]
        by_cases c5 : S1 5 (W CT[m]) = 5
        · rw [if_pos c5]
          rfl
        · rw [if_neg c5]
          rfl
      rw [hw]
      by_cases c5 : S1 5 (W CT[m]) = 5
      · rw [if_pos c5, if_pos c5]
        rw [bd1_e, if_neg (show ¬ (1 : Int32) = 0 by decide), (he.2.2.1 CT[m] i1).2.1]
      · rw [if_neg c5, if_neg c5]
        rfl
    · show gX10_queue_65 _ (fu + 1) 2 v x (nI T) S1 = _
      rw [gX10_queue_65, if_pos (by rw [a5]; exact (nI_leI (by omega) (by omega)).mpr (Nat.le_refl _))]
    · show gX10_queue_65 _ (fu + 1) 2 v x (nI τ) S1 = _
      have hn9 : ∀ b, 0 ≤ b → b < nb → ¬ (S1 5 b = 5 ∧ S1 9 b = nI τ) := fun b _ hb k9 => by
        obtain ⟨r, hr9, _, hw⟩ := hbox b hb k9.1
        refine hno r hr9 ?_
        show (S1 9 (W r)).toNatClampNeg = τ
        rw [hw, k9.2, nI_clamp (by omega)]
      rw [gX10_queue_65, if_neg (fun c => by rw [a5] at c; have := (nI_leI (by omega) (by omega)).mp c; omega), hz, r_77_2n e2 b2 1000 0 x (Nat.zero_le _) (by omega) hn9, nI_1]
    · show gX10_queue_65 _ (fu + 1) 2 v x (nI τ) S1 = _
      obtain ⟨i1, i2⟩ := hin r hr9
      obtain ⟨w1, w2, w3⟩ := h7.2.2.2.2.2 r i1 i2
      have k8 : S1 9 (W r) = nI τ := by
        rw [(hkey2 r hr9).1]
        exact congrArg nI ek
      have hu : ∀ b, b < nb → b ≠ W r → ¬ (S1 5 b = 5 ∧ S1 9 b = nI τ) := fun b hb hne ⟨k7, k9⟩ => by
        obtain ⟨r2, hr2, _, hw⟩ := hbox b hb k7
        have hrr : r2 = r := by
          obtain ⟨x1, hx1, ex1⟩ := List.mem_iff_getElem.mp hr9
          obtain ⟨x2, hx2, ex2⟩ := List.mem_iff_getElem.mp hr2
          rcases Nat.lt_trichotomy x1 x2 with q | q | q
          · have := List.pairwise_iff_getElem.mp p2 x1 x2 hx1 hx2 q
            rw [ex1, ex2, hw, k8, k9] at this
            exact absurd this i_lt_irr
          · subst q
            rw [← ex1, ← ex2]
          · have := List.pairwise_iff_getElem.mp p2 x2 x1 hx2 hx1 q
            rw [ex1, ex2, hw, k8, k9] at this
            exact absurd this i_lt_irr
        rw [hrr] at hw
        exact hne hw.symm
      rw [gX10_queue_65, if_neg (fun c => by rw [a5] at c; have := (nI_leI (by omega) (by omega)).mp c; omega), hz]
      by_cases c5 : S1 5 (W r) = 5
      · rw [r_77_2h e2 b2 w1 c5 k8 hu 1000 0 x (Nat.zero_le _) (by omega), nI_1, w2, if_pos c5]
      · rw [r_77_2n e2 b2 1000 0 x (Nat.zero_le _) (by omega) (fun b _ hb k9 => ?_), nI_1, if_neg c5]
        by_cases e : b = W r
        · exact c5 (e ▸ k9.1)
        · exact hu b hb e k9
    · refine List.Pairwise.imp_of_mem (fun {x y} hx hy hxy => ?_) p2
      obtain ⟨q1, q2⟩ := hkey2 x hx
      obtain ⟨q3, q4⟩ := hkey2 y hy
      rw [q1, q3] at hxy
      exact (nI_ltI (by omega) (by omega)).mp hxy
  rw [if_neg k2]
  have hin : sp_in k 0 2 = 0 := by
    rcases pin (n := 3) (by omega) k with ⟨j, hj, e, _⟩ | ⟨_, _, e⟩
    · have : j = 0 ∨ j = 1 ∨ j = 2 := by omega
      rcases this with rfl | rfl | rfl
      · exact absurd e k0
      · exact absurd e k1
      · exact absurd e k2
    · exact e
  exact r_t hin (b_some ⟨rfl, hd⟩)
end QUEUE
