/-! a reader's steps -/
theorem sumN_up {f f' : Nat → Nat} {r : Nat} (hne : ∀ x, x ≠ r → f' x = f x) (hr : f' r + 1 = f r) : ∀ n, (r < n → sumN f' n + 1 = sumN f n) ∧ (n ≤ r → sumN f' n = sumN f n) := by
  intro n
  induction n with
  | zero => exact ⟨fun h => absurd h (Nat.not_lt_zero r), fun _ => rfl⟩
  | succ n ih =>
    refine ⟨fun h => ?_, fun h => ?_⟩
    · rw [sumN, sumN]
      by_cases e : r = n
      · subst e
        have := ih.2 (Nat.le_refl _)
        omega
      · have := ih.1 (by omega)
        rw [hne n (fun k => e k.symm)]
        omega
    · rw [sumN, sumN, ih.2 (by omega), hne n (by omega)]
def updN (f : Nat → Nat) (i v : Nat) : Nat → Nat := fun j => if j = i then v else f j
theorem un_s (f : Nat → Nat) (i v : Nat) : updN f i v i = v := if_pos rfl
theorem un_n (f : Nat → Nat) {i j : Nat} (v : Nat) (h : j ≠ i) : updN f i v j = f j := if_neg h
section STEP
variable {g : Nat → Nat → Option Nat} {cf : Nat → Nat → Nat} {nm : Nat → Int32} {A : Nat → Nat → Nat} {M : MP} {nd nb nr fe co : Nat} {W : Nat → Nat} {DL BT CT : List Nat} {C : CS} {S : RS} {r b q s : Nat}
/-- there is still a ticket to give -/
def SL (S : RS) : Prop := ∃ T, S 0 20 = nI T ∧ T + 1 + sumN (fun x => 16 - (S 18 x).toNatClampNeg) 20 ≤ 320
theorem Rel_next (he : EN g cf nm A) (h : Rel M A cf nd nb nr fe co W DL BT CT C S) (hr : r < 20) (eq : S 18 r = nI q) (es : S 17 r = nI s) (hq : q < s) (hs : s ≤ 16) : Rel M A cf nd nb nr fe co W DL BT CT (wi C 106 (cf 0 (A 2 r)) (nI (q + 1))) (wr S 18 r (nI (q + 1))) ∧ SL (wr S 18 r (nI (q + 1))) := by
  obtain ⟨⟨t, bl, ms, hst⟩, hM, h1, h2, h3, h4, h5, h6, h7, h8, h9, h10⟩ := h
  have hsum : sumN (fun x => 16 - (upd (S 18) r (nI (q + 1)) x).toNatClampNeg) 20 + 1 = sumN (fun x => 16 - (S 18 x).toNatClampNeg) 20 := (sumN_up (r := r) (fun x hx => by show 16 - (upd (S 18) r (nI (q + 1)) x).toNatClampNeg = _; rw [ua_n _ _ hx]) (by show 16 - (upd (S 18) r (nI (q + 1)) r).toNatClampNeg + 1 = 16 - (S 18 r).toNatClampNeg; rw [ua_s, eq, nI_clamp (by omega), nI_clamp (by omega)]; omega) 20).1 hr
  obtain ⟨a1, a2, a3, a4, T, a5, a6, a7, a8⟩ := h9
  obtain ⟨p1, p2, p3, p4, p5⟩ := h5
  refine ⟨⟨⟨t, bl, ms, hst.1, R_nx hst.2.1 es eq hq hs, hst.2.2⟩, hM, h1, h2, h3, h4, ⟨p1, ?_, p3, ?_, ?_⟩, h6, h7, h8, ⟨a1, a2, a3, a4, T, a5, ?_, a7, a8⟩, h10⟩, T, a5, ?_⟩
  · exact VW_up p2 (fun i hi e => injp he i r hi hr e) (nI (q + 1))
  · intro x n hx hn k i hi
    have hrow : ∀ y, (wi C 106 (cf 0 (A 2 r)) (nI (q + 1))).1 (1000 + y) = C.1 (1000 + y) := fun x => by simp only [wi, wq, kp, ln, rls, va_p1, wr_pl, Nat.reduceLT]
    simp only [hrow]
    exact p4 x n hx hn k i hi
  · intro x n hx hn k i hi
    have hrow : ∀ y, (wi C 106 (cf 0 (A 2 r)) (nI (q + 1))).1 (1000 + y) = C.1 (1000 + y) := fun x => by simp only [wi, wq, kp, ln, rls, va_p1, wr_pl, Nat.reduceLT]
    simp only [hrow]
    exact p5 x n hx hn k i hi
  · show T + sumN (fun x => 16 - (upd (S 18) r (nI (q + 1)) x).toNatClampNeg) 20 ≤ 320
    omega
  · show T + 1 + sumN (fun x => 16 - (upd (S 18) r (nI (q + 1)) x).toNatClampNeg) 20 ≤ 320
    omega
/-- a ticket given -/
theorem Rel_ask (he : EN g cf nm A) (h : Rel M A cf nd nb nr fe co W DL BT CT C S) (hT : SL S) (hr : r < nr) (hb : b < nb) (s8 : S 15 r = 8) (n6 : S 6 b = -1) (n7 : S 7 b = -1) {f1 : Nat → Option Nat} (hf1 : LF (A 2) (BT ++ [r]) f1) : Rel M A cf nd nb nr fe co (updN W r b) DL (BT ++ [r]) CT (ln (wi (wq (wq C 5 (A 1 b) (some (A 2 r))) 128 (A 2 r) (some (A 1 b))) 125 (A 2 r) 2) 206 12 f1 (BT.length + 1)) (wr (wr (wr (wr S 7 b (nI r)) 8 b (S 0 20)) 0 20 (S 0 20 + 1)) 15 r 2) := by
  obtain ⟨⟨t, bl, ms, hst⟩, hM, h1, h2, h3, h4, h5, h6, h7, h8, h9, h10, h11, h12⟩ := h
  have b2 := hst.1.2.1.2
  have b3 := hst.1.2.2.1.2
  have hJ := hst.2.2
  have hR := hst.2.1
  have hr20 : r < 20 := by omega
  obtain ⟨a1, a2, a3, a4, T', a5, a6, a7, a8⟩ := h9
  obtain ⟨T, t1, t2⟩ := hT
  have hTT : T' = T := by
    have e : nI T' = nI T := a5.symm.trans t1
    exact (nI_eq (by omega) (by omega)).mp e
  subst hTT
  obtain ⟨⟨d1, d2, d3⟩, ⟨⟨c0, c1, c2⟩, c4, c5⟩, ⟨x1, x2, x3⟩⟩ := h8
  have hrB : r ∉ BT := fun k => by
    have := ((c4 r).mp k).2
    rw [s8] at this
    exact absurd this (by decide)
  have hrC : r ∉ CT := fun k => by
    have := ((x2 r).mp k).2
    rw [s8] at this
    exact absurd this (by decide)
  have hne2 : ∀ y, y < 20 → S 15 y = 2 → y ≠ r ∧ W y ≠ b := fun y hy k => by
    refine ⟨fun e => ?_, fun e => ?_⟩
    · rw [e, s8] at k
      exact absurd k (by decide)
    · have := (h7.2.2.2.2.1 y hy k).2
      rw [e, n7] at this
      exact nI_nm (by omega) this.symm
  have hne4 : ∀ y, S 15 y = 4 → y ≠ r := fun y k e => by
    rw [e, s8] at k
    exact absurd k (by decide)
  have hlen : BT.length < 20 := len_lt (fun a k => i_lt_irr k) c5 hrB hr20 (fun y hy => by have := ((c4 y).mp hy).1; omega)
  refine ⟨⟨t, bl, ms, hst.1, R_tk hR (Or.inr ⟨r, hr20, rfl⟩), J_ask hJ hb hr20 hr s8⟩, hM, h1, h2, R3_tk he h3 hb b2 (rfI_s _ (by omega)).symm, h4, R5_fr h5 (fun x => by simp only [wi, wq, kp, ln, rls, va_p1, wr_pl, Nat.reduceLT]) rfl rfl rfl, h6, ?_, ⟨⟨d1, mem_same (fun e => absurd (s8.symm.trans e) (by decide)) (by decide) d2, d3⟩, ⟨⟨?_, ?_, hf1⟩, fun y => ?_, ?_⟩, ⟨x1, mem_same (fun e => absurd (s8.symm.trans e) (by decide)) (by decide) x2, ?_⟩⟩, ⟨fun y hy k => ?_, a2, a3, a4, T' + 1, ?_, ?_, fun y hy k => ?_, fun y hy k => ?_⟩, h10, R11_up h11 r ⟨2, by omega, rfl⟩, R12_st h12 hr20 (Or.inl rfl) (by decide)⟩
  · obtain ⟨w1, w2, w3, w4, w5, w6⟩ := h7
    refine ⟨VW_up w1 (fun i hi e => inj2 he i r hi hr20 e) 2, fun y hy => ?_, fun y hy => ?_, fun y hy k => ?_, fun y hy k => ?_, fun y hy k => ?_⟩
    · by_cases e : y = r
      · subst e
        have := (w2 y hy).2 (by rw [s8]; decide)
        exact ⟨fun k => absurd ((ua_s (S 15) y 2).symm.trans k) (by decide), fun _ => this⟩
      · have k2 : upd (S 15) r 2 y = S 15 y := ua_n _ _ e
        show (upd (S 15) r 2 y = 3 → _) ∧ (¬ upd (S 15) r 2 y = 3 → _)
        rw [k2]
        exact w2 y hy
    · by_cases e : y = r
      · subst e
        show va_up (C.2 128) (A 2 y) (some (A 1 b)) (A 2 y) = if upd (S 15) y 2 y = 2 ∨ upd (S 15) y 2 y = 4 then some (A 1 (updN W y b y)) else none
        rw [va_up_self, ua_s, un_s, if_pos (Or.inl rfl)]
      · show va_up (C.2 128) (A 2 r) (some (A 1 b)) (A 2 y) = if upd (S 15) r 2 y = 2 ∨ upd (S 15) r 2 y = 4 then some (A 1 (updN W r b y)) else none
        rw [va_up_ne _ _ (fun k => e (inj2 he y r hy hr20 k)), ua_n _ _ e, un_n _ _ e]
        exact w3 y hy
    · have e : y ≠ r := fun e => by subst e; exact absurd ((ua_s (S 15) y 2).symm.trans k) (by decide)
      rw [un_n _ _ e]
      exact w4 y hy ((ua_n _ _ e).symm.trans k)
    · by_cases e : y = r
      · subst e
        rw [un_s]
        exact ⟨hb, ua_s _ _ _⟩
      · have k2 : S 15 y = 2 := (ua_n _ _ e).symm.trans k
        rw [un_n _ _ e]
        exact ⟨(w5 y hy k2).1, (ua_n _ _ (hne2 y hy k2).2).trans (w5 y hy k2).2⟩
    · have e : y ≠ r := fun e => by subst e; exact absurd ((ua_s (S 15) y 2).symm.trans k) (by decide)
      rw [un_n _ _ e]
      exact w6 y hy ((ua_n _ _ e).symm.trans k)
  · show nI (BT.length + 1) = nI (BT ++ [r]).length
    rw [List.length_append]
    rfl
  · rw [List.length_append]
    show BT.length + 1 ≤ 20
    omega
  · rw [List.mem_append, List.mem_singleton, c4 y]
    by_cases e : y = r
    · subst e
      exact ⟨fun _ => ⟨hr, ua_s _ _ _⟩, fun _ => Or.inr rfl⟩
    · have k2 : upd (S 15) r 2 y = S 15 y := ua_n _ _ e
      show _ ↔ y < nr ∧ upd (S 15) r 2 y = 2
      rw [k2]
      exact ⟨fun k => k.elim id (fun k => absurd k e), Or.inl⟩
  · have hw : ∀ a, a ∈ BT → upd (S 8) b (S 0 20) (updN W r b a) = S 8 (W a) := fun a ha => by
      obtain ⟨k1, k2⟩ := (c4 a).mp ha
      obtain ⟨k3, k4⟩ := hne2 a (by omega) k2
      rw [un_n _ _ k3, ua_n _ _ k4]
    refine List.pairwise_append.mpr ⟨List.Pairwise.imp_of_mem (fun {x y} hx hy hxy => ?_) c5, List.pairwise_singleton _ _, fun x hx y hy => ?_⟩
    · show upd (S 8) b (S 0 20) (updN W r b x) < upd (S 8) b (S 0 20) (updN W r b y)
      rw [hw x hx, hw y hy]
      exact hxy
    · rw [List.mem_singleton] at hy
      subst hy
      show upd (S 8) b (S 0 20) (updN W y b x) < upd (S 8) b (S 0 20) (updN W y b y)
      rw [hw x hx, un_s, ua_s, a5]
      obtain ⟨k1, k2⟩ := (c4 x).mp hx
      obtain ⟨u, u1, u2⟩ := a7 x (by omega) k2
      rw [u2]
      exact nI_lt u1 (by omega)
  · refine List.Pairwise.imp_of_mem (fun {x y} hx hy hxy => ?_) x3
    show S 9 (updN W r b x) < S 9 (updN W r b y)
    rw [un_n _ _ (fun k : x = r => hrC (k ▸ hx)), un_n _ _ (fun k : y = r => hrC (k ▸ hy))]
    exact hxy
  · have e : y ≠ b := fun e => k (by rw [e]; exact n6)
    exact (ua_n _ _ e).trans (a1 y hy k)
  · show S 0 20 + 1 = nI (T' + 1)
    rw [a5, nI_1]
  · exact t2
  · by_cases e : y = r
    · subst e
      refine ⟨T', by omega, ?_⟩
      show upd (S 8) b (S 0 20) (updN W y b y) = nI T'
      rw [un_s, ua_s, a5]
    · have k2 : S 15 y = 2 := (ua_n _ _ e).symm.trans k
      obtain ⟨u, u1, u2⟩ := a7 y hy k2
      refine ⟨u, by omega, ?_⟩
      show upd (S 8) b (S 0 20) (updN W r b y) = nI u
      rw [un_n _ _ e, ua_n _ _ (hne2 y hy k2).2]
      exact u2
  · have e : y ≠ r := fun e => by subst e; exact absurd ((ua_s (S 15) y 2).symm.trans k) (by decide)
    obtain ⟨u, u1, u2⟩ := a8 y hy ((ua_n _ _ e).symm.trans k)
    refine ⟨u, by omega, ?_⟩
    show S 9 (updN W r b y) = nI u
    rw [un_n _ _ e]
    exact u2
/-- a copy ordered -/
theorem Rel_order (he : EN g cf nm A) (h : Rel M A cf nd nb nr fe co W DL BT CT C S) (hT : SL S) (hr : r < nr) (hb : b < nb) (s8 : S 15 r = 8) (n6 : S 6 b = nI r) {pg ug : Int32} (hu : b01 ug) {f2 : Nat → Option Nat} (hf2 : LF (A 2) (CT ++ [r]) f2) : Rel M A cf nd nb nr fe co (updN W r b) DL BT (CT ++ [r]) (ln (wi (wi (wi (wq (wi C 3 (A 1 b) 5) 128 (A 2 r) (some (A 1 b))) 130 (A 2 r) pg) 131 (A 2 r) ug) 125 (A 2 r) 4) 207 13 f2 (CT.length + 1)) (wr (wr (wr (wr (wr (wr S 5 b 5) 9 b (S 0 20)) 0 20 (S 0 20 + 1)) 10 b pg) 11 b ug) 15 r 4) := by
  obtain ⟨⟨t, bl, ms, hst⟩, hM, h1, h2, h3, h4, h5, h6, h7, h8, h9, h10, h11, h12⟩ := h
  have b2 := hst.1.2.1.2
  have b3 := hst.1.2.2.1.2
  have hJ := hst.2.2
  have hR := hst.2.1
  have hr20 : r < 20 := by omega
  obtain ⟨a1, a2, a3, a4, T', a5, a6, a7, a8⟩ := h9
  obtain ⟨T, t1, t2⟩ := hT
  have hTT : T' = T := by
    have e : nI T' = nI T := a5.symm.trans t1
    exact (nI_eq (by omega) (by omega)).mp e
  subst hTT
  obtain ⟨⟨d1, d2, d3⟩, ⟨c1, c2, c3⟩, ⟨⟨x0, x1, x2⟩, x4, x5⟩⟩ := h8
  have hrB : r ∉ BT := fun k => by
    have := ((c2 r).mp k).2
    rw [s8] at this
    exact absurd this (by decide)
  have hrC : r ∉ CT := fun k => by
    have := ((x4 r).mp k).2
    rw [s8] at this
    exact absurd this (by decide)
  have hne4 : ∀ y, y < 20 → S 15 y = 4 → y ≠ r ∧ W y ≠ b := fun y hy k => by
    refine ⟨fun e => ?_, fun e => ?_⟩
    · rw [e, s8] at k
      exact absurd k (by decide)
    · have := (h7.2.2.2.2.2 y hy k).2.1
      rw [e, n6] at this
      have := nI_inj (by omega) (by omega) this
      rw [← this, s8] at k
      exact absurd k (by decide)
  have hp1 : S 5 b = 1 := by
    rcases hJ.2.2.2.2.1 b r hb hr20 n6 with k | ⟨_, k⟩
    · exact k
    · rw [s8] at k
      exact absurd k (by decide)
  have hlen : CT.length < 20 := len_lt (fun a k => i_lt_irr k) x5 hrC hr20 (fun y hy => by have := ((x4 y).mp hy).1; omega)
  refine ⟨⟨t, bl, ms, hst.1, hR, J_order hJ hb hr20 hr s8 n6⟩, hM, h1, h2, R3_pl he h3 hb b2 5, h4, R5_fr h5 (fun x => by simp only [wi, wq, kp, ln, rls, va_p1, wr_pl, Nat.reduceLT]) rfl rfl rfl, h6, ?_, ⟨⟨d1, mem_same (fun e => absurd (s8.symm.trans e) (by decide)) (by decide) d2, d3⟩, ⟨c1, mem_same (fun e => absurd (s8.symm.trans e) (by decide)) (by decide) c2, ?_⟩, ⟨⟨?_, ?_, hf2⟩, fun y => ?_, ?_⟩⟩, ⟨a1, fun y hy k => ?_, fun f y hf hy k => ?_, fun y => ?_, T' + 1, ?_, ?_, fun y hy k => ?_, fun y hy k => ?_⟩, h10, R11_up h11 r ⟨4, by omega, rfl⟩, R12_st h12 hr20 (Or.inr (Or.inr (Or.inl rfl))) (by decide)⟩
  · obtain ⟨w1, w2, w3, w4, w5, w6⟩ := h7
    refine ⟨VW_up w1 (fun i hi e => inj2 he i r hi hr20 e) 4, fun y hy => ?_, fun y hy => ?_, fun y hy k => ?_, fun y hy k => ?_, fun y hy k => ?_⟩
    · by_cases e : y = r
      · subst e
        have := (w2 y hy).2 (by rw [s8]; decide)
        exact ⟨fun k => absurd ((ua_s (S 15) y 4).symm.trans k) (by decide), fun _ => this⟩
      · have k2 : upd (S 15) r 4 y = S 15 y := ua_n _ _ e
        show (upd (S 15) r 4 y = 3 → _) ∧ (¬ upd (S 15) r 4 y = 3 → _)
        rw [k2]
        exact w2 y hy
    · by_cases e : y = r
      · subst e
        show va_up (C.2 128) (A 2 y) (some (A 1 b)) (A 2 y) = if upd (S 15) y 4 y = 2 ∨ upd (S 15) y 4 y = 4 then some (A 1 (updN W y b y)) else none
        rw [va_up_self, ua_s, un_s, if_pos (Or.inr rfl)]
      · show va_up (C.2 128) (A 2 r) (some (A 1 b)) (A 2 y) = if upd (S 15) r 4 y = 2 ∨ upd (S 15) r 4 y = 4 then some (A 1 (updN W r b y)) else none
        rw [va_up_ne _ _ (fun k => e (inj2 he y r hy hr20 k)), ua_n _ _ e, un_n _ _ e]
        exact w3 y hy
    · by_cases e : y = r
      · subst e
        rw [un_s]
        exact ⟨(ua_s _ _ _).trans (ua_s _ _ _).symm, (ua_s _ _ _).trans (ua_s _ _ _).symm⟩
      · have k2 : S 15 y = 4 := (ua_n _ _ e).symm.trans k
        obtain ⟨v1, v2⟩ := hne4 y hy k2
        obtain ⟨u1, u2⟩ := w4 y hy k2
        have hA : A 2 y ≠ A 2 r := fun k => e (inj2 he y r hy hr20 k)
        rw [un_n _ _ e]
        exact ⟨(ua_n _ _ hA).trans (u1.trans (ua_n _ _ v2).symm), (ua_n _ _ hA).trans (u2.trans (ua_n _ _ v2).symm)⟩
    · have e : y ≠ r := fun e => by subst e; exact absurd ((ua_s (S 15) y 4).symm.trans k) (by decide)
      rw [un_n _ _ e]
      exact w5 y hy ((ua_n _ _ e).symm.trans k)
    · by_cases e : y = r
      · subst e
        rw [un_s]
        exact ⟨hb, n6, Or.inl (ua_s _ _ _)⟩
      · have k2 : S 15 y = 4 := (ua_n _ _ e).symm.trans k
        obtain ⟨v1, v2⟩ := hne4 y hy k2
        obtain ⟨u1, u2, u3⟩ := w6 y hy k2
        have k3 : upd (S 5) b 5 (W y) = S 5 (W y) := ua_n _ _ v2
        rw [un_n _ _ e]
        exact ⟨u1, u2, u3.elim (fun w => Or.inl (k3.trans w)) (fun w => Or.inr (k3.trans w))⟩
  · refine List.Pairwise.imp_of_mem (fun {x y} hx hy hxy => ?_) c3
    show S 8 (updN W r b x) < S 8 (updN W r b y)
    rw [un_n _ _ (fun k : x = r => hrB (k ▸ hx)), un_n _ _ (fun k : y = r => hrB (k ▸ hy))]
    exact hxy
  · show nI (CT.length + 1) = nI (CT ++ [r]).length
    rw [List.length_append]
    rfl
  · rw [List.length_append]
    show CT.length + 1 ≤ 20
    omega
  · rw [List.mem_append, List.mem_singleton, x4 y]
    by_cases e : y = r
    · subst e
      exact ⟨fun _ => ⟨hr, ua_s _ _ _⟩, fun _ => Or.inr rfl⟩
    · have k2 : upd (S 15) r 4 y = S 15 y := ua_n _ _ e
      show _ ↔ y < nr ∧ upd (S 15) r 4 y = 4
      rw [k2]
      exact ⟨fun k => k.elim id (fun k => absurd k e), Or.inl⟩
  · have hw : ∀ a, a ∈ CT → upd (S 9) b (S 0 20) (updN W r b a) = S 9 (W a) := fun a ha => by
      obtain ⟨k1, k2⟩ := (x4 a).mp ha
      obtain ⟨k3, k4⟩ := hne4 a (by omega) k2
      rw [un_n _ _ k3, ua_n _ _ k4]
    refine List.pairwise_append.mpr ⟨List.Pairwise.imp_of_mem (fun {x y} hx hy hxy => ?_) x5, List.pairwise_singleton _ _, fun x hx y hy => ?_⟩
    · show upd (S 9) b (S 0 20) (updN W r b x) < upd (S 9) b (S 0 20) (updN W r b y)
      rw [hw x hx, hw y hy]
      exact hxy
    · rw [List.mem_singleton] at hy
      subst hy
      show upd (S 9) b (S 0 20) (updN W y b x) < upd (S 9) b (S 0 20) (updN W y b y)
      rw [hw x hx, un_s, ua_s, a5]
      obtain ⟨k1, k2⟩ := (x4 x).mp hx
      obtain ⟨u, u1, u2⟩ := a8 x (by omega) k2
      rw [u2]
      exact nI_lt u1 (by omega)
  · by_cases e : y = b
    · subst e
      rw [show (wr (wr (wr (wr (wr (wr S 5 y 5) 9 y (S 0 20)) 0 20 (S 0 20 + 1)) 10 y pg) 11 y ug) 15 r 4) 6 y = S 6 y from rfl, n6]
      exact nI_nm (by omega)
    · exact a2 y hy ((ua_n _ _ e).symm.trans k)
  · have e : y ≠ b := fun e => by
      subst e
      rcases (hJ.2.2.2.2.2.2.2.1 f y hf hy k).2 with k2 | k2 <;> (rw [hp1] at k2; exact absurd k2 (by decide))
    have k3 : upd (S 5) b 5 y = S 5 y := ua_n _ _ e
    rcases a3 f y hf hy k with ⟨w1, w2⟩ | ⟨w1, w2⟩
    · exact Or.inl ⟨k3.trans w1, w2⟩
    · exact Or.inr ⟨k3.trans w1, w2⟩
  · by_cases e : y = b
    · subst e
      show b01 (upd (S 11) y ug y)
      rw [ua_s]
      exact hu
    · show b01 (upd (S 11) b ug y)
      rw [ua_n _ _ e]
      exact a4 y
  · show S 0 20 + 1 = nI (T' + 1)
    rw [a5, nI_1]
  · exact t2
  · have e : y ≠ r := fun e => by subst e; exact absurd ((ua_s (S 15) y 4).symm.trans k) (by decide)
    obtain ⟨u, u1, u2⟩ := a7 y hy ((ua_n _ _ e).symm.trans k)
    refine ⟨u, by omega, ?_⟩
    show S 8 (updN W r b y) = nI u
    rw [un_n _ _ e]
    exact u2
  · by_cases e : y = r
    · subst e
      refine ⟨T', by omega, ?_⟩
      show upd (S 9) b (S 0 20) (updN W y b y) = nI T'
      rw [un_s, ua_s, a5]
    · have k2 : S 15 y = 4 := (ua_n _ _ e).symm.trans k
      obtain ⟨u, u1, u2⟩ := a8 y hy k2
      refine ⟨u, by omega, ?_⟩
      show upd (S 9) b (S 0 20) (updN W r b y) = nI u
      rw [un_n _ _ e, ua_n _ _ (hne4 y hy k2).2]
      exact u2
end STEP
