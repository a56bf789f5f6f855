/-! waiting counted; a whole turn -/
theorem l_ph {α β γ : Type} {o : Option γ} {p : Option β} {Kc : γ → Option α} {R : α → β → Prop} (h : ok2 o p (fun c b => ok (Kc c) (fun a => R a b))) : ok2 (bd1 o Kc) p R := by
  obtain ⟨c, b, e1, e2, a, e3, h⟩ := h
  exact ⟨a, b, by rw [e1]; exact e3, e2, h⟩
theorem l_ph' {α β γ : Type} {c : γ} {p : Option β} {Kc : γ → Option α} {R : α → β → Prop} (h : ok2 (Kc c) p R) : ok2 (some c) p (fun c b => ok (Kc c) (fun a => R a b)) := by
  obtain ⟨a, b, e1, e2, h⟩ := h
  exact ⟨c, b, rfl, e2, a, e1, h⟩
section TURN
variable {g : Nat → Nat → Option Nat} {cf : Nat → Nat → Nat} {nm : Nat → Int32} {A : Nat → Nat → Nat} {M : MP} {nd nb nr fe co : Nat} {W : Nat → Nat} {DL BT CT : List Nat} {C : CS} {S : RS}
theorem VW_3 {c s : Nat → Int32} {j k i : Nat} (he : EN g cf nm A) (hj : j < 20) (hk : k < 3) (hi : i < 3) (h : VW (A 2) 20 c (fun r => s (3 * r + i))) (v : Int32) (hik : i ≠ k) : VW (A 2) 20 c (fun r => upd s (3 * j + k) v (3 * r + i)) := fun r hr => by
  show c (A 2 r) = upd s (3 * j + k) v (3 * r + i)
  rw [ua_n _ _ (by omega)]
  exact h r hr
theorem VW_3u {c s : Nat → Int32} {j k : Nat} (he : EN g cf nm A) (hj : j < 20) (hk : k < 3) (h : VW (A 2) 20 c (fun r => s (3 * r + k))) (v : Int32) : VW (A 2) 20 (upd c (A 2 j) v) (fun r => upd s (3 * j + k) v (3 * r + k)) := fun r hr => by
  show upd c (A 2 j) v (A 2 r) = upd s (3 * j + k) v (3 * r + k)
  by_cases e : r = j
  · subst e
    rw [ua_s, ua_s]
  · rw [ua_n _ _ (fun k => e (inj2 he r j hr hj k)), ua_n _ _ (by omega)]
    exact h r hr
theorem b_wait (he : EN g cf nm A) {K : CS → Option CS} {K' : RS → Option RS} {Q : CS → RS → Prop} (hK : ∀ C S, RQ M A cf nd nb nr fe co C S → ok2 (K C) (K' S) Q) :
    ∀ (fu j : Nat) (C : CS) (S : RS), j ≤ nr → nr - j < fu → RQ M A cf nd nb nr fe co C S → ok2 (gX9_countWaiting_2 g cf nm K fu (nI j) C) (gX10_oneTurn_183 K' fu (nI j) S) Q := by
  intro fu
  induction fu with
  | zero => intro j C S hj hf; omega
  | succ fu ih =>
    intro j C S hj hf h
    obtain ⟨W, DL, BT, CT, h⟩ := h
    obtain ⟨⟨t, bl, ms, hst⟩, hM, h1, h2, h3, ⟨a1, a2, a3, a4, a5, a6, a7, a8, a9⟩, h5, h6, h7, hrest⟩ := id h
    obtain ⟨⟨e1, b1⟩, ⟨e2, b2⟩, ⟨e3, b3⟩, ⟨e7, b7⟩, ⟨e8, b8⟩, e4, e5, hm, hev⟩ := hst.1
    have ec : C.1 200 2 = nI nr := h1.1.2.2.1.trans e3
    rw [gX9_countWaiting_2, gX10_oneTurn_183, nI_1 j]
    refine b_ite (by rw [ec, e3]) (fun _ _ => hK C S ⟨W, DL, BT, CT, h⟩) (fun q _ => ?_)
    have hjr : j < nr := nl ec (by omega) (by omega) q
    have hj20 : j < 20 := by omega
    have es := h7.1 j hj20
    have hnext := ih (j + 1) C S (by omega) (by omega) ⟨W, DL, BT, CT, h⟩
    refine l_ga rfl hj20 (by decide) (he.2.2.1 j hj20).1 (r_ld rfl hj20 (by decide) (fun y ey => ?_))
    rw [es]
    by_cases s1 : S 15 j = 1
    · refine l_t s1 (r_t (ey.trans s1) (l_bnd (r_ld (j := 3 * j + 0) (ix3 j 0) (by omega) (by decide) (fun y93 e93 => r_sv (j := 3 * j + 0) (ix3 j 0) (by omega) (by decide) ?_))))
      have ev : C.1 132 (A 2 j) + 1 = y93 + 1 := by rw [a7 j hj20, e93]; rfl
      rw [ev]
      exact ih (j + 1) _ _ (by omega) (by omega) ⟨W, DL, BT, CT, ⟨t, bl, ms, hst⟩, hM, h1, h2, h3, ⟨a1, a2, a3, a4, a5, a6, VW_3u (k := 0) he hj20 (by omega) a7 _, VW_3 (k := 0) he hj20 (by omega) (by omega) a8 _ (by omega), VW_3 (k := 0) he hj20 (by omega) (by omega) a9 _ (by omega)⟩, R5_fr h5 (fun x => by simp only [wi, wq, kp, ln, rls, va_p1, wr_pl, Nat.reduceLT]) rfl rfl rfl, h6, h7, hrest⟩
    refine l_f s1 (r_f (fun k => s1 (ey.symm.trans k)) (r_ld rfl hj20 (by decide) (fun y2 ey2 => ?_)))
    by_cases s2 : S 15 j = 2
    · refine l_t s2 (r_t (ey2.trans s2) (l_bnd (r_ld (j := 3 * j + 1) (ix3 j 1) (by omega) (by decide) (fun y93 e93 => r_sv (j := 3 * j + 1) (ix3 j 1) (by omega) (by decide) ?_))))
      have ev : C.1 133 (A 2 j) + 1 = y93 + 1 := by rw [a8 j hj20, e93]
      rw [ev]
      exact ih (j + 1) _ _ (by omega) (by omega) ⟨W, DL, BT, CT, ⟨t, bl, ms, hst⟩, hM, h1, h2, h3, ⟨a1, a2, a3, a4, a5, a6, VW_3 (k := 1) (i := 0) he hj20 (by omega) (by omega) a7 _ (by omega), VW_3u (k := 1) he hj20 (by omega) a8 _, VW_3 (k := 1) he hj20 (by omega) (by omega) a9 _ (by omega)⟩, R5_fr h5 (fun x => by simp only [wi, wq, kp, ln, rls, va_p1, wr_pl, Nat.reduceLT]) rfl rfl rfl, h6, h7, hrest⟩
    refine l_f s2 (r_f (fun k => s2 (ey2.symm.trans k)) (r_ld rfl hj20 (by decide) (fun y3 ey3 => ?_)))
    by_cases s3 : S 15 j = 3
    · exact l_t s3 (r_f (by rw [ey3, s3]; decide) hnext)
    refine l_f s3 ?_
    by_cases s4 : S 15 j = 4
    · refine l_t s4 (r_t (ey3.trans s4) (l_bnd (r_ld (j := 3 * j + 2) (ix3 j 2) (by omega) (by decide) (fun y93 e93 => r_sv (j := 3 * j + 2) (ix3 j 2) (by omega) (by decide) ?_))))
      have ev : C.1 134 (A 2 j) + 1 = y93 + 1 := by rw [a9 j hj20, e93]
      rw [ev]
      exact ih (j + 1) _ _ (by omega) (by omega) ⟨W, DL, BT, CT, ⟨t, bl, ms, hst⟩, hM, h1, h2, h3, ⟨a1, a2, a3, a4, a5, a6, VW_3 (k := 2) (i := 0) he hj20 (by omega) (by omega) a7 _ (by omega), VW_3 (k := 2) he hj20 (by omega) (by omega) a8 _ (by omega), VW_3u (k := 2) he hj20 (by omega) a9 _⟩, R5_fr h5 (fun x => by simp only [wi, wq, kp, ln, rls, va_p1, wr_pl, Nat.reduceLT]) rfl rfl rfl, h6, h7, hrest⟩
    · exact l_f s4 (r_f (fun k => s4 (ey3.symm.trans k)) hnext)
/-- all that follows the bell -/
theorem b_after (he : EN g cf nm A) (hpos : ∀ {n : Int32} {c1 c2 c3 : Nat → Int32} {m : Int32} {s1 s2 s3 : Nat → Int32} {t : Int32}, M n c1 c2 c3 m s1 s2 s3 t → 0 < t) (h : RQ M A cf nd nb nr fe co C S) : ok2 (bd1 (gX9_fetchersWalk g cf nm C) fun S9 => bd1 (gX9_copyistsWork g cf nm S9) fun S14 => bd1 (gX9_readersRead g cf nm S14) fun S19 => bd1 (gX9_readersGoOn g cf nm S19) fun S24 => bd1 (gX9_readersCome g cf nm S24) fun S29 => bd1 (gX9_giveDesks g cf nm S29) fun S34 => bd1 (gX9_sendFetchers g cf nm S34) fun S39 => bd1 (gX9_beginCopies g cf nm S39) fun S44 => bd1 (gX9_countWaiting g cf nm S44) fun S49 => some S49) (bd1 (gX10_doFetchers S) fun S13 => bd1 (gX10_doCopyists S13) fun S18 => gX10_oneTurn_28 (fun S35 => gX10_oneTurn_84 (fun S42 => gX10_oneTurn_105 (fun S59 => bd1 (gX10_doDesks S59) fun S61 => bd1 (gX10_doWays S61) fun S66 => bd1 (gX10_doCopies S66) fun S71 => gX10_oneTurn_183 (fun S97 => some S97) 1000 0 S71) 1000 0 S42) 1000 0 S35) 1000 0 S18) (fun C' S' => RQ M A cf nd nb nr fe co C' S') := by
  have hb : nr ≤ 20 ∧ fe ≤ 4 ∧ co ≤ 3 := by
    obtain ⟨W, DL, BT, CT, ⟨t, bl, ms, hst⟩, _⟩ := h
    exact ⟨hst.1.2.2.1.2, hst.1.2.2.2.1.2, hst.1.2.2.2.2.1.2⟩
  obtain ⟨b3, b7, b8⟩ := hb
  have fw : ∀ C S, RQ M A cf nd nb nr fe co C S → ok2 (gX9_fetchersWalk g cf nm C) (gX10_doFetchers S) (fun C' S' => RQ M A cf nd nb nr fe co C' S') := fun C S h => by
    unfold gX9_fetchersWalk gX10_doFetchers
    rw [show (0 : Int32) = nI 0 from rfl]
    exact b_fetch he (fun C S h => b_some h) 1000 0 C S (Nat.zero_le _) (by omega) h
  have cw : ∀ C S, RQ M A cf nd nb nr fe co C S → ok2 (gX9_copyistsWork g cf nm C) (gX10_doCopyists S) (fun C' S' => RQ M A cf nd nb nr fe co C' S') := fun C S h => by
    unfold gX9_copyistsWork gX10_doCopyists
    rw [show (0 : Int32) = nI 0 from rfl]
    exact b_copyists he (fun C S h => b_some h) 1000 0 C S (Nat.zero_le _) (by omega) h
  have sf : ∀ C S, RQ M A cf nd nb nr fe co C S → ok2 (gX9_sendFetchers g cf nm C) (gX10_doWays S) (fun C' S' => RQ M A cf nd nb nr fe co C' S') := fun C S h => by
    unfold gX9_sendFetchers gX10_doWays
    rw [show (0 : Int32) = nI 0 from rfl]
    exact b_ways he hpos (fun C S h => b_some h) 1000 0 C S (Nat.zero_le _) (by omega) h
  have bc : ∀ C S, RQ M A cf nd nb nr fe co C S → ok2 (gX9_beginCopies g cf nm C) (gX10_doCopies S) (fun C' S' => RQ M A cf nd nb nr fe co C' S') := fun C S h => by
    unfold gX9_beginCopies gX10_doCopies
    rw [show (0 : Int32) = nI 0 from rfl]
    exact b_copies he hpos (fun C S h => b_some h) 1000 0 C S (Nat.zero_le _) (by omega) h
  rw [show (0 : Int32) = nI 0 from rfl]
  refine b_bd (fw C S h) (fun C1 S1 h1 => b_bd (cw C1 S1 h1) (fun C2 S2 h2 => ?_))
  unfold gX9_readersRead
  rw [show (0 : Int32) = nI 0 from rfl]
  refine l_ph (b_reads he (fun C3 S3 h3 => l_ph' ?_) 1000 0 C2 S2 (Nat.zero_le _) (by omega) h2)
  unfold gX9_readersGoOn
  rw [show (0 : Int32) = nI 0 from rfl]
  refine l_ph (b_go84 he (fun C4 S4 h4 => l_ph' ?_) 1000 0 C3 S3 (Nat.zero_le _) (by omega) h3)
  unfold gX9_readersCome
  rw [show (0 : Int32) = nI 0 from rfl]
  refine l_ph (b_come he (fun C5 S5 h5 => l_ph' ?_) 1000 0 C4 S4 (Nat.zero_le _) (by omega) h4)
  refine b_bd (b_giveDesks he h5) (fun C6 S6 h6 => b_bd (sf C6 S6 h6) (fun C7 S7 h7 => b_bd (bc C7 S7 h7) (fun C8 S8 h8 => ?_)))
  unfold gX9_countWaiting
  rw [show (0 : Int32) = nI 0 from rfl]
  exact l_ph (b_wait he (fun C9 S9 h9 => l_ph' (b_some h9)) 1000 0 C8 S8 (Nat.zero_le _) (by omega) h8)
/-- turns: at most B, at least a -/
def NTB (a B : Nat) (t : Int32) : Prop := ∃ n, t = nI n ∧ a ≤ n ∧ n ≤ B
theorem b_turn (he : EN g cf nm A) {B : Nat} (hB : B + 1 < 2 ^ 31) (h : RQ (RMN (NTB 0 B)) A cf nd nb nr fe co C S) : ok2 (gX9_passTurn g cf nm C) (gX10_oneTurn S) (fun C' S' => RQ (RMN (NTB 1 (B + 1))) A cf nd nb nr fe co C' S') := by
  obtain ⟨W, DL, BT, CT, ⟨t, bl, ms, ⟨e1, e2, e3, e7, e8, e4, e5, hm, hev⟩, hR, hJ⟩, ⟨hrm, n, hn, _, hnB⟩, h1, h2, h3, h4, h5, h6, h7, h8, h9, h10, hrest⟩ := h
  have ht : S 0 4 + 1 = nI (n + 1) := by rw [hn, nI_1]
  have hct : C.1 200 4 + 1 = S 0 4 + 1 := by rw [h1.1.2.2.2.2.1]
  have h0 : RQ (RMN (NTB 1 (B + 1))) A cf nd nb nr fe co (wi C 200 4 (C.1 200 4 + 1)) (wr S 0 4 (S 0 4 + 1)) := by
    refine ⟨W, DL, BT, CT, ⟨_, bl, ms, ⟨e1, e2, e3, e7, e8, rfl, e5, hm, hev⟩, hR, hJ⟩, ⟨hrm, n + 1, ht, by omega, by omega⟩, ⟨⟨h1.1.1, h1.1.2.1, h1.1.2.2.1, h1.1.2.2.2.1, hct, h1.1.2.2.2.2.2⟩, h1.2⟩, h2, h3, h4, R5_fr h5 (fun x => by simp only [wi, wq, kp, ln, rls, va_p1, wr_pl, Nat.reduceLT]) rfl rfl rfl, h6, h7, h8, h9, ⟨h10.1, h10.2.1, fun k => absurd ?_ k⟩, hrest⟩
    show 0 < S 0 4 + 1
    rw [ht]
    exact nI_lt (a := 0) (by omega) (by omega)
  have hpos : ∀ {n : Int32} {c1 c2 c3 : Nat → Int32} {m : Int32} {s1 s2 s3 : Nat → Int32} {t : Int32}, RMN (NTB 1 (B + 1)) n c1 c2 c3 m s1 s2 s3 t → 0 < t := fun {_ _ _ _ _ _ _ _ t} k => by
    obtain ⟨_, k, e, k1, k2⟩ := k
    rw [e]
    exact nI_lt (a := 0) (by omega) (by omega)
  unfold gX9_passTurn gX10_oneTurn
  refine l_bnd (r_bnd (b_bd (b_mishaps he h0) (fun C1 S1 h1 => ?_)))
  have ee : C1.1 200 4 = S1 0 4 ∧ C1.1 200 5 = S1 0 5 := by
    obtain ⟨_, _, _, _, _, _, k1, _⟩ := id h1
    exact ⟨k1.1.2.2.2.2.1, k1.1.2.2.2.2.2.1⟩
  by_cases k : S1 0 4 = S1 0 5
  · refine l_t (by rw [ee.1, ee.2]; exact k) (b_bd (b_ring he h1 k) (fun C2 S2 h2 => b_after he hpos h2))
  · refine l_f (by rw [ee.1, ee.2]; exact k) (r_eq (a := S1) (by unfold gX10_doBell; exact if_neg k) (b_after he hpos h1))
end TURN
