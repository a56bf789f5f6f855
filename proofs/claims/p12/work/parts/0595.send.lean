section SEND
variable {g : Nat → Nat → Option Nat} {cf : Nat → Nat → Nat} {nm : Nat → Int32} {A : Nat → Nat → Nat} {M : MP} {nd nb nr fe co : Nat} {W : Nat → Nat} {DL BT CT : List Nat} {C : CS} {S : RS} {b f : Nat} {v y : Int32} {q : Option Nat}
/-- a fetcher sent: box b, for y -/
theorem Rel_send (he : EN g cf nm A) (h : Rel M A cf nd nb nr fe co W DL BT CT C S) (hpos : 0 < S 0 4) (hf : f < fe) (hb : b < nb) (ef : S 30 f = -1) (hp : (S 5 b = 0 ∧ v = 3 ∧ ¬ y = -1) ∨ (S 5 b = 2 ∧ v = 4 ∧ y = -1)) (ho : oi 20 y) (hq : q = rfI (A 2) y) : Rel M A cf nd nb nr fe co W DL BT CT (wi (wi (wq (wq (wi C 3 (A 1 b) v) 160 (A 3 f) (some (A 1 b))) 161 (A 3 f) q) 162 (A 3 f) (C.1 200 3)) 200 7 (C.1 200 7 + 1)) (wr (wr (wr (wr (wr S 5 b v) 30 f (nI b)) 32 f y) 31 f (S 0 6)) 0 21 (S 0 21 + 1)) := by
  obtain ⟨⟨t, bl, ms, hst⟩, hM, h1, h2, h3, h4, h5, h6, h7, h8, h9, h10, h11, h12⟩ := h
  have b2 := hst.1.2.1.2
  have b7 := hst.1.2.2.2.1.2
  have hJ := hst.2.2
  have hf4 : f < 4 := by omega
  have hb40 : b < 40 := by omega
  have hpl : S 5 b = 2 ∨ S 5 b = 0 := hp.elim (fun k => Or.inr k.1) (fun k => Or.inl k.1)
  have hv : v = 3 ∨ v = 4 := hp.elim (fun k => Or.inl k.2.1) (fun k => Or.inr k.2.1)
  refine ⟨⟨t, bl, ms, hst.1, R_fT (R_fB hst.2.1 (Or.inr ⟨b, hb40, rfl⟩)) ho, J_way hJ hf4 hb hb40 ef hpl hv⟩, hM, ⟨⟨h1.1.1, h1.1.2.1, h1.1.2.2.1, h1.1.2.2.2.1, h1.1.2.2.2.2.1, h1.1.2.2.2.2.2.1, h1.1.2.2.2.2.2.2.1, ?_, h1.1.2.2.2.2.2.2.2.2⟩, h1.2⟩, h2, R3_pl he h3 hb b2 v, h4, R5_fr h5 (fun x => by simp only [wi, wq, kp, ln, rls, va_p1, wr_pl, Nat.reduceLT]) rfl rfl rfl, ?_, R7_pl h7 (fun r hr k hw => ?_), h8, R9_pl h9 (fun k => ?_) (fun f' x hf' hx k => ?_), ?_, h11, h12⟩
  · show C.1 200 7 + 1 = S 0 21 + 1
    rw [h1.1.2.2.2.2.2.2.2.1]
  · obtain ⟨a1, a2, a3, a4⟩ := h6
    refine ⟨VQ_up a1 (fun i hi e => inj3 he i f hi hf4 e) (rfI_s _ (by omega)).symm, fun x hx => ?_, fun x hx => ?_, fun x hx => ?_⟩
    · exact (va_up_ne _ _ (fun e => inj34 he f x hf4 hx e.symm)).trans (a2 x hx)
    · show (¬ upd (S 30) f (nI b) x = -1 → va_up (C.2 161) (A 3 f) q (A 3 x) = rfI (A 2) (upd (S 32) f y x) ∧ upd (C.1 162) (A 3 f) (C.1 200 3) (A 3 x) = upd (S 31) f (S 0 6) x) ∧ (upd (S 30) f (nI b) x = -1 → upd (C.1 162) (A 3 f) (C.1 200 3) (A 3 x) = 0)
      by_cases e : x = f
      · subst e
        rw [ua_s, va_up_self, ua_s, ua_s, ua_s]
        exact ⟨fun _ => ⟨hq, h1.1.2.2.2.1⟩, fun k => absurd k (nI_nm (by omega))⟩
      · have hne : A 3 x ≠ A 3 f := fun k => e (inj3 he x f hx hf4 k)
        rw [ua_n _ _ e, va_up_ne _ _ hne, ua_n _ _ e, ua_n _ _ hne, ua_n _ _ e]
        exact a3 x hx
    · show (¬ S 33 x = -1 → upd (C.1 162) (A 3 f) (C.1 200 3) (A 4 x) = S 34 x) ∧ (S 33 x = -1 → upd (C.1 162) (A 3 f) (C.1 200 3) (A 4 x) = 0)
      rw [ua_n _ _ (fun e => inj34 he f x hf4 hx e.symm)]
      exact a4 x hx
  · have := (h7.2.2.2.2.2 r hr k).2.2
    rw [hw] at this
    rcases hpl with k2 | k2 <;> (rw [k2] at this; exact absurd this (by decide))
  · rcases hv with k2 | k2 <;> (rw [k2] at k; exact absurd k (by decide))
  · by_cases e : f' = f
    · subst e
      have k2 : nI b = nI x := (ua_s (S 30) f' (nI b)).symm.trans k
      have e2 : x = b := (nI_inj (by omega) (by omega) k2).symm
      refine Or.inl ⟨e2, ?_⟩
      show (v = 3 ∧ ¬ upd (S 32) f' y f' = -1) ∨ (v = 4 ∧ upd (S 32) f' y f' = -1)
      rw [ua_s]
      exact hp.elim (fun k => Or.inl k.2) (fun k => Or.inr k.2)
    · have k2 : S 30 f' = nI x := (ua_n (S 30) (nI b) e).symm.trans k
      refine Or.inr ⟨fun e2 => ?_, k2, ua_n _ _ e⟩
      subst e2
      rcases (hJ.2.2.2.2.2.2.2.1 f' x hf' hx k2).2 with k3 | k3 <;> rcases hpl with k4 | k4 <;> (rw [k3] at k4; exact absurd k4 (by decide))
  · refine ⟨fun x hx hx4 => ?_, h10.2.1, fun k => absurd hpos k⟩
    have e : x ≠ f := by omega
    exact (ua_n _ _ e).trans (h10.1 x hx hx4)
theorem b_ways (he : EN g cf nm A) (hpos : ∀ {n : Int32} {c1 c2 c3 : Nat → Int32} {m : Int32} {s1 s2 s3 : Nat → Int32} {t : Int32}, M n c1 c2 c3 m s1 s2 s3 t → 0 < t) {K : CS → Option CS} {K' : RS → Option RS} {Q : CS → RS → Prop} (hK : ∀ C S, RQ M A cf nd nb nr fe co C S → ok2 (K C) (K' S) Q) :
    ∀ (fu j : Nat) (C : CS) (S : RS), j ≤ fe → fe - j < fu → RQ M A cf nd nb nr fe co C S → ok2 (gX9_sendFetchers_2 g cf nm K fu (nI j) C) (gX10_doWays_2 K' fu (nI j) S) Q := by
  intro fu
  induction fu with
  | zero => intro j C S hj hf; omega
  | succ fu ih =>
    intro j C S hj hf h
    obtain ⟨W, DL, BT, CT, h⟩ := h
    obtain ⟨⟨t, bl, ms, hst⟩, hM, h1, h2, h3, h4, h5, h6, h7, h8, h9, h10, h11, h12⟩ := id h
    obtain ⟨⟨e1, b1⟩, ⟨e2, b2⟩, ⟨e3, b3⟩, ⟨e7, b7⟩, ⟨e8, b8⟩, e4, e5, hm, hev⟩ := hst.1
    have ec : C.1 200 9 = nI fe := h1.1.2.2.2.2.2.2.2.2.2.1.trans e7
    rw [gX9_sendFetchers_2, gX10_doWays_2, nI_1 j]
    refine b_ite (by rw [ec, e7]) (fun q _ => hK C S ⟨W, DL, BT, CT, h⟩) (fun q _ => ?_)
    have hjf : j < fe := nl ec (by omega) (by omega) q
    have hj4 : j < 4 := by omega
    have hnext := ih (j + 1) C S (by omega) (by omega) ⟨W, DL, BT, CT, h⟩
    have hg := (he.2.2.2.1 j hj4).1
    refine l_ga rfl hj4 (by decide) hg (l_bnd (r_ld rfl hj4 (by decide) (fun y ey => ?_)))
    have hq := h6.1 j hj4
    rcases hst.2.1.2.2.2.2.2.1 j with e | ⟨b, hb, e⟩
    · rw [e, rfI_n] at hq
      refine l_ocn hq (r_t (ey.trans e) (l_ga rfl hj4 (by decide) hg ?_))
      unfold gX9_sendFetcher gX9_firstLeftBox gX10_leftBox
      obtain ⟨ql, yl, eql, eyl, hl⟩ := b_left (cf := cf) (nm := nm) (fun i hi => (he.2.1 i hi).1) b2 (h1.1.2.1.trans e2) e2 h3.2.2.1 1000 0 (Nat.zero_le _) (by omega)
      refine r_eq eyl ?_
      rcases hl with ⟨rfl, rfl⟩ | ⟨b, hb, rfl, rfl, p2⟩
      · obtain ⟨qw, yw, eqw, eyw, hw⟩ := b_wanted he h
        refine r_t rfl (r_eq eyw ?_)
        rcases hw with ⟨rfl, rfl⟩ | ⟨a, ha, rfl, rfl, s2, p0⟩
        · refine r_t rfl (l_bd (P := fun C' => C' = C) ?_ (fun C' hC' => by subst hC'; exact hnext))
          exact ok_bd1 (P := fun q => q = none) ⟨_, eql, rfl⟩ (fun q9 hq9 => c_ocn hq9 (ok_bd1 (P := fun q => q = none) ⟨_, eqw, rfl⟩ (fun q8 hq8 => c_ocn hq8 (ok_some rfl))))
        · have ha20 : a < 20 := by omega
          obtain ⟨w1, w2⟩ := h7.2.2.2.2.1 a ha20 s2
          have hw40 : W a < 40 := by omega
          have q128 := h7.2.2.1 a ha20
          rw [if_pos (Or.inl s2)] at q128
          have hR := Rel_send (y := nI a) (q := some (A 2 a)) he h (hpos hM) hjf w1 e (Or.inl ⟨p0, rfl, nI_nm (by omega)⟩) (Or.inr ⟨a, ha20, rfl⟩) (rfI_s _ (by omega)).symm
          refine l_bd (P := fun C' => C' = wi (wi (wq (wq (wi C 3 (A 1 (W a)) 3) 160 (A 3 j) (some (A 1 (W a)))) 161 (A 3 j) (some (A 2 a))) 162 (A 3 j) (C.1 200 3)) 200 7 (C.1 200 7 + 1)) ?_ (fun C' hC' => ?_)
          · refine ok_bd1 (P := fun q => q = none) ⟨_, eql, rfl⟩ (fun q9 hq9 => c_ocn hq9 (ok_bd1 (P := fun q => q = some (A 2 a)) ⟨_, eqw, rfl⟩ (fun q8 hq8 => c_ocs hq8 ?_)))
            refine ok_bnd (c_ocs q128 (ok_bnd (c_sm q128 (ok_bnd (ok_bnd (c_sm q128 ?_))))))
            exact ⟨_, rfl, rfl⟩
          subst hC'
          refine r_f (nI_nm (by omega)) (r_sv rfl hw40 (by decide) (r_sv rfl hj4 (by decide) (r_ld rfl hw40 (by decide) (fun y21 e21 => ?_))))
          rw [show y21 = nI a from e21.trans w2]
          exact r_sv rfl hj4 (by decide) (r_sv rfl hj4 (by decide) (r_bnd (ih (j + 1) _ _ (by omega) (by omega) ⟨_, _, _, _, hR⟩)))
      · have hb40 : b < 40 := by omega
        have hR := Rel_send (y := -1) (q := none) he h (hpos hM) hjf hb e (Or.inr ⟨p2, rfl, rfl⟩) (Or.inl rfl) (rfI_n _).symm
        refine r_f (nI_nm (by omega)) (r_f (nI_nm (by omega)) (l_bd (P := fun C' => C' = wi (wi (wq (wq (wi C 3 (A 1 b) 4) 160 (A 3 j) (some (A 1 b))) 161 (A 3 j) none) 162 (A 3 j) (C.1 200 3)) 200 7 (C.1 200 7 + 1)) ?_ (fun C' hC' => ?_)))
        · exact ok_bd1 (P := fun q => q = some (A 1 b)) ⟨_, eql, rfl⟩ (fun q9 hq9 => c_ocs hq9 (ok_bnd ⟨_, rfl, rfl⟩))
        subst hC'
        exact r_sv rfl hb40 (by decide) (r_sv rfl hj4 (by decide) (r_sv rfl hj4 (by decide) (r_sv rfl hj4 (by decide) (r_bnd (ih (j + 1) _ _ (by omega) (by omega) ⟨_, _, _, _, hR⟩)))))
    · rw [e, rfI_s _ (by omega)] at hq
      exact l_ocs hq (r_f (fun k => nI_nm (i := b) (by omega) (e.symm.trans (ey.symm.trans k))) hnext)
end SEND
