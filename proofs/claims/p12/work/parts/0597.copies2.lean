section COPIES2
variable {g : Nat → Nat → Option Nat} {cf : Nat → Nat → Nat} {nm : Nat → Int32} {A : Nat → Nat → Nat} {M : MP} {nd nb nr fe co : Nat} {W : Nat → Nat} {DL BT CT : List Nat} {C : CS} {S : RS}
/-- the row of urgent copies, one more -/
def urg (u x : Int32) : Int32 := if x = 0 then 0 else if u + 1 < 3 then u + 1 else 3
theorem urg_le {u x : Int32} (h : ∃ k, k ≤ 3 ∧ u = nI k) : ∃ k, k ≤ 3 ∧ urg u x = nI k := by
  obtain ⟨k, hk, rfl⟩ := h
  unfold urg
  by_cases e : x = 0
  · rw [if_pos e]
    exact ⟨0, by omega, rfl⟩
  rw [if_neg e]
  have : k = 0 ∨ k = 1 ∨ k = 2 ∨ k = 3 := by omega
  rcases this with rfl | rfl | rfl | rfl
  · exact ⟨1, by omega, by decide⟩
  · exact ⟨2, by omega, by decide⟩
  · exact ⟨3, by omega, by decide⟩
  · exact ⟨3, by omega, by decide⟩
theorem urg_c {u : Int32} (h : ∃ k, k ≤ 3 ∧ u = nI k) : (if 3 < u + 1 then 3 else u + 1) = (if u + 1 < 3 then u + 1 else 3) := by
  obtain ⟨k, hk, rfl⟩ := h
  have : k = 0 ∨ k = 1 ∨ k = 2 ∨ k = 3 := by omega
  rcases this with rfl | rfl | rfl | rfl <;> decide
theorem urg_3 {u : Int32} (h : ∃ k, k ≤ 3 ∧ u = nI k) : (u < 3 ↔ ¬ u = 3) := by
  obtain ⟨k, hk, rfl⟩ := h
  have : k = 0 ∨ k = 1 ∨ k = 2 ∨ k = 3 := by omega
  rcases this with rfl | rfl | rfl | rfl <;> decide
theorem r_cb {α β : Type} {o : Option α} {Q : α → β → Prop} {b j : Nat} (hb : b < 40) (hj : j < 3) {K : RS → Option β} (h : ok2 o (K (wr (wr (wr (wr S 0 23 (urg (S 0 23) (S 11 b))) 5 b 6) 33 j (nI b)) 34 j (S 10 b))) Q) : ok2 o (ld S 11 40 (nI b) fun y17 => if y17 = 0 then (bnd (wr S 0 23 0) fun S20 => sv S20 5 40 (nI b) 6 fun S22 => sv S22 33 3 (nI j) (nI b) fun S24 => ld S24 10 40 (nI b) fun y25 => sv S24 34 3 (nI j) y25 fun S28 => K S28) else (bnd (if ((S 0 23) + 1) < 3 then ((S 0 23) + 1) else 3) fun y29 => bnd (wr S 0 23 y29) fun S30 => sv S30 5 40 (nI b) 6 fun S32 => sv S32 33 3 (nI j) (nI b) fun S34 => ld S34 10 40 (nI b) fun y35 => sv S34 34 3 (nI j) y35 fun S38 => K S38)) Q := by
  refine r_ld rfl hb (by decide) (fun y ey => ?_)
  subst ey
  by_cases e : S 11 b = 0
  · rw [show urg (S 0 23) (S 11 b) = 0 from if_pos e] at h
    exact r_t e (r_bnd (r_sv rfl hb (by decide) (r_sv rfl hj (by decide) (r_ld rfl hb (by decide) (fun y2 e2 => by
      rw [show y2 = S 10 b from e2]
      exact r_sv rfl hj (by decide) h)))))
  · rw [show urg (S 0 23) (S 11 b) = (if S 0 23 + 1 < 3 then S 0 23 + 1 else 3) from if_neg e] at h
    exact r_f e (r_bnd (r_bnd (r_sv rfl hb (by decide) (r_sv rfl hj (by decide) (r_ld rfl hb (by decide) (fun y2 e2 => by
      rw [show y2 = S 10 b from e2]
      exact r_sv rfl hj (by decide) h))))))
/-- the class's choice beside the reference's two boxes -/
theorem b_next (he : EN g cf nm A) (h : Rel M A cf nd nb nr fe co W DL BT CT C S) : ∃ y5 y10, gX10_copyBox S 1 = some y5 ∧ gX10_copyBox S 0 = some y10 ∧ ((gX9_nextOrderer g cf nm C = some none ∧ y5 = -1 ∧ y10 = -1) ∨ ∃ a, a < nr ∧ gX9_nextOrderer g cf nm C = some (some (A 2 a)) ∧ S 15 a = 4 ∧ S 5 (W a) = 5 ∧ ((y5 = -1 ∧ ¬ y10 = -1 ∧ y10 = nI (W a)) ∨ (¬ y5 = -1 ∧ S 0 23 = 3 ∧ ¬ y10 = -1 ∧ y10 = nI (W a)) ∨ (¬ y5 = -1 ∧ S 0 23 = 3 ∧ y10 = -1 ∧ y5 = nI (W a)) ∨ (¬ y5 = -1 ∧ ¬ S 0 23 = 3 ∧ y5 = nI (W a)))) := by
  obtain ⟨q1, y5, eq1, ey5, h1⟩ := b_orderer he h 1
  obtain ⟨q0, y10, eq0, ey10, h0⟩ := b_orderer he h 0
  obtain ⟨⟨t, bl, ms, hst⟩, hM, hR1, h2, h3, h4, h5, h6, h7, h8, h9, h10, h11, h12⟩ := id h
  have b2 := hst.1.2.1.2
  have hu := hR1.1.2.2.2.2.2.2.2.2.2.2.2
  have e8 : C.1 200 8 = S 0 23 := hR1.1.2.2.2.2.2.2.2.2.1
  have hW : ∀ a, a < nr → S 15 a = 4 → ¬ nI (W a) = -1 := fun a ha k => by
    have := (h7.2.2.2.2.2 a (by have := hst.1.2.2.1.2; omega) k).1
    exact nI_nm (by omega)
  refine ⟨y5, y10, ey5, ey10, ?_⟩
  unfold gX9_nextOrderer
  rw [eq1]
  show ((bd1 (gX9_firstOrderer g cf nm C 0) fun q6 => oc q1 (some q6) fun b11 => if (C.1 200 8) < 3 then (some (some b11)) else (oc q6 (some (some b11)) fun b13 => some (some b13))) = some none ∧ _) ∨ _
  rw [eq0]
  show ((oc q1 (some q0) fun b11 => if (C.1 200 8) < 3 then (some (some b11)) else (oc q0 (some (some b11)) fun b13 => some (some b13))) = some none ∧ _) ∨ ∃ a, a < nr ∧ (oc q1 (some q0) fun b11 => if (C.1 200 8) < 3 then (some (some b11)) else (oc q0 (some (some b11)) fun b13 => some (some b13))) = some (some (A 2 a)) ∧ _
  rcases h1 with ⟨rfl, rfl⟩ | ⟨a, a1, rfl, rfl, a2, a3, a4⟩
  · rcases h0 with ⟨rfl, rfl⟩ | ⟨c, c1, rfl, rfl, c2, c3, c4⟩
    · exact Or.inl ⟨rfl, rfl, rfl⟩
    · exact Or.inr ⟨c, c1, rfl, c2, c3, Or.inl ⟨rfl, hW c c1 c2, rfl⟩⟩
  · by_cases k : S 0 23 = 3
    · have k2 : ¬ C.1 200 8 < 3 := by rw [e8]; exact fun k3 => (urg_3 hu).mp k3 k
      rcases h0 with ⟨rfl, rfl⟩ | ⟨c, c1, rfl, rfl, c2, c3, c4⟩
      · exact Or.inr ⟨a, a1, if_neg k2, a2, a3, Or.inr (Or.inr (Or.inl ⟨hW a a1 a2, k, rfl, rfl⟩))⟩
      · exact Or.inr ⟨c, c1, if_neg k2, c2, c3, Or.inr (Or.inl ⟨hW a a1 a2, k, hW c c1 c2, rfl⟩)⟩
    · have k2 : C.1 200 8 < 3 := by rw [e8]; exact (urg_3 hu).mpr k
      exact Or.inr ⟨a, a1, if_pos k2, a2, a3, Or.inr (Or.inr (Or.inr ⟨hW a a1 a2, k, rfl⟩))⟩
theorem b_copies (he : EN g cf nm A) (hpos : ∀ {n : Int32} {c1 c2 c3 : Nat → Int32} {m : Int32} {s1 s2 s3 : Nat → Int32} {t : Int32}, M n c1 c2 c3 m s1 s2 s3 t → 0 < t) {K : CS → Option CS} {K' : RS → Option RS} {Q : CS → RS → Prop} (hK : ∀ C S, RQ M A cf nd nb nr fe co C S → ok2 (K C) (K' S) Q) :
    ∀ (fu j : Nat) (C : CS) (S : RS), j ≤ co → co - j < fu → RQ M A cf nd nb nr fe co C S → ok2 (gX9_beginCopies_2 g cf nm K fu (nI j) C) (gX10_doCopies_2 K' fu (nI j) S) Q := by
  intro fu
  induction fu with
  | zero => intro j C S hj hf; omega
  | succ fu ih =>
    intro j C S hj hf h
    obtain ⟨W, DL, BT, CT, h⟩ := h
    obtain ⟨⟨t, bl, ms, hst⟩, hM, h1, h2, h3, h4, h5, h6, h7, h8, h9, h10, h11, h12⟩ := id h
    obtain ⟨⟨e1, b1⟩, ⟨e2, b2⟩, ⟨e3, b3⟩, ⟨e7, b7⟩, ⟨e8, b8⟩, e4, e5, hm, hev⟩ := hst.1
    have ec : C.1 200 10 = nI co := h1.1.2.2.2.2.2.2.2.2.2.2.1.trans e8
    rw [gX9_beginCopies_2, gX10_doCopies_2, nI_1 j]
    refine b_ite (by rw [ec, e8]) (fun q _ => hK C S ⟨W, DL, BT, CT, h⟩) (fun q _ => ?_)
    have hjc : j < co := nl ec (by omega) (by omega) q
    have hj3 : j < 3 := by omega
    have hnext := ih (j + 1) C S (by omega) (by omega) ⟨W, DL, BT, CT, h⟩
    have hg := (he.2.2.2.2 j hj3).1
    refine l_ga rfl hj3 (by decide) hg (l_bnd (r_ld rfl hj3 (by decide) (fun y ey => ?_)))
    have hq := h6.2.1 j hj3
    rcases hst.2.1.2.2.2.2.2.2.2.1 j with e | ⟨b, hb, e⟩
    · rw [e, rfI_n] at hq
      refine l_ocn hq (r_t (ey.trans e) (l_ga rfl hj3 (by decide) hg ?_))
      obtain ⟨y5, y10, ey5, ey10, hy⟩ := b_next he h
      refine r_eq ey5 (r_eq ey10 ?_)
      unfold gX9_beginCopy
      rcases hy with ⟨en, rfl, rfl⟩ | ⟨a, a1, en, a4, a5, hc⟩
      · refine r_t rfl (r_t rfl (l_bd (P := fun C' => C' = C) ?_ (fun C' hC' => by subst hC'; exact hnext)))
        exact ok_bd1 (P := fun q => q = none) ⟨_, en, rfl⟩ (fun q9 hq9 => c_ocn hq9 (ok_some rfl))
      · have ha20 : a < 20 := by omega
        obtain ⟨w1, w2, w3⟩ := h7.2.2.2.2.2 a ha20 a4
        obtain ⟨p1, p2⟩ := h7.2.2.2.1 a ha20 a4
        have hw40 : W a < 40 := by omega
        have q128 := h7.2.2.1 a ha20
        rw [if_pos (Or.inr a4)] at q128
        have hu := h1.1.2.2.2.2.2.2.2.2.2.2.2
        have eu : C.1 200 8 = S 0 23 := h1.1.2.2.2.2.2.2.2.2.1
        have hR := Rel_begin (z := urg (S 0 23) (S 11 (W a))) (pg := S 10 (W a)) (q := some (A 2 a)) he h (hpos hM) hjc w1 e a5 (urg_le hu)
        refine l_bd (P := fun C' => C' = wi (wi (wq (wq (wi C 3 (A 1 (W a)) 6) 160 (A 4 j) (some (A 1 (W a)))) 161 (A 4 j) (some (A 2 a))) 162 (A 4 j) (S 10 (W a))) 200 8 (urg (S 0 23) (S 11 (W a)))) ?_ (fun C' hC' => ?_)
        · refine ok_bd1 (P := fun q => q = some (A 2 a)) ⟨_, en, rfl⟩ (fun q9 hq9 => c_ocs hq9 (ok_bnd (c_ocs q128 (ok_bnd (c_sm q128 (ok_bnd (ok_bnd (c_sm q128 ?_))))))))
          refine ok_bd1 (P := fun C' => C' = wi (wq (wq (wi C 3 (A 1 (W a)) 6) 160 (A 4 j) (some (A 1 (W a)))) 161 (A 4 j) (some (A 2 a))) 162 (A 4 j) (S 10 (W a))) ?_ (fun C1 hC1 => ?_)
          · refine ⟨_, rfl, ?_⟩
            show wi (wq (wq (wi C 3 (A 1 (W a)) 6) 160 (A 4 j) (some (A 1 (W a)))) 161 (A 4 j) (some (A 2 a))) 162 (A 4 j) (C.1 130 (A 2 a)) = _
            rw [p1]
          subst hC1
          by_cases k : S 11 (W a) = 0
          · refine ok_t (p2.trans k) (ok_bnd (ok_some ?_))
            rw [show urg (S 0 23) (S 11 (W a)) = 0 from if_pos k]
          · refine ok_f (fun k2 => k (p2.symm.trans k2)) (ok_bnd (ok_bnd (ok_some ?_)))
            show wi _ 200 8 (if 3 < C.1 200 8 + 1 then 3 else C.1 200 8 + 1) = _
            rw [show urg (S 0 23) (S 11 (W a)) = (if S 0 23 + 1 < 3 then S 0 23 + 1 else 3) from if_neg k, eu, urg_c hu]
        subst hC'
        have hgo := ih (j + 1) _ _ (by omega) (by omega) ⟨W, DL, BT, CT, hR⟩
        rcases hc with ⟨rfl, k2, rfl⟩ | ⟨k1, k2, k3, rfl⟩ | ⟨k1, k2, rfl, rfl⟩ | ⟨k1, k2, rfl⟩
        · exact r_t rfl (r_f k2 (r_cb hw40 hj3 hgo))
        · exact r_f k1 (r_t k2 (r_f k3 (r_f k3 (r_cb hw40 hj3 hgo))))
        · exact r_f k1 (r_t k2 (r_t rfl (r_f k1 (r_cb hw40 hj3 hgo))))
        · exact r_f k1 (r_f k2 (r_f k1 (r_cb hw40 hj3 hgo)))
    · rw [e, rfI_s _ (by omega)] at hq
      exact l_ocs hq (r_f (fun k => nI_nm (i := b) (by omega) (e.symm.trans (ey.symm.trans k))) hnext)
end COPIES2
