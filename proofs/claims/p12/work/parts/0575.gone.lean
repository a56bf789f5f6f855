/-! a reader goes: the class's depart beside the reference's sentAway -/
section GONE
variable {g : Nat → Nat → Option Nat} {cf : Nat → Nat → Nat} {nm : Nat → Int32} {A : Nat → Nat → Nat} {M : MP} {nd nb nr fe co : Nat} {W : Nat → Nat} {DL BT CT : List Nat} {C : CS} {S : RS} {r : Nat}
theorem g_drop (he : EN g cf nm A) (hr : r < 20) (hBl : ∀ a, a ∈ BT → a < 20) (hCl : ∀ a, a ∈ CT → a < 20) (hB : LN (A 2) C 206 12 BT) (hC : LN (A 2) C 207 13 CT) {s7 : Nat → Int32} (hnb : nb ≤ 40) (hq5 : VQ (A 2) (A 1) nb (C.2 5) s7) (ho : ∀ i, oi 20 (s7 i)) (hx : (C.2 128 (A 2 r) = none ∧ ∀ b, b < nb → ¬ s7 b = nI r) ∨ ∃ w, w < nb ∧ C.2 128 (A 2 r) = some (A 1 w) ∧ ∀ b, b < nb → b ≠ w → ¬ s7 b = nI r) : ok (gX9_dropTickets g cf nm C (A 2 r)) (fun C' => ∃ f1 f2 q5, LF (A 2) (rmv BT r) f1 ∧ LF (A 2) (rmv CT r) f2 ∧ VQ (A 2) (A 1) nb q5 (fun b => if s7 b = nI r then -1 else s7 b) ∧ (∀ b, nb ≤ b → b < 40 → q5 (A 1 b) = C.2 5 (A 1 b)) ∧ C' = (wr (wr C.1 200 12 (nI (rmv BT r).length)) 200 13 (nI (rmv CT r).length), va_up (va_up (va_up (va_up C.2 206 f1) 207 f2) 5 q5) 128 (va_up (C.2 128) (A 2 r) none))) := by
  unfold gX9_dropTickets
  refine ok_bd1 (g_rem1 (fun a ha e => inj2 he a r (hBl a ha) hr e) hB) (fun C1 h1 => ?_)
  obtain ⟨f1, hf1, rfl⟩ := h1
  refine ok_bd1 (g_rem2 (l := CT) (fun a ha e => inj2 he a r (hCl a ha) hr e) hC) (fun C2 h2 => ?_)
  obtain ⟨f2, hf2, rfl⟩ := h2
  refine ok_bnd ?_
  have hkeep : (∀ b, b < nb → ¬ s7 b = nI r) → VQ (A 2) (A 1) nb (C.2 5) (fun b => if s7 b = nI r then -1 else s7 b) := fun h b hb => by
    show _ = rfI (A 2) (if s7 b = nI r then -1 else s7 b)
    rw [if_neg (h b hb)]
    exact hq5 b hb
  have hsame : ∀ X : QS, X 5 = C.2 5 → va_up X 5 (C.2 5) = X := fun X h => by
    rw [← h]
    exact va_id X 5
  rcases hx with ⟨hx, hn⟩ | ⟨w, hw, hx, hn⟩
  · refine c_ocn hx (ok_bnd (ok_some ⟨f1, f2, C.2 5, hf1, hf2, hkeep hn, fun _ _ _ => rfl, ?_⟩))
    rw [hsame (va_up (va_up C.2 206 f1) 207 f2) rfl]
    rfl
  · refine c_ocs hx (ok_bnd ?_)
    have hw5 := hq5 w hw
    have hiff := rfI_e (m := A 2) (ho w) (by decide) hr (fun i k hi hk e => inj2 he i k hi hk e)
    rw [← hw5] at hiff
    refine ok_ite (fun c => ok_bnd (ok_bnd (ok_some ⟨f1, f2, va_up (C.2 5) (A 1 w) none, hf1, hf2, fun b hb => ?_, fun b hb hb4 => va_up_ne _ _ (fun e => ?_), rfl⟩))) (fun c => ok_bnd (ok_some ⟨f1, f2, C.2 5, hf1, hf2, hkeep (fun b hb => ?_), fun _ _ _ => rfl, ?_⟩))
    · show _ = rfI (A 2) (if s7 b = nI r then -1 else s7 b)
      by_cases e : b = w
      · subst e
        rw [va_up_self, if_pos (hiff.mp c), rfI_n]
      · rw [va_up_ne _ _ (fun h9 => e (inj1 he b w (by omega) (by omega) h9)), if_neg (hn b hb e)]
        exact hq5 b hb
    · have := inj1 he b w hb4 (by omega) e
      omega
    · by_cases e : b = w
      · subst e
        exact fun h9 => c (hiff.mpr h9)
      · exact hn b hb e
    · rw [hsame (va_up (va_up C.2 206 f1) 207 f2) rfl]
      rfl
/-- the loop over the boxes -/
theorem g_dep15 (he : EN g cf nm A) (hr : r < 20) (hnb : nb ≤ 40) {v : Int32} {C0 : CS} (e2 : C0.1 200 1 = nI nb) {K : Nat → Int32 → CS → Option CS} {P : CS → Prop}
    (hK : ∀ i3 q4, (∀ b, b < nb → q4 (A 1 b) = if C0.2 4 (A 1 b) = some (A 2 r) then none else C0.2 4 (A 1 b)) → (∀ b, b < nb → i3 (A 1 b) = if C0.2 4 (A 1 b) = some (A 2 r) ∧ ¬ C0.1 3 (A 1 b) = 6 then 2 else C0.1 3 (A 1 b)) → (∀ b, nb ≤ b → b < 40 → q4 (A 1 b) = C0.2 4 (A 1 b) ∧ i3 (A 1 b) = C0.1 3 (A 1 b)) → ok (K (A 2 r) v (va_up C0.1 3 i3, va_up C0.2 4 q4)) P) :
    ∀ (fu j : Nat) (i3 : Nat → Int32) (q4 : Nat → Option Nat), j ≤ nb → nb - j < fu → (∀ b, b < j → q4 (A 1 b) = if C0.2 4 (A 1 b) = some (A 2 r) then none else C0.2 4 (A 1 b)) → (∀ b, b < j → i3 (A 1 b) = if C0.2 4 (A 1 b) = some (A 2 r) ∧ ¬ C0.1 3 (A 1 b) = 6 then 2 else C0.1 3 (A 1 b)) → (∀ b, j ≤ b → b < 40 → q4 (A 1 b) = C0.2 4 (A 1 b) ∧ i3 (A 1 b) = C0.1 3 (A 1 b)) → ok (gX9_depart_15 g cf nm K fu (A 2 r) v (nI j) (va_up C0.1 3 i3, va_up C0.2 4 q4)) P := by
  intro fu
  induction fu with
  | zero => intro j i3 q4 hj hf; omega
  | succ fu ih =>
    intro j i3 q4 hj hf h4 h3 hs
    rw [gX9_depart_15, nI_1 j]
    refine ok_ite (fun c => ?_) (fun c => ?_)
    · have hjb : j = nb := by
        have := (nI_leI (a := nb) (b := j) (by omega) (by omega)).mp (e2 ▸ c)
        omega
      subst hjb
      exact hK i3 q4 h4 h3 hs
    have hjb : j < nb := nl e2 (by omega) (by omega) c
    obtain ⟨s4, s3⟩ := hs j (Nat.le_refl _) (by omega)
    have hne : ∀ b, b < 40 → b ≠ j → A 1 b ≠ A 1 j := fun b hb e h9 => e (inj1 he b j hb (by omega) h9)
    refine c_ga rfl (by omega) (by decide) (he.2.1 j (by omega)).1 (ok_bnd (ok_ite (fun c2 => ok_bnd ?_) (fun c2 => ?_)))
    · have c2' : C0.2 4 (A 1 j) = some (A 2 r) := s4.symm.trans c2
      have hq : ∀ b, b < j + 1 → va_up q4 (A 1 j) none (A 1 b) = if C0.2 4 (A 1 b) = some (A 2 r) then none else C0.2 4 (A 1 b) := fun b hb => by
        by_cases e : b = j
        · subst e
          rw [va_up_self, if_pos c2']
        · rw [va_up_ne _ _ (hne b (by omega) e)]
          exact h4 b (by omega)
      have hq2 : ∀ b, j + 1 ≤ b → b < 40 → va_up q4 (A 1 j) none (A 1 b) = C0.2 4 (A 1 b) := fun b hb hb4 => by
        rw [va_up_ne _ _ (hne b hb4 (by omega))]
        exact (hs b (by omega) hb4).1
      refine ok_ite (fun c3 => ?_) (fun c3 => ok_bnd ?_)
      · have c3' : C0.1 3 (A 1 j) = 6 := s3.symm.trans c3
        have hgo := ih (j + 1) i3 (va_up q4 (A 1 j) none) (by omega) (by omega) hq (fun b hb => ?_) (fun b hb hb4 => ⟨hq2 b hb hb4, (hs b (by omega) hb4).2⟩)
        · refine Eq.mp ?_ hgo
          refine congrArg (fun x => ok (gX9_depart_15 g cf nm K fu (A 2 r) v (nI (j + 1)) (va_up C0.1 3 i3, x)) P) ?_
          funext k
          by_cases e : k = 4
          · subst e
            rw [va_up_self]
            exact (va_up_self _ _ _).symm
          · rw [va_up_ne _ _ e]
            exact ((va_up_ne _ _ e).trans (va_up_ne _ _ e)).symm
        · by_cases e : b = j
          · subst e
            rw [s3, if_neg (fun h9 => h9.2 c3')]
          · exact h3 b (by omega)
      · have c3' : ¬ C0.1 3 (A 1 j) = 6 := fun h9 => c3 (s3.trans h9)
        have hgo := ih (j + 1) (upd i3 (A 1 j) 2) (va_up q4 (A 1 j) none) (by omega) (by omega) hq (fun b hb => ?_) (fun b hb hb4 => ⟨hq2 b hb hb4, ?_⟩)
        · refine Eq.mp ?_ hgo
          refine congrArg (fun x => ok (gX9_depart_15 g cf nm K fu (A 2 r) v (nI (j + 1)) x) P) ?_
          refine Prod.ext ?_ ?_
          · funext k
            by_cases e : k = 3
            · subst e
              show va_up C0.1 3 (upd i3 (A 1 j) 2) 3 = wr (va_up C0.1 3 i3) 3 (A 1 j) 2 3
              rw [va_up_self, wr_s, va_up_self]
            · show va_up C0.1 3 (upd i3 (A 1 j) 2) k = wr (va_up C0.1 3 i3) 3 (A 1 j) 2 k
              rw [wr_n _ _ _ _ e, va_up_ne _ _ e, va_up_ne _ _ e]
          · funext k
            show va_up C0.2 4 (va_up q4 (A 1 j) none) k = va_up (va_up C0.2 4 q4) 4 (va_up (va_up C0.2 4 q4 4) (A 1 j) none) k
            by_cases e : k = 4
            · subst e
              rw [va_up_self, va_up_self, va_up_self]
            · rw [va_up_ne _ _ e, va_up_ne _ _ e, va_up_ne _ _ e]
        · by_cases e : b = j
          · subst e
            rw [ua_s, if_pos ⟨c2', c3'⟩]
          · rw [ua_n _ _ (hne b (by omega) e)]
            exact h3 b (by omega)
        · rw [ua_n _ _ (hne b hb4 (by omega))]
          exact (hs b (by omega) hb4).2
    · have c2' : ¬ C0.2 4 (A 1 j) = some (A 2 r) := fun h9 => c2 (s4.trans h9)
      refine ih (j + 1) i3 q4 (by omega) (by omega) (fun b hb => ?_) (fun b hb => ?_) (fun b hb hb4 => hs b (by omega) hb4)
      · by_cases e : b = j
        · subst e
          rw [s4, if_neg c2']
        · exact h4 b (by omega)
      · by_cases e : b = j
        · subst e
          rw [s3, if_neg (fun h9 => c2' h9.1)]
        · exact h3 b (by omega)
theorem mem_gone {s15 : Nat → Int32} {v k : Int32} {l : List Nat} (hv : ¬ v = k) (h : ∀ a, a ∈ l ↔ a < nr ∧ s15 a = k) : ∀ a, a ∈ rmv l r ↔ a < nr ∧ upd s15 r v a = k := fun a => by
  rw [mem_rmv, h a]
  by_cases e : a = r
  · subst e
    rw [ua_s]
    exact ⟨fun h9 => absurd rfl h9.2, fun h9 => absurd h9.2 hv⟩
  · rw [ua_n _ _ e]
    exact ⟨fun h9 => h9.1, fun h9 => ⟨h9, e⟩⟩
theorem R7_gone {c125 c129 c130 c131 s5 s6 s7 s10 s11 s15 s19 s5' s6' s7' : Nat → Int32} {q128 : Nat → Option Nat} {v : Int32} (he : EN g cf nm A) (h : R7 A nb W c125 c129 c130 c131 q128 s5 s6 s7 s10 s11 s15 s19) (hr : r < 20) (hv2 : ¬ v = 2) (hv3 : ¬ v = 3) (hv4 : ¬ v = 4) (e7 : ∀ b, b < nb → s7' b = if s7 b = nI r then -1 else s7 b) (e6 : ∀ b, b < nb → s6' b = if s6 b = nI r then -1 else s6 b) (e5 : ∀ b, b < nb → s5' b = if s6 b = nI r ∧ ¬ s5 b = 6 then 2 else s5 b) : R7 A nb W (upd c125 (A 2 r) v) c129 c130 c131 (va_up q128 (A 2 r) none) s5' s6' s7' s10 s11 (upd s15 r v) (upd s19 r 0) := by
  obtain ⟨a1, a2, a3, a4, a5, a6⟩ := h
  refine ⟨VW_up a1 (fun i hi e => inj2 he i r hi hr e) v, fun q hq => ?_, fun q hq => ?_, fun q hq h9 => ?_, fun q hq h9 => ?_, fun q hq h9 => ?_⟩
  · by_cases e : q = r
    · subst e
      rw [ua_s, ua_s]
      exact ⟨fun h9 => absurd h9 hv3, fun _ => rfl⟩
    · rw [ua_n _ _ e, ua_n _ _ e]
      exact a2 q hq
  · by_cases e : q = r
    · subst e
      rw [va_up_self, ua_s, if_neg (fun h9 => h9.elim hv2 hv4)]
    · rw [va_up_ne _ _ (fun h9 => e (inj2 he q r hq hr h9)), ua_n _ _ e]
      exact a3 q hq
  · have e : q ≠ r := fun e => by subst e; rw [ua_s] at h9; exact hv4 h9
    rw [ua_n _ _ e] at h9
    exact a4 q hq h9
  · have e : q ≠ r := fun e => by subst e; rw [ua_s] at h9; exact hv2 h9
    rw [ua_n _ _ e] at h9
    obtain ⟨b1, b2⟩ := a5 q hq h9
    refine ⟨b1, ?_⟩
    rw [e7 _ b1, if_neg (fun h8 => e (nI_inj (by omega) (by omega) (b2.symm.trans h8)))]
    exact b2
  · have e : q ≠ r := fun e => by subst e; rw [ua_s] at h9; exact hv4 h9
    rw [ua_n _ _ e] at h9
    obtain ⟨b1, b2, b3⟩ := a6 q hq h9
    have hne : ¬ s6 (W q) = nI r := fun h8 => e (nI_inj (by omega) (by omega) (b2.symm.trans h8))
    refine ⟨b1, ?_, ?_⟩
    · rw [e6 _ b1, if_neg hne]
      exact b2
    · rw [e5 _ b1, if_neg (fun h8 => hne h8.1)]
      exact b3
theorem R8_gone {c c' s8 s9 s12 s13 s15 : Nat → Int32} {q5 q6 q7 f0 f1 f2 : Nat → Option Nat} {v : Int32} (h : R8 A nr W DL BT CT c q5 q6 q7 s8 s9 s12 s13 s15) (hv1 : ¬ v = 1) (hv2 : ¬ v = 2) (hv4 : ¬ v = 4) (k0 : c' 11 = nI (rmv DL r).length) (k1 : c' 12 = nI (rmv BT r).length) (k2 : c' 13 = nI (rmv CT r).length) (l0 : LF (A 2) (rmv DL r) f0) (l1 : LF (A 2) (rmv BT r) f1) (l2 : LF (A 2) (rmv CT r) f2) : R8 A nr W (rmv DL r) (rmv BT r) (rmv CT r) c' f0 f1 f2 s8 s9 s12 s13 (upd s15 r v) := by
  obtain ⟨⟨⟨_, a2, _⟩, a4, a5⟩, ⟨⟨_, b2, _⟩, b4, b5⟩, ⟨⟨_, d2, _⟩, d4, d5⟩⟩ := h
  exact ⟨⟨⟨k0, Nat.le_trans (rmv_len _ _) a2, l0⟩, mem_gone hv1 a4, rmv_pw a5 r⟩, ⟨⟨k1, Nat.le_trans (rmv_len _ _) b2, l1⟩, mem_gone hv2 b4, rmv_pw b5 r⟩, ⟨⟨k2, Nat.le_trans (rmv_len _ _) d2, l2⟩, mem_gone hv4 d4, rmv_pw d5 r⟩⟩
theorem R9_gone {s s5 s6 s7 s8 s9 s11 s15 s18 s30 s32 s5' s6' s7' : Nat → Int32} {v : Int32} (h : R9 nb W s s5 s6 s7 s8 s9 s11 s15 s18 s30 s32) (hnb : nb ≤ 40) (hv2 : ¬ v = 2) (hv4 : ¬ v = 4) (hfb : ∀ f b, f < 4 → b < 40 → s30 f = nI b → b < nb ∧ ¬ s6 b = nI r) (e7 : ∀ b, b < nb → s7' b = if s7 b = nI r then -1 else s7 b) (e6 : ∀ b, b < nb → s6' b = if s6 b = nI r then -1 else s6 b) (e5 : ∀ b, b < nb → s5' b = if s6 b = nI r ∧ ¬ s5 b = 6 then 2 else s5 b) : R9 nb W s s5' s6' s7' s8 s9 s11 (upd s15 r v) s18 s30 s32 := by
  obtain ⟨a1, a2, a3, a4, T, a5, a6, a7, a8⟩ := h
  refine ⟨fun b hb h9 => ?_, fun b hb h9 => ?_, fun f b hf hb h9 => ?_, a4, T, a5, a6, fun q hq h9 => ?_, fun q hq h9 => ?_⟩
  · rw [e6 b hb] at h9
    have h8 : ¬ s6 b = -1 := fun e => h9 (by
      by_cases e9 : s6 b = nI r
      · rw [if_pos e9]
      · rw [if_neg e9]; exact e)
    rw [e7 b hb, a1 b hb h8]
    by_cases e9 : (-1 : Int32) = nI r
    · rw [if_pos e9]
    · rw [if_neg e9]
  · rw [e5 b hb] at h9
    by_cases e9 : s6 b = nI r ∧ ¬ s5 b = 6
    · rw [if_pos e9] at h9
      exact absurd h9 (by decide)
    · rw [if_neg e9] at h9
      have h6 : ¬ s6 b = nI r := fun e => e9 ⟨e, by rw [h9]; decide⟩
      rw [e6 b hb, if_neg h6]
      exact a2 b hb h9
  · obtain ⟨hb2, h6⟩ := hfb f b hf hb h9
    rw [e5 b hb2, if_neg (fun h8 => h6 h8.1)]
    exact a3 f b hf hb h9
  · have e : q ≠ r := fun e => by subst e; rw [ua_s] at h9; exact hv2 h9
    rw [ua_n _ _ e] at h9
    exact a7 q hq h9
  · have e : q ≠ r := fun e => by subst e; rw [ua_s] at h9; exact hv4 h9
    rw [ua_n _ _ e] at h9
    exact a8 q hq h9
end GONE
