/-! fetchers, copyists, readers at work -/
section WALK
variable {g : Nat → Nat → Option Nat} {cf : Nat → Nat → Nat} {nm : Nat → Int32} {A : Nat → Nat → Nat} {M : MP} {nd nb nr fe co : Nat} {W : Nat → Nat} {DL BT CT : List Nat} {C : CS} {S : RS} {r b f c : Nat} {v : Int32}
theorem mem_same {s15 : Nat → Int32} {v k : Int32} {l : List Nat} (h0 : ¬ s15 r = k) (hv : ¬ v = k) (h : ∀ a, a ∈ l ↔ a < nr ∧ s15 a = k) : ∀ a, a ∈ l ↔ a < nr ∧ upd s15 r v a = k := fun a => by
  rw [h a]
  by_cases e : a = r
  · subst e
    rw [ua_s]
    exact ⟨fun h9 => absurd h9.2 h0, fun h9 => absurd h9.2 hv⟩
  · rw [ua_n _ _ e]
theorem R7_st {c125 c129 c130 c131 s5 s6 s7 s10 s11 s15 s19 c129' s5' s6' s7' s19' : Nat → Int32} {q128 q128' : Nat → Option Nat} (he : EN g cf nm A) (h : R7 A nb W c125 c129 c130 c131 q128 s5 s6 s7 s10 s11 s15 s19) (hr : r < 20) (hv2 : ¬ v = 2) (hv3 : ¬ v = 3) (hv4 : ¬ v = 4) (hq : q128' (A 2 r) = none) (hq' : ∀ q, q < 20 → q ≠ r → q128' (A 2 q) = q128 (A 2 q)) (k129 : ∀ q, q < 20 → q ≠ r → c129' (A 2 q) = c129 (A 2 q)) (k19 : s19' r = 0) (k19' : ∀ q, q < 20 → q ≠ r → s19' q = s19 q) (k5 : ∀ q, q < 20 → q ≠ r → s15 q = 2 → s7' (W q) = nI q) (k6 : ∀ q, q < 20 → q ≠ r → s15 q = 4 → s6' (W q) = nI q ∧ (s5' (W q) = 5 ∨ s5' (W q) = 6)) : R7 A nb W (upd c125 (A 2 r) v) c129' c130 c131 q128' s5' s6' s7' s10 s11 (upd s15 r v) s19' := by
  obtain ⟨a1, a2, a3, a4, a5, a6⟩ := h
  refine ⟨VW_up a1 (fun i hi e => inj2 he i r hi hr e) v, fun q hq9 => ?_, fun q hq9 => ?_, fun q hq9 h9 => ?_, fun q hq9 h9 => ?_, fun q hq9 h9 => ?_⟩
  · by_cases e : q = r
    · subst e
      rw [ua_s]
      exact ⟨fun h9 => absurd h9 hv3, fun _ => k19⟩
    · rw [ua_n _ _ e, k129 q hq9 e, k19' q hq9 e]
      exact a2 q hq9
  · by_cases e : q = r
    · subst e
      rw [hq, ua_s, if_neg (fun h9 => h9.elim hv2 hv4)]
    · rw [hq' q hq9 e, ua_n _ _ e]
      exact a3 q hq9
  · have e : q ≠ r := fun e => by subst e; rw [ua_s] at h9; exact hv4 h9
    rw [ua_n _ _ e] at h9
    exact a4 q hq9 h9
  · have e : q ≠ r := fun e => by subst e; rw [ua_s] at h9; exact hv2 h9
    rw [ua_n _ _ e] at h9
    exact ⟨(a5 q hq9 h9).1, k5 q hq9 e h9⟩
  · have e : q ≠ r := fun e => by subst e; rw [ua_s] at h9; exact hv4 h9
    rw [ua_n _ _ e] at h9
    exact ⟨(a6 q hq9 h9).1, k6 q hq9 e h9⟩
theorem R9_st {s s5 s6 s7 s8 s9 s11 s15 s18 s30 s32 s5' s6' s7' s30' s32' : Nat → Int32} (h : R9 nb W s s5 s6 s7 s8 s9 s11 s15 s18 s30 s32) (hv2 : ¬ v = 2) (hv4 : ¬ v = 4) (k1 : ∀ x, x < nb → ¬ s6' x = -1 → s7' x = -1) (k2 : ∀ x, x < nb → s5' x = 5 → ¬ s6' x = -1) (k3 : ∀ f x, f < 4 → x < 40 → s30' f = nI x → (s5' x = 3 ∧ ¬ s32' f = -1) ∨ (s5' x = 4 ∧ s32' f = -1)) : R9 nb W s s5' s6' s7' s8 s9 s11 (upd s15 r v) s18 s30' s32' := by
  obtain ⟨a1, a2, a3, a4, T, a5, a6, a7, a8⟩ := h
  refine ⟨k1, k2, k3, a4, T, a5, a6, fun q hq h9 => ?_, fun q hq h9 => ?_⟩
  · have e : q ≠ r := fun e => by subst e; rw [ua_s] at h9; exact hv2 h9
    rw [ua_n _ _ e] at h9
    exact a7 q hq h9
  · have e : q ≠ r := fun e => by subst e; rw [ua_s] at h9; exact hv4 h9
    rw [ua_n _ _ e] at h9
    exact a8 q hq h9
theorem R12_st {s6 s15 s16 : Nat → Int32} (h : R12 nb nr s6 s15 s16) (hr : r < 20) (hv : v = 2 ∨ v = 3 ∨ v = 4 ∨ v = 8) (hv0 : ¬ (v = 0 ∨ v = 1)) : R12 nb nr s6 (upd s15 r v) s16 := by
  refine ⟨fun b q hb hq h9 => ?_, fun q hq h9 => ?_⟩
  · by_cases e : q = r
    · subst e
      rw [ua_s]
      exact hv
    · rw [ua_n _ _ e]
      exact h.1 b q hb hq h9
  · by_cases e : q = r
    · subst e
      rw [ua_s] at h9
      exact absurd h9 hv0
    · rw [ua_n _ _ e] at h9
      exact h.2 q hq h9
theorem R12_hs {s6 s15 s16 : Nat → Int32} (h : R12 nb nr s6 s15 s16) (hr : r < 20) (e : s15 r = 2 ∨ s15 r = 3 ∨ s15 r = 4 ∨ s15 r = 8) : R12 nb nr (upd s6 b (nI r)) s15 s16 := by
  refine ⟨fun x q hx hq h9 => ?_, h.2⟩
  by_cases e2 : x = b
  · subst e2
    rw [ua_s] at h9
    obtain rfl := nI_inj (by omega) (by omega) h9
    exact e
  · rw [ua_n _ _ e2] at h9
    exact h.1 x q hx hq h9
theorem R12_no {s6 s15 s16 : Nat → Int32} (h : R12 nb nr s6 s15 s16) (b : Nat) : R12 nb nr (upd s6 b (-1)) s15 s16 := by
  refine ⟨fun x q hx hq h9 => ?_, h.2⟩
  by_cases e2 : x = b
  · subst e2
    rw [ua_s] at h9
    exact absurd h9.symm (nI_nm (by omega))
  · rw [ua_n _ _ e2] at h9
    exact h.1 x q hx hq h9
/-- a fetcher's way shortens -/
theorem Rel_stepF (he : EN g cf nm A) (h : Rel M A cf nd nb nr fe co W DL BT CT C S) (hf : f < 4) (e : ¬ S 30 f = -1) (v : Int32) : Rel M A cf nd nb nr fe co W DL BT CT (wi C 162 (A 3 f) v) (wr S 31 f v) := by
  obtain ⟨h0, hM, h1, h2, h3, h4, h5, ⟨a1, a2, a3, a4⟩, h7⟩ := h
  refine ⟨h0, hM, h1, h2, h3, h4, R5_fr h5 (fun x => by simp only [wi, wq, kp, ln, rls, va_p1, wr_pl, Nat.reduceLT]) rfl rfl rfl, ⟨a1, a2, fun x hx => ?_, fun x hx => ?_⟩, h7⟩
  · show (¬ S 30 x = -1 → C.2 161 (A 3 x) = rfI (A 2) (S 32 x) ∧ upd (C.1 162) (A 3 f) v (A 3 x) = upd (S 31) f v x) ∧ (S 30 x = -1 → upd (C.1 162) (A 3 f) v (A 3 x) = 0)
    by_cases e2 : x = f
    · subst e2
      rw [ua_s, ua_s]
      exact ⟨fun h9 => ⟨((a3 x hx).1 h9).1, rfl⟩, fun h9 => absurd h9 e⟩
    · rw [ua_n _ _ e2, ua_n _ _ (fun h9 => e2 (inj3 he x f hx hf h9))]
      exact a3 x hx
  · show (¬ S 33 x = -1 → upd (C.1 162) (A 3 f) v (A 4 x) = S 34 x) ∧ (S 33 x = -1 → upd (C.1 162) (A 3 f) v (A 4 x) = 0)
    rw [ua_n _ _ (fun h9 => inj34 he f x hf hx h9.symm)]
    exact a4 x hx
theorem Rel_stepC (he : EN g cf nm A) (h : Rel M A cf nd nb nr fe co W DL BT CT C S) (hc : c < 3) (e : ¬ S 33 c = -1) (v : Int32) : Rel M A cf nd nb nr fe co W DL BT CT (wi C 162 (A 4 c) v) (wr S 34 c v) := by
  obtain ⟨h0, hM, h1, h2, h3, h4, h5, ⟨a1, a2, a3, a4⟩, h7⟩ := h
  refine ⟨h0, hM, h1, h2, h3, h4, R5_fr h5 (fun x => by simp only [wi, wq, kp, ln, rls, va_p1, wr_pl, Nat.reduceLT]) rfl rfl rfl, ⟨a1, a2, fun x hx => ?_, fun x hx => ?_⟩, h7⟩
  · show (¬ S 30 x = -1 → C.2 161 (A 3 x) = rfI (A 2) (S 32 x) ∧ upd (C.1 162) (A 4 c) v (A 3 x) = S 31 x) ∧ (S 30 x = -1 → upd (C.1 162) (A 4 c) v (A 3 x) = 0)
    rw [ua_n _ _ (inj34 he x c hx hc)]
    exact a3 x hx
  · show (¬ S 33 x = -1 → upd (C.1 162) (A 4 c) v (A 4 x) = upd (S 34) c v x) ∧ (S 33 x = -1 → upd (C.1 162) (A 4 c) v (A 4 x) = 0)
    by_cases e2 : x = c
    · subst e2
      rw [ua_s, ua_s]
      exact ⟨fun _ => rfl, fun h9 => absurd h9 e⟩
    · rw [ua_n _ _ e2, ua_n _ _ (fun h9 => e2 (inj4 he x c hx hc h9))]
      exact a4 x hx
/-- a box brought to who asked for it -/
theorem Rel_given (he : EN g cf nm A) (h : Rel M A cf nd nb nr fe co W DL BT CT C S) (hf : f < 4) (hb : b < 40) (hr : r < 20) (e : S 30 f = nI b) (et : S 7 b = nI r) {f1 : Nat → Option Nat} (hf1 : LF (A 2) (rmv BT r) f1) {v : Int32} (hv : ∃ e, e ≤ 400 ∧ v = nI e) (fe9 : Nat → Int32) : Rel M A cf nd nb nr fe co W DL (rmv BT r) CT (rls (kp (wi (wq (wi (wq (wq (ln C 206 12 f1 (rmv BT r).length) 5 (A 1 b) none) 4 (A 1 b) (some (A 2 r))) 3 (A 1 b) 1) 128 (A 2 r) none) 125 (A 2 r) 8) v fe9) (A 3 f)) (wr (wr (wr (wr (wr S 30 f (-1)) 7 b (-1)) 5 b 1) 6 b (nI r)) 15 r 8) := by
  obtain ⟨⟨t, bl, ms, hst⟩, hM, h1, h2, h3, h4, h5, h6, h7, h8, h9, h10, h11, h12⟩ := h
  have b2 := hst.1.2.1.2
  have b3 := hst.1.2.2.1.2
  have hJ := hst.2.2
  have hR := hst.2.1
  obtain ⟨hbx, hp⟩ := hJ.2.2.2.2.2.2.2.1 f b hf hb e
  have s2 : S 15 r = 2 := hJ.2.2.1 b r hbx hr et
  refine ⟨⟨t, bl, ms, hst.1, R_hs (R_tk (R_fB hR (Or.inl rfl)) (Or.inl rfl)) (Or.inr ⟨r, hr, rfl⟩), J_brings hJ hf hb hr e et⟩, hM, ⟨h1.1, hv⟩, h2, R3_hs he (R3_tk he (R3_pl he h3 hbx b2 1) hbx b2 (rfI_n _).symm) hbx b2 (rfI_s _ (by omega)).symm, h4, R5_fr h5 (fun x => by simp only [wi, wq, kp, ln, rls, va_p1, wr_pl, Nat.reduceLT]) rfl rfl rfl, R6_rF he h6 hf (fun _ _ => rfl), R7_st he h7 hr (by decide) (by decide) (by decide) (va_up_self _ _ _) (fun q hq hne => va_up_ne _ _ (fun k => hne (inj2 he q r hq hr k))) (fun _ _ _ => rfl) ((h7.2.1 r hr).2 (by rw [s2]; decide)) (fun _ _ _ => rfl) (fun q hq hne k => ?_) (fun q hq hne k => ?_), ?_, R9_st h9 (by decide) (by decide) (fun x hx k => ?_) (fun x hx k => ?_) (fun f' x hf' hx k => ?_), R10_F h10 f, R11_up h11 r ⟨8, by omega, rfl⟩, R12_hs (R12_st h12 hr (Or.inr (Or.inr (Or.inr rfl))) (by decide)) hr (Or.inr (Or.inr (Or.inr (ua_s _ _ _))))⟩
  · obtain ⟨w1, w2⟩ := h7.2.2.2.2.1 q hq k
    have hne2 : W q ≠ b := fun k2 => hne (nI_inj (by omega) (by omega) (w2.symm.trans ((congrArg (S 7) k2).trans et)))
    exact (ua_n _ _ hne2).trans w2
  · obtain ⟨w1, w2, w3⟩ := h7.2.2.2.2.2 q hq k
    have hne2 : W q ≠ b := fun k2 => by
      rw [k2] at w3
      rcases hp with k3 | k3 <;> (rw [k3] at w3; exact absurd w3 (by decide))
    exact ⟨(ua_n _ _ hne2).trans w2, by
      have k3 : upd (S 5) b 1 (W q) = S 5 (W q) := ua_n _ _ hne2
      exact w3.elim (fun w => Or.inl (k3.trans w)) (fun w => Or.inr (k3.trans w))⟩
  · obtain ⟨⟨a1, a2, a3⟩, ⟨⟨_, c2, _⟩, c4, c5⟩, ⟨d1, d2, d3⟩⟩ := h8
    exact ⟨⟨a1, mem_same (fun e => absurd (s2.symm.trans e) (by decide)) (by decide) a2, a3⟩, ⟨⟨rfl, Nat.le_trans (rmv_len _ _) c2, hf1⟩, mem_gone (by decide) c4, rmv_pw c5 r⟩, ⟨d1, mem_same (fun e => absurd (s2.symm.trans e) (by decide)) (by decide) d2, d3⟩⟩
  · by_cases e2 : x = b
    · subst e2
      exact ua_s _ _ _
    · exact (ua_n _ _ e2).trans (h9.1 x hx (fun k2 => k ((ua_n _ _ e2).trans k2)))
  · by_cases e2 : x = b
    · subst e2
      exact absurd ((ua_s (S 5) x 1).symm.trans k) (by decide)
    · exact fun k2 => h9.2.1 x hx ((ua_n _ _ e2).symm.trans k) ((ua_n _ _ e2).symm.trans k2)
  · by_cases e9 : f' = f
    · subst e9
      exact absurd ((ua_s (S 30) f' (-1)).symm.trans k) (fun q => nI_nm (by omega) q.symm)
    · have h' : S 30 f' = nI x := (ua_n (S 30) (-1) e9).symm.trans k
      have hne : x ≠ b := fun q => e9 (hJ.2.2.2.2.2.2.2.2.1 f' f b hf' hf hb (q ▸ h') e)
      have k3 : upd (S 5) b 1 x = S 5 x := ua_n _ _ hne
      rcases h9.2.2.1 f' x hf' hx h' with ⟨w1, w2⟩ | ⟨w1, w2⟩
      · exact Or.inl ⟨k3.trans w1, w2⟩
      · exact Or.inr ⟨k3.trans w1, w2⟩
end WALK
