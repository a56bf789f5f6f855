/-! single cells of both; workers stopped -/
section PL
variable {g : Nat → Nat → Option Nat} {cf : Nat → Nat → Nat} {nm : Nat → Int32} {A : Nat → Nat → Nat} {M : MP} {nd nb nr fe co : Nat} {W : Nat → Nat} {DL BT CT : List Nat} {C : CS} {S : RS} {b f c : Nat} {v : Int32}
theorem R7_pl {c125 c129 c130 c131 s5 s6 s7 s10 s11 s15 s19 : Nat → Int32} {q128 : Nat → Option Nat} (h : R7 A nb W c125 c129 c130 c131 q128 s5 s6 s7 s10 s11 s15 s19) (hv : ∀ r, r < 20 → s15 r = 4 → W r = b → v = 5 ∨ v = 6) : R7 A nb W c125 c129 c130 c131 q128 (upd s5 b v) s6 s7 s10 s11 s15 s19 := by
  obtain ⟨a1, a2, a3, a4, a5, a6⟩ := h
  refine ⟨a1, a2, a3, a4, a5, fun r hr h9 => ?_⟩
  obtain ⟨k1, k2, k3⟩ := a6 r hr h9
  refine ⟨k1, k2, ?_⟩
  by_cases e : W r = b
  · rw [e, ua_s]; exact hv r hr h9 e
  · rw [ua_n _ _ e]; exact k3
theorem R3_pl {c1 c2 c3 s3 s4 s5 s6 s7 : Nat → Int32} {q4 q5 : Nat → Option Nat} (he : EN g cf nm A) (h : R3 A nb c1 c2 c3 q4 q5 s3 s4 s5 s6 s7) (hb : b < nb) (hnb : nb ≤ 40) (v : Int32) : R3 A nb c1 c2 (upd c3 (A 1 b) v) q4 q5 s3 s4 (upd s5 b v) s6 s7 :=
  ⟨h.1, h.2.1, VW_up h.2.2.1 (fun i hi e => inj1 he i b hi (by omega) e) v, h.2.2.2.1, h.2.2.2.2.1, fun i hi hi4 => by
    obtain ⟨z1, z2, z3⟩ := h.2.2.2.2.2 i hi hi4
    exact ⟨z1, z2, by rw [ua_n _ _ (by omega)]; exact z3⟩⟩
theorem R3_tk {c1 c2 c3 s3 s4 s5 s6 s7 : Nat → Int32} {q4 q5 : Nat → Option Nat} (he : EN g cf nm A) (h : R3 A nb c1 c2 c3 q4 q5 s3 s4 s5 s6 s7) (hb : b < nb) (hnb : nb ≤ 40) {z : Option Nat} (hz : z = rfI (A 2) v) : R3 A nb c1 c2 c3 q4 (va_up q5 (A 1 b) z) s3 s4 s5 s6 (upd s7 b v) :=
  ⟨h.1, h.2.1, h.2.2.1, h.2.2.2.1, VQ_up h.2.2.2.2.1 (fun i hi e => inj1 he i b (by omega) (by omega) e) hz, fun i hi hi4 => by
    obtain ⟨z1, z2, z3⟩ := h.2.2.2.2.2 i hi hi4
    exact ⟨z1, (va_up_ne _ _ (fun e => by have := inj1 he i b hi4 (by omega) e; omega)).trans z2, z3⟩⟩
theorem R3_hs {c1 c2 c3 s3 s4 s5 s6 s7 : Nat → Int32} {q4 q5 : Nat → Option Nat} (he : EN g cf nm A) (h : R3 A nb c1 c2 c3 q4 q5 s3 s4 s5 s6 s7) (hb : b < nb) (hnb : nb ≤ 40) {z : Option Nat} (hz : z = rfI (A 2) v) : R3 A nb c1 c2 c3 (va_up q4 (A 1 b) z) q5 s3 s4 s5 (upd s6 b v) s7 :=
  ⟨h.1, h.2.1, h.2.2.1, VQ_up h.2.2.2.1 (fun i hi e => inj1 he i b (by omega) (by omega) e) hz, h.2.2.2.2.1, fun i hi hi4 => by
    obtain ⟨z1, z2, z3⟩ := h.2.2.2.2.2 i hi hi4
    exact ⟨(va_up_ne _ _ (fun e => by have := inj1 he i b hi4 (by omega) e; omega)).trans z1, z2, z3⟩⟩
theorem R9_pl {s s5 s6 s7 s8 s9 s11 s15 s18 s30 s32 s30' s32' : Nat → Int32} (h : R9 nb W s s5 s6 s7 s8 s9 s11 s15 s18 s30 s32) (h5 : v = 5 → ¬ s6 b = -1) (hf : ∀ f x, f < 4 → x < 40 → s30' f = nI x → (x = b ∧ ((v = 3 ∧ ¬ s32' f = -1) ∨ (v = 4 ∧ s32' f = -1))) ∨ (x ≠ b ∧ s30 f = nI x ∧ s32' f = s32 f)) : R9 nb W s (upd s5 b v) s6 s7 s8 s9 s11 s15 s18 s30' s32' := by
  obtain ⟨a1, a2, a3, rest⟩ := h
  refine ⟨a1, fun x hx h9 => ?_, fun f x hf4 hx h9 => ?_, rest⟩
  · by_cases e : x = b
    · subst e
      rw [ua_s] at h9
      exact h5 h9
    · rw [ua_n _ _ e] at h9
      exact a2 x hx h9
  · rcases hf f x hf4 hx h9 with ⟨rfl, k⟩ | ⟨e, k1, k2⟩
    · rw [ua_s]
      exact k
    · rw [ua_n _ _ e, k2]
      exact a3 f x hf4 hx k1
theorem R6_rF {c162 s30 s31 s32 s33 s34 s31' : Nat → Int32} {q160 q161 : Nat → Option Nat} (he : EN g cf nm A) (h : R6 A c162 q160 q161 s30 s31 s32 s33 s34) (hf : f < 4) (h31 : ∀ x, x ≠ f → s31' x = s31 x) : R6 A (upd c162 (A 3 f) 0) (va_up q160 (A 3 f) none) (va_up q161 (A 3 f) none) (upd s30 f (-1)) s31' s32 s33 s34 := by
  obtain ⟨a1, a2, a3, a4⟩ := h
  refine ⟨VQ_up a1 (fun i hi e => inj3 he i f hi hf e) (rfI_n _).symm, fun x hx => ?_, fun x hx => ?_, fun x hx => ?_⟩
  · rw [va_up_ne _ _ (fun e => inj34 he f x hf hx e.symm)]
    exact a2 x hx
  · by_cases e : x = f
    · subst e
      rw [ua_s, ua_s]
      exact ⟨fun h9 => absurd rfl h9, fun _ => rfl⟩
    · have hne : A 3 x ≠ A 3 f := fun h9 => e (inj3 he x f hx hf h9)
      rw [ua_n _ _ e, va_up_ne _ _ hne, ua_n _ _ hne, h31 x e]
      exact a3 x hx
  · rw [ua_n _ _ (fun e => inj34 he f x hf hx e.symm)]
    exact a4 x hx
theorem R6_rC {c162 s30 s31 s32 s33 s34 s34' : Nat → Int32} {q160 q161 : Nat → Option Nat} (he : EN g cf nm A) (h : R6 A c162 q160 q161 s30 s31 s32 s33 s34) (hc : c < 3) (h34 : ∀ x, x ≠ c → s34' x = s34 x) : R6 A (upd c162 (A 4 c) 0) (va_up q160 (A 4 c) none) (va_up q161 (A 4 c) none) s30 s31 s32 (upd s33 c (-1)) s34' := by
  obtain ⟨a1, a2, a3, a4⟩ := h
  refine ⟨fun x hx => ?_, VQ_up a2 (fun i hi e => inj4 he i c hi hc e) (rfI_n _).symm, fun x hx => ?_, fun x hx => ?_⟩
  · rw [va_up_ne _ _ (inj34 he x c hx hc)]
    exact a1 x hx
  · rw [va_up_ne _ _ (inj34 he x c hx hc), ua_n _ _ (inj34 he x c hx hc)]
    exact a3 x hx
  · by_cases e : x = c
    · subst e
      rw [ua_s, ua_s]
      exact ⟨fun h9 => absurd rfl h9, fun _ => rfl⟩
    · have hne : A 4 x ≠ A 4 c := fun h9 => e (inj4 he x c hx hc h9)
      rw [ua_n _ _ e, ua_n _ _ hne, h34 x e]
      exact a4 x hx
theorem R10_F {s s30 s33 : Nat → Int32} (h : R10 fe co s s30 s33) (f : Nat) : R10 fe co s (upd s30 f (-1)) s33 := by
  have k : ∀ x, s30 x = -1 → upd s30 f (-1) x = -1 := fun x e => by
    by_cases e2 : x = f
    · subst e2; exact ua_s _ _ _
    · rw [ua_n _ _ e2]; exact e
  exact ⟨fun x h1 h2 => k x (h.1 x h1 h2), h.2.1, fun h9 => ⟨fun x hx => k x ((h.2.2 h9).1 x hx), (h.2.2 h9).2⟩⟩
theorem R10_C {s s30 s33 : Nat → Int32} (h : R10 fe co s s30 s33) (c : Nat) : R10 fe co s s30 (upd s33 c (-1)) := by
  have k : ∀ x, s33 x = -1 → upd s33 c (-1) x = -1 := fun x e => by
    by_cases e2 : x = c
    · subst e2; exact ua_s _ _ _
    · rw [ua_n _ _ e2]; exact e
  exact ⟨h.1, fun x h1 h2 => k x (h.2.1 x h1 h2), fun h9 => ⟨(h.2.2 h9).1, fun x hx => k x ((h.2.2 h9).2 x hx)⟩⟩
theorem l_rls {α β : Type} {p : Option β} {Q : α → β → Prop} {a : Nat} {K : CS → Option α} (h : ok2 (K (rls C a)) p Q) : ok2 (bd1 (gX8_release g cf nm C a) K) p Q := h
theorem Rel_stopF (he : EN g cf nm A) (h : Rel M A cf nd nb nr fe co W DL BT CT C S) (hf : f < 4) (hb : b < 40) (e : S 30 f = nI b) (v : Int32) (hv : v = 0 ∨ v = 2) : Rel M A cf nd nb nr fe co W DL BT CT (rls (wi C 3 (A 1 b) v) (A 3 f)) (wr (wr S 5 b v) 30 f (-1)) := by
  obtain ⟨⟨t, bl, ms, hst⟩, hM, h1, h2, h3, h4, h5, h6, h7, h8, h9, h10, h11, h12⟩ := h
  have b2 := hst.1.2.1.2
  have hJ := hst.2.2
  obtain ⟨hbx, hp⟩ := hJ.2.2.2.2.2.2.2.1 f b hf hb e
  refine ⟨⟨t, bl, ms, hst.1, R_fB hst.2.1 (Or.inl rfl), J_stopF hJ hf hb e⟩, hM, h1, h2, R3_pl he h3 hbx b2 v, h4, R5_fr h5 (fun x => by simp only [wi, wq, kp, ln, rls, va_p1, wr_pl, Nat.reduceLT]) rfl rfl rfl, R6_rF he h6 hf (fun _ _ => rfl), R7_pl h7 (fun r hr h4 hw => ?_), h8, R9_pl h9 (fun h => ?_) (fun f' x hf' hx h => ?_), R10_F h10 f, h11, h12⟩
  · have := (h7.2.2.2.2.2 r hr h4).2.2
    rw [hw] at this
    rcases hp with k | k <;> (rw [k] at this; exact absurd this (by decide))
  · rcases hv with rfl | rfl <;> exact absurd h (by decide)
  · by_cases e9 : f' = f
    · subst e9
      exact absurd ((ua_s _ _ _).symm.trans h) (fun q => nI_nm (by omega) q.symm)
    · have h' : S 30 f' = nI x := (ua_n (S 30) (-1) e9).symm.trans h
      exact Or.inr ⟨fun q => e9 (hJ.2.2.2.2.2.2.2.2.1 f' f b hf' hf hb (q ▸ h') e), h', rfl⟩
theorem Rel_stopC (he : EN g cf nm A) (h : Rel M A cf nd nb nr fe co W DL BT CT C S) (hc : c < 3) (hb : b < 40) (e : S 33 c = nI b) (v : Int32) (hv : (v = 5 ∧ ¬ S 6 b = -1) ∨ (v = 2 ∧ S 6 b = -1)) : Rel M A cf nd nb nr fe co W DL BT CT (rls (wi C 3 (A 1 b) v) (A 4 c)) (wr (wr S 5 b v) 33 c (-1)) := by
  obtain ⟨⟨t, bl, ms, hst⟩, hM, h1, h2, h3, h4, h5, h6, h7, h8, h9, h10, h11, h12⟩ := h
  have b2 := hst.1.2.1.2
  have hJ := hst.2.2
  obtain ⟨hbx, hp⟩ := hJ.2.2.2.2.2.2.1 c b hc hb e
  refine ⟨⟨t, bl, ms, hst.1, R_cB hst.2.1 (Or.inl rfl), J_stopC hJ hc hb e (hv.elim (fun k => Or.inl k.1) (fun k => Or.inr k.2))⟩, hM, h1, h2, R3_pl he h3 hbx b2 v, h4, R5_fr h5 (fun x => by simp only [wi, wq, kp, ln, rls, va_p1, wr_pl, Nat.reduceLT]) rfl rfl rfl, R6_rC he h6 hc (fun _ _ => rfl), R7_pl h7 (fun r hr h4 hw => ?_), h8, R9_pl h9 (fun h => ?_) (fun f' x hf' hx h => ?_), R10_C h10 c, h11, h12⟩
  · have := (h7.2.2.2.2.2 r hr h4).2.1
    rw [hw] at this
    rcases hv with k | k
    · exact Or.inl k.1
    · rw [k.2] at this
      exact absurd this.symm (nI_nm (by omega))
  · rcases hv with k | k
    · exact k.2
    · rw [k.1] at h
      exact absurd h (by decide)
  · refine Or.inr ⟨fun q => ?_, h, rfl⟩
    subst q
    rcases (hJ.2.2.2.2.2.2.2.1 f' x hf' hx h).2 with k | k <;> (rw [hp] at k; exact absurd k (by decide))
end PL
