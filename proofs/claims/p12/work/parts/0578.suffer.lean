/-! mishaps -/
section SUF
variable {g : Nat → Nat → Option Nat} {cf : Nat → Nat → Nat} {nm : Nat → Int32} {A : Nat → Nat → Nat} {M : MP} {nd nb nr fe co : Nat} {W : Nat → Nat} {DL BT CT : List Nat} {C : CS} {S : RS} {f c : Nat}
/-- in step, whoever stands in the lines -/
def RQ (M : MP) (A : Nat → Nat → Nat) (cf : Nat → Nat → Nat) (nd nb nr fe co : Nat) (C : CS) (S : RS) : Prop := ∃ W DL BT CT, Rel M A cf nd nb nr fe co W DL BT CT C S
theorem b_stopF (he : EN g cf nm A) (h : Rel M A cf nd nb nr fe co W DL BT CT C S) (hf : f < 4) : ok2 (gX9_stopFetcher g cf nm C (A 3 f)) (ld S 30 4 (nI f) fun y17 => if y17 = (-1) then (some S) else (ld S 32 4 (nI f) fun y20 => if y20 = (-1) then (sv S 5 40 y17 2 fun S28 => sv S28 30 4 (nI f) (-1) fun S30 => some S30) else (sv S 5 40 y17 0 fun S24 => sv S24 30 4 (nI f) (-1) fun S26 => some S26))) (fun C' S' => Rel M A cf nd nb nr fe co W DL BT CT C' S') := by
  obtain ⟨⟨t, bl, ms, hst⟩, hM, h1, h2, h3, h4, h5, h6, h7, h8, h9, h10, h11, h12⟩ := id h
  have b2 := hst.1.2.1.2
  unfold gX9_stopFetcher
  refine l_bnd (r_ld rfl hf (by decide) (fun y ey => ?_))
  have hq := h6.1 f hf
  rcases hst.2.1.2.2.2.2.2.1 f with e | ⟨b, hb, e⟩
  · rw [e, rfI_n] at hq
    exact l_ocn hq (r_t (ey.trans e) (b_some h))
  · rw [e, rfI_s _ (by omega)] at hq
    obtain rfl := ey.trans e
    refine l_ocs hq (r_f (nI_nm (by omega)) (r_ld rfl hf (by decide) (fun y2 ey2 => ?_)))
    obtain ⟨hbx, hp⟩ := hst.2.2.2.2.2.2.2.2.2.1 f b hf hb e
    have hpl := h3.2.2.1 b hb
    rcases h9.2.2.1 f b hf hb e with ⟨k1, k2⟩ | ⟨k1, k2⟩
    · refine l_t (hpl.trans k1) (r_f (fun q => k2 (ey2.symm.trans q)) (l_bnd (l_rls (r_sv rfl hb (by decide) (r_sv rfl hf (by decide) (b_some ?_))))))
      exact Rel_stopF he h hf hb e 0 (Or.inl rfl)
    · refine l_f (fun q => ?_) (r_t (ey2.trans k2) (l_bnd (l_rls (r_sv rfl hb (by decide) (r_sv rfl hf (by decide) (b_some ?_))))))
      · have := (hpl.symm.trans q).symm.trans k1
        exact absurd this (by decide)
      · exact Rel_stopF he h hf hb e 2 (Or.inr rfl)
theorem b_stopC (he : EN g cf nm A) (h : Rel M A cf nd nb nr fe co W DL BT CT C S) (hc : c < 3) : ok2 (gX9_stopCopyist g cf nm C (A 4 c)) (ld S 33 3 (nI c) fun y3 => if y3 = (-1) then (some S) else (ld S 6 40 y3 fun y6 => if y6 = (-1) then (sv S 5 40 y3 2 fun S14 => sv S14 33 3 (nI c) (-1) fun S16 => some S16) else (sv S 5 40 y3 5 fun S10 => sv S10 33 3 (nI c) (-1) fun S12 => some S12))) (fun C' S' => Rel M A cf nd nb nr fe co W DL BT CT C' S') := by
  obtain ⟨⟨t, bl, ms, hst⟩, hM, h1, h2, h3, h4, h5, h6, h7, h8, h9, h10, h11, h12⟩ := id h
  have b2 := hst.1.2.1.2
  unfold gX9_stopCopyist
  refine l_bnd (r_ld rfl hc (by decide) (fun y ey => ?_))
  have hq := h6.2.1 c hc
  rcases hst.2.1.2.2.2.2.2.2.2.1 c with e | ⟨b, hb, e⟩
  · rw [e, rfI_n] at hq
    exact l_ocn hq (r_t (ey.trans e) (b_some h))
  · rw [e, rfI_s _ (by omega)] at hq
    obtain rfl := ey.trans e
    obtain ⟨hbx, hp⟩ := hst.2.2.2.2.2.2.2.2.1 c b hc hb e
    refine l_ocs hq (l_bnd (r_f (nI_nm (by omega)) (r_ld rfl hb (by decide) (fun y2 ey2 => ?_))))
    have hh := h3.2.2.2.1 b hbx
    rcases hst.2.1.2.2.2.2.1 b with e6 | ⟨r, hr, e6⟩
    · rw [e6, rfI_n] at hh
      refine l_ocn hh (r_t (ey2.trans e6) (l_bnd (l_rls (r_sv rfl hb (by decide) (r_sv rfl hc (by decide) (b_some ?_))))))
      exact Rel_stopC he h hc hb e 2 (Or.inr ⟨rfl, e6⟩)
    · rw [e6, rfI_s _ (by omega)] at hh
      have hn : ¬ S 6 b = -1 := by rw [e6]; exact nI_nm (by omega)
      refine l_ocs hh (r_f (fun q => hn (ey2.symm.trans q)) (l_bnd (l_rls (r_sv rfl hb (by decide) (r_sv rfl hc (by decide) (b_some ?_))))))
      exact Rel_stopC he h hc hb e 5 (Or.inl ⟨rfl, hn⟩)
/-- is the reader in the room: both -/
theorem b_here {r : Nat} (he : EN g cf nm A) (h : Rel M A cf nd nb nr fe co W DL BT CT C S) (hr : r < 20) : ∃ x y, gX9_isInRoom g cf nm C (A 2 r) = some x ∧ gX10_isHere S (nI r) = some y ∧ (x = 0 ↔ y = 0) ∧ (x = 0 ↔ ¬ (S 15 r = 1 ∨ S 15 r = 2 ∨ S 15 r = 3 ∨ S 15 r = 4 ∨ S 15 r = 8)) := by
  obtain ⟨⟨t, bl, ms, hst⟩, hM, h1, h2, h3, h4, h5, h6, h7, h8, h9, h10, h11, h12⟩ := id h
  have e := h7.1 r hr
  obtain ⟨k, hk, ek⟩ := h11.1 r hr
  unfold gX9_isInRoom gX9_isAway gX10_isHere
  rw [ld_nI (j := r) rfl hr (by decide), g_in, e, ek]
  have : k = 0 ∨ k = 1 ∨ k = 2 ∨ k = 3 ∨ k = 4 ∨ k = 5 ∨ k = 6 ∨ k = 7 ∨ k = 8 := by omega
  rcases this with rfl | rfl | rfl | rfl | rfl | rfl | rfl | rfl | rfl
  · exact ⟨0, 0, rfl, by rw [bd1, ld_nI (j := r) rfl hr (by decide), ek]; rfl, by decide, by decide⟩
  · exact ⟨1, 1, rfl, rfl, by decide, by decide⟩
  · exact ⟨1, 1, rfl, rfl, by decide, by decide⟩
  · exact ⟨1, 1, rfl, rfl, by decide, by decide⟩
  · exact ⟨1, 1, rfl, rfl, by decide, by decide⟩
  · exact ⟨0, 0, rfl, by rw [bd1, ld_nI (j := r) rfl hr (by decide), ek]; rfl, by decide, by decide⟩
  · exact ⟨0, 0, rfl, by rw [bd1, ld_nI (j := r) rfl hr (by decide), ek]; rfl, by decide, by decide⟩
  · exact ⟨0, 0, rfl, by rw [bd1, ld_nI (j := r) rfl hr (by decide), ek]; rfl, by decide, by decide⟩
  · exact ⟨1, 1, rfl, by rw [bd1, ld_nI (j := r) rfl hr (by decide), ek]; rfl, by decide, by decide⟩
end SUF
