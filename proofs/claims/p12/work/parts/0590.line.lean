section LINE
variable {g : Nat → Nat → Option Nat} {cf : Nat → Nat → Nat} {nm : Nat → Int32} {A : Nat → Nat → Nat} {M : MP} {nd nb nr fe co : Nat} {W : Nat → Nat} {DL BT CT : List Nat} {C : CS} {S : RS} {r : Nat}
theorem ok_and {β : Type} {o : Option β} {P Q : β → Prop} (h1 : ok o P) (h2 : ok o Q) : ok o (fun x => P x ∧ Q x) := by
  obtain ⟨a, e1, h1⟩ := h1
  obtain ⟨b, e2, h2⟩ := h2
  obtain rfl := Option.some.inj (e1.symm.trans e2)
  exact ⟨a, e1, h1, h2⟩
theorem r_line {S0 : RS} (e3 : S0 0 3 = nI nr) (b3 : nr ≤ 20) {K : RS → Option RS} {P : RS → Prop}
    (hK : ∀ l f, l.Pairwise (bf (S0 13) (S0 12)) → (∀ a, a ∈ l ↔ a < nr ∧ S0 15 a = 1) → L42 l f → ok (K (va_up (wr S0 0 57 (nI l.length)) 42 f)) P) :
    ∀ (fu j : Nat) (l : List Nat) (f : Nat → Int32), j ≤ nr → nr - j < fu → l.Pairwise (bf (S0 13) (S0 12)) → (∀ a, a ∈ l ↔ a < j ∧ S0 15 a = 1) → L42 l f → ok (gX10_findLine_7 K fu (nI j) (va_up (wr S0 0 57 (nI l.length)) 42 f)) P := by
  intro fu
  induction fu with
  | zero => intro j l f hj hf; omega
  | succ fu ih =>
    intro j l f hj hf hp hmem hL
    rw [gX10_findLine_7]
    refine ok_ite (fun c => ?_) (fun c => ?_)
    · have hjn : j = nr := by
        have := (nI_leI (a := nr) (b := j) (by omega) (by omega)).mp (e3 ▸ c)
        omega
      subst hjn
      exact hK l f hp hmem hL
    have hjr : j < nr := nl e3 (by omega) (by omega) c
    have hj20 : j < 20 := by omega
    refine ok_ld rfl hj20 (by decide) (fun y3 ey3 => ok_ite (fun k => ?_) (fun k => ?_))
    · have s1 : S0 15 j = 1 := ey3.symm.trans k
      have hl : ∀ a, a ∈ l → a < 20 := fun a ha => by have := ((hmem a).mp ha).1; omega
      have hjl : j ∉ l := fun h => by have := ((hmem j).mp h).1; omega
      have hn : l.length < 20 := len_lt (fun a k => bf_as a a k k) hp hjl hj20 hl
      refine r_ins (S0 := wr S0 0 57 (nI l.length)) hj20 hl hn (fun q f' hk q1 q2 q3 q4 => ?_) 1000 l.length f (Nat.le_refl _) (by omega) (fun i h _ => hL i h) (fun i h hi => absurd h (by omega)) (fun i h hi => absurd h (by omega))
      refine ok_sv rfl (by omega) (by decide) (ok_bnd ?_)
      rw [nI_1]
      have hgo := ih (j + 1) (put l q j) (upd f' q (nI j)) (by omega) (by omega) (put_pw bf_tr bf_tot hp hjl hk q3 q4) (fun a => ?_) (fun i hi => ?_)
      · refine Eq.mp (congrArg (fun z => ok (gX10_findLine_7 K fu (nI (j + 1)) z) P) ?_) hgo
        funext w
        by_cases e : w = 42
        · subst e
          rw [va_up_self, wr_n _ _ _ _ (by decide), wr_s, va_up_self]
        · rw [va_up_ne _ _ e]
          by_cases e0 : w = 0
          · subst e0
            funext x
            rw [wr_ap, wr_ap, if_pos rfl, if_pos rfl, wr_n _ _ _ _ (by decide), va_up_ne _ _ (by decide), wr_s]
            show _ = if x = 57 then upd (S0 0) 57 (nI l.length) 57 + 1 else upd (S0 0) 57 (nI l.length) x
            by_cases e57 : x = 57
            · rw [if_pos e57, if_pos e57, ua_s, put_len, nI_1]
            · rw [if_neg e57, if_neg e57, ua_n _ _ e57]
          · rw [wr_n _ _ _ _ e0, wr_n _ _ _ _ e0, wr_n _ _ _ _ e, va_up_ne _ _ e, wr_n _ _ _ _ e0]
      · rw [mem_put, hmem a]
        by_cases e : a = j
        · subst e
          exact ⟨fun _ => ⟨by omega, s1⟩, fun _ => Or.inl rfl⟩
        · exact ⟨fun h => h.elim (fun h => absurd h e) (fun h => ⟨by omega, h.2⟩), fun h => Or.inr ⟨by omega, h.2⟩⟩
      · refine put_get hk hi (fun a => upd f' q (nI j) i = nI a) (fun h c1 => ?_) (fun c2 => ?_) (fun h c3 => ?_)
        · rw [ua_n _ _ (by omega)]
          exact q1 i h c1
        · subst c2
          exact ua_s _ _ _
        · rw [ua_n _ _ (by omega)]
          have := q2 (i - 1) h (by omega)
          rw [show i - 1 + 1 = i by omega] at this
          exact this
    · rw [nI_1]
      refine ih (j + 1) l f (by omega) (by omega) hp (fun a => ?_) hL
      rw [hmem a]
      constructor
      · exact fun h => ⟨by omega, h.2⟩
      · intro h
        refine ⟨?_, h.2⟩
        have : a ≠ j := fun e => k (by rw [ey3]; exact e ▸ h.2)
        omega
/-- the reference finds the class's line -/
theorem r_find (h : Rel M A cf nd nb nr fe co W DL BT CT C S) : ok (gX10_findLine S) (fun S' => ∃ f, L42 DL f ∧ S' = va_up (wr S 0 57 (nI DL.length)) 42 f ∧ Rel M A cf nd nb nr fe co W DL BT CT C S') := by
  obtain ⟨⟨t, bl, ms, hst⟩, hrest⟩ := h
  have h8 := hrest.2.2.2.2.2.2.2.2.1
  refine ok_mono (ok_and (t_findLine hst) (P := _) (Q := fun S' => ∃ f, L42 DL f ∧ S' = va_up (wr S 0 57 (nI DL.length)) 42 f) ?_) (fun S' h' => ?_)
  · unfold gX10_findLine
    refine ok_bnd ?_
    have hgo := r_line (K := fun S25 => some S25) (P := fun S' => ∃ f, L42 DL f ∧ S' = va_up (wr S 0 57 (nI DL.length)) 42 f) (S0 := S) hst.1.2.2.1.1 hst.1.2.2.1.2 (fun l f hp hmem hL => ?_) 1000 0 [] (S 42) (Nat.zero_le _) (by have := hst.1.2.2.1.2; omega) List.Pairwise.nil (fun a => ⟨fun k => absurd k (by simp), fun k => absurd k.1 (Nat.not_lt_zero a)⟩) (fun i hi => absurd hi (Nat.not_lt_zero i))
    · have e : va_up (wr S 0 57 (nI ([] : List Nat).length)) 42 (S 42) = wr S 0 57 0 := va_id (wr S 0 57 0) 42
      rw [e] at hgo
      exact hgo
    · have e : l = DL := sorted_eq (fun a b => bf_as a b) l DL hp h8.1.2.2 (fun a => (hmem a).trans (h8.1.2.1 a).symm)
      subst e
      exact ok_some ⟨f, hL, rfl⟩
  · obtain ⟨⟨k1, k2, k3⟩, f, hf, rfl⟩ := h'
    exact ⟨f, hf, rfl, ⟨t, bl, ms, k1⟩, hrest⟩
/-- a desk nobody has -/
theorem g_free (hnd : nd ≤ 12) (ec : C.1 200 0 = nI nd) (hA : ∀ i, i < 12 → g 0 i = some (A 0 i)) {s1 s2 : Nat → Int32} (h1 : VW (A 0) 12 (C.1 21) s1) (h2 : VQ (A 2) (A 0) nd (C.2 22) s2) (o2 : ∀ x, x < nd → oi 20 (s2 x)) (w : Int32) : ∀ (fu j : Nat), j ≤ nd → nd - j < fu → (∀ x, x < j → ¬ (s2 x = -1 ∧ s1 x = w)) → ok (gX9_firstFreeDesk_2 C g cf nm (some none) fu w (nI j)) (fun q => (q = none ∧ ∀ x, x < nd → ¬ (s2 x = -1 ∧ s1 x = w)) ∨ ∃ d, d < nd ∧ q = some (A 0 d) ∧ s2 d = -1 ∧ s1 d = w ∧ ∀ x, x < d → ¬ (s2 x = -1 ∧ s1 x = w)) := by
  intro fu
  induction fu with
  | zero => intro j hj hf; omega
  | succ fu ih =>
    intro j hj hf hno
    rw [gX9_firstFreeDesk_2, nI_1 j]
    refine ok_ite (fun c => ?_) (fun c => ?_)
    · have hjn : j = nd := by
        have := (nI_leI (a := nd) (b := j) (by omega) (by omega)).mp (ec ▸ c)
        omega
      subst hjn
      exact ok_some (Or.inl ⟨rfl, hno⟩)
    have hjd : j < nd := nl ec (by omega) (by omega) c
    have hj12 : j < 12 := by omega
    have q2 := h2 j hjd
    have hstep : ¬ (s2 j = -1 ∧ s1 j = w) → ok (gX9_firstFreeDesk_2 C g cf nm (some none) fu w (nI (j + 1))) (fun q => (q = none ∧ ∀ x, x < nd → ¬ (s2 x = -1 ∧ s1 x = w)) ∨ ∃ d, d < nd ∧ q = some (A 0 d) ∧ s2 d = -1 ∧ s1 d = w ∧ ∀ x, x < d → ¬ (s2 x = -1 ∧ s1 x = w)) := fun hn => ih (j + 1) (by omega) (by omega) (fun x hx => by
      by_cases e : x = j
      · subst e; exact hn
      · exact hno x (by omega))
    refine c_ga rfl hj12 (by decide) (hA j hj12) (ok_bnd ?_)
    rcases o2 j hjd with e | ⟨a, ha, e⟩
    · rw [e, rfI_n] at q2
      refine c_ocn q2 (c_ga rfl hj12 (by decide) (hA j hj12) (ok_ite (fun k => ?_) (fun k => ?_)))
      · exact c_ga rfl hj12 (by decide) (hA j hj12) (ok_some (Or.inr ⟨j, hjd, rfl, e, (h1 j hj12).symm.trans k, hno⟩))
      · exact hstep (fun h9 => k ((h1 j hj12).trans h9.2))
    · rw [e, rfI_s _ (by omega)] at q2
      exact c_ocs q2 (hstep (fun h9 => nI_nm (i := a) (by omega) (e.symm.trans h9.1)))
end LINE
