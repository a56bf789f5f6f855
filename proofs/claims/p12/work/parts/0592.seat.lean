section SEAT
variable {g : Nat → Nat → Option Nat} {cf : Nat → Nat → Nat} {nm : Nat → Int32} {A : Nat → Nat → Nat} {M : MP} {nd nb nr fe co : Nat} {W : Nat → Nat} {DL BT CT : List Nat} {C : CS} {S : RS} {r : Nat}
/-- whom r overtakes -/
def ovt (ca : Nat → Int32) (r a : Nat) : Prop := ca a < ca r ∨ (ca r = ca a ∧ a < r)
theorem g_behind (he : EN g cf nm A) {a : Nat} (hr : r < 20) (ha : a < 20) {ca : Nat → Int32} (h : VW (A 2) 20 (C.1 126) ca) : ok (gX6_cameBehind g cf nm C (A 2 r) (A 2 a)) (fun y => ¬ y = 0 ↔ ovt ca r a) := by
  unfold gX6_cameBehind ovt
  rw [h r hr, h a ha, (he.2.2.1 r hr).2.1, (he.2.2.1 a ha).2.1]
  refine ok_ite (fun c => ok_some ⟨fun _ => Or.inl c, fun _ => by decide⟩) (fun c => ok_ite (fun c2 => ok_ite (fun c3 => ok_some ⟨fun k => absurd rfl k, fun k => ?_⟩) (fun c3 => ok_some ⟨fun _ => Or.inr ⟨c2, ?_⟩, fun _ => by decide⟩)) (fun c2 => ok_some ⟨fun k => absurd rfl k, fun k => k.elim (fun k => absurd k c) (fun k => absurd k.1 c2)⟩))
  · have := (nI_leI (by omega) (by omega)).mp c3
    rcases k with k | k
    · exact absurd k c
    · omega
  · rcases Nat.lt_or_ge a r with k | k
    · exact k
    · exact absurd ((nI_leI (by omega) (by omega)).mpr k) c3
/-- the class counts whom r overtakes, along the line -/
theorem g_over (he : EN g cf nm A) (hr : r < 20) {l : List Nat} (hl : ∀ a, a ∈ l → a < 20) (hnd : l.Pairwise (fun a b => a ≠ b)) {C0 : CS} (hLN : LN (A 2) C0 205 11 l) {ca : Nat → Int32} (hca : VW (A 2) 20 (C0.1 126) ca) {d : Nat} {K : Nat → Nat → CS → Option CS} {P : CS → Prop}
    (hK : ∀ o, (∀ a, a < 20 → (a ∈ l ∧ ovt ca r a → o (A 2 a) = C0.1 135 (A 2 a) + 1) ∧ (¬ (a ∈ l ∧ ovt ca r a) → o (A 2 a) = C0.1 135 (A 2 a))) → ok (K (A 2 r) d (va_up C0.1 135 o, C0.2)) P) :
    ∀ (fu j : Nat) (o : Nat → Int32), j ≤ l.length → l.length - j < fu → (∀ a, a < 20 → (a ∈ l.take j ∧ ovt ca r a → o (A 2 a) = C0.1 135 (A 2 a) + 1) ∧ (¬ (a ∈ l.take j ∧ ovt ca r a) → o (A 2 a) = C0.1 135 (A 2 a))) → ok (gX9_seat_26 g cf nm K fu (A 2 r) d (nI j) (va_up C0.1 135 o, C0.2)) P := by
  intro fu
  induction fu with
  | zero => intro j o hj hf; omega
  | succ fu ih =>
    intro j o hj hf ho
    obtain ⟨n1, n2, n3⟩ := id hLN
    rw [gX9_seat_26, nI_1 j]
    refine ok_ite (fun c => ?_) (fun c => ?_)
    · have hjn : j = l.length := by
        have := (nI_leI (a := l.length) (b := j) (by omega) (by omega)).mp (n1 ▸ c)
        omega
      subst hjn
      rw [List.take_length] at ho
      exact hK o ho
    have hjl : j < l.length := nl n1 (by omega) (by omega) c
    have hat : gX3_at_0 g cf nm (va_up C0.1 135 o, C0.2) (nI j) = some (some (A 2 l[j])) := by
      have := g_at0 (g := g) (cf := cf) (nm := nm) (C := (va_up C0.1 135 o, C0.2)) (ρ := A 2) (l := l) hLN (i := j) (by omega)
      rw [dif_pos hjl] at this
      exact this
    have ha : l[j] < 20 := hl _ (List.getElem_mem _)
    have hnt : l[j] ∉ l.take j := fun h => by
      obtain ⟨i, hi, e⟩ := List.mem_iff_getElem.mp h
      rw [List.length_take] at hi
      rw [List.getElem_take] at e
      exact List.pairwise_iff_getElem.mp hnd i j (by omega) hjl (by omega) e
    have htk : ∀ a, a ∈ l.take (j + 1) ↔ a ∈ l.take j ∨ a = l[j] := fun a => by
      rw [List.take_succ, List.getElem?_eq_getElem hjl, List.mem_append]
      simp
    refine ok_bd1 (P := fun q => q = some (A 2 l[j])) ⟨_, hat, rfl⟩ (fun q hq => c_ocs hq (ok_bd1 (g_behind he hr ha hca) (fun y hy => ok_ite (fun k => ?_) (fun k => ok_bnd ?_))))
    · refine ih (j + 1) o (by omega) (by omega) (fun a ha9 => ?_)
      rw [htk a]
      refine ⟨fun h9 => ?_, fun h9 => (ho a ha9).2 (fun h8 => h9 ⟨Or.inl h8.1, h8.2⟩)⟩
      rcases h9.1 with h8 | h8
      · exact (ho a ha9).1 ⟨h8, h9.2⟩
      · exact absurd k (hy.mpr (h8 ▸ h9.2))
    · have hov := hy.mp k
      have hgo := ih (j + 1) (upd o (A 2 l[j]) (o (A 2 l[j]) + 1)) (by omega) (by omega) (fun a ha9 => ?_)
      · refine Eq.mp (congrArg (fun z => ok (gX9_seat_26 g cf nm K fu (A 2 r) d (nI (j + 1)) (z, C0.2)) P) ?_) hgo
        funext w
        show _ = wr (va_up C0.1 135 o) 135 (A 2 l[j]) (va_up C0.1 135 o 135 (A 2 l[j]) + 1) w
        by_cases e : w = 135
        · subst e
          rw [va_up_self, wr_s, va_up_self]
        · rw [va_up_ne _ _ e, wr_n _ _ _ _ e, va_up_ne _ _ e]
      · rw [htk a]
        by_cases e : a = l[j]
        · rw [e, ua_s]
          have := (ho l[j] ha).2 (fun h8 => hnt h8.1)
          exact ⟨fun _ => by rw [this], fun h9 => absurd ⟨Or.inr rfl, hov⟩ h9⟩
        · rw [ua_n _ _ (fun h9 => e (inj2 he a l[j] ha9 ha h9))]
          refine ⟨fun h9 => ?_, fun h9 => (ho a ha9).2 (fun h8 => h9 ⟨Or.inl h8.1, h8.2⟩)⟩
          rcases h9.1 with h8 | h8
          · exact (ho a ha9).1 ⟨h8, h9.2⟩
          · exact absurd h8 e
/-- the reference counts, along the readers -/
theorem r_over {S0 : RS} (e3 : S0 0 3 = nI nr) (b3 : nr ≤ 20) (hr : r < 20) {v : Int32} {K : Int32 → RS → Option RS} {P : RS → Prop}
    (hK : ∀ o : Nat → Int32, (∀ a, (a < nr ∧ S0 15 a = 1 ∧ ovt (S0 20) r a → o a = S0 21 a + 1) ∧ (¬ (a < nr ∧ S0 15 a = 1 ∧ ovt (S0 20) r a) → o a = S0 21 a)) → ok (K v (va_up S0 21 o)) P) :
    ∀ (fu j : Nat) (o : Nat → Int32), j ≤ nr → nr - j < fu → (∀ a, (a < j ∧ S0 15 a = 1 ∧ ovt (S0 20) r a → o a = S0 21 a + 1) ∧ (¬ (a < j ∧ S0 15 a = 1 ∧ ovt (S0 20) r a) → o a = S0 21 a)) → ok (gX10_doDesks_68 K fu v (nI r) (nI j) (va_up S0 21 o)) P := by
  intro fu
  induction fu with
  | zero => intro j o hj hf; omega
  | succ fu ih =>
    intro j o hj hf ho
    rw [gX10_doDesks_68, nI_1 j]
    refine ok_ite (fun c => ?_) (fun c => ?_)
    · have hjn : j = nr := by
        have := (nI_leI (a := nr) (b := j) (by omega) (by omega)).mp (e3 ▸ c)
        omega
      subst hjn
      exact hK o ho
    have hjr : j < nr := nl e3 (by omega) (by omega) c
    have hj20 : j < 20 := by omega
    have hoj : o j = S0 21 j := (ho j).2 (fun h9 => by omega)
    have hno : ¬ (S0 15 j = 1 ∧ ovt (S0 20) r j) → ok (gX10_doDesks_68 K fu v (nI r) (nI (j + 1)) (va_up S0 21 o)) P := fun hn => ih (j + 1) o (by omega) (by omega) (fun a => by
      refine ⟨fun h9 => ?_, fun h9 => (ho a).2 (fun h8 => h9 ⟨by omega, h8.2⟩)⟩
      by_cases e : a = j
      · subst e; exact absurd h9.2 hn
      · exact (ho a).1 ⟨by omega, h9.2⟩)
    have hyes : S0 15 j = 1 → ovt (S0 20) r j → ok (gX10_doDesks_68 K fu v (nI r) (nI (j + 1)) (wr (va_up S0 21 o) 21 j (o j + 1))) P := fun h1 h2 => by
      have hgo := ih (j + 1) (upd o j (o j + 1)) (by omega) (by omega) (fun a => ?_)
      · refine Eq.mp (congrArg (fun z => ok (gX10_doDesks_68 K fu v (nI r) (nI (j + 1)) z) P) ?_) hgo
        funext w
        by_cases e : w = 21
        · subst e
          rw [va_up_self, wr_s, va_up_self]
        · rw [va_up_ne _ _ e, wr_n _ _ _ _ e, va_up_ne _ _ e]
      · by_cases e : a = j
        · subst e
          rw [ua_s, hoj]
          exact ⟨fun _ => rfl, fun h9 => absurd ⟨by omega, h1, h2⟩ h9⟩
        · rw [ua_n _ _ e]
          exact ⟨fun h9 => (ho a).1 ⟨by omega, h9.2⟩, fun h9 => (ho a).2 (fun h8 => h9 ⟨by omega, h8.2⟩)⟩
    refine ok_ld rfl hj20 (by decide) (fun y27 e27 => ok_ite (fun k => ?_) (fun k => hno (fun h9 => k (e27.trans h9.1))))
    have s1 : S0 15 j = 1 := e27.symm.trans k
    refine ok_ld rfl hj20 (by decide) (fun y30 e30 => ok_ld rfl hr (by decide) (fun y32 e32 => ok_ite (fun k2 => ?_) (fun k2 => ?_)))
    · refine ok_ld rfl hj20 (by decide) (fun y35 e35 => ok_sv rfl hj20 (by decide) ?_)
      rw [show y35 = o j from e35]
      exact hyes s1 (Or.inl (by rw [e30, e32] at k2; exact k2))
    · refine ok_ld rfl hj20 (by decide) (fun y39 e39 => ok_ld rfl hr (by decide) (fun y41 e41 => ok_ite (fun k3 => ?_) (fun k3 => ?_)))
      · refine ok_ite (fun k4 => ?_) (fun k4 => ?_)
        · refine hno (fun h9 => ?_)
          have := (nI_leI (by omega) (by omega)).mp k4
          rcases h9.2 with h8 | h8
          · exact k2 (by rw [e30, e32]; exact h8)
          · omega
        · refine ok_ld rfl hj20 (by decide) (fun y45 e45 => ok_sv rfl hj20 (by decide) ?_)
          rw [show y45 = o j from e45]
          refine hyes s1 (Or.inr ⟨by rw [e39, e41] at k3; exact k3.symm, ?_⟩)
          rcases Nat.lt_or_ge j r with h8 | h8
          · exact h8
          · exact absurd ((nI_leI (by omega) (by omega)).mpr h8) k4
      · refine hno (fun h9 => ?_)
        rcases h9.2 with h8 | h8
        · exact k2 (by rw [e30, e32]; exact h8)
        · exact k3 (by rw [e39, e41]; exact h8.1.symm)
end SEAT
