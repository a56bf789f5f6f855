/-! the room as it is made: class and reference in step -/
def CZ : CS := (fun k i => if k = 200 then (if i = 3 then 2 else if i = 5 then -1 else if i = 9 then 2 else if i = 10 then 1 else 0) else 0, fun _ _ => none)
theorem CZ_pl (a : Nat) : CZ.1 (1000 + a) = fun _ => 0 := by
  funext i
  show (if 1000 + a = 200 then (if i = 3 then (2 : Int32) else if i = 5 then -1 else if i = 9 then 2 else if i = 10 then 1 else 0) else 0) = 0
  rw [if_neg (by omega)]
theorem XW_CZ (x : Nat → Nat) (cy : Nat → ClassId) (g : Nat → Nat → Option Nat) : XW x cy g N0 n0 (fun _ _ => 0) (fun _ _ => none) = ZW x cy g CZ := rfl
theorem pf_CZ {cy : Nat → ClassId} {L : List Nat} {K : Nat → Nat} {c : Nat → Nat → Nat} {nm : Nat → Int32} {a : Nat} (h : ty0 L K c a) : f0 cy K c nm a = pf cy K c nm CZ a := by
  rcases h.1 with e | e | e | e | e | e | e
  · rw [pf_0 e]
    unfold f0
    rw [e]
    rfl
  · rw [pf_1 e]
    unfold f0
    rw [e]
    rfl
  · rw [pf_5 e]
    unfold f0
    rw [e]
    rfl
  · rw [pf_6 e]
    unfold f0
    rw [e]
    rfl
  · rw [pf_8 e]
    unfold f0
    rw [e]
    rfl
  · rw [pf_12 e, CZ_pl]
    unfold f0
    rw [e]
    rfl
  · rw [pf_13 e, CZ_pl]
    unfold f0
    rw [e]
    rfl
theorem W_0 {x : Nat → Nat} {cy : Nat → ClassId} {g : Nat → Nat → Option Nat} {L : List Nat} {K : Nat → Nat} {c : Nat → Nat → Nat} {nm : Nat → Int32} (h : PL L K c) : XW x cy g N0 n0 (fun _ _ => 0) (fun _ _ => none) ++ va_pl L (f0 cy K c nm) = ZW x cy g CZ ++ va_pl L (pf cy K c nm CZ) := by
  rw [XW_CZ]
  congr 1
  unfold va_pl
  exact List.map_congr_left (fun a ha => by rw [pf_CZ (h a ha)])
theorem WT_0 {L : List Nat} {K : Nat → Nat} : WT L K CZ.2 := fun _ _ => rok_none
theorem RX_init {A : Nat → Nat → Nat} {cf : Nat → Nat → Nat} : RX (RMN (NTB 0 0)) A cf CZ S0 := by
  have z3 : ∀ b : Nat, b < 40 → ¬ (-1 : Int32) = nI b := fun b hb e => nI_nm (by omega) e.symm
  refine ⟨0, 0, 0, 2, 1, fun _ => 0, [], [], [], ⟨_, _, _, StA_0⟩, ⟨⟨rfl, fun i hi _ => absurd hi (fun k => ?_)⟩, 0, rfl, Nat.le_refl _, Nat.le_refl _⟩, ⟨⟨rfl, rfl, rfl, rfl, rfl, rfl, rfl, rfl, rfl, rfl, rfl, 0, by omega, rfl⟩, 0, by omega, rfl⟩, ⟨⟨fun _ _ => rfl, fun _ => Or.inl rfl⟩, fun i hi => absurd hi (Nat.not_lt_zero i), fun _ _ _ => rfl, fun i hi => absurd hi (Nat.not_lt_zero i), fun _ _ _ => rfl⟩, ⟨fun _ _ => rfl, fun _ _ => rfl, fun _ _ => rfl, fun i hi => absurd hi (Nat.not_lt_zero i), fun i hi => absurd hi (Nat.not_lt_zero i), fun _ _ _ => ⟨rfl, rfl, rfl⟩⟩, ⟨fun _ _ => rfl, fun _ _ => rfl, ⟨fun _ _ => rfl, fun _ => Or.inl rfl⟩, fun _ _ => rfl, fun _ _ => rfl, fun _ _ => rfl, fun _ _ => rfl, fun _ _ => rfl, fun _ _ => rfl⟩, ⟨fun _ _ => rfl, fun _ _ => rfl, fun _ _ => rfl, fun r n _ hn e i hi => ?_, fun r n _ hn e i hi => ?_⟩, ⟨fun i hi => ?_, fun i hi => ?_, fun f hf => ⟨fun k => absurd ?_ k, fun _ => rfl⟩, fun c hc => ⟨fun k => absurd ?_ k, fun _ => rfl⟩⟩, ⟨fun _ _ => rfl, fun r _ => ⟨fun k => absurd k ?_, fun _ => rfl⟩, fun r _ => ?_, fun r _ k => absurd k ?_, fun r _ k => absurd k ?_, fun r _ k => absurd k ?_⟩, ⟨⟨⟨rfl, by decide, fun i hi => absurd hi (Nat.not_lt_zero i)⟩, fun r => ⟨fun k => absurd k (by simp), fun k => absurd k.1 (Nat.not_lt_zero r)⟩, List.Pairwise.nil⟩, ⟨⟨rfl, by decide, fun i hi => absurd hi (Nat.not_lt_zero i)⟩, fun r => ⟨fun k => absurd k (by simp), fun k => absurd k.1 (Nat.not_lt_zero r)⟩, List.Pairwise.nil⟩, ⟨⟨rfl, by decide, fun i hi => absurd hi (Nat.not_lt_zero i)⟩, fun r => ⟨fun k => absurd k (by simp), fun k => absurd k.1 (Nat.not_lt_zero r)⟩, List.Pairwise.nil⟩⟩, ⟨fun b hb => absurd hb (Nat.not_lt_zero b), fun b hb => absurd hb (Nat.not_lt_zero b), fun f b hf hb e => ?_, fun _ => Or.inl rfl, 0, rfl, ?_, fun r _ k => absurd k ?_, fun r _ k => absurd k ?_⟩, ⟨fun f _ hf => ?_, fun c _ hc => ?_, fun _ => ⟨fun f hf => ?_, fun c hc => ?_⟩⟩, ⟨fun r _ => ⟨0, by omega, rfl⟩, fun x => Or.inr ⟨0, by omega, rfl⟩⟩, fun b r hb => absurd hb (Nat.not_lt_zero b), fun r hr => absurd hr (Nat.not_lt_zero r)⟩
  · exact nI_pos (by omega) k
  · have : 0 = n := nI_inj (by omega) (by omega) e
    omega
  · have : 0 = n := nI_inj (by omega) (by omega) e
    omega
  · rw [S0_30, if_pos hi, rfI_n]
    rfl
  · rw [S0_33, if_pos hi, rfI_n]
    rfl
  · rw [S0_30, if_pos hf]
  · rw [S0_33, if_pos hc]
  · show ¬ (0 : Int32) = 3
    decide
  · show none = if (0 : Int32) = 2 ∨ (0 : Int32) = 4 then _ else none
    rw [if_neg (by decide)]
  · show ¬ (0 : Int32) = 4
    decide
  · show ¬ (0 : Int32) = 2
    decide
  · show ¬ (0 : Int32) = 4
    decide
  · rw [S0_30, if_pos hf] at e
    exact absurd e (z3 b hb)
  · show 0 + sumN (fun _ => 16 - (0 : Int32).toNatClampNeg) 20 ≤ 320
    decide
  · show ¬ (0 : Int32) = 2
    decide
  · show ¬ (0 : Int32) = 4
    decide
  · rw [S0_30, if_pos hf]
  · rw [S0_33, if_pos hc]
  · rw [S0_30, if_pos hf]
  · rw [S0_33, if_pos hc]
