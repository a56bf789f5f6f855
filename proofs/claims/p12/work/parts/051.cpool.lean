/-! new objects: their cells by kind, and how a new one joins the pool -/
def f0 (cy : Nat → ClassId) (K : Nat → Nat) (c : Nat → Nat → Nat) (nm : Nat → Int32) (a : Nat) : va_E := match K a with
  | 0 => .inr (0, [.int (nm a), .int 0, .int 0, .int 0, .null, .null])
  | 1 => .inr (1, [.int (nm a), .int 0, .null])
  | 5 => .inr (5, [.ref (c 1 a), .ref (c 2 a), .ref (c 3 a), .ref (c 4 a), .ref (c 5 a), .int 0, .int 0, .int 0])
  | 6 => .inr (6, [.int (nm a), .ref (c 0 a), .int 0, .int 0, .int 0, .int 0, .int 0, .null, .null, .int 0, .int 0, .int 0, .int 0, .int 0, .int 0, .int 0, .int 0])
  | 8 => .inr (8, [.null, .null, .int 0])
  | 12 => .inl (cy 0, 16, .inl (fun _ => 0))
  | _ => .inl (cy 1, 16, .inl (fun _ => 0))
theorem f0_ag {cy : Nat → ClassId} {K K' : Nat → Nat} {c c' : Nat → Nat → Nat} {nm nm' : Nat → Int32} {b : Nat} (hK : K' b = K b) (hn : nm' b = nm b) (hc : ∀ j, c' j b = c j b) : f0 cy K' c' nm' b = f0 cy K c nm b := by
  unfold f0
  rw [hK, hn, hc, hc, hc, hc, hc, hc]
def ty0 (L : List Nat) (K : Nat → Nat) (c : Nat → Nat → Nat) (a : Nat) : Prop := (K a = 0 ∨ K a = 1 ∨ K a = 5 ∨ K a = 6 ∨ K a = 8 ∨ K a = 12 ∨ K a = 13) ∧ (K a = 6 → c 0 a ∈ L ∧ K (c 0 a) = 5) ∧ (K a = 5 → (c 1 a ∈ L ∧ K (c 1 a) = 12) ∧ (c 2 a ∈ L ∧ K (c 2 a) = 12) ∧ (c 3 a ∈ L ∧ K (c 3 a) = 12) ∧ (c 4 a ∈ L ∧ K (c 4 a) = 13) ∧ (c 5 a ∈ L ∧ K (c 5 a) = 12))
def PL (L : List Nat) (K : Nat → Nat) (c : Nat → Nat → Nat) : Prop := ∀ a, a ∈ L → ty0 L K c a
/-- what was there stays -/
def EX (L : List Nat) (K : Nat → Nat) (c : Nat → Nat → Nat) (nm : Nat → Int32) (L' : List Nat) (K' : Nat → Nat) (c' : Nat → Nat → Nat) (nm' : Nat → Int32) : Prop := ∀ b, b ∈ L → b ∈ L' ∧ K' b = K b ∧ nm' b = nm b ∧ ∀ j, c' j b = c j b
theorem EX_tr {L L' L2 : List Nat} {K K' K2 : Nat → Nat} {c c' c2 : Nat → Nat → Nat} {nm nm' nm2 : Nat → Int32} (h : EX L K c nm L' K' c' nm') (h2 : EX L' K' c' nm' L2 K2 c2 nm2) : EX L K c nm L2 K2 c2 nm2 := fun b hb => by
  obtain ⟨a1, a2, a3, a4⟩ := h b hb
  obtain ⟨b1, b2, b3, b4⟩ := h2 b a1
  exact ⟨b1, b2.trans a2, b3.trans a3, fun j => (b4 j).trans (a4 j)⟩
section CPL
variable {D : va_G} {A : Nat → Prop} {H : Heap} {X : va_W} {L : List Nat} {cy : Nat → ClassId} {K K' : Nat → Nat} {c c' : Nat → Nat → Nat} {nm nm' : Nat → Int32} {a : Nat} {e : va_E}
theorem ab_ni {f : Nat → va_E} (hD : va_D A ((X ++ [(a, e)]) ++ va_pl L f)) : a ∉ L := fun h => by
  obtain ⟨k, hk⟩ := va_pl_get (X := X ++ [(a, e)]) (f := f) h
  have h2 : ((X ++ [(a, e)]) ++ va_pl L f)[X.length]? = some (a, e) := by
    rw [List.append_assoc, List.getElem?_append_right (Nat.le_refl _), Nat.sub_self]
    rfl
  have h3 := hD.1 _ _ _ _ h2 hk rfl
  rw [← h3] at hk
  have h4 : (X ++ [(a, e)]).length ≤ X.length := by
    obtain ⟨i, hi⟩ := List.getElem?_of_mem (show (a, f a) ∈ va_pl L f from List.mem_map.mpr ⟨a, h, rfl⟩)
    have h5 : ((X ++ [(a, e)]) ++ va_pl L f)[(X ++ [(a, e)]).length + i]? = some (a, f a) := by
      rw [List.getElem?_append_right (by omega), Nat.add_sub_cancel_left]
      exact hi
    have := hD.1 _ _ _ _ h2 h5 rfl
    omega
  rw [List.length_append] at h4
  have h6 : ([(a, e)] : va_W).length = 1 := rfl
  omega
theorem abq (hP : va_P D vwCl ((X ++ [(a, e)]) ++ va_pl L (f0 cy K c nm)) H) (hD : va_D A ((X ++ [(a, e)]) ++ va_pl L (f0 cy K c nm))) (hL : PL L K c) (hag : ∀ b, b ≠ a → K' b = K b ∧ nm' b = nm b ∧ ∀ j, c' j b = c j b) (he : f0 cy K' c' nm' a = e) (hty : ty0 (L ++ [a]) K' c' a) : va_P D vwCl (X ++ va_pl (L ++ [a]) (f0 cy K' c' nm')) H ∧ va_D A (X ++ va_pl (L ++ [a]) (f0 cy K' c' nm')) ∧ PL (L ++ [a]) K' c' ∧ EX L K c nm (L ++ [a]) K' c' nm' := by
  have hni := ab_ni hD
  have hne : ∀ b, b ∈ L → b ≠ a := fun b hb h => hni (h ▸ hb)
  have e1 : (X ++ va_pl L (f0 cy K c nm)) ++ [(a, e)] = X ++ va_pl (L ++ [a]) (f0 cy K' c' nm') := by
    rw [List.append_assoc]
    congr 1
    unfold va_pl
    rw [List.map_append]
    congr 1
    · refine List.map_congr_left (fun b hb => ?_)
      obtain ⟨h1, h2, h3⟩ := hag b (hne b hb)
      rw [f0_ag h1 h2 h3]
    · show _ = [(a, f0 cy K' c' nm' a)]
      rw [he]
  have hP2 := va_P.swap hP
  have hD2 := va_D.swap hD
  rw [e1] at hP2 hD2
  refine ⟨hP2, hD2, fun b hb => ?_, fun b hb => ⟨List.mem_append_left _ hb, hag b (hne b hb)⟩⟩
  rcases List.mem_append.mp hb with hb | hb
  · obtain ⟨t1, t2, t3⟩ := hL b hb
    obtain ⟨h1, h2, h3⟩ := hag b (hne b hb)
    have up : ∀ z k, z ∈ L ∧ K z = k → z ∈ L ++ [a] ∧ K' z = k := fun z k h => ⟨List.mem_append_left _ h.1, (hag z (hne z h.1)).1.trans h.2⟩
    refine ⟨by rw [h1]; exact t1, fun h => ?_, fun h => ?_⟩
    · rw [h3]
      exact up _ _ (t2 (h1.symm.trans h))
    · rw [h3, h3, h3, h3, h3]
      obtain ⟨q1, q2, q3, q4, q5⟩ := t3 (h1.symm.trans h)
      exact ⟨up _ _ q1, up _ _ q2, up _ _ q3, up _ _ q4, up _ _ q5⟩
  · obtain rfl : b = a := by simpa using hb
    exact hty
/-- a simple one: box, desk, worker, row -/
theorem ab_s (k : Nat) (v : Int32) (hk : k = 0 ∨ k = 1 ∨ k = 8 ∨ k = 12 ∨ k = 13) (he : f0 cy (fun _ => k) c (fun _ => v) a = e) (hP : va_P D vwCl ((X ++ [(a, e)]) ++ va_pl L (f0 cy K c nm)) H) (hD : va_D A ((X ++ [(a, e)]) ++ va_pl L (f0 cy K c nm))) (hL : PL L K c) : va_P D vwCl (X ++ va_pl (L ++ [a]) (f0 cy (va_up K a k) c (va_up nm a v))) H ∧ va_D A (X ++ va_pl (L ++ [a]) (f0 cy (va_up K a k) c (va_up nm a v))) ∧ PL (L ++ [a]) (va_up K a k) c ∧ EX L K c nm (L ++ [a]) (va_up K a k) c (va_up nm a v) := by
  refine abq hP hD hL (fun b hb => ⟨va_up_ne _ _ hb, va_up_ne _ _ hb, fun _ => rfl⟩) ?_ ⟨?_, fun h => ?_, fun h => ?_⟩
  · rw [← he]
    exact f0_ag (va_up_self _ _ _) (va_up_self _ _ _) (fun _ => rfl)
  · rw [va_up_self]; omega
  · rw [va_up_self] at h; omega
  · rw [va_up_self] at h; omega
def cpl (c : Nat → Nat → Nat) (p a1 a2 a3 a4 a5 : Nat) : Nat → Nat → Nat := fun j b => if b = p then (if j = 1 then a1 else if j = 2 then a2 else if j = 3 then a3 else if j = 4 then a4 else a5) else c j b
def crd (c : Nat → Nat → Nat) (r p : Nat) : Nat → Nat → Nat := fun j b => if b = r then p else c j b
theorem ab_p {a1 a2 a3 a4 a5 : Nat} (v : Int32) (hP : va_P D vwCl ((X ++ [(a, .inr (5, [.ref a1, .ref a2, .ref a3, .ref a4, .ref a5, .int 0, .int 0, .int 0]))]) ++ va_pl L (f0 cy K c nm)) H) (hD : va_D A ((X ++ [(a, .inr (5, [.ref a1, .ref a2, .ref a3, .ref a4, .ref a5, .int 0, .int 0, .int 0]))]) ++ va_pl L (f0 cy K c nm))) (hL : PL L K c) (h1 : a1 ∈ L ∧ K a1 = 12) (h2 : a2 ∈ L ∧ K a2 = 12) (h3 : a3 ∈ L ∧ K a3 = 12) (h4 : a4 ∈ L ∧ K a4 = 13) (h5 : a5 ∈ L ∧ K a5 = 12) : va_P D vwCl (X ++ va_pl (L ++ [a]) (f0 cy (va_up K a 5) (cpl c a a1 a2 a3 a4 a5) (va_up nm a v))) H ∧ va_D A (X ++ va_pl (L ++ [a]) (f0 cy (va_up K a 5) (cpl c a a1 a2 a3 a4 a5) (va_up nm a v))) ∧ PL (L ++ [a]) (va_up K a 5) (cpl c a a1 a2 a3 a4 a5) ∧ EX L K c nm (L ++ [a]) (va_up K a 5) (cpl c a a1 a2 a3 a4 a5) (va_up nm a v) := by
  have hni := ab_ni hD
  have up : ∀ z k, z ∈ L ∧ K z = k → z ∈ L ++ [a] ∧ va_up K a 5 z = k := fun z k h => ⟨List.mem_append_left _ h.1, (va_up_ne _ _ (fun e9 => hni (by rw [← e9]; exact h.1))).trans h.2⟩
  refine abq hP hD hL (fun b hb => ⟨va_up_ne _ _ hb, va_up_ne _ _ hb, fun j => if_neg hb⟩) ?_ ⟨?_, fun h => ?_, fun h => ?_⟩
  · unfold f0
    rw [va_up_self]
    unfold cpl
    simp
  · rw [va_up_self]; omega
  · rw [va_up_self] at h; omega
  · unfold cpl
    simp only [if_true]
    exact ⟨up _ _ h1, up _ _ h2, up _ _ h3, up _ _ h4, up _ _ h5⟩
theorem ab_r {p : Nat} (v : Int32) (hP : va_P D vwCl ((X ++ [(a, .inr (6, [.int v, .ref p, .int 0, .int 0, .int 0, .int 0, .int 0, .null, .null, .int 0, .int 0, .int 0, .int 0, .int 0, .int 0, .int 0, .int 0]))]) ++ va_pl L (f0 cy K c nm)) H) (hD : va_D A ((X ++ [(a, .inr (6, [.int v, .ref p, .int 0, .int 0, .int 0, .int 0, .int 0, .null, .null, .int 0, .int 0, .int 0, .int 0, .int 0, .int 0, .int 0, .int 0]))]) ++ va_pl L (f0 cy K c nm))) (hL : PL L K c) (hp : p ∈ L ∧ K p = 5) : va_P D vwCl (X ++ va_pl (L ++ [a]) (f0 cy (va_up K a 6) (crd c a p) (va_up nm a v))) H ∧ va_D A (X ++ va_pl (L ++ [a]) (f0 cy (va_up K a 6) (crd c a p) (va_up nm a v))) ∧ PL (L ++ [a]) (va_up K a 6) (crd c a p) ∧ EX L K c nm (L ++ [a]) (va_up K a 6) (crd c a p) (va_up nm a v) := by
  have hni := ab_ni hD
  refine abq hP hD hL (fun b hb => ⟨va_up_ne _ _ hb, va_up_ne _ _ hb, fun j => if_neg hb⟩) ?_ ⟨?_, fun h => ?_, fun h => ?_⟩
  · unfold f0
    rw [va_up_self, va_up_self]
    unfold crd
    simp
  · rw [va_up_self]; omega
  · unfold crd
    rw [if_pos rfl]
    exact ⟨List.mem_append_left _ hp.1, (va_up_ne _ _ (fun e9 => hni (by rw [← e9]; exact hp.1))).trans hp.2⟩
  · rw [va_up_self] at h; omega
/-- the families so far -/
def GA (g : Nat → Option Nat) (k o n : Nat) (L : List Nat) (K : Nat → Nat) (nm : Nat → Int32) : Prop := ∀ i, i < n → ∃ b, g i = some b ∧ b ∈ L ∧ K b = k ∧ nm b = nI (o + i)
def GR (g : Nat → Option Nat) (n : Nat) (L : List Nat) (K : Nat → Nat) (c : Nat → Nat → Nat) (nm : Nat → Int32) : Prop := ∀ i, i < n → ∃ b, g i = some b ∧ b ∈ L ∧ K b = 6 ∧ nm b = nI i ∧ nm (c 0 b) = nI i ∧ ∀ j, 1 ≤ j → j ≤ 5 → nm (c j (c 0 b)) = nI (8 * i + j)
theorem GA_ex {g : Nat → Option Nat} {k o n : Nat} {L' : List Nat} (h : GA g k o n L K nm) (hx : EX L K c nm L' K' c' nm') : GA g k o n L' K' nm' := fun i hi => by
  obtain ⟨b, h1, h2, h3, h4⟩ := h i hi
  obtain ⟨x1, x2, x3, x4⟩ := hx b h2
  exact ⟨b, h1, x1, x2.trans h3, x3.trans h4⟩
theorem GR_ex {g : Nat → Option Nat} {n : Nat} {L' : List Nat} (h : GR g n L K c nm) (hL : PL L K c) (hx : EX L K c nm L' K' c' nm') : GR g n L' K' c' nm' := fun i hi => by
  obtain ⟨b, h1, h2, h3, h4, h5, h6⟩ := h i hi
  obtain ⟨x1, x2, x3, x4⟩ := hx b h2
  obtain ⟨p1, p2⟩ := (hL b h2).2.1 h3
  obtain ⟨y1, y2, y3, y4⟩ := hx _ p1
  refine ⟨b, h1, x1, x2.trans h3, x3.trans h4, by rw [x4, y3]; exact h5, fun j hj hj2 => ?_⟩
  rw [x4, y4]
  have hm : c j (c 0 b) ∈ L := by
    obtain ⟨q1, q2, q3, q4, q5⟩ := (hL _ p1).2.2 p2
    rcases (show j = 1 ∨ j = 2 ∨ j = 3 ∨ j = 4 ∨ j = 5 by omega) with rfl | rfl | rfl | rfl | rfl
    · exact q1.1
    · exact q2.1
    · exact q3.1
    · exact q4.1
    · exact q5.1
  rw [(hx _ hm).2.2.1]
  exact h6 j hj hj2
theorem GA_add {g : Nat → Option Nat} {k o n : Nat} (h : GA g k o n L K nm) (ha : a ∈ L) (hk : K a = k) (hn : nm a = nI (o + n)) : GA (va_up g n (some a)) k o (n + 1) L K nm := fun i hi => by
  by_cases e : i = n
  · subst e
    exact ⟨a, va_up_self _ _ _, ha, hk, hn⟩
  · obtain ⟨b, h1, h2⟩ := h i (by omega)
    exact ⟨b, (va_up_ne _ _ e).trans h1, h2⟩
def GG (nd nb nr : Nat) (L : List Nat) (K : Nat → Nat) (c : Nat → Nat → Nat) (nm : Nat → Int32) (fd fb fr : Nat → Option Nat) : Prop := PL L K c ∧ GA fd 1 0 nd L K nm ∧ GA fb 0 0 nb L K nm ∧ GR fr nr L K c nm
theorem GG_0 {K : Nat → Nat} {c : Nat → Nat → Nat} {nm : Nat → Int32} {fd fb fr : Nat → Option Nat} : GG 0 0 0 [] K c nm fd fb fr := ⟨fun z hz => (nomatch hz), fun z hz => absurd hz (Nat.not_lt_zero z), fun z hz => absurd hz (Nat.not_lt_zero z), fun z hz => absurd hz (Nat.not_lt_zero z)⟩
theorem GG_ex {nd nb nr : Nat} {fd fb fr : Nat → Option Nat} {L' : List Nat} (h : GG nd nb nr L K c nm fd fb fr) (hL : PL L' K' c') (hx : EX L K c nm L' K' c' nm') : GG nd nb nr L' K' c' nm' fd fb fr := ⟨hL, GA_ex h.2.1 hx, GA_ex h.2.2.1 hx, GR_ex h.2.2.2 h.1 hx⟩
theorem gg_desk {nd nb nr : Nat} {fd fb fr : Nat → Option Nat} (hP : va_P D vwCl ((X ++ [(a, .inr (1, [.int (nI nd), .int 0, .null]))]) ++ va_pl L (f0 cy K c nm)) H) (hD : va_D A ((X ++ [(a, .inr (1, [.int (nI nd), .int 0, .null]))]) ++ va_pl L (f0 cy K c nm))) (hG : GG nd nb nr L K c nm fd fb fr) : ∃ (K' : Nat → Nat) (c' : Nat → Nat → Nat) (nm' : Nat → Int32), va_P D vwCl (X ++ va_pl (L ++ [a]) (f0 cy K' c' nm')) H ∧ va_D A (X ++ va_pl (L ++ [a]) (f0 cy K' c' nm')) ∧ GG (nd + 1) nb nr (L ++ [a]) K' c' nm' (va_up fd nd (some a)) fb fr := by
  obtain ⟨h1, h2, h3, h4⟩ := ab_s 1 (nI nd) (by decide) rfl hP hD hG.1
  obtain ⟨g1, g2, g3, g4⟩ := GG_ex hG h3 h4
  exact ⟨_, _, _, h1, h2, g1, GA_add g2 (List.mem_append_right _ (List.mem_singleton.mpr rfl)) (va_up_self _ _ _) (by rw [va_up_self, Nat.zero_add]), g3, g4⟩
theorem gg_box {nd nb nr : Nat} {fd fb fr : Nat → Option Nat} (hP : va_P D vwCl ((X ++ [(a, .inr (0, [.int (nI nb), .int 0, .int 0, .int 0, .null, .null]))]) ++ va_pl L (f0 cy K c nm)) H) (hD : va_D A ((X ++ [(a, .inr (0, [.int (nI nb), .int 0, .int 0, .int 0, .null, .null]))]) ++ va_pl L (f0 cy K c nm))) (hG : GG nd nb nr L K c nm fd fb fr) : ∃ (K' : Nat → Nat) (c' : Nat → Nat → Nat) (nm' : Nat → Int32), va_P D vwCl (X ++ va_pl (L ++ [a]) (f0 cy K' c' nm')) H ∧ va_D A (X ++ va_pl (L ++ [a]) (f0 cy K' c' nm')) ∧ GG nd (nb + 1) nr (L ++ [a]) K' c' nm' fd (va_up fb nb (some a)) fr := by
  obtain ⟨h1, h2, h3, h4⟩ := ab_s 0 (nI nb) (by decide) rfl hP hD hG.1
  obtain ⟨g1, g2, g3, g4⟩ := GG_ex hG h3 h4
  exact ⟨_, _, _, h1, h2, g1, g2, GA_add g3 (List.mem_append_right _ (List.mem_singleton.mpr rfl)) (va_up_self _ _ _) (by rw [va_up_self, Nat.zero_add]), g4⟩
theorem gg_reader {nd nb nr r p a1 a2 a3 a4 a5 : Nat} {fd fb fr : Nat → Option Nat} (hP : va_P D vwCl ((X ++ [(r, .inr (6, [.int (nI nr), .ref p, .int 0, .int 0, .int 0, .int 0, .int 0, .null, .null, .int 0, .int 0, .int 0, .int 0, .int 0, .int 0, .int 0, .int 0])), (p, .inr (5, [.ref a1, .ref a2, .ref a3, .ref a4, .ref a5, .int 0, .int 0, .int 0])), (a1, .inl (cy 0, 16, .inl (fun _ => 0))), (a2, .inl (cy 0, 16, .inl (fun _ => 0))), (a3, .inl (cy 0, 16, .inl (fun _ => 0))), (a4, .inl (cy 1, 16, .inl (fun _ => 0))), (a5, .inl (cy 0, 16, .inl (fun _ => 0)))]) ++ va_pl L (f0 cy K c nm)) H) (hD : va_D A ((X ++ [(r, .inr (6, [.int (nI nr), .ref p, .int 0, .int 0, .int 0, .int 0, .int 0, .null, .null, .int 0, .int 0, .int 0, .int 0, .int 0, .int 0, .int 0, .int 0])), (p, .inr (5, [.ref a1, .ref a2, .ref a3, .ref a4, .ref a5, .int 0, .int 0, .int 0])), (a1, .inl (cy 0, 16, .inl (fun _ => 0))), (a2, .inl (cy 0, 16, .inl (fun _ => 0))), (a3, .inl (cy 0, 16, .inl (fun _ => 0))), (a4, .inl (cy 1, 16, .inl (fun _ => 0))), (a5, .inl (cy 0, 16, .inl (fun _ => 0)))]) ++ va_pl L (f0 cy K c nm))) (hG : GG nd nb nr L K c nm fd fb fr) : ∃ (L' : List Nat) (K' : Nat → Nat) (c' : Nat → Nat → Nat) (nm' : Nat → Int32), va_P D vwCl (X ++ va_pl L' (f0 cy K' c' nm')) H ∧ va_D A (X ++ va_pl L' (f0 cy K' c' nm')) ∧ GG nd nb (nr + 1) L' K' c' nm' fd fb (va_up fr nr (some r)) := by
  have mlast : ∀ (M : List Nat) (z : Nat), z ∈ M ++ [z] := fun M z => List.mem_append_right _ (List.mem_singleton.mpr rfl)
  obtain ⟨hP, hD, hL1, x1⟩ := ab_s (X := X ++ [(r, .inr (6, [.int (nI nr), .ref p, .int 0, .int 0, .int 0, .int 0, .int 0, .null, .null, .int 0, .int 0, .int 0, .int 0, .int 0, .int 0, .int 0, .int 0])), (p, .inr (5, [.ref a1, .ref a2, .ref a3, .ref a4, .ref a5, .int 0, .int 0, .int 0])), (a1, .inl (cy 0, 16, .inl (fun _ => 0))), (a2, .inl (cy 0, 16, .inl (fun _ => 0))), (a3, .inl (cy 0, 16, .inl (fun _ => 0))), (a4, .inl (cy 1, 16, .inl (fun _ => 0)))]) (a := a5) (e := .inl (cy 0, 16, .inl (fun _ => 0))) 12 (nI (8 * nr + 5)) (by decide) rfl (by rw [List.append_assoc X]; exact hP) (by rw [List.append_assoc X]; exact hD) hG.1
  have m5 := mlast L a5
  have k5 := va_up_self K a5 12
  have n5 := va_up_self nm a5 (nI (8 * nr + 5))
  generalize va_up K a5 12 = K1 at *
  generalize va_up nm a5 (nI (8 * nr + 5)) = nm1 at *
  generalize L ++ [a5] = L1 at *
  obtain ⟨hP, hD, hL2, x2⟩ := ab_s (X := X ++ [(r, .inr (6, [.int (nI nr), .ref p, .int 0, .int 0, .int 0, .int 0, .int 0, .null, .null, .int 0, .int 0, .int 0, .int 0, .int 0, .int 0, .int 0, .int 0])), (p, .inr (5, [.ref a1, .ref a2, .ref a3, .ref a4, .ref a5, .int 0, .int 0, .int 0])), (a1, .inl (cy 0, 16, .inl (fun _ => 0))), (a2, .inl (cy 0, 16, .inl (fun _ => 0))), (a3, .inl (cy 0, 16, .inl (fun _ => 0)))]) (a := a4) (e := .inl (cy 1, 16, .inl (fun _ => 0))) 13 (nI (8 * nr + 4)) (by decide) rfl (by rw [List.append_assoc X]; exact hP) (by rw [List.append_assoc X]; exact hD) hL1
  have m4 := mlast L1 a4
  have k4 := va_up_self K1 a4 13
  have n4 := va_up_self nm1 a4 (nI (8 * nr + 4))
  generalize va_up K1 a4 13 = K2 at *
  generalize va_up nm1 a4 (nI (8 * nr + 4)) = nm2 at *
  generalize L1 ++ [a4] = L2 at *
  obtain ⟨hP, hD, hL3, x3⟩ := ab_s (X := X ++ [(r, .inr (6, [.int (nI nr), .ref p, .int 0, .int 0, .int 0, .int 0, .int 0, .null, .null, .int 0, .int 0, .int 0, .int 0, .int 0, .int 0, .int 0, .int 0])), (p, .inr (5, [.ref a1, .ref a2, .ref a3, .ref a4, .ref a5, .int 0, .int 0, .int 0])), (a1, .inl (cy 0, 16, .inl (fun _ => 0))), (a2, .inl (cy 0, 16, .inl (fun _ => 0)))]) (a := a3) (e := .inl (cy 0, 16, .inl (fun _ => 0))) 12 (nI (8 * nr + 3)) (by decide) rfl (by rw [List.append_assoc X]; exact hP) (by rw [List.append_assoc X]; exact hD) hL2
  have m3 := mlast L2 a3
  have k3 := va_up_self K2 a3 12
  have n3 := va_up_self nm2 a3 (nI (8 * nr + 3))
  generalize va_up K2 a3 12 = K3 at *
  generalize va_up nm2 a3 (nI (8 * nr + 3)) = nm3 at *
  generalize L2 ++ [a3] = L3 at *
  obtain ⟨hP, hD, hL4, x4⟩ := ab_s (X := X ++ [(r, .inr (6, [.int (nI nr), .ref p, .int 0, .int 0, .int 0, .int 0, .int 0, .null, .null, .int 0, .int 0, .int 0, .int 0, .int 0, .int 0, .int 0, .int 0])), (p, .inr (5, [.ref a1, .ref a2, .ref a3, .ref a4, .ref a5, .int 0, .int 0, .int 0])), (a1, .inl (cy 0, 16, .inl (fun _ => 0)))]) (a := a2) (e := .inl (cy 0, 16, .inl (fun _ => 0))) 12 (nI (8 * nr + 2)) (by decide) rfl (by rw [List.append_assoc X]; exact hP) (by rw [List.append_assoc X]; exact hD) hL3
  have m2 := mlast L3 a2
  have k2 := va_up_self K3 a2 12
  have n2 := va_up_self nm3 a2 (nI (8 * nr + 2))
  generalize va_up K3 a2 12 = K4 at *
  generalize va_up nm3 a2 (nI (8 * nr + 2)) = nm4 at *
  generalize L3 ++ [a2] = L4 at *
  obtain ⟨hP, hD, hL5, x5⟩ := ab_s (X := X ++ [(r, .inr (6, [.int (nI nr), .ref p, .int 0, .int 0, .int 0, .int 0, .int 0, .null, .null, .int 0, .int 0, .int 0, .int 0, .int 0, .int 0, .int 0, .int 0])), (p, .inr (5, [.ref a1, .ref a2, .ref a3, .ref a4, .ref a5, .int 0, .int 0, .int 0]))]) (a := a1) (e := .inl (cy 0, 16, .inl (fun _ => 0))) 12 (nI (8 * nr + 1)) (by decide) rfl (by rw [List.append_assoc X]; exact hP) (by rw [List.append_assoc X]; exact hD) hL4
  have m1 := mlast L4 a1
  have k1 := va_up_self K4 a1 12
  have n1 := va_up_self nm4 a1 (nI (8 * nr + 1))
  generalize va_up K4 a1 12 = K5 at *
  generalize va_up nm4 a1 (nI (8 * nr + 1)) = nm5 at *
  generalize L4 ++ [a1] = L5 at *
  have y2 := x5 a2 m2
  have y3 := (EX_tr x4 x5) a3 m3
  have y4 := (EX_tr x3 (EX_tr x4 x5)) a4 m4
  have y5 := (EX_tr x2 (EX_tr x3 (EX_tr x4 x5))) a5 m5
  obtain ⟨hP, hD, hL6, x6⟩ := ab_p (X := X ++ [(r, .inr (6, [.int (nI nr), .ref p, .int 0, .int 0, .int 0, .int 0, .int 0, .null, .null, .int 0, .int 0, .int 0, .int 0, .int 0, .int 0, .int 0, .int 0]))]) (a := p) (nI nr) (by rw [List.append_assoc X]; exact hP) (by rw [List.append_assoc X]; exact hD) hL5 ⟨m1, k1⟩ ⟨y2.1, y2.2.1.trans k2⟩ ⟨y3.1, y3.2.1.trans k3⟩ ⟨y4.1, y4.2.1.trans k4⟩ ⟨y5.1, y5.2.1.trans k5⟩
  have mp := mlast L5 p
  have kp := va_up_self K5 p 5
  have np := va_up_self nm5 p (nI nr)
  have cq : ∀ j, 1 ≤ j → j ≤ 5 → cpl c p a1 a2 a3 a4 a5 j p = if j = 1 then a1 else if j = 2 then a2 else if j = 3 then a3 else if j = 4 then a4 else a5 := fun j _ _ => if_pos rfl
  generalize va_up K5 p 5 = K6 at *
  generalize va_up nm5 p (nI nr) = nm6 at *
  generalize L5 ++ [p] = L6 at *
  generalize cpl c p a1 a2 a3 a4 a5 = c6 at *
  obtain ⟨hP, hD, hL7, x7⟩ := ab_r (a := r) (p := p) (nI nr) hP hD hL6 ⟨mp, kp⟩
  have z1 := (EX_tr x6 x7) a1 m1
  have z2 := (EX_tr x6 x7) a2 y2.1
  have z3 := (EX_tr x6 x7) a3 y3.1
  have z4 := (EX_tr x6 x7) a4 y4.1
  have z5 := (EX_tr x6 x7) a5 y5.1
  have zp := x7 p mp
  obtain ⟨g1, g2, g3, g4⟩ := GG_ex hG hL7 (EX_tr x1 (EX_tr x2 (EX_tr x3 (EX_tr x4 (EX_tr x5 (EX_tr x6 x7))))))
  refine ⟨_, _, _, _, hP, hD, g1, g2, g3, fun i hi => ?_⟩
  by_cases e : i = nr
  · subst e
    have c0 : crd c6 r p 0 r = p := if_pos rfl
    refine ⟨r, va_up_self _ _ _, mlast _ _, va_up_self _ _ _, va_up_self _ _ _, ?_, fun j hj hj2 => ?_⟩
    · rw [c0, zp.2.2.1]; exact np
    · rw [c0, zp.2.2.2, cq j hj hj2]
      rcases (show j = 1 ∨ j = 2 ∨ j = 3 ∨ j = 4 ∨ j = 5 by omega) with rfl | rfl | rfl | rfl | rfl
      · exact z1.2.2.1.trans n1
      · exact z2.2.2.1.trans (y2.2.2.1.trans n2)
      · exact z3.2.2.1.trans (y3.2.2.1.trans n3)
      · exact z4.2.2.1.trans (y4.2.2.1.trans n4)
      · exact z5.2.2.1.trans (y5.2.2.1.trans n5)
  · obtain ⟨b, h1, h2⟩ := g4 i (by omega)
    exact ⟨b, (va_up_ne _ _ e).trans h1, h2⟩
/-- a worker joins -/
theorem gg_work {nd nb nr : Nat} {fd fb fr : Nat → Option Nat} (v : Int32) (hP : va_P D vwCl ((X ++ [(a, .inr (8, [.null, .null, .int 0]))]) ++ va_pl L (f0 cy K c nm)) H) (hD : va_D A ((X ++ [(a, .inr (8, [.null, .null, .int 0]))]) ++ va_pl L (f0 cy K c nm))) (hG : GG nd nb nr L K c nm fd fb fr) : ∃ (K' : Nat → Nat) (c' : Nat → Nat → Nat) (nm' : Nat → Int32), va_P D vwCl (X ++ va_pl (L ++ [a]) (f0 cy K' c' nm')) H ∧ va_D A (X ++ va_pl (L ++ [a]) (f0 cy K' c' nm')) ∧ GG nd nb nr (L ++ [a]) K' c' nm' fd fb fr ∧ EX L K c nm (L ++ [a]) K' c' nm' ∧ a ∈ L ++ [a] ∧ K' a = 8 ∧ nm' a = v := by
  obtain ⟨h1, h2, h3, h4⟩ := ab_s 8 v (by decide) rfl hP hD hG.1
  exact ⟨_, _, _, h1, h2, GG_ex hG h3 h4, h4, List.mem_append_right _ (List.mem_singleton.mpr rfl), va_up_self _ _ _, va_up_self _ _ _⟩
end CPL
/-- the room as it is made -/
def INI (L : List Nat) (K : Nat → Nat) (c : Nat → Nat → Nat) (nm : Nat → Int32) (g : Nat → Nat → Option Nat) : Prop := GG 12 40 20 L K c nm (g 0) (g 1) (g 2) ∧ GA (g 3) 8 0 4 L K nm ∧ GA (g 4) 8 10 3 L K nm
abbrev TU : Type := (Nat → Nat) × (Nat → Nat → Option Nat) × List Nat × (Nat → Nat) × (Nat → Nat → Nat) × (Nat → Int32)
def N0 (k : Nat) : Nat := if k = 3 then 2 else if k = 4 then 1 else 0
def n0 (k : Nat) : Int32 := if k = 0 then 2 else if k = 2 then -1 else 0
abbrev WI (a : Nat) (cy : Nat → ClassId) (u : TU) : va_W := XW (fun k => if k = 0 then a else u.1 k) cy u.2.1 N0 n0 (fun _ _ => 0) (fun _ _ => none) ++ va_pl u.2.2.1 (f0 cy u.2.2.2.1 u.2.2.2.2.1 u.2.2.2.2.2)
