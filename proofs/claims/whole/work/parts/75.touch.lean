theorem BR_44 {T a c : Nat} {V W : jV} {x : Int32} (h : BR T a c V W) : BR T a c (up V 15 a 4 x) (up W 44 0 a x) := by
  obtain ⟨h1, h2, h3, h4, h5, h6, h7⟩ := h
  refine ⟨h1, h2, h3, by simpa [up] using h4, by simpa [up] using h5, by simp [up], fun j hj => h7 j hj⟩
theorem BR_drp {T a c : Nat} {V W : jV} {r : Int32} (h : BR T a c V W) (hr : W 28 0 a = r) : BR T a c (drpV V a c r) (drpY W a c) := by
  have h16 : BR T a c V (up W 20 0 16 (W 20 0 16 + W 28 0 a)) := BR_congr h (fun k j _ => rfl) (fun k j z => by unfold up; rw [if_neg (by omega)])
  have e44 : W 44 0 a = V 15 a 4 := h.2.2.2.2.2.1
  unfold drpV drpY
  rw [e44, hr] at *
  split
  · exact BR_44 h16
  · exact BR_blt (BR_44 (BR_44 h16))
theorem drpV_0 {V : jV} {a c k : Nat} {r : Int32} : drpV V a c r 16 a k = 0 ↔ V 16 a k = 0 := by
  unfold drpV
  split
  · exact Iff.rfl
  · rcases (blt_16 (V := up (up V 15 a 4 (V 15 a 4 + r)) 15 a 4 (V 15 a 4 + r - 12)) (i := a) (j := k) c).1 with w | ⟨w1, w2⟩
    · rw [w]; exact Iff.rfl
    · rw [w2]
      have w3 : V 16 a k = 1 := w1
      rw [w3]
      exact ⟨fun z => absurd z (by decide), fun z => absurd z (by decide)⟩
theorem drpY_o {W : jV} {a c k b : Nat} (hc : c ≤ 4) (h1 : ¬ (k = 20 ∧ b = 16)) (h2 : ¬ (k = 44 ∧ b = a)) (h3 : ∀ j, j < 4 → ¬ (k = 48 ∧ b = 4 * a + j)) : drpY W a c k 0 b = W k 0 b := by
  unfold drpY
  split
  · unfold up; rw [if_neg (by omega), if_neg (by omega)]
  · rw [blY_o h3 c hc]; unfold up; rw [if_neg (by omega), if_neg (by omega), if_neg (by omega)]
theorem drpY_16 {W : jV} {a c : Nat} (hc : c ≤ 4) : drpY W a c 20 0 16 = W 20 0 16 + W 28 0 a := by
  unfold drpY
  split
  · simp [up]
  · rw [blY_o (by omega) c hc]; simp [up]
theorem FarB_drp {a c : Nat} {V W : jV} {r : Int32} (hc : c ≤ 4) : FarB a V (drpV V a c r) W (drpY W a c) := by
  refine ⟨fun k i b h1 h2 h3 => ?_, fun k i b h1 h2 h3 h4 => drpY_o hc (by omega) (by omega) (by omega), fun k i h1 h2 h3 => drpY_o hc (by omega) (by omega) (by omega)⟩
  unfold drpV
  split
  · unfold up; rw [if_neg (by omega)]
  · by_cases e : k = 16
    · subst e
      rw [(blt_16 c).2 i h1]; unfold up; rw [if_neg (by omega), if_neg (by omega)]
    · rw [blt_other e]; unfold up; rw [if_neg (by omega), if_neg (by omega)]
theorem FarB_congr {a : Nat} {V V' W W' : jV} (hV : ∀ k i j, (6 ≤ k ∧ k ≤ 9 ∨ 15 ≤ k ∧ k ≤ 17) → V' k i j = V k i j) (hW : ∀ k j, (42 ≤ k ∧ k ≤ 49) → W' k 0 j = W k 0 j) : FarB a V V' W W' :=
  ⟨fun k i j _ _ z => hV k i j z, fun k i j _ _ _ z => hW k _ (by omega), fun k i _ _ z => hW k i (by omega)⟩
/-- touchUp: the line j of the board a, paint of the tin g -/
theorem Inv_touch {T n a j q t g : Nat} {V W : jV} (h : Inv T n V W) (ha : a < n) (hj : j < tn (V 6 a 3)) (hs : ¬ V 16 a j = 0) (hq : q < 2) (r : TR q t V W) (hg : g < t) :
    Inv T n (mrdV (up (tkV V q 5 g t) 0 0 9 (V 0 0 9 + 5)) a j (V 0 0 7)) (mrdY (tkY W q 5 g) (4 * a + j)) := by
  obtain ⟨hA, hB, hC, hD, hE⟩ := h
  obtain ⟨s1, s2, s3⟩ := ID_cnt hD ha
  have hn := hA.1
  have e7 : V 0 0 7 = nI T := hD.1
  rw [e7]
  have fA : ∀ k i b, ¬ k = 4 → ¬ k = 5 → ¬ (k = 0 ∧ b = 9) → up (tkV V q 5 g t) 0 0 9 (V 0 0 9 + 5) k i b = V k i b := fun k i b z1 z2 z3 => by
    unfold up; rw [if_neg (by omega)]; exact tk_other (Or.inr ⟨z1, z2⟩)
  have fB : ∀ k b, ¬ k = 34 → ¬ k = 35 → ¬ (k = 20 ∧ b = 17) → tkY W q 5 g k 0 b = W k 0 b := fun k b z1 z2 z3 => tk_o z1 z2 z3
  obtain ⟨i1, i2⟩ := IE_take (x := 5) hE hq r hg
  generalize hAA : up (tkV V q 5 g t) 0 0 9 (V 0 0 9 + 5) = A at *
  generalize hBB : tkY W q 5 g = B at *
  have gA : ∀ k i b, ¬ (k = 16 ∧ i = a ∧ b = j) → ¬ (k = 17 ∧ i = a ∧ b = j) → mrdV A a j (nI T) k i b = A k i b := fun k i b z1 z2 => by unfold mrdV up; rw [if_neg z2, if_neg z1]
  have gB : ∀ k b, ¬ (k = 20 ∧ b = 15) → ¬ (k = 48 ∧ b = 4 * a + j) → ¬ (k = 49 ∧ b = 4 * a + j) → mrdY B (4 * a + j) k 0 b = B k 0 b := fun k b z1 z2 z3 => by unfold mrdY up; rw [if_neg (by omega), if_neg (by omega), if_neg (by omega)]
  have tA : ∀ k i b, (k = 4 ∨ k = 5) → A k i b = tkV V q 5 g t k i b := fun k i b z => by rw [← hAA]; unfold up; rw [if_neg (by omega)]
  have b2 : BR T a (tn (V 6 a 3)) A B := BR_congr s3 (fun k i z => fA k a i (by omega) (by omega) (by omega)) (fun k i z => fB k i (by omega) (by omega) (by omega))
  have b3 := BR_mrd b2 hj ((fB 20 2 (by decide) (by decide) (by omega)).trans hD.2.1)
  have F : FarB a V (mrdV A a j (nI T)) W (mrdY B (4 * a + j)) := FarB_trans (FarB_congr (fun k i b z => fA k i b (by omega) (by omega) (by omega)) (fun k b z => fB k b (by omega) (by omega) (by omega))) (FarB_mrd (by omega))
  have hJ : JB n (mrdV A a j (nI T)) (mrdY B (4 * a + j)) := by
    refine JB_board hD.2.2.2.2.1 hn s1 b3.2.1 s2 (fun k hk => ?_) F ?_ ?_
    · by_cases e : k = j
      · subst e
        have w : mrdV A a k (nI T) 16 a k = 1 := by simp [mrdV, up]
        rw [w]
        exact ⟨fun z => absurd z (by decide), fun z => absurd z hs⟩
      · rw [gA 16 a k (by omega) (by omega), fA 16 a k (by decide) (by decide) (by omega)]
    · rw [gA 0 0 8 (by omega) (by omega), fA 0 0 8 (by decide) (by decide) (by omega)]
    · rw [gB 20 20 (by omega) (by omega) (by omega), fB 20 20 (by decide) (by decide) (by omega)]
  refine ⟨IA_congr hA (fun k i b z => ?_) (fun k b z => ?_), IB_congr hB (fun k i b z => ?_) (fun k b z => ?_), IC_congr hC (fun i b => ?_) (fun b => ?_), ID_board hD hn ha b3 F ?_ ?_ ?_ hJ, fun q' hq' => ?_, ?_, ?_, ?_⟩
  · rw [gA k i b (by omega) (by omega), fA k i b (by omega) (by omega) (by omega)]
  · rw [gB k b (by omega) (by omega) (by omega), fB k b (by omega) (by omega) (by omega)]
  · rw [gA k i b (by omega) (by omega), fA k i b (by omega) (by omega) (by omega)]
  · rw [gB k b (by omega) (by omega) (by omega), fB k b (by omega) (by omega) (by omega)]
  · rw [gA 3 i b (by omega) (by omega), fA 3 i b (by omega) (by omega) (by omega)]
  · rw [gB 39 b (by omega) (by omega) (by omega), fB 39 b (by omega) (by omega) (by omega)]
  · rw [gA 0 0 7 (by omega) (by omega), fA 0 0 7 (by omega) (by omega) (by omega)]
  · rw [gB 20 2 (by omega) (by omega) (by omega), fB 20 2 (by omega) (by omega) (by omega)]
  · rw [gB 20 19 (by omega) (by omega) (by omega), fB 20 19 (by omega) (by omega) (by omega), gA 0 0 8 (by omega) (by omega), fA 0 0 8 (by omega) (by omega) (by omega)]; exact hD.2.2.1
  · obtain ⟨t', w⟩ := i1 q' hq'
    refine ⟨t', TR_congr w (fun k b z => ?_) (fun k b z => ?_)⟩
    · rw [gA k q' b (by omega) (by omega), tA k q' b z]
    · rw [gB k b (by omega) (by omega) (by omega)]
  · have w1 : mrdY B (4 * a + j) 20 0 15 = B 20 0 15 + 5 := by simp [mrdY, up]
    have w2 : A 0 0 9 = V 0 0 9 + 5 := by rw [← hAA]; simp [up]
    rw [w1, fB 20 15 (by omega) (by omega) (by omega), gA 0 0 9 (by omega) (by omega), w2, hE.2.1]
  · rw [gB 20 16 (by omega) (by omega) (by omega), fB 20 16 (by omega) (by omega) (by omega), gA 0 0 10 (by omega) (by omega), fA 0 0 10 (by omega) (by omega) (by omega)]; exact hE.2.2.1
  · rw [gB 20 17 (by omega) (by omega) (by omega), gA 4 0 2 (by omega) (by omega), gA 4 1 2 (by omega) (by omega), tA 4 0 2 (Or.inl rfl), tA 4 1 2 (Or.inl rfl)]; exact i2
