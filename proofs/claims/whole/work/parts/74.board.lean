/-- what an operation on the board of the pier a leaves of the other boards -/
def FarB (a : Nat) (V V' W W' : jV) : Prop := (∀ k i j, ¬ i = a → i < 6 → (6 ≤ k ∧ k ≤ 9 ∨ 15 ≤ k ∧ k ≤ 17) → V' k i j = V k i j) ∧ (∀ k i j, ¬ i = a → i < 6 → j < 4 → (45 ≤ k ∧ k ≤ 49) → W' k 0 (4 * i + j) = W k 0 (4 * i + j)) ∧ ∀ k i, ¬ i = a → i < 6 → (42 ≤ k ∧ k ≤ 44) → W' k 0 i = W k 0 i
theorem BR_far {T i a c : Nat} {V V' W W' : jV} (h : BR T i c V W) (hn : ¬ i = a) (h6 : i < 6) (hF : FarB a V V' W W') : BR T i c V' W' := by
  obtain ⟨h1, h2, h3, h4, h5, h6', h7⟩ := h
  obtain ⟨f1, f2, f3⟩ := hF
  refine ⟨h1, (f1 6 i 3 hn h6 (by omega)).trans h2, (f3 43 i hn h6 (by omega)).trans h3, ?_, ?_, ?_, fun j hj => LR_congr (h7 j hj) (fun k z => f1 k i j hn h6 (by omega)) (fun k z => f2 k i j hn h6 (by omega) z)⟩
  · rw [f3 42 i hn h6 (by omega), f1 15 i 3 hn h6 (by omega)]; exact h4
  · rw [f1 15 i 3 hn h6 (by omega)]; exact h5
  · rw [f3 44 i hn h6 (by omega), f1 15 i 4 hn h6 (by omega)]; exact h6'
theorem FarB_trans {a : Nat} {V V' V'' W W' W'' : jV} (h : FarB a V V' W W') (h' : FarB a V' V'' W' W'') : FarB a V V'' W W'' :=
  ⟨fun k i j p q r => (h'.1 k i j p q r).trans (h.1 k i j p q r), fun k i j p q r s => (h'.2.1 k i j p q r s).trans (h.2.1 k i j p q r s), fun k i p q r => (h'.2.2 k i p q r).trans (h.2.2 k i p q r)⟩
/-- boards, when one of them changed -/
theorem ID_board {T n a c : Nat} {V V' W W' : jV} (h : ID T n V W) (hn : n ≤ 6) (ha : a < n) (hB : BR T a c V' W') (hF : FarB a V V' W W') (h7 : V' 0 0 7 = V 0 0 7) (h2 : W' 20 0 2 = W 20 0 2) (h19 : W' 20 0 19 = V' 0 0 8) (hJ : JB n V' W') : ID T n V' W' := by
  refine ⟨h7.trans h.1, h2.trans h.2.1, h19, fun i hi => ?_, hJ, fun i q1 q2 => ?_⟩
  · by_cases e : i = a
    · subst e; exact ⟨c, hB⟩
    · obtain ⟨c', w⟩ := h.2.2.2.1 i hi
      exact ⟨c', BR_far w e (by omega) hF⟩
  · have e : ¬ i = a := by omega
    rw [hF.2.2 42 i e q2 (by omega), hF.2.2 43 i e q2 (by omega), hF.2.2 44 i e q2 (by omega)]
    exact h.2.2.2.2.2 i q1 q2
/-- the job, when a board changed but its blank lines stayed blank -/
theorem JB_board {n a c : Nat} {V V' W W' : jV} (h : JB n V W) (hn : n ≤ 6) (h6 : V 6 a 3 = nI c) (h6' : V' 6 a 3 = nI c) (hc : c ≤ 4) (hz : ∀ k, k < c → (V' 16 a k = 0 ↔ V 16 a k = 0)) (hF : FarB a V V' W W') (h8 : V' 0 0 8 = V 0 0 8) (h20 : W' 20 0 20 = W 20 0 20) : JB n V' W' := by
  rcases h with q | ⟨a', j, c', e1, e2, e3, e4, e5, e6, e7⟩
  · exact Or.inl (h8.trans q)
  · refine Or.inr ⟨a', j, c', e1, e2, e3, h8.trans e4, h20.trans e5, ?_, fun k hk => ?_⟩
    · by_cases e : a' = a
      · subst e; rw [h6', ← h6]; exact e6
      · exact (hF.1 6 a' 3 e (by omega) (by omega)).trans e6
    · by_cases e : a' = a
      · subst e
        have hcc : c' = c := (neq (by omega) (by omega) rfl rfl).mp (e6.symm.trans h6)
        subst hcc
        exact (hz k hk).trans (e7 k hk)
      · rw [hF.1 16 a' k e (by omega) (by omega)]; exact e7 k hk
/-- a line made readable -/
theorem BR_mrd {T a c j : Nat} {V W : jV} (h : BR T a c V W) (hj : j < c) (ht : W 20 0 2 = nI T) : BR T a c (mrdV V a j (nI T)) (mrdY W (4 * a + j)) := by
  obtain ⟨h1, h2, h3, h4, h5, h6, h7⟩ := h
  refine ⟨h1, h2, h3, h4, h5, h6, fun k hk => ?_⟩
  obtain ⟨l1, l2, l3, l4, l5, l6⟩ := h7 k hk
  refine ⟨l1, l2, l3, l4, ?_, ?_⟩
  · by_cases e : k = j
    · subst e; simp [mrdV, mrdY, up]
    · have e2 : ¬ 4 * a + k = 4 * a + j := by omega
      simpa [mrdV, mrdY, up, e, e2] using l5
  · by_cases e : k = j
    · subst e
      intro _
      have a1 : mrdY W (4 * a + k) 49 0 (4 * a + k) = W 20 0 2 := by simp [mrdY, up]
      have a2 : mrdV V a k (nI T) 17 a k = nI T := by simp [mrdV, up]
      rw [a1, a2, ht]
      exact ⟨rfl, T, by omega, by omega, rfl⟩
    · have e2 : ¬ 4 * a + k = 4 * a + j := by omega
      simpa [mrdV, mrdY, up, e, e2] using l6
theorem FarB_mrd {T a j : Nat} {V W : jV} (hj : j < 4) : FarB a V (mrdV V a j (nI T)) W (mrdY W (4 * a + j)) := by
  refine ⟨fun k i b h1 h2 h3 => ?_, fun k i b h1 h2 h3 h4 => ?_, fun k i h1 h2 h3 => ?_⟩
  · unfold mrdV up; rw [if_neg (by omega), if_neg (by omega)]
  · unfold mrdY up; rw [if_neg (by omega), if_neg (by omega), if_neg (by omega)]
  · unfold mrdY up; rw [if_neg (by omega), if_neg (by omega), if_neg (by omega)]
theorem blt_16 {V : jV} {i j : Nat} : ∀ c, (blt V i c 16 i j = V 16 i j ∨ (V 16 i j = 1 ∧ blt V i c 16 i j = 2)) ∧ ∀ a, ¬ a = i → blt V i c 16 a j = V 16 a j
  | 0 => ⟨Or.inl rfl, fun _ _ => rfl⟩
  | c + 1 => by
    rw [blt]
    by_cases e : V 16 i c = 1
    · rw [if_pos e]
      refine ⟨?_, fun a ha => ?_⟩
      · by_cases z : j = c
        · subst z; right; exact ⟨e, by simp [up]⟩
        · left; unfold up; rw [if_neg (by omega)]
      · unfold up; rw [if_neg (by omega)]
    · rw [if_neg e]; exact blt_16 c
theorem blY_o {W : jV} {i : Nat} {k b : Nat} (h : ∀ j, j < 4 → ¬ (k = 48 ∧ b = 4 * i + j)) : ∀ c, c ≤ 4 → blY W i c k 0 b = W k 0 b
  | 0, _ => rfl
  | c + 1, hc => by
    have := h c (by omega)
    rw [blY]
    split
    · unfold up; rw [if_neg (by omega)]
    · exact blY_o h c (by omega)
theorem BR_blt {T a c : Nat} {V W : jV} (h : BR T a c V W) : BR T a c (blt V a c) (blY W a c) := by
  obtain ⟨h1, h2, h3, h4, h5, h6, h7⟩ := h
  have hW : ∀ k b, (∀ j, j < 4 → ¬ (k = 48 ∧ b = 4 * a + j)) → blY W a c k 0 b = W k 0 b := fun k b z => blY_o z c h1
  refine ⟨h1, (blt_other (by decide)).trans h2, (hW 43 a (by omega)).trans h3, ?_, ?_, ?_, fun k hk => ?_⟩
  · rw [hW 42 a (by omega), blt_other (by decide)]; exact h4
  · rw [blt_other (by decide)]; exact h5
  · rw [hW 44 a (by omega), blt_other (by decide)]; exact h6
  · obtain ⟨l1, l2, l3, l4, l5, l6⟩ := h7 k hk
    refine ⟨?_, ?_, ?_, ?_, bl_rel (c0 := c) (fun j hj => (h7 j hj).2.2.2.2.1) c (Nat.le_refl c) k hk, fun z => ?_⟩
    · rw [blt_other (by decide)]; exact l1
    · rw [hW 45 _ (by omega), blt_other (by decide)]; exact l2
    · rw [hW 46 _ (by omega), blt_other (by decide)]; exact l3
    · rw [hW 47 _ (by omega), blt_other (by decide)]; exact l4
    · rw [hW 49 _ (by omega), blt_other (by decide)]
      rcases (blt_16 (V := V) (i := a) (j := k) c).1 with w | ⟨_, w⟩
      · exact l6 (w.symm.trans z)
      · rw [w] at z; exact absurd z (by decide)
theorem FarB_blt {a c : Nat} {V W : jV} (hc : c ≤ 4) : FarB a V (blt V a c) W (blY W a c) := by
  refine ⟨fun k i b h1 h2 h3 => ?_, fun k i b h1 h2 h3 h4 => ?_, fun k i h1 h2 h3 => ?_⟩
  · by_cases e : k = 16
    · subst e; exact (blt_16 c).2 i h1
    · exact blt_other e
  · exact blY_o (by omega) c hc
  · exact blY_o (by omega) c hc
