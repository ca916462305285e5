/-- what holds between the class's memory V and the Model's memory W, area by area; the piers first -/
def IA (n : Nat) (V W : jV) : Prop := n ≤ 6 ∧ V 0 0 1 = nI n ∧ W 20 0 1 = nI n ∧ ∀ i, i < n → okA (V 10 i 0) (V 10 i 1) (V 10 i 2) (V 10 i 3) (V 10 i 4) ∧ W 24 0 i = V 10 i 0 ∧ W 25 0 i = V 10 i 1 ∧ W 26 0 i = V 10 i 2 ∧ W 27 0 i = V 10 i 3 ∧ W 28 0 i = V 10 i 4
/-- the reports of the pier i: bounds, and no fisherman twice -/
def RB (V : jV) (i c : Nat) : Prop := (∀ j, j < c → (-60 ≤ (V 13 i j).toInt ∧ (V 13 i j).toInt ≤ 60) ∧ ∃ g, g ≤ 9 ∧ V 14 i j = nI g) ∧ ∀ j k, j < k → k < c → ¬ V 12 i j = V 12 i k
def TB (V : jV) : Prop := ∀ f, f < 6 → ∃ t, 1 ≤ t ∧ t ≤ 9 ∧ V 2 0 f = nI t
/-- trusts and reports -/
def IB (n : Nat) (V W : jV) : Prop := TB V ∧ (∀ f, f < 6 → W 29 0 f = V 2 0 f) ∧ (∀ i, i < n → ∃ c, QR i V W c ∧ RB V i c) ∧ ∀ i, n ≤ i → i < 6 → W 30 0 i = 0
def DB (x : Int32) : Prop := x = -1 ∨ ∃ d, d ≤ 99999 ∧ x = nI d
/-- orders -/
def IC (n : Nat) (V W : jV) : Prop := ∀ i, i < 6 → W 39 0 i = V 3 0 i ∧ DB (V 3 0 i) ∧ (n ≤ i → V 3 0 i = -1)
/-- a line j of the pier i's board, on the day T -/
def LR (T i j : Nat) (V W : jV) : Prop := (V 9 i j = 0 ∨ V 9 i j = 1) ∧ W 45 0 (4 * i + j) = 1 - V 9 i j ∧ W 46 0 (4 * i + j) = V 7 i j ∧ W 47 0 (4 * i + j) = V 8 i j ∧ W 48 0 (4 * i + j) = V 16 i j ∧ (V 16 i j = 1 → W 49 0 (4 * i + j) = V 17 i j ∧ ∃ v, v ≤ T ∧ T < v + 7 ∧ V 17 i j = nI v)
/-- a board of c lines -/
def BR (T i c : Nat) (V W : jV) : Prop := c ≤ 4 ∧ V 6 i 3 = nI c ∧ W 43 0 i = nI c ∧ W 42 0 i = V 15 i 3 ∧ DB (V 15 i 3) ∧ W 44 0 i = V 15 i 4 ∧ ∀ j, j < c → LR T i j V W
/-- the job: the line j is the next one -/
def JB (n : Nat) (V W : jV) : Prop := V 0 0 8 = -1 ∨ ∃ a j c, a < n ∧ j < c ∧ c ≤ 4 ∧ V 0 0 8 = nI a ∧ W 20 0 20 = nI j ∧ V 6 a 3 = nI c ∧ ∀ k, k < c → (V 16 a k = 0 ↔ k ≤ j)
/-- today, boards and the job -/
def ID (T n : Nat) (V W : jV) : Prop := V 0 0 7 = nI T ∧ W 20 0 2 = nI T ∧ W 20 0 19 = V 0 0 8 ∧ (∀ i, i < n → ∃ c, BR T i c V W) ∧ JB n V W ∧ ∀ i, n ≤ i → i < 6 → W 42 0 i = -1 ∧ W 43 0 i = 0 ∧ W 44 0 i = 0
def TR (q t : Nat) (V W : jV) : Prop := t ≤ 12 ∧ V 4 q 1 = nI t ∧ W 34 0 q = nI t ∧ ∀ j, j < t → W 35 0 (12 * q + j) = V 5 q j
/-- tins and paint -/
def IE (V W : jV) : Prop := (∀ q, q < 2 → ∃ t, TR q t V W) ∧ W 20 0 15 = V 0 0 9 ∧ W 20 0 16 = V 0 0 10 ∧ W 20 0 17 = V 4 0 2 + V 4 1 2
def Inv (T n : Nat) (V W : jV) : Prop := IA n V W ∧ IB n V W ∧ IC n V W ∧ ID T n V W ∧ IE V W
theorem IA_congr {n : Nat} {V V' W W' : jV} (h : IA n V W) (hV : ∀ k i j, (k = 10 ∨ k = 0 ∧ j = 1) → V' k i j = V k i j) (hW : ∀ k j, (k = 20 ∧ j = 1 ∨ 24 ≤ k ∧ k ≤ 28) → W' k 0 j = W k 0 j) : IA n V' W' := by
  obtain ⟨h1, h2, h3, h4⟩ := h
  refine ⟨h1, (hV 0 0 1 (by omega)).trans h2, (hW 20 1 (by omega)).trans h3, fun i hi => ?_⟩
  rw [hV 10 i 0 (Or.inl rfl), hV 10 i 1 (Or.inl rfl), hV 10 i 2 (Or.inl rfl), hV 10 i 3 (Or.inl rfl), hV 10 i 4 (Or.inl rfl), hW 24 i (by omega), hW 25 i (by omega), hW 26 i (by omega), hW 27 i (by omega), hW 28 i (by omega)]
  exact h4 i hi
theorem QR_congr {i c : Nat} {V V' W W' : jV} (h : QR i V W c) (hV : ∀ k j, (11 ≤ k ∧ k ≤ 14) → V' k i j = V k i j) (hV2 : ∀ j, V' 2 0 j = V 2 0 j) (hW : ∀ k j, (29 ≤ k ∧ k ≤ 33) → W' k 0 j = W k 0 j) : QR i V' W' c := by
  obtain ⟨h1, h2, h3, h4, h5, h6⟩ := h
  refine ⟨(hV 11 3 (by omega)).trans h1, (hW 30 i (by omega)).trans h2, h3, fun j hj => ?_, fun f hf => ?_, fun j hj => ?_⟩
  · rw [hW 31 _ (by omega), hW 32 _ (by omega), hW 33 _ (by omega), hV 12 _ (by omega), hV 13 _ (by omega), hV 14 _ (by omega)]; exact h4 j hj
  · rw [hW 29 _ (by omega), hV2]; exact h5 f hf
  · rw [hV 12 _ (by omega)]; exact h6 j hj
theorem RB_congr {V V' : jV} {i c : Nat} (h : RB V i c) (hV : ∀ k j, (12 ≤ k ∧ k ≤ 14) → V' k i j = V k i j) : RB V' i c := by
  refine ⟨fun j hj => ?_, fun j k hj hk => ?_⟩
  · rw [hV 13 j (by omega), hV 14 j (by omega)]; exact h.1 j hj
  · rw [hV 12 j (by omega), hV 12 k (by omega)]; exact h.2 j k hj hk
theorem IB_congr {n : Nat} {V V' W W' : jV} (h : IB n V W) (hV : ∀ k i j, (k = 2 ∨ 11 ≤ k ∧ k ≤ 14) → V' k i j = V k i j) (hW : ∀ k j, (29 ≤ k ∧ k ≤ 33) → W' k 0 j = W k 0 j) : IB n V' W' := by
  obtain ⟨h1, h2, h3, h4⟩ := h
  refine ⟨fun f hf => ?_, fun f hf => ?_, fun i hi => ?_, fun i h1 h2 => ?_⟩
  · rw [hV 2 0 f (by omega)]; exact h1 f hf
  · rw [hW 29 f (by omega), hV 2 0 f (by omega)]; exact h2 f hf
  · obtain ⟨c, q1, q2⟩ := h3 i hi
    exact ⟨c, QR_congr q1 (fun k j z => hV k i j (by omega)) (fun j => hV 2 0 j (by omega)) hW, RB_congr q2 (fun k j z => hV k i j (by omega))⟩
  · rw [hW 30 i (by omega)]; exact h4 i h1 h2
theorem IC_congr {n : Nat} {V V' W W' : jV} (h : IC n V W) (hV : ∀ i j, V' 3 i j = V 3 i j) (hW : ∀ j, W' 39 0 j = W 39 0 j) : IC n V' W' := by
  intro i hi; rw [hV, hW]; exact h i hi
theorem LR_congr {T i j : Nat} {V V' W W' : jV} (h : LR T i j V W) (hV : ∀ k, (k = 7 ∨ k = 8 ∨ k = 9 ∨ k = 16 ∨ k = 17) → V' k i j = V k i j) (hW : ∀ k, (45 ≤ k ∧ k ≤ 49) → W' k 0 (4 * i + j) = W k 0 (4 * i + j)) : LR T i j V' W' := by
  unfold LR at *
  rw [hV 9 (by omega), hV 7 (by omega), hV 8 (by omega), hV 16 (by omega), hV 17 (by omega), hW 45 (by omega), hW 46 (by omega), hW 47 (by omega), hW 48 (by omega), hW 49 (by omega)]
  exact h
theorem BR_congr {T i c : Nat} {V V' W W' : jV} (h : BR T i c V W) (hV : ∀ k j, (6 ≤ k ∧ k ≤ 9 ∨ 15 ≤ k ∧ k ≤ 17) → V' k i j = V k i j) (hW : ∀ k j, (42 ≤ k ∧ k ≤ 49) → W' k 0 j = W k 0 j) : BR T i c V' W' := by
  obtain ⟨h1, h2, h3, h4, h5, h6, h7⟩ := h
  refine ⟨h1, (hV 6 3 (by omega)).trans h2, (hW 43 i (by omega)).trans h3, ?_, ?_, ?_, fun j hj => LR_congr (h7 j hj) (fun k z => hV k j (by omega)) (fun k z => hW k _ (by omega))⟩
  · rw [hW 42 i (by omega), hV 15 3 (by omega)]; exact h4
  · rw [hV 15 3 (by omega)]; exact h5
  · rw [hW 44 i (by omega), hV 15 4 (by omega)]; exact h6
theorem ID_congr {T n : Nat} {V V' W W' : jV} (hn : n ≤ 6) (h : ID T n V W) (hV : ∀ k i j, i < 6 → (k = 0 ∧ (j = 7 ∨ j = 8) ∨ 6 ≤ k ∧ k ≤ 9 ∨ 15 ≤ k ∧ k ≤ 17) → V' k i j = V k i j) (hW : ∀ k j, (k = 20 ∧ (j = 2 ∨ j = 19 ∨ j = 20) ∨ 42 ≤ k ∧ k ≤ 49) → W' k 0 j = W k 0 j) : ID T n V' W' := by
  obtain ⟨h1, h2, h3, h4, h5, h6⟩ := h
  refine ⟨(hV 0 0 7 (by decide) (by omega)).trans h1, (hW 20 2 (by omega)).trans h2, ?_, fun i hi => ?_, ?_, fun i q1 q2 => ?_⟩
  · rw [hW 20 19 (by omega), hV 0 0 8 (by decide) (by omega)]; exact h3
  · obtain ⟨c, hc⟩ := h4 i hi
    exact ⟨c, BR_congr hc (fun k j z => hV k i j (by omega) (by omega)) (fun k j z => hW k j (by omega))⟩
  · unfold JB
    rw [hV 0 0 8 (by decide) (by omega), hW 20 20 (by omega)]
    rcases h5 with q | ⟨a, j, c, e1, e2, e3, e4, e5, e6, e7⟩
    · exact Or.inl q
    · refine Or.inr ⟨a, j, c, e1, e2, e3, e4, e5, (hV 6 a 3 (by omega) (by omega)).trans e6, fun k hk => ?_⟩
      rw [hV 16 a k (by omega) (by omega)]; exact e7 k hk
  · rw [hW 42 i (by omega), hW 43 i (by omega), hW 44 i (by omega)]; exact h6 i q1 q2
theorem TR_congr {q t : Nat} {V V' W W' : jV} (h : TR q t V W) (hV : ∀ k j, (k = 4 ∨ k = 5) → V' k q j = V k q j) (hW : ∀ k j, (k = 34 ∨ k = 35) → W' k 0 j = W k 0 j) : TR q t V' W' := by
  obtain ⟨h1, h2, h3, h4⟩ := h
  refine ⟨h1, (hV 4 1 (by omega)).trans h2, (hW 34 q (by omega)).trans h3, fun j hj => ?_⟩
  rw [hW 35 _ (by omega), hV 5 j (by omega)]; exact h4 j hj
theorem IE_congr {V V' W W' : jV} (h : IE V W) (hV : ∀ k i j, (k = 4 ∨ k = 5 ∨ k = 0 ∧ (j = 9 ∨ j = 10)) → V' k i j = V k i j) (hW : ∀ k j, (k = 34 ∨ k = 35 ∨ k = 20 ∧ (j = 15 ∨ j = 16 ∨ j = 17)) → W' k 0 j = W k 0 j) : IE V' W' := by
  obtain ⟨h1, h2, h3, h4⟩ := h
  refine ⟨fun q hq => ?_, ?_, ?_, ?_⟩
  · obtain ⟨t, ht⟩ := h1 q hq
    exact ⟨t, TR_congr ht (fun k j z => hV k q j (by omega)) (fun k j z => hW k j (by omega))⟩
  · rw [hW 20 15 (by omega), hV 0 0 9 (by omega)]; exact h2
  · rw [hW 20 16 (by omega), hV 0 0 10 (by omega)]; exact h3
  · rw [hW 20 17 (by omega), hV 4 0 2 (by omega), hV 4 1 2 (by omega)]; exact h4
/-- what the class does not read of V, and the Model does not read of W, may change: all of the other's, the scratch rows, thrown -/
theorem Inv_congr {T n : Nat} {V V' W W' : jV} (h : Inv T n V W) (hV : ∀ k i j, k < 20 → ¬ (6 ≤ k ∧ k ≤ 9 ∧ i = 6) → V' k i j = V k i j) (hW : ∀ k j, 20 ≤ k → k < 50 → ¬ (k = 20 ∧ (j = 0 ∨ j = 29)) → W' k 0 j = W k 0 j) : Inv T n V' W' :=
  ⟨IA_congr h.1 (fun k i j z => hV k i j (by omega) (by omega)) (fun k j z => hW k j (by omega) (by omega) (by omega)),
   IB_congr h.2.1 (fun k i j z => hV k i j (by omega) (by omega)) (fun k j z => hW k j (by omega) (by omega) (by omega)),
   IC_congr h.2.2.1 (fun i j => hV 3 i j (by omega) (by omega)) (fun j => hW 39 j (by omega) (by omega) (by omega)),
   ID_congr h.1.1 h.2.2.2.1 (fun k i j hi z => hV k i j (by omega) (by omega)) (fun k j z => hW k j (by omega) (by omega) (by omega)),
   IE_congr h.2.2.2.2 (fun k i j z => hV k i j (by omega) (by omega)) (fun k j z => hW k j (by omega) (by omega) (by omega))⟩
