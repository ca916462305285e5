/-- the first index, for two properties that agree -/
theorem fidx_congr {P P' : Nat → Bool} : ∀ {c : Nat}, (∀ j, j < c → P j = P' j) → fidx P c = fidx P' c
  | 0, _ => rfl
  | c + 1, h => by
    have ih := fidx_congr (c := c) (fun j hj => h j (by omega))
    rw [fidx, fidx, ih, h c (by omega)]
theorem fres_congr {P P' : Nat → Bool} {c : Nat} (h : ∀ j, j < c → P j = P' j) : fres P c = fres P' c := by unfold fres; rw [fidx_congr h]
theorem ahd_congr {o o' r r' : Nat → Int32} {n a b : Nat} (ho : ∀ j, j < n → o j = o' j) (hr : ∀ j, j < n → r j = r' j) (ha : a < n) (hb : b < n) : ahd o r a b = ahd o' r' a b := by
  unfold ahd; rw [ho a ha, ho b hb, hr a ha, hr b hb]
theorem obf_congr {o o' r r' : Nat → Int32} {n b : Nat} (ho : ∀ j, j < n → o j = o' j) (hr : ∀ j, j < n → r j = r' j) (hb : b < n) : ∀ j, j ≤ n → obf o r b j = obf o' r' b j
  | 0, _ => rfl
  | j + 1, hj => by rw [obf, obf, obf_congr ho hr hb j (by omega), ho j (by omega), ahd_congr ho hr (by omega) hb]
theorem wai_congr {o o' r r' : Nat → Int32} {n j : Nat} {x : Int32} (ho : ∀ j, j < n → o j = o' j) (hr : ∀ j, j < n → r j = r' j) (hj : j < n) : wai o r n x j = wai o' r' n x j := by
  unfold wai; rw [ho j hj, obf_congr ho hr hj n (Nat.le_refl n)]
theorem wno_congr {o o' : Nat → Int32} : ∀ n, (∀ j, j < n → o j = o' j) → wno o n = wno o' n
  | 0, _ => rfl
  | n + 1, h => by rw [wno, wno, wno_congr n (fun j hj => h j (by omega)), h n (by omega)]
theorem sumT_congr {a a' : Nat → Int32} : ∀ t, (∀ j, j < t → a j = a' j) → sumT a t = sumT a' t
  | 0, _ => rfl
  | t + 1, h => by rw [sumT, sumT, sumT_congr t (fun j hj => h j (by omega)), h t (by omega)]
/-- the pure part: what the class's memory V and the Model's memory W hold in common, pier by pier -/
def RelP (V W : jV) (i : Nat) : Prop :=
  (W 24 0 i = V 10 i 0 ∧ W 25 0 i = V 10 i 1 ∧ W 26 0 i = V 10 i 2 ∧ W 27 0 i = V 10 i 3 ∧ W 28 0 i = V 10 i 4) ∧
  (W 30 0 i = V 11 i 3 ∧ ∀ j, j < tn (V 11 i 3) → W 31 0 (6 * i + j) = V 12 i j ∧ W 32 0 (6 * i + j) = V 13 i j ∧ W 33 0 (6 * i + j) = V 14 i j) ∧
  W 39 0 i = V 3 0 i ∧
  (W 42 0 i = V 15 i 3 ∧ W 43 0 i = V 6 i 3 ∧ W 44 0 i = V 15 i 4 ∧ ∀ j, j < tn (V 6 i 3) → W 45 0 (4 * i + j) = 1 - V 9 i j ∧ W 46 0 (4 * i + j) = V 7 i j ∧ W 47 0 (4 * i + j) = V 8 i j ∧ W 48 0 (4 * i + j) = V 16 i j ∧ (V 16 i j = 1 → W 49 0 (4 * i + j) = V 17 i j))
/-- what lies outside the piers -/
def RelG (V W : jV) : Prop :=
  W 20 0 1 = V 0 0 1 ∧ W 20 0 2 = V 0 0 7 ∧ W 20 0 15 = V 0 0 9 ∧ W 20 0 16 = V 0 0 10 ∧ W 20 0 17 = V 4 0 2 + V 4 1 2 ∧ W 20 0 19 = V 0 0 8 ∧ (∀ f, f < 6 → W 29 0 f = V 2 0 f) ∧
  ∀ q, q < 2 → W 34 0 q = V 4 q 1 ∧ ∀ j, j < tn (V 4 q 1) → W 35 0 (12 * q + j) = V 5 q j
/-- the day's tide is of the same range -/
theorem range_rel {V W : jV} {i : Nat} (h : RelP V W i) (d : Int32) : rangeY W i d = rangeX V i d := by
  unfold rangeY rangeX; rw [h.1.2.2.1, h.1.2.2.2.1]
theorem corr_rel {V W : jV} {i : Nat} (h : RelP V W i) (hG : RelG V W) (hf : ∀ j, j < tn (V 11 i 3) → ∃ f, f < 6 ∧ V 12 i j = nI f) : corr (ymin W i) (ytru W i) (tn (V 11 i 3)) = corr (xmin V i) (xtru V i) (tn (V 11 i 3)) := by
  refine corr_eq (fun j hj => ?_)
  obtain ⟨e1, e2, _⟩ := h.2.1.2 j hj
  refine ⟨e2, ?_⟩
  show W 29 0 (tn (W 31 0 (6 * i + j))) = V 2 0 (tn (V 12 i j))
  rw [e1]
  exact hG.2.2.2.2.2.2.1 _ (tn_of (b := 6) (by decide) (hf j hj)).2
