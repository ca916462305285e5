/-- a tin more -/
theorem Inv_add {T n q t : Nat} {V W : jV} {v : Int32} (h : Inv T n V W) (hq : q < 2) (ht : V 4 q 1 = nI t) (h12 : t < 12) : Inv T n (addV V q t v) (up (up W 35 0 (12 * q + t) v) 34 0 q (W 34 0 q + 1)) := by
  have hV : ∀ k i j, ¬ (k = 4 ∧ i = q ∧ j = 1) → ¬ (k = 5 ∧ i = q ∧ j = t) → addV V q t v k i j = V k i j := fun k i j z1 z2 => by
    unfold addV up; rw [if_neg z1, if_neg z2]
  have hW : ∀ k j, ¬ (k = 34 ∧ j = q) → ¬ (k = 35 ∧ j = 12 * q + t) → up (up W 35 0 (12 * q + t) v) 34 0 q (W 34 0 q + 1) k 0 j = W k 0 j := fun k j z1 z2 => by
    unfold up; rw [if_neg (by omega), if_neg (by omega)]
  refine ⟨IA_congr h.1 (fun k i j z => hV k i j (by omega) (by omega)) (fun k j z => hW k j (by omega) (by omega)),
    IB_congr h.2.1 (fun k i j z => hV k i j (by omega) (by omega)) (fun k j z => hW k j (by omega) (by omega)),
    IC_congr h.2.2.1 (fun i j => hV 3 i j (by omega) (by omega)) (fun j => hW 39 j (by omega) (by omega)),
    ID_congr h.1.1 h.2.2.2.1 (fun k i j _ z => hV k i j (by omega) (by omega)) (fun k j z => hW k j (by omega) (by omega)), ?_⟩
  obtain ⟨h1, h2, h3, h4⟩ := h.2.2.2.2
  refine ⟨fun q' hq' => ?_, ?_, ?_, ?_⟩
  · obtain ⟨t', r1, r2, r3, r4⟩ := h1 q' hq'
    by_cases e : q' = q
    · subst e
      have et : t' = t := (neq (by omega) (by omega) rfl rfl).mp (r2.symm.trans ht)
      subst et
      refine ⟨t' + 1, by omega, ?_, ?_, fun j hj => ?_⟩
      · have : addV V q' t' v 4 q' 1 = V 4 q' 1 + 1 := by simp [addV, up]
        rw [this]; exact jx_add (b := 1) ht rfl
      · have : up (up W 35 0 (12 * q' + t') v) 34 0 q' (W 34 0 q' + 1) 34 0 q' = W 34 0 q' + 1 := by simp [up]
        rw [this]; exact jx_add (b := 1) r3 rfl
      · by_cases z : j = t'
        · subst z; simp [addV, up]
        · rw [hV 5 q' j (by omega) (by omega), hW 35 _ (by omega) (by omega)]; exact r4 j (by omega)
    · refine ⟨t', r1, (hV 4 q' 1 (by omega) (by omega)).trans r2, (hW 34 q' (by omega) (by omega)).trans r3, fun j hj => ?_⟩
      rw [hV 5 q' j (by omega) (by omega), hW 35 _ (by omega) (by omega)]; exact r4 j hj
  · rw [hW 20 15 (by omega) (by omega), hV 0 0 9 (by omega) (by omega)]; exact h2
  · rw [hW 20 16 (by omega) (by omega), hV 0 0 10 (by omega) (by omega)]; exact h3
  · rw [hW 20 17 (by omega) (by omega), hV 4 0 2 (by omega) (by omega), hV 4 1 2 (by omega) (by omega)]; exact h4
/-- an order written or taken away -/
theorem Inv_ord {T n a : Nat} {V W : jV} {x : Int32} (h : Inv T n V W) (ha : a < n) (hx : DB x) : Inv T n (up V 3 0 a x) (up W 39 0 a x) := by
  have hV : ∀ k i j, ¬ (k = 3 ∧ i = 0 ∧ j = a) → up V 3 0 a x k i j = V k i j := fun k i j z1 => by unfold up; rw [if_neg z1]
  have hW : ∀ k j, ¬ (k = 39 ∧ j = a) → up W 39 0 a x k 0 j = W k 0 j := fun k j z1 => by unfold up; rw [if_neg (by omega)]
  refine ⟨IA_congr h.1 (fun k i j z => hV k i j (by omega)) (fun k j z => hW k j (by omega)),
    IB_congr h.2.1 (fun k i j z => hV k i j (by omega)) (fun k j z => hW k j (by omega)), fun i hi => ?_,
    ID_congr h.1.1 h.2.2.2.1 (fun k i j _ z => hV k i j (by omega)) (fun k j z => hW k j (by omega)),
    IE_congr h.2.2.2.2 (fun k i j z => hV k i j (by omega)) (fun k j z => hW k j (by omega))⟩
  by_cases e : i = a
  · subst e
    have e1 : up V 3 0 i x 3 0 i = x := by simp [up]
    have e2 : up W 39 0 i x 39 0 i = x := by simp [up]
    rw [e1, e2]
    exact ⟨rfl, hx, fun z => absurd z (by omega)⟩
  · rw [hV 3 0 i (by omega), hW 39 i (by omega)]
    exact h.2.2.1 i hi
/-- the job given up, or ended -/
theorem Inv_job {T n : Nat} {V W : jV} (h : Inv T n V W) : Inv T n (up V 0 0 8 (-1)) (up W 20 0 19 (-1)) := by
  have hV : ∀ k i j, ¬ (k = 0 ∧ i = 0 ∧ j = 8) → up V 0 0 8 (-1) k i j = V k i j := fun k i j z1 => by unfold up; rw [if_neg z1]
  have hW : ∀ k j, ¬ (k = 20 ∧ j = 19) → up W 20 0 19 (-1) k 0 j = W k 0 j := fun k j z1 => by unfold up; rw [if_neg (by omega)]
  have hn := h.1.1
  refine ⟨IA_congr h.1 (fun k i j z => hV k i j (by omega)) (fun k j z => hW k j (by omega)),
    IB_congr h.2.1 (fun k i j z => hV k i j (by omega)) (fun k j z => hW k j (by omega)),
    IC_congr h.2.2.1 (fun i j => hV 3 i j (by omega)) (fun j => hW 39 j (by omega)), ?_,
    IE_congr h.2.2.2.2 (fun k i j z => hV k i j (by omega)) (fun k j z => hW k j (by omega))⟩
  obtain ⟨h1, h2, h3, h4, h5, h6⟩ := h.2.2.2.1
  refine ⟨(hV 0 0 7 (by omega)).trans h1, (hW 20 2 (by omega)).trans h2, ?_, fun i hi => ?_, Or.inl ?_, fun i q1 q2 => ?_⟩
  · simp [up]
  · obtain ⟨c, hc⟩ := h4 i hi
    exact ⟨c, BR_congr hc (fun k j z => hV k i j (by omega)) (fun k j z => hW k j (by omega))⟩
  · simp [up]
  · rw [hW 42 i (by omega), hW 43 i (by omega), hW 44 i (by omega)]; exact h6 i q1 q2
/-- the blank lines of a board whose lines 0 to j are blank -/
theorem bln_next {V : jV} {i j c : Nat} (hj : j < c) (h : ∀ k, k < c → (V 16 i k = 0 ↔ k ≤ j)) : ∀ u, u ≤ c → bln V i u = if u ≤ j + 1 then u else j + 1
  | 0, _ => by rw [bln, if_pos (by omega)]
  | u + 1, hu => by
    rw [bln, bln_next hj h u (by omega)]
    have q := h u (by omega)
    by_cases z : V 16 i u = 0
    · have := q.mp z
      rw [if_pos z, if_pos (show u ≤ j + 1 by omega), if_pos (by omega)]
    · have w : ¬ u ≤ j := fun k => z (q.mpr k)
      rw [if_neg (show ¬ u + 1 ≤ j + 1 by omega), if_neg z]
      split <;> omega
theorem JB_bln {T n : Nat} {V W : jV} (h : Inv T n V W) (hj : ¬ V 0 0 8 = -1) : ∃ a j, a < n ∧ V 0 0 8 = nI a ∧ W 20 0 19 = nI a ∧ W 20 0 20 = nI j ∧ bln V a (tn (V 6 a 3)) = j + 1 ∧ j < tn (V 6 a 3) ∧ ∀ k, k < tn (V 6 a 3) → (V 16 a k = 0 ↔ k ≤ j) := by
  rcases h.2.2.2.1.2.2.2.2.1 with q | ⟨a, j, c, e1, e2, e3, e4, e5, e6, e7⟩
  · exact absurd q hj
  · have e : tn (V 6 a 3) = c := by rw [e6]; exact tn_nI (by omega)
    refine ⟨a, j, e1, e4, h.2.2.2.1.2.2.1.trans e4, e5, ?_, by rw [e]; exact e2, by rw [e]; exact e7⟩
    rw [e, bln_next e2 e7 c (Nat.le_refl c)]
    split <;> omega
