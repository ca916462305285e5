/-- what the contracts ask of V and W, out of the invariant -/
theorem IB_RI {n i : Nat} {V W : jV} (h : IB n V W) (hi : i < n) : RI V i (tn (V 11 i 3)) := by
  obtain ⟨c, q, _⟩ := h.2.2.1 i hi
  have e : tn (V 11 i 3) = c := by rw [q.1]; exact tn_nI (by have := q.2.2.1; omega)
  rw [e]; exact ⟨q.1, q.2.2.1, q.2.2.2.2.2⟩
theorem QR_YR {i c : Nat} {V W : jV} (h : QR i V W c) : YR W i c := ⟨h.2.1, h.2.2.1, fun j hj => by rw [(h.2.2.2.1 j hj).1]; exact h.2.2.2.2.2 j hj⟩
theorem IB_YR {n i : Nat} {V W : jV} (h : IB n V W) (hi : i < n) : YR W i (tn (W 30 0 i)) := by
  obtain ⟨c, q, _⟩ := h.2.2.1 i hi
  have e : tn (W 30 0 i) = c := by rw [q.2.1]; exact tn_nI (by have := q.2.2.1; omega)
  rw [e]; exact QR_YR q
theorem IB_cnt {n i : Nat} {V W : jV} (h : IB n V W) (hi : i < n) : W 30 0 i = V 11 i 3 ∧ QR i V W (tn (V 11 i 3)) ∧ RB V i (tn (V 11 i 3)) := by
  obtain ⟨c, q, q2⟩ := h.2.2.1 i hi
  have e : tn (V 11 i 3) = c := by rw [q.1]; exact tn_nI (by have := q.2.2.1; omega)
  rw [e]; exact ⟨q.2.1.trans q.1.symm, q, q2⟩
theorem ID_cnt {T n i : Nat} {V W : jV} (h : ID T n V W) (hi : i < n) : V 6 i 3 = nI (tn (V 6 i 3)) ∧ tn (V 6 i 3) ≤ 4 ∧ BR T i (tn (V 6 i 3)) V W := by
  obtain ⟨c, q⟩ := h.2.2.2.1 i hi
  have e : tn (V 6 i 3) = c := by rw [q.2.1]; exact tn_nI (by have := q.1; omega)
  rw [e]; exact ⟨q.2.1, q.1, q⟩
theorem ID_Ycnt {T n i : Nat} {V W : jV} (h : ID T n V W) (hi : i < n) : W 43 0 i = nI (tn (V 6 i 3)) ∧ W 43 0 i = nI (tn (W 43 0 i)) ∧ tn (W 43 0 i) ≤ 4 := by
  obtain ⟨c, q⟩ := h.2.2.2.1 i hi
  have e : tn (V 6 i 3) = c := by rw [q.2.1]; exact tn_nI (by have := q.1; omega)
  have e2 : tn (W 43 0 i) = c := by rw [q.2.2.1]; exact tn_nI (by have := q.1; omega)
  rw [e, e2]; exact ⟨q.2.2.1, q.2.2.1, q.1⟩
theorem IE_cnt {q : Nat} {V W : jV} (h : IE V W) (hq : q < 2) : V 4 q 1 = nI (tn (V 4 q 1)) ∧ tn (V 4 q 1) ≤ 12 ∧ TR q (tn (V 4 q 1)) V W := by
  obtain ⟨t, z⟩ := h.1 q hq
  have e : tn (V 4 q 1) = t := by rw [z.2.1]; exact tn_nI (by have := z.1; omega)
  rw [e]; exact ⟨z.2.1, z.1, z⟩
theorem IE_YT {V W : jV} (h : IE V W) : YT W := by
  intro q hq
  obtain ⟨t, z⟩ := h.1 q hq
  have e : tn (W 34 0 q) = t := by rw [z.2.2.1]; exact tn_nI (by have := z.1; omega)
  rw [e]; exact ⟨z.2.2.1, z.1⟩
theorem Inv_XI {T n : Nat} {V W : jV} (h : Inv T n V W) : XI n V := by
  obtain ⟨hA, hB, hC, hD, hE⟩ := h
  refine ⟨hA.1, hA.2.1, fun i hi => IB_RI hB hi, fun i hi => ⟨(ID_cnt hD hi).1, (ID_cnt hD hi).2.1⟩, fun q hq => ⟨(IE_cnt hE hq).1, (IE_cnt hE hq).2.1⟩, ?_⟩
  rcases hD.2.2.2.2.1 with q | ⟨a, j, c, e1, e2, e3, e4, _⟩
  · exact Or.inl q
  · right
    have e : tn (V 0 0 8) = a := by rw [e4]; exact tn_nI (by have := hA.1; omega)
    rw [e]; exact ⟨e4, e1⟩
theorem Inv_YD {T n : Nat} {V W : jV} (h : Inv T n V W) : YD n W :=
  ⟨h.1.1, h.1.2.2.1, fun i hi => IB_YR h.2.1 hi, fun i hi => (ID_Ycnt h.2.2.2.1 hi).2⟩
theorem Inv_YJ {T n : Nat} {V W : jV} (h : Inv T n V W) : W 20 0 19 = -1 ∨ YJ n W := by
  obtain ⟨hA, hB, hC, hD, hE⟩ := h
  rcases hD.2.2.2.2.1 with q | ⟨a, j, c, e1, e2, e3, e4, e5, e6, _⟩
  · exact Or.inl (hD.2.2.1.trans q)
  · right
    obtain ⟨c', w⟩ := hD.2.2.2.1 a e1
    have hc : c' = c := by
      have z := w.2.1.symm.trans e6
      exact (neq (by have := w.1; omega) (by omega) rfl rfl).mp z
    subst hc
    have hl := w.2.2.2.2.2.2 j e2
    refine ⟨a, j, c', e1, e2, e3, hD.2.2.1.trans e4, e5, w.2.2.1, ?_⟩
    rcases hl.1 with z | z
    · right; rw [hl.2.1, z]; rfl
    · left; rw [hl.2.1, z]; rfl
theorem Inv_YP {T n : Nat} {V W : jV} (h : Inv T n V W) : YP n W :=
  ⟨h.1.1, h.1.2.2.1, fun i hi => IB_YR h.2.1 hi, IE_YT h.2.2.2.2, Inv_YJ h⟩
/-- the tide of a pier -/
theorem IA_range {n i : Nat} {V W : jV} (h : IA n V W) (hi : i < n) (d : Int32) : rangeY W i d = rangeX V i d := by
  obtain ⟨_, _, _, h3, h4, _⟩ := h.2.2.2 i hi
  unfold rangeY rangeX; rw [h3, h4]
/-- the correction of a pier -/
theorem QR_corr {i c : Nat} {V W : jV} (h : QR i V W c) : corr (ymin W i) (ytru W i) c = corr (xmin V i) (xtru V i) c := by
  obtain ⟨_, _, _, h4, h5, h6⟩ := h
  refine corr_eq (fun j hj => ?_)
  obtain ⟨e1, e2, _⟩ := h4 j hj
  refine ⟨e2, ?_⟩
  show W 29 0 (tn (W 31 0 (6 * i + j))) = V 2 0 (tn (V 12 i j))
  rw [e1]
  exact h5 _ (tn_of (b := 6) (by decide) (h6 j hj)).2
