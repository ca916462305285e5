/-- sums that stay in their bounds -/
theorem ti_add {x y : Int32} (h1 : -2147483648 ≤ x.toInt + y.toInt) (h2 : x.toInt + y.toInt < 2147483648) : (x + y).toInt = x.toInt + y.toInt := by
  rw [Int32.toInt_add]; exact Int.bmod_eq_of_le_mul_two (by omega) (by omega)
theorem ti_sub {x y : Int32} (h1 : -2147483648 ≤ x.toInt - y.toInt) (h2 : x.toInt - y.toInt < 2147483648) : (x - y).toInt = x.toInt - y.toInt := by
  rw [Int32.toInt_sub]; exact Int.bmod_eq_of_le_mul_two (by omega) (by omega)
theorem ti_mul {x y : Int32} (h1 : -2147483648 ≤ x.toInt * y.toInt) (h2 : x.toInt * y.toInt < 2147483648) : (x * y).toInt = x.toInt * y.toInt := by
  rw [Int32.toInt_mul]; exact Int.bmod_eq_of_le_mul_two (by omega) (by omega)
theorem td_bound {a b : Int} (hb : 1 ≤ b) (h1 : -60 * b ≤ a) (h2 : a ≤ 60 * b) : -60 ≤ a.tdiv b ∧ a.tdiv b ≤ 60 := by
  have key : ∀ x : Int, 0 ≤ x → x ≤ 60 * b → 0 ≤ x.tdiv b ∧ x.tdiv b ≤ 60 := by
    intro x hx hx2
    rw [Int.tdiv_eq_ediv_of_nonneg hx]
    refine ⟨Int.ediv_nonneg hx (by omega), ?_⟩
    have q : b * (x / b) ≤ x := Int.mul_ediv_self_le (by omega)
    rcases Int.lt_or_le 60 (x / b) with w | w
    · have z : b * 61 ≤ b * (x / b) := Int.mul_le_mul_of_nonneg_left (by omega) (by omega)
      omega
    · exact w
  rcases Int.lt_or_le a 0 with w | w
  · have z := key (-a) (by omega) (by omega)
    rw [Int.neg_tdiv] at z
    omega
  · have z := key a w h2
    omega
theorem cw_bound {a w : Nat → Int32} : ∀ c, c ≤ 6 → (∀ j, j < c → (-60 ≤ (a j).toInt ∧ (a j).toInt ≤ 60) ∧ 1 ≤ (w j).toInt ∧ (w j).toInt ≤ 9) → ((c : Int) ≤ (cAll w c).toInt ∧ (cAll w c).toInt ≤ 9 * (c : Int)) ∧ -60 * (cAll w c).toInt ≤ (cSum a w c).toInt ∧ (cSum a w c).toInt ≤ 60 * (cAll w c).toInt
  | 0, _, _ => ⟨⟨Int.le_refl 0, Int.le_refl 0⟩, Int.le_refl 0, Int.le_refl 0⟩
  | c + 1, hc, h => by
    obtain ⟨⟨i1, i2⟩, i3, i4⟩ := cw_bound (a := a) (w := w) c (by omega) (fun j hj => h j (by omega))
    obtain ⟨⟨h1, h2⟩, h3, h4⟩ := h c (by omega)
    have m1 : (a c).toInt * (w c).toInt ≤ 60 * (w c).toInt := Int.mul_le_mul_of_nonneg_right h2 (by omega)
    have m2 : -60 * (w c).toInt ≤ (a c).toInt * (w c).toInt := Int.mul_le_mul_of_nonneg_right h1 (by omega)
    have e1 : (a c * w c).toInt = (a c).toInt * (w c).toInt := ti_mul (by omega) (by omega)
    rw [cAll, cSum]
    rw [ti_add (by omega) (by omega), ti_add (x := cSum a w c) (by omega) (by omega), e1]
    omega
/-- a correction has at most 60 minutes -/
theorem corr_bound {a w : Nat → Int32} {c : Nat} (hc : c ≤ 6) (h : ∀ j, j < c → (-60 ≤ (a j).toInt ∧ (a j).toInt ≤ 60) ∧ 1 ≤ (w j).toInt ∧ (w j).toInt ≤ 9) : -60 ≤ (corr a w c).toInt ∧ (corr a w c).toInt ≤ 60 := by
  obtain ⟨⟨i1, i2⟩, i3, i4⟩ := cw_bound c hc h
  unfold corr
  split
  · exact ⟨by decide, by decide⟩
  · rename_i z
    have z1 : ¬ (cAll w c).toInt = 0 := fun q => z (Int32.toInt_inj.mp (q.trans rfl))
    have t := td_bound (a := (cSum a w c).toInt) (b := (cAll w c).toInt) (by omega) i3 i4
    rw [Int32.toInt_div, Int.bmod_eq_of_le_mul_two (by omega) (by omega)]
    exact t
theorem IB_corr {n i : Nat} {V W : jV} (h : IB n V W) (hi : i < n) : (-60 ≤ (corr (xmin V i) (xtru V i) (tn (V 11 i 3))).toInt ∧ (corr (xmin V i) (xtru V i) (tn (V 11 i 3))).toInt ≤ 60) := by
  obtain ⟨e, q, r⟩ := IB_cnt h hi
  refine corr_bound q.2.2.1 (fun j hj => ⟨(r.1 j hj).1, ?_⟩)
  obtain ⟨t, t1, t2, t3⟩ := h.1 _ (tn_of (b := 6) (by decide) (q.2.2.2.2.2 j hj)).2
  show 1 ≤ (V 2 0 (tn (V 12 i j))).toInt ∧ (V 2 0 (tn (V 12 i j))).toInt ≤ 9
  rw [t3, nI_toInt (by omega)]; omega
theorem okA_0 {b1 b2 b3 b4 b5 : Int32} (h : okA b1 b2 b3 b4 b5) : 0 ≤ b1.toInt ∧ b1.toInt ≤ 744 := by
  obtain ⟨⟨h1, h2⟩, _⟩ := h
  exact ⟨Int32.le_iff_toInt_le.mp h1, Int32.le_iff_toInt_le.mp h2⟩
/-- the arguments of the class and of the Model, for a pier on a day, at a minute of it -/
theorem opp_arg {n i d u : Nat} {V W : jV} (hA : IA n V W) (hB : IB n V W) (hi : i < n) (hd : d ≤ 99999) (hu : u ≤ 1439) :
    (V 10 i 0 + corr (xmin V i) (xtru V i) (tn (V 11 i 3)) - (1440 * nI d + nI u)).toInt = - (1440 * nI d + nI u - W 24 0 i - corr (ymin W i) (ytru W i) (tn (V 11 i 3))).toInt ∧ (-1000000000 < (1440 * nI d + nI u - W 24 0 i - corr (ymin W i) (ytru W i) (tn (V 11 i 3))).toInt ∧ (1440 * nI d + nI u - W 24 0 i - corr (ymin W i) (ytru W i) (tn (V 11 i 3))).toInt < 1000000000) := by
  obtain ⟨k1, k2, _⟩ := hA.2.2.2 i hi
  obtain ⟨e, q, r⟩ := IB_cnt hB hi
  have kc := IB_corr hB hi
  have ka := okA_0 k1
  rw [QR_corr q, k2]
  have e1 : 1440 * nI d + nI u = nI (1440 * d + u) := jx_add (jx_mul (a := 1440) rfl rfl) rfl
  rw [e1]
  have e2 : (nI (1440 * d + u)).toInt = ((1440 * d + u : Nat) : Int) := nI_toInt (by omega)
  generalize corr (xmin V i) (xtru V i) (tn (V 11 i 3)) = C at *
  generalize nI (1440 * d + u) = N at *
  have s1 : (V 10 i 0 + C).toInt = (V 10 i 0).toInt + C.toInt := ti_add (by omega) (by omega)
  have s2 : (N - V 10 i 0).toInt = N.toInt - (V 10 i 0).toInt := ti_sub (by omega) (by omega)
  rw [ti_sub (x := V 10 i 0 + C) (by omega) (by omega), ti_sub (x := N - V 10 i 0) (by omega) (by omega), s1, s2]
  omega
