theorem fil6_o {V : jV} {a cnt : Nat} {d : Int32} {k i j : Nat} (h : ¬ (6 ≤ k ∧ k ≤ 9 ∧ i = 6)) : filV V 6 a cnt d k i j = V k i j := fil_other (by omega)
theorem Inv_fil {T n a cnt : Nat} {d : Int32} {V W : jV} (h : Inv T n V W) : Inv T n (filV V 6 a cnt d) W := Inv_congr h (fun k i j _ z => fil6_o z) (fun _ _ _ _ _ => rfl)
theorem Inv_tab {T n a cnt : Nat} {d : Int32} {V W : jV} (h : Inv T n V W) : Inv T n V (tabY W a cnt d) := Inv_congr h (fun _ _ _ _ _ => rfl) (fun k j z1 z2 z3 => tab_o (by omega) (by omega) (by omega))
theorem Inv_thr {T n : Nat} {x : Int32} {V W : jV} (h : Inv T n V W) : Inv T n V (thr W x) := Inv_congr h (fun _ _ _ _ _ => rfl) (fun k j z1 z2 z3 => by unfold thr up; rw [if_neg (by omega)])
theorem Inv_shw {T n a : Nat} {V W : jV} (h : Inv T n V W) : Inv T n (shwV V a) (rgV W a) := by
  have h1 : Inv T n (shwV V a) W := by
    unfold shwV; split
    · exact Inv_fil h
    · exact h
  unfold rgV; split
  · exact Inv_tab h1
  · exact h1
theorem rev_eq {x y : Int32} : 1 - x = 1 - y ↔ x = y := by
  constructor
  · intro h; grind
  · intro h; rw [h]
/-- is the board right: both answer alike -/
theorem right_rel {T n a : Nat} {V W : jV} (h : Inv T n V W) (hT : T ≤ 99999) (ha : a < n) : shwB V a = bI (rgA W a) := by
  obtain ⟨hA, hB, hC, hD, hE⟩ := h
  have hn := hA.1
  obtain ⟨s1, s2, s3⟩ := ID_cnt hD ha
  have y43 : tn (W 43 0 a) = tn (V 6 a 3) := by rw [s3.2.2.1, tn_nI (by omega)]
  have e42 : W 42 0 a = V 15 a 3 := s3.2.2.2.1
  have um : umY W a (tn (V 6 a 3)) = umk V a (tn (V 6 a 3)) := um_rel _ (fun j hj => (s3.2.2.2.2.2.2 j hj).2.2.2.2.1)
  unfold shwB rgA rgC
  rw [y43, um, e42, hD.1, hD.2.1]
  by_cases z : V 15 a 3 = nI T ∧ umk V a (tn (V 6 a 3)) = 0
  · rw [if_pos z, decide_eq_true z.1, decide_eq_true z.2, if_pos (by decide)]
    unfold rgT
    rw [hD.2.1, (IB_cnt hB ha).1]
    obtain ⟨w, w1, w4, _, f6, t29, hrow⟩ := tab_inv 6 hA hB ha hT
    have fo : ∀ k j, filV V 6 a (tn (V 11 a 3)) (nI T) k a j = V k a j := fun k j => fil6_o (by omega)
    have to : ∀ k j, k < 50 → ¬ (k = 20 ∧ j = 29) → tabY W a (tn (V 11 a 3)) (nI T) k 0 j = W k 0 j := fun k j z1 z2 => tab_o (by omega) (by omega) z2
    have tr : rangeY (tabY W a (tn (V 11 a 3)) (nI T)) a (nI T) = rangeY W a (nI T) := by
      unfold rangeY; rw [to 26 a (by decide) (by omega), to 27 a (by decide) (by omega)]
    unfold mtc
    rw [f6, fo, s1]
    generalize filV V 6 a (tn (V 11 a 3)) (nI T) = F at *
    generalize hZ : tabY W a (tn (V 11 a 3)) (nI T) = Z at *
    rw [t29, tn_nI (n := tn (V 6 a 3)) (by omega), tn_nI (n := w) (by omega)]
    have z43 : Z 43 0 a = nI (tn (V 6 a 3)) := (to 43 a (by decide) (by omega)).trans s3.2.2.1
    by_cases e : tn (V 6 a 3) = w
    · have key : ∀ j, j ≤ w → rgB Z a j = mtB F a 6 j := by
        intro j
        induction j with
        | zero =>
          intro _
          rw [rgB, mtB, t29, z43, e]
          exact decide_eq_true rfl
        | succ j ih =>
          intro hj
          obtain ⟨q1, q2, q3, q4⟩ := hrow j (by omega)
          obtain ⟨l1, l2, l3, l4, _⟩ := s3.2.2.2.2.2.2 j (by omega)
          have c45 : decide (Z 45 0 (4 * a + j) = Z 52 0 j) = decide (V 9 a j = F 9 6 j) := by
            rw [to 45 _ (by decide) (by omega), l2, q2]
            exact decide_eq_decide.mpr rev_eq
          have c46 : decide (Z 46 0 (4 * a + j) = Z 51 0 j) = decide (V 7 a j = F 7 6 j) := by
            rw [to 46 _ (by decide) (by omega), l3, q1]
          have c47 : decide (Z 47 0 (4 * a + j) = rgL Z Z a (Z 20 0 2) j) = decide (V 8 a j = F 8 6 j) := by
            unfold rgL
            rw [to 47 _ (by decide) (by omega), l4, to 20 2 (by decide) (by omega), hD.2.1, tr, to 25 a (by decide) (by omega), q4]
          rw [rgB, mtB, ih (by omega), c45, c46, c47, fo, fo, fo]
          cases decide (V 9 a j = F 9 6 j) <;> cases decide (V 7 a j = F 7 6 j) <;> cases decide (V 8 a j = F 8 6 j) <;> rfl
      rw [e, key w (Nat.le_refl w)]
      by_cases m : mtB F a 6 w = true
      · rw [if_pos ⟨rfl, m⟩, m]; rfl
      · rw [if_neg (fun q => m q.2), Bool.not_eq_true _ |>.mp m]; rfl
    · have ne : ¬ nI (tn (V 6 a 3)) = nI w := fun q => e ((neq (by omega) (by omega) rfl rfl).mp q)
      have r0 : rgB Z a 0 = false := by
        rw [rgB, t29, z43]
        exact decide_eq_false (fun q => ne q.symm)
      rw [if_neg (fun q => ne q.1), rgB_f r0 w (by omega)]; rfl
  · rw [if_neg z]
    have : (decide (V 15 a 3 = nI T) && decide (umk V a (tn (V 6 a 3)) = 0)) = false := by
      by_cases z1 : V 15 a 3 = nI T
      · rw [decide_eq_false (fun q => z ⟨z1, q⟩), Bool.and_false]
      · rw [decide_eq_false z1, Bool.false_and]
    rw [this, if_neg (by decide)]; rfl
theorem rb_rel {T n : Nat} {V W : jV} (h : Inv T n V W) (hT : T ≤ 99999) : ∀ j, j ≤ n → (rbY W j).2 = (rbV j V).2 ∧ Inv T n (rbV j V).1 (rbY W j).1
  | 0, _ => ⟨rfl, Inv_thr h⟩
  | j + 1, hj => by
    obtain ⟨i1, i2⟩ := rb_rel h hT j (by omega)
    have r := right_rel i2 hT (a := j) (by omega)
    rw [rbY, rbV, r, i1]
    refine ⟨?_, Inv_shw i2⟩
    cases rgA (rbY W j).1 j
    · simp [bI]
    · simp [bI]
