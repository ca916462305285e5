theorem wcnt_pos {m : Nat} (hm : m < 745) : 1 ≤ wcnt (w0m (nI m)) (w0h (nI m)) := by
  rcases Nat.eq_zero_or_pos (wcnt (w0m (nI m)) (w0h (nI m))) with q | q
  · exfalso
    have h : (wst (w0m (nI m)) (w0h (nI m)) 0).1 < 1440 := (wst_lt hm (by decide)).mpr (by unfold wtm; split <;> omega)
    have hat := fidx_at (P := fun j => !decide ((wst (w0m (nI m)) (w0h (nI m)) j).1 < 1440)) (c := 4) (by
      show wcnt (w0m (nI m)) (w0h (nI m)) < 4
      rw [q]; decide)
    have e : fidx (fun j => !decide ((wst (w0m (nI m)) (w0h (nI m)) j).1 < 1440)) 4 = 0 := q
    rw [e, decide_eq_true h] at hat
    exact absurd hat (by decide)
  · exact q
/-- the tables of the class and of the Model, for the pier i on the day d -/
theorem tab_inv {n i d : Nat} {V W : jV} (ti : Nat) (hA : IA n V W) (hB : IB n V W) (hi : i < n) (hd : d ≤ 99999) :
    ∃ w, 1 ≤ w ∧ w ≤ 4 ∧ wcnt (w0m (mthX V i (tn (V 11 i 3)) (nI d) 0)) (w0h (mthX V i (tn (V 11 i 3)) (nI d) 0)) = w ∧ filV V ti i (tn (V 11 i 3)) (nI d) 6 ti 3 = nI w ∧ tabY W i (tn (V 11 i 3)) (nI d) 20 0 29 = nI w ∧
      ∀ j, j < w → tabY W i (tn (V 11 i 3)) (nI d) 51 0 j = filV V ti i (tn (V 11 i 3)) (nI d) 7 ti j ∧ tabY W i (tn (V 11 i 3)) (nI d) 52 0 j = 1 - filV V ti i (tn (V 11 i 3)) (nI d) 9 ti j ∧ (filV V ti i (tn (V 11 i 3)) (nI d) 9 ti j = 0 ∨ filV V ti i (tn (V 11 i 3)) (nI d) 9 ti j = 1) ∧
        filV V ti i (tn (V 11 i 3)) (nI d) 8 ti j = if tabY W i (tn (V 11 i 3)) (nI d) 52 0 j = 0 then W 25 0 i + rangeY W i (nI d) / 2 else W 25 0 i - rangeY W i (nI d) / 2 := by
  have o := (opp_arg hA hB hi hd (Nat.zero_le 1439)).1
  have o2 : (V 10 i 0 + corr (xmin V i) (xtru V i) (tn (V 11 i 3)) - (1440 * nI d + 0)).toInt = - (1440 * nI d - W 24 0 i - corr (ymin W i) (ytru W i) (tn (V 11 i 3))).toInt := by
    rw [show nI 0 = 0 from rfl, Int32.add_zero] at o
    rw [Int32.add_zero]; exact o
  obtain ⟨t1, t2⟩ := tab_rel (ti := ti) o2
  obtain ⟨m, hm, e1, e2⟩ := fmod_bhd o2
  have f1 : mthX V i (tn (V 11 i 3)) (nI d) 0 = nI m := e1
  have hp := wcnt_pos hm
  have h4 : wcnt (w0m (nI m)) (w0h (nI m)) ≤ 4 := fidx_le _ 4
  have hc : filV V ti i (tn (V 11 i 3)) (nI d) 6 ti 3 = nI (wcnt (w0m (nI m)) (w0h (nI m))) := by
    unfold filV; rw [f1]; exact tab_cnt
  refine ⟨wcnt (w0m (nI m)) (w0h (nI m)), hp, h4, by rw [f1], hc, t1.trans hc, fun j hj => ?_⟩
  have hj2 : j < wcnt (w0m (mthX V i (tn (V 11 i 3)) (nI d) 0)) (w0h (mthX V i (tn (V 11 i 3)) (nI d) 0)) := by rw [f1]; exact hj
  obtain ⟨u1, u2⟩ := t2 j (by rw [hc, tn_nI (by omega)]; exact hj)
  have u3 := fil_9_01 (ti := ti) hj2
  refine ⟨u1, u2, u3, ?_⟩
  obtain ⟨_, _, k3, _⟩ := hA.2.2.2 i hi
  rw [fil_8 hj2, u2, IA_range hA hi, k3]
  have u4 := fil_9 (ti := ti) hj2
  rw [← u4]
  rcases u3 with z | z
  · rw [z, if_pos rfl, if_neg (by decide)]
  · rw [z, if_neg (by decide), if_pos (by decide)]
/-- the minutes to the next high water -/
theorem mth_inv {n i d u : Nat} {V W : jV} (hA : IA n V W) (hB : IB n V W) (hi : i < n) (hd : d ≤ 99999) (hu : u ≤ 1439) :
    ∃ r, r < 745 ∧ mthX V i (tn (V 11 i 3)) (nI d) (nI u) = nI r ∧ (∀ j, j < r → ¬ behY W i (tn (V 11 i 3)) (1440 * nI d + nI u + nI j) = 0) ∧ behY W i (tn (V 11 i 3)) (1440 * nI d + nI u + nI r) = 0 := by
  obtain ⟨o1, o2⟩ := opp_arg hA hB hi hd hu
  obtain ⟨r, r1, r2, r3, r4⟩ := mth_rel o1 o2
  refine ⟨r, r1, r2, fun j hj => ?_, ?_⟩
  · unfold behY; rw [beh_sh]; exact r4 j hj
  · unfold behY; rw [beh_sh]; exact r3
