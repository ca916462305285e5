theorem wst_lt {m j : Nat} (hm : m < 745) (h4 : j ≤ 4) : (wst (w0m (nI m)) (w0h (nI m)) j).1 < 1440 ↔ wtm m j < 1440 := by
  rw [wst_cl hm j]
  exact nlt (b := 1440) (by unfold wtm; split <;> omega) (by decide) rfl rfl
theorem wcnt_hk {β m : Nat} (hm : m < 745) (hb : β = (745 - m) % 745) : wcnt (w0m (nI m)) (w0h (nI m)) = hk β 1440 ∧ ∀ j, j < wcnt (w0m (nI m)) (w0h (nI m)) → wtm m j < 1440 := by
  obtain ⟨c, hc⟩ : ∃ c, c = wcnt (w0m (nI m)) (w0h (nI m)) := ⟨_, rfl⟩
  have hle : c ≤ 4 := by rw [hc]; exact fidx_le _ 4
  have h1 : ∀ j, j < c → wtm m j < 1440 := fun j hj => by
    have hf : (!decide ((wst (w0m (nI m)) (w0h (nI m)) j).1 < 1440)) = false := fidx_lt (P := fun j => !decide ((wst (w0m (nI m)) (w0h (nI m)) j).1 < 1440)) (c := 4) (by rw [hc] at hj; exact hj)
    have hf2 : (wst (w0m (nI m)) (w0h (nI m)) j).1 < 1440 := by simpa using hf
    exact (wst_lt hm (by omega)).mp hf2
  rw [← hc]
  refine ⟨?_, h1⟩
  have h2 : 1440 ≤ wtm m c := by
    rcases Nat.lt_or_ge c 4 with q | q
    · have hf : (!decide ((wst (w0m (nI m)) (w0h (nI m)) c).1 < 1440)) = true := by
        have := fidx_at (P := fun j => !decide ((wst (w0m (nI m)) (w0h (nI m)) j).1 < 1440)) (c := 4) (by rw [hc] at q; exact q)
        rw [hc]; exact this
      have hf2 : ¬ (wst (w0m (nI m)) (w0h (nI m)) c).1 < 1440 := by simpa using hf
      rcases Nat.lt_or_ge (wtm m c) 1440 with w | w
      · exact absurd ((wst_lt hm hle).mpr w) hf2
      · exact w
    · have : c = 4 := by omega
      rw [this]; unfold wtm; split <;> omega
  exact (hk_end hm hb h2 h1 hle).symm
/-- the rows of the two tables -/
theorem tab_rows {V : jV} {β m j : Nat} (hm : m < 745) (hb : β = (745 - m) % 745) (hj : j < wcnt (w0m (nI m)) (w0h (nI m))) :
    fT V β 1440 51 0 j = (wst (w0m (nI m)) (w0h (nI m)) j).1 ∧ fT V β 1440 52 0 j = 1 - (wst (w0m (nI m)) (w0h (nI m)) j).2 := by
  have h1 := (wcnt_hk hm hb).2 j hj
  obtain ⟨h4, h5, h6, h7⟩ := hk_wtm hm hb h1
  have hl := wth_lt m j
  have hh : (β + wtm m j) % 745 = 0 ∨ (β + wtm m j) % 745 = 372 := by
    rcases Nat.eq_zero_or_pos (wth m j) with q | q
    · exact Or.inr (h7.mpr q)
    · exact Or.inl (h6.mpr (by omega))
  have hr := fT_row (V := V) hh 1440 h1
  rw [h5] at hr
  rw [wst_cl hm j]
  refine ⟨hr.1, ?_⟩
  rw [hr.2]
  by_cases q : wth m j = 1
  · rw [if_pos (h6.mpr q), q]; exact (by decide : (0 : Int32) = 1 - nI 1)
  · rw [if_neg (fun w => q (h6.mp w)), show wth m j = 0 by omega]; exact (by decide : (1 : Int32) = 1 - nI 0)
/-- the two tables, of the class and of the Model, for one pier and one day -/
theorem tab_rel {V : jV} {ti i c0 : Nat} {d : Int32} {V2 : jV}
    (hx : (V 10 i 0 + corr (xmin V i) (xtru V i) c0 - (1440 * d + 0)).toInt = - (1440 * d - V2 24 0 i - corr (ymin V2 i) (ytru V2 i) c0).toInt) :
    tabY V2 i c0 d 20 0 29 = filV V ti i c0 d 6 ti 3 ∧ ∀ j, j < tn (filV V ti i c0 d 6 ti 3) → tabY V2 i c0 d 51 0 j = filV V ti i c0 d 7 ti j ∧ tabY V2 i c0 d 52 0 j = 1 - filV V ti i c0 d 9 ti j := by
  obtain ⟨m, hm, e1, e2⟩ := fmod_bhd hx
  have f1 : mthX V i c0 d 0 = nI m := e1
  have f2 : behY V2 i c0 (1440 * d) = nI ((745 - m) % 745) := e2
  have f3 : tn (behY V2 i c0 (1440 * d)) = (745 - m) % 745 := by rw [f2, tn_nI (by omega)]
  have hw := wcnt_hk hm rfl
  have hc : filV V ti i c0 d 6 ti 3 = nI (wcnt (w0m (nI m)) (w0h (nI m))) := by
    unfold filV; rw [f1]; exact tab_cnt
  have h4 : wcnt (w0m (nI m)) (w0h (nI m)) ≤ 4 := fidx_le _ 4
  refine ⟨?_, fun j hj => ?_⟩
  · unfold tabY
    rw [fT_cnt, f3, hc, hw.1]
  · rw [hc, tn_nI (by omega)] at hj
    have hr := tab_rows (V := V2) hm rfl hj
    unfold tabY
    rw [f3, hr.1, hr.2, fil_7 (by rw [f1]; exact hj), fil_9 (by rw [f1]; exact hj), f1]
    exact ⟨rfl, rfl⟩
