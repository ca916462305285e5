/-- the job's pier goes on, or nothing is painted, on both sides alike -/
theorem pl2_rel {T n : Nat} {V W : jV} (h : Inv T n V W) (h8 : ¬ V 0 0 8 = -1) : (pl2 W).2 = (pn2 V).2 ∧ Inv T n (pn2 V).1 (pl2 W).1 := by
  obtain ⟨a, j, ha, e8, e19, e20, eb, hj, hz⟩ := JB_bln h h8
  have hn := h.1.1
  obtain ⟨s1, s2, s3⟩ := ID_cnt h.2.2.2.1 ha
  have ta : tn (V 0 0 8) = a := by rw [e8, tn_nI (by omega)]
  have pa : plA W = a := by unfold plA; rw [e19, tn_nI (by omega)]
  have pj : plJ W = j := by unfold plJ; rw [e20, tn_nI (by omega)]
  have hl := s3.2.2.2.2.2.2 j hj
  have pq : plQ W = pnQ V a j := by
    unfold plQ pnQ
    rw [pa, pj, hl.2.1]
    rcases hl.1 with z | z
    · rw [z, if_pos rfl]; rfl
    · rw [z, if_neg (by decide)]; rfl
  have hq := pnQ_lt V a j
  obtain ⟨r1, r2, r3⟩ := IE_cnt h.2.2.2.2 hq
  have e28 : W 28 0 a = V 10 a 4 := (h.1.2.2.2 a ha).2.2.2.2.2
  have e34 : tn (W 34 0 (pnQ V a j)) = tn (V 4 (pnQ V a j) 1) := by rw [r3.2.2.1, tn_nI (by omega)]
  have pg : plG W a (pnQ V a j) = pnG V a (pnQ V a j) := by
    unfold plG pnG
    rw [e34]
    exact fidx_congr (fun i hi => by rw [e28, r3.2.2.2 i hi])
  unfold pl2 pn2
  rw [if_neg h8]
  dsimp only
  rw [ta, eb, if_neg (show ¬ j + 1 = 0 by omega), Nat.add_sub_cancel, pa, pq, pj, pg, e34]
  by_cases z : pnG V a (pnQ V a j) < tn (V 4 (pnQ V a j) 1)
  · rw [if_pos z, if_pos z]
    exact ⟨rfl, Inv_line h ha e8 e20 hj hz hq r3 z⟩
  · rw [if_neg z, if_neg z]
    exact ⟨rfl, h⟩
/-- whose turn it is -/
theorem first_rel {T n : Nat} {V W : jV} (h : Inv T n V W) (x : Int32) : fidx (wai (yo W) (yr W) n x) n = fidx (wai (xo V) (xr V) n x) n := by
  have hn := h.1.1
  refine fidx_congr (fun j hj => wai_congr (fun i hi => (h.2.2.1 i (by omega)).1) (fun i hi => (h.1.2.2.2 i hi).2.2.2.2.2) hj)
theorem beg_rel {T n : Nat} {V W : jV} (h : Inv T n V W) (hp : plP n W < n) : Inv T n (bfo n V) (plB n W) ∧ bfo n V 0 0 8 = nI (plP n W) := by
  have hn := h.1.1
  have e : fidx (wai (xo V) (xr V) n 0) n = plP n W := (first_rel h 0).symm
  unfold bfo plB
  rw [e, if_pos hp]
  obtain ⟨c1, c2, c3⟩ := IB_cnt h.2.1 hp
  have hat := fidx_at (P := wai (xo V) (xr V) n 0) (c := n) (by rw [e]; exact hp)
  rw [e] at hat
  have ho : ¬ V 3 0 (plP n W) = -1 := by
    intro z
    unfold wai xo at hat
    rw [z] at hat
    simp at hat
  obtain ⟨_, hd, _⟩ := h.2.2.1 (plP n W) (by omega)
  rcases hd with z | ⟨d, d1, d2⟩
  · exact absurd z ho
  · rw [d2, c1]
    exact ⟨Inv_beg h hp d2 d1, by simp [up]⟩
/-- one line, on both sides -/
theorem pl_rel {T n : Nat} {V W : jV} (h : Inv T n V W) : (plY n W).2 = (pnl n V).2 ∧ Inv T n (pnl n V).1 (plY n W).1 := by
  have hn := h.1.1
  have e19 : W 20 0 19 = V 0 0 8 := h.2.2.2.1.2.2.1
  unfold plY pnl
  rw [e19]
  by_cases z : V 0 0 8 = -1
  · rw [if_pos z, if_pos z]
    by_cases hp : plP n W < n
    · rw [if_pos hp]
      obtain ⟨b1, b2⟩ := beg_rel h hp
      exact pl2_rel b1 (by rw [b2]; exact nI_neg1 (by omega))
    · rw [if_neg hp]
      have e : bfo n V = V := by
        unfold bfo
        rw [← first_rel h 0, if_neg (show ¬ fidx (wai (yo W) (yr W) n 0) n < n from hp)]
      rw [e]
      unfold pn2
      rw [if_pos z]
      exact ⟨rfl, h⟩
  · rw [if_neg z, if_neg z]
    exact pl2_rel h z
theorem pnt_rel {T n : Nat} : ∀ (N : Nat) (V W : jV) (j : Nat), Inv T n V W → (pyI n N W j).2 = (pntV n N V j).2 ∧ Inv T n (pntV n N V j).1 (pyI n N W j).1
  | 0, _, _, _, h => ⟨rfl, h⟩
  | N + 1, V, W, j, h => by
    obtain ⟨r1, r2⟩ := pl_rel h
    rw [pyI, pntV, r1]
    by_cases z : (pnl n V).2 = true
    · rw [if_pos z, if_pos z]; exact pnt_rel N _ _ _ r2
    · rw [if_neg z, if_neg z]; exact ⟨rfl, r2⟩
/-- what the Model's loop leans on -/
theorem ZP_Inv {T n : Nat} : ZP n (fun U => ∃ V, Inv T n V U) := by
  intro U hU
  obtain ⟨V, h⟩ := hU
  refine ⟨Inv_YP h, fun _ hp => ?_, fun _ => ⟨_, (pl_rel h).2⟩⟩
  obtain ⟨b1, b2⟩ := beg_rel h hp
  have hn := h.1.1
  refine ⟨?_, IE_YT b1.2.2.2.2⟩
  rcases Inv_YJ b1 with q | q
  · rw [b1.2.2.2.1.2.2.1, b2] at q
    exact absurd q (nI_neg1 (by omega))
  · exact q
