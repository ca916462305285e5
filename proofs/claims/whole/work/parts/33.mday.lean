def pyI (n : Nat) : Nat → jV → Nat → jV × Nat
  | 0, V, j => (V, j)
  | k + 1, V, j => if (plY n V).2 = true then pyI n k (plY n V).1 (j + 1) else ((plY n V).1, j)
theorem py_stop {n k j : Nat} {V : jV} (h : bI (plY n V).2 = 0) : pyI n (k + 1) V j = ((plY n V).1, j) := by rw [pyI, if_neg]; rw [bI_0 h]; decide
theorem py_go {n k j : Nat} {V : jV} (h : ¬ bI (plY n V).2 = 0) : pyI n (k + 1) V j = pyI n k (plY n V).1 (j + 1) := by rw [pyI, if_pos (bI_1 h)]
def ZP (n : Nat) (Z : jV → Prop) : Prop := ∀ U, Z U → YP n U ∧ (U 20 0 19 = -1 → plP n U < n → YJ n (plB n U) ∧ YT (plB n U)) ∧ ((plY n U).2 = true → Z (plY n U).1)
set_option maxRecDepth 20000 in
set_option maxHeartbeats 400000 in
theorem c_Mpaint {l : Launch} {D : va_G} {ca : Nat → ClassId} {q0 : Nat} {sa : Nat → Nat} {ad : jAd} {z n r : Nat} {V : jV} (x : Int32) (Z : jV → Prop) (hw : 1 ≤ x ∧ x ≤ 50) (hx : x = nI r) (hr : r ≤ 50) (hZ : ZP n Z) (hZ0 : Z (thr V 0))  : jMet l D ca q0 sa ad yX6_paint cX6_paint 3 (some .int) 5 0 0 [.ref (ad 20 0), .int x] (jS z n V) (jRet (some (.int (nI (pyI n r (thr V 0) 0).2))) (jS z n (pyI n r (thr V 0) 0).1)) := by
  refine j_enter RX6 [some (.ref (ad 20 0)), some (.int x), none] rfl (by decide) (by simp [Value.category]) (Nat.le_of_ble_eq_true rfl) rfl ?_
  intro p e s m args below meth c K hnm hX
  have lp : ∀ (k j : Nat) (U : jV), j + k = r → Z U → pyI n k U j = pyI n r (thr V 0) 0 → jW p l e (jRm 5 0 0) s m args below meth c D ca q0 ad 3 (jZ below args s D ca q0 ad 0 0 (jRet (some (.int (nI (pyI n r (thr V 0) 0).2))) (jS z n (pyI n r (thr V 0) 0).1))) 0 0 19 [some (.ref (ad 20 0)), some (.int x), some (.int (nI j))] [] (jS z n U) := by
    intro k
    induction k with
    | zero =>
      intro j U hj hU hE
      refine j_iload_n K 2 dX6_paint_19 rfl rfl ?_
      refine j_iload_n K 1 dX6_paint_20 rfl rfl ?_
      refine j_icmp_ge K 37 dX6_paint_21 (by decide) (fun h_21 => ?_) (fun h_21 => ?_)
      · refine j_iload_n K 2 dX6_paint_37 rfl rfl ?_
        refine j_iret K dX6_paint_38 ?_
        rw [← hE]
        exact ⟨rfl, rfl⟩
      · exact absurd ((nle (by omega) (by omega) hx rfl).mpr (by omega)) h_21
    | succ k ih =>
      intro j U hj hU hE
      refine j_iload_n K 2 dX6_paint_19 rfl rfl ?_
      refine j_iload_n K 1 dX6_paint_20 rfl rfl ?_
      refine j_icmp_ge K 37 dX6_paint_21 (by decide) (fun h_21 => ?_) (fun h_21 => ?_)
      · exact absurd ((nle (by omega) (by omega) hx rfl).mp h_21) (by omega)
      · refine j_aload_n K 0 dX6_paint_24 rfl rfl ?_
        refine j_cV0r K dX6_paint_25 m_X6_paintLine v_X6_paintLine k_X6_207 rfl ⟨by decide, rfl⟩ rfl (c_MpaintLine (hZ _ hU).1 (hZ _ hU).2.1) (Nat.le_of_ble_eq_true rfl) ⟨by decide, by decide⟩ (by decide) (by decide) ?_
        refine j_if_eq K 37 dX6_paint_28 (by decide) (fun h_28 => ?_) (fun h_28 => ?_)
        · refine j_iload_n K 2 dX6_paint_37 rfl rfl ?_
          refine j_iret K dX6_paint_38 ?_
          rw [← hE, py_stop h_28]
          exact ⟨rfl, rfl⟩
        · refine j_iinc (v := nI (j + 1)) K dX6_paint_31 rfl (by decide) (nI_1 _) ?_
          refine j_goto K 19 dX6_paint_34 (by decide) ?_
          exact ih (j + 1) _ (by omega) ((hZ _ hU).2.2 (bI_1 h_28)) ((py_go h_28).symm.trans hE)
  refine j_aload_n K 0 dX6_paint_0 rfl rfl ?_
  refine j_iload_n K 1 dX6_paint_1 rfl rfl ?_
  refine j_iconst K 1 dX6_paint_2 rfl ?_
  refine j_bipush K 50 dX6_paint_3 rfl ?_
  refine j_cS3r K dX6_paint_5 m_X6_isWithin s_X6_isWithin k_X6_89 (c_MW _ _ _ hw) (Nat.le_of_ble_eq_true rfl) ⟨by decide, by decide⟩ (by decide) (by decide) ?_
  refine j_iconst K 1 dX6_paint_8 rfl ?_
  refine j_cV2r K dX6_paint_9 m_X6_isGood v_X6_isGood k_X6_93 rfl ⟨by decide, rfl⟩ rfl (c_MG _) (Nat.le_of_ble_eq_true rfl) ⟨by decide, by decide⟩ (by decide) (by decide) ?_
  refine j_if_ne K 17 dX6_paint_12 (by decide) (fun h_12 => ?_) (fun h_12 => absurd h_12 (by decide))
  refine j_iconst K 0 dX6_paint_17 rfl ?_
  refine j_istore_n K 2 dX6_paint_18 rfl (by decide) ?_
  exact lp r 0 _ (by omega) hZ0 rfl
set_option maxRecDepth 20000 in
set_option maxHeartbeats 400000 in
theorem c_Mpaintx {l : Launch} {D : va_G} {ca : Nat → ClassId} {q0 : Nat} {sa : Nat → Nat} {ad : jAd} {z n : Nat} {V : jV} (x : Int32) (hw : ¬ (1 ≤ x ∧ x ≤ 50))  : jMet l D ca q0 sa ad yX6_paint cX6_paint 3 (some .int) 5 0 0 [.ref (ad 20 0), .int x] (jS z n V) (jRet (some (.int 0)) (jS z n (thr V 1))) := by
  refine j_enter RX6 [some (.ref (ad 20 0)), some (.int x), none] rfl (by decide) (by simp [Value.category]) (Nat.le_of_ble_eq_true rfl) rfl ?_
  intro p e s m args below meth c K hnm hX
  refine j_aload_n K 0 dX6_paint_0 rfl rfl ?_
  refine j_iload_n K 1 dX6_paint_1 rfl rfl ?_
  refine j_iconst K 1 dX6_paint_2 rfl ?_
  refine j_bipush K 50 dX6_paint_3 rfl ?_
  refine j_cS3r K dX6_paint_5 m_X6_isWithin s_X6_isWithin k_X6_89 (c_MW0 _ _ _ hw) (Nat.le_of_ble_eq_true rfl) ⟨by decide, by decide⟩ (by decide) (by decide) ?_
  refine j_iconst K 1 dX6_paint_8 rfl ?_
  refine j_cV2r K dX6_paint_9 m_X6_isGood v_X6_isGood k_X6_93 rfl ⟨by decide, rfl⟩ rfl (c_MG0 _) (Nat.le_of_ble_eq_true rfl) ⟨by decide, by decide⟩ (by decide) (by decide) ?_
  refine j_if_ne K 17 dX6_paint_12 (by decide) (fun h_12 => absurd (by decide) h_12) (fun h_12 => ?_)
  refine j_iconst K 0 dX6_paint_15 rfl ?_
  refine j_iret K dX6_paint_16 ?_
  exact ⟨rfl, rfl⟩
theorem YR_rem {V : jV} {i c g : Nat} (h : YR V i c) (hg : g < c) : YR (remY V i g) i (c - 1) := by
  obtain ⟨h1, h2, h3⟩ := h
  refine ⟨shc h1 (by omega), by omega, fun j hj => ?_⟩
  unfold remY shY
  split
  · exact h3 (j + 1) (by omega)
  · unfold up; rw [if_neg (by omega)]; exact h3 j (by omega)
theorem YR_rem_o {V : jV} {i i' c c' g : Nat} (h : YR V i c) (h' : YR V i' c') (hn : ¬ i' = i) : YR (remY V i g) i' c' := by
  obtain ⟨h1, h2, h3⟩ := h'
  have hc := h.2.1
  have ht : tn (V 30 0 i) = c := by rw [h.1, tn_nI (by omega)]
  refine ⟨?_, h2, fun j hj => ?_⟩
  · unfold remY shY up; rw [if_neg (by omega), if_neg (by omega)]; exact h1
  · unfold remY shY up; rw [ht, if_neg (by omega), if_neg (by omega)]; exact h3 j hj
theorem YR_up {V : jV} {i c k a b : Nat} {v : Int32} (h : YR V i c) (h1 : ¬ k = 30) (h2 : ¬ k = 31) : YR (up V k a b v) i c := by
  obtain ⟨e1, e2, e3⟩ := h
  refine ⟨?_, e2, fun j hj => ?_⟩
  · unfold up; rw [if_neg (by omega)]; exact e1
  · unfold up; rw [if_neg (by omega)]; exact e3 j hj
/-- the reports of the pier i a day older, from the place j - 1 down -/
def agS (i j : Nat) (U : jV) : jV := up U 33 0 (6 * i + j) (U 33 0 (6 * i + j) + 1)
def pdR (i : Nat) : Nat → jV → jV
  | 0, U => U
  | j + 1, U => pdR i j (if U 33 0 (6 * i + j) + 1 = 10 then remY (agS i j U) i j else agS i j U)
def pdF (U : jV) (i g : Nat) : jV := fun k a b => if k = 48 ∧ a = 0 ∧ 4 * i ≤ b ∧ b < 4 * i + g ∧ U 48 0 b = 1 ∧ U 49 0 b + 7 = U 20 0 2 then 3 else U k a b
def pdP (U : jV) (i : Nat) : jV := pdF (pdR i (tn (U 30 0 i)) U) i (tn (pdR i (tn (U 30 0 i)) U 43 0 i))
/-- the first j piers a day older -/
def pdA (U : jV) : Nat → jV
  | 0 => U
  | j + 1 => pdP (pdA U j) j
def pdY (n : Nat) (V : jV) : jV := pdA (up V 20 0 2 (V 20 0 2 + 1)) n
theorem rem_o {V : jV} {i g k a b : Nat} (h : ¬ k = 30) (h1 : ¬ k = 31) (h2 : ¬ k = 32) (h3 : ¬ k = 33) : remY V i g k a b = V k a b := by
  unfold remY shY up; rw [if_neg (by omega), if_neg (by omega)]
theorem pdR_o {i k a b : Nat} (h : ¬ k = 30) (h1 : ¬ k = 31) (h2 : ¬ k = 32) (h3 : ¬ k = 33) : ∀ (j : Nat) (U : jV), pdR i j U k a b = U k a b
  | 0, _ => rfl
  | j + 1, U => by
    have e : agS i j U k a b = U k a b := by unfold agS up; rw [if_neg (by omega)]
    rw [pdR, pdR_o h h1 h2 h3 j]
    split
    · rw [rem_o h h1 h2 h3, e]
    · exact e
theorem pdR_YR {i : Nat} : ∀ (j c : Nat) (U : jV), j ≤ c → YR U i c → (∃ c', YR (pdR i j U) i c') ∧ ∀ i' c', ¬ i' = i → YR U i' c' → YR (pdR i j U) i' c'
  | 0, c, _, _, h => ⟨⟨c, h⟩, fun _ _ _ q => q⟩
  | j + 1, c, U, hj, h => by
    rw [pdR]
    split
    · obtain ⟨q1, q2⟩ := pdR_YR j (c - 1) _ (by omega) (YR_rem (g := j) (YR_up (k := 33) (a := 0) (b := 6 * i + j) (v := U 33 0 (6 * i + j) + 1) h (by decide) (by decide)) (by omega))
      exact ⟨q1, fun i' c' hn hq => q2 i' c' hn (YR_rem_o (YR_up h (by decide) (by decide)) (YR_up hq (by decide) (by decide)) hn)⟩
    · obtain ⟨q1, q2⟩ := pdR_YR j c (agS i j U) (by omega) (YR_up h (by decide) (by decide))
      exact ⟨q1, fun i' c' hn hq => q2 i' c' hn (YR_up hq (by decide) (by decide))⟩
theorem YR_tn {V : jV} {i c : Nat} (h : YR V i c) : YR V i (tn (V 30 0 i)) := by
  have e : tn (V 30 0 i) = c := by rw [h.1, tn_nI (by have := h.2.1; omega)]
  rw [e]; exact h
theorem YR_pdF {U : jV} {i i' g c : Nat} (h : YR U i' c) : YR (pdF U i g) i' c := by
  obtain ⟨e1, e2, e3⟩ := h
  refine ⟨?_, e2, fun j hj => ?_⟩
  · unfold pdF; rw [if_neg (by omega)]; exact e1
  · unfold pdF; rw [if_neg (by omega)]; exact e3 j hj
/-- what passDay leans on -/
def YD (n : Nat) (V : jV) : Prop := n ≤ 6 ∧ V 20 0 1 = nI n ∧ (∀ i, i < n → YR V i (tn (V 30 0 i))) ∧ (∀ i, i < n → V 43 0 i = nI (tn (V 43 0 i)) ∧ tn (V 43 0 i) ≤ 4)
theorem pdP_o {U : jV} {i k a b : Nat} (h : ¬ k = 30) (h1 : ¬ k = 31) (h2 : ¬ k = 32) (h3 : ¬ k = 33) (h4 : ¬ k = 48) : pdP U i k a b = U k a b := by
  unfold pdP pdF; rw [if_neg (by omega)]; exact pdR_o h h1 h2 h3 _ _
theorem YD_pd {n : Nat} {U : jV} {i : Nat} (h : YD n U) (hi : i < n) : YD n (pdP U i) := by
  obtain ⟨h0, h1, h2, h3⟩ := h
  obtain ⟨⟨c', q1⟩, q2⟩ := pdR_YR (i := i) (tn (U 30 0 i)) _ U (Nat.le_refl _) (h2 i hi)
  refine ⟨h0, ?_, fun i' hi' => ?_, fun i' hi' => ?_⟩
  · rw [pdP_o (by decide) (by decide) (by decide) (by decide) (by decide)]; exact h1
  · by_cases hn : i' = i
    · subst hn; exact YR_tn (YR_pdF q1)
    · exact YR_tn (YR_pdF (q2 i' _ hn (h2 i' hi')))
  · rw [pdP_o (by decide) (by decide) (by decide) (by decide) (by decide)]; exact h3 i' hi'
theorem YD_pdA {n : Nat} {U : jV} (h : YD n U) : ∀ j, j ≤ n → YD n (pdA U j)
  | 0, _ => h
  | j + 1, hj => YD_pd (YD_pdA h j (by omega)) (by omega)
