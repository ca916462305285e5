/-- the board's line j of the pier a touched up with the oldest tins g of the colour q -/
def tuY (V : jV) (a j q g : Nat) : jV := mrdY (tkY (thr V 0) q 5 g) (4 * a + j)
def rpY (V : jV) (a c f : Nat) (m : Int32) (q : Nat) : jV := up (up (up (if q < c then V else up V 30 0 a (V 30 0 a + 1)) 31 0 (6 * a + q) (nI f)) 32 0 (6 * a + q) m) 33 0 (6 * a + q) 0
set_option maxRecDepth 20000 in
set_option maxHeartbeats 400000 in
theorem c_M_touchUpx1 {l : Launch} {D : va_G} {ca : Nat → ClassId} {q0 : Nat} {sa : Nat → Nat} {ad : jAd} {z n : Nat} {V : jV} (x : Int32) (hI : n ≤ 6 ∧ V 20 0 1 = nI n) (h : ¬ okP n x)  : jMet l D ca q0 sa ad yX6_touchUp cX6_touchUp 3 (some .int) 3 0 0 [.ref (ad 20 0), .int x] (jS z n V) (jRet (some (.int 0)) (jS z n (thr V 1))) := by
  refine j_enter RX6 [some (.ref (ad 20 0)), some (.int x), none] rfl (by decide) (by simp [Value.category]) (Nat.le_of_ble_eq_true rfl) rfl ?_
  intro p e s m args below meth c K hnm hX
  have hn6 := hI.1
  have hp := hI.2
  refine j_aload_n K 0 dX6_touchUp_0 rfl rfl ?_
  refine j_iload_n K 1 dX6_touchUp_1 rfl rfl ?_
  refine j_cV1r K dX6_touchUp_2 m_X6_isPier v_X6_isPier k_X6_125 rfl ⟨by decide, rfl⟩ rfl (c_MP0 _ hI h) (Nat.le_of_ble_eq_true rfl) ⟨by decide, by decide⟩ (by decide) (by decide) ?_
  refine j_if_ne K 10 dX6_touchUp_5 (by decide) (fun h_5 => absurd (by decide) h_5) (fun h_5 => ?_)
  refine j_iconst K 0 dX6_touchUp_8 rfl ?_
  refine j_iret K dX6_touchUp_9 ?_
  exact ⟨rfl, rfl⟩
set_option maxRecDepth 20000 in
set_option maxHeartbeats 400000 in
theorem c_M_touchUpx2 {l : Launch} {D : va_G} {ca : Nat → ClassId} {q0 : Nat} {sa : Nat → Nat} {ad : jAd} {z n a c4 : Nat} {V : jV} (x : Int32) (hI : n ≤ 6 ∧ V 20 0 1 = nI n) (ha : a < n) (hx : x = nI a) (hl4 : V 43 0 a = nI c4) (hc4 : c4 ≤ 4) (hg : ¬ fidx (spY V a) c4 < c4)  : jMet l D ca q0 sa ad yX6_touchUp cX6_touchUp 3 (some .int) 3 0 0 [.ref (ad 20 0), .int x] (jS z n V) (jRet (some (.int 0)) (jS z n (thr (thr V 0) 2))) := by
  refine j_enter RX6 [some (.ref (ad 20 0)), some (.int x), none] rfl (by decide) (by simp [Value.category]) (Nat.le_of_ble_eq_true rfl) rfl ?_
  intro p e s m args below meth c K hnm hX
  have hn6 := hI.1
  have hp := hI.2
  have l56 : jW p l e (jRm 3 0 0) s m args below meth c D ca q0 ad 3 (jZ below args s D ca q0 ad 0 0 (jRet (some (.int 0)) (jS z n (thr (thr V 0) 2)))) 0 0 56 [some (.ref (ad 20 0)), some (.int x), some (.int (nI c4))] [] (jS z n (thr V 0)) := by
    refine j_iload_n K 2 dX6_touchUp_56 rfl rfl ?_
    refine j_aload_n K 0 dX6_touchUp_57 rfl rfl ?_
    refine jGr K 43 0 dX6_touchUp_58 f_X6_56 rfl rfl rfl rfl ?_
    refine j_iload_n K 1 dX6_touchUp_61 rfl rfl ?_
    refine jIald K (a) dX6_touchUp_62 rfl rfl hx (by omega) ?_
    refine j_icmp_ne K 72 dX6_touchUp_63 (by decide) (fun h_63 => ?_) (fun h_63 => ?_)
    · exact absurd (neq (by omega) (by omega) rfl hl4 |>.mpr rfl) h_63
    · refine j_aload_n K 0 dX6_touchUp_66 rfl rfl ?_
      refine j_iconst K 2 dX6_touchUp_67 rfl ?_
      refine j_cV1r K dX6_touchUp_68 m_X6_fail v_X6_fail k_X6_98 rfl ⟨by decide, rfl⟩ rfl (c_MF _) (Nat.le_of_ble_eq_true rfl) ⟨by decide, by decide⟩ (by decide) (by decide) ?_
      refine j_iret K dX6_touchUp_71 ?_
      exact ⟨rfl, rfl⟩
  have lp : ∀ (k j : Nat) , j ≤ c4 → c4 < j + k → (∀ j', j' < j → spY V a j' = false) → jW p l e (jRm 3 0 0) s m args below meth c D ca q0 ad 3 (jZ below args s D ca q0 ad 0 0 (jRet (some (.int 0)) (jS z n (thr (thr V 0) 2)))) 0 0 12 [some (.ref (ad 20 0)), some (.int x), some (.int (nI j))] [] (jS z n (thr V 0)) := by
    intro k
    induction k with
    | zero => intro j  hj1 hj2; exact absurd hj2 (by omega)
    | succ k ih =>
      intro j  hj1 hj2 hno
      refine j_iload_n K 2 dX6_touchUp_12 rfl rfl ?_
      refine j_aload_n K 0 dX6_touchUp_13 rfl rfl ?_
      refine jGr K 43 0 dX6_touchUp_14 f_X6_56 rfl rfl rfl rfl ?_
      refine j_iload_n K 1 dX6_touchUp_17 rfl rfl ?_
      refine jIald K (a) dX6_touchUp_18 rfl rfl hx (by omega) ?_
      refine j_icmp_ge K 56 dX6_touchUp_19 (by decide) (fun h_19 => ?_) (fun h_19 => ?_)
      · have hjg : j = c4 := by
          first
          | (exfalso; exact absurd (fidx_eq (c := c4) (j := j) (by omega) hno (fun _ => spY_2 h_33)) (by omega))
          | (exfalso; exact absurd (fidx_eq (c := c4) (j := j) (by omega) hno (fun _ => spY_3 h_47)) (by omega))
          | (have := nle1 h_19 hl4 rfl (by omega) (by omega); omega)
        subst hjg
        exact l56
      · have hj3 : j < c4 := nle0 h_19 hl4 rfl (by omega) (by omega)
        refine j_aload_n K 0 dX6_touchUp_22 rfl rfl ?_
        refine jGr K 48 0 dX6_touchUp_23 f_X6_71 rfl rfl rfl rfl ?_
        refine j_iconst K 4 dX6_touchUp_26 rfl ?_
        refine j_iload_n K 1 dX6_touchUp_27 rfl rfl ?_
        refine j_imul K dX6_touchUp_28 ?_
        refine j_iload_n K 2 dX6_touchUp_29 rfl rfl ?_
        refine j_iadd K dX6_touchUp_30 ?_
        refine jIald K (((4 * a) + j)) dX6_touchUp_31 rfl rfl (jx_add (jx_mul rfl hx) rfl) (by omega) ?_
        refine j_iconst K 2 dX6_touchUp_32 rfl ?_
        refine j_icmp_eq K 56 dX6_touchUp_33 (by decide) (fun h_33 => ?_) (fun h_33 => ?_)
        · have hjg : j = c4 := by
            first
            | (exfalso; exact absurd (fidx_eq (c := c4) (j := j) (by omega) hno (fun _ => spY_2 h_33)) (by omega))
            | (exfalso; exact absurd (fidx_eq (c := c4) (j := j) (by omega) hno (fun _ => spY_3 h_47)) (by omega))
            | (have := nle1 h_19 hl4 rfl (by omega) (by omega); omega)
          subst hjg
          exact l56
        · refine j_aload_n K 0 dX6_touchUp_36 rfl rfl ?_
          refine jGr K 48 0 dX6_touchUp_37 f_X6_71 rfl rfl rfl rfl ?_
          refine j_iconst K 4 dX6_touchUp_40 rfl ?_
          refine j_iload_n K 1 dX6_touchUp_41 rfl rfl ?_
          refine j_imul K dX6_touchUp_42 ?_
          refine j_iload_n K 2 dX6_touchUp_43 rfl rfl ?_
          refine j_iadd K dX6_touchUp_44 ?_
          refine jIald K (((4 * a) + j)) dX6_touchUp_45 rfl rfl (jx_add (jx_mul rfl hx) rfl) (by omega) ?_
          refine j_iconst K 3 dX6_touchUp_46 rfl ?_
          refine j_icmp_eq K 56 dX6_touchUp_47 (by decide) (fun h_47 => ?_) (fun h_47 => ?_)
          · have hjg : j = c4 := by
              first
              | (exfalso; exact absurd (fidx_eq (c := c4) (j := j) (by omega) hno (fun _ => spY_2 h_33)) (by omega))
              | (exfalso; exact absurd (fidx_eq (c := c4) (j := j) (by omega) hno (fun _ => spY_3 h_47)) (by omega))
              | (have := nle1 h_19 hl4 rfl (by omega) (by omega); omega)
            subst hjg
            exact l56
          · refine j_iinc (v := nI (j + 1)) K dX6_touchUp_50 rfl (by decide) (nI_1 _) ?_
            refine j_goto K 12 dX6_touchUp_53 (by decide) ?_
            exact ih (j + 1) (by omega) (by omega) (fun j' hj' => (Nat.lt_succ_iff_lt_or_eq.mp hj').elim (hno j') (fun e => by subst e; exact spY_n h_33 h_47))
  refine j_aload_n K 0 dX6_touchUp_0 rfl rfl ?_
  refine j_iload_n K 1 dX6_touchUp_1 rfl rfl ?_
  refine j_cV1r K dX6_touchUp_2 m_X6_isPier v_X6_isPier k_X6_125 rfl ⟨by decide, rfl⟩ rfl (c_MP _ hI ⟨a, ha, hx⟩) (Nat.le_of_ble_eq_true rfl) ⟨by decide, by decide⟩ (by decide) (by decide) ?_
  refine j_if_ne K 10 dX6_touchUp_5 (by decide) (fun h_5 => ?_) (fun h_5 => absurd h_5 (by decide))
  refine j_iconst K 0 dX6_touchUp_10 rfl ?_
  refine j_istore_n K 2 dX6_touchUp_11 rfl (by decide) ?_
  exact lp (c4 + 1) 0 (by omega) (by omega) (fun j' h => absurd h (by omega))
set_option maxRecDepth 20000 in
set_option maxHeartbeats 400000 in
theorem c_M_touchUpx3 {l : Launch} {D : va_G} {ca : Nat → ClassId} {q0 : Nat} {sa : Nat → Nat} {ad : jAd} {z n a c4 g q t : Nat} {V : jV} (x : Int32) (hI : n ≤ 6 ∧ V 20 0 1 = nI n) (ha : a < n) (hx : x = nI a) (hl4 : V 43 0 a = nI c4) (hc4 : c4 ≤ 4) (hg : fidx (spY V a) c4 = g) (hgl : g < c4) (hq2 : q < 2) (hq : V 45 0 (4 * a + g) = nI q) (ht : V 34 0 q = nI t) (ht2 : t ≤ 12) (hk : ¬ fidx (fun j => decide (5 ≤ V 35 0 (12 * q + j))) t < t)  : jMet l D ca q0 sa ad yX6_touchUp cX6_touchUp 3 (some .int) 3 0 0 [.ref (ad 20 0), .int x] (jS z n V) (jRet (some (.int 0)) (jS z n (thr (thr V 0) 3))) := by
  refine j_enter RX6 [some (.ref (ad 20 0)), some (.int x), none] rfl (by decide) (by simp [Value.category]) (Nat.le_of_ble_eq_true rfl) rfl ?_
  intro p e s m args below meth c K hnm hX
  have hn6 := hI.1
  have hp := hI.2
  have l56 : jW p l e (jRm 3 0 0) s m args below meth c D ca q0 ad 3 (jZ below args s D ca q0 ad 0 0 (jRet (some (.int 0)) (jS z n (thr (thr V 0) 3)))) 0 0 56 [some (.ref (ad 20 0)), some (.int x), some (.int (nI g))] [] (jS z n (thr V 0)) := by
    refine j_iload_n K 2 dX6_touchUp_56 rfl rfl ?_
    refine j_aload_n K 0 dX6_touchUp_57 rfl rfl ?_
    refine jGr K 43 0 dX6_touchUp_58 f_X6_56 rfl rfl rfl rfl ?_
    refine j_iload_n K 1 dX6_touchUp_61 rfl rfl ?_
    refine jIald K (a) dX6_touchUp_62 rfl rfl hx (by omega) ?_
    refine j_icmp_ne K 72 dX6_touchUp_63 (by decide) (fun h_63 => ?_) (fun h_63 => ?_)
    · refine j_aload_n K 0 dX6_touchUp_72 rfl rfl ?_
      refine j_aload_n K 0 dX6_touchUp_73 rfl rfl ?_
      refine jGr K 45 0 dX6_touchUp_74 f_X6_62 rfl rfl rfl rfl ?_
      refine j_iconst K 4 dX6_touchUp_77 rfl ?_
      refine j_iload_n K 1 dX6_touchUp_78 rfl rfl ?_
      refine j_imul K dX6_touchUp_79 ?_
      refine j_iload_n K 2 dX6_touchUp_80 rfl rfl ?_
      refine j_iadd K dX6_touchUp_81 ?_
      refine jIald K (((4 * a) + g)) dX6_touchUp_82 rfl rfl (jx_add (jx_mul rfl hx) rfl) (by omega) ?_
      refine j_iconst K 5 dX6_touchUp_83 rfl ?_
      refine j_cV2r K dX6_touchUp_84 m_X6_take v_X6_take k_X6_198 rfl ⟨by decide, rfl⟩ rfl (c_Mtake0 (V := thr V 0) _ _ hq2 hq ht ht2 hk) (Nat.le_of_ble_eq_true rfl) ⟨by decide, by decide⟩ (by decide) (by decide) ?_
      refine j_if_ne K 96 dX6_touchUp_87 (by decide) (fun h_87 => absurd (by decide) h_87) (fun h_87 => ?_)
      refine j_aload_n K 0 dX6_touchUp_90 rfl rfl ?_
      refine j_iconst K 3 dX6_touchUp_91 rfl ?_
      refine j_cV1r K dX6_touchUp_92 m_X6_fail v_X6_fail k_X6_98 rfl ⟨by decide, rfl⟩ rfl (c_MF _) (Nat.le_of_ble_eq_true rfl) ⟨by decide, by decide⟩ (by decide) (by decide) ?_
      refine j_iret K dX6_touchUp_95 ?_
      exact ⟨rfl, rfl⟩
    · exact absurd (neq (by omega) (by omega) rfl hl4 |>.mp h_63) (by omega)
  have lp : ∀ (k j : Nat) , j ≤ c4 → c4 < j + k → (∀ j', j' < j → spY V a j' = false) → jW p l e (jRm 3 0 0) s m args below meth c D ca q0 ad 3 (jZ below args s D ca q0 ad 0 0 (jRet (some (.int 0)) (jS z n (thr (thr V 0) 3)))) 0 0 12 [some (.ref (ad 20 0)), some (.int x), some (.int (nI j))] [] (jS z n (thr V 0)) := by
    intro k
    induction k with
    | zero => intro j  hj1 hj2; exact absurd hj2 (by omega)
    | succ k ih =>
      intro j  hj1 hj2 hno
      refine j_iload_n K 2 dX6_touchUp_12 rfl rfl ?_
      refine j_aload_n K 0 dX6_touchUp_13 rfl rfl ?_
      refine jGr K 43 0 dX6_touchUp_14 f_X6_56 rfl rfl rfl rfl ?_
      refine j_iload_n K 1 dX6_touchUp_17 rfl rfl ?_
      refine jIald K (a) dX6_touchUp_18 rfl rfl hx (by omega) ?_
      refine j_icmp_ge K 56 dX6_touchUp_19 (by decide) (fun h_19 => ?_) (fun h_19 => ?_)
      · have hjg : j = g := by
          first
          | (rw [← hg]; exact (fidx_eq (c := c4) (j := j) (by omega) hno (fun _ => spY_2 h_33)).symm)
          | (rw [← hg]; exact (fidx_eq (c := c4) (j := j) (by omega) hno (fun _ => spY_3 h_47)).symm)
          | (exfalso; have hj9 : j = c4 := by (have := nle1 h_19 hl4 rfl (by omega) (by omega); omega)
             exact absurd (fidx_eq (c := c4) (j := j) (by omega) hno (fun h => absurd h (by omega))) (by omega))
        subst hjg
        exact l56
      · have hj3 : j < c4 := nle0 h_19 hl4 rfl (by omega) (by omega)
        refine j_aload_n K 0 dX6_touchUp_22 rfl rfl ?_
        refine jGr K 48 0 dX6_touchUp_23 f_X6_71 rfl rfl rfl rfl ?_
        refine j_iconst K 4 dX6_touchUp_26 rfl ?_
        refine j_iload_n K 1 dX6_touchUp_27 rfl rfl ?_
        refine j_imul K dX6_touchUp_28 ?_
        refine j_iload_n K 2 dX6_touchUp_29 rfl rfl ?_
        refine j_iadd K dX6_touchUp_30 ?_
        refine jIald K (((4 * a) + j)) dX6_touchUp_31 rfl rfl (jx_add (jx_mul rfl hx) rfl) (by omega) ?_
        refine j_iconst K 2 dX6_touchUp_32 rfl ?_
        refine j_icmp_eq K 56 dX6_touchUp_33 (by decide) (fun h_33 => ?_) (fun h_33 => ?_)
        · have hjg : j = g := by
            first
            | (rw [← hg]; exact (fidx_eq (c := c4) (j := j) (by omega) hno (fun _ => spY_2 h_33)).symm)
            | (rw [← hg]; exact (fidx_eq (c := c4) (j := j) (by omega) hno (fun _ => spY_3 h_47)).symm)
            | (exfalso; have hj9 : j = c4 := by (have := nle1 h_19 hl4 rfl (by omega) (by omega); omega)
               exact absurd (fidx_eq (c := c4) (j := j) (by omega) hno (fun h => absurd h (by omega))) (by omega))
          subst hjg
          exact l56
        · refine j_aload_n K 0 dX6_touchUp_36 rfl rfl ?_
          refine jGr K 48 0 dX6_touchUp_37 f_X6_71 rfl rfl rfl rfl ?_
          refine j_iconst K 4 dX6_touchUp_40 rfl ?_
          refine j_iload_n K 1 dX6_touchUp_41 rfl rfl ?_
          refine j_imul K dX6_touchUp_42 ?_
          refine j_iload_n K 2 dX6_touchUp_43 rfl rfl ?_
          refine j_iadd K dX6_touchUp_44 ?_
          refine jIald K (((4 * a) + j)) dX6_touchUp_45 rfl rfl (jx_add (jx_mul rfl hx) rfl) (by omega) ?_
          refine j_iconst K 3 dX6_touchUp_46 rfl ?_
          refine j_icmp_eq K 56 dX6_touchUp_47 (by decide) (fun h_47 => ?_) (fun h_47 => ?_)
          · have hjg : j = g := by
              first
              | (rw [← hg]; exact (fidx_eq (c := c4) (j := j) (by omega) hno (fun _ => spY_2 h_33)).symm)
              | (rw [← hg]; exact (fidx_eq (c := c4) (j := j) (by omega) hno (fun _ => spY_3 h_47)).symm)
              | (exfalso; have hj9 : j = c4 := by (have := nle1 h_19 hl4 rfl (by omega) (by omega); omega)
                 exact absurd (fidx_eq (c := c4) (j := j) (by omega) hno (fun h => absurd h (by omega))) (by omega))
            subst hjg
            exact l56
          · refine j_iinc (v := nI (j + 1)) K dX6_touchUp_50 rfl (by decide) (nI_1 _) ?_
            refine j_goto K 12 dX6_touchUp_53 (by decide) ?_
            exact ih (j + 1) (by omega) (by omega) (fun j' hj' => (Nat.lt_succ_iff_lt_or_eq.mp hj').elim (hno j') (fun e => by subst e; exact spY_n h_33 h_47))
  refine j_aload_n K 0 dX6_touchUp_0 rfl rfl ?_
  refine j_iload_n K 1 dX6_touchUp_1 rfl rfl ?_
  refine j_cV1r K dX6_touchUp_2 m_X6_isPier v_X6_isPier k_X6_125 rfl ⟨by decide, rfl⟩ rfl (c_MP _ hI ⟨a, ha, hx⟩) (Nat.le_of_ble_eq_true rfl) ⟨by decide, by decide⟩ (by decide) (by decide) ?_
  refine j_if_ne K 10 dX6_touchUp_5 (by decide) (fun h_5 => ?_) (fun h_5 => absurd h_5 (by decide))
  refine j_iconst K 0 dX6_touchUp_10 rfl ?_
  refine j_istore_n K 2 dX6_touchUp_11 rfl (by decide) ?_
  exact lp (c4 + 1) 0 (by omega) (by omega) (fun j' h => absurd h (by omega))
set_option maxRecDepth 20000 in
set_option maxHeartbeats 400000 in
theorem c_M_touchUp {l : Launch} {D : va_G} {ca : Nat → ClassId} {q0 : Nat} {sa : Nat → Nat} {ad : jAd} {z n a c4 g q t u : Nat} {V : jV} (x : Int32) (hI : n ≤ 6 ∧ V 20 0 1 = nI n) (ha : a < n) (hx : x = nI a) (hl4 : V 43 0 a = nI c4) (hc4 : c4 ≤ 4) (hg : fidx (spY V a) c4 = g) (hgl : g < c4) (hq2 : q < 2) (hq : V 45 0 (4 * a + g) = nI q) (ht : V 34 0 q = nI t) (ht2 : t ≤ 12) (hk : fidx (fun j => decide (5 ≤ V 35 0 (12 * q + j))) t = u) (hu : u < t)  : jMet l D ca q0 sa ad yX6_touchUp cX6_touchUp 3 (some .int) 3 0 0 [.ref (ad 20 0), .int x] (jS z n V) (jRet (some (.int (nI g))) (jS z n (tuY V a g q u))) := by
  refine j_enter RX6 [some (.ref (ad 20 0)), some (.int x), none] rfl (by decide) (by simp [Value.category]) (Nat.le_of_ble_eq_true rfl) rfl ?_
  intro p e s m args below meth c K hnm hX
  have hn6 := hI.1
  have hp := hI.2
  have l56 : jW p l e (jRm 3 0 0) s m args below meth c D ca q0 ad 3 (jZ below args s D ca q0 ad 0 0 (jRet (some (.int (nI g))) (jS z n (tuY V a g q u)))) 0 0 56 [some (.ref (ad 20 0)), some (.int x), some (.int (nI g))] [] (jS z n (thr V 0)) := by
    refine j_iload_n K 2 dX6_touchUp_56 rfl rfl ?_
    refine j_aload_n K 0 dX6_touchUp_57 rfl rfl ?_
    refine jGr K 43 0 dX6_touchUp_58 f_X6_56 rfl rfl rfl rfl ?_
    refine j_iload_n K 1 dX6_touchUp_61 rfl rfl ?_
    refine jIald K (a) dX6_touchUp_62 rfl rfl hx (by omega) ?_
    refine j_icmp_ne K 72 dX6_touchUp_63 (by decide) (fun h_63 => ?_) (fun h_63 => ?_)
    · refine j_aload_n K 0 dX6_touchUp_72 rfl rfl ?_
      refine j_aload_n K 0 dX6_touchUp_73 rfl rfl ?_
      refine jGr K 45 0 dX6_touchUp_74 f_X6_62 rfl rfl rfl rfl ?_
      refine j_iconst K 4 dX6_touchUp_77 rfl ?_
      refine j_iload_n K 1 dX6_touchUp_78 rfl rfl ?_
      refine j_imul K dX6_touchUp_79 ?_
      refine j_iload_n K 2 dX6_touchUp_80 rfl rfl ?_
      refine j_iadd K dX6_touchUp_81 ?_
      refine jIald K (((4 * a) + g)) dX6_touchUp_82 rfl rfl (jx_add (jx_mul rfl hx) rfl) (by omega) ?_
      refine j_iconst K 5 dX6_touchUp_83 rfl ?_
      refine j_cV2r K dX6_touchUp_84 m_X6_take v_X6_take k_X6_198 rfl ⟨by decide, rfl⟩ rfl (c_Mtake (V := thr V 0) _ _ hq2 hq ht ht2 hk hu) (Nat.le_of_ble_eq_true rfl) ⟨by decide, by decide⟩ (by decide) (by decide) ?_
      refine j_if_ne K 96 dX6_touchUp_87 (by decide) (fun h_87 => ?_) (fun h_87 => absurd h_87 (by decide))
      refine j_aload_n K 0 dX6_touchUp_96 rfl rfl ?_
      refine j_iconst K 4 dX6_touchUp_97 rfl ?_
      refine j_iload_n K 1 dX6_touchUp_98 rfl rfl ?_
      refine j_imul K dX6_touchUp_99 ?_
      refine j_iload_n K 2 dX6_touchUp_100 rfl rfl ?_
      refine j_iadd K dX6_touchUp_101 ?_
      refine j_cV1n K dX6_touchUp_102 m_X6_makeReadable v_X6_makeReadable k_X6_201 rfl ⟨by decide, rfl⟩ rfl (c_Mmrd _ (jx_add (jmul4 hx) rfl) (by omega)) (Nat.le_of_ble_eq_true rfl) ⟨by decide, by decide⟩ (by decide) (by decide) ?_
      refine j_iload_n K 2 dX6_touchUp_105 rfl rfl ?_
      refine j_iret K dX6_touchUp_106 ?_
      exact ⟨rfl, rfl⟩
    · exact absurd (neq (by omega) (by omega) rfl hl4 |>.mp h_63) (by omega)
  have lp : ∀ (k j : Nat) , j ≤ c4 → c4 < j + k → (∀ j', j' < j → spY V a j' = false) → jW p l e (jRm 3 0 0) s m args below meth c D ca q0 ad 3 (jZ below args s D ca q0 ad 0 0 (jRet (some (.int (nI g))) (jS z n (tuY V a g q u)))) 0 0 12 [some (.ref (ad 20 0)), some (.int x), some (.int (nI j))] [] (jS z n (thr V 0)) := by
    intro k
    induction k with
    | zero => intro j  hj1 hj2; exact absurd hj2 (by omega)
    | succ k ih =>
      intro j  hj1 hj2 hno
      refine j_iload_n K 2 dX6_touchUp_12 rfl rfl ?_
      refine j_aload_n K 0 dX6_touchUp_13 rfl rfl ?_
      refine jGr K 43 0 dX6_touchUp_14 f_X6_56 rfl rfl rfl rfl ?_
      refine j_iload_n K 1 dX6_touchUp_17 rfl rfl ?_
      refine jIald K (a) dX6_touchUp_18 rfl rfl hx (by omega) ?_
      refine j_icmp_ge K 56 dX6_touchUp_19 (by decide) (fun h_19 => ?_) (fun h_19 => ?_)
      · have hjg : j = g := by
          first
          | (rw [← hg]; exact (fidx_eq (c := c4) (j := j) (by omega) hno (fun _ => spY_2 h_33)).symm)
          | (rw [← hg]; exact (fidx_eq (c := c4) (j := j) (by omega) hno (fun _ => spY_3 h_47)).symm)
          | (exfalso; have hj9 : j = c4 := by (have := nle1 h_19 hl4 rfl (by omega) (by omega); omega)
             exact absurd (fidx_eq (c := c4) (j := j) (by omega) hno (fun h => absurd h (by omega))) (by omega))
        subst hjg
        exact l56
      · have hj3 : j < c4 := nle0 h_19 hl4 rfl (by omega) (by omega)
        refine j_aload_n K 0 dX6_touchUp_22 rfl rfl ?_
        refine jGr K 48 0 dX6_touchUp_23 f_X6_71 rfl rfl rfl rfl ?_
        refine j_iconst K 4 dX6_touchUp_26 rfl ?_
        refine j_iload_n K 1 dX6_touchUp_27 rfl rfl ?_
        refine j_imul K dX6_touchUp_28 ?_
        refine j_iload_n K 2 dX6_touchUp_29 rfl rfl ?_
        refine j_iadd K dX6_touchUp_30 ?_
        refine jIald K (((4 * a) + j)) dX6_touchUp_31 rfl rfl (jx_add (jx_mul rfl hx) rfl) (by omega) ?_
        refine j_iconst K 2 dX6_touchUp_32 rfl ?_
        refine j_icmp_eq K 56 dX6_touchUp_33 (by decide) (fun h_33 => ?_) (fun h_33 => ?_)
        · have hjg : j = g := by
            first
            | (rw [← hg]; exact (fidx_eq (c := c4) (j := j) (by omega) hno (fun _ => spY_2 h_33)).symm)
            | (rw [← hg]; exact (fidx_eq (c := c4) (j := j) (by omega) hno (fun _ => spY_3 h_47)).symm)
            | (exfalso; have hj9 : j = c4 := by (have := nle1 h_19 hl4 rfl (by omega) (by omega); omega)
               exact absurd (fidx_eq (c := c4) (j := j) (by omega) hno (fun h => absurd h (by omega))) (by omega))
          subst hjg
          exact l56
        · refine j_aload_n K 0 dX6_touchUp_36 rfl rfl ?_
          refine jGr K 48 0 dX6_touchUp_37 f_X6_71 rfl rfl rfl rfl ?_
          refine j_iconst K 4 dX6_touchUp_40 rfl ?_
          refine j_iload_n K 1 dX6_touchUp_41 rfl rfl ?_
          refine j_imul K dX6_touchUp_42 ?_
          refine j_iload_n K 2 dX6_touchUp_43 rfl rfl ?_
          refine j_iadd K dX6_touchUp_44 ?_
          refine jIald K (((4 * a) + j)) dX6_touchUp_45 rfl rfl (jx_add (jx_mul rfl hx) rfl) (by omega) ?_
          refine j_iconst K 3 dX6_touchUp_46 rfl ?_
          refine j_icmp_eq K 56 dX6_touchUp_47 (by decide) (fun h_47 => ?_) (fun h_47 => ?_)
          · have hjg : j = g := by
              first
              | (rw [← hg]; exact (fidx_eq (c := c4) (j := j) (by omega) hno (fun _ => spY_2 h_33)).symm)
              | (rw [← hg]; exact (fidx_eq (c := c4) (j := j) (by omega) hno (fun _ => spY_3 h_47)).symm)
              | (exfalso; have hj9 : j = c4 := by (have := nle1 h_19 hl4 rfl (by omega) (by omega); omega)
                 exact absurd (fidx_eq (c := c4) (j := j) (by omega) hno (fun h => absurd h (by omega))) (by omega))
            subst hjg
            exact l56
          · refine j_iinc (v := nI (j + 1)) K dX6_touchUp_50 rfl (by decide) (nI_1 _) ?_
            refine j_goto K 12 dX6_touchUp_53 (by decide) ?_
            exact ih (j + 1) (by omega) (by omega) (fun j' hj' => (Nat.lt_succ_iff_lt_or_eq.mp hj').elim (hno j') (fun e => by subst e; exact spY_n h_33 h_47))
  refine j_aload_n K 0 dX6_touchUp_0 rfl rfl ?_
  refine j_iload_n K 1 dX6_touchUp_1 rfl rfl ?_
  refine j_cV1r K dX6_touchUp_2 m_X6_isPier v_X6_isPier k_X6_125 rfl ⟨by decide, rfl⟩ rfl (c_MP _ hI ⟨a, ha, hx⟩) (Nat.le_of_ble_eq_true rfl) ⟨by decide, by decide⟩ (by decide) (by decide) ?_
  refine j_if_ne K 10 dX6_touchUp_5 (by decide) (fun h_5 => ?_) (fun h_5 => absurd h_5 (by decide))
  refine j_iconst K 0 dX6_touchUp_10 rfl ?_
  refine j_istore_n K 2 dX6_touchUp_11 rfl (by decide) ?_
  exact lp (c4 + 1) 0 (by omega) (by omega) (fun j' h => absurd h (by omega))
