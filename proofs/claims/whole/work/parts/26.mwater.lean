theorem dist_0 {d : Int32} (h : moonOf d - moonOf d / 59 * 59 = 0) : distOf d = 0 := by
  unfold distOf
  simp only [h]
  rfl
set_option maxRecDepth 20000 in
set_option maxHeartbeats 400000 in
theorem c_Mrange {l : Launch} {D : va_G} {ca : Nat → ClassId} {q0 : Nat} {sa : Nat → Nat} {ad : jAd} {z n a : Nat} {V : jV} (x d : Int32) (hn6 : n ≤ 6) (ha : a < n) (hx : x = nI a)  : jMet l D ca q0 sa ad yX6_range cX6_range 5 (some .int) 1 0 0 [.ref (ad 20 0), .int x, .int d] (jS z n V) (jRet (some (.int (rangeY V a d))) (jS z n V)) := by
  refine j_enter RX6 [some (.ref (ad 20 0)), some (.int x), some (.int d), none, none] rfl (by decide) (by simp [Value.category]) (Nat.le_of_ble_eq_true rfl) rfl ?_
  intro p e s m args below meth c K hnm hX
  refine j_iload_n K 2 dX6_range_0 rfl rfl ?_
  refine j_cS1r K dX6_range_1 m_X6_moon s_X6_moon k_X6_112 (c_Mmoon _) (Nat.le_of_ble_eq_true rfl) ⟨by decide, by decide⟩ (by decide) (by decide) ?_
  refine j_bipush K 59 dX6_range_4 rfl ?_
  refine j_irem K dX6_range_6 (by decide) ?_
  refine j_istore_n K 3 dX6_range_7 rfl (by decide) ?_
  refine j_iload_n K 3 dX6_range_8 rfl rfl ?_
  refine j_if_ne K 16 dX6_range_9 (by decide) (fun h_9 => ?_) (fun h_9 => ?_)
  · refine j_iload_n K 3 dX6_range_16 rfl rfl ?_
    refine j_bipush K 59 dX6_range_17 rfl ?_
    refine j_iload_n K 3 dX6_range_19 rfl rfl ?_
    refine j_isub K dX6_range_20 ?_
    refine j_mmin K dX6_range_21 k_X6_115 (Nat.le_of_ble_eq_true rfl) ⟨by decide, by decide⟩ ?_
    refine j_istore K dX6_range_24 (by decide) ?_
    refine j_aload_n K 0 dX6_range_26 rfl rfl ?_
    refine jGr K 26 0 dX6_range_27 f_X6_16 rfl rfl rfl rfl ?_
    refine j_iload_n K 1 dX6_range_30 rfl rfl ?_
    refine jIald K (a) dX6_range_31 rfl rfl hx (by omega) ?_
    refine j_aload_n K 0 dX6_range_32 rfl rfl ?_
    refine jGr K 26 0 dX6_range_33 f_X6_16 rfl rfl rfl rfl ?_
    refine j_iload_n K 1 dX6_range_36 rfl rfl ?_
    refine jIald K (a) dX6_range_37 rfl rfl hx (by omega) ?_
    refine j_aload_n K 0 dX6_range_38 rfl rfl ?_
    refine jGr K 27 0 dX6_range_39 f_X6_19 rfl rfl rfl rfl ?_
    refine j_iload_n K 1 dX6_range_42 rfl rfl ?_
    refine jIald K (a) dX6_range_43 rfl rfl hx (by omega) ?_
    refine j_isub K dX6_range_44 ?_
    refine j_iload K dX6_range_45 rfl ?_
    refine j_imul K dX6_range_47 ?_
    refine j_bipush K 29 dX6_range_48 rfl ?_
    refine j_idiv K dX6_range_50 (by decide) ?_
    refine j_isub K dX6_range_51 ?_
    refine j_iret K dX6_range_52 ?_
    first
    | exact ⟨rfl, rfl⟩
    | exact ⟨by unfold rangeY; rw [dist_0 h_9], rfl⟩
  · refine j_iconst K 0 dX6_range_12 rfl ?_
    refine j_goto K 24 dX6_range_13 (by decide) ?_
    refine j_istore K dX6_range_24 (by decide) ?_
    refine j_aload_n K 0 dX6_range_26 rfl rfl ?_
    refine jGr K 26 0 dX6_range_27 f_X6_16 rfl rfl rfl rfl ?_
    refine j_iload_n K 1 dX6_range_30 rfl rfl ?_
    refine jIald K (a) dX6_range_31 rfl rfl hx (by omega) ?_
    refine j_aload_n K 0 dX6_range_32 rfl rfl ?_
    refine jGr K 26 0 dX6_range_33 f_X6_16 rfl rfl rfl rfl ?_
    refine j_iload_n K 1 dX6_range_36 rfl rfl ?_
    refine jIald K (a) dX6_range_37 rfl rfl hx (by omega) ?_
    refine j_aload_n K 0 dX6_range_38 rfl rfl ?_
    refine jGr K 27 0 dX6_range_39 f_X6_19 rfl rfl rfl rfl ?_
    refine j_iload_n K 1 dX6_range_42 rfl rfl ?_
    refine jIald K (a) dX6_range_43 rfl rfl hx (by omega) ?_
    refine j_isub K dX6_range_44 ?_
    refine j_iload K dX6_range_45 rfl ?_
    refine j_imul K dX6_range_47 ?_
    refine j_bipush K 29 dX6_range_48 rfl ?_
    refine j_idiv K dX6_range_50 (by decide) ?_
    refine j_isub K dX6_range_51 ?_
    refine j_iret K dX6_range_52 ?_
    first
    | exact ⟨rfl, rfl⟩
    | exact ⟨by unfold rangeY; rw [dist_0 h_9], rfl⟩
set_option maxRecDepth 20000 in
set_option maxHeartbeats 400000 in
theorem c_Mcorr {l : Launch} {D : va_G} {ca : Nat → ClassId} {q0 : Nat} {sa : Nat → Nat} {ad : jAd} {z n a : Nat} {V : jV} {cnt : Nat} (x : Int32) (hn6 : n ≤ 6) (ha : a < n) (hx : x = nI a) (hR : YR V a cnt)  : jMet l D ca q0 sa ad yX6_correction cX6_correction 5 (some .int) 0 0 0 [.ref (ad 20 0), .int x] (jS z n V) (jRet (some (.int (corr (ymin V a) (ytru V a) cnt))) (jS z n V)) := by
  refine j_enter RX6 [some (.ref (ad 20 0)), some (.int x), none, none, none] rfl (by decide) (by simp [Value.category]) (Nat.le_of_ble_eq_true rfl) rfl ?_
  intro p e s m args below meth c K hnm hX
  have hc6 := hR.2.1
  have lp : ∀ (k j : Nat) , j ≤ cnt → cnt < j + k → jW p l e (jRm 0 0 0) s m args below meth c D ca q0 ad 5 (jZ below args s D ca q0 ad 0 0 (jRet (some (.int (corr (ymin V a) (ytru V a) cnt))) (jS z n V))) 0 0 10 [some (.ref (ad 20 0)), some (.int x), some (.int (cSum (ymin V a) (ytru V a) j)), some (.int (cAll (ytru V a) j)), some (.int (nI (6 * a + j)))] [] (jS z n V) := by
    intro k
    induction k with
    | zero => intro j  hj1 hj2; exact absurd hj2 (by omega)
    | succ k ih =>
      intro j  hj1 hj2 
      refine j_iload K dX6_correction_10 rfl ?_
      refine j_bipush K 6 dX6_correction_12 rfl ?_
      refine j_iload_n K 1 dX6_correction_14 rfl rfl ?_
      refine j_imul K dX6_correction_15 ?_
      refine j_aload_n K 0 dX6_correction_16 rfl rfl ?_
      refine jGr K 30 0 dX6_correction_17 f_X6_28 rfl rfl rfl rfl ?_
      refine j_iload_n K 1 dX6_correction_20 rfl rfl ?_
      refine jIald K (a) dX6_correction_21 rfl rfl hx (by omega) ?_
      refine j_iadd K dX6_correction_22 ?_
      refine j_icmp_ge K 70 dX6_correction_23 (by decide) (fun h_23 => ?_) (fun h_23 => ?_)
      · have hj9 : j = cnt := by
          have q := nle1 h_23 (jx_add (jmul6 hx) hR.1) rfl (by omega) (by omega)
          omega
        subst hj9
        refine j_iload_n K 3 dX6_correction_70 rfl rfl ?_
        refine j_if_ne K 78 dX6_correction_71 (by decide) (fun h_71 => ?_) (fun h_71 => ?_)
        · refine j_iload_n K 2 dX6_correction_78 rfl rfl ?_
          refine j_iload_n K 3 dX6_correction_79 rfl rfl ?_
          refine j_idiv K dX6_correction_80 (fun q => absurd q h_71) ?_
          refine j_iret K dX6_correction_81 ?_
          first
          | exact ⟨by unfold corr; rw [if_pos h_71], rfl⟩
          | exact ⟨by unfold corr; rw [if_neg h_71], rfl⟩
          | exact ⟨by unfold corr; rw [if_pos (Classical.not_not.mp h_71)], rfl⟩
        · refine j_iconst K 0 dX6_correction_74 rfl ?_
          refine j_goto K 81 dX6_correction_75 (by decide) ?_
          refine j_iret K dX6_correction_81 ?_
          first
          | exact ⟨by unfold corr; rw [if_pos h_71], rfl⟩
          | exact ⟨by unfold corr; rw [if_neg h_71], rfl⟩
          | exact ⟨by unfold corr; rw [if_pos (Classical.not_not.mp h_71)], rfl⟩
      · have hj3 : j < cnt := by
          have q := nle0 h_23 (jx_add (jmul6 hx) hR.1) rfl (by omega) (by omega)
          omega
        refine j_iload_n K 2 dX6_correction_26 rfl rfl ?_
        refine j_aload_n K 0 dX6_correction_27 rfl rfl ?_
        refine jGr K 32 0 dX6_correction_28 f_X6_34 rfl rfl rfl rfl ?_
        refine j_iload K dX6_correction_31 rfl ?_
        refine jIald K ((6 * a + j)) dX6_correction_33 rfl rfl rfl (by omega) ?_
        refine j_aload_n K 0 dX6_correction_34 rfl rfl ?_
        refine jGr K 29 0 dX6_correction_35 f_X6_25 rfl rfl rfl rfl ?_
        refine j_aload_n K 0 dX6_correction_38 rfl rfl ?_
        refine jGr K 31 0 dX6_correction_39 f_X6_31 rfl rfl rfl rfl ?_
        refine j_iload K dX6_correction_42 rfl ?_
        refine jIald K ((6 * a + j)) dX6_correction_44 rfl rfl rfl (by omega) ?_
        refine jIald K (tn (V 31 0 (6 * a + j))) dX6_correction_45 rfl rfl (tn_of (by decide) (hR.2.2 j (by omega))).1 (tn_of (by decide) (hR.2.2 j (by omega))).2 ?_
        refine j_imul K dX6_correction_46 ?_
        refine j_iadd K dX6_correction_47 ?_
        refine j_istore_n K 2 dX6_correction_48 rfl (by decide) ?_
        refine j_iload_n K 3 dX6_correction_49 rfl rfl ?_
        refine j_aload_n K 0 dX6_correction_50 rfl rfl ?_
        refine jGr K 29 0 dX6_correction_51 f_X6_25 rfl rfl rfl rfl ?_
        refine j_aload_n K 0 dX6_correction_54 rfl rfl ?_
        refine jGr K 31 0 dX6_correction_55 f_X6_31 rfl rfl rfl rfl ?_
        refine j_iload K dX6_correction_58 rfl ?_
        refine jIald K ((6 * a + j)) dX6_correction_60 rfl rfl rfl (by omega) ?_
        refine jIald K (tn (V 31 0 (6 * a + j))) dX6_correction_61 rfl rfl (tn_of (by decide) (hR.2.2 j (by omega))).1 (tn_of (by decide) (hR.2.2 j (by omega))).2 ?_
        refine j_iadd K dX6_correction_62 ?_
        refine j_istore_n K 3 dX6_correction_63 rfl (by decide) ?_
        refine j_iinc (v := nI ((6 * a + j) + 1)) K dX6_correction_64 rfl (by decide) (nI_1 _) ?_
        refine j_goto K 10 dX6_correction_67 (by decide) ?_
        exact ih (j + 1) (by omega) (by omega)
  refine j_iconst K 0 dX6_correction_0 rfl ?_
  refine j_istore_n K 2 dX6_correction_1 rfl (by decide) ?_
  refine j_iconst K 0 dX6_correction_2 rfl ?_
  refine j_istore_n K 3 dX6_correction_3 rfl (by decide) ?_
  refine j_bipush K 6 dX6_correction_4 rfl ?_
  refine j_iload_n K 1 dX6_correction_6 rfl rfl ?_
  refine j_imul K dX6_correction_7 ?_
  refine j_istore K dX6_correction_8 (by decide) ?_
  rw [show 6 * x = nI (6 * a + 0) from jmul6 hx]
  exact lp (cnt + 1) 0 (by omega) (by omega)
