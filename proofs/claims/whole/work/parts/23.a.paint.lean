/-- lines painted one after another, at most k -/
def pntV (n : Nat) : Nat → jV → Nat → jV × Nat
  | 0, V, j => (V, j)
  | k + 1, V, j => if (pnl n V).2 = true then pntV n k (pnl n V).1 (j + 1) else ((pnl n V).1, j)
theorem XI_pnt {n : Nat} : ∀ (k : Nat) (V : jV) (j : Nat), XI n V → XI n (pntV n k V j).1
  | 0, V, j, h => h
  | k + 1, V, j, h => by
    unfold pntV
    split
    · exact XI_pnt k _ _ (XI_pnl h)
    · exact XI_pnl h
set_option maxRecDepth 20000 in
set_option maxHeartbeats 400000 in
theorem c_paint {l : Launch} {D : va_G} {ca : Nat → ClassId} {q0 : Nat} {sa : Nat → Nat} {ad : jAd} {z n : Nat} {V : jV} {N : Nat} (hI : XI n V) (hN : 1 ≤ N) (hN5 : N ≤ 50) : jMet l D ca q0 sa ad yX5_paint cX5_paint 3 (some .int) 6 0 0 [.ref (ad 0 0), .int (nI N)] (jS z n V) (jRet (some (.int (nI (pntV n N V 0).2))) (jS z n (pntV n N V 0).1)) := by
  refine j_enter RX5 [some (.ref (ad 0 0)), some (.int (nI N)), none] rfl (by decide) (by simp [Value.category]) (Nat.le_of_ble_eq_true rfl) rfl ?_
  intro p e s m args below meth c K hnm hX
  have hn6 := hI.1
  have lp : ∀ (k j : Nat) (U : jV), XI n U → j + k = N → pntV n k U j = pntV n N V 0 → jW p l e (jRm 6 0 0) s m args below meth c D ca q0 ad 3 (jZ below args s D ca q0 ad 0 0 (jRet (some (.int (nI (pntV n N V 0).2))) (jS z n (pntV n N V 0).1))) 0 0 9 [some (.ref (ad 0 0)), some (.int (nI N)), some (.int (nI j))] [] (jS z n U) := by
    intro k
    induction k with
    | zero =>
      intro j U hU hjk hE
      refine j_iload_n K 2 dX5_paint_9 rfl rfl ?_
      refine j_iload_n K 1 dX5_paint_10 rfl rfl ?_
      refine j_icmp_ge K 27 dX5_paint_11 (by decide) (fun h_11 => ?_) (fun h_11 => ?_)
      · refine j_iload_n K 2 dX5_paint_27 rfl rfl ?_
        refine j_iret K dX5_paint_28 ?_
        rw [← hE]; exact ⟨rfl, rfl⟩
      · exact absurd (nI_le (a := N) (b := j) (by omega) (by omega)) h_11
    | succ k ih =>
      intro j U hU hjk hE
      refine j_iload_n K 2 dX5_paint_9 rfl rfl ?_
      refine j_iload_n K 1 dX5_paint_10 rfl rfl ?_
      refine j_icmp_ge K 27 dX5_paint_11 (by decide) (fun h_11 => ?_) (fun h_11 => ?_)
      · exact absurd (nle1 h_11 (a := N) (b := j) rfl rfl (by omega) (by omega)) (by omega)
      · refine j_aload_n K 0 dX5_paint_14 rfl rfl ?_
        refine j_cV0r K dX5_paint_15 m_X5_paintNextLine v_X5_paintNextLine k_X5_201 rfl ⟨by decide, rfl⟩ rfl (c_X5_paintNextLine hU) (Nat.le_of_ble_eq_true rfl) ⟨by decide, by decide⟩ (by decide) (by decide) ?_
        refine j_if_eq K 27 dX5_paint_18 (by decide) (fun h_18 => ?_) (fun h_18 => ?_)
        · refine j_iload_n K 2 dX5_paint_27 rfl rfl ?_
          refine j_iret K dX5_paint_28 ?_
          have hb : (pnl n U).2 = false := by
            cases hq : (pnl n U).2
            · rfl
            · rw [hq] at h_18; exact absurd h_18 (by decide)
          rw [← hE, pntV, if_neg (by rw [hb]; decide)]; exact ⟨rfl, rfl⟩
        · refine j_iinc (v := nI (j + 1)) K dX5_paint_21 rfl (by decide) (nI_1 _) ?_
          refine j_goto K 9 dX5_paint_24 (by decide) ?_
          have hb : (pnl n U).2 = true := by
            cases hq : (pnl n U).2
            · rw [hq] at h_18; exact absurd rfl h_18
            · rfl
          exact ih (j + 1) (pnl n U).1 (XI_pnl hU) (by omega) (by rw [← hE, pntV, if_pos hb])
  refine j_iload_n K 1 dX5_paint_0 rfl rfl ?_
  refine j_iconst K 1 dX5_paint_1 rfl ?_
  refine j_bipush K 50 dX5_paint_2 rfl ?_
  refine j_cS3n K dX5_paint_4 m_X5_demandWithin s_X5_demandWithin k_X5_55 (c_dW _ _ _ ⟨by rw [show (1 : Int32) = nI 1 from rfl]; exact nI_le hN (by omega), by rw [show (50 : Int32) = nI 50 from rfl]; exact nI_le hN5 (by omega)⟩) (Nat.le_of_ble_eq_true rfl) ⟨by decide, by decide⟩ (by decide) (by decide) ?_
  refine j_iconst K 0 dX5_paint_7 rfl ?_
  refine j_istore_n K 2 dX5_paint_8 rfl (by decide) ?_
  exact lp N 0 V hI (by omega) rfl
set_option maxRecDepth 20000 in
set_option maxHeartbeats 400000 in
theorem c_paintx {l : Launch} {D : va_G} {ca : Nat → ClassId} {q0 : Nat} {sa : Nat → Nat} {ad : jAd} {z n : Nat} {V : jV} (x : Int32) (h : ¬ (1 ≤ x ∧ x ≤ 50)) : jMet l D ca q0 sa ad yX5_paint cX5_paint 3 (some .int) 6 1 6 [.ref (ad 0 0), .int x] (jS z n V) (jExc "java/lang/IllegalArgumentException" (jS z n V)) := by
  refine j_enter RX5 [some (.ref (ad 0 0)), some (.int x), none] rfl (by decide) (by simp [Value.category]) (Nat.le_of_ble_eq_true rfl) rfl ?_
  intro p e s m args below meth c K hnm hX
  refine j_iload_n K 1 dX5_paint_0 rfl rfl ?_
  refine j_iconst K 1 dX5_paint_1 rfl ?_
  refine j_bipush K 50 dX5_paint_2 rfl ?_
  exact j_cS3x K dX5_paint_4 m_X5_demandWithin s_X5_demandWithin k_X5_55 (c_dWx _ _ _ h) (Nat.le_of_ble_eq_true rfl) ⟨by decide, by decide⟩ (by decide) (by decide) hX (fun _ => ⟨rfl, rfl⟩)
set_option maxRecDepth 20000 in
set_option maxHeartbeats 400000 in
theorem c_touchUp1 {l : Launch} {D : va_G} {ca : Nat → ClassId} {q0 : Nat} {sa : Nat → Nat} {ad : jAd} {z n : Nat} {V : jV} {a g h : Nat} (x : Int32) (hI : XI n V) (ha : a < n) (hx : x = nI a) (hs : fidx (spo V a) (tn (V 6 a 3)) = g) (hgs : g < tn (V 6 a 3)) (hk : V 9 a g = 0) (ht9 : fidx (fun j => decide (5 ≤ V 5 1 j)) (tn (V 4 1 1)) = h) (hth : h < tn (V 4 1 1)) : jMet l D ca q0 sa ad yX5_touchUp cX5_touchUp 4 (some .int) 3 0 0 [.ref (ad 0 0), .int x] (jS z n V) (jRet (some (.int (nI g))) (jS z n (mrdV (up (tkV V 1 5 h (tn (V 4 1 1))) 0 0 9 (V 0 0 9 + 5)) a g (V 0 0 7)))) := by
  refine j_enter RX5 [some (.ref (ad 0 0)), some (.int x), none, none] rfl (by decide) (by simp [Value.category]) (Nat.le_of_ble_eq_true rfl) rfl ?_
  intro p e s m args below meth c K hnm hX
  have hn6 := hI.1
  have hl : decide (a < n) = true := decide_eq_true ha
  have ht : LV n 6 a = true := lv_pier ha
  have hw := hI.2.2.2.1 a ha
  obtain ⟨hw, hw4⟩ := hw
  have hc9 := hI.2.2.2.2.1 1 (by decide)
  obtain ⟨hc, hc12⟩ := hc9
  have hq : decide (1 < 2) = true := rfl
  have hgle := fidx_le (spo V a) (tn (V 6 a 3))
  have hfr : fres (spo V a) (tn (V 6 a 3)) = nI g := by unfold fres; rw [hs, if_pos hgs]
  refine j_aload_n K 0 dX5_touchUp_0 rfl rfl ?_
  refine j_iload_n K 1 dX5_touchUp_1 rfl rfl ?_
  refine j_cV1r K dX5_touchUp_2 m_X5_pierNumbered v_X5_pierNumbered k_X5_95 rfl ⟨by decide, rfl⟩ rfl (c_pN _ hI ha hx) (Nat.le_of_ble_eq_true rfl) ⟨by decide, by decide⟩ (by decide) (by decide) ?_
  refine jGr K 15 a dX5_touchUp_5 f_X5_79 rfl hl rfl rfl ?_
  refine j_astore_n K 2 dX5_touchUp_8 rfl (by decide) ?_
  refine j_aload_n K 2 dX5_touchUp_9 rfl rfl ?_
  refine j_cV0r K dX5_touchUp_10 m_X0_firstSpoiltLine v_X0_firstSpoiltLine k_X5_207 rfl ⟨by decide, rfl⟩ hl (c_X0_firstSpoiltLine hl ht hw hw4) (Nat.le_of_ble_eq_true rfl) ⟨by decide, by decide⟩ (by decide) (by decide) ?_
  refine j_istore_n K 3 dX5_touchUp_13 rfl (by decide) ?_
  refine j_iload_n K 3 dX5_touchUp_14 rfl rfl ?_
  refine j_iconst K (-1) dX5_touchUp_15 rfl ?_
  refine j_icmp_ne K 29 dX5_touchUp_16 (by decide) (fun h_16 => ?_) (fun h_16 => ?_)
  · refine j_aload_n K 0 dX5_touchUp_29 rfl rfl ?_
    refine j_aload_n K 2 dX5_touchUp_30 rfl rfl ?_
    refine j_iload_n K 3 dX5_touchUp_31 rfl rfl ?_
    refine j_cV2r K dX5_touchUp_32 m_X5_tinsForLine v_X5_tinsForLine k_X5_212 rfl ⟨by decide, rfl⟩ rfl (c_tL1 _ hl ht hfr (by omega) hk) (Nat.le_of_ble_eq_true rfl) ⟨by decide, by decide⟩ (by decide) (by decide) ?_
    refine j_iconst K 5 dX5_touchUp_35 rfl ?_
    refine j_cV1r K dX5_touchUp_36 m_X4_take v_X4_take k_X5_216 rfl ⟨by decide, rfl⟩ rfl (c_X4_take_ok _ hq hc hc12 ht9 hth) (Nat.le_of_ble_eq_true rfl) ⟨by decide, by decide⟩ (by decide) (by decide) ?_
    refine j_if_ne K 52 dX5_touchUp_39 (by decide) (fun h_39 => ?_) (fun h_39 => absurd h_39 (by decide))
    refine j_aload_n K 0 dX5_touchUp_52 rfl rfl ?_
    refine j_dup K dX5_touchUp_53 rfl ?_
    refine jGi K dX5_touchUp_54 f_X5_49 rfl rfl rfl ?_
    refine j_iconst K 5 dX5_touchUp_57 rfl ?_
    refine j_iadd K dX5_touchUp_58 ?_
    refine jPi K dX5_touchUp_59 fo_X5_49 rfl rfl rfl rfl (Or.inl rfl) ?_
    refine j_aload_n K 2 dX5_touchUp_62 rfl rfl ?_
    refine j_iload_n K 3 dX5_touchUp_63 rfl rfl ?_
    refine j_aload_n K 0 dX5_touchUp_64 rfl rfl ?_
    refine jGi K dX5_touchUp_65 f_X5_43 rfl rfl rfl ?_
    refine j_cV2n K dX5_touchUp_68 m_X0_makeReadable v_X0_makeReadable k_X5_222 rfl ⟨by decide, rfl⟩ hl (c_X0_makeReadable _ _ hl hfr (by omega)) (Nat.le_of_ble_eq_true rfl) ⟨by decide, by decide⟩ (by decide) (by decide) ?_
    refine j_iload_n K 3 dX5_touchUp_71 rfl rfl ?_
    refine j_iret K dX5_touchUp_72 ?_
    rw [hfr]; exact ⟨rfl, rfl⟩
  · exact absurd (hfr.symm.trans h_16) (nI_neg1 (by omega))
set_option maxRecDepth 20000 in
set_option maxHeartbeats 400000 in
theorem c_touchUp1x3 {l : Launch} {D : va_G} {ca : Nat → ClassId} {q0 : Nat} {sa : Nat → Nat} {ad : jAd} {z n : Nat} {V : jV} {a g : Nat} (x : Int32) (hI : XI n V) (ha : a < n) (hx : x = nI a) (hs : fidx (spo V a) (tn (V 6 a 3)) = g) (hgs : g < tn (V 6 a 3)) (hk : V 9 a g = 0) (ht9 : ¬ fidx (fun j => decide (5 ≤ V 5 1 j)) (tn (V 4 1 1)) < tn (V 4 1 1)) : jMet l D ca q0 sa ad yX5_touchUp cX5_touchUp 4 (some .int) 3 1 6 [.ref (ad 0 0), .int x] (jS z n V) (jExc "java/lang/IllegalStateException" (jS z n V)) := by
  refine j_enter RX5 [some (.ref (ad 0 0)), some (.int x), none, none] rfl (by decide) (by simp [Value.category]) (Nat.le_of_ble_eq_true rfl) rfl ?_
  intro p e s m args below meth c K hnm hX
  have hn6 := hI.1
  have hl : decide (a < n) = true := decide_eq_true ha
  have ht : LV n 6 a = true := lv_pier ha
  have hw := hI.2.2.2.1 a ha
  obtain ⟨hw, hw4⟩ := hw
  have hc9 := hI.2.2.2.2.1 1 (by decide)
  obtain ⟨hc, hc12⟩ := hc9
  have hq : decide (1 < 2) = true := rfl
  have hgle := fidx_le (spo V a) (tn (V 6 a 3))
  have hfr : fres (spo V a) (tn (V 6 a 3)) = nI g := by unfold fres; rw [hs, if_pos hgs]
  refine j_aload_n K 0 dX5_touchUp_0 rfl rfl ?_
  refine j_iload_n K 1 dX5_touchUp_1 rfl rfl ?_
  refine j_cV1r K dX5_touchUp_2 m_X5_pierNumbered v_X5_pierNumbered k_X5_95 rfl ⟨by decide, rfl⟩ rfl (c_pN _ hI ha hx) (Nat.le_of_ble_eq_true rfl) ⟨by decide, by decide⟩ (by decide) (by decide) ?_
  refine jGr K 15 a dX5_touchUp_5 f_X5_79 rfl hl rfl rfl ?_
  refine j_astore_n K 2 dX5_touchUp_8 rfl (by decide) ?_
  refine j_aload_n K 2 dX5_touchUp_9 rfl rfl ?_
  refine j_cV0r K dX5_touchUp_10 m_X0_firstSpoiltLine v_X0_firstSpoiltLine k_X5_207 rfl ⟨by decide, rfl⟩ hl (c_X0_firstSpoiltLine hl ht hw hw4) (Nat.le_of_ble_eq_true rfl) ⟨by decide, by decide⟩ (by decide) (by decide) ?_
  refine j_istore_n K 3 dX5_touchUp_13 rfl (by decide) ?_
  refine j_iload_n K 3 dX5_touchUp_14 rfl rfl ?_
  refine j_iconst K (-1) dX5_touchUp_15 rfl ?_
  refine j_icmp_ne K 29 dX5_touchUp_16 (by decide) (fun h_16 => ?_) (fun h_16 => ?_)
  · refine j_aload_n K 0 dX5_touchUp_29 rfl rfl ?_
    refine j_aload_n K 2 dX5_touchUp_30 rfl rfl ?_
    refine j_iload_n K 3 dX5_touchUp_31 rfl rfl ?_
    refine j_cV2r K dX5_touchUp_32 m_X5_tinsForLine v_X5_tinsForLine k_X5_212 rfl ⟨by decide, rfl⟩ rfl (c_tL1 _ hl ht hfr (by omega) hk) (Nat.le_of_ble_eq_true rfl) ⟨by decide, by decide⟩ (by decide) (by decide) ?_
    refine j_iconst K 5 dX5_touchUp_35 rfl ?_
    refine j_cV1r K dX5_touchUp_36 m_X4_take v_X4_take k_X5_216 rfl ⟨by decide, rfl⟩ rfl (c_X4_take_no _ hq hc hc12 ht9) (Nat.le_of_ble_eq_true rfl) ⟨by decide, by decide⟩ (by decide) (by decide) ?_
    refine j_if_ne K 52 dX5_touchUp_39 (by decide) (fun h_39 => absurd (by decide) h_39) (fun h_39 => ?_)
    exact j_throw (text := "the paint cannot be taken") K hX thr_ISE (by decide +kernel) dX5_touchUp_42 dX5_touchUp_45 dX5_touchUp_46 dX5_touchUp_48 dX5_touchUp_51 (by decide) (by decide) (Nat.le_of_ble_eq_true rfl) (fun _ => ⟨rfl, rfl⟩)
  · exact absurd (hfr.symm.trans h_16) (nI_neg1 (by omega))
set_option maxRecDepth 20000 in
set_option maxHeartbeats 400000 in
theorem c_touchUp0 {l : Launch} {D : va_G} {ca : Nat → ClassId} {q0 : Nat} {sa : Nat → Nat} {ad : jAd} {z n : Nat} {V : jV} {a g h : Nat} (x : Int32) (hI : XI n V) (ha : a < n) (hx : x = nI a) (hs : fidx (spo V a) (tn (V 6 a 3)) = g) (hgs : g < tn (V 6 a 3)) (hk : ¬ V 9 a g = 0) (ht9 : fidx (fun j => decide (5 ≤ V 5 0 j)) (tn (V 4 0 1)) = h) (hth : h < tn (V 4 0 1)) : jMet l D ca q0 sa ad yX5_touchUp cX5_touchUp 4 (some .int) 3 0 0 [.ref (ad 0 0), .int x] (jS z n V) (jRet (some (.int (nI g))) (jS z n (mrdV (up (tkV V 0 5 h (tn (V 4 0 1))) 0 0 9 (V 0 0 9 + 5)) a g (V 0 0 7)))) := by
  refine j_enter RX5 [some (.ref (ad 0 0)), some (.int x), none, none] rfl (by decide) (by simp [Value.category]) (Nat.le_of_ble_eq_true rfl) rfl ?_
  intro p e s m args below meth c K hnm hX
  have hn6 := hI.1
  have hl : decide (a < n) = true := decide_eq_true ha
  have ht : LV n 6 a = true := lv_pier ha
  have hw := hI.2.2.2.1 a ha
  obtain ⟨hw, hw4⟩ := hw
  have hc9 := hI.2.2.2.2.1 0 (by decide)
  obtain ⟨hc, hc12⟩ := hc9
  have hq : decide (0 < 2) = true := rfl
  have hgle := fidx_le (spo V a) (tn (V 6 a 3))
  have hfr : fres (spo V a) (tn (V 6 a 3)) = nI g := by unfold fres; rw [hs, if_pos hgs]
  refine j_aload_n K 0 dX5_touchUp_0 rfl rfl ?_
  refine j_iload_n K 1 dX5_touchUp_1 rfl rfl ?_
  refine j_cV1r K dX5_touchUp_2 m_X5_pierNumbered v_X5_pierNumbered k_X5_95 rfl ⟨by decide, rfl⟩ rfl (c_pN _ hI ha hx) (Nat.le_of_ble_eq_true rfl) ⟨by decide, by decide⟩ (by decide) (by decide) ?_
  refine jGr K 15 a dX5_touchUp_5 f_X5_79 rfl hl rfl rfl ?_
  refine j_astore_n K 2 dX5_touchUp_8 rfl (by decide) ?_
  refine j_aload_n K 2 dX5_touchUp_9 rfl rfl ?_
  refine j_cV0r K dX5_touchUp_10 m_X0_firstSpoiltLine v_X0_firstSpoiltLine k_X5_207 rfl ⟨by decide, rfl⟩ hl (c_X0_firstSpoiltLine hl ht hw hw4) (Nat.le_of_ble_eq_true rfl) ⟨by decide, by decide⟩ (by decide) (by decide) ?_
  refine j_istore_n K 3 dX5_touchUp_13 rfl (by decide) ?_
  refine j_iload_n K 3 dX5_touchUp_14 rfl rfl ?_
  refine j_iconst K (-1) dX5_touchUp_15 rfl ?_
  refine j_icmp_ne K 29 dX5_touchUp_16 (by decide) (fun h_16 => ?_) (fun h_16 => ?_)
  · refine j_aload_n K 0 dX5_touchUp_29 rfl rfl ?_
    refine j_aload_n K 2 dX5_touchUp_30 rfl rfl ?_
    refine j_iload_n K 3 dX5_touchUp_31 rfl rfl ?_
    refine j_cV2r K dX5_touchUp_32 m_X5_tinsForLine v_X5_tinsForLine k_X5_212 rfl ⟨by decide, rfl⟩ rfl (c_tL0 _ hl ht hfr (by omega) hk) (Nat.le_of_ble_eq_true rfl) ⟨by decide, by decide⟩ (by decide) (by decide) ?_
    refine j_iconst K 5 dX5_touchUp_35 rfl ?_
    refine j_cV1r K dX5_touchUp_36 m_X4_take v_X4_take k_X5_216 rfl ⟨by decide, rfl⟩ rfl (c_X4_take_ok _ hq hc hc12 ht9 hth) (Nat.le_of_ble_eq_true rfl) ⟨by decide, by decide⟩ (by decide) (by decide) ?_
    refine j_if_ne K 52 dX5_touchUp_39 (by decide) (fun h_39 => ?_) (fun h_39 => absurd h_39 (by decide))
    refine j_aload_n K 0 dX5_touchUp_52 rfl rfl ?_
    refine j_dup K dX5_touchUp_53 rfl ?_
    refine jGi K dX5_touchUp_54 f_X5_49 rfl rfl rfl ?_
    refine j_iconst K 5 dX5_touchUp_57 rfl ?_
    refine j_iadd K dX5_touchUp_58 ?_
    refine jPi K dX5_touchUp_59 fo_X5_49 rfl rfl rfl rfl (Or.inl rfl) ?_
    refine j_aload_n K 2 dX5_touchUp_62 rfl rfl ?_
    refine j_iload_n K 3 dX5_touchUp_63 rfl rfl ?_
    refine j_aload_n K 0 dX5_touchUp_64 rfl rfl ?_
    refine jGi K dX5_touchUp_65 f_X5_43 rfl rfl rfl ?_
    refine j_cV2n K dX5_touchUp_68 m_X0_makeReadable v_X0_makeReadable k_X5_222 rfl ⟨by decide, rfl⟩ hl (c_X0_makeReadable _ _ hl hfr (by omega)) (Nat.le_of_ble_eq_true rfl) ⟨by decide, by decide⟩ (by decide) (by decide) ?_
    refine j_iload_n K 3 dX5_touchUp_71 rfl rfl ?_
    refine j_iret K dX5_touchUp_72 ?_
    rw [hfr]; exact ⟨rfl, rfl⟩
  · exact absurd (hfr.symm.trans h_16) (nI_neg1 (by omega))
set_option maxRecDepth 20000 in
set_option maxHeartbeats 400000 in
theorem c_touchUp0x3 {l : Launch} {D : va_G} {ca : Nat → ClassId} {q0 : Nat} {sa : Nat → Nat} {ad : jAd} {z n : Nat} {V : jV} {a g : Nat} (x : Int32) (hI : XI n V) (ha : a < n) (hx : x = nI a) (hs : fidx (spo V a) (tn (V 6 a 3)) = g) (hgs : g < tn (V 6 a 3)) (hk : ¬ V 9 a g = 0) (ht9 : ¬ fidx (fun j => decide (5 ≤ V 5 0 j)) (tn (V 4 0 1)) < tn (V 4 0 1)) : jMet l D ca q0 sa ad yX5_touchUp cX5_touchUp 4 (some .int) 3 1 6 [.ref (ad 0 0), .int x] (jS z n V) (jExc "java/lang/IllegalStateException" (jS z n V)) := by
  refine j_enter RX5 [some (.ref (ad 0 0)), some (.int x), none, none] rfl (by decide) (by simp [Value.category]) (Nat.le_of_ble_eq_true rfl) rfl ?_
  intro p e s m args below meth c K hnm hX
  have hn6 := hI.1
  have hl : decide (a < n) = true := decide_eq_true ha
  have ht : LV n 6 a = true := lv_pier ha
  have hw := hI.2.2.2.1 a ha
  obtain ⟨hw, hw4⟩ := hw
  have hc9 := hI.2.2.2.2.1 0 (by decide)
  obtain ⟨hc, hc12⟩ := hc9
  have hq : decide (0 < 2) = true := rfl
  have hgle := fidx_le (spo V a) (tn (V 6 a 3))
  have hfr : fres (spo V a) (tn (V 6 a 3)) = nI g := by unfold fres; rw [hs, if_pos hgs]
  refine j_aload_n K 0 dX5_touchUp_0 rfl rfl ?_
  refine j_iload_n K 1 dX5_touchUp_1 rfl rfl ?_
  refine j_cV1r K dX5_touchUp_2 m_X5_pierNumbered v_X5_pierNumbered k_X5_95 rfl ⟨by decide, rfl⟩ rfl (c_pN _ hI ha hx) (Nat.le_of_ble_eq_true rfl) ⟨by decide, by decide⟩ (by decide) (by decide) ?_
  refine jGr K 15 a dX5_touchUp_5 f_X5_79 rfl hl rfl rfl ?_
  refine j_astore_n K 2 dX5_touchUp_8 rfl (by decide) ?_
  refine j_aload_n K 2 dX5_touchUp_9 rfl rfl ?_
  refine j_cV0r K dX5_touchUp_10 m_X0_firstSpoiltLine v_X0_firstSpoiltLine k_X5_207 rfl ⟨by decide, rfl⟩ hl (c_X0_firstSpoiltLine hl ht hw hw4) (Nat.le_of_ble_eq_true rfl) ⟨by decide, by decide⟩ (by decide) (by decide) ?_
  refine j_istore_n K 3 dX5_touchUp_13 rfl (by decide) ?_
  refine j_iload_n K 3 dX5_touchUp_14 rfl rfl ?_
  refine j_iconst K (-1) dX5_touchUp_15 rfl ?_
  refine j_icmp_ne K 29 dX5_touchUp_16 (by decide) (fun h_16 => ?_) (fun h_16 => ?_)
  · refine j_aload_n K 0 dX5_touchUp_29 rfl rfl ?_
    refine j_aload_n K 2 dX5_touchUp_30 rfl rfl ?_
    refine j_iload_n K 3 dX5_touchUp_31 rfl rfl ?_
    refine j_cV2r K dX5_touchUp_32 m_X5_tinsForLine v_X5_tinsForLine k_X5_212 rfl ⟨by decide, rfl⟩ rfl (c_tL0 _ hl ht hfr (by omega) hk) (Nat.le_of_ble_eq_true rfl) ⟨by decide, by decide⟩ (by decide) (by decide) ?_
    refine j_iconst K 5 dX5_touchUp_35 rfl ?_
    refine j_cV1r K dX5_touchUp_36 m_X4_take v_X4_take k_X5_216 rfl ⟨by decide, rfl⟩ rfl (c_X4_take_no _ hq hc hc12 ht9) (Nat.le_of_ble_eq_true rfl) ⟨by decide, by decide⟩ (by decide) (by decide) ?_
    refine j_if_ne K 52 dX5_touchUp_39 (by decide) (fun h_39 => absurd (by decide) h_39) (fun h_39 => ?_)
    exact j_throw (text := "the paint cannot be taken") K hX thr_ISE (by decide +kernel) dX5_touchUp_42 dX5_touchUp_45 dX5_touchUp_46 dX5_touchUp_48 dX5_touchUp_51 (by decide) (by decide) (Nat.le_of_ble_eq_true rfl) (fun _ => ⟨rfl, rfl⟩)
  · exact absurd (hfr.symm.trans h_16) (nI_neg1 (by omega))
set_option maxRecDepth 20000 in
set_option maxHeartbeats 400000 in
theorem c_touchUpx1 {l : Launch} {D : va_G} {ca : Nat → ClassId} {q0 : Nat} {sa : Nat → Nat} {ad : jAd} {z n : Nat} {V : jV} (x : Int32) (hI : XI n V) (h : ¬ okP n x) : jMet l D ca q0 sa ad yX5_touchUp cX5_touchUp 4 (some .int) 3 1 6 [.ref (ad 0 0), .int x] (jS z n V) (jExc "java/lang/IndexOutOfBoundsException" (jS z n V)) := by
  refine j_enter RX5 [some (.ref (ad 0 0)), some (.int x), none, none] rfl (by decide) (by simp [Value.category]) (Nat.le_of_ble_eq_true rfl) rfl ?_
  intro p e s m args below meth c K hnm hX
  refine j_aload_n K 0 dX5_touchUp_0 rfl rfl ?_
  refine j_iload_n K 1 dX5_touchUp_1 rfl rfl ?_
  exact j_cV1x K dX5_touchUp_2 m_X5_pierNumbered v_X5_pierNumbered k_X5_95 rfl ⟨by decide, rfl⟩ rfl (c_pNx _ hI h) (Nat.le_of_ble_eq_true rfl) ⟨by decide, by decide⟩ (by decide) (by decide) hX (fun _ => ⟨rfl, rfl⟩)
set_option maxRecDepth 20000 in
set_option maxHeartbeats 400000 in
theorem c_touchUpx2 {l : Launch} {D : va_G} {ca : Nat → ClassId} {q0 : Nat} {sa : Nat → Nat} {ad : jAd} {z n : Nat} {V : jV} {a : Nat} (x : Int32) (hI : XI n V) (ha : a < n) (hx : x = nI a) (hs : ¬ fidx (spo V a) (tn (V 6 a 3)) < tn (V 6 a 3)) : jMet l D ca q0 sa ad yX5_touchUp cX5_touchUp 4 (some .int) 3 1 6 [.ref (ad 0 0), .int x] (jS z n V) (jExc ns_C (jS z n V)) := by
  refine j_enter RX5 [some (.ref (ad 0 0)), some (.int x), none, none] rfl (by decide) (by simp [Value.category]) (Nat.le_of_ble_eq_true rfl) rfl ?_
  intro p e s m args below meth c K hnm hX
  have hn6 := hI.1
  have hl : decide (a < n) = true := decide_eq_true ha
  have ht : LV n 6 a = true := lv_pier ha
  have hw := hI.2.2.2.1 a ha
  obtain ⟨hw, hw4⟩ := hw
  have hfr : fres (spo V a) (tn (V 6 a 3)) = -1 := by unfold fres; rw [if_neg hs]
  refine j_aload_n K 0 dX5_touchUp_0 rfl rfl ?_
  refine j_iload_n K 1 dX5_touchUp_1 rfl rfl ?_
  refine j_cV1r K dX5_touchUp_2 m_X5_pierNumbered v_X5_pierNumbered k_X5_95 rfl ⟨by decide, rfl⟩ rfl (c_pN _ hI ha hx) (Nat.le_of_ble_eq_true rfl) ⟨by decide, by decide⟩ (by decide) (by decide) ?_
  refine jGr K 15 a dX5_touchUp_5 f_X5_79 rfl hl rfl rfl ?_
  refine j_astore_n K 2 dX5_touchUp_8 rfl (by decide) ?_
  refine j_aload_n K 2 dX5_touchUp_9 rfl rfl ?_
  refine j_cV0r K dX5_touchUp_10 m_X0_firstSpoiltLine v_X0_firstSpoiltLine k_X5_207 rfl ⟨by decide, rfl⟩ hl (c_X0_firstSpoiltLine hl ht hw hw4) (Nat.le_of_ble_eq_true rfl) ⟨by decide, by decide⟩ (by decide) (by decide) ?_
  refine j_istore_n K 3 dX5_touchUp_13 rfl (by decide) ?_
  refine j_iload_n K 3 dX5_touchUp_14 rfl rfl ?_
  refine j_iconst K (-1) dX5_touchUp_15 rfl ?_
  refine j_icmp_ne K 29 dX5_touchUp_16 (by decide) (fun h_16 => ?_) (fun h_16 => ?_)
  · exact absurd hfr h_16
  · exact j_throwN (text := "no line is blotted or faded") K hX thr_NSE (by decide +kernel) dX5_touchUp_19 dX5_touchUp_22 dX5_touchUp_23 dX5_touchUp_25 dX5_touchUp_28 (by decide) (by decide) (Nat.le_of_ble_eq_true rfl) (fun _ => ⟨rfl, rfl⟩)
