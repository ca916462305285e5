def rpW (V : jV) (a f : Nat) (m : Int32) (q : Nat) : jV := up (up (up V 31 0 (6 * a + q) (nI f)) 32 0 (6 * a + q) m) 33 0 (6 * a + q) 0
theorem YR_rp1 {V : jV} {a c f q : Nat} {m : Int32} (h : YR V a c) (hf : f < 6) : YR (rpW V a f m q) a c := by
  obtain ⟨h1, h2, h3⟩ := h
  refine ⟨h1, h2, fun j hj => ?_⟩
  show ∃ f', f' < 6 ∧ up V 31 0 (6 * a + q) (nI f) 31 0 (6 * a + j) = nI f'
  unfold up
  split
  · exact ⟨f, hf, rfl⟩
  · exact h3 j hj
theorem YR_rp2 {V : jV} {a c f : Nat} {m : Int32} (h : YR V a c) (hc : c < 6) (hf : f < 6) : YR (rpW (up V 30 0 a (V 30 0 a + 1)) a f m c) a (c + 1) := by
  obtain ⟨h1, h2, h3⟩ := h
  refine ⟨?_, hc, fun j hj => ?_⟩
  · show up V 30 0 a (V 30 0 a + 1) 30 0 a = _
    simp only [up, and_self, if_true]
    rw [h1, nI_1]
  · show ∃ f', f' < 6 ∧ up (up V 30 0 a (V 30 0 a + 1)) 31 0 (6 * a + c) (nI f) 31 0 (6 * a + j) = nI f'
    by_cases e : j = c
    · subst e; exact ⟨f, hf, by simp [up]⟩
    · obtain ⟨f', q1, q2⟩ := h3 j (by omega)
      refine ⟨f', q1, ?_⟩
      unfold up
      rw [if_neg (by omega), if_neg (by omega)]; exact q2
set_option maxRecDepth 20000 in
set_option maxHeartbeats 400000 in
theorem c_M_reportx1 {l : Launch} {D : va_G} {ca : Nat → ClassId} {q0 : Nat} {sa : Nat → Nat} {ad : jAd} {z n : Nat} {V : jV} (w x mt : Int32) (hI : n ≤ 6 ∧ V 20 0 1 = nI n) (hf : ¬ okP 6 w)  : jMet l D ca q0 sa ad yX6_report cX6_report 5 (some .int) 3 0 0 [.ref (ad 20 0), .int w, .int x, .int mt] (jS z n V) (jRet (some (.int 0)) (jS z n (thr V 1))) := by
  refine j_enter RX6 [some (.ref (ad 20 0)), some (.int w), some (.int x), some (.int mt), none] rfl (by decide) (by simp [Value.category]) (Nat.le_of_ble_eq_true rfl) rfl ?_
  intro p e s m args below meth c K hnm hX
  have hn6 := hI.1
  have hp := hI.2
  refine j_aload_n K 0 dX6_report_0 rfl rfl ?_
  refine j_iload_n K 1 dX6_report_1 rfl rfl ?_
  refine j_iload_n K 2 dX6_report_2 rfl rfl ?_
  refine j_cV2r K dX6_report_3 m_X6_isPair v_X6_isPair k_X6_150 rfl ⟨by decide, rfl⟩ rfl (c_Mpair0 _ _ hI hf) (Nat.le_of_ble_eq_true rfl) ⟨by decide, by decide⟩ (by decide) (by decide) ?_
  refine j_if_ne K 11 dX6_report_6 (by decide) (fun h_6 => absurd (by decide) h_6) (fun h_6 => ?_)
  refine j_iconst K 0 dX6_report_9 rfl ?_
  refine j_iret K dX6_report_10 ?_
  exact ⟨rfl, rfl⟩
set_option maxRecDepth 20000 in
set_option maxHeartbeats 400000 in
theorem c_M_reportx2 {l : Launch} {D : va_G} {ca : Nat → ClassId} {q0 : Nat} {sa : Nat → Nat} {ad : jAd} {z n : Nat} {V : jV} (w x mt : Int32) (hI : n ≤ 6 ∧ V 20 0 1 = nI n) (hf : okP 6 w) (h : ¬ okP n x)  : jMet l D ca q0 sa ad yX6_report cX6_report 5 (some .int) 3 0 0 [.ref (ad 20 0), .int w, .int x, .int mt] (jS z n V) (jRet (some (.int 0)) (jS z n (thr V 1))) := by
  refine j_enter RX6 [some (.ref (ad 20 0)), some (.int w), some (.int x), some (.int mt), none] rfl (by decide) (by simp [Value.category]) (Nat.le_of_ble_eq_true rfl) rfl ?_
  intro p e s m args below meth c K hnm hX
  have hn6 := hI.1
  have hp := hI.2
  refine j_aload_n K 0 dX6_report_0 rfl rfl ?_
  refine j_iload_n K 1 dX6_report_1 rfl rfl ?_
  refine j_iload_n K 2 dX6_report_2 rfl rfl ?_
  refine j_cV2r K dX6_report_3 m_X6_isPair v_X6_isPair k_X6_150 rfl ⟨by decide, rfl⟩ rfl (c_Mpair1 _ _ hI hf h) (Nat.le_of_ble_eq_true rfl) ⟨by decide, by decide⟩ (by decide) (by decide) ?_
  refine j_if_ne K 11 dX6_report_6 (by decide) (fun h_6 => absurd (by decide) h_6) (fun h_6 => ?_)
  refine j_iconst K 0 dX6_report_9 rfl ?_
  refine j_iret K dX6_report_10 ?_
  exact ⟨rfl, rfl⟩
set_option maxRecDepth 20000 in
set_option maxHeartbeats 400000 in
theorem c_M_reportx3 {l : Launch} {D : va_G} {ca : Nat → ClassId} {q0 : Nat} {sa : Nat → Nat} {ad : jAd} {z n a : Nat} {V : jV} (w x mt : Int32) (hI : n ≤ 6 ∧ V 20 0 1 = nI n) (hf : okP 6 w) (ha : a < n) (hx : x = nI a) (hm : ¬ (-60 ≤ mt ∧ mt ≤ 60))  : jMet l D ca q0 sa ad yX6_report cX6_report 5 (some .int) 3 0 0 [.ref (ad 20 0), .int w, .int x, .int mt] (jS z n V) (jRet (some (.int 0)) (jS z n (thr (thr V 0) 2))) := by
  refine j_enter RX6 [some (.ref (ad 20 0)), some (.int w), some (.int x), some (.int mt), none] rfl (by decide) (by simp [Value.category]) (Nat.le_of_ble_eq_true rfl) rfl ?_
  intro p e s m args below meth c K hnm hX
  have hn6 := hI.1
  have hp := hI.2
  refine j_aload_n K 0 dX6_report_0 rfl rfl ?_
  refine j_iload_n K 1 dX6_report_1 rfl rfl ?_
  refine j_iload_n K 2 dX6_report_2 rfl rfl ?_
  refine j_cV2r K dX6_report_3 m_X6_isPair v_X6_isPair k_X6_150 rfl ⟨by decide, rfl⟩ rfl (c_Mpair _ _ hI hf ⟨a, ha, hx⟩) (Nat.le_of_ble_eq_true rfl) ⟨by decide, by decide⟩ (by decide) (by decide) ?_
  refine j_if_ne K 11 dX6_report_6 (by decide) (fun h_6 => ?_) (fun h_6 => absurd h_6 (by decide))
  refine j_iload_n K 3 dX6_report_11 rfl rfl ?_
  refine j_bipush K (-60) dX6_report_12 rfl ?_
  refine j_bipush K 60 dX6_report_14 rfl ?_
  refine j_cS3r K dX6_report_16 m_X6_isWithin s_X6_isWithin k_X6_89 (c_MW0 _ _ _ hm) (Nat.le_of_ble_eq_true rfl) ⟨by decide, by decide⟩ (by decide) (by decide) ?_
  refine j_if_ne K 28 dX6_report_19 (by decide) (fun h_19 => absurd (by decide) h_19) (fun h_19 => ?_)
  refine j_aload_n K 0 dX6_report_22 rfl rfl ?_
  refine j_iconst K 2 dX6_report_23 rfl ?_
  refine j_cV1r K dX6_report_24 m_X6_fail v_X6_fail k_X6_98 rfl ⟨by decide, rfl⟩ rfl (c_MF _) (Nat.le_of_ble_eq_true rfl) ⟨by decide, by decide⟩ (by decide) (by decide) ?_
  refine j_iret K dX6_report_27 ?_
  exact ⟨rfl, rfl⟩
set_option maxRecDepth 20000 in
set_option maxHeartbeats 400000 in
theorem c_M_report {l : Launch} {D : va_G} {ca : Nat → ClassId} {q0 : Nat} {sa : Nat → Nat} {ad : jAd} {z n a c0 f q : Nat} {V : jV} (x mt : Int32) (hI : n ≤ 6 ∧ V 20 0 1 = nI n) (hf : f < 6) (ha : a < n) (hx : x = nI a) (hm : -60 ≤ mt ∧ mt ≤ 60) (hR : YR V a c0) (h0 : fres (fun j => decide (V 31 0 (6 * a + j) = nI f)) c0 = nI q) (hq : q < 6)  : jMet l D ca q0 sa ad yX6_report cX6_report 5 (some .int) 3 0 0 [.ref (ad 20 0), .int (nI f), .int x, .int mt] (jS z n V) (jRet (some (.int (corr (ymin (rpW (thr V 0) a f mt q) a) (ytru (rpW (thr V 0) a f mt q) a) c0))) (jS z n (rpW (thr V 0) a f mt q))) := by
  refine j_enter RX6 [some (.ref (ad 20 0)), some (.int (nI f)), some (.int x), some (.int mt), none] rfl (by decide) (by simp [Value.category]) (Nat.le_of_ble_eq_true rfl) rfl ?_
  intro p e s m args below meth c K hnm hX
  have hn6 := hI.1
  have hp := hI.2
  have hR1 : YR (rpW (thr V 0) a f mt q) a c0 := YR_rp1 (V := thr V 0) hR hf
  refine j_aload_n K 0 dX6_report_0 rfl rfl ?_
  refine j_iload_n K 1 dX6_report_1 rfl rfl ?_
  refine j_iload_n K 2 dX6_report_2 rfl rfl ?_
  refine j_cV2r K dX6_report_3 m_X6_isPair v_X6_isPair k_X6_150 rfl ⟨by decide, rfl⟩ rfl (c_Mpair _ _ hI ⟨f, hf, rfl⟩ ⟨a, ha, hx⟩) (Nat.le_of_ble_eq_true rfl) ⟨by decide, by decide⟩ (by decide) (by decide) ?_
  refine j_if_ne K 11 dX6_report_6 (by decide) (fun h_6 => ?_) (fun h_6 => absurd h_6 (by decide))
  refine j_iload_n K 3 dX6_report_11 rfl rfl ?_
  refine j_bipush K (-60) dX6_report_12 rfl ?_
  refine j_bipush K 60 dX6_report_14 rfl ?_
  refine j_cS3r K dX6_report_16 m_X6_isWithin s_X6_isWithin k_X6_89 (c_MW _ _ _ hm) (Nat.le_of_ble_eq_true rfl) ⟨by decide, by decide⟩ (by decide) (by decide) ?_
  refine j_if_ne K 28 dX6_report_19 (by decide) (fun h_19 => ?_) (fun h_19 => absurd h_19 (by decide))
  refine j_aload_n K 0 dX6_report_28 rfl rfl ?_
  refine j_iload_n K 1 dX6_report_29 rfl rfl ?_
  refine j_iload_n K 2 dX6_report_30 rfl rfl ?_
  refine j_cV2r K dX6_report_31 m_X6_placeOf v_X6_placeOf k_X6_154 rfl ⟨by decide, rfl⟩ rfl (c_Mplace (V := thr V 0) _ _ hn6 ha hx hR) (Nat.le_of_ble_eq_true rfl) ⟨by decide, by decide⟩ (by decide) (by decide) ?_
  refine j_istore K dX6_report_34 (by decide) ?_
  refine j_iload K dX6_report_36 rfl ?_
  refine j_iconst K (-1) dX6_report_38 rfl ?_
  refine j_icmp_ne K 60 dX6_report_39 (by decide) (fun h_39 => ?_) (fun h_39 => ?_)
  · refine j_aload_n K 0 dX6_report_60 rfl rfl ?_
    refine jGr K 31 0 dX6_report_61 f_X6_31 rfl rfl rfl rfl ?_
    refine j_bipush K 6 dX6_report_64 rfl ?_
    refine j_iload_n K 2 dX6_report_66 rfl rfl ?_
    refine j_imul K dX6_report_67 ?_
    refine j_iload K dX6_report_68 rfl ?_
    refine j_iadd K dX6_report_70 ?_
    refine j_iload_n K 1 dX6_report_71 rfl rfl ?_
    refine jIast K (((6 * a) + q)) dX6_report_72 rfl rfl (jx_add (jx_mul rfl hx) h0) (by omega) ?_
    refine j_aload_n K 0 dX6_report_73 rfl rfl ?_
    refine jGr K 32 0 dX6_report_74 f_X6_34 rfl rfl rfl rfl ?_
    refine j_bipush K 6 dX6_report_77 rfl ?_
    refine j_iload_n K 2 dX6_report_79 rfl rfl ?_
    refine j_imul K dX6_report_80 ?_
    refine j_iload K dX6_report_81 rfl ?_
    refine j_iadd K dX6_report_83 ?_
    refine j_iload_n K 3 dX6_report_84 rfl rfl ?_
    refine jIast K (((6 * a) + q)) dX6_report_85 rfl rfl (jx_add (jx_mul rfl hx) h0) (by omega) ?_
    refine j_aload_n K 0 dX6_report_86 rfl rfl ?_
    refine jGr K 33 0 dX6_report_87 f_X6_37 rfl rfl rfl rfl ?_
    refine j_bipush K 6 dX6_report_90 rfl ?_
    refine j_iload_n K 2 dX6_report_92 rfl rfl ?_
    refine j_imul K dX6_report_93 ?_
    refine j_iload K dX6_report_94 rfl ?_
    refine j_iadd K dX6_report_96 ?_
    refine j_iconst K 0 dX6_report_97 rfl ?_
    refine jIast K (((6 * a) + q)) dX6_report_98 rfl rfl (jx_add (jx_mul rfl hx) h0) (by omega) ?_
    refine j_aload_n K 0 dX6_report_99 rfl rfl ?_
    refine j_iload_n K 2 dX6_report_100 rfl rfl ?_
    refine j_cV1r K dX6_report_101 m_X6_correction v_X6_correction k_X6_131 rfl ⟨by decide, rfl⟩ rfl (c_Mcorr (V := (rpW (thr V 0) a f mt q)) (cnt := c0) _ hn6 ha hx hR1) (Nat.le_of_ble_eq_true rfl) ⟨by decide, by decide⟩ (by decide) (by decide) ?_
    refine j_iret K dX6_report_104 ?_
    exact ⟨rfl, rfl⟩
  · exact absurd h_39 (by rw [show fres (fun j => decide (thr V 0 31 0 (6 * a + j) = nI f)) c0 = nI q from h0]; exact nI_neg1 (by omega))
set_option maxRecDepth 20000 in
set_option maxHeartbeats 400000 in
theorem c_M_reportn {l : Launch} {D : va_G} {ca : Nat → ClassId} {q0 : Nat} {sa : Nat → Nat} {ad : jAd} {z n a c0 f : Nat} {V : jV} (x mt : Int32) (hI : n ≤ 6 ∧ V 20 0 1 = nI n) (hf : f < 6) (ha : a < n) (hx : x = nI a) (hm : -60 ≤ mt ∧ mt ≤ 60) (hR : YR V a c0) (h0 : fres (fun j => decide (V 31 0 (6 * a + j) = nI f)) c0 = -1) (hc : c0 < 6)  : jMet l D ca q0 sa ad yX6_report cX6_report 5 (some .int) 3 0 0 [.ref (ad 20 0), .int (nI f), .int x, .int mt] (jS z n V) (jRet (some (.int (corr (ymin (rpW (up (thr V 0) 30 0 a (V 30 0 a + 1)) a f mt c0) a) (ytru (rpW (up (thr V 0) 30 0 a (V 30 0 a + 1)) a f mt c0) a) (c0 + 1)))) (jS z n (rpW (up (thr V 0) 30 0 a (V 30 0 a + 1)) a f mt c0))) := by
  refine j_enter RX6 [some (.ref (ad 20 0)), some (.int (nI f)), some (.int x), some (.int mt), none] rfl (by decide) (by simp [Value.category]) (Nat.le_of_ble_eq_true rfl) rfl ?_
  intro p e s m args below meth c K hnm hX
  have hn6 := hI.1
  have hp := hI.2
  have hR1 : YR (rpW (up (thr V 0) 30 0 a (V 30 0 a + 1)) a f mt c0) a (c0 + 1) := YR_rp2 (V := thr V 0) hR hc hf
  refine j_aload_n K 0 dX6_report_0 rfl rfl ?_
  refine j_iload_n K 1 dX6_report_1 rfl rfl ?_
  refine j_iload_n K 2 dX6_report_2 rfl rfl ?_
  refine j_cV2r K dX6_report_3 m_X6_isPair v_X6_isPair k_X6_150 rfl ⟨by decide, rfl⟩ rfl (c_Mpair _ _ hI ⟨f, hf, rfl⟩ ⟨a, ha, hx⟩) (Nat.le_of_ble_eq_true rfl) ⟨by decide, by decide⟩ (by decide) (by decide) ?_
  refine j_if_ne K 11 dX6_report_6 (by decide) (fun h_6 => ?_) (fun h_6 => absurd h_6 (by decide))
  refine j_iload_n K 3 dX6_report_11 rfl rfl ?_
  refine j_bipush K (-60) dX6_report_12 rfl ?_
  refine j_bipush K 60 dX6_report_14 rfl ?_
  refine j_cS3r K dX6_report_16 m_X6_isWithin s_X6_isWithin k_X6_89 (c_MW _ _ _ hm) (Nat.le_of_ble_eq_true rfl) ⟨by decide, by decide⟩ (by decide) (by decide) ?_
  refine j_if_ne K 28 dX6_report_19 (by decide) (fun h_19 => ?_) (fun h_19 => absurd h_19 (by decide))
  refine j_aload_n K 0 dX6_report_28 rfl rfl ?_
  refine j_iload_n K 1 dX6_report_29 rfl rfl ?_
  refine j_iload_n K 2 dX6_report_30 rfl rfl ?_
  refine j_cV2r K dX6_report_31 m_X6_placeOf v_X6_placeOf k_X6_154 rfl ⟨by decide, rfl⟩ rfl (c_Mplace (V := thr V 0) _ _ hn6 ha hx hR) (Nat.le_of_ble_eq_true rfl) ⟨by decide, by decide⟩ (by decide) (by decide) ?_
  refine j_istore K dX6_report_34 (by decide) ?_
  refine j_iload K dX6_report_36 rfl ?_
  refine j_iconst K (-1) dX6_report_38 rfl ?_
  refine j_icmp_ne K 60 dX6_report_39 (by decide) (fun h_39 => ?_) (fun h_39 => ?_)
  · exact absurd h0 h_39
  · refine j_aload_n K 0 dX6_report_42 rfl rfl ?_
    refine jGr K 30 0 dX6_report_43 f_X6_28 rfl rfl rfl rfl ?_
    refine j_iload_n K 2 dX6_report_46 rfl rfl ?_
    refine jIald K (a) dX6_report_47 rfl rfl hx (by omega) ?_
    refine j_istore K dX6_report_48 (by decide) ?_
    refine j_aload_n K 0 dX6_report_50 rfl rfl ?_
    refine jGr K 30 0 dX6_report_51 f_X6_28 rfl rfl rfl rfl ?_
    refine j_iload_n K 2 dX6_report_54 rfl rfl ?_
    refine j_dup2 K dX6_report_55 rfl rfl ?_
    refine jIald K (a) dX6_report_56 rfl rfl hx (by omega) ?_
    refine j_iconst K 1 dX6_report_57 rfl ?_
    refine j_iadd K dX6_report_58 ?_
    refine jIast K (a) dX6_report_59 rfl rfl hx (by omega) ?_
    refine j_aload_n K 0 dX6_report_60 rfl rfl ?_
    refine jGr K 31 0 dX6_report_61 f_X6_31 rfl rfl rfl rfl ?_
    refine j_bipush K 6 dX6_report_64 rfl ?_
    refine j_iload_n K 2 dX6_report_66 rfl rfl ?_
    refine j_imul K dX6_report_67 ?_
    refine j_iload K dX6_report_68 rfl ?_
    refine j_iadd K dX6_report_70 ?_
    refine j_iload_n K 1 dX6_report_71 rfl rfl ?_
    refine jIast K (((6 * a) + c0)) dX6_report_72 rfl rfl (jx_add (jx_mul rfl hx) hR.1) (by omega) ?_
    refine j_aload_n K 0 dX6_report_73 rfl rfl ?_
    refine jGr K 32 0 dX6_report_74 f_X6_34 rfl rfl rfl rfl ?_
    refine j_bipush K 6 dX6_report_77 rfl ?_
    refine j_iload_n K 2 dX6_report_79 rfl rfl ?_
    refine j_imul K dX6_report_80 ?_
    refine j_iload K dX6_report_81 rfl ?_
    refine j_iadd K dX6_report_83 ?_
    refine j_iload_n K 3 dX6_report_84 rfl rfl ?_
    refine jIast K (((6 * a) + c0)) dX6_report_85 rfl rfl (jx_add (jx_mul rfl hx) hR.1) (by omega) ?_
    refine j_aload_n K 0 dX6_report_86 rfl rfl ?_
    refine jGr K 33 0 dX6_report_87 f_X6_37 rfl rfl rfl rfl ?_
    refine j_bipush K 6 dX6_report_90 rfl ?_
    refine j_iload_n K 2 dX6_report_92 rfl rfl ?_
    refine j_imul K dX6_report_93 ?_
    refine j_iload K dX6_report_94 rfl ?_
    refine j_iadd K dX6_report_96 ?_
    refine j_iconst K 0 dX6_report_97 rfl ?_
    refine jIast K (((6 * a) + c0)) dX6_report_98 rfl rfl (jx_add (jx_mul rfl hx) hR.1) (by omega) ?_
    refine j_aload_n K 0 dX6_report_99 rfl rfl ?_
    refine j_iload_n K 2 dX6_report_100 rfl rfl ?_
    refine j_cV1r K dX6_report_101 m_X6_correction v_X6_correction k_X6_131 rfl ⟨by decide, rfl⟩ rfl (c_Mcorr (V := (rpW (up (thr V 0) 30 0 a (V 30 0 a + 1)) a f mt c0)) (cnt := (c0 + 1)) _ hn6 ha hx hR1) (Nat.le_of_ble_eq_true rfl) ⟨by decide, by decide⟩ (by decide) (by decide) ?_
    refine j_iret K dX6_report_104 ?_
    exact ⟨rfl, rfl⟩
def okA (b1 b2 b3 b4 b5 : Int32) : Prop := (0 ≤ b1 ∧ b1 ≤ 744) ∧ (0 ≤ b2 ∧ b2 ≤ 999) ∧ (0 ≤ b3 ∧ b3 ≤ 999) ∧ (0 ≤ b4 ∧ b4 ≤ b3) ∧ 0 ≤ b5 ∧ b5 ≤ 9
set_option maxRecDepth 20000 in
set_option maxHeartbeats 400000 in
theorem c_M_addPierx2 {l : Launch} {D : va_G} {ca : Nat → ClassId} {q0 : Nat} {sa : Nat → Nat} {ad : jAd} {z n : Nat} {V : jV} (b1 b2 b3 b4 b5 : Int32) (hA : okA b1 b2 b3 b4 b5) (h0 : V 20 0 1 = 6)  : jMet l D ca q0 sa ad yX6_addPier cX6_addPier 8 (some .int) 2 0 0 [.ref (ad 20 0), .int b1, .int b2, .int b3, .int b4, .int b5] (jS z n V) (jRet (some (.int 0)) (jS z n (thr (thr V 0) 2))) := by
  refine j_enter RX6 [some (.ref (ad 20 0)), some (.int b1), some (.int b2), some (.int b3), some (.int b4), some (.int b5), none, none] rfl (by decide) (by simp [Value.category]) (Nat.le_of_ble_eq_true rfl) rfl ?_
  intro p e s m args below meth c K hnm hX
  refine j_iload_n K 1 dX6_addPier_0 rfl rfl ?_
  refine j_iconst K 0 dX6_addPier_1 rfl ?_
  refine j_sipush K 744 dX6_addPier_2 rfl ?_
  refine j_cS3r K dX6_addPier_5 m_X6_isWithin s_X6_isWithin k_X6_89 (c_MW _ _ _ hA.1) (Nat.le_of_ble_eq_true rfl) ⟨by decide, by decide⟩ (by decide) (by decide) ?_
  refine j_if_eq K 26 dX6_addPier_8 (by decide) (fun h_8 => absurd h_8 (by decide)) (fun h_8 => ?_)
  refine j_iload K dX6_addPier_11 rfl ?_
  refine j_iconst K 0 dX6_addPier_13 rfl ?_
  refine j_bipush K 9 dX6_addPier_14 rfl ?_
  refine j_cS3r K dX6_addPier_16 m_X6_isWithin s_X6_isWithin k_X6_89 (c_MW _ _ _ hA.2.2.2.2) (Nat.le_of_ble_eq_true rfl) ⟨by decide, by decide⟩ (by decide) (by decide) ?_
  refine j_if_eq K 26 dX6_addPier_19 (by decide) (fun h_19 => absurd h_19 (by decide)) (fun h_19 => ?_)
  refine j_iconst K 1 dX6_addPier_22 rfl ?_
  refine j_goto K 27 dX6_addPier_23 (by decide) ?_
  refine j_istore K dX6_addPier_27 (by decide) ?_
  refine j_iload_n K 2 dX6_addPier_29 rfl rfl ?_
  refine j_iconst K 0 dX6_addPier_30 rfl ?_
  refine j_sipush K 999 dX6_addPier_31 rfl ?_
  refine j_cS3r K dX6_addPier_34 m_X6_isWithin s_X6_isWithin k_X6_89 (c_MW _ _ _ hA.2.1) (Nat.le_of_ble_eq_true rfl) ⟨by decide, by decide⟩ (by decide) (by decide) ?_
  refine j_if_eq K 65 dX6_addPier_37 (by decide) (fun h_37 => absurd h_37 (by decide)) (fun h_37 => ?_)
  refine j_iload_n K 3 dX6_addPier_40 rfl rfl ?_
  refine j_iconst K 0 dX6_addPier_41 rfl ?_
  refine j_sipush K 999 dX6_addPier_42 rfl ?_
  refine j_cS3r K dX6_addPier_45 m_X6_isWithin s_X6_isWithin k_X6_89 (c_MW _ _ _ hA.2.2.1) (Nat.le_of_ble_eq_true rfl) ⟨by decide, by decide⟩ (by decide) (by decide) ?_
  refine j_if_eq K 65 dX6_addPier_48 (by decide) (fun h_48 => absurd h_48 (by decide)) (fun h_48 => ?_)
  refine j_iload K dX6_addPier_51 rfl ?_
  refine j_iconst K 0 dX6_addPier_53 rfl ?_
  refine j_iload_n K 3 dX6_addPier_54 rfl rfl ?_
  refine j_cS3r K dX6_addPier_55 m_X6_isWithin s_X6_isWithin k_X6_89 (c_MW _ _ _ hA.2.2.2.1) (Nat.le_of_ble_eq_true rfl) ⟨by decide, by decide⟩ (by decide) (by decide) ?_
  refine j_if_eq K 65 dX6_addPier_58 (by decide) (fun h_58 => absurd h_58 (by decide)) (fun h_58 => ?_)
  refine j_iconst K 1 dX6_addPier_61 rfl ?_
  refine j_goto K 66 dX6_addPier_62 (by decide) ?_
  refine j_istore K dX6_addPier_66 (by decide) ?_
  refine j_aload_n K 0 dX6_addPier_68 rfl rfl ?_
  refine j_iload K dX6_addPier_69 rfl ?_
  refine j_if_eq K 83 dX6_addPier_71 (by decide) (fun h_71 => absurd h_71 (by decide)) (fun h_71 => ?_)
  refine j_iload K dX6_addPier_74 rfl ?_
  refine j_if_eq K 83 dX6_addPier_76 (by decide) (fun h_76 => absurd h_76 (by decide)) (fun h_76 => ?_)
  refine j_iconst K 1 dX6_addPier_79 rfl ?_
  refine j_goto K 84 dX6_addPier_80 (by decide) ?_
  refine j_iconst K 1 dX6_addPier_84 rfl ?_
  refine j_cV2r K dX6_addPier_85 m_X6_isGood v_X6_isGood k_X6_93 rfl ⟨by decide, rfl⟩ rfl (c_MG _) (Nat.le_of_ble_eq_true rfl) ⟨by decide, by decide⟩ (by decide) (by decide) ?_
  refine j_if_ne K 93 dX6_addPier_88 (by decide) (fun h_88 => ?_) (fun h_88 => absurd h_88 (by decide))
  refine j_aload_n K 0 dX6_addPier_93 rfl rfl ?_
  refine jGi K dX6_addPier_94 f_X6_86 rfl rfl rfl ?_
  refine j_bipush K 6 dX6_addPier_97 rfl ?_
  refine j_icmp_ne K 108 dX6_addPier_99 (by decide) (fun h_99 => ?_) (fun h_99 => ?_)
  · exact absurd h0 h_99
  · refine j_aload_n K 0 dX6_addPier_102 rfl rfl ?_
    refine j_iconst K 2 dX6_addPier_103 rfl ?_
    refine j_cV1r K dX6_addPier_104 m_X6_fail v_X6_fail k_X6_98 rfl ⟨by decide, rfl⟩ rfl (c_MF _) (Nat.le_of_ble_eq_true rfl) ⟨by decide, by decide⟩ (by decide) (by decide) ?_
    refine j_iret K dX6_addPier_107 ?_
    exact ⟨rfl, rfl⟩
set_option maxRecDepth 20000 in
set_option maxHeartbeats 400000 in
theorem c_M_addPier {l : Launch} {D : va_G} {ca : Nat → ClassId} {q0 : Nat} {sa : Nat → Nat} {ad : jAd} {z n u : Nat} {V : jV} (b1 b2 b3 b4 b5 : Int32) (hA : okA b1 b2 b3 b4 b5) (hn6 : n < 6) (hp : V 20 0 1 = nI n)  : jMet l D ca q0 sa ad yX6_addPier cX6_addPier 8 (some .int) 2 0 0 [.ref (ad 20 0), .int b1, .int b2, .int b3, .int b4, .int b5] (jS z u V) (jRet (some (.int (nI n))) (jS z u (up (up (up (up (up (up (thr V 0) 24 0 n b1) 25 0 n b2) 26 0 n b3) 27 0 n b4) 28 0 n b5) 20 0 1 (nI n + 1)))) := by
  refine j_enter RX6 [some (.ref (ad 20 0)), some (.int b1), some (.int b2), some (.int b3), some (.int b4), some (.int b5), none, none] rfl (by decide) (by simp [Value.category]) (Nat.le_of_ble_eq_true rfl) rfl ?_
  intro p e s m args below meth c K hnm hX
  refine j_iload_n K 1 dX6_addPier_0 rfl rfl ?_
  refine j_iconst K 0 dX6_addPier_1 rfl ?_
  refine j_sipush K 744 dX6_addPier_2 rfl ?_
  refine j_cS3r K dX6_addPier_5 m_X6_isWithin s_X6_isWithin k_X6_89 (c_MW _ _ _ hA.1) (Nat.le_of_ble_eq_true rfl) ⟨by decide, by decide⟩ (by decide) (by decide) ?_
  refine j_if_eq K 26 dX6_addPier_8 (by decide) (fun h_8 => absurd h_8 (by decide)) (fun h_8 => ?_)
  refine j_iload K dX6_addPier_11 rfl ?_
  refine j_iconst K 0 dX6_addPier_13 rfl ?_
  refine j_bipush K 9 dX6_addPier_14 rfl ?_
  refine j_cS3r K dX6_addPier_16 m_X6_isWithin s_X6_isWithin k_X6_89 (c_MW _ _ _ hA.2.2.2.2) (Nat.le_of_ble_eq_true rfl) ⟨by decide, by decide⟩ (by decide) (by decide) ?_
  refine j_if_eq K 26 dX6_addPier_19 (by decide) (fun h_19 => absurd h_19 (by decide)) (fun h_19 => ?_)
  refine j_iconst K 1 dX6_addPier_22 rfl ?_
  refine j_goto K 27 dX6_addPier_23 (by decide) ?_
  refine j_istore K dX6_addPier_27 (by decide) ?_
  refine j_iload_n K 2 dX6_addPier_29 rfl rfl ?_
  refine j_iconst K 0 dX6_addPier_30 rfl ?_
  refine j_sipush K 999 dX6_addPier_31 rfl ?_
  refine j_cS3r K dX6_addPier_34 m_X6_isWithin s_X6_isWithin k_X6_89 (c_MW _ _ _ hA.2.1) (Nat.le_of_ble_eq_true rfl) ⟨by decide, by decide⟩ (by decide) (by decide) ?_
  refine j_if_eq K 65 dX6_addPier_37 (by decide) (fun h_37 => absurd h_37 (by decide)) (fun h_37 => ?_)
  refine j_iload_n K 3 dX6_addPier_40 rfl rfl ?_
  refine j_iconst K 0 dX6_addPier_41 rfl ?_
  refine j_sipush K 999 dX6_addPier_42 rfl ?_
  refine j_cS3r K dX6_addPier_45 m_X6_isWithin s_X6_isWithin k_X6_89 (c_MW _ _ _ hA.2.2.1) (Nat.le_of_ble_eq_true rfl) ⟨by decide, by decide⟩ (by decide) (by decide) ?_
  refine j_if_eq K 65 dX6_addPier_48 (by decide) (fun h_48 => absurd h_48 (by decide)) (fun h_48 => ?_)
  refine j_iload K dX6_addPier_51 rfl ?_
  refine j_iconst K 0 dX6_addPier_53 rfl ?_
  refine j_iload_n K 3 dX6_addPier_54 rfl rfl ?_
  refine j_cS3r K dX6_addPier_55 m_X6_isWithin s_X6_isWithin k_X6_89 (c_MW _ _ _ hA.2.2.2.1) (Nat.le_of_ble_eq_true rfl) ⟨by decide, by decide⟩ (by decide) (by decide) ?_
  refine j_if_eq K 65 dX6_addPier_58 (by decide) (fun h_58 => absurd h_58 (by decide)) (fun h_58 => ?_)
  refine j_iconst K 1 dX6_addPier_61 rfl ?_
  refine j_goto K 66 dX6_addPier_62 (by decide) ?_
  refine j_istore K dX6_addPier_66 (by decide) ?_
  refine j_aload_n K 0 dX6_addPier_68 rfl rfl ?_
  refine j_iload K dX6_addPier_69 rfl ?_
  refine j_if_eq K 83 dX6_addPier_71 (by decide) (fun h_71 => absurd h_71 (by decide)) (fun h_71 => ?_)
  refine j_iload K dX6_addPier_74 rfl ?_
  refine j_if_eq K 83 dX6_addPier_76 (by decide) (fun h_76 => absurd h_76 (by decide)) (fun h_76 => ?_)
  refine j_iconst K 1 dX6_addPier_79 rfl ?_
  refine j_goto K 84 dX6_addPier_80 (by decide) ?_
  refine j_iconst K 1 dX6_addPier_84 rfl ?_
  refine j_cV2r K dX6_addPier_85 m_X6_isGood v_X6_isGood k_X6_93 rfl ⟨by decide, rfl⟩ rfl (c_MG _) (Nat.le_of_ble_eq_true rfl) ⟨by decide, by decide⟩ (by decide) (by decide) ?_
  refine j_if_ne K 93 dX6_addPier_88 (by decide) (fun h_88 => ?_) (fun h_88 => absurd h_88 (by decide))
  refine j_aload_n K 0 dX6_addPier_93 rfl rfl ?_
  refine jGi K dX6_addPier_94 f_X6_86 rfl rfl rfl ?_
  refine j_bipush K 6 dX6_addPier_97 rfl ?_
  refine j_icmp_ne K 108 dX6_addPier_99 (by decide) (fun h_99 => ?_) (fun h_99 => ?_)
  · refine j_aload_n K 0 dX6_addPier_108 rfl rfl ?_
    refine jGr K 24 0 dX6_addPier_109 f_X6_7 rfl rfl rfl rfl ?_
    refine j_aload_n K 0 dX6_addPier_112 rfl rfl ?_
    refine jGi K dX6_addPier_113 f_X6_86 rfl rfl rfl ?_
    refine j_iload_n K 1 dX6_addPier_116 rfl rfl ?_
    refine jIast K (n) dX6_addPier_117 rfl rfl hp (by omega) ?_
    refine j_aload_n K 0 dX6_addPier_118 rfl rfl ?_
    refine jGr K 25 0 dX6_addPier_119 f_X6_13 rfl rfl rfl rfl ?_
    refine j_aload_n K 0 dX6_addPier_122 rfl rfl ?_
    refine jGi K dX6_addPier_123 f_X6_86 rfl rfl rfl ?_
    refine j_iload_n K 2 dX6_addPier_126 rfl rfl ?_
    refine jIast K (n) dX6_addPier_127 rfl rfl hp (by omega) ?_
    refine j_aload_n K 0 dX6_addPier_128 rfl rfl ?_
    refine jGr K 26 0 dX6_addPier_129 f_X6_16 rfl rfl rfl rfl ?_
    refine j_aload_n K 0 dX6_addPier_132 rfl rfl ?_
    refine jGi K dX6_addPier_133 f_X6_86 rfl rfl rfl ?_
    refine j_iload_n K 3 dX6_addPier_136 rfl rfl ?_
    refine jIast K (n) dX6_addPier_137 rfl rfl hp (by omega) ?_
    refine j_aload_n K 0 dX6_addPier_138 rfl rfl ?_
    refine jGr K 27 0 dX6_addPier_139 f_X6_19 rfl rfl rfl rfl ?_
    refine j_aload_n K 0 dX6_addPier_142 rfl rfl ?_
    refine jGi K dX6_addPier_143 f_X6_86 rfl rfl rfl ?_
    refine j_iload K dX6_addPier_146 rfl ?_
    refine jIast K (n) dX6_addPier_148 rfl rfl hp (by omega) ?_
    refine j_aload_n K 0 dX6_addPier_149 rfl rfl ?_
    refine jGr K 28 0 dX6_addPier_150 f_X6_22 rfl rfl rfl rfl ?_
    refine j_aload_n K 0 dX6_addPier_153 rfl rfl ?_
    refine jGi K dX6_addPier_154 f_X6_86 rfl rfl rfl ?_
    refine j_iload K dX6_addPier_157 rfl ?_
    refine jIast K (n) dX6_addPier_159 rfl rfl hp (by omega) ?_
    refine j_aload_n K 0 dX6_addPier_160 rfl rfl ?_
    refine j_dup K dX6_addPier_161 rfl ?_
    refine jGi K dX6_addPier_162 f_X6_86 rfl rfl rfl ?_
    refine j_iconst K 1 dX6_addPier_165 rfl ?_
    refine j_iadd K dX6_addPier_166 ?_
    refine jPi K dX6_addPier_167 fo_X6_86 rfl rfl rfl rfl (Or.inl rfl) ?_
    refine j_aload_n K 0 dX6_addPier_170 rfl rfl ?_
    refine jGi K dX6_addPier_171 f_X6_86 rfl rfl rfl ?_
    refine j_iconst K 1 dX6_addPier_174 rfl ?_
    refine j_isub K dX6_addPier_175 ?_
    refine j_iret K dX6_addPier_176 ?_
    refine jret_IV ?_ (fun k1 k2 k3 => ?_)
    · show V 20 0 1 + 1 - 1 = nI n
      rw [hp]; exact jx_sub (b := 1) (nI_1 n) rfl (by omega)
    · rw [← hp]; rfl
  · exact absurd ((neq (b := 6) (by omega) (by decide) hp rfl).mp h_99) (by omega)
