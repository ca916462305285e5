theorem col_1 {q : Nat} {x : Int32} (hq2 : q < 2) (hx : x = nI q) (h : ¬ x = 0) : x = 1 := by
  rcases Nat.lt_or_ge q 1 with z | z
  · have : q = 0 := by omega
    subst this; exact absurd hx h
  · have : q = 1 := by omega
    subst this; exact hx
theorem YD_congr {n : Nat} {V V' : jV} (h : YD n V) (e : ∀ k a b, (k = 30 ∨ k = 31 ∨ k = 43 ∨ (k = 20 ∧ b = 1)) → V' k a b = V k a b) : YD n V' := by
  obtain ⟨h0, h1, h2, h3⟩ := h
  refine ⟨h0, ?_, fun i hi => ?_, fun i hi => ?_⟩
  · rw [e 20 0 1 (by omega)]; exact h1
  · rw [e 30 0 i (by omega)]
    obtain ⟨r1, r2, r3⟩ := h2 i hi
    exact ⟨by rw [e 30 0 i (by omega)]; exact r1, r2, fun j hj => by rw [e 31 0 _ (by omega)]; exact r3 j hj⟩
  · rw [e 43 0 i (by omega)]; exact h3 i hi
theorem YD_rg {n : Nat} {V : jV} {a : Nat} (h : YD n V) : YD n (rgV V a) := by
  unfold rgV
  split
  · exact YD_congr h (fun k a b q => tab_o (by omega) (by omega) (by omega))
  · exact h
theorem YD_rb {n : Nat} {V : jV} (h : YD n V) : ∀ j, YD n (rbY V j).1
  | 0 => YD_up h (by decide) (by decide) (by decide) (by decide)
  | j + 1 => YD_rg (YD_rb h j)
theorem rb_1 {V : jV} {j : Nat} (h : ¬ bI (rgA (rbY V j).1 j) = 0) : (rbY V (j + 1)).2 = (rbY V j).2 ||| (1 <<< (nI j &&& 31)) := by
  show (if rgA (rbY V j).1 j = false then _ else _) = _
  rw [if_neg (by rw [bI_1 h]; decide)]
theorem rb_0 {V : jV} {j : Nat} (h : bI (rgA (rbY V j).1 j) = 0) : (rbY V (j + 1)).2 = (rbY V j).2 := by
  show (if rgA (rbY V j).1 j = false then _ else _) = _
  rw [if_pos (bI_0 h)]
def ytin (V : jV) (q : Nat) : Nat → Int32 := fun j => V 35 0 (12 * q + j)
set_option maxRecDepth 20000 in
set_option maxHeartbeats 400000 in
theorem c_Mcol {l : Launch} {D : va_G} {ca : Nat → ClassId} {q0 : Nat} {sa : Nat → Nat} {ad : jAd} {z n q : Nat} {V : jV} (x : Int32) (hq2 : q < 2) (hx : x = nI q)  : jMet l D ca q0 sa ad yX6_isColour cX6_isColour 2 (some .boolean) 1 0 0 [.ref (ad 20 0), .int x] (jS z n V) (jRet (some (.int 1)) (jS z n (thr V 0))) := by
  refine j_enter RX6 [some (.ref (ad 20 0)), some (.int x)] rfl (by decide) (by simp [Value.category]) (Nat.le_of_ble_eq_true rfl) rfl ?_
  intro p e s m args below meth c K hnm hX
  refine j_aload_n K 0 dX6_isColour_0 rfl rfl ?_
  refine j_iload_n K 1 dX6_isColour_1 rfl rfl ?_
  refine j_if_eq K 10 dX6_isColour_2 (by decide) (fun h_2 => ?_) (fun h_2 => ?_)
  · refine j_iconst K 1 dX6_isColour_10 rfl ?_
    refine j_goto K 15 dX6_isColour_11 (by decide) ?_
    refine j_iconst K 1 dX6_isColour_15 rfl ?_
    refine j_cV2r K dX6_isColour_16 m_X6_isGood v_X6_isGood k_X6_93 rfl ⟨by decide, rfl⟩ rfl (c_MG _) (Nat.le_of_ble_eq_true rfl) ⟨by decide, by decide⟩ (by decide) (by decide) ?_
    refine j_zret K dX6_isColour_19 (by simp) ?_
    exact ⟨rfl, rfl⟩
  · refine j_iload_n K 1 dX6_isColour_5 rfl rfl ?_
    refine j_iconst K 1 dX6_isColour_6 rfl ?_
    refine j_icmp_ne K 14 dX6_isColour_7 (by decide) (fun h_7 => ?_) (fun h_7 => ?_)
    · exact absurd (col_1 hq2 hx h_2) h_7
    · refine j_iconst K 1 dX6_isColour_10 rfl ?_
      refine j_goto K 15 dX6_isColour_11 (by decide) ?_
      refine j_iconst K 1 dX6_isColour_15 rfl ?_
      refine j_cV2r K dX6_isColour_16 m_X6_isGood v_X6_isGood k_X6_93 rfl ⟨by decide, rfl⟩ rfl (c_MG _) (Nat.le_of_ble_eq_true rfl) ⟨by decide, by decide⟩ (by decide) (by decide) ?_
      refine j_zret K dX6_isColour_19 (by simp) ?_
      exact ⟨rfl, rfl⟩
set_option maxRecDepth 20000 in
set_option maxHeartbeats 400000 in
theorem c_Mcol0 {l : Launch} {D : va_G} {ca : Nat → ClassId} {q0 : Nat} {sa : Nat → Nat} {ad : jAd} {z n : Nat} {V : jV} (x : Int32) (h : ¬ okP 2 x)  : jMet l D ca q0 sa ad yX6_isColour cX6_isColour 2 (some .boolean) 1 0 0 [.ref (ad 20 0), .int x] (jS z n V) (jRet (some (.int 0)) (jS z n (thr V 1))) := by
  refine j_enter RX6 [some (.ref (ad 20 0)), some (.int x)] rfl (by decide) (by simp [Value.category]) (Nat.le_of_ble_eq_true rfl) rfl ?_
  intro p e s m args below meth c K hnm hX
  refine j_aload_n K 0 dX6_isColour_0 rfl rfl ?_
  refine j_iload_n K 1 dX6_isColour_1 rfl rfl ?_
  refine j_if_eq K 10 dX6_isColour_2 (by decide) (fun h_2 => ?_) (fun h_2 => ?_)
  · exact absurd ⟨0, by decide, h_2⟩ h
  · refine j_iload_n K 1 dX6_isColour_5 rfl rfl ?_
    refine j_iconst K 1 dX6_isColour_6 rfl ?_
    refine j_icmp_ne K 14 dX6_isColour_7 (by decide) (fun h_7 => ?_) (fun h_7 => ?_)
    · refine j_iconst K 0 dX6_isColour_14 rfl ?_
      refine j_iconst K 1 dX6_isColour_15 rfl ?_
      refine j_cV2r K dX6_isColour_16 m_X6_isGood v_X6_isGood k_X6_93 rfl ⟨by decide, rfl⟩ rfl (c_MG0 _) (Nat.le_of_ble_eq_true rfl) ⟨by decide, by decide⟩ (by decide) (by decide) ?_
      refine j_zret K dX6_isColour_19 (by simp) ?_
      exact ⟨rfl, rfl⟩
    · exact absurd ⟨1, by decide, h_7⟩ h
set_option maxRecDepth 20000 in
set_option maxHeartbeats 400000 in
theorem c_M_tinCountx1 {l : Launch} {D : va_G} {ca : Nat → ClassId} {q0 : Nat} {sa : Nat → Nat} {ad : jAd} {z n : Nat} {V : jV} (x : Int32) (h : ¬ okP 2 x)  : jMet l D ca q0 sa ad yX6_tinCount cX6_tinCount 2 (some .int) 2 0 0 [.ref (ad 20 0), .int x] (jS z n V) (jRet (some (.int 0)) (jS z n (thr V 1))) := by
  refine j_enter RX6 [some (.ref (ad 20 0)), some (.int x)] rfl (by decide) (by simp [Value.category]) (Nat.le_of_ble_eq_true rfl) rfl ?_
  intro p e s m args below meth c K hnm hX
  refine j_aload_n K 0 dX6_tinCount_0 rfl rfl ?_
  refine j_iload_n K 1 dX6_tinCount_1 rfl rfl ?_
  refine j_cV1r K dX6_tinCount_2 m_X6_isColour v_X6_isColour k_X6_167 rfl ⟨by decide, rfl⟩ rfl (c_Mcol0 _ h) (Nat.le_of_ble_eq_true rfl) ⟨by decide, by decide⟩ (by decide) (by decide) ?_
  refine j_if_eq K 17 dX6_tinCount_5 (by decide) (fun h_5 => ?_) (fun h_5 => absurd (by decide) h_5)
  refine j_iconst K 0 dX6_tinCount_17 rfl ?_
  refine j_iret K dX6_tinCount_18 ?_
  exact ⟨rfl, rfl⟩
set_option maxRecDepth 20000 in
set_option maxHeartbeats 400000 in
theorem c_M_paintLeftx1 {l : Launch} {D : va_G} {ca : Nat → ClassId} {q0 : Nat} {sa : Nat → Nat} {ad : jAd} {z n : Nat} {V : jV} (x : Int32) (h : ¬ okP 2 x)  : jMet l D ca q0 sa ad yX6_paintLeft cX6_paintLeft 4 (some .int) 2 0 0 [.ref (ad 20 0), .int x] (jS z n V) (jRet (some (.int 0)) (jS z n (thr V 1))) := by
  refine j_enter RX6 [some (.ref (ad 20 0)), some (.int x), none, none] rfl (by decide) (by simp [Value.category]) (Nat.le_of_ble_eq_true rfl) rfl ?_
  intro p e s m args below meth c K hnm hX
  refine j_aload_n K 0 dX6_paintLeft_0 rfl rfl ?_
  refine j_iload_n K 1 dX6_paintLeft_1 rfl rfl ?_
  refine j_cV1r K dX6_paintLeft_2 m_X6_isColour v_X6_isColour k_X6_167 rfl ⟨by decide, rfl⟩ rfl (c_Mcol0 _ h) (Nat.le_of_ble_eq_true rfl) ⟨by decide, by decide⟩ (by decide) (by decide) ?_
  refine j_if_ne K 10 dX6_paintLeft_5 (by decide) (fun h_5 => absurd (by decide) h_5) (fun h_5 => ?_)
  refine j_iconst K 0 dX6_paintLeft_8 rfl ?_
  refine j_iret K dX6_paintLeft_9 ?_
  exact ⟨rfl, rfl⟩
set_option maxRecDepth 20000 in
set_option maxHeartbeats 400000 in
theorem c_M_oldestTinx1 {l : Launch} {D : va_G} {ca : Nat → ClassId} {q0 : Nat} {sa : Nat → Nat} {ad : jAd} {z n : Nat} {V : jV} (x : Int32) (h : ¬ okP 2 x)  : jMet l D ca q0 sa ad yX6_oldestTin cX6_oldestTin 2 (some .int) 2 0 0 [.ref (ad 20 0), .int x] (jS z n V) (jRet (some (.int 0)) (jS z n (thr V 1))) := by
  refine j_enter RX6 [some (.ref (ad 20 0)), some (.int x)] rfl (by decide) (by simp [Value.category]) (Nat.le_of_ble_eq_true rfl) rfl ?_
  intro p e s m args below meth c K hnm hX
  refine j_aload_n K 0 dX6_oldestTin_0 rfl rfl ?_
  refine j_iload_n K 1 dX6_oldestTin_1 rfl rfl ?_
  refine j_cV1r K dX6_oldestTin_2 m_X6_isColour v_X6_isColour k_X6_167 rfl ⟨by decide, rfl⟩ rfl (c_Mcol0 _ h) (Nat.le_of_ble_eq_true rfl) ⟨by decide, by decide⟩ (by decide) (by decide) ?_
  refine j_if_ne K 10 dX6_oldestTin_5 (by decide) (fun h_5 => absurd (by decide) h_5) (fun h_5 => ?_)
  refine j_iconst K 0 dX6_oldestTin_8 rfl ?_
  refine j_iret K dX6_oldestTin_9 ?_
  exact ⟨rfl, rfl⟩
set_option maxRecDepth 20000 in
set_option maxHeartbeats 400000 in
theorem c_M_tinCount {l : Launch} {D : va_G} {ca : Nat → ClassId} {q0 : Nat} {sa : Nat → Nat} {ad : jAd} {z n q : Nat} {V : jV} (x : Int32) (hq2 : q < 2) (hx : x = nI q)  : jMet l D ca q0 sa ad yX6_tinCount cX6_tinCount 2 (some .int) 2 0 0 [.ref (ad 20 0), .int x] (jS z n V) (jRet (some (.int (V 34 0 q))) (jS z n (thr V 0))) := by
  refine j_enter RX6 [some (.ref (ad 20 0)), some (.int x)] rfl (by decide) (by simp [Value.category]) (Nat.le_of_ble_eq_true rfl) rfl ?_
  intro p e s m args below meth c K hnm hX
  refine j_aload_n K 0 dX6_tinCount_0 rfl rfl ?_
  refine j_iload_n K 1 dX6_tinCount_1 rfl rfl ?_
  refine j_cV1r K dX6_tinCount_2 m_X6_isColour v_X6_isColour k_X6_167 rfl ⟨by decide, rfl⟩ rfl (c_Mcol _ hq2 hx) (Nat.le_of_ble_eq_true rfl) ⟨by decide, by decide⟩ (by decide) (by decide) ?_
  refine j_if_eq K 17 dX6_tinCount_5 (by decide) (fun h_5 => absurd h_5 (by decide)) (fun h_5 => ?_)
  refine j_aload_n K 0 dX6_tinCount_8 rfl rfl ?_
  refine jGr K 34 0 dX6_tinCount_9 f_X6_40 rfl rfl rfl rfl ?_
  refine j_iload_n K 1 dX6_tinCount_12 rfl rfl ?_
  refine jIald K (q) dX6_tinCount_13 rfl rfl hx (by omega) ?_
  refine j_goto K 18 dX6_tinCount_14 (by decide) ?_
  refine j_iret K dX6_tinCount_18 ?_
  exact ⟨rfl, rfl⟩
set_option maxRecDepth 20000 in
set_option maxHeartbeats 400000 in
theorem c_M_oldestTinx2 {l : Launch} {D : va_G} {ca : Nat → ClassId} {q0 : Nat} {sa : Nat → Nat} {ad : jAd} {z n q : Nat} {V : jV} (x : Int32) (hq2 : q < 2) (hx : x = nI q) (h0 : V 34 0 q = 0)  : jMet l D ca q0 sa ad yX6_oldestTin cX6_oldestTin 2 (some .int) 2 0 0 [.ref (ad 20 0), .int x] (jS z n V) (jRet (some (.int 0)) (jS z n (thr (thr V 0) 2))) := by
  refine j_enter RX6 [some (.ref (ad 20 0)), some (.int x)] rfl (by decide) (by simp [Value.category]) (Nat.le_of_ble_eq_true rfl) rfl ?_
  intro p e s m args below meth c K hnm hX
  refine j_aload_n K 0 dX6_oldestTin_0 rfl rfl ?_
  refine j_iload_n K 1 dX6_oldestTin_1 rfl rfl ?_
  refine j_cV1r K dX6_oldestTin_2 m_X6_isColour v_X6_isColour k_X6_167 rfl ⟨by decide, rfl⟩ rfl (c_Mcol _ hq2 hx) (Nat.le_of_ble_eq_true rfl) ⟨by decide, by decide⟩ (by decide) (by decide) ?_
  refine j_if_ne K 10 dX6_oldestTin_5 (by decide) (fun h_5 => ?_) (fun h_5 => absurd h_5 (by decide))
  refine j_aload_n K 0 dX6_oldestTin_10 rfl rfl ?_
  refine jGr K 34 0 dX6_oldestTin_11 f_X6_40 rfl rfl rfl rfl ?_
  refine j_iload_n K 1 dX6_oldestTin_14 rfl rfl ?_
  refine jIald K (q) dX6_oldestTin_15 rfl rfl hx (by omega) ?_
  refine j_if_ne K 27 dX6_oldestTin_16 (by decide) (fun h_16 => ?_) (fun h_16 => ?_)
  · exact absurd h0 h_16
  · refine j_aload_n K 0 dX6_oldestTin_19 rfl rfl ?_
    refine j_iconst K 2 dX6_oldestTin_20 rfl ?_
    refine j_cV1r K dX6_oldestTin_21 m_X6_fail v_X6_fail k_X6_98 rfl ⟨by decide, rfl⟩ rfl (c_MF _) (Nat.le_of_ble_eq_true rfl) ⟨by decide, by decide⟩ (by decide) (by decide) ?_
    refine j_goto K 36 dX6_oldestTin_24 (by decide) ?_
    refine j_iret K dX6_oldestTin_36 ?_
    exact ⟨rfl, rfl⟩
set_option maxRecDepth 20000 in
set_option maxHeartbeats 400000 in
theorem c_M_oldestTin {l : Launch} {D : va_G} {ca : Nat → ClassId} {q0 : Nat} {sa : Nat → Nat} {ad : jAd} {z n q : Nat} {V : jV} (x : Int32) (hq2 : q < 2) (hx : x = nI q) (h0 : ¬ V 34 0 q = 0)  : jMet l D ca q0 sa ad yX6_oldestTin cX6_oldestTin 2 (some .int) 2 0 0 [.ref (ad 20 0), .int x] (jS z n V) (jRet (some (.int (V 35 0 (12 * q)))) (jS z n (thr V 0))) := by
  refine j_enter RX6 [some (.ref (ad 20 0)), some (.int x)] rfl (by decide) (by simp [Value.category]) (Nat.le_of_ble_eq_true rfl) rfl ?_
  intro p e s m args below meth c K hnm hX
  refine j_aload_n K 0 dX6_oldestTin_0 rfl rfl ?_
  refine j_iload_n K 1 dX6_oldestTin_1 rfl rfl ?_
  refine j_cV1r K dX6_oldestTin_2 m_X6_isColour v_X6_isColour k_X6_167 rfl ⟨by decide, rfl⟩ rfl (c_Mcol _ hq2 hx) (Nat.le_of_ble_eq_true rfl) ⟨by decide, by decide⟩ (by decide) (by decide) ?_
  refine j_if_ne K 10 dX6_oldestTin_5 (by decide) (fun h_5 => ?_) (fun h_5 => absurd h_5 (by decide))
  refine j_aload_n K 0 dX6_oldestTin_10 rfl rfl ?_
  refine jGr K 34 0 dX6_oldestTin_11 f_X6_40 rfl rfl rfl rfl ?_
  refine j_iload_n K 1 dX6_oldestTin_14 rfl rfl ?_
  refine jIald K (q) dX6_oldestTin_15 rfl rfl hx (by omega) ?_
  refine j_if_ne K 27 dX6_oldestTin_16 (by decide) (fun h_16 => ?_) (fun h_16 => ?_)
  · refine j_aload_n K 0 dX6_oldestTin_27 rfl rfl ?_
    refine jGr K 35 0 dX6_oldestTin_28 f_X6_43 rfl rfl rfl rfl ?_
    refine j_bipush K 12 dX6_oldestTin_31 rfl ?_
    refine j_iload_n K 1 dX6_oldestTin_33 rfl rfl ?_
    refine j_imul K dX6_oldestTin_34 ?_
    refine jIald K ((12 * q)) dX6_oldestTin_35 rfl rfl (jx_mul rfl hx) (by omega) ?_
    refine j_iret K dX6_oldestTin_36 ?_
    exact ⟨rfl, rfl⟩
  · exact absurd h_16 h0
set_option maxRecDepth 20000 in
set_option maxHeartbeats 400000 in
theorem c_M_paintLeft {l : Launch} {D : va_G} {ca : Nat → ClassId} {q0 : Nat} {sa : Nat → Nat} {ad : jAd} {z n q t : Nat} {V : jV} (x : Int32) (hq2 : q < 2) (hx : x = nI q) (ht : V 34 0 q = nI t) (ht2 : t ≤ 12)  : jMet l D ca q0 sa ad yX6_paintLeft cX6_paintLeft 4 (some .int) 2 0 0 [.ref (ad 20 0), .int x] (jS z n V) (jRet (some (.int (sumT (ytin V q) t))) (jS z n (thr V 0))) := by
  refine j_enter RX6 [some (.ref (ad 20 0)), some (.int x), none, none] rfl (by decide) (by simp [Value.category]) (Nat.le_of_ble_eq_true rfl) rfl ?_
  intro p e s m args below meth c K hnm hX
  have lp : ∀ (k j : Nat) , j ≤ t → t < j + k → jW p l e (jRm 2 0 0) s m args below meth c D ca q0 ad 4 (jZ below args s D ca q0 ad 0 0 (jRet (some (.int (sumT (ytin V q) t))) (jS z n (thr V 0)))) 0 0 14 [some (.ref (ad 20 0)), some (.int x), some (.int (sumT (ytin V q) j)), some (.int (nI j))] [] (jS z n (thr V 0)) := by
    intro k
    induction k with
    | zero => intro j  hj1 hj2; exact absurd hj2 (by omega)
    | succ k ih =>
      intro j  hj1 hj2 
      refine j_iload_n K 3 dX6_paintLeft_14 rfl rfl ?_
      refine j_aload_n K 0 dX6_paintLeft_15 rfl rfl ?_
      refine jGr K 34 0 dX6_paintLeft_16 f_X6_40 rfl rfl rfl rfl ?_
      refine j_iload_n K 1 dX6_paintLeft_19 rfl rfl ?_
      refine jIald K (q) dX6_paintLeft_20 rfl rfl hx (by omega) ?_
      refine j_icmp_ge K 44 dX6_paintLeft_21 (by decide) (fun h_21 => ?_) (fun h_21 => ?_)
      · have hj9 : j = t := by have := nle1 h_21 ht rfl (by omega) (by omega); omega
        subst hj9
        refine j_iload_n K 2 dX6_paintLeft_44 rfl rfl ?_
        refine j_iret K dX6_paintLeft_45 ?_
        exact ⟨rfl, rfl⟩
      · have hj3 : j < t := nle0 h_21 ht rfl (by omega) (by omega)
        refine j_iload_n K 2 dX6_paintLeft_24 rfl rfl ?_
        refine j_aload_n K 0 dX6_paintLeft_25 rfl rfl ?_
        refine jGr K 35 0 dX6_paintLeft_26 f_X6_43 rfl rfl rfl rfl ?_
        refine j_bipush K 12 dX6_paintLeft_29 rfl ?_
        refine j_iload_n K 1 dX6_paintLeft_31 rfl rfl ?_
        refine j_imul K dX6_paintLeft_32 ?_
        refine j_iload_n K 3 dX6_paintLeft_33 rfl rfl ?_
        refine j_iadd K dX6_paintLeft_34 ?_
        refine jIald K (((12 * q) + j)) dX6_paintLeft_35 rfl rfl (jx_add (jx_mul rfl hx) rfl) (by omega) ?_
        refine j_iadd K dX6_paintLeft_36 ?_
        refine j_istore_n K 2 dX6_paintLeft_37 rfl (by decide) ?_
        refine j_iinc (v := nI (j + 1)) K dX6_paintLeft_38 rfl (by decide) (nI_1 _) ?_
        refine j_goto K 14 dX6_paintLeft_41 (by decide) ?_
        exact ih (j + 1) (by omega) (by omega)
  refine j_aload_n K 0 dX6_paintLeft_0 rfl rfl ?_
  refine j_iload_n K 1 dX6_paintLeft_1 rfl rfl ?_
  refine j_cV1r K dX6_paintLeft_2 m_X6_isColour v_X6_isColour k_X6_167 rfl ⟨by decide, rfl⟩ rfl (c_Mcol _ hq2 hx) (Nat.le_of_ble_eq_true rfl) ⟨by decide, by decide⟩ (by decide) (by decide) ?_
  refine j_if_ne K 10 dX6_paintLeft_5 (by decide) (fun h_5 => ?_) (fun h_5 => absurd h_5 (by decide))
  refine j_iconst K 0 dX6_paintLeft_10 rfl ?_
  refine j_istore_n K 2 dX6_paintLeft_11 rfl (by decide) ?_
  refine j_iconst K 0 dX6_paintLeft_12 rfl ?_
  refine j_istore_n K 3 dX6_paintLeft_13 rfl (by decide) ?_
  exact lp (t + 1) 0 (by omega) (by omega)
set_option maxRecDepth 20000 in
set_option maxHeartbeats 400000 in
theorem c_M_deliverTinx1 {l : Launch} {D : va_G} {ca : Nat → ClassId} {q0 : Nat} {sa : Nat → Nat} {ad : jAd} {z n : Nat} {V : jV} (x y : Int32) (h : ¬ okP 2 x)  : jMet l D ca q0 sa ad yX6_deliverTin cX6_deliverTin 3 (some .int) 2 0 0 [.ref (ad 20 0), .int x, .int y] (jS z n V) (jRet (some (.int 0)) (jS z n (thr V 1))) := by
  refine j_enter RX6 [some (.ref (ad 20 0)), some (.int x), some (.int y)] rfl (by decide) (by simp [Value.category]) (Nat.le_of_ble_eq_true rfl) rfl ?_
  intro p e s m args below meth c K hnm hX
  refine j_aload_n K 0 dX6_deliverTin_0 rfl rfl ?_
  refine j_iload_n K 1 dX6_deliverTin_1 rfl rfl ?_
  refine j_if_eq K 10 dX6_deliverTin_2 (by decide) (fun h_2 => ?_) (fun h_2 => ?_)
  · exact absurd ⟨0, by decide, h_2⟩ h
  · refine j_iload_n K 1 dX6_deliverTin_5 rfl rfl ?_
    refine j_iconst K 1 dX6_deliverTin_6 rfl ?_
    refine j_icmp_ne K 25 dX6_deliverTin_7 (by decide) (fun h_7 => ?_) (fun h_7 => ?_)
    · refine j_iconst K 0 dX6_deliverTin_25 rfl ?_
      refine j_iconst K 1 dX6_deliverTin_26 rfl ?_
      refine j_cV2r K dX6_deliverTin_27 m_X6_isGood v_X6_isGood k_X6_93 rfl ⟨by decide, rfl⟩ rfl (c_MG0 _) (Nat.le_of_ble_eq_true rfl) ⟨by decide, by decide⟩ (by decide) (by decide) ?_
      refine j_if_ne K 35 dX6_deliverTin_30 (by decide) (fun h_30 => absurd (by decide) h_30) (fun h_30 => ?_)
      refine j_iconst K 0 dX6_deliverTin_33 rfl ?_
      refine j_iret K dX6_deliverTin_34 ?_
      exact ⟨rfl, rfl⟩
    · exact absurd ⟨1, by decide, h_7⟩ h
set_option maxRecDepth 20000 in
set_option maxHeartbeats 400000 in
theorem c_M_deliverTinx2 {l : Launch} {D : va_G} {ca : Nat → ClassId} {q0 : Nat} {sa : Nat → Nat} {ad : jAd} {z n q : Nat} {V : jV} (x y : Int32) (hq2 : q < 2) (hx : x = nI q) (hy : ¬ (1 ≤ y ∧ y ≤ 999))  : jMet l D ca q0 sa ad yX6_deliverTin cX6_deliverTin 3 (some .int) 2 0 0 [.ref (ad 20 0), .int x, .int y] (jS z n V) (jRet (some (.int 0)) (jS z n (thr V 1))) := by
  refine j_enter RX6 [some (.ref (ad 20 0)), some (.int x), some (.int y)] rfl (by decide) (by simp [Value.category]) (Nat.le_of_ble_eq_true rfl) rfl ?_
  intro p e s m args below meth c K hnm hX
  refine j_aload_n K 0 dX6_deliverTin_0 rfl rfl ?_
  refine j_iload_n K 1 dX6_deliverTin_1 rfl rfl ?_
  refine j_if_eq K 10 dX6_deliverTin_2 (by decide) (fun h_2 => ?_) (fun h_2 => ?_)
  · refine j_iload_n K 2 dX6_deliverTin_10 rfl rfl ?_
    refine j_iconst K 1 dX6_deliverTin_11 rfl ?_
    refine j_sipush K 999 dX6_deliverTin_12 rfl ?_
    refine j_cS3r K dX6_deliverTin_15 m_X6_isWithin s_X6_isWithin k_X6_89 (c_MW0 _ _ _ hy) (Nat.le_of_ble_eq_true rfl) ⟨by decide, by decide⟩ (by decide) (by decide) ?_
    refine j_if_eq K 25 dX6_deliverTin_18 (by decide) (fun h_18 => ?_) (fun h_18 => absurd (by decide) h_18)
    refine j_iconst K 0 dX6_deliverTin_25 rfl ?_
    refine j_iconst K 1 dX6_deliverTin_26 rfl ?_
    refine j_cV2r K dX6_deliverTin_27 m_X6_isGood v_X6_isGood k_X6_93 rfl ⟨by decide, rfl⟩ rfl (c_MG0 _) (Nat.le_of_ble_eq_true rfl) ⟨by decide, by decide⟩ (by decide) (by decide) ?_
    refine j_if_ne K 35 dX6_deliverTin_30 (by decide) (fun h_30 => absurd (by decide) h_30) (fun h_30 => ?_)
    refine j_iconst K 0 dX6_deliverTin_33 rfl ?_
    refine j_iret K dX6_deliverTin_34 ?_
    exact ⟨rfl, rfl⟩
  · refine j_iload_n K 1 dX6_deliverTin_5 rfl rfl ?_
    refine j_iconst K 1 dX6_deliverTin_6 rfl ?_
    refine j_icmp_ne K 25 dX6_deliverTin_7 (by decide) (fun h_7 => ?_) (fun h_7 => ?_)
    · exact absurd (col_1 hq2 hx h_2) h_7
    · refine j_iload_n K 2 dX6_deliverTin_10 rfl rfl ?_
      refine j_iconst K 1 dX6_deliverTin_11 rfl ?_
      refine j_sipush K 999 dX6_deliverTin_12 rfl ?_
      refine j_cS3r K dX6_deliverTin_15 m_X6_isWithin s_X6_isWithin k_X6_89 (c_MW0 _ _ _ hy) (Nat.le_of_ble_eq_true rfl) ⟨by decide, by decide⟩ (by decide) (by decide) ?_
      refine j_if_eq K 25 dX6_deliverTin_18 (by decide) (fun h_18 => ?_) (fun h_18 => absurd (by decide) h_18)
      refine j_iconst K 0 dX6_deliverTin_25 rfl ?_
      refine j_iconst K 1 dX6_deliverTin_26 rfl ?_
      refine j_cV2r K dX6_deliverTin_27 m_X6_isGood v_X6_isGood k_X6_93 rfl ⟨by decide, rfl⟩ rfl (c_MG0 _) (Nat.le_of_ble_eq_true rfl) ⟨by decide, by decide⟩ (by decide) (by decide) ?_
      refine j_if_ne K 35 dX6_deliverTin_30 (by decide) (fun h_30 => absurd (by decide) h_30) (fun h_30 => ?_)
      refine j_iconst K 0 dX6_deliverTin_33 rfl ?_
      refine j_iret K dX6_deliverTin_34 ?_
      exact ⟨rfl, rfl⟩
set_option maxRecDepth 20000 in
set_option maxHeartbeats 400000 in
theorem c_M_deliverTinx3 {l : Launch} {D : va_G} {ca : Nat → ClassId} {q0 : Nat} {sa : Nat → Nat} {ad : jAd} {z n q : Nat} {V : jV} (x y : Int32) (hq2 : q < 2) (hx : x = nI q) (hy : 1 ≤ y ∧ y ≤ 999) (h0 : V 34 0 q = 12)  : jMet l D ca q0 sa ad yX6_deliverTin cX6_deliverTin 3 (some .int) 2 0 0 [.ref (ad 20 0), .int x, .int y] (jS z n V) (jRet (some (.int 0)) (jS z n (thr (thr V 0) 2))) := by
  refine j_enter RX6 [some (.ref (ad 20 0)), some (.int x), some (.int y)] rfl (by decide) (by simp [Value.category]) (Nat.le_of_ble_eq_true rfl) rfl ?_
  intro p e s m args below meth c K hnm hX
  refine j_aload_n K 0 dX6_deliverTin_0 rfl rfl ?_
  refine j_iload_n K 1 dX6_deliverTin_1 rfl rfl ?_
  refine j_if_eq K 10 dX6_deliverTin_2 (by decide) (fun h_2 => ?_) (fun h_2 => ?_)
  · refine j_iload_n K 2 dX6_deliverTin_10 rfl rfl ?_
    refine j_iconst K 1 dX6_deliverTin_11 rfl ?_
    refine j_sipush K 999 dX6_deliverTin_12 rfl ?_
    refine j_cS3r K dX6_deliverTin_15 m_X6_isWithin s_X6_isWithin k_X6_89 (c_MW _ _ _ hy) (Nat.le_of_ble_eq_true rfl) ⟨by decide, by decide⟩ (by decide) (by decide) ?_
    refine j_if_eq K 25 dX6_deliverTin_18 (by decide) (fun h_18 => absurd h_18 (by decide)) (fun h_18 => ?_)
    refine j_iconst K 1 dX6_deliverTin_21 rfl ?_
    refine j_goto K 26 dX6_deliverTin_22 (by decide) ?_
    refine j_iconst K 1 dX6_deliverTin_26 rfl ?_
    refine j_cV2r K dX6_deliverTin_27 m_X6_isGood v_X6_isGood k_X6_93 rfl ⟨by decide, rfl⟩ rfl (c_MG _) (Nat.le_of_ble_eq_true rfl) ⟨by decide, by decide⟩ (by decide) (by decide) ?_
    refine j_if_ne K 35 dX6_deliverTin_30 (by decide) (fun h_30 => ?_) (fun h_30 => absurd h_30 (by decide))
    refine j_aload_n K 0 dX6_deliverTin_35 rfl rfl ?_
    refine jGr K 34 0 dX6_deliverTin_36 f_X6_40 rfl rfl rfl rfl ?_
    refine j_iload_n K 1 dX6_deliverTin_39 rfl rfl ?_
    refine jIald K (q) dX6_deliverTin_40 rfl rfl hx (by omega) ?_
    refine j_bipush K 12 dX6_deliverTin_41 rfl ?_
    refine j_icmp_ne K 52 dX6_deliverTin_43 (by decide) (fun h_43 => ?_) (fun h_43 => ?_)
    · exact absurd h0 h_43
    · refine j_aload_n K 0 dX6_deliverTin_46 rfl rfl ?_
      refine j_iconst K 2 dX6_deliverTin_47 rfl ?_
      refine j_cV1r K dX6_deliverTin_48 m_X6_fail v_X6_fail k_X6_98 rfl ⟨by decide, rfl⟩ rfl (c_MF _) (Nat.le_of_ble_eq_true rfl) ⟨by decide, by decide⟩ (by decide) (by decide) ?_
      refine j_iret K dX6_deliverTin_51 ?_
      exact ⟨rfl, rfl⟩
  · refine j_iload_n K 1 dX6_deliverTin_5 rfl rfl ?_
    refine j_iconst K 1 dX6_deliverTin_6 rfl ?_
    refine j_icmp_ne K 25 dX6_deliverTin_7 (by decide) (fun h_7 => ?_) (fun h_7 => ?_)
    · exact absurd (col_1 hq2 hx h_2) h_7
    · refine j_iload_n K 2 dX6_deliverTin_10 rfl rfl ?_
      refine j_iconst K 1 dX6_deliverTin_11 rfl ?_
      refine j_sipush K 999 dX6_deliverTin_12 rfl ?_
      refine j_cS3r K dX6_deliverTin_15 m_X6_isWithin s_X6_isWithin k_X6_89 (c_MW _ _ _ hy) (Nat.le_of_ble_eq_true rfl) ⟨by decide, by decide⟩ (by decide) (by decide) ?_
      refine j_if_eq K 25 dX6_deliverTin_18 (by decide) (fun h_18 => absurd h_18 (by decide)) (fun h_18 => ?_)
      refine j_iconst K 1 dX6_deliverTin_21 rfl ?_
      refine j_goto K 26 dX6_deliverTin_22 (by decide) ?_
      refine j_iconst K 1 dX6_deliverTin_26 rfl ?_
      refine j_cV2r K dX6_deliverTin_27 m_X6_isGood v_X6_isGood k_X6_93 rfl ⟨by decide, rfl⟩ rfl (c_MG _) (Nat.le_of_ble_eq_true rfl) ⟨by decide, by decide⟩ (by decide) (by decide) ?_
      refine j_if_ne K 35 dX6_deliverTin_30 (by decide) (fun h_30 => ?_) (fun h_30 => absurd h_30 (by decide))
      refine j_aload_n K 0 dX6_deliverTin_35 rfl rfl ?_
      refine jGr K 34 0 dX6_deliverTin_36 f_X6_40 rfl rfl rfl rfl ?_
      refine j_iload_n K 1 dX6_deliverTin_39 rfl rfl ?_
      refine jIald K (q) dX6_deliverTin_40 rfl rfl hx (by omega) ?_
      refine j_bipush K 12 dX6_deliverTin_41 rfl ?_
      refine j_icmp_ne K 52 dX6_deliverTin_43 (by decide) (fun h_43 => ?_) (fun h_43 => ?_)
      · exact absurd h0 h_43
      · refine j_aload_n K 0 dX6_deliverTin_46 rfl rfl ?_
        refine j_iconst K 2 dX6_deliverTin_47 rfl ?_
        refine j_cV1r K dX6_deliverTin_48 m_X6_fail v_X6_fail k_X6_98 rfl ⟨by decide, rfl⟩ rfl (c_MF _) (Nat.le_of_ble_eq_true rfl) ⟨by decide, by decide⟩ (by decide) (by decide) ?_
        refine j_iret K dX6_deliverTin_51 ?_
        exact ⟨rfl, rfl⟩
set_option maxRecDepth 20000 in
set_option maxHeartbeats 400000 in
theorem c_M_deliverTin {l : Launch} {D : va_G} {ca : Nat → ClassId} {q0 : Nat} {sa : Nat → Nat} {ad : jAd} {z n q t : Nat} {V : jV} (x y : Int32) (hq2 : q < 2) (hx : x = nI q) (hy : 1 ≤ y ∧ y ≤ 999) (ht : V 34 0 q = nI t) (ht2 : t < 12)  : jMet l D ca q0 sa ad yX6_deliverTin cX6_deliverTin 3 (some .int) 2 0 0 [.ref (ad 20 0), .int x, .int y] (jS z n V) (jRet (some (.int (V 34 0 q + 1))) (jS z n (up (up (thr V 0) 35 0 (12 * q + t) y) 34 0 q (V 34 0 q + 1)))) := by
  refine j_enter RX6 [some (.ref (ad 20 0)), some (.int x), some (.int y)] rfl (by decide) (by simp [Value.category]) (Nat.le_of_ble_eq_true rfl) rfl ?_
  intro p e s m args below meth c K hnm hX
  refine j_aload_n K 0 dX6_deliverTin_0 rfl rfl ?_
  refine j_iload_n K 1 dX6_deliverTin_1 rfl rfl ?_
  refine j_if_eq K 10 dX6_deliverTin_2 (by decide) (fun h_2 => ?_) (fun h_2 => ?_)
  · refine j_iload_n K 2 dX6_deliverTin_10 rfl rfl ?_
    refine j_iconst K 1 dX6_deliverTin_11 rfl ?_
    refine j_sipush K 999 dX6_deliverTin_12 rfl ?_
    refine j_cS3r K dX6_deliverTin_15 m_X6_isWithin s_X6_isWithin k_X6_89 (c_MW _ _ _ hy) (Nat.le_of_ble_eq_true rfl) ⟨by decide, by decide⟩ (by decide) (by decide) ?_
    refine j_if_eq K 25 dX6_deliverTin_18 (by decide) (fun h_18 => absurd h_18 (by decide)) (fun h_18 => ?_)
    refine j_iconst K 1 dX6_deliverTin_21 rfl ?_
    refine j_goto K 26 dX6_deliverTin_22 (by decide) ?_
    refine j_iconst K 1 dX6_deliverTin_26 rfl ?_
    refine j_cV2r K dX6_deliverTin_27 m_X6_isGood v_X6_isGood k_X6_93 rfl ⟨by decide, rfl⟩ rfl (c_MG _) (Nat.le_of_ble_eq_true rfl) ⟨by decide, by decide⟩ (by decide) (by decide) ?_
    refine j_if_ne K 35 dX6_deliverTin_30 (by decide) (fun h_30 => ?_) (fun h_30 => absurd h_30 (by decide))
    refine j_aload_n K 0 dX6_deliverTin_35 rfl rfl ?_
    refine jGr K 34 0 dX6_deliverTin_36 f_X6_40 rfl rfl rfl rfl ?_
    refine j_iload_n K 1 dX6_deliverTin_39 rfl rfl ?_
    refine jIald K (q) dX6_deliverTin_40 rfl rfl hx (by omega) ?_
    refine j_bipush K 12 dX6_deliverTin_41 rfl ?_
    refine j_icmp_ne K 52 dX6_deliverTin_43 (by decide) (fun h_43 => ?_) (fun h_43 => ?_)
    · refine j_aload_n K 0 dX6_deliverTin_52 rfl rfl ?_
      refine jGr K 35 0 dX6_deliverTin_53 f_X6_43 rfl rfl rfl rfl ?_
      refine j_bipush K 12 dX6_deliverTin_56 rfl ?_
      refine j_iload_n K 1 dX6_deliverTin_58 rfl rfl ?_
      refine j_imul K dX6_deliverTin_59 ?_
      refine j_aload_n K 0 dX6_deliverTin_60 rfl rfl ?_
      refine jGr K 34 0 dX6_deliverTin_61 f_X6_40 rfl rfl rfl rfl ?_
      refine j_iload_n K 1 dX6_deliverTin_64 rfl rfl ?_
      refine jIald K (q) dX6_deliverTin_65 rfl rfl hx (by omega) ?_
      refine j_iadd K dX6_deliverTin_66 ?_
      refine j_iload_n K 2 dX6_deliverTin_67 rfl rfl ?_
      refine jIast K (((12 * q) + t)) dX6_deliverTin_68 rfl rfl (jx_add (jx_mul rfl hx) ht) (by omega) ?_
      refine j_aload_n K 0 dX6_deliverTin_69 rfl rfl ?_
      refine jGr K 34 0 dX6_deliverTin_70 f_X6_40 rfl rfl rfl rfl ?_
      refine j_iload_n K 1 dX6_deliverTin_73 rfl rfl ?_
      refine j_dup2 K dX6_deliverTin_74 rfl rfl ?_
      refine jIald K (q) dX6_deliverTin_75 rfl rfl hx (by omega) ?_
      refine j_iconst K 1 dX6_deliverTin_76 rfl ?_
      refine j_iadd K dX6_deliverTin_77 ?_
      refine jIast K (q) dX6_deliverTin_78 rfl rfl hx (by omega) ?_
      refine j_aload_n K 0 dX6_deliverTin_79 rfl rfl ?_
      refine jGr K 34 0 dX6_deliverTin_80 f_X6_40 rfl rfl rfl rfl ?_
      refine j_iload_n K 1 dX6_deliverTin_83 rfl rfl ?_
      refine jIald K (q) dX6_deliverTin_84 rfl rfl hx (by omega) ?_
      refine j_iret K dX6_deliverTin_85 ?_
      exact jret_I (by simp [up, thr])
    · exact absurd ((neq (b := 12) (by omega) (by decide) ht rfl).mp h_43) (by omega)
  · refine j_iload_n K 1 dX6_deliverTin_5 rfl rfl ?_
    refine j_iconst K 1 dX6_deliverTin_6 rfl ?_
    refine j_icmp_ne K 25 dX6_deliverTin_7 (by decide) (fun h_7 => ?_) (fun h_7 => ?_)
    · exact absurd (col_1 hq2 hx h_2) h_7
    · refine j_iload_n K 2 dX6_deliverTin_10 rfl rfl ?_
      refine j_iconst K 1 dX6_deliverTin_11 rfl ?_
      refine j_sipush K 999 dX6_deliverTin_12 rfl ?_
      refine j_cS3r K dX6_deliverTin_15 m_X6_isWithin s_X6_isWithin k_X6_89 (c_MW _ _ _ hy) (Nat.le_of_ble_eq_true rfl) ⟨by decide, by decide⟩ (by decide) (by decide) ?_
      refine j_if_eq K 25 dX6_deliverTin_18 (by decide) (fun h_18 => absurd h_18 (by decide)) (fun h_18 => ?_)
      refine j_iconst K 1 dX6_deliverTin_21 rfl ?_
      refine j_goto K 26 dX6_deliverTin_22 (by decide) ?_
      refine j_iconst K 1 dX6_deliverTin_26 rfl ?_
      refine j_cV2r K dX6_deliverTin_27 m_X6_isGood v_X6_isGood k_X6_93 rfl ⟨by decide, rfl⟩ rfl (c_MG _) (Nat.le_of_ble_eq_true rfl) ⟨by decide, by decide⟩ (by decide) (by decide) ?_
      refine j_if_ne K 35 dX6_deliverTin_30 (by decide) (fun h_30 => ?_) (fun h_30 => absurd h_30 (by decide))
      refine j_aload_n K 0 dX6_deliverTin_35 rfl rfl ?_
      refine jGr K 34 0 dX6_deliverTin_36 f_X6_40 rfl rfl rfl rfl ?_
      refine j_iload_n K 1 dX6_deliverTin_39 rfl rfl ?_
      refine jIald K (q) dX6_deliverTin_40 rfl rfl hx (by omega) ?_
      refine j_bipush K 12 dX6_deliverTin_41 rfl ?_
      refine j_icmp_ne K 52 dX6_deliverTin_43 (by decide) (fun h_43 => ?_) (fun h_43 => ?_)
      · refine j_aload_n K 0 dX6_deliverTin_52 rfl rfl ?_
        refine jGr K 35 0 dX6_deliverTin_53 f_X6_43 rfl rfl rfl rfl ?_
        refine j_bipush K 12 dX6_deliverTin_56 rfl ?_
        refine j_iload_n K 1 dX6_deliverTin_58 rfl rfl ?_
        refine j_imul K dX6_deliverTin_59 ?_
        refine j_aload_n K 0 dX6_deliverTin_60 rfl rfl ?_
        refine jGr K 34 0 dX6_deliverTin_61 f_X6_40 rfl rfl rfl rfl ?_
        refine j_iload_n K 1 dX6_deliverTin_64 rfl rfl ?_
        refine jIald K (q) dX6_deliverTin_65 rfl rfl hx (by omega) ?_
        refine j_iadd K dX6_deliverTin_66 ?_
        refine j_iload_n K 2 dX6_deliverTin_67 rfl rfl ?_
        refine jIast K (((12 * q) + t)) dX6_deliverTin_68 rfl rfl (jx_add (jx_mul rfl hx) ht) (by omega) ?_
        refine j_aload_n K 0 dX6_deliverTin_69 rfl rfl ?_
        refine jGr K 34 0 dX6_deliverTin_70 f_X6_40 rfl rfl rfl rfl ?_
        refine j_iload_n K 1 dX6_deliverTin_73 rfl rfl ?_
        refine j_dup2 K dX6_deliverTin_74 rfl rfl ?_
        refine jIald K (q) dX6_deliverTin_75 rfl rfl hx (by omega) ?_
        refine j_iconst K 1 dX6_deliverTin_76 rfl ?_
        refine j_iadd K dX6_deliverTin_77 ?_
        refine jIast K (q) dX6_deliverTin_78 rfl rfl hx (by omega) ?_
        refine j_aload_n K 0 dX6_deliverTin_79 rfl rfl ?_
        refine jGr K 34 0 dX6_deliverTin_80 f_X6_40 rfl rfl rfl rfl ?_
        refine j_iload_n K 1 dX6_deliverTin_83 rfl rfl ?_
        refine jIald K (q) dX6_deliverTin_84 rfl rfl hx (by omega) ?_
        refine j_iret K dX6_deliverTin_85 ?_
        exact jret_I (by simp [up, thr])
      · exact absurd ((neq (b := 12) (by omega) (by decide) ht rfl).mp h_43) (by omega)
set_option maxRecDepth 20000 in
set_option maxHeartbeats 400000 in
theorem c_M_orderx1 {l : Launch} {D : va_G} {ca : Nat → ClassId} {q0 : Nat} {sa : Nat → Nat} {ad : jAd} {z n : Nat} {V : jV} (x d : Int32) (hI : n ≤ 6 ∧ V 20 0 1 = nI n) (h : ¬ okP n x)  : jMet l D ca q0 sa ad yX6_order cX6_order 3 (some .int) 3 0 0 [.ref (ad 20 0), .int x, .int d] (jS z n V) (jRet (some (.int 0)) (jS z n (thr V 1))) := by
  refine j_enter RX6 [some (.ref (ad 20 0)), some (.int x), some (.int d)] rfl (by decide) (by simp [Value.category]) (Nat.le_of_ble_eq_true rfl) rfl ?_
  intro p e s m args below meth c K hnm hX
  have hn6 := hI.1
  have hp := hI.2
  refine j_aload_n K 0 dX6_order_0 rfl rfl ?_
  refine j_iload_n K 1 dX6_order_1 rfl rfl ?_
  refine j_cV1r K dX6_order_2 m_X6_isPier v_X6_isPier k_X6_125 rfl ⟨by decide, rfl⟩ rfl (c_MP0 _ hI h) (Nat.le_of_ble_eq_true rfl) ⟨by decide, by decide⟩ (by decide) (by decide) ?_
  refine j_if_ne K 10 dX6_order_5 (by decide) (fun h_5 => absurd (by decide) h_5) (fun h_5 => ?_)
  refine j_iconst K 0 dX6_order_8 rfl ?_
  refine j_iret K dX6_order_9 ?_
  exact ⟨rfl, rfl⟩
set_option maxRecDepth 20000 in
set_option maxHeartbeats 400000 in
theorem c_M_orderx2 {l : Launch} {D : va_G} {ca : Nat → ClassId} {q0 : Nat} {sa : Nat → Nat} {ad : jAd} {z n a : Nat} {V : jV} (x d : Int32) (hI : n ≤ 6 ∧ V 20 0 1 = nI n) (ha : a < n) (hx : x = nI a) (h : ¬ (0 ≤ d ∧ d ≤ 99999))  : jMet l D ca q0 sa ad yX6_order cX6_order 3 (some .int) 3 0 0 [.ref (ad 20 0), .int x, .int d] (jS z n V) (jRet (some (.int 0)) (jS z n (thr (thr V 0) 2))) := by
  refine j_enter RX6 [some (.ref (ad 20 0)), some (.int x), some (.int d)] rfl (by decide) (by simp [Value.category]) (Nat.le_of_ble_eq_true rfl) rfl ?_
  intro p e s m args below meth c K hnm hX
  have hn6 := hI.1
  have hp := hI.2
  refine j_aload_n K 0 dX6_order_0 rfl rfl ?_
  refine j_iload_n K 1 dX6_order_1 rfl rfl ?_
  refine j_cV1r K dX6_order_2 m_X6_isPier v_X6_isPier k_X6_125 rfl ⟨by decide, rfl⟩ rfl (c_MP _ hI ⟨a, ha, hx⟩) (Nat.le_of_ble_eq_true rfl) ⟨by decide, by decide⟩ (by decide) (by decide) ?_
  refine j_if_ne K 10 dX6_order_5 (by decide) (fun h_5 => ?_) (fun h_5 => absurd h_5 (by decide))
  refine j_iload_n K 2 dX6_order_10 rfl rfl ?_
  refine j_cS1r K dX6_order_11 m_X6_isDay s_X6_isDay k_X6_121 (c_MD0 _ h) (Nat.le_of_ble_eq_true rfl) ⟨by decide, by decide⟩ (by decide) (by decide) ?_
  refine j_if_ne K 23 dX6_order_14 (by decide) (fun h_14 => absurd (by decide) h_14) (fun h_14 => ?_)
  refine j_aload_n K 0 dX6_order_17 rfl rfl ?_
  refine j_iconst K 2 dX6_order_18 rfl ?_
  refine j_cV1r K dX6_order_19 m_X6_fail v_X6_fail k_X6_98 rfl ⟨by decide, rfl⟩ rfl (c_MF _) (Nat.le_of_ble_eq_true rfl) ⟨by decide, by decide⟩ (by decide) (by decide) ?_
  refine j_iret K dX6_order_22 ?_
  exact ⟨rfl, rfl⟩
set_option maxRecDepth 20000 in
set_option maxHeartbeats 400000 in
theorem c_M_orderx3 {l : Launch} {D : va_G} {ca : Nat → ClassId} {q0 : Nat} {sa : Nat → Nat} {ad : jAd} {z n a : Nat} {V : jV} (x d : Int32) (hI : n ≤ 6 ∧ V 20 0 1 = nI n) (ha : a < n) (hx : x = nI a) (hd : 0 ≤ d ∧ d ≤ 99999) (h0 : ¬ V 39 0 a = -1)  : jMet l D ca q0 sa ad yX6_order cX6_order 3 (some .int) 3 0 0 [.ref (ad 20 0), .int x, .int d] (jS z n V) (jRet (some (.int 0)) (jS z n (thr (thr V 0) 3))) := by
  refine j_enter RX6 [some (.ref (ad 20 0)), some (.int x), some (.int d)] rfl (by decide) (by simp [Value.category]) (Nat.le_of_ble_eq_true rfl) rfl ?_
  intro p e s m args below meth c K hnm hX
  have hn6 := hI.1
  have hp := hI.2
  refine j_aload_n K 0 dX6_order_0 rfl rfl ?_
  refine j_iload_n K 1 dX6_order_1 rfl rfl ?_
  refine j_cV1r K dX6_order_2 m_X6_isPier v_X6_isPier k_X6_125 rfl ⟨by decide, rfl⟩ rfl (c_MP _ hI ⟨a, ha, hx⟩) (Nat.le_of_ble_eq_true rfl) ⟨by decide, by decide⟩ (by decide) (by decide) ?_
  refine j_if_ne K 10 dX6_order_5 (by decide) (fun h_5 => ?_) (fun h_5 => absurd h_5 (by decide))
  refine j_iload_n K 2 dX6_order_10 rfl rfl ?_
  refine j_cS1r K dX6_order_11 m_X6_isDay s_X6_isDay k_X6_121 (c_MD _ hd) (Nat.le_of_ble_eq_true rfl) ⟨by decide, by decide⟩ (by decide) (by decide) ?_
  refine j_if_ne K 23 dX6_order_14 (by decide) (fun h_14 => ?_) (fun h_14 => absurd h_14 (by decide))
  refine j_aload_n K 0 dX6_order_23 rfl rfl ?_
  refine jGr K 39 0 dX6_order_24 f_X6_46 rfl rfl rfl rfl ?_
  refine j_iload_n K 1 dX6_order_27 rfl rfl ?_
  refine jIald K (a) dX6_order_28 rfl rfl hx (by omega) ?_
  refine j_iconst K (-1) dX6_order_29 rfl ?_
  refine j_icmp_eq K 39 dX6_order_30 (by decide) (fun h_30 => ?_) (fun h_30 => ?_)
  · exact absurd h_30 h0
  · refine j_aload_n K 0 dX6_order_33 rfl rfl ?_
    refine j_iconst K 3 dX6_order_34 rfl ?_
    refine j_cV1r K dX6_order_35 m_X6_fail v_X6_fail k_X6_98 rfl ⟨by decide, rfl⟩ rfl (c_MF _) (Nat.le_of_ble_eq_true rfl) ⟨by decide, by decide⟩ (by decide) (by decide) ?_
    refine j_iret K dX6_order_38 ?_
    exact ⟨rfl, rfl⟩
set_option maxRecDepth 20000 in
set_option maxHeartbeats 400000 in
theorem c_M_order {l : Launch} {D : va_G} {ca : Nat → ClassId} {q0 : Nat} {sa : Nat → Nat} {ad : jAd} {z n a : Nat} {V : jV} (x d : Int32) (hI : n ≤ 6 ∧ V 20 0 1 = nI n) (ha : a < n) (hx : x = nI a) (hd : 0 ≤ d ∧ d ≤ 99999) (h0 : V 39 0 a = -1)  : jMet l D ca q0 sa ad yX6_order cX6_order 3 (some .int) 3 0 0 [.ref (ad 20 0), .int x, .int d] (jS z n V) (jRet (some (.int (nI (obf (yo (up (thr V 0) 39 0 a d)) (yr (up (thr V 0) 39 0 a d)) a n)))) (jS z n (up (thr V 0) 39 0 a d))) := by
  refine j_enter RX6 [some (.ref (ad 20 0)), some (.int x), some (.int d)] rfl (by decide) (by simp [Value.category]) (Nat.le_of_ble_eq_true rfl) rfl ?_
  intro p e s m args below meth c K hnm hX
  have hn6 := hI.1
  have hp := hI.2
  refine j_aload_n K 0 dX6_order_0 rfl rfl ?_
  refine j_iload_n K 1 dX6_order_1 rfl rfl ?_
  refine j_cV1r K dX6_order_2 m_X6_isPier v_X6_isPier k_X6_125 rfl ⟨by decide, rfl⟩ rfl (c_MP _ hI ⟨a, ha, hx⟩) (Nat.le_of_ble_eq_true rfl) ⟨by decide, by decide⟩ (by decide) (by decide) ?_
  refine j_if_ne K 10 dX6_order_5 (by decide) (fun h_5 => ?_) (fun h_5 => absurd h_5 (by decide))
  refine j_iload_n K 2 dX6_order_10 rfl rfl ?_
  refine j_cS1r K dX6_order_11 m_X6_isDay s_X6_isDay k_X6_121 (c_MD _ hd) (Nat.le_of_ble_eq_true rfl) ⟨by decide, by decide⟩ (by decide) (by decide) ?_
  refine j_if_ne K 23 dX6_order_14 (by decide) (fun h_14 => ?_) (fun h_14 => absurd h_14 (by decide))
  refine j_aload_n K 0 dX6_order_23 rfl rfl ?_
  refine jGr K 39 0 dX6_order_24 f_X6_46 rfl rfl rfl rfl ?_
  refine j_iload_n K 1 dX6_order_27 rfl rfl ?_
  refine jIald K (a) dX6_order_28 rfl rfl hx (by omega) ?_
  refine j_iconst K (-1) dX6_order_29 rfl ?_
  refine j_icmp_eq K 39 dX6_order_30 (by decide) (fun h_30 => ?_) (fun h_30 => ?_)
  · refine j_aload_n K 0 dX6_order_39 rfl rfl ?_
    refine jGr K 39 0 dX6_order_40 f_X6_46 rfl rfl rfl rfl ?_
    refine j_iload_n K 1 dX6_order_43 rfl rfl ?_
    refine j_iload_n K 2 dX6_order_44 rfl rfl ?_
    refine jIast K (a) dX6_order_45 rfl rfl hx (by omega) ?_
    refine j_aload_n K 0 dX6_order_46 rfl rfl ?_
    refine j_iload_n K 1 dX6_order_47 rfl rfl ?_
    refine j_cV1r K dX6_order_48 m_X6_ahead v_X6_ahead k_X6_186 rfl ⟨by decide, rfl⟩ rfl (c_Mahead (V := up (thr V 0) 39 0 a d) _ hn6 hp ha hx) (Nat.le_of_ble_eq_true rfl) ⟨by decide, by decide⟩ (by decide) (by decide) ?_
    refine j_iret K dX6_order_51 ?_
    exact ⟨rfl, rfl⟩
  · exact absurd h0 h_30
set_option maxRecDepth 20000 in
set_option maxHeartbeats 400000 in
theorem c_M_cancelOrderx1 {l : Launch} {D : va_G} {ca : Nat → ClassId} {q0 : Nat} {sa : Nat → Nat} {ad : jAd} {z n : Nat} {V : jV} (x : Int32) (hI : n ≤ 6 ∧ V 20 0 1 = nI n) (h : ¬ okP n x)  : jMet l D ca q0 sa ad yX6_cancelOrder cX6_cancelOrder 3 (some .int) 3 0 0 [.ref (ad 20 0), .int x] (jS z n V) (jRet (some (.int 0)) (jS z n (thr V 1))) := by
  refine j_enter RX6 [some (.ref (ad 20 0)), some (.int x), none] rfl (by decide) (by simp [Value.category]) (Nat.le_of_ble_eq_true rfl) rfl ?_
  intro p e s m args below meth c K hnm hX
  have hn6 := hI.1
  have hp := hI.2
  refine j_aload_n K 0 dX6_cancelOrder_0 rfl rfl ?_
  refine j_iload_n K 1 dX6_cancelOrder_1 rfl rfl ?_
  refine j_cV1r K dX6_cancelOrder_2 m_X6_isPier v_X6_isPier k_X6_125 rfl ⟨by decide, rfl⟩ rfl (c_MP0 _ hI h) (Nat.le_of_ble_eq_true rfl) ⟨by decide, by decide⟩ (by decide) (by decide) ?_
  refine j_if_ne K 10 dX6_cancelOrder_5 (by decide) (fun h_5 => absurd (by decide) h_5) (fun h_5 => ?_)
  refine j_iconst K 0 dX6_cancelOrder_8 rfl ?_
  refine j_iret K dX6_cancelOrder_9 ?_
  exact ⟨rfl, rfl⟩
set_option maxRecDepth 20000 in
set_option maxHeartbeats 400000 in
theorem c_M_cancelOrderx2 {l : Launch} {D : va_G} {ca : Nat → ClassId} {q0 : Nat} {sa : Nat → Nat} {ad : jAd} {z n a : Nat} {V : jV} (x : Int32) (hI : n ≤ 6 ∧ V 20 0 1 = nI n) (ha : a < n) (hx : x = nI a) (h0 : V 39 0 a = -1)  : jMet l D ca q0 sa ad yX6_cancelOrder cX6_cancelOrder 3 (some .int) 3 0 0 [.ref (ad 20 0), .int x] (jS z n V) (jRet (some (.int 0)) (jS z n (thr (thr V 0) 2))) := by
  refine j_enter RX6 [some (.ref (ad 20 0)), some (.int x), none] rfl (by decide) (by simp [Value.category]) (Nat.le_of_ble_eq_true rfl) rfl ?_
  intro p e s m args below meth c K hnm hX
  have hn6 := hI.1
  have hp := hI.2
  refine j_aload_n K 0 dX6_cancelOrder_0 rfl rfl ?_
  refine j_iload_n K 1 dX6_cancelOrder_1 rfl rfl ?_
  refine j_cV1r K dX6_cancelOrder_2 m_X6_isPier v_X6_isPier k_X6_125 rfl ⟨by decide, rfl⟩ rfl (c_MP _ hI ⟨a, ha, hx⟩) (Nat.le_of_ble_eq_true rfl) ⟨by decide, by decide⟩ (by decide) (by decide) ?_
  refine j_if_ne K 10 dX6_cancelOrder_5 (by decide) (fun h_5 => ?_) (fun h_5 => absurd h_5 (by decide))
  refine j_aload_n K 0 dX6_cancelOrder_10 rfl rfl ?_
  refine jGr K 39 0 dX6_cancelOrder_11 f_X6_46 rfl rfl rfl rfl ?_
  refine j_iload_n K 1 dX6_cancelOrder_14 rfl rfl ?_
  refine jIald K (a) dX6_cancelOrder_15 rfl rfl hx (by omega) ?_
  refine j_iconst K (-1) dX6_cancelOrder_16 rfl ?_
  refine j_icmp_ne K 26 dX6_cancelOrder_17 (by decide) (fun h_17 => ?_) (fun h_17 => ?_)
  · exact absurd h0 h_17
  · refine j_aload_n K 0 dX6_cancelOrder_20 rfl rfl ?_
    refine j_iconst K 2 dX6_cancelOrder_21 rfl ?_
    refine j_cV1r K dX6_cancelOrder_22 m_X6_fail v_X6_fail k_X6_98 rfl ⟨by decide, rfl⟩ rfl (c_MF _) (Nat.le_of_ble_eq_true rfl) ⟨by decide, by decide⟩ (by decide) (by decide) ?_
    refine j_iret K dX6_cancelOrder_25 ?_
    exact ⟨rfl, rfl⟩
set_option maxRecDepth 20000 in
set_option maxHeartbeats 400000 in
theorem c_M_cancelOrder {l : Launch} {D : va_G} {ca : Nat → ClassId} {q0 : Nat} {sa : Nat → Nat} {ad : jAd} {z n a : Nat} {V : jV} (x : Int32) (hI : n ≤ 6 ∧ V 20 0 1 = nI n) (ha : a < n) (hx : x = nI a) (h0 : ¬ V 39 0 a = -1)  : jMet l D ca q0 sa ad yX6_cancelOrder cX6_cancelOrder 3 (some .int) 3 0 0 [.ref (ad 20 0), .int x] (jS z n V) (jRet (some (.int (V 39 0 a))) (jS z n (up (thr V 0) 39 0 a (-1)))) := by
  refine j_enter RX6 [some (.ref (ad 20 0)), some (.int x), none] rfl (by decide) (by simp [Value.category]) (Nat.le_of_ble_eq_true rfl) rfl ?_
  intro p e s m args below meth c K hnm hX
  have hn6 := hI.1
  have hp := hI.2
  refine j_aload_n K 0 dX6_cancelOrder_0 rfl rfl ?_
  refine j_iload_n K 1 dX6_cancelOrder_1 rfl rfl ?_
  refine j_cV1r K dX6_cancelOrder_2 m_X6_isPier v_X6_isPier k_X6_125 rfl ⟨by decide, rfl⟩ rfl (c_MP _ hI ⟨a, ha, hx⟩) (Nat.le_of_ble_eq_true rfl) ⟨by decide, by decide⟩ (by decide) (by decide) ?_
  refine j_if_ne K 10 dX6_cancelOrder_5 (by decide) (fun h_5 => ?_) (fun h_5 => absurd h_5 (by decide))
  refine j_aload_n K 0 dX6_cancelOrder_10 rfl rfl ?_
  refine jGr K 39 0 dX6_cancelOrder_11 f_X6_46 rfl rfl rfl rfl ?_
  refine j_iload_n K 1 dX6_cancelOrder_14 rfl rfl ?_
  refine jIald K (a) dX6_cancelOrder_15 rfl rfl hx (by omega) ?_
  refine j_iconst K (-1) dX6_cancelOrder_16 rfl ?_
  refine j_icmp_ne K 26 dX6_cancelOrder_17 (by decide) (fun h_17 => ?_) (fun h_17 => ?_)
  · refine j_aload_n K 0 dX6_cancelOrder_26 rfl rfl ?_
    refine jGr K 39 0 dX6_cancelOrder_27 f_X6_46 rfl rfl rfl rfl ?_
    refine j_iload_n K 1 dX6_cancelOrder_30 rfl rfl ?_
    refine jIald K (a) dX6_cancelOrder_31 rfl rfl hx (by omega) ?_
    refine j_istore_n K 2 dX6_cancelOrder_32 rfl (by decide) ?_
    refine j_aload_n K 0 dX6_cancelOrder_33 rfl rfl ?_
    refine jGr K 39 0 dX6_cancelOrder_34 f_X6_46 rfl rfl rfl rfl ?_
    refine j_iload_n K 1 dX6_cancelOrder_37 rfl rfl ?_
    refine j_iconst K (-1) dX6_cancelOrder_38 rfl ?_
    refine jIast K (a) dX6_cancelOrder_39 rfl rfl hx (by omega) ?_
    refine j_iload_n K 2 dX6_cancelOrder_40 rfl rfl ?_
    refine j_iret K dX6_cancelOrder_41 ?_
    exact ⟨rfl, rfl⟩
  · exact absurd h_17 h0
set_option maxRecDepth 20000 in
set_option maxHeartbeats 400000 in
theorem c_M_waitingPierx {l : Launch} {D : va_G} {ca : Nat → ClassId} {q0 : Nat} {sa : Nat → Nat} {ad : jAd} {z n : Nat} {V : jV} (x : Int32) (hI : n ≤ 6 ∧ V 20 0 1 = nI n) (h0 : fres (wai (yo V) (yr V) n x) n = -1)  : jMet l D ca q0 sa ad yX6_waitingPier cX6_waitingPier 3 (some .int) 3 0 0 [.ref (ad 20 0), .int x] (jS z n V) (jRet (some (.int 0)) (jS z n (thr V 1))) := by
  refine j_enter RX6 [some (.ref (ad 20 0)), some (.int x), none] rfl (by decide) (by simp [Value.category]) (Nat.le_of_ble_eq_true rfl) rfl ?_
  intro p e s m args below meth c K hnm hX
  have hn6 := hI.1
  have hp := hI.2
  refine j_aload_n K 0 dX6_waitingPier_0 rfl rfl ?_
  refine j_iload_n K 1 dX6_waitingPier_1 rfl rfl ?_
  refine j_cV1r K dX6_waitingPier_2 m_X6_waitingAt v_X6_waitingAt k_X6_189 rfl ⟨by decide, rfl⟩ rfl (c_Mwait _ hn6 hp) (Nat.le_of_ble_eq_true rfl) ⟨by decide, by decide⟩ (by decide) (by decide) ?_
  refine j_istore_n K 2 dX6_waitingPier_5 rfl (by decide) ?_
  refine j_aload_n K 0 dX6_waitingPier_6 rfl rfl ?_
  refine j_iload_n K 2 dX6_waitingPier_7 rfl rfl ?_
  refine j_iconst K (-1) dX6_waitingPier_8 rfl ?_
  refine j_icmp_eq K 16 dX6_waitingPier_9 (by decide) (fun h_9 => ?_) (fun h_9 => ?_)
  · refine j_iconst K 0 dX6_waitingPier_16 rfl ?_
    refine j_iconst K 1 dX6_waitingPier_17 rfl ?_
    refine j_cV2r K dX6_waitingPier_18 m_X6_isGood v_X6_isGood k_X6_93 rfl ⟨by decide, rfl⟩ rfl (c_MG0 _) (Nat.le_of_ble_eq_true rfl) ⟨by decide, by decide⟩ (by decide) (by decide) ?_
    refine j_if_eq K 28 dX6_waitingPier_21 (by decide) (fun h_21 => ?_) (fun h_21 => absurd (by decide) h_21)
    refine j_iconst K 0 dX6_waitingPier_28 rfl ?_
    refine j_iret K dX6_waitingPier_29 ?_
    exact ⟨rfl, rfl⟩
  · exact absurd h0 h_9
set_option maxRecDepth 20000 in
set_option maxHeartbeats 400000 in
theorem c_M_waitingPier {l : Launch} {D : va_G} {ca : Nat → ClassId} {q0 : Nat} {sa : Nat → Nat} {ad : jAd} {z n : Nat} {V : jV} (x : Int32) (hI : n ≤ 6 ∧ V 20 0 1 = nI n) (h0 : ¬ fres (wai (yo V) (yr V) n x) n = -1)  : jMet l D ca q0 sa ad yX6_waitingPier cX6_waitingPier 3 (some .int) 3 0 0 [.ref (ad 20 0), .int x] (jS z n V) (jRet (some (.int (fres (wai (yo V) (yr V) n x) n))) (jS z n (thr V 0))) := by
  refine j_enter RX6 [some (.ref (ad 20 0)), some (.int x), none] rfl (by decide) (by simp [Value.category]) (Nat.le_of_ble_eq_true rfl) rfl ?_
  intro p e s m args below meth c K hnm hX
  have hn6 := hI.1
  have hp := hI.2
  refine j_aload_n K 0 dX6_waitingPier_0 rfl rfl ?_
  refine j_iload_n K 1 dX6_waitingPier_1 rfl rfl ?_
  refine j_cV1r K dX6_waitingPier_2 m_X6_waitingAt v_X6_waitingAt k_X6_189 rfl ⟨by decide, rfl⟩ rfl (c_Mwait _ hn6 hp) (Nat.le_of_ble_eq_true rfl) ⟨by decide, by decide⟩ (by decide) (by decide) ?_
  refine j_istore_n K 2 dX6_waitingPier_5 rfl (by decide) ?_
  refine j_aload_n K 0 dX6_waitingPier_6 rfl rfl ?_
  refine j_iload_n K 2 dX6_waitingPier_7 rfl rfl ?_
  refine j_iconst K (-1) dX6_waitingPier_8 rfl ?_
  refine j_icmp_eq K 16 dX6_waitingPier_9 (by decide) (fun h_9 => ?_) (fun h_9 => ?_)
  · exact absurd h_9 h0
  · refine j_iconst K 1 dX6_waitingPier_12 rfl ?_
    refine j_goto K 17 dX6_waitingPier_13 (by decide) ?_
    refine j_iconst K 1 dX6_waitingPier_17 rfl ?_
    refine j_cV2r K dX6_waitingPier_18 m_X6_isGood v_X6_isGood k_X6_93 rfl ⟨by decide, rfl⟩ rfl (c_MG _) (Nat.le_of_ble_eq_true rfl) ⟨by decide, by decide⟩ (by decide) (by decide) ?_
    refine j_if_eq K 28 dX6_waitingPier_21 (by decide) (fun h_21 => absurd h_21 (by decide)) (fun h_21 => ?_)
    refine j_iload_n K 2 dX6_waitingPier_24 rfl rfl ?_
    refine j_goto K 29 dX6_waitingPier_25 (by decide) ?_
    refine j_iret K dX6_waitingPier_29 ?_
    exact ⟨rfl, rfl⟩
set_option maxRecDepth 20000 in
set_option maxHeartbeats 400000 in
theorem c_M_linesToPaintx {l : Launch} {D : va_G} {ca : Nat → ClassId} {q0 : Nat} {sa : Nat → Nat} {ad : jAd} {z n : Nat} {V : jV} (h0 : V 20 0 19 = -1)  : jMet l D ca q0 sa ad yX6_linesToPaint cX6_linesToPaint 1 (some .int) 0 0 0 [.ref (ad 20 0)] (jS z n V) (jRet (some (.int 0)) (jS z n (thr V 0))) := by
  refine j_enter RX6 [some (.ref (ad 20 0))] rfl (by decide) (by simp [Value.category]) (Nat.le_of_ble_eq_true rfl) rfl ?_
  intro p e s m args below meth c K hnm hX
  refine j_aload_n K 0 dX6_linesToPaint_0 rfl rfl ?_
  refine j_iconst K 0 dX6_linesToPaint_1 rfl ?_
  refine jPi K dX6_linesToPaint_2 fo_X6_83 rfl rfl rfl rfl (Or.inl rfl) ?_
  refine j_aload_n K 0 dX6_linesToPaint_5 rfl rfl ?_
  refine jGi K dX6_linesToPaint_6 f_X6_49 rfl rfl rfl ?_
  refine j_iconst K (-1) dX6_linesToPaint_9 rfl ?_
  refine j_icmp_ne K 17 dX6_linesToPaint_10 (by decide) (fun h_10 => ?_) (fun h_10 => ?_)
  · exact absurd h0 h_10
  · refine j_iconst K 0 dX6_linesToPaint_13 rfl ?_
    refine j_goto K 23 dX6_linesToPaint_14 (by decide) ?_
    refine j_iret K dX6_linesToPaint_23 ?_
    exact ⟨rfl, rfl⟩
set_option maxRecDepth 20000 in
set_option maxHeartbeats 400000 in
theorem c_M_linesToPaint {l : Launch} {D : va_G} {ca : Nat → ClassId} {q0 : Nat} {sa : Nat → Nat} {ad : jAd} {z n : Nat} {V : jV} (h0 : ¬ V 20 0 19 = -1)  : jMet l D ca q0 sa ad yX6_linesToPaint cX6_linesToPaint 1 (some .int) 0 0 0 [.ref (ad 20 0)] (jS z n V) (jRet (some (.int (V 20 0 20 + 1))) (jS z n (thr V 0))) := by
  refine j_enter RX6 [some (.ref (ad 20 0))] rfl (by decide) (by simp [Value.category]) (Nat.le_of_ble_eq_true rfl) rfl ?_
  intro p e s m args below meth c K hnm hX
  refine j_aload_n K 0 dX6_linesToPaint_0 rfl rfl ?_
  refine j_iconst K 0 dX6_linesToPaint_1 rfl ?_
  refine jPi K dX6_linesToPaint_2 fo_X6_83 rfl rfl rfl rfl (Or.inl rfl) ?_
  refine j_aload_n K 0 dX6_linesToPaint_5 rfl rfl ?_
  refine jGi K dX6_linesToPaint_6 f_X6_49 rfl rfl rfl ?_
  refine j_iconst K (-1) dX6_linesToPaint_9 rfl ?_
  refine j_icmp_ne K 17 dX6_linesToPaint_10 (by decide) (fun h_10 => ?_) (fun h_10 => ?_)
  · refine j_aload_n K 0 dX6_linesToPaint_17 rfl rfl ?_
    refine jGi K dX6_linesToPaint_18 f_X6_192 rfl rfl rfl ?_
    refine j_iconst K 1 dX6_linesToPaint_21 rfl ?_
    refine j_iadd K dX6_linesToPaint_22 ?_
    refine j_iret K dX6_linesToPaint_23 ?_
    exact ⟨rfl, rfl⟩
  · exact absurd h_10 h0
set_option maxRecDepth 20000 in
set_option maxHeartbeats 400000 in
theorem c_M_giveUpJobx {l : Launch} {D : va_G} {ca : Nat → ClassId} {q0 : Nat} {sa : Nat → Nat} {ad : jAd} {z n : Nat} {V : jV} (h0 : V 20 0 19 = -1)  : jMet l D ca q0 sa ad yX6_giveUpJob cX6_giveUpJob 1 (some .int) 1 0 0 [.ref (ad 20 0)] (jS z n V) (jRet (some (.int 0)) (jS z n (thr V 1))) := by
  refine j_enter RX6 [some (.ref (ad 20 0))] rfl (by decide) (by simp [Value.category]) (Nat.le_of_ble_eq_true rfl) rfl ?_
  intro p e s m args below meth c K hnm hX
  refine j_aload_n K 0 dX6_giveUpJob_0 rfl rfl ?_
  refine j_aload_n K 0 dX6_giveUpJob_1 rfl rfl ?_
  refine jGi K dX6_giveUpJob_2 f_X6_49 rfl rfl rfl ?_
  refine j_iconst K (-1) dX6_giveUpJob_5 rfl ?_
  refine j_icmp_eq K 13 dX6_giveUpJob_6 (by decide) (fun h_6 => ?_) (fun h_6 => ?_)
  · refine j_iconst K 0 dX6_giveUpJob_13 rfl ?_
    refine j_iconst K 1 dX6_giveUpJob_14 rfl ?_
    refine j_cV2r K dX6_giveUpJob_15 m_X6_isGood v_X6_isGood k_X6_93 rfl ⟨by decide, rfl⟩ rfl (c_MG0 _) (Nat.le_of_ble_eq_true rfl) ⟨by decide, by decide⟩ (by decide) (by decide) ?_
    refine j_if_ne K 23 dX6_giveUpJob_18 (by decide) (fun h_18 => absurd (by decide) h_18) (fun h_18 => ?_)
    refine j_iconst K 0 dX6_giveUpJob_21 rfl ?_
    refine j_iret K dX6_giveUpJob_22 ?_
    exact ⟨rfl, rfl⟩
  · exact absurd h0 h_6
set_option maxRecDepth 20000 in
set_option maxHeartbeats 400000 in
theorem c_M_giveUpJob {l : Launch} {D : va_G} {ca : Nat → ClassId} {q0 : Nat} {sa : Nat → Nat} {ad : jAd} {z n : Nat} {V : jV} (h0 : ¬ V 20 0 19 = -1)  : jMet l D ca q0 sa ad yX6_giveUpJob cX6_giveUpJob 1 (some .int) 1 0 0 [.ref (ad 20 0)] (jS z n V) (jRet (some (.int (V 20 0 20 + 1))) (jS z n (up (thr V 0) 20 0 19 (-1)))) := by
  refine j_enter RX6 [some (.ref (ad 20 0))] rfl (by decide) (by simp [Value.category]) (Nat.le_of_ble_eq_true rfl) rfl ?_
  intro p e s m args below meth c K hnm hX
  refine j_aload_n K 0 dX6_giveUpJob_0 rfl rfl ?_
  refine j_aload_n K 0 dX6_giveUpJob_1 rfl rfl ?_
  refine jGi K dX6_giveUpJob_2 f_X6_49 rfl rfl rfl ?_
  refine j_iconst K (-1) dX6_giveUpJob_5 rfl ?_
  refine j_icmp_eq K 13 dX6_giveUpJob_6 (by decide) (fun h_6 => ?_) (fun h_6 => ?_)
  · exact absurd h_6 h0
  · refine j_iconst K 1 dX6_giveUpJob_9 rfl ?_
    refine j_goto K 14 dX6_giveUpJob_10 (by decide) ?_
    refine j_iconst K 1 dX6_giveUpJob_14 rfl ?_
    refine j_cV2r K dX6_giveUpJob_15 m_X6_isGood v_X6_isGood k_X6_93 rfl ⟨by decide, rfl⟩ rfl (c_MG _) (Nat.le_of_ble_eq_true rfl) ⟨by decide, by decide⟩ (by decide) (by decide) ?_
    refine j_if_ne K 23 dX6_giveUpJob_18 (by decide) (fun h_18 => ?_) (fun h_18 => absurd h_18 (by decide))
    refine j_aload_n K 0 dX6_giveUpJob_23 rfl rfl ?_
    refine j_iconst K (-1) dX6_giveUpJob_24 rfl ?_
    refine jPi K dX6_giveUpJob_25 fo_X6_49 rfl rfl rfl rfl (Or.inl rfl) ?_
    refine j_aload_n K 0 dX6_giveUpJob_28 rfl rfl ?_
    refine jGi K dX6_giveUpJob_29 f_X6_192 rfl rfl rfl ?_
    refine j_iconst K 1 dX6_giveUpJob_32 rfl ?_
    refine j_iadd K dX6_giveUpJob_33 ?_
    refine j_iret K dX6_giveUpJob_34 ?_
    exact ⟨rfl, rfl⟩
set_option maxRecDepth 20000 in
set_option maxHeartbeats 400000 in
theorem c_M_waitingOrders {l : Launch} {D : va_G} {ca : Nat → ClassId} {q0 : Nat} {sa : Nat → Nat} {ad : jAd} {z n : Nat} {V : jV} (hI : n ≤ 6 ∧ V 20 0 1 = nI n)  : jMet l D ca q0 sa ad yX6_waitingOrders cX6_waitingOrders 3 (some .int) 0 0 0 [.ref (ad 20 0)] (jS z n V) (jRet (some (.int (nI (wno (yo V) n)))) (jS z n (thr V 0))) := by
  refine j_enter RX6 [some (.ref (ad 20 0)), none, none] rfl (by decide) (by simp [Value.category]) (Nat.le_of_ble_eq_true rfl) rfl ?_
  intro p e s m args below meth c K hnm hX
  have hn6 := hI.1
  have hp := hI.2
  have lp : ∀ (k j : Nat) (acc : Int32), j ≤ n → n < j + k → acc = nI (wno (yo V) j) → jW p l e (jRm 0 0 0) s m args below meth c D ca q0 ad 3 (jZ below args s D ca q0 ad 0 0 (jRet (some (.int (nI (wno (yo V) n)))) (jS z n (thr V 0)))) 0 0 9 [some (.ref (ad 20 0)), some (.int acc), some (.int (nI j))] [] (jS z n (thr V 0)) := by
    intro k
    induction k with
    | zero => intro j acc hj1 hj2; exact absurd hj2 (by omega)
    | succ k ih =>
      intro j acc hj1 hj2 hacc
      refine j_iload_n K 2 dX6_waitingOrders_9 rfl rfl ?_
      refine j_aload_n K 0 dX6_waitingOrders_10 rfl rfl ?_
      refine jGi K dX6_waitingOrders_11 f_X6_86 rfl rfl rfl ?_
      refine j_icmp_ge K 41 dX6_waitingOrders_14 (by decide) (fun h_14 => ?_) (fun h_14 => ?_)
      · have hj9 : j = n := by have := nle1 h_14 hp rfl (by omega) (by omega); omega
        subst hj9
        refine j_iload_n K 1 dX6_waitingOrders_41 rfl rfl ?_
        refine j_iret K dX6_waitingOrders_42 ?_
        rw [hacc]
        exact ⟨rfl, rfl⟩
      · have hj3 : j < n := nle0 h_14 hp rfl (by omega) (by omega)
        refine j_iload_n K 1 dX6_waitingOrders_17 rfl rfl ?_
        refine j_aload_n K 0 dX6_waitingOrders_18 rfl rfl ?_
        refine jGr K 39 0 dX6_waitingOrders_19 f_X6_46 rfl rfl rfl rfl ?_
        refine j_iload_n K 2 dX6_waitingOrders_22 rfl rfl ?_
        refine jIald K (j) dX6_waitingOrders_23 rfl rfl rfl (by omega) ?_
        refine j_iconst K (-1) dX6_waitingOrders_24 rfl ?_
        refine j_icmp_ne K 32 dX6_waitingOrders_25 (by decide) (fun h_25 => ?_) (fun h_25 => ?_)
        · refine j_iconst K 1 dX6_waitingOrders_32 rfl ?_
          refine j_iadd K dX6_waitingOrders_33 ?_
          refine j_istore_n K 1 dX6_waitingOrders_34 rfl (by decide) ?_
          refine j_iinc (v := nI (j + 1)) K dX6_waitingOrders_35 rfl (by decide) (nI_1 _) ?_
          refine j_goto K 9 dX6_waitingOrders_38 (by decide) ?_
          refine ih (j + 1) _ (by omega) (by omega) ?_
          first
          | (rw [wno, if_pos (show yo V j = -1 from h_25)]; exact j0 hacc)
          | (rw [wno, if_neg (show ¬ yo V j = -1 from h_25)]; exact j1 hacc)
        · refine j_iconst K 0 dX6_waitingOrders_28 rfl ?_
          refine j_goto K 33 dX6_waitingOrders_29 (by decide) ?_
          refine j_iadd K dX6_waitingOrders_33 ?_
          refine j_istore_n K 1 dX6_waitingOrders_34 rfl (by decide) ?_
          refine j_iinc (v := nI (j + 1)) K dX6_waitingOrders_35 rfl (by decide) (nI_1 _) ?_
          refine j_goto K 9 dX6_waitingOrders_38 (by decide) ?_
          refine ih (j + 1) _ (by omega) (by omega) ?_
          first
          | (rw [wno, if_pos (show yo V j = -1 from h_25)]; exact j0 hacc)
          | (rw [wno, if_neg (show ¬ yo V j = -1 from h_25)]; exact j1 hacc)
  refine j_aload_n K 0 dX6_waitingOrders_0 rfl rfl ?_
  refine j_iconst K 0 dX6_waitingOrders_1 rfl ?_
  refine jPi K dX6_waitingOrders_2 fo_X6_83 rfl rfl rfl rfl (Or.inl rfl) ?_
  refine j_iconst K 0 dX6_waitingOrders_5 rfl ?_
  refine j_istore_n K 1 dX6_waitingOrders_6 rfl (by decide) ?_
  refine j_iconst K 0 dX6_waitingOrders_7 rfl ?_
  refine j_istore_n K 2 dX6_waitingOrders_8 rfl (by decide) ?_
  exact lp (n + 1) 0 _ (by omega) (by omega) rfl
set_option maxRecDepth 20000 in
set_option maxHeartbeats 400000 in
theorem c_M_isRightx1 {l : Launch} {D : va_G} {ca : Nat → ClassId} {q0 : Nat} {sa : Nat → Nat} {ad : jAd} {z n : Nat} {V : jV} (x : Int32) (hI : n ≤ 6 ∧ V 20 0 1 = nI n) (h : ¬ okP n x)  : jMet l D ca q0 sa ad yX6_isRight cX6_isRight 2 (some .boolean) 4 0 0 [.ref (ad 20 0), .int x] (jS z n V) (jRet (some (.int 0)) (jS z n (thr V 1))) := by
  refine j_enter RX6 [some (.ref (ad 20 0)), some (.int x)] rfl (by decide) (by simp [Value.category]) (Nat.le_of_ble_eq_true rfl) rfl ?_
  intro p e s m args below meth c K hnm hX
  have hn6 := hI.1
  have hp := hI.2
  refine j_aload_n K 0 dX6_isRight_0 rfl rfl ?_
  refine j_iload_n K 1 dX6_isRight_1 rfl rfl ?_
  refine j_cV1r K dX6_isRight_2 m_X6_isPier v_X6_isPier k_X6_125 rfl ⟨by decide, rfl⟩ rfl (c_MP0 _ hI h) (Nat.le_of_ble_eq_true rfl) ⟨by decide, by decide⟩ (by decide) (by decide) ?_
  refine j_if_eq K 20 dX6_isRight_5 (by decide) (fun h_5 => ?_) (fun h_5 => absurd (by decide) h_5)
  refine j_iconst K 0 dX6_isRight_20 rfl ?_
  refine j_zret K dX6_isRight_21 (by simp) ?_
  exact ⟨rfl, rfl⟩
set_option maxRecDepth 20000 in
set_option maxHeartbeats 400000 in
theorem c_M_isRight {l : Launch} {D : va_G} {ca : Nat → ClassId} {q0 : Nat} {sa : Nat → Nat} {ad : jAd} {z n a : Nat} {V : jV} (x : Int32) (hI : n ≤ 6 ∧ V 20 0 1 = nI n) (ha : a < n) (hx : x = nI a) (hR : YR V a (tn (V 30 0 a))) (hl0 : V 43 0 a = nI (tn (V 43 0 a)) ∧ tn (V 43 0 a) ≤ 4)  : jMet l D ca q0 sa ad yX6_isRight cX6_isRight 2 (some .boolean) 4 0 0 [.ref (ad 20 0), .int x] (jS z n V) (jRet (some (.int (bI (rgA (thr V 0) a)))) (jS z n (rgV (thr V 0) a))) := by
  refine j_enter RX6 [some (.ref (ad 20 0)), some (.int x)] rfl (by decide) (by simp [Value.category]) (Nat.le_of_ble_eq_true rfl) rfl ?_
  intro p e s m args below meth c K hnm hX
  have hn6 := hI.1
  have hp := hI.2
  refine j_aload_n K 0 dX6_isRight_0 rfl rfl ?_
  refine j_iload_n K 1 dX6_isRight_1 rfl rfl ?_
  refine j_cV1r K dX6_isRight_2 m_X6_isPier v_X6_isPier k_X6_125 rfl ⟨by decide, rfl⟩ rfl (c_MP _ hI ⟨a, ha, hx⟩) (Nat.le_of_ble_eq_true rfl) ⟨by decide, by decide⟩ (by decide) (by decide) ?_
  refine j_if_eq K 20 dX6_isRight_5 (by decide) (fun h_5 => absurd h_5 (by decide)) (fun h_5 => ?_)
  refine j_aload_n K 0 dX6_isRight_8 rfl rfl ?_
  refine j_iload_n K 1 dX6_isRight_9 rfl rfl ?_
  refine j_cV1r K dX6_isRight_10 m_X6_right v_X6_right k_X6_220 rfl ⟨by decide, rfl⟩ rfl (c_Mright (V := thr V 0) _ hn6 ha hx hR hl0) (Nat.le_of_ble_eq_true rfl) ⟨by decide, by decide⟩ (by decide) (by decide) ?_
  refine j_if_eq K 20 dX6_isRight_13 (by decide) (fun h_13 => ?_) (fun h_13 => ?_)
  · refine j_iconst K 0 dX6_isRight_20 rfl ?_
    refine j_zret K dX6_isRight_21 (by simp) ?_
    first
    | exact jret_IB (Or.inr ⟨bI_0 h_13, rfl⟩)
    | exact jret_IB (Or.inl ⟨bI_1 h_13, rfl⟩)
  · refine j_iconst K 1 dX6_isRight_16 rfl ?_
    refine j_goto K 21 dX6_isRight_17 (by decide) ?_
    refine j_zret K dX6_isRight_21 (by simp) ?_
    first
    | exact jret_IB (Or.inr ⟨bI_0 h_13, rfl⟩)
    | exact jret_IB (Or.inl ⟨bI_1 h_13, rfl⟩)
set_option maxRecDepth 20000 in
set_option maxHeartbeats 400000 in
theorem c_M_rightBoards {l : Launch} {D : va_G} {ca : Nat → ClassId} {q0 : Nat} {sa : Nat → Nat} {ad : jAd} {z n : Nat} {V : jV} (hD : YD n V)  : jMet l D ca q0 sa ad yX6_rightBoards cX6_rightBoards 3 (some .int) 4 0 0 [.ref (ad 20 0)] (jS z n V) (jRet (some (.int (rbY V n).2)) (jS z n (rbY V n).1)) := by
  refine j_enter RX6 [some (.ref (ad 20 0)), none, none] rfl (by decide) (by simp [Value.category]) (Nat.le_of_ble_eq_true rfl) rfl ?_
  intro p e s m args below meth c K hnm hX
  have hn6 := hD.1
  have lp : ∀ (k j : Nat) (acc : Int32), j ≤ n → n < j + k → acc = (rbY V j).2 → jW p l e (jRm 4 0 0) s m args below meth c D ca q0 ad 3 (jZ below args s D ca q0 ad 0 0 (jRet (some (.int (rbY V n).2)) (jS z n (rbY V n).1))) 0 0 9 [some (.ref (ad 20 0)), some (.int acc), some (.int (nI j))] [] (jS z n (rbY V j).1) := by
    intro k
    induction k with
    | zero => intro j acc hj1 hj2; exact absurd hj2 (by omega)
    | succ k ih =>
      intro j acc hj1 hj2 hacc
      have hB := YD_rb hD j
      refine j_iload_n K 2 dX6_rightBoards_9 rfl rfl ?_
      refine j_aload_n K 0 dX6_rightBoards_10 rfl rfl ?_
      refine jGi K dX6_rightBoards_11 f_X6_86 rfl rfl rfl ?_
      refine j_icmp_ge K 41 dX6_rightBoards_14 (by decide) (fun h_14 => ?_) (fun h_14 => ?_)
      · have hj9 : j = n := by have := nle1 h_14 hB.2.1 rfl (by omega) (by omega); omega
        subst hj9
        refine j_iload_n K 1 dX6_rightBoards_41 rfl rfl ?_
        refine j_iret K dX6_rightBoards_42 ?_
        rw [hacc]
        exact ⟨rfl, rfl⟩
      · have hj3 : j < n := nle0 h_14 hB.2.1 rfl (by omega) (by omega)
        refine j_iload_n K 1 dX6_rightBoards_17 rfl rfl ?_
        refine j_aload_n K 0 dX6_rightBoards_18 rfl rfl ?_
        refine j_iload_n K 2 dX6_rightBoards_19 rfl rfl ?_
        refine j_cV1r K dX6_rightBoards_20 m_X6_right v_X6_right k_X6_220 rfl ⟨by decide, rfl⟩ rfl (c_Mright _ hn6 hj3 rfl (hB.2.2.1 j hj3) (hB.2.2.2 j hj3)) (Nat.le_of_ble_eq_true rfl) ⟨by decide, by decide⟩ (by decide) (by decide) ?_
        refine j_if_eq K 32 dX6_rightBoards_23 (by decide) (fun h_23 => ?_) (fun h_23 => ?_)
        · refine j_iconst K 0 dX6_rightBoards_32 rfl ?_
          refine j_ior K dX6_rightBoards_33 ?_
          refine j_istore_n K 1 dX6_rightBoards_34 rfl (by decide) ?_
          refine j_iinc (v := nI (j + 1)) K dX6_rightBoards_35 rfl (by decide) (nI_1 _) ?_
          refine j_goto K 9 dX6_rightBoards_38 (by decide) ?_
          refine ih (j + 1) _ (by omega) (by omega) ?_
          first
          | (rw [rb_1 h_23, hacc])
          | (rw [rb_0 h_23, hacc]; exact Int32.or_zero)
        · refine j_iconst K 1 dX6_rightBoards_26 rfl ?_
          refine j_iload_n K 2 dX6_rightBoards_27 rfl rfl ?_
          refine j_ishl K dX6_rightBoards_28 ?_
          refine j_goto K 33 dX6_rightBoards_29 (by decide) ?_
          refine j_ior K dX6_rightBoards_33 ?_
          refine j_istore_n K 1 dX6_rightBoards_34 rfl (by decide) ?_
          refine j_iinc (v := nI (j + 1)) K dX6_rightBoards_35 rfl (by decide) (nI_1 _) ?_
          refine j_goto K 9 dX6_rightBoards_38 (by decide) ?_
          refine ih (j + 1) _ (by omega) (by omega) ?_
          first
          | (rw [rb_1 h_23, hacc])
          | (rw [rb_0 h_23, hacc]; exact Int32.or_zero)
  refine j_aload_n K 0 dX6_rightBoards_0 rfl rfl ?_
  refine j_iconst K 0 dX6_rightBoards_1 rfl ?_
  refine jPi K dX6_rightBoards_2 fo_X6_83 rfl rfl rfl rfl (Or.inl rfl) ?_
  refine j_iconst K 0 dX6_rightBoards_5 rfl ?_
  refine j_istore_n K 1 dX6_rightBoards_6 rfl (by decide) ?_
  refine j_iconst K 0 dX6_rightBoards_7 rfl ?_
  refine j_istore_n K 2 dX6_rightBoards_8 rfl (by decide) ?_
  exact lp (n + 1) 0 _ (by omega) (by omega) rfl
