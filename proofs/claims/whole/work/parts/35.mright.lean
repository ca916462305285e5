theorem YD_up {n : Nat} {V : jV} {k a b : Nat} {v : Int32} (h : YD n V) (h1 : ¬ k = 30) (h2 : ¬ k = 31) (h3 : ¬ k = 43) (h4 : ¬ (k = 20 ∧ b = 1)) : YD n (up V k a b v) := by
  obtain ⟨e0, e1, e2, e3⟩ := h
  have hh : ∀ i, up V k a b v 30 0 i = V 30 0 i := fun i => by unfold up; rw [if_neg (by omega)]
  have hl : ∀ i, up V k a b v 43 0 i = V 43 0 i := fun i => by unfold up; rw [if_neg (by omega)]
  refine ⟨e0, ?_, fun i hi => ?_, fun i hi => ?_⟩
  · unfold up; rw [if_neg (by omega)]; exact e1
  · rw [hh]; exact YR_up (e2 i hi) h1 h2
  · rw [hl]; exact e3 i hi
theorem YD_pdY {n : Nat} {V : jV} (h : YD n V) : YD n (pdY n V) := YD_pdA (YD_up h (by decide) (by decide) (by decide) (by decide)) n (Nat.le_refl n)
/-- k days -/
def pdsY (n : Nat) (V : jV) : Nat → jV
  | 0 => V
  | k + 1 => pdY n (pdsY n V k)
theorem YD_pds {n : Nat} {V : jV} (h : YD n V) : ∀ k, YD n (pdsY n V k)
  | 0 => h
  | k + 1 => YD_pdY (YD_pds h k)
def rgL (V T : jV) (a : Nat) (d : Int32) (j : Nat) : Int32 := if T 52 0 j = 0 then T 25 0 a + rangeY T a d / 2 else T 25 0 a - rangeY T a d / 2
def rgB (T : jV) (a : Nat) : Nat → Bool
  | 0 => decide (T 20 0 29 = T 43 0 a)
  | j + 1 => rgB T a j && (decide (T 45 0 (4 * a + j) = T 52 0 j) && (decide (T 46 0 (4 * a + j) = T 51 0 j) && decide (T 47 0 (4 * a + j) = rgL T T a (T 20 0 2) j)))
theorem rgB_f {T : jV} {a j : Nat} (h : rgB T a j = false) : ∀ k, j ≤ k → rgB T a k = false
  | 0, hk => by rw [show j = 0 by omega] at h; exact h
  | k + 1, hk => by
    rcases Nat.lt_or_eq_of_le hk with q | q
    · rw [rgB, rgB_f h k (by omega)]; rfl
    · rw [← q]; exact h
def rgC (V : jV) (a : Nat) : Bool := decide (V 42 0 a = V 20 0 2) && decide (umY V a (tn (V 43 0 a)) = 0)
theorem rgC_t {V : jV} {a : Nat} (h1 : V 42 0 a = V 20 0 2) (h2 : umY V a (tn (V 43 0 a)) = 0) : rgC V a = true := by unfold rgC; rw [decide_eq_true h1, decide_eq_true h2]; rfl
theorem rgC_1 {V : jV} {a : Nat} (h1 : ¬ V 42 0 a = V 20 0 2) : ¬ rgC V a = true := by unfold rgC; rw [decide_eq_false h1, Bool.false_and]; decide
theorem rgC_2 {V : jV} {a : Nat} (h1 : ¬ umY V a (tn (V 43 0 a)) = 0) : ¬ rgC V a = true := by unfold rgC; rw [decide_eq_false h1, Bool.and_false]; decide
def rgT (V : jV) (a : Nat) : jV := tabY V a (tn (V 30 0 a)) (V 20 0 2)
/-- is the board of the pier a right: what the Model answers, and the table it leaves -/
def rgV (V : jV) (a : Nat) : jV := if rgC V a = true then rgT V a else V
def rgA (V : jV) (a : Nat) : Bool := if rgC V a = true then rgB (rgT V a) a (tn (rgT V a 20 0 29)) else false
set_option maxRecDepth 20000 in
set_option maxHeartbeats 400000 in
theorem c_MpassDays {l : Launch} {D : va_G} {ca : Nat → ClassId} {q0 : Nat} {sa : Nat → Nat} {ad : jAd} {z n r : Nat} {V : jV} (x : Int32) (hw : 1 ≤ x ∧ x ≤ 60) (hx : x = nI r) (hr : r ≤ 60) (hD : YD n V)  : jMet l D ca q0 sa ad yX6_passDays cX6_passDays 3 (some .int) 2 0 0 [.ref (ad 20 0), .int x] (jS z n V) (jRet (some (.int (pdsY n (thr V 0) r 20 0 2))) (jS z n (pdsY n (thr V 0) r))) := by
  refine j_enter RX6 [some (.ref (ad 20 0)), some (.int x), none] rfl (by decide) (by simp [Value.category]) (Nat.le_of_ble_eq_true rfl) rfl ?_
  intro p e s m args below meth c K hnm hX
  have hD0 : YD n (thr V 0) := YD_up hD (by decide) (by decide) (by decide) (by decide)
  have lp : ∀ (k j : Nat) , j ≤ r → r < j + k → jW p l e (jRm 2 0 0) s m args below meth c D ca q0 ad 3 (jZ below args s D ca q0 ad 0 0 (jRet (some (.int (pdsY n (thr V 0) r 20 0 2))) (jS z n (pdsY n (thr V 0) r)))) 0 0 19 [some (.ref (ad 20 0)), some (.int x), some (.int (nI j))] [] (jS z n (pdsY n (thr V 0) j)) := by
    intro k
    induction k with
    | zero => intro j  hj1 hj2; exact absurd hj2 (by omega)
    | succ k ih =>
      intro j  hj1 hj2 
      refine j_iload_n K 2 dX6_passDays_19 rfl rfl ?_
      refine j_iload_n K 1 dX6_passDays_20 rfl rfl ?_
      refine j_icmp_ge K 34 dX6_passDays_21 (by decide) (fun h_21 => ?_) (fun h_21 => ?_)
      · have hj9 : j = r := by have := nle1 h_21 hx rfl (by omega) (by omega); omega
        subst hj9
        refine j_aload_n K 0 dX6_passDays_34 rfl rfl ?_
        refine jGi K dX6_passDays_35 f_X6_102 rfl rfl rfl ?_
        refine j_iret K dX6_passDays_38 ?_
        exact ⟨rfl, rfl⟩
      · have hj3 : j < r := nle0 h_21 hx rfl (by omega) (by omega)
        refine j_aload_n K 0 dX6_passDays_24 rfl rfl ?_
        refine j_cV0n K dX6_passDays_25 m_X6_passDay v_X6_passDay k_X6_109 rfl ⟨by decide, rfl⟩ rfl (c_MpassDay (YD_pds hD0 j)) (Nat.le_of_ble_eq_true rfl) ⟨by decide, by decide⟩ (by decide) (by decide) ?_
        refine j_iinc (v := nI (j + 1)) K dX6_passDays_28 rfl (by decide) (nI_1 _) ?_
        refine j_goto K 19 dX6_passDays_31 (by decide) ?_
        exact ih (j + 1) (by omega) (by omega)
  refine j_aload_n K 0 dX6_passDays_0 rfl rfl ?_
  refine j_iload_n K 1 dX6_passDays_1 rfl rfl ?_
  refine j_iconst K 1 dX6_passDays_2 rfl ?_
  refine j_bipush K 60 dX6_passDays_3 rfl ?_
  refine j_cS3r K dX6_passDays_5 m_X6_isWithin s_X6_isWithin k_X6_89 (c_MW _ _ _ hw) (Nat.le_of_ble_eq_true rfl) ⟨by decide, by decide⟩ (by decide) (by decide) ?_
  refine j_iconst K 1 dX6_passDays_8 rfl ?_
  refine j_cV2r K dX6_passDays_9 m_X6_isGood v_X6_isGood k_X6_93 rfl ⟨by decide, rfl⟩ rfl (c_MG _) (Nat.le_of_ble_eq_true rfl) ⟨by decide, by decide⟩ (by decide) (by decide) ?_
  refine j_if_ne K 17 dX6_passDays_12 (by decide) (fun h_12 => ?_) (fun h_12 => absurd h_12 (by decide))
  refine j_iconst K 0 dX6_passDays_17 rfl ?_
  refine j_istore_n K 2 dX6_passDays_18 rfl (by decide) ?_
  exact lp (r + 1) 0 (by omega) (by omega)
set_option maxRecDepth 20000 in
set_option maxHeartbeats 400000 in
theorem c_MpassDaysx {l : Launch} {D : va_G} {ca : Nat → ClassId} {q0 : Nat} {sa : Nat → Nat} {ad : jAd} {z n : Nat} {V : jV} (x : Int32) (hw : ¬ (1 ≤ x ∧ x ≤ 60))  : jMet l D ca q0 sa ad yX6_passDays cX6_passDays 3 (some .int) 2 0 0 [.ref (ad 20 0), .int x] (jS z n V) (jRet (some (.int 0)) (jS z n (thr V 1))) := by
  refine j_enter RX6 [some (.ref (ad 20 0)), some (.int x), none] rfl (by decide) (by simp [Value.category]) (Nat.le_of_ble_eq_true rfl) rfl ?_
  intro p e s m args below meth c K hnm hX
  refine j_aload_n K 0 dX6_passDays_0 rfl rfl ?_
  refine j_iload_n K 1 dX6_passDays_1 rfl rfl ?_
  refine j_iconst K 1 dX6_passDays_2 rfl ?_
  refine j_bipush K 60 dX6_passDays_3 rfl ?_
  refine j_cS3r K dX6_passDays_5 m_X6_isWithin s_X6_isWithin k_X6_89 (c_MW0 _ _ _ hw) (Nat.le_of_ble_eq_true rfl) ⟨by decide, by decide⟩ (by decide) (by decide) ?_
  refine j_iconst K 1 dX6_passDays_8 rfl ?_
  refine j_cV2r K dX6_passDays_9 m_X6_isGood v_X6_isGood k_X6_93 rfl ⟨by decide, rfl⟩ rfl (c_MG0 _) (Nat.le_of_ble_eq_true rfl) ⟨by decide, by decide⟩ (by decide) (by decide) ?_
  refine j_if_ne K 17 dX6_passDays_12 (by decide) (fun h_12 => absurd (by decide) h_12) (fun h_12 => ?_)
  refine j_iconst K 0 dX6_passDays_15 rfl ?_
  refine j_iret K dX6_passDays_16 ?_
  exact ⟨rfl, rfl⟩
theorem rg_1 {T : jV} {a j : Nat} (h : rgB T a j = true) (h1 : T 45 0 (4 * a + j) = T 52 0 j) (h2 : T 46 0 (4 * a + j) = T 51 0 j) (h3 : T 47 0 (4 * a + j) = rgL T T a (T 20 0 2) j) : (1 : Int32) = bI (rgB T a (j + 1)) := by rw [rgB, h, h1, h2, h3]; simp [bI]
theorem rg_2 {T : jV} {a j : Nat} (h : ¬ T 45 0 (4 * a + j) = T 52 0 j) : (0 : Int32) = bI (rgB T a (j + 1)) := by rw [rgB]; simp [h, bI]
theorem rg_3 {T : jV} {a j : Nat} (h : ¬ T 46 0 (4 * a + j) = T 51 0 j) : (0 : Int32) = bI (rgB T a (j + 1)) := by rw [rgB]; simp [h, bI]
theorem rg_4 {T : jV} {a j : Nat} (h : ¬ T 47 0 (4 * a + j) = rgL T T a (T 20 0 2) j) : (0 : Int32) = bI (rgB T a (j + 1)) := by rw [rgB]; simp [h, bI]
set_option maxRecDepth 20000 in
set_option maxHeartbeats 400000 in
theorem c_Mright {l : Launch} {D : va_G} {ca : Nat → ClassId} {q0 : Nat} {sa : Nat → Nat} {ad : jAd} {z n a : Nat} {V : jV} (x : Int32) (hn6 : n ≤ 6) (ha : a < n) (hx : x = nI a) (hR : YR V a (tn (V 30 0 a))) (hl0 : V 43 0 a = nI (tn (V 43 0 a)) ∧ tn (V 43 0 a) ≤ 4)  : jMet l D ca q0 sa ad yX6_right cX6_right 5 (some .boolean) 3 0 0 [.ref (ad 20 0), .int x] (jS z n V) (jRet (some (.int (bI (rgA V a)))) (jS z n (rgV V a))) := by
  refine j_enter RX6 [some (.ref (ad 20 0)), some (.int x), none, none, none] rfl (by decide) (by simp [Value.category]) (Nat.le_of_ble_eq_true rfl) rfl ?_
  intro p e s m args below meth c K hnm hX
  obtain ⟨T, hT⟩ : ∃ T, T = rgT V a := ⟨_, rfl⟩
  obtain ⟨w4, hw4⟩ : ∃ w, w = tn (T 20 0 29) := ⟨_, rfl⟩
  have hT1 : T 20 0 29 = nI w4 := by rw [hw4, hT]; exact tab_w.1
  have hT2 : w4 ≤ 4 := by rw [hw4, hT]; exact tab_w.2
  have lp : rgC V a = true → ∀ (k j : Nat) (b : Int32) (w : Option Value), j ≤ w4 → w4 < j + k → b = bI (rgB T a j) → jW p l e (jRm 3 0 0) s m args below meth c D ca q0 ad 5 (jZ below args s D ca q0 ad 0 0 (jRet (some (.int (bI (rgA V a)))) (jS z n (rgV V a)))) 0 0 53 [some (.ref (ad 20 0)), some (.int x), some (.int b), some (.int (nI j)), w] [] (jS z n T) := by
    intro hC k
    have hA : rgA V a = rgB T a w4 := by unfold rgA; rw [if_pos hC, hw4, hT]
    have hB : rgV V a = T := by unfold rgV; rw [if_pos hC, hT]
    induction k with
    | zero => intro j b w hj1 hj2; exact absurd hj2 (by omega)
    | succ k ih =>
      intro j b w hj1 hj2 hb
      refine j_iload_n K 3 dX6_right_53 rfl rfl ?_
      refine j_aload_n K 0 dX6_right_54 rfl rfl ?_
      refine jGi K dX6_right_55 f_X6_134 rfl rfl rfl ?_
      refine j_icmp_ge K 141 dX6_right_58 (by decide) (fun h_58 => ?_) (fun h_58 => ?_)
      · refine j_iload_n K 2 dX6_right_141 rfl rfl ?_
        refine j_zret K dX6_right_142 (by rw [hb]; exact bI_01 _) ?_
        first
        | (have hj9 : j = w4 := by have := nle1 h_58 hT1 rfl (by omega) (by omega); omega
           rw [hA, hB, hb, hj9]; exact ⟨rfl, rfl⟩)
        | (rw [hb] at h_62
           rw [hA, hB, hb, rgB_f (bI_0 h_62) w4 hj1, bI_0 h_62]; exact ⟨rfl, rfl⟩)
      · have hj3 : j < w4 := nle0 h_58 hT1 rfl (by omega) (by omega)
        refine j_iload_n K 2 dX6_right_61 rfl rfl ?_
        refine j_if_eq K 141 dX6_right_62 (by decide) (fun h_62 => ?_) (fun h_62 => ?_)
        · refine j_iload_n K 2 dX6_right_141 rfl rfl ?_
          refine j_zret K dX6_right_142 (by rw [hb]; exact bI_01 _) ?_
          first
          | (have hj9 : j = w4 := by have := nle1 h_58 hT1 rfl (by omega) (by omega); omega
             rw [hA, hB, hb, hj9]; exact ⟨rfl, rfl⟩)
          | (rw [hb] at h_62
             rw [hA, hB, hb, rgB_f (bI_0 h_62) w4 hj1, bI_0 h_62]; exact ⟨rfl, rfl⟩)
        · refine j_iconst K 4 dX6_right_65 rfl ?_
          refine j_iload_n K 1 dX6_right_66 rfl rfl ?_
          refine j_imul K dX6_right_67 ?_
          refine j_iload_n K 3 dX6_right_68 rfl rfl ?_
          refine j_iadd K dX6_right_69 ?_
          refine j_istore K dX6_right_70 (by decide) ?_
          refine j_aload_n K 0 dX6_right_72 rfl rfl ?_
          refine jGr K 45 0 dX6_right_73 f_X6_62 rfl rfl rfl rfl ?_
          refine j_iload K dX6_right_76 rfl ?_
          refine jIald K (((4 * a) + j)) dX6_right_78 rfl rfl (jx_add (jx_mul rfl hx) rfl) (by omega) ?_
          refine j_aload_n K 0 dX6_right_79 rfl rfl ?_
          refine jGr K 52 0 dX6_right_80 f_X6_80 rfl rfl rfl rfl ?_
          refine j_iload_n K 3 dX6_right_83 rfl rfl ?_
          refine jIald K (j) dX6_right_84 rfl rfl rfl (by omega) ?_
          refine j_icmp_ne K 133 dX6_right_85 (by decide) (fun h_85 => ?_) (fun h_85 => ?_)
          · refine j_iconst K 0 dX6_right_133 rfl ?_
            refine j_istore_n K 2 dX6_right_134 rfl (by decide) ?_
            refine j_iinc (v := nI (j + 1)) K dX6_right_135 rfl (by decide) (nI_1 _) ?_
            refine j_goto K 53 dX6_right_138 (by decide) ?_
            rw [hb] at h_62
            have hb1 := bI_1 h_62
            refine ih (j + 1) _ _ (by omega) (by omega) ?_
            first
            | exact rg_1 hb1 h_85 h_101 h_126
            | exact rg_2 h_85
            | exact rg_3 h_101
            | exact rg_4 h_126
          · refine j_aload_n K 0 dX6_right_88 rfl rfl ?_
            refine jGr K 46 0 dX6_right_89 f_X6_65 rfl rfl rfl rfl ?_
            refine j_iload K dX6_right_92 rfl ?_
            refine jIald K (((4 * a) + j)) dX6_right_94 rfl rfl (jx_add (jx_mul rfl hx) rfl) (by omega) ?_
            refine j_aload_n K 0 dX6_right_95 rfl rfl ?_
            refine jGr K 51 0 dX6_right_96 f_X6_77 rfl rfl rfl rfl ?_
            refine j_iload_n K 3 dX6_right_99 rfl rfl ?_
            refine jIald K (j) dX6_right_100 rfl rfl rfl (by omega) ?_
            refine j_icmp_ne K 133 dX6_right_101 (by decide) (fun h_101 => ?_) (fun h_101 => ?_)
            · refine j_iconst K 0 dX6_right_133 rfl ?_
              refine j_istore_n K 2 dX6_right_134 rfl (by decide) ?_
              refine j_iinc (v := nI (j + 1)) K dX6_right_135 rfl (by decide) (nI_1 _) ?_
              refine j_goto K 53 dX6_right_138 (by decide) ?_
              rw [hb] at h_62
              have hb1 := bI_1 h_62
              refine ih (j + 1) _ _ (by omega) (by omega) ?_
              first
              | exact rg_1 hb1 h_85 h_101 h_126
              | exact rg_2 h_85
              | exact rg_3 h_101
              | exact rg_4 h_126
            · refine j_aload_n K 0 dX6_right_104 rfl rfl ?_
              refine jGr K 47 0 dX6_right_105 f_X6_68 rfl rfl rfl rfl ?_
              refine j_iload K dX6_right_108 rfl ?_
              refine jIald K (((4 * a) + j)) dX6_right_110 rfl rfl (jx_add (jx_mul rfl hx) rfl) (by omega) ?_
              refine j_aload_n K 0 dX6_right_111 rfl rfl ?_
              refine j_iload_n K 1 dX6_right_112 rfl rfl ?_
              refine j_aload_n K 0 dX6_right_113 rfl rfl ?_
              refine jGi K dX6_right_114 f_X6_102 rfl rfl rfl ?_
              refine j_aload_n K 0 dX6_right_117 rfl rfl ?_
              refine jGr K 52 0 dX6_right_118 f_X6_80 rfl rfl rfl rfl ?_
              refine j_iload_n K 3 dX6_right_121 rfl rfl ?_
              refine jIald K (j) dX6_right_122 rfl rfl rfl (by omega) ?_
              refine j_cV3r K dX6_right_123 m_X6_level v_X6_level k_X6_146 rfl ⟨by decide, rfl⟩ rfl (c_Mlev _ _ _ hn6 ha hx) (Nat.le_of_ble_eq_true rfl) ⟨by decide, by decide⟩ (by decide) (by decide) ?_
              refine j_icmp_ne K 133 dX6_right_126 (by decide) (fun h_126 => ?_) (fun h_126 => ?_)
              · refine j_iconst K 0 dX6_right_133 rfl ?_
                refine j_istore_n K 2 dX6_right_134 rfl (by decide) ?_
                refine j_iinc (v := nI (j + 1)) K dX6_right_135 rfl (by decide) (nI_1 _) ?_
                refine j_goto K 53 dX6_right_138 (by decide) ?_
                rw [hb] at h_62
                have hb1 := bI_1 h_62
                refine ih (j + 1) _ _ (by omega) (by omega) ?_
                first
                | exact rg_1 hb1 h_85 h_101 h_126
                | exact rg_2 h_85
                | exact rg_3 h_101
                | exact rg_4 h_126
              · refine j_iconst K 1 dX6_right_129 rfl ?_
                refine j_goto K 134 dX6_right_130 (by decide) ?_
                refine j_istore_n K 2 dX6_right_134 rfl (by decide) ?_
                refine j_iinc (v := nI (j + 1)) K dX6_right_135 rfl (by decide) (nI_1 _) ?_
                refine j_goto K 53 dX6_right_138 (by decide) ?_
                rw [hb] at h_62
                have hb1 := bI_1 h_62
                refine ih (j + 1) _ _ (by omega) (by omega) ?_
                first
                | exact rg_1 hb1 h_85 h_101 h_126
                | exact rg_2 h_85
                | exact rg_3 h_101
                | exact rg_4 h_126
  refine j_aload_n K 0 dX6_right_0 rfl rfl ?_
  refine jGr K 42 0 dX6_right_1 f_X6_53 rfl rfl rfl rfl ?_
  refine j_iload_n K 1 dX6_right_4 rfl rfl ?_
  refine jIald K (a) dX6_right_5 rfl rfl hx (by omega) ?_
  refine j_aload_n K 0 dX6_right_6 rfl rfl ?_
  refine jGi K dX6_right_7 f_X6_102 rfl rfl rfl ?_
  refine j_icmp_ne K 21 dX6_right_10 (by decide) (fun h_10 => ?_) (fun h_10 => ?_)
  · refine j_iconst K 0 dX6_right_21 rfl ?_
    refine j_zret K dX6_right_22 (by simp) ?_
    first
    | (have hC := rgC_1 h_10
       unfold rgA rgV; rw [if_neg hC, if_neg hC]; exact ⟨rfl, rfl⟩)
    | (have hC := rgC_2 h_18
       unfold rgA rgV; rw [if_neg hC, if_neg hC]; exact ⟨rfl, rfl⟩)
  · refine j_aload_n K 0 dX6_right_13 rfl rfl ?_
    refine j_iload_n K 1 dX6_right_14 rfl rfl ?_
    refine j_cV1r K dX6_right_15 m_X6_unreadable v_X6_unreadable k_X6_217 rfl ⟨by decide, rfl⟩ rfl (c_Munr _ hn6 ha hx hl0.1 hl0.2) (Nat.le_of_ble_eq_true rfl) ⟨by decide, by decide⟩ (by decide) (by decide) ?_
    refine j_if_eq K 23 dX6_right_18 (by decide) (fun h_18 => ?_) (fun h_18 => ?_)
    · refine j_aload_n K 0 dX6_right_23 rfl rfl ?_
      refine j_iload_n K 1 dX6_right_24 rfl rfl ?_
      refine j_aload_n K 0 dX6_right_25 rfl rfl ?_
      refine jGi K dX6_right_26 f_X6_102 rfl rfl rfl ?_
      refine j_cV2n K dX6_right_29 m_X6_findTable v_X6_findTable k_X6_140 rfl ⟨by decide, rfl⟩ rfl (c_Mfind _ _ hn6 ha hx hR) (Nat.le_of_ble_eq_true rfl) ⟨by decide, by decide⟩ (by decide) (by decide) ?_
      rw [show tabY V a (tn (V 30 0 a)) (V 20 0 2) = T from hT.symm]
      refine j_aload_n K 0 dX6_right_32 rfl rfl ?_
      refine jGi K dX6_right_33 f_X6_134 rfl rfl rfl ?_
      refine j_aload_n K 0 dX6_right_36 rfl rfl ?_
      refine jGr K 43 0 dX6_right_37 f_X6_56 rfl rfl rfl rfl ?_
      refine j_iload_n K 1 dX6_right_40 rfl rfl ?_
      refine jIald K (a) dX6_right_41 rfl rfl hx (by omega) ?_
      refine j_icmp_ne K 49 dX6_right_42 (by decide) (fun h_42 => ?_) (fun h_42 => ?_)
      · refine j_iconst K 0 dX6_right_49 rfl ?_
        refine j_istore_n K 2 dX6_right_50 rfl (by decide) ?_
        refine j_iconst K 0 dX6_right_51 rfl ?_
        refine j_istore_n K 3 dX6_right_52 rfl (by decide) ?_
        refine lp (rgC_t h_10 h_18) (w4 + 1) 0 _ _ (by omega) (by omega) ?_
        first
        | (rw [rgB, decide_eq_true h_42]; rfl)
        | (rw [rgB, decide_eq_false h_42]; rfl)
      · refine j_iconst K 1 dX6_right_45 rfl ?_
        refine j_goto K 50 dX6_right_46 (by decide) ?_
        refine j_istore_n K 2 dX6_right_50 rfl (by decide) ?_
        refine j_iconst K 0 dX6_right_51 rfl ?_
        refine j_istore_n K 3 dX6_right_52 rfl (by decide) ?_
        refine lp (rgC_t h_10 h_18) (w4 + 1) 0 _ _ (by omega) (by omega) ?_
        first
        | (rw [rgB, decide_eq_true h_42]; rfl)
        | (rw [rgB, decide_eq_false h_42]; rfl)
    · refine j_iconst K 0 dX6_right_21 rfl ?_
      refine j_zret K dX6_right_22 (by simp) ?_
      first
      | (have hC := rgC_1 h_10
         unfold rgA rgV; rw [if_neg hC, if_neg hC]; exact ⟨rfl, rfl⟩)
      | (have hC := rgC_2 h_18
         unfold rgA rgV; rw [if_neg hC, if_neg hC]; exact ⟨rfl, rfl⟩)
