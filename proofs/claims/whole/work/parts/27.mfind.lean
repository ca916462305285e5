def bhd (y : Int32) : Int32 := if y - y / 745 * 745 < 0 then y - y / 745 * 745 + 745 else y - y / 745 * 745
def behY (V : jV) (i cnt : Nat) (y : Int32) : Int32 := bhd (y - V 24 0 i - corr (ymin V i) (ytru V i) cnt)
/-- how many of the minutes before m are a water's, β minutes behind at the first -/
def hk (β m : Nat) : Nat := ((β + m + 744) / 745 + (β + m + 372) / 745) - ((β + 744) / 745 + (β + 372) / 745)
theorem hk_lt {β m : Nat} (h1 : β < 745) (h2 : m < 1440) (h : (β + m) % 745 = 0 ∨ (β + m) % 745 = 372) : hk β m < 4 := by unfold hk; omega
theorem hk_le {β m : Nat} (h1 : β < 745) (h2 : m ≤ 1440) : hk β m ≤ 4 := by unfold hk; omega
theorem hk_hit {β m : Nat} (h : (β + m) % 745 = 0 ∨ (β + m) % 745 = 372) : hk β (m + 1) = hk β m + 1 := by unfold hk; omega
theorem hk_no {β m : Nat} (h : ¬ (β + m) % 745 = 0) (h' : ¬ (β + m) % 745 = 372) : hk β (m + 1) = hk β m := by unfold hk; omega
def fT (V : jV) (β : Nat) : Nat → jV
  | 0 => up V 20 0 29 0
  | m + 1 => if (β + m) % 745 = 0 then up (up (up (fT V β m) 51 0 (hk β m) (nI m)) 52 0 (hk β m) 0) 20 0 29 (fT V β m 20 0 29 + 1)
    else if (β + m) % 745 = 372 then up (up (up (fT V β m) 51 0 (hk β m) (nI m)) 52 0 (hk β m) 1) 20 0 29 (fT V β m 20 0 29 + 1) else fT V β m
theorem fT_0 {V : jV} {β m : Nat} (h : (β + m) % 745 = 0) : fT V β (m + 1) = up (up (up (fT V β m) 51 0 (hk β m) (nI m)) 52 0 (hk β m) 0) 20 0 29 (fT V β m 20 0 29 + 1) := by rw [fT, if_pos h]
theorem fT_1 {V : jV} {β m : Nat} (h : (β + m) % 745 = 372) : fT V β (m + 1) = up (up (up (fT V β m) 51 0 (hk β m) (nI m)) 52 0 (hk β m) 1) 20 0 29 (fT V β m 20 0 29 + 1) := by rw [fT, if_neg (by omega), if_pos h]
theorem fT_n {V : jV} {β m : Nat} (h : ¬ (β + m) % 745 = 0) (h' : ¬ (β + m) % 745 = 372) : fT V β (m + 1) = fT V β m := by rw [fT, if_neg h, if_neg h']
theorem fT_cnt {V : jV} {β : Nat} (m : Nat) : fT V β m 20 0 29 = nI (hk β m) := by
  induction m with
  | zero => rw [show hk β 0 = 0 by unfold hk; omega]; rfl
  | succ m ih =>
    by_cases h : (β + m) % 745 = 0
    · rw [fT_0 h, hk_hit (Or.inl h), ← nI_1, ← ih]; rfl
    · by_cases h' : (β + m) % 745 = 372
      · rw [fT_1 h', hk_hit (Or.inr h'), ← nI_1, ← ih]; rfl
      · rw [fT_n h h', hk_no h h', ih]
theorem nxt_0 {β m : Nat} (h : (β + m) % 745 = 744) : (0 : Int32) = nI ((β + (m + 1)) % 745) := by
  rw [show (β + (m + 1)) % 745 = 0 by omega]; rfl
theorem nxt_1 {β m : Nat} {b : Int32} (hb : b = nI ((β + m) % 745)) (h : ¬ (β + m) % 745 = 744) : b + 1 = nI ((β + (m + 1)) % 745) := by
  rw [hb, nI_1]; congr 1; omega
theorem bhd_nI (y : Int32) : bhd y = nI (tn (bhd y)) ∧ tn (bhd y) < 745 := by
  have h0 : ((y % 745).toInt) = y.toInt.tmod 745 := Int32.toInt_mod y 745
  have h1 : bhd y = if y % 745 < 0 then y % 745 + 745 else y % 745 := by
    unfold bhd; rw [irem_eq_mod]
  have hA : -745 < y.toInt.tmod 745 := Int.lt_tmod_of_pos _ (by decide)
  have hB : y.toInt.tmod 745 < 745 := Int.tmod_lt_of_pos _ (by decide)
  have h2 : ¬ bhd y < 0 ∧ (bhd y).toInt < 745 := by
    rw [h1]
    by_cases q : y % 745 < 0
    · rw [if_pos q]
      have q1 : (y % 745).toInt < 0 := Int32.lt_iff_toInt_lt.mp q
      have e1 : (y % 745 + 745).toInt = (y % 745).toInt + 745 := by
        rw [Int32.toInt_add, show (745 : Int32).toInt = 745 from rfl]
        exact Int.bmod_eq_of_le_mul_two (by omega) (by omega)
      refine ⟨fun z => ?_, by omega⟩
      have z1 : _ < (0 : Int) := Int32.lt_iff_toInt_lt.mp z
      omega
    · rw [if_neg q]
      exact ⟨q, by omega⟩
  obtain ⟨j, hj, e⟩ := nI_of h2.1
  rw [e, tn_nI hj]
  refine ⟨rfl, ?_⟩
  have h3 := h2.2
  rw [e] at h3
  have h4 : (nI j).toInt = j := by rw [nI_toInt hj]
  omega
/-- the Model's table for the pier i and the day d -/
def tabY (V : jV) (i cnt : Nat) (d : Int32) : jV := fT V (tn (behY V i cnt (1440 * d))) 1440
set_option maxRecDepth 20000 in
set_option maxHeartbeats 400000 in
theorem c_Mbeh {l : Launch} {D : va_G} {ca : Nat → ClassId} {q0 : Nat} {sa : Nat → Nat} {ad : jAd} {z n a cnt : Nat} {V : jV} (x y : Int32) (hn6 : n ≤ 6) (ha : a < n) (hx : x = nI a) (hR : YR V a cnt)  : jMet l D ca q0 sa ad yX6_behind cX6_behind 4 (some .int) 1 0 0 [.ref (ad 20 0), .int x, .int y] (jS z n V) (jRet (some (.int (behY V a cnt y))) (jS z n V)) := by
  refine j_enter RX6 [some (.ref (ad 20 0)), some (.int x), some (.int y), none] rfl (by decide) (by simp [Value.category]) (Nat.le_of_ble_eq_true rfl) rfl ?_
  intro p e s m args below meth c K hnm hX
  refine j_iload_n K 2 dX6_behind_0 rfl rfl ?_
  refine j_aload_n K 0 dX6_behind_1 rfl rfl ?_
  refine jGr K 24 0 dX6_behind_2 f_X6_7 rfl rfl rfl rfl ?_
  refine j_iload_n K 1 dX6_behind_5 rfl rfl ?_
  refine jIald K (a) dX6_behind_6 rfl rfl hx (by omega) ?_
  refine j_isub K dX6_behind_7 ?_
  refine j_aload_n K 0 dX6_behind_8 rfl rfl ?_
  refine j_iload_n K 1 dX6_behind_9 rfl rfl ?_
  refine j_cV1r K dX6_behind_10 m_X6_correction v_X6_correction k_X6_131 rfl ⟨by decide, rfl⟩ rfl (c_Mcorr _ hn6 ha hx hR) (Nat.le_of_ble_eq_true rfl) ⟨by decide, by decide⟩ (by decide) (by decide) ?_
  refine j_isub K dX6_behind_13 ?_
  refine j_sipush K 745 dX6_behind_14 rfl ?_
  refine j_irem K dX6_behind_17 (by decide) ?_
  refine j_istore_n K 3 dX6_behind_18 rfl (by decide) ?_
  refine j_iload_n K 3 dX6_behind_19 rfl rfl ?_
  refine j_if_ge K 31 dX6_behind_20 (by decide) (fun h_20 => ?_) (fun h_20 => ?_)
  · refine j_iload_n K 3 dX6_behind_31 rfl rfl ?_
    refine j_iret K dX6_behind_32 ?_
    unfold behY bhd
    first
    | (rw [if_neg (Int32.not_lt.mpr h_20)]; exact ⟨rfl, rfl⟩)
    | (rw [if_pos h_20]; exact ⟨rfl, rfl⟩)
    | (rw [if_pos (Int32.not_le.mp h_20)]; exact ⟨rfl, rfl⟩)
  · refine j_iload_n K 3 dX6_behind_23 rfl rfl ?_
    refine j_sipush K 745 dX6_behind_24 rfl ?_
    refine j_iadd K dX6_behind_27 ?_
    refine j_goto K 32 dX6_behind_28 (by decide) ?_
    refine j_iret K dX6_behind_32 ?_
    unfold behY bhd
    first
    | (rw [if_neg (Int32.not_lt.mpr h_20)]; exact ⟨rfl, rfl⟩)
    | (rw [if_pos h_20]; exact ⟨rfl, rfl⟩)
    | (rw [if_pos (Int32.not_le.mp h_20)]; exact ⟨rfl, rfl⟩)
set_option maxRecDepth 20000 in
set_option maxHeartbeats 400000 in
theorem c_Mlev {l : Launch} {D : va_G} {ca : Nat → ClassId} {q0 : Nat} {sa : Nat → Nat} {ad : jAd} {z n a : Nat} {V : jV} (x d k : Int32) (hn6 : n ≤ 6) (ha : a < n) (hx : x = nI a)  : jMet l D ca q0 sa ad yX6_level cX6_level 5 (some .int) 2 0 0 [.ref (ad 20 0), .int x, .int d, .int k] (jS z n V) (jRet (some (.int (if k = 0 then V 25 0 a + rangeY V a d / 2 else V 25 0 a - rangeY V a d / 2))) (jS z n V)) := by
  refine j_enter RX6 [some (.ref (ad 20 0)), some (.int x), some (.int d), some (.int k), none] rfl (by decide) (by simp [Value.category]) (Nat.le_of_ble_eq_true rfl) rfl ?_
  intro p e s m args below meth c K hnm hX
  refine j_aload_n K 0 dX6_level_0 rfl rfl ?_
  refine j_iload_n K 1 dX6_level_1 rfl rfl ?_
  refine j_iload_n K 2 dX6_level_2 rfl rfl ?_
  refine j_cV2r K dX6_level_3 m_X6_range v_X6_range k_X6_128 rfl ⟨by decide, rfl⟩ rfl (c_Mrange _ _ hn6 ha hx) (Nat.le_of_ble_eq_true rfl) ⟨by decide, by decide⟩ (by decide) (by decide) ?_
  refine j_iconst K 2 dX6_level_6 rfl ?_
  refine j_idiv K dX6_level_7 (by decide) ?_
  refine j_istore K dX6_level_8 (by decide) ?_
  refine j_iload_n K 3 dX6_level_10 rfl rfl ?_
  refine j_if_ne K 26 dX6_level_11 (by decide) (fun h_11 => ?_) (fun h_11 => ?_)
  · refine j_aload_n K 0 dX6_level_26 rfl rfl ?_
    refine jGr K 25 0 dX6_level_27 f_X6_13 rfl rfl rfl rfl ?_
    refine j_iload_n K 1 dX6_level_30 rfl rfl ?_
    refine jIald K (a) dX6_level_31 rfl rfl hx (by omega) ?_
    refine j_iload K dX6_level_32 rfl ?_
    refine j_isub K dX6_level_34 ?_
    refine j_iret K dX6_level_35 ?_
    first
    | (rw [if_pos h_11]; exact ⟨rfl, rfl⟩)
    | (rw [if_neg h_11]; exact ⟨rfl, rfl⟩)
  · refine j_aload_n K 0 dX6_level_14 rfl rfl ?_
    refine jGr K 25 0 dX6_level_15 f_X6_13 rfl rfl rfl rfl ?_
    refine j_iload_n K 1 dX6_level_18 rfl rfl ?_
    refine jIald K (a) dX6_level_19 rfl rfl hx (by omega) ?_
    refine j_iload K dX6_level_20 rfl ?_
    refine j_iadd K dX6_level_22 ?_
    refine j_goto K 35 dX6_level_23 (by decide) ?_
    refine j_iret K dX6_level_35 ?_
    first
    | (rw [if_pos h_11]; exact ⟨rfl, rfl⟩)
    | (rw [if_neg h_11]; exact ⟨rfl, rfl⟩)
set_option maxRecDepth 20000 in
set_option maxHeartbeats 400000 in
theorem c_Mfind {l : Launch} {D : va_G} {ca : Nat → ClassId} {q0 : Nat} {sa : Nat → Nat} {ad : jAd} {z n a cnt : Nat} {V : jV} (x d : Int32) (hn6 : n ≤ 6) (ha : a < n) (hx : x = nI a) (hR : YR V a cnt)  : jMet l D ca q0 sa ad yX6_findTable cX6_findTable 5 none 2 0 0 [.ref (ad 20 0), .int x, .int d] (jS z n V) (jRet none (jS z n (tabY V a cnt d))) := by
  refine j_enter RX6 [some (.ref (ad 20 0)), some (.int x), some (.int d), none, none] rfl (by decide) (by simp [Value.category]) (Nat.le_of_ble_eq_true rfl) rfl ?_
  intro p e s m args below meth c K hnm hX
  obtain ⟨β, hβ⟩ : ∃ β, β = tn (behY V a cnt (1440 * d)) := ⟨_, rfl⟩
  have hβ1 : behY V a cnt (1440 * d) = nI β := by rw [hβ]; exact (bhd_nI _).1
  have hβ2 : β < 745 := by rw [hβ]; exact (bhd_nI _).2
  have lp : ∀ (k m2 : Nat) (b : Int32), m2 ≤ 1440 → 1440 < m2 + k → b = nI ((β + m2) % 745) → jW p l e (jRm 2 0 0) s m args below meth c D ca q0 ad 5 (jZ below args s D ca q0 ad 0 0 (jRet none (jS z n (tabY V a cnt d)))) 0 0 19 [some (.ref (ad 20 0)), some (.int x), some (.int d), some (.int b), some (.int (nI m2))] [] (jS z n (fT V β m2)) := by
    intro k
    induction k with
    | zero => intro m2 b hj1 hj2; exact absurd hj2 (by omega)
    | succ k ih =>
      intro m2 b hj1 hj2 hb
      have hr := Nat.mod_lt (β + m2) (show 0 < 745 by decide)
      have q0 : b = 0 ↔ (β + m2) % 745 = 0 := neq (by omega) (by decide) hb rfl
      have q1 : b = 372 ↔ (β + m2) % 745 = 372 := neq (by omega) (by decide) hb rfl
      have q2 : b = 744 ↔ (β + m2) % 745 = 744 := neq (by omega) (by decide) hb rfl
      refine j_iload K dX6_findTable_19 rfl ?_
      refine j_sipush K 1440 dX6_findTable_21 rfl ?_
      refine j_icmp_ge K 98 dX6_findTable_24 (by decide) (fun h_24 => ?_) (fun h_24 => ?_)
      · have hj9 : m2 = 1440 := by
          have q := nle1 h_24 (a := 1440) rfl rfl (by decide) (by omega)
          omega
        subst hj9
        refine j_vret K dX6_findTable_98 ?_
        exact ⟨rfl, by rw [tabY, ← hβ]⟩
      · have hj3 : m2 < 1440 := nle0 h_24 (a := 1440) rfl rfl (by decide) (by omega)
        refine j_iload_n K 3 dX6_findTable_27 rfl rfl ?_
        refine j_if_eq K 38 dX6_findTable_28 (by decide) (fun h_28 => ?_) (fun h_28 => ?_)
        · have hk4 : hk β m2 < 4 := hk_lt hβ2 hj3 (by first | exact Or.inl (q0.mp h_28) | exact Or.inr (q1.mp h_35))
          refine j_aload_n K 0 dX6_findTable_38 rfl rfl ?_
          refine jGr K 51 0 dX6_findTable_39 f_X6_77 rfl rfl rfl rfl ?_
          refine j_aload_n K 0 dX6_findTable_42 rfl rfl ?_
          refine jGi K dX6_findTable_43 f_X6_134 rfl rfl rfl ?_
          refine j_iload K dX6_findTable_46 rfl ?_
          refine jIast K ((hk β m2)) dX6_findTable_48 rfl rfl (fT_cnt _) hk4 ?_
          refine j_aload_n K 0 dX6_findTable_49 rfl rfl ?_
          refine jGr K 52 0 dX6_findTable_50 f_X6_80 rfl rfl rfl rfl ?_
          refine j_aload_n K 0 dX6_findTable_53 rfl rfl ?_
          refine jGi K dX6_findTable_54 f_X6_134 rfl rfl rfl ?_
          refine j_iload_n K 3 dX6_findTable_57 rfl rfl ?_
          refine j_if_ne K 65 dX6_findTable_58 (by decide) (fun h_58 => ?_) (fun h_58 => ?_)
          · refine j_iconst K 1 dX6_findTable_65 rfl ?_
            refine jIast K ((hk β m2)) dX6_findTable_66 rfl rfl (fT_cnt _) hk4 ?_
            refine j_aload_n K 0 dX6_findTable_67 rfl rfl ?_
            refine j_dup K dX6_findTable_68 rfl ?_
            refine jGi K dX6_findTable_69 f_X6_134 rfl rfl rfl ?_
            refine j_iconst K 1 dX6_findTable_72 rfl ?_
            refine j_iadd K dX6_findTable_73 ?_
            refine jPi K dX6_findTable_74 fo_X6_134 rfl rfl rfl rfl (Or.inl rfl) ?_
            refine j_iload_n K 3 dX6_findTable_77 rfl rfl ?_
            refine j_sipush K 744 dX6_findTable_78 rfl ?_
            refine j_icmp_ne K 88 dX6_findTable_81 (by decide) (fun h_81 => ?_) (fun h_81 => ?_)
            · refine j_iload_n K 3 dX6_findTable_88 rfl rfl ?_
              refine j_iconst K 1 dX6_findTable_89 rfl ?_
              refine j_iadd K dX6_findTable_90 ?_
              refine j_istore_n K 3 dX6_findTable_91 rfl (by decide) ?_
              refine j_iinc (v := nI (m2 + 1)) K dX6_findTable_92 rfl (by decide) (nI_1 _) ?_
              refine j_goto K 19 dX6_findTable_95 (by decide) ?_
              first
              | exact False.elim (absurd (h_28.symm.trans h_81) (by decide))
              | exact False.elim (absurd (h_35.symm.trans h_81) (by decide))
              | exact False.elim (h_58 h_28)
              | exact False.elim (absurd (h_28.symm.trans h_35) (by decide))
              | exact False.elim (absurd (h_58.symm.trans h_35) (by decide))
              | exact False.elim (h_28 h_58)
              | (refine j_eqV (V' := fT V β (m2 + 1)) (fun k1 k2 k3 => ?_) (ih (m2 + 1) _ (by omega) (by omega) ?_)
                 · first
                   | (rw [fT_0 (q0.mp h_28)]; rfl)
                   | (rw [fT_1 (q1.mp h_35)]; rfl)
                   | rw [fT_n (fun q => h_28 (q0.mpr q)) (fun q => h_35 (q1.mpr q))]
                 · first
                   | exact nxt_0 (q2.mp h_81)
                   | exact nxt_1 hb (fun q => h_81 (q2.mpr q)))
            · refine j_iconst K 0 dX6_findTable_84 rfl ?_
              refine j_goto K 91 dX6_findTable_85 (by decide) ?_
              refine j_istore_n K 3 dX6_findTable_91 rfl (by decide) ?_
              refine j_iinc (v := nI (m2 + 1)) K dX6_findTable_92 rfl (by decide) (nI_1 _) ?_
              refine j_goto K 19 dX6_findTable_95 (by decide) ?_
              first
              | exact False.elim (absurd (h_28.symm.trans h_81) (by decide))
              | exact False.elim (absurd (h_35.symm.trans h_81) (by decide))
              | exact False.elim (h_58 h_28)
              | exact False.elim (absurd (h_28.symm.trans h_35) (by decide))
              | exact False.elim (absurd (h_58.symm.trans h_35) (by decide))
              | exact False.elim (h_28 h_58)
              | (refine j_eqV (V' := fT V β (m2 + 1)) (fun k1 k2 k3 => ?_) (ih (m2 + 1) _ (by omega) (by omega) ?_)
                 · first
                   | (rw [fT_0 (q0.mp h_28)]; rfl)
                   | (rw [fT_1 (q1.mp h_35)]; rfl)
                   | rw [fT_n (fun q => h_28 (q0.mpr q)) (fun q => h_35 (q1.mpr q))]
                 · first
                   | exact nxt_0 (q2.mp h_81)
                   | exact nxt_1 hb (fun q => h_81 (q2.mpr q)))
          · refine j_iconst K 0 dX6_findTable_61 rfl ?_
            refine j_goto K 66 dX6_findTable_62 (by decide) ?_
            refine jIast K ((hk β m2)) dX6_findTable_66 rfl rfl (fT_cnt _) hk4 ?_
            refine j_aload_n K 0 dX6_findTable_67 rfl rfl ?_
            refine j_dup K dX6_findTable_68 rfl ?_
            refine jGi K dX6_findTable_69 f_X6_134 rfl rfl rfl ?_
            refine j_iconst K 1 dX6_findTable_72 rfl ?_
            refine j_iadd K dX6_findTable_73 ?_
            refine jPi K dX6_findTable_74 fo_X6_134 rfl rfl rfl rfl (Or.inl rfl) ?_
            refine j_iload_n K 3 dX6_findTable_77 rfl rfl ?_
            refine j_sipush K 744 dX6_findTable_78 rfl ?_
            refine j_icmp_ne K 88 dX6_findTable_81 (by decide) (fun h_81 => ?_) (fun h_81 => ?_)
            · refine j_iload_n K 3 dX6_findTable_88 rfl rfl ?_
              refine j_iconst K 1 dX6_findTable_89 rfl ?_
              refine j_iadd K dX6_findTable_90 ?_
              refine j_istore_n K 3 dX6_findTable_91 rfl (by decide) ?_
              refine j_iinc (v := nI (m2 + 1)) K dX6_findTable_92 rfl (by decide) (nI_1 _) ?_
              refine j_goto K 19 dX6_findTable_95 (by decide) ?_
              first
              | exact False.elim (absurd (h_28.symm.trans h_81) (by decide))
              | exact False.elim (absurd (h_35.symm.trans h_81) (by decide))
              | exact False.elim (h_58 h_28)
              | exact False.elim (absurd (h_28.symm.trans h_35) (by decide))
              | exact False.elim (absurd (h_58.symm.trans h_35) (by decide))
              | exact False.elim (h_28 h_58)
              | (refine j_eqV (V' := fT V β (m2 + 1)) (fun k1 k2 k3 => ?_) (ih (m2 + 1) _ (by omega) (by omega) ?_)
                 · first
                   | (rw [fT_0 (q0.mp h_28)]; rfl)
                   | (rw [fT_1 (q1.mp h_35)]; rfl)
                   | rw [fT_n (fun q => h_28 (q0.mpr q)) (fun q => h_35 (q1.mpr q))]
                 · first
                   | exact nxt_0 (q2.mp h_81)
                   | exact nxt_1 hb (fun q => h_81 (q2.mpr q)))
            · refine j_iconst K 0 dX6_findTable_84 rfl ?_
              refine j_goto K 91 dX6_findTable_85 (by decide) ?_
              refine j_istore_n K 3 dX6_findTable_91 rfl (by decide) ?_
              refine j_iinc (v := nI (m2 + 1)) K dX6_findTable_92 rfl (by decide) (nI_1 _) ?_
              refine j_goto K 19 dX6_findTable_95 (by decide) ?_
              first
              | exact False.elim (absurd (h_28.symm.trans h_81) (by decide))
              | exact False.elim (absurd (h_35.symm.trans h_81) (by decide))
              | exact False.elim (h_58 h_28)
              | exact False.elim (absurd (h_28.symm.trans h_35) (by decide))
              | exact False.elim (absurd (h_58.symm.trans h_35) (by decide))
              | exact False.elim (h_28 h_58)
              | (refine j_eqV (V' := fT V β (m2 + 1)) (fun k1 k2 k3 => ?_) (ih (m2 + 1) _ (by omega) (by omega) ?_)
                 · first
                   | (rw [fT_0 (q0.mp h_28)]; rfl)
                   | (rw [fT_1 (q1.mp h_35)]; rfl)
                   | rw [fT_n (fun q => h_28 (q0.mpr q)) (fun q => h_35 (q1.mpr q))]
                 · first
                   | exact nxt_0 (q2.mp h_81)
                   | exact nxt_1 hb (fun q => h_81 (q2.mpr q)))
        · refine j_iload_n K 3 dX6_findTable_31 rfl rfl ?_
          refine j_sipush K 372 dX6_findTable_32 rfl ?_
          refine j_icmp_ne K 77 dX6_findTable_35 (by decide) (fun h_35 => ?_) (fun h_35 => ?_)
          · refine j_iload_n K 3 dX6_findTable_77 rfl rfl ?_
            refine j_sipush K 744 dX6_findTable_78 rfl ?_
            refine j_icmp_ne K 88 dX6_findTable_81 (by decide) (fun h_81 => ?_) (fun h_81 => ?_)
            · refine j_iload_n K 3 dX6_findTable_88 rfl rfl ?_
              refine j_iconst K 1 dX6_findTable_89 rfl ?_
              refine j_iadd K dX6_findTable_90 ?_
              refine j_istore_n K 3 dX6_findTable_91 rfl (by decide) ?_
              refine j_iinc (v := nI (m2 + 1)) K dX6_findTable_92 rfl (by decide) (nI_1 _) ?_
              refine j_goto K 19 dX6_findTable_95 (by decide) ?_
              first
              | exact False.elim (absurd (h_28.symm.trans h_81) (by decide))
              | exact False.elim (absurd (h_35.symm.trans h_81) (by decide))
              | exact False.elim (h_58 h_28)
              | exact False.elim (absurd (h_28.symm.trans h_35) (by decide))
              | exact False.elim (absurd (h_58.symm.trans h_35) (by decide))
              | exact False.elim (h_28 h_58)
              | (refine j_eqV (V' := fT V β (m2 + 1)) (fun k1 k2 k3 => ?_) (ih (m2 + 1) _ (by omega) (by omega) ?_)
                 · first
                   | (rw [fT_0 (q0.mp h_28)]; rfl)
                   | (rw [fT_1 (q1.mp h_35)]; rfl)
                   | rw [fT_n (fun q => h_28 (q0.mpr q)) (fun q => h_35 (q1.mpr q))]
                 · first
                   | exact nxt_0 (q2.mp h_81)
                   | exact nxt_1 hb (fun q => h_81 (q2.mpr q)))
            · refine j_iconst K 0 dX6_findTable_84 rfl ?_
              refine j_goto K 91 dX6_findTable_85 (by decide) ?_
              refine j_istore_n K 3 dX6_findTable_91 rfl (by decide) ?_
              refine j_iinc (v := nI (m2 + 1)) K dX6_findTable_92 rfl (by decide) (nI_1 _) ?_
              refine j_goto K 19 dX6_findTable_95 (by decide) ?_
              first
              | exact False.elim (absurd (h_28.symm.trans h_81) (by decide))
              | exact False.elim (absurd (h_35.symm.trans h_81) (by decide))
              | exact False.elim (h_58 h_28)
              | exact False.elim (absurd (h_28.symm.trans h_35) (by decide))
              | exact False.elim (absurd (h_58.symm.trans h_35) (by decide))
              | exact False.elim (h_28 h_58)
              | (refine j_eqV (V' := fT V β (m2 + 1)) (fun k1 k2 k3 => ?_) (ih (m2 + 1) _ (by omega) (by omega) ?_)
                 · first
                   | (rw [fT_0 (q0.mp h_28)]; rfl)
                   | (rw [fT_1 (q1.mp h_35)]; rfl)
                   | rw [fT_n (fun q => h_28 (q0.mpr q)) (fun q => h_35 (q1.mpr q))]
                 · first
                   | exact nxt_0 (q2.mp h_81)
                   | exact nxt_1 hb (fun q => h_81 (q2.mpr q)))
          · have hk4 : hk β m2 < 4 := hk_lt hβ2 hj3 (by first | exact Or.inl (q0.mp h_28) | exact Or.inr (q1.mp h_35))
            refine j_aload_n K 0 dX6_findTable_38 rfl rfl ?_
            refine jGr K 51 0 dX6_findTable_39 f_X6_77 rfl rfl rfl rfl ?_
            refine j_aload_n K 0 dX6_findTable_42 rfl rfl ?_
            refine jGi K dX6_findTable_43 f_X6_134 rfl rfl rfl ?_
            refine j_iload K dX6_findTable_46 rfl ?_
            refine jIast K ((hk β m2)) dX6_findTable_48 rfl rfl (fT_cnt _) hk4 ?_
            refine j_aload_n K 0 dX6_findTable_49 rfl rfl ?_
            refine jGr K 52 0 dX6_findTable_50 f_X6_80 rfl rfl rfl rfl ?_
            refine j_aload_n K 0 dX6_findTable_53 rfl rfl ?_
            refine jGi K dX6_findTable_54 f_X6_134 rfl rfl rfl ?_
            refine j_iload_n K 3 dX6_findTable_57 rfl rfl ?_
            refine j_if_ne K 65 dX6_findTable_58 (by decide) (fun h_58 => ?_) (fun h_58 => ?_)
            · refine j_iconst K 1 dX6_findTable_65 rfl ?_
              refine jIast K ((hk β m2)) dX6_findTable_66 rfl rfl (fT_cnt _) hk4 ?_
              refine j_aload_n K 0 dX6_findTable_67 rfl rfl ?_
              refine j_dup K dX6_findTable_68 rfl ?_
              refine jGi K dX6_findTable_69 f_X6_134 rfl rfl rfl ?_
              refine j_iconst K 1 dX6_findTable_72 rfl ?_
              refine j_iadd K dX6_findTable_73 ?_
              refine jPi K dX6_findTable_74 fo_X6_134 rfl rfl rfl rfl (Or.inl rfl) ?_
              refine j_iload_n K 3 dX6_findTable_77 rfl rfl ?_
              refine j_sipush K 744 dX6_findTable_78 rfl ?_
              refine j_icmp_ne K 88 dX6_findTable_81 (by decide) (fun h_81 => ?_) (fun h_81 => ?_)
              · refine j_iload_n K 3 dX6_findTable_88 rfl rfl ?_
                refine j_iconst K 1 dX6_findTable_89 rfl ?_
                refine j_iadd K dX6_findTable_90 ?_
                refine j_istore_n K 3 dX6_findTable_91 rfl (by decide) ?_
                refine j_iinc (v := nI (m2 + 1)) K dX6_findTable_92 rfl (by decide) (nI_1 _) ?_
                refine j_goto K 19 dX6_findTable_95 (by decide) ?_
                first
                | exact False.elim (absurd (h_28.symm.trans h_81) (by decide))
                | exact False.elim (absurd (h_35.symm.trans h_81) (by decide))
                | exact False.elim (h_58 h_28)
                | exact False.elim (absurd (h_28.symm.trans h_35) (by decide))
                | exact False.elim (absurd (h_58.symm.trans h_35) (by decide))
                | exact False.elim (h_28 h_58)
                | (refine j_eqV (V' := fT V β (m2 + 1)) (fun k1 k2 k3 => ?_) (ih (m2 + 1) _ (by omega) (by omega) ?_)
                   · first
                     | (rw [fT_0 (q0.mp h_28)]; rfl)
                     | (rw [fT_1 (q1.mp h_35)]; rfl)
                     | rw [fT_n (fun q => h_28 (q0.mpr q)) (fun q => h_35 (q1.mpr q))]
                   · first
                     | exact nxt_0 (q2.mp h_81)
                     | exact nxt_1 hb (fun q => h_81 (q2.mpr q)))
              · refine j_iconst K 0 dX6_findTable_84 rfl ?_
                refine j_goto K 91 dX6_findTable_85 (by decide) ?_
                refine j_istore_n K 3 dX6_findTable_91 rfl (by decide) ?_
                refine j_iinc (v := nI (m2 + 1)) K dX6_findTable_92 rfl (by decide) (nI_1 _) ?_
                refine j_goto K 19 dX6_findTable_95 (by decide) ?_
                first
                | exact False.elim (absurd (h_28.symm.trans h_81) (by decide))
                | exact False.elim (absurd (h_35.symm.trans h_81) (by decide))
                | exact False.elim (h_58 h_28)
                | exact False.elim (absurd (h_28.symm.trans h_35) (by decide))
                | exact False.elim (absurd (h_58.symm.trans h_35) (by decide))
                | exact False.elim (h_28 h_58)
                | (refine j_eqV (V' := fT V β (m2 + 1)) (fun k1 k2 k3 => ?_) (ih (m2 + 1) _ (by omega) (by omega) ?_)
                   · first
                     | (rw [fT_0 (q0.mp h_28)]; rfl)
                     | (rw [fT_1 (q1.mp h_35)]; rfl)
                     | rw [fT_n (fun q => h_28 (q0.mpr q)) (fun q => h_35 (q1.mpr q))]
                   · first
                     | exact nxt_0 (q2.mp h_81)
                     | exact nxt_1 hb (fun q => h_81 (q2.mpr q)))
            · refine j_iconst K 0 dX6_findTable_61 rfl ?_
              refine j_goto K 66 dX6_findTable_62 (by decide) ?_
              refine jIast K ((hk β m2)) dX6_findTable_66 rfl rfl (fT_cnt _) hk4 ?_
              refine j_aload_n K 0 dX6_findTable_67 rfl rfl ?_
              refine j_dup K dX6_findTable_68 rfl ?_
              refine jGi K dX6_findTable_69 f_X6_134 rfl rfl rfl ?_
              refine j_iconst K 1 dX6_findTable_72 rfl ?_
              refine j_iadd K dX6_findTable_73 ?_
              refine jPi K dX6_findTable_74 fo_X6_134 rfl rfl rfl rfl (Or.inl rfl) ?_
              refine j_iload_n K 3 dX6_findTable_77 rfl rfl ?_
              refine j_sipush K 744 dX6_findTable_78 rfl ?_
              refine j_icmp_ne K 88 dX6_findTable_81 (by decide) (fun h_81 => ?_) (fun h_81 => ?_)
              · refine j_iload_n K 3 dX6_findTable_88 rfl rfl ?_
                refine j_iconst K 1 dX6_findTable_89 rfl ?_
                refine j_iadd K dX6_findTable_90 ?_
                refine j_istore_n K 3 dX6_findTable_91 rfl (by decide) ?_
                refine j_iinc (v := nI (m2 + 1)) K dX6_findTable_92 rfl (by decide) (nI_1 _) ?_
                refine j_goto K 19 dX6_findTable_95 (by decide) ?_
                first
                | exact False.elim (absurd (h_28.symm.trans h_81) (by decide))
                | exact False.elim (absurd (h_35.symm.trans h_81) (by decide))
                | exact False.elim (h_58 h_28)
                | exact False.elim (absurd (h_28.symm.trans h_35) (by decide))
                | exact False.elim (absurd (h_58.symm.trans h_35) (by decide))
                | exact False.elim (h_28 h_58)
                | (refine j_eqV (V' := fT V β (m2 + 1)) (fun k1 k2 k3 => ?_) (ih (m2 + 1) _ (by omega) (by omega) ?_)
                   · first
                     | (rw [fT_0 (q0.mp h_28)]; rfl)
                     | (rw [fT_1 (q1.mp h_35)]; rfl)
                     | rw [fT_n (fun q => h_28 (q0.mpr q)) (fun q => h_35 (q1.mpr q))]
                   · first
                     | exact nxt_0 (q2.mp h_81)
                     | exact nxt_1 hb (fun q => h_81 (q2.mpr q)))
              · refine j_iconst K 0 dX6_findTable_84 rfl ?_
                refine j_goto K 91 dX6_findTable_85 (by decide) ?_
                refine j_istore_n K 3 dX6_findTable_91 rfl (by decide) ?_
                refine j_iinc (v := nI (m2 + 1)) K dX6_findTable_92 rfl (by decide) (nI_1 _) ?_
                refine j_goto K 19 dX6_findTable_95 (by decide) ?_
                first
                | exact False.elim (absurd (h_28.symm.trans h_81) (by decide))
                | exact False.elim (absurd (h_35.symm.trans h_81) (by decide))
                | exact False.elim (h_58 h_28)
                | exact False.elim (absurd (h_28.symm.trans h_35) (by decide))
                | exact False.elim (absurd (h_58.symm.trans h_35) (by decide))
                | exact False.elim (h_28 h_58)
                | (refine j_eqV (V' := fT V β (m2 + 1)) (fun k1 k2 k3 => ?_) (ih (m2 + 1) _ (by omega) (by omega) ?_)
                   · first
                     | (rw [fT_0 (q0.mp h_28)]; rfl)
                     | (rw [fT_1 (q1.mp h_35)]; rfl)
                     | rw [fT_n (fun q => h_28 (q0.mpr q)) (fun q => h_35 (q1.mpr q))]
                   · first
                     | exact nxt_0 (q2.mp h_81)
                     | exact nxt_1 hb (fun q => h_81 (q2.mpr q)))
  refine j_aload_n K 0 dX6_findTable_0 rfl rfl ?_
  refine j_iconst K 0 dX6_findTable_1 rfl ?_
  refine jPi K dX6_findTable_2 fo_X6_134 rfl rfl rfl rfl (Or.inl rfl) ?_
  refine j_aload_n K 0 dX6_findTable_5 rfl rfl ?_
  refine j_iload_n K 1 dX6_findTable_6 rfl rfl ?_
  refine j_sipush K 1440 dX6_findTable_7 rfl ?_
  refine j_iload_n K 2 dX6_findTable_10 rfl rfl ?_
  refine j_imul K dX6_findTable_11 ?_
  refine j_cV2r K dX6_findTable_12 m_X6_behind v_X6_behind k_X6_137 rfl ⟨by decide, rfl⟩ rfl (c_Mbeh _ _ hn6 ha hx hR) (Nat.le_of_ble_eq_true rfl) ⟨by decide, by decide⟩ (by decide) (by decide) ?_
  refine j_istore_n K 3 dX6_findTable_15 rfl (by decide) ?_
  refine j_iconst K 0 dX6_findTable_16 rfl ?_
  refine j_istore K dX6_findTable_17 (by decide) ?_
  exact lp 1441 0 _ (by omega) (by omega) (by rw [Nat.add_zero, Nat.mod_eq_of_lt hβ2]; exact hβ1)
