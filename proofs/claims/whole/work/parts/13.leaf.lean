theorem lvt6 (n : Nat) : LV n 6 6 = true := by simp [LV]
def tn (x : Int32) : Nat := x.toNatClampNeg
theorem tn_nI {n : Nat} (h : n < 2 ^ 31) : tn (nI n) = n := nI_clamp h
theorem tn_of {x : Int32} {b : Nat} (hb : b ≤ 2 ^ 31) (h : ∃ f, f < b ∧ x = nI f) : x = nI (tn x) ∧ tn x < b := by
  obtain ⟨f, h1, rfl⟩ := h
  rw [tn_nI (by omega)]
  exact ⟨rfl, h1⟩
theorem nle {a b : Nat} (ha : a < 2 ^ 31) (hb : b < 2 ^ 31) {x y : Int32} (hx : x = nI a) (hy : y = nI b) : x ≤ y ↔ a ≤ b := by rw [hx, hy, nI_leI ha hb]
theorem nlt {a b : Nat} (ha : a < 2 ^ 31) (hb : b < 2 ^ 31) {x y : Int32} (hx : x = nI a) (hy : y = nI b) : x < y ↔ a < b := by rw [hx, hy, nI_ltI ha hb]
theorem nle1 {x y : Int32} {a b : Nat} (h : x ≤ y) (hx : x = nI a) (hy : y = nI b) (ha : a < 2 ^ 31) (hb : b < 2 ^ 31) : a ≤ b := (nle ha hb hx hy).mp h
theorem nle0 {x y : Int32} {a b : Nat} (h : ¬ x ≤ y) (hx : x = nI a) (hy : y = nI b) (ha : a < 2 ^ 31) (hb : b < 2 ^ 31) : b < a := by
  rcases Nat.lt_or_ge b a with q | q
  · exact q
  · exact absurd ((nle ha hb hx hy).mpr q) h
theorem nlt1 {x y : Int32} {a b : Nat} (h : x < y) (hx : x = nI a) (hy : y = nI b) (ha : a < 2 ^ 31) (hb : b < 2 ^ 31) : a < b := (nlt ha hb hx hy).mp h
theorem nlt0 {x y : Int32} {a b : Nat} (h : ¬ x < y) (hx : x = nI a) (hy : y = nI b) (ha : a < 2 ^ 31) (hb : b < 2 ^ 31) : b ≤ a := by
  rcases Nat.lt_or_ge a b with q | q
  · exact absurd ((nlt ha hb hx hy).mpr q) h
  · exact q
theorem nI_neg1 {n : Nat} (h : n < 2 ^ 31) : ¬ nI n = -1 := by
  intro e
  have := nI_pos' h
  rw [e] at this; exact absurd this (by decide)
theorem neq {a b : Nat} (ha : a < 2 ^ 31) (hb : b < 2 ^ 31) {x y : Int32} (hx : x = nI a) (hy : y = nI b) : x = y ↔ a = b := by rw [hx, hy, nI_eq ha hb]
/-- Math.floorMod as its bytecode has it -/
def fmod (x y : Int32) : Int32 := if 0 ≤ x ^^^ y then x - x / y * y else if x - x / y * y = 0 then x - x / y * y else x - x / y * y + y
set_option maxRecDepth 20000 in
set_option maxHeartbeats 400000 in
theorem c_floorMod {l : Launch} {D : va_G} {ca : Nat → ClassId} {q0 : Nat} {sa : Nat → Nat} {ad : jAd} {M : jM} (x y : Int32) (hy : ¬ y = 0) : jMet l D ca q0 sa ad yJ9_floorMod_7cf53 cJ9_floorMod_7cf53 3 (some .int) 0 0 0 [.int x, .int y] (M) (jRet (some (.int (fmod x y))) M) := by
  refine j_enterF RJ9 [some (.int x), some (.int y), none] rfl (by decide +kernel) (by simp [Value.category]) (Nat.le_of_ble_eq_true rfl) rfl ?_
  intro p e s m args below meth c K
  refine j_iload_n K 0 dJ9_floorMod_7cf53_0 rfl rfl ?_
  refine j_iload_n K 1 dJ9_floorMod_7cf53_1 rfl rfl ?_
  refine j_irem K dJ9_floorMod_7cf53_2 hy ?_
  refine j_istore_n K 2 dJ9_floorMod_7cf53_3 rfl (by decide) ?_
  refine j_iload_n K 0 dJ9_floorMod_7cf53_4 rfl rfl ?_
  refine j_iload_n K 1 dJ9_floorMod_7cf53_5 rfl rfl ?_
  refine j_ixor K dJ9_floorMod_7cf53_6 ?_
  refine j_if_ge K 18 dJ9_floorMod_7cf53_7 (by decide) (fun h_7 => ?_) (fun h_7 => ?_)
  · refine j_iload_n K 2 dJ9_floorMod_7cf53_18 rfl rfl ?_
    refine j_iret K dJ9_floorMod_7cf53_19 ?_
    first
    | exact ⟨by unfold fmod; rw [if_pos h_7], rfl⟩
    | exact ⟨by unfold fmod; rw [if_neg h_7, if_pos h_11], rfl⟩
  · refine j_iload_n K 2 dJ9_floorMod_7cf53_10 rfl rfl ?_
    refine j_if_eq K 18 dJ9_floorMod_7cf53_11 (by decide) (fun h_11 => ?_) (fun h_11 => ?_)
    · refine j_iload_n K 2 dJ9_floorMod_7cf53_18 rfl rfl ?_
      refine j_iret K dJ9_floorMod_7cf53_19 ?_
      first
      | exact ⟨by unfold fmod; rw [if_pos h_7], rfl⟩
      | exact ⟨by unfold fmod; rw [if_neg h_7, if_pos h_11], rfl⟩
    · refine j_iload_n K 2 dJ9_floorMod_7cf53_14 rfl rfl ?_
      refine j_iload_n K 1 dJ9_floorMod_7cf53_15 rfl rfl ?_
      refine j_iadd K dJ9_floorMod_7cf53_16 ?_
      refine j_iret K dJ9_floorMod_7cf53_17 ?_
      exact ⟨by unfold fmod; rw [if_neg h_7, if_neg h_11], rfl⟩
def moonOf (d : Int32) : Int32 := 4 * d - 4 * d / 118 * 118
set_option maxRecDepth 20000 in
set_option maxHeartbeats 400000 in
theorem c_X5_moonAgeOn {l : Launch} {D : va_G} {ca : Nat → ClassId} {q0 : Nat} {sa : Nat → Nat} {ad : jAd} {M : jM} (x : Int32) : jMet l D ca q0 sa ad yX5_moonAgeOn cX5_moonAgeOn 1 (some .int) 0 0 0 [.int x] (M) (jRet (some (.int (moonOf x))) M) := by
  refine j_enter RX5 [some (.int x)] rfl (by decide) (by simp [Value.category]) (Nat.le_of_ble_eq_true rfl) rfl ?_
  intro p e s m args below meth c K hnm hX
  refine j_iconst K 4 dX5_moonAgeOn_0 rfl ?_
  refine j_iload_n K 0 dX5_moonAgeOn_1 rfl rfl ?_
  refine j_imul K dX5_moonAgeOn_2 ?_
  refine j_bipush K 118 dX5_moonAgeOn_3 rfl ?_
  refine j_irem K dX5_moonAgeOn_5 (by decide) ?_
  refine j_iret K dX5_moonAgeOn_6 ?_
  exact ⟨rfl, rfl⟩
def distOf (d : Int32) : Int32 := let r := moonOf d - moonOf d / 59 * 59; if 59 - r < r then 59 - r else r
def rangeX (V : jV) (i : Nat) (d : Int32) : Int32 := V 10 i 2 - (V 10 i 2 - V 10 i 3) * distOf d / 29
set_option maxRecDepth 20000 in
set_option maxHeartbeats 400000 in
theorem c_X1_rangeOn {l : Launch} {D : va_G} {ca : Nat → ClassId} {q0 : Nat} {sa : Nat → Nat} {ad : jAd} {z n i : Nat} {V : jV} (x : Int32) (hl : decide (i < n) = true) : jMet l D ca q0 sa ad yX1_rangeOn cX1_rangeOn 4 (some .int) 1 0 0 [.ref (ad 10 i), .int x] (jS z n V) (jRet (some (.int (rangeX V i x))) (jS z n V)) := by
  refine j_enter RX1 [some (.ref (ad 10 i)), some (.int x), none, none] rfl (by decide) (by simp [Value.category]) (Nat.le_of_ble_eq_true rfl) rfl ?_
  intro p e s m args below meth c K hnm hX
  refine j_iload_n K 1 dX1_rangeOn_0 rfl rfl ?_
  refine j_cSN1r K dX1_rangeOn_1 m_X5_moonAgeOn s_X5_moonAgeOn kn_X1_43 (c_X5_moonAgeOn x) (Nat.le_of_ble_eq_true rfl) ⟨by decide, by decide⟩ (by decide) (by decide) ?_
  refine j_bipush K 59 dX1_rangeOn_4 rfl ?_
  refine j_irem K dX1_rangeOn_6 (by decide) ?_
  refine j_istore_n K 2 dX1_rangeOn_7 rfl (by decide) ?_
  refine j_iload_n K 2 dX1_rangeOn_8 rfl rfl ?_
  refine j_bipush K 59 dX1_rangeOn_9 rfl ?_
  refine j_iload_n K 2 dX1_rangeOn_11 rfl rfl ?_
  refine j_isub K dX1_rangeOn_12 ?_
  refine j_mmin K dX1_rangeOn_13 k_X1_47 (Nat.le_of_ble_eq_true rfl) ⟨by decide, by decide⟩ ?_
  refine j_istore_n K 3 dX1_rangeOn_16 rfl (by decide) ?_
  refine j_aload_n K 0 dX1_rangeOn_17 rfl rfl ?_
  refine jGi K dX1_rangeOn_18 f_X1_25 rfl hl rfl ?_
  refine j_aload_n K 0 dX1_rangeOn_21 rfl rfl ?_
  refine jGi K dX1_rangeOn_22 f_X1_25 rfl hl rfl ?_
  refine j_aload_n K 0 dX1_rangeOn_25 rfl rfl ?_
  refine jGi K dX1_rangeOn_26 f_X1_28 rfl hl rfl ?_
  refine j_isub K dX1_rangeOn_29 ?_
  refine j_iload_n K 3 dX1_rangeOn_30 rfl rfl ?_
  refine j_imul K dX1_rangeOn_31 ?_
  refine j_bipush K 29 dX1_rangeOn_32 rfl ?_
  refine j_idiv K dX1_rangeOn_34 (by decide) ?_
  refine j_isub K dX1_rangeOn_35 ?_
  refine j_iret K dX1_rangeOn_36 ?_
  exact ⟨rfl, rfl⟩
/-- the weighted sum and the weights of the first j reports -/
def cSum (a w : Nat → Int32) : Nat → Int32
  | 0 => 0
  | j + 1 => cSum a w j + a j * w j
def cAll (w : Nat → Int32) : Nat → Int32
  | 0 => 0
  | j + 1 => cAll w j + w j
def corr (a w : Nat → Int32) (c : Nat) : Int32 := if cAll w c = 0 then 0 else cSum a w c / cAll w c
/-- the minutes and the trusts of the reports for the pier i -/
def xmin (V : jV) (i : Nat) : Nat → Int32 := fun j => V 13 i j
def xtru (V : jV) (i : Nat) : Nat → Int32 := fun j => V 2 0 (tn (V 12 i j))
set_option maxRecDepth 20000 in
set_option maxHeartbeats 400000 in
theorem c_X2_correction {l : Launch} {D : va_G} {ca : Nat → ClassId} {q0 : Nat} {sa : Nat → Nat} {ad : jAd} {z n i : Nat} {V : jV} {cnt : Nat} (hl : decide (i < n) = true) (hc : V 11 i 3 = nI cnt) (hcnt : cnt ≤ 6) (hf : ∀ j, j < cnt → ∃ f, f < 6 ∧ V 12 i j = nI f) : jMet l D ca q0 sa ad yX2_correction cX2_correction 5 (some .int) 0 0 0 [.ref (ad 11 i)] (jS z n V) (jRet (some (.int (corr (xmin V i) (xtru V i) cnt))) (jS z n V)) := by
  refine j_enter RX2 [some (.ref (ad 11 i)), none, none, none, none] rfl (by decide) (by simp [Value.category]) (Nat.le_of_ble_eq_true rfl) rfl ?_
  intro p e s m args below meth c K hnm hX
  have lp : ∀ (k j : Nat) (w4 : Option Value), j ≤ cnt → cnt < j + k → jW p l e (jRm 0 0 0) s m args below meth c D ca q0 ad 5 (jZ below args s D ca q0 ad 0 0 (jRet (some (.int (corr (xmin V i) (xtru V i) cnt))) (jS z n V))) 0 0 6 [some (.ref (ad 11 i)), some (.int (cSum (xmin V i) (xtru V i) j)), some (.int (cAll (xtru V i) j)), some (.int (nI j)), w4] [] (jS z n V) := by
    intro k
    induction k with
    | zero => intro j w4 hj1 hj2; exact absurd hj2 (by omega)
    | succ k ih =>
      intro j w4 hj1 hj2 
      refine j_iload_n K 3 dX2_correction_6 rfl rfl ?_
      refine j_aload_n K 0 dX2_correction_7 rfl rfl ?_
      refine jGi K dX2_correction_8 f_X2_21 rfl hl rfl ?_
      refine j_icmp_ge K 50 dX2_correction_11 (by decide) (fun h_11 => ?_) (fun h_11 => ?_)
      · have hj : j = cnt := by rw [nle (by omega) (by omega) hc rfl] at h_11; omega
        subst hj
        refine j_iload_n K 2 dX2_correction_50 rfl rfl ?_
        refine j_if_ne K 58 dX2_correction_51 (by decide) (fun h_51 => ?_) (fun h_51 => ?_)
        · refine j_iload_n K 1 dX2_correction_58 rfl rfl ?_
          refine j_iload_n K 2 dX2_correction_59 rfl rfl ?_
          refine j_idiv K dX2_correction_60 h_51 ?_
          refine j_iret K dX2_correction_61 ?_
          first
          | exact ⟨by unfold corr; rw [if_pos h_51], rfl⟩
          | exact ⟨by unfold corr; rw [if_neg h_51], rfl⟩
        · refine j_iconst K 0 dX2_correction_54 rfl ?_
          refine j_goto K 61 dX2_correction_55 (by decide) ?_
          refine j_iret K dX2_correction_61 ?_
          first
          | exact ⟨by unfold corr; rw [if_pos h_51], rfl⟩
          | exact ⟨by unfold corr; rw [if_neg h_51], rfl⟩
      · have hj3 : j < cnt := by rw [nle (by omega) (by omega) hc rfl] at h_11; omega
        refine j_aload_n K 0 dX2_correction_14 rfl rfl ?_
        refine jGr K 2 0 dX2_correction_15 f_X2_25 rfl hl rfl rfl ?_
        refine j_aload_n K 0 dX2_correction_18 rfl rfl ?_
        refine jGr K 12 i dX2_correction_19 f_X2_9 rfl hl rfl rfl ?_
        refine j_iload_n K 3 dX2_correction_22 rfl rfl ?_
        refine jIald K (j) dX2_correction_23 rfl hl rfl (by omega) ?_
        refine jIald K (tn (V 12 i j)) dX2_correction_24 rfl rfl (tn_of (by decide) (hf j (by omega))).1 (tn_of (by decide) (hf j (by omega))).2 ?_
        refine j_istore K dX2_correction_25 (by decide) ?_
        refine j_iload_n K 1 dX2_correction_27 rfl rfl ?_
        refine j_aload_n K 0 dX2_correction_28 rfl rfl ?_
        refine jGr K 13 i dX2_correction_29 f_X2_15 rfl hl rfl rfl ?_
        refine j_iload_n K 3 dX2_correction_32 rfl rfl ?_
        refine jIald K (j) dX2_correction_33 rfl hl rfl (by omega) ?_
        refine j_iload K dX2_correction_34 rfl ?_
        refine j_imul K dX2_correction_36 ?_
        refine j_iadd K dX2_correction_37 ?_
        refine j_istore_n K 1 dX2_correction_38 rfl (by decide) ?_
        refine j_iload_n K 2 dX2_correction_39 rfl rfl ?_
        refine j_iload K dX2_correction_40 rfl ?_
        refine j_iadd K dX2_correction_42 ?_
        refine j_istore_n K 2 dX2_correction_43 rfl (by decide) ?_
        refine j_iinc (v := nI (j + 1)) K dX2_correction_44 rfl (by decide) (nI_1 _) ?_
        refine j_goto K 6 dX2_correction_47 (by decide) ?_
        exact ih (j + 1) _ (by omega) (by omega)
  refine j_iconst K 0 dX2_correction_0 rfl ?_
  refine j_istore_n K 1 dX2_correction_1 rfl (by decide) ?_
  refine j_iconst K 0 dX2_correction_2 rfl ?_
  refine j_istore_n K 2 dX2_correction_3 rfl (by decide) ?_
  refine j_iconst K 0 dX2_correction_4 rfl ?_
  refine j_istore_n K 3 dX2_correction_5 rfl (by decide) ?_
  exact lp (cnt + 1) 0 none (by omega) (by omega)
def mthX (V : jV) (i cnt : Nat) (d m : Int32) : Int32 := fmod (V 10 i 0 + corr (xmin V i) (xtru V i) cnt - (1440 * d + m)) 745
set_option maxRecDepth 20000 in
set_option maxHeartbeats 400000 in
theorem c_X1_minutesToHigh {l : Launch} {D : va_G} {ca : Nat → ClassId} {q0 : Nat} {sa : Nat → Nat} {ad : jAd} {z n i : Nat} {V : jV} {cnt : Nat} (x y : Int32) (hl : decide (i < n) = true) (hc : V 11 i 3 = nI cnt) (hcnt : cnt ≤ 6) (hf : ∀ j, j < cnt → ∃ f, f < 6 ∧ V 12 i j = nI f) : jMet l D ca q0 sa ad yX1_minutesToHigh cX1_minutesToHigh 4 (some .int) 1 0 0 [.ref (ad 10 i), .int x, .int y] (jS z n V) (jRet (some (.int (mthX V i cnt x y))) (jS z n V)) := by
  refine j_enter RX1 [some (.ref (ad 10 i)), some (.int x), some (.int y), none] rfl (by decide) (by simp [Value.category]) (Nat.le_of_ble_eq_true rfl) rfl ?_
  intro p e s m args below meth c K hnm hX
  refine j_sipush K 1440 dX1_minutesToHigh_0 rfl ?_
  refine j_iload_n K 1 dX1_minutesToHigh_3 rfl rfl ?_
  refine j_imul K dX1_minutesToHigh_4 ?_
  refine j_iload_n K 2 dX1_minutesToHigh_5 rfl rfl ?_
  refine j_iadd K dX1_minutesToHigh_6 ?_
  refine j_istore_n K 3 dX1_minutesToHigh_7 rfl (by decide) ?_
  refine j_aload_n K 0 dX1_minutesToHigh_8 rfl rfl ?_
  refine jGi K dX1_minutesToHigh_9 f_X1_18 rfl hl rfl ?_
  refine j_aload_n K 0 dX1_minutesToHigh_12 rfl rfl ?_
  refine jGr K 11 i dX1_minutesToHigh_13 f_X1_39 rfl hl rfl rfl ?_
  refine j_cV0r K dX1_minutesToHigh_16 m_X2_correction v_X2_correction k_X1_53 rfl ⟨by decide, rfl⟩ hl (c_X2_correction hl hc hcnt hf) (Nat.le_of_ble_eq_true rfl) ⟨by decide, by decide⟩ (by decide) (by decide) ?_
  refine j_iadd K dX1_minutesToHigh_19 ?_
  refine j_iload_n K 3 dX1_minutesToHigh_20 rfl rfl ?_
  refine j_isub K dX1_minutesToHigh_21 ?_
  refine j_sipush K 745 dX1_minutesToHigh_22 rfl ?_
  refine j_cS2r K dX1_minutesToHigh_25 m_J9_floorMod s_J9_floorMod k_X1_57 (c_floorMod _ _ (by decide)) (Nat.le_of_ble_eq_true rfl) ⟨by decide, by decide⟩ (by decide) (by decide) ?_
  refine j_iret K dX1_minutesToHigh_28 ?_
  exact ⟨rfl, rfl⟩
