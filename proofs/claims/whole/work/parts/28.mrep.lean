def shY (V : jV) (i g t : Nat) : jV := fun k i' j => if (k = 31 ∨ k = 32 ∨ k = 33) ∧ i' = 0 ∧ 6 * i + g ≤ j ∧ j < 6 * i + t then V k 0 (j + 1) else up V 30 0 i (V 30 0 i - 1) k i' j
/-- the Model drops the report at the place g -/
def remY (V : jV) (i g : Nat) : jV := shY V i g (tn (V 30 0 i) - 1)
set_option maxRecDepth 20000 in
set_option maxHeartbeats 400000 in
theorem c_Mplace {l : Launch} {D : va_G} {ca : Nat → ClassId} {q0 : Nat} {sa : Nat → Nat} {ad : jAd} {z n a cnt : Nat} {V : jV} (f x : Int32) (hn6 : n ≤ 6) (ha : a < n) (hx : x = nI a) (hR : YR V a cnt)  : jMet l D ca q0 sa ad yX6_placeOf cX6_placeOf 4 (some .int) 0 0 0 [.ref (ad 20 0), .int f, .int x] (jS z n V) (jRet (some (.int (fres (fun j => decide (V 31 0 (6 * a + j) = f)) cnt))) (jS z n V)) := by
  refine j_enter RX6 [some (.ref (ad 20 0)), some (.int f), some (.int x), none] rfl (by decide) (by simp [Value.category]) (Nat.le_of_ble_eq_true rfl) rfl ?_
  intro p e s m args below meth c K hnm hX
  have hc6 := hR.2.1
  have lp : ∀ (k j : Nat) , j ≤ cnt → cnt < j + k → (∀ j', j' < j → decide (V 31 0 (6 * a + j') = f) = false) → jW p l e (jRm 0 0 0) s m args below meth c D ca q0 ad 4 (jZ below args s D ca q0 ad 0 0 (jRet (some (.int (fres (fun j => decide (V 31 0 (6 * a + j) = f)) cnt))) (jS z n V))) 0 0 2 [some (.ref (ad 20 0)), some (.int f), some (.int x), some (.int (nI j))] [] (jS z n V) := by
    intro k
    induction k with
    | zero => intro j  hj1 hj2; exact absurd hj2 (by omega)
    | succ k ih =>
      intro j  hj1 hj2 hno
      refine j_iload_n K 3 dX6_placeOf_2 rfl rfl ?_
      refine j_aload_n K 0 dX6_placeOf_3 rfl rfl ?_
      refine jGr K 30 0 dX6_placeOf_4 f_X6_28 rfl rfl rfl rfl ?_
      refine j_iload_n K 2 dX6_placeOf_7 rfl rfl ?_
      refine jIald K (a) dX6_placeOf_8 rfl rfl hx (by omega) ?_
      refine j_icmp_ge K 35 dX6_placeOf_9 (by decide) (fun h_9 => ?_) (fun h_9 => ?_)
      · have hj : j = cnt := by have := nle1 h_9 hR.1 rfl (by omega) (by omega); omega
        subst hj
        refine j_iconst K (-1) dX6_placeOf_35 rfl ?_
        refine j_iret K dX6_placeOf_36 ?_
        exact jret_I (by unfold fres; rw [fidx_eq (Nat.le_refl _) hno (fun h => absurd h (Nat.lt_irrefl _)), if_neg (Nat.lt_irrefl _)])
      · have hj3 : j < cnt := nle0 h_9 hR.1 rfl (by omega) (by omega)
        refine j_aload_n K 0 dX6_placeOf_12 rfl rfl ?_
        refine jGr K 31 0 dX6_placeOf_13 f_X6_31 rfl rfl rfl rfl ?_
        refine j_bipush K 6 dX6_placeOf_16 rfl ?_
        refine j_iload_n K 2 dX6_placeOf_18 rfl rfl ?_
        refine j_imul K dX6_placeOf_19 ?_
        refine j_iload_n K 3 dX6_placeOf_20 rfl rfl ?_
        refine j_iadd K dX6_placeOf_21 ?_
        refine jIald K (((6 * a) + j)) dX6_placeOf_22 rfl rfl (jx_add (jx_mul rfl hx) rfl) (by omega) ?_
        refine j_iload_n K 1 dX6_placeOf_23 rfl rfl ?_
        refine j_icmp_ne K 29 dX6_placeOf_24 (by decide) (fun h_24 => ?_) (fun h_24 => ?_)
        · refine j_iinc (v := nI (j + 1)) K dX6_placeOf_29 rfl (by decide) (nI_1 _) ?_
          refine j_goto K 2 dX6_placeOf_32 (by decide) ?_
          exact ih (j + 1) (by omega) (by omega) (fun j' hj' => (Nat.lt_succ_iff_lt_or_eq.mp hj').elim (hno j') (fun e => by subst e; exact decide_eq_false h_24))
        · refine j_iload_n K 3 dX6_placeOf_27 rfl rfl ?_
          refine j_iret K dX6_placeOf_28 ?_
          exact jret_I (by unfold fres; rw [fidx_eq (j := j) (by omega) hno (fun _ => decide_eq_true h_24), if_pos hj3])
  refine j_iconst K 0 dX6_placeOf_0 rfl ?_
  refine j_istore_n K 3 dX6_placeOf_1 rfl (by decide) ?_
  exact lp (cnt + 1) 0 (by omega) (by omega) (fun j' h => absurd h (by omega))
theorem shc {V : jV} {a g t cnt : Nat} (h : V 30 0 a = nI cnt) (h1 : 1 ≤ cnt) : shY V a g t 30 0 a = nI (cnt - 1) := by
  unfold shY
  rw [if_neg (by omega)]
  simp only [up, and_self, if_true]
  rw [h]
  exact pk_sub (b := 1) h1
set_option maxRecDepth 20000 in
set_option maxHeartbeats 400000 in
theorem c_Mdrop {l : Launch} {D : va_G} {ca : Nat → ClassId} {q0 : Nat} {sa : Nat → Nat} {ad : jAd} {z n a cnt : Nat} {V : jV} (x : Int32) (g : Nat) (hn6 : n ≤ 6) (ha : a < n) (hx : x = nI a) (hR : YR V a cnt) (hg : g < cnt) : jMet l D ca q0 sa ad yX6_dropReport cX6_dropReport 4 none 0 0 0 [.ref (ad 20 0), .int x, .int (nI g)] (jS z n V) (jRet none (jS z n (remY V a g))) := by
  refine j_enter RX6 [some (.ref (ad 20 0)), some (.int x), some (.int (nI g)), none] rfl (by decide) (by simp [Value.category]) (Nat.le_of_ble_eq_true rfl) rfl ?_
  intro p e s m args below meth c K hnm hX
  have hc6 := hR.2.1
  have hc1 : 1 ≤ cnt := by omega
  have lp : ∀ (k t : Nat) , t ≤ (cnt - 1) → (cnt - 1) < t + k → g ≤ t → jW p l e (jRm 0 0 0) s m args below meth c D ca q0 ad 4 (jZ below args s D ca q0 ad 0 0 (jRet none (jS z n (remY V a g)))) 0 0 17 [some (.ref (ad 20 0)), some (.int x), some (.int (nI g)), some (.int (nI (6 * a + t)))] [] (jS z n (shY V a g t)) := by
    intro k
    induction k with
    | zero => intro t  hj1 hj2; exact absurd hj2 (by omega)
    | succ k ih =>
      intro t  hj1 hj2 hgt
      refine j_iload_n K 3 dX6_dropReport_17 rfl rfl ?_
      refine j_bipush K 6 dX6_dropReport_18 rfl ?_
      refine j_iload_n K 1 dX6_dropReport_20 rfl rfl ?_
      refine j_imul K dX6_dropReport_21 ?_
      refine j_aload_n K 0 dX6_dropReport_22 rfl rfl ?_
      refine jGr K 30 0 dX6_dropReport_23 f_X6_28 rfl rfl rfl rfl ?_
      refine j_iload_n K 1 dX6_dropReport_26 rfl rfl ?_
      refine jIald K (a) dX6_dropReport_27 rfl rfl hx (by omega) ?_
      refine j_iadd K dX6_dropReport_28 ?_
      refine j_icmp_ge K 80 dX6_dropReport_29 (by decide) (fun h_29 => ?_) (fun h_29 => ?_)
      · have hj9 : t = cnt - 1 := by have := nle1 h_29 (jx_add (jmul6 hx) (shc hR.1 hc1)) rfl (by omega) (by omega); omega
        refine j_vret K dX6_dropReport_80 (jret_V (fun k1 k2 k3 => ?_))
        unfold remY
        rw [show tn (V 30 0 a) - 1 = t by rw [hR.1, tn_nI (by omega)]; omega]
      · have hj3 : t < cnt - 1 := by have := nle0 h_29 (jx_add (jmul6 hx) (shc hR.1 hc1)) rfl (by omega) (by omega); omega
        refine j_aload_n K 0 dX6_dropReport_32 rfl rfl ?_
        refine jGr K 31 0 dX6_dropReport_33 f_X6_31 rfl rfl rfl rfl ?_
        refine j_iload_n K 3 dX6_dropReport_36 rfl rfl ?_
        refine j_aload_n K 0 dX6_dropReport_37 rfl rfl ?_
        refine jGr K 31 0 dX6_dropReport_38 f_X6_31 rfl rfl rfl rfl ?_
        refine j_iload_n K 3 dX6_dropReport_41 rfl rfl ?_
        refine j_iconst K 1 dX6_dropReport_42 rfl ?_
        refine j_iadd K dX6_dropReport_43 ?_
        refine jIald K ((6 * a + t + 1)) dX6_dropReport_44 rfl rfl (nI_1 _) (by omega) ?_
        refine jIast K ((6 * a + t)) dX6_dropReport_45 rfl rfl rfl (by omega) ?_
        refine j_aload_n K 0 dX6_dropReport_46 rfl rfl ?_
        refine jGr K 32 0 dX6_dropReport_47 f_X6_34 rfl rfl rfl rfl ?_
        refine j_iload_n K 3 dX6_dropReport_50 rfl rfl ?_
        refine j_aload_n K 0 dX6_dropReport_51 rfl rfl ?_
        refine jGr K 32 0 dX6_dropReport_52 f_X6_34 rfl rfl rfl rfl ?_
        refine j_iload_n K 3 dX6_dropReport_55 rfl rfl ?_
        refine j_iconst K 1 dX6_dropReport_56 rfl ?_
        refine j_iadd K dX6_dropReport_57 ?_
        refine jIald K ((6 * a + t + 1)) dX6_dropReport_58 rfl rfl (nI_1 _) (by omega) ?_
        refine jIast K ((6 * a + t)) dX6_dropReport_59 rfl rfl rfl (by omega) ?_
        refine j_aload_n K 0 dX6_dropReport_60 rfl rfl ?_
        refine jGr K 33 0 dX6_dropReport_61 f_X6_37 rfl rfl rfl rfl ?_
        refine j_iload_n K 3 dX6_dropReport_64 rfl rfl ?_
        refine j_aload_n K 0 dX6_dropReport_65 rfl rfl ?_
        refine jGr K 33 0 dX6_dropReport_66 f_X6_37 rfl rfl rfl rfl ?_
        refine j_iload_n K 3 dX6_dropReport_69 rfl rfl ?_
        refine j_iconst K 1 dX6_dropReport_70 rfl ?_
        refine j_iadd K dX6_dropReport_71 ?_
        refine jIald K ((6 * a + t + 1)) dX6_dropReport_72 rfl rfl (nI_1 _) (by omega) ?_
        refine jIast K ((6 * a + t)) dX6_dropReport_73 rfl rfl rfl (by omega) ?_
        refine j_iinc (v := nI ((6 * a + t) + 1)) K dX6_dropReport_74 rfl (by decide) (nI_1 _) ?_
        refine j_goto K 17 dX6_dropReport_77 (by decide) ?_
        refine j_eqV (V' := shY V a g (t + 1)) (fun k1 k2 k3 => ?_) (ih (t + 1) (by omega) (by omega) (by omega))
        simp only [up, shY]
        grind
  refine j_aload_n K 0 dX6_dropReport_0 rfl rfl ?_
  refine jGr K 30 0 dX6_dropReport_1 f_X6_28 rfl rfl rfl rfl ?_
  refine j_iload_n K 1 dX6_dropReport_4 rfl rfl ?_
  refine j_dup2 K dX6_dropReport_5 rfl rfl ?_
  refine jIald K (a) dX6_dropReport_6 rfl rfl hx (by omega) ?_
  refine j_iconst K 1 dX6_dropReport_7 rfl ?_
  refine j_isub K dX6_dropReport_8 ?_
  refine jIast K (a) dX6_dropReport_9 rfl rfl hx (by omega) ?_
  refine j_bipush K 6 dX6_dropReport_10 rfl ?_
  refine j_iload_n K 1 dX6_dropReport_12 rfl rfl ?_
  refine j_imul K dX6_dropReport_13 ?_
  refine j_iload_n K 2 dX6_dropReport_14 rfl rfl ?_
  refine j_iadd K dX6_dropReport_15 ?_
  refine j_istore_n K 3 dX6_dropReport_16 rfl (by decide) ?_
  rw [show 6 * x + nI g = nI (6 * a + g) from jx_add (jmul6 hx) rfl]
  refine j_eqV (V' := shY V a g g) (fun k1 k2 k3 => ?_) (lp cnt g (by omega) (by omega) (Nat.le_refl _))
  simp only [shY]
  rw [if_neg (by omega)]
def yo (V : jV) : Nat → Int32 := fun j => V 39 0 j
def yr (V : jV) : Nat → Int32 := fun j => V 28 0 j
theorem ahd_1 {o r : Nat → Int32} {a b : Nat} (h : ¬ o a = o b) (h' : ¬ o b ≤ o a) : ahd o r a b = true := by unfold ahd; rw [if_neg h]; exact decide_eq_true (Int32.not_le.mp h')
theorem ahd_2 {o r : Nat → Int32} {a b : Nat} (h : ¬ o a = o b) (h' : o b ≤ o a) : ahd o r a b = false := by unfold ahd; rw [if_neg h]; exact decide_eq_false (Int32.not_lt.mpr h')
theorem ahd_3 {o r : Nat → Int32} {a b : Nat} (h : o a = o b) (h1 : ¬ r a = r b) (h' : r a ≤ r b) : ahd o r a b = false := by unfold ahd; rw [if_pos h, if_neg h1]; exact decide_eq_false (Int32.not_lt.mpr h')
theorem ahd_4 {o r : Nat → Int32} {a b : Nat} (h : o a = o b) (h1 : ¬ r a = r b) (h' : ¬ r a ≤ r b) : ahd o r a b = true := by unfold ahd; rw [if_pos h, if_neg h1]; exact decide_eq_true (Int32.not_le.mp h')
theorem ahd_5 {o r : Nat → Int32} {a b : Nat} (h : o a = o b) (h1 : r a = r b) (h' : ¬ a < b) : ahd o r a b = false := by unfold ahd; rw [if_pos h, if_pos h1]; exact decide_eq_false h'
theorem ahd_6 {o r : Nat → Int32} {a b : Nat} (h : o a = o b) (h1 : r a = r b) (h' : a < b) : ahd o r a b = true := by unfold ahd; rw [if_pos h, if_pos h1]; exact decide_eq_true h'
theorem jret_IB {M : jM} {x : Int32} {b : Bool} (h : b = true ∧ x = 1 ∨ b = false ∧ x = 0) : jRet (some (.int (bI b))) M (.inl (some (.int x))) M := by
  rcases h with ⟨rfl, rfl⟩ | ⟨rfl, rfl⟩ <;> exact ⟨rfl, rfl⟩
set_option maxRecDepth 20000 in
set_option maxHeartbeats 400000 in
theorem c_Mahd {l : Launch} {D : va_G} {ca : Nat → ClassId} {q0 : Nat} {sa : Nat → Nat} {ad : jAd} {z n a b2 : Nat} {V : jV} (x y : Int32) (hn6 : n ≤ 6) (ha : a < n) (hx : x = nI a) (hb : b2 < n) (hy : y = nI b2) : jMet l D ca q0 sa ad yX6_isAhead cX6_isAhead 3 (some .boolean) 0 0 0 [.ref (ad 20 0), .int x, .int y] (jS z n V) (jRet (some (.int (bI (ahd (yo V) (yr V) a b2)))) (jS z n V)) := by
  refine j_enter RX6 [some (.ref (ad 20 0)), some (.int x), some (.int y)] rfl (by decide) (by simp [Value.category]) (Nat.le_of_ble_eq_true rfl) rfl ?_
  intro p e s m args below meth c K hnm hX
  refine j_aload_n K 0 dX6_isAhead_0 rfl rfl ?_
  refine jGr K 39 0 dX6_isAhead_1 f_X6_46 rfl rfl rfl rfl ?_
  refine j_iload_n K 1 dX6_isAhead_4 rfl rfl ?_
  refine jIald K (a) dX6_isAhead_5 rfl rfl hx (by omega) ?_
  refine j_aload_n K 0 dX6_isAhead_6 rfl rfl ?_
  refine jGr K 39 0 dX6_isAhead_7 f_X6_46 rfl rfl rfl rfl ?_
  refine j_iload_n K 2 dX6_isAhead_10 rfl rfl ?_
  refine jIald K (b2) dX6_isAhead_11 rfl rfl hy (by omega) ?_
  refine j_icmp_eq K 36 dX6_isAhead_12 (by decide) (fun h_12 => ?_) (fun h_12 => ?_)
  · refine j_aload_n K 0 dX6_isAhead_36 rfl rfl ?_
    refine jGr K 28 0 dX6_isAhead_37 f_X6_22 rfl rfl rfl rfl ?_
    refine j_iload_n K 1 dX6_isAhead_40 rfl rfl ?_
    refine jIald K (a) dX6_isAhead_41 rfl rfl hx (by omega) ?_
    refine j_aload_n K 0 dX6_isAhead_42 rfl rfl ?_
    refine jGr K 28 0 dX6_isAhead_43 f_X6_22 rfl rfl rfl rfl ?_
    refine j_iload_n K 2 dX6_isAhead_46 rfl rfl ?_
    refine jIald K (b2) dX6_isAhead_47 rfl rfl hy (by omega) ?_
    refine j_icmp_eq K 74 dX6_isAhead_48 (by decide) (fun h_48 => ?_) (fun h_48 => ?_)
    · refine j_iload_n K 1 dX6_isAhead_74 rfl rfl ?_
      refine j_iload_n K 2 dX6_isAhead_75 rfl rfl ?_
      refine j_icmp_ge K 83 dX6_isAhead_76 (by decide) (fun h_76 => ?_) (fun h_76 => ?_)
      · refine j_iconst K 0 dX6_isAhead_83 rfl ?_
        refine j_zret K dX6_isAhead_84 (by simp) ?_
        first
        | exact jret_IB (Or.inr ⟨ahd_3 h_12 h_48 h_63, rfl⟩)
        | exact jret_IB (Or.inl ⟨ahd_4 h_12 h_48 h_63, rfl⟩)
        | exact jret_IB (Or.inr ⟨ahd_5 h_12 h_48 (Nat.not_lt.mpr (nle1 h_76 hy hx (by omega) (by omega))), rfl⟩)
        | exact jret_IB (Or.inl ⟨ahd_6 h_12 h_48 (nle0 h_76 hy hx (by omega) (by omega)), rfl⟩)
      · refine j_iconst K 1 dX6_isAhead_79 rfl ?_
        refine j_goto K 84 dX6_isAhead_80 (by decide) ?_
        refine j_zret K dX6_isAhead_84 (by simp) ?_
        first
        | exact jret_IB (Or.inr ⟨ahd_3 h_12 h_48 h_63, rfl⟩)
        | exact jret_IB (Or.inl ⟨ahd_4 h_12 h_48 h_63, rfl⟩)
        | exact jret_IB (Or.inr ⟨ahd_5 h_12 h_48 (Nat.not_lt.mpr (nle1 h_76 hy hx (by omega) (by omega))), rfl⟩)
        | exact jret_IB (Or.inl ⟨ahd_6 h_12 h_48 (nle0 h_76 hy hx (by omega) (by omega)), rfl⟩)
    · refine j_aload_n K 0 dX6_isAhead_51 rfl rfl ?_
      refine jGr K 28 0 dX6_isAhead_52 f_X6_22 rfl rfl rfl rfl ?_
      refine j_iload_n K 1 dX6_isAhead_55 rfl rfl ?_
      refine jIald K (a) dX6_isAhead_56 rfl rfl hx (by omega) ?_
      refine j_aload_n K 0 dX6_isAhead_57 rfl rfl ?_
      refine jGr K 28 0 dX6_isAhead_58 f_X6_22 rfl rfl rfl rfl ?_
      refine j_iload_n K 2 dX6_isAhead_61 rfl rfl ?_
      refine jIald K (b2) dX6_isAhead_62 rfl rfl hy (by omega) ?_
      refine j_icmp_le K 70 dX6_isAhead_63 (by decide) (fun h_63 => ?_) (fun h_63 => ?_)
      · refine j_iconst K 0 dX6_isAhead_70 rfl ?_
        refine j_goto K 84 dX6_isAhead_71 (by decide) ?_
        refine j_zret K dX6_isAhead_84 (by simp) ?_
        first
        | exact jret_IB (Or.inr ⟨ahd_3 h_12 h_48 h_63, rfl⟩)
        | exact jret_IB (Or.inl ⟨ahd_4 h_12 h_48 h_63, rfl⟩)
        | exact jret_IB (Or.inr ⟨ahd_5 h_12 h_48 (Nat.not_lt.mpr (nle1 h_76 hy hx (by omega) (by omega))), rfl⟩)
        | exact jret_IB (Or.inl ⟨ahd_6 h_12 h_48 (nle0 h_76 hy hx (by omega) (by omega)), rfl⟩)
      · refine j_iconst K 1 dX6_isAhead_66 rfl ?_
        refine j_goto K 84 dX6_isAhead_67 (by decide) ?_
        refine j_zret K dX6_isAhead_84 (by simp) ?_
        first
        | exact jret_IB (Or.inr ⟨ahd_3 h_12 h_48 h_63, rfl⟩)
        | exact jret_IB (Or.inl ⟨ahd_4 h_12 h_48 h_63, rfl⟩)
        | exact jret_IB (Or.inr ⟨ahd_5 h_12 h_48 (Nat.not_lt.mpr (nle1 h_76 hy hx (by omega) (by omega))), rfl⟩)
        | exact jret_IB (Or.inl ⟨ahd_6 h_12 h_48 (nle0 h_76 hy hx (by omega) (by omega)), rfl⟩)
  · refine j_aload_n K 0 dX6_isAhead_15 rfl rfl ?_
    refine jGr K 39 0 dX6_isAhead_16 f_X6_46 rfl rfl rfl rfl ?_
    refine j_iload_n K 1 dX6_isAhead_19 rfl rfl ?_
    refine jIald K (a) dX6_isAhead_20 rfl rfl hx (by omega) ?_
    refine j_aload_n K 0 dX6_isAhead_21 rfl rfl ?_
    refine jGr K 39 0 dX6_isAhead_22 f_X6_46 rfl rfl rfl rfl ?_
    refine j_iload_n K 2 dX6_isAhead_25 rfl rfl ?_
    refine jIald K (b2) dX6_isAhead_26 rfl rfl hy (by omega) ?_
    refine j_icmp_ge K 34 dX6_isAhead_27 (by decide) (fun h_27 => ?_) (fun h_27 => ?_)
    · refine j_iconst K 0 dX6_isAhead_34 rfl ?_
      refine j_zret K dX6_isAhead_35 (by simp) ?_
      first
      | exact jret_IB (Or.inl ⟨ahd_1 h_12 h_27, rfl⟩)
      | exact jret_IB (Or.inr ⟨ahd_2 h_12 h_27, rfl⟩)
    · refine j_iconst K 1 dX6_isAhead_30 rfl ?_
      refine j_goto K 35 dX6_isAhead_31 (by decide) ?_
      refine j_zret K dX6_isAhead_35 (by simp) ?_
      first
      | exact jret_IB (Or.inl ⟨ahd_1 h_12 h_27, rfl⟩)
      | exact jret_IB (Or.inr ⟨ahd_2 h_12 h_27, rfl⟩)
