/-- whether the order for the pier a comes before the one for b: days o, rungs r -/
def ahd (o r : Nat → Int32) (a b : Nat) : Bool := if o a = o b then (if r a = r b then decide (a < b) else decide (r b < r a)) else decide (o a < o b)
/-- how many of the waiting orders of the first j piers come before the one for b -/
def obf (o r : Nat → Int32) (b : Nat) : Nat → Nat
  | 0 => 0
  | j + 1 => if ¬ o j = -1 ∧ ahd o r j b = true then obf o r b j + 1 else obf o r b j
theorem obf_le (o r : Nat → Int32) (b j : Nat) : obf o r b j ≤ j := by
  induction j with
  | zero => exact Nat.le_refl _
  | succ j ih => unfold obf; split <;> omega
/-- the place among the n piers whose order has x before it -/
def wai (o r : Nat → Int32) (n : Nat) (x : Int32) : Nat → Bool := fun j => !decide (o j = -1) && decide (nI (obf o r j n) = x)
def xo (V : jV) : Nat → Int32 := fun j => V 3 0 j
def xr (V : jV) : Nat → Int32 := fun j => V 10 j 4
/-- how many orders wait -/
def wno (o : Nat → Int32) : Nat → Nat
  | 0 => 0
  | j + 1 => if o j = -1 then wno o j else wno o j + 1
set_option maxRecDepth 20000 in
set_option maxHeartbeats 400000 in
theorem c_X5_comesBefore {l : Launch} {D : va_G} {ca : Nat → ClassId} {q0 : Nat} {sa : Nat → Nat} {ad : jAd} {z n a b : Nat} {V : jV} (hn6 : n ≤ 6) (ha : a < n) (hb : b < n) : jMet l D ca q0 sa ad yX5_comesBefore cX5_comesBefore 3 (some .boolean) 0 0 0 [.ref (ad 0 0), .int (nI a), .int (nI b)] (jS z n V) (jRet (some (.int (bI (ahd (xo V) (xr V) a b)))) (jS z n V)) := by
  refine j_enter RX5 [some (.ref (ad 0 0)), some (.int (nI a)), some (.int (nI b))] rfl (by decide) (by simp [Value.category]) (Nat.le_of_ble_eq_true rfl) rfl ?_
  intro p e s m args below meth c K hnm hX
  have hl : decide (a < n) = true := decide_eq_true ha
  have hm : decide (b < n) = true := decide_eq_true hb
  refine j_aload_n K 0 dX5_comesBefore_0 rfl rfl ?_
  refine jGr K 3 0 dX5_comesBefore_1 f_X5_23 rfl rfl rfl rfl ?_
  refine j_iload_n K 1 dX5_comesBefore_4 rfl rfl ?_
  refine jIald K (a) dX5_comesBefore_5 rfl rfl rfl (by omega) ?_
  refine j_aload_n K 0 dX5_comesBefore_6 rfl rfl ?_
  refine jGr K 3 0 dX5_comesBefore_7 f_X5_23 rfl rfl rfl rfl ?_
  refine j_iload_n K 2 dX5_comesBefore_10 rfl rfl ?_
  refine jIald K (b) dX5_comesBefore_11 rfl rfl rfl (by omega) ?_
  refine j_icmp_eq K 36 dX5_comesBefore_12 (by decide) (fun h_12 => ?_) (fun h_12 => ?_)
  · refine j_aload_n K 0 dX5_comesBefore_36 rfl rfl ?_
    refine jGr K 1 0 dX5_comesBefore_37 f_X5_11 rfl rfl rfl rfl ?_
    refine j_iload_n K 1 dX5_comesBefore_40 rfl rfl ?_
    refine jAald K (a) 10 (a) dX5_comesBefore_41 rfl rfl rfl (by omega) (rf_pier (by omega)) ?_
    refine jGi K dX5_comesBefore_42 f_X5_279 rfl hl rfl ?_
    refine j_aload_n K 0 dX5_comesBefore_45 rfl rfl ?_
    refine jGr K 1 0 dX5_comesBefore_46 f_X5_11 rfl rfl rfl rfl ?_
    refine j_iload_n K 2 dX5_comesBefore_49 rfl rfl ?_
    refine jAald K (b) 10 (b) dX5_comesBefore_50 rfl rfl rfl (by omega) (rf_pier (by omega)) ?_
    refine jGi K dX5_comesBefore_51 f_X5_279 rfl hm rfl ?_
    refine j_icmp_eq K 84 dX5_comesBefore_54 (by decide) (fun h_54 => ?_) (fun h_54 => ?_)
    · refine j_iload_n K 1 dX5_comesBefore_84 rfl rfl ?_
      refine j_iload_n K 2 dX5_comesBefore_85 rfl rfl ?_
      refine j_icmp_ge K 93 dX5_comesBefore_86 (by decide) (fun h_86 => ?_) (fun h_86 => ?_)
      · refine j_iconst K 0 dX5_comesBefore_93 rfl ?_
        refine j_zret K dX5_comesBefore_94 (by simp) ?_
        exact jret_I (by unfold ahd bI; rw [if_pos (show xo V a = xo V b from h_12), if_pos (show xr V a = xr V b from h_54)]; have h9 := nle1 h_86 rfl rfl (by omega) (by omega); simp [Nat.not_lt.mpr h9])
      · refine j_iconst K 1 dX5_comesBefore_89 rfl ?_
        refine j_goto K 94 dX5_comesBefore_90 (by decide) ?_
        refine j_zret K dX5_comesBefore_94 (by simp) ?_
        exact jret_I (by unfold ahd bI; rw [if_pos (show xo V a = xo V b from h_12), if_pos (show xr V a = xr V b from h_54)]; have h9 := nle0 h_86 rfl rfl (by omega) (by omega); simp [h9])
    · refine j_aload_n K 0 dX5_comesBefore_57 rfl rfl ?_
      refine jGr K 1 0 dX5_comesBefore_58 f_X5_11 rfl rfl rfl rfl ?_
      refine j_iload_n K 1 dX5_comesBefore_61 rfl rfl ?_
      refine jAald K (a) 10 (a) dX5_comesBefore_62 rfl rfl rfl (by omega) (rf_pier (by omega)) ?_
      refine jGi K dX5_comesBefore_63 f_X5_279 rfl hl rfl ?_
      refine j_aload_n K 0 dX5_comesBefore_66 rfl rfl ?_
      refine jGr K 1 0 dX5_comesBefore_67 f_X5_11 rfl rfl rfl rfl ?_
      refine j_iload_n K 2 dX5_comesBefore_70 rfl rfl ?_
      refine jAald K (b) 10 (b) dX5_comesBefore_71 rfl rfl rfl (by omega) (rf_pier (by omega)) ?_
      refine jGi K dX5_comesBefore_72 f_X5_279 rfl hm rfl ?_
      refine j_icmp_le K 82 dX5_comesBefore_75 (by decide) (fun h_75 => ?_) (fun h_75 => ?_)
      · refine j_iconst K 0 dX5_comesBefore_82 rfl ?_
        refine j_zret K dX5_comesBefore_83 (by simp) ?_
        exact jret_I (by unfold ahd bI; rw [if_pos (show xo V a = xo V b from h_12), if_neg (show ¬ xr V a = xr V b from h_54)]; simp [show xr V a ≤ xr V b from h_75])
      · refine j_iconst K 1 dX5_comesBefore_78 rfl ?_
        refine j_goto K 83 dX5_comesBefore_79 (by decide) ?_
        refine j_zret K dX5_comesBefore_83 (by simp) ?_
        exact jret_I (by unfold ahd bI; rw [if_pos (show xo V a = xo V b from h_12), if_neg (show ¬ xr V a = xr V b from h_54)]; simp [show xr V b < xr V a from Int32.not_le.mp h_75])
  · refine j_aload_n K 0 dX5_comesBefore_15 rfl rfl ?_
    refine jGr K 3 0 dX5_comesBefore_16 f_X5_23 rfl rfl rfl rfl ?_
    refine j_iload_n K 1 dX5_comesBefore_19 rfl rfl ?_
    refine jIald K (a) dX5_comesBefore_20 rfl rfl rfl (by omega) ?_
    refine j_aload_n K 0 dX5_comesBefore_21 rfl rfl ?_
    refine jGr K 3 0 dX5_comesBefore_22 f_X5_23 rfl rfl rfl rfl ?_
    refine j_iload_n K 2 dX5_comesBefore_25 rfl rfl ?_
    refine jIald K (b) dX5_comesBefore_26 rfl rfl rfl (by omega) ?_
    refine j_icmp_ge K 34 dX5_comesBefore_27 (by decide) (fun h_27 => ?_) (fun h_27 => ?_)
    · refine j_iconst K 0 dX5_comesBefore_34 rfl ?_
      refine j_zret K dX5_comesBefore_35 (by simp) ?_
      exact jret_I (by unfold ahd bI; rw [if_neg (show ¬ xo V a = xo V b from h_12)]; simp [show xo V b ≤ xo V a from h_27])
    · refine j_iconst K 1 dX5_comesBefore_30 rfl ?_
      refine j_goto K 35 dX5_comesBefore_31 (by decide) ?_
      refine j_zret K dX5_comesBefore_35 (by simp) ?_
      exact jret_I (by unfold ahd bI; rw [if_neg (show ¬ xo V a = xo V b from h_12)]; simp [show xo V a < xo V b from Int32.not_le.mp h_27])
set_option maxRecDepth 20000 in
set_option maxHeartbeats 400000 in
theorem c_X5_ordersBefore {l : Launch} {D : va_G} {ca : Nat → ClassId} {q0 : Nat} {sa : Nat → Nat} {ad : jAd} {z n b : Nat} {V : jV} (hI : XI n V) (hb : b < n) : jMet l D ca q0 sa ad yX5_ordersBefore cX5_ordersBefore 4 (some .int) 1 0 0 [.ref (ad 0 0), .int (nI b)] (jS z n V) (jRet (some (.int (nI (obf (xo V) (xr V) b n)))) (jS z n V)) := by
  refine j_enter RX5 [some (.ref (ad 0 0)), some (.int (nI b)), none, none] rfl (by decide) (by simp [Value.category]) (Nat.le_of_ble_eq_true rfl) rfl ?_
  intro p e s m args below meth c K hnm hX
  have hn6 := hI.1
  have lp : ∀ (k j : Nat) , j ≤ n → n < j + k → jW p l e (jRm 1 0 0) s m args below meth c D ca q0 ad 4 (jZ below args s D ca q0 ad 0 0 (jRet (some (.int (nI (obf (xo V) (xr V) b n)))) (jS z n V))) 0 0 4 [some (.ref (ad 0 0)), some (.int (nI b)), some (.int (nI (obf (xo V) (xr V) b j))), some (.int (nI j))] [] (jS z n V) := by
    intro k
    induction k with
    | zero => intro j  hj1 hj2; exact absurd hj2 (by omega)
    | succ k ih =>
      intro j  hj1 hj2 
      refine j_iload_n K 3 dX5_ordersBefore_4 rfl rfl ?_
      refine j_aload_n K 0 dX5_ordersBefore_5 rfl rfl ?_
      refine jGi K dX5_ordersBefore_6 f_X5_15 rfl rfl rfl ?_
      refine j_icmp_ge K 40 dX5_ordersBefore_9 (by decide) (fun h_9 => ?_) (fun h_9 => ?_)
      · have hj9 := nle1 h_9 hI.2.1 rfl (by omega) (by omega)
        have hj : j = n := by omega
        subst hj
        refine j_iload_n K 2 dX5_ordersBefore_40 rfl rfl ?_
        refine j_iret K dX5_ordersBefore_41 ?_
        exact ⟨rfl, rfl⟩
      · have hj3 : j < n := nle0 h_9 hI.2.1 rfl (by omega) (by omega)
        refine j_aload_n K 0 dX5_ordersBefore_12 rfl rfl ?_
        refine jGr K 3 0 dX5_ordersBefore_13 f_X5_23 rfl rfl rfl rfl ?_
        refine j_iload_n K 3 dX5_ordersBefore_16 rfl rfl ?_
        refine jIald K (j) dX5_ordersBefore_17 rfl rfl rfl (by omega) ?_
        refine j_iconst K (-1) dX5_ordersBefore_18 rfl ?_
        refine j_icmp_eq K 34 dX5_ordersBefore_19 (by decide) (fun h_19 => ?_) (fun h_19 => ?_)
        · refine j_iinc (v := nI (j + 1)) K dX5_ordersBefore_34 rfl (by decide) (nI_1 _) ?_
          refine j_goto K 4 dX5_ordersBefore_37 (by decide) ?_
          have hb9 : obf (xo V) (xr V) b (j + 1) = obf (xo V) (xr V) b j := by rw [obf, if_neg (fun q => q.1 h_19)]
          rw [← hb9]
          exact ih (j + 1) (by omega) (by omega)
        · refine j_aload_n K 0 dX5_ordersBefore_22 rfl rfl ?_
          refine j_iload_n K 3 dX5_ordersBefore_23 rfl rfl ?_
          refine j_iload_n K 1 dX5_ordersBefore_24 rfl rfl ?_
          refine j_cV2r K dX5_ordersBefore_25 m_X5_comesBefore v_X5_comesBefore k_X5_282 rfl ⟨by decide, rfl⟩ rfl (c_X5_comesBefore hn6 hj3 hb) (Nat.le_of_ble_eq_true rfl) ⟨by decide, by decide⟩ (by decide) (by decide) ?_
          refine j_if_eq K 34 dX5_ordersBefore_28 (by decide) (fun h_28 => ?_) (fun h_28 => ?_)
          · refine j_iinc (v := nI (j + 1)) K dX5_ordersBefore_34 rfl (by decide) (nI_1 _) ?_
            refine j_goto K 4 dX5_ordersBefore_37 (by decide) ?_
            have hb9 : obf (xo V) (xr V) b (j + 1) = obf (xo V) (xr V) b j := by rw [obf, if_neg (fun q => by rw [q.2] at h_28; exact absurd h_28 (by decide))]
            rw [← hb9]
            exact ih (j + 1) (by omega) (by omega)
          · refine j_iinc (v := nI ((obf (xo V) (xr V) b j) + 1)) K dX5_ordersBefore_31 rfl (by decide) (nI_1 _) ?_
            refine j_iinc (v := nI (j + 1)) K dX5_ordersBefore_34 rfl (by decide) (nI_1 _) ?_
            refine j_goto K 4 dX5_ordersBefore_37 (by decide) ?_
            have hb9 : obf (xo V) (xr V) b (j + 1) = obf (xo V) (xr V) b j + 1 := by rw [obf, if_pos ⟨h_19, by cases hq : ahd (xo V) (xr V) j b; (rw [hq] at h_28; exact absurd rfl h_28); rfl⟩]
            rw [← hb9]
            exact ih (j + 1) (by omega) (by omega)
  refine j_iconst K 0 dX5_ordersBefore_0 rfl ?_
  refine j_istore_n K 2 dX5_ordersBefore_1 rfl (by decide) ?_
  refine j_iconst K 0 dX5_ordersBefore_2 rfl ?_
  refine j_istore_n K 3 dX5_ordersBefore_3 rfl (by decide) ?_
  exact lp (n + 1) 0 (by omega) (by omega)
set_option maxRecDepth 20000 in
set_option maxHeartbeats 400000 in
theorem c_X5_pierOfOrder {l : Launch} {D : va_G} {ca : Nat → ClassId} {q0 : Nat} {sa : Nat → Nat} {ad : jAd} {z n : Nat} {V : jV} (x : Int32) (hI : XI n V)  : jMet l D ca q0 sa ad yX5_pierOfOrder cX5_pierOfOrder 3 (some .int) 2 0 0 [.ref (ad 0 0), .int x] (jS z n V) (jRet (some (.int (fres (wai (xo V) (xr V) n x) n))) (jS z n V)) := by
  refine j_enter RX5 [some (.ref (ad 0 0)), some (.int x), none] rfl (by decide) (by simp [Value.category]) (Nat.le_of_ble_eq_true rfl) rfl ?_
  intro p e s m args below meth c K hnm hX
  have hn6 := hI.1
  have lp : ∀ (k j : Nat) , j ≤ n → n < j + k → (∀ j', j' < j → wai (xo V) (xr V) n x j' = false) → jW p l e (jRm 2 0 0) s m args below meth c D ca q0 ad 3 (jZ below args s D ca q0 ad 0 0 (jRet (some (.int (fres (wai (xo V) (xr V) n x) n))) (jS z n V))) 0 0 2 [some (.ref (ad 0 0)), some (.int x), some (.int (nI j))] [] (jS z n V) := by
    intro k
    induction k with
    | zero => intro j  hj1 hj2; exact absurd hj2 (by omega)
    | succ k ih =>
      intro j  hj1 hj2 hno
      refine j_iload_n K 2 dX5_pierOfOrder_2 rfl rfl ?_
      refine j_aload_n K 0 dX5_pierOfOrder_3 rfl rfl ?_
      refine jGi K dX5_pierOfOrder_4 f_X5_15 rfl rfl rfl ?_
      refine j_icmp_ge K 37 dX5_pierOfOrder_7 (by decide) (fun h_7 => ?_) (fun h_7 => ?_)
      · have hj9 := nle1 h_7 hI.2.1 rfl (by omega) (by omega)
        have hj : j = n := by omega
        subst hj
        refine j_iconst K (-1) dX5_pierOfOrder_37 rfl ?_
        refine j_iret K dX5_pierOfOrder_38 ?_
        exact jret_I (by unfold fres; rw [fidx_eq (Nat.le_refl _) hno (fun h => absurd h (Nat.lt_irrefl _)), if_neg (Nat.lt_irrefl _)])
      · have hj3 : j < n := nle0 h_7 hI.2.1 rfl (by omega) (by omega)
        refine j_aload_n K 0 dX5_pierOfOrder_10 rfl rfl ?_
        refine jGr K 3 0 dX5_pierOfOrder_11 f_X5_23 rfl rfl rfl rfl ?_
        refine j_iload_n K 2 dX5_pierOfOrder_14 rfl rfl ?_
        refine jIald K (j) dX5_pierOfOrder_15 rfl rfl rfl (by omega) ?_
        refine j_iconst K (-1) dX5_pierOfOrder_16 rfl ?_
        refine j_icmp_eq K 31 dX5_pierOfOrder_17 (by decide) (fun h_17 => ?_) (fun h_17 => ?_)
        · refine j_iinc (v := nI (j + 1)) K dX5_pierOfOrder_31 rfl (by decide) (nI_1 _) ?_
          refine j_goto K 2 dX5_pierOfOrder_34 (by decide) ?_
          exact ih (j + 1) (by omega) (by omega) (fun j' hj' => (Nat.lt_succ_iff_lt_or_eq.mp hj').elim (hno j') (fun e => by subst e; have a1 : xo V j' = -1 := h_17; simp [wai, a1]))
        · refine j_aload_n K 0 dX5_pierOfOrder_20 rfl rfl ?_
          refine j_iload_n K 2 dX5_pierOfOrder_21 rfl rfl ?_
          refine j_cV1r K dX5_pierOfOrder_22 m_X5_ordersBefore v_X5_ordersBefore k_X5_190 rfl ⟨by decide, rfl⟩ rfl (c_X5_ordersBefore hI hj3) (Nat.le_of_ble_eq_true rfl) ⟨by decide, by decide⟩ (by decide) (by decide) ?_
          refine j_iload_n K 1 dX5_pierOfOrder_25 rfl rfl ?_
          refine j_icmp_ne K 31 dX5_pierOfOrder_26 (by decide) (fun h_26 => ?_) (fun h_26 => ?_)
          · refine j_iinc (v := nI (j + 1)) K dX5_pierOfOrder_31 rfl (by decide) (nI_1 _) ?_
            refine j_goto K 2 dX5_pierOfOrder_34 (by decide) ?_
            exact ih (j + 1) (by omega) (by omega) (fun j' hj' => (Nat.lt_succ_iff_lt_or_eq.mp hj').elim (hno j') (fun e => by subst e; have a1 : ¬ nI (obf (xo V) (xr V) j' n) = x := h_26; simp [wai, a1]))
          · refine j_iload_n K 2 dX5_pierOfOrder_29 rfl rfl ?_
            refine j_iret K dX5_pierOfOrder_30 ?_
            exact jret_I (by unfold fres; rw [fidx_eq (j := j) (by omega) hno (fun _ => by have a1 : ¬ xo V j = -1 := h_17; have a2 : nI (obf (xo V) (xr V) j n) = x := h_26; simp [wai, a1, a2]), if_pos hj3])
  refine j_iconst K 0 dX5_pierOfOrder_0 rfl ?_
  refine j_istore_n K 2 dX5_pierOfOrder_1 rfl (by decide) ?_
  exact lp (n + 1) 0 (by omega) (by omega) (fun j' h => absurd h (by omega))
set_option maxRecDepth 20000 in
set_option maxHeartbeats 400000 in
theorem c_X5_waitingOrders {l : Launch} {D : va_G} {ca : Nat → ClassId} {q0 : Nat} {sa : Nat → Nat} {ad : jAd} {z n : Nat} {V : jV} (hI : XI n V)  : jMet l D ca q0 sa ad yX5_waitingOrders cX5_waitingOrders 3 (some .int) 0 0 0 [.ref (ad 0 0)] (jS z n V) (jRet (some (.int (nI (wno (xo V) n)))) (jS z n V)) := by
  refine j_enter RX5 [some (.ref (ad 0 0)), none, none] rfl (by decide) (by simp [Value.category]) (Nat.le_of_ble_eq_true rfl) rfl ?_
  intro p e s m args below meth c K hnm hX
  have hn6 := hI.1
  have lp : ∀ (k j : Nat) , j ≤ n → n < j + k → jW p l e (jRm 0 0 0) s m args below meth c D ca q0 ad 3 (jZ below args s D ca q0 ad 0 0 (jRet (some (.int (nI (wno (xo V) n)))) (jS z n V))) 0 0 4 [some (.ref (ad 0 0)), some (.int (nI (wno (xo V) j))), some (.int (nI j))] [] (jS z n V) := by
    intro k
    induction k with
    | zero => intro j  hj1 hj2; exact absurd hj2 (by omega)
    | succ k ih =>
      intro j  hj1 hj2 
      refine j_iload_n K 2 dX5_waitingOrders_4 rfl rfl ?_
      refine j_aload_n K 0 dX5_waitingOrders_5 rfl rfl ?_
      refine jGi K dX5_waitingOrders_6 f_X5_15 rfl rfl rfl ?_
      refine j_icmp_ge K 31 dX5_waitingOrders_9 (by decide) (fun h_9 => ?_) (fun h_9 => ?_)
      · have hj9 := nle1 h_9 hI.2.1 rfl (by omega) (by omega)
        have hj : j = n := by omega
        subst hj
        refine j_iload_n K 1 dX5_waitingOrders_31 rfl rfl ?_
        refine j_iret K dX5_waitingOrders_32 ?_
        exact ⟨rfl, rfl⟩
      · have hj3 : j < n := nle0 h_9 hI.2.1 rfl (by omega) (by omega)
        refine j_aload_n K 0 dX5_waitingOrders_12 rfl rfl ?_
        refine jGr K 3 0 dX5_waitingOrders_13 f_X5_23 rfl rfl rfl rfl ?_
        refine j_iload_n K 2 dX5_waitingOrders_16 rfl rfl ?_
        refine jIald K (j) dX5_waitingOrders_17 rfl rfl rfl (by omega) ?_
        refine j_iconst K (-1) dX5_waitingOrders_18 rfl ?_
        refine j_icmp_eq K 25 dX5_waitingOrders_19 (by decide) (fun h_19 => ?_) (fun h_19 => ?_)
        · refine j_iinc (v := nI (j + 1)) K dX5_waitingOrders_25 rfl (by decide) (nI_1 _) ?_
          refine j_goto K 4 dX5_waitingOrders_28 (by decide) ?_
          have hb9 : wno (xo V) (j + 1) = wno (xo V) j := by rw [wno, if_pos (show xo V j = -1 from h_19)]
          rw [← hb9]
          exact ih (j + 1) (by omega) (by omega)
        · refine j_iinc (v := nI ((wno (xo V) j) + 1)) K dX5_waitingOrders_22 rfl (by decide) (nI_1 _) ?_
          refine j_iinc (v := nI (j + 1)) K dX5_waitingOrders_25 rfl (by decide) (nI_1 _) ?_
          refine j_goto K 4 dX5_waitingOrders_28 (by decide) ?_
          have hb9 : wno (xo V) (j + 1) = wno (xo V) j + 1 := by rw [wno, if_neg (show ¬ xo V j = -1 from h_19)]
          rw [← hb9]
          exact ih (j + 1) (by omega) (by omega)
  refine j_iconst K 0 dX5_waitingOrders_0 rfl ?_
  refine j_istore_n K 1 dX5_waitingOrders_1 rfl (by decide) ?_
  refine j_iconst K 0 dX5_waitingOrders_2 rfl ?_
  refine j_istore_n K 2 dX5_waitingOrders_3 rfl (by decide) ?_
  exact lp (n + 1) 0 (by omega) (by omega)
def bfo (n : Nat) (V : jV) : jV :=
  if fidx (wai (xo V) (xr V) n 0) n < n then
    up (up (begV V (fidx (wai (xo V) (xr V) n 0) n) (tn (V 11 (fidx (wai (xo V) (xr V) n 0) n) 3)) (V 3 0 (fidx (wai (xo V) (xr V) n 0) n))) 3 0 (fidx (wai (xo V) (xr V) n 0) n) (-1)) 0 0 8 (nI (fidx (wai (xo V) (xr V) n 0) n))
  else V
set_option maxRecDepth 20000 in
set_option maxHeartbeats 400000 in
theorem c_X5_beginFirstOrder {l : Launch} {D : va_G} {ca : Nat → ClassId} {q0 : Nat} {sa : Nat → Nat} {ad : jAd} {z n : Nat} {V : jV} (hI : XI n V)  : jMet l D ca q0 sa ad yX5_beginFirstOrder cX5_beginFirstOrder 2 none 4 0 0 [.ref (ad 0 0)] (jS z n V) (jRet none (jS z n (bfo n V))) := by
  refine j_enter RX5 [some (.ref (ad 0 0)), none] rfl (by decide) (by simp [Value.category]) (Nat.le_of_ble_eq_true rfl) rfl ?_
  intro p e s m args below meth c K hnm hX
  have hn6 := hI.1
  have hfle := fidx_le (wai (xo V) (xr V) n 0) n
  have hb : ∃ a, fidx (wai (xo V) (xr V) n 0) n = a := ⟨_, rfl⟩
  obtain ⟨a, hfa⟩ := hb
  have hbf : bfo n V = if a < n then up (up (begV V a (tn (V 11 a 3)) (V 3 0 a)) 3 0 a (-1)) 0 0 8 (nI a) else V := by unfold bfo; rw [hfa]
  have hfr9 : fres (wai (xo V) (xr V) n 0) n = if a < n then nI a else -1 := by unfold fres; rw [hfa]
  by_cases ha : a < n
  · rw [if_pos ha] at hbf hfr9
    have hfr := hfr9
    have hl : decide (a < n) = true := decide_eq_true ha
    have ht : LV n 6 a = true := lv_pier ha
    refine j_aload_n K 0 dX5_beginFirstOrder_0 rfl rfl ?_
    refine j_iconst K 0 dX5_beginFirstOrder_1 rfl ?_
    refine j_cV1r K dX5_beginFirstOrder_2 m_X5_pierOfOrder v_X5_pierOfOrder k_X5_195 rfl ⟨by decide, rfl⟩ rfl (c_X5_pierOfOrder _ hI) (Nat.le_of_ble_eq_true rfl) ⟨by decide, by decide⟩ (by decide) (by decide) ?_
    refine j_istore_n K 1 dX5_beginFirstOrder_5 rfl (by decide) ?_
    refine j_iload_n K 1 dX5_beginFirstOrder_6 rfl rfl ?_
    refine j_iconst K (-1) dX5_beginFirstOrder_7 rfl ?_
    refine j_icmp_eq K 47 dX5_beginFirstOrder_8 (by decide) (fun h_8 => ?_) (fun h_8 => ?_)
    · exact absurd (hfr.symm.trans h_8) (nI_neg1 (by omega))
    · refine j_aload_n K 0 dX5_beginFirstOrder_11 rfl rfl ?_
      refine jGr K 1 0 dX5_beginFirstOrder_12 f_X5_11 rfl rfl rfl rfl ?_
      refine j_iload_n K 1 dX5_beginFirstOrder_15 rfl rfl ?_
      refine jAald K (a) 10 (a) dX5_beginFirstOrder_16 rfl rfl hfr (by omega) (rf_pier (by omega)) ?_
      refine jGr K 15 a dX5_beginFirstOrder_17 f_X5_79 rfl hl rfl rfl ?_
      refine j_aload_n K 0 dX5_beginFirstOrder_20 rfl rfl ?_
      refine jGr K 1 0 dX5_beginFirstOrder_21 f_X5_11 rfl rfl rfl rfl ?_
      refine j_iload_n K 1 dX5_beginFirstOrder_24 rfl rfl ?_
      refine jAald K (a) 10 (a) dX5_beginFirstOrder_25 rfl rfl hfr (by omega) (rf_pier (by omega)) ?_
      refine j_aload_n K 0 dX5_beginFirstOrder_26 rfl rfl ?_
      refine jGr K 3 0 dX5_beginFirstOrder_27 f_X5_23 rfl rfl rfl rfl ?_
      refine j_iload_n K 1 dX5_beginFirstOrder_30 rfl rfl ?_
      refine jIald K (a) dX5_beginFirstOrder_31 rfl rfl hfr (by omega) ?_
      refine j_cV2n K dX5_beginFirstOrder_32 m_X0_begin v_X0_begin k_X5_286 rfl ⟨by decide, rfl⟩ hl (c_X0_begin _ hl ht (hI.2.2.1 a ha)) (Nat.le_of_ble_eq_true rfl) ⟨by decide, by decide⟩ (by decide) (by decide) ?_
      refine j_aload_n K 0 dX5_beginFirstOrder_35 rfl rfl ?_
      refine jGr K 3 0 dX5_beginFirstOrder_36 f_X5_23 rfl rfl rfl rfl ?_
      refine j_iload_n K 1 dX5_beginFirstOrder_39 rfl rfl ?_
      refine j_iconst K (-1) dX5_beginFirstOrder_40 rfl ?_
      refine jIast K (a) dX5_beginFirstOrder_41 rfl rfl hfr (by omega) ?_
      refine j_aload_n K 0 dX5_beginFirstOrder_42 rfl rfl ?_
      refine j_iload_n K 1 dX5_beginFirstOrder_43 rfl rfl ?_
      refine jPi K dX5_beginFirstOrder_44 fo_X5_46 rfl rfl rfl rfl (Or.inl rfl) ?_
      refine j_vret K dX5_beginFirstOrder_47 ?_
      rw [hbf]; refine jret_V (fun _ _ _ => ?_); rw [hfr]; try rfl
  · rw [if_neg ha] at hbf hfr9
    have hfr := hfr9
    refine j_aload_n K 0 dX5_beginFirstOrder_0 rfl rfl ?_
    refine j_iconst K 0 dX5_beginFirstOrder_1 rfl ?_
    refine j_cV1r K dX5_beginFirstOrder_2 m_X5_pierOfOrder v_X5_pierOfOrder k_X5_195 rfl ⟨by decide, rfl⟩ rfl (c_X5_pierOfOrder _ hI) (Nat.le_of_ble_eq_true rfl) ⟨by decide, by decide⟩ (by decide) (by decide) ?_
    refine j_istore_n K 1 dX5_beginFirstOrder_5 rfl (by decide) ?_
    refine j_iload_n K 1 dX5_beginFirstOrder_6 rfl rfl ?_
    refine j_iconst K (-1) dX5_beginFirstOrder_7 rfl ?_
    refine j_icmp_eq K 47 dX5_beginFirstOrder_8 (by decide) (fun h_8 => ?_) (fun h_8 => ?_)
    · refine j_vret K dX5_beginFirstOrder_47 ?_
      rw [hbf]; exact ⟨rfl, rfl⟩
    · exact absurd hfr h_8
/-- whether the board of the pier a shows the present day's waters; the table, found anew, is kept where it is asked for -/
def shwV (V : jV) (a : Nat) : jV := if V 15 a 3 = V 0 0 7 ∧ umk V a (tn (V 6 a 3)) = 0 then filV V 6 a (tn (V 11 a 3)) (V 0 0 7) else V
def shwB (V : jV) (a : Nat) : Int32 := if V 15 a 3 = V 0 0 7 ∧ umk V a (tn (V 6 a 3)) = 0 then mtc (filV V 6 a (tn (V 11 a 3)) (V 0 0 7)) a 6 (tn (V 6 a 3)) else 0
theorem fil_other {V : jV} {ti i cnt : Nat} {d : Int32} {k a j : Nat} (h : a ≠ ti ∨ (k ≠ 6 ∧ k ≠ 7 ∧ k ≠ 8 ∧ k ≠ 9)) : filV V ti i cnt d k a j = V k a j := by
  unfold filV tabV up
  grind
set_option maxRecDepth 20000 in
set_option maxHeartbeats 400000 in
theorem c_X5_showsThisDay {l : Launch} {D : va_G} {ca : Nat → ClassId} {q0 : Nat} {sa : Nat → Nat} {ad : jAd} {z n a : Nat} {V : jV} (hI : XI n V) (ha : a < n) : jMet l D ca q0 sa ad yX5_showsThisDay cX5_showsThisDay 3 (some .boolean) 3 0 0 [.ref (ad 0 0), .ref (ad 10 a)] (jS z n V) (jRet (some (.int (shwB V a))) (jS z n (shwV V a))) := by
  refine j_enter RX5 [some (.ref (ad 0 0)), some (.ref (ad 10 a)), none] rfl (by decide) (by simp [Value.category]) (Nat.le_of_ble_eq_true rfl) rfl ?_
  intro p e s m args below meth c K hnm hX
  have hn6 := hI.1
  have hl : decide (a < n) = true := decide_eq_true ha
  have ht : LV n 6 a = true := lv_pier ha
  have hw := hI.2.2.2.1 a ha
  obtain ⟨hw, hw4⟩ := hw
  have hw9 : (filV V 6 a (tn (V 11 a 3)) (V 0 0 7)) 6 a 3 = nI (tn (V 6 a 3)) := by rw [fil_other (Or.inl (by omega))]; exact hw
  have hm1 : ∀ U t, mtc U a 6 t = 0 ∨ mtc U a 6 t = 1 := fun U t => by unfold mtc; split; exact Or.inr rfl; exact Or.inl rfl
  refine j_aload_n K 1 dX5_showsThisDay_0 rfl rfl ?_
  refine jGr K 15 a dX5_showsThisDay_1 f_X5_79 rfl hl rfl rfl ?_
  refine j_astore_n K 2 dX5_showsThisDay_4 rfl (by decide) ?_
  refine j_aload_n K 2 dX5_showsThisDay_5 rfl rfl ?_
  refine jGi K dX5_showsThisDay_6 f_X5_225 rfl hl rfl ?_
  refine j_aload_n K 0 dX5_showsThisDay_9 rfl rfl ?_
  refine jGi K dX5_showsThisDay_10 f_X5_43 rfl rfl rfl ?_
  refine j_icmp_ne K 23 dX5_showsThisDay_13 (by decide) (fun h_13 => ?_) (fun h_13 => ?_)
  · refine j_iconst K 0 dX5_showsThisDay_23 rfl ?_
    refine j_zret K dX5_showsThisDay_24 (by simp) ?_
    have h9 : ¬ (V 15 a 3 = V 0 0 7 ∧ umk V a (tn (V 6 a 3)) = 0) := fun q => h_13 q.1
    refine jret_IV (by unfold shwB; rw [if_neg h9]) (fun _ _ _ => by unfold shwV; rw [if_neg h9])
  · refine j_aload_n K 2 dX5_showsThisDay_16 rfl rfl ?_
    refine j_cV0r K dX5_showsThisDay_17 m_X0_unreadableMask v_X0_unreadableMask k_X5_244 rfl ⟨by decide, rfl⟩ hl (c_X0_unreadableMask hl ht hw hw4) (Nat.le_of_ble_eq_true rfl) ⟨by decide, by decide⟩ (by decide) (by decide) ?_
    refine j_if_eq K 25 dX5_showsThisDay_20 (by decide) (fun h_20 => ?_) (fun h_20 => ?_)
    · refine j_aload_n K 0 dX5_showsThisDay_25 rfl rfl ?_
      refine jGr K 6 6 dX5_showsThisDay_26 f_X5_39 rfl rfl rfl rfl ?_
      refine j_aload_n K 1 dX5_showsThisDay_29 rfl rfl ?_
      refine j_aload_n K 0 dX5_showsThisDay_30 rfl rfl ?_
      refine jGi K dX5_showsThisDay_31 f_X5_43 rfl rfl rfl ?_
      refine j_cV2n K dX5_showsThisDay_34 m_X3_fill v_X3_fill k_X5_102 rfl ⟨by decide, rfl⟩ (lvt6 n) (c_X3_fill _ hl (lvt6 n) (hI.2.2.1 a ha)) (Nat.le_of_ble_eq_true rfl) ⟨by decide, by decide⟩ (by decide) (by decide) ?_
      refine j_aload_n K 2 dX5_showsThisDay_37 rfl rfl ?_
      refine jGr K 6 a dX5_showsThisDay_38 f_X5_228 rfl hl rfl rfl ?_
      refine j_aload_n K 0 dX5_showsThisDay_41 rfl rfl ?_
      refine jGr K 6 6 dX5_showsThisDay_42 f_X5_39 rfl rfl rfl rfl ?_
      refine j_cV1r K dX5_showsThisDay_45 m_X3_matches v_X3_matches k_X5_275 rfl ⟨by decide, rfl⟩ ht (c_X3_matches ht (lvt6 n) hw9 hw4) (Nat.le_of_ble_eq_true rfl) ⟨by decide, by decide⟩ (by decide) (by decide) ?_
      refine j_zret K dX5_showsThisDay_48 (hm1 _ _) ?_
      have h9 : V 15 a 3 = V 0 0 7 ∧ umk V a (tn (V 6 a 3)) = 0 := ⟨h_13, h_20⟩
      refine jret_IV (by unfold shwB; rw [if_pos h9]; try rfl) (fun _ _ _ => by unfold shwV; rw [if_pos h9]; try rfl)
    · refine j_iconst K 0 dX5_showsThisDay_23 rfl ?_
      refine j_zret K dX5_showsThisDay_24 (by simp) ?_
      have h9 : ¬ (V 15 a 3 = V 0 0 7 ∧ umk V a (tn (V 6 a 3)) = 0) := fun q => h_20 q.2
      refine jret_IV (by unfold shwB; rw [if_neg h9]) (fun _ _ _ => by unfold shwV; rw [if_neg h9])
