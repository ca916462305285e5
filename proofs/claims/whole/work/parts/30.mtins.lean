def dsY (V : jV) (q t : Nat) : jV := fun k i' j => if k = 35 ∧ i' = 0 ∧ 12 * q ≤ j ∧ j < 12 * q + t then V k 0 (j + 1) else up V 34 0 q (V 34 0 q - 1) k i' j
/-- the Model drops the oldest tin of the colour q -/
def doY (V : jV) (q : Nat) : jV := dsY V q (tn (V 34 0 q) - 1)
theorem dsc {V : jV} {q t u : Nat} (h : V 34 0 q = nI t) (h1 : 1 ≤ t) : dsY V q u 34 0 q = nI (t - 1) := by
  unfold dsY
  rw [if_neg (by omega)]
  simp only [up, and_self, if_true]
  rw [h]
  exact pk_sub (b := 1) h1
theorem jmul12 {x : Int32} {a : Nat} (h : x = nI a) : 12 * x = nI (12 * a) := jx_mul (a := 12) rfl h
theorem jmul4 {x : Int32} {a : Nat} (h : x = nI a) : 4 * x = nI (4 * a) := jx_mul (a := 4) rfl h
/-- the k oldest tins poured out and dropped -/
def dpY (V : jV) (q : Nat) : Nat → jV
  | 0 => V
  | k + 1 => doY (up (dpY V q k) 20 0 17 (dpY V q k 20 0 17 + dpY V q k 35 0 (12 * q))) q
def tkU (V : jV) (q : Nat) (x : Int32) (g : Nat) : jV := up (dpY V q g) 35 0 (12 * q) (dpY V q g 35 0 (12 * q) - x)
def tkY (V : jV) (q : Nat) (x : Int32) (g : Nat) : jV := if tkU V q x g 35 0 (12 * q) = 0 then doY (tkU V q x g) q else tkU V q x g
theorem dp_cnt {V : jV} {q t : Nat} (h : V 34 0 q = nI t) : ∀ k, k ≤ t → dpY V q k 34 0 q = nI (t - k)
  | 0, _ => h
  | k + 1, hk => by
    have ih := dp_cnt (q := q) h k (by omega)
    rw [dpY]
    unfold doY
    rw [dsc (t := t - k) (show up (dpY V q k) 20 0 17 (dpY V q k 20 0 17 + dpY V q k 35 0 (12 * q)) 34 0 q = nI (t - k) from ih) (by omega)]
    congr 1
set_option maxRecDepth 20000 in
set_option maxHeartbeats 400000 in
theorem c_MdropT {l : Launch} {D : va_G} {ca : Nat → ClassId} {q0 : Nat} {sa : Nat → Nat} {ad : jAd} {z n q t : Nat} {V : jV} (x : Int32) (hq2 : q < 2) (hx : x = nI q) (ht : V 34 0 q = nI t) (ht2 : t ≤ 12) (ht1 : 1 ≤ t)  : jMet l D ca q0 sa ad yX6_dropOldest cX6_dropOldest 3 none 0 0 0 [.ref (ad 20 0), .int x] (jS z n V) (jRet none (jS z n (doY V q))) := by
  refine j_enter RX6 [some (.ref (ad 20 0)), some (.int x), none] rfl (by decide) (by simp [Value.category]) (Nat.le_of_ble_eq_true rfl) rfl ?_
  intro p e s m args below meth c K hnm hX
  have lp : ∀ (k u : Nat) , u ≤ (t - 1) → (t - 1) < u + k → jW p l e (jRm 0 0 0) s m args below meth c D ca q0 ad 3 (jZ below args s D ca q0 ad 0 0 (jRet none (jS z n (doY V q)))) 0 0 15 [some (.ref (ad 20 0)), some (.int x), some (.int (nI (12 * q + u)))] [] (jS z n (dsY V q u)) := by
    intro k
    induction k with
    | zero => intro u  hj1 hj2; exact absurd hj2 (by omega)
    | succ k ih =>
      intro u  hj1 hj2 
      refine j_iload_n K 2 dX6_dropOldest_15 rfl rfl ?_
      refine j_bipush K 12 dX6_dropOldest_16 rfl ?_
      refine j_iload_n K 1 dX6_dropOldest_18 rfl rfl ?_
      refine j_imul K dX6_dropOldest_19 ?_
      refine j_aload_n K 0 dX6_dropOldest_20 rfl rfl ?_
      refine jGr K 34 0 dX6_dropOldest_21 f_X6_40 rfl rfl rfl rfl ?_
      refine j_iload_n K 1 dX6_dropOldest_24 rfl rfl ?_
      refine jIald K (q) dX6_dropOldest_25 rfl rfl hx (by omega) ?_
      refine j_iadd K dX6_dropOldest_26 ?_
      refine j_icmp_ge K 50 dX6_dropOldest_27 (by decide) (fun h_27 => ?_) (fun h_27 => ?_)
      · have hj9 : u = t - 1 := by have := nle1 h_27 (jx_add (jmul12 hx) (dsc ht ht1)) rfl (by omega) (by omega); omega
        refine j_vret K dX6_dropOldest_50 (jret_V (fun k1 k2 k3 => ?_))
        unfold doY
        rw [show tn (V 34 0 q) - 1 = u by rw [ht, tn_nI (by omega)]; omega]
      · have hj3 : u < t - 1 := by have := nle0 h_27 (jx_add (jmul12 hx) (dsc ht ht1)) rfl (by omega) (by omega); omega
        refine j_aload_n K 0 dX6_dropOldest_30 rfl rfl ?_
        refine jGr K 35 0 dX6_dropOldest_31 f_X6_43 rfl rfl rfl rfl ?_
        refine j_iload_n K 2 dX6_dropOldest_34 rfl rfl ?_
        refine j_aload_n K 0 dX6_dropOldest_35 rfl rfl ?_
        refine jGr K 35 0 dX6_dropOldest_36 f_X6_43 rfl rfl rfl rfl ?_
        refine j_iload_n K 2 dX6_dropOldest_39 rfl rfl ?_
        refine j_iconst K 1 dX6_dropOldest_40 rfl ?_
        refine j_iadd K dX6_dropOldest_41 ?_
        refine jIald K ((12 * q + u + 1)) dX6_dropOldest_42 rfl rfl (nI_1 _) (by omega) ?_
        refine jIast K ((12 * q + u)) dX6_dropOldest_43 rfl rfl rfl (by omega) ?_
        refine j_iinc (v := nI ((12 * q + u) + 1)) K dX6_dropOldest_44 rfl (by decide) (nI_1 _) ?_
        refine j_goto K 15 dX6_dropOldest_47 (by decide) ?_
        refine j_eqV (V' := dsY V q (u + 1)) (fun k1 k2 k3 => ?_) (ih (u + 1) (by omega) (by omega))
        simp only [up, dsY]
        grind
  refine j_aload_n K 0 dX6_dropOldest_0 rfl rfl ?_
  refine jGr K 34 0 dX6_dropOldest_1 f_X6_40 rfl rfl rfl rfl ?_
  refine j_iload_n K 1 dX6_dropOldest_4 rfl rfl ?_
  refine j_dup2 K dX6_dropOldest_5 rfl rfl ?_
  refine jIald K (q) dX6_dropOldest_6 rfl rfl hx (by omega) ?_
  refine j_iconst K 1 dX6_dropOldest_7 rfl ?_
  refine j_isub K dX6_dropOldest_8 ?_
  refine jIast K (q) dX6_dropOldest_9 rfl rfl hx (by omega) ?_
  refine j_bipush K 12 dX6_dropOldest_10 rfl ?_
  refine j_iload_n K 1 dX6_dropOldest_12 rfl rfl ?_
  refine j_imul K dX6_dropOldest_13 ?_
  refine j_istore_n K 2 dX6_dropOldest_14 rfl (by decide) ?_
  rw [show 12 * x = nI (12 * q + 0) from jmul12 hx]
  refine j_eqV (V' := dsY V q 0) (fun k1 k2 k3 => ?_) (lp t 0 (by omega) (by omega))
  simp only [dsY]
  rw [if_neg (by omega)]
set_option maxRecDepth 20000 in
set_option maxHeartbeats 400000 in
theorem c_Mtake0 {l : Launch} {D : va_G} {ca : Nat → ClassId} {q0 : Nat} {sa : Nat → Nat} {ad : jAd} {z n q t : Nat} {V : jV} (x y : Int32) (hq2 : q < 2) (hx : x = nI q) (ht : V 34 0 q = nI t) (ht2 : t ≤ 12) (hg : ¬ fidx (fun j => decide (y ≤ V 35 0 (12 * q + j))) t < t)  : jMet l D ca q0 sa ad yX6_take cX6_take 5 (some .boolean) 1 0 0 [.ref (ad 20 0), .int x, .int y] (jS z n V) (jRet (some (.int 0)) (jS z n V)) := by
  refine j_enter RX6 [some (.ref (ad 20 0)), some (.int x), some (.int y), none, none] rfl (by decide) (by simp [Value.category]) (Nat.le_of_ble_eq_true rfl) rfl ?_
  intro p e s m args below meth c K hnm hX
  have lp : ∀ (k j : Nat) , j ≤ t → t < j + k → (∀ j', j' < j → decide (y ≤ V 35 0 (12 * q + j')) = false) → jW p l e (jRm 1 0 0) s m args below meth c D ca q0 ad 5 (jZ below args s D ca q0 ad 0 0 (jRet (some (.int 0)) (jS z n V))) 0 0 2 [some (.ref (ad 20 0)), some (.int x), some (.int y), some (.int (nI j)), none] [] (jS z n V) := by
    intro k
    induction k with
    | zero => intro j  hj1 hj2; exact absurd hj2 (by omega)
    | succ k ih =>
      intro j  hj1 hj2 hno
      refine j_iload_n K 3 dX6_take_2 rfl rfl ?_
      refine j_aload_n K 0 dX6_take_3 rfl rfl ?_
      refine jGr K 34 0 dX6_take_4 f_X6_40 rfl rfl rfl rfl ?_
      refine j_iload_n K 1 dX6_take_7 rfl rfl ?_
      refine jIald K (q) dX6_take_8 rfl rfl hx (by omega) ?_
      refine j_icmp_ge K 33 dX6_take_9 (by decide) (fun h_9 => ?_) (fun h_9 => ?_)
      · have hj : j = t := by have := nle1 h_9 ht rfl (by omega) (by omega); omega
        subst hj
        refine j_iload_n K 3 dX6_take_33 rfl rfl ?_
        refine j_aload_n K 0 dX6_take_34 rfl rfl ?_
        refine jGr K 34 0 dX6_take_35 f_X6_40 rfl rfl rfl rfl ?_
        refine j_iload_n K 1 dX6_take_38 rfl rfl ?_
        refine jIald K (q) dX6_take_39 rfl rfl hx (by omega) ?_
        refine j_icmp_ne K 45 dX6_take_40 (by decide) (fun h_40 => ?_) (fun h_40 => ?_)
        · exact absurd ht.symm h_40
        · refine j_iconst K 0 dX6_take_43 rfl ?_
          refine j_zret K dX6_take_44 (by simp) ?_
          exact ⟨rfl, rfl⟩
      · have hj3 : j < t := nle0 h_9 ht rfl (by omega) (by omega)
        refine j_aload_n K 0 dX6_take_12 rfl rfl ?_
        refine jGr K 35 0 dX6_take_13 f_X6_43 rfl rfl rfl rfl ?_
        refine j_bipush K 12 dX6_take_16 rfl ?_
        refine j_iload_n K 1 dX6_take_18 rfl rfl ?_
        refine j_imul K dX6_take_19 ?_
        refine j_iload_n K 3 dX6_take_20 rfl rfl ?_
        refine j_iadd K dX6_take_21 ?_
        refine jIald K (((12 * q) + j)) dX6_take_22 rfl rfl (jx_add (jx_mul rfl hx) rfl) (by omega) ?_
        refine j_iload_n K 2 dX6_take_23 rfl rfl ?_
        refine j_icmp_ge K 33 dX6_take_24 (by decide) (fun h_24 => ?_) (fun h_24 => ?_)
        · have hj := fidx_eq (c := t) (j := j) (by omega) hno (fun _ => decide_eq_true h_24)
          exact absurd hj3 (by omega)
        · refine j_iinc (v := nI (j + 1)) K dX6_take_27 rfl (by decide) (nI_1 _) ?_
          refine j_goto K 2 dX6_take_30 (by decide) ?_
          exact ih (j + 1) (by omega) (by omega) (fun j' hj' => (Nat.lt_succ_iff_lt_or_eq.mp hj').elim (hno j') (fun e => by subst e; exact decide_eq_false h_24))
  refine j_iconst K 0 dX6_take_0 rfl ?_
  refine j_istore_n K 3 dX6_take_1 rfl (by decide) ?_
  exact lp (t + 1) 0 (by omega) (by omega) (fun j' h => absurd h (by omega))
set_option maxRecDepth 20000 in
set_option maxHeartbeats 400000 in
theorem c_Mtake {l : Launch} {D : va_G} {ca : Nat → ClassId} {q0 : Nat} {sa : Nat → Nat} {ad : jAd} {z n q t g : Nat} {V : jV} (x y : Int32) (hq2 : q < 2) (hx : x = nI q) (ht : V 34 0 q = nI t) (ht2 : t ≤ 12) (hg : fidx (fun j => decide (y ≤ V 35 0 (12 * q + j))) t = g) (hgt : g < t)  : jMet l D ca q0 sa ad yX6_take cX6_take 5 (some .boolean) 1 0 0 [.ref (ad 20 0), .int x, .int y] (jS z n V) (jRet (some (.int 1)) (jS z n (tkY V q y g))) := by
  refine j_enter RX6 [some (.ref (ad 20 0)), some (.int x), some (.int y), none, none] rfl (by decide) (by simp [Value.category]) (Nat.le_of_ble_eq_true rfl) rfl ?_
  intro p e s m args below meth c K hnm hX
  have lr : ∀ (k u : Nat) , u ≤ g → g < u + k → jW p l e (jRm 1 0 0) s m args below meth c D ca q0 ad 5 (jZ below args s D ca q0 ad 0 0 (jRet (some (.int 1)) (jS z n (tkY V q y g)))) 0 0 48 [some (.ref (ad 20 0)), some (.int x), some (.int y), some (.int (nI g)), some (.int (nI u))] [] (jS z n (dpY V q u)) := by
    intro k
    induction k with
    | zero => intro u  hj1 hj2; exact absurd hj2 (by omega)
    | succ k ih =>
      intro u  hj1 hj2 
      refine j_iload K dX6_take_48 rfl ?_
      refine j_iload_n K 3 dX6_take_50 rfl rfl ?_
      refine j_icmp_ge K 83 dX6_take_51 (by decide) (fun h_51 => ?_) (fun h_51 => ?_)
      · have hj9 : u = g := by have := nle1 h_51 rfl rfl (by omega) (by omega); omega
        subst hj9
        refine j_aload_n K 0 dX6_take_83 rfl rfl ?_
        refine jGr K 35 0 dX6_take_84 f_X6_43 rfl rfl rfl rfl ?_
        refine j_bipush K 12 dX6_take_87 rfl ?_
        refine j_iload_n K 1 dX6_take_89 rfl rfl ?_
        refine j_imul K dX6_take_90 ?_
        refine j_dup2 K dX6_take_91 rfl rfl ?_
        refine jIald K ((12 * q)) dX6_take_92 rfl rfl (jx_mul rfl hx) (by omega) ?_
        refine j_iload_n K 2 dX6_take_93 rfl rfl ?_
        refine j_isub K dX6_take_94 ?_
        refine jIast K ((12 * q)) dX6_take_95 rfl rfl (jx_mul rfl hx) (by omega) ?_
        refine j_aload_n K 0 dX6_take_96 rfl rfl ?_
        refine jGr K 35 0 dX6_take_97 f_X6_43 rfl rfl rfl rfl ?_
        refine j_bipush K 12 dX6_take_100 rfl ?_
        refine j_iload_n K 1 dX6_take_102 rfl rfl ?_
        refine j_imul K dX6_take_103 ?_
        refine jIald K ((12 * q)) dX6_take_104 rfl rfl (jx_mul rfl hx) (by omega) ?_
        refine j_if_ne K 113 dX6_take_105 (by decide) (fun h_105 => ?_) (fun h_105 => ?_)
        · refine j_iconst K 1 dX6_take_113 rfl ?_
          refine j_zret K dX6_take_114 (by simp) ?_
          first
          | (unfold tkY; rw [if_pos (show tkU V q y u 35 0 (12 * q) = 0 from h_105)]; exact ⟨rfl, rfl⟩)
          | (unfold tkY; rw [if_neg (show ¬ tkU V q y u 35 0 (12 * q) = 0 from h_105)]; exact ⟨rfl, rfl⟩)
        · refine j_aload_n K 0 dX6_take_108 rfl rfl ?_
          refine j_iload_n K 1 dX6_take_109 rfl rfl ?_
          refine j_cV1n K dX6_take_110 m_X6_dropOldest v_X6_dropOldest k_X6_173 rfl ⟨by decide, rfl⟩ rfl (c_MdropT (t := t - u) _ hq2 hx (by rw [← dp_cnt ht u (by omega)]; rfl) (by omega) (by omega)) (Nat.le_of_ble_eq_true rfl) ⟨by decide, by decide⟩ (by decide) (by decide) ?_
          refine j_iconst K 1 dX6_take_113 rfl ?_
          refine j_zret K dX6_take_114 (by simp) ?_
          first
          | (unfold tkY; rw [if_pos (show tkU V q y u 35 0 (12 * q) = 0 from h_105)]; exact ⟨rfl, rfl⟩)
          | (unfold tkY; rw [if_neg (show ¬ tkU V q y u 35 0 (12 * q) = 0 from h_105)]; exact ⟨rfl, rfl⟩)
      · have hj3 : u < g := nle0 h_51 rfl rfl (by omega) (by omega)
        refine j_aload_n K 0 dX6_take_54 rfl rfl ?_
        refine j_dup K dX6_take_55 rfl ?_
        refine jGi K dX6_take_56 f_X6_170 rfl rfl rfl ?_
        refine j_aload_n K 0 dX6_take_59 rfl rfl ?_
        refine jGr K 35 0 dX6_take_60 f_X6_43 rfl rfl rfl rfl ?_
        refine j_bipush K 12 dX6_take_63 rfl ?_
        refine j_iload_n K 1 dX6_take_65 rfl rfl ?_
        refine j_imul K dX6_take_66 ?_
        refine jIald K ((12 * q)) dX6_take_67 rfl rfl (jx_mul rfl hx) (by omega) ?_
        refine j_iadd K dX6_take_68 ?_
        refine jPi K dX6_take_69 fo_X6_170 rfl rfl rfl rfl (Or.inl rfl) ?_
        refine j_aload_n K 0 dX6_take_72 rfl rfl ?_
        refine j_iload_n K 1 dX6_take_73 rfl rfl ?_
        refine j_cV1n K dX6_take_74 m_X6_dropOldest v_X6_dropOldest k_X6_173 rfl ⟨by decide, rfl⟩ rfl (c_MdropT (t := t - u) _ hq2 hx (dp_cnt ht u (by omega)) (by omega) (by omega)) (Nat.le_of_ble_eq_true rfl) ⟨by decide, by decide⟩ (by decide) (by decide) ?_
        refine j_iinc (v := nI (u + 1)) K dX6_take_77 rfl (by decide) (nI_1 _) ?_
        refine j_goto K 48 dX6_take_80 (by decide) ?_
        exact ih (u + 1) (by omega) (by omega)
  have l3 : jW p l e (jRm 1 0 0) s m args below meth c D ca q0 ad 5 (jZ below args s D ca q0 ad 0 0 (jRet (some (.int 1)) (jS z n (tkY V q y g)))) 0 0 33 [some (.ref (ad 20 0)), some (.int x), some (.int y), some (.int (nI g)), none] [] (jS z n V) := by
    refine j_iload_n K 3 dX6_take_33 rfl rfl ?_
    refine j_aload_n K 0 dX6_take_34 rfl rfl ?_
    refine jGr K 34 0 dX6_take_35 f_X6_40 rfl rfl rfl rfl ?_
    refine j_iload_n K 1 dX6_take_38 rfl rfl ?_
    refine jIald K (q) dX6_take_39 rfl rfl hx (by omega) ?_
    refine j_icmp_ne K 45 dX6_take_40 (by decide) (fun h_40 => ?_) (fun h_40 => ?_)
    · refine j_iconst K 0 dX6_take_45 rfl ?_
      refine j_istore K dX6_take_46 (by decide) ?_
      exact lr (g + 1) 0 (by omega) (by omega)
    · exact absurd h_40 (fun e => by rw [ht, nI_eq (by omega) (by omega)] at e; omega)
  have lp : ∀ (k j : Nat) , j ≤ t → t < j + k → (∀ j', j' < j → decide (y ≤ V 35 0 (12 * q + j')) = false) → jW p l e (jRm 1 0 0) s m args below meth c D ca q0 ad 5 (jZ below args s D ca q0 ad 0 0 (jRet (some (.int 1)) (jS z n (tkY V q y g)))) 0 0 2 [some (.ref (ad 20 0)), some (.int x), some (.int y), some (.int (nI j)), none] [] (jS z n V) := by
    intro k
    induction k with
    | zero => intro j  hj1 hj2; exact absurd hj2 (by omega)
    | succ k ih =>
      intro j  hj1 hj2 hno
      refine j_iload_n K 3 dX6_take_2 rfl rfl ?_
      refine j_aload_n K 0 dX6_take_3 rfl rfl ?_
      refine jGr K 34 0 dX6_take_4 f_X6_40 rfl rfl rfl rfl ?_
      refine j_iload_n K 1 dX6_take_7 rfl rfl ?_
      refine jIald K (q) dX6_take_8 rfl rfl hx (by omega) ?_
      refine j_icmp_ge K 33 dX6_take_9 (by decide) (fun h_9 => ?_) (fun h_9 => ?_)
      · have hj : j = t := by have := nle1 h_9 ht rfl (by omega) (by omega); omega
        exact absurd (fidx_eq (c := t) (j := j) (by omega) hno (fun h => absurd h (by omega))) (by omega)
      · have hj3 : j < t := nle0 h_9 ht rfl (by omega) (by omega)
        refine j_aload_n K 0 dX6_take_12 rfl rfl ?_
        refine jGr K 35 0 dX6_take_13 f_X6_43 rfl rfl rfl rfl ?_
        refine j_bipush K 12 dX6_take_16 rfl ?_
        refine j_iload_n K 1 dX6_take_18 rfl rfl ?_
        refine j_imul K dX6_take_19 ?_
        refine j_iload_n K 3 dX6_take_20 rfl rfl ?_
        refine j_iadd K dX6_take_21 ?_
        refine jIald K (((12 * q) + j)) dX6_take_22 rfl rfl (jx_add (jx_mul rfl hx) rfl) (by omega) ?_
        refine j_iload_n K 2 dX6_take_23 rfl rfl ?_
        refine j_icmp_ge K 33 dX6_take_24 (by decide) (fun h_24 => ?_) (fun h_24 => ?_)
        · have hj : j = g := by rw [← hg]; exact (fidx_eq (c := t) (j := j) (by omega) hno (fun _ => decide_eq_true h_24)).symm
          subst hj
          exact l3
        · refine j_iinc (v := nI (j + 1)) K dX6_take_27 rfl (by decide) (nI_1 _) ?_
          refine j_goto K 2 dX6_take_30 (by decide) ?_
          exact ih (j + 1) (by omega) (by omega) (fun j' hj' => (Nat.lt_succ_iff_lt_or_eq.mp hj').elim (hno j') (fun e => by subst e; exact decide_eq_false h_24))
  refine j_iconst K 0 dX6_take_0 rfl ?_
  refine j_istore_n K 3 dX6_take_1 rfl (by decide) ?_
  exact lp (t + 1) 0 (by omega) (by omega) (fun j' h => absurd h (by omega))
