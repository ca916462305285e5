def l4 (Lv : jLv) (q : Nat) : jLv := upL Lv 5 q
def v4 (V : jV) (q : Nat) : jV := up (up (clV V 5 q) 4 q 1 0) 4 q 2 0
def r4 (Rf : jR) (q : Nat) : jR := upR (clR Rf 5 q) 4 q 0 (some (5, q))
def l3 (Lv : jLv) (t : Nat) : jLv := upL (upL (upL Lv 7 t) 8 t) 9 t
def v3 (V : jV) (t : Nat) : jV := up (clV (clV (clV V 7 t) 8 t) 9 t) 6 t 3 0
def r3 (Rf : jR) (t : Nat) : jR := upR (clR (upR (clR (upR (clR Rf 7 t) 6 t 0 (some (7, t))) 8 t) 6 t 1 (some (8, t))) 9 t) 6 t 2 (some (9, t))
def l0 (Lv : jLv) (i : Nat) : jLv := upL (upL (l3 (upL Lv 6 i) i) 16 i) 17 i
def v0 (V : jV) (i : Nat) : jV := up (up (clV (clV (v3 (clV V 6 i) i) 16 i) 17 i) 15 i 3 (-1)) 15 i 4 0
def r0 (Rf : jR) (i : Nat) : jR := upR (clR (upR (clR (upR (r3 (clR Rf 6 i) i) 15 i 0 (some (6, i))) 16 i) 15 i 1 (some (16, i))) 17 i) 15 i 2 (some (17, i))
def l2 (Lv : jLv) (i : Nat) : jLv := upL (upL (upL Lv 12 i) 13 i) 14 i
def v2 (V : jV) (i : Nat) : jV := up (clV (clV (clV V 12 i) 13 i) 14 i) 11 i 3 0
def r2 (Rf : jR) (i : Nat) : jR := upR (upR (clR (upR (clR (upR (clR Rf 12 i) 11 i 0 (some (12, i))) 13 i) 11 i 1 (some (13, i))) 14 i) 11 i 2 (some (14, i))) 11 i 4 (some (2, 0))
def l1 (Lv : jLv) (i : Nat) : jLv := l2 (upL (l0 (upL Lv 15 i) i) 11 i) i
def v1 (V : jV) (i : Nat) (a b d e f : Int32) : jV := v2 (clV (up (up (up (up (up (v0 (clV V 15 i) i) 10 i 0 a) 10 i 1 b) 10 i 2 d) 10 i 3 e) 10 i 4 f) 11 i) i
def r1 (Rf : jR) (i : Nat) : jR := upR (r2 (clR (upR (r0 (clR Rf 15 i) i) 10 i 6 (some (15, i))) 11 i) i) 10 i 5 (some (11, i))
set_option maxRecDepth 20000 in
set_option maxHeartbeats 400000 in
theorem c_X4_init {l : Launch} {D : va_G} {ca : Nat → ClassId} {q0 : Nat} {sa : Nat → Nat} {ad : jAd} {z : Nat} {Lv : jLv} {V : jV} {Rf : jR} {q : Nat} (hk4 : Lv 4 q = true) (f5 : Lv 5 q = false) (a5 : ad 5 q = z) : jMet l D ca q0 sa ad yX4_init cX4_init 1 none 0 1 12 [.ref (ad 4 q)] (z, Lv, V, Rf) (jRet none (z + 1, l4 Lv q, v4 V q, r4 Rf q)) := by
  refine j_enter RX4 [some (.ref (ad 4 q))] rfl (by decide) (by simp [Value.category]) (Nat.le_of_ble_eq_true rfl) rfl ?_
  intro p e s m args below meth c K hnm hX
  refine j_aload_n K 0 dX4_init_0 rfl rfl ?_
  refine j_objInit K dX4_init_1 ko_X4 oi_i oi_c ⟨by decide, by decide⟩ (Nat.le_of_ble_eq_true rfl) ?_
  refine j_aload_n K 0 dX4_init_4 rfl rfl ?_
  refine j_bipush K 12 dX4_init_5 rfl ?_
  refine jNewa K 5 q dX4_init_7 rfl rfl ac_int f5 a5 (by decide) (by decide) (by decide) ?_
  refine jPr K dX4_init_9 fo_X4_9 rfl hk4 rfl (fun _ => rfl) (fun _ => rfl) (Or.inr ⟨hnm, rfl⟩) ?_
  refine j_aload_n K 0 dX4_init_12 rfl rfl ?_
  refine j_iconst K 0 dX4_init_13 rfl ?_
  refine jPi K dX4_init_14 fo_X4_15 rfl hk4 rfl rfl (Or.inr ⟨hnm, rfl⟩) ?_
  refine j_aload_n K 0 dX4_init_17 rfl rfl ?_
  refine j_iconst K 0 dX4_init_18 rfl ?_
  refine jPi K dX4_init_19 fo_X4_19 rfl hk4 rfl rfl (Or.inr ⟨hnm, rfl⟩) ?_
  refine j_vret K dX4_init_22 ?_
  exact ⟨rfl, rfl⟩
set_option maxRecDepth 20000 in
set_option maxHeartbeats 400000 in
theorem c_X3_init {l : Launch} {D : va_G} {ca : Nat → ClassId} {q0 : Nat} {sa : Nat → Nat} {ad : jAd} {z : Nat} {Lv : jLv} {V : jV} {Rf : jR} {t : Nat} (hk6 : Lv 6 t = true) (f7 : Lv 7 t = false) (f8 : Lv 8 t = false) (f9 : Lv 9 t = false) (a7 : ad 7 t = z) (a8 : ad 8 t = z + 1) (a9 : ad 9 t = z + 2) : jMet l D ca q0 sa ad yX3_init cX3_init 1 none 0 3 12 [.ref (ad 6 t)] (z, Lv, V, Rf) (jRet none (z + 3, l3 Lv t, v3 V t, r3 Rf t)) := by
  refine j_enter RX3 [some (.ref (ad 6 t))] rfl (by decide) (by simp [Value.category]) (Nat.le_of_ble_eq_true rfl) rfl ?_
  intro p e s m args below meth c K hnm hX
  refine j_aload_n K 0 dX3_init_0 rfl rfl ?_
  refine j_objInit K dX3_init_1 ko_X3 oi_i oi_c ⟨by decide, by decide⟩ (Nat.le_of_ble_eq_true rfl) ?_
  refine j_aload_n K 0 dX3_init_4 rfl rfl ?_
  refine j_iconst K 4 dX3_init_5 rfl ?_
  refine jNewa K 7 t dX3_init_6 rfl rfl ac_int f7 a7 (by decide) (by decide) (by decide) ?_
  refine jPr K dX3_init_8 fo_X3_9 rfl hk6 rfl (fun _ => rfl) (fun _ => rfl) (Or.inr ⟨hnm, rfl⟩) ?_
  refine j_aload_n K 0 dX3_init_11 rfl rfl ?_
  refine j_iconst K 4 dX3_init_12 rfl ?_
  refine jNewa K 8 t dX3_init_13 rfl rfl ac_int f8 a8 (by decide) (by decide) (by decide) ?_
  refine jPr K dX3_init_15 fo_X3_15 rfl hk6 rfl (fun _ => rfl) (fun _ => rfl) (Or.inr ⟨hnm, rfl⟩) ?_
  refine j_aload_n K 0 dX3_init_18 rfl rfl ?_
  refine j_iconst K 4 dX3_init_19 rfl ?_
  refine jNewz K 9 t dX3_init_20 rfl rfl ac_boolean f9 a9 (by decide) (by decide) (by decide) ?_
  refine jPr K dX3_init_22 fo_X3_18 rfl hk6 rfl (fun _ => rfl) (fun _ => rfl) (Or.inr ⟨hnm, rfl⟩) ?_
  refine j_aload_n K 0 dX3_init_25 rfl rfl ?_
  refine j_iconst K 0 dX3_init_26 rfl ?_
  refine jPi K dX3_init_27 fo_X3_22 rfl hk6 rfl rfl (Or.inr ⟨hnm, rfl⟩) ?_
  refine j_vret K dX3_init_30 ?_
  exact ⟨rfl, rfl⟩
set_option maxRecDepth 20000 in
set_option maxHeartbeats 400000 in
theorem c_X0_init {l : Launch} {D : va_G} {ca : Nat → ClassId} {q0 : Nat} {sa : Nat → Nat} {ad : jAd} {z : Nat} {Lv : jLv} {V : jV} {Rf : jR} {i : Nat} (hk15 : Lv 15 i = true) (f6 : Lv 6 i = false) (f7 : Lv 7 i = false) (f8 : Lv 8 i = false) (f9 : Lv 9 i = false) (f16 : Lv 16 i = false) (f17 : Lv 17 i = false) (a6 : ad 6 i = z) (a7 : ad 7 i = z + 1) (a8 : ad 8 i = z + 2) (a9 : ad 9 i = z + 3) (a16 : ad 16 i = z + 4) (a17 : ad 17 i = z + 5) : jMet l D ca q0 sa ad yX0_init cX0_init 1 none 1 6 24 [.ref (ad 15 i)] (z, Lv, V, Rf) (jRet none (z + 6, l0 Lv i, v0 V i, r0 Rf i)) := by
  refine j_enter RX0 [some (.ref (ad 15 i))] rfl (by decide) (by simp [Value.category]) (Nat.le_of_ble_eq_true rfl) rfl ?_
  intro p e s m args below meth c K hnm hX
  have hk6 : upL Lv 6 i 6 i = true := by simp [upL]
  refine j_aload_n K 0 dX0_init_0 rfl rfl ?_
  refine j_objInit K dX0_init_1 ko_X0 oi_i oi_c ⟨by decide, by decide⟩ (Nat.le_of_ble_eq_true rfl) ?_
  refine j_aload_n K 0 dX0_init_4 rfl rfl ?_
  refine jNew K 6 i dX0_init_5 rfl (by decide) cl_X0_9 in_X3 ii_X3 (by decide +kernel) f6 a6 (by decide) (by decide) ?_
  refine j_dup K dX0_init_8 rfl ?_
  refine j_cIN (av := []) K dX0_init_9 m_X3_init i_X3_init kn_X0_11 rfl (c_X3_init hk6 f7 f8 f9 a7 a8 a9) rfl rfl (Nat.le_of_ble_eq_true rfl) ⟨by decide, by decide⟩ (by decide) (by decide) ?_
  refine jPr K dX0_init_12 fo_X0_12 rfl hk15 rfl (fun _ => rfl) (fun _ => rfl) (Or.inr ⟨hnm, rfl⟩) ?_
  refine j_aload_n K 0 dX0_init_15 rfl rfl ?_
  refine j_iconst K 4 dX0_init_16 rfl ?_
  refine jNewa K 16 i dX0_init_17 rfl rfl ac_int f16 a16 (by decide) (by decide) (by decide) ?_
  refine jPr K dX0_init_19 fo_X0_18 rfl hk15 rfl (fun _ => rfl) (fun _ => rfl) (Or.inr ⟨hnm, rfl⟩) ?_
  refine j_aload_n K 0 dX0_init_22 rfl rfl ?_
  refine j_iconst K 4 dX0_init_23 rfl ?_
  refine jNewa K 17 i dX0_init_24 rfl rfl ac_int f17 a17 (by decide) (by decide) (by decide) ?_
  refine jPr K dX0_init_26 fo_X0_22 rfl hk15 rfl (fun _ => rfl) (fun _ => rfl) (Or.inr ⟨hnm, rfl⟩) ?_
  refine j_aload_n K 0 dX0_init_29 rfl rfl ?_
  refine j_iconst K (-1) dX0_init_30 rfl ?_
  refine jPi K dX0_init_31 fo_X0_25 rfl hk15 rfl rfl (Or.inr ⟨hnm, rfl⟩) ?_
  refine j_aload_n K 0 dX0_init_34 rfl rfl ?_
  refine j_iconst K 0 dX0_init_35 rfl ?_
  refine jPi K dX0_init_36 fo_X0_29 rfl hk15 rfl rfl (Or.inr ⟨hnm, rfl⟩) ?_
  refine j_vret K dX0_init_39 ?_
  exact ⟨rfl, rfl⟩
set_option maxRecDepth 20000 in
set_option maxHeartbeats 400000 in
theorem c_X2_init {l : Launch} {D : va_G} {ca : Nat → ClassId} {q0 : Nat} {sa : Nat → Nat} {ad : jAd} {z : Nat} {Lv : jLv} {V : jV} {Rf : jR} {i : Nat} (hk11 : Lv 11 i = true) (f12 : Lv 12 i = false) (f13 : Lv 13 i = false) (f14 : Lv 14 i = false) (a12 : ad 12 i = z) (a13 : ad 13 i = z + 1) (a14 : ad 14 i = z + 2) : jMet l D ca q0 sa ad yX2_init cX2_init 2 none 0 3 18 [.ref (ad 11 i), .ref (ad 2 0)] (z, Lv, V, Rf) (jRet none (z + 3, l2 Lv i, v2 V i, r2 Rf i)) := by
  refine j_enter RX2 [some (.ref (ad 11 i)), some (.ref (ad 2 0))] rfl (by decide) (by simp [Value.category]) (Nat.le_of_ble_eq_true rfl) rfl ?_
  intro p e s m args below meth c K hnm hX
  refine j_aload_n K 0 dX2_init_0 rfl rfl ?_
  refine j_objInit K dX2_init_1 ko_X2 oi_i oi_c ⟨by decide, by decide⟩ (Nat.le_of_ble_eq_true rfl) ?_
  refine j_aload_n K 0 dX2_init_4 rfl rfl ?_
  refine j_bipush K 6 dX2_init_5 rfl ?_
  refine jNewa K 12 i dX2_init_7 rfl rfl ac_int f12 a12 (by decide) (by decide) (by decide) ?_
  refine jPr K dX2_init_9 fo_X2_9 rfl hk11 rfl (fun _ => rfl) (fun _ => rfl) (Or.inr ⟨hnm, rfl⟩) ?_
  refine j_aload_n K 0 dX2_init_12 rfl rfl ?_
  refine j_bipush K 6 dX2_init_13 rfl ?_
  refine jNewa K 13 i dX2_init_15 rfl rfl ac_int f13 a13 (by decide) (by decide) (by decide) ?_
  refine jPr K dX2_init_17 fo_X2_15 rfl hk11 rfl (fun _ => rfl) (fun _ => rfl) (Or.inr ⟨hnm, rfl⟩) ?_
  refine j_aload_n K 0 dX2_init_20 rfl rfl ?_
  refine j_bipush K 6 dX2_init_21 rfl ?_
  refine jNewa K 14 i dX2_init_23 rfl rfl ac_int f14 a14 (by decide) (by decide) (by decide) ?_
  refine jPr K dX2_init_25 fo_X2_18 rfl hk11 rfl (fun _ => rfl) (fun _ => rfl) (Or.inr ⟨hnm, rfl⟩) ?_
  refine j_aload_n K 0 dX2_init_28 rfl rfl ?_
  refine j_iconst K 0 dX2_init_29 rfl ?_
  refine jPi K dX2_init_30 fo_X2_21 rfl hk11 rfl rfl (Or.inr ⟨hnm, rfl⟩) ?_
  refine j_aload_n K 0 dX2_init_33 rfl rfl ?_
  refine j_aload_n K 1 dX2_init_34 rfl rfl ?_
  refine jPr K dX2_init_35 fo_X2_25 rfl hk11 rfl (fun _ => rfl) (fun _ => rfl) (Or.inr ⟨hnm, rfl⟩) ?_
  refine j_vret K dX2_init_38 ?_
  exact ⟨rfl, rfl⟩
set_option maxRecDepth 20000 in
set_option maxHeartbeats 400000 in
theorem c_X1_init {l : Launch} {D : va_G} {ca : Nat → ClassId} {q0 : Nat} {sa : Nat → Nat} {ad : jAd} {z : Nat} {Lv : jLv} {V : jV} {Rf : jR} {i : Nat} (a b d g f : Int32) (hk10 : Lv 10 i = true) (f15 : Lv 15 i = false) (f6 : Lv 6 i = false) (f7 : Lv 7 i = false) (f8 : Lv 8 i = false) (f9 : Lv 9 i = false) (f16 : Lv 16 i = false) (f17 : Lv 17 i = false) (f11 : Lv 11 i = false) (f12 : Lv 12 i = false) (f13 : Lv 13 i = false) (f14 : Lv 14 i = false) (a15 : ad 15 i = z) (a6 : ad 6 i = z + 1) (a7 : ad 7 i = z + 2) (a8 : ad 8 i = z + 3) (a9 : ad 9 i = z + 4) (a16 : ad 16 i = z + 5) (a17 : ad 17 i = z + 6) (a11 : ad 11 i = z + 7) (a12 : ad 12 i = z + 8) (a13 : ad 13 i = z + 9) (a14 : ad 14 i = z + 10) : jMet l D ca q0 sa ad yX1_init cX1_init 7 none 2 11 52 [.ref (ad 10 i), .int a, .int b, .int d, .int g, .int f, .ref (ad 2 0)] (z, Lv, V, Rf) (jRet none (z + 11, l1 Lv i, v1 V i a b d g f, r1 Rf i)) := by
  refine j_enter RX1 [some (.ref (ad 10 i)), some (.int a), some (.int b), some (.int d), some (.int g), some (.int f), some (.ref (ad 2 0))] rfl (by decide) (by simp [Value.category]) (Nat.le_of_ble_eq_true rfl) rfl ?_
  intro p e s m args below meth c K hnm hX
  have hk15 : upL Lv 15 i 15 i = true := by simp [upL]
  have hk11 : upL (l0 (upL Lv 15 i) i) 11 i 11 i = true := by simp [upL]
  refine j_aload_n K 0 dX1_init_0 rfl rfl ?_
  refine j_objInit K dX1_init_1 ko_X1 oi_i oi_c ⟨by decide, by decide⟩ (Nat.le_of_ble_eq_true rfl) ?_
  refine j_aload_n K 0 dX1_init_4 rfl rfl ?_
  refine jNew K 15 i dX1_init_5 rfl (by decide) cl_X1_9 in_X0 ii_X0 (by decide +kernel) f15 a15 (by decide) (by decide) ?_
  refine j_dup K dX1_init_8 rfl ?_
  refine j_cIN (av := []) K dX1_init_9 m_X0_init i_X0_init kn_X1_11 rfl (c_X0_init hk15 f6 f7 f8 f9 f16 f17 a6 a7 a8 a9 a16 a17) rfl rfl (Nat.le_of_ble_eq_true rfl) ⟨by decide, by decide⟩ (by decide) (by decide) ?_
  refine jPr K dX1_init_12 fo_X1_12 rfl hk10 rfl (fun _ => rfl) (fun _ => rfl) (Or.inr ⟨hnm, rfl⟩) ?_
  refine j_aload_n K 0 dX1_init_15 rfl rfl ?_
  refine j_iload_n K 1 dX1_init_16 rfl rfl ?_
  refine jPi K dX1_init_17 fo_X1_18 rfl hk10 rfl rfl (Or.inr ⟨hnm, rfl⟩) ?_
  refine j_aload_n K 0 dX1_init_20 rfl rfl ?_
  refine j_iload_n K 2 dX1_init_21 rfl rfl ?_
  refine jPi K dX1_init_22 fo_X1_22 rfl hk10 rfl rfl (Or.inr ⟨hnm, rfl⟩) ?_
  refine j_aload_n K 0 dX1_init_25 rfl rfl ?_
  refine j_iload_n K 3 dX1_init_26 rfl rfl ?_
  refine jPi K dX1_init_27 fo_X1_25 rfl hk10 rfl rfl (Or.inr ⟨hnm, rfl⟩) ?_
  refine j_aload_n K 0 dX1_init_30 rfl rfl ?_
  refine j_iload K dX1_init_31 rfl ?_
  refine jPi K dX1_init_33 fo_X1_28 rfl hk10 rfl rfl (Or.inr ⟨hnm, rfl⟩) ?_
  refine j_aload_n K 0 dX1_init_36 rfl rfl ?_
  refine j_iload K dX1_init_37 rfl ?_
  refine jPi K dX1_init_39 fo_X1_31 rfl hk10 rfl rfl (Or.inr ⟨hnm, rfl⟩) ?_
  refine j_aload_n K 0 dX1_init_42 rfl rfl ?_
  refine jNew K 11 i dX1_init_43 rfl (by decide) cl_X1_34 in_X2 ii_X2 (by decide +kernel) f11 a11 (by decide) (by decide) ?_
  refine j_dup K dX1_init_46 rfl ?_
  refine j_aload K dX1_init_47 rfl ?_
  refine j_cI (av := [.ref (ad 2 0)]) K dX1_init_49 m_X2_init i_X2_init k_X1_36 rfl (c_X2_init hk11 f12 f13 f14 a12 a13 a14) rfl rfl (Nat.le_of_ble_eq_true rfl) ⟨by decide, by decide⟩ (by decide) (by decide) ?_
  refine jPr K dX1_init_52 fo_X1_39 rfl hk10 rfl (fun _ => rfl) (fun _ => rfl) (Or.inr ⟨hnm, rfl⟩) ?_
  refine j_vret K dX1_init_55 ?_
  exact ⟨rfl, rfl⟩
def l5 (Lv : jLv) : jLv := l3 (upL (l4 (upL (l4 (upL (upL (upL (upL Lv 1 0) 2 0) 3 0) 4 0) 0) 4 1) 1) 6 6) 6
def v5 (V : jV) : jV := fun k i j => if k = 2 ∧ i = 0 ∧ j < 6 then 5 else if k = 3 ∧ i = 0 ∧ j < 6 then -1 else up (up (up (up (v3 (clV (v4 (clV (v4 (clV (clV (clV (up (clV V 1 0) 0 0 1 0) 2 0) 3 0) 4 0) 0) 4 1) 1) 6 6) 6) 0 0 7 0) 0 0 8 (-1)) 0 0 9 0) 0 0 10 0 k i j
def r5 (Rf : jR) : jR := upR (r3 (clR (upR (r4 (clR (upR (r4 (clR (upR (clR (upR (clR (upR (clR Rf 1 0) 0 0 0 (some (1, 0))) 2 0) 0 0 2 (some (2, 0))) 3 0) 0 0 3 (some (3, 0))) 4 0) 0) 0 0 4 (some (4, 0))) 4 1) 1) 0 0 5 (some (4, 1))) 6 6) 6) 0 0 6 (some (6, 6))
/-- before the two loops, and in them -/
def v5a (V : jV) : jV := up (up (up (up (v3 (clV (v4 (clV (v4 (clV (clV (clV (up (clV V 1 0) 0 0 1 0) 2 0) 3 0) 4 0) 0) 4 1) 1) 6 6) 6) 0 0 7 0) 0 0 8 (-1)) 0 0 9 0) 0 0 10 0
def v5b (V : jV) (g h : Nat) : jV := fun k i j => if k = 2 ∧ i = 0 ∧ j < g then 5 else if k = 3 ∧ i = 0 ∧ j < h then -1 else v5a V k i j
set_option maxRecDepth 20000 in
set_option maxHeartbeats 400000 in
theorem c_X5_init {l : Launch} {D : va_G} {ca : Nat → ClassId} {q0 : Nat} {sa : Nat → Nat} {ad : jAd} {z : Nat} {Lv : jLv} {V : jV} {Rf : jR}  (hk0 : Lv 0 0 = true) (f1_0 : Lv 1 0 = false) (f2_0 : Lv 2 0 = false) (f3_0 : Lv 3 0 = false) (f4_0 : Lv 4 0 = false) (f5_0 : Lv 5 0 = false) (f4_1 : Lv 4 1 = false) (f5_1 : Lv 5 1 = false) (f6_6 : Lv 6 6 = false) (f7_6 : Lv 7 6 = false) (f8_6 : Lv 8 6 = false) (f9_6 : Lv 9 6 = false) (a1_0 : ad 1 0 = z) (a2_0 : ad 2 0 = z + 1) (a3_0 : ad 3 0 = z + 2) (a4_0 : ad 4 0 = z + 3) (a5_0 : ad 5 0 = z + 4) (a4_1 : ad 4 1 = z + 5) (a5_1 : ad 5 1 = z + 6) (a6_6 : ad 6 6 = z + 7) (a7_6 : ad 7 6 = z + 8) (a8_6 : ad 8 6 = z + 9) (a9_6 : ad 9 6 = z + 10) : jMet l D ca q0 sa ad yX5_init cX5_init 2 none 1 11 64 [.ref (ad 0 0)] (z, Lv, V, Rf) (jRet none (z + 11, l5 Lv, v5b V 6 6, r5 Rf)) := by
  refine j_enter RX5 [some (.ref (ad 0 0)), none] rfl (by decide) (by simp [Value.category]) (Nat.le_of_ble_eq_true rfl) rfl ?_
  intro p e s m args below meth c K hnm hX
  have lq : ∀ (k j : Nat) , j ≤ 6 → 6 < j + k → jW p l e (jRm 1 11 64) s m args below meth c D ca q0 ad 2 (jZ below args s D ca q0 ad 11 64 (jRet none (z + 11, l5 Lv, v5b V 6 6, r5 Rf))) 0 0 110 [some (.ref (ad 0 0)), some (.int (nI j))] [] (z + 11, l5 Lv, v5b V 6 j, r5 Rf) := by
    intro k
    induction k with
    | zero => intro j  hj1 hj2; exact absurd hj2 (by omega)
    | succ k ih =>
      intro j  hj1 hj2 
      refine j_iload_n K 1 dX5_init_110 rfl rfl ?_
      refine j_bipush K 6 dX5_init_111 rfl ?_
      refine j_icmp_ge K 129 dX5_init_113 (by decide) (fun h_113 => ?_) (fun h_113 => ?_)
      · have hj9 := nle1 h_113 (a := 6) rfl rfl (by decide) (by omega)
        have hj : j = 6 := by omega
        subst hj
        refine j_vret K dX5_init_129 ⟨rfl, rfl⟩
      · have hj3 : j < 6 := nle0 h_113 (a := 6) rfl rfl (by decide) (by omega)
        refine j_aload_n K 0 dX5_init_116 rfl rfl ?_
        refine jGr K 3 0 dX5_init_117 f_X5_23 rfl hk0 rfl rfl ?_
        refine j_iload_n K 1 dX5_init_120 rfl rfl ?_
        refine j_iconst K (-1) dX5_init_121 rfl ?_
        refine jIast K (j) dX5_init_122 rfl rfl rfl (by omega) ?_
        refine j_iinc (v := nI (j + 1)) K dX5_init_123 rfl (by decide) (nI_1 _) ?_
        refine j_goto K 110 dX5_init_126 (by decide) ?_
        refine j_eqV (V' := v5b V 6 (j + 1)) (fun a b e => ?_) (ih (j + 1) (by omega) (by omega))
        simp only [up, v5b]
        grind
  have lp : ∀ (k j : Nat), j ≤ 6 → 6 < j + k → jW p l e (jRm 1 11 64) s m args below meth c D ca q0 ad 2 (jZ below args s D ca q0 ad 11 64 (jRet none (z + 11, l5 Lv, v5b V 6 6, r5 Rf))) 0 0 89 [some (.ref (ad 0 0)), some (.int (nI j))] [] (z + 11, l5 Lv, v5b V j 0, r5 Rf) := by
    intro k
    induction k with
    | zero => intro j hj1 hj2; exact absurd hj2 (by omega)
    | succ k ih =>
      intro j hj1 hj2
      refine j_iload_n K 1 dX5_init_89 rfl rfl ?_
      refine j_bipush K 6 dX5_init_90 rfl ?_
      refine j_icmp_ge K 108 dX5_init_92 (by decide) (fun h_92 => ?_) (fun h_92 => ?_)
      · have hj9 := nle1 h_92 (a := 6) rfl rfl (by decide) (by omega)
        have hj : j = 6 := by omega
        subst hj
        refine j_iconst K 0 dX5_init_108 rfl ?_
        refine j_istore_n K 1 dX5_init_109 rfl (by decide) ?_
        exact lq 7 0 (by omega) (by omega)
      · have hj3 : j < 6 := nle0 h_92 (a := 6) rfl rfl (by decide) (by omega)
        refine j_aload_n K 0 dX5_init_95 rfl rfl ?_
        refine jGr K 2 0 dX5_init_96 f_X5_19 rfl hk0 rfl rfl ?_
        refine j_iload_n K 1 dX5_init_99 rfl rfl ?_
        refine j_iconst K 5 dX5_init_100 rfl ?_
        refine jIast K (j) dX5_init_101 rfl rfl rfl (by omega) ?_
        refine j_iinc (v := nI (j + 1)) K dX5_init_102 rfl (by decide) (nI_1 _) ?_
        refine j_goto K 89 dX5_init_105 (by decide) ?_
        refine j_eqV (V' := v5b V (j + 1) 0) (fun a b e => ?_) (ih (j + 1) (by omega) (by omega))
        simp only [up, v5b]
        grind
  refine j_aload_n K 0 dX5_init_0 rfl rfl ?_
  refine j_objInit K dX5_init_1 ko_X5 oi_i oi_c ⟨by decide, by decide⟩ (Nat.le_of_ble_eq_true rfl) ?_
  refine j_aload_n K 0 dX5_init_4 rfl rfl ?_
  refine j_bipush K 6 dX5_init_5 rfl ?_
  refine jNewq K 1 0 dX5_init_7 rfl rfl cl_X5_9 f1_0 a1_0 (by decide) (by decide) (by decide) ?_
  refine jPr K dX5_init_10 fo_X5_11 rfl hk0 rfl (fun _ => rfl) (fun _ => rfl) (Or.inr ⟨hnm, rfl⟩) ?_
  refine j_aload_n K 0 dX5_init_13 rfl rfl ?_
  refine j_iconst K 0 dX5_init_14 rfl ?_
  refine jPi K dX5_init_15 fo_X5_15 rfl hk0 rfl rfl (Or.inr ⟨hnm, rfl⟩) ?_
  refine j_aload_n K 0 dX5_init_18 rfl rfl ?_
  refine j_bipush K 6 dX5_init_19 rfl ?_
  refine jNewa K 2 0 dX5_init_21 rfl rfl ac_int f2_0 a2_0 (by decide) (by decide) (by decide) ?_
  refine jPr K dX5_init_23 fo_X5_19 rfl hk0 rfl (fun _ => rfl) (fun _ => rfl) (Or.inr ⟨hnm, rfl⟩) ?_
  refine j_aload_n K 0 dX5_init_26 rfl rfl ?_
  refine j_bipush K 6 dX5_init_27 rfl ?_
  refine jNewa K 3 0 dX5_init_29 rfl rfl ac_int f3_0 a3_0 (by decide) (by decide) (by decide) ?_
  refine jPr K dX5_init_31 fo_X5_23 rfl hk0 rfl (fun _ => rfl) (fun _ => rfl) (Or.inr ⟨hnm, rfl⟩) ?_
  refine j_aload_n K 0 dX5_init_34 rfl rfl ?_
  refine jNew K 4 0 dX5_init_35 rfl (by decide) cl_X5_26 in_X4 ii_X4 (by decide +kernel) f4_0 a4_0 (by decide) (by decide) ?_
  refine j_dup K dX5_init_38 rfl ?_
  refine j_cIN (av := []) K dX5_init_39 m_X4_init i_X4_init kn_X5_28 rfl (c_X4_init (q := 0) rfl f5_0 a5_0) rfl rfl (Nat.le_of_ble_eq_true rfl) ⟨by decide, by decide⟩ (by decide) (by decide) ?_
  refine jPr K dX5_init_42 fo_X5_29 rfl hk0 rfl (fun _ => rfl) (fun _ => rfl) (Or.inr ⟨hnm, rfl⟩) ?_
  refine j_aload_n K 0 dX5_init_45 rfl rfl ?_
  refine jNew K 4 1 dX5_init_46 rfl (by decide) cl_X5_26 in_X4 ii_X4 (by decide +kernel) f4_1 a4_1 (by decide) (by decide) ?_
  refine j_dup K dX5_init_49 rfl ?_
  refine j_cIN (av := []) K dX5_init_50 m_X4_init i_X4_init kn_X5_28 rfl (c_X4_init (q := 1) rfl f5_1 a5_1) rfl rfl (Nat.le_of_ble_eq_true rfl) ⟨by decide, by decide⟩ (by decide) (by decide) ?_
  refine jPr K dX5_init_53 fo_X5_33 rfl hk0 rfl (fun _ => rfl) (fun _ => rfl) (Or.inr ⟨hnm, rfl⟩) ?_
  refine j_aload_n K 0 dX5_init_56 rfl rfl ?_
  refine jNew K 6 6 dX5_init_57 rfl (by decide) cl_X5_36 in_X3 ii_X3 (by decide +kernel) f6_6 a6_6 (by decide) (by decide) ?_
  refine j_dup K dX5_init_60 rfl ?_
  refine j_cIN (av := []) K dX5_init_61 m_X3_init i_X3_init kn_X5_38 rfl (c_X3_init (t := 6) rfl f7_6 f8_6 f9_6 a7_6 a8_6 a9_6) rfl rfl (Nat.le_of_ble_eq_true rfl) ⟨by decide, by decide⟩ (by decide) (by decide) ?_
  refine jPr K dX5_init_64 fo_X5_39 rfl hk0 rfl (fun _ => rfl) (fun _ => rfl) (Or.inr ⟨hnm, rfl⟩) ?_
  refine j_aload_n K 0 dX5_init_67 rfl rfl ?_
  refine j_iconst K 0 dX5_init_68 rfl ?_
  refine jPi K dX5_init_69 fo_X5_43 rfl hk0 rfl rfl (Or.inr ⟨hnm, rfl⟩) ?_
  refine j_aload_n K 0 dX5_init_72 rfl rfl ?_
  refine j_iconst K (-1) dX5_init_73 rfl ?_
  refine jPi K dX5_init_74 fo_X5_46 rfl hk0 rfl rfl (Or.inr ⟨hnm, rfl⟩) ?_
  refine j_aload_n K 0 dX5_init_77 rfl rfl ?_
  refine j_iconst K 0 dX5_init_78 rfl ?_
  refine jPi K dX5_init_79 fo_X5_49 rfl hk0 rfl rfl (Or.inr ⟨hnm, rfl⟩) ?_
  refine j_aload_n K 0 dX5_init_82 rfl rfl ?_
  refine j_iconst K 0 dX5_init_83 rfl ?_
  refine jPi K dX5_init_84 fo_X5_52 rfl hk0 rfl rfl (Or.inr ⟨hnm, rfl⟩) ?_
  refine j_iconst K 0 dX5_init_87 rfl ?_
  refine j_istore_n K 1 dX5_init_88 rfl (by decide) ?_
  refine j_eqV (V' := v5b V 0 0) (fun a b e => ?_) (lp 7 0 (by omega) (by omega))
  simp only [v5b]
  rw [if_neg (by omega), if_neg (by omega)]
  rfl
