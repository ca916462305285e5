section J
variable {p : Program} {l : Launch} {e : Env} {R : Room} {s : State} {m : MethodId} {args : Array Value} {below : List Frame} {meth : Method} {c : Code} {D : va_G} {ca : Nat → ClassId} {q0 : Nat} {sa : Nat → Nat} {ad : jAd} {own : String} {cc : ByteArray} {nL : Nat} {ret : Option FieldType} {Q : State → Prop} {kc ks pc : Nat} {ls : List (Option Value)} {st : List Value} {M : jM}
theorem j_iincW (K : jK p l R s m args meth c D ca q0 sa own cc nL ret) {i : Nat} {n : Int} {x v : Int32} (hd : decode cc pc = .ok (.iinc i n, 6)) (hl : ls[i]? = some (some (.int x))) (hn : i < nL) (hv : x + Int32.ofInt n = v) (kk : jW p l e R s m args below meth c D ca q0 ad nL Q kc ks (pc + 6) (ls.set i (some (.int v))) st M) : jW p l e R s m args below meth c D ca q0 ad nL Q kc ks pc ls st M := by
  intro H locs lsC cells slots h1 h2 h3 h4 h5
  obtain ⟨k, hk⟩ := List.getElem?_of_mem (jl_mem.mpr hl)
  exact lv_iincW K.1 K.2.1 hd (jL_has h1) hk hv hn rfl (fun lsC' h' => kk H locs lsC' cells slots (jL_set h1 rfl h') h2 h3 h4 h5)
end J
def addV (V : jV) (q c : Nat) (x : Int32) : jV := up (up V 5 q c x) 4 q 1 (V 4 q 1 + 1)
set_option maxRecDepth 20000 in
set_option maxHeartbeats 400000 in
theorem c_X4_add {l : Launch} {D : va_G} {ca : Nat → ClassId} {q0 : Nat} {sa : Nat → Nat} {ad : jAd} {z n q cnt : Nat} {V : jV} (x : Int32) (hq : decide (q < 2) = true) (hc : V 4 q 1 = nI cnt) (hcnt : cnt < 12) : jMet l D ca q0 sa ad yX4_add cX4_add 2 none 0 0 0 [.ref (ad 4 q), .int x] (jS z n V) (jRet none (jS z n (addV V q cnt x))) := by
  refine j_enter RX4 [some (.ref (ad 4 q)), some (.int x)] rfl (by decide) (by simp [Value.category]) (Nat.le_of_ble_eq_true rfl) rfl ?_
  intro p e s m args below meth c K hnm hX
  refine j_aload_n K 0 dX4_add_0 rfl rfl ?_
  refine jGi K dX4_add_1 f_X4_15 rfl hq rfl ?_
  refine j_bipush K 12 dX4_add_4 rfl ?_
  refine j_icmp_ge K 29 dX4_add_6 (by decide) (fun h_6 => ?_) (fun h_6 => ?_)
  · exact absurd (nle1 h_6 (a := 12) rfl hc (by decide) (by omega)) (by omega)
  · refine j_aload_n K 0 dX4_add_9 rfl rfl ?_
    refine jGr K 5 q dX4_add_10 f_X4_9 rfl hq rfl rfl ?_
    refine j_aload_n K 0 dX4_add_13 rfl rfl ?_
    refine jGi K dX4_add_14 f_X4_15 rfl hq rfl ?_
    refine j_iload_n K 1 dX4_add_17 rfl rfl ?_
    refine jIast K (cnt) dX4_add_18 rfl hq hc (by omega) ?_
    refine j_aload_n K 0 dX4_add_19 rfl rfl ?_
    refine j_dup K dX4_add_20 rfl ?_
    refine jGi K dX4_add_21 f_X4_15 rfl hq rfl ?_
    refine j_iconst K 1 dX4_add_24 rfl ?_
    refine j_iadd K dX4_add_25 ?_
    refine jPi K dX4_add_26 fo_X4_15 rfl hq rfl rfl (Or.inl rfl) ?_
    refine j_vret K dX4_add_29 ?_
    exact ⟨rfl, rfl⟩
def sumT (a : Nat → Int32) : Nat → Int32
  | 0 => 0
  | j + 1 => sumT a j + a j
def tcon (V : jV) (q : Nat) : Nat → Int32 := fun j => V 5 q j
set_option maxRecDepth 20000 in
set_option maxHeartbeats 400000 in
theorem c_X4_inOldest {l : Launch} {D : va_G} {ca : Nat → ClassId} {q0 : Nat} {sa : Nat → Nat} {ad : jAd} {z n q t : Nat} {V : jV} (x : Int32) (hq : decide (q < 2) = true) (hx : x = nI t) (ht12 : t ≤ 12) : jMet l D ca q0 sa ad yX4_inOldest cX4_inOldest 4 (some .int) 0 0 0 [.ref (ad 4 q), .int x] (jS z n V) (jRet (some (.int (sumT (tcon V q) t))) (jS z n V)) := by
  refine j_enter RX4 [some (.ref (ad 4 q)), some (.int x), none, none] rfl (by decide) (by simp [Value.category]) (Nat.le_of_ble_eq_true rfl) rfl ?_
  intro p e s m args below meth c K hnm hX
  have lp : ∀ (k j : Nat) , j ≤ t → t < j + k → jW p l e (jRm 0 0 0) s m args below meth c D ca q0 ad 4 (jZ below args s D ca q0 ad 0 0 (jRet (some (.int (sumT (tcon V q) t))) (jS z n V))) 0 0 4 [some (.ref (ad 4 q)), some (.int x), some (.int (sumT (tcon V q) j)), some (.int (nI j))] [] (jS z n V) := by
    intro k
    induction k with
    | zero => intro j  hj1 hj2; exact absurd hj2 (by omega)
    | succ k ih =>
      intro j  hj1 hj2 
      refine j_iload_n K 3 dX4_inOldest_4 rfl rfl ?_
      refine j_iload_n K 1 dX4_inOldest_5 rfl rfl ?_
      refine j_icmp_ge K 24 dX4_inOldest_6 (by decide) (fun h_6 => ?_) (fun h_6 => ?_)
      · have hj9 := nle1 h_6 hx rfl (by omega) (by omega)
        have hj : j = t := by omega
        subst hj
        refine j_iload_n K 2 dX4_inOldest_24 rfl rfl ?_
        refine j_iret K dX4_inOldest_25 ?_
        exact ⟨rfl, rfl⟩
      · have hj3 : j < t := nle0 h_6 hx rfl (by omega) (by omega)
        refine j_iload_n K 2 dX4_inOldest_9 rfl rfl ?_
        refine j_aload_n K 0 dX4_inOldest_10 rfl rfl ?_
        refine jGr K 5 q dX4_inOldest_11 f_X4_9 rfl hq rfl rfl ?_
        refine j_iload_n K 3 dX4_inOldest_14 rfl rfl ?_
        refine jIald K (j) dX4_inOldest_15 rfl hq rfl (by omega) ?_
        refine j_iadd K dX4_inOldest_16 ?_
        refine j_istore_n K 2 dX4_inOldest_17 rfl (by decide) ?_
        refine j_iinc (v := nI (j + 1)) K dX4_inOldest_18 rfl (by decide) (nI_1 _) ?_
        refine j_goto K 4 dX4_inOldest_21 (by decide) ?_
        exact ih (j + 1) (by omega) (by omega)
  refine j_iconst K 0 dX4_inOldest_0 rfl ?_
  refine j_istore_n K 2 dX4_inOldest_1 rfl (by decide) ?_
  refine j_iconst K 0 dX4_inOldest_2 rfl ?_
  refine j_istore_n K 3 dX4_inOldest_3 rfl (by decide) ?_
  exact lp (t + 1) 0 (by omega) (by omega)
set_option maxRecDepth 20000 in
set_option maxHeartbeats 400000 in
theorem c_X4_oldestWith {l : Launch} {D : va_G} {ca : Nat → ClassId} {q0 : Nat} {sa : Nat → Nat} {ad : jAd} {z n q cnt : Nat} {V : jV} (x : Int32) (hq : decide (q < 2) = true) (hc : V 4 q 1 = nI cnt) (hcnt : cnt ≤ 12) : jMet l D ca q0 sa ad yX4_oldestWith cX4_oldestWith 3 (some .int) 0 0 0 [.ref (ad 4 q), .int x] (jS z n V) (jRet (some (.int (fres (fun j => decide (x ≤ V 5 q j)) cnt))) (jS z n V)) := by
  refine j_enter RX4 [some (.ref (ad 4 q)), some (.int x), none] rfl (by decide) (by simp [Value.category]) (Nat.le_of_ble_eq_true rfl) rfl ?_
  intro p e s m args below meth c K hnm hX
  have lp : ∀ (k j : Nat) , j ≤ cnt → cnt < j + k → (∀ j', j' < j → decide (x ≤ V 5 q j') = false) → jW p l e (jRm 0 0 0) s m args below meth c D ca q0 ad 3 (jZ below args s D ca q0 ad 0 0 (jRet (some (.int (fres (fun j => decide (x ≤ V 5 q j)) cnt))) (jS z n V))) 0 0 2 [some (.ref (ad 4 q)), some (.int x), some (.int (nI j))] [] (jS z n V) := by
    intro k
    induction k with
    | zero => intro j  hj1 hj2; exact absurd hj2 (by omega)
    | succ k ih =>
      intro j  hj1 hj2 hno
      refine j_iload_n K 2 dX4_oldestWith_2 rfl rfl ?_
      refine j_aload_n K 0 dX4_oldestWith_3 rfl rfl ?_
      refine jGi K dX4_oldestWith_4 f_X4_15 rfl hq rfl ?_
      refine j_icmp_ge K 28 dX4_oldestWith_7 (by decide) (fun h_7 => ?_) (fun h_7 => ?_)
      · have hj9 := nle1 h_7 hc rfl (by omega) (by omega)
        have hj : j = cnt := by omega
        subst hj
        refine j_iconst K (-1) dX4_oldestWith_28 rfl ?_
        refine j_iret K dX4_oldestWith_29 ?_
        exact jret_I (by unfold fres; rw [fidx_eq (Nat.le_refl _) hno (fun h => absurd h (Nat.lt_irrefl _)), if_neg (Nat.lt_irrefl _)])
      · have hj3 : j < cnt := nle0 h_7 hc rfl (by omega) (by omega)
        refine j_aload_n K 0 dX4_oldestWith_10 rfl rfl ?_
        refine jGr K 5 q dX4_oldestWith_11 f_X4_9 rfl hq rfl rfl ?_
        refine j_iload_n K 2 dX4_oldestWith_14 rfl rfl ?_
        refine jIald K (j) dX4_oldestWith_15 rfl hq rfl (by omega) ?_
        refine j_iload_n K 1 dX4_oldestWith_16 rfl rfl ?_
        refine j_icmp_lt K 22 dX4_oldestWith_17 (by decide) (fun h_17 => ?_) (fun h_17 => ?_)
        · refine j_iinc (v := nI (j + 1)) K dX4_oldestWith_22 rfl (by decide) (nI_1 _) ?_
          refine j_goto K 2 dX4_oldestWith_25 (by decide) ?_
          exact ih (j + 1) (by omega) (by omega) (fun j' hj' => (Nat.lt_succ_iff_lt_or_eq.mp hj').elim (hno j') (fun e => by subst e; exact decide_eq_false (Int32.not_le.mpr h_17)))
        · refine j_iload_n K 2 dX4_oldestWith_20 rfl rfl ?_
          refine j_iret K dX4_oldestWith_21 ?_
          exact jret_I (by unfold fres; rw [fidx_eq (j := j) (by omega) hno (fun _ => decide_eq_true (Int32.not_lt.mp h_17)), if_pos hj3])
  refine j_iconst K 0 dX4_oldestWith_0 rfl ?_
  refine j_istore_n K 2 dX4_oldestWith_1 rfl (by decide) ?_
  exact lp (cnt + 1) 0 (by omega) (by omega) (fun j' h => absurd h (by omega))
/-- the tins of colour q, the first t away, as far as the place u -/
def rmoV (V : jV) (q t u : Nat) : jV := fun k a j => if k = 5 ∧ a = q ∧ j + t < u then V 5 q (j + t) else V k a j
def rmoF (V : jV) (q t c : Nat) : jV := up (rmoV V q t c) 4 q 1 (V 4 q 1 - nI t)
set_option maxRecDepth 20000 in
set_option maxHeartbeats 400000 in
theorem c_X4_removeOldest {l : Launch} {D : va_G} {ca : Nat → ClassId} {q0 : Nat} {sa : Nat → Nat} {ad : jAd} {z n q t cnt : Nat} {V : jV} (x : Int32) (hq : decide (q < 2) = true) (hx : x = nI t) (hc : V 4 q 1 = nI cnt) (hcnt : cnt ≤ 12) (ht : t ≤ cnt) : jMet l D ca q0 sa ad yX4_removeOldest cX4_removeOldest 3 none 0 0 0 [.ref (ad 4 q), .int x] (jS z n V) (jRet none (jS z n (rmoF V q t cnt))) := by
  refine j_enter RX4 [some (.ref (ad 4 q)), some (.int x), none] rfl (by decide) (by simp [Value.category]) (Nat.le_of_ble_eq_true rfl) rfl ?_
  intro p e s m args below meth c K hnm hX
  have lp : ∀ (k j : Nat) , j ≤ cnt → cnt < j + k → t ≤ j → jW p l e (jRm 0 0 0) s m args below meth c D ca q0 ad 3 (jZ below args s D ca q0 ad 0 0 (jRet none (jS z n (rmoF V q t cnt)))) 0 0 2 [some (.ref (ad 4 q)), some (.int x), some (.int (nI j))] [] (jS z n (rmoV V q t j)) := by
    intro k
    induction k with
    | zero => intro j  hj1 hj2; exact absurd hj2 (by omega)
    | succ k ih =>
      intro j  hj1 hj2 htj
      refine j_iload_n K 2 dX4_removeOldest_2 rfl rfl ?_
      refine j_aload_n K 0 dX4_removeOldest_3 rfl rfl ?_
      refine jGi K dX4_removeOldest_4 f_X4_15 rfl hq rfl ?_
      refine j_icmp_ge K 30 dX4_removeOldest_7 (by decide) (fun h_7 => ?_) (fun h_7 => ?_)
      · have hj9 := nle1 h_7 hc rfl (by omega) (by omega)
        have hj : j = cnt := by omega
        subst hj
        refine j_aload_n K 0 dX4_removeOldest_30 rfl rfl ?_
        refine j_dup K dX4_removeOldest_31 rfl ?_
        refine jGi K dX4_removeOldest_32 f_X4_15 rfl hq rfl ?_
        refine j_iload_n K 1 dX4_removeOldest_35 rfl rfl ?_
        refine j_isub K dX4_removeOldest_36 ?_
        refine jPi K dX4_removeOldest_37 fo_X4_15 rfl hq rfl rfl (Or.inl rfl) ?_
        refine j_vret K dX4_removeOldest_40 ?_
        refine jret_V (fun a b e => ?_)
        unfold rmoF
        rw [hx]
        rfl
      · have hj3 : j < cnt := nle0 h_7 hc rfl (by omega) (by omega)
        refine j_aload_n K 0 dX4_removeOldest_10 rfl rfl ?_
        refine jGr K 5 q dX4_removeOldest_11 f_X4_9 rfl hq rfl rfl ?_
        refine j_iload_n K 2 dX4_removeOldest_14 rfl rfl ?_
        refine j_iload_n K 1 dX4_removeOldest_15 rfl rfl ?_
        refine j_isub K dX4_removeOldest_16 ?_
        refine j_aload_n K 0 dX4_removeOldest_17 rfl rfl ?_
        refine jGr K 5 q dX4_removeOldest_18 f_X4_9 rfl hq rfl rfl ?_
        refine j_iload_n K 2 dX4_removeOldest_21 rfl rfl ?_
        refine jIald K (j) dX4_removeOldest_22 rfl hq rfl (by omega) ?_
        refine jIast K ((j - t)) dX4_removeOldest_23 rfl hq (jx_sub (by rfl) hx (by omega)) (by omega) ?_
        refine j_iinc (v := nI (j + 1)) K dX4_removeOldest_24 rfl (by decide) (nI_1 _) ?_
        refine j_goto K 2 dX4_removeOldest_27 (by decide) ?_
        refine j_eqV (V' := rmoV V q t (j + 1)) (fun a b e => ?_) (ih (j + 1) (by omega) (by omega) (by omega))
        simp only [up, rmoV]
        grind
  refine j_iload_n K 1 dX4_removeOldest_0 rfl rfl ?_
  refine j_istore_n K 2 dX4_removeOldest_1 rfl (by decide) ?_
  rw [hx]
  rw [hx] at lp
  refine j_eqV (V' := rmoV V q t t) (fun a b e => ?_) (lp (cnt + 1) t (by omega) (by omega) (Nat.le_refl _))
  simp only [rmoV]
  rw [if_neg (by omega)]
def tkV (V : jV) (q : Nat) (x : Int32) (g c : Nat) : jV := rmoF (up (up V 4 q 2 (V 4 q 2 + sumT (tcon V q) g)) 5 q g (V 5 q g - x)) q (if V 5 q g - x = 0 then g + 1 else g) c
set_option maxRecDepth 20000 in
set_option maxHeartbeats 400000 in
theorem c_X4_take_no {l : Launch} {D : va_G} {ca : Nat → ClassId} {q0 : Nat} {sa : Nat → Nat} {ad : jAd} {z n q cnt : Nat} {V : jV} (x : Int32) (hq : decide (q < 2) = true) (hc : V 4 q 1 = nI cnt) (hcnt : cnt ≤ 12) (hg : ¬ fidx (fun j => decide (x ≤ V 5 q j)) cnt < cnt) : jMet l D ca q0 sa ad yX4_take cX4_take 3 (some .boolean) 1 0 0 [.ref (ad 4 q), .int x] (jS z n V) (jRet (some (.int 0)) (jS z n V)) := by
  refine j_enter RX4 [some (.ref (ad 4 q)), some (.int x), none] rfl (by decide) (by simp [Value.category]) (Nat.le_of_ble_eq_true rfl) rfl ?_
  intro p e s m args below meth c K hnm hX
  have hfr : fres (fun j => decide (x ≤ V 5 q j)) cnt = -1 := by unfold fres; rw [if_neg hg]
  refine j_aload_n K 0 dX4_take_0 rfl rfl ?_
  refine j_iload_n K 1 dX4_take_1 rfl rfl ?_
  refine j_cV1r K dX4_take_2 m_X4_oldestWith v_X4_oldestWith k_X4_22 rfl ⟨by decide, rfl⟩ hq (c_X4_oldestWith _ hq hc hcnt) (Nat.le_of_ble_eq_true rfl) ⟨by decide, by decide⟩ (by decide) (by decide) ?_
  refine j_istore_n K 2 dX4_take_5 rfl (by decide) ?_
  refine j_iload_n K 2 dX4_take_6 rfl rfl ?_
  refine j_iconst K (-1) dX4_take_7 rfl ?_
  refine j_icmp_ne K 13 dX4_take_8 (by decide) (fun h_8 => ?_) (fun h_8 => ?_)
  · exact absurd hfr h_8
  · refine j_iconst K 0 dX4_take_11 rfl ?_
    refine j_zret K dX4_take_12 (by simp) ?_
    exact ⟨rfl, rfl⟩
set_option maxRecDepth 20000 in
set_option maxHeartbeats 400000 in
theorem c_X4_take_ok {l : Launch} {D : va_G} {ca : Nat → ClassId} {q0 : Nat} {sa : Nat → Nat} {ad : jAd} {z n q g cnt : Nat} {V : jV} (x : Int32) (hq : decide (q < 2) = true) (hc : V 4 q 1 = nI cnt) (hcnt : cnt ≤ 12) (hg : fidx (fun j => decide (x ≤ V 5 q j)) cnt = g) (hgc : g < cnt) : jMet l D ca q0 sa ad yX4_take cX4_take 3 (some .boolean) 1 0 0 [.ref (ad 4 q), .int x] (jS z n V) (jRet (some (.int 1)) (jS z n (tkV V q x g cnt))) := by
  refine j_enter RX4 [some (.ref (ad 4 q)), some (.int x), none] rfl (by decide) (by simp [Value.category]) (Nat.le_of_ble_eq_true rfl) rfl ?_
  intro p e s m args below meth c K hnm hX
  have hfr : fres (fun j => decide (x ≤ V 5 q j)) cnt = nI g := by unfold fres; rw [hg, if_pos hgc]
  refine j_aload_n K 0 dX4_take_0 rfl rfl ?_
  refine j_iload_n K 1 dX4_take_1 rfl rfl ?_
  refine j_cV1r K dX4_take_2 m_X4_oldestWith v_X4_oldestWith k_X4_22 rfl ⟨by decide, rfl⟩ hq (c_X4_oldestWith _ hq hc hcnt) (Nat.le_of_ble_eq_true rfl) ⟨by decide, by decide⟩ (by decide) (by decide) ?_
  refine j_istore_n K 2 dX4_take_5 rfl (by decide) ?_
  refine j_iload_n K 2 dX4_take_6 rfl rfl ?_
  refine j_iconst K (-1) dX4_take_7 rfl ?_
  refine j_icmp_ne K 13 dX4_take_8 (by decide) (fun h_8 => ?_) (fun h_8 => ?_)
  · refine j_aload_n K 0 dX4_take_13 rfl rfl ?_
    refine j_dup K dX4_take_14 rfl ?_
    refine jGi K dX4_take_15 f_X4_19 rfl hq rfl ?_
    refine j_aload_n K 0 dX4_take_18 rfl rfl ?_
    refine j_iload_n K 2 dX4_take_19 rfl rfl ?_
    refine j_cV1r K dX4_take_20 m_X4_inOldest v_X4_inOldest k_X4_26 rfl ⟨by decide, rfl⟩ hq (c_X4_inOldest _ hq hfr (by omega)) (Nat.le_of_ble_eq_true rfl) ⟨by decide, by decide⟩ (by decide) (by decide) ?_
    refine j_iadd K dX4_take_23 ?_
    refine jPi K dX4_take_24 fo_X4_19 rfl hq rfl rfl (Or.inl rfl) ?_
    refine j_aload_n K 0 dX4_take_27 rfl rfl ?_
    refine jGr K 5 q dX4_take_28 f_X4_9 rfl hq rfl rfl ?_
    refine j_iload_n K 2 dX4_take_31 rfl rfl ?_
    refine j_dup2 K dX4_take_32 rfl rfl ?_
    refine jIald K (g) dX4_take_33 rfl hq hfr (by omega) ?_
    refine j_iload_n K 1 dX4_take_34 rfl rfl ?_
    refine j_isub K dX4_take_35 ?_
    refine jIast K (g) dX4_take_36 rfl hq hfr (by omega) ?_
    refine j_aload_n K 0 dX4_take_37 rfl rfl ?_
    refine j_aload_n K 0 dX4_take_38 rfl rfl ?_
    refine jGr K 5 q dX4_take_39 f_X4_9 rfl hq rfl rfl ?_
    refine j_iload_n K 2 dX4_take_42 rfl rfl ?_
    refine jIald K (g) dX4_take_43 rfl hq hfr (by omega) ?_
    refine j_if_ne K 53 dX4_take_44 (by decide) (fun h_44 => ?_) (fun h_44 => ?_)
    · refine j_iload_n K 2 dX4_take_53 rfl rfl ?_
      refine j_cV1n K dX4_take_54 m_X4_removeOldest v_X4_removeOldest k_X4_29 rfl ⟨by decide, rfl⟩ hq (c_X4_removeOldest _ hq hfr (by simp [up, hc]) hcnt (by omega)) (Nat.le_of_ble_eq_true rfl) ⟨by decide, by decide⟩ (by decide) (by decide) ?_
      refine j_iconst K 1 dX4_take_57 rfl ?_
      refine j_zret K dX4_take_58 (by simp) ?_
      refine jret_V (fun a b e => ?_)
      unfold tkV
      first
      | (have h9 : V 5 q g - x = 0 := by simpa [up] using h_44
         rw [if_pos h9]; rfl)
      | (have h9 : ¬ V 5 q g - x = 0 := by simpa [up] using h_44
         rw [if_neg h9]; rfl)
    · refine j_iload_n K 2 dX4_take_47 rfl rfl ?_
      refine j_iconst K 1 dX4_take_48 rfl ?_
      refine j_iadd K dX4_take_49 ?_
      refine j_goto K 54 dX4_take_50 (by decide) ?_
      refine j_cV1n K dX4_take_54 m_X4_removeOldest v_X4_removeOldest k_X4_29 rfl ⟨by decide, rfl⟩ hq (c_X4_removeOldest _ hq (jx_add (b := 1) hfr rfl) (by simp [up, hc]) hcnt (by omega)) (Nat.le_of_ble_eq_true rfl) ⟨by decide, by decide⟩ (by decide) (by decide) ?_
      refine j_iconst K 1 dX4_take_57 rfl ?_
      refine j_zret K dX4_take_58 (by simp) ?_
      refine jret_V (fun a b e => ?_)
      unfold tkV
      first
      | (have h9 : V 5 q g - x = 0 := by simpa [up] using h_44
         rw [if_pos h9]; rfl)
      | (have h9 : ¬ V 5 q g - x = 0 := by simpa [up] using h_44
         rw [if_neg h9]; rfl)
  · exact absurd (hfr.symm.trans h_8) (nI_neg1 (by omega))
