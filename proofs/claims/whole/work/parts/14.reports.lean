theorem jx_dec (x : Int32) : x + Int32.ofInt (-1) = x - 1 := by rw [Int32.sub_eq_add_neg]; rfl
theorem jret_V {v : Option Value} {z : Nat} {Lv : jLv} {V V' : jV} {Rf : jR} (h : ∀ k i j, V k i j = V' k i j) : jRet v (z, Lv, V', Rf) (.inl v) (z, Lv, V, Rf) := by
  have : V = V' := by funext k i j; exact h k i j
  rw [this]; exact ⟨rfl, rfl⟩
theorem jret_I {x y : Int32} {M : jM} (h : x = y) : jRet (some (.int y)) M (.inl (some (.int x))) M := by rw [h]; exact ⟨rfl, rfl⟩
theorem jret_IV {x y : Int32} {z : Nat} {Lv : jLv} {V V' : jV} {Rf : jR} (h0 : x = y) (h : ∀ k i j, V k i j = V' k i j) : jRet (some (.int y)) (z, Lv, V', Rf) (.inl (some (.int x))) (z, Lv, V, Rf) := by
  rw [h0]; exact jret_V h
section J
variable {p : Program} {l : Launch} {e : Env} {R : Room} {s : State} {m : MethodId} {args : Array Value} {below : List Frame} {meth : Method} {c : Code} {D : va_G} {ca : Nat → ClassId} {q0 : Nat} {sa : Nat → Nat} {ad : jAd} {own : String} {cc : ByteArray} {nL : Nat} {ret : Option FieldType} {Q : State → Prop} {kc ks pc : Nat} {ls : List (Option Value)} {st : List Value} {M : jM}
theorem j_eqV {z : Nat} {Lv : jLv} {V V' : jV} {Rf : jR} (h : ∀ k i j, V k i j = V' k i j) (kk : jW p l e R s m args below meth c D ca q0 ad nL Q kc ks pc ls st (z, Lv, V', Rf)) : jW p l e R s m args below meth c D ca q0 ad nL Q kc ks pc ls st (z, Lv, V, Rf) := by
  have : V = V' := by funext k i j; exact h k i j
  rw [this]; exact kk
end J
/-- the first place below c where P holds, c if there is none -/
def fidx (P : Nat → Bool) : Nat → Nat
  | 0 => 0
  | c + 1 => if fidx P c < c then fidx P c else if P c = true then c else c + 1
theorem fidx_le (P : Nat → Bool) (c : Nat) : fidx P c ≤ c := by
  induction c with
  | zero => exact Nat.le_refl _
  | succ c ih => unfold fidx; split <;> (try split) <;> omega
theorem fidx_lt {P : Nat → Bool} {c j : Nat} (h : j < fidx P c) : P j = false := by
  induction c with
  | zero => exact absurd h (by unfold fidx; omega)
  | succ c ih =>
    unfold fidx at h
    have hl := fidx_le P c
    split at h
    · exact ih h
    · split at h
      · exact ih (by omega)
      · rename_i h1 h2
        by_cases hj : j = c
        · subst hj; simpa using h2
        · exact ih (by omega)
theorem fidx_at {P : Nat → Bool} {c : Nat} (h : fidx P c < c) : P (fidx P c) = true := by
  induction c with
  | zero => exact absurd h (by omega)
  | succ c ih =>
    by_cases h1 : fidx P c < c
    · have : fidx P (c + 1) = fidx P c := by rw [fidx, if_pos h1]
      rw [this]; exact ih h1
    · by_cases h2 : P c = true
      · have : fidx P (c + 1) = c := by rw [fidx, if_neg h1, if_pos h2]
        rw [this]; exact h2
      · have : fidx P (c + 1) = c + 1 := by rw [fidx, if_neg h1, if_neg h2]
        omega
theorem fidx_eq {P : Nat → Bool} {c j : Nat} (h1 : j ≤ c) (h2 : ∀ j', j' < j → P j' = false) (h3 : j < c → P j = true) : fidx P c = j := by
  have hl := fidx_le P c
  rcases Nat.lt_trichotomy (fidx P c) j with h | h | h
  · have := fidx_at (P := P) (c := c) (by omega)
    rw [h2 _ h] at this; cases this
  · exact h
  · have := fidx_lt h
    rw [h3 (by omega)] at this; cases this
def fres (P : Nat → Bool) (c : Nat) : Int32 := if fidx P c < c then nI (fidx P c) else -1
set_option maxRecDepth 20000 in
set_option maxHeartbeats 400000 in
theorem c_X2_placeOf {l : Launch} {D : va_G} {ca : Nat → ClassId} {q0 : Nat} {sa : Nat → Nat} {ad : jAd} {z n i : Nat} {V : jV} {cnt : Nat} (f : Int32) (hl : decide (i < n) = true) (hc : V 11 i 3 = nI cnt) (hcnt : cnt ≤ 6) : jMet l D ca q0 sa ad yX2_placeOf cX2_placeOf 3 (some .int) 0 0 0 [.ref (ad 11 i), .int f] (jS z n V) (jRet (some (.int (fres (fun j => decide (V 12 i j = f)) cnt))) (jS z n V)) := by
  refine j_enter RX2 [some (.ref (ad 11 i)), some (.int f), none] rfl (by decide) (by simp [Value.category]) (Nat.le_of_ble_eq_true rfl) rfl ?_
  intro p e s m args below meth c K hnm hX
  have lp : ∀ (k j : Nat) , j ≤ cnt → cnt < j + k → (∀ j', j' < j → decide (V 12 i j' = f) = false) → jW p l e (jRm 0 0 0) s m args below meth c D ca q0 ad 3 (jZ below args s D ca q0 ad 0 0 (jRet (some (.int (fres (fun j => decide (V 12 i j = f)) cnt))) (jS z n V))) 0 0 2 [some (.ref (ad 11 i)), some (.int f), some (.int (nI j))] [] (jS z n V) := by
    intro k
    induction k with
    | zero => intro j  hj1 hj2; exact absurd hj2 (by omega)
    | succ k ih =>
      intro j  hj1 hj2 hno
      refine j_iload_n K 2 dX2_placeOf_2 rfl rfl ?_
      refine j_aload_n K 0 dX2_placeOf_3 rfl rfl ?_
      refine jGi K dX2_placeOf_4 f_X2_21 rfl hl rfl ?_
      refine j_icmp_ge K 28 dX2_placeOf_7 (by decide) (fun h_7 => ?_) (fun h_7 => ?_)
      · have hj : j = cnt := by rw [nle (by omega) (by omega) hc rfl] at h_7; omega
        subst hj
        refine j_iconst K (-1) dX2_placeOf_28 rfl ?_
        refine j_iret K dX2_placeOf_29 ?_
        exact jret_I (by unfold fres; rw [fidx_eq (Nat.le_refl _) hno (fun h => absurd h (Nat.lt_irrefl _)), if_neg (Nat.lt_irrefl _)])
      · have hj3 : j < cnt := by rw [nle (by omega) (by omega) hc rfl] at h_7; omega
        refine j_aload_n K 0 dX2_placeOf_10 rfl rfl ?_
        refine jGr K 12 i dX2_placeOf_11 f_X2_9 rfl hl rfl rfl ?_
        refine j_iload_n K 2 dX2_placeOf_14 rfl rfl ?_
        refine jIald K (j) dX2_placeOf_15 rfl hl rfl (by omega) ?_
        refine j_iload_n K 1 dX2_placeOf_16 rfl rfl ?_
        refine j_icmp_ne K 22 dX2_placeOf_17 (by decide) (fun h_17 => ?_) (fun h_17 => ?_)
        · refine j_iinc (v := nI (j + 1)) K dX2_placeOf_22 rfl (by decide) (nI_1 _) ?_
          refine j_goto K 2 dX2_placeOf_25 (by decide) ?_
          exact ih (j + 1) (by omega) (by omega) (fun j' hj' => (Nat.lt_succ_iff_lt_or_eq.mp hj').elim (hno j') (fun e => by subst e; exact decide_eq_false h_17))
        · refine j_iload_n K 2 dX2_placeOf_20 rfl rfl ?_
          refine j_iret K dX2_placeOf_21 ?_
          exact jret_I (by unfold fres; rw [fidx_eq (j := j) (by omega) hno (fun _ => decide_eq_true h_17), if_pos hj3])
  refine j_iconst K 0 dX2_placeOf_0 rfl ?_
  refine j_istore_n K 2 dX2_placeOf_1 rfl (by decide) ?_
  exact lp (cnt + 1) 0 (by omega) (by omega) (fun j' h => absurd h (by omega))
/-- the rows of the reports for the pier i, from the place g up to t shifted by one -/
def shV (V : jV) (i g t : Nat) : jV := fun k i' j => if (k = 12 ∨ k = 13 ∨ k = 14) ∧ i' = i ∧ g ≤ j ∧ j < t then V k i (j + 1) else V k i' j
def remV (V : jV) (i g : Nat) : jV := up (shV V i g (tn (V 11 i 3) - 1)) 11 i 3 (V 11 i 3 - 1)
set_option maxRecDepth 20000 in
set_option maxHeartbeats 400000 in
theorem c_X2_removeAt {l : Launch} {D : va_G} {ca : Nat → ClassId} {q0 : Nat} {sa : Nat → Nat} {ad : jAd} {z n i : Nat} {V : jV} {cnt : Nat} (g : Nat) (hl : decide (i < n) = true) (hc : V 11 i 3 = nI cnt) (hcnt : cnt ≤ 6) (hg : g < cnt) : jMet l D ca q0 sa ad yX2_removeAt cX2_removeAt 3 none 0 0 0 [.ref (ad 11 i), .int (nI g)] (jS z n V) (jRet none (jS z n (remV V i g))) := by
  refine j_enter RX2 [some (.ref (ad 11 i)), some (.int (nI g)), none] rfl (by decide) (by simp [Value.category]) (Nat.le_of_ble_eq_true rfl) rfl ?_
  intro p e s m args below meth c K hnm hX
  have lp : ∀ (k j : Nat) , j ≤ (cnt - 1) → (cnt - 1) < j + k → g ≤ j → jW p l e (jRm 0 0 0) s m args below meth c D ca q0 ad 3 (jZ below args s D ca q0 ad 0 0 (jRet none (jS z n (remV V i g)))) 0 0 2 [some (.ref (ad 11 i)), some (.int (nI g)), some (.int (nI j))] [] (jS z n (shV V i g j)) := by
    intro k
    induction k with
    | zero => intro j  hj1 hj2; exact absurd hj2 (by omega)
    | succ k ih =>
      intro j  hj1 hj2 hgj
      refine j_iload_n K 2 dX2_removeAt_2 rfl rfl ?_
      refine j_aload_n K 0 dX2_removeAt_3 rfl rfl ?_
      refine jGi K dX2_removeAt_4 f_X2_21 rfl hl rfl ?_
      refine j_iconst K 1 dX2_removeAt_7 rfl ?_
      refine j_isub K dX2_removeAt_8 ?_
      refine j_icmp_ge K 60 dX2_removeAt_9 (by decide) (fun h_9 => ?_) (fun h_9 => ?_)
      · have hj9 := nle1 h_9 (jx_sub (b := 1) hc rfl (by omega)) rfl (by omega) (by omega)
        have hj : j = cnt - 1 := by omega
        refine j_aload_n K 0 dX2_removeAt_60 rfl rfl ?_
        refine j_dup K dX2_removeAt_61 rfl ?_
        refine jGi K dX2_removeAt_62 f_X2_21 rfl hl rfl ?_
        refine j_iconst K 1 dX2_removeAt_65 rfl ?_
        refine j_isub K dX2_removeAt_66 ?_
        refine jPi K dX2_removeAt_67 fo_X2_21 rfl hl rfl rfl (Or.inl rfl) ?_
        refine j_vret K dX2_removeAt_70 ?_
        refine jret_V (fun a b e => ?_)
        unfold remV
        rw [show tn (V 11 i 3) - 1 = j by rw [hc, tn_nI (by omega)]; omega]
        rfl
      · have hj3 : j < cnt - 1 := nle0 h_9 (jx_sub (b := 1) hc rfl (by omega)) rfl (by omega) (by omega)
        refine j_aload_n K 0 dX2_removeAt_12 rfl rfl ?_
        refine jGr K 12 i dX2_removeAt_13 f_X2_9 rfl hl rfl rfl ?_
        refine j_iload_n K 2 dX2_removeAt_16 rfl rfl ?_
        refine j_aload_n K 0 dX2_removeAt_17 rfl rfl ?_
        refine jGr K 12 i dX2_removeAt_18 f_X2_9 rfl hl rfl rfl ?_
        refine j_iload_n K 2 dX2_removeAt_21 rfl rfl ?_
        refine j_iconst K 1 dX2_removeAt_22 rfl ?_
        refine j_iadd K dX2_removeAt_23 ?_
        refine jIald K ((j + 1)) dX2_removeAt_24 rfl hl (nI_1 j) (by omega) ?_
        refine jIast K (j) dX2_removeAt_25 rfl hl rfl (by omega) ?_
        refine j_aload_n K 0 dX2_removeAt_26 rfl rfl ?_
        refine jGr K 13 i dX2_removeAt_27 f_X2_15 rfl hl rfl rfl ?_
        refine j_iload_n K 2 dX2_removeAt_30 rfl rfl ?_
        refine j_aload_n K 0 dX2_removeAt_31 rfl rfl ?_
        refine jGr K 13 i dX2_removeAt_32 f_X2_15 rfl hl rfl rfl ?_
        refine j_iload_n K 2 dX2_removeAt_35 rfl rfl ?_
        refine j_iconst K 1 dX2_removeAt_36 rfl ?_
        refine j_iadd K dX2_removeAt_37 ?_
        refine jIald K ((j + 1)) dX2_removeAt_38 rfl hl (nI_1 j) (by omega) ?_
        refine jIast K (j) dX2_removeAt_39 rfl hl rfl (by omega) ?_
        refine j_aload_n K 0 dX2_removeAt_40 rfl rfl ?_
        refine jGr K 14 i dX2_removeAt_41 f_X2_18 rfl hl rfl rfl ?_
        refine j_iload_n K 2 dX2_removeAt_44 rfl rfl ?_
        refine j_aload_n K 0 dX2_removeAt_45 rfl rfl ?_
        refine jGr K 14 i dX2_removeAt_46 f_X2_18 rfl hl rfl rfl ?_
        refine j_iload_n K 2 dX2_removeAt_49 rfl rfl ?_
        refine j_iconst K 1 dX2_removeAt_50 rfl ?_
        refine j_iadd K dX2_removeAt_51 ?_
        refine jIald K ((j + 1)) dX2_removeAt_52 rfl hl (nI_1 j) (by omega) ?_
        refine jIast K (j) dX2_removeAt_53 rfl hl rfl (by omega) ?_
        refine j_iinc (v := nI (j + 1)) K dX2_removeAt_54 rfl (by decide) (nI_1 _) ?_
        refine j_goto K 2 dX2_removeAt_57 (by decide) ?_
        refine j_eqV (V' := shV V i g (j + 1)) (fun a b e => ?_) (ih (j + 1) (by omega) (by omega) (by omega))
        simp only [up, shV]
        grind
  refine j_iload_n K 1 dX2_removeAt_0 rfl rfl ?_
  refine j_istore_n K 2 dX2_removeAt_1 rfl (by decide) ?_
  refine j_eqV (V' := shV V i g g) (fun a b e => ?_) (lp cnt g (by omega) (by omega) (Nat.le_refl _))
  simp only [shV]
  rw [if_neg (by omega)]
def jdg (t d : Int32) : Int32 := if d ≤ 5 then (if 9 < t + 1 then 9 else t + 1) else (if t - 1 < 1 then 1 else t - 1)
set_option maxRecDepth 20000 in
set_option maxHeartbeats 400000 in
theorem c_X2_judge {l : Launch} {D : va_G} {ca : Nat → ClassId} {q0 : Nat} {sa : Nat → Nat} {ad : jAd} {z n i : Nat} {V : jV} (f : Nat) (x d : Int32) (hl : decide (i < n) = true) (hx : x = nI f) (hf : f < 6) : jMet l D ca q0 sa ad yX2_judge cX2_judge 3 none 0 0 0 [.ref (ad 11 i), .int x, .int d] (jS z n V) (jRet none (jS z n (up V 2 0 f (jdg (V 2 0 f) d)))) := by
  refine j_enter RX2 [some (.ref (ad 11 i)), some (.int x), some (.int d)] rfl (by decide) (by simp [Value.category]) (Nat.le_of_ble_eq_true rfl) rfl ?_
  intro p e s m args below meth c K hnm hX
  refine j_iload_n K 2 dX2_judge_0 rfl rfl ?_
  refine j_iconst K 5 dX2_judge_1 rfl ?_
  refine j_icmp_gt K 27 dX2_judge_2 (by decide) (fun h_2 => ?_) (fun h_2 => ?_)
  · refine j_aload_n K 0 dX2_judge_27 rfl rfl ?_
    refine jGr K 2 0 dX2_judge_28 f_X2_25 rfl hl rfl rfl ?_
    refine j_iload_n K 1 dX2_judge_31 rfl rfl ?_
    refine j_aload_n K 0 dX2_judge_32 rfl rfl ?_
    refine jGr K 2 0 dX2_judge_33 f_X2_25 rfl hl rfl rfl ?_
    refine j_iload_n K 1 dX2_judge_36 rfl rfl ?_
    refine jIald K (f) dX2_judge_37 rfl rfl hx (by omega) ?_
    refine j_iconst K 1 dX2_judge_38 rfl ?_
    refine j_isub K dX2_judge_39 ?_
    refine j_iconst K 1 dX2_judge_40 rfl ?_
    refine j_mmax K dX2_judge_41 k_X2_49 (Nat.le_of_ble_eq_true rfl) ⟨by decide, by decide⟩ ?_
    refine jIast K (f) dX2_judge_44 rfl rfl hx (by omega) ?_
    refine j_vret K dX2_judge_45 ?_
    first
    | (refine jret_V (fun _ _ _ => ?_); unfold jdg; rw [if_pos (Int32.not_lt.mp h_2)])
    | (refine jret_V (fun _ _ _ => ?_); unfold jdg; rw [if_neg (Int32.not_le.mpr h_2)])
  · refine j_aload_n K 0 dX2_judge_5 rfl rfl ?_
    refine jGr K 2 0 dX2_judge_6 f_X2_25 rfl hl rfl rfl ?_
    refine j_iload_n K 1 dX2_judge_9 rfl rfl ?_
    refine j_aload_n K 0 dX2_judge_10 rfl rfl ?_
    refine jGr K 2 0 dX2_judge_11 f_X2_25 rfl hl rfl rfl ?_
    refine j_iload_n K 1 dX2_judge_14 rfl rfl ?_
    refine jIald K (f) dX2_judge_15 rfl rfl hx (by omega) ?_
    refine j_iconst K 1 dX2_judge_16 rfl ?_
    refine j_iadd K dX2_judge_17 ?_
    refine j_bipush K 9 dX2_judge_18 rfl ?_
    refine j_mmin K dX2_judge_20 k_X2_45 (Nat.le_of_ble_eq_true rfl) ⟨by decide, by decide⟩ ?_
    refine jIast K (f) dX2_judge_23 rfl rfl hx (by omega) ?_
    refine j_goto K 45 dX2_judge_24 (by decide) ?_
    refine j_vret K dX2_judge_45 ?_
    first
    | (refine jret_V (fun _ _ _ => ?_); unfold jdg; rw [if_pos (Int32.not_lt.mp h_2)])
    | (refine jret_V (fun _ _ _ => ?_); unfold jdg; rw [if_neg (Int32.not_le.mpr h_2)])
def putV (V : jV) (i cnt : Nat) (f : Nat) (x : Int32) (q : Nat) : jV :=
  up (up (up (if q < cnt then V else up V 11 i 3 (V 11 i 3 + 1)) 12 i q (nI f)) 13 i q x) 14 i q 0
set_option maxRecDepth 20000 in
set_option maxHeartbeats 400000 in
theorem c_X2_put {l : Launch} {D : va_G} {ca : Nat → ClassId} {q0 : Nat} {sa : Nat → Nat} {ad : jAd} {z n i f : Nat} {V : jV} {cnt q : Nat} (x : Int32) (hl : decide (i < n) = true) (hc : V 11 i 3 = nI cnt) (hcnt : cnt ≤ 6) (hq : fidx (fun j => decide (V 12 i j = nI f)) cnt = q) (hr : q < 6) : jMet l D ca q0 sa ad yX2_put cX2_put 4 none 1 0 0 [.ref (ad 11 i), .int (nI f), .int x] (jS z n V) (jRet none (jS z n (putV V i cnt f x q))) := by
  refine j_enter RX2 [some (.ref (ad 11 i)), some (.int (nI f)), some (.int x), none] rfl (by decide) (by simp [Value.category]) (Nat.le_of_ble_eq_true rfl) rfl ?_
  intro p e s m args below meth c K hnm hX
  have hle := fidx_le (fun j => decide (V 12 i j = nI f)) cnt
  rw [hq] at hle
  refine j_aload_n K 0 dX2_put_0 rfl rfl ?_
  refine j_iload_n K 1 dX2_put_1 rfl rfl ?_
  refine j_cV1r K dX2_put_2 m_X2_placeOf v_X2_placeOf k_X2_28 rfl ⟨by decide, rfl⟩ hl (c_X2_placeOf _ hl hc hcnt) (Nat.le_of_ble_eq_true rfl) ⟨by decide, by decide⟩ (by decide) (by decide) ?_
  have hfr : fres (fun j => decide (V 12 i j = nI f)) cnt = if q < cnt then nI q else -1 := by unfold fres; rw [hq]
  rw [hfr]
  refine j_istore_n K 3 dX2_put_5 rfl (by decide) ?_
  by_cases hlt : q < cnt
  · rw [if_pos hlt]
    refine j_iload_n K 3 dX2_put_6 rfl rfl ?_
    refine j_iconst K (-1) dX2_put_7 rfl ?_
    refine j_icmp_ne K 35 dX2_put_8 (by decide) (fun h_8 => ?_) (fun h_8 => ?_)
    · refine j_iload_n K 3 dX2_put_35 rfl rfl ?_
      refine j_iconst K (-1) dX2_put_36 rfl ?_
      refine j_icmp_eq K 61 dX2_put_37 (by decide) (fun h_37 => ?_) (fun h_37 => ?_)
      · exact absurd h_37 (nI_neg1 (by omega))
      · refine j_aload_n K 0 dX2_put_40 rfl rfl ?_
        refine jGr K 12 i dX2_put_41 f_X2_9 rfl hl rfl rfl ?_
        refine j_iload_n K 3 dX2_put_44 rfl rfl ?_
        refine j_iload_n K 1 dX2_put_45 rfl rfl ?_
        refine jIast K (q) dX2_put_46 rfl hl rfl (by omega) ?_
        refine j_aload_n K 0 dX2_put_47 rfl rfl ?_
        refine jGr K 13 i dX2_put_48 f_X2_15 rfl hl rfl rfl ?_
        refine j_iload_n K 3 dX2_put_51 rfl rfl ?_
        refine j_iload_n K 2 dX2_put_52 rfl rfl ?_
        refine jIast K (q) dX2_put_53 rfl hl rfl (by omega) ?_
        refine j_aload_n K 0 dX2_put_54 rfl rfl ?_
        refine jGr K 14 i dX2_put_55 f_X2_18 rfl hl rfl rfl ?_
        refine j_iload_n K 3 dX2_put_58 rfl rfl ?_
        refine j_iconst K 0 dX2_put_59 rfl ?_
        refine jIast K (q) dX2_put_60 rfl hl rfl (by omega) ?_
        refine j_vret K dX2_put_61 ?_
        refine jret_V (fun a b e => ?_)
        unfold putV
        rw [if_pos hlt]
        try rfl
    · exact absurd h_8 (nI_neg1 (by omega))
  · have hqc : q = cnt := by omega
    rw [if_neg hlt]
    refine j_iload_n K 3 dX2_put_6 rfl rfl ?_
    refine j_iconst K (-1) dX2_put_7 rfl ?_
    refine j_icmp_ne K 35 dX2_put_8 (by decide) (fun h_8 => ?_) (fun h_8 => ?_)
    · exact absurd rfl h_8
    · refine j_aload_n K 0 dX2_put_11 rfl rfl ?_
      refine jGi K dX2_put_12 f_X2_21 rfl hl rfl ?_
      refine j_bipush K 6 dX2_put_15 rfl ?_
      refine j_icmp_ge K 35 dX2_put_17 (by decide) (fun h_17 => ?_) (fun h_17 => ?_)
      · exact absurd (nle1 h_17 (a := 6) rfl hc (by decide) (by omega)) (by omega)
      · refine j_aload_n K 0 dX2_put_20 rfl rfl ?_
        refine jGi K dX2_put_21 f_X2_21 rfl hl rfl ?_
        refine j_istore_n K 3 dX2_put_24 rfl (by decide) ?_
        refine j_aload_n K 0 dX2_put_25 rfl rfl ?_
        refine j_dup K dX2_put_26 rfl ?_
        refine jGi K dX2_put_27 f_X2_21 rfl hl rfl ?_
        refine j_iconst K 1 dX2_put_30 rfl ?_
        refine j_iadd K dX2_put_31 ?_
        refine jPi K dX2_put_32 fo_X2_21 rfl hl rfl rfl (Or.inl rfl) ?_
        refine j_iload_n K 3 dX2_put_35 rfl rfl ?_
        refine j_iconst K (-1) dX2_put_36 rfl ?_
        refine j_icmp_eq K 61 dX2_put_37 (by decide) (fun h_37 => ?_) (fun h_37 => ?_)
        · exact absurd h_37 (fun e => nI_neg1 (n := cnt) (by omega) (hc.symm.trans e))
        · refine j_aload_n K 0 dX2_put_40 rfl rfl ?_
          refine jGr K 12 i dX2_put_41 f_X2_9 rfl hl rfl rfl ?_
          refine j_iload_n K 3 dX2_put_44 rfl rfl ?_
          refine j_iload_n K 1 dX2_put_45 rfl rfl ?_
          refine jIast K (cnt) dX2_put_46 rfl hl hc (by omega) ?_
          refine j_aload_n K 0 dX2_put_47 rfl rfl ?_
          refine jGr K 13 i dX2_put_48 f_X2_15 rfl hl rfl rfl ?_
          refine j_iload_n K 3 dX2_put_51 rfl rfl ?_
          refine j_iload_n K 2 dX2_put_52 rfl rfl ?_
          refine jIast K (cnt) dX2_put_53 rfl hl hc (by omega) ?_
          refine j_aload_n K 0 dX2_put_54 rfl rfl ?_
          refine jGr K 14 i dX2_put_55 f_X2_18 rfl hl rfl rfl ?_
          refine j_iload_n K 3 dX2_put_58 rfl rfl ?_
          refine j_iconst K 0 dX2_put_59 rfl ?_
          refine jIast K (cnt) dX2_put_60 rfl hl hc (by omega) ?_
          refine j_vret K dX2_put_61 ?_
          refine jret_V (fun a b e => ?_)
          unfold putV
          rw [if_neg hlt, hqc]
          try rfl
