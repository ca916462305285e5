theorem bl_stop {V : jV} {a : Nat} {j : Nat} (h : V 48 0 (4 * a + j) = 1) : blY V a (j + 1) = up V 48 0 (4 * a + j) 2 := by rw [blY, if_pos h]
theorem bl_go {V : jV} {a : Nat} {j : Nat} (h : ¬ V 48 0 (4 * a + j) = 1) : blY V a (j + 1) = blY V a j := by rw [blY, if_neg h]
set_option maxRecDepth 20000 in
set_option maxHeartbeats 400000 in
theorem c_Mdrip {l : Launch} {D : va_G} {ca : Nat → ClassId} {q0 : Nat} {sa : Nat → Nat} {ad : jAd} {z n a c4 : Nat} {V : jV} (x : Int32) (hn6 : n ≤ 6) (ha : a < n) (hx : x = nI a) (hl4 : V 43 0 a = nI c4) (hc4 : c4 ≤ 4) (hex : ∃ j, j < c4 ∧ V 48 0 (4 * a + j) = 1)  : jMet l D ca q0 sa ad yX6_drip cX6_drip 3 none 0 0 0 [.ref (ad 20 0), .int x] (jS z n V) (jRet none (jS z n (drpY V a c4))) := by
  refine j_enter RX6 [some (.ref (ad 20 0)), some (.int x), none] rfl (by decide) (by simp [Value.category]) (Nat.le_of_ble_eq_true rfl) rfl ?_
  intro p e s m args below meth c K hnm hX
  have hv1 : ∀ r : Int32, up (up V 20 0 16 (V 20 0 16 + V 28 0 a)) 44 0 a r 44 0 a = r := by intro r; simp [up]
  have lp : ∀ (j : Nat) (w : Int32), w = nI (4 * a + j) - 1 → j ≤ c4 → (∃ j', j' < j ∧ V 48 0 (4 * a + j') = 1) → blY (up (up (up V 20 0 16 (V 20 0 16 + V 28 0 a)) 44 0 a (V 44 0 a + V 28 0 a)) 44 0 a (V 44 0 a + V 28 0 a - 12)) a j = blY (up (up (up V 20 0 16 (V 20 0 16 + V 28 0 a)) 44 0 a (V 44 0 a + V 28 0 a)) 44 0 a (V 44 0 a + V 28 0 a - 12)) a c4 → ¬ V 44 0 a + V 28 0 a < 12 → jW p l e (jRm 0 0 0) s m args below meth c D ca q0 ad 3 (jZ below args s D ca q0 ad 0 0 (jRet none (jS z n (drpY V a c4)))) 0 0 66 [some (.ref (ad 20 0)), some (.int x), some (.int w)] [] (jS z n (up (up (up V 20 0 16 (V 20 0 16 + V 28 0 a)) 44 0 a (V 44 0 a + V 28 0 a)) 44 0 a (V 44 0 a + V 28 0 a - 12))) := by
    intro j
    induction j with
    | zero =>
      intro w hw hj hE
      obtain ⟨j', h', _⟩ := hE
      exact absurd h' (by omega)
    | succ j ih =>
      intro w hw hj hE hb hlt
      rw [hw, show nI (4 * a + (j + 1)) - 1 = nI (4 * a + j) from pk_sub (b := 1) (by omega)]
      refine j_aload_n K 0 dX6_drip_66 rfl rfl ?_
      refine jGr K 48 0 dX6_drip_67 f_X6_71 rfl rfl rfl rfl ?_
      refine j_iload_n K 2 dX6_drip_70 rfl rfl ?_
      refine jIald K ((4 * a + j)) dX6_drip_71 rfl rfl rfl (by omega) ?_
      refine j_iconst K 1 dX6_drip_72 rfl ?_
      refine j_icmp_eq K 82 dX6_drip_73 (by decide) (fun h_73 => ?_) (fun h_73 => ?_)
      · refine j_aload_n K 0 dX6_drip_82 rfl rfl ?_
        refine jGr K 48 0 dX6_drip_83 f_X6_71 rfl rfl rfl rfl ?_
        refine j_iload_n K 2 dX6_drip_86 rfl rfl ?_
        refine j_iconst K 2 dX6_drip_87 rfl ?_
        refine jIast K ((4 * a + j)) dX6_drip_88 rfl rfl rfl (by omega) ?_
        refine j_vret K dX6_drip_89 ?_
        refine jret_V (fun k1 k2 k3 => ?_)
        unfold drpY
        rw [if_neg hlt, ← hb, bl_stop h_73]
      · refine j_iinc (v := nI ((4 * a + j)) - 1) K dX6_drip_76 rfl (by decide) (jx_dec _) ?_
        refine j_goto K 66 dX6_drip_79 (by decide) ?_
        refine ih _ rfl (by omega) ?_ ((bl_go h_73).symm.trans hb) hlt
        obtain ⟨j', h1, h2⟩ := hE
        refine ⟨j', ?_, h2⟩
        rcases Nat.lt_or_eq_of_le (Nat.le_of_lt_succ h1) with q | q
        · exact q
        · subst q; exact absurd h2 h_73
  refine j_aload_n K 0 dX6_drip_0 rfl rfl ?_
  refine j_dup K dX6_drip_1 rfl ?_
  refine jGi K dX6_drip_2 f_X6_180 rfl rfl rfl ?_
  refine j_aload_n K 0 dX6_drip_5 rfl rfl ?_
  refine jGr K 28 0 dX6_drip_6 f_X6_22 rfl rfl rfl rfl ?_
  refine j_iload_n K 1 dX6_drip_9 rfl rfl ?_
  refine jIald K (a) dX6_drip_10 rfl rfl hx (by omega) ?_
  refine j_iadd K dX6_drip_11 ?_
  refine jPi K dX6_drip_12 fo_X6_180 rfl rfl rfl rfl (Or.inl rfl) ?_
  refine j_aload_n K 0 dX6_drip_15 rfl rfl ?_
  refine jGr K 44 0 dX6_drip_16 f_X6_59 rfl rfl rfl rfl ?_
  refine j_iload_n K 1 dX6_drip_19 rfl rfl ?_
  refine j_dup2 K dX6_drip_20 rfl rfl ?_
  refine jIald K (a) dX6_drip_21 rfl rfl hx (by omega) ?_
  refine j_aload_n K 0 dX6_drip_22 rfl rfl ?_
  refine jGr K 28 0 dX6_drip_23 f_X6_22 rfl rfl rfl rfl ?_
  refine j_iload_n K 1 dX6_drip_26 rfl rfl ?_
  refine jIald K (a) dX6_drip_27 rfl rfl hx (by omega) ?_
  refine j_iadd K dX6_drip_28 ?_
  refine jIast K (a) dX6_drip_29 rfl rfl hx (by omega) ?_
  refine j_aload_n K 0 dX6_drip_30 rfl rfl ?_
  refine jGr K 44 0 dX6_drip_31 f_X6_59 rfl rfl rfl rfl ?_
  refine j_iload_n K 1 dX6_drip_34 rfl rfl ?_
  refine jIald K (a) dX6_drip_35 rfl rfl hx (by omega) ?_
  refine j_bipush K 12 dX6_drip_36 rfl ?_
  refine j_icmp_ge K 42 dX6_drip_38 (by decide) (fun h_38 => ?_) (fun h_38 => ?_)
  · refine j_aload_n K 0 dX6_drip_42 rfl rfl ?_
    refine jGr K 44 0 dX6_drip_43 f_X6_59 rfl rfl rfl rfl ?_
    refine j_iload_n K 1 dX6_drip_46 rfl rfl ?_
    refine j_dup2 K dX6_drip_47 rfl rfl ?_
    refine jIald K (a) dX6_drip_48 rfl rfl hx (by omega) ?_
    refine j_bipush K 12 dX6_drip_49 rfl ?_
    refine j_isub K dX6_drip_51 ?_
    refine jIast K (a) dX6_drip_52 rfl rfl hx (by omega) ?_
    refine j_iconst K 4 dX6_drip_53 rfl ?_
    refine j_iload_n K 1 dX6_drip_54 rfl rfl ?_
    refine j_imul K dX6_drip_55 ?_
    refine j_aload_n K 0 dX6_drip_56 rfl rfl ?_
    refine jGr K 43 0 dX6_drip_57 f_X6_56 rfl rfl rfl rfl ?_
    refine j_iload_n K 1 dX6_drip_60 rfl rfl ?_
    refine jIald K (a) dX6_drip_61 rfl rfl hx (by omega) ?_
    refine j_iadd K dX6_drip_62 ?_
    refine j_iconst K 1 dX6_drip_63 rfl ?_
    refine j_isub K dX6_drip_64 ?_
    refine j_istore_n K 2 dX6_drip_65 rfl (by decide) ?_
    have hlt : ¬ V 44 0 a + V 28 0 a < 12 := Int32.not_lt.mpr (by rw [hv1] at h_38; exact h_38)
    have hw : 4 * x + V 43 0 a - 1 = nI (4 * a + c4) - 1 := by rw [hl4, jmul4 hx, nI_add]
    refine j_eqV (V' := (up (up (up V 20 0 16 (V 20 0 16 + V 28 0 a)) 44 0 a (V 44 0 a + V 28 0 a)) 44 0 a (V 44 0 a + V 28 0 a - 12))) (fun k1 k2 k3 => ?_) (lp c4 _ hw (Nat.le_refl _) hex rfl hlt)
    rw [hv1]
    rfl
  · refine j_vret K dX6_drip_41 ?_
    refine jret_V (fun k1 k2 k3 => ?_)
    rw [hv1] at h_38
    unfold drpY
    rw [if_pos (show V 44 0 a + V 28 0 a < 12 from Int32.not_le.mp h_38)]
    rfl
/-- the waters' rows of the table onto the board of the pier i: the first j -/
def bgR (V : jV) (i : Nat) (hi lo : Int32) (g : Nat) : jV := fun k a j => if a = 0 ∧ 4 * i ≤ j ∧ j < 4 * i + g ∧ (k = 45 ∨ k = 46 ∨ k = 47 ∨ k = 48) then
    (if k = 45 then V 52 0 (j - 4 * i) else if k = 46 then V 51 0 (j - 4 * i) else if k = 47 then (if V 52 0 (j - 4 * i) = 0 then hi else lo) else 0) else V k a j
def bgT (V : jV) (i cnt : Nat) : jV := let T := tabY V i cnt (V 39 0 i); up (up (up (up T 42 0 i (V 39 0 i)) 39 0 i (-1)) 43 0 i (T 20 0 29)) 44 0 i 0
def begY (V : jV) (i cnt : Nat) : jV :=
  let d := V 39 0 i
  let B := bgR (bgT V i cnt) i (V 25 0 i + rangeY V i d / 2) (V 25 0 i - rangeY V i d / 2) (tn (tabY V i cnt d 20 0 29))
  up (up B 20 0 19 (nI i)) 20 0 20 (tabY V i cnt d 20 0 29 - 1)
