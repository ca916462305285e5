theorem bl_stop {V : jV} {a : Nat} {j : Nat} (h : V 48 0 (4 * a + j) = 1) : blY V a (j + 1) = up V 48 0 (4 * a + j) 2 := by rw [blY, if_pos h]
theorem bl_go {V : jV} {a : Nat} {j : Nat} (h : ¬ V 48 0 (4 * a + j) = 1) : blY V a (j + 1) = blY V a j := by rw [blY, if_neg h]
set_option maxRecDepth 20000 in
set_option maxHeartbeats 400000 in
theorem c_Mdrip {l : Launch} {D : va_G} {ca : Nat → ClassId} {q0 : Nat} {sa : Nat → Nat} {ad : jAd} {z n a c4 : Nat} {V : jV} (x : Int32) (hn6 : n ≤ 6) (ha : a < n) (hx : x = nI a) (hl4 : V 43 0 a = nI c4) (hc4 : c4 ≤ 4) (hex : ∃ j, j < c4 ∧ V 48 0 (4 * a + j) = 1)  : jMet l D ca q0 sa ad yX6_drip cX6_drip 3 none 0 0 0 [.ref (ad 20 0), .int x] (jS z n V) (jRet none (jS z n (drpY V a c4))) := by
  refine j_enter RX6 [some (.ref (ad 20 0)), some (.int x), none] rfl (by decide) (by simp [Value.category]) (Nat.le_of_ble_eq_true rfl) rfl ?_
  intro p e s m args below meth c K hnm hX
  have hv1 : ∀ r : Int32, up (up V 20 0 16 (V 20 0 16 + V 28 0 a)) 44 0 a r 44 0 a = r := by intro r; simp [up]
  have lp : ∀ (j : Nat) (w : Int32), w = nI (4 * a + j) - 1 → j ≤ c4 → (∃ j', j' < j ∧ V 48 0 (4 * a + j') = 1) → blY (up (up (up V 20 0 16 (V 20 0 16 + V 28 0 a)) 44 0 a (V 44 0 a + V 28 0 a)) 44 0 a (V 44 0 a + V 28 0 a - 12)) a j = blY (up (up (up V 20 0 16 (V 20 0 16 + V 28 0 a)) 44 0 a (V 44 0 a + V 28 0 a)) 44 0 a (V 44 0 a + V 28 0 a - 12)) a c4 → ¬ V 44 0 a + V 28 0 a < 12 → jW p l e (jRm 0 0 0) s m args below meth c D ca q0 ad 3 (jZ below args s D ca q0 ad 0 0 (jRet none (jS z n (drpY V a c4)))) 0 0 66 [some (.ref (ad 20 0)), some (.int x), some (.int w)] [] (jS z n (up (up (up V 20 0 16 (V 20 0 16 + V 28 0 a)) 44 0 a (V 44 0 a + V 28 0 a)) 44 0 a (V 44 0 a + V 28 0 a - 12))) := by
    intro j
    induction j with
    | zero =>
      intro w hw hj hE
      obtain ⟨j', h', _⟩ := hE
      exact absurd h' (by omega)
    | succ j ih =>
      intro w hw hj hE hb hlt
      rw [hw, show nI (4 * a + (j + 1)) - 1 = nI (4 * a + j) from pk_sub (b := 1) (by omega)]
      refine j_aload_n K 0 dX6_drip_66 rfl rfl ?_
      refine jGr K 48 0 dX6_drip_67 f_X6_71 rfl rfl rfl rfl ?_
      refine j_iload_n K 2 dX6_drip_70 rfl rfl ?_
      refine jIald K ((4 * a + j)) dX6_drip_71 rfl rfl rfl (by omega) ?_
      refine j_iconst K 1 dX6_drip_72 rfl ?_
      refine j_icmp_eq K 82 dX6_drip_73 (by decide) (fun h_73 => ?_) (fun h_73 => ?_)
      · refine j_aload_n K 0 dX6_drip_82 rfl rfl ?_
        refine jGr K 48 0 dX6_drip_83 f_X6_71 rfl rfl rfl rfl ?_
        refine j_iload_n K 2 dX6_drip_86 rfl rfl ?_
        refine j_iconst K 2 dX6_drip_87 rfl ?_
        refine jIast K ((4 * a + j)) dX6_drip_88 rfl rfl rfl (by omega) ?_
        refine j_vret K dX6_drip_89 ?_
        refine jret_V (fun k1 k2 k3 => ?_)
        unfold drpY
        rw [if_neg hlt, ← hb, bl_stop h_73]
      · refine j_iinc (v := nI ((4 * a + j)) - 1) K dX6_drip_76 rfl (by decide) (jx_dec _) ?_
        refine j_goto K 66 dX6_drip_79 (by decide) ?_
        refine ih _ rfl (by omega) ?_ ((bl_go h_73).symm.trans hb) hlt
        obtain ⟨j', h1, h2⟩ := hE
        refine ⟨j', ?_, h2⟩
        rcases Nat.lt_or_eq_of_le (Nat.le_of_lt_succ h1) with q | q
        · exact q
        · subst q; exact absurd h2 h_73
  refine j_aload_n K 0 dX6_drip_0 rfl rfl ?_
  refine j_dup K dX6_drip_1 rfl ?_
  refine jGi K dX6_drip_2 f_X6_180 rfl rfl rfl ?_
  refine j_aload_n K 0 dX6_drip_5 rfl rfl ?_
  refine jGr K 28 0 dX6_drip_6 f_X6_22 rfl rfl rfl rfl ?_
  refine j_iload_n K 1 dX6_drip_9 rfl rfl ?_
  refine jIald K (a) dX6_drip_10 rfl rfl hx (by omega) ?_
  refine j_iadd K dX6_drip_11 ?_
  refine jPi K dX6_drip_12 fo_X6_180 rfl rfl rfl rfl (Or.inl rfl) ?_
  refine j_aload_n K 0 dX6_drip_15 rfl rfl ?_
  refine jGr K 44 0 dX6_drip_16 f_X6_59 rfl rfl rfl rfl ?_
  refine j_iload_n K 1 dX6_drip_19 rfl rfl ?_
  refine j_dup2 K dX6_drip_20 rfl rfl ?_
  refine jIald K (a) dX6_drip_21 rfl rfl hx (by omega) ?_
  refine j_aload_n K 0 dX6_drip_22 rfl rfl ?_
  refine jGr K 28 0 dX6_drip_23 f_X6_22 rfl rfl rfl rfl ?_
  refine j_iload_n K 1 dX6_drip_26 rfl rfl ?_
  refine jIald K (a) dX6_drip_27 rfl rfl hx (by omega) ?_
  refine j_iadd K dX6_drip_28 ?_
  refine jIast K (a) dX6_drip_29 rfl rfl hx (by omega) ?_
  refine j_aload_n K 0 dX6_drip_30 rfl rfl ?_
  refine jGr K 44 0 dX6_drip_31 f_X6_59 rfl rfl rfl rfl ?_
  refine j_iload_n K 1 dX6_drip_34 rfl rfl ?_
  refine jIald K (a) dX6_drip_35 rfl rfl hx (by omega) ?_
  refine j_bipush K 12 dX6_drip_36 rfl ?_
  refine j_icmp_ge K 42 dX6_drip_38 (by decide) (fun h_38 => ?_) (fun h_38 => ?_)
  · refine j_aload_n K 0 dX6_drip_42 rfl rfl ?_
    refine jGr K 44 0 dX6_drip_43 f_X6_59 rfl rfl rfl rfl ?_
    refine j_iload_n K 1 dX6_drip_46 rfl rfl ?_
    refine j_dup2 K dX6_drip_47 rfl rfl ?_
    refine jIald K (a) dX6_drip_48 rfl rfl hx (by omega) ?_
    refine j_bipush K 12 dX6_drip_49 rfl ?_
    refine j_isub K dX6_drip_51 ?_
    refine jIast K (a) dX6_drip_52 rfl rfl hx (by omega) ?_
    refine j_iconst K 4 dX6_drip_53 rfl ?_
    refine j_iload_n K 1 dX6_drip_54 rfl rfl ?_
    refine j_imul K dX6_drip_55 ?_
    refine j_aload_n K 0 dX6_drip_56 rfl rfl ?_
    refine jGr K 43 0 dX6_drip_57 f_X6_56 rfl rfl rfl rfl ?_
    refine j_iload_n K 1 dX6_drip_60 rfl rfl ?_
    refine jIald K (a) dX6_drip_61 rfl rfl hx (by omega) ?_
    refine j_iadd K dX6_drip_62 ?_
    refine j_iconst K 1 dX6_drip_63 rfl ?_
    refine j_isub K dX6_drip_64 ?_
    refine j_istore_n K 2 dX6_drip_65 rfl (by decide) ?_
    have hlt : ¬ V 44 0 a + V 28 0 a < 12 := Int32.not_lt.mpr (by rw [hv1] at h_38; exact h_38)
    have hw : 4 * x + V 43 0 a - 1 = nI (4 * a + c4) - 1 := by rw [hl4, jmul4 hx, nI_add]
    refine j_eqV (V' := (up (up (up V 20 0 16 (V 20 0 16 + V 28 0 a)) 44 0 a (V 44 0 a + V 28 0 a)) 44 0 a (V 44 0 a + V 28 0 a - 12))) (fun k1 k2 k3 => ?_) (lp c4 _ hw (Nat.le_refl _) hex rfl hlt)
    rw [hv1]
    rfl
  · refine j_vret K dX6_drip_41 ?_
    refine jret_V (fun k1 k2 k3 => ?_)
    rw [hv1] at h_38
    unfold drpY
    rw [if_pos (show V 44 0 a + V 28 0 a < 12 from Int32.not_le.mp h_38)]
    rfl
theorem fT_o {V : jV} {β : Nat} {k i j : Nat} (h1 : ¬ k = 51) (h2 : ¬ k = 52) (h3 : ¬ (k = 20 ∧ j = 29)) : ∀ m, fT V β m k i j = V k i j
  | 0 => by unfold fT up; rw [if_neg (by omega)]
  | m + 1 => by
    have ih := fT_o (V := V) (β := β) (i := i) h1 h2 h3 m
    unfold fT
    split
    · unfold up; rw [if_neg (by omega), if_neg (by omega), if_neg (by omega)]; exact ih
    · split
      · unfold up; rw [if_neg (by omega), if_neg (by omega), if_neg (by omega)]; exact ih
      · exact ih
theorem tab_o {V : jV} {a cnt : Nat} {d : Int32} {k i j : Nat} (h1 : ¬ k = 51) (h2 : ¬ k = 52) (h3 : ¬ (k = 20 ∧ j = 29)) : tabY V a cnt d k i j = V k i j := fT_o h1 h2 h3 _
theorem tab_w {V : jV} {a cnt : Nat} {d : Int32} : tabY V a cnt d 20 0 29 = nI (tn (tabY V a cnt d 20 0 29)) ∧ tn (tabY V a cnt d 20 0 29) ≤ 4 := by
  have h : tabY V a cnt d 20 0 29 = nI (hk (tn (behY V a cnt (1440 * d))) 1440) := fT_cnt _
  have h4 := hk_le (bhd_nI (1440 * d - V 24 0 a - corr (ymin V a) (ytru V a) cnt)).2 (Nat.le_refl 1440)
  have h5 : hk (tn (behY V a cnt (1440 * d))) 1440 ≤ 4 := h4
  rw [h, tn_nI (by omega)]
  exact ⟨rfl, h5⟩
/-- the waters' rows of the table onto the board of the pier i: the first g -/
def bgR (V : jV) (i : Nat) (hi lo : Int32) (g : Nat) : jV := fun k a j => if a = 0 ∧ 4 * i ≤ j ∧ j < 4 * i + g ∧ (k = 45 ∨ k = 46 ∨ k = 47 ∨ k = 48) then
    (if k = 45 then V 52 0 (j - 4 * i) else if k = 46 then V 51 0 (j - 4 * i) else if k = 47 then (if V 52 0 (j - 4 * i) = 0 then hi else lo) else 0) else V k a j
theorem bg_o {V : jV} {i g k a j : Nat} {hi lo : Int32} (h : ¬ (k = 45 ∨ k = 46 ∨ k = 47 ∨ k = 48)) : bgR V i hi lo g k a j = V k a j := by unfold bgR; rw [if_neg (fun q => h q.2.2.2)]
def bgT (V T : jV) (i : Nat) : jV := up (up (up (up T 42 0 i (V 39 0 i)) 39 0 i (-1)) 43 0 i (T 20 0 29)) 44 0 i 0
def begT (V T : jV) (i : Nat) : jV :=
  up (up (bgR (bgT V T i) i (V 25 0 i + rangeY V i (V 39 0 i) / 2) (V 25 0 i - rangeY V i (V 39 0 i) / 2) (tn (T 20 0 29))) 20 0 19 (nI i)) 20 0 20 (T 20 0 29 - 1)
/-- the Model begins the job for the pier i -/
def begY (V : jV) (i cnt : Nat) : jV := begT V (tabY V i cnt (V 39 0 i)) i
set_option maxRecDepth 20000 in
set_option maxHeartbeats 400000 in
theorem c_Mbegin {l : Launch} {D : va_G} {ca : Nat → ClassId} {q0 : Nat} {sa : Nat → Nat} {ad : jAd} {z n a cnt : Nat} {V : jV} {T : jV} (x : Int32) (hn6 : n ≤ 6) (ha : a < n) (hx : x = nI a) (hR : YR V a cnt) (hT : T = tabY V a cnt (V 39 0 a))  : jMet l D ca q0 sa ad yX6_begin cX6_begin 3 none 3 0 0 [.ref (ad 20 0), .int x] (jS z n V) (jRet none (jS z n (begT V T a))) := by
  refine j_enter RX6 [some (.ref (ad 20 0)), some (.int x), none] rfl (by decide) (by simp [Value.category]) (Nat.le_of_ble_eq_true rfl) rfl ?_
  intro p e s m args below meth c K hnm hX
  obtain ⟨W, hW⟩ : ∃ W, W = bgT V T a := ⟨_, rfl⟩
  obtain ⟨w4, hw4⟩ : ∃ w, w = tn (T 20 0 29) := ⟨_, rfl⟩
  have hT1 : T 20 0 29 = nI w4 := by rw [hw4, hT]; exact tab_w.1
  have hT2 : w4 ≤ 4 := by rw [hw4, hT]; exact tab_w.2
  have hW1 : W 20 0 29 = nI w4 := by rw [hW]; exact hT1
  have hT3 : ∀ b, T 25 0 b = V 25 0 b := fun b => by rw [hT]; exact tab_o (by decide) (by decide) (by omega)
  have hT4 : ∀ b, T 26 0 b = V 26 0 b := fun b => by rw [hT]; exact tab_o (by decide) (by decide) (by omega)
  have hT5 : ∀ b, T 27 0 b = V 27 0 b := fun b => by rw [hT]; exact tab_o (by decide) (by decide) (by omega)
  have hT6 : T 39 0 a = V 39 0 a := by rw [hT]; exact tab_o (by decide) (by decide) (by omega)
  have hW2 : W 42 0 a = V 39 0 a := by rw [hW]; simp [bgT, up]
  have hW3 : W 25 0 a = V 25 0 a := by rw [hW]; exact hT3 a
  have hW4 : W 26 0 a = V 26 0 a := by rw [hW]; exact hT4 a
  have hW5 : W 27 0 a = V 27 0 a := by rw [hW]; exact hT5 a
  obtain ⟨hi, hhi⟩ : ∃ v, v = V 25 0 a + rangeY V a (V 39 0 a) / 2 := ⟨_, rfl⟩
  obtain ⟨lo, hlo⟩ : ∃ v, v = V 25 0 a - rangeY V a (V 39 0 a) / 2 := ⟨_, rfl⟩
  have lp : ∀ (k j : Nat) , j ≤ w4 → w4 < j + k → jW p l e (jRm 3 0 0) s m args below meth c D ca q0 ad 3 (jZ below args s D ca q0 ad 0 0 (jRet none (jS z n (begT V T a)))) 0 0 49 [some (.ref (ad 20 0)), some (.int x), some (.int (nI j))] [] (jS z n (bgR W a hi lo j)) := by
    intro k
    induction k with
    | zero => intro j  hj1 hj2; exact absurd hj2 (by omega)
    | succ k ih =>
      intro j  hj1 hj2 
      have b42 : bgR W a hi lo j 42 0 a = V 39 0 a := (bg_o (by decide)).trans hW2
      have b25 : bgR W a hi lo j 25 0 a = V 25 0 a := (bg_o (by decide)).trans hW3
      have b26 : bgR W a hi lo j 26 0 a = V 26 0 a := (bg_o (by decide)).trans hW4
      have b27 : bgR W a hi lo j 27 0 a = V 27 0 a := (bg_o (by decide)).trans hW5
      have b51 : bgR W a hi lo j 51 0 j = W 51 0 j := bg_o (by decide)
      have b52 : bgR W a hi lo j 52 0 j = W 52 0 j := bg_o (by decide)
      refine j_iload_n K 2 dX6_begin_49 rfl rfl ?_
      refine j_aload_n K 0 dX6_begin_50 rfl rfl ?_
      refine jGi K dX6_begin_51 f_X6_134 rfl rfl rfl ?_
      refine j_icmp_ge K 133 dX6_begin_54 (by decide) (fun h_54 => ?_) (fun h_54 => ?_)
      · have hj9 : j = w4 := by have := nle1 h_54 ((bg_o (by decide)).trans hW1) rfl (by omega) (by omega); omega
        refine j_aload_n K 0 dX6_begin_133 rfl rfl ?_
        refine j_iload_n K 1 dX6_begin_134 rfl rfl ?_
        refine jPi K dX6_begin_135 fo_X6_49 rfl rfl rfl rfl (Or.inl rfl) ?_
        refine j_aload_n K 0 dX6_begin_138 rfl rfl ?_
        refine j_aload_n K 0 dX6_begin_139 rfl rfl ?_
        refine jGi K dX6_begin_140 f_X6_134 rfl rfl rfl ?_
        refine j_iconst K 1 dX6_begin_143 rfl ?_
        refine j_isub K dX6_begin_144 ?_
        refine jPi K dX6_begin_145 fo_X6_192 rfl rfl rfl rfl (Or.inl rfl) ?_
        refine j_vret K dX6_begin_148 ?_
        refine jret_V (fun k1 k2 k3 => ?_)
        unfold begT
        rw [← hhi, ← hlo, ← hW, ← hw4, ← hj9, ← hx, show T 20 0 29 = bgR W a hi lo j 20 0 29 from by rw [bg_o (by decide), hW1, hT1]]
        rfl
      · have hj3 : j < w4 := nle0 h_54 ((bg_o (by decide)).trans hW1) rfl (by omega) (by omega)
        refine j_aload_n K 0 dX6_begin_57 rfl rfl ?_
        refine jGr K 45 0 dX6_begin_58 f_X6_62 rfl rfl rfl rfl ?_
        refine j_iconst K 4 dX6_begin_61 rfl ?_
        refine j_iload_n K 1 dX6_begin_62 rfl rfl ?_
        refine j_imul K dX6_begin_63 ?_
        refine j_iload_n K 2 dX6_begin_64 rfl rfl ?_
        refine j_iadd K dX6_begin_65 ?_
        refine j_aload_n K 0 dX6_begin_66 rfl rfl ?_
        refine jGr K 52 0 dX6_begin_67 f_X6_80 rfl rfl rfl rfl ?_
        refine j_iload_n K 2 dX6_begin_70 rfl rfl ?_
        refine jIald K (j) dX6_begin_71 rfl rfl rfl (by omega) ?_
        refine jIast K (((4 * a) + j)) dX6_begin_72 rfl rfl (jx_add (jx_mul rfl hx) rfl) (by omega) ?_
        refine j_aload_n K 0 dX6_begin_73 rfl rfl ?_
        refine jGr K 46 0 dX6_begin_74 f_X6_65 rfl rfl rfl rfl ?_
        refine j_iconst K 4 dX6_begin_77 rfl ?_
        refine j_iload_n K 1 dX6_begin_78 rfl rfl ?_
        refine j_imul K dX6_begin_79 ?_
        refine j_iload_n K 2 dX6_begin_80 rfl rfl ?_
        refine j_iadd K dX6_begin_81 ?_
        refine j_aload_n K 0 dX6_begin_82 rfl rfl ?_
        refine jGr K 51 0 dX6_begin_83 f_X6_77 rfl rfl rfl rfl ?_
        refine j_iload_n K 2 dX6_begin_86 rfl rfl ?_
        refine jIald K (j) dX6_begin_87 rfl rfl rfl (by omega) ?_
        refine jIast K (((4 * a) + j)) dX6_begin_88 rfl rfl (jx_add (jx_mul rfl hx) rfl) (by omega) ?_
        refine j_aload_n K 0 dX6_begin_89 rfl rfl ?_
        refine jGr K 47 0 dX6_begin_90 f_X6_68 rfl rfl rfl rfl ?_
        refine j_iconst K 4 dX6_begin_93 rfl ?_
        refine j_iload_n K 1 dX6_begin_94 rfl rfl ?_
        refine j_imul K dX6_begin_95 ?_
        refine j_iload_n K 2 dX6_begin_96 rfl rfl ?_
        refine j_iadd K dX6_begin_97 ?_
        refine j_aload_n K 0 dX6_begin_98 rfl rfl ?_
        refine j_iload_n K 1 dX6_begin_99 rfl rfl ?_
        refine j_aload_n K 0 dX6_begin_100 rfl rfl ?_
        refine jGr K 42 0 dX6_begin_101 f_X6_53 rfl rfl rfl rfl ?_
        refine j_iload_n K 1 dX6_begin_104 rfl rfl ?_
        refine jIald K (a) dX6_begin_105 rfl rfl hx (by omega) ?_
        refine j_aload_n K 0 dX6_begin_106 rfl rfl ?_
        refine jGr K 52 0 dX6_begin_107 f_X6_80 rfl rfl rfl rfl ?_
        refine j_iload_n K 2 dX6_begin_110 rfl rfl ?_
        refine jIald K (j) dX6_begin_111 rfl rfl rfl (by omega) ?_
        refine j_cV3r K dX6_begin_112 m_X6_level v_X6_level k_X6_146 rfl ⟨by decide, rfl⟩ rfl (c_Mlev _ _ _ hn6 ha hx) (Nat.le_of_ble_eq_true rfl) ⟨by decide, by decide⟩ (by decide) (by decide) ?_
        refine jIast K (((4 * a) + j)) dX6_begin_115 rfl rfl (jx_add (jx_mul rfl hx) rfl) (by omega) ?_
        refine j_aload_n K 0 dX6_begin_116 rfl rfl ?_
        refine jGr K 48 0 dX6_begin_117 f_X6_71 rfl rfl rfl rfl ?_
        refine j_iconst K 4 dX6_begin_120 rfl ?_
        refine j_iload_n K 1 dX6_begin_121 rfl rfl ?_
        refine j_imul K dX6_begin_122 ?_
        refine j_iload_n K 2 dX6_begin_123 rfl rfl ?_
        refine j_iadd K dX6_begin_124 ?_
        refine j_iconst K 0 dX6_begin_125 rfl ?_
        refine jIast K (((4 * a) + j)) dX6_begin_126 rfl rfl (jx_add (jx_mul rfl hx) rfl) (by omega) ?_
        refine j_iinc (v := nI (j + 1)) K dX6_begin_127 rfl (by decide) (nI_1 _) ?_
        refine j_goto K 49 dX6_begin_130 (by decide) ?_
        refine j_eqV (V' := bgR W a hi lo (j + 1)) (fun k1 k2 k3 => ?_) (ih (j + 1) (by omega) (by omega))
        have e1 : up (up (bgR W a hi lo j) 45 0 (4 * a + j) (bgR W a hi lo j 52 0 j)) 46 0 (4 * a + j) (bgR W a hi lo j 51 0 j) 25 0 a + rangeY (up (up (bgR W a hi lo j) 45 0 (4 * a + j) (bgR W a hi lo j 52 0 j)) 46 0 (4 * a + j) (bgR W a hi lo j 51 0 j)) a (bgR W a hi lo j 42 0 a) / 2 = hi := by
          show bgR W a hi lo j 25 0 a + (bgR W a hi lo j 26 0 a - (bgR W a hi lo j 26 0 a - bgR W a hi lo j 27 0 a) * distOf (bgR W a hi lo j 42 0 a) / 29) / 2 = hi
          rw [b42, b25, b26, b27, hhi]; rfl
        have e2 : up (up (bgR W a hi lo j) 45 0 (4 * a + j) (bgR W a hi lo j 52 0 j)) 46 0 (4 * a + j) (bgR W a hi lo j 51 0 j) 25 0 a - rangeY (up (up (bgR W a hi lo j) 45 0 (4 * a + j) (bgR W a hi lo j 52 0 j)) 46 0 (4 * a + j) (bgR W a hi lo j 51 0 j)) a (bgR W a hi lo j 42 0 a) / 2 = lo := by
          show bgR W a hi lo j 25 0 a - (bgR W a hi lo j 26 0 a - (bgR W a hi lo j 26 0 a - bgR W a hi lo j 27 0 a) * distOf (bgR W a hi lo j 42 0 a) / 29) / 2 = lo
          rw [b42, b25, b26, b27, hlo]; rfl
        show up (up (up (up (bgR W a hi lo j) 45 0 (4 * a + j) (bgR W a hi lo j 52 0 j)) 46 0 (4 * a + j) (bgR W a hi lo j 51 0 j)) 47 0 (4 * a + j) (if bgR W a hi lo j 52 0 j = 0 then up (up (bgR W a hi lo j) 45 0 (4 * a + j) (bgR W a hi lo j 52 0 j)) 46 0 (4 * a + j) (bgR W a hi lo j 51 0 j) 25 0 a + rangeY (up (up (bgR W a hi lo j) 45 0 (4 * a + j) (bgR W a hi lo j 52 0 j)) 46 0 (4 * a + j) (bgR W a hi lo j 51 0 j)) a (bgR W a hi lo j 42 0 a) / 2 else up (up (bgR W a hi lo j) 45 0 (4 * a + j) (bgR W a hi lo j 52 0 j)) 46 0 (4 * a + j) (bgR W a hi lo j 51 0 j) 25 0 a - rangeY (up (up (bgR W a hi lo j) 45 0 (4 * a + j) (bgR W a hi lo j 52 0 j)) 46 0 (4 * a + j) (bgR W a hi lo j 51 0 j)) a (bgR W a hi lo j 42 0 a) / 2)) 48 0 (4 * a + j) 0 k1 k2 k3 = _
        rw [e1, e2, b51, b52]
        simp only [up, bgR]
        grind
  refine j_aload_n K 0 dX6_begin_0 rfl rfl ?_
  refine j_iload_n K 1 dX6_begin_1 rfl rfl ?_
  refine j_aload_n K 0 dX6_begin_2 rfl rfl ?_
  refine jGr K 39 0 dX6_begin_3 f_X6_46 rfl rfl rfl rfl ?_
  refine j_iload_n K 1 dX6_begin_6 rfl rfl ?_
  refine jIald K (a) dX6_begin_7 rfl rfl hx (by omega) ?_
  refine j_cV2n K dX6_begin_8 m_X6_findTable v_X6_findTable k_X6_140 rfl ⟨by decide, rfl⟩ rfl (c_Mfind _ _ hn6 ha hx hR) (Nat.le_of_ble_eq_true rfl) ⟨by decide, by decide⟩ (by decide) (by decide) ?_
  rw [← hT]
  refine j_aload_n K 0 dX6_begin_11 rfl rfl ?_
  refine jGr K 42 0 dX6_begin_12 f_X6_53 rfl rfl rfl rfl ?_
  refine j_iload_n K 1 dX6_begin_15 rfl rfl ?_
  refine j_aload_n K 0 dX6_begin_16 rfl rfl ?_
  refine jGr K 39 0 dX6_begin_17 f_X6_46 rfl rfl rfl rfl ?_
  refine j_iload_n K 1 dX6_begin_20 rfl rfl ?_
  refine jIald K (a) dX6_begin_21 rfl rfl hx (by omega) ?_
  refine jIast K (a) dX6_begin_22 rfl rfl hx (by omega) ?_
  refine j_aload_n K 0 dX6_begin_23 rfl rfl ?_
  refine jGr K 39 0 dX6_begin_24 f_X6_46 rfl rfl rfl rfl ?_
  refine j_iload_n K 1 dX6_begin_27 rfl rfl ?_
  refine j_iconst K (-1) dX6_begin_28 rfl ?_
  refine jIast K (a) dX6_begin_29 rfl rfl hx (by omega) ?_
  refine j_aload_n K 0 dX6_begin_30 rfl rfl ?_
  refine jGr K 43 0 dX6_begin_31 f_X6_56 rfl rfl rfl rfl ?_
  refine j_iload_n K 1 dX6_begin_34 rfl rfl ?_
  refine j_aload_n K 0 dX6_begin_35 rfl rfl ?_
  refine jGi K dX6_begin_36 f_X6_134 rfl rfl rfl ?_
  refine jIast K (a) dX6_begin_39 rfl rfl hx (by omega) ?_
  refine j_aload_n K 0 dX6_begin_40 rfl rfl ?_
  refine jGr K 44 0 dX6_begin_41 f_X6_59 rfl rfl rfl rfl ?_
  refine j_iload_n K 1 dX6_begin_44 rfl rfl ?_
  refine j_iconst K 0 dX6_begin_45 rfl ?_
  refine jIast K (a) dX6_begin_46 rfl rfl hx (by omega) ?_
  refine j_iconst K 0 dX6_begin_47 rfl ?_
  refine j_istore_n K 2 dX6_begin_48 rfl (by decide) ?_
  refine j_eqV (V' := bgR W a hi lo 0) (fun k1 k2 k3 => ?_) (lp (w4 + 1) 0 (by omega) (by omega))
  rw [show bgR W a hi lo 0 k1 k2 k3 = W k1 k2 k3 from by unfold bgR; rw [if_neg (by omega)]]
  rw [hW, bgT, ← hT6]
  rfl
