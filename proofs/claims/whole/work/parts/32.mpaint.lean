theorem ds_o {V : jV} {q t k i j : Nat} (h1 : ¬ k = 34) (h2 : ¬ k = 35) : dsY V q t k i j = V k i j := by
  unfold dsY up; rw [if_neg (by omega), if_neg (by omega)]
theorem dp_o {V : jV} {q k i j : Nat} (h1 : ¬ k = 34) (h2 : ¬ k = 35) (h3 : ¬ (k = 20 ∧ j = 17)) : ∀ g, dpY V q g k i j = V k i j
  | 0 => rfl
  | g + 1 => by
    rw [dpY, doY, ds_o h1 h2]
    unfold up; rw [if_neg (by omega)]
    exact dp_o h1 h2 h3 g
theorem tk_o {V : jV} {q g k i j : Nat} {x : Int32} (h1 : ¬ k = 34) (h2 : ¬ k = 35) (h3 : ¬ (k = 20 ∧ j = 17)) : tkY V q x g k i j = V k i j := by
  have h : tkU V q x g k i j = V k i j := by
    unfold tkU up; rw [if_neg (by omega)]; exact dp_o h1 h2 h3 g
  unfold tkY
  split
  · rw [doY, ds_o h1 h2, h]
  · exact h
theorem fres_ne {P : Nat → Bool} {c : Nat} (h : ¬ fres P c = -1) : fidx P c < c ∧ fres P c = nI (fidx P c) := by
  unfold fres at h ⊢
  split
  · rename_i q; exact ⟨q, rfl⟩
  · rename_i q; rw [if_neg q] at h; exact absurd rfl h
theorem fres_m1 {P : Nat → Bool} {c : Nat} (hc : c < 2 ^ 31) (h : fres P c = -1) : ¬ fidx P c < c := by
  intro q
  unfold fres at h
  rw [if_pos q] at h
  exact nI_neg1 (by omega) h
/-- a job under way -/
def YJ (n : Nat) (V : jV) : Prop := ∃ a j c4 : Nat, a < n ∧ j < c4 ∧ c4 ≤ 4 ∧ V 20 0 19 = nI a ∧ V 20 0 20 = nI j ∧ V 43 0 a = nI c4 ∧ (V 45 0 (4 * a + j) = 0 ∨ V 45 0 (4 * a + j) = 1)
def YT (V : jV) : Prop := ∀ q, q < 2 → V 34 0 q = nI (tn (V 34 0 q)) ∧ tn (V 34 0 q) ≤ 12
/-- what the painting of one line leans on -/
def YP (n : Nat) (V : jV) : Prop := n ≤ 6 ∧ V 20 0 1 = nI n ∧ (∀ i, i < n → YR V i (tn (V 30 0 i))) ∧ YT V ∧ (V 20 0 19 = -1 ∨ YJ n V)
def plD (V : jV) (a j q g : Nat) : jV :=
  let V3 := drpY (mrdY (tkY V q (5 + V 28 0 a) g) (4 * a + j)) a (tn (V 43 0 a))
  up (up V3 20 0 19 (if V3 20 0 20 = 0 then -1 else nI a)) 20 0 20 (V3 20 0 20 - 1)
def plG (V : jV) (a q : Nat) : Nat := fidx (fun i => decide (5 + V 28 0 a ≤ V 35 0 (12 * q + i))) (tn (V 34 0 q))
def plA (V : jV) : Nat := tn (V 20 0 19)
def plJ (V : jV) : Nat := tn (V 20 0 20)
def plQ (V : jV) : Nat := tn (V 45 0 (4 * plA V + plJ V))
/-- a line of the job under way -/
def pl2 (V : jV) : jV × Bool := if plG V (plA V) (plQ V) < tn (V 34 0 (plQ V)) then (plD V (plA V) (plJ V) (plQ V) (plG V (plA V) (plQ V)), true) else (V, false)
def plP (n : Nat) (V : jV) : Nat := fidx (wai (yo V) (yr V) n 0) n
def plB (n : Nat) (V : jV) : jV := begY V (plP n V) (tn (V 30 0 (plP n V)))
/-- one line of the Model's paint -/
def plY (n : Nat) (V : jV) : jV × Bool := if V 20 0 19 = -1 then (if plP n V < n then pl2 (plB n V) else (V, false)) else pl2 V
set_option maxRecDepth 20000 in
set_option maxHeartbeats 400000 in
theorem c_MpaintLine {l : Launch} {D : va_G} {ca : Nat → ClassId} {q0 : Nat} {sa : Nat → Nat} {ad : jAd} {z n : Nat} {V : jV} (hP : YP n V) (hB : V 20 0 19 = -1 → plP n V < n → YJ n (plB n V) ∧ YT (plB n V))  : jMet l D ca q0 sa ad yX6_paintLine cX6_paintLine 3 (some .boolean) 4 0 0 [.ref (ad 20 0)] (jS z n V) (jRet (some (.int (bI (plY n V).2))) (jS z n (plY n V).1)) := by
  refine j_enter RX6 [some (.ref (ad 20 0)), none, none] rfl (by decide) (by simp [Value.category]) (Nat.le_of_ble_eq_true rfl) rfl ?_
  intro p e s m args below meth c K hnm hX
  have hn6 := hP.1
  have hp := hP.2.1
  have l26 : ∀ (U : jV) (w1 w2 : Option Value), YJ n U → YT U → pl2 U = plY n V → jW p l e (jRm 4 0 0) s m args below meth c D ca q0 ad 3 (jZ below args s D ca q0 ad 0 0 (jRet (some (.int (bI (plY n V).2))) (jS z n (plY n V).1))) 0 0 26 [some (.ref (ad 20 0)), w1, w2] [] (jS z n U) := by
    intro U w1 w2 hJ hT hE
    obtain ⟨a, j, c4, ha, hj, hc4, e1, e2, e3, e4⟩ := hJ
    have hA : plA U = a := by unfold plA; rw [e1, tn_nI (by omega)]
    have hJ2 : plJ U = j := by unfold plJ; rw [e2, tn_nI (by omega)]
    have hq : ∃ q, q < 2 ∧ U 45 0 (4 * a + j) = nI q := by
      rcases e4 with e | e
      · exact ⟨0, by decide, e⟩
      · exact ⟨1, by decide, e⟩
    obtain ⟨q, hq2, hq3⟩ := hq
    have hQ : plQ U = q := by unfold plQ; rw [hA, hJ2, hq3, tn_nI (by omega)]
    obtain ⟨ht, ht2⟩ := hT q hq2
    obtain ⟨t, htd⟩ : ∃ t, t = tn (U 34 0 q) := ⟨_, rfl⟩
    rw [← htd] at ht ht2
    have hlc : tn (U 43 0 a) = c4 := by rw [e3, tn_nI (by omega)]
    by_cases hg : plG U a q < t
    · have hE2 : plY n V = (plD U a j q (plG U a q), true) := by
        rw [← hE]; unfold pl2; rw [hA, hJ2, hQ, ← htd, if_pos hg]
      rw [hE2]
      have hu : ∃ u, u = 4 * a + j := ⟨_, rfl⟩
      have h43 : mrdY (tkY U q (5 + U 28 0 a) (plG U a q)) (4 * a + j) 43 0 a = nI c4 := (tk_o (by decide) (by decide) (by omega)).trans e3
      have h48 : mrdY (tkY U q (5 + U 28 0 a) (plG U a q)) (4 * a + j) 48 0 (4 * a + j) = 1 := by simp [mrdY, up]
      refine j_aload_n K 0 dX6_paintLine_26 rfl rfl ?_
      refine jGi K dX6_paintLine_27 f_X6_49 rfl rfl rfl ?_
      refine j_istore_n K 1 dX6_paintLine_30 rfl (by decide) ?_
      refine j_iconst K 4 dX6_paintLine_31 rfl ?_
      refine j_iload_n K 1 dX6_paintLine_32 rfl rfl ?_
      refine j_imul K dX6_paintLine_33 ?_
      refine j_aload_n K 0 dX6_paintLine_34 rfl rfl ?_
      refine jGi K dX6_paintLine_35 f_X6_192 rfl rfl rfl ?_
      refine j_iadd K dX6_paintLine_38 ?_
      refine j_istore_n K 2 dX6_paintLine_39 rfl (by decide) ?_
      refine j_aload_n K 0 dX6_paintLine_40 rfl rfl ?_
      refine j_aload_n K 0 dX6_paintLine_41 rfl rfl ?_
      refine jGr K 45 0 dX6_paintLine_42 f_X6_62 rfl rfl rfl rfl ?_
      refine j_iload_n K 2 dX6_paintLine_45 rfl rfl ?_
      refine jIald K (((4 * a) + j)) dX6_paintLine_46 rfl rfl (jx_add (jx_mul rfl e1) e2) (by omega) ?_
      refine j_iconst K 5 dX6_paintLine_47 rfl ?_
      refine j_aload_n K 0 dX6_paintLine_48 rfl rfl ?_
      refine jGr K 28 0 dX6_paintLine_49 f_X6_22 rfl rfl rfl rfl ?_
      refine j_iload_n K 1 dX6_paintLine_52 rfl rfl ?_
      refine jIald K (a) dX6_paintLine_53 rfl rfl e1 (by omega) ?_
      refine j_iadd K dX6_paintLine_54 ?_
      refine j_cV2r K dX6_paintLine_55 m_X6_take v_X6_take k_X6_198 rfl ⟨by decide, rfl⟩ rfl (c_Mtake (g := plG U a q) _ _ hq2 hq3 ht ht2 (by rw [htd]; rfl) hg) (Nat.le_of_ble_eq_true rfl) ⟨by decide, by decide⟩ (by decide) (by decide) ?_
      refine j_if_ne K 63 dX6_paintLine_58 (by decide) (fun h_58 => ?_) (fun h_58 => absurd h_58 (by decide))
      refine j_aload_n K 0 dX6_paintLine_63 rfl rfl ?_
      refine j_iload_n K 2 dX6_paintLine_64 rfl rfl ?_
      refine j_cV1n K dX6_paintLine_65 m_X6_makeReadable v_X6_makeReadable k_X6_201 rfl ⟨by decide, rfl⟩ rfl (c_Mmrd _ (jx_add (jmul4 e1) e2) (by omega)) (Nat.le_of_ble_eq_true rfl) ⟨by decide, by decide⟩ (by decide) (by decide) ?_
      refine j_aload_n K 0 dX6_paintLine_68 rfl rfl ?_
      refine j_iload_n K 1 dX6_paintLine_69 rfl rfl ?_
      refine j_cV1n K dX6_paintLine_70 m_X6_drip v_X6_drip k_X6_204 rfl ⟨by decide, rfl⟩ rfl (c_Mdrip _ hn6 ha e1 h43 hc4 ⟨j, hj, h48⟩) (Nat.le_of_ble_eq_true rfl) ⟨by decide, by decide⟩ (by decide) (by decide) ?_
      refine j_aload_n K 0 dX6_paintLine_73 rfl rfl ?_
      refine j_aload_n K 0 dX6_paintLine_74 rfl rfl ?_
      refine jGi K dX6_paintLine_75 f_X6_192 rfl rfl rfl ?_
      refine j_if_ne K 85 dX6_paintLine_78 (by decide) (fun h_78 => ?_) (fun h_78 => ?_)
      · refine j_iload_n K 1 dX6_paintLine_85 rfl rfl ?_
        refine jPi K dX6_paintLine_86 fo_X6_49 rfl rfl rfl rfl (Or.inl rfl) ?_
        refine j_aload_n K 0 dX6_paintLine_89 rfl rfl ?_
        refine j_dup K dX6_paintLine_90 rfl ?_
        refine jGi K dX6_paintLine_91 f_X6_192 rfl rfl rfl ?_
        refine j_iconst K 1 dX6_paintLine_94 rfl ?_
        refine j_isub K dX6_paintLine_95 ?_
        refine jPi K dX6_paintLine_96 fo_X6_192 rfl rfl rfl rfl (Or.inl rfl) ?_
        refine j_iconst K 1 dX6_paintLine_99 rfl ?_
        refine j_zret K dX6_paintLine_100 (by simp) ?_
        refine jret_IV (by rfl) (fun k1 k2 k3 => ?_)
        unfold plD
        rw [hlc]
        dsimp only
        first
        | (rw [if_pos (show drpY (mrdY (tkY U q (5 + U 28 0 a) (plG U a q)) (4 * a + j)) a c4 20 0 20 = 0 from h_78)]; rfl)
        | (rw [if_neg (show ¬ drpY (mrdY (tkY U q (5 + U 28 0 a) (plG U a q)) (4 * a + j)) a c4 20 0 20 = 0 from h_78)]; rw [← e1]; rfl)
      · refine j_iconst K (-1) dX6_paintLine_81 rfl ?_
        refine j_goto K 86 dX6_paintLine_82 (by decide) ?_
        refine jPi K dX6_paintLine_86 fo_X6_49 rfl rfl rfl rfl (Or.inl rfl) ?_
        refine j_aload_n K 0 dX6_paintLine_89 rfl rfl ?_
        refine j_dup K dX6_paintLine_90 rfl ?_
        refine jGi K dX6_paintLine_91 f_X6_192 rfl rfl rfl ?_
        refine j_iconst K 1 dX6_paintLine_94 rfl ?_
        refine j_isub K dX6_paintLine_95 ?_
        refine jPi K dX6_paintLine_96 fo_X6_192 rfl rfl rfl rfl (Or.inl rfl) ?_
        refine j_iconst K 1 dX6_paintLine_99 rfl ?_
        refine j_zret K dX6_paintLine_100 (by simp) ?_
        refine jret_IV (by rfl) (fun k1 k2 k3 => ?_)
        unfold plD
        rw [hlc]
        dsimp only
        first
        | (rw [if_pos (show drpY (mrdY (tkY U q (5 + U 28 0 a) (plG U a q)) (4 * a + j)) a c4 20 0 20 = 0 from h_78)]; rfl)
        | (rw [if_neg (show ¬ drpY (mrdY (tkY U q (5 + U 28 0 a) (plG U a q)) (4 * a + j)) a c4 20 0 20 = 0 from h_78)]; rw [← e1]; rfl)
    · have hE2 : plY n V = (U, false) := by
        rw [← hE]; unfold pl2; rw [hA, hQ, ← htd, if_neg hg]
      rw [hE2]
      refine j_aload_n K 0 dX6_paintLine_26 rfl rfl ?_
      refine jGi K dX6_paintLine_27 f_X6_49 rfl rfl rfl ?_
      refine j_istore_n K 1 dX6_paintLine_30 rfl (by decide) ?_
      refine j_iconst K 4 dX6_paintLine_31 rfl ?_
      refine j_iload_n K 1 dX6_paintLine_32 rfl rfl ?_
      refine j_imul K dX6_paintLine_33 ?_
      refine j_aload_n K 0 dX6_paintLine_34 rfl rfl ?_
      refine jGi K dX6_paintLine_35 f_X6_192 rfl rfl rfl ?_
      refine j_iadd K dX6_paintLine_38 ?_
      refine j_istore_n K 2 dX6_paintLine_39 rfl (by decide) ?_
      refine j_aload_n K 0 dX6_paintLine_40 rfl rfl ?_
      refine j_aload_n K 0 dX6_paintLine_41 rfl rfl ?_
      refine jGr K 45 0 dX6_paintLine_42 f_X6_62 rfl rfl rfl rfl ?_
      refine j_iload_n K 2 dX6_paintLine_45 rfl rfl ?_
      refine jIald K (((4 * a) + j)) dX6_paintLine_46 rfl rfl (jx_add (jx_mul rfl e1) e2) (by omega) ?_
      refine j_iconst K 5 dX6_paintLine_47 rfl ?_
      refine j_aload_n K 0 dX6_paintLine_48 rfl rfl ?_
      refine jGr K 28 0 dX6_paintLine_49 f_X6_22 rfl rfl rfl rfl ?_
      refine j_iload_n K 1 dX6_paintLine_52 rfl rfl ?_
      refine jIald K (a) dX6_paintLine_53 rfl rfl e1 (by omega) ?_
      refine j_iadd K dX6_paintLine_54 ?_
      refine j_cV2r K dX6_paintLine_55 m_X6_take v_X6_take k_X6_198 rfl ⟨by decide, rfl⟩ rfl (c_Mtake0 _ _ hq2 hq3 ht ht2 (by rw [htd] at hg ⊢; exact hg)) (Nat.le_of_ble_eq_true rfl) ⟨by decide, by decide⟩ (by decide) (by decide) ?_
      refine j_if_ne K 63 dX6_paintLine_58 (by decide) (fun h_58 => absurd (by decide) h_58) (fun h_58 => ?_)
      refine j_iconst K 0 dX6_paintLine_61 rfl ?_
      refine j_zret K dX6_paintLine_62 (by simp) ?_
      exact ⟨rfl, rfl⟩
  refine j_aload_n K 0 dX6_paintLine_0 rfl rfl ?_
  refine jGi K dX6_paintLine_1 f_X6_49 rfl rfl rfl ?_
  refine j_iconst K (-1) dX6_paintLine_4 rfl ?_
  refine j_icmp_ne K 26 dX6_paintLine_5 (by decide) (fun h_5 => ?_) (fun h_5 => ?_)
  · first
    | exact l26 V _ _ (hP.2.2.2.2.resolve_left h_5) hP.2.2.2.1 (by unfold plY; rw [if_neg h_5])
    | exact l26 (plB n V) _ _ (hB h_5 (fres_ne h_16).1).1 (hB h_5 (fres_ne h_16).1).2 (by unfold plY; rw [if_pos h_5, if_pos (show plP n V < n from (fres_ne h_16).1)])
  · refine j_aload_n K 0 dX6_paintLine_8 rfl rfl ?_
    refine j_iconst K 0 dX6_paintLine_9 rfl ?_
    refine j_cV1r K dX6_paintLine_10 m_X6_waitingAt v_X6_waitingAt k_X6_189 rfl ⟨by decide, rfl⟩ rfl (c_Mwait _ hn6 hp) (Nat.le_of_ble_eq_true rfl) ⟨by decide, by decide⟩ (by decide) (by decide) ?_
    refine j_istore_n K 1 dX6_paintLine_13 rfl (by decide) ?_
    refine j_iload_n K 1 dX6_paintLine_14 rfl rfl ?_
    refine j_iconst K (-1) dX6_paintLine_15 rfl ?_
    refine j_icmp_ne K 21 dX6_paintLine_16 (by decide) (fun h_16 => ?_) (fun h_16 => ?_)
    · refine j_aload_n K 0 dX6_paintLine_21 rfl rfl ?_
      refine j_iload_n K 1 dX6_paintLine_22 rfl rfl ?_
      refine j_cV1n K dX6_paintLine_23 m_X6_begin v_X6_begin k_X6_195 rfl ⟨by decide, rfl⟩ rfl (c_Mbegin (T := tabY V (plP n V) (tn (V 30 0 (plP n V))) (V 39 0 (plP n V))) _ hn6 (fres_ne h_16).1 (fres_ne h_16).2 (hP.2.2.1 _ (fres_ne h_16).1) rfl) (Nat.le_of_ble_eq_true rfl) ⟨by decide, by decide⟩ (by decide) (by decide) ?_
      first
      | exact l26 V _ _ (hP.2.2.2.2.resolve_left h_5) hP.2.2.2.1 (by unfold plY; rw [if_neg h_5])
      | exact l26 (plB n V) _ _ (hB h_5 (fres_ne h_16).1).1 (hB h_5 (fres_ne h_16).1).2 (by unfold plY; rw [if_pos h_5, if_pos (show plP n V < n from (fres_ne h_16).1)])
    · refine j_iconst K 0 dX6_paintLine_19 rfl ?_
      refine j_zret K dX6_paintLine_20 (by simp) ?_
      refine jret_IV ?_ (fun k1 k2 k3 => ?_)
      · unfold plY; rw [if_pos h_5, if_neg (show ¬ plP n V < n from fres_m1 (by omega) h_16)]; rfl
      · unfold plY; rw [if_pos h_5, if_neg (show ¬ plP n V < n from fres_m1 (by omega) h_16)]
