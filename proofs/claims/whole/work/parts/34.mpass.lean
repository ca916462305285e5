theorem pdR_d {i j : Nat} {U : jV} (h : U 33 0 (6 * i + j) + 1 = 10) : pdR i (j + 1) U = pdR i j (remY (agS i j U) i j) := by rw [pdR, if_pos h]
theorem pdR_k {i j : Nat} {U : jV} (h : ¬ U 33 0 (6 * i + j) + 1 = 10) : pdR i (j + 1) U = pdR i j (agS i j U) := by rw [pdR, if_neg h]
theorem ag_at {i j : Nat} {U : jV} : agS i j U 33 0 (6 * i + j) = U 33 0 (6 * i + j) + 1 := by simp [agS, up]
theorem pdF_0 {U : jV} {i k a b : Nat} : pdF U i 0 k a b = U k a b := by unfold pdF; rw [if_neg (by omega)]
set_option maxRecDepth 20000 in
set_option maxHeartbeats 400000 in
theorem c_MpassDay {l : Launch} {D : va_G} {ca : Nat → ClassId} {q0 : Nat} {sa : Nat → Nat} {ad : jAd} {z n : Nat} {V : jV} (hD : YD n V)  : jMet l D ca q0 sa ad yX6_passDay cX6_passDay 3 none 1 0 0 [.ref (ad 20 0)] (jS z n V) (jRet none (jS z n (pdY n V))) := by
  refine j_enter RX6 [some (.ref (ad 20 0)), none, none] rfl (by decide) (by simp [Value.category]) (Nat.le_of_ble_eq_true rfl) rfl ?_
  intro p e s m args below meth c K hnm hX
  have hn6 := hD.1
  obtain ⟨W, hW⟩ : ∃ W, W = up V 20 0 2 (V 20 0 2 + 1) := ⟨_, rfl⟩
  have hDW : YD n W := by
    obtain ⟨h0, h1, h2, h3⟩ := hD
    rw [hW]
    exact ⟨h0, h1, fun i hi => YR_up (h2 i hi) (by decide) (by decide), h3⟩
  have lo : ∀ (k i : Nat) (w2 : Option Value), i ≤ n → n < i + k → jW p l e (jRm 1 0 0) s m args below meth c D ca q0 ad 3 (jZ below args s D ca q0 ad 0 0 (jRet none (jS z n (pdY n V)))) 0 0 12 [some (.ref (ad 20 0)), some (.int (nI i)), w2] [] (jS z n (pdA W i)) := by
    intro k
    induction k with
    | zero => intro i w2 hj1 hj2; exact absurd hj2 (by omega)
    | succ k ihO =>
      intro i w2 hj1 hj2
      have hDU := YD_pdA hDW i hj1
      obtain ⟨U, hU⟩ : ∃ U, U = pdA W i := ⟨_, rfl⟩
      rw [← hU] at hDU ⊢
      have hp : U 20 0 1 = nI n := hDU.2.1
      obtain ⟨cnt, hcnt⟩ : ∃ u, u = tn (U 30 0 i) := ⟨_, rfl⟩
      obtain ⟨R, hRd⟩ : ∃ R, R = pdR i cnt U := ⟨_, rfl⟩
      have lI : i < n → jW p l e (jRm 1 0 0) s m args below meth c D ca q0 ad 3 (jZ below args s D ca q0 ad 0 0 (jRet none (jS z n (pdY n V)))) 0 0 20 [some (.ref (ad 20 0)), some (.int (nI i)), w2] [] (jS z n U) := by
        intro hi
        have hRU := hDU.2.2.1 i hi
        rw [← hcnt] at hRU
        have hc6 := hRU.2.1
        obtain ⟨c4, hc4⟩ : ∃ u, u = tn (R 43 0 i) := ⟨_, rfl⟩
        have hl : R 43 0 i = nI c4 ∧ c4 ≤ 4 := by
          rw [hc4, hRd, pdR_o (by decide) (by decide) (by decide) (by decide)]; exact hDU.2.2.2 i hi
        have hl4 := hl.1
        have hl5 := hl.2
        have hend : pdF R i c4 = pdA W (i + 1) := by rw [pdA, ← hU, pdP, ← hcnt, ← hRd, ← hc4]
        have lB : ∀ (k' g : Nat), g ≤ c4 → c4 < g + k' → jW p l e (jRm 1 0 0) s m args below meth c D ca q0 ad 3 (jZ below args s D ca q0 ad 0 0 (jRet none (jS z n (pdY n V)))) 0 0 80 [some (.ref (ad 20 0)), some (.int (nI i)), some (.int (nI (4 * i + g)))] [] (jS z n (pdF R i g)) := by
          intro k'
          induction k' with
          | zero => intro g hg1 hg2; exact absurd hg2 (by omega)
          | succ k' ih =>
            intro g hg1 hg2
            have s1 : pdF R i g 48 0 (4 * i + g) = R 48 0 (4 * i + g) := by simp [pdF]
            refine j_iload_n K 2 dX6_passDay_80 rfl rfl ?_
            refine j_iconst K 4 dX6_passDay_81 rfl ?_
            refine j_iload_n K 1 dX6_passDay_82 rfl rfl ?_
            refine j_imul K dX6_passDay_83 ?_
            refine j_aload_n K 0 dX6_passDay_84 rfl rfl ?_
            refine jGr K 43 0 dX6_passDay_85 f_X6_56 rfl rfl rfl rfl ?_
            refine j_iload_n K 1 dX6_passDay_88 rfl rfl ?_
            refine jIald K (i) dX6_passDay_89 rfl rfl rfl (by omega) ?_
            refine j_iadd K dX6_passDay_90 ?_
            refine j_icmp_ge K 133 dX6_passDay_91 (by decide) (fun h_91 => ?_) (fun h_91 => ?_)
            · have hj9 : g = c4 := by have := nle1 h_91 (jx_add (jmul4 rfl) hl4) rfl (by omega) (by omega); omega
              subst hj9
              refine j_iinc (v := nI (i + 1)) K dX6_passDay_133 rfl (by decide) (nI_1 _) ?_
              refine j_goto K 12 dX6_passDay_136 (by decide) ?_
              rw [hend]
              exact ihO (i + 1) _ (by omega) (by omega)
            · have hj3 : g < c4 := by have := nle0 h_91 (jx_add (jmul4 rfl) hl4) rfl (by omega) (by omega); omega
              refine j_aload_n K 0 dX6_passDay_94 rfl rfl ?_
              refine jGr K 48 0 dX6_passDay_95 f_X6_71 rfl rfl rfl rfl ?_
              refine j_iload_n K 2 dX6_passDay_98 rfl rfl ?_
              refine jIald K ((4 * i + g)) dX6_passDay_99 rfl rfl rfl (by omega) ?_
              refine j_iconst K 1 dX6_passDay_100 rfl ?_
              refine j_icmp_ne K 127 dX6_passDay_101 (by decide) (fun h_101 => ?_) (fun h_101 => ?_)
              · refine j_iinc (v := nI ((4 * i + g) + 1)) K dX6_passDay_127 rfl (by decide) (nI_1 _) ?_
                refine j_goto K 80 dX6_passDay_130 (by decide) ?_
                refine j_eqV (V' := pdF R i (g + 1)) (fun k1 k2 k3 => ?_) (ih (g + 1) (by omega) (by omega))
                rw [s1] at h_101
                first
                | (have q : R 49 0 (4 * i + g) + 7 = R 20 0 2 := h_117
                   simp only [up, pdF]; grind)
                | (have q : ¬ R 49 0 (4 * i + g) + 7 = R 20 0 2 := h_117
                   simp only [up, pdF]; grind)
                | (simp only [up, pdF]; grind)
              · refine j_aload_n K 0 dX6_passDay_104 rfl rfl ?_
                refine jGr K 49 0 dX6_passDay_105 f_X6_74 rfl rfl rfl rfl ?_
                refine j_iload_n K 2 dX6_passDay_108 rfl rfl ?_
                refine jIald K ((4 * i + g)) dX6_passDay_109 rfl rfl rfl (by omega) ?_
                refine j_bipush K 7 dX6_passDay_110 rfl ?_
                refine j_iadd K dX6_passDay_112 ?_
                refine j_aload_n K 0 dX6_passDay_113 rfl rfl ?_
                refine jGi K dX6_passDay_114 f_X6_102 rfl rfl rfl ?_
                refine j_icmp_ne K 127 dX6_passDay_117 (by decide) (fun h_117 => ?_) (fun h_117 => ?_)
                · refine j_iinc (v := nI ((4 * i + g) + 1)) K dX6_passDay_127 rfl (by decide) (nI_1 _) ?_
                  refine j_goto K 80 dX6_passDay_130 (by decide) ?_
                  refine j_eqV (V' := pdF R i (g + 1)) (fun k1 k2 k3 => ?_) (ih (g + 1) (by omega) (by omega))
                  rw [s1] at h_101
                  first
                  | (have q : R 49 0 (4 * i + g) + 7 = R 20 0 2 := h_117
                     simp only [up, pdF]; grind)
                  | (have q : ¬ R 49 0 (4 * i + g) + 7 = R 20 0 2 := h_117
                     simp only [up, pdF]; grind)
                  | (simp only [up, pdF]; grind)
                · refine j_aload_n K 0 dX6_passDay_120 rfl rfl ?_
                  refine jGr K 48 0 dX6_passDay_121 f_X6_71 rfl rfl rfl rfl ?_
                  refine j_iload_n K 2 dX6_passDay_124 rfl rfl ?_
                  refine j_iconst K 3 dX6_passDay_125 rfl ?_
                  refine jIast K ((4 * i + g)) dX6_passDay_126 rfl rfl rfl (by omega) ?_
                  refine j_iinc (v := nI ((4 * i + g) + 1)) K dX6_passDay_127 rfl (by decide) (nI_1 _) ?_
                  refine j_goto K 80 dX6_passDay_130 (by decide) ?_
                  refine j_eqV (V' := pdF R i (g + 1)) (fun k1 k2 k3 => ?_) (ih (g + 1) (by omega) (by omega))
                  rw [s1] at h_101
                  first
                  | (have q : R 49 0 (4 * i + g) + 7 = R 20 0 2 := h_117
                     simp only [up, pdF]; grind)
                  | (have q : ¬ R 49 0 (4 * i + g) + 7 = R 20 0 2 := h_117
                     simp only [up, pdF]; grind)
                  | (simp only [up, pdF]; grind)
        have lA : ∀ (j c' : Nat) (U' : jV), j ≤ c' → YR U' i c' → pdR i j U' = R → jW p l e (jRm 1 0 0) s m args below meth c D ca q0 ad 3 (jZ below args s D ca q0 ad 0 0 (jRet none (jS z n (pdY n V)))) 0 0 29 [some (.ref (ad 20 0)), some (.int (nI i)), some (.int (nI j - 1))] [] (jS z n U') := by
          intro j
          induction j with
          | zero =>
            intro c' U' hj hY hE
            have hE2 : U' = R := hE
            subst hE2
            refine j_iload_n K 2 dX6_passDay_29 rfl rfl ?_
            refine j_if_lt K 76 dX6_passDay_30 (by decide) (fun h_30 => ?_) (fun h_30 => ?_)
            · refine j_iconst K 4 dX6_passDay_76 rfl ?_
              refine j_iload_n K 1 dX6_passDay_77 rfl rfl ?_
              refine j_imul K dX6_passDay_78 ?_
              refine j_istore_n K 2 dX6_passDay_79 rfl (by decide) ?_
              rw [show 4 * nI i = nI (4 * i + 0) from jmul4 rfl]
              refine j_eqV (V' := pdF U' i 0) (fun k1 k2 k3 => ?_) (lB (c4 + 1) 0 (by omega) (by omega))
              rw [pdF_0]
            · exact absurd (show nI 0 - 1 < 0 by decide) h_30
          | succ j ih =>
            intro c' U' hj hY hE
            rw [nI_pred]
            have hc6' := hY.2.1
            have hYa : YR (agS i j U') i c' := YR_up hY (by decide) (by decide)
            refine j_iload_n K 2 dX6_passDay_29 rfl rfl ?_
            refine j_if_lt K 76 dX6_passDay_30 (by decide) (fun h_30 => ?_) (fun h_30 => ?_)
            · exact absurd h_30 (nI_pos (by omega))
            · refine j_aload_n K 0 dX6_passDay_33 rfl rfl ?_
              refine jGr K 33 0 dX6_passDay_34 f_X6_37 rfl rfl rfl rfl ?_
              refine j_bipush K 6 dX6_passDay_37 rfl ?_
              refine j_iload_n K 1 dX6_passDay_39 rfl rfl ?_
              refine j_imul K dX6_passDay_40 ?_
              refine j_iload_n K 2 dX6_passDay_41 rfl rfl ?_
              refine j_iadd K dX6_passDay_42 ?_
              refine j_dup2 K dX6_passDay_43 rfl rfl ?_
              refine jIald K (((6 * i) + j)) dX6_passDay_44 rfl rfl (jx_add (jx_mul rfl rfl) rfl) (by omega) ?_
              refine j_iconst K 1 dX6_passDay_45 rfl ?_
              refine j_iadd K dX6_passDay_46 ?_
              refine jIast K (((6 * i) + j)) dX6_passDay_47 rfl rfl (jx_add (jx_mul rfl rfl) rfl) (by omega) ?_
              refine j_aload_n K 0 dX6_passDay_48 rfl rfl ?_
              refine jGr K 33 0 dX6_passDay_49 f_X6_37 rfl rfl rfl rfl ?_
              refine j_bipush K 6 dX6_passDay_52 rfl ?_
              refine j_iload_n K 1 dX6_passDay_54 rfl rfl ?_
              refine j_imul K dX6_passDay_55 ?_
              refine j_iload_n K 2 dX6_passDay_56 rfl rfl ?_
              refine j_iadd K dX6_passDay_57 ?_
              refine jIald K (((6 * i) + j)) dX6_passDay_58 rfl rfl (jx_add (jx_mul rfl rfl) rfl) (by omega) ?_
              refine j_bipush K 10 dX6_passDay_59 rfl ?_
              refine j_icmp_ne K 70 dX6_passDay_61 (by decide) (fun h_61 => ?_) (fun h_61 => ?_)
              · refine j_iinc (v := nI (j) - 1) K dX6_passDay_70 rfl (by decide) (jx_dec _) ?_
                refine j_goto K 29 dX6_passDay_73 (by decide) ?_
                have ea : up U' 33 0 (6 * i + j) (U' 33 0 (6 * i + j) + 1) 33 0 (6 * i + j) = U' 33 0 (6 * i + j) + 1 := ag_at
                rw [ea] at h_61
                first
                | exact ih (c' - 1) _ (by omega) (YR_rem hYa (by omega)) ((pdR_d h_61).symm.trans hE)
                | exact ih c' _ (by omega) hYa ((pdR_k h_61).symm.trans hE)
              · refine j_aload_n K 0 dX6_passDay_64 rfl rfl ?_
                refine j_iload_n K 1 dX6_passDay_65 rfl rfl ?_
                refine j_iload_n K 2 dX6_passDay_66 rfl rfl ?_
                refine j_cV2n K dX6_passDay_67 m_X6_dropReport v_X6_dropReport k_X6_105 rfl ⟨by decide, rfl⟩ rfl (c_Mdrop (cnt := c') _ j hn6 hi rfl hYa (by omega)) (Nat.le_of_ble_eq_true rfl) ⟨by decide, by decide⟩ (by decide) (by decide) ?_
                refine j_iinc (v := nI (j) - 1) K dX6_passDay_70 rfl (by decide) (jx_dec _) ?_
                refine j_goto K 29 dX6_passDay_73 (by decide) ?_
                have ea : up U' 33 0 (6 * i + j) (U' 33 0 (6 * i + j) + 1) 33 0 (6 * i + j) = U' 33 0 (6 * i + j) + 1 := ag_at
                rw [ea] at h_61
                first
                | exact ih (c' - 1) _ (by omega) (YR_rem hYa (by omega)) ((pdR_d h_61).symm.trans hE)
                | exact ih c' _ (by omega) hYa ((pdR_k h_61).symm.trans hE)
        refine j_aload_n K 0 dX6_passDay_20 rfl rfl ?_
        refine jGr K 30 0 dX6_passDay_21 f_X6_28 rfl rfl rfl rfl ?_
        refine j_iload_n K 1 dX6_passDay_24 rfl rfl ?_
        refine jIald K (i) dX6_passDay_25 rfl rfl rfl (by omega) ?_
        refine j_iconst K 1 dX6_passDay_26 rfl ?_
        refine j_isub K dX6_passDay_27 ?_
        rw [hRU.1]
        refine j_istore_n K 2 dX6_passDay_28 rfl (by decide) ?_
        refine lA cnt cnt U (Nat.le_refl _) hRU hRd.symm
      refine j_iload_n K 1 dX6_passDay_12 rfl rfl ?_
      refine j_aload_n K 0 dX6_passDay_13 rfl rfl ?_
      refine jGi K dX6_passDay_14 f_X6_86 rfl rfl rfl ?_
      refine j_icmp_ge K 139 dX6_passDay_17 (by decide) (fun h_17 => ?_) (fun h_17 => ?_)
      · have hj9 : i = n := by have := nle1 h_17 hp rfl (by omega) (by omega); omega
        refine j_vret K dX6_passDay_139 ?_
        rw [hU, hj9, hW]
        exact ⟨rfl, rfl⟩
      · exact lI (nle0 h_17 hp rfl (by omega) (by omega))
  refine j_aload_n K 0 dX6_passDay_0 rfl rfl ?_
  refine j_dup K dX6_passDay_1 rfl ?_
  refine jGi K dX6_passDay_2 f_X6_102 rfl rfl rfl ?_
  refine j_iconst K 1 dX6_passDay_5 rfl ?_
  refine j_iadd K dX6_passDay_6 ?_
  refine jPi K dX6_passDay_7 fo_X6_102 rfl rfl rfl rfl (Or.inl rfl) ?_
  refine j_iconst K 0 dX6_passDay_10 rfl ?_
  refine j_istore_n K 1 dX6_passDay_11 rfl (by decide) ?_
  rw [← hW]
  exact lo (n + 1) 0 _ (by omega) (by omega)
