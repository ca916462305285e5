theorem c_MWb {l : Launch} {D : va_G} {ca : Nat → ClassId} {q0 : Nat} {sa : Nat → Nat} {ad : jAd} {M : jM} (x lo hi : Int32) : jMet l D ca q0 sa ad yX6_isWithin cX6_isWithin 3 (some .boolean) 0 0 0 [.int x, .int lo, .int hi] M (jRet (some (.int (bI (decide (lo ≤ x ∧ x ≤ hi))))) M) := by
  by_cases h : lo ≤ x ∧ x ≤ hi
  · rw [decide_eq_true h]; exact c_MW _ _ _ h
  · rw [decide_eq_false h]; exact c_MW0 _ _ _ h
theorem bw {x lo hi : Int32} (h : ¬ bI (decide (lo ≤ x ∧ x ≤ hi)) = 0) : lo ≤ x ∧ x ≤ hi := of_decide_eq_true (bI_1 h)
set_option maxRecDepth 20000 in
set_option maxHeartbeats 400000 in
theorem c_M_addPierx1 {l : Launch} {D : va_G} {ca : Nat → ClassId} {q0 : Nat} {sa : Nat → Nat} {ad : jAd} {z n : Nat} {V : jV} (b1 b2 b3 b4 b5 : Int32) (hA : ¬ okA b1 b2 b3 b4 b5)  : jMet l D ca q0 sa ad yX6_addPier cX6_addPier 8 (some .int) 2 0 0 [.ref (ad 20 0), .int b1, .int b2, .int b3, .int b4, .int b5] (jS z n V) (jRet (some (.int 0)) (jS z n (thr V 1))) := by
  refine j_enter RX6 [some (.ref (ad 20 0)), some (.int b1), some (.int b2), some (.int b3), some (.int b4), some (.int b5), none, none] rfl (by decide) (by simp [Value.category]) (Nat.le_of_ble_eq_true rfl) rfl ?_
  intro p e s m args below meth c K hnm hX
  refine j_iload_n K 1 dX6_addPier_0 rfl rfl ?_
  refine j_iconst K 0 dX6_addPier_1 rfl ?_
  refine j_sipush K 744 dX6_addPier_2 rfl ?_
  refine j_cS3r K dX6_addPier_5 m_X6_isWithin s_X6_isWithin k_X6_89 (c_MWb _ _ _) (Nat.le_of_ble_eq_true rfl) ⟨by decide, by decide⟩ (by decide) (by decide) ?_
  refine j_if_eq K 26 dX6_addPier_8 (by decide) (fun h_8 => ?_) (fun h_8 => ?_)
  · refine j_iconst K 0 dX6_addPier_26 rfl ?_
    refine j_istore K dX6_addPier_27 (by decide) ?_
    refine j_iload_n K 2 dX6_addPier_29 rfl rfl ?_
    refine j_iconst K 0 dX6_addPier_30 rfl ?_
    refine j_sipush K 999 dX6_addPier_31 rfl ?_
    refine j_cS3r K dX6_addPier_34 m_X6_isWithin s_X6_isWithin k_X6_89 (c_MWb _ _ _) (Nat.le_of_ble_eq_true rfl) ⟨by decide, by decide⟩ (by decide) (by decide) ?_
    refine j_if_eq K 65 dX6_addPier_37 (by decide) (fun h_37 => ?_) (fun h_37 => ?_)
    · refine j_iconst K 0 dX6_addPier_65 rfl ?_
      refine j_istore K dX6_addPier_66 (by decide) ?_
      refine j_aload_n K 0 dX6_addPier_68 rfl rfl ?_
      refine j_iload K dX6_addPier_69 rfl ?_
      refine j_if_eq K 83 dX6_addPier_71 (by decide) (fun h_71 => ?_) (fun h_71 => absurd (by decide) h_71)
      refine j_iconst K 0 dX6_addPier_83 rfl ?_
      refine j_iconst K 1 dX6_addPier_84 rfl ?_
      refine j_cV2r K dX6_addPier_85 m_X6_isGood v_X6_isGood k_X6_93 rfl ⟨by decide, rfl⟩ rfl (c_MG0 _) (Nat.le_of_ble_eq_true rfl) ⟨by decide, by decide⟩ (by decide) (by decide) ?_
      refine j_if_ne K 93 dX6_addPier_88 (by decide) (fun h_88 => absurd (by decide) h_88) (fun h_88 => ?_)
      refine j_iconst K 0 dX6_addPier_91 rfl ?_
      refine j_iret K dX6_addPier_92 ?_
      exact ⟨rfl, rfl⟩
    · refine j_iload_n K 3 dX6_addPier_40 rfl rfl ?_
      refine j_iconst K 0 dX6_addPier_41 rfl ?_
      refine j_sipush K 999 dX6_addPier_42 rfl ?_
      refine j_cS3r K dX6_addPier_45 m_X6_isWithin s_X6_isWithin k_X6_89 (c_MWb _ _ _) (Nat.le_of_ble_eq_true rfl) ⟨by decide, by decide⟩ (by decide) (by decide) ?_
      refine j_if_eq K 65 dX6_addPier_48 (by decide) (fun h_48 => ?_) (fun h_48 => ?_)
      · refine j_iconst K 0 dX6_addPier_65 rfl ?_
        refine j_istore K dX6_addPier_66 (by decide) ?_
        refine j_aload_n K 0 dX6_addPier_68 rfl rfl ?_
        refine j_iload K dX6_addPier_69 rfl ?_
        refine j_if_eq K 83 dX6_addPier_71 (by decide) (fun h_71 => ?_) (fun h_71 => absurd (by decide) h_71)
        refine j_iconst K 0 dX6_addPier_83 rfl ?_
        refine j_iconst K 1 dX6_addPier_84 rfl ?_
        refine j_cV2r K dX6_addPier_85 m_X6_isGood v_X6_isGood k_X6_93 rfl ⟨by decide, rfl⟩ rfl (c_MG0 _) (Nat.le_of_ble_eq_true rfl) ⟨by decide, by decide⟩ (by decide) (by decide) ?_
        refine j_if_ne K 93 dX6_addPier_88 (by decide) (fun h_88 => absurd (by decide) h_88) (fun h_88 => ?_)
        refine j_iconst K 0 dX6_addPier_91 rfl ?_
        refine j_iret K dX6_addPier_92 ?_
        exact ⟨rfl, rfl⟩
      · refine j_iload K dX6_addPier_51 rfl ?_
        refine j_iconst K 0 dX6_addPier_53 rfl ?_
        refine j_iload_n K 3 dX6_addPier_54 rfl rfl ?_
        refine j_cS3r K dX6_addPier_55 m_X6_isWithin s_X6_isWithin k_X6_89 (c_MWb _ _ _) (Nat.le_of_ble_eq_true rfl) ⟨by decide, by decide⟩ (by decide) (by decide) ?_
        refine j_if_eq K 65 dX6_addPier_58 (by decide) (fun h_58 => ?_) (fun h_58 => ?_)
        · refine j_iconst K 0 dX6_addPier_65 rfl ?_
          refine j_istore K dX6_addPier_66 (by decide) ?_
          refine j_aload_n K 0 dX6_addPier_68 rfl rfl ?_
          refine j_iload K dX6_addPier_69 rfl ?_
          refine j_if_eq K 83 dX6_addPier_71 (by decide) (fun h_71 => ?_) (fun h_71 => absurd (by decide) h_71)
          refine j_iconst K 0 dX6_addPier_83 rfl ?_
          refine j_iconst K 1 dX6_addPier_84 rfl ?_
          refine j_cV2r K dX6_addPier_85 m_X6_isGood v_X6_isGood k_X6_93 rfl ⟨by decide, rfl⟩ rfl (c_MG0 _) (Nat.le_of_ble_eq_true rfl) ⟨by decide, by decide⟩ (by decide) (by decide) ?_
          refine j_if_ne K 93 dX6_addPier_88 (by decide) (fun h_88 => absurd (by decide) h_88) (fun h_88 => ?_)
          refine j_iconst K 0 dX6_addPier_91 rfl ?_
          refine j_iret K dX6_addPier_92 ?_
          exact ⟨rfl, rfl⟩
        · refine j_iconst K 1 dX6_addPier_61 rfl ?_
          refine j_goto K 66 dX6_addPier_62 (by decide) ?_
          refine j_istore K dX6_addPier_66 (by decide) ?_
          refine j_aload_n K 0 dX6_addPier_68 rfl rfl ?_
          refine j_iload K dX6_addPier_69 rfl ?_
          refine j_if_eq K 83 dX6_addPier_71 (by decide) (fun h_71 => ?_) (fun h_71 => absurd (by decide) h_71)
          refine j_iconst K 0 dX6_addPier_83 rfl ?_
          refine j_iconst K 1 dX6_addPier_84 rfl ?_
          refine j_cV2r K dX6_addPier_85 m_X6_isGood v_X6_isGood k_X6_93 rfl ⟨by decide, rfl⟩ rfl (c_MG0 _) (Nat.le_of_ble_eq_true rfl) ⟨by decide, by decide⟩ (by decide) (by decide) ?_
          refine j_if_ne K 93 dX6_addPier_88 (by decide) (fun h_88 => absurd (by decide) h_88) (fun h_88 => ?_)
          refine j_iconst K 0 dX6_addPier_91 rfl ?_
          refine j_iret K dX6_addPier_92 ?_
          exact ⟨rfl, rfl⟩
  · refine j_iload K dX6_addPier_11 rfl ?_
    refine j_iconst K 0 dX6_addPier_13 rfl ?_
    refine j_bipush K 9 dX6_addPier_14 rfl ?_
    refine j_cS3r K dX6_addPier_16 m_X6_isWithin s_X6_isWithin k_X6_89 (c_MWb _ _ _) (Nat.le_of_ble_eq_true rfl) ⟨by decide, by decide⟩ (by decide) (by decide) ?_
    refine j_if_eq K 26 dX6_addPier_19 (by decide) (fun h_19 => ?_) (fun h_19 => ?_)
    · refine j_iconst K 0 dX6_addPier_26 rfl ?_
      refine j_istore K dX6_addPier_27 (by decide) ?_
      refine j_iload_n K 2 dX6_addPier_29 rfl rfl ?_
      refine j_iconst K 0 dX6_addPier_30 rfl ?_
      refine j_sipush K 999 dX6_addPier_31 rfl ?_
      refine j_cS3r K dX6_addPier_34 m_X6_isWithin s_X6_isWithin k_X6_89 (c_MWb _ _ _) (Nat.le_of_ble_eq_true rfl) ⟨by decide, by decide⟩ (by decide) (by decide) ?_
      refine j_if_eq K 65 dX6_addPier_37 (by decide) (fun h_37 => ?_) (fun h_37 => ?_)
      · refine j_iconst K 0 dX6_addPier_65 rfl ?_
        refine j_istore K dX6_addPier_66 (by decide) ?_
        refine j_aload_n K 0 dX6_addPier_68 rfl rfl ?_
        refine j_iload K dX6_addPier_69 rfl ?_
        refine j_if_eq K 83 dX6_addPier_71 (by decide) (fun h_71 => ?_) (fun h_71 => absurd (by decide) h_71)
        refine j_iconst K 0 dX6_addPier_83 rfl ?_
        refine j_iconst K 1 dX6_addPier_84 rfl ?_
        refine j_cV2r K dX6_addPier_85 m_X6_isGood v_X6_isGood k_X6_93 rfl ⟨by decide, rfl⟩ rfl (c_MG0 _) (Nat.le_of_ble_eq_true rfl) ⟨by decide, by decide⟩ (by decide) (by decide) ?_
        refine j_if_ne K 93 dX6_addPier_88 (by decide) (fun h_88 => absurd (by decide) h_88) (fun h_88 => ?_)
        refine j_iconst K 0 dX6_addPier_91 rfl ?_
        refine j_iret K dX6_addPier_92 ?_
        exact ⟨rfl, rfl⟩
      · refine j_iload_n K 3 dX6_addPier_40 rfl rfl ?_
        refine j_iconst K 0 dX6_addPier_41 rfl ?_
        refine j_sipush K 999 dX6_addPier_42 rfl ?_
        refine j_cS3r K dX6_addPier_45 m_X6_isWithin s_X6_isWithin k_X6_89 (c_MWb _ _ _) (Nat.le_of_ble_eq_true rfl) ⟨by decide, by decide⟩ (by decide) (by decide) ?_
        refine j_if_eq K 65 dX6_addPier_48 (by decide) (fun h_48 => ?_) (fun h_48 => ?_)
        · refine j_iconst K 0 dX6_addPier_65 rfl ?_
          refine j_istore K dX6_addPier_66 (by decide) ?_
          refine j_aload_n K 0 dX6_addPier_68 rfl rfl ?_
          refine j_iload K dX6_addPier_69 rfl ?_
          refine j_if_eq K 83 dX6_addPier_71 (by decide) (fun h_71 => ?_) (fun h_71 => absurd (by decide) h_71)
          refine j_iconst K 0 dX6_addPier_83 rfl ?_
          refine j_iconst K 1 dX6_addPier_84 rfl ?_
          refine j_cV2r K dX6_addPier_85 m_X6_isGood v_X6_isGood k_X6_93 rfl ⟨by decide, rfl⟩ rfl (c_MG0 _) (Nat.le_of_ble_eq_true rfl) ⟨by decide, by decide⟩ (by decide) (by decide) ?_
          refine j_if_ne K 93 dX6_addPier_88 (by decide) (fun h_88 => absurd (by decide) h_88) (fun h_88 => ?_)
          refine j_iconst K 0 dX6_addPier_91 rfl ?_
          refine j_iret K dX6_addPier_92 ?_
          exact ⟨rfl, rfl⟩
        · refine j_iload K dX6_addPier_51 rfl ?_
          refine j_iconst K 0 dX6_addPier_53 rfl ?_
          refine j_iload_n K 3 dX6_addPier_54 rfl rfl ?_
          refine j_cS3r K dX6_addPier_55 m_X6_isWithin s_X6_isWithin k_X6_89 (c_MWb _ _ _) (Nat.le_of_ble_eq_true rfl) ⟨by decide, by decide⟩ (by decide) (by decide) ?_
          refine j_if_eq K 65 dX6_addPier_58 (by decide) (fun h_58 => ?_) (fun h_58 => ?_)
          · refine j_iconst K 0 dX6_addPier_65 rfl ?_
            refine j_istore K dX6_addPier_66 (by decide) ?_
            refine j_aload_n K 0 dX6_addPier_68 rfl rfl ?_
            refine j_iload K dX6_addPier_69 rfl ?_
            refine j_if_eq K 83 dX6_addPier_71 (by decide) (fun h_71 => ?_) (fun h_71 => absurd (by decide) h_71)
            refine j_iconst K 0 dX6_addPier_83 rfl ?_
            refine j_iconst K 1 dX6_addPier_84 rfl ?_
            refine j_cV2r K dX6_addPier_85 m_X6_isGood v_X6_isGood k_X6_93 rfl ⟨by decide, rfl⟩ rfl (c_MG0 _) (Nat.le_of_ble_eq_true rfl) ⟨by decide, by decide⟩ (by decide) (by decide) ?_
            refine j_if_ne K 93 dX6_addPier_88 (by decide) (fun h_88 => absurd (by decide) h_88) (fun h_88 => ?_)
            refine j_iconst K 0 dX6_addPier_91 rfl ?_
            refine j_iret K dX6_addPier_92 ?_
            exact ⟨rfl, rfl⟩
          · refine j_iconst K 1 dX6_addPier_61 rfl ?_
            refine j_goto K 66 dX6_addPier_62 (by decide) ?_
            refine j_istore K dX6_addPier_66 (by decide) ?_
            refine j_aload_n K 0 dX6_addPier_68 rfl rfl ?_
            refine j_iload K dX6_addPier_69 rfl ?_
            refine j_if_eq K 83 dX6_addPier_71 (by decide) (fun h_71 => ?_) (fun h_71 => absurd (by decide) h_71)
            refine j_iconst K 0 dX6_addPier_83 rfl ?_
            refine j_iconst K 1 dX6_addPier_84 rfl ?_
            refine j_cV2r K dX6_addPier_85 m_X6_isGood v_X6_isGood k_X6_93 rfl ⟨by decide, rfl⟩ rfl (c_MG0 _) (Nat.le_of_ble_eq_true rfl) ⟨by decide, by decide⟩ (by decide) (by decide) ?_
            refine j_if_ne K 93 dX6_addPier_88 (by decide) (fun h_88 => absurd (by decide) h_88) (fun h_88 => ?_)
            refine j_iconst K 0 dX6_addPier_91 rfl ?_
            refine j_iret K dX6_addPier_92 ?_
            exact ⟨rfl, rfl⟩
    · refine j_iconst K 1 dX6_addPier_22 rfl ?_
      refine j_goto K 27 dX6_addPier_23 (by decide) ?_
      refine j_istore K dX6_addPier_27 (by decide) ?_
      refine j_iload_n K 2 dX6_addPier_29 rfl rfl ?_
      refine j_iconst K 0 dX6_addPier_30 rfl ?_
      refine j_sipush K 999 dX6_addPier_31 rfl ?_
      refine j_cS3r K dX6_addPier_34 m_X6_isWithin s_X6_isWithin k_X6_89 (c_MWb _ _ _) (Nat.le_of_ble_eq_true rfl) ⟨by decide, by decide⟩ (by decide) (by decide) ?_
      refine j_if_eq K 65 dX6_addPier_37 (by decide) (fun h_37 => ?_) (fun h_37 => ?_)
      · refine j_iconst K 0 dX6_addPier_65 rfl ?_
        refine j_istore K dX6_addPier_66 (by decide) ?_
        refine j_aload_n K 0 dX6_addPier_68 rfl rfl ?_
        refine j_iload K dX6_addPier_69 rfl ?_
        refine j_if_eq K 83 dX6_addPier_71 (by decide) (fun h_71 => absurd h_71 (by decide)) (fun h_71 => ?_)
        refine j_iload K dX6_addPier_74 rfl ?_
        refine j_if_eq K 83 dX6_addPier_76 (by decide) (fun h_76 => ?_) (fun h_76 => absurd (by decide) h_76)
        refine j_iconst K 0 dX6_addPier_83 rfl ?_
        refine j_iconst K 1 dX6_addPier_84 rfl ?_
        refine j_cV2r K dX6_addPier_85 m_X6_isGood v_X6_isGood k_X6_93 rfl ⟨by decide, rfl⟩ rfl (c_MG0 _) (Nat.le_of_ble_eq_true rfl) ⟨by decide, by decide⟩ (by decide) (by decide) ?_
        refine j_if_ne K 93 dX6_addPier_88 (by decide) (fun h_88 => absurd (by decide) h_88) (fun h_88 => ?_)
        refine j_iconst K 0 dX6_addPier_91 rfl ?_
        refine j_iret K dX6_addPier_92 ?_
        exact ⟨rfl, rfl⟩
      · refine j_iload_n K 3 dX6_addPier_40 rfl rfl ?_
        refine j_iconst K 0 dX6_addPier_41 rfl ?_
        refine j_sipush K 999 dX6_addPier_42 rfl ?_
        refine j_cS3r K dX6_addPier_45 m_X6_isWithin s_X6_isWithin k_X6_89 (c_MWb _ _ _) (Nat.le_of_ble_eq_true rfl) ⟨by decide, by decide⟩ (by decide) (by decide) ?_
        refine j_if_eq K 65 dX6_addPier_48 (by decide) (fun h_48 => ?_) (fun h_48 => ?_)
        · refine j_iconst K 0 dX6_addPier_65 rfl ?_
          refine j_istore K dX6_addPier_66 (by decide) ?_
          refine j_aload_n K 0 dX6_addPier_68 rfl rfl ?_
          refine j_iload K dX6_addPier_69 rfl ?_
          refine j_if_eq K 83 dX6_addPier_71 (by decide) (fun h_71 => absurd h_71 (by decide)) (fun h_71 => ?_)
          refine j_iload K dX6_addPier_74 rfl ?_
          refine j_if_eq K 83 dX6_addPier_76 (by decide) (fun h_76 => ?_) (fun h_76 => absurd (by decide) h_76)
          refine j_iconst K 0 dX6_addPier_83 rfl ?_
          refine j_iconst K 1 dX6_addPier_84 rfl ?_
          refine j_cV2r K dX6_addPier_85 m_X6_isGood v_X6_isGood k_X6_93 rfl ⟨by decide, rfl⟩ rfl (c_MG0 _) (Nat.le_of_ble_eq_true rfl) ⟨by decide, by decide⟩ (by decide) (by decide) ?_
          refine j_if_ne K 93 dX6_addPier_88 (by decide) (fun h_88 => absurd (by decide) h_88) (fun h_88 => ?_)
          refine j_iconst K 0 dX6_addPier_91 rfl ?_
          refine j_iret K dX6_addPier_92 ?_
          exact ⟨rfl, rfl⟩
        · refine j_iload K dX6_addPier_51 rfl ?_
          refine j_iconst K 0 dX6_addPier_53 rfl ?_
          refine j_iload_n K 3 dX6_addPier_54 rfl rfl ?_
          refine j_cS3r K dX6_addPier_55 m_X6_isWithin s_X6_isWithin k_X6_89 (c_MWb _ _ _) (Nat.le_of_ble_eq_true rfl) ⟨by decide, by decide⟩ (by decide) (by decide) ?_
          refine j_if_eq K 65 dX6_addPier_58 (by decide) (fun h_58 => ?_) (fun h_58 => ?_)
          · refine j_iconst K 0 dX6_addPier_65 rfl ?_
            refine j_istore K dX6_addPier_66 (by decide) ?_
            refine j_aload_n K 0 dX6_addPier_68 rfl rfl ?_
            refine j_iload K dX6_addPier_69 rfl ?_
            refine j_if_eq K 83 dX6_addPier_71 (by decide) (fun h_71 => absurd h_71 (by decide)) (fun h_71 => ?_)
            refine j_iload K dX6_addPier_74 rfl ?_
            refine j_if_eq K 83 dX6_addPier_76 (by decide) (fun h_76 => ?_) (fun h_76 => absurd (by decide) h_76)
            refine j_iconst K 0 dX6_addPier_83 rfl ?_
            refine j_iconst K 1 dX6_addPier_84 rfl ?_
            refine j_cV2r K dX6_addPier_85 m_X6_isGood v_X6_isGood k_X6_93 rfl ⟨by decide, rfl⟩ rfl (c_MG0 _) (Nat.le_of_ble_eq_true rfl) ⟨by decide, by decide⟩ (by decide) (by decide) ?_
            refine j_if_ne K 93 dX6_addPier_88 (by decide) (fun h_88 => absurd (by decide) h_88) (fun h_88 => ?_)
            refine j_iconst K 0 dX6_addPier_91 rfl ?_
            refine j_iret K dX6_addPier_92 ?_
            exact ⟨rfl, rfl⟩
          · refine j_iconst K 1 dX6_addPier_61 rfl ?_
            refine j_goto K 66 dX6_addPier_62 (by decide) ?_
            refine j_istore K dX6_addPier_66 (by decide) ?_
            refine j_aload_n K 0 dX6_addPier_68 rfl rfl ?_
            refine j_iload K dX6_addPier_69 rfl ?_
            refine j_if_eq K 83 dX6_addPier_71 (by decide) (fun h_71 => absurd h_71 (by decide)) (fun h_71 => ?_)
            refine j_iload K dX6_addPier_74 rfl ?_
            refine j_if_eq K 83 dX6_addPier_76 (by decide) (fun h_76 => absurd h_76 (by decide)) (fun h_76 => ?_)
            exact absurd ⟨bw h_8, bw h_37, bw h_48, bw h_58, bw h_19⟩ hA
def l6 (Lv : jLv) : jLv := upL (upL (upL (upL (upL (upL (upL (upL (upL (upL (upL (upL (upL (upL (upL (upL (upL (upL (upL (upL (upL (upL (upL Lv 24 0) 25 0) 26 0) 27 0) 28 0) 29 0) 30 0) 31 0) 32 0) 33 0) 34 0) 35 0) 39 0) 42 0) 43 0) 44 0) 45 0) 46 0) 47 0) 48 0) 49 0) 51 0) 52 0
def v6 (V : jV) : jV := clV (clV (clV (clV (clV (clV (clV (clV (clV (up (up (up (up (up (up (clV (up (up (up (up (up (up (up (clV (clV (clV (clV (clV (clV (clV (up (up (up (up (up (up (clV (clV (clV (clV (clV (clV V 24 0) 25 0) 26 0) 27 0) 28 0) 29 0) 29 0 0 5) 29 0 1 5) 29 0 2 5) 29 0 3 5) 29 0 4 5) 29 0 5 5) 30 0) 31 0) 32 0) 33 0) 34 0) 35 0) 39 0) 39 0 0 (-1)) 39 0 1 (-1)) 39 0 2 (-1)) 39 0 3 (-1)) 39 0 4 (-1)) 39 0 5 (-1)) 20 0 19 (-1)) 42 0) 42 0 0 (-1)) 42 0 1 (-1)) 42 0 2 (-1)) 42 0 3 (-1)) 42 0 4 (-1)) 42 0 5 (-1)) 43 0) 44 0) 45 0) 46 0) 47 0) 48 0) 49 0) 51 0) 52 0
def r6 (Rf : jR) : jR := upR (clR (upR (clR (upR (clR (upR (clR (upR (clR (upR (clR (upR (clR (upR (clR (upR (clR (upR (clR (upR (clR (upR (clR (upR (clR (upR (clR (upR (clR (upR (clR (upR (clR (upR (clR (upR (clR (upR (clR (upR (clR (upR (clR (upR (clR Rf 24 0) 20 0 3 (some (24, 0))) 25 0) 20 0 4 (some (25, 0))) 26 0) 20 0 5 (some (26, 0))) 27 0) 20 0 6 (some (27, 0))) 28 0) 20 0 7 (some (28, 0))) 29 0) 20 0 8 (some (29, 0))) 30 0) 20 0 9 (some (30, 0))) 31 0) 20 0 10 (some (31, 0))) 32 0) 20 0 11 (some (32, 0))) 33 0) 20 0 12 (some (33, 0))) 34 0) 20 0 13 (some (34, 0))) 35 0) 20 0 14 (some (35, 0))) 39 0) 20 0 18 (some (39, 0))) 42 0) 20 0 21 (some (42, 0))) 43 0) 20 0 22 (some (43, 0))) 44 0) 20 0 23 (some (44, 0))) 45 0) 20 0 24 (some (45, 0))) 46 0) 20 0 25 (some (46, 0))) 47 0) 20 0 26 (some (47, 0))) 48 0) 20 0 27 (some (48, 0))) 49 0) 20 0 28 (some (49, 0))) 51 0) 20 0 30 (some (51, 0))) 52 0) 20 0 31 (some (52, 0))
set_option maxRecDepth 20000 in
set_option maxHeartbeats 400000 in
theorem c_X6_init {l : Launch} {D : va_G} {ca : Nat → ClassId} {q0 : Nat} {sa : Nat → Nat} {ad : jAd} {z : Nat} {Lv : jLv} {V : jV} {Rf : jR}  (hk20 : Lv 20 0 = true) (f24 : Lv 24 0 = false) (f25 : Lv 25 0 = false) (f26 : Lv 26 0 = false) (f27 : Lv 27 0 = false) (f28 : Lv 28 0 = false) (f29 : Lv 29 0 = false) (f30 : Lv 30 0 = false) (f31 : Lv 31 0 = false) (f32 : Lv 32 0 = false) (f33 : Lv 33 0 = false) (f34 : Lv 34 0 = false) (f35 : Lv 35 0 = false) (f39 : Lv 39 0 = false) (f42 : Lv 42 0 = false) (f43 : Lv 43 0 = false) (f44 : Lv 44 0 = false) (f45 : Lv 45 0 = false) (f46 : Lv 46 0 = false) (f47 : Lv 47 0 = false) (f48 : Lv 48 0 = false) (f49 : Lv 49 0 = false) (f51 : Lv 51 0 = false) (f52 : Lv 52 0 = false) (a24 : ad 24 0 = z) (a25 : ad 25 0 = z + 1) (a26 : ad 26 0 = z + 2) (a27 : ad 27 0 = z + 3) (a28 : ad 28 0 = z + 4) (a29 : ad 29 0 = z + 5) (a30 : ad 30 0 = z + 6) (a31 : ad 31 0 = z + 7) (a32 : ad 32 0 = z + 8) (a33 : ad 33 0 = z + 9) (a34 : ad 34 0 = z + 10) (a35 : ad 35 0 = z + 11) (a39 : ad 39 0 = z + 12) (a42 : ad 42 0 = z + 13) (a43 : ad 43 0 = z + 14) (a44 : ad 44 0 = z + 15) (a45 : ad 45 0 = z + 16) (a46 : ad 46 0 = z + 17) (a47 : ad 47 0 = z + 18) (a48 : ad 48 0 = z + 19) (a49 : ad 49 0 = z + 20) (a51 : ad 51 0 = z + 21) (a52 : ad 52 0 = z + 22)  : jMet l D ca q0 sa ad yX6_init cX6_init 1 none 0 23 328 [.ref (ad 20 0)] (z, Lv, V, Rf) (jRet none (z + 23, l6 Lv, v6 V, r6 Rf)) := by
  refine j_enter RX6 [some (.ref (ad 20 0))] rfl (by decide) (by simp [Value.category]) (Nat.le_of_ble_eq_true rfl) rfl ?_
  intro p e s m args below meth c K hnm hX
  refine j_aload_n K 0 dX6_init_0 rfl rfl ?_
  refine j_objInit K dX6_init_1 ko_X6 oi_i oi_c ⟨by decide, by decide⟩ (Nat.le_of_ble_eq_true rfl) ?_
  refine j_aload_n K 0 dX6_init_4 rfl rfl ?_
  refine j_bipush K 6 dX6_init_5 rfl ?_
  refine jNewa K 24 0 dX6_init_7 rfl rfl ac_int f24 a24 (by decide) (by decide) (by decide) ?_
  refine jPr K dX6_init_9 fo_X6_7 rfl hk20 rfl (fun _ => rfl) (fun _ => rfl) (Or.inr ⟨hnm, rfl⟩) ?_
  refine j_aload_n K 0 dX6_init_12 rfl rfl ?_
  refine j_bipush K 6 dX6_init_13 rfl ?_
  refine jNewa K 25 0 dX6_init_15 rfl rfl ac_int f25 a25 (by decide) (by decide) (by decide) ?_
  refine jPr K dX6_init_17 fo_X6_13 rfl hk20 rfl (fun _ => rfl) (fun _ => rfl) (Or.inr ⟨hnm, rfl⟩) ?_
  refine j_aload_n K 0 dX6_init_20 rfl rfl ?_
  refine j_bipush K 6 dX6_init_21 rfl ?_
  refine jNewa K 26 0 dX6_init_23 rfl rfl ac_int f26 a26 (by decide) (by decide) (by decide) ?_
  refine jPr K dX6_init_25 fo_X6_16 rfl hk20 rfl (fun _ => rfl) (fun _ => rfl) (Or.inr ⟨hnm, rfl⟩) ?_
  refine j_aload_n K 0 dX6_init_28 rfl rfl ?_
  refine j_bipush K 6 dX6_init_29 rfl ?_
  refine jNewa K 27 0 dX6_init_31 rfl rfl ac_int f27 a27 (by decide) (by decide) (by decide) ?_
  refine jPr K dX6_init_33 fo_X6_19 rfl hk20 rfl (fun _ => rfl) (fun _ => rfl) (Or.inr ⟨hnm, rfl⟩) ?_
  refine j_aload_n K 0 dX6_init_36 rfl rfl ?_
  refine j_bipush K 6 dX6_init_37 rfl ?_
  refine jNewa K 28 0 dX6_init_39 rfl rfl ac_int f28 a28 (by decide) (by decide) (by decide) ?_
  refine jPr K dX6_init_41 fo_X6_22 rfl hk20 rfl (fun _ => rfl) (fun _ => rfl) (Or.inr ⟨hnm, rfl⟩) ?_
  refine j_aload_n K 0 dX6_init_44 rfl rfl ?_
  refine j_bipush K 6 dX6_init_45 rfl ?_
  refine jNewa K 29 0 dX6_init_47 rfl rfl ac_int f29 a29 (by decide) (by decide) (by decide) ?_
  refine j_dup K dX6_init_49 rfl ?_
  refine j_iconst K 0 dX6_init_50 rfl ?_
  refine j_iconst K 5 dX6_init_51 rfl ?_
  refine jIast K (0) dX6_init_52 rfl rfl rfl (by omega) ?_
  refine j_dup K dX6_init_53 rfl ?_
  refine j_iconst K 1 dX6_init_54 rfl ?_
  refine j_iconst K 5 dX6_init_55 rfl ?_
  refine jIast K (1) dX6_init_56 rfl rfl rfl (by omega) ?_
  refine j_dup K dX6_init_57 rfl ?_
  refine j_iconst K 2 dX6_init_58 rfl ?_
  refine j_iconst K 5 dX6_init_59 rfl ?_
  refine jIast K (2) dX6_init_60 rfl rfl rfl (by omega) ?_
  refine j_dup K dX6_init_61 rfl ?_
  refine j_iconst K 3 dX6_init_62 rfl ?_
  refine j_iconst K 5 dX6_init_63 rfl ?_
  refine jIast K (3) dX6_init_64 rfl rfl rfl (by omega) ?_
  refine j_dup K dX6_init_65 rfl ?_
  refine j_iconst K 4 dX6_init_66 rfl ?_
  refine j_iconst K 5 dX6_init_67 rfl ?_
  refine jIast K (4) dX6_init_68 rfl rfl rfl (by omega) ?_
  refine j_dup K dX6_init_69 rfl ?_
  refine j_iconst K 5 dX6_init_70 rfl ?_
  refine j_iconst K 5 dX6_init_71 rfl ?_
  refine jIast K (5) dX6_init_72 rfl rfl rfl (by omega) ?_
  refine jPr K dX6_init_73 fo_X6_25 rfl hk20 rfl (fun _ => rfl) (fun _ => rfl) (Or.inr ⟨hnm, rfl⟩) ?_
  refine j_aload_n K 0 dX6_init_76 rfl rfl ?_
  refine j_bipush K 6 dX6_init_77 rfl ?_
  refine jNewa K 30 0 dX6_init_79 rfl rfl ac_int f30 a30 (by decide) (by decide) (by decide) ?_
  refine jPr K dX6_init_81 fo_X6_28 rfl hk20 rfl (fun _ => rfl) (fun _ => rfl) (Or.inr ⟨hnm, rfl⟩) ?_
  refine j_aload_n K 0 dX6_init_84 rfl rfl ?_
  refine j_bipush K 36 dX6_init_85 rfl ?_
  refine jNewa K 31 0 dX6_init_87 rfl rfl ac_int f31 a31 (by decide) (by decide) (by decide) ?_
  refine jPr K dX6_init_89 fo_X6_31 rfl hk20 rfl (fun _ => rfl) (fun _ => rfl) (Or.inr ⟨hnm, rfl⟩) ?_
  refine j_aload_n K 0 dX6_init_92 rfl rfl ?_
  refine j_bipush K 36 dX6_init_93 rfl ?_
  refine jNewa K 32 0 dX6_init_95 rfl rfl ac_int f32 a32 (by decide) (by decide) (by decide) ?_
  refine jPr K dX6_init_97 fo_X6_34 rfl hk20 rfl (fun _ => rfl) (fun _ => rfl) (Or.inr ⟨hnm, rfl⟩) ?_
  refine j_aload_n K 0 dX6_init_100 rfl rfl ?_
  refine j_bipush K 36 dX6_init_101 rfl ?_
  refine jNewa K 33 0 dX6_init_103 rfl rfl ac_int f33 a33 (by decide) (by decide) (by decide) ?_
  refine jPr K dX6_init_105 fo_X6_37 rfl hk20 rfl (fun _ => rfl) (fun _ => rfl) (Or.inr ⟨hnm, rfl⟩) ?_
  refine j_aload_n K 0 dX6_init_108 rfl rfl ?_
  refine j_iconst K 2 dX6_init_109 rfl ?_
  refine jNewa K 34 0 dX6_init_110 rfl rfl ac_int f34 a34 (by decide) (by decide) (by decide) ?_
  refine jPr K dX6_init_112 fo_X6_40 rfl hk20 rfl (fun _ => rfl) (fun _ => rfl) (Or.inr ⟨hnm, rfl⟩) ?_
  refine j_aload_n K 0 dX6_init_115 rfl rfl ?_
  refine j_bipush K 24 dX6_init_116 rfl ?_
  refine jNewa K 35 0 dX6_init_118 rfl rfl ac_int f35 a35 (by decide) (by decide) (by decide) ?_
  refine jPr K dX6_init_120 fo_X6_43 rfl hk20 rfl (fun _ => rfl) (fun _ => rfl) (Or.inr ⟨hnm, rfl⟩) ?_
  refine j_aload_n K 0 dX6_init_123 rfl rfl ?_
  refine j_bipush K 6 dX6_init_124 rfl ?_
  refine jNewa K 39 0 dX6_init_126 rfl rfl ac_int f39 a39 (by decide) (by decide) (by decide) ?_
  refine j_dup K dX6_init_128 rfl ?_
  refine j_iconst K 0 dX6_init_129 rfl ?_
  refine j_iconst K (-1) dX6_init_130 rfl ?_
  refine jIast K (0) dX6_init_131 rfl rfl rfl (by omega) ?_
  refine j_dup K dX6_init_132 rfl ?_
  refine j_iconst K 1 dX6_init_133 rfl ?_
  refine j_iconst K (-1) dX6_init_134 rfl ?_
  refine jIast K (1) dX6_init_135 rfl rfl rfl (by omega) ?_
  refine j_dup K dX6_init_136 rfl ?_
  refine j_iconst K 2 dX6_init_137 rfl ?_
  refine j_iconst K (-1) dX6_init_138 rfl ?_
  refine jIast K (2) dX6_init_139 rfl rfl rfl (by omega) ?_
  refine j_dup K dX6_init_140 rfl ?_
  refine j_iconst K 3 dX6_init_141 rfl ?_
  refine j_iconst K (-1) dX6_init_142 rfl ?_
  refine jIast K (3) dX6_init_143 rfl rfl rfl (by omega) ?_
  refine j_dup K dX6_init_144 rfl ?_
  refine j_iconst K 4 dX6_init_145 rfl ?_
  refine j_iconst K (-1) dX6_init_146 rfl ?_
  refine jIast K (4) dX6_init_147 rfl rfl rfl (by omega) ?_
  refine j_dup K dX6_init_148 rfl ?_
  refine j_iconst K 5 dX6_init_149 rfl ?_
  refine j_iconst K (-1) dX6_init_150 rfl ?_
  refine jIast K (5) dX6_init_151 rfl rfl rfl (by omega) ?_
  refine jPr K dX6_init_152 fo_X6_46 rfl hk20 rfl (fun _ => rfl) (fun _ => rfl) (Or.inr ⟨hnm, rfl⟩) ?_
  refine j_aload_n K 0 dX6_init_155 rfl rfl ?_
  refine j_iconst K (-1) dX6_init_156 rfl ?_
  refine jPi K dX6_init_157 fo_X6_49 rfl hk20 rfl rfl (Or.inr ⟨hnm, rfl⟩) ?_
  refine j_aload_n K 0 dX6_init_160 rfl rfl ?_
  refine j_bipush K 6 dX6_init_161 rfl ?_
  refine jNewa K 42 0 dX6_init_163 rfl rfl ac_int f42 a42 (by decide) (by decide) (by decide) ?_
  refine j_dup K dX6_init_165 rfl ?_
  refine j_iconst K 0 dX6_init_166 rfl ?_
  refine j_iconst K (-1) dX6_init_167 rfl ?_
  refine jIast K (0) dX6_init_168 rfl rfl rfl (by omega) ?_
  refine j_dup K dX6_init_169 rfl ?_
  refine j_iconst K 1 dX6_init_170 rfl ?_
  refine j_iconst K (-1) dX6_init_171 rfl ?_
  refine jIast K (1) dX6_init_172 rfl rfl rfl (by omega) ?_
  refine j_dup K dX6_init_173 rfl ?_
  refine j_iconst K 2 dX6_init_174 rfl ?_
  refine j_iconst K (-1) dX6_init_175 rfl ?_
  refine jIast K (2) dX6_init_176 rfl rfl rfl (by omega) ?_
  refine j_dup K dX6_init_177 rfl ?_
  refine j_iconst K 3 dX6_init_178 rfl ?_
  refine j_iconst K (-1) dX6_init_179 rfl ?_
  refine jIast K (3) dX6_init_180 rfl rfl rfl (by omega) ?_
  refine j_dup K dX6_init_181 rfl ?_
  refine j_iconst K 4 dX6_init_182 rfl ?_
  refine j_iconst K (-1) dX6_init_183 rfl ?_
  refine jIast K (4) dX6_init_184 rfl rfl rfl (by omega) ?_
  refine j_dup K dX6_init_185 rfl ?_
  refine j_iconst K 5 dX6_init_186 rfl ?_
  refine j_iconst K (-1) dX6_init_187 rfl ?_
  refine jIast K (5) dX6_init_188 rfl rfl rfl (by omega) ?_
  refine jPr K dX6_init_189 fo_X6_53 rfl hk20 rfl (fun _ => rfl) (fun _ => rfl) (Or.inr ⟨hnm, rfl⟩) ?_
  refine j_aload_n K 0 dX6_init_192 rfl rfl ?_
  refine j_bipush K 6 dX6_init_193 rfl ?_
  refine jNewa K 43 0 dX6_init_195 rfl rfl ac_int f43 a43 (by decide) (by decide) (by decide) ?_
  refine jPr K dX6_init_197 fo_X6_56 rfl hk20 rfl (fun _ => rfl) (fun _ => rfl) (Or.inr ⟨hnm, rfl⟩) ?_
  refine j_aload_n K 0 dX6_init_200 rfl rfl ?_
  refine j_bipush K 6 dX6_init_201 rfl ?_
  refine jNewa K 44 0 dX6_init_203 rfl rfl ac_int f44 a44 (by decide) (by decide) (by decide) ?_
  refine jPr K dX6_init_205 fo_X6_59 rfl hk20 rfl (fun _ => rfl) (fun _ => rfl) (Or.inr ⟨hnm, rfl⟩) ?_
  refine j_aload_n K 0 dX6_init_208 rfl rfl ?_
  refine j_bipush K 24 dX6_init_209 rfl ?_
  refine jNewa K 45 0 dX6_init_211 rfl rfl ac_int f45 a45 (by decide) (by decide) (by decide) ?_
  refine jPr K dX6_init_213 fo_X6_62 rfl hk20 rfl (fun _ => rfl) (fun _ => rfl) (Or.inr ⟨hnm, rfl⟩) ?_
  refine j_aload_n K 0 dX6_init_216 rfl rfl ?_
  refine j_bipush K 24 dX6_init_217 rfl ?_
  refine jNewa K 46 0 dX6_init_219 rfl rfl ac_int f46 a46 (by decide) (by decide) (by decide) ?_
  refine jPr K dX6_init_221 fo_X6_65 rfl hk20 rfl (fun _ => rfl) (fun _ => rfl) (Or.inr ⟨hnm, rfl⟩) ?_
  refine j_aload_n K 0 dX6_init_224 rfl rfl ?_
  refine j_bipush K 24 dX6_init_225 rfl ?_
  refine jNewa K 47 0 dX6_init_227 rfl rfl ac_int f47 a47 (by decide) (by decide) (by decide) ?_
  refine jPr K dX6_init_229 fo_X6_68 rfl hk20 rfl (fun _ => rfl) (fun _ => rfl) (Or.inr ⟨hnm, rfl⟩) ?_
  refine j_aload_n K 0 dX6_init_232 rfl rfl ?_
  refine j_bipush K 24 dX6_init_233 rfl ?_
  refine jNewa K 48 0 dX6_init_235 rfl rfl ac_int f48 a48 (by decide) (by decide) (by decide) ?_
  refine jPr K dX6_init_237 fo_X6_71 rfl hk20 rfl (fun _ => rfl) (fun _ => rfl) (Or.inr ⟨hnm, rfl⟩) ?_
  refine j_aload_n K 0 dX6_init_240 rfl rfl ?_
  refine j_bipush K 24 dX6_init_241 rfl ?_
  refine jNewa K 49 0 dX6_init_243 rfl rfl ac_int f49 a49 (by decide) (by decide) (by decide) ?_
  refine jPr K dX6_init_245 fo_X6_74 rfl hk20 rfl (fun _ => rfl) (fun _ => rfl) (Or.inr ⟨hnm, rfl⟩) ?_
  refine j_aload_n K 0 dX6_init_248 rfl rfl ?_
  refine j_iconst K 4 dX6_init_249 rfl ?_
  refine jNewa K 51 0 dX6_init_250 rfl rfl ac_int f51 a51 (by decide) (by decide) (by decide) ?_
  refine jPr K dX6_init_252 fo_X6_77 rfl hk20 rfl (fun _ => rfl) (fun _ => rfl) (Or.inr ⟨hnm, rfl⟩) ?_
  refine j_aload_n K 0 dX6_init_255 rfl rfl ?_
  refine j_iconst K 4 dX6_init_256 rfl ?_
  refine jNewa K 52 0 dX6_init_257 rfl rfl ac_int f52 a52 (by decide) (by decide) (by decide) ?_
  refine jPr K dX6_init_259 fo_X6_80 rfl hk20 rfl (fun _ => rfl) (fun _ => rfl) (Or.inr ⟨hnm, rfl⟩) ?_
  refine j_vret K dX6_init_262 ?_
  exact ⟨rfl, rfl⟩
