section C
variable {l : Launch} {D : va_G} {ca : Nat → ClassId} {q0 : Nat} {sa : Nat → Nat} {ad : jAd} {T n : Nat} {V : jV}
/-- as Case, of a boolean -/
def CaseB (l : Launch) (D : va_G) (ca : Nat → ClassId) (q0 : Nat) (sa : Nat → Nat) (ad : jAd) (yl : MethodName) (cl : ByteArray) (mll : Nat) (hh : List (Nat × Nat × Nat × Nat)) (ym : MethodName) (cm : ByteArray) (mlm : Nat) (rm : Option FieldType) (ps : List Value) (T n : Nat) (V : jV) : Prop :=
  ∃ (k r : Int32) (V1 V2 : jV) (lx lm mc ms T' : Nat), (lx ≤ 7 ∧ lm ≤ 7 ∧ mc ≤ 1 ∧ ms ≤ 6 ∧ T' ≤ T + 60) ∧
    (∀ z, jMetH l D ca q0 sa ad yl cl mll (some .int) hh lx mc ms (.ref (ad 0 0) :: (ps ++ [.ref (ad 60 0)])) (jS z n V) (fun o M9 => o = .inl (some (.int k)) ∧ M9.2 = (LV n, V1, RF n))) ∧
    (∀ z, jMet l D ca q0 sa ad ym cm mlm rm lm 0 0 (.ref (ad 20 0) :: ps) (jS z n V1) (jRet (some (.int r)) (jS z n V2))) ∧
    V2 20 0 0 = k ∧ (k = 0 → V2 60 0 0 = r) ∧ (k = 0 → r = 0 ∨ r = 1) ∧ Inv T' n V2 V2
theorem caseB_isHighWater (h : Inv T n V V) (p0 p1 p2 : Int32) : CaseB l D ca q0 sa ad yL_isHighWater cL_isHighWater 6 hL_isHighWater yX6_isHighWater cX6_isHighWater 4 (some .boolean) [.int p0, .int p1, .int p2] T n V := by
  have hX := Inv_XI h
  have hI : n ≤ 6 ∧ V 20 0 1 = nI n := ⟨h.1.1, h.1.2.2.1⟩
  have hn6 := h.1.1
  by_cases h1 : 0 ≤ p1 ∧ p1 ≤ 99999
  · obtain ⟨d, hd, e⟩ := rng_nI (N := 99999) rfl (by decide) h1
    subst e
    by_cases h0 : okP n p0
    · obtain ⟨a, ha, hx⟩ := h0
      obtain ⟨w, w4, e1, e2, hrow⟩ := water_inv h ha hd
      by_cases h2 : okP w p2
      · obtain ⟨j, hj, hy⟩ := h2
        have hs : SM V (up (filV V 6 a (tn (V 11 a 3)) (nI d)) 60 0 0 (filV V 6 a (tn (V 11 a 3)) (nI d) 9 6 j)) := SM_out (SM_fil (SM_refl V))
        have hW := Inv_SW h hs
        obtain ⟨w', w4', e1', e2', hrow'⟩ := water_inv hW ha hd
        have ew : w' = w := e1'.symm.trans e1
        subst ew
        have q := hrow' j hj
        refine ⟨0, _, up (filV V 6 a (tn (V 11 a 3)) (nI d)) 60 0 0 (filV V 6 a (tn (V 11 a 3)) (nI d) 9 6 j), _, 5, 4, 0, 0, T, ⟨by decide, by decide, by decide, by decide, by omega⟩, fun z => wr_isHighWater _ _ _ (filV V 6 a (tn (V 11 a 3)) (nI d) 9 6 j) q.2.2.1 rfl rfl (c_isHighWater p0 _ p2 hX ha hx h1 hy (by rw [e1]; exact hj)), fun z => c_M_isHighWater p0 _ p2 ⟨hn6, hW.1.2.2.1⟩ ha hx h1 (QR_YR (IB_cnt hW.2.1 ha).2.1) (by rw [e2']; exact hj) hy, thr_at, fun _ => ?_, fun _ => bI_01 _, Inv_SM h (SM_thr (SM_wt hs))⟩
        exact out_wt.trans (q.2.1).symm
      · exact ⟨2, 0, filV V 6 a (tn (V 11 a 3)) (nI d), _, 5, 4, 1, 6, T, ⟨by decide, by decide, by decide, by decide, by omega⟩, fun z => wx_isHighWater_2 _ _ _ rfl (c_isHighWaterx3 p0 _ p2 hX ha hx h1 (by rw [e1]; exact h2)), fun z => c_M_isHighWaterx3 p0 _ p2 ⟨hn6, (Inv_SW h (SM_fil (SM_refl V))).1.2.2.1⟩ ha hx h1 (QR_YR (IB_cnt (Inv_SW h (SM_fil (SM_refl V))).2.1 ha).2.1) (by
          obtain ⟨w2, _, e3, e4, _⟩ := water_inv (Inv_SW h (SM_fil (a := a) (cnt := tn (V 11 a 3)) (d := nI d) (SM_refl V))) ha hd
          rw [e4, ← e3, e1]; exact h2), thr_at, fun w => absurd w (by decide), fun w => absurd w (by decide), Inv_SM h (SM_thr (SM_wt (SM_fil (SM_refl V))))⟩
    · exact ⟨2, 0, V, thr (thr V 0) 2, 5, 4, 1, 6, T, ⟨by decide, by decide, by decide, by decide, by omega⟩, fun z => wx_isHighWater_2 _ _ _ rfl (c_isHighWaterx2 p0 _ p2 hX h1 h0), fun z => c_M_isHighWaterx2 p0 _ p2 hI h1 h0, thr_at, fun w => absurd w (by decide), fun w => absurd w (by decide), Inv_SM h (SM_thr (SM_thr (SM_refl V)))⟩
  · exact ⟨1, 0, V, thr V 1, 5, 4, 1, 6, T, ⟨by decide, by decide, by decide, by decide, by omega⟩, fun z => wx_isHighWater_1 _ _ _ rfl (c_isHighWaterx1 p0 p1 p2 hX h1), fun z => c_M_isHighWaterx1 p0 p1 p2 hI h1, thr_at, fun w => absurd w (by decide), fun w => absurd w (by decide), Inv_SM h (SM_thr (SM_refl V))⟩
theorem caseB_isRight (h : Inv T n V V) (hT : T ≤ 99999) (p0 : Int32) : CaseB l D ca q0 sa ad yL_isRight cL_isRight 4 hL_isRight yX6_isRight cX6_isRight 2 (some .boolean) [.int p0] T n V := by
  have hX := Inv_XI h
  have hI : n ≤ 6 ∧ V 20 0 1 = nI n := ⟨h.1.1, h.1.2.2.1⟩
  have hn6 := h.1.1
  by_cases h0 : okP n p0
  · obtain ⟨a, ha, hx⟩ := h0
    have hs : SM V (up (shwV V a) 60 0 0 (shwB V a)) := SM_out (SM_shw (SM_refl V))
    have hW := Inv_SW h hs
    have r := right_rel (Inv_thr (x := 0) hW) hT ha
    refine ⟨0, _, up (shwV V a) 60 0 0 (shwB V a), _, 5, 4, 0, 0, T, ⟨by decide, by decide, by decide, by decide, by omega⟩, fun z => wr_isRight _ (shwB V a) (by rw [r]; exact bI_01 _) rfl rfl (c_isRight p0 hX ha hx), fun z => c_M_isRight p0 ⟨hn6, hW.1.2.2.1⟩ ha hx (IB_YR hW.2.1 ha) (ID_Ycnt hW.2.2.2.1 ha).2, (rg_o (by decide) (by decide) (by omega)).trans thr_at, fun _ => ?_, fun _ => bI_01 _, Inv_SM h (SM_rg (SM_thr hs))⟩
    exact (rg_o (by decide) (by decide) (by omega)).trans (thr_60.trans r)
  · exact ⟨1, 0, V, thr V 1, 5, 4, 1, 6, T, ⟨by decide, by decide, by decide, by decide, by omega⟩, fun z => wx_isRight_1 _ rfl (c_isRightx1 p0 hX h0), fun z => c_M_isRightx1 p0 hI h0, thr_at, fun w => absurd w (by decide), fun w => absurd w (by decide), Inv_SM h (SM_thr (SM_refl V))⟩
end C
