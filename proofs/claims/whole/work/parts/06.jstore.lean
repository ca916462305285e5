theorem shp_small (k : Nat) : (shp k).2 < 2 ^ 31 := by
  unfold shp; split <;> decide
theorem shp_n {k a n : Nat} (h : shp k = (a, n)) : n < 2 ^ 31 := by
  have := shp_small k
  rw [h] at this; exact this
section J
variable {p : Program} {l : Launch} {e : Env} {R : Room} {s : State} {m : MethodId} {args : Array Value} {below : List Frame} {meth : Method} {c : Code} {D : va_G} {ca : Nat → ClassId} {q0 : Nat} {sa : Nat → Nat} {ad : jAd} {own : String} {cc : ByteArray} {nL : Nat} {ret : Option FieldType} {Q : State → Prop} {kc ks pc : Nat} {ls : List (Option Value)} {st : List Value} {M : jM}
theorem jfs_len {M : jM} {ci k i : Nat} : ((List.range (jN ci)).map (fun j => jfv ad M ci k i j)).length = jN ci := by simp
/-- a store of an int into a field -/
theorem j_pi (K : jK p l R s m args meth c D ca q0 sa own cc nL ret) {k i ci j idx : Nat} {x : Int32} (hd : decode cc pc = .ok (.putfield idx, 3)) (hf : jFldO own idx ci j) (hs : shp k = (0, ci)) (hlv : M.2.1 k i = true) (hv : jIr ci j = false) (hty : jTy ci j = .int) (hfin : ((jT ci) j).2.2.2 = false ∨ (meth.name = "<init>" ∧ jC ci = own))
    (kk : jW p l e R s m args below meth c D ca q0 ad nL Q kc ks (pc + 3) ls st (M.1, M.2.1, up M.2.2.1 k i j x, M.2.2.2)) : jW p l e R s m args below meth c D ca q0 ad nL Q kc ks pc ls (.int x :: .ref (ad k i) :: st) M := by
  intro H locs lsC cells slots h1 h2 h3 h4 h5
  have hj := hf.2.1
  have hat := (h2.2.1 k i hlv).2
  rw [jcell_obj hs] at hat
  refine j_putW K hd hf hat h3 (h2.2.1 k i hlv).1 hfin (by rw [hty]; rfl) (by rw [hty]; rfl) (by rw [jfs_len]; exact hj) (fun H1 locs1 e2 e3 hat1 hS1 => ?_)
  refine kk H1 locs1 lsC cells slots h1 (jRep_put h2 rfl rfl hlv e2 e3 ?_ (fun k' i' hn => jcell_congr (fun j' => up_other hn j') (fun _ => rfl))) hS1 h4 h5
  rw [jcell_obj hs]
  have he : ((List.range (jN ci)).map (fun j => jfv ad M ci k i j)).set j (.int x) = (List.range (jN ci)).map (fun j' => jfv ad (M.1, M.2.1, up M.2.2.1 k i j x, M.2.2.2) ci k i j') := by
    apply List.ext_getElem?
    intro n
    rw [List.getElem?_set]
    by_cases hn : j = n
    · subst hn
      simp [hj, jfv, hv, up]
    · simp [hn]
      by_cases hnj : n < jN ci
      · simp [hnj, jfv, up, show ¬ n = j from fun q => hn q.symm]
      · simp [hnj]
  rw [← he]
  exact hat1
/-- a store of a reference into a field -/
theorem j_pr (K : jK p l R s m args meth c D ca q0 sa own cc nL ret) {k i ci j idx k2 i2 : Nat} (hd : decode cc pc = .ok (.putfield idx, 3)) (hf : jFldO own idx ci j) (hs : shp k = (0, ci)) (hlv : M.2.1 k i = true) (hv : jIr ci j = true) (hn : ∀ a : Nat, narrow (jTy ci j) (.ref a) = .ref a) (hft : ∀ a : Nat, fits (jTy ci j) (.ref a) = true) (hfin : ((jT ci) j).2.2.2 = false ∨ (meth.name = "<init>" ∧ jC ci = own))
    (kk : jW p l e R s m args below meth c D ca q0 ad nL Q kc ks (pc + 3) ls st (M.1, M.2.1, M.2.2.1, upR M.2.2.2 k i j (some (k2, i2)))) : jW p l e R s m args below meth c D ca q0 ad nL Q kc ks pc ls (.ref (ad k2 i2) :: .ref (ad k i) :: st) M := by
  intro H locs lsC cells slots h1 h2 h3 h4 h5
  have hj := hf.2.1
  have hat := (h2.2.1 k i hlv).2
  rw [jcell_obj hs] at hat
  refine j_putW K hd hf hat h3 (h2.2.1 k i hlv).1 hfin (hn _) (hft _) (by rw [jfs_len]; exact hj) (fun H1 locs1 e2 e3 hat1 hS1 => ?_)
  refine kk H1 locs1 lsC cells slots h1 (jRep_put h2 rfl rfl hlv e2 e3 ?_ (fun k' i' hn => jcell_congr (fun _ => rfl) (fun j' => upR_other hn j'))) hS1 h4 h5
  rw [jcell_obj hs]
  have he : ((List.range (jN ci)).map (fun j => jfv ad M ci k i j)).set j (.ref (ad k2 i2)) = (List.range (jN ci)).map (fun j' => jfv ad (M.1, M.2.1, M.2.2.1, upR M.2.2.2 k i j (some (k2, i2))) ci k i j') := by
    apply List.ext_getElem?
    intro n
    rw [List.getElem?_set]
    by_cases hn : j = n
    · subst hn
      simp [hj, jfv, hv, upR, jrv]
    · simp [hn]
      by_cases hnj : n < jN ci
      · simp [hnj, jfv, upR, show ¬ n = j from fun q => hn q.symm]
      · simp [hnj]
  rw [← he]
  exact hat1
theorem jty_at (K : jK p l R s m args meth c D ca q0 sa own cc nL ret) (t0 : Nat) {q : ClassId × FieldType} (h : (jTys ca)[t0]? = some q) : ArrOfT s q.1 q.2 := ((jK_K K).2 t0 q h).1
theorem j_iald (K : jK p l R s m args meth c D ca q0 sa own cc nL ret) {k i n : Nat} {x : Int32} (j : Nat) (hd : decode cc pc = .ok (.iaload, 1)) (hs : shp k = (1, n)) (hlv : M.2.1 k i = true) (hx : x = nI j) (hj : j < n)
    (kk : jW p l e R s m args below meth c D ca q0 ad nL Q kc ks (pc + 1) ls (.int (M.2.2.1 k i j) :: st) M) : jW p l e R s m args below meth c D ca q0 ad nL Q kc ks pc ls (.int x :: .ref (ad k i) :: st) M := by
  intro H locs lsC cells slots h1 h2 h3 h4 h5
  subst hx
  have hP := jRep_P h2 hlv
  rw [jcell_int hs] at hP
  refine va_iald K.1 K.2.1 (jK_K K) hP 0 0 rfl rfl (vp_in_nI hj (shp_n hs)) hd ?_
  rw [nI_clamp (Nat.lt_trans hj (shp_n hs))]
  exact kk H locs lsC cells slots h1 h2 h3 h4 h5
theorem j_zald (K : jK p l R s m args meth c D ca q0 sa own cc nL ret) {k i n : Nat} {x : Int32} (j : Nat) (hd : decode cc pc = .ok (.baload, 1)) (hs : shp k = (2, n)) (hlv : M.2.1 k i = true) (hx : x = nI j) (hj : j < n)
    (kk : jW p l e R s m args below meth c D ca q0 ad nL Q kc ks (pc + 1) ls (.int (M.2.2.1 k i j) :: st) M) : jW p l e R s m args below meth c D ca q0 ad nL Q kc ks pc ls (.int x :: .ref (ad k i) :: st) M := by
  intro H locs lsC cells slots h1 h2 h3 h4 h5
  subst hx
  have hP := jRep_P h2 hlv
  rw [jcell_bool hs] at hP
  refine va_zald K.1 K.2.1 (jK_K K) hP 0 1 rfl rfl (vp_in_nI hj (shp_n hs)) hd ?_
  rw [nI_clamp (Nat.lt_trans hj (shp_n hs))]
  exact kk H locs lsC cells slots h1 h2 h3 h4 h5
theorem j_lald (K : jK p l R s m args meth c D ca q0 sa own cc nL ret) {k i n : Nat} {x : Int32} (j : Nat) (hd : decode cc pc = .ok (.laload, 1)) (hs : shp k = (4, n)) (hlv : M.2.1 k i = true) (hx : x = nI j) (hj : j < n)
    (kk : jW p l e R s m args below meth c D ca q0 ad nL Q kc ks (pc + 1) ls (.long (M.2.2.1 k i j).toInt64 :: st) M) : jW p l e R s m args below meth c D ca q0 ad nL Q kc ks pc ls (.int x :: .ref (ad k i) :: st) M := by
  intro H locs lsC cells slots h1 h2 h3 h4 h5
  subst hx
  have hP := jRep_P h2 hlv
  rw [jcell_long hs] at hP
  refine va_lald K.1 K.2.1 (jK_K K) hP 0 2 rfl rfl (vp_in_nI hj (shp_n hs)) hd ?_
  rw [nI_clamp (Nat.lt_trans hj (shp_n hs))]
  exact kk H locs lsC cells slots h1 h2 h3 h4 h5
theorem j_aald (K : jK p l R s m args meth c D ca q0 sa own cc nL ret) {k i n : Nat} {x : Int32} (j k' i' : Nat) (hd : decode cc pc = .ok (.aaload, 1)) (hs : shp k = (3, n)) (hlv : M.2.1 k i = true) (hx : x = nI j) (hj : j < n) (hr : M.2.2.2 k i j = some (k', i'))
    (kk : jW p l e R s m args below meth c D ca q0 ad nL Q kc ks (pc + 1) ls (.ref (ad k' i') :: st) M) : jW p l e R s m args below meth c D ca q0 ad nL Q kc ks pc ls (.int x :: .ref (ad k i) :: st) M := by
  intro H locs lsC cells slots h1 h2 h3 h4 h5
  subst hx
  have hP := jRep_P h2 hlv
  rw [jcell_ref hs] at hP
  refine va_aldq K.1 K.2.1 (jK_K K) hP 0 3 rfl rfl (vp_in_nI hj (shp_n hs)) hd ?_
  rw [nI_clamp (Nat.lt_trans hj (shp_n hs)), hr]
  exact kk H locs lsC cells slots h1 h2 h3 h4 h5
theorem up_row {V : jV} {k i j : Nat} {x : Int32} : (fun j' => up V k i j x k i j') = upd (fun j' => V k i j') j x := by
  funext j'
  by_cases h : j' = j <;> simp [up, upd, h]
theorem j_iast (K : jK p l R s m args meth c D ca q0 sa own cc nL ret) {k i n : Nat} {x y : Int32} (j : Nat) (hd : decode cc pc = .ok (.iastore, 1)) (hs : shp k = (1, n)) (hlv : M.2.1 k i = true) (hx : x = nI j) (hj : j < n)
    (kk : jW p l e R s m args below meth c D ca q0 ad nL Q kc ks (pc + 1) ls st (M.1, M.2.1, up M.2.2.1 k i j y, M.2.2.2)) : jW p l e R s m args below meth c D ca q0 ad nL Q kc ks pc ls (.int y :: .int x :: .ref (ad k i) :: st) M := by
  intro H locs lsC cells slots h1 h2 h3 h4 h5
  subst hx
  have hat := (h2.2.1 k i hlv).2
  rw [jcell_int hs] at hat
  have hcl := nI_clamp (Nat.lt_trans hj (shp_n hs))
  refine W.iast K.1 K.2.1 hat (jty_at K 0 rfl n (fun j => .int (M.2.2.1 k i j))) (fun q => by cases q) (by show ¬ (_ ∨ (arrV _ _ _).slots.size ≤ _); rw [arrV_size]; exact vp_in_nI hj (shp_n hs)) rfl rfl hd fun H1 e z oq => ?_
  refine kk H1 _ lsC cells slots h1 (jRep_put h2 rfl rfl hlv z oq ?_ (fun k' i' hn => jcell_congr (fun j' => up_other hn j') (fun _ => rfl))) (h3.put z oq (h2.2.1 k i hlv).1) h4 h5
  rw [jcell_int hs]
  show H1[ad k i]? = some (vp_cell _ _)
  rw [e, vp_cell_i, up_row, vp_cell_i, arrV_store, hcl]
  congr 2
  funext q
  by_cases hq : q = j
  · simp [updV, upd, hq]
  · simp [updV, upd, hq]
theorem j_zast (K : jK p l R s m args meth c D ca q0 sa own cc nL ret) {k i n : Nat} {x y : Int32} (j : Nat) (hd : decode cc pc = .ok (.bastore, 1)) (hs : shp k = (2, n)) (hlv : M.2.1 k i = true) (hx : x = nI j) (hj : j < n) (hy : y = 0 ∨ y = 1)
    (kk : jW p l e R s m args below meth c D ca q0 ad nL Q kc ks (pc + 1) ls st (M.1, M.2.1, up M.2.2.1 k i j y, M.2.2.2)) : jW p l e R s m args below meth c D ca q0 ad nL Q kc ks pc ls (.int y :: .int x :: .ref (ad k i) :: st) M := by
  intro H locs lsC cells slots h1 h2 h3 h4 h5
  subst hx
  have hat := (h2.2.1 k i hlv).2
  rw [jcell_bool hs] at hat
  have hcl := nI_clamp (Nat.lt_trans hj (shp_n hs))
  have hnar : narrow .boolean (.int y) = .int y := by rcases hy with rfl | rfl <;> rfl
  refine W.zast K.1 K.2.1 hat (jty_at K 1 rfl n (fun j => .int (M.2.2.1 k i j))) (fun q => by cases q) (by show ¬ (_ ∨ (arrV _ _ _).slots.size ≤ _); rw [arrV_size]; exact vp_in_nI hj (shp_n hs)) rfl rfl hd fun H1 e z oq => ?_
  refine kk H1 _ lsC cells slots h1 (jRep_put h2 rfl rfl hlv z oq ?_ (fun k' i' hn => jcell_congr (fun j' => up_other hn j') (fun _ => rfl))) (h3.put z oq (h2.2.1 k i hlv).1) h4 h5
  rw [jcell_bool hs]
  show H1[ad k i]? = some (vp_cell _ _)
  rw [e, vp_cell_i, up_row, vp_cell_i, arrV_store, hcl, hnar]
  congr 2
  funext q
  by_cases hq : q = j
  · simp [updV, upd, hq]
  · simp [updV, upd, hq]
theorem j_last (K : jK p l R s m args meth c D ca q0 sa own cc nL ret) {k i n : Nat} {x : Int32} {z : Int64} (j : Nat) (y : Int32) (hd : decode cc pc = .ok (.lastore, 1)) (hs : shp k = (4, n)) (hlv : M.2.1 k i = true) (hx : x = nI j) (hj : j < n) (hy : z = y.toInt64)
    (kk : jW p l e R s m args below meth c D ca q0 ad nL Q kc ks (pc + 1) ls st (M.1, M.2.1, up M.2.2.1 k i j y, M.2.2.2)) : jW p l e R s m args below meth c D ca q0 ad nL Q kc ks pc ls (.long z :: .int x :: .ref (ad k i) :: st) M := by
  intro H locs lsC cells slots h1 h2 h3 h4 h5
  subst hx
  subst hy
  have hat := (h2.2.1 k i hlv).2
  rw [jcell_long hs] at hat
  have hcl := nI_clamp (Nat.lt_trans hj (shp_n hs))
  refine W.last K.1 K.2.1 hat (jty_at K 2 rfl n (fun j => .long (M.2.2.1 k i j).toInt64)) (fun q => by cases q) (by show ¬ (_ ∨ (arrV _ _ _).slots.size ≤ _); rw [arrV_size]; exact vp_in_nI hj (shp_n hs)) rfl rfl hd fun H1 e z oq => ?_
  refine kk H1 _ lsC cells slots h1 (jRep_put h2 rfl rfl hlv z oq ?_ (fun k' i' hn => jcell_congr (fun j' => up_other hn j') (fun _ => rfl))) (h3.put z oq (h2.2.1 k i hlv).1) h4 h5
  rw [jcell_long hs]
  show H1[ad k i]? = some (vp_cell _ _)
  rw [e, vp_cell_l, vp_cell_l, arrV_store, hcl]
  congr 2
  funext q
  by_cases hq : q = j
  · simp [updV, up, hq]
  · simp [updV, up, hq]
theorem j_aast (K : jK p l R s m args meth c D ca q0 sa own cc nL ret) {k i n k2 i2 : Nat} {x : Int32} (j : Nat) (hd : decode cc pc = .ok (.aastore, 1)) (hs : shp k = (3, n)) (hlv : M.2.1 k i = true) (hx : x = nI j) (hj : j < n) (hs2 : shp k2 = (0, 1)) (hlv2 : M.2.1 k2 i2 = true)
    (kk : jW p l e R s m args below meth c D ca q0 ad nL Q kc ks (pc + 1) ls st (M.1, M.2.1, M.2.2.1, upR M.2.2.2 k i j (some (k2, i2)))) : jW p l e R s m args below meth c D ca q0 ad nL Q kc ks pc ls (.ref (ad k2 i2) :: .int x :: .ref (ad k i) :: st) M := by
  intro H locs lsC cells slots h1 h2 h3 h4 h5
  subst hx
  have hat := (h2.2.1 k i hlv).2
  rw [jcell_ref hs] at hat
  have hat2 := (h2.2.1 k2 i2 hlv2).2
  rw [jcell_obj hs2] at hat2
  have hcl := nI_clamp (Nat.lt_trans hj (shp_n hs))
  have hb := vp_in_nI hj (shp_n hs)
  obtain ⟨r', hr', cellV, g1, g2, g3, -⟩ := hat2
  have hK := jK_K K
  have hcls := (hK.1 1 _ rfl).2
  obtain ⟨kA, comp, k1, k2', k3, -⟩ := (hK.2 3 _ rfl).2
  have hcomp : comp = D.1 1 := Option.some.inj (k3.symm.trans hcls.1)
  subst hcomp
  obtain ⟨kC, hkC, -⟩ := hcls.2
  refine W.aast K.1 K.2.1 hat (fun q h => by cases h) (fun h => by cases h) k1 k2' rfl hkC ⟨fun q => hb (Or.inl q), by show _ < (arrV _ _ _).slots.size; rw [arrV_size]; exact Nat.not_le.mp fun q => hb (Or.inr q)⟩ g1 (fun q h => by rw [g3] at h; cases h) (by rw [g2]; exact hkC) (by rw [g2]; exact va_assign hcls) rfl rfl hd fun H1 e z oq => ?_
  refine kk H1 _ lsC cells slots h1 (jRep_put h2 rfl rfl hlv z oq ?_ (fun k' i' hn => jcell_congr (fun _ => rfl) (fun j' => upR_other hn j'))) (h3.put z oq (h2.2.1 k i hlv).1) h4 h5
  rw [jcell_ref hs]
  show H1[ad k i]? = some (vp_cell _ _)
  rw [e, vp_cell_q, vp_cell_q, arrV_store, hcl]
  congr 2
  funext q
  by_cases hq : q = j
  · simp [updV, upR, hq, va_rf]
  · simp [updV, upR, hq]
end J
