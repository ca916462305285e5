def clV (V : jV) (k i : Nat) : jV := fun k' i' j => if k' = k ∧ i' = i then 0 else V k' i' j
def clR (Rf : jR) (k i : Nat) : jR := fun k' i' j => if k' = k ∧ i' = i then none else Rf k' i' j
theorem jRep_new {D : va_G} {ca : Nat → ClassId} {q0 : Nat} {ad : jAd} {z : Nat} {Lv : jLv} {V : jV} {Rf : jR} {H H1 : Heap} {k i : Nat} (h : jRep D ca q0 ad (z, Lv, V, Rf) H) (hz : q0 ≤ z) (had : ad k i = z) (hf : Lv k i = false) (z1 : H1.size = H.size + 1) (o1 : ∀ q : Nat, q < H.size → H1[q]? = H[q]?)
    (hat : va_at D vwCl (ad k i, jcell ca ad (z + 1, upL Lv k i, clV V k i, clR Rf k i) k i) H1) : jRep D ca q0 ad (z + 1, upL Lv k i, clV V k i, clR Rf k i) H1 := by
  have h1 : z = H.size := h.1
  have lt : ∀ k' i', Lv k' i' = true → ad k' i' < z := fun k' i' hl => by rw [h1]; exact jRep_lt h hl
  refine ⟨by show z + 1 = H1.size; rw [z1, h1], fun k' i' hl => ?_, fun k1 i1 k2 i2 hl1 hl2 he => ?_⟩
  · by_cases e : k' = k ∧ i' = i
    · obtain ⟨rfl, rfl⟩ := e
      exact ⟨by rw [had]; exact hz, hat⟩
    · have hl' : Lv k' i' = true := by
        have : upL Lv k i k' i' = true := hl
        unfold upL at this; rw [if_neg e] at this; exact this
      obtain ⟨a1, a2⟩ := h.2.1 k' i' hl'
      refine ⟨a1, ?_⟩
      have hc : jcell ca ad (z + 1, upL Lv k i, clV V k i, clR Rf k i) k' i' = jcell ca ad (z, Lv, V, Rf) k' i' := jcell_congr (fun j => by show clV V k i k' i' j = V k' i' j; unfold clV; rw [if_neg e]) (fun j => by show clR Rf k i k' i' j = Rf k' i' j; unfold clR; rw [if_neg e])
      rw [hc]
      exact va_at.kept a2 (o1 _ (by rw [← h1]; exact lt _ _ hl'))
  · have cs : ∀ k' i', upL Lv k i k' i' = true → (k' = k ∧ i' = i) ∨ Lv k' i' = true := fun k' i' hl => by
      by_cases e : k' = k ∧ i' = i
      · exact Or.inl e
      · unfold upL at hl; rw [if_neg e] at hl; exact Or.inr hl
    rcases cs k1 i1 hl1 with e1 | e1 <;> rcases cs k2 i2 hl2 with e2 | e2
    · exact ⟨e1.1.trans e2.1.symm, e1.2.trans e2.2.symm⟩
    · have := lt _ _ e2
      rw [← he, e1.1, e1.2, had] at this
      exact absurd this (Nat.lt_irrefl _)
    · have := lt _ _ e1
      rw [he, e2.1, e2.2, had] at this
      exact absurd this (Nat.lt_irrefl _)
    · exact h.2.2 k1 i1 k2 i2 e1 e2 he
theorem va_S_new {q0 : Nat} {H0 H H1 : Heap} {locs : List Loc} (h : va_S (fun q => q0 ≤ q) H0 H locs) (z1 : H1.size = H.size + 1) (o1 : ∀ q : Nat, q < H.size → H1[q]? = H[q]?) : va_S (fun q => q0 ≤ q) H0 H1 locs :=
  ⟨Nat.le_trans h.1 (by omega), fun q h1 h2 => (o1 q (Nat.lt_of_lt_of_le h1 h.1)).trans (h.2.1 q h1 h2), h.2.2⟩
section J
variable {p : Program} {l : Launch} {e : Env} {R : Room} {s : State} {m : MethodId} {args : Array Value} {below : List Frame} {meth : Method} {c : Code} {D : va_G} {ca : Nat → ClassId} {q0 : Nat} {sa : Nat → Nat} {ad : jAd} {own : String} {cc : ByteArray} {nL : Nat} {ret : Option FieldType} {Q : State → Prop} {kc ks pc : Nat} {ls : List (Option Value)} {st : List Value} {z : Nat} {Lv : jLv} {V : jV} {Rf : jR}
/-- new -/
theorem jNew (K : jK p l R s m args meth c D ca q0 sa own cc nL ret) {ci idx : Nat} (k i : Nat) (hd : decode cc pc = .ok (.new idx, 3)) (hs : shp k = (0, ci)) (hci : ci < 7) (hcl : Cond.classLink own idx (jC ci) ∈ WG) (hin : Cond.instantiable (jC ci) (jN ci) ∈ WG) (hii : Cond.initialized (jC ci) ∈ WG) (hdef : ∀ j, j < jN ci → defaultValue (jTy ci j) = if jIr ci j = true then .null else .int 0) (hf : Lv k i = false) (had : ad k i = z) (hc : 1 ≤ kc) (hsl : jN ci ≤ ks)
    (kk : jW p l e R s m args below meth c D ca q0 ad nL Q (kc - 1) (ks - jN ci) (pc + 3) ls (.ref (ad k i) :: st) (z + 1, upL Lv k i, clV V k i, clR Rf k i)) : jW p l e R s m args below meth c D ca q0 ad nL Q kc ks pc ls st (z, Lv, V, Rf) := by
  intro H locs lsC cells slots h1 h2 h3 h4 h5
  have hts := K.2.2.2.2.1
  have hKn := (jK_K K).1 ci _ (jcls_get ci hci)
  have hz : z = H.size := h2.1
  refine W.newcK K.1 K.2.1 K.2.2.2.1 (hts _ hcl) (hts _ hin) (hts _ hii) rfl hd (by omega) (by omega) hKn.2.1 (rfl : H.size = H.size) fun H1 kC hkC e1 z1 o1 => ?_
  have hq0 : q0 ≤ z := by rw [hz]; exact Nat.le_trans K.2.2.2.2.2.2.2.1 h3.1
  have hb := u_born (jTy ci) hts (jws_in ci hci) hKn hkC e1 (jty_ok ci hci)
  have hrep : jRep D ca q0 ad (z + 1, upL Lv k i, clV V k i, clR Rf k i) H1 := by
    refine jRep_new h2 hq0 had hf z1 o1 ?_
    rw [jcell_obj hs, had, hz]
    refine ⟨_, jcls_get ci hci, hb.to (fun j hj => ?_)⟩
    rw [jfs_V hj, hdef j hj]
    unfold jfv clV clR jrv
    simp
  have := kk H1 locs lsC (cells + 1) (slots + jN ci) h1 hrep (va_S_new h3 z1 o1) (by omega) (by omega)
  rw [had, hz] at this
  exact this
theorem jNewa (K : jK p l R s m args meth c D ca q0 sa own cc nL ret) {x : Int32} {n : Nat} (k i : Nat) (hd : decode cc pc = .ok (.newarray .int, 2)) (hs : shp k = (1, n)) (hx : x = nI n) (hw : Cond.arrayClass .int ∈ WG) (hf : Lv k i = false) (had : ad k i = z) (hc : 1 ≤ kc) (hsl : n ≤ ks) (hsm : n ≤ 1000)
    (kk : jW p l e R s m args below meth c D ca q0 ad nL Q (kc - 1) (ks - n) (pc + 2) ls (.ref (ad k i) :: st) (z + 1, upL Lv k i, clV V k i, clR Rf k i)) : jW p l e R s m args below meth c D ca q0 ad nL Q kc ks pc ls (.int x :: st) (z, Lv, V, Rf) := by
  intro H locs lsC cells slots h1 h2 h3 h4 h5
  subst hx
  have hz : z = H.size := h2.1
  refine va_newaK K.1 K.2.1 (atype := .int) (K.2.2.2.2.1 _ hw) rfl hd rfl (nI_pos (by omega)) (nI_clamp (by omega)) (by show n * 4 ≤ _; omega) (by omega) (by omega) (rfl : H.size = H.size) fun H1 cA e1 z1 o1 hAr hNm => ?_
  have hq0 : q0 ≤ z := by rw [hz]; exact Nat.le_trans K.2.2.2.2.2.2.2.1 h3.1
  have hcA : cA = ca 0 := by
    have h9 := ((jK_K K).2 0 _ rfl).2
    exact Option.some.inj (hNm.symm.trans h9)
  subst hcA
  have hrep : jRep D ca q0 ad (z + 1, upL Lv k i, clV V k i, clR Rf k i) H1 := by
    refine jRep_new h2 hq0 had hf z1 o1 ?_
    rw [jcell_int hs, had, hz]
    show H1[H.size]? = some (vp_cell _ _)
    rw [e1, vp_cell_i]
    congr 2
    funext j
    simp [clV]
    rfl
  have := kk H1 locs lsC (cells + 1) (slots + n) h1 hrep (va_S_new h3 z1 o1) (by omega) (by omega)
  rw [had, hz] at this
  exact this
theorem jNewz (K : jK p l R s m args meth c D ca q0 sa own cc nL ret) {x : Int32} {n : Nat} (k i : Nat) (hd : decode cc pc = .ok (.newarray .boolean, 2)) (hs : shp k = (2, n)) (hx : x = nI n) (hw : Cond.arrayClass .boolean ∈ WG) (hf : Lv k i = false) (had : ad k i = z) (hc : 1 ≤ kc) (hsl : n ≤ ks) (hsm : n ≤ 1000)
    (kk : jW p l e R s m args below meth c D ca q0 ad nL Q (kc - 1) (ks - n) (pc + 2) ls (.ref (ad k i) :: st) (z + 1, upL Lv k i, clV V k i, clR Rf k i)) : jW p l e R s m args below meth c D ca q0 ad nL Q kc ks pc ls (.int x :: st) (z, Lv, V, Rf) := by
  intro H locs lsC cells slots h1 h2 h3 h4 h5
  subst hx
  have hz : z = H.size := h2.1
  refine va_newaK K.1 K.2.1 (atype := .boolean) (K.2.2.2.2.1 _ hw) rfl hd rfl (nI_pos (by omega)) (nI_clamp (by omega)) (by show n * 1 ≤ _; omega) (by omega) (by omega) (rfl : H.size = H.size) fun H1 cA e1 z1 o1 hAr hNm => ?_
  have hq0 : q0 ≤ z := by rw [hz]; exact Nat.le_trans K.2.2.2.2.2.2.2.1 h3.1
  have hcA : cA = ca 1 := by
    have h9 := ((jK_K K).2 1 _ rfl).2
    exact Option.some.inj (hNm.symm.trans h9)
  subst hcA
  have hrep : jRep D ca q0 ad (z + 1, upL Lv k i, clV V k i, clR Rf k i) H1 := by
    refine jRep_new h2 hq0 had hf z1 o1 ?_
    rw [jcell_bool hs, had, hz]
    show H1[H.size]? = some (vp_cell _ _)
    rw [e1, vp_cell_i]
    congr 2
    funext j
    simp [clV]
    rfl
  have := kk H1 locs lsC (cells + 1) (slots + n) h1 hrep (va_S_new h3 z1 o1) (by omega) (by omega)
  rw [had, hz] at this
  exact this
theorem jNewl (K : jK p l R s m args meth c D ca q0 sa own cc nL ret) {x : Int32} {n : Nat} (k i : Nat) (hd : decode cc pc = .ok (.newarray .long, 2)) (hs : shp k = (4, n)) (hx : x = nI n) (hw : Cond.arrayClass .long ∈ WG) (hf : Lv k i = false) (had : ad k i = z) (hc : 1 ≤ kc) (hsl : n ≤ ks) (hsm : n ≤ 1000)
    (kk : jW p l e R s m args below meth c D ca q0 ad nL Q (kc - 1) (ks - n) (pc + 2) ls (.ref (ad k i) :: st) (z + 1, upL Lv k i, clV V k i, clR Rf k i)) : jW p l e R s m args below meth c D ca q0 ad nL Q kc ks pc ls (.int x :: st) (z, Lv, V, Rf) := by
  intro H locs lsC cells slots h1 h2 h3 h4 h5
  subst hx
  have hz : z = H.size := h2.1
  refine va_newaK K.1 K.2.1 (atype := .long) (K.2.2.2.2.1 _ hw) rfl hd rfl (nI_pos (by omega)) (nI_clamp (by omega)) (by show n * 8 ≤ _; omega) (by omega) (by omega) (rfl : H.size = H.size) fun H1 cA e1 z1 o1 hAr hNm => ?_
  have hq0 : q0 ≤ z := by rw [hz]; exact Nat.le_trans K.2.2.2.2.2.2.2.1 h3.1
  have hcA : cA = ca 2 := by
    have h9 := ((jK_K K).2 2 _ rfl).2
    exact Option.some.inj (hNm.symm.trans h9)
  subst hcA
  have hrep : jRep D ca q0 ad (z + 1, upL Lv k i, clV V k i, clR Rf k i) H1 := by
    refine jRep_new h2 hq0 had hf z1 o1 ?_
    rw [jcell_long hs, had, hz]
    show H1[H.size]? = some (vp_cell _ _)
    rw [e1, vp_cell_l]
    congr 2
    funext j
    simp [clV]
    rfl
  have := kk H1 locs lsC (cells + 1) (slots + n) h1 hrep (va_S_new h3 z1 o1) (by omega) (by omega)
  rw [had, hz] at this
  exact this
theorem jNewq (K : jK p l R s m args meth c D ca q0 sa own cc nL ret) {x : Int32} {n idx : Nat} (k i : Nat) (hd : decode cc pc = .ok (.anewarray idx, 3)) (hs : shp k = (3, n)) (hx : x = nI n) (hcl : Cond.classLink own idx RX1 ∈ WG) (hf : Lv k i = false) (had : ad k i = z) (hc : 1 ≤ kc) (hsl : n ≤ ks) (hsm : n ≤ 1000)
    (kk : jW p l e R s m args below meth c D ca q0 ad nL Q (kc - 1) (ks - n) (pc + 3) ls (.ref (ad k i) :: st) (z + 1, upL Lv k i, clV V k i, clR Rf k i)) : jW p l e R s m args below meth c D ca q0 ad nL Q kc ks pc ls (.int x :: st) (z, Lv, V, Rf) := by
  intro H locs lsC cells slots h1 h2 h3 h4 h5
  subst hx
  have hz : z = H.size := h2.1
  have hov := K.2.2.2.2.2.2.1.2.2.2.2.2
  refine W.anew K.1 K.2.1 K.2.2.2.1 (K.2.2.2.2.1 _ hcl) (va_AO.use hov) rfl hd rfl (nI_pos (by omega)) (by rw [nI_clamp (by omega)]; omega) (by omega) (by rw [nI_clamp (by omega)]; omega) fun cA kA comp f1 f2 f3 f4 => ?_
  generalize hH1 : H.push ({ cls := cA, slots := Array.replicate (nI n).toNatClampNeg .null, vm := .none } : Cell) = H1
  have z1 : H1.size = H.size + 1 := by rw [← hH1, Array.size_push]
  have e1 : H1[H.size]? = some (arrV cA n (fun _ => .null)) := by rw [← hH1, Array.getElem?_push_size, ← arrV_new, nI_clamp (by omega)]
  have o1 : ∀ q : Nat, q < H.size → H1[q]? = H[q]? := fun q hq => by rw [← hH1, Array.getElem?_push, if_neg (Nat.ne_of_lt hq)]
  have hq0 : q0 ≤ z := by rw [hz]; exact Nat.le_trans K.2.2.2.2.2.2.2.1 h3.1
  have hcA : cA = ca 3 := by
    obtain ⟨kB, comp2, g1, g2, g3, g4⟩ := ((jK_K K).2 3 _ rfl).2
    exact Option.some.inj (f1.symm.trans g4)
  subst hcA
  have hrep : jRep D ca q0 ad (z + 1, upL Lv k i, clV V k i, clR Rf k i) H1 := by
    refine jRep_new h2 hq0 had hf z1 o1 ?_
    rw [jcell_ref hs, had, hz]
    show H1[H.size]? = some (vp_cell _ _)
    rw [e1, vp_cell_q]
    congr 2
    funext j
    simp [clR, va_rf]
  rw [show (nI n).toNatClampNeg = n from nI_clamp (by omega)]
  have := kk H1 locs lsC (cells + 1) (slots + n) h1 hrep (va_S_new h3 z1 o1) (by omega) (by omega)
  rw [had, hz] at this
  exact this
end J
