theorem jblind {D : va_G} {ca : Nat → ClassId} {q0 : Nat} {sa : Nat → Nat} {ad : jAd} {av : List Value} {M : jM} : FrameBlind (va_Pc av (fun U => jE D ca q0 sa U U.heap ∧ q0 ≤ U.heap.size ∧ jRep D ca q0 ad M U.heap)) := by
  intro a U g mk h
  obtain ⟨h1, ⟨e1, e2, e3, e4, e5, e6⟩, h2, h3⟩ := h
  exact ⟨h1, ⟨va_K.moved (u := U) (U := U.calling g mk a) (Vm.Alike.refl U.vm) e1, vx_Zq.moved (u := U) (U := U.calling g mk a) (Vm.Alike.refl U.vm) e2, vx_Zq.moved (u := U) (U := U.calling g mk a) (Vm.Alike.refl U.vm) e3, fun q hq => vk_R.same (u := U) (U := U.calling g mk a) rfl (e4 q hq), fun w hw => va_Nw.same (u := U) (U := U.calling g mk a) (ow_tabs w hw) rfl (e5 w hw), va_AO.moved (u := U) (U := U.calling g mk a) (Vm.Alike.refl U.vm) e6⟩, h2, h3⟩
theorem jE_moved {D : va_G} {ca : Nat → ClassId} {q0 : Nat} {sa : Nat → Nat} {s U : State} {H : Heap} {locs : List Loc} (h : jE D ca q0 sa s s.heap) (hS : va_S (fun q => q0 ≤ q) s.heap H locs) (hU : U.heap = H) (hW : s.WarmedH U.vm) : jE D ca q0 sa U U.heap := by
  obtain ⟨e1, e2, e3, e4, e5, e6⟩ := h
  refine ⟨va_K.moved hW.alike e1, ?_, ?_, fun q hq => vk_R.warm hW (e4 q hq), ow_warm hW e5, va_AO.moved hW.alike e6⟩
  · rw [hU]; exact vx_Zq.moved hW.alike (vx_Zq.kept e2 hS.2.1)
  · rw [hU]; exact vx_Zq.moved hW.alike (vx_Zq.kept e3 hS.2.1)
theorem jlv_args {av : List Value} (hcat : ∀ v ∈ av, v.category = 1) : ∀ (n i : Nat) (v : Value), av[i]? = some v → (n + i, v) ∈ lv_args n av := by
  induction av with
  | nil => intro n i v h; simp at h
  | cons a t ih =>
    intro n i v h
    unfold lv_args
    have ha : ¬ a.category = 2 := by rw [hcat a List.mem_cons_self]; decide
    rw [if_neg ha]
    match i, h with
    | 0, h => simp at h; subst h; exact List.mem_cons_self
    | i + 1, h =>
      have h1 := ih (fun v hv => hcat v (List.mem_cons_of_mem _ hv)) (n + 1) i v (by simpa using h)
      rw [show n + 1 + i = n + (i + 1) by omega] at h1
      exact List.mem_cons_of_mem _ h1
theorem jsl_len {av : List Value} (hcat : ∀ v ∈ av, v.category = 1) : (lg_sl av).length = av.length := by
  induction av with
  | nil => rfl
  | cons a t ih =>
    have ha : ¬ a.category = 2 := by rw [hcat a List.mem_cons_self]; decide
    have := ih (fun v hv => hcat v (List.mem_cons_of_mem _ hv))
    unfold lg_sl at this ⊢
    simp [ha, this]
theorem jL_entry {av : List Value} {nL : Nat} (hcat : ∀ v ∈ av, v.category = 1) (hlen : av.length ≤ nL) : jL ((lg_sl av ++ List.replicate (nL - (lg_sl av).length) Slot.unset).toArray) nL (av.map some ++ List.replicate (nL - av.length) none) := by
  have h := lv_entry av (n := nL) (by rw [jsl_len hcat]; exact hlen)
  refine ⟨h.1, h.2.1, fun i v hv => ?_⟩
  have hi : av[i]? = some v := by
    by_cases hl : i < av.length
    · rw [List.getElem?_append_left (by simpa using hl), List.getElem?_map] at hv
      cases ha : av[i]? with
      | none => rw [ha] at hv; cases hv
      | some w => rw [ha] at hv; cases hv; rfl
    · rw [List.getElem?_append_right (by simp; omega)] at hv
      rw [List.getElem?_replicate] at hv
      split at hv <;> cases hv
  have h1 := h.2.2 _ (jlv_args hcat 0 i v hi)
  rw [Nat.zero_add] at h1
  exact ⟨h1, hcat v (List.mem_of_getElem? hi)⟩
theorem jRep_grow {D : va_G} {ca : Nat → ClassId} {q0 : Nat} {ad : jAd} {M : jM} {H H1 : Heap} (h : jRep D ca q0 ad M H) (hk : ∀ q : Nat, q < H.size → H1[q]? = H[q]?) : jRep D ca q0 ad (H1.size, M.2) H1 := by
  refine ⟨rfl, fun k i hl => ?_, h.2.2⟩
  obtain ⟨a1, a2⟩ := h.2.1 k i hl
  exact ⟨a1, va_at.kept a2 (hk _ (jRep_lt h hl))⟩
/-- a memory that shows the same -/
theorem jRep_congr {D : va_G} {ca : Nat → ClassId} {q0 : Nat} {ad : jAd} {M M' : jM} {H : Heap} (h : jRep D ca q0 ad M H) (hz : M'.1 = M.1) (hL : ∀ k i, M'.2.1 k i = M.2.1 k i) (hc : ∀ k i, M.2.1 k i = true → jcell ca ad M' k i = jcell ca ad M k i) : jRep D ca q0 ad M' H := by
  refine ⟨by rw [hz]; exact h.1, fun k i hl => ?_, fun k i k' i' hl hl' => h.2.2 k i k' i' (by rw [← hL]; exact hl) (by rw [← hL]; exact hl')⟩
  rw [hL] at hl
  rw [hc k i hl]
  exact h.2.1 k i hl
theorem j_enter {l : Launch} {D : va_G} {ca : Nat → ClassId} {q0 : Nat} {sa : Nat → Nat} {ad : jAd} {y : MethodName} {cc : ByteArray} {nL : Nat} {ret : Option FieldType} {lvl mc ms : Nat} {av : List Value} {M : jM} {Q0 : jO → jM → Prop} (own : String) (ls : List (Option Value)) (hown : y.cls = own) (hy : plainName y.cls = true) (hcat : ∀ v ∈ av, v.category = 1) (hlen : av.length ≤ nL) (hls : av.map some ++ List.replicate (nL - av.length) none = ls)
    (body : ∀ p e s m args below meth c, jK p l (jRm lvl mc ms) s m args meth c D ca q0 sa own cc nL ret → meth.name = y.name → (∀ x ∈ c.exceptionTable.toList, False) →
      jW p l e (jRm lvl mc ms) s m args below meth c D ca q0 ad nL (jZ below args s D ca q0 ad mc ms Q0) mc ms 0 ls [] M) : jMet l D ca q0 sa ad y cc nL ret lvl mc ms av M Q0 := by
  intro hl
  refine vx_ofW (cc := cc) (maxL := nL) (ret := ret) hy rfl ?_
  intro p e s m args below meth c s₁ B hml hX hv
  obtain ⟨rfl, hE, hq0, hR⟩ := hv
  subst hls
  have hts : ∀ w ∈ WG, w.before av.toArray s = true := fun w hw => atoms_spec (ws := Cond.code y cc nL ret :: WG) B.pre w (List.mem_cons_of_mem _ hw)
  have hown2 : s.vm.findClass own = some m.cls := by rw [← hown]; exact findClass_of_methodNamed B.named
  have K := body p e s m av.toArray below meth c ⟨B.exec, B.bytes, hml, hown2, hts, B.notSynchronized, hE, hq0, B.returns, hl⟩ (name_of_methodNamed B.named B.method).1 hX
  rw [lg_entry_eq]
  exact K s.heap [] _ 0 0 (jL_entry hcat hlen) hR va_S.rf (by simp) (by simp)
section J
variable {p : Program} {l : Launch} {e : Env} {R : Room} {s : State} {m : MethodId} {args : Array Value} {below : List Frame} {meth : Method} {c : Code} {D : va_G} {ca : Nat → ClassId} {q0 : Nat} {sa : Nat → Nat} {ad : jAd} {own : String} {cc : ByteArray} {nL : Nat} {ret : Option FieldType} {Q : State → Prop} {kc ks pc : Nat} {ls : List (Option Value)} {st : List Value} {M : jM}
variable {lvl mc ms : Nat} {Q0 : jO → jM → Prop}
theorem jK_ret (K : jK p l R s m args meth c D ca q0 sa own cc nL ret) : meth.sig.returnType = ret := K.2.2.2.2.2.2.2.2.1
theorem j_iret (K : jK p l (jRm lvl mc ms) s m args meth c D ca q0 sa own cc nL (some .int)) {x : Int32} (hd : decode cc pc = .ok (.ireturn, 1)) (hq : Q0 (.inl (some (.int x))) M) : jW p l e (jRm lvl mc ms) s m args below meth c D ca q0 ad nL (jZ below args s D ca q0 ad mc ms Q0) kc ks pc ls [.int x] M := by
  intro H locs lsC cells slots h1 h2 h3 h4 h5
  refine W.widen (k := mc) (n := ms) (by have : cells + kc ≤ mc := h4; omega) (by have : slots + ks ≤ ms := h5; omega) (vx_ret ?_)
  exact W.iret K.1 K.2.1 (jK_ret K) (fun t ht hW => ⟨some (.int x), M, rfl, hq, by rw [ht]; exact h2, h3.F ht⟩) h3.2.2 hd K.2.2.2.2.2.1
theorem j_zret (K : jK p l (jRm lvl mc ms) s m args meth c D ca q0 sa own cc nL (some .boolean)) {x : Int32} (hd : decode cc pc = .ok (.ireturn, 1)) (hx : x = 0 ∨ x = 1) (hq : Q0 (.inl (some (.int x))) M) : jW p l e (jRm lvl mc ms) s m args below meth c D ca q0 ad nL (jZ below args s D ca q0 ad mc ms Q0) kc ks pc ls [.int x] M := by
  intro H locs lsC cells slots h1 h2 h3 h4 h5
  refine W.widen (k := mc) (n := ms) (by have : cells + kc ≤ mc := h4; omega) (by have : slots + ks ≤ ms := h5; omega) (vx_ret ?_)
  exact W.zret K.1 K.2.1 (jK_ret K) (by rcases hx with rfl | rfl <;> rfl) (fun t ht hW => ⟨some (.int x), M, rfl, hq, by rw [ht]; exact h2, h3.F ht⟩) h3.2.2 hd K.2.2.2.2.2.1
theorem j_vret (K : jK p l (jRm lvl mc ms) s m args meth c D ca q0 sa own cc nL none) (hd : decode cc pc = .ok (.return_, 1)) (hq : Q0 (.inl none) M) : jW p l e (jRm lvl mc ms) s m args below meth c D ca q0 ad nL (jZ below args s D ca q0 ad mc ms Q0) kc ks pc ls [] M := by
  intro H locs lsC cells slots h1 h2 h3 h4 h5
  refine W.widen (k := mc) (n := ms) (by have : cells + kc ≤ mc := h4; omega) (by have : slots + ks ≤ ms := h5; omega) (vx_ret ?_)
  exact W.vret K.1 K.2.1 (jK_ret K) (fun t ht hW => ⟨none, M, rfl, hq, by rw [ht]; exact h2, h3.F ht⟩) h3.2.2 hd K.2.2.2.2.2.1
theorem j_aret {C : String} (K : jK p l (jRm lvl mc ms) s m args meth c D ca q0 sa own cc nL (some (.object C))) {x : Nat} (hd : decode cc pc = .ok (.areturn, 1)) (hq : Q0 (.inl (some (.ref x))) M) : jW p l e (jRm lvl mc ms) s m args below meth c D ca q0 ad nL (jZ below args s D ca q0 ad mc ms Q0) kc ks pc ls [.ref x] M := by
  intro H locs lsC cells slots h1 h2 h3 h4 h5
  refine W.widen (k := mc) (n := ms) (by have : cells + kc ≤ mc := h4; omega) (by have : slots + ks ≤ ms := h5; omega) (vx_ret ?_)
  exact W.aret K.1 K.2.1 (jK_ret K) (Or.inl ⟨C, rfl⟩) (Or.inr ⟨x, rfl⟩) (fun t ht hW => ⟨some (.ref x), M, rfl, hq, by rw [ht]; exact h2, h3.F ht⟩) h3.2.2 hd K.2.2.2.2.2.1
/-- an exception that leaves the method -/
theorem j_out (K : jK p l (jRm lvl mc ms) s m args meth c D ca q0 sa own cc nL ret) (hX : ∀ x ∈ c.exceptionTable.toList, False) {E : String} (hq : Q0 (.inr E) M) : jWx p l e (jRm lvl mc ms) s m args below meth c D ca q0 ad nL (jZ below args s D ca q0 ad mc ms Q0) kc ks pc ls E M := by
  intro H locs lsC cells slots q ce rest h1 h2 h3 h4 h5 hce hcv hcl
  exact vx_out (fun x hx => (hX x hx).elim) K.2.2.2.2.2.1 hce hcv hcl (fun t ht hA => ⟨M, hq, by rw [ht]; exact h2, h3.F ht⟩) h3.2.2 (by have : cells + kc ≤ mc := h4; omega) (by have : slots + ks ≤ ms := h5; omega)
/-- a method as its callers see it: its code, the number of its parameters -/
def jMeth (y : MethodName) (bytes : ByteArray) (maxL : Nat) (ret : Option FieldType) (n : Nat) : Prop := Cond.code y bytes maxL ret ∈ WG ∧ Cond.initialized y.cls ∈ WG ∧ y.cls ≠ "java/lang/invoke/MethodHandle" ∧ y.cls ≠ "java/lang/invoke/VarHandle" ∧ (parseMethodDescriptor y.desc).map (fun d => d.parameters.length) = some n
def jLnk (own : String) (idx : Nat) (y : MethodName) : Prop := Cond.methodLink own idx y ∈ WG
def jVirt (y : MethodName) : Prop := Cond.instanceMethod y ∈ WG ∧ Cond.selects y.cls y y ∈ WG
theorem jcallB {y : MethodName} {bytes : ByteArray} {maxL n idx lvl' mc' ms' : Nat} {ret' : Option FieldType} (K : jK p l R s m args meth c D ca q0 sa own cc nL ret) (hm : jMeth y bytes maxL ret' n) (hk : jLnk own idx y) (hR : 6 + lvl' + 1 ≤ R.frames ∧ 8 + (maxL + 11) + (100 + 30 * lvl') ≤ R.locals) :
    CallB R s args own idx y bytes maxL ret' (Cond.code y bytes maxL ret' :: WG) (jRm lvl' mc' ms') mc' ms' n :=
  callB_of n K.2.2.2.2.1 (wg_self hm.1) rfl rfl rfl (K.2.2.2.2.1 _ hm.2.1) (K.2.2.2.2.1 _ hk) hm.2.2 hR
theorem jCF (K : jK p l R s m args meth c D ca q0 sa own cc nL ret) : CallFix p m c cc nL s args WG own := ⟨K.1, K.2.1, K.2.2.1, K.2.2.2.1, K.2.2.2.2.1⟩
/-- behind a call -/
theorem j_back {y : MethodName} {lvl' mc' ms' : Nat} {st0 : List Value} {a : Array Value} {Q' : jO → jM → Prop}
    (hr : ∀ (H : Heap) (locs : List Loc) (lsC : Array Slot) (cells slots : Nat), jL lsC nL ls → jRep D ca q0 ad M H → va_S (fun q => q0 ≤ q) s.heap H locs → cells + mc' ≤ R.cells ∧ slots + ms' ≤ R.slots → vx_Run p l e R s m args below meth c H locs cells slots mc' ms' (F0 m pc lsC st0) st (jQc D ca q0 ad Q' a) (jXc D ca q0 ad Q') (fun q => q0 ≤ q))
    (hc : mc' ≤ kc) (hs : ms' ≤ ks)
    (kk : ∀ (v : Option Value) (M' : jM), Q' (.inl v) M' → jW p l e R s m args below meth c D ca q0 ad nL Q (kc - mc') (ks - ms') (pc + 3) ls (v.toList ++ st) M')
    (kx : ∀ (E : String) (M' : jM), Q' (.inr E) M' → jWx p l e R s m args below meth c D ca q0 ad nL Q (kc - mc') (ks - ms') pc ls E M') : jW p l e R s m args below meth c D ca q0 ad nL Q kc ks pc ls st0 M := by
  intro H locs lsC cells slots h1 h2 h3 h4 h5 T hT X
  rcases hr H locs lsC cells slots h1 h2 h3 ⟨by omega, by omega⟩ T hT X with ⟨v, st₀, t, T', L, h0, X', hL, e1, e2, ⟨v', M', hv, hq, hrep, hF⟩, stp⟩ | ⟨q, st₀, t, T', L, E, ce, h0, X', hL, e1, e2, ⟨M', hq, hrep, hF⟩, hce, hcv, hcl, stp⟩
  · cases hv
    obtain ⟨k1, k2, k3⟩ := vx_keep h0 e1 h3 (fun q _ h => h) (fun q h => h) hL hF
    obtain ⟨t2, a1, b1⟩ := kk v M' hq T'.heap (locs ++ L) lsC (cells + mc') (slots + ms') h1 (by rw [e1]; exact hrep) k3 (by omega) (by omega) T' rfl X'
    exact ⟨t2, stp t2 a1, b1⟩
  · obtain ⟨k1, k2, k3⟩ := vx_keep h0 e1 h3 (fun q _ h => h) (fun q h => h) hL hF
    obtain ⟨t2, a1, b1⟩ := kx E M' hq T'.heap (locs ++ L) lsC (cells + mc') (slots + ms') q ce st h1 (by rw [e1]; exact hrep) k3 (by omega) (by omega) (by rw [e1]; exact hce) hcv hcl T' rfl X'
    exact ⟨t2, stp.trans a1, b1⟩
theorem j_callV (K : jK p l R s m args meth c D ca q0 sa own cc nL ret) {y : MethodName} {bytes : ByteArray} {maxL n idx lvl' mc' ms' k i ci : Nat} {ret' : Option FieldType} {av st0 : List Value} {Q' : jO → jM → Prop} (hd : decode cc pc = .ok (.invokevirtual idx, 3)) (hm : jMeth y bytes maxL ret' n) (hv : jVirt y) (hk : jLnk own idx y)
    (hs : shp k = (0, ci)) (hci : ci < 7 ∧ y.cls = jC ci) (hlv : M.2.1 k i = true) (hM : jMet l D ca q0 sa ad y bytes maxL ret' lvl' mc' ms' (.ref (ad k i) :: av) M Q') (hst : st0 = av.reverse ++ .ref (ad k i) :: st) (hn : av.length = n) (hsum : (st.map fun v => v.category).sum ≤ 8) (hR : 6 + lvl' + 1 ≤ R.frames ∧ 8 + (maxL + 11) + (100 + 30 * lvl') ≤ R.locals) (hc : mc' ≤ kc) (hcs : ms' ≤ ks)
    (kk : ∀ (v : Option Value) (M' : jM), Q' (.inl v) M' → jW p l e R s m args below meth c D ca q0 ad nL Q (kc - mc') (ks - ms') (pc + 3) ls (v.toList ++ st) M')
    (kx : ∀ (E : String) (M' : jM), Q' (.inr E) M' → jWx p l e R s m args below meth c D ca q0 ad nL Q (kc - mc') (ks - ms') pc ls E M') : jW p l e R s m args below meth c D ca q0 ad nL Q kc ks pc ls st0 M := by
  refine j_back (y := y) (lvl' := lvl') (a := (Value.ref (ad k i) :: av).toArray) (fun H locs lsC cells slots h1 h2 h3 hf => ?_) hc hcs kk kx
  subst hst
  refine vx_runV (b := ad k i) (As := av) (rest := st) (C := jC ci) (jCF K) (hM K.2.2.2.2.2.2.2.2.2) ⟨jcallB K hm hk hR, K.2.2.2.2.1 _ hv.1, by rw [← hci.2]; exact K.2.2.2.2.1 _ hv.2⟩ ⟨jblind, ?_, fun U hU hW => ⟨rfl, jE_moved K.2.2.2.2.2.2.1 h3 hU hW, by rw [hU]; exact Nat.le_trans K.2.2.2.2.2.2.2.1 h3.1, by rw [hU]; exact h2⟩⟩ rfl hn h1.1 rfl (lv_room hsum) hd hf
  have hP := jRep_P h2 hlv
  rw [jcell_obj hs] at hP
  exact va_recv (jK_K K) hP (ci := ci) (q0 := 0) (jcls_get ci hci.1) rfl
theorem j_callS (K : jK p l R s m args meth c D ca q0 sa own cc nL ret) {y : MethodName} {bytes : ByteArray} {maxL n idx lvl' mc' ms' : Nat} {ret' : Option FieldType} {av st0 : List Value} {Q' : jO → jM → Prop} (hd : decode cc pc = .ok (.invokestatic idx, 3)) (hm : jMeth y bytes maxL ret' n) (hv : Cond.static y ∈ WG) (hk : jLnk own idx y)
    (hM : jMet l D ca q0 sa ad y bytes maxL ret' lvl' mc' ms' av M Q') (hst : st0 = av.reverse ++ st) (hn : av.length = n) (hsum : (st.map fun v => v.category).sum ≤ 8) (hR : 6 + lvl' + 1 ≤ R.frames ∧ 8 + (maxL + 11) + (100 + 30 * lvl') ≤ R.locals) (hc : mc' ≤ kc) (hcs : ms' ≤ ks)
    (kk : ∀ (v : Option Value) (M' : jM), Q' (.inl v) M' → jW p l e R s m args below meth c D ca q0 ad nL Q (kc - mc') (ks - ms') (pc + 3) ls (v.toList ++ st) M')
    (kx : ∀ (E : String) (M' : jM), Q' (.inr E) M' → jWx p l e R s m args below meth c D ca q0 ad nL Q (kc - mc') (ks - ms') pc ls E M') : jW p l e R s m args below meth c D ca q0 ad nL Q kc ks pc ls st0 M := by
  refine j_back (y := y) (lvl' := lvl') (a := av.toArray) (fun H locs lsC cells slots h1 h2 h3 hf => ?_) hc hcs kk kx
  subst hst
  exact vx_runS (As := av) (rest := st) (jCF K) (hM K.2.2.2.2.2.2.2.2.2) ⟨jcallB K hm hk hR, K.2.2.2.2.1 _ hv⟩ ⟨jblind, fun U hU hW => ⟨rfl, jE_moved K.2.2.2.2.2.2.1 h3 hU hW, by rw [hU]; exact Nat.le_trans K.2.2.2.2.2.2.2.1 h3.1, by rw [hU]; exact h2⟩⟩ rfl hn h1.1 rfl (lv_room hsum) hd hf
end J
