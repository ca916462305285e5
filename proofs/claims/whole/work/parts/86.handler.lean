/-- exceptions, of which none is another -/
def ncX : List String := ["java/lang/IllegalArgumentException", "java/lang/IllegalStateException", "java/lang/IndexOutOfBoundsException", ns_C]
def jNc (U : State) : Prop := ∀ a ∈ ncX, ∀ b ∈ ncX, ¬ a = b → va_Nc a b U
/-- a contract of a method with handlers -/
def jMetH (l : Launch) (D : va_G) (ca : Nat → ClassId) (q0 : Nat) (sa : Nat → Nat) (ad : jAd) (y : MethodName) (bytes : ByteArray) (maxL : Nat) (ret : Option FieldType) (hh : List (Nat × Nat × Nat × Nat)) (lvl mc ms : Nat) (av : List Value) (M : jM) (Q : jO → jM → Prop) : Prop :=
  l.stackTraces = false → vx_Met l y (Cond.codeWith y bytes maxL ret hh :: WG) (jRm lvl mc ms) (va_Pc av (fun U => (jE D ca q0 sa U U.heap ∧ jNc U) ∧ q0 ≤ U.heap.size ∧ jRep D ca q0 ad M U.heap)) (jQc D ca q0 ad Q) (jXc D ca q0 ad Q) mc ms (fun q => q0 ≤ q)
theorem jblindH {D : va_G} {ca : Nat → ClassId} {q0 : Nat} {sa : Nat → Nat} {ad : jAd} {av : List Value} {M : jM} : FrameBlind (va_Pc av (fun U => (jE D ca q0 sa U U.heap ∧ jNc U) ∧ q0 ≤ U.heap.size ∧ jRep D ca q0 ad M U.heap)) := by
  intro a U g mk h
  obtain ⟨h1, ⟨h2, h5⟩, h3, h4⟩ := h
  obtain ⟨g1, g2, g3, g4⟩ := jblind (D := D) (ca := ca) (q0 := q0) (sa := sa) (ad := ad) (av := av) (M := M) a U g mk ⟨h1, h2, h3, h4⟩
  exact ⟨g1, ⟨g2, fun x hx y hy hne => va_Nc.moved (u := U) (U := U.calling g mk a) (Vm.Alike.refl U.vm) (h5 x hx y hy hne)⟩, g3, g4⟩
theorem j_enterH {l : Launch} {D : va_G} {ca : Nat → ClassId} {q0 : Nat} {sa : Nat → Nat} {ad : jAd} {y : MethodName} {cc : ByteArray} {nL : Nat} {ret : Option FieldType} {hh : List (Nat × Nat × Nat × Nat)} {lvl mc ms : Nat} {av : List Value} {M : jM} {Q0 : jO → jM → Prop} (own : String) (ls : List (Option Value)) (hown : y.cls = own) (hy : plainName y.cls = true) (hcat : ∀ v ∈ av, v.category = 1) (hlen : av.length ≤ nL) (hls : av.map some ++ List.replicate (nL - av.length) none = ls)
    (body : ∀ p e s m args below meth c, jK p l (jRm lvl mc ms) s m args meth c D ca q0 sa own cc nL ret → jNc s → c.exceptionTable.toList = tableOf hh →
      jW p l e (jRm lvl mc ms) s m args below meth c D ca q0 ad nL (jZ below args s D ca q0 ad mc ms Q0) mc ms 0 ls [] M) : jMetH l D ca q0 sa ad y cc nL ret hh lvl mc ms av M Q0 := by
  intro hl
  refine vx_ofWH (cc := cc) (maxL := nL) (ret := ret) (hh := hh) hy rfl ?_
  intro p e s m args below meth c s₁ B hml hv
  obtain ⟨rfl, ⟨hE, hN⟩, hq0, hR⟩ := hv
  subst hls
  have hts : ∀ w ∈ WG, w.before av.toArray s = true := fun w hw => atoms_spec (ws := Cond.codeWith y cc nL ret hh :: WG) B.pre w (List.mem_cons_of_mem _ hw)
  have hcw := atoms_spec (ws := Cond.codeWith y cc nL ret hh :: WG) B.pre _ List.mem_cons_self
  have hown2 : s.vm.findClass own = some m.cls := by rw [← hown]; exact findClass_of_methodNamed B.named
  have K := body p e s m av.toArray below meth c ⟨B.exec, B.bytes, hml, hown2, hts, B.notSynchronized, hE, hq0, B.returns, hl⟩ hN (vx_table (x := y) B hcw)
  rw [lg_entry_eq]
  exact K s.heap [] _ 0 0 (jL_entry hcat hlen) hR va_S.rf (by simp) (by simp)
section J
variable {p : Program} {l : Launch} {e : Env} {R : Room} {s : State} {m : MethodId} {args : Array Value} {below : List Frame} {meth : Method} {c : Code} {D : va_G} {ca : Nat → ClassId} {q0 : Nat} {sa : Nat → Nat} {ad : jAd} {own : String} {cc : ByteArray} {nL : Nat} {ret : Option FieldType} {Q : State → Prop} {kc ks pc : Nat} {ls : List (Option Value)} {st : List Value} {M : jM}
/-- caught: the row x of the table, those ahead of it name other exceptions -/
theorem j_catch (K : jK p l R s m args meth c D ca q0 sa own cc nL ret) (hN : jNc s) {E : String} (pre suf : List ExceptionTableEntry) (x : ExceptionTableEntry) (hT : c.exceptionTable.toList = pre ++ x :: suf) (hE : E ∈ ncX)
    (hpass : ∀ z ∈ pre, z.catchType ≠ 0 ∧ ∃ nm ∈ ncX, ¬ E = nm ∧ Cond.classLink own z.catchType nm ∈ WG) (hx : covers x pc = true) (h0 : x.catchType ≠ 0) (hl : Cond.classLink own x.catchType E ∈ WG) (hc : Cond.castable E E ∈ OW)
    (kk : ∀ q : Nat, jW p l e R s m args below meth c D ca q0 ad nL Q kc ks x.handlerPc ls [.ref q] M) : jWx p l e R s m args below meth c D ca q0 ad nL Q kc ks pc ls E M := by
  intro H locs lsC cells slots q ce rest h1 h2 h3 h4 h5 hce hcv hcl
  refine vx_catch (own := own) (name := E) K.2.2.2.1 pre x suf hT (fun z hz => ?_) hx h0 (K.2.2.2.2.1 _ hl) (jK_ow K hc) hce hcv hcl (kk q H locs lsC cells slots h1 h2 h3 h4 h5)
  obtain ⟨z0, nm, hnm, hne, hlk⟩ := hpass z hz
  exact Or.inr ⟨z0, nm, K.2.2.2.2.1 _ hlk, hN E hE nm hnm hne⟩
/-- a call of a method with handlers -/
theorem j_callSH (K : jK p l R s m args meth c D ca q0 sa own cc nL ret) (hN : jNc s) {y : MethodName} {bytes : ByteArray} {maxL n idx lvl' mc' ms' : Nat} {ret' : Option FieldType} {hh : List (Nat × Nat × Nat × Nat)} {av st0 : List Value} {Q' : jO → jM → Prop} (hd : decode cc pc = .ok (.invokestatic idx, 3))
    (hm : Cond.codeWith y bytes maxL ret' hh ∈ WG ∧ Cond.initialized y.cls ∈ WG ∧ y.cls ≠ "java/lang/invoke/MethodHandle" ∧ y.cls ≠ "java/lang/invoke/VarHandle" ∧ (parseMethodDescriptor y.desc).map (fun d => d.parameters.length) = some n) (hv : Cond.static y ∈ WG) (hk : jLnk own idx y)
    (hM : jMetH l D ca q0 sa ad y bytes maxL ret' hh lvl' mc' ms' av M Q') (hst : st0 = av.reverse ++ st) (hn : av.length = n) (hsum : (st.map fun v => v.category).sum ≤ 8) (hR : 6 + lvl' + 1 ≤ R.frames ∧ 8 + (maxL + 11) + (100 + 30 * lvl') ≤ R.locals) (hc : mc' ≤ kc) (hcs : ms' ≤ ks)
    (kk : ∀ (v : Option Value) (M' : jM), Q' (.inl v) M' → jW p l e R s m args below meth c D ca q0 ad nL Q (kc - mc') (ks - ms') (pc + 3) ls (v.toList ++ st) M')
    (kx : ∀ (E : String) (M' : jM), Q' (.inr E) M' → jWx p l e R s m args below meth c D ca q0 ad nL Q (kc - mc') (ks - ms') pc ls E M') : jW p l e R s m args below meth c D ca q0 ad nL Q kc ks pc ls st0 M := by
  refine j_back (y := y) (lvl' := lvl') (a := av.toArray) (fun H locs lsC cells slots h1 h2 h3 hf => ?_) hc hcs kk kx
  subst hst
  have cw : vx_CSW R s args own idx y bytes maxL ret' hh (Cond.codeWith y bytes maxL ret' hh :: WG) (jRm lvl' mc' ms') mc' ms' n := by
    refine vx_cwSW (Ts := WG) (ws' := WG) n K.2.2.2.2.1 ?_ rfl rfl rfl hm.2.2 hR
    refine wg_list (fun w hw => ?_)
    unfold va_wsS at hw
    rcases List.mem_append.mp hw with h | h
    · simp only [List.mem_cons, List.not_mem_nil, or_false] at h
      rcases h with h | h | h
      · rw [h]; exact hk
      · rw [h]; exact hv
      · rw [h]; exact hm.2.1
    · rcases List.mem_cons.mp h with h | h
      · rw [h]; exact hm.1
      · exact h
  refine vx_runSX (As := av) (rest := st) (jCF K) (hM K.2.2.2.2.2.2.2.2.2) cw ⟨jblindH, fun U hU hW => ⟨rfl, ⟨jE_moved K.2.2.2.2.2.2.1 h3 hU hW, fun a ha b hb hne => va_Nc.moved hW.alike (hN a ha b hb hne)⟩, by rw [hU]; exact Nat.le_trans K.2.2.2.2.2.2.2.1 h3.1, by rw [hU]; exact h2⟩⟩ rfl hn h1.1 rfl (lv_room hsum) hd hf
end J
