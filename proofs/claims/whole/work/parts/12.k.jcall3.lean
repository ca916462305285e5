theorem jMet_met {l : Launch} {D : va_G} {ca : Nat → ClassId} {q0 : Nat} {sa : Nat → Nat} {ad : jAd} {y : MethodName} {bytes : ByteArray} {maxL : Nat} {ret : Option FieldType} {lvl mc ms : Nat} {av : List Value} {M : jM} {Q : jO → jM → Prop} (hl : l.stackTraces = false) (hM : jMet l D ca q0 sa ad y bytes maxL ret lvl mc ms av M Q) (hnx : ∀ E N, ¬ Q (.inr E) N) :
    Met l y (Cond.code y bytes maxL ret :: WG) (jRm lvl mc ms) (va_Pc av (fun U => jE D ca q0 sa U U.heap ∧ q0 ≤ U.heap.size ∧ jRep D ca q0 ad M U.heap)) (jQc D ca q0 ad Q) mc ms (fun q => q0 ≤ q) := by
  refine MetFree.mono (hM hl) (fun _ _ h => h) (fun _ _ _ _ _ h => h) (fun a s o t _ h => ?_)
  rcases h with h | ⟨q, _, E, ce, L, ⟨N, hq, _⟩, _⟩
  · exact h
  · exact absurd hq (hnx _ _)
theorem jx_ofWF {l : Launch} {y : MethodName} {ws ws' : List Cond} {rm : Room} {Pc : Array Value → State → Prop} {Qc : Array Value → State → Outcome → State → Prop} {XC : String → State → State → Prop} {mc ms : Nat} {free : Addr → Prop} {cc : ByteArray} {maxL : Nat} {ret : Option FieldType}
    (hy : plainFor y = true) (hw : ws = Cond.code y cc maxL ret :: ws')
    (body : ∀ p e s m args below meth c s₁, BodyLoose p l y (headSpec ws rm) cc maxL ret e s m args below meth c s₁ → c.maxLocals = maxL → Pc args s →
      W p l e (headSpec ws rm).room s m args below meth c s.heap [] 0 0 (vx_MQ below Qc XC args s mc ms free) (entryFrame m args maxL)) : vx_Met l y ws rm Pc Qc XC mc ms free := by
  refine MetFree.of_bodySF (code := cc) (maxLocals := maxL) (ret := ret) hy ?_ ?_
  · intro args s m h hn
    obtain ⟨meth, c, h1, h2, h3, h4, h5, h6, -, -⟩ := Cond.code_spec hn (atoms_spec (ws := ws) h _ (by rw [hw]; exact List.mem_cons_self))
    exact ⟨meth, c, h1, h2, h3, h4, h5, h6⟩
  · intro p e s m args below meth c s₁ B hml hP _
    have hh0 : s₁.heap = s.heap := by rw [B.state]; rfl
    obtain ⟨t, a1, o, b1, b2, b3⟩ := body p e s m args below meth c s₁ B hml hP s₁ hh0 (Stand.of_body B)
    exact ⟨t, o, a1, b1, b2, b3⟩
/-- entering a method of a class that the machine doesn't take as plainly named (java.lang.Math) -/
theorem j_enterF {l : Launch} {D : va_G} {ca : Nat → ClassId} {q0 : Nat} {sa : Nat → Nat} {ad : jAd} {y : MethodName} {cc : ByteArray} {nL : Nat} {ret : Option FieldType} {lvl mc ms : Nat} {av : List Value} {M : jM} {Q0 : jO → jM → Prop} (own : String) (ls : List (Option Value)) (hown : y.cls = own) (hy : plainFor y = true) (hcat : ∀ v ∈ av, v.category = 1) (hlen : av.length ≤ nL) (hls : av.map some ++ List.replicate (nL - av.length) none = ls)
    (body : ∀ p e s m args below meth c, jK p l (jRm lvl mc ms) s m args meth c D ca q0 sa own cc nL ret →
      jW p l e (jRm lvl mc ms) s m args below meth c D ca q0 ad nL (jZ below args s D ca q0 ad mc ms Q0) mc ms 0 ls [] M) : jMet l D ca q0 sa ad y cc nL ret lvl mc ms av M Q0 := by
  intro hl
  refine jx_ofWF (cc := cc) (maxL := nL) (ret := ret) hy rfl ?_
  intro p e s m args below meth c s₁ B hml hv
  obtain ⟨rfl, hE, hq0, hR⟩ := hv
  subst hls
  have hts : ∀ w ∈ WG, w.before av.toArray s = true := fun w hw => atoms_spec (ws := Cond.code y cc nL ret :: WG) B.pre w (List.mem_cons_of_mem _ hw)
  have hown2 : s.vm.findClass own = some m.cls := by rw [← hown]; exact findClass_of_methodNamed B.named
  have K := body p e s m av.toArray below meth c ⟨B.exec, B.bytes, hml, hown2, hts, B.notSynchronized, hE, hq0, B.returns, hl⟩
  rw [lg_entry_eq]
  exact K s.heap [] _ 0 0 (jL_entry hcat hlen) hR va_S.rf (by simp) (by simp)
section J
variable {p : Program} {l : Launch} {e : Env} {R : Room} {s : State} {m : MethodId} {args : Array Value} {below : List Frame} {meth : Method} {c : Code} {D : va_G} {ca : Nat → ClassId} {q0 : Nat} {sa : Nat → Nat} {ad : jAd} {own : String} {cc : ByteArray} {nL : Nat} {ret : Option FieldType} {Q : State → Prop} {kc ks pc : Nat} {ls : List (Option Value)} {st : List Value} {M : jM}
theorem j_backM {mc' ms' : Nat} {st0 : List Value} {a : Array Value} {Q' : jO → jM → Prop}
    (hr : ∀ (H : Heap) (locs : List Loc) (lsC : Array Slot) (cells slots : Nat), jL lsC nL ls → jRep D ca q0 ad M H → va_S (fun q => q0 ≤ q) s.heap H locs → cells + mc' ≤ R.cells ∧ slots + ms' ≤ R.slots → va_Run p l e R s m args below meth c H locs cells slots mc' ms' (F0 m pc lsC st0) st (jQc D ca q0 ad Q' a) (fun q => q0 ≤ q))
    (hc : mc' ≤ kc) (hs : ms' ≤ ks)
    (kk : ∀ (v : Option Value) (M' : jM), Q' (.inl v) M' → jW p l e R s m args below meth c D ca q0 ad nL Q (kc - mc') (ks - ms') (pc + 3) ls (v.toList ++ st) M') : jW p l e R s m args below meth c D ca q0 ad nL Q kc ks pc ls st0 M := by
  intro H locs lsC cells slots h1 h2 h3 h4 h5 T hT X
  obtain ⟨v, st₀, t, T', L, h0, X', hL, e1, e2, ⟨v', M', hv, hq, hrep, hF⟩, stp⟩ := hr H locs lsC cells slots h1 h2 h3 ⟨by omega, by omega⟩ T hT X
  cases hv
  obtain ⟨k1, k2, k3⟩ := vx_keep h0 e1 h3 (fun q _ h => h) (fun q h => h) hL hF
  obtain ⟨t2, a1, b1⟩ := kk v M' hq T'.heap (locs ++ L) lsC (cells + mc') (slots + ms') h1 (by rw [e1]; exact hrep) k3 (by omega) (by omega) T' rfl X'
  exact ⟨t2, stp t2 a1, b1⟩
theorem jPreS (K : jK p l R s m args meth c D ca q0 sa own cc nL ret) {H : Heap} {locs : List Loc} {As : List Value} (h2 : jRep D ca q0 ad M H) (h3 : va_S (fun q => q0 ≤ q) s.heap H locs) : PreS s H (va_Pc As (fun U => jE D ca q0 sa U U.heap ∧ q0 ≤ U.heap.size ∧ jRep D ca q0 ad M U.heap)) As :=
  ⟨jblind, fun U hU hW => ⟨rfl, jE_moved K.2.2.2.2.2.2.1 h3 hU hW, by rw [hU]; exact Nat.le_trans K.2.2.2.2.2.2.2.1 h3.1, by rw [hU]; exact h2⟩⟩
theorem jNest {y : MethodName} {bytes : ByteArray} {maxL n idx lvl' mc' ms' : Nat} {ret' : Option FieldType} {host : String} (K : jK p l R s m args meth c D ca q0 sa own cc nL ret) (hm : jMeth y bytes maxL ret' n) (hk : Cond.methodLinkNest own idx y host ∈ OW) (hR : 6 + lvl' + 1 ≤ R.frames ∧ 8 + (maxL + 11) + (100 + 30 * lvl') ≤ R.locals) :
    va_CN R s args own idx y host bytes maxL ret' (Cond.code y bytes maxL ret' :: WG) (jRm lvl' mc' ms') mc' ms' n :=
  va_cnB n K.2.2.2.2.1 (wg_self hm.1) rfl rfl rfl (K.2.2.2.2.2.2.1.2.2.2.2.1 _ hk) (K.2.2.2.2.1 _ hm.2.1) hm.2.2 hR
theorem j_cSN1r (K : jK p l R s m args meth c D ca q0 sa own cc nL ret) {y : MethodName} {bytes : ByteArray} {maxL idx lvl' mc' ms' : Nat} {ret' : Option FieldType} {host : String} {a1 r : Value} {M' : jM} (hd : decode cc pc = .ok (.invokestatic idx, 3)) (hm : jMeth y bytes maxL ret' 1) (hv : Cond.static y ∈ WG) (hk : Cond.methodLinkNest own idx y host ∈ OW) (hM : jMet l D ca q0 sa ad y bytes maxL ret' lvl' mc' ms' [a1] M (jRet (some r) M')) (hsum : (st.map fun v => v.category).sum ≤ 8) (hR : 6 + lvl' + 1 ≤ R.frames ∧ 8 + (maxL + 11) + (100 + 30 * lvl') ≤ R.locals) (hc : mc' ≤ kc) (hcs : ms' ≤ ks)
    (kk : jW p l e R s m args below meth c D ca q0 ad nL Q (kc - mc') (ks - ms') (pc + 3) ls (r :: st) M') : jW p l e R s m args below meth c D ca q0 ad nL Q kc ks pc ls (a1 :: st) M := by
  refine j_backM (Q' := jRet (some r) M') (st := st) (a := [a1].toArray) (fun H locs lsC cells slots h1 h2 h3 hf => ?_) hc hcs (fun v N hq => by cases hq.1; cases hq.2; exact kk)
  exact va_runSN (As := [a1]) (rest := st) (jCF K) (jMet_met K.2.2.2.2.2.2.2.2.2 hM (fun E N h => nomatch h.1)) ⟨jNest K hm hk hR, K.2.2.2.2.1 _ hv, trivial⟩ (jPreS K h2 h3) rfl rfl h1.1 rfl (lv_room hsum) hd hf
/-- a constructor, by its own class's link or as a nest mate's -/
theorem j_cI (K : jK p l R s m args meth c D ca q0 sa own cc nL ret) {y : MethodName} {bytes : ByteArray} {maxL n idx lvl' mc' ms' k i : Nat} {av st0 : List Value} {M' : jM} (hd : decode cc pc = .ok (.invokespecial idx, 3)) (hm : jMeth y bytes maxL none n) (hv : Cond.instanceMethod y ∈ WG) (hk : jLnk own idx y) (hy1 : y.name = "<init>")
    (hM : jMet l D ca q0 sa ad y bytes maxL none lvl' mc' ms' (.ref (ad k i) :: av) M (jRet none M')) (hst : st0 = av.reverse ++ .ref (ad k i) :: st) (hn : av.length = n) (hsum : (st.map fun v => v.category).sum ≤ 8) (hR : 6 + lvl' + 1 ≤ R.frames ∧ 8 + (maxL + 11) + (100 + 30 * lvl') ≤ R.locals) (hc : mc' ≤ kc) (hcs : ms' ≤ ks)
    (kk : jW p l e R s m args below meth c D ca q0 ad nL Q (kc - mc') (ks - ms') (pc + 3) ls st M') : jW p l e R s m args below meth c D ca q0 ad nL Q kc ks pc ls st0 M := by
  refine j_backM (Q' := jRet none M') (st := st) (a := (Value.ref (ad k i) :: av).toArray) (fun H locs lsC cells slots h1 h2 h3 hf => ?_) hc hcs (fun v N hq => by cases hq.1; cases hq.2; exact kk)
  subst hst
  exact va_runI (b := ad k i) (As := av) (rest := st) (jCF K) (jMet_met K.2.2.2.2.2.2.2.2.2 hM (fun E N h => nomatch h.1)) ⟨jcallB K hm hk hR, hy1, K.2.2.2.2.1 _ hv⟩ (jPreS K h2 h3) rfl hn h1.1 rfl (lv_room hsum) hd hf
theorem j_cIN (K : jK p l R s m args meth c D ca q0 sa own cc nL ret) {y : MethodName} {bytes : ByteArray} {maxL n idx lvl' mc' ms' k i : Nat} {host : String} {av st0 : List Value} {M' : jM} (hd : decode cc pc = .ok (.invokespecial idx, 3)) (hm : jMeth y bytes maxL none n) (hv : Cond.instanceMethod y ∈ WG) (hk : Cond.methodLinkNest own idx y host ∈ OW) (hy1 : y.name = "<init>")
    (hM : jMet l D ca q0 sa ad y bytes maxL none lvl' mc' ms' (.ref (ad k i) :: av) M (jRet none M')) (hst : st0 = av.reverse ++ .ref (ad k i) :: st) (hn : av.length = n) (hsum : (st.map fun v => v.category).sum ≤ 8) (hR : 6 + lvl' + 1 ≤ R.frames ∧ 8 + (maxL + 11) + (100 + 30 * lvl') ≤ R.locals) (hc : mc' ≤ kc) (hcs : ms' ≤ ks)
    (kk : jW p l e R s m args below meth c D ca q0 ad nL Q (kc - mc') (ks - ms') (pc + 3) ls st M') : jW p l e R s m args below meth c D ca q0 ad nL Q kc ks pc ls st0 M := by
  refine j_backM (Q' := jRet none M') (st := st) (a := (Value.ref (ad k i) :: av).toArray) (fun H locs lsC cells slots h1 h2 h3 hf => ?_) hc hcs (fun v N hq => by cases hq.1; cases hq.2; exact kk)
  subst hst
  exact va_runIN (b := ad k i) (As := av) (rest := st) (jCF K) (jMet_met K.2.2.2.2.2.2.2.2.2 hM (fun E N h => nomatch h.1)) ⟨jNest K hm hk hR, hy1, K.2.2.2.2.1 _ hv⟩ (jPreS K h2 h3) rfl hn h1.1 rfl (lv_room hsum) hd hf
/-- Object() -/
theorem j_objInit (K : jK p l R s m args meth c D ca q0 sa own cc nL ret) {a idx : Nat} (hd : decode cc pc = .ok (.invokespecial idx, 3)) (hk : Cond.methodLink own idx objectInit ∈ WG) (hi : Cond.instanceMethod objectInit ∈ WG) (hcd : Cond.code objectInit ⟨#[0xb1]⟩ 1 none ∈ WG) (hR : 1 ≤ R.frames ∧ 20 ≤ R.locals) (hsum : (st.map fun v => v.category).sum ≤ 8)
    (kk : jW p l e R s m args below meth c D ca q0 ad nL Q kc ks (pc + 3) ls st M) : jW p l e R s m args below meth c D ca q0 ad nL Q kc ks pc ls (.ref a :: st) M :=
  fun H locs lsC cells slots h1 h2 h3 h4 h5 => W.objInit K.1 K.2.1 K.2.2.2.1 (K.2.2.2.2.1 _ hk) (K.2.2.2.2.1 _ hi) (K.2.2.2.2.1 _ hcd) rfl (by rw [K.2.2.1]; exact h1.1) rfl hd hR.1 (by have := hR.2; have h6 := lv_room (m := m) (pc := pc) (ls := lsC) (rest := .ref a :: st) hsum; omega) (kk H locs lsC cells slots h1 h2 h3 h4 h5)
end J
