/-! ===== J: walks over a typed memory. A cell is a place (k, i): its kind k says its shape, i which one of the kind; V holds the ints, Rf the references ===== -/
abbrev jV : Type := Nat → Nat → Nat → Int32
abbrev jR : Type := Nat → Nat → Nat → Option (Nat × Nat)
abbrev jLv : Type := Nat → Nat → Bool
abbrev jM : Type := Nat × jLv × jV × jR
abbrev jAd : Type := Nat → Nat → Nat
/-- the shape of a kind: (0, class), (1, length) an int array, (2, length) a boolean array, (3, length) an array of piers, (4, length) a long array -/
def shp : Nat → Nat × Nat := fun k => match k with
  | 0 => (0, 5) | 1 => (3, 6) | 2 => (1, 6) | 3 => (1, 6) | 4 => (0, 4) | 5 => (1, 12)
  | 6 => (0, 3) | 7 => (1, 4) | 8 => (1, 4) | 9 => (2, 4)
  | 10 => (0, 1) | 11 => (0, 2) | 12 => (1, 6) | 13 => (1, 6) | 14 => (1, 6) | 15 => (0, 0) | 16 => (1, 4) | 17 => (1, 4)
  | 20 => (0, 6)
  | 24 => (1, 6) | 25 => (1, 6) | 26 => (1, 6) | 27 => (1, 6) | 28 => (1, 6) | 29 => (1, 6) | 30 => (1, 6)
  | 31 => (1, 36) | 32 => (1, 36) | 33 => (1, 36) | 34 => (1, 2) | 35 => (1, 24) | 39 => (1, 6) | 42 => (1, 6) | 43 => (1, 6) | 44 => (1, 6)
  | 45 => (1, 24) | 46 => (1, 24) | 47 => (1, 24) | 48 => (1, 24) | 49 => (1, 24) | 51 => (1, 4) | 52 => (1, 4)
  | 60 => (4, 1)
  | _ => (1, 0)
/-- a class by its number: how many fields, which are references -/
def jN : Nat → Nat := fun c => match c with
  | 0 => 5 | 1 => 7 | 2 => 5 | 3 => 4 | 4 => 3 | 5 => 11 | _ => 32
def jT : Nat → u_T := fun c => match c with
  | 0 => TX0 | 1 => TX1 | 2 => TX2 | 3 => TX3 | 4 => TX4 | 5 => TX5 | _ => TX6
def jC : Nat → String := fun c => match c with
  | 0 => RX0 | 1 => RX1 | 2 => RX2 | 3 => RX3 | 4 => RX4 | 5 => RX5 | _ => RX6
def jTy : Nat → Nat → FieldType := fun c => match c with
  | 0 => tyX0 | 1 => tyX1 | 2 => tyX2 | 3 => tyX3 | 4 => tyX4 | 5 => tyX5 | _ => tyX6
def jIr : Nat → Nat → Bool := fun c j => match c, j with
  | 0, 0 => true | 0, 1 => true | 0, 2 => true
  | 1, 5 => true | 1, 6 => true
  | 2, 0 => true | 2, 1 => true | 2, 2 => true | 2, 4 => true
  | 3, 0 => true | 3, 1 => true | 3, 2 => true
  | 4, 0 => true
  | 5, 0 => true | 5, 2 => true | 5, 3 => true | 5, 4 => true | 5, 5 => true | 5, 6 => true
  | 6, j => (3 ≤ j && j ≤ 14) || j == 18 || (21 ≤ j && j ≤ 28) || j == 30 || j == 31
  | _, _ => false
def jrv (ad : jAd) (r : Option (Nat × Nat)) : Value := match r with
  | some q => .ref (ad q.1 q.2)
  | none => .null
/-- what the field j of the object at (k, i) holds -/
def jfv (ad : jAd) (M : jM) (c k i j : Nat) : Value := if jIr c j = true then jrv ad (M.2.2.2 k i j) else .int (M.2.2.1 k i j)
def jcell (ca : Nat → ClassId) (ad : jAd) (M : jM) (k i : Nat) : va_E := match (shp k).1 with
  | 0 => .inr ((shp k).2, (List.range (jN (shp k).2)).map (fun j => jfv ad M (shp k).2 k i j))
  | 1 => .inl (ca 0, (shp k).2, .inl (fun j => M.2.2.1 k i j))
  | 2 => .inl (ca 1, (shp k).2, .inl (fun j => M.2.2.1 k i j))
  | 3 => .inl (ca 3, (shp k).2, .inr (.inr (.inr (.inr (fun j => (M.2.2.2 k i j).map (fun q => ad q.1 q.2))))))
  | _ => .inl (ca 2, (shp k).2, .inr (.inl (fun j => (M.2.2.1 k i j).toInt64)))
abbrev jTys (ca : Nat → ClassId) : List (ClassId × FieldType) := [(ca 0, .int), (ca 1, .boolean), (ca 2, .long), (ca 3, .object RX1)]
/-- the memory M lies in the heap H, at the addresses ad, all of them new since the law's start -/
def jRep (D : va_G) (ca : Nat → ClassId) (q0 : Nat) (ad : jAd) (M : jM) (H : Heap) : Prop :=
  M.1 = H.size ∧ (∀ k i, M.2.1 k i = true → q0 ≤ ad k i ∧ va_at D vwCl (ad k i, jcell ca ad M k i) H) ∧
  ∀ k i k' i', M.2.1 k i = true → M.2.1 k' i' = true → ad k i = ad k' i' → k = k' ∧ i = i'
/-- the strings that are thrown with: entry, text -/
def jStr : List (Nat × String) := [(253, "a parameter is out of range"), (61, "there are 6 piers"), (262, "no such pier"), (273, "no such water"), (259, "no such fisherman"), (150, "no such place"), (267, "no such report"), (169, "there are 12 tins of this colour"), (177, "no tin"), (188, "an order for the pier is waiting"), (193, "no order for the pier is waiting"), (205, "there is no job"), (210, "no line is blotted or faded"), (220, "the paint cannot be taken"), (269, "no such line"), (271, "the line is blank")]
/-- what a method's start knows of the machine: classes, statics of Throwable, strings, links to nest mates -/
def jE (D : va_G) (ca : Nat → ClassId) (q0 : Nat) (sa : Nat → Nat) (U : State) (H : Heap) : Prop :=
  va_K D vwCl (jTys ca) U ∧ vx_Zq Bundle.tN "UNASSIGNED_STACK" Bundle.steD (fun q => q0 ≤ q) U H ∧ vx_Zq Bundle.tN "SUPPRESSED_SENTINEL" Bundle.listD (fun q => q0 ≤ q) U H ∧
  (∀ q ∈ jStr, vk_R RX5 q.1 q.2 (sa q.1) U) ∧ (∀ w ∈ OW, va_Nw w U) ∧ va_AO RX1 U
def jL (lsC : Array Slot) (nL : Nat) (ls : List (Option Value)) : Prop := lsC.size = nL ∧ lv_wf lsC ∧ ∀ (i : Nat) (v : Value), ls[i]? = some (some v) → lsC[i]? = some (Slot.val v) ∧ v.category = 1
/-- what stands fast in a method's body -/
def jK (p : Program) (l : Launch) (R : Room) (s : State) (m : MethodId) (args : Array Value) (meth : Method) (c : Code) (D : va_G) (ca : Nat → ClassId) (q0 : Nat) (sa : Nat → Nat) (own : String) (cc : ByteArray) (nL : Nat) (ret : Option FieldType) : Prop :=
  p.tables.exec = Jvm.exec ∧ c.code = cc ∧ c.maxLocals = nL ∧ s.vm.findClass own = some m.cls ∧ (∀ w ∈ WG, w.before args s = true) ∧ meth.locks = false ∧ jE D ca q0 sa s s.heap ∧ q0 ≤ s.heap.size ∧ meth.sig.returnType = ret ∧ l.stackTraces = false
def jW (p : Program) (l : Launch) (e : Env) (R : Room) (s : State) (m : MethodId) (args : Array Value) (below : List Frame) (meth : Method) (c : Code) (D : va_G) (ca : Nat → ClassId) (q0 : Nat) (ad : jAd) (nL : Nat) (Q : State → Prop) (kc ks : Nat) (pc : Nat) (ls : List (Option Value)) (st : List Value) (M : jM) : Prop :=
  ∀ (H : Heap) (locs : List Loc) (lsC : Array Slot) (cells slots : Nat), jL lsC nL ls → jRep D ca q0 ad M H → va_S (fun q => q0 ≤ q) s.heap H locs → cells + kc ≤ R.cells → slots + ks ≤ R.slots →
    W p l e R s m args below meth c H locs cells slots Q (F0 m pc lsC st)
/-- the same frame with an exception of class E thrown over it -/
def jWx (p : Program) (l : Launch) (e : Env) (R : Room) (s : State) (m : MethodId) (args : Array Value) (below : List Frame) (meth : Method) (c : Code) (D : va_G) (ca : Nat → ClassId) (q0 : Nat) (ad : jAd) (nL : Nat) (Q : State → Prop) (kc ks : Nat) (pc : Nat) (ls : List (Option Value)) (E : String) (M : jM) : Prop :=
  ∀ (H : Heap) (locs : List Loc) (lsC : Array Slot) (cells slots : Nat) (q : Addr) (ce : Cell) (rest : List Value), jL lsC nL ls → jRep D ca q0 ad M H → va_S (fun q => q0 ≤ q) s.heap H locs → cells + kc ≤ R.cells → slots + ks ≤ R.slots →
    H[q]? = some ce → ce.vm = .none → s.vm.findClass E = some ce.cls → vx_W p l e R s m args below meth c H locs cells slots Q (F0 m pc lsC rest) q
abbrev jO : Type := Option Value ⊕ String
def jQc (D : va_G) (ca : Nat → ClassId) (q0 : Nat) (ad : jAd) (Q : jO → jM → Prop) : Array Value → State → Outcome → State → Prop := fun _ st o t =>
  ∃ (v : Option Value) (M : jM), o = .returned v ∧ Q (.inl v) M ∧ jRep D ca q0 ad M t.heap ∧ va_F (fun q => q0 ≤ q) st t
def jXc (D : va_G) (ca : Nat → ClassId) (q0 : Nat) (ad : jAd) (Q : jO → jM → Prop) : String → State → State → Prop := fun E st t =>
  ∃ M : jM, Q (.inr E) M ∧ jRep D ca q0 ad M t.heap ∧ va_F (fun q => q0 ≤ q) st t
abbrev jRm (lvl mc ms : Nat) : Room := { frames := 6 + lvl, cells := mc, slots := ms, locals := 100 + 30 * lvl }
/-- a method's contract: from the memory M with these arguments it returns or throws so that Q holds -/
def jMet (l : Launch) (D : va_G) (ca : Nat → ClassId) (q0 : Nat) (sa : Nat → Nat) (ad : jAd) (y : MethodName) (bytes : ByteArray) (maxL : Nat) (ret : Option FieldType) (lvl mc ms : Nat) (av : List Value) (M : jM) (Q : jO → jM → Prop) : Prop :=
  l.stackTraces = false → vx_Met l y (Cond.code y bytes maxL ret :: WG) (jRm lvl mc ms) (va_Pc av (fun U => jE D ca q0 sa U U.heap ∧ q0 ≤ U.heap.size ∧ jRep D ca q0 ad M U.heap)) (jQc D ca q0 ad Q) (jXc D ca q0 ad Q) mc ms (fun q => q0 ≤ q)
/-- the end that a body owes -/
abbrev jZ (below : List Frame) (args : Array Value) (s : State) (D : va_G) (ca : Nat → ClassId) (q0 : Nat) (ad : jAd) (mc ms : Nat) (Q : jO → jM → Prop) : State → Prop := vx_MQ below (jQc D ca q0 ad Q) (jXc D ca q0 ad Q) args s mc ms (fun q => q0 ≤ q)
