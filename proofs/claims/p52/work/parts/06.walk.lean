/-! The walk of one method over atoms. Cx: what stands still while one invocation is walked. -/
abbrev Cx : Type := Program × Launch × Env × Room × State × MethodId × Array Value × List Frame × Method × Code × Sto × (State → Prop)
def WX (G : Gm) (X : Cx) (k n : Nat) (ws : List SA) (pc : Nat) (lv : List (Option Value)) (st : List Value) : Prop :=
  ∀ (H : Heap) (locs : List Loc) (ls : Array Slot) (c : Sto), WF ws X.2.2.2.2.2.2.2.2.2.2.1 c → HH G c H → (∀ z ∈ locs, G.1.heap.size ≤ z.base) → lx ls lv →
    W X.1 X.2.1 X.2.2.1 X.2.2.2.1 X.2.2.2.2.1 X.2.2.2.2.2.1 X.2.2.2.2.2.2.1 X.2.2.2.2.2.2.2.1 X.2.2.2.2.2.2.2.2.1 X.2.2.2.2.2.2.2.2.2.1 H locs k n X.2.2.2.2.2.2.2.2.2.2.2 (F0 X.2.2.2.2.2.1 pc ls st)
def rmM (d mc ms : Nat) : Room := { frames := d, cells := mc, slots := ms, locals := 30 * d + 130 }
def wsM (y : MethodName) (cc : ByteArray) (nL : Nat) (ret : Option FieldType) : List Cond := Cond.code y cc nL ret :: TSg
def OKc (G : Gm) (X : Cx) (l : Launch) (own : String) (nm : String) (cc : ByteArray) (nL : Nat) (ret : Option FieldType) (d mc ms : Nat) : Prop :=
  X.1.tables.exec = Jvm.exec ∧ X.2.1 = l ∧ X.2.2.2.1 = rmM d mc ms ∧ X.2.2.2.2.2.2.2.2.2.1.code = cc ∧ X.2.2.2.2.2.2.2.2.2.1.maxLocals = nL ∧ X.2.2.2.2.1.vm.findClass own = some X.2.2.2.2.2.1.cls ∧
  (∀ w ∈ TSg, w.before X.2.2.2.2.2.2.1 X.2.2.2.2.1 = true) ∧ KG G ∧ G.1.WarmedH X.2.2.2.2.1.vm ∧ X.2.2.2.2.2.2.2.2.1.locks = false ∧ X.2.2.2.2.2.2.2.2.1.sig.returnType = ret ∧ X.2.2.2.2.2.2.2.2.1.name = nm
/-- a contract's end -/
def QM (G : Gm) (cf : Sto) {T : Type} (rv : T → Option Value) (post : T → Prop) (wx : T → List SA) : Array Value → State → Outcome → State → Prop :=
  fun _ _ o t => ∃ x : T, o = .returned (rv x) ∧ post x ∧ ∃ c' : Sto, WF (wx x) cf c' ∧ WH G c' t
def FIN (G : Gm) (X : Cx) (mc ms : Nat) {T : Type} (rv : T → Option Value) (post : T → Prop) (wx : T → List SA) : Prop :=
  X.2.2.2.2.2.2.2.2.2.2.2 = MQ X.2.2.2.2.2.2.2.1 (QM G X.2.2.2.2.2.2.2.2.2.2.1 rv post wx) X.2.2.2.2.2.2.1 X.2.2.2.2.1 mc ms (fun q => G.1.heap.size ≤ q)
/-- THE CONTRACT of a method: called with these arguments over the atoms P (and whatever else, cf), it returns rv x, with post x, over the atoms wx x, and cf as it was -/
def MX (G : Gm) (l : Launch) (y : MethodName) (cc : ByteArray) (nL : Nat) (ret : Option FieldType) (d mc ms : Nat) (args : List Value) (P : List SA) {T : Type} (rv : T → Option Value) (post : T → Prop) (wx : T → List SA) : Prop :=
  ∀ cf c : Sto, WF P cf c → Met l y (wsM y cc nL ret) (rmM d mc ms) (va_Pc args (fun U => WH G c U)) (QM G cf rv post wx) mc ms (fun q => G.1.heap.size ≤ q)
/-- one answer, one world -/
def MD (G : Gm) (l : Launch) (y : MethodName) (cc : ByteArray) (nL : Nat) (ret : Option FieldType) (d mc ms : Nat) (args : List Value) (P : List SA) (r : Option Value) (P' : List SA) : Prop :=
  MX G l y cc nL ret d mc ms args P (fun _ : Unit => r) (fun _ => True) (fun _ => P')
theorem MX_of {G : Gm} {l : Launch} {y : MethodName} {cc : ByteArray} {nL : Nat} {ret : Option FieldType} {d mc ms : Nat} {args : List Value} {P : List SA} {T : Type} {rv : T → Option Value} {post : T → Prop} {wx : T → List SA} {lv : List (Option Value)}
    (hK : KG G) (hy : plainName y.cls = true) (hE : entL args ++ List.replicate (nL - (entL args).length) none = lv) (hle : (entL args).length ≤ nL)
    (body : ∀ X : Cx, OKc G X l y.cls y.name cc nL ret d mc ms → FIN G X mc ms rv post wx → WX G X 0 0 P 0 lv []) : MX G l y cc nL ret d mc ms args P rv post wx := by
  intro cf c hwf
  refine Met.ofW (cc := cc) (maxL := nL) (ret := ret) hy rfl ?_
  intro p e s m a below meth c0 s₁ B hml hv
  obtain ⟨rfl, hvm, hH⟩ := hv
  have hts0 := atoms_spec (ws := wsM y cc nL ret) B.pre
  have hle' : (lg_sl args).length ≤ nL := by rw [← entL_len]; exact hle
  have hl := lv_entry args hle'
  rw [lg_entry_eq]
  refine body (p, l, e, rmM d mc ms, s, m, args.toArray, below, meth, c0, cf, MQ below (QM G cf rv post wx) args.toArray s mc ms (fun q => G.1.heap.size ≤ q)) ⟨B.exec, rfl, rfl, B.bytes, hml, findClass_of_methodNamed B.named, fun w hw => hts0 w (List.mem_cons_of_mem _ hw), hK, hvm, B.notSynchronized, B.returns, (name_of_methodNamed B.named B.method).1⟩ rfl s.heap [] _ c hwf hH (fun _ h => nomatch h) ?_
  refine lx_of hl ?_ (fun i v hi => ?_)
  · rw [← hE, List.length_append, List.length_replicate]
    omega
  · rw [← hE] at hi
    by_cases hlt : i < (entL args).length
    · rw [List.getElem?_append_left hlt] at hi
      simpa using entL_mem args 0 i v hi
    · rw [List.getElem?_append_right (by omega)] at hi
      have := List.eq_of_mem_replicate (List.mem_of_getElem? hi)
      cases this
/-- the instruction at pc, and the place behind it -/
def dx (cc : ByteArray) (pc : Nat) (i : Instr) (len pc' : Nat) : Prop := decode cc pc = .ok (i, len) ∧ pc + len = pc'
