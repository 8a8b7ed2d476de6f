/-! The law's methods: wrappers with handlers, their contracts and calls; the script; answers beside each other. -/
def wsW (y : MethodName) (cc : ByteArray) (nL : Nat) (ret : Option FieldType) (hh : List (Nat × Nat × Nat × Nat)) : List Cond := Cond.codeWith y cc nL ret hh :: TSg
/-- a contract of a method with handlers -/
def MXW (G : Gm) (l : Launch) (y : MethodName) (cc : ByteArray) (nL : Nat) (ret : Option FieldType) (hh : List (Nat × Nat × Nat × Nat)) (d mc ms : Nat) (args : List Value) (P : List SA) {T : Type} (rv : T → Option Value) (post : T → Prop) (wx : T → List SA) : Prop :=
  ∀ cf c : Sto, WF P cf c → Met l y (wsW y cc nL ret hh) (rmM d mc ms) (va_Pc args (fun U => WH G c U)) (QM G cf rv post wx) mc ms (fun q => G.1.heap.size ≤ q)
theorem MXW_of {G : Gm} {l : Launch} {y : MethodName} {cc : ByteArray} {nL : Nat} {ret : Option FieldType} {hh : List (Nat × Nat × Nat × Nat)} {d mc ms : Nat} {args : List Value} {P : List SA} {T : Type} {rv : T → Option Value} {post : T → Prop} {wx : T → List SA} {lv : List (Option Value)}
    (hK : KG G) (hy : plainName y.cls = true) (hE : entL args ++ List.replicate (nL - (entL args).length) none = lv) (hle : (entL args).length ≤ nL)
    (body : ∀ X : Cx, OKc G X l y.cls y.name cc nL ret d mc ms → FIN G X mc ms rv post wx → X.2.2.2.2.2.2.2.2.2.1.exceptionTable.toList = tableOf hh → WX G X 0 0 P 0 lv []) : MXW G l y cc nL ret hh d mc ms args P rv post wx := by
  intro cf c hwf
  refine MetFree.of_bodyS (code := cc) (maxLocals := nL) (ret := ret) hy ?_ ?_
  · intro args s m h hn
    obtain ⟨m9, meth, c, hn9, h1, h2, h3, h4, -, h5, h6, -⟩ := Cond.codeWith_spec (atoms_spec (ws := wsW y cc nL ret hh) h _ List.mem_cons_self)
    cases hn.symm.trans hn9
    exact ⟨meth, c, h1, h2, h3, h4, h5, h6⟩
  · intro p e s m a below meth c0 s₁ B hml hv _
    obtain ⟨rfl, hvm, hH⟩ := hv
    have hh0 : s₁.heap = s.heap := by rw [B.state]; rfl
    have hts0 := atoms_spec (ws := wsW y cc nL ret hh) B.pre
    have htab := vx_table (x := y) B (hts0 _ List.mem_cons_self)
    have hle' : (lg_sl args).length ≤ nL := by rw [← entL_len]; exact hle
    have hl := lv_entry args hle'
    have hW : W p l e (rmM d mc ms) s m args.toArray below meth c0 s.heap [] 0 0 (MQ below (QM G cf rv post wx) args.toArray s mc ms (fun q => G.1.heap.size ≤ q)) (entryFrame m args.toArray nL) := by
      rw [lg_entry_eq]
      refine body (p, l, e, rmM d mc ms, s, m, args.toArray, below, meth, c0, cf, MQ below (QM G cf rv post wx) args.toArray s mc ms (fun q => G.1.heap.size ≤ q)) ⟨B.exec, rfl, rfl, B.bytes, hml, findClass_of_methodNamed B.named, fun w hw => hts0 w (List.mem_cons_of_mem _ hw), hK, hvm, B.notSynchronized, B.returns, (name_of_methodNamed B.named B.method).1⟩ rfl htab s.heap [] _ c hwf hH (fun _ h => nomatch h) ?_
      refine lx_of hl ?_ (fun i v hi => ?_)
      · rw [← hE, List.length_append, List.length_replicate]
        omega
      · rw [← hE] at hi
        by_cases hlt : i < (entL args).length
        · rw [List.getElem?_append_left hlt] at hi
          simpa using entL_mem args 0 i v hi
        · rw [List.getElem?_append_right (by omega)] at hi
          have := List.eq_of_mem_replicate (List.mem_of_getElem? hi)
          cases this
    obtain ⟨t, a1, o, b1, b2, b3⟩ := hW s₁ hh0 (Stand.of_body B)
    exact ⟨t, o, a1, b1, b2, b3⟩
def CW (y : MethodName) (cc : ByteArray) (nL : Nat) (ret : Option FieldType) (hh : List (Nat × Nat × Nat × Nat)) (n : Nat) : Prop := Cond.codeWith y cc nL ret hh ∈ TSg ∧ Cond.initialized y.cls ∈ TSg ∧ Cond.static y ∈ TSg ∧ nL ≤ 41 ∧ y.cls ≠ "java/lang/invoke/MethodHandle" ∧ y.cls ≠ "java/lang/invoke/VarHandle" ∧ (parseMethodDescriptor y.desc).map (fun d => d.parameters.length) = some n
section Rules
variable {G : Gm} {X : Cx} {l : Launch} {own nm : String} {cc : ByteArray} {nL : Nat} {ret : Option FieldType} {d mc ms : Nat} {k n : Nat} {ws : List SA} {pc pc' pc1 pc2 pc3 pc4 len : Nat} {lv : List (Option Value)} {st : List Value}
variable {T : Type} {rv : T → Option Value} {post : T → Prop} {wx : T → List SA}
theorem x_callSW {idx nL' d' mc' ms' na : Nat} {y' : MethodName} {cc' : ByteArray} {ret' : Option FieldType} {hh : List (Nat × Nat × Nat × Nat)} {As : List Value} {P : List SA} {T' : Type} {rv' : T' → Option Value} {post' : T' → Prop} {wx' : T' → List SA} (R' : List SA) (C : OKc G X l own nm cc nL ret d mc ms) (hM : MXW G l y' cc' nL' ret' hh d' mc' ms' As P rv' post' wx') (V : CW y' cc' nL' ret' hh na) (S : Cond.methodLink own idx y' ∈ TSg) (D : dx cc pc (.invokestatic idx) 3 pc') (hna : As.length = na) (hpk : ∀ cf c, WF ws cf c → WF (P ++ R') cf c) (hL : lv.length = nL) (hroom : (st.map fun v => v.category).sum ≤ 8) (hd : d' + 1 ≤ d) (hk : k + mc' ≤ mc) (hn : n + ms' ≤ ms)
    (K : ∀ x : T', post' x → WX G X (k + mc') (n + ms') (wx' x ++ R') pc' lv ((rv' x).toList ++ st)) : WX G X k n ws pc lv (As.reverse ++ st) := by
  obtain ⟨p, l, e, R, s, m, args, below, meth, c0, cf, Q⟩ := X
  obtain ⟨hx, rfl, rfl, hb, hml, hown, hts, hK, hvm, hlk, hret, hnm⟩ := C
  obtain ⟨D1, rfl⟩ := D
  try dsimp only at hx hb hml hown hts hvm hlk hret hnm
  intro H locs ls c h1 h2 h3 h4
  obtain ⟨cf', hPc, hback⟩ := WF_frame (hpk _ _ h1)
  have hts' : ∀ w ∈ va_wsS own idx y' (wsW y' cc' nL' ret' hh), w ∈ TSg := fun w hw => by
    unfold va_wsS at hw
    simp only [wsW, List.mem_append, List.mem_cons, List.not_mem_nil, or_false] at hw
    rcases hw with h | h | h
    · rcases h with rfl | rfl | rfl
      · exact S
      · exact V.2.2.1
      · exact V.2.1
    · rw [h]; exact V.1
    · exact h
  have hR : (rmM d' mc' ms').frames + 1 ≤ (rmM d mc ms).frames ∧ 8 + (nL' + 11) + (rmM d' mc' ms').locals ≤ (rmM d mc ms).locals := by
    have h5 := V.2.2.2.1
    exact ⟨hd, by show 8 + (nL' + 11) + 60 * d' ≤ 60 * d; omega⟩
  have hbl : FrameBlind (va_Pc As (fun U => WH G c U)) := fun a U g mk q => ⟨q.1, q.2⟩
  have hpre : ∀ U : State, U.heap = H → s.WarmedH U.vm → va_Pc As (fun U => WH G c U) (As).toArray U := fun U hU hW => ⟨rfl, State.WarmedH.trans hvm hW, by rw [hU]; exact h2⟩
  have cb := vx_cwSW (R := rmM d mc ms) (own := own) (index := idx) (ret := ret') (hh := hh) (rm := rmM d' mc' ms') (mc := mc') (ms := ms') (bytes := cc') (maxL := nL') (y := y') (args := args) (ws := wsW y' cc' nL' ret' hh) na hts (TSg_good hts') rfl rfl rfl V.2.2.2.2 hR
  have hrun := vx_runSW (Ts := TSg) (n := na) (rest := st) (cells := k) (slots := n) (locs := locs) (e := e) (below := below) (meth := meth) (g := F0 m pc ls (As.reverse ++ st)) ⟨hx, hb, hml, hown, hts⟩ (hM cf' c hPc) cb ⟨hbl, hpre⟩ rfl hna (h4.1.trans hL) rfl (lv_room hroom) D1 ⟨hk, hn⟩
  intro T0 hT X0
  obtain ⟨v, st₀, t, T', L, g0, X', hLf, e1, e2, ⟨x, hv, hpx, c', hw', hvm', hH'⟩, hgo⟩ := hrun T0 hT X0
  cases hv
  obtain ⟨t2, a1, b1⟩ := K x hpx T'.heap (locs ++ L) ls c' (hback _ _ hw') (by rw [e1]; exact hH') (fun z hz => (List.mem_append.mp hz).elim (h3 z) (hLf z)) h4 T' rfl X'
  exact ⟨t2, hgo t2 a1, b1⟩
/-- a call that throws, caught by a row of this method's table; the rows ahead of it name other classes -/
theorem x_callVC {idx nL' d' mc' ms' na : Nat} {y' : MethodName} {cc' : ByteArray} {ret' : Option FieldType} {b : Nat} {As : List Value} {P P1 : List SA} {E : String} (R' : List SA) (hh : List (Nat × Nat × Nat × Nat)) (i : Nat) {x : Nat × Nat × Nat × Nat} (C : OKc G X l own nm cc nL ret d mc ms) (hM : MT G l y' cc' nL' ret' d' mc' ms' (.ref b :: As) P E P1) (V : CV y' cc' nL' ret' na) {ci : Nat} (Vv : CVv y' ci) (S : Cond.methodLink own idx y' ∈ TSg) (hrecv : ∀ cf c, WF ws cf c → ∃ fs, c b = some (.inr (ci, fs))) (D : dx cc pc (.invokevirtual idx) 3 pc') (hna : As.length = na) (hpk : ∀ cf c, WF ws cf c → WF (P ++ R') cf c) (hL : lv.length = nL) (hroom : (st.map fun v => v.category).sum ≤ 8) (hd : d' + 1 ≤ d) (hk : k + mc' ≤ mc) (hn : n + ms' ≤ ms)
    (htab : X.2.2.2.2.2.2.2.2.2.1.exceptionTable.toList = tableOf hh) (hi : hh[i]? = some x)
    (hsplit : ∃ pre x9 suf, tableOf hh = pre ++ x9 :: suf ∧ x9.handlerPc = x.2.2.1 ∧ x9.catchType = x.2.2.2 ∧ covers x9 pc = true ∧ x9.catchType ≠ 0 ∧ ∀ z ∈ pre, z.catchType ≠ 0 ∧ ∃ nm : String, Cond.classLink own z.catchType nm ∈ TSg ∧ va_Nc E nm G.1)
    (hlink : Cond.classLink own x.2.2.2 E ∈ TSg) (hcast : va_Nw (Cond.castable E E) G.1)
    (K : ∀ q : Nat, WX G X (k + mc') (n + ms') (P1 ++ R') x.2.2.1 lv [.ref q]) : WX G X k n ws pc lv (As.reverse ++ .ref b :: st) := by
  obtain ⟨p, l, e, R, s, m, args, below, meth, c0, cf, Q⟩ := X
  obtain ⟨hx, rfl, rfl, hb, hml, hown, hts, hK, hvm, hlk, hret, hnm⟩ := C
  obtain ⟨D1, rfl⟩ := D
  have hKs := hK.1.moved hvm.alike
  try dsimp only at hx hb hml hown hts hvm hlk hret hnm hKs htab
  intro H locs ls c h1 h2 h3 h4
  obtain ⟨cf', hPc, hback⟩ := WF_frame (hpk _ _ h1)
  have hts' : ∀ w ∈ wsM y' cc' nL' ret', w ∈ TSg := fun w hw => by
    rcases List.mem_cons.mp hw with rfl | hw
    · exact V.1
    · exact hw
  have hR : (rmM d' mc' ms').frames + 1 ≤ (rmM d mc ms).frames ∧ 8 + (nL' + 11) + (rmM d' mc' ms').locals ≤ (rmM d mc ms).locals := by
    have h5 := V.2.2.1
    exact ⟨hd, by show 8 + (nL' + 11) + 60 * d' ≤ 60 * d; omega⟩
  have hbl : FrameBlind (va_Pc (Value.ref b :: As) (fun U => WH G c U)) := fun a U g mk q => ⟨q.1, q.2⟩
  have hpre : ∀ U : State, U.heap = H → s.WarmedH U.vm → va_Pc (Value.ref b :: As) (fun U => WH G c U) ((Value.ref b :: As)).toArray U := fun U hU hW => ⟨rfl, State.WarmedH.trans hvm hW, by rw [hU]; exact h2⟩
  have hrc : ∃ cellB : Cell, H[b]? = some cellB ∧ cellB.vm.isStatics = false ∧ s.vm.findClass y'.cls = some cellB.cls := by
    obtain ⟨fs, hfs⟩ := hrecv _ _ h1
    obtain ⟨T9, N9, hci⟩ := Vv.2.2
    obtain ⟨r9, g1, cell, g2, g3, g4, -⟩ := (h2.2.2 b _ hfs).2
    have : r9 = (y'.cls, T9, N9) := Option.some.inj (g1.symm.trans hci)
    subst this
    exact ⟨cell, g2, by rw [g4]; rfl, by rw [g3]; exact (hKs.1 ci _ hci).2.1⟩
  have cb := callB_of (R := rmM d mc ms) (own := own) (index := idx) (ret := ret') (rm := rmM d' mc' ms') (mc := mc') (ms := ms') na hts (TSg_good hts') rfl rfl rfl (hts _ V.2.1) (hts _ S) V.2.2.2 hR
  have hrun := vx_runV (Ts := TSg) (n := na) (rest := st) (cells := k) (slots := n) (locs := locs) (e := e) (below := below) (meth := meth) (g := F0 m pc ls (As.reverse ++ .ref b :: st)) ⟨hx, hb, hml, hown, hts⟩ (hM cf' c hPc) ⟨cb, hts _ Vv.1, hts _ Vv.2.1⟩ ⟨hbl, hrc, hpre⟩ rfl hna (h4.1.trans hL) rfl (lv_room hroom) D1 ⟨hk, hn⟩
  obtain ⟨pre, x9, suf, hs1, hs2, hs3, hs4, hs5, hs6⟩ := hsplit
  intro T0 hT X0
  rcases hrun T0 hT X0 with ⟨v, st₀, t, T', L, g0, X', hLf, e1, e2, hq, hgo⟩ | ⟨q, st₀, t, T', L, E', ce, g0, X', hLf, e1, e2, ⟨rfl, c', hw', hH'⟩, hce, hcv, hcl, hst⟩
  · exact hq.elim
  · have hW := vx_catch (own := own) (name := E') (E := E') (ce := ce) (q := q) (p := p) (l := l) (e := e) (R := rmM d mc ms) (s := s) (m := m) (args := args) (below := below) (meth := meth) (c := c0) (H := T'.heap) (locs := locs ++ L) (cells := k + mc') (slots := n + ms') (Q := Q) (pc := pc) (ls := ls) (rest := st) hown pre x9 suf (htab.trans hs1)
      (fun z hz => by
        obtain ⟨z0, nm9, z1, z2⟩ := hs6 z hz
        exact Or.inr ⟨z0, nm9, hts _ z1, z2.moved hvm.alike⟩) hs4 hs5 (by rw [hs3]; exact hts _ hlink)
      (va_tabs (u := s.setVm s.vm) (A := #[]) rfl rfl (by
        have h9 : (Cond.castable E' E').before #[] (G.1.setVm s.vm) = true := by rw [Cond.castable_setVm hvm.alike]; exact hcast
        exact va_tabs (u := G.1.setVm s.vm) (A := #[]) rfl rfl h9)) (by rw [e1]; exact hce) hcv hcl
      (by rw [hs2]; exact K q T'.heap (locs ++ L) ls c' (hback _ _ hw') (by rw [e1]; exact hH') (fun z hz => (List.mem_append.mp hz).elim (h3 z) (hLf z)) h4)
    obtain ⟨t2, a1, b1⟩ := hW T' rfl X'
    exact ⟨t2, hst.trans a1, b1⟩
/-- the script's int at i + j -/
theorem x_arg {b L : Nat} {xs : Nat → Int32} {i j : Int} {pc5 : Nat} (C : OKc G X l own nm cc nL ret d mc ms) (hX : va_X b L xs G.1 G.1.heap) (hbl : b < G.1.heap.size) (D0 : dx cc pc (.aload_n 0) 1 pc1) (D1 : dx cc pc1 (.iload 5) 2 pc2) (D2 : dx cc pc2 (.iconst j) 1 pc3) (D3 : dx cc pc3 .iadd 1 pc4) (D4 : dx cc pc4 .iaload 1 pc5) (h0 : lv[0]? = some (some (.ref b))) (h5 : lv[5]? = some (some (.int (zI i)))) (hi : 0 ≤ i + j ∧ i + j < (L : Int)) (hL : L ≤ 3072)
    (K : WX G X k n ws pc5 lv (.int (zI (xs (i + j).toNat).toInt) :: st)) : WX G X k n ws pc lv st := by
  refine x_aload_n C D0 h0 ?_
  refine x_iload C D1 h5 ?_
  refine x_iconst C D2 ?_
  refine x_iadd C D3 ?_
  obtain ⟨p, l, e, R, s, m, args, below, meth, c0, cf, Q⟩ := X
  obtain ⟨hx, rfl, rfl, hb, hml, hown, hts, hK, hvm, hlk, hret, hnm⟩ := C
  obtain ⟨D4, rfl⟩ := D4
  try dsimp only at hx hb hml hown hts hvm hlk hret hnm
  intro H locs ls c h1 h2 h3 h4
  obtain ⟨scr, g1, g2, g3, g4, g5⟩ := hX.moved hvm.alike
  have e9 : (zI (i + j)).toNatClampNeg = (i + j).toNat := zI_nat hi.1 (by omega)
  have hlt : (zI (i + j)).toNatClampNeg < L := by rw [e9]; omega
  refine W.iald (v := .int (xs (zI (i + j)).toNatClampNeg)) hx hb (by rw [h2.2.1 b hbl]; exact g1) g2 g3 (by rw [g4]; exact zI_in hi.1 hi.2 (by omega)) (g5 _ hlt) rfl rfl D4 ?_
  rw [e9, ← zI_of (xs (i + j).toNat)]
  exact K H locs ls c h1 h2 h3 h4
end Rules
