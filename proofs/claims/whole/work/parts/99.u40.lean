/-! Throws: the words of the exceptions, the ends of methods that throw, calls of them. -/
def XWD : List Cond := [Cond.castable "java/lang/IndexOutOfBoundsException" "java/lang/IndexOutOfBoundsException", Cond.castable "java/lang/IllegalArgumentException" "java/lang/IllegalArgumentException", Cond.castable "java/lang/IllegalStateException" "java/lang/IllegalStateException", Cond.castable "java/util/NoSuchElementException" "java/util/NoSuchElementException", Cond.declares ⟨"java/lang/RuntimeException", "<init>", "(Ljava/lang/String;)V"⟩, Cond.declares ⟨"java/lang/Exception", "<init>", "(Ljava/lang/String;)V"⟩, Cond.declares ⟨"java/lang/Throwable", "<init>", "(Ljava/lang/String;)V"⟩]
def XLIT : List (Nat × String) := [(54, "the input buffer is full"), (68, "no such length"), (98, "no such property"), (311, "no such line"), (148, "no such number of a line"), (317, "no such count"), (189, "no such byte"), (205, "no such entry"), (207, "no such number of an entry"), (315, "out of range"), (319, "both lines are the same"), (313, "no such slot"), (278, "nothing is kept there"), (283, "there is nothing to undo")]
def NM2 : List String := ["java/lang/RuntimeException", "java/lang/Exception"]
/-- what is given, and what throwing needs of the start: Throwable's two statics, words that no call changes, the texts -/
def KX (G : Gm) : Prop := KS G ∧ vx_Zq Bundle.tN "UNASSIGNED_STACK" Bundle.steD (old G) G.1 G.1.heap ∧ vx_Zq Bundle.tN "SUPPRESSED_SENTINEL" Bundle.listD (old G) G.1 G.1.heap ∧ (∀ w ∈ XWD, va_Nw w G.1) ∧ ∀ x ∈ XLIT, ∃ sa, vk_R RX7 x.1 x.2 sa G.1
/-- one of the exceptions: it can be made and thrown -/
def TE (cls : String) (ik ic : Nat) : Prop := Bundle.fit cls = true ∧ Cond.classLink RX7 ik cls ∈ TSg ∧ Cond.initialized cls ∈ TSg ∧ ∀ w ∈ vx_atS RX7 ic cls NM2, w ∈ TSg ∨ w ∈ XWD
theorem te_of {ic : Nat} {cls : String} (h : ∀ w ∈ Bundle.ownAtoms RX7 ic cls NM2, vx_no w = true → (w ∈ TSg ∨ w ∈ XWD)) : ∀ w ∈ vx_atS RX7 ic cls NM2, w ∈ TSg ∨ w ∈ XWD := fun w hw => h w (List.mem_filter.mp hw).1 (List.mem_filter.mp hw).2
theorem xwd_tab : ∀ w ∈ XWD, w.onTables = true := by decide
theorem xwd_warm {s U : State} {args : Array Value} (hW : s.WarmedH U.vm) {w : Cond} (hw : w ∈ XWD) (h : va_Nw w s) : w.before args U = true := by
  refine va_tabs (u := s.setVm U.vm) (A := #[]) (xwd_tab w hw) rfl ?_
  simp only [XWD, List.mem_cons, List.not_mem_nil, or_false] at hw
  rcases hw with rfl | rfl | rfl | rfl | rfl | rfl | rfl
  · rw [Cond.castable_setVm hW.alike]; exact h
  · rw [Cond.castable_setVm hW.alike]; exact h
  · rw [Cond.castable_setVm hW.alike]; exact h
  · rw [Cond.castable_setVm hW.alike]; exact h
  · rw [Cond.declares_setVm hW.alike]; exact h
  · rw [Cond.declares_setVm hW.alike]; exact h
  · rw [Cond.declares_setVm hW.alike]; exact h
/-- a contract's end by a throw -/
def XT (G : Gm) (cf : Sto) (E : String) (P' : List SA) : String → State → State → Prop := fun E' _ t => E' = E ∧ ∃ c' : Sto, WF P' cf c' ∧ HH G c' t.heap
def FINX (G : Gm) (X : Cx) (mc ms : Nat) (E : String) (P' : List SA) : Prop :=
  X.2.2.2.2.2.2.2.2.2.2.2 = vx_MQ X.2.2.2.2.2.2.2.1 (fun _ _ _ _ => False) (XT G X.2.2.2.2.2.2.2.2.2.2.1 E P') X.2.2.2.2.2.2.1 X.2.2.2.2.1 mc ms (fun q => G.1.heap.size ≤ q) ∧
  (∃ c, HH G c X.2.2.2.2.1.heap) ∧ ∀ x ∈ X.2.2.2.2.2.2.2.2.2.1.exceptionTable.toList, False
/-- THE CONTRACT of a path that throws: called with these arguments over the atoms P, the method throws an E, and the atoms P' are left -/
def MT (G : Gm) (l : Launch) (y : MethodName) (cc : ByteArray) (nL : Nat) (ret : Option FieldType) (d mc ms : Nat) (args : List Value) (P : List SA) (E : String) (P' : List SA) : Prop :=
  ∀ cf c : Sto, WF P cf c → vx_Met l y (wsM y cc nL ret) (rmM d mc ms) (va_Pc args (fun U => WH G c U)) (fun _ _ _ _ => False) (XT G cf E P') mc ms (fun q => G.1.heap.size ≤ q)
theorem MT_of {G : Gm} {l : Launch} {y : MethodName} {cc : ByteArray} {nL : Nat} {ret : Option FieldType} {d mc ms : Nat} {args : List Value} {P : List SA} {E : String} {P' : List SA} {lv : List (Option Value)}
    (hK : KG G) (hy : plainName y.cls = true) (hE : entL args ++ List.replicate (nL - (entL args).length) none = lv) (hle : (entL args).length ≤ nL)
    (body : ∀ X : Cx, OKc G X l y.cls y.name cc nL ret d mc ms → FINX G X mc ms E P' → WX G X 0 0 P 0 lv []) : MT G l y cc nL ret d mc ms args P E P' := by
  intro cf c hwf
  refine vx_ofW (cc := cc) (maxL := nL) (ret := ret) hy rfl ?_
  intro p e s m a below meth c0 s₁ B hml htab hv
  obtain ⟨rfl, hvm, hH⟩ := hv
  have hts0 := atoms_spec (ws := wsM y cc nL ret) B.pre
  have hle' : (lg_sl args).length ≤ nL := by rw [← entL_len]; exact hle
  have hl := lv_entry args hle'
  rw [lg_entry_eq]
  refine body (p, l, e, rmM d mc ms, s, m, args.toArray, below, meth, c0, cf, vx_MQ below (fun _ _ _ _ => False) (XT G cf E P') args.toArray s mc ms (fun q => G.1.heap.size ≤ q)) ⟨B.exec, rfl, rfl, B.bytes, hml, findClass_of_methodNamed B.named, fun w hw => hts0 w (List.mem_cons_of_mem _ hw), hK, hvm, B.notSynchronized, B.returns, (name_of_methodNamed B.named B.method).1⟩ ⟨rfl, ⟨c, hH⟩, htab⟩ s.heap [] _ c hwf hH (fun _ h => nomatch h) ?_
  refine lx_of hl ?_ (fun i v hi => ?_)
  · rw [← hE, List.length_append, List.length_replicate]
    omega
  · rw [← hE] at hi
    by_cases hlt : i < (entL args).length
    · rw [List.getElem?_append_left hlt] at hi
      simpa using entL_mem args 0 i v hi
    · rw [List.getElem?_append_right (by omega)] at hi
      have := List.eq_of_mem_replicate (List.mem_of_getElem? hi)
      cases this
section Rules
variable {G : Gm} {X : Cx} {l : Launch} {nm own : String} {cc : ByteArray} {nL : Nat} {ret : Option FieldType} {d mc ms : Nat} {k n : Nat} {ws P' : List SA} {pc p1 p2 p3 p4 p5 pc' : Nat} {lv : List (Option Value)} {st : List Value} {E : String}
theorem x_throwS {ik is ic : Nat} {text : String} (hX : KX G) (hl : l.stackTraces = false) (C : OKc G X l RX7 nm cc nL ret d mc ms) (F : FINX G X mc ms E P') (D0 : dx cc pc (.new ik) 3 p1) (D1 : dx cc p1 .dup 1 p2) (D2 : dx cc p2 (.ldc is) 2 p3) (D3 : dx cc p3 (.invokespecial ic) 3 p4) (D4 : dx cc p4 .athrow 1 p5)
    (hT : TE E ik ic) (hs : (is, text) ∈ XLIT) (hL : lv.length = nL) (hroom : (st.map fun v => v.category).sum ≤ 8) (hd : 6 ≤ d) (hk : k + 1 ≤ mc) (hn : n + 6 ≤ ms) (hw : ∀ cf c, WF ws cf c → WF P' cf c) : WX G X k n ws pc lv st := by
  obtain ⟨p, l, e, R, s, m, args, below, meth, c0, cf, Q⟩ := X
  obtain ⟨hx, rfl, rfl, hb, hml, hown, hts, hK, hvm, hlk, hret, hnm⟩ := C
  obtain ⟨D0, rfl⟩ := D0
  obtain ⟨D1, rfl⟩ := D1
  obtain ⟨D2, rfl⟩ := D2
  obtain ⟨D3, rfl⟩ := D3
  obtain ⟨D4, rfl⟩ := D4
  obtain ⟨F, ⟨c9, hc9⟩, htab⟩ := F
  try dsimp only at hx hb hml hown hts hvm hlk hret hnm F hc9 htab
  subst F
  intro H locs ls c h1 h2 h3 h4
  obtain ⟨hfit, hcl, hini, hat⟩ := hT
  obtain ⟨-, hU, hN, hW, hlit⟩ := hX
  obtain ⟨sa, hsa⟩ := hlit _ hs
  have hat' : ∀ w ∈ vx_atS RX7 ic E NM2, w.before args s = true := fun w hw => (hat w hw).elim (hts w) (fun h => xwd_warm hvm h (hW w h))
  have hgood : ∀ w ∈ Cond.classLink RX7 ik E :: Cond.initialized E :: vx_atS RX7 ic E NM2, vx_ot w = true := by
    intro w hw
    have g : ∀ w : Cond, w ∈ TSg → vx_ot w = true := fun w h => by unfold vx_ot; rw [(List.mem_filter.mp h).2, Bool.or_true]
    rcases List.mem_cons.mp hw with rfl | hw
    · exact g _ hcl
    · rcases List.mem_cons.mp hw with rfl | hw
      · exact g _ hini
      · rcases hat w hw with h | h
        · exact g _ h
        · unfold vx_ot; rw [xwd_tab w h, Bool.true_or]
  intro T0 hT0 X0
  have hsz : s.heap.size ≤ H.size := by rw [← hT0]; exact X0.same.2.1
  have hVS : va_S (old G) s.heap H locs := ⟨hsz, fun q _ hA => by
    have hq : q < G.1.heap.size := Nat.not_le.mp hA
    rw [h2.2.1 q hq, hc9.2.1 q hq], h3⟩
  exact vx_throwS (R := rmM d mc ms) (text := text) (names := NM2) (A := old G) (sa := sa) hx hb hl hown hfit (by decide +kernel) (hts _ hcl) (hts _ hini) (hsa.warm hvm) hat' hgood ((hU.moved hvm.alike).kept hc9.old) ((hN.moved hvm.alike).kept hc9.old) hVS (by rw [h4.1, hml, hL]) D0 D1 D2 D3 D4 (fun x hx => (htab x hx).elim) (show 2 + 3 < d by omega) (show _ ≤ 60 * d by show _ + (13 * (2 + 1) + 43) ≤ 60 * d; omega) hk hn hlk (fun t _ hz ho => ⟨rfl, c, hw _ _ h1, HH_more h2 hz ho⟩) h3 hk hn T0 hT0 X0
theorem x_throwSW {ik is ic : Nat} {text : String} (hX : KX G) (hl : l.stackTraces = false) (C : OKc G X l RX7 nm cc nL ret d mc ms) (F : FINX G X mc ms E P') (D0 : dx cc pc (.new ik) 3 p1) (D1 : dx cc p1 .dup 1 p2) (D2 : dx cc p2 (.ldc_w is) 3 p3) (D3 : dx cc p3 (.invokespecial ic) 3 p4) (D4 : dx cc p4 .athrow 1 p5)
    (hT : TE E ik ic) (hs : (is, text) ∈ XLIT) (hL : lv.length = nL) (hroom : (st.map fun v => v.category).sum ≤ 8) (hd : 6 ≤ d) (hk : k + 1 ≤ mc) (hn : n + 6 ≤ ms) (hw : ∀ cf c, WF ws cf c → WF P' cf c) : WX G X k n ws pc lv st := by
  obtain ⟨p, l, e, R, s, m, args, below, meth, c0, cf, Q⟩ := X
  obtain ⟨hx, rfl, rfl, hb, hml, hown, hts, hK, hvm, hlk, hret, hnm⟩ := C
  obtain ⟨D0, rfl⟩ := D0
  obtain ⟨D1, rfl⟩ := D1
  obtain ⟨D2, rfl⟩ := D2
  obtain ⟨D3, rfl⟩ := D3
  obtain ⟨D4, rfl⟩ := D4
  obtain ⟨F, ⟨c9, hc9⟩, htab⟩ := F
  try dsimp only at hx hb hml hown hts hvm hlk hret hnm F hc9 htab
  subst F
  intro H locs ls c h1 h2 h3 h4
  obtain ⟨hfit, hcl, hini, hat⟩ := hT
  obtain ⟨-, hU, hN, hW, hlit⟩ := hX
  obtain ⟨sa, hsa⟩ := hlit _ hs
  have hat' : ∀ w ∈ vx_atS RX7 ic E NM2, w.before args s = true := fun w hw => (hat w hw).elim (hts w) (fun h => xwd_warm hvm h (hW w h))
  have hgood : ∀ w ∈ Cond.classLink RX7 ik E :: Cond.initialized E :: vx_atS RX7 ic E NM2, vx_ot w = true := by
    intro w hw
    have g : ∀ w : Cond, w ∈ TSg → vx_ot w = true := fun w h => by unfold vx_ot; rw [(List.mem_filter.mp h).2, Bool.or_true]
    rcases List.mem_cons.mp hw with rfl | hw
    · exact g _ hcl
    · rcases List.mem_cons.mp hw with rfl | hw
      · exact g _ hini
      · rcases hat w hw with h | h
        · exact g _ h
        · unfold vx_ot; rw [xwd_tab w h, Bool.true_or]
  intro T0 hT0 X0
  have hsz : s.heap.size ≤ H.size := by rw [← hT0]; exact X0.same.2.1
  have hVS : va_S (old G) s.heap H locs := ⟨hsz, fun q _ hA => by
    have hq : q < G.1.heap.size := Nat.not_le.mp hA
    rw [h2.2.1 q hq, hc9.2.1 q hq], h3⟩
  exact vx_throwSW (R := rmM d mc ms) (text := text) (names := NM2) (A := old G) (sa := sa) hx hb hl hown hfit (by decide +kernel) (hts _ hcl) (hts _ hini) (hsa.warm hvm) hat' hgood ((hU.moved hvm.alike).kept hc9.old) ((hN.moved hvm.alike).kept hc9.old) hVS (by rw [h4.1, hml, hL]) D0 D1 D2 D3 D4 (fun x hx => (htab x hx).elim) (show 2 + 3 < d by omega) (show _ ≤ 60 * d by show _ + (13 * (2 + 1) + 43) ≤ 60 * d; omega) hk hn hlk (fun t _ hz ho => ⟨rfl, c, hw _ _ h1, HH_more h2 hz ho⟩) h3 hk hn T0 hT0 X0
theorem x_callVX {idx nL' d' mc' ms' na : Nat} {y' : MethodName} {cc' : ByteArray} {ret' : Option FieldType} {b : Nat} {As : List Value} {P P1 : List SA} (R' : List SA) (C : OKc G X l own nm cc nL ret d mc ms) (hM : MT G l y' cc' nL' ret' d' mc' ms' (.ref b :: As) P E P1) (V : CV y' cc' nL' ret' na) {ci : Nat} (Vv : CVv y' ci) (S : Cond.methodLink own idx y' ∈ TSg) (hrecv : ∀ cf c, WF ws cf c → ∃ fs, c b = some (.inr (ci, fs))) (D : dx cc pc (.invokevirtual idx) 3 pc') (hna : As.length = na) (hpk : ∀ cf c, WF ws cf c → WF (P ++ R') cf c) (hL : lv.length = nL) (hroom : (st.map fun v => v.category).sum ≤ 8) (hd : d' + 1 ≤ d) (hk : k + mc' ≤ mc) (hn : n + ms' ≤ ms)
    (F : FINX G X mc ms E P') (hw : ∀ cf c, WF (P1 ++ R') cf c → WF P' cf c) : WX G X k n ws pc lv (As.reverse ++ .ref b :: st) := by
  obtain ⟨p, l, e, R, s, m, args, below, meth, c0, cf, Q⟩ := X
  obtain ⟨hx, rfl, rfl, hb, hml, hown, hts, hK, hvm, hlk, hret, hnm⟩ := C
  obtain ⟨D1, rfl⟩ := D
  obtain ⟨F, -, htab⟩ := F
  have hKs := hK.1.moved hvm.alike
  try dsimp only at hx hb hml hown hts hvm hlk hret hnm hKs F htab
  subst F
  intro H locs ls c h1 h2 h3 h4
  obtain ⟨cf', hPc, hback⟩ := WF_frame (hpk _ _ h1)
  have hts' : ∀ w ∈ wsM y' cc' nL' ret', w ∈ TSg := fun w hw => by
    rcases List.mem_cons.mp hw with rfl | hw
    · exact V.1
    · exact hw
  have hR : (rmM d' mc' ms').frames + 1 ≤ (rmM d mc ms).frames ∧ 8 + (nL' + 11) + (rmM d' mc' ms').locals ≤ (rmM d mc ms).locals := by
    have h5 := V.2.2.1
    exact ⟨hd, by show 8 + (nL' + 11) + 60 * d' ≤ 60 * d; omega⟩
  have hbl : FrameBlind (va_Pc (Value.ref b :: As) (fun U => WH G c U)) := fun a U g mk q => ⟨q.1, q.2⟩
  have hpre : ∀ U : State, U.heap = H → s.WarmedH U.vm → va_Pc (Value.ref b :: As) (fun U => WH G c U) ((Value.ref b :: As)).toArray U := fun U hU hW => ⟨rfl, State.WarmedH.trans hvm hW, by rw [hU]; exact h2⟩
  have hrc : ∃ cellB : Cell, H[b]? = some cellB ∧ cellB.vm.isStatics = false ∧ s.vm.findClass y'.cls = some cellB.cls := by
    obtain ⟨fs, hfs⟩ := hrecv _ _ h1
    obtain ⟨T9, N9, hci⟩ := Vv.2.2
    obtain ⟨r9, g1, cell, g2, g3, g4, -⟩ := (h2.2.2 b _ hfs).2
    have : r9 = (y'.cls, T9, N9) := Option.some.inj (g1.symm.trans hci)
    subst this
    exact ⟨cell, g2, by rw [g4]; rfl, by rw [g3]; exact (hKs.1 ci _ hci).2.1⟩
  have cb := callB_of (R := rmM d mc ms) (own := own) (index := idx) (ret := ret') (rm := rmM d' mc' ms') (mc := mc') (ms := ms') na hts (TSg_good hts') rfl rfl rfl (hts _ V.2.1) (hts _ S) V.2.2.2 hR
  have hrun := vx_runV (Ts := TSg) (n := na) (rest := st) (cells := k) (slots := n) (locs := locs) (e := e) (below := below) (meth := meth) (g := F0 m pc ls (As.reverse ++ .ref b :: st)) ⟨hx, hb, hml, hown, hts⟩ (hM cf' c hPc) ⟨cb, hts _ Vv.1, hts _ Vv.2.1⟩ ⟨hbl, hrc, hpre⟩ rfl hna (h4.1.trans hL) rfl (lv_room hroom) D1 ⟨hk, hn⟩
  intro T0 hT X0
  rcases hrun T0 hT X0 with ⟨v, st₀, t, T', L, g0, X', hLf, e1, e2, hq, hgo⟩ | ⟨q, st₀, t, T', L, E', ce, g0, X', hLf, e1, e2, ⟨rfl, c', hw', hH'⟩, hce, hcv, hcl, hst⟩
  · exact hq.elim
  · have hW := vx_out (Qc := fun _ _ _ _ => False) (XC := XT G cf E' P') (free := fun q => G.1.heap.size ≤ q) (args := args) (mc := mc) (ms := ms) (pc := pc) (rest := st) (ls := ls) (H := T'.heap) (locs := locs ++ L) (cells := k + mc') (slots := n + ms') (p := p) (e := e) (l := l) (m := m) (below := below) (meth := meth) (c := c0) (s := s) (R := rmM d mc ms) (q := q) (E := E') (ce := ce) (fun x hx => (htab x hx).elim) hlk (by rw [e1]; exact hce) hcv hcl (fun t9 ht9 _ => ⟨rfl, c', hw _ _ (hback _ _ hw'), by rw [ht9, e1]; exact hH'⟩) (fun z hz => (List.mem_append.mp hz).elim (h3 z) (hLf z)) hk hn
    obtain ⟨t2, a1, b1⟩ := hW T' rfl X'
    exact ⟨t2, hst.trans a1, b1⟩

theorem x_callSX {idx nL' d' mc' ms' na : Nat} {y' : MethodName} {cc' : ByteArray} {ret' : Option FieldType}  {As : List Value} {P P1 : List SA} (R' : List SA) (C : OKc G X l own nm cc nL ret d mc ms) (hM : MT G l y' cc' nL' ret' d' mc' ms' As P E P1) (V : CV y' cc' nL' ret' na) (Vs : Cond.static y' ∈ TSg) (S : Cond.methodLink own idx y' ∈ TSg) (D : dx cc pc (.invokestatic idx) 3 pc') (hna : As.length = na) (hpk : ∀ cf c, WF ws cf c → WF (P ++ R') cf c) (hL : lv.length = nL) (hroom : (st.map fun v => v.category).sum ≤ 8) (hd : d' + 1 ≤ d) (hk : k + mc' ≤ mc) (hn : n + ms' ≤ ms)
    (F : FINX G X mc ms E P') (hw : ∀ cf c, WF (P1 ++ R') cf c → WF P' cf c) : WX G X k n ws pc lv (As.reverse ++ st) := by
  obtain ⟨p, l, e, R, s, m, args, below, meth, c0, cf, Q⟩ := X
  obtain ⟨hx, rfl, rfl, hb, hml, hown, hts, hK, hvm, hlk, hret, hnm⟩ := C
  obtain ⟨D1, rfl⟩ := D
  obtain ⟨F, -, htab⟩ := F
  have hKs := hK.1.moved hvm.alike
  try dsimp only at hx hb hml hown hts hvm hlk hret hnm hKs F htab
  subst F
  intro H locs ls c h1 h2 h3 h4
  obtain ⟨cf', hPc, hback⟩ := WF_frame (hpk _ _ h1)
  have hts' : ∀ w ∈ wsM y' cc' nL' ret', w ∈ TSg := fun w hw => by
    rcases List.mem_cons.mp hw with rfl | hw
    · exact V.1
    · exact hw
  have hR : (rmM d' mc' ms').frames + 1 ≤ (rmM d mc ms).frames ∧ 8 + (nL' + 11) + (rmM d' mc' ms').locals ≤ (rmM d mc ms).locals := by
    have h5 := V.2.2.1
    exact ⟨hd, by show 8 + (nL' + 11) + 60 * d' ≤ 60 * d; omega⟩
  have hbl : FrameBlind (va_Pc As (fun U => WH G c U)) := fun a U g mk q => ⟨q.1, q.2⟩
  have hpre : ∀ U : State, U.heap = H → s.WarmedH U.vm → va_Pc As (fun U => WH G c U) (As).toArray U := fun U hU hW => ⟨rfl, State.WarmedH.trans hvm hW, by rw [hU]; exact h2⟩
  have cb := callB_of (R := rmM d mc ms) (own := own) (index := idx) (ret := ret') (rm := rmM d' mc' ms') (mc := mc') (ms := ms') na hts (TSg_good hts') rfl rfl rfl (hts _ V.2.1) (hts _ S) V.2.2.2 hR
  have hrun := vx_runS (Ts := TSg) (n := na) (rest := st) (cells := k) (slots := n) (locs := locs) (e := e) (below := below) (meth := meth) (g := F0 m pc ls (As.reverse ++ st)) ⟨hx, hb, hml, hown, hts⟩ (hM cf' c hPc) ⟨cb, hts _ Vs⟩ ⟨hbl, hpre⟩ rfl hna (h4.1.trans hL) rfl (lv_room hroom) D1 ⟨hk, hn⟩
  intro T0 hT X0
  rcases hrun T0 hT X0 with ⟨v, st₀, t, T', L, g0, X', hLf, e1, e2, hq, hgo⟩ | ⟨q, st₀, t, T', L, E', ce, g0, X', hLf, e1, e2, ⟨rfl, c', hw', hH'⟩, hce, hcv, hcl, hst⟩
  · exact hq.elim
  · have hW := vx_out (Qc := fun _ _ _ _ => False) (XC := XT G cf E' P') (free := fun q => G.1.heap.size ≤ q) (args := args) (mc := mc) (ms := ms) (pc := pc) (rest := st) (ls := ls) (H := T'.heap) (locs := locs ++ L) (cells := k + mc') (slots := n + ms') (p := p) (e := e) (l := l) (m := m) (below := below) (meth := meth) (c := c0) (s := s) (R := rmM d mc ms) (q := q) (E := E') (ce := ce) (fun x hx => (htab x hx).elim) hlk (by rw [e1]; exact hce) hcv hcl (fun t9 ht9 _ => ⟨rfl, c', hw _ _ (hback _ _ hw'), by rw [ht9, e1]; exact hH'⟩) (fun z hz => (List.mem_append.mp hz).elim (h3 z) (hLf z)) hk hn
    obtain ⟨t2, a1, b1⟩ := hW T' rfl X'
    exact ⟨t2, hst.trans a1, b1⟩
end Rules

set_option maxRecDepth 100000 in
theorem te_187 : TE "java/lang/IndexOutOfBoundsException" 187 191 := ⟨by decide +kernel, TS_5 146 rfl rfl, TS_1 27 rfl rfl, te_of (List.forall_mem_cons.mpr ⟨fun _ => Or.inl (TS_1 10 rfl rfl), List.forall_mem_cons.mpr ⟨fun _ => Or.inl (TS_3 167 rfl rfl), List.forall_mem_cons.mpr ⟨fun _ => Or.inl (TS_3 176 rfl rfl), List.forall_mem_cons.mpr ⟨fun _ => Or.inl (TS_3 181 rfl rfl), List.forall_mem_cons.mpr ⟨fun _ => Or.inl (TS_3 184 rfl rfl), List.forall_mem_cons.mpr ⟨fun _ => Or.inl (TS_3 186 rfl rfl), List.forall_mem_cons.mpr ⟨fun _ => Or.inl (TS_3 168 rfl rfl), List.forall_mem_cons.mpr ⟨fun _ => Or.inl (TS_3 169 rfl rfl), List.forall_mem_cons.mpr ⟨fun _ => Or.inl (TS_1 35 rfl rfl), List.forall_mem_cons.mpr ⟨fun _ => Or.inl (TS_1 36 rfl rfl), List.forall_mem_cons.mpr ⟨fun _ => Or.inl (TS_3 170 rfl rfl), List.forall_mem_cons.mpr ⟨fun _ => Or.inl (TS_3 175 rfl rfl), List.forall_mem_cons.mpr ⟨fun _ => Or.inl (TS_3 182 rfl rfl), List.forall_mem_cons.mpr ⟨fun _ => Or.inl (TS_4 29 rfl rfl), List.forall_mem_cons.mpr ⟨fun _ => Or.inl (TS_3 157 rfl rfl), List.forall_mem_cons.mpr ⟨fun _ => Or.inl (TS_4 30 rfl rfl), List.forall_mem_cons.mpr ⟨fun _ => Or.inl (TS_3 159 rfl rfl), List.forall_mem_cons.mpr ⟨fun _ => Or.inl (TS_4 31 rfl rfl), List.forall_mem_cons.mpr ⟨fun _ => Or.inl (TS_3 161 rfl rfl), List.forall_mem_cons.mpr ⟨fun _ => Or.inl (TS_3 171 rfl rfl), List.forall_mem_cons.mpr ⟨fun h => absurd h (by decide +kernel), List.forall_mem_cons.mpr ⟨fun _ => Or.inl (TS_3 173 rfl rfl), List.forall_mem_cons.mpr ⟨fun h => absurd h (by decide +kernel), List.forall_mem_cons.mpr ⟨fun _ => Or.inl (TS_3 163 rfl rfl), List.forall_mem_cons.mpr ⟨fun _ => Or.inl (TS_4 25 rfl rfl), List.forall_mem_cons.mpr ⟨fun _ => Or.inl (TS_4 26 rfl rfl), List.forall_mem_cons.mpr ⟨fun _ => Or.inl (TS_4 28 rfl rfl), List.forall_mem_cons.mpr ⟨fun _ => Or.inl (TS_3 163 rfl rfl), List.forall_mem_cons.mpr ⟨fun _ => Or.inl (TS_5 157 rfl rfl), List.forall_mem_cons.mpr ⟨fun _ => Or.inl (TS_5 158 rfl rfl), List.forall_mem_cons.mpr ⟨fun _ => Or.inl (TS_5 159 rfl rfl), List.forall_mem_cons.mpr ⟨fun _ => Or.inl (TS_4 19 rfl rfl), List.forall_mem_cons.mpr ⟨fun _ => Or.inr (List.mem_of_getElem? (i := 4) rfl), List.forall_mem_cons.mpr ⟨fun _ => Or.inl (TS_4 19 rfl rfl), List.forall_mem_cons.mpr ⟨fun _ => Or.inl (TS_4 20 rfl rfl), List.forall_mem_cons.mpr ⟨fun _ => Or.inl (TS_4 21 rfl rfl), List.forall_mem_cons.mpr ⟨fun _ => Or.inl (TS_4 22 rfl rfl), List.forall_mem_cons.mpr ⟨fun _ => Or.inr (List.mem_of_getElem? (i := 5) rfl), List.forall_mem_cons.mpr ⟨fun _ => Or.inl (TS_4 22 rfl rfl), List.forall_mem_cons.mpr ⟨fun _ => Or.inl (TS_4 23 rfl rfl), List.forall_mem_cons.mpr ⟨fun _ => Or.inl (TS_4 24 rfl rfl), List.forall_mem_cons.mpr ⟨fun _ => Or.inl (TS_4 25 rfl rfl), List.forall_mem_cons.mpr ⟨fun _ => Or.inr (List.mem_of_getElem? (i := 6) rfl), List.forall_mem_cons.mpr ⟨fun _ => Or.inl (TS_5 156 rfl rfl), List.forall_mem_cons.mpr ⟨fun _ => Or.inl (TS_5 147 rfl rfl), List.forall_mem_cons.mpr ⟨fun _ => Or.inr (List.mem_of_getElem? (i := 0) rfl), List.forall_mem_cons.mpr ⟨fun _ => Or.inl (TS_5 149 rfl rfl), List.forall_mem_cons.mpr ⟨fun _ => Or.inl (TS_3 179 rfl rfl), List.forall_mem_cons.mpr ⟨fun _ => Or.inl (TS_5 150 rfl rfl), List.forall_mem_cons.mpr ⟨fun _ => Or.inl (TS_5 151 rfl rfl), List.forall_mem_cons.mpr ⟨fun _ => Or.inl (TS_5 152 rfl rfl), List.forall_mem_cons.mpr ⟨fun _ => Or.inl (TS_5 153 rfl rfl), List.forall_mem_cons.mpr ⟨fun h => absurd h (by decide +kernel), List.forall_mem_cons.mpr ⟨fun h => absurd h (by decide +kernel), List.forall_mem_cons.mpr ⟨fun _ => Or.inl (TS_3 166 rfl rfl), List.forall_mem_cons.mpr ⟨fun _ => Or.inl (TS_3 165 rfl rfl), List.forall_mem_cons.mpr ⟨fun _ => Or.inl (TS_5 154 rfl rfl), fun _ h => absurd h List.not_mem_nil⟩⟩⟩⟩⟩⟩⟩⟩⟩⟩⟩⟩⟩⟩⟩⟩⟩⟩⟩⟩⟩⟩⟩⟩⟩⟩⟩⟩⟩⟩⟩⟩⟩⟩⟩⟩⟩⟩⟩⟩⟩⟩⟩⟩⟩⟩⟩⟩⟩⟩⟩⟩⟩⟩⟩⟩⟩)⟩
set_option maxRecDepth 100000 in
theorem te_66 : TE "java/lang/IllegalArgumentException" 66 70 := ⟨by decide +kernel, TS_5 115 rfl rfl, TS_1 14 rfl rfl, te_of (List.forall_mem_cons.mpr ⟨fun _ => Or.inl (TS_1 10 rfl rfl), List.forall_mem_cons.mpr ⟨fun _ => Or.inl (TS_3 167 rfl rfl), List.forall_mem_cons.mpr ⟨fun _ => Or.inl (TS_3 176 rfl rfl), List.forall_mem_cons.mpr ⟨fun _ => Or.inl (TS_3 181 rfl rfl), List.forall_mem_cons.mpr ⟨fun _ => Or.inl (TS_3 184 rfl rfl), List.forall_mem_cons.mpr ⟨fun _ => Or.inl (TS_3 186 rfl rfl), List.forall_mem_cons.mpr ⟨fun _ => Or.inl (TS_3 168 rfl rfl), List.forall_mem_cons.mpr ⟨fun _ => Or.inl (TS_3 169 rfl rfl), List.forall_mem_cons.mpr ⟨fun _ => Or.inl (TS_1 35 rfl rfl), List.forall_mem_cons.mpr ⟨fun _ => Or.inl (TS_1 36 rfl rfl), List.forall_mem_cons.mpr ⟨fun _ => Or.inl (TS_3 170 rfl rfl), List.forall_mem_cons.mpr ⟨fun _ => Or.inl (TS_3 175 rfl rfl), List.forall_mem_cons.mpr ⟨fun _ => Or.inl (TS_3 182 rfl rfl), List.forall_mem_cons.mpr ⟨fun _ => Or.inl (TS_4 29 rfl rfl), List.forall_mem_cons.mpr ⟨fun _ => Or.inl (TS_3 157 rfl rfl), List.forall_mem_cons.mpr ⟨fun _ => Or.inl (TS_4 30 rfl rfl), List.forall_mem_cons.mpr ⟨fun _ => Or.inl (TS_3 159 rfl rfl), List.forall_mem_cons.mpr ⟨fun _ => Or.inl (TS_4 31 rfl rfl), List.forall_mem_cons.mpr ⟨fun _ => Or.inl (TS_3 161 rfl rfl), List.forall_mem_cons.mpr ⟨fun _ => Or.inl (TS_3 171 rfl rfl), List.forall_mem_cons.mpr ⟨fun h => absurd h (by decide +kernel), List.forall_mem_cons.mpr ⟨fun _ => Or.inl (TS_3 173 rfl rfl), List.forall_mem_cons.mpr ⟨fun h => absurd h (by decide +kernel), List.forall_mem_cons.mpr ⟨fun _ => Or.inl (TS_3 163 rfl rfl), List.forall_mem_cons.mpr ⟨fun _ => Or.inl (TS_4 25 rfl rfl), List.forall_mem_cons.mpr ⟨fun _ => Or.inl (TS_4 26 rfl rfl), List.forall_mem_cons.mpr ⟨fun _ => Or.inl (TS_4 28 rfl rfl), List.forall_mem_cons.mpr ⟨fun _ => Or.inl (TS_3 163 rfl rfl), List.forall_mem_cons.mpr ⟨fun _ => Or.inl (TS_4 16 rfl rfl), List.forall_mem_cons.mpr ⟨fun _ => Or.inl (TS_4 17 rfl rfl), List.forall_mem_cons.mpr ⟨fun _ => Or.inl (TS_4 18 rfl rfl), List.forall_mem_cons.mpr ⟨fun _ => Or.inl (TS_4 19 rfl rfl), List.forall_mem_cons.mpr ⟨fun _ => Or.inr (List.mem_of_getElem? (i := 4) rfl), List.forall_mem_cons.mpr ⟨fun _ => Or.inl (TS_4 19 rfl rfl), List.forall_mem_cons.mpr ⟨fun _ => Or.inl (TS_4 20 rfl rfl), List.forall_mem_cons.mpr ⟨fun _ => Or.inl (TS_4 21 rfl rfl), List.forall_mem_cons.mpr ⟨fun _ => Or.inl (TS_4 22 rfl rfl), List.forall_mem_cons.mpr ⟨fun _ => Or.inr (List.mem_of_getElem? (i := 5) rfl), List.forall_mem_cons.mpr ⟨fun _ => Or.inl (TS_4 22 rfl rfl), List.forall_mem_cons.mpr ⟨fun _ => Or.inl (TS_4 23 rfl rfl), List.forall_mem_cons.mpr ⟨fun _ => Or.inl (TS_4 24 rfl rfl), List.forall_mem_cons.mpr ⟨fun _ => Or.inl (TS_4 25 rfl rfl), List.forall_mem_cons.mpr ⟨fun _ => Or.inr (List.mem_of_getElem? (i := 6) rfl), List.forall_mem_cons.mpr ⟨fun _ => Or.inl (TS_5 117 rfl rfl), List.forall_mem_cons.mpr ⟨fun _ => Or.inl (TS_3 146 rfl rfl), List.forall_mem_cons.mpr ⟨fun _ => Or.inr (List.mem_of_getElem? (i := 1) rfl), List.forall_mem_cons.mpr ⟨fun _ => Or.inl (TS_3 154 rfl rfl), List.forall_mem_cons.mpr ⟨fun _ => Or.inl (TS_3 155 rfl rfl), List.forall_mem_cons.mpr ⟨fun _ => Or.inl (TS_3 156 rfl rfl), List.forall_mem_cons.mpr ⟨fun _ => Or.inl (TS_3 158 rfl rfl), List.forall_mem_cons.mpr ⟨fun _ => Or.inl (TS_3 160 rfl rfl), List.forall_mem_cons.mpr ⟨fun _ => Or.inl (TS_3 162 rfl rfl), List.forall_mem_cons.mpr ⟨fun h => absurd h (by decide +kernel), List.forall_mem_cons.mpr ⟨fun h => absurd h (by decide +kernel), List.forall_mem_cons.mpr ⟨fun _ => Or.inl (TS_3 166 rfl rfl), List.forall_mem_cons.mpr ⟨fun _ => Or.inl (TS_3 165 rfl rfl), List.forall_mem_cons.mpr ⟨fun _ => Or.inl (TS_3 164 rfl rfl), fun _ h => absurd h List.not_mem_nil⟩⟩⟩⟩⟩⟩⟩⟩⟩⟩⟩⟩⟩⟩⟩⟩⟩⟩⟩⟩⟩⟩⟩⟩⟩⟩⟩⟩⟩⟩⟩⟩⟩⟩⟩⟩⟩⟩⟩⟩⟩⟩⟩⟩⟩⟩⟩⟩⟩⟩⟩⟩⟩⟩⟩⟩⟩)⟩
set_option maxRecDepth 100000 in
theorem te_52 : TE "java/lang/IllegalStateException" 52 56 := ⟨by decide +kernel, TS_5 87 rfl rfl, TS_1 13 rfl rfl, te_of (List.forall_mem_cons.mpr ⟨fun _ => Or.inl (TS_1 10 rfl rfl), List.forall_mem_cons.mpr ⟨fun _ => Or.inl (TS_3 167 rfl rfl), List.forall_mem_cons.mpr ⟨fun _ => Or.inl (TS_3 176 rfl rfl), List.forall_mem_cons.mpr ⟨fun _ => Or.inl (TS_3 181 rfl rfl), List.forall_mem_cons.mpr ⟨fun _ => Or.inl (TS_3 184 rfl rfl), List.forall_mem_cons.mpr ⟨fun _ => Or.inl (TS_3 186 rfl rfl), List.forall_mem_cons.mpr ⟨fun _ => Or.inl (TS_3 168 rfl rfl), List.forall_mem_cons.mpr ⟨fun _ => Or.inl (TS_3 169 rfl rfl), List.forall_mem_cons.mpr ⟨fun _ => Or.inl (TS_1 35 rfl rfl), List.forall_mem_cons.mpr ⟨fun _ => Or.inl (TS_1 36 rfl rfl), List.forall_mem_cons.mpr ⟨fun _ => Or.inl (TS_3 170 rfl rfl), List.forall_mem_cons.mpr ⟨fun _ => Or.inl (TS_3 175 rfl rfl), List.forall_mem_cons.mpr ⟨fun _ => Or.inl (TS_3 182 rfl rfl), List.forall_mem_cons.mpr ⟨fun _ => Or.inl (TS_4 29 rfl rfl), List.forall_mem_cons.mpr ⟨fun _ => Or.inl (TS_3 157 rfl rfl), List.forall_mem_cons.mpr ⟨fun _ => Or.inl (TS_4 30 rfl rfl), List.forall_mem_cons.mpr ⟨fun _ => Or.inl (TS_3 159 rfl rfl), List.forall_mem_cons.mpr ⟨fun _ => Or.inl (TS_4 31 rfl rfl), List.forall_mem_cons.mpr ⟨fun _ => Or.inl (TS_3 161 rfl rfl), List.forall_mem_cons.mpr ⟨fun _ => Or.inl (TS_3 171 rfl rfl), List.forall_mem_cons.mpr ⟨fun h => absurd h (by decide +kernel), List.forall_mem_cons.mpr ⟨fun _ => Or.inl (TS_3 173 rfl rfl), List.forall_mem_cons.mpr ⟨fun h => absurd h (by decide +kernel), List.forall_mem_cons.mpr ⟨fun _ => Or.inl (TS_3 163 rfl rfl), List.forall_mem_cons.mpr ⟨fun _ => Or.inl (TS_4 25 rfl rfl), List.forall_mem_cons.mpr ⟨fun _ => Or.inl (TS_4 26 rfl rfl), List.forall_mem_cons.mpr ⟨fun _ => Or.inl (TS_4 28 rfl rfl), List.forall_mem_cons.mpr ⟨fun _ => Or.inl (TS_3 163 rfl rfl), List.forall_mem_cons.mpr ⟨fun _ => Or.inl (TS_5 98 rfl rfl), List.forall_mem_cons.mpr ⟨fun _ => Or.inl (TS_5 99 rfl rfl), List.forall_mem_cons.mpr ⟨fun _ => Or.inl (TS_5 100 rfl rfl), List.forall_mem_cons.mpr ⟨fun _ => Or.inl (TS_4 19 rfl rfl), List.forall_mem_cons.mpr ⟨fun _ => Or.inr (List.mem_of_getElem? (i := 4) rfl), List.forall_mem_cons.mpr ⟨fun _ => Or.inl (TS_4 19 rfl rfl), List.forall_mem_cons.mpr ⟨fun _ => Or.inl (TS_4 20 rfl rfl), List.forall_mem_cons.mpr ⟨fun _ => Or.inl (TS_4 21 rfl rfl), List.forall_mem_cons.mpr ⟨fun _ => Or.inl (TS_4 22 rfl rfl), List.forall_mem_cons.mpr ⟨fun _ => Or.inr (List.mem_of_getElem? (i := 5) rfl), List.forall_mem_cons.mpr ⟨fun _ => Or.inl (TS_4 22 rfl rfl), List.forall_mem_cons.mpr ⟨fun _ => Or.inl (TS_4 23 rfl rfl), List.forall_mem_cons.mpr ⟨fun _ => Or.inl (TS_4 24 rfl rfl), List.forall_mem_cons.mpr ⟨fun _ => Or.inl (TS_4 25 rfl rfl), List.forall_mem_cons.mpr ⟨fun _ => Or.inr (List.mem_of_getElem? (i := 6) rfl), List.forall_mem_cons.mpr ⟨fun _ => Or.inl (TS_5 97 rfl rfl), List.forall_mem_cons.mpr ⟨fun _ => Or.inl (TS_5 88 rfl rfl), List.forall_mem_cons.mpr ⟨fun _ => Or.inr (List.mem_of_getElem? (i := 2) rfl), List.forall_mem_cons.mpr ⟨fun _ => Or.inl (TS_5 90 rfl rfl), List.forall_mem_cons.mpr ⟨fun _ => Or.inl (TS_3 178 rfl rfl), List.forall_mem_cons.mpr ⟨fun _ => Or.inl (TS_5 91 rfl rfl), List.forall_mem_cons.mpr ⟨fun _ => Or.inl (TS_5 92 rfl rfl), List.forall_mem_cons.mpr ⟨fun _ => Or.inl (TS_5 93 rfl rfl), List.forall_mem_cons.mpr ⟨fun _ => Or.inl (TS_5 94 rfl rfl), List.forall_mem_cons.mpr ⟨fun h => absurd h (by decide +kernel), List.forall_mem_cons.mpr ⟨fun h => absurd h (by decide +kernel), List.forall_mem_cons.mpr ⟨fun _ => Or.inl (TS_3 166 rfl rfl), List.forall_mem_cons.mpr ⟨fun _ => Or.inl (TS_3 165 rfl rfl), List.forall_mem_cons.mpr ⟨fun _ => Or.inl (TS_5 95 rfl rfl), fun _ h => absurd h List.not_mem_nil⟩⟩⟩⟩⟩⟩⟩⟩⟩⟩⟩⟩⟩⟩⟩⟩⟩⟩⟩⟩⟩⟩⟩⟩⟩⟩⟩⟩⟩⟩⟩⟩⟩⟩⟩⟩⟩⟩⟩⟩⟩⟩⟩⟩⟩⟩⟩⟩⟩⟩⟩⟩⟩⟩⟩⟩⟩)⟩
theorem xl_54 : (54, "the input buffer is full") ∈ XLIT := List.mem_of_getElem? (i := 0) rfl
theorem xl_68 : (68, "no such length") ∈ XLIT := List.mem_of_getElem? (i := 1) rfl
theorem xl_98 : (98, "no such property") ∈ XLIT := List.mem_of_getElem? (i := 2) rfl
theorem xl_311 : (311, "no such line") ∈ XLIT := List.mem_of_getElem? (i := 3) rfl
theorem xl_148 : (148, "no such number of a line") ∈ XLIT := List.mem_of_getElem? (i := 4) rfl
theorem xl_317 : (317, "no such count") ∈ XLIT := List.mem_of_getElem? (i := 5) rfl
theorem xl_189 : (189, "no such byte") ∈ XLIT := List.mem_of_getElem? (i := 6) rfl
theorem xl_205 : (205, "no such entry") ∈ XLIT := List.mem_of_getElem? (i := 7) rfl
theorem xl_207 : (207, "no such number of an entry") ∈ XLIT := List.mem_of_getElem? (i := 8) rfl
theorem xl_315 : (315, "out of range") ∈ XLIT := List.mem_of_getElem? (i := 9) rfl
theorem xl_319 : (319, "both lines are the same") ∈ XLIT := List.mem_of_getElem? (i := 10) rfl
theorem xl_313 : (313, "no such slot") ∈ XLIT := List.mem_of_getElem? (i := 11) rfl
theorem xl_278 : (278, "nothing is kept there") ∈ XLIT := List.mem_of_getElem? (i := 12) rfl
theorem xl_283 : (283, "there is nothing to undo") ∈ XLIT := List.mem_of_getElem? (i := 13) rfl
