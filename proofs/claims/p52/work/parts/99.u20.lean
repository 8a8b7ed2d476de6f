/-! Calls of methods of a superclass: super.m(), inherited ones, private ones. -/
theorem va_Nw.warmP {y : MethodName} {s U : State} (hW : s.WarmedH U.vm) (hZ : va_Nw (.privateMethod y) s) : va_Nw (.privateMethod y) U := va_tabs rfl (rfl : (s.setVm U.vm).vm = U.vm) (by rw [Cond.privateMethod_setVm hW.alike]; exact hZ)
theorem va_callVP {p : Program} {l : Launch} {e : Env} {R : Room} {s : State} {m : MethodId} {args : Array Value} {below : List Frame} {meth : Method} {c : Code} {T : State} {locs : List Loc} {cells slots : Nat} (X : Stand p l e R s m args below meth c T locs cells slots) (hexec : p.tables.exec = Jvm.exec) {own : String} {index : Nat} {y : MethodName} {bytes : ByteArray} {maxL : Nat} {ret : Option FieldType}
    (hown : s.vm.findClass own = some m.cls) (hlink : (Cond.methodLink own index y).before args s = true) (hsame : (Cond.sameMethod y.cls y.cls y.name y.desc).before args s = true) (hy : y.cls ≠ "java/lang/invoke/MethodHandle" ∧ y.cls ≠ "java/lang/invoke/VarHandle")
    (hpriv : (Cond.privateMethod y).before args s = true) (hinst : (Cond.instanceMethod y).before args s = true) (hcode : (Cond.code y bytes maxL ret).before args s = true)
    {W : Nat} {Pre : Pt → Array Value → Prop} {Post : Pt → Array Value → Option Value → Pt → Prop} (hK : Back l R p e below s args y 3 W Pre Post)
    {b : Addr} {cellB : Cell} (hcell : T.heap[b]? = some cellB) (hobj : cellB.vm.isStatics = false)
    {g : JFrame} (hg : g.method = m) (hsize : g.locals.size = c.maxLocals) {argsL rest : List Value} (hlen : ∀ sig, parseMethodDescriptor y.desc = some sig → argsL.length = sig.parameters.length)
    (hstack : g.stack = argsL.reverse ++ .ref b :: rest) (hW : 2 * g.monitorRoom + (rest.map fun v => v.category).sum ≤ W) (hdg : decode c.code g.pc = .ok (.invokevirtual index, 3))
    (hpre : ∀ vm₁, s.WarmedH vm₁ → Pre ⟨T.setVm vm₁, locs, cells, slots⟩ (Value.ref b :: argsL).toArray) :
    ∃ (v : Option Value) (vm₁ : Vm) (B : Pt), s.WarmedH vm₁ ∧ Stand p l e R s m args below meth c B.U B.locs B.cells B.slots ∧ Post ⟨T.setVm vm₁, locs, cells, slots⟩ (Value.ref b :: argsL).toArray v B ∧
      ∀ target, Steps p.tables e below (B.U.setTop { g with pc := g.pc + 3, stack := v.toList ++ rest }) target → Steps p.tables e below (T.setTop g) target := by
  obtain ⟨mk, methM, hnamed, hmethM, hstM, habM⟩ := Cond.instanceMethod_spec hinst
  obtain ⟨methM', cM, hmethM', -, -, -, -, -, -, hsigM⟩ := Cond.code_spec hnamed hcode
  cases hmethM.symm.trans hmethM'
  obtain ⟨cn, ck, r1, hcn, hck, hni, hf, hn1⟩ := Cond.sameMethod_found hsame
  have hnamed' : s.methodNamed? ⟨y.cls, y.name, y.desc⟩ = some mk := hnamed
  cases hnamed'.symm.trans hn1
  have hcm : cn = mk.cls := Option.some.inj (hcn.symm.trans (findClass_of_methodNamed hnamed))
  subst hcm
  have hselP : selectMethod e.platform s.vm cellB.cls mk = .method mk := selectMethod_private hmethM (Cond.privateMethod_at hpriv mk methM hnamed hmethM)
  obtain ⟨vm₁, X₁, hstep₁⟩ := X.invokevirtualUp hexec hown hlink hsame hy hnamed' hmethM hstM (a := b) (cell := cellB) hcell
    (fun z h => by rw [h] at hobj; cases hobj) hselP hmethM habM hck hni (g := g) hg (argsL := argsL) (rest := rest) (hlen _ hsigM) hstack hdg
  obtain ⟨v, B, X', hpost, hsteps⟩ := hK m meth c ⟨T.setVm vm₁, locs, cells, slots⟩ { g with stack := rest } (.invokevirtual index) mk (Value.ref b :: argsL).toArray X₁ hg hsize hdg hW (X₁.named hnamed) (hpre vm₁ X₁.warmed)
  exact ⟨v, vm₁, B, X₁.warmed, X', hpost, fun target h => hstep₁ _ fun acts => by rw [doInvoke_state]; exact hsteps.trans h⟩
theorem va_runVP {p : Program} {l : Launch} {e : Env} {R : Room} {s : State} {m : MethodId} {args : Array Value} {below : List Frame} {meth : Method} {c : Code} {H : Heap} {locs : List Loc} {cells slots : Nat} {y : MethodName} {bytes cc : ByteArray} {maxL nL mc ms n index : Nat} {ret : Option FieldType} {ws : List Cond} {rm : Room} {Pc : Array Value → State → Prop} {Qc : Array Value → State → Outcome → State → Prop} {free : Addr → Prop} {Ts : List Cond} {own C : String} {b : Addr} {As rest : List Value} {g : JFrame}
    (S : CallFix p m c cc nL s args Ts own) (hM : Met l y ws rm Pc Qc mc ms free) (ht : ∀ w ∈ Ts, w.before args s = true) (hG : GoodIn Ts ws) (hcw : Cond.code y bytes maxL ret ∈ ws) (hl : (Cond.methodLink own index y).before args s = true) (hsame : (Cond.sameMethod y.cls y.cls y.name y.desc).before args s = true) (hy : y.cls ≠ "java/lang/invoke/MethodHandle" ∧ y.cls ≠ "java/lang/invoke/VarHandle") (hpriv : (Cond.privateMethod y).before args s = true) (hinst : (Cond.instanceMethod y).before args s = true) (hini : (Cond.initialized y.cls).before args s = true) (hpd : (parseMethodDescriptor y.desc).map (fun d => d.parameters.length) = some n) (hrc : rm.cells = mc) (hrs : rm.slots = ms) (hR : rm.frames + 1 ≤ R.frames ∧ 8 + (maxL + 11) + rm.locals ≤ R.locals) (hp : PreV s H C b Pc As)
    (hg : g.method = m) (hn : As.length = n) (hsize : g.locals.size = nL) (hstack : g.stack = As.reverse ++ .ref b :: rest) (hW : 2 * g.monitorRoom + (rest.map fun v => v.category).sum ≤ 8) (hdg : decode cc g.pc = .ok (.invokevirtual index, 3)) (hf : cells + mc ≤ R.cells ∧ slots + ms ≤ R.slots) :
    va_Run p l e R s m args below meth c H locs cells slots mc ms g rest (Qc (Value.ref b :: As).toArray) (free) := by
  have hws : ∀ w ∈ ws, ∀ (a' : Array Value) (U : State), s.WarmedH U.vm → w.before a' U = true := pay_in ht hG
  have hcode := ht _ (hG _ hcw).1
  have hlen : ∀ sig, parseMethodDescriptor y.desc = some sig → n = sig.parameters.length := fun sig h => by
    rw [h] at hpd
    exact (Option.some.inj hpd).symm
  have hK : Back l R p e below s args y 3 8 (PreOf R mc ms Pc) (PostOf Qc mc ms free) := back_of (bytes := bytes) (maxL := maxL) (ret := ret) hM hp.1 hrc hrs hR.1 hR.2 hws hcw (fun a' U hW => word_at hW (Or.inl (by first | rfl | simp [Cond.onTables, Cond.keeps, Cond.steady])) hini)
  obtain ⟨hx, hb, hml, ho, -⟩ := S
  obtain ⟨-, ⟨cellB, hcB, hoB, hclB⟩, hPc⟩ := hp
  intro T hT X
  obtain ⟨v, vm₁, ⟨U', l2, c2, s2⟩, hW₁, X', ⟨g', mk, t, L, e1, e2, hq, h1, hL, h2, h3⟩, st⟩ := va_callVP X hx (bytes := bytes) (maxL := maxL) (ret := ret) ho hl hsame hy hpriv hinst hcode hK (by rw [hT]; exact hcB) hoB hg (hsize.trans hml.symm) (argsL := As) (rest := rest) (fun sig h => hn.trans (hlen sig h)) hstack hW (by rw [hb]; exact hdg)
    (fun vm₁ hW₁ => ⟨hf.1, hf.2, hPc (T.setVm vm₁) hT hW₁⟩)
  dsimp only [Pt.U, Pt.locs, Pt.cells, Pt.slots] at X' e1 e2 h1 h2 h3 st
  subst h1; subst h2; subst h3
  exact ⟨v, (T.setVm vm₁).calling g' mk (Value.ref b :: As).toArray, t, U', L, hT, X', hL, e1, e2, hq, st⟩

section Rules
variable {G : Gm} {X : Cx} {l : Launch} {own nm : String} {cc : ByteArray} {nL : Nat} {ret : Option FieldType} {d mc ms : Nat} {k n : Nat} {ws : List SA} {pc pc' len : Nat} {lv : List (Option Value)} {st : List Value}
variable {T : Type} {rv : T → Option Value} {post : T → Prop} {wx : T → List SA}

theorem x_callSU {idx nL' d' mc' ms' na : Nat} {y' : MethodName} {cc' : ByteArray} {ret' : Option FieldType} {b : Nat} {As : List Value} {P : List SA} {T' : Type} {rv' : T' → Option Value} {post' : T' → Prop} {wx' : T' → List SA} (R' : List SA) (C : OKc G X l own nm cc nL ret d mc ms) (hM : MX G l y' cc' nL' ret' d' mc' ms' (.ref b :: As) P rv' post' wx') (V : CV y' cc' nL' ret' na) {C0 : String} {ci : Nat} (hci : ∃ (T : u_T) (N : Nat), CL[ci]? = some (C0, T, N)) (Vi : Cond.instanceMethod y' ∈ TSg) (hno : y'.name ≠ "<init>") (S : Cond.methodLink own idx y' ∈ TSg) (S2 : Cond.sameMethod y'.cls y'.cls y'.name y'.desc ∈ TSg) (S3 : Cond.superclass own y'.cls ∈ TSg) (hrecv : ∀ cf c, WF ws cf c → ∃ fs, c b = some (.inr (ci, fs))) (D : dx cc pc (.invokespecial idx) 3 pc') (hna : As.length = na) (hpk : ∀ cf c, WF ws cf c → WF (P ++ R') cf c) (hL : lv.length = nL) (hroom : (st.map fun v => v.category).sum ≤ 8) (hd : d' + 1 ≤ d) (hk : k + mc' ≤ mc) (hn : n + ms' ≤ ms)
    (K : ∀ x : T', post' x → WX G X (k + mc') (n + ms') (wx' x ++ R') pc' lv ((rv' x).toList ++ st)) : WX G X k n ws pc lv (As.reverse ++ .ref b :: st) := by
  obtain ⟨p, l, e, R, s, m, args, below, meth, c0, cf, Q⟩ := X
  obtain ⟨hx, rfl, rfl, hb, hml, hown, hts, hK, hvm, hlk, hret, hnm⟩ := C
  obtain ⟨D1, rfl⟩ := D
  have hKs := hK.1.moved hvm.alike
  try dsimp only at hx hb hml hown hts hvm hlk hret hnm hKs
  intro H locs ls c h1 h2 h3 h4
  obtain ⟨cf', hPc, hback⟩ := WF_frame (hpk _ _ h1)
  have hts' : ∀ w ∈ wsM y' cc' nL' ret', w ∈ TSg := fun w hw => by
    rcases List.mem_cons.mp hw with rfl | hw
    · exact V.1
    · exact hw
  have hR : (rmM d' mc' ms').frames + 1 ≤ (rmM d mc ms).frames ∧ 8 + (nL' + 11) + (rmM d' mc' ms').locals ≤ (rmM d mc ms).locals := by
    have h5 := V.2.2.1
    exact ⟨hd, by show 8 + (nL' + 11) + (30 * d' + 130) ≤ 30 * d + 130; omega⟩
  have hbl : FrameBlind (va_Pc (Value.ref b :: As) (fun U => WH G c U)) := fun a U g mk q => ⟨q.1, q.2⟩
  have hpre : ∀ U : State, U.heap = H → s.WarmedH U.vm → va_Pc (Value.ref b :: As) (fun U => WH G c U) ((Value.ref b :: As)).toArray U := fun U hU hW => ⟨rfl, State.WarmedH.trans hvm hW, by rw [hU]; exact h2⟩
  obtain ⟨T9, N9, hci⟩ := hci
  have hrc : ∃ cellB : Cell, H[b]? = some cellB ∧ cellB.vm.isStatics = false ∧ s.vm.findClass C0 = some cellB.cls := by
    obtain ⟨fs, hfs⟩ := hrecv _ _ h1
    obtain ⟨r9, g1, cell, g2, g3, g4, -⟩ := (h2.2.2 b _ hfs).2
    have : r9 = (C0, T9, N9) := Option.some.inj (g1.symm.trans hci)
    subst this
    exact ⟨cell, g2, by rw [g4]; rfl, by rw [g3]; exact (hKs.1 ci _ hci).2.1⟩
  have hrun := va_runSU (Ts := TSg) (n := na) (rest := st) (cells := k) (slots := n) (locs := locs) (e := e) (below := below) (meth := meth) (g := F0 m pc ls (As.reverse ++ .ref b :: st)) (hKs.1 ci _ hci).2 ⟨hx, hb, hml, hown, hts⟩ (hM cf' c hPc) (va_cwSU (R := rmM d mc ms) (rm := rmM d' mc' ms') (mc := mc') (ms := ms') na hts (by
    have hVi := V.2.1
    exact (TSg_good (fun w hw => by
    rcases List.mem_append.mp hw with hw | hw
    · simp only [List.mem_cons, List.not_mem_nil, or_false] at hw
      rcases hw with rfl | rfl | rfl | rfl | rfl <;> assumption
    · exact hts' w hw))) rfl rfl rfl ⟨hno, V.2.2.2.2.2⟩ hR) ⟨hbl, hrc, hpre⟩ rfl hna (h4.1.trans hL) rfl (lv_room hroom) D1 ⟨hk, hn⟩
  intro T0 hT X0
  obtain ⟨v, st₀, t, T', L, g0, X', hLf, e1, e2, ⟨x, hv, hpx, c', hw', hvm', hH'⟩, hgo⟩ := hrun T0 hT X0
  cases hv
  obtain ⟨t2, a1, b1⟩ := K x hpx T'.heap (locs ++ L) ls c' (hback _ _ hw') (by rw [e1]; exact hH') (fun z hz => (List.mem_append.mp hz).elim (h3 z) (hLf z)) h4 T' rfl X'
  exact ⟨t2, hgo t2 a1, b1⟩

theorem x_callU {idx nL' d' mc' ms' na : Nat} {y' : MethodName} {cc' : ByteArray} {ret' : Option FieldType} {b : Nat} {As : List Value} {P : List SA} {T' : Type} {rv' : T' → Option Value} {post' : T' → Prop} {wx' : T' → List SA} (R' : List SA) (C : OKc G X l own nm cc nL ret d mc ms) (hM : MX G l y' cc' nL' ret' d' mc' ms' (.ref b :: As) P rv' post' wx') (V : CV y' cc' nL' ret' na) {C0 : String} {ci : Nat} (hci : ∃ (T : u_T) (N : Nat), CL[ci]? = some (C0, T, N)) (Vi : Cond.instanceMethod y' ∈ TSg) (S : Cond.methodLink own idx y' ∈ TSg) (S2 : Cond.sameMethod y'.cls y'.cls y'.name y'.desc ∈ TSg) (S3 : Cond.selects C0 y' y' ∈ TSg) (hrecv : ∀ cf c, WF ws cf c → ∃ fs, c b = some (.inr (ci, fs))) (D : dx cc pc (.invokevirtual idx) 3 pc') (hna : As.length = na) (hpk : ∀ cf c, WF ws cf c → WF (P ++ R') cf c) (hL : lv.length = nL) (hroom : (st.map fun v => v.category).sum ≤ 8) (hd : d' + 1 ≤ d) (hk : k + mc' ≤ mc) (hn : n + ms' ≤ ms)
    (K : ∀ x : T', post' x → WX G X (k + mc') (n + ms') (wx' x ++ R') pc' lv ((rv' x).toList ++ st)) : WX G X k n ws pc lv (As.reverse ++ .ref b :: st) := by
  obtain ⟨p, l, e, R, s, m, args, below, meth, c0, cf, Q⟩ := X
  obtain ⟨hx, rfl, rfl, hb, hml, hown, hts, hK, hvm, hlk, hret, hnm⟩ := C
  obtain ⟨D1, rfl⟩ := D
  have hKs := hK.1.moved hvm.alike
  try dsimp only at hx hb hml hown hts hvm hlk hret hnm hKs
  intro H locs ls c h1 h2 h3 h4
  obtain ⟨cf', hPc, hback⟩ := WF_frame (hpk _ _ h1)
  have hts' : ∀ w ∈ wsM y' cc' nL' ret', w ∈ TSg := fun w hw => by
    rcases List.mem_cons.mp hw with rfl | hw
    · exact V.1
    · exact hw
  have hR : (rmM d' mc' ms').frames + 1 ≤ (rmM d mc ms).frames ∧ 8 + (nL' + 11) + (rmM d' mc' ms').locals ≤ (rmM d mc ms).locals := by
    have h5 := V.2.2.1
    exact ⟨hd, by show 8 + (nL' + 11) + (30 * d' + 130) ≤ 30 * d + 130; omega⟩
  have hbl : FrameBlind (va_Pc (Value.ref b :: As) (fun U => WH G c U)) := fun a U g mk q => ⟨q.1, q.2⟩
  have hpre : ∀ U : State, U.heap = H → s.WarmedH U.vm → va_Pc (Value.ref b :: As) (fun U => WH G c U) ((Value.ref b :: As)).toArray U := fun U hU hW => ⟨rfl, State.WarmedH.trans hvm hW, by rw [hU]; exact h2⟩
  obtain ⟨T9, N9, hci⟩ := hci
  have hrc : ∃ cellB : Cell, H[b]? = some cellB ∧ cellB.vm.isStatics = false ∧ s.vm.findClass C0 = some cellB.cls := by
    obtain ⟨fs, hfs⟩ := hrecv _ _ h1
    obtain ⟨r9, g1, cell, g2, g3, g4, -⟩ := (h2.2.2 b _ hfs).2
    have : r9 = (C0, T9, N9) := Option.some.inj (g1.symm.trans hci)
    subst this
    exact ⟨cell, g2, by rw [g4]; rfl, by rw [g3]; exact (hKs.1 ci _ hci).2.1⟩
  have hrun := va_runU (Ts := TSg) (n := na) (rest := st) (cells := k) (slots := n) (locs := locs) (e := e) (below := below) (meth := meth) (g := F0 m pc ls (As.reverse ++ .ref b :: st)) ⟨hx, hb, hml, hown, hts⟩ (hM cf' c hPc) (va_cwU (R := rmM d mc ms) (rm := rmM d' mc' ms') (mc := mc') (ms := ms') (C := C0) (owner := y'.cls) na hts (by
    have hVi := V.2.1
    exact (TSg_good (fun w hw => by
    rcases List.mem_append.mp hw with hw | hw
    · simp only [List.mem_cons, List.not_mem_nil, or_false] at hw
      rcases hw with rfl | rfl | rfl | rfl | rfl <;> assumption
    · exact hts' w hw))) rfl rfl rfl rfl ⟨V.2.2.2.1, V.2.2.2.2⟩ hR) ⟨hbl, hrc, hpre⟩ rfl hna (h4.1.trans hL) rfl (lv_room hroom) D1 ⟨hk, hn⟩
  intro T0 hT X0
  obtain ⟨v, st₀, t, T', L, g0, X', hLf, e1, e2, ⟨x, hv, hpx, c', hw', hvm', hH'⟩, hgo⟩ := hrun T0 hT X0
  cases hv
  obtain ⟨t2, a1, b1⟩ := K x hpx T'.heap (locs ++ L) ls c' (hback _ _ hw') (by rw [e1]; exact hH') (fun z hz => (List.mem_append.mp hz).elim (h3 z) (hLf z)) h4 T' rfl X'
  exact ⟨t2, hgo t2 a1, b1⟩

theorem x_callO {idx nL' d' mc' ms' na : Nat} {y' : MethodName} {cc' : ByteArray} {ret' : Option FieldType} {b : Nat} {As : List Value} {P : List SA} {T' : Type} {rv' : T' → Option Value} {post' : T' → Prop} {wx' : T' → List SA} (R' : List SA) (C : OKc G X l own nm cc nL ret d mc ms) (hM : MX G l y' cc' nL' ret' d' mc' ms' (.ref b :: As) P rv' post' wx') (V : CV y' cc' nL' ret' na) {C0 : String} {ci : Nat} (hci : ∃ (T : u_T) (N : Nat), CL[ci]? = some (C0, T, N)) {x' : MethodName} {b0 : ByteArray} {m0 : Nat} {r0 : Option FieldType} (h0 : Cond.code x' b0 m0 r0 ∈ TSg) (hx0 : Cond.instanceMethod x' ∈ TSg) (hmh : x'.cls ≠ "java/lang/invoke/MethodHandle" ∧ x'.cls ≠ "java/lang/invoke/VarHandle" ∧ (parseMethodDescriptor x'.desc).map (fun d => d.parameters.length) = some na) (Vi : Cond.instanceMethod y' ∈ TSg) (S : Cond.methodLink own idx x' ∈ TSg) (S2 : Cond.sameMethod x'.cls x'.cls x'.name x'.desc ∈ TSg) (S3 : Cond.selects C0 x' y' ∈ TSg) (hrecv : ∀ cf c, WF ws cf c → ∃ fs, c b = some (.inr (ci, fs))) (D : dx cc pc (.invokevirtual idx) 3 pc') (hna : As.length = na) (hpk : ∀ cf c, WF ws cf c → WF (P ++ R') cf c) (hL : lv.length = nL) (hroom : (st.map fun v => v.category).sum ≤ 8) (hd : d' + 1 ≤ d) (hk : k + mc' ≤ mc) (hn : n + ms' ≤ ms)
    (K : ∀ x : T', post' x → WX G X (k + mc') (n + ms') (wx' x ++ R') pc' lv ((rv' x).toList ++ st)) : WX G X k n ws pc lv (As.reverse ++ .ref b :: st) := by
  obtain ⟨p, l, e, R, s, m, args, below, meth, c0, cf, Q⟩ := X
  obtain ⟨hx, rfl, rfl, hb, hml, hown, hts, hK, hvm, hlk, hret, hnm⟩ := C
  obtain ⟨D1, rfl⟩ := D
  have hKs := hK.1.moved hvm.alike
  try dsimp only at hx hb hml hown hts hvm hlk hret hnm hKs
  intro H locs ls c h1 h2 h3 h4
  obtain ⟨cf', hPc, hback⟩ := WF_frame (hpk _ _ h1)
  have hts' : ∀ w ∈ wsM y' cc' nL' ret', w ∈ TSg := fun w hw => by
    rcases List.mem_cons.mp hw with rfl | hw
    · exact V.1
    · exact hw
  have hR : (rmM d' mc' ms').frames + 1 ≤ (rmM d mc ms).frames ∧ 8 + (nL' + 11) + (rmM d' mc' ms').locals ≤ (rmM d mc ms).locals := by
    have h5 := V.2.2.1
    exact ⟨hd, by show 8 + (nL' + 11) + (30 * d' + 130) ≤ 30 * d + 130; omega⟩
  have hbl : FrameBlind (va_Pc (Value.ref b :: As) (fun U => WH G c U)) := fun a U g mk q => ⟨q.1, q.2⟩
  have hpre : ∀ U : State, U.heap = H → s.WarmedH U.vm → va_Pc (Value.ref b :: As) (fun U => WH G c U) ((Value.ref b :: As)).toArray U := fun U hU hW => ⟨rfl, State.WarmedH.trans hvm hW, by rw [hU]; exact h2⟩
  obtain ⟨T9, N9, hci⟩ := hci
  have hrc : ∃ cellB : Cell, H[b]? = some cellB ∧ cellB.vm.isStatics = false ∧ s.vm.findClass C0 = some cellB.cls := by
    obtain ⟨fs, hfs⟩ := hrecv _ _ h1
    obtain ⟨r9, g1, cell, g2, g3, g4, -⟩ := (h2.2.2 b _ hfs).2
    have : r9 = (C0, T9, N9) := Option.some.inj (g1.symm.trans hci)
    subst this
    exact ⟨cell, g2, by rw [g4]; rfl, by rw [g3]; exact (hKs.1 ci _ hci).2.1⟩
  have hrun := va_runU (Ts := TSg) (n := na) (rest := st) (cells := k) (slots := n) (locs := locs) (e := e) (below := below) (meth := meth) (g := F0 m pc ls (As.reverse ++ .ref b :: st)) ⟨hx, hb, hml, hown, hts⟩ (hM cf' c hPc) (va_cwO (R := rmM d mc ms) (rm := rmM d' mc' ms') (mc := mc') (ms := ms') (C := C0) (x := x') (owner := x'.cls) na hts (by
    have hVi := V.2.1
    exact (TSg_good (fun w hw => by
    rcases List.mem_append.mp hw with hw | hw
    · simp only [List.mem_cons, List.not_mem_nil, or_false] at hw
      rcases hw with rfl | rfl | rfl | rfl | rfl | rfl <;> assumption
    · exact hts' w hw))) rfl rfl rfl h0 hmh hR) ⟨hbl, hrc, hpre⟩ rfl hna (h4.1.trans hL) rfl (lv_room hroom) D1 ⟨hk, hn⟩
  intro T0 hT X0
  obtain ⟨v, st₀, t, T', L, g0, X', hLf, e1, e2, ⟨x, hv, hpx, c', hw', hvm', hH'⟩, hgo⟩ := hrun T0 hT X0
  cases hv
  obtain ⟨t2, a1, b1⟩ := K x hpx T'.heap (locs ++ L) ls c' (hback _ _ hw') (by rw [e1]; exact hH') (fun z hz => (List.mem_append.mp hz).elim (h3 z) (hLf z)) h4 T' rfl X'
  exact ⟨t2, hgo t2 a1, b1⟩

theorem x_callVP {idx nL' d' mc' ms' na : Nat} {y' : MethodName} {cc' : ByteArray} {ret' : Option FieldType} {b : Nat} {As : List Value} {P : List SA} {T' : Type} {rv' : T' → Option Value} {post' : T' → Prop} {wx' : T' → List SA} (R' : List SA) (C : OKc G X l own nm cc nL ret d mc ms) (hM : MX G l y' cc' nL' ret' d' mc' ms' (.ref b :: As) P rv' post' wx') (V : CV y' cc' nL' ret' na) {C0 : String} {ci : Nat} (hci : ∃ (T : u_T) (N : Nat), CL[ci]? = some (C0, T, N)) (Vi : Cond.instanceMethod y' ∈ TSg) (S : Cond.methodLink own idx y' ∈ TSg) (S2 : Cond.sameMethod y'.cls y'.cls y'.name y'.desc ∈ TSg) (S3 : va_Nw (Cond.privateMethod y') G.1) (hrecv : ∀ cf c, WF ws cf c → ∃ fs, c b = some (.inr (ci, fs))) (D : dx cc pc (.invokevirtual idx) 3 pc') (hna : As.length = na) (hpk : ∀ cf c, WF ws cf c → WF (P ++ R') cf c) (hL : lv.length = nL) (hroom : (st.map fun v => v.category).sum ≤ 8) (hd : d' + 1 ≤ d) (hk : k + mc' ≤ mc) (hn : n + ms' ≤ ms)
    (K : ∀ x : T', post' x → WX G X (k + mc') (n + ms') (wx' x ++ R') pc' lv ((rv' x).toList ++ st)) : WX G X k n ws pc lv (As.reverse ++ .ref b :: st) := by
  obtain ⟨p, l, e, R, s, m, args, below, meth, c0, cf, Q⟩ := X
  obtain ⟨hx, rfl, rfl, hb, hml, hown, hts, hK, hvm, hlk, hret, hnm⟩ := C
  obtain ⟨D1, rfl⟩ := D
  have hKs := hK.1.moved hvm.alike
  try dsimp only at hx hb hml hown hts hvm hlk hret hnm hKs
  intro H locs ls c h1 h2 h3 h4
  obtain ⟨cf', hPc, hback⟩ := WF_frame (hpk _ _ h1)
  have hts' : ∀ w ∈ wsM y' cc' nL' ret', w ∈ TSg := fun w hw => by
    rcases List.mem_cons.mp hw with rfl | hw
    · exact V.1
    · exact hw
  have hR : (rmM d' mc' ms').frames + 1 ≤ (rmM d mc ms).frames ∧ 8 + (nL' + 11) + (rmM d' mc' ms').locals ≤ (rmM d mc ms).locals := by
    have h5 := V.2.2.1
    exact ⟨hd, by show 8 + (nL' + 11) + (30 * d' + 130) ≤ 30 * d + 130; omega⟩
  have hbl : FrameBlind (va_Pc (Value.ref b :: As) (fun U => WH G c U)) := fun a U g mk q => ⟨q.1, q.2⟩
  have hpre : ∀ U : State, U.heap = H → s.WarmedH U.vm → va_Pc (Value.ref b :: As) (fun U => WH G c U) ((Value.ref b :: As)).toArray U := fun U hU hW => ⟨rfl, State.WarmedH.trans hvm hW, by rw [hU]; exact h2⟩
  obtain ⟨T9, N9, hci⟩ := hci
  have hrc : ∃ cellB : Cell, H[b]? = some cellB ∧ cellB.vm.isStatics = false ∧ s.vm.findClass C0 = some cellB.cls := by
    obtain ⟨fs, hfs⟩ := hrecv _ _ h1
    obtain ⟨r9, g1, cell, g2, g3, g4, -⟩ := (h2.2.2 b _ hfs).2
    have : r9 = (C0, T9, N9) := Option.some.inj (g1.symm.trans hci)
    subst this
    exact ⟨cell, g2, by rw [g4]; rfl, by rw [g3]; exact (hKs.1 ci _ hci).2.1⟩
  have hrun := va_runVP (R := rmM d mc ms) (C := C0) (Ts := TSg) (n := na) (rest := st) (cells := k) (slots := n) (locs := locs) (e := e) (below := below) (meth := meth) (g := F0 m pc ls (As.reverse ++ .ref b :: st)) ⟨hx, hb, hml, hown, hts⟩ (hM cf' c hPc) hts (TSg_good hts') (List.mem_cons_self) (hts _ S) (hts _ S2) ⟨V.2.2.2.1, V.2.2.2.2.1⟩ (va_Nw.use rfl (S3.warmP hvm)) (hts _ Vi) (hts _ V.2.1) V.2.2.2.2.2 rfl rfl hR ⟨hbl, hrc, hpre⟩ rfl hna (h4.1.trans hL) rfl (lv_room hroom) D1 ⟨hk, hn⟩
  intro T0 hT X0
  obtain ⟨v, st₀, t, T', L, g0, X', hLf, e1, e2, ⟨x, hv, hpx, c', hw', hvm', hH'⟩, hgo⟩ := hrun T0 hT X0
  cases hv
  obtain ⟨t2, a1, b1⟩ := K x hpx T'.heap (locs ++ L) ls c' (hback _ _ hw') (by rw [e1]; exact hH') (fun z hz => (List.mem_append.mp hz).elim (h3 z) (hLf z)) h4 T' rfl X'
  exact ⟨t2, hgo t2 a1, b1⟩

end Rules

section Rules
variable {G : Gm} {X : Cx} {l : Launch} {own nm : String} {cc : ByteArray} {nL : Nat} {ret : Option FieldType} {d mc ms : Nat} {k n : Nat} {ws : List SA} {pc pc' len : Nat} {lv : List (Option Value)} {st : List Value}
variable {T : Type} {rv : T → Option Value} {post : T → Prop} {wx : T → List SA}

theorem ySU0r {idx nL' d' : Nat} {y' : MethodName} {cc' : ByteArray} {ret' : Option FieldType} {b : Nat} {P P' : List SA} {r : Value} (R' ws' : List SA) (C : OKc G X l own nm cc nL ret d mc ms) (hM : MD G l y' cc' nL' ret' d' 0 0 [.ref b] P (some r) P') (V : CV y' cc' nL' ret' 0) {C0 : String} {ci : Nat} (hci : ∃ (T : u_T) (N : Nat), CL[ci]? = some (C0, T, N)) (Vi : Cond.instanceMethod y' ∈ TSg) (hno : y'.name ≠ "<init>") (S : Cond.methodLink own idx y' ∈ TSg) (S2 : Cond.sameMethod y'.cls y'.cls y'.name y'.desc ∈ TSg) (S3 : Cond.superclass own y'.cls ∈ TSg) (D : dx cc pc (.invokespecial idx) 3 pc') (hpk : ∀ cf c, WF ws cf c → WF (P ++ R') cf c) (hrecv : ∀ cf c, WF ws cf c → ∃ fs, c b = some (.inr (ci, fs))) (hL : lv.length = nL) (hroom : (st.map fun v => v.category).sum ≤ 8) (hd : d' + 1 ≤ d) (hk : k ≤ mc) (hn : n ≤ ms) (hw : P' ++ R' = ws') (K : WX G X k n ws' pc' lv (r :: st)) : WX G X k n ws pc lv (.ref b :: st) :=
  x_callSU (As := []) R' C hM V hci Vi hno S S2 S3 hrecv D rfl hpk hL hroom hd hk hn (fun _ _ => by subst hw; exact K)
theorem ySU1r {idx nL' d' : Nat} {y' : MethodName} {cc' : ByteArray} {ret' : Option FieldType} {b : Nat} {a1 : Value} {P P' : List SA} {r : Value} (R' ws' : List SA) (C : OKc G X l own nm cc nL ret d mc ms) (hM : MD G l y' cc' nL' ret' d' 0 0 [.ref b, a1] P (some r) P') (V : CV y' cc' nL' ret' 1) {C0 : String} {ci : Nat} (hci : ∃ (T : u_T) (N : Nat), CL[ci]? = some (C0, T, N)) (Vi : Cond.instanceMethod y' ∈ TSg) (hno : y'.name ≠ "<init>") (S : Cond.methodLink own idx y' ∈ TSg) (S2 : Cond.sameMethod y'.cls y'.cls y'.name y'.desc ∈ TSg) (S3 : Cond.superclass own y'.cls ∈ TSg) (D : dx cc pc (.invokespecial idx) 3 pc') (hpk : ∀ cf c, WF ws cf c → WF (P ++ R') cf c) (hrecv : ∀ cf c, WF ws cf c → ∃ fs, c b = some (.inr (ci, fs))) (hL : lv.length = nL) (hroom : (st.map fun v => v.category).sum ≤ 8) (hd : d' + 1 ≤ d) (hk : k ≤ mc) (hn : n ≤ ms) (hw : P' ++ R' = ws') (K : WX G X k n ws' pc' lv (r :: st)) : WX G X k n ws pc lv (a1 :: .ref b :: st) :=
  x_callSU (As := [a1]) R' C hM V hci Vi hno S S2 S3 hrecv D rfl hpk hL hroom hd hk hn (fun _ _ => by subst hw; exact K)
theorem yU0r {idx nL' d' : Nat} {y' : MethodName} {cc' : ByteArray} {ret' : Option FieldType} {b : Nat} {P P' : List SA} {r : Value} (R' ws' : List SA) (C : OKc G X l own nm cc nL ret d mc ms) (hM : MD G l y' cc' nL' ret' d' 0 0 [.ref b] P (some r) P') (V : CV y' cc' nL' ret' 0) {C0 : String} {ci : Nat} (hci : ∃ (T : u_T) (N : Nat), CL[ci]? = some (C0, T, N)) (Vi : Cond.instanceMethod y' ∈ TSg) (S : Cond.methodLink own idx y' ∈ TSg) (S2 : Cond.sameMethod y'.cls y'.cls y'.name y'.desc ∈ TSg) (S3 : Cond.selects C0 y' y' ∈ TSg) (D : dx cc pc (.invokevirtual idx) 3 pc') (hpk : ∀ cf c, WF ws cf c → WF (P ++ R') cf c) (hrecv : ∀ cf c, WF ws cf c → ∃ fs, c b = some (.inr (ci, fs))) (hL : lv.length = nL) (hroom : (st.map fun v => v.category).sum ≤ 8) (hd : d' + 1 ≤ d) (hk : k ≤ mc) (hn : n ≤ ms) (hw : P' ++ R' = ws') (K : WX G X k n ws' pc' lv (r :: st)) : WX G X k n ws pc lv (.ref b :: st) :=
  x_callU (As := []) R' C hM V hci Vi S S2 S3 hrecv D rfl hpk hL hroom hd hk hn (fun _ _ => by subst hw; exact K)
theorem yO0r {idx nL' d' : Nat} {y' : MethodName} {cc' : ByteArray} {ret' : Option FieldType} {b : Nat} {P P' : List SA} {r : Value} (R' ws' : List SA) (C : OKc G X l own nm cc nL ret d mc ms) (hM : MD G l y' cc' nL' ret' d' 0 0 [.ref b] P (some r) P') (V : CV y' cc' nL' ret' 0) {C0 : String} {ci : Nat} (hci : ∃ (T : u_T) (N : Nat), CL[ci]? = some (C0, T, N)) {x' : MethodName} {b0 : ByteArray} {m0 : Nat} {r0 : Option FieldType} (h0 : Cond.code x' b0 m0 r0 ∈ TSg) (hx0 : Cond.instanceMethod x' ∈ TSg) (hmh : x'.cls ≠ "java/lang/invoke/MethodHandle" ∧ x'.cls ≠ "java/lang/invoke/VarHandle" ∧ (parseMethodDescriptor x'.desc).map (fun d => d.parameters.length) = some 0) (Vi : Cond.instanceMethod y' ∈ TSg) (S : Cond.methodLink own idx x' ∈ TSg) (S2 : Cond.sameMethod x'.cls x'.cls x'.name x'.desc ∈ TSg) (S3 : Cond.selects C0 x' y' ∈ TSg) (D : dx cc pc (.invokevirtual idx) 3 pc') (hpk : ∀ cf c, WF ws cf c → WF (P ++ R') cf c) (hrecv : ∀ cf c, WF ws cf c → ∃ fs, c b = some (.inr (ci, fs))) (hL : lv.length = nL) (hroom : (st.map fun v => v.category).sum ≤ 8) (hd : d' + 1 ≤ d) (hk : k ≤ mc) (hn : n ≤ ms) (hw : P' ++ R' = ws') (K : WX G X k n ws' pc' lv (r :: st)) : WX G X k n ws pc lv (.ref b :: st) :=
  x_callO (As := []) R' C hM V hci h0 hx0 hmh Vi S S2 S3 hrecv D rfl hpk hL hroom hd hk hn (fun _ _ => by subst hw; exact K)
theorem yVP1v {idx nL' d' : Nat} {y' : MethodName} {cc' : ByteArray} {ret' : Option FieldType} {b : Nat} {a1 : Value} {P P' : List SA} (R' ws' : List SA) (C : OKc G X l own nm cc nL ret d mc ms) (hM : MD G l y' cc' nL' ret' d' 0 0 [.ref b, a1] P none P') (V : CV y' cc' nL' ret' 1) {C0 : String} {ci : Nat} (hci : ∃ (T : u_T) (N : Nat), CL[ci]? = some (C0, T, N)) (Vi : Cond.instanceMethod y' ∈ TSg) (S : Cond.methodLink own idx y' ∈ TSg) (S2 : Cond.sameMethod y'.cls y'.cls y'.name y'.desc ∈ TSg) (S3 : va_Nw (Cond.privateMethod y') G.1) (D : dx cc pc (.invokevirtual idx) 3 pc') (hpk : ∀ cf c, WF ws cf c → WF (P ++ R') cf c) (hrecv : ∀ cf c, WF ws cf c → ∃ fs, c b = some (.inr (ci, fs))) (hL : lv.length = nL) (hroom : (st.map fun v => v.category).sum ≤ 8) (hd : d' + 1 ≤ d) (hk : k ≤ mc) (hn : n ≤ ms) (hw : P' ++ R' = ws') (K : WX G X k n ws' pc' lv (st)) : WX G X k n ws pc lv (a1 :: .ref b :: st) :=
  x_callVP (As := [a1]) R' C hM V hci Vi S S2 S3 hrecv D rfl hpk hL hroom hd hk hn (fun _ _ => by subst hw; exact K)
end Rules
