/-! Ends and calls. -/
/-- what a method is, for those that call it: n arguments, the class ci of the one that is asked (0 where none is) -/
def CV (y : MethodName) (cc : ByteArray) (nL : Nat) (ret : Option FieldType) (n : Nat) : Prop := Cond.code y cc nL ret ∈ TSg ∧ Cond.initialized y.cls ∈ TSg ∧ nL ≤ 11 ∧ y.cls ≠ "java/lang/invoke/MethodHandle" ∧ y.cls ≠ "java/lang/invoke/VarHandle" ∧ (parseMethodDescriptor y.desc).map (fun d => d.parameters.length) = some n
def CVi (y : MethodName) : Prop := Cond.instanceMethod y ∈ TSg
def CVv (y : MethodName) (ci : Nat) : Prop := Cond.instanceMethod y ∈ TSg ∧ Cond.selects y.cls y y ∈ TSg ∧ ∃ (T : u_T) (N : Nat), CL[ci]? = some (y.cls, T, N)
section Rules
variable {G : Gm} {X : Cx} {l : Launch} {own nm : String} {cc : ByteArray} {nL : Nat} {ret : Option FieldType} {d mc ms : Nat} {k n : Nat} {ws : List SA} {pc pc' len : Nat} {lv : List (Option Value)} {st : List Value}
variable {T : Type} {rv : T → Option Value} {post : T → Prop} {wx : T → List SA}

theorem x_iret {w : Int32} {rt : FieldType} (hnr : narrow rt (.int w) = .int w) (C : OKc G X l own nm cc nL (some rt) d mc ms) (F : FIN G X mc ms rv post wx) (D : dx cc pc .ireturn 1 pc') (x : T) (hr : rv x = some (.int w)) (hp : post x) (hw : ∀ cf c, WF ws cf c → WF (wx x) cf c) (hk : k ≤ mc) (hn : n ≤ ms) : WX G X k n ws pc lv [.int w] := by
  obtain ⟨p, l, e, R, s, m, args, below, meth, c0, cf, Q⟩ := X
  obtain ⟨hx, rfl, rfl, hb, hml, hown, hts, hK, hvm, hlk, hret, hnm⟩ := C
  obtain ⟨D1, rfl⟩ := D
  have hKs := hK.1.moved hvm.alike
  try dsimp only at hx hb hml hown hts hvm hlk hret hnm hKs
  have F' : Q = MQ below (QM G cf rv post wx) args s mc ms (fun q => G.1.heap.size ≤ q) := F
  subst F'
  intro H locs ls c h1 h2 h3 h4
  refine W.widen (k := mc) (n := ms) hk hn ?_
  exact W.zret hx hb hret hnr (fun t ht hW => ⟨x, by rw [hr], hp, c, hw _ _ h1, State.WarmedH.trans hvm hW, by rw [ht]; exact h2⟩) h3 D1 hlk

theorem x_vret (C : OKc G X l own nm cc nL none d mc ms) (F : FIN G X mc ms rv post wx) (D : dx cc pc .return_ 1 pc') (x : T) (hr : rv x = none) (hp : post x) (hw : ∀ cf c, WF ws cf c → WF (wx x) cf c) (hk : k ≤ mc) (hn : n ≤ ms) : WX G X k n ws pc lv [] := by
  obtain ⟨p, l, e, R, s, m, args, below, meth, c0, cf, Q⟩ := X
  obtain ⟨hx, rfl, rfl, hb, hml, hown, hts, hK, hvm, hlk, hret, hnm⟩ := C
  obtain ⟨D1, rfl⟩ := D
  have hKs := hK.1.moved hvm.alike
  try dsimp only at hx hb hml hown hts hvm hlk hret hnm hKs
  have F' : Q = MQ below (QM G cf rv post wx) args s mc ms (fun q => G.1.heap.size ≤ q) := F
  subst F'
  intro H locs ls c h1 h2 h3 h4
  refine W.widen (k := mc) (n := ms) hk hn ?_
  exact W.vret hx hb hret (fun t ht hW => ⟨x, by rw [hr], hp, c, hw _ _ h1, State.WarmedH.trans hvm hW, by rw [ht]; exact h2⟩) h3 D1 hlk

theorem x_aret {w : Nat} {rt : FieldType} (hrt : (∃ n, rt = .object n) ∨ ∃ t, rt = .array t) (C : OKc G X l own nm cc nL (some rt) d mc ms) (F : FIN G X mc ms rv post wx) (D : dx cc pc .areturn 1 pc') (x : T) (hr : rv x = some (.ref w)) (hp : post x) (hw : ∀ cf c, WF ws cf c → WF (wx x) cf c) (hk : k ≤ mc) (hn : n ≤ ms) : WX G X k n ws pc lv [.ref w] := by
  obtain ⟨p, l, e, R, s, m, args, below, meth, c0, cf, Q⟩ := X
  obtain ⟨hx, rfl, rfl, hb, hml, hown, hts, hK, hvm, hlk, hret, hnm⟩ := C
  obtain ⟨D1, rfl⟩ := D
  have hKs := hK.1.moved hvm.alike
  try dsimp only at hx hb hml hown hts hvm hlk hret hnm hKs
  have F' : Q = MQ below (QM G cf rv post wx) args s mc ms (fun q => G.1.heap.size ≤ q) := F
  subst F'
  intro H locs ls c h1 h2 h3 h4
  refine W.widen (k := mc) (n := ms) hk hn ?_
  exact W.aret hx hb hret hrt (Or.inr ⟨w, rfl⟩) (fun t ht hW => ⟨x, by rw [hr], hp, c, hw _ _ h1, State.WarmedH.trans hvm hW, by rw [ht]; exact h2⟩) h3 D1 hlk

theorem x_callV {idx nL' d' mc' ms' na : Nat} {y' : MethodName} {cc' : ByteArray} {ret' : Option FieldType} {b : Nat} {As : List Value} {P : List SA} {T' : Type} {rv' : T' → Option Value} {post' : T' → Prop} {wx' : T' → List SA} (R' : List SA) (C : OKc G X l own nm cc nL ret d mc ms) (hM : MX G l y' cc' nL' ret' d' mc' ms' (.ref b :: As) P rv' post' wx') (V : CV y' cc' nL' ret' na) {ci : Nat} (Vv : CVv y' ci) (S : Cond.methodLink own idx y' ∈ TSg) (hrecv : ∀ cf c, WF ws cf c → ∃ fs, c b = some (.inr (ci, fs))) (D : dx cc pc (.invokevirtual idx) 3 pc') (hna : As.length = na) (hpk : ∀ cf c, WF ws cf c → WF (P ++ R') cf c) (hL : lv.length = nL) (hroom : (st.map fun v => v.category).sum ≤ 8) (hd : d' + 1 ≤ d) (hk : k + mc' ≤ mc) (hn : n + ms' ≤ ms)
    (K : ∀ x : T', post' x → WX G X (k + mc') (n + ms') (wx' x ++ R') pc' lv ((rv' x).toList ++ st)) : WX G X k n ws pc lv (As.reverse ++ .ref b :: st) := by
  obtain ⟨p, l, e, R, s, m, args, below, meth, c0, cf, Q⟩ := X
  obtain ⟨hx, rfl, rfl, hb, hml, hown, hts, hK, hvm, hlk, hret, hnm⟩ := C
  obtain ⟨D1, rfl⟩ := D
  have hKs := hK.1.moved hvm.alike
  try dsimp only at hx hb hml hown hts hvm hlk hret hnm hKs
  intro H locs ls c h1 h2 h3 h4
  obtain ⟨cf', hPc, hback⟩ := WF_frame (hpk _ _ h1)
  have hts' : ∀ w ∈ wsM y' cc' nL' ret', w ∈ TSg := fun w hw => by
    rcases List.mem_cons.mp hw with rfl | hw
    · exact V.1
    · exact hw
  have hR : (rmM d' mc' ms').frames + 1 ≤ (rmM d mc ms).frames ∧ 8 + (nL' + 11) + (rmM d' mc' ms').locals ≤ (rmM d mc ms).locals := by
    have h5 := V.2.2.1
    exact ⟨hd, by show 8 + (nL' + 11) + (30 * d' + 130) ≤ 30 * d + 130; omega⟩
  have hbl : FrameBlind (va_Pc (Value.ref b :: As) (fun U => WH G c U)) := fun a U g mk q => ⟨q.1, q.2⟩
  have hpre : ∀ U : State, U.heap = H → s.WarmedH U.vm → va_Pc (Value.ref b :: As) (fun U => WH G c U) ((Value.ref b :: As)).toArray U := fun U hU hW => ⟨rfl, State.WarmedH.trans hvm hW, by rw [hU]; exact h2⟩
  have hrc : ∃ cellB : Cell, H[b]? = some cellB ∧ cellB.vm.isStatics = false ∧ s.vm.findClass y'.cls = some cellB.cls := by
    obtain ⟨fs, hfs⟩ := hrecv _ _ h1
    obtain ⟨T9, N9, hci⟩ := Vv.2.2
    obtain ⟨r9, g1, cell, g2, g3, g4, -⟩ := (h2.2.2 b _ hfs).2
    have : r9 = (y'.cls, T9, N9) := Option.some.inj (g1.symm.trans hci)
    subst this
    exact ⟨cell, g2, by rw [g4]; rfl, by rw [g3]; exact (hKs.1 ci _ hci).2.1⟩
  have cb := callB_of (R := rmM d mc ms) (own := own) (index := idx) (ret := ret') (rm := rmM d' mc' ms') (mc := mc') (ms := ms') na hts (TSg_good hts') rfl rfl rfl (hts _ V.2.1) (hts _ S) V.2.2.2 hR
  have hrun := va_runV (Ts := TSg) (n := na) (rest := st) (cells := k) (slots := n) (locs := locs) (e := e) (below := below) (meth := meth) (g := F0 m pc ls (As.reverse ++ .ref b :: st)) ⟨hx, hb, hml, hown, hts⟩ (hM cf' c hPc) ⟨cb, hts _ Vv.1, hts _ Vv.2.1⟩ ⟨hbl, hrc, hpre⟩ rfl hna (h4.1.trans hL) rfl (lv_room hroom) D1 ⟨hk, hn⟩
  intro T0 hT X0
  obtain ⟨v, st₀, t, T', L, g0, X', hLf, e1, e2, ⟨x, hv, hpx, c', hw', hvm', hH'⟩, hgo⟩ := hrun T0 hT X0
  cases hv
  obtain ⟨t2, a1, b1⟩ := K x hpx T'.heap (locs ++ L) ls c' (hback _ _ hw') (by rw [e1]; exact hH') (fun z hz => (List.mem_append.mp hz).elim (h3 z) (hLf z)) h4 T' rfl X'
  exact ⟨t2, hgo t2 a1, b1⟩

theorem x_callS {idx nL' d' mc' ms' na : Nat} {y' : MethodName} {cc' : ByteArray} {ret' : Option FieldType}  {As : List Value} {P : List SA} {T' : Type} {rv' : T' → Option Value} {post' : T' → Prop} {wx' : T' → List SA} (R' : List SA) (C : OKc G X l own nm cc nL ret d mc ms) (hM : MX G l y' cc' nL' ret' d' mc' ms' As P rv' post' wx') (V : CV y' cc' nL' ret' na) (Vs : Cond.static y' ∈ TSg) (S : Cond.methodLink own idx y' ∈ TSg) (D : dx cc pc (.invokestatic idx) 3 pc') (hna : As.length = na) (hpk : ∀ cf c, WF ws cf c → WF (P ++ R') cf c) (hL : lv.length = nL) (hroom : (st.map fun v => v.category).sum ≤ 8) (hd : d' + 1 ≤ d) (hk : k + mc' ≤ mc) (hn : n + ms' ≤ ms)
    (K : ∀ x : T', post' x → WX G X (k + mc') (n + ms') (wx' x ++ R') pc' lv ((rv' x).toList ++ st)) : WX G X k n ws pc lv (As.reverse ++ st) := by
  obtain ⟨p, l, e, R, s, m, args, below, meth, c0, cf, Q⟩ := X
  obtain ⟨hx, rfl, rfl, hb, hml, hown, hts, hK, hvm, hlk, hret, hnm⟩ := C
  obtain ⟨D1, rfl⟩ := D
  have hKs := hK.1.moved hvm.alike
  try dsimp only at hx hb hml hown hts hvm hlk hret hnm hKs
  intro H locs ls c h1 h2 h3 h4
  obtain ⟨cf', hPc, hback⟩ := WF_frame (hpk _ _ h1)
  have hts' : ∀ w ∈ wsM y' cc' nL' ret', w ∈ TSg := fun w hw => by
    rcases List.mem_cons.mp hw with rfl | hw
    · exact V.1
    · exact hw
  have hR : (rmM d' mc' ms').frames + 1 ≤ (rmM d mc ms).frames ∧ 8 + (nL' + 11) + (rmM d' mc' ms').locals ≤ (rmM d mc ms).locals := by
    have h5 := V.2.2.1
    exact ⟨hd, by show 8 + (nL' + 11) + (30 * d' + 130) ≤ 30 * d + 130; omega⟩
  have hbl : FrameBlind (va_Pc As (fun U => WH G c U)) := fun a U g mk q => ⟨q.1, q.2⟩
  have hpre : ∀ U : State, U.heap = H → s.WarmedH U.vm → va_Pc As (fun U => WH G c U) (As).toArray U := fun U hU hW => ⟨rfl, State.WarmedH.trans hvm hW, by rw [hU]; exact h2⟩
  have cb := callB_of (R := rmM d mc ms) (own := own) (index := idx) (ret := ret') (rm := rmM d' mc' ms') (mc := mc') (ms := ms') na hts (TSg_good hts') rfl rfl rfl (hts _ V.2.1) (hts _ S) V.2.2.2 hR
  have hrun := va_runS (Ts := TSg) (n := na) (rest := st) (cells := k) (slots := n) (locs := locs) (e := e) (below := below) (meth := meth) (g := F0 m pc ls (As.reverse ++ st)) ⟨hx, hb, hml, hown, hts⟩ (hM cf' c hPc) ⟨cb, hts _ Vs⟩ ⟨hbl, hpre⟩ rfl hna (h4.1.trans hL) rfl (lv_room hroom) D1 ⟨hk, hn⟩
  intro T0 hT X0
  obtain ⟨v, st₀, t, T', L, g0, X', hLf, e1, e2, ⟨x, hv, hpx, c', hw', hvm', hH'⟩, hgo⟩ := hrun T0 hT X0
  cases hv
  obtain ⟨t2, a1, b1⟩ := K x hpx T'.heap (locs ++ L) ls c' (hback _ _ hw') (by rw [e1]; exact hH') (fun z hz => (List.mem_append.mp hz).elim (h3 z) (hLf z)) h4 T' rfl X'
  exact ⟨t2, hgo t2 a1, b1⟩

theorem x_callI {idx nL' d' mc' ms' na : Nat} {y' : MethodName} {cc' : ByteArray} {ret' : Option FieldType} {b : Nat} {As : List Value} {P : List SA} {T' : Type} {rv' : T' → Option Value} {post' : T' → Prop} {wx' : T' → List SA} (R' : List SA) (C : OKc G X l own nm cc nL ret d mc ms) (hM : MX G l y' cc' nL' none d' mc' ms' (.ref b :: As) P rv' post' wx') (V : CV y' cc' nL' none na) (Vi : CVi y') (hin : y'.name = "<init>") (S : Cond.methodLink own idx y' ∈ TSg) (D : dx cc pc (.invokespecial idx) 3 pc') (hna : As.length = na) (hpk : ∀ cf c, WF ws cf c → WF (P ++ R') cf c) (hL : lv.length = nL) (hroom : (st.map fun v => v.category).sum ≤ 8) (hd : d' + 1 ≤ d) (hk : k + mc' ≤ mc) (hn : n + ms' ≤ ms)
    (K : ∀ x : T', post' x → WX G X (k + mc') (n + ms') (wx' x ++ R') pc' lv ((rv' x).toList ++ st)) : WX G X k n ws pc lv (As.reverse ++ .ref b :: st) := by
  obtain ⟨p, l, e, R, s, m, args, below, meth, c0, cf, Q⟩ := X
  obtain ⟨hx, rfl, rfl, hb, hml, hown, hts, hK, hvm, hlk, hret, hnm⟩ := C
  obtain ⟨D1, rfl⟩ := D
  have hKs := hK.1.moved hvm.alike
  try dsimp only at hx hb hml hown hts hvm hlk hret hnm hKs
  intro H locs ls c h1 h2 h3 h4
  obtain ⟨cf', hPc, hback⟩ := WF_frame (hpk _ _ h1)
  have hts' : ∀ w ∈ wsM y' cc' nL' none, w ∈ TSg := fun w hw => by
    rcases List.mem_cons.mp hw with rfl | hw
    · exact V.1
    · exact hw
  have hR : (rmM d' mc' ms').frames + 1 ≤ (rmM d mc ms).frames ∧ 8 + (nL' + 11) + (rmM d' mc' ms').locals ≤ (rmM d mc ms).locals := by
    have h5 := V.2.2.1
    exact ⟨hd, by show 8 + (nL' + 11) + (30 * d' + 130) ≤ 30 * d + 130; omega⟩
  have hbl : FrameBlind (va_Pc (Value.ref b :: As) (fun U => WH G c U)) := fun a U g mk q => ⟨q.1, q.2⟩
  have hpre : ∀ U : State, U.heap = H → s.WarmedH U.vm → va_Pc (Value.ref b :: As) (fun U => WH G c U) ((Value.ref b :: As)).toArray U := fun U hU hW => ⟨rfl, State.WarmedH.trans hvm hW, by rw [hU]; exact h2⟩
  have cb := callB_of (R := rmM d mc ms) (own := own) (index := idx) (ret := none) (rm := rmM d' mc' ms') (mc := mc') (ms := ms') na hts (TSg_good hts') rfl rfl rfl (hts _ V.2.1) (hts _ S) V.2.2.2 hR
  have hrun := va_runI (Ts := TSg) (n := na) (rest := st) (cells := k) (slots := n) (locs := locs) (e := e) (below := below) (meth := meth) (g := F0 m pc ls (As.reverse ++ .ref b :: st)) ⟨hx, hb, hml, hown, hts⟩ (hM cf' c hPc) ⟨cb, hin, hts _ Vi⟩ ⟨hbl, hpre⟩ rfl hna (h4.1.trans hL) rfl (lv_room hroom) D1 ⟨hk, hn⟩
  intro T0 hT X0
  obtain ⟨v, st₀, t, T', L, g0, X', hLf, e1, e2, ⟨x, hv, hpx, c', hw', hvm', hH'⟩, hgo⟩ := hrun T0 hT X0
  cases hv
  obtain ⟨t2, a1, b1⟩ := K x hpx T'.heap (locs ++ L) ls c' (hback _ _ hw') (by rw [e1]; exact hH') (fun z hz => (List.mem_append.mp hz).elim (h3 z) (hLf z)) h4 T' rfl X'
  exact ⟨t2, hgo t2 a1, b1⟩

theorem x_callIN {idx nL' d' mc' ms' na : Nat} {y' : MethodName} {cc' : ByteArray} {ret' : Option FieldType} {b : Nat} {As : List Value} {P : List SA} {T' : Type} {rv' : T' → Option Value} {post' : T' → Prop} {wx' : T' → List SA} (R' : List SA) (C : OKc G X l own nm cc nL ret d mc ms) (hM : MX G l y' cc' nL' none d' mc' ms' (.ref b :: As) P rv' post' wx') (V : CV y' cc' nL' none na) {host : String} (Vi : CVi y') (hin : y'.name = "<init>") (S : Cond.methodLinkNest own idx y' host ∈ TSn) (D : dx cc pc (.invokespecial idx) 3 pc') (hna : As.length = na) (hpk : ∀ cf c, WF ws cf c → WF (P ++ R') cf c) (hL : lv.length = nL) (hroom : (st.map fun v => v.category).sum ≤ 8) (hd : d' + 1 ≤ d) (hk : k + mc' ≤ mc) (hn : n + ms' ≤ ms)
    (K : ∀ x : T', post' x → WX G X (k + mc') (n + ms') (wx' x ++ R') pc' lv ((rv' x).toList ++ st)) : WX G X k n ws pc lv (As.reverse ++ .ref b :: st) := by
  obtain ⟨p, l, e, R, s, m, args, below, meth, c0, cf, Q⟩ := X
  obtain ⟨hx, rfl, rfl, hb, hml, hown, hts, hK, hvm, hlk, hret, hnm⟩ := C
  obtain ⟨D1, rfl⟩ := D
  have hKs := hK.1.moved hvm.alike
  try dsimp only at hx hb hml hown hts hvm hlk hret hnm hKs
  intro H locs ls c h1 h2 h3 h4
  obtain ⟨cf', hPc, hback⟩ := WF_frame (hpk _ _ h1)
  have hts' : ∀ w ∈ wsM y' cc' nL' none, w ∈ TSg := fun w hw => by
    rcases List.mem_cons.mp hw with rfl | hw
    · exact V.1
    · exact hw
  have hR : (rmM d' mc' ms').frames + 1 ≤ (rmM d mc ms).frames ∧ 8 + (nL' + 11) + (rmM d' mc' ms').locals ≤ (rmM d mc ms).locals := by
    have h5 := V.2.2.1
    exact ⟨hd, by show 8 + (nL' + 11) + (30 * d' + 130) ≤ 30 * d + 130; omega⟩
  have hbl : FrameBlind (va_Pc (Value.ref b :: As) (fun U => WH G c U)) := fun a U g mk q => ⟨q.1, q.2⟩
  have hpre : ∀ U : State, U.heap = H → s.WarmedH U.vm → va_Pc (Value.ref b :: As) (fun U => WH G c U) ((Value.ref b :: As)).toArray U := fun U hU hW => ⟨rfl, State.WarmedH.trans hvm hW, by rw [hU]; exact h2⟩
  have cb := va_cnB (R := rmM d mc ms) (own := own) (index := idx) (ret := none) (rm := rmM d' mc' ms') (mc := mc') (ms := ms') (args := args) na hts (TSg_good hts') rfl rfl rfl (va_Nw.warmM hvm (hK.2.1 _ S)) (hts _ V.2.1) V.2.2.2 hR
  have hrun := va_runIN (Ts := TSg) (n := na) (rest := st) (cells := k) (slots := n) (locs := locs) (e := e) (below := below) (meth := meth) (g := F0 m pc ls (As.reverse ++ .ref b :: st)) ⟨hx, hb, hml, hown, hts⟩ (hM cf' c hPc) ⟨cb, hin, hts _ Vi⟩ ⟨hbl, hpre⟩ rfl hna (h4.1.trans hL) rfl (lv_room hroom) D1 ⟨hk, hn⟩
  intro T0 hT X0
  obtain ⟨v, st₀, t, T', L, g0, X', hLf, e1, e2, ⟨x, hv, hpx, c', hw', hvm', hH'⟩, hgo⟩ := hrun T0 hT X0
  cases hv
  obtain ⟨t2, a1, b1⟩ := K x hpx T'.heap (locs ++ L) ls c' (hback _ _ hw') (by rw [e1]; exact hH') (fun z hz => (List.mem_append.mp hz).elim (h3 z) (hLf z)) h4 T' rfl X'
  exact ⟨t2, hgo t2 a1, b1⟩

theorem x_objInit {idx a : Nat} (C : OKc G X l own nm cc nL ret d mc ms) (S : Cond.methodLink own idx Lib.objectInit ∈ TSg ∧ Cond.instanceMethod Lib.objectInit ∈ TSg ∧ Cond.code Lib.objectInit ⟨#[0xb1]⟩ 1 none ∈ TSg) (D : dx cc pc (.invokespecial idx) 3 pc') (hL : lv.length = nL) (hroom : (st.map fun v => v.category).sum ≤ 8) (hd : 1 ≤ d) (K : WX G X k n ws pc' lv st) : WX G X k n ws pc lv (.ref a :: st) := by
  obtain ⟨p, l, e, R, s, m, args, below, meth, c0, cf, Q⟩ := X
  obtain ⟨hx, rfl, rfl, hb, hml, hown, hts, hK, hvm, hlk, hret, hnm⟩ := C
  obtain ⟨D1, rfl⟩ := D
  have hKs := hK.1.moved hvm.alike
  try dsimp only at hx hb hml hown hts hvm hlk hret hnm hKs
  intro H locs ls c h1 h2 h3 h4
  exact W.objInit hx hb hown (hts _ S.1) (hts _ S.2.1) (hts _ S.2.2) (e := e) (below := below) (meth := meth) (g := F0 m pc ls (.ref a :: st)) rfl (by show ls.size = c0.maxLocals; rw [h4.1, hL, hml]) rfl D1 hd (by show 2 * 0 + _ + 12 ≤ 30 * d + 130; omega) (K H locs ls c h1 h2 h3 h4)
theorem x_max {idx : Nat} {a b : Int} (C : OKc G X l own nm cc nL ret d mc ms) (S : Cond.methodLink own idx Lib.Math.max.name ∈ TSg) (S2 : Cond.static Lib.Math.max.name ∈ TSg ∧ Cond.initialized "java/lang/Math" ∈ TSg ∧ Cond.code Lib.Math.max.name Lib.Math.max.code 2 (some .int) ∈ TSg) (D : dx cc pc (.invokestatic idx) 3 pc') (hL : lv.length = nL) (hroom : (st.map fun v => v.category).sum ≤ 8) (hd : 1 ≤ d) (hk : k ≤ mc) (hn : n ≤ ms) (ha : -2147483648 ≤ a ∧ a < 2147483648) (hb' : -2147483648 ≤ b ∧ b < 2147483648) (K : WX G X k n ws pc' lv (.int (zI (max a b)) :: st)) : WX G X k n ws pc lv (.int (zI b) :: .int (zI a) :: st) := by
  have em : (if zI a < zI b then zI b else zI a) = zI (max a b) := by
    by_cases h : a < b
    · rw [if_pos ((zI_lt ha hb').mpr h), Int.max_eq_right (by omega)]
    · rw [if_neg (fun z => h ((zI_lt ha hb').mp z)), Int.max_eq_left (by omega)]
  obtain ⟨p, l, e, R, s, m, args, below, meth, c0, cf, Q⟩ := X
  obtain ⟨hx, rfl, rfl, hb, hml, hown, hts, hK, hvm, hlk, hret, hnm⟩ := C
  obtain ⟨D1, rfl⟩ := D
  have hKs := hK.1.moved hvm.alike
  try dsimp only at hx hb hml hown hts hvm hlk hret hnm hKs
  intro H locs ls c h1 h2 h3 h4
  refine va_mmax hx hb (by rw [hml, h4.1, hL]) hown (hts _ S) (hts _ S2.1) (hts _ S2.2.1) (hts _ S2.2.2) hd (by show _ + 13 ≤ 30 * d + 130; omega) hk hn D1 ?_
  rw [em]
  exact K H locs ls c h1 h2 h3 h4
theorem x_min {idx : Nat} {a b : Int} (C : OKc G X l own nm cc nL ret d mc ms) (S : Cond.methodLink own idx Lib.Math.min.name ∈ TSg) (S2 : Cond.static Lib.Math.min.name ∈ TSg ∧ Cond.initialized "java/lang/Math" ∈ TSg ∧ Cond.code Lib.Math.min.name Lib.Math.min.code 2 (some .int) ∈ TSg) (D : dx cc pc (.invokestatic idx) 3 pc') (hL : lv.length = nL) (hroom : (st.map fun v => v.category).sum ≤ 8) (hd : 1 ≤ d) (hk : k ≤ mc) (hn : n ≤ ms) (ha : -2147483648 ≤ a ∧ a < 2147483648) (hb' : -2147483648 ≤ b ∧ b < 2147483648) (K : WX G X k n ws pc' lv (.int (zI (min a b)) :: st)) : WX G X k n ws pc lv (.int (zI b) :: .int (zI a) :: st) := by
  have em : (if zI b < zI a then zI b else zI a) = zI (min a b) := by
    by_cases h : b < a
    · rw [if_pos ((zI_lt hb' ha).mpr h), Int.min_eq_right (by omega)]
    · rw [if_neg (fun z => h ((zI_lt hb' ha).mp z)), Int.min_eq_left (by omega)]
  obtain ⟨p, l, e, R, s, m, args, below, meth, c0, cf, Q⟩ := X
  obtain ⟨hx, rfl, rfl, hb, hml, hown, hts, hK, hvm, hlk, hret, hnm⟩ := C
  obtain ⟨D1, rfl⟩ := D
  have hKs := hK.1.moved hvm.alike
  try dsimp only at hx hb hml hown hts hvm hlk hret hnm hKs
  intro H locs ls c h1 h2 h3 h4
  refine va_mmin hx hb (by rw [hml, h4.1, hL]) hown (hts _ S) (hts _ S2.1) (hts _ S2.2.1) (hts _ S2.2.2) hd (by show _ + 13 ≤ 30 * d + 130; omega) hk hn D1 ?_
  rw [em]
  exact K H locs ls c h1 h2 h3 h4
theorem x_copy {idx : Nat} {a b N0 N1 M0 M1 : Nat} {f g : Nat → Int} {sp dp z : Int} (ws' : List SA) (M' : Nat) (q0 q1 : Nat) (C : OKc G X l own nm cc nL ret d mc ms) (S : Cond.methodLink own idx arraycopyName ∈ TSg) (S2 : Cond.native arraycopyName ∈ TSg ∧ Cond.static arraycopyName ∈ TSg ∧ Cond.initialized "java/lang/System" ∈ TSg) (D : dx cc pc (.invokestatic idx) 3 pc') (hq0 : ws[q0]? = some (ar G 0 a N0 M0 f)) (hq1 : ws[q1]? = some (ar G 0 b N1 M1 g)) (hN : N0 < 2147483648 ∧ N1 < 2147483648) (hs : 0 ≤ sp ∧ 0 ≤ dp ∧ 0 ≤ z) (h0 : sp + z ≤ (M0 : Int)) (h9 : dp + z ≤ (N1 : Int)) (hM : (M' : Int) ≤ dp + z ∧ dp ≤ (M1 : Int) ∨ M' ≤ M1) (hL : lv.length = nL) (hroom : (st.map fun v => v.category).sum ≤ 8) (hd : 3 ≤ d) (hw : ws.set q1 (ar G 0 b N1 M' (fun j => if dp.toNat ≤ j ∧ j < dp.toNat + z.toNat then f (sp.toNat + (j - dp.toNat)) else g j)) = ws') (K : WX G X k n ws' pc' lv st) : WX G X k n ws pc lv (.int (zI z) :: .int (zI dp) :: .ref b :: .int (zI sp) :: .ref a :: st) := by
  obtain ⟨p, l, e, R, s, m, args, below, meth, c0, cf, Q⟩ := X
  obtain ⟨hx, rfl, rfl, hb, hml, hown, hts, hK, hvm, hlk, hret, hnm⟩ := C
  obtain ⟨D1, rfl⟩ := D
  have hKs := hK.1.moved hvm.alike
  try dsimp only at hx hb hml hown hts hvm hlk hret hnm hKs
  intro H locs ls c h1 h2 h3 h4
  obtain ⟨d0, ⟨g0, hm0, hg0, hd0⟩, hsub0, -, -⟩ := WF_put h1 hq0
  obtain ⟨d1, ⟨g1, hm1, hg1, hd1⟩, hsub1, -, hset⟩ := WF_put h1 hq1
  obtain ⟨w9, wP, wD, wc, -⟩ := HH_list h2
  obtain ⟨j0, hj0⟩ := wc a _ (hsub0 a _ hd0)
  obtain ⟨j1, hj1⟩ := wc b _ (hsub1 b _ hd1)
  have es : (zI sp).toNatClampNeg = sp.toNat := zI_nat hs.1 (by omega)
  have ed : (zI dp).toNatClampNeg = dp.toNat := zI_nat hs.2.1 (by omega)
  have ez : (zI z).toNatClampNeg = z.toNat := zI_nat hs.2.2 (by omega)
  have nn : ∀ x : Int, 0 ≤ x ∧ x < 2147483648 → ¬ zI x < 0 := fun x hx q => by rw [zI_0, zI_lt ⟨by omega, by omega⟩ ⟨by omega, by omega⟩] at q; omega
  refine va_copyi (D := G.2.1) (cl := CL) hx hb (by rw [hml, h4.1, hL]) hown (hts _ S) (hts _ S2.1) (hts _ S2.2.1) (hts _ S2.2.2) hKs wP wD (HH_ge (H1 := H) (locs1 := locs) h3) j0 j1 0 0 hj0 hj1 rfl rfl rfl (nn sp ⟨hs.1, by omega⟩) (nn dp ⟨hs.2.1, by omega⟩) (nn z ⟨hs.2.2, by omega⟩) (by rw [es, ez]; omega) (by rw [ed, ez]; omega) (fun _ _ => rfl) (by show 1 ≤ d; omega) (by
    have : nativeFrameWords "java/lang/System" "arraycopy" 5 + 11 ≤ 160 := by decide +kernel
    show _ ≤ 30 * d + 130
    omega) D1 (fun H1 locs1 p1 _ s1 => ?_)
  subst hw
  refine K H1 locs1 ls _ (hset b _ _ _ hd1 ⟨_, by omega, fun j hj => ?_, s_up_s _ _ _⟩) (HH_set h2 hj1 wc p1 s1 (hsub1 b _ hd1)) s1.2.2 h4
  rw [es, ed, ez]
  unfold va_cpy
  dsimp only
  by_cases hh : dp.toNat ≤ j ∧ j < dp.toNat + z.toNat
  · rw [if_pos hh, if_pos hh]
    exact hg0 _ (by omega)
  · rw [if_neg hh, if_neg hh]
    exact hg1 _ (by omega)
end Rules
