/-! Strings: those that lie there at the start and those of the store are read by the same rules. -/
abbrev nF : Nat → Prop := fun _ => False
def strV (s : State) (H : Heap) (b : Nat) (w : List Int) : Prop := va_T .byte b w.length (fun j => .int (zI (w.getD j 0))) nF s H
def strS (s : State) (H : Heap) (q b : Nat) (w : List Int) : Prop := va_O "java/lang/String" q nF s H ∧ va_OF "java/lang/String" "coder" "B" (.int (zI 0)) q nF s H ∧ va_OF "java/lang/String" "value" "[B" (.ref b) q nF s H ∧ strV s H b w
/-- over the atoms P there is the string q, of bytes w, which lie at b -/
def SK (G : Gm) (P : List SA) (q b : Nat) (w : List Int) : Prop := (w.length ≤ 400 ∧ ∀ x ∈ w, 0 ≤ x ∧ x < 128) ∧ ∀ s : State, G.1.WarmedH s.vm → ∀ cf c H, WF P cf c → HH G c H → strS s H q b w
theorem SK.app {G : Gm} {P R : List SA} {q b : Nat} {w : List Int} (h : SK G P q b w) : SK G (P ++ R) q b w := ⟨h.1, fun s hs cf c H hw hH => by
  obtain ⟨cf', h1, -⟩ := WF_frame hw
  exact h.2 s hs cf' c H h1 hH⟩
theorem SK.pick {G : Gm} {P P' : List SA} {q b : Nat} {w : List Int} (h : SK G P q b w) (hp : ∀ cf c, WF P' cf c → ∃ cf', WF P cf' c) : SK G P' q b w := ⟨h.1, fun s hs cf c H hw hH => by
  obtain ⟨cf', h1⟩ := hp cf c hw
  exact h.2 s hs cf' c H h1 hH⟩
/-- what lies in the heap at the start -/
def old (G : Gm) : Nat → Prop := fun q => G.1.heap.size ≤ q
theorem HH.old {G : Gm} {c : Sto} {H : Heap} (h : HH G c H) : ∀ a : Nat, a < G.1.heap.size → ¬ old G a → H[a]? = G.1.heap[a]? := fun a ha _ => h.2.1 a ha
def strG (G : Gm) (q b : Nat) (w : List Int) : Prop := (w.length ≤ 400 ∧ ∀ x ∈ w, 0 ≤ x ∧ x < 128) ∧ va_O "java/lang/String" q (old G) G.1 G.1.heap ∧ va_OF "java/lang/String" "coder" "B" (.int (zI 0)) q (old G) G.1 G.1.heap ∧ va_OF "java/lang/String" "value" "[B" (.ref b) q (old G) G.1 G.1.heap ∧ va_T .byte b w.length (fun j => .int (zI (w.getD j 0))) (old G) G.1 G.1.heap
theorem strG.sk {G : Gm} {q b : Nat} {w : List Int} (h : strG G q b w) (P : List SA) : SK G P q b w := by
  obtain ⟨h0, h1, h2, h3, h4⟩ := h
  refine ⟨h0, fun s hs cf c H hw hH => ?_⟩
  have hv := hs.alike
  exact ⟨((h1.moved hv).kept hH.old).narrow (fun _ z => z.elim), ((h2.moved hv).kept hH.old).narrow (fun _ z => z.elim), ((h3.moved hv).kept hH.old).narrow (fun _ z => z.elim), ((h4.moved hv).kept hH.old).narrow (fun _ z => z.elim)⟩
abbrev w_none0 : List Int := []
abbrev w_line : List Int := [108, 105, 110, 101]
abbrev w_cap : List Int := [99, 97, 112]
abbrev w_marks : List Int := [109, 97, 114, 107, 115]
abbrev w_share : List Int := [115, 104, 97, 114, 101]
abbrev w_echo : List Int := [101, 99, 104, 111]
abbrev w_none : List Int := [110, 111, 110, 101]
abbrev w_each : List Int := [101, 97, 99, 104]
abbrev w_whole : List Int := [119, 104, 111, 108, 101]
abbrev w_lend : List Int := [108, 101, 110, 100]
abbrev w_to : List Int := [116, 111]
abbrev w_for : List Int := [102, 111, 114]
abbrev w_type : List Int := [116, 121, 112, 101]
abbrev wl_47 : List Int := [108, 105, 110, 101, 32, 108]
abbrev wl_58 : List Int := [32, 99, 97, 112, 32]
abbrev wl_63 : List Int := [32, 109, 97, 114, 107, 115, 32]
abbrev wl_65 : List Int := [32]
abbrev wl_67 : List Int := [32, 115, 104, 97, 114, 101, 32]
abbrev wl_69 : List Int := [32, 101, 99, 104, 111, 32, 110, 111, 110, 101]
abbrev wl_71 : List Int := [32, 101, 99, 104, 111, 32, 101, 97, 99, 104]
abbrev wl_73 : List Int := [32, 101, 99, 104, 111, 32, 119, 104, 111, 108, 101]
abbrev wl_75 : List Int := [59]
abbrev wl_77 : List Int := [108, 101, 110, 100, 32, 108]
abbrev wl_79 : List Int := [32, 116, 111, 32, 108]
abbrev wl_81 : List Int := [32, 102, 111, 114, 32]
abbrev wl_83 : List Int := [116, 121, 112, 101, 32, 108]
/-- the literals that are read: class, entry, text, bytes -/
def LIT : List (String × Nat × String × List Int) := [("EchoLine$Line", 9, "", w_none0), ("EchoLine$Tokens", 54, "line", w_line), ("EchoLine$Tokens", 60, "cap", w_cap), ("EchoLine$Tokens", 62, "marks", w_marks), ("EchoLine$Tokens", 64, "share", w_share), ("EchoLine$Tokens", 66, "echo", w_echo), ("EchoLine$Tokens", 68, "none", w_none), ("EchoLine$Tokens", 70, "each", w_each), ("EchoLine$Tokens", 72, "whole", w_whole), ("EchoLine$Tokens", 74, "lend", w_lend), ("EchoLine$Tokens", 76, "to", w_to), ("EchoLine$Tokens", 78, "for", w_for), ("EchoLine$Tokens", 80, "type", w_type), ("EchoLineLaw", 47, "line l", wl_47), ("EchoLineLaw", 58, " cap ", wl_58), ("EchoLineLaw", 63, " marks ", wl_63), ("EchoLineLaw", 65, " ", wl_65), ("EchoLineLaw", 67, " share ", wl_67), ("EchoLineLaw", 69, " echo none", wl_69), ("EchoLineLaw", 71, " echo each", wl_71), ("EchoLineLaw", 73, " echo whole", wl_73), ("EchoLineLaw", 75, ";", wl_75), ("EchoLineLaw", 77, "lend l", wl_77), ("EchoLineLaw", 79, " to l", wl_79), ("EchoLineLaw", 81, " for ", wl_81), ("EchoLineLaw", 83, "type l", wl_83)]
/-- what is given of statics and literals -/
def KS (G : Gm) : Prop := (KG G ∧ va_Nw (.privateMethod yJ5_ensureCapacityInternal_d00df) G.1) ∧ va_Z "java/lang/String" "COMPACT_STRINGS" "Z" (.int (zI 1)) (old G) G.1 G.1.heap ∧ va_Zq "jdk/internal/util/Preconditions" "SIOOBE_FORMATTER" "Ljava/util/function/BiFunction;" (old G) G.1 G.1.heap ∧ ∀ x ∈ LIT, ∃ q b, vk_R x.1 x.2.1 x.2.2.1 q G.1 ∧ strG G q b x.2.2.2
section Rules
variable {G : Gm} {X : Cx} {l : Launch} {own nm : String} {cc : ByteArray} {nL : Nat} {ret : Option FieldType} {d mc ms : Nat} {k n : Nat} {ws : List SA} {pc pc' len : Nat} {lv : List (Option Value)} {st : List Value}
variable {T : Type} {rv : T → Option Value} {post : T → Prop} {wx : T → List SA}
theorem x_getK {idx a : Nat} {o' n' d' : String} {v : Value} (C : OKc G X l own nm cc nL ret d mc ms) (hl : Cond.fieldLink own idx o' n' d' ∈ TSg) (D : dx cc pc (.getfield idx) 3 pc') (hF : ∀ s : State, G.1.WarmedH s.vm → ∀ cf c H, WF ws cf c → HH G c H → va_OF o' n' d' v a nF s H) (K : WX G X k n ws pc' lv (v :: st)) : WX G X k n ws pc lv (.ref a :: st) := by
  obtain ⟨p, l, e, R, s, m, args, below, meth, c0, cf, Q⟩ := X
  obtain ⟨hx, rfl, rfl, hb, hml, hown, hts, hK, hvm, hlk, hret, hnm⟩ := C
  obtain ⟨D1, rfl⟩ := D
  intro H locs ls c h1 h2 h3 h4
  obtain ⟨cf9, k9, fi, f, cell, g1, g2, g3, g4, g5, -⟩ := hF s hvm _ _ H h1 h2
  exact W.getf hx hb hown (hts _ hl) g1 g2 g3 g4 (v := v) g5 rfl rfl D1 (K H locs ls c h1 h2 h3 h4)
theorem x_getsK {idx : Nat} {o' n' d' : String} {v : Value} (C : OKc G X l own nm cc nL ret d mc ms) (hl : Cond.fieldLink own idx o' n' d' ∈ TSg) (D : dx cc pc (.getstatic idx) 3 pc') (hZ : va_Z o' n' d' v (old G) G.1 G.1.heap) (K : WX G X k n ws pc' lv (v :: st)) : WX G X k n ws pc lv st := by
  obtain ⟨p, l, e, R, s, m, args, below, meth, c0, cf, Q⟩ := X
  obtain ⟨hx, rfl, rfl, hb, hml, hown, hts, hK, hvm, hlk, hret, hnm⟩ := C
  obtain ⟨D1, rfl⟩ := D
  intro H locs ls c h1 h2 h3 h4
  obtain ⟨cf9, kf, fi, f, a, cell, g1, g2, g3, g4, g5, g6, g7, -⟩ := (hZ.moved hvm.alike).kept h2.old
  exact W.gets hx hb hown (hts _ hl) g1 g2 g3 g4 g5 (fun e => by rw [e] at g6; cases g6) g7 rfl D1 (K H locs ls c h1 h2 h3 h4)
theorem x_alenK {b : Nat} {w : List Int} (C : OKc G X l own nm cc nL ret d mc ms) (D : dx cc pc .arraylength 1 pc') (hF : ∀ s : State, G.1.WarmedH s.vm → ∀ cf c H, WF ws cf c → HH G c H → strV s H b w) (K : WX G X k n ws pc' lv (.int (zI (w.length : Int)) :: st)) : WX G X k n ws pc lv (.ref b :: st) := by
  obtain ⟨p, l, e, R, s, m, args, below, meth, c0, cf, Q⟩ := X
  obtain ⟨hx, rfl, rfl, hb, hml, hown, hts, hK, hvm, hlk, hret, hnm⟩ := C
  obtain ⟨D1, rfl⟩ := D
  intro H locs ls c h1 h2 h3 h4
  obtain ⟨cell, g1, g2, g3, g4, g5, g6, -⟩ := hF s hvm _ _ H h1 h2
  have K' := K
  rw [← zI_ofNat] at K'
  exact W.alen (n := Int32.ofNat w.length) hx hb g1 g2 g5 rfl rfl D1 (K' H locs ls c h1 h2 h3 h4)
theorem x_baldK {b : Nat} {w : List Int} {i : Int} (C : OKc G X l own nm cc nL ret d mc ms) (D : dx cc pc .baload 1 pc') (hF : ∀ s : State, G.1.WarmedH s.vm → ∀ cf c H, WF ws cf c → HH G c H → strV s H b w) (hN : w.length ≤ 400) (hi : 0 ≤ i ∧ i < (w.length : Int)) (K : WX G X k n ws pc' lv (.int (zI (w.getD i.toNat 0)) :: st)) : WX G X k n ws pc lv (.int (zI i) :: .ref b :: st) := by
  obtain ⟨p, l, e, R, s, m, args, below, meth, c0, cf, Q⟩ := X
  obtain ⟨hx, rfl, rfl, hb, hml, hown, hts, hK, hvm, hlk, hret, hnm⟩ := C
  obtain ⟨D1, rfl⟩ := D
  intro H locs ls c h1 h2 h3 h4
  obtain ⟨cell, g1, g2, g3, g4, g5, g6, -⟩ := hF s hvm _ _ H h1 h2
  have e : (zI i).toNatClampNeg = i.toNat := zI_nat hi.1 (by omega)
  have hin := zI_in (a := i) (n := w.length) hi.1 hi.2 (by omega)
  have hin' : ¬ (zI i < 0 ∨ cell.slots.size ≤ (zI i).toNatClampNeg) := by
    intro q
    rcases q with q | q
    · exact hin (Or.inl q)
    · rw [e] at q; omega
  exact W.bald (v := .int (zI (w.getD i.toNat 0))) hx hb g1 g2 g3 hin' (by rw [e]; exact g6 _ (by omega)) rfl rfl D1 (K H locs ls c h1 h2 h3 h4)
theorem x_ldcS {idx : Nat} {tx : String} {q : Nat} (C : OKc G X l own nm cc nL ret d mc ms) (hR : vk_R own idx tx q G.1) (D : dx cc pc (.ldc idx) 2 pc') (K : WX G X k n ws pc' lv (.ref q :: st)) : WX G X k n ws pc lv st := by
  obtain ⟨p, l, e, R, s, m, args, below, meth, c0, cf, Q⟩ := X
  obtain ⟨hx, rfl, rfl, hb, hml, hown, hts, hK, hvm, hlk, hret, hnm⟩ := C
  obtain ⟨D1, rfl⟩ := D
  intro H locs ls c h1 h2 h3 h4
  exact va_ldcS hx hb hown (hR.warm hvm) D1 (K H locs ls c h1 h2 h3 h4)
theorem x_callVK {idx nL' d' mc' ms' na : Nat} {y' : MethodName} {cc' : ByteArray} {ret' : Option FieldType} {b : Nat} {As : List Value} {P : List SA} {T' : Type} {rv' : T' → Option Value} {post' : T' → Prop} {wx' : T' → List SA} (R' : List SA) (C : OKc G X l own nm cc nL ret d mc ms) (hM : MX G l y' cc' nL' ret' d' mc' ms' (.ref b :: As) P rv' post' wx') (V : CV y' cc' nL' ret' na) {ci : Nat} (Vv : CVv y' ci) (S : Cond.methodLink own idx y' ∈ TSg) (hrecv : ∀ s : State, G.1.WarmedH s.vm → ∀ cf c H, WF ws cf c → HH G c H → va_O y'.cls b (fun _ => False) s H) (D : dx cc pc (.invokevirtual idx) 3 pc') (hna : As.length = na) (hpk : ∀ cf c, WF ws cf c → WF (P ++ R') cf c) (hL : lv.length = nL) (hroom : (st.map fun v => v.category).sum ≤ 8) (hd : d' + 1 ≤ d) (hk : k + mc' ≤ mc) (hn : n + ms' ≤ ms)
    (K : ∀ x : T', post' x → WX G X (k + mc') (n + ms') (wx' x ++ R') pc' lv ((rv' x).toList ++ st)) : WX G X k n ws pc lv (As.reverse ++ .ref b :: st) := by
  obtain ⟨p, l, e, R, s, m, args, below, meth, c0, cf, Q⟩ := X
  obtain ⟨hx, rfl, rfl, hb, hml, hown, hts, hK, hvm, hlk, hret, hnm⟩ := C
  obtain ⟨D1, rfl⟩ := D
  have hKs := hK.1.moved hvm.alike
  try dsimp only at hx hb hml hown hts hvm hlk hret hnm hKs
  intro H locs ls c h1 h2 h3 h4
  obtain ⟨cf', hPc, hback⟩ := WF_frame (hpk _ _ h1)
  have hts' : ∀ w ∈ wsM y' cc' nL' ret', w ∈ TSg := fun w hw => by
    rcases List.mem_cons.mp hw with rfl | hw
    · exact V.1
    · exact hw
  have hR : (rmM d' mc' ms').frames + 1 ≤ (rmM d mc ms).frames ∧ 8 + (nL' + 11) + (rmM d' mc' ms').locals ≤ (rmM d mc ms).locals := by
    have h5 := V.2.2.1
    exact ⟨hd, by show 8 + (nL' + 11) + (30 * d' + 130) ≤ 30 * d + 130; omega⟩
  have hbl : FrameBlind (va_Pc (Value.ref b :: As) (fun U => WH G c U)) := fun a U g mk q => ⟨q.1, q.2⟩
  have hpre : ∀ U : State, U.heap = H → s.WarmedH U.vm → va_Pc (Value.ref b :: As) (fun U => WH G c U) ((Value.ref b :: As)).toArray U := fun U hU hW => ⟨rfl, State.WarmedH.trans hvm hW, by rw [hU]; exact h2⟩
  have hrc : ∃ cellB : Cell, H[b]? = some cellB ∧ cellB.vm.isStatics = false ∧ s.vm.findClass y'.cls = some cellB.cls := by
    obtain ⟨cell, g2, g3, g4, -⟩ := hrecv s hvm _ _ H h1 h2
    exact ⟨cell, g2, g3, g4⟩
  have cb := callB_of (R := rmM d mc ms) (own := own) (index := idx) (ret := ret') (rm := rmM d' mc' ms') (mc := mc') (ms := ms') na hts (TSg_good hts') rfl rfl rfl (hts _ V.2.1) (hts _ S) V.2.2.2 hR
  have hrun := va_runV (Ts := TSg) (n := na) (rest := st) (cells := k) (slots := n) (locs := locs) (e := e) (below := below) (meth := meth) (g := F0 m pc ls (As.reverse ++ .ref b :: st)) ⟨hx, hb, hml, hown, hts⟩ (hM cf' c hPc) ⟨cb, hts _ Vv.1, hts _ Vv.2.1⟩ ⟨hbl, hrc, hpre⟩ rfl hna (h4.1.trans hL) rfl (lv_room hroom) D1 ⟨hk, hn⟩
  intro T0 hT X0
  obtain ⟨v, st₀, t, T', L, g0, X', hLf, e1, e2, ⟨x, hv, hpx, c', hw', hvm', hH'⟩, hgo⟩ := hrun T0 hT X0
  cases hv
  obtain ⟨t2, a1, b1⟩ := K x hpx T'.heap (locs ++ L) ls c' (hback _ _ hw') (by rw [e1]; exact hH') (fun z hz => (List.mem_append.mp hz).elim (h3 z) (hLf z)) h4 T' rfl X'
  exact ⟨t2, hgo t2 a1, b1⟩

theorem yK0r {idx nL' d' : Nat} {y' : MethodName} {cc' : ByteArray} {ret' : Option FieldType} {b : Nat} {P P' : List SA} {r : Value} (R' ws' : List SA) (C : OKc G X l own nm cc nL ret d mc ms) (hM : MD G l y' cc' nL' ret' d' 0 0 [.ref b] P (some r) P') (V : CV y' cc' nL' ret' 0) {ci : Nat} (Vv : CVv y' ci) (S : Cond.methodLink own idx y' ∈ TSg) (D : dx cc pc (.invokevirtual idx) 3 pc') (hpk : ∀ cf c, WF ws cf c → WF (P ++ R') cf c) (hrecv : ∀ s : State, G.1.WarmedH s.vm → ∀ cf c H, WF ws cf c → HH G c H → va_O y'.cls b (fun _ => False) s H) (hL : lv.length = nL) (hroom : (st.map fun v => v.category).sum ≤ 8) (hd : d' + 1 ≤ d) (hk : k ≤ mc) (hn : n ≤ ms) (hw : P' ++ R' = ws') (K : WX G X k n ws' pc' lv (r :: st)) : WX G X k n ws pc lv (.ref b :: st) :=
  x_callVK (As := []) R' C hM V Vv S hrecv D rfl hpk hL hroom hd hk hn (fun _ _ => by subst hw; exact K)
theorem yK1r {idx nL' d' : Nat} {y' : MethodName} {cc' : ByteArray} {ret' : Option FieldType} {b : Nat} {a1 : Value} {P P' : List SA} {r : Value} (R' ws' : List SA) (C : OKc G X l own nm cc nL ret d mc ms) (hM : MD G l y' cc' nL' ret' d' 0 0 [.ref b, a1] P (some r) P') (V : CV y' cc' nL' ret' 1) {ci : Nat} (Vv : CVv y' ci) (S : Cond.methodLink own idx y' ∈ TSg) (D : dx cc pc (.invokevirtual idx) 3 pc') (hpk : ∀ cf c, WF ws cf c → WF (P ++ R') cf c) (hrecv : ∀ s : State, G.1.WarmedH s.vm → ∀ cf c H, WF ws cf c → HH G c H → va_O y'.cls b (fun _ => False) s H) (hL : lv.length = nL) (hroom : (st.map fun v => v.category).sum ≤ 8) (hd : d' + 1 ≤ d) (hk : k ≤ mc) (hn : n ≤ ms) (hw : P' ++ R' = ws') (K : WX G X k n ws' pc' lv (r :: st)) : WX G X k n ws pc lv (a1 :: .ref b :: st) :=
  x_callVK (As := [a1]) R' C hM V Vv S hrecv D rfl hpk hL hroom hd hk hn (fun _ _ => by subst hw; exact K)

end Rules
theorem k_compact : Cond.fieldLink RJ0 38 "java/lang/String" "COMPACT_STRINGS" "Z" ∈ TSg := TS_3 43 rfl rfl
theorem k_sioobe : Cond.fieldLink RJ0 1053 "jdk/internal/util/Preconditions" "SIOOBE_FORMATTER" "Ljava/util/function/BiFunction;" ∈ TSg := TS_3 21 rfl rfl
theorem k_value : Cond.fieldLink RJ0 9 "java/lang/String" "value" "[B" ∈ TSg := TS_3 189 rfl rfl
theorem k_coder : Cond.fieldLink RJ0 15 "java/lang/String" "coder" "B" ∈ TSg := TS_3 190 rfl rfl
theorem lit_RX0_9 {G : Gm} (h : KS G) : ∃ q b, vk_R RX0 9 "" q G.1 ∧ strG G q b w_none0 := h.2.2.2 ("EchoLine$Line", 9, "", w_none0) (List.mem_of_getElem? (i := 0) rfl)
theorem lit_RX5_54 {G : Gm} (h : KS G) : ∃ q b, vk_R RX5 54 "line" q G.1 ∧ strG G q b w_line := h.2.2.2 ("EchoLine$Tokens", 54, "line", w_line) (List.mem_of_getElem? (i := 1) rfl)
theorem lit_RX5_60 {G : Gm} (h : KS G) : ∃ q b, vk_R RX5 60 "cap" q G.1 ∧ strG G q b w_cap := h.2.2.2 ("EchoLine$Tokens", 60, "cap", w_cap) (List.mem_of_getElem? (i := 2) rfl)
theorem lit_RX5_62 {G : Gm} (h : KS G) : ∃ q b, vk_R RX5 62 "marks" q G.1 ∧ strG G q b w_marks := h.2.2.2 ("EchoLine$Tokens", 62, "marks", w_marks) (List.mem_of_getElem? (i := 3) rfl)
theorem lit_RX5_64 {G : Gm} (h : KS G) : ∃ q b, vk_R RX5 64 "share" q G.1 ∧ strG G q b w_share := h.2.2.2 ("EchoLine$Tokens", 64, "share", w_share) (List.mem_of_getElem? (i := 4) rfl)
theorem lit_RX5_66 {G : Gm} (h : KS G) : ∃ q b, vk_R RX5 66 "echo" q G.1 ∧ strG G q b w_echo := h.2.2.2 ("EchoLine$Tokens", 66, "echo", w_echo) (List.mem_of_getElem? (i := 5) rfl)
theorem lit_RX5_68 {G : Gm} (h : KS G) : ∃ q b, vk_R RX5 68 "none" q G.1 ∧ strG G q b w_none := h.2.2.2 ("EchoLine$Tokens", 68, "none", w_none) (List.mem_of_getElem? (i := 6) rfl)
theorem lit_RX5_70 {G : Gm} (h : KS G) : ∃ q b, vk_R RX5 70 "each" q G.1 ∧ strG G q b w_each := h.2.2.2 ("EchoLine$Tokens", 70, "each", w_each) (List.mem_of_getElem? (i := 7) rfl)
theorem lit_RX5_72 {G : Gm} (h : KS G) : ∃ q b, vk_R RX5 72 "whole" q G.1 ∧ strG G q b w_whole := h.2.2.2 ("EchoLine$Tokens", 72, "whole", w_whole) (List.mem_of_getElem? (i := 8) rfl)
theorem lit_RX5_74 {G : Gm} (h : KS G) : ∃ q b, vk_R RX5 74 "lend" q G.1 ∧ strG G q b w_lend := h.2.2.2 ("EchoLine$Tokens", 74, "lend", w_lend) (List.mem_of_getElem? (i := 9) rfl)
theorem lit_RX5_76 {G : Gm} (h : KS G) : ∃ q b, vk_R RX5 76 "to" q G.1 ∧ strG G q b w_to := h.2.2.2 ("EchoLine$Tokens", 76, "to", w_to) (List.mem_of_getElem? (i := 10) rfl)
theorem lit_RX5_78 {G : Gm} (h : KS G) : ∃ q b, vk_R RX5 78 "for" q G.1 ∧ strG G q b w_for := h.2.2.2 ("EchoLine$Tokens", 78, "for", w_for) (List.mem_of_getElem? (i := 11) rfl)
theorem lit_RX5_80 {G : Gm} (h : KS G) : ∃ q b, vk_R RX5 80 "type" q G.1 ∧ strG G q b w_type := h.2.2.2 ("EchoLine$Tokens", 80, "type", w_type) (List.mem_of_getElem? (i := 12) rfl)
theorem lit_RL_47 {G : Gm} (h : KS G) : ∃ q b, vk_R RL 47 "line l" q G.1 ∧ strG G q b wl_47 := h.2.2.2 ("EchoLineLaw", 47, "line l", wl_47) (List.mem_of_getElem? (i := 13) rfl)
theorem lit_RL_58 {G : Gm} (h : KS G) : ∃ q b, vk_R RL 58 " cap " q G.1 ∧ strG G q b wl_58 := h.2.2.2 ("EchoLineLaw", 58, " cap ", wl_58) (List.mem_of_getElem? (i := 14) rfl)
theorem lit_RL_63 {G : Gm} (h : KS G) : ∃ q b, vk_R RL 63 " marks " q G.1 ∧ strG G q b wl_63 := h.2.2.2 ("EchoLineLaw", 63, " marks ", wl_63) (List.mem_of_getElem? (i := 15) rfl)
theorem lit_RL_65 {G : Gm} (h : KS G) : ∃ q b, vk_R RL 65 " " q G.1 ∧ strG G q b wl_65 := h.2.2.2 ("EchoLineLaw", 65, " ", wl_65) (List.mem_of_getElem? (i := 16) rfl)
theorem lit_RL_67 {G : Gm} (h : KS G) : ∃ q b, vk_R RL 67 " share " q G.1 ∧ strG G q b wl_67 := h.2.2.2 ("EchoLineLaw", 67, " share ", wl_67) (List.mem_of_getElem? (i := 17) rfl)
theorem lit_RL_69 {G : Gm} (h : KS G) : ∃ q b, vk_R RL 69 " echo none" q G.1 ∧ strG G q b wl_69 := h.2.2.2 ("EchoLineLaw", 69, " echo none", wl_69) (List.mem_of_getElem? (i := 18) rfl)
theorem lit_RL_71 {G : Gm} (h : KS G) : ∃ q b, vk_R RL 71 " echo each" q G.1 ∧ strG G q b wl_71 := h.2.2.2 ("EchoLineLaw", 71, " echo each", wl_71) (List.mem_of_getElem? (i := 19) rfl)
theorem lit_RL_73 {G : Gm} (h : KS G) : ∃ q b, vk_R RL 73 " echo whole" q G.1 ∧ strG G q b wl_73 := h.2.2.2 ("EchoLineLaw", 73, " echo whole", wl_73) (List.mem_of_getElem? (i := 20) rfl)
theorem lit_RL_75 {G : Gm} (h : KS G) : ∃ q b, vk_R RL 75 ";" q G.1 ∧ strG G q b wl_75 := h.2.2.2 ("EchoLineLaw", 75, ";", wl_75) (List.mem_of_getElem? (i := 21) rfl)
theorem lit_RL_77 {G : Gm} (h : KS G) : ∃ q b, vk_R RL 77 "lend l" q G.1 ∧ strG G q b wl_77 := h.2.2.2 ("EchoLineLaw", 77, "lend l", wl_77) (List.mem_of_getElem? (i := 22) rfl)
theorem lit_RL_79 {G : Gm} (h : KS G) : ∃ q b, vk_R RL 79 " to l" q G.1 ∧ strG G q b wl_79 := h.2.2.2 ("EchoLineLaw", 79, " to l", wl_79) (List.mem_of_getElem? (i := 23) rfl)
theorem lit_RL_81 {G : Gm} (h : KS G) : ∃ q b, vk_R RL 81 " for " q G.1 ∧ strG G q b wl_81 := h.2.2.2 ("EchoLineLaw", 81, " for ", wl_81) (List.mem_of_getElem? (i := 24) rfl)
theorem lit_RL_83 {G : Gm} (h : KS G) : ∃ q b, vk_R RL 83 "type l" q G.1 ∧ strG G q b wl_83 := h.2.2.2 ("EchoLineLaw", 83, "type l", wl_83) (List.mem_of_getElem? (i := 25) rfl)
theorem strG.rcv {G : Gm} {q b : Nat} {w : List Int} (h : strG G q b w) {ws : List SA} : ∀ s : State, G.1.WarmedH s.vm → ∀ cf c H, WF ws cf c → HH G c H → va_O "java/lang/String" q nF s H := fun s hs cf c H hw hH => ((h.sk ws).2 s hs cf c H hw hH).1
