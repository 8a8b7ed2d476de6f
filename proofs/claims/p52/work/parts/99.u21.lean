/-! Strings are made: StringBuilder as it is used for names. -/
theorem eJ4_length_8abf5_0 : dx cJ4_length_8abf5 0 (.aload_n 0) 1 1 := ⟨by decide +kernel, rfl⟩
theorem eJ4_length_8abf5_1 : dx cJ4_length_8abf5 1 (.invokespecial 343) 3 4 := ⟨by decide +kernel, rfl⟩
theorem eJ4_length_8abf5_4 : dx cJ4_length_8abf5 4 (.ireturn) 1 5 := ⟨by decide +kernel, rfl⟩
theorem im_J5_isLatin1_aae02 : Cond.instanceMethod yJ5_isLatin1_aae02 ∈ TSg := TS_3 5 rfl rfl
theorem sm_J5_isLatin1_aae02 : Cond.sameMethod yJ5_isLatin1_aae02.cls yJ5_isLatin1_aae02.cls yJ5_isLatin1_aae02.name yJ5_isLatin1_aae02.desc ∈ TSg := TS_3 6 rfl rfl
theorem im_J5_getValue_6d5f1 : Cond.instanceMethod yJ5_getValue_6d5f1 ∈ TSg := TS_3 154 rfl rfl
theorem sm_J5_getValue_6d5f1 : Cond.sameMethod yJ5_getValue_6d5f1.cls yJ5_getValue_6d5f1.cls yJ5_getValue_6d5f1.name yJ5_getValue_6d5f1.desc ∈ TSg := TS_3 155 rfl rfl
theorem im_J5_append_3fe6f : Cond.instanceMethod yJ5_append_3fe6f ∈ TSg := TS_3 86 rfl rfl
theorem sm_J5_append_3fe6f : Cond.sameMethod yJ5_append_3fe6f.cls yJ5_append_3fe6f.cls yJ5_append_3fe6f.name yJ5_append_3fe6f.desc ∈ TSg := TS_5 208 rfl rfl
theorem im_J5_ensureCapacityInternal_d00df : Cond.instanceMethod yJ5_ensureCapacityInternal_d00df ∈ TSg := TS_2 211 rfl rfl
theorem sm_J5_ensureCapacityInternal_d00df : Cond.sameMethod yJ5_ensureCapacityInternal_d00df.cls yJ5_ensureCapacityInternal_d00df.cls yJ5_ensureCapacityInternal_d00df.name yJ5_ensureCapacityInternal_d00df.desc ∈ TSg := TS_5 203 rfl rfl
theorem im_J4_length_8abf5 : Cond.instanceMethod yJ4_length_8abf5 ∈ TSg := TS_3 162 rfl rfl
theorem im_J5_length_8abf5 : Cond.instanceMethod yJ5_length_8abf5 ∈ TSg := TS_3 159 rfl rfl
theorem sm_J5_length_8abf5 : Cond.sameMethod yJ5_length_8abf5.cls yJ5_length_8abf5.cls yJ5_length_8abf5.name yJ5_length_8abf5.desc ∈ TSg := TS_3 160 rfl rfl
theorem sup_J4 : Cond.superclass RJ4 "java/lang/AbstractStringBuilder" ∈ TSg := TS_2 196 rfl rfl
theorem sel_J5_isLatin1_aae02 : Cond.selects "java/lang/StringBuilder" yJ5_isLatin1_aae02 yJ5_isLatin1_aae02 ∈ TSg := TS_3 7 rfl rfl
theorem sel_J5_getValue_6d5f1 : Cond.selects "java/lang/StringBuilder" yJ5_getValue_6d5f1 yJ5_getValue_6d5f1 ∈ TSg := TS_3 156 rfl rfl
theorem sel_J5_length_8abf5 : Cond.selects "java/lang/StringBuilder" yJ5_length_8abf5 yJ4_length_8abf5 ∈ TSg := TS_3 161 rfl rfl
theorem k_compact5 : Cond.fieldLink RJ5 18 "java/lang/String" "COMPACT_STRINGS" "Z" ∈ TSg := TS_2 175 rfl rfl
theorem hci_1 : ∃ (T : u_T) (N : Nat), CL[1]? = some ("java/lang/StringBuilder", T, N) := ⟨_, _, rfl⟩
def sbI (w : List Int) : Nat → Int := fun k => if k = 3 then (w.length : Int) else 0
def PLw (M : Pool) : Prop := ∀ x ∈ M, x.2.2.length ≤ 400 ∧ ∀ c ∈ x.2.2, 0 ≤ c ∧ c < 128
theorem PLok_of {G : Gm} {M : Pool} (hS : KS G) (hM : PLw M) : PLok G M := by
  intro q b w hm
  obtain ⟨q0, b0, -, h0, -, h2, h3, -⟩ := lit_RX5_54 hS
  refine ⟨⟨(hM _ hm).1, (hM _ hm).2⟩, fun s hs cf c H hw hH => ?_⟩
  have hKs := hS.1.1.1.moved hs.alike
  obtain ⟨dd, hPd, hsub, -, -⟩ := WF_put hw (q := 0) rfl
  obtain ⟨g1, g, hg, g2⟩ := hPd _ hm
  obtain ⟨r9, e1, cell, c1, c2, c3, c4⟩ := (hH.2.2 q _ (hsub _ _ g1)).2
  have e2 : r9 = (RJ0, TJ0, 4) := Option.some.inj (e1.symm.trans rfl)
  subst e2
  have a2 := (hH.2.2 b _ (hsub _ _ g2)).2
  have a2 : H[b]? = some (arrV (G.2.2 1) w.length (fun j => .int (g j))) := a2
  have hK0 := hKs.1 0 _ (rfl : CL[0]? = some (RJ0, TJ0, 4))
  have fld : ∀ (n d : String) (v v0 : Value) (k : Nat), k < 4 → (TJ0 k).1 = "java/lang/String" → (TJ0 k).2.1 = n → (TJ0 k).2.2.1 = d → va_OF "java/lang/String" n d v0 q0 (old G) G.1 G.1.heap → cell.slots[G.2.1.2 0 k]? = some v → va_OF "java/lang/String" n d v q nF s H := by
    intro n d v v0 k hk t1 t2 t3 hof hv
    obtain ⟨cf1, k1, i1, f1, cell1, u1, u2, u3, u4, u5, u6⟩ := hof.moved hs.alike
    obtain ⟨cf2, k2, i2, f2, w1, w2⟩ := hK0.1 k hk
    rw [t1, t2, t3] at w1
    obtain ⟨-, -, -, ef⟩ : cf1 = cf2 ∧ k1 = k2 ∧ i1 = i2 ∧ f1 = f2 := by
      have := u1.symm.trans w1
      cases this
      exact ⟨rfl, rfl, rfl, rfl⟩
    subst ef
    exact ⟨_, _, _, _, cell, u1, u2, c1, (by rw [c3]; exact fun z => nomatch z), (by rw [w2]; exact hv), fun z => z⟩
  refine ⟨⟨cell, c1, by rw [c3]; rfl, by rw [c2]; exact hK0.2.1, fun z => z⟩, fld _ _ _ _ 1 (by decide) (by decide +kernel) (by decide +kernel) (by decide +kernel) h2 ?_, fld _ _ _ _ 0 (by decide) (by decide +kernel) (by decide +kernel) (by decide +kernel) h3 ?_, ⟨_, a2, (hKs.2 1 (G.2.2 1, .byte) rfl).1 _ _, (fun z => by cases z), ?_, ?_, fun j hj => ?_, fun z => z⟩⟩
  · rw [c4 1 (by decide)]; rfl
  · rw [c4 0 (by decide)]; rfl
  · show w.length ≤ (Array.ofFn (n := w.length) _).size
    rw [Array.size_ofFn]; exact Nat.le_refl _
  · show (Array.ofFn (n := w.length) _).size.toInt32 = _
    rw [Array.size_ofFn]
  · show (Array.ofFn (n := w.length) (fun j => Value.int (g j.val)))[j]? = _
    rw [Array.getElem?_ofFn, dif_pos hj]
    exact congrArg (fun z => some (Value.int z)) (hg j hj)
/-- one string more -/
theorem WF_PL {G : Gm} {M : Pool} {q b : Nat} {w : List Int} {R : List SA} {cf c : Sto} (h : WF (ob q 0 [some (.ref b), some (.int (zI 0)), none, none] (fun _ => 0) :: ar G 1 b w.length w.length (oF w) :: PL G M :: R) cf c) : WF (PL G ((q, b, w) :: M) :: R) cf c := by
  refine WF_close (L := [ob q 0 [some (.ref b), some (.int (zI 0)), none, none] (fun _ => 0), ar G 1 b w.length w.length (oF w), PL G M]) h (fun d hd => ?_)
  obtain ⟨f, f1, f2, f3, -⟩ := hd
  intro x hx
  rcases List.mem_cons.mp hx with rfl | hx
  · have g0 := f1 0 _ rfl
    obtain ⟨g, -, g2, g3⟩ := f1 1 _ rfl
    exact ⟨(f3 0 _ _ (by simp) g0).1, g, g2, (f3 1 _ _ (by simp) g3).1⟩
  · obtain ⟨g1, g, g2, g3⟩ := f1 2 _ rfl x hx
    exact ⟨(f3 2 _ _ (by simp) g1).1, g, g2, (f3 2 _ _ (by simp) g3).1⟩
theorem fits_b {x : Int} (h : 0 ≤ x ∧ x < 128) : fits .byte (.int (zI x)) = true := by
  have h0 : ∀ k : Fin 128, fits .byte (.int (zI ((k : Nat) : Int))) = true := by decide +kernel
  have h1 := h0 ⟨x.toNat, by omega⟩
  rw [show (((⟨x.toNat, by omega⟩ : Fin 128) : Nat) : Int) = x by show ((x.toNat : Nat) : Int) = x; omega] at h1
  exact h1

section Rules
variable {G : Gm} {X : Cx} {l : Launch} {own nm : String} {cc : ByteArray} {nL : Nat} {ret : Option FieldType} {d mc ms : Nat} {k n : Nat} {ws : List SA} {pc pc' len : Nat} {lv : List (Option Value)} {st : List Value}
variable {T : Type} {rv : T → Option Value} {post : T → Prop} {wx : T → List SA}
theorem x_copyB {idx : Nat} {a b N0 N1 M0 M1 : Nat} {f g : Nat → Int} {sp dp z : Int} (ws' : List SA) (M' : Nat) (q0 q1 : Nat) (C : OKc G X l own nm cc nL ret d mc ms) (S : Cond.methodLink own idx arraycopyName ∈ TSg) (S2 : Cond.native arraycopyName ∈ TSg ∧ Cond.static arraycopyName ∈ TSg ∧ Cond.initialized "java/lang/System" ∈ TSg) (D : dx cc pc (.invokestatic idx) 3 pc') (hq0 : ws[q0]? = some (ar G 1 a N0 M0 f)) (hq1 : ws[q1]? = some (ar G 1 b N1 M1 g)) (hN : N0 < 2147483648 ∧ N1 < 2147483648) (hs : 0 ≤ sp ∧ 0 ≤ dp ∧ 0 ≤ z) (h0 : sp + z ≤ (M0 : Int)) (h9 : dp + z ≤ (N1 : Int)) (hM : (M' : Int) ≤ dp + z ∧ dp ≤ (M1 : Int) ∨ M' ≤ M1) (hL : lv.length = nL) (hroom : (st.map fun v => v.category).sum ≤ 8) (hfb : ∀ j : Nat, j < M0 → 0 ≤ f j ∧ f j < 128) (hd : 3 ≤ d) (hw : ws.set q1 (ar G 1 b N1 M' (fun j => if dp.toNat ≤ j ∧ j < dp.toNat + z.toNat then f (sp.toNat + (j - dp.toNat)) else g j)) = ws') (K : WX G X k n ws' pc' lv st) : WX G X k n ws pc lv (.int (zI z) :: .int (zI dp) :: .ref b :: .int (zI sp) :: .ref a :: st) := by
  obtain ⟨p, l, e, R, s, m, args, below, meth, c0, cf, Q⟩ := X
  obtain ⟨hx, rfl, rfl, hb, hml, hown, hts, hK, hvm, hlk, hret, hnm⟩ := C
  obtain ⟨D1, rfl⟩ := D
  have hKs := hK.1.moved hvm.alike
  try dsimp only at hx hb hml hown hts hvm hlk hret hnm hKs
  intro H locs ls c h1 h2 h3 h4
  obtain ⟨d0, ⟨g0, hm0, hg0, hd0⟩, hsub0, -, -⟩ := WF_put h1 hq0
  obtain ⟨d1, ⟨g1, hm1, hg1, hd1⟩, hsub1, -, hset⟩ := WF_put h1 hq1
  obtain ⟨w9, wP, wD, wc, -⟩ := HH_list h2
  obtain ⟨j0, hj0⟩ := wc a _ (hsub0 a _ hd0)
  obtain ⟨j1, hj1⟩ := wc b _ (hsub1 b _ hd1)
  have es : (zI sp).toNatClampNeg = sp.toNat := zI_nat hs.1 (by omega)
  have ed : (zI dp).toNatClampNeg = dp.toNat := zI_nat hs.2.1 (by omega)
  have ez : (zI z).toNatClampNeg = z.toNat := zI_nat hs.2.2 (by omega)
  have nn : ∀ x : Int, 0 ≤ x ∧ x < 2147483648 → ¬ zI x < 0 := fun x hx q => by rw [zI_0, zI_lt ⟨by omega, by omega⟩ ⟨by omega, by omega⟩] at q; omega
  refine va_copyi (D := G.2.1) (cl := CL) hx hb (by rw [hml, h4.1, hL]) hown (hts _ S) (hts _ S2.1) (hts _ S2.2.1) (hts _ S2.2.2) hKs wP wD (HH_ge (H1 := H) (locs1 := locs) h3) j0 j1 1 1 hj0 hj1 rfl rfl rfl (nn sp ⟨hs.1, by omega⟩) (nn dp ⟨hs.2.1, by omega⟩) (nn z ⟨hs.2.2, by omega⟩) (by rw [es, ez]; omega) (by rw [ed, ez]; omega) (fun i hi => by rw [es, hg0 _ (by rw [ez] at hi; omega)]; exact fits_b (hfb _ (by rw [ez] at hi; omega))) (by show 1 ≤ d; omega) (by
    have : nativeFrameWords "java/lang/System" "arraycopy" 5 + 11 ≤ 160 := by decide +kernel
    show _ ≤ 30 * d + 130
    omega) D1 (fun H1 locs1 p1 _ s1 => ?_)
  subst hw
  refine K H1 locs1 ls _ (hset b _ _ _ hd1 ⟨_, by omega, fun j hj => ?_, s_up_s _ _ _⟩) (HH_set h2 hj1 wc p1 s1 (hsub1 b _ hd1)) s1.2.2 h4
  rw [es, ed, ez]
  unfold va_cpy
  dsimp only
  by_cases hh : dp.toNat ≤ j ∧ j < dp.toNat + z.toNat
  · rw [if_pos hh, if_pos hh]
    exact hg0 _ (by omega)
  · rw [if_neg hh, if_neg hh]
    exact hg1 _ (by omega)

end Rules

set_option maxHeartbeats 4000000 in
set_option maxRecDepth 100000 in
theorem s_J5_isLatin1_aae02 {G : Gm} {l : Launch} (hK : KG G) {sb vb : Nat} {w : List Int} (hS : KS G) : MD G l yJ5_isLatin1_aae02 cJ5_isLatin1_aae02 1 (some .boolean) 1 0 0 [.ref sb] [ob sb 1 [some (.ref vb), some (.int (zI 0)), none, none] (sbI (w))] (some (.int (zI 1))) [ob sb 1 [some (.ref vb), some (.int (zI 0)), none, none] (sbI (w))] := by
  refine MX_of (lv := [some (.ref sb)]) hK (by decide +kernel) rfl (nle rfl) (fun X C F => ?_)
  have C : OKc G X l RJ5 "isLatin1" cJ5_isLatin1_aae02 1 (some .boolean) 1 0 0 := C
  refine x_getsK C k_compact5 eJ5_isLatin1_aae02_0 hS.2.1 ?_
  refine x_if_eq 17 C eJ5_isLatin1_aae02_3 rfl (by omega) (fun h3 => ?_) (fun h3 => ?_)
  · exfalso; omega
  · refine x_aload_n C eJ5_isLatin1_aae02_6 rfl ?_
    refine x_getR 0 C f_RJ5_22 eJ5_isLatin1_aae02_7 rfl rfl ?_
    refine x_if_ne 17 C eJ5_isLatin1_aae02_10 rfl (by omega) (fun h10 => ?_) (fun h10 => ?_)
    · exfalso; omega
    · refine x_iconst C eJ5_isLatin1_aae02_13 ?_
      refine x_goto (pc' := 18) C eJ5_isLatin1_aae02_14 rfl ?_
      refine x_iret (narZ (by omega)).1 C F eJ5_isLatin1_aae02_18 () ?_ trivial (fun cf c h => ?_) (nle rfl) (nle rfl)
      · rfl
      · exact WF_pick [0] rfl rfl h
    
  

set_option maxHeartbeats 4000000 in
set_option maxRecDepth 100000 in
theorem s_J5_getValue_6d5f1 {G : Gm} {l : Launch} (hK : KG G) {sb vb : Nat} {w : List Int}  : MD G l yJ5_getValue_6d5f1 cJ5_getValue_6d5f1 1 (some (.array .byte)) 1 0 0 [.ref sb] [ob sb 1 [some (.ref vb), some (.int (zI 0)), none, none] (sbI (w))] (some (.ref vb)) [ob sb 1 [some (.ref vb), some (.int (zI 0)), none, none] (sbI (w))] := by
  refine MX_of (lv := [some (.ref sb)]) hK (by decide +kernel) rfl (nle rfl) (fun X C F => ?_)
  have C : OKc G X l RJ5 "getValue" cJ5_getValue_6d5f1 1 (some (.array .byte)) 1 0 0 := C
  refine x_aload_n C eJ5_getValue_6d5f1_0 rfl ?_
  refine x_getR 0 C f_RJ5_15 eJ5_getValue_6d5f1_1 rfl rfl ?_
  exact x_aret (Or.inr ⟨_, rfl⟩) C F eJ5_getValue_6d5f1_4 () rfl trivial (fun cf c h => h) (nle rfl) (nle rfl)

set_option maxHeartbeats 4000000 in
set_option maxRecDepth 100000 in
theorem s_J5_length_8abf5 {G : Gm} {l : Launch} (hK : KG G) {sb vb : Nat} {w : List Int}  : MD G l yJ5_length_8abf5 cJ5_length_8abf5 1 (some .int) 1 0 0 [.ref sb] [ob sb 1 [some (.ref vb), some (.int (zI 0)), none, none] (sbI (w))] (some (.int (zI (w.length : Int)))) [ob sb 1 [some (.ref vb), some (.int (zI 0)), none, none] (sbI (w))] := by
  refine MX_of (lv := [some (.ref sb)]) hK (by decide +kernel) rfl (nle rfl) (fun X C F => ?_)
  have C : OKc G X l RJ5 "length" cJ5_length_8abf5 1 (some .int) 1 0 0 := C
  refine x_aload_n C eJ5_length_8abf5_0 rfl ?_
  refine x_getI 0 C f_RJ5_79 eJ5_length_8abf5_1 rfl rfl ?_
  try simp (disch := decide) only [up_s, up_n]
  refine x_iret (by first | rfl | exact (narZ (by omega)).1) C F eJ5_length_8abf5_4 () ?_ trivial (fun cf c h => ?_) (nle rfl) (nle rfl)
  · rfl
  · exact WF_pick [0] rfl rfl h

set_option maxHeartbeats 4000000 in
set_option maxRecDepth 100000 in
theorem s_J4_length_8abf5 {G : Gm} {l : Launch} (hK : KG G) {sb vb : Nat} {w : List Int}  : MD G l yJ4_length_8abf5 cJ4_length_8abf5 1 (some .int) 2 0 0 [.ref sb] [ob sb 1 [some (.ref vb), some (.int (zI 0)), none, none] (sbI (w))] (some (.int (zI (w.length : Int)))) [ob sb 1 [some (.ref vb), some (.int (zI 0)), none, none] (sbI (w))] := by
  refine MX_of (lv := [some (.ref sb)]) hK (by decide +kernel) rfl (nle rfl) (fun X C F => ?_)
  have C : OKc G X l RJ4 "length" cJ4_length_8abf5 1 (some .int) 2 0 0 := C
  refine x_aload_n C eJ4_length_8abf5_0 rfl ?_
  refine ySU0r [] [_] C (s_J5_length_8abf5 hK ) v_J5_length_8abf5 hci_1 im_J5_length_8abf5 (by decide +kernel) s_RJ4_343 sm_J5_length_8abf5 sup_J4 eJ4_length_8abf5_1 (fun _ _ h => WF_pick [0] rfl rfl h) (rcv 0 rfl) rfl (nle rfl) (nle rfl) (nle rfl) (nle rfl) rfl ?_
  refine x_iret (by first | rfl | exact (narZ (by omega)).1) C F eJ4_length_8abf5_4 () ?_ trivial (fun cf c h => ?_) (nle rfl) (nle rfl)
  · rfl
  · exact WF_pick [0] rfl rfl h

set_option maxHeartbeats 4000000 in
set_option maxRecDepth 100000 in
theorem s_J1_canEncode_fc78d {G : Gm} {l : Launch} (hK : KG G) {c9 : Int} (hc : 0 ≤ c9 ∧ c9 < 128) : MD G l yJ1_canEncode_fc78d cJ1_canEncode_fc78d 1 (some .boolean) 1 0 0 [.int (zI c9)] [] (some (.int (zI 1))) [] := by
  refine MX_of (lv := [some (.int (zI c9))]) hK (by decide +kernel) rfl (nle rfl) (fun X C F => ?_)
  have C : OKc G X l RJ1 "canEncode" cJ1_canEncode_fc78d 1 (some .boolean) 1 0 0 := C
  refine x_iload_n C eJ1_canEncode_fc78d_0 rfl ?_
  refine x_sipush C eJ1_canEncode_fc78d_1 rfl ?_
  refine x_icmp_gt 11 C eJ1_canEncode_fc78d_4 rfl (by omega) (by omega) (fun h4 => ?_) (fun h4 => ?_)
  · exfalso; omega
  · refine x_iconst C eJ1_canEncode_fc78d_7 ?_
    refine x_goto (pc' := 12) C eJ1_canEncode_fc78d_8 rfl ?_
    refine x_iret (narZ (by omega)).1 C F eJ1_canEncode_fc78d_12 () ?_ trivial (fun cf c h => ?_) (nle rfl) (nle rfl)
    · rfl
    · exact WF_pick [] rfl rfl h

set_option maxHeartbeats 4000000 in
set_option maxRecDepth 100000 in
theorem s_J5_ensureCapacityInternal_d00df {G : Gm} {l : Launch} (hK : KG G) {sb vb : Nat} {w : List Int} {c9 : Int} (hc : 0 ≤ c9 ∧ c9 ≤ 16) : MD G l yJ5_ensureCapacityInternal_d00df cJ5_ensureCapacityInternal_d00df 3 none 1 0 0 [.ref sb, .int (zI c9)] [ob sb 1 [some (.ref vb), some (.int (zI 0)), none, none] (sbI (w)), ar G 1 vb 16 (w).length (oF (w))] none [ob sb 1 [some (.ref vb), some (.int (zI 0)), none, none] (sbI (w)), ar G 1 vb 16 (w).length (oF (w))] := by
  refine MX_of (lv := [some (.ref sb), some (.int (zI c9)), none]) hK (by decide +kernel) rfl (nle rfl) (fun X C F => ?_)
  have C : OKc G X l RJ5 "ensureCapacityInternal" cJ5_ensureCapacityInternal_d00df 3 none 1 0 0 := C
  refine x_aload_n C eJ5_ensureCapacityInternal_d00df_0 rfl ?_
  refine x_getR 0 C f_RJ5_15 eJ5_ensureCapacityInternal_d00df_1 rfl rfl ?_
  refine x_alen 1 C eJ5_ensureCapacityInternal_d00df_4 rfl (by decide) ar_al ?_
  refine x_aload_n C eJ5_ensureCapacityInternal_d00df_5 rfl ?_
  refine x_getR 0 C f_RJ5_22 eJ5_ensureCapacityInternal_d00df_6 rfl rfl ?_
  refine x_ishrR C eJ5_ensureCapacityInternal_d00df_9 ?_
  rw [shr0]
  refine x_istore_n [_, _, _] C eJ5_ensureCapacityInternal_d00df_10 rfl rfl (nlt rfl) ?_
  refine x_iload_n C eJ5_ensureCapacityInternal_d00df_11 rfl ?_
  refine x_iload_n C eJ5_ensureCapacityInternal_d00df_12 rfl ?_
  refine x_isub C eJ5_ensureCapacityInternal_d00df_13 ?_
  refine x_if_le 38 C eJ5_ensureCapacityInternal_d00df_14 rfl (by omega) (fun h14 => ?_) (fun h14 => ?_)
  · refine x_vret C F eJ5_ensureCapacityInternal_d00df_38 () rfl trivial (fun cf c h => ?_) (nle rfl) (nle rfl)
    exact WF_pick [0, 1] rfl rfl h
  · exfalso; omega
  

set_option maxHeartbeats 4000000 in
set_option maxRecDepth 100000 in
theorem s_J5_append_3fe6f {G : Gm} {l : Launch} (hK : KG G) {sb vb : Nat} {w : List Int} {c9 : Int} (hS : KS G) (hw : w.length < 16) (hc : 0 ≤ c9 ∧ c9 < 128) : MD G l yJ5_append_3fe6f cJ5_append_3fe6f 2 (some (.object "java/lang/AbstractStringBuilder")) 2 0 0 [.ref sb, .int (zI c9)] [ob sb 1 [some (.ref vb), some (.int (zI 0)), none, none] (sbI (w)), ar G 1 vb 16 (w).length (oF (w))] (some (.ref sb)) [ob sb 1 [some (.ref vb), some (.int (zI 0)), none, none] (sbI (w ++ [c9])), ar G 1 vb 16 (w ++ [c9]).length (oF (w ++ [c9]))] := by
  refine MX_of (lv := [some (.ref sb), some (.int (zI c9))]) hK (by decide +kernel) rfl (nle rfl) (fun X C F => ?_)
  have C : OKc G X l RJ5 "append" cJ5_append_3fe6f 2 (some (.object "java/lang/AbstractStringBuilder")) 2 0 0 := C
  refine x_aload_n C eJ5_append_3fe6f_0 rfl ?_
  refine x_aload_n C eJ5_append_3fe6f_1 rfl ?_
  refine x_getI 0 C f_RJ5_79 eJ5_append_3fe6f_2 rfl rfl ?_
  rw [show sbI w 3 = (w.length : Int) from rfl]
  refine x_iconst C eJ5_append_3fe6f_5 ?_
  refine x_iadd C eJ5_append_3fe6f_6 ?_
  refine yVP1v [] [_, _] C (s_J5_ensureCapacityInternal_d00df hK (by omega)) v_J5_ensureCapacityInternal_d00df hci_1 im_J5_ensureCapacityInternal_d00df s_RJ5_100 sm_J5_ensureCapacityInternal_d00df hS.1.2 eJ5_append_3fe6f_7 (fun _ _ h => WF_pick [0, 1] rfl rfl h) (rcv 0 rfl) rfl (nle rfl) (nle rfl) (nle rfl) (nle rfl) rfl ?_
  refine x_aload_n C eJ5_append_3fe6f_10 rfl ?_
  refine yU0r [_] [_, _] C (s_J5_isLatin1_aae02 hK hS) v_J5_isLatin1_aae02 hci_1 im_J5_isLatin1_aae02 s_RJ5_83 sm_J5_isLatin1_aae02 sel_J5_isLatin1_aae02 eJ5_append_3fe6f_11 (fun _ _ h => WF_pick [0, 1] rfl rfl h) (rcv 0 rfl) rfl (nle rfl) (nle rfl) (nle rfl) (nle rfl) rfl ?_
  refine x_if_eq 45 C eJ5_append_3fe6f_14 rfl (by omega) (fun h14 => ?_) (fun h14 => ?_)
  · exfalso; omega
  · refine x_iload_n C eJ5_append_3fe6f_17 rfl ?_
    refine yS1r [_, _] [_, _] C (s_J1_canEncode_fc78d hK hc) v_J1_canEncode_fc78d vs_J1_canEncode_fc78d s_RJ5_191 eJ5_append_3fe6f_18 (fun _ _ h => WF_pick [0, 1] rfl rfl h) rfl (nle rfl) (nle rfl) (nle rfl) (nle rfl) rfl ?_
    refine x_if_eq 45 C eJ5_append_3fe6f_21 rfl (by omega) (fun h21 => ?_) (fun h21 => ?_)
    · exfalso; omega
    · refine x_aload_n C eJ5_append_3fe6f_24 rfl ?_
      refine x_getR 0 C f_RJ5_15 eJ5_append_3fe6f_25 rfl rfl ?_
      refine x_aload_n C eJ5_append_3fe6f_28 rfl ?_
      refine x_dup C eJ5_append_3fe6f_29 rfl ?_
      refine x_getI 0 C f_RJ5_79 eJ5_append_3fe6f_30 rfl rfl ?_
      rw [show sbI w 3 = (w.length : Int) from rfl]
      refine x_dup_x1 C eJ5_append_3fe6f_33 rfl rfl ?_
      refine x_iconst C eJ5_append_3fe6f_34 ?_
      refine x_iadd C eJ5_append_3fe6f_35 ?_
      refine x_putI [_, _] 0 C f_RJ5_79 eJ5_append_3fe6f_36 rfl rfl rfl ?_
      refine x_iload_n C eJ5_append_3fe6f_39 rfl ?_
      refine x_i2bR C eJ5_append_3fe6f_40 ?_
      refine x_bast (x := 0) [_, _] (w.length + 1) 1 C eJ5_append_3fe6f_41 rfl (by decide) (by omega) (by omega) rfl ?_
      refine x_goto (pc' := 75) C eJ5_append_3fe6f_42 rfl ?_
      refine x_aload_n C eJ5_append_3fe6f_75 rfl ?_
      refine x_aret (Or.inl ⟨_, rfl⟩) C F eJ5_append_3fe6f_76 () ?_ trivial (fun cf c h => ?_) (nle rfl) (nle rfl)
      · rfl
      · refine PW.wf (PW_cons (fun _ h => ob_congr (fun i hi9 => ?_) h) (PW_cons (fun _ h => ?_) PW_nil)) (WF_pick [0, 1] rfl rfl h)
        · match i with
          | 0 => exact absurd hi9 (by simp)
          | 1 => exact absurd hi9 (by simp)
          | 2 => rfl
          | 3 => exact (up_s _ _ _).trans (by show (w.length : Int) + 1 = ((w ++ [c9]).length : Int); rw [List.length_append]; rfl)
          | (k + 4) => exact absurd hi9 (by simp)
        · rw [i8_c hc, Int.toNat_natCast] at h
          rw [List.length_append]
          exact ar_congr (Nat.le_refl _) (fun j hj => oF_s w c9 j hj) h

set_option maxHeartbeats 4000000 in
set_option maxRecDepth 100000 in
theorem s_J4_append_cf468 {G : Gm} {l : Launch} (hK : KG G) {sb vb : Nat} {w : List Int} {c9 : Int} (hS : KS G) (hw : w.length < 16) (hc : 0 ≤ c9 ∧ c9 < 128) : MD G l yJ4_append_cf468 cJ4_append_cf468 2 (some (.object "java/lang/StringBuilder")) 3 0 0 [.ref sb, .int (zI c9)] [ob sb 1 [some (.ref vb), some (.int (zI 0)), none, none] (sbI (w)), ar G 1 vb 16 (w).length (oF (w))] (some (.ref sb)) [ob sb 1 [some (.ref vb), some (.int (zI 0)), none, none] (sbI (w ++ [c9])), ar G 1 vb 16 (w ++ [c9]).length (oF (w ++ [c9]))] := by
  refine MX_of (lv := [some (.ref sb), some (.int (zI c9))]) hK (by decide +kernel) rfl (nle rfl) (fun X C F => ?_)
  have C : OKc G X l RJ4 "append" cJ4_append_cf468 2 (some (.object "java/lang/StringBuilder")) 3 0 0 := C
  refine x_aload_n C eJ4_append_cf468_0 rfl ?_
  refine x_iload_n C eJ4_append_cf468_1 rfl ?_
  refine ySU1r [] [_, _] C (s_J5_append_3fe6f hK hS hw hc) v_J5_append_3fe6f hci_1 im_J5_append_3fe6f (by decide +kernel) s_RJ4_50 sm_J5_append_3fe6f sup_J4 eJ4_append_cf468_2 (fun _ _ h => WF_pick [0, 1] rfl rfl h) (rcv 0 rfl) rfl (nle rfl) (nle rfl) (nle rfl) (nle rfl) rfl ?_
  refine x_pop C eJ4_append_cf468_5 rfl ?_
  refine x_aload_n C eJ4_append_cf468_6 rfl ?_
  refine x_aret (Or.inl ⟨_, rfl⟩) C F eJ4_append_cf468_7 () ?_ trivial (fun cf c h => ?_) (nle rfl) (nle rfl)
  · rfl
  · exact WF_pick [0, 1] rfl rfl h

set_option maxHeartbeats 4000000 in
set_option maxRecDepth 100000 in
theorem s_J5_init_d00df {G : Gm} {l : Launch} (hK : KG G) {sb : Nat} (hS : KS G) : MX G l yJ5_init_d00df cJ5_init_d00df 2 none 2 1 16 [.ref sb, .int (zI 16)] [ob sb 1 [some .null, none, none, none] (fun _ => 0)] (fun _ : Nat => none) (fun _ => True) (fun vb => [ob sb 1 [some (.ref vb), some (.int (zI 0)), none, none] (sbI (([] : List Int))), ar G 1 vb 16 (([] : List Int)).length (oF (([] : List Int)))]) := by
  refine MX_of (lv := [some (.ref sb), some (.int (zI 16))]) hK (by decide +kernel) rfl (nle rfl) (fun X C F => ?_)
  have C : OKc G X l RJ5 "<init>" cJ5_init_d00df 2 none 2 1 16 := C
  refine x_aload_n C eJ5_init_d00df_0 rfl ?_
  refine x_objInit C ⟨s_RJ5_3, s2_obj⟩ eJ5_init_d00df_1 rfl (nle rfl) (nle rfl) ?_
  refine x_getsK C k_compact5 eJ5_init_d00df_4 hS.2.1 ?_
  refine x_if_eq 25 C eJ5_init_d00df_7 rfl (by omega) (fun h7 => ?_) (fun h7 => ?_)
  · exfalso; omega
  · refine x_aload_n C eJ5_init_d00df_10 rfl ?_
    refine x_iload_n C eJ5_init_d00df_11 rfl ?_
    refine x_newB (N := 16) C ac_byte eJ5_init_d00df_12 rfl (nle rfl) (nle rfl) (nle rfl) (fun vb => ?_)
    refine x_putR [_, _, _, _] [_, _] 1 C f_RJ5_15 eJ5_init_d00df_14 rfl (nlt rfl) rfl rfl rfl rfl ?_
    refine x_aload_n C eJ5_init_d00df_17 rfl ?_
    refine x_iconst C eJ5_init_d00df_18 ?_
    refine x_putR [_, _, _, _] [_, _] 1 C f_RJ5_22 eJ5_init_d00df_19 rfl (nlt rfl) rfl rfl rfl rfl ?_
    refine x_goto (pc' := 38) C eJ5_init_d00df_22 rfl ?_
    refine x_vret C F eJ5_init_d00df_38 vb rfl trivial (fun cf c h => ?_) (nle rfl) (nle rfl)
    refine PW.wf (PW_cons (fun _ h => ob_congr (fun i hi9 => ?_) h) (PW_cons (fun _ h => ar_congr (Nat.zero_le _) (fun j hj => absurd hj (Nat.not_lt_zero j)) h) PW_nil)) (WF_pick [1, 0] rfl rfl h)
    match i with
    | 0 => exact absurd hi9 (by simp)
    | 1 => exact absurd hi9 (by simp)
    | 2 => rfl
    | 3 => rfl
    | (k + 4) => exact absurd hi9 (by simp)
  

set_option maxHeartbeats 4000000 in
set_option maxRecDepth 100000 in
theorem s_J4_init_da8c8 {G : Gm} {l : Launch} (hK : KG G) {sb : Nat} (hS : KS G) : MX G l yJ4_init_da8c8 cJ4_init_da8c8 1 none 3 1 16 [.ref sb] [ob sb 1 [some .null, none, none, none] (fun _ => 0)] (fun _ : Nat => none) (fun _ => True) (fun vb => [ob sb 1 [some (.ref vb), some (.int (zI 0)), none, none] (sbI (([] : List Int))), ar G 1 vb 16 (([] : List Int)).length (oF (([] : List Int)))]) := by
  refine MX_of (lv := [some (.ref sb)]) hK (by decide +kernel) rfl (nle rfl) (fun X C F => ?_)
  have C : OKc G X l RJ4 "<init>" cJ4_init_da8c8 1 none 3 1 16 := C
  refine x_aload_n C eJ4_init_da8c8_0 rfl ?_
  refine x_bipush C eJ4_init_da8c8_1 rfl ?_
  refine yI1x (ret' := none) [] C (s_J5_init_d00df hK hS) v_J5_init_d00df vi_J5_init_d00df rfl s_RJ4_1 eJ4_init_da8c8_3 (fun _ _ h => WF_pick [0] rfl rfl h) rfl (nle rfl) (nle rfl) (nle rfl) (nle rfl) (fun x3 hx3 => ?_)
  refine x_vret C F eJ4_init_da8c8_6 x3 rfl trivial (fun cf c h => ?_) (nle rfl) (nle rfl)
  exact WF_pick [0, 1] rfl rfl h
