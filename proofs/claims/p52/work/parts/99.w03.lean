/-! StringBuilder, as the law uses it. -/

theorem im_J5_newCapacity_0f7a4 : Cond.instanceMethod yJ5_newCapacity_0f7a4 ∈ TSg := TS_2 215 rfl rfl

theorem sm_J5_newCapacity_0f7a4 : Cond.sameMethod yJ5_newCapacity_0f7a4.cls yJ5_newCapacity_0f7a4.cls yJ5_newCapacity_0f7a4.name yJ5_newCapacity_0f7a4.desc ∈ TSg := TS_5 204 rfl rfl

theorem im_J5_append_cf1ce : Cond.instanceMethod yJ5_append_cf1ce ∈ TSg := TS_2 203 rfl rfl

theorem sm_J5_append_cf1ce : Cond.sameMethod yJ5_append_cf1ce.cls yJ5_append_cf1ce.cls yJ5_append_cf1ce.name yJ5_append_cf1ce.desc ∈ TSg := TS_5 201 rfl rfl

theorem im_J5_append_c97b9 : Cond.instanceMethod yJ5_append_c97b9 ∈ TSg := TS_3 109 rfl rfl

theorem sm_J5_append_c97b9 : Cond.sameMethod yJ5_append_c97b9.cls yJ5_append_c97b9.cls yJ5_append_c97b9.name yJ5_append_c97b9.desc ∈ TSg := TS_5 209 rfl rfl

theorem im_J5_inflateIfNeededFor_a7421 : Cond.instanceMethod yJ5_inflateIfNeededFor_a7421 ∈ TSg := TS_3 50 rfl rfl

theorem sm_J5_inflateIfNeededFor_a7421 : Cond.sameMethod yJ5_inflateIfNeededFor_a7421.cls yJ5_inflateIfNeededFor_a7421.cls yJ5_inflateIfNeededFor_a7421.name yJ5_inflateIfNeededFor_a7421.desc ∈ TSg := TS_5 206 rfl rfl

theorem im_J5_putStringAt_47b60 : Cond.instanceMethod yJ5_putStringAt_47b60 ∈ TSg := TS_3 46 rfl rfl

theorem sm_J5_putStringAt_47b60 : Cond.sameMethod yJ5_putStringAt_47b60.cls yJ5_putStringAt_47b60.cls yJ5_putStringAt_47b60.name yJ5_putStringAt_47b60.desc ∈ TSg := TS_5 205 rfl rfl

section Rules
variable {G : Gm} {X : Cx} {l : Launch} {own nm : String} {cc : ByteArray} {nL : Nat} {ret : Option FieldType} {d mc ms : Nat} {k n : Nat} {ws : List SA} {pc pc' len : Nat} {lv : List (Option Value)} {st : List Value}
variable {T : Type} {rv : T → Option Value} {post : T → Prop} {wx : T → List SA}

theorem ySU1x {idx nL' d' mc' ms' : Nat} {y' : MethodName} {cc' : ByteArray} {ret' : Option FieldType} {b : Nat} {a1 : Value} {P : List SA} {T' : Type} {rv' : T' → Option Value} {post' : T' → Prop} {wx' : T' → List SA} (R' : List SA) (C : OKc G X l own nm cc nL ret d mc ms) (hM : MX G l y' cc' nL' ret' d' mc' ms' [.ref b, a1] P rv' post' wx') (V : CV y' cc' nL' ret' 1) {C0 : String} {ci : Nat} (hci : ∃ (T : u_T) (N : Nat), CL[ci]? = some (C0, T, N)) (Vi : Cond.instanceMethod y' ∈ TSg) (hno : y'.name ≠ "<init>") (S : Cond.methodLink own idx y' ∈ TSg) (S2 : Cond.sameMethod y'.cls y'.cls y'.name y'.desc ∈ TSg) (S3 : Cond.superclass own y'.cls ∈ TSg) (D : dx cc pc (.invokespecial idx) 3 pc') (hpk : ∀ cf c, WF ws cf c → WF (P ++ R') cf c) (hrecv : ∀ cf c, WF ws cf c → ∃ fs, c b = some (.inr (ci, fs))) (hL : lv.length = nL) (hroom : (st.map fun v => v.category).sum ≤ 8) (hd : d' + 1 ≤ d) (hk : k + mc' ≤ mc) (hn : n + ms' ≤ ms) (K : ∀ x : T', post' x → WX G X (k + mc') (n + ms') (wx' x ++ R') pc' lv ((rv' x).toList ++ st)) : WX G X k n ws pc lv (a1 :: .ref b :: st) :=
  x_callSU (As := [a1]) R' C hM V hci Vi hno S S2 S3 hrecv D rfl hpk hL hroom hd hk hn K

theorem ySU2x {idx nL' d' mc' ms' : Nat} {y' : MethodName} {cc' : ByteArray} {ret' : Option FieldType} {b : Nat} {a1 a2 : Value} {P : List SA} {T' : Type} {rv' : T' → Option Value} {post' : T' → Prop} {wx' : T' → List SA} (R' : List SA) (C : OKc G X l own nm cc nL ret d mc ms) (hM : MX G l y' cc' nL' ret' d' mc' ms' [.ref b, a1, a2] P rv' post' wx') (V : CV y' cc' nL' ret' 2) {C0 : String} {ci : Nat} (hci : ∃ (T : u_T) (N : Nat), CL[ci]? = some (C0, T, N)) (Vi : Cond.instanceMethod y' ∈ TSg) (hno : y'.name ≠ "<init>") (S : Cond.methodLink own idx y' ∈ TSg) (S2 : Cond.sameMethod y'.cls y'.cls y'.name y'.desc ∈ TSg) (S3 : Cond.superclass own y'.cls ∈ TSg) (D : dx cc pc (.invokespecial idx) 3 pc') (hpk : ∀ cf c, WF ws cf c → WF (P ++ R') cf c) (hrecv : ∀ cf c, WF ws cf c → ∃ fs, c b = some (.inr (ci, fs))) (hL : lv.length = nL) (hroom : (st.map fun v => v.category).sum ≤ 8) (hd : d' + 1 ≤ d) (hk : k + mc' ≤ mc) (hn : n + ms' ≤ ms) (K : ∀ x : T', post' x → WX G X (k + mc') (n + ms') (wx' x ++ R') pc' lv ((rv' x).toList ++ st)) : WX G X k n ws pc lv (a2 :: a1 :: .ref b :: st) :=
  x_callSU (As := [a1, a2]) R' C hM V hci Vi hno S S2 S3 hrecv D rfl hpk hL hroom hd hk hn K

theorem yVP1x {idx nL' d' mc' ms' : Nat} {y' : MethodName} {cc' : ByteArray} {ret' : Option FieldType} {b : Nat} {a1 : Value} {P : List SA} {T' : Type} {rv' : T' → Option Value} {post' : T' → Prop} {wx' : T' → List SA} (R' : List SA) (C : OKc G X l own nm cc nL ret d mc ms) (hM : MX G l y' cc' nL' ret' d' mc' ms' [.ref b, a1] P rv' post' wx') (V : CV y' cc' nL' ret' 1) {C0 : String} {ci : Nat} (hci : ∃ (T : u_T) (N : Nat), CL[ci]? = some (C0, T, N)) (Vi : Cond.instanceMethod y' ∈ TSg) (S : Cond.methodLink own idx y' ∈ TSg) (S2 : Cond.sameMethod y'.cls y'.cls y'.name y'.desc ∈ TSg) (S3 : va_Nw (Cond.privateMethod y') G.1) (D : dx cc pc (.invokevirtual idx) 3 pc') (hpk : ∀ cf c, WF ws cf c → WF (P ++ R') cf c) (hrecv : ∀ cf c, WF ws cf c → ∃ fs, c b = some (.inr (ci, fs))) (hL : lv.length = nL) (hroom : (st.map fun v => v.category).sum ≤ 8) (hd : d' + 1 ≤ d) (hk : k + mc' ≤ mc) (hn : n + ms' ≤ ms) (K : ∀ x : T', post' x → WX G X (k + mc') (n + ms') (wx' x ++ R') pc' lv ((rv' x).toList ++ st)) : WX G X k n ws pc lv (a1 :: .ref b :: st) :=
  x_callVP (As := [a1]) R' C hM V hci Vi S S2 S3 hrecv D rfl hpk hL hroom hd hk hn K

theorem yVP1r {idx nL' d' : Nat} {y' : MethodName} {cc' : ByteArray} {ret' : Option FieldType} {b : Nat} {a1 : Value} {P P' : List SA} {r : Value} (R' ws' : List SA) (C : OKc G X l own nm cc nL ret d mc ms) (hM : MD G l y' cc' nL' ret' d' 0 0 [.ref b, a1] P (some r) P') (V : CV y' cc' nL' ret' 1) {C0 : String} {ci : Nat} (hci : ∃ (T : u_T) (N : Nat), CL[ci]? = some (C0, T, N)) (Vi : Cond.instanceMethod y' ∈ TSg) (S : Cond.methodLink own idx y' ∈ TSg) (S2 : Cond.sameMethod y'.cls y'.cls y'.name y'.desc ∈ TSg) (S3 : va_Nw (Cond.privateMethod y') G.1) (D : dx cc pc (.invokevirtual idx) 3 pc') (hpk : ∀ cf c, WF ws cf c → WF (P ++ R') cf c) (hrecv : ∀ cf c, WF ws cf c → ∃ fs, c b = some (.inr (ci, fs))) (hL : lv.length = nL) (hroom : (st.map fun v => v.category).sum ≤ 8) (hd : d' + 1 ≤ d) (hk : k ≤ mc) (hn : n ≤ ms) (hw : P' ++ R' = ws') (K : WX G X k n ws' pc' lv (r :: st)) : WX G X k n ws pc lv (a1 :: .ref b :: st) :=
  x_callVP (As := [a1]) R' C hM V hci Vi S S2 S3 hrecv D rfl hpk hL hroom hd hk hn (fun _ _ => by subst hw; exact K)

theorem yVP2x {idx nL' d' mc' ms' : Nat} {y' : MethodName} {cc' : ByteArray} {ret' : Option FieldType} {b : Nat} {a1 a2 : Value} {P : List SA} {T' : Type} {rv' : T' → Option Value} {post' : T' → Prop} {wx' : T' → List SA} (R' : List SA) (C : OKc G X l own nm cc nL ret d mc ms) (hM : MX G l y' cc' nL' ret' d' mc' ms' [.ref b, a1, a2] P rv' post' wx') (V : CV y' cc' nL' ret' 2) {C0 : String} {ci : Nat} (hci : ∃ (T : u_T) (N : Nat), CL[ci]? = some (C0, T, N)) (Vi : Cond.instanceMethod y' ∈ TSg) (S : Cond.methodLink own idx y' ∈ TSg) (S2 : Cond.sameMethod y'.cls y'.cls y'.name y'.desc ∈ TSg) (S3 : va_Nw (Cond.privateMethod y') G.1) (D : dx cc pc (.invokevirtual idx) 3 pc') (hpk : ∀ cf c, WF ws cf c → WF (P ++ R') cf c) (hrecv : ∀ cf c, WF ws cf c → ∃ fs, c b = some (.inr (ci, fs))) (hL : lv.length = nL) (hroom : (st.map fun v => v.category).sum ≤ 8) (hd : d' + 1 ≤ d) (hk : k + mc' ≤ mc) (hn : n + ms' ≤ ms) (K : ∀ x : T', post' x → WX G X (k + mc') (n + ms') (wx' x ++ R') pc' lv ((rv' x).toList ++ st)) : WX G X k n ws pc lv (a2 :: a1 :: .ref b :: st) :=
  x_callVP (As := [a1, a2]) R' C hM V hci Vi S S2 S3 hrecv D rfl hpk hL hroom hd hk hn K

theorem yVP2v {idx nL' d' : Nat} {y' : MethodName} {cc' : ByteArray} {ret' : Option FieldType} {b : Nat} {a1 a2 : Value} {P P' : List SA} (R' ws' : List SA) (C : OKc G X l own nm cc nL ret d mc ms) (hM : MD G l y' cc' nL' ret' d' 0 0 [.ref b, a1, a2] P none P') (V : CV y' cc' nL' ret' 2) {C0 : String} {ci : Nat} (hci : ∃ (T : u_T) (N : Nat), CL[ci]? = some (C0, T, N)) (Vi : Cond.instanceMethod y' ∈ TSg) (S : Cond.methodLink own idx y' ∈ TSg) (S2 : Cond.sameMethod y'.cls y'.cls y'.name y'.desc ∈ TSg) (S3 : va_Nw (Cond.privateMethod y') G.1) (D : dx cc pc (.invokevirtual idx) 3 pc') (hpk : ∀ cf c, WF ws cf c → WF (P ++ R') cf c) (hrecv : ∀ cf c, WF ws cf c → ∃ fs, c b = some (.inr (ci, fs))) (hL : lv.length = nL) (hroom : (st.map fun v => v.category).sum ≤ 8) (hd : d' + 1 ≤ d) (hk : k ≤ mc) (hn : n ≤ ms) (hw : P' ++ R' = ws') (K : WX G X k n ws' pc' lv st) : WX G X k n ws pc lv (a2 :: a1 :: .ref b :: st) :=
  x_callVP (As := [a1, a2]) R' C hM V hci Vi S S2 S3 hrecv D rfl hpk hL hroom hd hk hn (fun _ _ => by subst hw; exact K)

end Rules
theorem shl0 (a : Int) : zI a <<< (zI 0 &&& 31) = zI a := by
  rw [show (zI 0 &&& 31 : Int32) = 0 by decide]
  apply Int32.toBitVec_inj.mp
  rw [Int32.toBitVec_shiftLeft]
  simp
theorem oF_a {w : List Int} {c : Int} : up (oF w) w.length c = oF (w ++ [c]) := by
  funext j
  by_cases h : j < w.length + 1
  · exact oF_s w c j h
  · rw [up_n (by omega)]
    show w.getD j 0 = (w ++ [c]).getD j 0
    rw [List.getD_eq_getElem?_getD, List.getD_eq_getElem?_getD, List.getElem?_eq_none (by omega), List.getElem?_eq_none (by rw [List.length_append]; show w.length + 1 ≤ j; omega)]
theorem oF_c {w v : List Int} (j : Nat) : (if w.length ≤ j ∧ j < w.length + v.length then v.getD (j - w.length) 0 else oF w j) = oF (w ++ v) j := by
  show _ = (w ++ v).getD j 0
  unfold oF
  rw [List.getD_eq_getElem?_getD, List.getD_eq_getElem?_getD, List.getD_eq_getElem?_getD]
  by_cases h : w.length ≤ j
  · rw [List.getElem?_append_right h]
    by_cases h2 : j < w.length + v.length
    · rw [if_pos ⟨h, h2⟩]
    · rw [if_neg (by omega), List.getElem?_eq_none h, List.getElem?_eq_none (show v.length ≤ j - w.length by omega)]
  · rw [if_neg (by omega), List.getElem?_append_left (by omega)]
theorem oF_b {w : List Int} (hw : ∀ x ∈ w, 0 ≤ x ∧ x < 128) (j : Nat) : 0 ≤ oF w j ∧ oF w j < 128 := getD_r hw j

set_option maxHeartbeats 4000000 in
set_option maxRecDepth 100000 in
theorem z_newLength {G : Gm} {l : Launch} (hK : KG G) {a9 b9 c9 : Int} (h : (1 ≤ a9 ∧ a9 ≤ 1000) ∧ (0 ≤ b9 ∧ b9 ≤ 1000) ∧ 0 ≤ c9 ∧ c9 ≤ 1000) : MD G l yJ8_newLength_cabcc cJ8_newLength_cabcc 4 (some .int) 2 0 0 [.int (zI a9), .int (zI b9), .int (zI c9)] [] (some (.int (zI (a9 + max b9 c9)))) [] := by
  refine MX_of (lv := [some (.int (zI a9)), some (.int (zI b9)), some (.int (zI c9)), none]) hK (by decide +kernel) rfl (nle rfl) (fun X C F => ?_)
  have C : OKc G X l RJ8 "newLength" cJ8_newLength_cabcc 4 (some .int) 2 0 0 := C
  refine x_iload_n C eJ8_newLength_cabcc_0 rfl ?_
  refine x_iload_n C eJ8_newLength_cabcc_1 rfl ?_
  refine x_iload_n C eJ8_newLength_cabcc_2 rfl ?_
  refine x_max C s_RJ8_194 s2_max eJ8_newLength_cabcc_3 rfl (nle rfl) (nle rfl) (nle rfl) (nle rfl) (by omega) (by omega) ?_
  refine x_iadd C eJ8_newLength_cabcc_6 ?_
  refine x_istore_n [_, _, _, _] C eJ8_newLength_cabcc_7 rfl rfl (nlt rfl) ?_
  refine x_iconst C eJ8_newLength_cabcc_8 ?_
  refine x_iload_n C eJ8_newLength_cabcc_9 rfl ?_
  refine x_icmp_ge 21 C eJ8_newLength_cabcc_10 rfl (by omega) (by omega) (fun h10 => ?_) (fun h10 => ?_)
  · exfalso; omega
  · refine x_iload_n C eJ8_newLength_cabcc_13 rfl ?_
    refine x_ldc (own2 := RJ8) C eJ8_newLength_cabcc_14 k_RJ8_200 ?_
    refine x_icmp_gt 21 C eJ8_newLength_cabcc_16 rfl (by omega) (by omega) (fun h16 => ?_) (fun h16 => ?_)
    · exfalso; omega
    · refine x_iload_n C eJ8_newLength_cabcc_19 rfl ?_
      refine x_iret (by first | rfl | exact (narZ (by omega)).1) C F eJ8_newLength_cabcc_20 () ?_ trivial (fun cf c h => ?_) (nle rfl) (nle rfl)
      · rfl
      · exact WF_pick [] rfl rfl h

set_option maxHeartbeats 4000000 in
set_option maxRecDepth 100000 in
theorem z_newCapacity {G : Gm} {l : Launch} (hK : KG G) {sb vb N : Nat} {w : List Int} {c9 : Int} (hc : ((1 ≤ N ∧ N ≤ 602) ∧ w.length ≤ N) ∧ (N : Int) < c9 ∧ c9 ≤ 300) : MD G l yJ5_newCapacity_0f7a4 cJ5_newCapacity_0f7a4 6 (some .int) 3 0 0 [.ref sb, .int (zI c9)] [ob sb 1 [some (.ref vb), some (.int (zI 0)), none, none] (sbI (w)), ar G 1 vb N N (oF (w))] (some (.int (zI ((N : Int) + max (c9 - (N : Int)) ((N : Int) + 2))))) [ob sb 1 [some (.ref vb), some (.int (zI 0)), none, none] (sbI (w)), ar G 1 vb N N (oF (w))] := by
  refine MX_of (lv := [some (.ref sb), some (.int (zI c9)), none, none, none, none]) hK (by decide +kernel) rfl (nle rfl) (fun X C F => ?_)
  have C : OKc G X l RJ5 "newCapacity" cJ5_newCapacity_0f7a4 6 (some .int) 3 0 0 := C
  refine x_aload_n C eJ5_newCapacity_0f7a4_0 rfl ?_
  refine x_getR 0 C f_RJ5_15 eJ5_newCapacity_0f7a4_1 rfl rfl ?_
  refine x_alen 1 C eJ5_newCapacity_0f7a4_4 rfl (by decide) ar_al ?_
  refine x_istore_n [_, _, _, _, _, _] C eJ5_newCapacity_0f7a4_5 rfl rfl (nlt rfl) ?_
  refine x_iload_n C eJ5_newCapacity_0f7a4_6 rfl ?_
  refine x_aload_n C eJ5_newCapacity_0f7a4_7 rfl ?_
  refine x_getR 0 C f_RJ5_22 eJ5_newCapacity_0f7a4_8 rfl rfl ?_
  refine x_ishlR C eJ5_newCapacity_0f7a4_11 ?_
  rw [shl0]
  refine x_istore_n [_, _, _, _, _, _] C eJ5_newCapacity_0f7a4_12 rfl rfl (nlt rfl) ?_
  refine x_iload_n C eJ5_newCapacity_0f7a4_13 rfl ?_
  refine x_iload_n C eJ5_newCapacity_0f7a4_14 rfl ?_
  refine x_isub C eJ5_newCapacity_0f7a4_15 ?_
  refine x_istore [_, _, _, _, _, _] C eJ5_newCapacity_0f7a4_16 rfl rfl (nlt rfl) ?_
  refine x_iload_n C eJ5_newCapacity_0f7a4_18 rfl ?_
  refine x_iload C eJ5_newCapacity_0f7a4_19 rfl ?_
  refine x_iload_n C eJ5_newCapacity_0f7a4_21 rfl ?_
  refine x_iconst C eJ5_newCapacity_0f7a4_22 ?_
  refine x_aload_n C eJ5_newCapacity_0f7a4_23 rfl ?_
  refine x_getR 0 C f_RJ5_22 eJ5_newCapacity_0f7a4_24 rfl rfl ?_
  refine x_ishlR C eJ5_newCapacity_0f7a4_27 ?_
  rw [shl0]
  refine x_iadd C eJ5_newCapacity_0f7a4_28 ?_
  refine yS3r [_, _] [_, _] C (z_newLength hK (by omega)) v_J8_newLength_cabcc vs_J8_newLength_cabcc s_RJ5_114 eJ5_newCapacity_0f7a4_29 (fun _ _ h => WF_pick [0, 1] rfl rfl h) rfl (nle rfl) (nle rfl) (nle rfl) (nle rfl) rfl ?_
  refine x_istore [_, _, _, _, _, _] C eJ5_newCapacity_0f7a4_32 rfl rfl (nlt rfl) ?_
  refine x_iload C eJ5_newCapacity_0f7a4_34 rfl ?_
  refine x_ldc (own2 := RJ5) C eJ5_newCapacity_0f7a4_36 k_RJ5_39 ?_
  refine x_icmp_ne 51 C eJ5_newCapacity_0f7a4_38 rfl (by omega) (by omega) (fun h38 => ?_) (fun h38 => ?_)
  · refine x_iload C eJ5_newCapacity_0f7a4_51 rfl ?_
    refine x_aload_n C eJ5_newCapacity_0f7a4_53 rfl ?_
    refine x_getR 0 C f_RJ5_22 eJ5_newCapacity_0f7a4_54 rfl rfl ?_
    refine x_ishrR C eJ5_newCapacity_0f7a4_57 ?_
    rw [shr0]
    refine x_iret (by first | rfl | exact (narZ (by omega)).1) C F eJ5_newCapacity_0f7a4_58 () ?_ trivial (fun cf c h => ?_) (nle rfl) (nle rfl)
    · rfl
    · exact WF_pick [0, 1] rfl rfl h
    
  · exfalso; omega
  
  

set_option maxHeartbeats 4000000 in
set_option maxRecDepth 100000 in
theorem z_copyOf {G : Gm} {l : Launch} (hK : KG G) {vb N : Nat} {w : List Int} {q9 : Nat} (hc : ((1 ≤ N ∧ N ≤ 300) ∧ w.length ≤ N) ∧ N < q9 ∧ q9 ≤ 602) (hb : ∀ x ∈ w, 0 ≤ x ∧ x < 128) : MX G l yJ7_copyOf_9075b cJ7_copyOf_9075b 3 (some (.array .byte)) 4 1 602 [.ref vb, .int (zI (q9 : Int))] [ar G 1 vb N N (oF w)] (fun b9 : Nat => some (.ref b9)) (fun _ => True) (fun b9 : Nat => [ar G 1 b9 q9 q9 (oF w)]) := by
  refine MX_of (lv := [some (.ref vb), some (.int (zI (q9 : Int))), none]) hK (by decide +kernel) rfl (by first | exact nle rfl | omega) (fun X C F => ?_)
  have C : OKc G X l RJ7 "copyOf" cJ7_copyOf_9075b 3 (some (.array .byte)) 4 1 602 := C
  refine x_iload_n C eJ7_copyOf_9075b_0 rfl ?_
  refine x_aload_n C eJ7_copyOf_9075b_1 rfl ?_
  refine x_alen 0 C eJ7_copyOf_9075b_2 rfl (by decide) ar_al ?_
  refine x_icmp_ne 14 C eJ7_copyOf_9075b_3 rfl (by omega) (by omega) (fun h3 => ?_) (fun h3 => ?_)
  · refine x_iload_n C eJ7_copyOf_9075b_14 rfl ?_
    refine x_newB (N := q9) C ac_byte eJ7_copyOf_9075b_15 (by omega) (by omega) (by first | exact nle rfl | omega) (by omega) (fun b9 => ?_)
    refine x_astore_n [_, _, _] C eJ7_copyOf_9075b_17 rfl rfl (nlt rfl) ?_
    refine x_aload_n C eJ7_copyOf_9075b_18 rfl ?_
    refine x_iconst C eJ7_copyOf_9075b_19 ?_
    refine x_aload_n C eJ7_copyOf_9075b_20 rfl ?_
    refine x_iconst C eJ7_copyOf_9075b_21 ?_
    refine x_aload_n C eJ7_copyOf_9075b_22 rfl ?_
    refine x_alen 1 C eJ7_copyOf_9075b_23 rfl (by decide) ar_al ?_
    refine x_iload_n C eJ7_copyOf_9075b_24 rfl ?_
    refine x_min C s_RJ7_304 s2_min eJ7_copyOf_9075b_25 rfl (by first | exact nle rfl | omega) (by first | exact nle rfl | omega) (by first | exact nle rfl | omega) (by first | exact nle rfl | omega) (by omega) (by omega) ?_
    refine x_copyB [_, _] q9 1 0 C s_RJ7_150 s2_copy eJ7_copyOf_9075b_28 rfl rfl (by omega) (by omega) (by omega) (by omega) (by omega) rfl (by first | exact nle rfl | omega) (fun j _ => oF_b hb j) (by first | exact nle rfl | omega) rfl ?_
    refine x_aload_n C eJ7_copyOf_9075b_31 rfl ?_
    refine x_aret (Or.inr ⟨_, rfl⟩) C F eJ7_copyOf_9075b_32 b9 rfl trivial (fun cf c h => ?_) (by first | exact nle rfl | omega) (by omega)
    refine PW.wf (PW_cons (fun _ h => ar_congr (Nat.le_refl _) (fun j hj => ?_) h) PW_nil) (WF_pick [0] rfl rfl h)
    by_cases h9 : j < N
    · rw [if_pos (by omega)]
      exact congrArg (oF w) (by omega)
    · rw [if_neg (by omega)]
      show (0 : Int) = w.getD j 0
      rw [List.getD_eq_getElem?_getD, List.getElem?_eq_none (by omega)]
      rfl
    
    
  · exfalso; omega

set_option maxHeartbeats 4000000 in
set_option maxRecDepth 100000 in
theorem z_ensure {G : Gm} {l : Launch} (hK : KG G) {sb vb N : Nat} {w : List Int} {c9 : Int} (hD : KD G) (hc : ((1 ≤ N ∧ N ≤ 602) ∧ w.length ≤ N) ∧ 0 ≤ c9 ∧ c9 ≤ 300) (hb : ∀ x ∈ w, 0 ≤ x ∧ x < 128) : MX G l yJ5_ensureCapacityInternal_d00df cJ5_ensureCapacityInternal_d00df 3 none 5 1 602 [.ref sb, .int (zI c9)] [ob sb 1 [some (.ref vb), some (.int (zI 0)), none, none] (sbI (w)), ar G 1 vb N N (oF (w))] (fun _ : Nat × Nat => none) (fun x => ((1 ≤ x.2 ∧ x.2 ≤ 602) ∧ w.length ≤ x.2) ∧ c9 ≤ (x.2 : Int)) (fun x : Nat × Nat => [ob sb 1 [some (.ref x.1), some (.int (zI 0)), none, none] (sbI (w)), ar G 1 x.1 x.2 x.2 (oF (w))]) := by
  refine MX_of (lv := [some (.ref sb), some (.int (zI c9)), none]) hK (by decide +kernel) rfl (nle rfl) (fun X C F => ?_)
  have C : OKc G X l RJ5 "ensureCapacityInternal" cJ5_ensureCapacityInternal_d00df 3 none 5 1 602 := C
  refine x_aload_n C eJ5_ensureCapacityInternal_d00df_0 rfl ?_
  refine x_getR 0 C f_RJ5_15 eJ5_ensureCapacityInternal_d00df_1 rfl rfl ?_
  refine x_alen 1 C eJ5_ensureCapacityInternal_d00df_4 rfl (by decide) ar_al ?_
  refine x_aload_n C eJ5_ensureCapacityInternal_d00df_5 rfl ?_
  refine x_getR 0 C f_RJ5_22 eJ5_ensureCapacityInternal_d00df_6 rfl rfl ?_
  refine x_ishrR C eJ5_ensureCapacityInternal_d00df_9 ?_
  rw [shr0]
  refine x_istore_n [_, _, _] C eJ5_ensureCapacityInternal_d00df_10 rfl rfl (nlt rfl) ?_
  refine x_iload_n C eJ5_ensureCapacityInternal_d00df_11 rfl ?_
  refine x_iload_n C eJ5_ensureCapacityInternal_d00df_12 rfl ?_
  refine x_isub C eJ5_ensureCapacityInternal_d00df_13 ?_
  refine x_if_le 38 C eJ5_ensureCapacityInternal_d00df_14 rfl (by omega) (fun h14 => ?_) (fun h14 => ?_)
  · refine x_vret C F eJ5_ensureCapacityInternal_d00df_38 (vb, N) rfl (by dsimp only; omega) (fun cf c h => ?_) (nle rfl) (nle rfl)
    exact WF_pick [0, 1] rfl rfl h
  · refine x_aload_n C eJ5_ensureCapacityInternal_d00df_17 rfl ?_
    refine x_aload_n C eJ5_ensureCapacityInternal_d00df_18 rfl ?_
    refine x_getR 0 C f_RJ5_15 eJ5_ensureCapacityInternal_d00df_19 rfl rfl ?_
    refine x_aload_n C eJ5_ensureCapacityInternal_d00df_22 rfl ?_
    refine x_iload_n C eJ5_ensureCapacityInternal_d00df_23 rfl ?_
    refine yVP1r [] [_, _] C (z_newCapacity hK (by omega)) v_J5_newCapacity_0f7a4 hci_1 im_J5_newCapacity_0f7a4 s_RJ5_104 sm_J5_newCapacity_0f7a4 hD.2.2.2.2.1 eJ5_ensureCapacityInternal_d00df_24 (fun _ _ h => WF_pick [0, 1] rfl rfl h) (rcv 0 rfl) rfl (nle rfl) (nle rfl) (nle rfl) (nle rfl) rfl ?_
    refine x_aload_n C eJ5_ensureCapacityInternal_d00df_27 rfl ?_
    refine x_getR 0 C f_RJ5_22 eJ5_ensureCapacityInternal_d00df_28 rfl rfl ?_
    refine x_ishlR C eJ5_ensureCapacityInternal_d00df_31 ?_
    rw [shl0]
    obtain ⟨q9, hq9⟩ : ∃ q9 : Nat, (N : Int) + max (c9 - (N : Int)) ((N : Int) + 2) = (q9 : Int) := ⟨((N : Int) + max (c9 - (N : Int)) ((N : Int) + 2)).toNat, by omega⟩
    rw [hq9]
    refine yS2x [_] C (z_copyOf hK (by omega) hb) v_J7_copyOf_9075b vs_J7_copyOf_9075b s_RJ5_108 eJ5_ensureCapacityInternal_d00df_32 (fun _ _ h => WF_pick [1, 0] rfl rfl h) rfl (nle rfl) (nle rfl) (nle rfl) (nle rfl) (fun x32 hx32 => ?_)
    refine x_putR [_, _, _, _] [_, _] 1 C f_RJ5_15 eJ5_ensureCapacityInternal_d00df_35 rfl (nlt rfl) rfl rfl rfl rfl ?_
    refine x_vret C F eJ5_ensureCapacityInternal_d00df_38 (x32, q9) rfl (by dsimp only; omega) (fun cf c h => ?_) (nle rfl) (nle rfl)
    exact WF_pick [1, 0] rfl rfl h
    
  

set_option maxHeartbeats 4000000 in
set_option maxRecDepth 100000 in
theorem z_appendC5 {G : Gm} {l : Launch} (hK : KG G) {sb vb N : Nat} {w : List Int} {c9 : Int} (hD : KD G) (hc : ((1 ≤ N ∧ N ≤ 602) ∧ w.length ≤ N) ∧ w.length + 1 ≤ 300) (hb : ∀ x ∈ w, 0 ≤ x ∧ x < 128) (hc9 : 0 ≤ c9 ∧ c9 < 128) : MX G l yJ5_append_3fe6f cJ5_append_3fe6f 2 (some (.object "java/lang/AbstractStringBuilder")) 6 1 602 [.ref sb, .int (zI c9)] [ob sb 1 [some (.ref vb), some (.int (zI 0)), none, none] (sbI (w)), ar G 1 vb N N (oF (w))] (fun _ : Nat × Nat => some (.ref sb)) (fun x => ((1 ≤ x.2 ∧ x.2 ≤ 602) ∧ (w ++ [c9]).length ≤ x.2)) (fun x : Nat × Nat => [ob sb 1 [some (.ref x.1), some (.int (zI 0)), none, none] (sbI (w ++ [c9])), ar G 1 x.1 x.2 x.2 (oF (w ++ [c9]))]) := by
  refine MX_of (lv := [some (.ref sb), some (.int (zI c9))]) hK (by decide +kernel) rfl (nle rfl) (fun X C F => ?_)
  have C : OKc G X l RJ5 "append" cJ5_append_3fe6f 2 (some (.object "java/lang/AbstractStringBuilder")) 6 1 602 := C
  have hS : KS G := hD.1
  refine x_aload_n C eJ5_append_3fe6f_0 rfl ?_
  refine x_aload_n C eJ5_append_3fe6f_1 rfl ?_
  refine x_getI 0 C f_RJ5_79 eJ5_append_3fe6f_2 rfl rfl ?_
  rw [show sbI w 3 = (w.length : Int) from rfl]
  refine x_iconst C eJ5_append_3fe6f_5 ?_
  refine x_iadd C eJ5_append_3fe6f_6 ?_
  refine yVP1x [] C (z_ensure hK hD (by omega) hb) v_J5_ensureCapacityInternal_d00df hci_1 im_J5_ensureCapacityInternal_d00df s_RJ5_100 sm_J5_ensureCapacityInternal_d00df hS.1.2 eJ5_append_3fe6f_7 (fun _ _ h => WF_pick [0, 1] rfl rfl h) (rcv 0 rfl) rfl (nle rfl) (nle rfl) (nle rfl) (nle rfl) (fun x7 hx7 => ?_)
  obtain ⟨hx7a, hx7b⟩ := hx7
  refine x_aload_n C eJ5_append_3fe6f_10 rfl ?_
  refine yU0r [_] [_, _] C (s_J5_isLatin1_aae02 hK hS) v_J5_isLatin1_aae02 hci_1 im_J5_isLatin1_aae02 s_RJ5_83 sm_J5_isLatin1_aae02 sel_J5_isLatin1_aae02 eJ5_append_3fe6f_11 (fun _ _ h => WF_pick [0, 1] rfl rfl h) (rcv 0 rfl) rfl (nle rfl) (nle rfl) (nle rfl) (nle rfl) rfl ?_
  refine x_if_eq 45 C eJ5_append_3fe6f_14 rfl (by omega) (fun h14 => ?_) (fun h14 => ?_)
  · exfalso; omega
  · refine x_iload_n C eJ5_append_3fe6f_17 rfl ?_
    refine yS1r [_, _] [_, _] C (s_J1_canEncode_fc78d hK hc9) v_J1_canEncode_fc78d vs_J1_canEncode_fc78d s_RJ5_191 eJ5_append_3fe6f_18 (fun _ _ h => WF_pick [0, 1] rfl rfl h) rfl (nle rfl) (nle rfl) (nle rfl) (nle rfl) rfl ?_
    refine x_if_eq 45 C eJ5_append_3fe6f_21 rfl (by omega) (fun h21 => ?_) (fun h21 => ?_)
    · exfalso; omega
    · refine x_aload_n C eJ5_append_3fe6f_24 rfl ?_
      refine x_getR 0 C f_RJ5_15 eJ5_append_3fe6f_25 rfl rfl ?_
      refine x_aload_n C eJ5_append_3fe6f_28 rfl ?_
      refine x_dup C eJ5_append_3fe6f_29 rfl ?_
      refine x_getI 0 C f_RJ5_79 eJ5_append_3fe6f_30 rfl rfl ?_
      rw [show sbI w 3 = (w.length : Int) from rfl]
      refine x_dup_x1 C eJ5_append_3fe6f_33 rfl rfl ?_
      refine x_iconst C eJ5_append_3fe6f_34 ?_
      refine x_iadd C eJ5_append_3fe6f_35 ?_
      refine x_putI [_, _] 0 C f_RJ5_79 eJ5_append_3fe6f_36 rfl rfl rfl ?_
      refine x_iload_n C eJ5_append_3fe6f_39 rfl ?_
      refine x_i2bR C eJ5_append_3fe6f_40 ?_
      refine x_bast (x := 0) [_, _] x7.2 1 C eJ5_append_3fe6f_41 rfl (by omega) (by omega) (by omega) rfl ?_
      refine x_goto (pc' := 75) C eJ5_append_3fe6f_42 rfl ?_
      refine x_aload_n C eJ5_append_3fe6f_75 rfl ?_
      refine x_aret (Or.inl ⟨_, rfl⟩) C F eJ5_append_3fe6f_76 x7 rfl (by rw [List.length_append]; dsimp only [List.length_cons, List.length_nil] at *; omega) (fun cf c h => ?_) (nle rfl) (nle rfl)
      refine PW.wf (PW_cons (fun _ h => ob_congr (fun i hi9 => ?_) h) (PW_cons (fun _ h => ?_) PW_nil)) (WF_pick [0, 1] rfl rfl h)
      · match i with
        | 0 => exact absurd hi9 (by simp)
        | 1 => exact absurd hi9 (by simp)
        | 2 => rfl
        | 3 => exact (up_s _ _ _).trans (by show (w.length : Int) + 1 = ((w ++ [c9]).length : Int); rw [List.length_append]; rfl)
        | (k + 4) => exact absurd hi9 (by simp)
      · rw [i8_c hc9, Int.toNat_natCast, oF_a] at h
        exact h
