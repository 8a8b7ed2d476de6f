/-! Strings, numbers and letters come to a StringBuilder; its text is made a String. -/

theorem k_ones : Cond.fieldLink RJ6 83 "java/lang/Integer" "DigitOnes" "[B" ∈ TSg := TS_3 117 rfl rfl

theorem k_tens : Cond.fieldLink RJ6 87 "java/lang/Integer" "DigitTens" "[B" ∈ TSg := TS_3 119 rfl rfl

theorem z_coderK {G : Gm} {l : Launch} (hK : KG G) {q9 b9 : Nat} {v : List Int} (hS : KS G) (hq : strG G q9 b9 v) : MD G l yJ0_coder_7d493 cJ0_coder_7d493 1 (some .byte) 1 0 0 [.ref q9] [] (some (.int (zI 0))) [] := s_J0_coder hK hS (hq.sk [])
theorem z_lenK {G : Gm} {l : Launch} (hK : KG G) {q9 b9 : Nat} {v : List Int} (hS : KS G) (hq : strG G q9 b9 v) : MD G l yJ0_length_8abf5 cJ0_length_8abf5 1 (some .int) 2 0 0 [.ref q9] [] (some (.int (zI (v.length : Int)))) [] := s_J0_length hK hS (hq.sk [])
section Rules
variable {G : Gm} {X : Cx} {l : Launch} {own nm : String} {cc : ByteArray} {nL : Nat} {ret : Option FieldType} {d mc ms : Nat} {k n : Nat} {ws : List SA} {pc pc' len : Nat} {lv : List (Option Value)} {st : List Value}
theorem yK3v {idx nL' d' : Nat} {y' : MethodName} {cc' : ByteArray} {ret' : Option FieldType} {b : Nat} {a1 a2 a3 : Value} {P P' : List SA} (R' ws' : List SA) (C : OKc G X l own nm cc nL ret d mc ms) (hM : MD G l y' cc' nL' ret' d' 0 0 [.ref b, a1, a2, a3] P none P') (V : CV y' cc' nL' ret' 3) {ci : Nat} (Vv : CVv y' ci) (S : Cond.methodLink own idx y' ∈ TSg) (D : dx cc pc (.invokevirtual idx) 3 pc') (hpk : ∀ cf c, WF ws cf c → WF (P ++ R') cf c) (hrecv : ∀ s : State, G.1.WarmedH s.vm → ∀ cf c H, WF ws cf c → HH G c H → va_O y'.cls b (fun _ => False) s H) (hL : lv.length = nL) (hroom : (st.map fun v => v.category).sum ≤ 8) (hd : d' + 1 ≤ d) (hk : k ≤ mc) (hn : n ≤ ms) (hw : P' ++ R' = ws') (K : WX G X k n ws' pc' lv st) : WX G X k n ws pc lv (a3 :: a2 :: a1 :: .ref b :: st) :=
  x_callVK (As := [a1, a2, a3]) R' C hM V Vv S hrecv D rfl hpk hL hroom hd hk hn (fun _ _ => by subst hw; exact K)
end Rules

set_option maxHeartbeats 4000000 in
set_option maxRecDepth 100000 in
theorem z_inflate {G : Gm} {l : Launch} (hK : KG G) {sb vb : Nat} {w : List Int} {q9 b9 : Nat} {v : List Int} (hS : KS G) (hq : strG G q9 b9 v) : MD G l yJ5_inflateIfNeededFor_a7421 cJ5_inflateIfNeededFor_a7421 2 none 2 0 0 [.ref sb, .ref q9] [ob sb 1 [some (.ref vb), some (.int (zI 0)), none, none] (sbI (w))] none [ob sb 1 [some (.ref vb), some (.int (zI 0)), none, none] (sbI (w))] := by
  refine MX_of (lv := [some (.ref sb), some (.ref q9)]) hK (by decide +kernel) rfl (nle rfl) (fun X C F => ?_)
  have C : OKc G X l RJ5 "inflateIfNeededFor" cJ5_inflateIfNeededFor_a7421 2 none 2 0 0 := C
  refine x_getsK C k_compact5 eJ5_inflateIfNeededFor_a7421_0 hS.2.1 ?_
  refine x_if_eq 21 C eJ5_inflateIfNeededFor_a7421_3 rfl (by omega) (fun h3 => ?_) (fun h3 => ?_)
  · exfalso; omega
  · refine x_aload_n C eJ5_inflateIfNeededFor_a7421_6 rfl ?_
    refine x_getR 0 C f_RJ5_22 eJ5_inflateIfNeededFor_a7421_7 rfl rfl ?_
    refine x_aload_n C eJ5_inflateIfNeededFor_a7421_10 rfl ?_
    refine yK0r [_] [_] C (z_coderK hK hS hq) v_J0_coder_7d493 vv_J0_coder_7d493 s_RJ5_40 eJ5_inflateIfNeededFor_a7421_11 (fun _ _ h => WF_pick [0] rfl rfl h) hq.rcv rfl (nle rfl) (nle rfl) (nle rfl) (nle rfl) rfl ?_
    refine x_icmp_eq 21 C eJ5_inflateIfNeededFor_a7421_14 rfl (by omega) (by omega) (fun h14 => ?_) (fun h14 => ?_)
    · refine x_vret C F eJ5_inflateIfNeededFor_a7421_21 () rfl trivial (fun cf c h => ?_) (nle rfl) (nle rfl)
      exact WF_pick [0] rfl rfl h
    · exfalso; omega
    
  

set_option maxHeartbeats 4000000 in
set_option maxRecDepth 100000 in
theorem z_getBytes {G : Gm} {l : Launch} (hK : KG G) {vb N : Nat} {w : List Int} {q9 b9 : Nat} {v : List Int} (hS : KS G) (hq : strG G q9 b9 v) (hc : w.length + v.length ≤ N ∧ N ≤ 602) : MD G l yJ0_getBytes_840e7 cJ0_getBytes_840e7 4 none 3 0 0 [.ref q9, .ref vb, .int (zI (w.length : Int)), .int (zI 0)] [ar G 1 vb N N (oF (w))] none [ar G 1 vb N N (oF (w ++ v))] := by
  refine MX_of (lv := [some (.ref q9), some (.ref vb), some (.int (zI (w.length : Int))), some (.int (zI 0))]) hK (by decide +kernel) rfl (nle rfl) (fun X C F => ?_)
  have C : OKc G X l RJ0 "getBytes" cJ0_getBytes_840e7 4 none 3 0 0 := C
  have h400 := hq.1.1
  refine x_aload_n C eJ0_getBytes_840e7_0 rfl ?_
  refine yK0r [_] [_] C (z_coderK hK hS hq) v_J0_coder_7d493 vv_J0_coder_7d493 s_RJ0_335 eJ0_getBytes_840e7_1 (fun _ _ h => WF_pick [0] rfl rfl h) hq.rcv rfl (nle rfl) (nle rfl) (nle rfl) (nle rfl) rfl ?_
  refine x_iload_n C eJ0_getBytes_840e7_4 rfl ?_
  refine x_icmp_ne 28 C eJ0_getBytes_840e7_5 rfl (by omega) (by omega) (fun h5 => ?_) (fun h5 => ?_)
  · exfalso; omega
  · refine x_aload_n C eJ0_getBytes_840e7_8 rfl ?_
    refine x_getK C k_value eJ0_getBytes_840e7_9 (fun s hs' cf c H hw hH => ((hq.sk _).2 s hs' cf c H hw hH).2.2.1) ?_
    refine x_iconst C eJ0_getBytes_840e7_12 ?_
    refine x_aload_n C eJ0_getBytes_840e7_13 rfl ?_
    refine x_iload_n C eJ0_getBytes_840e7_14 rfl ?_
    refine x_iload_n C eJ0_getBytes_840e7_15 rfl ?_
    refine x_ishlR C eJ0_getBytes_840e7_16 ?_
    rw [shl0]
    refine x_aload_n C eJ0_getBytes_840e7_17 rfl ?_
    refine x_getK C k_value eJ0_getBytes_840e7_18 (fun s hs' cf c H hw hH => ((hq.sk _).2 s hs' cf c H hw hH).2.2.1) ?_
    refine x_alenK (w := v) C eJ0_getBytes_840e7_21 (fun s hs' cf c H hw hH => ((hq.sk _).2 s hs' cf c H hw hH).2.2.2) ?_
    refine x_copyK [_] N 0 C s_RJ0_212 s2_copy eJ0_getBytes_840e7_22 (fun s hs' cf c H hw hH => ((hq.sk _).2 s hs' cf c H hw hH).2.2.2) hq.1.2 rfl (by omega) rfl (by omega) (by omega) (by omega) rfl (nle rfl) (nle rfl) rfl ?_
    refine x_goto (pc' := 43) C eJ0_getBytes_840e7_25 rfl ?_
    refine x_vret C F eJ0_getBytes_840e7_43 () rfl trivial (fun cf c h => ?_) (nle rfl) (nle rfl)
    refine PW.wf (PW_cons (fun _ h => ar_congr (Nat.le_refl _) (fun j _ => ?_) h) PW_nil) (WF_pick [0] rfl rfl h)
    rw [Int.toNat_natCast]
    exact oF_c j
    
    
    
    

set_option maxHeartbeats 4000000 in
set_option maxRecDepth 100000 in
theorem z_putStringAt {G : Gm} {l : Launch} (hK : KG G) {sb vb N : Nat} {w : List Int} {q9 b9 : Nat} {v : List Int} (hD : KD G) (hq : strG G q9 b9 v) (hc : w.length + v.length ≤ N ∧ N ≤ 602) : MD G l yJ5_putStringAt_47b60 cJ5_putStringAt_47b60 3 none 4 0 0 [.ref sb, .int (zI (w.length : Int)), .ref q9] [ob sb 1 [some (.ref vb), some (.int (zI 0)), none, none] (sbI (w)), ar G 1 vb N N (oF (w))] none [ob sb 1 [some (.ref vb), some (.int (zI 0)), none, none] (sbI (w)), ar G 1 vb N N (oF (w ++ v))] := by
  refine MX_of (lv := [some (.ref sb), some (.int (zI (w.length : Int))), some (.ref q9)]) hK (by decide +kernel) rfl (nle rfl) (fun X C F => ?_)
  have C : OKc G X l RJ5 "putStringAt" cJ5_putStringAt_47b60 3 none 4 0 0 := C
  have hS : KS G := hD.1
  refine x_aload_n C eJ5_putStringAt_47b60_0 rfl ?_
  refine x_aload_n C eJ5_putStringAt_47b60_1 rfl ?_
  refine yVP1v [_] [_, _] C (z_inflate hK hS hq) v_J5_inflateIfNeededFor_a7421 hci_1 im_J5_inflateIfNeededFor_a7421 s_RJ5_397 sm_J5_inflateIfNeededFor_a7421 hD.2.2.2.2.2.2 eJ5_putStringAt_47b60_2 (fun _ _ h => WF_pick [0, 1] rfl rfl h) (rcv 0 rfl) rfl (nle rfl) (nle rfl) (nle rfl) (nle rfl) rfl ?_
  refine x_aload_n C eJ5_putStringAt_47b60_5 rfl ?_
  refine x_aload_n C eJ5_putStringAt_47b60_6 rfl ?_
  refine x_getR 0 C f_RJ5_15 eJ5_putStringAt_47b60_7 rfl rfl ?_
  refine x_iload_n C eJ5_putStringAt_47b60_10 rfl ?_
  refine x_aload_n C eJ5_putStringAt_47b60_11 rfl ?_
  refine x_getR 0 C f_RJ5_22 eJ5_putStringAt_47b60_12 rfl rfl ?_
  refine yK3v [_] [_, _] C (z_getBytes hK hS hq hc) v_J0_getBytes_840e7 vv_J0_getBytes_840e7 s_RJ5_399 eJ5_putStringAt_47b60_15 (fun _ _ h => WF_pick [1, 0] rfl rfl h) hq.rcv rfl (nle rfl) (nle rfl) (nle rfl) (nle rfl) rfl ?_
  refine x_vret C F eJ5_putStringAt_47b60_18 () rfl trivial (fun cf c h => ?_) (nle rfl) (nle rfl)
  exact WF_pick [1, 0] rfl rfl h
  

set_option maxHeartbeats 4000000 in
set_option maxRecDepth 100000 in
theorem z_appendS5 {G : Gm} {l : Launch} (hK : KG G) {sb vb N : Nat} {w : List Int} {q9 b9 : Nat} {v : List Int} (hD : KD G) (hc : ((1 ≤ N ∧ N ≤ 602) ∧ w.length ≤ N) ∧ w.length + v.length ≤ 300) (hb : ∀ x ∈ w, 0 ≤ x ∧ x < 128) (hq : strG G q9 b9 v) : MX G l yJ5_append_cf1ce cJ5_append_cf1ce 3 (some (.object "java/lang/AbstractStringBuilder")) 6 1 602 [.ref sb, .ref q9] [ob sb 1 [some (.ref vb), some (.int (zI 0)), none, none] (sbI (w)), ar G 1 vb N N (oF (w))] (fun _ : Nat × Nat => some (.ref sb)) (fun x => ((1 ≤ x.2 ∧ x.2 ≤ 602) ∧ (w ++ v).length ≤ x.2)) (fun x : Nat × Nat => [ob sb 1 [some (.ref x.1), some (.int (zI 0)), none, none] (sbI (w ++ v)), ar G 1 x.1 x.2 x.2 (oF (w ++ v))]) := by
  refine MX_of (lv := [some (.ref sb), some (.ref q9), none]) hK (by decide +kernel) rfl (nle rfl) (fun X C F => ?_)
  have C : OKc G X l RJ5 "append" cJ5_append_cf1ce 3 (some (.object "java/lang/AbstractStringBuilder")) 6 1 602 := C
  have hS : KS G := hD.1
  refine x_aload_n C eJ5_append_cf1ce_0 rfl ?_
  refine x_ifnonnull (pc' := 9) C eJ5_append_cf1ce_1 rfl ?_
  refine x_aload_n C eJ5_append_cf1ce_9 rfl ?_
  refine yK0r [_, _] [_, _] C (z_lenK hK hS hq) v_J0_length_8abf5 vv_J0_length_8abf5 s_RJ5_32 eJ5_append_cf1ce_10 (fun _ _ h => WF_pick [0, 1] rfl rfl h) hq.rcv rfl (nle rfl) (nle rfl) (nle rfl) (nle rfl) rfl ?_
  refine x_istore_n [_, _, _] C eJ5_append_cf1ce_13 rfl rfl (nlt rfl) ?_
  refine x_aload_n C eJ5_append_cf1ce_14 rfl ?_
  refine x_aload_n C eJ5_append_cf1ce_15 rfl ?_
  refine x_getI 0 C f_RJ5_79 eJ5_append_cf1ce_16 rfl rfl ?_
  rw [show sbI w 3 = (w.length : Int) from rfl]
  refine x_iload_n C eJ5_append_cf1ce_19 rfl ?_
  refine x_iadd C eJ5_append_cf1ce_20 ?_
  refine yVP1x [] C (z_ensure hK hD (by omega) hb) v_J5_ensureCapacityInternal_d00df hci_1 im_J5_ensureCapacityInternal_d00df s_RJ5_100 sm_J5_ensureCapacityInternal_d00df hS.1.2 eJ5_append_cf1ce_21 (fun _ _ h => WF_pick [0, 1] rfl rfl h) (rcv 0 rfl) rfl (nle rfl) (nle rfl) (nle rfl) (nle rfl) (fun x21 hx21 => ?_)
  obtain ⟨hx21a, hx21b⟩ := hx21
  refine x_aload_n C eJ5_append_cf1ce_24 rfl ?_
  refine x_aload_n C eJ5_append_cf1ce_25 rfl ?_
  refine x_getI 0 C f_RJ5_79 eJ5_append_cf1ce_26 rfl rfl ?_
  rw [show sbI w 3 = (w.length : Int) from rfl]
  refine x_aload_n C eJ5_append_cf1ce_29 rfl ?_
  refine yVP2v [] [_, _] C (z_putStringAt hK hD hq (by omega)) v_J5_putStringAt_47b60 hci_1 im_J5_putStringAt_47b60 s_RJ5_208 sm_J5_putStringAt_47b60 hD.2.2.2.2.2.1 eJ5_append_cf1ce_30 (fun _ _ h => WF_pick [0, 1] rfl rfl h) (rcv 0 rfl) rfl (nle rfl) (nle rfl) (nle rfl) (nle rfl) rfl ?_
  refine x_aload_n C eJ5_append_cf1ce_33 rfl ?_
  refine x_dup C eJ5_append_cf1ce_34 rfl ?_
  refine x_getI 0 C f_RJ5_79 eJ5_append_cf1ce_35 rfl rfl ?_
  rw [show sbI w 3 = (w.length : Int) from rfl]
  refine x_iload_n C eJ5_append_cf1ce_38 rfl ?_
  refine x_iadd C eJ5_append_cf1ce_39 ?_
  refine x_putI [_, _] 0 C f_RJ5_79 eJ5_append_cf1ce_40 rfl rfl rfl ?_
  refine x_aload_n C eJ5_append_cf1ce_43 rfl ?_
  refine x_aret (Or.inl ⟨_, rfl⟩) C F eJ5_append_cf1ce_44 x21 rfl (by rw [List.length_append]; omega) (fun cf c h => ?_) (nle rfl) (nle rfl)
  refine PW.wf (PW_cons (fun _ h => ob_congr (fun i hi9 => ?_) h) (PW_cons (fun _ h => ?_) PW_nil)) (WF_pick [0, 1] rfl rfl h)
  · match i with
    | 0 => exact absurd hi9 (by simp)
    | 1 => exact absurd hi9 (by simp)
    | 2 => rfl
    | 3 => exact (up_s _ _ _).trans (by show (w.length : Int) + (v.length : Int) = ((w ++ v).length : Int); rw [List.length_append]; omega)
    | (k + 4) => exact absurd hi9 (by simp)
  · exact h

set_option maxHeartbeats 4000000 in
set_option maxRecDepth 100000 in
theorem z_appendS4 {G : Gm} {l : Launch} (hK : KG G) {sb vb N : Nat} {w : List Int} {q9 b9 : Nat} {v : List Int} (hD : KD G) (hc : ((1 ≤ N ∧ N ≤ 602) ∧ w.length ≤ N) ∧ w.length + v.length ≤ 300) (hb : ∀ x ∈ w, 0 ≤ x ∧ x < 128) (hq : strG G q9 b9 v) : MX G l yJ4_append_15ec4 cJ4_append_15ec4 2 (some (.object "java/lang/StringBuilder")) 7 1 602 [.ref sb, .ref q9] [ob sb 1 [some (.ref vb), some (.int (zI 0)), none, none] (sbI (w)), ar G 1 vb N N (oF (w))] (fun _ : Nat × Nat => some (.ref sb)) (fun x => ((1 ≤ x.2 ∧ x.2 ≤ 602) ∧ (w ++ v).length ≤ x.2)) (fun x : Nat × Nat => [ob sb 1 [some (.ref x.1), some (.int (zI 0)), none, none] (sbI (w ++ v)), ar G 1 x.1 x.2 x.2 (oF (w ++ v))]) := by
  refine MX_of (lv := [some (.ref sb), some (.ref q9)]) hK (by decide +kernel) rfl (nle rfl) (fun X C F => ?_)
  have C : OKc G X l RJ4 "append" cJ4_append_15ec4 2 (some (.object "java/lang/StringBuilder")) 7 1 602 := C
  refine x_aload_n C eJ4_append_15ec4_0 rfl ?_
  refine x_aload_n C eJ4_append_15ec4_1 rfl ?_
  refine ySU1x [] C (z_appendS5 hK hD hc hb hq) v_J5_append_cf1ce hci_1 im_J5_append_cf1ce (by decide +kernel) s_RJ4_29 sm_J5_append_cf1ce sup_J4 eJ4_append_15ec4_2 (fun _ _ h => WF_pick [0, 1] rfl rfl h) (rcv 0 rfl) rfl (nle rfl) (nle rfl) (nle rfl) (nle rfl) (fun x2 hx2 => ?_)
  refine x_pop C eJ4_append_15ec4_5 rfl ?_
  refine x_aload_n C eJ4_append_15ec4_6 rfl ?_
  refine x_aret (Or.inl ⟨_, rfl⟩) C F eJ4_append_15ec4_7 x2 rfl hx2 (fun cf c h => ?_) (nle rfl) (nle rfl)
  exact WF_pick [0, 1] rfl rfl h

set_option maxHeartbeats 4000000 in
set_option maxRecDepth 100000 in
theorem z_appendC4 {G : Gm} {l : Launch} (hK : KG G) {sb vb N : Nat} {w : List Int} {c9 : Int} (hD : KD G) (hc : ((1 ≤ N ∧ N ≤ 602) ∧ w.length ≤ N) ∧ w.length + 1 ≤ 300) (hb : ∀ x ∈ w, 0 ≤ x ∧ x < 128) (hc9 : 0 ≤ c9 ∧ c9 < 128) : MX G l yJ4_append_cf468 cJ4_append_cf468 2 (some (.object "java/lang/StringBuilder")) 7 1 602 [.ref sb, .int (zI c9)] [ob sb 1 [some (.ref vb), some (.int (zI 0)), none, none] (sbI (w)), ar G 1 vb N N (oF (w))] (fun _ : Nat × Nat => some (.ref sb)) (fun x => ((1 ≤ x.2 ∧ x.2 ≤ 602) ∧ (w ++ [c9]).length ≤ x.2)) (fun x : Nat × Nat => [ob sb 1 [some (.ref x.1), some (.int (zI 0)), none, none] (sbI (w ++ [c9])), ar G 1 x.1 x.2 x.2 (oF (w ++ [c9]))]) := by
  refine MX_of (lv := [some (.ref sb), some (.int (zI c9))]) hK (by decide +kernel) rfl (nle rfl) (fun X C F => ?_)
  have C : OKc G X l RJ4 "append" cJ4_append_cf468 2 (some (.object "java/lang/StringBuilder")) 7 1 602 := C
  refine x_aload_n C eJ4_append_cf468_0 rfl ?_
  refine x_iload_n C eJ4_append_cf468_1 rfl ?_
  refine ySU1x [] C (z_appendC5 hK hD hc hb hc9) v_J5_append_3fe6f hci_1 im_J5_append_3fe6f (by decide +kernel) s_RJ4_50 sm_J5_append_3fe6f sup_J4 eJ4_append_cf468_2 (fun _ _ h => WF_pick [0, 1] rfl rfl h) (rcv 0 rfl) rfl (nle rfl) (nle rfl) (nle rfl) (nle rfl) (fun x2 hx2 => ?_)
  refine x_pop C eJ4_append_cf468_5 rfl ?_
  refine x_aload_n C eJ4_append_cf468_6 rfl ?_
  refine x_aret (Or.inl ⟨_, rfl⟩) C F eJ4_append_cf468_7 x2 rfl hx2 (fun cf c h => ?_) (nle rfl) (nle rfl)
  exact WF_pick [0, 1] rfl rfl h

set_option maxHeartbeats 4000000 in
set_option maxRecDepth 100000 in
theorem z_stringSize {G : Gm} {l : Launch} (hK : KG G) {x9 : Int} (hx : 0 ≤ x9 ∧ x9 ≤ 127) : MD G l yJ6_stringSize_0f7a4 cJ6_stringSize_0f7a4 4 (some .int) 1 0 0 [.int (zI x9)] [] (some (.int (zI (dl x9)))) [] := by
  refine MX_of (lv := [some (.int (zI x9)), none, none, none]) hK (by decide +kernel) rfl (nle rfl) (fun X C F => ?_)
  have C : OKc G X l RJ6 "stringSize" cJ6_stringSize_0f7a4 4 (some .int) 1 0 0 := C
  refine x_iconst C eJ6_stringSize_0f7a4_0 ?_
  refine x_istore_n [_, _, _, _] C eJ6_stringSize_0f7a4_1 rfl rfl (nlt rfl) ?_
  refine x_iload_n C eJ6_stringSize_0f7a4_2 rfl ?_
  refine x_if_lt 11 C eJ6_stringSize_0f7a4_3 rfl (by omega) (fun h3 => ?_) (fun h3 => ?_)
  · exfalso; omega
  · refine x_iconst C eJ6_stringSize_0f7a4_6 ?_
    refine x_istore_n [_, _, _, _] C eJ6_stringSize_0f7a4_7 rfl rfl (nlt rfl) ?_
    refine x_iload_n C eJ6_stringSize_0f7a4_8 rfl ?_
    refine x_ineg C eJ6_stringSize_0f7a4_9 ?_
    refine x_istore_n [_, _, _, _] C eJ6_stringSize_0f7a4_10 rfl rfl (nlt rfl) ?_
    refine x_bipush C eJ6_stringSize_0f7a4_11 rfl ?_
    refine x_istore_n [_, _, _, _] C eJ6_stringSize_0f7a4_13 rfl rfl (nlt rfl) ?_
    refine x_iconst C eJ6_stringSize_0f7a4_14 ?_
    refine x_istore_n [_, _, _, _] C eJ6_stringSize_0f7a4_15 rfl rfl (nlt rfl) ?_
    refine x_iload_n C eJ6_stringSize_0f7a4_16 rfl ?_
    refine x_bipush C eJ6_stringSize_0f7a4_17 rfl ?_
    refine x_icmp_ge 42 C eJ6_stringSize_0f7a4_19 rfl (by omega) (by omega) (fun h19 => ?_) (fun h19 => ?_)
    · exfalso; omega
    · refine x_iload_n C eJ6_stringSize_0f7a4_22 rfl ?_
      refine x_iload_n C eJ6_stringSize_0f7a4_23 rfl ?_
      refine x_icmp_le 31 C eJ6_stringSize_0f7a4_24 rfl (by omega) (by omega) (fun h24 => ?_) (fun h24 => ?_)
      · refine x_bipush C eJ6_stringSize_0f7a4_31 rfl ?_
        refine x_iload_n C eJ6_stringSize_0f7a4_33 rfl ?_
        refine x_imul C eJ6_stringSize_0f7a4_34 ?_
        refine x_istore_n [_, _, _, _] C eJ6_stringSize_0f7a4_35 rfl rfl (nlt rfl) ?_
        refine x_iinc [_, _, _, _] C eJ6_stringSize_0f7a4_36 rfl rfl rfl ?_
        refine x_goto (pc' := 16) C eJ6_stringSize_0f7a4_39 rfl ?_
        refine x_iload_n C eJ6_stringSize_0f7a4_16 rfl ?_
        refine x_bipush C eJ6_stringSize_0f7a4_17 rfl ?_
        refine x_icmp_ge 42 C eJ6_stringSize_0f7a4_19 rfl (by omega) (by omega) (fun h19 => ?_) (fun h19 => ?_)
        · exfalso; omega
        · refine x_iload_n C eJ6_stringSize_0f7a4_22 rfl ?_
          refine x_iload_n C eJ6_stringSize_0f7a4_23 rfl ?_
          refine x_icmp_le 31 C eJ6_stringSize_0f7a4_24 rfl (by omega) (by omega) (fun h24 => ?_) (fun h24 => ?_)
          · refine x_bipush C eJ6_stringSize_0f7a4_31 rfl ?_
            refine x_iload_n C eJ6_stringSize_0f7a4_33 rfl ?_
            refine x_imul C eJ6_stringSize_0f7a4_34 ?_
            refine x_istore_n [_, _, _, _] C eJ6_stringSize_0f7a4_35 rfl rfl (nlt rfl) ?_
            refine x_iinc [_, _, _, _] C eJ6_stringSize_0f7a4_36 rfl rfl rfl ?_
            refine x_goto (pc' := 16) C eJ6_stringSize_0f7a4_39 rfl ?_
            refine x_iload_n C eJ6_stringSize_0f7a4_16 rfl ?_
            refine x_bipush C eJ6_stringSize_0f7a4_17 rfl ?_
            refine x_icmp_ge 42 C eJ6_stringSize_0f7a4_19 rfl (by omega) (by omega) (fun h19 => ?_) (fun h19 => ?_)
            · exfalso; omega
            · refine x_iload_n C eJ6_stringSize_0f7a4_22 rfl ?_
              refine x_iload_n C eJ6_stringSize_0f7a4_23 rfl ?_
              refine x_icmp_le 31 C eJ6_stringSize_0f7a4_24 rfl (by omega) (by omega) (fun h24 => ?_) (fun h24 => ?_)
              · refine x_bipush C eJ6_stringSize_0f7a4_31 rfl ?_
                refine x_iload_n C eJ6_stringSize_0f7a4_33 rfl ?_
                refine x_imul C eJ6_stringSize_0f7a4_34 ?_
                refine x_istore_n [_, _, _, _] C eJ6_stringSize_0f7a4_35 rfl rfl (nlt rfl) ?_
                refine x_iinc [_, _, _, _] C eJ6_stringSize_0f7a4_36 rfl rfl rfl ?_
                refine x_goto (pc' := 16) C eJ6_stringSize_0f7a4_39 rfl ?_
                refine x_iload_n C eJ6_stringSize_0f7a4_16 rfl ?_
                refine x_bipush C eJ6_stringSize_0f7a4_17 rfl ?_
                refine x_icmp_ge 42 C eJ6_stringSize_0f7a4_19 rfl (by omega) (by omega) (fun h19 => ?_) (fun h19 => ?_)
                · exfalso; omega
                · refine x_iload_n C eJ6_stringSize_0f7a4_22 rfl ?_
                  refine x_iload_n C eJ6_stringSize_0f7a4_23 rfl ?_
                  refine x_icmp_le 31 C eJ6_stringSize_0f7a4_24 rfl (by omega) (by omega) (fun h24 => ?_) (fun h24 => ?_)
                  · refine x_bipush C eJ6_stringSize_0f7a4_31 rfl ?_
                    refine x_iload_n C eJ6_stringSize_0f7a4_33 rfl ?_
                    refine x_imul C eJ6_stringSize_0f7a4_34 ?_
                    refine x_istore_n [_, _, _, _] C eJ6_stringSize_0f7a4_35 rfl rfl (nlt rfl) ?_
                    refine x_iinc [_, _, _, _] C eJ6_stringSize_0f7a4_36 rfl rfl rfl ?_
                    refine x_goto (pc' := 16) C eJ6_stringSize_0f7a4_39 rfl ?_
                    exfalso; omega
                    
                  · refine x_iload_n C eJ6_stringSize_0f7a4_27 rfl ?_
                    refine x_iload_n C eJ6_stringSize_0f7a4_28 rfl ?_
                    refine x_iadd C eJ6_stringSize_0f7a4_29 ?_
                    refine x_iret (by first | rfl | exact (narZ (by omega)).1) C F eJ6_stringSize_0f7a4_30 () ?_ trivial (fun cf c h => ?_) (nle rfl) (nle rfl)
                    · exact congrArg (fun z => some (Value.int (zI z))) (by unfold dl; split; all_goals (try split); all_goals omega)
                    · exact WF_pick [] rfl rfl h
                
              · refine x_iload_n C eJ6_stringSize_0f7a4_27 rfl ?_
                refine x_iload_n C eJ6_stringSize_0f7a4_28 rfl ?_
                refine x_iadd C eJ6_stringSize_0f7a4_29 ?_
                refine x_iret (by first | rfl | exact (narZ (by omega)).1) C F eJ6_stringSize_0f7a4_30 () ?_ trivial (fun cf c h => ?_) (nle rfl) (nle rfl)
                · exact congrArg (fun z => some (Value.int (zI z))) (by unfold dl; split; all_goals (try split); all_goals omega)
                · exact WF_pick [] rfl rfl h
            
          · refine x_iload_n C eJ6_stringSize_0f7a4_27 rfl ?_
            refine x_iload_n C eJ6_stringSize_0f7a4_28 rfl ?_
            refine x_iadd C eJ6_stringSize_0f7a4_29 ?_
            refine x_iret (by first | rfl | exact (narZ (by omega)).1) C F eJ6_stringSize_0f7a4_30 () ?_ trivial (fun cf c h => ?_) (nle rfl) (nle rfl)
            · exact congrArg (fun z => some (Value.int (zI z))) (by unfold dl; split; all_goals (try split); all_goals omega)
            · exact WF_pick [] rfl rfl h
        
      · refine x_iload_n C eJ6_stringSize_0f7a4_27 rfl ?_
        refine x_iload_n C eJ6_stringSize_0f7a4_28 rfl ?_
        refine x_iadd C eJ6_stringSize_0f7a4_29 ?_
        refine x_iret (by first | rfl | exact (narZ (by omega)).1) C F eJ6_stringSize_0f7a4_30 () ?_ trivial (fun cf c h => ?_) (nle rfl) (nle rfl)
        · exact congrArg (fun z => some (Value.int (zI z))) (by unfold dl; split; all_goals (try split); all_goals omega)
        · exact WF_pick [] rfl rfl h
    
    

set_option maxHeartbeats 4000000 in
set_option maxRecDepth 100000 in
theorem z_getChars {G : Gm} {l : Launch} (hK : KG G) {vb N : Nat} {w : List Int} {x9 p9 : Int} (hD : KD G) (hx : 0 ≤ x9 ∧ x9 ≤ 127) (hp : p9 = (w.length : Int) + dl x9 ∧ p9 ≤ (N : Int) ∧ N ≤ 602) : MD G l yJ6_getChars_ba4f3 cJ6_getChars_ba4f3 7 (some .int) 1 0 0 [.int (zI x9), .int (zI p9), .ref vb] [ar G 1 vb N N (oF (w))] (some (.int (zI (w.length : Int)))) [ar G 1 vb N N (oF (w ++ dg x9))] := by
  refine MX_of (lv := [some (.int (zI x9)), some (.int (zI p9)), some (.ref vb), none, none, none, none]) hK (by decide +kernel) rfl (nle rfl) (fun X C F => ?_)
  have C : OKc G X l RJ6 "getChars" cJ6_getChars_ba4f3 7 (some .int) 1 0 0 := C
  obtain ⟨to, hoz, hov⟩ := hD.2.1
  obtain ⟨tt, htz, htv⟩ := hD.2.2.1
  have hol := w_ones_len
  have htl := w_tens_len
  have hdl : dl x9 = 1 ∧ x9 < 10 ∨ dl x9 = 2 ∧ 10 ≤ x9 ∧ x9 < 100 ∨ dl x9 = 3 ∧ 100 ≤ x9 := by
    unfold dl
    split
    · omega
    · split <;> omega
  refine x_iload_n C eJ6_getChars_ba4f3_0 rfl ?_
  refine x_istore [_, _, _, _, _, _, _] C eJ6_getChars_ba4f3_1 rfl rfl (nlt rfl) ?_
  refine x_iload_n C eJ6_getChars_ba4f3_3 rfl ?_
  refine x_if_ge 11 C eJ6_getChars_ba4f3_4 rfl (by omega) (fun h4 => ?_) (fun h4 => ?_)
  · refine x_iconst C eJ6_getChars_ba4f3_11 ?_
    refine x_istore [_, _, _, _, _, _, _] C eJ6_getChars_ba4f3_12 rfl rfl (nlt rfl) ?_
    refine x_iload C eJ6_getChars_ba4f3_14 rfl ?_
    refine x_if_ne 22 C eJ6_getChars_ba4f3_16 rfl (by omega) (fun h16 => ?_) (fun h16 => ?_)
    · exfalso; omega
    · refine x_iload_n C eJ6_getChars_ba4f3_19 rfl ?_
      refine x_ineg C eJ6_getChars_ba4f3_20 ?_
      refine x_istore_n [_, _, _, _, _, _, _] C eJ6_getChars_ba4f3_21 rfl rfl (nlt rfl) ?_
      refine x_iload_n C eJ6_getChars_ba4f3_22 rfl ?_
      refine x_bipush C eJ6_getChars_ba4f3_23 rfl ?_
      refine x_icmp_gt 72 C eJ6_getChars_ba4f3_25 rfl (by omega) (by omega) (fun h25_1 => ?_) (fun h25_1 => ?_)
      · skip
        refine x_aload_n C eJ6_getChars_ba4f3_72 rfl ?_
        refine x_iinc [_, _, _, _, _, _, _] C eJ6_getChars_ba4f3_73 rfl rfl rfl ?_
        refine x_iload C eJ6_getChars_ba4f3_76 rfl ?_
        refine x_getsK C k_ones eJ6_getChars_ba4f3_78 hoz ?_
        refine x_iload_n C eJ6_getChars_ba4f3_81 rfl ?_
        refine x_ineg C eJ6_getChars_ba4f3_82 ?_
        refine x_baldK (w := w_ones) C eJ6_getChars_ba4f3_83 (tab_str hov) (by decide +kernel) (by omega) ?_
        rw [ones_at (by omega)]
        refine x_bast (x := 0) [_] N 0 C eJ6_getChars_ba4f3_84 rfl (by omega) (by omega) (by omega) rfl ?_
        rw [i8_d (by omega)]
        refine x_iload_n C eJ6_getChars_ba4f3_85 rfl ?_
        refine x_bipush C eJ6_getChars_ba4f3_86 rfl ?_
        refine x_icmp_ge 104 C eJ6_getChars_ba4f3_88 rfl (by omega) (by omega) (fun h88 => ?_) (fun h88 => ?_)
        · refine x_iload C eJ6_getChars_ba4f3_104 rfl ?_
          refine x_if_eq 118 C eJ6_getChars_ba4f3_106 rfl (by omega) (fun h106 => ?_) (fun h106 => ?_)
          · refine x_iload C eJ6_getChars_ba4f3_118 rfl ?_
            refine x_iret (by first | rfl | exact (narZ (by omega)).1) C F eJ6_getChars_ba4f3_120 () ?_ trivial (fun cf c h => ?_) (nle rfl) (nle rfl)
            · exact congrArg (fun z => some (Value.int (zI z))) (by omega)
            · refine PW.wf (PW_cons (fun _ h => ?_) PW_nil) (WF_pick [0] rfl rfl h)
              refine ar_congr (Nat.le_refl _) (fun j _ => congrFun ?_ j) h
              unfold dg
              rcases hdl with ⟨e1, e2⟩ | ⟨e1, e2, e3⟩ | ⟨e1, e2⟩
              · first
                | (exfalso; omega)
                | (rw [if_pos e2, ← oF_a]; congr 1 <;> omega)
              · first
                | (exfalso; omega)
                | (rw [if_neg (by omega), if_pos e3, ← oF_2]; congr 1 <;> first | omega | (congr 1 <;> omega))
              · first
                | (exfalso; omega)
                | (rw [if_neg (by omega), if_neg (by omega), ← oF_3]; congr 1 <;> first | omega | (congr 1 <;> first | omega | (congr 1 <;> omega)))
          · exfalso; omega
        · refine x_aload_n C eJ6_getChars_ba4f3_91 rfl ?_
          refine x_iinc [_, _, _, _, _, _, _] C eJ6_getChars_ba4f3_92 rfl rfl rfl ?_
          refine x_iload C eJ6_getChars_ba4f3_95 rfl ?_
          refine x_getsK C k_tens eJ6_getChars_ba4f3_97 htz ?_
          refine x_iload_n C eJ6_getChars_ba4f3_100 rfl ?_
          refine x_ineg C eJ6_getChars_ba4f3_101 ?_
          refine x_baldK (w := w_tens) C eJ6_getChars_ba4f3_102 (tab_str htv) (by decide +kernel) (by omega) ?_
          rw [tens_at (by omega)]
          refine x_bast (x := 0) [_] N 0 C eJ6_getChars_ba4f3_103 rfl (by omega) (by omega) (by omega) rfl ?_
          rw [i8_d (by omega)]
          refine x_iload C eJ6_getChars_ba4f3_104 rfl ?_
          refine x_if_eq 118 C eJ6_getChars_ba4f3_106 rfl (by omega) (fun h106 => ?_) (fun h106 => ?_)
          · refine x_iload C eJ6_getChars_ba4f3_118 rfl ?_
            refine x_iret (by first | rfl | exact (narZ (by omega)).1) C F eJ6_getChars_ba4f3_120 () ?_ trivial (fun cf c h => ?_) (nle rfl) (nle rfl)
            · exact congrArg (fun z => some (Value.int (zI z))) (by omega)
            · refine PW.wf (PW_cons (fun _ h => ?_) PW_nil) (WF_pick [0] rfl rfl h)
              refine ar_congr (Nat.le_refl _) (fun j _ => congrFun ?_ j) h
              unfold dg
              rcases hdl with ⟨e1, e2⟩ | ⟨e1, e2, e3⟩ | ⟨e1, e2⟩
              · first
                | (exfalso; omega)
                | (rw [if_pos e2, ← oF_a]; congr 1 <;> omega)
              · first
                | (exfalso; omega)
                | (rw [if_neg (by omega), if_pos e3, ← oF_2]; congr 1 <;> first | omega | (congr 1 <;> omega))
              · first
                | (exfalso; omega)
                | (rw [if_neg (by omega), if_neg (by omega), ← oF_3]; congr 1 <;> first | omega | (congr 1 <;> first | omega | (congr 1 <;> omega)))
          · exfalso; omega
          
          
          
          
        
        
        
        
      · skip
        refine x_iload_n C eJ6_getChars_ba4f3_28 rfl ?_
        refine x_bipush C eJ6_getChars_ba4f3_29 rfl ?_
        refine x_idivR C eJ6_getChars_ba4f3_31 (by decide) ?_
        rw [div_h (by omega)]
        refine x_istore_n [_, _, _, _, _, _, _] C eJ6_getChars_ba4f3_32 rfl rfl (nlt rfl) ?_
        refine x_iload_n C eJ6_getChars_ba4f3_33 rfl ?_
        refine x_bipush C eJ6_getChars_ba4f3_34 rfl ?_
        refine x_imul C eJ6_getChars_ba4f3_36 ?_
        refine x_iload_n C eJ6_getChars_ba4f3_37 rfl ?_
        refine x_isub C eJ6_getChars_ba4f3_38 ?_
        refine x_istore [_, _, _, _, _, _, _] C eJ6_getChars_ba4f3_39 rfl rfl (nlt rfl) ?_
        refine x_iload_n C eJ6_getChars_ba4f3_41 rfl ?_
        refine x_istore_n [_, _, _, _, _, _, _] C eJ6_getChars_ba4f3_42 rfl rfl (nlt rfl) ?_
        refine x_aload_n C eJ6_getChars_ba4f3_43 rfl ?_
        refine x_iinc [_, _, _, _, _, _, _] C eJ6_getChars_ba4f3_44 rfl rfl rfl ?_
        refine x_iload C eJ6_getChars_ba4f3_47 rfl ?_
        refine x_getsK C k_ones eJ6_getChars_ba4f3_49 hoz ?_
        refine x_iload C eJ6_getChars_ba4f3_52 rfl ?_
        refine x_baldK (w := w_ones) C eJ6_getChars_ba4f3_54 (tab_str hov) (by decide +kernel) (by omega) ?_
        rw [ones_at (by omega)]
        refine x_bast (x := 0) [_] N 0 C eJ6_getChars_ba4f3_55 rfl (by omega) (by omega) (by omega) rfl ?_
        rw [i8_d (by omega)]
        refine x_aload_n C eJ6_getChars_ba4f3_56 rfl ?_
        refine x_iinc [_, _, _, _, _, _, _] C eJ6_getChars_ba4f3_57 rfl rfl rfl ?_
        refine x_iload C eJ6_getChars_ba4f3_60 rfl ?_
        refine x_getsK C k_tens eJ6_getChars_ba4f3_62 htz ?_
        refine x_iload C eJ6_getChars_ba4f3_65 rfl ?_
        refine x_baldK (w := w_tens) C eJ6_getChars_ba4f3_67 (tab_str htv) (by decide +kernel) (by omega) ?_
        rw [tens_at (by omega)]
        refine x_bast (x := 0) [_] N 0 C eJ6_getChars_ba4f3_68 rfl (by omega) (by omega) (by omega) rfl ?_
        rw [i8_d (by omega)]
        refine x_goto (pc' := 22) C eJ6_getChars_ba4f3_69 rfl ?_
        refine x_iload_n C eJ6_getChars_ba4f3_22 rfl ?_
        refine x_bipush C eJ6_getChars_ba4f3_23 rfl ?_
        refine x_icmp_gt 72 C eJ6_getChars_ba4f3_25 rfl (by omega) (by omega) (fun h25_2 => ?_) (fun h25_2 => ?_)
        · skip
          refine x_aload_n C eJ6_getChars_ba4f3_72 rfl ?_
          refine x_iinc [_, _, _, _, _, _, _] C eJ6_getChars_ba4f3_73 rfl rfl rfl ?_
          refine x_iload C eJ6_getChars_ba4f3_76 rfl ?_
          refine x_getsK C k_ones eJ6_getChars_ba4f3_78 hoz ?_
          refine x_iload_n C eJ6_getChars_ba4f3_81 rfl ?_
          refine x_ineg C eJ6_getChars_ba4f3_82 ?_
          refine x_baldK (w := w_ones) C eJ6_getChars_ba4f3_83 (tab_str hov) (by decide +kernel) (by omega) ?_
          rw [ones_at (by omega)]
          refine x_bast (x := 0) [_] N 0 C eJ6_getChars_ba4f3_84 rfl (by omega) (by omega) (by omega) rfl ?_
          rw [i8_d (by omega)]
          refine x_iload_n C eJ6_getChars_ba4f3_85 rfl ?_
          refine x_bipush C eJ6_getChars_ba4f3_86 rfl ?_
          refine x_icmp_ge 104 C eJ6_getChars_ba4f3_88 rfl (by omega) (by omega) (fun h88 => ?_) (fun h88 => ?_)
          · refine x_iload C eJ6_getChars_ba4f3_104 rfl ?_
            refine x_if_eq 118 C eJ6_getChars_ba4f3_106 rfl (by omega) (fun h106 => ?_) (fun h106 => ?_)
            · refine x_iload C eJ6_getChars_ba4f3_118 rfl ?_
              refine x_iret (by first | rfl | exact (narZ (by omega)).1) C F eJ6_getChars_ba4f3_120 () ?_ trivial (fun cf c h => ?_) (nle rfl) (nle rfl)
              · exact congrArg (fun z => some (Value.int (zI z))) (by omega)
              · refine PW.wf (PW_cons (fun _ h => ?_) PW_nil) (WF_pick [0] rfl rfl h)
                refine ar_congr (Nat.le_refl _) (fun j _ => congrFun ?_ j) h
                unfold dg
                rcases hdl with ⟨e1, e2⟩ | ⟨e1, e2, e3⟩ | ⟨e1, e2⟩
                · first
                  | (exfalso; omega)
                  | (rw [if_pos e2, ← oF_a]; congr 1 <;> omega)
                · first
                  | (exfalso; omega)
                  | (rw [if_neg (by omega), if_pos e3, ← oF_2]; congr 1 <;> first | omega | (congr 1 <;> omega))
                · first
                  | (exfalso; omega)
                  | (rw [if_neg (by omega), if_neg (by omega), ← oF_3]; congr 1 <;> first | omega | (congr 1 <;> first | omega | (congr 1 <;> omega)))
            · exfalso; omega
          · refine x_aload_n C eJ6_getChars_ba4f3_91 rfl ?_
            refine x_iinc [_, _, _, _, _, _, _] C eJ6_getChars_ba4f3_92 rfl rfl rfl ?_
            refine x_iload C eJ6_getChars_ba4f3_95 rfl ?_
            refine x_getsK C k_tens eJ6_getChars_ba4f3_97 htz ?_
            refine x_iload_n C eJ6_getChars_ba4f3_100 rfl ?_
            refine x_ineg C eJ6_getChars_ba4f3_101 ?_
            refine x_baldK (w := w_tens) C eJ6_getChars_ba4f3_102 (tab_str htv) (by decide +kernel) (by omega) ?_
            rw [tens_at (by omega)]
            refine x_bast (x := 0) [_] N 0 C eJ6_getChars_ba4f3_103 rfl (by omega) (by omega) (by omega) rfl ?_
            rw [i8_d (by omega)]
            refine x_iload C eJ6_getChars_ba4f3_104 rfl ?_
            refine x_if_eq 118 C eJ6_getChars_ba4f3_106 rfl (by omega) (fun h106 => ?_) (fun h106 => ?_)
            · refine x_iload C eJ6_getChars_ba4f3_118 rfl ?_
              refine x_iret (by first | rfl | exact (narZ (by omega)).1) C F eJ6_getChars_ba4f3_120 () ?_ trivial (fun cf c h => ?_) (nle rfl) (nle rfl)
              · exact congrArg (fun z => some (Value.int (zI z))) (by omega)
              · refine PW.wf (PW_cons (fun _ h => ?_) PW_nil) (WF_pick [0] rfl rfl h)
                refine ar_congr (Nat.le_refl _) (fun j _ => congrFun ?_ j) h
                unfold dg
                rcases hdl with ⟨e1, e2⟩ | ⟨e1, e2, e3⟩ | ⟨e1, e2⟩
                · first
                  | (exfalso; omega)
                  | (rw [if_pos e2, ← oF_a]; congr 1 <;> omega)
                · first
                  | (exfalso; omega)
                  | (rw [if_neg (by omega), if_pos e3, ← oF_2]; congr 1 <;> first | omega | (congr 1 <;> omega))
                · first
                  | (exfalso; omega)
                  | (rw [if_neg (by omega), if_neg (by omega), ← oF_3]; congr 1 <;> first | omega | (congr 1 <;> first | omega | (congr 1 <;> omega)))
            · exfalso; omega
            
            
            
            
          
          
          
          
        · skip
          exfalso; omega
        
        
        
        
        
        
        
        
      
      
  · exfalso; omega

set_option maxHeartbeats 4000000 in
set_option maxRecDepth 100000 in
theorem z_appendI5 {G : Gm} {l : Launch} (hK : KG G) {sb vb N : Nat} {w : List Int} {x9 : Int} (hD : KD G) (hc : ((1 ≤ N ∧ N ≤ 602) ∧ w.length ≤ N) ∧ w.length + 3 ≤ 300) (hb : ∀ x ∈ w, 0 ≤ x ∧ x < 128) (hx : 0 ≤ x9 ∧ x9 ≤ 127) : MX G l yJ5_append_c97b9 cJ5_append_c97b9 4 (some (.object "java/lang/AbstractStringBuilder")) 6 1 602 [.ref sb, .int (zI x9)] [ob sb 1 [some (.ref vb), some (.int (zI 0)), none, none] (sbI (w)), ar G 1 vb N N (oF (w))] (fun _ : Nat × Nat => some (.ref sb)) (fun x => ((1 ≤ x.2 ∧ x.2 ≤ 602) ∧ (w ++ dg x9).length ≤ x.2)) (fun x : Nat × Nat => [ob sb 1 [some (.ref x.1), some (.int (zI 0)), none, none] (sbI (w ++ dg x9)), ar G 1 x.1 x.2 x.2 (oF (w ++ dg x9))]) := by
  refine MX_of (lv := [some (.ref sb), some (.int (zI x9)), none, none]) hK (by decide +kernel) rfl (nle rfl) (fun X C F => ?_)
  have C : OKc G X l RJ5 "append" cJ5_append_c97b9 4 (some (.object "java/lang/AbstractStringBuilder")) 6 1 602 := C
  have hS : KS G := hD.1
  have hdl := dg_len x9
  have hd3 : 1 ≤ dl x9 ∧ dl x9 ≤ 3 := by
    unfold dl
    split
    · omega
    · split <;> omega
  refine x_aload_n C eJ5_append_c97b9_0 rfl ?_
  refine x_getI 0 C f_RJ5_79 eJ5_append_c97b9_1 rfl rfl ?_
  rw [show sbI w 3 = (w.length : Int) from rfl]
  refine x_istore_n [_, _, _, _] C eJ5_append_c97b9_4 rfl rfl (nlt rfl) ?_
  refine x_iload_n C eJ5_append_c97b9_5 rfl ?_
  refine x_iload_n C eJ5_append_c97b9_6 rfl ?_
  refine yS1r [_, _] [_, _] C (z_stringSize hK hx) v_J6_stringSize_0f7a4 vs_J6_stringSize_0f7a4 s_RJ5_245 eJ5_append_c97b9_7 (fun _ _ h => WF_pick [0, 1] rfl rfl h) rfl (nle rfl) (nle rfl) (nle rfl) (nle rfl) rfl ?_
  refine x_iadd C eJ5_append_c97b9_10 ?_
  refine x_istore_n [_, _, _, _] C eJ5_append_c97b9_11 rfl rfl (nlt rfl) ?_
  refine x_aload_n C eJ5_append_c97b9_12 rfl ?_
  refine x_iload_n C eJ5_append_c97b9_13 rfl ?_
  refine yVP1x [] C (z_ensure hK hD (by omega) hb) v_J5_ensureCapacityInternal_d00df hci_1 im_J5_ensureCapacityInternal_d00df s_RJ5_100 sm_J5_ensureCapacityInternal_d00df hS.1.2 eJ5_append_c97b9_14 (fun _ _ h => WF_pick [0, 1] rfl rfl h) (rcv 0 rfl) rfl (nle rfl) (nle rfl) (nle rfl) (nle rfl) (fun x14 hx14 => ?_)
  obtain ⟨hx14a, hx14b⟩ := hx14
  refine x_aload_n C eJ5_append_c97b9_17 rfl ?_
  refine yU0r [_] [_, _] C (s_J5_isLatin1_aae02 hK hS) v_J5_isLatin1_aae02 hci_1 im_J5_isLatin1_aae02 s_RJ5_83 sm_J5_isLatin1_aae02 sel_J5_isLatin1_aae02 eJ5_append_c97b9_18 (fun _ _ h => WF_pick [0, 1] rfl rfl h) (rcv 0 rfl) rfl (nle rfl) (nle rfl) (nle rfl) (nle rfl) rfl ?_
  refine x_if_eq 37 C eJ5_append_c97b9_21 rfl (by omega) (fun h21 => ?_) (fun h21 => ?_)
  · exfalso; omega
  · refine x_iload_n C eJ5_append_c97b9_24 rfl ?_
    refine x_iload_n C eJ5_append_c97b9_25 rfl ?_
    refine x_aload_n C eJ5_append_c97b9_26 rfl ?_
    refine x_getR 0 C f_RJ5_15 eJ5_append_c97b9_27 rfl rfl ?_
    refine yS3r [_] [_, _] C (z_getChars hK hD hx (by omega)) v_J6_getChars_ba4f3 vs_J6_getChars_ba4f3 s_RJ5_248 eJ5_append_c97b9_30 (fun _ _ h => WF_pick [1, 0] rfl rfl h) rfl (nle rfl) (nle rfl) (nle rfl) (nle rfl) rfl ?_
    refine x_pop C eJ5_append_c97b9_33 rfl ?_
    refine x_goto (pc' := 48) C eJ5_append_c97b9_34 rfl ?_
    refine x_aload_n C eJ5_append_c97b9_48 rfl ?_
    refine x_iload_n C eJ5_append_c97b9_49 rfl ?_
    refine x_putI [_, _] 1 C f_RJ5_79 eJ5_append_c97b9_50 rfl rfl rfl ?_
    refine x_aload_n C eJ5_append_c97b9_53 rfl ?_
    refine x_aret (Or.inl ⟨_, rfl⟩) C F eJ5_append_c97b9_54 x14 rfl (by rw [List.length_append]; omega) (fun cf c h => ?_) (nle rfl) (nle rfl)
    refine PW.wf (PW_cons (fun _ h => ob_congr (fun i hi9 => ?_) h) (PW_cons (fun _ h => ?_) PW_nil)) (WF_pick [1, 0] rfl rfl h)
    · match i with
      | 0 => exact absurd hi9 (by simp)
      | 1 => exact absurd hi9 (by simp)
      | 2 => rfl
      | 3 => exact (up_s _ _ _).trans (by show (w.length : Int) + dl x9 = ((w ++ dg x9).length : Int); rw [List.length_append]; omega)
      | (k + 4) => exact absurd hi9 (by simp)
    · exact h

set_option maxHeartbeats 4000000 in
set_option maxRecDepth 100000 in
theorem z_appendI4 {G : Gm} {l : Launch} (hK : KG G) {sb vb N : Nat} {w : List Int} {x9 : Int} (hD : KD G) (hc : ((1 ≤ N ∧ N ≤ 602) ∧ w.length ≤ N) ∧ w.length + 3 ≤ 300) (hb : ∀ x ∈ w, 0 ≤ x ∧ x < 128) (hx : 0 ≤ x9 ∧ x9 ≤ 127) : MX G l yJ4_append_bf812 cJ4_append_bf812 2 (some (.object "java/lang/StringBuilder")) 7 1 602 [.ref sb, .int (zI x9)] [ob sb 1 [some (.ref vb), some (.int (zI 0)), none, none] (sbI (w)), ar G 1 vb N N (oF (w))] (fun _ : Nat × Nat => some (.ref sb)) (fun x => ((1 ≤ x.2 ∧ x.2 ≤ 602) ∧ (w ++ dg x9).length ≤ x.2)) (fun x : Nat × Nat => [ob sb 1 [some (.ref x.1), some (.int (zI 0)), none, none] (sbI (w ++ dg x9)), ar G 1 x.1 x.2 x.2 (oF (w ++ dg x9))]) := by
  refine MX_of (lv := [some (.ref sb), some (.int (zI x9))]) hK (by decide +kernel) rfl (nle rfl) (fun X C F => ?_)
  have C : OKc G X l RJ4 "append" cJ4_append_bf812 2 (some (.object "java/lang/StringBuilder")) 7 1 602 := C
  refine x_aload_n C eJ4_append_bf812_0 rfl ?_
  refine x_iload_n C eJ4_append_bf812_1 rfl ?_
  refine ySU1x [] C (z_appendI5 hK hD hc hb hx) v_J5_append_c97b9 hci_1 im_J5_append_c97b9 (by decide +kernel) s_RJ4_53 sm_J5_append_c97b9 sup_J4 eJ4_append_bf812_2 (fun _ _ h => WF_pick [0, 1] rfl rfl h) (rcv 0 rfl) rfl (nle rfl) (nle rfl) (nle rfl) (nle rfl) (fun x2 hx2 => ?_)
  refine x_pop C eJ4_append_bf812_5 rfl ?_
  refine x_aload_n C eJ4_append_bf812_6 rfl ?_
  refine x_aret (Or.inl ⟨_, rfl⟩) C F eJ4_append_bf812_7 x2 rfl hx2 (fun cf c h => ?_) (nle rfl) (nle rfl)
  exact WF_pick [0, 1] rfl rfl h
