/-! Questions of what would be: they are played on another trunk. -/
theorem nLooks_r {b : Int} {n : Net} (h : NetOk b n) : -1 ≤ (nLooks n).2 ∧ (nLooks n).2 < n (-1) 0 := by
  have hl := nLook_ok (n (-1) 0).toNat (NetOk_held (NetOk_time (NetOk_mono h (show b ≤ b + 1 by omega)) (by have hH := h.1; unfold HeadOk at hH; omega)))
  rw [nHT n (by omega) (by decide)] at hl
  exact hl.2
theorem srch_t {p : Nat → Bool} {j k : Nat} (h : p k = true) : srch p (j + 1) k = (k : Int) := if_pos h
theorem srch_f {p : Nat → Bool} {j k : Nat} (h : ¬ p k = true) : srch p (j + 1) k = srch p j (k + 1) := if_neg h

set_option maxHeartbeats 4000000 in
set_option maxRecDepth 100000 in
theorem s_X7_nextSender {G : Gm} {l : Launch} (hK : KG G) {e ip op t tr ps pa sl al lg : Nat} {J : Nat → Int} {M : Pool} {L : Int → Nat} {n : Net} {L2 : Int → Nat} {b : Int} (hN : NetOk b n) (hb : b ≤ 900000000) : MD G l yX7_nextSender cX7_nextSender 3 (some .int) 8 0 0 [.ref e] [ob e 9 (ecS ip op t tr ps pa sl) J, ob t 8 (tkS al lg) (tkI (n)), arR G 5 al 6 (fun j => some (L (j : Int))), LF G M L (n), LOG G lg (n), TG G tr L2] (some (.int (zI (aNext 500 n)))) [ob e 9 (ecS ip op t tr ps pa sl) J, ob t 8 (tkS al lg) (tkI (n)), arR G 5 al 6 (fun j => some (L (j : Int))), LF G M L (n), LOG G lg (n), TG G tr L2] := by
  refine MX_of (lv := [some (.ref e), none, none]) hK (by decide +kernel) rfl (nle rfl) (fun X C F => ?_)
  have C : OKc G X l RX7 "nextSender" cX7_nextSender 3 (some .int) 8 0 0 := C
  have hH := hN.1
  unfold HeadOk at hH
  have loop : ∀ (al2 lg2 f9 k : Nat), (k : Int) ≤ 500 → 500 < k + f9 → aNext 500 n = aNext (500 - k) (nTicks k n) → WX G X 0 0 [ob e 9 (ecS ip op t tr ps pa sl) J, ob t 8 (tkS al lg) (tkI (n)), arR G 5 al 6 (fun j => some (L (j : Int))), LF G M L (n), LOG G lg (n), ob tr 8 (tkS al2 lg2) (tkI (nTicks k n)), arR G 5 al2 6 (fun j => some (L2 (j : Int))), LF G M L2 (nTicks k n), LOG G lg2 (nTicks k n)] 13 [some (.ref e), some (.int (zI ((k : Int) + 1))), none] [] := by
    intro al2 lg2 f9
    induction f9 with
    | zero => intro k h0 h1; exfalso; omega
    | succ f9 ih =>
      intro k h0 h1 h2
      have hK9 := NetOk_ticks hN k
      have e0 := nTicks_0 hN k
      refine x_iload_n C eX7_nextSender_13 rfl ?_
      refine x_sipush C eX7_nextSender_14 rfl ?_
      refine x_icmp_gt 41 C eX7_nextSender_17 rfl (by omega) (by omega) (fun h17 => ?_) (fun h17 => ?_)
      · refine x_iconst C eX7_nextSender_41 ?_
        refine x_iret (by first | rfl | exact (narZ (by omega)).1) C F eX7_nextSender_42 () ?_ trivial (fun cf c h => ?_) (nle rfl) (nle rfl)
        · rw [h2, show 500 - k = 0 by omega]
          rfl
        · exact WF_pick [1, 2, 3, 4, 5, 0] rfl rfl (WF_cTG (t := tr) (L := L2) (R := [_, _, _, _, _]) (WF_pick [5, 6, 7, 8, 0, 1, 2, 3, 4] rfl rfl h))
      · refine x_aload_n C eX7_nextSender_20 rfl ?_
        refine x_getR 0 C f_RX7_26 eX7_nextSender_21 rfl rfl ?_
        refine yV0r [_, _, _, _, _] [_, _, _, _, _, _, _, _, _] C (s_X6_passTick hK hK9 (by omega)) v_X6_passTick vv_X6_passTick s_RX7_212 eX7_nextSender_24 (fun _ _ h => WF_pick [5, 6, 7, 8, 0, 1, 2, 3, 4] rfl rfl h) (rcv 5 rfl) rfl (nle rfl) (nle rfl) (nle rfl) (nle rfl) rfl ?_
        have hr9 := nLooks_r hK9
        rw [e0] at hr9
        refine x_istore_n [_, _, _] C eX7_nextSender_27 rfl rfl (nlt rfl) ?_
        refine x_iload_n C eX7_nextSender_28 rfl ?_
        refine x_iconst C eX7_nextSender_29 ?_
        refine x_icmp_eq 35 C eX7_nextSender_30 rfl (by omega) (by omega) (fun h30 => ?_) (fun h30 => ?_)
        · refine x_iinc [_, _, _] C eX7_nextSender_35 rfl rfl rfl ?_
          refine x_goto (pc' := 13) C eX7_nextSender_38 rfl ?_
          refine x_pick [_, _, _, _, _, _, _, _, _] [4, 5, 6, 7, 8, 0, 1, 2, 3] rfl rfl ?_
          refine x_lv [_, _, none] rfl (lx_drop _ [2] rfl) ?_
          refine ih (k + 1) (by omega) (by omega) ?_
          rw [h2, show 500 - k = (500 - (k + 1)) + 1 by omega]
          exact if_pos (by assumption)
        · refine x_iload_n C eX7_nextSender_33 rfl ?_
          refine x_iret (by first | rfl | exact (narZ (by omega)).1) C F eX7_nextSender_34 () ?_ trivial (fun cf c h => ?_) (nle rfl) (nle rfl)
          · rw [h2, show 500 - k = (500 - (k + 1)) + 1 by omega]
            exact congrArg (fun z => some (Value.int (zI z))) (if_neg (by assumption))
          · exact WF_pick [1, 2, 3, 4, 5, 0] rfl rfl (WF_cTG (t := tr) (L := L2) (R := [_, _, _, _, _]) (WF_pick [0, 1, 2, 3, 4, 5, 6, 7, 8] rfl rfl h))
  refine x_oTG (t := tr) (L := L2) (R := [_, _, _, _, _]) (fun _ _ hw => WF_pick [5, 0, 1, 2, 3, 4] rfl rfl hw) (fun al2 lg2 J2 => ?_)
  refine x_aload_n C eX7_nextSender_0 rfl ?_
  refine x_getR 4 C f_RX7_26 eX7_nextSender_1 rfl rfl ?_
  refine x_aload_n C eX7_nextSender_4 rfl ?_
  refine x_getR 4 C f_RX7_22 eX7_nextSender_5 rfl rfl ?_
  refine yV1v [_] [_, _, _, _, _, _, _, _, _] C (s_X6_copyFrom hK hN (by omega)) v_X6_copyFrom vv_X6_copyFrom s_RX7_87 eX7_nextSender_8 (fun _ _ h => WF_pick [0, 1, 2, 3, 5, 6, 7, 8, 4] rfl rfl h) (rcv 0 rfl) rfl (nle rfl) (nle rfl) (nle rfl) (nle rfl) rfl ?_
  refine x_iconst C eX7_nextSender_11 ?_
  refine x_istore_n [_, _, _] C eX7_nextSender_12 rfl rfl (nlt rfl) ?_
  refine x_pick [_, _, _, _, _, _, _, _, _] [8, 4, 5, 6, 7, 0, 1, 2, 3] rfl rfl ?_
  exact loop al2 lg2 502 0 (by omega) (by omega) rfl

set_option maxHeartbeats 4000000 in
set_option maxRecDepth 100000 in
theorem s_X7_quietIn {G : Gm} {l : Launch} (hK : KG G) {e ip op t tr ps pa sl al lg : Nat} {J : Nat → Int} {M : Pool} {L : Int → Nat} {n : Net} {L2 : Int → Nat} {b : Int} (hN : NetOk b n) (hb : b ≤ 900000000) : MD G l yX7_quietIn cX7_quietIn 2 (some .int) 8 0 0 [.ref e] [ob e 9 (ecS ip op t tr ps pa sl) J, ob t 8 (tkS al lg) (tkI (n)), arR G 5 al 6 (fun j => some (L (j : Int))), LF G M L (n), LOG G lg (n), TG G tr L2] (some (.int (zI (aQuiet n)))) [ob e 9 (ecS ip op t tr ps pa sl) J, ob t 8 (tkS al lg) (tkI (n)), arR G 5 al 6 (fun j => some (L (j : Int))), LF G M L (n), LOG G lg (n), TG G tr L2] := by
  refine MX_of (lv := [some (.ref e), none]) hK (by decide +kernel) rfl (nle rfl) (fun X C F => ?_)
  have C : OKc G X l RX7 "quietIn" cX7_quietIn 2 (some .int) 8 0 0 := C
  have hH := hN.1
  unfold HeadOk at hH
  have loop : ∀ (al2 lg2 f9 k : Nat), (k : Int) ≤ 501 → 501 < k + f9 → aQuiet n = srch (fun k => nQuietB (nTicks k n) (n (-1) 0).toNat) (501 - k) k → WX G X 0 0 [ob e 9 (ecS ip op t tr ps pa sl) J, ob t 8 (tkS al lg) (tkI (n)), arR G 5 al 6 (fun j => some (L (j : Int))), LF G M L (n), LOG G lg (n), ob tr 8 (tkS al2 lg2) (tkI (nTicks k n)), arR G 5 al2 6 (fun j => some (L2 (j : Int))), LF G M L2 (nTicks k n), LOG G lg2 (nTicks k n)] 13 [some (.ref e), some (.int (zI (k : Int)))] [] := by
    intro al2 lg2 f9
    induction f9 with
    | zero => intro k h0 h1; exfalso; omega
    | succ f9 ih =>
      intro k h0 h1 h2
      have hK9 := NetOk_ticks hN k
      have e0 := nTicks_0 hN k
      refine x_iload_n C eX7_quietIn_13 rfl ?_
      refine x_sipush C eX7_quietIn_14 rfl ?_
      refine x_icmp_gt 46 C eX7_quietIn_17 rfl (by omega) (by omega) (fun h17 => ?_) (fun h17 => ?_)
      · refine x_iconst C eX7_quietIn_46 ?_
        refine x_iret (by first | rfl | exact (narZ (by omega)).1) C F eX7_quietIn_47 () ?_ trivial (fun cf c h => ?_) (nle rfl) (nle rfl)
        · rw [h2, show 501 - k = 0 by omega]
          rfl
        · exact WF_pick [1, 2, 3, 4, 5, 0] rfl rfl (WF_cTG (t := tr) (L := L2) (R := [_, _, _, _, _]) (WF_pick [5, 6, 7, 8, 0, 1, 2, 3, 4] rfl rfl h))
      · refine x_aload_n C eX7_quietIn_20 rfl ?_
        refine x_getR 0 C f_RX7_26 eX7_quietIn_21 rfl rfl ?_
        refine yV0r [_, _, _, _, _, _] [_, _, _, _, _, _, _, _, _] C (s_X6_isQuiet hK hK9) v_X6_isQuiet vv_X6_isQuiet s_RX7_215 eX7_quietIn_24 (fun _ _ h => WF_pick [5, 6, 7, 0, 1, 2, 3, 4, 8] rfl rfl h) (rcv 5 rfl) rfl (nle rfl) (nle rfl) (nle rfl) (nle rfl) rfl ?_
        rw [e0]
        refine x_ifb_eq 32 C eX7_quietIn_27 rfl (fun h27 => ?_) (fun h27 => ?_)
        · refine x_aload_n C eX7_quietIn_32 rfl ?_
          refine x_getR 3 C f_RX7_26 eX7_quietIn_33 rfl rfl ?_
          refine yV0r [_, _, _, _, _] [_, _, _, _, _, _, _, _, _] C (s_X6_passTick hK hK9 (by omega)) v_X6_passTick vv_X6_passTick s_RX7_212 eX7_quietIn_36 (fun _ _ h => WF_pick [0, 1, 2, 8, 3, 4, 5, 6, 7] rfl rfl h) (rcv 0 rfl) rfl (nle rfl) (nle rfl) (nle rfl) (nle rfl) rfl ?_
          refine x_pop C eX7_quietIn_39 rfl ?_
          refine x_iinc [_, _] C eX7_quietIn_40 rfl rfl rfl ?_
          refine x_goto (pc' := 13) C eX7_quietIn_43 rfl ?_
          refine x_pick [_, _, _, _, _, _, _, _, _] [4, 5, 6, 7, 8, 0, 1, 2, 3] rfl rfl ?_
          refine ih (k + 1) (by omega) (by omega) ?_
          rw [h2, show 501 - k = (501 - (k + 1)) + 1 by omega]
          exact srch_f (p := fun k => nQuietB (nTicks k n) (n (-1) 0).toNat) (by assumption)
        · refine x_iload_n C eX7_quietIn_30 rfl ?_
          refine x_iret (by first | rfl | exact (narZ (by omega)).1) C F eX7_quietIn_31 () ?_ trivial (fun cf c h => ?_) (nle rfl) (nle rfl)
          · rw [h2, show 501 - k = (501 - (k + 1)) + 1 by omega]
            exact congrArg (fun z => some (Value.int (zI z))) (srch_t (p := fun k => nQuietB (nTicks k n) (n (-1) 0).toNat) (by assumption))
          · exact WF_pick [1, 2, 3, 4, 5, 0] rfl rfl (WF_cTG (t := tr) (L := L2) (R := [_, _, _, _, _]) (WF_pick [0, 1, 2, 8, 3, 4, 5, 6, 7] rfl rfl h))
  refine x_oTG (t := tr) (L := L2) (R := [_, _, _, _, _]) (fun _ _ hw => WF_pick [5, 0, 1, 2, 3, 4] rfl rfl hw) (fun al2 lg2 J2 => ?_)
  refine x_aload_n C eX7_quietIn_0 rfl ?_
  refine x_getR 4 C f_RX7_26 eX7_quietIn_1 rfl rfl ?_
  refine x_aload_n C eX7_quietIn_4 rfl ?_
  refine x_getR 4 C f_RX7_22 eX7_quietIn_5 rfl rfl ?_
  refine yV1v [_] [_, _, _, _, _, _, _, _, _] C (s_X6_copyFrom hK hN (by omega)) v_X6_copyFrom vv_X6_copyFrom s_RX7_87 eX7_quietIn_8 (fun _ _ h => WF_pick [0, 1, 2, 3, 5, 6, 7, 8, 4] rfl rfl h) (rcv 0 rfl) rfl (nle rfl) (nle rfl) (nle rfl) (nle rfl) rfl ?_
  refine x_iconst C eX7_quietIn_11 ?_
  refine x_istore_n [_, _] C eX7_quietIn_12 rfl rfl (nlt rfl) ?_
  refine x_pick [_, _, _, _, _, _, _, _, _] [8, 4, 5, 6, 7, 0, 1, 2, 3] rfl rfl ?_
  exact loop al2 lg2 502 0 (by omega) (by omega) rfl

set_option maxHeartbeats 4000000 in
set_option maxRecDepth 100000 in
theorem s_X7_sendsIn {G : Gm} {l : Launch} (hK : KG G) {e ip op t tr ps pa sl al lg : Nat} {J : Nat → Int} {M : Pool} {L : Int → Nat} {n : Net} {L2 : Int → Nat} {b : Int} {l9 : Int} (hN : NetOk b n) (hb : b ≤ 900000000) (hl : 0 ≤ l9 ∧ l9 < n (-1) 0) : MD G l yX7_sendsIn cX7_sendsIn 3 (some .int) 8 0 0 [.ref e, .int (zI l9)] [ob e 9 (ecS ip op t tr ps pa sl) J, ob t 8 (tkS al lg) (tkI (n)), arR G 5 al 6 (fun j => some (L (j : Int))), LF G M L (n), LOG G lg (n), TG G tr L2] (some (.int (zI (aSends n l9)))) [ob e 9 (ecS ip op t tr ps pa sl) J, ob t 8 (tkS al lg) (tkI (n)), arR G 5 al 6 (fun j => some (L (j : Int))), LF G M L (n), LOG G lg (n), TG G tr L2] := by
  refine MX_of (lv := [some (.ref e), some (.int (zI l9)), none]) hK (by decide +kernel) rfl (nle rfl) (fun X C F => ?_)
  have C : OKc G X l RX7 "sendsIn" cX7_sendsIn 3 (some .int) 8 0 0 := C
  have hH := hN.1
  unfold HeadOk at hH
  have loop : ∀ (al2 lg2 f9 k : Nat), (k : Int) ≤ 500 → 500 < k + f9 → aSends n l9 = srch (fun k => decide (n l9 17 < nTicks k n l9 17)) (500 - k) (k + 1) ∧ nTicks k n l9 17 = n l9 17 → WX G X 0 0 [ob e 9 (ecS ip op t tr ps pa sl) J, ob t 8 (tkS al lg) (tkI (n)), arR G 5 al 6 (fun j => some (L (j : Int))), LF G M L (n), LOG G lg (n), ob tr 8 (tkS al2 lg2) (tkI (nTicks k n)), arR G 5 al2 6 (fun j => some (L2 (j : Int))), LF G M L2 (nTicks k n), LOG G lg2 (nTicks k n)] 18 [some (.ref e), some (.int (zI l9)), some (.int (zI ((k : Int) + 1)))] [] := by
    intro al2 lg2 f9
    induction f9 with
    | zero => intro k h0 h1; exfalso; omega
    | succ f9 ih =>
      intro k h0 h1 h2
      have hK9 := NetOk_ticks hN k
      have e0 := nTicks_0 hN k
      refine x_iload_n C eX7_sendsIn_18 rfl ?_
      refine x_sipush C eX7_sendsIn_19 rfl ?_
      refine x_icmp_gt 44 C eX7_sendsIn_22 rfl (by omega) (by omega) (fun h22 => ?_) (fun h22 => ?_)
      · refine x_iconst C eX7_sendsIn_44 ?_
        refine x_iret (by first | rfl | exact (narZ (by omega)).1) C F eX7_sendsIn_45 () ?_ trivial (fun cf c h => ?_) (nle rfl) (nle rfl)
        · rw [h2.1, show 500 - k = 0 by omega]
          rfl
        · exact WF_pick [1, 2, 3, 4, 5, 0] rfl rfl (WF_cTG (t := tr) (L := L2) (R := [_, _, _, _, _]) (WF_pick [5, 6, 7, 8, 0, 1, 2, 3, 4] rfl rfl h))
      · refine x_aload_n C eX7_sendsIn_25 rfl ?_
        refine x_getR 0 C f_RX7_26 eX7_sendsIn_26 rfl rfl ?_
        refine yV0r [_, _, _, _, _] [_, _, _, _, _, _, _, _, _] C (s_X6_passTick hK hK9 (by omega)) v_X6_passTick vv_X6_passTick s_RX7_212 eX7_sendsIn_29 (fun _ _ h => WF_pick [5, 6, 7, 8, 0, 1, 2, 3, 4] rfl rfl h) (rcv 5 rfl) rfl (nle rfl) (nle rfl) (nle rfl) (nle rfl) rfl ?_
        have hr9 := nLooks_r hK9
        rw [e0] at hr9
        refine x_iload_n C eX7_sendsIn_32 rfl ?_
        refine x_icmp_ne 38 C eX7_sendsIn_33 rfl (by omega) (by omega) (fun h33 => ?_) (fun h33 => ?_)
        · refine x_iinc [_, _, _] C eX7_sendsIn_38 rfl rfl rfl ?_
          refine x_goto (pc' := 18) C eX7_sendsIn_41 rfl ?_
          refine x_pick [_, _, _, _, _, _, _, _, _] [4, 5, 6, 7, 8, 0, 1, 2, 3] rfl rfl ?_
          refine ih (k + 1) (by omega) (by omega) ?_
          have e9 : nTick (nTicks k n) l9 17 = n l9 17 := by
            by_cases c : (nLooks (nTicks k n)).2 = -1
            · rw [((nTick_eff hK9).1 c).2 l9 hl.1]; exact h2.2
            · rw [((nTick_eff hK9).2 c).2.2 l9 hl.1, if_neg (by omega), h2.2]; omega
          refine ⟨?_, e9⟩
          rw [h2.1, show 500 - k = (500 - (k + 1)) + 1 by omega]
          exact srch_f (p := fun k => decide (n l9 17 < nTicks k n l9 17)) (by rw [decide_eq_true_iff]; show ¬ n l9 17 < nTick (nTicks k n) l9 17; omega)
        · refine x_iload_n C eX7_sendsIn_36 rfl ?_
          refine x_iret (by first | rfl | exact (narZ (by omega)).1) C F eX7_sendsIn_37 () ?_ trivial (fun cf c h => ?_) (nle rfl) (nle rfl)
          · have e9 : nTick (nTicks k n) l9 17 = n l9 17 + 1 := by
              rw [((nTick_eff hK9).2 (by omega)).2.2 l9 hl.1, if_pos (by omega), h2.2]
            rw [h2.1, show 500 - k = (500 - (k + 1)) + 1 by omega]
            exact congrArg (fun z => some (Value.int (zI z))) (srch_t (p := fun k => decide (n l9 17 < nTicks k n l9 17)) (by rw [decide_eq_true_iff]; show n l9 17 < nTick (nTicks k n) l9 17; omega))
          · exact WF_pick [1, 2, 3, 4, 5, 0] rfl rfl (WF_cTG (t := tr) (L := L2) (R := [_, _, _, _, _]) (WF_pick [0, 1, 2, 3, 4, 5, 6, 7, 8] rfl rfl h))
  refine x_oTG (t := tr) (L := L2) (R := [_, _, _, _, _]) (fun _ _ hw => WF_pick [5, 0, 1, 2, 3, 4] rfl rfl hw) (fun al2 lg2 J2 => ?_)
  refine x_aload_n C eX7_sendsIn_0 rfl ?_
  refine x_iload_n C eX7_sendsIn_1 rfl ?_
  refine yV1v [_, _, _, _, _, _, _] [_, _, _, _, _, _, _, _, _] C (s_X7_testLine hK (by omega)) v_X7_testLine vv_X7_testLine s_RX7_145 eX7_sendsIn_2 (fun _ _ h => WF_pick [4, 5, 0, 1, 2, 3, 6, 7, 8] rfl rfl h) (rcv 4 rfl) rfl (nle rfl) (nle rfl) (nle rfl) (nle rfl) rfl ?_
  refine x_aload_n C eX7_sendsIn_5 rfl ?_
  refine x_getR 0 C f_RX7_26 eX7_sendsIn_6 rfl rfl ?_
  refine x_aload_n C eX7_sendsIn_9 rfl ?_
  refine x_getR 0 C f_RX7_22 eX7_sendsIn_10 rfl rfl ?_
  refine yV1v [_] [_, _, _, _, _, _, _, _, _] C (s_X6_copyFrom hK hN (by omega)) v_X6_copyFrom vv_X6_copyFrom s_RX7_87 eX7_sendsIn_13 (fun _ _ h => WF_pick [2, 3, 4, 5, 1, 6, 7, 8, 0] rfl rfl h) (rcv 2 rfl) rfl (nle rfl) (nle rfl) (nle rfl) (nle rfl) rfl ?_
  refine x_iconst C eX7_sendsIn_16 ?_
  refine x_istore_n [_, _, _] C eX7_sendsIn_17 rfl rfl (nlt rfl) ?_
  refine x_pick [_, _, _, _, _, _, _, _, _] [8, 4, 5, 6, 7, 0, 1, 2, 3] rfl rfl ?_
  exact loop al2 lg2 502 0 (by omega) (by omega) ⟨rfl, rfl⟩

set_option maxHeartbeats 4000000 in
set_option maxRecDepth 100000 in
theorem s_X7_countedAhead {G : Gm} {l : Launch} (hK : KG G) {e ip op t tr ps pa sl al lg : Nat} {J : Nat → Int} {M : Pool} {L : Int → Nat} {n : Net} {L2 : Int → Nat} {b : Int} {l9 w9 t9 : Int} (hN : NetOk b n) (hb : b ≤ 900000000) (hl : 0 ≤ l9 ∧ l9 < n (-1) 0) (hw : 0 ≤ w9 ∧ w9 < 12) (ht : 0 ≤ t9 ∧ t9 ≤ 500) : MD G l yX7_countedAhead cX7_countedAhead 4 (some .int) 9 0 0 [.ref e, .int (zI l9), .int (zI w9), .int (zI t9)] [ob e 9 (ecS ip op t tr ps pa sl) J, ob t 8 (tkS al lg) (tkI (n)), arR G 5 al 6 (fun j => some (L (j : Int))), LF G M L (n), LOG G lg (n), TG G tr L2] (some (.int (zI (nTicks t9.toNat n l9 (16 + w9) - n l9 (16 + w9))))) [ob e 9 (ecS ip op t tr ps pa sl) J, ob t 8 (tkS al lg) (tkI (n)), arR G 5 al 6 (fun j => some (L (j : Int))), LF G M L (n), LOG G lg (n), TG G tr L2] := by
  refine MX_of (lv := [some (.ref e), some (.int (zI l9)), some (.int (zI w9)), some (.int (zI t9))]) hK (by decide +kernel) rfl (nle rfl) (fun X C F => ?_)
  have C : OKc G X l RX7 "countedAhead" cX7_countedAhead 4 (some .int) 9 0 0 := C
  have hH := hN.1
  unfold HeadOk at hH
  have e0 := nTicks_0 hN t9.toNat
  refine x_oTG (t := tr) (L := L2) (R := [_, _, _, _, _]) (fun _ _ hw => WF_pick [5, 0, 1, 2, 3, 4] rfl rfl hw) (fun al2 lg2 J2 => ?_)
  refine x_aload_n C eX7_countedAhead_0 rfl ?_
  refine x_getR 4 C f_RX7_26 eX7_countedAhead_1 rfl rfl ?_
  refine x_aload_n C eX7_countedAhead_4 rfl ?_
  refine x_getR 4 C f_RX7_22 eX7_countedAhead_5 rfl rfl ?_
  refine yV1v [_] [_, _, _, _, _, _, _, _, _] C (s_X6_copyFrom hK hN (by omega)) v_X6_copyFrom vv_X6_copyFrom s_RX7_87 eX7_countedAhead_8 (fun _ _ h => WF_pick [0, 1, 2, 3, 5, 6, 7, 8, 4] rfl rfl h) (rcv 0 rfl) rfl (nle rfl) (nle rfl) (nle rfl) (nle rfl) rfl ?_
  refine x_aload_n C eX7_countedAhead_11 rfl ?_
  refine x_getR 8 C f_RX7_26 eX7_countedAhead_12 rfl rfl ?_
  refine x_iload_n C eX7_countedAhead_15 rfl ?_
  refine yV1v [_, _, _, _, _] [_, _, _, _, _, _, _, _, _] C (s_X6_passTicks hK hN (by omega) (by omega)) v_X6_passTicks vv_X6_passTicks s_RX7_227 eX7_countedAhead_16 (fun _ _ h => WF_pick [0, 1, 2, 3, 4, 5, 6, 7, 8] rfl rfl h) (rcv 0 rfl) rfl (nle rfl) (nle rfl) (nle rfl) (nle rfl) rfl ?_
  refine x_aload_n C eX7_countedAhead_19 rfl ?_
  refine x_getR 8 C f_RX7_26 eX7_countedAhead_20 rfl rfl ?_
  refine x_iload_n C eX7_countedAhead_23 rfl ?_
  refine yV1r [_, _, _, _, _, _, _] [_, _, _, _, _, _, _, _, _] C (s_X6_lineAt hK (by omega)) v_X6_lineAt vv_X6_lineAt s_RX7_122 eX7_countedAhead_24 (fun _ _ h => WF_pick [0, 1, 2, 3, 4, 5, 6, 7, 8] rfl rfl h) (rcv 0 rfl) rfl (nle rfl) (nle rfl) (nle rfl) (nle rfl) rfl ?_
  refine x_iload_n C eX7_countedAhead_27 rfl ?_
  refine yV1r [_, _, _, _, _, _, _, _] [_, _, _, _, _, _, _, _, _] C (s_FL_counted hK (by omega) (by omega)) v_X0_counted vv_X0_counted s_RX7_184 eX7_countedAhead_28 (fun _ _ h => WF_pick [2, 0, 1, 3, 4, 5, 6, 7, 8] rfl rfl h) (rcvP 2 rfl (LF_rcv (by omega))) rfl (nle rfl) (nle rfl) (nle rfl) (nle rfl) rfl ?_
  refine x_aload_n C eX7_countedAhead_31 rfl ?_
  refine x_getR 8 C f_RX7_22 eX7_countedAhead_32 rfl rfl ?_
  refine x_iload_n C eX7_countedAhead_35 rfl ?_
  refine yV1r [_, _, _, _, _, _, _] [_, _, _, _, _, _, _, _, _] C (s_X6_lineAt hK (by omega)) v_X6_lineAt vv_X6_lineAt s_RX7_122 eX7_countedAhead_36 (fun _ _ h => WF_pick [4, 5, 0, 1, 2, 3, 6, 7, 8] rfl rfl h) (rcv 4 rfl) rfl (nle rfl) (nle rfl) (nle rfl) (nle rfl) rfl ?_
  refine x_iload_n C eX7_countedAhead_39 rfl ?_
  refine yV1r [_, _, _, _, _, _, _, _] [_, _, _, _, _, _, _, _, _] C (s_FL_counted hK (by omega) (by omega)) v_X0_counted vv_X0_counted s_RX7_184 eX7_countedAhead_40 (fun _ _ h => WF_pick [6, 0, 1, 2, 3, 4, 5, 7, 8] rfl rfl h) (rcvP 6 rfl (LF_rcv (by omega))) rfl (nle rfl) (nle rfl) (nle rfl) (nle rfl) rfl ?_
  refine x_isub C eX7_countedAhead_43 ?_
  refine x_iret (by first | rfl | exact (narZ (by omega)).1) C F eX7_countedAhead_44 () ?_ trivial (fun cf c h => ?_) (nle rfl) (nle rfl)
  · rfl
  · exact WF_pick [5, 2, 3, 1, 4, 0] rfl rfl (WF_cTG (t := tr) (L := L2) (R := [_, _, _, _, _]) (WF_pick [4, 5, 3, 6, 0, 1, 2, 7, 8] rfl rfl h))
