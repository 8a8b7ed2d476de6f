/-! More questions of what would be. -/
theorem nTicks_lent {b : Int} {n : Net} {l o : Int} (hN : NetOk b n) (hl : 0 ≤ l ∧ l < n (-1) 0) (ho : 0 ≤ o ∧ o < n (-1) 0) (hne : ¬ o = l) : NetOk (b + 400) (nTicks 100 (un n l (bLend (n l) o 99))) ∧ nTicks 100 (un n l (bLend (n l) o 99)) (-1) 0 = n (-1) 0 := by
  have h := NetOk_lend (t := 99) hN hl ho hne (by decide)
  have h1 := NetOk_ticks h 100
  have h2 := nTicks_0 h 100
  rw [un_n (by omega)] at h2
  exact ⟨h1, h2⟩
/-- ticks and bytes v typed before each of them -/
def nDropV (v l : Int) : Nat → Net → Net
  | 0, n => n
  | k + 1, n => nTick (un (nDropV v l k n) l (bType (nDropV v l k n l) v (nDropV v l k n (-1) 1)))
theorem nDropV_ok {b : Int} {n : Net} {v l : Int} (h : NetOk b n) (hl : 0 ≤ l ∧ l < n (-1) 0) (hv : 1 ≤ v ∧ v ≤ 127) : ∀ k : Nat, NetOk (b + 126 * k) (nDropV v l k n) ∧ nDropV v l k n (-1) 0 = n (-1) 0 := by
  intro k
  induction k with
  | zero => exact ⟨by rw [show b + 126 * ((0 : Nat) : Int) = b by omega]; exact h, rfl⟩
  | succ k ih =>
    have h1 := NetOk_type (v := v) ih.1 (by rw [ih.2]; exact hl) hv
    have h2 := NetOk_tick h1
    refine ⟨NetOk_mono h2 (by omega), ?_⟩
    show nTick (un (nDropV v l k n) l (bType (nDropV v l k n l) v (nDropV v l k n (-1) 1))) (-1) 0 = _
    rw [nTick_0 h1, un_n (by omega), ih.2]
theorem bType_18 {B : Blk} {v time : Int} (h : (0 ≤ B 7 ∧ B 7 ≤ B 1 ∧ B 1 ≤ 60) ∧ (0 ≤ B 8 ∧ B 8 ≤ 60) ∧ 0 ≤ B 6) : bType B v time 18 = B 18 + (if 0 < B 9 ∨ B 6 = B 1 then 1 else 0) := by
  have e0 : bStop (bIn B v time) 18 = B 18 := by rw [bStop_n (by decide) (by decide), bIn_n h.2.2 (by omega)]
  have e7 : bStop (bIn B v time) 7 = B 7 := by rw [bStop_n (by decide) (by decide), bIn_n h.2.2 (by omega)]
  have e1 : bStop (bIn B v time) 1 = B 1 := by rw [bStop_n (by decide) (by decide), bIn_n h.2.2 (by omega)]
  have e8 : bStop (bIn B v time) 8 = B 8 := by rw [bStop_n (by decide) (by decide), bIn_n h.2.2 (by omega)]
  unfold bType
  by_cases c : 0 < B 9 ∨ B 6 = B 1
  · rw [if_pos c, if_pos c]
    unfold inc
    rw [ub_s, ub_n (by decide)]
  · rw [if_neg c, if_neg c]
    split
    · unfold bOffer inc
      split <;> simp (disch := omega) only [ub_n] <;> omega
    · split
      · have h8 : 0 ≤ bStop (bIn B v time) 8 ∧ bStop (bIn B v time) 8 ≤ 60 := by rw [e8]; exact h.2.1
        have w : ∀ k, k < 8 ∨ 8 < k ∧ k < 208 → bWhole1 (bStop (bIn B v time)) v k = bStop (bIn B v time) k := fun k hk => bWhole1_n h8 hk
        unfold bWhole
        split
        · rw [ub_n (by decide)]
          rw [(bOffers_inv (by rw [w 7 (by omega), w 1 (by omega), e7, e1]; exact h.1) _).2 18 (by unfold okW; decide), w 18 (by omega), e0]; omega
        · rw [w 18 (by omega), e0]; omega
      · omega

set_option maxHeartbeats 4000000 in
set_option maxRecDepth 100000 in
theorem s_X7_sentIn {G : Gm} {l : Launch} (hK : KG G) {e ip op t tr ps pa sl al lg : Nat} {J : Nat → Int} {M : Pool} {L : Int → Nat} {n : Net} {L2 : Int → Nat} {b : Int} {l9 t9 : Int} (hN : NetOk b n) (hb : b ≤ 900000000) (hl : 0 ≤ l9 ∧ l9 < n (-1) 0) (ht : 0 ≤ t9 ∧ t9 ≤ 500) : MD G l yX7_sentIn cX7_sentIn 3 (some .int) 10 0 0 [.ref e, .int (zI l9), .int (zI t9)] [ob e 9 (ecS ip op t tr ps pa sl) J, ob t 8 (tkS al lg) (tkI (n)), arR G 5 al 6 (fun j => some (L (j : Int))), LF G M L (n), LOG G lg (n), TG G tr L2] (some (.int (zI (nTicks t9.toNat n l9 (16 + 1) - n l9 (16 + 1))))) [ob e 9 (ecS ip op t tr ps pa sl) J, ob t 8 (tkS al lg) (tkI (n)), arR G 5 al 6 (fun j => some (L (j : Int))), LF G M L (n), LOG G lg (n), TG G tr L2] := by
  refine MX_of (lv := [some (.ref e), some (.int (zI l9)), some (.int (zI t9))]) hK (by decide +kernel) rfl (nle rfl) (fun X C F => ?_)
  have C : OKc G X l RX7 "sentIn" cX7_sentIn 3 (some .int) 10 0 0 := C
  have hH := hN.1
  unfold HeadOk at hH
  refine x_aload_n C eX7_sentIn_0 rfl ?_
  refine x_iload_n C eX7_sentIn_1 rfl ?_
  refine yV1v [_, _, _, _] [_, _, _, _, _, _] C (s_X7_testLine hK (by omega)) v_X7_testLine vv_X7_testLine s_RX7_145 eX7_sentIn_2 (fun _ _ h => WF_pick [0, 1, 2, 3, 4, 5] rfl rfl h) (rcv 0 rfl) rfl (nle rfl) (nle rfl) (nle rfl) (nle rfl) rfl ?_
  refine x_iload_n C eX7_sentIn_5 rfl ?_
  refine x_iconst C eX7_sentIn_6 ?_
  refine x_sipush C eX7_sentIn_7 rfl ?_
  refine yS3v [_, _, _, _, _, _] [_, _, _, _, _, _] C (s_X7_testRange hK (by omega)) v_X7_testRange vs_X7_testRange s_RX7_219 eX7_sentIn_10 (fun _ _ h => WF_pick [0, 1, 2, 3, 4, 5] rfl rfl h) rfl (nle rfl) (nle rfl) (nle rfl) (nle rfl) rfl ?_
  refine x_aload_n C eX7_sentIn_13 rfl ?_
  refine x_iload_n C eX7_sentIn_14 rfl ?_
  refine x_iconst C eX7_sentIn_15 ?_
  refine x_iload_n C eX7_sentIn_16 rfl ?_
  refine yV3r [] [_, _, _, _, _, _] C (s_X7_countedAhead hK hN (by omega) (by omega) (by omega) (by omega)) v_X7_countedAhead vv_X7_countedAhead s_RX7_223 eX7_sentIn_17 (fun _ _ h => WF_pick [0, 1, 2, 3, 4, 5] rfl rfl h) (rcv 0 rfl) rfl (nle rfl) (nle rfl) (nle rfl) (nle rfl) rfl ?_
  refine x_iret (by first | rfl | exact (narZ (by omega)).1) C F eX7_sentIn_20 () ?_ trivial (fun cf c h => ?_) (nle rfl) (nle rfl)
  · rfl
  · exact WF_pick [0, 1, 2, 3, 4, 5] rfl rfl h

set_option maxHeartbeats 4000000 in
set_option maxRecDepth 100000 in
theorem s_X7_deliveredIn {G : Gm} {l : Launch} (hK : KG G) {e ip op t tr ps pa sl al lg : Nat} {J : Nat → Int} {M : Pool} {L : Int → Nat} {n : Net} {L2 : Int → Nat} {b : Int} {l9 t9 : Int} (hN : NetOk b n) (hb : b ≤ 900000000) (hl : 0 ≤ l9 ∧ l9 < n (-1) 0) (ht : 0 ≤ t9 ∧ t9 ≤ 500) : MD G l yX7_deliveredIn cX7_deliveredIn 3 (some .int) 10 0 0 [.ref e, .int (zI l9), .int (zI t9)] [ob e 9 (ecS ip op t tr ps pa sl) J, ob t 8 (tkS al lg) (tkI (n)), arR G 5 al 6 (fun j => some (L (j : Int))), LF G M L (n), LOG G lg (n), TG G tr L2] (some (.int (zI (nTicks t9.toNat n l9 (16 + 5) - n l9 (16 + 5))))) [ob e 9 (ecS ip op t tr ps pa sl) J, ob t 8 (tkS al lg) (tkI (n)), arR G 5 al 6 (fun j => some (L (j : Int))), LF G M L (n), LOG G lg (n), TG G tr L2] := by
  refine MX_of (lv := [some (.ref e), some (.int (zI l9)), some (.int (zI t9))]) hK (by decide +kernel) rfl (nle rfl) (fun X C F => ?_)
  have C : OKc G X l RX7 "deliveredIn" cX7_deliveredIn 3 (some .int) 10 0 0 := C
  have hH := hN.1
  unfold HeadOk at hH
  refine x_aload_n C eX7_deliveredIn_0 rfl ?_
  refine x_iload_n C eX7_deliveredIn_1 rfl ?_
  refine yV1v [_, _, _, _] [_, _, _, _, _, _] C (s_X7_testLine hK (by omega)) v_X7_testLine vv_X7_testLine s_RX7_145 eX7_deliveredIn_2 (fun _ _ h => WF_pick [0, 1, 2, 3, 4, 5] rfl rfl h) (rcv 0 rfl) rfl (nle rfl) (nle rfl) (nle rfl) (nle rfl) rfl ?_
  refine x_iload_n C eX7_deliveredIn_5 rfl ?_
  refine x_iconst C eX7_deliveredIn_6 ?_
  refine x_sipush C eX7_deliveredIn_7 rfl ?_
  refine yS3v [_, _, _, _, _, _] [_, _, _, _, _, _] C (s_X7_testRange hK (by omega)) v_X7_testRange vs_X7_testRange s_RX7_219 eX7_deliveredIn_10 (fun _ _ h => WF_pick [0, 1, 2, 3, 4, 5] rfl rfl h) rfl (nle rfl) (nle rfl) (nle rfl) (nle rfl) rfl ?_
  refine x_aload_n C eX7_deliveredIn_13 rfl ?_
  refine x_iload_n C eX7_deliveredIn_14 rfl ?_
  refine x_iconst C eX7_deliveredIn_15 ?_
  refine x_iload_n C eX7_deliveredIn_16 rfl ?_
  refine yV3r [] [_, _, _, _, _, _] C (s_X7_countedAhead hK hN (by omega) (by omega) (by omega) (by omega)) v_X7_countedAhead vv_X7_countedAhead s_RX7_223 eX7_deliveredIn_17 (fun _ _ h => WF_pick [0, 1, 2, 3, 4, 5] rfl rfl h) (rcv 0 rfl) rfl (nle rfl) (nle rfl) (nle rfl) (nle rfl) rfl ?_
  refine x_iret (by first | rfl | exact (narZ (by omega)).1) C F eX7_deliveredIn_20 () ?_ trivial (fun cf c h => ?_) (nle rfl) (nle rfl)
  · rfl
  · exact WF_pick [0, 1, 2, 3, 4, 5] rfl rfl h

set_option maxHeartbeats 4000000 in
set_option maxRecDepth 100000 in
theorem s_X7_emptyIn {G : Gm} {l : Launch} (hK : KG G) {e ip op t tr ps pa sl al lg : Nat} {J : Nat → Int} {M : Pool} {L : Int → Nat} {n : Net} {L2 : Int → Nat} {b : Int} {l9 : Int} (hN : NetOk b n) (hb : b ≤ 900000000) (hl : 0 ≤ l9 ∧ l9 < n (-1) 0) : MD G l yX7_emptyIn cX7_emptyIn 4 (some .int) 8 0 0 [.ref e, .int (zI l9)] [ob e 9 (ecS ip op t tr ps pa sl) J, ob t 8 (tkS al lg) (tkI (n)), arR G 5 al 6 (fun j => some (L (j : Int))), LF G M L (n), LOG G lg (n), TG G tr L2] (some (.int (zI (aEmpty n l9)))) [ob e 9 (ecS ip op t tr ps pa sl) J, ob t 8 (tkS al lg) (tkI (n)), arR G 5 al 6 (fun j => some (L (j : Int))), LF G M L (n), LOG G lg (n), TG G tr L2] := by
  refine MX_of (lv := [some (.ref e), some (.int (zI l9)), none, none]) hK (by decide +kernel) rfl (nle rfl) (fun X C F => ?_)
  have C : OKc G X l RX7 "emptyIn" cX7_emptyIn 4 (some .int) 8 0 0 := C
  have hH := hN.1
  unfold HeadOk at hH
  have loop : ∀ (al2 lg2 f9 k : Nat), (k : Int) ≤ 501 → 501 < k + f9 → aEmpty n l9 = srch (fun k => decide (nTicks k n l9 6 = 0)) (501 - k) k → WX G X 0 0 [ob e 9 (ecS ip op t tr ps pa sl) J, ob t 8 (tkS al lg) (tkI (n)), arR G 5 al 6 (fun j => some (L (j : Int))), LF G M L (n), LOG G lg (n), ob tr 8 (tkS al2 lg2) (tkI (nTicks k n)), arR G 5 al2 6 (fun j => some (L2 (j : Int))), LF G M L2 (nTicks k n), LOG G lg2 (nTicks k n)] 30 [some (.ref e), some (.int (zI l9)), some (.ref (L2 (l9 + 6))), some (.int (zI (k : Int)))] [] := by
    intro al2 lg2 f9
    induction f9 with
    | zero => intro k h0 h1; exfalso; omega
    | succ f9 ih =>
      intro k h0 h1 h2
      have hK9 := NetOk_ticks hN k
      have e0 := nTicks_0 hN k
      refine x_iload_n C eX7_emptyIn_30 rfl ?_
      refine x_sipush C eX7_emptyIn_31 rfl ?_
      refine x_icmp_gt 60 C eX7_emptyIn_34 rfl (by omega) (by omega) (fun h34 => ?_) (fun h34 => ?_)
      · refine x_iconst C eX7_emptyIn_60 ?_
        refine x_iret (by first | rfl | exact (narZ (by omega)).1) C F eX7_emptyIn_61 () ?_ trivial (fun cf c h => ?_) (nle rfl) (nle rfl)
        · rw [h2, show 501 - k = 0 by omega]
          rfl
        · exact WF_pick [1, 2, 3, 4, 5, 0] rfl rfl (WF_cTG (t := tr) (L := L2) (R := [_, _, _, _, _]) (WF_pick [5, 6, 7, 8, 0, 1, 2, 3, 4] rfl rfl h))
      · have hL := hK9.2.2 l9 (by omega) (by omega)
        unfold LineOk at hL
        refine x_aload_n C eX7_emptyIn_37 rfl ?_
        refine x_oL (M := M) (L := L2) (m := nTicks k n) (i := l9) (R := [_, _, _, _, _, _, _, _]) (by omega) (fun _ _ hw => WF_pick [7, 0, 1, 2, 3, 4, 5, 6, 8] rfl rfl hw) (fun A hA => ?_)
        rw [← hA.2]
        refine x_getI 1 C f_RX7_169 eX7_emptyIn_38 rfl rfl ?_
        try simp (disch := decide) only [up_s, up_n, tkI_2, tkI_3, tkI_4, tkI_5, tkI_6, tkI_7, tkI_8, lnI_1, lnI_2, lnI_3, lnI_4, lnI_5, lnI_10, lnI_11, lnI_12, lnI_13, lnI_14, lnI_15]
        refine x_if_ne 46 C eX7_emptyIn_41 rfl (by omega) (fun h41 => ?_) (fun h41 => ?_)
        · refine x_pick [_, _, _, _, _, _, _, _, _, _, _, _, _, _, _, _, _, _, _] [0, 1, 2, 3, 4, 5, 6, 7, 8, 9, 10, 11, 12, 13, 14, 15, 16, 17, 18] rfl rfl ?_
          refine x_cL (m := nTicks k n) (i := l9) (A := A) (B := nTicks k n l9) (by omega) hA (fun cf c h => ?_) ?_
          · exact h
          rw [un_id]
          rw [hA.2]
          refine x_aload_n C eX7_emptyIn_46 rfl ?_
          refine x_getR 1 C f_RX7_26 eX7_emptyIn_47 rfl rfl ?_
          refine yV0r [_, _, _, _, _] [_, _, _, _, _, _, _, _, _] C (s_X6_passTick hK hK9 (by omega)) v_X6_passTick vv_X6_passTick s_RX7_212 eX7_emptyIn_50 (fun _ _ h => WF_pick [6, 7, 0, 8, 1, 2, 3, 4, 5] rfl rfl h) (rcv 6 rfl) rfl (nle rfl) (nle rfl) (nle rfl) (nle rfl) rfl ?_
          refine x_pop C eX7_emptyIn_53 rfl ?_
          refine x_iinc [_, _, _, _] C eX7_emptyIn_54 rfl rfl rfl ?_
          refine x_goto (pc' := 30) C eX7_emptyIn_57 rfl ?_
          refine x_pick [_, _, _, _, _, _, _, _, _] [4, 5, 6, 7, 8, 0, 1, 2, 3] rfl rfl ?_
          refine ih (k + 1) (by omega) (by omega) ?_
          rw [h2, show 501 - k = (501 - (k + 1)) + 1 by omega]
          exact srch_f (p := fun k => decide (nTicks k n l9 6 = 0)) (by rw [decide_eq_true_iff]; assumption)
        · refine x_iload_n C eX7_emptyIn_44 rfl ?_
          refine x_pick [_, _, _, _, _, _, _, _, _, _, _, _, _, _, _, _, _, _, _] [0, 1, 2, 3, 4, 5, 6, 7, 8, 9, 10, 11, 12, 13, 14, 15, 16, 17, 18] rfl rfl ?_
          refine x_cL (m := nTicks k n) (i := l9) (A := A) (B := nTicks k n l9) (by omega) hA (fun cf c h => ?_) ?_
          · exact h
          rw [un_id]
          refine x_iret (by first | rfl | exact (narZ (by omega)).1) C F eX7_emptyIn_45 () ?_ trivial (fun cf c h => ?_) (nle rfl) (nle rfl)
          · rw [h2, show 501 - k = (501 - (k + 1)) + 1 by omega]
            exact congrArg (fun z => some (Value.int (zI z))) (srch_t (p := fun k => decide (nTicks k n l9 6 = 0)) (by rw [decide_eq_true_iff]; assumption))
          · exact WF_pick [1, 2, 3, 4, 5, 0] rfl rfl (WF_cTG (t := tr) (L := L2) (R := [_, _, _, _, _]) (WF_pick [6, 7, 0, 8, 1, 2, 3, 4, 5] rfl rfl h))
  refine x_aload_n C eX7_emptyIn_0 rfl ?_
  refine x_iload_n C eX7_emptyIn_1 rfl ?_
  refine yV1v [_, _, _, _] [_, _, _, _, _, _] C (s_X7_testLine hK (by omega)) v_X7_testLine vv_X7_testLine s_RX7_145 eX7_emptyIn_2 (fun _ _ h => WF_pick [0, 1, 2, 3, 4, 5] rfl rfl h) (rcv 0 rfl) rfl (nle rfl) (nle rfl) (nle rfl) (nle rfl) rfl ?_
  refine x_oTG (t := tr) (L := L2) (R := [_, _, _, _, _]) (fun _ _ hw => WF_pick [5, 0, 1, 2, 3, 4] rfl rfl hw) (fun al2 lg2 J2 => ?_)
  refine x_aload_n C eX7_emptyIn_5 rfl ?_
  refine x_getR 4 C f_RX7_26 eX7_emptyIn_6 rfl rfl ?_
  refine x_aload_n C eX7_emptyIn_9 rfl ?_
  refine x_getR 4 C f_RX7_22 eX7_emptyIn_10 rfl rfl ?_
  refine yV1v [_] [_, _, _, _, _, _, _, _, _] C (s_X6_copyFrom hK hN (by omega)) v_X6_copyFrom vv_X6_copyFrom s_RX7_87 eX7_emptyIn_13 (fun _ _ h => WF_pick [0, 1, 2, 3, 5, 6, 7, 8, 4] rfl rfl h) (rcv 0 rfl) rfl (nle rfl) (nle rfl) (nle rfl) (nle rfl) rfl ?_
  refine x_aload_n C eX7_emptyIn_16 rfl ?_
  refine x_getR 8 C f_RX7_26 eX7_emptyIn_17 rfl rfl ?_
  refine x_iload_n C eX7_emptyIn_20 rfl ?_
  refine yV1r [_, _, _, _, _, _, _] [_, _, _, _, _, _, _, _, _] C (s_X6_lineAt hK (by omega)) v_X6_lineAt vv_X6_lineAt s_RX7_122 eX7_emptyIn_21 (fun _ _ h => WF_pick [0, 1, 2, 3, 4, 5, 6, 7, 8] rfl rfl h) (rcv 0 rfl) rfl (nle rfl) (nle rfl) (nle rfl) (nle rfl) rfl ?_
  refine x_oL (M := M) (L := L2) (m := n) (i := l9) (R := [_, _, _, _, _, _, _, _]) (by omega) (fun _ _ hw => WF_pick [2, 0, 1, 3, 4, 5, 6, 7, 8] rfl rfl hw) (fun A hA => ?_)
  refine x_getR 0 C f_RX7_165 eX7_emptyIn_24 rfl rfl ?_
  refine x_pick [_, _, _, _, _, _, _, _, _, _, _, _, _, _, _, _, _, _, _] [0, 1, 2, 3, 4, 5, 6, 7, 8, 9, 10, 11, 12, 13, 14, 15, 16, 17, 18] rfl rfl ?_
  refine x_cL (m := n) (i := l9) (A := A) (B := n l9) (by omega) hA (fun cf c h => ?_) ?_
  · exact h
  rw [un_id]
  rw [hA.2]
  refine x_astore_n [_, _, _, _] C eX7_emptyIn_27 rfl rfl (nlt rfl) ?_
  refine x_iconst C eX7_emptyIn_28 ?_
  refine x_istore_n [_, _, _, _] C eX7_emptyIn_29 rfl rfl (nlt rfl) ?_
  refine x_pick [_, _, _, _, _, _, _, _, _] [8, 4, 5, 6, 7, 1, 2, 0, 3] rfl rfl ?_
  exact loop al2 lg2 502 0 (by omega) (by omega) rfl
