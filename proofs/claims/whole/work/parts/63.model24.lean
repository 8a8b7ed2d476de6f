set_option maxHeartbeats 4000000 in
set_option maxRecDepth 100000 in
theorem s_X8_share {G : Gm} {l : Launch} (hK : KG G) {o : Nat} {A : Nat → Nat} {I : Nat → Int} {N : Nat → Net} {n : Net} {b : Int} {l9 : Int} (hN : NetOk b n) (hb : b ≤ 16000000) (r_l9 : -2147483648 ≤ l9 ∧ l9 < 2147483648) (hFP : FPok) : MD G l yX8_share cX8_share 2 (some .float) 3 0 0 [.ref o, .int (zI l9)] [ob o 10 (shM A 1) I, fam G A (uN N 1 (n))] (some (.float (if (0 ≤ l9 ∧ l9 ≤ n (-1) 0 - 1) ∧ (True) ∧ (True) then shA n l9 else 0))) [ob o 10 (shM A 1) (up I 0 (thr (0 ≤ l9 ∧ l9 ≤ n (-1) 0 - 1) (True) (True))), fam G A (uN N 1 (n))] := by
  refine MX_of (lv := [some (.ref o), some (.int (zI l9))]) hK (by decide +kernel) rfl (nle rfl) (fun X C F => ?_)
  have C : OKc G X l RX8 "share" cX8_share 2 (some .float) 3 0 0 := C
  have hH := hN.1
  unfold HeadOk at hH
  have hr : rok 1 := Or.inl rfl
  refine x_aload_n C eX8_share_0 rfl ?_
  refine x_aload_n C eX8_share_1 rfl ?_
  refine x_iload_n C eX8_share_2 rfl ?_
  refine yV1r [] [_, _] C (s_X8_isLine hK hr (by (try simp (disch := omega) only [Int.reduceAdd, uN_s, uN_uN, un_s, un_un, un_n, ub_s, ub_n, inc, bStop_n, bDrop_s, bDrop_n, unub_n, nLog_n, nLog_h, Int.sub_add_cancel]); omega) (by (try simp (disch := omega) only [Int.reduceAdd, uN_s, uN_uN, un_s, un_un, un_n, ub_s, ub_n, inc, bStop_n, bDrop_s, bDrop_n, unub_n, nLog_n, nLog_h, Int.sub_add_cancel]); omega)) v_X8_isLine vv_X8_isLine s_RX8_299 eX8_share_3 (fun _ _ h => WF_pick [0, 1] rfl rfl h) (rcv 0 rfl) rfl (nle rfl) (nle rfl) (nle rfl) (nle rfl) rfl ?_
  refine yV1r [_] [_, _] C (s_X8_passesv hK (0 ≤ l9 ∧ l9 ≤ n (-1) 0 - 1) (by first | rfl | rw [bz_t (by omega)] | rw [bz_f (by omega)])) v_X8_passes vv_X8_passes s_RX8_142 eX8_share_6 (fun _ _ h => WF_pick [0, 1] rfl rfl h) (rcv 0 rfl) rfl (nle rfl) (nle rfl) (nle rfl) (nle rfl) rfl ?_
  skip
  refine x_ifb_ne 14 C eX8_share_9 rfl (fun h9 => ?_) (fun h9 => ?_)
  · have hL := hN.2.2 l9 (by omega) (by omega)
    have h17 := LineOk_c hL (k := 17) (by decide) (by decide)
    unfold LineOk at hL
    refine x_aload_n C eX8_share_14 rfl ?_
    refine x_getR 0 C f_RX8_17 eX8_share_15 rfl rfl ?_
    refine x_iconst C eX8_share_18 ?_
    refine x_faldU 1 C eX8_share_19 rfl (Or.inl rfl) (by omega) ?_
    first | rw [enc_head _ (by omega)] | rw [enc_line _ (by omega) (by omega)]
    refine x_if_ne 27 C eX8_share_20 rfl (by omega) (fun h20 => ?_) (fun h20 => ?_)
    · refine x_aload_n C eX8_share_27 rfl ?_
      refine x_iload_n C eX8_share_28 rfl ?_
      refine x_iconst C eX8_share_29 ?_
      refine yV2r [] [_, _] C (s_X8_counted hK hr (by (try simp (disch := omega) only [Int.reduceAdd, uN_s, uN_uN, un_s, un_un, un_n, ub_s, ub_n, inc, bStop_n, bDrop_s, bDrop_n, unub_n, nLog_n, nLog_h, Int.sub_add_cancel]); omega) (by (try simp (disch := omega) only [Int.reduceAdd, uN_s, uN_uN, un_s, un_un, un_n, ub_s, ub_n, inc, bStop_n, bDrop_s, bDrop_n, unub_n, nLog_n, nLog_h, Int.sub_add_cancel]); omega)) v_X8_counted vv_X8_counted s_RX8_111 eX8_share_30 (fun _ _ h => WF_pick [0, 1] rfl rfl h) (rcv 0 rfl) rfl (nle rfl) (nle rfl) (nle rfl) (nle rfl) rfl ?_
      rw [show (16 : Int) + 1 = 17 from rfl]
      refine x_i2f C eX8_share_33 ?_
      refine x_aload_n C eX8_share_34 rfl ?_
      refine x_getR 0 C f_RX8_17 eX8_share_35 rfl rfl ?_
      refine x_iconst C eX8_share_38 ?_
      refine x_faldU 1 C eX8_share_39 rfl (Or.inl rfl) (by omega) ?_
      first | rw [enc_head _ (by omega)] | rw [enc_line _ (by omega) (by omega)]
      refine x_i2f C eX8_share_40 ?_
      refine x_fdiv C eX8_share_41 (hFP.1 (n l9 17) (n (-1) 4) (by omega) (by omega) (by omega) (by omega)).1 ?_
      refine x_fret C F eX8_share_42 () ?_ trivial (fun cf c h => ?_) (nle rfl) (nle rfl)
      · first
          | (rw [if_pos h9, show shA n l9 = 0 from if_pos (by assumption)])
          | (rw [if_pos h9, show shA n l9 = shV (n l9 17) (n (-1) 4) from if_neg (by assumption)]; rfl)
      · exact WF_pick [0, 1] rfl rfl h
    · refine x_fconst0 C eX8_share_23 ?_
      refine x_goto (pc' := 42) C eX8_share_24 rfl ?_
      refine x_fret C F eX8_share_42 () ?_ trivial (fun cf c h => ?_) (nle rfl) (nle rfl)
      · first
          | (rw [if_pos h9, show shA n l9 = 0 from if_pos (by assumption)])
          | (rw [if_pos h9, show shA n l9 = shV (n l9 17) (n (-1) 4) from if_neg (by assumption)]; rfl)
      · exact WF_pick [0, 1] rfl rfl h
  · refine x_fconst0 C eX8_share_12 ?_
    refine x_fret C F eX8_share_13 () ?_ trivial (fun cf c h => ?_) (nle rfl) (nle rfl)
    · rw [if_neg h9]
    · exact WF_pick [0, 1] rfl rfl h

set_option maxHeartbeats 4000000 in
set_option maxRecDepth 100000 in
theorem s_X8_meanWait {G : Gm} {l : Launch} (hK : KG G) {o : Nat} {A : Nat → Nat} {I : Nat → Int} {N : Nat → Net} {n : Net} {b : Int} {l9 : Int} (hN : NetOk b n) (hb : b ≤ 16000000) (r_l9 : -2147483648 ≤ l9 ∧ l9 < 2147483648) (hFP : FPok) : MD G l yX8_meanWait cX8_meanWait 3 (some .double) 3 0 0 [.ref o, .int (zI l9)] [ob o 10 (shM A 1) I, fam G A (uN N 1 (n))] (some (.double (if (0 ≤ l9 ∧ l9 ≤ n (-1) 0 - 1) ∧ (True) ∧ (True) then mwA n l9 else 0))) [ob o 10 (shM A 1) (up I 0 (thr (0 ≤ l9 ∧ l9 ≤ n (-1) 0 - 1) (True) (True))), fam G A (uN N 1 (n))] := by
  refine MX_of (lv := [some (.ref o), some (.int (zI l9)), none]) hK (by decide +kernel) rfl (nle rfl) (fun X C F => ?_)
  have C : OKc G X l RX8 "meanWait" cX8_meanWait 3 (some .double) 3 0 0 := C
  have hH := hN.1
  unfold HeadOk at hH
  have hr : rok 1 := Or.inl rfl
  refine x_aload_n C eX8_meanWait_0 rfl ?_
  refine x_aload_n C eX8_meanWait_1 rfl ?_
  refine x_iload_n C eX8_meanWait_2 rfl ?_
  refine yV1r [] [_, _] C (s_X8_isLine hK hr (by (try simp (disch := omega) only [Int.reduceAdd, uN_s, uN_uN, un_s, un_un, un_n, ub_s, ub_n, inc, bStop_n, bDrop_s, bDrop_n, unub_n, nLog_n, nLog_h, Int.sub_add_cancel]); omega) (by (try simp (disch := omega) only [Int.reduceAdd, uN_s, uN_uN, un_s, un_un, un_n, ub_s, ub_n, inc, bStop_n, bDrop_s, bDrop_n, unub_n, nLog_n, nLog_h, Int.sub_add_cancel]); omega)) v_X8_isLine vv_X8_isLine s_RX8_299 eX8_meanWait_3 (fun _ _ h => WF_pick [0, 1] rfl rfl h) (rcv 0 rfl) rfl (nle rfl) (nle rfl) (nle rfl) (nle rfl) rfl ?_
  refine yV1r [_] [_, _] C (s_X8_passesv hK (0 ≤ l9 ∧ l9 ≤ n (-1) 0 - 1) (by first | rfl | rw [bz_t (by omega)] | rw [bz_f (by omega)])) v_X8_passes vv_X8_passes s_RX8_142 eX8_meanWait_6 (fun _ _ h => WF_pick [0, 1] rfl rfl h) (rcv 0 rfl) rfl (nle rfl) (nle rfl) (nle rfl) (nle rfl) rfl ?_
  skip
  refine x_ifb_ne 14 C eX8_meanWait_9 rfl (fun h9 => ?_) (fun h9 => ?_)
  · have hL := hN.2.2 l9 (by omega) (by omega)
    have h17 := LineOk_c hL (k := 17) (by decide) (by decide)
    unfold LineOk at hL
    have hq9 : 0 ≤ qs (fun j => n (-1) 1 - n l9 (88 + j)) (n l9 6).toNat := qs_nonneg _ (fun j u v => by have := hL.2.2.2.2.2.2.2.2.2.2.2.2.2.2.2.2.2.1 j u (by omega); omega)
    refine x_aload_n C eX8_meanWait_14 rfl ?_
    refine x_iload_n C eX8_meanWait_15 rfl ?_
    refine x_iconst C eX8_meanWait_16 ?_
    refine yV2r [] [_, _] C (s_X8_counted hK hr (by (try simp (disch := omega) only [Int.reduceAdd, uN_s, uN_uN, un_s, un_un, un_n, ub_s, ub_n, inc, bStop_n, bDrop_s, bDrop_n, unub_n, nLog_n, nLog_h, Int.sub_add_cancel]); omega) (by (try simp (disch := omega) only [Int.reduceAdd, uN_s, uN_uN, un_s, un_un, un_n, ub_s, ub_n, inc, bStop_n, bDrop_s, bDrop_n, unub_n, nLog_n, nLog_h, Int.sub_add_cancel]); omega)) v_X8_counted vv_X8_counted s_RX8_111 eX8_meanWait_17 (fun _ _ h => WF_pick [0, 1] rfl rfl h) (rcv 0 rfl) rfl (nle rfl) (nle rfl) (nle rfl) (nle rfl) rfl ?_
    rw [show (16 : Int) + 1 = 17 from rfl]
    refine x_istore_n [_, _, _] C eX8_meanWait_20 rfl rfl (nlt rfl) ?_
    refine x_iload_n C eX8_meanWait_21 rfl ?_
    refine x_if_ne 29 C eX8_meanWait_22 rfl (by omega) (fun h22 => ?_) (fun h22 => ?_)
    · refine x_aload_n C eX8_meanWait_29 rfl ?_
      refine x_iload_n C eX8_meanWait_30 rfl ?_
      refine x_bipush C eX8_meanWait_31 rfl ?_
      refine yV2r [] [_, _] C (s_X8_of hK hr (by (try simp (disch := omega) only [Int.reduceAdd, uN_s, uN_uN, un_s, un_un, un_n, ub_s, ub_n, inc, bStop_n, bDrop_s, bDrop_n, unub_n, nLog_n, nLog_h, Int.sub_add_cancel]); omega) (by (try simp (disch := omega) only [Int.reduceAdd, uN_s, uN_uN, un_s, un_un, un_n, ub_s, ub_n, inc, bStop_n, bDrop_s, bDrop_n, unub_n, nLog_n, nLog_h, Int.sub_add_cancel]); omega)) v_X8_of vv_X8_of s_RX8_64 eX8_meanWait_33 (fun _ _ h => WF_pick [0, 1] rfl rfl h) (rcv 0 rfl) rfl (nle rfl) (nle rfl) (nle rfl) (nle rfl) rfl ?_
      refine x_i2d C eX8_meanWait_36 ?_
      refine x_iload_n C eX8_meanWait_37 rfl ?_
      refine x_i2d C eX8_meanWait_38 ?_
      refine x_ddiv C eX8_meanWait_39 (hFP.2 (n l9 15) (n l9 17) (by omega) (by omega) (by omega) (by omega)).1 ?_
      refine x_dret C F eX8_meanWait_40 () ?_ trivial (fun cf c h => ?_) (nle rfl) (nle rfl)
      · first
          | (rw [if_pos h9, show mwA n l9 = 0 from if_pos (by assumption)])
          | (rw [if_pos h9, show mwA n l9 = mwV (n l9 15) (n l9 17) from if_neg (by assumption)]; rfl)
      · exact WF_pick [0, 1] rfl rfl h
    · refine x_dconst0 C eX8_meanWait_25 ?_
      refine x_goto (pc' := 40) C eX8_meanWait_26 rfl ?_
      refine x_dret C F eX8_meanWait_40 () ?_ trivial (fun cf c h => ?_) (nle rfl) (nle rfl)
      · first
          | (rw [if_pos h9, show mwA n l9 = 0 from if_pos (by assumption)])
          | (rw [if_pos h9, show mwA n l9 = mwV (n l9 15) (n l9 17) from if_neg (by assumption)]; rfl)
      · exact WF_pick [0, 1] rfl rfl h
  · refine x_dconst0 C eX8_meanWait_12 ?_
    refine x_dret C F eX8_meanWait_13 () ?_ trivial (fun cf c h => ?_) (nle rfl) (nle rfl)
    · rw [if_neg h9]
    · exact WF_pick [0, 1] rfl rfl h
