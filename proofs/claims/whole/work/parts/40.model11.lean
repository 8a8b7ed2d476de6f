set_option maxHeartbeats 4000000 in
set_option maxRecDepth 100000 in
theorem s_X8_becomes {G : Gm} {l : Launch} (hK : KG G) {o : Nat} {A : Nat → Nat} {I : Nat → Int} {N : Nat → Net} {n : Net} {P : Nat → Net} {l9 w9 v9 : Int} (h20 : 0 ≤ I 20 ∧ I 20 ≤ 6) (hl : 0 ≤ l9 ∧ l9 < 6) (hw : 0 ≤ w9 ∧ w9 < 268) : MD G l yX8_becomes cX8_becomes 5 (some .int) 2 0 0 [.ref o, .int (zI l9), .int (zI w9), .int (zI v9)] [ob o 10 (shM A 1) I, fam G A (uN N 1 (n)), ar G 0 (A 19) 10896 10896 (encM (P))] (some (.int (zI (n l9 w9)))) [ob o 10 (shM A 1) (up I 20 (rmR (I 20))), fam G A (uN N 1 (un n l9 (ub (n l9) w9 v9))), ar G 0 (A 19) 10896 10896 (encM (rmP (I 20) P n))] := by
  refine MX_of (lv := [some (.ref o), some (.int (zI l9)), some (.int (zI w9)), some (.int (zI v9)), none]) hK (by decide +kernel) rfl (nle rfl) (fun X C F => ?_)
  have C : OKc G X l RX8 "becomes" cX8_becomes 5 (some .int) 2 0 0 := C
  have hr : rok 1 := Or.inl rfl
  refine x_aload_n C eX8_becomes_0 rfl ?_
  refine yV0v [] [_, _, _] C (s_X8_remember hK (by (try simp (disch := omega) only [Int.reduceAdd, uN_s, uN_uN, un_s, un_un, un_n, ub_s, ub_n, inc, bStop_n, bDrop_s, bDrop_n, unub_n, nLog_n, nLog_h, Int.sub_add_cancel]); omega)) v_X8_remember vv_X8_remember s_RX8_289 eX8_becomes_1 (fun _ _ h => WF_pick [0, 1, 2] rfl rfl h) (rcv 0 rfl) rfl (nle rfl) (nle rfl) (nle rfl) (nle rfl) rfl ?_
  skip
  refine x_aload_n C eX8_becomes_4 rfl ?_
  refine x_iload_n C eX8_becomes_5 rfl ?_
  refine x_iload_n C eX8_becomes_6 rfl ?_
  refine yV2r [_] [_, _, _] C (s_X8_of hK hr (by (try simp (disch := omega) only [Int.reduceAdd, uN_s, uN_uN, un_s, un_un, un_n, ub_s, ub_n, inc, bStop_n, bDrop_s, bDrop_n, unub_n, nLog_n, nLog_h, Int.sub_add_cancel]); omega) (by (try simp (disch := omega) only [Int.reduceAdd, uN_s, uN_uN, un_s, un_un, un_n, ub_s, ub_n, inc, bStop_n, bDrop_s, bDrop_n, unub_n, nLog_n, nLog_h, Int.sub_add_cancel]); omega)) v_X8_of vv_X8_of s_RX8_64 eX8_becomes_7 (fun _ _ h => WF_pick [0, 1, 2] rfl rfl h) (rcv 0 rfl) rfl (nle rfl) (nle rfl) (nle rfl) (nle rfl) rfl ?_
  refine x_istore [_, _, _, _, _] C eX8_becomes_10 rfl rfl (nlt rfl) ?_
  refine x_aload_n C eX8_becomes_12 rfl ?_
  refine x_iload_n C eX8_becomes_13 rfl ?_
  refine x_iload_n C eX8_becomes_14 rfl ?_
  refine x_iload_n C eX8_becomes_15 rfl ?_
  refine yV3v [_] [_, _, _] C (s_X8_put hK hr (by (try simp (disch := omega) only [Int.reduceAdd, uN_s, uN_uN, un_s, un_un, un_n, ub_s, ub_n, inc, bStop_n, bDrop_s, bDrop_n, unub_n, nLog_n, nLog_h, Int.sub_add_cancel]); omega) (by (try simp (disch := omega) only [Int.reduceAdd, uN_s, uN_uN, un_s, un_un, un_n, ub_s, ub_n, inc, bStop_n, bDrop_s, bDrop_n, unub_n, nLog_n, nLog_h, Int.sub_add_cancel]); omega)) v_X8_put vv_X8_put s_RX8_76 eX8_becomes_16 (fun _ _ h => WF_pick [0, 1, 2] rfl rfl h) (rcv 0 rfl) rfl (nle rfl) (nle rfl) (nle rfl) (nle rfl) rfl ?_
  skip
  refine x_iload C eX8_becomes_19 rfl ?_
  refine x_iret (by first | rfl | exact (narZ (by omega)).1) C F eX8_becomes_21 () ?_ trivial (fun cf c h => ?_) (nle rfl) (nle rfl)
  · rfl
  · exact WF_pick [0, 1, 2] rfl rfl h

set_option maxHeartbeats 4000000 in
set_option maxRecDepth 100000 in
theorem s_X8_recall {G : Gm} {l : Launch} (hK : KG G) {o : Nat} {A : Nat → Nat} {I : Nat → Int} {N : Nat → Net} {n : Net} {b : Int} {l9 : Int} {P : Nat → Net} (hN : NetOk b n) (hb : b ≤ 900000000) (r_l9 : -2147483648 ≤ l9 ∧ l9 < 2147483648) (h20 : 0 ≤ I 20 ∧ I 20 ≤ 6) : MD G l yX8_recall cX8_recall 2 (some .int) 3 0 0 [.ref o, .int (zI l9)] [ob o 10 (shM A 1) I, fam G A (uN N 1 (n)), ar G 0 (A 19) 10896 10896 (encM (P))] (some (.int (zI (if (0 ≤ l9 ∧ l9 ≤ n (-1) 0 - 1) ∧ (True) ∧ (True) then n l9 12 else 0)))) [ob o 10 (shM A 1) (if (0 ≤ l9 ∧ l9 ≤ n (-1) 0 - 1) ∧ (True) ∧ (True) then up (up I 0 (thr (0 ≤ l9 ∧ l9 ≤ n (-1) 0 - 1) (True) (True))) 20 (rmR (I 20)) else up I 0 (thr (0 ≤ l9 ∧ l9 ≤ n (-1) 0 - 1) (True) (True))), fam G A (uN N 1 (if (0 ≤ l9 ∧ l9 ≤ n (-1) 0 - 1) ∧ (True) ∧ (True) then un n l9 (ub (n l9) 12 0) else n)), ar G 0 (A 19) 10896 10896 (encM (if (0 ≤ l9 ∧ l9 ≤ n (-1) 0 - 1) ∧ (True) ∧ (True) then rmP (I 20) P n else P))] := by
  refine MX_of (lv := [some (.ref o), some (.int (zI l9))]) hK (by decide +kernel) rfl (nle rfl) (fun X C F => ?_)
  have C : OKc G X l RX8 "recall" cX8_recall 2 (some .int) 3 0 0 := C
  have hH := hN.1
  unfold HeadOk at hH
  have hr : rok 1 := Or.inl rfl
  refine x_aload_n C eX8_recall_0 rfl ?_
  refine x_aload_n C eX8_recall_1 rfl ?_
  refine x_iload_n C eX8_recall_2 rfl ?_
  refine yV1r [_] [_, _, _] C (s_X8_isLine hK hr (by (try simp (disch := omega) only [Int.reduceAdd, uN_s, uN_uN, un_s, un_un, un_n, ub_s, ub_n, inc, bStop_n, bDrop_s, bDrop_n, unub_n, nLog_n, nLog_h, Int.sub_add_cancel]); omega) (by (try simp (disch := omega) only [Int.reduceAdd, uN_s, uN_uN, un_s, un_un, un_n, ub_s, ub_n, inc, bStop_n, bDrop_s, bDrop_n, unub_n, nLog_n, nLog_h, Int.sub_add_cancel]); omega)) v_X8_isLine vv_X8_isLine s_RX8_299 eX8_recall_3 (fun _ _ h => WF_pick [0, 1, 2] rfl rfl h) (rcv 0 rfl) rfl (nle rfl) (nle rfl) (nle rfl) (nle rfl) rfl ?_
  refine yV1r [_, _] [_, _, _] C (s_X8_passesv hK (0 ≤ l9 ∧ l9 ≤ n (-1) 0 - 1) (by first | rfl | rw [bz_t (by omega)] | rw [bz_f (by omega)])) v_X8_passes vv_X8_passes s_RX8_142 eX8_recall_6 (fun _ _ h => WF_pick [0, 1, 2] rfl rfl h) (rcv 0 rfl) rfl (nle rfl) (nle rfl) (nle rfl) (nle rfl) rfl ?_
  skip
  refine x_ifb_eq 23 C eX8_recall_9 rfl (fun h9 => ?_) (fun h9 => ?_)
  · refine x_iconst C eX8_recall_23 ?_
    refine x_iret (by first | rfl | exact (narZ (by omega)).1) C F eX8_recall_24 () ?_ trivial (fun cf c h => ?_) (nle rfl) (nle rfl)
    · first
        | (rw [if_neg h9])
        | (rw [if_pos h9])
    · first
        | (rw [if_neg h9, if_neg h9, if_neg h9]; exact WF_pick [0, 1, 2] rfl rfl h)
        | (rw [if_pos h9, if_pos h9, if_pos h9]; exact WF_pick [0, 1, 2] rfl rfl h)
  · refine x_aload_n C eX8_recall_12 rfl ?_
    refine x_iload_n C eX8_recall_13 rfl ?_
    refine x_bipush C eX8_recall_14 rfl ?_
    refine x_iconst C eX8_recall_16 ?_
    refine yV3r [] [_, _, _] C (s_X8_becomes hK (by exact h20) (by (try simp (disch := omega) only [Int.reduceAdd, uN_s, uN_uN, un_s, un_un, un_n, ub_s, ub_n, inc, bStop_n, bDrop_s, bDrop_n, unub_n, nLog_n, nLog_h, Int.sub_add_cancel]); omega) (by (try simp (disch := omega) only [Int.reduceAdd, uN_s, uN_uN, un_s, un_un, un_n, ub_s, ub_n, inc, bStop_n, bDrop_s, bDrop_n, unub_n, nLog_n, nLog_h, Int.sub_add_cancel]); omega)) v_X8_becomes vv_X8_becomes s_RX8_355 eX8_recall_17 (fun _ _ h => WF_pick [0, 1, 2] rfl rfl h) (rcv 0 rfl) rfl (nle rfl) (nle rfl) (nle rfl) (nle rfl) rfl ?_
    try simp only [show ∀ t, up I 0 t 20 = I 20 from fun _ => rfl]
    refine x_goto (pc' := 24) C eX8_recall_20 rfl ?_
    refine x_iret (by first | rfl | exact (narZ (by omega)).1) C F eX8_recall_24 () ?_ trivial (fun cf c h => ?_) (nle rfl) (nle rfl)
    · first
        | (rw [if_neg h9])
        | (rw [if_pos h9])
    · first
        | (rw [if_neg h9, if_neg h9, if_neg h9]; exact WF_pick [0, 1, 2] rfl rfl h)
        | (rw [if_pos h9, if_pos h9, if_pos h9]; exact WF_pick [0, 1, 2] rfl rfl h)

set_option maxHeartbeats 4000000 in
set_option maxRecDepth 100000 in
theorem s_X8_setShare {G : Gm} {l : Launch} (hK : KG G) {o : Nat} {A : Nat → Nat} {I : Nat → Int} {N : Nat → Net} {n : Net} {b : Int} {l9 e9 : Int} {P : Nat → Net} (hN : NetOk b n) (hb : b ≤ 900000000) (r_l9 : -2147483648 ≤ l9 ∧ l9 < 2147483648) (r_e9 : -2147483648 ≤ e9 ∧ e9 < 2147483648) (h20 : 0 ≤ I 20 ∧ I 20 ≤ 6) : MD G l yX8_setShare cX8_setShare 3 (some .int) 3 0 0 [.ref o, .int (zI l9), .int (zI e9)] [ob o 10 (shM A 1) I, fam G A (uN N 1 (n)), ar G 0 (A 19) 10896 10896 (encM (P))] (some (.int (zI (if (0 ≤ l9 ∧ l9 ≤ n (-1) 0 - 1) ∧ (1 ≤ e9 ∧ e9 ≤ 9) ∧ (True) then n l9 4 else 0)))) [ob o 10 (shM A 1) (if (0 ≤ l9 ∧ l9 ≤ n (-1) 0 - 1) ∧ (1 ≤ e9 ∧ e9 ≤ 9) ∧ (True) then up (up I 0 (thr (0 ≤ l9 ∧ l9 ≤ n (-1) 0 - 1) (1 ≤ e9 ∧ e9 ≤ 9) (True))) 20 (rmR (I 20)) else up I 0 (thr (0 ≤ l9 ∧ l9 ≤ n (-1) 0 - 1) (1 ≤ e9 ∧ e9 ≤ 9) (True))), fam G A (uN N 1 (if (0 ≤ l9 ∧ l9 ≤ n (-1) 0 - 1) ∧ (1 ≤ e9 ∧ e9 ≤ 9) ∧ (True) then un n l9 (ub (n l9) 4 e9) else n)), ar G 0 (A 19) 10896 10896 (encM (if (0 ≤ l9 ∧ l9 ≤ n (-1) 0 - 1) ∧ (1 ≤ e9 ∧ e9 ≤ 9) ∧ (True) then rmP (I 20) P n else P))] := by
  refine MX_of (lv := [some (.ref o), some (.int (zI l9)), some (.int (zI e9))]) hK (by decide +kernel) rfl (nle rfl) (fun X C F => ?_)
  have C : OKc G X l RX8 "setShare" cX8_setShare 3 (some .int) 3 0 0 := C
  have hH := hN.1
  unfold HeadOk at hH
  have hr : rok 1 := Or.inl rfl
  refine x_aload_n C eX8_setShare_0 rfl ?_
  refine x_aload_n C eX8_setShare_1 rfl ?_
  refine x_iload_n C eX8_setShare_2 rfl ?_
  refine yV1r [_] [_, _, _] C (s_X8_isLine hK hr (by (try simp (disch := omega) only [Int.reduceAdd, uN_s, uN_uN, un_s, un_un, un_n, ub_s, ub_n, inc, bStop_n, bDrop_s, bDrop_n, unub_n, nLog_n, nLog_h, Int.sub_add_cancel]); omega) (by (try simp (disch := omega) only [Int.reduceAdd, uN_s, uN_uN, un_s, un_un, un_n, ub_s, ub_n, inc, bStop_n, bDrop_s, bDrop_n, unub_n, nLog_n, nLog_h, Int.sub_add_cancel]); omega)) v_X8_isLine vv_X8_isLine s_RX8_299 eX8_setShare_3 (fun _ _ h => WF_pick [0, 1, 2] rfl rfl h) (rcv 0 rfl) rfl (nle rfl) (nle rfl) (nle rfl) (nle rfl) rfl ?_
  refine x_iload_n C eX8_setShare_6 rfl ?_
  refine x_i2l C eX8_setShare_7 (by omega) ?_
  refine x_lconst (v := 1) C eX8_setShare_8 rfl ?_
  refine x_ldc2 C eX8_setShare_9 k_RX8_365 ?_
  refine yS3r [_, _, _] [_, _, _] C (s_X8_in hK (by (try simp (disch := omega) only [Int.reduceAdd, uN_s, uN_uN, un_s, un_un, un_n, ub_s, ub_n, inc, bStop_n, bDrop_s, bDrop_n, unub_n, nLog_n, nLog_h, Int.sub_add_cancel]); omega)) v_X8_in vs_X8_in s_RX8_72 eX8_setShare_12 (fun _ _ h => WF_pick [0, 1, 2] rfl rfl h) rfl (nle rfl) (nle rfl) (nle rfl) (nle rfl) rfl ?_
  refine yV2r [_, _] [_, _, _] C (s_X8_passes2v hK (0 ≤ l9 ∧ l9 ≤ n (-1) 0 - 1) (1 ≤ e9 ∧ e9 ≤ 9) (by first | rfl | rw [bz_t (by omega)] | rw [bz_f (by omega)]) (by first | rfl | rw [bz_t (by omega)] | rw [bz_f (by omega)])) v_X8_passes2 vv_X8_passes2 s_RX8_302 eX8_setShare_15 (fun _ _ h => WF_pick [0, 1, 2] rfl rfl h) (rcv 0 rfl) rfl (nle rfl) (nle rfl) (nle rfl) (nle rfl) rfl ?_
  skip
  refine x_ifb_eq 31 C eX8_setShare_18 rfl (fun h18 => ?_) (fun h18 => ?_)
  · refine x_iconst C eX8_setShare_31 ?_
    refine x_iret (by first | rfl | exact (narZ (by omega)).1) C F eX8_setShare_32 () ?_ trivial (fun cf c h => ?_) (nle rfl) (nle rfl)
    · first
        | (rw [if_neg h18])
        | (rw [if_pos h18])
    · first
        | (rw [if_neg h18, if_neg h18, if_neg h18]; exact WF_pick [0, 1, 2] rfl rfl h)
        | (rw [if_pos h18, if_pos h18, if_pos h18]; exact WF_pick [0, 1, 2] rfl rfl h)
  · refine x_aload_n C eX8_setShare_21 rfl ?_
    refine x_iload_n C eX8_setShare_22 rfl ?_
    refine x_iconst C eX8_setShare_23 ?_
    refine x_iload_n C eX8_setShare_24 rfl ?_
    refine yV3r [] [_, _, _] C (s_X8_becomes hK (by exact h20) (by (try simp (disch := omega) only [Int.reduceAdd, uN_s, uN_uN, un_s, un_un, un_n, ub_s, ub_n, inc, bStop_n, bDrop_s, bDrop_n, unub_n, nLog_n, nLog_h, Int.sub_add_cancel]); omega) (by (try simp (disch := omega) only [Int.reduceAdd, uN_s, uN_uN, un_s, un_un, un_n, ub_s, ub_n, inc, bStop_n, bDrop_s, bDrop_n, unub_n, nLog_n, nLog_h, Int.sub_add_cancel]); omega)) v_X8_becomes vv_X8_becomes s_RX8_355 eX8_setShare_25 (fun _ _ h => WF_pick [0, 1, 2] rfl rfl h) (rcv 0 rfl) rfl (nle rfl) (nle rfl) (nle rfl) (nle rfl) rfl ?_
    try simp only [show ∀ t, up I 0 t 20 = I 20 from fun _ => rfl]
    refine x_goto (pc' := 32) C eX8_setShare_28 rfl ?_
    refine x_iret (by first | rfl | exact (narZ (by omega)).1) C F eX8_setShare_32 () ?_ trivial (fun cf c h => ?_) (nle rfl) (nle rfl)
    · first
        | (rw [if_neg h18])
        | (rw [if_pos h18])
    · first
        | (rw [if_neg h18, if_neg h18, if_neg h18]; exact WF_pick [0, 1, 2] rfl rfl h)
        | (rw [if_pos h18, if_pos h18, if_pos h18]; exact WF_pick [0, 1, 2] rfl rfl h)

set_option maxHeartbeats 4000000 in
set_option maxRecDepth 100000 in
theorem s_X8_setEcho {G : Gm} {l : Launch} (hK : KG G) {o : Nat} {A : Nat → Nat} {I : Nat → Int} {N : Nat → Net} {n : Net} {b : Int} {l9 e9 : Int} {P : Nat → Net} (hN : NetOk b n) (hb : b ≤ 900000000) (r_l9 : -2147483648 ≤ l9 ∧ l9 < 2147483648) (r_e9 : -2147483648 ≤ e9 ∧ e9 < 2147483648) (h20 : 0 ≤ I 20 ∧ I 20 ≤ 6) : MD G l yX8_setEcho cX8_setEcho 4 (some .int) 3 0 0 [.ref o, .int (zI l9), .int (zI e9)] [ob o 10 (shM A 1) I, fam G A (uN N 1 (n)), ar G 0 (A 19) 10896 10896 (encM (P))] (some (.int (zI (if (0 ≤ l9 ∧ l9 ≤ n (-1) 0 - 1) ∧ (0 ≤ e9 ∧ e9 ≤ 2) ∧ (True) then n l9 5 else 0)))) [ob o 10 (shM A 1) (if (0 ≤ l9 ∧ l9 ≤ n (-1) 0 - 1) ∧ (0 ≤ e9 ∧ e9 ≤ 2) ∧ (True) then up (up I 0 (thr (0 ≤ l9 ∧ l9 ≤ n (-1) 0 - 1) (0 ≤ e9 ∧ e9 ≤ 2) (True))) 20 (rmR (I 20)) else up I 0 (thr (0 ≤ l9 ∧ l9 ≤ n (-1) 0 - 1) (0 ≤ e9 ∧ e9 ≤ 2) (True))), fam G A (uN N 1 (if (0 ≤ l9 ∧ l9 ≤ n (-1) 0 - 1) ∧ (0 ≤ e9 ∧ e9 ≤ 2) ∧ (True) then un n l9 (ub (ub (n l9) 5 e9) 8 0) else n)), ar G 0 (A 19) 10896 10896 (encM (if (0 ≤ l9 ∧ l9 ≤ n (-1) 0 - 1) ∧ (0 ≤ e9 ∧ e9 ≤ 2) ∧ (True) then rmP (I 20) P n else P))] := by
  refine MX_of (lv := [some (.ref o), some (.int (zI l9)), some (.int (zI e9)), none]) hK (by decide +kernel) rfl (nle rfl) (fun X C F => ?_)
  have C : OKc G X l RX8 "setEcho" cX8_setEcho 4 (some .int) 3 0 0 := C
  have hH := hN.1
  unfold HeadOk at hH
  have hr : rok 1 := Or.inl rfl
  refine x_aload_n C eX8_setEcho_0 rfl ?_
  refine x_aload_n C eX8_setEcho_1 rfl ?_
  refine x_iload_n C eX8_setEcho_2 rfl ?_
  refine yV1r [_] [_, _, _] C (s_X8_isLine hK hr (by (try simp (disch := omega) only [Int.reduceAdd, uN_s, uN_uN, un_s, un_un, un_n, ub_s, ub_n, inc, bStop_n, bDrop_s, bDrop_n, unub_n, nLog_n, nLog_h, Int.sub_add_cancel]); omega) (by (try simp (disch := omega) only [Int.reduceAdd, uN_s, uN_uN, un_s, un_un, un_n, ub_s, ub_n, inc, bStop_n, bDrop_s, bDrop_n, unub_n, nLog_n, nLog_h, Int.sub_add_cancel]); omega)) v_X8_isLine vv_X8_isLine s_RX8_299 eX8_setEcho_3 (fun _ _ h => WF_pick [0, 1, 2] rfl rfl h) (rcv 0 rfl) rfl (nle rfl) (nle rfl) (nle rfl) (nle rfl) rfl ?_
  refine x_iload_n C eX8_setEcho_6 rfl ?_
  refine x_i2l C eX8_setEcho_7 (by omega) ?_
  refine x_lconst (v := 0) C eX8_setEcho_8 rfl ?_
  refine x_ldc2 C eX8_setEcho_9 k_RX8_363 ?_
  refine yS3r [_, _, _] [_, _, _] C (s_X8_in hK (by (try simp (disch := omega) only [Int.reduceAdd, uN_s, uN_uN, un_s, un_un, un_n, ub_s, ub_n, inc, bStop_n, bDrop_s, bDrop_n, unub_n, nLog_n, nLog_h, Int.sub_add_cancel]); omega)) v_X8_in vs_X8_in s_RX8_72 eX8_setEcho_12 (fun _ _ h => WF_pick [0, 1, 2] rfl rfl h) rfl (nle rfl) (nle rfl) (nle rfl) (nle rfl) rfl ?_
  refine yV2r [_, _] [_, _, _] C (s_X8_passes2v hK (0 ≤ l9 ∧ l9 ≤ n (-1) 0 - 1) (0 ≤ e9 ∧ e9 ≤ 2) (by first | rfl | rw [bz_t (by omega)] | rw [bz_f (by omega)]) (by first | rfl | rw [bz_t (by omega)] | rw [bz_f (by omega)])) v_X8_passes2 vv_X8_passes2 s_RX8_302 eX8_setEcho_15 (fun _ _ h => WF_pick [0, 1, 2] rfl rfl h) (rcv 0 rfl) rfl (nle rfl) (nle rfl) (nle rfl) (nle rfl) rfl ?_
  skip
  refine x_ifb_ne 23 C eX8_setEcho_18 rfl (fun h18 => ?_) (fun h18 => ?_)
  · refine x_aload_n C eX8_setEcho_23 rfl ?_
    refine x_iload_n C eX8_setEcho_24 rfl ?_
    refine x_iconst C eX8_setEcho_25 ?_
    refine x_iload_n C eX8_setEcho_26 rfl ?_
    refine yV3r [] [_, _, _] C (s_X8_becomes hK (by exact h20) (by (try simp (disch := omega) only [Int.reduceAdd, uN_s, uN_uN, un_s, un_un, un_n, ub_s, ub_n, inc, bStop_n, bDrop_s, bDrop_n, unub_n, nLog_n, nLog_h, Int.sub_add_cancel]); omega) (by (try simp (disch := omega) only [Int.reduceAdd, uN_s, uN_uN, un_s, un_un, un_n, ub_s, ub_n, inc, bStop_n, bDrop_s, bDrop_n, unub_n, nLog_n, nLog_h, Int.sub_add_cancel]); omega)) v_X8_becomes vv_X8_becomes s_RX8_355 eX8_setEcho_27 (fun _ _ h => WF_pick [0, 1, 2] rfl rfl h) (rcv 0 rfl) rfl (nle rfl) (nle rfl) (nle rfl) (nle rfl) rfl ?_
    try simp only [show ∀ t, up I 0 t 20 = I 20 from fun _ => rfl]
    refine x_istore_n [_, _, _, _] C eX8_setEcho_30 rfl rfl (nlt rfl) ?_
    refine x_aload_n C eX8_setEcho_31 rfl ?_
    refine x_iload_n C eX8_setEcho_32 rfl ?_
    refine x_bipush C eX8_setEcho_33 rfl ?_
    refine x_iconst C eX8_setEcho_35 ?_
    refine yV3v [_] [_, _, _] C (s_X8_put hK hr (by (try simp (disch := omega) only [Int.reduceAdd, uN_s, uN_uN, un_s, un_un, un_n, ub_s, ub_n, inc, bStop_n, bDrop_s, bDrop_n, unub_n, nLog_n, nLog_h, Int.sub_add_cancel]); omega) (by (try simp (disch := omega) only [Int.reduceAdd, uN_s, uN_uN, un_s, un_un, un_n, ub_s, ub_n, inc, bStop_n, bDrop_s, bDrop_n, unub_n, nLog_n, nLog_h, Int.sub_add_cancel]); omega)) v_X8_put vv_X8_put s_RX8_76 eX8_setEcho_36 (fun _ _ h => WF_pick [0, 1, 2] rfl rfl h) (rcv 0 rfl) rfl (nle rfl) (nle rfl) (nle rfl) (nle rfl) rfl ?_
    skip
    refine x_iload_n C eX8_setEcho_39 rfl ?_
    refine x_iret (by first | rfl | exact (narZ (by omega)).1) C F eX8_setEcho_40 () ?_ trivial (fun cf c h => ?_) (nle rfl) (nle rfl)
    · first
        | (rw [if_neg h18])
        | (rw [if_pos h18])
    · rw [if_pos h18, if_pos h18, if_pos h18]
      try simp only [un_s, un_un] at h
      exact WF_pick [0, 1, 2] rfl rfl h
  · refine x_iconst C eX8_setEcho_21 ?_
    refine x_iret (by first | rfl | exact (narZ (by omega)).1) C F eX8_setEcho_22 () ?_ trivial (fun cf c h => ?_) (nle rfl) (nle rfl)
    · first
        | (rw [if_neg h18])
        | (rw [if_pos h18])
    · first
        | (rw [if_neg h18, if_neg h18, if_neg h18]; exact WF_pick [0, 1, 2] rfl rfl h)
        | (rw [if_pos h18, if_pos h18, if_pos h18]; exact WF_pick [0, 1, 2] rfl rfl h)

set_option maxHeartbeats 4000000 in
set_option maxRecDepth 100000 in
theorem s_X8_breakLine {G : Gm} {l : Launch} (hK : KG G) {o : Nat} {A : Nat → Nat} {I : Nat → Int} {N : Nat → Net} {n : Net} {b : Int} {l9 t9 : Int} {P : Nat → Net} (hN : NetOk b n) (hb : b ≤ 900000000) (r_l9 : -2147483648 ≤ l9 ∧ l9 < 2147483648) (r_t9 : -2147483648 ≤ t9 ∧ t9 < 2147483648) (h20 : 0 ≤ I 20 ∧ I 20 ≤ 6) : MD G l yX8_breakLine cX8_breakLine 3 (some .int) 5 0 0 [.ref o, .int (zI l9), .int (zI t9)] [ob o 10 (shM A 1) I, fam G A (uN N 1 (n)), ar G 0 (A 19) 10896 10896 (encM (P))] (some (.int (zI (if (0 ≤ l9 ∧ l9 ≤ n (-1) 0 - 1) ∧ (1 ≤ t9 ∧ t9 ≤ 50) ∧ (True) then n l9 6 + n l9 7 else 0)))) [ob o 10 (shM A 1) (if (0 ≤ l9 ∧ l9 ≤ n (-1) 0 - 1) ∧ (1 ≤ t9 ∧ t9 ≤ 50) ∧ (True) then up (up I 0 (thr (0 ≤ l9 ∧ l9 ≤ n (-1) 0 - 1) (1 ≤ t9 ∧ t9 ≤ 50) (True))) 20 (rmR (I 20)) else up I 0 (thr (0 ≤ l9 ∧ l9 ≤ n (-1) 0 - 1) (1 ≤ t9 ∧ t9 ≤ 50) (True))), fam G A (uN N 1 (if (0 ≤ l9 ∧ l9 ≤ n (-1) 0 - 1) ∧ (1 ≤ t9 ∧ t9 ≤ 50) ∧ (True) then un n l9 (bBreak (n l9) t9) else n)), ar G 0 (A 19) 10896 10896 (encM (if (0 ≤ l9 ∧ l9 ≤ n (-1) 0 - 1) ∧ (1 ≤ t9 ∧ t9 ≤ 50) ∧ (True) then rmP (I 20) P n else P))] := by
  refine MX_of (lv := [some (.ref o), some (.int (zI l9)), some (.int (zI t9))]) hK (by decide +kernel) rfl (nle rfl) (fun X C F => ?_)
  have C : OKc G X l RX8 "breakLine" cX8_breakLine 3 (some .int) 5 0 0 := C
  have hH := hN.1
  unfold HeadOk at hH
  have hr : rok 1 := Or.inl rfl
  refine x_aload_n C eX8_breakLine_0 rfl ?_
  refine x_aload_n C eX8_breakLine_1 rfl ?_
  refine x_iload_n C eX8_breakLine_2 rfl ?_
  refine yV1r [_] [_, _, _] C (s_X8_isLine hK hr (by (try simp (disch := omega) only [Int.reduceAdd, uN_s, uN_uN, un_s, un_un, un_n, ub_s, ub_n, inc, bStop_n, bDrop_s, bDrop_n, unub_n, nLog_n, nLog_h, Int.sub_add_cancel]); omega) (by (try simp (disch := omega) only [Int.reduceAdd, uN_s, uN_uN, un_s, un_un, un_n, ub_s, ub_n, inc, bStop_n, bDrop_s, bDrop_n, unub_n, nLog_n, nLog_h, Int.sub_add_cancel]); omega)) v_X8_isLine vv_X8_isLine s_RX8_299 eX8_breakLine_3 (fun _ _ h => WF_pick [0, 1, 2] rfl rfl h) (rcv 0 rfl) rfl (nle rfl) (nle rfl) (nle rfl) (nle rfl) rfl ?_
  refine x_iload_n C eX8_breakLine_6 rfl ?_
  refine x_i2l C eX8_breakLine_7 (by omega) ?_
  refine x_lconst (v := 1) C eX8_breakLine_8 rfl ?_
  refine x_ldc2 C eX8_breakLine_9 k_RX8_358 ?_
  refine yS3r [_, _, _] [_, _, _] C (s_X8_in hK (by (try simp (disch := omega) only [Int.reduceAdd, uN_s, uN_uN, un_s, un_un, un_n, ub_s, ub_n, inc, bStop_n, bDrop_s, bDrop_n, unub_n, nLog_n, nLog_h, Int.sub_add_cancel]); omega)) v_X8_in vs_X8_in s_RX8_72 eX8_breakLine_12 (fun _ _ h => WF_pick [0, 1, 2] rfl rfl h) rfl (nle rfl) (nle rfl) (nle rfl) (nle rfl) rfl ?_
  refine yV2r [_, _] [_, _, _] C (s_X8_passes2v hK (0 ≤ l9 ∧ l9 ≤ n (-1) 0 - 1) (1 ≤ t9 ∧ t9 ≤ 50) (by first | rfl | rw [bz_t (by omega)] | rw [bz_f (by omega)]) (by first | rfl | rw [bz_t (by omega)] | rw [bz_f (by omega)])) v_X8_passes2 vv_X8_passes2 s_RX8_302 eX8_breakLine_15 (fun _ _ h => WF_pick [0, 1, 2] rfl rfl h) (rcv 0 rfl) rfl (nle rfl) (nle rfl) (nle rfl) (nle rfl) rfl ?_
  skip
  refine x_ifb_ne 23 C eX8_breakLine_18 rfl (fun h18 => ?_) (fun h18 => ?_)
  · have hL := hN.2.2 l9 (by omega) (by omega)
    unfold LineOk at hL
    refine x_aload_n C eX8_breakLine_23 rfl ?_
    refine yV0v [] [_, _, _] C (s_X8_remember hK (by exact h20)) v_X8_remember vv_X8_remember s_RX8_289 eX8_breakLine_24 (fun _ _ h => WF_pick [0, 1, 2] rfl rfl h) (rcv 0 rfl) rfl (nle rfl) (nle rfl) (nle rfl) (nle rfl) rfl ?_
    try simp only [show ∀ t, up I 0 t 20 = I 20 from fun _ => rfl]
    refine x_aload_n C eX8_breakLine_27 rfl ?_
    refine x_iload_n C eX8_breakLine_28 rfl ?_
    refine x_iload_n C eX8_breakLine_29 rfl ?_
    refine yV2r [_] [_, _, _] C (s_X8_breakNow hK hr (by (try simp (disch := omega) only [Int.reduceAdd, uN_s, uN_uN, un_s, un_un, un_n, ub_s, ub_n, inc, bStop_n, bDrop_s, bDrop_n, unub_n, nLog_n, nLog_h, Int.sub_add_cancel]); omega) (by (try simp (disch := omega) only [Int.reduceAdd, uN_s, uN_uN, un_s, un_un, un_n, ub_s, ub_n, inc, bStop_n, bDrop_s, bDrop_n, unub_n, nLog_n, nLog_h, Int.sub_add_cancel]); omega)) v_X8_breakNow vv_X8_breakNow s_RX8_360 eX8_breakLine_30 (fun _ _ h => WF_pick [0, 1, 2] rfl rfl h) (rcv 0 rfl) rfl (nle rfl) (nle rfl) (nle rfl) (nle rfl) rfl ?_
    skip
    refine x_iret (by first | rfl | exact (narZ (by omega)).1) C F eX8_breakLine_33 () ?_ trivial (fun cf c h => ?_) (nle rfl) (nle rfl)
    · first
        | (rw [if_neg h18])
        | (rw [if_pos h18])
    · first
        | (rw [if_neg h18, if_neg h18, if_neg h18]; exact WF_pick [0, 1, 2] rfl rfl h)
        | (rw [if_pos h18, if_pos h18, if_pos h18]; exact WF_pick [0, 1, 2] rfl rfl h)
  · refine x_iconst C eX8_breakLine_21 ?_
    refine x_iret (by first | rfl | exact (narZ (by omega)).1) C F eX8_breakLine_22 () ?_ trivial (fun cf c h => ?_) (nle rfl) (nle rfl)
    · first
        | (rw [if_neg h18])
        | (rw [if_pos h18])
    · first
        | (rw [if_neg h18, if_neg h18, if_neg h18]; exact WF_pick [0, 1, 2] rfl rfl h)
        | (rw [if_pos h18, if_pos h18, if_pos h18]; exact WF_pick [0, 1, 2] rfl rfl h)

set_option maxHeartbeats 4000000 in
set_option maxRecDepth 100000 in
theorem s_X8_tick {G : Gm} {l : Launch} (hK : KG G) {o : Nat} {A : Nat → Nat} {I : Nat → Int} {N : Nat → Net} {n : Net} {b : Int} {t9 : Int} {P : Nat → Net} (hN : NetOk b n) (hb : b ≤ 900000000) (r_t9 : -2147483648 ≤ t9 ∧ t9 < 2147483648) (h20 : 0 ≤ I 20 ∧ I 20 ≤ 6) : MD G l yX8_tick cX8_tick 2 (some .int) 9 0 0 [.ref o, .int (zI t9)] [ob o 10 (shM A 1) I, fam G A (uN N 1 (n)), ar G 0 (A 19) 10896 10896 (encM (P))] (some (.int (zI (if (1 ≤ t9 ∧ t9 ≤ 200) ∧ (True) ∧ (True) then nTicks t9.toNat n (-1) 4 - n (-1) 4 else 0)))) [ob o 10 (shM A 1) (if (1 ≤ t9 ∧ t9 ≤ 200) ∧ (True) ∧ (True) then up (up I 0 (thr (1 ≤ t9 ∧ t9 ≤ 200) (True) (True))) 20 (rmR (I 20)) else up I 0 (thr (1 ≤ t9 ∧ t9 ≤ 200) (True) (True))), fam G A (uN N 1 (if (1 ≤ t9 ∧ t9 ≤ 200) ∧ (True) ∧ (True) then nTicks t9.toNat n else n)), ar G 0 (A 19) 10896 10896 (encM (if (1 ≤ t9 ∧ t9 ≤ 200) ∧ (True) ∧ (True) then rmP (I 20) P n else P))] := by
  refine MX_of (lv := [some (.ref o), some (.int (zI t9))]) hK (by decide +kernel) rfl (nle rfl) (fun X C F => ?_)
  have C : OKc G X l RX8 "tick" cX8_tick 2 (some .int) 9 0 0 := C
  have hH := hN.1
  unfold HeadOk at hH
  have hr : rok 1 := Or.inl rfl
  refine x_aload_n C eX8_tick_0 rfl ?_
  refine x_iload_n C eX8_tick_1 rfl ?_
  refine x_i2l C eX8_tick_2 (by omega) ?_
  refine x_lconst (v := 1) C eX8_tick_3 rfl ?_
  refine x_ldc2 C eX8_tick_4 k_RX8_351 ?_
  refine yS3r [_, _, _] [_, _, _] C (s_X8_in hK (by (try simp (disch := omega) only [Int.reduceAdd, uN_s, uN_uN, un_s, un_un, un_n, ub_s, ub_n, inc, bStop_n, bDrop_s, bDrop_n, unub_n, nLog_n, nLog_h, Int.sub_add_cancel]); omega)) v_X8_in vs_X8_in s_RX8_72 eX8_tick_7 (fun _ _ h => WF_pick [0, 1, 2] rfl rfl h) rfl (nle rfl) (nle rfl) (nle rfl) (nle rfl) rfl ?_
  refine yV1r [_, _] [_, _, _] C (s_X8_passesv hK (1 ≤ t9 ∧ t9 ≤ 200) (by first | rfl | rw [bz_t (by omega)] | rw [bz_f (by omega)])) v_X8_passes vv_X8_passes s_RX8_142 eX8_tick_10 (fun _ _ h => WF_pick [0, 1, 2] rfl rfl h) (rcv 0 rfl) rfl (nle rfl) (nle rfl) (nle rfl) (nle rfl) rfl ?_
  skip
  refine x_ifb_ne 18 C eX8_tick_13 rfl (fun h13 => ?_) (fun h13 => ?_)
  · refine x_aload_n C eX8_tick_18 rfl ?_
    refine yV0v [] [_, _, _] C (s_X8_remember hK (by exact h20)) v_X8_remember vv_X8_remember s_RX8_289 eX8_tick_19 (fun _ _ h => WF_pick [0, 1, 2] rfl rfl h) (rcv 0 rfl) rfl (nle rfl) (nle rfl) (nle rfl) (nle rfl) rfl ?_
    try simp only [show ∀ t, up I 0 t 20 = I 20 from fun _ => rfl]
    refine x_aload_n C eX8_tick_22 rfl ?_
    refine x_iconst C eX8_tick_23 ?_
    refine x_iconst C eX8_tick_24 ?_
    refine x_iload_n C eX8_tick_25 rfl ?_
    refine yV3r [_] [_, _, _] C (s_X8_growsIn_all hK hr hN (by (try simp (disch := omega) only [Int.reduceAdd, uN_s, uN_uN, un_s, un_un, un_n, ub_s, ub_n, inc, bStop_n, bDrop_s, bDrop_n, unub_n, nLog_n, nLog_h, Int.sub_add_cancel]); omega) (by omega)) v_X8_growsIn vv_X8_growsIn s_RX8_334 eX8_tick_26 (fun _ _ h => WF_pick [0, 1, 2] rfl rfl h) (rcv 0 rfl) rfl (nle rfl) (nle rfl) (nle rfl) (nle rfl) rfl ?_
    skip
    refine x_iret (by first | rfl | exact (narZ (by omega)).1) C F eX8_tick_29 () ?_ trivial (fun cf c h => ?_) (nle rfl) (nle rfl)
    · first
        | (rw [if_neg h13])
        | (rw [if_pos h13])
    · first
        | (rw [if_neg h13, if_neg h13, if_neg h13]; exact WF_pick [0, 1, 2] rfl rfl h)
        | (rw [if_pos h13, if_pos h13, if_pos h13]; exact WF_pick [0, 1, 2] rfl rfl h)
  · refine x_iconst C eX8_tick_16 ?_
    refine x_iret (by first | rfl | exact (narZ (by omega)).1) C F eX8_tick_17 () ?_ trivial (fun cf c h => ?_) (nle rfl) (nle rfl)
    · first
        | (rw [if_neg h13])
        | (rw [if_pos h13])
    · first
        | (rw [if_neg h13, if_neg h13, if_neg h13]; exact WF_pick [0, 1, 2] rfl rfl h)
        | (rw [if_pos h13, if_pos h13, if_pos h13]; exact WF_pick [0, 1, 2] rfl rfl h)

set_option maxHeartbeats 4000000 in
set_option maxRecDepth 100000 in
theorem s_X8_lend {G : Gm} {l : Launch} (hK : KG G) {o : Nat} {A : Nat → Nat} {I : Nat → Int} {N : Nat → Net} {n : Net} {b : Int} {l9 o9 t9 : Int} {P : Nat → Net} (hN : NetOk b n) (hb : b ≤ 900000000) (r_l9 : -2147483648 ≤ l9 ∧ l9 < 2147483648) (r_o9 : -2147483648 ≤ o9 ∧ o9 < 2147483648) (r_t9 : -2147483648 ≤ t9 ∧ t9 < 2147483648) (h20 : 0 ≤ I 20 ∧ I 20 ≤ 6) : MD G l yX8_lend cX8_lend 5 (some .int) 4 0 0 [.ref o, .int (zI l9), .int (zI o9), .int (zI t9)] [ob o 10 (shM A 1) I, fam G A (uN N 1 (n)), ar G 0 (A 19) 10896 10896 (encM (P))] (some (.int (zI (if ((0 ≤ l9 ∧ l9 ≤ n (-1) 0 - 1) ∧ 0 ≤ o9 ∧ o9 ≤ n (-1) 0 - 1) ∧ (¬ l9 = o9 ∧ 1 ≤ t9 ∧ t9 ≤ 99) ∧ (True) then if 0 < n l9 12 then n l9 13 else -1 else 0)))) [ob o 10 (shM A 1) (if ((0 ≤ l9 ∧ l9 ≤ n (-1) 0 - 1) ∧ 0 ≤ o9 ∧ o9 ≤ n (-1) 0 - 1) ∧ (¬ l9 = o9 ∧ 1 ≤ t9 ∧ t9 ≤ 99) ∧ (True) then up (up I 0 (thr ((0 ≤ l9 ∧ l9 ≤ n (-1) 0 - 1) ∧ 0 ≤ o9 ∧ o9 ≤ n (-1) 0 - 1) (¬ l9 = o9 ∧ 1 ≤ t9 ∧ t9 ≤ 99) (True))) 20 (rmR (I 20)) else up I 0 (thr ((0 ≤ l9 ∧ l9 ≤ n (-1) 0 - 1) ∧ 0 ≤ o9 ∧ o9 ≤ n (-1) 0 - 1) (¬ l9 = o9 ∧ 1 ≤ t9 ∧ t9 ≤ 99) (True))), fam G A (uN N 1 (if ((0 ≤ l9 ∧ l9 ≤ n (-1) 0 - 1) ∧ 0 ≤ o9 ∧ o9 ≤ n (-1) 0 - 1) ∧ (¬ l9 = o9 ∧ 1 ≤ t9 ∧ t9 ≤ 99) ∧ (True) then un n l9 (bLend (n l9) o9 t9) else n)), ar G 0 (A 19) 10896 10896 (encM (if ((0 ≤ l9 ∧ l9 ≤ n (-1) 0 - 1) ∧ 0 ≤ o9 ∧ o9 ≤ n (-1) 0 - 1) ∧ (¬ l9 = o9 ∧ 1 ≤ t9 ∧ t9 ≤ 99) ∧ (True) then rmP (I 20) P n else P))] := by
  refine MX_of (lv := [some (.ref o), some (.int (zI l9)), some (.int (zI o9)), some (.int (zI t9)), none]) hK (by decide +kernel) rfl (nle rfl) (fun X C F => ?_)
  have C : OKc G X l RX8 "lend" cX8_lend 5 (some .int) 4 0 0 := C
  have hH := hN.1
  unfold HeadOk at hH
  have hr : rok 1 := Or.inl rfl
  refine x_aload_n C eX8_lend_0 rfl ?_
  refine x_aload_n C eX8_lend_1 rfl ?_
  refine x_iload_n C eX8_lend_2 rfl ?_
  refine x_iload_n C eX8_lend_3 rfl ?_
  refine yV2r [_] [_, _, _] C (s_X8_areTwo hK hr (by (try simp (disch := omega) only [Int.reduceAdd, uN_s, uN_uN, un_s, un_un, un_n, ub_s, ub_n, inc, bStop_n, bDrop_s, bDrop_n, unub_n, nLog_n, nLog_h, Int.sub_add_cancel]); omega) (by (try simp (disch := omega) only [Int.reduceAdd, uN_s, uN_uN, un_s, un_un, un_n, ub_s, ub_n, inc, bStop_n, bDrop_s, bDrop_n, unub_n, nLog_n, nLog_h, Int.sub_add_cancel]); omega) (by (try simp (disch := omega) only [Int.reduceAdd, uN_s, uN_uN, un_s, un_un, un_n, ub_s, ub_n, inc, bStop_n, bDrop_s, bDrop_n, unub_n, nLog_n, nLog_h, Int.sub_add_cancel]); omega)) v_X8_areTwo vv_X8_areTwo s_RX8_338 eX8_lend_4 (fun _ _ h => WF_pick [0, 1, 2] rfl rfl h) (rcv 0 rfl) rfl (nle rfl) (nle rfl) (nle rfl) (nle rfl) rfl ?_
  refine x_iload_n C eX8_lend_7 rfl ?_
  refine x_iload_n C eX8_lend_8 rfl ?_
  refine x_icmp_eq 28 C eX8_lend_9 rfl (by omega) (by omega) (fun h9 => ?_) (fun h9 => ?_)
  · refine x_iconst C eX8_lend_28 ?_
    refine yV2r [_, _] [_, _, _] C (s_X8_passes2v hK ((0 ≤ l9 ∧ l9 ≤ n (-1) 0 - 1) ∧ 0 ≤ o9 ∧ o9 ≤ n (-1) 0 - 1) (¬ l9 = o9 ∧ 1 ≤ t9 ∧ t9 ≤ 99) (by first | rfl | rw [bz_t (by omega)] | rw [bz_f (by omega)]) (by first | rfl | rw [bz_t (by omega)] | rw [bz_f (by omega)])) v_X8_passes2 vv_X8_passes2 s_RX8_302 eX8_lend_29 (fun _ _ h => WF_pick [0, 1, 2] rfl rfl h) (rcv 0 rfl) rfl (nle rfl) (nle rfl) (nle rfl) (nle rfl) rfl ?_
    skip
    refine x_ifb_ne 37 C eX8_lend_32 rfl (fun h32 => ?_) (fun h32 => ?_)
    · have hL := hN.2.2 l9 (by omega) (by omega)
      unfold LineOk at hL
      refine x_aload_n C eX8_lend_37 rfl ?_
      refine yV0v [] [_, _, _] C (s_X8_remember hK (by exact h20)) v_X8_remember vv_X8_remember s_RX8_289 eX8_lend_38 (fun _ _ h => WF_pick [0, 1, 2] rfl rfl h) (rcv 0 rfl) rfl (nle rfl) (nle rfl) (nle rfl) (nle rfl) rfl ?_
      try simp only [show ∀ t, up I 0 t 20 = I 20 from fun _ => rfl]
      refine x_aload_n C eX8_lend_41 rfl ?_
      refine x_iload_n C eX8_lend_42 rfl ?_
      refine yV1r [_] [_, _, _] C (s_X8_lends hK hr (by (try simp (disch := omega) only [Int.reduceAdd, uN_s, uN_uN, un_s, un_un, un_n, ub_s, ub_n, inc, bStop_n, bDrop_s, bDrop_n, unub_n, nLog_n, nLog_h, Int.sub_add_cancel]); omega) (by (try simp (disch := omega) only [Int.reduceAdd, uN_s, uN_uN, un_s, un_un, un_n, ub_s, ub_n, inc, bStop_n, bDrop_s, bDrop_n, unub_n, nLog_n, nLog_h, Int.sub_add_cancel]); omega)) v_X8_lends vv_X8_lends s_RX8_97 eX8_lend_43 (fun _ _ h => WF_pick [0, 1, 2] rfl rfl h) (rcv 0 rfl) rfl (nle rfl) (nle rfl) (nle rfl) (nle rfl) rfl ?_
      refine x_ifb_eq 59 C eX8_lend_46 rfl (fun h46 => ?_) (fun h46 => ?_)
      · refine x_iconst C eX8_lend_59 ?_
        refine x_istore [_, _, _, _, _] C eX8_lend_60 rfl rfl (nlt rfl) ?_
        refine x_aload_n C eX8_lend_62 rfl ?_
        refine x_iload_n C eX8_lend_63 rfl ?_
        refine x_iload_n C eX8_lend_64 rfl ?_
        refine x_iload_n C eX8_lend_65 rfl ?_
        refine yV3v [_] [_, _, _] C (s_X8_lendNow hK hr (by (try simp (disch := omega) only [Int.reduceAdd, uN_s, uN_uN, un_s, un_un, un_n, ub_s, ub_n, inc, bStop_n, bDrop_s, bDrop_n, unub_n, nLog_n, nLog_h, Int.sub_add_cancel]); omega)) v_X8_lendNow vv_X8_lendNow s_RX8_268 eX8_lend_66 (fun _ _ h => WF_pick [0, 1, 2] rfl rfl h) (rcv 0 rfl) rfl (nle rfl) (nle rfl) (nle rfl) (nle rfl) rfl ?_
        skip
        refine x_iload C eX8_lend_69 rfl ?_
        refine x_iret (by first | rfl | exact (narZ (by omega)).1) C F eX8_lend_71 () ?_ trivial (fun cf c h => ?_) (nle rfl) (nle rfl)
        · first
            | (rw [if_neg h32])
            | (rw [if_pos h32, if_pos h46])
            | (rw [if_pos h32, if_neg h46])
        · first
            | (rw [if_neg h32, if_neg h32, if_neg h32]; exact WF_pick [0, 1, 2] rfl rfl h)
            | (rw [if_pos h32, if_pos h32, if_pos h32]; exact WF_pick [0, 1, 2] rfl rfl h)
      · refine x_aload_n C eX8_lend_49 rfl ?_
        refine x_iload_n C eX8_lend_50 rfl ?_
        refine x_bipush C eX8_lend_51 rfl ?_
        refine yV2r [_] [_, _, _] C (s_X8_of hK hr (by (try simp (disch := omega) only [Int.reduceAdd, uN_s, uN_uN, un_s, un_un, un_n, ub_s, ub_n, inc, bStop_n, bDrop_s, bDrop_n, unub_n, nLog_n, nLog_h, Int.sub_add_cancel]); omega) (by (try simp (disch := omega) only [Int.reduceAdd, uN_s, uN_uN, un_s, un_un, un_n, ub_s, ub_n, inc, bStop_n, bDrop_s, bDrop_n, unub_n, nLog_n, nLog_h, Int.sub_add_cancel]); omega)) v_X8_of vv_X8_of s_RX8_64 eX8_lend_53 (fun _ _ h => WF_pick [0, 1, 2] rfl rfl h) (rcv 0 rfl) rfl (nle rfl) (nle rfl) (nle rfl) (nle rfl) rfl ?_
        refine x_goto (pc' := 60) C eX8_lend_56 rfl ?_
        refine x_istore [_, _, _, _, _] C eX8_lend_60 rfl rfl (nlt rfl) ?_
        refine x_aload_n C eX8_lend_62 rfl ?_
        refine x_iload_n C eX8_lend_63 rfl ?_
        refine x_iload_n C eX8_lend_64 rfl ?_
        refine x_iload_n C eX8_lend_65 rfl ?_
        refine yV3v [_] [_, _, _] C (s_X8_lendNow hK hr (by (try simp (disch := omega) only [Int.reduceAdd, uN_s, uN_uN, un_s, un_un, un_n, ub_s, ub_n, inc, bStop_n, bDrop_s, bDrop_n, unub_n, nLog_n, nLog_h, Int.sub_add_cancel]); omega)) v_X8_lendNow vv_X8_lendNow s_RX8_268 eX8_lend_66 (fun _ _ h => WF_pick [0, 1, 2] rfl rfl h) (rcv 0 rfl) rfl (nle rfl) (nle rfl) (nle rfl) (nle rfl) rfl ?_
        skip
        refine x_iload C eX8_lend_69 rfl ?_
        refine x_iret (by first | rfl | exact (narZ (by omega)).1) C F eX8_lend_71 () ?_ trivial (fun cf c h => ?_) (nle rfl) (nle rfl)
        · first
            | (rw [if_neg h32])
            | (rw [if_pos h32, if_pos h46])
            | (rw [if_pos h32, if_neg h46])
        · first
            | (rw [if_neg h32, if_neg h32, if_neg h32]; exact WF_pick [0, 1, 2] rfl rfl h)
            | (rw [if_pos h32, if_pos h32, if_pos h32]; exact WF_pick [0, 1, 2] rfl rfl h)
    · refine x_iconst C eX8_lend_35 ?_
      refine x_iret (by first | rfl | exact (narZ (by omega)).1) C F eX8_lend_36 () ?_ trivial (fun cf c h => ?_) (nle rfl) (nle rfl)
      · rw [if_neg h32]
      · first
          | (rw [if_neg h32, if_neg h32, if_neg h32]; exact WF_pick [0, 1, 2] rfl rfl h)
          | (rw [if_pos h32, if_pos h32, if_pos h32]; exact WF_pick [0, 1, 2] rfl rfl h)
  · refine x_iload_n C eX8_lend_12 rfl ?_
    refine x_i2l C eX8_lend_13 (by omega) ?_
    refine x_lconst (v := 1) C eX8_lend_14 rfl ?_
    refine x_ldc2 C eX8_lend_15 k_RX8_353 ?_
    refine yS3r [_, _, _] [_, _, _] C (s_X8_in hK (by (try simp (disch := omega) only [Int.reduceAdd, uN_s, uN_uN, un_s, un_un, un_n, ub_s, ub_n, inc, bStop_n, bDrop_s, bDrop_n, unub_n, nLog_n, nLog_h, Int.sub_add_cancel]); omega)) v_X8_in vs_X8_in s_RX8_72 eX8_lend_18 (fun _ _ h => WF_pick [0, 1, 2] rfl rfl h) rfl (nle rfl) (nle rfl) (nle rfl) (nle rfl) rfl ?_
    refine x_ifb_eq 28 C eX8_lend_21 rfl (fun h21 => ?_) (fun h21 => ?_)
    · refine x_iconst C eX8_lend_28 ?_
      refine yV2r [_, _] [_, _, _] C (s_X8_passes2v hK ((0 ≤ l9 ∧ l9 ≤ n (-1) 0 - 1) ∧ 0 ≤ o9 ∧ o9 ≤ n (-1) 0 - 1) (¬ l9 = o9 ∧ 1 ≤ t9 ∧ t9 ≤ 99) (by first | rfl | rw [bz_t (by omega)] | rw [bz_f (by omega)]) (by first | rfl | rw [bz_t (by omega)] | rw [bz_f (by omega)])) v_X8_passes2 vv_X8_passes2 s_RX8_302 eX8_lend_29 (fun _ _ h => WF_pick [0, 1, 2] rfl rfl h) (rcv 0 rfl) rfl (nle rfl) (nle rfl) (nle rfl) (nle rfl) rfl ?_
      skip
      refine x_ifb_ne 37 C eX8_lend_32 rfl (fun h32 => ?_) (fun h32 => ?_)
      · have hL := hN.2.2 l9 (by omega) (by omega)
        unfold LineOk at hL
        refine x_aload_n C eX8_lend_37 rfl ?_
        refine yV0v [] [_, _, _] C (s_X8_remember hK (by exact h20)) v_X8_remember vv_X8_remember s_RX8_289 eX8_lend_38 (fun _ _ h => WF_pick [0, 1, 2] rfl rfl h) (rcv 0 rfl) rfl (nle rfl) (nle rfl) (nle rfl) (nle rfl) rfl ?_
        try simp only [show ∀ t, up I 0 t 20 = I 20 from fun _ => rfl]
        refine x_aload_n C eX8_lend_41 rfl ?_
        refine x_iload_n C eX8_lend_42 rfl ?_
        refine yV1r [_] [_, _, _] C (s_X8_lends hK hr (by (try simp (disch := omega) only [Int.reduceAdd, uN_s, uN_uN, un_s, un_un, un_n, ub_s, ub_n, inc, bStop_n, bDrop_s, bDrop_n, unub_n, nLog_n, nLog_h, Int.sub_add_cancel]); omega) (by (try simp (disch := omega) only [Int.reduceAdd, uN_s, uN_uN, un_s, un_un, un_n, ub_s, ub_n, inc, bStop_n, bDrop_s, bDrop_n, unub_n, nLog_n, nLog_h, Int.sub_add_cancel]); omega)) v_X8_lends vv_X8_lends s_RX8_97 eX8_lend_43 (fun _ _ h => WF_pick [0, 1, 2] rfl rfl h) (rcv 0 rfl) rfl (nle rfl) (nle rfl) (nle rfl) (nle rfl) rfl ?_
        refine x_ifb_eq 59 C eX8_lend_46 rfl (fun h46 => ?_) (fun h46 => ?_)
        · refine x_iconst C eX8_lend_59 ?_
          refine x_istore [_, _, _, _, _] C eX8_lend_60 rfl rfl (nlt rfl) ?_
          refine x_aload_n C eX8_lend_62 rfl ?_
          refine x_iload_n C eX8_lend_63 rfl ?_
          refine x_iload_n C eX8_lend_64 rfl ?_
          refine x_iload_n C eX8_lend_65 rfl ?_
          refine yV3v [_] [_, _, _] C (s_X8_lendNow hK hr (by (try simp (disch := omega) only [Int.reduceAdd, uN_s, uN_uN, un_s, un_un, un_n, ub_s, ub_n, inc, bStop_n, bDrop_s, bDrop_n, unub_n, nLog_n, nLog_h, Int.sub_add_cancel]); omega)) v_X8_lendNow vv_X8_lendNow s_RX8_268 eX8_lend_66 (fun _ _ h => WF_pick [0, 1, 2] rfl rfl h) (rcv 0 rfl) rfl (nle rfl) (nle rfl) (nle rfl) (nle rfl) rfl ?_
          skip
          refine x_iload C eX8_lend_69 rfl ?_
          refine x_iret (by first | rfl | exact (narZ (by omega)).1) C F eX8_lend_71 () ?_ trivial (fun cf c h => ?_) (nle rfl) (nle rfl)
          · first
              | (rw [if_neg h32])
              | (rw [if_pos h32, if_pos h46])
              | (rw [if_pos h32, if_neg h46])
          · first
              | (rw [if_neg h32, if_neg h32, if_neg h32]; exact WF_pick [0, 1, 2] rfl rfl h)
              | (rw [if_pos h32, if_pos h32, if_pos h32]; exact WF_pick [0, 1, 2] rfl rfl h)
        · refine x_aload_n C eX8_lend_49 rfl ?_
          refine x_iload_n C eX8_lend_50 rfl ?_
          refine x_bipush C eX8_lend_51 rfl ?_
          refine yV2r [_] [_, _, _] C (s_X8_of hK hr (by (try simp (disch := omega) only [Int.reduceAdd, uN_s, uN_uN, un_s, un_un, un_n, ub_s, ub_n, inc, bStop_n, bDrop_s, bDrop_n, unub_n, nLog_n, nLog_h, Int.sub_add_cancel]); omega) (by (try simp (disch := omega) only [Int.reduceAdd, uN_s, uN_uN, un_s, un_un, un_n, ub_s, ub_n, inc, bStop_n, bDrop_s, bDrop_n, unub_n, nLog_n, nLog_h, Int.sub_add_cancel]); omega)) v_X8_of vv_X8_of s_RX8_64 eX8_lend_53 (fun _ _ h => WF_pick [0, 1, 2] rfl rfl h) (rcv 0 rfl) rfl (nle rfl) (nle rfl) (nle rfl) (nle rfl) rfl ?_
          refine x_goto (pc' := 60) C eX8_lend_56 rfl ?_
          refine x_istore [_, _, _, _, _] C eX8_lend_60 rfl rfl (nlt rfl) ?_
          refine x_aload_n C eX8_lend_62 rfl ?_
          refine x_iload_n C eX8_lend_63 rfl ?_
          refine x_iload_n C eX8_lend_64 rfl ?_
          refine x_iload_n C eX8_lend_65 rfl ?_
          refine yV3v [_] [_, _, _] C (s_X8_lendNow hK hr (by (try simp (disch := omega) only [Int.reduceAdd, uN_s, uN_uN, un_s, un_un, un_n, ub_s, ub_n, inc, bStop_n, bDrop_s, bDrop_n, unub_n, nLog_n, nLog_h, Int.sub_add_cancel]); omega)) v_X8_lendNow vv_X8_lendNow s_RX8_268 eX8_lend_66 (fun _ _ h => WF_pick [0, 1, 2] rfl rfl h) (rcv 0 rfl) rfl (nle rfl) (nle rfl) (nle rfl) (nle rfl) rfl ?_
          skip
          refine x_iload C eX8_lend_69 rfl ?_
          refine x_iret (by first | rfl | exact (narZ (by omega)).1) C F eX8_lend_71 () ?_ trivial (fun cf c h => ?_) (nle rfl) (nle rfl)
          · first
              | (rw [if_neg h32])
              | (rw [if_pos h32, if_pos h46])
              | (rw [if_pos h32, if_neg h46])
          · first
              | (rw [if_neg h32, if_neg h32, if_neg h32]; exact WF_pick [0, 1, 2] rfl rfl h)
              | (rw [if_pos h32, if_pos h32, if_pos h32]; exact WF_pick [0, 1, 2] rfl rfl h)
      · refine x_iconst C eX8_lend_35 ?_
        refine x_iret (by first | rfl | exact (narZ (by omega)).1) C F eX8_lend_36 () ?_ trivial (fun cf c h => ?_) (nle rfl) (nle rfl)
        · rw [if_neg h32]
        · first
            | (rw [if_neg h32, if_neg h32, if_neg h32]; exact WF_pick [0, 1, 2] rfl rfl h)
            | (rw [if_pos h32, if_pos h32, if_pos h32]; exact WF_pick [0, 1, 2] rfl rfl h)
    · refine x_iconst C eX8_lend_24 ?_
      refine x_goto (pc' := 29) C eX8_lend_25 rfl ?_
      refine yV2r [_, _] [_, _, _] C (s_X8_passes2v hK ((0 ≤ l9 ∧ l9 ≤ n (-1) 0 - 1) ∧ 0 ≤ o9 ∧ o9 ≤ n (-1) 0 - 1) (¬ l9 = o9 ∧ 1 ≤ t9 ∧ t9 ≤ 99) (by first | rfl | rw [bz_t (by omega)] | rw [bz_f (by omega)]) (by first | rfl | rw [bz_t (by omega)] | rw [bz_f (by omega)])) v_X8_passes2 vv_X8_passes2 s_RX8_302 eX8_lend_29 (fun _ _ h => WF_pick [0, 1, 2] rfl rfl h) (rcv 0 rfl) rfl (nle rfl) (nle rfl) (nle rfl) (nle rfl) rfl ?_
      skip
      refine x_ifb_ne 37 C eX8_lend_32 rfl (fun h32 => ?_) (fun h32 => ?_)
      · have hL := hN.2.2 l9 (by omega) (by omega)
        unfold LineOk at hL
        refine x_aload_n C eX8_lend_37 rfl ?_
        refine yV0v [] [_, _, _] C (s_X8_remember hK (by exact h20)) v_X8_remember vv_X8_remember s_RX8_289 eX8_lend_38 (fun _ _ h => WF_pick [0, 1, 2] rfl rfl h) (rcv 0 rfl) rfl (nle rfl) (nle rfl) (nle rfl) (nle rfl) rfl ?_
        try simp only [show ∀ t, up I 0 t 20 = I 20 from fun _ => rfl]
        refine x_aload_n C eX8_lend_41 rfl ?_
        refine x_iload_n C eX8_lend_42 rfl ?_
        refine yV1r [_] [_, _, _] C (s_X8_lends hK hr (by (try simp (disch := omega) only [Int.reduceAdd, uN_s, uN_uN, un_s, un_un, un_n, ub_s, ub_n, inc, bStop_n, bDrop_s, bDrop_n, unub_n, nLog_n, nLog_h, Int.sub_add_cancel]); omega) (by (try simp (disch := omega) only [Int.reduceAdd, uN_s, uN_uN, un_s, un_un, un_n, ub_s, ub_n, inc, bStop_n, bDrop_s, bDrop_n, unub_n, nLog_n, nLog_h, Int.sub_add_cancel]); omega)) v_X8_lends vv_X8_lends s_RX8_97 eX8_lend_43 (fun _ _ h => WF_pick [0, 1, 2] rfl rfl h) (rcv 0 rfl) rfl (nle rfl) (nle rfl) (nle rfl) (nle rfl) rfl ?_
        refine x_ifb_eq 59 C eX8_lend_46 rfl (fun h46 => ?_) (fun h46 => ?_)
        · refine x_iconst C eX8_lend_59 ?_
          refine x_istore [_, _, _, _, _] C eX8_lend_60 rfl rfl (nlt rfl) ?_
          refine x_aload_n C eX8_lend_62 rfl ?_
          refine x_iload_n C eX8_lend_63 rfl ?_
          refine x_iload_n C eX8_lend_64 rfl ?_
          refine x_iload_n C eX8_lend_65 rfl ?_
          refine yV3v [_] [_, _, _] C (s_X8_lendNow hK hr (by (try simp (disch := omega) only [Int.reduceAdd, uN_s, uN_uN, un_s, un_un, un_n, ub_s, ub_n, inc, bStop_n, bDrop_s, bDrop_n, unub_n, nLog_n, nLog_h, Int.sub_add_cancel]); omega)) v_X8_lendNow vv_X8_lendNow s_RX8_268 eX8_lend_66 (fun _ _ h => WF_pick [0, 1, 2] rfl rfl h) (rcv 0 rfl) rfl (nle rfl) (nle rfl) (nle rfl) (nle rfl) rfl ?_
          skip
          refine x_iload C eX8_lend_69 rfl ?_
          refine x_iret (by first | rfl | exact (narZ (by omega)).1) C F eX8_lend_71 () ?_ trivial (fun cf c h => ?_) (nle rfl) (nle rfl)
          · first
              | (rw [if_neg h32])
              | (rw [if_pos h32, if_pos h46])
              | (rw [if_pos h32, if_neg h46])
          · first
              | (rw [if_neg h32, if_neg h32, if_neg h32]; exact WF_pick [0, 1, 2] rfl rfl h)
              | (rw [if_pos h32, if_pos h32, if_pos h32]; exact WF_pick [0, 1, 2] rfl rfl h)
        · refine x_aload_n C eX8_lend_49 rfl ?_
          refine x_iload_n C eX8_lend_50 rfl ?_
          refine x_bipush C eX8_lend_51 rfl ?_
          refine yV2r [_] [_, _, _] C (s_X8_of hK hr (by (try simp (disch := omega) only [Int.reduceAdd, uN_s, uN_uN, un_s, un_un, un_n, ub_s, ub_n, inc, bStop_n, bDrop_s, bDrop_n, unub_n, nLog_n, nLog_h, Int.sub_add_cancel]); omega) (by (try simp (disch := omega) only [Int.reduceAdd, uN_s, uN_uN, un_s, un_un, un_n, ub_s, ub_n, inc, bStop_n, bDrop_s, bDrop_n, unub_n, nLog_n, nLog_h, Int.sub_add_cancel]); omega)) v_X8_of vv_X8_of s_RX8_64 eX8_lend_53 (fun _ _ h => WF_pick [0, 1, 2] rfl rfl h) (rcv 0 rfl) rfl (nle rfl) (nle rfl) (nle rfl) (nle rfl) rfl ?_
          refine x_goto (pc' := 60) C eX8_lend_56 rfl ?_
          refine x_istore [_, _, _, _, _] C eX8_lend_60 rfl rfl (nlt rfl) ?_
          refine x_aload_n C eX8_lend_62 rfl ?_
          refine x_iload_n C eX8_lend_63 rfl ?_
          refine x_iload_n C eX8_lend_64 rfl ?_
          refine x_iload_n C eX8_lend_65 rfl ?_
          refine yV3v [_] [_, _, _] C (s_X8_lendNow hK hr (by (try simp (disch := omega) only [Int.reduceAdd, uN_s, uN_uN, un_s, un_un, un_n, ub_s, ub_n, inc, bStop_n, bDrop_s, bDrop_n, unub_n, nLog_n, nLog_h, Int.sub_add_cancel]); omega)) v_X8_lendNow vv_X8_lendNow s_RX8_268 eX8_lend_66 (fun _ _ h => WF_pick [0, 1, 2] rfl rfl h) (rcv 0 rfl) rfl (nle rfl) (nle rfl) (nle rfl) (nle rfl) rfl ?_
          skip
          refine x_iload C eX8_lend_69 rfl ?_
          refine x_iret (by first | rfl | exact (narZ (by omega)).1) C F eX8_lend_71 () ?_ trivial (fun cf c h => ?_) (nle rfl) (nle rfl)
          · first
              | (rw [if_neg h32])
              | (rw [if_pos h32, if_pos h46])
              | (rw [if_pos h32, if_neg h46])
          · first
              | (rw [if_neg h32, if_neg h32, if_neg h32]; exact WF_pick [0, 1, 2] rfl rfl h)
              | (rw [if_pos h32, if_pos h32, if_pos h32]; exact WF_pick [0, 1, 2] rfl rfl h)
      · refine x_iconst C eX8_lend_35 ?_
        refine x_iret (by first | rfl | exact (narZ (by omega)).1) C F eX8_lend_36 () ?_ trivial (fun cf c h => ?_) (nle rfl) (nle rfl)
        · rw [if_neg h32]
        · first
            | (rw [if_neg h32, if_neg h32, if_neg h32]; exact WF_pick [0, 1, 2] rfl rfl h)
            | (rw [if_pos h32, if_pos h32, if_pos h32]; exact WF_pick [0, 1, 2] rfl rfl h)

set_option maxHeartbeats 4000000 in
set_option maxRecDepth 100000 in
theorem s_X8_type {G : Gm} {l : Launch} (hK : KG G) {o : Nat} {A : Nat → Nat} {I : Nat → Int} {N : Nat → Net} {n : Net} {b : Int} {l9 v9 t9 : Int} {P : Nat → Net} (hN : NetOk b n) (hb : b ≤ 900000000) (r_l9 : -2147483648 ≤ l9 ∧ l9 < 2147483648) (r_v9 : -2147483648 ≤ v9 ∧ v9 < 2147483648) (r_t9 : -2147483648 ≤ t9 ∧ t9 < 2147483648) (h20 : 0 ≤ I 20 ∧ I 20 ≤ 6) : MD G l yX8_type cX8_type 6 (some .int) 7 0 0 [.ref o, .int (zI l9), .int (zI v9), .int (zI t9)] [ob o 10 (shM A 1) I, fam G A (uN N 1 (n)), ar G 0 (A 19) 10896 10896 (encM (P))] (some (.int (zI (if (0 ≤ l9 ∧ l9 ≤ n (-1) 0 - 1) ∧ ((1 ≤ v9 ∧ v9 ≤ 127) ∧ 1 ≤ t9 ∧ t9 ≤ 60) ∧ (True) then nTypes l9 v9 t9.toNat n l9 (16 + 2) - n l9 (16 + 2) else 0)))) [ob o 10 (shM A 1) (if (0 ≤ l9 ∧ l9 ≤ n (-1) 0 - 1) ∧ ((1 ≤ v9 ∧ v9 ≤ 127) ∧ 1 ≤ t9 ∧ t9 ≤ 60) ∧ (True) then up (up I 0 (thr (0 ≤ l9 ∧ l9 ≤ n (-1) 0 - 1) ((1 ≤ v9 ∧ v9 ≤ 127) ∧ 1 ≤ t9 ∧ t9 ≤ 60) (True))) 20 (rmR (I 20)) else up I 0 (thr (0 ≤ l9 ∧ l9 ≤ n (-1) 0 - 1) ((1 ≤ v9 ∧ v9 ≤ 127) ∧ 1 ≤ t9 ∧ t9 ≤ 60) (True))), fam G A (uN N 1 (if (0 ≤ l9 ∧ l9 ≤ n (-1) 0 - 1) ∧ ((1 ≤ v9 ∧ v9 ≤ 127) ∧ 1 ≤ t9 ∧ t9 ≤ 60) ∧ (True) then nTypes l9 v9 t9.toNat n else n)), ar G 0 (A 19) 10896 10896 (encM (if (0 ≤ l9 ∧ l9 ≤ n (-1) 0 - 1) ∧ ((1 ≤ v9 ∧ v9 ≤ 127) ∧ 1 ≤ t9 ∧ t9 ≤ 60) ∧ (True) then rmP (I 20) P n else P))] := by
  refine MX_of (lv := [some (.ref o), some (.int (zI l9)), some (.int (zI v9)), some (.int (zI t9)), none, none]) hK (by decide +kernel) rfl (nle rfl) (fun X C F => ?_)
  have C : OKc G X l RX8 "type" cX8_type 6 (some .int) 7 0 0 := C
  have hH := hN.1
  unfold HeadOk at hH
  have hr : rok 1 := Or.inl rfl
  have loop : (0 ≤ l9 ∧ l9 ≤ n (-1) 0 - 1) ∧ ((1 ≤ v9 ∧ v9 ≤ 127) ∧ 1 ≤ t9 ∧ t9 ≤ 60) ∧ (True) → ∀ (f k : Nat), (k : Int) ≤ t9 → t9 < k + f → WX G X 0 0 [ob o 10 (shM A 1) (up (up I 0 (thr (0 ≤ l9 ∧ l9 ≤ n (-1) 0 - 1) ((1 ≤ v9 ∧ v9 ≤ 127) ∧ 1 ≤ t9 ∧ t9 ≤ 60) (True))) 20 (rmR (I 20))), fam G A (uN N 1 (nTypes l9 v9 k n)), ar G 0 (A 19) 10896 10896 (encM (rmP (I 20) P n))] 34 [some (.ref o), some (.int (zI l9)), some (.int (zI v9)), some (.int (zI t9)), some (.int (zI (n l9 (16 + 2)))), some (.int (zI k))] [] := by
    intro hP f
    induction f with
    | zero => intro k h0 h1; exfalso; omega
    | succ f ih =>
      intro k h0 h1
      have hD := nTypes_ok hN (l := l9) (v := v9) ⟨by omega, by omega⟩ ⟨by omega, by omega⟩ k
      have hL := hD.1.2.2 l9 (by omega) (by omega)
      unfold LineOk at hL
      refine x_iload C eX8_type_34 rfl ?_
      refine x_iload_n C eX8_type_36 rfl ?_
      refine x_icmp_ge 52 C eX8_type_37 rfl (by omega) (by omega) (fun h37 => ?_) (fun h37 => ?_)
      · refine x_aload_n C eX8_type_52 rfl ?_
        refine x_iload_n C eX8_type_53 rfl ?_
        refine x_iconst C eX8_type_54 ?_
        refine yV2r [_] [_, _, _] C (s_X8_counted hK hr (by omega) (by omega)) v_X8_counted vv_X8_counted s_RX8_111 eX8_type_55 (fun _ _ h => WF_pick [0, 1, 2] rfl rfl h) (rcv 0 rfl) rfl (nle rfl) (nle rfl) (nle rfl) (nle rfl) rfl ?_
        skip
        refine x_iload C eX8_type_58 rfl ?_
        refine x_isub C eX8_type_60 ?_
        refine x_iret (by first | rfl | exact (narZ (by omega)).1) C F eX8_type_61 () ?_ trivial (fun cf c h => ?_) (nle rfl) (nle rfl)
        · rw [if_pos hP, show t9.toNat = k by omega]
        · rw [if_pos hP, if_pos hP, if_pos hP, show t9.toNat = k by omega]
          exact WF_pick [0, 1, 2] rfl rfl h
      · refine x_aload_n C eX8_type_40 rfl ?_
        refine x_iload_n C eX8_type_41 rfl ?_
        refine x_iload_n C eX8_type_42 rfl ?_
        refine yV2v [_] [_, _, _] C (s_X8_typeOne hK hr (by omega) (by omega) (by omega)) v_X8_typeOne vv_X8_typeOne s_RX8_286 eX8_type_43 (fun _ _ h => WF_pick [0, 1, 2] rfl rfl h) (rcv 0 rfl) rfl (nle rfl) (nle rfl) (nle rfl) (nle rfl) rfl ?_
        skip
        refine x_iinc [_, _, _, _, _, _] C eX8_type_46 rfl rfl rfl ?_
        refine x_goto (pc' := 34) C eX8_type_49 rfl ?_
        exact ih (k + 1) (by omega) (by omega)
  refine x_aload_n C eX8_type_0 rfl ?_
  refine x_aload_n C eX8_type_1 rfl ?_
  refine x_iload_n C eX8_type_2 rfl ?_
  refine yV1r [_] [_, _, _] C (s_X8_isLine hK hr (by (try simp (disch := omega) only [Int.reduceAdd, uN_s, uN_uN, un_s, un_un, un_n, ub_s, ub_n, inc, bStop_n, bDrop_s, bDrop_n, unub_n, nLog_n, nLog_h, Int.sub_add_cancel]); omega) (by (try simp (disch := omega) only [Int.reduceAdd, uN_s, uN_uN, un_s, un_un, un_n, ub_s, ub_n, inc, bStop_n, bDrop_s, bDrop_n, unub_n, nLog_n, nLog_h, Int.sub_add_cancel]); omega)) v_X8_isLine vv_X8_isLine s_RX8_299 eX8_type_3 (fun _ _ h => WF_pick [0, 1, 2] rfl rfl h) (rcv 0 rfl) rfl (nle rfl) (nle rfl) (nle rfl) (nle rfl) rfl ?_
  refine x_iload_n C eX8_type_6 rfl ?_
  refine x_iload_n C eX8_type_7 rfl ?_
  refine yS2r [_, _, _] [_, _, _] C (s_X8_areBytes hK (by (try simp (disch := omega) only [Int.reduceAdd, uN_s, uN_uN, un_s, un_un, un_n, ub_s, ub_n, inc, bStop_n, bDrop_s, bDrop_n, unub_n, nLog_n, nLog_h, Int.sub_add_cancel]); omega)) v_X8_areBytes vs_X8_areBytes s_RX8_348 eX8_type_8 (fun _ _ h => WF_pick [0, 1, 2] rfl rfl h) rfl (nle rfl) (nle rfl) (nle rfl) (nle rfl) rfl ?_
  refine yV2r [_, _] [_, _, _] C (s_X8_passes2v hK (0 ≤ l9 ∧ l9 ≤ n (-1) 0 - 1) ((1 ≤ v9 ∧ v9 ≤ 127) ∧ 1 ≤ t9 ∧ t9 ≤ 60) (by first | rfl | rw [bz_t (by omega)] | rw [bz_f (by omega)]) (by first | rfl | rw [bz_t (by omega)] | rw [bz_f (by omega)])) v_X8_passes2 vv_X8_passes2 s_RX8_302 eX8_type_11 (fun _ _ h => WF_pick [0, 1, 2] rfl rfl h) (rcv 0 rfl) rfl (nle rfl) (nle rfl) (nle rfl) (nle rfl) rfl ?_
  skip
  refine x_ifb_ne 19 C eX8_type_14 rfl (fun h14 => ?_) (fun h14 => ?_)
  · refine x_aload_n C eX8_type_19 rfl ?_
    refine yV0v [] [_, _, _] C (s_X8_remember hK (by exact h20)) v_X8_remember vv_X8_remember s_RX8_289 eX8_type_20 (fun _ _ h => WF_pick [0, 1, 2] rfl rfl h) (rcv 0 rfl) rfl (nle rfl) (nle rfl) (nle rfl) (nle rfl) rfl ?_
    try simp only [show ∀ t, up I 0 t 20 = I 20 from fun _ => rfl]
    refine x_aload_n C eX8_type_23 rfl ?_
    refine x_iload_n C eX8_type_24 rfl ?_
    refine x_iconst C eX8_type_25 ?_
    refine yV2r [_] [_, _, _] C (s_X8_counted hK hr (by (try simp (disch := omega) only [Int.reduceAdd, uN_s, uN_uN, un_s, un_un, un_n, ub_s, ub_n, inc, bStop_n, bDrop_s, bDrop_n, unub_n, nLog_n, nLog_h, Int.sub_add_cancel]); omega) (by (try simp (disch := omega) only [Int.reduceAdd, uN_s, uN_uN, un_s, un_un, un_n, ub_s, ub_n, inc, bStop_n, bDrop_s, bDrop_n, unub_n, nLog_n, nLog_h, Int.sub_add_cancel]); omega)) v_X8_counted vv_X8_counted s_RX8_111 eX8_type_26 (fun _ _ h => WF_pick [0, 1, 2] rfl rfl h) (rcv 0 rfl) rfl (nle rfl) (nle rfl) (nle rfl) (nle rfl) rfl ?_
    refine x_istore [_, _, _, _, _, _] C eX8_type_29 rfl rfl (nlt rfl) ?_
    refine x_iconst C eX8_type_31 ?_
    refine x_istore [_, _, _, _, _, _] C eX8_type_32 rfl rfl (nlt rfl) ?_
    exact loop h14 70 0 (by omega) (by omega)
  · refine x_iconst C eX8_type_17 ?_
    refine x_iret (by first | rfl | exact (narZ (by omega)).1) C F eX8_type_18 () ?_ trivial (fun cf c h => ?_) (nle rfl) (nle rfl)
    · rw [if_neg h14]
    · first
        | (rw [if_neg h14, if_neg h14, if_neg h14]; exact WF_pick [0, 1, 2] rfl rfl h)
        | (rw [if_pos h14, if_pos h14, if_pos h14]; exact WF_pick [0, 1, 2] rfl rfl h)

set_option maxHeartbeats 4000000 in
set_option maxRecDepth 100000 in
theorem s_X8_reply {G : Gm} {l : Launch} (hK : KG G) {o : Nat} {A : Nat → Nat} {I : Nat → Int} {N : Nat → Net} {n : Net} {b : Int} {l9 v9 t9 : Int} {P : Nat → Net} (hN : NetOk b n) (hb : b ≤ 900000000) (r_l9 : -2147483648 ≤ l9 ∧ l9 < 2147483648) (r_v9 : -2147483648 ≤ v9 ∧ v9 < 2147483648) (r_t9 : -2147483648 ≤ t9 ∧ t9 < 2147483648) (h20 : 0 ≤ I 20 ∧ I 20 ≤ 6) : MD G l yX8_reply cX8_reply 6 (some .int) 7 0 0 [.ref o, .int (zI l9), .int (zI v9), .int (zI t9)] [ob o 10 (shM A 1) I, fam G A (uN N 1 (n)), ar G 0 (A 19) 10896 10896 (encM (P))] (some (.int (zI (if (0 ≤ l9 ∧ l9 ≤ n (-1) 0 - 1) ∧ ((1 ≤ v9 ∧ v9 ≤ 127) ∧ 1 ≤ t9 ∧ t9 ≤ 60) ∧ (True) then nOffers l9 v9 t9.toNat n l9 (16 + 6) - n l9 (16 + 6) else 0)))) [ob o 10 (shM A 1) (if (0 ≤ l9 ∧ l9 ≤ n (-1) 0 - 1) ∧ ((1 ≤ v9 ∧ v9 ≤ 127) ∧ 1 ≤ t9 ∧ t9 ≤ 60) ∧ (True) then up (up I 0 (thr (0 ≤ l9 ∧ l9 ≤ n (-1) 0 - 1) ((1 ≤ v9 ∧ v9 ≤ 127) ∧ 1 ≤ t9 ∧ t9 ≤ 60) (True))) 20 (rmR (I 20)) else up I 0 (thr (0 ≤ l9 ∧ l9 ≤ n (-1) 0 - 1) ((1 ≤ v9 ∧ v9 ≤ 127) ∧ 1 ≤ t9 ∧ t9 ≤ 60) (True))), fam G A (uN N 1 (if (0 ≤ l9 ∧ l9 ≤ n (-1) 0 - 1) ∧ ((1 ≤ v9 ∧ v9 ≤ 127) ∧ 1 ≤ t9 ∧ t9 ≤ 60) ∧ (True) then nOffers l9 v9 t9.toNat n else n)), ar G 0 (A 19) 10896 10896 (encM (if (0 ≤ l9 ∧ l9 ≤ n (-1) 0 - 1) ∧ ((1 ≤ v9 ∧ v9 ≤ 127) ∧ 1 ≤ t9 ∧ t9 ≤ 60) ∧ (True) then rmP (I 20) P n else P))] := by
  refine MX_of (lv := [some (.ref o), some (.int (zI l9)), some (.int (zI v9)), some (.int (zI t9)), none, none]) hK (by decide +kernel) rfl (nle rfl) (fun X C F => ?_)
  have C : OKc G X l RX8 "reply" cX8_reply 6 (some .int) 7 0 0 := C
  have hH := hN.1
  unfold HeadOk at hH
  have hr : rok 1 := Or.inl rfl
  have loop : (0 ≤ l9 ∧ l9 ≤ n (-1) 0 - 1) ∧ ((1 ≤ v9 ∧ v9 ≤ 127) ∧ 1 ≤ t9 ∧ t9 ≤ 60) ∧ (True) → ∀ (f k : Nat), (k : Int) ≤ t9 → t9 < k + f → WX G X 0 0 [ob o 10 (shM A 1) (up (up I 0 (thr (0 ≤ l9 ∧ l9 ≤ n (-1) 0 - 1) ((1 ≤ v9 ∧ v9 ≤ 127) ∧ 1 ≤ t9 ∧ t9 ≤ 60) (True))) 20 (rmR (I 20))), fam G A (uN N 1 (nOffers l9 v9 k n)), ar G 0 (A 19) 10896 10896 (encM (rmP (I 20) P n))] 35 [some (.ref o), some (.int (zI l9)), some (.int (zI v9)), some (.int (zI t9)), some (.int (zI (n l9 (16 + 6)))), some (.int (zI k))] [] := by
    intro hP f
    induction f with
    | zero => intro k h0 h1; exfalso; omega
    | succ f ih =>
      intro k h0 h1
      have hD := nOffers_ok hN (l := l9) (v := v9) ⟨by omega, by omega⟩ ⟨by omega, by omega⟩ k
      have hL := hD.1.2.2 l9 (by omega) (by omega)
      unfold LineOk at hL
      refine x_iload C eX8_reply_35 rfl ?_
      refine x_iload_n C eX8_reply_37 rfl ?_
      refine x_icmp_ge 53 C eX8_reply_38 rfl (by omega) (by omega) (fun h38 => ?_) (fun h38 => ?_)
      · refine x_aload_n C eX8_reply_53 rfl ?_
        refine x_iload_n C eX8_reply_54 rfl ?_
        refine x_bipush C eX8_reply_55 rfl ?_
        refine yV2r [_] [_, _, _] C (s_X8_counted hK hr (by omega) (by omega)) v_X8_counted vv_X8_counted s_RX8_111 eX8_reply_57 (fun _ _ h => WF_pick [0, 1, 2] rfl rfl h) (rcv 0 rfl) rfl (nle rfl) (nle rfl) (nle rfl) (nle rfl) rfl ?_
        skip
        refine x_iload C eX8_reply_60 rfl ?_
        refine x_isub C eX8_reply_62 ?_
        refine x_iret (by first | rfl | exact (narZ (by omega)).1) C F eX8_reply_63 () ?_ trivial (fun cf c h => ?_) (nle rfl) (nle rfl)
        · rw [if_pos hP, show t9.toNat = k by omega]
        · rw [if_pos hP, if_pos hP, if_pos hP, show t9.toNat = k by omega]
          exact WF_pick [0, 1, 2] rfl rfl h
      · refine x_aload_n C eX8_reply_41 rfl ?_
        refine x_iload_n C eX8_reply_42 rfl ?_
        refine x_iload_n C eX8_reply_43 rfl ?_
        refine yV2v [_] [_, _, _] C (s_X8_offer hK hr (by omega) (by omega)) v_X8_offer vv_X8_offer s_RX8_87 eX8_reply_44 (fun _ _ h => WF_pick [0, 1, 2] rfl rfl h) (rcv 0 rfl) rfl (nle rfl) (nle rfl) (nle rfl) (nle rfl) rfl ?_
        skip
        refine x_iinc [_, _, _, _, _, _] C eX8_reply_47 rfl rfl rfl ?_
        refine x_goto (pc' := 35) C eX8_reply_50 rfl ?_
        exact ih (k + 1) (by omega) (by omega)
  refine x_aload_n C eX8_reply_0 rfl ?_
  refine x_aload_n C eX8_reply_1 rfl ?_
  refine x_iload_n C eX8_reply_2 rfl ?_
  refine yV1r [_] [_, _, _] C (s_X8_isLine hK hr (by (try simp (disch := omega) only [Int.reduceAdd, uN_s, uN_uN, un_s, un_un, un_n, ub_s, ub_n, inc, bStop_n, bDrop_s, bDrop_n, unub_n, nLog_n, nLog_h, Int.sub_add_cancel]); omega) (by (try simp (disch := omega) only [Int.reduceAdd, uN_s, uN_uN, un_s, un_un, un_n, ub_s, ub_n, inc, bStop_n, bDrop_s, bDrop_n, unub_n, nLog_n, nLog_h, Int.sub_add_cancel]); omega)) v_X8_isLine vv_X8_isLine s_RX8_299 eX8_reply_3 (fun _ _ h => WF_pick [0, 1, 2] rfl rfl h) (rcv 0 rfl) rfl (nle rfl) (nle rfl) (nle rfl) (nle rfl) rfl ?_
  refine x_iload_n C eX8_reply_6 rfl ?_
  refine x_iload_n C eX8_reply_7 rfl ?_
  refine yS2r [_, _, _] [_, _, _] C (s_X8_areBytes hK (by (try simp (disch := omega) only [Int.reduceAdd, uN_s, uN_uN, un_s, un_un, un_n, ub_s, ub_n, inc, bStop_n, bDrop_s, bDrop_n, unub_n, nLog_n, nLog_h, Int.sub_add_cancel]); omega)) v_X8_areBytes vs_X8_areBytes s_RX8_348 eX8_reply_8 (fun _ _ h => WF_pick [0, 1, 2] rfl rfl h) rfl (nle rfl) (nle rfl) (nle rfl) (nle rfl) rfl ?_
  refine yV2r [_, _] [_, _, _] C (s_X8_passes2v hK (0 ≤ l9 ∧ l9 ≤ n (-1) 0 - 1) ((1 ≤ v9 ∧ v9 ≤ 127) ∧ 1 ≤ t9 ∧ t9 ≤ 60) (by first | rfl | rw [bz_t (by omega)] | rw [bz_f (by omega)]) (by first | rfl | rw [bz_t (by omega)] | rw [bz_f (by omega)])) v_X8_passes2 vv_X8_passes2 s_RX8_302 eX8_reply_11 (fun _ _ h => WF_pick [0, 1, 2] rfl rfl h) (rcv 0 rfl) rfl (nle rfl) (nle rfl) (nle rfl) (nle rfl) rfl ?_
  skip
  refine x_ifb_ne 19 C eX8_reply_14 rfl (fun h14 => ?_) (fun h14 => ?_)
  · refine x_aload_n C eX8_reply_19 rfl ?_
    refine yV0v [] [_, _, _] C (s_X8_remember hK (by exact h20)) v_X8_remember vv_X8_remember s_RX8_289 eX8_reply_20 (fun _ _ h => WF_pick [0, 1, 2] rfl rfl h) (rcv 0 rfl) rfl (nle rfl) (nle rfl) (nle rfl) (nle rfl) rfl ?_
    try simp only [show ∀ t, up I 0 t 20 = I 20 from fun _ => rfl]
    refine x_aload_n C eX8_reply_23 rfl ?_
    refine x_iload_n C eX8_reply_24 rfl ?_
    refine x_bipush C eX8_reply_25 rfl ?_
    refine yV2r [_] [_, _, _] C (s_X8_counted hK hr (by (try simp (disch := omega) only [Int.reduceAdd, uN_s, uN_uN, un_s, un_un, un_n, ub_s, ub_n, inc, bStop_n, bDrop_s, bDrop_n, unub_n, nLog_n, nLog_h, Int.sub_add_cancel]); omega) (by (try simp (disch := omega) only [Int.reduceAdd, uN_s, uN_uN, un_s, un_un, un_n, ub_s, ub_n, inc, bStop_n, bDrop_s, bDrop_n, unub_n, nLog_n, nLog_h, Int.sub_add_cancel]); omega)) v_X8_counted vv_X8_counted s_RX8_111 eX8_reply_27 (fun _ _ h => WF_pick [0, 1, 2] rfl rfl h) (rcv 0 rfl) rfl (nle rfl) (nle rfl) (nle rfl) (nle rfl) rfl ?_
    refine x_istore [_, _, _, _, _, _] C eX8_reply_30 rfl rfl (nlt rfl) ?_
    refine x_iconst C eX8_reply_32 ?_
    refine x_istore [_, _, _, _, _, _] C eX8_reply_33 rfl rfl (nlt rfl) ?_
    exact loop h14 70 0 (by omega) (by omega)
  · refine x_iconst C eX8_reply_17 ?_
    refine x_iret (by first | rfl | exact (narZ (by omega)).1) C F eX8_reply_18 () ?_ trivial (fun cf c h => ?_) (nle rfl) (nle rfl)
    · rw [if_neg h14]
    · first
        | (rw [if_neg h14, if_neg h14, if_neg h14]; exact WF_pick [0, 1, 2] rfl rfl h)
        | (rw [if_pos h14, if_pos h14, if_pos h14]; exact WF_pick [0, 1, 2] rfl rfl h)

set_option maxHeartbeats 4000000 in
set_option maxRecDepth 100000 in
theorem s_X8_pass {G : Gm} {l : Launch} (hK : KG G) {o : Nat} {A : Nat → Nat} {I : Nat → Int} {N : Nat → Net} {n : Net} {P : Nat → Net} {b : Int} (hN : NetOk b n) (hb : b ≤ 900000000) (h20 : 0 ≤ I 20 ∧ I 20 ≤ 6) : MD G l yX8_pass cX8_pass 1 (some .int) 4 0 0 [.ref o] [ob o 10 (shM A 1) I, fam G A (uN N 1 (n)), ar G 0 (A 19) 10896 10896 (encM (P))] (some (.int (zI (nPass n (-1) 2)))) [ob o 10 (shM A 1) (up (up I 0 0) 20 (rmR (I 20))), fam G A (uN N 1 (nPass n)), ar G 0 (A 19) 10896 10896 (encM (rmP (I 20) P n))] := by
  refine MX_of (lv := [some (.ref o)]) hK (by decide +kernel) rfl (nle rfl) (fun X C F => ?_)
  have C : OKc G X l RX8 "pass" cX8_pass 1 (some .int) 4 0 0 := C
  have hH := hN.1
  unfold HeadOk at hH
  have hT := hN.2.2 (n (-1) 2) (by omega) (by omega)
  unfold LineOk at hT
  have hr : rok 1 := Or.inl rfl
  refine x_aload_n C eX8_pass_0 rfl ?_
  refine x_iconst C eX8_pass_1 ?_
  refine x_putI [_, _, _] 0 C f_RX8_3 eX8_pass_2 rfl rfl rfl ?_
  refine x_aload_n C eX8_pass_5 rfl ?_
  refine yV0v [] [_, _, _] C (s_X8_remember hK (by exact h20)) v_X8_remember vv_X8_remember s_RX8_289 eX8_pass_6 (fun _ _ h => WF_pick [0, 1, 2] rfl rfl h) (rcv 0 rfl) rfl (nle rfl) (nle rfl) (nle rfl) (nle rfl) rfl ?_
  try simp only [show ∀ t, up I 0 t 20 = I 20 from fun _ => rfl]
  refine x_aload_n C eX8_pass_9 rfl ?_
  refine yV0v [_] [_, _, _] C (s_X8_passOn hK hr (by (try simp (disch := omega) only [Int.reduceAdd, uN_s, uN_uN, un_s, un_un, un_n, ub_s, ub_n, inc, bStop_n, bDrop_s, bDrop_n, unub_n, nLog_n, nLog_h, Int.sub_add_cancel]); omega) (by (try simp (disch := omega) only [Int.reduceAdd, uN_s, uN_uN, un_s, un_un, un_n, ub_s, ub_n, inc, bStop_n, bDrop_s, bDrop_n, unub_n, nLog_n, nLog_h, Int.sub_add_cancel]); omega)) v_X8_passOn vv_X8_passOn s_RX8_117 eX8_pass_10 (fun _ _ h => WF_pick [0, 1, 2] rfl rfl h) (rcv 0 rfl) rfl (nle rfl) (nle rfl) (nle rfl) (nle rfl) rfl ?_
  skip
  refine x_aload_n C eX8_pass_13 rfl ?_
  refine x_getR 0 C f_RX8_17 eX8_pass_14 rfl rfl ?_
  refine x_iconst C eX8_pass_17 ?_
  refine x_faldU 1 C eX8_pass_18 rfl (Or.inl rfl) (by omega) ?_
  rw [enc_head _ (by omega)]
  refine x_iret (by first | rfl | exact (narZ (by omega)).1) C F eX8_pass_19 () ?_ trivial (fun cf c h => ?_) (nle rfl) (nle rfl)
  · rfl
  · exact WF_pick [0, 1, 2] rfl rfl h
