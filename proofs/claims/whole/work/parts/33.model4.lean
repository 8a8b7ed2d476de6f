set_option maxHeartbeats 4000000 in
set_option maxRecDepth 100000 in
theorem s_X8_send {G : Gm} {l : Launch} (hK : KG G) {o r : Nat} {A : Nat → Nat} {I : Nat → Int} {N : Nat → Net} {n : Net} {b l9 : Int} (hr : rok r) (hN : NetOk b n) (hb : b ≤ 1000000000) (hl : 0 ≤ l9 ∧ l9 < n (-1) 0) (hp : 0 < n l9 6) : MD G l yX8_send cX8_send 3 none 4 0 0 [.ref o, .int (zI l9)] [ob o 10 (shM A r) I, fam G A (uN N r n)] none [ob o 10 (shM A r) I, fam G A (uN N r (nSend n l9))] := by
  refine MX_of (lv := [some (.ref o), some (.int (zI l9)), none]) hK (by decide +kernel) rfl (nle rfl) (fun X C F => ?_)
  have C : OKc G X l RX8 "send" cX8_send 3 none 4 0 0 := C
  have hH := hN.1
  unfold HeadOk at hH
  have hL9 := hN.2.2 l9 hl.1 hl.2
  have h27 := LineOk_c hL9 (k := 27) (by decide) (by decide)
  have h88 := LineOk_t hL9 (j := 0) (by decide) (by omega)
  rw [show (88 : Int) + 0 = 88 by decide] at h88
  unfold LineOk at hL9
  have gT := nSend2_12 hN hl hp (t := n (-1) 2) (by omega)
  have g0 := nSend2_h (n := n) (l := l9) (w := 0) hl.1 (by decide)
  have g2 := nSend2_h (n := n) (l := l9) (w := 2) hl.1 (by decide)
  have g3 := nSend2_3 n l9
  have g6 := nSend2_6 n l9
  refine x_aload_n C eX8_send_0 rfl ?_
  refine x_getR 0 C f_RX8_24 eX8_send_1 rfl rfl ?_
  refine x_iconst C eX8_send_4 ?_
  refine x_faldU 1 C eX8_send_5 rfl hr (by omega) ?_
  rw [enc_head _ (by omega)]
  try simp (disch := omega) only [Int.reduceAdd, uN_s, uN_uN, un_s, un_un, un_n, ub_s, ub_n, inc, bStop_n, bDrop_s, bDrop_n, unub_n, nLog_n, nLog_h, Int.sub_add_cancel]
  refine x_aload_n C eX8_send_6 rfl ?_
  refine x_iload_n C eX8_send_7 rfl ?_
  refine x_bipush C eX8_send_8 rfl ?_
  refine yV2r [] [_, _] C (s_X8_of hK hr (by (try simp (disch := omega) only [Int.reduceAdd, uN_s, uN_uN, un_s, un_un, un_n, ub_s, ub_n, inc, bStop_n, bDrop_s, bDrop_n, unub_n, nLog_n, nLog_h, Int.sub_add_cancel]); omega) (by (try simp (disch := omega) only [Int.reduceAdd, uN_s, uN_uN, un_s, un_un, un_n, ub_s, ub_n, inc, bStop_n, bDrop_s, bDrop_n, unub_n, nLog_n, nLog_h, Int.sub_add_cancel]); omega)) v_X8_of vv_X8_of s_RX8_64 eX8_send_10 (fun _ _ h => WF_pick [0, 1] rfl rfl h) (rcv 0 rfl) rfl (nle rfl) (nle rfl) (nle rfl) (nle rfl) rfl ?_
  refine x_isub C eX8_send_13 ?_
  refine x_istore_n [_, _, _] C eX8_send_14 rfl rfl (nlt rfl) ?_
  refine x_aload_n C eX8_send_15 rfl ?_
  refine x_iload_n C eX8_send_16 rfl ?_
  refine x_aload_n C eX8_send_17 rfl ?_
  refine x_iload_n C eX8_send_18 rfl ?_
  refine x_bipush C eX8_send_19 rfl ?_
  refine yV2r [] [_, _] C (s_X8_of hK hr (by (try simp (disch := omega) only [Int.reduceAdd, uN_s, uN_uN, un_s, un_un, un_n, ub_s, ub_n, inc, bStop_n, bDrop_s, bDrop_n, unub_n, nLog_n, nLog_h, Int.sub_add_cancel]); omega) (by (try simp (disch := omega) only [Int.reduceAdd, uN_s, uN_uN, un_s, un_un, un_n, ub_s, ub_n, inc, bStop_n, bDrop_s, bDrop_n, unub_n, nLog_n, nLog_h, Int.sub_add_cancel]); omega)) v_X8_of vv_X8_of s_RX8_64 eX8_send_21 (fun _ _ h => WF_pick [0, 1] rfl rfl h) (rcv 0 rfl) rfl (nle rfl) (nle rfl) (nle rfl) (nle rfl) rfl ?_
  refine x_iload_n C eX8_send_24 rfl ?_
  refine yV3v [] [_, _] C (s_X8_log hK hr (by (try simp (disch := omega) only [Int.reduceAdd, uN_s, uN_uN, un_s, un_un, un_n, ub_s, ub_n, inc, bStop_n, bDrop_s, bDrop_n, unub_n, nLog_n, nLog_h, Int.sub_add_cancel]); omega)) v_X8_log vv_X8_log s_RX8_105 eX8_send_25 (fun _ _ h => WF_pick [0, 1] rfl rfl h) (rcv 0 rfl) rfl (nle rfl) (nle rfl) (nle rfl) (nle rfl) rfl ?_
  try simp (disch := omega) only [Int.reduceAdd, uN_s, uN_uN, un_s, un_un, un_n, ub_s, ub_n, inc, bStop_n, bDrop_s, bDrop_n, unub_n, nLog_n, nLog_h, Int.sub_add_cancel]
  refine x_aload_n C eX8_send_28 rfl ?_
  refine x_iload_n C eX8_send_29 rfl ?_
  refine x_bipush C eX8_send_30 rfl ?_
  refine x_bipush C eX8_send_32 rfl ?_
  refine yV3v [] [_, _] C (s_X8_dropFirst hK hr (by (try simp (disch := omega) only [Int.reduceAdd, uN_s, uN_uN, un_s, un_un, un_n, ub_s, ub_n, inc, bStop_n, bDrop_s, bDrop_n, unub_n, nLog_n, nLog_h, Int.sub_add_cancel]); omega) (by (try simp (disch := omega) only [Int.reduceAdd, uN_s, uN_uN, un_s, un_un, un_n, ub_s, ub_n, inc, bStop_n, bDrop_s, bDrop_n, unub_n, nLog_n, nLog_h, Int.sub_add_cancel]); omega) (by (try simp (disch := omega) only [Int.reduceAdd, uN_s, uN_uN, un_s, un_un, un_n, ub_s, ub_n, inc, bStop_n, bDrop_s, bDrop_n, unub_n, nLog_n, nLog_h, Int.sub_add_cancel]); omega) (by (try simp (disch := omega) only [Int.reduceAdd, uN_s, uN_uN, un_s, un_un, un_n, ub_s, ub_n, inc, bStop_n, bDrop_s, bDrop_n, unub_n, nLog_n, nLog_h, Int.sub_add_cancel]); omega)) v_X8_dropFirst vv_X8_dropFirst s_RX8_108 eX8_send_34 (fun _ _ h => WF_pick [0, 1] rfl rfl h) (rcv 0 rfl) rfl (nle rfl) (nle rfl) (nle rfl) (nle rfl) rfl ?_
  try simp (disch := omega) only [Int.reduceAdd, uN_s, uN_uN, un_s, un_un, un_n, ub_s, ub_n, inc, bStop_n, bDrop_s, bDrop_n, unub_n, nLog_n, nLog_h, Int.sub_add_cancel]
  refine x_aload_n C eX8_send_37 rfl ?_
  refine x_iload_n C eX8_send_38 rfl ?_
  refine x_bipush C eX8_send_39 rfl ?_
  refine x_iconst C eX8_send_41 ?_
  refine yV3v [] [_, _] C (s_X8_add hK hr (by (try simp (disch := omega) only [Int.reduceAdd, uN_s, uN_uN, un_s, un_un, un_n, ub_s, ub_n, inc, bStop_n, bDrop_s, bDrop_n, unub_n, nLog_n, nLog_h, Int.sub_add_cancel]); omega) (by (try simp (disch := omega) only [Int.reduceAdd, uN_s, uN_uN, un_s, un_un, un_n, ub_s, ub_n, inc, bStop_n, bDrop_s, bDrop_n, unub_n, nLog_n, nLog_h, Int.sub_add_cancel]); omega)) v_X8_add vv_X8_add s_RX8_60 eX8_send_42 (fun _ _ h => WF_pick [0, 1] rfl rfl h) (rcv 0 rfl) rfl (nle rfl) (nle rfl) (nle rfl) (nle rfl) rfl ?_
  try simp (disch := omega) only [Int.reduceAdd, uN_s, uN_uN, un_s, un_un, un_n, ub_s, ub_n, inc, bStop_n, bDrop_s, bDrop_n, unub_n, nLog_n, nLog_h, Int.sub_add_cancel]
  refine x_aload_n C eX8_send_45 rfl ?_
  refine x_iload_n C eX8_send_46 rfl ?_
  refine x_bipush C eX8_send_47 rfl ?_
  refine x_bipush C eX8_send_49 rfl ?_
  refine yV3v [] [_, _] C (s_X8_dropFirst hK hr (by (try simp (disch := omega) only [Int.reduceAdd, uN_s, uN_uN, un_s, un_un, un_n, ub_s, ub_n, inc, bStop_n, bDrop_s, bDrop_n, unub_n, nLog_n, nLog_h, Int.sub_add_cancel]); omega) (by (try simp (disch := omega) only [Int.reduceAdd, uN_s, uN_uN, un_s, un_un, un_n, ub_s, ub_n, inc, bStop_n, bDrop_s, bDrop_n, unub_n, nLog_n, nLog_h, Int.sub_add_cancel]); omega) (by (try simp (disch := omega) only [Int.reduceAdd, uN_s, uN_uN, un_s, un_un, un_n, ub_s, ub_n, inc, bStop_n, bDrop_s, bDrop_n, unub_n, nLog_n, nLog_h, Int.sub_add_cancel]); omega) (by (try simp (disch := omega) only [Int.reduceAdd, uN_s, uN_uN, un_s, un_un, un_n, ub_s, ub_n, inc, bStop_n, bDrop_s, bDrop_n, unub_n, nLog_n, nLog_h, Int.sub_add_cancel]); omega)) v_X8_dropFirst vv_X8_dropFirst s_RX8_108 eX8_send_51 (fun _ _ h => WF_pick [0, 1] rfl rfl h) (rcv 0 rfl) rfl (nle rfl) (nle rfl) (nle rfl) (nle rfl) rfl ?_
  try simp (disch := omega) only [Int.reduceAdd, uN_s, uN_uN, un_s, un_un, un_n, ub_s, ub_n, inc, bStop_n, bDrop_s, bDrop_n, unub_n, nLog_n, nLog_h, Int.sub_add_cancel]
  refine x_aload_n C eX8_send_54 rfl ?_
  refine x_iload_n C eX8_send_55 rfl ?_
  refine yV1v [] [_, _] C (s_X8_layStop hK hr (by (try simp (disch := omega) only [Int.reduceAdd, uN_s, uN_uN, un_s, un_un, un_n, ub_s, ub_n, inc, bStop_n, bDrop_s, bDrop_n, unub_n, nLog_n, nLog_h, Int.sub_add_cancel]); omega) (by (try simp (disch := omega) only [Int.reduceAdd, uN_s, uN_uN, un_s, un_un, un_n, ub_s, ub_n, inc, bStop_n, bDrop_s, bDrop_n, unub_n, nLog_n, nLog_h, Int.sub_add_cancel]); omega)) v_X8_layStop vv_X8_layStop s_RX8_90 eX8_send_56 (fun _ _ h => WF_pick [0, 1] rfl rfl h) (rcv 0 rfl) rfl (nle rfl) (nle rfl) (nle rfl) (nle rfl) rfl ?_
  try simp (disch := omega) only [Int.reduceAdd, uN_s, uN_uN, un_s, un_un, un_n, ub_s, ub_n, inc, bStop_n, bDrop_s, bDrop_n, unub_n, nLog_n, nLog_h, Int.sub_add_cancel]
  refine x_aload_n C eX8_send_59 rfl ?_
  refine x_iload_n C eX8_send_60 rfl ?_
  refine x_iconst C eX8_send_61 ?_
  refine yV2v [] [_, _] C (s_X8_counts hK hr (by (try simp (disch := omega) only [Int.reduceAdd, uN_s, uN_uN, un_s, un_un, un_n, ub_s, ub_n, inc, bStop_n, bDrop_s, bDrop_n, unub_n, nLog_n, nLog_h, Int.sub_add_cancel]); omega) (by (try simp (disch := omega) only [Int.reduceAdd, uN_s, uN_uN, un_s, un_un, un_n, ub_s, ub_n, inc, bStop_n, bDrop_s, bDrop_n, unub_n, nLog_n, nLog_h, Int.sub_add_cancel]); omega)) v_X8_counts vv_X8_counts s_RX8_79 eX8_send_62 (fun _ _ h => WF_pick [0, 1] rfl rfl h) (rcv 0 rfl) rfl (nle rfl) (nle rfl) (nle rfl) (nle rfl) rfl ?_
  try simp (disch := omega) only [Int.reduceAdd, uN_s, uN_uN, un_s, un_un, un_n, ub_s, ub_n, inc, bStop_n, bDrop_s, bDrop_n, unub_n, nLog_n, nLog_h, Int.sub_add_cancel]
  refine x_aload_n C eX8_send_65 rfl ?_
  refine x_iload_n C eX8_send_66 rfl ?_
  refine x_bipush C eX8_send_67 rfl ?_
  refine x_iload_n C eX8_send_69 rfl ?_
  refine x_aload_n C eX8_send_70 rfl ?_
  refine x_getR 0 C f_RX8_24 eX8_send_71 rfl rfl ?_
  refine x_iconst C eX8_send_74 ?_
  refine x_faldU 1 C eX8_send_75 rfl hr (by omega) ?_
  rw [enc_head _ (by omega)]
  try simp (disch := omega) only [Int.reduceAdd, uN_s, uN_uN, un_s, un_un, un_n, ub_s, ub_n, inc, bStop_n, bDrop_s, bDrop_n, unub_n, nLog_n, nLog_h, Int.sub_add_cancel]
  refine x_icmp_ne 83 C eX8_send_76 rfl (by omega) (by omega) (fun h76 => ?_) (fun h76 => ?_)
  · refine x_iconst C eX8_send_83 ?_
    refine yV3v [] [_, _] C (s_X8_add hK hr (by (try simp (disch := omega) only [Int.reduceAdd, uN_s, uN_uN, un_s, un_un, un_n, ub_s, ub_n, inc, bStop_n, bDrop_s, bDrop_n, unub_n, nLog_n, nLog_h, Int.sub_add_cancel]); omega) (by (try simp (disch := omega) only [Int.reduceAdd, uN_s, uN_uN, un_s, un_un, un_n, ub_s, ub_n, inc, bStop_n, bDrop_s, bDrop_n, unub_n, nLog_n, nLog_h, Int.sub_add_cancel]); omega)) v_X8_add vv_X8_add s_RX8_60 eX8_send_84 (fun _ _ h => WF_pick [0, 1] rfl rfl h) (rcv 0 rfl) rfl (nle rfl) (nle rfl) (nle rfl) (nle rfl) rfl ?_
    try simp (disch := omega) only [Int.reduceAdd, uN_s, uN_uN, un_s, un_un, un_n, ub_s, ub_n, inc, bStop_n, bDrop_s, bDrop_n, unub_n, nLog_n, nLog_h, Int.sub_add_cancel]
    refine x_aload_n C eX8_send_87 rfl ?_
    refine x_iload_n C eX8_send_88 rfl ?_
    refine x_bipush C eX8_send_89 rfl ?_
    refine x_aload_n C eX8_send_91 rfl ?_
    refine x_iload_n C eX8_send_92 rfl ?_
    refine x_bipush C eX8_send_93 rfl ?_
    refine yV2r [] [_, _] C (s_X8_counted hK hr (by (try simp (disch := omega) only [Int.reduceAdd, uN_s, uN_uN, un_s, un_un, un_n, ub_s, ub_n, inc, bStop_n, bDrop_s, bDrop_n, unub_n, nLog_n, nLog_h, Int.sub_add_cancel]); omega) (by (try simp (disch := omega) only [Int.reduceAdd, uN_s, uN_uN, un_s, un_un, un_n, ub_s, ub_n, inc, bStop_n, bDrop_s, bDrop_n, unub_n, nLog_n, nLog_h, Int.sub_add_cancel]); omega)) v_X8_counted vv_X8_counted s_RX8_111 eX8_send_95 (fun _ _ h => WF_pick [0, 1] rfl rfl h) (rcv 0 rfl) rfl (nle rfl) (nle rfl) (nle rfl) (nle rfl) rfl ?_
    try simp (disch := omega) only [Int.reduceAdd, uN_s, uN_uN, un_s, un_un, un_n, ub_s, ub_n, inc, bStop_n, bDrop_s, bDrop_n, unub_n, nLog_n, nLog_h, Int.sub_add_cancel]
    refine x_iload_n C eX8_send_98 rfl ?_
    refine x_max C s_RX8_114 s2_max eX8_send_99 rfl (nle rfl) (nle rfl) (nle rfl) (nle rfl) (by omega) (by omega) ?_
    refine yV3v [] [_, _] C (s_X8_put hK hr (by (try simp (disch := omega) only [Int.reduceAdd, uN_s, uN_uN, un_s, un_un, un_n, ub_s, ub_n, inc, bStop_n, bDrop_s, bDrop_n, unub_n, nLog_n, nLog_h, Int.sub_add_cancel]); omega) (by (try simp (disch := omega) only [Int.reduceAdd, uN_s, uN_uN, un_s, un_un, un_n, ub_s, ub_n, inc, bStop_n, bDrop_s, bDrop_n, unub_n, nLog_n, nLog_h, Int.sub_add_cancel]); omega)) v_X8_put vv_X8_put s_RX8_76 eX8_send_102 (fun _ _ h => WF_pick [0, 1] rfl rfl h) (rcv 0 rfl) rfl (nle rfl) (nle rfl) (nle rfl) (nle rfl) rfl ?_
    try simp (disch := omega) only [Int.reduceAdd, uN_s, uN_uN, un_s, un_un, un_n, ub_s, ub_n, inc, bStop_n, bDrop_s, bDrop_n, unub_n, nLog_n, nLog_h, Int.sub_add_cancel]
    refine x_aload_n C eX8_send_105 rfl ?_
    refine x_iload_n C eX8_send_106 rfl ?_
    refine x_bipush C eX8_send_107 rfl ?_
    refine x_iload_n C eX8_send_109 rfl ?_
    refine yV3v [] [_, _] C (s_X8_add hK hr (by (try simp (disch := omega) only [Int.reduceAdd, uN_s, uN_uN, un_s, un_un, un_n, ub_s, ub_n, inc, bStop_n, bDrop_s, bDrop_n, unub_n, nLog_n, nLog_h, Int.sub_add_cancel]); omega) (by (try simp (disch := omega) only [Int.reduceAdd, uN_s, uN_uN, un_s, un_un, un_n, ub_s, ub_n, inc, bStop_n, bDrop_s, bDrop_n, unub_n, nLog_n, nLog_h, Int.sub_add_cancel]); omega)) v_X8_add vv_X8_add s_RX8_60 eX8_send_110 (fun _ _ h => WF_pick [0, 1] rfl rfl h) (rcv 0 rfl) rfl (nle rfl) (nle rfl) (nle rfl) (nle rfl) rfl ?_
    try simp (disch := omega) only [Int.reduceAdd, uN_s, uN_uN, un_s, un_un, un_n, ub_s, ub_n, inc, bStop_n, bDrop_s, bDrop_n, unub_n, nLog_n, nLog_h, Int.sub_add_cancel]
    refine x_aload_n C eX8_send_113 rfl ?_
    refine x_getR 0 C f_RX8_24 eX8_send_114 rfl rfl ?_
    refine x_iconst C eX8_send_117 ?_
    refine x_dup2 C eX8_send_118 rfl rfl ?_
    refine x_faldU 1 C eX8_send_119 rfl hr (by omega) ?_
    rw [enc_head _ (by omega)]
    try simp (disch := omega) only [Int.reduceAdd, uN_s, uN_uN, un_s, un_un, un_n, ub_s, ub_n, inc, bStop_n, bDrop_s, bDrop_n, unub_n, nLog_n, nLog_h, Int.sub_add_cancel]
    refine x_iconst C eX8_send_120 ?_
    refine x_iadd C eX8_send_121 ?_
    refine x_fastU [_, _] 1 C eX8_send_122 rfl hr (by omega) rfl ?_
    rw [encU_head _ (by omega)]
    try simp (disch := omega) only [Int.reduceAdd, uN_s, uN_uN, un_s, un_un, un_n, ub_s, ub_n, inc, bStop_n, bDrop_s, bDrop_n, unub_n, nLog_n, nLog_h, Int.sub_add_cancel]
    refine x_aload_n C eX8_send_123 rfl ?_
    refine x_getR 0 C f_RX8_24 eX8_send_124 rfl rfl ?_
    refine x_bipush C eX8_send_127 rfl ?_
    refine x_iconst C eX8_send_129 ?_
    refine x_fastU [_, _] 1 C eX8_send_130 rfl hr (by omega) rfl ?_
    rw [encU_head _ (by omega)]
    try simp (disch := omega) only [Int.reduceAdd, uN_s, uN_uN, un_s, un_un, un_n, ub_s, ub_n, inc, bStop_n, bDrop_s, bDrop_n, unub_n, nLog_n, nLog_h, Int.sub_add_cancel]
    refine x_aload_n C eX8_send_131 rfl ?_
    refine x_getR 0 C f_RX8_24 eX8_send_132 rfl rfl ?_
    refine x_iconst C eX8_send_135 ?_
    refine x_dup2 C eX8_send_136 rfl rfl ?_
    refine x_faldU 1 C eX8_send_137 rfl hr (by omega) ?_
    rw [enc_head _ (by omega)]
    try simp (disch := omega) only [Int.reduceAdd, uN_s, uN_uN, un_s, un_un, un_n, ub_s, ub_n, inc, bStop_n, bDrop_s, bDrop_n, unub_n, nLog_n, nLog_h, Int.sub_add_cancel]
    refine x_iconst C eX8_send_138 ?_
    refine x_isub C eX8_send_139 ?_
    refine x_fastU [_, _] 1 C eX8_send_140 rfl hr (by omega) rfl ?_
    rw [encU_head _ (by omega)]
    try simp (disch := omega) only [Int.reduceAdd, uN_s, uN_uN, un_s, un_un, un_n, ub_s, ub_n, inc, bStop_n, bDrop_s, bDrop_n, unub_n, nLog_n, nLog_h, Int.sub_add_cancel]
    refine x_ws [ob o 10 (shM A r) I, fam G A (uN N r (nSend2 n l9))] (by
      intro cf c hw
      unfold nSend2 nSend1 bSend bSend0 nWait
      first
        | (rw [if_pos (by omega)]; simp (disch := omega) only [Int.reduceAdd, uN_s, uN_uN, un_s, un_un, un_n, ub_s, ub_n, inc, bStop_n, bDrop_s, bDrop_n, unub_n, nLog_n, nLog_h, Int.sub_add_cancel] at hw ⊢; exact hw)
        | (rw [if_neg (by omega)]; simp (disch := omega) only [Int.reduceAdd, uN_s, uN_uN, un_s, un_un, un_n, ub_s, ub_n, inc, bStop_n, bDrop_s, bDrop_n, unub_n, nLog_n, nLog_h, Int.sub_add_cancel] at hw ⊢; exact hw)) ?_
    refine x_aload_n C eX8_send_141 rfl ?_
    refine x_getR 0 C f_RX8_24 eX8_send_142 rfl rfl ?_
    refine x_iconst C eX8_send_145 ?_
    refine x_faldU 1 C eX8_send_146 rfl hr (by omega) ?_
    rw [enc_head _ (by omega), g3]
    refine x_if_ne 154 C eX8_send_147 rfl (by omega) (fun h147 => ?_) (fun h147 => ?_)
    · refine x_vret C F eX8_send_154 () rfl trivial (fun cf c h => ?_) (nle rfl) (nle rfl)
      unfold nSend
      first
        | (rw [if_pos (by omega)]; exact WF_pick [0, 1] rfl rfl h)
        | (rw [if_neg (by omega)]; exact WF_pick [0, 1] rfl rfl h)
    · refine x_aload_n C eX8_send_150 rfl ?_
      refine yV0v [] [_, _] C (s_X8_passOn hK hr (by rw [g0, g2, g6]; omega) (by rw [g2]; exact gT)) v_X8_passOn vv_X8_passOn s_RX8_117 eX8_send_151 (fun _ _ h => WF_pick [0, 1] rfl rfl h) (rcv 0 rfl) rfl (nle rfl) (nle rfl) (nle rfl) (nle rfl) rfl ?_
      skip
      refine x_vret C F eX8_send_154 () rfl trivial (fun cf c h => ?_) (nle rfl) (nle rfl)
      unfold nSend
      first
        | (rw [if_pos (by omega)]; exact WF_pick [0, 1] rfl rfl h)
        | (rw [if_neg (by omega)]; exact WF_pick [0, 1] rfl rfl h)
  · refine x_iconst C eX8_send_79 ?_
    refine x_goto (pc' := 84) C eX8_send_80 rfl ?_
    refine yV3v [] [_, _] C (s_X8_add hK hr (by (try simp (disch := omega) only [Int.reduceAdd, uN_s, uN_uN, un_s, un_un, un_n, ub_s, ub_n, inc, bStop_n, bDrop_s, bDrop_n, unub_n, nLog_n, nLog_h, Int.sub_add_cancel]); omega) (by (try simp (disch := omega) only [Int.reduceAdd, uN_s, uN_uN, un_s, un_un, un_n, ub_s, ub_n, inc, bStop_n, bDrop_s, bDrop_n, unub_n, nLog_n, nLog_h, Int.sub_add_cancel]); omega)) v_X8_add vv_X8_add s_RX8_60 eX8_send_84 (fun _ _ h => WF_pick [0, 1] rfl rfl h) (rcv 0 rfl) rfl (nle rfl) (nle rfl) (nle rfl) (nle rfl) rfl ?_
    try simp (disch := omega) only [Int.reduceAdd, uN_s, uN_uN, un_s, un_un, un_n, ub_s, ub_n, inc, bStop_n, bDrop_s, bDrop_n, unub_n, nLog_n, nLog_h, Int.sub_add_cancel]
    refine x_aload_n C eX8_send_87 rfl ?_
    refine x_iload_n C eX8_send_88 rfl ?_
    refine x_bipush C eX8_send_89 rfl ?_
    refine x_aload_n C eX8_send_91 rfl ?_
    refine x_iload_n C eX8_send_92 rfl ?_
    refine x_bipush C eX8_send_93 rfl ?_
    refine yV2r [] [_, _] C (s_X8_counted hK hr (by (try simp (disch := omega) only [Int.reduceAdd, uN_s, uN_uN, un_s, un_un, un_n, ub_s, ub_n, inc, bStop_n, bDrop_s, bDrop_n, unub_n, nLog_n, nLog_h, Int.sub_add_cancel]); omega) (by (try simp (disch := omega) only [Int.reduceAdd, uN_s, uN_uN, un_s, un_un, un_n, ub_s, ub_n, inc, bStop_n, bDrop_s, bDrop_n, unub_n, nLog_n, nLog_h, Int.sub_add_cancel]); omega)) v_X8_counted vv_X8_counted s_RX8_111 eX8_send_95 (fun _ _ h => WF_pick [0, 1] rfl rfl h) (rcv 0 rfl) rfl (nle rfl) (nle rfl) (nle rfl) (nle rfl) rfl ?_
    try simp (disch := omega) only [Int.reduceAdd, uN_s, uN_uN, un_s, un_un, un_n, ub_s, ub_n, inc, bStop_n, bDrop_s, bDrop_n, unub_n, nLog_n, nLog_h, Int.sub_add_cancel]
    refine x_iload_n C eX8_send_98 rfl ?_
    refine x_max C s_RX8_114 s2_max eX8_send_99 rfl (nle rfl) (nle rfl) (nle rfl) (nle rfl) (by omega) (by omega) ?_
    refine yV3v [] [_, _] C (s_X8_put hK hr (by (try simp (disch := omega) only [Int.reduceAdd, uN_s, uN_uN, un_s, un_un, un_n, ub_s, ub_n, inc, bStop_n, bDrop_s, bDrop_n, unub_n, nLog_n, nLog_h, Int.sub_add_cancel]); omega) (by (try simp (disch := omega) only [Int.reduceAdd, uN_s, uN_uN, un_s, un_un, un_n, ub_s, ub_n, inc, bStop_n, bDrop_s, bDrop_n, unub_n, nLog_n, nLog_h, Int.sub_add_cancel]); omega)) v_X8_put vv_X8_put s_RX8_76 eX8_send_102 (fun _ _ h => WF_pick [0, 1] rfl rfl h) (rcv 0 rfl) rfl (nle rfl) (nle rfl) (nle rfl) (nle rfl) rfl ?_
    try simp (disch := omega) only [Int.reduceAdd, uN_s, uN_uN, un_s, un_un, un_n, ub_s, ub_n, inc, bStop_n, bDrop_s, bDrop_n, unub_n, nLog_n, nLog_h, Int.sub_add_cancel]
    refine x_aload_n C eX8_send_105 rfl ?_
    refine x_iload_n C eX8_send_106 rfl ?_
    refine x_bipush C eX8_send_107 rfl ?_
    refine x_iload_n C eX8_send_109 rfl ?_
    refine yV3v [] [_, _] C (s_X8_add hK hr (by (try simp (disch := omega) only [Int.reduceAdd, uN_s, uN_uN, un_s, un_un, un_n, ub_s, ub_n, inc, bStop_n, bDrop_s, bDrop_n, unub_n, nLog_n, nLog_h, Int.sub_add_cancel]); omega) (by (try simp (disch := omega) only [Int.reduceAdd, uN_s, uN_uN, un_s, un_un, un_n, ub_s, ub_n, inc, bStop_n, bDrop_s, bDrop_n, unub_n, nLog_n, nLog_h, Int.sub_add_cancel]); omega)) v_X8_add vv_X8_add s_RX8_60 eX8_send_110 (fun _ _ h => WF_pick [0, 1] rfl rfl h) (rcv 0 rfl) rfl (nle rfl) (nle rfl) (nle rfl) (nle rfl) rfl ?_
    try simp (disch := omega) only [Int.reduceAdd, uN_s, uN_uN, un_s, un_un, un_n, ub_s, ub_n, inc, bStop_n, bDrop_s, bDrop_n, unub_n, nLog_n, nLog_h, Int.sub_add_cancel]
    refine x_aload_n C eX8_send_113 rfl ?_
    refine x_getR 0 C f_RX8_24 eX8_send_114 rfl rfl ?_
    refine x_iconst C eX8_send_117 ?_
    refine x_dup2 C eX8_send_118 rfl rfl ?_
    refine x_faldU 1 C eX8_send_119 rfl hr (by omega) ?_
    rw [enc_head _ (by omega)]
    try simp (disch := omega) only [Int.reduceAdd, uN_s, uN_uN, un_s, un_un, un_n, ub_s, ub_n, inc, bStop_n, bDrop_s, bDrop_n, unub_n, nLog_n, nLog_h, Int.sub_add_cancel]
    refine x_iconst C eX8_send_120 ?_
    refine x_iadd C eX8_send_121 ?_
    refine x_fastU [_, _] 1 C eX8_send_122 rfl hr (by omega) rfl ?_
    rw [encU_head _ (by omega)]
    try simp (disch := omega) only [Int.reduceAdd, uN_s, uN_uN, un_s, un_un, un_n, ub_s, ub_n, inc, bStop_n, bDrop_s, bDrop_n, unub_n, nLog_n, nLog_h, Int.sub_add_cancel]
    refine x_aload_n C eX8_send_123 rfl ?_
    refine x_getR 0 C f_RX8_24 eX8_send_124 rfl rfl ?_
    refine x_bipush C eX8_send_127 rfl ?_
    refine x_iconst C eX8_send_129 ?_
    refine x_fastU [_, _] 1 C eX8_send_130 rfl hr (by omega) rfl ?_
    rw [encU_head _ (by omega)]
    try simp (disch := omega) only [Int.reduceAdd, uN_s, uN_uN, un_s, un_un, un_n, ub_s, ub_n, inc, bStop_n, bDrop_s, bDrop_n, unub_n, nLog_n, nLog_h, Int.sub_add_cancel]
    refine x_aload_n C eX8_send_131 rfl ?_
    refine x_getR 0 C f_RX8_24 eX8_send_132 rfl rfl ?_
    refine x_iconst C eX8_send_135 ?_
    refine x_dup2 C eX8_send_136 rfl rfl ?_
    refine x_faldU 1 C eX8_send_137 rfl hr (by omega) ?_
    rw [enc_head _ (by omega)]
    try simp (disch := omega) only [Int.reduceAdd, uN_s, uN_uN, un_s, un_un, un_n, ub_s, ub_n, inc, bStop_n, bDrop_s, bDrop_n, unub_n, nLog_n, nLog_h, Int.sub_add_cancel]
    refine x_iconst C eX8_send_138 ?_
    refine x_isub C eX8_send_139 ?_
    refine x_fastU [_, _] 1 C eX8_send_140 rfl hr (by omega) rfl ?_
    rw [encU_head _ (by omega)]
    try simp (disch := omega) only [Int.reduceAdd, uN_s, uN_uN, un_s, un_un, un_n, ub_s, ub_n, inc, bStop_n, bDrop_s, bDrop_n, unub_n, nLog_n, nLog_h, Int.sub_add_cancel]
    refine x_ws [ob o 10 (shM A r) I, fam G A (uN N r (nSend2 n l9))] (by
      intro cf c hw
      unfold nSend2 nSend1 bSend bSend0 nWait
      first
        | (rw [if_pos (by omega)]; simp (disch := omega) only [Int.reduceAdd, uN_s, uN_uN, un_s, un_un, un_n, ub_s, ub_n, inc, bStop_n, bDrop_s, bDrop_n, unub_n, nLog_n, nLog_h, Int.sub_add_cancel] at hw ⊢; exact hw)
        | (rw [if_neg (by omega)]; simp (disch := omega) only [Int.reduceAdd, uN_s, uN_uN, un_s, un_un, un_n, ub_s, ub_n, inc, bStop_n, bDrop_s, bDrop_n, unub_n, nLog_n, nLog_h, Int.sub_add_cancel] at hw ⊢; exact hw)) ?_
    refine x_aload_n C eX8_send_141 rfl ?_
    refine x_getR 0 C f_RX8_24 eX8_send_142 rfl rfl ?_
    refine x_iconst C eX8_send_145 ?_
    refine x_faldU 1 C eX8_send_146 rfl hr (by omega) ?_
    rw [enc_head _ (by omega), g3]
    refine x_if_ne 154 C eX8_send_147 rfl (by omega) (fun h147 => ?_) (fun h147 => ?_)
    · refine x_vret C F eX8_send_154 () rfl trivial (fun cf c h => ?_) (nle rfl) (nle rfl)
      unfold nSend
      first
        | (rw [if_pos (by omega)]; exact WF_pick [0, 1] rfl rfl h)
        | (rw [if_neg (by omega)]; exact WF_pick [0, 1] rfl rfl h)
    · refine x_aload_n C eX8_send_150 rfl ?_
      refine yV0v [] [_, _] C (s_X8_passOn hK hr (by rw [g0, g2, g6]; omega) (by rw [g2]; exact gT)) v_X8_passOn vv_X8_passOn s_RX8_117 eX8_send_151 (fun _ _ h => WF_pick [0, 1] rfl rfl h) (rcv 0 rfl) rfl (nle rfl) (nle rfl) (nle rfl) (nle rfl) rfl ?_
      skip
      refine x_vret C F eX8_send_154 () rfl trivial (fun cf c h => ?_) (nle rfl) (nle rfl)
      unfold nSend
      first
        | (rw [if_pos (by omega)]; exact WF_pick [0, 1] rfl rfl h)
        | (rw [if_neg (by omega)]; exact WF_pick [0, 1] rfl rfl h)

set_option maxHeartbeats 4000000 in
set_option maxRecDepth 100000 in
theorem s_X8_deliver {G : Gm} {l : Launch} (hK : KG G) {o r : Nat} {A : Nat → Nat} {I : Nat → Int} {N : Nat → Net} {n : Net} {l9 : Int} (hr : rok r) (hl : 0 ≤ l9 ∧ l9 < 6) (hB : (0 ≤ n l9 9 ∧ n l9 9 ≤ 100) ∧ (0 ≤ n l9 11 ∧ n l9 11 ≤ 1) ∧ (0 ≤ n l9 7 ∧ n l9 7 ≤ 60)) : MD G l yX8_deliver cX8_deliver 2 none 3 0 0 [.ref o, .int (zI l9)] [ob o 10 (shM A r) I, fam G A (uN N r n)] none [ob o 10 (shM A r) I, fam G A (uN N r (un n l9 (bDeliver (n l9))))] := by
  refine MX_of (lv := [some (.ref o), some (.int (zI l9))]) hK (by decide +kernel) rfl (nle rfl) (fun X C F => ?_)
  have C : OKc G X l RX8 "deliver" cX8_deliver 2 none 3 0 0 := C
  refine x_aload_n C eX8_deliver_0 rfl ?_
  refine x_iload_n C eX8_deliver_1 rfl ?_
  refine yV1r [] [_, _] C (s_X8_isHeld hK hr (by (try simp (disch := omega) only [Int.reduceAdd, uN_s, uN_uN, un_s, un_un, un_n, ub_s, ub_n, inc, bStop_n, bDrop_s, bDrop_n, unub_n, nLog_n, nLog_h, Int.sub_add_cancel]); omega) (by (try simp (disch := omega) only [Int.reduceAdd, uN_s, uN_uN, un_s, un_un, un_n, ub_s, ub_n, inc, bStop_n, bDrop_s, bDrop_n, unub_n, nLog_n, nLog_h, Int.sub_add_cancel]); omega)) v_X8_isHeld vv_X8_isHeld s_RX8_83 eX8_deliver_2 (fun _ _ h => WF_pick [0, 1] rfl rfl h) (rcv 0 rfl) rfl (nle rfl) (nle rfl) (nle rfl) (nle rfl) rfl ?_
  refine x_ifb_ne 29 C eX8_deliver_5 rfl (fun h5 => ?_) (fun h5 => ?_)
  · refine x_vret C F eX8_deliver_29 () rfl trivial (fun cf c h => ?_) (nle rfl) (nle rfl)
    first
      | (rw [show bDeliver (n l9) = n l9 from if_pos (by omega), un_id]; exact WF_pick [0, 1] rfl rfl h)
      | (rw [show bDeliver (n l9) = inc (bDrop (ub (n l9) 14 (n l9 148)) 148 7) 21 from if_neg (by omega)]; (try simp (disch := omega) only [Int.reduceAdd, uN_s, uN_uN, un_s, un_un, un_n, ub_s, ub_n, inc, bStop_n, bDrop_s, bDrop_n, unub_n, nLog_n, nLog_h, Int.sub_add_cancel]); exact WF_pick [0, 1] rfl rfl h)
  · refine x_aload_n C eX8_deliver_8 rfl ?_
    refine x_iload_n C eX8_deliver_9 rfl ?_
    refine x_bipush C eX8_deliver_10 rfl ?_
    refine yV2r [] [_, _] C (s_X8_of hK hr (by (try simp (disch := omega) only [Int.reduceAdd, uN_s, uN_uN, un_s, un_un, un_n, ub_s, ub_n, inc, bStop_n, bDrop_s, bDrop_n, unub_n, nLog_n, nLog_h, Int.sub_add_cancel]); omega) (by (try simp (disch := omega) only [Int.reduceAdd, uN_s, uN_uN, un_s, un_un, un_n, ub_s, ub_n, inc, bStop_n, bDrop_s, bDrop_n, unub_n, nLog_n, nLog_h, Int.sub_add_cancel]); omega)) v_X8_of vv_X8_of s_RX8_64 eX8_deliver_12 (fun _ _ h => WF_pick [0, 1] rfl rfl h) (rcv 0 rfl) rfl (nle rfl) (nle rfl) (nle rfl) (nle rfl) rfl ?_
    refine x_iconst C eX8_deliver_15 ?_
    refine x_icmp_eq 29 C eX8_deliver_16 rfl (by omega) (by omega) (fun h16 => ?_) (fun h16 => ?_)
    · refine x_vret C F eX8_deliver_29 () rfl trivial (fun cf c h => ?_) (nle rfl) (nle rfl)
      first
        | (rw [show bDeliver (n l9) = n l9 from if_pos (by omega), un_id]; exact WF_pick [0, 1] rfl rfl h)
        | (rw [show bDeliver (n l9) = inc (bDrop (ub (n l9) 14 (n l9 148)) 148 7) 21 from if_neg (by omega)]; (try simp (disch := omega) only [Int.reduceAdd, uN_s, uN_uN, un_s, un_un, un_n, ub_s, ub_n, inc, bStop_n, bDrop_s, bDrop_n, unub_n, nLog_n, nLog_h, Int.sub_add_cancel]); exact WF_pick [0, 1] rfl rfl h)
    · refine x_aload_n C eX8_deliver_19 rfl ?_
      refine x_iload_n C eX8_deliver_20 rfl ?_
      refine x_bipush C eX8_deliver_21 rfl ?_
      refine yV2r [] [_, _] C (s_X8_of hK hr (by (try simp (disch := omega) only [Int.reduceAdd, uN_s, uN_uN, un_s, un_un, un_n, ub_s, ub_n, inc, bStop_n, bDrop_s, bDrop_n, unub_n, nLog_n, nLog_h, Int.sub_add_cancel]); omega) (by (try simp (disch := omega) only [Int.reduceAdd, uN_s, uN_uN, un_s, un_un, un_n, ub_s, ub_n, inc, bStop_n, bDrop_s, bDrop_n, unub_n, nLog_n, nLog_h, Int.sub_add_cancel]); omega)) v_X8_of vv_X8_of s_RX8_64 eX8_deliver_23 (fun _ _ h => WF_pick [0, 1] rfl rfl h) (rcv 0 rfl) rfl (nle rfl) (nle rfl) (nle rfl) (nle rfl) rfl ?_
      refine x_if_ne 30 C eX8_deliver_26 rfl (by omega) (fun h26 => ?_) (fun h26 => ?_)
      · refine x_aload_n C eX8_deliver_30 rfl ?_
        refine x_iload_n C eX8_deliver_31 rfl ?_
        refine x_bipush C eX8_deliver_32 rfl ?_
        refine x_aload_n C eX8_deliver_34 rfl ?_
        refine x_iload_n C eX8_deliver_35 rfl ?_
        refine x_sipush C eX8_deliver_36 rfl ?_
        refine yV2r [] [_, _] C (s_X8_of hK hr (by (try simp (disch := omega) only [Int.reduceAdd, uN_s, uN_uN, un_s, un_un, un_n, ub_s, ub_n, inc, bStop_n, bDrop_s, bDrop_n, unub_n, nLog_n, nLog_h, Int.sub_add_cancel]); omega) (by (try simp (disch := omega) only [Int.reduceAdd, uN_s, uN_uN, un_s, un_un, un_n, ub_s, ub_n, inc, bStop_n, bDrop_s, bDrop_n, unub_n, nLog_n, nLog_h, Int.sub_add_cancel]); omega)) v_X8_of vv_X8_of s_RX8_64 eX8_deliver_39 (fun _ _ h => WF_pick [0, 1] rfl rfl h) (rcv 0 rfl) rfl (nle rfl) (nle rfl) (nle rfl) (nle rfl) rfl ?_
        refine yV3v [] [_, _] C (s_X8_put hK hr (by (try simp (disch := omega) only [Int.reduceAdd, uN_s, uN_uN, un_s, un_un, un_n, ub_s, ub_n, inc, bStop_n, bDrop_s, bDrop_n, unub_n, nLog_n, nLog_h, Int.sub_add_cancel]); omega) (by (try simp (disch := omega) only [Int.reduceAdd, uN_s, uN_uN, un_s, un_un, un_n, ub_s, ub_n, inc, bStop_n, bDrop_s, bDrop_n, unub_n, nLog_n, nLog_h, Int.sub_add_cancel]); omega)) v_X8_put vv_X8_put s_RX8_76 eX8_deliver_42 (fun _ _ h => WF_pick [0, 1] rfl rfl h) (rcv 0 rfl) rfl (nle rfl) (nle rfl) (nle rfl) (nle rfl) rfl ?_
        try simp (disch := omega) only [Int.reduceAdd, uN_s, uN_uN, un_s, un_un, un_n, ub_s, ub_n, inc, bStop_n, bDrop_s, bDrop_n, unub_n, nLog_n, nLog_h, Int.sub_add_cancel]
        refine x_aload_n C eX8_deliver_45 rfl ?_
        refine x_iload_n C eX8_deliver_46 rfl ?_
        refine x_sipush C eX8_deliver_47 rfl ?_
        refine x_bipush C eX8_deliver_50 rfl ?_
        refine yV3v [] [_, _] C (s_X8_dropFirst hK hr (by (try simp (disch := omega) only [Int.reduceAdd, uN_s, uN_uN, un_s, un_un, un_n, ub_s, ub_n, inc, bStop_n, bDrop_s, bDrop_n, unub_n, nLog_n, nLog_h, Int.sub_add_cancel]); omega) (by (try simp (disch := omega) only [Int.reduceAdd, uN_s, uN_uN, un_s, un_un, un_n, ub_s, ub_n, inc, bStop_n, bDrop_s, bDrop_n, unub_n, nLog_n, nLog_h, Int.sub_add_cancel]); omega) (by (try simp (disch := omega) only [Int.reduceAdd, uN_s, uN_uN, un_s, un_un, un_n, ub_s, ub_n, inc, bStop_n, bDrop_s, bDrop_n, unub_n, nLog_n, nLog_h, Int.sub_add_cancel]); omega) (by (try simp (disch := omega) only [Int.reduceAdd, uN_s, uN_uN, un_s, un_un, un_n, ub_s, ub_n, inc, bStop_n, bDrop_s, bDrop_n, unub_n, nLog_n, nLog_h, Int.sub_add_cancel]); omega)) v_X8_dropFirst vv_X8_dropFirst s_RX8_108 eX8_deliver_52 (fun _ _ h => WF_pick [0, 1] rfl rfl h) (rcv 0 rfl) rfl (nle rfl) (nle rfl) (nle rfl) (nle rfl) rfl ?_
        try simp (disch := omega) only [Int.reduceAdd, uN_s, uN_uN, un_s, un_un, un_n, ub_s, ub_n, inc, bStop_n, bDrop_s, bDrop_n, unub_n, nLog_n, nLog_h, Int.sub_add_cancel]
        refine x_aload_n C eX8_deliver_55 rfl ?_
        refine x_iload_n C eX8_deliver_56 rfl ?_
        refine x_iconst C eX8_deliver_57 ?_
        refine yV2v [] [_, _] C (s_X8_counts hK hr (by (try simp (disch := omega) only [Int.reduceAdd, uN_s, uN_uN, un_s, un_un, un_n, ub_s, ub_n, inc, bStop_n, bDrop_s, bDrop_n, unub_n, nLog_n, nLog_h, Int.sub_add_cancel]); omega) (by (try simp (disch := omega) only [Int.reduceAdd, uN_s, uN_uN, un_s, un_un, un_n, ub_s, ub_n, inc, bStop_n, bDrop_s, bDrop_n, unub_n, nLog_n, nLog_h, Int.sub_add_cancel]); omega)) v_X8_counts vv_X8_counts s_RX8_79 eX8_deliver_58 (fun _ _ h => WF_pick [0, 1] rfl rfl h) (rcv 0 rfl) rfl (nle rfl) (nle rfl) (nle rfl) (nle rfl) rfl ?_
        try simp (disch := omega) only [Int.reduceAdd, uN_s, uN_uN, un_s, un_un, un_n, ub_s, ub_n, inc, bStop_n, bDrop_s, bDrop_n, unub_n, nLog_n, nLog_h, Int.sub_add_cancel]
        refine x_vret C F eX8_deliver_61 () rfl trivial (fun cf c h => ?_) (nle rfl) (nle rfl)
        first
          | (rw [show bDeliver (n l9) = n l9 from if_pos (by omega), un_id]; exact WF_pick [0, 1] rfl rfl h)
          | (rw [show bDeliver (n l9) = inc (bDrop (ub (n l9) 14 (n l9 148)) 148 7) 21 from if_neg (by omega)]; (try simp (disch := omega) only [Int.reduceAdd, uN_s, uN_uN, un_s, un_un, un_n, ub_s, ub_n, inc, bStop_n, bDrop_s, bDrop_n, unub_n, nLog_n, nLog_h, Int.sub_add_cancel]); exact WF_pick [0, 1] rfl rfl h)
      · refine x_vret C F eX8_deliver_29 () rfl trivial (fun cf c h => ?_) (nle rfl) (nle rfl)
        first
          | (rw [show bDeliver (n l9) = n l9 from if_pos (by omega), un_id]; exact WF_pick [0, 1] rfl rfl h)
          | (rw [show bDeliver (n l9) = inc (bDrop (ub (n l9) 14 (n l9 148)) 148 7) 21 from if_neg (by omega)]; (try simp (disch := omega) only [Int.reduceAdd, uN_s, uN_uN, un_s, un_un, un_n, ub_s, ub_n, inc, bStop_n, bDrop_s, bDrop_n, unub_n, nLog_n, nLog_h, Int.sub_add_cancel]); exact WF_pick [0, 1] rfl rfl h)

set_option maxHeartbeats 4000000 in
set_option maxRecDepth 100000 in
theorem s_X8_breakNow {G : Gm} {l : Launch} (hK : KG G) {o r : Nat} {A : Nat → Nat} {I : Nat → Int} {N : Nat → Net} {n : Net} {l9 m9 : Int} (hr : rok r) (hl : 0 ≤ l9 ∧ l9 < 6) (hB : (0 ≤ n l9 3 ∧ n l9 3 ≤ 60) ∧ (0 ≤ n l9 2 ∧ n l9 2 ≤ 60) ∧ (0 ≤ n l9 10 ∧ n l9 10 ≤ 1)) : MD G l yX8_breakNow cX8_breakNow 4 (some .int) 4 0 0 [.ref o, .int (zI l9), .int (zI m9)] [ob o 10 (shM A r) I, fam G A (uN N r n)] (some (.int (zI (n l9 6 + n l9 7)))) [ob o 10 (shM A r) I, fam G A (uN N r (un n l9 (bBreak (n l9) m9)))] := by
  refine MX_of (lv := [some (.ref o), some (.int (zI l9)), some (.int (zI m9)), none]) hK (by decide +kernel) rfl (nle rfl) (fun X C F => ?_)
  have C : OKc G X l RX8 "breakNow" cX8_breakNow 4 (some .int) 4 0 0 := C
  refine x_aload_n C eX8_breakNow_0 rfl ?_
  refine x_iload_n C eX8_breakNow_1 rfl ?_
  refine x_bipush C eX8_breakNow_2 rfl ?_
  refine yV2r [] [_, _] C (s_X8_of hK hr (by (try simp (disch := omega) only [Int.reduceAdd, uN_s, uN_uN, un_s, un_un, un_n, ub_s, ub_n, inc, bStop_n, bDrop_s, bDrop_n, unub_n, nLog_n, nLog_h, Int.sub_add_cancel]); omega) (by (try simp (disch := omega) only [Int.reduceAdd, uN_s, uN_uN, un_s, un_un, un_n, ub_s, ub_n, inc, bStop_n, bDrop_s, bDrop_n, unub_n, nLog_n, nLog_h, Int.sub_add_cancel]); omega)) v_X8_of vv_X8_of s_RX8_64 eX8_breakNow_4 (fun _ _ h => WF_pick [0, 1] rfl rfl h) (rcv 0 rfl) rfl (nle rfl) (nle rfl) (nle rfl) (nle rfl) rfl ?_
  refine x_aload_n C eX8_breakNow_7 rfl ?_
  refine x_iload_n C eX8_breakNow_8 rfl ?_
  refine x_bipush C eX8_breakNow_9 rfl ?_
  refine yV2r [] [_, _] C (s_X8_of hK hr (by (try simp (disch := omega) only [Int.reduceAdd, uN_s, uN_uN, un_s, un_un, un_n, ub_s, ub_n, inc, bStop_n, bDrop_s, bDrop_n, unub_n, nLog_n, nLog_h, Int.sub_add_cancel]); omega) (by (try simp (disch := omega) only [Int.reduceAdd, uN_s, uN_uN, un_s, un_un, un_n, ub_s, ub_n, inc, bStop_n, bDrop_s, bDrop_n, unub_n, nLog_n, nLog_h, Int.sub_add_cancel]); omega)) v_X8_of vv_X8_of s_RX8_64 eX8_breakNow_11 (fun _ _ h => WF_pick [0, 1] rfl rfl h) (rcv 0 rfl) rfl (nle rfl) (nle rfl) (nle rfl) (nle rfl) rfl ?_
  refine x_iadd C eX8_breakNow_14 ?_
  refine x_istore_n [_, _, _, _] C eX8_breakNow_15 rfl rfl (nlt rfl) ?_
  refine x_aload_n C eX8_breakNow_16 rfl ?_
  refine x_iload_n C eX8_breakNow_17 rfl ?_
  refine x_bipush C eX8_breakNow_18 rfl ?_
  refine x_aload_n C eX8_breakNow_20 rfl ?_
  refine x_iload_n C eX8_breakNow_21 rfl ?_
  refine x_bipush C eX8_breakNow_22 rfl ?_
  refine yV2r [] [_, _] C (s_X8_of hK hr (by (try simp (disch := omega) only [Int.reduceAdd, uN_s, uN_uN, un_s, un_un, un_n, ub_s, ub_n, inc, bStop_n, bDrop_s, bDrop_n, unub_n, nLog_n, nLog_h, Int.sub_add_cancel]); omega) (by (try simp (disch := omega) only [Int.reduceAdd, uN_s, uN_uN, un_s, un_un, un_n, ub_s, ub_n, inc, bStop_n, bDrop_s, bDrop_n, unub_n, nLog_n, nLog_h, Int.sub_add_cancel]); omega)) v_X8_of vv_X8_of s_RX8_64 eX8_breakNow_24 (fun _ _ h => WF_pick [0, 1] rfl rfl h) (rcv 0 rfl) rfl (nle rfl) (nle rfl) (nle rfl) (nle rfl) rfl ?_
  refine yV3v [] [_, _] C (s_X8_add hK hr (by (try simp (disch := omega) only [Int.reduceAdd, uN_s, uN_uN, un_s, un_un, un_n, ub_s, ub_n, inc, bStop_n, bDrop_s, bDrop_n, unub_n, nLog_n, nLog_h, Int.sub_add_cancel]); omega) (by (try simp (disch := omega) only [Int.reduceAdd, uN_s, uN_uN, un_s, un_un, un_n, ub_s, ub_n, inc, bStop_n, bDrop_s, bDrop_n, unub_n, nLog_n, nLog_h, Int.sub_add_cancel]); omega)) v_X8_add vv_X8_add s_RX8_60 eX8_breakNow_27 (fun _ _ h => WF_pick [0, 1] rfl rfl h) (rcv 0 rfl) rfl (nle rfl) (nle rfl) (nle rfl) (nle rfl) rfl ?_
  try simp (disch := omega) only [Int.reduceAdd, uN_s, uN_uN, un_s, un_un, un_n, ub_s, ub_n, inc, bStop_n, bDrop_s, bDrop_n, unub_n, nLog_n, nLog_h, Int.sub_add_cancel]
  refine x_aload_n C eX8_breakNow_30 rfl ?_
  refine x_iload_n C eX8_breakNow_31 rfl ?_
  refine x_bipush C eX8_breakNow_32 rfl ?_
  refine x_aload_n C eX8_breakNow_34 rfl ?_
  refine x_iload_n C eX8_breakNow_35 rfl ?_
  refine x_bipush C eX8_breakNow_36 rfl ?_
  refine yV2r [] [_, _] C (s_X8_of hK hr (by (try simp (disch := omega) only [Int.reduceAdd, uN_s, uN_uN, un_s, un_un, un_n, ub_s, ub_n, inc, bStop_n, bDrop_s, bDrop_n, unub_n, nLog_n, nLog_h, Int.sub_add_cancel]); omega) (by (try simp (disch := omega) only [Int.reduceAdd, uN_s, uN_uN, un_s, un_un, un_n, ub_s, ub_n, inc, bStop_n, bDrop_s, bDrop_n, unub_n, nLog_n, nLog_h, Int.sub_add_cancel]); omega)) v_X8_of vv_X8_of s_RX8_64 eX8_breakNow_38 (fun _ _ h => WF_pick [0, 1] rfl rfl h) (rcv 0 rfl) rfl (nle rfl) (nle rfl) (nle rfl) (nle rfl) rfl ?_
  try simp (disch := omega) only [Int.reduceAdd, uN_s, uN_uN, un_s, un_un, un_n, ub_s, ub_n, inc, bStop_n, bDrop_s, bDrop_n, unub_n, nLog_n, nLog_h, Int.sub_add_cancel]
  refine yV3v [] [_, _] C (s_X8_add hK hr (by (try simp (disch := omega) only [Int.reduceAdd, uN_s, uN_uN, un_s, un_un, un_n, ub_s, ub_n, inc, bStop_n, bDrop_s, bDrop_n, unub_n, nLog_n, nLog_h, Int.sub_add_cancel]); omega) (by (try simp (disch := omega) only [Int.reduceAdd, uN_s, uN_uN, un_s, un_un, un_n, ub_s, ub_n, inc, bStop_n, bDrop_s, bDrop_n, unub_n, nLog_n, nLog_h, Int.sub_add_cancel]); omega)) v_X8_add vv_X8_add s_RX8_60 eX8_breakNow_41 (fun _ _ h => WF_pick [0, 1] rfl rfl h) (rcv 0 rfl) rfl (nle rfl) (nle rfl) (nle rfl) (nle rfl) rfl ?_
  try simp (disch := omega) only [Int.reduceAdd, uN_s, uN_uN, un_s, un_un, un_n, ub_s, ub_n, inc, bStop_n, bDrop_s, bDrop_n, unub_n, nLog_n, nLog_h, Int.sub_add_cancel]
  refine x_aload_n C eX8_breakNow_44 rfl ?_
  refine x_iload_n C eX8_breakNow_45 rfl ?_
  refine x_bipush C eX8_breakNow_46 rfl ?_
  refine yV2v [] [_, _] C (s_X8_counts hK hr (by (try simp (disch := omega) only [Int.reduceAdd, uN_s, uN_uN, un_s, un_un, un_n, ub_s, ub_n, inc, bStop_n, bDrop_s, bDrop_n, unub_n, nLog_n, nLog_h, Int.sub_add_cancel]); omega) (by (try simp (disch := omega) only [Int.reduceAdd, uN_s, uN_uN, un_s, un_un, un_n, ub_s, ub_n, inc, bStop_n, bDrop_s, bDrop_n, unub_n, nLog_n, nLog_h, Int.sub_add_cancel]); omega)) v_X8_counts vv_X8_counts s_RX8_79 eX8_breakNow_48 (fun _ _ h => WF_pick [0, 1] rfl rfl h) (rcv 0 rfl) rfl (nle rfl) (nle rfl) (nle rfl) (nle rfl) rfl ?_
  try simp (disch := omega) only [Int.reduceAdd, uN_s, uN_uN, un_s, un_un, un_n, ub_s, ub_n, inc, bStop_n, bDrop_s, bDrop_n, unub_n, nLog_n, nLog_h, Int.sub_add_cancel]
  refine x_aload_n C eX8_breakNow_51 rfl ?_
  refine x_iload_n C eX8_breakNow_52 rfl ?_
  refine x_bipush C eX8_breakNow_53 rfl ?_
  refine x_iconst C eX8_breakNow_55 ?_
  refine yV3v [] [_, _] C (s_X8_put hK hr (by (try simp (disch := omega) only [Int.reduceAdd, uN_s, uN_uN, un_s, un_un, un_n, ub_s, ub_n, inc, bStop_n, bDrop_s, bDrop_n, unub_n, nLog_n, nLog_h, Int.sub_add_cancel]); omega) (by (try simp (disch := omega) only [Int.reduceAdd, uN_s, uN_uN, un_s, un_un, un_n, ub_s, ub_n, inc, bStop_n, bDrop_s, bDrop_n, unub_n, nLog_n, nLog_h, Int.sub_add_cancel]); omega)) v_X8_put vv_X8_put s_RX8_76 eX8_breakNow_56 (fun _ _ h => WF_pick [0, 1] rfl rfl h) (rcv 0 rfl) rfl (nle rfl) (nle rfl) (nle rfl) (nle rfl) rfl ?_
  try simp (disch := omega) only [Int.reduceAdd, uN_s, uN_uN, un_s, un_un, un_n, ub_s, ub_n, inc, bStop_n, bDrop_s, bDrop_n, unub_n, nLog_n, nLog_h, Int.sub_add_cancel]
  refine x_aload_n C eX8_breakNow_59 rfl ?_
  refine x_iload_n C eX8_breakNow_60 rfl ?_
  refine x_bipush C eX8_breakNow_61 rfl ?_
  refine x_iconst C eX8_breakNow_63 ?_
  refine yV3v [] [_, _] C (s_X8_put hK hr (by (try simp (disch := omega) only [Int.reduceAdd, uN_s, uN_uN, un_s, un_un, un_n, ub_s, ub_n, inc, bStop_n, bDrop_s, bDrop_n, unub_n, nLog_n, nLog_h, Int.sub_add_cancel]); omega) (by (try simp (disch := omega) only [Int.reduceAdd, uN_s, uN_uN, un_s, un_un, un_n, ub_s, ub_n, inc, bStop_n, bDrop_s, bDrop_n, unub_n, nLog_n, nLog_h, Int.sub_add_cancel]); omega)) v_X8_put vv_X8_put s_RX8_76 eX8_breakNow_64 (fun _ _ h => WF_pick [0, 1] rfl rfl h) (rcv 0 rfl) rfl (nle rfl) (nle rfl) (nle rfl) (nle rfl) rfl ?_
  try simp (disch := omega) only [Int.reduceAdd, uN_s, uN_uN, un_s, un_un, un_n, ub_s, ub_n, inc, bStop_n, bDrop_s, bDrop_n, unub_n, nLog_n, nLog_h, Int.sub_add_cancel]
  refine x_aload_n C eX8_breakNow_67 rfl ?_
  refine x_iload_n C eX8_breakNow_68 rfl ?_
  refine x_bipush C eX8_breakNow_69 rfl ?_
  refine x_iconst C eX8_breakNow_71 ?_
  refine yV3v [] [_, _] C (s_X8_put hK hr (by (try simp (disch := omega) only [Int.reduceAdd, uN_s, uN_uN, un_s, un_un, un_n, ub_s, ub_n, inc, bStop_n, bDrop_s, bDrop_n, unub_n, nLog_n, nLog_h, Int.sub_add_cancel]); omega) (by (try simp (disch := omega) only [Int.reduceAdd, uN_s, uN_uN, un_s, un_un, un_n, ub_s, ub_n, inc, bStop_n, bDrop_s, bDrop_n, unub_n, nLog_n, nLog_h, Int.sub_add_cancel]); omega)) v_X8_put vv_X8_put s_RX8_76 eX8_breakNow_72 (fun _ _ h => WF_pick [0, 1] rfl rfl h) (rcv 0 rfl) rfl (nle rfl) (nle rfl) (nle rfl) (nle rfl) rfl ?_
  try simp (disch := omega) only [Int.reduceAdd, uN_s, uN_uN, un_s, un_un, un_n, ub_s, ub_n, inc, bStop_n, bDrop_s, bDrop_n, unub_n, nLog_n, nLog_h, Int.sub_add_cancel]
  refine x_aload_n C eX8_breakNow_75 rfl ?_
  refine x_iload_n C eX8_breakNow_76 rfl ?_
  refine x_bipush C eX8_breakNow_77 rfl ?_
  refine x_iload_n C eX8_breakNow_79 rfl ?_
  refine yV3v [] [_, _] C (s_X8_put hK hr (by (try simp (disch := omega) only [Int.reduceAdd, uN_s, uN_uN, un_s, un_un, un_n, ub_s, ub_n, inc, bStop_n, bDrop_s, bDrop_n, unub_n, nLog_n, nLog_h, Int.sub_add_cancel]); omega) (by (try simp (disch := omega) only [Int.reduceAdd, uN_s, uN_uN, un_s, un_un, un_n, ub_s, ub_n, inc, bStop_n, bDrop_s, bDrop_n, unub_n, nLog_n, nLog_h, Int.sub_add_cancel]); omega)) v_X8_put vv_X8_put s_RX8_76 eX8_breakNow_80 (fun _ _ h => WF_pick [0, 1] rfl rfl h) (rcv 0 rfl) rfl (nle rfl) (nle rfl) (nle rfl) (nle rfl) rfl ?_
  try simp (disch := omega) only [Int.reduceAdd, uN_s, uN_uN, un_s, un_un, un_n, ub_s, ub_n, inc, bStop_n, bDrop_s, bDrop_n, unub_n, nLog_n, nLog_h, Int.sub_add_cancel]
  refine x_aload_n C eX8_breakNow_83 rfl ?_
  refine x_iload_n C eX8_breakNow_84 rfl ?_
  refine yV1v [] [_, _] C (s_X8_layStop hK hr (by (try simp (disch := omega) only [Int.reduceAdd, uN_s, uN_uN, un_s, un_un, un_n, ub_s, ub_n, inc, bStop_n, bDrop_s, bDrop_n, unub_n, nLog_n, nLog_h, Int.sub_add_cancel]); omega) (by (try simp (disch := omega) only [Int.reduceAdd, uN_s, uN_uN, un_s, un_un, un_n, ub_s, ub_n, inc, bStop_n, bDrop_s, bDrop_n, unub_n, nLog_n, nLog_h, Int.sub_add_cancel]); omega)) v_X8_layStop vv_X8_layStop s_RX8_90 eX8_breakNow_85 (fun _ _ h => WF_pick [0, 1] rfl rfl h) (rcv 0 rfl) rfl (nle rfl) (nle rfl) (nle rfl) (nle rfl) rfl ?_
  try simp (disch := omega) only [Int.reduceAdd, uN_s, uN_uN, un_s, un_un, un_n, ub_s, ub_n, inc, bStop_n, bDrop_s, bDrop_n, unub_n, nLog_n, nLog_h, Int.sub_add_cancel]
  refine x_iload_n C eX8_breakNow_88 rfl ?_
  refine x_iret (by first | rfl | exact (narZ (by omega)).1) C F eX8_breakNow_89 () ?_ trivial (fun cf c h => ?_) (nle rfl) (nle rfl)
  · rfl
  · unfold bBreak bBreak0
    (try simp (disch := omega) only [Int.reduceAdd, uN_s, uN_uN, un_s, un_un, un_n, ub_s, ub_n, inc, bStop_n, bDrop_s, bDrop_n, unub_n, nLog_n, nLog_h, Int.sub_add_cancel])
    exact WF_pick [0, 1] rfl rfl h

set_option maxHeartbeats 4000000 in
set_option maxRecDepth 100000 in
theorem s_X8_lendNow {G : Gm} {l : Launch} (hK : KG G) {o r : Nat} {A : Nat → Nat} {I : Nat → Int} {N : Nat → Net} {n : Net} {l9 o9 t9 : Int} (hr : rok r) (hl : 0 ≤ l9 ∧ l9 < 6) : MD G l yX8_lendNow cX8_lendNow 4 none 2 0 0 [.ref o, .int (zI l9), .int (zI o9), .int (zI t9)] [ob o 10 (shM A r) I, fam G A (uN N r n)] none [ob o 10 (shM A r) I, fam G A (uN N r (un n l9 (bLend (n l9) o9 t9)))] := by
  refine MX_of (lv := [some (.ref o), some (.int (zI l9)), some (.int (zI o9)), some (.int (zI t9))]) hK (by decide +kernel) rfl (nle rfl) (fun X C F => ?_)
  have C : OKc G X l RX8 "lendNow" cX8_lendNow 4 none 2 0 0 := C
  refine x_aload_n C eX8_lendNow_0 rfl ?_
  refine x_iload_n C eX8_lendNow_1 rfl ?_
  refine x_bipush C eX8_lendNow_2 rfl ?_
  refine x_iload_n C eX8_lendNow_4 rfl ?_
  refine yV3v [] [_, _] C (s_X8_put hK hr (by (try simp (disch := omega) only [Int.reduceAdd, uN_s, uN_uN, un_s, un_un, un_n, ub_s, ub_n, inc, bStop_n, bDrop_s, bDrop_n, unub_n, nLog_n, nLog_h, Int.sub_add_cancel]); omega) (by (try simp (disch := omega) only [Int.reduceAdd, uN_s, uN_uN, un_s, un_un, un_n, ub_s, ub_n, inc, bStop_n, bDrop_s, bDrop_n, unub_n, nLog_n, nLog_h, Int.sub_add_cancel]); omega)) v_X8_put vv_X8_put s_RX8_76 eX8_lendNow_5 (fun _ _ h => WF_pick [0, 1] rfl rfl h) (rcv 0 rfl) rfl (nle rfl) (nle rfl) (nle rfl) (nle rfl) rfl ?_
  try simp (disch := omega) only [Int.reduceAdd, uN_s, uN_uN, un_s, un_un, un_n, ub_s, ub_n, inc, bStop_n, bDrop_s, bDrop_n, unub_n, nLog_n, nLog_h, Int.sub_add_cancel]
  refine x_aload_n C eX8_lendNow_8 rfl ?_
  refine x_iload_n C eX8_lendNow_9 rfl ?_
  refine x_bipush C eX8_lendNow_10 rfl ?_
  refine x_iload_n C eX8_lendNow_12 rfl ?_
  refine yV3v [] [_, _] C (s_X8_put hK hr (by (try simp (disch := omega) only [Int.reduceAdd, uN_s, uN_uN, un_s, un_un, un_n, ub_s, ub_n, inc, bStop_n, bDrop_s, bDrop_n, unub_n, nLog_n, nLog_h, Int.sub_add_cancel]); omega) (by (try simp (disch := omega) only [Int.reduceAdd, uN_s, uN_uN, un_s, un_un, un_n, ub_s, ub_n, inc, bStop_n, bDrop_s, bDrop_n, unub_n, nLog_n, nLog_h, Int.sub_add_cancel]); omega)) v_X8_put vv_X8_put s_RX8_76 eX8_lendNow_13 (fun _ _ h => WF_pick [0, 1] rfl rfl h) (rcv 0 rfl) rfl (nle rfl) (nle rfl) (nle rfl) (nle rfl) rfl ?_
  try simp (disch := omega) only [Int.reduceAdd, uN_s, uN_uN, un_s, un_un, un_n, ub_s, ub_n, inc, bStop_n, bDrop_s, bDrop_n, unub_n, nLog_n, nLog_h, Int.sub_add_cancel]
  refine x_vret C F eX8_lendNow_16 () rfl trivial (fun cf c h => ?_) (nle rfl) (nle rfl)
  unfold bLend
  exact WF_pick [0, 1] rfl rfl h
