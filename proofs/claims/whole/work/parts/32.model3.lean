set_option maxHeartbeats 4000000 in
set_option maxRecDepth 100000 in
theorem s_X8_sender {G : Gm} {l : Launch} (hK : KG G) {o r : Nat} {A : Nat → Nat} {I : Nat → Int} {N : Nat → Net} {n : Net} {b : Int} (hr : rok r) (hN : NetOk b n) (hb : b ≤ 1000000000) : MD G l yX8_sender cX8_sender 2 (some .int) 3 0 0 [.ref o] [ob o 10 (shM A r) I, fam G A (uN N r n)] (some (.int (zI (nSender n)))) [ob o 10 (shM A r) I, fam G A (uN N r n)] := by
  refine MX_of (lv := [some (.ref o), none]) hK (by decide +kernel) rfl (nle rfl) (fun X C F => ?_)
  have C : OKc G X l RX8 "sender" cX8_sender 2 (some .int) 3 0 0 := C
  have hH := hN.1
  unfold HeadOk at hH
  have hT := hN.2.2 (n (-1) 2) (by omega) (by omega)
  unfold LineOk at hT
  refine x_aload_n C eX8_sender_0 rfl ?_
  refine x_getR 0 C f_RX8_24 eX8_sender_1 rfl rfl ?_
  refine x_iconst C eX8_sender_4 ?_
  refine x_faldU 1 C eX8_sender_5 rfl hr (by omega) ?_
  first | rw [enc_head _ (by omega)] | rw [enc_line _ (by omega) (by omega)]
  refine x_istore_n [_, _] C eX8_sender_6 rfl rfl (nlt rfl) ?_
  refine x_aload_n C eX8_sender_7 rfl ?_
  refine x_iload_n C eX8_sender_8 rfl ?_
  refine yV1r [] [_, _] C (s_X8_lends hK hr (by (try simp (disch := omega) only [Int.reduceAdd, uN_s, uN_uN, un_s, un_un, un_n, ub_s, ub_n, inc, bStop_n, bDrop_s, bDrop_n, unub_n, nLog_n, nLog_h, Int.sub_add_cancel]); omega) (by (try simp (disch := omega) only [Int.reduceAdd, uN_s, uN_uN, un_s, un_un, un_n, ub_s, ub_n, inc, bStop_n, bDrop_s, bDrop_n, unub_n, nLog_n, nLog_h, Int.sub_add_cancel]); omega)) v_X8_lends vv_X8_lends s_RX8_97 eX8_sender_9 (fun _ _ h => WF_pick [0, 1] rfl rfl h) (rcv 0 rfl) rfl (nle rfl) (nle rfl) (nle rfl) (nle rfl) rfl ?_
  refine x_ifb_eq 25 C eX8_sender_12 rfl (fun h12 => ?_) (fun h12 => ?_)
  · refine x_iload_n C eX8_sender_25 rfl ?_
    refine x_iret (by first | rfl | exact (narZ (by omega)).1) C F eX8_sender_26 () ?_ trivial (fun cf c h => ?_) (nle rfl) (nle rfl)
    · first | rw [show nSender n = n (n (-1) 2) 13 from if_pos (by omega)] | rw [show nSender n = n (-1) 2 from if_neg (by omega)]
    · exact WF_pick [0, 1] rfl rfl h
  · refine x_aload_n C eX8_sender_15 rfl ?_
    refine x_iload_n C eX8_sender_16 rfl ?_
    refine x_bipush C eX8_sender_17 rfl ?_
    refine yV2r [] [_, _] C (s_X8_of hK hr (by (try simp (disch := omega) only [Int.reduceAdd, uN_s, uN_uN, un_s, un_un, un_n, ub_s, ub_n, inc, bStop_n, bDrop_s, bDrop_n, unub_n, nLog_n, nLog_h, Int.sub_add_cancel]); omega) (by (try simp (disch := omega) only [Int.reduceAdd, uN_s, uN_uN, un_s, un_un, un_n, ub_s, ub_n, inc, bStop_n, bDrop_s, bDrop_n, unub_n, nLog_n, nLog_h, Int.sub_add_cancel]); omega)) v_X8_of vv_X8_of s_RX8_64 eX8_sender_19 (fun _ _ h => WF_pick [0, 1] rfl rfl h) (rcv 0 rfl) rfl (nle rfl) (nle rfl) (nle rfl) (nle rfl) rfl ?_
    refine x_goto (pc' := 26) C eX8_sender_22 rfl ?_
    refine x_iret (by first | rfl | exact (narZ (by omega)).1) C F eX8_sender_26 () ?_ trivial (fun cf c h => ?_) (nle rfl) (nle rfl)
    · first | rw [show nSender n = n (n (-1) 2) 13 from if_pos (by omega)] | rw [show nSender n = n (-1) 2 from if_neg (by omega)]
    · exact WF_pick [0, 1] rfl rfl h

set_option maxHeartbeats 4000000 in
set_option maxRecDepth 100000 in
theorem s_X8_passOn {G : Gm} {l : Launch} (hK : KG G) {o r : Nat} {A : Nat → Nat} {I : Nat → Int} {N : Nat → Net} {n : Net} (hr : rok r) (h0 : (1 ≤ n (-1) 0 ∧ n (-1) 0 ≤ 6) ∧ (0 ≤ n (-1) 2 ∧ n (-1) 2 < n (-1) 0) ∧ (n (-1) 6 = 0 ∨ n (-1) 6 = 1)) (hT : 0 ≤ n (n (-1) 2) 12 ∧ n (n (-1) 2) 12 ≤ 99) : MD G l yX8_passOn cX8_passOn 2 none 3 0 0 [.ref o] [ob o 10 (shM A r) I, fam G A (uN N r n)] none [ob o 10 (shM A r) I, fam G A (uN N r (nPass n))] := by
  refine MX_of (lv := [some (.ref o), none]) hK (by decide +kernel) rfl (nle rfl) (fun X C F => ?_)
  have C : OKc G X l RX8 "passOn" cX8_passOn 2 none 3 0 0 := C
  have hx : 0 ≤ nNext n ∧ nNext n < n (-1) 0 := ⟨Int.emod_nonneg _ (by omega), Int.emod_lt_of_pos _ (by omega)⟩
  have eN : (n (-1) 2 + 1) % n (-1) 0 = nNext n := rfl
  refine x_aload_n C eX8_passOn_0 rfl ?_
  refine x_getR 0 C f_RX8_24 eX8_passOn_1 rfl rfl ?_
  refine x_iconst C eX8_passOn_4 ?_
  refine x_faldU 1 C eX8_passOn_5 rfl hr (by omega) ?_
  first | rw [enc_head _ (by omega)] | rw [enc_line _ (by omega) (by omega)]
  refine x_istore_n [_, _] C eX8_passOn_6 rfl rfl (nlt rfl) ?_
  refine x_aload_n C eX8_passOn_7 rfl ?_
  refine x_iload_n C eX8_passOn_8 rfl ?_
  refine yV1r [] [_, _] C (s_X8_lends hK hr (by (try simp (disch := omega) only [Int.reduceAdd, uN_s, uN_uN, un_s, un_un, un_n, ub_s, ub_n, inc, bStop_n, bDrop_s, bDrop_n, unub_n, nLog_n, nLog_h, Int.sub_add_cancel]); omega) (by (try simp (disch := omega) only [Int.reduceAdd, uN_s, uN_uN, un_s, un_un, un_n, ub_s, ub_n, inc, bStop_n, bDrop_s, bDrop_n, unub_n, nLog_n, nLog_h, Int.sub_add_cancel]); omega)) v_X8_lends vv_X8_lends s_RX8_97 eX8_passOn_9 (fun _ _ h => WF_pick [0, 1] rfl rfl h) (rcv 0 rfl) rfl (nle rfl) (nle rfl) (nle rfl) (nle rfl) rfl ?_
  refine x_ifb_eq 34 C eX8_passOn_12 rfl (fun h12 => ?_) (fun h12 => ?_)
  · refine x_aload_n C eX8_passOn_34 rfl ?_
    refine x_getR 0 C f_RX8_24 eX8_passOn_35 rfl rfl ?_
    refine x_iconst C eX8_passOn_38 ?_
    refine x_iload_n C eX8_passOn_39 rfl ?_
    refine x_iconst C eX8_passOn_40 ?_
    refine x_iadd C eX8_passOn_41 ?_
    refine x_aload_n C eX8_passOn_42 rfl ?_
    refine yV0r [] [_, _] C (s_X8_lines hK hr) v_X8_lines vv_X8_lines s_RX8_68 eX8_passOn_43 (fun _ _ h => WF_pick [0, 1] rfl rfl h) (rcv 0 rfl) rfl (nle rfl) (nle rfl) (nle rfl) (nle rfl) rfl ?_
    refine x_irem C eX8_passOn_46 (by omega) ?_
    refine x_fastU [_, _] 1 C eX8_passOn_47 rfl hr (by omega) rfl ?_
    rw [encU_head _ (by omega)]
    try simp (disch := omega) only [un_n, un_s, un_un, ub_n, ub_s, unub_n, eN]
    refine x_aload_n C eX8_passOn_48 rfl ?_
    refine x_getR 0 C f_RX8_24 eX8_passOn_49 rfl rfl ?_
    refine x_iconst C eX8_passOn_52 ?_
    refine x_aload_n C eX8_passOn_53 rfl ?_
    refine x_aload_n C eX8_passOn_54 rfl ?_
    refine x_getR 0 C f_RX8_24 eX8_passOn_55 rfl rfl ?_
    refine x_iconst C eX8_passOn_58 ?_
    refine x_faldU 1 C eX8_passOn_59 rfl hr (by omega) ?_
    rw [enc_head _ (by omega)]
    try simp (disch := omega) only [un_n, un_s, un_un, ub_n, ub_s, unub_n, eN]
    refine x_iconst C eX8_passOn_60 ?_
    refine yV2r [] [_, _] C (s_X8_of hK hr (by (try simp (disch := omega) only [Int.reduceAdd, uN_s, uN_uN, un_s, un_un, un_n, ub_s, ub_n, inc, bStop_n, bDrop_s, bDrop_n, unub_n, nLog_n, nLog_h, Int.sub_add_cancel]); omega) (by (try simp (disch := omega) only [Int.reduceAdd, uN_s, uN_uN, un_s, un_un, un_n, ub_s, ub_n, inc, bStop_n, bDrop_s, bDrop_n, unub_n, nLog_n, nLog_h, Int.sub_add_cancel]); omega)) v_X8_of vv_X8_of s_RX8_64 eX8_passOn_61 (fun _ _ h => WF_pick [0, 1] rfl rfl h) (rcv 0 rfl) rfl (nle rfl) (nle rfl) (nle rfl) (nle rfl) rfl ?_
    refine x_fastU [_, _] 1 C eX8_passOn_64 rfl hr (by omega) rfl ?_
    rw [encU_head _ (by omega)]
    try simp (disch := omega) only [un_n, un_s, un_un, ub_n, ub_s, unub_n, eN]
    refine x_aload_n C eX8_passOn_65 rfl ?_
    refine x_getR 0 C f_RX8_24 eX8_passOn_66 rfl rfl ?_
    refine x_bipush C eX8_passOn_69 rfl ?_
    refine x_iconst C eX8_passOn_71 ?_
    refine x_fastU [_, _] 1 C eX8_passOn_72 rfl hr (by omega) rfl ?_
    rw [encU_head _ (by omega)]
    try simp (disch := omega) only [un_n, un_s, un_un, ub_n, ub_s, unub_n, eN]
    refine x_vret C F eX8_passOn_73 () rfl trivial (fun cf c h => ?_) (nle rfl) (nle rfl)
    unfold nPass nPass0
    first
      | (rw [if_pos (by omega)]; (try simp (disch := omega) only [un_n, un_s, un_un, ub_n, ub_s, unub_n]); exact WF_pick [0, 1] rfl rfl h)
      | (rw [if_neg (by omega)]; (try simp (disch := omega) only [un_n, un_s, un_un, ub_n, ub_s, unub_n]); exact WF_pick [0, 1] rfl rfl h)
  · refine x_aload_n C eX8_passOn_15 rfl ?_
    refine x_getR 0 C f_RX8_24 eX8_passOn_16 rfl rfl ?_
    refine x_bipush C eX8_passOn_19 rfl ?_
    refine x_faldU 1 C eX8_passOn_21 rfl hr (by omega) ?_
    rw [enc_head _ (by omega)]
    try simp (disch := omega) only [un_n]
    refine x_iconst C eX8_passOn_22 ?_
    refine x_icmp_ne 34 C eX8_passOn_23 rfl (by omega) (by omega) (fun h23 => ?_) (fun h23 => ?_)
    · refine x_aload_n C eX8_passOn_34 rfl ?_
      refine x_getR 0 C f_RX8_24 eX8_passOn_35 rfl rfl ?_
      refine x_iconst C eX8_passOn_38 ?_
      refine x_iload_n C eX8_passOn_39 rfl ?_
      refine x_iconst C eX8_passOn_40 ?_
      refine x_iadd C eX8_passOn_41 ?_
      refine x_aload_n C eX8_passOn_42 rfl ?_
      refine yV0r [] [_, _] C (s_X8_lines hK hr) v_X8_lines vv_X8_lines s_RX8_68 eX8_passOn_43 (fun _ _ h => WF_pick [0, 1] rfl rfl h) (rcv 0 rfl) rfl (nle rfl) (nle rfl) (nle rfl) (nle rfl) rfl ?_
      refine x_irem C eX8_passOn_46 (by omega) ?_
      refine x_fastU [_, _] 1 C eX8_passOn_47 rfl hr (by omega) rfl ?_
      rw [encU_head _ (by omega)]
      try simp (disch := omega) only [un_n, un_s, un_un, ub_n, ub_s, unub_n, eN]
      refine x_aload_n C eX8_passOn_48 rfl ?_
      refine x_getR 0 C f_RX8_24 eX8_passOn_49 rfl rfl ?_
      refine x_iconst C eX8_passOn_52 ?_
      refine x_aload_n C eX8_passOn_53 rfl ?_
      refine x_aload_n C eX8_passOn_54 rfl ?_
      refine x_getR 0 C f_RX8_24 eX8_passOn_55 rfl rfl ?_
      refine x_iconst C eX8_passOn_58 ?_
      refine x_faldU 1 C eX8_passOn_59 rfl hr (by omega) ?_
      rw [enc_head _ (by omega)]
      try simp (disch := omega) only [un_n, un_s, un_un, ub_n, ub_s, unub_n, eN]
      refine x_iconst C eX8_passOn_60 ?_
      refine yV2r [] [_, _] C (s_X8_of hK hr (by (try simp (disch := omega) only [Int.reduceAdd, uN_s, uN_uN, un_s, un_un, un_n, ub_s, ub_n, inc, bStop_n, bDrop_s, bDrop_n, unub_n, nLog_n, nLog_h, Int.sub_add_cancel]); omega) (by (try simp (disch := omega) only [Int.reduceAdd, uN_s, uN_uN, un_s, un_un, un_n, ub_s, ub_n, inc, bStop_n, bDrop_s, bDrop_n, unub_n, nLog_n, nLog_h, Int.sub_add_cancel]); omega)) v_X8_of vv_X8_of s_RX8_64 eX8_passOn_61 (fun _ _ h => WF_pick [0, 1] rfl rfl h) (rcv 0 rfl) rfl (nle rfl) (nle rfl) (nle rfl) (nle rfl) rfl ?_
      refine x_fastU [_, _] 1 C eX8_passOn_64 rfl hr (by omega) rfl ?_
      rw [encU_head _ (by omega)]
      try simp (disch := omega) only [un_n, un_s, un_un, ub_n, ub_s, unub_n, eN]
      refine x_aload_n C eX8_passOn_65 rfl ?_
      refine x_getR 0 C f_RX8_24 eX8_passOn_66 rfl rfl ?_
      refine x_bipush C eX8_passOn_69 rfl ?_
      refine x_iconst C eX8_passOn_71 ?_
      refine x_fastU [_, _] 1 C eX8_passOn_72 rfl hr (by omega) rfl ?_
      rw [encU_head _ (by omega)]
      try simp (disch := omega) only [un_n, un_s, un_un, ub_n, ub_s, unub_n, eN]
      refine x_vret C F eX8_passOn_73 () rfl trivial (fun cf c h => ?_) (nle rfl) (nle rfl)
      unfold nPass nPass0
      first
        | (rw [if_pos (by omega)]; (try simp (disch := omega) only [un_n, un_s, un_un, ub_n, ub_s, unub_n]); exact WF_pick [0, 1] rfl rfl h)
        | (rw [if_neg (by omega)]; (try simp (disch := omega) only [un_n, un_s, un_un, ub_n, ub_s, unub_n]); exact WF_pick [0, 1] rfl rfl h)
    · refine x_aload_n C eX8_passOn_26 rfl ?_
      refine x_iload_n C eX8_passOn_27 rfl ?_
      refine x_bipush C eX8_passOn_28 rfl ?_
      refine x_iconst C eX8_passOn_30 ?_
      refine yV3v [] [_, _] C (s_X8_add hK hr (by (try simp (disch := omega) only [Int.reduceAdd, uN_s, uN_uN, un_s, un_un, un_n, ub_s, ub_n, inc, bStop_n, bDrop_s, bDrop_n, unub_n, nLog_n, nLog_h, Int.sub_add_cancel]); omega) (by (try simp (disch := omega) only [Int.reduceAdd, uN_s, uN_uN, un_s, un_un, un_n, ub_s, ub_n, inc, bStop_n, bDrop_s, bDrop_n, unub_n, nLog_n, nLog_h, Int.sub_add_cancel]); omega)) v_X8_add vv_X8_add s_RX8_60 eX8_passOn_31 (fun _ _ h => WF_pick [0, 1] rfl rfl h) (rcv 0 rfl) rfl (nle rfl) (nle rfl) (nle rfl) (nle rfl) rfl ?_
      try simp (disch := omega) only [un_n, un_s, un_un, ub_n, ub_s, unub_n, eN, Int.add_neg_eq_sub]
      refine x_aload_n C eX8_passOn_34 rfl ?_
      refine x_getR 0 C f_RX8_24 eX8_passOn_35 rfl rfl ?_
      refine x_iconst C eX8_passOn_38 ?_
      refine x_iload_n C eX8_passOn_39 rfl ?_
      refine x_iconst C eX8_passOn_40 ?_
      refine x_iadd C eX8_passOn_41 ?_
      refine x_aload_n C eX8_passOn_42 rfl ?_
      refine yV0r [] [_, _] C (s_X8_lines hK hr) v_X8_lines vv_X8_lines s_RX8_68 eX8_passOn_43 (fun _ _ h => WF_pick [0, 1] rfl rfl h) (rcv 0 rfl) rfl (nle rfl) (nle rfl) (nle rfl) (nle rfl) rfl ?_
      try simp (disch := omega) only [un_n, un_s, un_un, ub_n, ub_s, unub_n, eN, Int.add_neg_eq_sub]
      refine x_irem C eX8_passOn_46 (by omega) ?_
      refine x_fastU [_, _] 1 C eX8_passOn_47 rfl hr (by omega) rfl ?_
      rw [encU_head _ (by omega)]
      try simp (disch := omega) only [un_n, un_s, un_un, ub_n, ub_s, unub_n, eN]
      refine x_aload_n C eX8_passOn_48 rfl ?_
      refine x_getR 0 C f_RX8_24 eX8_passOn_49 rfl rfl ?_
      refine x_iconst C eX8_passOn_52 ?_
      refine x_aload_n C eX8_passOn_53 rfl ?_
      refine x_aload_n C eX8_passOn_54 rfl ?_
      refine x_getR 0 C f_RX8_24 eX8_passOn_55 rfl rfl ?_
      refine x_iconst C eX8_passOn_58 ?_
      refine x_faldU 1 C eX8_passOn_59 rfl hr (by omega) ?_
      rw [enc_head _ (by omega)]
      try simp (disch := omega) only [un_n, un_s, un_un, ub_n, ub_s, unub_n, eN]
      refine x_iconst C eX8_passOn_60 ?_
      refine yV2r [] [_, _] C (s_X8_of hK hr (by (try simp (disch := omega) only [Int.reduceAdd, uN_s, uN_uN, un_s, un_un, un_n, ub_s, ub_n, inc, bStop_n, bDrop_s, bDrop_n, unub_n, nLog_n, nLog_h, Int.sub_add_cancel]); omega) (by (try simp (disch := omega) only [Int.reduceAdd, uN_s, uN_uN, un_s, un_un, un_n, ub_s, ub_n, inc, bStop_n, bDrop_s, bDrop_n, unub_n, nLog_n, nLog_h, Int.sub_add_cancel]); omega)) v_X8_of vv_X8_of s_RX8_64 eX8_passOn_61 (fun _ _ h => WF_pick [0, 1] rfl rfl h) (rcv 0 rfl) rfl (nle rfl) (nle rfl) (nle rfl) (nle rfl) rfl ?_
      try simp (disch := omega) only [un_n, un_s, un_un, ub_n, ub_s, unub_n, eN, Int.add_neg_eq_sub]
      refine x_fastU [_, _] 1 C eX8_passOn_64 rfl hr (by omega) rfl ?_
      rw [encU_head _ (by omega)]
      try simp (disch := omega) only [un_n, un_s, un_un, ub_n, ub_s, unub_n, eN]
      refine x_aload_n C eX8_passOn_65 rfl ?_
      refine x_getR 0 C f_RX8_24 eX8_passOn_66 rfl rfl ?_
      refine x_bipush C eX8_passOn_69 rfl ?_
      refine x_iconst C eX8_passOn_71 ?_
      refine x_fastU [_, _] 1 C eX8_passOn_72 rfl hr (by omega) rfl ?_
      rw [encU_head _ (by omega)]
      try simp (disch := omega) only [un_n, un_s, un_un, ub_n, ub_s, unub_n, eN]
      refine x_vret C F eX8_passOn_73 () rfl trivial (fun cf c h => ?_) (nle rfl) (nle rfl)
      unfold nPass nPass0
      first
        | (rw [if_pos (by omega)]; (try simp (disch := omega) only [un_n, un_s, un_un, ub_n, ub_s, unub_n]); exact WF_pick [0, 1] rfl rfl h)
        | (rw [if_neg (by omega)]; (try simp (disch := omega) only [un_n, un_s, un_un, ub_n, ub_s, unub_n]); exact WF_pick [0, 1] rfl rfl h)

set_option maxHeartbeats 4000000 in
set_option maxRecDepth 100000 in
theorem s_X8_log {G : Gm} {l : Launch} (hK : KG G) {o r : Nat} {A : Nat → Nat} {I : Nat → Int} {N : Nat → Net} {n : Net} {l9 v9 w9 : Int} (hr : rok r) (hh : 0 ≤ n (-1) 7 ∧ n (-1) 7 ≤ 40) : MD G l yX8_log cX8_log 5 none 2 0 0 [.ref o, .int (zI l9), .int (zI v9), .int (zI w9)] [ob o 10 (shM A r) I, fam G A (uN N r n)] none [ob o 10 (shM A r) I, fam G A (uN N r (nLog n l9 v9 w9))] := by
  refine MX_of (lv := [some (.ref o), some (.int (zI l9)), some (.int (zI v9)), some (.int (zI w9)), none]) hK (by decide +kernel) rfl (nle rfl) (fun X C F => ?_)
  have C : OKc G X l RX8 "log" cX8_log 5 none 2 0 0 := C
  have loop : ∀ (j : Nat) (k : Int), 4 ≤ k → k < 200 → k - 3 ≤ j → WX G X 0 0 [ob o 10 (shM A r) I, fam G A (uN N r (un n (-2) (lShift (n (-2)) k)))] 5 [some (.ref o), some (.int (zI l9)), some (.int (zI v9)), some (.int (zI w9)), some (.int (zI (1616 + k)))] [] := by
    intro j
    induction j with
    | zero => intro k h0 h1 h2; exfalso; omega
    | succ j ih =>
      intro k h0 h1 h2
      refine x_iload C eX8_log_5 rfl ?_
      refine x_sipush C eX8_log_7 rfl ?_
      refine x_icmp_lt 35 C eX8_log_10 rfl (by omega) (by omega) (fun h10 => ?_) (fun h10 => ?_)
      · refine x_aload_n C eX8_log_35 rfl ?_
        refine x_getR 0 C f_RX8_24 eX8_log_36 rfl rfl ?_
        refine x_sipush C eX8_log_39 rfl ?_
        refine x_aload_n C eX8_log_42 rfl ?_
        refine x_getR 0 C f_RX8_24 eX8_log_43 rfl rfl ?_
        refine x_iconst C eX8_log_46 ?_
        refine x_faldU 1 C eX8_log_47 rfl hr (by omega) ?_
        rw [enc_head _ (by omega)]
        try simp (disch := omega) only [un_n, un_s, un_un, ub_n, ub_s]
        refine x_fastU [_, _] 1 C eX8_log_48 rfl hr (by omega) rfl ?_
        first | rw [encU_head _ (by omega)] | rw [encU_logi _ (by omega)]
        try simp (disch := omega) only [un_n, un_s, un_un, ub_n, ub_s, Int.reduceSub]
        refine x_aload_n C eX8_log_49 rfl ?_
        refine x_getR 0 C f_RX8_24 eX8_log_50 rfl rfl ?_
        refine x_sipush C eX8_log_53 rfl ?_
        refine x_iload_n C eX8_log_56 rfl ?_
        refine x_fastU [_, _] 1 C eX8_log_57 rfl hr (by omega) rfl ?_
        first | rw [encU_head _ (by omega)] | rw [encU_logi _ (by omega)]
        try simp (disch := omega) only [un_n, un_s, un_un, ub_n, ub_s, Int.reduceSub]
        refine x_aload_n C eX8_log_58 rfl ?_
        refine x_getR 0 C f_RX8_24 eX8_log_59 rfl rfl ?_
        refine x_sipush C eX8_log_62 rfl ?_
        refine x_aload_n C eX8_log_65 rfl ?_
        refine x_getR 0 C f_RX8_24 eX8_log_66 rfl rfl ?_
        refine x_iconst C eX8_log_69 ?_
        refine x_faldU 1 C eX8_log_70 rfl hr (by omega) ?_
        rw [enc_head _ (by omega)]
        try simp (disch := omega) only [un_n, un_s, un_un, ub_n, ub_s]
        refine x_fastU [_, _] 1 C eX8_log_71 rfl hr (by omega) rfl ?_
        first | rw [encU_head _ (by omega)] | rw [encU_logi _ (by omega)]
        try simp (disch := omega) only [un_n, un_s, un_un, ub_n, ub_s, Int.reduceSub]
        refine x_aload_n C eX8_log_72 rfl ?_
        refine x_getR 0 C f_RX8_24 eX8_log_73 rfl rfl ?_
        refine x_sipush C eX8_log_76 rfl ?_
        refine x_iload_n C eX8_log_79 rfl ?_
        refine x_fastU [_, _] 1 C eX8_log_80 rfl hr (by omega) rfl ?_
        first | rw [encU_head _ (by omega)] | rw [encU_logi _ (by omega)]
        try simp (disch := omega) only [un_n, un_s, un_un, ub_n, ub_s, Int.reduceSub]
        refine x_aload_n C eX8_log_81 rfl ?_
        refine x_getR 0 C f_RX8_24 eX8_log_82 rfl rfl ?_
        refine x_sipush C eX8_log_85 rfl ?_
        refine x_iload_n C eX8_log_88 rfl ?_
        refine x_fastU [_, _] 1 C eX8_log_89 rfl hr (by omega) rfl ?_
        first | rw [encU_head _ (by omega)] | rw [encU_logi _ (by omega)]
        try simp (disch := omega) only [un_n, un_s, un_un, ub_n, ub_s, Int.reduceSub]
        refine x_aload_n C eX8_log_90 rfl ?_
        refine x_getR 0 C f_RX8_24 eX8_log_91 rfl rfl ?_
        refine x_bipush C eX8_log_94 rfl ?_
        refine x_bipush C eX8_log_96 rfl ?_
        refine x_aload_n C eX8_log_98 rfl ?_
        refine x_getR 0 C f_RX8_24 eX8_log_99 rfl rfl ?_
        refine x_bipush C eX8_log_102 rfl ?_
        refine x_faldU 1 C eX8_log_104 rfl hr (by omega) ?_
        rw [enc_head _ (by omega)]
        try simp (disch := omega) only [un_n, un_s, un_un, ub_n, ub_s]
        refine x_iconst C eX8_log_105 ?_
        refine x_iadd C eX8_log_106 ?_
        refine x_min C s_RX8_100 s2_min eX8_log_107 rfl (nle rfl) (nle rfl) (nle rfl) (nle rfl) (by omega) (by omega) ?_
        refine x_fastU [_, _] 1 C eX8_log_110 rfl hr (by omega) rfl ?_
        first | rw [encU_head _ (by omega)] | rw [encU_logi _ (by omega)]
        try simp (disch := omega) only [un_n, un_s, un_un, ub_n, ub_s, Int.reduceSub]
        refine x_vret C F eX8_log_111 () rfl trivial (fun cf c h => ?_) (nle rfl) (nle rfl)
        refine PW.wf (PW_cons (fun _ h => h) (PW_cons (fun _ h => fam_congr (fun r' hr' j hj => ?_) h) PW_nil)) (WF_pick [0, 1] rfl rfl h)
        unfold uN
        split
        · exact enc_log_eq (show k = 4 by omega) j hj
        · rfl
      · refine x_aload_n C eX8_log_13 rfl ?_
        refine x_getR 0 C f_RX8_24 eX8_log_14 rfl rfl ?_
        refine x_iload C eX8_log_17 rfl ?_
        refine x_aload_n C eX8_log_19 rfl ?_
        refine x_getR 0 C f_RX8_24 eX8_log_20 rfl rfl ?_
        refine x_iload C eX8_log_23 rfl ?_
        refine x_iconst C eX8_log_25 ?_
        refine x_isub C eX8_log_26 ?_
        refine x_faldU 1 C eX8_log_27 rfl hr (by omega) ?_
        rw [enc_logi _ (by omega), un_s, show 1616 + k - 5 - 1616 = k - 5 by omega]
        refine x_fastU [_, _] 1 C eX8_log_28 rfl hr (by omega) rfl ?_
        rw [encU_logi _ (by omega), un_s, un_un, show 1616 + k - 1616 = k by omega, lShift_step]
        refine x_iinc [_, _, _, _, _] C eX8_log_29 rfl rfl rfl ?_
        refine x_goto (pc' := 5) C eX8_log_32 rfl ?_
        have hh2 := ih (k - 1) (by omega) (by omega) (by omega)
        rw [show 1616 + (k - 1) = 1616 + k + -1 by omega] at hh2
        exact hh2
  refine x_sipush C eX8_log_0 rfl ?_
  refine x_istore [_, _, _, _, _] C eX8_log_3 rfl rfl (nlt rfl) ?_
  have h := loop 200 199 (by omega) (by omega) (by omega)
  rw [show lShift (n (-2)) 199 = lShift (n (-2)) 199 from rfl] at h
  refine x_ws _ (fun cf c hw => PW.wf (PW_cons (fun _ h => h) (PW_cons (fun _ h => fam_congr (N' := uN N r (un n (-2) (lShift (n (-2)) 199))) (fun r' hr' j hj => ?_) h) PW_nil)) hw) h
  unfold uN
  split
  · exact enc_shift0 n j hj
  · rfl
