set_option maxHeartbeats 4000000 in
set_option maxRecDepth 100000 in
theorem s_X6_sendFrom {G : Gm} {l : Launch} (hK : KG G) {M : Pool} {L : Int → Nat} {n : Net} {t al lg : Nat} {b l9 : Int} (hN : NetOk b n) (hb : b ≤ 1000000000) (hl : 0 ≤ l9 ∧ l9 < n (-1) 0) (hp : 0 < n l9 6) : MD G l yX6_sendFrom cX6_sendFrom 4 none 6 0 0 [.ref t, .int (zI l9)] [ob t 8 (tkS al lg) (tkI (n)), arR G 5 al 6 (fun j => some (L (j : Int))), LF G M L (n), LOG G lg (n)] none [ob t 8 (tkS al lg) (tkI (nSend n l9)), arR G 5 al 6 (fun j => some (L (j : Int))), LF G M L (nSend n l9), LOG G lg (nSend n l9)] := by
  refine MX_of (lv := [some (.ref t), some (.int (zI l9)), none, none]) hK (by decide +kernel) rfl (nle rfl) (fun X C F => ?_)
  have C : OKc G X l RX6 "sendFrom" cX6_sendFrom 4 none 6 0 0 := C
  have hH := hN.1
  unfold HeadOk at hH
  have hL9 := hN.2.2 l9 hl.1 hl.2
  have h27 := LineOk_c hL9 (k := 27) (by decide) (by decide)
  have h88 := LineOk_t hL9 (j := 0) (by decide) (by omega)
  rw [show (88 : Int) + 0 = 88 by decide] at h88
  unfold LineOk at hL9
  have hw9 : 0 ≤ nWait n l9 ∧ nWait n l9 ≤ 1000000000 := by unfold nWait; omega
  have gT := nSend2_12 hN hl hp (t := n (-1) 2) (by omega)
  have g0 := nSend2_h (n := n) (l := l9) (w := 0) hl.1 (by decide)
  have g1 := nSend2_h (n := n) (l := l9) (w := 1) hl.1 (by decide)
  have g2 := nSend2_h (n := n) (l := l9) (w := 2) hl.1 (by decide)
  have g5 := nSend2_h (n := n) (l := l9) (w := 5) hl.1 (by decide)
  have g3 := nSend2_3 n l9
  have g4 := nSend2_4 n l9
  have g6 := nSend2_6 n l9
  have g13 : 0 ≤ nSend2 n l9 (n (-1) 2) 13 ∧ nSend2 n l9 (n (-1) 2) 13 ≤ 5 := by
    have hT := hN.2.2 (n (-1) 2) (by omega) (by omega)
    unfold LineOk at hT
    unfold nSend2 nSend1
    rw [un_n (by omega)]
    by_cases c : n (-1) 2 = l9
    · rw [← c, un_s, ← bSnd_stop, bStop_n (by decide) (by decide)]
      unfold bSnd inc
      rw [ub_n (by decide), ub_n (by decide), ub_n (by decide), ub_n (by decide), bSend0_n (by omega) (by decide) (by decide)]
      omega
    · rw [un_n c, nLog_n (by omega) (by omega)]
      omega
  refine x_aload_n C eX6_sendFrom_0 rfl ?_
  refine x_iload_n C eX6_sendFrom_1 rfl ?_
  refine yV1r [_, _] [_, _, _, _] C (s_X6_lineAt hK (by omega)) v_X6_lineAt vv_X6_lineAt s_RX6_32 eX6_sendFrom_2 (fun _ _ h => WF_pick [0, 1, 2, 3] rfl rfl h) (rcv 0 rfl) rfl (nle rfl) (nle rfl) (nle rfl) (nle rfl) rfl ?_
  skip
  refine x_astore_n [_, _, _, _] C eX6_sendFrom_5 rfl rfl (nlt rfl) ?_
  refine x_oL (M := M) (L := L) (m := n) (i := l9) (R := [_, _, _]) (by omega) (fun _ _ hw => WF_pick [2, 0, 1, 3] rfl rfl hw) (fun A hA => ?_)
  refine x_aload_n C eX6_sendFrom_6 rfl ?_
  refine x_getI 11 C f_RX6_59 eX6_sendFrom_7 rfl rfl ?_
  try simp (disch := decide) only [up_s, up_n, tkI_2, tkI_3, tkI_4, tkI_5, tkI_6, tkI_7, tkI_8, lnI_1, lnI_2, lnI_3, lnI_4, lnI_5, lnI_10, lnI_11, lnI_12, lnI_13, lnI_14, lnI_15]
  refine x_aload_n C eX6_sendFrom_10 rfl ?_
  refine x_getR 0 C f_RX6_94 eX6_sendFrom_11 rfl rfl ?_
  refine x_iconst C eX6_sendFrom_14 ?_
  refine yV1r [_, _, _, _, _, _, _, _, _, _, _, _] [_, _, _, _, _, _, _, _, _, _, _, _, _, _] C (s_X3_at hK (by omega) (by omega)) v_X3_at vv_X3_at s_RX6_98 eX6_sendFrom_15 (fun _ _ h => WF_pick [3, 4, 0, 1, 2, 5, 6, 7, 8, 9, 10, 11, 12, 13] rfl rfl h) (rcv 3 rfl) rfl (nle rfl) (nle rfl) (nle rfl) (nle rfl) rfl ?_
  try dsimp only
  rw [show (0 : Int).toNat = 0 from rfl, show n l9 (88 + ((0 : Nat) : Int)) = n l9 88 from rfl]
  refine x_isub C eX6_sendFrom_18 ?_
  rw [show n (-1) 1 - n l9 88 = nWait n l9 from rfl]
  refine x_istore_n [_, _, _, _] C eX6_sendFrom_19 rfl rfl (nlt rfl) ?_
  refine x_oG (m := n) (R := [_, _, _, _, _, _, _, _, _, _, _, _, _]) (fun _ _ hw => WF_pick [13, 0, 1, 2, 3, 4, 5, 6, 7, 8, 9, 10, 11, 12] rfl rfl hw) (fun la x f hx hf => ?_)
  refine x_aload_n C eX6_sendFrom_20 rfl ?_
  refine x_getR 13 C f_RX6_20 eX6_sendFrom_21 rfl rfl ?_
  refine x_aload_n C eX6_sendFrom_24 rfl ?_
  refine x_getI 13 C f_RX6_59 eX6_sendFrom_25 rfl rfl ?_
  try simp (disch := decide) only [up_s, up_n, tkI_2, tkI_3, tkI_4, tkI_5, tkI_6, tkI_7, tkI_8, lnI_1, lnI_2, lnI_3, lnI_4, lnI_5, lnI_10, lnI_11, lnI_12, lnI_13, lnI_14, lnI_15]
  refine x_iload_n C eX6_sendFrom_28 rfl ?_
  refine x_aload_n C eX6_sendFrom_29 rfl ?_
  refine x_getI 13 C f_RX6_46 eX6_sendFrom_30 rfl rfl ?_
  try simp (disch := decide) only [up_s, up_n, tkI_2, tkI_3, tkI_4, tkI_5, tkI_6, tkI_7, tkI_8, lnI_1, lnI_2, lnI_3, lnI_4, lnI_5, lnI_10, lnI_11, lnI_12, lnI_13, lnI_14, lnI_15]
  refine x_aload_n C eX6_sendFrom_33 rfl ?_
  refine x_getR 4 C f_RX6_104 eX6_sendFrom_34 rfl rfl ?_
  refine x_iconst C eX6_sendFrom_37 ?_
  refine yV1r [_, _, _, _, _, _, _, _, _, _, _, _, _] [_, _, _, _, _, _, _, _, _, _, _, _, _, _, _] C (s_X3_at hK (by omega) (by omega)) v_X3_at vv_X3_at s_RX6_98 eX6_sendFrom_38 (fun _ _ h => WF_pick [5, 6, 0, 1, 2, 3, 4, 7, 8, 9, 10, 11, 12, 13, 14] rfl rfl h) (rcv 5 rfl) rfl (nle rfl) (nle rfl) (nle rfl) (nle rfl) rfl ?_
  try dsimp only
  rw [show (0 : Int).toNat = 0 from rfl, show n l9 (28 + ((0 : Nat) : Int)) = n l9 28 from rfl]
  refine x_iload_n C eX6_sendFrom_41 rfl ?_
  refine yV5v [_, _, _, _, _, _, _, _, _, _, _, _, _] [_, _, _, _, _, _, _, _, _, _, _, _, _, _, _] C (s_X1_add hK hx (by omega)) v_X1_add vv_X1_add s_RX6_107 eX6_sendFrom_42 (fun _ _ h => WF_pick [2, 3, 0, 1, 4, 5, 6, 7, 8, 9, 10, 11, 12, 13, 14] rfl rfl h) (rcv 2 rfl) rfl (nle rfl) (nle rfl) (nle rfl) (nle rfl) rfl ?_
  refine x_pick [_, _, _, _, _, _, _, _, _, _, _, _, _, _, _] [0, 1, 2, 3, 4, 5, 6, 7, 8, 9, 10, 11, 12, 13, 14] rfl rfl ?_
  refine x_cG (m := nLog n l9 (n l9 28) (nWait n l9)) (lgN_r hx) (by unfold nLog; rw [un_s, ub_s]; omega) (LogR_add hf hx (by omega)) ?_
  refine x_aload_n C eX6_sendFrom_45 rfl ?_
  refine x_iload_n C eX6_sendFrom_46 rfl ?_
  refine x_iload_n C eX6_sendFrom_47 rfl ?_
  refine x_aload_n C eX6_sendFrom_48 rfl ?_
  refine x_getI 12 C f_RX6_46 eX6_sendFrom_49 rfl rfl ?_
  try simp (disch := decide) only [up_s, up_n, tkI_2, tkI_3, tkI_4, tkI_5, tkI_6, tkI_7, tkI_8, lnI_1, lnI_2, lnI_3, lnI_4, lnI_5, lnI_10, lnI_11, lnI_12, lnI_13, lnI_14, lnI_15]
  refine x_icmp_eq 59 C eX6_sendFrom_52 rfl (by omega) (by omega) (fun h52 => ?_) (fun h52 => ?_)
  · refine x_iconst C eX6_sendFrom_59 ?_
    refine yV2v [_, _, _, _] [_, _, _, _, _, _, _, _, _, _, _, _, _, _] C (s_X0_sendFirst hK (by omega) (by omega) hw9 (by omega)) v_X0_sendFirst vv_X0_sendFirst s_RX6_111 eX6_sendFrom_60 (fun _ _ h => WF_pick [5, 1, 2, 3, 4, 6, 7, 8, 9, 10, 0, 11, 12, 13] rfl rfl h) (rcv 5 rfl) rfl (nle rfl) (nle rfl) (nle rfl) (nle rfl) rfl ?_
    skip
    refine x_aload_n C eX6_sendFrom_63 rfl ?_
    refine yV0v [_, _, _, _] [_, _, _, _, _, _, _, _, _, _, _, _, _, _] C (s_X0_tellStopping hK (by unfold bSnd; simp (disch := omega) only [ub_n, inc, bSend0_n, bSend0_6]; omega)) v_X0_tellStopping vv_X0_tellStopping s_RX6_115 eX6_sendFrom_64 (fun _ _ h => WF_pick [0, 1, 2, 3, 4, 5, 6, 7, 8, 9, 10, 11, 12, 13] rfl rfl h) (rcv 0 rfl) rfl (nle rfl) (nle rfl) (nle rfl) (nle rfl) rfl ?_
    rw [bSnd_stop]
    first
      | rw [show bSend (n l9) 1 (nWait n l9) = bSend (n l9) (if l9 = n (-1) 2 then 0 else 1) (nWait n l9) from by rw [if_neg (by omega)]]
      | rw [show bSend (n l9) 0 (nWait n l9) = bSend (n l9) (if l9 = n (-1) 2 then 0 else 1) (nWait n l9) from by rw [if_pos (by omega)]]
    refine x_pick [_, _, _, _, _, _, _, _, _, _, _, _, _, _] [0, 1, 2, 3, 4, 5, 6, 7, 8, 9, 11, 10, 12, 13] rfl rfl ?_
    refine x_cL (m := n) (i := l9) (A := A) (B := bSend (n l9) (if l9 = n (-1) 2 then 0 else 1) (nWait n l9)) (by omega) (by rw [bSend_0 (by omega)]; exact hA) (fun cf c h => ?_) ?_
    · exact h
    refine x_aload_n C eX6_sendFrom_67 rfl ?_
    refine x_dup C eX6_sendFrom_68 rfl ?_
    refine x_getI 2 C f_RX6_118 eX6_sendFrom_69 rfl rfl ?_
    try simp (disch := decide) only [up_s, up_n, tkI_2, tkI_3, tkI_4, tkI_5, tkI_6, tkI_7, tkI_8, lnI_1, lnI_2, lnI_3, lnI_4, lnI_5, lnI_10, lnI_11, lnI_12, lnI_13, lnI_14, lnI_15]
    refine x_iconst C eX6_sendFrom_72 ?_
    refine x_iadd C eX6_sendFrom_73 ?_
    refine x_putI [_, _, _, _] 2 C f_RX6_118 eX6_sendFrom_74 rfl rfl rfl ?_
    refine x_aload_n C eX6_sendFrom_77 rfl ?_
    refine x_iconst C eX6_sendFrom_78 ?_
    refine x_putZ [_, _, _, _] 2 C f_RX6_121 eX6_sendFrom_79 rfl rfl (by omega) rfl ?_
    refine x_aload_n C eX6_sendFrom_82 rfl ?_
    refine x_dup C eX6_sendFrom_83 rfl ?_
    refine x_getI 2 C f_RX6_28 eX6_sendFrom_84 rfl rfl ?_
    try simp (disch := decide) only [up_s, up_n, tkI_2, tkI_3, tkI_4, tkI_5, tkI_6, tkI_7, tkI_8, lnI_1, lnI_2, lnI_3, lnI_4, lnI_5, lnI_10, lnI_11, lnI_12, lnI_13, lnI_14, lnI_15]
    refine x_iconst C eX6_sendFrom_87 ?_
    refine x_isub C eX6_sendFrom_88 ?_
    refine x_putI [_, _, _, _] 2 C f_RX6_28 eX6_sendFrom_89 rfl rfl rfl ?_
    refine x_ws ((ob t 8 (tkS al lg) (tkI (nSend2 n l9))) :: (arR G 5 al 6 (fun j => some (L (j : Int)))) :: (LF G M L (nSend2 n l9)) :: (LOG G lg (nSend2 n l9)) :: []) (fun cf0 c hw => TKcv (n1 := un n l9 (bSend (n l9) (if l9 = n (-1) 2 then 0 else 1) (nWait n l9))) (n2 := nLog n l9 (n l9 28) (nWait n l9)) ?_ ?_ ?_ ?_ ?_ ?_ ?_ ?_ ?_ ?_ ?_ (R := []) (WF_pick [2, 3, 0, 1] rfl rfl hw)) ?_
    · simp (disch := decide) only [up_s, up_n, tkI_2]; exact g0.symm
    · simp (disch := decide) only [up_s, up_n, tkI_3]; exact g1.symm
    · simp (disch := decide) only [up_s, up_n, tkI_4]; exact g2.symm
    · simp (disch := decide) only [up_s, up_n, tkI_5]; exact g3.symm
    · simp (disch := decide) only [up_s, up_n, tkI_6]; exact g6.symm
    · simp (disch := decide) only [up_s, up_n, tkI_7]; exact g4.symm
    · simp (disch := decide) only [up_s, up_n, tkI_8]; exact g5.symm
    · rw [g0, un_n (by omega)]
    · intro l' u v
      unfold nSend2 nSend1
      rw [un_n (by omega)]
      by_cases c : l' = l9
      · subst c; rw [un_s, un_s]
      · rw [un_n c, un_n c, nLog_n (by omega) (by omega)]
    · unfold nSend2
      rw [un_s, ub_n (by decide), ub_n (by decide), ub_n (by decide)]
      unfold nSend1
      rw [un_n (by omega)]
    · unfold nSend2 nSend1
      rw [un_n (by decide), un_n (by omega)]
    refine x_aload_n C eX6_sendFrom_92 rfl ?_
    refine x_getI 0 C f_RX6_28 eX6_sendFrom_93 rfl rfl ?_
    try simp (disch := decide) only [up_s, up_n, tkI_2, tkI_3, tkI_4, tkI_5, tkI_6, tkI_7, tkI_8, lnI_1, lnI_2, lnI_3, lnI_4, lnI_5, lnI_10, lnI_11, lnI_12, lnI_13, lnI_14, lnI_15]
    refine x_if_gt 103 C eX6_sendFrom_96 rfl (by omega) (fun h96 => ?_) (fun h96 => ?_)
    · refine x_vret C F eX6_sendFrom_103 () rfl trivial (fun cf c h => ?_) (nle rfl) (nle rfl)
      first
        | (rw [show nSend n l9 = nPass (nSend2 n l9) from if_pos (by omega)]
           exact WF_pick [0, 1, 2, 3] rfl rfl h)
        | (rw [show nSend n l9 = nSend2 n l9 from if_neg (by omega)]
           exact WF_pick [0, 1, 2, 3] rfl rfl h)
    · refine x_aload_n C eX6_sendFrom_99 rfl ?_
      refine yV0v [] [_, _, _, _] C (s_X6_passOn hK (by rw [g0, g2, g6]; omega) (by rw [g2]; exact ⟨gT, g13⟩)) v_X6_passOn vv_X6_passOn s_RX6_91 eX6_sendFrom_100 (fun _ _ h => WF_pick [0, 1, 2, 3] rfl rfl h) (rcv 0 rfl) rfl (nle rfl) (nle rfl) (nle rfl) (nle rfl) rfl ?_
      skip
      refine x_vret C F eX6_sendFrom_103 () rfl trivial (fun cf c h => ?_) (nle rfl) (nle rfl)
      first
        | (rw [show nSend n l9 = nPass (nSend2 n l9) from if_pos (by omega)]
           exact WF_pick [0, 1, 2, 3] rfl rfl h)
        | (rw [show nSend n l9 = nSend2 n l9 from if_neg (by omega)]
           exact WF_pick [0, 1, 2, 3] rfl rfl h)
  · refine x_iconst C eX6_sendFrom_55 ?_
    refine x_goto (pc' := 60) C eX6_sendFrom_56 rfl ?_
    refine yV2v [_, _, _, _] [_, _, _, _, _, _, _, _, _, _, _, _, _, _] C (s_X0_sendFirst hK (by omega) (by omega) hw9 (by omega)) v_X0_sendFirst vv_X0_sendFirst s_RX6_111 eX6_sendFrom_60 (fun _ _ h => WF_pick [5, 1, 2, 3, 4, 6, 7, 8, 9, 10, 0, 11, 12, 13] rfl rfl h) (rcv 5 rfl) rfl (nle rfl) (nle rfl) (nle rfl) (nle rfl) rfl ?_
    skip
    refine x_aload_n C eX6_sendFrom_63 rfl ?_
    refine yV0v [_, _, _, _] [_, _, _, _, _, _, _, _, _, _, _, _, _, _] C (s_X0_tellStopping hK (by unfold bSnd; simp (disch := omega) only [ub_n, inc, bSend0_n, bSend0_6]; omega)) v_X0_tellStopping vv_X0_tellStopping s_RX6_115 eX6_sendFrom_64 (fun _ _ h => WF_pick [0, 1, 2, 3, 4, 5, 6, 7, 8, 9, 10, 11, 12, 13] rfl rfl h) (rcv 0 rfl) rfl (nle rfl) (nle rfl) (nle rfl) (nle rfl) rfl ?_
    rw [bSnd_stop]
    first
      | rw [show bSend (n l9) 1 (nWait n l9) = bSend (n l9) (if l9 = n (-1) 2 then 0 else 1) (nWait n l9) from by rw [if_neg (by omega)]]
      | rw [show bSend (n l9) 0 (nWait n l9) = bSend (n l9) (if l9 = n (-1) 2 then 0 else 1) (nWait n l9) from by rw [if_pos (by omega)]]
    refine x_pick [_, _, _, _, _, _, _, _, _, _, _, _, _, _] [0, 1, 2, 3, 4, 5, 6, 7, 8, 9, 11, 10, 12, 13] rfl rfl ?_
    refine x_cL (m := n) (i := l9) (A := A) (B := bSend (n l9) (if l9 = n (-1) 2 then 0 else 1) (nWait n l9)) (by omega) (by rw [bSend_0 (by omega)]; exact hA) (fun cf c h => ?_) ?_
    · exact h
    refine x_aload_n C eX6_sendFrom_67 rfl ?_
    refine x_dup C eX6_sendFrom_68 rfl ?_
    refine x_getI 2 C f_RX6_118 eX6_sendFrom_69 rfl rfl ?_
    try simp (disch := decide) only [up_s, up_n, tkI_2, tkI_3, tkI_4, tkI_5, tkI_6, tkI_7, tkI_8, lnI_1, lnI_2, lnI_3, lnI_4, lnI_5, lnI_10, lnI_11, lnI_12, lnI_13, lnI_14, lnI_15]
    refine x_iconst C eX6_sendFrom_72 ?_
    refine x_iadd C eX6_sendFrom_73 ?_
    refine x_putI [_, _, _, _] 2 C f_RX6_118 eX6_sendFrom_74 rfl rfl rfl ?_
    refine x_aload_n C eX6_sendFrom_77 rfl ?_
    refine x_iconst C eX6_sendFrom_78 ?_
    refine x_putZ [_, _, _, _] 2 C f_RX6_121 eX6_sendFrom_79 rfl rfl (by omega) rfl ?_
    refine x_aload_n C eX6_sendFrom_82 rfl ?_
    refine x_dup C eX6_sendFrom_83 rfl ?_
    refine x_getI 2 C f_RX6_28 eX6_sendFrom_84 rfl rfl ?_
    try simp (disch := decide) only [up_s, up_n, tkI_2, tkI_3, tkI_4, tkI_5, tkI_6, tkI_7, tkI_8, lnI_1, lnI_2, lnI_3, lnI_4, lnI_5, lnI_10, lnI_11, lnI_12, lnI_13, lnI_14, lnI_15]
    refine x_iconst C eX6_sendFrom_87 ?_
    refine x_isub C eX6_sendFrom_88 ?_
    refine x_putI [_, _, _, _] 2 C f_RX6_28 eX6_sendFrom_89 rfl rfl rfl ?_
    refine x_ws ((ob t 8 (tkS al lg) (tkI (nSend2 n l9))) :: (arR G 5 al 6 (fun j => some (L (j : Int)))) :: (LF G M L (nSend2 n l9)) :: (LOG G lg (nSend2 n l9)) :: []) (fun cf0 c hw => TKcv (n1 := un n l9 (bSend (n l9) (if l9 = n (-1) 2 then 0 else 1) (nWait n l9))) (n2 := nLog n l9 (n l9 28) (nWait n l9)) ?_ ?_ ?_ ?_ ?_ ?_ ?_ ?_ ?_ ?_ ?_ (R := []) (WF_pick [2, 3, 0, 1] rfl rfl hw)) ?_
    · simp (disch := decide) only [up_s, up_n, tkI_2]; exact g0.symm
    · simp (disch := decide) only [up_s, up_n, tkI_3]; exact g1.symm
    · simp (disch := decide) only [up_s, up_n, tkI_4]; exact g2.symm
    · simp (disch := decide) only [up_s, up_n, tkI_5]; exact g3.symm
    · simp (disch := decide) only [up_s, up_n, tkI_6]; exact g6.symm
    · simp (disch := decide) only [up_s, up_n, tkI_7]; exact g4.symm
    · simp (disch := decide) only [up_s, up_n, tkI_8]; exact g5.symm
    · rw [g0, un_n (by omega)]
    · intro l' u v
      unfold nSend2 nSend1
      rw [un_n (by omega)]
      by_cases c : l' = l9
      · subst c; rw [un_s, un_s]
      · rw [un_n c, un_n c, nLog_n (by omega) (by omega)]
    · unfold nSend2
      rw [un_s, ub_n (by decide), ub_n (by decide), ub_n (by decide)]
      unfold nSend1
      rw [un_n (by omega)]
    · unfold nSend2 nSend1
      rw [un_n (by decide), un_n (by omega)]
    refine x_aload_n C eX6_sendFrom_92 rfl ?_
    refine x_getI 0 C f_RX6_28 eX6_sendFrom_93 rfl rfl ?_
    try simp (disch := decide) only [up_s, up_n, tkI_2, tkI_3, tkI_4, tkI_5, tkI_6, tkI_7, tkI_8, lnI_1, lnI_2, lnI_3, lnI_4, lnI_5, lnI_10, lnI_11, lnI_12, lnI_13, lnI_14, lnI_15]
    refine x_if_gt 103 C eX6_sendFrom_96 rfl (by omega) (fun h96 => ?_) (fun h96 => ?_)
    · refine x_vret C F eX6_sendFrom_103 () rfl trivial (fun cf c h => ?_) (nle rfl) (nle rfl)
      first
        | (rw [show nSend n l9 = nPass (nSend2 n l9) from if_pos (by omega)]
           exact WF_pick [0, 1, 2, 3] rfl rfl h)
        | (rw [show nSend n l9 = nSend2 n l9 from if_neg (by omega)]
           exact WF_pick [0, 1, 2, 3] rfl rfl h)
    · refine x_aload_n C eX6_sendFrom_99 rfl ?_
      refine yV0v [] [_, _, _, _] C (s_X6_passOn hK (by rw [g0, g2, g6]; omega) (by rw [g2]; exact ⟨gT, g13⟩)) v_X6_passOn vv_X6_passOn s_RX6_91 eX6_sendFrom_100 (fun _ _ h => WF_pick [0, 1, 2, 3] rfl rfl h) (rcv 0 rfl) rfl (nle rfl) (nle rfl) (nle rfl) (nle rfl) rfl ?_
      skip
      refine x_vret C F eX6_sendFrom_103 () rfl trivial (fun cf c h => ?_) (nle rfl) (nle rfl)
      first
        | (rw [show nSend n l9 = nPass (nSend2 n l9) from if_pos (by omega)]
           exact WF_pick [0, 1, 2, 3] rfl rfl h)
        | (rw [show nSend n l9 = nSend2 n l9 from if_neg (by omega)]
           exact WF_pick [0, 1, 2, 3] rfl rfl h)
