set_option maxHeartbeats 4000000 in
set_option maxRecDepth 100000 in
theorem s_X6_lineAt {G : Gm} {l : Launch} (hK : KG G) {L : Int → Nat} {t al lg : Nat} {J : Nat → Int} {i9 : Int} (hi : 0 ≤ i9 ∧ i9 < 6) : MD G l yX6_lineAt cX6_lineAt 2 (some (.object "EchoLine$Line")) 1 0 0 [.ref t, .int (zI i9)] [ob t 8 (tkS al lg) (J), arR G 5 al 6 (fun j => some (L (j : Int)))] (some (.ref (L i9))) [ob t 8 (tkS al lg) (J), arR G 5 al 6 (fun j => some (L (j : Int)))] := by
  refine MX_of (lv := [some (.ref t), some (.int (zI i9))]) hK (by decide +kernel) rfl (nle rfl) (fun X C F => ?_)
  have C : OKc G X l RX6 "lineAt" cX6_lineAt 2 (some (.object "EchoLine$Line")) 1 0 0 := C
  refine x_aload_n C eX6_lineAt_0 rfl ?_
  refine x_getR 0 C f_RX6_11 eX6_lineAt_1 rfl rfl ?_
  refine x_iload_n C eX6_lineAt_4 rfl ?_
  refine x_if_lt 21 C eX6_lineAt_5 rfl (by omega) (fun h5 => ?_) (fun h5 => ?_)
  · exfalso; omega
  · refine x_iload_n C eX6_lineAt_8 rfl ?_
    refine x_aload_n C eX6_lineAt_9 rfl ?_
    refine x_getR 0 C f_RX6_11 eX6_lineAt_10 rfl rfl ?_
    refine x_alen 1 C eX6_lineAt_13 rfl (by decide) arR_al ?_
    refine x_icmp_ge 21 C eX6_lineAt_14 rfl (by omega) (by omega) (fun h14 => ?_) (fun h14 => ?_)
    · exfalso; omega
    · refine x_iload_n C eX6_lineAt_17 rfl ?_
      refine x_goto (pc' := 22) C eX6_lineAt_18 rfl ?_
      refine x_aald 1 C eX6_lineAt_22 rfl (Or.inl rfl) (by decide) (by omega) (by show va_rf (some (L ((i9.toNat : Nat) : Int))) = _; rw [show ((i9.toNat : Nat) : Int) = i9 by omega]) ?_
      refine x_aret (Or.inl ⟨_, rfl⟩) C F eX6_lineAt_23 () ?_ trivial (fun cf c h => ?_) (nle rfl) (nle rfl)
      · rfl
      · exact WF_pick [0, 1] rfl rfl h

set_option maxHeartbeats 4000000 in
set_option maxRecDepth 100000 in
theorem s_X6_sender {G : Gm} {l : Launch} (hK : KG G) {M : Pool} {L : Int → Nat} {n : Net} {t al lg : Nat} {b : Int} (hN : NetOk b n) (hb : b ≤ 1000000000) : MD G l yX6_sender cX6_sender 2 (some .int) 2 0 0 [.ref t] [ob t 8 (tkS al lg) (tkI (n)), arR G 5 al 6 (fun j => some (L (j : Int))), LF G M L (n)] (some (.int (zI (nSender n)))) [ob t 8 (tkS al lg) (tkI (n)), arR G 5 al 6 (fun j => some (L (j : Int))), LF G M L (n)] := by
  refine MX_of (lv := [some (.ref t), none]) hK (by decide +kernel) rfl (nle rfl) (fun X C F => ?_)
  have C : OKc G X l RX6 "sender" cX6_sender 2 (some .int) 2 0 0 := C
  have hH := hN.1
  unfold HeadOk at hH
  have hT0 := hN.2.2 (n (-1) 2) (by omega) (by omega)
  have hto := lnTo_r hT0
  have hT := hT0
  unfold LineOk at hT
  refine x_aload_n C eX6_sender_0 rfl ?_
  refine x_aload_n C eX6_sender_1 rfl ?_
  refine x_getI 0 C f_RX6_46 eX6_sender_2 rfl rfl ?_
  try simp (disch := decide) only [up_s, up_n, tkI_2, tkI_3, tkI_4, tkI_5, tkI_6, tkI_7, tkI_8, lnI_1, lnI_2, lnI_3, lnI_4, lnI_5, lnI_10, lnI_11, lnI_12, lnI_13, lnI_14, lnI_15]
  refine yV1r [_] [_, _, _] C (s_X6_lineAt hK (by omega)) v_X6_lineAt vv_X6_lineAt s_RX6_32 eX6_sender_5 (fun _ _ h => WF_pick [0, 1, 2] rfl rfl h) (rcv 0 rfl) rfl (nle rfl) (nle rfl) (nle rfl) (nle rfl) rfl ?_
  skip
  refine x_gL 2 C f_RX6_49 eX6_sender_8 rfl (by omega) rfl ?_
  try simp only [lnI_1, lnI_2, lnI_3, lnI_4, lnI_5, lnI_10, lnI_11, lnI_12, lnI_13, lnI_14, lnI_15]
  refine x_istore_n [_, _] C eX6_sender_11 rfl rfl (nlt rfl) ?_
  refine x_iload_n C eX6_sender_12 rfl ?_
  refine x_iconst C eX6_sender_13 ?_
  refine x_icmp_ne 24 C eX6_sender_14 rfl (by omega) (by omega) (fun h14 => ?_) (fun h14 => ?_)
  · refine x_iload_n C eX6_sender_24 rfl ?_
    refine x_iret (by first | rfl | exact (narZ (by omega)).1) C F eX6_sender_25 () ?_ trivial (fun cf c h => ?_) (nle rfl) (nle rfl)
    · first
        | rw [show nSender n = n (n (-1) 2) 13 from if_pos (by omega), ← hto.2 (by omega)]
        | rw [show nSender n = n (-1) 2 from if_neg (by omega)]
    · exact WF_pick [0, 1, 2] rfl rfl h
  · refine x_aload_n C eX6_sender_17 rfl ?_
    refine x_getI 0 C f_RX6_46 eX6_sender_18 rfl rfl ?_
    try simp (disch := decide) only [up_s, up_n, tkI_2, tkI_3, tkI_4, tkI_5, tkI_6, tkI_7, tkI_8, lnI_1, lnI_2, lnI_3, lnI_4, lnI_5, lnI_10, lnI_11, lnI_12, lnI_13, lnI_14, lnI_15]
    refine x_goto (pc' := 25) C eX6_sender_21 rfl ?_
    refine x_iret (by first | rfl | exact (narZ (by omega)).1) C F eX6_sender_25 () ?_ trivial (fun cf c h => ?_) (nle rfl) (nle rfl)
    · first
        | rw [show nSender n = n (n (-1) 2) 13 from if_pos (by omega), ← hto.2 (by omega)]
        | rw [show nSender n = n (-1) 2 from if_neg (by omega)]
    · exact WF_pick [0, 1, 2] rfl rfl h

set_option maxHeartbeats 4000000 in
set_option maxRecDepth 100000 in
theorem s_X6_passOn {G : Gm} {l : Launch} (hK : KG G) {M : Pool} {L : Int → Nat} {n : Net} {t al lg : Nat} (h0 : (1 ≤ n (-1) 0 ∧ n (-1) 0 ≤ 6) ∧ (0 ≤ n (-1) 2 ∧ n (-1) 2 < n (-1) 0) ∧ (n (-1) 6 = 0 ∨ n (-1) 6 = 1)) (hT : (0 ≤ n (n (-1) 2) 12 ∧ n (n (-1) 2) 12 ≤ 99) ∧ (0 ≤ n (n (-1) 2) 13 ∧ n (n (-1) 2) 13 ≤ 5)) : MD G l yX6_passOn cX6_passOn 2 none 2 0 0 [.ref t] [ob t 8 (tkS al lg) (tkI (n)), arR G 5 al 6 (fun j => some (L (j : Int))), LF G M L (n), LOG G lg (n)] none [ob t 8 (tkS al lg) (tkI (nPass n)), arR G 5 al 6 (fun j => some (L (j : Int))), LF G M L (nPass n), LOG G lg (nPass n)] := by
  refine MX_of (lv := [some (.ref t), none]) hK (by decide +kernel) rfl (nle rfl) (fun X C F => ?_)
  have C : OKc G X l RX6 "passOn" cX6_passOn 2 none 2 0 0 := C
  have hx := nNext_if h0.1.1 h0.2.1
  have hxr : 0 ≤ nNext n ∧ nNext n < n (-1) 0 := by rw [hx]; split <;> omega
  have e0 : nPass0 n (-1) 0 = n (-1) 0 := nPass0_h n 0 h0.2.1.1
  have e4 := nPass0_4 (n := n) (l := nNext n) (w := 4) hxr.1 (by decide)
  have j44 : WX G X 0 0 [ob t 8 (tkS al lg) (tkI (n)), arR G 5 al 6 (fun j => some (L (j : Int))), LF G M L (nPass0 n), LOG G lg (n)] 44 [some (.ref t), some (.ref (L (n (-1) 2)))] [] := by
    refine x_aload_n C eX6_passOn_44 rfl ?_
    refine x_iconst C eX6_passOn_45 ?_
    refine x_putZ [_, _, _, _] 0 C f_RX6_121 eX6_passOn_46 rfl rfl (by omega) rfl ?_
    refine x_aload_n C eX6_passOn_49 rfl ?_
    refine x_aload_n C eX6_passOn_50 rfl ?_
    refine x_getI 0 C f_RX6_46 eX6_passOn_51 rfl rfl ?_
    try simp (disch := decide) only [up_s, up_n, tkI_2, tkI_3, tkI_4, tkI_5, tkI_6, tkI_7, tkI_8, lnI_1, lnI_2, lnI_3, lnI_4, lnI_5, lnI_10, lnI_11, lnI_12, lnI_13, lnI_14, lnI_15]
    refine x_iconst C eX6_passOn_54 ?_
    refine x_iadd C eX6_passOn_55 ?_
    refine x_aload_n C eX6_passOn_56 rfl ?_
    refine x_getI 0 C f_RX6_24 eX6_passOn_57 rfl rfl ?_
    try simp (disch := decide) only [up_s, up_n, tkI_2, tkI_3, tkI_4, tkI_5, tkI_6, tkI_7, tkI_8, lnI_1, lnI_2, lnI_3, lnI_4, lnI_5, lnI_10, lnI_11, lnI_12, lnI_13, lnI_14, lnI_15]
    refine x_icmp_ge 72 C eX6_passOn_60 rfl (by omega) (by omega) (fun h60 => ?_) (fun h60 => ?_)
    · refine x_iconst C eX6_passOn_72 ?_
      refine x_putI [_, _, _, _] 0 C f_RX6_46 eX6_passOn_73 rfl rfl rfl ?_
      refine x_aload_n C eX6_passOn_76 rfl ?_
      refine x_aload_n C eX6_passOn_77 rfl ?_
      refine x_aload_n C eX6_passOn_78 rfl ?_
      refine x_getI 0 C f_RX6_46 eX6_passOn_79 rfl rfl ?_
      try simp (disch := decide) only [up_s, up_n, tkI_2, tkI_3, tkI_4, tkI_5, tkI_6, tkI_7, tkI_8, lnI_1, lnI_2, lnI_3, lnI_4, lnI_5, lnI_10, lnI_11, lnI_12, lnI_13, lnI_14, lnI_15]
      refine yV1r [_, _] [_, _, _, _] C (s_X6_lineAt hK (by omega)) v_X6_lineAt vv_X6_lineAt s_RX6_32 eX6_passOn_82 (fun _ _ h => WF_pick [0, 1, 2, 3] rfl rfl h) (rcv 0 rfl) rfl (nle rfl) (nle rfl) (nle rfl) (nle rfl) rfl ?_
      skip
      refine x_gL 2 C f_RX6_131 eX6_passOn_85 rfl (by omega) rfl ?_
      try simp only [lnI_1, lnI_2, lnI_3, lnI_4, lnI_5, lnI_10, lnI_11, lnI_12, lnI_13, lnI_14, lnI_15]
      refine x_putI [_, _, _, _] 0 C f_RX6_28 eX6_passOn_88 rfl rfl rfl ?_
      refine x_vret C F eX6_passOn_91 () rfl trivial (fun cf c h => ?_) (nle rfl) (nle rfl)
      refine TKcv (n1 := nPass0 n) (n2 := n) ?_ ?_ ?_ ?_ ?_ ?_ ?_ ?_ ?_ ?_ ?_ (R := []) (WF_pick [0, 1, 2, 3] rfl rfl h)
      · simp (disch := decide) only [up_n, tkI_2]; exact (nPass_h (by decide)).symm
      · simp (disch := decide) only [up_n, tkI_3]; exact (nPass_h (by decide)).symm
      · simp (disch := decide) only [up_s, up_n]; unfold nPass; rw [un_s, ub_n (by decide), ub_n (by decide), ub_s, hx]; split <;> omega
      · simp (disch := decide) only [up_s, up_n]; rw [nPass0_4 (by omega) (by decide)]; unfold nPass; rw [un_s, ub_n (by decide), ub_s]; congr 2; rw [hx]; split <;> omega
      · simp (disch := decide) only [up_s, up_n]; unfold nPass; rw [un_s, ub_s]
      · simp (disch := decide) only [up_n, tkI_7]; exact (nPass_h (by decide)).symm
      · simp (disch := decide) only [up_n, tkI_8]; exact (nPass_h (by decide)).symm
      · rw [e0]; exact nPass_h (by decide)
      · exact fun l u v => nPass_l u
      · exact nPass_h (by decide)
      · exact nPass_2 h0.2.1.1
    · refine x_aload_n C eX6_passOn_63 rfl ?_
      refine x_getI 0 C f_RX6_46 eX6_passOn_64 rfl rfl ?_
      try simp (disch := decide) only [up_s, up_n, tkI_2, tkI_3, tkI_4, tkI_5, tkI_6, tkI_7, tkI_8, lnI_1, lnI_2, lnI_3, lnI_4, lnI_5, lnI_10, lnI_11, lnI_12, lnI_13, lnI_14, lnI_15]
      refine x_iconst C eX6_passOn_67 ?_
      refine x_iadd C eX6_passOn_68 ?_
      refine x_goto (pc' := 73) C eX6_passOn_69 rfl ?_
      refine x_putI [_, _, _, _] 0 C f_RX6_46 eX6_passOn_73 rfl rfl rfl ?_
      refine x_aload_n C eX6_passOn_76 rfl ?_
      refine x_aload_n C eX6_passOn_77 rfl ?_
      refine x_aload_n C eX6_passOn_78 rfl ?_
      refine x_getI 0 C f_RX6_46 eX6_passOn_79 rfl rfl ?_
      try simp (disch := decide) only [up_s, up_n, tkI_2, tkI_3, tkI_4, tkI_5, tkI_6, tkI_7, tkI_8, lnI_1, lnI_2, lnI_3, lnI_4, lnI_5, lnI_10, lnI_11, lnI_12, lnI_13, lnI_14, lnI_15]
      refine yV1r [_, _] [_, _, _, _] C (s_X6_lineAt hK (by omega)) v_X6_lineAt vv_X6_lineAt s_RX6_32 eX6_passOn_82 (fun _ _ h => WF_pick [0, 1, 2, 3] rfl rfl h) (rcv 0 rfl) rfl (nle rfl) (nle rfl) (nle rfl) (nle rfl) rfl ?_
      skip
      refine x_gL 2 C f_RX6_131 eX6_passOn_85 rfl (by omega) rfl ?_
      try simp only [lnI_1, lnI_2, lnI_3, lnI_4, lnI_5, lnI_10, lnI_11, lnI_12, lnI_13, lnI_14, lnI_15]
      refine x_putI [_, _, _, _] 0 C f_RX6_28 eX6_passOn_88 rfl rfl rfl ?_
      refine x_vret C F eX6_passOn_91 () rfl trivial (fun cf c h => ?_) (nle rfl) (nle rfl)
      refine TKcv (n1 := nPass0 n) (n2 := n) ?_ ?_ ?_ ?_ ?_ ?_ ?_ ?_ ?_ ?_ ?_ (R := []) (WF_pick [0, 1, 2, 3] rfl rfl h)
      · simp (disch := decide) only [up_n, tkI_2]; exact (nPass_h (by decide)).symm
      · simp (disch := decide) only [up_n, tkI_3]; exact (nPass_h (by decide)).symm
      · simp (disch := decide) only [up_s, up_n]; unfold nPass; rw [un_s, ub_n (by decide), ub_n (by decide), ub_s, hx]; split <;> omega
      · simp (disch := decide) only [up_s, up_n]; rw [nPass0_4 (by omega) (by decide)]; unfold nPass; rw [un_s, ub_n (by decide), ub_s]; congr 2; rw [hx]; split <;> omega
      · simp (disch := decide) only [up_s, up_n]; unfold nPass; rw [un_s, ub_s]
      · simp (disch := decide) only [up_n, tkI_7]; exact (nPass_h (by decide)).symm
      · simp (disch := decide) only [up_n, tkI_8]; exact (nPass_h (by decide)).symm
      · rw [e0]; exact nPass_h (by decide)
      · exact fun l u v => nPass_l u
      · exact nPass_h (by decide)
      · exact nPass_2 h0.2.1.1
  refine x_aload_n C eX6_passOn_0 rfl ?_
  refine x_aload_n C eX6_passOn_1 rfl ?_
  refine x_getI 0 C f_RX6_46 eX6_passOn_2 rfl rfl ?_
  try simp (disch := decide) only [up_s, up_n, tkI_2, tkI_3, tkI_4, tkI_5, tkI_6, tkI_7, tkI_8, lnI_1, lnI_2, lnI_3, lnI_4, lnI_5, lnI_10, lnI_11, lnI_12, lnI_13, lnI_14, lnI_15]
  refine yV1r [_, _] [_, _, _, _] C (s_X6_lineAt hK (by omega)) v_X6_lineAt vv_X6_lineAt s_RX6_32 eX6_passOn_5 (fun _ _ h => WF_pick [0, 1, 2, 3] rfl rfl h) (rcv 0 rfl) rfl (nle rfl) (nle rfl) (nle rfl) (nle rfl) rfl ?_
  skip
  refine x_astore_n [_, _] C eX6_passOn_8 rfl rfl (nlt rfl) ?_
  refine x_aload_n C eX6_passOn_9 rfl ?_
  refine x_getI 0 C f_RX6_121 eX6_passOn_10 rfl rfl ?_
  try simp (disch := decide) only [up_s, up_n, tkI_2, tkI_3, tkI_4, tkI_5, tkI_6, tkI_7, tkI_8, lnI_1, lnI_2, lnI_3, lnI_4, lnI_5, lnI_10, lnI_11, lnI_12, lnI_13, lnI_14, lnI_15]
  refine x_if_eq 44 C eX6_passOn_13 rfl (by omega) (fun h13 => ?_) (fun h13 => ?_)
  · first
      | rw [show nPass0 n = n from if_neg (by omega)] at j44
      | rw [show nPass0 n = un n (n (-1) 2) (ub (n (n (-1) 2)) 12 (n (n (-1) 2) 12 - 1)) from if_pos (by omega)] at j44
    exact x_pick [_, _, _, _] [0, 1, 2, 3] rfl rfl j44
  · refine x_aload_n C eX6_passOn_16 rfl ?_
    refine x_gL 2 C f_RX6_125 eX6_passOn_17 rfl (by omega) rfl ?_
    try simp only [lnI_1, lnI_2, lnI_3, lnI_4, lnI_5, lnI_10, lnI_11, lnI_12, lnI_13, lnI_14, lnI_15]
    refine x_if_le 44 C eX6_passOn_20 rfl (by omega) (fun h20 => ?_) (fun h20 => ?_)
    · first
        | rw [show nPass0 n = n from if_neg (by omega)] at j44
        | rw [show nPass0 n = un n (n (-1) 2) (ub (n (n (-1) 2)) 12 (n (n (-1) 2) 12 - 1)) from if_pos (by omega)] at j44
      exact x_pick [_, _, _, _] [0, 1, 2, 3] rfl rfl j44
    · refine x_oL (M := M) (L := L) (m := n) (i := n (-1) 2) (R := [_, _, _]) (by omega) (fun _ _ hw => WF_pick [2, 0, 1, 3] rfl rfl hw) (fun A hA => ?_)
      refine x_aload_n C eX6_passOn_23 rfl ?_
      refine x_dup C eX6_passOn_24 rfl ?_
      refine x_getI 0 C f_RX6_125 eX6_passOn_25 rfl rfl ?_
      try simp (disch := decide) only [up_s, up_n, tkI_2, tkI_3, tkI_4, tkI_5, tkI_6, tkI_7, tkI_8, lnI_1, lnI_2, lnI_3, lnI_4, lnI_5, lnI_10, lnI_11, lnI_12, lnI_13, lnI_14, lnI_15]
      refine x_iconst C eX6_passOn_28 ?_
      refine x_isub C eX6_passOn_29 ?_
      refine x_putI [_, _, _, _, _, _, _, _, _, _, _, _, _, _] 0 C f_RX6_125 eX6_passOn_30 rfl rfl rfl ?_
      refine x_aload_n C eX6_passOn_33 rfl ?_
      refine x_getI 0 C f_RX6_125 eX6_passOn_34 rfl rfl ?_
      try simp (disch := decide) only [up_s, up_n, tkI_2, tkI_3, tkI_4, tkI_5, tkI_6, tkI_7, tkI_8, lnI_1, lnI_2, lnI_3, lnI_4, lnI_5, lnI_10, lnI_11, lnI_12, lnI_13, lnI_14, lnI_15]
      refine x_if_ne 44 C eX6_passOn_37 rfl (by omega) (fun h37 => ?_) (fun h37 => ?_)
      · refine x_pick [_, _, _, _, _, _, _, _, _, _, _, _, _, _] [0, 1, 2, 3, 4, 5, 6, 7, 8, 9, 10, 11, 12, 13] rfl rfl ?_
        refine x_cL (m := n) (i := n (-1) 2) (A := A) (B := ub (n (n (-1) 2)) 12 (n (n (-1) 2) 12 - 1)) (by omega) hA (fun cf c h => ?_) ?_
        · exact ln_this (B := n (n (-1) 2)) (by
              refine lnI_ok ?_ ?_ ?_ ?_ ?_ ?_ ?_ ?_ ?_ ?_ ?_
              all_goals (try simp (disch := omega) only [up_s, up_n, lnI_1, lnI_2, lnI_3, lnI_4, lnI_5, lnI_10, lnI_11, lnI_12, lnI_13, lnI_14, lnI_15, lnTo, ub_s, ub_n, bLend])
              all_goals (repeat' split)
              all_goals first | rfl | omega) (by first | rfl | (simp (disch := omega) only [ub_n, bLend])) (by first | rfl | (simp (disch := omega) only [ub_n, bLend])) (by first | rfl | (simp (disch := omega) only [ub_n, bLend])) (by first | rfl | (simp (disch := omega) only [ub_n, bLend])) (fun k hk => by first | rfl | (simp (disch := omega) only [ub_n, bLend])) cf c h rfl
        first
          | rw [show nPass0 n = n from if_neg (by omega)] at j44
          | rw [show nPass0 n = un n (n (-1) 2) (ub (n (n (-1) 2)) 12 (n (n (-1) 2) 12 - 1)) from if_pos (by omega)] at j44
        exact x_pick [_, _, _, _] [1, 2, 0, 3] rfl rfl j44
      · refine x_aload_n C eX6_passOn_40 rfl ?_
        refine yV0v [_, _, _, _, _, _, _, _, _, _, _, _, _] [_, _, _, _, _, _, _, _, _, _, _, _, _, _] C (s_X0_lendNoMore hK ) v_X0_lendNoMore vv_X0_lendNoMore s_RX6_128 eX6_passOn_41 (fun _ _ h => WF_pick [0, 1, 2, 3, 4, 5, 6, 7, 8, 9, 10, 11, 12, 13] rfl rfl h) (rcv 0 rfl) rfl (nle rfl) (nle rfl) (nle rfl) (nle rfl) rfl ?_
        refine x_pick [_, _, _, _, _, _, _, _, _, _, _, _, _, _] [0, 1, 2, 3, 4, 5, 6, 7, 8, 9, 10, 11, 12, 13] rfl rfl ?_
        refine x_cL (m := n) (i := n (-1) 2) (A := A) (B := ub (n (n (-1) 2)) 12 (n (n (-1) 2) 12 - 1)) (by omega) hA (fun cf c h => ?_) ?_
        · exact ln_this (B := n (n (-1) 2)) (by
              refine lnI_ok ?_ ?_ ?_ ?_ ?_ ?_ ?_ ?_ ?_ ?_ ?_
              all_goals (try simp (disch := omega) only [up_s, up_n, lnI_1, lnI_2, lnI_3, lnI_4, lnI_5, lnI_10, lnI_11, lnI_12, lnI_13, lnI_14, lnI_15, lnTo, ub_s, ub_n, bLend])
              all_goals (repeat' split)
              all_goals first | rfl | omega) (by first | rfl | (simp (disch := omega) only [ub_n, bLend])) (by first | rfl | (simp (disch := omega) only [ub_n, bLend])) (by first | rfl | (simp (disch := omega) only [ub_n, bLend])) (by first | rfl | (simp (disch := omega) only [ub_n, bLend])) (fun k hk => by first | rfl | (simp (disch := omega) only [ub_n, bLend])) cf c h rfl
        first
          | rw [show nPass0 n = n from if_neg (by omega)] at j44
          | rw [show nPass0 n = un n (n (-1) 2) (ub (n (n (-1) 2)) 12 (n (n (-1) 2) 12 - 1)) from if_pos (by omega)] at j44
        exact x_pick [_, _, _, _] [1, 2, 0, 3] rfl rfl j44
