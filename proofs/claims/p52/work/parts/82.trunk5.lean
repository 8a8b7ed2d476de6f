set_option maxHeartbeats 4000000 in
set_option maxRecDepth 100000 in
theorem s_X6_passTicks {G : Gm} {l : Launch} (hK : KG G) {M : Pool} {L : Int → Nat} {n : Net} {t al lg : Nat} {b t9 : Int} (hN : NetOk b n) (ht : 0 ≤ t9 ∧ t9 ≤ 100000) (hb : b + 4 * t9 ≤ 999999980) : MD G l yX6_passTicks cX6_passTicks 3 none 8 0 0 [.ref t, .int (zI t9)] [ob t 8 (tkS al lg) (tkI (n)), arR G 5 al 6 (fun j => some (L (j : Int))), LF G M L (n), LOG G lg (n)] none [ob t 8 (tkS al lg) (tkI (nTicks t9.toNat n)), arR G 5 al 6 (fun j => some (L (j : Int))), LF G M L (nTicks t9.toNat n), LOG G lg (nTicks t9.toNat n)] := by
  refine MX_of (lv := [some (.ref t), some (.int (zI t9)), none]) hK (by decide +kernel) rfl (nle rfl) (fun X C F => ?_)
  have C : OKc G X l RX6 "passTicks" cX6_passTicks 3 none 8 0 0 := C
  have loop : ∀ (j k : Nat), (k : Int) ≤ t9 → t9 - k < j → WX G X 0 0 [ob t 8 (tkS al lg) (tkI (nTicks k n)), arR G 5 al 6 (fun j => some (L (j : Int))), LF G M L (nTicks k n), LOG G lg (nTicks k n)] 2 [some (.ref t), some (.int (zI t9)), some (.int (zI (k : Int)))] [] := by
    intro j
    induction j with
    | zero => intro k h0 h1; exfalso; omega
    | succ j ih =>
      intro k h0 h1
      have hK9 := NetOk_ticks hN k
      refine x_iload_n C eX6_passTicks_2 rfl ?_
      refine x_iload_n C eX6_passTicks_3 rfl ?_
      refine x_icmp_ge 18 C eX6_passTicks_4 rfl (by omega) (by omega) (fun h4 => ?_) (fun h4 => ?_)
      · refine x_vret C F eX6_passTicks_18 () rfl trivial (fun cf c h => ?_) (nle rfl) (nle rfl)
        rw [show t9.toNat = k by omega]
        exact WF_pick [0, 1, 2, 3] rfl rfl h
      · refine x_aload_n C eX6_passTicks_7 rfl ?_
        refine yV0r [] [_, _, _, _] C (s_X6_passTick hK hK9 (by omega)) v_X6_passTick vv_X6_passTick s_RX6_56 eX6_passTicks_8 (fun _ _ h => WF_pick [0, 1, 2, 3] rfl rfl h) (rcv 0 rfl) rfl (nle rfl) (nle rfl) (nle rfl) (nle rfl) rfl ?_
        skip
        refine x_pop C eX6_passTicks_11 rfl ?_
        refine x_iinc [_, _, _] C eX6_passTicks_12 rfl rfl rfl ?_
        refine x_goto (pc' := 2) C eX6_passTicks_15 rfl ?_
        exact x_pick [_, _, _, _] [0, 1, 2, 3] rfl rfl (ih (k + 1) (by omega) (by omega))
  refine x_iconst C eX6_passTicks_0 ?_
  refine x_istore_n [_, _, _] C eX6_passTicks_1 rfl rfl (nlt rfl) ?_
  exact loop (t9.toNat + 2) 0 (by omega) (by omega)

set_option maxHeartbeats 4000000 in
set_option maxRecDepth 100000 in
theorem s_X6_copyFrom {G : Gm} {l : Launch} (hK : KG G) {M : Pool} {L L2 : Int → Nat} {n : Net} {t al lg t2 al2 lg2 : Nat} {J : Nat → Int} {b : Int} (hN : NetOk b n) (hb : b ≤ 1000000000) : MD G l yX6_copyFrom cX6_copyFrom 3 none 6 0 0 [.ref t, .ref t2] [ob t 8 (tkS al lg) J, arR G 5 al 6 (fun j => some (L (j : Int))), LFG G L, LOGG G lg, ob t2 8 (tkS al2 lg2) (tkI (n)), arR G 5 al2 6 (fun j => some (L2 (j : Int))), LF G M L2 (n), LOG G lg2 (n)] none [ob t 8 (tkS al lg) (tkI (n)), arR G 5 al 6 (fun j => some (L (j : Int))), LF G M L (n), LOG G lg (n), ob t2 8 (tkS al2 lg2) (tkI (n)), arR G 5 al2 6 (fun j => some (L2 (j : Int))), LF G M L2 (n), LOG G lg2 (n)] := by
  refine MX_of (lv := [some (.ref t), some (.ref t2), none]) hK (by decide +kernel) rfl (nle rfl) (fun X C F => ?_)
  have C : OKc G X l RX6 "copyFrom" cX6_copyFrom 3 none 6 0 0 := C
  have hH := hN.1
  unfold HeadOk at hH
  have loop : ∀ (j k : Nat), (k : Int) ≤ n (-1) 0 → n (-1) 0 - k < j → WX G X 0 0 [ob t 8 (tkS al lg) J, arR G 5 al 6 (fun j => some (L (j : Int))), LFk G M L n (k), LOGG G lg, ob t2 8 (tkS al2 lg2) (tkI (n)), arR G 5 al2 6 (fun j => some (L2 (j : Int))), LF G M L2 (n), LOG G lg2 (n)] 2 [some (.ref t), some (.ref t2), some (.int (zI (k : Int)))] [] := by
    intro j
    induction j with
    | zero => intro k h0 h1; exfalso; omega
    | succ j ih =>
      intro k h0 h1
      refine x_iload_n C eX6_copyFrom_2 rfl ?_
      refine x_aload_n C eX6_copyFrom_3 rfl ?_
      refine x_getI 4 C f_RX6_24 eX6_copyFrom_4 rfl rfl ?_
      try simp (disch := decide) only [up_s, up_n, tkI_2, tkI_3, tkI_4, tkI_5, tkI_6, tkI_7, tkI_8, lnI_1, lnI_2, lnI_3, lnI_4, lnI_5, lnI_10, lnI_11, lnI_12, lnI_13, lnI_14, lnI_15]
      refine x_icmp_ge 29 C eX6_copyFrom_7 rfl (by omega) (by omega) (fun h7 => ?_) (fun h7 => ?_)
      · rw [show (k : Int) = n (-1) 0 by omega, LFk_n]
        refine x_oGG (R := [_, _, _, _, _, _, _]) (fun _ _ hw => WF_pick [3, 0, 1, 2, 4, 5, 6, 7] rfl rfl hw) (fun la9 zz9 xx9 ff9 => ?_)
        refine x_oG (m := n) (R := [_, _, _, _, _, _, _, _]) (fun _ _ hw => WF_pick [8, 0, 1, 2, 3, 4, 5, 6, 7] rfl rfl hw) (fun la x f hx hf => ?_)
        refine x_aload_n C eX6_copyFrom_29 rfl ?_
        refine x_getR 4 C f_RX6_20 eX6_copyFrom_30 rfl rfl ?_
        refine x_aload_n C eX6_copyFrom_33 rfl ?_
        refine x_getR 7 C f_RX6_20 eX6_copyFrom_34 rfl rfl ?_
        refine yV1v [_, _, _, _, _, _] [_, _, _, _, _, _, _, _, _, _] C (s_X1_copyFrom hK ) v_X1_copyFrom vv_X1_copyFrom s_RX6_144 eX6_copyFrom_37 (fun _ _ h => WF_pick [2, 3, 0, 1, 4, 5, 6, 7, 8, 9] rfl rfl h) (rcv 2 rfl) rfl (nle rfl) (nle rfl) (nle rfl) (nle rfl) rfl ?_
        skip
        refine x_pick [_, _, _, _, _, _, _, _, _, _] [2, 3, 0, 1, 4, 5, 6, 7, 8, 9] rfl rfl ?_
        refine x_cG (m := n) hx rfl hf ?_
        refine x_pick [_, _, _, _, _, _, _, _, _] [1, 2, 0, 3, 4, 5, 6, 7, 8] rfl rfl ?_
        refine x_cG (m := n) hx rfl hf ?_
        refine x_aload_n C eX6_copyFrom_40 rfl ?_
        refine x_aload_n C eX6_copyFrom_41 rfl ?_
        refine x_getI 5 C f_RX6_24 eX6_copyFrom_42 rfl rfl ?_
        try simp (disch := decide) only [up_s, up_n, tkI_2, tkI_3, tkI_4, tkI_5, tkI_6, tkI_7, tkI_8, lnI_1, lnI_2, lnI_3, lnI_4, lnI_5, lnI_10, lnI_11, lnI_12, lnI_13, lnI_14, lnI_15]
        refine x_putI [_, _, _, _, _, _, _, _] 2 C f_RX6_24 eX6_copyFrom_45 rfl rfl rfl ?_
        refine x_aload_n C eX6_copyFrom_48 rfl ?_
        refine x_aload_n C eX6_copyFrom_49 rfl ?_
        refine x_getI 5 C f_RX6_59 eX6_copyFrom_50 rfl rfl ?_
        try simp (disch := decide) only [up_s, up_n, tkI_2, tkI_3, tkI_4, tkI_5, tkI_6, tkI_7, tkI_8, lnI_1, lnI_2, lnI_3, lnI_4, lnI_5, lnI_10, lnI_11, lnI_12, lnI_13, lnI_14, lnI_15]
        refine x_putI [_, _, _, _, _, _, _, _] 2 C f_RX6_59 eX6_copyFrom_53 rfl rfl rfl ?_
        refine x_aload_n C eX6_copyFrom_56 rfl ?_
        refine x_aload_n C eX6_copyFrom_57 rfl ?_
        refine x_getI 5 C f_RX6_46 eX6_copyFrom_58 rfl rfl ?_
        try simp (disch := decide) only [up_s, up_n, tkI_2, tkI_3, tkI_4, tkI_5, tkI_6, tkI_7, tkI_8, lnI_1, lnI_2, lnI_3, lnI_4, lnI_5, lnI_10, lnI_11, lnI_12, lnI_13, lnI_14, lnI_15]
        refine x_putI [_, _, _, _, _, _, _, _] 2 C f_RX6_46 eX6_copyFrom_61 rfl rfl rfl ?_
        refine x_aload_n C eX6_copyFrom_64 rfl ?_
        refine x_aload_n C eX6_copyFrom_65 rfl ?_
        refine x_getI 5 C f_RX6_28 eX6_copyFrom_66 rfl rfl ?_
        try simp (disch := decide) only [up_s, up_n, tkI_2, tkI_3, tkI_4, tkI_5, tkI_6, tkI_7, tkI_8, lnI_1, lnI_2, lnI_3, lnI_4, lnI_5, lnI_10, lnI_11, lnI_12, lnI_13, lnI_14, lnI_15]
        refine x_putI [_, _, _, _, _, _, _, _] 2 C f_RX6_28 eX6_copyFrom_69 rfl rfl rfl ?_
        refine x_aload_n C eX6_copyFrom_72 rfl ?_
        refine x_aload_n C eX6_copyFrom_73 rfl ?_
        refine x_getI 5 C f_RX6_121 eX6_copyFrom_74 rfl rfl ?_
        try simp (disch := decide) only [up_s, up_n, tkI_2, tkI_3, tkI_4, tkI_5, tkI_6, tkI_7, tkI_8, lnI_1, lnI_2, lnI_3, lnI_4, lnI_5, lnI_10, lnI_11, lnI_12, lnI_13, lnI_14, lnI_15]
        refine x_putZ [_, _, _, _, _, _, _, _] 2 C f_RX6_121 eX6_copyFrom_77 rfl rfl (by omega) rfl ?_
        refine x_aload_n C eX6_copyFrom_80 rfl ?_
        refine x_aload_n C eX6_copyFrom_81 rfl ?_
        refine x_getI 5 C f_RX6_118 eX6_copyFrom_82 rfl rfl ?_
        try simp (disch := decide) only [up_s, up_n, tkI_2, tkI_3, tkI_4, tkI_5, tkI_6, tkI_7, tkI_8, lnI_1, lnI_2, lnI_3, lnI_4, lnI_5, lnI_10, lnI_11, lnI_12, lnI_13, lnI_14, lnI_15]
        refine x_putI [_, _, _, _, _, _, _, _] 2 C f_RX6_118 eX6_copyFrom_85 rfl rfl rfl ?_
        refine x_aload_n C eX6_copyFrom_88 rfl ?_
        refine x_aload_n C eX6_copyFrom_89 rfl ?_
        refine x_getI 5 C f_RX6_74 eX6_copyFrom_90 rfl rfl ?_
        try simp (disch := decide) only [up_s, up_n, tkI_2, tkI_3, tkI_4, tkI_5, tkI_6, tkI_7, tkI_8, lnI_1, lnI_2, lnI_3, lnI_4, lnI_5, lnI_10, lnI_11, lnI_12, lnI_13, lnI_14, lnI_15]
        refine x_putI [_, _, _, _, _, _, _, _] 2 C f_RX6_74 eX6_copyFrom_93 rfl rfl rfl ?_
        refine x_vret C F eX6_copyFrom_96 () rfl trivial (fun cf c h => ?_) (nle rfl) (nle rfl)
        refine TKcv (n1 := n) (n2 := n) ?_ ?_ ?_ ?_ ?_ ?_ ?_ rfl (fun _ _ _ => rfl) rfl rfl (R := [_, _, _, _]) (WF_pick [2, 3, 4, 0, 5, 6, 7, 1] rfl rfl h)
        all_goals (simp (disch := decide) only [up_s, up_n, tkI_2, tkI_3, tkI_4, tkI_5, tkI_6, tkI_7, tkI_8])
      · have hk := hN.2.2 k (by omega) (by omega)
        unfold LineOk at hk
        refine x_aload_n C eX6_copyFrom_10 rfl ?_
        refine x_iload_n C eX6_copyFrom_11 rfl ?_
        refine yV1r [_, _, _, _, _, _] [_, _, _, _, _, _, _, _] C (s_X6_lineAt hK (by omega)) v_X6_lineAt vv_X6_lineAt s_RX6_32 eX6_copyFrom_12 (fun _ _ h => WF_pick [0, 1, 2, 3, 4, 5, 6, 7] rfl rfl h) (rcv 0 rfl) rfl (nle rfl) (nle rfl) (nle rfl) (nle rfl) rfl ?_
        skip
        refine x_aload_n C eX6_copyFrom_15 rfl ?_
        refine x_iload_n C eX6_copyFrom_16 rfl ?_
        refine yV1r [_, _, _, _, _, _] [_, _, _, _, _, _, _, _] C (s_X6_lineAt hK (by omega)) v_X6_lineAt vv_X6_lineAt s_RX6_32 eX6_copyFrom_17 (fun _ _ h => WF_pick [4, 5, 0, 1, 2, 3, 6, 7] rfl rfl h) (rcv 4 rfl) rfl (nle rfl) (nle rfl) (nle rfl) (nle rfl) rfl ?_
        skip
        refine x_oK (M := M) (L := L) (m := n) (i := (k : Int)) (R := [_, _, _, _, _, _, _]) (by omega) (fun _ _ hw => WF_pick [4, 0, 1, 2, 3, 5, 6, 7] rfl rfl hw) (fun A w9 J9 z9 f9 hA => ?_)
        refine x_oL (M := M) (L := L2) (m := n) (i := (k : Int)) (R := [_, _, _, _, _, _, _, _, _, _, _, _, _, _, _, _, _]) (by omega) (fun _ _ hw => WF_pick [16, 0, 1, 2, 3, 4, 5, 6, 7, 8, 9, 10, 11, 12, 13, 14, 15, 17] rfl rfl hw) (fun A2 hA2 => ?_)
        refine yV1v [_, _, _, _, _, _, _, _] [_, _, _, _, _, _, _, _, _, _, _, _, _, _, _, _, _, _, _, _, _, _, _, _, _, _, _, _] C (s_X0_copyFrom hK (by omega)) v_X0_copyFrom vv_X0_copyFrom s_RX6_140 eX6_copyFrom_20 (fun _ _ h => WF_pick [11, 12, 13, 14, 15, 16, 17, 18, 19, 20, 0, 1, 2, 3, 4, 5, 6, 7, 8, 9, 10, 21, 22, 23, 24, 25, 26, 27] rfl rfl h) (rcv 11 rfl) rfl (nle rfl) (nle rfl) (nle rfl) (nle rfl) rfl ?_
        skip
        refine x_pick [_, _, _, _, _, _, _, _, _, _, _, _, _, _, _, _, _, _, _, _, _, _, _, _, _, _, _, _] [10, 11, 12, 13, 14, 15, 16, 17, 18, 19, 20, 0, 1, 2, 3, 4, 5, 6, 7, 8, 9, 21, 22, 23, 24, 25, 26, 27] rfl rfl ?_
        refine x_cL (m := n) (i := (k : Int)) (A := A2) (B := n k) (by omega) hA2 (fun cf c h => h) ?_
        rw [un_id]
        refine x_pick [_, _, _, _, _, _, _, _, _, _, _, _, _, _, _, _, _, _] [1, 2, 3, 4, 5, 6, 7, 8, 9, 10, 11, 0, 12, 13, 14, 15, 16, 17] rfl rfl ?_
        refine x_cK (m := n) (i := (k : Int)) (A := fun j => if j = 0 then A2 0 else A j) (by omega) ⟨hA2.1, hA⟩ (fun cf c h => h) ?_
        refine x_iinc [_, _, _] C eX6_copyFrom_23 rfl rfl rfl ?_
        refine x_goto (pc' := 2) C eX6_copyFrom_26 rfl ?_
        exact x_pick [_, _, _, _, _, _, _, _] [4, 5, 0, 6, 2, 3, 1, 7] rfl rfl (ih (k + 1) (by omega) (by omega))
  refine x_iconst C eX6_copyFrom_0 ?_
  refine x_istore_n [_, _, _] C eX6_copyFrom_1 rfl rfl (nlt rfl) ?_
  have h := loop 20 0 (by omega) (by omega)
  rw [show (((0 : Nat) : Nat) : Int) = 0 from rfl, LFk_0] at h
  exact x_pick [_, _, _, _, _, _, _, _] [0, 1, 2, 3, 4, 5, 6, 7] rfl rfl (h)
