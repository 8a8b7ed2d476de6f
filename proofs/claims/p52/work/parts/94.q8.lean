/-! Changes: each keeps the state as it was. -/

set_option maxHeartbeats 4000000 in
set_option maxRecDepth 100000 in
theorem s_X7_pass {G : Gm} {l : Launch} (hK : KG G) {e ip op t tr ps pa sl al lg : Nat} {J : Nat → Int} {M : Pool} {L : Int → Nat} {n : Net} {N : Nat → Net} {b : Int} (hN : NetOk b n) (hb : b ≤ 900000000) (h6 : 0 ≤ J 6 ∧ J 6 ≤ 6) (hS : KS G) : MD G l yX7_pass cX7_pass 1 (some .int) 9 64 1900 [.ref e] [ob e 9 (ecS ip op t tr ps pa sl) J, ob t 8 (tkS al lg) (tkI (n)), arR G 5 al 6 (fun j => some (L (j : Int))), LF G M L (n), LOG G lg (n), PS G M pa (J 6) N] (some (.int (zI (nPass n (-1) 2)))) [ob e 9 (ecS ip op t tr ps pa sl) (up J 6 (rmR (J 6))), ob t 8 (tkS al lg) (tkI (nPass n)), arR G 5 al 6 (fun j => some (L (j : Int))), LF G M L (nPass n), LOG G lg (nPass n), PS G M pa (rmR (J 6)) (rmP (J 6) N n)] := by
  refine MX_of (lv := [some (.ref e)]) hK (by decide +kernel) rfl (by first | exact nle rfl | omega) (fun X C F => ?_)
  have C : OKc G X l RX7 "pass" cX7_pass 1 (some .int) 9 64 1900 := C
  have hH := hN.1
  unfold HeadOk at hH
  have hT9 := hN.2.2 (n (-1) 2) (by omega) (by omega)
  unfold LineOk at hT9
  refine x_aload_n C eX7_pass_0 rfl ?_
  refine yV0w [] [_, _, _, _, _, _] C (s_X7_remember hK hN (by omega) (by omega) hS) v_X7_remember vv_X7_remember s_RX7_84 eX7_pass_1 (fun _ _ h => WF_pick [0, 1, 2, 3, 4, 5] rfl rfl h) (rcv 0 rfl) rfl (by first | exact nle rfl | omega) (by first | exact nle rfl | omega) (by first | exact nle rfl | omega) (by first | exact nle rfl | omega) rfl ?_
  refine x_aload_n C eX7_pass_4 rfl ?_
  refine x_getR 0 C f_RX7_22 eX7_pass_5 rfl rfl ?_
  refine yV0v [_, _] [_, _, _, _, _, _] C (s_X6_passOn hK ⟨hH.1, hH.2.2.1, hH.2.2.2.2.2.2.1⟩ (by omega)) v_X6_passOn vv_X6_passOn s_RX7_272 eX7_pass_8 (fun _ _ h => WF_pick [1, 2, 3, 4, 0, 5] rfl rfl h) (rcv 1 rfl) rfl (by first | exact nle rfl | omega) (by first | exact nle rfl | omega) (by first | exact nle rfl | omega) (by first | exact nle rfl | omega) rfl ?_
  refine x_aload_n C eX7_pass_11 rfl ?_
  refine x_getR 4 C f_RX7_22 eX7_pass_12 rfl rfl ?_
  refine x_getI 0 C f_RX7_103 eX7_pass_15 rfl rfl ?_
  try simp (disch := decide) only [up_s, up_n, tkI_2, tkI_3, tkI_4, tkI_5, tkI_6, tkI_7, tkI_8, lnI_1, lnI_2, lnI_3, lnI_4, lnI_5, lnI_10, lnI_11, lnI_12, lnI_13, lnI_14, lnI_15]
  refine x_iret (by first | rfl | exact (narZ (by omega)).1) C F eX7_pass_18 () ?_ trivial (fun cf c h => ?_) (by first | exact nle rfl | omega) (by first | exact nle rfl | omega)
  · rfl
  · exact WF_pick [4, 0, 1, 2, 3, 5] rfl rfl h

set_option maxHeartbeats 4000000 in
set_option maxRecDepth 100000 in
theorem s_X7_tick {G : Gm} {l : Launch} (hK : KG G) {e ip op t tr ps pa sl al lg : Nat} {J : Nat → Int} {M : Pool} {L : Int → Nat} {n : Net} {N : Nat → Net} {b : Int} {t9 : Int} (hN : NetOk b n) (hb : b ≤ 900000000) (h6 : 0 ≤ J 6 ∧ J 6 ≤ 6) (hS : KS G) (ht : 1 ≤ t9 ∧ t9 ≤ 200) : MD G l yX7_tick cX7_tick 3 (some .int) 9 64 1900 [.ref e, .int (zI t9)] [ob e 9 (ecS ip op t tr ps pa sl) J, ob t 8 (tkS al lg) (tkI (n)), arR G 5 al 6 (fun j => some (L (j : Int))), LF G M L (n), LOG G lg (n), PS G M pa (J 6) N] (some (.int (zI (nTicks t9.toNat n (-1) 4 - n (-1) 4)))) [ob e 9 (ecS ip op t tr ps pa sl) (up J 6 (rmR (J 6))), ob t 8 (tkS al lg) (tkI (nTicks t9.toNat n)), arR G 5 al 6 (fun j => some (L (j : Int))), LF G M L (nTicks t9.toNat n), LOG G lg (nTicks t9.toNat n), PS G M pa (rmR (J 6)) (rmP (J 6) N n)] := by
  refine MX_of (lv := [some (.ref e), some (.int (zI t9)), none]) hK (by decide +kernel) rfl (by first | exact nle rfl | omega) (fun X C F => ?_)
  have C : OKc G X l RX7 "tick" cX7_tick 3 (some .int) 9 64 1900 := C
  have hH := hN.1
  unfold HeadOk at hH
  refine x_iload_n C eX7_tick_0 rfl ?_
  refine x_iconst C eX7_tick_1 ?_
  refine x_sipush C eX7_tick_2 rfl ?_
  refine yS3v [_, _, _, _, _, _] [_, _, _, _, _, _] C (s_X7_testRange hK (by omega)) v_X7_testRange vs_X7_testRange s_RX7_219 eX7_tick_5 (fun _ _ h => WF_pick [0, 1, 2, 3, 4, 5] rfl rfl h) rfl (by first | exact nle rfl | omega) (by first | exact nle rfl | omega) (by first | exact nle rfl | omega) (by first | exact nle rfl | omega) rfl ?_
  refine x_aload_n C eX7_tick_8 rfl ?_
  refine yV0w [] [_, _, _, _, _, _] C (s_X7_remember hK hN (by omega) (by omega) hS) v_X7_remember vv_X7_remember s_RX7_84 eX7_tick_9 (fun _ _ h => WF_pick [0, 1, 2, 3, 4, 5] rfl rfl h) (rcv 0 rfl) rfl (by first | exact nle rfl | omega) (by first | exact nle rfl | omega) (by first | exact nle rfl | omega) (by first | exact nle rfl | omega) rfl ?_
  refine x_aload_n C eX7_tick_12 rfl ?_
  refine x_getR 0 C f_RX7_22 eX7_tick_13 rfl rfl ?_
  refine x_getI 1 C f_RX7_112 eX7_tick_16 rfl rfl ?_
  try simp (disch := decide) only [up_s, up_n, tkI_2, tkI_3, tkI_4, tkI_5, tkI_6, tkI_7, tkI_8, lnI_1, lnI_2, lnI_3, lnI_4, lnI_5, lnI_10, lnI_11, lnI_12, lnI_13, lnI_14, lnI_15]
  refine x_istore_n [_, _, _] C eX7_tick_19 rfl rfl (nlt rfl) ?_
  refine x_aload_n C eX7_tick_20 rfl ?_
  refine x_getR 0 C f_RX7_22 eX7_tick_21 rfl rfl ?_
  refine x_iload_n C eX7_tick_24 rfl ?_
  refine yV1v [_, _] [_, _, _, _, _, _] C (s_X6_passTicks hK hN (by omega) (by omega)) v_X6_passTicks vv_X6_passTicks s_RX7_227 eX7_tick_25 (fun _ _ h => WF_pick [1, 2, 3, 4, 0, 5] rfl rfl h) (rcv 1 rfl) rfl (by first | exact nle rfl | omega) (by first | exact nle rfl | omega) (by first | exact nle rfl | omega) (by first | exact nle rfl | omega) rfl ?_
  refine x_aload_n C eX7_tick_28 rfl ?_
  refine x_getR 4 C f_RX7_22 eX7_tick_29 rfl rfl ?_
  refine x_getI 0 C f_RX7_112 eX7_tick_32 rfl rfl ?_
  try simp (disch := decide) only [up_s, up_n, tkI_2, tkI_3, tkI_4, tkI_5, tkI_6, tkI_7, tkI_8, lnI_1, lnI_2, lnI_3, lnI_4, lnI_5, lnI_10, lnI_11, lnI_12, lnI_13, lnI_14, lnI_15]
  refine x_iload_n C eX7_tick_35 rfl ?_
  refine x_isub C eX7_tick_36 ?_
  refine x_iret (by first | rfl | exact (narZ (by omega)).1) C F eX7_tick_37 () ?_ trivial (fun cf c h => ?_) (by first | exact nle rfl | omega) (by first | exact nle rfl | omega)
  · rfl
  · exact WF_pick [4, 0, 1, 2, 3, 5] rfl rfl h

set_option maxHeartbeats 4000000 in
set_option maxRecDepth 100000 in
theorem s_X7_lend {G : Gm} {l : Launch} (hK : KG G) {e ip op t tr ps pa sl al lg : Nat} {J : Nat → Int} {M : Pool} {L : Int → Nat} {n : Net} {N : Nat → Net} {b : Int} {l9 o9 t9 : Int} (hN : NetOk b n) (hb : b ≤ 900000000) (h6 : 0 ≤ J 6 ∧ J 6 ≤ 6) (hS : KS G) (hl : 0 ≤ l9 ∧ l9 < n (-1) 0) (ho : 0 ≤ o9 ∧ o9 < n (-1) 0) (hne : ¬ l9 = o9) (ht : 1 ≤ t9 ∧ t9 ≤ 99) : MD G l yX7_lend cX7_lend 6 (some .int) 9 64 1900 [.ref e, .int (zI l9), .int (zI o9), .int (zI t9)] [ob e 9 (ecS ip op t tr ps pa sl) J, ob t 8 (tkS al lg) (tkI (n)), arR G 5 al 6 (fun j => some (L (j : Int))), LF G M L (n), LOG G lg (n), PS G M pa (J 6) N] (some (.int (zI (if 0 < n l9 12 then n l9 13 else -1)))) [ob e 9 (ecS ip op t tr ps pa sl) (up J 6 (rmR (J 6))), ob t 8 (tkS al lg) (tkI (un n l9 (bLend (n l9) o9 t9))), arR G 5 al 6 (fun j => some (L (j : Int))), LF G M L (un n l9 (bLend (n l9) o9 t9)), LOG G lg (un n l9 (bLend (n l9) o9 t9)), PS G M pa (rmR (J 6)) (rmP (J 6) N n)] := by
  refine MX_of (lv := [some (.ref e), some (.int (zI l9)), some (.int (zI o9)), some (.int (zI t9)), none, none]) hK (by decide +kernel) rfl (by first | exact nle rfl | omega) (fun X C F => ?_)
  have C : OKc G X l RX7 "lend" cX7_lend 6 (some .int) 9 64 1900 := C
  have hH := hN.1
  unfold HeadOk at hH
  have hL := hN.2.2 l9 (by omega) (by omega)
  unfold LineOk at hL
  refine x_aload_n C eX7_lend_0 rfl ?_
  refine x_iload_n C eX7_lend_1 rfl ?_
  refine yV1v [_, _, _, _] [_, _, _, _, _, _] C (s_X7_testLine hK (by omega)) v_X7_testLine vv_X7_testLine s_RX7_145 eX7_lend_2 (fun _ _ h => WF_pick [0, 1, 2, 3, 4, 5] rfl rfl h) (rcv 0 rfl) rfl (by first | exact nle rfl | omega) (by first | exact nle rfl | omega) (by first | exact nle rfl | omega) (by first | exact nle rfl | omega) rfl ?_
  refine x_aload_n C eX7_lend_5 rfl ?_
  refine x_iload_n C eX7_lend_6 rfl ?_
  refine yV1v [_, _, _, _] [_, _, _, _, _, _] C (s_X7_testLine hK (by omega)) v_X7_testLine vv_X7_testLine s_RX7_145 eX7_lend_7 (fun _ _ h => WF_pick [0, 1, 2, 3, 4, 5] rfl rfl h) (rcv 0 rfl) rfl (by first | exact nle rfl | omega) (by first | exact nle rfl | omega) (by first | exact nle rfl | omega) (by first | exact nle rfl | omega) rfl ?_
  refine x_iload_n C eX7_lend_10 rfl ?_
  refine x_iload_n C eX7_lend_11 rfl ?_
  refine yS2v [_, _, _, _, _, _] [_, _, _, _, _, _] C (s_X7_testOther hK (by omega)) v_X7_testOther vs_X7_testOther s_RX7_234 eX7_lend_12 (fun _ _ h => WF_pick [0, 1, 2, 3, 4, 5] rfl rfl h) rfl (by first | exact nle rfl | omega) (by first | exact nle rfl | omega) (by first | exact nle rfl | omega) (by first | exact nle rfl | omega) rfl ?_
  refine x_iload_n C eX7_lend_15 rfl ?_
  refine x_iconst C eX7_lend_16 ?_
  refine x_bipush C eX7_lend_17 rfl ?_
  refine yS3v [_, _, _, _, _, _] [_, _, _, _, _, _] C (s_X7_testRange hK (by omega)) v_X7_testRange vs_X7_testRange s_RX7_219 eX7_lend_19 (fun _ _ h => WF_pick [0, 1, 2, 3, 4, 5] rfl rfl h) rfl (by first | exact nle rfl | omega) (by first | exact nle rfl | omega) (by first | exact nle rfl | omega) (by first | exact nle rfl | omega) rfl ?_
  refine x_aload_n C eX7_lend_22 rfl ?_
  refine yV0w [] [_, _, _, _, _, _] C (s_X7_remember hK hN (by omega) (by omega) hS) v_X7_remember vv_X7_remember s_RX7_84 eX7_lend_23 (fun _ _ h => WF_pick [0, 1, 2, 3, 4, 5] rfl rfl h) (rcv 0 rfl) rfl (by first | exact nle rfl | omega) (by first | exact nle rfl | omega) (by first | exact nle rfl | omega) (by first | exact nle rfl | omega) rfl ?_
  refine x_aload_n C eX7_lend_26 rfl ?_
  refine x_getR 0 C f_RX7_22 eX7_lend_27 rfl rfl ?_
  refine x_iload_n C eX7_lend_30 rfl ?_
  refine yV1r [_, _, _, _] [_, _, _, _, _, _] C (s_X6_lineAt hK (by omega)) v_X6_lineAt vv_X6_lineAt s_RX7_122 eX7_lend_31 (fun _ _ h => WF_pick [1, 2, 0, 3, 4, 5] rfl rfl h) (rcv 1 rfl) rfl (by first | exact nle rfl | omega) (by first | exact nle rfl | omega) (by first | exact nle rfl | omega) (by first | exact nle rfl | omega) rfl ?_
  refine x_astore [_, _, _, _, _, _] C eX7_lend_34 rfl rfl (nlt rfl) ?_
  refine x_aload C eX7_lend_36 rfl ?_
  refine x_gL 3 C f_RX7_178 eX7_lend_38 rfl (by omega) rfl ?_
  try simp only [lnI_1, lnI_2, lnI_3, lnI_4, lnI_5, lnI_10, lnI_11, lnI_12, lnI_13, lnI_14, lnI_15]
  refine x_istore [_, _, _, _, _, _] C eX7_lend_41 rfl rfl (nlt rfl) ?_
  refine x_aload C eX7_lend_43 rfl ?_
  refine x_iload_n C eX7_lend_45 rfl ?_
  refine x_iload_n C eX7_lend_46 rfl ?_
  refine yV2v [_, _, _, _, _] [_, _, _, _, _, _] C (s_FL_lendTo hK (by omega) (by omega)) v_X0_lendTo vv_X0_lendTo s_RX7_241 eX7_lend_47 (fun _ _ h => WF_pick [3, 0, 1, 2, 4, 5] rfl rfl h) (rcvP 3 rfl (LF_rcv (by omega))) rfl (by first | exact nle rfl | omega) (by first | exact nle rfl | omega) (by first | exact nle rfl | omega) (by first | exact nle rfl | omega) rfl ?_
  refine x_iload C eX7_lend_50 rfl ?_
  refine x_ws ((ob t 8 (tkS al lg) (tkI (un n l9 (bLend (n l9) o9 t9)))) :: (arR G 5 al 6 (fun j => some (L (j : Int)))) :: (LF G M L (un n l9 (bLend (n l9) o9 t9))) :: (LOG G lg (un n l9 (bLend (n l9) o9 t9))) :: [_, _]) (fun cf0 c hw => TKcv (n1 := un n l9 (bLend (n l9) o9 t9)) (n2 := n) ?_ ?_ ?_ ?_ ?_ ?_ ?_ ?_ ?_ ?_ ?_ (R := [_, _]) (WF_pick [1, 2, 0, 4, 3, 5] rfl rfl hw)) ?_
  · rw [un_n (by omega)]; rfl
  · rw [un_n (by omega)]; rfl
  · rw [un_n (by omega)]; rfl
  · rw [un_n (by omega)]; rfl
  · rw [un_n (by omega)]; rfl
  · rw [un_n (by omega)]; rfl
  · rw [un_n (by omega)]; rfl
  · rfl
  · exact fun _ _ _ => rfl
  · rw [un_n (by omega)]
  · rw [un_n (by omega)]
  refine x_iret (by first | rfl | exact (narZ (by omega)).1) C F eX7_lend_52 () ?_ trivial (fun cf c h => ?_) (by first | exact nle rfl | omega) (by first | exact nle rfl | omega)
  · rfl
  · exact WF_pick [4, 0, 1, 2, 3, 5] rfl rfl h

set_option maxHeartbeats 4000000 in
set_option maxRecDepth 100000 in
theorem s_X7_recall {G : Gm} {l : Launch} (hK : KG G) {e ip op t tr ps pa sl al lg : Nat} {J : Nat → Int} {M : Pool} {L : Int → Nat} {n : Net} {N : Nat → Net} {b : Int} {l9 : Int} (hN : NetOk b n) (hb : b ≤ 900000000) (h6 : 0 ≤ J 6 ∧ J 6 ≤ 6) (hS : KS G) (hl : 0 ≤ l9 ∧ l9 < n (-1) 0) : MD G l yX7_recall cX7_recall 4 (some .int) 9 64 1900 [.ref e, .int (zI l9)] [ob e 9 (ecS ip op t tr ps pa sl) J, ob t 8 (tkS al lg) (tkI (n)), arR G 5 al 6 (fun j => some (L (j : Int))), LF G M L (n), LOG G lg (n), PS G M pa (J 6) N] (some (.int (zI (n l9 12)))) [ob e 9 (ecS ip op t tr ps pa sl) (up J 6 (rmR (J 6))), ob t 8 (tkS al lg) (tkI (un n l9 (ub (n l9) 12 0))), arR G 5 al 6 (fun j => some (L (j : Int))), LF G M L (un n l9 (ub (n l9) 12 0)), LOG G lg (un n l9 (ub (n l9) 12 0)), PS G M pa (rmR (J 6)) (rmP (J 6) N n)] := by
  refine MX_of (lv := [some (.ref e), some (.int (zI l9)), none, none]) hK (by decide +kernel) rfl (by first | exact nle rfl | omega) (fun X C F => ?_)
  have C : OKc G X l RX7 "recall" cX7_recall 4 (some .int) 9 64 1900 := C
  have hH := hN.1
  unfold HeadOk at hH
  have hL := hN.2.2 l9 (by omega) (by omega)
  unfold LineOk at hL
  refine x_aload_n C eX7_recall_0 rfl ?_
  refine x_iload_n C eX7_recall_1 rfl ?_
  refine yV1v [_, _, _, _] [_, _, _, _, _, _] C (s_X7_testLine hK (by omega)) v_X7_testLine vv_X7_testLine s_RX7_145 eX7_recall_2 (fun _ _ h => WF_pick [0, 1, 2, 3, 4, 5] rfl rfl h) (rcv 0 rfl) rfl (by first | exact nle rfl | omega) (by first | exact nle rfl | omega) (by first | exact nle rfl | omega) (by first | exact nle rfl | omega) rfl ?_
  refine x_aload_n C eX7_recall_5 rfl ?_
  refine yV0w [] [_, _, _, _, _, _] C (s_X7_remember hK hN (by omega) (by omega) hS) v_X7_remember vv_X7_remember s_RX7_84 eX7_recall_6 (fun _ _ h => WF_pick [0, 1, 2, 3, 4, 5] rfl rfl h) (rcv 0 rfl) rfl (by first | exact nle rfl | omega) (by first | exact nle rfl | omega) (by first | exact nle rfl | omega) (by first | exact nle rfl | omega) rfl ?_
  refine x_aload_n C eX7_recall_9 rfl ?_
  refine x_getR 0 C f_RX7_22 eX7_recall_10 rfl rfl ?_
  refine x_iload_n C eX7_recall_13 rfl ?_
  refine yV1r [_, _, _, _] [_, _, _, _, _, _] C (s_X6_lineAt hK (by omega)) v_X6_lineAt vv_X6_lineAt s_RX7_122 eX7_recall_14 (fun _ _ h => WF_pick [1, 2, 0, 3, 4, 5] rfl rfl h) (rcv 1 rfl) rfl (by first | exact nle rfl | omega) (by first | exact nle rfl | omega) (by first | exact nle rfl | omega) (by first | exact nle rfl | omega) rfl ?_
  refine x_astore_n [_, _, _, _] C eX7_recall_17 rfl rfl (nlt rfl) ?_
  refine x_aload_n C eX7_recall_18 rfl ?_
  refine x_gL 3 C f_RX7_142 eX7_recall_19 rfl (by omega) rfl ?_
  try simp only [lnI_1, lnI_2, lnI_3, lnI_4, lnI_5, lnI_10, lnI_11, lnI_12, lnI_13, lnI_14, lnI_15]
  refine x_istore_n [_, _, _, _] C eX7_recall_22 rfl rfl (nlt rfl) ?_
  refine x_aload_n C eX7_recall_23 rfl ?_
  refine yV0v [_, _, _, _, _] [_, _, _, _, _, _] C (s_FL_lendNoMore hK (by omega)) v_X0_lendNoMore vv_X0_lendNoMore s_RX7_260 eX7_recall_24 (fun _ _ h => WF_pick [3, 0, 1, 2, 4, 5] rfl rfl h) (rcvP 3 rfl (LF_rcv (by omega))) rfl (by first | exact nle rfl | omega) (by first | exact nle rfl | omega) (by first | exact nle rfl | omega) (by first | exact nle rfl | omega) rfl ?_
  refine x_iload_n C eX7_recall_27 rfl ?_
  refine x_ws ((ob t 8 (tkS al lg) (tkI (un n l9 (ub (n l9) 12 0)))) :: (arR G 5 al 6 (fun j => some (L (j : Int)))) :: (LF G M L (un n l9 (ub (n l9) 12 0))) :: (LOG G lg (un n l9 (ub (n l9) 12 0))) :: [_, _]) (fun cf0 c hw => TKcv (n1 := un n l9 (ub (n l9) 12 0)) (n2 := n) ?_ ?_ ?_ ?_ ?_ ?_ ?_ ?_ ?_ ?_ ?_ (R := [_, _]) (WF_pick [1, 2, 0, 4, 3, 5] rfl rfl hw)) ?_
  · rw [un_n (by omega)]; rfl
  · rw [un_n (by omega)]; rfl
  · rw [un_n (by omega)]; rfl
  · rw [un_n (by omega)]; rfl
  · rw [un_n (by omega)]; rfl
  · rw [un_n (by omega)]; rfl
  · rw [un_n (by omega)]; rfl
  · rfl
  · exact fun _ _ _ => rfl
  · rw [un_n (by omega)]
  · rw [un_n (by omega)]
  refine x_iret (by first | rfl | exact (narZ (by omega)).1) C F eX7_recall_28 () ?_ trivial (fun cf c h => ?_) (by first | exact nle rfl | omega) (by first | exact nle rfl | omega)
  · rfl
  · exact WF_pick [4, 0, 1, 2, 3, 5] rfl rfl h

set_option maxHeartbeats 4000000 in
set_option maxRecDepth 100000 in
theorem s_X7_breakLine {G : Gm} {l : Launch} (hK : KG G) {e ip op t tr ps pa sl al lg : Nat} {J : Nat → Int} {M : Pool} {L : Int → Nat} {n : Net} {N : Nat → Net} {b : Int} {l9 t9 : Int} (hN : NetOk b n) (hb : b ≤ 900000000) (h6 : 0 ≤ J 6 ∧ J 6 ≤ 6) (hS : KS G) (hl : 0 ≤ l9 ∧ l9 < n (-1) 0) (ht : 1 ≤ t9 ∧ t9 ≤ 50) : MD G l yX7_breakLine cX7_breakLine 5 (some .int) 9 64 1900 [.ref e, .int (zI l9), .int (zI t9)] [ob e 9 (ecS ip op t tr ps pa sl) J, ob t 8 (tkS al lg) (tkI (n)), arR G 5 al 6 (fun j => some (L (j : Int))), LF G M L (n), LOG G lg (n), PS G M pa (J 6) N] (some (.int (zI (n l9 6 + n l9 7)))) [ob e 9 (ecS ip op t tr ps pa sl) (up J 6 (rmR (J 6))), ob t 8 (tkS al lg) (tkI (un n l9 (bBreak (n l9) t9))), arR G 5 al 6 (fun j => some (L (j : Int))), LF G M L (un n l9 (bBreak (n l9) t9)), LOG G lg (un n l9 (bBreak (n l9) t9)), PS G M pa (rmR (J 6)) (rmP (J 6) N n)] := by
  refine MX_of (lv := [some (.ref e), some (.int (zI l9)), some (.int (zI t9)), none, none]) hK (by decide +kernel) rfl (by first | exact nle rfl | omega) (fun X C F => ?_)
  have C : OKc G X l RX7 "breakLine" cX7_breakLine 5 (some .int) 9 64 1900 := C
  have hH := hN.1
  unfold HeadOk at hH
  have hL := hN.2.2 l9 (by omega) (by omega)
  unfold LineOk at hL
  refine x_aload_n C eX7_breakLine_0 rfl ?_
  refine x_iload_n C eX7_breakLine_1 rfl ?_
  refine yV1v [_, _, _, _] [_, _, _, _, _, _] C (s_X7_testLine hK (by omega)) v_X7_testLine vv_X7_testLine s_RX7_145 eX7_breakLine_2 (fun _ _ h => WF_pick [0, 1, 2, 3, 4, 5] rfl rfl h) (rcv 0 rfl) rfl (by first | exact nle rfl | omega) (by first | exact nle rfl | omega) (by first | exact nle rfl | omega) (by first | exact nle rfl | omega) rfl ?_
  refine x_iload_n C eX7_breakLine_5 rfl ?_
  refine x_iconst C eX7_breakLine_6 ?_
  refine x_bipush C eX7_breakLine_7 rfl ?_
  refine yS3v [_, _, _, _, _, _] [_, _, _, _, _, _] C (s_X7_testRange hK (by omega)) v_X7_testRange vs_X7_testRange s_RX7_219 eX7_breakLine_9 (fun _ _ h => WF_pick [0, 1, 2, 3, 4, 5] rfl rfl h) rfl (by first | exact nle rfl | omega) (by first | exact nle rfl | omega) (by first | exact nle rfl | omega) (by first | exact nle rfl | omega) rfl ?_
  refine x_aload_n C eX7_breakLine_12 rfl ?_
  refine yV0w [] [_, _, _, _, _, _] C (s_X7_remember hK hN (by omega) (by omega) hS) v_X7_remember vv_X7_remember s_RX7_84 eX7_breakLine_13 (fun _ _ h => WF_pick [0, 1, 2, 3, 4, 5] rfl rfl h) (rcv 0 rfl) rfl (by first | exact nle rfl | omega) (by first | exact nle rfl | omega) (by first | exact nle rfl | omega) (by first | exact nle rfl | omega) rfl ?_
  refine x_aload_n C eX7_breakLine_16 rfl ?_
  refine x_getR 0 C f_RX7_22 eX7_breakLine_17 rfl rfl ?_
  refine x_iload_n C eX7_breakLine_20 rfl ?_
  refine yV1r [_, _, _, _] [_, _, _, _, _, _] C (s_X6_lineAt hK (by omega)) v_X6_lineAt vv_X6_lineAt s_RX7_122 eX7_breakLine_21 (fun _ _ h => WF_pick [1, 2, 0, 3, 4, 5] rfl rfl h) (rcv 1 rfl) rfl (by first | exact nle rfl | omega) (by first | exact nle rfl | omega) (by first | exact nle rfl | omega) (by first | exact nle rfl | omega) rfl ?_
  refine x_astore_n [_, _, _, _, _] C eX7_breakLine_24 rfl rfl (nlt rfl) ?_
  refine x_aload_n C eX7_breakLine_25 rfl ?_
  refine yV0r [_, _, _, _, _] [_, _, _, _, _, _] C (s_FL_waiting hK (by omega)) v_X0_waiting vv_X0_waiting s_RX7_244 eX7_breakLine_26 (fun _ _ h => WF_pick [3, 0, 1, 2, 4, 5] rfl rfl h) (rcvP 3 rfl (LF_rcv (by omega))) rfl (by first | exact nle rfl | omega) (by first | exact nle rfl | omega) (by first | exact nle rfl | omega) (by first | exact nle rfl | omega) rfl ?_
  refine x_istore [_, _, _, _, _] C eX7_breakLine_29 rfl rfl (nlt rfl) ?_
  refine x_aload_n C eX7_breakLine_31 rfl ?_
  refine x_iload_n C eX7_breakLine_32 rfl ?_
  refine yV1v [_, _, _, _, _] [_, _, _, _, _, _] C (s_FL_breakFor hK (by omega) (by omega)) v_X0_breakFor vv_X0_breakFor s_RX7_263 eX7_breakLine_33 (fun _ _ h => WF_pick [0, 1, 2, 3, 4, 5] rfl rfl h) (rcvP 0 rfl (LF_rcv (by omega))) rfl (by first | exact nle rfl | omega) (by first | exact nle rfl | omega) (by first | exact nle rfl | omega) (by first | exact nle rfl | omega) rfl ?_
  refine x_iload C eX7_breakLine_36 rfl ?_
  refine x_ws ((ob t 8 (tkS al lg) (tkI (un n l9 (bBreak (n l9) t9)))) :: (arR G 5 al 6 (fun j => some (L (j : Int)))) :: (LF G M L (un n l9 (bBreak (n l9) t9))) :: (LOG G lg (un n l9 (bBreak (n l9) t9))) :: [_, _]) (fun cf0 c hw => TKcv (n1 := un n l9 (bBreak (n l9) t9)) (n2 := n) ?_ ?_ ?_ ?_ ?_ ?_ ?_ ?_ ?_ ?_ ?_ (R := [_, _]) (WF_pick [1, 2, 0, 4, 3, 5] rfl rfl hw)) ?_
  · rw [un_n (by omega)]; rfl
  · rw [un_n (by omega)]; rfl
  · rw [un_n (by omega)]; rfl
  · rw [un_n (by omega)]; rfl
  · rw [un_n (by omega)]; rfl
  · rw [un_n (by omega)]; rfl
  · rw [un_n (by omega)]; rfl
  · rfl
  · exact fun _ _ _ => rfl
  · rw [un_n (by omega)]
  · rw [un_n (by omega)]
  refine x_iret (by first | rfl | exact (narZ (by omega)).1) C F eX7_breakLine_38 () ?_ trivial (fun cf c h => ?_) (by first | exact nle rfl | omega) (by first | exact nle rfl | omega)
  · rfl
  · exact WF_pick [4, 0, 1, 2, 3, 5] rfl rfl h

set_option maxHeartbeats 4000000 in
set_option maxRecDepth 100000 in
theorem s_X7_setPaused {G : Gm} {l : Launch} (hK : KG G) {e ip op t tr ps pa sl al lg : Nat} {J : Nat → Int} {M : Pool} {L : Int → Nat} {n : Net} {N : Nat → Net} {b : Int} {l9 : Int} (p9 : Prop) [Decidable p9] (hN : NetOk b n) (hb : b ≤ 900000000) (h6 : 0 ≤ J 6 ∧ J 6 ≤ 6) (hS : KS G) (hl : 0 ≤ l9 ∧ l9 < n (-1) 0) : MD G l yX7_setPaused cX7_setPaused 5 (some .boolean) 9 64 1900 [.ref e, .int (zI l9), .int (zI (bz p9))] [ob e 9 (ecS ip op t tr ps pa sl) J, ob t 8 (tkS al lg) (tkI (n)), arR G 5 al 6 (fun j => some (L (j : Int))), LF G M L (n), LOG G lg (n), PS G M pa (J 6) N] (some (.int (zI (n l9 11)))) [ob e 9 (ecS ip op t tr ps pa sl) (up J 6 (rmR (J 6))), ob t 8 (tkS al lg) (tkI (un n l9 (ub (n l9) 11 (bz p9)))), arR G 5 al 6 (fun j => some (L (j : Int))), LF G M L (un n l9 (ub (n l9) 11 (bz p9))), LOG G lg (un n l9 (ub (n l9) 11 (bz p9))), PS G M pa (rmR (J 6)) (rmP (J 6) N n)] := by
  refine MX_of (lv := [some (.ref e), some (.int (zI l9)), some (.int (zI (bz p9))), none, none]) hK (by decide +kernel) rfl (by first | exact nle rfl | omega) (fun X C F => ?_)
  have C : OKc G X l RX7 "setPaused" cX7_setPaused 5 (some .boolean) 9 64 1900 := C
  have hH := hN.1
  unfold HeadOk at hH
  have hL := hN.2.2 l9 (by omega) (by omega)
  unfold LineOk at hL
  have hz9 : 0 ≤ bz p9 ∧ bz p9 ≤ 1 := by unfold bz; split <;> decide
  refine x_aload_n C eX7_setPaused_0 rfl ?_
  refine x_iload_n C eX7_setPaused_1 rfl ?_
  refine yV1v [_, _, _, _] [_, _, _, _, _, _] C (s_X7_testLine hK (by omega)) v_X7_testLine vv_X7_testLine s_RX7_145 eX7_setPaused_2 (fun _ _ h => WF_pick [0, 1, 2, 3, 4, 5] rfl rfl h) (rcv 0 rfl) rfl (by first | exact nle rfl | omega) (by first | exact nle rfl | omega) (by first | exact nle rfl | omega) (by first | exact nle rfl | omega) rfl ?_
  refine x_aload_n C eX7_setPaused_5 rfl ?_
  refine yV0w [] [_, _, _, _, _, _] C (s_X7_remember hK hN (by omega) (by omega) hS) v_X7_remember vv_X7_remember s_RX7_84 eX7_setPaused_6 (fun _ _ h => WF_pick [0, 1, 2, 3, 4, 5] rfl rfl h) (rcv 0 rfl) rfl (by first | exact nle rfl | omega) (by first | exact nle rfl | omega) (by first | exact nle rfl | omega) (by first | exact nle rfl | omega) rfl ?_
  refine x_aload_n C eX7_setPaused_9 rfl ?_
  refine x_getR 0 C f_RX7_22 eX7_setPaused_10 rfl rfl ?_
  refine x_iload_n C eX7_setPaused_13 rfl ?_
  refine yV1r [_, _, _, _] [_, _, _, _, _, _] C (s_X6_lineAt hK (by omega)) v_X6_lineAt vv_X6_lineAt s_RX7_122 eX7_setPaused_14 (fun _ _ h => WF_pick [1, 2, 0, 3, 4, 5] rfl rfl h) (rcv 1 rfl) rfl (by first | exact nle rfl | omega) (by first | exact nle rfl | omega) (by first | exact nle rfl | omega) (by first | exact nle rfl | omega) rfl ?_
  refine x_astore_n [_, _, _, _, _] C eX7_setPaused_17 rfl rfl (nlt rfl) ?_
  refine x_aload_n C eX7_setPaused_18 rfl ?_
  refine x_gL 3 C f_RX7_139 eX7_setPaused_19 rfl (by omega) rfl ?_
  try simp only [lnI_1, lnI_2, lnI_3, lnI_4, lnI_5, lnI_10, lnI_11, lnI_12, lnI_13, lnI_14, lnI_15]
  refine x_istore [_, _, _, _, _] C eX7_setPaused_22 rfl rfl (nlt rfl) ?_
  refine x_oL (M := M) (L := L) (m := n) (i := l9) (R := [_, _, _, _, _]) (by omega) (fun _ _ hw => WF_pick [3, 0, 1, 2, 4, 5] rfl rfl hw) (fun A hA => ?_)
  refine x_aload_n C eX7_setPaused_24 rfl ?_
  refine x_iload_n C eX7_setPaused_25 rfl ?_
  refine x_putZ [_, _, _, _, _, _, _, _, _, _, _, _, _, _, _, _] 0 C f_RX7_139 eX7_setPaused_26 rfl rfl (by omega) rfl ?_
  refine x_pick [_, _, _, _, _, _, _, _, _, _, _, _, _, _, _, _] [0, 1, 2, 3, 4, 5, 6, 7, 8, 9, 10, 11, 12, 13, 14, 15] rfl rfl ?_
  refine x_cL (m := n) (i := l9) (A := A) (B := ub (n l9) 11 (bz p9)) (by omega) hA (fun cf c h => ?_) ?_
  · exact ln_this (B := n l9) (by
      refine lnI_ok ?_ ?_ ?_ ?_ ?_ ?_ ?_ ?_ ?_ ?_ ?_
      all_goals (try simp (disch := omega) only [up_s, up_n, lnI_1, lnI_2, lnI_3, lnI_4, lnI_5, lnI_10, lnI_11, lnI_12, lnI_13, lnI_14, lnI_15, lnTo, ub_s, ub_n, bLend])
      all_goals (repeat' split)
      all_goals first | rfl | omega) (by first | rfl | (simp (disch := omega) only [ub_n, bLend])) (by first | rfl | (simp (disch := omega) only [ub_n, bLend])) (by first | rfl | (simp (disch := omega) only [ub_n, bLend])) (by first | rfl | (simp (disch := omega) only [ub_n, bLend])) (fun k hk => by first | rfl | (simp (disch := omega) only [ub_n, bLend])) cf c h rfl
  refine x_ws ((ob t 8 (tkS al lg) (tkI (un n l9 (ub (n l9) 11 (bz p9))))) :: (arR G 5 al 6 (fun j => some (L (j : Int)))) :: (LF G M L (un n l9 (ub (n l9) 11 (bz p9)))) :: (LOG G lg (un n l9 (ub (n l9) 11 (bz p9)))) :: [_, _]) (fun cf0 c hw => TKcv (n1 := un n l9 (ub (n l9) 11 (bz p9))) (n2 := n) ?_ ?_ ?_ ?_ ?_ ?_ ?_ ?_ ?_ ?_ ?_ (R := [_, _]) (WF_pick [1, 2, 0, 4, 3, 5] rfl rfl hw)) ?_
  · rw [un_n (by omega)]; rfl
  · rw [un_n (by omega)]; rfl
  · rw [un_n (by omega)]; rfl
  · rw [un_n (by omega)]; rfl
  · rw [un_n (by omega)]; rfl
  · rw [un_n (by omega)]; rfl
  · rw [un_n (by omega)]; rfl
  · rfl
  · exact fun _ _ _ => rfl
  · rw [un_n (by omega)]
  · rw [un_n (by omega)]
  refine x_iload C eX7_setPaused_29 rfl ?_
  refine x_iret (narZ (by omega)).1 C F eX7_setPaused_31 () ?_ trivial (fun cf c h => ?_) (by first | exact nle rfl | omega) (by first | exact nle rfl | omega)
  · rfl
  · exact WF_pick [4, 0, 1, 2, 3, 5] rfl rfl h

set_option maxHeartbeats 4000000 in
set_option maxRecDepth 100000 in
theorem s_X7_setShare {G : Gm} {l : Launch} (hK : KG G) {e ip op t tr ps pa sl al lg : Nat} {J : Nat → Int} {M : Pool} {L : Int → Nat} {n : Net} {N : Nat → Net} {b : Int} {l9 e9 : Int} (hN : NetOk b n) (hb : b ≤ 900000000) (h6 : 0 ≤ J 6 ∧ J 6 ≤ 6) (hS : KS G) (hl : 0 ≤ l9 ∧ l9 < n (-1) 0) (he : 1 ≤ e9 ∧ e9 ≤ 9) : MD G l yX7_setShare cX7_setShare 5 (some .int) 9 64 1900 [.ref e, .int (zI l9), .int (zI e9)] [ob e 9 (ecS ip op t tr ps pa sl) J, ob t 8 (tkS al lg) (tkI (n)), arR G 5 al 6 (fun j => some (L (j : Int))), LF G M L (n), LOG G lg (n), PS G M pa (J 6) N] (some (.int (zI (n l9 4)))) [ob e 9 (ecS ip op t tr ps pa sl) (up J 6 (rmR (J 6))), ob t 8 (tkS al lg) (tkI (un n l9 (ub (n l9) 4 e9))), arR G 5 al 6 (fun j => some (L (j : Int))), LF G M L (un n l9 (ub (n l9) 4 e9)), LOG G lg (un n l9 (ub (n l9) 4 e9)), PS G M pa (rmR (J 6)) (rmP (J 6) N n)] := by
  refine MX_of (lv := [some (.ref e), some (.int (zI l9)), some (.int (zI e9)), none, none]) hK (by decide +kernel) rfl (by first | exact nle rfl | omega) (fun X C F => ?_)
  have C : OKc G X l RX7 "setShare" cX7_setShare 5 (some .int) 9 64 1900 := C
  have hH := hN.1
  unfold HeadOk at hH
  have hL := hN.2.2 l9 (by omega) (by omega)
  unfold LineOk at hL
  refine x_aload_n C eX7_setShare_0 rfl ?_
  refine x_iload_n C eX7_setShare_1 rfl ?_
  refine yV1v [_, _, _, _] [_, _, _, _, _, _] C (s_X7_testLine hK (by omega)) v_X7_testLine vv_X7_testLine s_RX7_145 eX7_setShare_2 (fun _ _ h => WF_pick [0, 1, 2, 3, 4, 5] rfl rfl h) (rcv 0 rfl) rfl (by first | exact nle rfl | omega) (by first | exact nle rfl | omega) (by first | exact nle rfl | omega) (by first | exact nle rfl | omega) rfl ?_
  refine x_iload_n C eX7_setShare_5 rfl ?_
  refine x_iconst C eX7_setShare_6 ?_
  refine x_bipush C eX7_setShare_7 rfl ?_
  refine yS3v [_, _, _, _, _, _] [_, _, _, _, _, _] C (s_X7_testRange hK (by omega)) v_X7_testRange vs_X7_testRange s_RX7_219 eX7_setShare_9 (fun _ _ h => WF_pick [0, 1, 2, 3, 4, 5] rfl rfl h) rfl (by first | exact nle rfl | omega) (by first | exact nle rfl | omega) (by first | exact nle rfl | omega) (by first | exact nle rfl | omega) rfl ?_
  refine x_aload_n C eX7_setShare_12 rfl ?_
  refine yV0w [] [_, _, _, _, _, _] C (s_X7_remember hK hN (by omega) (by omega) hS) v_X7_remember vv_X7_remember s_RX7_84 eX7_setShare_13 (fun _ _ h => WF_pick [0, 1, 2, 3, 4, 5] rfl rfl h) (rcv 0 rfl) rfl (by first | exact nle rfl | omega) (by first | exact nle rfl | omega) (by first | exact nle rfl | omega) (by first | exact nle rfl | omega) rfl ?_
  refine x_aload_n C eX7_setShare_16 rfl ?_
  refine x_getR 0 C f_RX7_22 eX7_setShare_17 rfl rfl ?_
  refine x_iload_n C eX7_setShare_20 rfl ?_
  refine yV1r [_, _, _, _] [_, _, _, _, _, _] C (s_X6_lineAt hK (by omega)) v_X6_lineAt vv_X6_lineAt s_RX7_122 eX7_setShare_21 (fun _ _ h => WF_pick [1, 2, 0, 3, 4, 5] rfl rfl h) (rcv 1 rfl) rfl (by first | exact nle rfl | omega) (by first | exact nle rfl | omega) (by first | exact nle rfl | omega) (by first | exact nle rfl | omega) rfl ?_
  refine x_astore_n [_, _, _, _, _] C eX7_setShare_24 rfl rfl (nlt rfl) ?_
  refine x_aload_n C eX7_setShare_25 rfl ?_
  refine x_gL 3 C f_RX7_159 eX7_setShare_26 rfl (by omega) rfl ?_
  try simp only [lnI_1, lnI_2, lnI_3, lnI_4, lnI_5, lnI_10, lnI_11, lnI_12, lnI_13, lnI_14, lnI_15]
  refine x_istore [_, _, _, _, _] C eX7_setShare_29 rfl rfl (nlt rfl) ?_
  refine x_oL (M := M) (L := L) (m := n) (i := l9) (R := [_, _, _, _, _]) (by omega) (fun _ _ hw => WF_pick [3, 0, 1, 2, 4, 5] rfl rfl hw) (fun A hA => ?_)
  refine x_aload_n C eX7_setShare_31 rfl ?_
  refine x_iload_n C eX7_setShare_32 rfl ?_
  refine x_putI [_, _, _, _, _, _, _, _, _, _, _, _, _, _, _, _] 0 C f_RX7_159 eX7_setShare_33 rfl rfl rfl ?_
  refine x_pick [_, _, _, _, _, _, _, _, _, _, _, _, _, _, _, _] [0, 1, 2, 3, 4, 5, 6, 7, 8, 9, 10, 11, 12, 13, 14, 15] rfl rfl ?_
  refine x_cL (m := n) (i := l9) (A := A) (B := ub (n l9) 4 e9) (by omega) hA (fun cf c h => ?_) ?_
  · exact ln_this (B := n l9) (by
      refine lnI_ok ?_ ?_ ?_ ?_ ?_ ?_ ?_ ?_ ?_ ?_ ?_
      all_goals (try simp (disch := omega) only [up_s, up_n, lnI_1, lnI_2, lnI_3, lnI_4, lnI_5, lnI_10, lnI_11, lnI_12, lnI_13, lnI_14, lnI_15, lnTo, ub_s, ub_n, bLend])
      all_goals (repeat' split)
      all_goals first | rfl | omega) (by first | rfl | (simp (disch := omega) only [ub_n, bLend])) (by first | rfl | (simp (disch := omega) only [ub_n, bLend])) (by first | rfl | (simp (disch := omega) only [ub_n, bLend])) (by first | rfl | (simp (disch := omega) only [ub_n, bLend])) (fun k hk => by first | rfl | (simp (disch := omega) only [ub_n, bLend])) cf c h rfl
  refine x_ws ((ob t 8 (tkS al lg) (tkI (un n l9 (ub (n l9) 4 e9)))) :: (arR G 5 al 6 (fun j => some (L (j : Int)))) :: (LF G M L (un n l9 (ub (n l9) 4 e9))) :: (LOG G lg (un n l9 (ub (n l9) 4 e9))) :: [_, _]) (fun cf0 c hw => TKcv (n1 := un n l9 (ub (n l9) 4 e9)) (n2 := n) ?_ ?_ ?_ ?_ ?_ ?_ ?_ ?_ ?_ ?_ ?_ (R := [_, _]) (WF_pick [1, 2, 0, 4, 3, 5] rfl rfl hw)) ?_
  · rw [un_n (by omega)]; rfl
  · rw [un_n (by omega)]; rfl
  · rw [un_n (by omega)]; rfl
  · rw [un_n (by omega)]; rfl
  · rw [un_n (by omega)]; rfl
  · rw [un_n (by omega)]; rfl
  · rw [un_n (by omega)]; rfl
  · rfl
  · exact fun _ _ _ => rfl
  · rw [un_n (by omega)]
  · rw [un_n (by omega)]
  refine x_iload C eX7_setShare_36 rfl ?_
  refine x_iret (by first | rfl | exact (narZ (by omega)).1) C F eX7_setShare_38 () ?_ trivial (fun cf c h => ?_) (by first | exact nle rfl | omega) (by first | exact nle rfl | omega)
  · rfl
  · exact WF_pick [4, 0, 1, 2, 3, 5] rfl rfl h
