/-! Echo, marks, undo, slots. -/
/-- what is kept in the slots -/
def SS (G : Gm) (M : Pool) (sl : Nat) (Fu : Nat → Int) (K : Nat → Net) : SA := fun d => ∃ (P : Nat → Option Nat) (Lp : Nat → Int → Nat), ((∀ j : Nat, j < 2 → (P j ≠ none ↔ Fu j = 1)) ∧ ∀ j : Nat, 2 ≤ j → P j = none) ∧ WL [arR G 6 sl 2 P, fam6 (pQ G M P Lp 6 K)] d
section Rules
variable {G : Gm} {X : Cx} {k n : Nat} {ws : List SA} {pc : Nat} {lv : List (Option Value)} {st : List Value}
end Rules

set_option maxHeartbeats 4000000 in
set_option maxRecDepth 100000 in
theorem s_X7_setEcho {G : Gm} {l : Launch} (hK : KG G) {e ip op t tr ps pa sl al lg : Nat} {J : Nat → Int} {M : Pool} {L : Int → Nat} {n : Net} {N : Nat → Net} {b : Int} {l9 e9 : Int} (hN : NetOk b n) (hb : b ≤ 900000000) (h6 : 0 ≤ J 6 ∧ J 6 ≤ 6) (hS : KS G) (hl : 0 ≤ l9 ∧ l9 < n (-1) 0) (he : 0 ≤ e9 ∧ e9 ≤ 2) : MD G l yX7_setEcho cX7_setEcho 5 (some .int) 9 64 1900 [.ref e, .int (zI l9), .int (zI e9)] [ob e 9 (ecS ip op t tr ps pa sl) J, ob t 8 (tkS al lg) (tkI (n)), arR G 5 al 6 (fun j => some (L (j : Int))), LF G M L (n), LOG G lg (n), PS G M pa (J 6) N] (some (.int (zI (n l9 5)))) [ob e 9 (ecS ip op t tr ps pa sl) (up J 6 (rmR (J 6))), ob t 8 (tkS al lg) (tkI (un n l9 (ub (ub (n l9) 5 e9) 8 0))), arR G 5 al 6 (fun j => some (L (j : Int))), LF G M L (un n l9 (ub (ub (n l9) 5 e9) 8 0)), LOG G lg (un n l9 (ub (ub (n l9) 5 e9) 8 0)), PS G M pa (rmR (J 6)) (rmP (J 6) N n)] := by
  refine MX_of (lv := [some (.ref e), some (.int (zI l9)), some (.int (zI e9)), none, none]) hK (by decide +kernel) rfl (by first | exact nle rfl | omega) (fun X C F => ?_)
  have C : OKc G X l RX7 "setEcho" cX7_setEcho 5 (some .int) 9 64 1900 := C
  have hH := hN.1
  unfold HeadOk at hH
  have hL := hN.2.2 l9 (by omega) (by omega)
  unfold LineOk at hL
  refine x_aload_n C eX7_setEcho_0 rfl ?_
  refine x_iload_n C eX7_setEcho_1 rfl ?_
  refine yV1v [_, _, _, _] [_, _, _, _, _, _] C (s_X7_testLine hK (by omega)) v_X7_testLine vv_X7_testLine s_RX7_145 eX7_setEcho_2 (fun _ _ h => WF_pick [0, 1, 2, 3, 4, 5] rfl rfl h) (rcv 0 rfl) rfl (by first | exact nle rfl | omega) (by first | exact nle rfl | omega) (by first | exact nle rfl | omega) (by first | exact nle rfl | omega) rfl ?_
  refine x_iload_n C eX7_setEcho_5 rfl ?_
  refine x_iconst C eX7_setEcho_6 ?_
  refine x_iconst C eX7_setEcho_7 ?_
  refine yS3v [_, _, _, _, _, _] [_, _, _, _, _, _] C (s_X7_testRange hK (by omega)) v_X7_testRange vs_X7_testRange s_RX7_219 eX7_setEcho_8 (fun _ _ h => WF_pick [0, 1, 2, 3, 4, 5] rfl rfl h) rfl (by first | exact nle rfl | omega) (by first | exact nle rfl | omega) (by first | exact nle rfl | omega) (by first | exact nle rfl | omega) rfl ?_
  refine x_aload_n C eX7_setEcho_11 rfl ?_
  refine yV0w [] [_, _, _, _, _, _] C (s_X7_remember hK hN (by omega) (by omega) hS) v_X7_remember vv_X7_remember s_RX7_84 eX7_setEcho_12 (fun _ _ h => WF_pick [0, 1, 2, 3, 4, 5] rfl rfl h) (rcv 0 rfl) rfl (by first | exact nle rfl | omega) (by first | exact nle rfl | omega) (by first | exact nle rfl | omega) (by first | exact nle rfl | omega) rfl ?_
  refine x_aload_n C eX7_setEcho_15 rfl ?_
  refine x_getR 0 C f_RX7_22 eX7_setEcho_16 rfl rfl ?_
  refine x_iload_n C eX7_setEcho_19 rfl ?_
  refine yV1r [_, _, _, _] [_, _, _, _, _, _] C (s_X6_lineAt hK (by omega)) v_X6_lineAt vv_X6_lineAt s_RX7_122 eX7_setEcho_20 (fun _ _ h => WF_pick [1, 2, 0, 3, 4, 5] rfl rfl h) (rcv 1 rfl) rfl (by first | exact nle rfl | omega) (by first | exact nle rfl | omega) (by first | exact nle rfl | omega) (by first | exact nle rfl | omega) rfl ?_
  refine x_astore_n [_, _, _, _, _] C eX7_setEcho_23 rfl rfl (nlt rfl) ?_
  refine x_aload_n C eX7_setEcho_24 rfl ?_
  refine x_gL 3 C f_RX7_162 eX7_setEcho_25 rfl (by omega) rfl ?_
  try simp only [lnI_1, lnI_2, lnI_3, lnI_4, lnI_5, lnI_10, lnI_11, lnI_12, lnI_13, lnI_14, lnI_15]
  refine x_istore [_, _, _, _, _] C eX7_setEcho_28 rfl rfl (nlt rfl) ?_
  refine x_oL (M := M) (L := L) (m := n) (i := l9) (R := [_, _, _, _, _]) (by omega) (fun _ _ hw => WF_pick [3, 0, 1, 2, 4, 5] rfl rfl hw) (fun A hA => ?_)
  refine x_aload_n C eX7_setEcho_30 rfl ?_
  refine x_iload_n C eX7_setEcho_31 rfl ?_
  refine x_putI [_, _, _, _, _, _, _, _, _, _, _, _, _, _, _, _] 0 C f_RX7_162 eX7_setEcho_32 rfl rfl rfl ?_
  refine x_aload_n C eX7_setEcho_35 rfl ?_
  refine x_getR 0 C f_RX7_175 eX7_setEcho_36 rfl rfl ?_
  refine yV0v [_, _, _, _, _, _, _, _, _, _, _, _, _, _] [_, _, _, _, _, _, _, _, _, _, _, _, _, _, _, _] C (s_X3_clear hK (fun j => n l9 (208 + (j : Int))) ) v_X3_clear vv_X3_clear s_RX7_266 eX7_setEcho_39 (fun _ _ h => WF_pick [7, 8, 0, 1, 2, 3, 4, 5, 6, 9, 10, 11, 12, 13, 14, 15] rfl rfl h) (rcv 7 rfl) rfl (by first | exact nle rfl | omega) (by first | exact nle rfl | omega) (by first | exact nle rfl | omega) (by first | exact nle rfl | omega) rfl ?_
  refine x_iload C eX7_setEcho_42 rfl ?_
  refine x_pick [_, _, _, _, _, _, _, _, _, _, _, _, _, _, _, _] [2, 3, 4, 5, 6, 7, 8, 0, 1, 9, 10, 11, 12, 13, 14, 15] rfl rfl ?_
  refine x_cL (m := n) (i := l9) (A := A) (B := ub (ub (n l9) 5 e9) 8 0) (by omega) hA (fun cf c h => ?_) ?_
  · refine LRcv ?_ ?_ ?_ ?_ ?_ ?_ ?_ ?_ ?_ ?_ ?_ ?_ ?_ ?_ ?_ ?_ ?_ ?_ ?_ ?_ ?_ h
    all_goals (try intro j hj)
    all_goals (try simp (disch := omega) only [inc, lnTo, lnI_1, lnI_2, lnI_3, lnI_4, lnI_5, lnI_10, lnI_11, lnI_12, lnI_13, lnI_14, lnI_15, ub_n, ub_s, up_n, up_s, if_true])
    all_goals (try simp only [up_lit, ub_lit])
    all_goals (repeat' split)
    all_goals first | rfl | omega | (congr 1 <;> omega) | (exfalso; omega)
  refine x_ws ((ob t 8 (tkS al lg) (tkI (un n l9 (ub (ub (n l9) 5 e9) 8 0)))) :: (arR G 5 al 6 (fun j => some (L (j : Int)))) :: (LF G M L (un n l9 (ub (ub (n l9) 5 e9) 8 0))) :: (LOG G lg (un n l9 (ub (ub (n l9) 5 e9) 8 0))) :: [_, _]) (fun cf0 c hw => TKcv (n1 := un n l9 (ub (ub (n l9) 5 e9) 8 0)) (n2 := n) ?_ ?_ ?_ ?_ ?_ ?_ ?_ ?_ ?_ ?_ ?_ (R := [_, _]) (WF_pick [1, 2, 0, 4, 3, 5] rfl rfl hw)) ?_
  · rw [un_n (by omega)]; rfl
  · rw [un_n (by omega)]; rfl
  · rw [un_n (by omega)]; rfl
  · rw [un_n (by omega)]; rfl
  · rw [un_n (by omega)]; rfl
  · rw [un_n (by omega)]; rfl
  · rw [un_n (by omega)]; rfl
  · rfl
  · exact fun _ _ _ => rfl
  · rw [un_n (by omega)]
  · rw [un_n (by omega)]
  refine x_iret (by first | rfl | exact (narZ (by omega)).1) C F eX7_setEcho_44 () ?_ trivial (fun cf c h => ?_) (by first | exact nle rfl | omega) (by first | exact nle rfl | omega)
  · rfl
  · exact WF_pick [4, 0, 1, 2, 3, 5] rfl rfl h

set_option maxHeartbeats 4000000 in
set_option maxRecDepth 100000 in
theorem s_X7_setMarks {G : Gm} {l : Launch} (hK : KG G) {e ip op t tr ps pa sl al lg : Nat} {J : Nat → Int} {M : Pool} {L : Int → Nat} {n : Net} {N : Nat → Net} {b : Int} {l9 a9 c9 : Int} (hN : NetOk b n) (hb : b ≤ 900000000) (h6 : 0 ≤ J 6 ∧ J 6 ≤ 6) (hS : KS G) (hl : 0 ≤ l9 ∧ l9 < n (-1) 0) (ha : (0 ≤ a9 ∧ a9 ≤ n l9 1 - 1) ∧ a9 + 1 ≤ c9 ∧ c9 ≤ n l9 1) : MD G l yX7_setMarks cX7_setMarks 6 (some .int) 9 64 1900 [.ref e, .int (zI l9), .int (zI a9), .int (zI c9)] [ob e 9 (ecS ip op t tr ps pa sl) J, ob t 8 (tkS al lg) (tkI (n)), arR G 5 al 6 (fun j => some (L (j : Int))), LF G M L (n), LOG G lg (n), PS G M pa (J 6) N] (some (.int (zI (100 * n l9 2 + n l9 3)))) [ob e 9 (ecS ip op t tr ps pa sl) (up J 6 (rmR (J 6))), ob t 8 (tkS al lg) (tkI (un n l9 (bStop (ub (ub (n l9) 2 a9) 3 c9)))), arR G 5 al 6 (fun j => some (L (j : Int))), LF G M L (un n l9 (bStop (ub (ub (n l9) 2 a9) 3 c9))), LOG G lg (un n l9 (bStop (ub (ub (n l9) 2 a9) 3 c9))), PS G M pa (rmR (J 6)) (rmP (J 6) N n)] := by
  refine MX_of (lv := [some (.ref e), some (.int (zI l9)), some (.int (zI a9)), some (.int (zI c9)), none, none]) hK (by decide +kernel) rfl (by first | exact nle rfl | omega) (fun X C F => ?_)
  have C : OKc G X l RX7 "setMarks" cX7_setMarks 6 (some .int) 9 64 1900 := C
  have hH := hN.1
  unfold HeadOk at hH
  have hL := hN.2.2 l9 (by omega) (by omega)
  unfold LineOk at hL
  refine x_aload_n C eX7_setMarks_0 rfl ?_
  refine x_iload_n C eX7_setMarks_1 rfl ?_
  refine yV1v [_, _, _, _] [_, _, _, _, _, _] C (s_X7_testLine hK (by omega)) v_X7_testLine vv_X7_testLine s_RX7_145 eX7_setMarks_2 (fun _ _ h => WF_pick [0, 1, 2, 3, 4, 5] rfl rfl h) (rcv 0 rfl) rfl (by first | exact nle rfl | omega) (by first | exact nle rfl | omega) (by first | exact nle rfl | omega) (by first | exact nle rfl | omega) rfl ?_
  refine x_aload_n C eX7_setMarks_5 rfl ?_
  refine x_getR 0 C f_RX7_22 eX7_setMarks_6 rfl rfl ?_
  refine x_iload_n C eX7_setMarks_9 rfl ?_
  refine yV1r [_, _, _, _] [_, _, _, _, _, _] C (s_X6_lineAt hK (by omega)) v_X6_lineAt vv_X6_lineAt s_RX7_122 eX7_setMarks_10 (fun _ _ h => WF_pick [1, 2, 0, 3, 4, 5] rfl rfl h) (rcv 1 rfl) rfl (by first | exact nle rfl | omega) (by first | exact nle rfl | omega) (by first | exact nle rfl | omega) (by first | exact nle rfl | omega) rfl ?_
  refine x_astore [_, _, _, _, _, _] C eX7_setMarks_13 rfl rfl (nlt rfl) ?_
  refine x_iload_n C eX7_setMarks_15 rfl ?_
  refine x_iconst C eX7_setMarks_16 ?_
  refine x_aload C eX7_setMarks_17 rfl ?_
  refine x_gL 3 C f_RX7_150 eX7_setMarks_19 rfl (by omega) rfl ?_
  try simp only [lnI_1, lnI_2, lnI_3, lnI_4, lnI_5, lnI_10, lnI_11, lnI_12, lnI_13, lnI_14, lnI_15]
  refine x_iconst C eX7_setMarks_22 ?_
  refine x_isub C eX7_setMarks_23 ?_
  refine yS3v [_, _, _, _, _, _] [_, _, _, _, _, _] C (s_X7_testRange hK (by omega)) v_X7_testRange vs_X7_testRange s_RX7_219 eX7_setMarks_24 (fun _ _ h => WF_pick [0, 1, 2, 3, 4, 5] rfl rfl h) rfl (by first | exact nle rfl | omega) (by first | exact nle rfl | omega) (by first | exact nle rfl | omega) (by first | exact nle rfl | omega) rfl ?_
  refine x_iload_n C eX7_setMarks_27 rfl ?_
  refine x_iload_n C eX7_setMarks_28 rfl ?_
  refine x_iconst C eX7_setMarks_29 ?_
  refine x_iadd C eX7_setMarks_30 ?_
  refine x_aload C eX7_setMarks_31 rfl ?_
  refine x_gL 3 C f_RX7_150 eX7_setMarks_33 rfl (by omega) rfl ?_
  try simp only [lnI_1, lnI_2, lnI_3, lnI_4, lnI_5, lnI_10, lnI_11, lnI_12, lnI_13, lnI_14, lnI_15]
  refine yS3v [_, _, _, _, _, _] [_, _, _, _, _, _] C (s_X7_testRange hK (by omega)) v_X7_testRange vs_X7_testRange s_RX7_219 eX7_setMarks_36 (fun _ _ h => WF_pick [0, 1, 2, 3, 4, 5] rfl rfl h) rfl (by first | exact nle rfl | omega) (by first | exact nle rfl | omega) (by first | exact nle rfl | omega) (by first | exact nle rfl | omega) rfl ?_
  refine x_aload_n C eX7_setMarks_39 rfl ?_
  refine yV0w [] [_, _, _, _, _, _] C (s_X7_remember hK hN (by omega) (by omega) hS) v_X7_remember vv_X7_remember s_RX7_84 eX7_setMarks_40 (fun _ _ h => WF_pick [2, 0, 1, 3, 4, 5] rfl rfl h) (rcv 2 rfl) rfl (by first | exact nle rfl | omega) (by first | exact nle rfl | omega) (by first | exact nle rfl | omega) (by first | exact nle rfl | omega) rfl ?_
  refine x_bipush C eX7_setMarks_43 rfl ?_
  refine x_aload C eX7_setMarks_45 rfl ?_
  refine x_gL 3 C f_RX7_153 eX7_setMarks_47 rfl (by omega) rfl ?_
  try simp only [lnI_1, lnI_2, lnI_3, lnI_4, lnI_5, lnI_10, lnI_11, lnI_12, lnI_13, lnI_14, lnI_15]
  refine x_imul C eX7_setMarks_50 ?_
  refine x_aload C eX7_setMarks_51 rfl ?_
  refine x_gL 3 C f_RX7_156 eX7_setMarks_53 rfl (by omega) rfl ?_
  try simp only [lnI_1, lnI_2, lnI_3, lnI_4, lnI_5, lnI_10, lnI_11, lnI_12, lnI_13, lnI_14, lnI_15]
  refine x_iadd C eX7_setMarks_56 ?_
  refine x_istore [_, _, _, _, _, _] C eX7_setMarks_57 rfl rfl (nlt rfl) ?_
  refine x_oL (M := M) (L := L) (m := n) (i := l9) (R := [_, _, _, _, _]) (by omega) (fun _ _ hw => WF_pick [3, 0, 1, 2, 4, 5] rfl rfl hw) (fun A hA => ?_)
  refine x_aload C eX7_setMarks_59 rfl ?_
  refine x_iload_n C eX7_setMarks_61 rfl ?_
  refine x_putI [_, _, _, _, _, _, _, _, _, _, _, _, _, _, _, _] 0 C f_RX7_153 eX7_setMarks_62 rfl rfl rfl ?_
  refine x_aload C eX7_setMarks_65 rfl ?_
  refine x_iload_n C eX7_setMarks_67 rfl ?_
  refine x_putI [_, _, _, _, _, _, _, _, _, _, _, _, _, _, _, _] 0 C f_RX7_156 eX7_setMarks_68 rfl rfl rfl ?_
  refine x_pick [_, _, _, _, _, _, _, _, _, _, _, _, _, _, _, _] [0, 1, 2, 3, 4, 5, 6, 7, 8, 9, 10, 11, 12, 13, 14, 15] rfl rfl ?_
  refine x_cL (m := n) (i := l9) (A := A) (B := ub (ub (n l9) 2 a9) 3 c9) (by omega) hA (fun cf c h => ?_) ?_
  · exact ln_this (B := n l9) (by
      refine lnI_ok ?_ ?_ ?_ ?_ ?_ ?_ ?_ ?_ ?_ ?_ ?_
      all_goals (try simp (disch := omega) only [up_s, up_n, lnI_1, lnI_2, lnI_3, lnI_4, lnI_5, lnI_10, lnI_11, lnI_12, lnI_13, lnI_14, lnI_15, lnTo, ub_s, ub_n, bLend])
      all_goals (repeat' split)
      all_goals first | rfl | omega) (by first | rfl | (simp (disch := omega) only [ub_n, bLend])) (by first | rfl | (simp (disch := omega) only [ub_n, bLend])) (by first | rfl | (simp (disch := omega) only [ub_n, bLend])) (by first | rfl | (simp (disch := omega) only [ub_n, bLend])) (fun k hk => by first | rfl | (simp (disch := omega) only [ub_n, bLend])) cf c h rfl
  refine x_aload C eX7_setMarks_71 rfl ?_
  refine yV0v [_, _, _, _, _] [_, _, _, _, _, _] C (s_FL_tellStopping hK (by rw [un_n (by omega)]; omega) (by rw [un_s]; simp (disch := omega) only [ub_s, ub_n]; omega)) v_X0_tellStopping vv_X0_tellStopping s_RX7_269 eX7_setMarks_73 (fun _ _ h => WF_pick [0, 1, 2, 3, 4, 5] rfl rfl h) (rcvP 0 rfl (LF_rcv (by first | omega | (rw [un_n (by omega)]; omega)))) rfl (by first | exact nle rfl | omega) (by first | exact nle rfl | omega) (by first | exact nle rfl | omega) (by first | exact nle rfl | omega) rfl ?_
  rw [un_s, un_un]
  refine x_iload C eX7_setMarks_76 rfl ?_
  refine x_ws ((ob t 8 (tkS al lg) (tkI (un n l9 (bStop (ub (ub (n l9) 2 a9) 3 c9))))) :: (arR G 5 al 6 (fun j => some (L (j : Int)))) :: (LF G M L (un n l9 (bStop (ub (ub (n l9) 2 a9) 3 c9)))) :: (LOG G lg (un n l9 (bStop (ub (ub (n l9) 2 a9) 3 c9)))) :: [_, _]) (fun cf0 c hw => TKcv (n1 := un n l9 (bStop (ub (ub (n l9) 2 a9) 3 c9))) (n2 := n) ?_ ?_ ?_ ?_ ?_ ?_ ?_ ?_ ?_ ?_ ?_ (R := [_, _]) (WF_pick [2, 3, 0, 4, 1, 5] rfl rfl hw)) ?_
  · rw [un_n (by omega)]; rfl
  · rw [un_n (by omega)]; rfl
  · rw [un_n (by omega)]; rfl
  · rw [un_n (by omega)]; rfl
  · rw [un_n (by omega)]; rfl
  · rw [un_n (by omega)]; rfl
  · rw [un_n (by omega)]; rfl
  · rfl
  · exact fun _ _ _ => rfl
  · rw [un_n (by omega)]
  · rw [un_n (by omega)]
  refine x_iret (by first | rfl | exact (narZ (by omega)).1) C F eX7_setMarks_78 () ?_ trivial (fun cf c h => ?_) (by first | exact nle rfl | omega) (by first | exact nle rfl | omega)
  · rfl
  · exact WF_pick [4, 0, 1, 2, 3, 5] rfl rfl h

