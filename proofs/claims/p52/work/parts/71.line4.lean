set_option maxHeartbeats 4000000 in
set_option maxRecDepth 100000 in
theorem s_X0_startOver {G : Gm} {l : Launch} (hK : KG G) {a nm qi bi qa ba qo bo qw bw cn : Nat} {w zi za zo zw : Int} {J fi fa fo fw cf : Nat → Int}  : MD G l yX0_startOver cX0_startOver 2 none 2 0 0 [.ref a] [ob a 2 (lnS nm qi qa qo qw cn (w)) (J), ob qi 5 [some (.ref bi), none] (fun _ => zi), ar G 0 bi 60 (zi).toNat (fi), ob qa 5 [some (.ref ba), none] (fun _ => za), ar G 0 ba 60 (za).toNat (fa), ob qo 5 [some (.ref bo), none] (fun _ => zo), ar G 0 bo 60 (zo).toNat (fo), ob qw 5 [some (.ref bw), none] (fun _ => zw), ar G 0 bw 60 (zw).toNat (fw), ar G 0 cn 12 12 (cf)] none [ob a 2 (lnS nm qi qa qo qw cn ((bOver J) 15)) (lnI (bOver J)), ob qi 5 [some (.ref bi), none] (fun _ => (bOver J) 6), ar G 0 bi 60 ((bOver J) 6).toNat (fun j => (bOver J) (28 + (j : Int))), ob qa 5 [some (.ref ba), none] (fun _ => (bOver J) 6), ar G 0 ba 60 ((bOver J) 6).toNat (fun j => (bOver J) (88 + (j : Int))), ob qo 5 [some (.ref bo), none] (fun _ => (bOver J) 7), ar G 0 bo 60 ((bOver J) 7).toNat (fun j => (bOver J) (148 + (j : Int))), ob qw 5 [some (.ref bw), none] (fun _ => (bOver J) 8), ar G 0 bw 60 ((bOver J) 8).toNat (fun j => (bOver J) (208 + (j : Int))), ar G 0 cn 12 12 (fun j => (bOver J) (16 + (j : Int)))] := by
  refine MX_of (lv := [some (.ref a), none]) hK (by decide +kernel) rfl (nle rfl) (fun X C F => ?_)
  have C : OKc G X l RX0 "startOver" cX0_startOver 2 none 2 0 0 := C
  have loop : ∀ (f k : Nat), k ≤ 12 → 12 < k + f → WX G X 0 0 [ob a 2 (lnS nm qi qa qo qw cn (w)) (up (up (up (up (up (up (up J 5 0) 10 0) 11 (-1)) 12 0) 13 0) 14 0) 15 (-1)), ob qi 5 [some (.ref bi), none] (fun _ => (0 : Int)), ar G 0 bi 60 ((0 : Int)).toNat (fun _ => 0), ob qa 5 [some (.ref ba), none] (fun _ => (0 : Int)), ar G 0 ba 60 ((0 : Int)).toNat (fun _ => 0), ob qo 5 [some (.ref bo), none] (fun _ => (0 : Int)), ar G 0 bo 60 ((0 : Int)).toNat (fun _ => 0), ob qw 5 [some (.ref bw), none] (fun _ => (0 : Int)), ar G 0 bw 60 ((0 : Int)).toNat (fun _ => 0), ar G 0 cn 12 12 (fun j => if j < k then 0 else cf j)] 59 [some (.ref a), some (.int (zI (k : Int)))] [] := by
    intro f
    induction f with
    | zero => intro k g0 g1; exfalso; omega
    | succ f ih =>
      intro k g0 g1
      refine x_iload_n C eX0_startOver_59 rfl ?_
      refine x_aload_n C eX0_startOver_60 rfl ?_
      refine x_getR 0 C f_RX0_55 eX0_startOver_61 rfl rfl ?_
      refine x_alen 9 C eX0_startOver_64 rfl (by decide) ar_al ?_
      refine x_icmp_ge 81 C eX0_startOver_65 rfl (by omega) (by omega) (fun h65 => ?_) (fun h65 => ?_)
      · refine x_aload_n C eX0_startOver_81 rfl ?_
        refine x_lconst (v := 0) C eX0_startOver_82 rfl ?_
        refine x_putR [_, _, _, _, _, _, _, _, _, _, _, _, _, _, _, _, _, _] [_, _, _, _, _, _, _, _, _, _] 0 C f_RX0_109 eX0_startOver_83 rfl (nlt rfl) rfl rfl rfl rfl ?_
        refine x_vret C F eX0_startOver_86 () rfl trivial (fun cf c h => ?_) (nle rfl) (nle rfl)
        obtain rfl : k = 12 := by omega
        refine LRcv ?_ ?_ ?_ ?_ ?_ ?_ ?_ ?_ ?_ ?_ ?_ ?_ ?_ ?_ ?_ ?_ ?_ ?_ ?_ ?_ ?_ (WF_pick [0, 1, 2, 3, 4, 5, 6, 7, 8, 9] rfl rfl h)
        all_goals (try intro j hj)
        all_goals (try simp (disch := omega) only [inc, lnTo, lnI_1, lnI_2, lnI_3, lnI_4, lnI_5, lnI_10, lnI_11, lnI_12, lnI_13, lnI_14, lnI_15, ub_n, ub_s, up_n, up_s, if_true, bOver])
        all_goals (try simp only [up_lit, ub_lit, bOver])
        all_goals (repeat' split)
        all_goals first | rfl | omega | (congr 1 <;> omega) | (exfalso; omega)
      · refine x_aload_n C eX0_startOver_68 rfl ?_
        refine x_getR 0 C f_RX0_55 eX0_startOver_69 rfl rfl ?_
        refine x_iload_n C eX0_startOver_72 rfl ?_
        refine x_iconst C eX0_startOver_73 ?_
        refine x_iast (w := 0) [_, _, _, _, _, _, _, _, _, _] 12 9 C eX0_startOver_74 rfl (by decide) (by omega) (by omega) rfl ?_
        refine x_iinc [_, _] C eX0_startOver_75 rfl rfl rfl ?_
        refine x_goto (pc' := 59) C eX0_startOver_78 rfl ?_
        refine x_ws [ob a 2 (lnS nm qi qa qo qw cn (w)) (up (up (up (up (up (up (up J 5 0) 10 0) 11 (-1)) 12 0) 13 0) 14 0) 15 (-1)), ob qi 5 [some (.ref bi), none] (fun _ => (0 : Int)), ar G 0 bi 60 ((0 : Int)).toNat (fun _ => 0), ob qa 5 [some (.ref ba), none] (fun _ => (0 : Int)), ar G 0 ba 60 ((0 : Int)).toNat (fun _ => 0), ob qo 5 [some (.ref bo), none] (fun _ => (0 : Int)), ar G 0 bo 60 ((0 : Int)).toNat (fun _ => 0), ob qw 5 [some (.ref bw), none] (fun _ => (0 : Int)), ar G 0 bw 60 ((0 : Int)).toNat (fun _ => 0), ar G 0 cn 12 12 (fun j => if j < k + 1 then 0 else cf j)] (fun cf0 c hw => ?_) (ih (k + 1) (by omega) (by omega))
        refine LRcv ?_ ?_ ?_ ?_ ?_ ?_ ?_ ?_ ?_ ?_ ?_ ?_ ?_ ?_ ?_ ?_ ?_ ?_ ?_ ?_ ?_ (WF_pick [0, 1, 2, 3, 4, 5, 6, 7, 8, 9] rfl rfl hw)
        all_goals first | rfl | (intro j hj; first | rfl | (simp only [up_lit, Int.toNat_natCast]; repeat' split)
                                 all_goals first | rfl | omega)
  refine x_aload_n C eX0_startOver_0 rfl ?_
  refine x_getR 0 C f_RX0_36 eX0_startOver_1 rfl rfl ?_
  refine yV0v [_, _, _, _, _, _, _, _] [_, _, _, _, _, _, _, _, _, _] C (s_X3_clear hK (fun _ => 0) ) v_X3_clear vv_X3_clear s_RX0_90 eX0_startOver_4 (fun _ _ h => WF_pick [1, 2, 0, 3, 4, 5, 6, 7, 8, 9] rfl rfl h) (rcv 1 rfl) rfl (nle rfl) (nle rfl) (nle rfl) (nle rfl) rfl ?_
  refine x_aload_n C eX0_startOver_7 rfl ?_
  refine x_getR 2 C f_RX0_40 eX0_startOver_8 rfl rfl ?_
  refine yV0v [_, _, _, _, _, _, _, _] [_, _, _, _, _, _, _, _, _, _] C (s_X3_clear hK (fun _ => 0) ) v_X3_clear vv_X3_clear s_RX0_90 eX0_startOver_11 (fun _ _ h => WF_pick [3, 4, 0, 1, 2, 5, 6, 7, 8, 9] rfl rfl h) (rcv 3 rfl) rfl (nle rfl) (nle rfl) (nle rfl) (nle rfl) rfl ?_
  refine x_aload_n C eX0_startOver_14 rfl ?_
  refine x_getR 4 C f_RX0_43 eX0_startOver_15 rfl rfl ?_
  refine yV0v [_, _, _, _, _, _, _, _] [_, _, _, _, _, _, _, _, _, _] C (s_X3_clear hK (fun _ => 0) ) v_X3_clear vv_X3_clear s_RX0_90 eX0_startOver_18 (fun _ _ h => WF_pick [5, 6, 0, 1, 2, 3, 4, 7, 8, 9] rfl rfl h) (rcv 5 rfl) rfl (nle rfl) (nle rfl) (nle rfl) (nle rfl) rfl ?_
  refine x_aload_n C eX0_startOver_21 rfl ?_
  refine x_getR 6 C f_RX0_46 eX0_startOver_22 rfl rfl ?_
  refine yV0v [_, _, _, _, _, _, _, _] [_, _, _, _, _, _, _, _, _, _] C (s_X3_clear hK (fun _ => 0) ) v_X3_clear vv_X3_clear s_RX0_90 eX0_startOver_25 (fun _ _ h => WF_pick [7, 8, 0, 1, 2, 3, 4, 5, 6, 9] rfl rfl h) (rcv 7 rfl) rfl (nle rfl) (nle rfl) (nle rfl) (nle rfl) rfl ?_
  refine x_aload_n C eX0_startOver_28 rfl ?_
  refine x_iconst C eX0_startOver_29 ?_
  refine x_putI [_, _, _, _, _, _, _, _, _, _] 8 C f_RX0_30 eX0_startOver_30 rfl rfl rfl ?_
  refine x_aload_n C eX0_startOver_33 rfl ?_
  refine x_iconst C eX0_startOver_34 ?_
  refine x_putI [_, _, _, _, _, _, _, _, _, _] 8 C f_RX0_66 eX0_startOver_35 rfl rfl rfl ?_
  refine x_aload_n C eX0_startOver_38 rfl ?_
  refine yV0v [_, _, _, _, _, _, _, _, _] [_, _, _, _, _, _, _, _, _, _] C (s_X0_lendNoMore hK ) v_X0_lendNoMore vv_X0_lendNoMore s_RX0_119 eX0_startOver_39 (fun _ _ h => WF_pick [8, 0, 1, 2, 3, 4, 5, 6, 7, 9] rfl rfl h) (rcv 8 rfl) rfl (nle rfl) (nle rfl) (nle rfl) (nle rfl) rfl ?_
  refine x_aload_n C eX0_startOver_42 rfl ?_
  refine x_iconst C eX0_startOver_43 ?_
  refine x_putZ [_, _, _, _, _, _, _, _, _, _] 0 C f_RX0_93 eX0_startOver_44 rfl rfl (by omega) rfl ?_
  refine x_aload_n C eX0_startOver_47 rfl ?_
  refine x_iconst C eX0_startOver_48 ?_
  refine x_putZ [_, _, _, _, _, _, _, _, _, _] 0 C f_RX0_113 eX0_startOver_49 rfl rfl (by omega) rfl ?_
  refine x_aload_n C eX0_startOver_52 rfl ?_
  refine x_iconst C eX0_startOver_53 ?_
  refine x_putI [_, _, _, _, _, _, _, _, _, _] 0 C f_RX0_52 eX0_startOver_54 rfl rfl rfl ?_
  refine x_iconst C eX0_startOver_57 ?_
  refine x_istore_n [_, _] C eX0_startOver_58 rfl rfl (nlt rfl) ?_
  refine x_ws [ob a 2 (lnS nm qi qa qo qw cn (w)) (up (up (up (up (up (up (up J 5 0) 10 0) 11 (-1)) 12 0) 13 0) 14 0) 15 (-1)), ob qi 5 [some (.ref bi), none] (fun _ => (0 : Int)), ar G 0 bi 60 ((0 : Int)).toNat (fun _ => 0), ob qa 5 [some (.ref ba), none] (fun _ => (0 : Int)), ar G 0 ba 60 ((0 : Int)).toNat (fun _ => 0), ob qo 5 [some (.ref bo), none] (fun _ => (0 : Int)), ar G 0 bo 60 ((0 : Int)).toNat (fun _ => 0), ob qw 5 [some (.ref bw), none] (fun _ => (0 : Int)), ar G 0 bw 60 ((0 : Int)).toNat (fun _ => 0), ar G 0 cn 12 12 (fun j => if j < 0 then 0 else cf j)] (fun cf0 c hw => ?_) (loop 20 0 (by omega) (by omega))
  refine LRcv ?_ ?_ ?_ ?_ ?_ ?_ ?_ ?_ ?_ ?_ ?_ ?_ ?_ ?_ ?_ ?_ ?_ ?_ ?_ ?_ ?_ (WF_pick [0, 7, 8, 5, 6, 3, 4, 1, 2, 9] rfl rfl hw)
  all_goals first | rfl | (intro j hj; first | rfl | (exfalso; omega) | exact (if_neg (by omega)).symm)

set_option maxHeartbeats 4000000 in
set_option maxRecDepth 100000 in
theorem s_X0_copyFrom {G : Gm} {l : Launch} (hK : KG G) {a nm qi bi qa ba qo bo qw bw cn : Nat} {w zi za zo zw : Int} {J fi fa fo fw cf : Nat → Int} {a2 nm2 qi2 bi2 qa2 ba2 qo2 bo2 qw2 bw2 cn2 : Nat} {B9 : Blk} (h6 : (0 ≤ B9 6 ∧ B9 6 ≤ 60) ∧ (0 ≤ B9 7 ∧ B9 7 ≤ 60) ∧ (0 ≤ B9 8 ∧ B9 8 ≤ 60) ∧ (B9 10 = 0 ∨ B9 10 = 1) ∧ (B9 11 = 0 ∨ B9 11 = 1)) : MD G l yX0_copyFrom cX0_copyFrom 2 none 5 0 0 [.ref a, .ref a2] [ob a 2 (lnS nm qi qa qo qw cn (w)) (J), ob qi 5 [some (.ref bi), none] (fun _ => zi), ar G 0 bi 60 (zi).toNat (fi), ob qa 5 [some (.ref ba), none] (fun _ => za), ar G 0 ba 60 (za).toNat (fa), ob qo 5 [some (.ref bo), none] (fun _ => zo), ar G 0 bo 60 (zo).toNat (fo), ob qw 5 [some (.ref bw), none] (fun _ => zw), ar G 0 bw 60 (zw).toNat (fw), ar G 0 cn 12 12 (cf), ob a2 2 (lnS nm2 qi2 qa2 qo2 qw2 cn2 ((B9) 15)) (lnI (B9)), ob qi2 5 [some (.ref bi2), none] (fun _ => (B9) 6), ar G 0 bi2 60 ((B9) 6).toNat (fun j => (B9) (28 + (j : Int))), ob qa2 5 [some (.ref ba2), none] (fun _ => (B9) 6), ar G 0 ba2 60 ((B9) 6).toNat (fun j => (B9) (88 + (j : Int))), ob qo2 5 [some (.ref bo2), none] (fun _ => (B9) 7), ar G 0 bo2 60 ((B9) 7).toNat (fun j => (B9) (148 + (j : Int))), ob qw2 5 [some (.ref bw2), none] (fun _ => (B9) 8), ar G 0 bw2 60 ((B9) 8).toNat (fun j => (B9) (208 + (j : Int))), ar G 0 cn2 12 12 (fun j => (B9) (16 + (j : Int)))] none [ob a 2 (lnS nm2 qi qa qo qw cn ((B9) 15)) (lnI (B9)), ob qi 5 [some (.ref bi), none] (fun _ => (B9) 6), ar G 0 bi 60 ((B9) 6).toNat (fun j => (B9) (28 + (j : Int))), ob qa 5 [some (.ref ba), none] (fun _ => (B9) 6), ar G 0 ba 60 ((B9) 6).toNat (fun j => (B9) (88 + (j : Int))), ob qo 5 [some (.ref bo), none] (fun _ => (B9) 7), ar G 0 bo 60 ((B9) 7).toNat (fun j => (B9) (148 + (j : Int))), ob qw 5 [some (.ref bw), none] (fun _ => (B9) 8), ar G 0 bw 60 ((B9) 8).toNat (fun j => (B9) (208 + (j : Int))), ar G 0 cn 12 12 (fun j => (B9) (16 + (j : Int))), ob a2 2 (lnS nm2 qi2 qa2 qo2 qw2 cn2 ((B9) 15)) (lnI (B9)), ob qi2 5 [some (.ref bi2), none] (fun _ => (B9) 6), ar G 0 bi2 60 ((B9) 6).toNat (fun j => (B9) (28 + (j : Int))), ob qa2 5 [some (.ref ba2), none] (fun _ => (B9) 6), ar G 0 ba2 60 ((B9) 6).toNat (fun j => (B9) (88 + (j : Int))), ob qo2 5 [some (.ref bo2), none] (fun _ => (B9) 7), ar G 0 bo2 60 ((B9) 7).toNat (fun j => (B9) (148 + (j : Int))), ob qw2 5 [some (.ref bw2), none] (fun _ => (B9) 8), ar G 0 bw2 60 ((B9) 8).toNat (fun j => (B9) (208 + (j : Int))), ar G 0 cn2 12 12 (fun j => (B9) (16 + (j : Int)))] := by
  refine MX_of (lv := [some (.ref a), some (.ref a2)]) hK (by decide +kernel) rfl (nle rfl) (fun X C F => ?_)
  have C : OKc G X l RX0 "copyFrom" cX0_copyFrom 2 none 5 0 0 := C
  refine x_aload_n C eX0_copyFrom_0 rfl ?_
  refine x_aload_n C eX0_copyFrom_1 rfl ?_
  refine x_getR 10 C f_RX0_11 eX0_copyFrom_2 rfl rfl ?_
  refine x_putR [_, _, _, _, _, _, _, _, _, _, _, _, _, _, _, _, _, _] [_, _, _, _, _, _, _, _, _, _, _, _, _, _, _, _, _, _, _, _] 0 C f_RX0_11 eX0_copyFrom_5 rfl (nlt rfl) rfl rfl rfl rfl ?_
  refine x_aload_n C eX0_copyFrom_8 rfl ?_
  refine x_aload_n C eX0_copyFrom_9 rfl ?_
  refine x_getI 10 C f_RX0_17 eX0_copyFrom_10 rfl rfl ?_
  try simp (disch := decide) only [up_s, up_n, lnI_1, lnI_2, lnI_3, lnI_4, lnI_5, lnI_10, lnI_11, lnI_12, lnI_13, lnI_14, lnI_15]
  refine x_putI [_, _, _, _, _, _, _, _, _, _, _, _, _, _, _, _, _, _, _, _] 0 C f_RX0_17 eX0_copyFrom_13 rfl rfl rfl ?_
  refine x_aload_n C eX0_copyFrom_16 rfl ?_
  refine x_aload_n C eX0_copyFrom_17 rfl ?_
  refine x_getI 10 C f_RX0_21 eX0_copyFrom_18 rfl rfl ?_
  try simp (disch := decide) only [up_s, up_n, lnI_1, lnI_2, lnI_3, lnI_4, lnI_5, lnI_10, lnI_11, lnI_12, lnI_13, lnI_14, lnI_15]
  refine x_putI [_, _, _, _, _, _, _, _, _, _, _, _, _, _, _, _, _, _, _, _] 0 C f_RX0_21 eX0_copyFrom_21 rfl rfl rfl ?_
  refine x_aload_n C eX0_copyFrom_24 rfl ?_
  refine x_aload_n C eX0_copyFrom_25 rfl ?_
  refine x_getI 10 C f_RX0_24 eX0_copyFrom_26 rfl rfl ?_
  try simp (disch := decide) only [up_s, up_n, lnI_1, lnI_2, lnI_3, lnI_4, lnI_5, lnI_10, lnI_11, lnI_12, lnI_13, lnI_14, lnI_15]
  refine x_putI [_, _, _, _, _, _, _, _, _, _, _, _, _, _, _, _, _, _, _, _] 0 C f_RX0_24 eX0_copyFrom_29 rfl rfl rfl ?_
  refine x_aload_n C eX0_copyFrom_32 rfl ?_
  refine x_aload_n C eX0_copyFrom_33 rfl ?_
  refine x_getI 10 C f_RX0_27 eX0_copyFrom_34 rfl rfl ?_
  try simp (disch := decide) only [up_s, up_n, lnI_1, lnI_2, lnI_3, lnI_4, lnI_5, lnI_10, lnI_11, lnI_12, lnI_13, lnI_14, lnI_15]
  refine x_putI [_, _, _, _, _, _, _, _, _, _, _, _, _, _, _, _, _, _, _, _] 0 C f_RX0_27 eX0_copyFrom_37 rfl rfl rfl ?_
  refine x_aload_n C eX0_copyFrom_40 rfl ?_
  refine x_aload_n C eX0_copyFrom_41 rfl ?_
  refine x_getI 10 C f_RX0_30 eX0_copyFrom_42 rfl rfl ?_
  try simp (disch := decide) only [up_s, up_n, lnI_1, lnI_2, lnI_3, lnI_4, lnI_5, lnI_10, lnI_11, lnI_12, lnI_13, lnI_14, lnI_15]
  refine x_putI [_, _, _, _, _, _, _, _, _, _, _, _, _, _, _, _, _, _, _, _] 0 C f_RX0_30 eX0_copyFrom_45 rfl rfl rfl ?_
  refine x_aload_n C eX0_copyFrom_48 rfl ?_
  refine x_getR 0 C f_RX0_36 eX0_copyFrom_49 rfl rfl ?_
  refine x_aload_n C eX0_copyFrom_52 rfl ?_
  refine x_getR 10 C f_RX0_36 eX0_copyFrom_53 rfl rfl ?_
  refine yV1v [_, _, _, _, _, _, _, _, _, _, _, _, _, _, _, _] [_, _, _, _, _, _, _, _, _, _, _, _, _, _, _, _, _, _, _, _] C (s_X3_copyFrom hK h6.1) v_X3_copyFrom vv_X3_copyFrom s_RX0_122 eX0_copyFrom_56 (fun _ _ h => WF_pick [1, 2, 11, 12, 0, 3, 4, 5, 6, 7, 8, 9, 10, 13, 14, 15, 16, 17, 18, 19] rfl rfl h) (rcv 1 rfl) rfl (nle rfl) (nle rfl) (nle rfl) (nle rfl) rfl ?_
  refine x_aload_n C eX0_copyFrom_59 rfl ?_
  refine x_getR 4 C f_RX0_40 eX0_copyFrom_60 rfl rfl ?_
  refine x_aload_n C eX0_copyFrom_63 rfl ?_
  refine x_getR 12 C f_RX0_40 eX0_copyFrom_64 rfl rfl ?_
  refine yV1v [_, _, _, _, _, _, _, _, _, _, _, _, _, _, _, _] [_, _, _, _, _, _, _, _, _, _, _, _, _, _, _, _, _, _, _, _] C (s_X3_copyFrom hK h6.1) v_X3_copyFrom vv_X3_copyFrom s_RX0_122 eX0_copyFrom_67 (fun _ _ h => WF_pick [5, 6, 13, 14, 0, 1, 2, 3, 4, 7, 8, 9, 10, 11, 12, 15, 16, 17, 18, 19] rfl rfl h) (rcv 5 rfl) rfl (nle rfl) (nle rfl) (nle rfl) (nle rfl) rfl ?_
  refine x_aload_n C eX0_copyFrom_70 rfl ?_
  refine x_getR 8 C f_RX0_43 eX0_copyFrom_71 rfl rfl ?_
  refine x_aload_n C eX0_copyFrom_74 rfl ?_
  refine x_getR 14 C f_RX0_43 eX0_copyFrom_75 rfl rfl ?_
  refine yV1v [_, _, _, _, _, _, _, _, _, _, _, _, _, _, _, _] [_, _, _, _, _, _, _, _, _, _, _, _, _, _, _, _, _, _, _, _] C (s_X3_copyFrom hK h6.2.1) v_X3_copyFrom vv_X3_copyFrom s_RX0_122 eX0_copyFrom_78 (fun _ _ h => WF_pick [9, 10, 15, 16, 0, 1, 2, 3, 4, 5, 6, 7, 8, 11, 12, 13, 14, 17, 18, 19] rfl rfl h) (rcv 9 rfl) rfl (nle rfl) (nle rfl) (nle rfl) (nle rfl) rfl ?_
  refine x_aload_n C eX0_copyFrom_81 rfl ?_
  refine x_getR 12 C f_RX0_46 eX0_copyFrom_82 rfl rfl ?_
  refine x_aload_n C eX0_copyFrom_85 rfl ?_
  refine x_getR 16 C f_RX0_46 eX0_copyFrom_86 rfl rfl ?_
  refine yV1v [_, _, _, _, _, _, _, _, _, _, _, _, _, _, _, _] [_, _, _, _, _, _, _, _, _, _, _, _, _, _, _, _, _, _, _, _] C (s_X3_copyFrom hK h6.2.2.1) v_X3_copyFrom vv_X3_copyFrom s_RX0_122 eX0_copyFrom_89 (fun _ _ h => WF_pick [13, 14, 17, 18, 0, 1, 2, 3, 4, 5, 6, 7, 8, 9, 10, 11, 12, 15, 16, 19] rfl rfl h) (rcv 13 rfl) rfl (nle rfl) (nle rfl) (nle rfl) (nle rfl) rfl ?_
  refine x_aload_n C eX0_copyFrom_92 rfl ?_
  refine x_aload_n C eX0_copyFrom_93 rfl ?_
  refine x_getI 18 C f_RX0_66 eX0_copyFrom_94 rfl rfl ?_
  try simp (disch := decide) only [up_s, up_n, lnI_1, lnI_2, lnI_3, lnI_4, lnI_5, lnI_10, lnI_11, lnI_12, lnI_13, lnI_14, lnI_15]
  refine x_putI [_, _, _, _, _, _, _, _, _, _, _, _, _, _, _, _, _, _, _, _] 16 C f_RX0_66 eX0_copyFrom_97 rfl rfl rfl ?_
  refine x_aload_n C eX0_copyFrom_100 rfl ?_
  refine x_aload_n C eX0_copyFrom_101 rfl ?_
  refine x_getI 18 C f_RX0_49 eX0_copyFrom_102 rfl rfl ?_
  try simp (disch := decide) only [up_s, up_n, lnI_1, lnI_2, lnI_3, lnI_4, lnI_5, lnI_10, lnI_11, lnI_12, lnI_13, lnI_14, lnI_15]
  refine x_aload_n C eX0_copyFrom_105 rfl ?_
  refine x_getI 18 C f_RX0_116 eX0_copyFrom_106 rfl rfl ?_
  try simp (disch := decide) only [up_s, up_n, lnI_1, lnI_2, lnI_3, lnI_4, lnI_5, lnI_10, lnI_11, lnI_12, lnI_13, lnI_14, lnI_15]
  refine yV2v [_, _, _, _, _, _, _, _, _, _, _, _, _, _, _, _, _, _, _] [_, _, _, _, _, _, _, _, _, _, _, _, _, _, _, _, _, _, _, _] C (s_X0_lendTo hK ) v_X0_lendTo vv_X0_lendTo s_RX0_126 eX0_copyFrom_109 (fun _ _ h => WF_pick [16, 0, 1, 2, 3, 4, 5, 6, 7, 8, 9, 10, 11, 12, 13, 14, 15, 17, 18, 19] rfl rfl h) (rcv 16 rfl) rfl (nle rfl) (nle rfl) (nle rfl) (nle rfl) rfl ?_
  refine x_aload_n C eX0_copyFrom_112 rfl ?_
  refine x_aload_n C eX0_copyFrom_113 rfl ?_
  refine x_getI 18 C f_RX0_93 eX0_copyFrom_114 rfl rfl ?_
  try simp (disch := decide) only [up_s, up_n, lnI_1, lnI_2, lnI_3, lnI_4, lnI_5, lnI_10, lnI_11, lnI_12, lnI_13, lnI_14, lnI_15]
  refine x_putZ [_, _, _, _, _, _, _, _, _, _, _, _, _, _, _, _, _, _, _, _] 0 C f_RX0_93 eX0_copyFrom_117 rfl rfl (by omega) rfl ?_
  refine x_aload_n C eX0_copyFrom_120 rfl ?_
  refine x_aload_n C eX0_copyFrom_121 rfl ?_
  refine x_getI 18 C f_RX0_113 eX0_copyFrom_122 rfl rfl ?_
  try simp (disch := decide) only [up_s, up_n, lnI_1, lnI_2, lnI_3, lnI_4, lnI_5, lnI_10, lnI_11, lnI_12, lnI_13, lnI_14, lnI_15]
  refine x_putZ [_, _, _, _, _, _, _, _, _, _, _, _, _, _, _, _, _, _, _, _] 0 C f_RX0_113 eX0_copyFrom_125 rfl rfl (by omega) rfl ?_
  refine x_aload_n C eX0_copyFrom_128 rfl ?_
  refine x_aload_n C eX0_copyFrom_129 rfl ?_
  refine x_getI 18 C f_RX0_52 eX0_copyFrom_130 rfl rfl ?_
  try simp (disch := decide) only [up_s, up_n, lnI_1, lnI_2, lnI_3, lnI_4, lnI_5, lnI_10, lnI_11, lnI_12, lnI_13, lnI_14, lnI_15]
  refine x_putI [_, _, _, _, _, _, _, _, _, _, _, _, _, _, _, _, _, _, _, _] 0 C f_RX0_52 eX0_copyFrom_133 rfl rfl rfl ?_
  refine x_aload_n C eX0_copyFrom_136 rfl ?_
  refine x_getR 18 C f_RX0_55 eX0_copyFrom_137 rfl rfl ?_
  refine x_iconst C eX0_copyFrom_140 ?_
  refine x_aload_n C eX0_copyFrom_141 rfl ?_
  refine x_getR 0 C f_RX0_55 eX0_copyFrom_142 rfl rfl ?_
  refine x_iconst C eX0_copyFrom_145 ?_
  refine x_aload_n C eX0_copyFrom_146 rfl ?_
  refine x_getR 18 C f_RX0_55 eX0_copyFrom_147 rfl rfl ?_
  refine x_alen 19 C eX0_copyFrom_150 rfl (by decide) ar_al ?_
  refine x_aload_n C eX0_copyFrom_151 rfl ?_
  refine x_getR 0 C f_RX0_55 eX0_copyFrom_152 rfl rfl ?_
  refine x_alen 17 C eX0_copyFrom_155 rfl (by decide) ar_al ?_
  refine x_min C s_RX0_129 s2_min eX0_copyFrom_156 rfl (nle rfl) (nle rfl) (nle rfl) (nle rfl) (by omega) (by omega) ?_
  refine x_copy [_, _, _, _, _, _, _, _, _, _, _, _, _, _, _, _, _, _, _, _] 12 19 17 C s_RX0_132 s2_copy eX0_copyFrom_159 rfl rfl (by decide) (by omega) (by omega) (by omega) (by omega) rfl (nle rfl) (nle rfl) rfl ?_
  refine x_aload_n C eX0_copyFrom_162 rfl ?_
  refine x_aload_n C eX0_copyFrom_163 rfl ?_
  refine x_getR 18 C f_RX0_109 eX0_copyFrom_164 rfl rfl ?_
  refine x_putR [_, _, _, _, _, _, _, _, _, _, _, _, _, _, _, _, _, _] [_, _, _, _, _, _, _, _, _, _, _, _, _, _, _, _, _, _, _, _] 0 C f_RX0_109 eX0_copyFrom_167 rfl (nlt rfl) rfl rfl rfl rfl ?_
  refine x_vret C F eX0_copyFrom_170 () rfl trivial (fun cf c h => ?_) (nle rfl) (nle rfl)
  refine PW.wf (PW_cons (lnOb ?_ ?_ ?_ ?_ ?_ ?_ ?_ ?_ ?_ ?_ ?_ ?_) (PW_cons (fun _ h => h) (PW_cons (fun _ h => h) (PW_cons (fun _ h => h) (PW_cons (fun _ h => h) (PW_cons (fun _ h => h) (PW_cons (fun _ h => h) (PW_cons (fun _ h => h) (PW_cons (fun _ h => h) (PW_cons (fun _ h => ar_congr (Nat.le_refl _) (fun j hj => ?_) h) PW_rf)))))))))) (WF_pick [0, 13, 14, 9, 10, 5, 6, 1, 2, 17, 18, 15, 16, 11, 12, 7, 8, 3, 4, 19] rfl rfl h)
  all_goals (try intro j hj)
  all_goals (try simp (disch := omega) only [inc, lnTo, lnI_1, lnI_2, lnI_3, lnI_4, lnI_5, lnI_10, lnI_11, lnI_12, lnI_13, lnI_14, lnI_15, ub_n, ub_s, up_n, up_s, if_true])
  all_goals (try simp only [up_lit, ub_lit])
  all_goals (repeat' split)
  all_goals first | rfl | omega | (congr 1 <;> omega) | (exfalso; omega)

set_option maxHeartbeats 4000000 in
set_option maxRecDepth 100000 in
theorem s_X0_init {G : Gm} {l : Launch} (hK : KG G) {a : Nat} (hS : KS G) : MX G l yX0_init cX0_init 1 none 3 9 260 [.ref a] [ob a 2 [some .null, none, none, none, none, none, some .null, some .null, some .null, some .null, none, none, none, none, none, none, some .null, some (.long 0)] (fun _ => 0)] (fun _ : Nat → Nat => none) (fun A => ∃ b, strG G (A 0) b w_none0) (fun A => [ob a 2 (lnS (A 0) (A 1) (A 3) (A 5) (A 7) (A 9) ((bIni) 15)) (lnI (bIni)), ob (A 1) 5 [some (.ref (A 2)), none] (fun _ => (bIni) 6), ar G 0 (A 2) 60 ((bIni) 6).toNat (fun j => (bIni) (28 + (j : Int))), ob (A 3) 5 [some (.ref (A 4)), none] (fun _ => (bIni) 6), ar G 0 (A 4) 60 ((bIni) 6).toNat (fun j => (bIni) (88 + (j : Int))), ob (A 5) 5 [some (.ref (A 6)), none] (fun _ => (bIni) 7), ar G 0 (A 6) 60 ((bIni) 7).toNat (fun j => (bIni) (148 + (j : Int))), ob (A 7) 5 [some (.ref (A 8)), none] (fun _ => (bIni) 8), ar G 0 (A 8) 60 ((bIni) 8).toNat (fun j => (bIni) (208 + (j : Int))), ar G 0 (A 9) 12 12 (fun j => (bIni) (16 + (j : Int)))]) := by
  refine MX_of (lv := [some (.ref a)]) hK (by decide +kernel) rfl (nle rfl) (fun X C F => ?_)
  have C : OKc G X l RX0 "<init>" cX0_init 1 none 3 9 260 := C
  refine x_aload_n C eX0_init_0 rfl ?_
  refine x_objInit C ⟨s_RX0_3, s2_obj⟩ eX0_init_1 rfl (nle rfl) (nle rfl) ?_
  refine x_aload_n C eX0_init_4 rfl ?_
  obtain ⟨q5, b5, hr5, hq5⟩ := lit_RX0_9 hS
  refine x_ldcS C hr5 eX0_init_5 ?_
  skip
  refine x_putR [_, _, _, _, _, _, _, _, _, _, _, _, _, _, _, _, _, _] [_] 0 C f_RX0_11 eX0_init_7 rfl (nlt rfl) rfl rfl rfl rfl ?_
  refine x_aload_n C eX0_init_10 rfl ?_
  refine x_bipush C eX0_init_11 rfl ?_
  refine x_putI [_] 0 C f_RX0_17 eX0_init_13 rfl rfl rfl ?_
  refine x_aload_n C eX0_init_16 rfl ?_
  refine x_iconst C eX0_init_17 ?_
  refine x_putI [_] 0 C f_RX0_21 eX0_init_18 rfl rfl rfl ?_
  refine x_aload_n C eX0_init_21 rfl ?_
  refine x_bipush C eX0_init_22 rfl ?_
  refine x_putI [_] 0 C f_RX0_24 eX0_init_24 rfl rfl rfl ?_
  refine x_aload_n C eX0_init_27 rfl ?_
  refine x_iconst C eX0_init_28 ?_
  refine x_putI [_] 0 C f_RX0_27 eX0_init_29 rfl rfl rfl ?_
  refine x_aload_n C eX0_init_32 rfl ?_
  refine x_iconst C eX0_init_33 ?_
  refine x_putI [_] 0 C f_RX0_30 eX0_init_34 rfl rfl rfl ?_
  refine x_aload_n C eX0_init_37 rfl ?_
  refine x_new C n_RX0_33 eX0_init_38 (nle rfl) (nle rfl) (fun qi9 => ?_)
  refine x_dup C eX0_init_41 rfl ?_
  refine yIN0x (ret' := none) [_] C (s_X3_init hK ) v_X3_init vi_X3_init rfl sn_RX0_35 eX0_init_42 (fun _ _ h => WF_pick [0, 1] rfl rfl h) rfl (nle rfl) (nle rfl) (nle rfl) (nle rfl) (fun bi9 _ => ?_)
  refine x_putFR [_, _, _, _, _, _, _, _, _, _, _, _, _, _, _, _, _, _] [_, _, _] 2 C f_RX0_36 eX0_init_45 (by intro C T N h; cases h; rfl) rfl (nlt rfl) rfl rfl rfl rfl ?_
  refine x_aload_n C eX0_init_48 rfl ?_
  refine x_new C n_RX0_33 eX0_init_49 (nle rfl) (nle rfl) (fun qa9 => ?_)
  refine x_dup C eX0_init_52 rfl ?_
  refine yIN0x (ret' := none) [_, _, _] C (s_X3_init hK ) v_X3_init vi_X3_init rfl sn_RX0_35 eX0_init_53 (fun _ _ h => WF_pick [0, 1, 2, 3] rfl rfl h) rfl (nle rfl) (nle rfl) (nle rfl) (nle rfl) (fun ba9 _ => ?_)
  refine x_putFR [_, _, _, _, _, _, _, _, _, _, _, _, _, _, _, _, _, _] [_, _, _, _, _] 4 C f_RX0_40 eX0_init_56 (by intro C T N h; cases h; rfl) rfl (nlt rfl) rfl rfl rfl rfl ?_
  refine x_aload_n C eX0_init_59 rfl ?_
  refine x_new C n_RX0_33 eX0_init_60 (nle rfl) (nle rfl) (fun qo9 => ?_)
  refine x_dup C eX0_init_63 rfl ?_
  refine yIN0x (ret' := none) [_, _, _, _, _] C (s_X3_init hK ) v_X3_init vi_X3_init rfl sn_RX0_35 eX0_init_64 (fun _ _ h => WF_pick [0, 1, 2, 3, 4, 5] rfl rfl h) rfl (nle rfl) (nle rfl) (nle rfl) (nle rfl) (fun bo9 _ => ?_)
  refine x_putFR [_, _, _, _, _, _, _, _, _, _, _, _, _, _, _, _, _, _] [_, _, _, _, _, _, _] 6 C f_RX0_43 eX0_init_67 (by intro C T N h; cases h; rfl) rfl (nlt rfl) rfl rfl rfl rfl ?_
  refine x_aload_n C eX0_init_70 rfl ?_
  refine x_new C n_RX0_33 eX0_init_71 (nle rfl) (nle rfl) (fun qw9 => ?_)
  refine x_dup C eX0_init_74 rfl ?_
  refine yIN0x (ret' := none) [_, _, _, _, _, _, _] C (s_X3_init hK ) v_X3_init vi_X3_init rfl sn_RX0_35 eX0_init_75 (fun _ _ h => WF_pick [0, 1, 2, 3, 4, 5, 6, 7] rfl rfl h) rfl (nle rfl) (nle rfl) (nle rfl) (nle rfl) (fun bw9 _ => ?_)
  refine x_putFR [_, _, _, _, _, _, _, _, _, _, _, _, _, _, _, _, _, _] [_, _, _, _, _, _, _, _, _] 8 C f_RX0_46 eX0_init_78 (by intro C T N h; cases h; rfl) rfl (nlt rfl) rfl rfl rfl rfl ?_
  refine x_aload_n C eX0_init_81 rfl ?_
  refine x_iconst C eX0_init_82 ?_
  refine x_putI [_, _, _, _, _, _, _, _, _] 8 C f_RX0_49 eX0_init_83 rfl rfl rfl ?_
  refine x_aload_n C eX0_init_86 rfl ?_
  refine x_iconst C eX0_init_87 ?_
  refine x_putI [_, _, _, _, _, _, _, _, _] 8 C f_RX0_52 eX0_init_88 rfl rfl rfl ?_
  refine x_aload_n C eX0_init_91 rfl ?_
  refine x_bipush C eX0_init_92 rfl ?_
  refine x_newI (N := 12) C ac_int eX0_init_94 rfl (nle rfl) (nle rfl) (nle rfl) (fun cn9 => ?_)
  refine x_putFR [_, _, _, _, _, _, _, _, _, _, _, _, _, _, _, _, _, _] [_, _, _, _, _, _, _, _, _, _] 9 C f_RX0_55 eX0_init_96 (by intro C T N h; cases h; rfl) rfl (nlt rfl) rfl rfl rfl rfl ?_
  refine x_vret C F eX0_init_99 (adr [q5, qi9, bi9, qa9, ba9, qo9, bo9, qw9, bw9, cn9]) rfl ⟨b5, hq5⟩ (fun cf c h => ?_) (nle rfl) (nle rfl)
  refine LRcv (w := 0) (zi := 0) (za := 0) (zo := 0) (zw := 0) ?_ ?_ ?_ ?_ ?_ ?_ ?_ ?_ ?_ ?_ ?_ ?_ ?_ ?_ ?_ ?_ ?_ ?_ ?_ ?_ ?_ (WF_pick [9, 7, 8, 5, 6, 3, 4, 1, 2, 0] rfl rfl h)
  all_goals first | rfl | (intro j hj; first | rfl | (exfalso; omega) | (unfold bIni; simp (disch := omega) only [ub_n]))
