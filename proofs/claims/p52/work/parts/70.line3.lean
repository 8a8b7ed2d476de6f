set_option maxHeartbeats 4000000 in
set_option maxRecDepth 100000 in
theorem s_X0_canSend {G : Gm} {l : Launch} (hK : KG G) {a nm qi bi qa qo qw cn : Nat} {B : Blk} (h9 : (0 ≤ B 9 ∧ B 9 ≤ 100) ∧ (0 ≤ B 6 ∧ B 6 ≤ 60)) : MD G l yX0_canSend cX0_canSend 1 (some .boolean) 1 0 0 [.ref a] [ob a 2 (lnS nm qi qa qo qw cn ((B) 15)) (lnI (B)), ob qi 5 [some (.ref bi), none] (fun _ => (B) 6)] (some (.int (zI (bz (¬ 0 < B 9 ∧ 0 < B 6))))) [ob a 2 (lnS nm qi qa qo qw cn ((B) 15)) (lnI (B)), ob qi 5 [some (.ref bi), none] (fun _ => (B) 6)] := by
  refine MX_of (lv := [some (.ref a)]) hK (by decide +kernel) rfl (nle rfl) (fun X C F => ?_)
  have C : OKc G X l RX0 "canSend" cX0_canSend 1 (some .boolean) 1 0 0 := C
  refine x_aload_n C eX0_canSend_0 rfl ?_
  refine x_getI 0 C f_RX0_66 eX0_canSend_1 rfl rfl ?_
  try simp (disch := decide) only [up_s, up_n, lnI_1, lnI_2, lnI_3, lnI_4, lnI_5, lnI_10, lnI_11, lnI_12, lnI_13, lnI_14, lnI_15]
  refine x_if_ne 21 C eX0_canSend_4 rfl (by omega) (fun h4 => ?_) (fun h4 => ?_)
  · refine x_iconst C eX0_canSend_21 ?_
    refine x_iret (narZ (by omega)).1 C F eX0_canSend_22 () ?_ trivial (fun cf c h => ?_) (nle rfl) (nle rfl)
    · first | rw [bz_t (by omega)] | rw [bz_f (by omega)]
    · exact WF_pick [0, 1] rfl rfl h
  · refine x_aload_n C eX0_canSend_7 rfl ?_
    refine x_getR 0 C f_RX0_36 eX0_canSend_8 rfl rfl ?_
    refine x_getI 1 C f_RX0_59 eX0_canSend_11 rfl rfl ?_
    try simp (disch := decide) only [up_s, up_n, lnI_1, lnI_2, lnI_3, lnI_4, lnI_5, lnI_10, lnI_11, lnI_12, lnI_13, lnI_14, lnI_15]
    refine x_if_le 21 C eX0_canSend_14 rfl (by omega) (fun h14 => ?_) (fun h14 => ?_)
    · refine x_iconst C eX0_canSend_21 ?_
      refine x_iret (narZ (by omega)).1 C F eX0_canSend_22 () ?_ trivial (fun cf c h => ?_) (nle rfl) (nle rfl)
      · first | rw [bz_t (by omega)] | rw [bz_f (by omega)]
      · exact WF_pick [0, 1] rfl rfl h
    · refine x_iconst C eX0_canSend_17 ?_
      refine x_goto (pc' := 22) C eX0_canSend_18 rfl ?_
      refine x_iret (narZ (by omega)).1 C F eX0_canSend_22 () ?_ trivial (fun cf c h => ?_) (nle rfl) (nle rfl)
      · first | rw [bz_t (by omega)] | rw [bz_f (by omega)]
      · exact WF_pick [0, 1] rfl rfl h

set_option maxHeartbeats 4000000 in
set_option maxRecDepth 100000 in
theorem s_X0_sendFirst {G : Gm} {l : Launch} (hK : KG G) {a nm qi bi qa ba qo bo qw bw cn : Nat} {B : Blk} {e9 w9 : Int} (h6 : 0 < B 6 ∧ B 6 ≤ 60) (he : e9 = 0 ∨ e9 = 1) (hw : 0 ≤ w9 ∧ w9 ≤ 1000000000) (h27 : 0 ≤ B 27 ∧ B 27 ≤ 1000000000) : MD G l yX0_sendFirst cX0_sendFirst 3 none 5 0 0 [.ref a, .int (zI w9), .int (zI e9)] [ob a 2 (lnS nm qi qa qo qw cn ((B) 15)) (lnI (B)), ob qi 5 [some (.ref bi), none] (fun _ => (B) 6), ar G 0 bi 60 ((B) 6).toNat (fun j => (B) (28 + (j : Int))), ob qa 5 [some (.ref ba), none] (fun _ => (B) 6), ar G 0 ba 60 ((B) 6).toNat (fun j => (B) (88 + (j : Int))), ob qo 5 [some (.ref bo), none] (fun _ => (B) 7), ar G 0 bo 60 ((B) 7).toNat (fun j => (B) (148 + (j : Int))), ob qw 5 [some (.ref bw), none] (fun _ => (B) 8), ar G 0 bw 60 ((B) 8).toNat (fun j => (B) (208 + (j : Int))), ar G 0 cn 12 12 (fun j => (B) (16 + (j : Int)))] none [ob a 2 (lnS nm qi qa qo qw cn ((bSnd B e9 w9) 15)) (lnI (bSnd B e9 w9)), ob qi 5 [some (.ref bi), none] (fun _ => (bSnd B e9 w9) 6), ar G 0 bi 60 ((bSnd B e9 w9) 6).toNat (fun j => (bSnd B e9 w9) (28 + (j : Int))), ob qa 5 [some (.ref ba), none] (fun _ => (bSnd B e9 w9) 6), ar G 0 ba 60 ((bSnd B e9 w9) 6).toNat (fun j => (bSnd B e9 w9) (88 + (j : Int))), ob qo 5 [some (.ref bo), none] (fun _ => (bSnd B e9 w9) 7), ar G 0 bo 60 ((bSnd B e9 w9) 7).toNat (fun j => (bSnd B e9 w9) (148 + (j : Int))), ob qw 5 [some (.ref bw), none] (fun _ => (bSnd B e9 w9) 8), ar G 0 bw 60 ((bSnd B e9 w9) 8).toNat (fun j => (bSnd B e9 w9) (208 + (j : Int))), ar G 0 cn 12 12 (fun j => (bSnd B e9 w9) (16 + (j : Int)))] := by
  refine MX_of (lv := [some (.ref a), some (.int (zI w9)), some (.int (zI e9))]) hK (by decide +kernel) rfl (nle rfl) (fun X C F => ?_)
  have C : OKc G X l RX0 "sendFirst" cX0_sendFirst 3 none 5 0 0 := C
  refine x_aload_n C eX0_sendFirst_0 rfl ?_
  refine x_getR 0 C f_RX0_36 eX0_sendFirst_1 rfl rfl ?_
  refine yV0v [_, _, _, _, _, _, _, _] [_, _, _, _, _, _, _, _, _, _] C (s_X3_removeFirst hK (by omega) (by omega)) v_X3_removeFirst vv_X3_removeFirst s_RX0_97 eX0_sendFirst_4 (fun _ _ h => WF_pick [1, 2, 0, 3, 4, 5, 6, 7, 8, 9] rfl rfl h) (rcv 1 rfl) rfl (nle rfl) (nle rfl) (nle rfl) (nle rfl) rfl ?_
  refine x_aload_n C eX0_sendFirst_7 rfl ?_
  refine x_getR 2 C f_RX0_40 eX0_sendFirst_8 rfl rfl ?_
  refine yV0v [_, _, _, _, _, _, _, _] [_, _, _, _, _, _, _, _, _, _] C (s_X3_removeFirst hK (by omega) (by omega)) v_X3_removeFirst vv_X3_removeFirst s_RX0_97 eX0_sendFirst_11 (fun _ _ h => WF_pick [3, 4, 0, 1, 2, 5, 6, 7, 8, 9] rfl rfl h) (rcv 3 rfl) rfl (nle rfl) (nle rfl) (nle rfl) (nle rfl) rfl ?_
  refine x_aload_n C eX0_sendFirst_14 rfl ?_
  refine x_iconst C eX0_sendFirst_15 ?_
  refine x_iconst C eX0_sendFirst_16 ?_
  refine yV2v [_, _, _, _, _, _, _, _] [_, _, _, _, _, _, _, _, _, _] C (s_X0_addToCount hK (by omega)) v_X0_addToCount vv_X0_addToCount s_RX0_62 eX0_sendFirst_17 (fun _ _ h => WF_pick [4, 9, 0, 1, 2, 3, 5, 6, 7, 8] rfl rfl h) (rcv 4 rfl) rfl (nle rfl) (nle rfl) (nle rfl) (nle rfl) rfl ?_
  try rw [show (1 : Int).toNat = 1 from rfl]
  refine x_aload_n C eX0_sendFirst_20 rfl ?_
  refine x_bipush C eX0_sendFirst_21 rfl ?_
  refine x_iload_n C eX0_sendFirst_23 rfl ?_
  refine x_if_eq 31 C eX0_sendFirst_24 rfl (by omega) (fun h24 => ?_) (fun h24 => ?_)
  · refine x_iconst C eX0_sendFirst_31 ?_
    refine yV2v [_, _, _, _, _, _, _, _] [_, _, _, _, _, _, _, _, _, _] C (s_X0_addToCount hK (by omega)) v_X0_addToCount vv_X0_addToCount s_RX0_62 eX0_sendFirst_32 (fun _ _ h => WF_pick [0, 1, 2, 3, 4, 5, 6, 7, 8, 9] rfl rfl h) (rcv 0 rfl) rfl (nle rfl) (nle rfl) (nle rfl) (nle rfl) rfl ?_
    try rw [show (10 : Int).toNat = 10 from rfl]
    refine x_aload_n C eX0_sendFirst_35 rfl ?_
    refine x_bipush C eX0_sendFirst_36 rfl ?_
    refine x_iconst C eX0_sendFirst_38 ?_
    refine x_iload_n C eX0_sendFirst_39 rfl ?_
    refine x_aload_n C eX0_sendFirst_40 rfl ?_
    refine x_bipush C eX0_sendFirst_41 rfl ?_
    refine yV1r [_, _, _, _, _, _, _, _] [_, _, _, _, _, _, _, _, _, _] C (s_X0_counted hK (by omega)) v_X0_counted vv_X0_counted s_RX0_100 eX0_sendFirst_43 (fun _ _ h => WF_pick [0, 1, 2, 3, 4, 5, 6, 7, 8, 9] rfl rfl h) (rcv 0 rfl) rfl (nle rfl) (nle rfl) (nle rfl) (nle rfl) rfl ?_
    try rw [show (11 : Int).toNat = 11 from rfl]
    try simp (disch := decide) only [up_s, up_n, lnI_1, lnI_2, lnI_3, lnI_4, lnI_5, lnI_10, lnI_11, lnI_12, lnI_13, lnI_14, lnI_15]
    rw [show B (16 + ((11 : Nat) : Int)) = B 27 from rfl]
    refine x_isub C eX0_sendFirst_46 ?_
    refine x_max C s_RX0_103 s2_max eX0_sendFirst_47 rfl (nle rfl) (nle rfl) (nle rfl) (nle rfl) (by omega) (by omega) ?_
    refine yV2v [_, _, _, _, _, _, _, _] [_, _, _, _, _, _, _, _, _, _] C (s_X0_addToCount hK (by omega)) v_X0_addToCount vv_X0_addToCount s_RX0_62 eX0_sendFirst_50 (fun _ _ h => WF_pick [0, 1, 2, 3, 4, 5, 6, 7, 8, 9] rfl rfl h) (rcv 0 rfl) rfl (nle rfl) (nle rfl) (nle rfl) (nle rfl) rfl ?_
    try rw [show (11 : Int).toNat = 11 from rfl]
    refine x_aload_n C eX0_sendFirst_53 rfl ?_
    refine x_dup C eX0_sendFirst_54 rfl ?_
    refine x_getR 0 C f_RX0_109 eX0_sendFirst_55 rfl rfl ?_
    refine x_iload_n C eX0_sendFirst_58 rfl ?_
    refine x_i2l C eX0_sendFirst_59 (by omega) ?_
    refine x_laddR C eX0_sendFirst_60 ?_
    rw [zL_add]
    refine x_putR [_, _, _, _, _, _, _, _, _, _, _, _, _, _, _, _, _, _] [_, _, _, _, _, _, _, _, _, _] 0 C f_RX0_109 eX0_sendFirst_61 rfl (nlt rfl) rfl rfl rfl rfl ?_
    refine x_vret C F eX0_sendFirst_64 () rfl trivial (fun cf c h => ?_) (nle rfl) (nle rfl)
    refine LRcv ?_ ?_ ?_ ?_ ?_ ?_ ?_ ?_ ?_ ?_ ?_ ?_ ?_ ?_ ?_ ?_ ?_ ?_ ?_ ?_ ?_ (WF_pick [0, 4, 5, 2, 3, 6, 7, 8, 9, 1] rfl rfl h)
    all_goals (try intro j hj)
    all_goals (try simp (disch := omega) only [inc, lnTo, lnI_1, lnI_2, lnI_3, lnI_4, lnI_5, lnI_10, lnI_11, lnI_12, lnI_13, lnI_14, lnI_15, ub_n, ub_s, up_n, up_s, if_true, bSnd])
    all_goals (try simp only [up_lit, ub_lit, bSnd])
    all_goals (try simp (disch := omega) only [bSend0_n, bSend0_i, bSend0_t, bSend0_6])
    all_goals (try rw [show B (16 + ((11 : Nat) : Int)) = B 27 from rfl])
    all_goals (repeat' split)
    all_goals first | rfl | omega | (congr 1 <;> omega) | (exfalso; omega)
  · refine x_iconst C eX0_sendFirst_27 ?_
    refine x_goto (pc' := 32) C eX0_sendFirst_28 rfl ?_
    refine yV2v [_, _, _, _, _, _, _, _] [_, _, _, _, _, _, _, _, _, _] C (s_X0_addToCount hK (by omega)) v_X0_addToCount vv_X0_addToCount s_RX0_62 eX0_sendFirst_32 (fun _ _ h => WF_pick [0, 1, 2, 3, 4, 5, 6, 7, 8, 9] rfl rfl h) (rcv 0 rfl) rfl (nle rfl) (nle rfl) (nle rfl) (nle rfl) rfl ?_
    try rw [show (10 : Int).toNat = 10 from rfl]
    refine x_aload_n C eX0_sendFirst_35 rfl ?_
    refine x_bipush C eX0_sendFirst_36 rfl ?_
    refine x_iconst C eX0_sendFirst_38 ?_
    refine x_iload_n C eX0_sendFirst_39 rfl ?_
    refine x_aload_n C eX0_sendFirst_40 rfl ?_
    refine x_bipush C eX0_sendFirst_41 rfl ?_
    refine yV1r [_, _, _, _, _, _, _, _] [_, _, _, _, _, _, _, _, _, _] C (s_X0_counted hK (by omega)) v_X0_counted vv_X0_counted s_RX0_100 eX0_sendFirst_43 (fun _ _ h => WF_pick [0, 1, 2, 3, 4, 5, 6, 7, 8, 9] rfl rfl h) (rcv 0 rfl) rfl (nle rfl) (nle rfl) (nle rfl) (nle rfl) rfl ?_
    try rw [show (11 : Int).toNat = 11 from rfl]
    try simp (disch := decide) only [up_s, up_n, lnI_1, lnI_2, lnI_3, lnI_4, lnI_5, lnI_10, lnI_11, lnI_12, lnI_13, lnI_14, lnI_15]
    rw [show B (16 + ((11 : Nat) : Int)) = B 27 from rfl]
    refine x_isub C eX0_sendFirst_46 ?_
    refine x_max C s_RX0_103 s2_max eX0_sendFirst_47 rfl (nle rfl) (nle rfl) (nle rfl) (nle rfl) (by omega) (by omega) ?_
    refine yV2v [_, _, _, _, _, _, _, _] [_, _, _, _, _, _, _, _, _, _] C (s_X0_addToCount hK (by omega)) v_X0_addToCount vv_X0_addToCount s_RX0_62 eX0_sendFirst_50 (fun _ _ h => WF_pick [0, 1, 2, 3, 4, 5, 6, 7, 8, 9] rfl rfl h) (rcv 0 rfl) rfl (nle rfl) (nle rfl) (nle rfl) (nle rfl) rfl ?_
    try rw [show (11 : Int).toNat = 11 from rfl]
    refine x_aload_n C eX0_sendFirst_53 rfl ?_
    refine x_dup C eX0_sendFirst_54 rfl ?_
    refine x_getR 0 C f_RX0_109 eX0_sendFirst_55 rfl rfl ?_
    refine x_iload_n C eX0_sendFirst_58 rfl ?_
    refine x_i2l C eX0_sendFirst_59 (by omega) ?_
    refine x_laddR C eX0_sendFirst_60 ?_
    rw [zL_add]
    refine x_putR [_, _, _, _, _, _, _, _, _, _, _, _, _, _, _, _, _, _] [_, _, _, _, _, _, _, _, _, _] 0 C f_RX0_109 eX0_sendFirst_61 rfl (nlt rfl) rfl rfl rfl rfl ?_
    refine x_vret C F eX0_sendFirst_64 () rfl trivial (fun cf c h => ?_) (nle rfl) (nle rfl)
    refine LRcv ?_ ?_ ?_ ?_ ?_ ?_ ?_ ?_ ?_ ?_ ?_ ?_ ?_ ?_ ?_ ?_ ?_ ?_ ?_ ?_ ?_ (WF_pick [0, 4, 5, 2, 3, 6, 7, 8, 9, 1] rfl rfl h)
    all_goals (try intro j hj)
    all_goals (try simp (disch := omega) only [inc, lnTo, lnI_1, lnI_2, lnI_3, lnI_4, lnI_5, lnI_10, lnI_11, lnI_12, lnI_13, lnI_14, lnI_15, ub_n, ub_s, up_n, up_s, if_true, bSnd])
    all_goals (try simp only [up_lit, ub_lit, bSnd])
    all_goals (try simp (disch := omega) only [bSend0_n, bSend0_i, bSend0_t, bSend0_6])
    all_goals (try rw [show B (16 + ((11 : Nat) : Int)) = B 27 from rfl])
    all_goals (repeat' split)
    all_goals first | rfl | omega | (congr 1 <;> omega) | (exfalso; omega)

set_option maxHeartbeats 4000000 in
set_option maxRecDepth 100000 in
theorem s_X0_deliverFirst {G : Gm} {l : Launch} (hK : KG G) {a nm qi bi qa ba qo bo qw bw cn : Nat} {B : Blk} (hB : (0 ≤ B 9 ∧ B 9 ≤ 100) ∧ (0 ≤ B 11 ∧ B 11 ≤ 1) ∧ (0 ≤ B 7 ∧ B 7 ≤ 60) ∧ (0 ≤ B 6 ∧ B 6 ≤ 60) ∧ (0 ≤ B 8 ∧ B 8 ≤ 60)) : MD G l yX0_deliverFirst cX0_deliverFirst 1 none 5 0 0 [.ref a] [ob a 2 (lnS nm qi qa qo qw cn ((B) 15)) (lnI (B)), ob qi 5 [some (.ref bi), none] (fun _ => (B) 6), ar G 0 bi 60 ((B) 6).toNat (fun j => (B) (28 + (j : Int))), ob qa 5 [some (.ref ba), none] (fun _ => (B) 6), ar G 0 ba 60 ((B) 6).toNat (fun j => (B) (88 + (j : Int))), ob qo 5 [some (.ref bo), none] (fun _ => (B) 7), ar G 0 bo 60 ((B) 7).toNat (fun j => (B) (148 + (j : Int))), ob qw 5 [some (.ref bw), none] (fun _ => (B) 8), ar G 0 bw 60 ((B) 8).toNat (fun j => (B) (208 + (j : Int))), ar G 0 cn 12 12 (fun j => (B) (16 + (j : Int)))] none [ob a 2 (lnS nm qi qa qo qw cn ((bDeliver B) 15)) (lnI (bDeliver B)), ob qi 5 [some (.ref bi), none] (fun _ => (bDeliver B) 6), ar G 0 bi 60 ((bDeliver B) 6).toNat (fun j => (bDeliver B) (28 + (j : Int))), ob qa 5 [some (.ref ba), none] (fun _ => (bDeliver B) 6), ar G 0 ba 60 ((bDeliver B) 6).toNat (fun j => (bDeliver B) (88 + (j : Int))), ob qo 5 [some (.ref bo), none] (fun _ => (bDeliver B) 7), ar G 0 bo 60 ((bDeliver B) 7).toNat (fun j => (bDeliver B) (148 + (j : Int))), ob qw 5 [some (.ref bw), none] (fun _ => (bDeliver B) 8), ar G 0 bw 60 ((bDeliver B) 8).toNat (fun j => (bDeliver B) (208 + (j : Int))), ar G 0 cn 12 12 (fun j => (bDeliver B) (16 + (j : Int)))] := by
  refine MX_of (lv := [some (.ref a)]) hK (by decide +kernel) rfl (nle rfl) (fun X C F => ?_)
  have C : OKc G X l RX0 "deliverFirst" cX0_deliverFirst 1 none 5 0 0 := C
  refine x_aload_n C eX0_deliverFirst_0 rfl ?_
  refine x_getI 0 C f_RX0_66 eX0_deliverFirst_1 rfl rfl ?_
  try simp (disch := decide) only [up_s, up_n, lnI_1, lnI_2, lnI_3, lnI_4, lnI_5, lnI_10, lnI_11, lnI_12, lnI_13, lnI_14, lnI_15]
  refine x_if_ne 49 C eX0_deliverFirst_4 rfl (by omega) (fun h4 => ?_) (fun h4 => ?_)
  · refine x_vret C F eX0_deliverFirst_49 () rfl trivial (fun cf c h => ?_) (nle rfl) (nle rfl)
    first
      | (rw [show bDeliver B = B from if_pos (by omega)]
         exact WF_pick [0, 1, 2, 3, 4, 5, 6, 7, 8, 9] rfl rfl h)
      | (rw [show bDeliver B = inc (bDrop (ub B 14 (B 148)) 148 7) 21 from if_neg (by omega)]
         refine LRcv ?_ ?_ ?_ ?_ ?_ ?_ ?_ ?_ ?_ ?_ ?_ ?_ ?_ ?_ ?_ ?_ ?_ ?_ ?_ ?_ ?_ (WF_pick [0, 1, 2, 3, 4, 5, 6, 7, 8, 9] rfl rfl h)
         all_goals (try intro j hj)
         all_goals (try simp (disch := omega) only [inc, lnTo, lnI_1, lnI_2, lnI_3, lnI_4, lnI_5, lnI_10, lnI_11, lnI_12, lnI_13, lnI_14, lnI_15, ub_n, ub_s, up_n, up_s, if_true, bDrop])
         all_goals (try simp only [up_lit, ub_lit, bDrop])
         all_goals (repeat' split)
         all_goals first | rfl | omega | (congr 1 <;> omega) | (exfalso; omega))
  · refine x_aload_n C eX0_deliverFirst_7 rfl ?_
    refine x_getI 0 C f_RX0_113 eX0_deliverFirst_8 rfl rfl ?_
    try simp (disch := decide) only [up_s, up_n, lnI_1, lnI_2, lnI_3, lnI_4, lnI_5, lnI_10, lnI_11, lnI_12, lnI_13, lnI_14, lnI_15]
    refine x_if_ne 49 C eX0_deliverFirst_11 rfl (by omega) (fun h11 => ?_) (fun h11 => ?_)
    · refine x_vret C F eX0_deliverFirst_49 () rfl trivial (fun cf c h => ?_) (nle rfl) (nle rfl)
      first
        | (rw [show bDeliver B = B from if_pos (by omega)]
           exact WF_pick [0, 1, 2, 3, 4, 5, 6, 7, 8, 9] rfl rfl h)
        | (rw [show bDeliver B = inc (bDrop (ub B 14 (B 148)) 148 7) 21 from if_neg (by omega)]
           refine LRcv ?_ ?_ ?_ ?_ ?_ ?_ ?_ ?_ ?_ ?_ ?_ ?_ ?_ ?_ ?_ ?_ ?_ ?_ ?_ ?_ ?_ (WF_pick [0, 1, 2, 3, 4, 5, 6, 7, 8, 9] rfl rfl h)
           all_goals (try intro j hj)
           all_goals (try simp (disch := omega) only [inc, lnTo, lnI_1, lnI_2, lnI_3, lnI_4, lnI_5, lnI_10, lnI_11, lnI_12, lnI_13, lnI_14, lnI_15, ub_n, ub_s, up_n, up_s, if_true, bDrop])
           all_goals (try simp only [up_lit, ub_lit, bDrop])
           all_goals (repeat' split)
           all_goals first | rfl | omega | (congr 1 <;> omega) | (exfalso; omega))
    · refine x_aload_n C eX0_deliverFirst_14 rfl ?_
      refine x_getR 0 C f_RX0_43 eX0_deliverFirst_15 rfl rfl ?_
      refine x_getI 5 C f_RX0_59 eX0_deliverFirst_18 rfl rfl ?_
      try simp (disch := decide) only [up_s, up_n, lnI_1, lnI_2, lnI_3, lnI_4, lnI_5, lnI_10, lnI_11, lnI_12, lnI_13, lnI_14, lnI_15]
      refine x_if_le 49 C eX0_deliverFirst_21 rfl (by omega) (fun h21 => ?_) (fun h21 => ?_)
      · refine x_vret C F eX0_deliverFirst_49 () rfl trivial (fun cf c h => ?_) (nle rfl) (nle rfl)
        first
          | (rw [show bDeliver B = B from if_pos (by omega)]
             exact WF_pick [0, 1, 2, 3, 4, 5, 6, 7, 8, 9] rfl rfl h)
          | (rw [show bDeliver B = inc (bDrop (ub B 14 (B 148)) 148 7) 21 from if_neg (by omega)]
             refine LRcv ?_ ?_ ?_ ?_ ?_ ?_ ?_ ?_ ?_ ?_ ?_ ?_ ?_ ?_ ?_ ?_ ?_ ?_ ?_ ?_ ?_ (WF_pick [0, 1, 2, 3, 4, 5, 6, 7, 8, 9] rfl rfl h)
             all_goals (try intro j hj)
             all_goals (try simp (disch := omega) only [inc, lnTo, lnI_1, lnI_2, lnI_3, lnI_4, lnI_5, lnI_10, lnI_11, lnI_12, lnI_13, lnI_14, lnI_15, ub_n, ub_s, up_n, up_s, if_true, bDrop])
             all_goals (try simp only [up_lit, ub_lit, bDrop])
             all_goals (repeat' split)
             all_goals first | rfl | omega | (congr 1 <;> omega) | (exfalso; omega))
      · refine x_aload_n C eX0_deliverFirst_24 rfl ?_
        refine x_aload_n C eX0_deliverFirst_25 rfl ?_
        refine x_getR 0 C f_RX0_43 eX0_deliverFirst_26 rfl rfl ?_
        refine x_iconst C eX0_deliverFirst_29 ?_
        refine yV1r [_, _, _, _, _, _, _, _] [_, _, _, _, _, _, _, _, _, _] C (s_X3_at hK (by omega) (by omega)) v_X3_at vv_X3_at s_RX0_86 eX0_deliverFirst_30 (fun _ _ h => WF_pick [5, 6, 0, 1, 2, 3, 4, 7, 8, 9] rfl rfl h) (rcv 5 rfl) rfl (nle rfl) (nle rfl) (nle rfl) (nle rfl) rfl ?_
        try dsimp only
        rw [show (0 : Int).toNat = 0 from rfl]
        refine x_putI [_, _, _, _, _, _, _, _, _, _] 2 C f_RX0_52 eX0_deliverFirst_33 rfl rfl rfl ?_
        refine x_aload_n C eX0_deliverFirst_36 rfl ?_
        refine x_getR 2 C f_RX0_43 eX0_deliverFirst_37 rfl rfl ?_
        refine yV0v [_, _, _, _, _, _, _, _] [_, _, _, _, _, _, _, _, _, _] C (s_X3_removeFirst hK (by omega) (by omega)) v_X3_removeFirst vv_X3_removeFirst s_RX0_97 eX0_deliverFirst_40 (fun _ _ h => WF_pick [0, 1, 2, 3, 4, 5, 6, 7, 8, 9] rfl rfl h) (rcv 0 rfl) rfl (nle rfl) (nle rfl) (nle rfl) (nle rfl) rfl ?_
        refine x_aload_n C eX0_deliverFirst_43 rfl ?_
        refine x_iconst C eX0_deliverFirst_44 ?_
        refine x_iconst C eX0_deliverFirst_45 ?_
        refine yV2v [_, _, _, _, _, _, _, _] [_, _, _, _, _, _, _, _, _, _] C (s_X0_addToCount hK (by omega)) v_X0_addToCount vv_X0_addToCount s_RX0_62 eX0_deliverFirst_46 (fun _ _ h => WF_pick [2, 9, 0, 1, 3, 4, 5, 6, 7, 8] rfl rfl h) (rcv 2 rfl) rfl (nle rfl) (nle rfl) (nle rfl) (nle rfl) rfl ?_
        try rw [show (5 : Int).toNat = 5 from rfl]
        refine x_vret C F eX0_deliverFirst_49 () rfl trivial (fun cf c h => ?_) (nle rfl) (nle rfl)
        first
          | (rw [show bDeliver B = B from if_pos (by omega)]
             exact WF_pick [0, 4, 5, 6, 7, 2, 3, 8, 9, 1] rfl rfl h)
          | (rw [show bDeliver B = inc (bDrop (ub B 14 (B 148)) 148 7) 21 from if_neg (by omega)]
             refine LRcv ?_ ?_ ?_ ?_ ?_ ?_ ?_ ?_ ?_ ?_ ?_ ?_ ?_ ?_ ?_ ?_ ?_ ?_ ?_ ?_ ?_ (WF_pick [0, 4, 5, 6, 7, 2, 3, 8, 9, 1] rfl rfl h)
             all_goals (try intro j hj)
             all_goals (try simp (disch := omega) only [inc, lnTo, lnI_1, lnI_2, lnI_3, lnI_4, lnI_5, lnI_10, lnI_11, lnI_12, lnI_13, lnI_14, lnI_15, ub_n, ub_s, up_n, up_s, if_true, bDrop])
             all_goals (try simp only [up_lit, ub_lit, bDrop])
             all_goals (repeat' split)
             all_goals first | rfl | omega | (congr 1 <;> omega) | (exfalso; omega))

set_option maxHeartbeats 4000000 in
set_option maxRecDepth 100000 in
theorem s_X0_breakFor {G : Gm} {l : Launch} (hK : KG G) {a nm qi bi qa ba qo bo qw bw cn : Nat} {B : Blk} {t9 : Int} (hst : B 2 < B 3 ∧ (B 10 = 0 ∨ B 10 = 1) ∧ (0 ≤ B 6 ∧ B 6 ≤ 60) ∧ (-1000 ≤ B 2 ∧ B 2 ≤ 2000) ∧ (-1000 ≤ B 3 ∧ B 3 ≤ 2000)) : MD G l yX0_breakFor cX0_breakFor 2 none 3 0 0 [.ref a, .int (zI t9)] [ob a 2 (lnS nm qi qa qo qw cn ((B) 15)) (lnI (B)), ob qi 5 [some (.ref bi), none] (fun _ => (B) 6), ar G 0 bi 60 ((B) 6).toNat (fun j => (B) (28 + (j : Int))), ob qa 5 [some (.ref ba), none] (fun _ => (B) 6), ar G 0 ba 60 ((B) 6).toNat (fun j => (B) (88 + (j : Int))), ob qo 5 [some (.ref bo), none] (fun _ => (B) 7), ar G 0 bo 60 ((B) 7).toNat (fun j => (B) (148 + (j : Int))), ob qw 5 [some (.ref bw), none] (fun _ => (B) 8), ar G 0 bw 60 ((B) 8).toNat (fun j => (B) (208 + (j : Int))), ar G 0 cn 12 12 (fun j => (B) (16 + (j : Int)))] none [ob a 2 (lnS nm qi qa qo qw cn ((bBreak B t9) 15)) (lnI (bBreak B t9)), ob qi 5 [some (.ref bi), none] (fun _ => (bBreak B t9) 6), ar G 0 bi 60 ((bBreak B t9) 6).toNat (fun j => (bBreak B t9) (28 + (j : Int))), ob qa 5 [some (.ref ba), none] (fun _ => (bBreak B t9) 6), ar G 0 ba 60 ((bBreak B t9) 6).toNat (fun j => (bBreak B t9) (88 + (j : Int))), ob qo 5 [some (.ref bo), none] (fun _ => (bBreak B t9) 7), ar G 0 bo 60 ((bBreak B t9) 7).toNat (fun j => (bBreak B t9) (148 + (j : Int))), ob qw 5 [some (.ref bw), none] (fun _ => (bBreak B t9) 8), ar G 0 bw 60 ((bBreak B t9) 8).toNat (fun j => (bBreak B t9) (208 + (j : Int))), ar G 0 cn 12 12 (fun j => (bBreak B t9) (16 + (j : Int)))] := by
  refine MX_of (lv := [some (.ref a), some (.int (zI t9))]) hK (by decide +kernel) rfl (nle rfl) (fun X C F => ?_)
  have C : OKc G X l RX0 "breakFor" cX0_breakFor 2 none 3 0 0 := C
  refine x_aload_n C eX0_breakFor_0 rfl ?_
  refine x_bipush C eX0_breakFor_1 rfl ?_
  refine x_iconst C eX0_breakFor_3 ?_
  refine yV2v [_, _, _, _, _, _, _, _] [_, _, _, _, _, _, _, _, _, _] C (s_X0_addToCount hK (by omega)) v_X0_addToCount vv_X0_addToCount s_RX0_62 eX0_breakFor_4 (fun _ _ h => WF_pick [0, 9, 1, 2, 3, 4, 5, 6, 7, 8] rfl rfl h) (rcv 0 rfl) rfl (nle rfl) (nle rfl) (nle rfl) (nle rfl) rfl ?_
  try rw [show (9 : Int).toNat = 9 from rfl]
  refine x_aload_n C eX0_breakFor_7 rfl ?_
  refine x_iconst C eX0_breakFor_8 ?_
  refine x_aload_n C eX0_breakFor_9 rfl ?_
  refine x_getR 0 C f_RX0_36 eX0_breakFor_10 rfl rfl ?_
  refine x_getI 2 C f_RX0_59 eX0_breakFor_13 rfl rfl ?_
  try simp (disch := decide) only [up_s, up_n, lnI_1, lnI_2, lnI_3, lnI_4, lnI_5, lnI_10, lnI_11, lnI_12, lnI_13, lnI_14, lnI_15]
  refine yV2v [_, _, _, _, _, _, _, _] [_, _, _, _, _, _, _, _, _, _] C (s_X0_addToCount hK (by omega)) v_X0_addToCount vv_X0_addToCount s_RX0_62 eX0_breakFor_16 (fun _ _ h => WF_pick [0, 1, 2, 3, 4, 5, 6, 7, 8, 9] rfl rfl h) (rcv 0 rfl) rfl (nle rfl) (nle rfl) (nle rfl) (nle rfl) rfl ?_
  try rw [show (3 : Int).toNat = 3 from rfl]
  refine x_aload_n C eX0_breakFor_19 rfl ?_
  refine x_bipush C eX0_breakFor_20 rfl ?_
  refine x_aload_n C eX0_breakFor_22 rfl ?_
  refine x_getR 0 C f_RX0_43 eX0_breakFor_23 rfl rfl ?_
  refine x_getI 6 C f_RX0_59 eX0_breakFor_26 rfl rfl ?_
  try simp (disch := decide) only [up_s, up_n, lnI_1, lnI_2, lnI_3, lnI_4, lnI_5, lnI_10, lnI_11, lnI_12, lnI_13, lnI_14, lnI_15]
  refine yV2v [_, _, _, _, _, _, _, _] [_, _, _, _, _, _, _, _, _, _] C (s_X0_addToCount hK (by omega)) v_X0_addToCount vv_X0_addToCount s_RX0_62 eX0_breakFor_29 (fun _ _ h => WF_pick [0, 1, 2, 3, 4, 5, 6, 7, 8, 9] rfl rfl h) (rcv 0 rfl) rfl (nle rfl) (nle rfl) (nle rfl) (nle rfl) rfl ?_
  try rw [show (7 : Int).toNat = 7 from rfl]
  refine x_aload_n C eX0_breakFor_32 rfl ?_
  refine x_iload_n C eX0_breakFor_33 rfl ?_
  refine x_putI [_, _, _, _, _, _, _, _, _, _] 0 C f_RX0_66 eX0_breakFor_34 rfl rfl rfl ?_
  refine x_aload_n C eX0_breakFor_37 rfl ?_
  refine x_getR 0 C f_RX0_36 eX0_breakFor_38 rfl rfl ?_
  refine yV0v [_, _, _, _, _, _, _, _] [_, _, _, _, _, _, _, _, _, _] C (s_X3_clear hK (fun _ => 0) ) v_X3_clear vv_X3_clear s_RX0_90 eX0_breakFor_41 (fun _ _ h => WF_pick [2, 3, 0, 1, 4, 5, 6, 7, 8, 9] rfl rfl h) (rcv 2 rfl) rfl (nle rfl) (nle rfl) (nle rfl) (nle rfl) rfl ?_
  refine x_aload_n C eX0_breakFor_44 rfl ?_
  refine x_getR 2 C f_RX0_40 eX0_breakFor_45 rfl rfl ?_
  refine yV0v [_, _, _, _, _, _, _, _] [_, _, _, _, _, _, _, _, _, _] C (s_X3_clear hK (fun _ => 0) ) v_X3_clear vv_X3_clear s_RX0_90 eX0_breakFor_48 (fun _ _ h => WF_pick [4, 5, 0, 1, 2, 3, 6, 7, 8, 9] rfl rfl h) (rcv 4 rfl) rfl (nle rfl) (nle rfl) (nle rfl) (nle rfl) rfl ?_
  refine x_aload_n C eX0_breakFor_51 rfl ?_
  refine x_getR 4 C f_RX0_43 eX0_breakFor_52 rfl rfl ?_
  refine yV0v [_, _, _, _, _, _, _, _] [_, _, _, _, _, _, _, _, _, _] C (s_X3_clear hK (fun _ => 0) ) v_X3_clear vv_X3_clear s_RX0_90 eX0_breakFor_55 (fun _ _ h => WF_pick [6, 7, 0, 1, 2, 3, 4, 5, 8, 9] rfl rfl h) (rcv 6 rfl) rfl (nle rfl) (nle rfl) (nle rfl) (nle rfl) rfl ?_
  refine x_aload_n C eX0_breakFor_58 rfl ?_
  refine x_getR 6 C f_RX0_46 eX0_breakFor_59 rfl rfl ?_
  refine yV0v [_, _, _, _, _, _, _, _] [_, _, _, _, _, _, _, _, _, _] C (s_X3_clear hK (fun _ => 0) ) v_X3_clear vv_X3_clear s_RX0_90 eX0_breakFor_62 (fun _ _ h => WF_pick [8, 9, 0, 1, 2, 3, 4, 5, 6, 7] rfl rfl h) (rcv 8 rfl) rfl (nle rfl) (nle rfl) (nle rfl) (nle rfl) rfl ?_
  refine x_ws [ob a 2 (lnS nm qi qa qo qw cn ((bBreak0 B t9) 15)) (lnI (bBreak0 B t9)), ob qi 5 [some (.ref bi), none] (fun _ => (bBreak0 B t9) 6), ar G 0 bi 60 ((bBreak0 B t9) 6).toNat (fun j => (bBreak0 B t9) (28 + (j : Int))), ob qa 5 [some (.ref ba), none] (fun _ => (bBreak0 B t9) 6), ar G 0 ba 60 ((bBreak0 B t9) 6).toNat (fun j => (bBreak0 B t9) (88 + (j : Int))), ob qo 5 [some (.ref bo), none] (fun _ => (bBreak0 B t9) 7), ar G 0 bo 60 ((bBreak0 B t9) 7).toNat (fun j => (bBreak0 B t9) (148 + (j : Int))), ob qw 5 [some (.ref bw), none] (fun _ => (bBreak0 B t9) 8), ar G 0 bw 60 ((bBreak0 B t9) 8).toNat (fun j => (bBreak0 B t9) (208 + (j : Int))), ar G 0 cn 12 12 (fun j => (bBreak0 B t9) (16 + (j : Int)))] (fun cf0 c hw => ?_) ?_
  · refine LRcv ?_ ?_ ?_ ?_ ?_ ?_ ?_ ?_ ?_ ?_ ?_ ?_ ?_ ?_ ?_ ?_ ?_ ?_ ?_ ?_ ?_ (WF_pick [8, 6, 7, 4, 5, 2, 3, 0, 1, 9] rfl rfl hw)
    all_goals (try intro j hj)
    all_goals (try simp (disch := omega) only [inc, lnTo, lnI_1, lnI_2, lnI_3, lnI_4, lnI_5, lnI_10, lnI_11, lnI_12, lnI_13, lnI_14, lnI_15, ub_n, ub_s, up_n, up_s, if_true, bBreak0])
    all_goals (try simp only [up_lit, ub_lit, bBreak0])
    all_goals (repeat' split)
    all_goals first | rfl | omega | (congr 1 <;> omega) | (exfalso; omega)
  refine x_aload_n C eX0_breakFor_65 rfl ?_
  refine yV0v [] [_, _, _, _, _, _, _, _, _, _] C (s_X0_tellStopping hK (by unfold bBreak0; simp (disch := omega) only [inc, ub_n, ub_s]; omega)) v_X0_tellStopping vv_X0_tellStopping s_RX0_73 eX0_breakFor_66 (fun _ _ h => WF_pick [0, 1, 2, 3, 4, 5, 6, 7, 8, 9] rfl rfl h) (rcv 0 rfl) rfl (nle rfl) (nle rfl) (nle rfl) (nle rfl) rfl ?_
  skip
  refine x_vret C F eX0_breakFor_69 () rfl trivial (fun cf c h => ?_) (nle rfl) (nle rfl)
  exact WF_pick [0, 1, 2, 3, 4, 5, 6, 7, 8, 9] rfl rfl h

set_option maxHeartbeats 4000000 in
set_option maxRecDepth 100000 in
theorem s_X0_lendTo {G : Gm} {l : Launch} (hK : KG G) {a nm qi qa qo qw cn : Nat} {w : Int} {J : Nat → Int} {o9 t9 : Int}  : MD G l yX0_lendTo cX0_lendTo 3 none 1 0 0 [.ref a, .int (zI o9), .int (zI t9)] [ob a 2 (lnS nm qi qa qo qw cn (w)) (J)] none [ob a 2 (lnS nm qi qa qo qw cn (w)) (up (up J 11 o9) 12 t9)] := by
  refine MX_of (lv := [some (.ref a), some (.int (zI o9)), some (.int (zI t9))]) hK (by decide +kernel) rfl (nle rfl) (fun X C F => ?_)
  have C : OKc G X l RX0 "lendTo" cX0_lendTo 3 none 1 0 0 := C
  refine x_aload_n C eX0_lendTo_0 rfl ?_
  refine x_iload_n C eX0_lendTo_1 rfl ?_
  refine x_putI [_] 0 C f_RX0_49 eX0_lendTo_2 rfl rfl rfl ?_
  refine x_aload_n C eX0_lendTo_5 rfl ?_
  refine x_iload_n C eX0_lendTo_6 rfl ?_
  refine x_putI [_] 0 C f_RX0_116 eX0_lendTo_7 rfl rfl rfl ?_
  refine x_vret C F eX0_lendTo_10 () rfl trivial (fun cf c h => ?_) (nle rfl) (nle rfl)
  exact WF_pick [0] rfl rfl h

set_option maxHeartbeats 4000000 in
set_option maxRecDepth 100000 in
theorem s_X0_lendNoMore {G : Gm} {l : Launch} (hK : KG G) {a nm qi qa qo qw cn : Nat} {w : Int} {J : Nat → Int}  : MD G l yX0_lendNoMore cX0_lendNoMore 1 none 1 0 0 [.ref a] [ob a 2 (lnS nm qi qa qo qw cn (w)) (J)] none [ob a 2 (lnS nm qi qa qo qw cn (w)) (up (up J 11 (-1)) 12 0)] := by
  refine MX_of (lv := [some (.ref a)]) hK (by decide +kernel) rfl (nle rfl) (fun X C F => ?_)
  have C : OKc G X l RX0 "lendNoMore" cX0_lendNoMore 1 none 1 0 0 := C
  refine x_aload_n C eX0_lendNoMore_0 rfl ?_
  refine x_iconst C eX0_lendNoMore_1 ?_
  refine x_putI [_] 0 C f_RX0_49 eX0_lendNoMore_2 rfl rfl rfl ?_
  refine x_aload_n C eX0_lendNoMore_5 rfl ?_
  refine x_iconst C eX0_lendNoMore_6 ?_
  refine x_putI [_] 0 C f_RX0_116 eX0_lendNoMore_7 rfl rfl rfl ?_
  refine x_vret C F eX0_lendNoMore_10 () rfl trivial (fun cf c h => ?_) (nle rfl) (nle rfl)
  exact WF_pick [0] rfl rfl h
