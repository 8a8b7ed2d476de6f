set_option maxHeartbeats 4000000 in
set_option maxRecDepth 100000 in
theorem s_X0_counted {G : Gm} {l : Launch} (hK : KG G) {a nm qi qa qo qw cn : Nat} {w : Int} {J cf : Nat → Int} {w9 : Int} (hw : 0 ≤ w9 ∧ w9 < 12) : MD G l yX0_counted cX0_counted 2 (some .int) 1 0 0 [.ref a, .int (zI w9)] [ob a 2 (lnS nm qi qa qo qw cn (w)) (J), ar G 0 cn 12 12 (cf)] (some (.int (zI (cf w9.toNat)))) [ob a 2 (lnS nm qi qa qo qw cn (w)) (J), ar G 0 cn 12 12 (cf)] := by
  refine MX_of (lv := [some (.ref a), some (.int (zI w9))]) hK (by decide +kernel) rfl (nle rfl) (fun X C F => ?_)
  have C : OKc G X l RX0 "counted" cX0_counted 2 (some .int) 1 0 0 := C
  refine x_iload_n C eX0_counted_0 rfl ?_
  refine x_if_lt 22 C eX0_counted_1 rfl (by omega) (fun h1 => ?_) (fun h1 => ?_)
  · exfalso; omega
  · refine x_iload_n C eX0_counted_4 rfl ?_
    refine x_aload_n C eX0_counted_5 rfl ?_
    refine x_getR 0 C f_RX0_55 eX0_counted_6 rfl rfl ?_
    refine x_alen 1 C eX0_counted_9 rfl (by decide) ar_al ?_
    refine x_icmp_ge 22 C eX0_counted_10 rfl (by omega) (by omega) (fun h10 => ?_) (fun h10 => ?_)
    · exfalso; omega
    · refine x_aload_n C eX0_counted_13 rfl ?_
      refine x_getR 0 C f_RX0_55 eX0_counted_14 rfl rfl ?_
      refine x_iload_n C eX0_counted_17 rfl ?_
      refine x_iald 1 C eX0_counted_18 rfl (by decide) (by omega) ?_
      refine x_goto (pc' := 23) C eX0_counted_19 rfl ?_
      refine x_iret (by first | rfl | exact (narZ (by omega)).1) C F eX0_counted_23 () ?_ trivial (fun cf c h => ?_) (nle rfl) (nle rfl)
      · rfl
      · exact WF_pick [0, 1] rfl rfl h

theorem s_X0_countedB {G : Gm} {l : Launch} (hK : KG G) {a nm qi qa qo qw cn : Nat} {B : Blk} {w9 : Int} (hw : 0 ≤ w9 ∧ w9 < 12) : MD G l yX0_counted cX0_counted 2 (some .int) 1 0 0 [.ref a, .int (zI w9)] [ob a 2 (lnS nm qi qa qo qw cn ((B) 15)) (lnI (B)), ar G 0 cn 12 12 (fun j => (B) (16 + (j : Int)))] (some (.int (zI (B (16 + w9))))) [ob a 2 (lnS nm qi qa qo qw cn ((B) 15)) (lnI (B)), ar G 0 cn 12 12 (fun j => (B) (16 + (j : Int)))] := by
  have h := s_X0_counted (G := G) (l := l) hK (a := a) (nm := nm) (qi := qi) (qa := qa) (qo := qo) (qw := qw) (cn := cn) (w := B 15) (J := lnI B) (cf := fun j => B (16 + (j : Int))) hw
  rw [show ((w9.toNat : Nat) : Int) = w9 by omega] at h
  exact h

set_option maxHeartbeats 4000000 in
set_option maxRecDepth 100000 in
theorem s_X0_addToCount {G : Gm} {l : Launch} (hK : KG G) {a nm qi qa qo qw cn : Nat} {w : Int} {J cf : Nat → Int} {w9 m9 : Int} (hw : 0 ≤ w9 ∧ w9 < 12) : MD G l yX0_addToCount cX0_addToCount 3 none 1 0 0 [.ref a, .int (zI w9), .int (zI m9)] [ob a 2 (lnS nm qi qa qo qw cn (w)) (J), ar G 0 cn 12 12 (cf)] none [ob a 2 (lnS nm qi qa qo qw cn (w)) (J), ar G 0 cn 12 12 (up cf w9.toNat (cf w9.toNat + m9))] := by
  refine MX_of (lv := [some (.ref a), some (.int (zI w9)), some (.int (zI m9))]) hK (by decide +kernel) rfl (nle rfl) (fun X C F => ?_)
  have C : OKc G X l RX0 "addToCount" cX0_addToCount 3 none 1 0 0 := C
  refine x_iload_n C eX0_addToCount_0 rfl ?_
  refine x_if_lt 23 C eX0_addToCount_1 rfl (by omega) (fun h1 => ?_) (fun h1 => ?_)
  · exfalso; omega
  · refine x_iload_n C eX0_addToCount_4 rfl ?_
    refine x_aload_n C eX0_addToCount_5 rfl ?_
    refine x_getR 0 C f_RX0_55 eX0_addToCount_6 rfl rfl ?_
    refine x_alen 1 C eX0_addToCount_9 rfl (by decide) ar_al ?_
    refine x_icmp_ge 23 C eX0_addToCount_10 rfl (by omega) (by omega) (fun h10 => ?_) (fun h10 => ?_)
    · exfalso; omega
    · refine x_aload_n C eX0_addToCount_13 rfl ?_
      refine x_getR 0 C f_RX0_55 eX0_addToCount_14 rfl rfl ?_
      refine x_iload_n C eX0_addToCount_17 rfl ?_
      refine x_dup2 C eX0_addToCount_18 rfl rfl ?_
      refine x_iald 1 C eX0_addToCount_19 rfl (by decide) (by omega) ?_
      refine x_iload_n C eX0_addToCount_20 rfl ?_
      refine x_iadd C eX0_addToCount_21 ?_
      refine x_iast (w := 0) [_, _] 12 1 C eX0_addToCount_22 rfl (by decide) (by omega) (by omega) rfl ?_
      refine x_vret C F eX0_addToCount_23 () rfl trivial (fun cf c h => ?_) (nle rfl) (nle rfl)
      exact WF_pick [0, 1] rfl rfl h

set_option maxHeartbeats 4000000 in
set_option maxRecDepth 100000 in
theorem s_X0_waiting {G : Gm} {l : Launch} (hK : KG G) {a nm qi bi qa qo bo qw cn : Nat} {w zi zo : Int} {J : Nat → Int}  : MD G l yX0_waiting cX0_waiting 1 (some .int) 1 0 0 [.ref a] [ob a 2 (lnS nm qi qa qo qw cn (w)) (J), ob qi 5 [some (.ref bi), none] (fun _ => zi), ob qo 5 [some (.ref bo), none] (fun _ => zo)] (some (.int (zI (zi + zo)))) [ob a 2 (lnS nm qi qa qo qw cn (w)) (J), ob qi 5 [some (.ref bi), none] (fun _ => zi), ob qo 5 [some (.ref bo), none] (fun _ => zo)] := by
  refine MX_of (lv := [some (.ref a)]) hK (by decide +kernel) rfl (nle rfl) (fun X C F => ?_)
  have C : OKc G X l RX0 "waiting" cX0_waiting 1 (some .int) 1 0 0 := C
  refine x_aload_n C eX0_waiting_0 rfl ?_
  refine x_getR 0 C f_RX0_36 eX0_waiting_1 rfl rfl ?_
  refine x_getI 1 C f_RX0_59 eX0_waiting_4 rfl rfl ?_
  try simp (disch := decide) only [up_s, up_n]
  refine x_aload_n C eX0_waiting_7 rfl ?_
  refine x_getR 0 C f_RX0_43 eX0_waiting_8 rfl rfl ?_
  refine x_getI 2 C f_RX0_59 eX0_waiting_11 rfl rfl ?_
  try simp (disch := decide) only [up_s, up_n]
  refine x_iadd C eX0_waiting_14 ?_
  refine x_iret (by first | rfl | exact (narZ (by omega)).1) C F eX0_waiting_15 () ?_ trivial (fun cf c h => ?_) (nle rfl) (nle rfl)
  · rfl
  · exact WF_pick [0, 1, 2] rfl rfl h

set_option maxHeartbeats 4000000 in
set_option maxRecDepth 100000 in
theorem s_X0_tellStopping {G : Gm} {l : Launch} (hK : KG G) {a nm qi bi qa ba qo bo qw bw cn : Nat} {B : Blk} (hst : B 2 < B 3 ∧ (B 10 = 0 ∨ B 10 = 1) ∧ (0 ≤ B 6 ∧ B 6 ≤ 60) ∧ (-1000 ≤ B 2 ∧ B 2 ≤ 2000) ∧ (-1000 ≤ B 3 ∧ B 3 ≤ 2000)) : MD G l yX0_tellStopping cX0_tellStopping 1 none 2 0 0 [.ref a] [ob a 2 (lnS nm qi qa qo qw cn ((B) 15)) (lnI (B)), ob qi 5 [some (.ref bi), none] (fun _ => (B) 6), ar G 0 bi 60 ((B) 6).toNat (fun j => (B) (28 + (j : Int))), ob qa 5 [some (.ref ba), none] (fun _ => (B) 6), ar G 0 ba 60 ((B) 6).toNat (fun j => (B) (88 + (j : Int))), ob qo 5 [some (.ref bo), none] (fun _ => (B) 7), ar G 0 bo 60 ((B) 7).toNat (fun j => (B) (148 + (j : Int))), ob qw 5 [some (.ref bw), none] (fun _ => (B) 8), ar G 0 bw 60 ((B) 8).toNat (fun j => (B) (208 + (j : Int))), ar G 0 cn 12 12 (fun j => (B) (16 + (j : Int)))] none [ob a 2 (lnS nm qi qa qo qw cn ((bStop B) 15)) (lnI (bStop B)), ob qi 5 [some (.ref bi), none] (fun _ => (bStop B) 6), ar G 0 bi 60 ((bStop B) 6).toNat (fun j => (bStop B) (28 + (j : Int))), ob qa 5 [some (.ref ba), none] (fun _ => (bStop B) 6), ar G 0 ba 60 ((bStop B) 6).toNat (fun j => (bStop B) (88 + (j : Int))), ob qo 5 [some (.ref bo), none] (fun _ => (bStop B) 7), ar G 0 bo 60 ((bStop B) 7).toNat (fun j => (bStop B) (148 + (j : Int))), ob qw 5 [some (.ref bw), none] (fun _ => (bStop B) 8), ar G 0 bw 60 ((bStop B) 8).toNat (fun j => (bStop B) (208 + (j : Int))), ar G 0 cn 12 12 (fun j => (bStop B) (16 + (j : Int)))] := by
  refine MX_of (lv := [some (.ref a)]) hK (by decide +kernel) rfl (nle rfl) (fun X C F => ?_)
  have C : OKc G X l RX0 "tellStopping" cX0_tellStopping 1 none 2 0 0 := C
  refine x_aload_n C eX0_tellStopping_0 rfl ?_
  refine x_getR 0 C f_RX0_36 eX0_tellStopping_1 rfl rfl ?_
  refine x_getI 1 C f_RX0_59 eX0_tellStopping_4 rfl rfl ?_
  try simp (disch := decide) only [up_s, up_n, lnI_1, lnI_2, lnI_3, lnI_4, lnI_5, lnI_10, lnI_11, lnI_12, lnI_13, lnI_14, lnI_15]
  refine x_aload_n C eX0_tellStopping_7 rfl ?_
  refine x_getI 0 C f_RX0_24 eX0_tellStopping_8 rfl rfl ?_
  try simp (disch := decide) only [up_s, up_n, lnI_1, lnI_2, lnI_3, lnI_4, lnI_5, lnI_10, lnI_11, lnI_12, lnI_13, lnI_14, lnI_15]
  refine x_icmp_lt 36 C eX0_tellStopping_11 rfl (by omega) (by omega) (fun h11 => ?_) (fun h11 => ?_)
  · refine x_aload_n C eX0_tellStopping_36 rfl ?_
    refine x_getR 0 C f_RX0_36 eX0_tellStopping_37 rfl rfl ?_
    refine x_getI 1 C f_RX0_59 eX0_tellStopping_40 rfl rfl ?_
    try simp (disch := decide) only [up_s, up_n, lnI_1, lnI_2, lnI_3, lnI_4, lnI_5, lnI_10, lnI_11, lnI_12, lnI_13, lnI_14, lnI_15]
    refine x_aload_n C eX0_tellStopping_43 rfl ?_
    refine x_getI 0 C f_RX0_21 eX0_tellStopping_44 rfl rfl ?_
    try simp (disch := decide) only [up_s, up_n, lnI_1, lnI_2, lnI_3, lnI_4, lnI_5, lnI_10, lnI_11, lnI_12, lnI_13, lnI_14, lnI_15]
    refine x_icmp_gt 55 C eX0_tellStopping_47 rfl (by omega) (by omega) (fun h47 => ?_) (fun h47 => ?_)
    · refine x_vret C F eX0_tellStopping_55 () rfl trivial (fun cf c h => ?_) (nle rfl) (nle rfl)
      first
        | (rw [show bStop B = inc (ub B 10 1) 24 from if_pos (by omega)]
           refine LRcv ?_ ?_ ?_ ?_ ?_ ?_ ?_ ?_ ?_ ?_ ?_ ?_ ?_ ?_ ?_ ?_ ?_ ?_ ?_ ?_ ?_ (WF_pick [0, 1, 2, 3, 4, 5, 6, 7, 8, 9] rfl rfl h)
           all_goals (try intro j hj)
           all_goals (try simp (disch := omega) only [inc, lnTo, lnI_1, lnI_2, lnI_3, lnI_4, lnI_5, lnI_10, lnI_11, lnI_12, lnI_13, lnI_14, lnI_15, ub_n, ub_s, up_n, up_s, if_true])
           all_goals (try simp only [up_lit, ub_lit])
           all_goals (repeat' split)
           all_goals first | rfl | omega | (congr 1 <;> omega) | (exfalso; omega))
        | (rw [show bStop B = ub B 10 0 from by unfold bStop; rw [if_neg (by omega), if_pos (by omega)]]
           refine LRcv ?_ ?_ ?_ ?_ ?_ ?_ ?_ ?_ ?_ ?_ ?_ ?_ ?_ ?_ ?_ ?_ ?_ ?_ ?_ ?_ ?_ (WF_pick [0, 1, 2, 3, 4, 5, 6, 7, 8, 9] rfl rfl h)
           all_goals (try intro j hj)
           all_goals (try simp (disch := omega) only [inc, lnTo, lnI_1, lnI_2, lnI_3, lnI_4, lnI_5, lnI_10, lnI_11, lnI_12, lnI_13, lnI_14, lnI_15, ub_n, ub_s, up_n, up_s, if_true])
           all_goals (try simp only [up_lit, ub_lit])
           all_goals (repeat' split)
           all_goals first | rfl | omega | (congr 1 <;> omega) | (exfalso; omega))
        | (rw [show bStop B = B from by unfold bStop; rw [if_neg (by omega), if_neg (by omega)]]
           refine LRcv ?_ ?_ ?_ ?_ ?_ ?_ ?_ ?_ ?_ ?_ ?_ ?_ ?_ ?_ ?_ ?_ ?_ ?_ ?_ ?_ ?_ (WF_pick [0, 1, 2, 3, 4, 5, 6, 7, 8, 9] rfl rfl h)
           all_goals (try intro j hj)
           all_goals (try simp (disch := omega) only [inc, lnTo, lnI_1, lnI_2, lnI_3, lnI_4, lnI_5, lnI_10, lnI_11, lnI_12, lnI_13, lnI_14, lnI_15, ub_n, ub_s, up_n, up_s, if_true])
           all_goals (try simp only [up_lit, ub_lit])
           all_goals (repeat' split)
           all_goals first | rfl | omega | (congr 1 <;> omega) | (exfalso; omega))
    · refine x_aload_n C eX0_tellStopping_50 rfl ?_
      refine x_iconst C eX0_tellStopping_51 ?_
      refine x_putZ [_, _, _, _, _, _, _, _, _, _] 0 C f_RX0_93 eX0_tellStopping_52 rfl rfl (by omega) rfl ?_
      refine x_vret C F eX0_tellStopping_55 () rfl trivial (fun cf c h => ?_) (nle rfl) (nle rfl)
      first
        | (rw [show bStop B = inc (ub B 10 1) 24 from if_pos (by omega)]
           refine LRcv ?_ ?_ ?_ ?_ ?_ ?_ ?_ ?_ ?_ ?_ ?_ ?_ ?_ ?_ ?_ ?_ ?_ ?_ ?_ ?_ ?_ (WF_pick [0, 1, 2, 3, 4, 5, 6, 7, 8, 9] rfl rfl h)
           all_goals (try intro j hj)
           all_goals (try simp (disch := omega) only [inc, lnTo, lnI_1, lnI_2, lnI_3, lnI_4, lnI_5, lnI_10, lnI_11, lnI_12, lnI_13, lnI_14, lnI_15, ub_n, ub_s, up_n, up_s, if_true])
           all_goals (try simp only [up_lit, ub_lit])
           all_goals (repeat' split)
           all_goals first | rfl | omega | (congr 1 <;> omega) | (exfalso; omega))
        | (rw [show bStop B = ub B 10 0 from by unfold bStop; rw [if_neg (by omega), if_pos (by omega)]]
           refine LRcv ?_ ?_ ?_ ?_ ?_ ?_ ?_ ?_ ?_ ?_ ?_ ?_ ?_ ?_ ?_ ?_ ?_ ?_ ?_ ?_ ?_ (WF_pick [0, 1, 2, 3, 4, 5, 6, 7, 8, 9] rfl rfl h)
           all_goals (try intro j hj)
           all_goals (try simp (disch := omega) only [inc, lnTo, lnI_1, lnI_2, lnI_3, lnI_4, lnI_5, lnI_10, lnI_11, lnI_12, lnI_13, lnI_14, lnI_15, ub_n, ub_s, up_n, up_s, if_true])
           all_goals (try simp only [up_lit, ub_lit])
           all_goals (repeat' split)
           all_goals first | rfl | omega | (congr 1 <;> omega) | (exfalso; omega))
        | (rw [show bStop B = B from by unfold bStop; rw [if_neg (by omega), if_neg (by omega)]]
           refine LRcv ?_ ?_ ?_ ?_ ?_ ?_ ?_ ?_ ?_ ?_ ?_ ?_ ?_ ?_ ?_ ?_ ?_ ?_ ?_ ?_ ?_ (WF_pick [0, 1, 2, 3, 4, 5, 6, 7, 8, 9] rfl rfl h)
           all_goals (try intro j hj)
           all_goals (try simp (disch := omega) only [inc, lnTo, lnI_1, lnI_2, lnI_3, lnI_4, lnI_5, lnI_10, lnI_11, lnI_12, lnI_13, lnI_14, lnI_15, ub_n, ub_s, up_n, up_s, if_true])
           all_goals (try simp only [up_lit, ub_lit])
           all_goals (repeat' split)
           all_goals first | rfl | omega | (congr 1 <;> omega) | (exfalso; omega))
  · refine x_aload_n C eX0_tellStopping_14 rfl ?_
    refine x_getI 0 C f_RX0_93 eX0_tellStopping_15 rfl rfl ?_
    try simp (disch := decide) only [up_s, up_n, lnI_1, lnI_2, lnI_3, lnI_4, lnI_5, lnI_10, lnI_11, lnI_12, lnI_13, lnI_14, lnI_15]
    refine x_if_ne 28 C eX0_tellStopping_18 rfl (by omega) (fun h18 => ?_) (fun h18 => ?_)
    · refine x_aload_n C eX0_tellStopping_28 rfl ?_
      refine x_iconst C eX0_tellStopping_29 ?_
      refine x_putZ [_, _, _, _, _, _, _, _, _, _] 0 C f_RX0_93 eX0_tellStopping_30 rfl rfl (by omega) rfl ?_
      refine x_goto (pc' := 55) C eX0_tellStopping_33 rfl ?_
      refine x_vret C F eX0_tellStopping_55 () rfl trivial (fun cf c h => ?_) (nle rfl) (nle rfl)
      first
        | (rw [show bStop B = inc (ub B 10 1) 24 from if_pos (by omega)]
           refine LRcv ?_ ?_ ?_ ?_ ?_ ?_ ?_ ?_ ?_ ?_ ?_ ?_ ?_ ?_ ?_ ?_ ?_ ?_ ?_ ?_ ?_ (WF_pick [0, 1, 2, 3, 4, 5, 6, 7, 8, 9] rfl rfl h)
           all_goals (try intro j hj)
           all_goals (try simp (disch := omega) only [inc, lnTo, lnI_1, lnI_2, lnI_3, lnI_4, lnI_5, lnI_10, lnI_11, lnI_12, lnI_13, lnI_14, lnI_15, ub_n, ub_s, up_n, up_s, if_true])
           all_goals (try simp only [up_lit, ub_lit])
           all_goals (repeat' split)
           all_goals first | rfl | omega | (congr 1 <;> omega) | (exfalso; omega))
        | (rw [show bStop B = ub B 10 0 from by unfold bStop; rw [if_neg (by omega), if_pos (by omega)]]
           refine LRcv ?_ ?_ ?_ ?_ ?_ ?_ ?_ ?_ ?_ ?_ ?_ ?_ ?_ ?_ ?_ ?_ ?_ ?_ ?_ ?_ ?_ (WF_pick [0, 1, 2, 3, 4, 5, 6, 7, 8, 9] rfl rfl h)
           all_goals (try intro j hj)
           all_goals (try simp (disch := omega) only [inc, lnTo, lnI_1, lnI_2, lnI_3, lnI_4, lnI_5, lnI_10, lnI_11, lnI_12, lnI_13, lnI_14, lnI_15, ub_n, ub_s, up_n, up_s, if_true])
           all_goals (try simp only [up_lit, ub_lit])
           all_goals (repeat' split)
           all_goals first | rfl | omega | (congr 1 <;> omega) | (exfalso; omega))
        | (rw [show bStop B = B from by unfold bStop; rw [if_neg (by omega), if_neg (by omega)]]
           refine LRcv ?_ ?_ ?_ ?_ ?_ ?_ ?_ ?_ ?_ ?_ ?_ ?_ ?_ ?_ ?_ ?_ ?_ ?_ ?_ ?_ ?_ (WF_pick [0, 1, 2, 3, 4, 5, 6, 7, 8, 9] rfl rfl h)
           all_goals (try intro j hj)
           all_goals (try simp (disch := omega) only [inc, lnTo, lnI_1, lnI_2, lnI_3, lnI_4, lnI_5, lnI_10, lnI_11, lnI_12, lnI_13, lnI_14, lnI_15, ub_n, ub_s, up_n, up_s, if_true])
           all_goals (try simp only [up_lit, ub_lit])
           all_goals (repeat' split)
           all_goals first | rfl | omega | (congr 1 <;> omega) | (exfalso; omega))
    · refine x_aload_n C eX0_tellStopping_21 rfl ?_
      refine x_bipush C eX0_tellStopping_22 rfl ?_
      refine x_iconst C eX0_tellStopping_24 ?_
      refine yV2v [_, _, _, _, _, _, _, _] [_, _, _, _, _, _, _, _, _, _] C (s_X0_addToCount hK (by omega)) v_X0_addToCount vv_X0_addToCount s_RX0_62 eX0_tellStopping_25 (fun _ _ h => WF_pick [0, 9, 1, 2, 3, 4, 5, 6, 7, 8] rfl rfl h) (rcv 0 rfl) rfl (nle rfl) (nle rfl) (nle rfl) (nle rfl) rfl ?_
      try rw [show (8 : Int).toNat = 8 from rfl]
      refine x_aload_n C eX0_tellStopping_28 rfl ?_
      refine x_iconst C eX0_tellStopping_29 ?_
      refine x_putZ [_, _, _, _, _, _, _, _, _, _] 0 C f_RX0_93 eX0_tellStopping_30 rfl rfl (by omega) rfl ?_
      refine x_goto (pc' := 55) C eX0_tellStopping_33 rfl ?_
      refine x_vret C F eX0_tellStopping_55 () rfl trivial (fun cf c h => ?_) (nle rfl) (nle rfl)
      first
        | (rw [show bStop B = inc (ub B 10 1) 24 from if_pos (by omega)]
           refine LRcv ?_ ?_ ?_ ?_ ?_ ?_ ?_ ?_ ?_ ?_ ?_ ?_ ?_ ?_ ?_ ?_ ?_ ?_ ?_ ?_ ?_ (WF_pick [0, 2, 3, 4, 5, 6, 7, 8, 9, 1] rfl rfl h)
           all_goals (try intro j hj)
           all_goals (try simp (disch := omega) only [inc, lnTo, lnI_1, lnI_2, lnI_3, lnI_4, lnI_5, lnI_10, lnI_11, lnI_12, lnI_13, lnI_14, lnI_15, ub_n, ub_s, up_n, up_s, if_true])
           all_goals (try simp only [up_lit, ub_lit])
           all_goals (repeat' split)
           all_goals first | rfl | omega | (congr 1 <;> omega) | (exfalso; omega))
        | (rw [show bStop B = ub B 10 0 from by unfold bStop; rw [if_neg (by omega), if_pos (by omega)]]
           refine LRcv ?_ ?_ ?_ ?_ ?_ ?_ ?_ ?_ ?_ ?_ ?_ ?_ ?_ ?_ ?_ ?_ ?_ ?_ ?_ ?_ ?_ (WF_pick [0, 2, 3, 4, 5, 6, 7, 8, 9, 1] rfl rfl h)
           all_goals (try intro j hj)
           all_goals (try simp (disch := omega) only [inc, lnTo, lnI_1, lnI_2, lnI_3, lnI_4, lnI_5, lnI_10, lnI_11, lnI_12, lnI_13, lnI_14, lnI_15, ub_n, ub_s, up_n, up_s, if_true])
           all_goals (try simp only [up_lit, ub_lit])
           all_goals (repeat' split)
           all_goals first | rfl | omega | (congr 1 <;> omega) | (exfalso; omega))
        | (rw [show bStop B = B from by unfold bStop; rw [if_neg (by omega), if_neg (by omega)]]
           refine LRcv ?_ ?_ ?_ ?_ ?_ ?_ ?_ ?_ ?_ ?_ ?_ ?_ ?_ ?_ ?_ ?_ ?_ ?_ ?_ ?_ ?_ (WF_pick [0, 2, 3, 4, 5, 6, 7, 8, 9, 1] rfl rfl h)
           all_goals (try intro j hj)
           all_goals (try simp (disch := omega) only [inc, lnTo, lnI_1, lnI_2, lnI_3, lnI_4, lnI_5, lnI_10, lnI_11, lnI_12, lnI_13, lnI_14, lnI_15, ub_n, ub_s, up_n, up_s, if_true])
           all_goals (try simp only [up_lit, ub_lit])
           all_goals (repeat' split)
           all_goals first | rfl | omega | (congr 1 <;> omega) | (exfalso; omega))
