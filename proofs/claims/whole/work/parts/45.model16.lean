set_option maxHeartbeats 4000000 in
set_option maxRecDepth 100000 in
theorem s_X8_appendFour {G : Gm} {l : Launch} (hK : KG G) {o r : Nat} {A : Nat → Nat} {I Fb : Nat → Int} {v9 : Int32} {z : Nat} (hz : z + 4 ≤ 400) : MD G l yX8_appendFour cX8_appendFour 3 none 1 0 0 [.ref o, .int v9] [ob o 10 (shM A r) (up I 6 ((z : Int))), ar G 1 (A 5) 400 400 (Fb)] none [ob o 10 (shM A r) (up I 6 (((z + 4 : Nat) : Int))), ar G 1 (A 5) 400 400 (apF Fb z v9 4)] := by
  refine MX_of (lv := [some (.ref o), some (.int v9), none]) hK (by decide +kernel) rfl (nle rfl) (fun X C F => ?_)
  have C : OKc G X l RX8 "appendFour" cX8_appendFour 3 none 1 0 0 := C
  have loop : ∀ (f j : Nat), j ≤ 4 → 4 < j + f → WX G X 0 0 [ob o 10 (shM A r) (up I 6 (((z + j : Nat) : Int))), ar G 1 (A 5) 400 400 (apF Fb z v9 j)] 3 [some (.ref o), some (.int v9), some (.int (zI (24 - 8 * (j : Int))))] [] := by
    intro f
    induction f with
    | zero => intro j h0 h1; exfalso; omega
    | succ f ih =>
      intro j h0 h1
      refine x_iload_n C eX8_appendFour_3 rfl ?_
      refine x_if_lt 36 C eX8_appendFour_4 rfl (by omega) (fun h4 => ?_) (fun h4 => ?_)
      · refine x_vret C F eX8_appendFour_36 () rfl trivial (fun cf c h => ?_) (nle rfl) (nle rfl)
        obtain rfl : j = 4 := by omega
        exact WF_pick [0, 1] rfl rfl h
      · refine x_aload_n C eX8_appendFour_7 rfl ?_
        refine x_getR 0 C f_RX8_30 eX8_appendFour_8 rfl rfl ?_
        refine x_aload_n C eX8_appendFour_11 rfl ?_
        refine x_getI 0 C f_RX8_139 eX8_appendFour_12 rfl rfl ?_
        try simp only [up_lit, if_true, if_false]
        refine x_iload_n C eX8_appendFour_15 rfl ?_
        refine x_iload_n C eX8_appendFour_16 rfl ?_
        refine x_ishrR C eX8_appendFour_17 ?_
        refine x_i2bR C eX8_appendFour_18 ?_
        refine x_bast (x := 0) [_, _] 400 1 C eX8_appendFour_19 rfl (by decide) (by omega) (by omega) rfl ?_
        refine x_aload_n C eX8_appendFour_20 rfl ?_
        refine x_dup C eX8_appendFour_21 rfl ?_
        refine x_getI 0 C f_RX8_139 eX8_appendFour_22 rfl rfl ?_
        try simp only [up_lit, if_true, if_false]
        refine x_iconst C eX8_appendFour_25 ?_
        refine x_iadd C eX8_appendFour_26 ?_
        refine x_putI [_, _] 0 C f_RX8_139 eX8_appendFour_27 rfl rfl rfl ?_
        refine x_iinc [_, _, _] C eX8_appendFour_30 rfl rfl rfl ?_
        refine x_goto (pc' := 3) C eX8_appendFour_33 rfl ?_
        have h3 := ih (j + 1) (by omega) (by omega)
        rw [show 24 - 8 * (j : Int) + -8 = 24 - 8 * ((j + 1 : Nat) : Int) by omega]
        refine x_ws _ (fun cf c hw => PW.wf (PW_cons (fun _ h => ob_congr (I' := up I 6 ((z + (j + 1) : Nat) : Int)) (fun i _ => ?_) h) (PW_cons (fun _ h => h) PW_nil)) hw) h3
        simp only [up_lit]
        split
        · rw [show z + (j + 1) = z + j + 1 by omega]; rfl
        · rfl
  refine x_bipush C eX8_appendFour_0 rfl ?_
  refine x_istore_n [_, _, _] C eX8_appendFour_2 rfl rfl (nlt rfl) ?_
  exact loop 5 0 (by omega) (by omega)

set_option maxHeartbeats 4000000 in
set_option maxRecDepth 100000 in
theorem s_X8_append {G : Gm} {l : Launch} (hK : KG G) {o r : Nat} {A : Nat → Nat} {I Fb : Nat → Int} {a9 b9 c9 d9 e9 : Int32} (h6 : 0 ≤ I 6 ∧ I 6 ≤ 400) : MD G l yX8_append cX8_append 6 (some .int) 3 0 0 [.ref o, .int a9, .int b9, .int c9, .int d9, .int e9] [ob o 10 (shM A r) I, ar G 1 (A 5) 400 400 (Fb)] (some (.int (zI (if (I 6 + 20 ≤ 400) ∧ (True) ∧ (True) then I 6 + 20 else 0)))) [ob o 10 (shM A r) (if (I 6 + 20 ≤ 400) ∧ (True) ∧ (True) then up (up I 0 (thr (I 6 + 20 ≤ 400) (True) (True))) 6 (I 6 + 20) else up I 0 (thr (I 6 + 20 ≤ 400) (True) (True))), ar G 1 (A 5) 400 400 (if (I 6 + 20 ≤ 400) ∧ (True) ∧ (True) then ap5 Fb (I 6).toNat a9 b9 c9 d9 e9 else Fb)] := by
  refine MX_of (lv := [some (.ref o), some (.int a9), some (.int b9), some (.int c9), some (.int d9), some (.int e9)]) hK (by decide +kernel) rfl (nle rfl) (fun X C F => ?_)
  have C : OKc G X l RX8 "append" cX8_append 6 (some .int) 3 0 0 := C
  refine x_aload_n C eX8_append_0 rfl ?_
  refine x_aload_n C eX8_append_1 rfl ?_
  refine x_getI 0 C f_RX8_139 eX8_append_2 rfl rfl ?_
  refine x_bipush C eX8_append_5 rfl ?_
  refine x_iadd C eX8_append_7 ?_
  refine x_sipush C eX8_append_8 rfl ?_
  refine x_icmp_gt 18 C eX8_append_11 rfl (by omega) (by omega) (fun h11 => ?_) (fun h11 => ?_)
  · refine x_iconst C eX8_append_18 ?_
    refine yV1r [_] [_, _] C (s_X8_passesv hK (I 6 + 20 ≤ 400) (by first | rfl | rw [bz_t (by omega)] | rw [bz_f (by omega)])) v_X8_passes vv_X8_passes s_RX8_142 eX8_append_19 (fun _ _ h => WF_pick [0, 1] rfl rfl h) (rcv 0 rfl) rfl (nle rfl) (nle rfl) (nle rfl) (nle rfl) rfl ?_
    skip
    refine x_ifb_ne 27 C eX8_append_22 rfl (fun h22 => ?_) (fun h22 => ?_)
    · obtain ⟨z, hz⟩ : ∃ z : Nat, I 6 = (z : Int) := ⟨(I 6).toNat, by omega⟩
      rw [← up_eq (J := up I 0 (thr (I 6 + 20 ≤ 400) (True) (True))) (k := 6) (x := (z : Int)) hz]
      refine x_aload_n C eX8_append_27 rfl ?_
      refine x_iload_n C eX8_append_28 rfl ?_
      refine yV1v [] [_, _] C (s_X8_appendFour hK (by (try simp (disch := omega) only [Int.reduceAdd, uN_s, uN_uN, un_s, un_un, un_n, ub_s, ub_n, inc, bStop_n, bDrop_s, bDrop_n, unub_n, nLog_n, nLog_h, Int.sub_add_cancel]); omega)) v_X8_appendFour vv_X8_appendFour s_RX8_146 eX8_append_29 (fun _ _ h => WF_pick [0, 1] rfl rfl h) (rcv 0 rfl) rfl (nle rfl) (nle rfl) (nle rfl) (nle rfl) rfl ?_
      refine x_aload_n C eX8_append_32 rfl ?_
      refine x_iload_n C eX8_append_33 rfl ?_
      refine yV1v [] [_, _] C (s_X8_appendFour hK (by (try simp (disch := omega) only [Int.reduceAdd, uN_s, uN_uN, un_s, un_un, un_n, ub_s, ub_n, inc, bStop_n, bDrop_s, bDrop_n, unub_n, nLog_n, nLog_h, Int.sub_add_cancel]); omega)) v_X8_appendFour vv_X8_appendFour s_RX8_146 eX8_append_34 (fun _ _ h => WF_pick [0, 1] rfl rfl h) (rcv 0 rfl) rfl (nle rfl) (nle rfl) (nle rfl) (nle rfl) rfl ?_
      refine x_aload_n C eX8_append_37 rfl ?_
      refine x_iload_n C eX8_append_38 rfl ?_
      refine yV1v [] [_, _] C (s_X8_appendFour hK (by (try simp (disch := omega) only [Int.reduceAdd, uN_s, uN_uN, un_s, un_un, un_n, ub_s, ub_n, inc, bStop_n, bDrop_s, bDrop_n, unub_n, nLog_n, nLog_h, Int.sub_add_cancel]); omega)) v_X8_appendFour vv_X8_appendFour s_RX8_146 eX8_append_39 (fun _ _ h => WF_pick [0, 1] rfl rfl h) (rcv 0 rfl) rfl (nle rfl) (nle rfl) (nle rfl) (nle rfl) rfl ?_
      refine x_aload_n C eX8_append_42 rfl ?_
      refine x_iload C eX8_append_43 rfl ?_
      refine yV1v [] [_, _] C (s_X8_appendFour hK (by (try simp (disch := omega) only [Int.reduceAdd, uN_s, uN_uN, un_s, un_un, un_n, ub_s, ub_n, inc, bStop_n, bDrop_s, bDrop_n, unub_n, nLog_n, nLog_h, Int.sub_add_cancel]); omega)) v_X8_appendFour vv_X8_appendFour s_RX8_146 eX8_append_45 (fun _ _ h => WF_pick [0, 1] rfl rfl h) (rcv 0 rfl) rfl (nle rfl) (nle rfl) (nle rfl) (nle rfl) rfl ?_
      refine x_aload_n C eX8_append_48 rfl ?_
      refine x_iload C eX8_append_49 rfl ?_
      refine yV1v [] [_, _] C (s_X8_appendFour hK (by (try simp (disch := omega) only [Int.reduceAdd, uN_s, uN_uN, un_s, un_un, un_n, ub_s, ub_n, inc, bStop_n, bDrop_s, bDrop_n, unub_n, nLog_n, nLog_h, Int.sub_add_cancel]); omega)) v_X8_appendFour vv_X8_appendFour s_RX8_146 eX8_append_51 (fun _ _ h => WF_pick [0, 1] rfl rfl h) (rcv 0 rfl) rfl (nle rfl) (nle rfl) (nle rfl) (nle rfl) rfl ?_
      refine x_aload_n C eX8_append_54 rfl ?_
      refine x_getI 0 C f_RX8_139 eX8_append_55 rfl rfl ?_
      try simp only [up_lit, if_true, if_false]
      refine x_iret (by first | rfl | exact (narZ (by omega)).1) C F eX8_append_58 () ?_ trivial (fun cf c h => ?_) (nle rfl) (nle rfl)
      · rw [if_pos h22, hz]
        rfl
      · rw [if_pos h22, if_pos h22, show (I 6).toNat = z by omega]
        rw [show ((z + 4 + 4 + 4 + 4 + 4 : Nat) : Int) = I 6 + 20 by omega] at h
        exact WF_pick [0, 1] rfl rfl h
    · refine x_iconst C eX8_append_25 ?_
      refine x_iret (by first | rfl | exact (narZ (by omega)).1) C F eX8_append_26 () ?_ trivial (fun cf c h => ?_) (nle rfl) (nle rfl)
      · rw [if_neg h22]
      · rw [if_neg h22, if_neg h22]
        exact WF_pick [0, 1] rfl rfl h
  · refine x_iconst C eX8_append_14 ?_
    refine x_goto (pc' := 19) C eX8_append_15 rfl ?_
    refine yV1r [_] [_, _] C (s_X8_passesv hK (I 6 + 20 ≤ 400) (by first | rfl | rw [bz_t (by omega)] | rw [bz_f (by omega)])) v_X8_passes vv_X8_passes s_RX8_142 eX8_append_19 (fun _ _ h => WF_pick [0, 1] rfl rfl h) (rcv 0 rfl) rfl (nle rfl) (nle rfl) (nle rfl) (nle rfl) rfl ?_
    skip
    refine x_ifb_ne 27 C eX8_append_22 rfl (fun h22 => ?_) (fun h22 => ?_)
    · obtain ⟨z, hz⟩ : ∃ z : Nat, I 6 = (z : Int) := ⟨(I 6).toNat, by omega⟩
      rw [← up_eq (J := up I 0 (thr (I 6 + 20 ≤ 400) (True) (True))) (k := 6) (x := (z : Int)) hz]
      refine x_aload_n C eX8_append_27 rfl ?_
      refine x_iload_n C eX8_append_28 rfl ?_
      refine yV1v [] [_, _] C (s_X8_appendFour hK (by (try simp (disch := omega) only [Int.reduceAdd, uN_s, uN_uN, un_s, un_un, un_n, ub_s, ub_n, inc, bStop_n, bDrop_s, bDrop_n, unub_n, nLog_n, nLog_h, Int.sub_add_cancel]); omega)) v_X8_appendFour vv_X8_appendFour s_RX8_146 eX8_append_29 (fun _ _ h => WF_pick [0, 1] rfl rfl h) (rcv 0 rfl) rfl (nle rfl) (nle rfl) (nle rfl) (nle rfl) rfl ?_
      refine x_aload_n C eX8_append_32 rfl ?_
      refine x_iload_n C eX8_append_33 rfl ?_
      refine yV1v [] [_, _] C (s_X8_appendFour hK (by (try simp (disch := omega) only [Int.reduceAdd, uN_s, uN_uN, un_s, un_un, un_n, ub_s, ub_n, inc, bStop_n, bDrop_s, bDrop_n, unub_n, nLog_n, nLog_h, Int.sub_add_cancel]); omega)) v_X8_appendFour vv_X8_appendFour s_RX8_146 eX8_append_34 (fun _ _ h => WF_pick [0, 1] rfl rfl h) (rcv 0 rfl) rfl (nle rfl) (nle rfl) (nle rfl) (nle rfl) rfl ?_
      refine x_aload_n C eX8_append_37 rfl ?_
      refine x_iload_n C eX8_append_38 rfl ?_
      refine yV1v [] [_, _] C (s_X8_appendFour hK (by (try simp (disch := omega) only [Int.reduceAdd, uN_s, uN_uN, un_s, un_un, un_n, ub_s, ub_n, inc, bStop_n, bDrop_s, bDrop_n, unub_n, nLog_n, nLog_h, Int.sub_add_cancel]); omega)) v_X8_appendFour vv_X8_appendFour s_RX8_146 eX8_append_39 (fun _ _ h => WF_pick [0, 1] rfl rfl h) (rcv 0 rfl) rfl (nle rfl) (nle rfl) (nle rfl) (nle rfl) rfl ?_
      refine x_aload_n C eX8_append_42 rfl ?_
      refine x_iload C eX8_append_43 rfl ?_
      refine yV1v [] [_, _] C (s_X8_appendFour hK (by (try simp (disch := omega) only [Int.reduceAdd, uN_s, uN_uN, un_s, un_un, un_n, ub_s, ub_n, inc, bStop_n, bDrop_s, bDrop_n, unub_n, nLog_n, nLog_h, Int.sub_add_cancel]); omega)) v_X8_appendFour vv_X8_appendFour s_RX8_146 eX8_append_45 (fun _ _ h => WF_pick [0, 1] rfl rfl h) (rcv 0 rfl) rfl (nle rfl) (nle rfl) (nle rfl) (nle rfl) rfl ?_
      refine x_aload_n C eX8_append_48 rfl ?_
      refine x_iload C eX8_append_49 rfl ?_
      refine yV1v [] [_, _] C (s_X8_appendFour hK (by (try simp (disch := omega) only [Int.reduceAdd, uN_s, uN_uN, un_s, un_un, un_n, ub_s, ub_n, inc, bStop_n, bDrop_s, bDrop_n, unub_n, nLog_n, nLog_h, Int.sub_add_cancel]); omega)) v_X8_appendFour vv_X8_appendFour s_RX8_146 eX8_append_51 (fun _ _ h => WF_pick [0, 1] rfl rfl h) (rcv 0 rfl) rfl (nle rfl) (nle rfl) (nle rfl) (nle rfl) rfl ?_
      refine x_aload_n C eX8_append_54 rfl ?_
      refine x_getI 0 C f_RX8_139 eX8_append_55 rfl rfl ?_
      try simp only [up_lit, if_true, if_false]
      refine x_iret (by first | rfl | exact (narZ (by omega)).1) C F eX8_append_58 () ?_ trivial (fun cf c h => ?_) (nle rfl) (nle rfl)
      · rw [if_pos h22, hz]
        rfl
      · rw [if_pos h22, if_pos h22, show (I 6).toNat = z by omega]
        rw [show ((z + 4 + 4 + 4 + 4 + 4 : Nat) : Int) = I 6 + 20 by omega] at h
        exact WF_pick [0, 1] rfl rfl h
    · refine x_iconst C eX8_append_25 ?_
      refine x_iret (by first | rfl | exact (narZ (by omega)).1) C F eX8_append_26 () ?_ trivial (fun cf c h => ?_) (nle rfl) (nle rfl)
      · rw [if_neg h22]
      · rw [if_neg h22, if_neg h22]
        exact WF_pick [0, 1] rfl rfl h

set_option maxHeartbeats 4000000 in
set_option maxRecDepth 100000 in
theorem s_X8_nameOf {G : Gm} {l : Launch} (hK : KG G) {a s m : Nat} {Fb : Nat → Int} (hs : s + m ≤ 400) : MD G l yX8_nameOf cX8_nameOf 5 (some .int) 1 0 0 [.ref a, .int (zI (s : Int)), .int (zI ((s + m : Nat) : Int))] [ar G 1 a 400 400 Fb] (some (.int (zI (nmF Fb s m)))) [ar G 1 a 400 400 Fb] := by
  refine MX_of (lv := [some (.ref a), some (.int (zI (s : Int))), some (.int (zI ((s + m : Nat) : Int))), none, none]) hK (by decide +kernel) rfl (nle rfl) (fun X C F => ?_)
  have C : OKc G X l RX8 "nameOf" cX8_nameOf 5 (some .int) 1 0 0 := C
  have loop : ∀ (f k : Nat), k ≤ m → m < k + f → WX G X 0 0 [ar G 1 a 400 400 Fb] 5 [some (.ref a), some (.int (zI (s : Int))), some (.int (zI ((s + m : Nat) : Int))), some (.int (zI (nmF Fb s k))), some (.int (zI ((s + k : Nat) : Int)))] [] := by
    intro f
    induction f with
    | zero => intro k h0 h1; exfalso; omega
    | succ f ih =>
      intro k h0 h1
      refine x_iload C eX8_nameOf_5 rfl ?_
      refine x_iload_n C eX8_nameOf_7 rfl ?_
      refine x_icmp_ge 30 C eX8_nameOf_8 rfl (by omega) (by omega) (fun h8 => ?_) (fun h8 => ?_)
      · refine x_iload_n C eX8_nameOf_30 rfl ?_
        refine x_iret (by first | rfl | exact (narZ (by omega)).1) C F eX8_nameOf_31 () ?_ trivial (fun cf c h => ?_) (nle rfl) (nle rfl)
        · rw [show m = k by omega]
        · exact WF_pick [0] rfl rfl h
      · refine x_bipush C eX8_nameOf_11 rfl ?_
        refine x_iload_n C eX8_nameOf_13 rfl ?_
        refine x_imul C eX8_nameOf_14 ?_
        refine x_aload_n C eX8_nameOf_15 rfl ?_
        refine x_iload C eX8_nameOf_16 rfl ?_
        refine x_bald 0 C eX8_nameOf_18 rfl (by decide) (by omega) ?_
        refine x_iadd C eX8_nameOf_19 ?_
        refine x_bipush C eX8_nameOf_20 rfl ?_
        refine x_isub C eX8_nameOf_22 ?_
        refine x_istore_n [_, _, _, _, _] C eX8_nameOf_23 rfl rfl (nlt rfl) ?_
        refine x_iinc [_, _, _, _, _] C eX8_nameOf_24 rfl rfl rfl ?_
        refine x_goto (pc' := 5) C eX8_nameOf_27 rfl ?_
        rw [Int.toNat_natCast]
        exact ih (k + 1) (by omega) (by omega)
  refine x_iconst C eX8_nameOf_0 ?_
  refine x_istore_n [_, _, _, _, _] C eX8_nameOf_1 rfl rfl (nlt rfl) ?_
  refine x_iload_n C eX8_nameOf_2 rfl ?_
  refine x_istore [_, _, _, _, _] C eX8_nameOf_3 rfl rfl (nlt rfl) ?_
  exact loop (m + 1) 0 (by omega) (by omega)

set_option maxHeartbeats 4000000 in
set_option maxRecDepth 100000 in
theorem s_X8_lineNamed {G : Gm} {l : Launch} (hK : KG G) {o r : Nat} {A : Nat → Nat} {I : Nat → Int} {N : Nat → Net} {n : Net} {v9 : Int} (hr : rok r) (hn : 0 ≤ n (-1) 0 ∧ n (-1) 0 ≤ 6) (hv : -2147483648 ≤ v9 ∧ v9 < 2147483648) (hm : ∀ k : Int, 0 ≤ k → k < n (-1) 0 → 0 ≤ n k 0 ∧ n k 0 < 387420489) : MD G l yX8_lineNamed cX8_lineNamed 3 (some .int) 2 0 0 [.ref o, .int (zI v9)] [ob o 10 (shM A r) I, fam G A (uN N r n)] (some (.int (zI (lnN n v9)))) [ob o 10 (shM A r) I, fam G A (uN N r n)] := by
  refine MX_of (lv := [some (.ref o), some (.int (zI v9)), none]) hK (by decide +kernel) rfl (nle rfl) (fun X C F => ?_)
  have C : OKc G X l RX8 "lineNamed" cX8_lineNamed 3 (some .int) 2 0 0 := C
  have loop : ∀ (f j k : Nat), j < f → (k : Int) + j = n (-1) 0 → srch (fun k => decide (0 < v9 ∧ n k 0 = v9)) j k = lnN n v9 → WX G X 0 0 [ob o 10 (shM A r) I, fam G A (uN N r (n))] 2 [some (.ref o), some (.int (zI v9)), some (.int (zI k))] [] := by
    intro f
    induction f with
    | zero => intro j k h0; exfalso; omega
    | succ f ih =>
      intro j k h0 h1 h2
      refine x_iload_n C eX8_lineNamed_2 rfl ?_
      refine x_aload_n C eX8_lineNamed_3 rfl ?_
      refine yV0r [] [_, _] C (s_X8_lines hK hr) v_X8_lines vv_X8_lines s_RX8_68 eX8_lineNamed_4 (fun _ _ h => WF_pick [0, 1] rfl rfl h) (rcv 0 rfl) rfl (nle rfl) (nle rfl) (nle rfl) (nle rfl) rfl ?_
      skip
      refine x_icmp_ge 32 C eX8_lineNamed_7 rfl (by omega) (by omega) (fun h7 => ?_) (fun h7 => ?_)
      · refine x_iconst C eX8_lineNamed_32 ?_
        refine x_iret (by first | rfl | exact (narZ (by omega)).1) C F eX8_lineNamed_33 () ?_ trivial (fun cf c h => ?_) (nle rfl) (nle rfl)
        · rw [← h2, show j = 0 by omega]
          rfl
        · exact WF_pick [0, 1] rfl rfl h
      · obtain ⟨j', rfl⟩ : ∃ j', j = j' + 1 := ⟨j - 1, by omega⟩
        have hm9 := hm k (by omega) (by omega)
        refine x_iload_n C eX8_lineNamed_10 rfl ?_
        refine x_if_le 26 C eX8_lineNamed_11 rfl (by omega) (fun h11 => ?_) (fun h11 => ?_)
        · refine x_iinc [_, _, _] C eX8_lineNamed_26 rfl rfl rfl ?_
          refine x_goto (pc' := 2) C eX8_lineNamed_29 rfl ?_
          exact ih j' (k + 1) (by omega) (by omega) (by rw [← h2]; exact (if_neg (by rw [decide_eq_true_iff]; omega)).symm)
        · refine x_aload_n C eX8_lineNamed_14 rfl ?_
          refine x_iload_n C eX8_lineNamed_15 rfl ?_
          refine x_iconst C eX8_lineNamed_16 ?_
          refine yV2r [] [_, _] C (s_X8_of hK hr (by omega) (by omega)) v_X8_of vv_X8_of s_RX8_64 eX8_lineNamed_17 (fun _ _ h => WF_pick [0, 1] rfl rfl h) (rcv 0 rfl) rfl (nle rfl) (nle rfl) (nle rfl) (nle rfl) rfl ?_
          skip
          refine x_iload_n C eX8_lineNamed_20 rfl ?_
          refine x_icmp_ne 26 C eX8_lineNamed_21 rfl (by omega) (by omega) (fun h21 => ?_) (fun h21 => ?_)
          · refine x_iinc [_, _, _] C eX8_lineNamed_26 rfl rfl rfl ?_
            refine x_goto (pc' := 2) C eX8_lineNamed_29 rfl ?_
            exact ih j' (k + 1) (by omega) (by omega) (by rw [← h2]; exact (if_neg (by rw [decide_eq_true_iff]; omega)).symm)
          · refine x_iload_n C eX8_lineNamed_24 rfl ?_
            refine x_iret (by first | rfl | exact (narZ (by omega)).1) C F eX8_lineNamed_25 () ?_ trivial (fun cf c h => ?_) (nle rfl) (nle rfl)
            · rw [← h2, show srch (fun k => decide (0 < v9 ∧ n k 0 = v9)) (j' + 1) k = k from if_pos (by rw [decide_eq_true_iff]; omega)]
            · exact WF_pick [0, 1] rfl rfl h
  refine x_iconst C eX8_lineNamed_0 ?_
  refine x_istore_n [_, _, _] C eX8_lineNamed_1 rfl rfl (nlt rfl) ?_
  exact loop 20 (n (-1) 0).toNat 0 (by omega) (by omega) rfl
