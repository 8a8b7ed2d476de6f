set_option maxHeartbeats 4000000 in
set_option maxRecDepth 100000 in
theorem s_X8_byteAt {G : Gm} {l : Launch} (hK : KG G) {o r : Nat} {A : Nat → Nat} {I Fb : Nat → Int} {k9 : Int} (hFb : ∀ j, -128 ≤ Fb j ∧ Fb j ≤ 127) (h7 : 0 ≤ I 7 ∧ I 7 ≤ 400) (hk : 0 ≤ k9 ∧ k9 < 2147483648) : MD G l yX8_byteAt cX8_byteAt 2 (some .int) 1 0 0 [.ref o, .int (zI k9)] [ob o 10 (shM A r) I, ar G 1 (A 5) 400 400 (Fb)] (some (.int (zI (byt Fb (I 7) k9)))) [ob o 10 (shM A r) I, ar G 1 (A 5) 400 400 (Fb)] := by
  refine MX_of (lv := [some (.ref o), some (.int (zI k9))]) hK (by decide +kernel) rfl (nle rfl) (fun X C F => ?_)
  have C : OKc G X l RX8 "byteAt" cX8_byteAt 2 (some .int) 1 0 0 := C
  refine x_iload_n C eX8_byteAt_0 rfl ?_
  refine x_aload_n C eX8_byteAt_1 rfl ?_
  refine x_getI 0 C f_RX8_158 eX8_byteAt_2 rfl rfl ?_
  refine x_icmp_ge 21 C eX8_byteAt_5 rfl (by omega) (by omega) (fun h5 => ?_) (fun h5 => ?_)
  · refine x_iconst C eX8_byteAt_21 ?_
    refine x_iret (by first | rfl | exact (narZ (by omega)).1) C F eX8_byteAt_22 () ?_ trivial (fun cf c h => ?_) (nle rfl) (nle rfl)
    · first
        | (rw [show byt Fb (I 7) k9 = -1 from if_neg (by omega)])
        | (rw [and255 (hFb _), show byt Fb (I 7) k9 = (if Fb k9.toNat < 0 then Fb k9.toNat + 256 else Fb k9.toNat) from if_pos (by omega)])
    · exact WF_pick [0, 1] rfl rfl h
  · refine x_aload_n C eX8_byteAt_8 rfl ?_
    refine x_getR 0 C f_RX8_30 eX8_byteAt_9 rfl rfl ?_
    refine x_iload_n C eX8_byteAt_12 rfl ?_
    refine x_bald 1 C eX8_byteAt_13 rfl (by decide) (by omega) ?_
    refine x_sipush C eX8_byteAt_14 rfl ?_
    refine x_iandR C eX8_byteAt_17 ?_
    refine x_goto (pc' := 22) C eX8_byteAt_18 rfl ?_
    refine x_iret (by first | rfl | exact (narZ (by omega)).1) C F eX8_byteAt_22 () ?_ trivial (fun cf c h => ?_) (nle rfl) (nle rfl)
    · first
        | (rw [show byt Fb (I 7) k9 = -1 from if_neg (by omega)])
        | (rw [and255 (hFb _), show byt Fb (I 7) k9 = (if Fb k9.toNat < 0 then Fb k9.toNat + 256 else Fb k9.toNat) from if_pos (by omega)])
    · exact WF_pick [0, 1] rfl rfl h

set_option maxHeartbeats 4000000 in
set_option maxRecDepth 100000 in
theorem s_X8_good {G : Gm} {l : Launch} (hK : KG G) {o r : Nat} {A : Nat → Nat} {I : Nat → Int} (h12 : 0 ≤ I 12 ∧ I 12 ≤ 9) : MD G l yX8_good cX8_good 1 (some .boolean) 1 0 0 [.ref o] [ob o 10 (shM A r) I] (some (.int (zI (bz (I 12 = 0))))) [ob o 10 (shM A r) I] := by
  refine MX_of (lv := [some (.ref o)]) hK (by decide +kernel) rfl (nle rfl) (fun X C F => ?_)
  have C : OKc G X l RX8 "good" cX8_good 1 (some .boolean) 1 0 0 := C
  refine x_aload_n C eX8_good_0 rfl ?_
  refine x_getI 0 C f_RX8_149 eX8_good_1 rfl rfl ?_
  refine x_if_ne 11 C eX8_good_4 rfl (by omega) (fun h4 => ?_) (fun h4 => ?_)
  · refine x_iconst C eX8_good_11 ?_
    refine x_iret (narZ (by omega)).1 C F eX8_good_12 () ?_ trivial (fun cf c h => ?_) (nle rfl) (nle rfl)
    · first | rfl | rw [bz_t (by omega)] | rw [bz_f (by omega)]
    · exact WF_pick [0] rfl rfl h
  · refine x_iconst C eX8_good_7 ?_
    refine x_goto (pc' := 12) C eX8_good_8 rfl ?_
    refine x_iret (narZ (by omega)).1 C F eX8_good_12 () ?_ trivial (fun cf c h => ?_) (nle rfl) (nle rfl)
    · first | rfl | rw [bz_t (by omega)] | rw [bz_f (by omega)]
    · exact WF_pick [0] rfl rfl h

set_option maxHeartbeats 4000000 in
set_option maxRecDepth 100000 in
theorem s_X8_errs {G : Gm} {l : Launch} (hK : KG G) {o r : Nat} {A : Nat → Nat} {I : Nat → Int} {c9 : Int} (h12 : 0 ≤ I 12 ∧ I 12 ≤ 9) : MD G l yX8_errs cX8_errs 2 none 2 0 0 [.ref o, .int (zI c9)] [ob o 10 (shM A r) I] none [ob o 10 (shM A r) (errI I c9)] := by
  refine MX_of (lv := [some (.ref o), some (.int (zI c9))]) hK (by decide +kernel) rfl (nle rfl) (fun X C F => ?_)
  have C : OKc G X l RX8 "errs" cX8_errs 2 none 2 0 0 := C
  refine x_aload_n C eX8_errs_0 rfl ?_
  refine yV0r [] [_] C (s_X8_good hK (by (try simp (disch := omega) only [Int.reduceAdd, uN_s, uN_uN, un_s, un_un, un_n, ub_s, ub_n, inc, bStop_n, bDrop_s, bDrop_n, unub_n, nLog_n, nLog_h, Int.sub_add_cancel]); omega)) v_X8_good vv_X8_good s_RX8_152 eX8_errs_1 (fun _ _ h => WF_pick [0] rfl rfl h) (rcv 0 rfl) rfl (nle rfl) (nle rfl) (nle rfl) (nle rfl) rfl ?_
  refine x_ifb_ne 8 C eX8_errs_4 rfl (fun h4 => ?_) (fun h4 => ?_)
  · refine x_aload_n C eX8_errs_8 rfl ?_
    refine x_iload_n C eX8_errs_9 rfl ?_
    refine x_putI [_] 0 C f_RX8_149 eX8_errs_10 rfl rfl rfl ?_
    refine x_aload_n C eX8_errs_13 rfl ?_
    refine x_aload_n C eX8_errs_14 rfl ?_
    refine x_getI 0 C f_RX8_155 eX8_errs_15 rfl rfl ?_
    try simp only [up_lit, if_true, if_false]
    refine x_putI [_] 0 C f_RX8_34 eX8_errs_18 rfl rfl rfl ?_
    refine x_vret C F eX8_errs_21 () rfl trivial (fun cf c h => ?_) (nle rfl) (nle rfl)
    first
      | (rw [show errI I c9 = I from if_neg (by assumption)]; exact WF_pick [0] rfl rfl h)
      | (rw [show errI I c9 = up (up I 12 c9) 13 (I 9) from if_pos (by assumption)]; exact WF_pick [0] rfl rfl h)
  · refine x_vret C F eX8_errs_7 () rfl trivial (fun cf c h => ?_) (nle rfl) (nle rfl)
    first
      | (rw [show errI I c9 = I from if_neg (by assumption)]; exact WF_pick [0] rfl rfl h)
      | (rw [show errI I c9 = up (up I 12 c9) 13 (I 9) from if_pos (by assumption)]; exact WF_pick [0] rfl rfl h)

set_option maxHeartbeats 4000000 in
set_option maxRecDepth 100000 in
theorem s_X8_errsIf {G : Gm} {l : Launch} (hK : KG G) {o r : Nat} {A : Nat → Nat} {I : Nat → Int} (p9 : Prop) [Decidable p9] {v9 c9 : Int} (hv : v9 = bz p9) (h12 : 0 ≤ I 12 ∧ I 12 ≤ 9) : MD G l yX8_errsIf cX8_errsIf 3 none 3 0 0 [.ref o, .int (zI v9), .int (zI c9)] [ob o 10 (shM A r) I] none [ob o 10 (shM A r) (if p9 then errI I c9 else I)] := by
  refine MX_of (lv := [some (.ref o), some (.int (zI v9)), some (.int (zI c9))]) hK (by decide +kernel) rfl (nle rfl) (fun X C F => ?_)
  have C : OKc G X l RX8 "errsIf" cX8_errsIf 3 none 3 0 0 := C
  subst hv
  refine x_aload_n C eX8_errsIf_0 rfl ?_
  refine yV0r [] [_] C (s_X8_good hK (by (try simp (disch := omega) only [Int.reduceAdd, uN_s, uN_uN, un_s, un_un, un_n, ub_s, ub_n, inc, bStop_n, bDrop_s, bDrop_n, unub_n, nLog_n, nLog_h, Int.sub_add_cancel]); omega)) v_X8_good vv_X8_good s_RX8_152 eX8_errsIf_1 (fun _ _ h => WF_pick [0] rfl rfl h) (rcv 0 rfl) rfl (nle rfl) (nle rfl) (nle rfl) (nle rfl) rfl ?_
  refine x_ifb_eq 16 C eX8_errsIf_4 rfl (fun h4 => ?_) (fun h4 => ?_)
  · refine x_vret C F eX8_errsIf_16 () rfl trivial (fun cf c h => ?_) (nle rfl) (nle rfl)
    first
      | (rw [if_pos (by assumption)]; exact WF_pick [0] rfl rfl h)
      | (rw [if_neg (by assumption)]; exact WF_pick [0] rfl rfl h)
      | (rw [show errI I c9 = I from if_neg (by assumption), ite_self]; exact WF_pick [0] rfl rfl h)
  · refine x_iload_n C eX8_errsIf_7 rfl ?_
    refine x_ifb_eq 16 C eX8_errsIf_8 rfl (fun h8 => ?_) (fun h8 => ?_)
    · refine x_vret C F eX8_errsIf_16 () rfl trivial (fun cf c h => ?_) (nle rfl) (nle rfl)
      first
        | (rw [if_pos (by assumption)]; exact WF_pick [0] rfl rfl h)
        | (rw [if_neg (by assumption)]; exact WF_pick [0] rfl rfl h)
        | (rw [show errI I c9 = I from if_neg (by assumption), ite_self]; exact WF_pick [0] rfl rfl h)
    · refine x_aload_n C eX8_errsIf_11 rfl ?_
      refine x_iload_n C eX8_errsIf_12 rfl ?_
      refine yV1v [] [_] C (s_X8_errs hK (by (try simp (disch := omega) only [Int.reduceAdd, uN_s, uN_uN, un_s, un_un, un_n, ub_s, ub_n, inc, bStop_n, bDrop_s, bDrop_n, unub_n, nLog_n, nLog_h, Int.sub_add_cancel]); omega)) v_X8_errs vv_X8_errs s_RX8_194 eX8_errsIf_13 (fun _ _ h => WF_pick [0] rfl rfl h) (rcv 0 rfl) rfl (nle rfl) (nle rfl) (nle rfl) (nle rfl) rfl ?_
      refine x_vret C F eX8_errsIf_16 () rfl trivial (fun cf c h => ?_) (nle rfl) (nle rfl)
      first
        | (rw [if_pos (by assumption)]; exact WF_pick [0] rfl rfl h)
        | (rw [if_neg (by assumption)]; exact WF_pick [0] rfl rfl h)
        | (rw [show errI I c9 = I from if_neg (by assumption), ite_self]; exact WF_pick [0] rfl rfl h)
