set_option maxHeartbeats 4000000 in
set_option maxRecDepth 100000 in
theorem s_X8_setPaused {G : Gm} {l : Launch} (hK : KG G) {o : Nat} {A : Nat → Nat} {I : Nat → Int} {N : Nat → Net} {n : Net} {b : Int} {l9 : Int} {P : Nat → Net} (p9 : Prop) [Decidable p9] (hN : NetOk b n) (hb : b ≤ 900000000) (r_l9 : -2147483648 ≤ l9 ∧ l9 < 2147483648) (h20 : 0 ≤ I 20 ∧ I 20 ≤ 6) : MD G l yX8_setPaused cX8_setPaused 3 (some .boolean) 3 0 0 [.ref o, .int (zI l9), .int (zI (bz p9))] [ob o 10 (shM A 1) I, fam G A (uN N 1 (n)), ar G 0 (A 19) 10896 10896 (encM (P))] (some (.int (zI (bz (((0 ≤ l9 ∧ l9 ≤ n (-1) 0 - 1) ∧ (True) ∧ (True)) ∧ n l9 11 = 1))))) [ob o 10 (shM A 1) (if (0 ≤ l9 ∧ l9 ≤ n (-1) 0 - 1) ∧ (True) ∧ (True) then up (up I 0 (thr (0 ≤ l9 ∧ l9 ≤ n (-1) 0 - 1) (True) (True))) 20 (rmR (I 20)) else up I 0 (thr (0 ≤ l9 ∧ l9 ≤ n (-1) 0 - 1) (True) (True))), fam G A (uN N 1 (if (0 ≤ l9 ∧ l9 ≤ n (-1) 0 - 1) ∧ (True) ∧ (True) then un n l9 (ub (n l9) 11 (bz p9)) else n)), ar G 0 (A 19) 10896 10896 (encM (if (0 ≤ l9 ∧ l9 ≤ n (-1) 0 - 1) ∧ (True) ∧ (True) then rmP (I 20) P n else P))] := by
  refine MX_of (lv := [some (.ref o), some (.int (zI l9)), some (.int (zI (bz p9)))]) hK (by decide +kernel) rfl (nle rfl) (fun X C F => ?_)
  have C : OKc G X l RX8 "setPaused" cX8_setPaused 3 (some .boolean) 3 0 0 := C
  have hH := hN.1
  unfold HeadOk at hH
  have hr : rok 1 := Or.inl rfl
  refine x_aload_n C eX8_setPaused_0 rfl ?_
  refine x_aload_n C eX8_setPaused_1 rfl ?_
  refine x_iload_n C eX8_setPaused_2 rfl ?_
  refine yV1r [_] [_, _, _] C (s_X8_isLine hK hr (by (try simp (disch := omega) only [Int.reduceAdd, uN_s, uN_uN, un_s, un_un, un_n, ub_s, ub_n, inc, bStop_n, bDrop_s, bDrop_n, unub_n, nLog_n, nLog_h, Int.sub_add_cancel]); omega) (by (try simp (disch := omega) only [Int.reduceAdd, uN_s, uN_uN, un_s, un_un, un_n, ub_s, ub_n, inc, bStop_n, bDrop_s, bDrop_n, unub_n, nLog_n, nLog_h, Int.sub_add_cancel]); omega)) v_X8_isLine vv_X8_isLine s_RX8_299 eX8_setPaused_3 (fun _ _ h => WF_pick [0, 1, 2] rfl rfl h) (rcv 0 rfl) rfl (nle rfl) (nle rfl) (nle rfl) (nle rfl) rfl ?_
  refine yV1r [_, _] [_, _, _] C (s_X8_passesv hK (0 ≤ l9 ∧ l9 ≤ n (-1) 0 - 1) (by first | rfl | rw [bz_t (by omega)] | rw [bz_f (by omega)])) v_X8_passes vv_X8_passes s_RX8_142 eX8_setPaused_6 (fun _ _ h => WF_pick [0, 1, 2] rfl rfl h) (rcv 0 rfl) rfl (nle rfl) (nle rfl) (nle rfl) (nle rfl) rfl ?_
  skip
  refine x_ifb_eq 36 C eX8_setPaused_9 rfl (fun h9 => ?_) (fun h9 => ?_)
  · refine x_iconst C eX8_setPaused_36 ?_
    refine x_iret (narZ (by omega)).1 C F eX8_setPaused_37 () ?_ trivial (fun cf c h => ?_) (nle rfl) (nle rfl)
    · first
        | rw [bz_t (show _ ∧ _ from ⟨h9, by assumption⟩)]
        | rw [bz_f (fun z => absurd z.1 (by assumption))]
        | rw [bz_f (fun z => absurd z.2 (by assumption))]
    · first
        | (rw [if_neg h9, if_neg h9, if_neg h9]; exact WF_pick [0, 1, 2] rfl rfl h)
        | (rw [if_pos h9, if_pos h9, if_pos h9, bz_t (by assumption)]; exact WF_pick [0, 1, 2] rfl rfl h)
        | (rw [if_pos h9, if_pos h9, if_pos h9, bz_f (by assumption)]; exact WF_pick [0, 1, 2] rfl rfl h)
  · have hL := hN.2.2 l9 (by omega) (by omega)
    unfold LineOk at hL
    refine x_aload_n C eX8_setPaused_12 rfl ?_
    refine x_iload_n C eX8_setPaused_13 rfl ?_
    refine x_bipush C eX8_setPaused_14 rfl ?_
    refine x_iload_n C eX8_setPaused_16 rfl ?_
    refine x_ifb_eq 24 C eX8_setPaused_17 rfl (fun h17 => ?_) (fun h17 => ?_)
    · refine x_iconst C eX8_setPaused_24 ?_
      refine yV3r [] [_, _, _] C (s_X8_becomes hK (by exact h20) (by (try simp (disch := omega) only [Int.reduceAdd, uN_s, uN_uN, un_s, un_un, un_n, ub_s, ub_n, inc, bStop_n, bDrop_s, bDrop_n, unub_n, nLog_n, nLog_h, Int.sub_add_cancel]); omega) (by (try simp (disch := omega) only [Int.reduceAdd, uN_s, uN_uN, un_s, un_un, un_n, ub_s, ub_n, inc, bStop_n, bDrop_s, bDrop_n, unub_n, nLog_n, nLog_h, Int.sub_add_cancel]); omega)) v_X8_becomes vv_X8_becomes s_RX8_355 eX8_setPaused_25 (fun _ _ h => WF_pick [0, 1, 2] rfl rfl h) (rcv 0 rfl) rfl (nle rfl) (nle rfl) (nle rfl) (nle rfl) rfl ?_
      try simp only [show ∀ t, up I 0 t 20 = I 20 from fun _ => rfl]
      refine x_iconst C eX8_setPaused_28 ?_
      refine x_icmp_ne 36 C eX8_setPaused_29 rfl (by omega) (by omega) (fun h29 => ?_) (fun h29 => ?_)
      · refine x_iconst C eX8_setPaused_36 ?_
        refine x_iret (narZ (by omega)).1 C F eX8_setPaused_37 () ?_ trivial (fun cf c h => ?_) (nle rfl) (nle rfl)
        · first
            | rw [bz_t (show _ ∧ _ from ⟨h9, by assumption⟩)]
            | rw [bz_f (fun z => absurd z.1 (by assumption))]
            | rw [bz_f (fun z => absurd z.2 (by assumption))]
        · first
            | (rw [if_neg h9, if_neg h9, if_neg h9]; exact WF_pick [0, 1, 2] rfl rfl h)
            | (rw [if_pos h9, if_pos h9, if_pos h9, bz_t (by assumption)]; exact WF_pick [0, 1, 2] rfl rfl h)
            | (rw [if_pos h9, if_pos h9, if_pos h9, bz_f (by assumption)]; exact WF_pick [0, 1, 2] rfl rfl h)
      · refine x_iconst C eX8_setPaused_32 ?_
        refine x_goto (pc' := 37) C eX8_setPaused_33 rfl ?_
        refine x_iret (narZ (by omega)).1 C F eX8_setPaused_37 () ?_ trivial (fun cf c h => ?_) (nle rfl) (nle rfl)
        · first
            | rw [bz_t (show _ ∧ _ from ⟨h9, by assumption⟩)]
            | rw [bz_f (fun z => absurd z.1 (by assumption))]
            | rw [bz_f (fun z => absurd z.2 (by assumption))]
        · first
            | (rw [if_neg h9, if_neg h9, if_neg h9]; exact WF_pick [0, 1, 2] rfl rfl h)
            | (rw [if_pos h9, if_pos h9, if_pos h9, bz_t (by assumption)]; exact WF_pick [0, 1, 2] rfl rfl h)
            | (rw [if_pos h9, if_pos h9, if_pos h9, bz_f (by assumption)]; exact WF_pick [0, 1, 2] rfl rfl h)
    · refine x_iconst C eX8_setPaused_20 ?_
      refine x_goto (pc' := 25) C eX8_setPaused_21 rfl ?_
      refine yV3r [] [_, _, _] C (s_X8_becomes hK (by exact h20) (by (try simp (disch := omega) only [Int.reduceAdd, uN_s, uN_uN, un_s, un_un, un_n, ub_s, ub_n, inc, bStop_n, bDrop_s, bDrop_n, unub_n, nLog_n, nLog_h, Int.sub_add_cancel]); omega) (by (try simp (disch := omega) only [Int.reduceAdd, uN_s, uN_uN, un_s, un_un, un_n, ub_s, ub_n, inc, bStop_n, bDrop_s, bDrop_n, unub_n, nLog_n, nLog_h, Int.sub_add_cancel]); omega)) v_X8_becomes vv_X8_becomes s_RX8_355 eX8_setPaused_25 (fun _ _ h => WF_pick [0, 1, 2] rfl rfl h) (rcv 0 rfl) rfl (nle rfl) (nle rfl) (nle rfl) (nle rfl) rfl ?_
      try simp only [show ∀ t, up I 0 t 20 = I 20 from fun _ => rfl]
      refine x_iconst C eX8_setPaused_28 ?_
      refine x_icmp_ne 36 C eX8_setPaused_29 rfl (by omega) (by omega) (fun h29 => ?_) (fun h29 => ?_)
      · refine x_iconst C eX8_setPaused_36 ?_
        refine x_iret (narZ (by omega)).1 C F eX8_setPaused_37 () ?_ trivial (fun cf c h => ?_) (nle rfl) (nle rfl)
        · first
            | rw [bz_t (show _ ∧ _ from ⟨h9, by assumption⟩)]
            | rw [bz_f (fun z => absurd z.1 (by assumption))]
            | rw [bz_f (fun z => absurd z.2 (by assumption))]
        · first
            | (rw [if_neg h9, if_neg h9, if_neg h9]; exact WF_pick [0, 1, 2] rfl rfl h)
            | (rw [if_pos h9, if_pos h9, if_pos h9, bz_t (by assumption)]; exact WF_pick [0, 1, 2] rfl rfl h)
            | (rw [if_pos h9, if_pos h9, if_pos h9, bz_f (by assumption)]; exact WF_pick [0, 1, 2] rfl rfl h)
      · refine x_iconst C eX8_setPaused_32 ?_
        refine x_goto (pc' := 37) C eX8_setPaused_33 rfl ?_
        refine x_iret (narZ (by omega)).1 C F eX8_setPaused_37 () ?_ trivial (fun cf c h => ?_) (nle rfl) (nle rfl)
        · first
            | rw [bz_t (show _ ∧ _ from ⟨h9, by assumption⟩)]
            | rw [bz_f (fun z => absurd z.1 (by assumption))]
            | rw [bz_f (fun z => absurd z.2 (by assumption))]
        · first
            | (rw [if_neg h9, if_neg h9, if_neg h9]; exact WF_pick [0, 1, 2] rfl rfl h)
            | (rw [if_pos h9, if_pos h9, if_pos h9, bz_t (by assumption)]; exact WF_pick [0, 1, 2] rfl rfl h)
            | (rw [if_pos h9, if_pos h9, if_pos h9, bz_f (by assumption)]; exact WF_pick [0, 1, 2] rfl rfl h)

set_option maxHeartbeats 4000000 in
set_option maxRecDepth 100000 in
theorem s_X8_setMarks {G : Gm} {l : Launch} (hK : KG G) {o : Nat} {A : Nat → Nat} {I : Nat → Int} {N : Nat → Net} {n : Net} {b : Int} {l9 a9 c9 : Int} {P : Nat → Net} (hN : NetOk b n) (hb : b ≤ 900000000) (r_l9 : -2147483648 ≤ l9 ∧ l9 < 2147483648) (r_a9 : -2147483648 ≤ a9 ∧ a9 < 2147483648) (r_c9 : -2147483648 ≤ c9 ∧ c9 < 2147483648) (h20 : 0 ≤ I 20 ∧ I 20 ≤ 6) : MD G l yX8_setMarks cX8_setMarks 7 (some .int) 5 0 0 [.ref o, .int (zI l9), .int (zI a9), .int (zI c9)] [ob o 10 (shM A 1) I, fam G A (uN N 1 (n)), ar G 0 (A 19) 10896 10896 (encM (P))] (some (.int (zI (if (0 ≤ l9 ∧ l9 ≤ n (-1) 0 - 1) ∧ ((0 ≤ l9 ∧ l9 ≤ n (-1) 0 - 1) ∧ (0 ≤ a9 ∧ a9 ≤ n l9 1 - 1) ∧ a9 + 1 ≤ c9 ∧ c9 ≤ n l9 1) ∧ (True) then 100 * n l9 2 + n l9 3 else 0)))) [ob o 10 (shM A 1) (if (0 ≤ l9 ∧ l9 ≤ n (-1) 0 - 1) ∧ ((0 ≤ l9 ∧ l9 ≤ n (-1) 0 - 1) ∧ (0 ≤ a9 ∧ a9 ≤ n l9 1 - 1) ∧ a9 + 1 ≤ c9 ∧ c9 ≤ n l9 1) ∧ (True) then up (up I 0 (thr (0 ≤ l9 ∧ l9 ≤ n (-1) 0 - 1) ((0 ≤ l9 ∧ l9 ≤ n (-1) 0 - 1) ∧ (0 ≤ a9 ∧ a9 ≤ n l9 1 - 1) ∧ a9 + 1 ≤ c9 ∧ c9 ≤ n l9 1) (True))) 20 (rmR (I 20)) else up I 0 (thr (0 ≤ l9 ∧ l9 ≤ n (-1) 0 - 1) ((0 ≤ l9 ∧ l9 ≤ n (-1) 0 - 1) ∧ (0 ≤ a9 ∧ a9 ≤ n l9 1 - 1) ∧ a9 + 1 ≤ c9 ∧ c9 ≤ n l9 1) (True))), fam G A (uN N 1 (if (0 ≤ l9 ∧ l9 ≤ n (-1) 0 - 1) ∧ ((0 ≤ l9 ∧ l9 ≤ n (-1) 0 - 1) ∧ (0 ≤ a9 ∧ a9 ≤ n l9 1 - 1) ∧ a9 + 1 ≤ c9 ∧ c9 ≤ n l9 1) ∧ (True) then un n l9 (bStop (ub (ub (n l9) 2 a9) 3 c9)) else n)), ar G 0 (A 19) 10896 10896 (encM (if (0 ≤ l9 ∧ l9 ≤ n (-1) 0 - 1) ∧ ((0 ≤ l9 ∧ l9 ≤ n (-1) 0 - 1) ∧ (0 ≤ a9 ∧ a9 ≤ n l9 1 - 1) ∧ a9 + 1 ≤ c9 ∧ c9 ≤ n l9 1) ∧ (True) then rmP (I 20) P n else P))] := by
  refine MX_of (lv := [some (.ref o), some (.int (zI l9)), some (.int (zI a9)), some (.int (zI c9)), none, none, none]) hK (by decide +kernel) rfl (nle rfl) (fun X C F => ?_)
  have C : OKc G X l RX8 "setMarks" cX8_setMarks 7 (some .int) 5 0 0 := C
  have hH := hN.1
  unfold HeadOk at hH
  have hr : rok 1 := Or.inl rfl
  refine x_aload_n C eX8_setMarks_0 rfl ?_
  refine x_iload_n C eX8_setMarks_1 rfl ?_
  refine yV1r [_] [_, _, _] C (s_X8_isLine hK hr (by (try simp (disch := omega) only [Int.reduceAdd, uN_s, uN_uN, un_s, un_un, un_n, ub_s, ub_n, inc, bStop_n, bDrop_s, bDrop_n, unub_n, nLog_n, nLog_h, Int.sub_add_cancel]); omega) (by (try simp (disch := omega) only [Int.reduceAdd, uN_s, uN_uN, un_s, un_un, un_n, ub_s, ub_n, inc, bStop_n, bDrop_s, bDrop_n, unub_n, nLog_n, nLog_h, Int.sub_add_cancel]); omega)) v_X8_isLine vv_X8_isLine s_RX8_299 eX8_setMarks_2 (fun _ _ h => WF_pick [0, 1, 2] rfl rfl h) (rcv 0 rfl) rfl (nle rfl) (nle rfl) (nle rfl) (nle rfl) rfl ?_
  refine x_istore [_, _, _, _, _, _, _] C eX8_setMarks_5 rfl rfl (nlt rfl) ?_
  refine x_aload_n C eX8_setMarks_7 rfl ?_
  refine x_iload C eX8_setMarks_8 rfl ?_
  refine x_iload C eX8_setMarks_10 rfl ?_
  refine x_ifb_eq 56 C eX8_setMarks_12 rfl (fun h12 => ?_) (fun h12 => ?_)
  · refine x_iconst C eX8_setMarks_56 ?_
    refine yV2r [_, _] [_, _, _] C (s_X8_passes2v hK (0 ≤ l9 ∧ l9 ≤ n (-1) 0 - 1) ((0 ≤ l9 ∧ l9 ≤ n (-1) 0 - 1) ∧ (0 ≤ a9 ∧ a9 ≤ n l9 1 - 1) ∧ a9 + 1 ≤ c9 ∧ c9 ≤ n l9 1) (by rfl) (by first | rfl | rw [bz_t (by omega)] | rw [bz_f (by omega)])) v_X8_passes2 vv_X8_passes2 s_RX8_302 eX8_setMarks_57 (fun _ _ h => WF_pick [0, 1, 2] rfl rfl h) (rcv 0 rfl) rfl (nle rfl) (nle rfl) (nle rfl) (nle rfl) rfl ?_
    skip
    refine x_ifb_ne 65 C eX8_setMarks_60 rfl (fun h60 => ?_) (fun h60 => ?_)
    · have hL := hN.2.2 l9 (by omega) (by omega)
      unfold LineOk at hL
      refine x_aload_n C eX8_setMarks_65 rfl ?_
      refine x_iload_n C eX8_setMarks_66 rfl ?_
      refine x_iconst C eX8_setMarks_67 ?_
      refine yV2r [_] [_, _, _] C (s_X8_of hK hr (by (try simp (disch := omega) only [Int.reduceAdd, uN_s, uN_uN, un_s, un_un, un_n, ub_s, ub_n, inc, bStop_n, bDrop_s, bDrop_n, unub_n, nLog_n, nLog_h, Int.sub_add_cancel]); omega) (by (try simp (disch := omega) only [Int.reduceAdd, uN_s, uN_uN, un_s, un_un, un_n, ub_s, ub_n, inc, bStop_n, bDrop_s, bDrop_n, unub_n, nLog_n, nLog_h, Int.sub_add_cancel]); omega)) v_X8_of vv_X8_of s_RX8_64 eX8_setMarks_68 (fun _ _ h => WF_pick [0, 1, 2] rfl rfl h) (rcv 0 rfl) rfl (nle rfl) (nle rfl) (nle rfl) (nle rfl) rfl ?_
      refine x_istore [_, _, _, _, _, _, _] C eX8_setMarks_71 rfl rfl (nlt rfl) ?_
      refine x_aload_n C eX8_setMarks_73 rfl ?_
      refine x_iload_n C eX8_setMarks_74 rfl ?_
      refine x_iconst C eX8_setMarks_75 ?_
      refine x_iload_n C eX8_setMarks_76 rfl ?_
      refine yV3r [] [_, _, _] C (s_X8_becomes hK (by exact h20) (by (try simp (disch := omega) only [Int.reduceAdd, uN_s, uN_uN, un_s, un_un, un_n, ub_s, ub_n, inc, bStop_n, bDrop_s, bDrop_n, unub_n, nLog_n, nLog_h, Int.sub_add_cancel]); omega) (by (try simp (disch := omega) only [Int.reduceAdd, uN_s, uN_uN, un_s, un_un, un_n, ub_s, ub_n, inc, bStop_n, bDrop_s, bDrop_n, unub_n, nLog_n, nLog_h, Int.sub_add_cancel]); omega)) v_X8_becomes vv_X8_becomes s_RX8_355 eX8_setMarks_77 (fun _ _ h => WF_pick [0, 1, 2] rfl rfl h) (rcv 0 rfl) rfl (nle rfl) (nle rfl) (nle rfl) (nle rfl) rfl ?_
      try simp only [show ∀ t, up I 0 t 20 = I 20 from fun _ => rfl]
      refine x_istore [_, _, _, _, _, _, _] C eX8_setMarks_80 rfl rfl (nlt rfl) ?_
      refine x_aload_n C eX8_setMarks_82 rfl ?_
      refine x_iload_n C eX8_setMarks_83 rfl ?_
      refine x_iconst C eX8_setMarks_84 ?_
      refine x_iload_n C eX8_setMarks_85 rfl ?_
      refine yV3v [_] [_, _, _] C (s_X8_put hK hr (by (try simp (disch := omega) only [Int.reduceAdd, uN_s, uN_uN, un_s, un_un, un_n, ub_s, ub_n, inc, bStop_n, bDrop_s, bDrop_n, unub_n, nLog_n, nLog_h, Int.sub_add_cancel]); omega) (by (try simp (disch := omega) only [Int.reduceAdd, uN_s, uN_uN, un_s, un_un, un_n, ub_s, ub_n, inc, bStop_n, bDrop_s, bDrop_n, unub_n, nLog_n, nLog_h, Int.sub_add_cancel]); omega)) v_X8_put vv_X8_put s_RX8_76 eX8_setMarks_86 (fun _ _ h => WF_pick [0, 1, 2] rfl rfl h) (rcv 0 rfl) rfl (nle rfl) (nle rfl) (nle rfl) (nle rfl) rfl ?_
      try simp (disch := omega) only [Int.reduceAdd, uN_s, uN_uN, un_s, un_un, un_n, ub_s, ub_n, inc, bStop_n, bDrop_s, bDrop_n, unub_n, nLog_n, nLog_h, Int.sub_add_cancel]
      refine x_aload_n C eX8_setMarks_89 rfl ?_
      refine x_iload_n C eX8_setMarks_90 rfl ?_
      refine yV1v [_] [_, _, _] C (s_X8_layStop hK hr (by (try simp (disch := omega) only [Int.reduceAdd, uN_s, uN_uN, un_s, un_un, un_n, ub_s, ub_n, inc, bStop_n, bDrop_s, bDrop_n, unub_n, nLog_n, nLog_h, Int.sub_add_cancel]); omega) (by (try simp (disch := omega) only [Int.reduceAdd, uN_s, uN_uN, un_s, un_un, un_n, ub_s, ub_n, inc, bStop_n, bDrop_s, bDrop_n, unub_n, nLog_n, nLog_h, Int.sub_add_cancel]); omega)) v_X8_layStop vv_X8_layStop s_RX8_90 eX8_setMarks_91 (fun _ _ h => WF_pick [0, 1, 2] rfl rfl h) (rcv 0 rfl) rfl (nle rfl) (nle rfl) (nle rfl) (nle rfl) rfl ?_
      try simp (disch := omega) only [Int.reduceAdd, uN_s, uN_uN, un_s, un_un, un_n, ub_s, ub_n, inc, bStop_n, bDrop_s, bDrop_n, unub_n, nLog_n, nLog_h, Int.sub_add_cancel]
      refine x_bipush C eX8_setMarks_94 rfl ?_
      refine x_iload C eX8_setMarks_96 rfl ?_
      refine x_imul C eX8_setMarks_98 ?_
      refine x_iload C eX8_setMarks_99 rfl ?_
      refine x_iadd C eX8_setMarks_101 ?_
      refine x_iret (by first | rfl | exact (narZ (by omega)).1) C F eX8_setMarks_102 () ?_ trivial (fun cf c h => ?_) (nle rfl) (nle rfl)
      · first
          | (rw [if_neg h60])
          | (rw [if_pos h60])
      · first
          | (rw [if_neg h60, if_neg h60, if_neg h60]; exact WF_pick [0, 1, 2] rfl rfl h)
          | (rw [if_pos h60, if_pos h60, if_pos h60]; exact WF_pick [0, 1, 2] rfl rfl h)
    · refine x_iconst C eX8_setMarks_63 ?_
      refine x_iret (by first | rfl | exact (narZ (by omega)).1) C F eX8_setMarks_64 () ?_ trivial (fun cf c h => ?_) (nle rfl) (nle rfl)
      · first
          | (rw [if_neg h60])
          | (rw [if_pos h60])
      · first
          | (rw [if_neg h60, if_neg h60, if_neg h60]; exact WF_pick [0, 1, 2] rfl rfl h)
          | (rw [if_pos h60, if_pos h60, if_pos h60]; exact WF_pick [0, 1, 2] rfl rfl h)
  · have hL := hN.2.2 l9 (by omega) (by omega)
    unfold LineOk at hL
    refine x_iload_n C eX8_setMarks_15 rfl ?_
    refine x_i2l C eX8_setMarks_16 (by omega) ?_
    refine x_lconst (v := 0) C eX8_setMarks_17 rfl ?_
    refine x_aload_n C eX8_setMarks_18 rfl ?_
    refine x_iload_n C eX8_setMarks_19 rfl ?_
    refine x_iconst C eX8_setMarks_20 ?_
    refine yV2r [_] [_, _, _] C (s_X8_of hK hr (by (try simp (disch := omega) only [Int.reduceAdd, uN_s, uN_uN, un_s, un_un, un_n, ub_s, ub_n, inc, bStop_n, bDrop_s, bDrop_n, unub_n, nLog_n, nLog_h, Int.sub_add_cancel]); omega) (by (try simp (disch := omega) only [Int.reduceAdd, uN_s, uN_uN, un_s, un_un, un_n, ub_s, ub_n, inc, bStop_n, bDrop_s, bDrop_n, unub_n, nLog_n, nLog_h, Int.sub_add_cancel]); omega)) v_X8_of vv_X8_of s_RX8_64 eX8_setMarks_21 (fun _ _ h => WF_pick [0, 1, 2] rfl rfl h) (rcv 0 rfl) rfl (nle rfl) (nle rfl) (nle rfl) (nle rfl) rfl ?_
    refine x_iconst C eX8_setMarks_24 ?_
    refine x_isub C eX8_setMarks_25 ?_
    refine x_i2l C eX8_setMarks_26 (by omega) ?_
    refine yS3r [_, _, _] [_, _, _] C (s_X8_in hK (by (try simp (disch := omega) only [Int.reduceAdd, uN_s, uN_uN, un_s, un_un, un_n, ub_s, ub_n, inc, bStop_n, bDrop_s, bDrop_n, unub_n, nLog_n, nLog_h, Int.sub_add_cancel]); omega)) v_X8_in vs_X8_in s_RX8_72 eX8_setMarks_27 (fun _ _ h => WF_pick [0, 1, 2] rfl rfl h) rfl (nle rfl) (nle rfl) (nle rfl) (nle rfl) rfl ?_
    refine x_ifb_eq 56 C eX8_setMarks_30 rfl (fun h30 => ?_) (fun h30 => ?_)
    · refine x_iconst C eX8_setMarks_56 ?_
      refine yV2r [_, _] [_, _, _] C (s_X8_passes2v hK (0 ≤ l9 ∧ l9 ≤ n (-1) 0 - 1) ((0 ≤ l9 ∧ l9 ≤ n (-1) 0 - 1) ∧ (0 ≤ a9 ∧ a9 ≤ n l9 1 - 1) ∧ a9 + 1 ≤ c9 ∧ c9 ≤ n l9 1) (by rfl) (by first | rfl | rw [bz_t (by omega)] | rw [bz_f (by omega)])) v_X8_passes2 vv_X8_passes2 s_RX8_302 eX8_setMarks_57 (fun _ _ h => WF_pick [0, 1, 2] rfl rfl h) (rcv 0 rfl) rfl (nle rfl) (nle rfl) (nle rfl) (nle rfl) rfl ?_
      skip
      refine x_ifb_ne 65 C eX8_setMarks_60 rfl (fun h60 => ?_) (fun h60 => ?_)
      · have hL := hN.2.2 l9 (by omega) (by omega)
        unfold LineOk at hL
        refine x_aload_n C eX8_setMarks_65 rfl ?_
        refine x_iload_n C eX8_setMarks_66 rfl ?_
        refine x_iconst C eX8_setMarks_67 ?_
        refine yV2r [_] [_, _, _] C (s_X8_of hK hr (by (try simp (disch := omega) only [Int.reduceAdd, uN_s, uN_uN, un_s, un_un, un_n, ub_s, ub_n, inc, bStop_n, bDrop_s, bDrop_n, unub_n, nLog_n, nLog_h, Int.sub_add_cancel]); omega) (by (try simp (disch := omega) only [Int.reduceAdd, uN_s, uN_uN, un_s, un_un, un_n, ub_s, ub_n, inc, bStop_n, bDrop_s, bDrop_n, unub_n, nLog_n, nLog_h, Int.sub_add_cancel]); omega)) v_X8_of vv_X8_of s_RX8_64 eX8_setMarks_68 (fun _ _ h => WF_pick [0, 1, 2] rfl rfl h) (rcv 0 rfl) rfl (nle rfl) (nle rfl) (nle rfl) (nle rfl) rfl ?_
        refine x_istore [_, _, _, _, _, _, _] C eX8_setMarks_71 rfl rfl (nlt rfl) ?_
        refine x_aload_n C eX8_setMarks_73 rfl ?_
        refine x_iload_n C eX8_setMarks_74 rfl ?_
        refine x_iconst C eX8_setMarks_75 ?_
        refine x_iload_n C eX8_setMarks_76 rfl ?_
        refine yV3r [] [_, _, _] C (s_X8_becomes hK (by exact h20) (by (try simp (disch := omega) only [Int.reduceAdd, uN_s, uN_uN, un_s, un_un, un_n, ub_s, ub_n, inc, bStop_n, bDrop_s, bDrop_n, unub_n, nLog_n, nLog_h, Int.sub_add_cancel]); omega) (by (try simp (disch := omega) only [Int.reduceAdd, uN_s, uN_uN, un_s, un_un, un_n, ub_s, ub_n, inc, bStop_n, bDrop_s, bDrop_n, unub_n, nLog_n, nLog_h, Int.sub_add_cancel]); omega)) v_X8_becomes vv_X8_becomes s_RX8_355 eX8_setMarks_77 (fun _ _ h => WF_pick [0, 1, 2] rfl rfl h) (rcv 0 rfl) rfl (nle rfl) (nle rfl) (nle rfl) (nle rfl) rfl ?_
        try simp only [show ∀ t, up I 0 t 20 = I 20 from fun _ => rfl]
        refine x_istore [_, _, _, _, _, _, _] C eX8_setMarks_80 rfl rfl (nlt rfl) ?_
        refine x_aload_n C eX8_setMarks_82 rfl ?_
        refine x_iload_n C eX8_setMarks_83 rfl ?_
        refine x_iconst C eX8_setMarks_84 ?_
        refine x_iload_n C eX8_setMarks_85 rfl ?_
        refine yV3v [_] [_, _, _] C (s_X8_put hK hr (by (try simp (disch := omega) only [Int.reduceAdd, uN_s, uN_uN, un_s, un_un, un_n, ub_s, ub_n, inc, bStop_n, bDrop_s, bDrop_n, unub_n, nLog_n, nLog_h, Int.sub_add_cancel]); omega) (by (try simp (disch := omega) only [Int.reduceAdd, uN_s, uN_uN, un_s, un_un, un_n, ub_s, ub_n, inc, bStop_n, bDrop_s, bDrop_n, unub_n, nLog_n, nLog_h, Int.sub_add_cancel]); omega)) v_X8_put vv_X8_put s_RX8_76 eX8_setMarks_86 (fun _ _ h => WF_pick [0, 1, 2] rfl rfl h) (rcv 0 rfl) rfl (nle rfl) (nle rfl) (nle rfl) (nle rfl) rfl ?_
        try simp (disch := omega) only [Int.reduceAdd, uN_s, uN_uN, un_s, un_un, un_n, ub_s, ub_n, inc, bStop_n, bDrop_s, bDrop_n, unub_n, nLog_n, nLog_h, Int.sub_add_cancel]
        refine x_aload_n C eX8_setMarks_89 rfl ?_
        refine x_iload_n C eX8_setMarks_90 rfl ?_
        refine yV1v [_] [_, _, _] C (s_X8_layStop hK hr (by (try simp (disch := omega) only [Int.reduceAdd, uN_s, uN_uN, un_s, un_un, un_n, ub_s, ub_n, inc, bStop_n, bDrop_s, bDrop_n, unub_n, nLog_n, nLog_h, Int.sub_add_cancel]); omega) (by (try simp (disch := omega) only [Int.reduceAdd, uN_s, uN_uN, un_s, un_un, un_n, ub_s, ub_n, inc, bStop_n, bDrop_s, bDrop_n, unub_n, nLog_n, nLog_h, Int.sub_add_cancel]); omega)) v_X8_layStop vv_X8_layStop s_RX8_90 eX8_setMarks_91 (fun _ _ h => WF_pick [0, 1, 2] rfl rfl h) (rcv 0 rfl) rfl (nle rfl) (nle rfl) (nle rfl) (nle rfl) rfl ?_
        try simp (disch := omega) only [Int.reduceAdd, uN_s, uN_uN, un_s, un_un, un_n, ub_s, ub_n, inc, bStop_n, bDrop_s, bDrop_n, unub_n, nLog_n, nLog_h, Int.sub_add_cancel]
        refine x_bipush C eX8_setMarks_94 rfl ?_
        refine x_iload C eX8_setMarks_96 rfl ?_
        refine x_imul C eX8_setMarks_98 ?_
        refine x_iload C eX8_setMarks_99 rfl ?_
        refine x_iadd C eX8_setMarks_101 ?_
        refine x_iret (by first | rfl | exact (narZ (by omega)).1) C F eX8_setMarks_102 () ?_ trivial (fun cf c h => ?_) (nle rfl) (nle rfl)
        · first
            | (rw [if_neg h60])
            | (rw [if_pos h60])
        · first
            | (rw [if_neg h60, if_neg h60, if_neg h60]; exact WF_pick [0, 1, 2] rfl rfl h)
            | (rw [if_pos h60, if_pos h60, if_pos h60]; exact WF_pick [0, 1, 2] rfl rfl h)
      · refine x_iconst C eX8_setMarks_63 ?_
        refine x_iret (by first | rfl | exact (narZ (by omega)).1) C F eX8_setMarks_64 () ?_ trivial (fun cf c h => ?_) (nle rfl) (nle rfl)
        · first
            | (rw [if_neg h60])
            | (rw [if_pos h60])
        · first
            | (rw [if_neg h60, if_neg h60, if_neg h60]; exact WF_pick [0, 1, 2] rfl rfl h)
            | (rw [if_pos h60, if_pos h60, if_pos h60]; exact WF_pick [0, 1, 2] rfl rfl h)
    · refine x_iload_n C eX8_setMarks_33 rfl ?_
      refine x_i2l C eX8_setMarks_34 (by omega) ?_
      refine x_iload_n C eX8_setMarks_35 rfl ?_
      refine x_iconst C eX8_setMarks_36 ?_
      refine x_iadd C eX8_setMarks_37 ?_
      refine x_i2l C eX8_setMarks_38 (by omega) ?_
      refine x_aload_n C eX8_setMarks_39 rfl ?_
      refine x_iload_n C eX8_setMarks_40 rfl ?_
      refine x_iconst C eX8_setMarks_41 ?_
      refine yV2r [_] [_, _, _] C (s_X8_of hK hr (by (try simp (disch := omega) only [Int.reduceAdd, uN_s, uN_uN, un_s, un_un, un_n, ub_s, ub_n, inc, bStop_n, bDrop_s, bDrop_n, unub_n, nLog_n, nLog_h, Int.sub_add_cancel]); omega) (by (try simp (disch := omega) only [Int.reduceAdd, uN_s, uN_uN, un_s, un_un, un_n, ub_s, ub_n, inc, bStop_n, bDrop_s, bDrop_n, unub_n, nLog_n, nLog_h, Int.sub_add_cancel]); omega)) v_X8_of vv_X8_of s_RX8_64 eX8_setMarks_42 (fun _ _ h => WF_pick [0, 1, 2] rfl rfl h) (rcv 0 rfl) rfl (nle rfl) (nle rfl) (nle rfl) (nle rfl) rfl ?_
      refine x_i2l C eX8_setMarks_45 (by omega) ?_
      refine yS3r [_, _, _] [_, _, _] C (s_X8_in hK (by (try simp (disch := omega) only [Int.reduceAdd, uN_s, uN_uN, un_s, un_un, un_n, ub_s, ub_n, inc, bStop_n, bDrop_s, bDrop_n, unub_n, nLog_n, nLog_h, Int.sub_add_cancel]); omega)) v_X8_in vs_X8_in s_RX8_72 eX8_setMarks_46 (fun _ _ h => WF_pick [0, 1, 2] rfl rfl h) rfl (nle rfl) (nle rfl) (nle rfl) (nle rfl) rfl ?_
      refine x_ifb_eq 56 C eX8_setMarks_49 rfl (fun h49 => ?_) (fun h49 => ?_)
      · refine x_iconst C eX8_setMarks_56 ?_
        refine yV2r [_, _] [_, _, _] C (s_X8_passes2v hK (0 ≤ l9 ∧ l9 ≤ n (-1) 0 - 1) ((0 ≤ l9 ∧ l9 ≤ n (-1) 0 - 1) ∧ (0 ≤ a9 ∧ a9 ≤ n l9 1 - 1) ∧ a9 + 1 ≤ c9 ∧ c9 ≤ n l9 1) (by rfl) (by first | rfl | rw [bz_t (by omega)] | rw [bz_f (by omega)])) v_X8_passes2 vv_X8_passes2 s_RX8_302 eX8_setMarks_57 (fun _ _ h => WF_pick [0, 1, 2] rfl rfl h) (rcv 0 rfl) rfl (nle rfl) (nle rfl) (nle rfl) (nle rfl) rfl ?_
        skip
        refine x_ifb_ne 65 C eX8_setMarks_60 rfl (fun h60 => ?_) (fun h60 => ?_)
        · have hL := hN.2.2 l9 (by omega) (by omega)
          unfold LineOk at hL
          refine x_aload_n C eX8_setMarks_65 rfl ?_
          refine x_iload_n C eX8_setMarks_66 rfl ?_
          refine x_iconst C eX8_setMarks_67 ?_
          refine yV2r [_] [_, _, _] C (s_X8_of hK hr (by (try simp (disch := omega) only [Int.reduceAdd, uN_s, uN_uN, un_s, un_un, un_n, ub_s, ub_n, inc, bStop_n, bDrop_s, bDrop_n, unub_n, nLog_n, nLog_h, Int.sub_add_cancel]); omega) (by (try simp (disch := omega) only [Int.reduceAdd, uN_s, uN_uN, un_s, un_un, un_n, ub_s, ub_n, inc, bStop_n, bDrop_s, bDrop_n, unub_n, nLog_n, nLog_h, Int.sub_add_cancel]); omega)) v_X8_of vv_X8_of s_RX8_64 eX8_setMarks_68 (fun _ _ h => WF_pick [0, 1, 2] rfl rfl h) (rcv 0 rfl) rfl (nle rfl) (nle rfl) (nle rfl) (nle rfl) rfl ?_
          refine x_istore [_, _, _, _, _, _, _] C eX8_setMarks_71 rfl rfl (nlt rfl) ?_
          refine x_aload_n C eX8_setMarks_73 rfl ?_
          refine x_iload_n C eX8_setMarks_74 rfl ?_
          refine x_iconst C eX8_setMarks_75 ?_
          refine x_iload_n C eX8_setMarks_76 rfl ?_
          refine yV3r [] [_, _, _] C (s_X8_becomes hK (by exact h20) (by (try simp (disch := omega) only [Int.reduceAdd, uN_s, uN_uN, un_s, un_un, un_n, ub_s, ub_n, inc, bStop_n, bDrop_s, bDrop_n, unub_n, nLog_n, nLog_h, Int.sub_add_cancel]); omega) (by (try simp (disch := omega) only [Int.reduceAdd, uN_s, uN_uN, un_s, un_un, un_n, ub_s, ub_n, inc, bStop_n, bDrop_s, bDrop_n, unub_n, nLog_n, nLog_h, Int.sub_add_cancel]); omega)) v_X8_becomes vv_X8_becomes s_RX8_355 eX8_setMarks_77 (fun _ _ h => WF_pick [0, 1, 2] rfl rfl h) (rcv 0 rfl) rfl (nle rfl) (nle rfl) (nle rfl) (nle rfl) rfl ?_
          try simp only [show ∀ t, up I 0 t 20 = I 20 from fun _ => rfl]
          refine x_istore [_, _, _, _, _, _, _] C eX8_setMarks_80 rfl rfl (nlt rfl) ?_
          refine x_aload_n C eX8_setMarks_82 rfl ?_
          refine x_iload_n C eX8_setMarks_83 rfl ?_
          refine x_iconst C eX8_setMarks_84 ?_
          refine x_iload_n C eX8_setMarks_85 rfl ?_
          refine yV3v [_] [_, _, _] C (s_X8_put hK hr (by (try simp (disch := omega) only [Int.reduceAdd, uN_s, uN_uN, un_s, un_un, un_n, ub_s, ub_n, inc, bStop_n, bDrop_s, bDrop_n, unub_n, nLog_n, nLog_h, Int.sub_add_cancel]); omega) (by (try simp (disch := omega) only [Int.reduceAdd, uN_s, uN_uN, un_s, un_un, un_n, ub_s, ub_n, inc, bStop_n, bDrop_s, bDrop_n, unub_n, nLog_n, nLog_h, Int.sub_add_cancel]); omega)) v_X8_put vv_X8_put s_RX8_76 eX8_setMarks_86 (fun _ _ h => WF_pick [0, 1, 2] rfl rfl h) (rcv 0 rfl) rfl (nle rfl) (nle rfl) (nle rfl) (nle rfl) rfl ?_
          try simp (disch := omega) only [Int.reduceAdd, uN_s, uN_uN, un_s, un_un, un_n, ub_s, ub_n, inc, bStop_n, bDrop_s, bDrop_n, unub_n, nLog_n, nLog_h, Int.sub_add_cancel]
          refine x_aload_n C eX8_setMarks_89 rfl ?_
          refine x_iload_n C eX8_setMarks_90 rfl ?_
          refine yV1v [_] [_, _, _] C (s_X8_layStop hK hr (by (try simp (disch := omega) only [Int.reduceAdd, uN_s, uN_uN, un_s, un_un, un_n, ub_s, ub_n, inc, bStop_n, bDrop_s, bDrop_n, unub_n, nLog_n, nLog_h, Int.sub_add_cancel]); omega) (by (try simp (disch := omega) only [Int.reduceAdd, uN_s, uN_uN, un_s, un_un, un_n, ub_s, ub_n, inc, bStop_n, bDrop_s, bDrop_n, unub_n, nLog_n, nLog_h, Int.sub_add_cancel]); omega)) v_X8_layStop vv_X8_layStop s_RX8_90 eX8_setMarks_91 (fun _ _ h => WF_pick [0, 1, 2] rfl rfl h) (rcv 0 rfl) rfl (nle rfl) (nle rfl) (nle rfl) (nle rfl) rfl ?_
          try simp (disch := omega) only [Int.reduceAdd, uN_s, uN_uN, un_s, un_un, un_n, ub_s, ub_n, inc, bStop_n, bDrop_s, bDrop_n, unub_n, nLog_n, nLog_h, Int.sub_add_cancel]
          refine x_bipush C eX8_setMarks_94 rfl ?_
          refine x_iload C eX8_setMarks_96 rfl ?_
          refine x_imul C eX8_setMarks_98 ?_
          refine x_iload C eX8_setMarks_99 rfl ?_
          refine x_iadd C eX8_setMarks_101 ?_
          refine x_iret (by first | rfl | exact (narZ (by omega)).1) C F eX8_setMarks_102 () ?_ trivial (fun cf c h => ?_) (nle rfl) (nle rfl)
          · first
              | (rw [if_neg h60])
              | (rw [if_pos h60])
          · first
              | (rw [if_neg h60, if_neg h60, if_neg h60]; exact WF_pick [0, 1, 2] rfl rfl h)
              | (rw [if_pos h60, if_pos h60, if_pos h60]; exact WF_pick [0, 1, 2] rfl rfl h)
        · refine x_iconst C eX8_setMarks_63 ?_
          refine x_iret (by first | rfl | exact (narZ (by omega)).1) C F eX8_setMarks_64 () ?_ trivial (fun cf c h => ?_) (nle rfl) (nle rfl)
          · first
              | (rw [if_neg h60])
              | (rw [if_pos h60])
          · first
              | (rw [if_neg h60, if_neg h60, if_neg h60]; exact WF_pick [0, 1, 2] rfl rfl h)
              | (rw [if_pos h60, if_pos h60, if_pos h60]; exact WF_pick [0, 1, 2] rfl rfl h)
      · refine x_iconst C eX8_setMarks_52 ?_
        refine x_goto (pc' := 57) C eX8_setMarks_53 rfl ?_
        refine yV2r [_, _] [_, _, _] C (s_X8_passes2v hK (0 ≤ l9 ∧ l9 ≤ n (-1) 0 - 1) ((0 ≤ l9 ∧ l9 ≤ n (-1) 0 - 1) ∧ (0 ≤ a9 ∧ a9 ≤ n l9 1 - 1) ∧ a9 + 1 ≤ c9 ∧ c9 ≤ n l9 1) (by rfl) (by first | rfl | rw [bz_t (by omega)] | rw [bz_f (by omega)])) v_X8_passes2 vv_X8_passes2 s_RX8_302 eX8_setMarks_57 (fun _ _ h => WF_pick [0, 1, 2] rfl rfl h) (rcv 0 rfl) rfl (nle rfl) (nle rfl) (nle rfl) (nle rfl) rfl ?_
        skip
        refine x_ifb_ne 65 C eX8_setMarks_60 rfl (fun h60 => ?_) (fun h60 => ?_)
        · have hL := hN.2.2 l9 (by omega) (by omega)
          unfold LineOk at hL
          refine x_aload_n C eX8_setMarks_65 rfl ?_
          refine x_iload_n C eX8_setMarks_66 rfl ?_
          refine x_iconst C eX8_setMarks_67 ?_
          refine yV2r [_] [_, _, _] C (s_X8_of hK hr (by (try simp (disch := omega) only [Int.reduceAdd, uN_s, uN_uN, un_s, un_un, un_n, ub_s, ub_n, inc, bStop_n, bDrop_s, bDrop_n, unub_n, nLog_n, nLog_h, Int.sub_add_cancel]); omega) (by (try simp (disch := omega) only [Int.reduceAdd, uN_s, uN_uN, un_s, un_un, un_n, ub_s, ub_n, inc, bStop_n, bDrop_s, bDrop_n, unub_n, nLog_n, nLog_h, Int.sub_add_cancel]); omega)) v_X8_of vv_X8_of s_RX8_64 eX8_setMarks_68 (fun _ _ h => WF_pick [0, 1, 2] rfl rfl h) (rcv 0 rfl) rfl (nle rfl) (nle rfl) (nle rfl) (nle rfl) rfl ?_
          refine x_istore [_, _, _, _, _, _, _] C eX8_setMarks_71 rfl rfl (nlt rfl) ?_
          refine x_aload_n C eX8_setMarks_73 rfl ?_
          refine x_iload_n C eX8_setMarks_74 rfl ?_
          refine x_iconst C eX8_setMarks_75 ?_
          refine x_iload_n C eX8_setMarks_76 rfl ?_
          refine yV3r [] [_, _, _] C (s_X8_becomes hK (by exact h20) (by (try simp (disch := omega) only [Int.reduceAdd, uN_s, uN_uN, un_s, un_un, un_n, ub_s, ub_n, inc, bStop_n, bDrop_s, bDrop_n, unub_n, nLog_n, nLog_h, Int.sub_add_cancel]); omega) (by (try simp (disch := omega) only [Int.reduceAdd, uN_s, uN_uN, un_s, un_un, un_n, ub_s, ub_n, inc, bStop_n, bDrop_s, bDrop_n, unub_n, nLog_n, nLog_h, Int.sub_add_cancel]); omega)) v_X8_becomes vv_X8_becomes s_RX8_355 eX8_setMarks_77 (fun _ _ h => WF_pick [0, 1, 2] rfl rfl h) (rcv 0 rfl) rfl (nle rfl) (nle rfl) (nle rfl) (nle rfl) rfl ?_
          try simp only [show ∀ t, up I 0 t 20 = I 20 from fun _ => rfl]
          refine x_istore [_, _, _, _, _, _, _] C eX8_setMarks_80 rfl rfl (nlt rfl) ?_
          refine x_aload_n C eX8_setMarks_82 rfl ?_
          refine x_iload_n C eX8_setMarks_83 rfl ?_
          refine x_iconst C eX8_setMarks_84 ?_
          refine x_iload_n C eX8_setMarks_85 rfl ?_
          refine yV3v [_] [_, _, _] C (s_X8_put hK hr (by (try simp (disch := omega) only [Int.reduceAdd, uN_s, uN_uN, un_s, un_un, un_n, ub_s, ub_n, inc, bStop_n, bDrop_s, bDrop_n, unub_n, nLog_n, nLog_h, Int.sub_add_cancel]); omega) (by (try simp (disch := omega) only [Int.reduceAdd, uN_s, uN_uN, un_s, un_un, un_n, ub_s, ub_n, inc, bStop_n, bDrop_s, bDrop_n, unub_n, nLog_n, nLog_h, Int.sub_add_cancel]); omega)) v_X8_put vv_X8_put s_RX8_76 eX8_setMarks_86 (fun _ _ h => WF_pick [0, 1, 2] rfl rfl h) (rcv 0 rfl) rfl (nle rfl) (nle rfl) (nle rfl) (nle rfl) rfl ?_
          try simp (disch := omega) only [Int.reduceAdd, uN_s, uN_uN, un_s, un_un, un_n, ub_s, ub_n, inc, bStop_n, bDrop_s, bDrop_n, unub_n, nLog_n, nLog_h, Int.sub_add_cancel]
          refine x_aload_n C eX8_setMarks_89 rfl ?_
          refine x_iload_n C eX8_setMarks_90 rfl ?_
          refine yV1v [_] [_, _, _] C (s_X8_layStop hK hr (by (try simp (disch := omega) only [Int.reduceAdd, uN_s, uN_uN, un_s, un_un, un_n, ub_s, ub_n, inc, bStop_n, bDrop_s, bDrop_n, unub_n, nLog_n, nLog_h, Int.sub_add_cancel]); omega) (by (try simp (disch := omega) only [Int.reduceAdd, uN_s, uN_uN, un_s, un_un, un_n, ub_s, ub_n, inc, bStop_n, bDrop_s, bDrop_n, unub_n, nLog_n, nLog_h, Int.sub_add_cancel]); omega)) v_X8_layStop vv_X8_layStop s_RX8_90 eX8_setMarks_91 (fun _ _ h => WF_pick [0, 1, 2] rfl rfl h) (rcv 0 rfl) rfl (nle rfl) (nle rfl) (nle rfl) (nle rfl) rfl ?_
          try simp (disch := omega) only [Int.reduceAdd, uN_s, uN_uN, un_s, un_un, un_n, ub_s, ub_n, inc, bStop_n, bDrop_s, bDrop_n, unub_n, nLog_n, nLog_h, Int.sub_add_cancel]
          refine x_bipush C eX8_setMarks_94 rfl ?_
          refine x_iload C eX8_setMarks_96 rfl ?_
          refine x_imul C eX8_setMarks_98 ?_
          refine x_iload C eX8_setMarks_99 rfl ?_
          refine x_iadd C eX8_setMarks_101 ?_
          refine x_iret (by first | rfl | exact (narZ (by omega)).1) C F eX8_setMarks_102 () ?_ trivial (fun cf c h => ?_) (nle rfl) (nle rfl)
          · first
              | (rw [if_neg h60])
              | (rw [if_pos h60])
          · first
              | (rw [if_neg h60, if_neg h60, if_neg h60]; exact WF_pick [0, 1, 2] rfl rfl h)
              | (rw [if_pos h60, if_pos h60, if_pos h60]; exact WF_pick [0, 1, 2] rfl rfl h)
        · refine x_iconst C eX8_setMarks_63 ?_
          refine x_iret (by first | rfl | exact (narZ (by omega)).1) C F eX8_setMarks_64 () ?_ trivial (fun cf c h => ?_) (nle rfl) (nle rfl)
          · first
              | (rw [if_neg h60])
              | (rw [if_pos h60])
          · first
              | (rw [if_neg h60, if_neg h60, if_neg h60]; exact WF_pick [0, 1, 2] rfl rfl h)
              | (rw [if_pos h60, if_pos h60, if_pos h60]; exact WF_pick [0, 1, 2] rfl rfl h)

set_option maxHeartbeats 4000000 in
set_option maxRecDepth 100000 in
theorem s_X8_queued {G : Gm} {l : Launch} (hK : KG G) {o : Nat} {A : Nat → Nat} {I : Nat → Int} {N : Nat → Net} {n : Net} {b : Int} {l9 i9 : Int} (p9 : Prop) [Decidable p9] (hN : NetOk b n) (hb : b ≤ 900000000) (r_l9 : -2147483648 ≤ l9 ∧ l9 < 2147483648) (r_i9 : -2147483648 ≤ i9 ∧ i9 < 2147483648) : MD G l yX8_queued cX8_queued 5 (some .int) 3 0 0 [.ref o, .int (zI l9), .int (zI (bz p9)), .int (zI i9)] [ob o 10 (shM A 1) I, fam G A (uN N 1 (n))] (some (.int (zI (if ((0 ≤ l9 ∧ l9 ≤ n (-1) 0 - 1) ∧ 0 ≤ i9 ∧ i9 ≤ (if p9 then n l9 7 else n l9 6) - 1) ∧ (True) ∧ (True) then if p9 then n l9 (148 + i9) else n l9 (28 + i9) else 0)))) [ob o 10 (shM A 1) (up I 0 (thr ((0 ≤ l9 ∧ l9 ≤ n (-1) 0 - 1) ∧ 0 ≤ i9 ∧ i9 ≤ (if p9 then n l9 7 else n l9 6) - 1) (True) (True))), fam G A (uN N 1 (n))] := by
  refine MX_of (lv := [some (.ref o), some (.int (zI l9)), some (.int (zI (bz p9))), some (.int (zI i9)), none]) hK (by decide +kernel) rfl (nle rfl) (fun X C F => ?_)
  have C : OKc G X l RX8 "queued" cX8_queued 5 (some .int) 3 0 0 := C
  have hH := hN.1
  unfold HeadOk at hH
  have hr : rok 1 := Or.inl rfl
  refine x_aload_n C eX8_queued_0 rfl ?_
  refine x_iload_n C eX8_queued_1 rfl ?_
  refine yV1r [] [_, _] C (s_X8_isLine hK hr (by (try simp (disch := omega) only [Int.reduceAdd, uN_s, uN_uN, un_s, un_un, un_n, ub_s, ub_n, inc, bStop_n, bDrop_s, bDrop_n, unub_n, nLog_n, nLog_h, Int.sub_add_cancel]); omega) (by (try simp (disch := omega) only [Int.reduceAdd, uN_s, uN_uN, un_s, un_un, un_n, ub_s, ub_n, inc, bStop_n, bDrop_s, bDrop_n, unub_n, nLog_n, nLog_h, Int.sub_add_cancel]); omega)) v_X8_isLine vv_X8_isLine s_RX8_299 eX8_queued_2 (fun _ _ h => WF_pick [0, 1] rfl rfl h) (rcv 0 rfl) rfl (nle rfl) (nle rfl) (nle rfl) (nle rfl) rfl ?_
  refine x_ifb_eq 40 C eX8_queued_5 rfl (fun h5 => ?_) (fun h5 => ?_)
  · refine x_iconst C eX8_queued_40 ?_
    refine x_istore [_, _, _, _, _] C eX8_queued_41 rfl rfl (nlt rfl) ?_
    refine x_aload_n C eX8_queued_43 rfl ?_
    refine x_iload C eX8_queued_44 rfl ?_
    refine yV1r [_] [_, _] C (s_X8_passesv hK ((0 ≤ l9 ∧ l9 ≤ n (-1) 0 - 1) ∧ 0 ≤ i9 ∧ i9 ≤ (if p9 then n l9 7 else n l9 6) - 1) (by first | (rw [bz_t]; refine ⟨by omega, ?_⟩; split <;> first | omega | contradiction) | (rw [bz_f]; intro z; obtain ⟨z1, z2⟩ := z; first | omega | (split at z2 <;> first | omega | contradiction)))) v_X8_passes vv_X8_passes s_RX8_142 eX8_queued_46 (fun _ _ h => WF_pick [0, 1] rfl rfl h) (rcv 0 rfl) rfl (nle rfl) (nle rfl) (nle rfl) (nle rfl) rfl ?_
    skip
    refine x_ifb_eq 74 C eX8_queued_49 rfl (fun h49 => ?_) (fun h49 => ?_)
    · refine x_iconst C eX8_queued_74 ?_
      refine x_iret (by first | rfl | exact (narZ (by omega)).1) C F eX8_queued_75 () ?_ trivial (fun cf c h => ?_) (nle rfl) (nle rfl)
      · first
          | (rw [if_neg h49])
          | (rw [if_pos h49]; split <;> first | rfl | contradiction)
      · exact WF_pick [0, 1] rfl rfl h
    · have hi9 : 0 ≤ i9 ∧ i9 < 60 := by
        obtain ⟨⟨z0, z1, z2⟩, -⟩ := h49
        have hL := hN.2.2 l9 (by omega) (by omega)
        unfold LineOk at hL
        split at z2 <;> omega
      refine x_aload_n C eX8_queued_52 rfl ?_
      refine x_iload_n C eX8_queued_53 rfl ?_
      refine x_iload_n C eX8_queued_54 rfl ?_
      refine x_ifb_eq 64 C eX8_queued_55 rfl (fun h55 => ?_) (fun h55 => ?_)
      · refine x_bipush C eX8_queued_64 rfl ?_
        refine x_iload_n C eX8_queued_66 rfl ?_
        refine x_iadd C eX8_queued_67 ?_
        refine yV2r [] [_, _] C (s_X8_of hK hr (by (try simp (disch := omega) only [Int.reduceAdd, uN_s, uN_uN, un_s, un_un, un_n, ub_s, ub_n, inc, bStop_n, bDrop_s, bDrop_n, unub_n, nLog_n, nLog_h, Int.sub_add_cancel]); omega) (by (try simp (disch := omega) only [Int.reduceAdd, uN_s, uN_uN, un_s, un_un, un_n, ub_s, ub_n, inc, bStop_n, bDrop_s, bDrop_n, unub_n, nLog_n, nLog_h, Int.sub_add_cancel]); omega)) v_X8_of vv_X8_of s_RX8_64 eX8_queued_68 (fun _ _ h => WF_pick [0, 1] rfl rfl h) (rcv 0 rfl) rfl (nle rfl) (nle rfl) (nle rfl) (nle rfl) rfl ?_
        refine x_goto (pc' := 75) C eX8_queued_71 rfl ?_
        refine x_iret (by first | rfl | exact (narZ (by omega)).1) C F eX8_queued_75 () ?_ trivial (fun cf c h => ?_) (nle rfl) (nle rfl)
        · first
            | (rw [if_neg h49])
            | (rw [if_pos h49]; split <;> first | rfl | contradiction)
        · exact WF_pick [0, 1] rfl rfl h
      · refine x_sipush C eX8_queued_58 rfl ?_
        refine x_goto (pc' := 66) C eX8_queued_61 rfl ?_
        refine x_iload_n C eX8_queued_66 rfl ?_
        refine x_iadd C eX8_queued_67 ?_
        refine yV2r [] [_, _] C (s_X8_of hK hr (by (try simp (disch := omega) only [Int.reduceAdd, uN_s, uN_uN, un_s, un_un, un_n, ub_s, ub_n, inc, bStop_n, bDrop_s, bDrop_n, unub_n, nLog_n, nLog_h, Int.sub_add_cancel]); omega) (by (try simp (disch := omega) only [Int.reduceAdd, uN_s, uN_uN, un_s, un_un, un_n, ub_s, ub_n, inc, bStop_n, bDrop_s, bDrop_n, unub_n, nLog_n, nLog_h, Int.sub_add_cancel]); omega)) v_X8_of vv_X8_of s_RX8_64 eX8_queued_68 (fun _ _ h => WF_pick [0, 1] rfl rfl h) (rcv 0 rfl) rfl (nle rfl) (nle rfl) (nle rfl) (nle rfl) rfl ?_
        refine x_goto (pc' := 75) C eX8_queued_71 rfl ?_
        refine x_iret (by first | rfl | exact (narZ (by omega)).1) C F eX8_queued_75 () ?_ trivial (fun cf c h => ?_) (nle rfl) (nle rfl)
        · first
            | (rw [if_neg h49])
            | (rw [if_pos h49]; split <;> first | rfl | contradiction)
        · exact WF_pick [0, 1] rfl rfl h
  · have hL := hN.2.2 l9 (by omega) (by omega)
    unfold LineOk at hL
    refine x_iload_n C eX8_queued_8 rfl ?_
    refine x_i2l C eX8_queued_9 (by omega) ?_
    refine x_lconst (v := 0) C eX8_queued_10 rfl ?_
    refine x_aload_n C eX8_queued_11 rfl ?_
    refine x_iload_n C eX8_queued_12 rfl ?_
    refine x_iload_n C eX8_queued_13 rfl ?_
    refine x_ifb_eq 22 C eX8_queued_14 rfl (fun h14 => ?_) (fun h14 => ?_)
    · refine x_bipush C eX8_queued_22 rfl ?_
      refine yV2r [] [_, _] C (s_X8_of hK hr (by (try simp (disch := omega) only [Int.reduceAdd, uN_s, uN_uN, un_s, un_un, un_n, ub_s, ub_n, inc, bStop_n, bDrop_s, bDrop_n, unub_n, nLog_n, nLog_h, Int.sub_add_cancel]); omega) (by (try simp (disch := omega) only [Int.reduceAdd, uN_s, uN_uN, un_s, un_un, un_n, ub_s, ub_n, inc, bStop_n, bDrop_s, bDrop_n, unub_n, nLog_n, nLog_h, Int.sub_add_cancel]); omega)) v_X8_of vv_X8_of s_RX8_64 eX8_queued_24 (fun _ _ h => WF_pick [0, 1] rfl rfl h) (rcv 0 rfl) rfl (nle rfl) (nle rfl) (nle rfl) (nle rfl) rfl ?_
      refine x_iconst C eX8_queued_27 ?_
      refine x_isub C eX8_queued_28 ?_
      refine x_i2l C eX8_queued_29 (by omega) ?_
      refine yS3r [_, _] [_, _] C (s_X8_in hK (by (try simp (disch := omega) only [Int.reduceAdd, uN_s, uN_uN, un_s, un_un, un_n, ub_s, ub_n, inc, bStop_n, bDrop_s, bDrop_n, unub_n, nLog_n, nLog_h, Int.sub_add_cancel]); omega)) v_X8_in vs_X8_in s_RX8_72 eX8_queued_30 (fun _ _ h => WF_pick [0, 1] rfl rfl h) rfl (nle rfl) (nle rfl) (nle rfl) (nle rfl) rfl ?_
      refine x_ifb_eq 40 C eX8_queued_33 rfl (fun h33 => ?_) (fun h33 => ?_)
      · refine x_iconst C eX8_queued_40 ?_
        refine x_istore [_, _, _, _, _] C eX8_queued_41 rfl rfl (nlt rfl) ?_
        refine x_aload_n C eX8_queued_43 rfl ?_
        refine x_iload C eX8_queued_44 rfl ?_
        refine yV1r [_] [_, _] C (s_X8_passesv hK ((0 ≤ l9 ∧ l9 ≤ n (-1) 0 - 1) ∧ 0 ≤ i9 ∧ i9 ≤ (if p9 then n l9 7 else n l9 6) - 1) (by first | (rw [bz_t]; refine ⟨by omega, ?_⟩; split <;> first | omega | contradiction) | (rw [bz_f]; intro z; obtain ⟨z1, z2⟩ := z; first | omega | (split at z2 <;> first | omega | contradiction)))) v_X8_passes vv_X8_passes s_RX8_142 eX8_queued_46 (fun _ _ h => WF_pick [0, 1] rfl rfl h) (rcv 0 rfl) rfl (nle rfl) (nle rfl) (nle rfl) (nle rfl) rfl ?_
        skip
        refine x_ifb_eq 74 C eX8_queued_49 rfl (fun h49 => ?_) (fun h49 => ?_)
        · refine x_iconst C eX8_queued_74 ?_
          refine x_iret (by first | rfl | exact (narZ (by omega)).1) C F eX8_queued_75 () ?_ trivial (fun cf c h => ?_) (nle rfl) (nle rfl)
          · first
              | (rw [if_neg h49])
              | (rw [if_pos h49]; split <;> first | rfl | contradiction)
          · exact WF_pick [0, 1] rfl rfl h
        · have hi9 : 0 ≤ i9 ∧ i9 < 60 := by
            obtain ⟨⟨z0, z1, z2⟩, -⟩ := h49
            have hL := hN.2.2 l9 (by omega) (by omega)
            unfold LineOk at hL
            split at z2 <;> omega
          refine x_aload_n C eX8_queued_52 rfl ?_
          refine x_iload_n C eX8_queued_53 rfl ?_
          refine x_iload_n C eX8_queued_54 rfl ?_
          refine x_ifb_eq 64 C eX8_queued_55 rfl (fun h55 => ?_) (fun h55 => ?_)
          · refine x_bipush C eX8_queued_64 rfl ?_
            refine x_iload_n C eX8_queued_66 rfl ?_
            refine x_iadd C eX8_queued_67 ?_
            refine yV2r [] [_, _] C (s_X8_of hK hr (by (try simp (disch := omega) only [Int.reduceAdd, uN_s, uN_uN, un_s, un_un, un_n, ub_s, ub_n, inc, bStop_n, bDrop_s, bDrop_n, unub_n, nLog_n, nLog_h, Int.sub_add_cancel]); omega) (by (try simp (disch := omega) only [Int.reduceAdd, uN_s, uN_uN, un_s, un_un, un_n, ub_s, ub_n, inc, bStop_n, bDrop_s, bDrop_n, unub_n, nLog_n, nLog_h, Int.sub_add_cancel]); omega)) v_X8_of vv_X8_of s_RX8_64 eX8_queued_68 (fun _ _ h => WF_pick [0, 1] rfl rfl h) (rcv 0 rfl) rfl (nle rfl) (nle rfl) (nle rfl) (nle rfl) rfl ?_
            refine x_goto (pc' := 75) C eX8_queued_71 rfl ?_
            refine x_iret (by first | rfl | exact (narZ (by omega)).1) C F eX8_queued_75 () ?_ trivial (fun cf c h => ?_) (nle rfl) (nle rfl)
            · first
                | (rw [if_neg h49])
                | (rw [if_pos h49]; split <;> first | rfl | contradiction)
            · exact WF_pick [0, 1] rfl rfl h
          · refine x_sipush C eX8_queued_58 rfl ?_
            refine x_goto (pc' := 66) C eX8_queued_61 rfl ?_
            refine x_iload_n C eX8_queued_66 rfl ?_
            refine x_iadd C eX8_queued_67 ?_
            refine yV2r [] [_, _] C (s_X8_of hK hr (by (try simp (disch := omega) only [Int.reduceAdd, uN_s, uN_uN, un_s, un_un, un_n, ub_s, ub_n, inc, bStop_n, bDrop_s, bDrop_n, unub_n, nLog_n, nLog_h, Int.sub_add_cancel]); omega) (by (try simp (disch := omega) only [Int.reduceAdd, uN_s, uN_uN, un_s, un_un, un_n, ub_s, ub_n, inc, bStop_n, bDrop_s, bDrop_n, unub_n, nLog_n, nLog_h, Int.sub_add_cancel]); omega)) v_X8_of vv_X8_of s_RX8_64 eX8_queued_68 (fun _ _ h => WF_pick [0, 1] rfl rfl h) (rcv 0 rfl) rfl (nle rfl) (nle rfl) (nle rfl) (nle rfl) rfl ?_
            refine x_goto (pc' := 75) C eX8_queued_71 rfl ?_
            refine x_iret (by first | rfl | exact (narZ (by omega)).1) C F eX8_queued_75 () ?_ trivial (fun cf c h => ?_) (nle rfl) (nle rfl)
            · first
                | (rw [if_neg h49])
                | (rw [if_pos h49]; split <;> first | rfl | contradiction)
            · exact WF_pick [0, 1] rfl rfl h
      · refine x_iconst C eX8_queued_36 ?_
        refine x_goto (pc' := 41) C eX8_queued_37 rfl ?_
        refine x_istore [_, _, _, _, _] C eX8_queued_41 rfl rfl (nlt rfl) ?_
        refine x_aload_n C eX8_queued_43 rfl ?_
        refine x_iload C eX8_queued_44 rfl ?_
        refine yV1r [_] [_, _] C (s_X8_passesv hK ((0 ≤ l9 ∧ l9 ≤ n (-1) 0 - 1) ∧ 0 ≤ i9 ∧ i9 ≤ (if p9 then n l9 7 else n l9 6) - 1) (by first | (rw [bz_t]; refine ⟨by omega, ?_⟩; split <;> first | omega | contradiction) | (rw [bz_f]; intro z; obtain ⟨z1, z2⟩ := z; first | omega | (split at z2 <;> first | omega | contradiction)))) v_X8_passes vv_X8_passes s_RX8_142 eX8_queued_46 (fun _ _ h => WF_pick [0, 1] rfl rfl h) (rcv 0 rfl) rfl (nle rfl) (nle rfl) (nle rfl) (nle rfl) rfl ?_
        skip
        refine x_ifb_eq 74 C eX8_queued_49 rfl (fun h49 => ?_) (fun h49 => ?_)
        · refine x_iconst C eX8_queued_74 ?_
          refine x_iret (by first | rfl | exact (narZ (by omega)).1) C F eX8_queued_75 () ?_ trivial (fun cf c h => ?_) (nle rfl) (nle rfl)
          · first
              | (rw [if_neg h49])
              | (rw [if_pos h49]; split <;> first | rfl | contradiction)
          · exact WF_pick [0, 1] rfl rfl h
        · have hi9 : 0 ≤ i9 ∧ i9 < 60 := by
            obtain ⟨⟨z0, z1, z2⟩, -⟩ := h49
            have hL := hN.2.2 l9 (by omega) (by omega)
            unfold LineOk at hL
            split at z2 <;> omega
          refine x_aload_n C eX8_queued_52 rfl ?_
          refine x_iload_n C eX8_queued_53 rfl ?_
          refine x_iload_n C eX8_queued_54 rfl ?_
          refine x_ifb_eq 64 C eX8_queued_55 rfl (fun h55 => ?_) (fun h55 => ?_)
          · refine x_bipush C eX8_queued_64 rfl ?_
            refine x_iload_n C eX8_queued_66 rfl ?_
            refine x_iadd C eX8_queued_67 ?_
            refine yV2r [] [_, _] C (s_X8_of hK hr (by (try simp (disch := omega) only [Int.reduceAdd, uN_s, uN_uN, un_s, un_un, un_n, ub_s, ub_n, inc, bStop_n, bDrop_s, bDrop_n, unub_n, nLog_n, nLog_h, Int.sub_add_cancel]); omega) (by (try simp (disch := omega) only [Int.reduceAdd, uN_s, uN_uN, un_s, un_un, un_n, ub_s, ub_n, inc, bStop_n, bDrop_s, bDrop_n, unub_n, nLog_n, nLog_h, Int.sub_add_cancel]); omega)) v_X8_of vv_X8_of s_RX8_64 eX8_queued_68 (fun _ _ h => WF_pick [0, 1] rfl rfl h) (rcv 0 rfl) rfl (nle rfl) (nle rfl) (nle rfl) (nle rfl) rfl ?_
            refine x_goto (pc' := 75) C eX8_queued_71 rfl ?_
            refine x_iret (by first | rfl | exact (narZ (by omega)).1) C F eX8_queued_75 () ?_ trivial (fun cf c h => ?_) (nle rfl) (nle rfl)
            · first
                | (rw [if_neg h49])
                | (rw [if_pos h49]; split <;> first | rfl | contradiction)
            · exact WF_pick [0, 1] rfl rfl h
          · refine x_sipush C eX8_queued_58 rfl ?_
            refine x_goto (pc' := 66) C eX8_queued_61 rfl ?_
            refine x_iload_n C eX8_queued_66 rfl ?_
            refine x_iadd C eX8_queued_67 ?_
            refine yV2r [] [_, _] C (s_X8_of hK hr (by (try simp (disch := omega) only [Int.reduceAdd, uN_s, uN_uN, un_s, un_un, un_n, ub_s, ub_n, inc, bStop_n, bDrop_s, bDrop_n, unub_n, nLog_n, nLog_h, Int.sub_add_cancel]); omega) (by (try simp (disch := omega) only [Int.reduceAdd, uN_s, uN_uN, un_s, un_un, un_n, ub_s, ub_n, inc, bStop_n, bDrop_s, bDrop_n, unub_n, nLog_n, nLog_h, Int.sub_add_cancel]); omega)) v_X8_of vv_X8_of s_RX8_64 eX8_queued_68 (fun _ _ h => WF_pick [0, 1] rfl rfl h) (rcv 0 rfl) rfl (nle rfl) (nle rfl) (nle rfl) (nle rfl) rfl ?_
            refine x_goto (pc' := 75) C eX8_queued_71 rfl ?_
            refine x_iret (by first | rfl | exact (narZ (by omega)).1) C F eX8_queued_75 () ?_ trivial (fun cf c h => ?_) (nle rfl) (nle rfl)
            · first
                | (rw [if_neg h49])
                | (rw [if_pos h49]; split <;> first | rfl | contradiction)
            · exact WF_pick [0, 1] rfl rfl h
    · refine x_bipush C eX8_queued_17 rfl ?_
      refine x_goto (pc' := 24) C eX8_queued_19 rfl ?_
      refine yV2r [] [_, _] C (s_X8_of hK hr (by (try simp (disch := omega) only [Int.reduceAdd, uN_s, uN_uN, un_s, un_un, un_n, ub_s, ub_n, inc, bStop_n, bDrop_s, bDrop_n, unub_n, nLog_n, nLog_h, Int.sub_add_cancel]); omega) (by (try simp (disch := omega) only [Int.reduceAdd, uN_s, uN_uN, un_s, un_un, un_n, ub_s, ub_n, inc, bStop_n, bDrop_s, bDrop_n, unub_n, nLog_n, nLog_h, Int.sub_add_cancel]); omega)) v_X8_of vv_X8_of s_RX8_64 eX8_queued_24 (fun _ _ h => WF_pick [0, 1] rfl rfl h) (rcv 0 rfl) rfl (nle rfl) (nle rfl) (nle rfl) (nle rfl) rfl ?_
      refine x_iconst C eX8_queued_27 ?_
      refine x_isub C eX8_queued_28 ?_
      refine x_i2l C eX8_queued_29 (by omega) ?_
      refine yS3r [_, _] [_, _] C (s_X8_in hK (by (try simp (disch := omega) only [Int.reduceAdd, uN_s, uN_uN, un_s, un_un, un_n, ub_s, ub_n, inc, bStop_n, bDrop_s, bDrop_n, unub_n, nLog_n, nLog_h, Int.sub_add_cancel]); omega)) v_X8_in vs_X8_in s_RX8_72 eX8_queued_30 (fun _ _ h => WF_pick [0, 1] rfl rfl h) rfl (nle rfl) (nle rfl) (nle rfl) (nle rfl) rfl ?_
      refine x_ifb_eq 40 C eX8_queued_33 rfl (fun h33 => ?_) (fun h33 => ?_)
      · refine x_iconst C eX8_queued_40 ?_
        refine x_istore [_, _, _, _, _] C eX8_queued_41 rfl rfl (nlt rfl) ?_
        refine x_aload_n C eX8_queued_43 rfl ?_
        refine x_iload C eX8_queued_44 rfl ?_
        refine yV1r [_] [_, _] C (s_X8_passesv hK ((0 ≤ l9 ∧ l9 ≤ n (-1) 0 - 1) ∧ 0 ≤ i9 ∧ i9 ≤ (if p9 then n l9 7 else n l9 6) - 1) (by first | (rw [bz_t]; refine ⟨by omega, ?_⟩; split <;> first | omega | contradiction) | (rw [bz_f]; intro z; obtain ⟨z1, z2⟩ := z; first | omega | (split at z2 <;> first | omega | contradiction)))) v_X8_passes vv_X8_passes s_RX8_142 eX8_queued_46 (fun _ _ h => WF_pick [0, 1] rfl rfl h) (rcv 0 rfl) rfl (nle rfl) (nle rfl) (nle rfl) (nle rfl) rfl ?_
        skip
        refine x_ifb_eq 74 C eX8_queued_49 rfl (fun h49 => ?_) (fun h49 => ?_)
        · refine x_iconst C eX8_queued_74 ?_
          refine x_iret (by first | rfl | exact (narZ (by omega)).1) C F eX8_queued_75 () ?_ trivial (fun cf c h => ?_) (nle rfl) (nle rfl)
          · first
              | (rw [if_neg h49])
              | (rw [if_pos h49]; split <;> first | rfl | contradiction)
          · exact WF_pick [0, 1] rfl rfl h
        · have hi9 : 0 ≤ i9 ∧ i9 < 60 := by
            obtain ⟨⟨z0, z1, z2⟩, -⟩ := h49
            have hL := hN.2.2 l9 (by omega) (by omega)
            unfold LineOk at hL
            split at z2 <;> omega
          refine x_aload_n C eX8_queued_52 rfl ?_
          refine x_iload_n C eX8_queued_53 rfl ?_
          refine x_iload_n C eX8_queued_54 rfl ?_
          refine x_ifb_eq 64 C eX8_queued_55 rfl (fun h55 => ?_) (fun h55 => ?_)
          · refine x_bipush C eX8_queued_64 rfl ?_
            refine x_iload_n C eX8_queued_66 rfl ?_
            refine x_iadd C eX8_queued_67 ?_
            refine yV2r [] [_, _] C (s_X8_of hK hr (by (try simp (disch := omega) only [Int.reduceAdd, uN_s, uN_uN, un_s, un_un, un_n, ub_s, ub_n, inc, bStop_n, bDrop_s, bDrop_n, unub_n, nLog_n, nLog_h, Int.sub_add_cancel]); omega) (by (try simp (disch := omega) only [Int.reduceAdd, uN_s, uN_uN, un_s, un_un, un_n, ub_s, ub_n, inc, bStop_n, bDrop_s, bDrop_n, unub_n, nLog_n, nLog_h, Int.sub_add_cancel]); omega)) v_X8_of vv_X8_of s_RX8_64 eX8_queued_68 (fun _ _ h => WF_pick [0, 1] rfl rfl h) (rcv 0 rfl) rfl (nle rfl) (nle rfl) (nle rfl) (nle rfl) rfl ?_
            refine x_goto (pc' := 75) C eX8_queued_71 rfl ?_
            refine x_iret (by first | rfl | exact (narZ (by omega)).1) C F eX8_queued_75 () ?_ trivial (fun cf c h => ?_) (nle rfl) (nle rfl)
            · first
                | (rw [if_neg h49])
                | (rw [if_pos h49]; split <;> first | rfl | contradiction)
            · exact WF_pick [0, 1] rfl rfl h
          · refine x_sipush C eX8_queued_58 rfl ?_
            refine x_goto (pc' := 66) C eX8_queued_61 rfl ?_
            refine x_iload_n C eX8_queued_66 rfl ?_
            refine x_iadd C eX8_queued_67 ?_
            refine yV2r [] [_, _] C (s_X8_of hK hr (by (try simp (disch := omega) only [Int.reduceAdd, uN_s, uN_uN, un_s, un_un, un_n, ub_s, ub_n, inc, bStop_n, bDrop_s, bDrop_n, unub_n, nLog_n, nLog_h, Int.sub_add_cancel]); omega) (by (try simp (disch := omega) only [Int.reduceAdd, uN_s, uN_uN, un_s, un_un, un_n, ub_s, ub_n, inc, bStop_n, bDrop_s, bDrop_n, unub_n, nLog_n, nLog_h, Int.sub_add_cancel]); omega)) v_X8_of vv_X8_of s_RX8_64 eX8_queued_68 (fun _ _ h => WF_pick [0, 1] rfl rfl h) (rcv 0 rfl) rfl (nle rfl) (nle rfl) (nle rfl) (nle rfl) rfl ?_
            refine x_goto (pc' := 75) C eX8_queued_71 rfl ?_
            refine x_iret (by first | rfl | exact (narZ (by omega)).1) C F eX8_queued_75 () ?_ trivial (fun cf c h => ?_) (nle rfl) (nle rfl)
            · first
                | (rw [if_neg h49])
                | (rw [if_pos h49]; split <;> first | rfl | contradiction)
            · exact WF_pick [0, 1] rfl rfl h
      · refine x_iconst C eX8_queued_36 ?_
        refine x_goto (pc' := 41) C eX8_queued_37 rfl ?_
        refine x_istore [_, _, _, _, _] C eX8_queued_41 rfl rfl (nlt rfl) ?_
        refine x_aload_n C eX8_queued_43 rfl ?_
        refine x_iload C eX8_queued_44 rfl ?_
        refine yV1r [_] [_, _] C (s_X8_passesv hK ((0 ≤ l9 ∧ l9 ≤ n (-1) 0 - 1) ∧ 0 ≤ i9 ∧ i9 ≤ (if p9 then n l9 7 else n l9 6) - 1) (by first | (rw [bz_t]; refine ⟨by omega, ?_⟩; split <;> first | omega | contradiction) | (rw [bz_f]; intro z; obtain ⟨z1, z2⟩ := z; first | omega | (split at z2 <;> first | omega | contradiction)))) v_X8_passes vv_X8_passes s_RX8_142 eX8_queued_46 (fun _ _ h => WF_pick [0, 1] rfl rfl h) (rcv 0 rfl) rfl (nle rfl) (nle rfl) (nle rfl) (nle rfl) rfl ?_
        skip
        refine x_ifb_eq 74 C eX8_queued_49 rfl (fun h49 => ?_) (fun h49 => ?_)
        · refine x_iconst C eX8_queued_74 ?_
          refine x_iret (by first | rfl | exact (narZ (by omega)).1) C F eX8_queued_75 () ?_ trivial (fun cf c h => ?_) (nle rfl) (nle rfl)
          · first
              | (rw [if_neg h49])
              | (rw [if_pos h49]; split <;> first | rfl | contradiction)
          · exact WF_pick [0, 1] rfl rfl h
        · have hi9 : 0 ≤ i9 ∧ i9 < 60 := by
            obtain ⟨⟨z0, z1, z2⟩, -⟩ := h49
            have hL := hN.2.2 l9 (by omega) (by omega)
            unfold LineOk at hL
            split at z2 <;> omega
          refine x_aload_n C eX8_queued_52 rfl ?_
          refine x_iload_n C eX8_queued_53 rfl ?_
          refine x_iload_n C eX8_queued_54 rfl ?_
          refine x_ifb_eq 64 C eX8_queued_55 rfl (fun h55 => ?_) (fun h55 => ?_)
          · refine x_bipush C eX8_queued_64 rfl ?_
            refine x_iload_n C eX8_queued_66 rfl ?_
            refine x_iadd C eX8_queued_67 ?_
            refine yV2r [] [_, _] C (s_X8_of hK hr (by (try simp (disch := omega) only [Int.reduceAdd, uN_s, uN_uN, un_s, un_un, un_n, ub_s, ub_n, inc, bStop_n, bDrop_s, bDrop_n, unub_n, nLog_n, nLog_h, Int.sub_add_cancel]); omega) (by (try simp (disch := omega) only [Int.reduceAdd, uN_s, uN_uN, un_s, un_un, un_n, ub_s, ub_n, inc, bStop_n, bDrop_s, bDrop_n, unub_n, nLog_n, nLog_h, Int.sub_add_cancel]); omega)) v_X8_of vv_X8_of s_RX8_64 eX8_queued_68 (fun _ _ h => WF_pick [0, 1] rfl rfl h) (rcv 0 rfl) rfl (nle rfl) (nle rfl) (nle rfl) (nle rfl) rfl ?_
            refine x_goto (pc' := 75) C eX8_queued_71 rfl ?_
            refine x_iret (by first | rfl | exact (narZ (by omega)).1) C F eX8_queued_75 () ?_ trivial (fun cf c h => ?_) (nle rfl) (nle rfl)
            · first
                | (rw [if_neg h49])
                | (rw [if_pos h49]; split <;> first | rfl | contradiction)
            · exact WF_pick [0, 1] rfl rfl h
          · refine x_sipush C eX8_queued_58 rfl ?_
            refine x_goto (pc' := 66) C eX8_queued_61 rfl ?_
            refine x_iload_n C eX8_queued_66 rfl ?_
            refine x_iadd C eX8_queued_67 ?_
            refine yV2r [] [_, _] C (s_X8_of hK hr (by (try simp (disch := omega) only [Int.reduceAdd, uN_s, uN_uN, un_s, un_un, un_n, ub_s, ub_n, inc, bStop_n, bDrop_s, bDrop_n, unub_n, nLog_n, nLog_h, Int.sub_add_cancel]); omega) (by (try simp (disch := omega) only [Int.reduceAdd, uN_s, uN_uN, un_s, un_un, un_n, ub_s, ub_n, inc, bStop_n, bDrop_s, bDrop_n, unub_n, nLog_n, nLog_h, Int.sub_add_cancel]); omega)) v_X8_of vv_X8_of s_RX8_64 eX8_queued_68 (fun _ _ h => WF_pick [0, 1] rfl rfl h) (rcv 0 rfl) rfl (nle rfl) (nle rfl) (nle rfl) (nle rfl) rfl ?_
            refine x_goto (pc' := 75) C eX8_queued_71 rfl ?_
            refine x_iret (by first | rfl | exact (narZ (by omega)).1) C F eX8_queued_75 () ?_ trivial (fun cf c h => ?_) (nle rfl) (nle rfl)
            · first
                | (rw [if_neg h49])
                | (rw [if_pos h49]; split <;> first | rfl | contradiction)
            · exact WF_pick [0, 1] rfl rfl h

set_option maxHeartbeats 4000000 in
set_option maxRecDepth 100000 in
theorem s_X8_those {G : Gm} {l : Launch} (hK : KG G) {o r : Nat} {A : Nat → Nat} {I : Nat → Int} {N : Nat → Net} {n : Net} {b w9 : Int} (hr : rok r) (hN : NetOk b n) (hw : w9 = 9 ∨ w9 = 10 ∨ w9 = 11 ∨ w9 = 12) : MD G l yX8_those cX8_those 4 (some .int) 2 0 0 [.ref o, .int (zI w9)] [ob o 10 (shM A r) I, fam G A (uN N r n)] (some (.int (thoseV n w9 (n (-1) 0).toNat))) [ob o 10 (shM A r) I, fam G A (uN N r n)] := by
  refine MX_of (lv := [some (.ref o), some (.int (zI w9)), none, none]) hK (by decide +kernel) rfl (nle rfl) (fun X C F => ?_)
  have C : OKc G X l RX8 "those" cX8_those 4 (some .int) 2 0 0 := C
  have hH := hN.1
  unfold HeadOk at hH
  have loop : ∀ (f k : Nat), (k : Int) ≤ n (-1) 0 → n (-1) 0 < k + f → WX G X 0 0 [ob o 10 (shM A r) I, fam G A (uN N r (n))] 4 [some (.ref o), some (.int (zI w9)), some (.int (thoseV n w9 k)), some (.int (zI k))] [] := by
    intro f
    induction f with
    | zero => intro k h0 h1; exfalso; omega
    | succ f ih =>
      intro k h0 h1
      refine x_iload_n C eX8_those_4 rfl ?_
      refine x_aload_n C eX8_those_5 rfl ?_
      refine yV0r [] [_, _] C (s_X8_lines hK hr) v_X8_lines vv_X8_lines s_RX8_68 eX8_those_6 (fun _ _ h => WF_pick [0, 1] rfl rfl h) (rcv 0 rfl) rfl (nle rfl) (nle rfl) (nle rfl) (nle rfl) rfl ?_
      skip
      refine x_icmp_ge 37 C eX8_those_9 rfl (by omega) (by omega) (fun h9 => ?_) (fun h9 => ?_)
      · refine x_iload_n C eX8_those_37 rfl ?_
        refine x_iret (by first | rfl | exact (narZ (by omega)).1) C F eX8_those_38 () ?_ trivial (fun cf c h => ?_) (nle rfl) (nle rfl)
        · rw [show (n (-1) 0).toNat = k by omega]
        · exact WF_pick [0, 1] rfl rfl h
      · have hL := hN.2.2 k (by omega) (by omega)
        unfold LineOk at hL
        have hv : 0 ≤ n k w9 ∧ n k w9 ≤ 99 := by rcases hw with rfl | rfl | rfl | rfl <;> omega
        refine x_iload_n C eX8_those_12 rfl ?_
        refine x_aload_n C eX8_those_13 rfl ?_
        refine x_iload_n C eX8_those_14 rfl ?_
        refine x_iload_n C eX8_those_15 rfl ?_
        refine yV2r [] [_, _] C (s_X8_of hK hr (by omega) (by omega)) v_X8_of vv_X8_of s_RX8_64 eX8_those_16 (fun _ _ h => WF_pick [0, 1] rfl rfl h) (rcv 0 rfl) rfl (nle rfl) (nle rfl) (nle rfl) (nle rfl) rfl ?_
        skip
        refine x_if_le 28 C eX8_those_19 rfl (by omega) (fun h19 => ?_) (fun h19 => ?_)
        · refine x_iconst C eX8_those_28 ?_
          refine x_iorR C eX8_those_29 ?_
          refine x_istore_n [_, _, _, _] C eX8_those_30 rfl rfl (nlt rfl) ?_
          refine x_iinc [_, _, _, _] C eX8_those_31 rfl rfl rfl ?_
          refine x_goto (pc' := 4) C eX8_those_34 rfl ?_
          have h3 := ih (k + 1) (by omega) (by omega)
          unfold thoseV at h3
          first
            | (rw [if_pos h19] at h3; exact h3)
            | (rw [if_neg (by omega)] at h3; exact h3)
        · refine x_iconst C eX8_those_22 ?_
          refine x_iload_n C eX8_those_23 rfl ?_
          refine x_ishlR C eX8_those_24 ?_
          refine x_goto (pc' := 29) C eX8_those_25 rfl ?_
          refine x_iorR C eX8_those_29 ?_
          refine x_istore_n [_, _, _, _] C eX8_those_30 rfl rfl (nlt rfl) ?_
          refine x_iinc [_, _, _, _] C eX8_those_31 rfl rfl rfl ?_
          refine x_goto (pc' := 4) C eX8_those_34 rfl ?_
          have h3 := ih (k + 1) (by omega) (by omega)
          unfold thoseV at h3
          first
            | (rw [if_pos h19] at h3; exact h3)
            | (rw [if_neg (by omega)] at h3; exact h3)
  refine x_iconst C eX8_those_0 ?_
  refine x_istore_n [_, _, _, _] C eX8_those_1 rfl rfl (nlt rfl) ?_
  refine x_iconst C eX8_those_2 ?_
  refine x_istore_n [_, _, _, _] C eX8_those_3 rfl rfl (nlt rfl) ?_
  exact loop 20 0 (by omega) (by omega)

set_option maxHeartbeats 4000000 in
set_option maxRecDepth 100000 in
theorem s_X8_line {G : Gm} {l : Launch} (hK : KG G) {o : Nat} {A : Nat → Nat} {I : Nat → Int} {N : Nat → Net} {n : Net} {b : Int} {l9 w9 : Int} (hN : NetOk b n) (hb : b ≤ 900000000) (r_l9 : -2147483648 ≤ l9 ∧ l9 < 2147483648) (r_w9 : -2147483648 ≤ w9 ∧ w9 < 2147483648) : MD G l yX8_line cX8_line 3 (some .int) 3 0 0 [.ref o, .int (zI l9), .int (zI w9)] [ob o 10 (shM A 1) I, fam G A (uN N 1 (n))] (some (.int (zI (if (0 ≤ l9 ∧ l9 ≤ n (-1) 0 - 1) ∧ (0 ≤ w9 ∧ w9 ≤ 10) ∧ (True) then lineVal n l9 w9 else 0)))) [ob o 10 (shM A 1) (up I 0 (thr (0 ≤ l9 ∧ l9 ≤ n (-1) 0 - 1) (0 ≤ w9 ∧ w9 ≤ 10) (True))), fam G A (uN N 1 (n))] := by
  refine MX_of (lv := [some (.ref o), some (.int (zI l9)), some (.int (zI w9))]) hK (by decide +kernel) rfl (nle rfl) (fun X C F => ?_)
  have C : OKc G X l RX8 "line" cX8_line 3 (some .int) 3 0 0 := C
  have hH := hN.1
  unfold HeadOk at hH
  have hr : rok 1 := Or.inl rfl
  refine x_aload_n C eX8_line_0 rfl ?_
  refine x_aload_n C eX8_line_1 rfl ?_
  refine x_iload_n C eX8_line_2 rfl ?_
  refine yV1r [] [_, _] C (s_X8_isLine hK hr (by (try simp (disch := omega) only [Int.reduceAdd, uN_s, uN_uN, un_s, un_un, un_n, ub_s, ub_n, inc, bStop_n, bDrop_s, bDrop_n, unub_n, nLog_n, nLog_h, Int.sub_add_cancel]); omega) (by (try simp (disch := omega) only [Int.reduceAdd, uN_s, uN_uN, un_s, un_un, un_n, ub_s, ub_n, inc, bStop_n, bDrop_s, bDrop_n, unub_n, nLog_n, nLog_h, Int.sub_add_cancel]); omega)) v_X8_isLine vv_X8_isLine s_RX8_299 eX8_line_3 (fun _ _ h => WF_pick [0, 1] rfl rfl h) (rcv 0 rfl) rfl (nle rfl) (nle rfl) (nle rfl) (nle rfl) rfl ?_
  refine x_iload_n C eX8_line_6 rfl ?_
  refine x_i2l C eX8_line_7 (by omega) ?_
  refine x_lconst (v := 0) C eX8_line_8 rfl ?_
  refine x_ldc2 C eX8_line_9 k_RX8_294 ?_
  refine yS3r [_, _] [_, _] C (s_X8_in hK (by (try simp (disch := omega) only [Int.reduceAdd, uN_s, uN_uN, un_s, un_un, un_n, ub_s, ub_n, inc, bStop_n, bDrop_s, bDrop_n, unub_n, nLog_n, nLog_h, Int.sub_add_cancel]); omega)) v_X8_in vs_X8_in s_RX8_72 eX8_line_12 (fun _ _ h => WF_pick [0, 1] rfl rfl h) rfl (nle rfl) (nle rfl) (nle rfl) (nle rfl) rfl ?_
  refine yV2r [_] [_, _] C (s_X8_passes2v hK (0 ≤ l9 ∧ l9 ≤ n (-1) 0 - 1) (0 ≤ w9 ∧ w9 ≤ 10) (by first | rfl | rw [bz_t (by omega)] | rw [bz_f (by omega)]) (by first | rfl | rw [bz_t (by omega)] | rw [bz_f (by omega)])) v_X8_passes2 vv_X8_passes2 s_RX8_302 eX8_line_15 (fun _ _ h => WF_pick [0, 1] rfl rfl h) (rcv 0 rfl) rfl (nle rfl) (nle rfl) (nle rfl) (nle rfl) rfl ?_
  skip
  refine x_ifb_ne 23 C eX8_line_18 rfl (fun h18 => ?_) (fun h18 => ?_)
  · have hL := hN.2.2 l9 (by omega) (by omega)
    unfold LineOk at hL
    refine x_iload_n C eX8_line_23 rfl ?_
    have hsw : w9 = 0 ∨ w9 = 1 ∨ w9 = 2 ∨ w9 = 3 ∨ w9 = 4 ∨ w9 = 5 ∨ w9 = 6 ∨ w9 = 7 ∨ w9 = 8 ∨ w9 = 9 ∨ (w9 < 0 ∨ 9 < w9) := by omega
    rcases hsw with rfl | rfl | rfl | rfl | rfl | rfl | rfl | rfl | rfl | rfl | hsw
    · refine x_tabIn 80 C eX8_line_24 (by decide) (by decide) (by decide) rfl rfl ?_
      refine x_aload_n C eX8_line_80 rfl ?_
      refine x_iload_n C eX8_line_81 rfl ?_
      refine x_iconst C eX8_line_82 ?_
      refine yV2r [] [_, _] C (s_X8_of hK hr (by (try simp (disch := omega) only [Int.reduceAdd, uN_s, uN_uN, un_s, un_un, un_n, ub_s, ub_n, inc, bStop_n, bDrop_s, bDrop_n, unub_n, nLog_n, nLog_h, Int.sub_add_cancel]); omega) (by (try simp (disch := omega) only [Int.reduceAdd, uN_s, uN_uN, un_s, un_un, un_n, ub_s, ub_n, inc, bStop_n, bDrop_s, bDrop_n, unub_n, nLog_n, nLog_h, Int.sub_add_cancel]); omega)) v_X8_of vv_X8_of s_RX8_64 eX8_line_83 (fun _ _ h => WF_pick [0, 1] rfl rfl h) (rcv 0 rfl) rfl (nle rfl) (nle rfl) (nle rfl) (nle rfl) rfl ?_
      refine x_iret (by first | rfl | exact (narZ (by omega)).1) C F eX8_line_86 () ?_ trivial (fun cf c h => ?_) (nle rfl) (nle rfl)
      · rw [if_pos h18]
        rfl
      · exact WF_pick [0, 1] rfl rfl h
    · refine x_tabIn 87 C eX8_line_24 (by decide) (by decide) (by decide) rfl rfl ?_
      refine x_aload_n C eX8_line_87 rfl ?_
      refine x_iload_n C eX8_line_88 rfl ?_
      refine x_iconst C eX8_line_89 ?_
      refine yV2r [] [_, _] C (s_X8_of hK hr (by (try simp (disch := omega) only [Int.reduceAdd, uN_s, uN_uN, un_s, un_un, un_n, ub_s, ub_n, inc, bStop_n, bDrop_s, bDrop_n, unub_n, nLog_n, nLog_h, Int.sub_add_cancel]); omega) (by (try simp (disch := omega) only [Int.reduceAdd, uN_s, uN_uN, un_s, un_un, un_n, ub_s, ub_n, inc, bStop_n, bDrop_s, bDrop_n, unub_n, nLog_n, nLog_h, Int.sub_add_cancel]); omega)) v_X8_of vv_X8_of s_RX8_64 eX8_line_90 (fun _ _ h => WF_pick [0, 1] rfl rfl h) (rcv 0 rfl) rfl (nle rfl) (nle rfl) (nle rfl) (nle rfl) rfl ?_
      refine x_iret (by first | rfl | exact (narZ (by omega)).1) C F eX8_line_93 () ?_ trivial (fun cf c h => ?_) (nle rfl) (nle rfl)
      · rw [if_pos h18]
        rfl
      · exact WF_pick [0, 1] rfl rfl h
    · refine x_tabIn 94 C eX8_line_24 (by decide) (by decide) (by decide) rfl rfl ?_
      refine x_aload_n C eX8_line_94 rfl ?_
      refine x_iload_n C eX8_line_95 rfl ?_
      refine x_iconst C eX8_line_96 ?_
      refine yV2r [] [_, _] C (s_X8_of hK hr (by (try simp (disch := omega) only [Int.reduceAdd, uN_s, uN_uN, un_s, un_un, un_n, ub_s, ub_n, inc, bStop_n, bDrop_s, bDrop_n, unub_n, nLog_n, nLog_h, Int.sub_add_cancel]); omega) (by (try simp (disch := omega) only [Int.reduceAdd, uN_s, uN_uN, un_s, un_un, un_n, ub_s, ub_n, inc, bStop_n, bDrop_s, bDrop_n, unub_n, nLog_n, nLog_h, Int.sub_add_cancel]); omega)) v_X8_of vv_X8_of s_RX8_64 eX8_line_97 (fun _ _ h => WF_pick [0, 1] rfl rfl h) (rcv 0 rfl) rfl (nle rfl) (nle rfl) (nle rfl) (nle rfl) rfl ?_
      refine x_iret (by first | rfl | exact (narZ (by omega)).1) C F eX8_line_100 () ?_ trivial (fun cf c h => ?_) (nle rfl) (nle rfl)
      · rw [if_pos h18]
        rfl
      · exact WF_pick [0, 1] rfl rfl h
    · refine x_tabIn 101 C eX8_line_24 (by decide) (by decide) (by decide) rfl rfl ?_
      refine x_aload_n C eX8_line_101 rfl ?_
      refine x_iload_n C eX8_line_102 rfl ?_
      refine x_iconst C eX8_line_103 ?_
      refine yV2r [] [_, _] C (s_X8_of hK hr (by (try simp (disch := omega) only [Int.reduceAdd, uN_s, uN_uN, un_s, un_un, un_n, ub_s, ub_n, inc, bStop_n, bDrop_s, bDrop_n, unub_n, nLog_n, nLog_h, Int.sub_add_cancel]); omega) (by (try simp (disch := omega) only [Int.reduceAdd, uN_s, uN_uN, un_s, un_un, un_n, ub_s, ub_n, inc, bStop_n, bDrop_s, bDrop_n, unub_n, nLog_n, nLog_h, Int.sub_add_cancel]); omega)) v_X8_of vv_X8_of s_RX8_64 eX8_line_104 (fun _ _ h => WF_pick [0, 1] rfl rfl h) (rcv 0 rfl) rfl (nle rfl) (nle rfl) (nle rfl) (nle rfl) rfl ?_
      refine x_iret (by first | rfl | exact (narZ (by omega)).1) C F eX8_line_107 () ?_ trivial (fun cf c h => ?_) (nle rfl) (nle rfl)
      · rw [if_pos h18]
        rfl
      · exact WF_pick [0, 1] rfl rfl h
    · refine x_tabIn 108 C eX8_line_24 (by decide) (by decide) (by decide) rfl rfl ?_
      refine x_aload_n C eX8_line_108 rfl ?_
      refine x_iload_n C eX8_line_109 rfl ?_
      refine x_iconst C eX8_line_110 ?_
      refine yV2r [] [_, _] C (s_X8_of hK hr (by (try simp (disch := omega) only [Int.reduceAdd, uN_s, uN_uN, un_s, un_un, un_n, ub_s, ub_n, inc, bStop_n, bDrop_s, bDrop_n, unub_n, nLog_n, nLog_h, Int.sub_add_cancel]); omega) (by (try simp (disch := omega) only [Int.reduceAdd, uN_s, uN_uN, un_s, un_un, un_n, ub_s, ub_n, inc, bStop_n, bDrop_s, bDrop_n, unub_n, nLog_n, nLog_h, Int.sub_add_cancel]); omega)) v_X8_of vv_X8_of s_RX8_64 eX8_line_111 (fun _ _ h => WF_pick [0, 1] rfl rfl h) (rcv 0 rfl) rfl (nle rfl) (nle rfl) (nle rfl) (nle rfl) rfl ?_
      refine x_iret (by first | rfl | exact (narZ (by omega)).1) C F eX8_line_114 () ?_ trivial (fun cf c h => ?_) (nle rfl) (nle rfl)
      · rw [if_pos h18]
        rfl
      · exact WF_pick [0, 1] rfl rfl h
    · refine x_tabIn 115 C eX8_line_24 (by decide) (by decide) (by decide) rfl rfl ?_
      refine x_aload_n C eX8_line_115 rfl ?_
      refine x_iload_n C eX8_line_116 rfl ?_
      refine x_bipush C eX8_line_117 rfl ?_
      refine yV2r [] [_, _] C (s_X8_of hK hr (by (try simp (disch := omega) only [Int.reduceAdd, uN_s, uN_uN, un_s, un_un, un_n, ub_s, ub_n, inc, bStop_n, bDrop_s, bDrop_n, unub_n, nLog_n, nLog_h, Int.sub_add_cancel]); omega) (by (try simp (disch := omega) only [Int.reduceAdd, uN_s, uN_uN, un_s, un_un, un_n, ub_s, ub_n, inc, bStop_n, bDrop_s, bDrop_n, unub_n, nLog_n, nLog_h, Int.sub_add_cancel]); omega)) v_X8_of vv_X8_of s_RX8_64 eX8_line_119 (fun _ _ h => WF_pick [0, 1] rfl rfl h) (rcv 0 rfl) rfl (nle rfl) (nle rfl) (nle rfl) (nle rfl) rfl ?_
      refine x_iret (by first | rfl | exact (narZ (by omega)).1) C F eX8_line_122 () ?_ trivial (fun cf c h => ?_) (nle rfl) (nle rfl)
      · rw [if_pos h18]
        rfl
      · exact WF_pick [0, 1] rfl rfl h
    · refine x_tabIn 123 C eX8_line_24 (by decide) (by decide) (by decide) rfl rfl ?_
      refine x_aload_n C eX8_line_123 rfl ?_
      refine x_iload_n C eX8_line_124 rfl ?_
      refine x_bipush C eX8_line_125 rfl ?_
      refine yV2r [] [_, _] C (s_X8_of hK hr (by (try simp (disch := omega) only [Int.reduceAdd, uN_s, uN_uN, un_s, un_un, un_n, ub_s, ub_n, inc, bStop_n, bDrop_s, bDrop_n, unub_n, nLog_n, nLog_h, Int.sub_add_cancel]); omega) (by (try simp (disch := omega) only [Int.reduceAdd, uN_s, uN_uN, un_s, un_un, un_n, ub_s, ub_n, inc, bStop_n, bDrop_s, bDrop_n, unub_n, nLog_n, nLog_h, Int.sub_add_cancel]); omega)) v_X8_of vv_X8_of s_RX8_64 eX8_line_127 (fun _ _ h => WF_pick [0, 1] rfl rfl h) (rcv 0 rfl) rfl (nle rfl) (nle rfl) (nle rfl) (nle rfl) rfl ?_
      refine x_iret (by first | rfl | exact (narZ (by omega)).1) C F eX8_line_130 () ?_ trivial (fun cf c h => ?_) (nle rfl) (nle rfl)
      · rw [if_pos h18]
        rfl
      · exact WF_pick [0, 1] rfl rfl h
    · refine x_tabIn 131 C eX8_line_24 (by decide) (by decide) (by decide) rfl rfl ?_
      refine x_aload_n C eX8_line_131 rfl ?_
      refine x_iload_n C eX8_line_132 rfl ?_
      refine x_bipush C eX8_line_133 rfl ?_
      refine yV2r [] [_, _] C (s_X8_of hK hr (by (try simp (disch := omega) only [Int.reduceAdd, uN_s, uN_uN, un_s, un_un, un_n, ub_s, ub_n, inc, bStop_n, bDrop_s, bDrop_n, unub_n, nLog_n, nLog_h, Int.sub_add_cancel]); omega) (by (try simp (disch := omega) only [Int.reduceAdd, uN_s, uN_uN, un_s, un_un, un_n, ub_s, ub_n, inc, bStop_n, bDrop_s, bDrop_n, unub_n, nLog_n, nLog_h, Int.sub_add_cancel]); omega)) v_X8_of vv_X8_of s_RX8_64 eX8_line_135 (fun _ _ h => WF_pick [0, 1] rfl rfl h) (rcv 0 rfl) rfl (nle rfl) (nle rfl) (nle rfl) (nle rfl) rfl ?_
      refine x_iret (by first | rfl | exact (narZ (by omega)).1) C F eX8_line_138 () ?_ trivial (fun cf c h => ?_) (nle rfl) (nle rfl)
      · rw [if_pos h18]
        rfl
      · exact WF_pick [0, 1] rfl rfl h
    · refine x_tabIn 139 C eX8_line_24 (by decide) (by decide) (by decide) rfl rfl ?_
      refine x_aload_n C eX8_line_139 rfl ?_
      refine x_iload_n C eX8_line_140 rfl ?_
      refine x_bipush C eX8_line_141 rfl ?_
      refine yV2r [] [_, _] C (s_X8_of hK hr (by (try simp (disch := omega) only [Int.reduceAdd, uN_s, uN_uN, un_s, un_un, un_n, ub_s, ub_n, inc, bStop_n, bDrop_s, bDrop_n, unub_n, nLog_n, nLog_h, Int.sub_add_cancel]); omega) (by (try simp (disch := omega) only [Int.reduceAdd, uN_s, uN_uN, un_s, un_un, un_n, ub_s, ub_n, inc, bStop_n, bDrop_s, bDrop_n, unub_n, nLog_n, nLog_h, Int.sub_add_cancel]); omega)) v_X8_of vv_X8_of s_RX8_64 eX8_line_143 (fun _ _ h => WF_pick [0, 1] rfl rfl h) (rcv 0 rfl) rfl (nle rfl) (nle rfl) (nle rfl) (nle rfl) rfl ?_
      refine x_iret (by first | rfl | exact (narZ (by omega)).1) C F eX8_line_146 () ?_ trivial (fun cf c h => ?_) (nle rfl) (nle rfl)
      · rw [if_pos h18]
        rfl
      · exact WF_pick [0, 1] rfl rfl h
    · refine x_tabIn 147 C eX8_line_24 (by decide) (by decide) (by decide) rfl rfl ?_
      refine x_aload_n C eX8_line_147 rfl ?_
      refine x_iload_n C eX8_line_148 rfl ?_
      refine yV1r [] [_, _] C (s_X8_lends hK hr (by (try simp (disch := omega) only [Int.reduceAdd, uN_s, uN_uN, un_s, un_un, un_n, ub_s, ub_n, inc, bStop_n, bDrop_s, bDrop_n, unub_n, nLog_n, nLog_h, Int.sub_add_cancel]); omega) (by (try simp (disch := omega) only [Int.reduceAdd, uN_s, uN_uN, un_s, un_un, un_n, ub_s, ub_n, inc, bStop_n, bDrop_s, bDrop_n, unub_n, nLog_n, nLog_h, Int.sub_add_cancel]); omega)) v_X8_lends vv_X8_lends s_RX8_97 eX8_line_149 (fun _ _ h => WF_pick [0, 1] rfl rfl h) (rcv 0 rfl) rfl (nle rfl) (nle rfl) (nle rfl) (nle rfl) rfl ?_
      refine x_ifb_eq 165 C eX8_line_152 rfl (fun h152 => ?_) (fun h152 => ?_)
      · refine x_iconst C eX8_line_165 ?_
        refine x_iret (by first | rfl | exact (narZ (by omega)).1) C F eX8_line_166 () ?_ trivial (fun cf c h => ?_) (nle rfl) (nle rfl)
        · rw [if_pos h18]
          first
            | (rw [show lineVal n l9 9 = (if 0 < n l9 12 then n l9 13 else -1) from rfl, if_pos h152])
            | (rw [show lineVal n l9 9 = (if 0 < n l9 12 then n l9 13 else -1) from rfl, if_neg h152])
        · exact WF_pick [0, 1] rfl rfl h
      · refine x_aload_n C eX8_line_155 rfl ?_
        refine x_iload_n C eX8_line_156 rfl ?_
        refine x_bipush C eX8_line_157 rfl ?_
        refine yV2r [] [_, _] C (s_X8_of hK hr (by (try simp (disch := omega) only [Int.reduceAdd, uN_s, uN_uN, un_s, un_un, un_n, ub_s, ub_n, inc, bStop_n, bDrop_s, bDrop_n, unub_n, nLog_n, nLog_h, Int.sub_add_cancel]); omega) (by (try simp (disch := omega) only [Int.reduceAdd, uN_s, uN_uN, un_s, un_un, un_n, ub_s, ub_n, inc, bStop_n, bDrop_s, bDrop_n, unub_n, nLog_n, nLog_h, Int.sub_add_cancel]); omega)) v_X8_of vv_X8_of s_RX8_64 eX8_line_159 (fun _ _ h => WF_pick [0, 1] rfl rfl h) (rcv 0 rfl) rfl (nle rfl) (nle rfl) (nle rfl) (nle rfl) rfl ?_
        refine x_goto (pc' := 166) C eX8_line_162 rfl ?_
        refine x_iret (by first | rfl | exact (narZ (by omega)).1) C F eX8_line_166 () ?_ trivial (fun cf c h => ?_) (nle rfl) (nle rfl)
        · rw [if_pos h18]
          first
            | (rw [show lineVal n l9 9 = (if 0 < n l9 12 then n l9 13 else -1) from rfl, if_pos h152])
            | (rw [show lineVal n l9 9 = (if 0 < n l9 12 then n l9 13 else -1) from rfl, if_neg h152])
        · exact WF_pick [0, 1] rfl rfl h
    · refine x_tabOut 167 C eX8_line_24 (by omega) hsw rfl ?_
      refine x_aload_n C eX8_line_167 rfl ?_
      refine x_iload_n C eX8_line_168 rfl ?_
      refine x_bipush C eX8_line_169 rfl ?_
      refine yV2r [] [_, _] C (s_X8_of hK hr (by (try simp (disch := omega) only [Int.reduceAdd, uN_s, uN_uN, un_s, un_un, un_n, ub_s, ub_n, inc, bStop_n, bDrop_s, bDrop_n, unub_n, nLog_n, nLog_h, Int.sub_add_cancel]); omega) (by (try simp (disch := omega) only [Int.reduceAdd, uN_s, uN_uN, un_s, un_un, un_n, ub_s, ub_n, inc, bStop_n, bDrop_s, bDrop_n, unub_n, nLog_n, nLog_h, Int.sub_add_cancel]); omega)) v_X8_of vv_X8_of s_RX8_64 eX8_line_171 (fun _ _ h => WF_pick [0, 1] rfl rfl h) (rcv 0 rfl) rfl (nle rfl) (nle rfl) (nle rfl) (nle rfl) rfl ?_
      refine x_iret (by first | rfl | exact (narZ (by omega)).1) C F eX8_line_174 () ?_ trivial (fun cf c h => ?_) (nle rfl) (nle rfl)
      · rw [if_pos h18]
        unfold lineVal
        rw [if_neg (by omega), if_neg (by omega), if_neg (by omega), if_neg (by omega), if_neg (by omega), if_neg (by omega), if_neg (by omega), if_neg (by omega), if_neg (by omega), if_neg (by omega)]
      · exact WF_pick [0, 1] rfl rfl h
  · refine x_iconst C eX8_line_21 ?_
    refine x_iret (by first | rfl | exact (narZ (by omega)).1) C F eX8_line_22 () ?_ trivial (fun cf c h => ?_) (nle rfl) (nle rfl)
    · rw [if_neg h18]
    · exact WF_pick [0, 1] rfl rfl h

set_option maxHeartbeats 4000000 in
set_option maxRecDepth 100000 in
theorem s_X8_property {G : Gm} {l : Launch} (hK : KG G) {o : Nat} {A : Nat → Nat} {I : Nat → Int} {N : Nat → Net} {n : Net} {b : Int} {w9 : Int} (hN : NetOk b n) (hb : b ≤ 900000000) (r_w9 : -2147483648 ≤ w9 ∧ w9 < 2147483648) : MD G l yX8_property cX8_property 2 (some .int) 4 0 0 [.ref o, .int (zI w9)] [ob o 10 (shM A 1) I, fam G A (uN N 1 (n))] (some (.int (if (0 ≤ w9 ∧ w9 ≤ 10) ∧ (True) ∧ (True) then propVal n w9 else zI 0))) [ob o 10 (shM A 1) (up I 0 (thr (0 ≤ w9 ∧ w9 ≤ 10) (True) (True))), fam G A (uN N 1 (n))] := by
  refine MX_of (lv := [some (.ref o), some (.int (zI w9))]) hK (by decide +kernel) rfl (nle rfl) (fun X C F => ?_)
  have C : OKc G X l RX8 "property" cX8_property 2 (some .int) 4 0 0 := C
  have hH := hN.1
  unfold HeadOk at hH
  have hr : rok 1 := Or.inl rfl
  refine x_aload_n C eX8_property_0 rfl ?_
  refine x_iload_n C eX8_property_1 rfl ?_
  refine x_i2l C eX8_property_2 (by omega) ?_
  refine x_lconst (v := 0) C eX8_property_3 rfl ?_
  refine x_ldc2 C eX8_property_4 k_RX8_294 ?_
  refine yS3r [_, _] [_, _] C (s_X8_in hK (by (try simp (disch := omega) only [Int.reduceAdd, uN_s, uN_uN, un_s, un_un, un_n, ub_s, ub_n, inc, bStop_n, bDrop_s, bDrop_n, unub_n, nLog_n, nLog_h, Int.sub_add_cancel]); omega)) v_X8_in vs_X8_in s_RX8_72 eX8_property_7 (fun _ _ h => WF_pick [0, 1] rfl rfl h) rfl (nle rfl) (nle rfl) (nle rfl) (nle rfl) rfl ?_
  refine yV1r [_] [_, _] C (s_X8_passesv hK (0 ≤ w9 ∧ w9 ≤ 10) (by first | rfl | rw [bz_t (by omega)] | rw [bz_f (by omega)])) v_X8_passes vv_X8_passes s_RX8_142 eX8_property_10 (fun _ _ h => WF_pick [0, 1] rfl rfl h) (rcv 0 rfl) rfl (nle rfl) (nle rfl) (nle rfl) (nle rfl) rfl ?_
  skip
  refine x_ifb_ne 18 C eX8_property_13 rfl (fun h13 => ?_) (fun h13 => ?_)
  · refine x_iload_n C eX8_property_18 rfl ?_
    have hsw : w9 = 0 ∨ w9 = 1 ∨ w9 = 2 ∨ w9 = 3 ∨ w9 = 4 ∨ w9 = 5 ∨ w9 = 6 ∨ w9 = 7 ∨ w9 = 8 ∨ w9 = 9 ∨ (w9 < 0 ∨ 9 < w9) := by omega
    rcases hsw with rfl | rfl | rfl | rfl | rfl | rfl | rfl | rfl | rfl | rfl | hsw
    · refine x_tabIn 72 C eX8_property_19 (by decide) (by decide) (by decide) rfl rfl ?_
      refine x_aload_n C eX8_property_72 rfl ?_
      refine yV0r [] [_, _] C (s_X8_lines hK hr) v_X8_lines vv_X8_lines s_RX8_68 eX8_property_73 (fun _ _ h => WF_pick [0, 1] rfl rfl h) (rcv 0 rfl) rfl (nle rfl) (nle rfl) (nle rfl) (nle rfl) rfl ?_
      refine x_iret (by first | rfl | exact (narZ (by omega)).1) C F eX8_property_76 () ?_ trivial (fun cf c h => ?_) (nle rfl) (nle rfl)
      · rw [if_pos h13]
        rfl
      · exact WF_pick [0, 1] rfl rfl h
    · refine x_tabIn 77 C eX8_property_19 (by decide) (by decide) (by decide) rfl rfl ?_
      refine x_aload_n C eX8_property_77 rfl ?_
      refine x_getR 0 C f_RX8_17 eX8_property_78 rfl rfl ?_
      refine x_iconst C eX8_property_81 ?_
      refine x_faldU 1 C eX8_property_82 rfl (Or.inl rfl) (by omega) ?_
      rw [enc_head _ (by omega)]
      refine x_iret (by first | rfl | exact (narZ (by omega)).1) C F eX8_property_83 () ?_ trivial (fun cf c h => ?_) (nle rfl) (nle rfl)
      · rw [if_pos h13]
        rfl
      · exact WF_pick [0, 1] rfl rfl h
    · refine x_tabIn 84 C eX8_property_19 (by decide) (by decide) (by decide) rfl rfl ?_
      refine x_aload_n C eX8_property_84 rfl ?_
      refine x_getR 0 C f_RX8_17 eX8_property_85 rfl rfl ?_
      refine x_iconst C eX8_property_88 ?_
      refine x_faldU 1 C eX8_property_89 rfl (Or.inl rfl) (by omega) ?_
      rw [enc_head _ (by omega)]
      refine x_iret (by first | rfl | exact (narZ (by omega)).1) C F eX8_property_90 () ?_ trivial (fun cf c h => ?_) (nle rfl) (nle rfl)
      · rw [if_pos h13]
        rfl
      · exact WF_pick [0, 1] rfl rfl h
    · refine x_tabIn 91 C eX8_property_19 (by decide) (by decide) (by decide) rfl rfl ?_
      refine x_aload_n C eX8_property_91 rfl ?_
      refine yV0r [] [_, _] C (s_X8_sender hK hr hN (by omega)) v_X8_sender vv_X8_sender s_RX8_120 eX8_property_92 (fun _ _ h => WF_pick [0, 1] rfl rfl h) (rcv 0 rfl) rfl (nle rfl) (nle rfl) (nle rfl) (nle rfl) rfl ?_
      refine x_iret (by first | rfl | exact (narZ (by omega)).1) C F eX8_property_95 () ?_ trivial (fun cf c h => ?_) (nle rfl) (nle rfl)
      · rw [if_pos h13]
        rfl
      · exact WF_pick [0, 1] rfl rfl h
    · refine x_tabIn 96 C eX8_property_19 (by decide) (by decide) (by decide) rfl rfl ?_
      refine x_aload_n C eX8_property_96 rfl ?_
      refine x_getR 0 C f_RX8_17 eX8_property_97 rfl rfl ?_
      refine x_iconst C eX8_property_100 ?_
      refine x_faldU 1 C eX8_property_101 rfl (Or.inl rfl) (by omega) ?_
      rw [enc_head _ (by omega)]
      refine x_iret (by first | rfl | exact (narZ (by omega)).1) C F eX8_property_102 () ?_ trivial (fun cf c h => ?_) (nle rfl) (nle rfl)
      · rw [if_pos h13]
        rfl
      · exact WF_pick [0, 1] rfl rfl h
    · refine x_tabIn 103 C eX8_property_19 (by decide) (by decide) (by decide) rfl rfl ?_
      refine x_aload_n C eX8_property_103 rfl ?_
      refine x_getR 0 C f_RX8_17 eX8_property_104 rfl rfl ?_
      refine x_iconst C eX8_property_107 ?_
      refine x_faldU 1 C eX8_property_108 rfl (Or.inl rfl) (by omega) ?_
      rw [enc_head _ (by omega)]
      refine x_iret (by first | rfl | exact (narZ (by omega)).1) C F eX8_property_109 () ?_ trivial (fun cf c h => ?_) (nle rfl) (nle rfl)
      · rw [if_pos h13]
        rfl
      · exact WF_pick [0, 1] rfl rfl h
    · refine x_tabIn 110 C eX8_property_19 (by decide) (by decide) (by decide) rfl rfl ?_
      refine x_aload_n C eX8_property_110 rfl ?_
      refine x_getR 0 C f_RX8_17 eX8_property_111 rfl rfl ?_
      refine x_iconst C eX8_property_114 ?_
      refine x_faldU 1 C eX8_property_115 rfl (Or.inl rfl) (by omega) ?_
      rw [enc_head _ (by omega)]
      refine x_iret (by first | rfl | exact (narZ (by omega)).1) C F eX8_property_116 () ?_ trivial (fun cf c h => ?_) (nle rfl) (nle rfl)
      · rw [if_pos h13]
        rfl
      · exact WF_pick [0, 1] rfl rfl h
    · refine x_tabIn 117 C eX8_property_19 (by decide) (by decide) (by decide) rfl rfl ?_
      refine x_aload_n C eX8_property_117 rfl ?_
      refine x_bipush C eX8_property_118 rfl ?_
      refine yV1r [] [_, _] C (s_X8_those hK hr hN (Or.inl rfl)) v_X8_those vv_X8_those s_RX8_296 eX8_property_120 (fun _ _ h => WF_pick [0, 1] rfl rfl h) (rcv 0 rfl) rfl (nle rfl) (nle rfl) (nle rfl) (nle rfl) rfl ?_
      refine x_iret (by first | rfl | exact (narZ (by omega)).1) C F eX8_property_123 () ?_ trivial (fun cf c h => ?_) (nle rfl) (nle rfl)
      · rw [if_pos h13]
        rfl
      · exact WF_pick [0, 1] rfl rfl h
    · refine x_tabIn 124 C eX8_property_19 (by decide) (by decide) (by decide) rfl rfl ?_
      refine x_aload_n C eX8_property_124 rfl ?_
      refine x_bipush C eX8_property_125 rfl ?_
      refine yV1r [] [_, _] C (s_X8_those hK hr hN (Or.inr (Or.inl rfl))) v_X8_those vv_X8_those s_RX8_296 eX8_property_127 (fun _ _ h => WF_pick [0, 1] rfl rfl h) (rcv 0 rfl) rfl (nle rfl) (nle rfl) (nle rfl) (nle rfl) rfl ?_
      refine x_iret (by first | rfl | exact (narZ (by omega)).1) C F eX8_property_130 () ?_ trivial (fun cf c h => ?_) (nle rfl) (nle rfl)
      · rw [if_pos h13]
        rfl
      · exact WF_pick [0, 1] rfl rfl h
    · refine x_tabIn 131 C eX8_property_19 (by decide) (by decide) (by decide) rfl rfl ?_
      refine x_aload_n C eX8_property_131 rfl ?_
      refine x_bipush C eX8_property_132 rfl ?_
      refine yV1r [] [_, _] C (s_X8_those hK hr hN (Or.inr (Or.inr (Or.inl rfl)))) v_X8_those vv_X8_those s_RX8_296 eX8_property_134 (fun _ _ h => WF_pick [0, 1] rfl rfl h) (rcv 0 rfl) rfl (nle rfl) (nle rfl) (nle rfl) (nle rfl) rfl ?_
      refine x_iret (by first | rfl | exact (narZ (by omega)).1) C F eX8_property_137 () ?_ trivial (fun cf c h => ?_) (nle rfl) (nle rfl)
      · rw [if_pos h13]
        rfl
      · exact WF_pick [0, 1] rfl rfl h
    · refine x_tabOut 138 C eX8_property_19 (by omega) hsw rfl ?_
      refine x_aload_n C eX8_property_138 rfl ?_
      refine x_bipush C eX8_property_139 rfl ?_
      refine yV1r [] [_, _] C (s_X8_those hK hr hN (Or.inr (Or.inr (Or.inr rfl)))) v_X8_those vv_X8_those s_RX8_296 eX8_property_141 (fun _ _ h => WF_pick [0, 1] rfl rfl h) (rcv 0 rfl) rfl (nle rfl) (nle rfl) (nle rfl) (nle rfl) rfl ?_
      refine x_iret (by first | rfl | exact (narZ (by omega)).1) C F eX8_property_144 () ?_ trivial (fun cf c h => ?_) (nle rfl) (nle rfl)
      · rw [if_pos h13]
        unfold propVal
        rw [if_neg (by omega), if_neg (by omega), if_neg (by omega), if_neg (by omega), if_neg (by omega), if_neg (by omega), if_neg (by omega), if_neg (by omega), if_neg (by omega), if_neg (by omega)]
      · exact WF_pick [0, 1] rfl rfl h
  · refine x_iconst C eX8_property_16 ?_
    refine x_iret (by first | rfl | exact (narZ (by omega)).1) C F eX8_property_17 () ?_ trivial (fun cf c h => ?_) (nle rfl) (nle rfl)
    · rw [if_neg h13]
    · exact WF_pick [0, 1] rfl rfl h
