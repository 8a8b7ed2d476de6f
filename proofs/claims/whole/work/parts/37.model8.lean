set_option maxHeartbeats 4000000 in
set_option maxRecDepth 100000 in
theorem s_X8_sentIn {G : Gm} {l : Launch} (hK : KG G) {o : Nat} {A : Nat → Nat} {I : Nat → Int} {N : Nat → Net} {n : Net} {b : Int} {l9 t9 : Int} (hN : NetOk b n) (hb : b ≤ 900000000) (r_l9 : -2147483648 ≤ l9 ∧ l9 < 2147483648) (r_t9 : -2147483648 ≤ t9 ∧ t9 < 2147483648) : MD G l yX8_sentIn cX8_sentIn 3 (some .int) 9 0 0 [.ref o, .int (zI l9), .int (zI t9)] [ob o 10 (shM A 1) I, fam G A (uN N 1 (n))] (some (.int (zI (if (0 ≤ l9 ∧ l9 ≤ n (-1) 0 - 1) ∧ (0 ≤ t9 ∧ t9 ≤ 500) ∧ (True) then nTicks t9.toNat n l9 (16 + 1) - n l9 (16 + 1) else 0)))) [ob o 10 (shM A 1) (up I 0 (thr (0 ≤ l9 ∧ l9 ≤ n (-1) 0 - 1) (0 ≤ t9 ∧ t9 ≤ 500) (True))), famQ G A n] := by
  refine MX_of (lv := [some (.ref o), some (.int (zI l9)), some (.int (zI t9))]) hK (by decide +kernel) rfl (nle rfl) (fun X C F => ?_)
  have C : OKc G X l RX8 "sentIn" cX8_sentIn 3 (some .int) 9 0 0 := C
  have hH := hN.1
  unfold HeadOk at hH
  have hr : rok 1 := Or.inl rfl
  refine x_aload_n C eX8_sentIn_0 rfl ?_
  refine x_aload_n C eX8_sentIn_1 rfl ?_
  refine x_iload_n C eX8_sentIn_2 rfl ?_
  refine yV1r [] [_, _] C (s_X8_isLine hK hr (by (try simp (disch := omega) only [Int.reduceAdd, uN_s, uN_uN, un_s, un_un, un_n, ub_s, ub_n, inc, bStop_n, bDrop_s, bDrop_n, unub_n, nLog_n, nLog_h, Int.sub_add_cancel]); omega) (by (try simp (disch := omega) only [Int.reduceAdd, uN_s, uN_uN, un_s, un_un, un_n, ub_s, ub_n, inc, bStop_n, bDrop_s, bDrop_n, unub_n, nLog_n, nLog_h, Int.sub_add_cancel]); omega)) v_X8_isLine vv_X8_isLine s_RX8_299 eX8_sentIn_3 (fun _ _ h => WF_pick [0, 1] rfl rfl h) (rcv 0 rfl) rfl (nle rfl) (nle rfl) (nle rfl) (nle rfl) rfl ?_
  refine x_iload_n C eX8_sentIn_6 rfl ?_
  refine x_iconst C eX8_sentIn_7 ?_
  refine yS2r [_, _] [_, _] C (s_X8_areTicks hK (by omega)) v_X8_areTicks vs_X8_areTicks s_RX8_330 eX8_sentIn_8 (fun _ _ h => WF_pick [0, 1] rfl rfl h) rfl (nle rfl) (nle rfl) (nle rfl) (nle rfl) rfl ?_
  refine yV2r [_] [_, _] C (s_X8_passes2v hK (0 ≤ l9 ∧ l9 ≤ n (-1) 0 - 1) (0 ≤ t9 ∧ t9 ≤ 500) (by first | rfl | rw [bz_t (by omega)] | rw [bz_f (by omega)]) (by first | rfl | rw [bz_t (by omega)] | rw [bz_f (by omega)])) v_X8_passes2 vv_X8_passes2 s_RX8_302 eX8_sentIn_11 (fun _ _ h => WF_pick [0, 1] rfl rfl h) (rcv 0 rfl) rfl (nle rfl) (nle rfl) (nle rfl) (nle rfl) rfl ?_
  skip
  refine x_ifb_ne 19 C eX8_sentIn_14 rfl (fun h14 => ?_) (fun h14 => ?_)
  · refine x_aload_n C eX8_sentIn_19 rfl ?_
    refine yV0v [] [_, _] C (s_X8_keepAside hK ) v_X8_keepAside vv_X8_keepAside s_RX8_319 eX8_sentIn_20 (fun _ _ h => WF_pick [0, 1] rfl rfl h) (rcv 0 rfl) rfl (nle rfl) (nle rfl) (nle rfl) (nle rfl) rfl ?_
    skip
    refine x_aload_n C eX8_sentIn_23 rfl ?_
    refine x_aload_n C eX8_sentIn_24 rfl ?_
    refine x_iload_n C eX8_sentIn_25 rfl ?_
    refine x_iconst C eX8_sentIn_26 ?_
    refine x_iload_n C eX8_sentIn_27 rfl ?_
    refine yV3r [] [_, _] C (s_X8_growsIn_one hK hr hN (by (try simp (disch := omega) only [Int.reduceAdd, uN_s, uN_uN, un_s, un_un, un_n, ub_s, ub_n, inc, bStop_n, bDrop_s, bDrop_n, unub_n, nLog_n, nLog_h, Int.sub_add_cancel]); omega) (by omega) (by (try simp (disch := omega) only [Int.reduceAdd, uN_s, uN_uN, un_s, un_un, un_n, ub_s, ub_n, inc, bStop_n, bDrop_s, bDrop_n, unub_n, nLog_n, nLog_h, Int.sub_add_cancel]); omega) (by (try simp (disch := omega) only [Int.reduceAdd, uN_s, uN_uN, un_s, un_un, un_n, ub_s, ub_n, inc, bStop_n, bDrop_s, bDrop_n, unub_n, nLog_n, nLog_h, Int.sub_add_cancel]); omega)) v_X8_growsIn vv_X8_growsIn s_RX8_334 eX8_sentIn_28 (fun _ _ h => WF_pick [0, 1] rfl rfl h) (rcv 0 rfl) rfl (nle rfl) (nle rfl) (nle rfl) (nle rfl) rfl ?_
    skip
    refine yV1r [] [_, _] C (s_X8_layBack hK ) v_X8_layBack vv_X8_layBack s_RX8_322 eX8_sentIn_31 (fun _ _ h => WF_pick [0, 1] rfl rfl h) (rcv 0 rfl) rfl (nle rfl) (nle rfl) (nle rfl) (nle rfl) rfl ?_
    skip
    refine x_iret (by first | rfl | exact (narZ (by omega)).1) C F eX8_sentIn_34 () ?_ trivial (fun cf c h => ?_) (nle rfl) (nle rfl)
    · split
      all_goals first | rfl | contradiction | (exfalso; omega)
    · refine PW.wf (PW_cons (fun _ h => h) (PW_cons (fun _ h => ⟨_, h⟩) PW_nil)) (WF_pick [0, 1] rfl rfl h)
  · refine x_iconst C eX8_sentIn_17 ?_
    refine x_iret (by first | rfl | exact (narZ (by omega)).1) C F eX8_sentIn_18 () ?_ trivial (fun cf c h => ?_) (nle rfl) (nle rfl)
    · split
      all_goals first | rfl | contradiction | (exfalso; omega)
    · refine PW.wf (PW_cons (fun _ h => h) (PW_cons (fun _ h => ⟨_, h⟩) PW_nil)) (WF_pick [0, 1] rfl rfl h)

set_option maxHeartbeats 4000000 in
set_option maxRecDepth 100000 in
theorem s_X8_deliveredIn {G : Gm} {l : Launch} (hK : KG G) {o : Nat} {A : Nat → Nat} {I : Nat → Int} {N : Nat → Net} {n : Net} {b : Int} {l9 t9 : Int} (hN : NetOk b n) (hb : b ≤ 900000000) (r_l9 : -2147483648 ≤ l9 ∧ l9 < 2147483648) (r_t9 : -2147483648 ≤ t9 ∧ t9 < 2147483648) : MD G l yX8_deliveredIn cX8_deliveredIn 3 (some .int) 9 0 0 [.ref o, .int (zI l9), .int (zI t9)] [ob o 10 (shM A 1) I, fam G A (uN N 1 (n))] (some (.int (zI (if (0 ≤ l9 ∧ l9 ≤ n (-1) 0 - 1) ∧ (0 ≤ t9 ∧ t9 ≤ 500) ∧ (True) then nTicks t9.toNat n l9 (16 + 5) - n l9 (16 + 5) else 0)))) [ob o 10 (shM A 1) (up I 0 (thr (0 ≤ l9 ∧ l9 ≤ n (-1) 0 - 1) (0 ≤ t9 ∧ t9 ≤ 500) (True))), famQ G A n] := by
  refine MX_of (lv := [some (.ref o), some (.int (zI l9)), some (.int (zI t9))]) hK (by decide +kernel) rfl (nle rfl) (fun X C F => ?_)
  have C : OKc G X l RX8 "deliveredIn" cX8_deliveredIn 3 (some .int) 9 0 0 := C
  have hH := hN.1
  unfold HeadOk at hH
  have hr : rok 1 := Or.inl rfl
  refine x_aload_n C eX8_deliveredIn_0 rfl ?_
  refine x_aload_n C eX8_deliveredIn_1 rfl ?_
  refine x_iload_n C eX8_deliveredIn_2 rfl ?_
  refine yV1r [] [_, _] C (s_X8_isLine hK hr (by (try simp (disch := omega) only [Int.reduceAdd, uN_s, uN_uN, un_s, un_un, un_n, ub_s, ub_n, inc, bStop_n, bDrop_s, bDrop_n, unub_n, nLog_n, nLog_h, Int.sub_add_cancel]); omega) (by (try simp (disch := omega) only [Int.reduceAdd, uN_s, uN_uN, un_s, un_un, un_n, ub_s, ub_n, inc, bStop_n, bDrop_s, bDrop_n, unub_n, nLog_n, nLog_h, Int.sub_add_cancel]); omega)) v_X8_isLine vv_X8_isLine s_RX8_299 eX8_deliveredIn_3 (fun _ _ h => WF_pick [0, 1] rfl rfl h) (rcv 0 rfl) rfl (nle rfl) (nle rfl) (nle rfl) (nle rfl) rfl ?_
  refine x_iload_n C eX8_deliveredIn_6 rfl ?_
  refine x_iconst C eX8_deliveredIn_7 ?_
  refine yS2r [_, _] [_, _] C (s_X8_areTicks hK (by omega)) v_X8_areTicks vs_X8_areTicks s_RX8_330 eX8_deliveredIn_8 (fun _ _ h => WF_pick [0, 1] rfl rfl h) rfl (nle rfl) (nle rfl) (nle rfl) (nle rfl) rfl ?_
  refine yV2r [_] [_, _] C (s_X8_passes2v hK (0 ≤ l9 ∧ l9 ≤ n (-1) 0 - 1) (0 ≤ t9 ∧ t9 ≤ 500) (by first | rfl | rw [bz_t (by omega)] | rw [bz_f (by omega)]) (by first | rfl | rw [bz_t (by omega)] | rw [bz_f (by omega)])) v_X8_passes2 vv_X8_passes2 s_RX8_302 eX8_deliveredIn_11 (fun _ _ h => WF_pick [0, 1] rfl rfl h) (rcv 0 rfl) rfl (nle rfl) (nle rfl) (nle rfl) (nle rfl) rfl ?_
  skip
  refine x_ifb_ne 19 C eX8_deliveredIn_14 rfl (fun h14 => ?_) (fun h14 => ?_)
  · refine x_aload_n C eX8_deliveredIn_19 rfl ?_
    refine yV0v [] [_, _] C (s_X8_keepAside hK ) v_X8_keepAside vv_X8_keepAside s_RX8_319 eX8_deliveredIn_20 (fun _ _ h => WF_pick [0, 1] rfl rfl h) (rcv 0 rfl) rfl (nle rfl) (nle rfl) (nle rfl) (nle rfl) rfl ?_
    skip
    refine x_aload_n C eX8_deliveredIn_23 rfl ?_
    refine x_aload_n C eX8_deliveredIn_24 rfl ?_
    refine x_iload_n C eX8_deliveredIn_25 rfl ?_
    refine x_iconst C eX8_deliveredIn_26 ?_
    refine x_iload_n C eX8_deliveredIn_27 rfl ?_
    refine yV3r [] [_, _] C (s_X8_growsIn_one hK hr hN (by (try simp (disch := omega) only [Int.reduceAdd, uN_s, uN_uN, un_s, un_un, un_n, ub_s, ub_n, inc, bStop_n, bDrop_s, bDrop_n, unub_n, nLog_n, nLog_h, Int.sub_add_cancel]); omega) (by omega) (by (try simp (disch := omega) only [Int.reduceAdd, uN_s, uN_uN, un_s, un_un, un_n, ub_s, ub_n, inc, bStop_n, bDrop_s, bDrop_n, unub_n, nLog_n, nLog_h, Int.sub_add_cancel]); omega) (by (try simp (disch := omega) only [Int.reduceAdd, uN_s, uN_uN, un_s, un_un, un_n, ub_s, ub_n, inc, bStop_n, bDrop_s, bDrop_n, unub_n, nLog_n, nLog_h, Int.sub_add_cancel]); omega)) v_X8_growsIn vv_X8_growsIn s_RX8_334 eX8_deliveredIn_28 (fun _ _ h => WF_pick [0, 1] rfl rfl h) (rcv 0 rfl) rfl (nle rfl) (nle rfl) (nle rfl) (nle rfl) rfl ?_
    skip
    refine yV1r [] [_, _] C (s_X8_layBack hK ) v_X8_layBack vv_X8_layBack s_RX8_322 eX8_deliveredIn_31 (fun _ _ h => WF_pick [0, 1] rfl rfl h) (rcv 0 rfl) rfl (nle rfl) (nle rfl) (nle rfl) (nle rfl) rfl ?_
    skip
    refine x_iret (by first | rfl | exact (narZ (by omega)).1) C F eX8_deliveredIn_34 () ?_ trivial (fun cf c h => ?_) (nle rfl) (nle rfl)
    · split
      all_goals first | rfl | contradiction | (exfalso; omega)
    · refine PW.wf (PW_cons (fun _ h => h) (PW_cons (fun _ h => ⟨_, h⟩) PW_nil)) (WF_pick [0, 1] rfl rfl h)
  · refine x_iconst C eX8_deliveredIn_17 ?_
    refine x_iret (by first | rfl | exact (narZ (by omega)).1) C F eX8_deliveredIn_18 () ?_ trivial (fun cf c h => ?_) (nle rfl) (nle rfl)
    · split
      all_goals first | rfl | contradiction | (exfalso; omega)
    · refine PW.wf (PW_cons (fun _ h => h) (PW_cons (fun _ h => ⟨_, h⟩) PW_nil)) (WF_pick [0, 1] rfl rfl h)

set_option maxHeartbeats 4000000 in
set_option maxRecDepth 100000 in
theorem s_X8_areTwo {G : Gm} {l : Launch} (hK : KG G) {o r : Nat} {A : Nat → Nat} {I : Nat → Int} {N : Nat → Net} {n : Net} {l9 o9 : Int} (hr : rok r) (hl : -2147483648 ≤ l9 ∧ l9 < 2147483648) (ho : -2147483648 ≤ o9 ∧ o9 < 2147483648) (hn : 0 ≤ n (-1) 0 ∧ n (-1) 0 ≤ 6) : MD G l yX8_areTwo cX8_areTwo 3 (some .boolean) 3 0 0 [.ref o, .int (zI l9), .int (zI o9)] [ob o 10 (shM A r) I, fam G A (uN N r n)] (some (.int (zI (bz ((0 ≤ l9 ∧ l9 ≤ n (-1) 0 - 1) ∧ 0 ≤ o9 ∧ o9 ≤ n (-1) 0 - 1))))) [ob o 10 (shM A r) I, fam G A (uN N r n)] := by
  refine MX_of (lv := [some (.ref o), some (.int (zI l9)), some (.int (zI o9))]) hK (by decide +kernel) rfl (nle rfl) (fun X C F => ?_)
  have C : OKc G X l RX8 "areTwo" cX8_areTwo 3 (some .boolean) 3 0 0 := C
  refine x_aload_n C eX8_areTwo_0 rfl ?_
  refine x_iload_n C eX8_areTwo_1 rfl ?_
  refine yV1r [] [_, _] C (s_X8_isLine hK hr (by (try simp (disch := omega) only [Int.reduceAdd, uN_s, uN_uN, un_s, un_un, un_n, ub_s, ub_n, inc, bStop_n, bDrop_s, bDrop_n, unub_n, nLog_n, nLog_h, Int.sub_add_cancel]); omega) (by (try simp (disch := omega) only [Int.reduceAdd, uN_s, uN_uN, un_s, un_un, un_n, ub_s, ub_n, inc, bStop_n, bDrop_s, bDrop_n, unub_n, nLog_n, nLog_h, Int.sub_add_cancel]); omega)) v_X8_isLine vv_X8_isLine s_RX8_299 eX8_areTwo_2 (fun _ _ h => WF_pick [0, 1] rfl rfl h) (rcv 0 rfl) rfl (nle rfl) (nle rfl) (nle rfl) (nle rfl) rfl ?_
  refine x_ifb_eq 20 C eX8_areTwo_5 rfl (fun h5 => ?_) (fun h5 => ?_)
  · refine x_iconst C eX8_areTwo_20 ?_
    refine x_iret (narZ (by omega)).1 C F eX8_areTwo_21 () ?_ trivial (fun cf c h => ?_) (nle rfl) (nle rfl)
    · first | rfl | rw [bz_t (by omega)] | rw [bz_f (by omega)]
    · exact WF_pick [0, 1] rfl rfl h
  · refine x_aload_n C eX8_areTwo_8 rfl ?_
    refine x_iload_n C eX8_areTwo_9 rfl ?_
    refine yV1r [] [_, _] C (s_X8_isLine hK hr (by (try simp (disch := omega) only [Int.reduceAdd, uN_s, uN_uN, un_s, un_un, un_n, ub_s, ub_n, inc, bStop_n, bDrop_s, bDrop_n, unub_n, nLog_n, nLog_h, Int.sub_add_cancel]); omega) (by (try simp (disch := omega) only [Int.reduceAdd, uN_s, uN_uN, un_s, un_un, un_n, ub_s, ub_n, inc, bStop_n, bDrop_s, bDrop_n, unub_n, nLog_n, nLog_h, Int.sub_add_cancel]); omega)) v_X8_isLine vv_X8_isLine s_RX8_299 eX8_areTwo_10 (fun _ _ h => WF_pick [0, 1] rfl rfl h) (rcv 0 rfl) rfl (nle rfl) (nle rfl) (nle rfl) (nle rfl) rfl ?_
    refine x_ifb_eq 20 C eX8_areTwo_13 rfl (fun h13 => ?_) (fun h13 => ?_)
    · refine x_iconst C eX8_areTwo_20 ?_
      refine x_iret (narZ (by omega)).1 C F eX8_areTwo_21 () ?_ trivial (fun cf c h => ?_) (nle rfl) (nle rfl)
      · first | rfl | rw [bz_t (by omega)] | rw [bz_f (by omega)]
      · exact WF_pick [0, 1] rfl rfl h
    · refine x_iconst C eX8_areTwo_16 ?_
      refine x_goto (pc' := 21) C eX8_areTwo_17 rfl ?_
      refine x_iret (narZ (by omega)).1 C F eX8_areTwo_21 () ?_ trivial (fun cf c h => ?_) (nle rfl) (nle rfl)
      · first | rfl | rw [bz_t (by omega)] | rw [bz_f (by omega)]
      · exact WF_pick [0, 1] rfl rfl h

set_option maxHeartbeats 4000000 in
set_option maxRecDepth 100000 in
theorem s_X8_sentLent_all {G : Gm} {l : Launch} (hK : KG G) {o : Nat} {A : Nat → Nat} {I : Nat → Int} {N : Nat → Net} {n : Net} {b l9 o9 : Int} (hN : NetOk b n) (hb : b ≤ 900000000) (hl : 0 ≤ l9 ∧ l9 < n (-1) 0) (ho : 0 ≤ o9 ∧ o9 < n (-1) 0) (hne : ¬ o9 = l9) : MD G l yX8_sentLent cX8_sentLent 4 (some .int) 9 0 0 [.ref o, .int (zI (-1)), .int (zI l9), .int (zI o9)] [ob o 10 (shM A 1) I, fam G A (uN N 1 (n))] (some (.int (zI (aLent n (-1) l9 o9)))) [ob o 10 (shM A 1) I, fam G A (uN (uN N 4 (n)) 1 (n))] := by
  refine MX_of (lv := [some (.ref o), some (.int (zI (-1))), some (.int (zI l9)), some (.int (zI o9))]) hK (by decide +kernel) rfl (nle rfl) (fun X C F => ?_)
  have C : OKc G X l RX8 "sentLent" cX8_sentLent 4 (some .int) 9 0 0 := C
  have hH := hN.1
  unfold HeadOk at hH
  have hr : rok 1 := Or.inl rfl
  have hE := NetOk_lend (t := 99) hN hl ho hne (by decide)
  refine x_aload_n C eX8_sentLent_0 rfl ?_
  refine yV0v [] [_, _] C (s_X8_keepAside hK ) v_X8_keepAside vv_X8_keepAside s_RX8_319 eX8_sentLent_1 (fun _ _ h => WF_pick [0, 1] rfl rfl h) (rcv 0 rfl) rfl (nle rfl) (nle rfl) (nle rfl) (nle rfl) rfl ?_
  skip
  refine x_aload_n C eX8_sentLent_4 rfl ?_
  refine x_iload_n C eX8_sentLent_5 rfl ?_
  refine x_iload_n C eX8_sentLent_6 rfl ?_
  refine x_bipush C eX8_sentLent_7 rfl ?_
  refine yV3v [] [_, _] C (s_X8_lendNow hK hr (by (try simp (disch := omega) only [Int.reduceAdd, uN_s, uN_uN, un_s, un_un, un_n, ub_s, ub_n, inc, bStop_n, bDrop_s, bDrop_n, unub_n, nLog_n, nLog_h, Int.sub_add_cancel]); omega)) v_X8_lendNow vv_X8_lendNow s_RX8_268 eX8_sentLent_9 (fun _ _ h => WF_pick [0, 1] rfl rfl h) (rcv 0 rfl) rfl (nle rfl) (nle rfl) (nle rfl) (nle rfl) rfl ?_
  skip
  refine x_aload_n C eX8_sentLent_12 rfl ?_
  refine x_aload_n C eX8_sentLent_13 rfl ?_
  refine x_iload_n C eX8_sentLent_14 rfl ?_
  refine x_iconst C eX8_sentLent_15 ?_
  refine x_bipush C eX8_sentLent_16 rfl ?_
  refine yV3r [] [_, _] C (s_X8_growsIn_all hK hr hE (by decide) (by omega)) v_X8_growsIn vv_X8_growsIn s_RX8_334 eX8_sentLent_18 (fun _ _ h => WF_pick [0, 1] rfl rfl h) (rcv 0 rfl) rfl (nle rfl) (nle rfl) (nle rfl) (nle rfl) rfl ?_
  skip
  refine yV1r [] [_, _] C (s_X8_layBack hK ) v_X8_layBack vv_X8_layBack s_RX8_322 eX8_sentLent_21 (fun _ _ h => WF_pick [0, 1] rfl rfl h) (rcv 0 rfl) rfl (nle rfl) (nle rfl) (nle rfl) (nle rfl) rfl ?_
  skip
  refine x_iret (by first | rfl | exact (narZ (by omega)).1) C F eX8_sentLent_24 () ?_ trivial (fun cf c h => ?_) (nle rfl) (nle rfl)
  · rw [aLent_all hl.1]
  · exact WF_pick [0, 1] rfl rfl h

set_option maxHeartbeats 4000000 in
set_option maxRecDepth 100000 in
theorem s_X8_sentLent_one {G : Gm} {l : Launch} (hK : KG G) {o : Nat} {A : Nat → Nat} {I : Nat → Int} {N : Nat → Net} {n : Net} {b g9 l9 o9 : Int} (hN : NetOk b n) (hb : b ≤ 900000000) (hl : 0 ≤ l9 ∧ l9 < n (-1) 0) (ho : 0 ≤ o9 ∧ o9 < n (-1) 0) (hne : ¬ o9 = l9) (hg : 0 ≤ g9 ∧ g9 < 6) : MD G l yX8_sentLent cX8_sentLent 4 (some .int) 9 0 0 [.ref o, .int (zI g9), .int (zI l9), .int (zI o9)] [ob o 10 (shM A 1) I, fam G A (uN N 1 (n))] (some (.int (zI (nTicks (100 : Int).toNat (un n l9 (bLend (n l9) o9 99)) g9 (16 + 1) - (un n l9 (bLend (n l9) o9 99)) g9 (16 + 1))))) [ob o 10 (shM A 1) I, fam G A (uN (uN N 4 (n)) 1 (n))] := by
  refine MX_of (lv := [some (.ref o), some (.int (zI g9)), some (.int (zI l9)), some (.int (zI o9))]) hK (by decide +kernel) rfl (nle rfl) (fun X C F => ?_)
  have C : OKc G X l RX8 "sentLent" cX8_sentLent 4 (some .int) 9 0 0 := C
  have hH := hN.1
  unfold HeadOk at hH
  have hr : rok 1 := Or.inl rfl
  have hE := NetOk_lend (t := 99) hN hl ho hne (by decide)
  refine x_aload_n C eX8_sentLent_0 rfl ?_
  refine yV0v [] [_, _] C (s_X8_keepAside hK ) v_X8_keepAside vv_X8_keepAside s_RX8_319 eX8_sentLent_1 (fun _ _ h => WF_pick [0, 1] rfl rfl h) (rcv 0 rfl) rfl (nle rfl) (nle rfl) (nle rfl) (nle rfl) rfl ?_
  skip
  refine x_aload_n C eX8_sentLent_4 rfl ?_
  refine x_iload_n C eX8_sentLent_5 rfl ?_
  refine x_iload_n C eX8_sentLent_6 rfl ?_
  refine x_bipush C eX8_sentLent_7 rfl ?_
  refine yV3v [] [_, _] C (s_X8_lendNow hK hr (by (try simp (disch := omega) only [Int.reduceAdd, uN_s, uN_uN, un_s, un_un, un_n, ub_s, ub_n, inc, bStop_n, bDrop_s, bDrop_n, unub_n, nLog_n, nLog_h, Int.sub_add_cancel]); omega)) v_X8_lendNow vv_X8_lendNow s_RX8_268 eX8_sentLent_9 (fun _ _ h => WF_pick [0, 1] rfl rfl h) (rcv 0 rfl) rfl (nle rfl) (nle rfl) (nle rfl) (nle rfl) rfl ?_
  skip
  refine x_aload_n C eX8_sentLent_12 rfl ?_
  refine x_aload_n C eX8_sentLent_13 rfl ?_
  refine x_iload_n C eX8_sentLent_14 rfl ?_
  refine x_iconst C eX8_sentLent_15 ?_
  refine x_bipush C eX8_sentLent_16 rfl ?_
  refine yV3r [] [_, _] C (s_X8_growsIn_one hK hr hE (by decide) (by omega) (by (try simp (disch := omega) only [Int.reduceAdd, uN_s, uN_uN, un_s, un_un, un_n, ub_s, ub_n, inc, bStop_n, bDrop_s, bDrop_n, unub_n, nLog_n, nLog_h, Int.sub_add_cancel]); omega) (by (try simp (disch := omega) only [Int.reduceAdd, uN_s, uN_uN, un_s, un_un, un_n, ub_s, ub_n, inc, bStop_n, bDrop_s, bDrop_n, unub_n, nLog_n, nLog_h, Int.sub_add_cancel]); omega)) v_X8_growsIn vv_X8_growsIn s_RX8_334 eX8_sentLent_18 (fun _ _ h => WF_pick [0, 1] rfl rfl h) (rcv 0 rfl) rfl (nle rfl) (nle rfl) (nle rfl) (nle rfl) rfl ?_
  skip
  refine yV1r [] [_, _] C (s_X8_layBack hK ) v_X8_layBack vv_X8_layBack s_RX8_322 eX8_sentLent_21 (fun _ _ h => WF_pick [0, 1] rfl rfl h) (rcv 0 rfl) rfl (nle rfl) (nle rfl) (nle rfl) (nle rfl) rfl ?_
  skip
  refine x_iret (by first | rfl | exact (narZ (by omega)).1) C F eX8_sentLent_24 () ?_ trivial (fun cf c h => ?_) (nle rfl) (nle rfl)
  · rfl
  · exact WF_pick [0, 1] rfl rfl h

set_option maxHeartbeats 4000000 in
set_option maxRecDepth 100000 in
theorem s_X8_sentIfLent {G : Gm} {l : Launch} (hK : KG G) {o : Nat} {A : Nat → Nat} {I : Nat → Int} {N : Nat → Net} {n : Net} {b : Int} {l9 o9 : Int} (hN : NetOk b n) (hb : b ≤ 900000000) (r_l9 : -2147483648 ≤ l9 ∧ l9 < 2147483648) (r_o9 : -2147483648 ≤ o9 ∧ o9 < 2147483648) : MD G l yX8_sentIfLent cX8_sentIfLent 3 (some .int) 10 0 0 [.ref o, .int (zI l9), .int (zI o9)] [ob o 10 (shM A 1) I, fam G A (uN N 1 (n))] (some (.int (zI (if ((0 ≤ l9 ∧ l9 ≤ n (-1) 0 - 1) ∧ 0 ≤ o9 ∧ o9 ≤ n (-1) 0 - 1) ∧ (¬ l9 = o9) ∧ (True) then aLent n l9 l9 o9 else 0)))) [ob o 10 (shM A 1) (up I 0 (thr ((0 ≤ l9 ∧ l9 ≤ n (-1) 0 - 1) ∧ 0 ≤ o9 ∧ o9 ≤ n (-1) 0 - 1) (¬ l9 = o9) (True))), famQ G A n] := by
  refine MX_of (lv := [some (.ref o), some (.int (zI l9)), some (.int (zI o9))]) hK (by decide +kernel) rfl (nle rfl) (fun X C F => ?_)
  have C : OKc G X l RX8 "sentIfLent" cX8_sentIfLent 3 (some .int) 10 0 0 := C
  have hH := hN.1
  unfold HeadOk at hH
  have hr : rok 1 := Or.inl rfl
  refine x_aload_n C eX8_sentIfLent_0 rfl ?_
  refine x_aload_n C eX8_sentIfLent_1 rfl ?_
  refine x_iload_n C eX8_sentIfLent_2 rfl ?_
  refine x_iload_n C eX8_sentIfLent_3 rfl ?_
  refine yV2r [] [_, _] C (s_X8_areTwo hK hr (by (try simp (disch := omega) only [Int.reduceAdd, uN_s, uN_uN, un_s, un_un, un_n, ub_s, ub_n, inc, bStop_n, bDrop_s, bDrop_n, unub_n, nLog_n, nLog_h, Int.sub_add_cancel]); omega) (by (try simp (disch := omega) only [Int.reduceAdd, uN_s, uN_uN, un_s, un_un, un_n, ub_s, ub_n, inc, bStop_n, bDrop_s, bDrop_n, unub_n, nLog_n, nLog_h, Int.sub_add_cancel]); omega) (by (try simp (disch := omega) only [Int.reduceAdd, uN_s, uN_uN, un_s, un_un, un_n, ub_s, ub_n, inc, bStop_n, bDrop_s, bDrop_n, unub_n, nLog_n, nLog_h, Int.sub_add_cancel]); omega)) v_X8_areTwo vv_X8_areTwo s_RX8_338 eX8_sentIfLent_4 (fun _ _ h => WF_pick [0, 1] rfl rfl h) (rcv 0 rfl) rfl (nle rfl) (nle rfl) (nle rfl) (nle rfl) rfl ?_
  refine x_iload_n C eX8_sentIfLent_7 rfl ?_
  refine x_iload_n C eX8_sentIfLent_8 rfl ?_
  refine x_icmp_eq 16 C eX8_sentIfLent_9 rfl (by omega) (by omega) (fun h9 => ?_) (fun h9 => ?_)
  · refine x_iconst C eX8_sentIfLent_16 ?_
    refine yV2r [_] [_, _] C (s_X8_passes2v hK ((0 ≤ l9 ∧ l9 ≤ n (-1) 0 - 1) ∧ 0 ≤ o9 ∧ o9 ≤ n (-1) 0 - 1) (¬ l9 = o9) (by first | rfl | rw [bz_t (by omega)] | rw [bz_f (by omega)]) (by first | rfl | rw [bz_t (by omega)] | rw [bz_f (by omega)])) v_X8_passes2 vv_X8_passes2 s_RX8_302 eX8_sentIfLent_17 (fun _ _ h => WF_pick [0, 1] rfl rfl h) (rcv 0 rfl) rfl (nle rfl) (nle rfl) (nle rfl) (nle rfl) rfl ?_
    skip
    refine x_ifb_eq 33 C eX8_sentIfLent_20 rfl (fun h20 => ?_) (fun h20 => ?_)
    · refine x_iconst C eX8_sentIfLent_33 ?_
      refine x_iret (by first | rfl | exact (narZ (by omega)).1) C F eX8_sentIfLent_34 () ?_ trivial (fun cf c h => ?_) (nle rfl) (nle rfl)
      · split
        all_goals first
          | rfl
          | contradiction
          | (rw [aLent_one (by omega)])
      · first
          | exact WF_pick [0, 1] rfl rfl h
          | (refine PW.wf (PW_cons (fun _ h => h) (PW_cons (fun _ h => ⟨_, h⟩) PW_nil)) (WF_pick [0, 1] rfl rfl h))
    · refine x_aload_n C eX8_sentIfLent_23 rfl ?_
      refine x_iload_n C eX8_sentIfLent_24 rfl ?_
      refine x_iload_n C eX8_sentIfLent_25 rfl ?_
      refine x_iload_n C eX8_sentIfLent_26 rfl ?_
      refine yV3r [] [_, _] C (s_X8_sentLent_one hK hN (by omega) (by (try simp (disch := omega) only [Int.reduceAdd, uN_s, uN_uN, un_s, un_un, un_n, ub_s, ub_n, inc, bStop_n, bDrop_s, bDrop_n, unub_n, nLog_n, nLog_h, Int.sub_add_cancel]); omega) (by (try simp (disch := omega) only [Int.reduceAdd, uN_s, uN_uN, un_s, un_un, un_n, ub_s, ub_n, inc, bStop_n, bDrop_s, bDrop_n, unub_n, nLog_n, nLog_h, Int.sub_add_cancel]); omega) (by (try simp (disch := omega) only [Int.reduceAdd, uN_s, uN_uN, un_s, un_un, un_n, ub_s, ub_n, inc, bStop_n, bDrop_s, bDrop_n, unub_n, nLog_n, nLog_h, Int.sub_add_cancel]); omega) (by (try simp (disch := omega) only [Int.reduceAdd, uN_s, uN_uN, un_s, un_un, un_n, ub_s, ub_n, inc, bStop_n, bDrop_s, bDrop_n, unub_n, nLog_n, nLog_h, Int.sub_add_cancel]); omega)) v_X8_sentLent vv_X8_sentLent s_RX8_341 eX8_sentIfLent_27 (fun _ _ h => WF_pick [0, 1] rfl rfl h) (rcv 0 rfl) rfl (nle rfl) (nle rfl) (nle rfl) (nle rfl) rfl ?_
      skip
      refine x_goto (pc' := 34) C eX8_sentIfLent_30 rfl ?_
      refine x_iret (by first | rfl | exact (narZ (by omega)).1) C F eX8_sentIfLent_34 () ?_ trivial (fun cf c h => ?_) (nle rfl) (nle rfl)
      · split
        all_goals first
          | rfl
          | contradiction
          | (rw [aLent_one (by omega)])
      · first
          | exact WF_pick [0, 1] rfl rfl h
          | (refine PW.wf (PW_cons (fun _ h => h) (PW_cons (fun _ h => ⟨_, h⟩) PW_nil)) (WF_pick [0, 1] rfl rfl h))
  · refine x_iconst C eX8_sentIfLent_12 ?_
    refine x_goto (pc' := 17) C eX8_sentIfLent_13 rfl ?_
    refine yV2r [_] [_, _] C (s_X8_passes2v hK ((0 ≤ l9 ∧ l9 ≤ n (-1) 0 - 1) ∧ 0 ≤ o9 ∧ o9 ≤ n (-1) 0 - 1) (¬ l9 = o9) (by first | rfl | rw [bz_t (by omega)] | rw [bz_f (by omega)]) (by first | rfl | rw [bz_t (by omega)] | rw [bz_f (by omega)])) v_X8_passes2 vv_X8_passes2 s_RX8_302 eX8_sentIfLent_17 (fun _ _ h => WF_pick [0, 1] rfl rfl h) (rcv 0 rfl) rfl (nle rfl) (nle rfl) (nle rfl) (nle rfl) rfl ?_
    skip
    refine x_ifb_eq 33 C eX8_sentIfLent_20 rfl (fun h20 => ?_) (fun h20 => ?_)
    · refine x_iconst C eX8_sentIfLent_33 ?_
      refine x_iret (by first | rfl | exact (narZ (by omega)).1) C F eX8_sentIfLent_34 () ?_ trivial (fun cf c h => ?_) (nle rfl) (nle rfl)
      · split
        all_goals first
          | rfl
          | contradiction
          | (rw [aLent_one (by omega)])
      · first
          | exact WF_pick [0, 1] rfl rfl h
          | (refine PW.wf (PW_cons (fun _ h => h) (PW_cons (fun _ h => ⟨_, h⟩) PW_nil)) (WF_pick [0, 1] rfl rfl h))
    · refine x_aload_n C eX8_sentIfLent_23 rfl ?_
      refine x_iload_n C eX8_sentIfLent_24 rfl ?_
      refine x_iload_n C eX8_sentIfLent_25 rfl ?_
      refine x_iload_n C eX8_sentIfLent_26 rfl ?_
      refine yV3r [] [_, _] C (s_X8_sentLent_one hK hN (by omega) (by (try simp (disch := omega) only [Int.reduceAdd, uN_s, uN_uN, un_s, un_un, un_n, ub_s, ub_n, inc, bStop_n, bDrop_s, bDrop_n, unub_n, nLog_n, nLog_h, Int.sub_add_cancel]); omega) (by (try simp (disch := omega) only [Int.reduceAdd, uN_s, uN_uN, un_s, un_un, un_n, ub_s, ub_n, inc, bStop_n, bDrop_s, bDrop_n, unub_n, nLog_n, nLog_h, Int.sub_add_cancel]); omega) (by (try simp (disch := omega) only [Int.reduceAdd, uN_s, uN_uN, un_s, un_un, un_n, ub_s, ub_n, inc, bStop_n, bDrop_s, bDrop_n, unub_n, nLog_n, nLog_h, Int.sub_add_cancel]); omega) (by (try simp (disch := omega) only [Int.reduceAdd, uN_s, uN_uN, un_s, un_un, un_n, ub_s, ub_n, inc, bStop_n, bDrop_s, bDrop_n, unub_n, nLog_n, nLog_h, Int.sub_add_cancel]); omega)) v_X8_sentLent vv_X8_sentLent s_RX8_341 eX8_sentIfLent_27 (fun _ _ h => WF_pick [0, 1] rfl rfl h) (rcv 0 rfl) rfl (nle rfl) (nle rfl) (nle rfl) (nle rfl) rfl ?_
      skip
      refine x_goto (pc' := 34) C eX8_sentIfLent_30 rfl ?_
      refine x_iret (by first | rfl | exact (narZ (by omega)).1) C F eX8_sentIfLent_34 () ?_ trivial (fun cf c h => ?_) (nle rfl) (nle rfl)
      · split
        all_goals first
          | rfl
          | contradiction
          | (rw [aLent_one (by omega)])
      · first
          | exact WF_pick [0, 1] rfl rfl h
          | (refine PW.wf (PW_cons (fun _ h => h) (PW_cons (fun _ h => ⟨_, h⟩) PW_nil)) (WF_pick [0, 1] rfl rfl h))

set_option maxHeartbeats 4000000 in
set_option maxRecDepth 100000 in
theorem s_X8_emptyIn {G : Gm} {l : Launch} (hK : KG G) {o : Nat} {A : Nat → Nat} {I : Nat → Int} {N : Nat → Net} {n : Net} {b : Int} {l9 : Int} (hN : NetOk b n) (hb : b ≤ 900000000) (r_l9 : -2147483648 ≤ l9 ∧ l9 < 2147483648) : MD G l yX8_emptyIn cX8_emptyIn 3 (some .int) 9 0 0 [.ref o, .int (zI l9)] [ob o 10 (shM A 1) I, fam G A (uN N 1 (n))] (some (.int (zI (if (0 ≤ l9 ∧ l9 ≤ n (-1) 0 - 1) ∧ (True) ∧ (True) then aEmpty n l9 else 0)))) [ob o 10 (shM A 1) (up I 0 (thr (0 ≤ l9 ∧ l9 ≤ n (-1) 0 - 1) (True) (True))), famQ G A n] := by
  refine MX_of (lv := [some (.ref o), some (.int (zI l9)), none]) hK (by decide +kernel) rfl (nle rfl) (fun X C F => ?_)
  have C : OKc G X l RX8 "emptyIn" cX8_emptyIn 3 (some .int) 9 0 0 := C
  have hH := hN.1
  unfold HeadOk at hH
  have hr : rok 1 := Or.inl rfl
  have loop : (0 ≤ l9 ∧ l9 ≤ n (-1) 0 - 1) ∧ (True) ∧ (True) → ∀ (f j k : Nat), j < f → k + j = 501 → srch (fun k => decide (nTicks k n l9 6 = 0)) j k = aEmpty n l9 → WX G X 0 0 [ob o 10 (shM A 1) (up I 0 (thr (0 ≤ l9 ∧ l9 ≤ n (-1) 0 - 1) (True) (True))), fam G A (uN (uN N 4 (n)) 1 (nTicks k n))] 20 [some (.ref o), some (.int (zI l9)), some (.int (zI k))] [] := by
    intro hP f
    induction f with
    | zero => intro j k h0; exfalso; omega
    | succ f ih =>
      intro j k h0 h1 h2
      have hK9 := NetOk_ticks hN k
      have e0 := nTicks_0 hN k
      refine x_iload_n C eX8_emptyIn_20 rfl ?_
      refine x_sipush C eX8_emptyIn_21 rfl ?_
      refine x_icmp_gt 53 C eX8_emptyIn_24 rfl (by omega) (by omega) (fun h24 => ?_) (fun h24 => ?_)
      · refine x_aload_n C eX8_emptyIn_53 rfl ?_
        refine x_iconst C eX8_emptyIn_54 ?_
        refine yV1r [] [_, _] C (s_X8_layBack hK ) v_X8_layBack vv_X8_layBack s_RX8_322 eX8_emptyIn_55 (fun _ _ h => WF_pick [0, 1] rfl rfl h) (rcv 0 rfl) rfl (nle rfl) (nle rfl) (nle rfl) (nle rfl) rfl ?_
        skip
        refine x_iret (by first | rfl | exact (narZ (by omega)).1) C F eX8_emptyIn_58 () ?_ trivial (fun cf c h => ?_) (nle rfl) (nle rfl)
        · rw [if_pos hP, ← h2, show j = 0 by omega]
          rfl
        · first
            | exact WF_pick [0, 1] rfl rfl h
            | (refine PW.wf (PW_cons (fun _ h => h) (PW_cons (fun _ h => ⟨_, h⟩) PW_nil)) (WF_pick [0, 1] rfl rfl h))
      · obtain ⟨j', rfl⟩ : ∃ j', j = j' + 1 := ⟨j - 1, by omega⟩
        have hL := hK9.2.2 l9 (by omega) (by omega)
        unfold LineOk at hL
        refine x_aload_n C eX8_emptyIn_27 rfl ?_
        refine x_iload_n C eX8_emptyIn_28 rfl ?_
        refine x_bipush C eX8_emptyIn_29 rfl ?_
        refine yV2r [] [_, _] C (s_X8_of hK hr (by omega) (by omega)) v_X8_of vv_X8_of s_RX8_64 eX8_emptyIn_31 (fun _ _ h => WF_pick [0, 1] rfl rfl h) (rcv 0 rfl) rfl (nle rfl) (nle rfl) (nle rfl) (nle rfl) rfl ?_
        skip
        refine x_if_ne 43 C eX8_emptyIn_34 rfl (by omega) (fun h34 => ?_) (fun h34 => ?_)
        · refine x_aload_n C eX8_emptyIn_43 rfl ?_
          refine yV0v [] [_, _] C (s_X8_tickOnce hK hr hK9 (by omega)) v_X8_tickOnce vv_X8_tickOnce s_RX8_133 eX8_emptyIn_44 (fun _ _ h => WF_pick [0, 1] rfl rfl h) (rcv 0 rfl) rfl (nle rfl) (nle rfl) (nle rfl) (nle rfl) rfl ?_
          skip
          refine x_iinc [_, _, _] C eX8_emptyIn_47 rfl rfl rfl ?_
          refine x_goto (pc' := 20) C eX8_emptyIn_50 rfl ?_
          exact ih j' (k + 1) (by omega) (by omega) (by rw [← h2]; exact (if_neg (by rw [decide_eq_true_iff]; exact h34)).symm)
        · refine x_aload_n C eX8_emptyIn_37 rfl ?_
          refine x_iload_n C eX8_emptyIn_38 rfl ?_
          refine yV1r [] [_, _] C (s_X8_layBack hK ) v_X8_layBack vv_X8_layBack s_RX8_322 eX8_emptyIn_39 (fun _ _ h => WF_pick [0, 1] rfl rfl h) (rcv 0 rfl) rfl (nle rfl) (nle rfl) (nle rfl) (nle rfl) rfl ?_
          skip
          refine x_iret (by first | rfl | exact (narZ (by omega)).1) C F eX8_emptyIn_42 () ?_ trivial (fun cf c h => ?_) (nle rfl) (nle rfl)
          · rw [if_pos hP, ← h2, show srch (fun k => decide (nTicks k n l9 6 = 0)) (j' + 1) k = k from if_pos (by rw [decide_eq_true_iff]; exact h34)]
          · first
              | exact WF_pick [0, 1] rfl rfl h
              | (refine PW.wf (PW_cons (fun _ h => h) (PW_cons (fun _ h => ⟨_, h⟩) PW_nil)) (WF_pick [0, 1] rfl rfl h))
  refine x_aload_n C eX8_emptyIn_0 rfl ?_
  refine x_aload_n C eX8_emptyIn_1 rfl ?_
  refine x_iload_n C eX8_emptyIn_2 rfl ?_
  refine yV1r [] [_, _] C (s_X8_isLine hK hr (by (try simp (disch := omega) only [Int.reduceAdd, uN_s, uN_uN, un_s, un_un, un_n, ub_s, ub_n, inc, bStop_n, bDrop_s, bDrop_n, unub_n, nLog_n, nLog_h, Int.sub_add_cancel]); omega) (by (try simp (disch := omega) only [Int.reduceAdd, uN_s, uN_uN, un_s, un_un, un_n, ub_s, ub_n, inc, bStop_n, bDrop_s, bDrop_n, unub_n, nLog_n, nLog_h, Int.sub_add_cancel]); omega)) v_X8_isLine vv_X8_isLine s_RX8_299 eX8_emptyIn_3 (fun _ _ h => WF_pick [0, 1] rfl rfl h) (rcv 0 rfl) rfl (nle rfl) (nle rfl) (nle rfl) (nle rfl) rfl ?_
  refine yV1r [_] [_, _] C (s_X8_passesv hK (0 ≤ l9 ∧ l9 ≤ n (-1) 0 - 1) (by first | rfl | rw [bz_t (by omega)] | rw [bz_f (by omega)])) v_X8_passes vv_X8_passes s_RX8_142 eX8_emptyIn_6 (fun _ _ h => WF_pick [0, 1] rfl rfl h) (rcv 0 rfl) rfl (nle rfl) (nle rfl) (nle rfl) (nle rfl) rfl ?_
  skip
  refine x_ifb_ne 14 C eX8_emptyIn_9 rfl (fun h9 => ?_) (fun h9 => ?_)
  · refine x_aload_n C eX8_emptyIn_14 rfl ?_
    refine yV0v [] [_, _] C (s_X8_keepAside hK ) v_X8_keepAside vv_X8_keepAside s_RX8_319 eX8_emptyIn_15 (fun _ _ h => WF_pick [0, 1] rfl rfl h) (rcv 0 rfl) rfl (nle rfl) (nle rfl) (nle rfl) (nle rfl) rfl ?_
    skip
    refine x_iconst C eX8_emptyIn_18 ?_
    refine x_istore_n [_, _, _] C eX8_emptyIn_19 rfl rfl (nlt rfl) ?_
    exact loop h9 502 501 0 (by omega) (by omega) rfl
  · refine x_iconst C eX8_emptyIn_12 ?_
    refine x_iret (by first | rfl | exact (narZ (by omega)).1) C F eX8_emptyIn_13 () ?_ trivial (fun cf c h => ?_) (nle rfl) (nle rfl)
    · split
      all_goals first | rfl | contradiction
    · first
        | exact WF_pick [0, 1] rfl rfl h
        | (refine PW.wf (PW_cons (fun _ h => h) (PW_cons (fun _ h => ⟨_, h⟩) PW_nil)) (WF_pick [0, 1] rfl rfl h))

set_option maxHeartbeats 4000000 in
set_option maxRecDepth 100000 in
theorem s_X8_quietIn {G : Gm} {l : Launch} (hK : KG G) {o : Nat} {A : Nat → Nat} {I : Nat → Int} {N : Nat → Net} {n : Net} {b : Int} (hN : NetOk b n) (hb : b ≤ 900000000) : MD G l yX8_quietIn cX8_quietIn 2 (some .int) 9 0 0 [.ref o] [ob o 10 (shM A 1) I, fam G A (uN N 1 (n))] (some (.int (zI (aQuiet n)))) [ob o 10 (shM A 1) (up I 0 0), famQ G A n] := by
  refine MX_of (lv := [some (.ref o), none]) hK (by decide +kernel) rfl (nle rfl) (fun X C F => ?_)
  have C : OKc G X l RX8 "quietIn" cX8_quietIn 2 (some .int) 9 0 0 := C
  have hH := hN.1
  unfold HeadOk at hH
  have hr : rok 1 := Or.inl rfl
  have loop :  ∀ (f j k : Nat), j < f → k + j = 501 → srch (fun k => nQuietB (nTicks k n) (n (-1) 0).toNat) j k = aQuiet n → WX G X 0 0 [ob o 10 (shM A 1) (up I 0 0), fam G A (uN (uN N 4 (n)) 1 (nTicks k n))] 11 [some (.ref o), some (.int (zI k))] [] := by
    intro f
    induction f with
    | zero => intro j k h0; exfalso; omega
    | succ f ih =>
      intro j k h0 h1 h2
      have hK9 := NetOk_ticks hN k
      have e0 := nTicks_0 hN k
      refine x_iload_n C eX8_quietIn_11 rfl ?_
      refine x_sipush C eX8_quietIn_12 rfl ?_
      refine x_icmp_gt 41 C eX8_quietIn_15 rfl (by omega) (by omega) (fun h15 => ?_) (fun h15 => ?_)
      · refine x_aload_n C eX8_quietIn_41 rfl ?_
        refine x_iconst C eX8_quietIn_42 ?_
        refine yV1r [] [_, _] C (s_X8_layBack hK ) v_X8_layBack vv_X8_layBack s_RX8_322 eX8_quietIn_43 (fun _ _ h => WF_pick [0, 1] rfl rfl h) (rcv 0 rfl) rfl (nle rfl) (nle rfl) (nle rfl) (nle rfl) rfl ?_
        skip
        refine x_iret (by first | rfl | exact (narZ (by omega)).1) C F eX8_quietIn_46 () ?_ trivial (fun cf c h => ?_) (nle rfl) (nle rfl)
        · rw [← h2, show j = 0 by omega]
          rfl
        · first
            | exact WF_pick [0, 1] rfl rfl h
            | (refine PW.wf (PW_cons (fun _ h => h) (PW_cons (fun _ h => ⟨_, h⟩) PW_nil)) (WF_pick [0, 1] rfl rfl h))
      · obtain ⟨j', rfl⟩ : ∃ j', j = j' + 1 := ⟨j - 1, by omega⟩
        refine x_aload_n C eX8_quietIn_18 rfl ?_
        refine yV0r [] [_, _] C (s_X8_isQuiet hK hr hK9) v_X8_isQuiet vv_X8_isQuiet s_RX8_325 eX8_quietIn_19 (fun _ _ h => WF_pick [0, 1] rfl rfl h) (rcv 0 rfl) rfl (nle rfl) (nle rfl) (nle rfl) (nle rfl) rfl ?_
        rw [e0]
        refine x_ifb_eq 31 C eX8_quietIn_22 rfl (fun h22 => ?_) (fun h22 => ?_)
        · refine x_aload_n C eX8_quietIn_31 rfl ?_
          refine yV0v [] [_, _] C (s_X8_tickOnce hK hr hK9 (by omega)) v_X8_tickOnce vv_X8_tickOnce s_RX8_133 eX8_quietIn_32 (fun _ _ h => WF_pick [0, 1] rfl rfl h) (rcv 0 rfl) rfl (nle rfl) (nle rfl) (nle rfl) (nle rfl) rfl ?_
          skip
          refine x_iinc [_, _] C eX8_quietIn_35 rfl rfl rfl ?_
          refine x_goto (pc' := 11) C eX8_quietIn_38 rfl ?_
          exact ih j' (k + 1) (by omega) (by omega) (by rw [← h2]; exact (if_neg (by assumption)).symm)
        · refine x_aload_n C eX8_quietIn_25 rfl ?_
          refine x_iload_n C eX8_quietIn_26 rfl ?_
          refine yV1r [] [_, _] C (s_X8_layBack hK ) v_X8_layBack vv_X8_layBack s_RX8_322 eX8_quietIn_27 (fun _ _ h => WF_pick [0, 1] rfl rfl h) (rcv 0 rfl) rfl (nle rfl) (nle rfl) (nle rfl) (nle rfl) rfl ?_
          skip
          refine x_iret (by first | rfl | exact (narZ (by omega)).1) C F eX8_quietIn_30 () ?_ trivial (fun cf c h => ?_) (nle rfl) (nle rfl)
          · rw [← h2, show srch (fun k => nQuietB (nTicks k n) (n (-1) 0).toNat) (j' + 1) k = k from if_pos (by assumption)]
          · first
              | exact WF_pick [0, 1] rfl rfl h
              | (refine PW.wf (PW_cons (fun _ h => h) (PW_cons (fun _ h => ⟨_, h⟩) PW_nil)) (WF_pick [0, 1] rfl rfl h))
  refine x_aload_n C eX8_quietIn_0 rfl ?_
  refine x_iconst C eX8_quietIn_1 ?_
  refine x_putI [_, _] 0 C f_RX8_3 eX8_quietIn_2 rfl rfl rfl ?_
  refine x_aload_n C eX8_quietIn_5 rfl ?_
  refine yV0v [] [_, _] C (s_X8_keepAside hK ) v_X8_keepAside vv_X8_keepAside s_RX8_319 eX8_quietIn_6 (fun _ _ h => WF_pick [0, 1] rfl rfl h) (rcv 0 rfl) rfl (nle rfl) (nle rfl) (nle rfl) (nle rfl) rfl ?_
  skip
  refine x_iconst C eX8_quietIn_9 ?_
  refine x_istore_n [_, _] C eX8_quietIn_10 rfl rfl (nlt rfl) ?_
  exact loop 502 501 0 (by omega) (by omega) rfl

set_option maxHeartbeats 4000000 in
set_option maxRecDepth 100000 in
theorem s_X8_sendsIn {G : Gm} {l : Launch} (hK : KG G) {o : Nat} {A : Nat → Nat} {I : Nat → Int} {N : Nat → Net} {n : Net} {b : Int} {l9 : Int} (hN : NetOk b n) (hb : b ≤ 900000000) (r_l9 : -2147483648 ≤ l9 ∧ l9 < 2147483648) : MD G l yX8_sendsIn cX8_sendsIn 4 (some .int) 9 0 0 [.ref o, .int (zI l9)] [ob o 10 (shM A 1) I, fam G A (uN N 1 (n))] (some (.int (zI (if (0 ≤ l9 ∧ l9 ≤ n (-1) 0 - 1) ∧ (True) ∧ (True) then aSends n l9 else 0)))) [ob o 10 (shM A 1) (up I 0 (thr (0 ≤ l9 ∧ l9 ≤ n (-1) 0 - 1) (True) (True))), famQ G A n] := by
  refine MX_of (lv := [some (.ref o), some (.int (zI l9)), none, none]) hK (by decide +kernel) rfl (nle rfl) (fun X C F => ?_)
  have C : OKc G X l RX8 "sendsIn" cX8_sendsIn 4 (some .int) 9 0 0 := C
  have hH := hN.1
  unfold HeadOk at hH
  have hr : rok 1 := Or.inl rfl
  have loop : (0 ≤ l9 ∧ l9 ≤ n (-1) 0 - 1) ∧ (True) ∧ (True) → ∀ (f j k : Nat), j < f → k + j = 500 → srch (fun k => decide (n l9 17 < nTicks k n l9 17)) j (k + 1) = aSends n l9 → WX G X 0 0 [ob o 10 (shM A 1) (up I 0 (thr (0 ≤ l9 ∧ l9 ≤ n (-1) 0 - 1) (True) (True))), fam G A (uN (uN N 4 (n)) 1 (nTicks k n))] 27 [some (.ref o), some (.int (zI l9)), some (.int (zI (n l9 17))), some (.int (zI ((k : Int) + 1)))] [] := by
    intro hP f
    induction f with
    | zero => intro j k h0; exfalso; omega
    | succ f ih =>
      intro j k h0 h1 h2
      have hK9 := NetOk_ticks hN k
      have e0 := nTicks_0 hN k
      refine x_iload_n C eX8_sendsIn_27 rfl ?_
      refine x_sipush C eX8_sendsIn_28 rfl ?_
      refine x_icmp_gt 60 C eX8_sendsIn_31 rfl (by omega) (by omega) (fun h31 => ?_) (fun h31 => ?_)
      · refine x_aload_n C eX8_sendsIn_60 rfl ?_
        refine x_iconst C eX8_sendsIn_61 ?_
        refine yV1r [] [_, _] C (s_X8_layBack hK ) v_X8_layBack vv_X8_layBack s_RX8_322 eX8_sendsIn_62 (fun _ _ h => WF_pick [0, 1] rfl rfl h) (rcv 0 rfl) rfl (nle rfl) (nle rfl) (nle rfl) (nle rfl) rfl ?_
        try simp only [Int.reduceAdd]
        refine x_iret (by first | rfl | exact (narZ (by omega)).1) C F eX8_sendsIn_65 () ?_ trivial (fun cf c h => ?_) (nle rfl) (nle rfl)
        · rw [if_pos hP, ← h2, show j = 0 by omega]
          rfl
        · first
            | exact WF_pick [0, 1] rfl rfl h
            | (refine PW.wf (PW_cons (fun _ h => h) (PW_cons (fun _ h => ⟨_, h⟩) PW_nil)) (WF_pick [0, 1] rfl rfl h))
      · obtain ⟨j', rfl⟩ : ∃ j', j = j' + 1 := ⟨j - 1, by omega⟩
        have hL := hN.2.2 l9 (by omega) (by omega)
        have c1 := LineOk_c hL (k := 17) (by decide) (by decide)
        have hT9 := NetOk_tick hK9
        have hL2 := hT9.2.2 l9 (by omega) (by rw [nTick_0 hK9, e0]; omega)
        have c2 := LineOk_c hL2 (k := 17) (by decide) (by decide)
        refine x_aload_n C eX8_sendsIn_34 rfl ?_
        refine yV0v [] [_, _] C (s_X8_tickOnce hK hr hK9 (by omega)) v_X8_tickOnce vv_X8_tickOnce s_RX8_133 eX8_sendsIn_35 (fun _ _ h => WF_pick [0, 1] rfl rfl h) (rcv 0 rfl) rfl (nle rfl) (nle rfl) (nle rfl) (nle rfl) rfl ?_
        try simp only [Int.reduceAdd]
        refine x_aload_n C eX8_sendsIn_38 rfl ?_
        refine x_iload_n C eX8_sendsIn_39 rfl ?_
        refine x_iconst C eX8_sendsIn_40 ?_
        refine yV2r [] [_, _] C (s_X8_counted hK hr (by omega) (by omega)) v_X8_counted vv_X8_counted s_RX8_111 eX8_sendsIn_41 (fun _ _ h => WF_pick [0, 1] rfl rfl h) (rcv 0 rfl) rfl (nle rfl) (nle rfl) (nle rfl) (nle rfl) rfl ?_
        try simp only [Int.reduceAdd]
        refine x_iload_n C eX8_sendsIn_44 rfl ?_
        refine x_icmp_le 54 C eX8_sendsIn_45 rfl (by omega) (by omega) (fun h45 => ?_) (fun h45 => ?_)
        · refine x_iinc [_, _, _, _] C eX8_sendsIn_54 rfl rfl rfl ?_
          refine x_goto (pc' := 27) C eX8_sendsIn_57 rfl ?_
          exact ih j' (k + 1) (by omega) (by omega) (by rw [← h2]; exact (if_neg (by rw [decide_eq_true_iff]; show ¬ n l9 17 < nTick (nTicks k n) l9 17; omega)).symm)
        · refine x_aload_n C eX8_sendsIn_48 rfl ?_
          refine x_iload_n C eX8_sendsIn_49 rfl ?_
          refine yV1r [] [_, _] C (s_X8_layBack hK ) v_X8_layBack vv_X8_layBack s_RX8_322 eX8_sendsIn_50 (fun _ _ h => WF_pick [0, 1] rfl rfl h) (rcv 0 rfl) rfl (nle rfl) (nle rfl) (nle rfl) (nle rfl) rfl ?_
          try simp only [Int.reduceAdd]
          refine x_iret (by first | rfl | exact (narZ (by omega)).1) C F eX8_sendsIn_53 () ?_ trivial (fun cf c h => ?_) (nle rfl) (nle rfl)
          · rw [if_pos hP, ← h2, show srch (fun k => decide (n l9 17 < nTicks k n l9 17)) (j' + 1) (k + 1) = ((k + 1 : Nat) : Int) from if_pos (by rw [decide_eq_true_iff]; show n l9 17 < nTick (nTicks k n) l9 17; omega)]
            rfl
          · first
              | exact WF_pick [0, 1] rfl rfl h
              | (refine PW.wf (PW_cons (fun _ h => h) (PW_cons (fun _ h => ⟨_, h⟩) PW_nil)) (WF_pick [0, 1] rfl rfl h))
  refine x_aload_n C eX8_sendsIn_0 rfl ?_
  refine x_aload_n C eX8_sendsIn_1 rfl ?_
  refine x_iload_n C eX8_sendsIn_2 rfl ?_
  refine yV1r [] [_, _] C (s_X8_isLine hK hr (by (try simp (disch := omega) only [Int.reduceAdd, uN_s, uN_uN, un_s, un_un, un_n, ub_s, ub_n, inc, bStop_n, bDrop_s, bDrop_n, unub_n, nLog_n, nLog_h, Int.sub_add_cancel]); omega) (by (try simp (disch := omega) only [Int.reduceAdd, uN_s, uN_uN, un_s, un_un, un_n, ub_s, ub_n, inc, bStop_n, bDrop_s, bDrop_n, unub_n, nLog_n, nLog_h, Int.sub_add_cancel]); omega)) v_X8_isLine vv_X8_isLine s_RX8_299 eX8_sendsIn_3 (fun _ _ h => WF_pick [0, 1] rfl rfl h) (rcv 0 rfl) rfl (nle rfl) (nle rfl) (nle rfl) (nle rfl) rfl ?_
  refine yV1r [_] [_, _] C (s_X8_passesv hK (0 ≤ l9 ∧ l9 ≤ n (-1) 0 - 1) (by first | rfl | rw [bz_t (by omega)] | rw [bz_f (by omega)])) v_X8_passes vv_X8_passes s_RX8_142 eX8_sendsIn_6 (fun _ _ h => WF_pick [0, 1] rfl rfl h) (rcv 0 rfl) rfl (nle rfl) (nle rfl) (nle rfl) (nle rfl) rfl ?_
  skip
  refine x_ifb_ne 14 C eX8_sendsIn_9 rfl (fun h9 => ?_) (fun h9 => ?_)
  · refine x_aload_n C eX8_sendsIn_14 rfl ?_
    refine yV0v [] [_, _] C (s_X8_keepAside hK ) v_X8_keepAside vv_X8_keepAside s_RX8_319 eX8_sendsIn_15 (fun _ _ h => WF_pick [0, 1] rfl rfl h) (rcv 0 rfl) rfl (nle rfl) (nle rfl) (nle rfl) (nle rfl) rfl ?_
    try simp (disch := omega) only [Int.reduceAdd, uN_s, uN_uN, un_s, un_un, un_n, ub_s, ub_n, inc, bStop_n, bDrop_s, bDrop_n, unub_n, nLog_n, nLog_h, Int.sub_add_cancel]
    refine x_aload_n C eX8_sendsIn_18 rfl ?_
    refine x_iload_n C eX8_sendsIn_19 rfl ?_
    refine x_iconst C eX8_sendsIn_20 ?_
    refine yV2r [] [_, _] C (s_X8_counted hK hr (by (try simp (disch := omega) only [Int.reduceAdd, uN_s, uN_uN, un_s, un_un, un_n, ub_s, ub_n, inc, bStop_n, bDrop_s, bDrop_n, unub_n, nLog_n, nLog_h, Int.sub_add_cancel]); omega) (by (try simp (disch := omega) only [Int.reduceAdd, uN_s, uN_uN, un_s, un_un, un_n, ub_s, ub_n, inc, bStop_n, bDrop_s, bDrop_n, unub_n, nLog_n, nLog_h, Int.sub_add_cancel]); omega)) v_X8_counted vv_X8_counted s_RX8_111 eX8_sendsIn_21 (fun _ _ h => WF_pick [0, 1] rfl rfl h) (rcv 0 rfl) rfl (nle rfl) (nle rfl) (nle rfl) (nle rfl) rfl ?_
    try simp (disch := omega) only [Int.reduceAdd, uN_s, uN_uN, un_s, un_un, un_n, ub_s, ub_n, inc, bStop_n, bDrop_s, bDrop_n, unub_n, nLog_n, nLog_h, Int.sub_add_cancel]
    refine x_istore_n [_, _, _, _] C eX8_sendsIn_24 rfl rfl (nlt rfl) ?_
    refine x_iconst C eX8_sendsIn_25 ?_
    refine x_istore_n [_, _, _, _] C eX8_sendsIn_26 rfl rfl (nlt rfl) ?_
    exact loop h9 501 500 0 (by omega) (by omega) rfl
  · refine x_iconst C eX8_sendsIn_12 ?_
    refine x_iret (by first | rfl | exact (narZ (by omega)).1) C F eX8_sendsIn_13 () ?_ trivial (fun cf c h => ?_) (nle rfl) (nle rfl)
    · split
      all_goals first | rfl | contradiction
    · first
        | exact WF_pick [0, 1] rfl rfl h
        | (refine PW.wf (PW_cons (fun _ h => h) (PW_cons (fun _ h => ⟨_, h⟩) PW_nil)) (WF_pick [0, 1] rfl rfl h))

set_option maxHeartbeats 4000000 in
set_option maxRecDepth 100000 in
theorem s_X8_nextSender {G : Gm} {l : Launch} (hK : KG G) {o : Nat} {A : Nat → Nat} {I : Nat → Int} {N : Nat → Net} {n : Net} {b : Int} (hN : NetOk b n) (hb : b ≤ 900000000) : MD G l yX8_nextSender cX8_nextSender 3 (some .int) 9 0 0 [.ref o] [ob o 10 (shM A 1) I, fam G A (uN N 1 (n))] (some (.int (zI (aNext 500 n)))) [ob o 10 (shM A 1) (up I 0 0), famQ G A n] := by
  refine MX_of (lv := [some (.ref o), none, none]) hK (by decide +kernel) rfl (nle rfl) (fun X C F => ?_)
  have C : OKc G X l RX8 "nextSender" cX8_nextSender 3 (some .int) 9 0 0 := C
  have hH := hN.1
  unfold HeadOk at hH
  have hr : rok 1 := Or.inl rfl
  have loop :  ∀ (f j k : Nat), j < f → k + j = 500 → (nTicks k n (-1) 4 = n (-1) 4 ∧ aNext j (nTicks k n) = aNext 500 n ∨ ¬ nTicks k n (-1) 4 = n (-1) 4 ∧ nTicks k n (-2) 1 = aNext 500 n) → WX G X 0 0 [ob o 10 (shM A 1) (up I 0 0), fam G A (uN (uN N 4 (n)) 1 (nTicks k n))] 18 [some (.ref o), some (.int (zI (n (-1) 4))), some (.int (zI k))] [] := by
    intro f
    induction f with
    | zero => intro j k h0; exfalso; omega
    | succ f ih =>
      intro j k h0 h1 h2
      have hK9 := NetOk_ticks hN k
      have e0 := nTicks_0 hN k
      have hM := hK9.1
      unfold HeadOk at hM
      refine x_iload_n C eX8_nextSender_18 rfl ?_
      refine x_sipush C eX8_nextSender_19 rfl ?_
      refine x_icmp_ge 45 C eX8_nextSender_22 rfl (by omega) (by omega) (fun h22 => ?_) (fun h22 => ?_)
      · refine x_aload_n C eX8_nextSender_45 rfl ?_
        refine x_aload_n C eX8_nextSender_46 rfl ?_
        refine x_getR 0 C f_RX8_17 eX8_nextSender_47 rfl rfl ?_
        refine x_iconst C eX8_nextSender_50 ?_
        refine x_faldU 1 C eX8_nextSender_51 rfl (Or.inl rfl) (by omega) ?_
        rw [enc_head _ (by omega)]
        refine x_iload_n C eX8_nextSender_52 rfl ?_
        refine x_icmp_ne 60 C eX8_nextSender_53 rfl (by omega) (by omega) (fun h53 => ?_) (fun h53 => ?_)
        · refine x_aload_n C eX8_nextSender_60 rfl ?_
          refine x_iconst C eX8_nextSender_61 ?_
          refine x_iconst C eX8_nextSender_62 ?_
          refine yV2r [] [_, _] C (s_X8_ofLog hK (by omega)) v_X8_ofLog vv_X8_ofLog s_RX8_316 eX8_nextSender_63 (fun _ _ h => WF_pick [0, 1] rfl rfl h) (rcv 0 rfl) rfl (nle rfl) (nle rfl) (nle rfl) (nle rfl) rfl ?_
          skip
          refine yV1r [] [_, _] C (s_X8_layBack hK ) v_X8_layBack vv_X8_layBack s_RX8_322 eX8_nextSender_66 (fun _ _ h => WF_pick [0, 1] rfl rfl h) (rcv 0 rfl) rfl (nle rfl) (nle rfl) (nle rfl) (nle rfl) rfl ?_
          skip
          refine x_iret (by first | rfl | exact (narZ (by omega)).1) C F eX8_nextSender_69 () ?_ trivial (fun cf c h => ?_) (nle rfl) (nle rfl)
          · first
              | (rw [← (h2.resolve_left (fun z => absurd z.1 (by assumption))).2]; rfl)
              | (rw [← (h2.resolve_right (fun z => absurd (by assumption) z.1)).2, show j = 0 by omega]; rfl)
          · first
              | exact WF_pick [0, 1] rfl rfl h
              | (refine PW.wf (PW_cons (fun _ h => h) (PW_cons (fun _ h => ⟨_, h⟩) PW_nil)) (WF_pick [0, 1] rfl rfl h))
        · refine x_iconst C eX8_nextSender_56 ?_
          refine x_goto (pc' := 66) C eX8_nextSender_57 rfl ?_
          refine yV1r [] [_, _] C (s_X8_layBack hK ) v_X8_layBack vv_X8_layBack s_RX8_322 eX8_nextSender_66 (fun _ _ h => WF_pick [0, 1] rfl rfl h) (rcv 0 rfl) rfl (nle rfl) (nle rfl) (nle rfl) (nle rfl) rfl ?_
          skip
          refine x_iret (by first | rfl | exact (narZ (by omega)).1) C F eX8_nextSender_69 () ?_ trivial (fun cf c h => ?_) (nle rfl) (nle rfl)
          · first
              | (rw [← (h2.resolve_left (fun z => absurd z.1 (by assumption))).2]; rfl)
              | (rw [← (h2.resolve_right (fun z => absurd (by assumption) z.1)).2, show j = 0 by omega]; rfl)
          · first
              | exact WF_pick [0, 1] rfl rfl h
              | (refine PW.wf (PW_cons (fun _ h => h) (PW_cons (fun _ h => ⟨_, h⟩) PW_nil)) (WF_pick [0, 1] rfl rfl h))
      · refine x_aload_n C eX8_nextSender_25 rfl ?_
        refine x_getR 0 C f_RX8_17 eX8_nextSender_26 rfl rfl ?_
        refine x_iconst C eX8_nextSender_29 ?_
        refine x_faldU 1 C eX8_nextSender_30 rfl (Or.inl rfl) (by omega) ?_
        rw [enc_head _ (by omega)]
        refine x_iload_n C eX8_nextSender_31 rfl ?_
        refine x_icmp_ne 45 C eX8_nextSender_32 rfl (by omega) (by omega) (fun h32 => ?_) (fun h32 => ?_)
        · refine x_aload_n C eX8_nextSender_45 rfl ?_
          refine x_aload_n C eX8_nextSender_46 rfl ?_
          refine x_getR 0 C f_RX8_17 eX8_nextSender_47 rfl rfl ?_
          refine x_iconst C eX8_nextSender_50 ?_
          refine x_faldU 1 C eX8_nextSender_51 rfl (Or.inl rfl) (by omega) ?_
          rw [enc_head _ (by omega)]
          refine x_iload_n C eX8_nextSender_52 rfl ?_
          refine x_icmp_ne 60 C eX8_nextSender_53 rfl (by omega) (by omega) (fun h53 => ?_) (fun h53 => ?_)
          · refine x_aload_n C eX8_nextSender_60 rfl ?_
            refine x_iconst C eX8_nextSender_61 ?_
            refine x_iconst C eX8_nextSender_62 ?_
            refine yV2r [] [_, _] C (s_X8_ofLog hK (by omega)) v_X8_ofLog vv_X8_ofLog s_RX8_316 eX8_nextSender_63 (fun _ _ h => WF_pick [0, 1] rfl rfl h) (rcv 0 rfl) rfl (nle rfl) (nle rfl) (nle rfl) (nle rfl) rfl ?_
            skip
            refine yV1r [] [_, _] C (s_X8_layBack hK ) v_X8_layBack vv_X8_layBack s_RX8_322 eX8_nextSender_66 (fun _ _ h => WF_pick [0, 1] rfl rfl h) (rcv 0 rfl) rfl (nle rfl) (nle rfl) (nle rfl) (nle rfl) rfl ?_
            skip
            refine x_iret (by first | rfl | exact (narZ (by omega)).1) C F eX8_nextSender_69 () ?_ trivial (fun cf c h => ?_) (nle rfl) (nle rfl)
            · first
                | (rw [← (h2.resolve_left (fun z => absurd z.1 (by assumption))).2]; rfl)
                | (rw [← (h2.resolve_right (fun z => absurd (by assumption) z.1)).2, show j = 0 by omega]; rfl)
            · first
                | exact WF_pick [0, 1] rfl rfl h
                | (refine PW.wf (PW_cons (fun _ h => h) (PW_cons (fun _ h => ⟨_, h⟩) PW_nil)) (WF_pick [0, 1] rfl rfl h))
          · refine x_iconst C eX8_nextSender_56 ?_
            refine x_goto (pc' := 66) C eX8_nextSender_57 rfl ?_
            refine yV1r [] [_, _] C (s_X8_layBack hK ) v_X8_layBack vv_X8_layBack s_RX8_322 eX8_nextSender_66 (fun _ _ h => WF_pick [0, 1] rfl rfl h) (rcv 0 rfl) rfl (nle rfl) (nle rfl) (nle rfl) (nle rfl) rfl ?_
            skip
            refine x_iret (by first | rfl | exact (narZ (by omega)).1) C F eX8_nextSender_69 () ?_ trivial (fun cf c h => ?_) (nle rfl) (nle rfl)
            · first
                | (rw [← (h2.resolve_left (fun z => absurd z.1 (by assumption))).2]; rfl)
                | (rw [← (h2.resolve_right (fun z => absurd (by assumption) z.1)).2, show j = 0 by omega]; rfl)
            · first
                | exact WF_pick [0, 1] rfl rfl h
                | (refine PW.wf (PW_cons (fun _ h => h) (PW_cons (fun _ h => ⟨_, h⟩) PW_nil)) (WF_pick [0, 1] rfl rfl h))
        · obtain ⟨j', rfl⟩ : ∃ j', j = j' + 1 := ⟨j - 1, by omega⟩
          refine x_aload_n C eX8_nextSender_35 rfl ?_
          refine yV0v [] [_, _] C (s_X8_tickOnce hK hr hK9 (by omega)) v_X8_tickOnce vv_X8_tickOnce s_RX8_133 eX8_nextSender_36 (fun _ _ h => WF_pick [0, 1] rfl rfl h) (rcv 0 rfl) rfl (nle rfl) (nle rfl) (nle rfl) (nle rfl) rfl ?_
          skip
          refine x_iinc [_, _, _] C eX8_nextSender_39 rfl rfl rfl ?_
          refine x_goto (pc' := 18) C eX8_nextSender_42 rfl ?_
          refine ih j' (k + 1) (by omega) (by omega) ?_
          have h3 := (h2.resolve_right (fun z => z.1 h32)).2
          have he := nTick_eff hK9
          show nTick (nTicks k n) (-1) 4 = _ ∧ aNext j' (nTick (nTicks k n)) = _ ∨ _
          by_cases c : (nLooks (nTicks k n)).2 = -1
          · left
            rw [(he.1 c).1, ← h3]
            exact ⟨h32, (if_pos c).symm⟩
          · right
            show ¬ nTick (nTicks k n) (-1) 4 = _ ∧ nTick (nTicks k n) (-2) 1 = _
            rw [(he.2 c).1, (he.2 c).2.1, ← h3]
            exact ⟨by omega, (if_neg c).symm⟩
  refine x_aload_n C eX8_nextSender_0 rfl ?_
  refine x_iconst C eX8_nextSender_1 ?_
  refine x_putI [_, _] 0 C f_RX8_3 eX8_nextSender_2 rfl rfl rfl ?_
  refine x_aload_n C eX8_nextSender_5 rfl ?_
  refine yV0v [] [_, _] C (s_X8_keepAside hK ) v_X8_keepAside vv_X8_keepAside s_RX8_319 eX8_nextSender_6 (fun _ _ h => WF_pick [0, 1] rfl rfl h) (rcv 0 rfl) rfl (nle rfl) (nle rfl) (nle rfl) (nle rfl) rfl ?_
  skip
  refine x_aload_n C eX8_nextSender_9 rfl ?_
  refine x_getR 0 C f_RX8_17 eX8_nextSender_10 rfl rfl ?_
  refine x_iconst C eX8_nextSender_13 ?_
  refine x_faldU 1 C eX8_nextSender_14 rfl (Or.inl rfl) (by omega) ?_
  rw [enc_head _ (by omega)]
  refine x_istore_n [_, _, _] C eX8_nextSender_15 rfl rfl (nlt rfl) ?_
  refine x_iconst C eX8_nextSender_16 ?_
  refine x_istore_n [_, _, _] C eX8_nextSender_17 rfl rfl (nlt rfl) ?_
  exact loop 502 500 0 (by omega) (by omega) (Or.inl ⟨rfl, rfl⟩)
