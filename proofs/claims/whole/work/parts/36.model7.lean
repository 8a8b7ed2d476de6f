theorem s_X8_passesv {G : Gm} {l : Launch} (hK : KG G) {o r : Nat} {A : Nat → Nat} {I : Nat → Int} (p1 : Prop) [Decidable p1] {v1 : Int} (h1 : v1 = bz p1) : MD G l yX8_passes cX8_passes 2 (some .boolean) 2 0 0 [.ref o, .int (zI v1)] [ob o 10 (shM A r) I] (some (.int (zI (bz (p1 ∧ True ∧ True))))) [ob o 10 (shM A r) (up I 0 (thr p1 True True))] := by
  subst h1
  exact s_X8_passes hK p1

theorem s_X8_passes2v {G : Gm} {l : Launch} (hK : KG G) {o r : Nat} {A : Nat → Nat} {I : Nat → Int} (p1 p2 : Prop) [Decidable p1] [Decidable p2] {v1 v2 : Int} (h1 : v1 = bz p1) (h2 : v2 = bz p2) : MD G l yX8_passes2 cX8_passes2 3 (some .boolean) 2 0 0 [.ref o, .int (zI v1), .int (zI v2)] [ob o 10 (shM A r) I] (some (.int (zI (bz (p1 ∧ p2 ∧ True))))) [ob o 10 (shM A r) (up I 0 (thr p1 p2 True))] := by
  subst h1
  subst h2
  exact s_X8_passes2 hK p1 p2

theorem s_X8_passes3v {G : Gm} {l : Launch} (hK : KG G) {o r : Nat} {A : Nat → Nat} {I : Nat → Int} (p1 p2 p3 : Prop) [Decidable p1] [Decidable p2] [Decidable p3] {v1 v2 v3 : Int} (h1 : v1 = bz p1) (h2 : v2 = bz p2) (h3 : v3 = bz p3) : MD G l yX8_passes3 cX8_passes3 4 (some .boolean) 1 0 0 [.ref o, .int (zI v1), .int (zI v2), .int (zI v3)] [ob o 10 (shM A r) I] (some (.int (zI (bz (p1 ∧ p2 ∧ p3))))) [ob o 10 (shM A r) (up I 0 (thr p1 p2 p3))] := by
  subst h1
  subst h2
  subst h3
  exact s_X8_passes3 hK p1 p2 p3

set_option maxHeartbeats 4000000 in
set_option maxRecDepth 100000 in
theorem s_X8_isCount {G : Gm} {l : Launch} (hK : KG G) {w9 : Int} (hr0 : (-2147483648 ≤ w9 ∧ w9 < 2147483648)) : MD G l yX8_isCount cX8_isCount 1 (some .boolean) 2 0 0 [.int (zI w9)] [] (some (.int (zI (bz (0 ≤ w9 ∧ w9 ≤ 11))))) [] := by
  refine MX_of (lv := [some (.int (zI w9))]) hK (by decide +kernel) rfl (nle rfl) (fun X C F => ?_)
  have C : OKc G X l RX8 "isCount" cX8_isCount 1 (some .boolean) 2 0 0 := C
  refine x_iload_n C eX8_isCount_0 rfl ?_
  refine x_i2l C eX8_isCount_1 (by omega) ?_
  refine x_lconst (v := 0) C eX8_isCount_2 rfl ?_
  refine x_ldc2 C eX8_isCount_3 k_RX8_306 ?_
  refine yS3r [] [] C (s_X8_in hK (by (try simp (disch := omega) only [Int.reduceAdd, uN_s, uN_uN, un_s, un_un, un_n, ub_s, ub_n, inc, bStop_n, bDrop_s, bDrop_n, unub_n, nLog_n, nLog_h, Int.sub_add_cancel]); omega)) v_X8_in vs_X8_in s_RX8_72 eX8_isCount_6 (fun _ _ h => WF_pick [] rfl rfl h) rfl (nle rfl) (nle rfl) (nle rfl) (nle rfl) rfl ?_
  refine x_iret (nz_bz _) C F eX8_isCount_9 () ?_ trivial (fun cf c h => ?_) (nle rfl) (nle rfl)
  · first | rfl | rw [bz_t (by omega)] | rw [bz_f (by omega)]
  · exact WF_pick [] rfl rfl h

set_option maxHeartbeats 4000000 in
set_option maxRecDepth 100000 in
theorem s_X8_isKeep {G : Gm} {l : Launch} (hK : KG G) {s9 : Int} (hr0 : (-2147483648 ≤ s9 ∧ s9 < 2147483648)) : MD G l yX8_isKeep cX8_isKeep 1 (some .boolean) 2 0 0 [.int (zI s9)] [] (some (.int (zI (bz (0 ≤ s9 ∧ s9 ≤ 1))))) [] := by
  refine MX_of (lv := [some (.int (zI s9))]) hK (by decide +kernel) rfl (nle rfl) (fun X C F => ?_)
  have C : OKc G X l RX8 "isKeep" cX8_isKeep 1 (some .boolean) 2 0 0 := C
  refine x_iload_n C eX8_isKeep_0 rfl ?_
  refine x_i2l C eX8_isKeep_1 (by omega) ?_
  refine x_lconst (v := 0) C eX8_isKeep_2 rfl ?_
  refine x_lconst (v := 1) C eX8_isKeep_3 rfl ?_
  refine yS3r [] [] C (s_X8_in hK (by (try simp (disch := omega) only [Int.reduceAdd, uN_s, uN_uN, un_s, un_un, un_n, ub_s, ub_n, inc, bStop_n, bDrop_s, bDrop_n, unub_n, nLog_n, nLog_h, Int.sub_add_cancel]); omega)) v_X8_in vs_X8_in s_RX8_72 eX8_isKeep_4 (fun _ _ h => WF_pick [] rfl rfl h) rfl (nle rfl) (nle rfl) (nle rfl) (nle rfl) rfl ?_
  refine x_iret (nz_bz _) C F eX8_isKeep_7 () ?_ trivial (fun cf c h => ?_) (nle rfl) (nle rfl)
  · first | rfl | rw [bz_t (by omega)] | rw [bz_f (by omega)]
  · exact WF_pick [] rfl rfl h

set_option maxHeartbeats 4000000 in
set_option maxRecDepth 100000 in
theorem s_X8_areTicks {G : Gm} {l : Launch} (hK : KG G) {t9 m9 : Int} (hr0 : (-2147483648 ≤ t9 ∧ t9 < 2147483648) ∧ (-2147483648 ≤ m9 ∧ m9 < 2147483648)) : MD G l yX8_areTicks cX8_areTicks 2 (some .boolean) 2 0 0 [.int (zI t9), .int (zI m9)] [] (some (.int (zI (bz (m9 ≤ t9 ∧ t9 ≤ 500))))) [] := by
  refine MX_of (lv := [some (.int (zI t9)), some (.int (zI m9))]) hK (by decide +kernel) rfl (nle rfl) (fun X C F => ?_)
  have C : OKc G X l RX8 "areTicks" cX8_areTicks 2 (some .boolean) 2 0 0 := C
  refine x_iload_n C eX8_areTicks_0 rfl ?_
  refine x_i2l C eX8_areTicks_1 (by omega) ?_
  refine x_iload_n C eX8_areTicks_2 rfl ?_
  refine x_i2l C eX8_areTicks_3 (by omega) ?_
  refine x_ldc2 C eX8_areTicks_4 k_RX8_328 ?_
  refine yS3r [] [] C (s_X8_in hK (by (try simp (disch := omega) only [Int.reduceAdd, uN_s, uN_uN, un_s, un_un, un_n, ub_s, ub_n, inc, bStop_n, bDrop_s, bDrop_n, unub_n, nLog_n, nLog_h, Int.sub_add_cancel]); omega)) v_X8_in vs_X8_in s_RX8_72 eX8_areTicks_7 (fun _ _ h => WF_pick [] rfl rfl h) rfl (nle rfl) (nle rfl) (nle rfl) (nle rfl) rfl ?_
  refine x_iret (nz_bz _) C F eX8_areTicks_10 () ?_ trivial (fun cf c h => ?_) (nle rfl) (nle rfl)
  · first | rfl | rw [bz_t (by omega)] | rw [bz_f (by omega)]
  · exact WF_pick [] rfl rfl h

set_option maxHeartbeats 4000000 in
set_option maxRecDepth 100000 in
theorem s_X8_areBytes {G : Gm} {l : Launch} (hK : KG G) {v9 t9 : Int} (hr0 : (-2147483648 ≤ v9 ∧ v9 < 2147483648) ∧ (-2147483648 ≤ t9 ∧ t9 < 2147483648)) : MD G l yX8_areBytes cX8_areBytes 2 (some .boolean) 2 0 0 [.int (zI v9), .int (zI t9)] [] (some (.int (zI (bz ((1 ≤ v9 ∧ v9 ≤ 127) ∧ 1 ≤ t9 ∧ t9 ≤ 60))))) [] := by
  refine MX_of (lv := [some (.int (zI v9)), some (.int (zI t9))]) hK (by decide +kernel) rfl (nle rfl) (fun X C F => ?_)
  have C : OKc G X l RX8 "areBytes" cX8_areBytes 2 (some .boolean) 2 0 0 := C
  refine x_iload_n C eX8_areBytes_0 rfl ?_
  refine x_i2l C eX8_areBytes_1 (by omega) ?_
  refine x_lconst (v := 1) C eX8_areBytes_2 rfl ?_
  refine x_ldc2 C eX8_areBytes_3 k_RX8_344 ?_
  refine yS3r [] [] C (s_X8_in hK (by (try simp (disch := omega) only [Int.reduceAdd, uN_s, uN_uN, un_s, un_un, un_n, ub_s, ub_n, inc, bStop_n, bDrop_s, bDrop_n, unub_n, nLog_n, nLog_h, Int.sub_add_cancel]); omega)) v_X8_in vs_X8_in s_RX8_72 eX8_areBytes_6 (fun _ _ h => WF_pick [] rfl rfl h) rfl (nle rfl) (nle rfl) (nle rfl) (nle rfl) rfl ?_
  refine x_ifb_eq 28 C eX8_areBytes_9 rfl (fun h9 => ?_) (fun h9 => ?_)
  · refine x_iconst C eX8_areBytes_28 ?_
    refine x_iret (narZ (by omega)).1 C F eX8_areBytes_29 () ?_ trivial (fun cf c h => ?_) (nle rfl) (nle rfl)
    · first | rfl | rw [bz_t (by omega)] | rw [bz_f (by omega)]
    · exact WF_pick [] rfl rfl h
  · refine x_iload_n C eX8_areBytes_12 rfl ?_
    refine x_i2l C eX8_areBytes_13 (by omega) ?_
    refine x_lconst (v := 1) C eX8_areBytes_14 rfl ?_
    refine x_ldc2 C eX8_areBytes_15 k_RX8_346 ?_
    refine yS3r [] [] C (s_X8_in hK (by (try simp (disch := omega) only [Int.reduceAdd, uN_s, uN_uN, un_s, un_un, un_n, ub_s, ub_n, inc, bStop_n, bDrop_s, bDrop_n, unub_n, nLog_n, nLog_h, Int.sub_add_cancel]); omega)) v_X8_in vs_X8_in s_RX8_72 eX8_areBytes_18 (fun _ _ h => WF_pick [] rfl rfl h) rfl (nle rfl) (nle rfl) (nle rfl) (nle rfl) rfl ?_
    refine x_ifb_eq 28 C eX8_areBytes_21 rfl (fun h21 => ?_) (fun h21 => ?_)
    · refine x_iconst C eX8_areBytes_28 ?_
      refine x_iret (narZ (by omega)).1 C F eX8_areBytes_29 () ?_ trivial (fun cf c h => ?_) (nle rfl) (nle rfl)
      · first | rfl | rw [bz_t (by omega)] | rw [bz_f (by omega)]
      · exact WF_pick [] rfl rfl h
    · refine x_iconst C eX8_areBytes_24 ?_
      refine x_goto (pc' := 29) C eX8_areBytes_25 rfl ?_
      refine x_iret (narZ (by omega)).1 C F eX8_areBytes_29 () ?_ trivial (fun cf c h => ?_) (nle rfl) (nle rfl)
      · first | rfl | rw [bz_t (by omega)] | rw [bz_f (by omega)]
      · exact WF_pick [] rfl rfl h

set_option maxHeartbeats 4000000 in
set_option maxRecDepth 100000 in
theorem s_X8_count {G : Gm} {l : Launch} (hK : KG G) {o : Nat} {A : Nat → Nat} {I : Nat → Int} {N : Nat → Net} {n : Net} {b : Int} {l9 w9 : Int} (hN : NetOk b n) (hb : b ≤ 900000000) (r_l9 : -2147483648 ≤ l9 ∧ l9 < 2147483648) (r_w9 : -2147483648 ≤ w9 ∧ w9 < 2147483648) : MD G l yX8_count cX8_count 3 (some .int) 3 0 0 [.ref o, .int (zI l9), .int (zI w9)] [ob o 10 (shM A 1) I, fam G A (uN N 1 (n))] (some (.int (zI (if (0 ≤ l9 ∧ l9 ≤ n (-1) 0 - 1) ∧ (0 ≤ w9 ∧ w9 ≤ 11) ∧ (True) then n l9 (16 + w9) else 0)))) [ob o 10 (shM A 1) (up I 0 (thr (0 ≤ l9 ∧ l9 ≤ n (-1) 0 - 1) (0 ≤ w9 ∧ w9 ≤ 11) (True))), fam G A (uN N 1 (n))] := by
  refine MX_of (lv := [some (.ref o), some (.int (zI l9)), some (.int (zI w9))]) hK (by decide +kernel) rfl (nle rfl) (fun X C F => ?_)
  have C : OKc G X l RX8 "count" cX8_count 3 (some .int) 3 0 0 := C
  have hH := hN.1
  unfold HeadOk at hH
  have hr : rok 1 := Or.inl rfl
  refine x_aload_n C eX8_count_0 rfl ?_
  refine x_aload_n C eX8_count_1 rfl ?_
  refine x_iload_n C eX8_count_2 rfl ?_
  refine yV1r [] [_, _] C (s_X8_isLine hK hr (by (try simp (disch := omega) only [Int.reduceAdd, uN_s, uN_uN, un_s, un_un, un_n, ub_s, ub_n, inc, bStop_n, bDrop_s, bDrop_n, unub_n, nLog_n, nLog_h, Int.sub_add_cancel]); omega) (by (try simp (disch := omega) only [Int.reduceAdd, uN_s, uN_uN, un_s, un_un, un_n, ub_s, ub_n, inc, bStop_n, bDrop_s, bDrop_n, unub_n, nLog_n, nLog_h, Int.sub_add_cancel]); omega)) v_X8_isLine vv_X8_isLine s_RX8_299 eX8_count_3 (fun _ _ h => WF_pick [0, 1] rfl rfl h) (rcv 0 rfl) rfl (nle rfl) (nle rfl) (nle rfl) (nle rfl) rfl ?_
  refine x_iload_n C eX8_count_6 rfl ?_
  refine yS1r [_, _] [_, _] C (s_X8_isCount hK (by (try simp (disch := omega) only [Int.reduceAdd, uN_s, uN_uN, un_s, un_un, un_n, ub_s, ub_n, inc, bStop_n, bDrop_s, bDrop_n, unub_n, nLog_n, nLog_h, Int.sub_add_cancel]); omega)) v_X8_isCount vs_X8_isCount s_RX8_308 eX8_count_7 (fun _ _ h => WF_pick [0, 1] rfl rfl h) rfl (nle rfl) (nle rfl) (nle rfl) (nle rfl) rfl ?_
  refine yV2r [_] [_, _] C (s_X8_passes2v hK (0 ≤ l9 ∧ l9 ≤ n (-1) 0 - 1) (0 ≤ w9 ∧ w9 ≤ 11) (by first | rfl | rw [bz_t (by omega)] | rw [bz_f (by omega)]) (by first | rfl | rw [bz_t (by omega)] | rw [bz_f (by omega)])) v_X8_passes2 vv_X8_passes2 s_RX8_302 eX8_count_10 (fun _ _ h => WF_pick [0, 1] rfl rfl h) (rcv 0 rfl) rfl (nle rfl) (nle rfl) (nle rfl) (nle rfl) rfl ?_
  skip
  refine x_ifb_eq 25 C eX8_count_13 rfl (fun h13 => ?_) (fun h13 => ?_)
  · refine x_iconst C eX8_count_25 ?_
    refine x_iret (by first | rfl | exact (narZ (by omega)).1) C F eX8_count_26 () ?_ trivial (fun cf c h => ?_) (nle rfl) (nle rfl)
    · split
      all_goals first | rfl | contradiction | (exfalso; omega)
    · exact WF_pick [0, 1] rfl rfl h
  · refine x_aload_n C eX8_count_16 rfl ?_
    refine x_iload_n C eX8_count_17 rfl ?_
    refine x_iload_n C eX8_count_18 rfl ?_
    refine yV2r [] [_, _] C (s_X8_counted hK hr (by (try simp (disch := omega) only [Int.reduceAdd, uN_s, uN_uN, un_s, un_un, un_n, ub_s, ub_n, inc, bStop_n, bDrop_s, bDrop_n, unub_n, nLog_n, nLog_h, Int.sub_add_cancel]); omega) (by (try simp (disch := omega) only [Int.reduceAdd, uN_s, uN_uN, un_s, un_un, un_n, ub_s, ub_n, inc, bStop_n, bDrop_s, bDrop_n, unub_n, nLog_n, nLog_h, Int.sub_add_cancel]); omega)) v_X8_counted vv_X8_counted s_RX8_111 eX8_count_19 (fun _ _ h => WF_pick [0, 1] rfl rfl h) (rcv 0 rfl) rfl (nle rfl) (nle rfl) (nle rfl) (nle rfl) rfl ?_
    refine x_goto (pc' := 26) C eX8_count_22 rfl ?_
    refine x_iret (by first | rfl | exact (narZ (by omega)).1) C F eX8_count_26 () ?_ trivial (fun cf c h => ?_) (nle rfl) (nle rfl)
    · split
      all_goals first | rfl | contradiction | (exfalso; omega)
    · exact WF_pick [0, 1] rfl rfl h

set_option maxHeartbeats 4000000 in
set_option maxRecDepth 100000 in
theorem s_X8_delivered {G : Gm} {l : Launch} (hK : KG G) {o : Nat} {A : Nat → Nat} {I : Nat → Int} {N : Nat → Net} {n : Net} {b : Int} {l9 : Int} (hN : NetOk b n) (hb : b ≤ 900000000) (r_l9 : -2147483648 ≤ l9 ∧ l9 < 2147483648) : MD G l yX8_delivered cX8_delivered 2 (some .int) 3 0 0 [.ref o, .int (zI l9)] [ob o 10 (shM A 1) I, fam G A (uN N 1 (n))] (some (.int (zI (if (0 ≤ l9 ∧ l9 ≤ n (-1) 0 - 1) ∧ (True) ∧ (True) then n l9 14 else 0)))) [ob o 10 (shM A 1) (up I 0 (thr (0 ≤ l9 ∧ l9 ≤ n (-1) 0 - 1) (True) (True))), fam G A (uN N 1 (n))] := by
  refine MX_of (lv := [some (.ref o), some (.int (zI l9))]) hK (by decide +kernel) rfl (nle rfl) (fun X C F => ?_)
  have C : OKc G X l RX8 "delivered" cX8_delivered 2 (some .int) 3 0 0 := C
  have hH := hN.1
  unfold HeadOk at hH
  have hr : rok 1 := Or.inl rfl
  refine x_aload_n C eX8_delivered_0 rfl ?_
  refine x_aload_n C eX8_delivered_1 rfl ?_
  refine x_iload_n C eX8_delivered_2 rfl ?_
  refine yV1r [] [_, _] C (s_X8_isLine hK hr (by (try simp (disch := omega) only [Int.reduceAdd, uN_s, uN_uN, un_s, un_un, un_n, ub_s, ub_n, inc, bStop_n, bDrop_s, bDrop_n, unub_n, nLog_n, nLog_h, Int.sub_add_cancel]); omega) (by (try simp (disch := omega) only [Int.reduceAdd, uN_s, uN_uN, un_s, un_un, un_n, ub_s, ub_n, inc, bStop_n, bDrop_s, bDrop_n, unub_n, nLog_n, nLog_h, Int.sub_add_cancel]); omega)) v_X8_isLine vv_X8_isLine s_RX8_299 eX8_delivered_3 (fun _ _ h => WF_pick [0, 1] rfl rfl h) (rcv 0 rfl) rfl (nle rfl) (nle rfl) (nle rfl) (nle rfl) rfl ?_
  refine yV1r [_] [_, _] C (s_X8_passesv hK (0 ≤ l9 ∧ l9 ≤ n (-1) 0 - 1) (by first | rfl | rw [bz_t (by omega)] | rw [bz_f (by omega)])) v_X8_passes vv_X8_passes s_RX8_142 eX8_delivered_6 (fun _ _ h => WF_pick [0, 1] rfl rfl h) (rcv 0 rfl) rfl (nle rfl) (nle rfl) (nle rfl) (nle rfl) rfl ?_
  skip
  refine x_ifb_eq 22 C eX8_delivered_9 rfl (fun h9 => ?_) (fun h9 => ?_)
  · refine x_iconst C eX8_delivered_22 ?_
    refine x_iret (by first | rfl | exact (narZ (by omega)).1) C F eX8_delivered_23 () ?_ trivial (fun cf c h => ?_) (nle rfl) (nle rfl)
    · split
      all_goals first | rfl | contradiction | (exfalso; omega)
    · exact WF_pick [0, 1] rfl rfl h
  · refine x_aload_n C eX8_delivered_12 rfl ?_
    refine x_iload_n C eX8_delivered_13 rfl ?_
    refine x_bipush C eX8_delivered_14 rfl ?_
    refine yV2r [] [_, _] C (s_X8_of hK hr (by (try simp (disch := omega) only [Int.reduceAdd, uN_s, uN_uN, un_s, un_un, un_n, ub_s, ub_n, inc, bStop_n, bDrop_s, bDrop_n, unub_n, nLog_n, nLog_h, Int.sub_add_cancel]); omega) (by (try simp (disch := omega) only [Int.reduceAdd, uN_s, uN_uN, un_s, un_un, un_n, ub_s, ub_n, inc, bStop_n, bDrop_s, bDrop_n, unub_n, nLog_n, nLog_h, Int.sub_add_cancel]); omega)) v_X8_of vv_X8_of s_RX8_64 eX8_delivered_16 (fun _ _ h => WF_pick [0, 1] rfl rfl h) (rcv 0 rfl) rfl (nle rfl) (nle rfl) (nle rfl) (nle rfl) rfl ?_
    refine x_goto (pc' := 23) C eX8_delivered_19 rfl ?_
    refine x_iret (by first | rfl | exact (narZ (by omega)).1) C F eX8_delivered_23 () ?_ trivial (fun cf c h => ?_) (nle rfl) (nle rfl)
    · split
      all_goals first | rfl | contradiction | (exfalso; omega)
    · exact WF_pick [0, 1] rfl rfl h

set_option maxHeartbeats 4000000 in
set_option maxRecDepth 100000 in
theorem s_X8_room {G : Gm} {l : Launch} (hK : KG G) {o : Nat} {A : Nat → Nat} {I : Nat → Int} {N : Nat → Net} {n : Net} {b : Int} {l9 : Int} (hN : NetOk b n) (hb : b ≤ 900000000) (r_l9 : -2147483648 ≤ l9 ∧ l9 < 2147483648) : MD G l yX8_room cX8_room 2 (some .int) 3 0 0 [.ref o, .int (zI l9)] [ob o 10 (shM A 1) I, fam G A (uN N 1 (n))] (some (.int (zI (if (0 ≤ l9 ∧ l9 ≤ n (-1) 0 - 1) ∧ (True) ∧ (True) then if 0 < n l9 9 then 0 else n l9 1 - n l9 6 else 0)))) [ob o 10 (shM A 1) (up I 0 (thr (0 ≤ l9 ∧ l9 ≤ n (-1) 0 - 1) (True) (True))), fam G A (uN N 1 (n))] := by
  refine MX_of (lv := [some (.ref o), some (.int (zI l9))]) hK (by decide +kernel) rfl (nle rfl) (fun X C F => ?_)
  have C : OKc G X l RX8 "room" cX8_room 2 (some .int) 3 0 0 := C
  have hH := hN.1
  unfold HeadOk at hH
  have hr : rok 1 := Or.inl rfl
  refine x_aload_n C eX8_room_0 rfl ?_
  refine x_aload_n C eX8_room_1 rfl ?_
  refine x_iload_n C eX8_room_2 rfl ?_
  refine yV1r [] [_, _] C (s_X8_isLine hK hr (by (try simp (disch := omega) only [Int.reduceAdd, uN_s, uN_uN, un_s, un_un, un_n, ub_s, ub_n, inc, bStop_n, bDrop_s, bDrop_n, unub_n, nLog_n, nLog_h, Int.sub_add_cancel]); omega) (by (try simp (disch := omega) only [Int.reduceAdd, uN_s, uN_uN, un_s, un_un, un_n, ub_s, ub_n, inc, bStop_n, bDrop_s, bDrop_n, unub_n, nLog_n, nLog_h, Int.sub_add_cancel]); omega)) v_X8_isLine vv_X8_isLine s_RX8_299 eX8_room_3 (fun _ _ h => WF_pick [0, 1] rfl rfl h) (rcv 0 rfl) rfl (nle rfl) (nle rfl) (nle rfl) (nle rfl) rfl ?_
  refine yV1r [_] [_, _] C (s_X8_passesv hK (0 ≤ l9 ∧ l9 ≤ n (-1) 0 - 1) (by first | rfl | rw [bz_t (by omega)] | rw [bz_f (by omega)])) v_X8_passes vv_X8_passes s_RX8_142 eX8_room_6 (fun _ _ h => WF_pick [0, 1] rfl rfl h) (rcv 0 rfl) rfl (nle rfl) (nle rfl) (nle rfl) (nle rfl) rfl ?_
  skip
  refine x_ifb_ne 14 C eX8_room_9 rfl (fun h9 => ?_) (fun h9 => ?_)
  · have hL := hN.2.2 l9 (by omega) (by omega)
    unfold LineOk at hL
    refine x_aload_n C eX8_room_14 rfl ?_
    refine x_iload_n C eX8_room_15 rfl ?_
    refine yV1r [] [_, _] C (s_X8_isHeld hK hr (by (try simp (disch := omega) only [Int.reduceAdd, uN_s, uN_uN, un_s, un_un, un_n, ub_s, ub_n, inc, bStop_n, bDrop_s, bDrop_n, unub_n, nLog_n, nLog_h, Int.sub_add_cancel]); omega) (by (try simp (disch := omega) only [Int.reduceAdd, uN_s, uN_uN, un_s, un_un, un_n, ub_s, ub_n, inc, bStop_n, bDrop_s, bDrop_n, unub_n, nLog_n, nLog_h, Int.sub_add_cancel]); omega)) v_X8_isHeld vv_X8_isHeld s_RX8_83 eX8_room_16 (fun _ _ h => WF_pick [0, 1] rfl rfl h) (rcv 0 rfl) rfl (nle rfl) (nle rfl) (nle rfl) (nle rfl) rfl ?_
    refine x_ifb_eq 26 C eX8_room_19 rfl (fun h19 => ?_) (fun h19 => ?_)
    · refine x_aload_n C eX8_room_26 rfl ?_
      refine x_iload_n C eX8_room_27 rfl ?_
      refine x_iconst C eX8_room_28 ?_
      refine yV2r [] [_, _] C (s_X8_of hK hr (by (try simp (disch := omega) only [Int.reduceAdd, uN_s, uN_uN, un_s, un_un, un_n, ub_s, ub_n, inc, bStop_n, bDrop_s, bDrop_n, unub_n, nLog_n, nLog_h, Int.sub_add_cancel]); omega) (by (try simp (disch := omega) only [Int.reduceAdd, uN_s, uN_uN, un_s, un_un, un_n, ub_s, ub_n, inc, bStop_n, bDrop_s, bDrop_n, unub_n, nLog_n, nLog_h, Int.sub_add_cancel]); omega)) v_X8_of vv_X8_of s_RX8_64 eX8_room_29 (fun _ _ h => WF_pick [0, 1] rfl rfl h) (rcv 0 rfl) rfl (nle rfl) (nle rfl) (nle rfl) (nle rfl) rfl ?_
      refine x_aload_n C eX8_room_32 rfl ?_
      refine x_iload_n C eX8_room_33 rfl ?_
      refine x_bipush C eX8_room_34 rfl ?_
      refine yV2r [] [_, _] C (s_X8_of hK hr (by (try simp (disch := omega) only [Int.reduceAdd, uN_s, uN_uN, un_s, un_un, un_n, ub_s, ub_n, inc, bStop_n, bDrop_s, bDrop_n, unub_n, nLog_n, nLog_h, Int.sub_add_cancel]); omega) (by (try simp (disch := omega) only [Int.reduceAdd, uN_s, uN_uN, un_s, un_un, un_n, ub_s, ub_n, inc, bStop_n, bDrop_s, bDrop_n, unub_n, nLog_n, nLog_h, Int.sub_add_cancel]); omega)) v_X8_of vv_X8_of s_RX8_64 eX8_room_36 (fun _ _ h => WF_pick [0, 1] rfl rfl h) (rcv 0 rfl) rfl (nle rfl) (nle rfl) (nle rfl) (nle rfl) rfl ?_
      refine x_isub C eX8_room_39 ?_
      refine x_iret (by first | rfl | exact (narZ (by omega)).1) C F eX8_room_40 () ?_ trivial (fun cf c h => ?_) (nle rfl) (nle rfl)
      · split
        all_goals first | rfl | contradiction | (split <;> first | rfl | contradiction)
      · exact WF_pick [0, 1] rfl rfl h
    · refine x_iconst C eX8_room_22 ?_
      refine x_goto (pc' := 40) C eX8_room_23 rfl ?_
      refine x_iret (by first | rfl | exact (narZ (by omega)).1) C F eX8_room_40 () ?_ trivial (fun cf c h => ?_) (nle rfl) (nle rfl)
      · split
        all_goals first | rfl | contradiction | (split <;> first | rfl | contradiction)
      · exact WF_pick [0, 1] rfl rfl h
  · refine x_iconst C eX8_room_12 ?_
    refine x_iret (by first | rfl | exact (narZ (by omega)).1) C F eX8_room_13 () ?_ trivial (fun cf c h => ?_) (nle rfl) (nle rfl)
    · split
      all_goals first | rfl | contradiction | (split <;> first | rfl | contradiction)
    · exact WF_pick [0, 1] rfl rfl h

set_option maxHeartbeats 4000000 in
set_option maxRecDepth 100000 in
theorem s_X8_untilStop {G : Gm} {l : Launch} (hK : KG G) {o : Nat} {A : Nat → Nat} {I : Nat → Int} {N : Nat → Net} {n : Net} {b : Int} {l9 : Int} (hN : NetOk b n) (hb : b ≤ 900000000) (r_l9 : -2147483648 ≤ l9 ∧ l9 < 2147483648) : MD G l yX8_untilStop cX8_untilStop 2 (some .int) 3 0 0 [.ref o, .int (zI l9)] [ob o 10 (shM A 1) I, fam G A (uN N 1 (n))] (some (.int (zI (if (0 ≤ l9 ∧ l9 ≤ n (-1) 0 - 1) ∧ (True) ∧ (True) then if 0 < n l9 9 ∨ n l9 10 = 1 then 0 else n l9 3 - n l9 6 else 0)))) [ob o 10 (shM A 1) (up I 0 (thr (0 ≤ l9 ∧ l9 ≤ n (-1) 0 - 1) (True) (True))), fam G A (uN N 1 (n))] := by
  refine MX_of (lv := [some (.ref o), some (.int (zI l9))]) hK (by decide +kernel) rfl (nle rfl) (fun X C F => ?_)
  have C : OKc G X l RX8 "untilStop" cX8_untilStop 2 (some .int) 3 0 0 := C
  have hH := hN.1
  unfold HeadOk at hH
  have hr : rok 1 := Or.inl rfl
  refine x_aload_n C eX8_untilStop_0 rfl ?_
  refine x_aload_n C eX8_untilStop_1 rfl ?_
  refine x_iload_n C eX8_untilStop_2 rfl ?_
  refine yV1r [] [_, _] C (s_X8_isLine hK hr (by (try simp (disch := omega) only [Int.reduceAdd, uN_s, uN_uN, un_s, un_un, un_n, ub_s, ub_n, inc, bStop_n, bDrop_s, bDrop_n, unub_n, nLog_n, nLog_h, Int.sub_add_cancel]); omega) (by (try simp (disch := omega) only [Int.reduceAdd, uN_s, uN_uN, un_s, un_un, un_n, ub_s, ub_n, inc, bStop_n, bDrop_s, bDrop_n, unub_n, nLog_n, nLog_h, Int.sub_add_cancel]); omega)) v_X8_isLine vv_X8_isLine s_RX8_299 eX8_untilStop_3 (fun _ _ h => WF_pick [0, 1] rfl rfl h) (rcv 0 rfl) rfl (nle rfl) (nle rfl) (nle rfl) (nle rfl) rfl ?_
  refine yV1r [_] [_, _] C (s_X8_passesv hK (0 ≤ l9 ∧ l9 ≤ n (-1) 0 - 1) (by first | rfl | rw [bz_t (by omega)] | rw [bz_f (by omega)])) v_X8_passes vv_X8_passes s_RX8_142 eX8_untilStop_6 (fun _ _ h => WF_pick [0, 1] rfl rfl h) (rcv 0 rfl) rfl (nle rfl) (nle rfl) (nle rfl) (nle rfl) rfl ?_
  skip
  refine x_ifb_ne 14 C eX8_untilStop_9 rfl (fun h9 => ?_) (fun h9 => ?_)
  · have hL := hN.2.2 l9 (by omega) (by omega)
    unfold LineOk at hL
    refine x_aload_n C eX8_untilStop_14 rfl ?_
    refine x_iload_n C eX8_untilStop_15 rfl ?_
    refine yV1r [] [_, _] C (s_X8_isHeld hK hr (by (try simp (disch := omega) only [Int.reduceAdd, uN_s, uN_uN, un_s, un_un, un_n, ub_s, ub_n, inc, bStop_n, bDrop_s, bDrop_n, unub_n, nLog_n, nLog_h, Int.sub_add_cancel]); omega) (by (try simp (disch := omega) only [Int.reduceAdd, uN_s, uN_uN, un_s, un_un, un_n, ub_s, ub_n, inc, bStop_n, bDrop_s, bDrop_n, unub_n, nLog_n, nLog_h, Int.sub_add_cancel]); omega)) v_X8_isHeld vv_X8_isHeld s_RX8_83 eX8_untilStop_16 (fun _ _ h => WF_pick [0, 1] rfl rfl h) (rcv 0 rfl) rfl (nle rfl) (nle rfl) (nle rfl) (nle rfl) rfl ?_
    refine x_ifb_ne 33 C eX8_untilStop_19 rfl (fun h19 => ?_) (fun h19 => ?_)
    · refine x_iconst C eX8_untilStop_33 ?_
      refine x_goto (pc' := 51) C eX8_untilStop_34 rfl ?_
      refine x_iret (by first | rfl | exact (narZ (by omega)).1) C F eX8_untilStop_51 () ?_ trivial (fun cf c h => ?_) (nle rfl) (nle rfl)
      · split
        all_goals first | rfl | contradiction | (split <;> first | rfl | (exfalso; omega))
      · exact WF_pick [0, 1] rfl rfl h
    · refine x_aload_n C eX8_untilStop_22 rfl ?_
      refine x_iload_n C eX8_untilStop_23 rfl ?_
      refine x_bipush C eX8_untilStop_24 rfl ?_
      refine yV2r [] [_, _] C (s_X8_of hK hr (by (try simp (disch := omega) only [Int.reduceAdd, uN_s, uN_uN, un_s, un_un, un_n, ub_s, ub_n, inc, bStop_n, bDrop_s, bDrop_n, unub_n, nLog_n, nLog_h, Int.sub_add_cancel]); omega) (by (try simp (disch := omega) only [Int.reduceAdd, uN_s, uN_uN, un_s, un_un, un_n, ub_s, ub_n, inc, bStop_n, bDrop_s, bDrop_n, unub_n, nLog_n, nLog_h, Int.sub_add_cancel]); omega)) v_X8_of vv_X8_of s_RX8_64 eX8_untilStop_26 (fun _ _ h => WF_pick [0, 1] rfl rfl h) (rcv 0 rfl) rfl (nle rfl) (nle rfl) (nle rfl) (nle rfl) rfl ?_
      refine x_iconst C eX8_untilStop_29 ?_
      refine x_icmp_ne 37 C eX8_untilStop_30 rfl (by omega) (by omega) (fun h30 => ?_) (fun h30 => ?_)
      · refine x_aload_n C eX8_untilStop_37 rfl ?_
        refine x_iload_n C eX8_untilStop_38 rfl ?_
        refine x_iconst C eX8_untilStop_39 ?_
        refine yV2r [] [_, _] C (s_X8_of hK hr (by (try simp (disch := omega) only [Int.reduceAdd, uN_s, uN_uN, un_s, un_un, un_n, ub_s, ub_n, inc, bStop_n, bDrop_s, bDrop_n, unub_n, nLog_n, nLog_h, Int.sub_add_cancel]); omega) (by (try simp (disch := omega) only [Int.reduceAdd, uN_s, uN_uN, un_s, un_un, un_n, ub_s, ub_n, inc, bStop_n, bDrop_s, bDrop_n, unub_n, nLog_n, nLog_h, Int.sub_add_cancel]); omega)) v_X8_of vv_X8_of s_RX8_64 eX8_untilStop_40 (fun _ _ h => WF_pick [0, 1] rfl rfl h) (rcv 0 rfl) rfl (nle rfl) (nle rfl) (nle rfl) (nle rfl) rfl ?_
        refine x_aload_n C eX8_untilStop_43 rfl ?_
        refine x_iload_n C eX8_untilStop_44 rfl ?_
        refine x_bipush C eX8_untilStop_45 rfl ?_
        refine yV2r [] [_, _] C (s_X8_of hK hr (by (try simp (disch := omega) only [Int.reduceAdd, uN_s, uN_uN, un_s, un_un, un_n, ub_s, ub_n, inc, bStop_n, bDrop_s, bDrop_n, unub_n, nLog_n, nLog_h, Int.sub_add_cancel]); omega) (by (try simp (disch := omega) only [Int.reduceAdd, uN_s, uN_uN, un_s, un_un, un_n, ub_s, ub_n, inc, bStop_n, bDrop_s, bDrop_n, unub_n, nLog_n, nLog_h, Int.sub_add_cancel]); omega)) v_X8_of vv_X8_of s_RX8_64 eX8_untilStop_47 (fun _ _ h => WF_pick [0, 1] rfl rfl h) (rcv 0 rfl) rfl (nle rfl) (nle rfl) (nle rfl) (nle rfl) rfl ?_
        refine x_isub C eX8_untilStop_50 ?_
        refine x_iret (by first | rfl | exact (narZ (by omega)).1) C F eX8_untilStop_51 () ?_ trivial (fun cf c h => ?_) (nle rfl) (nle rfl)
        · split
          all_goals first | rfl | contradiction | (split <;> first | rfl | (exfalso; omega))
        · exact WF_pick [0, 1] rfl rfl h
      · refine x_iconst C eX8_untilStop_33 ?_
        refine x_goto (pc' := 51) C eX8_untilStop_34 rfl ?_
        refine x_iret (by first | rfl | exact (narZ (by omega)).1) C F eX8_untilStop_51 () ?_ trivial (fun cf c h => ?_) (nle rfl) (nle rfl)
        · split
          all_goals first | rfl | contradiction | (split <;> first | rfl | (exfalso; omega))
        · exact WF_pick [0, 1] rfl rfl h
  · refine x_iconst C eX8_untilStop_12 ?_
    refine x_iret (by first | rfl | exact (narZ (by omega)).1) C F eX8_untilStop_13 () ?_ trivial (fun cf c h => ?_) (nle rfl) (nle rfl)
    · split
      all_goals first | rfl | contradiction | (split <;> first | rfl | (exfalso; omega))
    · exact WF_pick [0, 1] rfl rfl h

set_option maxHeartbeats 4000000 in
set_option maxRecDepth 100000 in
theorem s_X8_gap {G : Gm} {l : Launch} (hK : KG G) {o : Nat} {A : Nat → Nat} {I : Nat → Int} {N : Nat → Net} {n : Net} {b : Int} {l9 : Int} (hN : NetOk b n) (hb : b ≤ 900000000) (r_l9 : -2147483648 ≤ l9 ∧ l9 < 2147483648) : MD G l yX8_gap cX8_gap 2 (some .int) 3 0 0 [.ref o, .int (zI l9)] [ob o 10 (shM A 1) I, fam G A (uN N 1 (n))] (some (.int (zI (if (0 ≤ l9 ∧ l9 ≤ n (-1) 0 - 1) ∧ (True) ∧ (True) then n l9 (16 + 0) - n l9 (16 + 1) - n l9 (16 + 2) - n l9 (16 + 3) - n l9 6 else 0)))) [ob o 10 (shM A 1) (up I 0 (thr (0 ≤ l9 ∧ l9 ≤ n (-1) 0 - 1) (True) (True))), fam G A (uN N 1 (n))] := by
  refine MX_of (lv := [some (.ref o), some (.int (zI l9))]) hK (by decide +kernel) rfl (nle rfl) (fun X C F => ?_)
  have C : OKc G X l RX8 "gap" cX8_gap 2 (some .int) 3 0 0 := C
  have hH := hN.1
  unfold HeadOk at hH
  have hr : rok 1 := Or.inl rfl
  refine x_aload_n C eX8_gap_0 rfl ?_
  refine x_aload_n C eX8_gap_1 rfl ?_
  refine x_iload_n C eX8_gap_2 rfl ?_
  refine yV1r [] [_, _] C (s_X8_isLine hK hr (by (try simp (disch := omega) only [Int.reduceAdd, uN_s, uN_uN, un_s, un_un, un_n, ub_s, ub_n, inc, bStop_n, bDrop_s, bDrop_n, unub_n, nLog_n, nLog_h, Int.sub_add_cancel]); omega) (by (try simp (disch := omega) only [Int.reduceAdd, uN_s, uN_uN, un_s, un_un, un_n, ub_s, ub_n, inc, bStop_n, bDrop_s, bDrop_n, unub_n, nLog_n, nLog_h, Int.sub_add_cancel]); omega)) v_X8_isLine vv_X8_isLine s_RX8_299 eX8_gap_3 (fun _ _ h => WF_pick [0, 1] rfl rfl h) (rcv 0 rfl) rfl (nle rfl) (nle rfl) (nle rfl) (nle rfl) rfl ?_
  refine yV1r [_] [_, _] C (s_X8_passesv hK (0 ≤ l9 ∧ l9 ≤ n (-1) 0 - 1) (by first | rfl | rw [bz_t (by omega)] | rw [bz_f (by omega)])) v_X8_passes vv_X8_passes s_RX8_142 eX8_gap_6 (fun _ _ h => WF_pick [0, 1] rfl rfl h) (rcv 0 rfl) rfl (nle rfl) (nle rfl) (nle rfl) (nle rfl) rfl ?_
  skip
  refine x_ifb_ne 14 C eX8_gap_9 rfl (fun h9 => ?_) (fun h9 => ?_)
  · refine x_aload_n C eX8_gap_14 rfl ?_
    refine x_iload_n C eX8_gap_15 rfl ?_
    refine x_iconst C eX8_gap_16 ?_
    refine yV2r [] [_, _] C (s_X8_counted hK hr (by (try simp (disch := omega) only [Int.reduceAdd, uN_s, uN_uN, un_s, un_un, un_n, ub_s, ub_n, inc, bStop_n, bDrop_s, bDrop_n, unub_n, nLog_n, nLog_h, Int.sub_add_cancel]); omega) (by (try simp (disch := omega) only [Int.reduceAdd, uN_s, uN_uN, un_s, un_un, un_n, ub_s, ub_n, inc, bStop_n, bDrop_s, bDrop_n, unub_n, nLog_n, nLog_h, Int.sub_add_cancel]); omega)) v_X8_counted vv_X8_counted s_RX8_111 eX8_gap_17 (fun _ _ h => WF_pick [0, 1] rfl rfl h) (rcv 0 rfl) rfl (nle rfl) (nle rfl) (nle rfl) (nle rfl) rfl ?_
    refine x_aload_n C eX8_gap_20 rfl ?_
    refine x_iload_n C eX8_gap_21 rfl ?_
    refine x_iconst C eX8_gap_22 ?_
    refine yV2r [] [_, _] C (s_X8_counted hK hr (by (try simp (disch := omega) only [Int.reduceAdd, uN_s, uN_uN, un_s, un_un, un_n, ub_s, ub_n, inc, bStop_n, bDrop_s, bDrop_n, unub_n, nLog_n, nLog_h, Int.sub_add_cancel]); omega) (by (try simp (disch := omega) only [Int.reduceAdd, uN_s, uN_uN, un_s, un_un, un_n, ub_s, ub_n, inc, bStop_n, bDrop_s, bDrop_n, unub_n, nLog_n, nLog_h, Int.sub_add_cancel]); omega)) v_X8_counted vv_X8_counted s_RX8_111 eX8_gap_23 (fun _ _ h => WF_pick [0, 1] rfl rfl h) (rcv 0 rfl) rfl (nle rfl) (nle rfl) (nle rfl) (nle rfl) rfl ?_
    refine x_isub C eX8_gap_26 ?_
    refine x_aload_n C eX8_gap_27 rfl ?_
    refine x_iload_n C eX8_gap_28 rfl ?_
    refine x_iconst C eX8_gap_29 ?_
    refine yV2r [] [_, _] C (s_X8_counted hK hr (by (try simp (disch := omega) only [Int.reduceAdd, uN_s, uN_uN, un_s, un_un, un_n, ub_s, ub_n, inc, bStop_n, bDrop_s, bDrop_n, unub_n, nLog_n, nLog_h, Int.sub_add_cancel]); omega) (by (try simp (disch := omega) only [Int.reduceAdd, uN_s, uN_uN, un_s, un_un, un_n, ub_s, ub_n, inc, bStop_n, bDrop_s, bDrop_n, unub_n, nLog_n, nLog_h, Int.sub_add_cancel]); omega)) v_X8_counted vv_X8_counted s_RX8_111 eX8_gap_30 (fun _ _ h => WF_pick [0, 1] rfl rfl h) (rcv 0 rfl) rfl (nle rfl) (nle rfl) (nle rfl) (nle rfl) rfl ?_
    refine x_isub C eX8_gap_33 ?_
    refine x_aload_n C eX8_gap_34 rfl ?_
    refine x_iload_n C eX8_gap_35 rfl ?_
    refine x_iconst C eX8_gap_36 ?_
    refine yV2r [] [_, _] C (s_X8_counted hK hr (by (try simp (disch := omega) only [Int.reduceAdd, uN_s, uN_uN, un_s, un_un, un_n, ub_s, ub_n, inc, bStop_n, bDrop_s, bDrop_n, unub_n, nLog_n, nLog_h, Int.sub_add_cancel]); omega) (by (try simp (disch := omega) only [Int.reduceAdd, uN_s, uN_uN, un_s, un_un, un_n, ub_s, ub_n, inc, bStop_n, bDrop_s, bDrop_n, unub_n, nLog_n, nLog_h, Int.sub_add_cancel]); omega)) v_X8_counted vv_X8_counted s_RX8_111 eX8_gap_37 (fun _ _ h => WF_pick [0, 1] rfl rfl h) (rcv 0 rfl) rfl (nle rfl) (nle rfl) (nle rfl) (nle rfl) rfl ?_
    refine x_isub C eX8_gap_40 ?_
    refine x_aload_n C eX8_gap_41 rfl ?_
    refine x_iload_n C eX8_gap_42 rfl ?_
    refine x_bipush C eX8_gap_43 rfl ?_
    refine yV2r [] [_, _] C (s_X8_of hK hr (by (try simp (disch := omega) only [Int.reduceAdd, uN_s, uN_uN, un_s, un_un, un_n, ub_s, ub_n, inc, bStop_n, bDrop_s, bDrop_n, unub_n, nLog_n, nLog_h, Int.sub_add_cancel]); omega) (by (try simp (disch := omega) only [Int.reduceAdd, uN_s, uN_uN, un_s, un_un, un_n, ub_s, ub_n, inc, bStop_n, bDrop_s, bDrop_n, unub_n, nLog_n, nLog_h, Int.sub_add_cancel]); omega)) v_X8_of vv_X8_of s_RX8_64 eX8_gap_45 (fun _ _ h => WF_pick [0, 1] rfl rfl h) (rcv 0 rfl) rfl (nle rfl) (nle rfl) (nle rfl) (nle rfl) rfl ?_
    refine x_isub C eX8_gap_48 ?_
    refine x_iret (by first | rfl | exact (narZ (by omega)).1) C F eX8_gap_49 () ?_ trivial (fun cf c h => ?_) (nle rfl) (nle rfl)
    · split
      all_goals first | rfl | contradiction | (exfalso; omega)
    · exact WF_pick [0, 1] rfl rfl h
  · refine x_iconst C eX8_gap_12 ?_
    refine x_iret (by first | rfl | exact (narZ (by omega)).1) C F eX8_gap_13 () ?_ trivial (fun cf c h => ?_) (nle rfl) (nle rfl)
    · split
      all_goals first | rfl | contradiction | (exfalso; omega)
    · exact WF_pick [0, 1] rfl rfl h

set_option maxHeartbeats 4000000 in
set_option maxRecDepth 100000 in
theorem s_X8_logMany {G : Gm} {l : Launch} (hK : KG G) {o : Nat} {A : Nat → Nat} {I : Nat → Int} {N : Nat → Net} {n : Net}  : MD G l yX8_logMany cX8_logMany 1 (some .int) 1 0 0 [.ref o] [ob o 10 (shM A 1) I, fam G A (uN N 1 (n))] (some (.int (zI (n (-1) 7)))) [ob o 10 (shM A 1) I, fam G A (uN N 1 (n))] := by
  refine MX_of (lv := [some (.ref o)]) hK (by decide +kernel) rfl (nle rfl) (fun X C F => ?_)
  have C : OKc G X l RX8 "logMany" cX8_logMany 1 (some .int) 1 0 0 := C
  refine x_aload_n C eX8_logMany_0 rfl ?_
  refine x_getR 0 C f_RX8_17 eX8_logMany_1 rfl rfl ?_
  refine x_bipush C eX8_logMany_4 rfl ?_
  refine x_faldU 1 C eX8_logMany_6 rfl (Or.inl rfl) (by omega) ?_
  first | rw [enc_head _ (by omega)] | rw [enc_line _ (by omega) (by omega)]
  refine x_iret (by first | rfl | exact (narZ (by omega)).1) C F eX8_logMany_7 () ?_ trivial (fun cf c h => ?_) (nle rfl) (nle rfl)
  · rfl
  · exact WF_pick [0, 1] rfl rfl h

set_option maxHeartbeats 4000000 in
set_option maxRecDepth 100000 in
theorem s_X8_ofLog {G : Gm} {l : Launch} (hK : KG G) {o : Nat} {A : Nat → Nat} {I : Nat → Int} {N : Nat → Net} {n : Net} {i9 w9 : Int} (hi : (0 ≤ i9 ∧ i9 < 40) ∧ 0 ≤ w9 ∧ w9 < 5) : MD G l yX8_ofLog cX8_ofLog 3 (some .int) 1 0 0 [.ref o, .int (zI i9), .int (zI w9)] [ob o 10 (shM A 1) I, fam G A (uN N 1 (n))] (some (.int (zI (n (-2) (5 * i9 + w9))))) [ob o 10 (shM A 1) I, fam G A (uN N 1 (n))] := by
  refine MX_of (lv := [some (.ref o), some (.int (zI i9)), some (.int (zI w9))]) hK (by decide +kernel) rfl (nle rfl) (fun X C F => ?_)
  have C : OKc G X l RX8 "ofLog" cX8_ofLog 3 (some .int) 1 0 0 := C
  refine x_aload_n C eX8_ofLog_0 rfl ?_
  refine x_getR 0 C f_RX8_17 eX8_ofLog_1 rfl rfl ?_
  refine x_sipush C eX8_ofLog_4 rfl ?_
  refine x_iconst C eX8_ofLog_7 ?_
  refine x_iload_n C eX8_ofLog_8 rfl ?_
  refine x_imul C eX8_ofLog_9 ?_
  refine x_iadd C eX8_ofLog_10 ?_
  refine x_iload_n C eX8_ofLog_11 rfl ?_
  refine x_iadd C eX8_ofLog_12 ?_
  refine x_faldU 1 C eX8_ofLog_13 rfl (Or.inl rfl) (by omega) ?_
  rw [enc_logi _ (by omega), show 1616 + 5 * i9 + w9 - 1616 = 5 * i9 + w9 by omega]
  refine x_iret (by first | rfl | exact (narZ (by omega)).1) C F eX8_ofLog_14 () ?_ trivial (fun cf c h => ?_) (nle rfl) (nle rfl)
  · rfl
  · exact WF_pick [0, 1] rfl rfl h

set_option maxHeartbeats 4000000 in
set_option maxRecDepth 100000 in
theorem s_X8_logged {G : Gm} {l : Launch} (hK : KG G) {o : Nat} {A : Nat → Nat} {I : Nat → Int} {N : Nat → Net} {n : Net} {b : Int} {i9 w9 : Int} (hN : NetOk b n) (hb : b ≤ 900000000) (r_i9 : -2147483648 ≤ i9 ∧ i9 < 2147483648) (r_w9 : -2147483648 ≤ w9 ∧ w9 < 2147483648) : MD G l yX8_logged cX8_logged 3 (some .int) 3 0 0 [.ref o, .int (zI i9), .int (zI w9)] [ob o 10 (shM A 1) I, fam G A (uN N 1 (n))] (some (.int (zI (if (0 ≤ i9 ∧ i9 ≤ n (-1) 7 - 1) ∧ (0 ≤ w9 ∧ w9 ≤ 4) ∧ (True) then n (-2) (5 * i9 + w9) else 0)))) [ob o 10 (shM A 1) (up I 0 (thr (0 ≤ i9 ∧ i9 ≤ n (-1) 7 - 1) (0 ≤ w9 ∧ w9 ≤ 4) (True))), fam G A (uN N 1 (n))] := by
  refine MX_of (lv := [some (.ref o), some (.int (zI i9)), some (.int (zI w9))]) hK (by decide +kernel) rfl (nle rfl) (fun X C F => ?_)
  have C : OKc G X l RX8 "logged" cX8_logged 3 (some .int) 3 0 0 := C
  have hH := hN.1
  unfold HeadOk at hH
  have hr : rok 1 := Or.inl rfl
  refine x_aload_n C eX8_logged_0 rfl ?_
  refine x_iload_n C eX8_logged_1 rfl ?_
  refine x_i2l C eX8_logged_2 (by omega) ?_
  refine x_lconst (v := 0) C eX8_logged_3 rfl ?_
  refine x_aload_n C eX8_logged_4 rfl ?_
  refine yV0r [] [_, _] C (s_X8_logMany hK ) v_X8_logMany vv_X8_logMany s_RX8_311 eX8_logged_5 (fun _ _ h => WF_pick [0, 1] rfl rfl h) (rcv 0 rfl) rfl (nle rfl) (nle rfl) (nle rfl) (nle rfl) rfl ?_
  try simp (disch := omega) only [Int.reduceAdd, uN_s, uN_uN, un_s, un_un, un_n, ub_s, ub_n, inc, bStop_n, bDrop_s, bDrop_n, unub_n, nLog_n, nLog_h, Int.sub_add_cancel]
  refine x_iconst C eX8_logged_8 ?_
  refine x_isub C eX8_logged_9 ?_
  refine x_i2l C eX8_logged_10 (by omega) ?_
  refine yS3r [_, _] [_, _] C (s_X8_in hK (by (try simp (disch := omega) only [Int.reduceAdd, uN_s, uN_uN, un_s, un_un, un_n, ub_s, ub_n, inc, bStop_n, bDrop_s, bDrop_n, unub_n, nLog_n, nLog_h, Int.sub_add_cancel]); omega)) v_X8_in vs_X8_in s_RX8_72 eX8_logged_11 (fun _ _ h => WF_pick [0, 1] rfl rfl h) rfl (nle rfl) (nle rfl) (nle rfl) (nle rfl) rfl ?_
  refine x_iload_n C eX8_logged_14 rfl ?_
  refine x_i2l C eX8_logged_15 (by omega) ?_
  refine x_lconst (v := 0) C eX8_logged_16 rfl ?_
  refine x_ldc2 C eX8_logged_17 k_RX8_314 ?_
  refine yS3r [_, _] [_, _] C (s_X8_in hK (by (try simp (disch := omega) only [Int.reduceAdd, uN_s, uN_uN, un_s, un_un, un_n, ub_s, ub_n, inc, bStop_n, bDrop_s, bDrop_n, unub_n, nLog_n, nLog_h, Int.sub_add_cancel]); omega)) v_X8_in vs_X8_in s_RX8_72 eX8_logged_20 (fun _ _ h => WF_pick [0, 1] rfl rfl h) rfl (nle rfl) (nle rfl) (nle rfl) (nle rfl) rfl ?_
  refine yV2r [_] [_, _] C (s_X8_passes2v hK (0 ≤ i9 ∧ i9 ≤ n (-1) 7 - 1) (0 ≤ w9 ∧ w9 ≤ 4) (by first | rfl | rw [bz_t (by omega)] | rw [bz_f (by omega)]) (by first | rfl | rw [bz_t (by omega)] | rw [bz_f (by omega)])) v_X8_passes2 vv_X8_passes2 s_RX8_302 eX8_logged_23 (fun _ _ h => WF_pick [0, 1] rfl rfl h) (rcv 0 rfl) rfl (nle rfl) (nle rfl) (nle rfl) (nle rfl) rfl ?_
  skip
  refine x_ifb_eq 38 C eX8_logged_26 rfl (fun h26 => ?_) (fun h26 => ?_)
  · refine x_iconst C eX8_logged_38 ?_
    refine x_iret (by first | rfl | exact (narZ (by omega)).1) C F eX8_logged_39 () ?_ trivial (fun cf c h => ?_) (nle rfl) (nle rfl)
    · split
      all_goals first | rfl | contradiction | (exfalso; omega)
    · exact WF_pick [0, 1] rfl rfl h
  · refine x_aload_n C eX8_logged_29 rfl ?_
    refine x_iload_n C eX8_logged_30 rfl ?_
    refine x_iload_n C eX8_logged_31 rfl ?_
    refine yV2r [] [_, _] C (s_X8_ofLog hK (by (try simp (disch := omega) only [Int.reduceAdd, uN_s, uN_uN, un_s, un_un, un_n, ub_s, ub_n, inc, bStop_n, bDrop_s, bDrop_n, unub_n, nLog_n, nLog_h, Int.sub_add_cancel]); omega)) v_X8_ofLog vv_X8_ofLog s_RX8_316 eX8_logged_32 (fun _ _ h => WF_pick [0, 1] rfl rfl h) (rcv 0 rfl) rfl (nle rfl) (nle rfl) (nle rfl) (nle rfl) rfl ?_
    try simp (disch := omega) only [Int.reduceAdd, uN_s, uN_uN, un_s, un_un, un_n, ub_s, ub_n, inc, bStop_n, bDrop_s, bDrop_n, unub_n, nLog_n, nLog_h, Int.sub_add_cancel]
    refine x_goto (pc' := 39) C eX8_logged_35 rfl ?_
    refine x_iret (by first | rfl | exact (narZ (by omega)).1) C F eX8_logged_39 () ?_ trivial (fun cf c h => ?_) (nle rfl) (nle rfl)
    · split
      all_goals first | rfl | contradiction | (exfalso; omega)
    · exact WF_pick [0, 1] rfl rfl h

set_option maxHeartbeats 4000000 in
set_option maxRecDepth 100000 in
theorem s_X8_errorCode {G : Gm} {l : Launch} (hK : KG G) {o : Nat} {A : Nat → Nat} {I : Nat → Int} {N : Nat → Net} {n : Net}  : MD G l yX8_errorCode cX8_errorCode 1 (some .int) 1 0 0 [.ref o] [ob o 10 (shM A 1) I, fam G A (uN N 1 (n))] (some (.int (zI (I 12)))) [ob o 10 (shM A 1) (up I 0 0), fam G A (uN N 1 (n))] := by
  refine MX_of (lv := [some (.ref o)]) hK (by decide +kernel) rfl (nle rfl) (fun X C F => ?_)
  have C : OKc G X l RX8 "errorCode" cX8_errorCode 1 (some .int) 1 0 0 := C
  refine x_aload_n C eX8_errorCode_0 rfl ?_
  refine x_iconst C eX8_errorCode_1 ?_
  refine x_putI [_, _] 0 C f_RX8_3 eX8_errorCode_2 rfl rfl rfl ?_
  refine x_aload_n C eX8_errorCode_5 rfl ?_
  refine x_getI 0 C f_RX8_149 eX8_errorCode_6 rfl rfl ?_
  simp only [up_lit, if_true, if_false]
  refine x_iret (by first | rfl | exact (narZ (by omega)).1) C F eX8_errorCode_9 () ?_ trivial (fun cf c h => ?_) (nle rfl) (nle rfl)
  · rfl
  · exact WF_pick [0, 1] rfl rfl h

set_option maxHeartbeats 4000000 in
set_option maxRecDepth 100000 in
theorem s_X8_errorPosition {G : Gm} {l : Launch} (hK : KG G) {o : Nat} {A : Nat → Nat} {I : Nat → Int} {N : Nat → Net} {n : Net}  : MD G l yX8_errorPosition cX8_errorPosition 1 (some .int) 1 0 0 [.ref o] [ob o 10 (shM A 1) I, fam G A (uN N 1 (n))] (some (.int (zI (I 13)))) [ob o 10 (shM A 1) (up I 0 0), fam G A (uN N 1 (n))] := by
  refine MX_of (lv := [some (.ref o)]) hK (by decide +kernel) rfl (nle rfl) (fun X C F => ?_)
  have C : OKc G X l RX8 "errorPosition" cX8_errorPosition 1 (some .int) 1 0 0 := C
  refine x_aload_n C eX8_errorPosition_0 rfl ?_
  refine x_iconst C eX8_errorPosition_1 ?_
  refine x_putI [_, _] 0 C f_RX8_3 eX8_errorPosition_2 rfl rfl rfl ?_
  refine x_aload_n C eX8_errorPosition_5 rfl ?_
  refine x_getI 0 C f_RX8_34 eX8_errorPosition_6 rfl rfl ?_
  simp only [up_lit, if_true, if_false]
  refine x_iret (by first | rfl | exact (narZ (by omega)).1) C F eX8_errorPosition_9 () ?_ trivial (fun cf c h => ?_) (nle rfl) (nle rfl)
  · rfl
  · exact WF_pick [0, 1] rfl rfl h

set_option maxHeartbeats 4000000 in
set_option maxRecDepth 100000 in
theorem s_X8_undoCount {G : Gm} {l : Launch} (hK : KG G) {o : Nat} {A : Nat → Nat} {I : Nat → Int} {N : Nat → Net} {n : Net}  : MD G l yX8_undoCount cX8_undoCount 1 (some .int) 1 0 0 [.ref o] [ob o 10 (shM A 1) I, fam G A (uN N 1 (n))] (some (.int (zI (I 20)))) [ob o 10 (shM A 1) (up I 0 0), fam G A (uN N 1 (n))] := by
  refine MX_of (lv := [some (.ref o)]) hK (by decide +kernel) rfl (nle rfl) (fun X C F => ?_)
  have C : OKc G X l RX8 "undoCount" cX8_undoCount 1 (some .int) 1 0 0 := C
  refine x_aload_n C eX8_undoCount_0 rfl ?_
  refine x_iconst C eX8_undoCount_1 ?_
  refine x_putI [_, _] 0 C f_RX8_3 eX8_undoCount_2 rfl rfl rfl ?_
  refine x_aload_n C eX8_undoCount_5 rfl ?_
  refine x_getI 0 C f_RX8_370 eX8_undoCount_6 rfl rfl ?_
  simp only [up_lit, if_true, if_false]
  refine x_iret (by first | rfl | exact (narZ (by omega)).1) C F eX8_undoCount_9 () ?_ trivial (fun cf c h => ?_) (nle rfl) (nle rfl)
  · rfl
  · exact WF_pick [0, 1] rfl rfl h

set_option maxHeartbeats 4000000 in
set_option maxRecDepth 100000 in
theorem s_X8_truncate {G : Gm} {l : Launch} (hK : KG G) {o : Nat} {A : Nat → Nat} {I : Nat → Int} {N : Nat → Net} {n : Net} {a9 : Int} (r_a9 : -2147483648 ≤ a9 ∧ a9 < 2147483648) (h6 : 0 ≤ I 6 ∧ I 6 ≤ 400) : MD G l yX8_truncate cX8_truncate 2 none 3 0 0 [.ref o, .int (zI a9)] [ob o 10 (shM A 1) I, fam G A (uN N 1 (n))] none [ob o 10 (shM A 1) (if (0 ≤ a9 ∧ a9 ≤ I 6) ∧ (True) ∧ (True) then up (up I 0 (thr (0 ≤ a9 ∧ a9 ≤ I 6) (True) (True))) 6 a9 else up I 0 (thr (0 ≤ a9 ∧ a9 ≤ I 6) (True) (True))), fam G A (uN N 1 (n))] := by
  refine MX_of (lv := [some (.ref o), some (.int (zI a9))]) hK (by decide +kernel) rfl (nle rfl) (fun X C F => ?_)
  have C : OKc G X l RX8 "truncate" cX8_truncate 2 none 3 0 0 := C
  have hr : rok 1 := Or.inl rfl
  refine x_aload_n C eX8_truncate_0 rfl ?_
  refine x_iload_n C eX8_truncate_1 rfl ?_
  refine x_i2l C eX8_truncate_2 (by omega) ?_
  refine x_lconst (v := 0) C eX8_truncate_3 rfl ?_
  refine x_aload_n C eX8_truncate_4 rfl ?_
  refine x_getI 0 C f_RX8_139 eX8_truncate_5 rfl rfl ?_
  refine x_i2l C eX8_truncate_8 (by omega) ?_
  refine yS3r [_, _] [_, _] C (s_X8_in hK (by (try simp (disch := omega) only [Int.reduceAdd, uN_s, uN_uN, un_s, un_un, un_n, ub_s, ub_n, inc, bStop_n, bDrop_s, bDrop_n, unub_n, nLog_n, nLog_h, Int.sub_add_cancel]); omega)) v_X8_in vs_X8_in s_RX8_72 eX8_truncate_9 (fun _ _ h => WF_pick [0, 1] rfl rfl h) rfl (nle rfl) (nle rfl) (nle rfl) (nle rfl) rfl ?_
  refine yV1r [_] [_, _] C (s_X8_passesv hK (0 ≤ a9 ∧ a9 ≤ I 6) (by first | rfl | rw [bz_t (by omega)] | rw [bz_f (by omega)])) v_X8_passes vv_X8_passes s_RX8_142 eX8_truncate_12 (fun _ _ h => WF_pick [0, 1] rfl rfl h) (rcv 0 rfl) rfl (nle rfl) (nle rfl) (nle rfl) (nle rfl) rfl ?_
  skip
  refine x_ifb_eq 23 C eX8_truncate_15 rfl (fun h15 => ?_) (fun h15 => ?_)
  · refine x_vret C F eX8_truncate_23 () rfl trivial (fun cf c h => ?_) (nle rfl) (nle rfl)
    split
    all_goals first | exact WF_pick [0, 1] rfl rfl h | contradiction
  · refine x_aload_n C eX8_truncate_18 rfl ?_
    refine x_iload_n C eX8_truncate_19 rfl ?_
    refine x_putI [_, _] 0 C f_RX8_139 eX8_truncate_20 rfl rfl rfl ?_
    refine x_vret C F eX8_truncate_23 () rfl trivial (fun cf c h => ?_) (nle rfl) (nle rfl)
    split
    all_goals first | exact WF_pick [0, 1] rfl rfl h | contradiction
