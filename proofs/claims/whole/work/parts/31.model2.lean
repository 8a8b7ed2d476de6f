set_option maxHeartbeats 4000000 in
set_option maxRecDepth 100000 in
theorem s_X8_offer {G : Gm} {l : Launch} (hK : KG G) {o r : Nat} {A : Nat → Nat} {I : Nat → Int} {N : Nat → Net} {n : Net} {l9 v9 : Int} (hr : rok r) (hl : 0 ≤ l9 ∧ l9 < 6) (hB : (0 ≤ n l9 9 ∧ n l9 9 ≤ 100) ∧ (0 ≤ n l9 7 ∧ n l9 7 ≤ n l9 1) ∧ n l9 1 ≤ 60) : MD G l yX8_offer cX8_offer 3 none 3 0 0 [.ref o, .int (zI l9), .int (zI v9)] [ob o 10 (shM A r) I, fam G A (uN N r n)] none [ob o 10 (shM A r) I, fam G A (uN N r (un n l9 (bOffer (n l9) v9)))] := by
  refine MX_of (lv := [some (.ref o), some (.int (zI l9)), some (.int (zI v9))]) hK (by decide +kernel) rfl (nle rfl) (fun X C F => ?_)
  have C : OKc G X l RX8 "offer" cX8_offer 3 none 3 0 0 := C
  refine x_aload_n C eX8_offer_0 rfl ?_
  refine x_iload_n C eX8_offer_1 rfl ?_
  refine x_iconst C eX8_offer_2 ?_
  refine yV2v [] [_, _] C (s_X8_counts hK hr (by (try simp (disch := omega) only [Int.reduceAdd, uN_s, uN_uN, un_s, un_un, un_n, ub_s, ub_n, inc, bStop_n, bDrop_s, bDrop_n, unub_n, nLog_n, nLog_h, Int.sub_add_cancel]); omega) (by (try simp (disch := omega) only [Int.reduceAdd, uN_s, uN_uN, un_s, un_un, un_n, ub_s, ub_n, inc, bStop_n, bDrop_s, bDrop_n, unub_n, nLog_n, nLog_h, Int.sub_add_cancel]); omega)) v_X8_counts vv_X8_counts s_RX8_79 eX8_offer_3 (fun _ _ h => WF_pick [0, 1] rfl rfl h) (rcv 0 rfl) rfl (nle rfl) (nle rfl) (nle rfl) (nle rfl) rfl ?_
  try simp (disch := omega) only [Int.reduceAdd, uN_s, uN_uN, un_s, un_un, un_n, ub_s, ub_n, inc, bStop_n, bDrop_s, bDrop_n, unub_n, nLog_n, nLog_h, Int.sub_add_cancel]
  refine x_aload_n C eX8_offer_6 rfl ?_
  refine x_iload_n C eX8_offer_7 rfl ?_
  refine yV1r [] [_, _] C (s_X8_isHeld hK hr (by (try simp (disch := omega) only [Int.reduceAdd, uN_s, uN_uN, un_s, un_un, un_n, ub_s, ub_n, inc, bStop_n, bDrop_s, bDrop_n, unub_n, nLog_n, nLog_h, Int.sub_add_cancel]); omega) (by (try simp (disch := omega) only [Int.reduceAdd, uN_s, uN_uN, un_s, un_un, un_n, ub_s, ub_n, inc, bStop_n, bDrop_s, bDrop_n, unub_n, nLog_n, nLog_h, Int.sub_add_cancel]); omega)) v_X8_isHeld vv_X8_isHeld s_RX8_83 eX8_offer_8 (fun _ _ h => WF_pick [0, 1] rfl rfl h) (rcv 0 rfl) rfl (nle rfl) (nle rfl) (nle rfl) (nle rfl) rfl ?_
  try simp (disch := omega) only [Int.reduceAdd, uN_s, uN_uN, un_s, un_un, un_n, ub_s, ub_n, inc, bStop_n, bDrop_s, bDrop_n, unub_n, nLog_n, nLog_h, Int.sub_add_cancel]
  refine x_ifb_ne 30 C eX8_offer_11 rfl (fun h11 => ?_) (fun h11 => ?_)
  · refine x_aload_n C eX8_offer_30 rfl ?_
    refine x_iload_n C eX8_offer_31 rfl ?_
    refine x_bipush C eX8_offer_32 rfl ?_
    refine yV2v [] [_, _] C (s_X8_counts hK hr (by (try simp (disch := omega) only [Int.reduceAdd, uN_s, uN_uN, un_s, un_un, un_n, ub_s, ub_n, inc, bStop_n, bDrop_s, bDrop_n, unub_n, nLog_n, nLog_h, Int.sub_add_cancel]); omega) (by (try simp (disch := omega) only [Int.reduceAdd, uN_s, uN_uN, un_s, un_un, un_n, ub_s, ub_n, inc, bStop_n, bDrop_s, bDrop_n, unub_n, nLog_n, nLog_h, Int.sub_add_cancel]); omega)) v_X8_counts vv_X8_counts s_RX8_79 eX8_offer_34 (fun _ _ h => WF_pick [0, 1] rfl rfl h) (rcv 0 rfl) rfl (nle rfl) (nle rfl) (nle rfl) (nle rfl) rfl ?_
    try simp (disch := omega) only [Int.reduceAdd, uN_s, uN_uN, un_s, un_un, un_n, ub_s, ub_n, inc, bStop_n, bDrop_s, bDrop_n, unub_n, nLog_n, nLog_h, Int.sub_add_cancel]
    refine x_vret C F eX8_offer_37 () rfl trivial (fun cf c h => ?_) (nle rfl) (nle rfl)
    first
      | (unfold bOffer; rw [if_pos (by omega)]; (try simp (disch := omega) only [inc, ub_n, ub_s]); exact WF_pick [0, 1] rfl rfl h)
      | (unfold bOffer; rw [if_neg (by omega)]; (try simp (disch := omega) only [inc, ub_n, ub_s]); exact WF_pick [0, 1] rfl rfl h)
  · refine x_aload_n C eX8_offer_14 rfl ?_
    refine x_iload_n C eX8_offer_15 rfl ?_
    refine x_bipush C eX8_offer_16 rfl ?_
    refine yV2r [] [_, _] C (s_X8_of hK hr (by (try simp (disch := omega) only [Int.reduceAdd, uN_s, uN_uN, un_s, un_un, un_n, ub_s, ub_n, inc, bStop_n, bDrop_s, bDrop_n, unub_n, nLog_n, nLog_h, Int.sub_add_cancel]); omega) (by (try simp (disch := omega) only [Int.reduceAdd, uN_s, uN_uN, un_s, un_un, un_n, ub_s, ub_n, inc, bStop_n, bDrop_s, bDrop_n, unub_n, nLog_n, nLog_h, Int.sub_add_cancel]); omega)) v_X8_of vv_X8_of s_RX8_64 eX8_offer_18 (fun _ _ h => WF_pick [0, 1] rfl rfl h) (rcv 0 rfl) rfl (nle rfl) (nle rfl) (nle rfl) (nle rfl) rfl ?_
    try simp (disch := omega) only [Int.reduceAdd, uN_s, uN_uN, un_s, un_un, un_n, ub_s, ub_n, inc, bStop_n, bDrop_s, bDrop_n, unub_n, nLog_n, nLog_h, Int.sub_add_cancel]
    refine x_aload_n C eX8_offer_21 rfl ?_
    refine x_iload_n C eX8_offer_22 rfl ?_
    refine x_iconst C eX8_offer_23 ?_
    refine yV2r [] [_, _] C (s_X8_of hK hr (by (try simp (disch := omega) only [Int.reduceAdd, uN_s, uN_uN, un_s, un_un, un_n, ub_s, ub_n, inc, bStop_n, bDrop_s, bDrop_n, unub_n, nLog_n, nLog_h, Int.sub_add_cancel]); omega) (by (try simp (disch := omega) only [Int.reduceAdd, uN_s, uN_uN, un_s, un_un, un_n, ub_s, ub_n, inc, bStop_n, bDrop_s, bDrop_n, unub_n, nLog_n, nLog_h, Int.sub_add_cancel]); omega)) v_X8_of vv_X8_of s_RX8_64 eX8_offer_24 (fun _ _ h => WF_pick [0, 1] rfl rfl h) (rcv 0 rfl) rfl (nle rfl) (nle rfl) (nle rfl) (nle rfl) rfl ?_
    try simp (disch := omega) only [Int.reduceAdd, uN_s, uN_uN, un_s, un_un, un_n, ub_s, ub_n, inc, bStop_n, bDrop_s, bDrop_n, unub_n, nLog_n, nLog_h, Int.sub_add_cancel]
    refine x_icmp_ne 38 C eX8_offer_27 rfl (by omega) (by omega) (fun h27 => ?_) (fun h27 => ?_)
    · refine x_aload_n C eX8_offer_38 rfl ?_
      refine x_iload_n C eX8_offer_39 rfl ?_
      refine x_sipush C eX8_offer_40 rfl ?_
      refine x_aload_n C eX8_offer_43 rfl ?_
      refine x_iload_n C eX8_offer_44 rfl ?_
      refine x_bipush C eX8_offer_45 rfl ?_
      refine yV2r [] [_, _] C (s_X8_of hK hr (by (try simp (disch := omega) only [Int.reduceAdd, uN_s, uN_uN, un_s, un_un, un_n, ub_s, ub_n, inc, bStop_n, bDrop_s, bDrop_n, unub_n, nLog_n, nLog_h, Int.sub_add_cancel]); omega) (by (try simp (disch := omega) only [Int.reduceAdd, uN_s, uN_uN, un_s, un_un, un_n, ub_s, ub_n, inc, bStop_n, bDrop_s, bDrop_n, unub_n, nLog_n, nLog_h, Int.sub_add_cancel]); omega)) v_X8_of vv_X8_of s_RX8_64 eX8_offer_47 (fun _ _ h => WF_pick [0, 1] rfl rfl h) (rcv 0 rfl) rfl (nle rfl) (nle rfl) (nle rfl) (nle rfl) rfl ?_
      try simp (disch := omega) only [Int.reduceAdd, uN_s, uN_uN, un_s, un_un, un_n, ub_s, ub_n, inc, bStop_n, bDrop_s, bDrop_n, unub_n, nLog_n, nLog_h, Int.sub_add_cancel]
      refine x_iadd C eX8_offer_50 ?_
      refine x_iload_n C eX8_offer_51 rfl ?_
      refine yV3v [] [_, _] C (s_X8_put hK hr (by (try simp (disch := omega) only [Int.reduceAdd, uN_s, uN_uN, un_s, un_un, un_n, ub_s, ub_n, inc, bStop_n, bDrop_s, bDrop_n, unub_n, nLog_n, nLog_h, Int.sub_add_cancel]); omega) (by (try simp (disch := omega) only [Int.reduceAdd, uN_s, uN_uN, un_s, un_un, un_n, ub_s, ub_n, inc, bStop_n, bDrop_s, bDrop_n, unub_n, nLog_n, nLog_h, Int.sub_add_cancel]); omega)) v_X8_put vv_X8_put s_RX8_76 eX8_offer_52 (fun _ _ h => WF_pick [0, 1] rfl rfl h) (rcv 0 rfl) rfl (nle rfl) (nle rfl) (nle rfl) (nle rfl) rfl ?_
      try simp (disch := omega) only [Int.reduceAdd, uN_s, uN_uN, un_s, un_un, un_n, ub_s, ub_n, inc, bStop_n, bDrop_s, bDrop_n, unub_n, nLog_n, nLog_h, Int.sub_add_cancel]
      refine x_aload_n C eX8_offer_55 rfl ?_
      refine x_iload_n C eX8_offer_56 rfl ?_
      refine x_bipush C eX8_offer_57 rfl ?_
      refine x_iconst C eX8_offer_59 ?_
      refine yV3v [] [_, _] C (s_X8_add hK hr (by (try simp (disch := omega) only [Int.reduceAdd, uN_s, uN_uN, un_s, un_un, un_n, ub_s, ub_n, inc, bStop_n, bDrop_s, bDrop_n, unub_n, nLog_n, nLog_h, Int.sub_add_cancel]); omega) (by (try simp (disch := omega) only [Int.reduceAdd, uN_s, uN_uN, un_s, un_un, un_n, ub_s, ub_n, inc, bStop_n, bDrop_s, bDrop_n, unub_n, nLog_n, nLog_h, Int.sub_add_cancel]); omega)) v_X8_add vv_X8_add s_RX8_60 eX8_offer_60 (fun _ _ h => WF_pick [0, 1] rfl rfl h) (rcv 0 rfl) rfl (nle rfl) (nle rfl) (nle rfl) (nle rfl) rfl ?_
      try simp (disch := omega) only [Int.reduceAdd, uN_s, uN_uN, un_s, un_un, un_n, ub_s, ub_n, inc, bStop_n, bDrop_s, bDrop_n, unub_n, nLog_n, nLog_h, Int.sub_add_cancel]
      refine x_vret C F eX8_offer_63 () rfl trivial (fun cf c h => ?_) (nle rfl) (nle rfl)
      first
        | (unfold bOffer; rw [if_pos (by omega)]; (try simp (disch := omega) only [inc, ub_n, ub_s]); exact WF_pick [0, 1] rfl rfl h)
        | (unfold bOffer; rw [if_neg (by omega)]; (try simp (disch := omega) only [inc, ub_n, ub_s]); exact WF_pick [0, 1] rfl rfl h)
    · refine x_aload_n C eX8_offer_30 rfl ?_
      refine x_iload_n C eX8_offer_31 rfl ?_
      refine x_bipush C eX8_offer_32 rfl ?_
      refine yV2v [] [_, _] C (s_X8_counts hK hr (by (try simp (disch := omega) only [Int.reduceAdd, uN_s, uN_uN, un_s, un_un, un_n, ub_s, ub_n, inc, bStop_n, bDrop_s, bDrop_n, unub_n, nLog_n, nLog_h, Int.sub_add_cancel]); omega) (by (try simp (disch := omega) only [Int.reduceAdd, uN_s, uN_uN, un_s, un_un, un_n, ub_s, ub_n, inc, bStop_n, bDrop_s, bDrop_n, unub_n, nLog_n, nLog_h, Int.sub_add_cancel]); omega)) v_X8_counts vv_X8_counts s_RX8_79 eX8_offer_34 (fun _ _ h => WF_pick [0, 1] rfl rfl h) (rcv 0 rfl) rfl (nle rfl) (nle rfl) (nle rfl) (nle rfl) rfl ?_
      try simp (disch := omega) only [Int.reduceAdd, uN_s, uN_uN, un_s, un_un, un_n, ub_s, ub_n, inc, bStop_n, bDrop_s, bDrop_n, unub_n, nLog_n, nLog_h, Int.sub_add_cancel]
      refine x_vret C F eX8_offer_37 () rfl trivial (fun cf c h => ?_) (nle rfl) (nle rfl)
      first
        | (unfold bOffer; rw [if_pos (by omega)]; (try simp (disch := omega) only [inc, ub_n, ub_s]); exact WF_pick [0, 1] rfl rfl h)
        | (unfold bOffer; rw [if_neg (by omega)]; (try simp (disch := omega) only [inc, ub_n, ub_s]); exact WF_pick [0, 1] rfl rfl h)

set_option maxHeartbeats 4000000 in
set_option maxRecDepth 100000 in
theorem s_X8_echoWhole {G : Gm} {l : Launch} (hK : KG G) {o r : Nat} {A : Nat → Nat} {I : Nat → Int} {N : Nat → Net} {n : Net} {l9 v9 : Int} (hr : rok r) (hl : 0 ≤ l9 ∧ l9 < 6) (hB : (0 ≤ n l9 9 ∧ n l9 9 ≤ 100) ∧ (0 ≤ n l9 7 ∧ n l9 7 ≤ n l9 1) ∧ n l9 1 ≤ 60) (h8 : 0 ≤ n l9 8 ∧ n l9 8 ≤ 60) (hv : -2147483648 ≤ v9 ∧ v9 < 2147483648) : MD G l yX8_echoWhole cX8_echoWhole 4 none 4 0 0 [.ref o, .int (zI l9), .int (zI v9)] [ob o 10 (shM A r) I, fam G A (uN N r n)] none [ob o 10 (shM A r) I, fam G A (uN N r (un n l9 (bWhole (n l9) v9)))] := by
  refine MX_of (lv := [some (.ref o), some (.int (zI l9)), some (.int (zI v9)), none]) hK (by decide +kernel) rfl (nle rfl) (fun X C F => ?_)
  have C : OKc G X l RX8 "echoWhole" cX8_echoWhole 4 none 4 0 0 := C
  have e8 : bWhole1 (n l9) v9 = (if n l9 8 < 60 then ub (ub (n l9) (208 + n l9 8) v9) 8 (n l9 8 + 1) else n l9) := rfl
  have w7 : bWhole1 (n l9) v9 7 = n l9 7 := by rw [e8]; split <;> simp (disch := omega) only [ub_n, ub_s]
  have w1 : bWhole1 (n l9) v9 1 = n l9 1 := by rw [e8]; split <;> simp (disch := omega) only [ub_n, ub_s]
  have w9 : bWhole1 (n l9) v9 9 = n l9 9 := by rw [e8]; split <;> simp (disch := omega) only [ub_n, ub_s]
  have w8 : 0 ≤ bWhole1 (n l9) v9 8 ∧ bWhole1 (n l9) v9 8 ≤ 60 := by rw [e8]; split <;> (try simp (disch := omega) only [ub_n, ub_s]) <;> omega
  have hinv := fun k => bOffers_inv (f := fun k => bWhole1 (n l9) v9 (208 + k)) (B := bWhole1 (n l9) v9) ⟨by omega, by omega, by omega⟩ k
  have loop : v9 = 13 → ∀ (j k : Nat), (k : Int) ≤ bWhole1 (n l9) v9 8 → bWhole1 (n l9) v9 8 - k < j → WX G X 0 0 [ob o 10 (shM A r) I, fam G A (uN N r (un n l9 (bOffers (fun k => bWhole1 (n l9) v9 (208 + k)) k (bWhole1 (n l9) v9))))] 46 [some (.ref o), some (.int (zI l9)), some (.int (zI v9)), some (.int (zI k))] [] := by
    intro h13 j
    induction j with
    | zero => intro k h0 h1; exfalso; omega
    | succ j ih =>
      intro k h0 h1
      have i7 := (hinv k).1
      have i8 := (hinv k).2 8 (by unfold okW; omega)
      have i9 := (hinv k).2 9 (by unfold okW; omega)
      have i1 := (hinv k).2 1 (by unfold okW; omega)
      have ik := (hinv k).2 (208 + k) (by unfold okW; omega)
      refine x_iload_n C eX8_echoWhole_46 rfl ?_
      refine x_aload_n C eX8_echoWhole_47 rfl ?_
      refine x_iload_n C eX8_echoWhole_48 rfl ?_
      refine x_bipush C eX8_echoWhole_49 rfl ?_
      refine yV2r [] [_, _] C (s_X8_of hK hr (by (try simp only [un_s]); omega) (by (try simp only [un_s]); omega)) v_X8_of vv_X8_of s_RX8_64 eX8_echoWhole_51 (fun _ _ h => WF_pick [0, 1] rfl rfl h) (rcv 0 rfl) rfl (nle rfl) (nle rfl) (nle rfl) (nle rfl) rfl ?_
      try simp (disch := omega) only [un_s, un_un, i8, ik]
      refine x_icmp_ge 78 C eX8_echoWhole_54 rfl (by omega) (by omega) (fun h54 => ?_) (fun h54 => ?_)
      · refine x_aload_n C eX8_echoWhole_78 rfl ?_
        refine x_iload_n C eX8_echoWhole_79 rfl ?_
        refine x_bipush C eX8_echoWhole_80 rfl ?_
        refine x_iconst C eX8_echoWhole_82 ?_
        refine yV3v [] [_, _] C (s_X8_put hK hr (by (try simp only [un_s]); omega) (by (try simp only [un_s]); omega)) v_X8_put vv_X8_put s_RX8_76 eX8_echoWhole_83 (fun _ _ h => WF_pick [0, 1] rfl rfl h) (rcv 0 rfl) rfl (nle rfl) (nle rfl) (nle rfl) (nle rfl) rfl ?_
        try simp (disch := omega) only [un_s, un_un, i8, ik]
        refine x_vret C F eX8_echoWhole_86 () rfl trivial (fun cf c h => ?_) (nle rfl) (nle rfl)
        first
          | (unfold bWhole; rw [if_neg (by omega), e8, if_pos (by omega)]; exact WF_pick [0, 1] rfl rfl h)
          | (unfold bWhole; rw [if_neg (by omega), e8, if_neg (by omega), un_id]; exact WF_pick [0, 1] rfl rfl h)
          | (unfold bWhole; rw [if_pos (by omega), show (bWhole1 (n l9) v9 8).toNat = k by omega]; exact WF_pick [0, 1] rfl rfl h)
      · refine x_aload_n C eX8_echoWhole_57 rfl ?_
        refine x_iload_n C eX8_echoWhole_58 rfl ?_
        refine x_aload_n C eX8_echoWhole_59 rfl ?_
        refine x_iload_n C eX8_echoWhole_60 rfl ?_
        refine x_sipush C eX8_echoWhole_61 rfl ?_
        refine x_iload_n C eX8_echoWhole_64 rfl ?_
        refine x_iadd C eX8_echoWhole_65 ?_
        refine yV2r [] [_, _] C (s_X8_of hK hr (by (try simp only [un_s]); omega) (by (try simp only [un_s]); omega)) v_X8_of vv_X8_of s_RX8_64 eX8_echoWhole_66 (fun _ _ h => WF_pick [0, 1] rfl rfl h) (rcv 0 rfl) rfl (nle rfl) (nle rfl) (nle rfl) (nle rfl) rfl ?_
        try simp (disch := omega) only [un_s, un_un, i8, ik]
        refine yV2v [] [_, _] C (s_X8_offer hK hr (by (try simp only [un_s]); omega) (by (try simp only [un_s]); omega)) v_X8_offer vv_X8_offer s_RX8_87 eX8_echoWhole_69 (fun _ _ h => WF_pick [0, 1] rfl rfl h) (rcv 0 rfl) rfl (nle rfl) (nle rfl) (nle rfl) (nle rfl) rfl ?_
        try simp (disch := omega) only [un_s, un_un, i8, ik]
        refine x_iinc [_, _, _, _] C eX8_echoWhole_72 rfl rfl rfl ?_
        refine x_goto (pc' := 46) C eX8_echoWhole_75 rfl ?_
        exact ih (k + 1) (by omega) (by omega)
  refine x_aload_n C eX8_echoWhole_0 rfl ?_
  refine x_iload_n C eX8_echoWhole_1 rfl ?_
  refine x_bipush C eX8_echoWhole_2 rfl ?_
  refine yV2r [] [_, _] C (s_X8_of hK hr (by (try simp (disch := omega) only [Int.reduceAdd, uN_s, uN_uN, un_s, un_un, un_n, ub_s, ub_n, inc, bStop_n, bDrop_s, bDrop_n, unub_n, nLog_n, nLog_h, Int.sub_add_cancel]); omega) (by (try simp (disch := omega) only [Int.reduceAdd, uN_s, uN_uN, un_s, un_un, un_n, ub_s, ub_n, inc, bStop_n, bDrop_s, bDrop_n, unub_n, nLog_n, nLog_h, Int.sub_add_cancel]); omega)) v_X8_of vv_X8_of s_RX8_64 eX8_echoWhole_4 (fun _ _ h => WF_pick [0, 1] rfl rfl h) (rcv 0 rfl) rfl (nle rfl) (nle rfl) (nle rfl) (nle rfl) rfl ?_
  refine x_bipush C eX8_echoWhole_7 rfl ?_
  refine x_icmp_ge 37 C eX8_echoWhole_9 rfl (by omega) (by omega) (fun h9 => ?_) (fun h9 => ?_)
  · refine x_iload_n C eX8_echoWhole_37 rfl ?_
    refine x_bipush C eX8_echoWhole_38 rfl ?_
    refine x_icmp_eq 44 C eX8_echoWhole_40 rfl (by omega) (by omega) (fun h40 => ?_) (fun h40 => ?_)
    · refine x_iconst C eX8_echoWhole_44 ?_
      refine x_istore_n [_, _, _, _] C eX8_echoWhole_45 rfl rfl (nlt rfl) ?_
      have h := loop (by omega) 61 0 (by omega) (by omega)
      simp only [bOffers, e8] at h
      first
        | (rw [if_pos (by omega)] at h; exact h)
        | (rw [if_neg (by omega), un_id] at h; exact h)
    · refine x_vret C F eX8_echoWhole_43 () rfl trivial (fun cf c h => ?_) (nle rfl) (nle rfl)
      first
        | (unfold bWhole; rw [if_neg (by omega), e8, if_pos (by omega)]; exact WF_pick [0, 1] rfl rfl h)
        | (unfold bWhole; rw [if_neg (by omega), e8, if_neg (by omega), un_id]; exact WF_pick [0, 1] rfl rfl h)
        | (unfold bWhole; rw [if_pos (by omega), show (bWhole1 (n l9) v9 8).toNat = k by omega]; exact WF_pick [0, 1] rfl rfl h)
  · refine x_aload_n C eX8_echoWhole_12 rfl ?_
    refine x_iload_n C eX8_echoWhole_13 rfl ?_
    refine x_sipush C eX8_echoWhole_14 rfl ?_
    refine x_aload_n C eX8_echoWhole_17 rfl ?_
    refine x_iload_n C eX8_echoWhole_18 rfl ?_
    refine x_bipush C eX8_echoWhole_19 rfl ?_
    refine yV2r [] [_, _] C (s_X8_of hK hr (by (try simp (disch := omega) only [Int.reduceAdd, uN_s, uN_uN, un_s, un_un, un_n, ub_s, ub_n, inc, bStop_n, bDrop_s, bDrop_n, unub_n, nLog_n, nLog_h, Int.sub_add_cancel]); omega) (by (try simp (disch := omega) only [Int.reduceAdd, uN_s, uN_uN, un_s, un_un, un_n, ub_s, ub_n, inc, bStop_n, bDrop_s, bDrop_n, unub_n, nLog_n, nLog_h, Int.sub_add_cancel]); omega)) v_X8_of vv_X8_of s_RX8_64 eX8_echoWhole_21 (fun _ _ h => WF_pick [0, 1] rfl rfl h) (rcv 0 rfl) rfl (nle rfl) (nle rfl) (nle rfl) (nle rfl) rfl ?_
    refine x_iadd C eX8_echoWhole_24 ?_
    refine x_iload_n C eX8_echoWhole_25 rfl ?_
    refine yV3v [] [_, _] C (s_X8_put hK hr (by (try simp (disch := omega) only [Int.reduceAdd, uN_s, uN_uN, un_s, un_un, un_n, ub_s, ub_n, inc, bStop_n, bDrop_s, bDrop_n, unub_n, nLog_n, nLog_h, Int.sub_add_cancel]); omega) (by (try simp (disch := omega) only [Int.reduceAdd, uN_s, uN_uN, un_s, un_un, un_n, ub_s, ub_n, inc, bStop_n, bDrop_s, bDrop_n, unub_n, nLog_n, nLog_h, Int.sub_add_cancel]); omega)) v_X8_put vv_X8_put s_RX8_76 eX8_echoWhole_26 (fun _ _ h => WF_pick [0, 1] rfl rfl h) (rcv 0 rfl) rfl (nle rfl) (nle rfl) (nle rfl) (nle rfl) rfl ?_
    try simp (disch := omega) only [Int.reduceAdd, uN_s, uN_uN, un_s, un_un, un_n, ub_s, ub_n, inc, bStop_n, bDrop_s, bDrop_n, unub_n, nLog_n, nLog_h, Int.sub_add_cancel]
    refine x_aload_n C eX8_echoWhole_29 rfl ?_
    refine x_iload_n C eX8_echoWhole_30 rfl ?_
    refine x_bipush C eX8_echoWhole_31 rfl ?_
    refine x_iconst C eX8_echoWhole_33 ?_
    refine yV3v [] [_, _] C (s_X8_add hK hr (by (try simp (disch := omega) only [Int.reduceAdd, uN_s, uN_uN, un_s, un_un, un_n, ub_s, ub_n, inc, bStop_n, bDrop_s, bDrop_n, unub_n, nLog_n, nLog_h, Int.sub_add_cancel]); omega) (by (try simp (disch := omega) only [Int.reduceAdd, uN_s, uN_uN, un_s, un_un, un_n, ub_s, ub_n, inc, bStop_n, bDrop_s, bDrop_n, unub_n, nLog_n, nLog_h, Int.sub_add_cancel]); omega)) v_X8_add vv_X8_add s_RX8_60 eX8_echoWhole_34 (fun _ _ h => WF_pick [0, 1] rfl rfl h) (rcv 0 rfl) rfl (nle rfl) (nle rfl) (nle rfl) (nle rfl) rfl ?_
    try simp (disch := omega) only [Int.reduceAdd, uN_s, uN_uN, un_s, un_un, un_n, ub_s, ub_n, inc, bStop_n, bDrop_s, bDrop_n, unub_n, nLog_n, nLog_h, Int.sub_add_cancel]
    refine x_iload_n C eX8_echoWhole_37 rfl ?_
    refine x_bipush C eX8_echoWhole_38 rfl ?_
    refine x_icmp_eq 44 C eX8_echoWhole_40 rfl (by omega) (by omega) (fun h40 => ?_) (fun h40 => ?_)
    · refine x_iconst C eX8_echoWhole_44 ?_
      refine x_istore_n [_, _, _, _] C eX8_echoWhole_45 rfl rfl (nlt rfl) ?_
      have h := loop (by omega) 61 0 (by omega) (by omega)
      simp only [bOffers, e8] at h
      first
        | (rw [if_pos (by omega)] at h; exact h)
        | (rw [if_neg (by omega), un_id] at h; exact h)
    · refine x_vret C F eX8_echoWhole_43 () rfl trivial (fun cf c h => ?_) (nle rfl) (nle rfl)
      first
        | (unfold bWhole; rw [if_neg (by omega), e8, if_pos (by omega)]; exact WF_pick [0, 1] rfl rfl h)
        | (unfold bWhole; rw [if_neg (by omega), e8, if_neg (by omega), un_id]; exact WF_pick [0, 1] rfl rfl h)
        | (unfold bWhole; rw [if_pos (by omega), show (bWhole1 (n l9) v9 8).toNat = k by omega]; exact WF_pick [0, 1] rfl rfl h)

set_option maxHeartbeats 4000000 in
set_option maxRecDepth 100000 in
theorem s_X8_typeOne {G : Gm} {l : Launch} (hK : KG G) {o r : Nat} {A : Nat → Nat} {I : Nat → Int} {N : Nat → Net} {n : Net} {l9 v9 : Int} (hr : rok r) (hl : 0 ≤ l9 ∧ l9 < 6) (hB : (0 ≤ n l9 9 ∧ n l9 9 ≤ 100) ∧ (0 ≤ n l9 7 ∧ n l9 7 ≤ n l9 1) ∧ n l9 1 ≤ 60 ∧ (0 ≤ n l9 6 ∧ n l9 6 ≤ n l9 1) ∧ (0 ≤ n l9 3 ∧ n l9 3 ≤ 60) ∧ (0 ≤ n l9 2 ∧ n l9 2 ≤ 60) ∧ (0 ≤ n l9 10 ∧ n l9 10 ≤ 1) ∧ (0 ≤ n l9 8 ∧ n l9 8 ≤ 60) ∧ (0 ≤ n l9 5 ∧ n l9 5 ≤ 2)) (hv : -2147483648 ≤ v9 ∧ v9 < 2147483648) : MD G l yX8_typeOne cX8_typeOne 3 none 5 0 0 [.ref o, .int (zI l9), .int (zI v9)] [ob o 10 (shM A r) I, fam G A (uN N r n)] none [ob o 10 (shM A r) I, fam G A (uN N r (un n l9 (bType (n l9) v9 (n (-1) 1))))] := by
  refine MX_of (lv := [some (.ref o), some (.int (zI l9)), some (.int (zI v9))]) hK (by decide +kernel) rfl (nle rfl) (fun X C F => ?_)
  have C : OKc G X l RX8 "typeOne" cX8_typeOne 3 none 5 0 0 := C
  refine x_aload_n C eX8_typeOne_0 rfl ?_
  refine x_iload_n C eX8_typeOne_1 rfl ?_
  refine x_iconst C eX8_typeOne_2 ?_
  refine yV2v [] [_, _] C (s_X8_counts hK hr (by (try simp (disch := omega) only [Int.reduceAdd, uN_s, uN_uN, un_s, un_un, un_n, ub_s, ub_n, inc, bStop_n, bDrop_s, bDrop_n, unub_n, nLog_n, nLog_h, Int.sub_add_cancel]); omega) (by (try simp (disch := omega) only [Int.reduceAdd, uN_s, uN_uN, un_s, un_un, un_n, ub_s, ub_n, inc, bStop_n, bDrop_s, bDrop_n, unub_n, nLog_n, nLog_h, Int.sub_add_cancel]); omega)) v_X8_counts vv_X8_counts s_RX8_79 eX8_typeOne_3 (fun _ _ h => WF_pick [0, 1] rfl rfl h) (rcv 0 rfl) rfl (nle rfl) (nle rfl) (nle rfl) (nle rfl) rfl ?_
  try simp (disch := omega) only [Int.reduceAdd, uN_s, uN_uN, un_s, un_un, un_n, ub_s, ub_n, inc, bStop_n, bDrop_s, bDrop_n, unub_n, nLog_n, nLog_h, Int.sub_add_cancel]
  refine x_aload_n C eX8_typeOne_6 rfl ?_
  refine x_iload_n C eX8_typeOne_7 rfl ?_
  refine yV1r [] [_, _] C (s_X8_isHeld hK hr (by (try simp (disch := omega) only [Int.reduceAdd, uN_s, uN_uN, un_s, un_un, un_n, ub_s, ub_n, inc, bStop_n, bDrop_s, bDrop_n, unub_n, nLog_n, nLog_h, Int.sub_add_cancel]); omega) (by (try simp (disch := omega) only [Int.reduceAdd, uN_s, uN_uN, un_s, un_un, un_n, ub_s, ub_n, inc, bStop_n, bDrop_s, bDrop_n, unub_n, nLog_n, nLog_h, Int.sub_add_cancel]); omega)) v_X8_isHeld vv_X8_isHeld s_RX8_83 eX8_typeOne_8 (fun _ _ h => WF_pick [0, 1] rfl rfl h) (rcv 0 rfl) rfl (nle rfl) (nle rfl) (nle rfl) (nle rfl) rfl ?_
  try simp (disch := omega) only [Int.reduceAdd, uN_s, uN_uN, un_s, un_un, un_n, ub_s, ub_n, inc, bStop_n, bDrop_s, bDrop_n, unub_n, nLog_n, nLog_h, Int.sub_add_cancel]
  refine x_ifb_ne 30 C eX8_typeOne_11 rfl (fun h11 => ?_) (fun h11 => ?_)
  · refine x_aload_n C eX8_typeOne_30 rfl ?_
    refine x_iload_n C eX8_typeOne_31 rfl ?_
    refine x_iconst C eX8_typeOne_32 ?_
    refine yV2v [] [_, _] C (s_X8_counts hK hr (by (try simp (disch := omega) only [Int.reduceAdd, uN_s, uN_uN, un_s, un_un, un_n, ub_s, ub_n, inc, bStop_n, bDrop_s, bDrop_n, unub_n, nLog_n, nLog_h, Int.sub_add_cancel]); omega) (by (try simp (disch := omega) only [Int.reduceAdd, uN_s, uN_uN, un_s, un_un, un_n, ub_s, ub_n, inc, bStop_n, bDrop_s, bDrop_n, unub_n, nLog_n, nLog_h, Int.sub_add_cancel]); omega)) v_X8_counts vv_X8_counts s_RX8_79 eX8_typeOne_33 (fun _ _ h => WF_pick [0, 1] rfl rfl h) (rcv 0 rfl) rfl (nle rfl) (nle rfl) (nle rfl) (nle rfl) rfl ?_
    try simp (disch := omega) only [Int.reduceAdd, uN_s, uN_uN, un_s, un_un, un_n, ub_s, ub_n, inc, bStop_n, bDrop_s, bDrop_n, unub_n, nLog_n, nLog_h, Int.sub_add_cancel]
    refine x_vret C F eX8_typeOne_36 () rfl trivial (fun cf c h => ?_) (nle rfl) (nle rfl)
    unfold bType bIn
    first
      | (rw [if_pos (by omega)]; (try simp (disch := omega) only [inc, ub_n, ub_s]); exact WF_pick [0, 1] rfl rfl h)
      | (rw [if_neg (by omega), if_pos (by omega)]; (try simp (disch := omega) only [inc, ub_n, ub_s]); exact WF_pick [0, 1] rfl rfl h)
      | (rw [if_neg (by omega), if_neg (by omega), if_pos (by omega)]; (try simp (disch := omega) only [inc, ub_n, ub_s]); exact WF_pick [0, 1] rfl rfl h)
      | (rw [if_neg (by omega), if_neg (by omega), if_neg (by omega)]; (try simp (disch := omega) only [inc, ub_n, ub_s]); exact WF_pick [0, 1] rfl rfl h)
  · refine x_aload_n C eX8_typeOne_14 rfl ?_
    refine x_iload_n C eX8_typeOne_15 rfl ?_
    refine x_bipush C eX8_typeOne_16 rfl ?_
    refine yV2r [] [_, _] C (s_X8_of hK hr (by (try simp (disch := omega) only [Int.reduceAdd, uN_s, uN_uN, un_s, un_un, un_n, ub_s, ub_n, inc, bStop_n, bDrop_s, bDrop_n, unub_n, nLog_n, nLog_h, Int.sub_add_cancel]); omega) (by (try simp (disch := omega) only [Int.reduceAdd, uN_s, uN_uN, un_s, un_un, un_n, ub_s, ub_n, inc, bStop_n, bDrop_s, bDrop_n, unub_n, nLog_n, nLog_h, Int.sub_add_cancel]); omega)) v_X8_of vv_X8_of s_RX8_64 eX8_typeOne_18 (fun _ _ h => WF_pick [0, 1] rfl rfl h) (rcv 0 rfl) rfl (nle rfl) (nle rfl) (nle rfl) (nle rfl) rfl ?_
    try simp (disch := omega) only [Int.reduceAdd, uN_s, uN_uN, un_s, un_un, un_n, ub_s, ub_n, inc, bStop_n, bDrop_s, bDrop_n, unub_n, nLog_n, nLog_h, Int.sub_add_cancel]
    refine x_aload_n C eX8_typeOne_21 rfl ?_
    refine x_iload_n C eX8_typeOne_22 rfl ?_
    refine x_iconst C eX8_typeOne_23 ?_
    refine yV2r [] [_, _] C (s_X8_of hK hr (by (try simp (disch := omega) only [Int.reduceAdd, uN_s, uN_uN, un_s, un_un, un_n, ub_s, ub_n, inc, bStop_n, bDrop_s, bDrop_n, unub_n, nLog_n, nLog_h, Int.sub_add_cancel]); omega) (by (try simp (disch := omega) only [Int.reduceAdd, uN_s, uN_uN, un_s, un_un, un_n, ub_s, ub_n, inc, bStop_n, bDrop_s, bDrop_n, unub_n, nLog_n, nLog_h, Int.sub_add_cancel]); omega)) v_X8_of vv_X8_of s_RX8_64 eX8_typeOne_24 (fun _ _ h => WF_pick [0, 1] rfl rfl h) (rcv 0 rfl) rfl (nle rfl) (nle rfl) (nle rfl) (nle rfl) rfl ?_
    try simp (disch := omega) only [Int.reduceAdd, uN_s, uN_uN, un_s, un_un, un_n, ub_s, ub_n, inc, bStop_n, bDrop_s, bDrop_n, unub_n, nLog_n, nLog_h, Int.sub_add_cancel]
    refine x_icmp_ne 37 C eX8_typeOne_27 rfl (by omega) (by omega) (fun h27 => ?_) (fun h27 => ?_)
    · refine x_aload_n C eX8_typeOne_37 rfl ?_
      refine x_iload_n C eX8_typeOne_38 rfl ?_
      refine x_bipush C eX8_typeOne_39 rfl ?_
      refine x_aload_n C eX8_typeOne_41 rfl ?_
      refine x_iload_n C eX8_typeOne_42 rfl ?_
      refine x_bipush C eX8_typeOne_43 rfl ?_
      refine yV2r [] [_, _] C (s_X8_of hK hr (by (try simp (disch := omega) only [Int.reduceAdd, uN_s, uN_uN, un_s, un_un, un_n, ub_s, ub_n, inc, bStop_n, bDrop_s, bDrop_n, unub_n, nLog_n, nLog_h, Int.sub_add_cancel]); omega) (by (try simp (disch := omega) only [Int.reduceAdd, uN_s, uN_uN, un_s, un_un, un_n, ub_s, ub_n, inc, bStop_n, bDrop_s, bDrop_n, unub_n, nLog_n, nLog_h, Int.sub_add_cancel]); omega)) v_X8_of vv_X8_of s_RX8_64 eX8_typeOne_45 (fun _ _ h => WF_pick [0, 1] rfl rfl h) (rcv 0 rfl) rfl (nle rfl) (nle rfl) (nle rfl) (nle rfl) rfl ?_
      try simp (disch := omega) only [Int.reduceAdd, uN_s, uN_uN, un_s, un_un, un_n, ub_s, ub_n, inc, bStop_n, bDrop_s, bDrop_n, unub_n, nLog_n, nLog_h, Int.sub_add_cancel]
      refine x_iadd C eX8_typeOne_48 ?_
      refine x_iload_n C eX8_typeOne_49 rfl ?_
      refine yV3v [] [_, _] C (s_X8_put hK hr (by (try simp (disch := omega) only [Int.reduceAdd, uN_s, uN_uN, un_s, un_un, un_n, ub_s, ub_n, inc, bStop_n, bDrop_s, bDrop_n, unub_n, nLog_n, nLog_h, Int.sub_add_cancel]); omega) (by (try simp (disch := omega) only [Int.reduceAdd, uN_s, uN_uN, un_s, un_un, un_n, ub_s, ub_n, inc, bStop_n, bDrop_s, bDrop_n, unub_n, nLog_n, nLog_h, Int.sub_add_cancel]); omega)) v_X8_put vv_X8_put s_RX8_76 eX8_typeOne_50 (fun _ _ h => WF_pick [0, 1] rfl rfl h) (rcv 0 rfl) rfl (nle rfl) (nle rfl) (nle rfl) (nle rfl) rfl ?_
      try simp (disch := omega) only [Int.reduceAdd, uN_s, uN_uN, un_s, un_un, un_n, ub_s, ub_n, inc, bStop_n, bDrop_s, bDrop_n, unub_n, nLog_n, nLog_h, Int.sub_add_cancel]
      refine x_aload_n C eX8_typeOne_53 rfl ?_
      refine x_iload_n C eX8_typeOne_54 rfl ?_
      refine x_bipush C eX8_typeOne_55 rfl ?_
      refine x_aload_n C eX8_typeOne_57 rfl ?_
      refine x_iload_n C eX8_typeOne_58 rfl ?_
      refine x_bipush C eX8_typeOne_59 rfl ?_
      refine yV2r [] [_, _] C (s_X8_of hK hr (by (try simp (disch := omega) only [Int.reduceAdd, uN_s, uN_uN, un_s, un_un, un_n, ub_s, ub_n, inc, bStop_n, bDrop_s, bDrop_n, unub_n, nLog_n, nLog_h, Int.sub_add_cancel]); omega) (by (try simp (disch := omega) only [Int.reduceAdd, uN_s, uN_uN, un_s, un_un, un_n, ub_s, ub_n, inc, bStop_n, bDrop_s, bDrop_n, unub_n, nLog_n, nLog_h, Int.sub_add_cancel]); omega)) v_X8_of vv_X8_of s_RX8_64 eX8_typeOne_61 (fun _ _ h => WF_pick [0, 1] rfl rfl h) (rcv 0 rfl) rfl (nle rfl) (nle rfl) (nle rfl) (nle rfl) rfl ?_
      try simp (disch := omega) only [Int.reduceAdd, uN_s, uN_uN, un_s, un_un, un_n, ub_s, ub_n, inc, bStop_n, bDrop_s, bDrop_n, unub_n, nLog_n, nLog_h, Int.sub_add_cancel]
      refine x_iadd C eX8_typeOne_64 ?_
      refine x_aload_n C eX8_typeOne_65 rfl ?_
      refine x_getR 0 C f_RX8_24 eX8_typeOne_66 rfl rfl ?_
      refine x_iconst C eX8_typeOne_69 ?_
      refine x_faldU 1 C eX8_typeOne_70 rfl hr (by omega) ?_
      first | rw [enc_head _ (by omega)] | rw [enc_line _ (by omega) (by omega)]
      refine yV3v [] [_, _] C (s_X8_put hK hr (by (try simp (disch := omega) only [Int.reduceAdd, uN_s, uN_uN, un_s, un_un, un_n, ub_s, ub_n, inc, bStop_n, bDrop_s, bDrop_n, unub_n, nLog_n, nLog_h, Int.sub_add_cancel]); omega) (by (try simp (disch := omega) only [Int.reduceAdd, uN_s, uN_uN, un_s, un_un, un_n, ub_s, ub_n, inc, bStop_n, bDrop_s, bDrop_n, unub_n, nLog_n, nLog_h, Int.sub_add_cancel]); omega)) v_X8_put vv_X8_put s_RX8_76 eX8_typeOne_71 (fun _ _ h => WF_pick [0, 1] rfl rfl h) (rcv 0 rfl) rfl (nle rfl) (nle rfl) (nle rfl) (nle rfl) rfl ?_
      try simp (disch := omega) only [Int.reduceAdd, uN_s, uN_uN, un_s, un_un, un_n, ub_s, ub_n, inc, bStop_n, bDrop_s, bDrop_n, unub_n, nLog_n, nLog_h, Int.sub_add_cancel]
      refine x_aload_n C eX8_typeOne_74 rfl ?_
      refine x_iload_n C eX8_typeOne_75 rfl ?_
      refine x_bipush C eX8_typeOne_76 rfl ?_
      refine x_iconst C eX8_typeOne_78 ?_
      refine yV3v [] [_, _] C (s_X8_add hK hr (by (try simp (disch := omega) only [Int.reduceAdd, uN_s, uN_uN, un_s, un_un, un_n, ub_s, ub_n, inc, bStop_n, bDrop_s, bDrop_n, unub_n, nLog_n, nLog_h, Int.sub_add_cancel]); omega) (by (try simp (disch := omega) only [Int.reduceAdd, uN_s, uN_uN, un_s, un_un, un_n, ub_s, ub_n, inc, bStop_n, bDrop_s, bDrop_n, unub_n, nLog_n, nLog_h, Int.sub_add_cancel]); omega)) v_X8_add vv_X8_add s_RX8_60 eX8_typeOne_79 (fun _ _ h => WF_pick [0, 1] rfl rfl h) (rcv 0 rfl) rfl (nle rfl) (nle rfl) (nle rfl) (nle rfl) rfl ?_
      try simp (disch := omega) only [Int.reduceAdd, uN_s, uN_uN, un_s, un_un, un_n, ub_s, ub_n, inc, bStop_n, bDrop_s, bDrop_n, unub_n, nLog_n, nLog_h, Int.sub_add_cancel]
      refine x_aload_n C eX8_typeOne_82 rfl ?_
      refine x_iload_n C eX8_typeOne_83 rfl ?_
      refine yV1v [] [_, _] C (s_X8_layStop hK hr (by (try simp (disch := omega) only [Int.reduceAdd, uN_s, uN_uN, un_s, un_un, un_n, ub_s, ub_n, inc, bStop_n, bDrop_s, bDrop_n, unub_n, nLog_n, nLog_h, Int.sub_add_cancel]); omega) (by (try simp (disch := omega) only [Int.reduceAdd, uN_s, uN_uN, un_s, un_un, un_n, ub_s, ub_n, inc, bStop_n, bDrop_s, bDrop_n, unub_n, nLog_n, nLog_h, Int.sub_add_cancel]); omega)) v_X8_layStop vv_X8_layStop s_RX8_90 eX8_typeOne_84 (fun _ _ h => WF_pick [0, 1] rfl rfl h) (rcv 0 rfl) rfl (nle rfl) (nle rfl) (nle rfl) (nle rfl) rfl ?_
      try simp (disch := omega) only [Int.reduceAdd, uN_s, uN_uN, un_s, un_un, un_n, ub_s, ub_n, inc, bStop_n, bDrop_s, bDrop_n, unub_n, nLog_n, nLog_h, Int.sub_add_cancel]
      refine x_aload_n C eX8_typeOne_87 rfl ?_
      refine x_iload_n C eX8_typeOne_88 rfl ?_
      refine x_iconst C eX8_typeOne_89 ?_
      refine yV2r [] [_, _] C (s_X8_of hK hr (by (try simp (disch := omega) only [Int.reduceAdd, uN_s, uN_uN, un_s, un_un, un_n, ub_s, ub_n, inc, bStop_n, bDrop_s, bDrop_n, unub_n, nLog_n, nLog_h, Int.sub_add_cancel]); omega) (by (try simp (disch := omega) only [Int.reduceAdd, uN_s, uN_uN, un_s, un_un, un_n, ub_s, ub_n, inc, bStop_n, bDrop_s, bDrop_n, unub_n, nLog_n, nLog_h, Int.sub_add_cancel]); omega)) v_X8_of vv_X8_of s_RX8_64 eX8_typeOne_90 (fun _ _ h => WF_pick [0, 1] rfl rfl h) (rcv 0 rfl) rfl (nle rfl) (nle rfl) (nle rfl) (nle rfl) rfl ?_
      try simp (disch := omega) only [Int.reduceAdd, uN_s, uN_uN, un_s, un_un, un_n, ub_s, ub_n, inc, bStop_n, bDrop_s, bDrop_n, unub_n, nLog_n, nLog_h, Int.sub_add_cancel]
      refine x_iconst C eX8_typeOne_93 ?_
      refine x_icmp_ne 106 C eX8_typeOne_94 rfl (by omega) (by omega) (fun h94 => ?_) (fun h94 => ?_)
      · refine x_aload_n C eX8_typeOne_106 rfl ?_
        refine x_iload_n C eX8_typeOne_107 rfl ?_
        refine x_iconst C eX8_typeOne_108 ?_
        refine yV2r [] [_, _] C (s_X8_of hK hr (by (try simp (disch := omega) only [Int.reduceAdd, uN_s, uN_uN, un_s, un_un, un_n, ub_s, ub_n, inc, bStop_n, bDrop_s, bDrop_n, unub_n, nLog_n, nLog_h, Int.sub_add_cancel]); omega) (by (try simp (disch := omega) only [Int.reduceAdd, uN_s, uN_uN, un_s, un_un, un_n, ub_s, ub_n, inc, bStop_n, bDrop_s, bDrop_n, unub_n, nLog_n, nLog_h, Int.sub_add_cancel]); omega)) v_X8_of vv_X8_of s_RX8_64 eX8_typeOne_109 (fun _ _ h => WF_pick [0, 1] rfl rfl h) (rcv 0 rfl) rfl (nle rfl) (nle rfl) (nle rfl) (nle rfl) rfl ?_
        try simp (disch := omega) only [Int.reduceAdd, uN_s, uN_uN, un_s, un_un, un_n, ub_s, ub_n, inc, bStop_n, bDrop_s, bDrop_n, unub_n, nLog_n, nLog_h, Int.sub_add_cancel]
        refine x_iconst C eX8_typeOne_112 ?_
        refine x_icmp_ne 122 C eX8_typeOne_113 rfl (by omega) (by omega) (fun h113 => ?_) (fun h113 => ?_)
        · refine x_vret C F eX8_typeOne_122 () rfl trivial (fun cf c h => ?_) (nle rfl) (nle rfl)
          unfold bType bIn
          first
            | (rw [if_pos (by omega)]; (try simp (disch := omega) only [inc, ub_n, ub_s]); exact WF_pick [0, 1] rfl rfl h)
            | (rw [if_neg (by omega), if_pos (by omega)]; (try simp (disch := omega) only [inc, ub_n, ub_s]); exact WF_pick [0, 1] rfl rfl h)
            | (rw [if_neg (by omega), if_neg (by omega), if_pos (by omega)]; (try simp (disch := omega) only [inc, ub_n, ub_s]); exact WF_pick [0, 1] rfl rfl h)
            | (rw [if_neg (by omega), if_neg (by omega), if_neg (by omega)]; (try simp (disch := omega) only [inc, ub_n, ub_s]); exact WF_pick [0, 1] rfl rfl h)
        · refine x_aload_n C eX8_typeOne_116 rfl ?_
          refine x_iload_n C eX8_typeOne_117 rfl ?_
          refine x_iload_n C eX8_typeOne_118 rfl ?_
          refine yV2v [] [_, _] C (s_X8_echoWhole hK hr (by (try simp (disch := omega) only [Int.reduceAdd, uN_s, uN_uN, un_s, un_un, un_n, ub_s, ub_n, inc, bStop_n, bDrop_s, bDrop_n, unub_n, nLog_n, nLog_h, Int.sub_add_cancel]); omega) (by (try simp (disch := omega) only [Int.reduceAdd, uN_s, uN_uN, un_s, un_un, un_n, ub_s, ub_n, inc, bStop_n, bDrop_s, bDrop_n, unub_n, nLog_n, nLog_h, Int.sub_add_cancel]); omega) (by (try simp (disch := omega) only [Int.reduceAdd, uN_s, uN_uN, un_s, un_un, un_n, ub_s, ub_n, inc, bStop_n, bDrop_s, bDrop_n, unub_n, nLog_n, nLog_h, Int.sub_add_cancel]); omega) (by (try simp (disch := omega) only [Int.reduceAdd, uN_s, uN_uN, un_s, un_un, un_n, ub_s, ub_n, inc, bStop_n, bDrop_s, bDrop_n, unub_n, nLog_n, nLog_h, Int.sub_add_cancel]); omega)) v_X8_echoWhole vv_X8_echoWhole s_RX8_94 eX8_typeOne_119 (fun _ _ h => WF_pick [0, 1] rfl rfl h) (rcv 0 rfl) rfl (nle rfl) (nle rfl) (nle rfl) (nle rfl) rfl ?_
          try simp (disch := omega) only [Int.reduceAdd, uN_s, uN_uN, un_s, un_un, un_n, ub_s, ub_n, inc, bStop_n, bDrop_s, bDrop_n, unub_n, nLog_n, nLog_h, Int.sub_add_cancel]
          refine x_vret C F eX8_typeOne_122 () rfl trivial (fun cf c h => ?_) (nle rfl) (nle rfl)
          unfold bType bIn
          first
            | (rw [if_pos (by omega)]; (try simp (disch := omega) only [inc, ub_n, ub_s]); exact WF_pick [0, 1] rfl rfl h)
            | (rw [if_neg (by omega), if_pos (by omega)]; (try simp (disch := omega) only [inc, ub_n, ub_s]); exact WF_pick [0, 1] rfl rfl h)
            | (rw [if_neg (by omega), if_neg (by omega), if_pos (by omega)]; (try simp (disch := omega) only [inc, ub_n, ub_s]); exact WF_pick [0, 1] rfl rfl h)
            | (rw [if_neg (by omega), if_neg (by omega), if_neg (by omega)]; (try simp (disch := omega) only [inc, ub_n, ub_s]); exact WF_pick [0, 1] rfl rfl h)
      · refine x_aload_n C eX8_typeOne_97 rfl ?_
        refine x_iload_n C eX8_typeOne_98 rfl ?_
        refine x_iload_n C eX8_typeOne_99 rfl ?_
        refine yV2v [] [_, _] C (s_X8_offer hK hr (by (try simp (disch := omega) only [Int.reduceAdd, uN_s, uN_uN, un_s, un_un, un_n, ub_s, ub_n, inc, bStop_n, bDrop_s, bDrop_n, unub_n, nLog_n, nLog_h, Int.sub_add_cancel]); omega) (by (try simp (disch := omega) only [Int.reduceAdd, uN_s, uN_uN, un_s, un_un, un_n, ub_s, ub_n, inc, bStop_n, bDrop_s, bDrop_n, unub_n, nLog_n, nLog_h, Int.sub_add_cancel]); omega)) v_X8_offer vv_X8_offer s_RX8_87 eX8_typeOne_100 (fun _ _ h => WF_pick [0, 1] rfl rfl h) (rcv 0 rfl) rfl (nle rfl) (nle rfl) (nle rfl) (nle rfl) rfl ?_
        try simp (disch := omega) only [Int.reduceAdd, uN_s, uN_uN, un_s, un_un, un_n, ub_s, ub_n, inc, bStop_n, bDrop_s, bDrop_n, unub_n, nLog_n, nLog_h, Int.sub_add_cancel]
        refine x_goto (pc' := 122) C eX8_typeOne_103 rfl ?_
        refine x_vret C F eX8_typeOne_122 () rfl trivial (fun cf c h => ?_) (nle rfl) (nle rfl)
        unfold bType bIn
        first
          | (rw [if_pos (by omega)]; (try simp (disch := omega) only [inc, ub_n, ub_s]); exact WF_pick [0, 1] rfl rfl h)
          | (rw [if_neg (by omega), if_pos (by omega)]; (try simp (disch := omega) only [inc, ub_n, ub_s]); exact WF_pick [0, 1] rfl rfl h)
          | (rw [if_neg (by omega), if_neg (by omega), if_pos (by omega)]; (try simp (disch := omega) only [inc, ub_n, ub_s]); exact WF_pick [0, 1] rfl rfl h)
          | (rw [if_neg (by omega), if_neg (by omega), if_neg (by omega)]; (try simp (disch := omega) only [inc, ub_n, ub_s]); exact WF_pick [0, 1] rfl rfl h)
    · refine x_aload_n C eX8_typeOne_30 rfl ?_
      refine x_iload_n C eX8_typeOne_31 rfl ?_
      refine x_iconst C eX8_typeOne_32 ?_
      refine yV2v [] [_, _] C (s_X8_counts hK hr (by (try simp (disch := omega) only [Int.reduceAdd, uN_s, uN_uN, un_s, un_un, un_n, ub_s, ub_n, inc, bStop_n, bDrop_s, bDrop_n, unub_n, nLog_n, nLog_h, Int.sub_add_cancel]); omega) (by (try simp (disch := omega) only [Int.reduceAdd, uN_s, uN_uN, un_s, un_un, un_n, ub_s, ub_n, inc, bStop_n, bDrop_s, bDrop_n, unub_n, nLog_n, nLog_h, Int.sub_add_cancel]); omega)) v_X8_counts vv_X8_counts s_RX8_79 eX8_typeOne_33 (fun _ _ h => WF_pick [0, 1] rfl rfl h) (rcv 0 rfl) rfl (nle rfl) (nle rfl) (nle rfl) (nle rfl) rfl ?_
      try simp (disch := omega) only [Int.reduceAdd, uN_s, uN_uN, un_s, un_un, un_n, ub_s, ub_n, inc, bStop_n, bDrop_s, bDrop_n, unub_n, nLog_n, nLog_h, Int.sub_add_cancel]
      refine x_vret C F eX8_typeOne_36 () rfl trivial (fun cf c h => ?_) (nle rfl) (nle rfl)
      unfold bType bIn
      first
        | (rw [if_pos (by omega)]; (try simp (disch := omega) only [inc, ub_n, ub_s]); exact WF_pick [0, 1] rfl rfl h)
        | (rw [if_neg (by omega), if_pos (by omega)]; (try simp (disch := omega) only [inc, ub_n, ub_s]); exact WF_pick [0, 1] rfl rfl h)
        | (rw [if_neg (by omega), if_neg (by omega), if_pos (by omega)]; (try simp (disch := omega) only [inc, ub_n, ub_s]); exact WF_pick [0, 1] rfl rfl h)
        | (rw [if_neg (by omega), if_neg (by omega), if_neg (by omega)]; (try simp (disch := omega) only [inc, ub_n, ub_s]); exact WF_pick [0, 1] rfl rfl h)
