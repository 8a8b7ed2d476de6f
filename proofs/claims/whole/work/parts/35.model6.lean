set_option maxHeartbeats 4000000 in
set_option maxRecDepth 100000 in
theorem s_X8_keepAside {G : Gm} {l : Launch} (hK : KG G) {o : Nat} {A : Nat → Nat} {I : Nat → Int} {N : Nat → Net} {n : Net}  : MD G l yX8_keepAside cX8_keepAside 2 none 1 0 0 [.ref o] [ob o 10 (shM A 1) I, fam G A (uN N 1 (n))] none [ob o 10 (shM A 1) I, fam G A (uN (uN N 4 (n)) 1 (n))] := by
  refine MX_of (lv := [some (.ref o), none]) hK (by decide +kernel) rfl (nle rfl) (fun X C F => ?_)
  have C : OKc G X l RX8 "keepAside" cX8_keepAside 2 none 1 0 0 := C
  have loop : ∀ (j k : Nat), k ≤ 1816 → 1816 - k < j → WX G X 0 0 [ob o 10 (shM A 1) I, fam G A (uN (uN N 4 (cpy (enc n) (N 4) k)) 1 (n))] 2 [some (.ref o), some (.int (zI k))] [] := by
    intro j
    induction j with
    | zero => intro k h0 h1; exfalso; omega
    | succ j ih =>
      intro k h0 h1
      refine x_iload_n C eX8_keepAside_2 rfl ?_
      refine x_sipush C eX8_keepAside_3 rfl ?_
      refine x_icmp_ge 27 C eX8_keepAside_6 rfl (by omega) (by omega) (fun h6 => ?_) (fun h6 => ?_)
      · refine x_vret C F eX8_keepAside_27 () rfl trivial (fun cf c h => ?_) (nle rfl) (nle rfl)
        obtain rfl : k = 1816 := by omega
        refine PW.wf (PW_cons (fun _ h => h) (PW_cons (fun _ h => fam_congr (fun r' hr' j hj => ?_) h) PW_nil)) (WF_pick [0, 1] rfl rfl h)
        unfold uN
        split
        · first
            | rfl
            | (rw [enc_cpy _ _ _ (Nat.le_refl _) _ hj, if_pos hj])
        · first
            | rfl
            | (split
               · rw [enc_cpy _ _ _ (Nat.le_refl _) _ hj, if_pos hj]
               · rfl)
      · refine x_aload_n C eX8_keepAside_9 rfl ?_
        refine x_getR 0 C f_RX8_27 eX8_keepAside_10 rfl rfl ?_
        refine x_iload_n C eX8_keepAside_13 rfl ?_
        refine x_aload_n C eX8_keepAside_14 rfl ?_
        refine x_getR 0 C f_RX8_17 eX8_keepAside_15 rfl rfl ?_
        refine x_iload_n C eX8_keepAside_18 rfl ?_
        refine x_faldU 1 C eX8_keepAside_19 rfl (Or.inl rfl) (by omega) ?_
        rw [Int.toNat_natCast]
        refine x_fast [_, _] 1 C eX8_keepAside_20 rfl (Or.inr (Or.inr rfl)) (by omega) rfl ?_
        rw [Int.toNat_natCast, uN_4, uN_41]
        refine x_iinc [_, _] C eX8_keepAside_21 rfl rfl rfl ?_
        refine x_goto (pc' := 2) C eX8_keepAside_24 rfl ?_
        exact ih (k + 1) (by omega) (by omega)
  refine x_iconst C eX8_keepAside_0 ?_
  refine x_istore_n [_, _] C eX8_keepAside_1 rfl rfl (nlt rfl) ?_
  have h := loop 2000 0 (by omega) (by omega)
  rw [show cpy (enc n) (N 4) 0 = N 4 from rfl, uN_id] at h
  exact h

set_option maxHeartbeats 4000000 in
set_option maxRecDepth 100000 in
theorem s_X8_layBack {G : Gm} {l : Launch} (hK : KG G) {o : Nat} {A : Nat → Nat} {I : Nat → Int} {N : Nat → Net} {n : Net} {a : Net} {v9 : Int}  : MD G l yX8_layBack cX8_layBack 3 (some .int) 1 0 0 [.ref o, .int (zI v9)] [ob o 10 (shM A 1) I, fam G A (uN (uN N 4 (a)) 1 (n))] (some (.int (zI v9))) [ob o 10 (shM A 1) I, fam G A (uN (uN N 4 (a)) 1 (a))] := by
  refine MX_of (lv := [some (.ref o), some (.int (zI v9)), none]) hK (by decide +kernel) rfl (nle rfl) (fun X C F => ?_)
  have C : OKc G X l RX8 "layBack" cX8_layBack 3 (some .int) 1 0 0 := C
  have loop : ∀ (j k : Nat), k ≤ 1816 → 1816 - k < j → WX G X 0 0 [ob o 10 (shM A 1) I, fam G A (uN (uN N 4 (a)) 1 (cpy (enc a) n k))] 2 [some (.ref o), some (.int (zI v9)), some (.int (zI k))] [] := by
    intro j
    induction j with
    | zero => intro k h0 h1; exfalso; omega
    | succ j ih =>
      intro k h0 h1
      refine x_iload_n C eX8_layBack_2 rfl ?_
      refine x_sipush C eX8_layBack_3 rfl ?_
      refine x_icmp_ge 27 C eX8_layBack_6 rfl (by omega) (by omega) (fun h6 => ?_) (fun h6 => ?_)
      · refine x_iload_n C eX8_layBack_27 rfl ?_
        refine x_iret (by first | rfl | exact (narZ (by omega)).1) C F eX8_layBack_28 () ?_ trivial (fun cf c h => ?_) (nle rfl) (nle rfl)
        · rfl
        · obtain rfl : k = 1816 := by omega
          refine PW.wf (PW_cons (fun _ h => h) (PW_cons (fun _ h => fam_congr (fun r' hr' j hj => ?_) h) PW_nil)) (WF_pick [0, 1] rfl rfl h)
          unfold uN
          split
          · first
              | rfl
              | (rw [enc_cpy _ _ _ (Nat.le_refl _) _ hj, if_pos hj])
          · first
              | rfl
              | (split
                 · rw [enc_cpy _ _ _ (Nat.le_refl _) _ hj, if_pos hj]
                 · rfl)
      · refine x_aload_n C eX8_layBack_9 rfl ?_
        refine x_getR 0 C f_RX8_17 eX8_layBack_10 rfl rfl ?_
        refine x_iload_n C eX8_layBack_13 rfl ?_
        refine x_aload_n C eX8_layBack_14 rfl ?_
        refine x_getR 0 C f_RX8_27 eX8_layBack_15 rfl rfl ?_
        refine x_iload_n C eX8_layBack_18 rfl ?_
        refine x_fald 1 C eX8_layBack_19 rfl (Or.inr (Or.inr rfl)) (by omega) ?_
        rw [Int.toNat_natCast, uN_4]
        refine x_fastU [_, _] 1 C eX8_layBack_20 rfl (Or.inl rfl) (by omega) rfl ?_
        rw [Int.toNat_natCast]
        refine x_iinc [_, _, _] C eX8_layBack_21 rfl rfl rfl ?_
        refine x_goto (pc' := 2) C eX8_layBack_24 rfl ?_
        exact ih (k + 1) (by omega) (by omega)
  refine x_iconst C eX8_layBack_0 ?_
  refine x_istore_n [_, _, _] C eX8_layBack_1 rfl rfl (nlt rfl) ?_
  exact loop 2000 0 (by omega) (by omega)

set_option maxHeartbeats 4000000 in
set_option maxRecDepth 100000 in
theorem s_X8_addOne {G : Gm} {l : Launch} (hK : KG G) {o r : Nat} {A : Nat → Nat} {I : Nat → Int} {N : Nat → Net} {n : Net} {a0 a1 a2 a3 a4 a5 : Int} (hr : rok r) (hl : 0 ≤ n (-1) 0 ∧ n (-1) 0 < 6) : MD G l yX8_addOne cX8_addOne 8 (some .int) 2 0 0 [.ref o, .int (zI a0), .int (zI a1), .int (zI a2), .int (zI a3), .int (zI a4), .int (zI a5)] [ob o 10 (shM A r) I, fam G A (uN N r n)] (some (.int (zI (n (-1) 0)))) [ob o 10 (shM A r) I, fam G A (uN N r (nAdd n a0 a1 a2 a3 a4 a5))] := by
  refine MX_of (lv := [some (.ref o), some (.int (zI a0)), some (.int (zI a1)), some (.int (zI a2)), some (.int (zI a3)), some (.int (zI a4)), some (.int (zI a5)), none]) hK (by decide +kernel) rfl (nle rfl) (fun X C F => ?_)
  have C : OKc G X l RX8 "addOne" cX8_addOne 8 (some .int) 2 0 0 := C
  refine x_aload_n C eX8_addOne_0 rfl ?_
  refine yV0r [] [_, _] C (s_X8_lines hK hr) v_X8_lines vv_X8_lines s_RX8_68 eX8_addOne_1 (fun _ _ h => WF_pick [0, 1] rfl rfl h) (rcv 0 rfl) rfl (nle rfl) (nle rfl) (nle rfl) (nle rfl) rfl ?_
  refine x_istore [_, _, _, _, _, _, _, _] C eX8_addOne_4 rfl rfl (nlt rfl) ?_
  refine x_aload_n C eX8_addOne_6 rfl ?_
  refine x_getR 0 C f_RX8_24 eX8_addOne_7 rfl rfl ?_
  refine x_iconst C eX8_addOne_10 ?_
  refine x_dup2 C eX8_addOne_11 rfl rfl ?_
  refine x_faldU 1 C eX8_addOne_12 rfl hr (by omega) ?_
  rw [enc_head _ (by omega)]
  try simp (disch := omega) only [Int.reduceAdd, uN_s, uN_uN, un_s, un_un, un_n, ub_s, ub_n, inc, bStop_n, bDrop_s, bDrop_n, unub_n, nLog_n, nLog_h, Int.sub_add_cancel]
  refine x_iconst C eX8_addOne_13 ?_
  refine x_iadd C eX8_addOne_14 ?_
  refine x_fastU [_, _] 1 C eX8_addOne_15 rfl hr (by omega) rfl ?_
  rw [encU_head _ (by omega)]
  try simp (disch := omega) only [Int.reduceAdd, uN_s, uN_uN, un_s, un_un, un_n, ub_s, ub_n, inc, bStop_n, bDrop_s, bDrop_n, unub_n, nLog_n, nLog_h, Int.sub_add_cancel]
  refine x_aload_n C eX8_addOne_16 rfl ?_
  refine x_iload C eX8_addOne_17 rfl ?_
  refine x_iconst C eX8_addOne_19 ?_
  refine x_iload_n C eX8_addOne_20 rfl ?_
  refine yV3v [] [_, _] C (s_X8_put hK hr (by (try simp (disch := omega) only [Int.reduceAdd, uN_s, uN_uN, un_s, un_un, un_n, ub_s, ub_n, inc, bStop_n, bDrop_s, bDrop_n, unub_n, nLog_n, nLog_h, Int.sub_add_cancel]); omega) (by (try simp (disch := omega) only [Int.reduceAdd, uN_s, uN_uN, un_s, un_un, un_n, ub_s, ub_n, inc, bStop_n, bDrop_s, bDrop_n, unub_n, nLog_n, nLog_h, Int.sub_add_cancel]); omega)) v_X8_put vv_X8_put s_RX8_76 eX8_addOne_21 (fun _ _ h => WF_pick [0, 1] rfl rfl h) (rcv 0 rfl) rfl (nle rfl) (nle rfl) (nle rfl) (nle rfl) rfl ?_
  try simp (disch := omega) only [Int.reduceAdd, uN_s, uN_uN, un_s, un_un, un_n, ub_s, ub_n, inc, bStop_n, bDrop_s, bDrop_n, unub_n, nLog_n, nLog_h, Int.sub_add_cancel]
  refine x_aload_n C eX8_addOne_24 rfl ?_
  refine x_iload C eX8_addOne_25 rfl ?_
  refine x_iconst C eX8_addOne_27 ?_
  refine x_iload_n C eX8_addOne_28 rfl ?_
  refine yV3v [] [_, _] C (s_X8_put hK hr (by (try simp (disch := omega) only [Int.reduceAdd, uN_s, uN_uN, un_s, un_un, un_n, ub_s, ub_n, inc, bStop_n, bDrop_s, bDrop_n, unub_n, nLog_n, nLog_h, Int.sub_add_cancel]); omega) (by (try simp (disch := omega) only [Int.reduceAdd, uN_s, uN_uN, un_s, un_un, un_n, ub_s, ub_n, inc, bStop_n, bDrop_s, bDrop_n, unub_n, nLog_n, nLog_h, Int.sub_add_cancel]); omega)) v_X8_put vv_X8_put s_RX8_76 eX8_addOne_29 (fun _ _ h => WF_pick [0, 1] rfl rfl h) (rcv 0 rfl) rfl (nle rfl) (nle rfl) (nle rfl) (nle rfl) rfl ?_
  try simp (disch := omega) only [Int.reduceAdd, uN_s, uN_uN, un_s, un_un, un_n, ub_s, ub_n, inc, bStop_n, bDrop_s, bDrop_n, unub_n, nLog_n, nLog_h, Int.sub_add_cancel]
  refine x_aload_n C eX8_addOne_32 rfl ?_
  refine x_iload C eX8_addOne_33 rfl ?_
  refine x_iconst C eX8_addOne_35 ?_
  refine x_iload_n C eX8_addOne_36 rfl ?_
  refine yV3v [] [_, _] C (s_X8_put hK hr (by (try simp (disch := omega) only [Int.reduceAdd, uN_s, uN_uN, un_s, un_un, un_n, ub_s, ub_n, inc, bStop_n, bDrop_s, bDrop_n, unub_n, nLog_n, nLog_h, Int.sub_add_cancel]); omega) (by (try simp (disch := omega) only [Int.reduceAdd, uN_s, uN_uN, un_s, un_un, un_n, ub_s, ub_n, inc, bStop_n, bDrop_s, bDrop_n, unub_n, nLog_n, nLog_h, Int.sub_add_cancel]); omega)) v_X8_put vv_X8_put s_RX8_76 eX8_addOne_37 (fun _ _ h => WF_pick [0, 1] rfl rfl h) (rcv 0 rfl) rfl (nle rfl) (nle rfl) (nle rfl) (nle rfl) rfl ?_
  try simp (disch := omega) only [Int.reduceAdd, uN_s, uN_uN, un_s, un_un, un_n, ub_s, ub_n, inc, bStop_n, bDrop_s, bDrop_n, unub_n, nLog_n, nLog_h, Int.sub_add_cancel]
  refine x_aload_n C eX8_addOne_40 rfl ?_
  refine x_iload C eX8_addOne_41 rfl ?_
  refine x_iconst C eX8_addOne_43 ?_
  refine x_iload C eX8_addOne_44 rfl ?_
  refine yV3v [] [_, _] C (s_X8_put hK hr (by (try simp (disch := omega) only [Int.reduceAdd, uN_s, uN_uN, un_s, un_un, un_n, ub_s, ub_n, inc, bStop_n, bDrop_s, bDrop_n, unub_n, nLog_n, nLog_h, Int.sub_add_cancel]); omega) (by (try simp (disch := omega) only [Int.reduceAdd, uN_s, uN_uN, un_s, un_un, un_n, ub_s, ub_n, inc, bStop_n, bDrop_s, bDrop_n, unub_n, nLog_n, nLog_h, Int.sub_add_cancel]); omega)) v_X8_put vv_X8_put s_RX8_76 eX8_addOne_46 (fun _ _ h => WF_pick [0, 1] rfl rfl h) (rcv 0 rfl) rfl (nle rfl) (nle rfl) (nle rfl) (nle rfl) rfl ?_
  try simp (disch := omega) only [Int.reduceAdd, uN_s, uN_uN, un_s, un_un, un_n, ub_s, ub_n, inc, bStop_n, bDrop_s, bDrop_n, unub_n, nLog_n, nLog_h, Int.sub_add_cancel]
  refine x_aload_n C eX8_addOne_49 rfl ?_
  refine x_iload C eX8_addOne_50 rfl ?_
  refine x_iconst C eX8_addOne_52 ?_
  refine x_iload C eX8_addOne_53 rfl ?_
  refine yV3v [] [_, _] C (s_X8_put hK hr (by (try simp (disch := omega) only [Int.reduceAdd, uN_s, uN_uN, un_s, un_un, un_n, ub_s, ub_n, inc, bStop_n, bDrop_s, bDrop_n, unub_n, nLog_n, nLog_h, Int.sub_add_cancel]); omega) (by (try simp (disch := omega) only [Int.reduceAdd, uN_s, uN_uN, un_s, un_un, un_n, ub_s, ub_n, inc, bStop_n, bDrop_s, bDrop_n, unub_n, nLog_n, nLog_h, Int.sub_add_cancel]); omega)) v_X8_put vv_X8_put s_RX8_76 eX8_addOne_55 (fun _ _ h => WF_pick [0, 1] rfl rfl h) (rcv 0 rfl) rfl (nle rfl) (nle rfl) (nle rfl) (nle rfl) rfl ?_
  try simp (disch := omega) only [Int.reduceAdd, uN_s, uN_uN, un_s, un_un, un_n, ub_s, ub_n, inc, bStop_n, bDrop_s, bDrop_n, unub_n, nLog_n, nLog_h, Int.sub_add_cancel]
  refine x_aload_n C eX8_addOne_58 rfl ?_
  refine x_iload C eX8_addOne_59 rfl ?_
  refine x_iconst C eX8_addOne_61 ?_
  refine x_iload C eX8_addOne_62 rfl ?_
  refine yV3v [] [_, _] C (s_X8_put hK hr (by (try simp (disch := omega) only [Int.reduceAdd, uN_s, uN_uN, un_s, un_un, un_n, ub_s, ub_n, inc, bStop_n, bDrop_s, bDrop_n, unub_n, nLog_n, nLog_h, Int.sub_add_cancel]); omega) (by (try simp (disch := omega) only [Int.reduceAdd, uN_s, uN_uN, un_s, un_un, un_n, ub_s, ub_n, inc, bStop_n, bDrop_s, bDrop_n, unub_n, nLog_n, nLog_h, Int.sub_add_cancel]); omega)) v_X8_put vv_X8_put s_RX8_76 eX8_addOne_64 (fun _ _ h => WF_pick [0, 1] rfl rfl h) (rcv 0 rfl) rfl (nle rfl) (nle rfl) (nle rfl) (nle rfl) rfl ?_
  try simp (disch := omega) only [Int.reduceAdd, uN_s, uN_uN, un_s, un_un, un_n, ub_s, ub_n, inc, bStop_n, bDrop_s, bDrop_n, unub_n, nLog_n, nLog_h, Int.sub_add_cancel]
  refine x_aload_n C eX8_addOne_67 rfl ?_
  refine x_iload C eX8_addOne_68 rfl ?_
  refine x_bipush C eX8_addOne_70 rfl ?_
  refine x_iconst C eX8_addOne_72 ?_
  refine yV3v [] [_, _] C (s_X8_put hK hr (by (try simp (disch := omega) only [Int.reduceAdd, uN_s, uN_uN, un_s, un_un, un_n, ub_s, ub_n, inc, bStop_n, bDrop_s, bDrop_n, unub_n, nLog_n, nLog_h, Int.sub_add_cancel]); omega) (by (try simp (disch := omega) only [Int.reduceAdd, uN_s, uN_uN, un_s, un_un, un_n, ub_s, ub_n, inc, bStop_n, bDrop_s, bDrop_n, unub_n, nLog_n, nLog_h, Int.sub_add_cancel]); omega)) v_X8_put vv_X8_put s_RX8_76 eX8_addOne_73 (fun _ _ h => WF_pick [0, 1] rfl rfl h) (rcv 0 rfl) rfl (nle rfl) (nle rfl) (nle rfl) (nle rfl) rfl ?_
  try simp (disch := omega) only [Int.reduceAdd, uN_s, uN_uN, un_s, un_un, un_n, ub_s, ub_n, inc, bStop_n, bDrop_s, bDrop_n, unub_n, nLog_n, nLog_h, Int.sub_add_cancel]
  refine x_iload C eX8_addOne_76 rfl ?_
  refine x_iret (by first | rfl | exact (narZ (by omega)).1) C F eX8_addOne_78 () ?_ trivial (fun cf c h => ?_) (nle rfl) (nle rfl)
  · rfl
  · unfold nAdd bNew
    (try simp (disch := omega) only [Int.reduceAdd, uN_s, uN_uN, un_s, un_un, un_n, ub_s, ub_n, inc, bStop_n, bDrop_s, bDrop_n, unub_n, nLog_n, nLog_h, Int.sub_add_cancel])
    exact WF_pick [0, 1] rfl rfl h

set_option maxHeartbeats 4000000 in
set_option maxRecDepth 100000 in
theorem s_X8_growsIn_all {G : Gm} {l : Launch} (hK : KG G) {o r : Nat} {A : Nat → Nat} {I : Nat → Int} {N : Nat → Net} {n : Net} {b t9 : Int} (hr : rok r) (hN : NetOk b n) (ht : 0 ≤ t9 ∧ t9 ≤ 100000) (hb : b + 4 * t9 ≤ 999999980) : MD G l yX8_growsIn cX8_growsIn 5 (some .int) 8 0 0 [.ref o, .int (zI (-1)), .int (zI 1), .int (zI t9)] [ob o 10 (shM A r) I, fam G A (uN N r n)] (some (.int (zI (nTicks t9.toNat n (-1) 4 - n (-1) 4)))) [ob o 10 (shM A r) I, fam G A (uN N r (nTicks t9.toNat n))] := by
  refine MX_of (lv := [some (.ref o), some (.int (zI (-1))), some (.int (zI 1)), some (.int (zI t9)), none]) hK (by decide +kernel) rfl (nle rfl) (fun X C F => ?_)
  have C : OKc G X l RX8 "growsIn" cX8_growsIn 5 (some .int) 8 0 0 := C
  refine x_iload_n C eX8_growsIn_0 rfl ?_
  refine x_iconst C eX8_growsIn_1 ?_
  refine x_icmp_ne 19 C eX8_growsIn_2 rfl (by omega) (by omega) (fun h2 => ?_) (fun h2 => ?_)
  · exfalso; omega
  · refine x_iload_n C eX8_growsIn_5 rfl ?_
    refine x_iconst C eX8_growsIn_6 ?_
    refine x_icmp_ne 19 C eX8_growsIn_7 rfl (by omega) (by omega) (fun h7 => ?_) (fun h7 => ?_)
    · exfalso; omega
    · refine x_aload_n C eX8_growsIn_10 rfl ?_
      refine x_getR 0 C f_RX8_24 eX8_growsIn_11 rfl rfl ?_
      refine x_iconst C eX8_growsIn_14 ?_
      refine x_faldU 1 C eX8_growsIn_15 rfl hr (by omega) ?_
      rw [enc_head _ (by omega)]
      refine x_goto (pc' := 25) C eX8_growsIn_16 rfl ?_
      refine x_istore [_, _, _, _, _] C eX8_growsIn_25 rfl rfl (nlt rfl) ?_
      refine x_aload_n C eX8_growsIn_27 rfl ?_
      refine x_iload_n C eX8_growsIn_28 rfl ?_
      refine yV1v [] [_, _] C (s_X8_ticks hK hr hN (by (try simp (disch := omega) only [Int.reduceAdd, uN_s, uN_uN, un_s, un_un, un_n, ub_s, ub_n, inc, bStop_n, bDrop_s, bDrop_n, unub_n, nLog_n, nLog_h, Int.sub_add_cancel]); omega) (by omega)) v_X8_ticks vv_X8_ticks s_RX8_136 eX8_growsIn_29 (fun _ _ h => WF_pick [0, 1] rfl rfl h) (rcv 0 rfl) rfl (nle rfl) (nle rfl) (nle rfl) (nle rfl) rfl ?_
      skip
      refine x_iload_n C eX8_growsIn_32 rfl ?_
      refine x_iconst C eX8_growsIn_33 ?_
      refine x_icmp_ne 51 C eX8_growsIn_34 rfl (by omega) (by omega) (fun h34 => ?_) (fun h34 => ?_)
      · exfalso; omega
      · refine x_iload_n C eX8_growsIn_37 rfl ?_
        refine x_iconst C eX8_growsIn_38 ?_
        refine x_icmp_ne 51 C eX8_growsIn_39 rfl (by omega) (by omega) (fun h39 => ?_) (fun h39 => ?_)
        · exfalso; omega
        · refine x_aload_n C eX8_growsIn_42 rfl ?_
          refine x_getR 0 C f_RX8_24 eX8_growsIn_43 rfl rfl ?_
          refine x_iconst C eX8_growsIn_46 ?_
          refine x_faldU 1 C eX8_growsIn_47 rfl hr (by omega) ?_
          rw [enc_head _ (by omega)]
          refine x_goto (pc' := 57) C eX8_growsIn_48 rfl ?_
          refine x_iload C eX8_growsIn_57 rfl ?_
          refine x_isub C eX8_growsIn_59 ?_
          refine x_iret (by first | rfl | exact (narZ (by omega)).1) C F eX8_growsIn_60 () ?_ trivial (fun cf c h => ?_) (nle rfl) (nle rfl)
          · rfl
          · exact WF_pick [0, 1] rfl rfl h

set_option maxHeartbeats 4000000 in
set_option maxRecDepth 100000 in
theorem s_X8_growsIn_one {G : Gm} {l : Launch} (hK : KG G) {o r : Nat} {A : Nat → Nat} {I : Nat → Int} {N : Nat → Net} {n : Net} {b l9 w9 t9 : Int} (hr : rok r) (hN : NetOk b n) (ht : 0 ≤ t9 ∧ t9 ≤ 100000) (hb : b + 4 * t9 ≤ 999999980) (hl : 0 ≤ l9 ∧ l9 < 6) (hw : 0 ≤ w9 ∧ w9 < 12) : MD G l yX8_growsIn cX8_growsIn 5 (some .int) 8 0 0 [.ref o, .int (zI l9), .int (zI w9), .int (zI t9)] [ob o 10 (shM A r) I, fam G A (uN N r n)] (some (.int (zI (nTicks t9.toNat n l9 (16 + w9) - n l9 (16 + w9))))) [ob o 10 (shM A r) I, fam G A (uN N r (nTicks t9.toNat n))] := by
  refine MX_of (lv := [some (.ref o), some (.int (zI l9)), some (.int (zI w9)), some (.int (zI t9)), none]) hK (by decide +kernel) rfl (nle rfl) (fun X C F => ?_)
  have C : OKc G X l RX8 "growsIn" cX8_growsIn 5 (some .int) 8 0 0 := C
  refine x_iload_n C eX8_growsIn_0 rfl ?_
  refine x_iconst C eX8_growsIn_1 ?_
  refine x_icmp_ne 19 C eX8_growsIn_2 rfl (by omega) (by omega) (fun h2 => ?_) (fun h2 => ?_)
  · refine x_aload_n C eX8_growsIn_19 rfl ?_
    refine x_iload_n C eX8_growsIn_20 rfl ?_
    refine x_iload_n C eX8_growsIn_21 rfl ?_
    refine yV2r [] [_, _] C (s_X8_counted hK hr (by (try simp (disch := omega) only [Int.reduceAdd, uN_s, uN_uN, un_s, un_un, un_n, ub_s, ub_n, inc, bStop_n, bDrop_s, bDrop_n, unub_n, nLog_n, nLog_h, Int.sub_add_cancel]); omega) (by (try simp (disch := omega) only [Int.reduceAdd, uN_s, uN_uN, un_s, un_un, un_n, ub_s, ub_n, inc, bStop_n, bDrop_s, bDrop_n, unub_n, nLog_n, nLog_h, Int.sub_add_cancel]); omega)) v_X8_counted vv_X8_counted s_RX8_111 eX8_growsIn_22 (fun _ _ h => WF_pick [0, 1] rfl rfl h) (rcv 0 rfl) rfl (nle rfl) (nle rfl) (nle rfl) (nle rfl) rfl ?_
    refine x_istore [_, _, _, _, _] C eX8_growsIn_25 rfl rfl (nlt rfl) ?_
    refine x_aload_n C eX8_growsIn_27 rfl ?_
    refine x_iload_n C eX8_growsIn_28 rfl ?_
    refine yV1v [] [_, _] C (s_X8_ticks hK hr hN (by (try simp (disch := omega) only [Int.reduceAdd, uN_s, uN_uN, un_s, un_un, un_n, ub_s, ub_n, inc, bStop_n, bDrop_s, bDrop_n, unub_n, nLog_n, nLog_h, Int.sub_add_cancel]); omega) (by omega)) v_X8_ticks vv_X8_ticks s_RX8_136 eX8_growsIn_29 (fun _ _ h => WF_pick [0, 1] rfl rfl h) (rcv 0 rfl) rfl (nle rfl) (nle rfl) (nle rfl) (nle rfl) rfl ?_
    skip
    refine x_iload_n C eX8_growsIn_32 rfl ?_
    refine x_iconst C eX8_growsIn_33 ?_
    refine x_icmp_ne 51 C eX8_growsIn_34 rfl (by omega) (by omega) (fun h34 => ?_) (fun h34 => ?_)
    · refine x_aload_n C eX8_growsIn_51 rfl ?_
      refine x_iload_n C eX8_growsIn_52 rfl ?_
      refine x_iload_n C eX8_growsIn_53 rfl ?_
      refine yV2r [] [_, _] C (s_X8_counted hK hr (by (try simp (disch := omega) only [Int.reduceAdd, uN_s, uN_uN, un_s, un_un, un_n, ub_s, ub_n, inc, bStop_n, bDrop_s, bDrop_n, unub_n, nLog_n, nLog_h, Int.sub_add_cancel]); omega) (by (try simp (disch := omega) only [Int.reduceAdd, uN_s, uN_uN, un_s, un_un, un_n, ub_s, ub_n, inc, bStop_n, bDrop_s, bDrop_n, unub_n, nLog_n, nLog_h, Int.sub_add_cancel]); omega)) v_X8_counted vv_X8_counted s_RX8_111 eX8_growsIn_54 (fun _ _ h => WF_pick [0, 1] rfl rfl h) (rcv 0 rfl) rfl (nle rfl) (nle rfl) (nle rfl) (nle rfl) rfl ?_
      skip
      refine x_iload C eX8_growsIn_57 rfl ?_
      refine x_isub C eX8_growsIn_59 ?_
      refine x_iret (by first | rfl | exact (narZ (by omega)).1) C F eX8_growsIn_60 () ?_ trivial (fun cf c h => ?_) (nle rfl) (nle rfl)
      · rfl
      · exact WF_pick [0, 1] rfl rfl h
    · refine x_iload_n C eX8_growsIn_37 rfl ?_
      refine x_iconst C eX8_growsIn_38 ?_
      refine x_icmp_ne 51 C eX8_growsIn_39 rfl (by omega) (by omega) (fun h39 => ?_) (fun h39 => ?_)
      · refine x_aload_n C eX8_growsIn_51 rfl ?_
        refine x_iload_n C eX8_growsIn_52 rfl ?_
        refine x_iload_n C eX8_growsIn_53 rfl ?_
        refine yV2r [] [_, _] C (s_X8_counted hK hr (by (try simp (disch := omega) only [Int.reduceAdd, uN_s, uN_uN, un_s, un_un, un_n, ub_s, ub_n, inc, bStop_n, bDrop_s, bDrop_n, unub_n, nLog_n, nLog_h, Int.sub_add_cancel]); omega) (by (try simp (disch := omega) only [Int.reduceAdd, uN_s, uN_uN, un_s, un_un, un_n, ub_s, ub_n, inc, bStop_n, bDrop_s, bDrop_n, unub_n, nLog_n, nLog_h, Int.sub_add_cancel]); omega)) v_X8_counted vv_X8_counted s_RX8_111 eX8_growsIn_54 (fun _ _ h => WF_pick [0, 1] rfl rfl h) (rcv 0 rfl) rfl (nle rfl) (nle rfl) (nle rfl) (nle rfl) rfl ?_
        skip
        refine x_iload C eX8_growsIn_57 rfl ?_
        refine x_isub C eX8_growsIn_59 ?_
        refine x_iret (by first | rfl | exact (narZ (by omega)).1) C F eX8_growsIn_60 () ?_ trivial (fun cf c h => ?_) (nle rfl) (nle rfl)
        · rfl
        · exact WF_pick [0, 1] rfl rfl h
      · exfalso; omega
  · refine x_iload_n C eX8_growsIn_5 rfl ?_
    refine x_iconst C eX8_growsIn_6 ?_
    refine x_icmp_ne 19 C eX8_growsIn_7 rfl (by omega) (by omega) (fun h7 => ?_) (fun h7 => ?_)
    · refine x_aload_n C eX8_growsIn_19 rfl ?_
      refine x_iload_n C eX8_growsIn_20 rfl ?_
      refine x_iload_n C eX8_growsIn_21 rfl ?_
      refine yV2r [] [_, _] C (s_X8_counted hK hr (by (try simp (disch := omega) only [Int.reduceAdd, uN_s, uN_uN, un_s, un_un, un_n, ub_s, ub_n, inc, bStop_n, bDrop_s, bDrop_n, unub_n, nLog_n, nLog_h, Int.sub_add_cancel]); omega) (by (try simp (disch := omega) only [Int.reduceAdd, uN_s, uN_uN, un_s, un_un, un_n, ub_s, ub_n, inc, bStop_n, bDrop_s, bDrop_n, unub_n, nLog_n, nLog_h, Int.sub_add_cancel]); omega)) v_X8_counted vv_X8_counted s_RX8_111 eX8_growsIn_22 (fun _ _ h => WF_pick [0, 1] rfl rfl h) (rcv 0 rfl) rfl (nle rfl) (nle rfl) (nle rfl) (nle rfl) rfl ?_
      refine x_istore [_, _, _, _, _] C eX8_growsIn_25 rfl rfl (nlt rfl) ?_
      refine x_aload_n C eX8_growsIn_27 rfl ?_
      refine x_iload_n C eX8_growsIn_28 rfl ?_
      refine yV1v [] [_, _] C (s_X8_ticks hK hr hN (by (try simp (disch := omega) only [Int.reduceAdd, uN_s, uN_uN, un_s, un_un, un_n, ub_s, ub_n, inc, bStop_n, bDrop_s, bDrop_n, unub_n, nLog_n, nLog_h, Int.sub_add_cancel]); omega) (by omega)) v_X8_ticks vv_X8_ticks s_RX8_136 eX8_growsIn_29 (fun _ _ h => WF_pick [0, 1] rfl rfl h) (rcv 0 rfl) rfl (nle rfl) (nle rfl) (nle rfl) (nle rfl) rfl ?_
      skip
      refine x_iload_n C eX8_growsIn_32 rfl ?_
      refine x_iconst C eX8_growsIn_33 ?_
      refine x_icmp_ne 51 C eX8_growsIn_34 rfl (by omega) (by omega) (fun h34 => ?_) (fun h34 => ?_)
      · refine x_aload_n C eX8_growsIn_51 rfl ?_
        refine x_iload_n C eX8_growsIn_52 rfl ?_
        refine x_iload_n C eX8_growsIn_53 rfl ?_
        refine yV2r [] [_, _] C (s_X8_counted hK hr (by (try simp (disch := omega) only [Int.reduceAdd, uN_s, uN_uN, un_s, un_un, un_n, ub_s, ub_n, inc, bStop_n, bDrop_s, bDrop_n, unub_n, nLog_n, nLog_h, Int.sub_add_cancel]); omega) (by (try simp (disch := omega) only [Int.reduceAdd, uN_s, uN_uN, un_s, un_un, un_n, ub_s, ub_n, inc, bStop_n, bDrop_s, bDrop_n, unub_n, nLog_n, nLog_h, Int.sub_add_cancel]); omega)) v_X8_counted vv_X8_counted s_RX8_111 eX8_growsIn_54 (fun _ _ h => WF_pick [0, 1] rfl rfl h) (rcv 0 rfl) rfl (nle rfl) (nle rfl) (nle rfl) (nle rfl) rfl ?_
        skip
        refine x_iload C eX8_growsIn_57 rfl ?_
        refine x_isub C eX8_growsIn_59 ?_
        refine x_iret (by first | rfl | exact (narZ (by omega)).1) C F eX8_growsIn_60 () ?_ trivial (fun cf c h => ?_) (nle rfl) (nle rfl)
        · rfl
        · exact WF_pick [0, 1] rfl rfl h
      · refine x_iload_n C eX8_growsIn_37 rfl ?_
        refine x_iconst C eX8_growsIn_38 ?_
        refine x_icmp_ne 51 C eX8_growsIn_39 rfl (by omega) (by omega) (fun h39 => ?_) (fun h39 => ?_)
        · refine x_aload_n C eX8_growsIn_51 rfl ?_
          refine x_iload_n C eX8_growsIn_52 rfl ?_
          refine x_iload_n C eX8_growsIn_53 rfl ?_
          refine yV2r [] [_, _] C (s_X8_counted hK hr (by (try simp (disch := omega) only [Int.reduceAdd, uN_s, uN_uN, un_s, un_un, un_n, ub_s, ub_n, inc, bStop_n, bDrop_s, bDrop_n, unub_n, nLog_n, nLog_h, Int.sub_add_cancel]); omega) (by (try simp (disch := omega) only [Int.reduceAdd, uN_s, uN_uN, un_s, un_un, un_n, ub_s, ub_n, inc, bStop_n, bDrop_s, bDrop_n, unub_n, nLog_n, nLog_h, Int.sub_add_cancel]); omega)) v_X8_counted vv_X8_counted s_RX8_111 eX8_growsIn_54 (fun _ _ h => WF_pick [0, 1] rfl rfl h) (rcv 0 rfl) rfl (nle rfl) (nle rfl) (nle rfl) (nle rfl) rfl ?_
          skip
          refine x_iload C eX8_growsIn_57 rfl ?_
          refine x_isub C eX8_growsIn_59 ?_
          refine x_iret (by first | rfl | exact (narZ (by omega)).1) C F eX8_growsIn_60 () ?_ trivial (fun cf c h => ?_) (nle rfl) (nle rfl)
          · rfl
          · exact WF_pick [0, 1] rfl rfl h
        · exfalso; omega
    · exfalso; omega

set_option maxHeartbeats 4000000 in
set_option maxRecDepth 100000 in
theorem s_X8_isQuiet {G : Gm} {l : Launch} (hK : KG G) {o r : Nat} {A : Nat → Nat} {I : Nat → Int} {N : Nat → Net} {n : Net} {b : Int} (hr : rok r) (hN : NetOk b n) : MD G l yX8_isQuiet cX8_isQuiet 3 (some .boolean) 2 0 0 [.ref o] [ob o 10 (shM A r) I, fam G A (uN N r n)] (some (.int (zI (bz (nQuiet n (n (-1) 0).toNat))))) [ob o 10 (shM A r) I, fam G A (uN N r n)] := by
  refine MX_of (lv := [some (.ref o), none, none]) hK (by decide +kernel) rfl (nle rfl) (fun X C F => ?_)
  have C : OKc G X l RX8 "isQuiet" cX8_isQuiet 3 (some .boolean) 2 0 0 := C
  have hH := hN.1
  unfold HeadOk at hH
  have loop : ∀ (j k : Nat), (k : Int) ≤ n (-1) 0 → n (-1) 0 - k < j → WX G X 0 0 [ob o 10 (shM A r) I, fam G A (uN N r (n))] 4 [some (.ref o), some (.int (zI (bz (nQuiet n k)))), some (.int (zI k))] [] := by
    intro j
    induction j with
    | zero => intro k h0 h1; exfalso; omega
    | succ j ih =>
      intro k h0 h1
      refine x_iload_n C eX8_isQuiet_4 rfl ?_
      refine x_aload_n C eX8_isQuiet_5 rfl ?_
      refine yV0r [] [_, _] C (s_X8_lines hK hr) v_X8_lines vv_X8_lines s_RX8_68 eX8_isQuiet_6 (fun _ _ h => WF_pick [0, 1] rfl rfl h) (rcv 0 rfl) rfl (nle rfl) (nle rfl) (nle rfl) (nle rfl) rfl ?_
      skip
      refine x_icmp_ge 48 C eX8_isQuiet_9 rfl (by omega) (by omega) (fun h9 => ?_) (fun h9 => ?_)
      · refine x_iload_n C eX8_isQuiet_48 rfl ?_
        refine x_iret (nz_bz _) C F eX8_isQuiet_49 () ?_ trivial (fun cf c h => ?_) (nle rfl) (nle rfl)
        · rw [show (n (-1) 0).toNat = k by omega]
        · exact WF_pick [0, 1] rfl rfl h
      · have hk := hN.2.2 k (by omega) (by omega)
        unfold LineOk at hk
        refine x_iload_n C eX8_isQuiet_12 rfl ?_
        refine x_ifb_eq 40 C eX8_isQuiet_13 rfl (fun h13 => ?_) (fun h13 => ?_)
        · refine x_iconst C eX8_isQuiet_40 ?_
          refine x_istore_n [_, _, _] C eX8_isQuiet_41 rfl rfl (nlt rfl) ?_
          refine x_iinc [_, _, _] C eX8_isQuiet_42 rfl rfl rfl ?_
          refine x_goto (pc' := 4) C eX8_isQuiet_45 rfl ?_
          have hh := ih (k + 1) (by omega) (by omega)
          first
            | (rw [bz_f (nQuiet_f1 (k := k) (by assumption))] at hh; exact hh)
            | (rw [bz_f (nQuiet_f2 (n := n) (k := k) (by assumption))] at hh; exact hh)
            | (rw [bz_f (nQuiet_f3 (n := n) (k := k) (by assumption))] at hh; exact hh)
            | (rw [bz_t (nQuiet_s.mpr ⟨(show nQuiet n k by assumption), by assumption, by assumption⟩)] at hh; exact hh)
        · refine x_aload_n C eX8_isQuiet_16 rfl ?_
          refine x_iload_n C eX8_isQuiet_17 rfl ?_
          refine x_bipush C eX8_isQuiet_18 rfl ?_
          refine yV2r [] [_, _] C (s_X8_of hK hr (by omega) (by omega)) v_X8_of vv_X8_of s_RX8_64 eX8_isQuiet_20 (fun _ _ h => WF_pick [0, 1] rfl rfl h) (rcv 0 rfl) rfl (nle rfl) (nle rfl) (nle rfl) (nle rfl) rfl ?_
          skip
          refine x_if_ne 40 C eX8_isQuiet_23 rfl (by omega) (fun h23 => ?_) (fun h23 => ?_)
          · refine x_iconst C eX8_isQuiet_40 ?_
            refine x_istore_n [_, _, _] C eX8_isQuiet_41 rfl rfl (nlt rfl) ?_
            refine x_iinc [_, _, _] C eX8_isQuiet_42 rfl rfl rfl ?_
            refine x_goto (pc' := 4) C eX8_isQuiet_45 rfl ?_
            have hh := ih (k + 1) (by omega) (by omega)
            first
              | (rw [bz_f (nQuiet_f1 (k := k) (by assumption))] at hh; exact hh)
              | (rw [bz_f (nQuiet_f2 (n := n) (k := k) (by assumption))] at hh; exact hh)
              | (rw [bz_f (nQuiet_f3 (n := n) (k := k) (by assumption))] at hh; exact hh)
              | (rw [bz_t (nQuiet_s.mpr ⟨(show nQuiet n k by assumption), by assumption, by assumption⟩)] at hh; exact hh)
          · refine x_aload_n C eX8_isQuiet_26 rfl ?_
            refine x_iload_n C eX8_isQuiet_27 rfl ?_
            refine x_bipush C eX8_isQuiet_28 rfl ?_
            refine yV2r [] [_, _] C (s_X8_of hK hr (by omega) (by omega)) v_X8_of vv_X8_of s_RX8_64 eX8_isQuiet_30 (fun _ _ h => WF_pick [0, 1] rfl rfl h) (rcv 0 rfl) rfl (nle rfl) (nle rfl) (nle rfl) (nle rfl) rfl ?_
            skip
            refine x_if_ne 40 C eX8_isQuiet_33 rfl (by omega) (fun h33 => ?_) (fun h33 => ?_)
            · refine x_iconst C eX8_isQuiet_40 ?_
              refine x_istore_n [_, _, _] C eX8_isQuiet_41 rfl rfl (nlt rfl) ?_
              refine x_iinc [_, _, _] C eX8_isQuiet_42 rfl rfl rfl ?_
              refine x_goto (pc' := 4) C eX8_isQuiet_45 rfl ?_
              have hh := ih (k + 1) (by omega) (by omega)
              first
                | (rw [bz_f (nQuiet_f1 (k := k) (by assumption))] at hh; exact hh)
                | (rw [bz_f (nQuiet_f2 (n := n) (k := k) (by assumption))] at hh; exact hh)
                | (rw [bz_f (nQuiet_f3 (n := n) (k := k) (by assumption))] at hh; exact hh)
                | (rw [bz_t (nQuiet_s.mpr ⟨(show nQuiet n k by assumption), by assumption, by assumption⟩)] at hh; exact hh)
            · refine x_iconst C eX8_isQuiet_36 ?_
              refine x_goto (pc' := 41) C eX8_isQuiet_37 rfl ?_
              refine x_istore_n [_, _, _] C eX8_isQuiet_41 rfl rfl (nlt rfl) ?_
              refine x_iinc [_, _, _] C eX8_isQuiet_42 rfl rfl rfl ?_
              refine x_goto (pc' := 4) C eX8_isQuiet_45 rfl ?_
              have hh := ih (k + 1) (by omega) (by omega)
              first
                | (rw [bz_f (nQuiet_f1 (k := k) (by assumption))] at hh; exact hh)
                | (rw [bz_f (nQuiet_f2 (n := n) (k := k) (by assumption))] at hh; exact hh)
                | (rw [bz_f (nQuiet_f3 (n := n) (k := k) (by assumption))] at hh; exact hh)
                | (rw [bz_t (nQuiet_s.mpr ⟨(show nQuiet n k by assumption), by assumption, by assumption⟩)] at hh; exact hh)
  refine x_iconst C eX8_isQuiet_0 ?_
  refine x_istore_n [_, _, _] C eX8_isQuiet_1 rfl rfl (nlt rfl) ?_
  refine x_iconst C eX8_isQuiet_2 ?_
  refine x_istore_n [_, _, _] C eX8_isQuiet_3 rfl rfl (nlt rfl) ?_
  have h := loop 20 0 (by omega) (by omega)
  rw [bz_t (show nQuiet n 0 from rfl)] at h
  exact h
