set_option maxHeartbeats 4000000 in
set_option maxRecDepth 100000 in
theorem s_X8_undo {G : Gm} {l : Launch} (hK : KG G) {o : Nat} {A : Nat → Nat} {I : Nat → Int} {N : Nat → Net} {n : Net} {P : Nat → Net} (h20 : 0 ≤ I 20 ∧ I 20 ≤ 6) : MD G l yX8_undo cX8_undo 2 (some .int) 3 0 0 [.ref o] [ob o 10 (shM A 1) I, fam G A (uN N 1 (n)), ar G 0 (A 19) 10896 10896 (encM (P))] (some (.int (zI (if (0 < I 20) ∧ (True) ∧ (True) then I 20 - 1 else 0)))) [ob o 10 (shM A 1) (if (0 < I 20) ∧ (True) ∧ (True) then up (up I 0 (thr (0 < I 20) (True) (True))) 20 (I 20 - 1) else up I 0 (thr (0 < I 20) (True) (True))), fam G A (uN N 1 (if (0 < I 20) ∧ (True) ∧ (True) then P (I 20 - 1).toNat else n)), ar G 0 (A 19) 10896 10896 (encM (P))] := by
  refine MX_of (lv := [some (.ref o), none]) hK (by decide +kernel) rfl (nle rfl) (fun X C F => ?_)
  have C : OKc G X l RX8 "undo" cX8_undo 2 (some .int) 3 0 0 := C
  have hr : rok 1 := Or.inl rfl
  have loop : (0 < I 20) ∧ (True) ∧ (True) → ∀ (f k : Nat), k ≤ 1816 → 1816 < k + f → WX G X 0 0 [ob o 10 (shM A 1) (up (up I 0 (thr (0 < I 20) (True) (True))) 20 (I 20 - 1)), fam G A (uN N 1 (cpy (fun j => encM P (1816 * (I 20 - 1).toNat + j)) n k)), ar G 0 (A 19) 10896 10896 (encM (P))] 33 [some (.ref o), some (.int (zI k))] [] := by
    intro hP f
    induction f with
    | zero => intro k h0 h1; exfalso; omega
    | succ f ih =>
      intro k h0 h1
      refine x_iload_n C eX8_undo_33 rfl ?_
      refine x_sipush C eX8_undo_34 rfl ?_
      refine x_icmp_ge 67 C eX8_undo_37 rfl (by omega) (by omega) (fun h37 => ?_) (fun h37 => ?_)
      · refine x_aload_n C eX8_undo_67 rfl ?_
        refine x_getI 0 C f_RX8_370 eX8_undo_68 rfl rfl ?_
        try simp only [up_lit, if_true, if_false]
        refine x_iret (by first | rfl | exact (narZ (by omega)).1) C F eX8_undo_71 () ?_ trivial (fun cf c h => ?_) (nle rfl) (nle rfl)
        · rw [if_pos hP]
        · obtain rfl : k = 1816 := by omega
          rw [if_pos hP, if_pos hP]
          exact PW.wf (PW_cons (fun _ h => h) (PW_cons (fun _ h => famK _ h) (PW_cons (fun _ h => h) PW_nil))) (WF_pick [0, 1, 2] rfl rfl h)
      · refine x_aload_n C eX8_undo_40 rfl ?_
        refine x_getR 0 C f_RX8_17 eX8_undo_41 rfl rfl ?_
        refine x_iload_n C eX8_undo_44 rfl ?_
        refine x_aload_n C eX8_undo_45 rfl ?_
        refine x_getR 0 C f_RX8_50 eX8_undo_46 rfl rfl ?_
        refine x_sipush C eX8_undo_49 rfl ?_
        refine x_aload_n C eX8_undo_52 rfl ?_
        refine x_getI 0 C f_RX8_370 eX8_undo_53 rfl rfl ?_
        try simp only [up_lit, if_true, if_false]
        refine x_imul C eX8_undo_56 ?_
        refine x_iload_n C eX8_undo_57 rfl ?_
        refine x_iadd C eX8_undo_58 ?_
        refine x_iald 2 C eX8_undo_59 rfl (by decide) (by omega) ?_
        refine x_fastU [_, _, _] 1 C eX8_undo_60 rfl (Or.inl rfl) (by omega) rfl ?_
        skip
        refine x_iinc [_, _] C eX8_undo_61 rfl rfl rfl ?_
        refine x_goto (pc' := 33) C eX8_undo_64 rfl ?_
        rw [show (1816 * (I 20 - 1) + (k : Int)).toNat = 1816 * (I 20 - 1).toNat + k by omega, Int.toNat_natCast]
        exact ih (k + 1) (by omega) (by omega)
  refine x_aload_n C eX8_undo_0 rfl ?_
  refine x_aload_n C eX8_undo_1 rfl ?_
  refine x_getI 0 C f_RX8_370 eX8_undo_2 rfl rfl ?_
  refine x_if_le 12 C eX8_undo_5 rfl (by omega) (fun h5 => ?_) (fun h5 => ?_)
  · refine x_iconst C eX8_undo_12 ?_
    refine yV1r [_, _] [_, _, _] C (s_X8_passesv hK (0 < I 20) (by first | rfl | rw [bz_t (by omega)] | rw [bz_f (by omega)])) v_X8_passes vv_X8_passes s_RX8_142 eX8_undo_13 (fun _ _ h => WF_pick [0, 1, 2] rfl rfl h) (rcv 0 rfl) rfl (nle rfl) (nle rfl) (nle rfl) (nle rfl) rfl ?_
    skip
    refine x_ifb_ne 21 C eX8_undo_16 rfl (fun h16 => ?_) (fun h16 => ?_)
    · refine x_aload_n C eX8_undo_21 rfl ?_
      refine x_dup C eX8_undo_22 rfl ?_
      refine x_getI 0 C f_RX8_370 eX8_undo_23 rfl rfl ?_
      try simp only [up_lit, if_true, if_false]
      refine x_iconst C eX8_undo_26 ?_
      refine x_isub C eX8_undo_27 ?_
      refine x_putI [_, _, _] 0 C f_RX8_370 eX8_undo_28 rfl rfl rfl ?_
      refine x_iconst C eX8_undo_31 ?_
      refine x_istore_n [_, _] C eX8_undo_32 rfl rfl (nlt rfl) ?_
      exact loop h16 2000 0 (by omega) (by omega)
    · refine x_iconst C eX8_undo_19 ?_
      refine x_iret (by first | rfl | exact (narZ (by omega)).1) C F eX8_undo_20 () ?_ trivial (fun cf c h => ?_) (nle rfl) (nle rfl)
      · rw [if_neg h16]
      · rw [if_neg h16, if_neg h16]
        exact WF_pick [0, 1, 2] rfl rfl h
  · refine x_iconst C eX8_undo_8 ?_
    refine x_goto (pc' := 13) C eX8_undo_9 rfl ?_
    refine yV1r [_, _] [_, _, _] C (s_X8_passesv hK (0 < I 20) (by first | rfl | rw [bz_t (by omega)] | rw [bz_f (by omega)])) v_X8_passes vv_X8_passes s_RX8_142 eX8_undo_13 (fun _ _ h => WF_pick [0, 1, 2] rfl rfl h) (rcv 0 rfl) rfl (nle rfl) (nle rfl) (nle rfl) (nle rfl) rfl ?_
    skip
    refine x_ifb_ne 21 C eX8_undo_16 rfl (fun h16 => ?_) (fun h16 => ?_)
    · refine x_aload_n C eX8_undo_21 rfl ?_
      refine x_dup C eX8_undo_22 rfl ?_
      refine x_getI 0 C f_RX8_370 eX8_undo_23 rfl rfl ?_
      try simp only [up_lit, if_true, if_false]
      refine x_iconst C eX8_undo_26 ?_
      refine x_isub C eX8_undo_27 ?_
      refine x_putI [_, _, _] 0 C f_RX8_370 eX8_undo_28 rfl rfl rfl ?_
      refine x_iconst C eX8_undo_31 ?_
      refine x_istore_n [_, _] C eX8_undo_32 rfl rfl (nlt rfl) ?_
      exact loop h16 2000 0 (by omega) (by omega)
    · refine x_iconst C eX8_undo_19 ?_
      refine x_iret (by first | rfl | exact (narZ (by omega)).1) C F eX8_undo_20 () ?_ trivial (fun cf c h => ?_) (nle rfl) (nle rfl)
      · rw [if_neg h16]
      · rw [if_neg h16, if_neg h16]
        exact WF_pick [0, 1, 2] rfl rfl h

set_option maxHeartbeats 4000000 in
set_option maxRecDepth 100000 in
theorem s_X8_restore {G : Gm} {l : Launch} (hK : KG G) {o : Nat} {A : Nat → Nat} {I : Nat → Int} {N : Nat → Net} {n : Net} {b : Int} {s9 : Int} {P : Nat → Net} {K : Nat → Net} {Fu : Nat → Int} (hN : NetOk b n) (hb : b ≤ 900000000) (r_s9 : -2147483648 ≤ s9 ∧ s9 < 2147483648) (h20 : 0 ≤ I 20 ∧ I 20 ≤ 6) (hFu : ∀ s, Fu s = 0 ∨ Fu s = 1) : MD G l yX8_restore cX8_restore 3 (some .int) 3 0 0 [.ref o, .int (zI s9)] [ob o 10 (shM A 1) I, fam G A (uN N 1 (n)), ar G 0 (A 19) 10896 10896 (encM (P)), ar G 0 (A 17) 3632 3632 (encM (K)), ar G 2 (A 18) 2 2 (Fu)] (some (.int (zI (if (0 ≤ s9 ∧ s9 ≤ 1) ∧ (¬ (0 ≤ s9 ∧ s9 ≤ 1) ∨ Fu s9.toNat = 1) ∧ (True) then K s9.toNat (-1) 1 else 0)))) [ob o 10 (shM A 1) (if (0 ≤ s9 ∧ s9 ≤ 1) ∧ (¬ (0 ≤ s9 ∧ s9 ≤ 1) ∨ Fu s9.toNat = 1) ∧ (True) then up (up I 0 (thr (0 ≤ s9 ∧ s9 ≤ 1) (¬ (0 ≤ s9 ∧ s9 ≤ 1) ∨ Fu s9.toNat = 1) (True))) 20 (rmR (I 20)) else up I 0 (thr (0 ≤ s9 ∧ s9 ≤ 1) (¬ (0 ≤ s9 ∧ s9 ≤ 1) ∨ Fu s9.toNat = 1) (True))), fam G A (uN N 1 (if (0 ≤ s9 ∧ s9 ≤ 1) ∧ (¬ (0 ≤ s9 ∧ s9 ≤ 1) ∨ Fu s9.toNat = 1) ∧ (True) then K s9.toNat else n)), ar G 0 (A 19) 10896 10896 (encM (if (0 ≤ s9 ∧ s9 ≤ 1) ∧ (¬ (0 ≤ s9 ∧ s9 ≤ 1) ∨ Fu s9.toNat = 1) ∧ (True) then rmP (I 20) P n else P)), ar G 0 (A 17) 3632 3632 (encM (K)), ar G 2 (A 18) 2 2 (Fu)] := by
  refine MX_of (lv := [some (.ref o), some (.int (zI s9)), none]) hK (by decide +kernel) rfl (nle rfl) (fun X C F => ?_)
  have C : OKc G X l RX8 "restore" cX8_restore 3 (some .int) 3 0 0 := C
  have hH := hN.1
  unfold HeadOk at hH
  have hr : rok 1 := Or.inl rfl
  have hF9 := hFu s9.toNat
  have loop : (0 ≤ s9 ∧ s9 ≤ 1) ∧ (¬ (0 ≤ s9 ∧ s9 ≤ 1) ∨ Fu s9.toNat = 1) ∧ (True) → ∀ (f k : Nat), k ≤ 1816 → 1816 < k + f → WX G X 0 0 [ob o 10 (shM A 1) (up (up I 0 (thr (0 ≤ s9 ∧ s9 ≤ 1) (¬ (0 ≤ s9 ∧ s9 ≤ 1) ∨ Fu s9.toNat = 1) (True))) 20 (rmR (I 20))), fam G A (uN N 1 (cpy (fun j => encM K (1816 * s9.toNat + j)) n k)), ar G 0 (A 19) 10896 10896 (encM (rmP (I 20) P n)), ar G 0 (A 17) 3632 3632 (encM (K)), ar G 2 (A 18) 2 2 (Fu)] 40 [some (.ref o), some (.int (zI s9)), some (.int (zI k))] [] := by
    intro hP f
    induction f with
    | zero => intro k h0 h1; exfalso; omega
    | succ f ih =>
      intro k h0 h1
      refine x_iload_n C eX8_restore_40 rfl ?_
      refine x_sipush C eX8_restore_41 rfl ?_
      refine x_icmp_ge 71 C eX8_restore_44 rfl (by omega) (by omega) (fun h44 => ?_) (fun h44 => ?_)
      · obtain rfl : k = 1816 := by omega
        refine x_ws [ob o 10 (shM A 1) (up (up I 0 (thr (0 ≤ s9 ∧ s9 ≤ 1) (¬ (0 ≤ s9 ∧ s9 ≤ 1) ∨ Fu s9.toNat = 1) (True))) 20 (rmR (I 20))), fam G A (uN N 1 (K s9.toNat)), ar G 0 (A 19) 10896 10896 (encM (rmP (I 20) P n)), ar G 0 (A 17) 3632 3632 (encM (K)), ar G 2 (A 18) 2 2 (Fu)] (fun cf c hw => PW.wf (PW_cons (fun _ h => h) (PW_cons (fun _ h => famK _ h) (PW_cons (fun _ h => h) (PW_cons (fun _ h => h) (PW_cons (fun _ h => h) PW_nil))))) hw) ?_
        refine x_aload_n C eX8_restore_71 rfl ?_
        refine x_getR 0 C f_RX8_17 eX8_restore_72 rfl rfl ?_
        refine x_iconst C eX8_restore_75 ?_
        refine x_faldU 1 C eX8_restore_76 rfl (Or.inl rfl) (by omega) ?_
        rw [enc_head _ (by omega)]
        refine x_iret (by first | rfl | exact (narZ (by omega)).1) C F eX8_restore_77 () ?_ trivial (fun cf c h => ?_) (nle rfl) (nle rfl)
        · rw [if_pos hP]
        · rw [if_pos hP, if_pos hP, if_pos hP]
          exact WF_pick [0, 1, 2, 3, 4] rfl rfl h
      · refine x_aload_n C eX8_restore_47 rfl ?_
        refine x_getR 0 C f_RX8_17 eX8_restore_48 rfl rfl ?_
        refine x_iload_n C eX8_restore_51 rfl ?_
        refine x_aload_n C eX8_restore_52 rfl ?_
        refine x_getR 0 C f_RX8_43 eX8_restore_53 rfl rfl ?_
        refine x_sipush C eX8_restore_56 rfl ?_
        refine x_iload_n C eX8_restore_59 rfl ?_
        refine x_imul C eX8_restore_60 ?_
        refine x_iload_n C eX8_restore_61 rfl ?_
        refine x_iadd C eX8_restore_62 ?_
        refine x_iald 3 C eX8_restore_63 rfl (by decide) (by omega) ?_
        refine x_fastU [_, _, _, _, _] 1 C eX8_restore_64 rfl (Or.inl rfl) (by omega) rfl ?_
        skip
        refine x_iinc [_, _, _] C eX8_restore_65 rfl rfl rfl ?_
        refine x_goto (pc' := 40) C eX8_restore_68 rfl ?_
        rw [show (1816 * s9 + (k : Int)).toNat = 1816 * s9.toNat + k by omega, Int.toNat_natCast]
        exact ih (k + 1) (by omega) (by omega)
  refine x_aload_n C eX8_restore_0 rfl ?_
  refine x_iload_n C eX8_restore_1 rfl ?_
  refine yS1r [_, _, _, _, _] [_, _, _, _, _] C (s_X8_isKeep hK (by (try simp (disch := omega) only [Int.reduceAdd, uN_s, uN_uN, un_s, un_un, un_n, ub_s, ub_n, inc, bStop_n, bDrop_s, bDrop_n, unub_n, nLog_n, nLog_h, Int.sub_add_cancel]); omega)) v_X8_isKeep vs_X8_isKeep s_RX8_367 eX8_restore_2 (fun _ _ h => WF_pick [0, 1, 2, 3, 4] rfl rfl h) rfl (nle rfl) (nle rfl) (nle rfl) (nle rfl) rfl ?_
  refine x_iload_n C eX8_restore_5 rfl ?_
  refine yS1r [_, _, _, _, _] [_, _, _, _, _] C (s_X8_isKeep hK (by (try simp (disch := omega) only [Int.reduceAdd, uN_s, uN_uN, un_s, un_un, un_n, ub_s, ub_n, inc, bStop_n, bDrop_s, bDrop_n, unub_n, nLog_n, nLog_h, Int.sub_add_cancel]); omega)) v_X8_isKeep vs_X8_isKeep s_RX8_367 eX8_restore_6 (fun _ _ h => WF_pick [0, 1, 2, 3, 4] rfl rfl h) rfl (nle rfl) (nle rfl) (nle rfl) (nle rfl) rfl ?_
  refine x_ifb_eq 21 C eX8_restore_9 rfl (fun h9 => ?_) (fun h9 => ?_)
  · refine x_iconst C eX8_restore_21 ?_
    refine x_goto (pc' := 26) C eX8_restore_22 rfl ?_
    refine yV2r [_, _, _, _] [_, _, _, _, _] C (s_X8_passes2v hK (0 ≤ s9 ∧ s9 ≤ 1) (¬ (0 ≤ s9 ∧ s9 ≤ 1) ∨ Fu s9.toNat = 1) (by first | rfl | rw [bz_t (by omega)] | rw [bz_f (by omega)]) (by first | rfl | rw [bz_t (by omega)] | rw [bz_f (by omega)])) v_X8_passes2 vv_X8_passes2 s_RX8_302 eX8_restore_26 (fun _ _ h => WF_pick [0, 1, 2, 3, 4] rfl rfl h) (rcv 0 rfl) rfl (nle rfl) (nle rfl) (nle rfl) (nle rfl) rfl ?_
    skip
    refine x_ifb_ne 34 C eX8_restore_29 rfl (fun h29 => ?_) (fun h29 => ?_)
    · refine x_aload_n C eX8_restore_34 rfl ?_
      refine yV0v [_, _] [_, _, _, _, _] C (s_X8_remember hK (by exact h20)) v_X8_remember vv_X8_remember s_RX8_289 eX8_restore_35 (fun _ _ h => WF_pick [0, 1, 2, 3, 4] rfl rfl h) (rcv 0 rfl) rfl (nle rfl) (nle rfl) (nle rfl) (nle rfl) rfl ?_
      try simp only [show ∀ t, up I 0 t 20 = I 20 from fun _ => rfl]
      refine x_iconst C eX8_restore_38 ?_
      refine x_istore_n [_, _, _] C eX8_restore_39 rfl rfl (nlt rfl) ?_
      exact loop h29 2000 0 (by omega) (by omega)
    · refine x_iconst C eX8_restore_32 ?_
      refine x_iret (by first | rfl | exact (narZ (by omega)).1) C F eX8_restore_33 () ?_ trivial (fun cf c h => ?_) (nle rfl) (nle rfl)
      · rw [if_neg h29]
      · rw [if_neg h29, if_neg h29, if_neg h29]
        exact WF_pick [0, 1, 2, 3, 4] rfl rfl h
  · refine x_aload_n C eX8_restore_12 rfl ?_
    refine x_getR 0 C f_RX8_46 eX8_restore_13 rfl rfl ?_
    refine x_iload_n C eX8_restore_16 rfl ?_
    refine x_zald 4 C eX8_restore_17 rfl (by decide) (by omega) ?_
    refine x_if_eq 25 C eX8_restore_18 rfl (by omega) (fun h18 => ?_) (fun h18 => ?_)
    · refine x_iconst C eX8_restore_25 ?_
      refine yV2r [_, _, _, _] [_, _, _, _, _] C (s_X8_passes2v hK (0 ≤ s9 ∧ s9 ≤ 1) (¬ (0 ≤ s9 ∧ s9 ≤ 1) ∨ Fu s9.toNat = 1) (by first | rfl | rw [bz_t (by omega)] | rw [bz_f (by omega)]) (by first | rfl | rw [bz_t (by omega)] | rw [bz_f (by omega)])) v_X8_passes2 vv_X8_passes2 s_RX8_302 eX8_restore_26 (fun _ _ h => WF_pick [0, 1, 2, 3, 4] rfl rfl h) (rcv 0 rfl) rfl (nle rfl) (nle rfl) (nle rfl) (nle rfl) rfl ?_
      skip
      refine x_ifb_ne 34 C eX8_restore_29 rfl (fun h29 => ?_) (fun h29 => ?_)
      · refine x_aload_n C eX8_restore_34 rfl ?_
        refine yV0v [_, _] [_, _, _, _, _] C (s_X8_remember hK (by exact h20)) v_X8_remember vv_X8_remember s_RX8_289 eX8_restore_35 (fun _ _ h => WF_pick [0, 1, 2, 3, 4] rfl rfl h) (rcv 0 rfl) rfl (nle rfl) (nle rfl) (nle rfl) (nle rfl) rfl ?_
        try simp only [show ∀ t, up I 0 t 20 = I 20 from fun _ => rfl]
        refine x_iconst C eX8_restore_38 ?_
        refine x_istore_n [_, _, _] C eX8_restore_39 rfl rfl (nlt rfl) ?_
        exact loop h29 2000 0 (by omega) (by omega)
      · refine x_iconst C eX8_restore_32 ?_
        refine x_iret (by first | rfl | exact (narZ (by omega)).1) C F eX8_restore_33 () ?_ trivial (fun cf c h => ?_) (nle rfl) (nle rfl)
        · rw [if_neg h29]
        · rw [if_neg h29, if_neg h29, if_neg h29]
          exact WF_pick [0, 1, 2, 3, 4] rfl rfl h
    · refine x_iconst C eX8_restore_21 ?_
      refine x_goto (pc' := 26) C eX8_restore_22 rfl ?_
      refine yV2r [_, _, _, _] [_, _, _, _, _] C (s_X8_passes2v hK (0 ≤ s9 ∧ s9 ≤ 1) (¬ (0 ≤ s9 ∧ s9 ≤ 1) ∨ Fu s9.toNat = 1) (by first | rfl | rw [bz_t (by omega)] | rw [bz_f (by omega)]) (by first | rfl | rw [bz_t (by omega)] | rw [bz_f (by omega)])) v_X8_passes2 vv_X8_passes2 s_RX8_302 eX8_restore_26 (fun _ _ h => WF_pick [0, 1, 2, 3, 4] rfl rfl h) (rcv 0 rfl) rfl (nle rfl) (nle rfl) (nle rfl) (nle rfl) rfl ?_
      skip
      refine x_ifb_ne 34 C eX8_restore_29 rfl (fun h29 => ?_) (fun h29 => ?_)
      · refine x_aload_n C eX8_restore_34 rfl ?_
        refine yV0v [_, _] [_, _, _, _, _] C (s_X8_remember hK (by exact h20)) v_X8_remember vv_X8_remember s_RX8_289 eX8_restore_35 (fun _ _ h => WF_pick [0, 1, 2, 3, 4] rfl rfl h) (rcv 0 rfl) rfl (nle rfl) (nle rfl) (nle rfl) (nle rfl) rfl ?_
        try simp only [show ∀ t, up I 0 t 20 = I 20 from fun _ => rfl]
        refine x_iconst C eX8_restore_38 ?_
        refine x_istore_n [_, _, _] C eX8_restore_39 rfl rfl (nlt rfl) ?_
        exact loop h29 2000 0 (by omega) (by omega)
      · refine x_iconst C eX8_restore_32 ?_
        refine x_iret (by first | rfl | exact (narZ (by omega)).1) C F eX8_restore_33 () ?_ trivial (fun cf c h => ?_) (nle rfl) (nle rfl)
        · rw [if_neg h29]
        · rw [if_neg h29, if_neg h29, if_neg h29]
          exact WF_pick [0, 1, 2, 3, 4] rfl rfl h

set_option maxHeartbeats 4000000 in
set_option maxRecDepth 100000 in
theorem s_X8_write {G : Gm} {l : Launch} (hK : KG G) {o : Nat} {A : Nat → Nat} {I : Nat → Int} {w : List Int} {c9 : Int} (hw : w.length < 200) (hc : 0 ≤ c9 ∧ c9 < 128) : MD G l yX8_write cX8_write 2 none 1 0 0 [.ref o, .int (zI c9)] [ob o 10 (shM A 1) (up I 22 (((w).length : Nat) : Int)), ar G 1 (A 21) 200 (w).length (oF (w))] none [ob o 10 (shM A 1) (up I 22 (((w ++ [c9]).length : Nat) : Int)), ar G 1 (A 21) 200 (w ++ [c9]).length (oF (w ++ [c9]))] := by
  refine MX_of (lv := [some (.ref o), some (.int (zI c9))]) hK (by decide +kernel) rfl (nle rfl) (fun X C F => ?_)
  have C : OKc G X l RX8 "write" cX8_write 2 none 1 0 0 := C
  refine x_aload_n C eX8_write_0 rfl ?_
  refine x_getR 0 C f_RX8_53 eX8_write_1 rfl rfl ?_
  refine x_aload_n C eX8_write_4 rfl ?_
  refine x_getI 0 C f_RX8_373 eX8_write_5 rfl rfl ?_
  try simp only [up_lit, if_true, if_false]
  refine x_iload_n C eX8_write_8 rfl ?_
  refine x_i2bR C eX8_write_9 ?_
  refine x_bast (x := 0) [_, _] (w.length + 1) 1 C eX8_write_10 rfl (by decide) (by omega) (by omega) rfl ?_
  refine x_aload_n C eX8_write_11 rfl ?_
  refine x_dup C eX8_write_12 rfl ?_
  refine x_getI 0 C f_RX8_373 eX8_write_13 rfl rfl ?_
  try simp only [up_lit, if_true, if_false]
  refine x_iconst C eX8_write_16 ?_
  refine x_iadd C eX8_write_17 ?_
  refine x_putI [_, _] 0 C f_RX8_373 eX8_write_18 rfl rfl rfl ?_
  refine x_vret C F eX8_write_21 () rfl trivial (fun cf c h => ?_) (nle rfl) (nle rfl)
  refine PW.wf (PW_cons (fun _ h => ob_congr (fun i _ => ?_) h) (PW_cons (fun _ h => ?_) PW_nil)) (WF_pick [0, 1] rfl rfl h)
  · rw [List.length_append]
    simp only [up_lit, if_true]
    split
    · simp
    · rfl
  · rw [i8_c hc, Int.toNat_natCast] at h
    have e : (w ++ [c9]).length = w.length + 1 := by simp
    rw [e]
    exact ar_congr (Nat.le_refl _) (fun j hj => oF_s w c9 j hj) h

set_option maxHeartbeats 4000000 in
set_option maxRecDepth 100000 in
theorem s_X8_writeIf {G : Gm} {l : Launch} (hK : KG G) {o : Nat} {A : Nat → Nat} {I : Nat → Int} {w : List Int} {c9 : Int} (p9 : Prop) [Decidable p9] {v9 : Int} (hv : v9 = bz p9) (hw : w.length < 200) (hc : 0 ≤ c9 ∧ c9 < 128) : MD G l yX8_writeIf cX8_writeIf 3 none 2 0 0 [.ref o, .int (zI v9), .int (zI c9)] [ob o 10 (shM A 1) (up I 22 (((w).length : Nat) : Int)), ar G 1 (A 21) 200 (w).length (oF (w))] none [ob o 10 (shM A 1) (up I 22 (((if p9 then w ++ [c9] else w).length : Nat) : Int)), ar G 1 (A 21) 200 (if p9 then w ++ [c9] else w).length (oF (if p9 then w ++ [c9] else w))] := by
  refine MX_of (lv := [some (.ref o), some (.int (zI v9)), some (.int (zI c9))]) hK (by decide +kernel) rfl (nle rfl) (fun X C F => ?_)
  have C : OKc G X l RX8 "writeIf" cX8_writeIf 3 none 2 0 0 := C
  subst hv
  refine x_iload_n C eX8_writeIf_0 rfl ?_
  refine x_ifb_eq 9 C eX8_writeIf_1 rfl (fun h1 => ?_) (fun h1 => ?_)
  · refine x_vret C F eX8_writeIf_9 () rfl trivial (fun cf c h => ?_) (nle rfl) (nle rfl)
    first
      | (rw [if_pos h1]; exact WF_pick [0, 1] rfl rfl h)
      | (rw [if_neg h1]; exact WF_pick [0, 1] rfl rfl h)
  · refine x_aload_n C eX8_writeIf_4 rfl ?_
    refine x_iload_n C eX8_writeIf_5 rfl ?_
    refine yV1v [] [_, _] C (s_X8_write hK (by (try simp (disch := omega) only [Int.reduceAdd, uN_s, uN_uN, un_s, un_un, un_n, ub_s, ub_n, inc, bStop_n, bDrop_s, bDrop_n, unub_n, nLog_n, nLog_h, Int.sub_add_cancel]); omega) (by (try simp (disch := omega) only [Int.reduceAdd, uN_s, uN_uN, un_s, un_un, un_n, ub_s, ub_n, inc, bStop_n, bDrop_s, bDrop_n, unub_n, nLog_n, nLog_h, Int.sub_add_cancel]); omega)) v_X8_write vv_X8_write s_RX8_376 eX8_writeIf_6 (fun _ _ h => WF_pick [0, 1] rfl rfl h) (rcv 0 rfl) rfl (nle rfl) (nle rfl) (nle rfl) (nle rfl) rfl ?_
    refine x_vret C F eX8_writeIf_9 () rfl trivial (fun cf c h => ?_) (nle rfl) (nle rfl)
    first
      | (rw [if_pos h1]; exact WF_pick [0, 1] rfl rfl h)
      | (rw [if_neg h1]; exact WF_pick [0, 1] rfl rfl h)

set_option maxHeartbeats 4000000 in
set_option maxRecDepth 100000 in
theorem s_X8_outputByte {G : Gm} {l : Launch} (hK : KG G) {o : Nat} {A : Nat → Nat} {I : Nat → Int} {w : List Int} {i9 : Int} (r_i9 : -2147483648 ≤ i9 ∧ i9 < 2147483648) (hw : w.length ≤ 200) (h22 : I 22 = w.length) : MD G l yX8_outputByte cX8_outputByte 2 (some .int) 3 0 0 [.ref o, .int (zI i9)] [ob o 10 (shM A 1) I, ar G 1 (A 21) 200 (w).length (oF (w))] (some (.int (zI (if (0 ≤ i9 ∧ i9 ≤ (w.length : Int) - 1) ∧ (True) ∧ (True) then oF w i9.toNat else 0)))) [ob o 10 (shM A 1) (up I 0 (thr (0 ≤ i9 ∧ i9 ≤ (w.length : Int) - 1) (True) (True))), ar G 1 (A 21) 200 (w).length (oF (w))] := by
  refine MX_of (lv := [some (.ref o), some (.int (zI i9))]) hK (by decide +kernel) rfl (nle rfl) (fun X C F => ?_)
  have C : OKc G X l RX8 "outputByte" cX8_outputByte 2 (some .int) 3 0 0 := C
  refine x_aload_n C eX8_outputByte_0 rfl ?_
  refine x_iload_n C eX8_outputByte_1 rfl ?_
  refine x_i2l C eX8_outputByte_2 (by omega) ?_
  refine x_lconst (v := 0) C eX8_outputByte_3 rfl ?_
  refine x_aload_n C eX8_outputByte_4 rfl ?_
  refine x_getI 0 C f_RX8_373 eX8_outputByte_5 rfl rfl ?_
  refine x_iconst C eX8_outputByte_8 ?_
  refine x_isub C eX8_outputByte_9 ?_
  refine x_i2l C eX8_outputByte_10 (by omega) ?_
  refine yS3r [_, _] [_, _] C (s_X8_in hK (by (try simp (disch := omega) only [Int.reduceAdd, uN_s, uN_uN, un_s, un_un, un_n, ub_s, ub_n, inc, bStop_n, bDrop_s, bDrop_n, unub_n, nLog_n, nLog_h, Int.sub_add_cancel]); omega)) v_X8_in vs_X8_in s_RX8_72 eX8_outputByte_11 (fun _ _ h => WF_pick [0, 1] rfl rfl h) rfl (nle rfl) (nle rfl) (nle rfl) (nle rfl) rfl ?_
  refine yV1r [_] [_, _] C (s_X8_passesv hK (0 ≤ i9 ∧ i9 ≤ (w.length : Int) - 1) (by rw [h22])) v_X8_passes vv_X8_passes s_RX8_142 eX8_outputByte_14 (fun _ _ h => WF_pick [0, 1] rfl rfl h) (rcv 0 rfl) rfl (nle rfl) (nle rfl) (nle rfl) (nle rfl) rfl ?_
  skip
  refine x_ifb_eq 29 C eX8_outputByte_17 rfl (fun h17 => ?_) (fun h17 => ?_)
  · refine x_iconst C eX8_outputByte_29 ?_
    refine x_iret (by first | rfl | exact (narZ (by omega)).1) C F eX8_outputByte_30 () ?_ trivial (fun cf c h => ?_) (nle rfl) (nle rfl)
    · first
        | (rw [if_pos h17])
        | (rw [if_neg h17])
    · exact WF_pick [0, 1] rfl rfl h
  · refine x_aload_n C eX8_outputByte_20 rfl ?_
    refine x_getR 0 C f_RX8_53 eX8_outputByte_21 rfl rfl ?_
    refine x_iload_n C eX8_outputByte_24 rfl ?_
    refine x_bald 1 C eX8_outputByte_25 rfl (by decide) (by omega) ?_
    refine x_goto (pc' := 30) C eX8_outputByte_26 rfl ?_
    refine x_iret (by first | rfl | exact (narZ (by omega)).1) C F eX8_outputByte_30 () ?_ trivial (fun cf c h => ?_) (nle rfl) (nle rfl)
    · first
        | (rw [if_pos h17])
        | (rw [if_neg h17])
    · exact WF_pick [0, 1] rfl rfl h
