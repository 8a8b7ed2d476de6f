set_option maxHeartbeats 4000000 in
set_option maxRecDepth 100000 in
theorem s_X8_remember {G : Gm} {l : Launch} (hK : KG G) {o : Nat} {A : Nat → Nat} {I : Nat → Int} {N : Nat → Net} {n : Net} {P : Nat → Net} (h20 : 0 ≤ I 20 ∧ I 20 ≤ 6) : MD G l yX8_remember cX8_remember 2 none 1 0 0 [.ref o] [ob o 10 (shM A 1) I, fam G A (uN N 1 (n)), ar G 0 (A 19) 10896 10896 (encM (P))] none [ob o 10 (shM A 1) (up I 20 (rmR (I 20))), fam G A (uN N 1 (n)), ar G 0 (A 19) 10896 10896 (encM (rmP (I 20) P n))] := by
  refine MX_of (lv := [some (.ref o), none]) hK (by decide +kernel) rfl (nle rfl) (fun X C F => ?_)
  have C : OKc G X l RX8 "remember" cX8_remember 2 none 1 0 0 := C
  have loopB : ∀ (I' f' : Nat → Int) (R : Nat), I' 20 = R → R ≤ 5 → (∀ i, up I' 20 (I' 20 + 1) i = up I 20 (rmR (I 20)) i) → cpF f' (enc n) (1816 * R) 1816 = encM (rmP (I 20) P n) → ∀ (f k : Nat), k ≤ 1816 → 1816 < k + f → WX G X 0 0 [ob o 10 (shM A 1) I', fam G A (uN N 1 (n)), ar G 0 (A 19) 10896 10896 (cpF f' (enc n) (1816 * R) k)] 54 [some (.ref o), some (.int (zI k))] [] := by
    intro I' f' R hR hR5 hI hF f
    induction f with
    | zero => intro k h0 h1; exfalso; omega
    | succ f ih =>
      intro k h0 h1
      refine x_iload_n C eX8_remember_54 rfl ?_
      refine x_sipush C eX8_remember_55 rfl ?_
      refine x_icmp_ge 88 C eX8_remember_58 rfl (by omega) (by omega) (fun h58 => ?_) (fun h58 => ?_)
      · refine x_aload_n C eX8_remember_88 rfl ?_
        refine x_dup C eX8_remember_89 rfl ?_
        refine x_getI 0 C f_RX8_370 eX8_remember_90 rfl rfl ?_
        try simp only [up_lit, if_true, if_false]
        refine x_iconst C eX8_remember_93 ?_
        refine x_iadd C eX8_remember_94 ?_
        refine x_putI [_, _, _] 0 C f_RX8_370 eX8_remember_95 rfl rfl rfl ?_
        refine x_vret C F eX8_remember_98 () rfl trivial (fun cf c h => ?_) (nle rfl) (nle rfl)
        obtain rfl : k = 1816 := by omega
        refine PW.wf (PW_cons (fun _ h => ob_congr (fun i _ => hI i) h) (PW_cons (fun _ h => h) (PW_cons (fun _ h => ?_) PW_nil))) (WF_pick [0, 1, 2] rfl rfl h)
        rw [← hF]
        exact h
      · refine x_aload_n C eX8_remember_61 rfl ?_
        refine x_getR 0 C f_RX8_50 eX8_remember_62 rfl rfl ?_
        refine x_sipush C eX8_remember_65 rfl ?_
        refine x_aload_n C eX8_remember_68 rfl ?_
        refine x_getI 0 C f_RX8_370 eX8_remember_69 rfl rfl ?_
        try simp only [up_lit, if_true, if_false]
        refine x_imul C eX8_remember_72 ?_
        refine x_iload_n C eX8_remember_73 rfl ?_
        refine x_iadd C eX8_remember_74 ?_
        refine x_aload_n C eX8_remember_75 rfl ?_
        refine x_getR 0 C f_RX8_17 eX8_remember_76 rfl rfl ?_
        refine x_iload_n C eX8_remember_79 rfl ?_
        refine x_faldU 1 C eX8_remember_80 rfl (Or.inl rfl) (by omega) ?_
        rw [Int.toNat_natCast]
        refine x_iast (w := 0) [_, _, _] 10896 2 C eX8_remember_81 rfl (by decide) (by omega) (by omega) rfl ?_
        refine x_iinc [_, _] C eX8_remember_82 rfl rfl rfl ?_
        refine x_goto (pc' := 54) C eX8_remember_85 rfl ?_
        rw [show (1816 * I' 20 + (k : Int)).toNat = 1816 * R + k by omega, cpF_s]
        exact ih (k + 1) (by omega) (by omega)
  have loopA : I 20 = 6 → ∀ (f k : Nat), 1816 ≤ k → k ≤ 10896 → 10896 < k + f → WX G X 0 0 [ob o 10 (shM A 1) I, fam G A (uN N 1 (n)), ar G 0 (A 19) 10896 10896 (shF (encM P) k)] 13 [some (.ref o), some (.int (zI k))] [] := by
    intro h6 f
    induction f with
    | zero => intro k h0 h1 h2; exfalso; omega
    | succ f ih =>
      intro k h0 h1 h2
      refine x_iload_n C eX8_remember_13 rfl ?_
      refine x_sipush C eX8_remember_14 rfl ?_
      refine x_icmp_ge 42 C eX8_remember_17 rfl (by omega) (by omega) (fun h17 => ?_) (fun h17 => ?_)
      · refine x_aload_n C eX8_remember_42 rfl ?_
        refine x_dup C eX8_remember_43 rfl ?_
        refine x_getI 0 C f_RX8_370 eX8_remember_44 rfl rfl ?_
        try simp only [up_lit, if_true, if_false]
        refine x_iconst C eX8_remember_47 ?_
        refine x_isub C eX8_remember_48 ?_
        refine x_putI [_, _, _] 0 C f_RX8_370 eX8_remember_49 rfl rfl rfl ?_
        refine x_iconst C eX8_remember_52 ?_
        refine x_istore_n [_, _] C eX8_remember_53 rfl rfl (nlt rfl) ?_
        obtain rfl : k = 10896 := by omega
        have a1 : up I 20 (I 20 - 1) 20 = ((5 : Nat) : Int) := by
          simp only [up_lit, if_true]
          omega
        have a2 : ∀ i, up (up I 20 (I 20 - 1)) 20 (up I 20 (I 20 - 1) 20 + 1) i = up I 20 (rmR (I 20)) i := by
          intro i
          simp only [up_lit, if_true]
          unfold rmR
          rw [if_pos h6]
          split <;> omega
        have a3 : cpF (shF (encM P) 10896) (enc n) (1816 * 5) 1816 = encM (rmP (I 20) P n) := by
          rw [shF_M, cpF_M]
          unfold rmP
          rw [if_pos h6]
        have hb := loopB (up I 20 (I 20 - 1)) (shF (encM P) 10896) 5 a1 (by decide) a2 a3 2000 0 (by omega) (by omega)
        rw [cpF_0] at hb
        exact hb
      · refine x_aload_n C eX8_remember_20 rfl ?_
        refine x_getR 0 C f_RX8_50 eX8_remember_21 rfl rfl ?_
        refine x_iload_n C eX8_remember_24 rfl ?_
        refine x_sipush C eX8_remember_25 rfl ?_
        refine x_isub C eX8_remember_28 ?_
        refine x_aload_n C eX8_remember_29 rfl ?_
        refine x_getR 0 C f_RX8_50 eX8_remember_30 rfl rfl ?_
        refine x_iload_n C eX8_remember_33 rfl ?_
        refine x_iald 2 C eX8_remember_34 rfl (by decide) (by omega) ?_
        refine x_iast (w := 0) [_, _, _] 10896 2 C eX8_remember_35 rfl (by decide) (by omega) (by omega) rfl ?_
        refine x_iinc [_, _] C eX8_remember_36 rfl rfl rfl ?_
        refine x_goto (pc' := 13) C eX8_remember_39 rfl ?_
        rw [show ((k : Int) - 1816).toNat = k - 1816 by omega, Int.toNat_natCast, shF_s _ h0]
        exact ih (k + 1) (by omega) (by omega) (by omega)
  refine x_aload_n C eX8_remember_0 rfl ?_
  refine x_getI 0 C f_RX8_370 eX8_remember_1 rfl rfl ?_
  refine x_bipush C eX8_remember_4 rfl ?_
  refine x_icmp_ne 52 C eX8_remember_6 rfl (by omega) (by omega) (fun h6 => ?_) (fun h6 => ?_)
  · refine x_iconst C eX8_remember_52 ?_
    refine x_istore_n [_, _] C eX8_remember_53 rfl rfl (nlt rfl) ?_
    have a2 : ∀ i, up I 20 (I 20 + 1) i = up I 20 (rmR (I 20)) i := by
      intro i
      unfold rmR
      rw [if_neg h6]
    have a3 : cpF (encM P) (enc n) (1816 * (I 20).toNat) 1816 = encM (rmP (I 20) P n) := by
      rw [cpF_M]
      unfold rmP
      rw [if_neg h6]
    have hb := loopB I (encM P) (I 20).toNat (by omega) (by omega) a2 a3 2000 0 (by omega) (by omega)
    rw [cpF_0] at hb
    exact hb
  · refine x_sipush C eX8_remember_9 rfl ?_
    refine x_istore_n [_, _] C eX8_remember_12 rfl rfl (nlt rfl) ?_
    have h := loopA h6 12000 1816 (by omega) (by omega) (by omega)
    rw [shF_0] at h
    exact h

set_option maxHeartbeats 4000000 in
set_option maxRecDepth 100000 in
theorem s_X8_keep {G : Gm} {l : Launch} (hK : KG G) {o : Nat} {A : Nat → Nat} {I : Nat → Int} {N : Nat → Net} {n : Net} {b : Int} {s9 : Int} {K : Nat → Net} {Fu : Nat → Int} (hN : NetOk b n) (hb : b ≤ 900000000) (r_s9 : -2147483648 ≤ s9 ∧ s9 < 2147483648) : MD G l yX8_keep cX8_keep 3 (some .int) 3 0 0 [.ref o, .int (zI s9)] [ob o 10 (shM A 1) I, fam G A (uN N 1 (n)), ar G 0 (A 17) 3632 3632 (encM (K)), ar G 2 (A 18) 2 2 (Fu)] (some (.int (zI (if (0 ≤ s9 ∧ s9 ≤ 1) ∧ (True) ∧ (True) then n (-1) 1 else 0)))) [ob o 10 (shM A 1) (up I 0 (thr (0 ≤ s9 ∧ s9 ≤ 1) (True) (True))), fam G A (uN N 1 (n)), ar G 0 (A 17) 3632 3632 (encM (if (0 ≤ s9 ∧ s9 ≤ 1) ∧ (True) ∧ (True) then uN K s9.toNat n else K)), ar G 2 (A 18) 2 2 (if (0 ≤ s9 ∧ s9 ≤ 1) ∧ (True) ∧ (True) then up Fu s9.toNat 1 else Fu)] := by
  refine MX_of (lv := [some (.ref o), some (.int (zI s9)), none]) hK (by decide +kernel) rfl (nle rfl) (fun X C F => ?_)
  have C : OKc G X l RX8 "keep" cX8_keep 3 (some .int) 3 0 0 := C
  have hH := hN.1
  unfold HeadOk at hH
  have hr : rok 1 := Or.inl rfl
  have loop : (0 ≤ s9 ∧ s9 ≤ 1) ∧ (True) ∧ (True) → ∀ (f k : Nat), k ≤ 1816 → 1816 < k + f → WX G X 0 0 [ob o 10 (shM A 1) (up I 0 (thr (0 ≤ s9 ∧ s9 ≤ 1) (True) (True))), fam G A (uN N 1 (n)), ar G 0 (A 17) 3632 3632 (cpF (encM K) (enc n) (1816 * s9.toNat) k), ar G 2 (A 18) 2 2 (Fu)] 15 [some (.ref o), some (.int (zI s9)), some (.int (zI k))] [] := by
    intro hP f
    induction f with
    | zero => intro k h0 h1; exfalso; omega
    | succ f ih =>
      intro k h0 h1
      refine x_iload_n C eX8_keep_15 rfl ?_
      refine x_sipush C eX8_keep_16 rfl ?_
      refine x_icmp_ge 46 C eX8_keep_19 rfl (by omega) (by omega) (fun h19 => ?_) (fun h19 => ?_)
      · refine x_aload_n C eX8_keep_46 rfl ?_
        refine x_getR 0 C f_RX8_46 eX8_keep_47 rfl rfl ?_
        refine x_iload_n C eX8_keep_50 rfl ?_
        refine x_iconst C eX8_keep_51 ?_
        refine x_zast (w := 0) [_, _, _, _] 2 3 C eX8_keep_52 rfl (by decide) (by omega) (by omega) (by omega) rfl ?_
        refine x_aload_n C eX8_keep_53 rfl ?_
        refine x_getR 0 C f_RX8_17 eX8_keep_54 rfl rfl ?_
        refine x_iconst C eX8_keep_57 ?_
        refine x_faldU 1 C eX8_keep_58 rfl (Or.inl rfl) (by omega) ?_
        rw [enc_head _ (by omega)]
        refine x_iret (by first | rfl | exact (narZ (by omega)).1) C F eX8_keep_59 () ?_ trivial (fun cf c h => ?_) (nle rfl) (nle rfl)
        · rw [if_pos hP]
        · obtain rfl : k = 1816 := by omega
          rw [if_pos hP, if_pos hP, ← cpF_M]
          exact WF_pick [0, 1, 2, 3] rfl rfl h
      · refine x_aload_n C eX8_keep_22 rfl ?_
        refine x_getR 0 C f_RX8_43 eX8_keep_23 rfl rfl ?_
        refine x_sipush C eX8_keep_26 rfl ?_
        refine x_iload_n C eX8_keep_29 rfl ?_
        refine x_imul C eX8_keep_30 ?_
        refine x_iload_n C eX8_keep_31 rfl ?_
        refine x_iadd C eX8_keep_32 ?_
        refine x_aload_n C eX8_keep_33 rfl ?_
        refine x_getR 0 C f_RX8_17 eX8_keep_34 rfl rfl ?_
        refine x_iload_n C eX8_keep_37 rfl ?_
        refine x_faldU 1 C eX8_keep_38 rfl (Or.inl rfl) (by omega) ?_
        rw [Int.toNat_natCast]
        refine x_iast (w := 0) [_, _, _, _] 3632 2 C eX8_keep_39 rfl (by decide) (by omega) (by omega) rfl ?_
        refine x_iinc [_, _, _] C eX8_keep_40 rfl rfl rfl ?_
        refine x_goto (pc' := 15) C eX8_keep_43 rfl ?_
        rw [show (1816 * s9 + (k : Int)).toNat = 1816 * s9.toNat + k by omega, cpF_s]
        exact ih (k + 1) (by omega) (by omega)
  refine x_aload_n C eX8_keep_0 rfl ?_
  refine x_iload_n C eX8_keep_1 rfl ?_
  refine yS1r [_, _, _, _] [_, _, _, _] C (s_X8_isKeep hK (by (try simp (disch := omega) only [Int.reduceAdd, uN_s, uN_uN, un_s, un_un, un_n, ub_s, ub_n, inc, bStop_n, bDrop_s, bDrop_n, unub_n, nLog_n, nLog_h, Int.sub_add_cancel]); omega)) v_X8_isKeep vs_X8_isKeep s_RX8_367 eX8_keep_2 (fun _ _ h => WF_pick [0, 1, 2, 3] rfl rfl h) rfl (nle rfl) (nle rfl) (nle rfl) (nle rfl) rfl ?_
  refine yV1r [_, _, _] [_, _, _, _] C (s_X8_passesv hK (0 ≤ s9 ∧ s9 ≤ 1) (by first | rfl | rw [bz_t (by omega)] | rw [bz_f (by omega)])) v_X8_passes vv_X8_passes s_RX8_142 eX8_keep_5 (fun _ _ h => WF_pick [0, 1, 2, 3] rfl rfl h) (rcv 0 rfl) rfl (nle rfl) (nle rfl) (nle rfl) (nle rfl) rfl ?_
  skip
  refine x_ifb_ne 13 C eX8_keep_8 rfl (fun h8 => ?_) (fun h8 => ?_)
  · refine x_iconst C eX8_keep_13 ?_
    refine x_istore_n [_, _, _] C eX8_keep_14 rfl rfl (nlt rfl) ?_
    have h := loop h8 2000 0 (by omega) (by omega)
    rw [cpF_0] at h
    exact h
  · refine x_iconst C eX8_keep_11 ?_
    refine x_iret (by first | rfl | exact (narZ (by omega)).1) C F eX8_keep_12 () ?_ trivial (fun cf c h => ?_) (nle rfl) (nle rfl)
    · rw [if_neg h8]
    · rw [if_neg h8, if_neg h8]
      exact WF_pick [0, 1, 2, 3] rfl rfl h
