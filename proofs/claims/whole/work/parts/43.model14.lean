set_option maxHeartbeats 4000000 in
set_option maxRecDepth 100000 in
theorem s_X8_writeInt {G : Gm} {l : Launch} (hK : KG G) {o : Nat} {A : Nat → Nat} {I : Nat → Int} {w : List Int} {v9 : Int} (hv : 0 ≤ v9 ∧ v9 < 1000000000) (hw : (w ++ dec v9).length ≤ 200) : MD G l yX8_writeInt cX8_writeInt 4 none 2 0 0 [.ref o, .int (zI v9)] [ob o 10 (shM A 1) (up I 22 (((w).length : Nat) : Int)), ar G 1 (A 21) 200 (w).length (oF (w))] none [ob o 10 (shM A 1) (up I 22 (((w ++ dec v9).length : Nat) : Int)), ar G 1 (A 21) 200 (w ++ dec v9).length (oF (w ++ dec v9))] := by
  refine MX_of (lv := [some (.ref o), some (.int (zI v9)), none, none]) hK (by decide +kernel) rfl (nle rfl) (fun X C F => ?_)
  have C : OKc G X l RX8 "writeInt" cX8_writeInt 4 none 2 0 0 := C
  have loop2 : ∀ (f m : Nat) (u : Int) (w' : List Int), m < f → pw 10 m ≤ 1000000000 → w' ++ dgQ 10 48 (v9) m = w ++ dec v9 → WX G X 0 0 [ob o 10 (shM A 1) (up I 22 (((w').length : Nat) : Int)), ar G 1 (A 21) 200 (w').length (oF (w'))] 20 [some (.ref o), some (.int (zI v9)), some (.int (zI u)), some (.int (zI (pw 10 m)))] [] := by
    intro f
    induction f with
    | zero => intro m u w' h0; exfalso; omega
    | succ f ih =>
      intro m u w' h0 hu h1
      have hl := congrArg List.length h1
      rw [List.length_append, dgQ_len] at hl
      have hp0 := pw_nn 10 m
      refine x_iload_n C eX8_writeInt_20 rfl ?_
      refine x_if_le 45 C eX8_writeInt_21 rfl (by omega) (fun h21 => ?_) (fun h21 => ?_)
      · cases m with
        | succ m' => exact absurd (pw_pos (q := 10) (by decide) m') (by omega)
        | zero =>
        skip
        refine x_vret C F eX8_writeInt_45 () rfl trivial (fun cf c h => ?_) (nle rfl) (nle rfl)
        rw [← h1, show w' ++ dgQ 10 48 v9 0 = w' from List.append_nil _]
        exact WF_pick [0, 1] rfl rfl h
      · cases m with
        | zero => exact absurd h21 (by decide)
        | succ m' =>
        have hu2 : pw 10 m' ≤ 1000000000 := by
          have h3 := pw_div (q := 10) (by decide) m'
          omega
        have hq0 : 0 ≤ v9 / pw 10 (m' + 1) := Int.ediv_nonneg (by omega) (by omega)
        have hq1 : v9 / pw 10 (m' + 1) ≤ v9 := Int.ediv_le_self _ (by omega)
        refine x_aload_n C eX8_writeInt_24 rfl ?_
        refine x_bipush C eX8_writeInt_25 rfl ?_
        refine x_iload_n C eX8_writeInt_27 rfl ?_
        refine x_iload_n C eX8_writeInt_28 rfl ?_
        refine x_idiv C eX8_writeInt_29 (by omega) ?_
        refine x_bipush C eX8_writeInt_30 rfl ?_
        refine x_irem C eX8_writeInt_32 (by omega) ?_
        refine x_iadd C eX8_writeInt_33 ?_
        refine yV1v [] [_, _] C (s_X8_write hK (by omega) (by omega)) v_X8_write vv_X8_write s_RX8_376 eX8_writeInt_34 (fun _ _ h => WF_pick [0, 1] rfl rfl h) (rcv 0 rfl) rfl (nle rfl) (nle rfl) (nle rfl) (nle rfl) rfl ?_
        refine x_iload_n C eX8_writeInt_37 rfl ?_
        refine x_bipush C eX8_writeInt_38 rfl ?_
        refine x_idiv C eX8_writeInt_40 (by omega) ?_
        refine x_istore_n [_, _, _, _] C eX8_writeInt_41 rfl rfl (nlt rfl) ?_
        refine x_goto (pc' := 20) C eX8_writeInt_42 rfl ?_
        rw [show pw 10 (m' + 1) / 10 = pw 10 m' from pw_div (by decide) m']
        exact ih m' u _ (by omega) hu2 (by rw [List.append_assoc]; exact h1)
  have loop1 : ∀ (f k : Nat), k + f = 10 → top 10 (v9) f k = top 10 (v9) 10 0 → pw 10 (k + 1) ≤ 1000000000 → WX G X 0 0 [ob o 10 (shM A 1) (up I 22 (((w).length : Nat) : Int)), ar G 1 (A 21) 200 (w).length (oF (w))] 2 [some (.ref o), some (.int (zI v9)), some (.int (zI (pw 10 (k + 1)))), none] [] := by
    intro f
    induction f with
    | zero =>
      intro k h0 h1 h2
      obtain rfl : k = 10 := by omega
      exact absurd h2 (by decide)
    | succ f ih =>
      intro k h0 h1 h2
      have hp := pw_pos (q := 10) (by decide) k
      have hq0 : 0 ≤ v9 / pw 10 (k + 1) := Int.ediv_nonneg (by omega) (by omega)
      have hq1 : v9 / pw 10 (k + 1) ≤ v9 := Int.ediv_le_self _ (by omega)
      have hq2 := @Int.le_ediv_iff_mul_le 10 (v9) (pw 10 (k + 1)) hp
      have hq3 : 10 * pw 10 (k + 1) = pw 10 (k + 1 + 1) := by
        rw [← pw_mul]
        exact Int.mul_comm _ _
      have hq4 : pw 10 (k + 1) * 10 = pw 10 (k + 1 + 1) := pw_mul
      refine x_iload_n C eX8_writeInt_2 rfl ?_
      refine x_iload_n C eX8_writeInt_3 rfl ?_
      refine x_idiv C eX8_writeInt_4 (by omega) ?_
      refine x_bipush C eX8_writeInt_5 rfl ?_
      refine x_icmp_lt 18 C eX8_writeInt_7 rfl (by omega) (by omega) (fun h7 => ?_) (fun h7 => ?_)
      · refine x_iload_n C eX8_writeInt_18 rfl ?_
        refine x_istore_n [_, _, _, _] C eX8_writeInt_19 rfl rfl (nlt rfl) ?_
        have ht : top 10 v9 10 0 = k := by
          rw [← h1]
          exact if_pos (by omega)
        exact loop2 12 (k + 1) _ w (by omega) h2 (by unfold dec; rw [ht])
      · refine x_iload_n C eX8_writeInt_10 rfl ?_
        refine x_bipush C eX8_writeInt_11 rfl ?_
        refine x_imul C eX8_writeInt_13 ?_
        refine x_istore_n [_, _, _, _] C eX8_writeInt_14 rfl rfl (nlt rfl) ?_
        refine x_goto (pc' := 2) C eX8_writeInt_15 rfl ?_
        rw [hq4]
        exact ih (k + 1) (by omega) (by rw [← h1]; exact (if_neg (by omega)).symm) (by omega)
  refine x_iconst C eX8_writeInt_0 ?_
  refine x_istore_n [_, _, _, _] C eX8_writeInt_1 rfl rfl (nlt rfl) ?_
  exact loop1 10 0 rfl rfl (by decide)

set_option maxHeartbeats 4000000 in
set_option maxRecDepth 100000 in
theorem s_X8_writeName {G : Gm} {l : Launch} (hK : KG G) {o : Nat} {A : Nat → Nat} {I : Nat → Int} {N : Nat → Net} {n : Net} {w : List Int} {l9 : Int} (hl : 0 ≤ l9 ∧ l9 < 6) (hv : 0 ≤ n l9 0 ∧ n l9 0 < 387420489) (hw : (w ++ nam (n l9 0)).length ≤ 200) : MD G l yX8_writeName cX8_writeName 5 none 2 0 0 [.ref o, .int (zI l9)] [ob o 10 (shM A 1) (up I 22 (((w).length : Nat) : Int)), fam G A (uN N 1 (n)), ar G 1 (A 21) 200 (w).length (oF (w))] none [ob o 10 (shM A 1) (up I 22 (((w ++ nam (n l9 0)).length : Nat) : Int)), fam G A (uN N 1 (n)), ar G 1 (A 21) 200 (w ++ nam (n l9 0)).length (oF (w ++ nam (n l9 0)))] := by
  refine MX_of (lv := [some (.ref o), some (.int (zI l9)), none, none, none]) hK (by decide +kernel) rfl (nle rfl) (fun X C F => ?_)
  have C : OKc G X l RX8 "writeName" cX8_writeName 5 none 2 0 0 := C
  have hr : rok 1 := Or.inl rfl
  have loop2 : ∀ (f m : Nat) (u : Int) (w' : List Int), m < f → pw 27 m ≤ 1000000000 → w' ++ (if 0 < n l9 0 then dgQ 27 96 (n l9 0) m else []) = w ++ nam (n l9 0) → WX G X 0 0 [ob o 10 (shM A 1) (up I 22 (((w').length : Nat) : Int)), fam G A (uN N 1 (n)), ar G 1 (A 21) 200 (w').length (oF (w'))] 28 [some (.ref o), some (.int (zI l9)), some (.int (zI (n l9 0))), some (.int (zI u)), some (.int (zI (pw 27 m)))] [] := by
    intro f
    induction f with
    | zero => intro m u w' h0; exfalso; omega
    | succ f ih =>
      intro m u w' h0 hu h1
      have hl := congrArg List.length h1
      have hp0 := pw_nn 27 m
      refine x_iload C eX8_writeName_28 rfl ?_
      refine x_if_le 61 C eX8_writeName_30 rfl (by omega) (fun h30 => ?_) (fun h30 => ?_)
      · cases m with
        | succ m' => exact absurd (pw_pos (q := 27) (by decide) m') (by omega)
        | zero =>
        skip
        refine x_vret C F eX8_writeName_61 () rfl trivial (fun cf c h => ?_) (nle rfl) (nle rfl)
        rw [← h1]
        first
          | (rw [if_neg (by omega), List.append_nil]; exact WF_pick [0, 1, 2] rfl rfl h)
          | (rw [show (if 0 < n l9 0 then dgQ 27 96 (n l9 0) 0 else []) = ([] : List Int) from by split <;> rfl, List.append_nil]; exact WF_pick [0, 1, 2] rfl rfl h)
      · cases m with
        | zero => exact absurd h30 (by decide)
        | succ m' =>
        have hu2 : pw 27 m' ≤ 1000000000 := by
          have h3 := pw_div (q := 27) (by decide) m'
          omega
        have hq0 : 0 ≤ n l9 0 / pw 27 (m' + 1) := Int.ediv_nonneg (by omega) (by omega)
        have hq1 : n l9 0 / pw 27 (m' + 1) ≤ n l9 0 := Int.ediv_le_self _ (by omega)
        refine x_iload_n C eX8_writeName_33 rfl ?_
        refine x_if_le 61 C eX8_writeName_34 rfl (by omega) (fun h34 => ?_) (fun h34 => ?_)
        · refine x_vret C F eX8_writeName_61 () rfl trivial (fun cf c h => ?_) (nle rfl) (nle rfl)
          rw [← h1]
          first
            | (rw [if_neg (by omega), List.append_nil]; exact WF_pick [0, 1, 2] rfl rfl h)
            | (rw [show (if 0 < n l9 0 then dgQ 27 96 (n l9 0) 0 else []) = ([] : List Int) from by split <;> rfl, List.append_nil]; exact WF_pick [0, 1, 2] rfl rfl h)
        · rw [if_pos h34] at h1
          rw [if_pos h34, List.length_append, dgQ_len] at hl
          refine x_aload_n C eX8_writeName_37 rfl ?_
          refine x_bipush C eX8_writeName_38 rfl ?_
          refine x_iload_n C eX8_writeName_40 rfl ?_
          refine x_iload C eX8_writeName_41 rfl ?_
          refine x_idiv C eX8_writeName_43 (by omega) ?_
          refine x_bipush C eX8_writeName_44 rfl ?_
          refine x_irem C eX8_writeName_46 (by omega) ?_
          refine x_iadd C eX8_writeName_47 ?_
          refine yV1v [_] [_, _, _] C (s_X8_write hK (by omega) (by omega)) v_X8_write vv_X8_write s_RX8_376 eX8_writeName_48 (fun _ _ h => WF_pick [0, 2, 1] rfl rfl h) (rcv 0 rfl) rfl (nle rfl) (nle rfl) (nle rfl) (nle rfl) rfl ?_
          refine x_iload C eX8_writeName_51 rfl ?_
          refine x_bipush C eX8_writeName_53 rfl ?_
          refine x_idiv C eX8_writeName_55 (by omega) ?_
          refine x_istore [_, _, _, _, _] C eX8_writeName_56 rfl rfl (nlt rfl) ?_
          refine x_goto (pc' := 28) C eX8_writeName_58 rfl ?_
          rw [show pw 27 (m' + 1) / 27 = pw 27 m' from pw_div (by decide) m']
          refine x_pick [_, _, _] [0, 2, 1] rfl rfl ?_
          exact ih m' u (w' ++ [96 + n l9 0 / pw 27 (m' + 1) % 27]) (by omega) hu2 (by rw [if_pos h34, List.append_assoc]; exact h1)
  have loop1 : ∀ (f k : Nat), k + f = 10 → top 27 (n l9 0) f k = top 27 (n l9 0) 10 0 → pw 27 (k + 1) ≤ 1000000000 → WX G X 0 0 [ob o 10 (shM A 1) (up I 22 (((w).length : Nat) : Int)), fam G A (uN N 1 (n)), ar G 1 (A 21) 200 (w).length (oF (w))] 9 [some (.ref o), some (.int (zI l9)), some (.int (zI (n l9 0))), some (.int (zI (pw 27 (k + 1)))), none] [] := by
    intro f
    induction f with
    | zero =>
      intro k h0 h1 h2
      obtain rfl : k = 10 := by omega
      exact absurd h2 (by decide)
    | succ f ih =>
      intro k h0 h1 h2
      have hp := pw_pos (q := 27) (by decide) k
      have hq0 : 0 ≤ n l9 0 / pw 27 (k + 1) := Int.ediv_nonneg (by omega) (by omega)
      have hq1 : n l9 0 / pw 27 (k + 1) ≤ n l9 0 := Int.ediv_le_self _ (by omega)
      have hq2 := @Int.le_ediv_iff_mul_le 27 (n l9 0) (pw 27 (k + 1)) hp
      have hq3 : 27 * pw 27 (k + 1) = pw 27 (k + 1 + 1) := by
        rw [← pw_mul]
        exact Int.mul_comm _ _
      have hq4 : pw 27 (k + 1) * 27 = pw 27 (k + 1 + 1) := pw_mul
      refine x_iload_n C eX8_writeName_9 rfl ?_
      refine x_iload_n C eX8_writeName_10 rfl ?_
      refine x_idiv C eX8_writeName_11 (by omega) ?_
      refine x_bipush C eX8_writeName_12 rfl ?_
      refine x_icmp_lt 25 C eX8_writeName_14 rfl (by omega) (by omega) (fun h14 => ?_) (fun h14 => ?_)
      · refine x_iload_n C eX8_writeName_25 rfl ?_
        refine x_istore [_, _, _, _, _] C eX8_writeName_26 rfl rfl (nlt rfl) ?_
        have ht : top 27 (n l9 0) 10 0 = k := by
          rw [← h1]
          exact if_pos (by omega)
        exact loop2 12 (k + 1) _ w (by omega) h2 (by unfold nam; rw [ht])
      · refine x_iload_n C eX8_writeName_17 rfl ?_
        refine x_bipush C eX8_writeName_18 rfl ?_
        refine x_imul C eX8_writeName_20 ?_
        refine x_istore_n [_, _, _, _, _] C eX8_writeName_21 rfl rfl (nlt rfl) ?_
        refine x_goto (pc' := 9) C eX8_writeName_22 rfl ?_
        rw [hq4]
        exact ih (k + 1) (by omega) (by rw [← h1]; exact (if_neg (by omega)).symm) (by omega)
  refine x_aload_n C eX8_writeName_0 rfl ?_
  refine x_iload_n C eX8_writeName_1 rfl ?_
  refine x_iconst C eX8_writeName_2 ?_
  refine yV2r [_] [_, _, _] C (s_X8_of hK hr (by omega) (by omega)) v_X8_of vv_X8_of s_RX8_64 eX8_writeName_3 (fun _ _ h => WF_pick [0, 1, 2] rfl rfl h) (rcv 0 rfl) rfl (nle rfl) (nle rfl) (nle rfl) (nle rfl) rfl ?_
  refine x_istore_n [_, _, _, _, _] C eX8_writeName_6 rfl rfl (nlt rfl) ?_
  refine x_iconst C eX8_writeName_7 ?_
  refine x_istore_n [_, _, _, _, _] C eX8_writeName_8 rfl rfl (nlt rfl) ?_
  exact loop1 10 0 rfl rfl (by decide)

set_option maxHeartbeats 4000000 in
set_option maxRecDepth 100000 in
theorem s_X8_writeCounts {G : Gm} {l : Launch} (hK : KG G) {o : Nat} {A : Nat → Nat} {I : Nat → Int} {N : Nat → Net} {n : Net} {b : Int} {l9 : Int} {w : List Int} (hN : NetOk b n) (hb : b ≤ 900000000) (r_l9 : -2147483648 ≤ l9 ∧ l9 < 2147483648) : MD G l yX8_writeCounts cX8_writeCounts 3 (some .int) 4 0 0 [.ref o, .int (zI l9)] [ob o 10 (shM A 1) I, fam G A (uN N 1 (n)), ar G 1 (A 21) 200 (w).length (oF (w))] (some (.int (zI (if (0 ≤ l9 ∧ l9 ≤ n (-1) 0 - 1) ∧ (True) ∧ (True) then ((cntS n l9 8).length : Nat) else 0)))) [ob o 10 (shM A 1) (if (0 ≤ l9 ∧ l9 ≤ n (-1) 0 - 1) ∧ (True) ∧ (True) then up (up I 0 (thr (0 ≤ l9 ∧ l9 ≤ n (-1) 0 - 1) (True) (True))) 22 ((cntS n l9 8).length : Nat) else up I 0 (thr (0 ≤ l9 ∧ l9 ≤ n (-1) 0 - 1) (True) (True))), fam G A (uN N 1 (n)), ar G 1 (A 21) 200 (if (0 ≤ l9 ∧ l9 ≤ n (-1) 0 - 1) ∧ (True) ∧ (True) then cntS n l9 8 else w).length (oF (if (0 ≤ l9 ∧ l9 ≤ n (-1) 0 - 1) ∧ (True) ∧ (True) then cntS n l9 8 else w))] := by
  refine MX_of (lv := [some (.ref o), some (.int (zI l9)), none]) hK (by decide +kernel) rfl (nle rfl) (fun X C F => ?_)
  have C : OKc G X l RX8 "writeCounts" cX8_writeCounts 3 (some .int) 4 0 0 := C
  have hH := hN.1
  unfold HeadOk at hH
  have hr : rok 1 := Or.inl rfl
  have loop : (0 ≤ l9 ∧ l9 ≤ n (-1) 0 - 1) ∧ (True) ∧ (True) → ∀ (f k : Nat), k ≤ 8 → 8 < k + f → WX G X 0 0 [ob o 10 (shM A 1) (up (up I 0 (thr (0 ≤ l9 ∧ l9 ≤ n (-1) 0 - 1) (True) (True))) 22 (((cntS n l9 k).length : Nat) : Int)), fam G A (uN N 1 (n)), ar G 1 (A 21) 200 (cntS n l9 k).length (oF (cntS n l9 k))] 21 [some (.ref o), some (.int (zI l9)), some (.int (zI k))] [] := by
    intro hP f
    induction f with
    | zero => intro k h0 h1; exfalso; omega
    | succ f ih =>
      intro k h0 h1
      have hL := hN.2.2 l9 (by omega) (by omega)
      have hc := fun k u v => LineOk_c hL (k := k) u v
      have g1 := cntS_len hc hb k (by omega)
      have g2 := cntS_len hc hb (k + 1) (by omega)
      have g3 := hc (16 + k) (by omega) (by omega)
      have g4 : (if 0 < (k : Int) then cntS n l9 k ++ [44] else cntS n l9 k).length ≤ 150 := by
        split
        · rw [List.length_append]; show _ + 1 ≤ _; omega
        · omega
      refine x_iload_n C eX8_writeCounts_21 rfl ?_
      refine x_bipush C eX8_writeCounts_22 rfl ?_
      refine x_icmp_gt 58 C eX8_writeCounts_24 rfl (by omega) (by omega) (fun h24 => ?_) (fun h24 => ?_)
      · refine x_aload_n C eX8_writeCounts_58 rfl ?_
        refine x_getI 0 C f_RX8_373 eX8_writeCounts_59 rfl rfl ?_
        simp only [up_lit, if_true, if_false]
        refine x_iret (by first | rfl | exact (narZ (by omega)).1) C F eX8_writeCounts_62 () ?_ trivial (fun cf c h => ?_) (nle rfl) (nle rfl)
        · rw [if_pos hP, show k = 8 by omega]
        · rw [if_pos hP, if_pos hP]
          obtain rfl : k = 8 := by omega
          exact WF_pick [0, 1, 2] rfl rfl h
      · refine x_aload_n C eX8_writeCounts_27 rfl ?_
        refine x_iload_n C eX8_writeCounts_28 rfl ?_
        refine x_if_le 36 C eX8_writeCounts_29 rfl (by omega) (fun h29 => ?_) (fun h29 => ?_)
        · refine x_iconst C eX8_writeCounts_36 ?_
          refine x_bipush C eX8_writeCounts_37 rfl ?_
          refine yV2v [_] [_, _, _] C (s_X8_writeIf hK (0 < (k : Int)) (by first | rfl | rw [bz_t (by omega)] | rw [bz_f (by omega)]) (by omega) (by omega)) v_X8_writeIf vv_X8_writeIf s_RX8_379 eX8_writeCounts_39 (fun _ _ h => WF_pick [0, 2, 1] rfl rfl h) (rcv 0 rfl) rfl (nle rfl) (nle rfl) (nle rfl) (nle rfl) rfl ?_
          refine x_aload_n C eX8_writeCounts_42 rfl ?_
          refine x_aload_n C eX8_writeCounts_43 rfl ?_
          refine x_iload_n C eX8_writeCounts_44 rfl ?_
          refine x_iload_n C eX8_writeCounts_45 rfl ?_
          refine yV2r [_] [_, _, _] C (s_X8_counted hK hr (by omega) (by omega)) v_X8_counted vv_X8_counted s_RX8_111 eX8_writeCounts_46 (fun _ _ h => WF_pick [0, 2, 1] rfl rfl h) (rcv 0 rfl) rfl (nle rfl) (nle rfl) (nle rfl) (nle rfl) rfl ?_
          skip
          refine yV1v [_] [_, _, _] C (s_X8_writeInt hK ⟨g3.1, by omega⟩ (by show (cntS n l9 (k + 1)).length ≤ 200; omega)) v_X8_writeInt vv_X8_writeInt s_RX8_385 eX8_writeCounts_49 (fun _ _ h => WF_pick [0, 2, 1] rfl rfl h) (rcv 0 rfl) rfl (nle rfl) (nle rfl) (nle rfl) (nle rfl) rfl ?_
          refine x_iinc [_, _, _] C eX8_writeCounts_52 rfl rfl rfl ?_
          refine x_goto (pc' := 21) C eX8_writeCounts_55 rfl ?_
          refine x_pick [_, _, _] [0, 2, 1] rfl rfl ?_
          exact ih (k + 1) (by omega) (by omega)
        · refine x_iconst C eX8_writeCounts_32 ?_
          refine x_goto (pc' := 37) C eX8_writeCounts_33 rfl ?_
          refine x_bipush C eX8_writeCounts_37 rfl ?_
          refine yV2v [_] [_, _, _] C (s_X8_writeIf hK (0 < (k : Int)) (by first | rfl | rw [bz_t (by omega)] | rw [bz_f (by omega)]) (by omega) (by omega)) v_X8_writeIf vv_X8_writeIf s_RX8_379 eX8_writeCounts_39 (fun _ _ h => WF_pick [0, 2, 1] rfl rfl h) (rcv 0 rfl) rfl (nle rfl) (nle rfl) (nle rfl) (nle rfl) rfl ?_
          refine x_aload_n C eX8_writeCounts_42 rfl ?_
          refine x_aload_n C eX8_writeCounts_43 rfl ?_
          refine x_iload_n C eX8_writeCounts_44 rfl ?_
          refine x_iload_n C eX8_writeCounts_45 rfl ?_
          refine yV2r [_] [_, _, _] C (s_X8_counted hK hr (by omega) (by omega)) v_X8_counted vv_X8_counted s_RX8_111 eX8_writeCounts_46 (fun _ _ h => WF_pick [0, 2, 1] rfl rfl h) (rcv 0 rfl) rfl (nle rfl) (nle rfl) (nle rfl) (nle rfl) rfl ?_
          skip
          refine yV1v [_] [_, _, _] C (s_X8_writeInt hK ⟨g3.1, by omega⟩ (by show (cntS n l9 (k + 1)).length ≤ 200; omega)) v_X8_writeInt vv_X8_writeInt s_RX8_385 eX8_writeCounts_49 (fun _ _ h => WF_pick [0, 2, 1] rfl rfl h) (rcv 0 rfl) rfl (nle rfl) (nle rfl) (nle rfl) (nle rfl) rfl ?_
          refine x_iinc [_, _, _] C eX8_writeCounts_52 rfl rfl rfl ?_
          refine x_goto (pc' := 21) C eX8_writeCounts_55 rfl ?_
          refine x_pick [_, _, _] [0, 2, 1] rfl rfl ?_
          exact ih (k + 1) (by omega) (by omega)
  refine x_aload_n C eX8_writeCounts_0 rfl ?_
  refine x_aload_n C eX8_writeCounts_1 rfl ?_
  refine x_iload_n C eX8_writeCounts_2 rfl ?_
  refine yV1r [_] [_, _, _] C (s_X8_isLine hK hr (by (try simp (disch := omega) only [Int.reduceAdd, uN_s, uN_uN, un_s, un_un, un_n, ub_s, ub_n, inc, bStop_n, bDrop_s, bDrop_n, unub_n, nLog_n, nLog_h, Int.sub_add_cancel]); omega) (by (try simp (disch := omega) only [Int.reduceAdd, uN_s, uN_uN, un_s, un_un, un_n, ub_s, ub_n, inc, bStop_n, bDrop_s, bDrop_n, unub_n, nLog_n, nLog_h, Int.sub_add_cancel]); omega)) v_X8_isLine vv_X8_isLine s_RX8_299 eX8_writeCounts_3 (fun _ _ h => WF_pick [0, 1, 2] rfl rfl h) (rcv 0 rfl) rfl (nle rfl) (nle rfl) (nle rfl) (nle rfl) rfl ?_
  refine yV1r [_, _] [_, _, _] C (s_X8_passesv hK (0 ≤ l9 ∧ l9 ≤ n (-1) 0 - 1) (by first | rfl | rw [bz_t (by omega)] | rw [bz_f (by omega)])) v_X8_passes vv_X8_passes s_RX8_142 eX8_writeCounts_6 (fun _ _ h => WF_pick [0, 1, 2] rfl rfl h) (rcv 0 rfl) rfl (nle rfl) (nle rfl) (nle rfl) (nle rfl) rfl ?_
  skip
  refine x_ifb_ne 14 C eX8_writeCounts_9 rfl (fun h9 => ?_) (fun h9 => ?_)
  · refine x_aload_n C eX8_writeCounts_14 rfl ?_
    refine x_iconst C eX8_writeCounts_15 ?_
    refine x_putI [_, _, _] 0 C f_RX8_373 eX8_writeCounts_16 rfl rfl rfl ?_
    refine x_iconst C eX8_writeCounts_19 ?_
    refine x_istore_n [_, _, _] C eX8_writeCounts_20 rfl rfl (nlt rfl) ?_
    refine x_ws [ob o 10 (shM A 1) (up (up I 0 (thr (0 ≤ l9 ∧ l9 ≤ n (-1) 0 - 1) (True) (True))) 22 ((([] : List Int).length : Nat) : Int)), fam G A (uN N 1 (n)), ar G 1 (A 21) 200 (([] : List Int)).length (oF (([] : List Int)))] (fun cf c hw => PW.wf (PW_cons (fun _ h => h) (PW_cons (fun _ h => h) (PW_cons (fun _ h => ar_congr (Nat.zero_le _) (fun j hj => absurd hj (Nat.not_lt_zero j)) h) PW_nil))) hw) ?_
    exact loop h9 20 0 (by omega) (by omega)
  · refine x_iconst C eX8_writeCounts_12 ?_
    refine x_iret (by first | rfl | exact (narZ (by omega)).1) C F eX8_writeCounts_13 () ?_ trivial (fun cf c h => ?_) (nle rfl) (nle rfl)
    · rw [if_neg h9]
    · rw [if_neg h9, if_neg h9]
      exact WF_pick [0, 1, 2] rfl rfl h
