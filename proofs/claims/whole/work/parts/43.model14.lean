set_option maxHeartbeats 4000000 in
set_option maxRecDepth 100000 in
theorem s_X8_writeInt {G : Gm} {l : Launch} (hK : KG G) {o : Nat} {A : Nat → Nat} {I : Nat → Int} {w : List Int} {v9 : Int} (hv : 0 ≤ v9 ∧ v9 < 1000000000) (hw : (w ++ dec v9).length ≤ 200) : MD G l yX8_writeInt cX8_writeInt 4 none 2 0 0 [.ref o, .int (zI v9)] [ob o 10 (shM A 1) (up I 22 (((w).length : Nat) : Int)), ar G 1 (A 21) 200 (w).length (oF (w))] none [ob o 10 (shM A 1) (up I 22 (((w ++ dec v9).length : Nat) : Int)), ar G 1 (A 21) 200 (w ++ dec v9).length (oF (w ++ dec v9))] := by
  refine MX_of (lv := [some (.ref o), some (.int (zI v9)), none, none]) hK (by decide +kernel) rfl (nle rfl) (fun X C F => ?_)
  have C : OKc G X l RX8 "writeInt" cX8_writeInt 4 none 2 0 0 := C
  have loop2 : ∀ (f m : Nat) (u : Int) (w' : List Int), m < f → pw 10 m ≤ 1000000000 → w' ++ dgQ 10 48 (v9) m = w ++ dec v9 → WX G X 0 0 [ob o 10 (shM A 1) (up I 22 (((w').length : Nat) : Int)), ar G 1 (A 21) 200 (w').length (oF (w'))] 20 [some (.ref o), some (.int (zI v9)), some (.int (zI u)), some (.int (zI (pw 10 m)))] [] := by
    intro f
    induction f with
    | zero => intro m u w' h0; exfalso; omega
    | succ f ih =>
      intro m u w' h0 hu h1
      have hl := congrArg List.length h1
      rw [List.length_append, dgQ_len] at hl
      have hp0 := pw_nn 10 m
      refine x_iload_n C eX8_writeInt_20 rfl ?_
      refine x_if_le 45 C eX8_writeInt_21 rfl (by omega) (fun h21 => ?_) (fun h21 => ?_)
      · cases m with
        | succ m' => exact absurd (pw_pos (q := 10) (by decide) m') (by omega)
        | zero =>
        skip
        refine x_vret C F eX8_writeInt_45 () rfl trivial (fun cf c h => ?_) (nle rfl) (nle rfl)
        rw [← h1, show w' ++ dgQ 10 48 v9 0 = w' from List.append_nil _]
        exact WF_pick [0, 1] rfl rfl h
      · cases m with
        | zero => exact absurd h21 (by decide)
        | succ m' =>
        have hu2 : pw 10 m' ≤ 1000000000 := by
          have h3 := pw_div (q := 10) (by decide) m'
          omega
        have hq0 : 0 ≤ v9 / pw 10 (m' + 1) := Int.ediv_nonneg (by omega) (by omega)
        have hq1 : v9 / pw 10 (m' + 1) ≤ v9 := Int.ediv_le_self _ (by omega)
        refine x_aload_n C eX8_writeInt_24 rfl ?_
        refine x_bipush C eX8_writeInt_25 rfl ?_
        refine x_iload_n C eX8_writeInt_27 rfl ?_
        refine x_iload_n C eX8_writeInt_28 rfl ?_
        refine x_idiv C eX8_writeInt_29 (by omega) ?_
        refine x_bipush C eX8_writeInt_30 rfl ?_
        refine x_irem C eX8_writeInt_32 (by omega) ?_
        refine x_iadd C eX8_writeInt_33 ?_
        refine yV1v [] [_, _] C (s_X8_write hK (by omega) (by omega)) v_X8_write vv_X8_write s_RX8_376 eX8_writeInt_34 (fun _ _ h => WF_pick [0, 1] rfl rfl h) (rcv 0 rfl) rfl (nle rfl) (nle rfl) (nle rfl) (nle rfl) rfl ?_
        refine x_iload_n C eX8_writeInt_37 rfl ?_
        refine x_bipush C eX8_writeInt_38 rfl ?_
        refine x_idiv C eX8_writeInt_40 (by omega) ?_
        refine x_istore_n [_, _, _, _] C eX8_writeInt_41 rfl rfl (nlt rfl) ?_
        refine x_goto (pc' := 20) C eX8_writeInt_42 rfl ?_
        rw [show pw 10 (m' + 1) / 10 = pw 10 m' from pw_div (by decide) m']
        exact ih m' u _ (by omega) hu2 (by rw [List.append_assoc]; exact h1)
  have loop1 : ∀ (f k : Nat), k + f = 10 → top 10 (v9) f k = top 10 (v9) 10 0 → pw 10 (k + 1) ≤ 1000000000 → WX G X 0 0 [ob o 10 (shM A 1) (up I 22 (((w).length : Nat) : Int)), ar G 1 (A 21) 200 (w).length (oF (w))] 2 [some (.ref o), some (.int (zI v9)), some (.int (zI (pw 10 (k + 1)))), none] [] := by
    intro f
    induction f with
    | zero =>
      intro k h0 h1 h2
      obtain rfl : k = 10 := by omega
      exact absurd h2 (by decide)
    | succ f ih =>
      intro k h0 h1 h2
      have hp := pw_pos (q := 10) (by decide) k
      have hq0 : 0 ≤ v9 / pw 10 (k + 1) := Int.ediv_nonneg (by omega) (by omega)
      have hq1 : v9 / pw 10 (k + 1) ≤ v9 := Int.ediv_le_self _ (by omega)
      have hq2 := @Int.le_ediv_iff_mul_le 10 (v9) (pw 10 (k + 1)) hp
      have hq3 : 10 * pw 10 (k + 1) = pw 10 (k + 1 + 1) := by
        rw [← pw_mul]
        exact Int.mul_comm _ _
      have hq4 : pw 10 (k + 1) * 10 = pw 10 (k + 1 + 1) := pw_mul
      refine x_iload_n C eX8_writeInt_2 rfl ?_
      refine x_iload_n C eX8_writeInt_3 rfl ?_
      refine x_idiv C eX8_writeInt_4 (by omega) ?_
      refine x_bipush C eX8_writeInt_5 rfl ?_
      refine x_icmp_lt 18 C eX8_writeInt_7 rfl (by omega) (by omega) (fun h7 => ?_) (fun h7 => ?_)
      · refine x_iload_n C eX8_writeInt_18 rfl ?_
        refine x_istore_n [_, _, _, _] C eX8_writeInt_19 rfl rfl (nlt rfl) ?_
        have ht : top 10 v9 10 0 = k := by
          rw [← h1]
          exact if_pos (by omega)
        exact loop2 12 (k + 1) _ w (by omega) h2 (by unfold dec; rw [ht])
      · refine x_iload_n C eX8_writeInt_10 rfl ?_
        refine x_bipush C eX8_writeInt_11 rfl ?_
        refine x_imul C eX8_writeInt_13 ?_
        refine x_istore_n [_, _, _, _] C eX8_writeInt_14 rfl rfl (nlt rfl) ?_
        refine x_goto (pc' := 2) C eX8_writeInt_15 rfl ?_
        rw [hq4]
        exact ih (k + 1) (by omega) (by rw [← h1]; exact (if_neg (by omega)).symm) (by omega)
  refine x_iconst C eX8_writeInt_0 ?_
  refine x_istore_n [_, _, _, _] C eX8_writeInt_1 rfl rfl (nlt rfl) ?_
  exact loop1 10 0 rfl rfl (by decide)
