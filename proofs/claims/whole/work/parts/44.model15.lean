set_option maxHeartbeats 4000000 in
set_option maxRecDepth 100000 in
theorem s_X8_writeLog {G : Gm} {l : Launch} (hK : KG G) {o : Nat} {A : Nat → Nat} {I : Nat → Int} {N : Nat → Net} {n : Net} {b : Int} {w : List Int} (hN : NetOk b n) (hb : b ≤ 900000000) : MD G l yX8_writeLog cX8_writeLog 2 (some .int) 4 0 0 [.ref o] [ob o 10 (shM A 1) I, fam G A (uN N 1 (n)), ar G 1 (A 21) 200 (w).length (oF (w))] (some (.int (zI (((logS n (min 20 (n (-1) 7)).toNat).length : Nat) : Int)))) [ob o 10 (shM A 1) (up (up I 0 0) 22 (((logS n (min 20 (n (-1) 7)).toNat).length : Nat) : Int)), fam G A (uN N 1 (n)), ar G 1 (A 21) 200 (logS n (min 20 (n (-1) 7)).toNat).length (oF (logS n (min 20 (n (-1) 7)).toNat))] := by
  refine MX_of (lv := [some (.ref o), none]) hK (by decide +kernel) rfl (nle rfl) (fun X C F => ?_)
  have C : OKc G X l RX8 "writeLog" cX8_writeLog 2 (some .int) 4 0 0 := C
  have hH := hN.1
  unfold HeadOk at hH
  have hr : rok 1 := Or.inl rfl
  have loop : ∀ (f m : Nat) (w' : List Int), m < f → (m : Int) ≤ 20 → (m : Int) ≤ n (-1) 7 → w' ++ logS n m = logS n (min 20 (n (-1) 7)).toNat → w'.length + 3 * m ≤ 60 → WX G X 0 0 [ob o 10 (shM A 1) (up (up I 0 0) 22 (((w').length : Nat) : Int)), fam G A (uN N 1 (n)), ar G 1 (A 21) 200 (w').length (oF (w'))] 22 [some (.ref o), some (.int (zI ((m : Int) - 1)))] [] := by
    intro f
    induction f with
    | zero => intro m w' h0; exfalso; omega
    | succ f ih =>
      intro m w' h0 h1 h2 h3 h4
      refine x_iload_n C eX8_writeLog_22 rfl ?_
      refine x_if_lt 73 C eX8_writeLog_23 rfl (by omega) (fun h23 => ?_) (fun h23 => ?_)
      · cases m with
        | succ m' => exact absurd h23 (by omega)
        | zero =>
        skip
        refine x_aload_n C eX8_writeLog_73 rfl ?_
        refine x_getI 0 C f_RX8_373 eX8_writeLog_74 rfl rfl ?_
        simp only [up_lit, if_true, if_false]
        refine x_iret (by first | rfl | exact (narZ (by omega)).1) C F eX8_writeLog_77 () ?_ trivial (fun cf c h => ?_) (nle rfl) (nle rfl)
        · rw [← h3, show w' ++ logS n 0 = w' from List.append_nil _]
        · rw [← h3, show w' ++ logS n 0 = w' from List.append_nil _]
          exact WF_pick [0, 1, 2] rfl rfl h
      · cases m with
        | zero => exact absurd h23 (by decide)
        | succ m' =>
        have hG := hN.2.1 (((m' + 1 : Nat) : Int) - 1) (by omega) (by omega)
        have s1 := len_app (w := w') (Nat.le_refl _) (dec_len1 (v := n (-2) (5 * (((m' + 1 : Nat) : Int) - 1) + 1)) (by omega))
        have s2 := len_app (a := [94]) s1 (Nat.le_refl _)
        have s3 := len_app s2 (dec_len1 (v := n (-2) (5 * (((m' + 1 : Nat) : Int) - 1) + 2)) (by omega))
        have e9 : ([94] : List Int).length = 1 := rfl
        refine x_aload_n C eX8_writeLog_26 rfl ?_
        refine x_aload_n C eX8_writeLog_27 rfl ?_
        refine x_iload_n C eX8_writeLog_28 rfl ?_
        refine x_iconst C eX8_writeLog_29 ?_
        refine yV2r [_] [_, _, _] C (s_X8_ofLog hK (by omega)) v_X8_ofLog vv_X8_ofLog s_RX8_316 eX8_writeLog_30 (fun _ _ h => WF_pick [0, 1, 2] rfl rfl h) (rcv 0 rfl) rfl (nle rfl) (nle rfl) (nle rfl) (nle rfl) rfl ?_
        skip
        refine yV1v [_] [_, _, _] C (s_X8_writeInt hK (by omega) (by omega)) v_X8_writeInt vv_X8_writeInt s_RX8_385 eX8_writeLog_33 (fun _ _ h => WF_pick [0, 2, 1] rfl rfl h) (rcv 0 rfl) rfl (nle rfl) (nle rfl) (nle rfl) (nle rfl) rfl ?_
        refine x_aload_n C eX8_writeLog_36 rfl ?_
        refine x_iload_n C eX8_writeLog_37 rfl ?_
        refine x_iconst C eX8_writeLog_38 ?_
        refine yV2r [_] [_, _, _] C (s_X8_ofLog hK (by omega)) v_X8_ofLog vv_X8_ofLog s_RX8_316 eX8_writeLog_39 (fun _ _ h => WF_pick [0, 2, 1] rfl rfl h) (rcv 0 rfl) rfl (nle rfl) (nle rfl) (nle rfl) (nle rfl) rfl ?_
        skip
        refine x_aload_n C eX8_writeLog_42 rfl ?_
        refine x_iload_n C eX8_writeLog_43 rfl ?_
        refine x_iconst C eX8_writeLog_44 ?_
        refine yV2r [_] [_, _, _] C (s_X8_ofLog hK (by omega)) v_X8_ofLog vv_X8_ofLog s_RX8_316 eX8_writeLog_45 (fun _ _ h => WF_pick [0, 1, 2] rfl rfl h) (rcv 0 rfl) rfl (nle rfl) (nle rfl) (nle rfl) (nle rfl) rfl ?_
        skip
        refine x_icmp_eq 67 C eX8_writeLog_48 rfl (by omega) (by omega) (fun h48 => ?_) (fun h48 => ?_)
        · refine x_iinc [_, _] C eX8_writeLog_67 rfl rfl rfl ?_
          refine x_goto (pc' := 22) C eX8_writeLog_70 rfl ?_
          refine x_pick [_, _, _] [0, 1, 2] rfl rfl ?_
          have e1 : ((m' + 1 : Nat) : Int) - 1 = (m' : Int) := by omega
          simp only [e1] at h48 s1 s2 s3 ⊢
          have h5 : logS n (m' + 1) = logE n m' ++ logS n m' := rfl
          rw [h5, ← List.append_assoc] at h3
          unfold logE at h3
          first
            | (rw [if_pos h48] at h3
               exact ih m' (w' ++ dec (n (-2) (5 * (m' : Int) + 1))) (by omega) (by omega) (by omega) h3 (by omega))
            | (rw [if_neg h48, ← List.append_assoc, ← List.append_assoc] at h3
               exact ih m' (w' ++ dec (n (-2) (5 * (m' : Int) + 1)) ++ [94] ++ dec (n (-2) (5 * (m' : Int) + 2))) (by omega) (by omega) (by omega) h3 (by omega))
        · refine x_aload_n C eX8_writeLog_51 rfl ?_
          refine x_bipush C eX8_writeLog_52 rfl ?_
          refine yV1v [_] [_, _, _] C (s_X8_write hK (by omega) (by omega)) v_X8_write vv_X8_write s_RX8_376 eX8_writeLog_54 (fun _ _ h => WF_pick [0, 2, 1] rfl rfl h) (rcv 0 rfl) rfl (nle rfl) (nle rfl) (nle rfl) (nle rfl) rfl ?_
          refine x_aload_n C eX8_writeLog_57 rfl ?_
          refine x_aload_n C eX8_writeLog_58 rfl ?_
          refine x_iload_n C eX8_writeLog_59 rfl ?_
          refine x_iconst C eX8_writeLog_60 ?_
          refine yV2r [_] [_, _, _] C (s_X8_ofLog hK (by omega)) v_X8_ofLog vv_X8_ofLog s_RX8_316 eX8_writeLog_61 (fun _ _ h => WF_pick [0, 2, 1] rfl rfl h) (rcv 0 rfl) rfl (nle rfl) (nle rfl) (nle rfl) (nle rfl) rfl ?_
          skip
          refine yV1v [_] [_, _, _] C (s_X8_writeInt hK (by omega) (by omega)) v_X8_writeInt vv_X8_writeInt s_RX8_385 eX8_writeLog_64 (fun _ _ h => WF_pick [0, 2, 1] rfl rfl h) (rcv 0 rfl) rfl (nle rfl) (nle rfl) (nle rfl) (nle rfl) rfl ?_
          refine x_iinc [_, _] C eX8_writeLog_67 rfl rfl rfl ?_
          refine x_goto (pc' := 22) C eX8_writeLog_70 rfl ?_
          refine x_pick [_, _, _] [0, 2, 1] rfl rfl ?_
          have e1 : ((m' + 1 : Nat) : Int) - 1 = (m' : Int) := by omega
          simp only [e1] at h48 s1 s2 s3 ⊢
          have h5 : logS n (m' + 1) = logE n m' ++ logS n m' := rfl
          rw [h5, ← List.append_assoc] at h3
          unfold logE at h3
          first
            | (rw [if_pos h48] at h3
               exact ih m' (w' ++ dec (n (-2) (5 * (m' : Int) + 1))) (by omega) (by omega) (by omega) h3 (by omega))
            | (rw [if_neg h48, ← List.append_assoc, ← List.append_assoc] at h3
               exact ih m' (w' ++ dec (n (-2) (5 * (m' : Int) + 1)) ++ [94] ++ dec (n (-2) (5 * (m' : Int) + 2))) (by omega) (by omega) (by omega) h3 (by omega))
  refine x_aload_n C eX8_writeLog_0 rfl ?_
  refine x_iconst C eX8_writeLog_1 ?_
  refine x_putI [_, _, _] 0 C f_RX8_3 eX8_writeLog_2 rfl rfl rfl ?_
  refine x_aload_n C eX8_writeLog_5 rfl ?_
  refine x_iconst C eX8_writeLog_6 ?_
  refine x_putI [_, _, _] 0 C f_RX8_373 eX8_writeLog_7 rfl rfl rfl ?_
  refine x_bipush C eX8_writeLog_10 rfl ?_
  refine x_aload_n C eX8_writeLog_12 rfl ?_
  refine yV0r [_] [_, _, _] C (s_X8_logMany hK ) v_X8_logMany vv_X8_logMany s_RX8_311 eX8_writeLog_13 (fun _ _ h => WF_pick [0, 1, 2] rfl rfl h) (rcv 0 rfl) rfl (nle rfl) (nle rfl) (nle rfl) (nle rfl) rfl ?_
  skip
  refine x_min C s_RX8_100 s2_min eX8_writeLog_16 rfl (nle rfl) (nle rfl) (nle rfl) (nle rfl) (by omega) (by omega) ?_
  refine x_iconst C eX8_writeLog_19 ?_
  refine x_isub C eX8_writeLog_20 ?_
  refine x_istore_n [_, _] C eX8_writeLog_21 rfl rfl (nlt rfl) ?_
  refine x_ws [ob o 10 (shM A 1) (up (up I 0 0) 22 ((([] : List Int).length : Nat) : Int)), fam G A (uN N 1 (n)), ar G 1 (A 21) 200 (([] : List Int)).length (oF (([] : List Int)))] (fun cf c hw => PW.wf (PW_cons (fun _ h => h) (PW_cons (fun _ h => h) (PW_cons (fun _ h => ar_congr (Nat.zero_le _) (fun j hj => absurd hj (Nat.not_lt_zero j)) h) PW_nil))) hw) ?_
  have h := loop 21 (min 20 (n (-1) 7)).toNat [] (by omega) (by omega) (by omega) rfl (by show 0 + _ ≤ _; omega)
  rw [show (((min 20 (n (-1) 7)).toNat : Nat) : Int) = min 20 (n (-1) 7) by omega] at h
  exact h

set_option maxHeartbeats 4000000 in
set_option maxRecDepth 100000 in
theorem s_X8_writeQueues {G : Gm} {l : Launch} (hK : KG G) {o : Nat} {A : Nat → Nat} {I : Nat → Int} {N : Nat → Net} {n : Net} {b : Int} {w : List Int} (hN : NetOk b n) (hb : b ≤ 900000000) : MD G l yX8_writeQueues cX8_writeQueues 2 (some .int) 4 0 0 [.ref o] [ob o 10 (shM A 1) I, fam G A (uN N 1 (n)), ar G 1 (A 21) 200 (w).length (oF (w))] (some (.int (zI (((queS n (n (-1) 0).toNat).length : Nat) : Int)))) [ob o 10 (shM A 1) (up (up I 0 0) 22 (((queS n (n (-1) 0).toNat).length : Nat) : Int)), fam G A (uN N 1 (n)), ar G 1 (A 21) 200 (queS n (n (-1) 0).toNat).length (oF (queS n (n (-1) 0).toNat))] := by
  refine MX_of (lv := [some (.ref o), none]) hK (by decide +kernel) rfl (nle rfl) (fun X C F => ?_)
  have C : OKc G X l RX8 "writeQueues" cX8_writeQueues 2 (some .int) 4 0 0 := C
  have hH := hN.1
  unfold HeadOk at hH
  have hr : rok 1 := Or.inl rfl
  have loop : ∀ (f k : Nat), (k : Int) ≤ n (-1) 0 → n (-1) 0 < k + f → (queS n k).length ≤ 16 * k → WX G X 0 0 [ob o 10 (shM A 1) (up (up I 0 0) 22 (((queS n k).length : Nat) : Int)), fam G A (uN N 1 (n)), ar G 1 (A 21) 200 (queS n k).length (oF (queS n k))] 12 [some (.ref o), some (.int (zI k))] [] := by
    intro f
    induction f with
    | zero => intro k h0 h1; exfalso; omega
    | succ f ih =>
      intro k h0 h1 h2
      refine x_iload_n C eX8_writeQueues_12 rfl ?_
      refine x_aload_n C eX8_writeQueues_13 rfl ?_
      refine yV0r [_] [_, _, _] C (s_X8_lines hK hr) v_X8_lines vv_X8_lines s_RX8_68 eX8_writeQueues_14 (fun _ _ h => WF_pick [0, 1, 2] rfl rfl h) (rcv 0 rfl) rfl (nle rfl) (nle rfl) (nle rfl) (nle rfl) rfl ?_
      skip
      refine x_icmp_ge 135 C eX8_writeQueues_17 rfl (by omega) (by omega) (fun h17 => ?_) (fun h17 => ?_)
      · refine x_aload_n C eX8_writeQueues_135 rfl ?_
        refine x_getI 0 C f_RX8_373 eX8_writeQueues_136 rfl rfl ?_
        simp only [up_lit, if_true, if_false]
        refine x_iret (by first | rfl | exact (narZ (by omega)).1) C F eX8_writeQueues_139 () ?_ trivial (fun cf c h => ?_) (nle rfl) (nle rfl)
        · rw [show (n (-1) 0).toNat = k by omega]
        · rw [show (n (-1) 0).toNat = k by omega]
          exact WF_pick [0, 1, 2] rfl rfl h
      · have hL := hN.2.2 k (by omega) (by omega)
        unfold LineOk at hL
        have s1 := len_if (c := 32) (0 < (k : Int)) h2
        have s2 := len_app s1 (nam_len (v := n k 0) (by omega))
        have s3 := len_app (a := [58]) s2 (Nat.le_refl _)
        have s4 := len_app s3 (dec_len2 (v := n k 6) (by omega))
        have s5 := len_app (a := [47]) s4 (Nat.le_refl _)
        have s6 := len_app s5 (dec_len2 (v := n k 7) (by omega))
        have s7 := len_if (c := 104) (0 < n k 9) s6
        have s8 := len_if (c := 115) (n k 10 = 1) s7
        have s9 := len_if (c := 112) (n k 11 = 1) s8
        have e9 : ([58] : List Int).length = 1 := rfl
        have e8 : ([47] : List Int).length = 1 := rfl
        refine x_aload_n C eX8_writeQueues_20 rfl ?_
        refine x_iload_n C eX8_writeQueues_21 rfl ?_
        refine x_if_le 29 C eX8_writeQueues_22 rfl (by omega) (fun h22 => ?_) (fun h22 => ?_)
        · refine x_iconst C eX8_writeQueues_29 ?_
          refine x_bipush C eX8_writeQueues_30 rfl ?_
          refine yV2v [_] [_, _, _] C (s_X8_writeIf hK (0 < (k : Int)) (by first | rfl | rw [bz_t (by omega)] | rw [bz_f (by omega)]) (by omega) (by omega)) v_X8_writeIf vv_X8_writeIf s_RX8_379 eX8_writeQueues_32 (fun _ _ h => WF_pick [0, 2, 1] rfl rfl h) (rcv 0 rfl) rfl (nle rfl) (nle rfl) (nle rfl) (nle rfl) rfl ?_
          refine x_aload_n C eX8_writeQueues_35 rfl ?_
          refine x_iload_n C eX8_writeQueues_36 rfl ?_
          refine yV1v [] [_, _, _] C (s_X8_writeName hK (by omega) (by omega) (by omega)) v_X8_writeName vv_X8_writeName s_RX8_382 eX8_writeQueues_37 (fun _ _ h => WF_pick [0, 2, 1] rfl rfl h) (rcv 0 rfl) rfl (nle rfl) (nle rfl) (nle rfl) (nle rfl) rfl ?_
          refine x_aload_n C eX8_writeQueues_40 rfl ?_
          refine x_bipush C eX8_writeQueues_41 rfl ?_
          refine yV1v [_] [_, _, _] C (s_X8_write hK (by omega) (by omega)) v_X8_write vv_X8_write s_RX8_376 eX8_writeQueues_43 (fun _ _ h => WF_pick [0, 2, 1] rfl rfl h) (rcv 0 rfl) rfl (nle rfl) (nle rfl) (nle rfl) (nle rfl) rfl ?_
          refine x_aload_n C eX8_writeQueues_46 rfl ?_
          refine x_aload_n C eX8_writeQueues_47 rfl ?_
          refine x_iload_n C eX8_writeQueues_48 rfl ?_
          refine x_bipush C eX8_writeQueues_49 rfl ?_
          refine yV2r [_] [_, _, _] C (s_X8_of hK hr (by omega) (by omega)) v_X8_of vv_X8_of s_RX8_64 eX8_writeQueues_51 (fun _ _ h => WF_pick [0, 2, 1] rfl rfl h) (rcv 0 rfl) rfl (nle rfl) (nle rfl) (nle rfl) (nle rfl) rfl ?_
          skip
          refine yV1v [_] [_, _, _] C (s_X8_writeInt hK (by omega) (by omega)) v_X8_writeInt vv_X8_writeInt s_RX8_385 eX8_writeQueues_54 (fun _ _ h => WF_pick [0, 2, 1] rfl rfl h) (rcv 0 rfl) rfl (nle rfl) (nle rfl) (nle rfl) (nle rfl) rfl ?_
          refine x_aload_n C eX8_writeQueues_57 rfl ?_
          refine x_bipush C eX8_writeQueues_58 rfl ?_
          refine yV1v [_] [_, _, _] C (s_X8_write hK (by omega) (by omega)) v_X8_write vv_X8_write s_RX8_376 eX8_writeQueues_60 (fun _ _ h => WF_pick [0, 1, 2] rfl rfl h) (rcv 0 rfl) rfl (nle rfl) (nle rfl) (nle rfl) (nle rfl) rfl ?_
          refine x_aload_n C eX8_writeQueues_63 rfl ?_
          refine x_aload_n C eX8_writeQueues_64 rfl ?_
          refine x_iload_n C eX8_writeQueues_65 rfl ?_
          refine x_bipush C eX8_writeQueues_66 rfl ?_
          refine yV2r [_] [_, _, _] C (s_X8_of hK hr (by omega) (by omega)) v_X8_of vv_X8_of s_RX8_64 eX8_writeQueues_68 (fun _ _ h => WF_pick [0, 2, 1] rfl rfl h) (rcv 0 rfl) rfl (nle rfl) (nle rfl) (nle rfl) (nle rfl) rfl ?_
          skip
          refine yV1v [_] [_, _, _] C (s_X8_writeInt hK (by omega) (by omega)) v_X8_writeInt vv_X8_writeInt s_RX8_385 eX8_writeQueues_71 (fun _ _ h => WF_pick [0, 2, 1] rfl rfl h) (rcv 0 rfl) rfl (nle rfl) (nle rfl) (nle rfl) (nle rfl) rfl ?_
          refine x_aload_n C eX8_writeQueues_74 rfl ?_
          refine x_aload_n C eX8_writeQueues_75 rfl ?_
          refine x_iload_n C eX8_writeQueues_76 rfl ?_
          refine yV1r [_] [_, _, _] C (s_X8_isHeld hK hr (by omega) (by omega)) v_X8_isHeld vv_X8_isHeld s_RX8_83 eX8_writeQueues_77 (fun _ _ h => WF_pick [0, 2, 1] rfl rfl h) (rcv 0 rfl) rfl (nle rfl) (nle rfl) (nle rfl) (nle rfl) rfl ?_
          skip
          refine x_bipush C eX8_writeQueues_80 rfl ?_
          refine yV2v [_] [_, _, _] C (s_X8_writeIf hK (0 < n k 9) (by first | rfl | rw [bz_t (by omega)] | rw [bz_f (by omega)]) (by omega) (by omega)) v_X8_writeIf vv_X8_writeIf s_RX8_379 eX8_writeQueues_82 (fun _ _ h => WF_pick [0, 2, 1] rfl rfl h) (rcv 0 rfl) rfl (nle rfl) (nle rfl) (nle rfl) (nle rfl) rfl ?_
          refine x_aload_n C eX8_writeQueues_85 rfl ?_
          refine x_aload_n C eX8_writeQueues_86 rfl ?_
          refine x_iload_n C eX8_writeQueues_87 rfl ?_
          refine x_bipush C eX8_writeQueues_88 rfl ?_
          refine yV2r [_] [_, _, _] C (s_X8_of hK hr (by omega) (by omega)) v_X8_of vv_X8_of s_RX8_64 eX8_writeQueues_90 (fun _ _ h => WF_pick [0, 2, 1] rfl rfl h) (rcv 0 rfl) rfl (nle rfl) (nle rfl) (nle rfl) (nle rfl) rfl ?_
          skip
          refine x_iconst C eX8_writeQueues_93 ?_
          refine x_icmp_ne 101 C eX8_writeQueues_94 rfl (by omega) (by omega) (fun h94 => ?_) (fun h94 => ?_)
          · refine x_iconst C eX8_writeQueues_101 ?_
            refine x_bipush C eX8_writeQueues_102 rfl ?_
            refine yV2v [_] [_, _, _] C (s_X8_writeIf hK (n k 10 = 1) (by first | rfl | rw [bz_t (by omega)] | rw [bz_f (by omega)]) (by omega) (by omega)) v_X8_writeIf vv_X8_writeIf s_RX8_379 eX8_writeQueues_104 (fun _ _ h => WF_pick [0, 2, 1] rfl rfl h) (rcv 0 rfl) rfl (nle rfl) (nle rfl) (nle rfl) (nle rfl) rfl ?_
            refine x_aload_n C eX8_writeQueues_107 rfl ?_
            refine x_aload_n C eX8_writeQueues_108 rfl ?_
            refine x_iload_n C eX8_writeQueues_109 rfl ?_
            refine x_bipush C eX8_writeQueues_110 rfl ?_
            refine yV2r [_] [_, _, _] C (s_X8_of hK hr (by omega) (by omega)) v_X8_of vv_X8_of s_RX8_64 eX8_writeQueues_112 (fun _ _ h => WF_pick [0, 2, 1] rfl rfl h) (rcv 0 rfl) rfl (nle rfl) (nle rfl) (nle rfl) (nle rfl) rfl ?_
            skip
            refine x_iconst C eX8_writeQueues_115 ?_
            refine x_icmp_ne 123 C eX8_writeQueues_116 rfl (by omega) (by omega) (fun h116 => ?_) (fun h116 => ?_)
            · refine x_iconst C eX8_writeQueues_123 ?_
              refine x_bipush C eX8_writeQueues_124 rfl ?_
              refine yV2v [_] [_, _, _] C (s_X8_writeIf hK (n k 11 = 1) (by first | rfl | rw [bz_t (by omega)] | rw [bz_f (by omega)]) (by omega) (by omega)) v_X8_writeIf vv_X8_writeIf s_RX8_379 eX8_writeQueues_126 (fun _ _ h => WF_pick [0, 2, 1] rfl rfl h) (rcv 0 rfl) rfl (nle rfl) (nle rfl) (nle rfl) (nle rfl) rfl ?_
              refine x_iinc [_, _] C eX8_writeQueues_129 rfl rfl rfl ?_
              refine x_goto (pc' := 12) C eX8_writeQueues_132 rfl ?_
              refine x_pick [_, _, _] [0, 2, 1] rfl rfl ?_
              exact ih (k + 1) (by omega) (by omega) (by
                show (if n k 11 = 1 then _ else _ : List Int).length ≤ _
                omega)
            · refine x_iconst C eX8_writeQueues_119 ?_
              refine x_goto (pc' := 124) C eX8_writeQueues_120 rfl ?_
              refine x_bipush C eX8_writeQueues_124 rfl ?_
              refine yV2v [_] [_, _, _] C (s_X8_writeIf hK (n k 11 = 1) (by first | rfl | rw [bz_t (by omega)] | rw [bz_f (by omega)]) (by omega) (by omega)) v_X8_writeIf vv_X8_writeIf s_RX8_379 eX8_writeQueues_126 (fun _ _ h => WF_pick [0, 2, 1] rfl rfl h) (rcv 0 rfl) rfl (nle rfl) (nle rfl) (nle rfl) (nle rfl) rfl ?_
              refine x_iinc [_, _] C eX8_writeQueues_129 rfl rfl rfl ?_
              refine x_goto (pc' := 12) C eX8_writeQueues_132 rfl ?_
              refine x_pick [_, _, _] [0, 2, 1] rfl rfl ?_
              exact ih (k + 1) (by omega) (by omega) (by
                show (if n k 11 = 1 then _ else _ : List Int).length ≤ _
                omega)
          · refine x_iconst C eX8_writeQueues_97 ?_
            refine x_goto (pc' := 102) C eX8_writeQueues_98 rfl ?_
            refine x_bipush C eX8_writeQueues_102 rfl ?_
            refine yV2v [_] [_, _, _] C (s_X8_writeIf hK (n k 10 = 1) (by first | rfl | rw [bz_t (by omega)] | rw [bz_f (by omega)]) (by omega) (by omega)) v_X8_writeIf vv_X8_writeIf s_RX8_379 eX8_writeQueues_104 (fun _ _ h => WF_pick [0, 2, 1] rfl rfl h) (rcv 0 rfl) rfl (nle rfl) (nle rfl) (nle rfl) (nle rfl) rfl ?_
            refine x_aload_n C eX8_writeQueues_107 rfl ?_
            refine x_aload_n C eX8_writeQueues_108 rfl ?_
            refine x_iload_n C eX8_writeQueues_109 rfl ?_
            refine x_bipush C eX8_writeQueues_110 rfl ?_
            refine yV2r [_] [_, _, _] C (s_X8_of hK hr (by omega) (by omega)) v_X8_of vv_X8_of s_RX8_64 eX8_writeQueues_112 (fun _ _ h => WF_pick [0, 2, 1] rfl rfl h) (rcv 0 rfl) rfl (nle rfl) (nle rfl) (nle rfl) (nle rfl) rfl ?_
            skip
            refine x_iconst C eX8_writeQueues_115 ?_
            refine x_icmp_ne 123 C eX8_writeQueues_116 rfl (by omega) (by omega) (fun h116 => ?_) (fun h116 => ?_)
            · refine x_iconst C eX8_writeQueues_123 ?_
              refine x_bipush C eX8_writeQueues_124 rfl ?_
              refine yV2v [_] [_, _, _] C (s_X8_writeIf hK (n k 11 = 1) (by first | rfl | rw [bz_t (by omega)] | rw [bz_f (by omega)]) (by omega) (by omega)) v_X8_writeIf vv_X8_writeIf s_RX8_379 eX8_writeQueues_126 (fun _ _ h => WF_pick [0, 2, 1] rfl rfl h) (rcv 0 rfl) rfl (nle rfl) (nle rfl) (nle rfl) (nle rfl) rfl ?_
              refine x_iinc [_, _] C eX8_writeQueues_129 rfl rfl rfl ?_
              refine x_goto (pc' := 12) C eX8_writeQueues_132 rfl ?_
              refine x_pick [_, _, _] [0, 2, 1] rfl rfl ?_
              exact ih (k + 1) (by omega) (by omega) (by
                show (if n k 11 = 1 then _ else _ : List Int).length ≤ _
                omega)
            · refine x_iconst C eX8_writeQueues_119 ?_
              refine x_goto (pc' := 124) C eX8_writeQueues_120 rfl ?_
              refine x_bipush C eX8_writeQueues_124 rfl ?_
              refine yV2v [_] [_, _, _] C (s_X8_writeIf hK (n k 11 = 1) (by first | rfl | rw [bz_t (by omega)] | rw [bz_f (by omega)]) (by omega) (by omega)) v_X8_writeIf vv_X8_writeIf s_RX8_379 eX8_writeQueues_126 (fun _ _ h => WF_pick [0, 2, 1] rfl rfl h) (rcv 0 rfl) rfl (nle rfl) (nle rfl) (nle rfl) (nle rfl) rfl ?_
              refine x_iinc [_, _] C eX8_writeQueues_129 rfl rfl rfl ?_
              refine x_goto (pc' := 12) C eX8_writeQueues_132 rfl ?_
              refine x_pick [_, _, _] [0, 2, 1] rfl rfl ?_
              exact ih (k + 1) (by omega) (by omega) (by
                show (if n k 11 = 1 then _ else _ : List Int).length ≤ _
                omega)
        · refine x_iconst C eX8_writeQueues_25 ?_
          refine x_goto (pc' := 30) C eX8_writeQueues_26 rfl ?_
          refine x_bipush C eX8_writeQueues_30 rfl ?_
          refine yV2v [_] [_, _, _] C (s_X8_writeIf hK (0 < (k : Int)) (by first | rfl | rw [bz_t (by omega)] | rw [bz_f (by omega)]) (by omega) (by omega)) v_X8_writeIf vv_X8_writeIf s_RX8_379 eX8_writeQueues_32 (fun _ _ h => WF_pick [0, 2, 1] rfl rfl h) (rcv 0 rfl) rfl (nle rfl) (nle rfl) (nle rfl) (nle rfl) rfl ?_
          refine x_aload_n C eX8_writeQueues_35 rfl ?_
          refine x_iload_n C eX8_writeQueues_36 rfl ?_
          refine yV1v [] [_, _, _] C (s_X8_writeName hK (by omega) (by omega) (by omega)) v_X8_writeName vv_X8_writeName s_RX8_382 eX8_writeQueues_37 (fun _ _ h => WF_pick [0, 2, 1] rfl rfl h) (rcv 0 rfl) rfl (nle rfl) (nle rfl) (nle rfl) (nle rfl) rfl ?_
          refine x_aload_n C eX8_writeQueues_40 rfl ?_
          refine x_bipush C eX8_writeQueues_41 rfl ?_
          refine yV1v [_] [_, _, _] C (s_X8_write hK (by omega) (by omega)) v_X8_write vv_X8_write s_RX8_376 eX8_writeQueues_43 (fun _ _ h => WF_pick [0, 2, 1] rfl rfl h) (rcv 0 rfl) rfl (nle rfl) (nle rfl) (nle rfl) (nle rfl) rfl ?_
          refine x_aload_n C eX8_writeQueues_46 rfl ?_
          refine x_aload_n C eX8_writeQueues_47 rfl ?_
          refine x_iload_n C eX8_writeQueues_48 rfl ?_
          refine x_bipush C eX8_writeQueues_49 rfl ?_
          refine yV2r [_] [_, _, _] C (s_X8_of hK hr (by omega) (by omega)) v_X8_of vv_X8_of s_RX8_64 eX8_writeQueues_51 (fun _ _ h => WF_pick [0, 2, 1] rfl rfl h) (rcv 0 rfl) rfl (nle rfl) (nle rfl) (nle rfl) (nle rfl) rfl ?_
          skip
          refine yV1v [_] [_, _, _] C (s_X8_writeInt hK (by omega) (by omega)) v_X8_writeInt vv_X8_writeInt s_RX8_385 eX8_writeQueues_54 (fun _ _ h => WF_pick [0, 2, 1] rfl rfl h) (rcv 0 rfl) rfl (nle rfl) (nle rfl) (nle rfl) (nle rfl) rfl ?_
          refine x_aload_n C eX8_writeQueues_57 rfl ?_
          refine x_bipush C eX8_writeQueues_58 rfl ?_
          refine yV1v [_] [_, _, _] C (s_X8_write hK (by omega) (by omega)) v_X8_write vv_X8_write s_RX8_376 eX8_writeQueues_60 (fun _ _ h => WF_pick [0, 1, 2] rfl rfl h) (rcv 0 rfl) rfl (nle rfl) (nle rfl) (nle rfl) (nle rfl) rfl ?_
          refine x_aload_n C eX8_writeQueues_63 rfl ?_
          refine x_aload_n C eX8_writeQueues_64 rfl ?_
          refine x_iload_n C eX8_writeQueues_65 rfl ?_
          refine x_bipush C eX8_writeQueues_66 rfl ?_
          refine yV2r [_] [_, _, _] C (s_X8_of hK hr (by omega) (by omega)) v_X8_of vv_X8_of s_RX8_64 eX8_writeQueues_68 (fun _ _ h => WF_pick [0, 2, 1] rfl rfl h) (rcv 0 rfl) rfl (nle rfl) (nle rfl) (nle rfl) (nle rfl) rfl ?_
          skip
          refine yV1v [_] [_, _, _] C (s_X8_writeInt hK (by omega) (by omega)) v_X8_writeInt vv_X8_writeInt s_RX8_385 eX8_writeQueues_71 (fun _ _ h => WF_pick [0, 2, 1] rfl rfl h) (rcv 0 rfl) rfl (nle rfl) (nle rfl) (nle rfl) (nle rfl) rfl ?_
          refine x_aload_n C eX8_writeQueues_74 rfl ?_
          refine x_aload_n C eX8_writeQueues_75 rfl ?_
          refine x_iload_n C eX8_writeQueues_76 rfl ?_
          refine yV1r [_] [_, _, _] C (s_X8_isHeld hK hr (by omega) (by omega)) v_X8_isHeld vv_X8_isHeld s_RX8_83 eX8_writeQueues_77 (fun _ _ h => WF_pick [0, 2, 1] rfl rfl h) (rcv 0 rfl) rfl (nle rfl) (nle rfl) (nle rfl) (nle rfl) rfl ?_
          skip
          refine x_bipush C eX8_writeQueues_80 rfl ?_
          refine yV2v [_] [_, _, _] C (s_X8_writeIf hK (0 < n k 9) (by first | rfl | rw [bz_t (by omega)] | rw [bz_f (by omega)]) (by omega) (by omega)) v_X8_writeIf vv_X8_writeIf s_RX8_379 eX8_writeQueues_82 (fun _ _ h => WF_pick [0, 2, 1] rfl rfl h) (rcv 0 rfl) rfl (nle rfl) (nle rfl) (nle rfl) (nle rfl) rfl ?_
          refine x_aload_n C eX8_writeQueues_85 rfl ?_
          refine x_aload_n C eX8_writeQueues_86 rfl ?_
          refine x_iload_n C eX8_writeQueues_87 rfl ?_
          refine x_bipush C eX8_writeQueues_88 rfl ?_
          refine yV2r [_] [_, _, _] C (s_X8_of hK hr (by omega) (by omega)) v_X8_of vv_X8_of s_RX8_64 eX8_writeQueues_90 (fun _ _ h => WF_pick [0, 2, 1] rfl rfl h) (rcv 0 rfl) rfl (nle rfl) (nle rfl) (nle rfl) (nle rfl) rfl ?_
          skip
          refine x_iconst C eX8_writeQueues_93 ?_
          refine x_icmp_ne 101 C eX8_writeQueues_94 rfl (by omega) (by omega) (fun h94 => ?_) (fun h94 => ?_)
          · refine x_iconst C eX8_writeQueues_101 ?_
            refine x_bipush C eX8_writeQueues_102 rfl ?_
            refine yV2v [_] [_, _, _] C (s_X8_writeIf hK (n k 10 = 1) (by first | rfl | rw [bz_t (by omega)] | rw [bz_f (by omega)]) (by omega) (by omega)) v_X8_writeIf vv_X8_writeIf s_RX8_379 eX8_writeQueues_104 (fun _ _ h => WF_pick [0, 2, 1] rfl rfl h) (rcv 0 rfl) rfl (nle rfl) (nle rfl) (nle rfl) (nle rfl) rfl ?_
            refine x_aload_n C eX8_writeQueues_107 rfl ?_
            refine x_aload_n C eX8_writeQueues_108 rfl ?_
            refine x_iload_n C eX8_writeQueues_109 rfl ?_
            refine x_bipush C eX8_writeQueues_110 rfl ?_
            refine yV2r [_] [_, _, _] C (s_X8_of hK hr (by omega) (by omega)) v_X8_of vv_X8_of s_RX8_64 eX8_writeQueues_112 (fun _ _ h => WF_pick [0, 2, 1] rfl rfl h) (rcv 0 rfl) rfl (nle rfl) (nle rfl) (nle rfl) (nle rfl) rfl ?_
            skip
            refine x_iconst C eX8_writeQueues_115 ?_
            refine x_icmp_ne 123 C eX8_writeQueues_116 rfl (by omega) (by omega) (fun h116 => ?_) (fun h116 => ?_)
            · refine x_iconst C eX8_writeQueues_123 ?_
              refine x_bipush C eX8_writeQueues_124 rfl ?_
              refine yV2v [_] [_, _, _] C (s_X8_writeIf hK (n k 11 = 1) (by first | rfl | rw [bz_t (by omega)] | rw [bz_f (by omega)]) (by omega) (by omega)) v_X8_writeIf vv_X8_writeIf s_RX8_379 eX8_writeQueues_126 (fun _ _ h => WF_pick [0, 2, 1] rfl rfl h) (rcv 0 rfl) rfl (nle rfl) (nle rfl) (nle rfl) (nle rfl) rfl ?_
              refine x_iinc [_, _] C eX8_writeQueues_129 rfl rfl rfl ?_
              refine x_goto (pc' := 12) C eX8_writeQueues_132 rfl ?_
              refine x_pick [_, _, _] [0, 2, 1] rfl rfl ?_
              exact ih (k + 1) (by omega) (by omega) (by
                show (if n k 11 = 1 then _ else _ : List Int).length ≤ _
                omega)
            · refine x_iconst C eX8_writeQueues_119 ?_
              refine x_goto (pc' := 124) C eX8_writeQueues_120 rfl ?_
              refine x_bipush C eX8_writeQueues_124 rfl ?_
              refine yV2v [_] [_, _, _] C (s_X8_writeIf hK (n k 11 = 1) (by first | rfl | rw [bz_t (by omega)] | rw [bz_f (by omega)]) (by omega) (by omega)) v_X8_writeIf vv_X8_writeIf s_RX8_379 eX8_writeQueues_126 (fun _ _ h => WF_pick [0, 2, 1] rfl rfl h) (rcv 0 rfl) rfl (nle rfl) (nle rfl) (nle rfl) (nle rfl) rfl ?_
              refine x_iinc [_, _] C eX8_writeQueues_129 rfl rfl rfl ?_
              refine x_goto (pc' := 12) C eX8_writeQueues_132 rfl ?_
              refine x_pick [_, _, _] [0, 2, 1] rfl rfl ?_
              exact ih (k + 1) (by omega) (by omega) (by
                show (if n k 11 = 1 then _ else _ : List Int).length ≤ _
                omega)
          · refine x_iconst C eX8_writeQueues_97 ?_
            refine x_goto (pc' := 102) C eX8_writeQueues_98 rfl ?_
            refine x_bipush C eX8_writeQueues_102 rfl ?_
            refine yV2v [_] [_, _, _] C (s_X8_writeIf hK (n k 10 = 1) (by first | rfl | rw [bz_t (by omega)] | rw [bz_f (by omega)]) (by omega) (by omega)) v_X8_writeIf vv_X8_writeIf s_RX8_379 eX8_writeQueues_104 (fun _ _ h => WF_pick [0, 2, 1] rfl rfl h) (rcv 0 rfl) rfl (nle rfl) (nle rfl) (nle rfl) (nle rfl) rfl ?_
            refine x_aload_n C eX8_writeQueues_107 rfl ?_
            refine x_aload_n C eX8_writeQueues_108 rfl ?_
            refine x_iload_n C eX8_writeQueues_109 rfl ?_
            refine x_bipush C eX8_writeQueues_110 rfl ?_
            refine yV2r [_] [_, _, _] C (s_X8_of hK hr (by omega) (by omega)) v_X8_of vv_X8_of s_RX8_64 eX8_writeQueues_112 (fun _ _ h => WF_pick [0, 2, 1] rfl rfl h) (rcv 0 rfl) rfl (nle rfl) (nle rfl) (nle rfl) (nle rfl) rfl ?_
            skip
            refine x_iconst C eX8_writeQueues_115 ?_
            refine x_icmp_ne 123 C eX8_writeQueues_116 rfl (by omega) (by omega) (fun h116 => ?_) (fun h116 => ?_)
            · refine x_iconst C eX8_writeQueues_123 ?_
              refine x_bipush C eX8_writeQueues_124 rfl ?_
              refine yV2v [_] [_, _, _] C (s_X8_writeIf hK (n k 11 = 1) (by first | rfl | rw [bz_t (by omega)] | rw [bz_f (by omega)]) (by omega) (by omega)) v_X8_writeIf vv_X8_writeIf s_RX8_379 eX8_writeQueues_126 (fun _ _ h => WF_pick [0, 2, 1] rfl rfl h) (rcv 0 rfl) rfl (nle rfl) (nle rfl) (nle rfl) (nle rfl) rfl ?_
              refine x_iinc [_, _] C eX8_writeQueues_129 rfl rfl rfl ?_
              refine x_goto (pc' := 12) C eX8_writeQueues_132 rfl ?_
              refine x_pick [_, _, _] [0, 2, 1] rfl rfl ?_
              exact ih (k + 1) (by omega) (by omega) (by
                show (if n k 11 = 1 then _ else _ : List Int).length ≤ _
                omega)
            · refine x_iconst C eX8_writeQueues_119 ?_
              refine x_goto (pc' := 124) C eX8_writeQueues_120 rfl ?_
              refine x_bipush C eX8_writeQueues_124 rfl ?_
              refine yV2v [_] [_, _, _] C (s_X8_writeIf hK (n k 11 = 1) (by first | rfl | rw [bz_t (by omega)] | rw [bz_f (by omega)]) (by omega) (by omega)) v_X8_writeIf vv_X8_writeIf s_RX8_379 eX8_writeQueues_126 (fun _ _ h => WF_pick [0, 2, 1] rfl rfl h) (rcv 0 rfl) rfl (nle rfl) (nle rfl) (nle rfl) (nle rfl) rfl ?_
              refine x_iinc [_, _] C eX8_writeQueues_129 rfl rfl rfl ?_
              refine x_goto (pc' := 12) C eX8_writeQueues_132 rfl ?_
              refine x_pick [_, _, _] [0, 2, 1] rfl rfl ?_
              exact ih (k + 1) (by omega) (by omega) (by
                show (if n k 11 = 1 then _ else _ : List Int).length ≤ _
                omega)
  refine x_aload_n C eX8_writeQueues_0 rfl ?_
  refine x_iconst C eX8_writeQueues_1 ?_
  refine x_putI [_, _, _] 0 C f_RX8_3 eX8_writeQueues_2 rfl rfl rfl ?_
  refine x_aload_n C eX8_writeQueues_5 rfl ?_
  refine x_iconst C eX8_writeQueues_6 ?_
  refine x_putI [_, _, _] 0 C f_RX8_373 eX8_writeQueues_7 rfl rfl rfl ?_
  refine x_iconst C eX8_writeQueues_10 ?_
  refine x_istore_n [_, _] C eX8_writeQueues_11 rfl rfl (nlt rfl) ?_
  refine x_ws [ob o 10 (shM A 1) (up (up I 0 0) 22 ((([] : List Int).length : Nat) : Int)), fam G A (uN N 1 (n)), ar G 1 (A 21) 200 (([] : List Int)).length (oF (([] : List Int)))] (fun cf c hw => PW.wf (PW_cons (fun _ h => h) (PW_cons (fun _ h => h) (PW_cons (fun _ h => ar_congr (Nat.zero_le _) (fun j hj => absurd hj (Nat.not_lt_zero j)) h) PW_nil))) hw) ?_
  exact loop 20 0 (by omega) (by omega) (Nat.le_refl _)
