set_option maxHeartbeats 4000000 in
set_option maxRecDepth 100000 in
theorem s_X8_droppedBy {G : Gm} {l : Launch} (hK : KG G) {o : Nat} {A : Nat → Nat} {I : Nat → Int} {N : Nat → Net} {n : Net} {b : Int} {l9 t9 : Int} (hN : NetOk b n) (hb : b ≤ 900000000) (r_l9 : -2147483648 ≤ l9 ∧ l9 < 2147483648) (r_t9 : -2147483648 ≤ t9 ∧ t9 < 2147483648) : MD G l yX8_droppedBy cX8_droppedBy 5 (some .int) 9 0 0 [.ref o, .int (zI l9), .int (zI t9)] [ob o 10 (shM A 1) I, fam G A (uN N 1 (n))] (some (.int (zI (if (0 ≤ l9 ∧ l9 ≤ n (-1) 0 - 1) ∧ (1 ≤ t9 ∧ t9 ≤ 500) ∧ (True) then nDrop l9 t9.toNat n l9 (16 + 2) - n l9 (16 + 2) else 0)))) [ob o 10 (shM A 1) (up I 0 (thr (0 ≤ l9 ∧ l9 ≤ n (-1) 0 - 1) (1 ≤ t9 ∧ t9 ≤ 500) (True))), famQ G A n] := by
  refine MX_of (lv := [some (.ref o), some (.int (zI l9)), some (.int (zI t9)), none, none]) hK (by decide +kernel) rfl (nle rfl) (fun X C F => ?_)
  have C : OKc G X l RX8 "droppedBy" cX8_droppedBy 5 (some .int) 9 0 0 := C
  have hH := hN.1
  unfold HeadOk at hH
  have hr : rok 1 := Or.inl rfl
  have loop : (0 ≤ l9 ∧ l9 ≤ n (-1) 0 - 1) ∧ (1 ≤ t9 ∧ t9 ≤ 500) ∧ (True) → ∀ (f j k : Nat), j < f → (k : Int) + j = t9 → True → WX G X 0 0 [ob o 10 (shM A 1) (up I 0 (thr (0 ≤ l9 ∧ l9 ≤ n (-1) 0 - 1) (1 ≤ t9 ∧ t9 ≤ 500) (True))), fam G A (uN (uN N 4 (n)) 1 (nDrop l9 k n))] 33 [some (.ref o), some (.int (zI l9)), some (.int (zI t9)), some (.int (zI (n l9 (16 + 2)))), some (.int (zI k))] [] := by
    intro hP f
    induction f with
    | zero => intro j k h0; exfalso; omega
    | succ f ih =>
      intro j k h0 h1 h2
      have hK9 := NetOk_ticks hN k
      have e0 := nTicks_0 hN k
      have hD := nDrop_ok hN (l := l9) ⟨by omega, by omega⟩ k
      have hL := hD.1.2.2 l9 (by omega) (by omega)
      unfold LineOk at hL
      refine x_iload C eX8_droppedBy_33 rfl ?_
      refine x_iload_n C eX8_droppedBy_35 rfl ?_
      refine x_icmp_ge 56 C eX8_droppedBy_36 rfl (by omega) (by omega) (fun h36 => ?_) (fun h36 => ?_)
      · refine x_aload_n C eX8_droppedBy_56 rfl ?_
        refine x_aload_n C eX8_droppedBy_57 rfl ?_
        refine x_iload_n C eX8_droppedBy_58 rfl ?_
        refine x_iconst C eX8_droppedBy_59 ?_
        refine yV2r [] [_, _] C (s_X8_counted hK hr (by omega) (by omega)) v_X8_counted vv_X8_counted s_RX8_111 eX8_droppedBy_60 (fun _ _ h => WF_pick [0, 1] rfl rfl h) (rcv 0 rfl) rfl (nle rfl) (nle rfl) (nle rfl) (nle rfl) rfl ?_
        skip
        refine x_iload_n C eX8_droppedBy_63 rfl ?_
        refine x_isub C eX8_droppedBy_64 ?_
        refine yV1r [] [_, _] C (s_X8_layBack hK ) v_X8_layBack vv_X8_layBack s_RX8_322 eX8_droppedBy_65 (fun _ _ h => WF_pick [0, 1] rfl rfl h) (rcv 0 rfl) rfl (nle rfl) (nle rfl) (nle rfl) (nle rfl) rfl ?_
        skip
        refine x_iret (by first | rfl | exact (narZ (by omega)).1) C F eX8_droppedBy_68 () ?_ trivial (fun cf c h => ?_) (nle rfl) (nle rfl)
        · rw [if_pos hP, show t9.toNat = k by omega]
        · first
            | exact WF_pick [0, 1] rfl rfl h
            | (refine PW.wf (PW_cons (fun _ h => h) (PW_cons (fun _ h => ⟨_, h⟩) PW_nil)) (WF_pick [0, 1] rfl rfl h))
      · obtain ⟨j', rfl⟩ : ∃ j', j = j' + 1 := ⟨j - 1, by omega⟩
        refine x_aload_n C eX8_droppedBy_39 rfl ?_
        refine x_iload_n C eX8_droppedBy_40 rfl ?_
        refine x_bipush C eX8_droppedBy_41 rfl ?_
        refine yV2v [] [_, _] C (s_X8_typeOne hK hr (by omega) (by omega) (by decide)) v_X8_typeOne vv_X8_typeOne s_RX8_286 eX8_droppedBy_43 (fun _ _ h => WF_pick [0, 1] rfl rfl h) (rcv 0 rfl) rfl (nle rfl) (nle rfl) (nle rfl) (nle rfl) rfl ?_
        skip
        refine x_aload_n C eX8_droppedBy_46 rfl ?_
        refine yV0v [] [_, _] C (s_X8_tickOnce hK hr (NetOk_type hD.1 ⟨by omega, by omega⟩ (by decide)) (by omega)) v_X8_tickOnce vv_X8_tickOnce s_RX8_133 eX8_droppedBy_47 (fun _ _ h => WF_pick [0, 1] rfl rfl h) (rcv 0 rfl) rfl (nle rfl) (nle rfl) (nle rfl) (nle rfl) rfl ?_
        skip
        refine x_iinc [_, _, _, _, _] C eX8_droppedBy_50 rfl rfl rfl ?_
        refine x_goto (pc' := 33) C eX8_droppedBy_53 rfl ?_
        exact ih j' (k + 1) (by omega) (by omega) trivial
  refine x_aload_n C eX8_droppedBy_0 rfl ?_
  refine x_aload_n C eX8_droppedBy_1 rfl ?_
  refine x_iload_n C eX8_droppedBy_2 rfl ?_
  refine yV1r [] [_, _] C (s_X8_isLine hK hr (by (try simp (disch := omega) only [Int.reduceAdd, uN_s, uN_uN, un_s, un_un, un_n, ub_s, ub_n, inc, bStop_n, bDrop_s, bDrop_n, unub_n, nLog_n, nLog_h, Int.sub_add_cancel]); omega) (by (try simp (disch := omega) only [Int.reduceAdd, uN_s, uN_uN, un_s, un_un, un_n, ub_s, ub_n, inc, bStop_n, bDrop_s, bDrop_n, unub_n, nLog_n, nLog_h, Int.sub_add_cancel]); omega)) v_X8_isLine vv_X8_isLine s_RX8_299 eX8_droppedBy_3 (fun _ _ h => WF_pick [0, 1] rfl rfl h) (rcv 0 rfl) rfl (nle rfl) (nle rfl) (nle rfl) (nle rfl) rfl ?_
  refine x_iload_n C eX8_droppedBy_6 rfl ?_
  refine x_iconst C eX8_droppedBy_7 ?_
  refine yS2r [_, _] [_, _] C (s_X8_areTicks hK (by omega)) v_X8_areTicks vs_X8_areTicks s_RX8_330 eX8_droppedBy_8 (fun _ _ h => WF_pick [0, 1] rfl rfl h) rfl (nle rfl) (nle rfl) (nle rfl) (nle rfl) rfl ?_
  refine yV2r [_] [_, _] C (s_X8_passes2v hK (0 ≤ l9 ∧ l9 ≤ n (-1) 0 - 1) (1 ≤ t9 ∧ t9 ≤ 500) (by first | rfl | rw [bz_t (by omega)] | rw [bz_f (by omega)]) (by first | rfl | rw [bz_t (by omega)] | rw [bz_f (by omega)])) v_X8_passes2 vv_X8_passes2 s_RX8_302 eX8_droppedBy_11 (fun _ _ h => WF_pick [0, 1] rfl rfl h) (rcv 0 rfl) rfl (nle rfl) (nle rfl) (nle rfl) (nle rfl) rfl ?_
  skip
  refine x_ifb_ne 19 C eX8_droppedBy_14 rfl (fun h14 => ?_) (fun h14 => ?_)
  · refine x_aload_n C eX8_droppedBy_19 rfl ?_
    refine yV0v [] [_, _] C (s_X8_keepAside hK ) v_X8_keepAside vv_X8_keepAside s_RX8_319 eX8_droppedBy_20 (fun _ _ h => WF_pick [0, 1] rfl rfl h) (rcv 0 rfl) rfl (nle rfl) (nle rfl) (nle rfl) (nle rfl) rfl ?_
    skip
    refine x_aload_n C eX8_droppedBy_23 rfl ?_
    refine x_iload_n C eX8_droppedBy_24 rfl ?_
    refine x_iconst C eX8_droppedBy_25 ?_
    refine yV2r [] [_, _] C (s_X8_counted hK hr (by (try simp (disch := omega) only [Int.reduceAdd, uN_s, uN_uN, un_s, un_un, un_n, ub_s, ub_n, inc, bStop_n, bDrop_s, bDrop_n, unub_n, nLog_n, nLog_h, Int.sub_add_cancel]); omega) (by (try simp (disch := omega) only [Int.reduceAdd, uN_s, uN_uN, un_s, un_un, un_n, ub_s, ub_n, inc, bStop_n, bDrop_s, bDrop_n, unub_n, nLog_n, nLog_h, Int.sub_add_cancel]); omega)) v_X8_counted vv_X8_counted s_RX8_111 eX8_droppedBy_26 (fun _ _ h => WF_pick [0, 1] rfl rfl h) (rcv 0 rfl) rfl (nle rfl) (nle rfl) (nle rfl) (nle rfl) rfl ?_
    skip
    refine x_istore_n [_, _, _, _, _] C eX8_droppedBy_29 rfl rfl (nlt rfl) ?_
    refine x_iconst C eX8_droppedBy_30 ?_
    refine x_istore [_, _, _, _, _] C eX8_droppedBy_31 rfl rfl (nlt rfl) ?_
    exact loop h14 502 t9.toNat 0 (by omega) (by omega) trivial
  · refine x_iconst C eX8_droppedBy_17 ?_
    refine x_iret (by first | rfl | exact (narZ (by omega)).1) C F eX8_droppedBy_18 () ?_ trivial (fun cf c h => ?_) (nle rfl) (nle rfl)
    · split
      all_goals first | rfl | contradiction
    · first
        | exact WF_pick [0, 1] rfl rfl h
        | (refine PW.wf (PW_cons (fun _ h => h) (PW_cons (fun _ h => ⟨_, h⟩) PW_nil)) (WF_pick [0, 1] rfl rfl h))

set_option maxHeartbeats 4000000 in
set_option maxRecDepth 100000 in
theorem s_X8_bestBorrower {G : Gm} {l : Launch} (hK : KG G) {o : Nat} {A : Nat → Nat} {I : Nat → Int} {N : Nat → Net} {n : Net} {b : Int} {l9 : Int} (hN : NetOk b n) (hb : b ≤ 900000000) (r_l9 : -2147483648 ≤ l9 ∧ l9 < 2147483648) : MD G l yX8_bestBorrower cX8_bestBorrower 6 (some .int) 10 0 0 [.ref o, .int (zI l9)] [ob o 10 (shM A 1) I, fam G A (uN N 1 (n))] (some (.int (zI (if (0 ≤ l9 ∧ l9 ≤ n (-1) 0 - 1) ∧ (True) ∧ (True) then (aBest n l9 (n (-1) 0).toNat).1 else 0)))) [ob o 10 (shM A 1) (up I 0 (thr (0 ≤ l9 ∧ l9 ≤ n (-1) 0 - 1) (True) (True))), famQ G A n] := by
  refine MX_of (lv := [some (.ref o), some (.int (zI l9)), none, none, none, none]) hK (by decide +kernel) rfl (nle rfl) (fun X C F => ?_)
  have C : OKc G X l RX8 "bestBorrower" cX8_bestBorrower 6 (some .int) 10 0 0 := C
  have hH := hN.1
  unfold HeadOk at hH
  have hr : rok 1 := Or.inl rfl
  have loop : (0 ≤ l9 ∧ l9 ≤ n (-1) 0 - 1) ∧ (True) ∧ (True) → ∀ (f k : Nat) (N : Nat → Net), (k : Int) ≤ n (-1) 0 → n (-1) 0 < k + f → (-1 ≤ (aBest n l9 k).2 ∧ (aBest n l9 k).2 ≤ 950000000) → WX G X 0 0 [ob o 10 (shM A 1) (up I 0 (thr (0 ≤ l9 ∧ l9 ≤ n (-1) 0 - 1) (True) (True))), fam G A (uN N 1 (n))] 21 [some (.ref o), some (.int (zI l9)), some (.int (zI (aBest n l9 k).1)), some (.int (zI (aBest n l9 k).2)), some (.int (zI k)), none] [] := by
    intro hP f
    induction f with
    | zero => intro k N h0 h1; exfalso; omega
    | succ f ih =>
      intro k N h0 h1 h2
      refine x_iload C eX8_bestBorrower_21 rfl ?_
      refine x_aload_n C eX8_bestBorrower_23 rfl ?_
      refine yV0r [] [_, _] C (s_X8_lines hK hr) v_X8_lines vv_X8_lines s_RX8_68 eX8_bestBorrower_24 (fun _ _ h => WF_pick [0, 1] rfl rfl h) (rcv 0 rfl) rfl (nle rfl) (nle rfl) (nle rfl) (nle rfl) rfl ?_
      skip
      refine x_icmp_ge 76 C eX8_bestBorrower_27 rfl (by omega) (by omega) (fun h27 => ?_) (fun h27 => ?_)
      · refine x_iload_n C eX8_bestBorrower_76 rfl ?_
        refine x_iret (by first | rfl | exact (narZ (by omega)).1) C F eX8_bestBorrower_77 () ?_ trivial (fun cf c h => ?_) (nle rfl) (nle rfl)
        · rw [if_pos hP, show (n (-1) 0).toNat = k by omega]
        · first
            | exact WF_pick [0, 1] rfl rfl h
            | (refine PW.wf (PW_cons (fun _ h => h) (PW_cons (fun _ h => ⟨_, h⟩) PW_nil)) (WF_pick [0, 1] rfl rfl h))
      · refine x_iload C eX8_bestBorrower_30 rfl ?_
        refine x_iload_n C eX8_bestBorrower_32 rfl ?_
        refine x_icmp_ne 40 C eX8_bestBorrower_33 rfl (by omega) (by omega) (fun h33 => ?_) (fun h33 => ?_)
        · have hB9 := aLent_all_r hN (l := l9) (o := k) (by omega) ⟨by omega, by omega⟩ ⟨by omega, by omega⟩ h33
          refine x_aload_n C eX8_bestBorrower_40 rfl ?_
          refine x_iconst C eX8_bestBorrower_41 ?_
          refine x_iload_n C eX8_bestBorrower_42 rfl ?_
          refine x_iload C eX8_bestBorrower_43 rfl ?_
          refine yV3r [] [_, _] C (s_X8_sentLent_all hK hN (by omega) ⟨by omega, by omega⟩ ⟨by omega, by omega⟩ h33) v_X8_sentLent vv_X8_sentLent s_RX8_341 eX8_bestBorrower_45 (fun _ _ h => WF_pick [0, 1] rfl rfl h) (rcv 0 rfl) rfl (nle rfl) (nle rfl) (nle rfl) (nle rfl) rfl ?_
          skip
          refine x_istore [_, _, _, _, _, _] C eX8_bestBorrower_48 rfl rfl (nlt rfl) ?_
          refine x_iload C eX8_bestBorrower_50 rfl ?_
          refine x_iload_n C eX8_bestBorrower_52 rfl ?_
          refine x_icmp_le 61 C eX8_bestBorrower_53 rfl (by omega) (by omega) (fun h53 => ?_) (fun h53 => ?_)
          · refine x_iload_n C eX8_bestBorrower_61 rfl ?_
            refine x_istore_n [_, _, _, _, _, _] C eX8_bestBorrower_62 rfl rfl (nlt rfl) ?_
            refine x_iload_n C eX8_bestBorrower_63 rfl ?_
            refine x_iload C eX8_bestBorrower_64 rfl ?_
            refine x_max C s_RX8_114 s2_max eX8_bestBorrower_66 rfl (nle rfl) (nle rfl) (nle rfl) (nle rfl) (by omega) (by omega) ?_
            refine x_istore_n [_, _, _, _, _, _] C eX8_bestBorrower_69 rfl rfl (nlt rfl) ?_
            refine x_iinc [_, _, _, _, _, _] C eX8_bestBorrower_70 rfl rfl rfl ?_
            refine x_goto (pc' := 21) C eX8_bestBorrower_73 rfl ?_
            refine x_lv [_, _, _, _, _, none] rfl (lx_drop _ [5] rfl) ?_
            have eb : aBest n l9 (k + 1) = (if (aBest n l9 k).2 < (if (k : Int) = l9 then -1 else aLent n (-1) l9 k) then (k : Int) else (aBest n l9 k).1, max (aBest n l9 k).2 (if (k : Int) = l9 then -1 else aLent n (-1) l9 k)) := rfl
            have h3 := fun N => ih (k + 1) N (by omega) (by omega)
            rw [eb] at h3
            first
              | (rw [if_pos h33] at h3
                 dsimp only at h3
                 first
                   | (rw [if_pos (by omega)] at h3; exact h3 _ (by omega))
                   | (rw [if_neg (by omega)] at h3; exact h3 _ (by omega)))
              | (rw [if_neg h33] at h3
                 dsimp only at h3
                 first
                   | (rw [if_pos (by omega)] at h3; exact h3 _ (by omega))
                   | (rw [if_neg (by omega)] at h3; exact h3 _ (by omega)))
          · refine x_iload C eX8_bestBorrower_56 rfl ?_
            refine x_goto (pc' := 62) C eX8_bestBorrower_58 rfl ?_
            refine x_istore_n [_, _, _, _, _, _] C eX8_bestBorrower_62 rfl rfl (nlt rfl) ?_
            refine x_iload_n C eX8_bestBorrower_63 rfl ?_
            refine x_iload C eX8_bestBorrower_64 rfl ?_
            refine x_max C s_RX8_114 s2_max eX8_bestBorrower_66 rfl (nle rfl) (nle rfl) (nle rfl) (nle rfl) (by omega) (by omega) ?_
            refine x_istore_n [_, _, _, _, _, _] C eX8_bestBorrower_69 rfl rfl (nlt rfl) ?_
            refine x_iinc [_, _, _, _, _, _] C eX8_bestBorrower_70 rfl rfl rfl ?_
            refine x_goto (pc' := 21) C eX8_bestBorrower_73 rfl ?_
            refine x_lv [_, _, _, _, _, none] rfl (lx_drop _ [5] rfl) ?_
            have eb : aBest n l9 (k + 1) = (if (aBest n l9 k).2 < (if (k : Int) = l9 then -1 else aLent n (-1) l9 k) then (k : Int) else (aBest n l9 k).1, max (aBest n l9 k).2 (if (k : Int) = l9 then -1 else aLent n (-1) l9 k)) := rfl
            have h3 := fun N => ih (k + 1) N (by omega) (by omega)
            rw [eb] at h3
            first
              | (rw [if_pos h33] at h3
                 dsimp only at h3
                 first
                   | (rw [if_pos (by omega)] at h3; exact h3 _ (by omega))
                   | (rw [if_neg (by omega)] at h3; exact h3 _ (by omega)))
              | (rw [if_neg h33] at h3
                 dsimp only at h3
                 first
                   | (rw [if_pos (by omega)] at h3; exact h3 _ (by omega))
                   | (rw [if_neg (by omega)] at h3; exact h3 _ (by omega)))
        · refine x_iconst C eX8_bestBorrower_36 ?_
          refine x_goto (pc' := 48) C eX8_bestBorrower_37 rfl ?_
          refine x_istore [_, _, _, _, _, _] C eX8_bestBorrower_48 rfl rfl (nlt rfl) ?_
          refine x_iload C eX8_bestBorrower_50 rfl ?_
          refine x_iload_n C eX8_bestBorrower_52 rfl ?_
          refine x_icmp_le 61 C eX8_bestBorrower_53 rfl (by omega) (by omega) (fun h53 => ?_) (fun h53 => ?_)
          · refine x_iload_n C eX8_bestBorrower_61 rfl ?_
            refine x_istore_n [_, _, _, _, _, _] C eX8_bestBorrower_62 rfl rfl (nlt rfl) ?_
            refine x_iload_n C eX8_bestBorrower_63 rfl ?_
            refine x_iload C eX8_bestBorrower_64 rfl ?_
            refine x_max C s_RX8_114 s2_max eX8_bestBorrower_66 rfl (nle rfl) (nle rfl) (nle rfl) (nle rfl) (by omega) (by omega) ?_
            refine x_istore_n [_, _, _, _, _, _] C eX8_bestBorrower_69 rfl rfl (nlt rfl) ?_
            refine x_iinc [_, _, _, _, _, _] C eX8_bestBorrower_70 rfl rfl rfl ?_
            refine x_goto (pc' := 21) C eX8_bestBorrower_73 rfl ?_
            refine x_lv [_, _, _, _, _, none] rfl (lx_drop _ [5] rfl) ?_
            have eb : aBest n l9 (k + 1) = (if (aBest n l9 k).2 < (if (k : Int) = l9 then -1 else aLent n (-1) l9 k) then (k : Int) else (aBest n l9 k).1, max (aBest n l9 k).2 (if (k : Int) = l9 then -1 else aLent n (-1) l9 k)) := rfl
            have h3 := fun N => ih (k + 1) N (by omega) (by omega)
            rw [eb] at h3
            first
              | (rw [if_pos h33] at h3
                 dsimp only at h3
                 first
                   | (rw [if_pos (by omega)] at h3; exact h3 _ (by omega))
                   | (rw [if_neg (by omega)] at h3; exact h3 _ (by omega)))
              | (rw [if_neg h33] at h3
                 dsimp only at h3
                 first
                   | (rw [if_pos (by omega)] at h3; exact h3 _ (by omega))
                   | (rw [if_neg (by omega)] at h3; exact h3 _ (by omega)))
          · refine x_iload C eX8_bestBorrower_56 rfl ?_
            refine x_goto (pc' := 62) C eX8_bestBorrower_58 rfl ?_
            refine x_istore_n [_, _, _, _, _, _] C eX8_bestBorrower_62 rfl rfl (nlt rfl) ?_
            refine x_iload_n C eX8_bestBorrower_63 rfl ?_
            refine x_iload C eX8_bestBorrower_64 rfl ?_
            refine x_max C s_RX8_114 s2_max eX8_bestBorrower_66 rfl (nle rfl) (nle rfl) (nle rfl) (nle rfl) (by omega) (by omega) ?_
            refine x_istore_n [_, _, _, _, _, _] C eX8_bestBorrower_69 rfl rfl (nlt rfl) ?_
            refine x_iinc [_, _, _, _, _, _] C eX8_bestBorrower_70 rfl rfl rfl ?_
            refine x_goto (pc' := 21) C eX8_bestBorrower_73 rfl ?_
            refine x_lv [_, _, _, _, _, none] rfl (lx_drop _ [5] rfl) ?_
            have eb : aBest n l9 (k + 1) = (if (aBest n l9 k).2 < (if (k : Int) = l9 then -1 else aLent n (-1) l9 k) then (k : Int) else (aBest n l9 k).1, max (aBest n l9 k).2 (if (k : Int) = l9 then -1 else aLent n (-1) l9 k)) := rfl
            have h3 := fun N => ih (k + 1) N (by omega) (by omega)
            rw [eb] at h3
            first
              | (rw [if_pos h33] at h3
                 dsimp only at h3
                 first
                   | (rw [if_pos (by omega)] at h3; exact h3 _ (by omega))
                   | (rw [if_neg (by omega)] at h3; exact h3 _ (by omega)))
              | (rw [if_neg h33] at h3
                 dsimp only at h3
                 first
                   | (rw [if_pos (by omega)] at h3; exact h3 _ (by omega))
                   | (rw [if_neg (by omega)] at h3; exact h3 _ (by omega)))
  refine x_aload_n C eX8_bestBorrower_0 rfl ?_
  refine x_aload_n C eX8_bestBorrower_1 rfl ?_
  refine x_iload_n C eX8_bestBorrower_2 rfl ?_
  refine yV1r [] [_, _] C (s_X8_isLine hK hr (by (try simp (disch := omega) only [Int.reduceAdd, uN_s, uN_uN, un_s, un_un, un_n, ub_s, ub_n, inc, bStop_n, bDrop_s, bDrop_n, unub_n, nLog_n, nLog_h, Int.sub_add_cancel]); omega) (by (try simp (disch := omega) only [Int.reduceAdd, uN_s, uN_uN, un_s, un_un, un_n, ub_s, ub_n, inc, bStop_n, bDrop_s, bDrop_n, unub_n, nLog_n, nLog_h, Int.sub_add_cancel]); omega)) v_X8_isLine vv_X8_isLine s_RX8_299 eX8_bestBorrower_3 (fun _ _ h => WF_pick [0, 1] rfl rfl h) (rcv 0 rfl) rfl (nle rfl) (nle rfl) (nle rfl) (nle rfl) rfl ?_
  refine yV1r [_] [_, _] C (s_X8_passesv hK (0 ≤ l9 ∧ l9 ≤ n (-1) 0 - 1) (by first | rfl | rw [bz_t (by omega)] | rw [bz_f (by omega)])) v_X8_passes vv_X8_passes s_RX8_142 eX8_bestBorrower_6 (fun _ _ h => WF_pick [0, 1] rfl rfl h) (rcv 0 rfl) rfl (nle rfl) (nle rfl) (nle rfl) (nle rfl) rfl ?_
  skip
  refine x_ifb_ne 14 C eX8_bestBorrower_9 rfl (fun h9 => ?_) (fun h9 => ?_)
  · refine x_iconst C eX8_bestBorrower_14 ?_
    refine x_istore_n [_, _, _, _, _, _] C eX8_bestBorrower_15 rfl rfl (nlt rfl) ?_
    refine x_iconst C eX8_bestBorrower_16 ?_
    refine x_istore_n [_, _, _, _, _, _] C eX8_bestBorrower_17 rfl rfl (nlt rfl) ?_
    refine x_iconst C eX8_bestBorrower_18 ?_
    refine x_istore [_, _, _, _, _, _] C eX8_bestBorrower_19 rfl rfl (nlt rfl) ?_
    exact loop h9 20 0 N (by omega) (by omega) (show (-1 : Int) ≤ -1 ∧ (-1 : Int) ≤ 950000000 by decide)
  · refine x_iconst C eX8_bestBorrower_12 ?_
    refine x_iret (by first | rfl | exact (narZ (by omega)).1) C F eX8_bestBorrower_13 () ?_ trivial (fun cf c h => ?_) (nle rfl) (nle rfl)
    · split
      all_goals first | rfl | contradiction
    · first
        | exact WF_pick [0, 1] rfl rfl h
        | (refine PW.wf (PW_cons (fun _ h => h) (PW_cons (fun _ h => ⟨_, h⟩) PW_nil)) (WF_pick [0, 1] rfl rfl h))

set_option maxHeartbeats 4000000 in
set_option maxRecDepth 100000 in
theorem s_X8_fullest {G : Gm} {l : Launch} (hK : KG G) {o : Nat} {A : Nat → Nat} {I : Nat → Int} {N : Nat → Net} {n : Net} {b : Int} (hN : NetOk b n) (hb : b ≤ 900000000) : MD G l yX8_fullest cX8_fullest 3 (some .int) 3 0 0 [.ref o] [ob o 10 (shM A 1) I, fam G A (uN N 1 (n))] (some (.int (zI (aFull n ((n (-1) 0).toNat - 1))))) [ob o 10 (shM A 1) (up I 0 0), fam G A (uN N 1 (n))] := by
  refine MX_of (lv := [some (.ref o), none, none]) hK (by decide +kernel) rfl (nle rfl) (fun X C F => ?_)
  have C : OKc G X l RX8 "fullest" cX8_fullest 3 (some .int) 3 0 0 := C
  have hH := hN.1
  unfold HeadOk at hH
  have hr : rok 1 := Or.inl rfl
  have loop : ∀ (f k : Nat), (k : Int) + 1 ≤ n (-1) 0 → n (-1) 0 < k + 1 + f → WX G X 0 0 [ob o 10 (shM A 1) (up I 0 0), fam G A (uN N 1 (n))] 9 [some (.ref o), some (.int (zI (aFull n k))), some (.int (zI ((k : Int) + 1)))] [] := by
    intro f
    induction f with
    | zero => intro k h0 h1; exfalso; omega
    | succ f ih =>
      intro k h0 h1
      have hR := aFull_r n k
      refine x_iload_n C eX8_fullest_9 rfl ?_
      refine x_aload_n C eX8_fullest_10 rfl ?_
      refine yV0r [] [_, _] C (s_X8_lines hK hr) v_X8_lines vv_X8_lines s_RX8_68 eX8_fullest_11 (fun _ _ h => WF_pick [0, 1] rfl rfl h) (rcv 0 rfl) rfl (nle rfl) (nle rfl) (nle rfl) (nle rfl) rfl ?_
      skip
      refine x_icmp_ge 62 C eX8_fullest_14 rfl (by omega) (by omega) (fun h14 => ?_) (fun h14 => ?_)
      · refine x_iload_n C eX8_fullest_62 rfl ?_
        refine x_iret (by first | rfl | exact (narZ (by omega)).1) C F eX8_fullest_63 () ?_ trivial (fun cf c h => ?_) (nle rfl) (nle rfl)
        · rw [show (n (-1) 0).toNat - 1 = k by omega]
        · exact WF_pick [0, 1] rfl rfl h
      · have hL := hN.2.2 ((k : Int) + 1) (by omega) (by omega)
        have hL2 := hN.2.2 (aFull n k) (by omega) (by omega)
        unfold LineOk at hL hL2
        refine x_aload_n C eX8_fullest_17 rfl ?_
        refine x_iload_n C eX8_fullest_18 rfl ?_
        refine x_bipush C eX8_fullest_19 rfl ?_
        refine yV2r [] [_, _] C (s_X8_of hK hr (by omega) (by omega)) v_X8_of vv_X8_of s_RX8_64 eX8_fullest_21 (fun _ _ h => WF_pick [0, 1] rfl rfl h) (rcv 0 rfl) rfl (nle rfl) (nle rfl) (nle rfl) (nle rfl) rfl ?_
        skip
        refine x_aload_n C eX8_fullest_24 rfl ?_
        refine x_iload_n C eX8_fullest_25 rfl ?_
        refine x_bipush C eX8_fullest_26 rfl ?_
        refine yV2r [] [_, _] C (s_X8_of hK hr (by omega) (by omega)) v_X8_of vv_X8_of s_RX8_64 eX8_fullest_28 (fun _ _ h => WF_pick [0, 1] rfl rfl h) (rcv 0 rfl) rfl (nle rfl) (nle rfl) (nle rfl) (nle rfl) rfl ?_
        skip
        refine x_iadd C eX8_fullest_31 ?_
        refine x_aload_n C eX8_fullest_32 rfl ?_
        refine x_iload_n C eX8_fullest_33 rfl ?_
        refine x_bipush C eX8_fullest_34 rfl ?_
        refine yV2r [] [_, _] C (s_X8_of hK hr (by omega) (by omega)) v_X8_of vv_X8_of s_RX8_64 eX8_fullest_36 (fun _ _ h => WF_pick [0, 1] rfl rfl h) (rcv 0 rfl) rfl (nle rfl) (nle rfl) (nle rfl) (nle rfl) rfl ?_
        skip
        refine x_aload_n C eX8_fullest_39 rfl ?_
        refine x_iload_n C eX8_fullest_40 rfl ?_
        refine x_bipush C eX8_fullest_41 rfl ?_
        refine yV2r [] [_, _] C (s_X8_of hK hr (by omega) (by omega)) v_X8_of vv_X8_of s_RX8_64 eX8_fullest_43 (fun _ _ h => WF_pick [0, 1] rfl rfl h) (rcv 0 rfl) rfl (nle rfl) (nle rfl) (nle rfl) (nle rfl) rfl ?_
        skip
        refine x_iadd C eX8_fullest_46 ?_
        refine x_icmp_le 54 C eX8_fullest_47 rfl (by omega) (by omega) (fun h47 => ?_) (fun h47 => ?_)
        · refine x_iload_n C eX8_fullest_54 rfl ?_
          refine x_istore_n [_, _, _] C eX8_fullest_55 rfl rfl (nlt rfl) ?_
          refine x_iinc [_, _, _] C eX8_fullest_56 rfl rfl rfl ?_
          refine x_goto (pc' := 9) C eX8_fullest_59 rfl ?_
          have h3 := ih (k + 1) (by omega) (by omega)
          first
            | (rw [show aFull n (k + 1) = (k : Int) + 1 from if_pos (by omega)] at h3; exact h3)
            | (rw [show aFull n (k + 1) = aFull n k from if_neg (by omega)] at h3; exact h3)
        · refine x_iload_n C eX8_fullest_50 rfl ?_
          refine x_goto (pc' := 55) C eX8_fullest_51 rfl ?_
          refine x_istore_n [_, _, _] C eX8_fullest_55 rfl rfl (nlt rfl) ?_
          refine x_iinc [_, _, _] C eX8_fullest_56 rfl rfl rfl ?_
          refine x_goto (pc' := 9) C eX8_fullest_59 rfl ?_
          have h3 := ih (k + 1) (by omega) (by omega)
          first
            | (rw [show aFull n (k + 1) = (k : Int) + 1 from if_pos (by omega)] at h3; exact h3)
            | (rw [show aFull n (k + 1) = aFull n k from if_neg (by omega)] at h3; exact h3)
  refine x_aload_n C eX8_fullest_0 rfl ?_
  refine x_iconst C eX8_fullest_1 ?_
  refine x_putI [_, _] 0 C f_RX8_3 eX8_fullest_2 rfl rfl rfl ?_
  refine x_iconst C eX8_fullest_5 ?_
  refine x_istore_n [_, _, _] C eX8_fullest_6 rfl rfl (nlt rfl) ?_
  refine x_iconst C eX8_fullest_7 ?_
  refine x_istore_n [_, _, _] C eX8_fullest_8 rfl rfl (nlt rfl) ?_
  exact loop 20 0 (by omega) (by omega)

set_option maxHeartbeats 4000000 in
set_option maxRecDepth 100000 in
theorem s_X8_busiest {G : Gm} {l : Launch} (hK : KG G) {o : Nat} {A : Nat → Nat} {I : Nat → Int} {N : Nat → Net} {n : Net} {b : Int} (hN : NetOk b n) (hb : b ≤ 900000000) : MD G l yX8_busiest cX8_busiest 3 (some .int) 3 0 0 [.ref o] [ob o 10 (shM A 1) I, fam G A (uN N 1 (n))] (some (.int (zI (if n (-1) 4 = 0 then -1 else aBusy n ((n (-1) 0).toNat - 1))))) [ob o 10 (shM A 1) (up I 0 0), fam G A (uN N 1 (n))] := by
  refine MX_of (lv := [some (.ref o), none, none]) hK (by decide +kernel) rfl (nle rfl) (fun X C F => ?_)
  have C : OKc G X l RX8 "busiest" cX8_busiest 3 (some .int) 3 0 0 := C
  have hH := hN.1
  unfold HeadOk at hH
  have hr : rok 1 := Or.inl rfl
  have loop : ∀ (f k : Nat), (k : Int) + 1 ≤ n (-1) 0 → n (-1) 0 < k + 1 + f → WX G X 0 0 [ob o 10 (shM A 1) (up I 0 0), fam G A (uN N 1 (n))] 9 [some (.ref o), some (.int (zI (aBusy n k))), some (.int (zI ((k : Int) + 1)))] [] := by
    intro f
    induction f with
    | zero => intro k h0 h1; exfalso; omega
    | succ f ih =>
      intro k h0 h1
      have hR := aBusy_r n k
      refine x_iload_n C eX8_busiest_9 rfl ?_
      refine x_aload_n C eX8_busiest_10 rfl ?_
      refine yV0r [] [_, _] C (s_X8_lines hK hr) v_X8_lines vv_X8_lines s_RX8_68 eX8_busiest_11 (fun _ _ h => WF_pick [0, 1] rfl rfl h) (rcv 0 rfl) rfl (nle rfl) (nle rfl) (nle rfl) (nle rfl) rfl ?_
      try simp only [Int.reduceAdd]
      refine x_icmp_ge 44 C eX8_busiest_14 rfl (by omega) (by omega) (fun h14 => ?_) (fun h14 => ?_)
      · refine x_aload_n C eX8_busiest_44 rfl ?_
        refine x_getR 0 C f_RX8_17 eX8_busiest_45 rfl rfl ?_
        refine x_iconst C eX8_busiest_48 ?_
        refine x_faldU 1 C eX8_busiest_49 rfl (Or.inl rfl) (by omega) ?_
        rw [enc_head _ (by omega)]
        refine x_if_ne 57 C eX8_busiest_50 rfl (by omega) (fun h50 => ?_) (fun h50 => ?_)
        · refine x_iload_n C eX8_busiest_57 rfl ?_
          refine x_iret (by first | rfl | exact (narZ (by omega)).1) C F eX8_busiest_58 () ?_ trivial (fun cf c h => ?_) (nle rfl) (nle rfl)
          · first
              | (rw [if_pos (by omega)])
              | (rw [if_neg (by omega), show (n (-1) 0).toNat - 1 = k by omega])
          · exact WF_pick [0, 1] rfl rfl h
        · refine x_iconst C eX8_busiest_53 ?_
          refine x_goto (pc' := 58) C eX8_busiest_54 rfl ?_
          refine x_iret (by first | rfl | exact (narZ (by omega)).1) C F eX8_busiest_58 () ?_ trivial (fun cf c h => ?_) (nle rfl) (nle rfl)
          · first
              | (rw [if_pos (by omega)])
              | (rw [if_neg (by omega), show (n (-1) 0).toNat - 1 = k by omega])
          · exact WF_pick [0, 1] rfl rfl h
      · have hL := LineOk_c (hN.2.2 ((k : Int) + 1) (by omega) (by omega)) (k := 17) (by decide) (by decide)
        have hL2 := LineOk_c (hN.2.2 (aBusy n k) (by omega) (by omega)) (k := 17) (by decide) (by decide)
        refine x_aload_n C eX8_busiest_17 rfl ?_
        refine x_iload_n C eX8_busiest_18 rfl ?_
        refine x_iconst C eX8_busiest_19 ?_
        refine yV2r [] [_, _] C (s_X8_counted hK hr (by omega) (by omega)) v_X8_counted vv_X8_counted s_RX8_111 eX8_busiest_20 (fun _ _ h => WF_pick [0, 1] rfl rfl h) (rcv 0 rfl) rfl (nle rfl) (nle rfl) (nle rfl) (nle rfl) rfl ?_
        try simp only [Int.reduceAdd]
        refine x_aload_n C eX8_busiest_23 rfl ?_
        refine x_iload_n C eX8_busiest_24 rfl ?_
        refine x_iconst C eX8_busiest_25 ?_
        refine yV2r [] [_, _] C (s_X8_counted hK hr (by omega) (by omega)) v_X8_counted vv_X8_counted s_RX8_111 eX8_busiest_26 (fun _ _ h => WF_pick [0, 1] rfl rfl h) (rcv 0 rfl) rfl (nle rfl) (nle rfl) (nle rfl) (nle rfl) rfl ?_
        try simp only [Int.reduceAdd]
        refine x_icmp_le 36 C eX8_busiest_29 rfl (by omega) (by omega) (fun h29 => ?_) (fun h29 => ?_)
        · refine x_iload_n C eX8_busiest_36 rfl ?_
          refine x_istore_n [_, _, _] C eX8_busiest_37 rfl rfl (nlt rfl) ?_
          refine x_iinc [_, _, _] C eX8_busiest_38 rfl rfl rfl ?_
          refine x_goto (pc' := 9) C eX8_busiest_41 rfl ?_
          have h3 := ih (k + 1) (by omega) (by omega)
          first
            | (rw [show aBusy n (k + 1) = (k : Int) + 1 from if_pos (by omega)] at h3; exact h3)
            | (rw [show aBusy n (k + 1) = aBusy n k from if_neg (by omega)] at h3; exact h3)
        · refine x_iload_n C eX8_busiest_32 rfl ?_
          refine x_goto (pc' := 37) C eX8_busiest_33 rfl ?_
          refine x_istore_n [_, _, _] C eX8_busiest_37 rfl rfl (nlt rfl) ?_
          refine x_iinc [_, _, _] C eX8_busiest_38 rfl rfl rfl ?_
          refine x_goto (pc' := 9) C eX8_busiest_41 rfl ?_
          have h3 := ih (k + 1) (by omega) (by omega)
          first
            | (rw [show aBusy n (k + 1) = (k : Int) + 1 from if_pos (by omega)] at h3; exact h3)
            | (rw [show aBusy n (k + 1) = aBusy n k from if_neg (by omega)] at h3; exact h3)
  refine x_aload_n C eX8_busiest_0 rfl ?_
  refine x_iconst C eX8_busiest_1 ?_
  refine x_putI [_, _] 0 C f_RX8_3 eX8_busiest_2 rfl rfl rfl ?_
  refine x_iconst C eX8_busiest_5 ?_
  refine x_istore_n [_, _, _] C eX8_busiest_6 rfl rfl (nlt rfl) ?_
  refine x_iconst C eX8_busiest_7 ?_
  refine x_istore_n [_, _, _] C eX8_busiest_8 rfl rfl (nlt rfl) ?_
  exact loop 20 0 (by omega) (by omega)

set_option maxHeartbeats 4000000 in
set_option maxRecDepth 100000 in
theorem s_X8_longestRun {G : Gm} {l : Launch} (hK : KG G) {o : Nat} {A : Nat → Nat} {I : Nat → Int} {N : Nat → Net} {n : Net} {b : Int} (hN : NetOk b n) (hb : b ≤ 900000000) : MD G l yX8_longestRun cX8_longestRun 4 (some .int) 3 0 0 [.ref o] [ob o 10 (shM A 1) I, fam G A (uN N 1 (n))] (some (.int (zI (aRun n (n (-1) 7).toNat).1))) [ob o 10 (shM A 1) (up I 0 0), fam G A (uN N 1 (n))] := by
  refine MX_of (lv := [some (.ref o), none, none, none]) hK (by decide +kernel) rfl (nle rfl) (fun X C F => ?_)
  have C : OKc G X l RX8 "longestRun" cX8_longestRun 4 (some .int) 3 0 0 := C
  have hH := hN.1
  unfold HeadOk at hH
  have hr : rok 1 := Or.inl rfl
  have loop : ∀ (f k : Nat), (k : Int) ≤ n (-1) 7 → n (-1) 7 < k + f → WX G X 0 0 [ob o 10 (shM A 1) (up I 0 0), fam G A (uN N 1 (n))] 11 [some (.ref o), some (.int (zI (aRun n k).1)), some (.int (zI (aRun n k).2)), some (.int (zI k))] [] := by
    intro f
    induction f with
    | zero => intro k h0 h1; exfalso; omega
    | succ f ih =>
      intro k h0 h1
      have hR := aRun_r n k
      refine x_iload_n C eX8_longestRun_11 rfl ?_
      refine x_aload_n C eX8_longestRun_12 rfl ?_
      refine yV0r [] [_, _] C (s_X8_logMany hK ) v_X8_logMany vv_X8_logMany s_RX8_311 eX8_longestRun_13 (fun _ _ h => WF_pick [0, 1] rfl rfl h) (rcv 0 rfl) rfl (nle rfl) (nle rfl) (nle rfl) (nle rfl) rfl ?_
      skip
      refine x_icmp_ge 60 C eX8_longestRun_16 rfl (by omega) (by omega) (fun h16 => ?_) (fun h16 => ?_)
      · refine x_iload_n C eX8_longestRun_60 rfl ?_
        refine x_iret (by first | rfl | exact (narZ (by omega)).1) C F eX8_longestRun_61 () ?_ trivial (fun cf c h => ?_) (nle rfl) (nle rfl)
        · rw [show (n (-1) 7).toNat = k by omega]
        · exact WF_pick [0, 1] rfl rfl h
      · have hk9 : (k : Int) < 40 := by omega
        refine x_iload_n C eX8_longestRun_19 rfl ?_
        refine x_if_le 46 C eX8_longestRun_20 rfl (by omega) (fun h20 => ?_) (fun h20 => ?_)
        · refine x_iconst C eX8_longestRun_46 ?_
          refine x_istore_n [_, _, _, _] C eX8_longestRun_47 rfl rfl (nlt rfl) ?_
          refine x_iload_n C eX8_longestRun_48 rfl ?_
          refine x_iload_n C eX8_longestRun_49 rfl ?_
          refine x_max C s_RX8_114 s2_max eX8_longestRun_50 rfl (nle rfl) (nle rfl) (nle rfl) (nle rfl) (by omega) (by omega) ?_
          refine x_istore_n [_, _, _, _] C eX8_longestRun_53 rfl rfl (nlt rfl) ?_
          refine x_iinc [_, _, _, _] C eX8_longestRun_54 rfl rfl rfl ?_
          refine x_goto (pc' := 11) C eX8_longestRun_57 rfl ?_
          have h3 := ih (k + 1) (by omega) (by omega)
          unfold aRun at h3
          dsimp only at h3
          first
            | (rw [if_pos (by omega)] at h3; exact h3)
            | (rw [if_neg (by omega)] at h3; exact h3)
        · have hG := hN.2.1 k (by omega) (by omega)
          have hG2 := hN.2.1 ((k : Int) - 1) (by omega) (by omega)
          refine x_aload_n C eX8_longestRun_23 rfl ?_
          refine x_iload_n C eX8_longestRun_24 rfl ?_
          refine x_iconst C eX8_longestRun_25 ?_
          refine yV2r [] [_, _] C (s_X8_ofLog hK (by omega)) v_X8_ofLog vv_X8_ofLog s_RX8_316 eX8_longestRun_26 (fun _ _ h => WF_pick [0, 1] rfl rfl h) (rcv 0 rfl) rfl (nle rfl) (nle rfl) (nle rfl) (nle rfl) rfl ?_
          skip
          refine x_aload_n C eX8_longestRun_29 rfl ?_
          refine x_iload_n C eX8_longestRun_30 rfl ?_
          refine x_iconst C eX8_longestRun_31 ?_
          refine x_isub C eX8_longestRun_32 ?_
          refine x_iconst C eX8_longestRun_33 ?_
          refine yV2r [] [_, _] C (s_X8_ofLog hK (by omega)) v_X8_ofLog vv_X8_ofLog s_RX8_316 eX8_longestRun_34 (fun _ _ h => WF_pick [0, 1] rfl rfl h) (rcv 0 rfl) rfl (nle rfl) (nle rfl) (nle rfl) (nle rfl) rfl ?_
          skip
          refine x_icmp_ne 46 C eX8_longestRun_37 rfl (by omega) (by omega) (fun h37 => ?_) (fun h37 => ?_)
          · refine x_iconst C eX8_longestRun_46 ?_
            refine x_istore_n [_, _, _, _] C eX8_longestRun_47 rfl rfl (nlt rfl) ?_
            refine x_iload_n C eX8_longestRun_48 rfl ?_
            refine x_iload_n C eX8_longestRun_49 rfl ?_
            refine x_max C s_RX8_114 s2_max eX8_longestRun_50 rfl (nle rfl) (nle rfl) (nle rfl) (nle rfl) (by omega) (by omega) ?_
            refine x_istore_n [_, _, _, _] C eX8_longestRun_53 rfl rfl (nlt rfl) ?_
            refine x_iinc [_, _, _, _] C eX8_longestRun_54 rfl rfl rfl ?_
            refine x_goto (pc' := 11) C eX8_longestRun_57 rfl ?_
            have h3 := ih (k + 1) (by omega) (by omega)
            unfold aRun at h3
            dsimp only at h3
            first
              | (rw [if_pos (by omega)] at h3; exact h3)
              | (rw [if_neg (by omega)] at h3; exact h3)
          · refine x_iload_n C eX8_longestRun_40 rfl ?_
            refine x_iconst C eX8_longestRun_41 ?_
            refine x_iadd C eX8_longestRun_42 ?_
            refine x_goto (pc' := 47) C eX8_longestRun_43 rfl ?_
            refine x_istore_n [_, _, _, _] C eX8_longestRun_47 rfl rfl (nlt rfl) ?_
            refine x_iload_n C eX8_longestRun_48 rfl ?_
            refine x_iload_n C eX8_longestRun_49 rfl ?_
            refine x_max C s_RX8_114 s2_max eX8_longestRun_50 rfl (nle rfl) (nle rfl) (nle rfl) (nle rfl) (by omega) (by omega) ?_
            refine x_istore_n [_, _, _, _] C eX8_longestRun_53 rfl rfl (nlt rfl) ?_
            refine x_iinc [_, _, _, _] C eX8_longestRun_54 rfl rfl rfl ?_
            refine x_goto (pc' := 11) C eX8_longestRun_57 rfl ?_
            have h3 := ih (k + 1) (by omega) (by omega)
            unfold aRun at h3
            dsimp only at h3
            first
              | (rw [if_pos (by omega)] at h3; exact h3)
              | (rw [if_neg (by omega)] at h3; exact h3)
  refine x_aload_n C eX8_longestRun_0 rfl ?_
  refine x_iconst C eX8_longestRun_1 ?_
  refine x_putI [_, _] 0 C f_RX8_3 eX8_longestRun_2 rfl rfl rfl ?_
  refine x_iconst C eX8_longestRun_5 ?_
  refine x_istore_n [_, _, _, _] C eX8_longestRun_6 rfl rfl (nlt rfl) ?_
  refine x_iconst C eX8_longestRun_7 ?_
  refine x_istore_n [_, _, _, _] C eX8_longestRun_8 rfl rfl (nlt rfl) ?_
  refine x_iconst C eX8_longestRun_9 ?_
  refine x_istore_n [_, _, _, _] C eX8_longestRun_10 rfl rfl (nlt rfl) ?_
  exact loop 50 0 (by omega) (by omega)

set_option maxHeartbeats 4000000 in
set_option maxRecDepth 100000 in
theorem s_X8_sum {G : Gm} {l : Launch} (hK : KG G) {o : Nat} {A : Nat → Nat} {I : Nat → Int} {N : Nat → Net} {n : Net} {b : Int} {w9 : Int} (hN : NetOk b n) (hb : b ≤ 900000000) (r_w9 : -2147483648 ≤ w9 ∧ w9 < 2147483648) : MD G l yX8_sum cX8_sum 4 (some .int) 4 0 0 [.ref o, .int (zI w9)] [ob o 10 (shM A 1) I, fam G A (uN N 1 (n))] (some (.int (zI (if (0 ≤ w9 ∧ w9 ≤ 11) ∧ (True) ∧ (True) then qs (fun l => n l (16 + w9)) (n (-1) 0).toNat else 0)))) [ob o 10 (shM A 1) (up I 0 (thr (0 ≤ w9 ∧ w9 ≤ 11) (True) (True))), fam G A (uN N 1 (n))] := by
  refine MX_of (lv := [some (.ref o), some (.int (zI w9)), none, none]) hK (by decide +kernel) rfl (nle rfl) (fun X C F => ?_)
  have C : OKc G X l RX8 "sum" cX8_sum 4 (some .int) 4 0 0 := C
  have hH := hN.1
  unfold HeadOk at hH
  have hr : rok 1 := Or.inl rfl
  have loop : (0 ≤ w9 ∧ w9 ≤ 11) ∧ (True) ∧ (True) → ∀ (f k : Nat), (k : Int) ≤ n (-1) 0 → n (-1) 0 < k + f → WX G X 0 0 [ob o 10 (shM A 1) (up I 0 (thr (0 ≤ w9 ∧ w9 ≤ 11) (True) (True))), fam G A (uN N 1 (n))] 17 [some (.ref o), some (.int (zI w9)), some (.int (zI (qs (fun l => n l (16 + w9)) k))), some (.int (zI k))] [] := by
    intro hP f
    induction f with
    | zero => intro k h0 h1; exfalso; omega
    | succ f ih =>
      intro k h0 h1
      refine x_iload_n C eX8_sum_17 rfl ?_
      refine x_aload_n C eX8_sum_18 rfl ?_
      refine yV0r [] [_, _] C (s_X8_lines hK hr) v_X8_lines vv_X8_lines s_RX8_68 eX8_sum_19 (fun _ _ h => WF_pick [0, 1] rfl rfl h) (rcv 0 rfl) rfl (nle rfl) (nle rfl) (nle rfl) (nle rfl) rfl ?_
      skip
      refine x_icmp_ge 40 C eX8_sum_22 rfl (by omega) (by omega) (fun h22 => ?_) (fun h22 => ?_)
      · refine x_iload_n C eX8_sum_40 rfl ?_
        refine x_iret (by first | rfl | exact (narZ (by omega)).1) C F eX8_sum_41 () ?_ trivial (fun cf c h => ?_) (nle rfl) (nle rfl)
        · rw [if_pos hP, show (n (-1) 0).toNat = k by omega]
        · exact WF_pick [0, 1] rfl rfl h
      · refine x_iload_n C eX8_sum_25 rfl ?_
        refine x_aload_n C eX8_sum_26 rfl ?_
        refine x_iload_n C eX8_sum_27 rfl ?_
        refine x_iload_n C eX8_sum_28 rfl ?_
        refine yV2r [] [_, _] C (s_X8_counted hK hr (by omega) (by omega)) v_X8_counted vv_X8_counted s_RX8_111 eX8_sum_29 (fun _ _ h => WF_pick [0, 1] rfl rfl h) (rcv 0 rfl) rfl (nle rfl) (nle rfl) (nle rfl) (nle rfl) rfl ?_
        skip
        refine x_iadd C eX8_sum_32 ?_
        refine x_istore_n [_, _, _, _] C eX8_sum_33 rfl rfl (nlt rfl) ?_
        refine x_iinc [_, _, _, _] C eX8_sum_34 rfl rfl rfl ?_
        refine x_goto (pc' := 17) C eX8_sum_37 rfl ?_
        exact ih (k + 1) (by omega) (by omega)
  refine x_aload_n C eX8_sum_0 rfl ?_
  refine x_iload_n C eX8_sum_1 rfl ?_
  refine yS1r [_, _] [_, _] C (s_X8_isCount hK (by (try simp (disch := omega) only [Int.reduceAdd, uN_s, uN_uN, un_s, un_un, un_n, ub_s, ub_n, inc, bStop_n, bDrop_s, bDrop_n, unub_n, nLog_n, nLog_h, Int.sub_add_cancel]); omega)) v_X8_isCount vs_X8_isCount s_RX8_308 eX8_sum_2 (fun _ _ h => WF_pick [0, 1] rfl rfl h) rfl (nle rfl) (nle rfl) (nle rfl) (nle rfl) rfl ?_
  refine yV1r [_] [_, _] C (s_X8_passesv hK (0 ≤ w9 ∧ w9 ≤ 11) (by first | rfl | rw [bz_t (by omega)] | rw [bz_f (by omega)])) v_X8_passes vv_X8_passes s_RX8_142 eX8_sum_5 (fun _ _ h => WF_pick [0, 1] rfl rfl h) (rcv 0 rfl) rfl (nle rfl) (nle rfl) (nle rfl) (nle rfl) rfl ?_
  skip
  refine x_ifb_ne 13 C eX8_sum_8 rfl (fun h8 => ?_) (fun h8 => ?_)
  · refine x_iconst C eX8_sum_13 ?_
    refine x_istore_n [_, _, _, _] C eX8_sum_14 rfl rfl (nlt rfl) ?_
    refine x_iconst C eX8_sum_15 ?_
    refine x_istore_n [_, _, _, _] C eX8_sum_16 rfl rfl (nlt rfl) ?_
    exact loop h8 20 0 (by omega) (by omega)
  · refine x_iconst C eX8_sum_11 ?_
    refine x_iret (by first | rfl | exact (narZ (by omega)).1) C F eX8_sum_12 () ?_ trivial (fun cf c h => ?_) (nle rfl) (nle rfl)
    · split
      all_goals first | rfl | contradiction
    · exact WF_pick [0, 1] rfl rfl h
