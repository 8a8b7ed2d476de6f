set_option maxHeartbeats 4000000 in
set_option maxRecDepth 100000 in
theorem s_X8_looks {G : Gm} {l : Launch} (hK : KG G) {o r : Nat} {A : Nat → Nat} {I : Nat → Int} {N : Nat → Net} {n : Net} {b : Int} (hr : rok r) (hN : NetOk b n) (hb : b ≤ 999999998) : MD G l yX8_looks cX8_looks 3 (some .boolean) 5 0 0 [.ref o] [ob o 10 (shM A r) I, fam G A (uN N r n)] (some (.int (zI (bz (¬ (nLook (n (-1) 0).toNat n).2 = -1))))) [ob o 10 (shM A r) I, fam G A (uN N r ((nLook (n (-1) 0).toNat n).1))] := by
  refine MX_of (lv := [some (.ref o), none, none]) hK (by decide +kernel) rfl (nle rfl) (fun X C F => ?_)
  have C : OKc G X l RX8 "looks" cX8_looks 3 (some .boolean) 5 0 0 := C
  have hH := hN.1
  unfold HeadOk at hH
  have loop : ∀ (f j : Nat) (m : Net), NetOk b m → m (-1) 0 = n (-1) 0 → (j : Int) ≤ n (-1) 0 → j < f → nLook j m = nLook (n (-1) 0).toNat n → WX G X 0 0 [ob o 10 (shM A r) I, fam G A (uN N r (m))] 2 [some (.ref o), some (.int (zI (n (-1) 0 - (j : Int)))), none] [] := by
    intro f
    induction f with
    | zero => intro j m hN h0 h1 h2 h3; exfalso; omega
    | succ f ih =>
      intro j m hN h0 h1 h2 h3
      have hs := nSender_ok hN
      have hM := hN.1
      have hS := hN.2.2 (nSender m) hs.1 hs.2
      have hT := hN.2.2 (m (-1) 2) (by unfold HeadOk at hM; omega) (by unfold HeadOk at hM; omega)
      unfold HeadOk at hM
      unfold LineOk at hS hT
      refine x_iload_n C eX8_looks_2 rfl ?_
      refine x_aload_n C eX8_looks_3 rfl ?_
      refine yV0r [] [_, _] C (s_X8_lines hK hr) v_X8_lines vv_X8_lines s_RX8_68 eX8_looks_4 (fun _ _ h => WF_pick [0, 1] rfl rfl h) (rcv 0 rfl) rfl (nle rfl) (nle rfl) (nle rfl) (nle rfl) rfl ?_
      skip
      refine x_icmp_ge 50 C eX8_looks_7 rfl (by omega) (by omega) (fun h7 => ?_) (fun h7 => ?_)
      · refine x_iconst C eX8_looks_50 ?_
        refine x_iret (narZ (by omega)).1 C F eX8_looks_51 () ?_ trivial (fun cf c h => ?_) (nle rfl) (nle rfl)
        · rw [bz_f (fun z => z (by rw [← h3, show j = 0 by omega]; rfl))]
        · rw [← h3, show j = 0 by omega]
          exact WF_pick [0, 1] rfl rfl h
      · obtain ⟨j', rfl⟩ : ∃ j', j = j' + 1 := ⟨j - 1, by omega⟩
        refine x_aload_n C eX8_looks_10 rfl ?_
        refine yV0r [] [_, _] C (s_X8_sender hK hr hN (by omega)) v_X8_sender vv_X8_sender s_RX8_120 eX8_looks_11 (fun _ _ h => WF_pick [0, 1] rfl rfl h) (rcv 0 rfl) rfl (nle rfl) (nle rfl) (nle rfl) (nle rfl) rfl ?_
        skip
        refine x_istore_n [_, _, _] C eX8_looks_14 rfl rfl (nlt rfl) ?_
        refine x_aload_n C eX8_looks_15 rfl ?_
        refine x_iload_n C eX8_looks_16 rfl ?_
        refine yV1r [] [_, _] C (s_X8_isHeld hK hr (by omega) (by omega)) v_X8_isHeld vv_X8_isHeld s_RX8_83 eX8_looks_17 (fun _ _ h => WF_pick [0, 1] rfl rfl h) (rcv 0 rfl) rfl (nle rfl) (nle rfl) (nle rfl) (nle rfl) rfl ?_
        skip
        refine x_ifb_ne 40 C eX8_looks_20 rfl (fun h20 => ?_) (fun h20 => ?_)
        · refine x_aload_n C eX8_looks_40 rfl ?_
          refine yV0v [] [_, _] C (s_X8_passOn hK hr (by omega) (by omega)) v_X8_passOn vv_X8_passOn s_RX8_117 eX8_looks_41 (fun _ _ h => WF_pick [0, 1] rfl rfl h) (rcv 0 rfl) rfl (nle rfl) (nle rfl) (nle rfl) (nle rfl) rfl ?_
          skip
          refine x_iinc [_, _, _] C eX8_looks_44 rfl rfl rfl ?_
          refine x_goto (pc' := 2) C eX8_looks_47 rfl ?_
          refine x_lv [_, _, none] rfl (lx_drop _ [2] rfl) ?_
          have hh := ih j' (nPass m) (NetOk_pass hN) (by rw [nPass_h (by decide)]; exact h0) (by omega) (by omega) (by rw [← h3]; exact (if_neg (by omega)).symm)
          rw [show n (-1) 0 - (j' : Int) = n (-1) 0 - ((j' + 1 : Nat) : Int) + 1 by omega] at hh
          exact hh
        · refine x_aload_n C eX8_looks_23 rfl ?_
          refine x_iload_n C eX8_looks_24 rfl ?_
          refine x_bipush C eX8_looks_25 rfl ?_
          refine yV2r [] [_, _] C (s_X8_of hK hr (by omega) (by omega)) v_X8_of vv_X8_of s_RX8_64 eX8_looks_27 (fun _ _ h => WF_pick [0, 1] rfl rfl h) (rcv 0 rfl) rfl (nle rfl) (nle rfl) (nle rfl) (nle rfl) rfl ?_
          skip
          refine x_if_le 40 C eX8_looks_30 rfl (by omega) (fun h30 => ?_) (fun h30 => ?_)
          · refine x_aload_n C eX8_looks_40 rfl ?_
            refine yV0v [] [_, _] C (s_X8_passOn hK hr (by omega) (by omega)) v_X8_passOn vv_X8_passOn s_RX8_117 eX8_looks_41 (fun _ _ h => WF_pick [0, 1] rfl rfl h) (rcv 0 rfl) rfl (nle rfl) (nle rfl) (nle rfl) (nle rfl) rfl ?_
            skip
            refine x_iinc [_, _, _] C eX8_looks_44 rfl rfl rfl ?_
            refine x_goto (pc' := 2) C eX8_looks_47 rfl ?_
            refine x_lv [_, _, none] rfl (lx_drop _ [2] rfl) ?_
            have hh := ih j' (nPass m) (NetOk_pass hN) (by rw [nPass_h (by decide)]; exact h0) (by omega) (by omega) (by rw [← h3]; exact (if_neg (by omega)).symm)
            rw [show n (-1) 0 - (j' : Int) = n (-1) 0 - ((j' + 1 : Nat) : Int) + 1 by omega] at hh
            exact hh
          · refine x_aload_n C eX8_looks_33 rfl ?_
            refine x_iload_n C eX8_looks_34 rfl ?_
            refine yV1v [] [_, _] C (s_X8_send hK hr hN (by omega) hs (by omega)) v_X8_send vv_X8_send s_RX8_123 eX8_looks_35 (fun _ _ h => WF_pick [0, 1] rfl rfl h) (rcv 0 rfl) rfl (nle rfl) (nle rfl) (nle rfl) (nle rfl) rfl ?_
            skip
            refine x_iconst C eX8_looks_38 ?_
            refine x_iret (narZ (by omega)).1 C F eX8_looks_39 () ?_ trivial (fun cf c h => ?_) (nle rfl) (nle rfl)
            · rw [bz_t (show ¬ (nLook (n (-1) 0).toNat n).2 = -1 by rw [← h3, show nLook (j' + 1) m = (nSend m (nSender m), nSender m) from if_pos (by omega)]; dsimp only; omega)]
            · rw [← h3, show nLook (j' + 1) m = (nSend m (nSender m), nSender m) from if_pos (by omega)]
              exact WF_pick [0, 1] rfl rfl h
  refine x_iconst C eX8_looks_0 ?_
  refine x_istore_n [_, _, _] C eX8_looks_1 rfl rfl (nlt rfl) ?_
  have h := loop ((n (-1) 0).toNat + 1) (n (-1) 0).toNat n hN rfl (by omega) (by omega) rfl
  rw [show n (-1) 0 - (((n (-1) 0).toNat : Nat) : Int) = 0 by omega] at h
  exact h

set_option maxHeartbeats 4000000 in
set_option maxRecDepth 100000 in
theorem s_X8_tickOnce {G : Gm} {l : Launch} (hK : KG G) {o r : Nat} {A : Nat → Nat} {I : Nat → Int} {N : Nat → Net} {n : Net} {b : Int} (hr : rok r) (hN : NetOk b n) (hb : b ≤ 999999990) : MD G l yX8_tickOnce cX8_tickOnce 2 none 6 0 0 [.ref o] [ob o 10 (shM A r) I, fam G A (uN N r n)] none [ob o 10 (shM A r) I, fam G A (uN N r (nTick n))] := by
  refine MX_of (lv := [some (.ref o), none]) hK (by decide +kernel) rfl (nle rfl) (fun X C F => ?_)
  have C : OKc G X l RX8 "tickOnce" cX8_tickOnce 2 none 6 0 0 := C
  have hH := hN.1
  unfold HeadOk at hH
  have hA := NetOk_held (NetOk_time (NetOk_mono hN (show b ≤ b + 1 by omega)) (by omega))
  have hB := NetOk_time (NetOk_mono hN (show b ≤ b + 1 by omega)) (by omega)
  have hP := NetOk_tick0 hN
  have t0 := nTime_0 n (show ¬ (0 : Int) = 1 by decide)
  have eH : (nHeld (nTime n)) (-1) 0 = n (-1) 0 := by rw [nHeld_h]; exact t0
  have eL : nLook ((nHeld (nTime n)) (-1) 0).toNat (nHeld (nTime n)) = nLooks n := by rw [eH]; rfl
  have loop2 : ∀ (j : Nat) (k : Int), 0 ≤ k → k ≤ n (-1) 0 → n (-1) 0 - k < j → WX G X 0 0 [ob o 10 (shM A r) I, fam G A (uN N r (nDelK (nTick0 n) k))] 65 [some (.ref o), some (.int (zI k))] [] := by
    intro j
    induction j with
    | zero => intro k h0 h1 h2; exfalso; omega
    | succ j ih =>
      intro k h0 h1 h2
      have e0 : nDelK (nTick0 n) k (-1) 0 = n (-1) 0 := by rw [nDelK_o (by omega)]; exact hP.2
      have ek : nDelK (nTick0 n) k k = nTick0 n k := nDelK_o (by omega)
      refine x_iload_n C eX8_tickOnce_65 rfl ?_
      refine x_aload_n C eX8_tickOnce_66 rfl ?_
      refine yV0r [] [_, _] C (s_X8_lines hK hr) v_X8_lines vv_X8_lines s_RX8_68 eX8_tickOnce_67 (fun _ _ h => WF_pick [0, 1] rfl rfl h) (rcv 0 rfl) rfl (nle rfl) (nle rfl) (nle rfl) (nle rfl) rfl ?_
      try simp only [e0, ek]
      refine x_icmp_ge 84 C eX8_tickOnce_70 rfl (by omega) (by omega) (fun h70 => ?_) (fun h70 => ?_)
      · refine x_vret C F eX8_tickOnce_84 () rfl trivial (fun cf c h => ?_) (nle rfl) (nle rfl)
        obtain rfl : k = n (-1) 0 := by omega
        rw [nTick_K hN]
        exact WF_pick [0, 1] rfl rfl h
      · have hk := hP.1.2.2 k h0 (by rw [hP.2]; exact h70)
        unfold LineOk at hk
        refine x_aload_n C eX8_tickOnce_73 rfl ?_
        refine x_iload_n C eX8_tickOnce_74 rfl ?_
        refine yV1v [] [_, _] C (s_X8_deliver hK hr (by (try simp only [e0, ek]); omega) (by (try simp only [e0, ek]); omega)) v_X8_deliver vv_X8_deliver s_RX8_130 eX8_tickOnce_75 (fun _ _ h => WF_pick [0, 1] rfl rfl h) (rcv 0 rfl) rfl (nle rfl) (nle rfl) (nle rfl) (nle rfl) rfl ?_
        try simp only [e0, ek]
        refine x_iinc [_, _] C eX8_tickOnce_78 rfl rfl rfl ?_
        refine x_goto (pc' := 65) C eX8_tickOnce_81 rfl ?_
        rw [nDelK_s _ h0]
        exact ih (k + 1) (by omega) (by omega) (by omega)
  have loop1 : ∀ (j : Nat) (k : Int), 0 ≤ k → k ≤ n (-1) 0 → n (-1) 0 - k < j → WX G X 0 0 [ob o 10 (shM A r) I, fam G A (uN N r (nHeldK (nTime n) k))] 12 [some (.ref o), some (.int (zI k))] [] := by
    intro j
    induction j with
    | zero => intro k h0 h1 h2; exfalso; omega
    | succ j ih =>
      intro k h0 h1 h2
      have e0 : nHeldK (nTime n) k (-1) 0 = n (-1) 0 := by rw [nHeldK_o (by omega)]; exact t0
      have ek : nHeldK (nTime n) k k = nTime n k := nHeldK_o (by omega)
      refine x_iload_n C eX8_tickOnce_12 rfl ?_
      refine x_aload_n C eX8_tickOnce_13 rfl ?_
      refine yV0r [] [_, _] C (s_X8_lines hK hr) v_X8_lines vv_X8_lines s_RX8_68 eX8_tickOnce_14 (fun _ _ h => WF_pick [0, 1] rfl rfl h) (rcv 0 rfl) rfl (nle rfl) (nle rfl) (nle rfl) (nle rfl) rfl ?_
      try simp only [e0, ek]
      refine x_icmp_ge 46 C eX8_tickOnce_17 rfl (by omega) (by omega) (fun h17 => ?_) (fun h17 => ?_)
      · obtain rfl : k = n (-1) 0 := by omega
        rw [nHeld_K]
        refine x_aload_n C eX8_tickOnce_46 rfl ?_
        refine yV0r [] [_, _] C (s_X8_looks hK hr hA (by omega)) v_X8_looks vv_X8_looks s_RX8_126 eX8_tickOnce_47 (fun _ _ h => WF_pick [0, 1] rfl rfl h) (rcv 0 rfl) rfl (nle rfl) (nle rfl) (nle rfl) (nle rfl) rfl ?_
        simp only [eL]
        refine x_ifb_ne 63 C eX8_tickOnce_50 rfl (fun h50 => ?_) (fun h50 => ?_)
        · refine x_iconst C eX8_tickOnce_63 ?_
          refine x_istore_n [_, _] C eX8_tickOnce_64 rfl rfl (nlt rfl) ?_
          have h := loop2 20 0 (by omega) (by omega) (by omega)
          rw [nDelK_0] at h
          unfold nTick0 at h
          first
            | (rw [if_pos (by omega)] at h; exact h)
            | (rw [if_neg (by omega)] at h; exact h)
        · refine x_aload_n C eX8_tickOnce_53 rfl ?_
          refine x_getR 0 C f_RX8_24 eX8_tickOnce_54 rfl rfl ?_
          refine x_iconst C eX8_tickOnce_57 ?_
          refine x_dup2 C eX8_tickOnce_58 rfl rfl ?_
          refine x_faldU 1 C eX8_tickOnce_59 rfl hr (by omega) ?_
          rw [enc_head _ (by omega)]
          refine x_iconst C eX8_tickOnce_60 ?_
          refine x_iadd C eX8_tickOnce_61 ?_
          refine x_fastU [_, _] 1 C eX8_tickOnce_62 rfl hr (by omega) rfl ?_
          rw [encU_head _ (by omega)]
          refine x_iconst C eX8_tickOnce_63 ?_
          refine x_istore_n [_, _] C eX8_tickOnce_64 rfl rfl (nlt rfl) ?_
          have h := loop2 20 0 (by omega) (by omega) (by omega)
          rw [nDelK_0] at h
          unfold nTick0 at h
          first
            | (rw [if_pos (by omega)] at h; exact h)
            | (rw [if_neg (by omega)] at h; exact h)
      · have hk := hB.2.2 k h0 (by rw [t0]; exact h17)
        unfold LineOk at hk
        refine x_aload_n C eX8_tickOnce_20 rfl ?_
        refine x_iload_n C eX8_tickOnce_21 rfl ?_
        refine x_bipush C eX8_tickOnce_22 rfl ?_
        refine x_iconst C eX8_tickOnce_24 ?_
        refine x_aload_n C eX8_tickOnce_25 rfl ?_
        refine x_iload_n C eX8_tickOnce_26 rfl ?_
        refine x_bipush C eX8_tickOnce_27 rfl ?_
        refine yV2r [] [_, _] C (s_X8_of hK hr (by (try simp only [e0, ek]); omega) (by (try simp only [e0, ek]); omega)) v_X8_of vv_X8_of s_RX8_64 eX8_tickOnce_29 (fun _ _ h => WF_pick [0, 1] rfl rfl h) (rcv 0 rfl) rfl (nle rfl) (nle rfl) (nle rfl) (nle rfl) rfl ?_
        try simp only [e0, ek]
        refine x_iconst C eX8_tickOnce_32 ?_
        refine x_isub C eX8_tickOnce_33 ?_
        refine x_max C s_RX8_114 s2_max eX8_tickOnce_34 rfl (nle rfl) (nle rfl) (nle rfl) (nle rfl) (by omega) (by omega) ?_
        refine yV3v [] [_, _] C (s_X8_put hK hr (by (try simp only [e0, ek]); omega) (by (try simp only [e0, ek]); omega)) v_X8_put vv_X8_put s_RX8_76 eX8_tickOnce_37 (fun _ _ h => WF_pick [0, 1] rfl rfl h) (rcv 0 rfl) rfl (nle rfl) (nle rfl) (nle rfl) (nle rfl) rfl ?_
        try simp only [e0, ek]
        refine x_iinc [_, _] C eX8_tickOnce_40 rfl rfl rfl ?_
        refine x_goto (pc' := 12) C eX8_tickOnce_43 rfl ?_
        rw [nHeldK_s _ h0]
        exact ih (k + 1) (by omega) (by omega) (by omega)
  refine x_aload_n C eX8_tickOnce_0 rfl ?_
  refine x_getR 0 C f_RX8_24 eX8_tickOnce_1 rfl rfl ?_
  refine x_iconst C eX8_tickOnce_4 ?_
  refine x_dup2 C eX8_tickOnce_5 rfl rfl ?_
  refine x_faldU 1 C eX8_tickOnce_6 rfl hr (by omega) ?_
  rw [enc_head _ (by omega)]
  refine x_iconst C eX8_tickOnce_7 ?_
  refine x_iadd C eX8_tickOnce_8 ?_
  refine x_fastU [_, _] 1 C eX8_tickOnce_9 rfl hr (by omega) rfl ?_
  rw [encU_head _ (by omega)]
  refine x_iconst C eX8_tickOnce_10 ?_
  refine x_istore_n [_, _] C eX8_tickOnce_11 rfl rfl (nlt rfl) ?_
  have h := loop1 20 0 (by omega) (by omega) (by omega)
  rw [nHeldK_0] at h
  exact h

set_option maxHeartbeats 4000000 in
set_option maxRecDepth 100000 in
theorem s_X8_ticks {G : Gm} {l : Launch} (hK : KG G) {o r : Nat} {A : Nat → Nat} {I : Nat → Int} {N : Nat → Net} {n : Net} {b t9 : Int} (hr : rok r) (hN : NetOk b n) (ht : 0 ≤ t9 ∧ t9 ≤ 100000) (hb : b + 4 * t9 ≤ 999999980) : MD G l yX8_ticks cX8_ticks 3 none 7 0 0 [.ref o, .int (zI t9)] [ob o 10 (shM A r) I, fam G A (uN N r n)] none [ob o 10 (shM A r) I, fam G A (uN N r (nTicks t9.toNat n))] := by
  refine MX_of (lv := [some (.ref o), some (.int (zI t9)), none]) hK (by decide +kernel) rfl (nle rfl) (fun X C F => ?_)
  have C : OKc G X l RX8 "ticks" cX8_ticks 3 none 7 0 0 := C
  have loop : ∀ (j k : Nat), (k : Int) ≤ t9 → t9 - k < j → WX G X 0 0 [ob o 10 (shM A r) I, fam G A (uN N r (nTicks k n))] 2 [some (.ref o), some (.int (zI t9)), some (.int (zI k))] [] := by
    intro j
    induction j with
    | zero => intro k h0 h1; exfalso; omega
    | succ j ih =>
      intro k h0 h1
      have hK9 := NetOk_ticks hN k
      refine x_iload_n C eX8_ticks_2 rfl ?_
      refine x_iload_n C eX8_ticks_3 rfl ?_
      refine x_icmp_ge 17 C eX8_ticks_4 rfl (by omega) (by omega) (fun h4 => ?_) (fun h4 => ?_)
      · refine x_vret C F eX8_ticks_17 () rfl trivial (fun cf c h => ?_) (nle rfl) (nle rfl)
        rw [show t9.toNat = k by omega]
        exact WF_pick [0, 1] rfl rfl h
      · refine x_aload_n C eX8_ticks_7 rfl ?_
        refine yV0v [] [_, _] C (s_X8_tickOnce hK hr hK9 (by omega)) v_X8_tickOnce vv_X8_tickOnce s_RX8_133 eX8_ticks_8 (fun _ _ h => WF_pick [0, 1] rfl rfl h) (rcv 0 rfl) rfl (nle rfl) (nle rfl) (nle rfl) (nle rfl) rfl ?_
        skip
        refine x_iinc [_, _, _] C eX8_ticks_11 rfl rfl rfl ?_
        refine x_goto (pc' := 2) C eX8_ticks_14 rfl ?_
        exact ih (k + 1) (by omega) (by omega)
  refine x_iconst C eX8_ticks_0 ?_
  refine x_istore_n [_, _, _] C eX8_ticks_1 rfl rfl (nlt rfl) ?_
  exact loop (t9.toNat + 2) 0 (by omega) (by omega)
