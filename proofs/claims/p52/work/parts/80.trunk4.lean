set_option maxHeartbeats 4000000 in
set_option maxRecDepth 100000 in
theorem s_X6_look {G : Gm} {l : Launch} (hK : KG G) {M : Pool} {L : Int → Nat} {n : Net} {t al lg : Nat} {b : Int} (hN : NetOk b n) (hb : b ≤ 1000000000) : MD G l yX6_look cX6_look 3 (some .int) 3 0 0 [.ref t] [ob t 8 (tkS al lg) (tkI (n)), arR G 5 al 6 (fun j => some (L (j : Int))), LF G M L (n), LOG G lg (n)] (some (.int (zI (nLk (n (-1) 0).toNat n).2))) [ob t 8 (tkS al lg) (tkI ((nLk (n (-1) 0).toNat n).1)), arR G 5 al 6 (fun j => some (L (j : Int))), LF G M L ((nLk (n (-1) 0).toNat n).1), LOG G lg ((nLk (n (-1) 0).toNat n).1)] := by
  refine MX_of (lv := [some (.ref t), none, none]) hK (by decide +kernel) rfl (nle rfl) (fun X C F => ?_)
  have C : OKc G X l RX6 "look" cX6_look 3 (some .int) 3 0 0 := C
  have hH := hN.1
  unfold HeadOk at hH
  have loop : ∀ (f j : Nat) (m : Net), NetOk b m → m (-1) 0 = n (-1) 0 → (j : Int) ≤ n (-1) 0 → j < f → nLk j m = (nLk (n (-1) 0).toNat n) → WX G X 0 0 [ob t 8 (tkS al lg) (tkI (m)), arR G 5 al 6 (fun j => some (L (j : Int))), LF G M L (m), LOG G lg (m)] 2 [some (.ref t), some (.int (zI (n (-1) 0 - (j : Int)))), none] [] := by
    intro f
    induction f with
    | zero => intro j m hN h0 h1 h2 h3; exfalso; omega
    | succ f ih =>
      intro j m hN h0 h1 h2 h3
      have hs := nSender_ok hN
      have hM := hN.1
      have hS := hN.2.2 (nSender m) hs.1 hs.2
      have hT := hN.2.2 (m (-1) 2) (by unfold HeadOk at hM; omega) (by unfold HeadOk at hM; omega)
      unfold HeadOk at hM
      unfold LineOk at hS hT
      refine x_iload_n C eX6_look_2 rfl ?_
      refine x_aload_n C eX6_look_3 rfl ?_
      refine x_getI 0 C f_RX6_24 eX6_look_4 rfl rfl ?_
      try simp (disch := decide) only [up_s, up_n, tkI_2, tkI_3, tkI_4, tkI_5, tkI_6, tkI_7, tkI_8, lnI_1, lnI_2, lnI_3, lnI_4, lnI_5, lnI_10, lnI_11, lnI_12, lnI_13, lnI_14, lnI_15]
      refine x_icmp_ge 38 C eX6_look_7 rfl (by omega) (by omega) (fun h7 => ?_) (fun h7 => ?_)
      · refine x_iconst C eX6_look_38 ?_
        refine x_iret (by first | rfl | exact (narZ (by omega)).1) C F eX6_look_39 () ?_ trivial (fun cf c h => ?_) (nle rfl) (nle rfl)
        · rw [← h3, show j = 0 by omega]
          rfl
        · rw [← h3, show j = 0 by omega]
          exact WF_pick [0, 1, 2, 3] rfl rfl h
      · obtain ⟨j', rfl⟩ : ∃ j', j = j' + 1 := ⟨j - 1, by omega⟩
        refine x_aload_n C eX6_look_10 rfl ?_
        refine yV0r [_] [_, _, _, _] C (s_X6_sender hK hN (by omega)) v_X6_sender vv_X6_sender s_RX6_84 eX6_look_11 (fun _ _ h => WF_pick [0, 1, 2, 3] rfl rfl h) (rcv 0 rfl) rfl (nle rfl) (nle rfl) (nle rfl) (nle rfl) rfl ?_
        skip
        refine x_istore_n [_, _, _] C eX6_look_14 rfl rfl (nlt rfl) ?_
        refine x_aload_n C eX6_look_15 rfl ?_
        refine x_iload_n C eX6_look_16 rfl ?_
        refine yV1r [_, _] [_, _, _, _] C (s_X6_lineAt hK (by omega)) v_X6_lineAt vv_X6_lineAt s_RX6_32 eX6_look_17 (fun _ _ h => WF_pick [0, 1, 2, 3] rfl rfl h) (rcv 0 rfl) rfl (nle rfl) (nle rfl) (nle rfl) (nle rfl) rfl ?_
        skip
        refine yV0r [_, _, _] [_, _, _, _] C (s_FL_canSend hK (by omega) (by omega)) v_X0_canSend vv_X0_canSend s_RX6_87 eX6_look_20 (fun _ _ h => WF_pick [2, 0, 1, 3] rfl rfl h) (rcvP 2 rfl (LF_rcv (by omega))) rfl (nle rfl) (nle rfl) (nle rfl) (nle rfl) rfl ?_
        skip
        refine x_ifb_eq 28 C eX6_look_23 rfl (fun h23 => ?_) (fun h23 => ?_)
        · refine x_aload_n C eX6_look_28 rfl ?_
          refine yV0v [] [_, _, _, _] C (s_X6_passOn hK (by omega) (by omega)) v_X6_passOn vv_X6_passOn s_RX6_91 eX6_look_29 (fun _ _ h => WF_pick [1, 2, 0, 3] rfl rfl h) (rcv 1 rfl) rfl (nle rfl) (nle rfl) (nle rfl) (nle rfl) rfl ?_
          skip
          refine x_iinc [_, _, _] C eX6_look_32 rfl rfl rfl ?_
          refine x_goto (pc' := 2) C eX6_look_35 rfl ?_
          refine x_lv [_, _, none] rfl (lx_drop _ [2] rfl) ?_
          have hh := ih j' (nPass m) (NetOk_pass hN) (by rw [nPass_h (by decide)]; exact h0) (by omega) (by omega) (by rw [← h3]; exact (if_neg (by omega)).symm)
          rw [show n (-1) 0 - (j' : Int) = n (-1) 0 - ((j' + 1 : Nat) : Int) + 1 by omega] at hh
          exact x_pick [_, _, _, _] [0, 1, 2, 3] rfl rfl (hh)
        · refine x_iload_n C eX6_look_26 rfl ?_
          refine x_iret (by first | rfl | exact (narZ (by omega)).1) C F eX6_look_27 () ?_ trivial (fun cf c h => ?_) (nle rfl) (nle rfl)
          · rw [← h3, show nLk (j' + 1) m = (m, nSender m) from if_pos (by omega)]
          · rw [← h3, show nLk (j' + 1) m = (m, nSender m) from if_pos (by omega)]
            exact WF_pick [1, 2, 0, 3] rfl rfl h
  refine x_iconst C eX6_look_0 ?_
  refine x_istore_n [_, _, _] C eX6_look_1 rfl rfl (nlt rfl) ?_
  have h := loop ((n (-1) 0).toNat + 1) (n (-1) 0).toNat n hN rfl (by omega) (by omega) rfl
  rw [show n (-1) 0 - (((n (-1) 0).toNat : Nat) : Int) = 0 by omega] at h
  exact h

set_option maxHeartbeats 4000000 in
set_option maxRecDepth 100000 in
theorem s_X6_passTick {G : Gm} {l : Launch} (hK : KG G) {M : Pool} {L : Int → Nat} {n : Net} {t al lg : Nat} {b : Int} (hN : NetOk b n) (hb : b ≤ 999999990) : MD G l yX6_passTick cX6_passTick 3 (some .int) 7 0 0 [.ref t] [ob t 8 (tkS al lg) (tkI (n)), arR G 5 al 6 (fun j => some (L (j : Int))), LF G M L (n), LOG G lg (n)] (some (.int (zI (nLooks n).2))) [ob t 8 (tkS al lg) (tkI (nTick n)), arR G 5 al 6 (fun j => some (L (j : Int))), LF G M L (nTick n), LOG G lg (nTick n)] := by
  refine MX_of (lv := [some (.ref t), none, none]) hK (by decide +kernel) rfl (nle rfl) (fun X C F => ?_)
  have C : OKc G X l RX6 "passTick" cX6_passTick 3 (some .int) 7 0 0 := C
  have hH := hN.1
  unfold HeadOk at hH
  have hA := NetOk_held (NetOk_time (NetOk_mono hN (show b ≤ b + 1 by omega)) (by omega))
  have hB := NetOk_time (NetOk_mono hN (show b ≤ b + 1 by omega)) (by omega)
  have hP := NetOk_tick0 hN
  have t0 := nTime_0 n (show ¬ (0 : Int) = 1 by decide)
  have tt := fun w (h : ¬ w = 1) => nTime_0 n h
  have t1 : nTime n (-1) 1 = n (-1) 1 + 1 := by unfold nTime; rw [un_s, ub_s]
  have tl : ∀ l, ¬ l = -1 → nTime n l = n l := fun l h => by unfold nTime; rw [un_n h]
  have eH : (nHeld (nTime n)) (-1) 0 = n (-1) 0 := by rw [nHeld_h]; exact t0
  have hQ := nLk_ok (n (-1) 0).toNat hA
  rw [eH] at hQ
  have hQH := hQ.1.1
  unfold HeadOk at hQH
  have hLs : nLooks n = nLook (n (-1) 0).toNat (nHeld (nTime n)) := rfl
  have eT0 : (nLk (n (-1) 0).toNat (nHeld (nTime n))).2 = -1 → nTick0 n = nIdle (nLk (n (-1) 0).toNat (nHeld (nTime n))).1 ∧ (nLooks n).2 = -1 := fun z => by
    rcases hQ.2.2 with q | q
    · have e : nLooks n = (nLk (n (-1) 0).toNat (nHeld (nTime n))) := by rw [hLs]; exact q.2
      unfold nTick0
      rw [e, if_pos z]
      exact ⟨rfl, z⟩
    · omega
  have eT1 : ¬ (nLk (n (-1) 0).toNat (nHeld (nTime n))).2 = -1 → nTick0 n = nSend (nLk (n (-1) 0).toNat (nHeld (nTime n))).1 (nLk (n (-1) 0).toNat (nHeld (nTime n))).2 ∧ (nLooks n).2 = (nLk (n (-1) 0).toNat (nHeld (nTime n))).2 := fun z => by
    rcases hQ.2.2 with q | q
    · exact absurd q.1 z
    · have e : nLooks n = (nSend (nLk (n (-1) 0).toNat (nHeld (nTime n))).1 (nLk (n (-1) 0).toNat (nHeld (nTime n))).2, (nLk (n (-1) 0).toNat (nHeld (nTime n))).2) := by rw [hLs]; exact q.2.2
      unfold nTick0
      rw [e, if_neg z]
      exact ⟨rfl, rfl⟩
  have loop2 : ∀ (j : Nat) (k : Int), 0 ≤ k → k ≤ n (-1) 0 → n (-1) 0 - k < j → WX G X 0 0 [ob t 8 (tkS al lg) (tkI (nTick0 n)), arR G 5 al 6 (fun j => some (L (j : Int))), LF G M L (nDelK (nTick0 n) k), LOG G lg (nTick0 n)] 76 [some (.ref t), some (.int (zI (nLooks n).2)), some (.int (zI k))] [] := by
    intro j
    induction j with
    | zero => intro k h0 h1 h2; exfalso; omega
    | succ j ih =>
      intro k h0 h1 h2
      have e0 : nDelK (nTick0 n) k (-1) 0 = n (-1) 0 := by rw [nDelK_o (by omega)]; exact hP.2
      have ek : nDelK (nTick0 n) k k = nTick0 n k := nDelK_o (by omega)
      have et : tkI (nTick0 n) 2 = n (-1) 0 := hP.2
      refine x_iload_n C eX6_passTick_76 rfl ?_
      refine x_aload_n C eX6_passTick_77 rfl ?_
      refine x_getI 0 C f_RX6_24 eX6_passTick_78 rfl rfl ?_
      try simp (disch := decide) only [up_s, up_n, tkI_2, tkI_3, tkI_4, tkI_5, tkI_6, tkI_7, tkI_8, lnI_1, lnI_2, lnI_3, lnI_4, lnI_5, lnI_10, lnI_11, lnI_12, lnI_13, lnI_14, lnI_15]
      refine x_icmp_ge 98 C eX6_passTick_81 rfl (by omega) (by omega) (fun h81 => ?_) (fun h81 => ?_)
      · obtain rfl : k = n (-1) 0 := by omega
        rw [← nTick_K hN]
        refine x_ws ((ob t 8 (tkS al lg) (tkI (nTick n))) :: (arR G 5 al 6 (fun j => some (L (j : Int)))) :: (LF G M L (nTick n)) :: (LOG G lg (nTick n)) :: []) (fun cf0 c hw => TKcv (n1 := nTick n) (n2 := nTick0 n) ?_ ?_ ?_ ?_ ?_ ?_ ?_ ?_ ?_ ?_ ?_ (R := []) (WF_pick [0, 1, 2, 3] rfl rfl hw)) ?_
        · exact (nTick_o (n := n) (j := -1) (w := 0) (by decide)).symm
        · exact (nTick_o (n := n) (j := -1) (w := 1) (by decide)).symm
        · exact (nTick_o (n := n) (j := -1) (w := 2) (by decide)).symm
        · exact (nTick_o (n := n) (j := -1) (w := 3) (by decide)).symm
        · exact (nTick_o (n := n) (j := -1) (w := 6) (by decide)).symm
        · exact (nTick_o (n := n) (j := -1) (w := 4) (by decide)).symm
        · exact (nTick_o (n := n) (j := -1) (w := 5) (by decide)).symm
        · rfl
        · exact fun l u v => rfl
        · exact nTick_o (by decide)
        · funext w; exact nTick_o (by decide)
        refine x_iload_n C eX6_passTick_98 rfl ?_
        refine x_iret (by first | rfl | exact (narZ (by omega)).1) C F eX6_passTick_99 () ?_ trivial (fun cf c h => ?_) (nle rfl) (nle rfl)
        · rfl
        · exact WF_pick [0, 1, 2, 3] rfl rfl h
      · have hk := hP.1.2.2 k h0 (by rw [hP.2]; omega)
        unfold LineOk at hk
        rw [← ek] at hk
        refine x_aload_n C eX6_passTick_84 rfl ?_
        refine x_iload_n C eX6_passTick_85 rfl ?_
        refine yV1r [_, _] [_, _, _, _] C (s_X6_lineAt hK (by omega)) v_X6_lineAt vv_X6_lineAt s_RX6_32 eX6_passTick_86 (fun _ _ h => WF_pick [0, 1, 2, 3] rfl rfl h) (rcv 0 rfl) rfl (nle rfl) (nle rfl) (nle rfl) (nle rfl) rfl ?_
        skip
        refine yV0v [_, _, _] [_, _, _, _] C (s_FL_deliverFirst hK (by omega) (by omega)) v_X0_deliverFirst vv_X0_deliverFirst s_RX6_81 eX6_passTick_89 (fun _ _ h => WF_pick [2, 0, 1, 3] rfl rfl h) (rcvP 2 rfl (LF_rcv (by omega))) rfl (nle rfl) (nle rfl) (nle rfl) (nle rfl) rfl ?_
        skip
        refine x_iinc [_, _, _] C eX6_passTick_92 rfl rfl rfl ?_
        refine x_goto (pc' := 76) C eX6_passTick_95 rfl ?_
        have hh := ih (k + 1) (by omega) (by omega) (by omega)
        rw [← nDelK_s _ h0, ← ek] at hh
        exact x_pick [_, _, _, _] [1, 2, 0, 3] rfl rfl (hh)
  have loop1 : ∀ (j : Nat) (k : Int), 0 ≤ k → k ≤ n (-1) 0 → n (-1) 0 - k < j → WX G X 0 0 [ob t 8 (tkS al lg) (tkI (nTime n)), arR G 5 al 6 (fun j => some (L (j : Int))), LF G M L (nHeldK (nTime n) k), LOG G lg (n)] 12 [some (.ref t), some (.int (zI k)), none] [] := by
    intro j
    induction j with
    | zero => intro k h0 h1 h2; exfalso; omega
    | succ j ih =>
      intro k h0 h1 h2
      have e0 : nHeldK (nTime n) k (-1) 0 = n (-1) 0 := by rw [nHeldK_o (by omega)]; exact t0
      have ek : nHeldK (nTime n) k k = nTime n k := nHeldK_o (by omega)
      refine x_iload_n C eX6_passTick_12 rfl ?_
      refine x_aload_n C eX6_passTick_13 rfl ?_
      refine x_getI 0 C f_RX6_24 eX6_passTick_14 rfl rfl ?_
      try simp (disch := decide) only [up_s, up_n, tkI_2, tkI_3, tkI_4, tkI_5, tkI_6, tkI_7, tkI_8, lnI_1, lnI_2, lnI_3, lnI_4, lnI_5, lnI_10, lnI_11, lnI_12, lnI_13, lnI_14, lnI_15]
      refine x_icmp_ge 46 C eX6_passTick_17 rfl (by omega) (by omega) (fun h17 => ?_) (fun h17 => ?_)
      · obtain rfl : k = n (-1) 0 := by omega
        rw [nHeld_K]
        refine x_ws ((ob t 8 (tkS al lg) (tkI (nHeld (nTime n)))) :: (arR G 5 al 6 (fun j => some (L (j : Int)))) :: (LF G M L (nHeld (nTime n))) :: (LOG G lg (nHeld (nTime n))) :: []) (fun cf0 c hw => TKcv (n1 := nHeld (nTime n)) (n2 := n) ?_ ?_ ?_ ?_ ?_ ?_ ?_ ?_ ?_ ?_ ?_ (R := []) (WF_pick [0, 1, 2, 3] rfl rfl hw)) ?_
        · exact (nHeld_h (nTime n) 0).symm
        · exact (nHeld_h (nTime n) 1).symm
        · exact (nHeld_h (nTime n) 2).symm
        · exact (nHeld_h (nTime n) 3).symm
        · exact (nHeld_h (nTime n) 6).symm
        · exact (nHeld_h (nTime n) 4).symm
        · exact (nHeld_h (nTime n) 5).symm
        · rfl
        · exact fun l u v => rfl
        · rw [nHeld_h]; exact tt _ (by decide)
        · unfold nHeld; rw [if_neg (by omega)]; exact tl _ (by decide)
        refine x_aload_n C eX6_passTick_46 rfl ?_
        refine yV0r [] [_, _, _, _] C (s_X6_look hK hA (by omega)) v_X6_look vv_X6_look s_RX6_71 eX6_passTick_47 (fun _ _ h => WF_pick [0, 1, 2, 3] rfl rfl h) (rcv 0 rfl) rfl (nle rfl) (nle rfl) (nle rfl) (nle rfl) rfl ?_
        rw [eH]
        refine x_istore_n [_, _, _] C eX6_passTick_50 rfl rfl (nlt rfl) ?_
        refine x_iload_n C eX6_passTick_51 rfl ?_
        refine x_iconst C eX6_passTick_52 ?_
        refine x_icmp_ne 69 C eX6_passTick_53 rfl (by omega) (by omega) (fun h53 => ?_) (fun h53 => ?_)
        · refine x_aload_n C eX6_passTick_69 rfl ?_
          refine x_iload_n C eX6_passTick_70 rfl ?_
          refine yV1v [] [_, _, _, _] C (s_X6_sendFrom hK hQ.1 (by omega) (by omega) (by omega)) v_X6_sendFrom vv_X6_sendFrom s_RX6_77 eX6_passTick_71 (fun _ _ h => WF_pick [0, 1, 2, 3] rfl rfl h) (rcv 0 rfl) rfl (nle rfl) (nle rfl) (nle rfl) (nle rfl) rfl ?_
          skip
          refine x_iconst C eX6_passTick_74 ?_
          refine x_istore_n [_, _, _] C eX6_passTick_75 rfl rfl (nlt rfl) ?_
          have h := loop2 20 0 (by omega) (by omega) (by omega)
          rw [nDelK_0] at h
          first
            | (rw [(eT0 (by assumption)).1, (eT0 (by assumption)).2] at h; rw [show (nLk (n (-1) 0).toNat (nHeld (nTime n))).2 = -1 from by assumption]; exact x_pick [_, _, _, _] [0, 1, 2, 3] rfl rfl (h))
            | (rw [(eT1 (by assumption)).1, (eT1 (by assumption)).2] at h; exact x_pick [_, _, _, _] [0, 1, 2, 3] rfl rfl (h))
        · refine x_aload_n C eX6_passTick_56 rfl ?_
          refine x_dup C eX6_passTick_57 rfl ?_
          refine x_getI 0 C f_RX6_74 eX6_passTick_58 rfl rfl ?_
          try simp (disch := decide) only [up_s, up_n, tkI_2, tkI_3, tkI_4, tkI_5, tkI_6, tkI_7, tkI_8, lnI_1, lnI_2, lnI_3, lnI_4, lnI_5, lnI_10, lnI_11, lnI_12, lnI_13, lnI_14, lnI_15]
          refine x_iconst C eX6_passTick_61 ?_
          refine x_iadd C eX6_passTick_62 ?_
          refine x_putI [_, _, _, _] 0 C f_RX6_74 eX6_passTick_63 rfl rfl rfl ?_
          refine x_ws ((ob t 8 (tkS al lg) (tkI (nIdle (nLk (n (-1) 0).toNat (nHeld (nTime n))).1))) :: (arR G 5 al 6 (fun j => some (L (j : Int)))) :: (LF G M L (nIdle (nLk (n (-1) 0).toNat (nHeld (nTime n))).1)) :: (LOG G lg (nIdle (nLk (n (-1) 0).toNat (nHeld (nTime n))).1)) :: []) (fun cf0 c hw => TKcv (n1 := (nLk (n (-1) 0).toNat (nHeld (nTime n))).1) (n2 := (nLk (n (-1) 0).toNat (nHeld (nTime n))).1) ?_ ?_ ?_ ?_ ?_ ?_ ?_ ?_ ?_ ?_ ?_ (R := []) (WF_pick [0, 1, 2, 3] rfl rfl hw)) ?_
          · simp (disch := decide) only [up_s, up_n, tkI_2]; unfold nIdle; rw [un_s, ub_n (by decide)]
          · simp (disch := decide) only [up_s, up_n, tkI_3]; unfold nIdle; rw [un_s, ub_n (by decide)]
          · simp (disch := decide) only [up_s, up_n, tkI_4]; unfold nIdle; rw [un_s, ub_n (by decide)]
          · simp (disch := decide) only [up_s, up_n, tkI_5]; unfold nIdle; rw [un_s, ub_n (by decide)]
          · simp (disch := decide) only [up_s, up_n, tkI_6]; unfold nIdle; rw [un_s, ub_n (by decide)]
          · simp (disch := decide) only [up_s, up_n, tkI_7]; unfold nIdle; rw [un_s, ub_n (by decide)]
          · simp (disch := decide) only [up_s, up_n, tkI_8]; unfold nIdle; rw [un_s, ub_s]
          · unfold nIdle; rw [un_s, ub_n (by decide)]
          · exact fun l u v => un_n (by omega)
          · unfold nIdle; rw [un_s, ub_n (by decide)]
          · exact un_n (by decide)
          refine x_goto (pc' := 74) C eX6_passTick_66 rfl ?_
          refine x_iconst C eX6_passTick_74 ?_
          refine x_istore_n [_, _, _] C eX6_passTick_75 rfl rfl (nlt rfl) ?_
          have h := loop2 20 0 (by omega) (by omega) (by omega)
          rw [nDelK_0] at h
          first
            | (rw [(eT0 (by assumption)).1, (eT0 (by assumption)).2] at h; rw [show (nLk (n (-1) 0).toNat (nHeld (nTime n))).2 = -1 from by assumption]; exact x_pick [_, _, _, _] [0, 1, 2, 3] rfl rfl (h))
            | (rw [(eT1 (by assumption)).1, (eT1 (by assumption)).2] at h; exact x_pick [_, _, _, _] [0, 1, 2, 3] rfl rfl (h))
      · have hk := hB.2.2 k h0 (by omega)
        unfold LineOk at hk
        rw [← ek] at hk
        refine x_aload_n C eX6_passTick_20 rfl ?_
        refine x_iload_n C eX6_passTick_21 rfl ?_
        refine yV1r [_, _] [_, _, _, _] C (s_X6_lineAt hK (by omega)) v_X6_lineAt vv_X6_lineAt s_RX6_32 eX6_passTick_22 (fun _ _ h => WF_pick [0, 1, 2, 3] rfl rfl h) (rcv 0 rfl) rfl (nle rfl) (nle rfl) (nle rfl) (nle rfl) rfl ?_
        skip
        refine x_astore_n [_, _, _] C eX6_passTick_25 rfl rfl (nlt rfl) ?_
        refine x_oL (M := M) (L := L) (m := nHeldK (nTime n) k) (i := k) (R := [_, _, _]) (by omega) (fun _ _ hw => WF_pick [2, 0, 1, 3] rfl rfl hw) (fun A hA9 => ?_)
        refine x_aload_n C eX6_passTick_26 rfl ?_
        refine x_iconst C eX6_passTick_27 ?_
        refine x_aload_n C eX6_passTick_28 rfl ?_
        refine x_getI 0 C f_RX6_62 eX6_passTick_29 rfl rfl ?_
        try simp (disch := decide) only [up_s, up_n, tkI_2, tkI_3, tkI_4, tkI_5, tkI_6, tkI_7, tkI_8, lnI_1, lnI_2, lnI_3, lnI_4, lnI_5, lnI_10, lnI_11, lnI_12, lnI_13, lnI_14, lnI_15]
        refine x_iconst C eX6_passTick_32 ?_
        refine x_isub C eX6_passTick_33 ?_
        refine x_max C s_RX6_65 s2_max eX6_passTick_34 rfl (nle rfl) (nle rfl) (nle rfl) (nle rfl) (by omega) (by omega) ?_
        refine x_putI [_, _, _, _, _, _, _, _, _, _, _, _, _, _] 0 C f_RX6_62 eX6_passTick_37 rfl rfl rfl ?_
        refine x_pick [_, _, _, _, _, _, _, _, _, _, _, _, _, _] [0, 1, 2, 3, 4, 5, 6, 7, 8, 9, 10, 11, 12, 13] rfl rfl ?_
        refine x_cL (m := nHeldK (nTime n) k) (i := k) (A := A) (B := ub (nTime n k) 9 (max 0 (nTime n k 9 - 1))) (by omega) (by rw [ub_n (by decide), ← ek]; exact hA9) (fun cf c h => ?_) ?_
        · rw [← ek]
          exact ln_this (B := nHeldK (nTime n) k k) (by
              refine lnI_ok ?_ ?_ ?_ ?_ ?_ ?_ ?_ ?_ ?_ ?_ ?_
              all_goals (try simp (disch := omega) only [up_s, up_n, lnI_1, lnI_2, lnI_3, lnI_4, lnI_5, lnI_10, lnI_11, lnI_12, lnI_13, lnI_14, lnI_15, lnTo, ub_s, ub_n, bLend])
              all_goals (repeat' split)
              all_goals first | rfl | omega) (by first | rfl | (simp (disch := omega) only [ub_n, bLend])) (by first | rfl | (simp (disch := omega) only [ub_n, bLend])) (by first | rfl | (simp (disch := omega) only [ub_n, bLend])) (by first | rfl | (simp (disch := omega) only [ub_n, bLend])) (fun k hk => by first | rfl | (simp (disch := omega) only [ub_n, bLend])) cf c h rfl
        refine x_iinc [_, _, _] C eX6_passTick_40 rfl rfl rfl ?_
        refine x_goto (pc' := 12) C eX6_passTick_43 rfl ?_
        refine x_lv [_, _, none] rfl (lx_drop _ [2] rfl) ?_
        have hh := ih (k + 1) (by omega) (by omega) (by omega)
        rw [← nHeldK_s _ h0] at hh
        exact x_pick [_, _, _, _] [1, 2, 0, 3] rfl rfl (hh)
  refine x_aload_n C eX6_passTick_0 rfl ?_
  refine x_dup C eX6_passTick_1 rfl ?_
  refine x_getI 0 C f_RX6_59 eX6_passTick_2 rfl rfl ?_
  try simp (disch := decide) only [up_s, up_n, tkI_2, tkI_3, tkI_4, tkI_5, tkI_6, tkI_7, tkI_8, lnI_1, lnI_2, lnI_3, lnI_4, lnI_5, lnI_10, lnI_11, lnI_12, lnI_13, lnI_14, lnI_15]
  refine x_iconst C eX6_passTick_5 ?_
  refine x_iadd C eX6_passTick_6 ?_
  refine x_putI [_, _, _, _] 0 C f_RX6_59 eX6_passTick_7 rfl rfl rfl ?_
  refine x_iconst C eX6_passTick_10 ?_
  refine x_istore_n [_, _, _] C eX6_passTick_11 rfl rfl (nlt rfl) ?_
  refine x_ws [ob t 8 (tkS al lg) (tkI (nTime n)), arR G 5 al 6 (fun j => some (L (j : Int))), LF G M L (nHeldK (nTime n) 0), LOG G lg (n)] (fun cf0 c hw => ?_) (loop1 20 0 (by omega) (by omega) (by omega))
  rw [nHeldK_0, LF_eq (n := n) (n' := nTime n) t0 (fun l u v => tl l (by omega))]
  refine PW.wf (PW_cons (tkOb ?_ ?_ ?_ ?_ ?_ ?_ ?_) PW_rf) (WF_pick [0, 1, 2, 3] rfl rfl hw)
  · simp (disch := decide) only [up_s, up_n, tkI_2]; exact t0.symm
  · simp (disch := decide) only [up_s, up_n, tkI_3]; exact t1.symm
  · simp (disch := decide) only [up_s, up_n, tkI_4]; exact (tt _ (by decide)).symm
  · simp (disch := decide) only [up_s, up_n, tkI_5]; exact (tt _ (by decide)).symm
  · simp (disch := decide) only [up_s, up_n, tkI_6]; exact (tt _ (by decide)).symm
  · simp (disch := decide) only [up_s, up_n, tkI_7]; exact (tt _ (by decide)).symm
  · simp (disch := decide) only [up_s, up_n, tkI_8]; exact (tt _ (by decide)).symm
