/-! Bytes dropped ahead. -/
theorem bSend_18 {B : Blk} {e w : Int} (h : 0 ≤ B 6 ∧ B 6 ≤ 60) : bSend B e w 18 = B 18 := by
  rw [← bSnd_stop, bStop_n (by decide) (by decide)]
  unfold bSnd inc
  rw [ub_n (by decide), ub_n (by decide), ub_n (by decide), ub_n (by decide), bSend0_n h (by decide) (by decide)]
theorem bDeliver_18 {B : Blk} : bDeliver B 18 = B 18 := by
  unfold bDeliver
  split
  · rfl
  · unfold inc
    rw [ub_n (by decide), bDrop_n (by decide) (by omega), ub_n (by decide)]
theorem nSend_18 {n : Net} {l j : Int} (hl : 0 ≤ l) (h6 : 0 ≤ n l 6 ∧ n l 6 ≤ 60) (hj : 0 ≤ j) : nSend n l j 18 = n j 18 := by
  have e : nSend2 n l j 18 = n j 18 := by
    unfold nSend2
    rw [un_n (by omega)]
    unfold nSend1
    by_cases e : j = l
    · subst e; rw [un_s, bSend_18 h6]
    · rw [un_n e, nLog_n (by omega) (by omega)]
  unfold nSend
  split
  · rw [nPass_c (by omega) (by decide), e]
  · exact e
theorem nLook_18 {b : Int} : ∀ (k : Nat) {n : Net}, NetOk b n → ∀ j, 0 ≤ j → (nLook k n).1 j 18 = n j 18 := by
  intro k
  induction k with
  | zero => intro n _ j _; rfl
  | succ k ih =>
    intro n h j hj
    have hs := nSender_ok h
    have hL := h.2.2 _ hs.1 hs.2
    unfold LineOk at hL
    by_cases c : ¬ 0 < n (nSender n) 9 ∧ 0 < n (nSender n) 6
    · rw [show nLook (k + 1) n = (nSend n (nSender n), nSender n) from if_pos c]
      exact nSend_18 hs.1 (by omega) hj
    · rw [show nLook (k + 1) n = nLook k (nPass n) from if_neg c, ih (NetOk_pass h) j hj, nPass_c (by omega) (by decide)]
theorem nTick_c18 {b : Int} {n : Net} (h : NetOk b n) {j : Int} (hj : 0 ≤ j) : nTick n j 18 = n j 18 := by
  have h1 := NetOk_held (NetOk_time (NetOk_mono h (show b ≤ b + 1 by omega)) (by have hH := h.1; unfold HeadOk at hH; omega))
  have e0 : nTick0 n j 18 = n j 18 := by
    have e1 := nLook_18 (n (-1) 0).toNat h1 j hj
    rw [nHT n (by omega) (by decide)] at e1
    unfold nTick0
    split
    · unfold nIdle
      rw [un_n (by omega)]
      exact e1
    · exact e1
  show nDeliver (nTick0 n) j 18 = _
  unfold nDeliver
  split
  · rw [bDeliver_18, e0]
  · exact e0
theorem nDropV_18 {b : Int} {n : Net} {l v : Int} {k : Nat} (h : NetOk b n) (hl : 0 ≤ l ∧ l < n (-1) 0) (hv : 1 ≤ v ∧ v ≤ 127) : nDropV v l (k + 1) n l 18 = nDropV v l k n l 18 + (if 0 < nDropV v l k n l 9 ∨ nDropV v l k n l 6 = nDropV v l k n l 1 then 1 else 0) := by
  obtain ⟨h1, h2⟩ := nDropV_ok h hl hv k
  have hL := h1.2.2 l hl.1 (by omega)
  unfold LineOk at hL
  have h3 := NetOk_type (v := v) h1 (by rw [h2]; exact hl) hv
  show nTick (un (nDropV v l k n) l (bType (nDropV v l k n l) v (nDropV v l k n (-1) 1))) l 18 = _
  rw [nTick_c18 h3 hl.1, un_s, bType_18 ⟨by omega, by omega, by omega⟩]

set_option maxHeartbeats 4000000 in
set_option maxRecDepth 100000 in
theorem s_X7_droppedBy {G : Gm} {l : Launch} (hK : KG G) {e ip op t tr ps pa sl al lg : Nat} {J : Nat → Int} {M : Pool} {L : Int → Nat} {n : Net} {L2 : Int → Nat} {b : Int} {l9 t9 : Int} (hN : NetOk b n) (hb : b ≤ 900000000) (hl : 0 ≤ l9 ∧ l9 < n (-1) 0) (ht : 1 ≤ t9 ∧ t9 ≤ 500) : MD G l yX7_droppedBy cX7_droppedBy 5 (some .int) 8 0 0 [.ref e, .int (zI l9), .int (zI t9)] [ob e 9 (ecS ip op t tr ps pa sl) J, ob t 8 (tkS al lg) (tkI (n)), arR G 5 al 6 (fun j => some (L (j : Int))), LF G M L (n), LOG G lg (n), TG G tr L2] (some (.int (zI (nDropV 1 l9 t9.toNat n l9 18 - n l9 18)))) [ob e 9 (ecS ip op t tr ps pa sl) J, ob t 8 (tkS al lg) (tkI (n)), arR G 5 al 6 (fun j => some (L (j : Int))), LF G M L (n), LOG G lg (n), TG G tr L2] := by
  refine MX_of (lv := [some (.ref e), some (.int (zI l9)), some (.int (zI t9)), none, none]) hK (by decide +kernel) rfl (nle rfl) (fun X C F => ?_)
  have C : OKc G X l RX7 "droppedBy" cX7_droppedBy 5 (some .int) 8 0 0 := C
  have hH := hN.1
  unfold HeadOk at hH
  have loop : ∀ (al2 lg2 f9 k : Nat), (k : Int) ≤ t9 → t9 < k + f9 → WX G X 0 0 [ob e 9 (ecS ip op t tr ps pa sl) J, ob t 8 (tkS al lg) (tkI (n)), arR G 5 al 6 (fun j => some (L (j : Int))), LF G M L (n), LOG G lg (n), ob tr 8 (tkS al2 lg2) (tkI (nDropV 1 l9 k n)), arR G 5 al2 6 (fun j => some (L2 (j : Int))), LF G M L2 (nDropV 1 l9 k n), LOG G lg2 (nDropV 1 l9 k n)] 29 [some (.ref e), some (.int (zI l9)), some (.int (zI t9)), some (.int (zI (nDropV 1 l9 k n l9 18 - n l9 18))), some (.int (zI (k : Int)))] [] := by
    intro al2 lg2 f9
    induction f9 with
    | zero => intro k h0 h1; exfalso; omega
    | succ f9 ih =>
      intro k h0 h1
      obtain ⟨hK9, e0⟩ := nDropV_ok (v := 1) hN hl (by decide) k
      have hL := hK9.2.2 l9 (by omega) (by omega)
      have hc9 := LineOk_c hL (k := 18) (by decide) (by decide)
      have hc0 := LineOk_c (hN.2.2 l9 hl.1 hl.2) (k := 18) (by decide) (by decide)
      have hT9 := NetOk_type (v := 1) hK9 (by rw [e0]; exact hl) (by decide)
      unfold LineOk at hL
      have es := nDropV_18 (v := 1) (k := k) hN hl (by decide)
      refine x_iload C eX7_droppedBy_29 rfl ?_
      refine x_iload_n C eX7_droppedBy_31 rfl ?_
      refine x_icmp_ge 74 C eX7_droppedBy_32 rfl (by omega) (by omega) (fun h32 => ?_) (fun h32 => ?_)
      · refine x_iload_n C eX7_droppedBy_74 rfl ?_
        refine x_iret (by first | rfl | exact (narZ (by omega)).1) C F eX7_droppedBy_75 () ?_ trivial (fun cf c h => ?_) (nle rfl) (nle rfl)
        · rw [show t9.toNat = k by omega]
        · exact WF_pick [1, 2, 3, 4, 5, 0] rfl rfl (WF_cTG (t := tr) (L := L2) (R := [_, _, _, _, _]) (WF_pick [5, 6, 7, 8, 0, 1, 2, 3, 4] rfl rfl h))
      · refine x_aload_n C eX7_droppedBy_35 rfl ?_
        refine x_getR 0 C f_RX7_26 eX7_droppedBy_36 rfl rfl ?_
        refine x_iload_n C eX7_droppedBy_39 rfl ?_
        refine yV1r [_, _, _, _, _, _, _] [_, _, _, _, _, _, _, _, _] C (s_X6_lineAt hK (by omega)) v_X6_lineAt vv_X6_lineAt s_RX7_122 eX7_droppedBy_40 (fun _ _ h => WF_pick [5, 6, 0, 1, 2, 3, 4, 7, 8] rfl rfl h) (rcv 5 rfl) rfl (nle rfl) (nle rfl) (nle rfl) (nle rfl) rfl ?_
        refine x_iconst C eX7_droppedBy_43 ?_
        refine x_aload_n C eX7_droppedBy_44 rfl ?_
        refine x_getR 2 C f_RX7_26 eX7_droppedBy_45 rfl rfl ?_
        refine x_getI 0 C f_RX7_100 eX7_droppedBy_48 rfl rfl ?_
        try simp (disch := decide) only [up_s, up_n, tkI_2, tkI_3, tkI_4, tkI_5, tkI_6, tkI_7, tkI_8, lnI_1, lnI_2, lnI_3, lnI_4, lnI_5, lnI_10, lnI_11, lnI_12, lnI_13, lnI_14, lnI_15]
        refine yV2r [_, _, _, _, _, _, _, _] [_, _, _, _, _, _, _, _, _] C (s_FL_acceptTyped hK (by omega) (by omega) (by omega) (by omega) (by decide) (by omega)) v_X0_acceptTyped vv_X0_acceptTyped s_RX7_230 eX7_droppedBy_51 (fun _ _ h => WF_pick [7, 0, 1, 2, 3, 4, 5, 6, 8] rfl rfl h) (rcvP 7 rfl (LF_rcv (by omega))) rfl (nle rfl) (nle rfl) (nle rfl) (nle rfl) rfl ?_
        skip
        refine x_ws ((ob tr 8 (tkS al2 lg2) (tkI (un (nDropV 1 l9 k n) l9 (bType (nDropV 1 l9 k n l9) 1 (nDropV 1 l9 k n (-1) 1))))) :: (arR G 5 al2 6 (fun j => some (L2 (j : Int)))) :: (LF G M L2 (un (nDropV 1 l9 k n) l9 (bType (nDropV 1 l9 k n l9) 1 (nDropV 1 l9 k n (-1) 1)))) :: (LOG G lg2 (un (nDropV 1 l9 k n) l9 (bType (nDropV 1 l9 k n l9) 1 (nDropV 1 l9 k n (-1) 1)))) :: [_, _, _, _, _]) (fun cf0 c hw => TKcv (n1 := un (nDropV 1 l9 k n) l9 (bType (nDropV 1 l9 k n l9) 1 (nDropV 1 l9 k n (-1) 1))) (n2 := nDropV 1 l9 k n) ?_ ?_ ?_ ?_ ?_ ?_ ?_ ?_ ?_ ?_ ?_ (R := [_, _, _, _, _]) (WF_pick [1, 2, 0, 8, 3, 4, 5, 6, 7] rfl rfl hw)) ?_
        · rw [un_n (by omega)]; rfl
        · rw [un_n (by omega)]; rfl
        · rw [un_n (by omega)]; rfl
        · rw [un_n (by omega)]; rfl
        · rw [un_n (by omega)]; rfl
        · rw [un_n (by omega)]; rfl
        · rw [un_n (by omega)]; rfl
        · rfl
        · exact fun _ _ _ => rfl
        · rw [un_n (by omega)]
        · rw [un_n (by omega)]
        refine x_ifb_ne 60 C eX7_droppedBy_54 rfl (fun h54 => ?_) (fun h54 => ?_)
        · refine x_aload_n C eX7_droppedBy_60 rfl ?_
          refine x_getR 4 C f_RX7_26 eX7_droppedBy_61 rfl rfl ?_
          refine yV0r [_, _, _, _, _] [_, _, _, _, _, _, _, _, _] C (s_X6_passTick hK hT9 (by omega)) v_X6_passTick vv_X6_passTick s_RX7_212 eX7_droppedBy_64 (fun _ _ h => WF_pick [0, 1, 2, 3, 4, 5, 6, 7, 8] rfl rfl h) (rcv 0 rfl) rfl (nle rfl) (nle rfl) (nle rfl) (nle rfl) rfl ?_
          skip
          refine x_pop C eX7_droppedBy_67 rfl ?_
          refine x_iinc [_, _, _, _, _] C eX7_droppedBy_68 rfl rfl rfl ?_
          refine x_goto (pc' := 29) C eX7_droppedBy_71 rfl ?_
          refine x_pick [_, _, _, _, _, _, _, _, _] [4, 5, 6, 7, 8, 0, 1, 2, 3] rfl rfl ?_
          have h3 := ih (k + 1) (by omega) (by omega)
          first
            | (rw [es, if_pos (by omega)] at h3; rw [show nDropV 1 l9 k n l9 18 - n l9 18 + 1 = nDropV 1 l9 k n l9 18 + 1 - n l9 18 by omega]; exact h3)
            | (rw [es, if_neg (by omega)] at h3; rw [show nDropV 1 l9 k n l9 18 + 0 - n l9 18 = nDropV 1 l9 k n l9 18 - n l9 18 by omega] at h3; exact h3)
        · refine x_iinc [_, _, _, _, _] C eX7_droppedBy_57 rfl rfl rfl ?_
          refine x_aload_n C eX7_droppedBy_60 rfl ?_
          refine x_getR 4 C f_RX7_26 eX7_droppedBy_61 rfl rfl ?_
          refine yV0r [_, _, _, _, _] [_, _, _, _, _, _, _, _, _] C (s_X6_passTick hK hT9 (by omega)) v_X6_passTick vv_X6_passTick s_RX7_212 eX7_droppedBy_64 (fun _ _ h => WF_pick [0, 1, 2, 3, 4, 5, 6, 7, 8] rfl rfl h) (rcv 0 rfl) rfl (nle rfl) (nle rfl) (nle rfl) (nle rfl) rfl ?_
          skip
          refine x_pop C eX7_droppedBy_67 rfl ?_
          refine x_iinc [_, _, _, _, _] C eX7_droppedBy_68 rfl rfl rfl ?_
          refine x_goto (pc' := 29) C eX7_droppedBy_71 rfl ?_
          refine x_pick [_, _, _, _, _, _, _, _, _] [4, 5, 6, 7, 8, 0, 1, 2, 3] rfl rfl ?_
          have h3 := ih (k + 1) (by omega) (by omega)
          first
            | (rw [es, if_pos (by omega)] at h3; rw [show nDropV 1 l9 k n l9 18 - n l9 18 + 1 = nDropV 1 l9 k n l9 18 + 1 - n l9 18 by omega]; exact h3)
            | (rw [es, if_neg (by omega)] at h3; rw [show nDropV 1 l9 k n l9 18 + 0 - n l9 18 = nDropV 1 l9 k n l9 18 - n l9 18 by omega] at h3; exact h3)
  refine x_aload_n C eX7_droppedBy_0 rfl ?_
  refine x_iload_n C eX7_droppedBy_1 rfl ?_
  refine yV1v [_, _, _, _] [_, _, _, _, _, _] C (s_X7_testLine hK (by omega)) v_X7_testLine vv_X7_testLine s_RX7_145 eX7_droppedBy_2 (fun _ _ h => WF_pick [0, 1, 2, 3, 4, 5] rfl rfl h) (rcv 0 rfl) rfl (nle rfl) (nle rfl) (nle rfl) (nle rfl) rfl ?_
  refine x_iload_n C eX7_droppedBy_5 rfl ?_
  refine x_iconst C eX7_droppedBy_6 ?_
  refine x_sipush C eX7_droppedBy_7 rfl ?_
  refine yS3v [_, _, _, _, _, _] [_, _, _, _, _, _] C (s_X7_testRange hK (by omega)) v_X7_testRange vs_X7_testRange s_RX7_219 eX7_droppedBy_10 (fun _ _ h => WF_pick [0, 1, 2, 3, 4, 5] rfl rfl h) rfl (nle rfl) (nle rfl) (nle rfl) (nle rfl) rfl ?_
  refine x_oTG (t := tr) (L := L2) (R := [_, _, _, _, _]) (fun _ _ hw => WF_pick [5, 0, 1, 2, 3, 4] rfl rfl hw) (fun al2 lg2 J2 => ?_)
  refine x_aload_n C eX7_droppedBy_13 rfl ?_
  refine x_getR 4 C f_RX7_26 eX7_droppedBy_14 rfl rfl ?_
  refine x_aload_n C eX7_droppedBy_17 rfl ?_
  refine x_getR 4 C f_RX7_22 eX7_droppedBy_18 rfl rfl ?_
  refine yV1v [_] [_, _, _, _, _, _, _, _, _] C (s_X6_copyFrom hK hN (by omega)) v_X6_copyFrom vv_X6_copyFrom s_RX7_87 eX7_droppedBy_21 (fun _ _ h => WF_pick [0, 1, 2, 3, 5, 6, 7, 8, 4] rfl rfl h) (rcv 0 rfl) rfl (nle rfl) (nle rfl) (nle rfl) (nle rfl) rfl ?_
  refine x_iconst C eX7_droppedBy_24 ?_
  refine x_istore_n [_, _, _, _, _] C eX7_droppedBy_25 rfl rfl (nlt rfl) ?_
  refine x_iconst C eX7_droppedBy_26 ?_
  refine x_istore [_, _, _, _, _] C eX7_droppedBy_27 rfl rfl (nlt rfl) ?_
  refine x_pick [_, _, _, _, _, _, _, _, _] [8, 4, 5, 6, 7, 0, 1, 2, 3] rfl rfl ?_
  have h3 := loop al2 lg2 502 0 (by omega) (by omega)
  rw [show nDropV 1 l9 0 n l9 18 - n l9 18 = 0 from Int.sub_self _] at h3
  exact h3
