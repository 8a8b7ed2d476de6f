/-! Changes, second part. -/
theorem nTypes_18 {b : Int} {n : Net} {l v : Int} {k : Nat} (h : NetOk b n) (hl : 0 ≤ l ∧ l < n (-1) 0) (hv : 1 ≤ v ∧ v ≤ 127) : nTypes l v (k + 1) n l 18 = nTypes l v k n l 18 + (if 0 < nTypes l v k n l 9 ∨ nTypes l v k n l 6 = nTypes l v k n l 1 then 1 else 0) := by
  obtain ⟨h1, h2⟩ := nTypes_ok h hl hv k
  have hL := h1.2.2 l hl.1 (by omega)
  unfold LineOk at hL
  show un (nTypes l v k n) l (bType (nTypes l v k n l) v (nTypes l v k n (-1) 1)) l 18 = _
  rw [un_s, bType_18 ⟨by omega, by omega, by omega⟩]
theorem nOffers_22 {b : Int} {n : Net} {l v : Int} {k : Nat} (h : NetOk b n) (hl : 0 ≤ l ∧ l < n (-1) 0) (hv : 1 ≤ v ∧ v ≤ 127) : nOffers l v (k + 1) n l 22 = nOffers l v k n l 22 + (if 0 < nOffers l v k n l 9 ∨ nOffers l v k n l 7 = nOffers l v k n l 1 then 1 else 0) := by
  obtain ⟨h1, h2⟩ := nOffers_ok h hl hv k
  have hL := h1.2.2 l hl.1 (by omega)
  unfold LineOk at hL
  show un (nOffers l v k n) l (bOffer (nOffers l v k n l) v) l 22 = _
  rw [un_s]
  unfold bOffer inc
  by_cases c : 0 < nOffers l v k n l 9 ∨ nOffers l v k n l 7 = nOffers l v k n l 1
  · rw [if_pos c, if_pos c, ub_s, ub_n (by decide)]
  · rw [if_neg c, if_neg c, ub_n (by decide), ub_n (by omega), ub_n (by decide)]; omega

set_option maxHeartbeats 4000000 in
set_option maxRecDepth 100000 in
theorem s_X7_type {G : Gm} {l : Launch} (hK : KG G) {e ip op t tr ps pa sl al lg : Nat} {J : Nat → Int} {M : Pool} {L : Int → Nat} {n : Net} {N : Nat → Net} {b : Int} {l9 v9 t9 : Int} (hN : NetOk b n) (hb : b ≤ 900000000) (h6 : 0 ≤ J 6 ∧ J 6 ≤ 6) (hS : KS G) (hl : 0 ≤ l9 ∧ l9 < n (-1) 0) (hv : 1 ≤ v9 ∧ v9 ≤ 127) (ht : 1 ≤ t9 ∧ t9 ≤ 60) : MD G l yX7_type cX7_type 6 (some .int) 9 64 1900 [.ref e, .int (zI l9), .int (zI v9), .int (zI t9)] [ob e 9 (ecS ip op t tr ps pa sl) J, ob t 8 (tkS al lg) (tkI (n)), arR G 5 al 6 (fun j => some (L (j : Int))), LF G M L (n), LOG G lg (n), PS G M pa (J 6) N] (some (.int (zI (nTypes l9 v9 t9.toNat n l9 18 - n l9 18)))) [ob e 9 (ecS ip op t tr ps pa sl) (up J 6 (rmR (J 6))), ob t 8 (tkS al lg) (tkI (nTypes l9 v9 t9.toNat n)), arR G 5 al 6 (fun j => some (L (j : Int))), LF G M L (nTypes l9 v9 t9.toNat n), LOG G lg (nTypes l9 v9 t9.toNat n), PS G M pa (rmR (J 6)) (rmP (J 6) N n)] := by
  refine MX_of (lv := [some (.ref e), some (.int (zI l9)), some (.int (zI v9)), some (.int (zI t9)), none, none]) hK (by decide +kernel) rfl (by first | exact nle rfl | omega) (fun X C F => ?_)
  have C : OKc G X l RX7 "type" cX7_type 6 (some .int) 9 64 1900 := C
  have hH := hN.1
  unfold HeadOk at hH
  have loop : ∀ (f k : Nat), (k : Int) ≤ t9 → t9 < k + f → WX G X 64 1900 [ob e 9 (ecS ip op t tr ps pa sl) (up J 6 (rmR (J 6))), ob t 8 (tkS al lg) (tkI (nTypes l9 v9 k n)), arR G 5 al 6 (fun j => some (L (j : Int))), LF G M L (nTypes l9 v9 k n), LOG G lg (nTypes l9 v9 k n), PS G M pa (rmR (J 6)) (rmP (J 6) N n)] 29 [some (.ref e), some (.int (zI l9)), some (.int (zI v9)), some (.int (zI t9)), some (.int (zI (nTypes l9 v9 k n l9 18 - n l9 18))), some (.int (zI (k : Int)))] [] := by
    intro f
    induction f with
    | zero => intro k h0 h1; exfalso; omega
    | succ f ih =>
      intro k h0 h1
      obtain ⟨hK9, e0⟩ := nTypes_ok hN hl hv k
      have hL := hK9.2.2 l9 (by omega) (by omega)
      have hc9 := LineOk_c hL (k := 18) (by decide) (by decide)
      have hc0 := LineOk_c (hN.2.2 l9 hl.1 hl.2) (k := 18) (by decide) (by decide)
      unfold LineOk at hL
      have es := nTypes_18 (k := k) hN hl hv
      have eH : nTypes l9 v9 (k + 1) n = un (nTypes l9 v9 k n) l9 (bType (nTypes l9 v9 k n l9) v9 (nTypes l9 v9 k n (-1) 1)) := rfl
      refine x_iload C eX7_type_29 rfl ?_
      refine x_iload_n C eX7_type_31 rfl ?_
      refine x_icmp_ge 66 C eX7_type_32 rfl (by omega) (by omega) (fun h32 => ?_) (fun h32 => ?_)
      · refine x_iload C eX7_type_66 rfl ?_
        refine x_iret (by first | rfl | exact (narZ (by omega)).1) C F eX7_type_68 () ?_ trivial (fun cf c h => ?_) (by first | exact nle rfl | omega) (by first | exact nle rfl | omega)
        · rw [show t9.toNat = k by omega]
        · rw [show t9.toNat = k by omega]
          exact WF_pick [0, 1, 2, 3, 4, 5] rfl rfl h
      · refine x_aload_n C eX7_type_35 rfl ?_
        refine x_getR 0 C f_RX7_22 eX7_type_36 rfl rfl ?_
        refine x_iload_n C eX7_type_39 rfl ?_
        refine yV1r [_, _, _, _] [_, _, _, _, _, _] C (s_X6_lineAt hK (by omega)) v_X6_lineAt vv_X6_lineAt s_RX7_122 eX7_type_40 (fun _ _ h => WF_pick [1, 2, 0, 3, 4, 5] rfl rfl h) (rcv 1 rfl) rfl (by first | exact nle rfl | omega) (by first | exact nle rfl | omega) (by first | exact nle rfl | omega) (by first | exact nle rfl | omega) rfl ?_
        refine x_iload_n C eX7_type_43 rfl ?_
        refine x_aload_n C eX7_type_44 rfl ?_
        refine x_getR 2 C f_RX7_22 eX7_type_45 rfl rfl ?_
        refine x_getI 0 C f_RX7_100 eX7_type_48 rfl rfl ?_
        try simp (disch := decide) only [up_s, up_n, tkI_2, tkI_3, tkI_4, tkI_5, tkI_6, tkI_7, tkI_8, lnI_1, lnI_2, lnI_3, lnI_4, lnI_5, lnI_10, lnI_11, lnI_12, lnI_13, lnI_14, lnI_15]
        refine yV2r [_, _, _, _, _] [_, _, _, _, _, _] C (s_FL_acceptTyped hK (by omega) (by omega) (by omega) (by omega) (by omega) (by omega)) v_X0_acceptTyped vv_X0_acceptTyped s_RX7_230 eX7_type_51 (fun _ _ h => WF_pick [3, 0, 1, 2, 4, 5] rfl rfl h) (rcvP 3 rfl (LF_rcv (by omega))) rfl (by first | exact nle rfl | omega) (by first | exact nle rfl | omega) (by first | exact nle rfl | omega) (by first | exact nle rfl | omega) rfl ?_
        skip
        refine x_ifb_ne 60 C eX7_type_54 rfl (fun h54 => ?_) (fun h54 => ?_)
        · refine x_iinc [_, _, _, _, _, _] C eX7_type_60 rfl rfl rfl ?_
          refine x_goto (pc' := 29) C eX7_type_63 rfl ?_
          refine x_ws ((ob t 8 (tkS al lg) (tkI (nTypes l9 v9 (k + 1) n))) :: (arR G 5 al 6 (fun j => some (L (j : Int)))) :: (LF G M L (nTypes l9 v9 (k + 1) n)) :: (LOG G lg (nTypes l9 v9 (k + 1) n)) :: [_, _]) (fun cf0 c hw => TKcv (n1 := un (nTypes l9 v9 k n) l9 (bType (nTypes l9 v9 k n l9) v9 (nTypes l9 v9 k n (-1) 1))) (n2 := nTypes l9 v9 k n) ?_ ?_ ?_ ?_ ?_ ?_ ?_ ?_ ?_ ?_ ?_ (R := [_, _]) (WF_pick [1, 2, 0, 4, 3, 5] rfl rfl hw)) ?_
          · rw [eH, un_n (by omega)]; rfl
          · rw [eH, un_n (by omega)]; rfl
          · rw [eH, un_n (by omega)]; rfl
          · rw [eH, un_n (by omega)]; rfl
          · rw [eH, un_n (by omega)]; rfl
          · rw [eH, un_n (by omega)]; rfl
          · rw [eH, un_n (by omega)]; rfl
          · rfl
          · exact fun _ _ _ => rfl
          · rw [eH, un_n (by omega)]
          · rw [eH, un_n (by omega)]
          refine x_pick [_, _, _, _, _, _] [4, 0, 1, 2, 3, 5] rfl rfl ?_
          have h3 := ih (k + 1) (by omega) (by omega)
          first
            | (rw [es, if_pos (by omega)] at h3; rw [show nTypes l9 v9 k n l9 18 - n l9 18 + 1 = nTypes l9 v9 k n l9 18 + 1 - n l9 18 by omega]; exact h3)
            | (rw [es, if_neg (by omega)] at h3; rw [show nTypes l9 v9 k n l9 18 + 0 - n l9 18 = nTypes l9 v9 k n l9 18 - n l9 18 by omega] at h3; exact h3)
        · refine x_iinc [_, _, _, _, _, _] C eX7_type_57 rfl rfl rfl ?_
          refine x_iinc [_, _, _, _, _, _] C eX7_type_60 rfl rfl rfl ?_
          refine x_goto (pc' := 29) C eX7_type_63 rfl ?_
          refine x_ws ((ob t 8 (tkS al lg) (tkI (nTypes l9 v9 (k + 1) n))) :: (arR G 5 al 6 (fun j => some (L (j : Int)))) :: (LF G M L (nTypes l9 v9 (k + 1) n)) :: (LOG G lg (nTypes l9 v9 (k + 1) n)) :: [_, _]) (fun cf0 c hw => TKcv (n1 := un (nTypes l9 v9 k n) l9 (bType (nTypes l9 v9 k n l9) v9 (nTypes l9 v9 k n (-1) 1))) (n2 := nTypes l9 v9 k n) ?_ ?_ ?_ ?_ ?_ ?_ ?_ ?_ ?_ ?_ ?_ (R := [_, _]) (WF_pick [1, 2, 0, 4, 3, 5] rfl rfl hw)) ?_
          · rw [eH, un_n (by omega)]; rfl
          · rw [eH, un_n (by omega)]; rfl
          · rw [eH, un_n (by omega)]; rfl
          · rw [eH, un_n (by omega)]; rfl
          · rw [eH, un_n (by omega)]; rfl
          · rw [eH, un_n (by omega)]; rfl
          · rw [eH, un_n (by omega)]; rfl
          · rfl
          · exact fun _ _ _ => rfl
          · rw [eH, un_n (by omega)]
          · rw [eH, un_n (by omega)]
          refine x_pick [_, _, _, _, _, _] [4, 0, 1, 2, 3, 5] rfl rfl ?_
          have h3 := ih (k + 1) (by omega) (by omega)
          first
            | (rw [es, if_pos (by omega)] at h3; rw [show nTypes l9 v9 k n l9 18 - n l9 18 + 1 = nTypes l9 v9 k n l9 18 + 1 - n l9 18 by omega]; exact h3)
            | (rw [es, if_neg (by omega)] at h3; rw [show nTypes l9 v9 k n l9 18 + 0 - n l9 18 = nTypes l9 v9 k n l9 18 - n l9 18 by omega] at h3; exact h3)
  refine x_aload_n C eX7_type_0 rfl ?_
  refine x_iload_n C eX7_type_1 rfl ?_
  refine yV1v [_, _, _, _] [_, _, _, _, _, _] C (s_X7_testLine hK (by omega)) v_X7_testLine vv_X7_testLine s_RX7_145 eX7_type_2 (fun _ _ h => WF_pick [0, 1, 2, 3, 4, 5] rfl rfl h) (rcv 0 rfl) rfl (by first | exact nle rfl | omega) (by first | exact nle rfl | omega) (by first | exact nle rfl | omega) (by first | exact nle rfl | omega) rfl ?_
  refine x_iload_n C eX7_type_5 rfl ?_
  refine x_iconst C eX7_type_6 ?_
  refine x_bipush C eX7_type_7 rfl ?_
  refine yS3v [_, _, _, _, _, _] [_, _, _, _, _, _] C (s_X7_testRange hK (by omega)) v_X7_testRange vs_X7_testRange s_RX7_219 eX7_type_9 (fun _ _ h => WF_pick [0, 1, 2, 3, 4, 5] rfl rfl h) rfl (by first | exact nle rfl | omega) (by first | exact nle rfl | omega) (by first | exact nle rfl | omega) (by first | exact nle rfl | omega) rfl ?_
  refine x_iload_n C eX7_type_12 rfl ?_
  refine x_iconst C eX7_type_13 ?_
  refine x_bipush C eX7_type_14 rfl ?_
  refine yS3v [_, _, _, _, _, _] [_, _, _, _, _, _] C (s_X7_testRange hK (by omega)) v_X7_testRange vs_X7_testRange s_RX7_219 eX7_type_16 (fun _ _ h => WF_pick [0, 1, 2, 3, 4, 5] rfl rfl h) rfl (by first | exact nle rfl | omega) (by first | exact nle rfl | omega) (by first | exact nle rfl | omega) (by first | exact nle rfl | omega) rfl ?_
  refine x_aload_n C eX7_type_19 rfl ?_
  refine yV0w [] [_, _, _, _, _, _] C (s_X7_remember hK hN (by omega) (by omega) hS) v_X7_remember vv_X7_remember s_RX7_84 eX7_type_20 (fun _ _ h => WF_pick [0, 1, 2, 3, 4, 5] rfl rfl h) (rcv 0 rfl) rfl (by first | exact nle rfl | omega) (by first | exact nle rfl | omega) (by first | exact nle rfl | omega) (by first | exact nle rfl | omega) rfl ?_
  refine x_iconst C eX7_type_23 ?_
  refine x_istore [_, _, _, _, _, _] C eX7_type_24 rfl rfl (nlt rfl) ?_
  refine x_iconst C eX7_type_26 ?_
  refine x_istore [_, _, _, _, _, _] C eX7_type_27 rfl rfl (nlt rfl) ?_
  refine x_pick [_, _, _, _, _, _] [0, 1, 2, 3, 4, 5] rfl rfl ?_
  have h3 := loop 70 0 (by omega) (by omega)
  rw [show nTypes l9 v9 0 n l9 18 - n l9 18 = 0 from Int.sub_self _] at h3
  exact h3

set_option maxHeartbeats 4000000 in
set_option maxRecDepth 100000 in
theorem s_X7_reply {G : Gm} {l : Launch} (hK : KG G) {e ip op t tr ps pa sl al lg : Nat} {J : Nat → Int} {M : Pool} {L : Int → Nat} {n : Net} {N : Nat → Net} {b : Int} {l9 v9 t9 : Int} (hN : NetOk b n) (hb : b ≤ 900000000) (h6 : 0 ≤ J 6 ∧ J 6 ≤ 6) (hS : KS G) (hl : 0 ≤ l9 ∧ l9 < n (-1) 0) (hv : 1 ≤ v9 ∧ v9 ≤ 127) (ht : 1 ≤ t9 ∧ t9 ≤ 60) : MD G l yX7_reply cX7_reply 6 (some .int) 9 64 1900 [.ref e, .int (zI l9), .int (zI v9), .int (zI t9)] [ob e 9 (ecS ip op t tr ps pa sl) J, ob t 8 (tkS al lg) (tkI (n)), arR G 5 al 6 (fun j => some (L (j : Int))), LF G M L (n), LOG G lg (n), PS G M pa (J 6) N] (some (.int (zI (nOffers l9 v9 t9.toNat n l9 22 - n l9 22)))) [ob e 9 (ecS ip op t tr ps pa sl) (up J 6 (rmR (J 6))), ob t 8 (tkS al lg) (tkI (nOffers l9 v9 t9.toNat n)), arR G 5 al 6 (fun j => some (L (j : Int))), LF G M L (nOffers l9 v9 t9.toNat n), LOG G lg (nOffers l9 v9 t9.toNat n), PS G M pa (rmR (J 6)) (rmP (J 6) N n)] := by
  refine MX_of (lv := [some (.ref e), some (.int (zI l9)), some (.int (zI v9)), some (.int (zI t9)), none, none]) hK (by decide +kernel) rfl (by first | exact nle rfl | omega) (fun X C F => ?_)
  have C : OKc G X l RX7 "reply" cX7_reply 6 (some .int) 9 64 1900 := C
  have hH := hN.1
  unfold HeadOk at hH
  have loop : ∀ (f k : Nat), (k : Int) ≤ t9 → t9 < k + f → WX G X 64 1900 [ob e 9 (ecS ip op t tr ps pa sl) (up J 6 (rmR (J 6))), ob t 8 (tkS al lg) (tkI (nOffers l9 v9 k n)), arR G 5 al 6 (fun j => some (L (j : Int))), LF G M L (nOffers l9 v9 k n), LOG G lg (nOffers l9 v9 k n), PS G M pa (rmR (J 6)) (rmP (J 6) N n)] 29 [some (.ref e), some (.int (zI l9)), some (.int (zI v9)), some (.int (zI t9)), some (.int (zI (nOffers l9 v9 k n l9 22 - n l9 22))), some (.int (zI (k : Int)))] [] := by
    intro f
    induction f with
    | zero => intro k h0 h1; exfalso; omega
    | succ f ih =>
      intro k h0 h1
      obtain ⟨hK9, e0⟩ := nOffers_ok hN hl hv k
      have hL := hK9.2.2 l9 (by omega) (by omega)
      have hc9 := LineOk_c hL (k := 22) (by decide) (by decide)
      have hc0 := LineOk_c (hN.2.2 l9 hl.1 hl.2) (k := 22) (by decide) (by decide)
      unfold LineOk at hL
      have es := nOffers_22 (k := k) hN hl hv
      have eH : nOffers l9 v9 (k + 1) n = un (nOffers l9 v9 k n) l9 (bOffer (nOffers l9 v9 k n l9) v9) := rfl
      refine x_iload C eX7_reply_29 rfl ?_
      refine x_iload_n C eX7_reply_31 rfl ?_
      refine x_icmp_ge 59 C eX7_reply_32 rfl (by omega) (by omega) (fun h32 => ?_) (fun h32 => ?_)
      · refine x_iload C eX7_reply_59 rfl ?_
        refine x_iret (by first | rfl | exact (narZ (by omega)).1) C F eX7_reply_61 () ?_ trivial (fun cf c h => ?_) (by first | exact nle rfl | omega) (by first | exact nle rfl | omega)
        · rw [show t9.toNat = k by omega]
        · rw [show t9.toNat = k by omega]
          exact WF_pick [0, 1, 2, 3, 4, 5] rfl rfl h
      · refine x_aload_n C eX7_reply_35 rfl ?_
        refine x_getR 0 C f_RX7_22 eX7_reply_36 rfl rfl ?_
        refine x_iload_n C eX7_reply_39 rfl ?_
        refine yV1r [_, _, _, _] [_, _, _, _, _, _] C (s_X6_lineAt hK (by omega)) v_X6_lineAt vv_X6_lineAt s_RX7_122 eX7_reply_40 (fun _ _ h => WF_pick [1, 2, 0, 3, 4, 5] rfl rfl h) (rcv 1 rfl) rfl (by first | exact nle rfl | omega) (by first | exact nle rfl | omega) (by first | exact nle rfl | omega) (by first | exact nle rfl | omega) rfl ?_
        refine x_iload_n C eX7_reply_43 rfl ?_
        refine yV1r [_, _, _, _, _] [_, _, _, _, _, _] C (s_FL_acceptOffered hK (by omega) (by omega)) v_X0_acceptOffered vv_X0_acceptOffered s_RX7_256 eX7_reply_44 (fun _ _ h => WF_pick [3, 0, 1, 2, 4, 5] rfl rfl h) (rcvP 3 rfl (LF_rcv (by omega))) rfl (by first | exact nle rfl | omega) (by first | exact nle rfl | omega) (by first | exact nle rfl | omega) (by first | exact nle rfl | omega) rfl ?_
        skip
        refine x_ifb_ne 53 C eX7_reply_47 rfl (fun h47 => ?_) (fun h47 => ?_)
        · refine x_iinc [_, _, _, _, _, _] C eX7_reply_53 rfl rfl rfl ?_
          refine x_goto (pc' := 29) C eX7_reply_56 rfl ?_
          refine x_ws ((ob t 8 (tkS al lg) (tkI (nOffers l9 v9 (k + 1) n))) :: (arR G 5 al 6 (fun j => some (L (j : Int)))) :: (LF G M L (nOffers l9 v9 (k + 1) n)) :: (LOG G lg (nOffers l9 v9 (k + 1) n)) :: [_, _]) (fun cf0 c hw => TKcv (n1 := un (nOffers l9 v9 k n) l9 (bOffer (nOffers l9 v9 k n l9) v9)) (n2 := nOffers l9 v9 k n) ?_ ?_ ?_ ?_ ?_ ?_ ?_ ?_ ?_ ?_ ?_ (R := [_, _]) (WF_pick [1, 2, 0, 4, 3, 5] rfl rfl hw)) ?_
          · rw [eH, un_n (by omega)]; rfl
          · rw [eH, un_n (by omega)]; rfl
          · rw [eH, un_n (by omega)]; rfl
          · rw [eH, un_n (by omega)]; rfl
          · rw [eH, un_n (by omega)]; rfl
          · rw [eH, un_n (by omega)]; rfl
          · rw [eH, un_n (by omega)]; rfl
          · rfl
          · exact fun _ _ _ => rfl
          · rw [eH, un_n (by omega)]
          · rw [eH, un_n (by omega)]
          refine x_pick [_, _, _, _, _, _] [4, 0, 1, 2, 3, 5] rfl rfl ?_
          have h3 := ih (k + 1) (by omega) (by omega)
          first
            | (rw [es, if_pos (by omega)] at h3; rw [show nOffers l9 v9 k n l9 22 - n l9 22 + 1 = nOffers l9 v9 k n l9 22 + 1 - n l9 22 by omega]; exact h3)
            | (rw [es, if_neg (by omega)] at h3; rw [show nOffers l9 v9 k n l9 22 + 0 - n l9 22 = nOffers l9 v9 k n l9 22 - n l9 22 by omega] at h3; exact h3)
        · refine x_iinc [_, _, _, _, _, _] C eX7_reply_50 rfl rfl rfl ?_
          refine x_iinc [_, _, _, _, _, _] C eX7_reply_53 rfl rfl rfl ?_
          refine x_goto (pc' := 29) C eX7_reply_56 rfl ?_
          refine x_ws ((ob t 8 (tkS al lg) (tkI (nOffers l9 v9 (k + 1) n))) :: (arR G 5 al 6 (fun j => some (L (j : Int)))) :: (LF G M L (nOffers l9 v9 (k + 1) n)) :: (LOG G lg (nOffers l9 v9 (k + 1) n)) :: [_, _]) (fun cf0 c hw => TKcv (n1 := un (nOffers l9 v9 k n) l9 (bOffer (nOffers l9 v9 k n l9) v9)) (n2 := nOffers l9 v9 k n) ?_ ?_ ?_ ?_ ?_ ?_ ?_ ?_ ?_ ?_ ?_ (R := [_, _]) (WF_pick [1, 2, 0, 4, 3, 5] rfl rfl hw)) ?_
          · rw [eH, un_n (by omega)]; rfl
          · rw [eH, un_n (by omega)]; rfl
          · rw [eH, un_n (by omega)]; rfl
          · rw [eH, un_n (by omega)]; rfl
          · rw [eH, un_n (by omega)]; rfl
          · rw [eH, un_n (by omega)]; rfl
          · rw [eH, un_n (by omega)]; rfl
          · rfl
          · exact fun _ _ _ => rfl
          · rw [eH, un_n (by omega)]
          · rw [eH, un_n (by omega)]
          refine x_pick [_, _, _, _, _, _] [4, 0, 1, 2, 3, 5] rfl rfl ?_
          have h3 := ih (k + 1) (by omega) (by omega)
          first
            | (rw [es, if_pos (by omega)] at h3; rw [show nOffers l9 v9 k n l9 22 - n l9 22 + 1 = nOffers l9 v9 k n l9 22 + 1 - n l9 22 by omega]; exact h3)
            | (rw [es, if_neg (by omega)] at h3; rw [show nOffers l9 v9 k n l9 22 + 0 - n l9 22 = nOffers l9 v9 k n l9 22 - n l9 22 by omega] at h3; exact h3)
  refine x_aload_n C eX7_reply_0 rfl ?_
  refine x_iload_n C eX7_reply_1 rfl ?_
  refine yV1v [_, _, _, _] [_, _, _, _, _, _] C (s_X7_testLine hK (by omega)) v_X7_testLine vv_X7_testLine s_RX7_145 eX7_reply_2 (fun _ _ h => WF_pick [0, 1, 2, 3, 4, 5] rfl rfl h) (rcv 0 rfl) rfl (by first | exact nle rfl | omega) (by first | exact nle rfl | omega) (by first | exact nle rfl | omega) (by first | exact nle rfl | omega) rfl ?_
  refine x_iload_n C eX7_reply_5 rfl ?_
  refine x_iconst C eX7_reply_6 ?_
  refine x_bipush C eX7_reply_7 rfl ?_
  refine yS3v [_, _, _, _, _, _] [_, _, _, _, _, _] C (s_X7_testRange hK (by omega)) v_X7_testRange vs_X7_testRange s_RX7_219 eX7_reply_9 (fun _ _ h => WF_pick [0, 1, 2, 3, 4, 5] rfl rfl h) rfl (by first | exact nle rfl | omega) (by first | exact nle rfl | omega) (by first | exact nle rfl | omega) (by first | exact nle rfl | omega) rfl ?_
  refine x_iload_n C eX7_reply_12 rfl ?_
  refine x_iconst C eX7_reply_13 ?_
  refine x_bipush C eX7_reply_14 rfl ?_
  refine yS3v [_, _, _, _, _, _] [_, _, _, _, _, _] C (s_X7_testRange hK (by omega)) v_X7_testRange vs_X7_testRange s_RX7_219 eX7_reply_16 (fun _ _ h => WF_pick [0, 1, 2, 3, 4, 5] rfl rfl h) rfl (by first | exact nle rfl | omega) (by first | exact nle rfl | omega) (by first | exact nle rfl | omega) (by first | exact nle rfl | omega) rfl ?_
  refine x_aload_n C eX7_reply_19 rfl ?_
  refine yV0w [] [_, _, _, _, _, _] C (s_X7_remember hK hN (by omega) (by omega) hS) v_X7_remember vv_X7_remember s_RX7_84 eX7_reply_20 (fun _ _ h => WF_pick [0, 1, 2, 3, 4, 5] rfl rfl h) (rcv 0 rfl) rfl (by first | exact nle rfl | omega) (by first | exact nle rfl | omega) (by first | exact nle rfl | omega) (by first | exact nle rfl | omega) rfl ?_
  refine x_iconst C eX7_reply_23 ?_
  refine x_istore [_, _, _, _, _, _] C eX7_reply_24 rfl rfl (nlt rfl) ?_
  refine x_iconst C eX7_reply_26 ?_
  refine x_istore [_, _, _, _, _, _] C eX7_reply_27 rfl rfl (nlt rfl) ?_
  refine x_pick [_, _, _, _, _, _] [0, 1, 2, 3, 4, 5] rfl rfl ?_
  have h3 := loop 70 0 (by omega) (by omega)
  rw [show nOffers l9 v9 0 n l9 22 - n l9 22 = 0 from Int.sub_self _] at h3
  exact h3
