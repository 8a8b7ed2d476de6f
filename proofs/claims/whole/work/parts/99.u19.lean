/-! Names looked up. -/

set_option maxHeartbeats 4000000 in
set_option maxRecDepth 100000 in
theorem s_X6_numberOfName {G : Gm} {l : Launch} (hK : KG G) {M : Pool} {L : Int → Nat} {n : Net} {t al lg q b : Nat} {b0 z s9 e9 : Int} {Fb : Nat → Int} (hN : NetOk b0 n) (hS : KS G) (hPL : PLok G M) (hnam : namOk) (hz : 0 ≤ z ∧ z ≤ 400) (hF : ∀ j : Nat, -128 ≤ Fb j ∧ Fb j ≤ 127) (hr : 0 ≤ s9 ∧ s9 ≤ e9 ∧ e9 ≤ 1000000) : MD G l yX6_numberOfName cX6_numberOfName 5 (some .int) 6 0 0 [.ref t, .ref q, .int (zI s9), .int (zI e9)] [ob t 8 (tkS al lg) (tkI (n)), arR G 5 al 6 (fun j => some (L (j : Int))), LF G M L (n), ob q 6 [some (.ref b), none] (fun _ => z), ar G 1 b 400 400 (Fb), PL G M] (some (.int (zI (srch (fun k => decide (tW Fb z s9 (e9 - s9).toNat = nam (n k 0))) (n (-1) 0).toNat 0)))) [ob t 8 (tkS al lg) (tkI (n)), arR G 5 al 6 (fun j => some (L (j : Int))), LF G M L (n), ob q 6 [some (.ref b), none] (fun _ => z), ar G 1 b 400 400 (Fb), PL G M] := by
  refine MX_of (lv := [some (.ref t), some (.ref q), some (.int (zI s9)), some (.int (zI e9)), none]) hK (by decide +kernel) rfl (nle rfl) (fun X C F => ?_)
  have C : OKc G X l RX6 "numberOfName" cX6_numberOfName 5 (some .int) 6 0 0 := C
  have hH := hN.1
  unfold HeadOk at hH
  have loop : ∀ (f k : Nat), (k : Int) ≤ n (-1) 0 → n (-1) 0 < k + f → srch (fun k => decide (tW Fb z s9 (e9 - s9).toNat = nam (n k 0))) (n (-1) 0).toNat 0 = srch (fun k => decide (tW Fb z s9 (e9 - s9).toNat = nam (n k 0))) ((n (-1) 0).toNat - k) k → WX G X 0 0 [ob t 8 (tkS al lg) (tkI (n)), arR G 5 al 6 (fun j => some (L (j : Int))), LF G M L (n), ob q 6 [some (.ref b), none] (fun _ => z), ar G 1 b 400 400 (Fb), PL G M] 3 [some (.ref t), some (.ref q), some (.int (zI s9)), some (.int (zI e9)), some (.int (zI (k : Int)))] [] := by
    intro f
    induction f with
    | zero => intro k h0 h1; exfalso; omega
    | succ f ih =>
      intro k h0 h1 h2
      refine x_iload C eX6_numberOfName_3 rfl ?_
      refine x_aload_n C eX6_numberOfName_5 rfl ?_
      refine x_getI 0 C f_RX6_24 eX6_numberOfName_6 rfl rfl ?_
      try simp (disch := decide) only [up_s, up_n, tkI_2, tkI_3, tkI_4, tkI_5, tkI_6, tkI_7, tkI_8, lnI_1, lnI_2, lnI_3, lnI_4, lnI_5, lnI_10, lnI_11, lnI_12, lnI_13, lnI_14, lnI_15]
      refine x_icmp_ge 39 C eX6_numberOfName_9 rfl (by omega) (by omega) (fun h9 => ?_) (fun h9 => ?_)
      · refine x_iconst C eX6_numberOfName_39 ?_
        refine x_iret (by first | rfl | exact (narZ (by omega)).1) C F eX6_numberOfName_40 () ?_ trivial (fun cf c h => ?_) (nle rfl) (nle rfl)
        · rw [h2, show (n (-1) 0).toNat - k = 0 by omega]
          rfl
        · exact WF_pick [0, 1, 2, 3, 4, 5] rfl rfl h
      · have hL := hN.2.2 k (by omega) (by omega)
        unfold LineOk at hL
        refine x_aload_n C eX6_numberOfName_12 rfl ?_
        refine x_iload_n C eX6_numberOfName_13 rfl ?_
        refine x_iload_n C eX6_numberOfName_14 rfl ?_
        refine x_aload_n C eX6_numberOfName_15 rfl ?_
        refine x_iload C eX6_numberOfName_16 rfl ?_
        refine yV1r [_, _, _, _] [_, _, _, _, _, _] C (s_X6_lineAt hK (by omega)) v_X6_lineAt vv_X6_lineAt s_RX6_32 eX6_numberOfName_18 (fun _ _ h => WF_pick [0, 1, 2, 3, 4, 5] rfl rfl h) (rcv 0 rfl) rfl (nle rfl) (nle rfl) (nle rfl) (nle rfl) rfl ?_
        skip
        refine x_oL (M := M) (L := L) (m := n) (i := k) (R := [_, _, _, _, _]) (by omega) (fun _ _ hw => WF_pick [2, 0, 1, 3, 4, 5] rfl rfl hw) (fun A hA => ?_)
        obtain ⟨b9, u9, hsp, hul, huc, huw⟩ := hA.1
        have hsk := SP_sk hPL hsp
        have hnam9 : nam (n k 0) = u9 := by rw [← huw]; exact hnam u9 hul huc
        have hit : (e9 - s9 = (u9.length : Int) ∧ hwQ Fb z s9 u9 u9.length = true) ↔ tW Fb z s9 (e9 - s9).toNat = nam (n k 0) := by
          rw [hnam9, tW_u]
          constructor
          · rintro ⟨a, b⟩; exact ⟨by omega, b⟩
          · rintro ⟨a, b⟩; exact ⟨by omega, b⟩
        refine x_getR 0 C f_RX6_36 eX6_numberOfName_21 rfl rfl ?_
        refine yV3r [_, _, _, _, _, _, _, _, _, _, _, _, _] [_, _, _, _, _, _, _, _, _, _, _, _, _, _, _, _] C (s_X4_holdsWord hK hS hsk hz hF (by omega)) v_X4_holdsWord vv_X4_holdsWord s_RX6_40 eX6_numberOfName_24 (fun _ _ h => WF_pick [13, 14, 15, 0, 1, 2, 3, 4, 5, 6, 7, 8, 9, 10, 11, 12] rfl rfl h) (rcv 13 rfl) rfl (nle rfl) (nle rfl) (nle rfl) (nle rfl) rfl ?_
        skip
        refine x_pick [_, _, _, _, _, _, _, _, _, _, _, _, _, _, _, _] [3, 4, 5, 6, 7, 8, 9, 10, 11, 12, 13, 0, 1, 2, 14, 15] rfl rfl ?_
        refine x_cL (m := n) (i := k) (A := A) (B := n k) (by omega) hA (fun cf c h => ?_) ?_
        · exact h
        rw [un_id]
        refine x_ifb_eq 33 C eX6_numberOfName_27 rfl (fun h27 => ?_) (fun h27 => ?_)
        · refine x_iinc [_, _, _, _, _] C eX6_numberOfName_33 rfl rfl rfl ?_
          refine x_goto (pc' := 3) C eX6_numberOfName_36 rfl ?_
          refine x_pick [_, _, _, _, _, _] [4, 5, 0, 1, 2, 3] rfl rfl ?_
          refine ih (k + 1) (by omega) (by omega) ?_
          rw [h2, show (n (-1) 0).toNat - k = ((n (-1) 0).toNat - (k + 1)) + 1 by omega]
          exact srch_f (p := fun k => decide (tW Fb z s9 (e9 - s9).toNat = nam (n k 0))) (by rw [decide_eq_true_iff]; exact fun z9 => absurd (hit.mpr z9) (by assumption))
        · refine x_iload C eX6_numberOfName_30 rfl ?_
          refine x_iret (by first | rfl | exact (narZ (by omega)).1) C F eX6_numberOfName_32 () ?_ trivial (fun cf c h => ?_) (nle rfl) (nle rfl)
          · rw [h2, show (n (-1) 0).toNat - k = ((n (-1) 0).toNat - (k + 1)) + 1 by omega]
            exact congrArg (fun z => some (Value.int (zI z))) (srch_t (p := fun k => decide (tW Fb z s9 (e9 - s9).toNat = nam (n k 0))) (by rw [decide_eq_true_iff]; exact hit.mp (by assumption)))
          · exact WF_pick [4, 5, 0, 1, 2, 3] rfl rfl h
  refine x_iconst C eX6_numberOfName_0 ?_
  refine x_istore [_, _, _, _, _] C eX6_numberOfName_1 rfl rfl (nlt rfl) ?_
  refine x_pick [_, _, _, _, _, _] [0, 1, 2, 3, 4, 5] rfl rfl ?_
  exact loop 20 0 (by omega) (by omega) rfl

set_option maxHeartbeats 4000000 in
set_option maxRecDepth 100000 in
theorem s_X7_find {G : Gm} {l : Launch} (hK : KG G) {e ip op t tr ps pa sl al lg ib : Nat} {J : Nat → Int} {M : Pool} {L : Int → Nat} {n : Net} {b z : Int} {Fb : Nat → Int} (hN : NetOk b n) (hb : b ≤ 900000000) (hS : KS G) (hPL : PLok G M) (hnam : namOk) (hz : 0 ≤ z ∧ z ≤ 400) (hF : ∀ j : Nat, -128 ≤ Fb j ∧ Fb j ≤ 127) : MD G l yX7_find cX7_find 2 (some .int) 7 0 0 [.ref e] [ob e 9 (ecS ip op t tr ps pa sl) J, ob t 8 (tkS al lg) (tkI (n)), arR G 5 al 6 (fun j => some (L (j : Int))), LF G M L (n), LOG G lg (n), ob ip 6 [some (.ref ib), none] (fun _ => z), ar G 1 ib 400 400 (Fb), PL G M] (some (.int (zI (if z = 0 then -1 else srch (fun k => decide (tW Fb z 0 (z - 0).toNat = nam (n k 0))) (n (-1) 0).toNat 0)))) [ob e 9 (ecS ip op t tr ps pa sl) J, ob t 8 (tkS al lg) (tkI (n)), arR G 5 al 6 (fun j => some (L (j : Int))), LF G M L (n), LOG G lg (n), ob ip 6 [some (.ref ib), none] (fun _ => 0), ar G 1 ib 400 400 (Fb), PL G M] := by
  refine MX_of (lv := [some (.ref e), none]) hK (by decide +kernel) rfl (nle rfl) (fun X C F => ?_)
  have C : OKc G X l RX7 "find" cX7_find 2 (some .int) 7 0 0 := C
  have hH := hN.1
  unfold HeadOk at hH
  refine x_aload_n C eX7_find_0 rfl ?_
  refine x_getR 0 C f_RX7_10 eX7_find_1 rfl rfl ?_
  refine x_getI 5 C f_RX7_49 eX7_find_4 rfl rfl ?_
  try simp (disch := decide) only [up_s, up_n, tkI_2, tkI_3, tkI_4, tkI_5, tkI_6, tkI_7, tkI_8, lnI_1, lnI_2, lnI_3, lnI_4, lnI_5, lnI_10, lnI_11, lnI_12, lnI_13, lnI_14, lnI_15]
  refine x_if_ne 14 C eX7_find_7 rfl (by omega) (fun h7 => ?_) (fun h7 => ?_)
  · refine x_aload_n C eX7_find_14 rfl ?_
    refine x_getR 0 C f_RX7_22 eX7_find_15 rfl rfl ?_
    refine x_aload_n C eX7_find_18 rfl ?_
    refine x_getR 0 C f_RX7_10 eX7_find_19 rfl rfl ?_
    refine x_iconst C eX7_find_22 ?_
    refine x_aload_n C eX7_find_23 rfl ?_
    refine x_getR 0 C f_RX7_10 eX7_find_24 rfl rfl ?_
    refine x_getI 5 C f_RX7_49 eX7_find_27 rfl rfl ?_
    try simp (disch := decide) only [up_s, up_n, tkI_2, tkI_3, tkI_4, tkI_5, tkI_6, tkI_7, tkI_8, lnI_1, lnI_2, lnI_3, lnI_4, lnI_5, lnI_10, lnI_11, lnI_12, lnI_13, lnI_14, lnI_15]
    refine yV3r [_, _] [_, _, _, _, _, _, _, _] C (s_X6_numberOfName hK hN hS hPL hnam hz hF (by omega)) v_X6_numberOfName vv_X6_numberOfName s_RX7_94 eX7_find_30 (fun _ _ h => WF_pick [1, 2, 3, 5, 6, 7, 0, 4] rfl rfl h) (rcv 1 rfl) rfl (nle rfl) (nle rfl) (nle rfl) (nle rfl) rfl ?_
    refine x_istore_n [_, _] C eX7_find_33 rfl rfl (nlt rfl) ?_
    refine x_aload_n C eX7_find_34 rfl ?_
    refine x_getR 6 C f_RX7_10 eX7_find_35 rfl rfl ?_
    refine x_iconst C eX7_find_38 ?_
    refine x_putI [_, _, _, _, _, _, _, _] 3 C f_RX7_49 eX7_find_39 rfl rfl rfl ?_
    refine x_iload_n C eX7_find_42 rfl ?_
    refine x_iret (by first | rfl | exact (narZ (by omega)).1) C F eX7_find_43 () ?_ trivial (fun cf c h => ?_) (nle rfl) (nle rfl)
    · first
        | rw [if_pos (by omega)]
        | rw [if_neg (by omega)]
    · refine PW.wf (PW_cons (fun _ h => h) (PW_cons (fun _ h => h) (PW_cons (fun _ h => h) (PW_cons (fun _ h => h) (PW_cons (fun _ h => h) (PW_cons (fun _ h => ob_congr (fun i hi9 => ?_) h) PW_rf)))))) (WF_pick [6, 0, 1, 2, 7, 3, 4, 5] rfl rfl h)
      match i with
      | 0 => exact absurd hi9 (by simp)
      | 1 => exact up_s _ _ _
      | (k + 2) => exact absurd hi9 (by simp)
  · refine x_iconst C eX7_find_10 ?_
    refine x_goto (pc' := 33) C eX7_find_11 rfl ?_
    refine x_istore_n [_, _] C eX7_find_33 rfl rfl (nlt rfl) ?_
    refine x_aload_n C eX7_find_34 rfl ?_
    refine x_getR 0 C f_RX7_10 eX7_find_35 rfl rfl ?_
    refine x_iconst C eX7_find_38 ?_
    refine x_putI [_, _, _, _, _, _, _, _] 5 C f_RX7_49 eX7_find_39 rfl rfl rfl ?_
    refine x_iload_n C eX7_find_42 rfl ?_
    refine x_iret (by first | rfl | exact (narZ (by omega)).1) C F eX7_find_43 () ?_ trivial (fun cf c h => ?_) (nle rfl) (nle rfl)
    · first
        | rw [if_pos (by omega)]
        | rw [if_neg (by omega)]
    · refine PW.wf (PW_cons (fun _ h => h) (PW_cons (fun _ h => h) (PW_cons (fun _ h => h) (PW_cons (fun _ h => h) (PW_cons (fun _ h => h) (PW_cons (fun _ h => ob_congr (fun i hi9 => ?_) h) PW_rf)))))) (WF_pick [0, 1, 2, 3, 4, 5, 6, 7] rfl rfl h)
      match i with
      | 0 => exact absurd hi9 (by simp)
      | 1 => exact up_s _ _ _
      | (k + 2) => exact absurd hi9 (by simp)
