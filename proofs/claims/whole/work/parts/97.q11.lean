/-! Slots. -/

set_option maxHeartbeats 4000000 in
set_option maxRecDepth 100000 in
theorem s_X7_testSlot {G : Gm} {l : Launch} (hK : KG G) {e ip op t tr ps pa sl : Nat} {J : Nat → Int} {M : Pool} {Fu : Nat → Int} {K : Nat → Net} {s9 : Int} (hs : 0 ≤ s9 ∧ s9 ≤ 1) : MD G l yX7_testSlot cX7_testSlot 2 none 1 0 0 [.ref e, .int (zI s9)] [ob e 9 (ecS ip op t tr ps pa sl) J, SS G M sl Fu K] none [ob e 9 (ecS ip op t tr ps pa sl) J, SS G M sl Fu K] := by
  refine MX_of (lv := [some (.ref e), some (.int (zI s9))]) hK (by decide +kernel) rfl (nle rfl) (fun X C F => ?_)
  have C : OKc G X l RX7 "testSlot" cX7_testSlot 2 none 1 0 0 := C
  refine x_iload_n C eX7_testSlot_0 rfl ?_
  refine x_if_lt 13 C eX7_testSlot_1 rfl (by omega) (fun h1 => ?_) (fun h1 => ?_)
  · exfalso; omega
  · refine x_iload_n C eX7_testSlot_4 rfl ?_
    refine x_aload_n C eX7_testSlot_5 rfl ?_
    refine x_getR 0 C f_RX7_42 eX7_testSlot_6 rfl rfl ?_
    refine x_alen 1 C eX7_testSlot_9 rfl (by decide) SS_al ?_
    refine x_icmp_lt 24 C eX7_testSlot_10 rfl (by omega) (by omega) (fun h10 => ?_) (fun h10 => ?_)
    · refine x_vret C F eX7_testSlot_24 () rfl trivial (fun cf c h => ?_) (nle rfl) (nle rfl)
      exact WF_pick [0, 1] rfl rfl h
    · exfalso; omega

set_option maxHeartbeats 4000000 in
set_option maxRecDepth 100000 in
theorem s_X7_keep {G : Gm} {l : Launch} (hK : KG G) {e ip op t tr ps pa sl al lg : Nat} {J : Nat → Int} {M : Pool} {L : Int → Nat} {n : Net} {Fu : Nat → Int} {K : Nat → Net} {b s9 : Int} (hN : NetOk b n) (hb : b ≤ 900000000) (hS : KS G) (hs : 0 ≤ s9 ∧ s9 ≤ 1) : MD G l yX7_keep cX7_keep 3 (some .int) 8 64 1900 [.ref e, .int (zI s9)] [ob e 9 (ecS ip op t tr ps pa sl) J, ob t 8 (tkS al lg) (tkI (n)), arR G 5 al 6 (fun j => some (L (j : Int))), LF G M L (n), LOG G lg (n), SS G M sl Fu K] (some (.int (zI (n (-1) 1)))) [ob e 9 (ecS ip op t tr ps pa sl) J, ob t 8 (tkS al lg) (tkI (n)), arR G 5 al 6 (fun j => some (L (j : Int))), LF G M L (n), LOG G lg (n), SS G M sl (up Fu s9.toNat 1) (uN K s9.toNat n)] := by
  refine MX_of (lv := [some (.ref e), some (.int (zI s9)), none]) hK (by decide +kernel) rfl (by first | exact nle rfl | omega) (fun X C F => ?_)
  have C : OKc G X l RX7 "keep" cX7_keep 3 (some .int) 8 64 1900 := C
  have hH := hN.1
  unfold HeadOk at hH
  refine x_aload_n C eX7_keep_0 rfl ?_
  refine x_iload_n C eX7_keep_1 rfl ?_
  refine yV1v [_, _, _, _] [_, _, _, _, _, _] C (s_X7_testSlot hK (by omega)) v_X7_testSlot vv_X7_testSlot s_RX7_275 eX7_keep_2 (fun _ _ h => WF_pick [0, 5, 1, 2, 3, 4] rfl rfl h) (rcv 0 rfl) rfl (by first | exact nle rfl | omega) (by first | exact nle rfl | omega) (by first | exact nle rfl | omega) (by first | exact nle rfl | omega) rfl ?_
  refine x_oSS (M := M) (sl := sl) (Fu := Fu) (N := K) (R := [_, _, _, _, _]) (fun _ _ hw => WF_pick [1, 0, 2, 3, 4, 5] rfl rfl hw) (fun P Lp hP => ?_)
  refine x_aload_n C eX7_keep_5 rfl ?_
  refine x_getR 2 C f_RX7_42 eX7_keep_6 rfl rfl ?_
  refine x_iload_n C eX7_keep_9 rfl ?_
  cases hrow : P s9.toNat with
  | none =>
    refine x_aald (v := .null) 0 C eX7_keep_10 rfl (Or.inr rfl) (by decide) (by omega) (by rw [hrow]; rfl) ?_
    refine x_oR (R := [_, _, _, _, _, _]) s9.toNat (by omega) (fun _ _ hw => WF_pick [1, 0, 2, 3, 4, 5, 6] rfl rfl hw) (pQ_none hrow) ?_
    refine x_astoreN_n [_, _, _] C eX7_keep_11 rfl rfl (nlt rfl) ?_
    refine x_aloadN_n C eX7_keep_12 rfl ?_
    refine x_ifnonnullN C eX7_keep_13 ?_
    refine x_new C n_RX7_19 eX7_keep_16 (by first | exact nle rfl | omega) (by first | exact nle rfl | omega) (fun t1 => ?_)
    refine x_dup C eX7_keep_19 rfl ?_
    refine yI0x (ret' := none) [_, _, _, _, _, _, _, _] C (s_X6_init hK (M := M) hS) v_X6_init vi_X6_init rfl s_RX7_21 eX7_keep_20 (fun _ _ h => WF_pick [0, 1, 2, 3, 4, 5, 6, 7, 8] rfl rfl h) rfl (by first | exact nle rfl | omega) (by first | exact nle rfl | omega) (by first | exact nle rfl | omega) (by first | exact nle rfl | omega) (fun x20 hx20 => ?_)
    refine x_astore_n [_, _, _] C eX7_keep_23 rfl rfl (nlt rfl) ?_
    refine x_aload_n C eX7_keep_24 rfl ?_
    refine x_getR 4 C f_RX7_42 eX7_keep_25 rfl rfl ?_
    refine x_iload_n C eX7_keep_28 rfl ?_
    refine x_aload_n C eX7_keep_29 rfl ?_
    refine x_aast [_, _, _, _, _, _, _, _, _] 3 0 C eX7_keep_30 rfl (Or.inr ⟨rfl, rfl⟩) (by decide) (by omega) rfl (fun _ h => TG_obj (TG_of h)) rfl ?_
    refine x_oTG (t := t1) (L := x20) (R := [_, _, _, _, _, _, _, _]) (fun _ _ hw => PW.wf (PW_cons (fun _ h => TG_of h) PW_rf) (WF_pick [0, 1, 2, 3, 4, 5, 6, 7, 8] rfl rfl hw)) (fun al3 lg3 J3 => ?_)
    refine x_aload_n C eX7_keep_31 rfl ?_
    refine x_aload_n C eX7_keep_32 rfl ?_
    refine x_getR 7 C f_RX7_22 eX7_keep_33 rfl rfl ?_
    refine yV1v [_, _, _, _] [_, _, _, _, _, _, _, _, _, _, _, _] C (s_X6_copyFrom hK hN (by omega)) v_X6_copyFrom vv_X6_copyFrom s_RX7_87 eX7_keep_36 (fun _ _ h => WF_pick [0, 1, 2, 3, 8, 9, 10, 11, 4, 5, 6, 7] rfl rfl h) (rcv 0 rfl) rfl (by first | exact nle rfl | omega) (by first | exact nle rfl | omega) (by first | exact nle rfl | omega) (by first | exact nle rfl | omega) rfl ?_
    refine x_aload_n C eX7_keep_39 rfl ?_
    refine x_getR 11 C f_RX7_22 eX7_keep_40 rfl rfl ?_
    refine x_getI 4 C f_RX7_100 eX7_keep_43 rfl rfl ?_
    try simp (disch := decide) only [up_s, up_n, tkI_2, tkI_3, tkI_4, tkI_5, tkI_6, tkI_7, tkI_8, lnI_1, lnI_2, lnI_3, lnI_4, lnI_5, lnI_10, lnI_11, lnI_12, lnI_13, lnI_14, lnI_15]
    refine x_iret (by first | rfl | exact (narZ (by omega)).1) C F eX7_keep_46 () ?_ trivial (fun cf c h => ?_) (by first | exact nle rfl | omega) (by first | exact nle rfl | omega)
    · rfl
    · have eq : pQ G M (fun j => if j = s9.toNat then some t1 else P j) (fun j => if j = s9.toNat then x20 else Lp j) 6 (uN K s9.toNat n) s9.toNat = TO G M t1 x20 n := by
        rw [pQ_told (t := t1) (if_pos rfl) (by omega)]
        rw [show (uN K s9.toNat n) s9.toNat = n from if_pos rfl]
        show TO G M t1 (if s9.toNat = s9.toNat then x20 else Lp s9.toNat) n = _; rw [if_pos rfl]
      have h9 := WF_cTO (t := t1) (L := x20) (m := n) (R := [_, _, _, _, _, _, _]) (WF_pick [0, 1, 2, 3, 10, 9, 4, 5, 6, 7, 11] rfl rfl h)
      rw [← eq] at h9
      have h8 := WF_cSS (M := M) (sl := sl) (P := P) (P' := (fun j => if j = s9.toNat then some t1 else P j)) (Lp := Lp) (Lp' := (fun j => if j = s9.toNat then x20 else Lp j)) (Fu := up Fu s9.toNat 1) (K := K) (K' := uN K s9.toNat n) (R := [_, _, _, _, _]) s9.toNat (by omega) (fun j hj hji => pQ_eq (if_neg hji) (if_neg hji) (by omega) (fun _ => if_neg hji)) ⟨fun j hj => ?_, fun j hj => ?_⟩ (WF_pick [1, 0, 2, 3, 4, 5, 6, 7] rfl rfl h9)
      · exact WF_pick [5, 1, 2, 3, 4, 0] rfl rfl h8
      · by_cases q : j = s9.toNat
        · subst q
          rw [if_pos rfl, up_s]; simp
        · rw [if_neg q, up_n q]; exact hP.1 j hj
      · show (if j = s9.toNat then some t1 else P j) = none; rw [if_neg (by omega)]; exact hP.2 j hj
  | some t1 =>
    refine x_aald (v := .ref t1) 0 C eX7_keep_10 rfl (Or.inr rfl) (by decide) (by omega) (by rw [hrow]; rfl) ?_
    refine x_oR (R := [_, _, _, _, _, _]) s9.toNat (by omega) (fun _ _ hw => WF_pick [1, 0, 2, 3, 4, 5, 6] rfl rfl hw) (pQ_told hrow (by omega)) ?_
    refine x_astore_n [_, _, _] C eX7_keep_11 rfl rfl (nlt rfl) ?_
    refine x_aload_n C eX7_keep_12 rfl ?_
    refine x_ifnonnull (pc' := 31) C eX7_keep_13 rfl ?_
    refine x_oTG (t := t1) (L := (Lp s9.toNat)) (R := [_, _, _, _, _, _, _]) (fun _ _ hw => PW.wf (PW_cons (fun _ h => TG_of h) PW_rf) (WF_pick [0, 1, 2, 3, 4, 5, 6, 7] rfl rfl hw)) (fun al3 lg3 J3 => ?_)
    refine x_aload_n C eX7_keep_31 rfl ?_
    refine x_aload_n C eX7_keep_32 rfl ?_
    refine x_getR 6 C f_RX7_22 eX7_keep_33 rfl rfl ?_
    refine yV1v [_, _, _] [_, _, _, _, _, _, _, _, _, _, _] C (s_X6_copyFrom hK hN (by omega)) v_X6_copyFrom vv_X6_copyFrom s_RX7_87 eX7_keep_36 (fun _ _ h => WF_pick [0, 1, 2, 3, 7, 8, 9, 10, 4, 5, 6] rfl rfl h) (rcv 0 rfl) rfl (by first | exact nle rfl | omega) (by first | exact nle rfl | omega) (by first | exact nle rfl | omega) (by first | exact nle rfl | omega) rfl ?_
    refine x_aload_n C eX7_keep_39 rfl ?_
    refine x_getR 10 C f_RX7_22 eX7_keep_40 rfl rfl ?_
    refine x_getI 4 C f_RX7_100 eX7_keep_43 rfl rfl ?_
    try simp (disch := decide) only [up_s, up_n, tkI_2, tkI_3, tkI_4, tkI_5, tkI_6, tkI_7, tkI_8, lnI_1, lnI_2, lnI_3, lnI_4, lnI_5, lnI_10, lnI_11, lnI_12, lnI_13, lnI_14, lnI_15]
    refine x_iret (by first | rfl | exact (narZ (by omega)).1) C F eX7_keep_46 () ?_ trivial (fun cf c h => ?_) (by first | exact nle rfl | omega) (by first | exact nle rfl | omega)
    · rfl
    · have eq : pQ G M P Lp 6 (uN K s9.toNat n) s9.toNat = TO G M t1 (Lp s9.toNat) n := by
        rw [pQ_told (t := t1) (hrow) (by omega)]
        rw [show (uN K s9.toNat n) s9.toNat = n from if_pos rfl]
        skip
      have h9 := WF_cTO (t := t1) (L := (Lp s9.toNat)) (m := n) (R := [_, _, _, _, _, _, _]) (WF_pick [0, 1, 2, 3, 9, 8, 4, 5, 6, 7, 10] rfl rfl h)
      rw [← eq] at h9
      have h8 := WF_cSS (M := M) (sl := sl) (P := P) (P' := P) (Lp := Lp) (Lp' := Lp) (Fu := up Fu s9.toNat 1) (K := K) (K' := uN K s9.toNat n) (R := [_, _, _, _, _]) s9.toNat (by omega) (fun j hj hji => pQ_eq (rfl) (rfl) (by omega) (fun _ => if_neg hji)) ⟨fun j hj => ?_, fun j hj => ?_⟩ (WF_pick [1, 0, 2, 3, 4, 5, 6, 7] rfl rfl h9)
      · exact WF_pick [5, 1, 2, 3, 4, 0] rfl rfl h8
      · by_cases q : j = s9.toNat
        · subst q
          rw [hrow, up_s]; simp
        · rw [up_n q]; exact hP.1 j hj
      · exact hP.2 j hj
  done

set_option maxHeartbeats 4000000 in
set_option maxRecDepth 100000 in
theorem s_X7_restore {G : Gm} {l : Launch} (hK : KG G) {e ip op t tr ps pa sl al lg : Nat} {J : Nat → Int} {M : Pool} {L : Int → Nat} {n : Net} {N : Nat → Net} {Fu : Nat → Int} {K : Nat → Net} {b s9 : Int} (hN : NetOk b n) (hb : b ≤ 900000000) (h6 : 0 ≤ J 6 ∧ J 6 ≤ 6) (hS : KS G) (hs : 0 ≤ s9 ∧ s9 ≤ 1) (hf : Fu s9.toNat = 1) (hP9 : NetOk b (K s9.toNat)) : MD G l yX7_restore cX7_restore 3 (some .int) 9 64 1900 [.ref e, .int (zI s9)] [ob e 9 (ecS ip op t tr ps pa sl) J, ob t 8 (tkS al lg) (tkI (n)), arR G 5 al 6 (fun j => some (L (j : Int))), LF G M L (n), LOG G lg (n), PS G M pa (J 6) N, SS G M sl Fu K] (some (.int (zI (K s9.toNat (-1) 1)))) [ob e 9 (ecS ip op t tr ps pa sl) (up J 6 (rmR (J 6))), ob t 8 (tkS al lg) (tkI (K s9.toNat)), arR G 5 al 6 (fun j => some (L (j : Int))), LF G M L (K s9.toNat), LOG G lg (K s9.toNat), PS G M pa (rmR (J 6)) (rmP (J 6) N n), SS G M sl Fu K] := by
  refine MX_of (lv := [some (.ref e), some (.int (zI s9)), none]) hK (by decide +kernel) rfl (by first | exact nle rfl | omega) (fun X C F => ?_)
  have C : OKc G X l RX7 "restore" cX7_restore 3 (some .int) 9 64 1900 := C
  have hH := hN.1
  unfold HeadOk at hH
  refine x_aload_n C eX7_restore_0 rfl ?_
  refine x_iload_n C eX7_restore_1 rfl ?_
  refine yV1v [_, _, _, _, _] [_, _, _, _, _, _, _] C (s_X7_testSlot hK (by omega)) v_X7_testSlot vv_X7_testSlot s_RX7_275 eX7_restore_2 (fun _ _ h => WF_pick [0, 6, 1, 2, 3, 4, 5] rfl rfl h) (rcv 0 rfl) rfl (by first | exact nle rfl | omega) (by first | exact nle rfl | omega) (by first | exact nle rfl | omega) (by first | exact nle rfl | omega) rfl ?_
  refine x_oSS (M := M) (sl := sl) (Fu := Fu) (N := K) (R := [_, _, _, _, _, _]) (fun _ _ hw => WF_pick [1, 0, 2, 3, 4, 5, 6] rfl rfl hw) (fun P Lp hP => ?_)
  obtain ⟨t1, ht1⟩ : ∃ t1, P s9.toNat = some t1 := by
    cases h : P s9.toNat with
    | none => exact absurd h ((hP.1 _ (by omega)).mpr hf)
    | some t => exact ⟨t, rfl⟩
  refine x_aload_n C eX7_restore_5 rfl ?_
  refine x_getR 2 C f_RX7_42 eX7_restore_6 rfl rfl ?_
  refine x_iload_n C eX7_restore_9 rfl ?_
  refine x_aald (v := .ref t1) 0 C eX7_restore_10 rfl (Or.inr rfl) (by decide) (by omega) (by rw [ht1]; rfl) ?_
  refine x_oR (R := [_, _, _, _, _, _, _]) s9.toNat (by omega) (fun _ _ hw => WF_pick [1, 0, 2, 3, 4, 5, 6, 7] rfl rfl hw) (pQ_told ht1 (by omega)) ?_
  refine x_astore_n [_, _, _] C eX7_restore_11 rfl rfl (nlt rfl) ?_
  refine x_aload_n C eX7_restore_12 rfl ?_
  refine x_ifnonnull (pc' := 27) C eX7_restore_13 rfl ?_
  refine x_aload_n C eX7_restore_27 rfl ?_
  refine yV0w [_, _, _] [_, _, _, _, _, _, _, _, _] C (s_X7_remember hK hN (by omega) (by omega) hS) v_X7_remember vv_X7_remember s_RX7_84 eX7_restore_28 (fun _ _ h => WF_pick [3, 4, 5, 6, 7, 8, 0, 1, 2] rfl rfl h) (rcv 3 rfl) rfl (by first | exact nle rfl | omega) (by first | exact nle rfl | omega) (by first | exact nle rfl | omega) (by first | exact nle rfl | omega) rfl ?_
  refine x_oTO (t := t1) (M := M) (L := Lp s9.toNat) (m := K s9.toNat) (R := [_, _, _, _, _, _, _, _]) (fun _ _ hw => WF_pick [6, 0, 1, 2, 3, 4, 5, 7, 8] rfl rfl hw) (fun al3 lg3 => ?_)
  refine x_ws (_ :: _ :: LFG G L :: LOGG G lg :: [_, _, _, _, _, _, _, _]) (fun cf0 c hw => PW.wf (PW_cons (fun _ h => h) (PW_cons (fun _ h => h) (PW_cons (fun _ h => LFG_of h) (PW_cons (fun _ h => LOGG_of h) PW_rf)))) (WF_pick [5, 6, 7, 8, 0, 1, 2, 3, 4, 9, 10, 11] rfl rfl hw)) ?_
  refine x_aload_n C eX7_restore_31 rfl ?_
  refine x_getR 8 C f_RX7_22 eX7_restore_32 rfl rfl ?_
  refine x_aload_n C eX7_restore_35 rfl ?_
  refine yV1v [_, _, _, _] [_, _, _, _, _, _, _, _, _, _, _, _] C (s_X6_copyFrom hK hP9 (by omega)) v_X6_copyFrom vv_X6_copyFrom s_RX7_87 eX7_restore_36 (fun _ _ h => WF_pick [0, 1, 2, 3, 4, 5, 6, 7, 8, 9, 10, 11] rfl rfl h) (rcv 0 rfl) rfl (by first | exact nle rfl | omega) (by first | exact nle rfl | omega) (by first | exact nle rfl | omega) (by first | exact nle rfl | omega) rfl ?_
  refine x_aload_n C eX7_restore_39 rfl ?_
  refine x_getR 8 C f_RX7_22 eX7_restore_40 rfl rfl ?_
  refine x_getI 0 C f_RX7_100 eX7_restore_43 rfl rfl ?_
  try simp (disch := decide) only [up_s, up_n, tkI_2, tkI_3, tkI_4, tkI_5, tkI_6, tkI_7, tkI_8, lnI_1, lnI_2, lnI_3, lnI_4, lnI_5, lnI_10, lnI_11, lnI_12, lnI_13, lnI_14, lnI_15]
  refine x_iret (by first | rfl | exact (narZ (by omega)).1) C F eX7_restore_46 () ?_ trivial (fun cf c h => ?_) (by first | exact nle rfl | omega) (by first | exact nle rfl | omega)
  · rfl
  · have eq : pQ G M P Lp 6 K s9.toNat = TO G M t1 (Lp s9.toNat) (K s9.toNat) := pQ_told ht1 (by omega)
    have h9 := WF_cTO (t := t1) (L := Lp s9.toNat) (m := K s9.toNat) (R := [_, _, _, _, _, _, _, _]) (WF_pick [4, 5, 6, 7, 11, 10, 0, 1, 2, 3, 8, 9] rfl rfl h)
    rw [← eq] at h9
    have h8 := WF_cSS (M := M) (sl := sl) (P := P) (P' := P) (Lp := Lp) (Lp' := Lp) (Fu := Fu) (K := K) (K' := K) (R := [_, _, _, _, _, _]) s9.toNat (by omega) (fun j hj hji => rfl) hP (WF_pick [1, 0, 2, 3, 4, 5, 6, 7, 8] rfl rfl h9)
    exact WF_pick [5, 1, 2, 3, 4, 6, 0] rfl rfl h8
