/-! The load; new objects. -/

set_option maxHeartbeats 4000000 in
set_option maxRecDepth 100000 in
theorem s_X7_load {G : Gm} {l : Launch} (hK : KG G) {e ip op t tr ps pa sl al lg ib : Nat} {J : Nat → Int} {M : Pool} {L L2 : Int → Nat} {n : Net} {N : Nat → Net} {b z : Int} {Fb : Nat → Int} {Im TL TB : Nat → Int} (hN : NetOk b n) (hb : b ≤ 900000000) (h6 : 0 ≤ J 6 ∧ J 6 ≤ 6) (hS : KS G) (hPM : PLw M) (hz : 0 ≤ z ∧ z ≤ 400) (hF : ∀ j : Nat, -128 ≤ Fb j ∧ Fb j ≤ 127) (h6i : Im 6 = z) (h11 : 0 ≤ Im 11 ∧ Im 11 ≤ 9999) : MX G l yX7_load cX7_load 1 (some .int) 13 100 2200 [.ref e] [ob e 9 (ecS ip op t tr ps pa sl) (J), ob t 8 (tkS al lg) (tkI (n)), arR G 5 al 6 (fun j => some (L (j : Int))), LF G M L (n), LOG G lg (n), TG G tr L2, PRS G ps ip tr, ob ip 6 [some (.ref ib), none] (fun _ => z), ar G 1 ib 400 400 (Fb), PL G M, PS G M pa (J 6) N] (fun _ : Pool => some (.int (zI (if (ldR Fb Im TL TB).1 12 = 0 then ldN Fb Im TL TB (-1) 0 else -4)))) (fun M2 => (∀ y ∈ M, y ∈ M2) ∧ PLw M2) (fun M2 => [ob e 9 (ecS ip op t tr ps pa sl) ((if (ldR Fb Im TL TB).1 12 = 0 then up (up (up J 8 ((ldR Fb Im TL TB).1 12)) 9 ((ldR Fb Im TL TB).1 13)) 6 (rmR (J 6)) else (up (up J 8 ((ldR Fb Im TL TB).1 12)) 9 ((ldR Fb Im TL TB).1 13)))), ob t 8 (tkS al lg) (tkI ((if (ldR Fb Im TL TB).1 12 = 0 then ldN Fb Im TL TB else n))), arR G 5 al 6 (fun j => some (L (j : Int))), LF G M2 L ((if (ldR Fb Im TL TB).1 12 = 0 then ldN Fb Im TL TB else n)), LOG G lg ((if (ldR Fb Im TL TB).1 12 = 0 then ldN Fb Im TL TB else n)), TG G tr L2, PRS G ps ip tr, ob ip 6 [some (.ref ib), none] (fun _ => 0), ar G 1 ib 400 400 (Fb), PL G M2, PS G M2 (pa) (if (ldR Fb Im TL TB).1 12 = 0 then rmR (J 6) else J 6) (if (ldR Fb Im TL TB).1 12 = 0 then rmP (J 6) N n else N)]) := by
  refine MX_of (lv := [some (.ref e)]) hK (by decide +kernel) rfl (by first | exact nle rfl | omega) (fun X C F => ?_)
  have C : OKc G X l RX7 "load" cX7_load 1 (some .int) 13 100 2200 := C
  have hH := hN.1
  unfold HeadOk at hH
  have hRo := ldR_ok (F := Fb) (I := Im) (TL := TL) (TB := TB) hF (by omega) h11
  refine x_oPR (ps := ps) (ip := ip) (tr := tr) (R := [_, _, _, _, _, _, _, _, _, _]) (fun _ _ hw => WF_pick [6, 0, 1, 2, 3, 4, 5, 7, 8, 9, 10] rfl rfl hw) (fun tk qb ql bb bl P0 J0 tz0 fB0 fL0 hb0 => ?_)
  refine x_aload_n C eX7_load_0 rfl ?_
  refine x_aload_n C eX7_load_1 rfl ?_
  refine x_getR 6 C f_RX7_34 eX7_load_2 rfl rfl ?_
  refine yV0x [_, _, _, _, _, _] C (s_X2_parse hK (Im := Im) (TL := TL) (TB := TB) hS hPM hz hF h6i (by omega) hb0.1 hb0.2.1) v_X2_parse vv_X2_parse s_RX7_71 eX7_load_5 (fun _ _ h => WF_pick [0, 1, 12, 13, 14, 11, 2, 3, 4, 5, 6, 7, 8, 9, 10, 15] rfl rfl h) (rcv 0 rfl) rfl (by first | exact nle rfl | omega) (by first | exact nle rfl | omega) (by first | exact nle rfl | omega) (by first | exact nle rfl | omega) (fun x5 hx5 => ?_)
  obtain ⟨hm1, hm2, hm3, hm4, hm5, hm6, hm7⟩ := hx5
  have hR12 := hRo.1.1.1.2.2.2.1
  refine x_putI [_, _, _, _, _, _, _, _, _, _, _, _, _, _, _, _] 10 C f_RX7_75 eX7_load_8 rfl rfl rfl ?_
  refine x_aload_n C eX7_load_11 rfl ?_
  refine x_aload_n C eX7_load_12 rfl ?_
  refine x_getI 10 C f_RX7_75 eX7_load_13 rfl rfl ?_
  try simp (disch := decide) only [up_s, up_n, tkI_2, tkI_3, tkI_4, tkI_5, tkI_6, tkI_7, tkI_8, lnI_1, lnI_2, lnI_3, lnI_4, lnI_5, lnI_10, lnI_11, lnI_12, lnI_13, lnI_14, lnI_15]
  refine x_if_ne 23 C eX7_load_16 rfl (by omega) (fun h16 => ?_) (fun h16 => ?_)
  · skip
    refine x_aload_n C eX7_load_23 rfl ?_
    refine x_getR 10 C f_RX7_34 eX7_load_24 rfl rfl ?_
    refine yV0r [_, _, _, _, _, _, _, _, _, _, _, _, _, _] [_, _, _, _, _, _, _, _, _, _, _, _, _, _, _, _] C (s_X2_errorStart hK ) v_X2_errorStart vv_X2_errorStart s_RX7_78 eX7_load_27 (fun _ _ h => WF_pick [0, 1, 2, 3, 4, 5, 6, 7, 8, 9, 10, 11, 12, 13, 14, 15] rfl rfl h) (rcv 0 rfl) rfl (by first | exact nle rfl | omega) (by first | exact nle rfl | omega) (by first | exact nle rfl | omega) (by first | exact nle rfl | omega) rfl ?_
    refine x_putI [_, _, _, _, _, _, _, _, _, _, _, _, _, _, _, _] 10 C f_RX7_45 eX7_load_30 rfl rfl rfl ?_
    refine x_aload_n C eX7_load_33 rfl ?_
    refine x_getR 10 C f_RX7_10 eX7_load_34 rfl rfl ?_
    refine x_iconst C eX7_load_37 ?_
    refine x_putI [_, _, _, _, _, _, _, _, _, _, _, _, _, _, _, _] 2 C f_RX7_49 eX7_load_38 rfl rfl rfl ?_
    refine x_aload_n C eX7_load_41 rfl ?_
    refine x_getI 10 C f_RX7_75 eX7_load_42 rfl rfl ?_
    try simp (disch := decide) only [up_s, up_n, tkI_2, tkI_3, tkI_4, tkI_5, tkI_6, tkI_7, tkI_8, lnI_1, lnI_2, lnI_3, lnI_4, lnI_5, lnI_10, lnI_11, lnI_12, lnI_13, lnI_14, lnI_15]
    refine x_if_eq 51 C eX7_load_45 rfl (by omega) (fun h45 => ?_) (fun h45 => ?_)
    · exfalso; omega
    · refine x_bipush C eX7_load_48 rfl ?_
      refine x_iret (by first | rfl | exact (narZ (by omega)).1) C F eX7_load_50 x5.1 (by rw [if_neg (by assumption)]) ⟨hm1, hm2⟩ (fun cf c h => ?_) (by first | exact nle rfl | omega) (by first | exact nle rfl | omega)
      have h1 := WF_cPR (ps := ps) (ip := ip) (tr := tr) (R := [_, _, _, _, _, _, _, _, _, _]) ⟨hm5, hm6, hm7⟩ (WF_pick [0, 1, 6, 7, 8, 9, 2, 3, 4, 5, 10, 11, 12, 13, 14, 15] rfl rfl h)
      rw [if_neg (by assumption), if_neg (by assumption), if_neg (by assumption), if_neg (by assumption)]
      refine PW.wf (PW_cons (fun _ h => ob_congr (fun i hi9 => ?_) h) (PW_cons (fun _ h => h) (PW_cons (fun _ h => h) (PW_cons (fun _ h => LF_mono hm1 h) (PW_cons (fun _ h => h) (PW_cons (fun d h => by unfold TC at h; rw [if_neg (by assumption)] at h; exact h) (PW_cons (fun _ h => h) (PW_cons (fun _ h => h) (PW_cons (fun _ h => h) (PW_cons (fun _ h => h) (PW_cons (fun _ h => PS_mono hm1 h) PW_nil))))))))))) (WF_pick [5, 6, 7, 8, 9, 4, 0, 1, 2, 3, 10] rfl rfl h1)
      match i with
      | 6 => rfl
      | 8 => rfl
      | 9 => exact (hm3 (by assumption)).symm
      | 0 => exact absurd hi9 (by simp)
      | 1 => exact absurd hi9 (by simp)
      | 2 => exact absurd hi9 (by simp)
      | 3 => exact absurd hi9 (by simp)
      | 4 => exact absurd hi9 (by simp)
      | 5 => exact absurd hi9 (by simp)
      | 7 => exact absurd hi9 (by simp)
      | (k + 10) => exact absurd hi9 (by simp)
      
  · skip
    refine x_iconst C eX7_load_19 ?_
    refine x_goto (pc' := 30) C eX7_load_20 rfl ?_
    refine x_putI [_, _, _, _, _, _, _, _, _, _, _, _, _, _, _, _] 10 C f_RX7_45 eX7_load_30 rfl rfl rfl ?_
    refine x_aload_n C eX7_load_33 rfl ?_
    refine x_getR 10 C f_RX7_10 eX7_load_34 rfl rfl ?_
    refine x_iconst C eX7_load_37 ?_
    refine x_putI [_, _, _, _, _, _, _, _, _, _, _, _, _, _, _, _] 2 C f_RX7_49 eX7_load_38 rfl rfl rfl ?_
    refine x_aload_n C eX7_load_41 rfl ?_
    refine x_getI 10 C f_RX7_75 eX7_load_42 rfl rfl ?_
    try simp (disch := decide) only [up_s, up_n, tkI_2, tkI_3, tkI_4, tkI_5, tkI_6, tkI_7, tkI_8, lnI_1, lnI_2, lnI_3, lnI_4, lnI_5, lnI_10, lnI_11, lnI_12, lnI_13, lnI_14, lnI_15]
    refine x_if_eq 51 C eX7_load_45 rfl (by omega) (fun h45 => ?_) (fun h45 => ?_)
    · obtain ⟨hm13, hrel, htz, harr⟩ := hm4 (by assumption)
      refine x_oTC (by assumption) (R := [_, _, _, _, _, _, _, _, _, _, _, _, _, _, _]) (fun _ _ hw => WF_pick [5, 0, 1, 2, 3, 4, 6, 7, 8, 9, 10, 11, 12, 13, 14, 15] rfl rfl hw) (fun al2 lg2 => ?_)
      refine x_ws (_ :: _ :: LF G x5.1 L2 (ldR Fb Im TL TB).2.1 :: _ :: LF G x5.1 L n :: PS G x5.1 pa (J 6) N :: [_, _, _, _, _, _, _, _, _, _, _, _, _]) (fun cf0 c hw => PW.wf (PW_cons (fun _ h => h) (PW_cons (fun _ h => h) (PW_cons (fun _ h => LF_rel hrel h) (PW_cons (fun _ h => h) (PW_cons (fun _ h => LF_mono hm1 h) (PW_cons (fun _ h => PS_mono hm1 h) PW_rf)))))) (WF_pick [0, 1, 2, 3, 16, 18, 4, 5, 6, 7, 8, 9, 10, 11, 12, 13, 14, 15, 17] rfl rfl hw)) ?_
      refine x_aload_n C eX7_load_51 rfl ?_
      refine x_getR 15 C f_RX7_34 eX7_load_52 rfl rfl ?_
      refine yV0v [_, _, _, _, _, _, _, _, _, _] [_, _, _, _, _, _, _, _, _, _, _, _, _, _, _, _, _, _, _] C (s_X2_finish hK (J := fun _ => 0) (q := 0) hrel hRo.1.2.1 (hRo.2 (by assumption)) (by rw [htz]; exact hRo.1.2.2 (by assumption)) hm7 harr) v_X2_finish vv_X2_finish s_RX7_81 eX7_load_55 (fun _ _ h => WF_pick [6, 11, 12, 13, 14, 0, 1, 2, 3, 4, 5, 7, 8, 9, 10, 15, 16, 17, 18] rfl rfl h) (rcv 6 rfl) rfl (by first | exact nle rfl | omega) (by first | exact nle rfl | omega) (by first | exact nle rfl | omega) (by first | exact nle rfl | omega) rfl ?_
      have hE9 : tyN (ldR Fb Im TL TB).2.2.1 (ldR Fb Im TL TB).2.2.2 (ldD (ldR Fb Im TL TB).2.1) x5.2.2.2.2.1.toNat = ldN Fb Im TL TB := by unfold ldN; rw [htz]
      rw [hE9]
      have hNl : NetOk (122 * 60) (ldN Fb Im TL TB) := by
        have hh := tyN_ok (z := (ldR Fb Im TL TB).1 16) (hRo.1.2.2 (by assumption)) (ldD_ok hRo.1.2.1 (hRo.2 (by assumption))) ((ldR Fb Im TL TB).1 16).toNat (by omega)
        exact NetOk_mono hh.1 (by omega)
      refine x_aload_n C eX7_load_58 rfl ?_
      refine yV0w [_, _, _, _, _, _, _, _, _, _, _, _, _] [_, _, _, _, _, _, _, _, _, _, _, _, _, _, _, _, _, _, _] C (s_X7_remember hK hN hb (by (try simp (disch := decide) only [up_s, up_n]); exact h6) hS) v_X7_remember vv_X7_remember s_RX7_84 eX7_load_59 (fun _ _ h => WF_pick [15, 16, 17, 9, 18, 10, 0, 1, 2, 3, 4, 5, 6, 7, 8, 11, 12, 13, 14] rfl rfl h) (rcv 15 rfl) rfl (by first | exact nle rfl | omega) (by first | exact nle rfl | omega) (by first | exact nle rfl | omega) (by first | exact nle rfl | omega) rfl ?_
      try simp (disch := decide) only [up_s, up_n]
      refine x_aload_n C eX7_load_62 rfl ?_
      refine x_getR 0 C f_RX7_22 eX7_load_63 rfl rfl ?_
      refine x_aload_n C eX7_load_66 rfl ?_
      refine x_getR 0 C f_RX7_26 eX7_load_67 rfl rfl ?_
      refine x_ws (_ :: _ :: LFG G L :: LOGG G lg :: [_, _, _, _, _, _, _, _, _, _, _, _, _, _, _]) (fun cf0 c hw => PW.wf (PW_cons (fun _ h => h) (PW_cons (fun _ h => h) (PW_cons (fun _ h => LFG_of h) (PW_cons (fun _ h => LOGG_of h) PW_rf)))) (WF_pick [1, 2, 3, 4, 0, 5, 6, 7, 8, 9, 10, 11, 12, 13, 14, 15, 16, 17, 18] rfl rfl hw)) ?_
      refine yV1v [_, _, _, _, _, _, _, _, _, _, _] [_, _, _, _, _, _, _, _, _, _, _, _, _, _, _, _, _, _, _] C (s_X6_copyFrom hK hNl (by decide)) v_X6_copyFrom vv_X6_copyFrom s_RX7_87 eX7_load_70 (fun _ _ h => WF_pick [0, 1, 2, 3, 11, 12, 13, 14, 4, 5, 6, 7, 8, 9, 10, 15, 16, 17, 18] rfl rfl h) (rcv 0 rfl) rfl (by first | exact nle rfl | omega) (by first | exact nle rfl | omega) (by first | exact nle rfl | omega) (by first | exact nle rfl | omega) rfl ?_
      skip
      refine x_aload_n C eX7_load_73 rfl ?_
      refine x_getR 8 C f_RX7_22 eX7_load_74 rfl rfl ?_
      refine x_getI 0 C f_RX7_91 eX7_load_77 rfl rfl ?_
      try simp (disch := decide) only [up_s, up_n, tkI_2, tkI_3, tkI_4, tkI_5, tkI_6, tkI_7, tkI_8, lnI_1, lnI_2, lnI_3, lnI_4, lnI_5, lnI_10, lnI_11, lnI_12, lnI_13, lnI_14, lnI_15]
      refine x_iret (by first | rfl | exact (narZ (by omega)).1) C F eX7_load_80 x5.1 (by rw [if_pos (by assumption)]) ⟨hm1, hm2⟩ (fun cf c h => ?_) (by first | exact nle rfl | omega) (by first | exact nle rfl | omega)
      have h1 := WF_cPR (ps := ps) (ip := ip) (tr := tr) (R := [_, _, _, _, _, _, _, _, _, _, _, _, _]) ⟨hm5, hm6, hm7⟩ (WF_pick [10, 15, 11, 12, 13, 14, 0, 1, 2, 3, 4, 5, 6, 7, 8, 9, 16, 17, 18] rfl rfl h)
      have h2 := WF_cTG (t := tr) (L := L2) (R := [_, _, _, _, _, _, _, _, _, _]) (WF_pick [5, 6, 7, 8, 0, 1, 2, 3, 4, 9, 10, 11, 12, 13] rfl rfl h1)
      rw [if_pos (by assumption), if_pos (by assumption), if_pos (by assumption), if_pos (by assumption)]
      refine PW.wf (PW_cons (fun _ h => ob_congr (fun i hi9 => ?_) h) (PW_cons (fun _ h => h) (PW_cons (fun _ h => h) (PW_cons (fun _ h => h) (PW_cons (fun _ h => h) (PW_cons (fun _ h => h) (PW_cons (fun _ h => h) (PW_cons (fun _ h => h) (PW_cons (fun _ h => h) (PW_cons (fun _ h => h) (PW_cons (fun _ h => h) PW_nil))))))))))) (WF_pick [6, 2, 3, 4, 5, 0, 1, 8, 9, 10, 7] rfl rfl h2)
      match i with
      | 6 => rfl
      | 8 => rfl
      | 9 => exact hm13.symm
      | 0 => exact absurd hi9 (by simp)
      | 1 => exact absurd hi9 (by simp)
      | 2 => exact absurd hi9 (by simp)
      | 3 => exact absurd hi9 (by simp)
      | 4 => exact absurd hi9 (by simp)
      | 5 => exact absurd hi9 (by simp)
      | 7 => exact absurd hi9 (by simp)
      | (k + 10) => exact absurd hi9 (by simp)
      
    · exfalso; omega
