/-! Questions over lines and log. -/
theorem or_0 (a : Int32) : a ||| zI 0 = a := by
  show a ||| 0 = a
  exact Int32.or_zero
abbrev setP (B : Blk) (w : Int) : Prop := (w = 7 ∧ 0 < B 9) ∨ (w = 8 ∧ B 10 = 1) ∨ (w = 9 ∧ B 11 = 1) ∨ (w = 10 ∧ 0 < B 12)
theorem setP_v {b lines time l : Int} {B : Blk} {w : Int} (h : LineOk b lines time l B) (hw : w = 7 ∨ w = 8 ∨ w = 9 ∨ w = 10) : setP B w ↔ 0 < B (w + 2) := by
  unfold LineOk at h
  rcases hw with rfl | rfl | rfl | rfl
  · rw [show (7 : Int) + 2 = 9 from rfl]; omega
  · rw [show (8 : Int) + 2 = 10 from rfl]; omega
  · rw [show (9 : Int) + 2 = 11 from rfl]; omega
  · rw [show (10 : Int) + 2 = 12 from rfl]; omega
set_option maxHeartbeats 4000000 in
set_option maxRecDepth 100000 in
theorem s_X7_isInSet {G : Gm} {l : Launch} (hK : KG G) {M : Pool} {L : Int → Nat} {n : Net} {b i9 w9 : Int} (hN : NetOk b n) (hi : 0 ≤ i9 ∧ i9 < n (-1) 0) (hw : w9 = 7 ∨ w9 = 8 ∨ w9 = 9 ∨ w9 = 10) : MD G l yX7_isInSet cX7_isInSet 2 (some .boolean) 1 0 0 [.ref (L i9), .int (zI w9)] [LF G M L n] (some (.int (zI (bz (setP (n i9) w9))))) [LF G M L n] := by
  refine MX_of (lv := [some (.ref (L i9)), some (.int (zI w9))]) hK (by decide +kernel) rfl (nle rfl) (fun X C F => ?_)
  have C : OKc G X l RX7 "isInSet" cX7_isInSet 2 (some .boolean) 1 0 0 := C
  have hH := hN.1
  unfold HeadOk at hH
  have hL := hN.2.2 i9 (by omega) (by omega)
  unfold LineOk at hL
  refine x_iload_n C eX7_isInSet_0 rfl ?_
  have hsw : w9 = 7 ∨ w9 = 8 ∨ w9 = 9 ∨ (w9 < 7 ∨ 9 < w9) := by omega
  rcases hsw with rfl | rfl | rfl | hsw
  · refine x_tabIn 28 C eX7_isInSet_1 (by decide) (by decide) (by decide) rfl rfl ?_
    refine x_aload_n C eX7_isInSet_28 rfl ?_
    refine x_gL 0 C f_RX7_130 eX7_isInSet_29 rfl (by omega) rfl ?_
    try simp only [lnI_1, lnI_2, lnI_3, lnI_4, lnI_5, lnI_10, lnI_11, lnI_12, lnI_13, lnI_14, lnI_15]
    refine x_if_le 39 C eX7_isInSet_32 rfl (by omega) (fun h32 => ?_) (fun h32 => ?_)
    · refine x_iconst C eX7_isInSet_39 ?_
      refine x_iret (by first | exact nz_bz _ | exact (narZ (by omega)).1) C F eX7_isInSet_40 () ?_ trivial (fun cf c h => ?_) (nle rfl) (nle rfl)
      · first
          | rw [bz_t (by omega)]
          | rw [bz_f (by omega)]
      · exact WF_pick [0] rfl rfl h
    · refine x_iconst C eX7_isInSet_35 ?_
      refine x_goto (pc' := 40) C eX7_isInSet_36 rfl ?_
      refine x_iret (by first | exact nz_bz _ | exact (narZ (by omega)).1) C F eX7_isInSet_40 () ?_ trivial (fun cf c h => ?_) (nle rfl) (nle rfl)
      · first
          | rw [bz_t (by omega)]
          | rw [bz_f (by omega)]
      · exact WF_pick [0] rfl rfl h
  · refine x_tabIn 41 C eX7_isInSet_1 (by decide) (by decide) (by decide) rfl rfl ?_
    refine x_aload_n C eX7_isInSet_41 rfl ?_
    refine x_gL 0 C f_RX7_135 eX7_isInSet_42 rfl (by omega) rfl ?_
    try simp only [lnI_1, lnI_2, lnI_3, lnI_4, lnI_5, lnI_10, lnI_11, lnI_12, lnI_13, lnI_14, lnI_15]
    refine x_iret (by first | exact nz_bz _ | exact (narZ (by omega)).1) C F eX7_isInSet_45 () ?_ trivial (fun cf c h => ?_) (nle rfl) (nle rfl)
    · by_cases c : n i9 10 = 1
      · rw [bz_t (by omega), c]
      · rw [bz_f (by omega), show n i9 10 = 0 by omega]
    · exact WF_pick [0] rfl rfl h
  · refine x_tabIn 46 C eX7_isInSet_1 (by decide) (by decide) (by decide) rfl rfl ?_
    refine x_aload_n C eX7_isInSet_46 rfl ?_
    refine x_gL 0 C f_RX7_139 eX7_isInSet_47 rfl (by omega) rfl ?_
    try simp only [lnI_1, lnI_2, lnI_3, lnI_4, lnI_5, lnI_10, lnI_11, lnI_12, lnI_13, lnI_14, lnI_15]
    refine x_iret (by first | exact nz_bz _ | exact (narZ (by omega)).1) C F eX7_isInSet_50 () ?_ trivial (fun cf c h => ?_) (nle rfl) (nle rfl)
    · by_cases c : n i9 11 = 1
      · rw [bz_t (by omega), c]
      · rw [bz_f (by omega), show n i9 11 = 0 by omega]
    · exact WF_pick [0] rfl rfl h
  · refine x_tabOut 51 C eX7_isInSet_1 (by omega) hsw rfl ?_
    refine x_aload_n C eX7_isInSet_51 rfl ?_
    refine x_gL 0 C f_RX7_142 eX7_isInSet_52 rfl (by omega) rfl ?_
    try simp only [lnI_1, lnI_2, lnI_3, lnI_4, lnI_5, lnI_10, lnI_11, lnI_12, lnI_13, lnI_14, lnI_15]
    refine x_if_le 62 C eX7_isInSet_55 rfl (by omega) (fun h55 => ?_) (fun h55 => ?_)
    · refine x_iconst C eX7_isInSet_62 ?_
      refine x_iret (by first | exact nz_bz _ | exact (narZ (by omega)).1) C F eX7_isInSet_63 () ?_ trivial (fun cf c h => ?_) (nle rfl) (nle rfl)
      · first
          | rw [bz_t (by omega)]
          | rw [bz_f (by omega)]
      · exact WF_pick [0] rfl rfl h
    · refine x_iconst C eX7_isInSet_58 ?_
      refine x_goto (pc' := 63) C eX7_isInSet_59 rfl ?_
      refine x_iret (by first | exact nz_bz _ | exact (narZ (by omega)).1) C F eX7_isInSet_63 () ?_ trivial (fun cf c h => ?_) (nle rfl) (nle rfl)
      · first
          | rw [bz_t (by omega)]
          | rw [bz_f (by omega)]
      · exact WF_pick [0] rfl rfl h

set_option maxHeartbeats 4000000 in
set_option maxRecDepth 100000 in
theorem s_X7_setOfLines {G : Gm} {l : Launch} (hK : KG G) {e ip op t tr ps pa sl al lg : Nat} {J : Nat → Int} {M : Pool} {L : Int → Nat} {n : Net} {b : Int} {w9 : Int} (hN : NetOk b n) (hb : b ≤ 900000000) (hw : w9 = 7 ∨ w9 = 8 ∨ w9 = 9 ∨ w9 = 10) : MD G l yX7_setOfLines cX7_setOfLines 4 (some .int) 2 0 0 [.ref e, .int (zI w9)] [ob e 9 (ecS ip op t tr ps pa sl) J, ob t 8 (tkS al lg) (tkI (n)), arR G 5 al 6 (fun j => some (L (j : Int))), LF G M L (n), LOG G lg (n)] (some (.int (thoseV n (w9 + 2) (n (-1) 0).toNat))) [ob e 9 (ecS ip op t tr ps pa sl) J, ob t 8 (tkS al lg) (tkI (n)), arR G 5 al 6 (fun j => some (L (j : Int))), LF G M L (n), LOG G lg (n)] := by
  refine MX_of (lv := [some (.ref e), some (.int (zI w9)), none, none]) hK (by decide +kernel) rfl (nle rfl) (fun X C F => ?_)
  have C : OKc G X l RX7 "setOfLines" cX7_setOfLines 4 (some .int) 2 0 0 := C
  have hH := hN.1
  unfold HeadOk at hH
  have loop : ∀ (f k : Nat), (k : Int) ≤ n (-1) 0 → n (-1) 0 < k + f → WX G X 0 0 [ob e 9 (ecS ip op t tr ps pa sl) J, ob t 8 (tkS al lg) (tkI (n)), arR G 5 al 6 (fun j => some (L (j : Int))), LF G M L (n), LOG G lg (n)] 4 [some (.ref e), some (.int (zI w9)), some (.int (thoseV n (w9 + 2) k)), some (.int (zI k))] [] := by
    intro f
    induction f with
    | zero => intro k h0 h1; exfalso; omega
    | succ f ih =>
      intro k h0 h1
      refine x_iload_n C eX7_setOfLines_4 rfl ?_
      refine x_aload_n C eX7_setOfLines_5 rfl ?_
      refine x_getR 0 C f_RX7_22 eX7_setOfLines_6 rfl rfl ?_
      refine x_getI 1 C f_RX7_91 eX7_setOfLines_9 rfl rfl ?_
      try simp (disch := decide) only [up_s, up_n, tkI_2, tkI_3, tkI_4, tkI_5, tkI_6, tkI_7, tkI_8, lnI_1, lnI_2, lnI_3, lnI_4, lnI_5, lnI_10, lnI_11, lnI_12, lnI_13, lnI_14, lnI_15]
      refine x_icmp_ge 42 C eX7_setOfLines_12 rfl (by omega) (by omega) (fun h12 => ?_) (fun h12 => ?_)
      · refine x_iload_n C eX7_setOfLines_42 rfl ?_
        refine x_iret (by first | rfl | exact (narZ (by omega)).1) C F eX7_setOfLines_43 () ?_ trivial (fun cf c h => ?_) (nle rfl) (nle rfl)
        · rw [show (n (-1) 0).toNat = k by omega]
        · exact WF_pick [0, 1, 2, 3, 4] rfl rfl h
      · refine x_aload_n C eX7_setOfLines_15 rfl ?_
        refine x_getR 0 C f_RX7_22 eX7_setOfLines_16 rfl rfl ?_
        refine x_iload_n C eX7_setOfLines_19 rfl ?_
        refine yV1r [_, _, _] [_, _, _, _, _] C (s_X6_lineAt hK (by omega)) v_X6_lineAt vv_X6_lineAt s_RX7_122 eX7_setOfLines_20 (fun _ _ h => WF_pick [1, 2, 0, 3, 4] rfl rfl h) (rcv 1 rfl) rfl (nle rfl) (nle rfl) (nle rfl) (nle rfl) rfl ?_
        refine x_iload_n C eX7_setOfLines_23 rfl ?_
        refine yS2r [_, _, _, _] [_, _, _, _, _] C (s_X7_isInSet hK hN (by omega) (by omega)) v_X7_isInSet vs_X7_isInSet s_RX7_126 eX7_setOfLines_24 (fun _ _ h => WF_pick [3, 0, 1, 2, 4] rfl rfl h) rfl (nle rfl) (nle rfl) (nle rfl) (nle rfl) rfl ?_
        refine x_ifb_eq 36 C eX7_setOfLines_27 rfl (fun h27 => ?_) (fun h27 => ?_)
        · refine x_iinc [_, _, _, _] C eX7_setOfLines_36 rfl rfl rfl ?_
          refine x_goto (pc' := 4) C eX7_setOfLines_39 rfl ?_
          have hs := setP_v (hN.2.2 k (by omega) (by omega)) hw
          have h3 := ih (k + 1) (by omega) (by omega)
          unfold thoseV at h3
          refine x_pick [_, _, _, _, _] [3, 1, 2, 0, 4] rfl rfl ?_
          first
            | (rw [if_pos (hs.mp (by assumption))] at h3; exact h3)
            | (rw [if_neg (fun z => absurd (hs.mpr z) (by assumption)), or_0] at h3; exact h3)
        · refine x_iload_n C eX7_setOfLines_30 rfl ?_
          refine x_iconst C eX7_setOfLines_31 ?_
          refine x_iload_n C eX7_setOfLines_32 rfl ?_
          refine x_ishlR C eX7_setOfLines_33 ?_
          refine x_iorR C eX7_setOfLines_34 ?_
          refine x_istore_n [_, _, _, _] C eX7_setOfLines_35 rfl rfl (nlt rfl) ?_
          refine x_iinc [_, _, _, _] C eX7_setOfLines_36 rfl rfl rfl ?_
          refine x_goto (pc' := 4) C eX7_setOfLines_39 rfl ?_
          have hs := setP_v (hN.2.2 k (by omega) (by omega)) hw
          have h3 := ih (k + 1) (by omega) (by omega)
          unfold thoseV at h3
          refine x_pick [_, _, _, _, _] [3, 1, 2, 0, 4] rfl rfl ?_
          first
            | (rw [if_pos (hs.mp (by assumption))] at h3; exact h3)
            | (rw [if_neg (fun z => absurd (hs.mpr z) (by assumption)), or_0] at h3; exact h3)
  refine x_iconst C eX7_setOfLines_0 ?_
  refine x_istore_n [_, _, _, _] C eX7_setOfLines_1 rfl rfl (nlt rfl) ?_
  refine x_iconst C eX7_setOfLines_2 ?_
  refine x_istore_n [_, _, _, _] C eX7_setOfLines_3 rfl rfl (nlt rfl) ?_
  exact loop 20 0 (by omega) (by omega)

set_option maxHeartbeats 4000000 in
set_option maxRecDepth 100000 in
theorem s_X7_property {G : Gm} {l : Launch} (hK : KG G) {e ip op t tr ps pa sl al lg : Nat} {J : Nat → Int} {M : Pool} {L : Int → Nat} {n : Net} {b : Int} {w9 : Int} (hN : NetOk b n) (hb : b ≤ 900000000) (hw : 0 ≤ w9 ∧ w9 ≤ 10) : MD G l yX7_property cX7_property 2 (some .int) 4 0 0 [.ref e, .int (zI w9)] [ob e 9 (ecS ip op t tr ps pa sl) J, ob t 8 (tkS al lg) (tkI (n)), arR G 5 al 6 (fun j => some (L (j : Int))), LF G M L (n), LOG G lg (n)] (some (.int (propVal n w9))) [ob e 9 (ecS ip op t tr ps pa sl) J, ob t 8 (tkS al lg) (tkI (n)), arR G 5 al 6 (fun j => some (L (j : Int))), LF G M L (n), LOG G lg (n)] := by
  refine MX_of (lv := [some (.ref e), some (.int (zI w9))]) hK (by decide +kernel) rfl (nle rfl) (fun X C F => ?_)
  have C : OKc G X l RX7 "property" cX7_property 2 (some .int) 4 0 0 := C
  have hH := hN.1
  unfold HeadOk at hH
  refine x_iload_n C eX7_property_0 rfl ?_
  refine x_if_lt 10 C eX7_property_1 rfl (by omega) (fun h1 => ?_) (fun h1 => ?_)
  · exfalso; omega
  · refine x_iload_n C eX7_property_4 rfl ?_
    refine x_bipush C eX7_property_5 rfl ?_
    refine x_icmp_le 20 C eX7_property_7 rfl (by omega) (by omega) (fun h7 => ?_) (fun h7 => ?_)
    · refine x_iload_n C eX7_property_20 rfl ?_
      have hsw : w9 = 0 ∨ w9 = 1 ∨ w9 = 2 ∨ w9 = 3 ∨ w9 = 4 ∨ w9 = 5 ∨ w9 = 6 ∨ (w9 < 0 ∨ 6 < w9) := by omega
      rcases hsw with rfl | rfl | rfl | rfl | rfl | rfl | rfl | hsw
      · refine x_tabIn 64 C eX7_property_21 (by decide) (by decide) (by decide) rfl rfl ?_
        refine x_aload_n C eX7_property_64 rfl ?_
        refine x_getR 0 C f_RX7_22 eX7_property_65 rfl rfl ?_
        refine x_getI 1 C f_RX7_91 eX7_property_68 rfl rfl ?_
        try simp (disch := decide) only [up_s, up_n, tkI_2, tkI_3, tkI_4, tkI_5, tkI_6, tkI_7, tkI_8, lnI_1, lnI_2, lnI_3, lnI_4, lnI_5, lnI_10, lnI_11, lnI_12, lnI_13, lnI_14, lnI_15]
        refine x_iret (by first | rfl | exact (narZ (by omega)).1) C F eX7_property_71 () ?_ trivial (fun cf c h => ?_) (nle rfl) (nle rfl)
        · rfl
        · exact WF_pick [0, 1, 2, 3, 4] rfl rfl h
      · refine x_tabIn 72 C eX7_property_21 (by decide) (by decide) (by decide) rfl rfl ?_
        refine x_aload_n C eX7_property_72 rfl ?_
        refine x_getR 0 C f_RX7_22 eX7_property_73 rfl rfl ?_
        refine x_getI 1 C f_RX7_100 eX7_property_76 rfl rfl ?_
        try simp (disch := decide) only [up_s, up_n, tkI_2, tkI_3, tkI_4, tkI_5, tkI_6, tkI_7, tkI_8, lnI_1, lnI_2, lnI_3, lnI_4, lnI_5, lnI_10, lnI_11, lnI_12, lnI_13, lnI_14, lnI_15]
        refine x_iret (by first | rfl | exact (narZ (by omega)).1) C F eX7_property_79 () ?_ trivial (fun cf c h => ?_) (nle rfl) (nle rfl)
        · rfl
        · exact WF_pick [0, 1, 2, 3, 4] rfl rfl h
      · refine x_tabIn 80 C eX7_property_21 (by decide) (by decide) (by decide) rfl rfl ?_
        refine x_aload_n C eX7_property_80 rfl ?_
        refine x_getR 0 C f_RX7_22 eX7_property_81 rfl rfl ?_
        refine x_getI 1 C f_RX7_103 eX7_property_84 rfl rfl ?_
        try simp (disch := decide) only [up_s, up_n, tkI_2, tkI_3, tkI_4, tkI_5, tkI_6, tkI_7, tkI_8, lnI_1, lnI_2, lnI_3, lnI_4, lnI_5, lnI_10, lnI_11, lnI_12, lnI_13, lnI_14, lnI_15]
        refine x_iret (by first | rfl | exact (narZ (by omega)).1) C F eX7_property_87 () ?_ trivial (fun cf c h => ?_) (nle rfl) (nle rfl)
        · rfl
        · exact WF_pick [0, 1, 2, 3, 4] rfl rfl h
      · refine x_tabIn 88 C eX7_property_21 (by decide) (by decide) (by decide) rfl rfl ?_
        refine x_aload_n C eX7_property_88 rfl ?_
        refine x_getR 0 C f_RX7_22 eX7_property_89 rfl rfl ?_
        refine yV0r [_, _] [_, _, _, _, _] C (s_X6_sender hK hN (by omega)) v_X6_sender vv_X6_sender s_RX7_106 eX7_property_92 (fun _ _ h => WF_pick [1, 2, 3, 0, 4] rfl rfl h) (rcv 1 rfl) rfl (nle rfl) (nle rfl) (nle rfl) (nle rfl) rfl ?_
        refine x_iret (by first | rfl | exact (narZ (by omega)).1) C F eX7_property_95 () ?_ trivial (fun cf c h => ?_) (nle rfl) (nle rfl)
        · rfl
        · exact WF_pick [3, 0, 1, 2, 4] rfl rfl h
      · refine x_tabIn 96 C eX7_property_21 (by decide) (by decide) (by decide) rfl rfl ?_
        refine x_aload_n C eX7_property_96 rfl ?_
        refine x_getR 0 C f_RX7_22 eX7_property_97 rfl rfl ?_
        refine x_getI 1 C f_RX7_109 eX7_property_100 rfl rfl ?_
        try simp (disch := decide) only [up_s, up_n, tkI_2, tkI_3, tkI_4, tkI_5, tkI_6, tkI_7, tkI_8, lnI_1, lnI_2, lnI_3, lnI_4, lnI_5, lnI_10, lnI_11, lnI_12, lnI_13, lnI_14, lnI_15]
        refine x_iret (by first | rfl | exact (narZ (by omega)).1) C F eX7_property_103 () ?_ trivial (fun cf c h => ?_) (nle rfl) (nle rfl)
        · rfl
        · exact WF_pick [0, 1, 2, 3, 4] rfl rfl h
      · refine x_tabIn 104 C eX7_property_21 (by decide) (by decide) (by decide) rfl rfl ?_
        refine x_aload_n C eX7_property_104 rfl ?_
        refine x_getR 0 C f_RX7_22 eX7_property_105 rfl rfl ?_
        refine x_getI 1 C f_RX7_112 eX7_property_108 rfl rfl ?_
        try simp (disch := decide) only [up_s, up_n, tkI_2, tkI_3, tkI_4, tkI_5, tkI_6, tkI_7, tkI_8, lnI_1, lnI_2, lnI_3, lnI_4, lnI_5, lnI_10, lnI_11, lnI_12, lnI_13, lnI_14, lnI_15]
        refine x_iret (by first | rfl | exact (narZ (by omega)).1) C F eX7_property_111 () ?_ trivial (fun cf c h => ?_) (nle rfl) (nle rfl)
        · rfl
        · exact WF_pick [0, 1, 2, 3, 4] rfl rfl h
      · refine x_tabIn 112 C eX7_property_21 (by decide) (by decide) (by decide) rfl rfl ?_
        refine x_aload_n C eX7_property_112 rfl ?_
        refine x_getR 0 C f_RX7_22 eX7_property_113 rfl rfl ?_
        refine x_getI 1 C f_RX7_115 eX7_property_116 rfl rfl ?_
        try simp (disch := decide) only [up_s, up_n, tkI_2, tkI_3, tkI_4, tkI_5, tkI_6, tkI_7, tkI_8, lnI_1, lnI_2, lnI_3, lnI_4, lnI_5, lnI_10, lnI_11, lnI_12, lnI_13, lnI_14, lnI_15]
        refine x_iret (by first | rfl | exact (narZ (by omega)).1) C F eX7_property_119 () ?_ trivial (fun cf c h => ?_) (nle rfl) (nle rfl)
        · rfl
        · exact WF_pick [0, 1, 2, 3, 4] rfl rfl h
      · refine x_tabOut 120 C eX7_property_21 (by omega) hsw rfl ?_
        refine x_aload_n C eX7_property_120 rfl ?_
        refine x_iload_n C eX7_property_121 rfl ?_
        refine yV1r [] [_, _, _, _, _] C (s_X7_setOfLines hK hN (by omega) (by omega)) v_X7_setOfLines vv_X7_setOfLines s_RX7_118 eX7_property_122 (fun _ _ h => WF_pick [0, 1, 2, 3, 4] rfl rfl h) (rcv 0 rfl) rfl (nle rfl) (nle rfl) (nle rfl) (nle rfl) rfl ?_
        refine x_iret (by first | rfl | exact (narZ (by omega)).1) C F eX7_property_125 () ?_ trivial (fun cf c h => ?_) (nle rfl) (nle rfl)
        · have hc : w9 = 7 ∨ w9 = 8 ∨ w9 = 9 ∨ w9 = 10 := by omega
          rcases hc with rfl | rfl | rfl | rfl <;> rfl
        · exact WF_pick [0, 1, 2, 3, 4] rfl rfl h
    · exfalso; omega

set_option maxHeartbeats 4000000 in
set_option maxRecDepth 100000 in
theorem s_X7_line {G : Gm} {l : Launch} (hK : KG G) {e ip op t tr ps pa sl al lg : Nat} {J : Nat → Int} {M : Pool} {L : Int → Nat} {n : Net} {b : Int} {l9 w9 : Int} (hN : NetOk b n) (hb : b ≤ 900000000) (hl : 0 ≤ l9 ∧ l9 < n (-1) 0) (hw : 0 ≤ w9 ∧ w9 ≤ 10) : MD G l yX7_line cX7_line 4 (some .int) 2 0 0 [.ref e, .int (zI l9), .int (zI w9)] [ob e 9 (ecS ip op t tr ps pa sl) J, ob t 8 (tkS al lg) (tkI (n)), arR G 5 al 6 (fun j => some (L (j : Int))), LF G M L (n), LOG G lg (n)] (some (.int (zI (lineVal n l9 w9)))) [ob e 9 (ecS ip op t tr ps pa sl) J, ob t 8 (tkS al lg) (tkI (n)), arR G 5 al 6 (fun j => some (L (j : Int))), LF G M L (n), LOG G lg (n)] := by
  refine MX_of (lv := [some (.ref e), some (.int (zI l9)), some (.int (zI w9)), none]) hK (by decide +kernel) rfl (nle rfl) (fun X C F => ?_)
  have C : OKc G X l RX7 "line" cX7_line 4 (some .int) 2 0 0 := C
  have hH := hN.1
  unfold HeadOk at hH
  have hL := hN.2.2 l9 (by omega) (by omega)
  unfold LineOk at hL
  refine x_aload_n C eX7_line_0 rfl ?_
  refine x_iload_n C eX7_line_1 rfl ?_
  refine yV1v [_, _, _] [_, _, _, _, _] C (s_X7_testLine hK (by omega)) v_X7_testLine vv_X7_testLine s_RX7_145 eX7_line_2 (fun _ _ h => WF_pick [0, 1, 2, 3, 4] rfl rfl h) (rcv 0 rfl) rfl (nle rfl) (nle rfl) (nle rfl) (nle rfl) rfl ?_
  refine x_iload_n C eX7_line_5 rfl ?_
  refine x_if_lt 15 C eX7_line_6 rfl (by omega) (fun h6 => ?_) (fun h6 => ?_)
  · exfalso; omega
  · refine x_iload_n C eX7_line_9 rfl ?_
    refine x_bipush C eX7_line_10 rfl ?_
    refine x_icmp_le 25 C eX7_line_12 rfl (by omega) (by omega) (fun h12 => ?_) (fun h12 => ?_)
    · refine x_aload_n C eX7_line_25 rfl ?_
      refine x_getR 0 C f_RX7_22 eX7_line_26 rfl rfl ?_
      refine x_iload_n C eX7_line_29 rfl ?_
      refine yV1r [_, _, _] [_, _, _, _, _] C (s_X6_lineAt hK (by omega)) v_X6_lineAt vv_X6_lineAt s_RX7_122 eX7_line_30 (fun _ _ h => WF_pick [1, 2, 0, 3, 4] rfl rfl h) (rcv 1 rfl) rfl (nle rfl) (nle rfl) (nle rfl) (nle rfl) rfl ?_
      refine x_astore_n [_, _, _, _] C eX7_line_33 rfl rfl (nlt rfl) ?_
      refine x_iload_n C eX7_line_34 rfl ?_
      have hsw : w9 = 0 ∨ w9 = 1 ∨ w9 = 2 ∨ w9 = 3 ∨ w9 = 4 ∨ w9 = 5 ∨ w9 = 6 ∨ w9 = 7 ∨ w9 = 8 ∨ w9 = 9 ∨ (w9 < 0 ∨ 9 < w9) := by omega
      rcases hsw with rfl | rfl | rfl | rfl | rfl | rfl | rfl | rfl | rfl | rfl | hsw
      · refine x_tabIn 88 C eX7_line_35 (by decide) (by decide) (by decide) rfl rfl ?_
        refine x_aload_n C eX7_line_88 rfl ?_
        refine x_gL 3 C f_RX7_150 eX7_line_89 rfl (by omega) rfl ?_
        try simp only [lnI_1, lnI_2, lnI_3, lnI_4, lnI_5, lnI_10, lnI_11, lnI_12, lnI_13, lnI_14, lnI_15]
        refine x_iret (by first | rfl | exact (narZ (by omega)).1) C F eX7_line_92 () ?_ trivial (fun cf c h => ?_) (nle rfl) (nle rfl)
        · rfl
        · exact WF_pick [2, 0, 1, 3, 4] rfl rfl h
      · refine x_tabIn 93 C eX7_line_35 (by decide) (by decide) (by decide) rfl rfl ?_
        refine x_aload_n C eX7_line_93 rfl ?_
        refine x_gL 3 C f_RX7_153 eX7_line_94 rfl (by omega) rfl ?_
        try simp only [lnI_1, lnI_2, lnI_3, lnI_4, lnI_5, lnI_10, lnI_11, lnI_12, lnI_13, lnI_14, lnI_15]
        refine x_iret (by first | rfl | exact (narZ (by omega)).1) C F eX7_line_97 () ?_ trivial (fun cf c h => ?_) (nle rfl) (nle rfl)
        · rfl
        · exact WF_pick [2, 0, 1, 3, 4] rfl rfl h
      · refine x_tabIn 98 C eX7_line_35 (by decide) (by decide) (by decide) rfl rfl ?_
        refine x_aload_n C eX7_line_98 rfl ?_
        refine x_gL 3 C f_RX7_156 eX7_line_99 rfl (by omega) rfl ?_
        try simp only [lnI_1, lnI_2, lnI_3, lnI_4, lnI_5, lnI_10, lnI_11, lnI_12, lnI_13, lnI_14, lnI_15]
        refine x_iret (by first | rfl | exact (narZ (by omega)).1) C F eX7_line_102 () ?_ trivial (fun cf c h => ?_) (nle rfl) (nle rfl)
        · rfl
        · exact WF_pick [2, 0, 1, 3, 4] rfl rfl h
      · refine x_tabIn 103 C eX7_line_35 (by decide) (by decide) (by decide) rfl rfl ?_
        refine x_aload_n C eX7_line_103 rfl ?_
        refine x_gL 3 C f_RX7_159 eX7_line_104 rfl (by omega) rfl ?_
        try simp only [lnI_1, lnI_2, lnI_3, lnI_4, lnI_5, lnI_10, lnI_11, lnI_12, lnI_13, lnI_14, lnI_15]
        refine x_iret (by first | rfl | exact (narZ (by omega)).1) C F eX7_line_107 () ?_ trivial (fun cf c h => ?_) (nle rfl) (nle rfl)
        · rfl
        · exact WF_pick [2, 0, 1, 3, 4] rfl rfl h
      · refine x_tabIn 108 C eX7_line_35 (by decide) (by decide) (by decide) rfl rfl ?_
        refine x_aload_n C eX7_line_108 rfl ?_
        refine x_gL 3 C f_RX7_162 eX7_line_109 rfl (by omega) rfl ?_
        try simp only [lnI_1, lnI_2, lnI_3, lnI_4, lnI_5, lnI_10, lnI_11, lnI_12, lnI_13, lnI_14, lnI_15]
        refine x_iret (by first | rfl | exact (narZ (by omega)).1) C F eX7_line_112 () ?_ trivial (fun cf c h => ?_) (nle rfl) (nle rfl)
        · rfl
        · exact WF_pick [2, 0, 1, 3, 4] rfl rfl h
      · refine x_tabIn 113 C eX7_line_35 (by decide) (by decide) (by decide) rfl rfl ?_
        refine x_oL (M := M) (L := L) (m := n) (i := l9) (R := [_, _, _, _]) (by omega) (fun _ _ hw => WF_pick [3, 0, 1, 2, 4] rfl rfl hw) (fun A hA => ?_)
        refine x_aload_n C eX7_line_113 rfl ?_
        refine x_getR 0 C f_RX7_165 eX7_line_114 rfl rfl ?_
        refine x_getI 1 C f_RX7_169 eX7_line_117 rfl rfl ?_
        try simp (disch := decide) only [up_s, up_n, tkI_2, tkI_3, tkI_4, tkI_5, tkI_6, tkI_7, tkI_8, lnI_1, lnI_2, lnI_3, lnI_4, lnI_5, lnI_10, lnI_11, lnI_12, lnI_13, lnI_14, lnI_15]
        refine x_pick [_, _, _, _, _, _, _, _, _, _, _, _, _, _, _] [0, 1, 2, 3, 4, 5, 6, 7, 8, 9, 10, 11, 12, 13, 14] rfl rfl ?_
        refine x_cL (m := n) (i := l9) (A := A) (B := n l9) (by omega) hA (fun cf c h => ?_) ?_
        · exact h
        rw [un_id]
        refine x_iret (by first | rfl | exact (narZ (by omega)).1) C F eX7_line_120 () ?_ trivial (fun cf c h => ?_) (nle rfl) (nle rfl)
        · rfl
        · exact WF_pick [3, 1, 2, 0, 4] rfl rfl h
      · refine x_tabIn 121 C eX7_line_35 (by decide) (by decide) (by decide) rfl rfl ?_
        refine x_oL (M := M) (L := L) (m := n) (i := l9) (R := [_, _, _, _]) (by omega) (fun _ _ hw => WF_pick [3, 0, 1, 2, 4] rfl rfl hw) (fun A hA => ?_)
        refine x_aload_n C eX7_line_121 rfl ?_
        refine x_getR 0 C f_RX7_172 eX7_line_122 rfl rfl ?_
        refine x_getI 5 C f_RX7_169 eX7_line_125 rfl rfl ?_
        try simp (disch := decide) only [up_s, up_n, tkI_2, tkI_3, tkI_4, tkI_5, tkI_6, tkI_7, tkI_8, lnI_1, lnI_2, lnI_3, lnI_4, lnI_5, lnI_10, lnI_11, lnI_12, lnI_13, lnI_14, lnI_15]
        refine x_pick [_, _, _, _, _, _, _, _, _, _, _, _, _, _, _] [0, 1, 2, 3, 4, 5, 6, 7, 8, 9, 10, 11, 12, 13, 14] rfl rfl ?_
        refine x_cL (m := n) (i := l9) (A := A) (B := n l9) (by omega) hA (fun cf c h => ?_) ?_
        · exact h
        rw [un_id]
        refine x_iret (by first | rfl | exact (narZ (by omega)).1) C F eX7_line_128 () ?_ trivial (fun cf c h => ?_) (nle rfl) (nle rfl)
        · rfl
        · exact WF_pick [3, 1, 2, 0, 4] rfl rfl h
      · refine x_tabIn 129 C eX7_line_35 (by decide) (by decide) (by decide) rfl rfl ?_
        refine x_oL (M := M) (L := L) (m := n) (i := l9) (R := [_, _, _, _]) (by omega) (fun _ _ hw => WF_pick [3, 0, 1, 2, 4] rfl rfl hw) (fun A hA => ?_)
        refine x_aload_n C eX7_line_129 rfl ?_
        refine x_getR 0 C f_RX7_175 eX7_line_130 rfl rfl ?_
        refine x_getI 7 C f_RX7_169 eX7_line_133 rfl rfl ?_
        try simp (disch := decide) only [up_s, up_n, tkI_2, tkI_3, tkI_4, tkI_5, tkI_6, tkI_7, tkI_8, lnI_1, lnI_2, lnI_3, lnI_4, lnI_5, lnI_10, lnI_11, lnI_12, lnI_13, lnI_14, lnI_15]
        refine x_pick [_, _, _, _, _, _, _, _, _, _, _, _, _, _, _] [0, 1, 2, 3, 4, 5, 6, 7, 8, 9, 10, 11, 12, 13, 14] rfl rfl ?_
        refine x_cL (m := n) (i := l9) (A := A) (B := n l9) (by omega) hA (fun cf c h => ?_) ?_
        · exact h
        rw [un_id]
        refine x_iret (by first | rfl | exact (narZ (by omega)).1) C F eX7_line_136 () ?_ trivial (fun cf c h => ?_) (nle rfl) (nle rfl)
        · rfl
        · exact WF_pick [3, 1, 2, 0, 4] rfl rfl h
      · refine x_tabIn 137 C eX7_line_35 (by decide) (by decide) (by decide) rfl rfl ?_
        refine x_aload_n C eX7_line_137 rfl ?_
        refine x_gL 3 C f_RX7_130 eX7_line_138 rfl (by omega) rfl ?_
        try simp only [lnI_1, lnI_2, lnI_3, lnI_4, lnI_5, lnI_10, lnI_11, lnI_12, lnI_13, lnI_14, lnI_15]
        refine x_iret (by first | rfl | exact (narZ (by omega)).1) C F eX7_line_141 () ?_ trivial (fun cf c h => ?_) (nle rfl) (nle rfl)
        · rfl
        · exact WF_pick [2, 0, 1, 3, 4] rfl rfl h
      · refine x_tabIn 142 C eX7_line_35 (by decide) (by decide) (by decide) rfl rfl ?_
        refine x_aload_n C eX7_line_142 rfl ?_
        refine x_gL 3 C f_RX7_178 eX7_line_143 rfl (by omega) rfl ?_
        try simp only [lnI_1, lnI_2, lnI_3, lnI_4, lnI_5, lnI_10, lnI_11, lnI_12, lnI_13, lnI_14, lnI_15]
        refine x_iret (by first | rfl | exact (narZ (by omega)).1) C F eX7_line_146 () ?_ trivial (fun cf c h => ?_) (nle rfl) (nle rfl)
        · rfl
        · exact WF_pick [2, 0, 1, 3, 4] rfl rfl h
      · refine x_tabOut 147 C eX7_line_35 (by omega) hsw rfl ?_
        refine x_aload_n C eX7_line_147 rfl ?_
        refine x_gL 3 C f_RX7_142 eX7_line_148 rfl (by omega) rfl ?_
        try simp only [lnI_1, lnI_2, lnI_3, lnI_4, lnI_5, lnI_10, lnI_11, lnI_12, lnI_13, lnI_14, lnI_15]
        refine x_iret (by first | rfl | exact (narZ (by omega)).1) C F eX7_line_151 () ?_ trivial (fun cf c h => ?_) (nle rfl) (nle rfl)
        · rw [show w9 = 10 by omega]
          rfl
        · exact WF_pick [2, 0, 1, 3, 4] rfl rfl h
    · exfalso; omega

set_option maxHeartbeats 4000000 in
set_option maxRecDepth 100000 in
theorem s_X7_sum {G : Gm} {l : Launch} (hK : KG G) {e ip op t tr ps pa sl al lg : Nat} {J : Nat → Int} {M : Pool} {L : Int → Nat} {n : Net} {b : Int} {w9 : Int} (hN : NetOk b n) (hb : b ≤ 900000000) (hw : 0 ≤ w9 ∧ w9 < 12) : MD G l yX7_sum cX7_sum 4 (some .int) 2 0 0 [.ref e, .int (zI w9)] [ob e 9 (ecS ip op t tr ps pa sl) J, ob t 8 (tkS al lg) (tkI (n)), arR G 5 al 6 (fun j => some (L (j : Int))), LF G M L (n), LOG G lg (n)] (some (.int (zI (qs (fun l => n l (16 + w9)) (n (-1) 0).toNat)))) [ob e 9 (ecS ip op t tr ps pa sl) J, ob t 8 (tkS al lg) (tkI (n)), arR G 5 al 6 (fun j => some (L (j : Int))), LF G M L (n), LOG G lg (n)] := by
  refine MX_of (lv := [some (.ref e), some (.int (zI w9)), none, none]) hK (by decide +kernel) rfl (nle rfl) (fun X C F => ?_)
  have C : OKc G X l RX7 "sum" cX7_sum 4 (some .int) 2 0 0 := C
  have hH := hN.1
  unfold HeadOk at hH
  have loop : ∀ (f k : Nat), (k : Int) ≤ n (-1) 0 → n (-1) 0 < k + f → WX G X 0 0 [ob e 9 (ecS ip op t tr ps pa sl) J, ob t 8 (tkS al lg) (tkI (n)), arR G 5 al 6 (fun j => some (L (j : Int))), LF G M L (n), LOG G lg (n)] 8 [some (.ref e), some (.int (zI w9)), some (.int (zI (qs (fun l => n l (16 + w9)) k))), some (.int (zI k))] [] := by
    intro f
    induction f with
    | zero => intro k h0 h1; exfalso; omega
    | succ f ih =>
      intro k h0 h1
      
      refine x_iload_n C eX7_sum_8 rfl ?_
      refine x_aload_n C eX7_sum_9 rfl ?_
      refine x_getR 0 C f_RX7_22 eX7_sum_10 rfl rfl ?_
      refine x_getI 1 C f_RX7_91 eX7_sum_13 rfl rfl ?_
      try simp (disch := decide) only [up_s, up_n, tkI_2, tkI_3, tkI_4, tkI_5, tkI_6, tkI_7, tkI_8, lnI_1, lnI_2, lnI_3, lnI_4, lnI_5, lnI_10, lnI_11, lnI_12, lnI_13, lnI_14, lnI_15]
      refine x_icmp_ge 40 C eX7_sum_16 rfl (by omega) (by omega) (fun h16 => ?_) (fun h16 => ?_)
      · refine x_iload_n C eX7_sum_40 rfl ?_
        refine x_iret (by first | rfl | exact (narZ (by omega)).1) C F eX7_sum_41 () ?_ trivial (fun cf c h => ?_) (nle rfl) (nle rfl)
        · rw [show (n (-1) 0).toNat = k by omega]
        · exact WF_pick [0, 1, 2, 3, 4] rfl rfl h
      · refine x_iload_n C eX7_sum_19 rfl ?_
        refine x_aload_n C eX7_sum_20 rfl ?_
        refine x_getR 0 C f_RX7_22 eX7_sum_21 rfl rfl ?_
        refine x_iload_n C eX7_sum_24 rfl ?_
        refine yV1r [_, _, _] [_, _, _, _, _] C (s_X6_lineAt hK (by omega)) v_X6_lineAt vv_X6_lineAt s_RX7_122 eX7_sum_25 (fun _ _ h => WF_pick [1, 2, 0, 3, 4] rfl rfl h) (rcv 1 rfl) rfl (nle rfl) (nle rfl) (nle rfl) (nle rfl) rfl ?_
        refine x_iload_n C eX7_sum_28 rfl ?_
        refine yV1r [_, _, _, _] [_, _, _, _, _] C (s_FL_counted hK (by omega) (by omega)) v_X0_counted vv_X0_counted s_RX7_184 eX7_sum_29 (fun _ _ h => WF_pick [3, 0, 1, 2, 4] rfl rfl h) (rcvP 3 rfl (LF_rcv (by omega))) rfl (nle rfl) (nle rfl) (nle rfl) (nle rfl) rfl ?_
        refine x_iadd C eX7_sum_32 ?_
        refine x_istore_n [_, _, _, _] C eX7_sum_33 rfl rfl (nlt rfl) ?_
        refine x_iinc [_, _, _, _] C eX7_sum_34 rfl rfl rfl ?_
        refine x_goto (pc' := 8) C eX7_sum_37 rfl ?_
        refine x_pick [_, _, _, _, _] [3, 1, 2, 0, 4] rfl rfl ?_
        have h3 := ih (k + 1) (by omega) (by omega)
        exact h3
  refine x_iload_n C eX7_sum_0 rfl ?_
  refine yS1v [_, _, _, _, _] [_, _, _, _, _] C (s_X7_testCount hK (by omega)) v_X7_testCount vs_X7_testCount s_RX7_181 eX7_sum_1 (fun _ _ h => WF_pick [0, 1, 2, 3, 4] rfl rfl h) rfl (nle rfl) (nle rfl) (nle rfl) (nle rfl) rfl ?_
  refine x_iconst C eX7_sum_4 ?_
  refine x_istore_n [_, _, _, _] C eX7_sum_5 rfl rfl (nlt rfl) ?_
  refine x_iconst C eX7_sum_6 ?_
  refine x_istore_n [_, _, _, _] C eX7_sum_7 rfl rfl (nlt rfl) ?_
  refine x_pick [_, _, _, _, _] [0, 1, 2, 3, 4] rfl rfl ?_
  exact loop 50 0 (by omega) (by omega)
