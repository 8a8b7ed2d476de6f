/-! Throwing paths: those that look at the system first. -/
set_option maxHeartbeats 4000000 in
set_option maxRecDepth 100000 in
theorem t_X7_setMarks_24 {G : Gm} {l : Launch} (hX : KX G) (hT0 : l.stackTraces = false) {e ip op t tr ps pa sl al lg : Nat} {J : Nat → Int} {M : Pool} {L : Int → Nat} {n : Net} {b l9 a9 : Int} {c9 : Int32} (hN : NetOk b n) (hb : b ≤ 900000000) (hl : 0 ≤ l9 ∧ l9 < n (-1) 0) (hb1 : -2147483648 ≤ a9 ∧ a9 ≤ 2147483647) (ha : ¬ (0 ≤ a9 ∧ a9 ≤ n l9 1 - 1)) : MT G l yX7_setMarks cX7_setMarks 6 (some .int) 7 1 6 [.ref e, .int (zI l9), .int (zI a9), .int c9] [ob e 9 (ecS ip op t tr ps pa sl) J, ob t 8 (tkS al lg) (tkI (n)), arR G 5 al 6 (fun j => some (L (j : Int))), LF G M L (n), LOG G lg (n)] "java/lang/IllegalArgumentException" [ob e 9 (ecS ip op t tr ps pa sl) J, ob t 8 (tkS al lg) (tkI (n)), arR G 5 al 6 (fun j => some (L (j : Int))), LF G M L (n), LOG G lg (n)] := by
  have hS : KS G := hX.1
  have hK : KG G := hS.1.1
  refine MT_of (lv := [some (.ref e), some (.int (zI l9)), some (.int (zI a9)), some (.int c9), none, none]) hK (by decide +kernel) rfl (nle rfl) (fun X C F => ?_)
  have C : OKc G X l RX7 "setMarks" cX7_setMarks 6 (some .int) 7 1 6 := C
  have hH := hN.1
  unfold HeadOk at hH
  have hL := hN.2.2 l9 (by omega) (by omega)
  unfold LineOk at hL
  refine x_aload_n C eX7_setMarks_0 rfl ?_
  refine x_iload_n C eX7_setMarks_1 rfl ?_
  refine yV1v [_, _, _] [_, _, _, _, _] C (s_X7_testLine hK (by omega)) v_X7_testLine vv_X7_testLine s_RX7_145 eX7_setMarks_2 (fun _ _ h => WF_pick [0, 1, 2, 3, 4] rfl rfl h) (rcv 0 rfl) rfl (nle rfl) (nle rfl) (nle rfl) (nle rfl) rfl ?_
  refine x_aload_n C eX7_setMarks_5 rfl ?_
  refine x_getR 0 C f_RX7_22 eX7_setMarks_6 rfl rfl ?_
  refine x_iload_n C eX7_setMarks_9 rfl ?_
  refine yV1r [_, _, _] [_, _, _, _, _] C (s_X6_lineAt hK (by omega)) v_X6_lineAt vv_X6_lineAt s_RX7_122 eX7_setMarks_10 (fun _ _ h => WF_pick [1, 2, 0, 3, 4] rfl rfl h) (rcv 1 rfl) rfl (nle rfl) (nle rfl) (nle rfl) (nle rfl) rfl ?_
  refine x_astore [_, _, _, _, _, _] C eX7_setMarks_13 rfl rfl (nlt rfl) ?_
  refine x_iload_n C eX7_setMarks_15 rfl ?_
  refine x_iconst C eX7_setMarks_16 ?_
  refine x_aload C eX7_setMarks_17 rfl ?_
  refine x_gL 3 C f_RX7_150 eX7_setMarks_19 rfl (by omega) rfl ?_
  try simp only [lnI_1, lnI_2, lnI_3, lnI_4, lnI_5, lnI_10, lnI_11, lnI_12, lnI_13, lnI_14, lnI_15]
  refine x_iconst C eX7_setMarks_22 ?_
  refine x_isub C eX7_setMarks_23 ?_
  exact x_callSX (As := [_, _, _]) [_, _, _, _, _] C (t_X7_testRange_10 hX hT0 (by omega) (by omega) (by omega) (by omega)) v_X7_testRange vs_X7_testRange s_RX7_219 eX7_setMarks_24 rfl (fun _ _ h => WF_pick [0, 1, 2, 3, 4] rfl rfl h) rfl (nle rfl) (nle rfl) (nle rfl) (nle rfl) F (fun _ _ h => WF_pick [2, 0, 1, 3, 4] rfl rfl h)

set_option maxHeartbeats 4000000 in
set_option maxRecDepth 100000 in
theorem t_X7_setMarks_36 {G : Gm} {l : Launch} (hX : KX G) (hT0 : l.stackTraces = false) {e ip op t tr ps pa sl al lg : Nat} {J : Nat → Int} {M : Pool} {L : Int → Nat} {n : Net} {b l9 a9 c9 : Int} (hN : NetOk b n) (hb : b ≤ 900000000) (hl : 0 ≤ l9 ∧ l9 < n (-1) 0) (hb1 : -2147483648 ≤ c9 ∧ c9 ≤ 2147483647) (ha : (0 ≤ a9 ∧ a9 ≤ n l9 1 - 1) ∧ ¬ (a9 + 1 ≤ c9 ∧ c9 ≤ n l9 1)) : MT G l yX7_setMarks cX7_setMarks 6 (some .int) 7 1 6 [.ref e, .int (zI l9), .int (zI a9), .int (zI c9)] [ob e 9 (ecS ip op t tr ps pa sl) J, ob t 8 (tkS al lg) (tkI (n)), arR G 5 al 6 (fun j => some (L (j : Int))), LF G M L (n), LOG G lg (n)] "java/lang/IllegalArgumentException" [ob e 9 (ecS ip op t tr ps pa sl) J, ob t 8 (tkS al lg) (tkI (n)), arR G 5 al 6 (fun j => some (L (j : Int))), LF G M L (n), LOG G lg (n)] := by
  have hS : KS G := hX.1
  have hK : KG G := hS.1.1
  refine MT_of (lv := [some (.ref e), some (.int (zI l9)), some (.int (zI a9)), some (.int (zI c9)), none, none]) hK (by decide +kernel) rfl (nle rfl) (fun X C F => ?_)
  have C : OKc G X l RX7 "setMarks" cX7_setMarks 6 (some .int) 7 1 6 := C
  have hH := hN.1
  unfold HeadOk at hH
  have hL := hN.2.2 l9 (by omega) (by omega)
  unfold LineOk at hL
  refine x_aload_n C eX7_setMarks_0 rfl ?_
  refine x_iload_n C eX7_setMarks_1 rfl ?_
  refine yV1v [_, _, _] [_, _, _, _, _] C (s_X7_testLine hK (by omega)) v_X7_testLine vv_X7_testLine s_RX7_145 eX7_setMarks_2 (fun _ _ h => WF_pick [0, 1, 2, 3, 4] rfl rfl h) (rcv 0 rfl) rfl (nle rfl) (nle rfl) (nle rfl) (nle rfl) rfl ?_
  refine x_aload_n C eX7_setMarks_5 rfl ?_
  refine x_getR 0 C f_RX7_22 eX7_setMarks_6 rfl rfl ?_
  refine x_iload_n C eX7_setMarks_9 rfl ?_
  refine yV1r [_, _, _] [_, _, _, _, _] C (s_X6_lineAt hK (by omega)) v_X6_lineAt vv_X6_lineAt s_RX7_122 eX7_setMarks_10 (fun _ _ h => WF_pick [1, 2, 0, 3, 4] rfl rfl h) (rcv 1 rfl) rfl (nle rfl) (nle rfl) (nle rfl) (nle rfl) rfl ?_
  refine x_astore [_, _, _, _, _, _] C eX7_setMarks_13 rfl rfl (nlt rfl) ?_
  refine x_iload_n C eX7_setMarks_15 rfl ?_
  refine x_iconst C eX7_setMarks_16 ?_
  refine x_aload C eX7_setMarks_17 rfl ?_
  refine x_gL 3 C f_RX7_150 eX7_setMarks_19 rfl (by omega) rfl ?_
  try simp only [lnI_1, lnI_2, lnI_3, lnI_4, lnI_5, lnI_10, lnI_11, lnI_12, lnI_13, lnI_14, lnI_15]
  refine x_iconst C eX7_setMarks_22 ?_
  refine x_isub C eX7_setMarks_23 ?_
  refine yS3v [_, _, _, _, _] [_, _, _, _, _] C (s_X7_testRange hK (by omega)) v_X7_testRange vs_X7_testRange s_RX7_219 eX7_setMarks_24 (fun _ _ h => WF_pick [0, 1, 2, 3, 4] rfl rfl h) rfl (nle rfl) (nle rfl) (nle rfl) (nle rfl) rfl ?_
  refine x_iload_n C eX7_setMarks_27 rfl ?_
  refine x_iload_n C eX7_setMarks_28 rfl ?_
  refine x_iconst C eX7_setMarks_29 ?_
  refine x_iadd C eX7_setMarks_30 ?_
  refine x_aload C eX7_setMarks_31 rfl ?_
  refine x_gL 3 C f_RX7_150 eX7_setMarks_33 rfl (by omega) rfl ?_
  try simp only [lnI_1, lnI_2, lnI_3, lnI_4, lnI_5, lnI_10, lnI_11, lnI_12, lnI_13, lnI_14, lnI_15]
  exact x_callSX (As := [_, _, _]) [_, _, _, _, _] C (t_X7_testRange_10 hX hT0 (by omega) (by omega) (by omega) (by omega)) v_X7_testRange vs_X7_testRange s_RX7_219 eX7_setMarks_36 rfl (fun _ _ h => WF_pick [0, 1, 2, 3, 4] rfl rfl h) rfl (nle rfl) (nle rfl) (nle rfl) (nle rfl) F (fun _ _ h => WF_pick [2, 0, 1, 3, 4] rfl rfl h)

set_option maxHeartbeats 4000000 in
set_option maxRecDepth 100000 in
theorem t_X7_queued_47 {G : Gm} {l : Launch} (hX : KX G) (hT0 : l.stackTraces = false) {e ip op t tr ps pa sl al lg : Nat} {J : Nat → Int} {M : Pool} {L : Int → Nat} {n : Net} {b l9 i9 : Int} (p9 : Prop) [Decidable p9] (hN : NetOk b n) (hb : b ≤ 900000000) (hl : 0 ≤ l9 ∧ l9 < n (-1) 0) (hb1 : -2147483648 ≤ i9 ∧ i9 ≤ 2147483647) (hi : ¬ (0 ≤ i9 ∧ i9 < (if p9 then n l9 7 else n l9 6))) : MT G l yX7_queued cX7_queued 6 (some .int) 7 1 6 [.ref e, .int (zI l9), .int (zI (bz p9)), .int (zI i9)] [ob e 9 (ecS ip op t tr ps pa sl) J, ob t 8 (tkS al lg) (tkI (n)), arR G 5 al 6 (fun j => some (L (j : Int))), LF G M L (n), LOG G lg (n)] "java/lang/IndexOutOfBoundsException" [ob e 9 (ecS ip op t tr ps pa sl) J, ob t 8 (tkS al lg) (tkI (n)), arR G 5 al 6 (fun j => some (L (j : Int))), LF G M L (n), LOG G lg (n)] := by
  have hS : KS G := hX.1
  have hK : KG G := hS.1.1
  refine MT_of (lv := [some (.ref e), some (.int (zI l9)), some (.int (zI (bz p9))), some (.int (zI i9)), none, none]) hK (by decide +kernel) rfl (nle rfl) (fun X C F => ?_)
  have C : OKc G X l RX7 "queued" cX7_queued 6 (some .int) 7 1 6 := C
  have hH := hN.1
  unfold HeadOk at hH
  have hL := hN.2.2 l9 (by omega) (by omega)
  unfold LineOk at hL
  refine x_aload_n C eX7_queued_0 rfl ?_
  refine x_iload_n C eX7_queued_1 rfl ?_
  refine yV1v [_, _, _] [_, _, _, _, _] C (s_X7_testLine hK (by omega)) v_X7_testLine vv_X7_testLine s_RX7_145 eX7_queued_2 (fun _ _ h => WF_pick [0, 1, 2, 3, 4] rfl rfl h) (rcv 0 rfl) rfl (nle rfl) (nle rfl) (nle rfl) (nle rfl) rfl ?_
  refine x_aload_n C eX7_queued_5 rfl ?_
  refine x_getR 0 C f_RX7_22 eX7_queued_6 rfl rfl ?_
  refine x_iload_n C eX7_queued_9 rfl ?_
  refine yV1r [_, _, _] [_, _, _, _, _] C (s_X6_lineAt hK (by omega)) v_X6_lineAt vv_X6_lineAt s_RX7_122 eX7_queued_10 (fun _ _ h => WF_pick [1, 2, 0, 3, 4] rfl rfl h) (rcv 1 rfl) rfl (nle rfl) (nle rfl) (nle rfl) (nle rfl) rfl ?_
  refine x_astore [_, _, _, _, _, _] C eX7_queued_13 rfl rfl (nlt rfl) ?_
  refine x_oL (M := M) (L := L) (m := n) (i := l9) (R := [_, _, _, _]) (by omega) (fun _ _ hw => WF_pick [3, 0, 1, 2, 4] rfl rfl hw) (fun A hA => ?_)
  refine x_iload_n C eX7_queued_15 rfl ?_
  refine x_ifb_eq 27 C eX7_queued_16 rfl (fun h16 => ?_) (fun h16 => ?_)
  · rw [if_neg (by assumption)] at hi
    refine x_aload C eX7_queued_27 rfl ?_
    refine x_getR 0 C f_RX7_165 eX7_queued_29 rfl rfl ?_
    refine x_astore [_, _, _, _, _, _] C eX7_queued_32 rfl rfl (nlt rfl) ?_
    refine x_iload_n C eX7_queued_34 rfl ?_
    refine x_if_lt 47 C eX7_queued_35 rfl (by omega) (fun h35 => ?_) (fun h35 => ?_)
    · refine x_pick [_, _, _, _, _, _, _, _, _, _, _, _, _, _, _] [0, 1, 2, 3, 4, 5, 6, 7, 8, 9, 10, 11, 12, 13, 14] rfl rfl ?_
      refine x_cL (m := n) (i := l9) (A := A) (B := n l9) (by omega) hA (fun cf c h => ?_) ?_
      · exact h
      rw [un_id]
      exact x_throwS hX hT0 C F eX7_queued_47 eX7_queued_50 eX7_queued_51 eX7_queued_53 eX7_queued_56 te_187 xl_189 rfl (nle rfl) (nle rfl) (nle rfl) (nle rfl) (fun _ _ h => WF_pick [3, 1, 2, 0, 4] rfl rfl h)
    · refine x_iload_n C eX7_queued_38 rfl ?_
      refine x_aload C eX7_queued_39 rfl ?_
      refine x_getI 1 C f_RX7_169 eX7_queued_41 rfl rfl ?_
      try simp (disch := decide) only [up_s, up_n, tkI_2, tkI_3, tkI_4, tkI_5, tkI_6, tkI_7, tkI_8, lnI_1, lnI_2, lnI_3, lnI_4, lnI_5, lnI_10, lnI_11, lnI_12, lnI_13, lnI_14, lnI_15]
      refine x_icmp_lt 57 C eX7_queued_44 rfl (by omega) (by omega) (fun h44 => ?_) (fun h44 => ?_)
      · exfalso; omega
      · refine x_pick [_, _, _, _, _, _, _, _, _, _, _, _, _, _, _] [0, 1, 2, 3, 4, 5, 6, 7, 8, 9, 10, 11, 12, 13, 14] rfl rfl ?_
        refine x_cL (m := n) (i := l9) (A := A) (B := n l9) (by omega) hA (fun cf c h => ?_) ?_
        · exact h
        rw [un_id]
        exact x_throwS hX hT0 C F eX7_queued_47 eX7_queued_50 eX7_queued_51 eX7_queued_53 eX7_queued_56 te_187 xl_189 rfl (nle rfl) (nle rfl) (nle rfl) (nle rfl) (fun _ _ h => WF_pick [3, 1, 2, 0, 4] rfl rfl h)
  · rw [if_pos (by assumption)] at hi
    refine x_aload C eX7_queued_19 rfl ?_
    refine x_getR 0 C f_RX7_172 eX7_queued_21 rfl rfl ?_
    refine x_goto (pc' := 32) C eX7_queued_24 rfl ?_
    refine x_astore [_, _, _, _, _, _] C eX7_queued_32 rfl rfl (nlt rfl) ?_
    refine x_iload_n C eX7_queued_34 rfl ?_
    refine x_if_lt 47 C eX7_queued_35 rfl (by omega) (fun h35 => ?_) (fun h35 => ?_)
    · refine x_pick [_, _, _, _, _, _, _, _, _, _, _, _, _, _, _] [0, 1, 2, 3, 4, 5, 6, 7, 8, 9, 10, 11, 12, 13, 14] rfl rfl ?_
      refine x_cL (m := n) (i := l9) (A := A) (B := n l9) (by omega) hA (fun cf c h => ?_) ?_
      · exact h
      rw [un_id]
      exact x_throwS hX hT0 C F eX7_queued_47 eX7_queued_50 eX7_queued_51 eX7_queued_53 eX7_queued_56 te_187 xl_189 rfl (nle rfl) (nle rfl) (nle rfl) (nle rfl) (fun _ _ h => WF_pick [3, 1, 2, 0, 4] rfl rfl h)
    · refine x_iload_n C eX7_queued_38 rfl ?_
      refine x_aload C eX7_queued_39 rfl ?_
      refine x_getI 5 C f_RX7_169 eX7_queued_41 rfl rfl ?_
      try simp (disch := decide) only [up_s, up_n, tkI_2, tkI_3, tkI_4, tkI_5, tkI_6, tkI_7, tkI_8, lnI_1, lnI_2, lnI_3, lnI_4, lnI_5, lnI_10, lnI_11, lnI_12, lnI_13, lnI_14, lnI_15]
      refine x_icmp_lt 57 C eX7_queued_44 rfl (by omega) (by omega) (fun h44 => ?_) (fun h44 => ?_)
      · exfalso; omega
      · refine x_pick [_, _, _, _, _, _, _, _, _, _, _, _, _, _, _] [0, 1, 2, 3, 4, 5, 6, 7, 8, 9, 10, 11, 12, 13, 14] rfl rfl ?_
        refine x_cL (m := n) (i := l9) (A := A) (B := n l9) (by omega) hA (fun cf c h => ?_) ?_
        · exact h
        rw [un_id]
        exact x_throwS hX hT0 C F eX7_queued_47 eX7_queued_50 eX7_queued_51 eX7_queued_53 eX7_queued_56 te_187 xl_189 rfl (nle rfl) (nle rfl) (nle rfl) (nle rfl) (fun _ _ h => WF_pick [3, 1, 2, 0, 4] rfl rfl h)

set_option maxHeartbeats 4000000 in
set_option maxRecDepth 100000 in
theorem t_X7_logged_18 {G : Gm} {l : Launch} (hX : KX G) (hT0 : l.stackTraces = false) {e ip op t tr ps pa sl al lg : Nat} {J : Nat → Int} {M : Pool} {L : Int → Nat} {n : Net} {b i9 : Int} {w9 : Int32} (hN : NetOk b n) (hb : b ≤ 900000000) (hb1 : -2147483648 ≤ i9 ∧ i9 ≤ 2147483647) (hi : ¬ (0 ≤ i9 ∧ i9 < n (-1) 7)) : MT G l yX7_logged cX7_logged 3 (some .int) 7 1 6 [.ref e, .int (zI i9), .int w9] [ob e 9 (ecS ip op t tr ps pa sl) J, ob t 8 (tkS al lg) (tkI (n)), arR G 5 al 6 (fun j => some (L (j : Int))), LF G M L (n), LOG G lg (n)] "java/lang/IndexOutOfBoundsException" [ob e 9 (ecS ip op t tr ps pa sl) J, ob t 8 (tkS al lg) (tkI (n)), arR G 5 al 6 (fun j => some (L (j : Int))), LF G M L (n), LOG G lg (n)] := by
  have hS : KS G := hX.1
  have hK : KG G := hS.1.1
  refine MT_of (lv := [some (.ref e), some (.int (zI i9)), some (.int w9)]) hK (by decide +kernel) rfl (nle rfl) (fun X C F => ?_)
  have C : OKc G X l RX7 "logged" cX7_logged 3 (some .int) 7 1 6 := C
  have hH := hN.1
  unfold HeadOk at hH
  refine x_oG (m := n) (R := [_, _, _, _]) (fun _ _ hw => WF_pick [4, 0, 1, 2, 3] rfl rfl hw) (fun la x f hx hf => ?_)
  refine x_iload_n C eX7_logged_0 rfl ?_
  refine x_if_lt 18 C eX7_logged_1 rfl (by omega) (fun h1 => ?_) (fun h1 => ?_)
  · refine x_pick [_, _, _, _, _, _] [0, 1, 2, 3, 4, 5] rfl rfl ?_
    refine x_cG (m := n) hx rfl hf ?_
    exact x_throwS hX hT0 C F eX7_logged_18 eX7_logged_21 eX7_logged_22 eX7_logged_24 eX7_logged_27 te_187 xl_205 rfl (nle rfl) (nle rfl) (nle rfl) (nle rfl) (fun _ _ h => WF_pick [1, 2, 3, 4, 0] rfl rfl h)
  · refine x_iload_n C eX7_logged_4 rfl ?_
    refine x_aload_n C eX7_logged_5 rfl ?_
    refine x_getR 2 C f_RX7_22 eX7_logged_6 rfl rfl ?_
    refine x_getR 3 C f_RX7_198 eX7_logged_9 rfl rfl ?_
    refine x_getI 0 C f_RX7_202 eX7_logged_12 rfl rfl ?_
    try simp (disch := decide) only [up_s, up_n, tkI_2, tkI_3, tkI_4, tkI_5, tkI_6, tkI_7, tkI_8, lnI_1, lnI_2, lnI_3, lnI_4, lnI_5, lnI_10, lnI_11, lnI_12, lnI_13, lnI_14, lnI_15, lgI_1, lgI_2]
    refine x_icmp_lt 28 C eX7_logged_15 rfl (by omega) (by omega) (fun h15 => ?_) (fun h15 => ?_)
    · exfalso; omega
    · refine x_pick [_, _, _, _, _, _] [0, 1, 2, 3, 4, 5] rfl rfl ?_
      refine x_cG (m := n) hx rfl hf ?_
      exact x_throwS hX hT0 C F eX7_logged_18 eX7_logged_21 eX7_logged_22 eX7_logged_24 eX7_logged_27 te_187 xl_205 rfl (nle rfl) (nle rfl) (nle rfl) (nle rfl) (fun _ _ h => WF_pick [1, 2, 3, 4, 0] rfl rfl h)

set_option maxHeartbeats 4000000 in
set_option maxRecDepth 100000 in
theorem t_X7_logged_37 {G : Gm} {l : Launch} (hX : KX G) (hT0 : l.stackTraces = false) {e ip op t tr ps pa sl al lg : Nat} {J : Nat → Int} {M : Pool} {L : Int → Nat} {n : Net} {b i9 w9 : Int} (hN : NetOk b n) (hb : b ≤ 900000000) (hi : 0 ≤ i9 ∧ i9 < n (-1) 7) (hb1 : -2147483648 ≤ w9 ∧ w9 ≤ 2147483647) (hw : ¬ (0 ≤ w9 ∧ w9 < 5)) : MT G l yX7_logged cX7_logged 3 (some .int) 7 1 6 [.ref e, .int (zI i9), .int (zI w9)] [ob e 9 (ecS ip op t tr ps pa sl) J, ob t 8 (tkS al lg) (tkI (n)), arR G 5 al 6 (fun j => some (L (j : Int))), LF G M L (n), LOG G lg (n)] "java/lang/IllegalArgumentException" [ob e 9 (ecS ip op t tr ps pa sl) J, ob t 8 (tkS al lg) (tkI (n)), arR G 5 al 6 (fun j => some (L (j : Int))), LF G M L (n), LOG G lg (n)] := by
  have hS : KS G := hX.1
  have hK : KG G := hS.1.1
  refine MT_of (lv := [some (.ref e), some (.int (zI i9)), some (.int (zI w9))]) hK (by decide +kernel) rfl (nle rfl) (fun X C F => ?_)
  have C : OKc G X l RX7 "logged" cX7_logged 3 (some .int) 7 1 6 := C
  have hH := hN.1
  unfold HeadOk at hH
  refine x_oG (m := n) (R := [_, _, _, _]) (fun _ _ hw => WF_pick [4, 0, 1, 2, 3] rfl rfl hw) (fun la x f hx hf => ?_)
  refine x_iload_n C eX7_logged_0 rfl ?_
  refine x_if_lt 18 C eX7_logged_1 rfl (by omega) (fun h1 => ?_) (fun h1 => ?_)
  · exfalso; omega
  · refine x_iload_n C eX7_logged_4 rfl ?_
    refine x_aload_n C eX7_logged_5 rfl ?_
    refine x_getR 2 C f_RX7_22 eX7_logged_6 rfl rfl ?_
    refine x_getR 3 C f_RX7_198 eX7_logged_9 rfl rfl ?_
    refine x_getI 0 C f_RX7_202 eX7_logged_12 rfl rfl ?_
    try simp (disch := decide) only [up_s, up_n, tkI_2, tkI_3, tkI_4, tkI_5, tkI_6, tkI_7, tkI_8, lnI_1, lnI_2, lnI_3, lnI_4, lnI_5, lnI_10, lnI_11, lnI_12, lnI_13, lnI_14, lnI_15, lgI_1, lgI_2]
    refine x_icmp_lt 28 C eX7_logged_15 rfl (by omega) (by omega) (fun h15 => ?_) (fun h15 => ?_)
    · refine x_iload_n C eX7_logged_28 rfl ?_
      refine x_if_lt 37 C eX7_logged_29 rfl (by omega) (fun h29 => ?_) (fun h29 => ?_)
      · refine x_pick [_, _, _, _, _, _] [0, 1, 2, 3, 4, 5] rfl rfl ?_
        refine x_cG (m := n) hx rfl hf ?_
        exact x_throwS hX hT0 C F eX7_logged_37 eX7_logged_40 eX7_logged_41 eX7_logged_43 eX7_logged_46 te_66 xl_207 rfl (nle rfl) (nle rfl) (nle rfl) (nle rfl) (fun _ _ h => WF_pick [1, 2, 3, 4, 0] rfl rfl h)
      · refine x_iload_n C eX7_logged_32 rfl ?_
        refine x_iconst C eX7_logged_33 ?_
        refine x_icmp_lt 47 C eX7_logged_34 rfl (by omega) (by omega) (fun h34 => ?_) (fun h34 => ?_)
        · exfalso; omega
        · refine x_pick [_, _, _, _, _, _] [0, 1, 2, 3, 4, 5] rfl rfl ?_
          refine x_cG (m := n) hx rfl hf ?_
          exact x_throwS hX hT0 C F eX7_logged_37 eX7_logged_40 eX7_logged_41 eX7_logged_43 eX7_logged_46 te_66 xl_207 rfl (nle rfl) (nle rfl) (nle rfl) (nle rfl) (fun _ _ h => WF_pick [1, 2, 3, 4, 0] rfl rfl h)
    · exfalso; omega

set_option maxHeartbeats 4000000 in
set_option maxRecDepth 100000 in
theorem t_X7_undo_39 {G : Gm} {l : Launch} (hX : KX G) (hT0 : l.stackTraces = false) {e ip op t tr ps pa sl : Nat} {J : Nat → Int} {M : Pool} {N : Nat → Net} (h6 : J 6 ≤ 0 ∧ 0 ≤ J 6) : MT G l yX7_undo cX7_undo 2 (some .int) 7 1 6 [.ref e] [ob e 9 (ecS ip op t tr ps pa sl) J, PS G M pa (J 6) N] "java/lang/IllegalStateException" [ob e 9 (ecS ip op t tr ps pa sl) J, PS G M pa (J 6) N] := by
  have hS : KS G := hX.1
  have hK : KG G := hS.1.1
  refine MT_of (lv := [some (.ref e), none]) hK (by decide +kernel) rfl (nle rfl) (fun X C F => ?_)
  have C : OKc G X l RX7 "undo" cX7_undo 2 (some .int) 7 1 6 := C
  refine x_aload_n C eX7_undo_0 rfl ?_
  refine x_getI 0 C f_RX7_280 eX7_undo_1 rfl rfl ?_
  try simp (disch := decide) only [up_s, up_n, tkI_2, tkI_3, tkI_4, tkI_5, tkI_6, tkI_7, tkI_8, lnI_1, lnI_2, lnI_3, lnI_4, lnI_5, lnI_10, lnI_11, lnI_12, lnI_13, lnI_14, lnI_15]
  refine x_if_le 33 C eX7_undo_4 rfl (by omega) (fun h4 => ?_) (fun h4 => ?_)
  · refine x_null C eX7_undo_33 ?_
    refine x_astoreN_n [_, _] C eX7_undo_34 rfl rfl (nlt rfl) ?_
    refine x_aloadN_n C eX7_undo_35 rfl ?_
    refine x_ifnonnullN C eX7_undo_36 ?_
    exact x_throwSW hX hT0 C F eX7_undo_39 eX7_undo_42 eX7_undo_43 eX7_undo_46 eX7_undo_49 te_52 xl_283 rfl (nle rfl) (nle rfl) (nle rfl) (nle rfl) (fun _ _ h => WF_pick [0, 1] rfl rfl h)
  · exfalso; omega

set_option maxHeartbeats 4000000 in
set_option maxRecDepth 100000 in
theorem t_X7_restore_16 {G : Gm} {l : Launch} (hX : KX G) (hT0 : l.stackTraces = false) {e ip op t tr ps pa sl : Nat} {J : Nat → Int} {M : Pool} {Fu : Nat → Int} {K : Nat → Net} {s9 : Int} (hs : 0 ≤ s9 ∧ s9 ≤ 1) (hf : ¬ Fu s9.toNat = 1) : MT G l yX7_restore cX7_restore 3 (some .int) 7 1 6 [.ref e, .int (zI s9)] [ob e 9 (ecS ip op t tr ps pa sl) J, SS G M sl Fu K] "java/lang/IllegalStateException" [ob e 9 (ecS ip op t tr ps pa sl) J, SS G M sl Fu K] := by
  have hS : KS G := hX.1
  have hK : KG G := hS.1.1
  refine MT_of (lv := [some (.ref e), some (.int (zI s9)), none]) hK (by decide +kernel) rfl (nle rfl) (fun X C F => ?_)
  have C : OKc G X l RX7 "restore" cX7_restore 3 (some .int) 7 1 6 := C
  refine x_aload_n C eX7_restore_0 rfl ?_
  refine x_iload_n C eX7_restore_1 rfl ?_
  refine yV1v [] [_, _] C (s_X7_testSlot hK (by omega)) v_X7_testSlot vv_X7_testSlot s_RX7_275 eX7_restore_2 (fun _ _ h => WF_pick [0, 1] rfl rfl h) (rcv 0 rfl) rfl (nle rfl) (nle rfl) (nle rfl) (nle rfl) rfl ?_
  refine x_oSS (M := M) (sl := sl) (Fu := Fu) (N := K) (R := [_]) (fun _ _ hw => WF_pick [1, 0] rfl rfl hw) (fun P Lp hP => ?_)
  have ht1 : P s9.toNat = none := by
    cases h : P s9.toNat with
    | none => rfl
    | some t => exact absurd ((hP.1 s9.toNat (by omega)).mp (by rw [h]; simp)) hf
  refine x_aload_n C eX7_restore_5 rfl ?_
  refine x_getR 2 C f_RX7_42 eX7_restore_6 rfl rfl ?_
  refine x_iload_n C eX7_restore_9 rfl ?_
  refine x_aald (v := .null) 0 C eX7_restore_10 rfl (Or.inr rfl) (by decide) (by omega) (by rw [ht1]; rfl) ?_
  refine x_astoreN_n [_, _, _] C eX7_restore_11 rfl rfl (nlt rfl) ?_
  refine x_aloadN_n C eX7_restore_12 rfl ?_
  refine x_ifnonnullN C eX7_restore_13 ?_
  exact x_throwSW hX hT0 C F eX7_restore_16 eX7_restore_19 eX7_restore_20 eX7_restore_23 eX7_restore_26 te_52 xl_278 rfl (nle rfl) (nle rfl) (nle rfl) (nle rfl) (fun _ _ h => WF_pick [1, 0] rfl rfl (WF_close (P := SS G M sl Fu K) (L := [_, _]) (R := [_]) (WF_pick [0, 1, 2] rfl rfl h) (fun d hd => ⟨P, Lp, hP, hd⟩)))
