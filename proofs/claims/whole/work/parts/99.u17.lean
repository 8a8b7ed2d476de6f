theorem queL_len {b : Int} {n : Net} {k : Int} {w : List Int} (hN : NetOk b n) (hk : 0 ≤ k ∧ k < n (-1) 0) : (queL n k w).length ≤ w.length + 15 := by
  have hL := hN.2.2 k hk.1 hk.2
  unfold LineOk at hL
  have h1 := nam_len (v := n k 0) (by omega)
  have h2 := dec_len2 (v := n k 6) (by omega)
  have h3 := dec_len2 (v := n k 7) (by omega)
  unfold queL
  have h6 : (w ++ nam (n k 0) ++ [58] ++ dec (n k 6) ++ [47] ++ dec (n k 7)).length ≤ w.length + 12 := by
    simp only [List.length_append, List.length_cons, List.length_nil]
    omega
  exact len_if _ (len_if _ (len_if _ h6))
theorem queS_len6 {b : Int} {n : Net} (hN : NetOk b n) : ∀ k : Nat, (k : Int) ≤ n (-1) 0 → (queS n k).length ≤ 16 * k := by
  intro k
  induction k with
  | zero => intro _; exact Nat.zero_le _
  | succ k ih =>
    intro h
    have h1 := ih (by omega)
    rw [queS_L]
    refine Nat.le_trans (queL_len hN ⟨by omega, by omega⟩) ?_
    have := len_if (w := queS n k) (c := 32) (0 < (k : Int)) h1
    omega

set_option maxHeartbeats 4000000 in
set_option maxRecDepth 100000 in
theorem s_X7_writeQueuesOf {G : Gm} {l : Launch} (hK : KG G) {e ip op t tr ps pa sl ob9 : Nat} {J : Nat → Int} {M : Pool} {L : Int → Nat} {n : Net} {b i9 : Int} {w : List Int} (hN : NetOk b n) (hi : 0 ≤ i9 ∧ i9 < n (-1) 0) (hS : KS G) (hPL : PLok G M) (hnam : namOk) (hw : w.length ≤ 300) : MD G l yX7_writeQueuesOf cX7_writeQueuesOf 2 none 6 0 0 [.ref e, .ref (L i9)] [ob e 9 (ecS ip op t tr ps pa sl) J, LF G M L n, ob op 6 [some (.ref ob9), none] (fun _ => ((w).length : Int)), ar G 1 ob9 400 (w).length (oF (w)), PL G M] none [ob e 9 (ecS ip op t tr ps pa sl) J, LF G M L n, ob op 6 [some (.ref ob9), none] (fun _ => ((queL n i9 w).length : Int)), ar G 1 ob9 400 (queL n i9 w).length (oF (queL n i9 w)), PL G M] := by
  refine MX_of (lv := [some (.ref e), some (.ref (L i9))]) hK (by decide +kernel) rfl (nle rfl) (fun X C F => ?_)
  have C : OKc G X l RX7 "writeQueuesOf" cX7_writeQueuesOf 2 none 6 0 0 := C
  have hH := hN.1
  unfold HeadOk at hH
  have hL := hN.2.2 i9 hi.1 hi.2
  unfold LineOk at hL
  have hd6 := dec_len2 (v := n i9 6) (by omega)
  have hd7 := dec_len2 (v := n i9 7) (by omega)
  refine x_oL (M := M) (L := L) (m := n) (i := i9) (R := [_, _, _, _]) (by omega) (fun _ _ hw => WF_pick [1, 0, 2, 3, 4] rfl rfl hw) (fun A hA => ?_)
  obtain ⟨b9, u9, hsp, hul, huc, huw⟩ := hA.1
  have hsk := SP_sk hPL hsp
  have hnam9 : nam (n i9 0) = u9 := by rw [← huw]; exact hnam u9 hul huc
  refine x_aload_n C eX7_writeQueuesOf_0 rfl ?_
  refine x_getR 11 C f_RX7_16 eX7_writeQueuesOf_1 rfl rfl ?_
  refine x_aload_n C eX7_writeQueuesOf_4 rfl ?_
  refine x_getR 0 C f_RX7_292 eX7_writeQueuesOf_5 rfl rfl ?_
  refine yV1v [_, _, _, _, _, _, _, _, _, _, _, _] [_, _, _, _, _, _, _, _, _, _, _, _, _, _, _] C (s_X4_addWord hK hS hsk (by simp only [List.length_append, List.length_cons, List.length_nil]; omega)) v_X4_addWord vv_X4_addWord s_RX7_296 eX7_writeQueuesOf_8 (fun _ _ h => WF_pick [12, 13, 14, 0, 1, 2, 3, 4, 5, 6, 7, 8, 9, 10, 11] rfl rfl h) (rcv 12 rfl) rfl (nle rfl) (nle rfl) (nle rfl) (nle rfl) rfl ?_
  refine x_aload_n C eX7_writeQueuesOf_11 rfl ?_
  refine x_getR 14 C f_RX7_16 eX7_writeQueuesOf_12 rfl rfl ?_
  refine x_bipush C eX7_writeQueuesOf_15 rfl ?_
  refine yV1v [_, _, _, _, _, _, _, _, _, _, _, _, _] [_, _, _, _, _, _, _, _, _, _, _, _, _, _, _] C (s_X4_addByte hK (by simp only [List.length_append, List.length_cons, List.length_nil]; omega) (by decide)) v_X4_addByte vv_X4_addByte s_RX7_63 eX7_writeQueuesOf_17 (fun _ _ h => WF_pick [0, 1, 2, 3, 4, 5, 6, 7, 8, 9, 10, 11, 12, 13, 14] rfl rfl h) (rcv 0 rfl) rfl (nle rfl) (nle rfl) (nle rfl) (nle rfl) rfl ?_
  refine x_aload_n C eX7_writeQueuesOf_20 rfl ?_
  refine x_getR 14 C f_RX7_16 eX7_writeQueuesOf_21 rfl rfl ?_
  refine x_aload_n C eX7_writeQueuesOf_24 rfl ?_
  refine x_getR 3 C f_RX7_165 eX7_writeQueuesOf_25 rfl rfl ?_
  refine x_getI 4 C f_RX7_169 eX7_writeQueuesOf_28 rfl rfl ?_
  try simp (disch := decide) only [up_s, up_n, lnI_1, lnI_2, lnI_3, lnI_4, lnI_5, lnI_10, lnI_11, lnI_12, lnI_13, lnI_14, lnI_15]
  refine yV1v [_, _, _, _, _, _, _, _, _, _, _, _, _] [_, _, _, _, _, _, _, _, _, _, _, _, _, _, _] C (s_X4_addNumber hK (by omega) (by simp only [List.length_append, List.length_cons, List.length_nil]; omega)) v_X4_addNumber vv_X4_addNumber s_RX7_299 eX7_writeQueuesOf_31 (fun _ _ h => WF_pick [0, 1, 2, 3, 4, 5, 6, 7, 8, 9, 10, 11, 12, 13, 14] rfl rfl h) (rcv 0 rfl) rfl (nle rfl) (nle rfl) (nle rfl) (nle rfl) rfl ?_
  refine x_aload_n C eX7_writeQueuesOf_34 rfl ?_
  refine x_getR 14 C f_RX7_16 eX7_writeQueuesOf_35 rfl rfl ?_
  refine x_bipush C eX7_writeQueuesOf_38 rfl ?_
  refine yV1v [_, _, _, _, _, _, _, _, _, _, _, _, _] [_, _, _, _, _, _, _, _, _, _, _, _, _, _, _] C (s_X4_addByte hK (by simp only [List.length_append, List.length_cons, List.length_nil]; omega) (by decide)) v_X4_addByte vv_X4_addByte s_RX7_63 eX7_writeQueuesOf_40 (fun _ _ h => WF_pick [0, 1, 2, 3, 4, 5, 6, 7, 8, 9, 10, 11, 12, 13, 14] rfl rfl h) (rcv 0 rfl) rfl (nle rfl) (nle rfl) (nle rfl) (nle rfl) rfl ?_
  refine x_aload_n C eX7_writeQueuesOf_43 rfl ?_
  refine x_getR 14 C f_RX7_16 eX7_writeQueuesOf_44 rfl rfl ?_
  refine x_aload_n C eX7_writeQueuesOf_47 rfl ?_
  refine x_getR 3 C f_RX7_172 eX7_writeQueuesOf_48 rfl rfl ?_
  refine x_getI 8 C f_RX7_169 eX7_writeQueuesOf_51 rfl rfl ?_
  try simp (disch := decide) only [up_s, up_n, lnI_1, lnI_2, lnI_3, lnI_4, lnI_5, lnI_10, lnI_11, lnI_12, lnI_13, lnI_14, lnI_15]
  refine yV1v [_, _, _, _, _, _, _, _, _, _, _, _, _] [_, _, _, _, _, _, _, _, _, _, _, _, _, _, _] C (s_X4_addNumber hK (by omega) (by simp only [List.length_append, List.length_cons, List.length_nil]; omega)) v_X4_addNumber vv_X4_addNumber s_RX7_299 eX7_writeQueuesOf_54 (fun _ _ h => WF_pick [0, 1, 2, 3, 4, 5, 6, 7, 8, 9, 10, 11, 12, 13, 14] rfl rfl h) (rcv 0 rfl) rfl (nle rfl) (nle rfl) (nle rfl) (nle rfl) rfl ?_
  refine x_aload_n C eX7_writeQueuesOf_57 rfl ?_
  refine x_getI 3 C f_RX7_130 eX7_writeQueuesOf_58 rfl rfl ?_
  try simp (disch := decide) only [up_s, up_n, lnI_1, lnI_2, lnI_3, lnI_4, lnI_5, lnI_10, lnI_11, lnI_12, lnI_13, lnI_14, lnI_15]
  refine x_if_le 73 C eX7_writeQueuesOf_61 rfl (by omega) (fun h61 => ?_) (fun h61 => ?_)
  · refine x_aload_n C eX7_writeQueuesOf_73 rfl ?_
    refine x_getI 3 C f_RX7_135 eX7_writeQueuesOf_74 rfl rfl ?_
    try simp (disch := decide) only [up_s, up_n, lnI_1, lnI_2, lnI_3, lnI_4, lnI_5, lnI_10, lnI_11, lnI_12, lnI_13, lnI_14, lnI_15]
    refine x_if_eq 89 C eX7_writeQueuesOf_77 rfl (by omega) (fun h77 => ?_) (fun h77 => ?_)
    · refine x_aload_n C eX7_writeQueuesOf_89 rfl ?_
      refine x_getI 3 C f_RX7_139 eX7_writeQueuesOf_90 rfl rfl ?_
      try simp (disch := decide) only [up_s, up_n, lnI_1, lnI_2, lnI_3, lnI_4, lnI_5, lnI_10, lnI_11, lnI_12, lnI_13, lnI_14, lnI_15]
      refine x_if_eq 105 C eX7_writeQueuesOf_93 rfl (by omega) (fun h93 => ?_) (fun h93 => ?_)
      · refine x_pick [_, _, _, _, _, _, _, _, _, _, _, _, _, _, _] [3, 4, 5, 6, 7, 8, 9, 10, 11, 12, 13, 0, 1, 2, 14] rfl rfl ?_
        refine x_cL (m := n) (i := i9) (A := A) (B := n i9) (by omega) hA (fun cf c h => ?_) ?_
        · exact h
        rw [un_id]
        refine x_vret C F eX7_writeQueuesOf_105 () rfl trivial (fun cf c h => ?_) (nle rfl) (nle rfl)
        unfold queL
        dsimp only
        rw [hnam9]
        repeat first | rw [if_pos (by omega)] | rw [if_neg (by omega)]
        exact WF_pick [4, 0, 1, 2, 3] rfl rfl h
      · refine x_aload_n C eX7_writeQueuesOf_96 rfl ?_
        refine x_getR 14 C f_RX7_16 eX7_writeQueuesOf_97 rfl rfl ?_
        refine x_bipush C eX7_writeQueuesOf_100 rfl ?_
        refine yV1v [_, _, _, _, _, _, _, _, _, _, _, _, _] [_, _, _, _, _, _, _, _, _, _, _, _, _, _, _] C (s_X4_addByte hK (by simp only [List.length_append, List.length_cons, List.length_nil]; omega) (by decide)) v_X4_addByte vv_X4_addByte s_RX7_63 eX7_writeQueuesOf_102 (fun _ _ h => WF_pick [0, 1, 2, 3, 4, 5, 6, 7, 8, 9, 10, 11, 12, 13, 14] rfl rfl h) (rcv 0 rfl) rfl (nle rfl) (nle rfl) (nle rfl) (nle rfl) rfl ?_
        refine x_pick [_, _, _, _, _, _, _, _, _, _, _, _, _, _, _] [3, 4, 5, 6, 7, 8, 9, 10, 11, 12, 13, 0, 1, 2, 14] rfl rfl ?_
        refine x_cL (m := n) (i := i9) (A := A) (B := n i9) (by omega) hA (fun cf c h => ?_) ?_
        · exact h
        rw [un_id]
        refine x_vret C F eX7_writeQueuesOf_105 () rfl trivial (fun cf c h => ?_) (nle rfl) (nle rfl)
        unfold queL
        dsimp only
        rw [hnam9]
        repeat first | rw [if_pos (by omega)] | rw [if_neg (by omega)]
        exact WF_pick [4, 0, 1, 2, 3] rfl rfl h
    · refine x_aload_n C eX7_writeQueuesOf_80 rfl ?_
      refine x_getR 14 C f_RX7_16 eX7_writeQueuesOf_81 rfl rfl ?_
      refine x_bipush C eX7_writeQueuesOf_84 rfl ?_
      refine yV1v [_, _, _, _, _, _, _, _, _, _, _, _, _] [_, _, _, _, _, _, _, _, _, _, _, _, _, _, _] C (s_X4_addByte hK (by simp only [List.length_append, List.length_cons, List.length_nil]; omega) (by decide)) v_X4_addByte vv_X4_addByte s_RX7_63 eX7_writeQueuesOf_86 (fun _ _ h => WF_pick [0, 1, 2, 3, 4, 5, 6, 7, 8, 9, 10, 11, 12, 13, 14] rfl rfl h) (rcv 0 rfl) rfl (nle rfl) (nle rfl) (nle rfl) (nle rfl) rfl ?_
      refine x_aload_n C eX7_writeQueuesOf_89 rfl ?_
      refine x_getI 3 C f_RX7_139 eX7_writeQueuesOf_90 rfl rfl ?_
      try simp (disch := decide) only [up_s, up_n, lnI_1, lnI_2, lnI_3, lnI_4, lnI_5, lnI_10, lnI_11, lnI_12, lnI_13, lnI_14, lnI_15]
      refine x_if_eq 105 C eX7_writeQueuesOf_93 rfl (by omega) (fun h93 => ?_) (fun h93 => ?_)
      · refine x_pick [_, _, _, _, _, _, _, _, _, _, _, _, _, _, _] [3, 4, 5, 6, 7, 8, 9, 10, 11, 12, 13, 0, 1, 2, 14] rfl rfl ?_
        refine x_cL (m := n) (i := i9) (A := A) (B := n i9) (by omega) hA (fun cf c h => ?_) ?_
        · exact h
        rw [un_id]
        refine x_vret C F eX7_writeQueuesOf_105 () rfl trivial (fun cf c h => ?_) (nle rfl) (nle rfl)
        unfold queL
        dsimp only
        rw [hnam9]
        repeat first | rw [if_pos (by omega)] | rw [if_neg (by omega)]
        exact WF_pick [4, 0, 1, 2, 3] rfl rfl h
      · refine x_aload_n C eX7_writeQueuesOf_96 rfl ?_
        refine x_getR 14 C f_RX7_16 eX7_writeQueuesOf_97 rfl rfl ?_
        refine x_bipush C eX7_writeQueuesOf_100 rfl ?_
        refine yV1v [_, _, _, _, _, _, _, _, _, _, _, _, _] [_, _, _, _, _, _, _, _, _, _, _, _, _, _, _] C (s_X4_addByte hK (by simp only [List.length_append, List.length_cons, List.length_nil]; omega) (by decide)) v_X4_addByte vv_X4_addByte s_RX7_63 eX7_writeQueuesOf_102 (fun _ _ h => WF_pick [0, 1, 2, 3, 4, 5, 6, 7, 8, 9, 10, 11, 12, 13, 14] rfl rfl h) (rcv 0 rfl) rfl (nle rfl) (nle rfl) (nle rfl) (nle rfl) rfl ?_
        refine x_pick [_, _, _, _, _, _, _, _, _, _, _, _, _, _, _] [3, 4, 5, 6, 7, 8, 9, 10, 11, 12, 13, 0, 1, 2, 14] rfl rfl ?_
        refine x_cL (m := n) (i := i9) (A := A) (B := n i9) (by omega) hA (fun cf c h => ?_) ?_
        · exact h
        rw [un_id]
        refine x_vret C F eX7_writeQueuesOf_105 () rfl trivial (fun cf c h => ?_) (nle rfl) (nle rfl)
        unfold queL
        dsimp only
        rw [hnam9]
        repeat first | rw [if_pos (by omega)] | rw [if_neg (by omega)]
        exact WF_pick [4, 0, 1, 2, 3] rfl rfl h
  · refine x_aload_n C eX7_writeQueuesOf_64 rfl ?_
    refine x_getR 14 C f_RX7_16 eX7_writeQueuesOf_65 rfl rfl ?_
    refine x_bipush C eX7_writeQueuesOf_68 rfl ?_
    refine yV1v [_, _, _, _, _, _, _, _, _, _, _, _, _] [_, _, _, _, _, _, _, _, _, _, _, _, _, _, _] C (s_X4_addByte hK (by simp only [List.length_append, List.length_cons, List.length_nil]; omega) (by decide)) v_X4_addByte vv_X4_addByte s_RX7_63 eX7_writeQueuesOf_70 (fun _ _ h => WF_pick [0, 1, 2, 3, 4, 5, 6, 7, 8, 9, 10, 11, 12, 13, 14] rfl rfl h) (rcv 0 rfl) rfl (nle rfl) (nle rfl) (nle rfl) (nle rfl) rfl ?_
    refine x_aload_n C eX7_writeQueuesOf_73 rfl ?_
    refine x_getI 3 C f_RX7_135 eX7_writeQueuesOf_74 rfl rfl ?_
    try simp (disch := decide) only [up_s, up_n, lnI_1, lnI_2, lnI_3, lnI_4, lnI_5, lnI_10, lnI_11, lnI_12, lnI_13, lnI_14, lnI_15]
    refine x_if_eq 89 C eX7_writeQueuesOf_77 rfl (by omega) (fun h77 => ?_) (fun h77 => ?_)
    · refine x_aload_n C eX7_writeQueuesOf_89 rfl ?_
      refine x_getI 3 C f_RX7_139 eX7_writeQueuesOf_90 rfl rfl ?_
      try simp (disch := decide) only [up_s, up_n, lnI_1, lnI_2, lnI_3, lnI_4, lnI_5, lnI_10, lnI_11, lnI_12, lnI_13, lnI_14, lnI_15]
      refine x_if_eq 105 C eX7_writeQueuesOf_93 rfl (by omega) (fun h93 => ?_) (fun h93 => ?_)
      · refine x_pick [_, _, _, _, _, _, _, _, _, _, _, _, _, _, _] [3, 4, 5, 6, 7, 8, 9, 10, 11, 12, 13, 0, 1, 2, 14] rfl rfl ?_
        refine x_cL (m := n) (i := i9) (A := A) (B := n i9) (by omega) hA (fun cf c h => ?_) ?_
        · exact h
        rw [un_id]
        refine x_vret C F eX7_writeQueuesOf_105 () rfl trivial (fun cf c h => ?_) (nle rfl) (nle rfl)
        unfold queL
        dsimp only
        rw [hnam9]
        repeat first | rw [if_pos (by omega)] | rw [if_neg (by omega)]
        exact WF_pick [4, 0, 1, 2, 3] rfl rfl h
      · refine x_aload_n C eX7_writeQueuesOf_96 rfl ?_
        refine x_getR 14 C f_RX7_16 eX7_writeQueuesOf_97 rfl rfl ?_
        refine x_bipush C eX7_writeQueuesOf_100 rfl ?_
        refine yV1v [_, _, _, _, _, _, _, _, _, _, _, _, _] [_, _, _, _, _, _, _, _, _, _, _, _, _, _, _] C (s_X4_addByte hK (by simp only [List.length_append, List.length_cons, List.length_nil]; omega) (by decide)) v_X4_addByte vv_X4_addByte s_RX7_63 eX7_writeQueuesOf_102 (fun _ _ h => WF_pick [0, 1, 2, 3, 4, 5, 6, 7, 8, 9, 10, 11, 12, 13, 14] rfl rfl h) (rcv 0 rfl) rfl (nle rfl) (nle rfl) (nle rfl) (nle rfl) rfl ?_
        refine x_pick [_, _, _, _, _, _, _, _, _, _, _, _, _, _, _] [3, 4, 5, 6, 7, 8, 9, 10, 11, 12, 13, 0, 1, 2, 14] rfl rfl ?_
        refine x_cL (m := n) (i := i9) (A := A) (B := n i9) (by omega) hA (fun cf c h => ?_) ?_
        · exact h
        rw [un_id]
        refine x_vret C F eX7_writeQueuesOf_105 () rfl trivial (fun cf c h => ?_) (nle rfl) (nle rfl)
        unfold queL
        dsimp only
        rw [hnam9]
        repeat first | rw [if_pos (by omega)] | rw [if_neg (by omega)]
        exact WF_pick [4, 0, 1, 2, 3] rfl rfl h
    · refine x_aload_n C eX7_writeQueuesOf_80 rfl ?_
      refine x_getR 14 C f_RX7_16 eX7_writeQueuesOf_81 rfl rfl ?_
      refine x_bipush C eX7_writeQueuesOf_84 rfl ?_
      refine yV1v [_, _, _, _, _, _, _, _, _, _, _, _, _] [_, _, _, _, _, _, _, _, _, _, _, _, _, _, _] C (s_X4_addByte hK (by simp only [List.length_append, List.length_cons, List.length_nil]; omega) (by decide)) v_X4_addByte vv_X4_addByte s_RX7_63 eX7_writeQueuesOf_86 (fun _ _ h => WF_pick [0, 1, 2, 3, 4, 5, 6, 7, 8, 9, 10, 11, 12, 13, 14] rfl rfl h) (rcv 0 rfl) rfl (nle rfl) (nle rfl) (nle rfl) (nle rfl) rfl ?_
      refine x_aload_n C eX7_writeQueuesOf_89 rfl ?_
      refine x_getI 3 C f_RX7_139 eX7_writeQueuesOf_90 rfl rfl ?_
      try simp (disch := decide) only [up_s, up_n, lnI_1, lnI_2, lnI_3, lnI_4, lnI_5, lnI_10, lnI_11, lnI_12, lnI_13, lnI_14, lnI_15]
      refine x_if_eq 105 C eX7_writeQueuesOf_93 rfl (by omega) (fun h93 => ?_) (fun h93 => ?_)
      · refine x_pick [_, _, _, _, _, _, _, _, _, _, _, _, _, _, _] [3, 4, 5, 6, 7, 8, 9, 10, 11, 12, 13, 0, 1, 2, 14] rfl rfl ?_
        refine x_cL (m := n) (i := i9) (A := A) (B := n i9) (by omega) hA (fun cf c h => ?_) ?_
        · exact h
        rw [un_id]
        refine x_vret C F eX7_writeQueuesOf_105 () rfl trivial (fun cf c h => ?_) (nle rfl) (nle rfl)
        unfold queL
        dsimp only
        rw [hnam9]
        repeat first | rw [if_pos (by omega)] | rw [if_neg (by omega)]
        exact WF_pick [4, 0, 1, 2, 3] rfl rfl h
      · refine x_aload_n C eX7_writeQueuesOf_96 rfl ?_
        refine x_getR 14 C f_RX7_16 eX7_writeQueuesOf_97 rfl rfl ?_
        refine x_bipush C eX7_writeQueuesOf_100 rfl ?_
        refine yV1v [_, _, _, _, _, _, _, _, _, _, _, _, _] [_, _, _, _, _, _, _, _, _, _, _, _, _, _, _] C (s_X4_addByte hK (by simp only [List.length_append, List.length_cons, List.length_nil]; omega) (by decide)) v_X4_addByte vv_X4_addByte s_RX7_63 eX7_writeQueuesOf_102 (fun _ _ h => WF_pick [0, 1, 2, 3, 4, 5, 6, 7, 8, 9, 10, 11, 12, 13, 14] rfl rfl h) (rcv 0 rfl) rfl (nle rfl) (nle rfl) (nle rfl) (nle rfl) rfl ?_
        refine x_pick [_, _, _, _, _, _, _, _, _, _, _, _, _, _, _] [3, 4, 5, 6, 7, 8, 9, 10, 11, 12, 13, 0, 1, 2, 14] rfl rfl ?_
        refine x_cL (m := n) (i := i9) (A := A) (B := n i9) (by omega) hA (fun cf c h => ?_) ?_
        · exact h
        rw [un_id]
        refine x_vret C F eX7_writeQueuesOf_105 () rfl trivial (fun cf c h => ?_) (nle rfl) (nle rfl)
        unfold queL
        dsimp only
        rw [hnam9]
        repeat first | rw [if_pos (by omega)] | rw [if_neg (by omega)]
        exact WF_pick [4, 0, 1, 2, 3] rfl rfl h

set_option maxHeartbeats 4000000 in
set_option maxRecDepth 100000 in
theorem s_X7_writeQueues {G : Gm} {l : Launch} (hK : KG G) {e ip op t tr ps pa sl al lg ob9 : Nat} {J : Nat → Int} {M : Pool} {L : Int → Nat} {n : Net} {b : Int} {w : List Int} (hN : NetOk b n) (hb : b ≤ 900000000) (hS : KS G) (hPL : PLok G M) (hnam : namOk) : MD G l yX7_writeQueues cX7_writeQueues 2 (some .int) 7 0 0 [.ref e] [ob e 9 (ecS ip op t tr ps pa sl) J, ob t 8 (tkS al lg) (tkI (n)), arR G 5 al 6 (fun j => some (L (j : Int))), LF G M L (n), LOG G lg (n), ob op 6 [some (.ref ob9), none] (fun _ => ((w).length : Int)), ar G 1 ob9 400 (w).length (oF (w)), PL G M] (some (.int (zI (((queS n (n (-1) 0).toNat).length : Nat) : Int)))) [ob e 9 (ecS ip op t tr ps pa sl) J, ob t 8 (tkS al lg) (tkI (n)), arR G 5 al 6 (fun j => some (L (j : Int))), LF G M L (n), LOG G lg (n), ob op 6 [some (.ref ob9), none] (fun _ => ((queS n (n (-1) 0).toNat).length : Int)), ar G 1 ob9 400 (queS n (n (-1) 0).toNat).length (oF (queS n (n (-1) 0).toNat)), PL G M] := by
  refine MX_of (lv := [some (.ref e), none]) hK (by decide +kernel) rfl (nle rfl) (fun X C F => ?_)
  have C : OKc G X l RX7 "writeQueues" cX7_writeQueues 2 (some .int) 7 0 0 := C
  have hH := hN.1
  unfold HeadOk at hH
  have loop : ∀ (f k : Nat), (k : Int) ≤ n (-1) 0 → n (-1) 0 < k + f → WX G X 0 0 [ob e 9 (ecS ip op t tr ps pa sl) J, ob t 8 (tkS al lg) (tkI (n)), arR G 5 al 6 (fun j => some (L (j : Int))), LF G M L (n), LOG G lg (n), ob op 6 [some (.ref ob9), none] (fun _ => ((queS n k).length : Int)), ar G 1 ob9 400 (queS n k).length (oF (queS n k)), PL G M] 10 [some (.ref e), some (.int (zI (k : Int)))] [] := by
    intro f
    induction f with
    | zero => intro k h0 h1; exfalso; omega
    | succ f ih =>
      intro k h0 h1
      refine x_iload_n C eX7_writeQueues_10 rfl ?_
      refine x_aload_n C eX7_writeQueues_11 rfl ?_
      refine x_getR 0 C f_RX7_22 eX7_writeQueues_12 rfl rfl ?_
      refine x_getI 1 C f_RX7_91 eX7_writeQueues_15 rfl rfl ?_
      try simp (disch := decide) only [up_s, up_n, tkI_2, tkI_3, tkI_4, tkI_5, tkI_6, tkI_7, tkI_8, lnI_1, lnI_2, lnI_3, lnI_4, lnI_5, lnI_10, lnI_11, lnI_12, lnI_13, lnI_14, lnI_15]
      refine x_icmp_ge 52 C eX7_writeQueues_18 rfl (by omega) (by omega) (fun h18 => ?_) (fun h18 => ?_)
      · refine x_aload_n C eX7_writeQueues_52 rfl ?_
        refine x_getR 0 C f_RX7_16 eX7_writeQueues_53 rfl rfl ?_
        refine x_getI 5 C f_RX7_49 eX7_writeQueues_56 rfl rfl ?_
        try simp (disch := decide) only [up_s, up_n, tkI_2, tkI_3, tkI_4, tkI_5, tkI_6, tkI_7, tkI_8, lnI_1, lnI_2, lnI_3, lnI_4, lnI_5, lnI_10, lnI_11, lnI_12, lnI_13, lnI_14, lnI_15]
        refine x_iret (by first | rfl | exact (narZ (by omega)).1) C F eX7_writeQueues_59 () ?_ trivial (fun cf c h => ?_) (nle rfl) (nle rfl)
        · obtain rfl : k = (n (-1) 0).toNat := by omega
          rfl
        · obtain rfl : k = (n (-1) 0).toNat := by omega
          exact WF_pick [0, 1, 2, 3, 4, 5, 6, 7] rfl rfl h
      · have hq9 := queS_len6 hN k (by omega)
        refine x_iload_n C eX7_writeQueues_21 rfl ?_
        refine x_if_le 34 C eX7_writeQueues_22 rfl (by omega) (fun h22 => ?_) (fun h22 => ?_)
        · rw [show queS n k = (if 0 < (k : Int) then queS n k ++ [32] else queS n k) from (if_neg (by omega)).symm]
          skip
          refine x_aload_n C eX7_writeQueues_34 rfl ?_
          refine x_aload_n C eX7_writeQueues_35 rfl ?_
          refine x_getR 0 C f_RX7_22 eX7_writeQueues_36 rfl rfl ?_
          refine x_iload_n C eX7_writeQueues_39 rfl ?_
          refine yV1r [_, _, _, _, _, _] [_, _, _, _, _, _, _, _] C (s_X6_lineAt hK (by omega)) v_X6_lineAt vv_X6_lineAt s_RX7_122 eX7_writeQueues_40 (fun _ _ h => WF_pick [1, 2, 0, 3, 4, 5, 6, 7] rfl rfl h) (rcv 1 rfl) rfl (nle rfl) (nle rfl) (nle rfl) (nle rfl) rfl ?_
          refine yV1v [_, _, _] [_, _, _, _, _, _, _, _] C (s_X7_writeQueuesOf hK hN ⟨by omega, by omega⟩ hS hPL hnam (by have h6 := len_if (w := queS n k) (c := 32) (0 < (k : Int)) hq9; omega)) v_X7_writeQueuesOf vv_X7_writeQueuesOf s_RX7_288 eX7_writeQueues_43 (fun _ _ h => WF_pick [2, 3, 5, 6, 7, 0, 1, 4] rfl rfl h) (rcv 2 rfl) rfl (nle rfl) (nle rfl) (nle rfl) (nle rfl) rfl ?_
          refine x_iinc [_, _] C eX7_writeQueues_46 rfl rfl rfl ?_
          refine x_goto (pc' := 10) C eX7_writeQueues_49 rfl ?_
          refine x_pick [_, _, _, _, _, _, _, _] [0, 5, 6, 1, 7, 2, 3, 4] rfl rfl ?_
          exact ih (k + 1) (by omega) (by omega)
        · skip
          refine x_aload_n C eX7_writeQueues_25 rfl ?_
          refine x_getR 0 C f_RX7_16 eX7_writeQueues_26 rfl rfl ?_
          refine x_bipush C eX7_writeQueues_29 rfl ?_
          refine yV1v [_, _, _, _, _, _] [_, _, _, _, _, _, _, _] C (s_X4_addByte hK (by omega) (by decide)) v_X4_addByte vv_X4_addByte s_RX7_63 eX7_writeQueues_31 (fun _ _ h => WF_pick [5, 6, 0, 1, 2, 3, 4, 7] rfl rfl h) (rcv 5 rfl) rfl (nle rfl) (nle rfl) (nle rfl) (nle rfl) rfl ?_
          rw [show queS n k ++ [32] = (if 0 < (k : Int) then queS n k ++ [32] else queS n k) from (if_pos (by omega)).symm]
          refine x_aload_n C eX7_writeQueues_34 rfl ?_
          refine x_aload_n C eX7_writeQueues_35 rfl ?_
          refine x_getR 2 C f_RX7_22 eX7_writeQueues_36 rfl rfl ?_
          refine x_iload_n C eX7_writeQueues_39 rfl ?_
          refine yV1r [_, _, _, _, _, _] [_, _, _, _, _, _, _, _] C (s_X6_lineAt hK (by omega)) v_X6_lineAt vv_X6_lineAt s_RX7_122 eX7_writeQueues_40 (fun _ _ h => WF_pick [3, 4, 0, 1, 2, 5, 6, 7] rfl rfl h) (rcv 3 rfl) rfl (nle rfl) (nle rfl) (nle rfl) (nle rfl) rfl ?_
          refine yV1v [_, _, _] [_, _, _, _, _, _, _, _] C (s_X7_writeQueuesOf hK hN ⟨by omega, by omega⟩ hS hPL hnam (by have h6 := len_if (w := queS n k) (c := 32) (0 < (k : Int)) hq9; omega)) v_X7_writeQueuesOf vv_X7_writeQueuesOf s_RX7_288 eX7_writeQueues_43 (fun _ _ h => WF_pick [4, 5, 2, 3, 7, 0, 1, 6] rfl rfl h) (rcv 4 rfl) rfl (nle rfl) (nle rfl) (nle rfl) (nle rfl) rfl ?_
          refine x_iinc [_, _] C eX7_writeQueues_46 rfl rfl rfl ?_
          refine x_goto (pc' := 10) C eX7_writeQueues_49 rfl ?_
          refine x_pick [_, _, _, _, _, _, _, _] [0, 5, 6, 1, 7, 2, 3, 4] rfl rfl ?_
          exact ih (k + 1) (by omega) (by omega)
  refine x_aload_n C eX7_writeQueues_0 rfl ?_
  refine x_getR 0 C f_RX7_16 eX7_writeQueues_1 rfl rfl ?_
  refine x_iconst C eX7_writeQueues_4 ?_
  refine x_putI [_, _, _, _, _, _, _, _] 5 C f_RX7_49 eX7_writeQueues_5 rfl rfl rfl ?_
  refine x_ws (ob op 6 [some (.ref ob9), none] (fun _ => ((([] : List Int)).length : Int)) :: ar G 1 ob9 400 (([] : List Int)).length (oF (([] : List Int))) :: [_, _, _, _, _, _]) (fun cf0 c hw => PW.wf (PW_cons (fun _ h => ob_congr (fun i hi9 => ?_) h) (PW_cons (fun _ h => ar_congr (Nat.zero_le _) (fun j hj => absurd hj (Nat.not_lt_zero j)) h) PW_rf)) (WF_pick [5, 6, 0, 1, 2, 3, 4, 7] rfl rfl hw)) ?_
  · match i with
    | 0 => exact absurd hi9 (by simp)
    | 1 => exact up_s _ _ _
    | (k + 2) => exact absurd hi9 (by simp)
  refine x_iconst C eX7_writeQueues_8 ?_
  refine x_istore_n [_, _] C eX7_writeQueues_9 rfl rfl (nlt rfl) ?_
  refine x_pick [_, _, _, _, _, _, _, _] [2, 3, 4, 5, 6, 0, 1, 7] rfl rfl ?_
  exact loop 20 0 (by omega) (by omega)
