/-! stands: every test of it holds. -/

set_option maxHeartbeats 4000000 in
set_option maxRecDepth 100000 in
theorem z_st_13 {G : Gm} {X : Cx} {l : Launch} (hK : KG G) {e ip op t tr ps pa sl al lg : Nat} {J : Nat → Int} {M : Pool} {L : Int → Nat} {n : Net} {b : Int} {k : Nat} {S : Int} (C : OKc G X l RL "stands" cL_stands 5 (some .boolean) 5 0 0) (hN : NetOk b n) (hb : b ≤ 900000000) (hs : SOK n) (hk : (k : Int) < n (-1) 0) (hS : 0 ≤ S ∧ S ≤ n (-1) 4) (K : WX G X 0 0 [ob e 9 (ecS ip op t tr ps pa sl) J, ob t 8 (tkS al lg) (tkI n), arR G 5 al 6 (fun j => some (L (j : Int))), LF G M L n, LOG G lg n] 93 [some (.ref e), some (.int (zI S)), some (.int (zI (k : Int))), some (.int (zI (lineVal n (k : Int) 5))), some (.int (zI (lineVal n (k : Int) 6)))] []) : WX G X 0 0 [ob e 9 (ecS ip op t tr ps pa sl) J, ob t 8 (tkS al lg) (tkI n), arR G 5 al 6 (fun j => some (L (j : Int))), LF G M L n, LOG G lg n] 13 [some (.ref e), some (.int (zI S)), some (.int (zI (k : Int))), none, none] [] := by
  have hH := hN.1
  unfold HeadOk at hH
  have hk9 : (0 : Int) ≤ (k : Int) := by omega
  have hT := hs.2 (k : Int) hk9 hk
  have hL := hN.2.2 (k : Int) (by omega) (by omega)
  have r16 := LineOk_c hL (k := 16) (by decide) (by decide)
  have r17 := LineOk_c hL (k := 17) (by decide) (by decide)
  have r18 := LineOk_c hL (k := 18) (by decide) (by decide)
  have r19 := LineOk_c hL (k := 19) (by decide) (by decide)
  have r20 := LineOk_c hL (k := 20) (by decide) (by decide)
  have r21 := LineOk_c hL (k := 21) (by decide) (by decide)
  have r22 := LineOk_c hL (k := 22) (by decide) (by decide)
  have r23 := LineOk_c hL (k := 23) (by decide) (by decide)
  have r24 := LineOk_c hL (k := 24) (by decide) (by decide)
  have r25 := LineOk_c hL (k := 25) (by decide) (by decide)
  have r26 := LineOk_c hL (k := 26) (by decide) (by decide)
  unfold LineOk at hL
  have v0 : lineVal n (k : Int) 0 = n (k : Int) 1 := rfl
  have v1 : lineVal n (k : Int) 1 = n (k : Int) 2 := rfl
  have v2 : lineVal n (k : Int) 2 = n (k : Int) 3 := rfl
  have v3 : lineVal n (k : Int) 3 = n (k : Int) 4 := rfl
  have v4 : lineVal n (k : Int) 4 = n (k : Int) 5 := rfl
  have v5 : lineVal n (k : Int) 5 = n (k : Int) 6 := rfl
  have v6 : lineVal n (k : Int) 6 = n (k : Int) 7 := rfl
  have v7 : lineVal n (k : Int) 7 = n (k : Int) 8 := rfl
  have v8 : lineVal n (k : Int) 8 = n (k : Int) 9 := rfl
  have v10 : lineVal n (k : Int) 10 = n (k : Int) 12 := rfl
  have v9 : lineVal n (k : Int) 9 = (if 0 < n (k : Int) 12 then n (k : Int) 13 else -1) := rfl
  have w9 : (0 < n (k : Int) 12 ∧ lineVal n (k : Int) 9 = n (k : Int) 13) ∨ (¬ 0 < n (k : Int) 12 ∧ lineVal n (k : Int) 9 = -1) := by
    rw [v9]
    by_cases c : 0 < n (k : Int) 12
    · rw [if_pos c]; exact Or.inl ⟨c, rfl⟩
    · rw [if_neg c]; exact Or.inr ⟨c, rfl⟩
  have c0 : n (k : Int) (16 + 0) = n (k : Int) 16 := rfl
  have c1 : n (k : Int) (16 + 1) = n (k : Int) 17 := rfl
  have c2 : n (k : Int) (16 + 2) = n (k : Int) 18 := rfl
  have c3 : n (k : Int) (16 + 3) = n (k : Int) 19 := rfl
  have c4 : n (k : Int) (16 + 4) = n (k : Int) 20 := rfl
  have c5 : n (k : Int) (16 + 5) = n (k : Int) 21 := rfl
  have c6 : n (k : Int) (16 + 6) = n (k : Int) 22 := rfl
  have c7 : n (k : Int) (16 + 7) = n (k : Int) 23 := rfl
  have c8 : n (k : Int) (16 + 8) = n (k : Int) 24 := rfl
  have c9 : n (k : Int) (16 + 9) = n (k : Int) 25 := rfl
  have c10 : n (k : Int) (16 + 10) = n (k : Int) 26 := rfl
  have z9 : (0 < n (k : Int) 9 ∧ bz (0 < n (k : Int) 9) = 1) ∨ (¬ 0 < n (k : Int) 9 ∧ bz (0 < n (k : Int) 9) = 0) := by
    by_cases c : 0 < n (k : Int) 9
    · exact Or.inl ⟨c, bz_t c⟩
    · exact Or.inr ⟨c, bz_f c⟩
  have z10 : (0 < n (k : Int) 10 ∧ bz (0 < n (k : Int) 10) = 1) ∨ (¬ 0 < n (k : Int) 10 ∧ bz (0 < n (k : Int) 10) = 0) := by
    by_cases c : 0 < n (k : Int) 10
    · exact Or.inl ⟨c, bz_t c⟩
    · exact Or.inr ⟨c, bz_f c⟩
  have z12 : (0 < n (k : Int) 12 ∧ bz (0 < n (k : Int) 12) = 1) ∨ (¬ 0 < n (k : Int) 12 ∧ bz (0 < n (k : Int) 12) = 0) := by
    by_cases c : 0 < n (k : Int) 12
    · exact Or.inl ⟨c, bz_t c⟩
    · exact Or.inr ⟨c, bz_f c⟩
  unfold LSt LS0 mkS at hT
  have hbz : True := trivial
  refine x_aload_n C eL_stands_13 rfl ?_
  refine x_iload_n C eL_stands_14 rfl ?_
  refine x_iconst C eL_stands_15 ?_
  refine yV2r [] [_, _, _, _, _] C (s_X7_line hK hN hb (by omega) (by decide)) v_X7_line vv_X7_line s_RL_143 eL_stands_16 (fun _ _ h => WF_pick [0, 1, 2, 3, 4] rfl rfl h) (rcv 0 rfl) rfl (nle rfl) (nle rfl) (nle rfl) (nle rfl) rfl ?_
  refine x_istore_n [_, _, _, _, _] C eL_stands_19 rfl rfl (nlt rfl) ?_
  refine x_aload_n C eL_stands_20 rfl ?_
  refine x_iload_n C eL_stands_21 rfl ?_
  refine x_bipush C eL_stands_22 rfl ?_
  refine yV2r [] [_, _, _, _, _] C (s_X7_line hK hN hb (by omega) (by decide)) v_X7_line vv_X7_line s_RL_143 eL_stands_24 (fun _ _ h => WF_pick [0, 1, 2, 3, 4] rfl rfl h) (rcv 0 rfl) rfl (nle rfl) (nle rfl) (nle rfl) (nle rfl) rfl ?_
  refine x_istore [_, _, _, _, _] C eL_stands_27 rfl rfl (nlt rfl) ?_
  refine x_iload_n C eL_stands_29 rfl ?_
  refine x_if_lt 91 C eL_stands_30 rfl (by omega) (fun h30 => ?_) (fun h30 => ?_)
  · exfalso; omega
  · refine x_iload_n C eL_stands_33 rfl ?_
    refine x_aload_n C eL_stands_34 rfl ?_
    refine x_iload_n C eL_stands_35 rfl ?_
    refine x_iconst C eL_stands_36 ?_
    refine yV2r [] [_, _, _, _, _] C (s_X7_line hK hN hb (by omega) (by decide)) v_X7_line vv_X7_line s_RL_143 eL_stands_37 (fun _ _ h => WF_pick [0, 1, 2, 3, 4] rfl rfl h) (rcv 0 rfl) rfl (nle rfl) (nle rfl) (nle rfl) (nle rfl) rfl ?_
    refine x_icmp_gt 91 C eL_stands_40 rfl (by omega) (by omega) (fun h40 => ?_) (fun h40 => ?_)
    · exfalso; omega
    · refine x_iload C eL_stands_43 rfl ?_
      refine x_if_lt 91 C eL_stands_45 rfl (by omega) (fun h45 => ?_) (fun h45 => ?_)
      · exfalso; omega
      · refine x_iload C eL_stands_48 rfl ?_
        refine x_aload_n C eL_stands_50 rfl ?_
        refine x_iload_n C eL_stands_51 rfl ?_
        refine x_iconst C eL_stands_52 ?_
        refine yV2r [] [_, _, _, _, _] C (s_X7_line hK hN hb (by omega) (by decide)) v_X7_line vv_X7_line s_RL_143 eL_stands_53 (fun _ _ h => WF_pick [0, 1, 2, 3, 4] rfl rfl h) (rcv 0 rfl) rfl (nle rfl) (nle rfl) (nle rfl) (nle rfl) rfl ?_
        refine x_icmp_gt 91 C eL_stands_56 rfl (by omega) (by omega) (fun h56 => ?_) (fun h56 => ?_)
        · exfalso; omega
        · refine x_aload_n C eL_stands_59 rfl ?_
          refine x_iload_n C eL_stands_60 rfl ?_
          refine x_bipush C eL_stands_61 rfl ?_
          refine yV2r [] [_, _, _, _, _] C (s_X7_line hK hN hb (by omega) (by decide)) v_X7_line vv_X7_line s_RL_143 eL_stands_63 (fun _ _ h => WF_pick [0, 1, 2, 3, 4] rfl rfl h) (rcv 0 rfl) rfl (nle rfl) (nle rfl) (nle rfl) (nle rfl) rfl ?_
          refine x_bipush C eL_stands_66 rfl ?_
          refine x_icmp_gt 91 C eL_stands_68 rfl (by omega) (by omega) (fun h68 => ?_) (fun h68 => ?_)
          · exfalso; omega
          · refine x_aload_n C eL_stands_71 rfl ?_
            refine x_iload_n C eL_stands_72 rfl ?_
            refine x_bipush C eL_stands_73 rfl ?_
            refine yV2r [] [_, _, _, _, _] C (s_X7_line hK hN hb (by omega) (by decide)) v_X7_line vv_X7_line s_RL_143 eL_stands_75 (fun _ _ h => WF_pick [0, 1, 2, 3, 4] rfl rfl h) (rcv 0 rfl) rfl (nle rfl) (nle rfl) (nle rfl) (nle rfl) rfl ?_
            refine x_if_le 93 C eL_stands_78 rfl (by omega) (fun h78 => ?_) (fun h78 => ?_)
            · exact K
            · refine x_aload_n C eL_stands_81 rfl ?_
              refine x_iload_n C eL_stands_82 rfl ?_
              refine x_iconst C eL_stands_83 ?_
              refine yV2r [] [_, _, _, _, _] C (s_X7_line hK hN hb (by omega) (by decide)) v_X7_line vv_X7_line s_RL_143 eL_stands_84 (fun _ _ h => WF_pick [0, 1, 2, 3, 4] rfl rfl h) (rcv 0 rfl) rfl (nle rfl) (nle rfl) (nle rfl) (nle rfl) rfl ?_
              refine x_iconst C eL_stands_87 ?_
              refine x_icmp_eq 93 C eL_stands_88 rfl (by omega) (by omega) (fun h88 => ?_) (fun h88 => ?_)
              · exact K
              · exfalso; omega

set_option maxHeartbeats 4000000 in
set_option maxRecDepth 100000 in
theorem z_st_93 {G : Gm} {X : Cx} {l : Launch} (hK : KG G) {e ip op t tr ps pa sl al lg : Nat} {J : Nat → Int} {M : Pool} {L : Int → Nat} {n : Net} {b : Int} {k : Nat} {S : Int} (C : OKc G X l RL "stands" cL_stands 5 (some .boolean) 5 0 0) (hN : NetOk b n) (hb : b ≤ 900000000) (hs : SOK n) (hk : (k : Int) < n (-1) 0) (hS : 0 ≤ S ∧ S ≤ n (-1) 4) (K : WX G X 0 0 [ob e 9 (ecS ip op t tr ps pa sl) J, ob t 8 (tkS al lg) (tkI n), arR G 5 al 6 (fun j => some (L (j : Int))), LF G M L n, LOG G lg n] 168 [some (.ref e), some (.int (zI S)), some (.int (zI (k : Int))), some (.int (zI (lineVal n (k : Int) 5))), some (.int (zI (lineVal n (k : Int) 6)))] []) : WX G X 0 0 [ob e 9 (ecS ip op t tr ps pa sl) J, ob t 8 (tkS al lg) (tkI n), arR G 5 al 6 (fun j => some (L (j : Int))), LF G M L n, LOG G lg n] 93 [some (.ref e), some (.int (zI S)), some (.int (zI (k : Int))), some (.int (zI (lineVal n (k : Int) 5))), some (.int (zI (lineVal n (k : Int) 6)))] [] := by
  have hH := hN.1
  unfold HeadOk at hH
  have hk9 : (0 : Int) ≤ (k : Int) := by omega
  have hT := hs.2 (k : Int) hk9 hk
  have hL := hN.2.2 (k : Int) (by omega) (by omega)
  have r16 := LineOk_c hL (k := 16) (by decide) (by decide)
  have r17 := LineOk_c hL (k := 17) (by decide) (by decide)
  have r18 := LineOk_c hL (k := 18) (by decide) (by decide)
  have r19 := LineOk_c hL (k := 19) (by decide) (by decide)
  have r20 := LineOk_c hL (k := 20) (by decide) (by decide)
  have r21 := LineOk_c hL (k := 21) (by decide) (by decide)
  have r22 := LineOk_c hL (k := 22) (by decide) (by decide)
  have r23 := LineOk_c hL (k := 23) (by decide) (by decide)
  have r24 := LineOk_c hL (k := 24) (by decide) (by decide)
  have r25 := LineOk_c hL (k := 25) (by decide) (by decide)
  have r26 := LineOk_c hL (k := 26) (by decide) (by decide)
  unfold LineOk at hL
  have v0 : lineVal n (k : Int) 0 = n (k : Int) 1 := rfl
  have v1 : lineVal n (k : Int) 1 = n (k : Int) 2 := rfl
  have v2 : lineVal n (k : Int) 2 = n (k : Int) 3 := rfl
  have v3 : lineVal n (k : Int) 3 = n (k : Int) 4 := rfl
  have v4 : lineVal n (k : Int) 4 = n (k : Int) 5 := rfl
  have v5 : lineVal n (k : Int) 5 = n (k : Int) 6 := rfl
  have v6 : lineVal n (k : Int) 6 = n (k : Int) 7 := rfl
  have v7 : lineVal n (k : Int) 7 = n (k : Int) 8 := rfl
  have v8 : lineVal n (k : Int) 8 = n (k : Int) 9 := rfl
  have v10 : lineVal n (k : Int) 10 = n (k : Int) 12 := rfl
  have v9 : lineVal n (k : Int) 9 = (if 0 < n (k : Int) 12 then n (k : Int) 13 else -1) := rfl
  have w9 : (0 < n (k : Int) 12 ∧ lineVal n (k : Int) 9 = n (k : Int) 13) ∨ (¬ 0 < n (k : Int) 12 ∧ lineVal n (k : Int) 9 = -1) := by
    rw [v9]
    by_cases c : 0 < n (k : Int) 12
    · rw [if_pos c]; exact Or.inl ⟨c, rfl⟩
    · rw [if_neg c]; exact Or.inr ⟨c, rfl⟩
  have c0 : n (k : Int) (16 + 0) = n (k : Int) 16 := rfl
  have c1 : n (k : Int) (16 + 1) = n (k : Int) 17 := rfl
  have c2 : n (k : Int) (16 + 2) = n (k : Int) 18 := rfl
  have c3 : n (k : Int) (16 + 3) = n (k : Int) 19 := rfl
  have c4 : n (k : Int) (16 + 4) = n (k : Int) 20 := rfl
  have c5 : n (k : Int) (16 + 5) = n (k : Int) 21 := rfl
  have c6 : n (k : Int) (16 + 6) = n (k : Int) 22 := rfl
  have c7 : n (k : Int) (16 + 7) = n (k : Int) 23 := rfl
  have c8 : n (k : Int) (16 + 8) = n (k : Int) 24 := rfl
  have c9 : n (k : Int) (16 + 9) = n (k : Int) 25 := rfl
  have c10 : n (k : Int) (16 + 10) = n (k : Int) 26 := rfl
  have z9 : (0 < n (k : Int) 9 ∧ bz (0 < n (k : Int) 9) = 1) ∨ (¬ 0 < n (k : Int) 9 ∧ bz (0 < n (k : Int) 9) = 0) := by
    by_cases c : 0 < n (k : Int) 9
    · exact Or.inl ⟨c, bz_t c⟩
    · exact Or.inr ⟨c, bz_f c⟩
  have z10 : (0 < n (k : Int) 10 ∧ bz (0 < n (k : Int) 10) = 1) ∨ (¬ 0 < n (k : Int) 10 ∧ bz (0 < n (k : Int) 10) = 0) := by
    by_cases c : 0 < n (k : Int) 10
    · exact Or.inl ⟨c, bz_t c⟩
    · exact Or.inr ⟨c, bz_f c⟩
  have z12 : (0 < n (k : Int) 12 ∧ bz (0 < n (k : Int) 12) = 1) ∨ (¬ 0 < n (k : Int) 12 ∧ bz (0 < n (k : Int) 12) = 0) := by
    by_cases c : 0 < n (k : Int) 12
    · exact Or.inl ⟨c, bz_t c⟩
    · exact Or.inr ⟨c, bz_f c⟩
  unfold LSt LS0 mkS at hT
  have hbz : True := trivial
  refine x_aload_n C eL_stands_93 rfl ?_
  refine x_iload_n C eL_stands_94 rfl ?_
  refine yV1r [] [_, _, _, _, _] C (s_X7_gap hK hN hb (by omega)) v_X7_gap vv_X7_gap s_RL_172 eL_stands_95 (fun _ _ h => WF_pick [0, 1, 2, 3, 4] rfl rfl h) (rcv 0 rfl) rfl (nle rfl) (nle rfl) (nle rfl) (nle rfl) rfl ?_
  refine x_if_ne 166 C eL_stands_98 rfl (by omega) (fun h98 => ?_) (fun h98 => ?_)
  · exfalso; omega
  · refine x_aload_n C eL_stands_101 rfl ?_
    refine x_iload_n C eL_stands_102 rfl ?_
    refine x_iconst C eL_stands_103 ?_
    refine yV2r [] [_, _, _, _, _] C (s_X7_count hK hN hb (by omega) (by decide)) v_X7_count vv_X7_count s_RL_155 eL_stands_104 (fun _ _ h => WF_pick [0, 1, 2, 3, 4] rfl rfl h) (rcv 0 rfl) rfl (nle rfl) (nle rfl) (nle rfl) (nle rfl) rfl ?_
    refine x_aload_n C eL_stands_107 rfl ?_
    refine x_iload_n C eL_stands_108 rfl ?_
    refine x_iconst C eL_stands_109 ?_
    refine yV2r [] [_, _, _, _, _] C (s_X7_count hK hN hb (by omega) (by decide)) v_X7_count vv_X7_count s_RL_155 eL_stands_110 (fun _ _ h => WF_pick [0, 1, 2, 3, 4] rfl rfl h) (rcv 0 rfl) rfl (nle rfl) (nle rfl) (nle rfl) (nle rfl) rfl ?_
    refine x_aload_n C eL_stands_113 rfl ?_
    refine x_iload_n C eL_stands_114 rfl ?_
    refine x_iconst C eL_stands_115 ?_
    refine yV2r [] [_, _, _, _, _] C (s_X7_count hK hN hb (by omega) (by decide)) v_X7_count vv_X7_count s_RL_155 eL_stands_116 (fun _ _ h => WF_pick [0, 1, 2, 3, 4] rfl rfl h) (rcv 0 rfl) rfl (nle rfl) (nle rfl) (nle rfl) (nle rfl) rfl ?_
    refine x_iadd C eL_stands_119 ?_
    refine x_aload_n C eL_stands_120 rfl ?_
    refine x_iload_n C eL_stands_121 rfl ?_
    refine x_iconst C eL_stands_122 ?_
    refine yV2r [] [_, _, _, _, _] C (s_X7_count hK hN hb (by omega) (by decide)) v_X7_count vv_X7_count s_RL_155 eL_stands_123 (fun _ _ h => WF_pick [0, 1, 2, 3, 4] rfl rfl h) (rcv 0 rfl) rfl (nle rfl) (nle rfl) (nle rfl) (nle rfl) rfl ?_
    refine x_iadd C eL_stands_126 ?_
    refine x_iload_n C eL_stands_127 rfl ?_
    refine x_iadd C eL_stands_128 ?_
    refine x_icmp_ne 166 C eL_stands_129 rfl (by omega) (by omega) (fun h129 => ?_) (fun h129 => ?_)
    · exfalso; omega
    · refine x_aload_n C eL_stands_132 rfl ?_
      refine x_iload_n C eL_stands_133 rfl ?_
      refine x_iconst C eL_stands_134 ?_
      refine yV2r [] [_, _, _, _, _] C (s_X7_count hK hN hb (by omega) (by decide)) v_X7_count vv_X7_count s_RL_155 eL_stands_135 (fun _ _ h => WF_pick [0, 1, 2, 3, 4] rfl rfl h) (rcv 0 rfl) rfl (nle rfl) (nle rfl) (nle rfl) (nle rfl) rfl ?_
      refine x_aload_n C eL_stands_138 rfl ?_
      refine x_iload_n C eL_stands_139 rfl ?_
      refine x_iconst C eL_stands_140 ?_
      refine yV2r [] [_, _, _, _, _] C (s_X7_count hK hN hb (by omega) (by decide)) v_X7_count vv_X7_count s_RL_155 eL_stands_141 (fun _ _ h => WF_pick [0, 1, 2, 3, 4] rfl rfl h) (rcv 0 rfl) rfl (nle rfl) (nle rfl) (nle rfl) (nle rfl) rfl ?_
      refine x_aload_n C eL_stands_144 rfl ?_
      refine x_iload_n C eL_stands_145 rfl ?_
      refine x_bipush C eL_stands_146 rfl ?_
      refine yV2r [] [_, _, _, _, _] C (s_X7_count hK hN hb (by omega) (by decide)) v_X7_count vv_X7_count s_RL_155 eL_stands_148 (fun _ _ h => WF_pick [0, 1, 2, 3, 4] rfl rfl h) (rcv 0 rfl) rfl (nle rfl) (nle rfl) (nle rfl) (nle rfl) rfl ?_
      refine x_iadd C eL_stands_151 ?_
      refine x_aload_n C eL_stands_152 rfl ?_
      refine x_iload_n C eL_stands_153 rfl ?_
      refine x_bipush C eL_stands_154 rfl ?_
      refine yV2r [] [_, _, _, _, _] C (s_X7_count hK hN hb (by omega) (by decide)) v_X7_count vv_X7_count s_RL_155 eL_stands_156 (fun _ _ h => WF_pick [0, 1, 2, 3, 4] rfl rfl h) (rcv 0 rfl) rfl (nle rfl) (nle rfl) (nle rfl) (nle rfl) rfl ?_
      refine x_iadd C eL_stands_159 ?_
      refine x_iload C eL_stands_160 rfl ?_
      refine x_iadd C eL_stands_162 ?_
      refine x_icmp_eq 168 C eL_stands_163 rfl (by omega) (by omega) (fun h163 => ?_) (fun h163 => ?_)
      · exact K
      · exfalso; omega

set_option maxHeartbeats 4000000 in
set_option maxRecDepth 100000 in
theorem z_st_168 {G : Gm} {X : Cx} {l : Launch} (hK : KG G) {e ip op t tr ps pa sl al lg : Nat} {J : Nat → Int} {M : Pool} {L : Int → Nat} {n : Net} {b : Int} {k : Nat} {S : Int} (C : OKc G X l RL "stands" cL_stands 5 (some .boolean) 5 0 0) (hN : NetOk b n) (hb : b ≤ 900000000) (hs : SOK n) (hk : (k : Int) < n (-1) 0) (hS : 0 ≤ S ∧ S ≤ n (-1) 4) (K : WX G X 0 0 [ob e 9 (ecS ip op t tr ps pa sl) J, ob t 8 (tkS al lg) (tkI n), arR G 5 al 6 (fun j => some (L (j : Int))), LF G M L n, LOG G lg n] 216 [some (.ref e), some (.int (zI S)), some (.int (zI (k : Int))), some (.int (zI (lineVal n (k : Int) 5))), some (.int (zI (lineVal n (k : Int) 6)))] []) : WX G X 0 0 [ob e 9 (ecS ip op t tr ps pa sl) J, ob t 8 (tkS al lg) (tkI n), arR G 5 al 6 (fun j => some (L (j : Int))), LF G M L n, LOG G lg n] 168 [some (.ref e), some (.int (zI S)), some (.int (zI (k : Int))), some (.int (zI (lineVal n (k : Int) 5))), some (.int (zI (lineVal n (k : Int) 6)))] [] := by
  have hH := hN.1
  unfold HeadOk at hH
  have hk9 : (0 : Int) ≤ (k : Int) := by omega
  have hT := hs.2 (k : Int) hk9 hk
  have hL := hN.2.2 (k : Int) (by omega) (by omega)
  have r16 := LineOk_c hL (k := 16) (by decide) (by decide)
  have r17 := LineOk_c hL (k := 17) (by decide) (by decide)
  have r18 := LineOk_c hL (k := 18) (by decide) (by decide)
  have r19 := LineOk_c hL (k := 19) (by decide) (by decide)
  have r20 := LineOk_c hL (k := 20) (by decide) (by decide)
  have r21 := LineOk_c hL (k := 21) (by decide) (by decide)
  have r22 := LineOk_c hL (k := 22) (by decide) (by decide)
  have r23 := LineOk_c hL (k := 23) (by decide) (by decide)
  have r24 := LineOk_c hL (k := 24) (by decide) (by decide)
  have r25 := LineOk_c hL (k := 25) (by decide) (by decide)
  have r26 := LineOk_c hL (k := 26) (by decide) (by decide)
  unfold LineOk at hL
  have v0 : lineVal n (k : Int) 0 = n (k : Int) 1 := rfl
  have v1 : lineVal n (k : Int) 1 = n (k : Int) 2 := rfl
  have v2 : lineVal n (k : Int) 2 = n (k : Int) 3 := rfl
  have v3 : lineVal n (k : Int) 3 = n (k : Int) 4 := rfl
  have v4 : lineVal n (k : Int) 4 = n (k : Int) 5 := rfl
  have v5 : lineVal n (k : Int) 5 = n (k : Int) 6 := rfl
  have v6 : lineVal n (k : Int) 6 = n (k : Int) 7 := rfl
  have v7 : lineVal n (k : Int) 7 = n (k : Int) 8 := rfl
  have v8 : lineVal n (k : Int) 8 = n (k : Int) 9 := rfl
  have v10 : lineVal n (k : Int) 10 = n (k : Int) 12 := rfl
  have v9 : lineVal n (k : Int) 9 = (if 0 < n (k : Int) 12 then n (k : Int) 13 else -1) := rfl
  have w9 : (0 < n (k : Int) 12 ∧ lineVal n (k : Int) 9 = n (k : Int) 13) ∨ (¬ 0 < n (k : Int) 12 ∧ lineVal n (k : Int) 9 = -1) := by
    rw [v9]
    by_cases c : 0 < n (k : Int) 12
    · rw [if_pos c]; exact Or.inl ⟨c, rfl⟩
    · rw [if_neg c]; exact Or.inr ⟨c, rfl⟩
  have c0 : n (k : Int) (16 + 0) = n (k : Int) 16 := rfl
  have c1 : n (k : Int) (16 + 1) = n (k : Int) 17 := rfl
  have c2 : n (k : Int) (16 + 2) = n (k : Int) 18 := rfl
  have c3 : n (k : Int) (16 + 3) = n (k : Int) 19 := rfl
  have c4 : n (k : Int) (16 + 4) = n (k : Int) 20 := rfl
  have c5 : n (k : Int) (16 + 5) = n (k : Int) 21 := rfl
  have c6 : n (k : Int) (16 + 6) = n (k : Int) 22 := rfl
  have c7 : n (k : Int) (16 + 7) = n (k : Int) 23 := rfl
  have c8 : n (k : Int) (16 + 8) = n (k : Int) 24 := rfl
  have c9 : n (k : Int) (16 + 9) = n (k : Int) 25 := rfl
  have c10 : n (k : Int) (16 + 10) = n (k : Int) 26 := rfl
  have z9 : (0 < n (k : Int) 9 ∧ bz (0 < n (k : Int) 9) = 1) ∨ (¬ 0 < n (k : Int) 9 ∧ bz (0 < n (k : Int) 9) = 0) := by
    by_cases c : 0 < n (k : Int) 9
    · exact Or.inl ⟨c, bz_t c⟩
    · exact Or.inr ⟨c, bz_f c⟩
  have z10 : (0 < n (k : Int) 10 ∧ bz (0 < n (k : Int) 10) = 1) ∨ (¬ 0 < n (k : Int) 10 ∧ bz (0 < n (k : Int) 10) = 0) := by
    by_cases c : 0 < n (k : Int) 10
    · exact Or.inl ⟨c, bz_t c⟩
    · exact Or.inr ⟨c, bz_f c⟩
  have z12 : (0 < n (k : Int) 12 ∧ bz (0 < n (k : Int) 12) = 1) ∨ (¬ 0 < n (k : Int) 12 ∧ bz (0 < n (k : Int) 12) = 0) := by
    by_cases c : 0 < n (k : Int) 12
    · exact Or.inl ⟨c, bz_t c⟩
    · exact Or.inr ⟨c, bz_f c⟩
  unfold LSt LS0 mkS at hT
  have hbz : True := trivial
  refine x_iload_n C eL_stands_168 rfl ?_
  refine x_aload_n C eL_stands_169 rfl ?_
  refine x_iload_n C eL_stands_170 rfl ?_
  refine x_iconst C eL_stands_171 ?_
  refine yV2r [] [_, _, _, _, _] C (s_X7_line hK hN hb (by omega) (by decide)) v_X7_line vv_X7_line s_RL_143 eL_stands_172 (fun _ _ h => WF_pick [0, 1, 2, 3, 4] rfl rfl h) (rcv 0 rfl) rfl (nle rfl) (nle rfl) (nle rfl) (nle rfl) rfl ?_
  refine x_icmp_lt 191 C eL_stands_175 rfl (by omega) (by omega) (fun h175 => ?_) (fun h175 => ?_)
  · refine x_iload_n C eL_stands_191 rfl ?_
    refine x_aload_n C eL_stands_192 rfl ?_
    refine x_iload_n C eL_stands_193 rfl ?_
    refine x_iconst C eL_stands_194 ?_
    refine yV2r [] [_, _, _, _, _] C (s_X7_line hK hN hb (by omega) (by decide)) v_X7_line vv_X7_line s_RL_143 eL_stands_195 (fun _ _ h => WF_pick [0, 1, 2, 3, 4] rfl rfl h) (rcv 0 rfl) rfl (nle rfl) (nle rfl) (nle rfl) (nle rfl) rfl ?_
    refine x_icmp_gt 216 C eL_stands_198 rfl (by omega) (by omega) (fun h198 => ?_) (fun h198 => ?_)
    · exact K
    · refine x_aload_n C eL_stands_201 rfl ?_
      refine x_bipush C eL_stands_202 rfl ?_
      refine yV1r [] [_, _, _, _, _] C (s_X7_property hK hN hb (by decide)) v_X7_property vv_X7_property s_RL_99 eL_stands_204 (fun _ _ h => WF_pick [0, 1, 2, 3, 4] rfl rfl h) (rcv 0 rfl) rfl (nle rfl) (nle rfl) (nle rfl) (nle rfl) rfl ?_
      rw [show propVal n 8 = thoseV n 10 (n (-1) 0).toNat from rfl]
      refine x_iload_n C eL_stands_207 rfl ?_
      refine yS2r [_, _, _, _, _] [_, _, _, _, _] C (z_is hK (by omega) (by omega)) v_L_is vs_L_is s_RL_175 eL_stands_208 (fun _ _ h => WF_pick [0, 1, 2, 3, 4] rfl rfl h) rfl (nle rfl) (nle rfl) (nle rfl) (nle rfl) rfl ?_
      refine x_ifb_eq 216 C eL_stands_211 rfl (fun h211 => ?_) (fun h211 => ?_)
      · exact K
      · exfalso; omega
  · refine x_aload_n C eL_stands_178 rfl ?_
    refine x_bipush C eL_stands_179 rfl ?_
    refine yV1r [] [_, _, _, _, _] C (s_X7_property hK hN hb (by decide)) v_X7_property vv_X7_property s_RL_99 eL_stands_181 (fun _ _ h => WF_pick [0, 1, 2, 3, 4] rfl rfl h) (rcv 0 rfl) rfl (nle rfl) (nle rfl) (nle rfl) (nle rfl) rfl ?_
    rw [show propVal n 8 = thoseV n 10 (n (-1) 0).toNat from rfl]
    refine x_iload_n C eL_stands_184 rfl ?_
    refine yS2r [_, _, _, _, _] [_, _, _, _, _] C (z_is hK (by omega) (by omega)) v_L_is vs_L_is s_RL_175 eL_stands_185 (fun _ _ h => WF_pick [0, 1, 2, 3, 4] rfl rfl h) rfl (nle rfl) (nle rfl) (nle rfl) (nle rfl) rfl ?_
    refine x_ifb_eq 214 C eL_stands_188 rfl (fun h188 => ?_) (fun h188 => ?_)
    · exfalso; omega
    · refine x_iload_n C eL_stands_191 rfl ?_
      refine x_aload_n C eL_stands_192 rfl ?_
      refine x_iload_n C eL_stands_193 rfl ?_
      refine x_iconst C eL_stands_194 ?_
      refine yV2r [] [_, _, _, _, _] C (s_X7_line hK hN hb (by omega) (by decide)) v_X7_line vv_X7_line s_RL_143 eL_stands_195 (fun _ _ h => WF_pick [0, 1, 2, 3, 4] rfl rfl h) (rcv 0 rfl) rfl (nle rfl) (nle rfl) (nle rfl) (nle rfl) rfl ?_
      refine x_icmp_gt 216 C eL_stands_198 rfl (by omega) (by omega) (fun h198 => ?_) (fun h198 => ?_)
      · exact K
      · refine x_aload_n C eL_stands_201 rfl ?_
        refine x_bipush C eL_stands_202 rfl ?_
        refine yV1r [] [_, _, _, _, _] C (s_X7_property hK hN hb (by decide)) v_X7_property vv_X7_property s_RL_99 eL_stands_204 (fun _ _ h => WF_pick [0, 1, 2, 3, 4] rfl rfl h) (rcv 0 rfl) rfl (nle rfl) (nle rfl) (nle rfl) (nle rfl) rfl ?_
        rw [show propVal n 8 = thoseV n 10 (n (-1) 0).toNat from rfl]
        refine x_iload_n C eL_stands_207 rfl ?_
        refine yS2r [_, _, _, _, _] [_, _, _, _, _] C (z_is hK (by omega) (by omega)) v_L_is vs_L_is s_RL_175 eL_stands_208 (fun _ _ h => WF_pick [0, 1, 2, 3, 4] rfl rfl h) rfl (nle rfl) (nle rfl) (nle rfl) (nle rfl) rfl ?_
        refine x_ifb_eq 216 C eL_stands_211 rfl (fun h211 => ?_) (fun h211 => ?_)
        · exact K
        · exfalso; omega

set_option maxHeartbeats 4000000 in
set_option maxRecDepth 100000 in
theorem z_st_216 {G : Gm} {X : Cx} {l : Launch} (hK : KG G) {e ip op t tr ps pa sl al lg : Nat} {J : Nat → Int} {M : Pool} {L : Int → Nat} {n : Net} {b : Int} {k : Nat} {S : Int} (C : OKc G X l RL "stands" cL_stands 5 (some .boolean) 5 0 0) (hN : NetOk b n) (hb : b ≤ 900000000) (hs : SOK n) (hk : (k : Int) < n (-1) 0) (hS : 0 ≤ S ∧ S ≤ n (-1) 4) (K : WX G X 0 0 [ob e 9 (ecS ip op t tr ps pa sl) J, ob t 8 (tkS al lg) (tkI n), arR G 5 al 6 (fun j => some (L (j : Int))), LF G M L n, LOG G lg n] 244 [some (.ref e), some (.int (zI S)), some (.int (zI (k : Int))), some (.int (zI (lineVal n (k : Int) 5))), some (.int (zI (lineVal n (k : Int) 6)))] []) : WX G X 0 0 [ob e 9 (ecS ip op t tr ps pa sl) J, ob t 8 (tkS al lg) (tkI n), arR G 5 al 6 (fun j => some (L (j : Int))), LF G M L n, LOG G lg n] 216 [some (.ref e), some (.int (zI S)), some (.int (zI (k : Int))), some (.int (zI (lineVal n (k : Int) 5))), some (.int (zI (lineVal n (k : Int) 6)))] [] := by
  have hH := hN.1
  unfold HeadOk at hH
  have hk9 : (0 : Int) ≤ (k : Int) := by omega
  have hT := hs.2 (k : Int) hk9 hk
  have hL := hN.2.2 (k : Int) (by omega) (by omega)
  have r16 := LineOk_c hL (k := 16) (by decide) (by decide)
  have r17 := LineOk_c hL (k := 17) (by decide) (by decide)
  have r18 := LineOk_c hL (k := 18) (by decide) (by decide)
  have r19 := LineOk_c hL (k := 19) (by decide) (by decide)
  have r20 := LineOk_c hL (k := 20) (by decide) (by decide)
  have r21 := LineOk_c hL (k := 21) (by decide) (by decide)
  have r22 := LineOk_c hL (k := 22) (by decide) (by decide)
  have r23 := LineOk_c hL (k := 23) (by decide) (by decide)
  have r24 := LineOk_c hL (k := 24) (by decide) (by decide)
  have r25 := LineOk_c hL (k := 25) (by decide) (by decide)
  have r26 := LineOk_c hL (k := 26) (by decide) (by decide)
  unfold LineOk at hL
  have v0 : lineVal n (k : Int) 0 = n (k : Int) 1 := rfl
  have v1 : lineVal n (k : Int) 1 = n (k : Int) 2 := rfl
  have v2 : lineVal n (k : Int) 2 = n (k : Int) 3 := rfl
  have v3 : lineVal n (k : Int) 3 = n (k : Int) 4 := rfl
  have v4 : lineVal n (k : Int) 4 = n (k : Int) 5 := rfl
  have v5 : lineVal n (k : Int) 5 = n (k : Int) 6 := rfl
  have v6 : lineVal n (k : Int) 6 = n (k : Int) 7 := rfl
  have v7 : lineVal n (k : Int) 7 = n (k : Int) 8 := rfl
  have v8 : lineVal n (k : Int) 8 = n (k : Int) 9 := rfl
  have v10 : lineVal n (k : Int) 10 = n (k : Int) 12 := rfl
  have v9 : lineVal n (k : Int) 9 = (if 0 < n (k : Int) 12 then n (k : Int) 13 else -1) := rfl
  have w9 : (0 < n (k : Int) 12 ∧ lineVal n (k : Int) 9 = n (k : Int) 13) ∨ (¬ 0 < n (k : Int) 12 ∧ lineVal n (k : Int) 9 = -1) := by
    rw [v9]
    by_cases c : 0 < n (k : Int) 12
    · rw [if_pos c]; exact Or.inl ⟨c, rfl⟩
    · rw [if_neg c]; exact Or.inr ⟨c, rfl⟩
  have c0 : n (k : Int) (16 + 0) = n (k : Int) 16 := rfl
  have c1 : n (k : Int) (16 + 1) = n (k : Int) 17 := rfl
  have c2 : n (k : Int) (16 + 2) = n (k : Int) 18 := rfl
  have c3 : n (k : Int) (16 + 3) = n (k : Int) 19 := rfl
  have c4 : n (k : Int) (16 + 4) = n (k : Int) 20 := rfl
  have c5 : n (k : Int) (16 + 5) = n (k : Int) 21 := rfl
  have c6 : n (k : Int) (16 + 6) = n (k : Int) 22 := rfl
  have c7 : n (k : Int) (16 + 7) = n (k : Int) 23 := rfl
  have c8 : n (k : Int) (16 + 8) = n (k : Int) 24 := rfl
  have c9 : n (k : Int) (16 + 9) = n (k : Int) 25 := rfl
  have c10 : n (k : Int) (16 + 10) = n (k : Int) 26 := rfl
  have z9 : (0 < n (k : Int) 9 ∧ bz (0 < n (k : Int) 9) = 1) ∨ (¬ 0 < n (k : Int) 9 ∧ bz (0 < n (k : Int) 9) = 0) := by
    by_cases c : 0 < n (k : Int) 9
    · exact Or.inl ⟨c, bz_t c⟩
    · exact Or.inr ⟨c, bz_f c⟩
  have z10 : (0 < n (k : Int) 10 ∧ bz (0 < n (k : Int) 10) = 1) ∨ (¬ 0 < n (k : Int) 10 ∧ bz (0 < n (k : Int) 10) = 0) := by
    by_cases c : 0 < n (k : Int) 10
    · exact Or.inl ⟨c, bz_t c⟩
    · exact Or.inr ⟨c, bz_f c⟩
  have z12 : (0 < n (k : Int) 12 ∧ bz (0 < n (k : Int) 12) = 1) ∨ (¬ 0 < n (k : Int) 12 ∧ bz (0 < n (k : Int) 12) = 0) := by
    by_cases c : 0 < n (k : Int) 12
    · exact Or.inl ⟨c, bz_t c⟩
    · exact Or.inr ⟨c, bz_f c⟩
  unfold LSt LS0 mkS at hT
  have hbz : True := trivial
  refine x_aload_n C eL_stands_216 rfl ?_
  refine x_bipush C eL_stands_217 rfl ?_
  refine yV1r [] [_, _, _, _, _] C (s_X7_property hK hN hb (by decide)) v_X7_property vv_X7_property s_RL_99 eL_stands_219 (fun _ _ h => WF_pick [0, 1, 2, 3, 4] rfl rfl h) (rcv 0 rfl) rfl (nle rfl) (nle rfl) (nle rfl) (nle rfl) rfl ?_
  rw [show propVal n 7 = thoseV n 9 (n (-1) 0).toNat from rfl]
  refine x_iload_n C eL_stands_222 rfl ?_
  refine yS2r [_, _, _, _, _] [_, _, _, _, _] C (z_is hK (by omega) (by omega)) v_L_is vs_L_is s_RL_175 eL_stands_223 (fun _ _ h => WF_pick [0, 1, 2, 3, 4] rfl rfl h) rfl (nle rfl) (nle rfl) (nle rfl) (nle rfl) rfl ?_
  refine x_aload_n C eL_stands_226 rfl ?_
  refine x_iload_n C eL_stands_227 rfl ?_
  refine x_bipush C eL_stands_228 rfl ?_
  refine yV2r [] [_, _, _, _, _] C (s_X7_line hK hN hb (by omega) (by decide)) v_X7_line vv_X7_line s_RL_143 eL_stands_230 (fun _ _ h => WF_pick [0, 1, 2, 3, 4] rfl rfl h) (rcv 0 rfl) rfl (nle rfl) (nle rfl) (nle rfl) (nle rfl) rfl ?_
  refine x_if_le 240 C eL_stands_233 rfl (by omega) (fun h233 => ?_) (fun h233 => ?_)
  · refine x_iconst C eL_stands_240 ?_
    refine x_icmp_ne 332 C eL_stands_241 rfl (by omega) (by omega) (fun h241 => ?_) (fun h241 => ?_)
    · exfalso; omega
    · exact K
  · refine x_iconst C eL_stands_236 ?_
    refine x_goto (pc' := 241) C eL_stands_237 rfl ?_
    refine x_icmp_ne 332 C eL_stands_241 rfl (by omega) (by omega) (fun h241 => ?_) (fun h241 => ?_)
    · exfalso; omega
    · exact K

set_option maxHeartbeats 4000000 in
set_option maxRecDepth 100000 in
theorem z_st_244 {G : Gm} {X : Cx} {l : Launch} (hK : KG G) {e ip op t tr ps pa sl al lg : Nat} {J : Nat → Int} {M : Pool} {L : Int → Nat} {n : Net} {b : Int} {k : Nat} {S : Int} (C : OKc G X l RL "stands" cL_stands 5 (some .boolean) 5 0 0) (hN : NetOk b n) (hb : b ≤ 900000000) (hs : SOK n) (hk : (k : Int) < n (-1) 0) (hS : 0 ≤ S ∧ S ≤ n (-1) 4) (K : WX G X 0 0 [ob e 9 (ecS ip op t tr ps pa sl) J, ob t 8 (tkS al lg) (tkI n), arR G 5 al 6 (fun j => some (L (j : Int))), LF G M L n, LOG G lg n] 272 [some (.ref e), some (.int (zI S)), some (.int (zI (k : Int))), some (.int (zI (lineVal n (k : Int) 5))), some (.int (zI (lineVal n (k : Int) 6)))] []) : WX G X 0 0 [ob e 9 (ecS ip op t tr ps pa sl) J, ob t 8 (tkS al lg) (tkI n), arR G 5 al 6 (fun j => some (L (j : Int))), LF G M L n, LOG G lg n] 244 [some (.ref e), some (.int (zI S)), some (.int (zI (k : Int))), some (.int (zI (lineVal n (k : Int) 5))), some (.int (zI (lineVal n (k : Int) 6)))] [] := by
  have hH := hN.1
  unfold HeadOk at hH
  have hk9 : (0 : Int) ≤ (k : Int) := by omega
  have hT := hs.2 (k : Int) hk9 hk
  have hL := hN.2.2 (k : Int) (by omega) (by omega)
  have r16 := LineOk_c hL (k := 16) (by decide) (by decide)
  have r17 := LineOk_c hL (k := 17) (by decide) (by decide)
  have r18 := LineOk_c hL (k := 18) (by decide) (by decide)
  have r19 := LineOk_c hL (k := 19) (by decide) (by decide)
  have r20 := LineOk_c hL (k := 20) (by decide) (by decide)
  have r21 := LineOk_c hL (k := 21) (by decide) (by decide)
  have r22 := LineOk_c hL (k := 22) (by decide) (by decide)
  have r23 := LineOk_c hL (k := 23) (by decide) (by decide)
  have r24 := LineOk_c hL (k := 24) (by decide) (by decide)
  have r25 := LineOk_c hL (k := 25) (by decide) (by decide)
  have r26 := LineOk_c hL (k := 26) (by decide) (by decide)
  unfold LineOk at hL
  have v0 : lineVal n (k : Int) 0 = n (k : Int) 1 := rfl
  have v1 : lineVal n (k : Int) 1 = n (k : Int) 2 := rfl
  have v2 : lineVal n (k : Int) 2 = n (k : Int) 3 := rfl
  have v3 : lineVal n (k : Int) 3 = n (k : Int) 4 := rfl
  have v4 : lineVal n (k : Int) 4 = n (k : Int) 5 := rfl
  have v5 : lineVal n (k : Int) 5 = n (k : Int) 6 := rfl
  have v6 : lineVal n (k : Int) 6 = n (k : Int) 7 := rfl
  have v7 : lineVal n (k : Int) 7 = n (k : Int) 8 := rfl
  have v8 : lineVal n (k : Int) 8 = n (k : Int) 9 := rfl
  have v10 : lineVal n (k : Int) 10 = n (k : Int) 12 := rfl
  have v9 : lineVal n (k : Int) 9 = (if 0 < n (k : Int) 12 then n (k : Int) 13 else -1) := rfl
  have w9 : (0 < n (k : Int) 12 ∧ lineVal n (k : Int) 9 = n (k : Int) 13) ∨ (¬ 0 < n (k : Int) 12 ∧ lineVal n (k : Int) 9 = -1) := by
    rw [v9]
    by_cases c : 0 < n (k : Int) 12
    · rw [if_pos c]; exact Or.inl ⟨c, rfl⟩
    · rw [if_neg c]; exact Or.inr ⟨c, rfl⟩
  have c0 : n (k : Int) (16 + 0) = n (k : Int) 16 := rfl
  have c1 : n (k : Int) (16 + 1) = n (k : Int) 17 := rfl
  have c2 : n (k : Int) (16 + 2) = n (k : Int) 18 := rfl
  have c3 : n (k : Int) (16 + 3) = n (k : Int) 19 := rfl
  have c4 : n (k : Int) (16 + 4) = n (k : Int) 20 := rfl
  have c5 : n (k : Int) (16 + 5) = n (k : Int) 21 := rfl
  have c6 : n (k : Int) (16 + 6) = n (k : Int) 22 := rfl
  have c7 : n (k : Int) (16 + 7) = n (k : Int) 23 := rfl
  have c8 : n (k : Int) (16 + 8) = n (k : Int) 24 := rfl
  have c9 : n (k : Int) (16 + 9) = n (k : Int) 25 := rfl
  have c10 : n (k : Int) (16 + 10) = n (k : Int) 26 := rfl
  have z9 : (0 < n (k : Int) 9 ∧ bz (0 < n (k : Int) 9) = 1) ∨ (¬ 0 < n (k : Int) 9 ∧ bz (0 < n (k : Int) 9) = 0) := by
    by_cases c : 0 < n (k : Int) 9
    · exact Or.inl ⟨c, bz_t c⟩
    · exact Or.inr ⟨c, bz_f c⟩
  have z10 : (0 < n (k : Int) 10 ∧ bz (0 < n (k : Int) 10) = 1) ∨ (¬ 0 < n (k : Int) 10 ∧ bz (0 < n (k : Int) 10) = 0) := by
    by_cases c : 0 < n (k : Int) 10
    · exact Or.inl ⟨c, bz_t c⟩
    · exact Or.inr ⟨c, bz_f c⟩
  have z12 : (0 < n (k : Int) 12 ∧ bz (0 < n (k : Int) 12) = 1) ∨ (¬ 0 < n (k : Int) 12 ∧ bz (0 < n (k : Int) 12) = 0) := by
    by_cases c : 0 < n (k : Int) 12
    · exact Or.inl ⟨c, bz_t c⟩
    · exact Or.inr ⟨c, bz_f c⟩
  unfold LSt LS0 mkS at hT
  have hbz : True := trivial
  refine x_aload_n C eL_stands_244 rfl ?_
  refine x_bipush C eL_stands_245 rfl ?_
  refine yV1r [] [_, _, _, _, _] C (s_X7_property hK hN hb (by decide)) v_X7_property vv_X7_property s_RL_99 eL_stands_247 (fun _ _ h => WF_pick [0, 1, 2, 3, 4] rfl rfl h) (rcv 0 rfl) rfl (nle rfl) (nle rfl) (nle rfl) (nle rfl) rfl ?_
  rw [show propVal n 10 = thoseV n 12 (n (-1) 0).toNat from rfl]
  refine x_iload_n C eL_stands_250 rfl ?_
  refine yS2r [_, _, _, _, _] [_, _, _, _, _] C (z_is hK (by omega) (by omega)) v_L_is vs_L_is s_RL_175 eL_stands_251 (fun _ _ h => WF_pick [0, 1, 2, 3, 4] rfl rfl h) rfl (nle rfl) (nle rfl) (nle rfl) (nle rfl) rfl ?_
  refine x_aload_n C eL_stands_254 rfl ?_
  refine x_iload_n C eL_stands_255 rfl ?_
  refine x_bipush C eL_stands_256 rfl ?_
  refine yV2r [] [_, _, _, _, _] C (s_X7_line hK hN hb (by omega) (by decide)) v_X7_line vv_X7_line s_RL_143 eL_stands_258 (fun _ _ h => WF_pick [0, 1, 2, 3, 4] rfl rfl h) (rcv 0 rfl) rfl (nle rfl) (nle rfl) (nle rfl) (nle rfl) rfl ?_
  refine x_if_le 268 C eL_stands_261 rfl (by omega) (fun h261 => ?_) (fun h261 => ?_)
  · refine x_iconst C eL_stands_268 ?_
    refine x_icmp_ne 332 C eL_stands_269 rfl (by omega) (by omega) (fun h269 => ?_) (fun h269 => ?_)
    · exfalso; omega
    · exact K
  · refine x_iconst C eL_stands_264 ?_
    refine x_goto (pc' := 269) C eL_stands_265 rfl ?_
    refine x_icmp_ne 332 C eL_stands_269 rfl (by omega) (by omega) (fun h269 => ?_) (fun h269 => ?_)
    · exfalso; omega
    · exact K

set_option maxHeartbeats 4000000 in
set_option maxRecDepth 100000 in
theorem z_st_272 {G : Gm} {X : Cx} {l : Launch} (hK : KG G) {e ip op t tr ps pa sl al lg : Nat} {J : Nat → Int} {M : Pool} {L : Int → Nat} {n : Net} {b : Int} {k : Nat} {S : Int} (C : OKc G X l RL "stands" cL_stands 5 (some .boolean) 5 0 0) (hN : NetOk b n) (hb : b ≤ 900000000) (hs : SOK n) (hk : (k : Int) < n (-1) 0) (hS : 0 ≤ S ∧ S ≤ n (-1) 4) (K : WX G X 0 0 [ob e 9 (ecS ip op t tr ps pa sl) J, ob t 8 (tkS al lg) (tkI n), arR G 5 al 6 (fun j => some (L (j : Int))), LF G M L n, LOG G lg n] 305 [some (.ref e), some (.int (zI S)), some (.int (zI (k : Int))), some (.int (zI (lineVal n (k : Int) 5))), some (.int (zI (lineVal n (k : Int) 6)))] []) : WX G X 0 0 [ob e 9 (ecS ip op t tr ps pa sl) J, ob t 8 (tkS al lg) (tkI n), arR G 5 al 6 (fun j => some (L (j : Int))), LF G M L n, LOG G lg n] 272 [some (.ref e), some (.int (zI S)), some (.int (zI (k : Int))), some (.int (zI (lineVal n (k : Int) 5))), some (.int (zI (lineVal n (k : Int) 6)))] [] := by
  have hH := hN.1
  unfold HeadOk at hH
  have hk9 : (0 : Int) ≤ (k : Int) := by omega
  have hT := hs.2 (k : Int) hk9 hk
  have hL := hN.2.2 (k : Int) (by omega) (by omega)
  have r16 := LineOk_c hL (k := 16) (by decide) (by decide)
  have r17 := LineOk_c hL (k := 17) (by decide) (by decide)
  have r18 := LineOk_c hL (k := 18) (by decide) (by decide)
  have r19 := LineOk_c hL (k := 19) (by decide) (by decide)
  have r20 := LineOk_c hL (k := 20) (by decide) (by decide)
  have r21 := LineOk_c hL (k := 21) (by decide) (by decide)
  have r22 := LineOk_c hL (k := 22) (by decide) (by decide)
  have r23 := LineOk_c hL (k := 23) (by decide) (by decide)
  have r24 := LineOk_c hL (k := 24) (by decide) (by decide)
  have r25 := LineOk_c hL (k := 25) (by decide) (by decide)
  have r26 := LineOk_c hL (k := 26) (by decide) (by decide)
  unfold LineOk at hL
  have v0 : lineVal n (k : Int) 0 = n (k : Int) 1 := rfl
  have v1 : lineVal n (k : Int) 1 = n (k : Int) 2 := rfl
  have v2 : lineVal n (k : Int) 2 = n (k : Int) 3 := rfl
  have v3 : lineVal n (k : Int) 3 = n (k : Int) 4 := rfl
  have v4 : lineVal n (k : Int) 4 = n (k : Int) 5 := rfl
  have v5 : lineVal n (k : Int) 5 = n (k : Int) 6 := rfl
  have v6 : lineVal n (k : Int) 6 = n (k : Int) 7 := rfl
  have v7 : lineVal n (k : Int) 7 = n (k : Int) 8 := rfl
  have v8 : lineVal n (k : Int) 8 = n (k : Int) 9 := rfl
  have v10 : lineVal n (k : Int) 10 = n (k : Int) 12 := rfl
  have v9 : lineVal n (k : Int) 9 = (if 0 < n (k : Int) 12 then n (k : Int) 13 else -1) := rfl
  have w9 : (0 < n (k : Int) 12 ∧ lineVal n (k : Int) 9 = n (k : Int) 13) ∨ (¬ 0 < n (k : Int) 12 ∧ lineVal n (k : Int) 9 = -1) := by
    rw [v9]
    by_cases c : 0 < n (k : Int) 12
    · rw [if_pos c]; exact Or.inl ⟨c, rfl⟩
    · rw [if_neg c]; exact Or.inr ⟨c, rfl⟩
  have c0 : n (k : Int) (16 + 0) = n (k : Int) 16 := rfl
  have c1 : n (k : Int) (16 + 1) = n (k : Int) 17 := rfl
  have c2 : n (k : Int) (16 + 2) = n (k : Int) 18 := rfl
  have c3 : n (k : Int) (16 + 3) = n (k : Int) 19 := rfl
  have c4 : n (k : Int) (16 + 4) = n (k : Int) 20 := rfl
  have c5 : n (k : Int) (16 + 5) = n (k : Int) 21 := rfl
  have c6 : n (k : Int) (16 + 6) = n (k : Int) 22 := rfl
  have c7 : n (k : Int) (16 + 7) = n (k : Int) 23 := rfl
  have c8 : n (k : Int) (16 + 8) = n (k : Int) 24 := rfl
  have c9 : n (k : Int) (16 + 9) = n (k : Int) 25 := rfl
  have c10 : n (k : Int) (16 + 10) = n (k : Int) 26 := rfl
  have z9 : (0 < n (k : Int) 9 ∧ bz (0 < n (k : Int) 9) = 1) ∨ (¬ 0 < n (k : Int) 9 ∧ bz (0 < n (k : Int) 9) = 0) := by
    by_cases c : 0 < n (k : Int) 9
    · exact Or.inl ⟨c, bz_t c⟩
    · exact Or.inr ⟨c, bz_f c⟩
  have z10 : (0 < n (k : Int) 10 ∧ bz (0 < n (k : Int) 10) = 1) ∨ (¬ 0 < n (k : Int) 10 ∧ bz (0 < n (k : Int) 10) = 0) := by
    by_cases c : 0 < n (k : Int) 10
    · exact Or.inl ⟨c, bz_t c⟩
    · exact Or.inr ⟨c, bz_f c⟩
  have z12 : (0 < n (k : Int) 12 ∧ bz (0 < n (k : Int) 12) = 1) ∨ (¬ 0 < n (k : Int) 12 ∧ bz (0 < n (k : Int) 12) = 0) := by
    by_cases c : 0 < n (k : Int) 12
    · exact Or.inl ⟨c, bz_t c⟩
    · exact Or.inr ⟨c, bz_f c⟩
  unfold LSt LS0 mkS at hT
  have hbz : True := trivial
  refine x_aload_n C eL_stands_272 rfl ?_
  refine x_iload_n C eL_stands_273 rfl ?_
  refine x_bipush C eL_stands_274 rfl ?_
  refine yV2r [] [_, _, _, _, _] C (s_X7_line hK hN hb (by omega) (by decide)) v_X7_line vv_X7_line s_RL_143 eL_stands_276 (fun _ _ h => WF_pick [0, 1, 2, 3, 4] rfl rfl h) (rcv 0 rfl) rfl (nle rfl) (nle rfl) (nle rfl) (nle rfl) rfl ?_
  refine x_if_lt 286 C eL_stands_279 rfl (by omega) (fun h279 => ?_) (fun h279 => ?_)
  · refine x_iconst C eL_stands_286 ?_
    refine x_aload_n C eL_stands_287 rfl ?_
    refine x_iload_n C eL_stands_288 rfl ?_
    refine x_bipush C eL_stands_289 rfl ?_
    refine yV2r [] [_, _, _, _, _] C (s_X7_line hK hN hb (by omega) (by decide)) v_X7_line vv_X7_line s_RL_143 eL_stands_291 (fun _ _ h => WF_pick [0, 1, 2, 3, 4] rfl rfl h) (rcv 0 rfl) rfl (nle rfl) (nle rfl) (nle rfl) (nle rfl) rfl ?_
    refine x_if_le 301 C eL_stands_294 rfl (by omega) (fun h294 => ?_) (fun h294 => ?_)
    · refine x_iconst C eL_stands_301 ?_
      refine x_icmp_ne 332 C eL_stands_302 rfl (by omega) (by omega) (fun h302 => ?_) (fun h302 => ?_)
      · exfalso; omega
      · exact K
    · refine x_iconst C eL_stands_297 ?_
      refine x_goto (pc' := 302) C eL_stands_298 rfl ?_
      refine x_icmp_ne 332 C eL_stands_302 rfl (by omega) (by omega) (fun h302 => ?_) (fun h302 => ?_)
      · exfalso; omega
      · exact K
  · refine x_iconst C eL_stands_282 ?_
    refine x_goto (pc' := 287) C eL_stands_283 rfl ?_
    refine x_aload_n C eL_stands_287 rfl ?_
    refine x_iload_n C eL_stands_288 rfl ?_
    refine x_bipush C eL_stands_289 rfl ?_
    refine yV2r [] [_, _, _, _, _] C (s_X7_line hK hN hb (by omega) (by decide)) v_X7_line vv_X7_line s_RL_143 eL_stands_291 (fun _ _ h => WF_pick [0, 1, 2, 3, 4] rfl rfl h) (rcv 0 rfl) rfl (nle rfl) (nle rfl) (nle rfl) (nle rfl) rfl ?_
    refine x_if_le 301 C eL_stands_294 rfl (by omega) (fun h294 => ?_) (fun h294 => ?_)
    · refine x_iconst C eL_stands_301 ?_
      refine x_icmp_ne 332 C eL_stands_302 rfl (by omega) (by omega) (fun h302 => ?_) (fun h302 => ?_)
      · exfalso; omega
      · exact K
    · refine x_iconst C eL_stands_297 ?_
      refine x_goto (pc' := 302) C eL_stands_298 rfl ?_
      refine x_icmp_ne 332 C eL_stands_302 rfl (by omega) (by omega) (fun h302 => ?_) (fun h302 => ?_)
      · exfalso; omega
      · exact K

set_option maxHeartbeats 4000000 in
set_option maxRecDepth 100000 in
theorem z_st_305 {G : Gm} {X : Cx} {l : Launch} (hK : KG G) {e ip op t tr ps pa sl al lg : Nat} {J : Nat → Int} {M : Pool} {L : Int → Nat} {n : Net} {b : Int} {k : Nat} {S : Int} (C : OKc G X l RL "stands" cL_stands 5 (some .boolean) 5 0 0) (hN : NetOk b n) (hb : b ≤ 900000000) (hs : SOK n) (hk : (k : Int) < n (-1) 0) (hS : 0 ≤ S ∧ S ≤ n (-1) 4) (K : WX G X 0 0 [ob e 9 (ecS ip op t tr ps pa sl) J, ob t 8 (tkS al lg) (tkI n), arR G 5 al 6 (fun j => some (L (j : Int))), LF G M L n, LOG G lg n] 334 [some (.ref e), some (.int (zI S)), some (.int (zI (k : Int))), some (.int (zI (lineVal n (k : Int) 5))), some (.int (zI (lineVal n (k : Int) 6)))] []) : WX G X 0 0 [ob e 9 (ecS ip op t tr ps pa sl) J, ob t 8 (tkS al lg) (tkI n), arR G 5 al 6 (fun j => some (L (j : Int))), LF G M L n, LOG G lg n] 305 [some (.ref e), some (.int (zI S)), some (.int (zI (k : Int))), some (.int (zI (lineVal n (k : Int) 5))), some (.int (zI (lineVal n (k : Int) 6)))] [] := by
  have hH := hN.1
  unfold HeadOk at hH
  have hk9 : (0 : Int) ≤ (k : Int) := by omega
  have hT := hs.2 (k : Int) hk9 hk
  have hL := hN.2.2 (k : Int) (by omega) (by omega)
  have r16 := LineOk_c hL (k := 16) (by decide) (by decide)
  have r17 := LineOk_c hL (k := 17) (by decide) (by decide)
  have r18 := LineOk_c hL (k := 18) (by decide) (by decide)
  have r19 := LineOk_c hL (k := 19) (by decide) (by decide)
  have r20 := LineOk_c hL (k := 20) (by decide) (by decide)
  have r21 := LineOk_c hL (k := 21) (by decide) (by decide)
  have r22 := LineOk_c hL (k := 22) (by decide) (by decide)
  have r23 := LineOk_c hL (k := 23) (by decide) (by decide)
  have r24 := LineOk_c hL (k := 24) (by decide) (by decide)
  have r25 := LineOk_c hL (k := 25) (by decide) (by decide)
  have r26 := LineOk_c hL (k := 26) (by decide) (by decide)
  unfold LineOk at hL
  have v0 : lineVal n (k : Int) 0 = n (k : Int) 1 := rfl
  have v1 : lineVal n (k : Int) 1 = n (k : Int) 2 := rfl
  have v2 : lineVal n (k : Int) 2 = n (k : Int) 3 := rfl
  have v3 : lineVal n (k : Int) 3 = n (k : Int) 4 := rfl
  have v4 : lineVal n (k : Int) 4 = n (k : Int) 5 := rfl
  have v5 : lineVal n (k : Int) 5 = n (k : Int) 6 := rfl
  have v6 : lineVal n (k : Int) 6 = n (k : Int) 7 := rfl
  have v7 : lineVal n (k : Int) 7 = n (k : Int) 8 := rfl
  have v8 : lineVal n (k : Int) 8 = n (k : Int) 9 := rfl
  have v10 : lineVal n (k : Int) 10 = n (k : Int) 12 := rfl
  have v9 : lineVal n (k : Int) 9 = (if 0 < n (k : Int) 12 then n (k : Int) 13 else -1) := rfl
  have w9 : (0 < n (k : Int) 12 ∧ lineVal n (k : Int) 9 = n (k : Int) 13) ∨ (¬ 0 < n (k : Int) 12 ∧ lineVal n (k : Int) 9 = -1) := by
    rw [v9]
    by_cases c : 0 < n (k : Int) 12
    · rw [if_pos c]; exact Or.inl ⟨c, rfl⟩
    · rw [if_neg c]; exact Or.inr ⟨c, rfl⟩
  have c0 : n (k : Int) (16 + 0) = n (k : Int) 16 := rfl
  have c1 : n (k : Int) (16 + 1) = n (k : Int) 17 := rfl
  have c2 : n (k : Int) (16 + 2) = n (k : Int) 18 := rfl
  have c3 : n (k : Int) (16 + 3) = n (k : Int) 19 := rfl
  have c4 : n (k : Int) (16 + 4) = n (k : Int) 20 := rfl
  have c5 : n (k : Int) (16 + 5) = n (k : Int) 21 := rfl
  have c6 : n (k : Int) (16 + 6) = n (k : Int) 22 := rfl
  have c7 : n (k : Int) (16 + 7) = n (k : Int) 23 := rfl
  have c8 : n (k : Int) (16 + 8) = n (k : Int) 24 := rfl
  have c9 : n (k : Int) (16 + 9) = n (k : Int) 25 := rfl
  have c10 : n (k : Int) (16 + 10) = n (k : Int) 26 := rfl
  have z9 : (0 < n (k : Int) 9 ∧ bz (0 < n (k : Int) 9) = 1) ∨ (¬ 0 < n (k : Int) 9 ∧ bz (0 < n (k : Int) 9) = 0) := by
    by_cases c : 0 < n (k : Int) 9
    · exact Or.inl ⟨c, bz_t c⟩
    · exact Or.inr ⟨c, bz_f c⟩
  have z10 : (0 < n (k : Int) 10 ∧ bz (0 < n (k : Int) 10) = 1) ∨ (¬ 0 < n (k : Int) 10 ∧ bz (0 < n (k : Int) 10) = 0) := by
    by_cases c : 0 < n (k : Int) 10
    · exact Or.inl ⟨c, bz_t c⟩
    · exact Or.inr ⟨c, bz_f c⟩
  have z12 : (0 < n (k : Int) 12 ∧ bz (0 < n (k : Int) 12) = 1) ∨ (¬ 0 < n (k : Int) 12 ∧ bz (0 < n (k : Int) 12) = 0) := by
    by_cases c : 0 < n (k : Int) 12
    · exact Or.inl ⟨c, bz_t c⟩
    · exact Or.inr ⟨c, bz_f c⟩
  unfold LSt LS0 mkS at hT
  have hbz : True := trivial
  refine x_aload_n C eL_stands_305 rfl ?_
  refine x_iload_n C eL_stands_306 rfl ?_
  refine x_bipush C eL_stands_307 rfl ?_
  refine yV2r [] [_, _, _, _, _] C (s_X7_line hK hN hb (by omega) (by decide)) v_X7_line vv_X7_line s_RL_143 eL_stands_309 (fun _ _ h => WF_pick [0, 1, 2, 3, 4] rfl rfl h) (rcv 0 rfl) rfl (nle rfl) (nle rfl) (nle rfl) (nle rfl) rfl ?_
  refine x_iload_n C eL_stands_312 rfl ?_
  refine x_icmp_eq 332 C eL_stands_313 rfl (by omega) (by omega) (fun h313 => ?_) (fun h313 => ?_)
  · exfalso; omega
  · refine x_aload_n C eL_stands_316 rfl ?_
    refine x_iload_n C eL_stands_317 rfl ?_
    refine x_bipush C eL_stands_318 rfl ?_
    refine yV2r [] [_, _, _, _, _] C (s_X7_count hK hN hb (by omega) (by decide)) v_X7_count vv_X7_count s_RL_155 eL_stands_320 (fun _ _ h => WF_pick [0, 1, 2, 3, 4] rfl rfl h) (rcv 0 rfl) rfl (nle rfl) (nle rfl) (nle rfl) (nle rfl) rfl ?_
    refine x_aload_n C eL_stands_323 rfl ?_
    refine x_iload_n C eL_stands_324 rfl ?_
    refine x_iconst C eL_stands_325 ?_
    refine yV2r [] [_, _, _, _, _] C (s_X7_count hK hN hb (by omega) (by decide)) v_X7_count vv_X7_count s_RL_155 eL_stands_326 (fun _ _ h => WF_pick [0, 1, 2, 3, 4] rfl rfl h) (rcv 0 rfl) rfl (nle rfl) (nle rfl) (nle rfl) (nle rfl) rfl ?_
    refine x_icmp_le 334 C eL_stands_329 rfl (by omega) (by omega) (fun h329 => ?_) (fun h329 => ?_)
    · exact K
    · exfalso; omega

set_option maxHeartbeats 4000000 in
set_option maxRecDepth 100000 in
theorem z_st_334 {G : Gm} {X : Cx} {l : Launch} (hK : KG G) {e ip op t tr ps pa sl al lg : Nat} {J : Nat → Int} {M : Pool} {L : Int → Nat} {n : Net} {b : Int} {k : Nat} {S : Int} (C : OKc G X l RL "stands" cL_stands 5 (some .boolean) 5 0 0) (hN : NetOk b n) (hb : b ≤ 900000000) (hs : SOK n) (hk : (k : Int) < n (-1) 0) (hS : 0 ≤ S ∧ S ≤ n (-1) 4) (K : WX G X 0 0 [ob e 9 (ecS ip op t tr ps pa sl) J, ob t 8 (tkS al lg) (tkI n), arR G 5 al 6 (fun j => some (L (j : Int))), LF G M L n, LOG G lg n] 353 [some (.ref e), some (.int (zI S)), some (.int (zI (k : Int))), some (.int (zI (lineVal n (k : Int) 5))), some (.int (zI (lineVal n (k : Int) 6)))] []) : WX G X 0 0 [ob e 9 (ecS ip op t tr ps pa sl) J, ob t 8 (tkS al lg) (tkI n), arR G 5 al 6 (fun j => some (L (j : Int))), LF G M L n, LOG G lg n] 334 [some (.ref e), some (.int (zI S)), some (.int (zI (k : Int))), some (.int (zI (lineVal n (k : Int) 5))), some (.int (zI (lineVal n (k : Int) 6)))] [] := by
  have hH := hN.1
  unfold HeadOk at hH
  have hk9 : (0 : Int) ≤ (k : Int) := by omega
  have hT := hs.2 (k : Int) hk9 hk
  have hL := hN.2.2 (k : Int) (by omega) (by omega)
  have r16 := LineOk_c hL (k := 16) (by decide) (by decide)
  have r17 := LineOk_c hL (k := 17) (by decide) (by decide)
  have r18 := LineOk_c hL (k := 18) (by decide) (by decide)
  have r19 := LineOk_c hL (k := 19) (by decide) (by decide)
  have r20 := LineOk_c hL (k := 20) (by decide) (by decide)
  have r21 := LineOk_c hL (k := 21) (by decide) (by decide)
  have r22 := LineOk_c hL (k := 22) (by decide) (by decide)
  have r23 := LineOk_c hL (k := 23) (by decide) (by decide)
  have r24 := LineOk_c hL (k := 24) (by decide) (by decide)
  have r25 := LineOk_c hL (k := 25) (by decide) (by decide)
  have r26 := LineOk_c hL (k := 26) (by decide) (by decide)
  unfold LineOk at hL
  have v0 : lineVal n (k : Int) 0 = n (k : Int) 1 := rfl
  have v1 : lineVal n (k : Int) 1 = n (k : Int) 2 := rfl
  have v2 : lineVal n (k : Int) 2 = n (k : Int) 3 := rfl
  have v3 : lineVal n (k : Int) 3 = n (k : Int) 4 := rfl
  have v4 : lineVal n (k : Int) 4 = n (k : Int) 5 := rfl
  have v5 : lineVal n (k : Int) 5 = n (k : Int) 6 := rfl
  have v6 : lineVal n (k : Int) 6 = n (k : Int) 7 := rfl
  have v7 : lineVal n (k : Int) 7 = n (k : Int) 8 := rfl
  have v8 : lineVal n (k : Int) 8 = n (k : Int) 9 := rfl
  have v10 : lineVal n (k : Int) 10 = n (k : Int) 12 := rfl
  have v9 : lineVal n (k : Int) 9 = (if 0 < n (k : Int) 12 then n (k : Int) 13 else -1) := rfl
  have w9 : (0 < n (k : Int) 12 ∧ lineVal n (k : Int) 9 = n (k : Int) 13) ∨ (¬ 0 < n (k : Int) 12 ∧ lineVal n (k : Int) 9 = -1) := by
    rw [v9]
    by_cases c : 0 < n (k : Int) 12
    · rw [if_pos c]; exact Or.inl ⟨c, rfl⟩
    · rw [if_neg c]; exact Or.inr ⟨c, rfl⟩
  have c0 : n (k : Int) (16 + 0) = n (k : Int) 16 := rfl
  have c1 : n (k : Int) (16 + 1) = n (k : Int) 17 := rfl
  have c2 : n (k : Int) (16 + 2) = n (k : Int) 18 := rfl
  have c3 : n (k : Int) (16 + 3) = n (k : Int) 19 := rfl
  have c4 : n (k : Int) (16 + 4) = n (k : Int) 20 := rfl
  have c5 : n (k : Int) (16 + 5) = n (k : Int) 21 := rfl
  have c6 : n (k : Int) (16 + 6) = n (k : Int) 22 := rfl
  have c7 : n (k : Int) (16 + 7) = n (k : Int) 23 := rfl
  have c8 : n (k : Int) (16 + 8) = n (k : Int) 24 := rfl
  have c9 : n (k : Int) (16 + 9) = n (k : Int) 25 := rfl
  have c10 : n (k : Int) (16 + 10) = n (k : Int) 26 := rfl
  have z9 : (0 < n (k : Int) 9 ∧ bz (0 < n (k : Int) 9) = 1) ∨ (¬ 0 < n (k : Int) 9 ∧ bz (0 < n (k : Int) 9) = 0) := by
    by_cases c : 0 < n (k : Int) 9
    · exact Or.inl ⟨c, bz_t c⟩
    · exact Or.inr ⟨c, bz_f c⟩
  have z10 : (0 < n (k : Int) 10 ∧ bz (0 < n (k : Int) 10) = 1) ∨ (¬ 0 < n (k : Int) 10 ∧ bz (0 < n (k : Int) 10) = 0) := by
    by_cases c : 0 < n (k : Int) 10
    · exact Or.inl ⟨c, bz_t c⟩
    · exact Or.inr ⟨c, bz_f c⟩
  have z12 : (0 < n (k : Int) 12 ∧ bz (0 < n (k : Int) 12) = 1) ∨ (¬ 0 < n (k : Int) 12 ∧ bz (0 < n (k : Int) 12) = 0) := by
    by_cases c : 0 < n (k : Int) 12
    · exact Or.inl ⟨c, bz_t c⟩
    · exact Or.inr ⟨c, bz_f c⟩
  unfold LSt LS0 mkS at hT
  have hbz : True := trivial
  refine x_aload_n C eL_stands_334 rfl ?_
  refine x_iload_n C eL_stands_335 rfl ?_
  refine x_bipush C eL_stands_336 rfl ?_
  refine yV2r [] [_, _, _, _, _] C (s_X7_line hK hN hb (by omega) (by decide)) v_X7_line vv_X7_line s_RL_143 eL_stands_338 (fun _ _ h => WF_pick [0, 1, 2, 3, 4] rfl rfl h) (rcv 0 rfl) rfl (nle rfl) (nle rfl) (nle rfl) (nle rfl) rfl ?_
  refine x_if_le 353 C eL_stands_341 rfl (by omega) (fun h341 => ?_) (fun h341 => ?_)
  · exact K
  · refine x_iload_n C eL_stands_344 rfl ?_
    refine x_if_gt 383 C eL_stands_345 rfl (by omega) (fun h345 => ?_) (fun h345 => ?_)
    · exfalso; omega
    · refine x_iload C eL_stands_348 rfl ?_
      refine x_if_gt 383 C eL_stands_350 rfl (by omega) (fun h350 => ?_) (fun h350 => ?_)
      · exfalso; omega
      · exact K

set_option maxHeartbeats 4000000 in
set_option maxRecDepth 100000 in
theorem z_st_353 {G : Gm} {X : Cx} {l : Launch} (hK : KG G) {e ip op t tr ps pa sl al lg : Nat} {J : Nat → Int} {M : Pool} {L : Int → Nat} {n : Net} {b : Int} {k : Nat} {S : Int} (C : OKc G X l RL "stands" cL_stands 5 (some .boolean) 5 0 0) (hN : NetOk b n) (hb : b ≤ 900000000) (hs : SOK n) (hk : (k : Int) < n (-1) 0) (hS : 0 ≤ S ∧ S ≤ n (-1) 4) (K : WX G X 0 0 [ob e 9 (ecS ip op t tr ps pa sl) J, ob t 8 (tkS al lg) (tkI n), arR G 5 al 6 (fun j => some (L (j : Int))), LF G M L n, LOG G lg n] 385 [some (.ref e), some (.int (zI S)), some (.int (zI (k : Int))), some (.int (zI (lineVal n (k : Int) 5))), some (.int (zI (lineVal n (k : Int) 6)))] []) : WX G X 0 0 [ob e 9 (ecS ip op t tr ps pa sl) J, ob t 8 (tkS al lg) (tkI n), arR G 5 al 6 (fun j => some (L (j : Int))), LF G M L n, LOG G lg n] 353 [some (.ref e), some (.int (zI S)), some (.int (zI (k : Int))), some (.int (zI (lineVal n (k : Int) 5))), some (.int (zI (lineVal n (k : Int) 6)))] [] := by
  have hH := hN.1
  unfold HeadOk at hH
  have hk9 : (0 : Int) ≤ (k : Int) := by omega
  have hT := hs.2 (k : Int) hk9 hk
  have hL := hN.2.2 (k : Int) (by omega) (by omega)
  have r16 := LineOk_c hL (k := 16) (by decide) (by decide)
  have r17 := LineOk_c hL (k := 17) (by decide) (by decide)
  have r18 := LineOk_c hL (k := 18) (by decide) (by decide)
  have r19 := LineOk_c hL (k := 19) (by decide) (by decide)
  have r20 := LineOk_c hL (k := 20) (by decide) (by decide)
  have r21 := LineOk_c hL (k := 21) (by decide) (by decide)
  have r22 := LineOk_c hL (k := 22) (by decide) (by decide)
  have r23 := LineOk_c hL (k := 23) (by decide) (by decide)
  have r24 := LineOk_c hL (k := 24) (by decide) (by decide)
  have r25 := LineOk_c hL (k := 25) (by decide) (by decide)
  have r26 := LineOk_c hL (k := 26) (by decide) (by decide)
  unfold LineOk at hL
  have v0 : lineVal n (k : Int) 0 = n (k : Int) 1 := rfl
  have v1 : lineVal n (k : Int) 1 = n (k : Int) 2 := rfl
  have v2 : lineVal n (k : Int) 2 = n (k : Int) 3 := rfl
  have v3 : lineVal n (k : Int) 3 = n (k : Int) 4 := rfl
  have v4 : lineVal n (k : Int) 4 = n (k : Int) 5 := rfl
  have v5 : lineVal n (k : Int) 5 = n (k : Int) 6 := rfl
  have v6 : lineVal n (k : Int) 6 = n (k : Int) 7 := rfl
  have v7 : lineVal n (k : Int) 7 = n (k : Int) 8 := rfl
  have v8 : lineVal n (k : Int) 8 = n (k : Int) 9 := rfl
  have v10 : lineVal n (k : Int) 10 = n (k : Int) 12 := rfl
  have v9 : lineVal n (k : Int) 9 = (if 0 < n (k : Int) 12 then n (k : Int) 13 else -1) := rfl
  have w9 : (0 < n (k : Int) 12 ∧ lineVal n (k : Int) 9 = n (k : Int) 13) ∨ (¬ 0 < n (k : Int) 12 ∧ lineVal n (k : Int) 9 = -1) := by
    rw [v9]
    by_cases c : 0 < n (k : Int) 12
    · rw [if_pos c]; exact Or.inl ⟨c, rfl⟩
    · rw [if_neg c]; exact Or.inr ⟨c, rfl⟩
  have c0 : n (k : Int) (16 + 0) = n (k : Int) 16 := rfl
  have c1 : n (k : Int) (16 + 1) = n (k : Int) 17 := rfl
  have c2 : n (k : Int) (16 + 2) = n (k : Int) 18 := rfl
  have c3 : n (k : Int) (16 + 3) = n (k : Int) 19 := rfl
  have c4 : n (k : Int) (16 + 4) = n (k : Int) 20 := rfl
  have c5 : n (k : Int) (16 + 5) = n (k : Int) 21 := rfl
  have c6 : n (k : Int) (16 + 6) = n (k : Int) 22 := rfl
  have c7 : n (k : Int) (16 + 7) = n (k : Int) 23 := rfl
  have c8 : n (k : Int) (16 + 8) = n (k : Int) 24 := rfl
  have c9 : n (k : Int) (16 + 9) = n (k : Int) 25 := rfl
  have c10 : n (k : Int) (16 + 10) = n (k : Int) 26 := rfl
  have z9 : (0 < n (k : Int) 9 ∧ bz (0 < n (k : Int) 9) = 1) ∨ (¬ 0 < n (k : Int) 9 ∧ bz (0 < n (k : Int) 9) = 0) := by
    by_cases c : 0 < n (k : Int) 9
    · exact Or.inl ⟨c, bz_t c⟩
    · exact Or.inr ⟨c, bz_f c⟩
  have z10 : (0 < n (k : Int) 10 ∧ bz (0 < n (k : Int) 10) = 1) ∨ (¬ 0 < n (k : Int) 10 ∧ bz (0 < n (k : Int) 10) = 0) := by
    by_cases c : 0 < n (k : Int) 10
    · exact Or.inl ⟨c, bz_t c⟩
    · exact Or.inr ⟨c, bz_f c⟩
  have z12 : (0 < n (k : Int) 12 ∧ bz (0 < n (k : Int) 12) = 1) ∨ (¬ 0 < n (k : Int) 12 ∧ bz (0 < n (k : Int) 12) = 0) := by
    by_cases c : 0 < n (k : Int) 12
    · exact Or.inl ⟨c, bz_t c⟩
    · exact Or.inr ⟨c, bz_f c⟩
  unfold LSt LS0 mkS at hT
  have hbz : True := trivial
  refine x_aload_n C eL_stands_353 rfl ?_
  refine x_iload_n C eL_stands_354 rfl ?_
  refine yV1r [] [_, _, _, _, _] C (s_X7_delivered hK hN hb (by omega)) v_X7_delivered vv_X7_delivered s_RL_166 eL_stands_355 (fun _ _ h => WF_pick [0, 1, 2, 3, 4] rfl rfl h) (rcv 0 rfl) rfl (nle rfl) (nle rfl) (nle rfl) (nle rfl) rfl ?_
  refine x_if_lt 365 C eL_stands_358 rfl (by omega) (fun h358 => ?_) (fun h358 => ?_)
  · refine x_iconst C eL_stands_365 ?_
    refine x_aload_n C eL_stands_366 rfl ?_
    refine x_iload_n C eL_stands_367 rfl ?_
    refine x_iconst C eL_stands_368 ?_
    refine yV2r [] [_, _, _, _, _] C (s_X7_count hK hN hb (by omega) (by decide)) v_X7_count vv_X7_count s_RL_155 eL_stands_369 (fun _ _ h => WF_pick [0, 1, 2, 3, 4] rfl rfl h) (rcv 0 rfl) rfl (nle rfl) (nle rfl) (nle rfl) (nle rfl) rfl ?_
    refine x_if_le 379 C eL_stands_372 rfl (by omega) (fun h372 => ?_) (fun h372 => ?_)
    · refine x_iconst C eL_stands_379 ?_
      refine x_icmp_eq 385 C eL_stands_380 rfl (by omega) (by omega) (fun h380 => ?_) (fun h380 => ?_)
      · exact K
      · exfalso; omega
    · refine x_iconst C eL_stands_375 ?_
      refine x_goto (pc' := 380) C eL_stands_376 rfl ?_
      refine x_icmp_eq 385 C eL_stands_380 rfl (by omega) (by omega) (fun h380 => ?_) (fun h380 => ?_)
      · exact K
      · exfalso; omega
  · refine x_iconst C eL_stands_361 ?_
    refine x_goto (pc' := 366) C eL_stands_362 rfl ?_
    refine x_aload_n C eL_stands_366 rfl ?_
    refine x_iload_n C eL_stands_367 rfl ?_
    refine x_iconst C eL_stands_368 ?_
    refine yV2r [] [_, _, _, _, _] C (s_X7_count hK hN hb (by omega) (by decide)) v_X7_count vv_X7_count s_RL_155 eL_stands_369 (fun _ _ h => WF_pick [0, 1, 2, 3, 4] rfl rfl h) (rcv 0 rfl) rfl (nle rfl) (nle rfl) (nle rfl) (nle rfl) rfl ?_
    refine x_if_le 379 C eL_stands_372 rfl (by omega) (fun h372 => ?_) (fun h372 => ?_)
    · refine x_iconst C eL_stands_379 ?_
      refine x_icmp_eq 385 C eL_stands_380 rfl (by omega) (by omega) (fun h380 => ?_) (fun h380 => ?_)
      · exact K
      · exfalso; omega
    · refine x_iconst C eL_stands_375 ?_
      refine x_goto (pc' := 380) C eL_stands_376 rfl ?_
      refine x_icmp_eq 385 C eL_stands_380 rfl (by omega) (by omega) (fun h380 => ?_) (fun h380 => ?_)
      · exact K
      · exfalso; omega

set_option maxHeartbeats 4000000 in
set_option maxRecDepth 100000 in
theorem z_st_385 {G : Gm} {X : Cx} {l : Launch} (hK : KG G) {e ip op t tr ps pa sl al lg : Nat} {J : Nat → Int} {M : Pool} {L : Int → Nat} {n : Net} {b : Int} {k : Nat} {S : Int} (C : OKc G X l RL "stands" cL_stands 5 (some .boolean) 5 0 0) (hN : NetOk b n) (hb : b ≤ 900000000) (hs : SOK n) (hk : (k : Int) < n (-1) 0) (hS : 0 ≤ S ∧ S ≤ n (-1) 4) (K : WX G X 0 0 [ob e 9 (ecS ip op t tr ps pa sl) J, ob t 8 (tkS al lg) (tkI n), arR G 5 al 6 (fun j => some (L (j : Int))), LF G M L n, LOG G lg n] 4 [some (.ref e), some (.int (zI (S + n (k : Int) (16 + 1)))), some (.int (zI ((k : Int) + 1))), some (.int (zI (lineVal n (k : Int) 5))), some (.int (zI (lineVal n (k : Int) 6)))] []) : WX G X 0 0 [ob e 9 (ecS ip op t tr ps pa sl) J, ob t 8 (tkS al lg) (tkI n), arR G 5 al 6 (fun j => some (L (j : Int))), LF G M L n, LOG G lg n] 385 [some (.ref e), some (.int (zI S)), some (.int (zI (k : Int))), some (.int (zI (lineVal n (k : Int) 5))), some (.int (zI (lineVal n (k : Int) 6)))] [] := by
  have hH := hN.1
  unfold HeadOk at hH
  have hk9 : (0 : Int) ≤ (k : Int) := by omega
  have hT := hs.2 (k : Int) hk9 hk
  have hL := hN.2.2 (k : Int) (by omega) (by omega)
  have r16 := LineOk_c hL (k := 16) (by decide) (by decide)
  have r17 := LineOk_c hL (k := 17) (by decide) (by decide)
  have r18 := LineOk_c hL (k := 18) (by decide) (by decide)
  have r19 := LineOk_c hL (k := 19) (by decide) (by decide)
  have r20 := LineOk_c hL (k := 20) (by decide) (by decide)
  have r21 := LineOk_c hL (k := 21) (by decide) (by decide)
  have r22 := LineOk_c hL (k := 22) (by decide) (by decide)
  have r23 := LineOk_c hL (k := 23) (by decide) (by decide)
  have r24 := LineOk_c hL (k := 24) (by decide) (by decide)
  have r25 := LineOk_c hL (k := 25) (by decide) (by decide)
  have r26 := LineOk_c hL (k := 26) (by decide) (by decide)
  unfold LineOk at hL
  have v0 : lineVal n (k : Int) 0 = n (k : Int) 1 := rfl
  have v1 : lineVal n (k : Int) 1 = n (k : Int) 2 := rfl
  have v2 : lineVal n (k : Int) 2 = n (k : Int) 3 := rfl
  have v3 : lineVal n (k : Int) 3 = n (k : Int) 4 := rfl
  have v4 : lineVal n (k : Int) 4 = n (k : Int) 5 := rfl
  have v5 : lineVal n (k : Int) 5 = n (k : Int) 6 := rfl
  have v6 : lineVal n (k : Int) 6 = n (k : Int) 7 := rfl
  have v7 : lineVal n (k : Int) 7 = n (k : Int) 8 := rfl
  have v8 : lineVal n (k : Int) 8 = n (k : Int) 9 := rfl
  have v10 : lineVal n (k : Int) 10 = n (k : Int) 12 := rfl
  have v9 : lineVal n (k : Int) 9 = (if 0 < n (k : Int) 12 then n (k : Int) 13 else -1) := rfl
  have w9 : (0 < n (k : Int) 12 ∧ lineVal n (k : Int) 9 = n (k : Int) 13) ∨ (¬ 0 < n (k : Int) 12 ∧ lineVal n (k : Int) 9 = -1) := by
    rw [v9]
    by_cases c : 0 < n (k : Int) 12
    · rw [if_pos c]; exact Or.inl ⟨c, rfl⟩
    · rw [if_neg c]; exact Or.inr ⟨c, rfl⟩
  have c0 : n (k : Int) (16 + 0) = n (k : Int) 16 := rfl
  have c1 : n (k : Int) (16 + 1) = n (k : Int) 17 := rfl
  have c2 : n (k : Int) (16 + 2) = n (k : Int) 18 := rfl
  have c3 : n (k : Int) (16 + 3) = n (k : Int) 19 := rfl
  have c4 : n (k : Int) (16 + 4) = n (k : Int) 20 := rfl
  have c5 : n (k : Int) (16 + 5) = n (k : Int) 21 := rfl
  have c6 : n (k : Int) (16 + 6) = n (k : Int) 22 := rfl
  have c7 : n (k : Int) (16 + 7) = n (k : Int) 23 := rfl
  have c8 : n (k : Int) (16 + 8) = n (k : Int) 24 := rfl
  have c9 : n (k : Int) (16 + 9) = n (k : Int) 25 := rfl
  have c10 : n (k : Int) (16 + 10) = n (k : Int) 26 := rfl
  have z9 : (0 < n (k : Int) 9 ∧ bz (0 < n (k : Int) 9) = 1) ∨ (¬ 0 < n (k : Int) 9 ∧ bz (0 < n (k : Int) 9) = 0) := by
    by_cases c : 0 < n (k : Int) 9
    · exact Or.inl ⟨c, bz_t c⟩
    · exact Or.inr ⟨c, bz_f c⟩
  have z10 : (0 < n (k : Int) 10 ∧ bz (0 < n (k : Int) 10) = 1) ∨ (¬ 0 < n (k : Int) 10 ∧ bz (0 < n (k : Int) 10) = 0) := by
    by_cases c : 0 < n (k : Int) 10
    · exact Or.inl ⟨c, bz_t c⟩
    · exact Or.inr ⟨c, bz_f c⟩
  have z12 : (0 < n (k : Int) 12 ∧ bz (0 < n (k : Int) 12) = 1) ∨ (¬ 0 < n (k : Int) 12 ∧ bz (0 < n (k : Int) 12) = 0) := by
    by_cases c : 0 < n (k : Int) 12
    · exact Or.inl ⟨c, bz_t c⟩
    · exact Or.inr ⟨c, bz_f c⟩
  unfold LSt LS0 mkS at hT
  have hbz : True := trivial
  refine x_iload_n C eL_stands_385 rfl ?_
  refine x_aload_n C eL_stands_386 rfl ?_
  refine x_iload_n C eL_stands_387 rfl ?_
  refine x_iconst C eL_stands_388 ?_
  refine yV2r [] [_, _, _, _, _] C (s_X7_count hK hN hb (by omega) (by decide)) v_X7_count vv_X7_count s_RL_155 eL_stands_389 (fun _ _ h => WF_pick [0, 1, 2, 3, 4] rfl rfl h) (rcv 0 rfl) rfl (nle rfl) (nle rfl) (nle rfl) (nle rfl) rfl ?_
  refine x_iadd C eL_stands_392 ?_
  refine x_istore_n [_, _, _, _, _] C eL_stands_393 rfl rfl (nlt rfl) ?_
  refine x_iinc [_, _, _, _, _] C eL_stands_394 rfl rfl rfl ?_
  refine x_goto (pc' := 4) C eL_stands_397 rfl ?_
  exact K

set_option maxHeartbeats 4000000 in
set_option maxRecDepth 100000 in
theorem z_stands {G : Gm} {l : Launch} (hK : KG G) {e ip op t tr ps pa sl al lg : Nat} {J : Nat → Int} {M : Pool} {L : Int → Nat} {n : Net} {b : Int} (hN : NetOk b n) (hb : b ≤ 900000000) (hs : SOK n) : MD G l yL_stands cL_stands 5 (some .boolean) 5 0 0 [.ref e] [ob e 9 (ecS ip op t tr ps pa sl) J, ob t 8 (tkS al lg) (tkI n), arR G 5 al 6 (fun j => some (L (j : Int))), LF G M L n, LOG G lg n] (some (.int (zI 1))) [ob e 9 (ecS ip op t tr ps pa sl) J, ob t 8 (tkS al lg) (tkI n), arR G 5 al 6 (fun j => some (L (j : Int))), LF G M L n, LOG G lg n] := by
  refine MX_of (lv := [some (.ref e), none, none, none, none]) hK (by decide +kernel) rfl (nle rfl) (fun X C F => ?_)
  have C : OKc G X l RL "stands" cL_stands 5 (some .boolean) 5 0 0 := C
  have hH := hN.1
  unfold HeadOk at hH
  have mono : ∀ (i k : Nat), (k : Int) + i = n (-1) 0 → 0 ≤ qs (fun l => n l 17) k ∧ qs (fun l => n l 17) k ≤ qs (fun l => n l 17) (k + i) := by
    intro i
    induction i with
    | zero =>
      intro k hk
      exact ⟨qs_nonneg k (fun j a c => (LineOk_c (hN.2.2 j a (by omega)) (k := 17) (by decide) (by decide)).1), Int.le_refl _⟩
    | succ i ih =>
      intro k hk
      have h1 := ih (k + 1) (by omega)
      have h2 := (LineOk_c (hN.2.2 (k : Int) (by omega) (by omega)) (k := 17) (by decide) (by decide)).1
      have h3 : qs (fun l => n l 17) (k + 1) = qs (fun l => n l 17) k + n (k : Int) 17 := rfl
      have h4 := qs_nonneg (f := fun l => n l 17) k (fun j a c => (LineOk_c (hN.2.2 j a (by omega)) (k := 17) (by decide) (by decide)).1)
      rw [show k + (i + 1) = k + 1 + i by omega]
      omega
  have loop : ∀ (f k : Nat), (k : Int) ≤ n (-1) 0 → n (-1) 0 < k + f → WX G X 0 0 [ob e 9 (ecS ip op t tr ps pa sl) J, ob t 8 (tkS al lg) (tkI n), arR G 5 al 6 (fun j => some (L (j : Int))), LF G M L n, LOG G lg n] 4 [some (.ref e), some (.int (zI (qs (fun l => n l 17) k))), some (.int (zI (k : Int))), none, none] [] := by
    intro f
    induction f with
    | zero => intro k h0 h1; exfalso; omega
    | succ f ih =>
      intro k h0 h1
      have hm := mono (n (-1) 0 - (k : Int)).toNat k (by omega)
      have hS : 0 ≤ qs (fun l => n l 17) k ∧ qs (fun l => n l 17) k ≤ n (-1) 4 := by
        refine ⟨hm.1, ?_⟩
        rw [hH.2.2.2.2.2.2.2.2]
        rw [show (n (-1) 0).toNat = k + (n (-1) 0 - (k : Int)).toNat by omega]
        exact hm.2
      refine x_iload_n C eL_stands_4 rfl ?_
      refine x_aload_n C eL_stands_5 rfl ?_
      refine x_iconst C eL_stands_6 ?_
      refine yV1r [] [_, _, _, _, _] C (s_X7_property hK hN hb (by decide)) v_X7_property vv_X7_property s_RL_99 eL_stands_7 (fun _ _ h => WF_pick [0, 1, 2, 3, 4] rfl rfl h) (rcv 0 rfl) rfl (nle rfl) (nle rfl) (nle rfl) (nle rfl) rfl ?_
      rw [show propVal n 0 = zI (n (-1) 0) from rfl]
      refine x_icmp_ge 400 C eL_stands_10 rfl (by omega) (by omega) (fun h10 => ?_) (fun h10 => ?_)
      · have ek : (k : Int) = n (-1) 0 := by omega
        have eq : qs (fun l => n l 17) k = n (-1) 4 := by
          rw [hH.2.2.2.2.2.2.2.2, ← ek, Int.toNat_natCast]
        rw [eq]
        clear hm hS hH
        have hH := hN.1
        unfold HeadOk at hH
        have hk9 : 0 ≤ n (-1) 2 := by omega
        have hL := hN.2.2 (n (-1) 2) (by omega) (by omega)
        have r16 := LineOk_c hL (k := 16) (by decide) (by decide)
        have r17 := LineOk_c hL (k := 17) (by decide) (by decide)
        have r18 := LineOk_c hL (k := 18) (by decide) (by decide)
        have r19 := LineOk_c hL (k := 19) (by decide) (by decide)
        have r20 := LineOk_c hL (k := 20) (by decide) (by decide)
        have r21 := LineOk_c hL (k := 21) (by decide) (by decide)
        have r22 := LineOk_c hL (k := 22) (by decide) (by decide)
        have r23 := LineOk_c hL (k := 23) (by decide) (by decide)
        have r24 := LineOk_c hL (k := 24) (by decide) (by decide)
        have r25 := LineOk_c hL (k := 25) (by decide) (by decide)
        have r26 := LineOk_c hL (k := 26) (by decide) (by decide)
        unfold LineOk at hL
        have v0 : lineVal n (n (-1) 2) 0 = n (n (-1) 2) 1 := rfl
        have v1 : lineVal n (n (-1) 2) 1 = n (n (-1) 2) 2 := rfl
        have v2 : lineVal n (n (-1) 2) 2 = n (n (-1) 2) 3 := rfl
        have v3 : lineVal n (n (-1) 2) 3 = n (n (-1) 2) 4 := rfl
        have v4 : lineVal n (n (-1) 2) 4 = n (n (-1) 2) 5 := rfl
        have v5 : lineVal n (n (-1) 2) 5 = n (n (-1) 2) 6 := rfl
        have v6 : lineVal n (n (-1) 2) 6 = n (n (-1) 2) 7 := rfl
        have v7 : lineVal n (n (-1) 2) 7 = n (n (-1) 2) 8 := rfl
        have v8 : lineVal n (n (-1) 2) 8 = n (n (-1) 2) 9 := rfl
        have v10 : lineVal n (n (-1) 2) 10 = n (n (-1) 2) 12 := rfl
        have v9 : lineVal n (n (-1) 2) 9 = (if 0 < n (n (-1) 2) 12 then n (n (-1) 2) 13 else -1) := rfl
        have w9 : (0 < n (n (-1) 2) 12 ∧ lineVal n (n (-1) 2) 9 = n (n (-1) 2) 13) ∨ (¬ 0 < n (n (-1) 2) 12 ∧ lineVal n (n (-1) 2) 9 = -1) := by
          rw [v9]
          by_cases c : 0 < n (n (-1) 2) 12
          · rw [if_pos c]; exact Or.inl ⟨c, rfl⟩
          · rw [if_neg c]; exact Or.inr ⟨c, rfl⟩
        have c0 : n (n (-1) 2) (16 + 0) = n (n (-1) 2) 16 := rfl
        have c1 : n (n (-1) 2) (16 + 1) = n (n (-1) 2) 17 := rfl
        have c2 : n (n (-1) 2) (16 + 2) = n (n (-1) 2) 18 := rfl
        have c3 : n (n (-1) 2) (16 + 3) = n (n (-1) 2) 19 := rfl
        have c4 : n (n (-1) 2) (16 + 4) = n (n (-1) 2) 20 := rfl
        have c5 : n (n (-1) 2) (16 + 5) = n (n (-1) 2) 21 := rfl
        have c6 : n (n (-1) 2) (16 + 6) = n (n (-1) 2) 22 := rfl
        have c7 : n (n (-1) 2) (16 + 7) = n (n (-1) 2) 23 := rfl
        have c8 : n (n (-1) 2) (16 + 8) = n (n (-1) 2) 24 := rfl
        have c9 : n (n (-1) 2) (16 + 9) = n (n (-1) 2) 25 := rfl
        have c10 : n (n (-1) 2) (16 + 10) = n (n (-1) 2) 26 := rfl
        have z9 : (0 < n (n (-1) 2) 9 ∧ bz (0 < n (n (-1) 2) 9) = 1) ∨ (¬ 0 < n (n (-1) 2) 9 ∧ bz (0 < n (n (-1) 2) 9) = 0) := by
          by_cases c : 0 < n (n (-1) 2) 9
          · exact Or.inl ⟨c, bz_t c⟩
          · exact Or.inr ⟨c, bz_f c⟩
        have z10 : (0 < n (n (-1) 2) 10 ∧ bz (0 < n (n (-1) 2) 10) = 1) ∨ (¬ 0 < n (n (-1) 2) 10 ∧ bz (0 < n (n (-1) 2) 10) = 0) := by
          by_cases c : 0 < n (n (-1) 2) 10
          · exact Or.inl ⟨c, bz_t c⟩
          · exact Or.inr ⟨c, bz_f c⟩
        have z12 : (0 < n (n (-1) 2) 12 ∧ bz (0 < n (n (-1) 2) 12) = 1) ∨ (¬ 0 < n (n (-1) 2) 12 ∧ bz (0 < n (n (-1) 2) 12) = 0) := by
          by_cases c : 0 < n (n (-1) 2) 12
          · exact Or.inl ⟨c, bz_t c⟩
          · exact Or.inr ⟨c, bz_f c⟩
        have hq : n (-1) 4 = qs (fun l => n l (16 + 1)) (n (-1) 0).toNat := hH.2.2.2.2.2.2.2.2
        have hT := hs.1
        have hsn : (0 < n (n (-1) 2) 12 ∧ nSender n = n (n (-1) 2) 13) ∨ (¬ 0 < n (n (-1) 2) 12 ∧ nSender n = n (-1) 2) := by
          unfold nSender
          by_cases c : 0 < n (n (-1) 2) 12
          · rw [if_pos c]; exact Or.inl ⟨c, rfl⟩
          · rw [if_neg c]; exact Or.inr ⟨c, rfl⟩
        refine x_aload_n C eL_stands_400 rfl ?_
        refine x_iconst C eL_stands_401 ?_
        refine yV1r [] [_, _, _, _, _] C (s_X7_property hK hN hb (by decide)) v_X7_property vv_X7_property s_RL_99 eL_stands_402 (fun _ _ h => WF_pick [0, 1, 2, 3, 4] rfl rfl h) (rcv 0 rfl) rfl (nle rfl) (nle rfl) (nle rfl) (nle rfl) rfl ?_
        rw [show propVal n 2 = zI (n (-1) 2) from rfl]
        refine x_istore_n [_, _, _, _, _] C eL_stands_405 rfl rfl (nlt rfl) ?_
        refine x_aload_n C eL_stands_406 rfl ?_
        refine x_iload_n C eL_stands_407 rfl ?_
        refine x_bipush C eL_stands_408 rfl ?_
        refine yV2r [] [_, _, _, _, _] C (s_X7_line hK hN hb (by omega) (by decide)) v_X7_line vv_X7_line s_RL_143 eL_stands_410 (fun _ _ h => WF_pick [0, 1, 2, 3, 4] rfl rfl h) (rcv 0 rfl) rfl (nle rfl) (nle rfl) (nle rfl) (nle rfl) rfl ?_
        refine x_if_le 426 C eL_stands_413 rfl (by omega) (fun h413 => ?_) (fun h413 => ?_)
        · refine x_iload_n C eL_stands_426 rfl ?_
          refine x_istore_n [_, _, _, _, _] C eL_stands_427 rfl rfl (nlt rfl) ?_
          refine x_iload_n C eL_stands_428 rfl ?_
          refine x_aload_n C eL_stands_429 rfl ?_
          refine x_iconst C eL_stands_430 ?_
          refine yV1r [] [_, _, _, _, _] C (s_X7_property hK hN hb (by decide)) v_X7_property vv_X7_property s_RL_99 eL_stands_431 (fun _ _ h => WF_pick [0, 1, 2, 3, 4] rfl rfl h) (rcv 0 rfl) rfl (nle rfl) (nle rfl) (nle rfl) (nle rfl) rfl ?_
          rw [show propVal n 5 = zI (n (-1) 4) from rfl]
          refine x_icmp_ne 483 C eL_stands_434 rfl (by omega) (by omega) (fun h434 => ?_) (fun h434 => ?_)
          · exfalso; omega
          · refine x_aload_n C eL_stands_437 rfl ?_
            refine x_iconst C eL_stands_438 ?_
            refine yV1r [] [_, _, _, _, _] C (s_X7_sum hK hN hb (by decide)) v_X7_sum vv_X7_sum s_RL_103 eL_stands_439 (fun _ _ h => WF_pick [0, 1, 2, 3, 4] rfl rfl h) (rcv 0 rfl) rfl (nle rfl) (nle rfl) (nle rfl) (nle rfl) rfl ?_
            refine x_iload_n C eL_stands_442 rfl ?_
            refine x_icmp_ne 483 C eL_stands_443 rfl (by omega) (by omega) (fun h443 => ?_) (fun h443 => ?_)
            · exfalso; omega
            · refine x_iload_n C eL_stands_446 rfl ?_
              refine x_aload_n C eL_stands_447 rfl ?_
              refine x_bipush C eL_stands_448 rfl ?_
              refine yV1r [] [_, _, _, _, _] C (s_X7_property hK hN hb (by decide)) v_X7_property vv_X7_property s_RL_99 eL_stands_450 (fun _ _ h => WF_pick [0, 1, 2, 3, 4] rfl rfl h) (rcv 0 rfl) rfl (nle rfl) (nle rfl) (nle rfl) (nle rfl) rfl ?_
              rw [show propVal n 6 = zI (n (-1) 5) from rfl]
              refine x_iadd C eL_stands_453 ?_
              refine x_aload_n C eL_stands_454 rfl ?_
              refine x_iconst C eL_stands_455 ?_
              refine yV1r [] [_, _, _, _, _] C (s_X7_property hK hN hb (by decide)) v_X7_property vv_X7_property s_RL_99 eL_stands_456 (fun _ _ h => WF_pick [0, 1, 2, 3, 4] rfl rfl h) (rcv 0 rfl) rfl (nle rfl) (nle rfl) (nle rfl) (nle rfl) rfl ?_
              rw [show propVal n 1 = zI (n (-1) 1) from rfl]
              refine x_icmp_ne 483 C eL_stands_459 rfl (by omega) (by omega) (fun h459 => ?_) (fun h459 => ?_)
              · exfalso; omega
              · refine x_aload_n C eL_stands_462 rfl ?_
                refine x_iconst C eL_stands_463 ?_
                refine yV1r [] [_, _, _, _, _] C (s_X7_property hK hN hb (by decide)) v_X7_property vv_X7_property s_RL_99 eL_stands_464 (fun _ _ h => WF_pick [0, 1, 2, 3, 4] rfl rfl h) (rcv 0 rfl) rfl (nle rfl) (nle rfl) (nle rfl) (nle rfl) rfl ?_
                rw [show propVal n 3 = zI (nSender n) from rfl]
                refine x_iload_n C eL_stands_467 rfl ?_
                refine x_icmp_ne 483 C eL_stands_468 rfl (by omega) (by omega) (fun h468 => ?_) (fun h468 => ?_)
                · exfalso; omega
                · refine x_aload_n C eL_stands_471 rfl ?_
                  refine x_iconst C eL_stands_472 ?_
                  refine yV1r [] [_, _, _, _, _] C (s_X7_property hK hN hb (by decide)) v_X7_property vv_X7_property s_RL_99 eL_stands_473 (fun _ _ h => WF_pick [0, 1, 2, 3, 4] rfl rfl h) (rcv 0 rfl) rfl (nle rfl) (nle rfl) (nle rfl) (nle rfl) rfl ?_
                  rw [show propVal n 4 = zI (n (-1) 3) from rfl]
                  refine x_if_le 483 C eL_stands_476 rfl (by omega) (fun h476 => ?_) (fun h476 => ?_)
                  · exfalso; omega
                  · refine x_iconst C eL_stands_479 ?_
                    refine x_goto (pc' := 484) C eL_stands_480 rfl ?_
                    refine x_iret (narZ (by omega)).1 C F eL_stands_484 () ?_ trivial (fun cf c h => ?_) (nle rfl) (nle rfl)
                    · rfl
                    · exact WF_pick [0, 1, 2, 3, 4] rfl rfl h
        · refine x_aload_n C eL_stands_416 rfl ?_
          refine x_iload_n C eL_stands_417 rfl ?_
          refine x_bipush C eL_stands_418 rfl ?_
          refine yV2r [] [_, _, _, _, _] C (s_X7_line hK hN hb (by omega) (by decide)) v_X7_line vv_X7_line s_RL_143 eL_stands_420 (fun _ _ h => WF_pick [0, 1, 2, 3, 4] rfl rfl h) (rcv 0 rfl) rfl (nle rfl) (nle rfl) (nle rfl) (nle rfl) rfl ?_
          refine x_goto (pc' := 427) C eL_stands_423 rfl ?_
          refine x_istore_n [_, _, _, _, _] C eL_stands_427 rfl rfl (nlt rfl) ?_
          refine x_iload_n C eL_stands_428 rfl ?_
          refine x_aload_n C eL_stands_429 rfl ?_
          refine x_iconst C eL_stands_430 ?_
          refine yV1r [] [_, _, _, _, _] C (s_X7_property hK hN hb (by decide)) v_X7_property vv_X7_property s_RL_99 eL_stands_431 (fun _ _ h => WF_pick [0, 1, 2, 3, 4] rfl rfl h) (rcv 0 rfl) rfl (nle rfl) (nle rfl) (nle rfl) (nle rfl) rfl ?_
          rw [show propVal n 5 = zI (n (-1) 4) from rfl]
          refine x_icmp_ne 483 C eL_stands_434 rfl (by omega) (by omega) (fun h434 => ?_) (fun h434 => ?_)
          · exfalso; omega
          · refine x_aload_n C eL_stands_437 rfl ?_
            refine x_iconst C eL_stands_438 ?_
            refine yV1r [] [_, _, _, _, _] C (s_X7_sum hK hN hb (by decide)) v_X7_sum vv_X7_sum s_RL_103 eL_stands_439 (fun _ _ h => WF_pick [0, 1, 2, 3, 4] rfl rfl h) (rcv 0 rfl) rfl (nle rfl) (nle rfl) (nle rfl) (nle rfl) rfl ?_
            refine x_iload_n C eL_stands_442 rfl ?_
            refine x_icmp_ne 483 C eL_stands_443 rfl (by omega) (by omega) (fun h443 => ?_) (fun h443 => ?_)
            · exfalso; omega
            · refine x_iload_n C eL_stands_446 rfl ?_
              refine x_aload_n C eL_stands_447 rfl ?_
              refine x_bipush C eL_stands_448 rfl ?_
              refine yV1r [] [_, _, _, _, _] C (s_X7_property hK hN hb (by decide)) v_X7_property vv_X7_property s_RL_99 eL_stands_450 (fun _ _ h => WF_pick [0, 1, 2, 3, 4] rfl rfl h) (rcv 0 rfl) rfl (nle rfl) (nle rfl) (nle rfl) (nle rfl) rfl ?_
              rw [show propVal n 6 = zI (n (-1) 5) from rfl]
              refine x_iadd C eL_stands_453 ?_
              refine x_aload_n C eL_stands_454 rfl ?_
              refine x_iconst C eL_stands_455 ?_
              refine yV1r [] [_, _, _, _, _] C (s_X7_property hK hN hb (by decide)) v_X7_property vv_X7_property s_RL_99 eL_stands_456 (fun _ _ h => WF_pick [0, 1, 2, 3, 4] rfl rfl h) (rcv 0 rfl) rfl (nle rfl) (nle rfl) (nle rfl) (nle rfl) rfl ?_
              rw [show propVal n 1 = zI (n (-1) 1) from rfl]
              refine x_icmp_ne 483 C eL_stands_459 rfl (by omega) (by omega) (fun h459 => ?_) (fun h459 => ?_)
              · exfalso; omega
              · refine x_aload_n C eL_stands_462 rfl ?_
                refine x_iconst C eL_stands_463 ?_
                refine yV1r [] [_, _, _, _, _] C (s_X7_property hK hN hb (by decide)) v_X7_property vv_X7_property s_RL_99 eL_stands_464 (fun _ _ h => WF_pick [0, 1, 2, 3, 4] rfl rfl h) (rcv 0 rfl) rfl (nle rfl) (nle rfl) (nle rfl) (nle rfl) rfl ?_
                rw [show propVal n 3 = zI (nSender n) from rfl]
                refine x_iload_n C eL_stands_467 rfl ?_
                refine x_icmp_ne 483 C eL_stands_468 rfl (by omega) (by omega) (fun h468 => ?_) (fun h468 => ?_)
                · exfalso; omega
                · refine x_aload_n C eL_stands_471 rfl ?_
                  refine x_iconst C eL_stands_472 ?_
                  refine yV1r [] [_, _, _, _, _] C (s_X7_property hK hN hb (by decide)) v_X7_property vv_X7_property s_RL_99 eL_stands_473 (fun _ _ h => WF_pick [0, 1, 2, 3, 4] rfl rfl h) (rcv 0 rfl) rfl (nle rfl) (nle rfl) (nle rfl) (nle rfl) rfl ?_
                  rw [show propVal n 4 = zI (n (-1) 3) from rfl]
                  refine x_if_le 483 C eL_stands_476 rfl (by omega) (fun h476 => ?_) (fun h476 => ?_)
                  · exfalso; omega
                  · refine x_iconst C eL_stands_479 ?_
                    refine x_goto (pc' := 484) C eL_stands_480 rfl ?_
                    refine x_iret (narZ (by omega)).1 C F eL_stands_484 () ?_ trivial (fun cf c h => ?_) (nle rfl) (nle rfl)
                    · rfl
                    · exact WF_pick [0, 1, 2, 3, 4] rfl rfl h
      · have hk : (k : Int) < n (-1) 0 := by omega
        have x9 := ih (k + 1) (by omega) (by omega)
        refine z_st_13 hK C hN hb hs hk hS ?_
        refine z_st_93 hK C hN hb hs hk hS ?_
        refine z_st_168 hK C hN hb hs hk hS ?_
        refine z_st_216 hK C hN hb hs hk hS ?_
        refine z_st_244 hK C hN hb hs hk hS ?_
        refine z_st_272 hK C hN hb hs hk hS ?_
        refine z_st_305 hK C hN hb hs hk hS ?_
        refine z_st_334 hK C hN hb hs hk hS ?_
        refine z_st_353 hK C hN hb hs hk hS ?_
        refine z_st_385 hK C hN hb hs hk hS ?_
        refine x_lv [_, _, _, none, none] rfl (lx_drop _ [3, 4] rfl) ?_
        exact x9
  refine x_iconst C eL_stands_0 ?_
  refine x_istore_n [_, _, _, _, _] C eL_stands_1 rfl rfl (nlt rfl) ?_
  refine x_iconst C eL_stands_2 ?_
  refine x_istore_n [_, _, _, _, _] C eL_stands_3 rfl rfl (nlt rfl) ?_
  exact loop 8 0 (by omega) (by omega)
