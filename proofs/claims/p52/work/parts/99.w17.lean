/-! The law's load, piece by piece. -/

set_option maxHeartbeats 4000000 in
set_option maxRecDepth 100000 in
theorem z_ld_47 {G : Gm} {X : Cx} {l : Launch} (hK : KG G) (hD : KD G) {e b9 L9 sb m : Nat} {xs : Nat → Int32} {RR : List SA} {k n : Nat} {w : List Int} (C : OKc G X l RL "load" cL_load 9 (some .boolean) 14 250 70000) (hsc : SC G b9 L9 xs) (hm : 1 ≤ m ∧ m ≤ 4) (hbw : B7 w) {i : Nat} (hi9 : i < m) (hlw : w.length ≤ 47 * i) (hn : k + 12 ≤ 250 ∧ n + 7224 ≤ 70000) (K : ∀ w9 : List Int, B7 w9 → w9.length ≤ 47 * (i + 1) → (∀ R, w9 ++ R = w ++ lineP (dP L9 xs) i R) → WX G X (k + 12) (n + 7224) (SBA G sb w9 :: RR) 205 [some (.ref e), some (.ref b9), some (.int (zI (m : Int))), some (.ref sb), some (.int (zI (i : Int))), none, none, none, none] []) : WX G X k n (SBA G sb w :: RR) 47 [some (.ref e), some (.ref b9), some (.int (zI (m : Int))), some (.ref sb), some (.int (zI (i : Int))), none, none, none, none] [.int (zI (dD L9 xs)), .int (zI (1 + (i : Int))), .ref b9, .int (zI 4)] := by
  have hS : KS G := hD.1
  have hd := dD_r L9 xs
  have h1 := drw_r (L := L9) (xs := xs) (k := 1 + (i : Int)) (n := dD L9 xs) (by omega)
  have h4 := drw_r (L := L9) (xs := xs) (k := 14 + (i : Int)) (n := 4) (by decide)
  have h5 := drw_r (L := L9) (xs := xs) (k := 18 + (i : Int)) (n := 4) (by decide)
  refine yS3r (SBA G sb w :: RR) (SBA G sb w :: RR) C (z_draw hK hsc (by omega) (by omega)) v_L_draw vs_L_draw s_RL_40 eL_load_47 (fun _ _ h => h) rfl (nle rfl) (nle rfl) (by first | exact nle rfl | omega) (by first | exact nle rfl | omega) rfl ?_
  refine x_iadd C eL_load_50 ?_
  obtain ⟨cap, hcap⟩ : ∃ cap, 4 + drw L9 xs (1 + (i : Int)) (dD L9 xs) = cap := ⟨_, rfl⟩
  rw [hcap]
  have h2 := drw_r (L := L9) (xs := xs) (k := 6 + (i : Int)) (n := cap) (by omega)
  refine x_istore [_, _, _, _, _, _, _, _, _] C eL_load_51 rfl rfl (nlt rfl) ?_
  refine x_aload_n C eL_load_53 rfl ?_
  refine x_bipush C eL_load_54 rfl ?_
  refine x_iload C eL_load_56 rfl ?_
  refine x_iadd C eL_load_58 ?_
  refine x_iload C eL_load_59 rfl ?_
  refine yS3r (SBA G sb w :: RR) (SBA G sb w :: RR) C (z_draw hK hsc (by omega) (by omega)) v_L_draw vs_L_draw s_RL_40 eL_load_61 (fun _ _ h => h) rfl (nle rfl) (nle rfl) (by first | exact nle rfl | omega) (by first | exact nle rfl | omega) rfl ?_
  obtain ⟨lo, hlo⟩ : ∃ lo, drw L9 xs (6 + (i : Int)) cap = lo := ⟨_, rfl⟩
  rw [hlo]
  rw [hlo] at h2
  have h3 := drw_r (L := L9) (xs := xs) (k := 10 + (i : Int)) (n := cap - lo) (by omega)
  refine x_istore [_, _, _, _, _, _, _, _, _] C eL_load_64 rfl rfl (nlt rfl) ?_
  refine x_iload C eL_load_66 rfl ?_
  refine x_iconst C eL_load_68 ?_
  refine x_iadd C eL_load_69 ?_
  refine x_aload_n C eL_load_70 rfl ?_
  refine x_bipush C eL_load_71 rfl ?_
  refine x_iload C eL_load_73 rfl ?_
  refine x_iadd C eL_load_75 ?_
  refine x_iload C eL_load_76 rfl ?_
  refine x_iload C eL_load_78 rfl ?_
  refine x_isub C eL_load_80 ?_
  refine yS3r (SBA G sb w :: RR) (SBA G sb w :: RR) C (z_draw hK hsc (by omega) (by omega)) v_L_draw vs_L_draw s_RL_40 eL_load_81 (fun _ _ h => h) rfl (nle rfl) (nle rfl) (by first | exact nle rfl | omega) (by first | exact nle rfl | omega) rfl ?_
  refine x_iadd C eL_load_84 ?_
  obtain ⟨hi, hhi⟩ : ∃ hi, lo + 1 + drw L9 xs (10 + (i : Int)) (cap - lo) = hi := ⟨_, rfl⟩
  rw [hhi]
  refine x_istore [_, _, _, _, _, _, _, _, _] C eL_load_85 rfl rfl (nlt rfl) ?_
  refine x_aload_n C eL_load_87 rfl ?_
  obtain ⟨q88, b88, hr88, hq88⟩ := lit_RL_47 hS
  refine x_ldcS C hr88 eL_load_88 ?_
  have hn90 : wl_47.length = 6 := rfl
  refine yV1s RR (SBA G sb (w ++ wl_47) :: RR) C (z_appS hK hD (by omega) hbw hq88) v_J4_append_15ec4 vv_J4_append_15ec4 s_RL_49 eL_load_90 (fun _ _ h => h) (rcvP 0 rfl SBA_rcv) rfl (nle rfl) (nle rfl) (by first | exact nle rfl | omega) (by first | exact nle rfl | omega) rfl ?_
  obtain ⟨w90, e90, hb90, hl90⟩ : ∃ z, z = w ++ wl_47 ∧ B7 z ∧ z.length = w.length + (wl_47).length := ⟨_, rfl, B7_app hbw hq88.1.2, List.length_append⟩
  rw [← e90]
  refine x_iload C eL_load_93 rfl ?_
  refine yS1r (SBA G sb w90 :: RR) (SBA G sb w90 :: RR) C (z_name hK (by omega)) v_L_name vs_L_name s_RL_52 eL_load_95 (fun _ _ h => h) rfl (nle rfl) (nle rfl) (by first | exact nle rfl | omega) (by first | exact nle rfl | omega) rfl ?_
  have hn98 : ([97 + (i : Int)] : List Int).length = 1 := rfl
  refine yV1s RR (SBA G sb (w90 ++ [97 + (i : Int)]) :: RR) C (z_appC hK hD (by omega) hb90 (by omega)) v_J4_append_cf468 vv_J4_append_cf468 s_RL_55 eL_load_98 (fun _ _ h => h) (rcvP 0 rfl SBA_rcv) rfl (nle rfl) (nle rfl) (by first | exact nle rfl | omega) (by first | exact nle rfl | omega) rfl ?_
  obtain ⟨w98, e98, hb98, hl98⟩ : ∃ z, z = w90 ++ [97 + (i : Int)] ∧ B7 z ∧ z.length = w90.length + ([97 + (i : Int)]).length := ⟨_, rfl, B7_app hb90 (B7_one (by omega)), List.length_append⟩
  rw [← e98]
  obtain ⟨q101, b101, hr101, hq101⟩ := lit_RL_58 hS
  refine x_ldcS C hr101 eL_load_101 ?_
  have hn103 : wl_58.length = 5 := rfl
  refine yV1s RR (SBA G sb (w98 ++ wl_58) :: RR) C (z_appS hK hD (by omega) hb98 hq101) v_J4_append_15ec4 vv_J4_append_15ec4 s_RL_49 eL_load_103 (fun _ _ h => h) (rcvP 0 rfl SBA_rcv) rfl (nle rfl) (nle rfl) (by first | exact nle rfl | omega) (by first | exact nle rfl | omega) rfl ?_
  obtain ⟨w103, e103, hb103, hl103⟩ : ∃ z, z = w98 ++ wl_58 ∧ B7 z ∧ z.length = w98.length + (wl_58).length := ⟨_, rfl, B7_app hb98 hq101.1.2, List.length_append⟩
  rw [← e103]
  refine x_iload C eL_load_106 rfl ?_
  have hn108 := dg_le2 cap (by omega)
  refine yV1s RR (SBA G sb (w103 ++ dg cap) :: RR) C (z_appI hK hD (by omega) hb103 (by omega)) v_J4_append_bf812 vv_J4_append_bf812 s_RL_60 eL_load_108 (fun _ _ h => h) (rcvP 0 rfl SBA_rcv) rfl (nle rfl) (nle rfl) (by first | exact nle rfl | omega) (by first | exact nle rfl | omega) rfl ?_
  obtain ⟨w108, e108, hb108, hl108⟩ : ∃ z, z = w103 ++ dg cap ∧ B7 z ∧ z.length = w103.length + (dg cap).length := ⟨_, rfl, B7_app hb103 (dg_r (by omega)), List.length_append⟩
  rw [← e108]
  obtain ⟨q111, b111, hr111, hq111⟩ := lit_RL_63 hS
  refine x_ldcS C hr111 eL_load_111 ?_
  have hn113 : wl_63.length = 7 := rfl
  refine yV1s RR (SBA G sb (w108 ++ wl_63) :: RR) C (z_appS hK hD (by omega) hb108 hq111) v_J4_append_15ec4 vv_J4_append_15ec4 s_RL_49 eL_load_113 (fun _ _ h => h) (rcvP 0 rfl SBA_rcv) rfl (nle rfl) (nle rfl) (by first | exact nle rfl | omega) (by first | exact nle rfl | omega) rfl ?_
  obtain ⟨w113, e113, hb113, hl113⟩ : ∃ z, z = w108 ++ wl_63 ∧ B7 z ∧ z.length = w108.length + (wl_63).length := ⟨_, rfl, B7_app hb108 hq111.1.2, List.length_append⟩
  rw [← e113]
  refine x_iload C eL_load_116 rfl ?_
  have hn118 := dg_le2 lo (by omega)
  refine yV1s RR (SBA G sb (w113 ++ dg lo) :: RR) C (z_appI hK hD (by omega) hb113 (by omega)) v_J4_append_bf812 vv_J4_append_bf812 s_RL_60 eL_load_118 (fun _ _ h => h) (rcvP 0 rfl SBA_rcv) rfl (nle rfl) (nle rfl) (by first | exact nle rfl | omega) (by first | exact nle rfl | omega) rfl ?_
  obtain ⟨w118, e118, hb118, hl118⟩ : ∃ z, z = w113 ++ dg lo ∧ B7 z ∧ z.length = w113.length + (dg lo).length := ⟨_, rfl, B7_app hb113 (dg_r (by omega)), List.length_append⟩
  rw [← e118]
  obtain ⟨q121, b121, hr121, hq121⟩ := lit_RL_65 hS
  refine x_ldcS C hr121 eL_load_121 ?_
  have hn123 : wl_65.length = 1 := rfl
  refine yV1s RR (SBA G sb (w118 ++ wl_65) :: RR) C (z_appS hK hD (by omega) hb118 hq121) v_J4_append_15ec4 vv_J4_append_15ec4 s_RL_49 eL_load_123 (fun _ _ h => h) (rcvP 0 rfl SBA_rcv) rfl (nle rfl) (nle rfl) (by first | exact nle rfl | omega) (by first | exact nle rfl | omega) rfl ?_
  obtain ⟨w123, e123, hb123, hl123⟩ : ∃ z, z = w118 ++ wl_65 ∧ B7 z ∧ z.length = w118.length + (wl_65).length := ⟨_, rfl, B7_app hb118 hq121.1.2, List.length_append⟩
  rw [← e123]
  refine x_iload C eL_load_126 rfl ?_
  have hn128 := dg_le2 hi (by omega)
  refine yV1s RR (SBA G sb (w123 ++ dg hi) :: RR) C (z_appI hK hD (by omega) hb123 (by omega)) v_J4_append_bf812 vv_J4_append_bf812 s_RL_60 eL_load_128 (fun _ _ h => h) (rcvP 0 rfl SBA_rcv) rfl (nle rfl) (nle rfl) (by first | exact nle rfl | omega) (by first | exact nle rfl | omega) rfl ?_
  obtain ⟨w128, e128, hb128, hl128⟩ : ∃ z, z = w123 ++ dg hi ∧ B7 z ∧ z.length = w123.length + (dg hi).length := ⟨_, rfl, B7_app hb123 (dg_r (by omega)), List.length_append⟩
  rw [← e128]
  obtain ⟨q131, b131, hr131, hq131⟩ := lit_RL_67 hS
  refine x_ldcS C hr131 eL_load_131 ?_
  have hn133 : wl_67.length = 7 := rfl
  refine yV1s RR (SBA G sb (w128 ++ wl_67) :: RR) C (z_appS hK hD (by omega) hb128 hq131) v_J4_append_15ec4 vv_J4_append_15ec4 s_RL_49 eL_load_133 (fun _ _ h => h) (rcvP 0 rfl SBA_rcv) rfl (nle rfl) (nle rfl) (by first | exact nle rfl | omega) (by first | exact nle rfl | omega) rfl ?_
  obtain ⟨w133, e133, hb133, hl133⟩ : ∃ z, z = w128 ++ wl_67 ∧ B7 z ∧ z.length = w128.length + (wl_67).length := ⟨_, rfl, B7_app hb128 hq131.1.2, List.length_append⟩
  rw [← e133]
  refine x_iconst C eL_load_136 ?_
  refine x_aload_n C eL_load_137 rfl ?_
  refine x_bipush C eL_load_138 rfl ?_
  refine x_iload C eL_load_140 rfl ?_
  refine x_iadd C eL_load_142 ?_
  refine x_iconst C eL_load_143 ?_
  refine yS3r (SBA G sb w133 :: RR) (SBA G sb w133 :: RR) C (z_draw hK hsc (by omega) (by omega)) v_L_draw vs_L_draw s_RL_40 eL_load_144 (fun _ _ h => h) rfl (nle rfl) (nle rfl) (by first | exact nle rfl | omega) (by first | exact nle rfl | omega) rfl ?_
  refine x_iadd C eL_load_147 ?_
  have hn148 := dg_le2 (1 + drw L9 xs (14 + (i : Int)) 4) (by omega)
  refine yV1s RR (SBA G sb (w133 ++ dg (1 + drw L9 xs (14 + (i : Int)) 4)) :: RR) C (z_appI hK hD (by omega) hb133 (by omega)) v_J4_append_bf812 vv_J4_append_bf812 s_RL_60 eL_load_148 (fun _ _ h => h) (rcvP 0 rfl SBA_rcv) rfl (nle rfl) (nle rfl) (by first | exact nle rfl | omega) (by first | exact nle rfl | omega) rfl ?_
  obtain ⟨w148, e148, hb148, hl148⟩ : ∃ z, z = w133 ++ dg (1 + drw L9 xs (14 + (i : Int)) 4) ∧ B7 z ∧ z.length = w133.length + (dg (1 + drw L9 xs (14 + (i : Int)) 4)).length := ⟨_, rfl, B7_app hb133 (dg_r (by omega)), List.length_append⟩
  rw [← e148]
  refine x_pop C eL_load_151 rfl ?_
  refine x_aload_n C eL_load_152 rfl ?_
  refine x_bipush C eL_load_153 rfl ?_
  refine x_iload C eL_load_155 rfl ?_
  refine x_iadd C eL_load_157 ?_
  refine x_iconst C eL_load_158 ?_
  refine yS3r (SBA G sb w148 :: RR) (SBA G sb w148 :: RR) C (z_draw hK hsc (by omega) (by omega)) v_L_draw vs_L_draw s_RL_40 eL_load_159 (fun _ _ h => h) rfl (nle rfl) (nle rfl) (by first | exact nle rfl | omega) (by first | exact nle rfl | omega) rfl ?_
  obtain ⟨ec, hec⟩ : ∃ ec, drw L9 xs (18 + (i : Int)) 4 = ec := ⟨_, rfl⟩
  rw [hec]
  rw [hec] at h5
  refine x_istore [_, _, _, _, _, _, _, _, _] C eL_load_162 rfl rfl (nlt rfl) ?_
  refine x_iload C eL_load_164 rfl ?_
  refine x_if_le 198 C eL_load_166 rfl (by omega) (fun h166 => ?_) (fun h166 => ?_)
  · refine x_aload_n C eL_load_198 rfl ?_
    obtain ⟨q199, b199, hr199, hq199⟩ := lit_RL_75 hS
    refine x_ldcS C hr199 eL_load_199 ?_
    have hn201 : wl_75.length = 1 := rfl
    refine yV1s RR (SBA G sb (w148 ++ wl_75) :: RR) C (z_appS hK hD (by omega) hb148 hq199) v_J4_append_15ec4 vv_J4_append_15ec4 s_RL_49 eL_load_201 (fun _ _ h => h) (rcvP 0 rfl SBA_rcv) rfl (nle rfl) (nle rfl) (by first | exact nle rfl | omega) (by first | exact nle rfl | omega) rfl ?_
    obtain ⟨w201, e201, hb201, hl201⟩ : ∃ z, z = w148 ++ wl_75 ∧ B7 z ∧ z.length = w148.length + (wl_75).length := ⟨_, rfl, B7_app hb148 hq199.1.2, List.length_append⟩
    rw [← e201]
    refine x_pop C eL_load_204 rfl ?_
    refine x_lv [_, _, _, _, _, none, none, none, none] rfl (lx_drop _ [5, 6, 7, 8] rfl) ?_
    refine x_widen (k' := k + 12) (n' := n + 7224) (by omega) (by omega) (K w201 hb201 (by omega) (fun R => ?_))
    have hE : ecT ec ([59] ++ R) = wl_75 ++ R := by
      unfold ecT
      rw [if_neg (by omega), if_neg (by omega), if_neg (by omega)]
      try rfl
    have eL : lineP (dP L9 xs) i R = lineT (97 + (i : Int)) cap lo hi (1 + drw L9 xs (14 + (i : Int)) 4) ec R := by
      unfold lineP dP
      dsimp only
      rw [hcap, hlo, hhi, hec]
    rw [eL]
    unfold lineT
    rw [hE, e201, e148, e133, e128, e123, e118, e113, e108, e103, e98, e90]
    simp only [List.append_assoc]
    rfl
    
  · refine x_aload_n C eL_load_169 rfl ?_
    refine x_iload C eL_load_170 rfl ?_
    refine x_iconst C eL_load_172 ?_
    refine x_icmp_ne 181 C eL_load_173 rfl (by omega) (by omega) (fun h173 => ?_) (fun h173 => ?_)
    · refine x_iload C eL_load_181 rfl ?_
      refine x_iconst C eL_load_183 ?_
      refine x_icmp_ne 192 C eL_load_184 rfl (by omega) (by omega) (fun h184 => ?_) (fun h184 => ?_)
      · obtain ⟨q192, b192, hr192, hq192⟩ := lit_RL_73 hS
        refine x_ldcS C hr192 eL_load_192 ?_
        have hn194 : wl_73.length = 11 := rfl
        refine yV1s RR (SBA G sb (w148 ++ wl_73) :: RR) C (z_appS hK hD (by omega) hb148 hq192) v_J4_append_15ec4 vv_J4_append_15ec4 s_RL_49 eL_load_194 (fun _ _ h => h) (rcvP 0 rfl SBA_rcv) rfl (nle rfl) (nle rfl) (by first | exact nle rfl | omega) (by first | exact nle rfl | omega) rfl ?_
        obtain ⟨w194, e194, hb194, hl194⟩ : ∃ z, z = w148 ++ wl_73 ∧ B7 z ∧ z.length = w148.length + (wl_73).length := ⟨_, rfl, B7_app hb148 hq192.1.2, List.length_append⟩
        rw [← e194]
        refine x_pop C eL_load_197 rfl ?_
        refine x_aload_n C eL_load_198 rfl ?_
        obtain ⟨q199, b199, hr199, hq199⟩ := lit_RL_75 hS
        refine x_ldcS C hr199 eL_load_199 ?_
        have hn201 : wl_75.length = 1 := rfl
        refine yV1s RR (SBA G sb (w194 ++ wl_75) :: RR) C (z_appS hK hD (by omega) hb194 hq199) v_J4_append_15ec4 vv_J4_append_15ec4 s_RL_49 eL_load_201 (fun _ _ h => h) (rcvP 0 rfl SBA_rcv) rfl (nle rfl) (nle rfl) (by first | exact nle rfl | omega) (by first | exact nle rfl | omega) rfl ?_
        obtain ⟨w201, e201, hb201, hl201⟩ : ∃ z, z = w194 ++ wl_75 ∧ B7 z ∧ z.length = w194.length + (wl_75).length := ⟨_, rfl, B7_app hb194 hq199.1.2, List.length_append⟩
        rw [← e201]
        refine x_pop C eL_load_204 rfl ?_
        refine x_lv [_, _, _, _, _, none, none, none, none] rfl (lx_drop _ [5, 6, 7, 8] rfl) ?_
        refine x_widen (k' := k + 12) (n' := n + 7224) (by omega) (by omega) (K w201 hb201 (by omega) (fun R => ?_))
        have hE : ecT ec ([59] ++ R) = wl_73 ++ (wl_75 ++ R) := by
          unfold ecT
          rw [if_neg (by omega), if_neg (by omega), if_pos (by omega)]
          try rfl
        have eL : lineP (dP L9 xs) i R = lineT (97 + (i : Int)) cap lo hi (1 + drw L9 xs (14 + (i : Int)) 4) ec R := by
          unfold lineP dP
          dsimp only
          rw [hcap, hlo, hhi, hec]
        rw [eL]
        unfold lineT
        rw [hE, e201, e194, e148, e133, e128, e123, e118, e113, e108, e103, e98, e90]
        simp only [List.append_assoc]
        rfl
        
        
      · obtain ⟨q187, b187, hr187, hq187⟩ := lit_RL_71 hS
        refine x_ldcS C hr187 eL_load_187 ?_
        refine x_goto (pc' := 194) C eL_load_189 rfl ?_
        have hn194 : wl_71.length = 10 := rfl
        refine yV1s RR (SBA G sb (w148 ++ wl_71) :: RR) C (z_appS hK hD (by omega) hb148 hq187) v_J4_append_15ec4 vv_J4_append_15ec4 s_RL_49 eL_load_194 (fun _ _ h => h) (rcvP 0 rfl SBA_rcv) rfl (nle rfl) (nle rfl) (by first | exact nle rfl | omega) (by first | exact nle rfl | omega) rfl ?_
        obtain ⟨w194, e194, hb194, hl194⟩ : ∃ z, z = w148 ++ wl_71 ∧ B7 z ∧ z.length = w148.length + (wl_71).length := ⟨_, rfl, B7_app hb148 hq187.1.2, List.length_append⟩
        rw [← e194]
        refine x_pop C eL_load_197 rfl ?_
        refine x_aload_n C eL_load_198 rfl ?_
        obtain ⟨q199, b199, hr199, hq199⟩ := lit_RL_75 hS
        refine x_ldcS C hr199 eL_load_199 ?_
        have hn201 : wl_75.length = 1 := rfl
        refine yV1s RR (SBA G sb (w194 ++ wl_75) :: RR) C (z_appS hK hD (by omega) hb194 hq199) v_J4_append_15ec4 vv_J4_append_15ec4 s_RL_49 eL_load_201 (fun _ _ h => h) (rcvP 0 rfl SBA_rcv) rfl (nle rfl) (nle rfl) (by first | exact nle rfl | omega) (by first | exact nle rfl | omega) rfl ?_
        obtain ⟨w201, e201, hb201, hl201⟩ : ∃ z, z = w194 ++ wl_75 ∧ B7 z ∧ z.length = w194.length + (wl_75).length := ⟨_, rfl, B7_app hb194 hq199.1.2, List.length_append⟩
        rw [← e201]
        refine x_pop C eL_load_204 rfl ?_
        refine x_lv [_, _, _, _, _, none, none, none, none] rfl (lx_drop _ [5, 6, 7, 8] rfl) ?_
        refine x_widen (k' := k + 12) (n' := n + 7224) (by omega) (by omega) (K w201 hb201 (by omega) (fun R => ?_))
        have hE : ecT ec ([59] ++ R) = wl_71 ++ (wl_75 ++ R) := by
          unfold ecT
          rw [if_neg (by omega), if_pos (by omega)]
          try rfl
        have eL : lineP (dP L9 xs) i R = lineT (97 + (i : Int)) cap lo hi (1 + drw L9 xs (14 + (i : Int)) 4) ec R := by
          unfold lineP dP
          dsimp only
          rw [hcap, hlo, hhi, hec]
        rw [eL]
        unfold lineT
        rw [hE, e201, e194, e148, e133, e128, e123, e118, e113, e108, e103, e98, e90]
        simp only [List.append_assoc]
        rfl
        
        
    · obtain ⟨q176, b176, hr176, hq176⟩ := lit_RL_69 hS
      refine x_ldcS C hr176 eL_load_176 ?_
      refine x_goto (pc' := 194) C eL_load_178 rfl ?_
      have hn194 : wl_69.length = 10 := rfl
      refine yV1s RR (SBA G sb (w148 ++ wl_69) :: RR) C (z_appS hK hD (by omega) hb148 hq176) v_J4_append_15ec4 vv_J4_append_15ec4 s_RL_49 eL_load_194 (fun _ _ h => h) (rcvP 0 rfl SBA_rcv) rfl (nle rfl) (nle rfl) (by first | exact nle rfl | omega) (by first | exact nle rfl | omega) rfl ?_
      obtain ⟨w194, e194, hb194, hl194⟩ : ∃ z, z = w148 ++ wl_69 ∧ B7 z ∧ z.length = w148.length + (wl_69).length := ⟨_, rfl, B7_app hb148 hq176.1.2, List.length_append⟩
      rw [← e194]
      refine x_pop C eL_load_197 rfl ?_
      refine x_aload_n C eL_load_198 rfl ?_
      obtain ⟨q199, b199, hr199, hq199⟩ := lit_RL_75 hS
      refine x_ldcS C hr199 eL_load_199 ?_
      have hn201 : wl_75.length = 1 := rfl
      refine yV1s RR (SBA G sb (w194 ++ wl_75) :: RR) C (z_appS hK hD (by omega) hb194 hq199) v_J4_append_15ec4 vv_J4_append_15ec4 s_RL_49 eL_load_201 (fun _ _ h => h) (rcvP 0 rfl SBA_rcv) rfl (nle rfl) (nle rfl) (by first | exact nle rfl | omega) (by first | exact nle rfl | omega) rfl ?_
      obtain ⟨w201, e201, hb201, hl201⟩ : ∃ z, z = w194 ++ wl_75 ∧ B7 z ∧ z.length = w194.length + (wl_75).length := ⟨_, rfl, B7_app hb194 hq199.1.2, List.length_append⟩
      rw [← e201]
      refine x_pop C eL_load_204 rfl ?_
      refine x_lv [_, _, _, _, _, none, none, none, none] rfl (lx_drop _ [5, 6, 7, 8] rfl) ?_
      refine x_widen (k' := k + 12) (n' := n + 7224) (by omega) (by omega) (K w201 hb201 (by omega) (fun R => ?_))
      have hE : ecT ec ([59] ++ R) = wl_69 ++ (wl_75 ++ R) := by
        unfold ecT
        rw [if_pos (by omega)]
        try rfl
      have eL : lineP (dP L9 xs) i R = lineT (97 + (i : Int)) cap lo hi (1 + drw L9 xs (14 + (i : Int)) 4) ec R := by
        unfold lineP dP
        dsimp only
        rw [hcap, hlo, hhi, hec]
      rw [eL]
      unfold lineT
      rw [hE, e201, e194, e148, e133, e128, e123, e118, e113, e108, e103, e98, e90]
      simp only [List.append_assoc]
      rfl
      
      

set_option maxHeartbeats 4000000 in
set_option maxRecDepth 100000 in
theorem z_ld_211 {G : Gm} {X : Cx} {l : Launch} (hK : KG G) (hD : KD G) {e b9 L9 sb m : Nat} {xs : Nat → Int32} {RR : List SA} {k n : Nat} {w : List Int} (C : OKc G X l RL "load" cL_load 9 (some .boolean) 14 250 70000) (hsc : SC G b9 L9 xs) (hm : 1 ≤ m ∧ m ≤ 4) (hbw : B7 w) (hlw : w.length ≤ 188) (hn : k + 7 ≤ 250 ∧ n + 4214 ≤ 70000) (K : ∀ w9 : List Int, B7 w9 → w9.length ≤ w.length + 21 → (∀ R, w9 ++ R = w ++ lendO (dLe L9 xs m) (dX L9 xs m) (dY L9 xs m) (dT L9 xs) R) → WX G X (k + 7) (n + 4214) (SBA G sb w9 :: RR) 303 [some (.ref e), some (.ref b9), some (.int (zI (m : Int))), some (.ref sb), some (.int (zI ((dLe L9 xs m : Nat) : Int))), none, none, none, none] []) : WX G X k n (SBA G sb w :: RR) 211 [some (.ref e), some (.ref b9), some (.int (zI (m : Int))), some (.ref sb), some (.int (zI (m : Int))), none, none, none, none] [] := by
  have hS : KS G := hD.1
  have h22 := drw_r (L := L9) (xs := xs) (k := 22) (n := 2) (by decide)
  have h23 := drw_r (L := L9) (xs := xs) (k := 23) (n := (m : Int)) (by omega)
  have h24 := drw_r (L := L9) (xs := xs) (k := 24) (n := 5) (by decide)
  have hy1 := Int.emod_nonneg (drw L9 xs 23 (m : Int) + 1) (b := (m : Int)) (by omega)
  have hy2 := Int.emod_lt_of_pos (drw L9 xs 23 (m : Int) + 1) (b := (m : Int)) (by omega)
  refine x_iload_n C eL_load_211 rfl ?_
  refine x_iconst C eL_load_212 ?_
  refine x_icmp_le 230 C eL_load_213 rfl (by omega) (by omega) (fun h213 => ?_) (fun h213 => ?_)
  · refine x_iconst C eL_load_230 ?_
    refine x_istore [_, _, _, _, _, _, _, _, _] C eL_load_231 rfl rfl (nlt rfl) ?_
    refine x_iload C eL_load_233 rfl ?_
    refine x_iconst C eL_load_235 ?_
    refine x_icmp_ne 303 C eL_load_236 rfl (by omega) (by omega) (fun h236 => ?_) (fun h236 => ?_)
    · skip
      have hle : dLe L9 xs m = 0 := by unfold dLe; rw [if_neg (by omega)]
      have K9 := K w hbw (by omega) (fun R => by
        unfold lendO
        rw [if_neg (by omega)])
      rw [hle] at K9
      refine x_lv [_, _, _, _, _, none, none, none, none] rfl (lx_drop _ [5, 6, 7, 8] rfl) ?_
      exact x_widen (by omega) (by omega) K9
    · exfalso; omega
    
  · refine x_aload_n C eL_load_216 rfl ?_
    refine x_bipush C eL_load_217 rfl ?_
    refine x_iconst C eL_load_219 ?_
    refine yS3r (SBA G sb w :: RR) (SBA G sb w :: RR) C (z_draw hK hsc (by omega) (by omega)) v_L_draw vs_L_draw s_RL_40 eL_load_220 (fun _ _ h => h) rfl (nle rfl) (nle rfl) (by first | exact nle rfl | omega) (by first | exact nle rfl | omega) rfl ?_
    refine x_if_ne 230 C eL_load_223 rfl (by omega) (fun h223 => ?_) (fun h223 => ?_)
    · refine x_iconst C eL_load_230 ?_
      refine x_istore [_, _, _, _, _, _, _, _, _] C eL_load_231 rfl rfl (nlt rfl) ?_
      refine x_iload C eL_load_233 rfl ?_
      refine x_iconst C eL_load_235 ?_
      refine x_icmp_ne 303 C eL_load_236 rfl (by omega) (by omega) (fun h236 => ?_) (fun h236 => ?_)
      · skip
        have hle : dLe L9 xs m = 0 := by unfold dLe; rw [if_neg (by omega)]
        have K9 := K w hbw (by omega) (fun R => by
          unfold lendO
          rw [if_neg (by omega)])
        rw [hle] at K9
        refine x_lv [_, _, _, _, _, none, none, none, none] rfl (lx_drop _ [5, 6, 7, 8] rfl) ?_
        exact x_widen (by omega) (by omega) K9
      · exfalso; omega
      
    · refine x_iconst C eL_load_226 ?_
      refine x_goto (pc' := 231) C eL_load_227 rfl ?_
      refine x_istore [_, _, _, _, _, _, _, _, _] C eL_load_231 rfl rfl (nlt rfl) ?_
      refine x_iload C eL_load_233 rfl ?_
      refine x_iconst C eL_load_235 ?_
      refine x_icmp_ne 303 C eL_load_236 rfl (by omega) (by omega) (fun h236 => ?_) (fun h236 => ?_)
      · exfalso; omega
      · skip
        refine x_aload_n C eL_load_239 rfl ?_
        obtain ⟨q240, b240, hr240, hq240⟩ := lit_RL_77 hS
        refine x_ldcS C hr240 eL_load_240 ?_
        have hn242 : wl_77.length = 6 := rfl
        refine yV1s RR (SBA G sb (w ++ wl_77) :: RR) C (z_appS hK hD (by omega) hbw hq240) v_J4_append_15ec4 vv_J4_append_15ec4 s_RL_49 eL_load_242 (fun _ _ h => h) (rcvP 0 rfl SBA_rcv) rfl (nle rfl) (nle rfl) (by first | exact nle rfl | omega) (by first | exact nle rfl | omega) rfl ?_
        obtain ⟨w242, e242, hb242, hl242⟩ : ∃ z, z = w ++ wl_77 ∧ B7 z ∧ z.length = w.length + (wl_77).length := ⟨_, rfl, B7_app hbw hq240.1.2, List.length_append⟩
        rw [← e242]
        refine x_aload_n C eL_load_245 rfl ?_
        refine x_bipush C eL_load_246 rfl ?_
        refine x_iload_n C eL_load_248 rfl ?_
        refine yS3r (SBA G sb w242 :: RR) (SBA G sb w242 :: RR) C (z_draw hK hsc (by omega) (by omega)) v_L_draw vs_L_draw s_RL_40 eL_load_249 (fun _ _ h => h) rfl (nle rfl) (nle rfl) (by first | exact nle rfl | omega) (by first | exact nle rfl | omega) rfl ?_
        refine yS1r (SBA G sb w242 :: RR) (SBA G sb w242 :: RR) C (z_name hK (by omega)) v_L_name vs_L_name s_RL_52 eL_load_252 (fun _ _ h => h) rfl (nle rfl) (nle rfl) (by first | exact nle rfl | omega) (by first | exact nle rfl | omega) rfl ?_
        have hn255 : ([97 + drw L9 xs 23 (m : Int)] : List Int).length = 1 := rfl
        refine yV1s RR (SBA G sb (w242 ++ [97 + drw L9 xs 23 (m : Int)]) :: RR) C (z_appC hK hD (by omega) hb242 (by omega)) v_J4_append_cf468 vv_J4_append_cf468 s_RL_55 eL_load_255 (fun _ _ h => h) (rcvP 0 rfl SBA_rcv) rfl (nle rfl) (nle rfl) (by first | exact nle rfl | omega) (by first | exact nle rfl | omega) rfl ?_
        obtain ⟨w255, e255, hb255, hl255⟩ : ∃ z, z = w242 ++ [97 + drw L9 xs 23 (m : Int)] ∧ B7 z ∧ z.length = w242.length + ([97 + drw L9 xs 23 (m : Int)]).length := ⟨_, rfl, B7_app hb242 (B7_one (by omega)), List.length_append⟩
        rw [← e255]
        obtain ⟨q258, b258, hr258, hq258⟩ := lit_RL_79 hS
        refine x_ldcS C hr258 eL_load_258 ?_
        have hn260 : wl_79.length = 5 := rfl
        refine yV1s RR (SBA G sb (w255 ++ wl_79) :: RR) C (z_appS hK hD (by omega) hb255 hq258) v_J4_append_15ec4 vv_J4_append_15ec4 s_RL_49 eL_load_260 (fun _ _ h => h) (rcvP 0 rfl SBA_rcv) rfl (nle rfl) (nle rfl) (by first | exact nle rfl | omega) (by first | exact nle rfl | omega) rfl ?_
        obtain ⟨w260, e260, hb260, hl260⟩ : ∃ z, z = w255 ++ wl_79 ∧ B7 z ∧ z.length = w255.length + (wl_79).length := ⟨_, rfl, B7_app hb255 hq258.1.2, List.length_append⟩
        rw [← e260]
        refine x_aload_n C eL_load_263 rfl ?_
        refine x_bipush C eL_load_264 rfl ?_
        refine x_iload_n C eL_load_266 rfl ?_
        refine yS3r (SBA G sb w260 :: RR) (SBA G sb w260 :: RR) C (z_draw hK hsc (by omega) (by omega)) v_L_draw vs_L_draw s_RL_40 eL_load_267 (fun _ _ h => h) rfl (nle rfl) (nle rfl) (by first | exact nle rfl | omega) (by first | exact nle rfl | omega) rfl ?_
        refine x_iconst C eL_load_270 ?_
        refine x_iadd C eL_load_271 ?_
        refine x_iload_n C eL_load_272 rfl ?_
        refine x_irem C eL_load_273 (by omega) ?_
        refine yS1r (SBA G sb w260 :: RR) (SBA G sb w260 :: RR) C (z_name hK (by omega)) v_L_name vs_L_name s_RL_52 eL_load_274 (fun _ _ h => h) rfl (nle rfl) (nle rfl) (by first | exact nle rfl | omega) (by first | exact nle rfl | omega) rfl ?_
        have hn277 : ([97 + (drw L9 xs 23 (m : Int) + 1) % (m : Int)] : List Int).length = 1 := rfl
        refine yV1s RR (SBA G sb (w260 ++ [97 + (drw L9 xs 23 (m : Int) + 1) % (m : Int)]) :: RR) C (z_appC hK hD (by omega) hb260 (by omega)) v_J4_append_cf468 vv_J4_append_cf468 s_RL_55 eL_load_277 (fun _ _ h => h) (rcvP 0 rfl SBA_rcv) rfl (nle rfl) (nle rfl) (by first | exact nle rfl | omega) (by first | exact nle rfl | omega) rfl ?_
        obtain ⟨w277, e277, hb277, hl277⟩ : ∃ z, z = w260 ++ [97 + (drw L9 xs 23 (m : Int) + 1) % (m : Int)] ∧ B7 z ∧ z.length = w260.length + ([97 + (drw L9 xs 23 (m : Int) + 1) % (m : Int)]).length := ⟨_, rfl, B7_app hb260 (B7_one (by omega)), List.length_append⟩
        rw [← e277]
        obtain ⟨q280, b280, hr280, hq280⟩ := lit_RL_81 hS
        refine x_ldcS C hr280 eL_load_280 ?_
        have hn282 : wl_81.length = 5 := rfl
        refine yV1s RR (SBA G sb (w277 ++ wl_81) :: RR) C (z_appS hK hD (by omega) hb277 hq280) v_J4_append_15ec4 vv_J4_append_15ec4 s_RL_49 eL_load_282 (fun _ _ h => h) (rcvP 0 rfl SBA_rcv) rfl (nle rfl) (nle rfl) (by first | exact nle rfl | omega) (by first | exact nle rfl | omega) rfl ?_
        obtain ⟨w282, e282, hb282, hl282⟩ : ∃ z, z = w277 ++ wl_81 ∧ B7 z ∧ z.length = w277.length + (wl_81).length := ⟨_, rfl, B7_app hb277 hq280.1.2, List.length_append⟩
        rw [← e282]
        refine x_iconst C eL_load_285 ?_
        refine x_aload_n C eL_load_286 rfl ?_
        refine x_bipush C eL_load_287 rfl ?_
        refine x_iconst C eL_load_289 ?_
        refine yS3r (SBA G sb w282 :: RR) (SBA G sb w282 :: RR) C (z_draw hK hsc (by omega) (by omega)) v_L_draw vs_L_draw s_RL_40 eL_load_290 (fun _ _ h => h) rfl (nle rfl) (nle rfl) (by first | exact nle rfl | omega) (by first | exact nle rfl | omega) rfl ?_
        refine x_iadd C eL_load_293 ?_
        have hn294 := dg_le2 (1 + drw L9 xs 24 5) (by omega)
        refine yV1s RR (SBA G sb (w282 ++ dg (1 + drw L9 xs 24 5)) :: RR) C (z_appI hK hD (by omega) hb282 (by omega)) v_J4_append_bf812 vv_J4_append_bf812 s_RL_60 eL_load_294 (fun _ _ h => h) (rcvP 0 rfl SBA_rcv) rfl (nle rfl) (nle rfl) (by first | exact nle rfl | omega) (by first | exact nle rfl | omega) rfl ?_
        obtain ⟨w294, e294, hb294, hl294⟩ : ∃ z, z = w282 ++ dg (1 + drw L9 xs 24 5) ∧ B7 z ∧ z.length = w282.length + (dg (1 + drw L9 xs 24 5)).length := ⟨_, rfl, B7_app hb282 (dg_r (by omega)), List.length_append⟩
        rw [← e294]
        obtain ⟨q297, b297, hr297, hq297⟩ := lit_RL_75 hS
        refine x_ldcS C hr297 eL_load_297 ?_
        have hn299 : wl_75.length = 1 := rfl
        refine yV1s RR (SBA G sb (w294 ++ wl_75) :: RR) C (z_appS hK hD (by omega) hb294 hq297) v_J4_append_15ec4 vv_J4_append_15ec4 s_RL_49 eL_load_299 (fun _ _ h => h) (rcvP 0 rfl SBA_rcv) rfl (nle rfl) (nle rfl) (by first | exact nle rfl | omega) (by first | exact nle rfl | omega) rfl ?_
        obtain ⟨w299, e299, hb299, hl299⟩ : ∃ z, z = w294 ++ wl_75 ∧ B7 z ∧ z.length = w294.length + (wl_75).length := ⟨_, rfl, B7_app hb294 hq297.1.2, List.length_append⟩
        rw [← e299]
        refine x_pop C eL_load_302 rfl ?_
        have hle : dLe L9 xs m = 1 := by unfold dLe; rw [if_pos ⟨by omega, by omega⟩]
        have K9 := K w299 hb299 (by omega) (fun R => by
          have ex : ((dX L9 xs m : Nat) : Int) = drw L9 xs 23 (m : Int) := by unfold dX; omega
          have ey : ((dY L9 xs m : Nat) : Int) = (drw L9 xs 23 (m : Int) + 1) % (m : Int) := by unfold dY; omega
          unfold lendO
          rw [if_pos hle, ex, ey]
          unfold lendT dT
          rw [e299, e294, e282, e277, e260, e255, e242]
          simp only [List.append_assoc]
          rfl)
        rw [hle] at K9
        refine x_lv [_, _, _, _, _, none, none, none, none] rfl (lx_drop _ [5, 6, 7, 8] rfl) ?_
        exact x_widen (by omega) (by omega) K9
      
      

set_option maxHeartbeats 4000000 in
set_option maxRecDepth 100000 in
theorem z_ld_315 {G : Gm} {X : Cx} {l : Launch} (hK : KG G) (hD : KD G) {e b9 L9 sb m : Nat} {xs : Nat → Int32} {RR : List SA} {k n : Nat} {w : List Int} (C : OKc G X l RL "load" cL_load 9 (some .boolean) 14 250 70000) (hsc : SC G b9 L9 xs) (hm : 1 ≤ m ∧ m ≤ 4) (hbw : B7 w) {t : Nat} {le ty : Int} (ht9 : t < 2) (hty : 0 ≤ ty ∧ ty ≤ 100) (hlw : w.length ≤ 249) (hn : k + 20 ≤ 250 ∧ n + 12040 ≤ 70000) (K : ∀ w9 : List Int, B7 w9 → w9.length ≤ w.length + 40 → (∀ R, w9 ++ R = w ++ tyO (dL L9 xs m t) (dN L9 xs t) (dF L9 xs) R) → WX G X (k + 20) (n + 12040) (SBA G sb w9 :: RR) 430 [some (.ref e), some (.ref b9), some (.int (zI (m : Int))), some (.ref sb), some (.int (zI le)), some (.int (zI (ty + ((dN L9 xs t : Nat) : Int)))), some (.int (zI (t : Int))), none, none] []) : WX G X k n (SBA G sb w :: RR) 315 [some (.ref e), some (.ref b9), some (.int (zI (m : Int))), some (.ref sb), some (.int (zI le)), some (.int (zI ty)), some (.int (zI (t : Int))), none, none] [] := by
  have hS : KS G := hD.1
  have h25 := drw_r (L := L9) (xs := xs) (k := 25 + (t : Int)) (n := 9) (by decide)
  have h27 := drw_r (L := L9) (xs := xs) (k := 27 + (t : Int)) (n := (m : Int)) (by omega)
  refine x_aload_n C eL_load_315 rfl ?_
  refine x_bipush C eL_load_316 rfl ?_
  refine x_iload C eL_load_318 rfl ?_
  refine x_iadd C eL_load_320 ?_
  refine x_bipush C eL_load_321 rfl ?_
  refine yS3r (SBA G sb w :: RR) (SBA G sb w :: RR) C (z_draw hK hsc (by omega) (by omega)) v_L_draw vs_L_draw s_RL_40 eL_load_323 (fun _ _ h => h) rfl (nle rfl) (nle rfl) (by first | exact nle rfl | omega) (by first | exact nle rfl | omega) rfl ?_
  obtain ⟨ma, hma⟩ : ∃ ma, drw L9 xs (25 + (t : Int)) 9 = ma := ⟨_, rfl⟩
  rw [hma]
  rw [hma] at h25
  refine x_istore [_, _, _, _, _, _, _, _, _] C eL_load_326 rfl rfl (nlt rfl) ?_
  have loop : ∀ (f j : Nat) (u : List Int), B7 u → 0 < ma → (j : Int) ≤ ma → ma < (j : Int) + f → u.length ≤ w.length + 7 + 4 * j → (∀ R, u ++ R = w ++ (w_type ++ ([32] ++ ([108, 97 + drw L9 xs (27 + (t : Int)) (m : Int)] ++ numsT (dF L9 xs) 0 j R)))) → WX G X (k + 2 + 2 * j) (n + 1204 + 1204 * j) (SBA G sb u :: RR) 362 [some (.ref e), some (.ref b9), some (.int (zI (m : Int))), some (.ref sb), some (.int (zI le)), some (.int (zI ty)), some (.int (zI (t : Int))), some (.int (zI ma)), some (.int (zI ((j : Int))))] [] := by
    intro f
    induction f with
    | zero => intro j u hbu hp h0 h1 hlu hU; exfalso; omega
    | succ f ih =>
      intro j u hbu hp h0 h1 hlu hU
      have h29 := drw_r (L := L9) (xs := xs) (k := 29 + (j : Int)) (n := 4) (by decide)
      have h30 := drw_r (L := L9) (xs := xs) (k := 29 + (j : Int)) (n := 127) (by decide)
      refine x_iload C eL_load_362 rfl ?_
      refine x_iload C eL_load_364 rfl ?_
      refine x_icmp_ge 416 C eL_load_366 rfl (by omega) (by omega) (fun h366 => ?_) (fun h366 => ?_)
      · refine x_aload_n C eL_load_416 rfl ?_
        obtain ⟨q417, b417, hr417, hq417⟩ := lit_RL_75 hS
        refine x_ldcS C hr417 eL_load_417 ?_
        have hn419 : wl_75.length = 1 := rfl
        refine yV1s RR (SBA G sb (u ++ wl_75) :: RR) C (z_appS hK hD (by omega) hbu hq417) v_J4_append_15ec4 vv_J4_append_15ec4 s_RL_49 eL_load_419 (fun _ _ h => h) (rcvP 0 rfl SBA_rcv) rfl (nle rfl) (nle rfl) (by first | exact nle rfl | omega) (by first | exact nle rfl | omega) rfl ?_
        obtain ⟨w419, e419, hb419, hl419⟩ : ∃ z, z = u ++ wl_75 ∧ B7 z ∧ z.length = u.length + (wl_75).length := ⟨_, rfl, B7_app hbu hq417.1.2, List.length_append⟩
        rw [← e419]
        refine x_pop C eL_load_422 rfl ?_
        refine x_iload C eL_load_423 rfl ?_
        refine x_iload C eL_load_425 rfl ?_
        refine x_iadd C eL_load_427 ?_
        refine x_istore [_, _, _, _, _, _, _, _, _] C eL_load_428 rfl rfl (nlt rfl) ?_
        have hdn : ((dN L9 xs t : Nat) : Int) = ma := by unfold dN; rw [hma]; omega
        have K9 := K w419 hb419 (by omega) (fun R => by
          have el : ((dL L9 xs m t : Nat) : Int) = drw L9 xs (27 + (t : Int)) (m : Int) := by unfold dL; omega
          unfold tyO
          rw [if_neg (by omega), el]
          unfold typeT
          have h9 := hU (wl_75 ++ R)
          rw [e419, List.append_assoc, h9]
          rw [show dN L9 xs t = j by omega])
        rw [hdn] at K9
        refine x_lv [_, _, _, _, _, _, _, none, none] rfl (lx_drop _ [7, 8] rfl) ?_
        exact x_widen (by omega) (by omega) K9
      · refine x_aload_n C eL_load_369 rfl ?_
        obtain ⟨q370, b370, hr370, hq370⟩ := lit_RL_65 hS
        refine x_ldcS C hr370 eL_load_370 ?_
        have hn372 : wl_65.length = 1 := rfl
        refine yV1s RR (SBA G sb (u ++ wl_65) :: RR) C (z_appS hK hD (by omega) hbu hq370) v_J4_append_15ec4 vv_J4_append_15ec4 s_RL_49 eL_load_372 (fun _ _ h => h) (rcvP 0 rfl SBA_rcv) rfl (nle rfl) (nle rfl) (by first | exact nle rfl | omega) (by first | exact nle rfl | omega) rfl ?_
        obtain ⟨w372, e372, hb372, hl372⟩ : ∃ z, z = u ++ wl_65 ∧ B7 z ∧ z.length = u.length + (wl_65).length := ⟨_, rfl, B7_app hbu hq370.1.2, List.length_append⟩
        rw [← e372]
        refine x_aload_n C eL_load_375 rfl ?_
        refine x_bipush C eL_load_376 rfl ?_
        refine x_iload C eL_load_378 rfl ?_
        refine x_iadd C eL_load_380 ?_
        refine x_iconst C eL_load_381 ?_
        refine yS3r (SBA G sb w372 :: RR) (SBA G sb w372 :: RR) C (z_draw hK hsc (by omega) (by omega)) v_L_draw vs_L_draw s_RL_40 eL_load_382 (fun _ _ h => h) rfl (nle rfl) (nle rfl) (by first | exact nle rfl | omega) (by first | exact nle rfl | omega) rfl ?_
        refine x_if_ne 393 C eL_load_385 rfl (by omega) (fun h385 => ?_) (fun h385 => ?_)
        · refine x_iconst C eL_load_393 ?_
          refine x_aload_n C eL_load_394 rfl ?_
          refine x_bipush C eL_load_395 rfl ?_
          refine x_iload C eL_load_397 rfl ?_
          refine x_iadd C eL_load_399 ?_
          refine x_bipush C eL_load_400 rfl ?_
          refine yS3r (SBA G sb w372 :: RR) (SBA G sb w372 :: RR) C (z_draw hK hsc (by omega) (by omega)) v_L_draw vs_L_draw s_RL_40 eL_load_402 (fun _ _ h => h) rfl (nle rfl) (nle rfl) (by first | exact nle rfl | omega) (by first | exact nle rfl | omega) rfl ?_
          refine x_iadd C eL_load_405 ?_
          have hn406 := dg_le (1 + drw L9 xs (29 + (j : Int)) 127)
          refine yV1s RR (SBA G sb (w372 ++ dg (1 + drw L9 xs (29 + (j : Int)) 127)) :: RR) C (z_appI hK hD (by omega) hb372 (by omega)) v_J4_append_bf812 vv_J4_append_bf812 s_RL_60 eL_load_406 (fun _ _ h => h) (rcvP 0 rfl SBA_rcv) rfl (nle rfl) (nle rfl) (by first | exact nle rfl | omega) (by first | exact nle rfl | omega) rfl ?_
          obtain ⟨w406, e406, hb406, hl406⟩ : ∃ z, z = w372 ++ dg (1 + drw L9 xs (29 + (j : Int)) 127) ∧ B7 z ∧ z.length = w372.length + (dg (1 + drw L9 xs (29 + (j : Int)) 127)).length := ⟨_, rfl, B7_app hb372 (dg_r (by omega)), List.length_append⟩
          rw [← e406]
          refine x_pop C eL_load_409 rfl ?_
          refine x_iinc [_, _, _, _, _, _, _, _, _] C eL_load_410 rfl rfl rfl ?_
          refine x_goto (pc' := 362) C eL_load_413 rfl ?_
          refine x_widen (k' := k + 2 + 2 * (j + 1)) (n' := n + 1204 + 1204 * (j + 1)) (by omega) (by omega) ?_
          have h9 := ih (j + 1) w406 hb406 hp (by omega) (by omega) (by omega) (fun R => by
            have ef : dF L9 xs j = 1 + drw L9 xs (29 + (j : Int)) 127 := by unfold dF; rw [if_neg (by omega)]
            rw [numsT_s, Nat.zero_add, ef, ← hU]
            rw [e406, e372]
            simp only [List.append_assoc])
          exact h9
        · refine x_bipush C eL_load_388 rfl ?_
          refine x_goto (pc' := 406) C eL_load_390 rfl ?_
          have hn406 := dg_le 13
          refine yV1s RR (SBA G sb (w372 ++ dg 13) :: RR) C (z_appI hK hD (by omega) hb372 (by omega)) v_J4_append_bf812 vv_J4_append_bf812 s_RL_60 eL_load_406 (fun _ _ h => h) (rcvP 0 rfl SBA_rcv) rfl (nle rfl) (nle rfl) (by first | exact nle rfl | omega) (by first | exact nle rfl | omega) rfl ?_
          obtain ⟨w406, e406, hb406, hl406⟩ : ∃ z, z = w372 ++ dg 13 ∧ B7 z ∧ z.length = w372.length + (dg 13).length := ⟨_, rfl, B7_app hb372 (dg_r (by omega)), List.length_append⟩
          rw [← e406]
          refine x_pop C eL_load_409 rfl ?_
          refine x_iinc [_, _, _, _, _, _, _, _, _] C eL_load_410 rfl rfl rfl ?_
          refine x_goto (pc' := 362) C eL_load_413 rfl ?_
          refine x_widen (k' := k + 2 + 2 * (j + 1)) (n' := n + 1204 + 1204 * (j + 1)) (by omega) (by omega) ?_
          have h9 := ih (j + 1) w406 hb406 hp (by omega) (by omega) (by omega) (fun R => by
            have ef : dF L9 xs j = 13 := by unfold dF; rw [if_pos (by omega)]
            rw [numsT_s, Nat.zero_add, ef, ← hU]
            rw [e406, e372]
            simp only [List.append_assoc])
          exact h9
          
  refine x_iload C eL_load_328 rfl ?_
  refine x_if_ne 336 C eL_load_330 rfl (by omega) (fun h330 => ?_) (fun h330 => ?_)
  · refine x_aload_n C eL_load_336 rfl ?_
    obtain ⟨q337, b337, hr337, hq337⟩ := lit_RL_83 hS
    refine x_ldcS C hr337 eL_load_337 ?_
    have hn339 : wl_83.length = 6 := rfl
    refine yV1s RR (SBA G sb (w ++ wl_83) :: RR) C (z_appS hK hD (by omega) hbw hq337) v_J4_append_15ec4 vv_J4_append_15ec4 s_RL_49 eL_load_339 (fun _ _ h => h) (rcvP 0 rfl SBA_rcv) rfl (nle rfl) (nle rfl) (by first | exact nle rfl | omega) (by first | exact nle rfl | omega) rfl ?_
    obtain ⟨w339, e339, hb339, hl339⟩ : ∃ z, z = w ++ wl_83 ∧ B7 z ∧ z.length = w.length + (wl_83).length := ⟨_, rfl, B7_app hbw hq337.1.2, List.length_append⟩
    rw [← e339]
    refine x_aload_n C eL_load_342 rfl ?_
    refine x_bipush C eL_load_343 rfl ?_
    refine x_iload C eL_load_345 rfl ?_
    refine x_iadd C eL_load_347 ?_
    refine x_iload_n C eL_load_348 rfl ?_
    refine yS3r (SBA G sb w339 :: RR) (SBA G sb w339 :: RR) C (z_draw hK hsc (by omega) (by omega)) v_L_draw vs_L_draw s_RL_40 eL_load_349 (fun _ _ h => h) rfl (nle rfl) (nle rfl) (by first | exact nle rfl | omega) (by first | exact nle rfl | omega) rfl ?_
    refine yS1r (SBA G sb w339 :: RR) (SBA G sb w339 :: RR) C (z_name hK (by omega)) v_L_name vs_L_name s_RL_52 eL_load_352 (fun _ _ h => h) rfl (nle rfl) (nle rfl) (by first | exact nle rfl | omega) (by first | exact nle rfl | omega) rfl ?_
    have hn355 : ([97 + drw L9 xs (27 + (t : Int)) (m : Int)] : List Int).length = 1 := rfl
    refine yV1s RR (SBA G sb (w339 ++ [97 + drw L9 xs (27 + (t : Int)) (m : Int)]) :: RR) C (z_appC hK hD (by omega) hb339 (by omega)) v_J4_append_cf468 vv_J4_append_cf468 s_RL_55 eL_load_355 (fun _ _ h => h) (rcvP 0 rfl SBA_rcv) rfl (nle rfl) (nle rfl) (by first | exact nle rfl | omega) (by first | exact nle rfl | omega) rfl ?_
    obtain ⟨w355, e355, hb355, hl355⟩ : ∃ z, z = w339 ++ [97 + drw L9 xs (27 + (t : Int)) (m : Int)] ∧ B7 z ∧ z.length = w339.length + ([97 + drw L9 xs (27 + (t : Int)) (m : Int)]).length := ⟨_, rfl, B7_app hb339 (B7_one (by omega)), List.length_append⟩
    rw [← e355]
    refine x_pop C eL_load_358 rfl ?_
    refine x_iconst C eL_load_359 ?_
    refine x_istore [_, _, _, _, _, _, _, _, _] C eL_load_360 rfl rfl (nlt rfl) ?_
    refine loop 9 0 w355 hb355 (by omega) (by omega) (by omega) (by omega) (fun R => ?_)
    rw [e355, e339]
    simp only [List.append_assoc]
    rfl
  · refine x_goto (pc' := 430) C eL_load_333 rfl ?_
    have hdn : dN L9 xs t = 0 := by unfold dN; rw [hma]; omega
    have K9 := K w hbw (by omega) (fun R => by
      unfold tyO
      rw [if_pos hdn])
    rw [hdn] at K9
    rw [show ty + ((0 : Nat) : Int) = ty by omega] at K9
    refine x_lv [_, _, _, _, _, _, _, none, none] rfl (lx_drop _ [7, 8] rfl) ?_
    exact x_widen (by omega) (by omega) K9
  
