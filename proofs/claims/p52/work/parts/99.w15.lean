/-! marks and act. -/

set_option maxHeartbeats 4000000 in
set_option maxRecDepth 100000 in
theorem z_marks {G : Gm} {l : Launch} (hK : KG G) {e ip op t tr ps pa sl al lg : Nat} {J : Nat → Int} {M : Pool} {L : Int → Nat} {n : Net} {N : Nat → Net} {b : Int} {l9 m9 : Int} (hN : NetOk b n) (hb : b ≤ 900000000) (h6 : 0 ≤ J 6 ∧ J 6 ≤ 6) (hS : KS G) (hl9 : 0 ≤ l9 ∧ l9 < n (-1) 0) (hm : 0 ≤ m9 ∧ m9 < 100000) : MD G l yL_marks cL_marks 5 (some .int) 10 64 1900 [.ref e, .int (zI l9), .int (zI m9)] [ob e 9 (ecS ip op t tr ps pa sl) J, ob t 8 (tkS al lg) (tkI n), arR G 5 al 6 (fun j => some (L (j : Int))), LF G M L n, LOG G lg n, PS G M pa (J 6) N] (some (.int (zI (100 * n l9 2 + n l9 3)))) [ob e 9 (ecS ip op t tr ps pa sl) (up J 6 (rmR (J 6))), ob t 8 (tkS al lg) (tkI (un n l9 (bStop (ub (ub (n l9) 2 (m9 % n l9 1)) 3 (m9 % n l9 1 + 1 + m9 / 100 % (n l9 1 - m9 % n l9 1)))))), arR G 5 al 6 (fun j => some (L (j : Int))), LF G M L (un n l9 (bStop (ub (ub (n l9) 2 (m9 % n l9 1)) 3 (m9 % n l9 1 + 1 + m9 / 100 % (n l9 1 - m9 % n l9 1))))), LOG G lg (un n l9 (bStop (ub (ub (n l9) 2 (m9 % n l9 1)) 3 (m9 % n l9 1 + 1 + m9 / 100 % (n l9 1 - m9 % n l9 1))))), PS G M pa (rmR (J 6)) (rmP (J 6) N n)] := by
  refine MX_of (lv := [some (.ref e), some (.int (zI l9)), some (.int (zI m9)), none, none]) hK (by decide +kernel) rfl (nle rfl) (fun X C F => ?_)
  have C : OKc G X l RL "marks" cL_marks 5 (some .int) 10 64 1900 := C
  have hL := hN.2.2 l9 hl9.1 hl9.2
  unfold LineOk at hL
  have hk := marks_ok (cap := n l9 1) (m := m9) (by omega) hm.1
  refine x_aload_n C eL_marks_0 rfl ?_
  refine x_iload_n C eL_marks_1 rfl ?_
  refine x_iconst C eL_marks_2 ?_
  refine yV2r [_] [_, _, _, _, _, _] C (s_X7_line hK hN hb hl9 (by decide)) v_X7_line vv_X7_line s_RL_143 eL_marks_3 (fun _ _ h => WF_pick [0, 1, 2, 3, 4, 5] rfl rfl h) (rcv 0 rfl) rfl (nle rfl) (nle rfl) (nle rfl) (nle rfl) rfl ?_
  rw [show lineVal n l9 0 = n l9 1 from rfl]
  refine x_istore_n [_, _, _, _, _] C eL_marks_6 rfl rfl (nlt rfl) ?_
  refine x_iload_n C eL_marks_7 rfl ?_
  refine x_iload_n C eL_marks_8 rfl ?_
  refine x_irem C eL_marks_9 (by omega) ?_
  refine x_istore [_, _, _, _, _] C eL_marks_10 rfl rfl (nlt rfl) ?_
  refine x_aload_n C eL_marks_12 rfl ?_
  refine x_iload_n C eL_marks_13 rfl ?_
  refine x_iload C eL_marks_14 rfl ?_
  refine x_iload C eL_marks_16 rfl ?_
  refine x_iconst C eL_marks_18 ?_
  refine x_iadd C eL_marks_19 ?_
  refine x_iload_n C eL_marks_20 rfl ?_
  refine x_bipush C eL_marks_21 rfl ?_
  refine x_idiv C eL_marks_23 (by omega) ?_
  refine x_iload_n C eL_marks_24 rfl ?_
  refine x_iload C eL_marks_25 rfl ?_
  refine x_isub C eL_marks_27 ?_
  refine x_irem C eL_marks_28 (by omega) ?_
  refine x_iadd C eL_marks_29 ?_
  refine yV3s [] [_, _, _, _, _, _] C (s_X7_setMarks hK hN hb h6 hS hl9 (by omega)) v_X7_setMarks vv_X7_setMarks s_RL_146 eL_marks_30 (fun _ _ h => WF_pick [0, 1, 2, 3, 4, 5] rfl rfl h) (rcv 0 rfl) rfl (nle rfl) (nle rfl) (nle rfl) (nle rfl) rfl ?_
  refine x_iret (by first | rfl | exact (narZ (by omega)).1) C F eL_marks_33 () ?_ trivial (fun cf c h => ?_) (nle rfl) (nle rfl)
  · rfl
  · exact WF_pick [0, 1, 2, 3, 4, 5] rfl rfl h

set_option maxHeartbeats 4000000 in
set_option maxRecDepth 100000 in
theorem z_act {G : Gm} {l : Launch} (hK : KG G) {e ip op t tr ps pa sl al lg : Nat} {J : Nat → Int} {M : Pool} {L : Int → Nat} {n : Net} {N : Nat → Net} {b : Int} {b9 L9 : Nat} {xs : Nat → Int32} {k9 : Int} (hN : NetOk b n) (hb : b ≤ 800000000) (h6 : 0 ≤ J 6 ∧ J 6 ≤ 6) (hS : KS G) (hs : SOK n) (hsc : SC G b9 L9 xs) (hk : 0 ≤ k9 ∧ k9 < 1000) : MX G l yL_act cL_act 7 (some .int) 11 64 1900 [.ref e, .ref b9, .int (zI k9)] [ob e 9 (ecS ip op t tr ps pa sl) J, ob t 8 (tkS al lg) (tkI n), arR G 5 al 6 (fun j => some (L (j : Int))), LF G M L n, LOG G lg n, PS G M pa (J 6) N] (fun x : ActR => some (.int (zI x.1))) (AP b n (drw L9 xs k9 24)) (fun x : ActR => [ob e 9 (ecS ip op t tr ps pa sl) x.2.2.1, ob t 8 (tkS al lg) (tkI x.2.1), arR G 5 al 6 (fun j => some (L (j : Int))), LF G M L x.2.1, LOG G lg x.2.1, PS G M pa (x.2.2.1 6) x.2.2.2]) := by
  refine MX_of (lv := [some (.ref e), some (.ref b9), some (.int (zI k9)), none, none, none, none]) hK (by decide +kernel) rfl (nle rfl) (fun X C F => ?_)
  have C : OKc G X l RL "act" cL_act 7 (some .int) 11 64 1900 := C
  have hH := hN.1
  unfold HeadOk at hH
  refine x_aload_n C eL_act_0 rfl ?_
  refine x_iload_n C eL_act_1 rfl ?_
  refine x_iconst C eL_act_2 ?_
  refine x_iadd C eL_act_3 ?_
  refine x_ldc (own2 := RL) C eL_act_4 k_RL_106 ?_
  refine yS3r [_, _, _, _, _, _] [_, _, _, _, _, _] C (z_draw hK hsc (by omega) (by omega)) v_L_draw vs_L_draw s_RL_40 eL_act_6 (fun _ _ h => WF_pick [0, 1, 2, 3, 4, 5] rfl rfl h) rfl (nle rfl) (nle rfl) (nle rfl) (nle rfl) rfl ?_
  obtain ⟨n9, hn9⟩ : ∃ n9, drw L9 xs (k9 + 1) 100000 = n9 := ⟨_, rfl⟩
  have hn9r := drw_r (L := L9) (xs := xs) (k := k9 + 1) (n := 100000) (by decide)
  rw [hn9] at hn9r ⊢
  refine x_istore_n [_, _, _, _, _, _, _] C eL_act_9 rfl rfl (nlt rfl) ?_
  refine x_aload_n C eL_act_10 rfl ?_
  refine x_iload_n C eL_act_11 rfl ?_
  refine x_iconst C eL_act_12 ?_
  refine x_iadd C eL_act_13 ?_
  refine x_ldc (own2 := RL) C eL_act_14 k_RL_106 ?_
  refine yS3r [_, _, _, _, _, _] [_, _, _, _, _, _] C (z_draw hK hsc (by omega) (by omega)) v_L_draw vs_L_draw s_RL_40 eL_act_16 (fun _ _ h => WF_pick [0, 1, 2, 3, 4, 5] rfl rfl h) rfl (nle rfl) (nle rfl) (nle rfl) (nle rfl) rfl ?_
  obtain ⟨m9, hm9⟩ : ∃ m9, drw L9 xs (k9 + 2) 100000 = m9 := ⟨_, rfl⟩
  have hm9r := drw_r (L := L9) (xs := xs) (k := k9 + 2) (n := 100000) (by decide)
  rw [hm9] at hm9r ⊢
  refine x_istore [_, _, _, _, _, _, _] C eL_act_19 rfl rfl (nlt rfl) ?_
  refine x_aload_n C eL_act_21 rfl ?_
  refine x_iconst C eL_act_22 ?_
  refine yV1r [_] [_, _, _, _, _, _] C (s_X7_property hK hN (by omega) (by decide)) v_X7_property vv_X7_property s_RL_99 eL_act_23 (fun _ _ h => WF_pick [0, 1, 2, 3, 4, 5] rfl rfl h) (rcv 0 rfl) rfl (nle rfl) (nle rfl) (nle rfl) (nle rfl) rfl ?_
  rw [show propVal n 0 = zI (n (-1) 0) from rfl]
  refine x_istore [_, _, _, _, _, _, _] C eL_act_26 rfl rfl (nlt rfl) ?_
  refine x_iload_n C eL_act_28 rfl ?_
  refine x_iload C eL_act_29 rfl ?_
  refine x_irem C eL_act_31 (by omega) ?_
  obtain ⟨l9, hl9e⟩ : ∃ l9, n9 % n (-1) 0 = l9 := ⟨_, rfl⟩
  have hl9 : 0 ≤ l9 ∧ l9 < n (-1) 0 := by
    rw [← hl9e]
    exact ⟨Int.emod_nonneg _ (by omega), Int.emod_lt_of_pos _ (by omega)⟩
  rw [hl9e]
  refine x_istore [_, _, _, _, _, _, _] C eL_act_32 rfl rfl (nlt rfl) ?_
  refine x_aload_n C eL_act_34 rfl ?_
  refine x_iload_n C eL_act_35 rfl ?_
  refine x_bipush C eL_act_36 rfl ?_
  refine yS3r [_, _, _, _, _, _] [_, _, _, _, _, _] C (z_draw hK hsc (by omega) (by omega)) v_L_draw vs_L_draw s_RL_40 eL_act_38 (fun _ _ h => WF_pick [0, 1, 2, 3, 4, 5] rfl rfl h) rfl (nle rfl) (nle rfl) (nle rfl) (nle rfl) rfl ?_
  obtain ⟨kd, hkd⟩ : ∃ kd, drw L9 xs k9 24 = kd := ⟨_, rfl⟩
  have hkr := drw_r (L := L9) (xs := xs) (k := k9) (n := 24) (by decide)
  rw [hkd] at hkr ⊢
  have hsw : kd = 0 ∨ kd = 1 ∨ kd = 2 ∨ kd = 3 ∨ kd = 4 ∨ kd = 5 ∨ kd = 6 ∨ kd = 7 ∨ kd = 8 ∨ kd = 9 ∨ kd = 10 ∨ kd = 11 ∨ kd = 12 ∨ kd = 13 ∨ kd = 14 ∨ kd = 15 ∨ kd = 16 ∨ kd = 17 ∨ kd = 18 ∨ kd = 19 ∨ kd = 20 ∨ kd = 21 ∨ kd = 22 ∨ (kd < 0 ∨ 22 < kd) := by omega
  rcases hsw with rfl | rfl | rfl | rfl | rfl | rfl | rfl | rfl | rfl | rfl | rfl | rfl | rfl | rfl | rfl | rfl | rfl | rfl | rfl | rfl | rfl | rfl | rfl | hsw
  · refine x_tabIn 148 C eL_act_41 (by decide) (by decide) (by decide) rfl rfl ?_
    refine x_aload_n C eL_act_148 rfl ?_
    refine x_iload C eL_act_149 rfl ?_
    refine x_iload C eL_act_151 rfl ?_
    refine x_iconst C eL_act_153 ?_
    refine x_irem C eL_act_154 (by omega) ?_
    refine x_if_ne 163 C eL_act_155 rfl (by omega) (fun h155 => ?_) (fun h155 => ?_)
    · refine x_iconst C eL_act_163 ?_
      refine x_iload C eL_act_164 rfl ?_
      refine x_bipush C eL_act_166 rfl ?_
      refine x_irem C eL_act_168 (by omega) ?_
      refine x_iadd C eL_act_169 ?_
      refine x_iconst C eL_act_170 ?_
      refine x_iload C eL_act_171 rfl ?_
      refine x_sipush C eL_act_173 rfl ?_
      refine x_idiv C eL_act_176 (by omega) ?_
      refine x_bipush C eL_act_177 rfl ?_
      refine x_irem C eL_act_179 (by omega) ?_
      refine x_iadd C eL_act_180 ?_
      refine yV3s [] [_, _, _, _, _, _] C (s_X7_type hK hN (by omega) h6 hS hl9 (by omega) (by omega)) v_X7_type vv_X7_type s_RL_107 eL_act_181 (fun _ _ h => WF_pick [0, 1, 2, 3, 4, 5] rfl rfl h) (rcv 0 rfl) rfl (nle rfl) (nle rfl) (nle rfl) (nle rfl) rfl ?_
      refine x_iret rfl C F eL_act_184 (_, nTypes l9 (1 + m9 % 127) (1 + m9 / 128 % 7).toNat n, up J 6 (rmR (J 6)), rmP (J 6) N n) rfl (by rw [hkd]; exact AP_type hN hs hl9 (by omega) (by omega) h6 (by omega)) (fun cf c h => ?_) (nle rfl) (nle rfl)
      exact WF_pick [0, 1, 2, 3, 4, 5] rfl rfl h
      
    · refine x_bipush C eL_act_158 rfl ?_
      refine x_goto (pc' := 170) C eL_act_160 rfl ?_
      refine x_iconst C eL_act_170 ?_
      refine x_iload C eL_act_171 rfl ?_
      refine x_sipush C eL_act_173 rfl ?_
      refine x_idiv C eL_act_176 (by omega) ?_
      refine x_bipush C eL_act_177 rfl ?_
      refine x_irem C eL_act_179 (by omega) ?_
      refine x_iadd C eL_act_180 ?_
      refine yV3s [] [_, _, _, _, _, _] C (s_X7_type hK hN (by omega) h6 hS hl9 (by omega) (by omega)) v_X7_type vv_X7_type s_RL_107 eL_act_181 (fun _ _ h => WF_pick [0, 1, 2, 3, 4, 5] rfl rfl h) (rcv 0 rfl) rfl (nle rfl) (nle rfl) (nle rfl) (nle rfl) rfl ?_
      refine x_iret rfl C F eL_act_184 (_, nTypes l9 13 (1 + m9 / 128 % 7).toNat n, up J 6 (rmR (J 6)), rmP (J 6) N n) rfl (by rw [hkd]; exact AP_type hN hs hl9 (by omega) (by omega) h6 (by omega)) (fun cf c h => ?_) (nle rfl) (nle rfl)
      exact WF_pick [0, 1, 2, 3, 4, 5] rfl rfl h
      
      
  · refine x_tabIn 148 C eL_act_41 (by decide) (by decide) (by decide) rfl rfl ?_
    refine x_aload_n C eL_act_148 rfl ?_
    refine x_iload C eL_act_149 rfl ?_
    refine x_iload C eL_act_151 rfl ?_
    refine x_iconst C eL_act_153 ?_
    refine x_irem C eL_act_154 (by omega) ?_
    refine x_if_ne 163 C eL_act_155 rfl (by omega) (fun h155 => ?_) (fun h155 => ?_)
    · refine x_iconst C eL_act_163 ?_
      refine x_iload C eL_act_164 rfl ?_
      refine x_bipush C eL_act_166 rfl ?_
      refine x_irem C eL_act_168 (by omega) ?_
      refine x_iadd C eL_act_169 ?_
      refine x_iconst C eL_act_170 ?_
      refine x_iload C eL_act_171 rfl ?_
      refine x_sipush C eL_act_173 rfl ?_
      refine x_idiv C eL_act_176 (by omega) ?_
      refine x_bipush C eL_act_177 rfl ?_
      refine x_irem C eL_act_179 (by omega) ?_
      refine x_iadd C eL_act_180 ?_
      refine yV3s [] [_, _, _, _, _, _] C (s_X7_type hK hN (by omega) h6 hS hl9 (by omega) (by omega)) v_X7_type vv_X7_type s_RL_107 eL_act_181 (fun _ _ h => WF_pick [0, 1, 2, 3, 4, 5] rfl rfl h) (rcv 0 rfl) rfl (nle rfl) (nle rfl) (nle rfl) (nle rfl) rfl ?_
      refine x_iret rfl C F eL_act_184 (_, nTypes l9 (1 + m9 % 127) (1 + m9 / 128 % 7).toNat n, up J 6 (rmR (J 6)), rmP (J 6) N n) rfl (by rw [hkd]; exact AP_type hN hs hl9 (by omega) (by omega) h6 (by omega)) (fun cf c h => ?_) (nle rfl) (nle rfl)
      exact WF_pick [0, 1, 2, 3, 4, 5] rfl rfl h
      
    · refine x_bipush C eL_act_158 rfl ?_
      refine x_goto (pc' := 170) C eL_act_160 rfl ?_
      refine x_iconst C eL_act_170 ?_
      refine x_iload C eL_act_171 rfl ?_
      refine x_sipush C eL_act_173 rfl ?_
      refine x_idiv C eL_act_176 (by omega) ?_
      refine x_bipush C eL_act_177 rfl ?_
      refine x_irem C eL_act_179 (by omega) ?_
      refine x_iadd C eL_act_180 ?_
      refine yV3s [] [_, _, _, _, _, _] C (s_X7_type hK hN (by omega) h6 hS hl9 (by omega) (by omega)) v_X7_type vv_X7_type s_RL_107 eL_act_181 (fun _ _ h => WF_pick [0, 1, 2, 3, 4, 5] rfl rfl h) (rcv 0 rfl) rfl (nle rfl) (nle rfl) (nle rfl) (nle rfl) rfl ?_
      refine x_iret rfl C F eL_act_184 (_, nTypes l9 13 (1 + m9 / 128 % 7).toNat n, up J 6 (rmR (J 6)), rmP (J 6) N n) rfl (by rw [hkd]; exact AP_type hN hs hl9 (by omega) (by omega) h6 (by omega)) (fun cf c h => ?_) (nle rfl) (nle rfl)
      exact WF_pick [0, 1, 2, 3, 4, 5] rfl rfl h
      
      
  · refine x_tabIn 148 C eL_act_41 (by decide) (by decide) (by decide) rfl rfl ?_
    refine x_aload_n C eL_act_148 rfl ?_
    refine x_iload C eL_act_149 rfl ?_
    refine x_iload C eL_act_151 rfl ?_
    refine x_iconst C eL_act_153 ?_
    refine x_irem C eL_act_154 (by omega) ?_
    refine x_if_ne 163 C eL_act_155 rfl (by omega) (fun h155 => ?_) (fun h155 => ?_)
    · refine x_iconst C eL_act_163 ?_
      refine x_iload C eL_act_164 rfl ?_
      refine x_bipush C eL_act_166 rfl ?_
      refine x_irem C eL_act_168 (by omega) ?_
      refine x_iadd C eL_act_169 ?_
      refine x_iconst C eL_act_170 ?_
      refine x_iload C eL_act_171 rfl ?_
      refine x_sipush C eL_act_173 rfl ?_
      refine x_idiv C eL_act_176 (by omega) ?_
      refine x_bipush C eL_act_177 rfl ?_
      refine x_irem C eL_act_179 (by omega) ?_
      refine x_iadd C eL_act_180 ?_
      refine yV3s [] [_, _, _, _, _, _] C (s_X7_type hK hN (by omega) h6 hS hl9 (by omega) (by omega)) v_X7_type vv_X7_type s_RL_107 eL_act_181 (fun _ _ h => WF_pick [0, 1, 2, 3, 4, 5] rfl rfl h) (rcv 0 rfl) rfl (nle rfl) (nle rfl) (nle rfl) (nle rfl) rfl ?_
      refine x_iret rfl C F eL_act_184 (_, nTypes l9 (1 + m9 % 127) (1 + m9 / 128 % 7).toNat n, up J 6 (rmR (J 6)), rmP (J 6) N n) rfl (by rw [hkd]; exact AP_type hN hs hl9 (by omega) (by omega) h6 (by omega)) (fun cf c h => ?_) (nle rfl) (nle rfl)
      exact WF_pick [0, 1, 2, 3, 4, 5] rfl rfl h
      
    · refine x_bipush C eL_act_158 rfl ?_
      refine x_goto (pc' := 170) C eL_act_160 rfl ?_
      refine x_iconst C eL_act_170 ?_
      refine x_iload C eL_act_171 rfl ?_
      refine x_sipush C eL_act_173 rfl ?_
      refine x_idiv C eL_act_176 (by omega) ?_
      refine x_bipush C eL_act_177 rfl ?_
      refine x_irem C eL_act_179 (by omega) ?_
      refine x_iadd C eL_act_180 ?_
      refine yV3s [] [_, _, _, _, _, _] C (s_X7_type hK hN (by omega) h6 hS hl9 (by omega) (by omega)) v_X7_type vv_X7_type s_RL_107 eL_act_181 (fun _ _ h => WF_pick [0, 1, 2, 3, 4, 5] rfl rfl h) (rcv 0 rfl) rfl (nle rfl) (nle rfl) (nle rfl) (nle rfl) rfl ?_
      refine x_iret rfl C F eL_act_184 (_, nTypes l9 13 (1 + m9 / 128 % 7).toNat n, up J 6 (rmR (J 6)), rmP (J 6) N n) rfl (by rw [hkd]; exact AP_type hN hs hl9 (by omega) (by omega) h6 (by omega)) (fun cf c h => ?_) (nle rfl) (nle rfl)
      exact WF_pick [0, 1, 2, 3, 4, 5] rfl rfl h
      
      
  · refine x_tabIn 148 C eL_act_41 (by decide) (by decide) (by decide) rfl rfl ?_
    refine x_aload_n C eL_act_148 rfl ?_
    refine x_iload C eL_act_149 rfl ?_
    refine x_iload C eL_act_151 rfl ?_
    refine x_iconst C eL_act_153 ?_
    refine x_irem C eL_act_154 (by omega) ?_
    refine x_if_ne 163 C eL_act_155 rfl (by omega) (fun h155 => ?_) (fun h155 => ?_)
    · refine x_iconst C eL_act_163 ?_
      refine x_iload C eL_act_164 rfl ?_
      refine x_bipush C eL_act_166 rfl ?_
      refine x_irem C eL_act_168 (by omega) ?_
      refine x_iadd C eL_act_169 ?_
      refine x_iconst C eL_act_170 ?_
      refine x_iload C eL_act_171 rfl ?_
      refine x_sipush C eL_act_173 rfl ?_
      refine x_idiv C eL_act_176 (by omega) ?_
      refine x_bipush C eL_act_177 rfl ?_
      refine x_irem C eL_act_179 (by omega) ?_
      refine x_iadd C eL_act_180 ?_
      refine yV3s [] [_, _, _, _, _, _] C (s_X7_type hK hN (by omega) h6 hS hl9 (by omega) (by omega)) v_X7_type vv_X7_type s_RL_107 eL_act_181 (fun _ _ h => WF_pick [0, 1, 2, 3, 4, 5] rfl rfl h) (rcv 0 rfl) rfl (nle rfl) (nle rfl) (nle rfl) (nle rfl) rfl ?_
      refine x_iret rfl C F eL_act_184 (_, nTypes l9 (1 + m9 % 127) (1 + m9 / 128 % 7).toNat n, up J 6 (rmR (J 6)), rmP (J 6) N n) rfl (by rw [hkd]; exact AP_type hN hs hl9 (by omega) (by omega) h6 (by omega)) (fun cf c h => ?_) (nle rfl) (nle rfl)
      exact WF_pick [0, 1, 2, 3, 4, 5] rfl rfl h
      
    · refine x_bipush C eL_act_158 rfl ?_
      refine x_goto (pc' := 170) C eL_act_160 rfl ?_
      refine x_iconst C eL_act_170 ?_
      refine x_iload C eL_act_171 rfl ?_
      refine x_sipush C eL_act_173 rfl ?_
      refine x_idiv C eL_act_176 (by omega) ?_
      refine x_bipush C eL_act_177 rfl ?_
      refine x_irem C eL_act_179 (by omega) ?_
      refine x_iadd C eL_act_180 ?_
      refine yV3s [] [_, _, _, _, _, _] C (s_X7_type hK hN (by omega) h6 hS hl9 (by omega) (by omega)) v_X7_type vv_X7_type s_RL_107 eL_act_181 (fun _ _ h => WF_pick [0, 1, 2, 3, 4, 5] rfl rfl h) (rcv 0 rfl) rfl (nle rfl) (nle rfl) (nle rfl) (nle rfl) rfl ?_
      refine x_iret rfl C F eL_act_184 (_, nTypes l9 13 (1 + m9 / 128 % 7).toNat n, up J 6 (rmR (J 6)), rmP (J 6) N n) rfl (by rw [hkd]; exact AP_type hN hs hl9 (by omega) (by omega) h6 (by omega)) (fun cf c h => ?_) (nle rfl) (nle rfl)
      exact WF_pick [0, 1, 2, 3, 4, 5] rfl rfl h
      
      
  · refine x_tabIn 148 C eL_act_41 (by decide) (by decide) (by decide) rfl rfl ?_
    refine x_aload_n C eL_act_148 rfl ?_
    refine x_iload C eL_act_149 rfl ?_
    refine x_iload C eL_act_151 rfl ?_
    refine x_iconst C eL_act_153 ?_
    refine x_irem C eL_act_154 (by omega) ?_
    refine x_if_ne 163 C eL_act_155 rfl (by omega) (fun h155 => ?_) (fun h155 => ?_)
    · refine x_iconst C eL_act_163 ?_
      refine x_iload C eL_act_164 rfl ?_
      refine x_bipush C eL_act_166 rfl ?_
      refine x_irem C eL_act_168 (by omega) ?_
      refine x_iadd C eL_act_169 ?_
      refine x_iconst C eL_act_170 ?_
      refine x_iload C eL_act_171 rfl ?_
      refine x_sipush C eL_act_173 rfl ?_
      refine x_idiv C eL_act_176 (by omega) ?_
      refine x_bipush C eL_act_177 rfl ?_
      refine x_irem C eL_act_179 (by omega) ?_
      refine x_iadd C eL_act_180 ?_
      refine yV3s [] [_, _, _, _, _, _] C (s_X7_type hK hN (by omega) h6 hS hl9 (by omega) (by omega)) v_X7_type vv_X7_type s_RL_107 eL_act_181 (fun _ _ h => WF_pick [0, 1, 2, 3, 4, 5] rfl rfl h) (rcv 0 rfl) rfl (nle rfl) (nle rfl) (nle rfl) (nle rfl) rfl ?_
      refine x_iret rfl C F eL_act_184 (_, nTypes l9 (1 + m9 % 127) (1 + m9 / 128 % 7).toNat n, up J 6 (rmR (J 6)), rmP (J 6) N n) rfl (by rw [hkd]; exact AP_type hN hs hl9 (by omega) (by omega) h6 (by omega)) (fun cf c h => ?_) (nle rfl) (nle rfl)
      exact WF_pick [0, 1, 2, 3, 4, 5] rfl rfl h
      
    · refine x_bipush C eL_act_158 rfl ?_
      refine x_goto (pc' := 170) C eL_act_160 rfl ?_
      refine x_iconst C eL_act_170 ?_
      refine x_iload C eL_act_171 rfl ?_
      refine x_sipush C eL_act_173 rfl ?_
      refine x_idiv C eL_act_176 (by omega) ?_
      refine x_bipush C eL_act_177 rfl ?_
      refine x_irem C eL_act_179 (by omega) ?_
      refine x_iadd C eL_act_180 ?_
      refine yV3s [] [_, _, _, _, _, _] C (s_X7_type hK hN (by omega) h6 hS hl9 (by omega) (by omega)) v_X7_type vv_X7_type s_RL_107 eL_act_181 (fun _ _ h => WF_pick [0, 1, 2, 3, 4, 5] rfl rfl h) (rcv 0 rfl) rfl (nle rfl) (nle rfl) (nle rfl) (nle rfl) rfl ?_
      refine x_iret rfl C F eL_act_184 (_, nTypes l9 13 (1 + m9 / 128 % 7).toNat n, up J 6 (rmR (J 6)), rmP (J 6) N n) rfl (by rw [hkd]; exact AP_type hN hs hl9 (by omega) (by omega) h6 (by omega)) (fun cf c h => ?_) (nle rfl) (nle rfl)
      exact WF_pick [0, 1, 2, 3, 4, 5] rfl rfl h
      
      
  · refine x_tabIn 185 C eL_act_41 (by decide) (by decide) (by decide) rfl rfl ?_
    refine x_aload_n C eL_act_185 rfl ?_
    refine x_iload C eL_act_186 rfl ?_
    refine x_iconst C eL_act_188 ?_
    refine x_iload C eL_act_189 rfl ?_
    refine x_bipush C eL_act_191 rfl ?_
    refine x_irem C eL_act_193 (by omega) ?_
    refine x_iadd C eL_act_194 ?_
    refine x_iconst C eL_act_195 ?_
    refine x_iload C eL_act_196 rfl ?_
    refine x_bipush C eL_act_198 rfl ?_
    refine x_irem C eL_act_200 (by omega) ?_
    refine x_iadd C eL_act_201 ?_
    refine yV3s [] [_, _, _, _, _, _] C (s_X7_type hK hN (by omega) h6 hS hl9 (by omega) (by omega)) v_X7_type vv_X7_type s_RL_107 eL_act_202 (fun _ _ h => WF_pick [0, 1, 2, 3, 4, 5] rfl rfl h) (rcv 0 rfl) rfl (nle rfl) (nle rfl) (nle rfl) (nle rfl) rfl ?_
    refine x_iret rfl C F eL_act_205 (_, nTypes l9 (1 + m9 % 127) (1 + m9 % 60).toNat n, up J 6 (rmR (J 6)), rmP (J 6) N n) rfl (by rw [hkd]; exact AP_type hN hs hl9 (by omega) (by omega) h6 (by omega)) (fun cf c h => ?_) (nle rfl) (nle rfl)
    exact WF_pick [0, 1, 2, 3, 4, 5] rfl rfl h
    
  · refine x_tabIn 206 C eL_act_41 (by decide) (by decide) (by decide) rfl rfl ?_
    refine x_aload_n C eL_act_206 rfl ?_
    refine x_iload C eL_act_207 rfl ?_
    refine x_iconst C eL_act_209 ?_
    refine x_iload C eL_act_210 rfl ?_
    refine x_bipush C eL_act_212 rfl ?_
    refine x_irem C eL_act_214 (by omega) ?_
    refine x_iadd C eL_act_215 ?_
    refine x_iconst C eL_act_216 ?_
    refine x_iload C eL_act_217 rfl ?_
    refine x_sipush C eL_act_219 rfl ?_
    refine x_idiv C eL_act_222 (by omega) ?_
    refine x_bipush C eL_act_223 rfl ?_
    refine x_irem C eL_act_225 (by omega) ?_
    refine x_iadd C eL_act_226 ?_
    refine yV3s [] [_, _, _, _, _, _] C (s_X7_reply hK hN (by omega) h6 hS hl9 (by omega) (by omega)) v_X7_reply vv_X7_reply s_RL_111 eL_act_227 (fun _ _ h => WF_pick [0, 1, 2, 3, 4, 5] rfl rfl h) (rcv 0 rfl) rfl (nle rfl) (nle rfl) (nle rfl) (nle rfl) rfl ?_
    refine x_iret rfl C F eL_act_230 (_, nOffers l9 (1 + m9 % 127) (1 + m9 / 128 % 9).toNat n, up J 6 (rmR (J 6)), rmP (J 6) N n) rfl (by rw [hkd]; exact AP_reply hN hs hl9 (by omega) (by omega) h6 (by omega)) (fun cf c h => ?_) (nle rfl) (nle rfl)
    exact WF_pick [0, 1, 2, 3, 4, 5] rfl rfl h
    
  · refine x_tabIn 206 C eL_act_41 (by decide) (by decide) (by decide) rfl rfl ?_
    refine x_aload_n C eL_act_206 rfl ?_
    refine x_iload C eL_act_207 rfl ?_
    refine x_iconst C eL_act_209 ?_
    refine x_iload C eL_act_210 rfl ?_
    refine x_bipush C eL_act_212 rfl ?_
    refine x_irem C eL_act_214 (by omega) ?_
    refine x_iadd C eL_act_215 ?_
    refine x_iconst C eL_act_216 ?_
    refine x_iload C eL_act_217 rfl ?_
    refine x_sipush C eL_act_219 rfl ?_
    refine x_idiv C eL_act_222 (by omega) ?_
    refine x_bipush C eL_act_223 rfl ?_
    refine x_irem C eL_act_225 (by omega) ?_
    refine x_iadd C eL_act_226 ?_
    refine yV3s [] [_, _, _, _, _, _] C (s_X7_reply hK hN (by omega) h6 hS hl9 (by omega) (by omega)) v_X7_reply vv_X7_reply s_RL_111 eL_act_227 (fun _ _ h => WF_pick [0, 1, 2, 3, 4, 5] rfl rfl h) (rcv 0 rfl) rfl (nle rfl) (nle rfl) (nle rfl) (nle rfl) rfl ?_
    refine x_iret rfl C F eL_act_230 (_, nOffers l9 (1 + m9 % 127) (1 + m9 / 128 % 9).toNat n, up J 6 (rmR (J 6)), rmP (J 6) N n) rfl (by rw [hkd]; exact AP_reply hN hs hl9 (by omega) (by omega) h6 (by omega)) (fun cf c h => ?_) (nle rfl) (nle rfl)
    exact WF_pick [0, 1, 2, 3, 4, 5] rfl rfl h
    
  · refine x_tabIn 231 C eL_act_41 (by decide) (by decide) (by decide) rfl rfl ?_
    refine x_aload_n C eL_act_231 rfl ?_
    refine x_iconst C eL_act_232 ?_
    refine x_iload_n C eL_act_233 rfl ?_
    refine x_iconst C eL_act_234 ?_
    refine x_irem C eL_act_235 (by omega) ?_
    refine x_iadd C eL_act_236 ?_
    refine yV1s [] [_, _, _, _, _, _] C (s_X7_tick hK hN (by omega) h6 hS (by omega)) v_X7_tick vv_X7_tick s_RL_114 eL_act_237 (fun _ _ h => WF_pick [0, 1, 2, 3, 4, 5] rfl rfl h) (rcv 0 rfl) rfl (nle rfl) (nle rfl) (nle rfl) (nle rfl) rfl ?_
    refine x_iret rfl C F eL_act_240 (_, nTicks (1 + n9 % 4).toNat n, up J 6 (rmR (J 6)), rmP (J 6) N n) rfl (by rw [hkd]; exact AP_tick hN hs h6 (by omega) (by omega)) (fun cf c h => ?_) (nle rfl) (nle rfl)
    exact WF_pick [0, 1, 2, 3, 4, 5] rfl rfl h
    
  · refine x_tabIn 231 C eL_act_41 (by decide) (by decide) (by decide) rfl rfl ?_
    refine x_aload_n C eL_act_231 rfl ?_
    refine x_iconst C eL_act_232 ?_
    refine x_iload_n C eL_act_233 rfl ?_
    refine x_iconst C eL_act_234 ?_
    refine x_irem C eL_act_235 (by omega) ?_
    refine x_iadd C eL_act_236 ?_
    refine yV1s [] [_, _, _, _, _, _] C (s_X7_tick hK hN (by omega) h6 hS (by omega)) v_X7_tick vv_X7_tick s_RL_114 eL_act_237 (fun _ _ h => WF_pick [0, 1, 2, 3, 4, 5] rfl rfl h) (rcv 0 rfl) rfl (nle rfl) (nle rfl) (nle rfl) (nle rfl) rfl ?_
    refine x_iret rfl C F eL_act_240 (_, nTicks (1 + n9 % 4).toNat n, up J 6 (rmR (J 6)), rmP (J 6) N n) rfl (by rw [hkd]; exact AP_tick hN hs h6 (by omega) (by omega)) (fun cf c h => ?_) (nle rfl) (nle rfl)
    exact WF_pick [0, 1, 2, 3, 4, 5] rfl rfl h
    
  · refine x_tabIn 231 C eL_act_41 (by decide) (by decide) (by decide) rfl rfl ?_
    refine x_aload_n C eL_act_231 rfl ?_
    refine x_iconst C eL_act_232 ?_
    refine x_iload_n C eL_act_233 rfl ?_
    refine x_iconst C eL_act_234 ?_
    refine x_irem C eL_act_235 (by omega) ?_
    refine x_iadd C eL_act_236 ?_
    refine yV1s [] [_, _, _, _, _, _] C (s_X7_tick hK hN (by omega) h6 hS (by omega)) v_X7_tick vv_X7_tick s_RL_114 eL_act_237 (fun _ _ h => WF_pick [0, 1, 2, 3, 4, 5] rfl rfl h) (rcv 0 rfl) rfl (nle rfl) (nle rfl) (nle rfl) (nle rfl) rfl ?_
    refine x_iret rfl C F eL_act_240 (_, nTicks (1 + n9 % 4).toNat n, up J 6 (rmR (J 6)), rmP (J 6) N n) rfl (by rw [hkd]; exact AP_tick hN hs h6 (by omega) (by omega)) (fun cf c h => ?_) (nle rfl) (nle rfl)
    exact WF_pick [0, 1, 2, 3, 4, 5] rfl rfl h
    
  · refine x_tabIn 231 C eL_act_41 (by decide) (by decide) (by decide) rfl rfl ?_
    refine x_aload_n C eL_act_231 rfl ?_
    refine x_iconst C eL_act_232 ?_
    refine x_iload_n C eL_act_233 rfl ?_
    refine x_iconst C eL_act_234 ?_
    refine x_irem C eL_act_235 (by omega) ?_
    refine x_iadd C eL_act_236 ?_
    refine yV1s [] [_, _, _, _, _, _] C (s_X7_tick hK hN (by omega) h6 hS (by omega)) v_X7_tick vv_X7_tick s_RL_114 eL_act_237 (fun _ _ h => WF_pick [0, 1, 2, 3, 4, 5] rfl rfl h) (rcv 0 rfl) rfl (nle rfl) (nle rfl) (nle rfl) (nle rfl) rfl ?_
    refine x_iret rfl C F eL_act_240 (_, nTicks (1 + n9 % 4).toNat n, up J 6 (rmR (J 6)), rmP (J 6) N n) rfl (by rw [hkd]; exact AP_tick hN hs h6 (by omega) (by omega)) (fun cf c h => ?_) (nle rfl) (nle rfl)
    exact WF_pick [0, 1, 2, 3, 4, 5] rfl rfl h
    
  · refine x_tabIn 231 C eL_act_41 (by decide) (by decide) (by decide) rfl rfl ?_
    refine x_aload_n C eL_act_231 rfl ?_
    refine x_iconst C eL_act_232 ?_
    refine x_iload_n C eL_act_233 rfl ?_
    refine x_iconst C eL_act_234 ?_
    refine x_irem C eL_act_235 (by omega) ?_
    refine x_iadd C eL_act_236 ?_
    refine yV1s [] [_, _, _, _, _, _] C (s_X7_tick hK hN (by omega) h6 hS (by omega)) v_X7_tick vv_X7_tick s_RL_114 eL_act_237 (fun _ _ h => WF_pick [0, 1, 2, 3, 4, 5] rfl rfl h) (rcv 0 rfl) rfl (nle rfl) (nle rfl) (nle rfl) (nle rfl) rfl ?_
    refine x_iret rfl C F eL_act_240 (_, nTicks (1 + n9 % 4).toNat n, up J 6 (rmR (J 6)), rmP (J 6) N n) rfl (by rw [hkd]; exact AP_tick hN hs h6 (by omega) (by omega)) (fun cf c h => ?_) (nle rfl) (nle rfl)
    exact WF_pick [0, 1, 2, 3, 4, 5] rfl rfl h
    
  · refine x_tabIn 241 C eL_act_41 (by decide) (by decide) (by decide) rfl rfl ?_
    refine x_aload_n C eL_act_241 rfl ?_
    refine x_iconst C eL_act_242 ?_
    refine x_iload_n C eL_act_243 rfl ?_
    refine x_bipush C eL_act_244 rfl ?_
    refine x_irem C eL_act_246 (by omega) ?_
    refine x_iadd C eL_act_247 ?_
    refine yV1s [] [_, _, _, _, _, _] C (s_X7_tick hK hN (by omega) h6 hS (by omega)) v_X7_tick vv_X7_tick s_RL_114 eL_act_248 (fun _ _ h => WF_pick [0, 1, 2, 3, 4, 5] rfl rfl h) (rcv 0 rfl) rfl (nle rfl) (nle rfl) (nle rfl) (nle rfl) rfl ?_
    refine x_iret rfl C F eL_act_251 (_, nTicks (1 + n9 % 30).toNat n, up J 6 (rmR (J 6)), rmP (J 6) N n) rfl (by rw [hkd]; exact AP_tick hN hs h6 (by omega) (by omega)) (fun cf c h => ?_) (nle rfl) (nle rfl)
    exact WF_pick [0, 1, 2, 3, 4, 5] rfl rfl h
    
  · refine x_tabIn 252 C eL_act_41 (by decide) (by decide) (by decide) rfl rfl ?_
    refine x_iload C eL_act_252 rfl ?_
    refine x_iconst C eL_act_254 ?_
    refine x_icmp_ne 263 C eL_act_255 rfl (by omega) (by omega) (fun h255 => ?_) (fun h255 => ?_)
    · have ho9 := other_ok (ln := n (-1) 0) (m := m9) (l := l9) (by omega) hl9 (by omega)
      refine x_aload_n C eL_act_263 rfl ?_
      refine x_iload C eL_act_264 rfl ?_
      refine x_iload C eL_act_266 rfl ?_
      refine x_iconst C eL_act_268 ?_
      refine x_iadd C eL_act_269 ?_
      refine x_iload C eL_act_270 rfl ?_
      refine x_iload C eL_act_272 rfl ?_
      refine x_iconst C eL_act_274 ?_
      refine x_isub C eL_act_275 ?_
      refine x_irem C eL_act_276 (by omega) ?_
      refine x_iadd C eL_act_277 ?_
      refine x_iload C eL_act_278 rfl ?_
      refine x_irem C eL_act_280 (by omega) ?_
      refine x_iconst C eL_act_281 ?_
      refine x_iload C eL_act_282 rfl ?_
      refine x_bipush C eL_act_284 rfl ?_
      refine x_irem C eL_act_286 (by omega) ?_
      refine x_iadd C eL_act_287 ?_
      refine yV3s [] [_, _, _, _, _, _] C (s_X7_lend hK hN (by omega) h6 hS hl9 (by omega) (by omega) (by omega)) v_X7_lend vv_X7_lend s_RL_117 eL_act_288 (fun _ _ h => WF_pick [0, 1, 2, 3, 4, 5] rfl rfl h) (rcv 0 rfl) rfl (nle rfl) (nle rfl) (nle rfl) (nle rfl) rfl ?_
      refine x_iret rfl C F eL_act_291 (_, un n l9 (bLend (n l9) ((l9 + 1 + m9 % (n (-1) 0 - 1)) % n (-1) 0) (1 + m9 % 6)), up J 6 (rmR (J 6)), rmP (J 6) N n) rfl (by rw [hkd]; exact AP_lend hN hs hl9 (by omega) (by omega) (by omega) h6 (by omega)) (fun cf c h => ?_) (nle rfl) (nle rfl)
      exact WF_pick [0, 1, 2, 3, 4, 5] rfl rfl h
      
    · refine x_bipush C eL_act_258 rfl ?_
      refine x_goto (pc' := 291) C eL_act_260 rfl ?_
      refine x_iret rfl C F eL_act_291 (-99, n, J, N) rfl (by rw [hkd]; exact AP_still (J := J) (NetOk_mono hN (by omega)) hs h6 rfl (by omega)) (fun cf c h => ?_) (nle rfl) (nle rfl)
      exact WF_pick [0, 1, 2, 3, 4, 5] rfl rfl h
      
      
  · refine x_tabIn 252 C eL_act_41 (by decide) (by decide) (by decide) rfl rfl ?_
    refine x_iload C eL_act_252 rfl ?_
    refine x_iconst C eL_act_254 ?_
    refine x_icmp_ne 263 C eL_act_255 rfl (by omega) (by omega) (fun h255 => ?_) (fun h255 => ?_)
    · have ho9 := other_ok (ln := n (-1) 0) (m := m9) (l := l9) (by omega) hl9 (by omega)
      refine x_aload_n C eL_act_263 rfl ?_
      refine x_iload C eL_act_264 rfl ?_
      refine x_iload C eL_act_266 rfl ?_
      refine x_iconst C eL_act_268 ?_
      refine x_iadd C eL_act_269 ?_
      refine x_iload C eL_act_270 rfl ?_
      refine x_iload C eL_act_272 rfl ?_
      refine x_iconst C eL_act_274 ?_
      refine x_isub C eL_act_275 ?_
      refine x_irem C eL_act_276 (by omega) ?_
      refine x_iadd C eL_act_277 ?_
      refine x_iload C eL_act_278 rfl ?_
      refine x_irem C eL_act_280 (by omega) ?_
      refine x_iconst C eL_act_281 ?_
      refine x_iload C eL_act_282 rfl ?_
      refine x_bipush C eL_act_284 rfl ?_
      refine x_irem C eL_act_286 (by omega) ?_
      refine x_iadd C eL_act_287 ?_
      refine yV3s [] [_, _, _, _, _, _] C (s_X7_lend hK hN (by omega) h6 hS hl9 (by omega) (by omega) (by omega)) v_X7_lend vv_X7_lend s_RL_117 eL_act_288 (fun _ _ h => WF_pick [0, 1, 2, 3, 4, 5] rfl rfl h) (rcv 0 rfl) rfl (nle rfl) (nle rfl) (nle rfl) (nle rfl) rfl ?_
      refine x_iret rfl C F eL_act_291 (_, un n l9 (bLend (n l9) ((l9 + 1 + m9 % (n (-1) 0 - 1)) % n (-1) 0) (1 + m9 % 6)), up J 6 (rmR (J 6)), rmP (J 6) N n) rfl (by rw [hkd]; exact AP_lend hN hs hl9 (by omega) (by omega) (by omega) h6 (by omega)) (fun cf c h => ?_) (nle rfl) (nle rfl)
      exact WF_pick [0, 1, 2, 3, 4, 5] rfl rfl h
      
    · refine x_bipush C eL_act_258 rfl ?_
      refine x_goto (pc' := 291) C eL_act_260 rfl ?_
      refine x_iret rfl C F eL_act_291 (-99, n, J, N) rfl (by rw [hkd]; exact AP_still (J := J) (NetOk_mono hN (by omega)) hs h6 rfl (by omega)) (fun cf c h => ?_) (nle rfl) (nle rfl)
      exact WF_pick [0, 1, 2, 3, 4, 5] rfl rfl h
      
      
  · refine x_tabIn 292 C eL_act_41 (by decide) (by decide) (by decide) rfl rfl ?_
    refine x_aload_n C eL_act_292 rfl ?_
    refine x_iload C eL_act_293 rfl ?_
    refine yV1s [] [_, _, _, _, _, _] C (s_X7_recall hK hN (by omega) h6 hS hl9) v_X7_recall vv_X7_recall s_RL_120 eL_act_295 (fun _ _ h => WF_pick [0, 1, 2, 3, 4, 5] rfl rfl h) (rcv 0 rfl) rfl (nle rfl) (nle rfl) (nle rfl) (nle rfl) rfl ?_
    refine x_iret rfl C F eL_act_298 (_, un n l9 (ub (n l9) 12 0), up J 6 (rmR (J 6)), rmP (J 6) N n) rfl (by rw [hkd]; exact AP_ub hN hs hl9 (by omega) h6 (by omega)) (fun cf c h => ?_) (nle rfl) (nle rfl)
    exact WF_pick [0, 1, 2, 3, 4, 5] rfl rfl h
    
  · refine x_tabIn 299 C eL_act_41 (by decide) (by decide) (by decide) rfl rfl ?_
    refine x_iload_n C eL_act_299 rfl ?_
    refine x_iconst C eL_act_300 ?_
    refine x_irem C eL_act_301 (by omega) ?_
    refine x_if_ne 321 C eL_act_302 rfl (by omega) (fun h302 => ?_) (fun h302 => ?_)
    · refine x_aload_n C eL_act_321 rfl ?_
      refine x_iconst C eL_act_322 ?_
      refine yV1s [] [_, _, _, _, _, _] C (s_X7_tick hK hN (by omega) h6 hS (by omega)) v_X7_tick vv_X7_tick s_RL_114 eL_act_323 (fun _ _ h => WF_pick [0, 1, 2, 3, 4, 5] rfl rfl h) (rcv 0 rfl) rfl (nle rfl) (nle rfl) (nle rfl) (nle rfl) rfl ?_
      refine x_iret rfl C F eL_act_326 (_, nTicks (2 : Int).toNat n, up J 6 (rmR (J 6)), rmP (J 6) N n) rfl (by rw [hkd]; exact AP_tick hN hs h6 (by omega) (by omega)) (fun cf c h => ?_) (nle rfl) (nle rfl)
      exact WF_pick [0, 1, 2, 3, 4, 5] rfl rfl h
      
      
    · refine x_aload_n C eL_act_305 rfl ?_
      refine x_iload C eL_act_306 rfl ?_
      refine x_iconst C eL_act_308 ?_
      refine x_iload C eL_act_309 rfl ?_
      refine x_bipush C eL_act_311 rfl ?_
      refine x_irem C eL_act_313 (by omega) ?_
      refine x_iadd C eL_act_314 ?_
      refine yV2s [] [_, _, _, _, _, _] C (s_X7_breakLine hK hN (by omega) h6 hS hl9 (by omega)) v_X7_breakLine vv_X7_breakLine s_RL_123 eL_act_315 (fun _ _ h => WF_pick [0, 1, 2, 3, 4, 5] rfl rfl h) (rcv 0 rfl) rfl (nle rfl) (nle rfl) (nle rfl) (nle rfl) rfl ?_
      refine x_goto (pc' := 326) C eL_act_318 rfl ?_
      refine x_iret rfl C F eL_act_326 (_, un n l9 (bBreak (n l9) (1 + m9 % 6)), up J 6 (rmR (J 6)), rmP (J 6) N n) rfl (by rw [hkd]; exact AP_brk hN hs hl9 (by omega) h6 (by omega)) (fun cf c h => ?_) (nle rfl) (nle rfl)
      exact WF_pick [0, 1, 2, 3, 4, 5] rfl rfl h
      
  · refine x_tabIn 327 C eL_act_41 (by decide) (by decide) (by decide) rfl rfl ?_
    refine x_aload_n C eL_act_327 rfl ?_
    refine x_iload C eL_act_328 rfl ?_
    refine x_iload C eL_act_330 rfl ?_
    refine x_iconst C eL_act_332 ?_
    refine x_irem C eL_act_333 (by omega) ?_
    refine x_if_ne 341 C eL_act_334 rfl (by omega) (fun h334 => ?_) (fun h334 => ?_)
    · refine x_iconst C eL_act_341 ?_
      refine yV2s [] [_, _, _, _, _, _] C (s_X7_setPaused hK False hN (by omega) h6 hS hl9) v_X7_setPaused vv_X7_setPaused s_RL_126 eL_act_342 (fun _ _ h => WF_pick [0, 1, 2, 3, 4, 5] rfl rfl h) (rcv 0 rfl) rfl (nle rfl) (nle rfl) (nle rfl) (nle rfl) rfl ?_
      have hL9 := hN.2.2 l9 hl9.1 hl9.2
      unfold LineOk at hL9
      refine x_if_eq 352 C eL_act_345 rfl (by omega) (fun h345 => ?_) (fun h345 => ?_)
      · refine x_iconst C eL_act_352 ?_
        refine x_iret rfl C F eL_act_353 (_, un n l9 (ub (n l9) 11 (bz False)), up J 6 (rmR (J 6)), rmP (J 6) N n) rfl (by rw [hkd]; exact AP_ub hN hs hl9 (by unfold bz; simp) h6 (by omega)) (fun cf c h => ?_) (nle rfl) (nle rfl)
        exact WF_pick [0, 1, 2, 3, 4, 5] rfl rfl h
        
      · refine x_iconst C eL_act_348 ?_
        refine x_goto (pc' := 353) C eL_act_349 rfl ?_
        refine x_iret rfl C F eL_act_353 (_, un n l9 (ub (n l9) 11 (bz False)), up J 6 (rmR (J 6)), rmP (J 6) N n) rfl (by rw [hkd]; exact AP_ub hN hs hl9 (by unfold bz; simp) h6 (by omega)) (fun cf c h => ?_) (nle rfl) (nle rfl)
        exact WF_pick [0, 1, 2, 3, 4, 5] rfl rfl h
        
      
    · refine x_iconst C eL_act_337 ?_
      refine x_goto (pc' := 342) C eL_act_338 rfl ?_
      refine yV2s [] [_, _, _, _, _, _] C (s_X7_setPaused hK True hN (by omega) h6 hS hl9) v_X7_setPaused vv_X7_setPaused s_RL_126 eL_act_342 (fun _ _ h => WF_pick [0, 1, 2, 3, 4, 5] rfl rfl h) (rcv 0 rfl) rfl (nle rfl) (nle rfl) (nle rfl) (nle rfl) rfl ?_
      have hL9 := hN.2.2 l9 hl9.1 hl9.2
      unfold LineOk at hL9
      refine x_if_eq 352 C eL_act_345 rfl (by omega) (fun h345 => ?_) (fun h345 => ?_)
      · refine x_iconst C eL_act_352 ?_
        refine x_iret rfl C F eL_act_353 (_, un n l9 (ub (n l9) 11 (bz True)), up J 6 (rmR (J 6)), rmP (J 6) N n) rfl (by rw [hkd]; exact AP_ub hN hs hl9 (by unfold bz; simp) h6 (by omega)) (fun cf c h => ?_) (nle rfl) (nle rfl)
        exact WF_pick [0, 1, 2, 3, 4, 5] rfl rfl h
        
      · refine x_iconst C eL_act_348 ?_
        refine x_goto (pc' := 353) C eL_act_349 rfl ?_
        refine x_iret rfl C F eL_act_353 (_, un n l9 (ub (n l9) 11 (bz True)), up J 6 (rmR (J 6)), rmP (J 6) N n) rfl (by rw [hkd]; exact AP_ub hN hs hl9 (by unfold bz; simp) h6 (by omega)) (fun cf c h => ?_) (nle rfl) (nle rfl)
        exact WF_pick [0, 1, 2, 3, 4, 5] rfl rfl h
        
      
  · refine x_tabIn 354 C eL_act_41 (by decide) (by decide) (by decide) rfl rfl ?_
    refine x_aload_n C eL_act_354 rfl ?_
    refine x_iload C eL_act_355 rfl ?_
    refine x_iload C eL_act_357 rfl ?_
    refine x_iconst C eL_act_359 ?_
    refine x_irem C eL_act_360 (by omega) ?_
    refine yV2s [] [_, _, _, _, _, _] C (s_X7_setEcho hK hN (by omega) h6 hS hl9 (by omega)) v_X7_setEcho vv_X7_setEcho s_RL_130 eL_act_361 (fun _ _ h => WF_pick [0, 1, 2, 3, 4, 5] rfl rfl h) (rcv 0 rfl) rfl (nle rfl) (nle rfl) (nle rfl) (nle rfl) rfl ?_
    refine x_iret rfl C F eL_act_364 (_, un n l9 (ub (ub (n l9) 5 (m9 % 3)) 8 0), up J 6 (rmR (J 6)), rmP (J 6) N n) rfl (by rw [hkd]; exact AP_echo hN hs hl9 (by omega) h6 (by omega)) (fun cf c h => ?_) (nle rfl) (nle rfl)
    exact WF_pick [0, 1, 2, 3, 4, 5] rfl rfl h
    
  · refine x_tabIn 365 C eL_act_41 (by decide) (by decide) (by decide) rfl rfl ?_
    refine x_aload_n C eL_act_365 rfl ?_
    refine x_iload C eL_act_366 rfl ?_
    refine x_iload C eL_act_368 rfl ?_
    refine yS3s [] [_, _, _, _, _, _] C (z_marks hK hN (by omega) h6 hS (by omega) (by omega)) v_L_marks vs_L_marks s_RL_133 eL_act_370 (fun _ _ h => WF_pick [0, 1, 2, 3, 4, 5] rfl rfl h) rfl (nle rfl) (nle rfl) (nle rfl) (nle rfl) rfl ?_
    refine x_iret rfl C F eL_act_373 (_, un n l9 (bStop (ub (ub (n l9) 2 (m9 % n l9 1)) 3 (m9 % n l9 1 + 1 + m9 / 100 % (n l9 1 - m9 % n l9 1)))), up J 6 (rmR (J 6)), rmP (J 6) N n) rfl (by rw [hkd]; exact AP_mrk hN hs hl9 (by have hL9 := hN.2.2 l9 hl9.1 hl9.2; unfold LineOk at hL9; have hk9 := marks_ok (cap := n l9 1) (m := m9) (by omega) (by omega); omega) h6 (by omega)) (fun cf c h => ?_) (nle rfl) (nle rfl)
    exact WF_pick [0, 1, 2, 3, 4, 5] rfl rfl h
    
  · refine x_tabIn 374 C eL_act_41 (by decide) (by decide) (by decide) rfl rfl ?_
    refine x_aload_n C eL_act_374 rfl ?_
    refine x_iload C eL_act_375 rfl ?_
    refine x_iconst C eL_act_377 ?_
    refine x_iload C eL_act_378 rfl ?_
    refine x_bipush C eL_act_380 rfl ?_
    refine x_irem C eL_act_382 (by omega) ?_
    refine x_iadd C eL_act_383 ?_
    refine yV2s [] [_, _, _, _, _, _] C (s_X7_setShare hK hN (by omega) h6 hS hl9 (by omega)) v_X7_setShare vv_X7_setShare s_RL_137 eL_act_384 (fun _ _ h => WF_pick [0, 1, 2, 3, 4, 5] rfl rfl h) (rcv 0 rfl) rfl (nle rfl) (nle rfl) (nle rfl) (nle rfl) rfl ?_
    refine x_iret rfl C F eL_act_387 (_, un n l9 (ub (n l9) 4 (1 + m9 % 9)), up J 6 (rmR (J 6)), rmP (J 6) N n) rfl (by rw [hkd]; exact AP_ub hN hs hl9 (by omega) h6 (by omega)) (fun cf c h => ?_) (nle rfl) (nle rfl)
    exact WF_pick [0, 1, 2, 3, 4, 5] rfl rfl h
    
  · refine x_tabIn 388 C eL_act_41 (by decide) (by decide) (by decide) rfl rfl ?_
    refine x_aload_n C eL_act_388 rfl ?_
    refine yV0s [] [_, _, _, _, _, _] C (s_X7_pass hK hN (by omega) h6 hS) v_X7_pass vv_X7_pass s_RL_140 eL_act_389 (fun _ _ h => WF_pick [0, 1, 2, 3, 4, 5] rfl rfl h) (rcv 0 rfl) rfl (nle rfl) (nle rfl) (nle rfl) (nle rfl) rfl ?_
    refine x_iret rfl C F eL_act_392 (_, nPass n, up J 6 (rmR (J 6)), rmP (J 6) N n) rfl (by rw [hkd]; exact AP_pass hN hs h6 (by omega)) (fun cf c h => ?_) (nle rfl) (nle rfl)
    exact WF_pick [0, 1, 2, 3, 4, 5] rfl rfl h
    
  · refine x_tabOut 393 C eL_act_41 (by omega) hsw rfl ?_
    refine x_aload_n C eL_act_393 rfl ?_
    refine x_iconst C eL_act_394 ?_
    refine yV1s [] [_, _, _, _, _, _] C (s_X7_tick hK hN (by omega) h6 hS (by omega)) v_X7_tick vv_X7_tick s_RL_114 eL_act_395 (fun _ _ h => WF_pick [0, 1, 2, 3, 4, 5] rfl rfl h) (rcv 0 rfl) rfl (nle rfl) (nle rfl) (nle rfl) (nle rfl) rfl ?_
    refine x_iret rfl C F eL_act_398 (_, nTicks (1 : Int).toNat n, up J 6 (rmR (J 6)), rmP (J 6) N n) rfl (by rw [hkd]; exact AP_tick hN hs h6 (by omega) (by omega)) (fun cf c h => ?_) (nle rfl) (nle rfl)
    exact WF_pick [0, 1, 2, 3, 4, 5] rfl rfl h
    
