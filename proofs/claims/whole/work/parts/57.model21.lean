set_option maxHeartbeats 4000000 in
set_option maxRecDepth 100000 in
theorem s_X8_nameHere {G : Gm} {l : Launch} (hK : KG G) {o r : Nat} {A : Nat → Nat} {I Fb : Nat → Int} (hFb : ∀ j, -128 ≤ Fb j ∧ Fb j ≤ 127) (hP : Pin Fb I) (hS : KS G) : MD G l yX8_nameHere cX8_nameHere 1 (some .int) 7 0 0 [.ref o] [ob o 10 (shM A r) I, ar G 1 (A 5) 400 400 (Fb)] (some (.int (zI (nmV Fb I)))) [ob o 10 (shM A r) (nmI Fb I), ar G 1 (A 5) 400 400 (Fb)] := by
  refine MX_of (lv := [some (.ref o)]) hK (by decide +kernel) rfl (nle rfl) (fun X C F => ?_)
  have C : OKc G X l RX8 "nameHere" cX8_nameHere 1 (some .int) 7 0 0 := C
  have h0 := hP
  unfold Pin Pin0 at h0
  have hPn := Pin_nm hP
  have hn := hPn
  unfold Pin Pin0 at hn
  have e8 : nmI Fb I 8 = I 8 := by unfold nmI; split <;> first | rfl | exact errI_o (by decide)
  have e9 : nmI Fb I 9 = I 9 := by unfold nmI; split <;> first | rfl | exact errI_o (by decide)
  obtain ⟨s9, hs9⟩ : ∃ s9 : Nat, I 9 = (s9 : Int) := ⟨(I 9).toNat, by omega⟩
  obtain ⟨m9, hm9⟩ : ∃ m9 : Nat, I 8 = ((s9 + m9 : Nat) : Int) := ⟨(I 8 - I 9).toNat, by omega⟩
  have jn : WX G X 0 0 [ob o 10 (shM A r) (nmI Fb I), ar G 1 (A 5) 400 400 (Fb)] 46 [some (.ref o)] [] := by
    refine x_aload_n C eX8_nameHere_46 rfl ?_
    refine yV0r [_] [_, _] C (s_X8_good hK hn.1.2.2.2.1) v_X8_good vv_X8_good s_RX8_152 eX8_nameHere_47 (fun _ _ h => WF_pick [0, 1] rfl rfl h) (rcv 0 rfl) rfl (nle rfl) (nle rfl) (nle rfl) (nle rfl) rfl ?_
    refine x_ifb_eq 71 C eX8_nameHere_50 rfl (fun h50 => ?_) (fun h50 => ?_)
    · refine x_iconst C eX8_nameHere_71 ?_
      refine x_iret (by first | rfl | exact (narZ (by omega)).1) C F eX8_nameHere_72 () ?_ trivial (fun cf c h => ?_) (nle rfl) (nle rfl)
      · first
          | (rw [show nmV Fb I = 0 from if_neg (by assumption)])
          | (rw [show nmV Fb I = nmF Fb (I 9).toNat (I 8 - I 9).toNat from if_pos (by assumption), hs9, hm9]
             rw [show ((s9 : Nat) : Int).toNat = s9 by omega, show (((s9 + m9 : Nat) : Int) - (s9 : Int)).toNat = m9 by omega])
      · exact WF_pick [0, 1] rfl rfl h
    · have ho := nmI_ok (F := Fb) h50
      have hl9 := hP.2.2.2 ho.2.1
      refine x_aload_n C eX8_nameHere_53 rfl ?_
      refine x_getR 0 C f_RX8_30 eX8_nameHere_54 rfl rfl ?_
      refine x_aload_n C eX8_nameHere_57 rfl ?_
      refine x_getI 0 C f_RX8_155 eX8_nameHere_58 rfl rfl ?_
      try simp (disch := decide) only [up_s, up_n]
      refine x_aload_n C eX8_nameHere_61 rfl ?_
      refine x_getI 0 C f_RX8_161 eX8_nameHere_62 rfl rfl ?_
      try simp (disch := decide) only [up_s, up_n]
      rw [e8, e9, hs9, hm9]
      refine yS3r [_] [_, _] C (s_X8_nameOf hK (by omega)) v_X8_nameOf vs_X8_nameOf s_RX8_245 eX8_nameHere_65 (fun _ _ h => WF_pick [1, 0] rfl rfl h) rfl (nle rfl) (nle rfl) (nle rfl) (nle rfl) rfl ?_
      refine x_goto (pc' := 72) C eX8_nameHere_68 rfl ?_
      refine x_iret (by first | rfl | exact (narZ (by omega)).1) C F eX8_nameHere_72 () ?_ trivial (fun cf c h => ?_) (nle rfl) (nle rfl)
      · first
          | (rw [show nmV Fb I = 0 from if_neg (by assumption)])
          | (rw [show nmV Fb I = nmF Fb (I 9).toNat (I 8 - I 9).toNat from if_pos (by assumption), hs9, hm9]
             rw [show ((s9 : Nat) : Int).toNat = s9 by omega, show (((s9 + m9 : Nat) : Int) - (s9 : Int)).toNat = m9 by omega])
      · exact WF_pick [1, 0] rfl rfl h
  refine x_aload_n C eX8_nameHere_0 rfl ?_
  refine x_aload_n C eX8_nameHere_1 rfl ?_
  refine yV0r [_] [_, _] C (s_X8_good hK h0.1.2.2.2.1) v_X8_good vv_X8_good s_RX8_152 eX8_nameHere_2 (fun _ _ h => WF_pick [0, 1] rfl rfl h) (rcv 0 rfl) rfl (nle rfl) (nle rfl) (nle rfl) (nle rfl) rfl ?_
  refine x_ifb_eq 41 C eX8_nameHere_5 rfl (fun h5 => ?_) (fun h5 => ?_)
  · refine x_iconst C eX8_nameHere_41 ?_
    refine x_iconst C eX8_nameHere_42 ?_
    refine yV2v [_] [_, _] C (s_X8_errsIf hK (I 12 = 0 ∧ (I 10 ≠ 1 ∨ 6 < I 8 - I 9 ∨ keyW Fb I = true)) (by first | (rw [bz_t]; first | omega | exact ⟨by assumption, Or.inr (Or.inr (by assumption))⟩) | (rw [bz_f]; rintro ⟨z1, z2 | z2 | z2⟩ <;> first | omega | contradiction)) h0.1.2.2.2.1) v_X8_errsIf vv_X8_errsIf s_RX8_241 eX8_nameHere_43 (fun _ _ h => WF_pick [0, 1] rfl rfl h) (rcv 0 rfl) rfl (nle rfl) (nle rfl) (nle rfl) (nle rfl) rfl ?_
    rw [nmI_if]
    exact x_pick [_, _] [0, 1] rfl rfl jn
  · refine x_aload_n C eX8_nameHere_8 rfl ?_
    refine x_getI 0 C f_RX8_168 eX8_nameHere_9 rfl rfl ?_
    refine x_iconst C eX8_nameHere_12 ?_
    refine x_icmp_ne 37 C eX8_nameHere_13 rfl (by omega) (by omega) (fun h13 => ?_) (fun h13 => ?_)
    · refine x_iconst C eX8_nameHere_37 ?_
      refine x_goto (pc' := 42) C eX8_nameHere_38 rfl ?_
      refine x_iconst C eX8_nameHere_42 ?_
      refine yV2v [_] [_, _] C (s_X8_errsIf hK (I 12 = 0 ∧ (I 10 ≠ 1 ∨ 6 < I 8 - I 9 ∨ keyW Fb I = true)) (by first | (rw [bz_t]; first | omega | exact ⟨by assumption, Or.inr (Or.inr (by assumption))⟩) | (rw [bz_f]; rintro ⟨z1, z2 | z2 | z2⟩ <;> first | omega | contradiction)) h0.1.2.2.2.1) v_X8_errsIf vv_X8_errsIf s_RX8_241 eX8_nameHere_43 (fun _ _ h => WF_pick [0, 1] rfl rfl h) (rcv 0 rfl) rfl (nle rfl) (nle rfl) (nle rfl) (nle rfl) rfl ?_
      rw [nmI_if]
      exact x_pick [_, _] [0, 1] rfl rfl jn
    · refine x_aload_n C eX8_nameHere_16 rfl ?_
      refine x_getI 0 C f_RX8_161 eX8_nameHere_17 rfl rfl ?_
      refine x_aload_n C eX8_nameHere_20 rfl ?_
      refine x_getI 0 C f_RX8_155 eX8_nameHere_21 rfl rfl ?_
      refine x_isub C eX8_nameHere_24 ?_
      refine x_bipush C eX8_nameHere_25 rfl ?_
      refine x_icmp_gt 37 C eX8_nameHere_27 rfl (by omega) (by omega) (fun h27 => ?_) (fun h27 => ?_)
      · refine x_iconst C eX8_nameHere_37 ?_
        refine x_goto (pc' := 42) C eX8_nameHere_38 rfl ?_
        refine x_iconst C eX8_nameHere_42 ?_
        refine yV2v [_] [_, _] C (s_X8_errsIf hK (I 12 = 0 ∧ (I 10 ≠ 1 ∨ 6 < I 8 - I 9 ∨ keyW Fb I = true)) (by first | (rw [bz_t]; first | omega | exact ⟨by assumption, Or.inr (Or.inr (by assumption))⟩) | (rw [bz_f]; rintro ⟨z1, z2 | z2 | z2⟩ <;> first | omega | contradiction)) h0.1.2.2.2.1) v_X8_errsIf vv_X8_errsIf s_RX8_241 eX8_nameHere_43 (fun _ _ h => WF_pick [0, 1] rfl rfl h) (rcv 0 rfl) rfl (nle rfl) (nle rfl) (nle rfl) (nle rfl) rfl ?_
        rw [nmI_if]
        exact x_pick [_, _] [0, 1] rfl rfl jn
      · refine x_aload_n C eX8_nameHere_30 rfl ?_
        refine yV0r [] [_, _] C (s_X8_isKeyword hK hFb hP hS) v_X8_isKeyword vv_X8_isKeyword s_RX8_238 eX8_nameHere_31 (fun _ _ h => WF_pick [0, 1] rfl rfl h) (rcv 0 rfl) rfl (nle rfl) (nle rfl) (nle rfl) (nle rfl) rfl ?_
        refine x_ifb_eq 41 C eX8_nameHere_34 rfl (fun h34 => ?_) (fun h34 => ?_)
        · refine x_iconst C eX8_nameHere_41 ?_
          refine x_iconst C eX8_nameHere_42 ?_
          refine yV2v [_] [_, _] C (s_X8_errsIf hK (I 12 = 0 ∧ (I 10 ≠ 1 ∨ 6 < I 8 - I 9 ∨ keyW Fb I = true)) (by first | (rw [bz_t]; first | omega | exact ⟨by assumption, Or.inr (Or.inr (by assumption))⟩) | (rw [bz_f]; rintro ⟨z1, z2 | z2 | z2⟩ <;> first | omega | contradiction)) h0.1.2.2.2.1) v_X8_errsIf vv_X8_errsIf s_RX8_241 eX8_nameHere_43 (fun _ _ h => WF_pick [0, 1] rfl rfl h) (rcv 0 rfl) rfl (nle rfl) (nle rfl) (nle rfl) (nle rfl) rfl ?_
          rw [nmI_if]
          exact x_pick [_, _] [0, 1] rfl rfl jn
        · refine x_iconst C eX8_nameHere_37 ?_
          refine x_goto (pc' := 42) C eX8_nameHere_38 rfl ?_
          refine x_iconst C eX8_nameHere_42 ?_
          refine yV2v [_] [_, _] C (s_X8_errsIf hK (I 12 = 0 ∧ (I 10 ≠ 1 ∨ 6 < I 8 - I 9 ∨ keyW Fb I = true)) (by first | (rw [bz_t]; first | omega | exact ⟨by assumption, Or.inr (Or.inr (by assumption))⟩) | (rw [bz_f]; rintro ⟨z1, z2 | z2 | z2⟩ <;> first | omega | contradiction)) h0.1.2.2.2.1) v_X8_errsIf vv_X8_errsIf s_RX8_241 eX8_nameHere_43 (fun _ _ h => WF_pick [0, 1] rfl rfl h) (rcv 0 rfl) rfl (nle rfl) (nle rfl) (nle rfl) (nle rfl) rfl ?_
          rw [nmI_if]
          exact x_pick [_, _] [0, 1] rfl rfl jn

set_option maxHeartbeats 4000000 in
set_option maxRecDepth 100000 in
theorem s_X8_lineHere {G : Gm} {l : Launch} (hK : KG G) {o r : Nat} {A : Nat → Nat} {I Fb : Nat → Int} {N : Nat → Net} {n : Net} (hr : rok r) (hFb : ∀ j, -128 ≤ Fb j ∧ Fb j ≤ 127) (hP : Pin Fb I) (hS : KS G) (hn : 0 ≤ n (-1) 0 ∧ n (-1) 0 ≤ 6) (hm : ∀ k : Int, 0 ≤ k → k < n (-1) 0 → 0 ≤ n k 0 ∧ n k 0 < 387420489) : MD G l yX8_lineHere cX8_lineHere 2 (some .int) 8 0 0 [.ref o] [ob o 10 (shM A r) I, ar G 1 (A 5) 400 400 (Fb), fam G A (uN N r n)] (some (.int (zI (lhV Fb n I)))) [ob o 10 (shM A r) (lhI Fb n I), ar G 1 (A 5) 400 400 (Fb), fam G A (uN N r n)] := by
  refine MX_of (lv := [some (.ref o), none]) hK (by decide +kernel) rfl (nle rfl) (fun X C F => ?_)
  have C : OKc G X l RX8 "lineHere" cX8_lineHere 2 (some .int) 8 0 0 := C
  have h0 := hP
  unfold Pin Pin0 at h0
  have hv9 := nmV_r hP
  have hl9 := lnN_r (n := n) (v := nmV Fb I) hn
  have hPn := Pin_nm hP
  have jl : WX G X 0 0 [ob o 10 (shM A r) (lhI Fb n I), ar G 1 (A 5) 400 400 (Fb), fam G A (uN N r n)] 24 [some (.ref o), some (.int (zI (lnN n (nmV Fb I))))] [] := by
    refine x_iconst C eX8_lineHere_24 ?_
    refine x_iload_n C eX8_lineHere_25 rfl ?_
    refine x_max C s_RX8_114 s2_max eX8_lineHere_26 rfl (nle rfl) (nle rfl) (nle rfl) (nle rfl) (by omega) (by omega) ?_
    refine x_iret (by first | rfl | exact (narZ (by omega)).1) C F eX8_lineHere_29 () ?_ trivial (fun cf c h => ?_) (nle rfl) (nle rfl)
    · rfl
    · exact WF_pick [0, 1, 2] rfl rfl h
  refine x_aload_n C eX8_lineHere_0 rfl ?_
  refine x_aload_n C eX8_lineHere_1 rfl ?_
  refine yV0r [_] [_, _, _] C (s_X8_nameHere hK hFb hP hS) v_X8_nameHere vv_X8_nameHere s_RX8_249 eX8_lineHere_2 (fun _ _ h => WF_pick [0, 1, 2] rfl rfl h) (rcv 0 rfl) rfl (nle rfl) (nle rfl) (nle rfl) (nle rfl) rfl ?_
  refine yV1r [_] [_, _, _] C (s_X8_lineNamed hK hr (by omega) (by omega) (by omega)) v_X8_lineNamed vv_X8_lineNamed s_RX8_252 eX8_lineHere_5 (fun _ _ h => WF_pick [0, 2, 1] rfl rfl h) (rcv 0 rfl) rfl (nle rfl) (nle rfl) (nle rfl) (nle rfl) rfl ?_
  refine x_istore_n [_, _] C eX8_lineHere_8 rfl rfl (nlt rfl) ?_
  refine x_aload_n C eX8_lineHere_9 rfl ?_
  refine x_iload_n C eX8_lineHere_10 rfl ?_
  refine x_iconst C eX8_lineHere_11 ?_
  refine x_icmp_ne 19 C eX8_lineHere_12 rfl (by omega) (by omega) (fun h12 => ?_) (fun h12 => ?_)
  · refine x_iconst C eX8_lineHere_19 ?_
    refine x_iconst C eX8_lineHere_20 ?_
    refine yV2v [_, _] [_, _, _] C (s_X8_errsIf hK (lnN n (nmV Fb I) = -1) (by first | rfl | rw [bz_t (by omega)] | rw [bz_f (by omega)]) hPn.1.2.2.2.1) v_X8_errsIf vv_X8_errsIf s_RX8_241 eX8_lineHere_21 (fun _ _ h => WF_pick [0, 1, 2] rfl rfl h) (rcv 0 rfl) rfl (nle rfl) (nle rfl) (nle rfl) (nle rfl) rfl ?_
    skip
    exact x_pick [_, _, _] [0, 2, 1] rfl rfl jl
  · refine x_iconst C eX8_lineHere_15 ?_
    refine x_goto (pc' := 20) C eX8_lineHere_16 rfl ?_
    refine x_iconst C eX8_lineHere_20 ?_
    refine yV2v [_, _] [_, _, _] C (s_X8_errsIf hK (lnN n (nmV Fb I) = -1) (by first | rfl | rw [bz_t (by omega)] | rw [bz_f (by omega)]) hPn.1.2.2.2.1) v_X8_errsIf vv_X8_errsIf s_RX8_241 eX8_lineHere_21 (fun _ _ h => WF_pick [0, 1, 2] rfl rfl h) (rcv 0 rfl) rfl (nle rfl) (nle rfl) (nle rfl) (nle rfl) rfl ?_
    skip
    exact x_pick [_, _, _] [0, 2, 1] rfl rfl jl

set_option maxHeartbeats 4000000 in
set_option maxRecDepth 100000 in
theorem s_X8_takeEcho {G : Gm} {l : Launch} (hK : KG G) {o r : Nat} {A : Nat → Nat} {I Fb : Nat → Int} (hFb : ∀ j, -128 ≤ Fb j ∧ Fb j ≤ 127) (hP : Pin Fb I) (hS : KS G) : MD G l yX8_takeEcho cX8_takeEcho 2 (some .int) 6 0 0 [.ref o] [ob o 10 (shM A r) I, ar G 1 (A 5) 400 400 (Fb)] (some (.int (zI (ecV Fb I)))) [ob o 10 (shM A r) (ecI Fb I), ar G 1 (A 5) 400 400 (Fb)] := by
  refine MX_of (lv := [some (.ref o), none]) hK (by decide +kernel) rfl (nle rfl) (fun X C F => ?_)
  have C : OKc G X l RX8 "takeEcho" cX8_takeEcho 2 (some .int) 6 0 0 := C
  have h0 := hP
  unfold Pin Pin0 at h0
  have hP1 := Pin_go hFb hP
  refine x_aload_n C eX8_takeEcho_0 rfl ?_
  obtain ⟨q1, b1, hr1, hq1⟩ := lit_RX8_215 hS
  refine x_ldcS C hr1 eX8_takeEcho_1 ?_
  refine yV1r [] [_, _] C (s_X8_isWord hK hFb hP hS hq1) v_X8_isWord vv_X8_isWord s_RX8_203 eX8_takeEcho_3 (fun _ _ h => WF_pick [0, 1] rfl rfl h) (rcv 0 rfl) rfl (nle rfl) (nle rfl) (nle rfl) (nle rfl) rfl ?_
  refine x_ifb_ne 11 C eX8_takeEcho_6 rfl (fun h6 => ?_) (fun h6 => ?_)
  · refine x_aload_n C eX8_takeEcho_11 rfl ?_
    refine yV0v [] [_, _] C (s_X8_goOn hK hFb hP) v_X8_goOn vv_X8_goOn s_RX8_200 eX8_takeEcho_12 (fun _ _ h => WF_pick [0, 1] rfl rfl h) (rcv 0 rfl) rfl (nle rfl) (nle rfl) (nle rfl) (nle rfl) rfl ?_
    refine x_aload_n C eX8_takeEcho_15 rfl ?_
    obtain ⟨q16, b16, hr16, hq16⟩ := lit_RX8_219 hS
    refine x_ldcS C hr16 eX8_takeEcho_16 ?_
    refine yV1r [] [_, _] C (s_X8_isWord hK hFb hP1 hS hq16) v_X8_isWord vv_X8_isWord s_RX8_203 eX8_takeEcho_18 (fun _ _ h => WF_pick [0, 1] rfl rfl h) (rcv 0 rfl) rfl (nle rfl) (nle rfl) (nle rfl) (nle rfl) rfl ?_
    refine x_ifb_eq 28 C eX8_takeEcho_21 rfl (fun h21 => ?_) (fun h21 => ?_)
    · refine x_aload_n C eX8_takeEcho_28 rfl ?_
      obtain ⟨q29, b29, hr29, hq29⟩ := lit_RX8_221 hS
      refine x_ldcS C hr29 eX8_takeEcho_29 ?_
      refine yV1r [] [_, _] C (s_X8_isWord hK hFb hP1 hS hq29) v_X8_isWord vv_X8_isWord s_RX8_203 eX8_takeEcho_31 (fun _ _ h => WF_pick [0, 1] rfl rfl h) (rcv 0 rfl) rfl (nle rfl) (nle rfl) (nle rfl) (nle rfl) rfl ?_
      refine x_ifb_eq 41 C eX8_takeEcho_34 rfl (fun h34 => ?_) (fun h34 => ?_)
      · refine x_iconst C eX8_takeEcho_41 ?_
        refine x_istore_n [_, _] C eX8_takeEcho_42 rfl rfl (nlt rfl) ?_
        refine x_aload_n C eX8_takeEcho_43 rfl ?_
        refine x_iload_n C eX8_takeEcho_44 rfl ?_
        refine x_if_ne 61 C eX8_takeEcho_45 rfl (by omega) (fun h45 => ?_) (fun h45 => ?_)
        · refine x_iconst C eX8_takeEcho_61 ?_
          refine x_iconst C eX8_takeEcho_62 ?_
          refine yV2v [_] [_, _] C (s_X8_errsIf hK (¬ (isWd Fb (goI Fb I) w_each = true ∨ isWd Fb (goI Fb I) w_whole = true ∨ isWd Fb (goI Fb I) w_none = true)) (by first | (exfalso; omega) | (rw [bz_t]; simp [*]; done) | (rw [bz_f]; simp [*]; done)) hP1.1.2.2.2.1) v_X8_errsIf vv_X8_errsIf s_RX8_241 eX8_takeEcho_63 (fun _ _ h => WF_pick [0, 1] rfl rfl h) (rcv 0 rfl) rfl (nle rfl) (nle rfl) (nle rfl) (nle rfl) rfl ?_
          rw [ite_not]
          refine x_aload_n C eX8_takeEcho_66 rfl ?_
          refine yV0v [] [_, _] C (s_X8_goOn hK hFb (Pin_if hP1 (Pin_err (by decide) hP1))) v_X8_goOn vv_X8_goOn s_RX8_200 eX8_takeEcho_67 (fun _ _ h => WF_pick [0, 1] rfl rfl h) (rcv 0 rfl) rfl (nle rfl) (nle rfl) (nle rfl) (nle rfl) rfl ?_
          refine x_iload_n C eX8_takeEcho_70 rfl ?_
          refine x_iret (by first | rfl | exact (narZ (by omega)).1) C F eX8_takeEcho_71 () ?_ trivial (fun cf c h => ?_) (nle rfl) (nle rfl)
          · first
              | (exfalso; omega)
              | (rw [show ecV Fb I = 0 from if_neg (by assumption)])
              | (rw [show ecV Fb I = 1 from by unfold ecV; rw [if_pos h6, if_pos (by assumption)]])
              | (rw [show ecV Fb I = 2 from by unfold ecV; rw [if_pos h6, if_neg (by assumption), if_pos (by assumption)]])
              | (rw [show ecV Fb I = 0 from by unfold ecV; rw [if_pos h6, if_neg (by assumption), if_neg (by assumption)]])
          · first
              | (rw [show ecI Fb I = I from if_neg (by assumption)]; exact WF_pick [0, 1] rfl rfl h)
              | (rw [show ecI Fb I = goI Fb (if (isWd Fb (goI Fb I) w_each = true ∨ isWd Fb (goI Fb I) w_whole = true ∨ isWd Fb (goI Fb I) w_none = true) then goI Fb I else errI (goI Fb I) 1) from if_pos h6]; exact WF_pick [0, 1] rfl rfl h)
              | (exfalso; omega)
        · refine x_aload_n C eX8_takeEcho_48 rfl ?_
          obtain ⟨q49, b49, hr49, hq49⟩ := lit_RX8_217 hS
          refine x_ldcS C hr49 eX8_takeEcho_49 ?_
          refine yV1r [] [_, _] C (s_X8_isWord hK hFb hP1 hS hq49) v_X8_isWord vv_X8_isWord s_RX8_203 eX8_takeEcho_51 (fun _ _ h => WF_pick [0, 1] rfl rfl h) (rcv 0 rfl) rfl (nle rfl) (nle rfl) (nle rfl) (nle rfl) rfl ?_
          refine x_ifb_ne 61 C eX8_takeEcho_54 rfl (fun h54 => ?_) (fun h54 => ?_)
          · refine x_iconst C eX8_takeEcho_61 ?_
            refine x_iconst C eX8_takeEcho_62 ?_
            refine yV2v [_] [_, _] C (s_X8_errsIf hK (¬ (isWd Fb (goI Fb I) w_each = true ∨ isWd Fb (goI Fb I) w_whole = true ∨ isWd Fb (goI Fb I) w_none = true)) (by first | (exfalso; omega) | (rw [bz_t]; simp [*]; done) | (rw [bz_f]; simp [*]; done)) hP1.1.2.2.2.1) v_X8_errsIf vv_X8_errsIf s_RX8_241 eX8_takeEcho_63 (fun _ _ h => WF_pick [0, 1] rfl rfl h) (rcv 0 rfl) rfl (nle rfl) (nle rfl) (nle rfl) (nle rfl) rfl ?_
            rw [ite_not]
            refine x_aload_n C eX8_takeEcho_66 rfl ?_
            refine yV0v [] [_, _] C (s_X8_goOn hK hFb (Pin_if hP1 (Pin_err (by decide) hP1))) v_X8_goOn vv_X8_goOn s_RX8_200 eX8_takeEcho_67 (fun _ _ h => WF_pick [0, 1] rfl rfl h) (rcv 0 rfl) rfl (nle rfl) (nle rfl) (nle rfl) (nle rfl) rfl ?_
            refine x_iload_n C eX8_takeEcho_70 rfl ?_
            refine x_iret (by first | rfl | exact (narZ (by omega)).1) C F eX8_takeEcho_71 () ?_ trivial (fun cf c h => ?_) (nle rfl) (nle rfl)
            · first
                | (exfalso; omega)
                | (rw [show ecV Fb I = 0 from if_neg (by assumption)])
                | (rw [show ecV Fb I = 1 from by unfold ecV; rw [if_pos h6, if_pos (by assumption)]])
                | (rw [show ecV Fb I = 2 from by unfold ecV; rw [if_pos h6, if_neg (by assumption), if_pos (by assumption)]])
                | (rw [show ecV Fb I = 0 from by unfold ecV; rw [if_pos h6, if_neg (by assumption), if_neg (by assumption)]])
            · first
                | (rw [show ecI Fb I = I from if_neg (by assumption)]; exact WF_pick [0, 1] rfl rfl h)
                | (rw [show ecI Fb I = goI Fb (if (isWd Fb (goI Fb I) w_each = true ∨ isWd Fb (goI Fb I) w_whole = true ∨ isWd Fb (goI Fb I) w_none = true) then goI Fb I else errI (goI Fb I) 1) from if_pos h6]; exact WF_pick [0, 1] rfl rfl h)
                | (exfalso; omega)
          · refine x_iconst C eX8_takeEcho_57 ?_
            refine x_goto (pc' := 62) C eX8_takeEcho_58 rfl ?_
            refine x_iconst C eX8_takeEcho_62 ?_
            refine yV2v [_] [_, _] C (s_X8_errsIf hK (¬ (isWd Fb (goI Fb I) w_each = true ∨ isWd Fb (goI Fb I) w_whole = true ∨ isWd Fb (goI Fb I) w_none = true)) (by first | (exfalso; omega) | (rw [bz_t]; simp [*]; done) | (rw [bz_f]; simp [*]; done)) hP1.1.2.2.2.1) v_X8_errsIf vv_X8_errsIf s_RX8_241 eX8_takeEcho_63 (fun _ _ h => WF_pick [0, 1] rfl rfl h) (rcv 0 rfl) rfl (nle rfl) (nle rfl) (nle rfl) (nle rfl) rfl ?_
            rw [ite_not]
            refine x_aload_n C eX8_takeEcho_66 rfl ?_
            refine yV0v [] [_, _] C (s_X8_goOn hK hFb (Pin_if hP1 (Pin_err (by decide) hP1))) v_X8_goOn vv_X8_goOn s_RX8_200 eX8_takeEcho_67 (fun _ _ h => WF_pick [0, 1] rfl rfl h) (rcv 0 rfl) rfl (nle rfl) (nle rfl) (nle rfl) (nle rfl) rfl ?_
            refine x_iload_n C eX8_takeEcho_70 rfl ?_
            refine x_iret (by first | rfl | exact (narZ (by omega)).1) C F eX8_takeEcho_71 () ?_ trivial (fun cf c h => ?_) (nle rfl) (nle rfl)
            · first
                | (exfalso; omega)
                | (rw [show ecV Fb I = 0 from if_neg (by assumption)])
                | (rw [show ecV Fb I = 1 from by unfold ecV; rw [if_pos h6, if_pos (by assumption)]])
                | (rw [show ecV Fb I = 2 from by unfold ecV; rw [if_pos h6, if_neg (by assumption), if_pos (by assumption)]])
                | (rw [show ecV Fb I = 0 from by unfold ecV; rw [if_pos h6, if_neg (by assumption), if_neg (by assumption)]])
            · first
                | (rw [show ecI Fb I = I from if_neg (by assumption)]; exact WF_pick [0, 1] rfl rfl h)
                | (rw [show ecI Fb I = goI Fb (if (isWd Fb (goI Fb I) w_each = true ∨ isWd Fb (goI Fb I) w_whole = true ∨ isWd Fb (goI Fb I) w_none = true) then goI Fb I else errI (goI Fb I) 1) from if_pos h6]; exact WF_pick [0, 1] rfl rfl h)
                | (exfalso; omega)
      · refine x_iconst C eX8_takeEcho_37 ?_
        refine x_goto (pc' := 42) C eX8_takeEcho_38 rfl ?_
        refine x_istore_n [_, _] C eX8_takeEcho_42 rfl rfl (nlt rfl) ?_
        refine x_aload_n C eX8_takeEcho_43 rfl ?_
        refine x_iload_n C eX8_takeEcho_44 rfl ?_
        refine x_if_ne 61 C eX8_takeEcho_45 rfl (by omega) (fun h45 => ?_) (fun h45 => ?_)
        · refine x_iconst C eX8_takeEcho_61 ?_
          refine x_iconst C eX8_takeEcho_62 ?_
          refine yV2v [_] [_, _] C (s_X8_errsIf hK (¬ (isWd Fb (goI Fb I) w_each = true ∨ isWd Fb (goI Fb I) w_whole = true ∨ isWd Fb (goI Fb I) w_none = true)) (by first | (exfalso; omega) | (rw [bz_t]; simp [*]; done) | (rw [bz_f]; simp [*]; done)) hP1.1.2.2.2.1) v_X8_errsIf vv_X8_errsIf s_RX8_241 eX8_takeEcho_63 (fun _ _ h => WF_pick [0, 1] rfl rfl h) (rcv 0 rfl) rfl (nle rfl) (nle rfl) (nle rfl) (nle rfl) rfl ?_
          rw [ite_not]
          refine x_aload_n C eX8_takeEcho_66 rfl ?_
          refine yV0v [] [_, _] C (s_X8_goOn hK hFb (Pin_if hP1 (Pin_err (by decide) hP1))) v_X8_goOn vv_X8_goOn s_RX8_200 eX8_takeEcho_67 (fun _ _ h => WF_pick [0, 1] rfl rfl h) (rcv 0 rfl) rfl (nle rfl) (nle rfl) (nle rfl) (nle rfl) rfl ?_
          refine x_iload_n C eX8_takeEcho_70 rfl ?_
          refine x_iret (by first | rfl | exact (narZ (by omega)).1) C F eX8_takeEcho_71 () ?_ trivial (fun cf c h => ?_) (nle rfl) (nle rfl)
          · first
              | (exfalso; omega)
              | (rw [show ecV Fb I = 0 from if_neg (by assumption)])
              | (rw [show ecV Fb I = 1 from by unfold ecV; rw [if_pos h6, if_pos (by assumption)]])
              | (rw [show ecV Fb I = 2 from by unfold ecV; rw [if_pos h6, if_neg (by assumption), if_pos (by assumption)]])
              | (rw [show ecV Fb I = 0 from by unfold ecV; rw [if_pos h6, if_neg (by assumption), if_neg (by assumption)]])
          · first
              | (rw [show ecI Fb I = I from if_neg (by assumption)]; exact WF_pick [0, 1] rfl rfl h)
              | (rw [show ecI Fb I = goI Fb (if (isWd Fb (goI Fb I) w_each = true ∨ isWd Fb (goI Fb I) w_whole = true ∨ isWd Fb (goI Fb I) w_none = true) then goI Fb I else errI (goI Fb I) 1) from if_pos h6]; exact WF_pick [0, 1] rfl rfl h)
              | (exfalso; omega)
        · refine x_aload_n C eX8_takeEcho_48 rfl ?_
          obtain ⟨q49, b49, hr49, hq49⟩ := lit_RX8_217 hS
          refine x_ldcS C hr49 eX8_takeEcho_49 ?_
          refine yV1r [] [_, _] C (s_X8_isWord hK hFb hP1 hS hq49) v_X8_isWord vv_X8_isWord s_RX8_203 eX8_takeEcho_51 (fun _ _ h => WF_pick [0, 1] rfl rfl h) (rcv 0 rfl) rfl (nle rfl) (nle rfl) (nle rfl) (nle rfl) rfl ?_
          refine x_ifb_ne 61 C eX8_takeEcho_54 rfl (fun h54 => ?_) (fun h54 => ?_)
          · refine x_iconst C eX8_takeEcho_61 ?_
            refine x_iconst C eX8_takeEcho_62 ?_
            refine yV2v [_] [_, _] C (s_X8_errsIf hK (¬ (isWd Fb (goI Fb I) w_each = true ∨ isWd Fb (goI Fb I) w_whole = true ∨ isWd Fb (goI Fb I) w_none = true)) (by first | (exfalso; omega) | (rw [bz_t]; simp [*]; done) | (rw [bz_f]; simp [*]; done)) hP1.1.2.2.2.1) v_X8_errsIf vv_X8_errsIf s_RX8_241 eX8_takeEcho_63 (fun _ _ h => WF_pick [0, 1] rfl rfl h) (rcv 0 rfl) rfl (nle rfl) (nle rfl) (nle rfl) (nle rfl) rfl ?_
            rw [ite_not]
            refine x_aload_n C eX8_takeEcho_66 rfl ?_
            refine yV0v [] [_, _] C (s_X8_goOn hK hFb (Pin_if hP1 (Pin_err (by decide) hP1))) v_X8_goOn vv_X8_goOn s_RX8_200 eX8_takeEcho_67 (fun _ _ h => WF_pick [0, 1] rfl rfl h) (rcv 0 rfl) rfl (nle rfl) (nle rfl) (nle rfl) (nle rfl) rfl ?_
            refine x_iload_n C eX8_takeEcho_70 rfl ?_
            refine x_iret (by first | rfl | exact (narZ (by omega)).1) C F eX8_takeEcho_71 () ?_ trivial (fun cf c h => ?_) (nle rfl) (nle rfl)
            · first
                | (exfalso; omega)
                | (rw [show ecV Fb I = 0 from if_neg (by assumption)])
                | (rw [show ecV Fb I = 1 from by unfold ecV; rw [if_pos h6, if_pos (by assumption)]])
                | (rw [show ecV Fb I = 2 from by unfold ecV; rw [if_pos h6, if_neg (by assumption), if_pos (by assumption)]])
                | (rw [show ecV Fb I = 0 from by unfold ecV; rw [if_pos h6, if_neg (by assumption), if_neg (by assumption)]])
            · first
                | (rw [show ecI Fb I = I from if_neg (by assumption)]; exact WF_pick [0, 1] rfl rfl h)
                | (rw [show ecI Fb I = goI Fb (if (isWd Fb (goI Fb I) w_each = true ∨ isWd Fb (goI Fb I) w_whole = true ∨ isWd Fb (goI Fb I) w_none = true) then goI Fb I else errI (goI Fb I) 1) from if_pos h6]; exact WF_pick [0, 1] rfl rfl h)
                | (exfalso; omega)
          · refine x_iconst C eX8_takeEcho_57 ?_
            refine x_goto (pc' := 62) C eX8_takeEcho_58 rfl ?_
            refine x_iconst C eX8_takeEcho_62 ?_
            refine yV2v [_] [_, _] C (s_X8_errsIf hK (¬ (isWd Fb (goI Fb I) w_each = true ∨ isWd Fb (goI Fb I) w_whole = true ∨ isWd Fb (goI Fb I) w_none = true)) (by first | (exfalso; omega) | (rw [bz_t]; simp [*]; done) | (rw [bz_f]; simp [*]; done)) hP1.1.2.2.2.1) v_X8_errsIf vv_X8_errsIf s_RX8_241 eX8_takeEcho_63 (fun _ _ h => WF_pick [0, 1] rfl rfl h) (rcv 0 rfl) rfl (nle rfl) (nle rfl) (nle rfl) (nle rfl) rfl ?_
            rw [ite_not]
            refine x_aload_n C eX8_takeEcho_66 rfl ?_
            refine yV0v [] [_, _] C (s_X8_goOn hK hFb (Pin_if hP1 (Pin_err (by decide) hP1))) v_X8_goOn vv_X8_goOn s_RX8_200 eX8_takeEcho_67 (fun _ _ h => WF_pick [0, 1] rfl rfl h) (rcv 0 rfl) rfl (nle rfl) (nle rfl) (nle rfl) (nle rfl) rfl ?_
            refine x_iload_n C eX8_takeEcho_70 rfl ?_
            refine x_iret (by first | rfl | exact (narZ (by omega)).1) C F eX8_takeEcho_71 () ?_ trivial (fun cf c h => ?_) (nle rfl) (nle rfl)
            · first
                | (exfalso; omega)
                | (rw [show ecV Fb I = 0 from if_neg (by assumption)])
                | (rw [show ecV Fb I = 1 from by unfold ecV; rw [if_pos h6, if_pos (by assumption)]])
                | (rw [show ecV Fb I = 2 from by unfold ecV; rw [if_pos h6, if_neg (by assumption), if_pos (by assumption)]])
                | (rw [show ecV Fb I = 0 from by unfold ecV; rw [if_pos h6, if_neg (by assumption), if_neg (by assumption)]])
            · first
                | (rw [show ecI Fb I = I from if_neg (by assumption)]; exact WF_pick [0, 1] rfl rfl h)
                | (rw [show ecI Fb I = goI Fb (if (isWd Fb (goI Fb I) w_each = true ∨ isWd Fb (goI Fb I) w_whole = true ∨ isWd Fb (goI Fb I) w_none = true) then goI Fb I else errI (goI Fb I) 1) from if_pos h6]; exact WF_pick [0, 1] rfl rfl h)
                | (exfalso; omega)
    · refine x_iconst C eX8_takeEcho_24 ?_
      refine x_goto (pc' := 42) C eX8_takeEcho_25 rfl ?_
      refine x_istore_n [_, _] C eX8_takeEcho_42 rfl rfl (nlt rfl) ?_
      refine x_aload_n C eX8_takeEcho_43 rfl ?_
      refine x_iload_n C eX8_takeEcho_44 rfl ?_
      refine x_if_ne 61 C eX8_takeEcho_45 rfl (by omega) (fun h45 => ?_) (fun h45 => ?_)
      · refine x_iconst C eX8_takeEcho_61 ?_
        refine x_iconst C eX8_takeEcho_62 ?_
        refine yV2v [_] [_, _] C (s_X8_errsIf hK (¬ (isWd Fb (goI Fb I) w_each = true ∨ isWd Fb (goI Fb I) w_whole = true ∨ isWd Fb (goI Fb I) w_none = true)) (by first | (exfalso; omega) | (rw [bz_t]; simp [*]; done) | (rw [bz_f]; simp [*]; done)) hP1.1.2.2.2.1) v_X8_errsIf vv_X8_errsIf s_RX8_241 eX8_takeEcho_63 (fun _ _ h => WF_pick [0, 1] rfl rfl h) (rcv 0 rfl) rfl (nle rfl) (nle rfl) (nle rfl) (nle rfl) rfl ?_
        rw [ite_not]
        refine x_aload_n C eX8_takeEcho_66 rfl ?_
        refine yV0v [] [_, _] C (s_X8_goOn hK hFb (Pin_if hP1 (Pin_err (by decide) hP1))) v_X8_goOn vv_X8_goOn s_RX8_200 eX8_takeEcho_67 (fun _ _ h => WF_pick [0, 1] rfl rfl h) (rcv 0 rfl) rfl (nle rfl) (nle rfl) (nle rfl) (nle rfl) rfl ?_
        refine x_iload_n C eX8_takeEcho_70 rfl ?_
        refine x_iret (by first | rfl | exact (narZ (by omega)).1) C F eX8_takeEcho_71 () ?_ trivial (fun cf c h => ?_) (nle rfl) (nle rfl)
        · first
            | (exfalso; omega)
            | (rw [show ecV Fb I = 0 from if_neg (by assumption)])
            | (rw [show ecV Fb I = 1 from by unfold ecV; rw [if_pos h6, if_pos (by assumption)]])
            | (rw [show ecV Fb I = 2 from by unfold ecV; rw [if_pos h6, if_neg (by assumption), if_pos (by assumption)]])
            | (rw [show ecV Fb I = 0 from by unfold ecV; rw [if_pos h6, if_neg (by assumption), if_neg (by assumption)]])
        · first
            | (rw [show ecI Fb I = I from if_neg (by assumption)]; exact WF_pick [0, 1] rfl rfl h)
            | (rw [show ecI Fb I = goI Fb (if (isWd Fb (goI Fb I) w_each = true ∨ isWd Fb (goI Fb I) w_whole = true ∨ isWd Fb (goI Fb I) w_none = true) then goI Fb I else errI (goI Fb I) 1) from if_pos h6]; exact WF_pick [0, 1] rfl rfl h)
            | (exfalso; omega)
      · refine x_aload_n C eX8_takeEcho_48 rfl ?_
        obtain ⟨q49, b49, hr49, hq49⟩ := lit_RX8_217 hS
        refine x_ldcS C hr49 eX8_takeEcho_49 ?_
        refine yV1r [] [_, _] C (s_X8_isWord hK hFb hP1 hS hq49) v_X8_isWord vv_X8_isWord s_RX8_203 eX8_takeEcho_51 (fun _ _ h => WF_pick [0, 1] rfl rfl h) (rcv 0 rfl) rfl (nle rfl) (nle rfl) (nle rfl) (nle rfl) rfl ?_
        refine x_ifb_ne 61 C eX8_takeEcho_54 rfl (fun h54 => ?_) (fun h54 => ?_)
        · refine x_iconst C eX8_takeEcho_61 ?_
          refine x_iconst C eX8_takeEcho_62 ?_
          refine yV2v [_] [_, _] C (s_X8_errsIf hK (¬ (isWd Fb (goI Fb I) w_each = true ∨ isWd Fb (goI Fb I) w_whole = true ∨ isWd Fb (goI Fb I) w_none = true)) (by first | (exfalso; omega) | (rw [bz_t]; simp [*]; done) | (rw [bz_f]; simp [*]; done)) hP1.1.2.2.2.1) v_X8_errsIf vv_X8_errsIf s_RX8_241 eX8_takeEcho_63 (fun _ _ h => WF_pick [0, 1] rfl rfl h) (rcv 0 rfl) rfl (nle rfl) (nle rfl) (nle rfl) (nle rfl) rfl ?_
          rw [ite_not]
          refine x_aload_n C eX8_takeEcho_66 rfl ?_
          refine yV0v [] [_, _] C (s_X8_goOn hK hFb (Pin_if hP1 (Pin_err (by decide) hP1))) v_X8_goOn vv_X8_goOn s_RX8_200 eX8_takeEcho_67 (fun _ _ h => WF_pick [0, 1] rfl rfl h) (rcv 0 rfl) rfl (nle rfl) (nle rfl) (nle rfl) (nle rfl) rfl ?_
          refine x_iload_n C eX8_takeEcho_70 rfl ?_
          refine x_iret (by first | rfl | exact (narZ (by omega)).1) C F eX8_takeEcho_71 () ?_ trivial (fun cf c h => ?_) (nle rfl) (nle rfl)
          · first
              | (exfalso; omega)
              | (rw [show ecV Fb I = 0 from if_neg (by assumption)])
              | (rw [show ecV Fb I = 1 from by unfold ecV; rw [if_pos h6, if_pos (by assumption)]])
              | (rw [show ecV Fb I = 2 from by unfold ecV; rw [if_pos h6, if_neg (by assumption), if_pos (by assumption)]])
              | (rw [show ecV Fb I = 0 from by unfold ecV; rw [if_pos h6, if_neg (by assumption), if_neg (by assumption)]])
          · first
              | (rw [show ecI Fb I = I from if_neg (by assumption)]; exact WF_pick [0, 1] rfl rfl h)
              | (rw [show ecI Fb I = goI Fb (if (isWd Fb (goI Fb I) w_each = true ∨ isWd Fb (goI Fb I) w_whole = true ∨ isWd Fb (goI Fb I) w_none = true) then goI Fb I else errI (goI Fb I) 1) from if_pos h6]; exact WF_pick [0, 1] rfl rfl h)
              | (exfalso; omega)
        · refine x_iconst C eX8_takeEcho_57 ?_
          refine x_goto (pc' := 62) C eX8_takeEcho_58 rfl ?_
          refine x_iconst C eX8_takeEcho_62 ?_
          refine yV2v [_] [_, _] C (s_X8_errsIf hK (¬ (isWd Fb (goI Fb I) w_each = true ∨ isWd Fb (goI Fb I) w_whole = true ∨ isWd Fb (goI Fb I) w_none = true)) (by first | (exfalso; omega) | (rw [bz_t]; simp [*]; done) | (rw [bz_f]; simp [*]; done)) hP1.1.2.2.2.1) v_X8_errsIf vv_X8_errsIf s_RX8_241 eX8_takeEcho_63 (fun _ _ h => WF_pick [0, 1] rfl rfl h) (rcv 0 rfl) rfl (nle rfl) (nle rfl) (nle rfl) (nle rfl) rfl ?_
          rw [ite_not]
          refine x_aload_n C eX8_takeEcho_66 rfl ?_
          refine yV0v [] [_, _] C (s_X8_goOn hK hFb (Pin_if hP1 (Pin_err (by decide) hP1))) v_X8_goOn vv_X8_goOn s_RX8_200 eX8_takeEcho_67 (fun _ _ h => WF_pick [0, 1] rfl rfl h) (rcv 0 rfl) rfl (nle rfl) (nle rfl) (nle rfl) (nle rfl) rfl ?_
          refine x_iload_n C eX8_takeEcho_70 rfl ?_
          refine x_iret (by first | rfl | exact (narZ (by omega)).1) C F eX8_takeEcho_71 () ?_ trivial (fun cf c h => ?_) (nle rfl) (nle rfl)
          · first
              | (exfalso; omega)
              | (rw [show ecV Fb I = 0 from if_neg (by assumption)])
              | (rw [show ecV Fb I = 1 from by unfold ecV; rw [if_pos h6, if_pos (by assumption)]])
              | (rw [show ecV Fb I = 2 from by unfold ecV; rw [if_pos h6, if_neg (by assumption), if_pos (by assumption)]])
              | (rw [show ecV Fb I = 0 from by unfold ecV; rw [if_pos h6, if_neg (by assumption), if_neg (by assumption)]])
          · first
              | (rw [show ecI Fb I = I from if_neg (by assumption)]; exact WF_pick [0, 1] rfl rfl h)
              | (rw [show ecI Fb I = goI Fb (if (isWd Fb (goI Fb I) w_each = true ∨ isWd Fb (goI Fb I) w_whole = true ∨ isWd Fb (goI Fb I) w_none = true) then goI Fb I else errI (goI Fb I) 1) from if_pos h6]; exact WF_pick [0, 1] rfl rfl h)
              | (exfalso; omega)
  · refine x_iconst C eX8_takeEcho_9 ?_
    refine x_iret (by first | rfl | exact (narZ (by omega)).1) C F eX8_takeEcho_10 () ?_ trivial (fun cf c h => ?_) (nle rfl) (nle rfl)
    · first
        | (exfalso; omega)
        | (rw [show ecV Fb I = 0 from if_neg (by assumption)])
        | (rw [show ecV Fb I = 1 from by unfold ecV; rw [if_pos h6, if_pos (by assumption)]])
        | (rw [show ecV Fb I = 2 from by unfold ecV; rw [if_pos h6, if_neg (by assumption), if_pos (by assumption)]])
        | (rw [show ecV Fb I = 0 from by unfold ecV; rw [if_pos h6, if_neg (by assumption), if_neg (by assumption)]])
    · first
        | (rw [show ecI Fb I = I from if_neg (by assumption)]; exact WF_pick [0, 1] rfl rfl h)
        | (rw [show ecI Fb I = goI Fb (if (isWd Fb (goI Fb I) w_each = true ∨ isWd Fb (goI Fb I) w_whole = true ∨ isWd Fb (goI Fb I) w_none = true) then goI Fb I else errI (goI Fb I) 1) from if_pos h6]; exact WF_pick [0, 1] rfl rfl h)
        | (exfalso; omega)

set_option maxHeartbeats 4000000 in
set_option maxRecDepth 100000 in
theorem s_X8_parseLine {G : Gm} {l : Launch} (hK : KG G) {o r : Nat} {A : Nat → Nat} {I Fb : Nat → Int} {N : Nat → Net} {n : Net} (hr : rok r) (hFb : ∀ j, -128 ≤ Fb j ∧ Fb j ≤ 127) (hP : Pin Fb I) (hS : KS G) (hn : 0 ≤ n (-1) 0 ∧ n (-1) 0 ≤ 6) (hm : ∀ k : Int, 0 ≤ k → k < n (-1) 0 → 0 ≤ n k 0 ∧ n k 0 < 387420489) : MD G l yX8_parseLine cX8_parseLine 8 none 9 0 0 [.ref o] [ob o 10 (shM A r) I, ar G 1 (A 5) 400 400 (Fb), fam G A (uN N r n)] none [ob o 10 (shM A r) (p8I Fb n I), ar G 1 (A 5) 400 400 (Fb), fam G A (uN N r (plN Fb n I))] := by
  refine MX_of (lv := [some (.ref o), none, none, none, none, none, none, none]) hK (by decide +kernel) rfl (nle rfl) (fun X C F => ?_)
  have C : OKc G X l RX8 "parseLine" cX8_parseLine 8 none 9 0 0 := C
  have h0 := hP
  unfold Pin Pin0 at h0
  have hP1 := p1_P (n := n) hFb hP
  have hP2 := p2_P (n := n) hFb hP
  have hP3 := p3_P (n := n) hFb hP
  have hP4 := p4_P (n := n) hFb hP
  have hP5 := p5_P (n := n) hFb hP
  have hP6 := p6_P (n := n) hFb hP
  have hP7 := p7_P (n := n) hFb hP
  have hP8 := p8_P (n := n) hFb hP
  have hv1 := nmV_r hP1
  have hl1 := lnN_r (n := n) (v := p1N Fb n I) hn
  have rc := nhV_r (I := twI Fb (p2I Fb n I) w_cap) (a := 4) (b := 60) (by decide)
  rw [show nhV (twI Fb (p2I Fb n I) w_cap) 4 60 = p3c Fb n I from rfl] at rc
  have rl := nhV_r (I := twI Fb (p3I Fb n I) w_marks) (a := 0) (b := p3c Fb n I - 1) (by omega)
  rw [show nhV (twI Fb (p3I Fb n I) w_marks) 0 (p3c Fb n I - 1) = p4l Fb n I from rfl] at rl
  have j47 : WX G X 0 0 [ob o 10 (shM A r) (if ¬ lnN n (p1N Fb n I) = -1 then errI (nmI Fb (p1I Fb n I)) 3 else nmI Fb (p1I Fb n I)), ar G 1 (A 5) 400 400 (Fb), fam G A (uN N r n)] 47 [some (.ref o), some (.int (zI (p1N Fb n I))), none, none, none, none, none, none] [] := by
    refine x_aload_n C eX8_parseLine_47 rfl ?_
    refine yV0v [_] [_, _, _] C (s_X8_goOn hK hFb (ifE_P (by decide) (Pin_nm hP1))) v_X8_goOn vv_X8_goOn s_RX8_200 eX8_parseLine_48 (fun _ _ h => WF_pick [0, 1, 2] rfl rfl h) (rcv 0 rfl) rfl (nle rfl) (nle rfl) (nle rfl) (nle rfl) rfl ?_
    rw [show goI Fb (if ¬ lnN n (p1N Fb n I) = -1 then errI (nmI Fb (p1I Fb n I)) 3 else nmI Fb (p1I Fb n I)) = p2I Fb n I from rfl]
    refine x_aload_n C eX8_parseLine_51 rfl ?_
    obtain ⟨q52, b52, hr52, hq52⟩ := lit_RX8_209 hS
    refine x_ldcS C hr52 eX8_parseLine_52 ?_
    refine x_iconst C eX8_parseLine_54 ?_
    refine x_bipush C eX8_parseLine_55 rfl ?_
    refine yV3r [_] [_, _, _] C (s_X8_numberAfter hK hFb hP2 hS hq52 (by omega) (by omega)) v_X8_numberAfter vv_X8_numberAfter s_RX8_255 eX8_parseLine_57 (fun _ _ h => WF_pick [0, 1, 2] rfl rfl h) (rcv 0 rfl) rfl (nle rfl) (nle rfl) (nle rfl) (nle rfl) rfl ?_
    rw [show nhV (twI Fb (p2I Fb n I) w_cap) 4 60 = p3c Fb n I from rfl]
    rw [show nbI Fb (twI Fb (p2I Fb n I) w_cap) 4 60 = p3I Fb n I from rfl]
    refine x_istore_n [_, _, _, _, _, _, _, _] C eX8_parseLine_60 rfl rfl (nlt rfl) ?_
    refine x_aload_n C eX8_parseLine_61 rfl ?_
    obtain ⟨q62, b62, hr62, hq62⟩ := lit_RX8_211 hS
    refine x_ldcS C hr62 eX8_parseLine_62 ?_
    refine x_iconst C eX8_parseLine_64 ?_
    refine x_iload_n C eX8_parseLine_65 rfl ?_
    refine x_iconst C eX8_parseLine_66 ?_
    refine x_isub C eX8_parseLine_67 ?_
    refine yV3r [_] [_, _, _] C (s_X8_numberAfter hK hFb hP3 hS hq62 (by omega) (by omega)) v_X8_numberAfter vv_X8_numberAfter s_RX8_255 eX8_parseLine_68 (fun _ _ h => WF_pick [0, 1, 2] rfl rfl h) (rcv 0 rfl) rfl (nle rfl) (nle rfl) (nle rfl) (nle rfl) rfl ?_
    rw [show nhV (twI Fb (p3I Fb n I) w_marks) 0 (p3c Fb n I - 1) = p4l Fb n I from rfl]
    rw [show nbI Fb (twI Fb (p3I Fb n I) w_marks) 0 (p3c Fb n I - 1) = p4I Fb n I from rfl]
    refine x_istore_n [_, _, _, _, _, _, _, _] C eX8_parseLine_71 rfl rfl (nlt rfl) ?_
    refine x_aload_n C eX8_parseLine_72 rfl ?_
    refine x_iload_n C eX8_parseLine_73 rfl ?_
    refine x_iconst C eX8_parseLine_74 ?_
    refine x_iadd C eX8_parseLine_75 ?_
    refine x_iload_n C eX8_parseLine_76 rfl ?_
    refine yV2r [_] [_, _, _] C (s_X8_number hK hFb hP4 (by omega) (by omega)) v_X8_number vv_X8_number s_RX8_235 eX8_parseLine_77 (fun _ _ h => WF_pick [0, 1, 2] rfl rfl h) (rcv 0 rfl) rfl (nle rfl) (nle rfl) (nle rfl) (nle rfl) rfl ?_
    rw [show nhV (p4I Fb n I) (p4l Fb n I + 1) (p3c Fb n I) = p5h Fb n I from rfl]
    rw [show nbI Fb (p4I Fb n I) (p4l Fb n I + 1) (p3c Fb n I) = p5I Fb n I from rfl]
    refine x_istore [_, _, _, _, _, _, _, _] C eX8_parseLine_80 rfl rfl (nlt rfl) ?_
    refine x_aload_n C eX8_parseLine_82 rfl ?_
    obtain ⟨q83, b83, hr83, hq83⟩ := lit_RX8_213 hS
    refine x_ldcS C hr83 eX8_parseLine_83 ?_
    refine x_iconst C eX8_parseLine_85 ?_
    refine x_bipush C eX8_parseLine_86 rfl ?_
    refine yV3r [_] [_, _, _] C (s_X8_numberAfter hK hFb hP5 hS hq83 (by omega) (by omega)) v_X8_numberAfter vv_X8_numberAfter s_RX8_255 eX8_parseLine_88 (fun _ _ h => WF_pick [0, 1, 2] rfl rfl h) (rcv 0 rfl) rfl (nle rfl) (nle rfl) (nle rfl) (nle rfl) rfl ?_
    rw [show nhV (twI Fb (p5I Fb n I) w_share) 1 9 = p6s Fb n I from rfl]
    rw [show nbI Fb (twI Fb (p5I Fb n I) w_share) 1 9 = p6I Fb n I from rfl]
    refine x_istore [_, _, _, _, _, _, _, _] C eX8_parseLine_91 rfl rfl (nlt rfl) ?_
    refine x_aload_n C eX8_parseLine_93 rfl ?_
    refine yV0r [_] [_, _, _] C (s_X8_takeEcho hK hFb hP6 hS) v_X8_takeEcho vv_X8_takeEcho s_RX8_259 eX8_parseLine_94 (fun _ _ h => WF_pick [0, 1, 2] rfl rfl h) (rcv 0 rfl) rfl (nle rfl) (nle rfl) (nle rfl) (nle rfl) rfl ?_
    rw [show ecV Fb (p6I Fb n I) = p7e Fb n I from rfl]
    rw [show ecI Fb (p6I Fb n I) = p7I Fb n I from rfl]
    refine x_istore [_, _, _, _, _, _, _, _] C eX8_parseLine_97 rfl rfl (nlt rfl) ?_
    refine x_aload_n C eX8_parseLine_99 rfl ?_
    refine yV0v [_] [_, _, _] C (s_X8_semicolon hK hFb hP7) v_X8_semicolon vv_X8_semicolon s_RX8_262 eX8_parseLine_100 (fun _ _ h => WF_pick [0, 1, 2] rfl rfl h) (rcv 0 rfl) rfl (nle rfl) (nle rfl) (nle rfl) (nle rfl) rfl ?_
    rw [show scI Fb (p7I Fb n I) = p8I Fb n I from rfl]
    refine x_aload_n C eX8_parseLine_103 rfl ?_
    refine yV0r [_, _] [_, _, _] C (s_X8_good hK hP8.1.2.2.2.1) v_X8_good vv_X8_good s_RX8_152 eX8_parseLine_104 (fun _ _ h => WF_pick [0, 1, 2] rfl rfl h) (rcv 0 rfl) rfl (nle rfl) (nle rfl) (nle rfl) (nle rfl) rfl ?_
    skip
    refine x_ifb_eq 125 C eX8_parseLine_107 rfl (fun h107 => ?_) (fun h107 => ?_)
    · refine x_vret C F eX8_parseLine_125 () rfl trivial (fun cf c h => ?_) (nle rfl) (nle rfl)
      first
        | (rw [show plN Fb n I = n from if_neg (by assumption)]; exact WF_pick [0, 1, 2] rfl rfl h)
        | (rw [show plN Fb n I = nAdd n (p1N Fb n I) (p3c Fb n I) (p4l Fb n I) (p5h Fb n I) (p6s Fb n I) (p7e Fb n I) from if_pos (by assumption)]; exact WF_pick [0, 1, 2] rfl rfl h)
    · have h6n : n (-1) 0 < 6 := by
        rcases Int.lt_or_le (n (-1) 0) 6 with q | q
        · exact q
        · exfalso
          have h1 : ¬ p1I Fb n I 12 = 0 := by
            unfold p1I
            rw [if_pos (by omega)]
            by_cases h12 : I 12 = 0
            · rw [go_e (by rw [errI_g h12]; decide), errI_g h12]; decide
            · rw [go_e (errI_b h12)]; exact errI_b h12
          rw [p18_e h1] at h107
          exact h1 h107
      refine x_aload_n C eX8_parseLine_110 rfl ?_
      refine x_iload_n C eX8_parseLine_111 rfl ?_
      refine x_iload_n C eX8_parseLine_112 rfl ?_
      refine x_iload_n C eX8_parseLine_113 rfl ?_
      refine x_iload C eX8_parseLine_114 rfl ?_
      refine x_iload C eX8_parseLine_116 rfl ?_
      refine x_iload C eX8_parseLine_118 rfl ?_
      refine yV6r [_] [_, _, _] C (s_X8_addOne hK hr ⟨hn.1, h6n⟩) v_X8_addOne vv_X8_addOne s_RX8_56 eX8_parseLine_120 (fun _ _ h => WF_pick [0, 2, 1] rfl rfl h) (rcv 0 rfl) rfl (nle rfl) (nle rfl) (nle rfl) (nle rfl) rfl ?_
      skip
      refine x_istore [_, _, _, _, _, _, _, _] C eX8_parseLine_123 rfl rfl (nlt rfl) ?_
      refine x_vret C F eX8_parseLine_125 () rfl trivial (fun cf c h => ?_) (nle rfl) (nle rfl)
      first
        | (rw [show plN Fb n I = n from if_neg (by assumption)]; exact WF_pick [0, 2, 1] rfl rfl h)
        | (rw [show plN Fb n I = nAdd n (p1N Fb n I) (p3c Fb n I) (p4l Fb n I) (p5h Fb n I) (p6s Fb n I) (p7e Fb n I) from if_pos (by assumption)]; exact WF_pick [0, 2, 1] rfl rfl h)
  have j19 : WX G X 0 0 [ob o 10 (shM A r) (if n (-1) 0 = 6 then errI I 5 else I), ar G 1 (A 5) 400 400 (Fb), fam G A (uN N r n)] 19 [some (.ref o), none, none, none, none, none, none, none] [] := by
    refine x_aload_n C eX8_parseLine_19 rfl ?_
    refine yV0v [_] [_, _, _] C (s_X8_goOn hK hFb (ifE_P (by decide) hP)) v_X8_goOn vv_X8_goOn s_RX8_200 eX8_parseLine_20 (fun _ _ h => WF_pick [0, 1, 2] rfl rfl h) (rcv 0 rfl) rfl (nle rfl) (nle rfl) (nle rfl) (nle rfl) rfl ?_
    rw [show goI Fb (if n (-1) 0 = 6 then errI I 5 else I) = p1I Fb n I from rfl]
    refine x_aload_n C eX8_parseLine_23 rfl ?_
    refine yV0r [_] [_, _, _] C (s_X8_nameHere hK hFb hP1 hS) v_X8_nameHere vv_X8_nameHere s_RX8_249 eX8_parseLine_24 (fun _ _ h => WF_pick [0, 1, 2] rfl rfl h) (rcv 0 rfl) rfl (nle rfl) (nle rfl) (nle rfl) (nle rfl) rfl ?_
    rw [show nmV Fb (p1I Fb n I) = p1N Fb n I from rfl]
    refine x_istore_n [_, _, _, _, _, _, _, _] C eX8_parseLine_27 rfl rfl (nlt rfl) ?_
    refine x_aload_n C eX8_parseLine_28 rfl ?_
    refine x_aload_n C eX8_parseLine_29 rfl ?_
    refine x_iload_n C eX8_parseLine_30 rfl ?_
    refine yV1r [_] [_, _, _] C (s_X8_lineNamed hK hr (by omega) (by have := hv1; unfold p1N; omega) (by omega)) v_X8_lineNamed vv_X8_lineNamed s_RX8_252 eX8_parseLine_31 (fun _ _ h => WF_pick [0, 2, 1] rfl rfl h) (rcv 0 rfl) rfl (nle rfl) (nle rfl) (nle rfl) (nle rfl) rfl ?_
    skip
    refine x_iconst C eX8_parseLine_34 ?_
    refine x_icmp_eq 42 C eX8_parseLine_35 rfl (by omega) (by omega) (fun h35 => ?_) (fun h35 => ?_)
    · refine x_iconst C eX8_parseLine_42 ?_
      refine x_iconst C eX8_parseLine_43 ?_
      refine yV2v [_, _] [_, _, _] C (s_X8_errsIf hK (¬ lnN n (p1N Fb n I) = -1) (by first | rfl | rw [bz_t (by omega)] | rw [bz_f (by omega)]) (Pin_nm hP1).1.2.2.2.1) v_X8_errsIf vv_X8_errsIf s_RX8_241 eX8_parseLine_44 (fun _ _ h => WF_pick [0, 1, 2] rfl rfl h) (rcv 0 rfl) rfl (nle rfl) (nle rfl) (nle rfl) (nle rfl) rfl ?_
      skip
      exact x_pick [_, _, _] [0, 2, 1] rfl rfl j47
    · refine x_iconst C eX8_parseLine_38 ?_
      refine x_goto (pc' := 43) C eX8_parseLine_39 rfl ?_
      refine x_iconst C eX8_parseLine_43 ?_
      refine yV2v [_, _] [_, _, _] C (s_X8_errsIf hK (¬ lnN n (p1N Fb n I) = -1) (by first | rfl | rw [bz_t (by omega)] | rw [bz_f (by omega)]) (Pin_nm hP1).1.2.2.2.1) v_X8_errsIf vv_X8_errsIf s_RX8_241 eX8_parseLine_44 (fun _ _ h => WF_pick [0, 1, 2] rfl rfl h) (rcv 0 rfl) rfl (nle rfl) (nle rfl) (nle rfl) (nle rfl) rfl ?_
      skip
      exact x_pick [_, _, _] [0, 2, 1] rfl rfl j47
  refine x_aload_n C eX8_parseLine_0 rfl ?_
  refine x_aload_n C eX8_parseLine_1 rfl ?_
  refine yV0r [_] [_, _, _] C (s_X8_lines hK hr) v_X8_lines vv_X8_lines s_RX8_68 eX8_parseLine_2 (fun _ _ h => WF_pick [0, 2, 1] rfl rfl h) (rcv 0 rfl) rfl (nle rfl) (nle rfl) (nle rfl) (nle rfl) rfl ?_
  skip
  refine x_bipush C eX8_parseLine_5 rfl ?_
  refine x_icmp_ne 14 C eX8_parseLine_7 rfl (by omega) (by omega) (fun h7 => ?_) (fun h7 => ?_)
  · refine x_iconst C eX8_parseLine_14 ?_
    refine x_iconst C eX8_parseLine_15 ?_
    refine yV2v [_, _] [_, _, _] C (s_X8_errsIf hK (n (-1) 0 = 6) (by first | rfl | rw [bz_t (by omega)] | rw [bz_f (by omega)]) h0.1.2.2.2.1) v_X8_errsIf vv_X8_errsIf s_RX8_241 eX8_parseLine_16 (fun _ _ h => WF_pick [0, 1, 2] rfl rfl h) (rcv 0 rfl) rfl (nle rfl) (nle rfl) (nle rfl) (nle rfl) rfl ?_
    skip
    exact x_pick [_, _, _] [0, 2, 1] rfl rfl j19
  · refine x_iconst C eX8_parseLine_10 ?_
    refine x_goto (pc' := 15) C eX8_parseLine_11 rfl ?_
    refine x_iconst C eX8_parseLine_15 ?_
    refine yV2v [_, _] [_, _, _] C (s_X8_errsIf hK (n (-1) 0 = 6) (by first | rfl | rw [bz_t (by omega)] | rw [bz_f (by omega)]) h0.1.2.2.2.1) v_X8_errsIf vv_X8_errsIf s_RX8_241 eX8_parseLine_16 (fun _ _ h => WF_pick [0, 1, 2] rfl rfl h) (rcv 0 rfl) rfl (nle rfl) (nle rfl) (nle rfl) (nle rfl) rfl ?_
    skip
    exact x_pick [_, _, _] [0, 2, 1] rfl rfl j19

set_option maxHeartbeats 4000000 in
set_option maxRecDepth 100000 in
theorem s_X8_parseLend {G : Gm} {l : Launch} (hK : KG G) {o r : Nat} {A : Nat → Nat} {I Fb : Nat → Int} {N : Nat → Net} {n : Net} (hr : rok r) (hFb : ∀ j, -128 ≤ Fb j ∧ Fb j ≤ 127) (hP : Pin Fb I) (hS : KS G) (hn : 0 ≤ n (-1) 0 ∧ n (-1) 0 ≤ 6) (hm : ∀ k : Int, 0 ≤ k → k < n (-1) 0 → 0 ≤ n k 0 ∧ n k 0 < 387420489) (h12n : ∀ k : Int, 0 ≤ k → k < 6 → 0 ≤ n k 12 ∧ n k 12 ≤ 99) : MD G l yX8_parseLend cX8_parseLend 4 none 9 0 0 [.ref o] [ob o 10 (shM A r) I, ar G 1 (A 5) 400 400 (Fb), fam G A (uN N r n)] none [ob o 10 (shM A r) (q8I Fb n I), ar G 1 (A 5) 400 400 (Fb), fam G A (uN N r (qlN Fb n I))] := by
  refine MX_of (lv := [some (.ref o), none, none, none]) hK (by decide +kernel) rfl (nle rfl) (fun X C F => ?_)
  have C : OKc G X l RX8 "parseLend" cX8_parseLend 4 none 9 0 0 := C
  have h0 := hP
  unfold Pin Pin0 at h0
  have hQ2 := q2_P (n := n) hFb hP
  have hQ3 := q3_P (n := n) hFb hP
  have hQ4 := q4_P (n := n) hFb hP
  have hQ5 := q5_P (n := n) hFb hP
  have hQ6 := q6_P (n := n) hFb hP
  have hQ7 := q7_P (n := n) hFb hP
  have hQ8 := q8_P (n := n) hFb hP
  have hQ1 := Pin_go hFb hP
  have ln1 := lnN_r (n := n) (v := nmV Fb (goI Fb I)) hn
  have l1 : 0 ≤ q1l Fb n I ∧ q1l Fb n I ≤ 5 := by unfold q1l lhV q1I; omega
  have n1 := h12n _ l1.1 (by omega)
  have ln2 := lnN_r (n := n) (v := nmV Fb (q4I Fb n I)) hn
  have l2 : 0 ≤ q4o Fb n I ∧ q4o Fb n I ≤ 5 := by unfold q4o lhV; omega
  have j64 : WX G X 0 0 [ob o 10 (shM A r) (if q1l Fb n I = q4o Fb n I then errI (q5I Fb n I) 3 else q5I Fb n I), ar G 1 (A 5) 400 400 (Fb), fam G A (uN N r n)] 64 [some (.ref o), some (.int (zI (q1l Fb n I))), some (.int (zI (q4o Fb n I))), none] [] := by
    refine x_aload_n C eX8_parseLend_64 rfl ?_
    refine yV0v [_] [_, _, _] C (s_X8_goOn hK hFb (ifE_P (by decide) hQ5)) v_X8_goOn vv_X8_goOn s_RX8_200 eX8_parseLend_65 (fun _ _ h => WF_pick [0, 1, 2] rfl rfl h) (rcv 0 rfl) rfl (nle rfl) (nle rfl) (nle rfl) (nle rfl) rfl ?_
    rw [show goI Fb (if q1l Fb n I = q4o Fb n I then errI (q5I Fb n I) 3 else q5I Fb n I) = q6I Fb n I from rfl]
    refine x_aload_n C eX8_parseLend_68 rfl ?_
    obtain ⟨q69, b69, hr69, hq69⟩ := lit_RX8_227 hS
    refine x_ldcS C hr69 eX8_parseLend_69 ?_
    refine x_iconst C eX8_parseLend_71 ?_
    refine x_bipush C eX8_parseLend_72 rfl ?_
    refine yV3r [_] [_, _, _] C (s_X8_numberAfter hK hFb hQ6 hS hq69 (by omega) (by omega)) v_X8_numberAfter vv_X8_numberAfter s_RX8_255 eX8_parseLend_74 (fun _ _ h => WF_pick [0, 1, 2] rfl rfl h) (rcv 0 rfl) rfl (nle rfl) (nle rfl) (nle rfl) (nle rfl) rfl ?_
    rw [show nhV (twI Fb (q6I Fb n I) w_for) 1 99 = q7t Fb n I from rfl]
    rw [show nbI Fb (twI Fb (q6I Fb n I) w_for) 1 99 = q7I Fb n I from rfl]
    refine x_istore_n [_, _, _, _] C eX8_parseLend_77 rfl rfl (nlt rfl) ?_
    refine x_aload_n C eX8_parseLend_78 rfl ?_
    refine yV0v [_] [_, _, _] C (s_X8_semicolon hK hFb hQ7) v_X8_semicolon vv_X8_semicolon s_RX8_262 eX8_parseLend_79 (fun _ _ h => WF_pick [0, 1, 2] rfl rfl h) (rcv 0 rfl) rfl (nle rfl) (nle rfl) (nle rfl) (nle rfl) rfl ?_
    rw [show scI Fb (q7I Fb n I) = q8I Fb n I from rfl]
    refine x_aload_n C eX8_parseLend_82 rfl ?_
    refine yV0r [_, _] [_, _, _] C (s_X8_good hK hQ8.1.2.2.2.1) v_X8_good vv_X8_good s_RX8_152 eX8_parseLend_83 (fun _ _ h => WF_pick [0, 1, 2] rfl rfl h) (rcv 0 rfl) rfl (nle rfl) (nle rfl) (nle rfl) (nle rfl) rfl ?_
    skip
    refine x_ifb_eq 96 C eX8_parseLend_86 rfl (fun h86 => ?_) (fun h86 => ?_)
    · refine x_vret C F eX8_parseLend_96 () rfl trivial (fun cf c h => ?_) (nle rfl) (nle rfl)
      first
        | (rw [show qlN Fb n I = n from if_neg (by assumption)]; exact WF_pick [0, 1, 2] rfl rfl h)
        | (rw [show qlN Fb n I = un n (q1l Fb n I) (bLend (n (q1l Fb n I)) (q4o Fb n I) (q7t Fb n I)) from if_pos (by assumption)]; exact WF_pick [0, 1, 2] rfl rfl h)
    · refine x_aload_n C eX8_parseLend_89 rfl ?_
      refine x_iload_n C eX8_parseLend_90 rfl ?_
      refine x_iload_n C eX8_parseLend_91 rfl ?_
      refine x_iload_n C eX8_parseLend_92 rfl ?_
      refine yV3v [_] [_, _, _] C (s_X8_lendNow hK hr ⟨l1.1, by omega⟩) v_X8_lendNow vv_X8_lendNow s_RX8_268 eX8_parseLend_93 (fun _ _ h => WF_pick [0, 2, 1] rfl rfl h) (rcv 0 rfl) rfl (nle rfl) (nle rfl) (nle rfl) (nle rfl) rfl ?_
      skip
      refine x_vret C F eX8_parseLend_96 () rfl trivial (fun cf c h => ?_) (nle rfl) (nle rfl)
      first
        | (rw [show qlN Fb n I = n from if_neg (by assumption)]; exact WF_pick [0, 2, 1] rfl rfl h)
        | (rw [show qlN Fb n I = un n (q1l Fb n I) (bLend (n (q1l Fb n I)) (q4o Fb n I) (q7t Fb n I)) from if_pos (by assumption)]; exact WF_pick [0, 2, 1] rfl rfl h)
  have j34 : WX G X 0 0 [ob o 10 (shM A r) (if q2I Fb n I 12 = 0 ∧ 0 < n (q1l Fb n I) 12 then errI (q2I Fb n I) 3 else q2I Fb n I), ar G 1 (A 5) 400 400 (Fb), fam G A (uN N r n)] 34 [some (.ref o), some (.int (zI (q1l Fb n I))), none, none] [] := by
    refine x_aload_n C eX8_parseLend_34 rfl ?_
    refine yV0v [_] [_, _, _] C (s_X8_goOn hK hFb (ifE_P (by decide) hQ2)) v_X8_goOn vv_X8_goOn s_RX8_200 eX8_parseLend_35 (fun _ _ h => WF_pick [0, 1, 2] rfl rfl h) (rcv 0 rfl) rfl (nle rfl) (nle rfl) (nle rfl) (nle rfl) rfl ?_
    rw [show goI Fb (if q2I Fb n I 12 = 0 ∧ 0 < n (q1l Fb n I) 12 then errI (q2I Fb n I) 3 else q2I Fb n I) = q3I Fb n I from rfl]
    refine x_aload_n C eX8_parseLend_38 rfl ?_
    obtain ⟨q39, b39, hr39, hq39⟩ := lit_RX8_225 hS
    refine x_ldcS C hr39 eX8_parseLend_39 ?_
    refine yV1v [_] [_, _, _] C (s_X8_takeWord hK hFb hQ3 hS hq39) v_X8_takeWord vv_X8_takeWord s_RX8_231 eX8_parseLend_41 (fun _ _ h => WF_pick [0, 1, 2] rfl rfl h) (rcv 0 rfl) rfl (nle rfl) (nle rfl) (nle rfl) (nle rfl) rfl ?_
    rw [show twI Fb (q3I Fb n I) w_to = q4I Fb n I from rfl]
    refine x_aload_n C eX8_parseLend_44 rfl ?_
    refine yV0r [] [_, _, _] C (s_X8_lineHere hK hr hFb hQ4 hS hn hm) v_X8_lineHere vv_X8_lineHere s_RX8_265 eX8_parseLend_45 (fun _ _ h => WF_pick [0, 1, 2] rfl rfl h) (rcv 0 rfl) rfl (nle rfl) (nle rfl) (nle rfl) (nle rfl) rfl ?_
    rw [show lhV Fb n (q4I Fb n I) = q4o Fb n I from rfl]
    rw [show lhI Fb n (q4I Fb n I) = q5I Fb n I from rfl]
    refine x_istore_n [_, _, _, _] C eX8_parseLend_48 rfl rfl (nlt rfl) ?_
    refine x_aload_n C eX8_parseLend_49 rfl ?_
    refine x_iload_n C eX8_parseLend_50 rfl ?_
    refine x_iload_n C eX8_parseLend_51 rfl ?_
    refine x_icmp_ne 59 C eX8_parseLend_52 rfl (by omega) (by omega) (fun h52 => ?_) (fun h52 => ?_)
    · refine x_iconst C eX8_parseLend_59 ?_
      refine x_iconst C eX8_parseLend_60 ?_
      refine yV2v [_, _] [_, _, _] C (s_X8_errsIf hK (q1l Fb n I = q4o Fb n I) (by first | rfl | rw [bz_t (by omega)] | rw [bz_f (by omega)]) hQ5.1.2.2.2.1) v_X8_errsIf vv_X8_errsIf s_RX8_241 eX8_parseLend_61 (fun _ _ h => WF_pick [0, 1, 2] rfl rfl h) (rcv 0 rfl) rfl (nle rfl) (nle rfl) (nle rfl) (nle rfl) rfl ?_
      skip
      exact x_pick [_, _, _] [0, 1, 2] rfl rfl j64
    · refine x_iconst C eX8_parseLend_55 ?_
      refine x_goto (pc' := 60) C eX8_parseLend_56 rfl ?_
      refine x_iconst C eX8_parseLend_60 ?_
      refine yV2v [_, _] [_, _, _] C (s_X8_errsIf hK (q1l Fb n I = q4o Fb n I) (by first | rfl | rw [bz_t (by omega)] | rw [bz_f (by omega)]) hQ5.1.2.2.2.1) v_X8_errsIf vv_X8_errsIf s_RX8_241 eX8_parseLend_61 (fun _ _ h => WF_pick [0, 1, 2] rfl rfl h) (rcv 0 rfl) rfl (nle rfl) (nle rfl) (nle rfl) (nle rfl) rfl ?_
      skip
      exact x_pick [_, _, _] [0, 1, 2] rfl rfl j64
  refine x_aload_n C eX8_parseLend_0 rfl ?_
  refine yV0v [_] [_, _, _] C (s_X8_goOn hK hFb hP) v_X8_goOn vv_X8_goOn s_RX8_200 eX8_parseLend_1 (fun _ _ h => WF_pick [0, 1, 2] rfl rfl h) (rcv 0 rfl) rfl (nle rfl) (nle rfl) (nle rfl) (nle rfl) rfl ?_
  skip
  refine x_aload_n C eX8_parseLend_4 rfl ?_
  refine yV0r [] [_, _, _] C (s_X8_lineHere hK hr hFb hQ1 hS hn hm) v_X8_lineHere vv_X8_lineHere s_RX8_265 eX8_parseLend_5 (fun _ _ h => WF_pick [0, 1, 2] rfl rfl h) (rcv 0 rfl) rfl (nle rfl) (nle rfl) (nle rfl) (nle rfl) rfl ?_
  rw [show lhV Fb n (goI Fb I) = q1l Fb n I from rfl]
  rw [show lhI Fb n (goI Fb I) = q2I Fb n I from rfl]
  refine x_istore_n [_, _, _, _] C eX8_parseLend_8 rfl rfl (nlt rfl) ?_
  refine x_aload_n C eX8_parseLend_9 rfl ?_
  refine x_aload_n C eX8_parseLend_10 rfl ?_
  refine yV0r [_, _] [_, _, _] C (s_X8_good hK hQ2.1.2.2.2.1) v_X8_good vv_X8_good s_RX8_152 eX8_parseLend_11 (fun _ _ h => WF_pick [0, 1, 2] rfl rfl h) (rcv 0 rfl) rfl (nle rfl) (nle rfl) (nle rfl) (nle rfl) rfl ?_
  refine x_ifb_eq 29 C eX8_parseLend_14 rfl (fun h14 => ?_) (fun h14 => ?_)
  · refine x_iconst C eX8_parseLend_29 ?_
    refine x_iconst C eX8_parseLend_30 ?_
    refine yV2v [_, _] [_, _, _] C (s_X8_errsIf hK (q2I Fb n I 12 = 0 ∧ 0 < n (q1l Fb n I) 12) (by first | rfl | rw [bz_t (by omega)] | rw [bz_f (by omega)]) hQ2.1.2.2.2.1) v_X8_errsIf vv_X8_errsIf s_RX8_241 eX8_parseLend_31 (fun _ _ h => WF_pick [0, 1, 2] rfl rfl h) (rcv 0 rfl) rfl (nle rfl) (nle rfl) (nle rfl) (nle rfl) rfl ?_
    skip
    exact x_pick [_, _, _] [0, 1, 2] rfl rfl j34
  · refine x_aload_n C eX8_parseLend_17 rfl ?_
    refine x_iload_n C eX8_parseLend_18 rfl ?_
    refine yV1r [_] [_, _, _] C (s_X8_lends hK hr ⟨l1.1, by omega⟩ (by omega)) v_X8_lends vv_X8_lends s_RX8_97 eX8_parseLend_19 (fun _ _ h => WF_pick [0, 2, 1] rfl rfl h) (rcv 0 rfl) rfl (nle rfl) (nle rfl) (nle rfl) (nle rfl) rfl ?_
    skip
    refine x_ifb_eq 29 C eX8_parseLend_22 rfl (fun h22 => ?_) (fun h22 => ?_)
    · refine x_iconst C eX8_parseLend_29 ?_
      refine x_iconst C eX8_parseLend_30 ?_
      refine yV2v [_, _] [_, _, _] C (s_X8_errsIf hK (q2I Fb n I 12 = 0 ∧ 0 < n (q1l Fb n I) 12) (by first | rfl | rw [bz_t (by omega)] | rw [bz_f (by omega)]) hQ2.1.2.2.2.1) v_X8_errsIf vv_X8_errsIf s_RX8_241 eX8_parseLend_31 (fun _ _ h => WF_pick [0, 1, 2] rfl rfl h) (rcv 0 rfl) rfl (nle rfl) (nle rfl) (nle rfl) (nle rfl) rfl ?_
      skip
      exact x_pick [_, _, _] [0, 2, 1] rfl rfl j34
    · refine x_iconst C eX8_parseLend_25 ?_
      refine x_goto (pc' := 30) C eX8_parseLend_26 rfl ?_
      refine x_iconst C eX8_parseLend_30 ?_
      refine yV2v [_, _] [_, _, _] C (s_X8_errsIf hK (q2I Fb n I 12 = 0 ∧ 0 < n (q1l Fb n I) 12) (by first | rfl | rw [bz_t (by omega)] | rw [bz_f (by omega)]) hQ2.1.2.2.2.1) v_X8_errsIf vv_X8_errsIf s_RX8_241 eX8_parseLend_31 (fun _ _ h => WF_pick [0, 1, 2] rfl rfl h) (rcv 0 rfl) rfl (nle rfl) (nle rfl) (nle rfl) (nle rfl) rfl ?_
      skip
      exact x_pick [_, _, _] [0, 2, 1] rfl rfl j34
