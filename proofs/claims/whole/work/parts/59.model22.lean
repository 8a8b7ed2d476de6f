set_option maxHeartbeats 4000000 in
set_option maxRecDepth 100000 in
theorem s_X8_parseType {G : Gm} {l : Launch} (hK : KG G) {o r : Nat} {A : Nat → Nat} {I Fb : Nat → Int} {N : Nat → Net} {n : Net} {TL TB : Nat → Int} (hr : rok r) (hFb : ∀ j, -128 ≤ Fb j ∧ Fb j ≤ 127) (hP : Pin Fb I) (hS : KS G) (hn : 0 ≤ n (-1) 0 ∧ n (-1) 0 ≤ 6) (hm : ∀ k : Int, 0 ≤ k → k < n (-1) 0 → 0 ≤ n k 0 ∧ n k 0 < 387420489) : MD G l yX8_parseType cX8_parseType 4 none 9 0 0 [.ref o] [ob o 10 (shM A r) (I), ar G 1 (A 5) 400 400 (Fb), fam G A (uN N r (n)), ar G 0 (A 14) 60 60 (TL), ar G 0 (A 15) 60 60 (TB)] none [ob o 10 (shM A r) (scI Fb (ttR Fb n I TL TB).1), ar G 1 (A 5) 400 400 (Fb), fam G A (uN N r (n)), ar G 0 (A 14) 60 60 ((ttR Fb n I TL TB).2.1), ar G 0 (A 15) 60 60 ((ttR Fb n I TL TB).2.2)] := by
  refine MX_of (lv := [some (.ref o), none, none, none]) hK (by decide +kernel) rfl (nle rfl) (fun X C F => ?_)
  have C : OKc G X l RX8 "parseType" cX8_parseType 4 none 9 0 0 := C
  have h0 := hP
  unfold Pin Pin0 at h0
  have hQ1 := Pin_go hFb hP
  have hT1 := t1_P (n := n) hFb hP
  have ln1 := lnN_r (n := n) (v := nmV Fb (goI Fb I)) hn
  have l1 : 0 ≤ t1l Fb n I ∧ t1l Fb n I ≤ 5 := by unfold t1l lhV; omega
  have hR := ttR_P (n := n) (TL := TL) (TB := TB) hFb hP
  have j111 : WX G X 0 0 [ob o 10 (shM A r) ((ttR Fb n I TL TB).1), ar G 1 (A 5) 400 400 (Fb), fam G A (uN N r (n)), ar G 0 (A 14) 60 60 ((ttR Fb n I TL TB).2.1), ar G 0 (A 15) 60 60 ((ttR Fb n I TL TB).2.2)] 111 [some (.ref o), some (.int (zI (t1l Fb n I))), none, none] [] := by
    refine x_aload_n C eX8_parseType_111 rfl ?_
    refine yV0v [_, _, _] [_, _, _, _, _] C (s_X8_semicolon hK hFb hR.1) v_X8_semicolon vv_X8_semicolon s_RX8_262 eX8_parseType_112 (fun _ _ h => WF_pick [0, 1, 2, 3, 4] rfl rfl h) (rcv 0 rfl) rfl (nle rfl) (nle rfl) (nle rfl) (nle rfl) rfl ?_
    refine x_vret C F eX8_parseType_115 () rfl trivial (fun cf c h => ?_) (nle rfl) (nle rfl)
    exact WF_pick [0, 1, 2, 3, 4] rfl rfl h
  have loop : ∀ (g k : Nat) (s : tySt), k < g → Pin Fb s.1 → 61 - s.1 16 ≤ k → tyL Fb (t1l Fb n I) k s = ttR Fb n I TL TB → WX G X 0 0 [ob o 10 (shM A r) (s.1), ar G 1 (A 5) 400 400 (Fb), fam G A (uN N r (n)), ar G 0 (A 14) 60 60 (s.2.1), ar G 0 (A 15) 60 60 (s.2.2)] 15 [some (.ref o), some (.int (zI (t1l Fb n I))), some (.int (zI 1)), none] [] := by
    intro g
    induction g with
    | zero => intro k s g0; exfalso; omega
    | succ g ih =>
      intro k s g0 g1 g2 g3
      have gs := g1
      unfold Pin Pin0 at gs
      obtain ⟨k2, rfl⟩ : ∃ k2, k = k2 + 1 := ⟨k - 1, by omega⟩
      have hJ := tyJ_P g1
      have hs9 := tyS_P (l := t1l Fb n I) hFb g1
      have hs8 := hs9.1
      unfold Pin Pin0 at hs8
      refine x_iload_n C eX8_parseType_15 rfl ?_
      refine x_if_eq 111 C eX8_parseType_16 rfl (by omega) (fun h16 => ?_) (fun h16 => ?_)
      · exfalso; omega
      · refine x_aload_n C eX8_parseType_19 rfl ?_
        refine x_iconst C eX8_parseType_20 ?_
        refine x_bipush C eX8_parseType_21 rfl ?_
        refine yV2r [_, _, _, _] [_, _, _, _, _] C (s_X8_numberHere hK hFb g1 (by omega) (by omega)) v_X8_numberHere vv_X8_numberHere s_RX8_197 eX8_parseType_23 (fun _ _ h => WF_pick [0, 1, 2, 3, 4] rfl rfl h) (rcv 0 rfl) rfl (nle rfl) (nle rfl) (nle rfl) (nle rfl) rfl ?_
        skip
        refine x_istore_n [_, _, _, _] C eX8_parseType_26 rfl rfl (nlt rfl) ?_
        refine x_aload_n C eX8_parseType_27 rfl ?_
        refine x_aload_n C eX8_parseType_28 rfl ?_
        refine x_getI 0 C f_RX8_271 eX8_parseType_29 rfl rfl ?_
        try simp (disch := decide) only [up_s, up_n]
        rw [nhI_o (by decide)]
        refine x_bipush C eX8_parseType_32 rfl ?_
        refine x_icmp_ne 41 C eX8_parseType_34 rfl (by omega) (by omega) (fun h34 => ?_) (fun h34 => ?_)
        · refine x_iconst C eX8_parseType_41 ?_
          refine x_iconst C eX8_parseType_42 ?_
          refine yV2v [_, _, _, _] [_, _, _, _, _] C (s_X8_errsIf hK (s.1 16 = 60) (by first | rfl | rw [bz_t (by omega)] | rw [bz_f (by omega)]) (Pin_nh g1).1.2.2.2.1) v_X8_errsIf vv_X8_errsIf s_RX8_241 eX8_parseType_43 (fun _ _ h => WF_pick [0, 1, 2, 3, 4] rfl rfl h) (rcv 0 rfl) rfl (nle rfl) (nle rfl) (nle rfl) (nle rfl) rfl ?_
          rw [show (if s.1 16 = 60 then errI (nhI s.1 1 127) 5 else nhI s.1 1 127) = tyJ s.1 from rfl]
          refine x_aload_n C eX8_parseType_46 rfl ?_
          refine yV0r [_, _, _, _] [_, _, _, _, _] C (s_X8_good hK hJ.1.2.2.2.1) v_X8_good vv_X8_good s_RX8_152 eX8_parseType_47 (fun _ _ h => WF_pick [0, 1, 2, 3, 4] rfl rfl h) (rcv 0 rfl) rfl (nle rfl) (nle rfl) (nle rfl) (nle rfl) rfl ?_
          skip
          refine x_ifb_eq 83 C eX8_parseType_50 rfl (fun h50 => ?_) (fun h50 => ?_)
          · refine x_aload_n C eX8_parseType_83 rfl ?_
            refine yV0v [_, _, _] [_, _, _, _, _] C (s_X8_goOn hK hFb (by first | exact hJ | exact Pin_up16 hJ (by omega))) v_X8_goOn vv_X8_goOn s_RX8_200 eX8_parseType_84 (fun _ _ h => WF_pick [0, 1, 2, 3, 4] rfl rfl h) (rcv 0 rfl) rfl (nle rfl) (nle rfl) (nle rfl) (nle rfl) rfl ?_
            first
              | (have eT : tyS Fb (t1l Fb n I) s = (goI Fb (up (tyJ s.1) 16 (s.1 16 + 1)), up s.2.1 (s.1 16).toNat (t1l Fb n I), up s.2.2 (s.1 16).toNat (nhV s.1 1 127)) := if_pos (by assumption)
                 rw [show goI Fb (up (tyJ s.1) 16 (s.1 16 + 1)) = (tyS Fb (t1l Fb n I) s).1 from by rw [eT], show up s.2.1 (s.1 16).toNat (t1l Fb n I) = (tyS Fb (t1l Fb n I) s).2.1 from by rw [eT], show up s.2.2 (s.1 16).toNat (nhV s.1 1 127) = (tyS Fb (t1l Fb n I) s).2.2 from by rw [eT]])
              | (have eT : tyS Fb (t1l Fb n I) s = (tyJ s.1, s.2.1, s.2.2) := if_neg (by assumption)
                 rw [show goI Fb (tyJ s.1) = (tyS Fb (t1l Fb n I) s).1 from by rw [eT, go_e (by assumption)], show s.2.1 = (tyS Fb (t1l Fb n I) s).2.1 from by rw [eT], show s.2.2 = (tyS Fb (t1l Fb n I) s).2.2 from by rw [eT]])
            refine x_aload_n C eX8_parseType_87 rfl ?_
            refine yV0r [_, _, _, _] [_, _, _, _, _] C (s_X8_good hK hs9.1.1.2.2.2.1) v_X8_good vv_X8_good s_RX8_152 eX8_parseType_88 (fun _ _ h => WF_pick [0, 1, 2, 3, 4] rfl rfl h) (rcv 0 rfl) rfl (nle rfl) (nle rfl) (nle rfl) (nle rfl) rfl ?_
            skip
            refine x_ifb_eq 106 C eX8_parseType_91 rfl (fun h91 => ?_) (fun h91 => ?_)
            · refine x_iconst C eX8_parseType_106 ?_
              refine x_istore_n [_, _, _, _] C eX8_parseType_107 rfl rfl (nlt rfl) ?_
              refine x_goto (pc' := 15) C eX8_parseType_108 rfl ?_
              refine x_lv [_, _, _, none] rfl (lx_drop _ [3] rfl) ?_
              first
                | (refine x_pick [_, _, _, _, _] [0, 1, 2, 3, 4] rfl rfl (ih k2 (tyS Fb (t1l Fb n I) s) ?_ ?_ ?_ ?_)
                   · omega
                   · exact hs9.1
                   · have e16 : (tyS Fb (t1l Fb n I) s).1 16 = s.1 16 + 1 := tyS_16 (by omega)
                     omega
                   · rw [← g3]; exact (if_pos ⟨by assumption, by assumption⟩).symm)
                | (refine x_iload_n C eX8_parseType_15 rfl ?_
                   refine x_if_eq 111 C eX8_parseType_16 rfl (by omega) (fun _ => ?_) (fun z => absurd rfl z)
                   have eR : tyS Fb (t1l Fb n I) s = ttR Fb n I TL TB := by
                     rw [← g3]; exact (if_neg (by omega)).symm
                   rw [eR]
                   refine x_lv [_, _, none, none] rfl (lx_drop _ [2, 3] rfl) ?_
                   exact x_pick [_, _, _, _, _] [0, 1, 2, 3, 4] rfl rfl (j111))
            · refine x_aload_n C eX8_parseType_94 rfl ?_
              refine x_getI 0 C f_RX8_168 eX8_parseType_95 rfl rfl ?_
              try simp (disch := decide) only [up_s, up_n]
              refine x_iconst C eX8_parseType_98 ?_
              refine x_icmp_ne 106 C eX8_parseType_99 rfl (by omega) (by omega) (fun h99 => ?_) (fun h99 => ?_)
              · refine x_iconst C eX8_parseType_106 ?_
                refine x_istore_n [_, _, _, _] C eX8_parseType_107 rfl rfl (nlt rfl) ?_
                refine x_goto (pc' := 15) C eX8_parseType_108 rfl ?_
                refine x_lv [_, _, _, none] rfl (lx_drop _ [3] rfl) ?_
                first
                  | (refine x_pick [_, _, _, _, _] [0, 1, 2, 3, 4] rfl rfl (ih k2 (tyS Fb (t1l Fb n I) s) ?_ ?_ ?_ ?_)
                     · omega
                     · exact hs9.1
                     · have e16 : (tyS Fb (t1l Fb n I) s).1 16 = s.1 16 + 1 := tyS_16 (by omega)
                       omega
                     · rw [← g3]; exact (if_pos ⟨by assumption, by assumption⟩).symm)
                  | (refine x_iload_n C eX8_parseType_15 rfl ?_
                     refine x_if_eq 111 C eX8_parseType_16 rfl (by omega) (fun _ => ?_) (fun z => absurd rfl z)
                     have eR : tyS Fb (t1l Fb n I) s = ttR Fb n I TL TB := by
                       rw [← g3]; exact (if_neg (by omega)).symm
                     rw [eR]
                     refine x_lv [_, _, none, none] rfl (lx_drop _ [2, 3] rfl) ?_
                     exact x_pick [_, _, _, _, _] [0, 1, 2, 3, 4] rfl rfl (j111))
              · refine x_iconst C eX8_parseType_102 ?_
                refine x_goto (pc' := 107) C eX8_parseType_103 rfl ?_
                refine x_istore_n [_, _, _, _] C eX8_parseType_107 rfl rfl (nlt rfl) ?_
                refine x_goto (pc' := 15) C eX8_parseType_108 rfl ?_
                refine x_lv [_, _, _, none] rfl (lx_drop _ [3] rfl) ?_
                first
                  | (refine x_pick [_, _, _, _, _] [0, 1, 2, 3, 4] rfl rfl (ih k2 (tyS Fb (t1l Fb n I) s) ?_ ?_ ?_ ?_)
                     · omega
                     · exact hs9.1
                     · have e16 : (tyS Fb (t1l Fb n I) s).1 16 = s.1 16 + 1 := tyS_16 (by omega)
                       omega
                     · rw [← g3]; exact (if_pos ⟨by assumption, by assumption⟩).symm)
                  | (refine x_iload_n C eX8_parseType_15 rfl ?_
                     refine x_if_eq 111 C eX8_parseType_16 rfl (by omega) (fun _ => ?_) (fun z => absurd rfl z)
                     have eR : tyS Fb (t1l Fb n I) s = ttR Fb n I TL TB := by
                       rw [← g3]; exact (if_neg (by omega)).symm
                     rw [eR]
                     refine x_lv [_, _, none, none] rfl (lx_drop _ [2, 3] rfl) ?_
                     exact x_pick [_, _, _, _, _] [0, 1, 2, 3, 4] rfl rfl (j111))
          · have hn60 := tyJ_16 h50
            refine x_aload_n C eX8_parseType_53 rfl ?_
            refine x_getR 0 C f_RX8_37 eX8_parseType_54 rfl rfl ?_
            refine x_aload_n C eX8_parseType_57 rfl ?_
            refine x_getI 0 C f_RX8_271 eX8_parseType_58 rfl rfl ?_
            try simp (disch := decide) only [up_s, up_n]
            rw [tyJ_o (by decide)]
            refine x_iload_n C eX8_parseType_61 rfl ?_
            refine x_iast (w := 0) [_, _, _, _, _] 60 3 C eX8_parseType_62 rfl (by decide) (by omega) (by omega) rfl ?_
            refine x_aload_n C eX8_parseType_63 rfl ?_
            refine x_getR 0 C f_RX8_40 eX8_parseType_64 rfl rfl ?_
            refine x_aload_n C eX8_parseType_67 rfl ?_
            refine x_getI 0 C f_RX8_271 eX8_parseType_68 rfl rfl ?_
            try simp (disch := decide) only [up_s, up_n]
            rw [tyJ_o (by decide)]
            refine x_iload_n C eX8_parseType_71 rfl ?_
            refine x_iast (w := 0) [_, _, _, _, _] 60 4 C eX8_parseType_72 rfl (by decide) (by omega) (by omega) rfl ?_
            refine x_aload_n C eX8_parseType_73 rfl ?_
            refine x_dup C eX8_parseType_74 rfl ?_
            refine x_getI 0 C f_RX8_271 eX8_parseType_75 rfl rfl ?_
            try simp (disch := decide) only [up_s, up_n]
            rw [tyJ_o (by decide)]
            refine x_iconst C eX8_parseType_78 ?_
            refine x_iadd C eX8_parseType_79 ?_
            refine x_putI [_, _, _, _, _] 0 C f_RX8_271 eX8_parseType_80 rfl rfl rfl ?_
            refine x_aload_n C eX8_parseType_83 rfl ?_
            refine yV0v [_, _, _] [_, _, _, _, _] C (s_X8_goOn hK hFb (by first | exact hJ | exact Pin_up16 hJ (by omega))) v_X8_goOn vv_X8_goOn s_RX8_200 eX8_parseType_84 (fun _ _ h => WF_pick [0, 1, 2, 3, 4] rfl rfl h) (rcv 0 rfl) rfl (nle rfl) (nle rfl) (nle rfl) (nle rfl) rfl ?_
            first
              | (have eT : tyS Fb (t1l Fb n I) s = (goI Fb (up (tyJ s.1) 16 (s.1 16 + 1)), up s.2.1 (s.1 16).toNat (t1l Fb n I), up s.2.2 (s.1 16).toNat (nhV s.1 1 127)) := if_pos (by assumption)
                 rw [show goI Fb (up (tyJ s.1) 16 (s.1 16 + 1)) = (tyS Fb (t1l Fb n I) s).1 from by rw [eT], show up s.2.1 (s.1 16).toNat (t1l Fb n I) = (tyS Fb (t1l Fb n I) s).2.1 from by rw [eT], show up s.2.2 (s.1 16).toNat (nhV s.1 1 127) = (tyS Fb (t1l Fb n I) s).2.2 from by rw [eT]])
              | (have eT : tyS Fb (t1l Fb n I) s = (tyJ s.1, s.2.1, s.2.2) := if_neg (by assumption)
                 rw [show goI Fb (tyJ s.1) = (tyS Fb (t1l Fb n I) s).1 from by rw [eT, go_e (by assumption)], show s.2.1 = (tyS Fb (t1l Fb n I) s).2.1 from by rw [eT], show s.2.2 = (tyS Fb (t1l Fb n I) s).2.2 from by rw [eT]])
            refine x_aload_n C eX8_parseType_87 rfl ?_
            refine yV0r [_, _, _, _] [_, _, _, _, _] C (s_X8_good hK hs9.1.1.2.2.2.1) v_X8_good vv_X8_good s_RX8_152 eX8_parseType_88 (fun _ _ h => WF_pick [0, 1, 2, 3, 4] rfl rfl h) (rcv 0 rfl) rfl (nle rfl) (nle rfl) (nle rfl) (nle rfl) rfl ?_
            skip
            refine x_ifb_eq 106 C eX8_parseType_91 rfl (fun h91 => ?_) (fun h91 => ?_)
            · refine x_iconst C eX8_parseType_106 ?_
              refine x_istore_n [_, _, _, _] C eX8_parseType_107 rfl rfl (nlt rfl) ?_
              refine x_goto (pc' := 15) C eX8_parseType_108 rfl ?_
              refine x_lv [_, _, _, none] rfl (lx_drop _ [3] rfl) ?_
              first
                | (refine x_pick [_, _, _, _, _] [0, 1, 2, 3, 4] rfl rfl (ih k2 (tyS Fb (t1l Fb n I) s) ?_ ?_ ?_ ?_)
                   · omega
                   · exact hs9.1
                   · have e16 : (tyS Fb (t1l Fb n I) s).1 16 = s.1 16 + 1 := tyS_16 (by omega)
                     omega
                   · rw [← g3]; exact (if_pos ⟨by assumption, by assumption⟩).symm)
                | (refine x_iload_n C eX8_parseType_15 rfl ?_
                   refine x_if_eq 111 C eX8_parseType_16 rfl (by omega) (fun _ => ?_) (fun z => absurd rfl z)
                   have eR : tyS Fb (t1l Fb n I) s = ttR Fb n I TL TB := by
                     rw [← g3]; exact (if_neg (by omega)).symm
                   rw [eR]
                   refine x_lv [_, _, none, none] rfl (lx_drop _ [2, 3] rfl) ?_
                   exact x_pick [_, _, _, _, _] [0, 1, 2, 3, 4] rfl rfl (j111))
            · refine x_aload_n C eX8_parseType_94 rfl ?_
              refine x_getI 0 C f_RX8_168 eX8_parseType_95 rfl rfl ?_
              try simp (disch := decide) only [up_s, up_n]
              refine x_iconst C eX8_parseType_98 ?_
              refine x_icmp_ne 106 C eX8_parseType_99 rfl (by omega) (by omega) (fun h99 => ?_) (fun h99 => ?_)
              · refine x_iconst C eX8_parseType_106 ?_
                refine x_istore_n [_, _, _, _] C eX8_parseType_107 rfl rfl (nlt rfl) ?_
                refine x_goto (pc' := 15) C eX8_parseType_108 rfl ?_
                refine x_lv [_, _, _, none] rfl (lx_drop _ [3] rfl) ?_
                first
                  | (refine x_pick [_, _, _, _, _] [0, 1, 2, 3, 4] rfl rfl (ih k2 (tyS Fb (t1l Fb n I) s) ?_ ?_ ?_ ?_)
                     · omega
                     · exact hs9.1
                     · have e16 : (tyS Fb (t1l Fb n I) s).1 16 = s.1 16 + 1 := tyS_16 (by omega)
                       omega
                     · rw [← g3]; exact (if_pos ⟨by assumption, by assumption⟩).symm)
                  | (refine x_iload_n C eX8_parseType_15 rfl ?_
                     refine x_if_eq 111 C eX8_parseType_16 rfl (by omega) (fun _ => ?_) (fun z => absurd rfl z)
                     have eR : tyS Fb (t1l Fb n I) s = ttR Fb n I TL TB := by
                       rw [← g3]; exact (if_neg (by omega)).symm
                     rw [eR]
                     refine x_lv [_, _, none, none] rfl (lx_drop _ [2, 3] rfl) ?_
                     exact x_pick [_, _, _, _, _] [0, 1, 2, 3, 4] rfl rfl (j111))
              · refine x_iconst C eX8_parseType_102 ?_
                refine x_goto (pc' := 107) C eX8_parseType_103 rfl ?_
                refine x_istore_n [_, _, _, _] C eX8_parseType_107 rfl rfl (nlt rfl) ?_
                refine x_goto (pc' := 15) C eX8_parseType_108 rfl ?_
                refine x_lv [_, _, _, none] rfl (lx_drop _ [3] rfl) ?_
                first
                  | (refine x_pick [_, _, _, _, _] [0, 1, 2, 3, 4] rfl rfl (ih k2 (tyS Fb (t1l Fb n I) s) ?_ ?_ ?_ ?_)
                     · omega
                     · exact hs9.1
                     · have e16 : (tyS Fb (t1l Fb n I) s).1 16 = s.1 16 + 1 := tyS_16 (by omega)
                       omega
                     · rw [← g3]; exact (if_pos ⟨by assumption, by assumption⟩).symm)
                  | (refine x_iload_n C eX8_parseType_15 rfl ?_
                     refine x_if_eq 111 C eX8_parseType_16 rfl (by omega) (fun _ => ?_) (fun z => absurd rfl z)
                     have eR : tyS Fb (t1l Fb n I) s = ttR Fb n I TL TB := by
                       rw [← g3]; exact (if_neg (by omega)).symm
                     rw [eR]
                     refine x_lv [_, _, none, none] rfl (lx_drop _ [2, 3] rfl) ?_
                     exact x_pick [_, _, _, _, _] [0, 1, 2, 3, 4] rfl rfl (j111))
        · skip
          refine x_iconst C eX8_parseType_37 ?_
          refine x_goto (pc' := 42) C eX8_parseType_38 rfl ?_
          refine x_iconst C eX8_parseType_42 ?_
          refine yV2v [_, _, _, _] [_, _, _, _, _] C (s_X8_errsIf hK (s.1 16 = 60) (by first | rfl | rw [bz_t (by omega)] | rw [bz_f (by omega)]) (Pin_nh g1).1.2.2.2.1) v_X8_errsIf vv_X8_errsIf s_RX8_241 eX8_parseType_43 (fun _ _ h => WF_pick [0, 1, 2, 3, 4] rfl rfl h) (rcv 0 rfl) rfl (nle rfl) (nle rfl) (nle rfl) (nle rfl) rfl ?_
          rw [show (if s.1 16 = 60 then errI (nhI s.1 1 127) 5 else nhI s.1 1 127) = tyJ s.1 from rfl]
          refine x_aload_n C eX8_parseType_46 rfl ?_
          refine yV0r [_, _, _, _] [_, _, _, _, _] C (s_X8_good hK hJ.1.2.2.2.1) v_X8_good vv_X8_good s_RX8_152 eX8_parseType_47 (fun _ _ h => WF_pick [0, 1, 2, 3, 4] rfl rfl h) (rcv 0 rfl) rfl (nle rfl) (nle rfl) (nle rfl) (nle rfl) rfl ?_
          skip
          refine x_ifb_eq 83 C eX8_parseType_50 rfl (fun h50 => ?_) (fun h50 => ?_)
          · refine x_aload_n C eX8_parseType_83 rfl ?_
            refine yV0v [_, _, _] [_, _, _, _, _] C (s_X8_goOn hK hFb (by first | exact hJ | exact Pin_up16 hJ (by omega))) v_X8_goOn vv_X8_goOn s_RX8_200 eX8_parseType_84 (fun _ _ h => WF_pick [0, 1, 2, 3, 4] rfl rfl h) (rcv 0 rfl) rfl (nle rfl) (nle rfl) (nle rfl) (nle rfl) rfl ?_
            first
              | (have eT : tyS Fb (t1l Fb n I) s = (goI Fb (up (tyJ s.1) 16 (s.1 16 + 1)), up s.2.1 (s.1 16).toNat (t1l Fb n I), up s.2.2 (s.1 16).toNat (nhV s.1 1 127)) := if_pos (by assumption)
                 rw [show goI Fb (up (tyJ s.1) 16 (s.1 16 + 1)) = (tyS Fb (t1l Fb n I) s).1 from by rw [eT], show up s.2.1 (s.1 16).toNat (t1l Fb n I) = (tyS Fb (t1l Fb n I) s).2.1 from by rw [eT], show up s.2.2 (s.1 16).toNat (nhV s.1 1 127) = (tyS Fb (t1l Fb n I) s).2.2 from by rw [eT]])
              | (have eT : tyS Fb (t1l Fb n I) s = (tyJ s.1, s.2.1, s.2.2) := if_neg (by assumption)
                 rw [show goI Fb (tyJ s.1) = (tyS Fb (t1l Fb n I) s).1 from by rw [eT, go_e (by assumption)], show s.2.1 = (tyS Fb (t1l Fb n I) s).2.1 from by rw [eT], show s.2.2 = (tyS Fb (t1l Fb n I) s).2.2 from by rw [eT]])
            refine x_aload_n C eX8_parseType_87 rfl ?_
            refine yV0r [_, _, _, _] [_, _, _, _, _] C (s_X8_good hK hs9.1.1.2.2.2.1) v_X8_good vv_X8_good s_RX8_152 eX8_parseType_88 (fun _ _ h => WF_pick [0, 1, 2, 3, 4] rfl rfl h) (rcv 0 rfl) rfl (nle rfl) (nle rfl) (nle rfl) (nle rfl) rfl ?_
            skip
            refine x_ifb_eq 106 C eX8_parseType_91 rfl (fun h91 => ?_) (fun h91 => ?_)
            · refine x_iconst C eX8_parseType_106 ?_
              refine x_istore_n [_, _, _, _] C eX8_parseType_107 rfl rfl (nlt rfl) ?_
              refine x_goto (pc' := 15) C eX8_parseType_108 rfl ?_
              refine x_lv [_, _, _, none] rfl (lx_drop _ [3] rfl) ?_
              first
                | (refine x_pick [_, _, _, _, _] [0, 1, 2, 3, 4] rfl rfl (ih k2 (tyS Fb (t1l Fb n I) s) ?_ ?_ ?_ ?_)
                   · omega
                   · exact hs9.1
                   · have e16 : (tyS Fb (t1l Fb n I) s).1 16 = s.1 16 + 1 := tyS_16 (by omega)
                     omega
                   · rw [← g3]; exact (if_pos ⟨by assumption, by assumption⟩).symm)
                | (refine x_iload_n C eX8_parseType_15 rfl ?_
                   refine x_if_eq 111 C eX8_parseType_16 rfl (by omega) (fun _ => ?_) (fun z => absurd rfl z)
                   have eR : tyS Fb (t1l Fb n I) s = ttR Fb n I TL TB := by
                     rw [← g3]; exact (if_neg (by omega)).symm
                   rw [eR]
                   refine x_lv [_, _, none, none] rfl (lx_drop _ [2, 3] rfl) ?_
                   exact x_pick [_, _, _, _, _] [0, 1, 2, 3, 4] rfl rfl (j111))
            · refine x_aload_n C eX8_parseType_94 rfl ?_
              refine x_getI 0 C f_RX8_168 eX8_parseType_95 rfl rfl ?_
              try simp (disch := decide) only [up_s, up_n]
              refine x_iconst C eX8_parseType_98 ?_
              refine x_icmp_ne 106 C eX8_parseType_99 rfl (by omega) (by omega) (fun h99 => ?_) (fun h99 => ?_)
              · refine x_iconst C eX8_parseType_106 ?_
                refine x_istore_n [_, _, _, _] C eX8_parseType_107 rfl rfl (nlt rfl) ?_
                refine x_goto (pc' := 15) C eX8_parseType_108 rfl ?_
                refine x_lv [_, _, _, none] rfl (lx_drop _ [3] rfl) ?_
                first
                  | (refine x_pick [_, _, _, _, _] [0, 1, 2, 3, 4] rfl rfl (ih k2 (tyS Fb (t1l Fb n I) s) ?_ ?_ ?_ ?_)
                     · omega
                     · exact hs9.1
                     · have e16 : (tyS Fb (t1l Fb n I) s).1 16 = s.1 16 + 1 := tyS_16 (by omega)
                       omega
                     · rw [← g3]; exact (if_pos ⟨by assumption, by assumption⟩).symm)
                  | (refine x_iload_n C eX8_parseType_15 rfl ?_
                     refine x_if_eq 111 C eX8_parseType_16 rfl (by omega) (fun _ => ?_) (fun z => absurd rfl z)
                     have eR : tyS Fb (t1l Fb n I) s = ttR Fb n I TL TB := by
                       rw [← g3]; exact (if_neg (by omega)).symm
                     rw [eR]
                     refine x_lv [_, _, none, none] rfl (lx_drop _ [2, 3] rfl) ?_
                     exact x_pick [_, _, _, _, _] [0, 1, 2, 3, 4] rfl rfl (j111))
              · refine x_iconst C eX8_parseType_102 ?_
                refine x_goto (pc' := 107) C eX8_parseType_103 rfl ?_
                refine x_istore_n [_, _, _, _] C eX8_parseType_107 rfl rfl (nlt rfl) ?_
                refine x_goto (pc' := 15) C eX8_parseType_108 rfl ?_
                refine x_lv [_, _, _, none] rfl (lx_drop _ [3] rfl) ?_
                first
                  | (refine x_pick [_, _, _, _, _] [0, 1, 2, 3, 4] rfl rfl (ih k2 (tyS Fb (t1l Fb n I) s) ?_ ?_ ?_ ?_)
                     · omega
                     · exact hs9.1
                     · have e16 : (tyS Fb (t1l Fb n I) s).1 16 = s.1 16 + 1 := tyS_16 (by omega)
                       omega
                     · rw [← g3]; exact (if_pos ⟨by assumption, by assumption⟩).symm)
                  | (refine x_iload_n C eX8_parseType_15 rfl ?_
                     refine x_if_eq 111 C eX8_parseType_16 rfl (by omega) (fun _ => ?_) (fun z => absurd rfl z)
                     have eR : tyS Fb (t1l Fb n I) s = ttR Fb n I TL TB := by
                       rw [← g3]; exact (if_neg (by omega)).symm
                     rw [eR]
                     refine x_lv [_, _, none, none] rfl (lx_drop _ [2, 3] rfl) ?_
                     exact x_pick [_, _, _, _, _] [0, 1, 2, 3, 4] rfl rfl (j111))
          · have hn60 := tyJ_16 h50
            refine x_aload_n C eX8_parseType_53 rfl ?_
            refine x_getR 0 C f_RX8_37 eX8_parseType_54 rfl rfl ?_
            refine x_aload_n C eX8_parseType_57 rfl ?_
            refine x_getI 0 C f_RX8_271 eX8_parseType_58 rfl rfl ?_
            try simp (disch := decide) only [up_s, up_n]
            rw [tyJ_o (by decide)]
            refine x_iload_n C eX8_parseType_61 rfl ?_
            refine x_iast (w := 0) [_, _, _, _, _] 60 3 C eX8_parseType_62 rfl (by decide) (by omega) (by omega) rfl ?_
            refine x_aload_n C eX8_parseType_63 rfl ?_
            refine x_getR 0 C f_RX8_40 eX8_parseType_64 rfl rfl ?_
            refine x_aload_n C eX8_parseType_67 rfl ?_
            refine x_getI 0 C f_RX8_271 eX8_parseType_68 rfl rfl ?_
            try simp (disch := decide) only [up_s, up_n]
            rw [tyJ_o (by decide)]
            refine x_iload_n C eX8_parseType_71 rfl ?_
            refine x_iast (w := 0) [_, _, _, _, _] 60 4 C eX8_parseType_72 rfl (by decide) (by omega) (by omega) rfl ?_
            refine x_aload_n C eX8_parseType_73 rfl ?_
            refine x_dup C eX8_parseType_74 rfl ?_
            refine x_getI 0 C f_RX8_271 eX8_parseType_75 rfl rfl ?_
            try simp (disch := decide) only [up_s, up_n]
            rw [tyJ_o (by decide)]
            refine x_iconst C eX8_parseType_78 ?_
            refine x_iadd C eX8_parseType_79 ?_
            refine x_putI [_, _, _, _, _] 0 C f_RX8_271 eX8_parseType_80 rfl rfl rfl ?_
            refine x_aload_n C eX8_parseType_83 rfl ?_
            refine yV0v [_, _, _] [_, _, _, _, _] C (s_X8_goOn hK hFb (by first | exact hJ | exact Pin_up16 hJ (by omega))) v_X8_goOn vv_X8_goOn s_RX8_200 eX8_parseType_84 (fun _ _ h => WF_pick [0, 1, 2, 3, 4] rfl rfl h) (rcv 0 rfl) rfl (nle rfl) (nle rfl) (nle rfl) (nle rfl) rfl ?_
            first
              | (have eT : tyS Fb (t1l Fb n I) s = (goI Fb (up (tyJ s.1) 16 (s.1 16 + 1)), up s.2.1 (s.1 16).toNat (t1l Fb n I), up s.2.2 (s.1 16).toNat (nhV s.1 1 127)) := if_pos (by assumption)
                 rw [show goI Fb (up (tyJ s.1) 16 (s.1 16 + 1)) = (tyS Fb (t1l Fb n I) s).1 from by rw [eT], show up s.2.1 (s.1 16).toNat (t1l Fb n I) = (tyS Fb (t1l Fb n I) s).2.1 from by rw [eT], show up s.2.2 (s.1 16).toNat (nhV s.1 1 127) = (tyS Fb (t1l Fb n I) s).2.2 from by rw [eT]])
              | (have eT : tyS Fb (t1l Fb n I) s = (tyJ s.1, s.2.1, s.2.2) := if_neg (by assumption)
                 rw [show goI Fb (tyJ s.1) = (tyS Fb (t1l Fb n I) s).1 from by rw [eT, go_e (by assumption)], show s.2.1 = (tyS Fb (t1l Fb n I) s).2.1 from by rw [eT], show s.2.2 = (tyS Fb (t1l Fb n I) s).2.2 from by rw [eT]])
            refine x_aload_n C eX8_parseType_87 rfl ?_
            refine yV0r [_, _, _, _] [_, _, _, _, _] C (s_X8_good hK hs9.1.1.2.2.2.1) v_X8_good vv_X8_good s_RX8_152 eX8_parseType_88 (fun _ _ h => WF_pick [0, 1, 2, 3, 4] rfl rfl h) (rcv 0 rfl) rfl (nle rfl) (nle rfl) (nle rfl) (nle rfl) rfl ?_
            skip
            refine x_ifb_eq 106 C eX8_parseType_91 rfl (fun h91 => ?_) (fun h91 => ?_)
            · refine x_iconst C eX8_parseType_106 ?_
              refine x_istore_n [_, _, _, _] C eX8_parseType_107 rfl rfl (nlt rfl) ?_
              refine x_goto (pc' := 15) C eX8_parseType_108 rfl ?_
              refine x_lv [_, _, _, none] rfl (lx_drop _ [3] rfl) ?_
              first
                | (refine x_pick [_, _, _, _, _] [0, 1, 2, 3, 4] rfl rfl (ih k2 (tyS Fb (t1l Fb n I) s) ?_ ?_ ?_ ?_)
                   · omega
                   · exact hs9.1
                   · have e16 : (tyS Fb (t1l Fb n I) s).1 16 = s.1 16 + 1 := tyS_16 (by omega)
                     omega
                   · rw [← g3]; exact (if_pos ⟨by assumption, by assumption⟩).symm)
                | (refine x_iload_n C eX8_parseType_15 rfl ?_
                   refine x_if_eq 111 C eX8_parseType_16 rfl (by omega) (fun _ => ?_) (fun z => absurd rfl z)
                   have eR : tyS Fb (t1l Fb n I) s = ttR Fb n I TL TB := by
                     rw [← g3]; exact (if_neg (by omega)).symm
                   rw [eR]
                   refine x_lv [_, _, none, none] rfl (lx_drop _ [2, 3] rfl) ?_
                   exact x_pick [_, _, _, _, _] [0, 1, 2, 3, 4] rfl rfl (j111))
            · refine x_aload_n C eX8_parseType_94 rfl ?_
              refine x_getI 0 C f_RX8_168 eX8_parseType_95 rfl rfl ?_
              try simp (disch := decide) only [up_s, up_n]
              refine x_iconst C eX8_parseType_98 ?_
              refine x_icmp_ne 106 C eX8_parseType_99 rfl (by omega) (by omega) (fun h99 => ?_) (fun h99 => ?_)
              · refine x_iconst C eX8_parseType_106 ?_
                refine x_istore_n [_, _, _, _] C eX8_parseType_107 rfl rfl (nlt rfl) ?_
                refine x_goto (pc' := 15) C eX8_parseType_108 rfl ?_
                refine x_lv [_, _, _, none] rfl (lx_drop _ [3] rfl) ?_
                first
                  | (refine x_pick [_, _, _, _, _] [0, 1, 2, 3, 4] rfl rfl (ih k2 (tyS Fb (t1l Fb n I) s) ?_ ?_ ?_ ?_)
                     · omega
                     · exact hs9.1
                     · have e16 : (tyS Fb (t1l Fb n I) s).1 16 = s.1 16 + 1 := tyS_16 (by omega)
                       omega
                     · rw [← g3]; exact (if_pos ⟨by assumption, by assumption⟩).symm)
                  | (refine x_iload_n C eX8_parseType_15 rfl ?_
                     refine x_if_eq 111 C eX8_parseType_16 rfl (by omega) (fun _ => ?_) (fun z => absurd rfl z)
                     have eR : tyS Fb (t1l Fb n I) s = ttR Fb n I TL TB := by
                       rw [← g3]; exact (if_neg (by omega)).symm
                     rw [eR]
                     refine x_lv [_, _, none, none] rfl (lx_drop _ [2, 3] rfl) ?_
                     exact x_pick [_, _, _, _, _] [0, 1, 2, 3, 4] rfl rfl (j111))
              · refine x_iconst C eX8_parseType_102 ?_
                refine x_goto (pc' := 107) C eX8_parseType_103 rfl ?_
                refine x_istore_n [_, _, _, _] C eX8_parseType_107 rfl rfl (nlt rfl) ?_
                refine x_goto (pc' := 15) C eX8_parseType_108 rfl ?_
                refine x_lv [_, _, _, none] rfl (lx_drop _ [3] rfl) ?_
                first
                  | (refine x_pick [_, _, _, _, _] [0, 1, 2, 3, 4] rfl rfl (ih k2 (tyS Fb (t1l Fb n I) s) ?_ ?_ ?_ ?_)
                     · omega
                     · exact hs9.1
                     · have e16 : (tyS Fb (t1l Fb n I) s).1 16 = s.1 16 + 1 := tyS_16 (by omega)
                       omega
                     · rw [← g3]; exact (if_pos ⟨by assumption, by assumption⟩).symm)
                  | (refine x_iload_n C eX8_parseType_15 rfl ?_
                     refine x_if_eq 111 C eX8_parseType_16 rfl (by omega) (fun _ => ?_) (fun z => absurd rfl z)
                     have eR : tyS Fb (t1l Fb n I) s = ttR Fb n I TL TB := by
                       rw [← g3]; exact (if_neg (by omega)).symm
                     rw [eR]
                     refine x_lv [_, _, none, none] rfl (lx_drop _ [2, 3] rfl) ?_
                     exact x_pick [_, _, _, _, _] [0, 1, 2, 3, 4] rfl rfl (j111))
  refine x_aload_n C eX8_parseType_0 rfl ?_
  refine yV0v [_, _, _] [_, _, _, _, _] C (s_X8_goOn hK hFb hP) v_X8_goOn vv_X8_goOn s_RX8_200 eX8_parseType_1 (fun _ _ h => WF_pick [0, 1, 2, 3, 4] rfl rfl h) (rcv 0 rfl) rfl (nle rfl) (nle rfl) (nle rfl) (nle rfl) rfl ?_
  skip
  refine x_aload_n C eX8_parseType_4 rfl ?_
  refine yV0r [_, _] [_, _, _, _, _] C (s_X8_lineHere hK hr hFb hQ1 hS hn hm) v_X8_lineHere vv_X8_lineHere s_RX8_265 eX8_parseType_5 (fun _ _ h => WF_pick [0, 1, 2, 3, 4] rfl rfl h) (rcv 0 rfl) rfl (nle rfl) (nle rfl) (nle rfl) (nle rfl) rfl ?_
  rw [show lhV Fb n (goI Fb I) = t1l Fb n I from rfl]
  refine x_istore_n [_, _, _, _] C eX8_parseType_8 rfl rfl (nlt rfl) ?_
  refine x_aload_n C eX8_parseType_9 rfl ?_
  refine yV0v [_, _, _] [_, _, _, _, _] C (s_X8_goOn hK hFb (Pin_lh hQ1)) v_X8_goOn vv_X8_goOn s_RX8_200 eX8_parseType_10 (fun _ _ h => WF_pick [0, 1, 2, 3, 4] rfl rfl h) (rcv 0 rfl) rfl (nle rfl) (nle rfl) (nle rfl) (nle rfl) rfl ?_
  rw [show goI Fb (lhI Fb n (goI Fb I)) = t1I Fb n I from rfl]
  refine x_iconst C eX8_parseType_13 ?_
  refine x_istore_n [_, _, _, _] C eX8_parseType_14 rfl rfl (nlt rfl) ?_
  exact x_pick [_, _, _, _, _] [0, 1, 2, 3, 4] rfl rfl (loop 63 62 (t1I Fb n I, TL, TB) (by omega) hT1 (by have := hT1.1.2.2.2.2; show 61 - t1I Fb n I 16 ≤ ((62 : Nat) : Int); omega) rfl)

set_option maxHeartbeats 4000000 in
set_option maxRecDepth 100000 in
theorem s_X8_parseStatement {G : Gm} {l : Launch} (hK : KG G) {o r : Nat} {A : Nat → Nat} {I Fb : Nat → Int} {N : Nat → Net} {n : Net} {TL TB : Nat → Int} (hr : rok r) (hFb : ∀ j, -128 ≤ Fb j ∧ Fb j ≤ 127) (hP : Pin Fb I) (hS : KS G) (hn : 0 ≤ n (-1) 0 ∧ n (-1) 0 ≤ 6) (hm : ∀ k : Int, 0 ≤ k → k < n (-1) 0 → 0 ≤ n k 0 ∧ n k 0 < 387420489) (h12n : ∀ k : Int, 0 ≤ k → k < 6 → 0 ≤ n k 12 ∧ n k 12 ≤ 99) : MD G l yX8_parseStatement cX8_parseStatement 1 none 10 0 0 [.ref o] [ob o 10 (shM A r) (I), ar G 1 (A 5) 400 400 (Fb), fam G A (uN N r (n)), ar G 0 (A 14) 60 60 (TL), ar G 0 (A 15) 60 60 (TB)] none [ob o 10 (shM A r) ((psS Fb (I, n, TL, TB)).1), ar G 1 (A 5) 400 400 (Fb), fam G A (uN N r ((psS Fb (I, n, TL, TB)).2.1)), ar G 0 (A 14) 60 60 ((psS Fb (I, n, TL, TB)).2.2.1), ar G 0 (A 15) 60 60 ((psS Fb (I, n, TL, TB)).2.2.2)] := by
  refine MX_of (lv := [some (.ref o)]) hK (by decide +kernel) rfl (nle rfl) (fun X C F => ?_)
  have C : OKc G X l RX8 "parseStatement" cX8_parseStatement 1 none 10 0 0 := C
  have h0 := hP
  unfold Pin Pin0 at h0
  refine x_aload_n C eX8_parseStatement_0 rfl ?_
  obtain ⟨q1, b1, hr1, hq1⟩ := lit_RX8_207 hS
  refine x_ldcS C hr1 eX8_parseStatement_1 ?_
  refine yV1r [_, _, _] [_, _, _, _, _] C (s_X8_isWord hK hFb hP hS hq1) v_X8_isWord vv_X8_isWord s_RX8_203 eX8_parseStatement_3 (fun _ _ h => WF_pick [0, 1, 2, 3, 4] rfl rfl h) (rcv 0 rfl) rfl (nle rfl) (nle rfl) (nle rfl) (nle rfl) rfl ?_
  refine x_ifb_eq 16 C eX8_parseStatement_6 rfl (fun h6 => ?_) (fun h6 => ?_)
  · refine x_aload_n C eX8_parseStatement_16 rfl ?_
    obtain ⟨q17, b17, hr17, hq17⟩ := lit_RX8_223 hS
    refine x_ldcS C hr17 eX8_parseStatement_17 ?_
    refine yV1r [_, _, _] [_, _, _, _, _] C (s_X8_isWord hK hFb hP hS hq17) v_X8_isWord vv_X8_isWord s_RX8_203 eX8_parseStatement_19 (fun _ _ h => WF_pick [0, 1, 2, 3, 4] rfl rfl h) (rcv 0 rfl) rfl (nle rfl) (nle rfl) (nle rfl) (nle rfl) rfl ?_
    refine x_ifb_eq 32 C eX8_parseStatement_22 rfl (fun h22 => ?_) (fun h22 => ?_)
    · refine x_aload_n C eX8_parseStatement_32 rfl ?_
      obtain ⟨q33, b33, hr33, hq33⟩ := lit_RX8_229 hS
      refine x_ldcS C hr33 eX8_parseStatement_33 ?_
      refine yV1r [_, _, _] [_, _, _, _, _] C (s_X8_isWord hK hFb hP hS hq33) v_X8_isWord vv_X8_isWord s_RX8_203 eX8_parseStatement_35 (fun _ _ h => WF_pick [0, 1, 2, 3, 4] rfl rfl h) (rcv 0 rfl) rfl (nle rfl) (nle rfl) (nle rfl) (nle rfl) rfl ?_
      refine x_ifb_eq 48 C eX8_parseStatement_38 rfl (fun h38 => ?_) (fun h38 => ?_)
      · refine x_aload_n C eX8_parseStatement_48 rfl ?_
        refine x_iconst C eX8_parseStatement_49 ?_
        refine yV1v [_, _, _, _] [_, _, _, _, _] C (s_X8_errs hK h0.1.2.2.2.1) v_X8_errs vv_X8_errs s_RX8_194 eX8_parseStatement_50 (fun _ _ h => WF_pick [0, 1, 2, 3, 4] rfl rfl h) (rcv 0 rfl) rfl (nle rfl) (nle rfl) (nle rfl) (nle rfl) rfl ?_
        skip
        refine x_vret C F eX8_parseStatement_53 () rfl trivial (fun cf c h => ?_) (nle rfl) (nle rfl)
        first
          | (rw [show psS Fb (I, n, TL, TB) = (p8I Fb n I, plN Fb n I, TL, TB) from if_pos (by assumption)]; exact WF_pick [0, 1, 2, 3, 4] rfl rfl h)
          | (rw [show psS Fb (I, n, TL, TB) = (q8I Fb n I, qlN Fb n I, TL, TB) from (if_neg (by assumption)).trans (if_pos (by assumption))]; exact WF_pick [0, 1, 2, 3, 4] rfl rfl h)
          | (rw [show psS Fb (I, n, TL, TB) = (scI Fb (ttR Fb n I TL TB).1, n, (ttR Fb n I TL TB).2.1, (ttR Fb n I TL TB).2.2) from (if_neg (by assumption)).trans ((if_neg (by assumption)).trans (if_pos (by assumption)))]; exact WF_pick [0, 1, 2, 3, 4] rfl rfl h)
          | (rw [show psS Fb (I, n, TL, TB) = (errI I 1, n, TL, TB) from (if_neg (by assumption)).trans ((if_neg (by assumption)).trans (if_neg (by assumption)))]; exact WF_pick [0, 1, 2, 3, 4] rfl rfl h)
      · refine x_aload_n C eX8_parseStatement_41 rfl ?_
        refine yV0v [] [_, _, _, _, _] C (s_X8_parseType hK hr hFb hP hS hn hm) v_X8_parseType vv_X8_parseType s_RX8_280 eX8_parseStatement_42 (fun _ _ h => WF_pick [0, 1, 2, 3, 4] rfl rfl h) (rcv 0 rfl) rfl (nle rfl) (nle rfl) (nle rfl) (nle rfl) rfl ?_
        skip
        refine x_goto (pc' := 53) C eX8_parseStatement_45 rfl ?_
        refine x_vret C F eX8_parseStatement_53 () rfl trivial (fun cf c h => ?_) (nle rfl) (nle rfl)
        first
          | (rw [show psS Fb (I, n, TL, TB) = (p8I Fb n I, plN Fb n I, TL, TB) from if_pos (by assumption)]; exact WF_pick [0, 1, 2, 3, 4] rfl rfl h)
          | (rw [show psS Fb (I, n, TL, TB) = (q8I Fb n I, qlN Fb n I, TL, TB) from (if_neg (by assumption)).trans (if_pos (by assumption))]; exact WF_pick [0, 1, 2, 3, 4] rfl rfl h)
          | (rw [show psS Fb (I, n, TL, TB) = (scI Fb (ttR Fb n I TL TB).1, n, (ttR Fb n I TL TB).2.1, (ttR Fb n I TL TB).2.2) from (if_neg (by assumption)).trans ((if_neg (by assumption)).trans (if_pos (by assumption)))]; exact WF_pick [0, 1, 2, 3, 4] rfl rfl h)
          | (rw [show psS Fb (I, n, TL, TB) = (errI I 1, n, TL, TB) from (if_neg (by assumption)).trans ((if_neg (by assumption)).trans (if_neg (by assumption)))]; exact WF_pick [0, 1, 2, 3, 4] rfl rfl h)
    · refine x_aload_n C eX8_parseStatement_25 rfl ?_
      refine yV0v [_, _] [_, _, _, _, _] C (s_X8_parseLend hK hr hFb hP hS hn hm h12n) v_X8_parseLend vv_X8_parseLend s_RX8_277 eX8_parseStatement_26 (fun _ _ h => WF_pick [0, 1, 2, 3, 4] rfl rfl h) (rcv 0 rfl) rfl (nle rfl) (nle rfl) (nle rfl) (nle rfl) rfl ?_
      skip
      refine x_goto (pc' := 53) C eX8_parseStatement_29 rfl ?_
      refine x_vret C F eX8_parseStatement_53 () rfl trivial (fun cf c h => ?_) (nle rfl) (nle rfl)
      first
        | (rw [show psS Fb (I, n, TL, TB) = (p8I Fb n I, plN Fb n I, TL, TB) from if_pos (by assumption)]; exact WF_pick [0, 1, 2, 3, 4] rfl rfl h)
        | (rw [show psS Fb (I, n, TL, TB) = (q8I Fb n I, qlN Fb n I, TL, TB) from (if_neg (by assumption)).trans (if_pos (by assumption))]; exact WF_pick [0, 1, 2, 3, 4] rfl rfl h)
        | (rw [show psS Fb (I, n, TL, TB) = (scI Fb (ttR Fb n I TL TB).1, n, (ttR Fb n I TL TB).2.1, (ttR Fb n I TL TB).2.2) from (if_neg (by assumption)).trans ((if_neg (by assumption)).trans (if_pos (by assumption)))]; exact WF_pick [0, 1, 2, 3, 4] rfl rfl h)
        | (rw [show psS Fb (I, n, TL, TB) = (errI I 1, n, TL, TB) from (if_neg (by assumption)).trans ((if_neg (by assumption)).trans (if_neg (by assumption)))]; exact WF_pick [0, 1, 2, 3, 4] rfl rfl h)
  · refine x_aload_n C eX8_parseStatement_9 rfl ?_
    refine yV0v [_, _] [_, _, _, _, _] C (s_X8_parseLine hK hr hFb hP hS hn hm) v_X8_parseLine vv_X8_parseLine s_RX8_274 eX8_parseStatement_10 (fun _ _ h => WF_pick [0, 1, 2, 3, 4] rfl rfl h) (rcv 0 rfl) rfl (nle rfl) (nle rfl) (nle rfl) (nle rfl) rfl ?_
    skip
    refine x_goto (pc' := 53) C eX8_parseStatement_13 rfl ?_
    refine x_vret C F eX8_parseStatement_53 () rfl trivial (fun cf c h => ?_) (nle rfl) (nle rfl)
    first
      | (rw [show psS Fb (I, n, TL, TB) = (p8I Fb n I, plN Fb n I, TL, TB) from if_pos (by assumption)]; exact WF_pick [0, 1, 2, 3, 4] rfl rfl h)
      | (rw [show psS Fb (I, n, TL, TB) = (q8I Fb n I, qlN Fb n I, TL, TB) from (if_neg (by assumption)).trans (if_pos (by assumption))]; exact WF_pick [0, 1, 2, 3, 4] rfl rfl h)
      | (rw [show psS Fb (I, n, TL, TB) = (scI Fb (ttR Fb n I TL TB).1, n, (ttR Fb n I TL TB).2.1, (ttR Fb n I TL TB).2.2) from (if_neg (by assumption)).trans ((if_neg (by assumption)).trans (if_pos (by assumption)))]; exact WF_pick [0, 1, 2, 3, 4] rfl rfl h)
      | (rw [show psS Fb (I, n, TL, TB) = (errI I 1, n, TL, TB) from (if_neg (by assumption)).trans ((if_neg (by assumption)).trans (if_neg (by assumption)))]; exact WF_pick [0, 1, 2, 3, 4] rfl rfl h)
