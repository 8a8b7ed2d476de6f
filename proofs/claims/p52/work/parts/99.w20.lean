/-! The law. -/
section Rules
variable {G : Gm} {X : Cx} {k n : Nat} {ws : List SA} {pc : Nat} {lv : List (Option Value)} {st : List Value}
theorem x_oTO {t : Nat} {M : Pool} {L : Int → Nat} {m : Net} {R : List SA} (hw : ∀ cf c, WF ws cf c → WF (TO G M t L m :: R) cf c) (K : ∀ (al lg : Nat), WX G X k n (ob t 8 (tkS al lg) (tkI m) :: arR G 5 al 6 (fun j => some (L (j : Int))) :: LF G M L m :: LOG G lg m :: R) pc lv st) : WX G X k n ws pc lv st := by
  intro H locs ls c h1 h2 h3 h4
  obtain ⟨y, -, h5⟩ := WF_openX (X := Nat × Nat) (Y := fun _ => True) (L := fun y => [ob t 8 (tkS y.1 y.2) (tkI m), arR G 5 y.1 6 (fun j => some (L (j : Int))), LF G M L m, LOG G y.2 m]) (hw _ _ h1) (fun d hd => by
    obtain ⟨al, lg, g⟩ := hd
    exact ⟨(al, lg), trivial, g⟩)
  exact K y.1 y.2 H locs ls c h5 h2 h3 h4
end Rules
theorem nInit_ok : NetOk 0 nInit := by
  have h := DOk_add (a0 := 0) (a1 := 10) (a2 := 2) (a3 := 8) (a4 := 1) (a5 := 0) DOk_Z (by decide) (by decide) (by decide) (by decide) (by decide) (by decide)
  have h1 := ldD_ok h.1 (by rw [h.2]; decide)
  have e : nAdd Zn 0 10 2 8 1 0 0 4 = 1 := rfl
  unfold ldD at h1
  rw [e] at h1
  exact h1

set_option maxHeartbeats 4000000 in
set_option maxRecDepth 100000 in
theorem law_loop {G : Gm} {X : Cx} {l : Launch} (hK : KG G) (hD : KD G) {b9 L9 : Nat} {xs : Nat → Int32} (hsc : SC G b9 L9 xs) {nmL : String} (C : OKc G X l RL nmL cL_law 8 (some .boolean) 15 5000 210000) (F : FIN G X 5000 210000 (fun _ : Unit => some (.int (zI 1))) (fun _ => True) (fun _ => [])) {e ip op t tr ps pa sl al lg : Nat} {M : Pool} {L : Int → Nat} : ∀ (f i : Nat) (n : Net) (J : Nat → Int) (N : Nat → Net), i ≤ 70 → 70 < i + f → NetOk (8000 + 8000 * (i : Int)) n → SOK n → 0 ≤ J 6 ∧ J 6 ≤ 6 → WX G X (391 + 64 * i) (74732 + 1900 * i) [ob e 9 (ecS ip op t tr ps pa sl) J, ob t 8 (tkS al lg) (tkI n), arR G 5 al 6 (fun j => some (L (j : Int))), LF G M L n, LOG G lg n, PS G M pa (J 6) N] 28 [some (.ref b9), some (.ref e), some (.int (zI (40 + 3 * (i : Int)))), none, none, none, none, none] [] := by
  have hS : KS G := hD.1
  intro f
  induction f with
  | zero => intro i n J N h0 h1 hN hs h6; exfalso; omega
  | succ f ih =>
    intro i n J N h0 h1 hN hs h6
    have hH := hN.1
    unfold HeadOk at hH
    refine x_iload_n C eL_law_28 rfl ?_
    refine x_iconst C eL_law_29 ?_
    refine x_iadd C eL_law_30 ?_
    refine x_sipush C eL_law_31 rfl ?_
    refine x_icmp_ge 163 C eL_law_34 rfl (by omega) (by omega) (fun h34 => ?_) (fun h34 => ?_)
    · refine x_iconst C eL_law_163 ?_
      exact x_iret rfl C F eL_law_164 () rfl trivial (fun cf c h => WF_pick [] rfl rfl h) (by omega) (by omega)
    · refine x_aload_n C eL_law_37 rfl ?_
      refine x_iload_n C eL_law_38 rfl ?_
      refine x_bipush C eL_law_39 rfl ?_
      refine yS3r [_, _, _, _, _, _] [_, _, _, _, _, _] C (z_draw hK hsc (by omega) (by omega)) v_L_draw vs_L_draw s_RL_40 eL_law_41 (fun _ _ h => WF_pick [0, 1, 2, 3, 4, 5] rfl rfl h) rfl (by first | exact nle rfl | omega) (by first | exact nle rfl | omega) (by first | exact nle rfl | omega) (by first | exact nle rfl | omega) rfl ?_
      obtain ⟨kd, hkd⟩ : ∃ kd, drw L9 xs (40 + 3 * (i : Int)) 24 = kd := ⟨_, rfl⟩
      have hkr := drw_r (L := L9) (xs := xs) (k := 40 + 3 * (i : Int)) (n := 24) (by decide)
      rw [hkd] at hkr ⊢
      refine x_istore_n [_, _, _, _, _, _, _, _] C eL_law_44 rfl rfl (nlt rfl) ?_
      refine x_aload_n C eL_law_45 rfl ?_
      refine x_iconst C eL_law_46 ?_
      refine yV1r [_] [_, _, _, _, _, _] C (s_X7_property hK hN (by omega) (by decide)) v_X7_property vv_X7_property s_RL_99 eL_law_47 (fun _ _ h => WF_pick [0, 1, 2, 3, 4, 5] rfl rfl h) (rcv 0 rfl) rfl (by first | exact nle rfl | omega) (by first | exact nle rfl | omega) (by first | exact nle rfl | omega) (by first | exact nle rfl | omega) rfl ?_
      rw [show propVal n 1 = zI (n (-1) 1) from rfl]
      refine x_istore [_, _, _, _, _, _, _, _] C eL_law_50 rfl rfl (nlt rfl) ?_
      refine x_aload_n C eL_law_52 rfl ?_
      refine x_iconst C eL_law_53 ?_
      refine yV1r [_] [_, _, _, _, _, _] C (s_X7_property hK hN (by omega) (by decide)) v_X7_property vv_X7_property s_RL_99 eL_law_54 (fun _ _ h => WF_pick [0, 1, 2, 3, 4, 5] rfl rfl h) (rcv 0 rfl) rfl (by first | exact nle rfl | omega) (by first | exact nle rfl | omega) (by first | exact nle rfl | omega) (by first | exact nle rfl | omega) rfl ?_
      rw [show propVal n 5 = zI (n (-1) 4) from rfl]
      refine x_istore [_, _, _, _, _, _, _, _] C eL_law_57 rfl rfl (nlt rfl) ?_
      refine x_aload_n C eL_law_59 rfl ?_
      refine x_aload_n C eL_law_60 rfl ?_
      refine x_iload_n C eL_law_61 rfl ?_
      refine yS3x [] C (z_act hK hN (by omega) h6 hS hs hsc (by omega)) v_L_act vs_L_act s_RL_187 eL_law_62 (fun _ _ h => WF_pick [0, 1, 2, 3, 4, 5] rfl rfl h) rfl (by first | exact nle rfl | omega) (by first | exact nle rfl | omega) (by first | exact nle rfl | omega) (by first | exact nle rfl | omega) (fun x62 hx62 => ?_)
      obtain ⟨hN2, hs2, h62, ha2, hb2, hc2⟩ := hx62
      rw [hkd] at ha2 hb2 hc2
      have hH2 := hN2.1
      unfold HeadOk at hH2
      refine x_istore [_, _, _, _, _, _, _, _] C eL_law_65 rfl rfl (nlt rfl) ?_
      refine x_aload_n C eL_law_67 rfl ?_
      refine yS1r [_] [_, _, _, _, _, _] C (z_stands hK hN2 (by omega) hs2) v_L_stands vs_L_stands s_RL_183 eL_law_68 (fun _ _ h => WF_pick [0, 1, 2, 3, 4, 5] rfl rfl h) rfl (by first | exact nle rfl | omega) (by first | exact nle rfl | omega) (by first | exact nle rfl | omega) (by first | exact nle rfl | omega) rfl ?_
      refine x_if_ne 76 C eL_law_71 rfl (by omega) (fun h71 => ?_) (fun h71 => ?_)
      · refine x_iload_n C eL_law_76 rfl ?_
        refine x_bipush C eL_law_77 rfl ?_
        refine x_icmp_le 88 C eL_law_79 rfl (by omega) (by omega) (fun h79 => ?_) (fun h79 => ?_)
        · refine x_iload_n C eL_law_88 rfl ?_
          refine x_bipush C eL_law_89 rfl ?_
          refine x_icmp_eq 110 C eL_law_91 rfl (by omega) (by omega) (fun h91 => ?_) (fun h91 => ?_)
          · refine x_iconst C eL_law_110 ?_
            refine x_goto (pc' := 115) C eL_law_111 rfl ?_
            refine x_istore [_, _, _, _, _, _, _, _] C eL_law_115 rfl rfl (nlt rfl) ?_
            refine x_iload C eL_law_117 rfl ?_
            refine x_aload_n C eL_law_119 rfl ?_
            refine x_iconst C eL_law_120 ?_
            refine yV1r [_] [_, _, _, _, _, _] C (s_X7_property hK hN2 (by omega) (by decide)) v_X7_property vv_X7_property s_RL_99 eL_law_121 (fun _ _ h => WF_pick [0, 1, 2, 3, 4, 5] rfl rfl h) (rcv 0 rfl) rfl (by first | exact nle rfl | omega) (by first | exact nle rfl | omega) (by first | exact nle rfl | omega) (by first | exact nle rfl | omega) rfl ?_
            rw [show propVal x62.2.1 1 = zI (x62.2.1 (-1) 1) from rfl]
            refine x_iload C eL_law_124 rfl ?_
            refine x_icmp_le 133 C eL_law_126 rfl (by omega) (by omega) (fun h126 => ?_) (fun h126 => ?_)
            · refine x_iconst C eL_law_133 ?_
              refine x_icmp_ne 155 C eL_law_134 rfl (by omega) (by omega) (fun h134 => ?_) (fun h134 => ?_)
              · exfalso; omega
              · refine x_iload C eL_law_137 rfl ?_
                refine x_if_eq 157 C eL_law_139 rfl (by omega) (fun h139 => ?_) (fun h139 => ?_)
                · refine x_iinc [_, _, _, _, _, _, _, _] C eL_law_157 rfl rfl rfl ?_
                  refine x_goto (pc' := 28) C eL_law_160 rfl ?_
                  refine x_lv [_, _, _, none, none, none, none, none] rfl (lx_drop _ [3, 4, 5, 6, 7] rfl) ?_
                  refine x_pick [_, _, _, _, _, _] [0, 1, 2, 3, 4, 5] rfl rfl ?_
                  rw [show (40 : Int) + 3 * (i : Int) + 3 = 40 + 3 * ((i + 1 : Nat) : Int) by omega]
                  refine x_widen (k' := 391 + 64 * (i + 1)) (n' := 74732 + 1900 * (i + 1)) (by omega) (by omega) ?_
                  exact ih (i + 1) _ _ _ (by omega) (by omega) (NetOk_mono hN2 (by omega)) hs2 h62
                · refine x_iload C eL_law_142 rfl ?_
                  refine x_aload_n C eL_law_144 rfl ?_
                  refine x_iconst C eL_law_145 ?_
                  refine yV1r [_] [_, _, _, _, _, _] C (s_X7_property hK hN2 (by omega) (by decide)) v_X7_property vv_X7_property s_RL_99 eL_law_146 (fun _ _ h => WF_pick [0, 1, 2, 3, 4, 5] rfl rfl h) (rcv 0 rfl) rfl (by first | exact nle rfl | omega) (by first | exact nle rfl | omega) (by first | exact nle rfl | omega) (by first | exact nle rfl | omega) rfl ?_
                  rw [show propVal x62.2.1 5 = zI (x62.2.1 (-1) 4) from rfl]
                  refine x_iload C eL_law_149 rfl ?_
                  refine x_isub C eL_law_151 ?_
                  refine x_icmp_eq 157 C eL_law_152 rfl (by omega) (by omega) (fun h152 => ?_) (fun h152 => ?_)
                  · refine x_iinc [_, _, _, _, _, _, _, _] C eL_law_157 rfl rfl rfl ?_
                    refine x_goto (pc' := 28) C eL_law_160 rfl ?_
                    refine x_lv [_, _, _, none, none, none, none, none] rfl (lx_drop _ [3, 4, 5, 6, 7] rfl) ?_
                    refine x_pick [_, _, _, _, _, _] [0, 1, 2, 3, 4, 5] rfl rfl ?_
                    rw [show (40 : Int) + 3 * (i : Int) + 3 = 40 + 3 * ((i + 1 : Nat) : Int) by omega]
                    refine x_widen (k' := 391 + 64 * (i + 1)) (n' := 74732 + 1900 * (i + 1)) (by omega) (by omega) ?_
                    exact ih (i + 1) _ _ _ (by omega) (by omega) (NetOk_mono hN2 (by omega)) hs2 h62
                  · exfalso; omega
            · refine x_iconst C eL_law_129 ?_
              refine x_goto (pc' := 134) C eL_law_130 rfl ?_
              refine x_icmp_ne 155 C eL_law_134 rfl (by omega) (by omega) (fun h134 => ?_) (fun h134 => ?_)
              · exfalso; omega
              · refine x_iload C eL_law_137 rfl ?_
                refine x_if_eq 157 C eL_law_139 rfl (by omega) (fun h139 => ?_) (fun h139 => ?_)
                · refine x_iinc [_, _, _, _, _, _, _, _] C eL_law_157 rfl rfl rfl ?_
                  refine x_goto (pc' := 28) C eL_law_160 rfl ?_
                  refine x_lv [_, _, _, none, none, none, none, none] rfl (lx_drop _ [3, 4, 5, 6, 7] rfl) ?_
                  refine x_pick [_, _, _, _, _, _] [0, 1, 2, 3, 4, 5] rfl rfl ?_
                  rw [show (40 : Int) + 3 * (i : Int) + 3 = 40 + 3 * ((i + 1 : Nat) : Int) by omega]
                  refine x_widen (k' := 391 + 64 * (i + 1)) (n' := 74732 + 1900 * (i + 1)) (by omega) (by omega) ?_
                  exact ih (i + 1) _ _ _ (by omega) (by omega) (NetOk_mono hN2 (by omega)) hs2 h62
                · refine x_iload C eL_law_142 rfl ?_
                  refine x_aload_n C eL_law_144 rfl ?_
                  refine x_iconst C eL_law_145 ?_
                  refine yV1r [_] [_, _, _, _, _, _] C (s_X7_property hK hN2 (by omega) (by decide)) v_X7_property vv_X7_property s_RL_99 eL_law_146 (fun _ _ h => WF_pick [0, 1, 2, 3, 4, 5] rfl rfl h) (rcv 0 rfl) rfl (by first | exact nle rfl | omega) (by first | exact nle rfl | omega) (by first | exact nle rfl | omega) (by first | exact nle rfl | omega) rfl ?_
                  rw [show propVal x62.2.1 5 = zI (x62.2.1 (-1) 4) from rfl]
                  refine x_iload C eL_law_149 rfl ?_
                  refine x_isub C eL_law_151 ?_
                  refine x_icmp_eq 157 C eL_law_152 rfl (by omega) (by omega) (fun h152 => ?_) (fun h152 => ?_)
                  · refine x_iinc [_, _, _, _, _, _, _, _] C eL_law_157 rfl rfl rfl ?_
                    refine x_goto (pc' := 28) C eL_law_160 rfl ?_
                    refine x_lv [_, _, _, none, none, none, none, none] rfl (lx_drop _ [3, 4, 5, 6, 7] rfl) ?_
                    refine x_pick [_, _, _, _, _, _] [0, 1, 2, 3, 4, 5] rfl rfl ?_
                    rw [show (40 : Int) + 3 * (i : Int) + 3 = 40 + 3 * ((i + 1 : Nat) : Int) by omega]
                    refine x_widen (k' := 391 + 64 * (i + 1)) (n' := 74732 + 1900 * (i + 1)) (by omega) (by omega) ?_
                    exact ih (i + 1) _ _ _ (by omega) (by omega) (NetOk_mono hN2 (by omega)) hs2 h62
                  · exfalso; omega
          · refine x_iload_n C eL_law_94 rfl ?_
            refine x_bipush C eL_law_95 rfl ?_
            refine x_icmp_ne 114 C eL_law_97 rfl (by omega) (by omega) (fun h97 => ?_) (fun h97 => ?_)
            · refine x_iconst C eL_law_114 ?_
              refine x_istore [_, _, _, _, _, _, _, _] C eL_law_115 rfl rfl (nlt rfl) ?_
              refine x_iload C eL_law_117 rfl ?_
              refine x_aload_n C eL_law_119 rfl ?_
              refine x_iconst C eL_law_120 ?_
              refine yV1r [_] [_, _, _, _, _, _] C (s_X7_property hK hN2 (by omega) (by decide)) v_X7_property vv_X7_property s_RL_99 eL_law_121 (fun _ _ h => WF_pick [0, 1, 2, 3, 4, 5] rfl rfl h) (rcv 0 rfl) rfl (by first | exact nle rfl | omega) (by first | exact nle rfl | omega) (by first | exact nle rfl | omega) (by first | exact nle rfl | omega) rfl ?_
              rw [show propVal x62.2.1 1 = zI (x62.2.1 (-1) 1) from rfl]
              refine x_iload C eL_law_124 rfl ?_
              refine x_icmp_le 133 C eL_law_126 rfl (by omega) (by omega) (fun h126 => ?_) (fun h126 => ?_)
              · refine x_iconst C eL_law_133 ?_
                refine x_icmp_ne 155 C eL_law_134 rfl (by omega) (by omega) (fun h134 => ?_) (fun h134 => ?_)
                · exfalso; omega
                · refine x_iload C eL_law_137 rfl ?_
                  refine x_if_eq 157 C eL_law_139 rfl (by omega) (fun h139 => ?_) (fun h139 => ?_)
                  · refine x_iinc [_, _, _, _, _, _, _, _] C eL_law_157 rfl rfl rfl ?_
                    refine x_goto (pc' := 28) C eL_law_160 rfl ?_
                    refine x_lv [_, _, _, none, none, none, none, none] rfl (lx_drop _ [3, 4, 5, 6, 7] rfl) ?_
                    refine x_pick [_, _, _, _, _, _] [0, 1, 2, 3, 4, 5] rfl rfl ?_
                    rw [show (40 : Int) + 3 * (i : Int) + 3 = 40 + 3 * ((i + 1 : Nat) : Int) by omega]
                    refine x_widen (k' := 391 + 64 * (i + 1)) (n' := 74732 + 1900 * (i + 1)) (by omega) (by omega) ?_
                    exact ih (i + 1) _ _ _ (by omega) (by omega) (NetOk_mono hN2 (by omega)) hs2 h62
                  · refine x_iload C eL_law_142 rfl ?_
                    refine x_aload_n C eL_law_144 rfl ?_
                    refine x_iconst C eL_law_145 ?_
                    refine yV1r [_] [_, _, _, _, _, _] C (s_X7_property hK hN2 (by omega) (by decide)) v_X7_property vv_X7_property s_RL_99 eL_law_146 (fun _ _ h => WF_pick [0, 1, 2, 3, 4, 5] rfl rfl h) (rcv 0 rfl) rfl (by first | exact nle rfl | omega) (by first | exact nle rfl | omega) (by first | exact nle rfl | omega) (by first | exact nle rfl | omega) rfl ?_
                    rw [show propVal x62.2.1 5 = zI (x62.2.1 (-1) 4) from rfl]
                    refine x_iload C eL_law_149 rfl ?_
                    refine x_isub C eL_law_151 ?_
                    refine x_icmp_eq 157 C eL_law_152 rfl (by omega) (by omega) (fun h152 => ?_) (fun h152 => ?_)
                    · refine x_iinc [_, _, _, _, _, _, _, _] C eL_law_157 rfl rfl rfl ?_
                      refine x_goto (pc' := 28) C eL_law_160 rfl ?_
                      refine x_lv [_, _, _, none, none, none, none, none] rfl (lx_drop _ [3, 4, 5, 6, 7] rfl) ?_
                      refine x_pick [_, _, _, _, _, _] [0, 1, 2, 3, 4, 5] rfl rfl ?_
                      rw [show (40 : Int) + 3 * (i : Int) + 3 = 40 + 3 * ((i + 1 : Nat) : Int) by omega]
                      refine x_widen (k' := 391 + 64 * (i + 1)) (n' := 74732 + 1900 * (i + 1)) (by omega) (by omega) ?_
                      exact ih (i + 1) _ _ _ (by omega) (by omega) (NetOk_mono hN2 (by omega)) hs2 h62
                    · exfalso; omega
              · refine x_iconst C eL_law_129 ?_
                refine x_goto (pc' := 134) C eL_law_130 rfl ?_
                refine x_icmp_ne 155 C eL_law_134 rfl (by omega) (by omega) (fun h134 => ?_) (fun h134 => ?_)
                · exfalso; omega
                · refine x_iload C eL_law_137 rfl ?_
                  refine x_if_eq 157 C eL_law_139 rfl (by omega) (fun h139 => ?_) (fun h139 => ?_)
                  · refine x_iinc [_, _, _, _, _, _, _, _] C eL_law_157 rfl rfl rfl ?_
                    refine x_goto (pc' := 28) C eL_law_160 rfl ?_
                    refine x_lv [_, _, _, none, none, none, none, none] rfl (lx_drop _ [3, 4, 5, 6, 7] rfl) ?_
                    refine x_pick [_, _, _, _, _, _] [0, 1, 2, 3, 4, 5] rfl rfl ?_
                    rw [show (40 : Int) + 3 * (i : Int) + 3 = 40 + 3 * ((i + 1 : Nat) : Int) by omega]
                    refine x_widen (k' := 391 + 64 * (i + 1)) (n' := 74732 + 1900 * (i + 1)) (by omega) (by omega) ?_
                    exact ih (i + 1) _ _ _ (by omega) (by omega) (NetOk_mono hN2 (by omega)) hs2 h62
                  · refine x_iload C eL_law_142 rfl ?_
                    refine x_aload_n C eL_law_144 rfl ?_
                    refine x_iconst C eL_law_145 ?_
                    refine yV1r [_] [_, _, _, _, _, _] C (s_X7_property hK hN2 (by omega) (by decide)) v_X7_property vv_X7_property s_RL_99 eL_law_146 (fun _ _ h => WF_pick [0, 1, 2, 3, 4, 5] rfl rfl h) (rcv 0 rfl) rfl (by first | exact nle rfl | omega) (by first | exact nle rfl | omega) (by first | exact nle rfl | omega) (by first | exact nle rfl | omega) rfl ?_
                    rw [show propVal x62.2.1 5 = zI (x62.2.1 (-1) 4) from rfl]
                    refine x_iload C eL_law_149 rfl ?_
                    refine x_isub C eL_law_151 ?_
                    refine x_icmp_eq 157 C eL_law_152 rfl (by omega) (by omega) (fun h152 => ?_) (fun h152 => ?_)
                    · refine x_iinc [_, _, _, _, _, _, _, _] C eL_law_157 rfl rfl rfl ?_
                      refine x_goto (pc' := 28) C eL_law_160 rfl ?_
                      refine x_lv [_, _, _, none, none, none, none, none] rfl (lx_drop _ [3, 4, 5, 6, 7] rfl) ?_
                      refine x_pick [_, _, _, _, _, _] [0, 1, 2, 3, 4, 5] rfl rfl ?_
                      rw [show (40 : Int) + 3 * (i : Int) + 3 = 40 + 3 * ((i + 1 : Nat) : Int) by omega]
                      refine x_widen (k' := 391 + 64 * (i + 1)) (n' := 74732 + 1900 * (i + 1)) (by omega) (by omega) ?_
                      exact ih (i + 1) _ _ _ (by omega) (by omega) (NetOk_mono hN2 (by omega)) hs2 h62
                    · exfalso; omega
            · refine x_aload_n C eL_law_100 rfl ?_
              refine x_iconst C eL_law_101 ?_
              refine yV1r [_] [_, _, _, _, _, _] C (s_X7_property hK hN2 (by omega) (by decide)) v_X7_property vv_X7_property s_RL_99 eL_law_102 (fun _ _ h => WF_pick [0, 1, 2, 3, 4, 5] rfl rfl h) (rcv 0 rfl) rfl (by first | exact nle rfl | omega) (by first | exact nle rfl | omega) (by first | exact nle rfl | omega) (by first | exact nle rfl | omega) rfl ?_
              rw [show propVal x62.2.1 1 = zI (x62.2.1 (-1) 1) from rfl]
              refine x_iload C eL_law_105 rfl ?_
              refine x_icmp_le 114 C eL_law_107 rfl (by omega) (by omega) (fun h107 => ?_) (fun h107 => ?_)
              · refine x_iconst C eL_law_114 ?_
                refine x_istore [_, _, _, _, _, _, _, _] C eL_law_115 rfl rfl (nlt rfl) ?_
                refine x_iload C eL_law_117 rfl ?_
                refine x_aload_n C eL_law_119 rfl ?_
                refine x_iconst C eL_law_120 ?_
                refine yV1r [_] [_, _, _, _, _, _] C (s_X7_property hK hN2 (by omega) (by decide)) v_X7_property vv_X7_property s_RL_99 eL_law_121 (fun _ _ h => WF_pick [0, 1, 2, 3, 4, 5] rfl rfl h) (rcv 0 rfl) rfl (by first | exact nle rfl | omega) (by first | exact nle rfl | omega) (by first | exact nle rfl | omega) (by first | exact nle rfl | omega) rfl ?_
                rw [show propVal x62.2.1 1 = zI (x62.2.1 (-1) 1) from rfl]
                refine x_iload C eL_law_124 rfl ?_
                refine x_icmp_le 133 C eL_law_126 rfl (by omega) (by omega) (fun h126 => ?_) (fun h126 => ?_)
                · refine x_iconst C eL_law_133 ?_
                  refine x_icmp_ne 155 C eL_law_134 rfl (by omega) (by omega) (fun h134 => ?_) (fun h134 => ?_)
                  · exfalso; omega
                  · refine x_iload C eL_law_137 rfl ?_
                    refine x_if_eq 157 C eL_law_139 rfl (by omega) (fun h139 => ?_) (fun h139 => ?_)
                    · refine x_iinc [_, _, _, _, _, _, _, _] C eL_law_157 rfl rfl rfl ?_
                      refine x_goto (pc' := 28) C eL_law_160 rfl ?_
                      refine x_lv [_, _, _, none, none, none, none, none] rfl (lx_drop _ [3, 4, 5, 6, 7] rfl) ?_
                      refine x_pick [_, _, _, _, _, _] [0, 1, 2, 3, 4, 5] rfl rfl ?_
                      rw [show (40 : Int) + 3 * (i : Int) + 3 = 40 + 3 * ((i + 1 : Nat) : Int) by omega]
                      refine x_widen (k' := 391 + 64 * (i + 1)) (n' := 74732 + 1900 * (i + 1)) (by omega) (by omega) ?_
                      exact ih (i + 1) _ _ _ (by omega) (by omega) (NetOk_mono hN2 (by omega)) hs2 h62
                    · refine x_iload C eL_law_142 rfl ?_
                      refine x_aload_n C eL_law_144 rfl ?_
                      refine x_iconst C eL_law_145 ?_
                      refine yV1r [_] [_, _, _, _, _, _] C (s_X7_property hK hN2 (by omega) (by decide)) v_X7_property vv_X7_property s_RL_99 eL_law_146 (fun _ _ h => WF_pick [0, 1, 2, 3, 4, 5] rfl rfl h) (rcv 0 rfl) rfl (by first | exact nle rfl | omega) (by first | exact nle rfl | omega) (by first | exact nle rfl | omega) (by first | exact nle rfl | omega) rfl ?_
                      rw [show propVal x62.2.1 5 = zI (x62.2.1 (-1) 4) from rfl]
                      refine x_iload C eL_law_149 rfl ?_
                      refine x_isub C eL_law_151 ?_
                      refine x_icmp_eq 157 C eL_law_152 rfl (by omega) (by omega) (fun h152 => ?_) (fun h152 => ?_)
                      · refine x_iinc [_, _, _, _, _, _, _, _] C eL_law_157 rfl rfl rfl ?_
                        refine x_goto (pc' := 28) C eL_law_160 rfl ?_
                        refine x_lv [_, _, _, none, none, none, none, none] rfl (lx_drop _ [3, 4, 5, 6, 7] rfl) ?_
                        refine x_pick [_, _, _, _, _, _] [0, 1, 2, 3, 4, 5] rfl rfl ?_
                        rw [show (40 : Int) + 3 * (i : Int) + 3 = 40 + 3 * ((i + 1 : Nat) : Int) by omega]
                        refine x_widen (k' := 391 + 64 * (i + 1)) (n' := 74732 + 1900 * (i + 1)) (by omega) (by omega) ?_
                        exact ih (i + 1) _ _ _ (by omega) (by omega) (NetOk_mono hN2 (by omega)) hs2 h62
                      · exfalso; omega
                · refine x_iconst C eL_law_129 ?_
                  refine x_goto (pc' := 134) C eL_law_130 rfl ?_
                  refine x_icmp_ne 155 C eL_law_134 rfl (by omega) (by omega) (fun h134 => ?_) (fun h134 => ?_)
                  · exfalso; omega
                  · refine x_iload C eL_law_137 rfl ?_
                    refine x_if_eq 157 C eL_law_139 rfl (by omega) (fun h139 => ?_) (fun h139 => ?_)
                    · refine x_iinc [_, _, _, _, _, _, _, _] C eL_law_157 rfl rfl rfl ?_
                      refine x_goto (pc' := 28) C eL_law_160 rfl ?_
                      refine x_lv [_, _, _, none, none, none, none, none] rfl (lx_drop _ [3, 4, 5, 6, 7] rfl) ?_
                      refine x_pick [_, _, _, _, _, _] [0, 1, 2, 3, 4, 5] rfl rfl ?_
                      rw [show (40 : Int) + 3 * (i : Int) + 3 = 40 + 3 * ((i + 1 : Nat) : Int) by omega]
                      refine x_widen (k' := 391 + 64 * (i + 1)) (n' := 74732 + 1900 * (i + 1)) (by omega) (by omega) ?_
                      exact ih (i + 1) _ _ _ (by omega) (by omega) (NetOk_mono hN2 (by omega)) hs2 h62
                    · refine x_iload C eL_law_142 rfl ?_
                      refine x_aload_n C eL_law_144 rfl ?_
                      refine x_iconst C eL_law_145 ?_
                      refine yV1r [_] [_, _, _, _, _, _] C (s_X7_property hK hN2 (by omega) (by decide)) v_X7_property vv_X7_property s_RL_99 eL_law_146 (fun _ _ h => WF_pick [0, 1, 2, 3, 4, 5] rfl rfl h) (rcv 0 rfl) rfl (by first | exact nle rfl | omega) (by first | exact nle rfl | omega) (by first | exact nle rfl | omega) (by first | exact nle rfl | omega) rfl ?_
                      rw [show propVal x62.2.1 5 = zI (x62.2.1 (-1) 4) from rfl]
                      refine x_iload C eL_law_149 rfl ?_
                      refine x_isub C eL_law_151 ?_
                      refine x_icmp_eq 157 C eL_law_152 rfl (by omega) (by omega) (fun h152 => ?_) (fun h152 => ?_)
                      · refine x_iinc [_, _, _, _, _, _, _, _] C eL_law_157 rfl rfl rfl ?_
                        refine x_goto (pc' := 28) C eL_law_160 rfl ?_
                        refine x_lv [_, _, _, none, none, none, none, none] rfl (lx_drop _ [3, 4, 5, 6, 7] rfl) ?_
                        refine x_pick [_, _, _, _, _, _] [0, 1, 2, 3, 4, 5] rfl rfl ?_
                        rw [show (40 : Int) + 3 * (i : Int) + 3 = 40 + 3 * ((i + 1 : Nat) : Int) by omega]
                        refine x_widen (k' := 391 + 64 * (i + 1)) (n' := 74732 + 1900 * (i + 1)) (by omega) (by omega) ?_
                        exact ih (i + 1) _ _ _ (by omega) (by omega) (NetOk_mono hN2 (by omega)) hs2 h62
                      · exfalso; omega
              · refine x_iconst C eL_law_110 ?_
                refine x_goto (pc' := 115) C eL_law_111 rfl ?_
                refine x_istore [_, _, _, _, _, _, _, _] C eL_law_115 rfl rfl (nlt rfl) ?_
                refine x_iload C eL_law_117 rfl ?_
                refine x_aload_n C eL_law_119 rfl ?_
                refine x_iconst C eL_law_120 ?_
                refine yV1r [_] [_, _, _, _, _, _] C (s_X7_property hK hN2 (by omega) (by decide)) v_X7_property vv_X7_property s_RL_99 eL_law_121 (fun _ _ h => WF_pick [0, 1, 2, 3, 4, 5] rfl rfl h) (rcv 0 rfl) rfl (by first | exact nle rfl | omega) (by first | exact nle rfl | omega) (by first | exact nle rfl | omega) (by first | exact nle rfl | omega) rfl ?_
                rw [show propVal x62.2.1 1 = zI (x62.2.1 (-1) 1) from rfl]
                refine x_iload C eL_law_124 rfl ?_
                refine x_icmp_le 133 C eL_law_126 rfl (by omega) (by omega) (fun h126 => ?_) (fun h126 => ?_)
                · refine x_iconst C eL_law_133 ?_
                  refine x_icmp_ne 155 C eL_law_134 rfl (by omega) (by omega) (fun h134 => ?_) (fun h134 => ?_)
                  · exfalso; omega
                  · refine x_iload C eL_law_137 rfl ?_
                    refine x_if_eq 157 C eL_law_139 rfl (by omega) (fun h139 => ?_) (fun h139 => ?_)
                    · refine x_iinc [_, _, _, _, _, _, _, _] C eL_law_157 rfl rfl rfl ?_
                      refine x_goto (pc' := 28) C eL_law_160 rfl ?_
                      refine x_lv [_, _, _, none, none, none, none, none] rfl (lx_drop _ [3, 4, 5, 6, 7] rfl) ?_
                      refine x_pick [_, _, _, _, _, _] [0, 1, 2, 3, 4, 5] rfl rfl ?_
                      rw [show (40 : Int) + 3 * (i : Int) + 3 = 40 + 3 * ((i + 1 : Nat) : Int) by omega]
                      refine x_widen (k' := 391 + 64 * (i + 1)) (n' := 74732 + 1900 * (i + 1)) (by omega) (by omega) ?_
                      exact ih (i + 1) _ _ _ (by omega) (by omega) (NetOk_mono hN2 (by omega)) hs2 h62
                    · refine x_iload C eL_law_142 rfl ?_
                      refine x_aload_n C eL_law_144 rfl ?_
                      refine x_iconst C eL_law_145 ?_
                      refine yV1r [_] [_, _, _, _, _, _] C (s_X7_property hK hN2 (by omega) (by decide)) v_X7_property vv_X7_property s_RL_99 eL_law_146 (fun _ _ h => WF_pick [0, 1, 2, 3, 4, 5] rfl rfl h) (rcv 0 rfl) rfl (by first | exact nle rfl | omega) (by first | exact nle rfl | omega) (by first | exact nle rfl | omega) (by first | exact nle rfl | omega) rfl ?_
                      rw [show propVal x62.2.1 5 = zI (x62.2.1 (-1) 4) from rfl]
                      refine x_iload C eL_law_149 rfl ?_
                      refine x_isub C eL_law_151 ?_
                      refine x_icmp_eq 157 C eL_law_152 rfl (by omega) (by omega) (fun h152 => ?_) (fun h152 => ?_)
                      · refine x_iinc [_, _, _, _, _, _, _, _] C eL_law_157 rfl rfl rfl ?_
                        refine x_goto (pc' := 28) C eL_law_160 rfl ?_
                        refine x_lv [_, _, _, none, none, none, none, none] rfl (lx_drop _ [3, 4, 5, 6, 7] rfl) ?_
                        refine x_pick [_, _, _, _, _, _] [0, 1, 2, 3, 4, 5] rfl rfl ?_
                        rw [show (40 : Int) + 3 * (i : Int) + 3 = 40 + 3 * ((i + 1 : Nat) : Int) by omega]
                        refine x_widen (k' := 391 + 64 * (i + 1)) (n' := 74732 + 1900 * (i + 1)) (by omega) (by omega) ?_
                        exact ih (i + 1) _ _ _ (by omega) (by omega) (NetOk_mono hN2 (by omega)) hs2 h62
                      · exfalso; omega
                · refine x_iconst C eL_law_129 ?_
                  refine x_goto (pc' := 134) C eL_law_130 rfl ?_
                  refine x_icmp_ne 155 C eL_law_134 rfl (by omega) (by omega) (fun h134 => ?_) (fun h134 => ?_)
                  · exfalso; omega
                  · refine x_iload C eL_law_137 rfl ?_
                    refine x_if_eq 157 C eL_law_139 rfl (by omega) (fun h139 => ?_) (fun h139 => ?_)
                    · refine x_iinc [_, _, _, _, _, _, _, _] C eL_law_157 rfl rfl rfl ?_
                      refine x_goto (pc' := 28) C eL_law_160 rfl ?_
                      refine x_lv [_, _, _, none, none, none, none, none] rfl (lx_drop _ [3, 4, 5, 6, 7] rfl) ?_
                      refine x_pick [_, _, _, _, _, _] [0, 1, 2, 3, 4, 5] rfl rfl ?_
                      rw [show (40 : Int) + 3 * (i : Int) + 3 = 40 + 3 * ((i + 1 : Nat) : Int) by omega]
                      refine x_widen (k' := 391 + 64 * (i + 1)) (n' := 74732 + 1900 * (i + 1)) (by omega) (by omega) ?_
                      exact ih (i + 1) _ _ _ (by omega) (by omega) (NetOk_mono hN2 (by omega)) hs2 h62
                    · refine x_iload C eL_law_142 rfl ?_
                      refine x_aload_n C eL_law_144 rfl ?_
                      refine x_iconst C eL_law_145 ?_
                      refine yV1r [_] [_, _, _, _, _, _] C (s_X7_property hK hN2 (by omega) (by decide)) v_X7_property vv_X7_property s_RL_99 eL_law_146 (fun _ _ h => WF_pick [0, 1, 2, 3, 4, 5] rfl rfl h) (rcv 0 rfl) rfl (by first | exact nle rfl | omega) (by first | exact nle rfl | omega) (by first | exact nle rfl | omega) (by first | exact nle rfl | omega) rfl ?_
                      rw [show propVal x62.2.1 5 = zI (x62.2.1 (-1) 4) from rfl]
                      refine x_iload C eL_law_149 rfl ?_
                      refine x_isub C eL_law_151 ?_
                      refine x_icmp_eq 157 C eL_law_152 rfl (by omega) (by omega) (fun h152 => ?_) (fun h152 => ?_)
                      · refine x_iinc [_, _, _, _, _, _, _, _] C eL_law_157 rfl rfl rfl ?_
                        refine x_goto (pc' := 28) C eL_law_160 rfl ?_
                        refine x_lv [_, _, _, none, none, none, none, none] rfl (lx_drop _ [3, 4, 5, 6, 7] rfl) ?_
                        refine x_pick [_, _, _, _, _, _] [0, 1, 2, 3, 4, 5] rfl rfl ?_
                        rw [show (40 : Int) + 3 * (i : Int) + 3 = 40 + 3 * ((i + 1 : Nat) : Int) by omega]
                        refine x_widen (k' := 391 + 64 * (i + 1)) (n' := 74732 + 1900 * (i + 1)) (by omega) (by omega) ?_
                        exact ih (i + 1) _ _ _ (by omega) (by omega) (NetOk_mono hN2 (by omega)) hs2 h62
                      · exfalso; omega
        · refine x_iload_n C eL_law_82 rfl ?_
          refine x_bipush C eL_law_83 rfl ?_
          refine x_icmp_lt 110 C eL_law_85 rfl (by omega) (by omega) (fun h85 => ?_) (fun h85 => ?_)
          · refine x_iconst C eL_law_110 ?_
            refine x_goto (pc' := 115) C eL_law_111 rfl ?_
            refine x_istore [_, _, _, _, _, _, _, _] C eL_law_115 rfl rfl (nlt rfl) ?_
            refine x_iload C eL_law_117 rfl ?_
            refine x_aload_n C eL_law_119 rfl ?_
            refine x_iconst C eL_law_120 ?_
            refine yV1r [_] [_, _, _, _, _, _] C (s_X7_property hK hN2 (by omega) (by decide)) v_X7_property vv_X7_property s_RL_99 eL_law_121 (fun _ _ h => WF_pick [0, 1, 2, 3, 4, 5] rfl rfl h) (rcv 0 rfl) rfl (by first | exact nle rfl | omega) (by first | exact nle rfl | omega) (by first | exact nle rfl | omega) (by first | exact nle rfl | omega) rfl ?_
            rw [show propVal x62.2.1 1 = zI (x62.2.1 (-1) 1) from rfl]
            refine x_iload C eL_law_124 rfl ?_
            refine x_icmp_le 133 C eL_law_126 rfl (by omega) (by omega) (fun h126 => ?_) (fun h126 => ?_)
            · refine x_iconst C eL_law_133 ?_
              refine x_icmp_ne 155 C eL_law_134 rfl (by omega) (by omega) (fun h134 => ?_) (fun h134 => ?_)
              · exfalso; omega
              · refine x_iload C eL_law_137 rfl ?_
                refine x_if_eq 157 C eL_law_139 rfl (by omega) (fun h139 => ?_) (fun h139 => ?_)
                · refine x_iinc [_, _, _, _, _, _, _, _] C eL_law_157 rfl rfl rfl ?_
                  refine x_goto (pc' := 28) C eL_law_160 rfl ?_
                  refine x_lv [_, _, _, none, none, none, none, none] rfl (lx_drop _ [3, 4, 5, 6, 7] rfl) ?_
                  refine x_pick [_, _, _, _, _, _] [0, 1, 2, 3, 4, 5] rfl rfl ?_
                  rw [show (40 : Int) + 3 * (i : Int) + 3 = 40 + 3 * ((i + 1 : Nat) : Int) by omega]
                  refine x_widen (k' := 391 + 64 * (i + 1)) (n' := 74732 + 1900 * (i + 1)) (by omega) (by omega) ?_
                  exact ih (i + 1) _ _ _ (by omega) (by omega) (NetOk_mono hN2 (by omega)) hs2 h62
                · refine x_iload C eL_law_142 rfl ?_
                  refine x_aload_n C eL_law_144 rfl ?_
                  refine x_iconst C eL_law_145 ?_
                  refine yV1r [_] [_, _, _, _, _, _] C (s_X7_property hK hN2 (by omega) (by decide)) v_X7_property vv_X7_property s_RL_99 eL_law_146 (fun _ _ h => WF_pick [0, 1, 2, 3, 4, 5] rfl rfl h) (rcv 0 rfl) rfl (by first | exact nle rfl | omega) (by first | exact nle rfl | omega) (by first | exact nle rfl | omega) (by first | exact nle rfl | omega) rfl ?_
                  rw [show propVal x62.2.1 5 = zI (x62.2.1 (-1) 4) from rfl]
                  refine x_iload C eL_law_149 rfl ?_
                  refine x_isub C eL_law_151 ?_
                  refine x_icmp_eq 157 C eL_law_152 rfl (by omega) (by omega) (fun h152 => ?_) (fun h152 => ?_)
                  · refine x_iinc [_, _, _, _, _, _, _, _] C eL_law_157 rfl rfl rfl ?_
                    refine x_goto (pc' := 28) C eL_law_160 rfl ?_
                    refine x_lv [_, _, _, none, none, none, none, none] rfl (lx_drop _ [3, 4, 5, 6, 7] rfl) ?_
                    refine x_pick [_, _, _, _, _, _] [0, 1, 2, 3, 4, 5] rfl rfl ?_
                    rw [show (40 : Int) + 3 * (i : Int) + 3 = 40 + 3 * ((i + 1 : Nat) : Int) by omega]
                    refine x_widen (k' := 391 + 64 * (i + 1)) (n' := 74732 + 1900 * (i + 1)) (by omega) (by omega) ?_
                    exact ih (i + 1) _ _ _ (by omega) (by omega) (NetOk_mono hN2 (by omega)) hs2 h62
                  · exfalso; omega
            · refine x_iconst C eL_law_129 ?_
              refine x_goto (pc' := 134) C eL_law_130 rfl ?_
              refine x_icmp_ne 155 C eL_law_134 rfl (by omega) (by omega) (fun h134 => ?_) (fun h134 => ?_)
              · exfalso; omega
              · refine x_iload C eL_law_137 rfl ?_
                refine x_if_eq 157 C eL_law_139 rfl (by omega) (fun h139 => ?_) (fun h139 => ?_)
                · refine x_iinc [_, _, _, _, _, _, _, _] C eL_law_157 rfl rfl rfl ?_
                  refine x_goto (pc' := 28) C eL_law_160 rfl ?_
                  refine x_lv [_, _, _, none, none, none, none, none] rfl (lx_drop _ [3, 4, 5, 6, 7] rfl) ?_
                  refine x_pick [_, _, _, _, _, _] [0, 1, 2, 3, 4, 5] rfl rfl ?_
                  rw [show (40 : Int) + 3 * (i : Int) + 3 = 40 + 3 * ((i + 1 : Nat) : Int) by omega]
                  refine x_widen (k' := 391 + 64 * (i + 1)) (n' := 74732 + 1900 * (i + 1)) (by omega) (by omega) ?_
                  exact ih (i + 1) _ _ _ (by omega) (by omega) (NetOk_mono hN2 (by omega)) hs2 h62
                · refine x_iload C eL_law_142 rfl ?_
                  refine x_aload_n C eL_law_144 rfl ?_
                  refine x_iconst C eL_law_145 ?_
                  refine yV1r [_] [_, _, _, _, _, _] C (s_X7_property hK hN2 (by omega) (by decide)) v_X7_property vv_X7_property s_RL_99 eL_law_146 (fun _ _ h => WF_pick [0, 1, 2, 3, 4, 5] rfl rfl h) (rcv 0 rfl) rfl (by first | exact nle rfl | omega) (by first | exact nle rfl | omega) (by first | exact nle rfl | omega) (by first | exact nle rfl | omega) rfl ?_
                  rw [show propVal x62.2.1 5 = zI (x62.2.1 (-1) 4) from rfl]
                  refine x_iload C eL_law_149 rfl ?_
                  refine x_isub C eL_law_151 ?_
                  refine x_icmp_eq 157 C eL_law_152 rfl (by omega) (by omega) (fun h152 => ?_) (fun h152 => ?_)
                  · refine x_iinc [_, _, _, _, _, _, _, _] C eL_law_157 rfl rfl rfl ?_
                    refine x_goto (pc' := 28) C eL_law_160 rfl ?_
                    refine x_lv [_, _, _, none, none, none, none, none] rfl (lx_drop _ [3, 4, 5, 6, 7] rfl) ?_
                    refine x_pick [_, _, _, _, _, _] [0, 1, 2, 3, 4, 5] rfl rfl ?_
                    rw [show (40 : Int) + 3 * (i : Int) + 3 = 40 + 3 * ((i + 1 : Nat) : Int) by omega]
                    refine x_widen (k' := 391 + 64 * (i + 1)) (n' := 74732 + 1900 * (i + 1)) (by omega) (by omega) ?_
                    exact ih (i + 1) _ _ _ (by omega) (by omega) (NetOk_mono hN2 (by omega)) hs2 h62
                  · exfalso; omega
          · refine x_iload_n C eL_law_88 rfl ?_
            refine x_bipush C eL_law_89 rfl ?_
            refine x_icmp_eq 110 C eL_law_91 rfl (by omega) (by omega) (fun h91 => ?_) (fun h91 => ?_)
            · refine x_iconst C eL_law_110 ?_
              refine x_goto (pc' := 115) C eL_law_111 rfl ?_
              refine x_istore [_, _, _, _, _, _, _, _] C eL_law_115 rfl rfl (nlt rfl) ?_
              refine x_iload C eL_law_117 rfl ?_
              refine x_aload_n C eL_law_119 rfl ?_
              refine x_iconst C eL_law_120 ?_
              refine yV1r [_] [_, _, _, _, _, _] C (s_X7_property hK hN2 (by omega) (by decide)) v_X7_property vv_X7_property s_RL_99 eL_law_121 (fun _ _ h => WF_pick [0, 1, 2, 3, 4, 5] rfl rfl h) (rcv 0 rfl) rfl (by first | exact nle rfl | omega) (by first | exact nle rfl | omega) (by first | exact nle rfl | omega) (by first | exact nle rfl | omega) rfl ?_
              rw [show propVal x62.2.1 1 = zI (x62.2.1 (-1) 1) from rfl]
              refine x_iload C eL_law_124 rfl ?_
              refine x_icmp_le 133 C eL_law_126 rfl (by omega) (by omega) (fun h126 => ?_) (fun h126 => ?_)
              · refine x_iconst C eL_law_133 ?_
                refine x_icmp_ne 155 C eL_law_134 rfl (by omega) (by omega) (fun h134 => ?_) (fun h134 => ?_)
                · exfalso; omega
                · refine x_iload C eL_law_137 rfl ?_
                  refine x_if_eq 157 C eL_law_139 rfl (by omega) (fun h139 => ?_) (fun h139 => ?_)
                  · refine x_iinc [_, _, _, _, _, _, _, _] C eL_law_157 rfl rfl rfl ?_
                    refine x_goto (pc' := 28) C eL_law_160 rfl ?_
                    refine x_lv [_, _, _, none, none, none, none, none] rfl (lx_drop _ [3, 4, 5, 6, 7] rfl) ?_
                    refine x_pick [_, _, _, _, _, _] [0, 1, 2, 3, 4, 5] rfl rfl ?_
                    rw [show (40 : Int) + 3 * (i : Int) + 3 = 40 + 3 * ((i + 1 : Nat) : Int) by omega]
                    refine x_widen (k' := 391 + 64 * (i + 1)) (n' := 74732 + 1900 * (i + 1)) (by omega) (by omega) ?_
                    exact ih (i + 1) _ _ _ (by omega) (by omega) (NetOk_mono hN2 (by omega)) hs2 h62
                  · refine x_iload C eL_law_142 rfl ?_
                    refine x_aload_n C eL_law_144 rfl ?_
                    refine x_iconst C eL_law_145 ?_
                    refine yV1r [_] [_, _, _, _, _, _] C (s_X7_property hK hN2 (by omega) (by decide)) v_X7_property vv_X7_property s_RL_99 eL_law_146 (fun _ _ h => WF_pick [0, 1, 2, 3, 4, 5] rfl rfl h) (rcv 0 rfl) rfl (by first | exact nle rfl | omega) (by first | exact nle rfl | omega) (by first | exact nle rfl | omega) (by first | exact nle rfl | omega) rfl ?_
                    rw [show propVal x62.2.1 5 = zI (x62.2.1 (-1) 4) from rfl]
                    refine x_iload C eL_law_149 rfl ?_
                    refine x_isub C eL_law_151 ?_
                    refine x_icmp_eq 157 C eL_law_152 rfl (by omega) (by omega) (fun h152 => ?_) (fun h152 => ?_)
                    · refine x_iinc [_, _, _, _, _, _, _, _] C eL_law_157 rfl rfl rfl ?_
                      refine x_goto (pc' := 28) C eL_law_160 rfl ?_
                      refine x_lv [_, _, _, none, none, none, none, none] rfl (lx_drop _ [3, 4, 5, 6, 7] rfl) ?_
                      refine x_pick [_, _, _, _, _, _] [0, 1, 2, 3, 4, 5] rfl rfl ?_
                      rw [show (40 : Int) + 3 * (i : Int) + 3 = 40 + 3 * ((i + 1 : Nat) : Int) by omega]
                      refine x_widen (k' := 391 + 64 * (i + 1)) (n' := 74732 + 1900 * (i + 1)) (by omega) (by omega) ?_
                      exact ih (i + 1) _ _ _ (by omega) (by omega) (NetOk_mono hN2 (by omega)) hs2 h62
                    · exfalso; omega
              · refine x_iconst C eL_law_129 ?_
                refine x_goto (pc' := 134) C eL_law_130 rfl ?_
                refine x_icmp_ne 155 C eL_law_134 rfl (by omega) (by omega) (fun h134 => ?_) (fun h134 => ?_)
                · exfalso; omega
                · refine x_iload C eL_law_137 rfl ?_
                  refine x_if_eq 157 C eL_law_139 rfl (by omega) (fun h139 => ?_) (fun h139 => ?_)
                  · refine x_iinc [_, _, _, _, _, _, _, _] C eL_law_157 rfl rfl rfl ?_
                    refine x_goto (pc' := 28) C eL_law_160 rfl ?_
                    refine x_lv [_, _, _, none, none, none, none, none] rfl (lx_drop _ [3, 4, 5, 6, 7] rfl) ?_
                    refine x_pick [_, _, _, _, _, _] [0, 1, 2, 3, 4, 5] rfl rfl ?_
                    rw [show (40 : Int) + 3 * (i : Int) + 3 = 40 + 3 * ((i + 1 : Nat) : Int) by omega]
                    refine x_widen (k' := 391 + 64 * (i + 1)) (n' := 74732 + 1900 * (i + 1)) (by omega) (by omega) ?_
                    exact ih (i + 1) _ _ _ (by omega) (by omega) (NetOk_mono hN2 (by omega)) hs2 h62
                  · refine x_iload C eL_law_142 rfl ?_
                    refine x_aload_n C eL_law_144 rfl ?_
                    refine x_iconst C eL_law_145 ?_
                    refine yV1r [_] [_, _, _, _, _, _] C (s_X7_property hK hN2 (by omega) (by decide)) v_X7_property vv_X7_property s_RL_99 eL_law_146 (fun _ _ h => WF_pick [0, 1, 2, 3, 4, 5] rfl rfl h) (rcv 0 rfl) rfl (by first | exact nle rfl | omega) (by first | exact nle rfl | omega) (by first | exact nle rfl | omega) (by first | exact nle rfl | omega) rfl ?_
                    rw [show propVal x62.2.1 5 = zI (x62.2.1 (-1) 4) from rfl]
                    refine x_iload C eL_law_149 rfl ?_
                    refine x_isub C eL_law_151 ?_
                    refine x_icmp_eq 157 C eL_law_152 rfl (by omega) (by omega) (fun h152 => ?_) (fun h152 => ?_)
                    · refine x_iinc [_, _, _, _, _, _, _, _] C eL_law_157 rfl rfl rfl ?_
                      refine x_goto (pc' := 28) C eL_law_160 rfl ?_
                      refine x_lv [_, _, _, none, none, none, none, none] rfl (lx_drop _ [3, 4, 5, 6, 7] rfl) ?_
                      refine x_pick [_, _, _, _, _, _] [0, 1, 2, 3, 4, 5] rfl rfl ?_
                      rw [show (40 : Int) + 3 * (i : Int) + 3 = 40 + 3 * ((i + 1 : Nat) : Int) by omega]
                      refine x_widen (k' := 391 + 64 * (i + 1)) (n' := 74732 + 1900 * (i + 1)) (by omega) (by omega) ?_
                      exact ih (i + 1) _ _ _ (by omega) (by omega) (NetOk_mono hN2 (by omega)) hs2 h62
                    · exfalso; omega
            · refine x_iload_n C eL_law_94 rfl ?_
              refine x_bipush C eL_law_95 rfl ?_
              refine x_icmp_ne 114 C eL_law_97 rfl (by omega) (by omega) (fun h97 => ?_) (fun h97 => ?_)
              · refine x_iconst C eL_law_114 ?_
                refine x_istore [_, _, _, _, _, _, _, _] C eL_law_115 rfl rfl (nlt rfl) ?_
                refine x_iload C eL_law_117 rfl ?_
                refine x_aload_n C eL_law_119 rfl ?_
                refine x_iconst C eL_law_120 ?_
                refine yV1r [_] [_, _, _, _, _, _] C (s_X7_property hK hN2 (by omega) (by decide)) v_X7_property vv_X7_property s_RL_99 eL_law_121 (fun _ _ h => WF_pick [0, 1, 2, 3, 4, 5] rfl rfl h) (rcv 0 rfl) rfl (by first | exact nle rfl | omega) (by first | exact nle rfl | omega) (by first | exact nle rfl | omega) (by first | exact nle rfl | omega) rfl ?_
                rw [show propVal x62.2.1 1 = zI (x62.2.1 (-1) 1) from rfl]
                refine x_iload C eL_law_124 rfl ?_
                refine x_icmp_le 133 C eL_law_126 rfl (by omega) (by omega) (fun h126 => ?_) (fun h126 => ?_)
                · refine x_iconst C eL_law_133 ?_
                  refine x_icmp_ne 155 C eL_law_134 rfl (by omega) (by omega) (fun h134 => ?_) (fun h134 => ?_)
                  · exfalso; omega
                  · refine x_iload C eL_law_137 rfl ?_
                    refine x_if_eq 157 C eL_law_139 rfl (by omega) (fun h139 => ?_) (fun h139 => ?_)
                    · refine x_iinc [_, _, _, _, _, _, _, _] C eL_law_157 rfl rfl rfl ?_
                      refine x_goto (pc' := 28) C eL_law_160 rfl ?_
                      refine x_lv [_, _, _, none, none, none, none, none] rfl (lx_drop _ [3, 4, 5, 6, 7] rfl) ?_
                      refine x_pick [_, _, _, _, _, _] [0, 1, 2, 3, 4, 5] rfl rfl ?_
                      rw [show (40 : Int) + 3 * (i : Int) + 3 = 40 + 3 * ((i + 1 : Nat) : Int) by omega]
                      refine x_widen (k' := 391 + 64 * (i + 1)) (n' := 74732 + 1900 * (i + 1)) (by omega) (by omega) ?_
                      exact ih (i + 1) _ _ _ (by omega) (by omega) (NetOk_mono hN2 (by omega)) hs2 h62
                    · refine x_iload C eL_law_142 rfl ?_
                      refine x_aload_n C eL_law_144 rfl ?_
                      refine x_iconst C eL_law_145 ?_
                      refine yV1r [_] [_, _, _, _, _, _] C (s_X7_property hK hN2 (by omega) (by decide)) v_X7_property vv_X7_property s_RL_99 eL_law_146 (fun _ _ h => WF_pick [0, 1, 2, 3, 4, 5] rfl rfl h) (rcv 0 rfl) rfl (by first | exact nle rfl | omega) (by first | exact nle rfl | omega) (by first | exact nle rfl | omega) (by first | exact nle rfl | omega) rfl ?_
                      rw [show propVal x62.2.1 5 = zI (x62.2.1 (-1) 4) from rfl]
                      refine x_iload C eL_law_149 rfl ?_
                      refine x_isub C eL_law_151 ?_
                      refine x_icmp_eq 157 C eL_law_152 rfl (by omega) (by omega) (fun h152 => ?_) (fun h152 => ?_)
                      · refine x_iinc [_, _, _, _, _, _, _, _] C eL_law_157 rfl rfl rfl ?_
                        refine x_goto (pc' := 28) C eL_law_160 rfl ?_
                        refine x_lv [_, _, _, none, none, none, none, none] rfl (lx_drop _ [3, 4, 5, 6, 7] rfl) ?_
                        refine x_pick [_, _, _, _, _, _] [0, 1, 2, 3, 4, 5] rfl rfl ?_
                        rw [show (40 : Int) + 3 * (i : Int) + 3 = 40 + 3 * ((i + 1 : Nat) : Int) by omega]
                        refine x_widen (k' := 391 + 64 * (i + 1)) (n' := 74732 + 1900 * (i + 1)) (by omega) (by omega) ?_
                        exact ih (i + 1) _ _ _ (by omega) (by omega) (NetOk_mono hN2 (by omega)) hs2 h62
                      · exfalso; omega
                · refine x_iconst C eL_law_129 ?_
                  refine x_goto (pc' := 134) C eL_law_130 rfl ?_
                  refine x_icmp_ne 155 C eL_law_134 rfl (by omega) (by omega) (fun h134 => ?_) (fun h134 => ?_)
                  · exfalso; omega
                  · refine x_iload C eL_law_137 rfl ?_
                    refine x_if_eq 157 C eL_law_139 rfl (by omega) (fun h139 => ?_) (fun h139 => ?_)
                    · refine x_iinc [_, _, _, _, _, _, _, _] C eL_law_157 rfl rfl rfl ?_
                      refine x_goto (pc' := 28) C eL_law_160 rfl ?_
                      refine x_lv [_, _, _, none, none, none, none, none] rfl (lx_drop _ [3, 4, 5, 6, 7] rfl) ?_
                      refine x_pick [_, _, _, _, _, _] [0, 1, 2, 3, 4, 5] rfl rfl ?_
                      rw [show (40 : Int) + 3 * (i : Int) + 3 = 40 + 3 * ((i + 1 : Nat) : Int) by omega]
                      refine x_widen (k' := 391 + 64 * (i + 1)) (n' := 74732 + 1900 * (i + 1)) (by omega) (by omega) ?_
                      exact ih (i + 1) _ _ _ (by omega) (by omega) (NetOk_mono hN2 (by omega)) hs2 h62
                    · refine x_iload C eL_law_142 rfl ?_
                      refine x_aload_n C eL_law_144 rfl ?_
                      refine x_iconst C eL_law_145 ?_
                      refine yV1r [_] [_, _, _, _, _, _] C (s_X7_property hK hN2 (by omega) (by decide)) v_X7_property vv_X7_property s_RL_99 eL_law_146 (fun _ _ h => WF_pick [0, 1, 2, 3, 4, 5] rfl rfl h) (rcv 0 rfl) rfl (by first | exact nle rfl | omega) (by first | exact nle rfl | omega) (by first | exact nle rfl | omega) (by first | exact nle rfl | omega) rfl ?_
                      rw [show propVal x62.2.1 5 = zI (x62.2.1 (-1) 4) from rfl]
                      refine x_iload C eL_law_149 rfl ?_
                      refine x_isub C eL_law_151 ?_
                      refine x_icmp_eq 157 C eL_law_152 rfl (by omega) (by omega) (fun h152 => ?_) (fun h152 => ?_)
                      · refine x_iinc [_, _, _, _, _, _, _, _] C eL_law_157 rfl rfl rfl ?_
                        refine x_goto (pc' := 28) C eL_law_160 rfl ?_
                        refine x_lv [_, _, _, none, none, none, none, none] rfl (lx_drop _ [3, 4, 5, 6, 7] rfl) ?_
                        refine x_pick [_, _, _, _, _, _] [0, 1, 2, 3, 4, 5] rfl rfl ?_
                        rw [show (40 : Int) + 3 * (i : Int) + 3 = 40 + 3 * ((i + 1 : Nat) : Int) by omega]
                        refine x_widen (k' := 391 + 64 * (i + 1)) (n' := 74732 + 1900 * (i + 1)) (by omega) (by omega) ?_
                        exact ih (i + 1) _ _ _ (by omega) (by omega) (NetOk_mono hN2 (by omega)) hs2 h62
                      · exfalso; omega
              · refine x_aload_n C eL_law_100 rfl ?_
                refine x_iconst C eL_law_101 ?_
                refine yV1r [_] [_, _, _, _, _, _] C (s_X7_property hK hN2 (by omega) (by decide)) v_X7_property vv_X7_property s_RL_99 eL_law_102 (fun _ _ h => WF_pick [0, 1, 2, 3, 4, 5] rfl rfl h) (rcv 0 rfl) rfl (by first | exact nle rfl | omega) (by first | exact nle rfl | omega) (by first | exact nle rfl | omega) (by first | exact nle rfl | omega) rfl ?_
                rw [show propVal x62.2.1 1 = zI (x62.2.1 (-1) 1) from rfl]
                refine x_iload C eL_law_105 rfl ?_
                refine x_icmp_le 114 C eL_law_107 rfl (by omega) (by omega) (fun h107 => ?_) (fun h107 => ?_)
                · refine x_iconst C eL_law_114 ?_
                  refine x_istore [_, _, _, _, _, _, _, _] C eL_law_115 rfl rfl (nlt rfl) ?_
                  refine x_iload C eL_law_117 rfl ?_
                  refine x_aload_n C eL_law_119 rfl ?_
                  refine x_iconst C eL_law_120 ?_
                  refine yV1r [_] [_, _, _, _, _, _] C (s_X7_property hK hN2 (by omega) (by decide)) v_X7_property vv_X7_property s_RL_99 eL_law_121 (fun _ _ h => WF_pick [0, 1, 2, 3, 4, 5] rfl rfl h) (rcv 0 rfl) rfl (by first | exact nle rfl | omega) (by first | exact nle rfl | omega) (by first | exact nle rfl | omega) (by first | exact nle rfl | omega) rfl ?_
                  rw [show propVal x62.2.1 1 = zI (x62.2.1 (-1) 1) from rfl]
                  refine x_iload C eL_law_124 rfl ?_
                  refine x_icmp_le 133 C eL_law_126 rfl (by omega) (by omega) (fun h126 => ?_) (fun h126 => ?_)
                  · refine x_iconst C eL_law_133 ?_
                    refine x_icmp_ne 155 C eL_law_134 rfl (by omega) (by omega) (fun h134 => ?_) (fun h134 => ?_)
                    · exfalso; omega
                    · refine x_iload C eL_law_137 rfl ?_
                      refine x_if_eq 157 C eL_law_139 rfl (by omega) (fun h139 => ?_) (fun h139 => ?_)
                      · refine x_iinc [_, _, _, _, _, _, _, _] C eL_law_157 rfl rfl rfl ?_
                        refine x_goto (pc' := 28) C eL_law_160 rfl ?_
                        refine x_lv [_, _, _, none, none, none, none, none] rfl (lx_drop _ [3, 4, 5, 6, 7] rfl) ?_
                        refine x_pick [_, _, _, _, _, _] [0, 1, 2, 3, 4, 5] rfl rfl ?_
                        rw [show (40 : Int) + 3 * (i : Int) + 3 = 40 + 3 * ((i + 1 : Nat) : Int) by omega]
                        refine x_widen (k' := 391 + 64 * (i + 1)) (n' := 74732 + 1900 * (i + 1)) (by omega) (by omega) ?_
                        exact ih (i + 1) _ _ _ (by omega) (by omega) (NetOk_mono hN2 (by omega)) hs2 h62
                      · refine x_iload C eL_law_142 rfl ?_
                        refine x_aload_n C eL_law_144 rfl ?_
                        refine x_iconst C eL_law_145 ?_
                        refine yV1r [_] [_, _, _, _, _, _] C (s_X7_property hK hN2 (by omega) (by decide)) v_X7_property vv_X7_property s_RL_99 eL_law_146 (fun _ _ h => WF_pick [0, 1, 2, 3, 4, 5] rfl rfl h) (rcv 0 rfl) rfl (by first | exact nle rfl | omega) (by first | exact nle rfl | omega) (by first | exact nle rfl | omega) (by first | exact nle rfl | omega) rfl ?_
                        rw [show propVal x62.2.1 5 = zI (x62.2.1 (-1) 4) from rfl]
                        refine x_iload C eL_law_149 rfl ?_
                        refine x_isub C eL_law_151 ?_
                        refine x_icmp_eq 157 C eL_law_152 rfl (by omega) (by omega) (fun h152 => ?_) (fun h152 => ?_)
                        · refine x_iinc [_, _, _, _, _, _, _, _] C eL_law_157 rfl rfl rfl ?_
                          refine x_goto (pc' := 28) C eL_law_160 rfl ?_
                          refine x_lv [_, _, _, none, none, none, none, none] rfl (lx_drop _ [3, 4, 5, 6, 7] rfl) ?_
                          refine x_pick [_, _, _, _, _, _] [0, 1, 2, 3, 4, 5] rfl rfl ?_
                          rw [show (40 : Int) + 3 * (i : Int) + 3 = 40 + 3 * ((i + 1 : Nat) : Int) by omega]
                          refine x_widen (k' := 391 + 64 * (i + 1)) (n' := 74732 + 1900 * (i + 1)) (by omega) (by omega) ?_
                          exact ih (i + 1) _ _ _ (by omega) (by omega) (NetOk_mono hN2 (by omega)) hs2 h62
                        · exfalso; omega
                  · refine x_iconst C eL_law_129 ?_
                    refine x_goto (pc' := 134) C eL_law_130 rfl ?_
                    refine x_icmp_ne 155 C eL_law_134 rfl (by omega) (by omega) (fun h134 => ?_) (fun h134 => ?_)
                    · exfalso; omega
                    · refine x_iload C eL_law_137 rfl ?_
                      refine x_if_eq 157 C eL_law_139 rfl (by omega) (fun h139 => ?_) (fun h139 => ?_)
                      · refine x_iinc [_, _, _, _, _, _, _, _] C eL_law_157 rfl rfl rfl ?_
                        refine x_goto (pc' := 28) C eL_law_160 rfl ?_
                        refine x_lv [_, _, _, none, none, none, none, none] rfl (lx_drop _ [3, 4, 5, 6, 7] rfl) ?_
                        refine x_pick [_, _, _, _, _, _] [0, 1, 2, 3, 4, 5] rfl rfl ?_
                        rw [show (40 : Int) + 3 * (i : Int) + 3 = 40 + 3 * ((i + 1 : Nat) : Int) by omega]
                        refine x_widen (k' := 391 + 64 * (i + 1)) (n' := 74732 + 1900 * (i + 1)) (by omega) (by omega) ?_
                        exact ih (i + 1) _ _ _ (by omega) (by omega) (NetOk_mono hN2 (by omega)) hs2 h62
                      · refine x_iload C eL_law_142 rfl ?_
                        refine x_aload_n C eL_law_144 rfl ?_
                        refine x_iconst C eL_law_145 ?_
                        refine yV1r [_] [_, _, _, _, _, _] C (s_X7_property hK hN2 (by omega) (by decide)) v_X7_property vv_X7_property s_RL_99 eL_law_146 (fun _ _ h => WF_pick [0, 1, 2, 3, 4, 5] rfl rfl h) (rcv 0 rfl) rfl (by first | exact nle rfl | omega) (by first | exact nle rfl | omega) (by first | exact nle rfl | omega) (by first | exact nle rfl | omega) rfl ?_
                        rw [show propVal x62.2.1 5 = zI (x62.2.1 (-1) 4) from rfl]
                        refine x_iload C eL_law_149 rfl ?_
                        refine x_isub C eL_law_151 ?_
                        refine x_icmp_eq 157 C eL_law_152 rfl (by omega) (by omega) (fun h152 => ?_) (fun h152 => ?_)
                        · refine x_iinc [_, _, _, _, _, _, _, _] C eL_law_157 rfl rfl rfl ?_
                          refine x_goto (pc' := 28) C eL_law_160 rfl ?_
                          refine x_lv [_, _, _, none, none, none, none, none] rfl (lx_drop _ [3, 4, 5, 6, 7] rfl) ?_
                          refine x_pick [_, _, _, _, _, _] [0, 1, 2, 3, 4, 5] rfl rfl ?_
                          rw [show (40 : Int) + 3 * (i : Int) + 3 = 40 + 3 * ((i + 1 : Nat) : Int) by omega]
                          refine x_widen (k' := 391 + 64 * (i + 1)) (n' := 74732 + 1900 * (i + 1)) (by omega) (by omega) ?_
                          exact ih (i + 1) _ _ _ (by omega) (by omega) (NetOk_mono hN2 (by omega)) hs2 h62
                        · exfalso; omega
                · refine x_iconst C eL_law_110 ?_
                  refine x_goto (pc' := 115) C eL_law_111 rfl ?_
                  refine x_istore [_, _, _, _, _, _, _, _] C eL_law_115 rfl rfl (nlt rfl) ?_
                  refine x_iload C eL_law_117 rfl ?_
                  refine x_aload_n C eL_law_119 rfl ?_
                  refine x_iconst C eL_law_120 ?_
                  refine yV1r [_] [_, _, _, _, _, _] C (s_X7_property hK hN2 (by omega) (by decide)) v_X7_property vv_X7_property s_RL_99 eL_law_121 (fun _ _ h => WF_pick [0, 1, 2, 3, 4, 5] rfl rfl h) (rcv 0 rfl) rfl (by first | exact nle rfl | omega) (by first | exact nle rfl | omega) (by first | exact nle rfl | omega) (by first | exact nle rfl | omega) rfl ?_
                  rw [show propVal x62.2.1 1 = zI (x62.2.1 (-1) 1) from rfl]
                  refine x_iload C eL_law_124 rfl ?_
                  refine x_icmp_le 133 C eL_law_126 rfl (by omega) (by omega) (fun h126 => ?_) (fun h126 => ?_)
                  · refine x_iconst C eL_law_133 ?_
                    refine x_icmp_ne 155 C eL_law_134 rfl (by omega) (by omega) (fun h134 => ?_) (fun h134 => ?_)
                    · exfalso; omega
                    · refine x_iload C eL_law_137 rfl ?_
                      refine x_if_eq 157 C eL_law_139 rfl (by omega) (fun h139 => ?_) (fun h139 => ?_)
                      · refine x_iinc [_, _, _, _, _, _, _, _] C eL_law_157 rfl rfl rfl ?_
                        refine x_goto (pc' := 28) C eL_law_160 rfl ?_
                        refine x_lv [_, _, _, none, none, none, none, none] rfl (lx_drop _ [3, 4, 5, 6, 7] rfl) ?_
                        refine x_pick [_, _, _, _, _, _] [0, 1, 2, 3, 4, 5] rfl rfl ?_
                        rw [show (40 : Int) + 3 * (i : Int) + 3 = 40 + 3 * ((i + 1 : Nat) : Int) by omega]
                        refine x_widen (k' := 391 + 64 * (i + 1)) (n' := 74732 + 1900 * (i + 1)) (by omega) (by omega) ?_
                        exact ih (i + 1) _ _ _ (by omega) (by omega) (NetOk_mono hN2 (by omega)) hs2 h62
                      · refine x_iload C eL_law_142 rfl ?_
                        refine x_aload_n C eL_law_144 rfl ?_
                        refine x_iconst C eL_law_145 ?_
                        refine yV1r [_] [_, _, _, _, _, _] C (s_X7_property hK hN2 (by omega) (by decide)) v_X7_property vv_X7_property s_RL_99 eL_law_146 (fun _ _ h => WF_pick [0, 1, 2, 3, 4, 5] rfl rfl h) (rcv 0 rfl) rfl (by first | exact nle rfl | omega) (by first | exact nle rfl | omega) (by first | exact nle rfl | omega) (by first | exact nle rfl | omega) rfl ?_
                        rw [show propVal x62.2.1 5 = zI (x62.2.1 (-1) 4) from rfl]
                        refine x_iload C eL_law_149 rfl ?_
                        refine x_isub C eL_law_151 ?_
                        refine x_icmp_eq 157 C eL_law_152 rfl (by omega) (by omega) (fun h152 => ?_) (fun h152 => ?_)
                        · refine x_iinc [_, _, _, _, _, _, _, _] C eL_law_157 rfl rfl rfl ?_
                          refine x_goto (pc' := 28) C eL_law_160 rfl ?_
                          refine x_lv [_, _, _, none, none, none, none, none] rfl (lx_drop _ [3, 4, 5, 6, 7] rfl) ?_
                          refine x_pick [_, _, _, _, _, _] [0, 1, 2, 3, 4, 5] rfl rfl ?_
                          rw [show (40 : Int) + 3 * (i : Int) + 3 = 40 + 3 * ((i + 1 : Nat) : Int) by omega]
                          refine x_widen (k' := 391 + 64 * (i + 1)) (n' := 74732 + 1900 * (i + 1)) (by omega) (by omega) ?_
                          exact ih (i + 1) _ _ _ (by omega) (by omega) (NetOk_mono hN2 (by omega)) hs2 h62
                        · exfalso; omega
                  · refine x_iconst C eL_law_129 ?_
                    refine x_goto (pc' := 134) C eL_law_130 rfl ?_
                    refine x_icmp_ne 155 C eL_law_134 rfl (by omega) (by omega) (fun h134 => ?_) (fun h134 => ?_)
                    · exfalso; omega
                    · refine x_iload C eL_law_137 rfl ?_
                      refine x_if_eq 157 C eL_law_139 rfl (by omega) (fun h139 => ?_) (fun h139 => ?_)
                      · refine x_iinc [_, _, _, _, _, _, _, _] C eL_law_157 rfl rfl rfl ?_
                        refine x_goto (pc' := 28) C eL_law_160 rfl ?_
                        refine x_lv [_, _, _, none, none, none, none, none] rfl (lx_drop _ [3, 4, 5, 6, 7] rfl) ?_
                        refine x_pick [_, _, _, _, _, _] [0, 1, 2, 3, 4, 5] rfl rfl ?_
                        rw [show (40 : Int) + 3 * (i : Int) + 3 = 40 + 3 * ((i + 1 : Nat) : Int) by omega]
                        refine x_widen (k' := 391 + 64 * (i + 1)) (n' := 74732 + 1900 * (i + 1)) (by omega) (by omega) ?_
                        exact ih (i + 1) _ _ _ (by omega) (by omega) (NetOk_mono hN2 (by omega)) hs2 h62
                      · refine x_iload C eL_law_142 rfl ?_
                        refine x_aload_n C eL_law_144 rfl ?_
                        refine x_iconst C eL_law_145 ?_
                        refine yV1r [_] [_, _, _, _, _, _] C (s_X7_property hK hN2 (by omega) (by decide)) v_X7_property vv_X7_property s_RL_99 eL_law_146 (fun _ _ h => WF_pick [0, 1, 2, 3, 4, 5] rfl rfl h) (rcv 0 rfl) rfl (by first | exact nle rfl | omega) (by first | exact nle rfl | omega) (by first | exact nle rfl | omega) (by first | exact nle rfl | omega) rfl ?_
                        rw [show propVal x62.2.1 5 = zI (x62.2.1 (-1) 4) from rfl]
                        refine x_iload C eL_law_149 rfl ?_
                        refine x_isub C eL_law_151 ?_
                        refine x_icmp_eq 157 C eL_law_152 rfl (by omega) (by omega) (fun h152 => ?_) (fun h152 => ?_)
                        · refine x_iinc [_, _, _, _, _, _, _, _] C eL_law_157 rfl rfl rfl ?_
                          refine x_goto (pc' := 28) C eL_law_160 rfl ?_
                          refine x_lv [_, _, _, none, none, none, none, none] rfl (lx_drop _ [3, 4, 5, 6, 7] rfl) ?_
                          refine x_pick [_, _, _, _, _, _] [0, 1, 2, 3, 4, 5] rfl rfl ?_
                          rw [show (40 : Int) + 3 * (i : Int) + 3 = 40 + 3 * ((i + 1 : Nat) : Int) by omega]
                          refine x_widen (k' := 391 + 64 * (i + 1)) (n' := 74732 + 1900 * (i + 1)) (by omega) (by omega) ?_
                          exact ih (i + 1) _ _ _ (by omega) (by omega) (NetOk_mono hN2 (by omega)) hs2 h62
                        · exfalso; omega
      · exfalso; omega

set_option maxHeartbeats 4000000 in
set_option maxRecDepth 100000 in
theorem law_body {G : Gm} {X : Cx} {l : Launch} (hK : KG G) (hD : KD G) {b9 L9 : Nat} {xs : Nat → Int32} (hsc : SC G b9 L9 xs) {nmL : String} (C : OKc G X l RL nmL cL_law 8 (some .boolean) 15 5000 210000) (F : FIN G X 5000 210000 (fun _ : Unit => some (.int (zI 1))) (fun _ => True) (fun _ => [])) : WX G X 0 0 [] 0 [some (.ref b9), none, none, none, none, none, none, none] [] := by
  have hS : KS G := hD.1
  refine x_new C n_RL_25 eL_law_0 (nle rfl) (nle rfl) (fun e => ?_)
  refine x_dup C eL_law_3 rfl ?_
  refine yI0x (ret' := none) [] C (s_X7_init hK hS) v_X7_init vi_X7_init rfl s_RL_179 eL_law_4 (fun _ _ h => WF_pick [0] rfl rfl h) rfl (nle rfl) (nle rfl) (nle rfl) (nle rfl) (fun x9 _ => ?_)
  obtain ⟨⟨ip, op, t, tr, ps, pa, sl, ib, ob9⟩, LL, L2⟩ := x9
  refine x_astore_n [_, _, _, _, _, _, _, _] C eL_law_7 rfl rfl (nlt rfl) ?_
  refine x_aload_n C eL_law_8 rfl ?_
  refine x_aload_n C eL_law_9 rfl ?_
  refine x_oTO (R := [_, _, _, _, _, _, _, _, _, _]) (fun _ _ h => WF_pick [1, 0, 2, 3, 4, 5, 6, 7, 8, 9, 10] rfl rfl h) (fun al lg => ?_)
  refine x_pick [_, _, _, _, _, _, _, _, _, _, _] [4, 0, 1, 2, 3, 5, 6, 7, 8, 11, 12] rfl rfl ?_
  refine yS2x [] C (z_load (M := []) (J := up (fun _ => 0) 9 (-1)) (N := fun _ => Zn) (Fb := fun _ => 0) (n := nInit) hK nInit_ok (by decide) (by decide) hD (fun x hx => absurd hx List.not_mem_nil) (fun _ => by decide) hsc) v_L_load vs_L_load s_RL_180 eL_law_10 (fun _ _ h => WF_pick [0, 1, 2, 3, 4, 5, 6, 7, 8, 9, 10] rfl rfl h) rfl (nle rfl) (nle rfl) (nle rfl) (nle rfl) (fun x10 hx10 => ?_)
  refine x_if_eq 23 C eL_law_13 rfl (by omega) (fun h13 => ?_) (fun h13 => ?_)
  · exfalso; omega
  · refine x_aload_n C eL_law_16 rfl ?_
    refine yS1r [_] [_, _, _, _, _, _] C (z_stands hK hx10.1 (by decide) hx10.2.1) v_L_stands vs_L_stands s_RL_183 eL_law_17 (fun _ _ h => WF_pick [0, 1, 2, 3, 4, 5] rfl rfl h) rfl (nle rfl) (nle rfl) (nle rfl) (nle rfl) rfl ?_
    refine x_if_ne 25 C eL_law_20 rfl (by omega) (fun h20 => ?_) (fun h20 => ?_)
    · refine x_bipush C eL_law_25 rfl ?_
      refine x_istore_n [_, _, _, _, _, _, _, _] C eL_law_27 rfl rfl (nlt rfl) ?_
      exact law_loop hK hD hsc C F 71 0 _ _ _ (by decide) (by decide) hx10.1 hx10.2.1 hx10.2.2.1
    · exfalso; omega
