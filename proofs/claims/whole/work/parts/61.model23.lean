set_option maxHeartbeats 4000000 in
set_option maxRecDepth 100000 in
theorem s_X8_load {G : Gm} {l : Launch} (hK : KG G) {o : Nat} {A : Nat → Nat} {I Fb : Nat → Int} {N : Nat → Net} {n : Net} {TL TB : Nat → Int} {P : Nat → Net} (hFb : ∀ j, -128 ≤ Fb j ∧ Fb j ≤ 127) (h6 : 0 ≤ I 6 ∧ I 6 ≤ 400) (h11 : 0 ≤ I 11 ∧ I 11 ≤ 9999) (h20 : 0 ≤ I 20 ∧ I 20 ≤ 6) (hS : KS G) : MD G l yX8_load cX8_load 2 (some .int) 11 0 0 [.ref o] [ob o 10 (shM A 1) I, ar G 1 (A 5) 400 400 (Fb), fam G A (uN N 1 n), ar G 0 (A 14) 60 60 (TL), ar G 0 (A 15) 60 60 (TB), ar G 0 (A 19) 10896 10896 (encM (P))] (some (.int (zI (if (ldR Fb I TL TB).1 12 = 0 then ldN Fb I TL TB (-1) 0 else -4)))) [ob o 10 (shM A 1) (if (ldR Fb I TL TB).1 12 = 0 then up (ldR Fb I TL TB).1 20 (rmR (I 20)) else (ldR Fb I TL TB).1), ar G 1 (A 5) 400 400 (Fb), famQ G A (if (ldR Fb I TL TB).1 12 = 0 then ldN Fb I TL TB else n), ar G 0 (A 14) 60 60 ((ldR Fb I TL TB).2.2.1), ar G 0 (A 15) 60 60 ((ldR Fb I TL TB).2.2.2), ar G 0 (A 19) 10896 10896 (encM (if (ldR Fb I TL TB).1 12 = 0 then rmP (I 20) P n else P))] := by
  refine MX_of (lv := [some (.ref o), none]) hK (by decide +kernel) rfl (nle rfl) (fun X C F => ?_)
  have C : OKc G X l RX8 "load" cX8_load 2 (some .int) 11 0 0 := C
  have hr : rok 2 := Or.inr (Or.inl rfl)
  have hR := ldR_ok (TL := TL) (TB := TB) hFb h6 h11
  have hR20 : (ldR Fb I TL TB).1 20 = I 20 := (psL_o (by unfold oP; decide) (by decide) 500 _).trans ((if_o (er_o (by unfold oP; decide)) rfl).trans ((scanI_o (by decide)).trans (ldI0_v I).2.2.2.2.2))
  have hJ0 := ldI0_P h6 h11
  have hJ1 := (Pin_scan hFb hJ0).1
  have hJ2 := ldJ_ok (TL := TL) (TB := TB) hFb h6 h11
  obtain ⟨R, eR⟩ : ∃ R, R = ldR Fb I TL TB := ⟨_, rfl⟩
  rw [← eR] at hR hR20
  have hRT := hR.1.2.2
  have hRP := hR.1.1
  unfold Pin Pin0 at hRP
  have hD1 := hR.1.2.1.1
  have loop3 : R.1 12 = 0 → ∀ (f k : Nat), k ≤ 1816 → 1816 < k + f → WX G X 0 0 [ob o 10 (shM A 1) (up R.1 20 (rmR (R.1 20))), ar G 1 (A 5) 400 400 (Fb), fam G A (uN (uN N 2 (ldN Fb I TL TB)) 1 (cpy (enc (ldN Fb I TL TB)) n k)), ar G 0 (A 14) 60 60 (R.2.2.1), ar G 0 (A 15) 60 60 (R.2.2.2), ar G 0 (A 19) 10896 10896 (encM (rmP (R.1 20) P n))] 187 [some (.ref o), some (.int (zI (k : Int)))] [] := by
    intro hG f
    induction f with
    | zero => intro k g0 g1; exfalso; omega
    | succ f ih =>
      intro k g0 g1
      refine x_iload_n C eX8_load_187 rfl ?_
      refine x_sipush C eX8_load_188 rfl ?_
      refine x_icmp_ge 212 C eX8_load_191 rfl (by omega) (by omega) (fun h191 => ?_) (fun h191 => ?_)
      · obtain rfl : k = 1816 := by omega
        refine x_ws [ob o 10 (shM A 1) (up R.1 20 (rmR (R.1 20))), ar G 1 (A 5) 400 400 (Fb), fam G A (uN (uN N 2 (ldN Fb I TL TB)) 1 (ldN Fb I TL TB)), ar G 0 (A 14) 60 60 (R.2.2.1), ar G 0 (A 15) 60 60 (R.2.2.2), ar G 0 (A 19) 10896 10896 (encM (rmP (R.1 20) P n))] (fun cf c hw => PW.wf (PW_cons (fun _ h => h) (PW_cons (fun _ h => h) (PW_cons (fun _ h => fam_congr (fun r' hr' j hj => ?_) h) (PW_cons (fun _ h => h) (PW_cons (fun _ h => h) (PW_cons (fun _ h => h) PW_nil)))))) hw) ?_
        · unfold uN
          split
          · rw [enc_cpy _ _ _ (Nat.le_refl _) j hj, if_pos hj]
          · rfl
        refine x_aload_n C eX8_load_212 rfl ?_
        refine yV0r [_, _, _, _] [_, _, _, _, _, _] C (s_X8_lines hK (Or.inl rfl)) v_X8_lines vv_X8_lines s_RX8_68 eX8_load_213 (fun _ _ h => WF_pick [0, 2, 1, 3, 4, 5] rfl rfl h) (rcv 0 rfl) rfl (nle rfl) (nle rfl) (nle rfl) (nle rfl) rfl ?_
        skip
        refine x_iret (by first | rfl | exact (narZ (by omega)).1) C F eX8_load_216 () ?_ trivial (fun cf c h => ?_) (nle rfl) (nle rfl)
        · rw [← eR, if_pos hG]
        · rw [← eR, if_pos hG, if_pos hG, if_pos hG, ← hR20]
          exact PW.wf (PW_cons (fun _ h => h) (PW_cons (fun _ h => h) (PW_cons (fun _ h => ⟨_, h⟩) (PW_cons (fun _ h => h) (PW_cons (fun _ h => h) (PW_cons (fun _ h => h) PW_nil)))))) (WF_pick [0, 2, 1, 3, 4, 5] rfl rfl h)
      · refine x_aload_n C eX8_load_194 rfl ?_
        refine x_getR 0 C f_RX8_17 eX8_load_195 rfl rfl ?_
        refine x_iload_n C eX8_load_198 rfl ?_
        refine x_aload_n C eX8_load_199 rfl ?_
        refine x_getR 0 C f_RX8_21 eX8_load_200 rfl rfl ?_
        refine x_iload_n C eX8_load_203 rfl ?_
        refine x_fald 2 C eX8_load_204 rfl (Or.inr (Or.inl rfl)) (by omega) ?_
        rw [Int.toNat_natCast, show (uN (uN N 2 (ldN Fb I TL TB)) 1 (cpy (enc (ldN Fb I TL TB)) n k)) 2 = ldN Fb I TL TB from rfl]
        refine x_fastU [_, _, _, _, _, _] 2 C eX8_load_205 rfl (Or.inl rfl) (by omega) rfl ?_
        rw [Int.toNat_natCast]
        refine x_iinc [_, _] C eX8_load_206 rfl rfl rfl ?_
        refine x_goto (pc' := 187) C eX8_load_209 rfl ?_
        exact x_pick [_, _, _, _, _, _] [0, 1, 2, 3, 4, 5] rfl rfl (ih (k + 1) (by omega) (by omega))
  have loop2 : ∀ (f k : Nat), (k : Int) ≤ R.1 16 → R.1 16 < k + f → WX G X 0 0 [ob o 10 (shM A 2) (R.1), ar G 1 (A 5) 400 400 (Fb), fam G A (uN (uN N 1 n) 2 (tyN R.2.2.1 R.2.2.2 (ldD R.2.1) k)), ar G 0 (A 14) 60 60 (R.2.2.1), ar G 0 (A 15) 60 60 (R.2.2.2), ar G 0 (A 19) 10896 10896 (encM (P))] 126 [some (.ref o), some (.int (zI (k : Int)))] [] := by
    intro f
    induction f with
    | zero => intro k g0 g1; exfalso; omega
    | succ f ih =>
      intro k g0 g1
      refine x_iload_n C eX8_load_126 rfl ?_
      refine x_aload_n C eX8_load_127 rfl ?_
      refine x_getI 0 C f_RX8_271 eX8_load_128 rfl rfl ?_
      try simp (disch := decide) only [up_s, up_n]
      refine x_icmp_ge 163 C eX8_load_131 rfl (by omega) (by omega) (fun h131 => ?_) (fun h131 => ?_)
      · refine x_aload_n C eX8_load_163 rfl ?_
        refine x_aload_n C eX8_load_164 rfl ?_
        refine x_getR 0 C f_RX8_17 eX8_load_165 rfl rfl ?_
        refine x_putR [_, _, _, _, _, _, _, _, _, _, _, _, _, _, _, _, _, _, _, _, _, _, _] [_, _, _, _, _, _] 0 C f_RX8_24 eX8_load_168 rfl (nlt rfl) rfl rfl rfl rfl ?_
        refine x_aload_n C eX8_load_171 rfl ?_
        refine yV0r [_, _, _, _, _] [_, _, _, _, _, _] C (s_X8_good hK hRP.1.2.2.2.1) v_X8_good vv_X8_good s_RX8_152 eX8_load_172 (fun _ _ h => WF_pick [0, 1, 2, 3, 4, 5] rfl rfl h) (rcv 0 rfl) rfl (nle rfl) (nle rfl) (nle rfl) (nle rfl) rfl ?_
        skip
        refine x_ifb_ne 181 C eX8_load_175 rfl (fun h175 => ?_) (fun h175 => ?_)
        · refine x_aload_n C eX8_load_181 rfl ?_
          rw [uN_12]
          refine yV0v [_, _, _] [_, _, _, _, _, _] C (s_X8_remember hK (by omega)) v_X8_remember vv_X8_remember s_RX8_289 eX8_load_182 (fun _ _ h => WF_pick [0, 2, 5, 1, 3, 4] rfl rfl h) (rcv 0 rfl) rfl (nle rfl) (nle rfl) (nle rfl) (nle rfl) rfl ?_
          skip
          refine x_iconst C eX8_load_185 ?_
          refine x_istore_n [_, _] C eX8_load_186 rfl rfl (nlt rfl) ?_
          have e8 : tyN R.2.2.1 R.2.2.2 (ldD R.2.1) k = ldN Fb I TL TB := by unfold ldN; rw [← eR, show (R.1 16).toNat = k by omega]
          rw [e8]
          exact x_pick [_, _, _, _, _, _] [0, 3, 1, 4, 5, 2] rfl rfl (loop3 h175 2000 0 (by omega) (by omega))
        · refine x_bipush C eX8_load_178 rfl ?_
          refine x_iret (by first | rfl | exact (narZ (by omega)).1) C F eX8_load_180 () ?_ trivial (fun cf c h => ?_) (nle rfl) (nle rfl)
          · rw [← eR, if_neg h175]
          · rw [← eR, if_neg h175, if_neg h175, if_neg h175]
            refine PW.wf (PW_cons (fun _ h => h) (PW_cons (fun _ h => h) (PW_cons (fun _ h => ?_) (PW_cons (fun _ h => h) (PW_cons (fun _ h => h) (PW_cons (fun _ h => h) PW_nil)))))) (WF_pick [0, 1, 2, 3, 4, 5] rfl rfl h)
            rw [uN_12] at h
            exact ⟨_, h⟩
      · refine x_aload_n C eX8_load_134 rfl ?_
        refine yV0r [_, _, _, _, _] [_, _, _, _, _, _] C (s_X8_good hK hRP.1.2.2.2.1) v_X8_good vv_X8_good s_RX8_152 eX8_load_135 (fun _ _ h => WF_pick [0, 1, 2, 3, 4, 5] rfl rfl h) (rcv 0 rfl) rfl (nle rfl) (nle rfl) (nle rfl) (nle rfl) rfl ?_
        skip
        refine x_ifb_eq 163 C eX8_load_138 rfl (fun h138 => ?_) (fun h138 => ?_)
        · refine x_aload_n C eX8_load_163 rfl ?_
          refine x_aload_n C eX8_load_164 rfl ?_
          refine x_getR 0 C f_RX8_17 eX8_load_165 rfl rfl ?_
          refine x_putR [_, _, _, _, _, _, _, _, _, _, _, _, _, _, _, _, _, _, _, _, _, _, _] [_, _, _, _, _, _] 0 C f_RX8_24 eX8_load_168 rfl (nlt rfl) rfl rfl rfl rfl ?_
          refine x_aload_n C eX8_load_171 rfl ?_
          refine yV0r [_, _, _, _, _] [_, _, _, _, _, _] C (s_X8_good hK hRP.1.2.2.2.1) v_X8_good vv_X8_good s_RX8_152 eX8_load_172 (fun _ _ h => WF_pick [0, 1, 2, 3, 4, 5] rfl rfl h) (rcv 0 rfl) rfl (nle rfl) (nle rfl) (nle rfl) (nle rfl) rfl ?_
          skip
          refine x_ifb_ne 181 C eX8_load_175 rfl (fun h175 => ?_) (fun h175 => ?_)
          · refine x_aload_n C eX8_load_181 rfl ?_
            rw [uN_12]
            refine yV0v [_, _, _] [_, _, _, _, _, _] C (s_X8_remember hK (by omega)) v_X8_remember vv_X8_remember s_RX8_289 eX8_load_182 (fun _ _ h => WF_pick [0, 2, 5, 1, 3, 4] rfl rfl h) (rcv 0 rfl) rfl (nle rfl) (nle rfl) (nle rfl) (nle rfl) rfl ?_
            skip
            refine x_iconst C eX8_load_185 ?_
            refine x_istore_n [_, _] C eX8_load_186 rfl rfl (nlt rfl) ?_
            have e8 : tyN R.2.2.1 R.2.2.2 (ldD R.2.1) k = ldN Fb I TL TB := by unfold ldN; rw [← eR, show (R.1 16).toNat = k by omega]
            rw [e8]
            exact x_pick [_, _, _, _, _, _] [0, 3, 1, 4, 5, 2] rfl rfl (loop3 h175 2000 0 (by omega) (by omega))
          · refine x_bipush C eX8_load_178 rfl ?_
            refine x_iret (by first | rfl | exact (narZ (by omega)).1) C F eX8_load_180 () ?_ trivial (fun cf c h => ?_) (nle rfl) (nle rfl)
            · rw [← eR, if_neg h175]
            · rw [← eR, if_neg h175, if_neg h175, if_neg h175]
              refine PW.wf (PW_cons (fun _ h => h) (PW_cons (fun _ h => h) (PW_cons (fun _ h => ?_) (PW_cons (fun _ h => h) (PW_cons (fun _ h => h) (PW_cons (fun _ h => h) PW_nil)))))) (WF_pick [0, 1, 2, 3, 4, 5] rfl rfl h)
              rw [uN_12] at h
              exact ⟨_, h⟩
        · have hb9 := (tyN_ok (hRT h138) (ldD_ok hR.1.2.1 (hR.2 h138)) k (by omega))
          have ht9 := hRT h138 k (by omega)
          have hL9 := hb9.1.2.2 (R.2.2.1 k) ht9.1.1 (by rw [hb9.2]; exact ht9.1.2)
          unfold LineOk at hL9
          refine x_aload_n C eX8_load_141 rfl ?_
          refine x_aload_n C eX8_load_142 rfl ?_
          refine x_getR 0 C f_RX8_37 eX8_load_143 rfl rfl ?_
          refine x_iload_n C eX8_load_146 rfl ?_
          refine x_iald 3 C eX8_load_147 rfl (by decide) (by omega) ?_
          refine x_aload_n C eX8_load_148 rfl ?_
          refine x_getR 0 C f_RX8_40 eX8_load_149 rfl rfl ?_
          refine x_iload_n C eX8_load_152 rfl ?_
          refine x_iald 4 C eX8_load_153 rfl (by decide) (by omega) ?_
          rw [Int.toNat_natCast]
          refine yV2v [_, _, _, _] [_, _, _, _, _, _] C (s_X8_typeOne hK hr (by omega) (by omega) (by omega)) v_X8_typeOne vv_X8_typeOne s_RX8_286 eX8_load_154 (fun _ _ h => WF_pick [0, 2, 1, 3, 4, 5] rfl rfl h) (rcv 0 rfl) rfl (nle rfl) (nle rfl) (nle rfl) (nle rfl) rfl ?_
          skip
          refine x_iinc [_, _] C eX8_load_157 rfl rfl rfl ?_
          refine x_goto (pc' := 126) C eX8_load_160 rfl ?_
          exact x_pick [_, _, _, _, _, _] [0, 2, 1, 3, 4, 5] rfl rfl (ih (k + 1) (by omega) (by omega))
  have j112 : WX G X 0 0 [ob o 10 (shM A 2) (R.1), ar G 1 (A 5) 400 400 (Fb), fam G A (uN (uN N 1 n) 2 R.2.1), ar G 0 (A 14) 60 60 (R.2.2.1), ar G 0 (A 15) 60 60 (R.2.2.2), ar G 0 (A 19) 10896 10896 (encM (P))] 112 [some (.ref o), none] [] := by
    refine x_aload_n C eX8_load_112 rfl ?_
    refine x_getR 0 C f_RX8_24 eX8_load_113 rfl rfl ?_
    refine x_iconst C eX8_load_116 ?_
    refine x_aload_n C eX8_load_117 rfl ?_
    refine x_iconst C eX8_load_118 ?_
    refine x_iconst C eX8_load_119 ?_
    refine yV2r [_, _, _, _] [_, _, _, _, _, _] C (s_X8_of hK hr (by omega) (by omega)) v_X8_of vv_X8_of s_RX8_64 eX8_load_120 (fun _ _ h => WF_pick [0, 2, 1, 3, 4, 5] rfl rfl h) (rcv 0 rfl) rfl (nle rfl) (nle rfl) (nle rfl) (nle rfl) rfl ?_
    skip
    refine x_fastU [_, _, _, _, _, _] 1 C eX8_load_123 rfl hr (by omega) rfl ?_
    rw [encU_head _ (by omega), show un R.2.1 (-1) (ub (R.2.1 (-1)) 3 (R.2.1 0 4)) = ldD R.2.1 from rfl]
    refine x_iconst C eX8_load_124 ?_
    refine x_istore_n [_, _] C eX8_load_125 rfl rfl (nlt rfl) ?_
    exact x_pick [_, _, _, _, _, _] [0, 2, 1, 3, 4, 5] rfl rfl (loop2 100 0 (by omega) (by omega))
  have loop1 : ∀ (g k : Nat) (s : paSt), k < g → PsOk Fb s → (s.1 12 = 0 → 402 - s.1 9 ≤ k) → psL Fb k s = R → WX G X 0 0 [ob o 10 (shM A 2) (s.1), ar G 1 (A 5) 400 400 (Fb), fam G A (uN (uN N 1 n) 2 s.2.1), ar G 0 (A 14) 60 60 (s.2.2.1), ar G 0 (A 15) 60 60 (s.2.2.2), ar G 0 (A 19) 10896 10896 (encM (P))] 91 [some (.ref o), none] [] := by
    intro g
    induction g with
    | zero => intro k s g0; exfalso; omega
    | succ g ih =>
      intro k s g0 g1 g2 g3
      have gs := g1.1
      unfold Pin Pin0 at gs
      have gd := g1.2.1
      have gm : ∀ k : Int, 0 ≤ k → k < s.2.1 (-1) 0 → 0 ≤ s.2.1 k 0 ∧ s.2.1 k 0 < 387420489 := fun k u v => (gd.2.2.1 k u v).1
      have g12 : ∀ k : Int, 0 ≤ k → k < 6 → 0 ≤ s.2.1 k 12 ∧ s.2.1 k 12 ≤ 99 := fun k u v => by
        rcases Int.lt_or_le k (s.2.1 (-1) 0) with q | q
        · exact (gd.2.2.1 k u q).2.2.2.2.2.2.2.2.2.2.2.1
        · rw [gd.2.2.2 k 12 q v (by decide) (by decide)]; decide
      refine x_aload_n C eX8_load_91 rfl ?_
      refine yV0r [_, _, _, _, _] [_, _, _, _, _, _] C (s_X8_good hK g1.1.1.2.2.2.1) v_X8_good vv_X8_good s_RX8_152 eX8_load_92 (fun _ _ h => WF_pick [0, 1, 2, 3, 4, 5] rfl rfl h) (rcv 0 rfl) rfl (nle rfl) (nle rfl) (nle rfl) (nle rfl) rfl ?_
      skip
      refine x_ifb_eq 112 C eX8_load_95 rfl (fun h95 => ?_) (fun h95 => ?_)
      · have e9 : s = R := by rw [← g3]; exact (psL_e (by omega) k).symm
        rw [e9]
        exact x_pick [_, _, _, _, _, _] [0, 1, 2, 3, 4, 5] rfl rfl (j112)
      · refine x_aload_n C eX8_load_98 rfl ?_
        refine x_getI 0 C f_RX8_168 eX8_load_99 rfl rfl ?_
        try simp (disch := decide) only [up_s, up_n]
        refine x_if_eq 112 C eX8_load_102 rfl (by omega) (fun h102 => ?_) (fun h102 => ?_)
        · have e9 : s = R := by rw [← g3]; exact (psL_e (by omega) k).symm
          rw [e9]
          exact x_pick [_, _, _, _, _, _] [0, 1, 2, 3, 4, 5] rfl rfl (j112)
        · refine x_aload_n C eX8_load_105 rfl ?_
          refine yV0v [_] [_, _, _, _, _, _] C (s_X8_parseStatement hK hr hFb g1.1 hS gd.1 gm g12) v_X8_parseStatement vv_X8_parseStatement s_RX8_283 eX8_load_106 (fun _ _ h => WF_pick [0, 1, 2, 3, 4, 5] rfl rfl h) (rcv 0 rfl) rfl (nle rfl) (nle rfl) (nle rfl) (nle rfl) rfl ?_
          skip
          refine x_goto (pc' := 91) C eX8_load_109 rfl ?_
          obtain ⟨k2, rfl⟩ : ∃ k2, k = k2 + 1 := ⟨k - 1, by omega⟩
          have hs1 := psS_ok hFb g1.1
          have hs2 := PsOk_S hFb g1
          have hs3 := hs2.1
          unfold Pin Pin0 at hs3
          exact x_pick [_, _, _, _, _, _] [0, 1, 2, 3, 4, 5] rfl rfl (ih k2 (psS Fb s) (by omega) hs2 (fun z => by have := hs1.2 z; omega) (by rw [← g3]; exact (if_pos ⟨by omega, by omega⟩).symm))
  have loop0 : ∀ (f k : Nat), k ≤ 1816 → 1816 < k + f → WX G X 0 0 [ob o 10 (shM A 1) (ldI0 I), ar G 1 (A 5) 400 400 (Fb), fam G A (uN (uN N 2 (cpy (fun _ => 0) (N 2) k)) 1 n), ar G 0 (A 14) 60 60 (TL), ar G 0 (A 15) 60 60 (TB), ar G 0 (A 19) 10896 10896 (encM (P))] 40 [some (.ref o), some (.int (zI (k : Int)))] [] := by
    intro f
    induction f with
    | zero => intro k g0 g1; exfalso; omega
    | succ f ih =>
      intro k g0 g1
      refine x_iload_n C eX8_load_40 rfl ?_
      refine x_sipush C eX8_load_41 rfl ?_
      refine x_icmp_ge 60 C eX8_load_44 rfl (by omega) (by omega) (fun h44 => ?_) (fun h44 => ?_)
      · obtain rfl : k = 1816 := by omega
        refine x_ws [ob o 10 (shM A 1) (ldI0 I), ar G 1 (A 5) 400 400 (Fb), fam G A (uN (uN N 1 n) 2 Zn), ar G 0 (A 14) 60 60 (TL), ar G 0 (A 15) 60 60 (TB), ar G 0 (A 19) 10896 10896 (encM (P))] (fun cf c hw => PW.wf (PW_cons (fun _ h => h) (PW_cons (fun _ h => h) (PW_cons (fun _ h => fam_congr (fun r' hr' j hj => ?_) h) (PW_cons (fun _ h => h) (PW_cons (fun _ h => h) (PW_cons (fun _ h => h) PW_nil)))))) hw) ?_
        · rw [uN_12]
          unfold uN
          split
          · rfl
          · split
            · rw [enc_cpy _ _ _ (Nat.le_refl _) j hj, if_pos hj, enc_Z]
            · rfl
        refine x_lv [_, none] rfl (lx_drop _ [1] rfl) ?_
        refine x_aload_n C eX8_load_60 rfl ?_
        refine x_aload_n C eX8_load_61 rfl ?_
        refine x_getR 0 C f_RX8_21 eX8_load_62 rfl rfl ?_
        refine x_putR [_, _, _, _, _, _, _, _, _, _, _, _, _, _, _, _, _, _, _, _, _, _, _] [_, _, _, _, _, _] 0 C f_RX8_24 eX8_load_65 rfl (nlt rfl) rfl rfl rfl rfl ?_
        refine x_aload_n C eX8_load_68 rfl ?_
        refine yV0v [_, _, _, _] [_, _, _, _, _, _] C (s_X8_scan hK (by omega) hJ0.1 hJ0.2.1) v_X8_scan vv_X8_scan s_RX8_182 eX8_load_69 (fun _ _ h => WF_pick [0, 1, 2, 3, 4, 5] rfl rfl h) (rcv 0 rfl) rfl (nle rfl) (nle rfl) (nle rfl) (nle rfl) rfl ?_
        skip
        refine x_aload_n C eX8_load_72 rfl ?_
        refine x_aload_n C eX8_load_73 rfl ?_
        obtain ⟨q74, b74, hr74, hq74⟩ := lit_RX8_207 hS
        refine x_ldcS C hr74 eX8_load_74 ?_
        refine yV1r [_, _, _, _] [_, _, _, _, _, _] C (s_X8_isWord hK hFb hJ1 hS hq74) v_X8_isWord vv_X8_isWord s_RX8_203 eX8_load_76 (fun _ _ h => WF_pick [0, 1, 2, 3, 4, 5] rfl rfl h) (rcv 0 rfl) rfl (nle rfl) (nle rfl) (nle rfl) (nle rfl) rfl ?_
        skip
        refine x_ifb_ne 86 C eX8_load_79 rfl (fun h79 => ?_) (fun h79 => ?_)
        · refine x_iconst C eX8_load_86 ?_
          refine x_iconst C eX8_load_87 ?_
          refine yV2v [_, _, _, _, _] [_, _, _, _, _, _] C (s_X8_errsIf hK (¬ isWd Fb (scanI Fb (ldI0 I)) w_line = true) (by first | (rw [bz_t]; assumption) | (rw [bz_f]; exact fun z => z (by assumption))) hJ1.1.2.2.2.1) v_X8_errsIf vv_X8_errsIf s_RX8_241 eX8_load_88 (fun _ _ h => WF_pick [0, 1, 2, 3, 4, 5] rfl rfl h) (rcv 0 rfl) rfl (nle rfl) (nle rfl) (nle rfl) (nle rfl) rfl ?_
          skip
          exact x_pick [_, _, _, _, _, _] [0, 1, 2, 3, 4, 5] rfl rfl (loop1 501 500 (ldJ Fb I, Zn, TL, TB) (by omega) hJ2 (fun _ => by have := hJ2.1.2.1; show 402 - ldJ Fb I 9 ≤ ((500 : Nat) : Int); have q : 0 ≤ ldJ Fb I 9 := this.1; omega) eR.symm)
        · refine x_iconst C eX8_load_82 ?_
          refine x_goto (pc' := 87) C eX8_load_83 rfl ?_
          refine x_iconst C eX8_load_87 ?_
          refine yV2v [_, _, _, _, _] [_, _, _, _, _, _] C (s_X8_errsIf hK (¬ isWd Fb (scanI Fb (ldI0 I)) w_line = true) (by first | (rw [bz_t]; assumption) | (rw [bz_f]; exact fun z => z (by assumption))) hJ1.1.2.2.2.1) v_X8_errsIf vv_X8_errsIf s_RX8_241 eX8_load_88 (fun _ _ h => WF_pick [0, 1, 2, 3, 4, 5] rfl rfl h) (rcv 0 rfl) rfl (nle rfl) (nle rfl) (nle rfl) (nle rfl) rfl ?_
          skip
          exact x_pick [_, _, _, _, _, _] [0, 1, 2, 3, 4, 5] rfl rfl (loop1 501 500 (ldJ Fb I, Zn, TL, TB) (by omega) hJ2 (fun _ => by have := hJ2.1.2.1; show 402 - ldJ Fb I 9 ≤ ((500 : Nat) : Int); have q : 0 ≤ ldJ Fb I 9 := this.1; omega) eR.symm)
      · refine x_aload_n C eX8_load_47 rfl ?_
        refine x_getR 0 C f_RX8_21 eX8_load_48 rfl rfl ?_
        refine x_iload_n C eX8_load_51 rfl ?_
        refine x_iconst C eX8_load_52 ?_
        refine x_fast [_, _, _, _, _, _] 2 C eX8_load_53 rfl (Or.inr (Or.inl rfl)) (by omega) rfl ?_
        rw [Int.toNat_natCast, show (uN (uN N 2 (cpy (fun _ => 0) (N 2) k)) 1 n) 2 = cpy (fun _ => 0) (N 2) k from rfl, uN_21]
        refine x_iinc [_, _] C eX8_load_54 rfl rfl rfl ?_
        refine x_goto (pc' := 40) C eX8_load_57 rfl ?_
        exact x_pick [_, _, _, _, _, _] [0, 1, 2, 3, 4, 5] rfl rfl (ih (k + 1) (by omega) (by omega))
  refine x_aload_n C eX8_load_0 rfl ?_
  refine x_iconst C eX8_load_1 ?_
  refine x_putI [_, _, _, _, _, _] 0 C f_RX8_3 eX8_load_2 rfl rfl rfl ?_
  refine x_aload_n C eX8_load_5 rfl ?_
  refine x_aload_n C eX8_load_6 rfl ?_
  refine x_getI 0 C f_RX8_139 eX8_load_7 rfl rfl ?_
  try simp (disch := decide) only [up_s, up_n]
  refine x_putI [_, _, _, _, _, _] 0 C f_RX8_158 eX8_load_10 rfl rfl rfl ?_
  refine x_aload_n C eX8_load_13 rfl ?_
  refine x_iconst C eX8_load_14 ?_
  refine x_putI [_, _, _, _, _, _] 0 C f_RX8_139 eX8_load_15 rfl rfl rfl ?_
  refine x_aload_n C eX8_load_18 rfl ?_
  refine x_iconst C eX8_load_19 ?_
  refine x_putI [_, _, _, _, _, _] 0 C f_RX8_161 eX8_load_20 rfl rfl rfl ?_
  refine x_aload_n C eX8_load_23 rfl ?_
  refine x_iconst C eX8_load_24 ?_
  refine x_putI [_, _, _, _, _, _] 0 C f_RX8_149 eX8_load_25 rfl rfl rfl ?_
  refine x_aload_n C eX8_load_28 rfl ?_
  refine x_iconst C eX8_load_29 ?_
  refine x_putI [_, _, _, _, _, _] 0 C f_RX8_34 eX8_load_30 rfl rfl rfl ?_
  refine x_aload_n C eX8_load_33 rfl ?_
  refine x_iconst C eX8_load_34 ?_
  refine x_putI [_, _, _, _, _, _] 0 C f_RX8_271 eX8_load_35 rfl rfl rfl ?_
  refine x_iconst C eX8_load_38 ?_
  refine x_istore_n [_, _] C eX8_load_39 rfl rfl (nlt rfl) ?_
  refine x_ws [ob o 10 (shM A 1) (ldI0 I), ar G 1 (A 5) 400 400 (Fb), fam G A (uN (uN N 2 (cpy (fun _ => 0) (N 2) 0)) 1 n), ar G 0 (A 14) 60 60 (TL), ar G 0 (A 15) 60 60 (TB), ar G 0 (A 19) 10896 10896 (encM (P))] (fun cf c hw => ?_) (loop0 2000 0 (by omega) (by omega))
  rw [show cpy (fun _ => 0) (N 2) 0 = N 2 from rfl, uN_id]
  exact hw
