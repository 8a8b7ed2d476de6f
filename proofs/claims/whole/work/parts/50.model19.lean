set_option maxHeartbeats 4000000 in
set_option maxRecDepth 100000 in
theorem s_X8_scan {G : Gm} {l : Launch} (hK : KG G) {o r : Nat} {A : Nat → Nat} {I Fb : Nat → Int} (hFb : ∀ j, -128 ≤ Fb j ∧ Fb j ≤ 127) (h7 : 0 ≤ I 7 ∧ I 7 ≤ 400) (h8 : 0 ≤ I 8 ∧ I 8 ≤ 401) : MD G l yX8_scan cX8_scan 2 none 2 0 0 [.ref o] [ob o 10 (shM A r) I, ar G 1 (A 5) 400 400 (Fb)] none [ob o 10 (shM A r) (scanI Fb I), ar G 1 (A 5) 400 400 (Fb)] := by
  refine MX_of (lv := [some (.ref o), none]) hK (by decide +kernel) rfl (nle rfl) (fun X C F => ?_)
  have C : OKc G X l RX8 "scan" cX8_scan 2 none 2 0 0 := C
  obtain ⟨s9, hs9⟩ : ∃ s9, s9 = skp isW (byt Fb (I 7)) 500 (I 8) := ⟨_, rfl⟩
  obtain ⟨c9, hc9⟩ : ∃ c9, c9 = byt Fb (I 7) s9 := ⟨_, rfl⟩
  have hsc : scanI Fb I = if c9 = -1 then setI I s9 s9 0 (I 11) else if 97 ≤ c9 ∧ c9 ≤ 122 then setI I (skp isA (byt Fb (I 7)) 500 s9) s9 1 (I 11) else if 48 ≤ c9 ∧ c9 ≤ 57 then setI I (nums (byt Fb (I 7)) 500 s9 0).1 s9 2 (nums (byt Fb (I 7)) 500 s9 0).2 else setI I (s9 + 1) s9 3 c9 := by
    subst hc9 hs9
    rfl
  have loop3 : ∀ (g f : Nat) (k : Int) (v' : Int), f < g → 0 ≤ k → k ≤ 401 → 402 ≤ k + f → (0 ≤ v' ∧ v' ≤ 9999) ∧ (48 ≤ c9 ∧ c9 ≤ 57) ∧ nums (byt Fb (I 7)) f k v' = nums (byt Fb (I 7)) 500 s9 0 → WX G X 0 0 [ob o 10 (shM A r) (up (up (up (up I 8 (k)) 9 (s9)) 10 (I 10)) 11 (v')), ar G 1 (A 5) 400 400 (Fb)] 144 [some (.ref o), some (.int (zI c9))] [] := by
    intro g
    induction g with
    | zero => intro f k v' h0; exfalso; omega
    | succ g ih =>
      intro f k v' h0 h1 h2 h3 h4
      have hb9 := byt_r (ts := I 7) (k := k) hFb
      refine x_aload_n C eX8_scan_144 rfl ?_
      refine x_aload_n C eX8_scan_145 rfl ?_
      refine x_getI 0 C f_RX8_161 eX8_scan_146 rfl rfl ?_
      try simp (disch := decide) only [up_s, up_n]
      refine yV1r [] [_, _] C (s_X8_byteAt hK hFb (by (try simp (disch := decide) only [up_s, up_n]); omega) (by (try simp (disch := decide) only [up_s, up_n]); omega)) v_X8_byteAt vv_X8_byteAt s_RX8_164 eX8_scan_149 (fun _ _ h => WF_pick [0, 1] rfl rfl h) (rcv 0 rfl) rfl (nle rfl) (nle rfl) (nle rfl) (nle rfl) rfl ?_
      try simp (disch := decide) only [up_s, up_n]
      refine x_i2l C eX8_scan_152 (by omega) ?_
      refine x_ldc2 C eX8_scan_153 k_RX8_175 ?_
      refine x_ldc2 C eX8_scan_156 k_RX8_177 ?_
      refine yS3r [_, _] [_, _] C (s_X8_in hK (by omega)) v_X8_in vs_X8_in s_RX8_72 eX8_scan_159 (fun _ _ h => WF_pick [0, 1] rfl rfl h) rfl (nle rfl) (nle rfl) (nle rfl) (nle rfl) rfl ?_
      refine x_ifb_eq 207 C eX8_scan_162 rfl (fun h162 => ?_) (fun h162 => ?_)
      · obtain ⟨f', rfl⟩ : ∃ f', f = f' + 1 := ⟨f - 1, by omega⟩
        have hk : nums (byt Fb (I 7)) 500 s9 0 = (k, v') := by
          rw [← h4.2.2]
          exact if_neg (by unfold isD; rw [decide_eq_true_iff]; omega)
        refine x_aload_n C eX8_scan_207 rfl ?_
        refine x_iconst C eX8_scan_208 ?_
        refine x_putI [_, _] 0 C f_RX8_168 eX8_scan_209 rfl rfl rfl ?_
        refine x_goto (pc' := 235) C eX8_scan_212 rfl ?_
        refine x_vret C F eX8_scan_235 () rfl trivial (fun cf c h => ?_) (nle rfl) (nle rfl)
        rw [hsc]
        first
          | rw [if_pos (by omega)]
          | rw [if_neg (by omega), if_pos (by omega)]
          | rw [if_neg (by omega), if_neg (by omega), if_pos (by omega)]
          | rw [if_neg (by omega), if_neg (by omega), if_neg (by omega)]
        (try rw [hk])
        unfold setI
        refine PW.wf (PW_cons (fun _ h => ob_congr (fun i _ => ?_) h) (PW_cons (fun _ h => h) PW_nil)) (WF_pick [0, 1] rfl rfl h)
        simp only [up_lit]
        repeat' split
        all_goals first | rfl | omega | (congr 1 <;> omega)
      · refine x_aload_n C eX8_scan_165 rfl ?_
        refine x_sipush C eX8_scan_166 rfl ?_
        refine x_bipush C eX8_scan_169 rfl ?_
        refine x_aload_n C eX8_scan_171 rfl ?_
        refine x_getI 0 C f_RX8_179 eX8_scan_172 rfl rfl ?_
        try simp (disch := decide) only [up_s, up_n]
        refine x_imul C eX8_scan_175 ?_
        refine x_aload_n C eX8_scan_176 rfl ?_
        refine x_aload_n C eX8_scan_177 rfl ?_
        refine x_getI 0 C f_RX8_161 eX8_scan_178 rfl rfl ?_
        try simp (disch := decide) only [up_s, up_n]
        refine yV1r [] [_, _] C (s_X8_byteAt hK hFb (by (try simp (disch := decide) only [up_s, up_n]); omega) (by (try simp (disch := decide) only [up_s, up_n]); omega)) v_X8_byteAt vv_X8_byteAt s_RX8_164 eX8_scan_181 (fun _ _ h => WF_pick [0, 1] rfl rfl h) (rcv 0 rfl) rfl (nle rfl) (nle rfl) (nle rfl) (nle rfl) rfl ?_
        try simp (disch := decide) only [up_s, up_n]
        refine x_iadd C eX8_scan_184 ?_
        refine x_bipush C eX8_scan_185 rfl ?_
        refine x_isub C eX8_scan_187 ?_
        refine x_min C s_RX8_100 s2_min eX8_scan_188 rfl (nle rfl) (nle rfl) (nle rfl) (nle rfl) (by omega) (by omega) ?_
        refine x_putI [_, _] 0 C f_RX8_179 eX8_scan_191 rfl rfl rfl ?_
        refine x_aload_n C eX8_scan_194 rfl ?_
        refine x_dup C eX8_scan_195 rfl ?_
        refine x_getI 0 C f_RX8_161 eX8_scan_196 rfl rfl ?_
        try simp (disch := decide) only [up_s, up_n]
        refine x_iconst C eX8_scan_199 ?_
        refine x_iadd C eX8_scan_200 ?_
        refine x_putI [_, _] 0 C f_RX8_161 eX8_scan_201 rfl rfl rfl ?_
        refine x_goto (pc' := 144) C eX8_scan_204 rfl ?_
        obtain ⟨f', rfl⟩ : ∃ f', f = f' + 1 := ⟨f - 1, by omega⟩
        have hk9 := byt_k (F := Fb) (ts := I 7) (k := k) (by omega)
        refine x_ws [ob o 10 (shM A r) (up (up (up (up I 8 (k + 1)) 9 (s9)) 10 (I 10)) 11 (min 9999 (10 * v' + byt Fb (I 7) k - 48))), ar G 1 (A 5) 400 400 (Fb)] (fun cf c hw => PW.wf (PW_cons (fun _ h => ob_congr (fun i _ => ?_) h) (PW_cons (fun _ h => h) PW_nil)) hw) ?_
        · simp only [up_lit]
          repeat' split
          all_goals first | rfl | omega | (congr 1 <;> omega)
        exact ih f' (k + 1) _ (by omega) (by omega) (by omega) (by omega) ⟨by omega, h4.2.1, by rw [← h4.2.2]; exact (if_pos (by unfold isD; rw [decide_eq_true_iff]; omega)).symm⟩
  have loop2 : ∀ (g f : Nat) (k : Int), f < g → 0 ≤ k → k ≤ 401 → 402 ≤ k + f → (97 ≤ c9 ∧ c9 ≤ 122) ∧ skp isA (byt Fb (I 7)) f k = skp isA (byt Fb (I 7)) 500 s9 → WX G X 0 0 [ob o 10 (shM A r) (up (up (up (up I 8 (k)) 9 (s9)) 10 (I 10)) 11 (I 11)), ar G 1 (A 5) 400 400 (Fb)] 83 [some (.ref o), some (.int (zI c9))] [] := by
    intro g
    induction g with
    | zero => intro f k h0; exfalso; omega
    | succ g ih =>
      intro f k h0 h1 h2 h3 h4
      have hb9 := byt_r (ts := I 7) (k := k) hFb
      refine x_aload_n C eX8_scan_83 rfl ?_
      refine x_aload_n C eX8_scan_84 rfl ?_
      refine x_getI 0 C f_RX8_161 eX8_scan_85 rfl rfl ?_
      try simp (disch := decide) only [up_s, up_n]
      refine yV1r [] [_, _] C (s_X8_byteAt hK hFb (by (try simp (disch := decide) only [up_s, up_n]); omega) (by (try simp (disch := decide) only [up_s, up_n]); omega)) v_X8_byteAt vv_X8_byteAt s_RX8_164 eX8_scan_88 (fun _ _ h => WF_pick [0, 1] rfl rfl h) (rcv 0 rfl) rfl (nle rfl) (nle rfl) (nle rfl) (nle rfl) rfl ?_
      try simp (disch := decide) only [up_s, up_n]
      refine x_i2l C eX8_scan_91 (by omega) ?_
      refine x_ldc2 C eX8_scan_92 k_RX8_171 ?_
      refine x_ldc2 C eX8_scan_95 k_RX8_173 ?_
      refine yS3r [_, _] [_, _] C (s_X8_in hK (by omega)) v_X8_in vs_X8_in s_RX8_72 eX8_scan_98 (fun _ _ h => WF_pick [0, 1] rfl rfl h) rfl (nle rfl) (nle rfl) (nle rfl) (nle rfl) rfl ?_
      refine x_ifb_eq 117 C eX8_scan_101 rfl (fun h101 => ?_) (fun h101 => ?_)
      · obtain ⟨f', rfl⟩ : ∃ f', f = f' + 1 := ⟨f - 1, by omega⟩
        have hk : skp isA (byt Fb (I 7)) 500 s9 = k := by
          rw [← h4.2]
          exact if_neg (by unfold isA; rw [decide_eq_true_iff]; omega)
        refine x_aload_n C eX8_scan_117 rfl ?_
        refine x_iconst C eX8_scan_118 ?_
        refine x_putI [_, _] 0 C f_RX8_168 eX8_scan_119 rfl rfl rfl ?_
        refine x_goto (pc' := 235) C eX8_scan_122 rfl ?_
        refine x_vret C F eX8_scan_235 () rfl trivial (fun cf c h => ?_) (nle rfl) (nle rfl)
        rw [hsc]
        first
          | rw [if_pos (by omega)]
          | rw [if_neg (by omega), if_pos (by omega)]
          | rw [if_neg (by omega), if_neg (by omega), if_pos (by omega)]
          | rw [if_neg (by omega), if_neg (by omega), if_neg (by omega)]
        (try rw [hk])
        unfold setI
        refine PW.wf (PW_cons (fun _ h => ob_congr (fun i _ => ?_) h) (PW_cons (fun _ h => h) PW_nil)) (WF_pick [0, 1] rfl rfl h)
        simp only [up_lit]
        repeat' split
        all_goals first | rfl | omega | (congr 1 <;> omega)
      · refine x_aload_n C eX8_scan_104 rfl ?_
        refine x_dup C eX8_scan_105 rfl ?_
        refine x_getI 0 C f_RX8_161 eX8_scan_106 rfl rfl ?_
        try simp (disch := decide) only [up_s, up_n]
        refine x_iconst C eX8_scan_109 ?_
        refine x_iadd C eX8_scan_110 ?_
        refine x_putI [_, _] 0 C f_RX8_161 eX8_scan_111 rfl rfl rfl ?_
        refine x_goto (pc' := 83) C eX8_scan_114 rfl ?_
        obtain ⟨f', rfl⟩ : ∃ f', f = f' + 1 := ⟨f - 1, by omega⟩
        have hk9 := byt_k (F := Fb) (ts := I 7) (k := k) (by omega)
        refine x_ws [ob o 10 (shM A r) (up (up (up (up I 8 (k + 1)) 9 (s9)) 10 (I 10)) 11 (I 11)), ar G 1 (A 5) 400 400 (Fb)] (fun cf c hw => PW.wf (PW_cons (fun _ h => ob_congr (fun i _ => ?_) h) (PW_cons (fun _ h => h) PW_nil)) hw) ?_
        · simp only [up_lit]
          repeat' split
          all_goals first | rfl | omega | (congr 1 <;> omega)
        exact ih f' (k + 1) (by omega) (by omega) (by omega) (by omega) ⟨h4.1, by rw [← h4.2]; exact (if_pos (by unfold isA; rw [decide_eq_true_iff]; omega)).symm⟩
  have loop1 : ∀ (g f : Nat) (k : Int), f < g → 0 ≤ k → k ≤ 401 → 402 ≤ k + f → skp isW (byt Fb (I 7)) f k = s9 → WX G X 0 0 [ob o 10 (shM A r) (up (up (up (up I 8 (k)) 9 (I 9)) 10 (I 10)) 11 (I 11)), ar G 1 (A 5) 400 400 (Fb)] 0 [some (.ref o), none] [] := by
    intro g
    induction g with
    | zero => intro f k h0; exfalso; omega
    | succ g ih =>
      intro f k h0 h1 h2 h3 h4
      have hb9 := byt_r (ts := I 7) (k := k) hFb
      refine x_aload_n C eX8_scan_0 rfl ?_
      refine x_aload_n C eX8_scan_1 rfl ?_
      refine x_getI 0 C f_RX8_161 eX8_scan_2 rfl rfl ?_
      try simp (disch := decide) only [up_s, up_n]
      refine yV1r [] [_, _] C (s_X8_byteAt hK hFb (by (try simp (disch := decide) only [up_s, up_n]); omega) (by (try simp (disch := decide) only [up_s, up_n]); omega)) v_X8_byteAt vv_X8_byteAt s_RX8_164 eX8_scan_5 (fun _ _ h => WF_pick [0, 1] rfl rfl h) (rcv 0 rfl) rfl (nle rfl) (nle rfl) (nle rfl) (nle rfl) rfl ?_
      try simp (disch := decide) only [up_s, up_n]
      refine x_bipush C eX8_scan_8 rfl ?_
      refine x_icmp_eq 26 C eX8_scan_10 rfl (by omega) (by omega) (fun h10 => ?_) (fun h10 => ?_)
      · refine x_aload_n C eX8_scan_26 rfl ?_
        refine x_dup C eX8_scan_27 rfl ?_
        refine x_getI 0 C f_RX8_161 eX8_scan_28 rfl rfl ?_
        try simp (disch := decide) only [up_s, up_n]
        refine x_iconst C eX8_scan_31 ?_
        refine x_iadd C eX8_scan_32 ?_
        refine x_putI [_, _] 0 C f_RX8_161 eX8_scan_33 rfl rfl rfl ?_
        refine x_goto (pc' := 0) C eX8_scan_36 rfl ?_
        obtain ⟨f', rfl⟩ : ∃ f', f = f' + 1 := ⟨f - 1, by omega⟩
        have hk9 := byt_k (F := Fb) (ts := I 7) (k := k) (by omega)
        refine x_ws [ob o 10 (shM A r) (up (up (up (up I 8 (k + 1)) 9 (I 9)) 10 (I 10)) 11 (I 11)), ar G 1 (A 5) 400 400 (Fb)] (fun cf c hw => PW.wf (PW_cons (fun _ h => ob_congr (fun i _ => ?_) h) (PW_cons (fun _ h => h) PW_nil)) hw) ?_
        · simp only [up_lit]
          repeat' split
          all_goals first | rfl | omega | (congr 1 <;> omega)
        exact ih f' (k + 1) (by omega) (by omega) (by omega) (by omega) (by rw [← h4]; exact (if_pos (by unfold isW; rw [decide_eq_true_iff]; omega)).symm)
      · refine x_aload_n C eX8_scan_13 rfl ?_
        refine x_aload_n C eX8_scan_14 rfl ?_
        refine x_getI 0 C f_RX8_161 eX8_scan_15 rfl rfl ?_
        try simp (disch := decide) only [up_s, up_n]
        refine yV1r [] [_, _] C (s_X8_byteAt hK hFb (by (try simp (disch := decide) only [up_s, up_n]); omega) (by (try simp (disch := decide) only [up_s, up_n]); omega)) v_X8_byteAt vv_X8_byteAt s_RX8_164 eX8_scan_18 (fun _ _ h => WF_pick [0, 1] rfl rfl h) (rcv 0 rfl) rfl (nle rfl) (nle rfl) (nle rfl) (nle rfl) rfl ?_
        try simp (disch := decide) only [up_s, up_n]
        refine x_bipush C eX8_scan_21 rfl ?_
        refine x_icmp_ne 39 C eX8_scan_23 rfl (by omega) (by omega) (fun h23 => ?_) (fun h23 => ?_)
        · obtain ⟨f', rfl⟩ : ∃ f', f = f' + 1 := ⟨f - 1, by omega⟩
          have hk : s9 = k := by
            rw [← h4]
            exact if_neg (by unfold isW; rw [decide_eq_true_iff]; omega)
          have hc : c9 = byt Fb (I 7) k := by rw [← hk]; exact hc9
          refine x_aload_n C eX8_scan_39 rfl ?_
          refine x_aload_n C eX8_scan_40 rfl ?_
          refine x_getI 0 C f_RX8_161 eX8_scan_41 rfl rfl ?_
          try simp (disch := decide) only [up_s, up_n]
          refine x_putI [_, _] 0 C f_RX8_155 eX8_scan_44 rfl rfl rfl ?_
          refine x_aload_n C eX8_scan_47 rfl ?_
          refine x_aload_n C eX8_scan_48 rfl ?_
          refine x_getI 0 C f_RX8_161 eX8_scan_49 rfl rfl ?_
          try simp (disch := decide) only [up_s, up_n]
          refine yV1r [] [_, _] C (s_X8_byteAt hK hFb (by (try simp (disch := decide) only [up_s, up_n]); omega) (by (try simp (disch := decide) only [up_s, up_n]); omega)) v_X8_byteAt vv_X8_byteAt s_RX8_164 eX8_scan_52 (fun _ _ h => WF_pick [0, 1] rfl rfl h) (rcv 0 rfl) rfl (nle rfl) (nle rfl) (nle rfl) (nle rfl) rfl ?_
          try simp (disch := decide) only [up_s, up_n]
          refine x_istore_n [_, _] C eX8_scan_55 rfl rfl (nlt rfl) ?_
          refine x_iload_n C eX8_scan_56 rfl ?_
          refine x_iconst C eX8_scan_57 ?_
          refine x_icmp_ne 69 C eX8_scan_58 rfl (by omega) (by omega) (fun h58 => ?_) (fun h58 => ?_)
          · refine x_iload_n C eX8_scan_69 rfl ?_
            refine x_i2l C eX8_scan_70 (by omega) ?_
            refine x_ldc2 C eX8_scan_71 k_RX8_171 ?_
            refine x_ldc2 C eX8_scan_74 k_RX8_173 ?_
            refine yS3r [_, _] [_, _] C (s_X8_in hK (by omega)) v_X8_in vs_X8_in s_RX8_72 eX8_scan_77 (fun _ _ h => WF_pick [0, 1] rfl rfl h) rfl (nle rfl) (nle rfl) (nle rfl) (nle rfl) rfl ?_
            refine x_ifb_eq 125 C eX8_scan_80 rfl (fun h80 => ?_) (fun h80 => ?_)
            · refine x_iload_n C eX8_scan_125 rfl ?_
              refine x_i2l C eX8_scan_126 (by omega) ?_
              refine x_ldc2 C eX8_scan_127 k_RX8_175 ?_
              refine x_ldc2 C eX8_scan_130 k_RX8_177 ?_
              refine yS3r [_, _] [_, _] C (s_X8_in hK (by omega)) v_X8_in vs_X8_in s_RX8_72 eX8_scan_133 (fun _ _ h => WF_pick [0, 1] rfl rfl h) rfl (nle rfl) (nle rfl) (nle rfl) (nle rfl) rfl ?_
              refine x_ifb_eq 215 C eX8_scan_136 rfl (fun h136 => ?_) (fun h136 => ?_)
              · refine x_aload_n C eX8_scan_215 rfl ?_
                refine x_iconst C eX8_scan_216 ?_
                refine x_putI [_, _] 0 C f_RX8_168 eX8_scan_217 rfl rfl rfl ?_
                refine x_aload_n C eX8_scan_220 rfl ?_
                refine x_iload_n C eX8_scan_221 rfl ?_
                refine x_putI [_, _] 0 C f_RX8_179 eX8_scan_222 rfl rfl rfl ?_
                refine x_aload_n C eX8_scan_225 rfl ?_
                refine x_dup C eX8_scan_226 rfl ?_
                refine x_getI 0 C f_RX8_161 eX8_scan_227 rfl rfl ?_
                try simp (disch := decide) only [up_s, up_n]
                refine x_iconst C eX8_scan_230 ?_
                refine x_iadd C eX8_scan_231 ?_
                refine x_putI [_, _] 0 C f_RX8_161 eX8_scan_232 rfl rfl rfl ?_
                refine x_vret C F eX8_scan_235 () rfl trivial (fun cf c h => ?_) (nle rfl) (nle rfl)
                rw [hsc]
                first
                  | rw [if_pos (by omega)]
                  | rw [if_neg (by omega), if_pos (by omega)]
                  | rw [if_neg (by omega), if_neg (by omega), if_pos (by omega)]
                  | rw [if_neg (by omega), if_neg (by omega), if_neg (by omega)]
                (try rw [hk])
                unfold setI
                refine PW.wf (PW_cons (fun _ h => ob_congr (fun i _ => ?_) h) (PW_cons (fun _ h => h) PW_nil)) (WF_pick [0, 1] rfl rfl h)
                simp only [up_lit]
                repeat' split
                all_goals first | rfl | omega | (congr 1 <;> omega)
              · refine x_aload_n C eX8_scan_139 rfl ?_
                refine x_iconst C eX8_scan_140 ?_
                refine x_putI [_, _] 0 C f_RX8_179 eX8_scan_141 rfl rfl rfl ?_
                refine x_ws [ob o 10 (shM A r) (up (up (up (up I 8 (s9)) 9 (s9)) 10 (I 10)) 11 (0)), ar G 1 (A 5) 400 400 (Fb)] (fun cf c hw => PW.wf (PW_cons (fun _ h => ob_congr (fun i _ => ?_) h) (PW_cons (fun _ h => h) PW_nil)) hw) ?_
                · simp only [up_lit]
                  repeat' split
                  all_goals first | rfl | omega | (congr 1 <;> omega)
                rw [← hc]
                exact loop3 501 500 s9 0 (by omega) (by omega) (by omega) (by omega) ⟨by decide, by rw [hc]; assumption, rfl⟩
            · refine x_ws [ob o 10 (shM A r) (up (up (up (up I 8 (s9)) 9 (s9)) 10 (I 10)) 11 (I 11)), ar G 1 (A 5) 400 400 (Fb)] (fun cf c hw => PW.wf (PW_cons (fun _ h => ob_congr (fun i _ => ?_) h) (PW_cons (fun _ h => h) PW_nil)) hw) ?_
              · simp only [up_lit]
                repeat' split
                all_goals first | rfl | omega | (congr 1 <;> omega)
              rw [← hc]
              exact loop2 501 500 s9 (by omega) (by omega) (by omega) (by omega) ⟨by rw [hc]; assumption, rfl⟩
          · refine x_aload_n C eX8_scan_61 rfl ?_
            refine x_iconst C eX8_scan_62 ?_
            refine x_putI [_, _] 0 C f_RX8_168 eX8_scan_63 rfl rfl rfl ?_
            refine x_goto (pc' := 235) C eX8_scan_66 rfl ?_
            refine x_vret C F eX8_scan_235 () rfl trivial (fun cf c h => ?_) (nle rfl) (nle rfl)
            rw [hsc]
            first
              | rw [if_pos (by omega)]
              | rw [if_neg (by omega), if_pos (by omega)]
              | rw [if_neg (by omega), if_neg (by omega), if_pos (by omega)]
              | rw [if_neg (by omega), if_neg (by omega), if_neg (by omega)]
            (try rw [hk])
            unfold setI
            refine PW.wf (PW_cons (fun _ h => ob_congr (fun i _ => ?_) h) (PW_cons (fun _ h => h) PW_nil)) (WF_pick [0, 1] rfl rfl h)
            simp only [up_lit]
            repeat' split
            all_goals first | rfl | omega | (congr 1 <;> omega)
        · refine x_aload_n C eX8_scan_26 rfl ?_
          refine x_dup C eX8_scan_27 rfl ?_
          refine x_getI 0 C f_RX8_161 eX8_scan_28 rfl rfl ?_
          try simp (disch := decide) only [up_s, up_n]
          refine x_iconst C eX8_scan_31 ?_
          refine x_iadd C eX8_scan_32 ?_
          refine x_putI [_, _] 0 C f_RX8_161 eX8_scan_33 rfl rfl rfl ?_
          refine x_goto (pc' := 0) C eX8_scan_36 rfl ?_
          obtain ⟨f', rfl⟩ : ∃ f', f = f' + 1 := ⟨f - 1, by omega⟩
          have hk9 := byt_k (F := Fb) (ts := I 7) (k := k) (by omega)
          refine x_ws [ob o 10 (shM A r) (up (up (up (up I 8 (k + 1)) 9 (I 9)) 10 (I 10)) 11 (I 11)), ar G 1 (A 5) 400 400 (Fb)] (fun cf c hw => PW.wf (PW_cons (fun _ h => ob_congr (fun i _ => ?_) h) (PW_cons (fun _ h => h) PW_nil)) hw) ?_
          · simp only [up_lit]
            repeat' split
            all_goals first | rfl | omega | (congr 1 <;> omega)
          exact ih f' (k + 1) (by omega) (by omega) (by omega) (by omega) (by rw [← h4]; exact (if_pos (by unfold isW; rw [decide_eq_true_iff]; omega)).symm)
  refine x_ws [ob o 10 (shM A r) (up (up (up (up I 8 (I 8)) 9 (I 9)) 10 (I 10)) 11 (I 11)), ar G 1 (A 5) 400 400 (Fb)] (fun cf c hw => PW.wf (PW_cons (fun _ h => ob_congr (fun i _ => ?_) h) (PW_cons (fun _ h => h) PW_nil)) hw) ?_
  · simp only [up_lit]
    repeat' split
    all_goals first | rfl | omega | (congr 1 <;> omega)
  exact loop1 501 500 (I 8) (by omega) h8.1 h8.2 (by omega) hs9.symm
