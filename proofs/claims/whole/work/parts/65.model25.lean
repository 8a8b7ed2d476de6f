set_option maxHeartbeats 4000000 in
set_option maxRecDepth 100000 in
theorem s_X8_init {G : Gm} {l : Launch} (hK : KG G) {o : Nat}  : MX G l yX8_init cX8_init 2 none 4 10 20698 [.ref o] [ob o 10 [none, some .null, some .null, some .null, some .null, some .null, none, none, none, none, none, none, none, none, some .null, some .null, none, some .null, some .null, some .null, none, some .null, none] (fun _ => 0)] (fun _ : Nat → Nat => none) (fun _ => True) (fun A9 => [famQ G A9 nInit, ob o 10 (shM (A9) 1) (up (fun _ => 0) 13 (-1)), ar G 1 (A9 5) 400 400 (fun _ => 0), ar G 0 (A9 14) 60 60 (fun _ => 0), ar G 0 (A9 15) 60 60 (fun _ => 0), ar G 0 (A9 19) 10896 10896 (fun _ => 0), ar G 0 (A9 17) 3632 3632 (fun _ => 0), ar G 2 (A9 18) 2 2 (fun _ => 0), ar G 1 (A9 21) 200 200 (fun _ => 0)]) := by
  refine MX_of (lv := [some (.ref o), none]) hK (by decide +kernel) rfl (nle rfl) (fun X C F => ?_)
  have C : OKc G X l RX8 "<init>" cX8_init 2 none 4 10 20698 := C
  refine x_aload_n C eX8_init_0 rfl ?_
  refine x_objInit C ⟨s_RX8_11, s2_obj⟩ eX8_init_1 rfl (nle rfl) (nle rfl) ?_
  refine x_aload_n C eX8_init_4 rfl ?_
  refine x_sipush C eX8_init_5 rfl ?_
  refine x_newI (N := 1816) C ac_int eX8_init_8 rfl (nle rfl) (nle rfl) (nle rfl) (fun a1 => ?_)
  refine x_putFR [_, _, _, _, _, _, _, _, _, _, _, _, _, _, _, _, _, _, _, _, _, _, _] [_, _] 1 C f_RX8_17 eX8_init_10 (by intro C T N h; cases h; rfl) rfl (nlt rfl) rfl rfl rfl rfl ?_
  refine x_aload_n C eX8_init_13 rfl ?_
  refine x_sipush C eX8_init_14 rfl ?_
  refine x_newI (N := 1816) C ac_int eX8_init_17 rfl (nle rfl) (nle rfl) (nle rfl) (fun a2 => ?_)
  refine x_putFR [_, _, _, _, _, _, _, _, _, _, _, _, _, _, _, _, _, _, _, _, _, _, _] [_, _, _] 2 C f_RX8_21 eX8_init_19 (by intro C T N h; cases h; rfl) rfl (nlt rfl) rfl rfl rfl rfl ?_
  refine x_aload_n C eX8_init_22 rfl ?_
  refine x_aload_n C eX8_init_23 rfl ?_
  refine x_getR 2 C f_RX8_17 eX8_init_24 rfl rfl ?_
  refine x_putR [_, _, _, _, _, _, _, _, _, _, _, _, _, _, _, _, _, _, _, _, _, _, _] [_, _, _] 2 C f_RX8_24 eX8_init_27 rfl (nlt rfl) rfl rfl rfl rfl ?_
  refine x_aload_n C eX8_init_30 rfl ?_
  refine x_sipush C eX8_init_31 rfl ?_
  refine x_newI (N := 1816) C ac_int eX8_init_34 rfl (nle rfl) (nle rfl) (nle rfl) (fun a4 => ?_)
  refine x_putFR [_, _, _, _, _, _, _, _, _, _, _, _, _, _, _, _, _, _, _, _, _, _, _] [_, _, _, _] 3 C f_RX8_27 eX8_init_36 (by intro C T N h; cases h; rfl) rfl (nlt rfl) rfl rfl rfl rfl ?_
  refine x_aload_n C eX8_init_39 rfl ?_
  refine x_sipush C eX8_init_40 rfl ?_
  refine x_newB (N := 400) C ac_byte eX8_init_43 rfl (nle rfl) (nle rfl) (nle rfl) (fun a5 => ?_)
  refine x_putFR [_, _, _, _, _, _, _, _, _, _, _, _, _, _, _, _, _, _, _, _, _, _, _] [_, _, _, _, _] 4 C f_RX8_30 eX8_init_45 (by intro C T N h; cases h; rfl) rfl (nlt rfl) rfl rfl rfl rfl ?_
  refine x_aload_n C eX8_init_48 rfl ?_
  refine x_iconst C eX8_init_49 ?_
  refine x_putI [_, _, _, _, _] 4 C f_RX8_34 eX8_init_50 rfl rfl rfl ?_
  refine x_aload_n C eX8_init_53 rfl ?_
  refine x_bipush C eX8_init_54 rfl ?_
  refine x_newI (N := 60) C ac_int eX8_init_56 rfl (nle rfl) (nle rfl) (nle rfl) (fun a14 => ?_)
  refine x_putFR [_, _, _, _, _, _, _, _, _, _, _, _, _, _, _, _, _, _, _, _, _, _, _] [_, _, _, _, _, _] 5 C f_RX8_37 eX8_init_58 (by intro C T N h; cases h; rfl) rfl (nlt rfl) rfl rfl rfl rfl ?_
  refine x_aload_n C eX8_init_61 rfl ?_
  refine x_bipush C eX8_init_62 rfl ?_
  refine x_newI (N := 60) C ac_int eX8_init_64 rfl (nle rfl) (nle rfl) (nle rfl) (fun a15 => ?_)
  refine x_putFR [_, _, _, _, _, _, _, _, _, _, _, _, _, _, _, _, _, _, _, _, _, _, _] [_, _, _, _, _, _, _] 6 C f_RX8_40 eX8_init_66 (by intro C T N h; cases h; rfl) rfl (nlt rfl) rfl rfl rfl rfl ?_
  refine x_aload_n C eX8_init_69 rfl ?_
  refine x_sipush C eX8_init_70 rfl ?_
  refine x_newI (N := 3632) C ac_int eX8_init_73 rfl (nle rfl) (nle rfl) (nle rfl) (fun a17 => ?_)
  refine x_putFR [_, _, _, _, _, _, _, _, _, _, _, _, _, _, _, _, _, _, _, _, _, _, _] [_, _, _, _, _, _, _, _] 7 C f_RX8_43 eX8_init_75 (by intro C T N h; cases h; rfl) rfl (nlt rfl) rfl rfl rfl rfl ?_
  refine x_aload_n C eX8_init_78 rfl ?_
  refine x_iconst C eX8_init_79 ?_
  refine x_newZ (N := 2) C ac_boolean eX8_init_80 rfl (nle rfl) (nle rfl) (nle rfl) (fun a18 => ?_)
  refine x_putFR [_, _, _, _, _, _, _, _, _, _, _, _, _, _, _, _, _, _, _, _, _, _, _] [_, _, _, _, _, _, _, _, _] 8 C f_RX8_46 eX8_init_82 (by intro C T N h; cases h; rfl) rfl (nlt rfl) rfl rfl rfl rfl ?_
  refine x_aload_n C eX8_init_85 rfl ?_
  refine x_sipush C eX8_init_86 rfl ?_
  refine x_newI (N := 10896) C ac_int eX8_init_89 rfl (nle rfl) (nle rfl) (nle rfl) (fun a19 => ?_)
  refine x_putFR [_, _, _, _, _, _, _, _, _, _, _, _, _, _, _, _, _, _, _, _, _, _, _] [_, _, _, _, _, _, _, _, _, _] 9 C f_RX8_50 eX8_init_91 (by intro C T N h; cases h; rfl) rfl (nlt rfl) rfl rfl rfl rfl ?_
  refine x_aload_n C eX8_init_94 rfl ?_
  refine x_sipush C eX8_init_95 rfl ?_
  refine x_newB (N := 200) C ac_byte eX8_init_98 rfl (nle rfl) (nle rfl) (nle rfl) (fun a21 => ?_)
  refine x_putFR [_, _, _, _, _, _, _, _, _, _, _, _, _, _, _, _, _, _, _, _, _, _, _] [_, _, _, _, _, _, _, _, _, _, _] 10 C f_RX8_53 eX8_init_100 (by intro C T N h; cases h; rfl) rfl (nlt rfl) rfl rfl rfl rfl ?_
  have hr : rok 1 := Or.inl rfl
  refine x_ws [fam G (adr [0, a1, a2, 0, a4, a5, 0, 0, 0, 0, 0, 0, 0, 0, a14, a15, 0, a17, a18, a19, 0, a21]) (uN (fun _ => Zn) 1 Zn), ob o 10 (shM ((adr [0, a1, a2, 0, a4, a5, 0, 0, 0, 0, 0, 0, 0, 0, a14, a15, 0, a17, a18, a19, 0, a21])) 1) (up (fun _ => 0) 13 (-1)), ar G 1 ((adr [0, a1, a2, 0, a4, a5, 0, 0, 0, 0, 0, 0, 0, 0, a14, a15, 0, a17, a18, a19, 0, a21]) 5) 400 400 (fun _ => 0), ar G 0 ((adr [0, a1, a2, 0, a4, a5, 0, 0, 0, 0, 0, 0, 0, 0, a14, a15, 0, a17, a18, a19, 0, a21]) 14) 60 60 (fun _ => 0), ar G 0 ((adr [0, a1, a2, 0, a4, a5, 0, 0, 0, 0, 0, 0, 0, 0, a14, a15, 0, a17, a18, a19, 0, a21]) 15) 60 60 (fun _ => 0), ar G 0 ((adr [0, a1, a2, 0, a4, a5, 0, 0, 0, 0, 0, 0, 0, 0, a14, a15, 0, a17, a18, a19, 0, a21]) 19) 10896 10896 (fun _ => 0), ar G 0 ((adr [0, a1, a2, 0, a4, a5, 0, 0, 0, 0, 0, 0, 0, 0, a14, a15, 0, a17, a18, a19, 0, a21]) 17) 3632 3632 (fun _ => 0), ar G 2 ((adr [0, a1, a2, 0, a4, a5, 0, 0, 0, 0, 0, 0, 0, 0, a14, a15, 0, a17, a18, a19, 0, a21]) 18) 2 2 (fun _ => 0), ar G 1 ((adr [0, a1, a2, 0, a4, a5, 0, 0, 0, 0, 0, 0, 0, 0, a14, a15, 0, a17, a18, a19, 0, a21]) 21) 200 200 (fun _ => 0)] (fun cf c hw => WF_close (L := [ar G 0 ((adr [0, a1, a2, 0, a4, a5, 0, 0, 0, 0, 0, 0, 0, 0, a14, a15, 0, a17, a18, a19, 0, a21]) 1) 1816 1816 (fun _ => 0), ar G 0 ((adr [0, a1, a2, 0, a4, a5, 0, 0, 0, 0, 0, 0, 0, 0, a14, a15, 0, a17, a18, a19, 0, a21]) 2) 1816 1816 (fun _ => 0), ar G 0 ((adr [0, a1, a2, 0, a4, a5, 0, 0, 0, 0, 0, 0, 0, 0, a14, a15, 0, a17, a18, a19, 0, a21]) 4) 1816 1816 (fun _ => 0)]) (WF_pick [9, 8, 7, 10, 6, 5, 4, 1, 3, 2, 0] rfl rfl hw) (fun d hd => fam_mk hd)) ?_
  refine x_aload_n C eX8_init_103 rfl ?_
  refine x_iconst C eX8_init_104 ?_
  refine x_bipush C eX8_init_105 rfl ?_
  refine x_iconst C eX8_init_107 ?_
  refine x_bipush C eX8_init_108 rfl ?_
  refine x_iconst C eX8_init_110 ?_
  refine x_iconst C eX8_init_111 ?_
  refine yV6r [_, _, _, _, _, _, _] [_, _, _, _, _, _, _, _, _] C (s_X8_addOne hK hr (by decide)) v_X8_addOne vv_X8_addOne s_RX8_56 eX8_init_112 (fun _ _ h => WF_pick [1, 0, 2, 3, 4, 5, 6, 7, 8] rfl rfl h) (rcv 1 rfl) rfl (nle rfl) (nle rfl) (nle rfl) (nle rfl) rfl ?_
  skip
  refine x_istore_n [_, _] C eX8_init_115 rfl rfl (nlt rfl) ?_
  refine x_aload_n C eX8_init_116 rfl ?_
  refine x_getR 0 C f_RX8_24 eX8_init_117 rfl rfl ?_
  refine x_iconst C eX8_init_120 ?_
  refine x_iconst C eX8_init_121 ?_
  refine x_fastU [_, _, _, _, _, _, _, _, _] 1 C eX8_init_122 rfl hr (by omega) rfl ?_
  rw [encU_head _ (by omega)]
  refine x_vret C F eX8_init_123 (adr [0, a1, a2, 0, a4, a5, 0, 0, 0, 0, 0, 0, 0, 0, a14, a15, 0, a17, a18, a19, 0, a21]) rfl trivial (fun cf c h => ?_) (nle rfl) (nle rfl)
  exact PW.wf (PW_cons (fun _ h => ⟨_, h⟩) PW_rf) (WF_pick [1, 0, 2, 3, 4, 5, 6, 7, 8] rfl rfl h)
