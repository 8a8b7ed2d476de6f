set_option maxHeartbeats 4000000 in
set_option maxRecDepth 100000 in
theorem s_X1_add {G : Gm} {l : Launch} (hK : KG G) {lg la : Nat} {z x : Int} {f : Nat → Int} {t9 s9 o9 v9 w9 : Int} (hx : 0 ≤ x ∧ x < 40) (hz : 0 ≤ z ∧ z ≤ 40) : MD G l yX1_add cX1_add 7 none 2 0 0 [.ref lg, .int (zI t9), .int (zI s9), .int (zI o9), .int (zI v9), .int (zI w9)] [ob lg 3 [some (.ref la), none, none] (lgI (z) (x)), ar G 0 la 200 200 (f)] none [ob lg 3 [some (.ref la), none, none] (lgI (min (z + 1) 40) (lgN x)), ar G 0 la 200 200 (lgU f x t9 s9 o9 v9 w9)] := by
  refine MX_of (lv := [some (.ref lg), some (.int (zI t9)), some (.int (zI s9)), some (.int (zI o9)), some (.int (zI v9)), some (.int (zI w9)), none]) hK (by decide +kernel) rfl (nle rfl) (fun X C F => ?_)
  have C : OKc G X l RX1 "add" cX1_add 7 none 2 0 0 := C
  refine x_aload_n C eX1_add_0 rfl ?_
  refine x_getI 0 C f_RX1_15 eX1_add_1 rfl rfl ?_
  try simp (disch := decide) only [up_s, up_n, lgI_1, lgI_2]
  refine x_iconst C eX1_add_4 ?_
  refine x_imul C eX1_add_5 ?_
  refine x_istore [_, _, _, _, _, _, _] C eX1_add_6 rfl rfl (nlt rfl) ?_
  refine x_iload C eX1_add_8 rfl ?_
  refine x_if_lt 25 C eX1_add_10 rfl (by omega) (fun h10 => ?_) (fun h10 => ?_)
  · exfalso; omega
  · refine x_iload C eX1_add_13 rfl ?_
    refine x_iconst C eX1_add_15 ?_
    refine x_iadd C eX1_add_16 ?_
    refine x_aload_n C eX1_add_17 rfl ?_
    refine x_getR 0 C f_RX1_9 eX1_add_18 rfl rfl ?_
    refine x_alen 1 C eX1_add_21 rfl (by decide) ar_al ?_
    refine x_icmp_le 26 C eX1_add_22 rfl (by omega) (by omega) (fun h22 => ?_) (fun h22 => ?_)
    · refine x_aload_n C eX1_add_26 rfl ?_
      refine x_getR 0 C f_RX1_9 eX1_add_27 rfl rfl ?_
      refine x_iload C eX1_add_30 rfl ?_
      refine x_iload_n C eX1_add_32 rfl ?_
      refine x_iast (w := 0) [_, _] 200 1 C eX1_add_33 rfl (by decide) (by omega) (by omega) rfl ?_
      refine x_aload_n C eX1_add_34 rfl ?_
      refine x_getR 0 C f_RX1_9 eX1_add_35 rfl rfl ?_
      refine x_iload C eX1_add_38 rfl ?_
      refine x_iconst C eX1_add_40 ?_
      refine x_iadd C eX1_add_41 ?_
      refine x_iload_n C eX1_add_42 rfl ?_
      refine x_iast (w := 0) [_, _] 200 1 C eX1_add_43 rfl (by decide) (by omega) (by omega) rfl ?_
      refine x_aload_n C eX1_add_44 rfl ?_
      refine x_getR 0 C f_RX1_9 eX1_add_45 rfl rfl ?_
      refine x_iload C eX1_add_48 rfl ?_
      refine x_iconst C eX1_add_50 ?_
      refine x_iadd C eX1_add_51 ?_
      refine x_iload_n C eX1_add_52 rfl ?_
      refine x_iast (w := 0) [_, _] 200 1 C eX1_add_53 rfl (by decide) (by omega) (by omega) rfl ?_
      refine x_aload_n C eX1_add_54 rfl ?_
      refine x_getR 0 C f_RX1_9 eX1_add_55 rfl rfl ?_
      refine x_iload C eX1_add_58 rfl ?_
      refine x_iconst C eX1_add_60 ?_
      refine x_iadd C eX1_add_61 ?_
      refine x_iload C eX1_add_62 rfl ?_
      refine x_iast (w := 0) [_, _] 200 1 C eX1_add_64 rfl (by decide) (by omega) (by omega) rfl ?_
      refine x_aload_n C eX1_add_65 rfl ?_
      refine x_getR 0 C f_RX1_9 eX1_add_66 rfl rfl ?_
      refine x_iload C eX1_add_69 rfl ?_
      refine x_iconst C eX1_add_71 ?_
      refine x_iadd C eX1_add_72 ?_
      refine x_iload C eX1_add_73 rfl ?_
      refine x_iast (w := 0) [_, _] 200 1 C eX1_add_75 rfl (by decide) (by omega) (by omega) rfl ?_
      refine x_aload_n C eX1_add_76 rfl ?_
      refine x_aload_n C eX1_add_77 rfl ?_
      refine x_getI 0 C f_RX1_15 eX1_add_78 rfl rfl ?_
      try simp (disch := decide) only [up_s, up_n, lgI_1, lgI_2]
      refine x_iconst C eX1_add_81 ?_
      refine x_iadd C eX1_add_82 ?_
      refine x_bipush C eX1_add_83 rfl ?_
      refine x_icmp_ge 97 C eX1_add_85 rfl (by omega) (by omega) (fun h85 => ?_) (fun h85 => ?_)
      · refine x_iconst C eX1_add_97 ?_
        refine x_putI [_, _] 0 C f_RX1_15 eX1_add_98 rfl rfl rfl ?_
        refine x_aload_n C eX1_add_101 rfl ?_
        refine x_aload_n C eX1_add_102 rfl ?_
        refine x_getI 0 C f_RX1_19 eX1_add_103 rfl rfl ?_
        try simp (disch := decide) only [up_s, up_n, lgI_1, lgI_2]
        refine x_iconst C eX1_add_106 ?_
        refine x_iadd C eX1_add_107 ?_
        refine x_bipush C eX1_add_108 rfl ?_
        refine x_min C s_RX1_22 s2_min eX1_add_110 rfl (nle rfl) (nle rfl) (nle rfl) (nle rfl) (by omega) (by omega) ?_
        refine x_putI [_, _] 0 C f_RX1_19 eX1_add_113 rfl rfl rfl ?_
        refine x_vret C F eX1_add_116 () rfl trivial (fun cf c h => ?_) (nle rfl) (nle rfl)
        refine PW.wf (PW_cons (fun _ h => ob_congr (fun i hi9 => ?_) h) (PW_cons (fun _ h => h) PW_nil)) (WF_pick [0, 1] rfl rfl h)
        match i with
        | 0 => exact absurd hi9 (by simp)
        | 1 => first | rfl | (simp (disch := decide) only [up_s, up_n, lgI_1, lgI_2]; omega)
        | 2 => first | rfl | (simp (disch := decide) only [up_s, up_n, lgI_1, lgI_2, lgN]; split <;> omega)
        | (k + 3) => exact absurd hi9 (by simp)
      · refine x_aload_n C eX1_add_88 rfl ?_
        refine x_getI 0 C f_RX1_15 eX1_add_89 rfl rfl ?_
        try simp (disch := decide) only [up_s, up_n, lgI_1, lgI_2]
        refine x_iconst C eX1_add_92 ?_
        refine x_iadd C eX1_add_93 ?_
        refine x_goto (pc' := 98) C eX1_add_94 rfl ?_
        refine x_putI [_, _] 0 C f_RX1_15 eX1_add_98 rfl rfl rfl ?_
        refine x_aload_n C eX1_add_101 rfl ?_
        refine x_aload_n C eX1_add_102 rfl ?_
        refine x_getI 0 C f_RX1_19 eX1_add_103 rfl rfl ?_
        try simp (disch := decide) only [up_s, up_n, lgI_1, lgI_2]
        refine x_iconst C eX1_add_106 ?_
        refine x_iadd C eX1_add_107 ?_
        refine x_bipush C eX1_add_108 rfl ?_
        refine x_min C s_RX1_22 s2_min eX1_add_110 rfl (nle rfl) (nle rfl) (nle rfl) (nle rfl) (by omega) (by omega) ?_
        refine x_putI [_, _] 0 C f_RX1_19 eX1_add_113 rfl rfl rfl ?_
        refine x_vret C F eX1_add_116 () rfl trivial (fun cf c h => ?_) (nle rfl) (nle rfl)
        refine PW.wf (PW_cons (fun _ h => ob_congr (fun i hi9 => ?_) h) (PW_cons (fun _ h => h) PW_nil)) (WF_pick [0, 1] rfl rfl h)
        match i with
        | 0 => exact absurd hi9 (by simp)
        | 1 => first | rfl | (simp (disch := decide) only [up_s, up_n, lgI_1, lgI_2]; omega)
        | 2 => first | rfl | (simp (disch := decide) only [up_s, up_n, lgI_1, lgI_2, lgN]; split <;> omega)
        | (k + 3) => exact absurd hi9 (by simp)
    · exfalso; omega

set_option maxHeartbeats 4000000 in
set_option maxRecDepth 100000 in
theorem s_X1_clear {G : Gm} {l : Launch} (hK : KG G) {lg la : Nat} {z x : Int} {f : Nat → Int}  : MD G l yX1_clear cX1_clear 1 none 1 0 0 [.ref lg] [ob lg 3 [some (.ref la), none, none] (lgI (z) (x)), ar G 0 la 200 200 (f)] none [ob lg 3 [some (.ref la), none, none] (lgI (0) (0)), ar G 0 la 200 200 (f)] := by
  refine MX_of (lv := [some (.ref lg)]) hK (by decide +kernel) rfl (nle rfl) (fun X C F => ?_)
  have C : OKc G X l RX1 "clear" cX1_clear 1 none 1 0 0 := C
  refine x_aload_n C eX1_clear_0 rfl ?_
  refine x_iconst C eX1_clear_1 ?_
  refine x_putI [_, _] 0 C f_RX1_19 eX1_clear_2 rfl rfl rfl ?_
  refine x_aload_n C eX1_clear_5 rfl ?_
  refine x_iconst C eX1_clear_6 ?_
  refine x_putI [_, _] 0 C f_RX1_15 eX1_clear_7 rfl rfl rfl ?_
  refine x_vret C F eX1_clear_10 () rfl trivial (fun cf c h => ?_) (nle rfl) (nle rfl)
  refine PW.wf (PW_cons (fun _ h => ob_congr (fun i hi9 => ?_) h) (PW_cons (fun _ h => h) PW_nil)) (WF_pick [0, 1] rfl rfl h)
  match i with
  | 0 => exact absurd hi9 (by simp)
  | 1 => first | rfl | (simp (disch := decide) only [up_s, up_n, lgI_1, lgI_2]; omega)
  | 2 => first | rfl | (simp (disch := decide) only [up_s, up_n, lgI_1, lgI_2, lgN]; split <;> omega)
  | (k + 3) => exact absurd hi9 (by simp)

set_option maxHeartbeats 4000000 in
set_option maxRecDepth 100000 in
theorem s_X1_copyFrom {G : Gm} {l : Launch} (hK : KG G) {lg la : Nat} {z x : Int} {f : Nat → Int} {lg2 la2 : Nat} {z2 x2 : Int} {f2 : Nat → Int}  : MD G l yX1_copyFrom cX1_copyFrom 2 none 4 0 0 [.ref lg, .ref lg2] [ob lg 3 [some (.ref la), none, none] (lgI (z) (x)), ar G 0 la 200 200 (f), ob lg2 3 [some (.ref la2), none, none] (lgI (z2) (x2)), ar G 0 la2 200 200 (f2)] none [ob lg 3 [some (.ref la), none, none] (lgI (z2) (x2)), ar G 0 la 200 200 (f2), ob lg2 3 [some (.ref la2), none, none] (lgI (z2) (x2)), ar G 0 la2 200 200 (f2)] := by
  refine MX_of (lv := [some (.ref lg), some (.ref lg2)]) hK (by decide +kernel) rfl (nle rfl) (fun X C F => ?_)
  have C : OKc G X l RX1 "copyFrom" cX1_copyFrom 2 none 4 0 0 := C
  refine x_aload_n C eX1_copyFrom_0 rfl ?_
  refine x_aload_n C eX1_copyFrom_1 rfl ?_
  refine x_getI 2 C f_RX1_19 eX1_copyFrom_2 rfl rfl ?_
  try simp (disch := decide) only [up_s, up_n, lgI_1, lgI_2]
  refine x_putI [_, _, _, _] 0 C f_RX1_19 eX1_copyFrom_5 rfl rfl rfl ?_
  refine x_aload_n C eX1_copyFrom_8 rfl ?_
  refine x_aload_n C eX1_copyFrom_9 rfl ?_
  refine x_getI 2 C f_RX1_15 eX1_copyFrom_10 rfl rfl ?_
  try simp (disch := decide) only [up_s, up_n, lgI_1, lgI_2]
  refine x_putI [_, _, _, _] 0 C f_RX1_15 eX1_copyFrom_13 rfl rfl rfl ?_
  refine x_aload_n C eX1_copyFrom_16 rfl ?_
  refine x_getR 2 C f_RX1_9 eX1_copyFrom_17 rfl rfl ?_
  refine x_iconst C eX1_copyFrom_20 ?_
  refine x_aload_n C eX1_copyFrom_21 rfl ?_
  refine x_getR 0 C f_RX1_9 eX1_copyFrom_22 rfl rfl ?_
  refine x_iconst C eX1_copyFrom_25 ?_
  refine x_aload_n C eX1_copyFrom_26 rfl ?_
  refine x_getR 2 C f_RX1_9 eX1_copyFrom_27 rfl rfl ?_
  refine x_alen 3 C eX1_copyFrom_30 rfl (by decide) ar_al ?_
  refine x_aload_n C eX1_copyFrom_31 rfl ?_
  refine x_getR 0 C f_RX1_9 eX1_copyFrom_32 rfl rfl ?_
  refine x_alen 1 C eX1_copyFrom_35 rfl (by decide) ar_al ?_
  refine x_min C s_RX1_22 s2_min eX1_copyFrom_36 rfl (nle rfl) (nle rfl) (nle rfl) (nle rfl) (by omega) (by omega) ?_
  refine x_copy [_, _, _, _] 200 3 1 C s_RX1_28 s2_copy eX1_copyFrom_39 rfl rfl (by decide) (by omega) (by omega) (by omega) (by omega) rfl (nle rfl) (nle rfl) rfl ?_
  refine x_vret C F eX1_copyFrom_42 () rfl trivial (fun cf c h => ?_) (nle rfl) (nle rfl)
  refine PW.wf (PW_cons (fun _ h => ob_congr (fun i hi9 => ?_) h) (PW_cons (fun _ h => ar_congr (Nat.le_refl _) (fun j hj => ?_) h) PW_rf)) (WF_pick [0, 1, 2, 3] rfl rfl h)
  · match i with
    | 0 => exact absurd hi9 (by simp)
    | 1 => first | rfl | (simp (disch := decide) only [up_s, up_n, lgI_1, lgI_2]; omega)
    | 2 => first | rfl | (simp (disch := decide) only [up_s, up_n, lgI_1, lgI_2, lgN]; split <;> omega)
    | (k + 3) => exact absurd hi9 (by simp)
  · rw [if_pos (by omega)]
    congr 1
    omega

set_option maxHeartbeats 4000000 in
set_option maxRecDepth 100000 in
theorem s_X1_init {G : Gm} {l : Launch} (hK : KG G) {lg : Nat}  : MX G l yX1_init cX1_init 1 none 1 1 200 [.ref lg] [ob lg 3 [some .null, none, none] (fun _ => 0)] (fun _ : Nat => none) (fun _ => True) (fun b => [ob lg 3 [some (.ref b), none, none] (lgI 0 0), ar G 0 b 200 200 (fun _ => 0)]) := by
  refine MX_of (lv := [some (.ref lg)]) hK (by decide +kernel) rfl (nle rfl) (fun X C F => ?_)
  have C : OKc G X l RX1 "<init>" cX1_init 1 none 1 1 200 := C
  refine x_aload_n C eX1_init_0 rfl ?_
  refine x_objInit C ⟨s_RX1_3, s2_obj⟩ eX1_init_1 rfl (nle rfl) (nle rfl) ?_
  refine x_aload_n C eX1_init_4 rfl ?_
  refine x_sipush C eX1_init_5 rfl ?_
  refine x_newI (N := 200) C ac_int eX1_init_8 rfl (nle rfl) (nle rfl) (nle rfl) (fun b1 => ?_)
  refine x_putFR [_, _, _] [_, _] 1 C f_RX1_9 eX1_init_10 (by intro C T N h; cases h; rfl) rfl (nlt rfl) rfl rfl rfl rfl ?_
  refine x_vret C F eX1_init_13 b1 rfl trivial (fun cf c h => ?_) (nle rfl) (nle rfl)
  refine PW.wf (PW_cons (fun _ h => ob_congr (fun i hi9 => ?_) h) PW_rf) (WF_pick [1, 0] rfl rfl h)
  unfold lgI
  split <;> rfl
