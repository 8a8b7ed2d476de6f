set_option maxHeartbeats 4000000 in
set_option maxRecDepth 100000 in
theorem s_X3_at {G : Gm} {l : Launch} (hK : KG G) {q b : Nat} {z : Int} {f : Nat → Int} {i : Int} (hs : 0 ≤ z ∧ z ≤ 60) (hi : 0 ≤ i ∧ i < z) : MD G l yX3_at cX3_at 2 (some .int) 1 0 0 [.ref q, .int (zI i)] [ob q 5 [some (.ref b), none] (fun _ => z), ar G 0 b 60 (z).toNat (f)] (some (.int (zI (f i.toNat)))) [ob q 5 [some (.ref b), none] (fun _ => z), ar G 0 b 60 (z).toNat (f)] := by
  refine MX_of (lv := [some (.ref q), some (.int (zI i))]) hK (by decide +kernel) rfl (nle rfl) (fun X C F => ?_)
  have C : OKc G X l RX3 "at" cX3_at 2 (some .int) 1 0 0 := C
  refine x_iload_n C eX3_at_0 rfl ?_
  refine x_if_lt 30 C eX3_at_1 rfl (by omega) (fun h1 => ?_) (fun h1 => ?_)
  · exfalso; omega
  · refine x_iload_n C eX3_at_4 rfl ?_
    refine x_aload_n C eX3_at_5 rfl ?_
    refine x_getI 0 C f_RX3_15 eX3_at_6 rfl rfl ?_
    try simp (disch := decide) only [up_s, up_n]
    refine x_icmp_ge 30 C eX3_at_9 rfl (by omega) (by omega) (fun h9 => ?_) (fun h9 => ?_)
    · exfalso; omega
    · refine x_iload_n C eX3_at_12 rfl ?_
      refine x_aload_n C eX3_at_13 rfl ?_
      refine x_getR 0 C f_RX3_9 eX3_at_14 rfl rfl ?_
      refine x_alen 1 C eX3_at_17 rfl (by decide) ar_al ?_
      refine x_icmp_ge 30 C eX3_at_18 rfl (by omega) (by omega) (fun h18 => ?_) (fun h18 => ?_)
      · exfalso; omega
      · refine x_aload_n C eX3_at_21 rfl ?_
        refine x_getR 0 C f_RX3_9 eX3_at_22 rfl rfl ?_
        refine x_iload_n C eX3_at_25 rfl ?_
        refine x_iald 1 C eX3_at_26 rfl (by decide) (by omega) ?_
        refine x_goto (pc' := 31) C eX3_at_27 rfl ?_
        refine x_iret (by first | rfl | exact (narZ (by omega)).1) C F eX3_at_31 () ?_ trivial (fun cf c h => ?_) (nle rfl) (nle rfl)
        · rfl
        · exact WF_pick [0, 1] rfl rfl h

set_option maxHeartbeats 4000000 in
set_option maxRecDepth 100000 in
theorem s_X3_add {G : Gm} {l : Launch} (hK : KG G) {q b : Nat} {z : Int} {f : Nat → Int} {v : Int} (hs : 0 ≤ z ∧ z ≤ 60) (hv : z < 60) : MD G l yX3_add cX3_add 2 none 1 0 0 [.ref q, .int (zI v)] [ob q 5 [some (.ref b), none] (fun _ => z), ar G 0 b 60 (z).toNat (f)] none [ob q 5 [some (.ref b), none] (fun _ => z + 1), ar G 0 b 60 (z + 1).toNat (up f z.toNat v)] := by
  refine MX_of (lv := [some (.ref q), some (.int (zI v))]) hK (by decide +kernel) rfl (nle rfl) (fun X C F => ?_)
  have C : OKc G X l RX3 "add" cX3_add 2 none 1 0 0 := C
  refine x_aload_n C eX3_add_0 rfl ?_
  refine x_getI 0 C f_RX3_15 eX3_add_1 rfl rfl ?_
  try simp (disch := decide) only [up_s, up_n]
  refine x_if_lt 39 C eX3_add_4 rfl (by omega) (fun h4 => ?_) (fun h4 => ?_)
  · exfalso; omega
  · refine x_aload_n C eX3_add_7 rfl ?_
    refine x_getI 0 C f_RX3_15 eX3_add_8 rfl rfl ?_
    try simp (disch := decide) only [up_s, up_n]
    refine x_aload_n C eX3_add_11 rfl ?_
    refine x_getR 0 C f_RX3_9 eX3_add_12 rfl rfl ?_
    refine x_alen 1 C eX3_add_15 rfl (by decide) ar_al ?_
    refine x_icmp_ge 39 C eX3_add_16 rfl (by omega) (by omega) (fun h16 => ?_) (fun h16 => ?_)
    · exfalso; omega
    · refine x_aload_n C eX3_add_19 rfl ?_
      refine x_getR 0 C f_RX3_9 eX3_add_20 rfl rfl ?_
      refine x_aload_n C eX3_add_23 rfl ?_
      refine x_getI 0 C f_RX3_15 eX3_add_24 rfl rfl ?_
      try simp (disch := decide) only [up_s, up_n]
      refine x_iload_n C eX3_add_27 rfl ?_
      refine x_iast (w := 0) [_, _] (z + 1).toNat 1 C eX3_add_28 rfl (by decide) (by omega) (by omega) rfl ?_
      refine x_aload_n C eX3_add_29 rfl ?_
      refine x_dup C eX3_add_30 rfl ?_
      refine x_getI 0 C f_RX3_15 eX3_add_31 rfl rfl ?_
      try simp (disch := decide) only [up_s, up_n]
      refine x_iconst C eX3_add_34 ?_
      refine x_iadd C eX3_add_35 ?_
      refine x_putI [_, _] 0 C f_RX3_15 eX3_add_36 rfl rfl rfl ?_
      refine x_vret C F eX3_add_39 () rfl trivial (fun cf c h => ?_) (nle rfl) (nle rfl)
      refine PW.wf (PW_cons (fun _ h => ob_congr (fun i hi9 => ?_) h) (PW_cons (fun _ h => ?_) PW_nil)) (WF_pick [0, 1] rfl rfl h)
      · match i with
        | 0 => exact absurd hi9 (by simp)
        | 1 => first | rfl | simp (disch := decide) only [up_s, up_n]
        | (k + 2) => exact absurd hi9 (by simp)
      · exact h

set_option maxHeartbeats 4000000 in
set_option maxRecDepth 100000 in
theorem s_X3_removeFirst {G : Gm} {l : Launch} (hK : KG G) {q b : Nat} {z : Int} {f : Nat → Int} (hs : 0 ≤ z ∧ z ≤ 60) (hv : 0 < z) : MD G l yX3_removeFirst cX3_removeFirst 1 none 4 0 0 [.ref q] [ob q 5 [some (.ref b), none] (fun _ => z), ar G 0 b 60 (z).toNat (f)] none [ob q 5 [some (.ref b), none] (fun _ => z - 1), ar G 0 b 60 (z - 1).toNat (fun j => f (j + 1))] := by
  refine MX_of (lv := [some (.ref q)]) hK (by decide +kernel) rfl (nle rfl) (fun X C F => ?_)
  have C : OKc G X l RX3 "removeFirst" cX3_removeFirst 1 none 4 0 0 := C
  refine x_aload_n C eX3_removeFirst_0 rfl ?_
  refine x_getI 0 C f_RX3_15 eX3_removeFirst_1 rfl rfl ?_
  try simp (disch := decide) only [up_s, up_n]
  refine x_if_le 46 C eX3_removeFirst_4 rfl (by omega) (fun h4 => ?_) (fun h4 => ?_)
  · exfalso; omega
  · refine x_aload_n C eX3_removeFirst_7 rfl ?_
    refine x_getI 0 C f_RX3_15 eX3_removeFirst_8 rfl rfl ?_
    try simp (disch := decide) only [up_s, up_n]
    refine x_aload_n C eX3_removeFirst_11 rfl ?_
    refine x_getR 0 C f_RX3_9 eX3_removeFirst_12 rfl rfl ?_
    refine x_alen 1 C eX3_removeFirst_15 rfl (by decide) ar_al ?_
    refine x_icmp_gt 46 C eX3_removeFirst_16 rfl (by omega) (by omega) (fun h16 => ?_) (fun h16 => ?_)
    · exfalso; omega
    · refine x_aload_n C eX3_removeFirst_19 rfl ?_
      refine x_dup C eX3_removeFirst_20 rfl ?_
      refine x_getI 0 C f_RX3_15 eX3_removeFirst_21 rfl rfl ?_
      try simp (disch := decide) only [up_s, up_n]
      refine x_iconst C eX3_removeFirst_24 ?_
      refine x_isub C eX3_removeFirst_25 ?_
      refine x_putI [_, _] 0 C f_RX3_15 eX3_removeFirst_26 rfl rfl rfl ?_
      refine x_aload_n C eX3_removeFirst_29 rfl ?_
      refine x_getR 0 C f_RX3_9 eX3_removeFirst_30 rfl rfl ?_
      refine x_iconst C eX3_removeFirst_33 ?_
      refine x_aload_n C eX3_removeFirst_34 rfl ?_
      refine x_getR 0 C f_RX3_9 eX3_removeFirst_35 rfl rfl ?_
      refine x_iconst C eX3_removeFirst_38 ?_
      refine x_aload_n C eX3_removeFirst_39 rfl ?_
      refine x_getI 0 C f_RX3_15 eX3_removeFirst_40 rfl rfl ?_
      try simp (disch := decide) only [up_s, up_n]
      refine x_copy [_, _] (z - 1).toNat 1 1 C s_RX3_19 s2_copy eX3_removeFirst_43 rfl rfl (by decide) (by omega) (by omega) (by omega) (by omega) rfl (nle rfl) (nle rfl) rfl ?_
      refine x_vret C F eX3_removeFirst_46 () rfl trivial (fun cf c h => ?_) (nle rfl) (nle rfl)
      refine PW.wf (PW_cons (fun _ h => ob_congr (fun i hi9 => ?_) h) (PW_cons (fun _ h => ?_) PW_nil)) (WF_pick [0, 1] rfl rfl h)
      · match i with
        | 0 => exact absurd hi9 (by simp)
        | 1 => first | rfl | simp (disch := decide) only [up_s, up_n]
        | (k + 2) => exact absurd hi9 (by simp)
      · refine ar_congr (Nat.le_refl _) (fun j hj => ?_) h
        rw [if_pos (by omega)]
        congr 1
        omega

set_option maxHeartbeats 4000000 in
set_option maxRecDepth 100000 in
theorem s_X3_clear {G : Gm} {l : Launch} (hK : KG G) {q b : Nat} {z : Int} {f : Nat → Int} (g : Nat → Int)  : MD G l yX3_clear cX3_clear 1 none 1 0 0 [.ref q] [ob q 5 [some (.ref b), none] (fun _ => z), ar G 0 b 60 (z).toNat (f)] none [ob q 5 [some (.ref b), none] (fun _ => (0 : Int)), ar G 0 b 60 ((0 : Int)).toNat (g)] := by
  refine MX_of (lv := [some (.ref q)]) hK (by decide +kernel) rfl (nle rfl) (fun X C F => ?_)
  have C : OKc G X l RX3 "clear" cX3_clear 1 none 1 0 0 := C
  refine x_aload_n C eX3_clear_0 rfl ?_
  refine x_iconst C eX3_clear_1 ?_
  refine x_putI [_, _] 0 C f_RX3_15 eX3_clear_2 rfl rfl rfl ?_
  refine x_vret C F eX3_clear_5 () rfl trivial (fun cf c h => ?_) (nle rfl) (nle rfl)
  refine PW.wf (PW_cons (fun _ h => ob_congr (fun i hi9 => ?_) h) (PW_cons (fun _ h => ?_) PW_nil)) (WF_pick [0, 1] rfl rfl h)
  · match i with
    | 0 => exact absurd hi9 (by simp)
    | 1 => first | rfl | simp (disch := decide) only [up_s, up_n]
    | (k + 2) => exact absurd hi9 (by simp)
  · exact ar_congr (Nat.zero_le _) (fun j hj => absurd hj (Nat.not_lt_zero j)) h

set_option maxHeartbeats 4000000 in
set_option maxRecDepth 100000 in
theorem s_X3_copyFrom {G : Gm} {l : Launch} (hK : KG G) {q b : Nat} {z : Int} {f : Nat → Int} {q2 b2 : Nat} {z2 : Int} {f2 : Nat → Int} (hs2 : 0 ≤ z2 ∧ z2 ≤ 60) : MD G l yX3_copyFrom cX3_copyFrom 2 none 4 0 0 [.ref q, .ref q2] [ob q 5 [some (.ref b), none] (fun _ => z), ar G 0 b 60 (z).toNat (f), ob q2 5 [some (.ref b2), none] (fun _ => z2), ar G 0 b2 60 (z2).toNat (f2)] none [ob q 5 [some (.ref b), none] (fun _ => z2), ar G 0 b 60 (z2).toNat (f2), ob q2 5 [some (.ref b2), none] (fun _ => z2), ar G 0 b2 60 (z2).toNat (f2)] := by
  refine MX_of (lv := [some (.ref q), some (.ref q2)]) hK (by decide +kernel) rfl (nle rfl) (fun X C F => ?_)
  have C : OKc G X l RX3 "copyFrom" cX3_copyFrom 2 none 4 0 0 := C
  refine x_aload_n C eX3_copyFrom_0 rfl ?_
  refine x_getI 2 C f_RX3_15 eX3_copyFrom_1 rfl rfl ?_
  try simp (disch := decide) only [up_s, up_n]
  refine x_if_lt 56 C eX3_copyFrom_4 rfl (by omega) (fun h4 => ?_) (fun h4 => ?_)
  · exfalso; omega
  · refine x_aload_n C eX3_copyFrom_7 rfl ?_
    refine x_getI 2 C f_RX3_15 eX3_copyFrom_8 rfl rfl ?_
    try simp (disch := decide) only [up_s, up_n]
    refine x_aload_n C eX3_copyFrom_11 rfl ?_
    refine x_getR 2 C f_RX3_9 eX3_copyFrom_12 rfl rfl ?_
    refine x_alen 3 C eX3_copyFrom_15 rfl (by decide) ar_al ?_
    refine x_icmp_gt 56 C eX3_copyFrom_16 rfl (by omega) (by omega) (fun h16 => ?_) (fun h16 => ?_)
    · exfalso; omega
    · refine x_aload_n C eX3_copyFrom_19 rfl ?_
      refine x_getI 2 C f_RX3_15 eX3_copyFrom_20 rfl rfl ?_
      try simp (disch := decide) only [up_s, up_n]
      refine x_aload_n C eX3_copyFrom_23 rfl ?_
      refine x_getR 0 C f_RX3_9 eX3_copyFrom_24 rfl rfl ?_
      refine x_alen 1 C eX3_copyFrom_27 rfl (by decide) ar_al ?_
      refine x_icmp_gt 56 C eX3_copyFrom_28 rfl (by omega) (by omega) (fun h28 => ?_) (fun h28 => ?_)
      · exfalso; omega
      · refine x_aload_n C eX3_copyFrom_31 rfl ?_
        refine x_aload_n C eX3_copyFrom_32 rfl ?_
        refine x_getI 2 C f_RX3_15 eX3_copyFrom_33 rfl rfl ?_
        try simp (disch := decide) only [up_s, up_n]
        refine x_putI [_, _, _, _] 0 C f_RX3_15 eX3_copyFrom_36 rfl rfl rfl ?_
        refine x_aload_n C eX3_copyFrom_39 rfl ?_
        refine x_getR 2 C f_RX3_9 eX3_copyFrom_40 rfl rfl ?_
        refine x_iconst C eX3_copyFrom_43 ?_
        refine x_aload_n C eX3_copyFrom_44 rfl ?_
        refine x_getR 0 C f_RX3_9 eX3_copyFrom_45 rfl rfl ?_
        refine x_iconst C eX3_copyFrom_48 ?_
        refine x_aload_n C eX3_copyFrom_49 rfl ?_
        refine x_getI 0 C f_RX3_15 eX3_copyFrom_50 rfl rfl ?_
        try simp (disch := decide) only [up_s, up_n]
        refine x_copy [_, _, _, _] z2.toNat 3 1 C s_RX3_19 s2_copy eX3_copyFrom_53 rfl rfl (by decide) (by omega) (by omega) (by omega) (by omega) rfl (nle rfl) (nle rfl) rfl ?_
        refine x_vret C F eX3_copyFrom_56 () rfl trivial (fun cf c h => ?_) (nle rfl) (nle rfl)
        refine PW.wf (PW_cons (fun _ h => ob_congr (fun i hi9 => ?_) h) (PW_cons (fun _ h => ?_) PW_rf)) (WF_pick [0, 1, 2, 3] rfl rfl h)
        · match i with
          | 0 => exact absurd hi9 (by simp)
          | 1 => first | rfl | simp (disch := decide) only [up_s, up_n]
          | (k + 2) => exact absurd hi9 (by simp)
        · refine ar_congr (Nat.le_refl _) (fun j hj => ?_) h
          rw [if_pos (by omega)]
          congr 1
          omega

set_option maxHeartbeats 4000000 in
set_option maxRecDepth 100000 in
theorem s_X3_init {G : Gm} {l : Launch} (hK : KG G) {q : Nat}  : MX G l yX3_init cX3_init 1 none 1 1 60 [.ref q] [ob q 5 [some .null, none] (fun _ => 0)] (fun _ : Nat => none) (fun _ => True) (fun b => [ob q 5 [some (.ref b), none] (fun _ => 0), ar G 0 b 60 0 (fun _ => 0)]) := by
  refine MX_of (lv := [some (.ref q)]) hK (by decide +kernel) rfl (nle rfl) (fun X C F => ?_)
  have C : OKc G X l RX3 "<init>" cX3_init 1 none 1 1 60 := C
  refine x_aload_n C eX3_init_0 rfl ?_
  refine x_objInit C ⟨s_RX3_3, s2_obj⟩ eX3_init_1 rfl (nle rfl) (nle rfl) ?_
  refine x_aload_n C eX3_init_4 rfl ?_
  refine x_bipush C eX3_init_5 rfl ?_
  refine x_newI (N := 60) C ac_int eX3_init_7 rfl (nle rfl) (nle rfl) (nle rfl) (fun b1 => ?_)
  refine x_putFR [_, _] [_, _] 1 C f_RX3_9 eX3_init_9 (by intro C T N h; cases h; rfl) rfl (nlt rfl) rfl rfl rfl rfl ?_
  refine x_vret C F eX3_init_12 b1 rfl trivial (fun cf c h => ?_) (nle rfl) (nle rfl)
  exact PW.wf (PW_cons (fun _ h => h) (PW_cons (fun _ h => ar_congr (Nat.zero_le _) (fun j hj => absurd hj (Nat.not_lt_zero j)) h) PW_nil)) (WF_pick [1, 0] rfl rfl h)
