/-! Tokens of the class. -/
def tokS (k s e v : Int) : Nat → Int := fun i => if i = 1 then k else if i = 2 then s else if i = 3 then e else v
def numK (B : Int → Int) : Nat → Int → Int → Int × Int
  | 0, k, v => (k, v)
  | f + 1, k, v => if isD (B k) = true then numK B f (k + 1) (min 1000 (v * 10 + B k - 48)) else (k, v)
abbrev hwK (Fb : Nat → Int) (z s e : Int) (u : List Int) : Prop := e - s = (u.length : Int) ∧ hwQ Fb z s u u.length = true
def kcF (Fb : Nat → Int) (z s e : Int) : Int := if 6 < e - s then 5 else if hwK Fb z s e w_line then 6 else if hwK Fb z s e w_cap then 7 else if hwK Fb z s e w_marks then 8 else if hwK Fb z s e w_share then 9 else if hwK Fb z s e w_echo then 10 else if hwK Fb z s e w_none then 11 else if hwK Fb z s e w_each then 12 else if hwK Fb z s e w_whole then 13 else if hwK Fb z s e w_lend then 14 else if hwK Fb z s e w_to then 15 else if hwK Fb z s e w_for then 16 else if hwK Fb z s e w_type then 17 else 4
def tkM (Fb : Nat → Int) (z v s : Int) : Nat → Int :=
  if z ≤ s then tokS 0 s s v
  else if 97 ≤ byt Fb z s ∧ byt Fb z s ≤ 122 then tokS (kcF Fb z s (skp isA (byt Fb z) 500 s)) s (skp isA (byt Fb z) 500 s) v
  else if 48 ≤ byt Fb z s ∧ byt Fb z s ≤ 57 then tokS 1 s (numK (byt Fb z) 500 s 0).1 (numK (byt Fb z) 500 s 0).2
  else tokS (if byt Fb z s = 59 then 2 else 3) s (s + 1) v
def tkN (Fb : Nat → Int) (z v off : Int) : Nat → Int := tkM Fb z v (skp isW (byt Fb z) 500 off)
theorem skp_no {p : Int → Bool} {B : Int → Int} {k : Int} (h : ¬ p (B k) = true) : ∀ f : Nat, skp p B f k = k
  | 0 => rfl
  | f + 1 => if_neg h
theorem skp_yes {p : Int → Bool} {B : Int → Int} {k : Int} {f : Nat} (h : p (B k) = true) : skp p B (f + 1) k = skp p B f (k + 1) := if_pos h
theorem numK_no {B : Int → Int} {k v : Int} (h : ¬ isD (B k) = true) : ∀ f : Nat, numK B f k v = (k, v)
  | 0 => rfl
  | f + 1 => if_neg h
theorem numK_yes {B : Int → Int} {k v : Int} {f : Nat} (h : isD (B k) = true) : numK B (f + 1) k v = numK B f (k + 1) (min 1000 (v * 10 + B k - 48)) := if_pos h
theorem byt_out {F : Nat → Int} {ts k : Int} (h : ts ≤ k) : byt F ts k = -1 := if_neg (by omega)
theorem numK_b {F : Nat → Int} {ts : Int} : ∀ (f : Nat) (k v : Int), 0 ≤ v → v ≤ 1000 → (k ≤ (numK (byt F ts) f k v).1 ∧ (numK (byt F ts) f k v).1 ≤ max k ts) ∧ (0 ≤ (numK (byt F ts) f k v).2 ∧ (numK (byt F ts) f k v).2 ≤ 1000)
  | 0, k, v, h0, h1 => by
    show (k ≤ k ∧ k ≤ _) ∧ (0 ≤ v ∧ v ≤ 1000)
    omega
  | f + 1, k, v, h0, h1 => by
    unfold numK
    split
    · next h =>
      have hd : 48 ≤ byt F ts k ∧ byt F ts k ≤ 57 := by
        unfold isD at h
        exact of_decide_eq_true h
      have h2 : k < ts := byt_k (F := F) (fun z => by rw [z] at hd; omega)
      have h3 := numK_b (F := F) (ts := ts) f (k + 1) (min 1000 (v * 10 + byt F ts k - 48)) (by omega) (by omega)
      omega
    · show (k ≤ k ∧ k ≤ _) ∧ (0 ≤ v ∧ v ≤ 1000)
      omega
theorem isW_1 {c : Int} (h : c = 32 ∨ c = 10) : isW c = true := by unfold isW; exact decide_eq_true h
theorem isW_0 {c : Int} (h : ¬ (c = 32 ∨ c = 10)) : ¬ isW c = true := fun z => h (by unfold isW at z; exact of_decide_eq_true z)
theorem isA_1 {c : Int} (h : 97 ≤ c ∧ c ≤ 122) : isA c = true := by unfold isA; exact decide_eq_true h
theorem isA_0 {c : Int} (h : ¬ (97 ≤ c ∧ c ≤ 122)) : ¬ isA c = true := fun z => h (by unfold isA at z; exact of_decide_eq_true z)
theorem isD_1 {c : Int} (h : 48 ≤ c ∧ c ≤ 57) : isD c = true := by unfold isD; exact decide_eq_true h
theorem isD_0 {c : Int} (h : ¬ (48 ≤ c ∧ c ≤ 57)) : ¬ isD c = true := fun z => h (by unfold isD at z; exact of_decide_eq_true z)

set_option maxHeartbeats 4000000 in
set_option maxRecDepth 100000 in
theorem s_X5_isBlank {G : Gm} {l : Launch} (hK : KG G) {c9 : Int} (hc : -1 ≤ c9 ∧ c9 ≤ 255) : MD G l yX5_isBlank cX5_isBlank 1 (some .boolean) 1 0 0 [.int (zI c9)] [] (some (.int (zI (bz (c9 = 32 ∨ c9 = 10))))) [] := by
  refine MX_of (lv := [some (.int (zI c9))]) hK (by decide +kernel) rfl (nle rfl) (fun X C F => ?_)
  have C : OKc G X l RX5 "isBlank" cX5_isBlank 1 (some .boolean) 1 0 0 := C
  refine x_iload_n C eX5_isBlank_0 rfl ?_
  refine x_bipush C eX5_isBlank_1 rfl ?_
  refine x_icmp_eq 12 C eX5_isBlank_3 rfl (by omega) (by omega) (fun h3 => ?_) (fun h3 => ?_)
  · refine x_iconst C eX5_isBlank_12 ?_
    refine x_goto (pc' := 17) C eX5_isBlank_13 rfl ?_
    refine x_iret (by first | exact nz_bz _ | exact (narZ (by omega)).1) C F eX5_isBlank_17 () ?_ trivial (fun cf c h => ?_) (nle rfl) (nle rfl)
    · first
        | rw [bz_t (by omega)]
        | rw [bz_f (by omega)]
    · exact WF_pick [] rfl rfl h
  · refine x_iload_n C eX5_isBlank_6 rfl ?_
    refine x_bipush C eX5_isBlank_7 rfl ?_
    refine x_icmp_ne 16 C eX5_isBlank_9 rfl (by omega) (by omega) (fun h9 => ?_) (fun h9 => ?_)
    · refine x_iconst C eX5_isBlank_16 ?_
      refine x_iret (by first | exact nz_bz _ | exact (narZ (by omega)).1) C F eX5_isBlank_17 () ?_ trivial (fun cf c h => ?_) (nle rfl) (nle rfl)
      · first
          | rw [bz_t (by omega)]
          | rw [bz_f (by omega)]
      · exact WF_pick [] rfl rfl h
    · refine x_iconst C eX5_isBlank_12 ?_
      refine x_goto (pc' := 17) C eX5_isBlank_13 rfl ?_
      refine x_iret (by first | exact nz_bz _ | exact (narZ (by omega)).1) C F eX5_isBlank_17 () ?_ trivial (fun cf c h => ?_) (nle rfl) (nle rfl)
      · first
          | rw [bz_t (by omega)]
          | rw [bz_f (by omega)]
      · exact WF_pick [] rfl rfl h

set_option maxHeartbeats 4000000 in
set_option maxRecDepth 100000 in
theorem s_X5_isLetter {G : Gm} {l : Launch} (hK : KG G) {c9 : Int} (hc : -1 ≤ c9 ∧ c9 ≤ 255) : MD G l yX5_isLetter cX5_isLetter 1 (some .boolean) 1 0 0 [.int (zI c9)] [] (some (.int (zI (bz (97 ≤ c9 ∧ c9 ≤ 122))))) [] := by
  refine MX_of (lv := [some (.int (zI c9))]) hK (by decide +kernel) rfl (nle rfl) (fun X C F => ?_)
  have C : OKc G X l RX5 "isLetter" cX5_isLetter 1 (some .boolean) 1 0 0 := C
  refine x_iload_n C eX5_isLetter_0 rfl ?_
  refine x_bipush C eX5_isLetter_1 rfl ?_
  refine x_icmp_lt 16 C eX5_isLetter_3 rfl (by omega) (by omega) (fun h3 => ?_) (fun h3 => ?_)
  · refine x_iconst C eX5_isLetter_16 ?_
    refine x_iret (by first | exact nz_bz _ | exact (narZ (by omega)).1) C F eX5_isLetter_17 () ?_ trivial (fun cf c h => ?_) (nle rfl) (nle rfl)
    · first
        | rw [bz_t (by omega)]
        | rw [bz_f (by omega)]
    · exact WF_pick [] rfl rfl h
  · refine x_iload_n C eX5_isLetter_6 rfl ?_
    refine x_bipush C eX5_isLetter_7 rfl ?_
    refine x_icmp_gt 16 C eX5_isLetter_9 rfl (by omega) (by omega) (fun h9 => ?_) (fun h9 => ?_)
    · refine x_iconst C eX5_isLetter_16 ?_
      refine x_iret (by first | exact nz_bz _ | exact (narZ (by omega)).1) C F eX5_isLetter_17 () ?_ trivial (fun cf c h => ?_) (nle rfl) (nle rfl)
      · first
          | rw [bz_t (by omega)]
          | rw [bz_f (by omega)]
      · exact WF_pick [] rfl rfl h
    · refine x_iconst C eX5_isLetter_12 ?_
      refine x_goto (pc' := 17) C eX5_isLetter_13 rfl ?_
      refine x_iret (by first | exact nz_bz _ | exact (narZ (by omega)).1) C F eX5_isLetter_17 () ?_ trivial (fun cf c h => ?_) (nle rfl) (nle rfl)
      · first
          | rw [bz_t (by omega)]
          | rw [bz_f (by omega)]
      · exact WF_pick [] rfl rfl h

set_option maxHeartbeats 4000000 in
set_option maxRecDepth 100000 in
theorem s_X5_isDigit {G : Gm} {l : Launch} (hK : KG G) {c9 : Int} (hc : -1 ≤ c9 ∧ c9 ≤ 255) : MD G l yX5_isDigit cX5_isDigit 1 (some .boolean) 1 0 0 [.int (zI c9)] [] (some (.int (zI (bz (48 ≤ c9 ∧ c9 ≤ 57))))) [] := by
  refine MX_of (lv := [some (.int (zI c9))]) hK (by decide +kernel) rfl (nle rfl) (fun X C F => ?_)
  have C : OKc G X l RX5 "isDigit" cX5_isDigit 1 (some .boolean) 1 0 0 := C
  refine x_iload_n C eX5_isDigit_0 rfl ?_
  refine x_bipush C eX5_isDigit_1 rfl ?_
  refine x_icmp_lt 16 C eX5_isDigit_3 rfl (by omega) (by omega) (fun h3 => ?_) (fun h3 => ?_)
  · refine x_iconst C eX5_isDigit_16 ?_
    refine x_iret (by first | exact nz_bz _ | exact (narZ (by omega)).1) C F eX5_isDigit_17 () ?_ trivial (fun cf c h => ?_) (nle rfl) (nle rfl)
    · first
        | rw [bz_t (by omega)]
        | rw [bz_f (by omega)]
    · exact WF_pick [] rfl rfl h
  · refine x_iload_n C eX5_isDigit_6 rfl ?_
    refine x_bipush C eX5_isDigit_7 rfl ?_
    refine x_icmp_gt 16 C eX5_isDigit_9 rfl (by omega) (by omega) (fun h9 => ?_) (fun h9 => ?_)
    · refine x_iconst C eX5_isDigit_16 ?_
      refine x_iret (by first | exact nz_bz _ | exact (narZ (by omega)).1) C F eX5_isDigit_17 () ?_ trivial (fun cf c h => ?_) (nle rfl) (nle rfl)
      · first
          | rw [bz_t (by omega)]
          | rw [bz_f (by omega)]
      · exact WF_pick [] rfl rfl h
    · refine x_iconst C eX5_isDigit_12 ?_
      refine x_goto (pc' := 17) C eX5_isDigit_13 rfl ?_
      refine x_iret (by first | exact nz_bz _ | exact (narZ (by omega)).1) C F eX5_isDigit_17 () ?_ trivial (fun cf c h => ?_) (nle rfl) (nle rfl)
      · first
          | rw [bz_t (by omega)]
          | rw [bz_f (by omega)]
      · exact WF_pick [] rfl rfl h

set_option maxHeartbeats 4000000 in
set_option maxRecDepth 100000 in
theorem s_X5_readLetters {G : Gm} {l : Launch} (hK : KG G) {tk q b : Nat} {J : Nat → Int} {z : Int} {Fb : Nat → Int} (hz : 0 ≤ z ∧ z ≤ 400) (hF : ∀ j : Nat, -128 ≤ Fb j ∧ Fb j ≤ 127) (hJ : 0 ≤ J 3 ∧ J 3 ≤ 400) : MD G l yX5_readLetters cX5_readLetters 1 none 2 0 0 [.ref tk] [ob tk 7 [some (.ref q), none, none, none, none] (J), ob q 6 [some (.ref b), none] (fun _ => z), ar G 1 b 400 400 (Fb)] none [ob tk 7 [some (.ref q), none, none, none, none] (up J 3 (skp isA (byt Fb z) 500 (J 3))), ob q 6 [some (.ref b), none] (fun _ => z), ar G 1 b 400 400 (Fb)] := by
  refine MX_of (lv := [some (.ref tk)]) hK (by decide +kernel) rfl (nle rfl) (fun X C F => ?_)
  have C : OKc G X l RX5 "readLetters" cX5_readLetters 1 none 2 0 0 := C
  have loop : ∀ (f : Nat) (k : Int), 0 ≤ k → k ≤ 400 → 400 < k + f → skp isA (byt Fb z) f k = skp isA (byt Fb z) 500 (J 3) → WX G X 0 0 [ob tk 7 [some (.ref q), none, none, none, none] (up J 3 k), ob q 6 [some (.ref b), none] (fun _ => z), ar G 1 b 400 400 (Fb)] 0 [some (.ref tk)] [] := by
    intro f
    induction f with
    | zero => intro k h0 h1 h2 h3; exfalso; omega
    | succ f ih =>
      intro k h0 h1 h2 h3
      refine x_aload_n C eX5_readLetters_0 rfl ?_
      refine x_getI 0 C f_RX5_32 eX5_readLetters_1 rfl rfl ?_
      try simp (disch := decide) only [up_s, up_n]
      refine x_aload_n C eX5_readLetters_4 rfl ?_
      refine x_getR 0 C f_RX5_9 eX5_readLetters_5 rfl rfl ?_
      refine x_getI 1 C f_RX5_19 eX5_readLetters_8 rfl rfl ?_
      try simp (disch := decide) only [up_s, up_n]
      refine x_icmp_ge 44 C eX5_readLetters_11 rfl (by omega) (by omega) (fun h11 => ?_) (fun h11 => ?_)
      · have he := h3.symm.trans (skp_no (isA_0 (by rw [byt_out (F := Fb) (ts := z) (k := k) (by omega)]; decide)) (f + 1))
        refine x_vret C F eX5_readLetters_44 () rfl trivial (fun cf c h => ?_) (nle rfl) (nle rfl)
        rw [he]
        exact WF_pick [0, 1, 2] rfl rfl h
      · refine x_aload_n C eX5_readLetters_14 rfl ?_
        refine x_getR 0 C f_RX5_9 eX5_readLetters_15 rfl rfl ?_
        refine x_aload_n C eX5_readLetters_18 rfl ?_
        refine x_getI 0 C f_RX5_32 eX5_readLetters_19 rfl rfl ?_
        try simp (disch := decide) only [up_s, up_n]
        refine yV1r [_] [_, _, _] C (s_X4_byteAt hK (by omega) (fun j _ => hF j) (by omega)) v_X4_byteAt vv_X4_byteAt s_RX5_24 eX5_readLetters_22 (fun _ _ h => WF_pick [1, 2, 0] rfl rfl h) (rcv 1 rfl) rfl (nle rfl) (nle rfl) (nle rfl) (nle rfl) rfl ?_
        have hbr := byt_r (F := Fb) (ts := z) (k := k) hF
        refine yS1r [_, _, _] [_, _, _] C (s_X5_isLetter hK (by omega)) v_X5_isLetter vs_X5_isLetter s_RX5_38 eX5_readLetters_25 (fun _ _ h => WF_pick [0, 1, 2] rfl rfl h) rfl (nle rfl) (nle rfl) (nle rfl) (nle rfl) rfl ?_
        refine x_ifb_eq 44 C eX5_readLetters_28 rfl (fun h28 => ?_) (fun h28 => ?_)
        · have he := h3.symm.trans (skp_no (isA_0 (by assumption)) (f + 1))
          refine x_vret C F eX5_readLetters_44 () rfl trivial (fun cf c h => ?_) (nle rfl) (nle rfl)
          rw [he]
          exact WF_pick [2, 0, 1] rfl rfl h
        · refine x_aload_n C eX5_readLetters_31 rfl ?_
          refine x_dup C eX5_readLetters_32 rfl ?_
          refine x_getI 2 C f_RX5_32 eX5_readLetters_33 rfl rfl ?_
          try simp (disch := decide) only [up_s, up_n]
          refine x_iconst C eX5_readLetters_36 ?_
          refine x_iadd C eX5_readLetters_37 ?_
          refine x_putI [_, _, _] 2 C f_RX5_32 eX5_readLetters_38 rfl rfl rfl ?_
          refine x_goto (pc' := 0) C eX5_readLetters_41 rfl ?_
          refine x_pick [_, _, _] [2, 0, 1] rfl rfl ?_
          have h9 := ih (k + 1) (by omega) (by omega) (by omega) ((skp_yes (isA_1 (by assumption))).symm.trans h3)
          refine x_ws _ (fun cf c h => PW.wf (PW_cons (fun _ h => ob_congr (fun i hi9 => ?_) h) PW_rf) h) h9
          by_cases c3 : i = 3
          · rw [c3, up_s, up_s]
          · rw [up_n c3, up_n c3, up_n c3]
  refine x_ws _ (fun cf c h => PW.wf (PW_cons (fun _ h => ob_congr (fun i hi9 => ?_) h) PW_rf) h) (loop 500 (J 3) (by omega) (by omega) (by omega) rfl)
  by_cases c3 : i = 3
  · rw [c3, up_s]
  · rw [up_n c3]

set_option maxHeartbeats 4000000 in
set_option maxRecDepth 100000 in
theorem s_X5_readNumber {G : Gm} {l : Launch} (hK : KG G) {tk q b : Nat} {J : Nat → Int} {z : Int} {Fb : Nat → Int} (hz : 0 ≤ z ∧ z ≤ 400) (hF : ∀ j : Nat, -128 ≤ Fb j ∧ Fb j ≤ 127) (hJ : 0 ≤ J 3 ∧ J 3 ≤ 400) : MD G l yX5_readNumber cX5_readNumber 1 none 2 0 0 [.ref tk] [ob tk 7 [some (.ref q), none, none, none, none] (J), ob q 6 [some (.ref b), none] (fun _ => z), ar G 1 b 400 400 (Fb)] none [ob tk 7 [some (.ref q), none, none, none, none] (up (up (up J 1 1) 3 (numK (byt Fb z) 500 (J 3) 0).1) 4 (numK (byt Fb z) 500 (J 3) 0).2), ob q 6 [some (.ref b), none] (fun _ => z), ar G 1 b 400 400 (Fb)] := by
  refine MX_of (lv := [some (.ref tk)]) hK (by decide +kernel) rfl (nle rfl) (fun X C F => ?_)
  have C : OKc G X l RX5 "readNumber" cX5_readNumber 1 none 2 0 0 := C
  have loop : ∀ (f : Nat) (k : Int) (v : Int), 0 ≤ k → k ≤ 400 → 400 < k + f → (0 ≤ v ∧ v ≤ 1000) ∧ numK (byt Fb z) f k v = numK (byt Fb z) 500 (J 3) 0 → WX G X 0 0 [ob tk 7 [some (.ref q), none, none, none, none] (up (up (up J 1 1) 3 k) 4 v), ob q 6 [some (.ref b), none] (fun _ => z), ar G 1 b 400 400 (Fb)] 10 [some (.ref tk)] [] := by
    intro f
    induction f with
    | zero => intro k v h0 h1 h2 h3; exfalso; omega
    | succ f ih =>
      intro k v h0 h1 h2 h3
      refine x_aload_n C eX5_readNumber_10 rfl ?_
      refine x_getI 0 C f_RX5_32 eX5_readNumber_11 rfl rfl ?_
      try simp (disch := decide) only [up_s, up_n]
      refine x_aload_n C eX5_readNumber_14 rfl ?_
      refine x_getR 0 C f_RX5_9 eX5_readNumber_15 rfl rfl ?_
      refine x_getI 1 C f_RX5_19 eX5_readNumber_18 rfl rfl ?_
      try simp (disch := decide) only [up_s, up_n]
      refine x_icmp_ge 86 C eX5_readNumber_21 rfl (by omega) (by omega) (fun h21 => ?_) (fun h21 => ?_)
      · have he := h3.2.symm.trans (numK_no (isD_0 (by rw [byt_out (F := Fb) (ts := z) (k := k) (by omega)]; decide)) (f + 1))
        refine x_vret C F eX5_readNumber_86 () rfl trivial (fun cf c h => ?_) (nle rfl) (nle rfl)
        rw [he]
        exact WF_pick [0, 1, 2] rfl rfl h
      · refine x_aload_n C eX5_readNumber_24 rfl ?_
        refine x_getR 0 C f_RX5_9 eX5_readNumber_25 rfl rfl ?_
        refine x_aload_n C eX5_readNumber_28 rfl ?_
        refine x_getI 0 C f_RX5_32 eX5_readNumber_29 rfl rfl ?_
        try simp (disch := decide) only [up_s, up_n]
        refine yV1r [_] [_, _, _] C (s_X4_byteAt hK (by omega) (fun j _ => hF j) (by omega)) v_X4_byteAt vv_X4_byteAt s_RX5_24 eX5_readNumber_32 (fun _ _ h => WF_pick [1, 2, 0] rfl rfl h) (rcv 1 rfl) rfl (nle rfl) (nle rfl) (nle rfl) (nle rfl) rfl ?_
        have hbr := byt_r (F := Fb) (ts := z) (k := k) hF
        refine yS1r [_, _, _] [_, _, _] C (s_X5_isDigit hK (by omega)) v_X5_isDigit vs_X5_isDigit s_RX5_48 eX5_readNumber_35 (fun _ _ h => WF_pick [0, 1, 2] rfl rfl h) rfl (nle rfl) (nle rfl) (nle rfl) (nle rfl) rfl ?_
        refine x_ifb_eq 86 C eX5_readNumber_38 rfl (fun h38 => ?_) (fun h38 => ?_)
        · have he := h3.2.symm.trans (numK_no (isD_0 (by assumption)) (f + 1))
          refine x_vret C F eX5_readNumber_86 () rfl trivial (fun cf c h => ?_) (nle rfl) (nle rfl)
          rw [he]
          exact WF_pick [2, 0, 1] rfl rfl h
        · have hdg9 : 48 ≤ byt Fb z k ∧ byt Fb z k ≤ 57 := by assumption
          refine x_aload_n C eX5_readNumber_41 rfl ?_
          refine x_sipush C eX5_readNumber_42 rfl ?_
          refine x_aload_n C eX5_readNumber_45 rfl ?_
          refine x_getI 2 C f_RX5_86 eX5_readNumber_46 rfl rfl ?_
          try simp (disch := decide) only [up_s, up_n]
          refine x_bipush C eX5_readNumber_49 rfl ?_
          refine x_imul C eX5_readNumber_51 ?_
          refine x_aload_n C eX5_readNumber_52 rfl ?_
          refine x_getR 2 C f_RX5_9 eX5_readNumber_53 rfl rfl ?_
          refine x_aload_n C eX5_readNumber_56 rfl ?_
          refine x_getI 2 C f_RX5_32 eX5_readNumber_57 rfl rfl ?_
          try simp (disch := decide) only [up_s, up_n]
          refine yV1r [_] [_, _, _] C (s_X4_byteAt hK (by omega) (fun j _ => hF j) (by omega)) v_X4_byteAt vv_X4_byteAt s_RX5_24 eX5_readNumber_60 (fun _ _ h => WF_pick [0, 1, 2] rfl rfl h) (rcv 0 rfl) rfl (nle rfl) (nle rfl) (nle rfl) (nle rfl) rfl ?_
          refine x_iadd C eX5_readNumber_63 ?_
          refine x_bipush C eX5_readNumber_64 rfl ?_
          refine x_isub C eX5_readNumber_66 ?_
          refine x_min C s_RX5_89 s2_min eX5_readNumber_67 rfl (nle rfl) (nle rfl) (nle rfl) (nle rfl) (by omega) (by omega) ?_
          refine x_putI [_, _, _] 2 C f_RX5_86 eX5_readNumber_70 rfl rfl rfl ?_
          refine x_aload_n C eX5_readNumber_73 rfl ?_
          refine x_dup C eX5_readNumber_74 rfl ?_
          refine x_getI 2 C f_RX5_32 eX5_readNumber_75 rfl rfl ?_
          try simp (disch := decide) only [up_s, up_n]
          refine x_iconst C eX5_readNumber_78 ?_
          refine x_iadd C eX5_readNumber_79 ?_
          refine x_putI [_, _, _] 2 C f_RX5_32 eX5_readNumber_80 rfl rfl rfl ?_
          refine x_goto (pc' := 10) C eX5_readNumber_83 rfl ?_
          refine x_pick [_, _, _] [2, 0, 1] rfl rfl ?_
          have h9 := ih (k + 1) (min 1000 (v * 10 + byt Fb z k - 48)) (by omega) (by omega) (by omega) ⟨by omega, (numK_yes (isD_1 (by assumption))).symm.trans h3.2⟩
          refine x_ws _ (fun cf c h => PW.wf (PW_cons (fun _ h => ob_congr (fun i hi9 => ?_) h) PW_rf) h) h9
          by_cases c4 : i = 4
          · rw [c4]; rfl
          · by_cases c3 : i = 3
            · rw [c3]; rfl
            · rw [up_n c3, up_n c4, up_n c4, up_n c3, up_n c4, up_n c3]
  refine x_aload_n C eX5_readNumber_0 rfl ?_
  refine x_iconst C eX5_readNumber_1 ?_
  refine x_putI [_, _, _] 0 C f_RX5_35 eX5_readNumber_2 rfl rfl rfl ?_
  refine x_aload_n C eX5_readNumber_5 rfl ?_
  refine x_iconst C eX5_readNumber_6 ?_
  refine x_putI [_, _, _] 0 C f_RX5_86 eX5_readNumber_7 rfl rfl rfl ?_
  refine x_pick [_, _, _] [0, 1, 2] rfl rfl ?_
  refine x_ws _ (fun cf c h => PW.wf (PW_cons (fun _ h => ob_congr (fun i hi9 => ?_) h) PW_rf) h) (loop 500 (J 3) 0 (by omega) (by omega) (by omega) ⟨by decide, rfl⟩)
  by_cases c4 : i = 4
  · rw [c4]; rfl
  · by_cases c3 : i = 3
    · rw [c3]; rfl
    · rw [up_n c4, up_n c4, up_n c3]

set_option maxHeartbeats 4000000 in
set_option maxRecDepth 100000 in
theorem s_X5_holds {G : Gm} {l : Launch} (hK : KG G) {tk q b : Nat} {J : Nat → Int} {z : Int} {Fb : Nat → Int} {M : Pool} {u : List Int} {q9 b9 : Nat} (hS : KS G) (hs : strG G q9 b9 u) (hz : 0 ≤ z ∧ z ≤ 400) (hF : ∀ j : Nat, -128 ≤ Fb j ∧ Fb j ≤ 127) (hJ : (0 ≤ J 2 ∧ J 2 ≤ J 3) ∧ J 3 ≤ 400) : MD G l yX5_holds cX5_holds 2 (some .boolean) 6 0 0 [.ref tk, .ref q9] [ob tk 7 [some (.ref q), none, none, none, none] (J), ob q 6 [some (.ref b), none] (fun _ => z), ar G 1 b 400 400 (Fb), PL G M] (some (.int (zI (bz (hwK Fb z (J 2) (J 3) u))))) [ob tk 7 [some (.ref q), none, none, none, none] (J), ob q 6 [some (.ref b), none] (fun _ => z), ar G 1 b 400 400 (Fb), PL G M] := by
  refine MX_of (lv := [some (.ref tk), some (.ref q9)]) hK (by decide +kernel) rfl (nle rfl) (fun X C F => ?_)
  have C : OKc G X l RX5 "holds" cX5_holds 2 (some .boolean) 6 0 0 := C
  refine x_aload_n C eX5_holds_0 rfl ?_
  refine x_getR 0 C f_RX5_9 eX5_holds_1 rfl rfl ?_
  refine x_aload_n C eX5_holds_4 rfl ?_
  refine x_getI 0 C f_RX5_15 eX5_holds_5 rfl rfl ?_
  try simp (disch := decide) only [up_s, up_n]
  refine x_aload_n C eX5_holds_8 rfl ?_
  refine x_getI 0 C f_RX5_32 eX5_holds_9 rfl rfl ?_
  try simp (disch := decide) only [up_s, up_n]
  refine x_aload_n C eX5_holds_12 rfl ?_
  refine yV3r [_] [_, _, _, _] C (s_X4_holdsWord hK hS (hs.sk _) hz hF (by omega)) v_X4_holdsWord vv_X4_holdsWord s_RX5_82 eX5_holds_13 (fun _ _ h => WF_pick [1, 2, 3, 0] rfl rfl h) (rcv 1 rfl) rfl (nle rfl) (nle rfl) (nle rfl) (nle rfl) rfl ?_
  refine x_iret (nz_bz _) C F eX5_holds_16 () ?_ trivial (fun cf c h => ?_) (nle rfl) (nle rfl)
  · rfl
  · exact WF_pick [3, 0, 1, 2] rfl rfl h

set_option maxHeartbeats 4000000 in
set_option maxRecDepth 100000 in
theorem s_X5_kindOfWord {G : Gm} {l : Launch} (hK : KG G) {tk q b : Nat} {J : Nat → Int} {z : Int} {Fb : Nat → Int} {M : Pool} (hS : KS G) (hz : 0 ≤ z ∧ z ≤ 400) (hF : ∀ j : Nat, -128 ≤ Fb j ∧ Fb j ≤ 127) (hJ : (0 ≤ J 2 ∧ J 2 ≤ J 3) ∧ J 3 ≤ 400) : MD G l yX5_kindOfWord cX5_kindOfWord 1 (some .int) 7 0 0 [.ref tk] [ob tk 7 [some (.ref q), none, none, none, none] (J), ob q 6 [some (.ref b), none] (fun _ => z), ar G 1 b 400 400 (Fb), PL G M] (some (.int (zI (kcF Fb z (J 2) (J 3))))) [ob tk 7 [some (.ref q), none, none, none, none] (J), ob q 6 [some (.ref b), none] (fun _ => z), ar G 1 b 400 400 (Fb), PL G M] := by
  refine MX_of (lv := [some (.ref tk)]) hK (by decide +kernel) rfl (nle rfl) (fun X C F => ?_)
  have C : OKc G X l RX5 "kindOfWord" cX5_kindOfWord 1 (some .int) 7 0 0 := C
  refine x_aload_n C eX5_kindOfWord_0 rfl ?_
  refine x_getI 0 C f_RX5_32 eX5_kindOfWord_1 rfl rfl ?_
  try simp (disch := decide) only [up_s, up_n]
  refine x_aload_n C eX5_kindOfWord_4 rfl ?_
  refine x_getI 0 C f_RX5_15 eX5_kindOfWord_5 rfl rfl ?_
  try simp (disch := decide) only [up_s, up_n]
  refine x_isub C eX5_kindOfWord_8 ?_
  refine x_bipush C eX5_kindOfWord_9 rfl ?_
  refine x_icmp_le 16 C eX5_kindOfWord_11 rfl (by omega) (by omega) (fun h11 => ?_) (fun h11 => ?_)
  · refine x_aload_n C eX5_kindOfWord_16 rfl ?_
    obtain ⟨q17, b17, hr17, hq17⟩ := lit_RX5_54 hS
    refine x_ldcS C hr17 eX5_kindOfWord_17 ?_
    refine yV1r [] [_, _, _, _] C (s_X5_holds hK hS hq17 hz hF hJ) v_X5_holds vv_X5_holds s_RX5_56 eX5_kindOfWord_19 (fun _ _ h => WF_pick [0, 1, 2, 3] rfl rfl h) (rcv 0 rfl) rfl (nle rfl) (nle rfl) (nle rfl) (nle rfl) rfl ?_
    refine x_ifb_eq 28 C eX5_kindOfWord_22 rfl (fun h22 => ?_) (fun h22 => ?_)
    · refine x_aload_n C eX5_kindOfWord_28 rfl ?_
      obtain ⟨q29, b29, hr29, hq29⟩ := lit_RX5_60 hS
      refine x_ldcS C hr29 eX5_kindOfWord_29 ?_
      refine yV1r [] [_, _, _, _] C (s_X5_holds hK hS hq29 hz hF hJ) v_X5_holds vv_X5_holds s_RX5_56 eX5_kindOfWord_31 (fun _ _ h => WF_pick [0, 1, 2, 3] rfl rfl h) (rcv 0 rfl) rfl (nle rfl) (nle rfl) (nle rfl) (nle rfl) rfl ?_
      refine x_ifb_eq 40 C eX5_kindOfWord_34 rfl (fun h34 => ?_) (fun h34 => ?_)
      · refine x_aload_n C eX5_kindOfWord_40 rfl ?_
        obtain ⟨q41, b41, hr41, hq41⟩ := lit_RX5_62 hS
        refine x_ldcS C hr41 eX5_kindOfWord_41 ?_
        refine yV1r [] [_, _, _, _] C (s_X5_holds hK hS hq41 hz hF hJ) v_X5_holds vv_X5_holds s_RX5_56 eX5_kindOfWord_43 (fun _ _ h => WF_pick [0, 1, 2, 3] rfl rfl h) (rcv 0 rfl) rfl (nle rfl) (nle rfl) (nle rfl) (nle rfl) rfl ?_
        refine x_ifb_eq 52 C eX5_kindOfWord_46 rfl (fun h46 => ?_) (fun h46 => ?_)
        · refine x_aload_n C eX5_kindOfWord_52 rfl ?_
          obtain ⟨q53, b53, hr53, hq53⟩ := lit_RX5_64 hS
          refine x_ldcS C hr53 eX5_kindOfWord_53 ?_
          refine yV1r [] [_, _, _, _] C (s_X5_holds hK hS hq53 hz hF hJ) v_X5_holds vv_X5_holds s_RX5_56 eX5_kindOfWord_55 (fun _ _ h => WF_pick [0, 1, 2, 3] rfl rfl h) (rcv 0 rfl) rfl (nle rfl) (nle rfl) (nle rfl) (nle rfl) rfl ?_
          refine x_ifb_eq 64 C eX5_kindOfWord_58 rfl (fun h58 => ?_) (fun h58 => ?_)
          · refine x_aload_n C eX5_kindOfWord_64 rfl ?_
            obtain ⟨q65, b65, hr65, hq65⟩ := lit_RX5_66 hS
            refine x_ldcS C hr65 eX5_kindOfWord_65 ?_
            refine yV1r [] [_, _, _, _] C (s_X5_holds hK hS hq65 hz hF hJ) v_X5_holds vv_X5_holds s_RX5_56 eX5_kindOfWord_67 (fun _ _ h => WF_pick [0, 1, 2, 3] rfl rfl h) (rcv 0 rfl) rfl (nle rfl) (nle rfl) (nle rfl) (nle rfl) rfl ?_
            refine x_ifb_eq 76 C eX5_kindOfWord_70 rfl (fun h70 => ?_) (fun h70 => ?_)
            · refine x_aload_n C eX5_kindOfWord_76 rfl ?_
              obtain ⟨q77, b77, hr77, hq77⟩ := lit_RX5_68 hS
              refine x_ldcS C hr77 eX5_kindOfWord_77 ?_
              refine yV1r [] [_, _, _, _] C (s_X5_holds hK hS hq77 hz hF hJ) v_X5_holds vv_X5_holds s_RX5_56 eX5_kindOfWord_79 (fun _ _ h => WF_pick [0, 1, 2, 3] rfl rfl h) (rcv 0 rfl) rfl (nle rfl) (nle rfl) (nle rfl) (nle rfl) rfl ?_
              refine x_ifb_eq 88 C eX5_kindOfWord_82 rfl (fun h82 => ?_) (fun h82 => ?_)
              · refine x_aload_n C eX5_kindOfWord_88 rfl ?_
                obtain ⟨q89, b89, hr89, hq89⟩ := lit_RX5_70 hS
                refine x_ldcS C hr89 eX5_kindOfWord_89 ?_
                refine yV1r [] [_, _, _, _] C (s_X5_holds hK hS hq89 hz hF hJ) v_X5_holds vv_X5_holds s_RX5_56 eX5_kindOfWord_91 (fun _ _ h => WF_pick [0, 1, 2, 3] rfl rfl h) (rcv 0 rfl) rfl (nle rfl) (nle rfl) (nle rfl) (nle rfl) rfl ?_
                refine x_ifb_eq 100 C eX5_kindOfWord_94 rfl (fun h94 => ?_) (fun h94 => ?_)
                · refine x_aload_n C eX5_kindOfWord_100 rfl ?_
                  obtain ⟨q101, b101, hr101, hq101⟩ := lit_RX5_72 hS
                  refine x_ldcS C hr101 eX5_kindOfWord_101 ?_
                  refine yV1r [] [_, _, _, _] C (s_X5_holds hK hS hq101 hz hF hJ) v_X5_holds vv_X5_holds s_RX5_56 eX5_kindOfWord_103 (fun _ _ h => WF_pick [0, 1, 2, 3] rfl rfl h) (rcv 0 rfl) rfl (nle rfl) (nle rfl) (nle rfl) (nle rfl) rfl ?_
                  refine x_ifb_eq 112 C eX5_kindOfWord_106 rfl (fun h106 => ?_) (fun h106 => ?_)
                  · refine x_aload_n C eX5_kindOfWord_112 rfl ?_
                    obtain ⟨q113, b113, hr113, hq113⟩ := lit_RX5_74 hS
                    refine x_ldcS C hr113 eX5_kindOfWord_113 ?_
                    refine yV1r [] [_, _, _, _] C (s_X5_holds hK hS hq113 hz hF hJ) v_X5_holds vv_X5_holds s_RX5_56 eX5_kindOfWord_115 (fun _ _ h => WF_pick [0, 1, 2, 3] rfl rfl h) (rcv 0 rfl) rfl (nle rfl) (nle rfl) (nle rfl) (nle rfl) rfl ?_
                    refine x_ifb_eq 124 C eX5_kindOfWord_118 rfl (fun h118 => ?_) (fun h118 => ?_)
                    · refine x_aload_n C eX5_kindOfWord_124 rfl ?_
                      obtain ⟨q125, b125, hr125, hq125⟩ := lit_RX5_76 hS
                      refine x_ldcS C hr125 eX5_kindOfWord_125 ?_
                      refine yV1r [] [_, _, _, _] C (s_X5_holds hK hS hq125 hz hF hJ) v_X5_holds vv_X5_holds s_RX5_56 eX5_kindOfWord_127 (fun _ _ h => WF_pick [0, 1, 2, 3] rfl rfl h) (rcv 0 rfl) rfl (nle rfl) (nle rfl) (nle rfl) (nle rfl) rfl ?_
                      refine x_ifb_eq 136 C eX5_kindOfWord_130 rfl (fun h130 => ?_) (fun h130 => ?_)
                      · refine x_aload_n C eX5_kindOfWord_136 rfl ?_
                        obtain ⟨q137, b137, hr137, hq137⟩ := lit_RX5_78 hS
                        refine x_ldcS C hr137 eX5_kindOfWord_137 ?_
                        refine yV1r [] [_, _, _, _] C (s_X5_holds hK hS hq137 hz hF hJ) v_X5_holds vv_X5_holds s_RX5_56 eX5_kindOfWord_139 (fun _ _ h => WF_pick [0, 1, 2, 3] rfl rfl h) (rcv 0 rfl) rfl (nle rfl) (nle rfl) (nle rfl) (nle rfl) rfl ?_
                        refine x_ifb_eq 148 C eX5_kindOfWord_142 rfl (fun h142 => ?_) (fun h142 => ?_)
                        · refine x_aload_n C eX5_kindOfWord_148 rfl ?_
                          obtain ⟨q149, b149, hr149, hq149⟩ := lit_RX5_80 hS
                          refine x_ldcS C hr149 eX5_kindOfWord_149 ?_
                          refine yV1r [] [_, _, _, _] C (s_X5_holds hK hS hq149 hz hF hJ) v_X5_holds vv_X5_holds s_RX5_56 eX5_kindOfWord_151 (fun _ _ h => WF_pick [0, 1, 2, 3] rfl rfl h) (rcv 0 rfl) rfl (nle rfl) (nle rfl) (nle rfl) (nle rfl) rfl ?_
                          refine x_ifb_eq 162 C eX5_kindOfWord_154 rfl (fun h154 => ?_) (fun h154 => ?_)
                          · refine x_iconst C eX5_kindOfWord_162 ?_
                            refine x_iret (by first | rfl | exact (narZ (by omega)).1) C F eX5_kindOfWord_163 () ?_ trivial (fun cf c h => ?_) (nle rfl) (nle rfl)
                            · first
                                | rw [kcF, if_neg (by omega), if_neg h22, if_neg h34, if_neg h46, if_neg h58, if_neg h70, if_neg h82, if_neg h94, if_neg h106, if_neg h118, if_neg h130, if_neg h142, if_neg h154]
                                | rw [kcF, if_neg (by omega), if_neg h22, if_neg h34, if_neg h46, if_neg h58, if_neg h70, if_neg h82, if_neg h94, if_neg h106, if_neg h118, if_neg h130, if_neg h142, if_pos h154]
                            · exact WF_pick [0, 1, 2, 3] rfl rfl h
                          · refine x_bipush C eX5_kindOfWord_157 rfl ?_
                            refine x_goto (pc' := 163) C eX5_kindOfWord_159 rfl ?_
                            refine x_iret (by first | rfl | exact (narZ (by omega)).1) C F eX5_kindOfWord_163 () ?_ trivial (fun cf c h => ?_) (nle rfl) (nle rfl)
                            · first
                                | rw [kcF, if_neg (by omega), if_neg h22, if_neg h34, if_neg h46, if_neg h58, if_neg h70, if_neg h82, if_neg h94, if_neg h106, if_neg h118, if_neg h130, if_neg h142, if_neg h154]
                                | rw [kcF, if_neg (by omega), if_neg h22, if_neg h34, if_neg h46, if_neg h58, if_neg h70, if_neg h82, if_neg h94, if_neg h106, if_neg h118, if_neg h130, if_neg h142, if_pos h154]
                            · exact WF_pick [0, 1, 2, 3] rfl rfl h
                        · refine x_bipush C eX5_kindOfWord_145 rfl ?_
                          refine x_iret (by first | rfl | exact (narZ (by omega)).1) C F eX5_kindOfWord_147 () ?_ trivial (fun cf c h => ?_) (nle rfl) (nle rfl)
                          · rw [kcF, if_neg (by omega), if_neg h22, if_neg h34, if_neg h46, if_neg h58, if_neg h70, if_neg h82, if_neg h94, if_neg h106, if_neg h118, if_neg h130, if_pos h142]
                          · exact WF_pick [0, 1, 2, 3] rfl rfl h
                      · refine x_bipush C eX5_kindOfWord_133 rfl ?_
                        refine x_iret (by first | rfl | exact (narZ (by omega)).1) C F eX5_kindOfWord_135 () ?_ trivial (fun cf c h => ?_) (nle rfl) (nle rfl)
                        · rw [kcF, if_neg (by omega), if_neg h22, if_neg h34, if_neg h46, if_neg h58, if_neg h70, if_neg h82, if_neg h94, if_neg h106, if_neg h118, if_pos h130]
                        · exact WF_pick [0, 1, 2, 3] rfl rfl h
                    · refine x_bipush C eX5_kindOfWord_121 rfl ?_
                      refine x_iret (by first | rfl | exact (narZ (by omega)).1) C F eX5_kindOfWord_123 () ?_ trivial (fun cf c h => ?_) (nle rfl) (nle rfl)
                      · rw [kcF, if_neg (by omega), if_neg h22, if_neg h34, if_neg h46, if_neg h58, if_neg h70, if_neg h82, if_neg h94, if_neg h106, if_pos h118]
                      · exact WF_pick [0, 1, 2, 3] rfl rfl h
                  · refine x_bipush C eX5_kindOfWord_109 rfl ?_
                    refine x_iret (by first | rfl | exact (narZ (by omega)).1) C F eX5_kindOfWord_111 () ?_ trivial (fun cf c h => ?_) (nle rfl) (nle rfl)
                    · rw [kcF, if_neg (by omega), if_neg h22, if_neg h34, if_neg h46, if_neg h58, if_neg h70, if_neg h82, if_neg h94, if_pos h106]
                    · exact WF_pick [0, 1, 2, 3] rfl rfl h
                · refine x_bipush C eX5_kindOfWord_97 rfl ?_
                  refine x_iret (by first | rfl | exact (narZ (by omega)).1) C F eX5_kindOfWord_99 () ?_ trivial (fun cf c h => ?_) (nle rfl) (nle rfl)
                  · rw [kcF, if_neg (by omega), if_neg h22, if_neg h34, if_neg h46, if_neg h58, if_neg h70, if_neg h82, if_pos h94]
                  · exact WF_pick [0, 1, 2, 3] rfl rfl h
              · refine x_bipush C eX5_kindOfWord_85 rfl ?_
                refine x_iret (by first | rfl | exact (narZ (by omega)).1) C F eX5_kindOfWord_87 () ?_ trivial (fun cf c h => ?_) (nle rfl) (nle rfl)
                · rw [kcF, if_neg (by omega), if_neg h22, if_neg h34, if_neg h46, if_neg h58, if_neg h70, if_pos h82]
                · exact WF_pick [0, 1, 2, 3] rfl rfl h
            · refine x_bipush C eX5_kindOfWord_73 rfl ?_
              refine x_iret (by first | rfl | exact (narZ (by omega)).1) C F eX5_kindOfWord_75 () ?_ trivial (fun cf c h => ?_) (nle rfl) (nle rfl)
              · rw [kcF, if_neg (by omega), if_neg h22, if_neg h34, if_neg h46, if_neg h58, if_pos h70]
              · exact WF_pick [0, 1, 2, 3] rfl rfl h
          · refine x_bipush C eX5_kindOfWord_61 rfl ?_
            refine x_iret (by first | rfl | exact (narZ (by omega)).1) C F eX5_kindOfWord_63 () ?_ trivial (fun cf c h => ?_) (nle rfl) (nle rfl)
            · rw [kcF, if_neg (by omega), if_neg h22, if_neg h34, if_neg h46, if_pos h58]
            · exact WF_pick [0, 1, 2, 3] rfl rfl h
        · refine x_bipush C eX5_kindOfWord_49 rfl ?_
          refine x_iret (by first | rfl | exact (narZ (by omega)).1) C F eX5_kindOfWord_51 () ?_ trivial (fun cf c h => ?_) (nle rfl) (nle rfl)
          · rw [kcF, if_neg (by omega), if_neg h22, if_neg h34, if_pos h46]
          · exact WF_pick [0, 1, 2, 3] rfl rfl h
      · refine x_bipush C eX5_kindOfWord_37 rfl ?_
        refine x_iret (by first | rfl | exact (narZ (by omega)).1) C F eX5_kindOfWord_39 () ?_ trivial (fun cf c h => ?_) (nle rfl) (nle rfl)
        · rw [kcF, if_neg (by omega), if_neg h22, if_pos h34]
        · exact WF_pick [0, 1, 2, 3] rfl rfl h
    · refine x_bipush C eX5_kindOfWord_25 rfl ?_
      refine x_iret (by first | rfl | exact (narZ (by omega)).1) C F eX5_kindOfWord_27 () ?_ trivial (fun cf c h => ?_) (nle rfl) (nle rfl)
      · rw [kcF, if_neg (by omega), if_pos h22]
      · exact WF_pick [0, 1, 2, 3] rfl rfl h
  · refine x_iconst C eX5_kindOfWord_14 ?_
    refine x_iret (by first | rfl | exact (narZ (by omega)).1) C F eX5_kindOfWord_15 () ?_ trivial (fun cf c h => ?_) (nle rfl) (nle rfl)
    · rw [kcF, if_pos (by omega)]
    · exact WF_pick [0, 1, 2, 3] rfl rfl h

set_option maxHeartbeats 4000000 in
set_option maxRecDepth 100000 in
theorem s_X5_goTo {G : Gm} {l : Launch} (hK : KG G) {tk q b : Nat} {J : Nat → Int} {z : Int} {Fb : Nat → Int} {M : Pool} {off : Int} (hS : KS G) (hz : 0 ≤ z ∧ z ≤ 400) (hF : ∀ j : Nat, -128 ≤ Fb j ∧ Fb j ≤ 127) (ho : 0 ≤ off ∧ off ≤ 400) : MD G l yX5_goTo cX5_goTo 3 none 8 0 0 [.ref tk, .int (zI off)] [ob tk 7 [some (.ref q), none, none, none, none] (J), ob q 6 [some (.ref b), none] (fun _ => z), ar G 1 b 400 400 (Fb), PL G M] none [ob tk 7 [some (.ref q), none, none, none, none] (tkN Fb z (J 4) off), ob q 6 [some (.ref b), none] (fun _ => z), ar G 1 b 400 400 (Fb), PL G M] := by
  refine MX_of (lv := [some (.ref tk), some (.int (zI off)), none]) hK (by decide +kernel) rfl (nle rfl) (fun X C F => ?_)
  have C : OKc G X l RX5 "goTo" cX5_goTo 3 none 8 0 0 := C
  have tail : ∀ s9 : Int, skp isW (byt Fb z) 500 off = s9 → 0 ≤ s9 → s9 ≤ 400 → WX G X 0 0 [ob tk 7 [some (.ref q), none, none, none, none] (up J 2 s9), ob q 6 [some (.ref b), none] (fun _ => z), ar G 1 b 400 400 (Fb), PL G M] 49 [some (.ref tk), some (.int (zI off)), none] [] := by
    intro s9 hs9 h0 h1
    have g1 := skp_ge isA (byt Fb z) 500 s9
    have g2 := skp_le (p := isA) (F := Fb) (ts := z) (by decide) 500 s9
    refine x_aload_n C eX5_goTo_49 rfl ?_
    refine x_aload_n C eX5_goTo_50 rfl ?_
    refine x_getI 0 C f_RX5_15 eX5_goTo_51 rfl rfl ?_
    try simp (disch := decide) only [up_s, up_n]
    refine x_putI [_, _, _, _] 0 C f_RX5_32 eX5_goTo_54 rfl rfl rfl ?_
    refine x_aload_n C eX5_goTo_57 rfl ?_
    refine x_getR 0 C f_RX5_9 eX5_goTo_58 rfl rfl ?_
    refine x_aload_n C eX5_goTo_61 rfl ?_
    refine x_getI 0 C f_RX5_15 eX5_goTo_62 rfl rfl ?_
    try simp (disch := decide) only [up_s, up_n]
    refine yV1r [_, _] [_, _, _, _] C (s_X4_byteAt hK (by omega) (fun j _ => hF j) (by omega)) v_X4_byteAt vv_X4_byteAt s_RX5_24 eX5_goTo_65 (fun _ _ h => WF_pick [1, 2, 0, 3] rfl rfl h) (rcv 1 rfl) rfl (nle rfl) (nle rfl) (nle rfl) (nle rfl) rfl ?_
    have hbr := byt_r (F := Fb) (ts := z) (k := s9) hF
    refine x_istore_n [_, _, _] C eX5_goTo_68 rfl rfl (nlt rfl) ?_
    refine x_aload_n C eX5_goTo_69 rfl ?_
    refine x_getI 2 C f_RX5_15 eX5_goTo_70 rfl rfl ?_
    try simp (disch := decide) only [up_s, up_n]
    refine x_aload_n C eX5_goTo_73 rfl ?_
    refine x_getR 2 C f_RX5_9 eX5_goTo_74 rfl rfl ?_
    refine x_getI 0 C f_RX5_19 eX5_goTo_77 rfl rfl ?_
    try simp (disch := decide) only [up_s, up_n]
    refine x_icmp_lt 91 C eX5_goTo_80 rfl (by omega) (by omega) (fun h80 => ?_) (fun h80 => ?_)
    · refine x_iload_n C eX5_goTo_91 rfl ?_
      refine yS1r [_, _, _, _] [_, _, _, _] C (s_X5_isLetter hK (by omega)) v_X5_isLetter vs_X5_isLetter s_RX5_38 eX5_goTo_92 (fun _ _ h => WF_pick [0, 1, 2, 3] rfl rfl h) rfl (nle rfl) (nle rfl) (nle rfl) (nle rfl) rfl ?_
      refine x_ifb_eq 113 C eX5_goTo_95 rfl (fun h95 => ?_) (fun h95 => ?_)
      · refine x_iload_n C eX5_goTo_113 rfl ?_
        refine yS1r [_, _, _, _] [_, _, _, _] C (s_X5_isDigit hK (by omega)) v_X5_isDigit vs_X5_isDigit s_RX5_48 eX5_goTo_114 (fun _ _ h => WF_pick [0, 1, 2, 3] rfl rfl h) rfl (nle rfl) (nle rfl) (nle rfl) (nle rfl) rfl ?_
        refine x_ifb_eq 127 C eX5_goTo_117 rfl (fun h117 => ?_) (fun h117 => ?_)
        · refine x_aload_n C eX5_goTo_127 rfl ?_
          refine x_iload_n C eX5_goTo_128 rfl ?_
          refine x_bipush C eX5_goTo_129 rfl ?_
          refine x_icmp_ne 138 C eX5_goTo_131 rfl (by omega) (by omega) (fun h131 => ?_) (fun h131 => ?_)
          · refine x_iconst C eX5_goTo_138 ?_
            refine x_putI [_, _, _, _] 2 C f_RX5_35 eX5_goTo_139 rfl rfl rfl ?_
            refine x_aload_n C eX5_goTo_142 rfl ?_
            refine x_dup C eX5_goTo_143 rfl ?_
            refine x_getI 2 C f_RX5_32 eX5_goTo_144 rfl rfl ?_
            try simp (disch := decide) only [up_s, up_n]
            refine x_iconst C eX5_goTo_147 ?_
            refine x_iadd C eX5_goTo_148 ?_
            refine x_putI [_, _, _, _] 2 C f_RX5_32 eX5_goTo_149 rfl rfl rfl ?_
            refine x_vret C F eX5_goTo_152 () rfl trivial (fun cf c h => ?_) (nle rfl) (nle rfl)
            refine PW.wf (PW_cons (fun _ h => ob_congr (fun i hi9 => ?_) h) PW_rf) (WF_pick [2, 0, 1, 3] rfl rfl h)
            rw [tkN, hs9]
            first
              | rw [tkM, if_pos (show z ≤ s9 by omega)]
              | rw [tkM, if_neg (by omega), if_pos (by omega)]
              | rw [tkM, if_neg (by omega), if_neg (by omega), if_pos (by omega)]
              | rw [tkM, if_neg (by omega), if_neg (by omega), if_neg (by omega)]
            match i with
            | 0 => exact absurd hi9 (by simp)
            | 1 => first | rfl | exact (if_pos (by omega)).symm | exact (if_neg (by omega)).symm
            | 2 => rfl
            | 3 => rfl
            | 4 => rfl
            | (k + 5) => exact absurd hi9 (by simp)
          · refine x_iconst C eX5_goTo_134 ?_
            refine x_goto (pc' := 139) C eX5_goTo_135 rfl ?_
            refine x_putI [_, _, _, _] 2 C f_RX5_35 eX5_goTo_139 rfl rfl rfl ?_
            refine x_aload_n C eX5_goTo_142 rfl ?_
            refine x_dup C eX5_goTo_143 rfl ?_
            refine x_getI 2 C f_RX5_32 eX5_goTo_144 rfl rfl ?_
            try simp (disch := decide) only [up_s, up_n]
            refine x_iconst C eX5_goTo_147 ?_
            refine x_iadd C eX5_goTo_148 ?_
            refine x_putI [_, _, _, _] 2 C f_RX5_32 eX5_goTo_149 rfl rfl rfl ?_
            refine x_vret C F eX5_goTo_152 () rfl trivial (fun cf c h => ?_) (nle rfl) (nle rfl)
            refine PW.wf (PW_cons (fun _ h => ob_congr (fun i hi9 => ?_) h) PW_rf) (WF_pick [2, 0, 1, 3] rfl rfl h)
            rw [tkN, hs9]
            first
              | rw [tkM, if_pos (show z ≤ s9 by omega)]
              | rw [tkM, if_neg (by omega), if_pos (by omega)]
              | rw [tkM, if_neg (by omega), if_neg (by omega), if_pos (by omega)]
              | rw [tkM, if_neg (by omega), if_neg (by omega), if_neg (by omega)]
            match i with
            | 0 => exact absurd hi9 (by simp)
            | 1 => first | rfl | exact (if_pos (by omega)).symm | exact (if_neg (by omega)).symm
            | 2 => rfl
            | 3 => rfl
            | 4 => rfl
            | (k + 5) => exact absurd hi9 (by simp)
        · refine x_aload_n C eX5_goTo_120 rfl ?_
          refine yV0v [_] [_, _, _, _] C (s_X5_readNumber hK hz hF (by simp (disch := decide) only [up_s, up_n]; omega)) v_X5_readNumber vv_X5_readNumber s_RX5_51 eX5_goTo_121 (fun _ _ h => WF_pick [2, 0, 1, 3] rfl rfl h) (rcv 2 rfl) rfl (nle rfl) (nle rfl) (nle rfl) (nle rfl) rfl ?_
          refine x_goto (pc' := 152) C eX5_goTo_124 rfl ?_
          refine x_vret C F eX5_goTo_152 () rfl trivial (fun cf c h => ?_) (nle rfl) (nle rfl)
          refine PW.wf (PW_cons (fun _ h => ob_congr (fun i hi9 => ?_) h) PW_rf) (WF_pick [0, 1, 2, 3] rfl rfl h)
          rw [tkN, hs9]
          first
            | rw [tkM, if_pos (show z ≤ s9 by omega)]
            | rw [tkM, if_neg (by omega), if_pos (by omega)]
            | rw [tkM, if_neg (by omega), if_neg (by omega), if_pos (by omega)]
            | rw [tkM, if_neg (by omega), if_neg (by omega), if_neg (by omega)]
          match i with
          | 0 => exact absurd hi9 (by simp)
          | 1 => first | rfl | exact (if_pos (by omega)).symm | exact (if_neg (by omega)).symm
          | 2 => rfl
          | 3 => rfl
          | 4 => rfl
          | (k + 5) => exact absurd hi9 (by simp)
      · refine x_aload_n C eX5_goTo_98 rfl ?_
        refine yV0v [_] [_, _, _, _] C (s_X5_readLetters hK hz hF (by simp (disch := decide) only [up_s, up_n]; omega)) v_X5_readLetters vv_X5_readLetters s_RX5_41 eX5_goTo_99 (fun _ _ h => WF_pick [2, 0, 1, 3] rfl rfl h) (rcv 2 rfl) rfl (nle rfl) (nle rfl) (nle rfl) (nle rfl) rfl ?_
        refine x_aload_n C eX5_goTo_102 rfl ?_
        refine x_aload_n C eX5_goTo_103 rfl ?_
        refine yV0r [] [_, _, _, _] C (s_X5_kindOfWord hK hS hz hF (by show (0 ≤ s9 ∧ s9 ≤ skp isA (byt Fb z) 500 s9) ∧ skp isA (byt Fb z) 500 s9 ≤ 400; omega)) v_X5_kindOfWord vv_X5_kindOfWord s_RX5_44 eX5_goTo_104 (fun _ _ h => WF_pick [0, 1, 2, 3] rfl rfl h) (rcv 0 rfl) rfl (nle rfl) (nle rfl) (nle rfl) (nle rfl) rfl ?_
        refine x_putI [_, _, _, _] 0 C f_RX5_35 eX5_goTo_107 rfl rfl rfl ?_
        refine x_goto (pc' := 152) C eX5_goTo_110 rfl ?_
        refine x_vret C F eX5_goTo_152 () rfl trivial (fun cf c h => ?_) (nle rfl) (nle rfl)
        refine PW.wf (PW_cons (fun _ h => ob_congr (fun i hi9 => ?_) h) PW_rf) (WF_pick [0, 1, 2, 3] rfl rfl h)
        rw [tkN, hs9]
        first
          | rw [tkM, if_pos (show z ≤ s9 by omega)]
          | rw [tkM, if_neg (by omega), if_pos (by omega)]
          | rw [tkM, if_neg (by omega), if_neg (by omega), if_pos (by omega)]
          | rw [tkM, if_neg (by omega), if_neg (by omega), if_neg (by omega)]
        match i with
        | 0 => exact absurd hi9 (by simp)
        | 1 => first | rfl | exact (if_pos (by omega)).symm | exact (if_neg (by omega)).symm
        | 2 => rfl
        | 3 => rfl
        | 4 => rfl
        | (k + 5) => exact absurd hi9 (by simp)
    · refine x_aload_n C eX5_goTo_83 rfl ?_
      refine x_iconst C eX5_goTo_84 ?_
      refine x_putI [_, _, _, _] 2 C f_RX5_35 eX5_goTo_85 rfl rfl rfl ?_
      refine x_goto (pc' := 152) C eX5_goTo_88 rfl ?_
      refine x_vret C F eX5_goTo_152 () rfl trivial (fun cf c h => ?_) (nle rfl) (nle rfl)
      refine PW.wf (PW_cons (fun _ h => ob_congr (fun i hi9 => ?_) h) PW_rf) (WF_pick [2, 0, 1, 3] rfl rfl h)
      rw [tkN, hs9]
      first
        | rw [tkM, if_pos (show z ≤ s9 by omega)]
        | rw [tkM, if_neg (by omega), if_pos (by omega)]
        | rw [tkM, if_neg (by omega), if_neg (by omega), if_pos (by omega)]
        | rw [tkM, if_neg (by omega), if_neg (by omega), if_neg (by omega)]
      match i with
      | 0 => exact absurd hi9 (by simp)
      | 1 => first | rfl | exact (if_pos (by omega)).symm | exact (if_neg (by omega)).symm
      | 2 => rfl
      | 3 => rfl
      | 4 => rfl
      | (k + 5) => exact absurd hi9 (by simp)
  have loop : ∀ (f : Nat) (k : Int), 0 ≤ k → k ≤ 400 → 400 < k + f → skp isW (byt Fb z) f k = skp isW (byt Fb z) 500 off → WX G X 0 0 [ob tk 7 [some (.ref q), none, none, none, none] (up J 2 k), ob q 6 [some (.ref b), none] (fun _ => z), ar G 1 b 400 400 (Fb), PL G M] 5 [some (.ref tk), some (.int (zI off)), none] [] := by
    intro f
    induction f with
    | zero => intro k h0 h1 h2 h3; exfalso; omega
    | succ f ih =>
      intro k h0 h1 h2 h3
      refine x_aload_n C eX5_goTo_5 rfl ?_
      refine x_getI 0 C f_RX5_15 eX5_goTo_6 rfl rfl ?_
      try simp (disch := decide) only [up_s, up_n]
      refine x_aload_n C eX5_goTo_9 rfl ?_
      refine x_getR 0 C f_RX5_9 eX5_goTo_10 rfl rfl ?_
      refine x_getI 1 C f_RX5_19 eX5_goTo_13 rfl rfl ?_
      try simp (disch := decide) only [up_s, up_n]
      refine x_icmp_ge 49 C eX5_goTo_16 rfl (by omega) (by omega) (fun h16 => ?_) (fun h16 => ?_)
      · have he := h3.symm.trans (skp_no (isW_0 (by rw [byt_out (F := Fb) (ts := z) (k := k) (by omega)]; decide)) (f + 1))
        refine x_pick [_, _, _, _] [0, 1, 2, 3] rfl rfl ?_
        exact tail k he h0 h1
      · refine x_aload_n C eX5_goTo_19 rfl ?_
        refine x_getR 0 C f_RX5_9 eX5_goTo_20 rfl rfl ?_
        refine x_aload_n C eX5_goTo_23 rfl ?_
        refine x_getI 0 C f_RX5_15 eX5_goTo_24 rfl rfl ?_
        try simp (disch := decide) only [up_s, up_n]
        refine yV1r [_, _] [_, _, _, _] C (s_X4_byteAt hK (by omega) (fun j _ => hF j) (by omega)) v_X4_byteAt vv_X4_byteAt s_RX5_24 eX5_goTo_27 (fun _ _ h => WF_pick [1, 2, 0, 3] rfl rfl h) (rcv 1 rfl) rfl (nle rfl) (nle rfl) (nle rfl) (nle rfl) rfl ?_
        have hbr := byt_r (F := Fb) (ts := z) (k := k) hF
        refine yS1r [_, _, _, _] [_, _, _, _] C (s_X5_isBlank hK (by omega)) v_X5_isBlank vs_X5_isBlank s_RX5_28 eX5_goTo_30 (fun _ _ h => WF_pick [0, 1, 2, 3] rfl rfl h) rfl (nle rfl) (nle rfl) (nle rfl) (nle rfl) rfl ?_
        refine x_ifb_eq 49 C eX5_goTo_33 rfl (fun h33 => ?_) (fun h33 => ?_)
        · have he := h3.symm.trans (skp_no (isW_0 (by assumption)) (f + 1))
          refine x_pick [_, _, _, _] [2, 0, 1, 3] rfl rfl ?_
          exact tail k he h0 h1
        · refine x_aload_n C eX5_goTo_36 rfl ?_
          refine x_dup C eX5_goTo_37 rfl ?_
          refine x_getI 2 C f_RX5_15 eX5_goTo_38 rfl rfl ?_
          try simp (disch := decide) only [up_s, up_n]
          refine x_iconst C eX5_goTo_41 ?_
          refine x_iadd C eX5_goTo_42 ?_
          refine x_putI [_, _, _, _] 2 C f_RX5_15 eX5_goTo_43 rfl rfl rfl ?_
          refine x_goto (pc' := 5) C eX5_goTo_46 rfl ?_
          refine x_pick [_, _, _, _] [2, 0, 1, 3] rfl rfl ?_
          have h9 := ih (k + 1) (by omega) (by omega) (by omega) ((skp_yes (isW_1 (by assumption))).symm.trans h3)
          refine x_ws _ (fun cf c h => PW.wf (PW_cons (fun _ h => ob_congr (fun i hi9 => ?_) h) PW_rf) h) h9
          by_cases c2 : i = 2
          · rw [c2, up_s, up_s]
          · rw [up_n c2, up_n c2, up_n c2]
  refine x_aload_n C eX5_goTo_0 rfl ?_
  refine x_iload_n C eX5_goTo_1 rfl ?_
  refine x_putI [_, _, _, _] 0 C f_RX5_15 eX5_goTo_2 rfl rfl rfl ?_
  refine x_pick [_, _, _, _] [0, 1, 2, 3] rfl rfl ?_
  exact loop 500 off (by omega) (by omega) (by omega) rfl
