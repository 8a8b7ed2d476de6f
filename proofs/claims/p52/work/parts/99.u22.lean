/-! Words of a text as strings. -/

set_option maxHeartbeats 4000000 in
set_option maxRecDepth 100000 in
theorem s_J7_checkLength_df160 {G : Gm} {l : Launch} (hK : KG G) {a9 b9 : Int} (h : (0 ≤ a9 ∧ a9 ≤ b9) ∧ b9 < 2147483648) : MD G l yJ7_checkLength_df160 cJ7_checkLength_df160 2 none 1 0 0 [.int (zI a9), .int (zI b9)] [] none [] := by
  refine MX_of (lv := [some (.int (zI a9)), some (.int (zI b9))]) hK (by decide +kernel) rfl (nle rfl) (fun X C F => ?_)
  have C : OKc G X l RJ7 "checkLength" cJ7_checkLength_df160 2 none 1 0 0 := C
  refine x_iload_n C eJ7_checkLength_df160_0 rfl ?_
  refine x_iload_n C eJ7_checkLength_df160_1 rfl ?_
  refine x_icmp_ge 37 C eJ7_checkLength_df160_2 rfl (by omega) (by omega) (fun h2 => ?_) (fun h2 => ?_)
  · refine x_vret C F eJ7_checkLength_df160_37 () rfl trivial (fun cf c h => ?_) (nle rfl) (nle rfl)
    exact WF_pick [] rfl rfl h
  · exfalso; omega

set_option maxHeartbeats 4000000 in
set_option maxRecDepth 100000 in
theorem s_J7_copyOfRangeByte_39247 {G : Gm} {l : Launch} (hK : KG G) {vb : Nat} {w : List Int} (hw : w.length ≤ 6) (hb : ∀ j : Nat, j < w.length → 0 ≤ oF w j ∧ oF w j < 128) : MX G l yJ7_copyOfRangeByte_39247 cJ7_copyOfRangeByte_39247 5 (some (.array .byte)) 4 1 6 [.ref vb, .int (zI 0), .int (zI (w.length : Int))] [ar G 1 vb 16 w.length (oF w)] (fun b9 : Nat => some (.ref b9)) (fun _ => True) (fun b9 : Nat => [ar G 1 vb 16 w.length (oF w), ar G 1 b9 w.length w.length (oF w)]) := by
  refine MX_of (lv := [some (.ref vb), some (.int (zI 0)), some (.int (zI (w.length : Int))), none, none]) hK (by decide +kernel) rfl (by first | exact nle rfl | omega) (fun X C F => ?_)
  have C : OKc G X l RJ7 "copyOfRangeByte" cJ7_copyOfRangeByte_39247 5 (some (.array .byte)) 4 1 6 := C
  refine x_iload_n C eJ7_copyOfRangeByte_39247_0 rfl ?_
  refine x_iload_n C eJ7_copyOfRangeByte_39247_1 rfl ?_
  refine yS2v [_] [_] C (s_J7_checkLength_df160 hK (by omega)) v_J7_checkLength_df160 vs_J7_checkLength_df160 s_RJ7_343 eJ7_copyOfRangeByte_39247_2 (fun _ _ h => WF_pick [0] rfl rfl h) rfl (by first | exact nle rfl | omega) (by first | exact nle rfl | omega) (by first | exact nle rfl | omega) (by first | exact nle rfl | omega) rfl ?_
  refine x_iload_n C eJ7_copyOfRangeByte_39247_5 rfl ?_
  refine x_iload_n C eJ7_copyOfRangeByte_39247_6 rfl ?_
  refine x_isub C eJ7_copyOfRangeByte_39247_7 ?_
  refine x_istore_n [_, _, _, _, _] C eJ7_copyOfRangeByte_39247_8 rfl rfl (nlt rfl) ?_
  refine x_iload_n C eJ7_copyOfRangeByte_39247_9 rfl ?_
  refine x_newB (N := w.length) C ac_byte eJ7_copyOfRangeByte_39247_10 (by omega) (by omega) (by first | exact nle rfl | omega) (by omega) (fun b9 => ?_)
  refine x_astore [_, _, _, _, _] C eJ7_copyOfRangeByte_39247_12 rfl rfl (nlt rfl) ?_
  refine x_aload_n C eJ7_copyOfRangeByte_39247_14 rfl ?_
  refine x_iload_n C eJ7_copyOfRangeByte_39247_15 rfl ?_
  refine x_aload C eJ7_copyOfRangeByte_39247_16 rfl ?_
  refine x_iconst C eJ7_copyOfRangeByte_39247_18 ?_
  refine x_aload_n C eJ7_copyOfRangeByte_39247_19 rfl ?_
  refine x_alen 1 C eJ7_copyOfRangeByte_39247_20 rfl (by decide) ar_al ?_
  refine x_iload_n C eJ7_copyOfRangeByte_39247_21 rfl ?_
  refine x_isub C eJ7_copyOfRangeByte_39247_22 ?_
  refine x_iload_n C eJ7_copyOfRangeByte_39247_23 rfl ?_
  refine x_min C s_RJ7_304 s2_min eJ7_copyOfRangeByte_39247_24 rfl (by first | exact nle rfl | omega) (by first | exact nle rfl | omega) (by first | exact nle rfl | omega) (by first | exact nle rfl | omega) (by omega) (by omega) ?_
  refine x_copyB [_, _] w.length 1 0 C s_RJ7_150 s2_copy eJ7_copyOfRangeByte_39247_27 rfl rfl (by omega) (by omega) (by omega) (by omega) (by omega) rfl (by first | exact nle rfl | omega) hb (by first | exact nle rfl | omega) rfl ?_
  refine x_aload C eJ7_copyOfRangeByte_39247_30 rfl ?_
  refine x_aret (Or.inr ⟨_, rfl⟩) C F eJ7_copyOfRangeByte_39247_32 b9 rfl trivial (fun cf c h => ?_) (by first | exact nle rfl | omega) (by omega)
  refine PW.wf (PW_cons (fun _ h => h) (PW_cons (fun _ h => ar_congr (Nat.le_refl _) (fun j hj => ?_) h) PW_nil)) (WF_pick [1, 0] rfl rfl h)
  rw [if_pos (by omega)]
  exact congrArg (oF w) (by omega)
  
  

set_option maxHeartbeats 4000000 in
set_option maxRecDepth 100000 in
theorem s_J7_copyOfRange_39247 {G : Gm} {l : Launch} (hK : KG G) {vb : Nat} {w : List Int} (hw : w.length ≤ 6) (hb : ∀ j : Nat, j < w.length → 0 ≤ oF w j ∧ oF w j < 128) : MX G l yJ7_copyOfRange_39247 cJ7_copyOfRange_39247 3 (some (.array .byte)) 5 1 6 [.ref vb, .int (zI 0), .int (zI (w.length : Int))] [ar G 1 vb 16 w.length (oF w)] (fun b9 : Nat => some (.ref b9)) (fun _ => True) (fun b9 : Nat => [ar G 1 vb 16 w.length (oF w), ar G 1 b9 w.length w.length (oF w)]) := by
  refine MX_of (lv := [some (.ref vb), some (.int (zI 0)), some (.int (zI (w.length : Int)))]) hK (by decide +kernel) rfl (nle rfl) (fun X C F => ?_)
  have C : OKc G X l RJ7 "copyOfRange" cJ7_copyOfRange_39247 3 (some (.array .byte)) 5 1 6 := C
  refine x_iload_n C eJ7_copyOfRange_39247_0 rfl ?_
  refine x_if_ne 10 C eJ7_copyOfRange_39247_1 rfl (by omega) (fun h1 => ?_) (fun h1 => ?_)
  · exfalso; omega
  · refine x_iload_n C eJ7_copyOfRange_39247_4 rfl ?_
    refine x_aload_n C eJ7_copyOfRange_39247_5 rfl ?_
    refine x_alen 0 C eJ7_copyOfRange_39247_6 rfl (by decide) ar_al ?_
    refine x_icmp_eq 17 C eJ7_copyOfRange_39247_7 rfl (by omega) (by omega) (fun h7 => ?_) (fun h7 => ?_)
    · exfalso; omega
    · refine x_aload_n C eJ7_copyOfRange_39247_10 rfl ?_
      refine x_iload_n C eJ7_copyOfRange_39247_11 rfl ?_
      refine x_iload_n C eJ7_copyOfRange_39247_12 rfl ?_
      refine yS3x [] C (s_J7_copyOfRangeByte_39247 hK hw hb) v_J7_copyOfRangeByte_39247 vs_J7_copyOfRangeByte_39247 s_RJ7_339 eJ7_copyOfRange_39247_13 (fun _ _ h => WF_pick [0] rfl rfl h) rfl (nle rfl) (nle rfl) (nle rfl) (nle rfl) (fun x13 hx13 => ?_)
      exact x_aret (Or.inr ⟨_, rfl⟩) C F eJ7_copyOfRange_39247_16 x13 rfl trivial (fun cf c h => WF_pick [0, 1] rfl rfl h) (nle rfl) (nle rfl)

set_option maxHeartbeats 4000000 in
set_option maxRecDepth 100000 in
theorem s_J0_init_db425 {G : Gm} {l : Launch} (hK : KG G) {q9 sb vb : Nat} {w : List Int} (hS : KS G) (hw : w.length ≤ 6) (hb : ∀ j : Nat, j < w.length → 0 ≤ oF w j ∧ oF w j < 128) : MX G l yJ0_init_db425 cJ0_init_db425 5 none 6 1 6 [.ref q9, .ref sb, .null] [ob q9 0 [some .null, none, none, none] (fun _ => 0), ob sb 1 [some (.ref vb), some (.int (zI 0)), none, none] (sbI (w)), ar G 1 vb 16 (w).length (oF (w))] (fun _ : Nat => none) (fun _ => True) (fun b9 : Nat => [ob q9 0 [some (.ref b9), some (.int (zI 0)), none, none] (fun _ => 0), ob sb 1 [some (.ref vb), some (.int (zI 0)), none, none] (sbI (w)), ar G 1 vb 16 (w).length (oF (w)), ar G 1 b9 w.length w.length (oF w)]) := by
  refine MX_of (lv := [some (.ref q9), some (.ref sb), some (.null), none, none]) hK (by decide +kernel) rfl (nle rfl) (fun X C F => ?_)
  have C : OKc G X l RJ0 "<init>" cJ0_init_db425 5 none 6 1 6 := C
  refine x_aload_n C eJ0_init_db425_0 rfl ?_
  refine x_objInit C ⟨s_RJ0_1, s2_obj⟩ eJ0_init_db425_1 rfl (nle rfl) (nle rfl) ?_
  refine x_aload_n C eJ0_init_db425_4 rfl ?_
  refine yU0r [_, _] [_, _, _] C (s_J5_getValue_6d5f1 hK ) v_J5_getValue_6d5f1 hci_1 im_J5_getValue_6d5f1 s_RJ0_552 sm_J5_getValue_6d5f1 sel_J5_getValue_6d5f1 eJ0_init_db425_5 (fun _ _ h => WF_pick [1, 0, 2] rfl rfl h) (rcv 1 rfl) rfl (nle rfl) (nle rfl) (nle rfl) (nle rfl) rfl ?_
  refine x_astore_n [_, _, _, _, _] C eJ0_init_db425_8 rfl rfl (nlt rfl) ?_
  refine x_aload_n C eJ0_init_db425_9 rfl ?_
  refine yO0r [_, _] [_, _, _] C (s_J4_length_8abf5 hK ) v_J4_length_8abf5 hci_1 v_J5_length_8abf5.1 im_J5_length_8abf5 ⟨v_J5_length_8abf5.2.2.2.1, v_J5_length_8abf5.2.2.2.2.1, v_J5_length_8abf5.2.2.2.2.2⟩ im_J4_length_8abf5 s_RJ0_549 sm_J5_length_8abf5 sel_J5_length_8abf5 eJ0_init_db425_10 (fun _ _ h => WF_pick [0, 1, 2] rfl rfl h) (rcv 0 rfl) rfl (nle rfl) (nle rfl) (nle rfl) (nle rfl) rfl ?_
  refine x_istore [_, _, _, _, _] C eJ0_init_db425_13 rfl rfl (nlt rfl) ?_
  refine x_aload_n C eJ0_init_db425_15 rfl ?_
  refine yU0r [_, _] [_, _, _] C (s_J5_isLatin1_aae02 hK hS) v_J5_isLatin1_aae02 hci_1 im_J5_isLatin1_aae02 s_RJ0_1047 sm_J5_isLatin1_aae02 sel_J5_isLatin1_aae02 eJ0_init_db425_16 (fun _ _ h => WF_pick [0, 1, 2] rfl rfl h) (rcv 0 rfl) rfl (nle rfl) (nle rfl) (nle rfl) (nle rfl) rfl ?_
  refine x_if_eq 41 C eJ0_init_db425_19 rfl (by omega) (fun h19 => ?_) (fun h19 => ?_)
  · exfalso; omega
  · refine x_aload_n C eJ0_init_db425_22 rfl ?_
    refine x_iconst C eJ0_init_db425_23 ?_
    refine x_putFR [_, _, _, _] [_, _, _] 1 C f_RJ0_15 eJ0_init_db425_24 (by intro C T N h; cases h; rfl) rfl (nlt rfl) rfl rfl rfl rfl ?_
    refine x_aload_n C eJ0_init_db425_27 rfl ?_
    refine x_aload_n C eJ0_init_db425_28 rfl ?_
    refine x_iconst C eJ0_init_db425_29 ?_
    refine x_iload C eJ0_init_db425_30 rfl ?_
    refine yS3x [_, _] C (s_J7_copyOfRange_39247 hK (by omega) (by omega)) v_J7_copyOfRange_39247 vs_J7_copyOfRange_39247 s_RJ0_54 eJ0_init_db425_32 (fun _ _ h => WF_pick [2, 0, 1] rfl rfl h) rfl (nle rfl) (nle rfl) (nle rfl) (nle rfl) (fun x32 hx32 => ?_)
    refine x_putFR [_, _, _, _] [_, _, _, _] 3 C f_RJ0_9 eJ0_init_db425_35 (by intro C T N h; cases h; rfl) rfl (nlt rfl) rfl rfl rfl rfl ?_
    refine x_goto (pc' := 97) C eJ0_init_db425_38 rfl ?_
    refine x_vret C F eJ0_init_db425_97 x32 rfl trivial (fun cf c h => ?_) (nle rfl) (nle rfl)
    exact WF_pick [3, 2, 0, 1] rfl rfl h

set_option maxHeartbeats 4000000 in
set_option maxRecDepth 100000 in
theorem s_J0_init_81219 {G : Gm} {l : Launch} (hK : KG G) {q9 sb vb : Nat} {w : List Int} (hS : KS G) (hw : w.length ≤ 6) (hb : ∀ j : Nat, j < w.length → 0 ≤ oF w j ∧ oF w j < 128) : MX G l yJ0_init_81219 cJ0_init_81219 2 none 7 1 6 [.ref q9, .ref sb] [ob q9 0 [some .null, none, none, none] (fun _ => 0), ob sb 1 [some (.ref vb), some (.int (zI 0)), none, none] (sbI (w)), ar G 1 vb 16 (w).length (oF (w))] (fun _ : Nat => none) (fun _ => True) (fun b9 : Nat => [ob q9 0 [some (.ref b9), some (.int (zI 0)), none, none] (fun _ => 0), ob sb 1 [some (.ref vb), some (.int (zI 0)), none, none] (sbI (w)), ar G 1 vb 16 (w).length (oF (w)), ar G 1 b9 w.length w.length (oF w)]) := by
  refine MX_of (lv := [some (.ref q9), some (.ref sb)]) hK (by decide +kernel) rfl (nle rfl) (fun X C F => ?_)
  have C : OKc G X l RJ0 "<init>" cJ0_init_81219 2 none 7 1 6 := C
  refine x_aload_n C eJ0_init_81219_0 rfl ?_
  refine x_aload_n C eJ0_init_81219_1 rfl ?_
  refine x_null C eJ0_init_81219_2 ?_
  refine yI2x (ret' := none) [] C (s_J0_init_db425 hK hS hw hb) v_J0_init_db425 vi_J0_init_db425 rfl s_RJ0_489 eJ0_init_81219_3 (fun _ _ h => WF_pick [0, 1, 2] rfl rfl h) rfl (nle rfl) (nle rfl) (nle rfl) (nle rfl) (fun x3 hx3 => ?_)
  refine x_vret C F eJ0_init_81219_6 x3 rfl trivial (fun cf c h => ?_) (nle rfl) (nle rfl)
  exact WF_pick [0, 1, 2, 3] rfl rfl h

set_option maxHeartbeats 4000000 in
set_option maxRecDepth 100000 in
theorem s_J4_toString_0e30d {G : Gm} {l : Launch} (hK : KG G) {sb vb : Nat} {w : List Int} {M : Pool} (hS : KS G) (hw : w.length ≤ 6) (hb : ∀ j : Nat, j < w.length → 0 ≤ oF w j ∧ oF w j < 128) : MX G l yJ4_toString_0e30d cJ4_toString_0e30d 1 (some (.object "java/lang/String")) 8 2 10 [.ref sb] [ob sb 1 [some (.ref vb), some (.int (zI 0)), none, none] (sbI (w)), ar G 1 vb 16 (w).length (oF (w)), PL G M] (fun x : Nat × Nat => some (.ref x.1)) (fun _ => True) (fun x => [PL G ((x.1, x.2, w) :: M), ob sb 1 [some (.ref vb), some (.int (zI 0)), none, none] (sbI (w)), ar G 1 vb 16 (w).length (oF (w))]) := by
  refine MX_of (lv := [some (.ref sb)]) hK (by decide +kernel) rfl (nle rfl) (fun X C F => ?_)
  have C : OKc G X l RJ4 "toString" cJ4_toString_0e30d 1 (some (.object "java/lang/String")) 8 2 10 := C
  refine x_new C n_RJ4_18 eJ4_toString_0e30d_0 (nle rfl) (nle rfl) (fun q9 => ?_)
  refine x_dup C eJ4_toString_0e30d_3 rfl ?_
  refine x_aload_n C eJ4_toString_0e30d_4 rfl ?_
  refine yI1x (ret' := none) [_] C (s_J0_init_81219 hK hS hw hb) v_J0_init_81219 vi_J0_init_81219 rfl s_RJ4_137 eJ4_toString_0e30d_5 (fun _ _ h => WF_pick [0, 1, 2, 3] rfl rfl h) rfl (nle rfl) (nle rfl) (nle rfl) (nle rfl) (fun x5 hx5 => ?_)
  exact x_aret (Or.inl ⟨_, rfl⟩) C F eJ4_toString_0e30d_8 (q9, x5) rfl trivial (fun cf c h => WF_PL (WF_pick [0, 3, 4, 1, 2] rfl rfl h)) (nle rfl) (nle rfl)

set_option maxHeartbeats 4000000 in
set_option maxRecDepth 100000 in
theorem s_X4_init {G : Gm} {l : Launch} (hK : KG G) {q : Nat}  : MX G l yX4_init cX4_init 1 none 2 1 400 [.ref q] [ob q 6 [some .null, none] (fun _ => 0)] (fun _ : Nat => none) (fun _ => True) (fun b => [ob q 6 [some (.ref b), none] (fun _ => 0), ar G 1 b 400 400 (fun _ => 0)]) := by
  refine MX_of (lv := [some (.ref q)]) hK (by decide +kernel) rfl (nle rfl) (fun X C F => ?_)
  have C : OKc G X l RX4 "<init>" cX4_init 1 none 2 1 400 := C
  refine x_aload_n C eX4_init_0 rfl ?_
  refine x_objInit C ⟨s_RX4_3, s2_obj⟩ eX4_init_1 rfl (nle rfl) (nle rfl) ?_
  refine x_aload_n C eX4_init_4 rfl ?_
  refine x_sipush C eX4_init_5 rfl ?_
  refine x_newB (N := 400) C ac_byte eX4_init_8 rfl (nle rfl) (nle rfl) (nle rfl) (fun b9 => ?_)
  refine x_putFR [_, _] [_, _] 1 C f_RX4_9 eX4_init_10 (by intro C T N h; cases h; rfl) rfl (nlt rfl) rfl rfl rfl rfl ?_
  refine x_vret C F eX4_init_13 b9 rfl trivial (fun cf c h => ?_) (nle rfl) (nle rfl)
  exact WF_pick [1, 0] rfl rfl h

theorem tW_s (Fb : Nat → Int) (z s : Int) (k : Nat) : tW Fb z s (k + 1) = tW Fb z s k ++ [byt Fb z (s + (k : Int))] := by
  unfold tW
  rw [List.range_succ, List.map_append]
  rfl
theorem tW_o {Fb : Nat → Int} {z s : Int} {m j : Nat} (h : j < m) : oF (tW Fb z s m) j = byt Fb z (s + (j : Int)) := by
  unfold oF tW
  rw [List.getD_eq_getElem?_getD, List.getElem?_map, List.getElem?_range h]
  rfl

set_option maxHeartbeats 4000000 in
set_option maxRecDepth 100000 in
theorem s_X4_wordBetween {G : Gm} {l : Launch} (hK : KG G) {q b : Nat} {z s9 e9 : Int} {Fb : Nat → Int} {M : Pool} (hS : KS G) (hz : 0 ≤ z ∧ z ≤ 400) (hF : ∀ j : Nat, -128 ≤ Fb j ∧ Fb j ≤ 127) (hr : 0 ≤ s9 ∧ s9 ≤ e9 ∧ e9 ≤ 400 ∧ e9 - s9 ≤ 6) (hc : ∀ j : Nat, s9 ≤ (j : Int) → (j : Int) < e9 → 97 ≤ byt Fb z (j : Int) ∧ byt Fb z (j : Int) ≤ 122) : MX G l yX4_wordBetween cX4_wordBetween 5 (some (.object "java/lang/String")) 9 4 30 [.ref q, .int (zI s9), .int (zI e9)] [ob q 6 [some (.ref b), none] (fun _ => z), ar G 1 b 400 400 (Fb), PL G M] (fun x : Nat × Nat => some (.ref x.1)) (fun _ => True) (fun x => [ob q 6 [some (.ref b), none] (fun _ => z), ar G 1 b 400 400 (Fb), PL G ((x.1, x.2, tW Fb z s9 (e9 - s9).toNat) :: M)]) := by
  refine MX_of (lv := [some (.ref q), some (.int (zI s9)), some (.int (zI e9)), none, none]) hK (by decide +kernel) rfl (nle rfl) (fun X C F => ?_)
  have C : OKc G X l RX4 "wordBetween" cX4_wordBetween 5 (some (.object "java/lang/String")) 9 4 30 := C
  have hbk : ∀ k : Nat, s9 + (k : Int) < e9 → 97 ≤ byt Fb z (s9 + (k : Int)) ∧ byt Fb z (s9 + (k : Int)) ≤ 122 := fun k hk => by
    have := hc (s9 + (k : Int)).toNat (by omega) (by omega)
    rw [show (((s9 + (k : Int)).toNat : Nat) : Int) = s9 + (k : Int) by omega] at this
    exact this
  have loop : ∀ (sb vb f k : Nat), s9 + (k : Int) ≤ e9 → e9 - s9 < (k : Int) + f → WX G X 2 20 [ob q 6 [some (.ref b), none] (fun _ => z), ar G 1 b 400 400 (Fb), PL G M, ob sb 1 [some (.ref vb), some (.int (zI 0)), none, none] (sbI (tW Fb z s9 k)), ar G 1 vb 16 (tW Fb z s9 k).length (oF (tW Fb z s9 k))] 11 [some (.ref q), some (.int (zI s9)), some (.int (zI e9)), some (.ref sb), some (.int (zI (s9 + (k : Int))))] [] := by
    intro sb vb f
    induction f with
    | zero => intro k h0 h1; exfalso; omega
    | succ f ih =>
      intro k h0 h1
      refine x_iload C eX4_wordBetween_11 rfl ?_
      refine x_iload_n C eX4_wordBetween_13 rfl ?_
      refine x_icmp_ge 35 C eX4_wordBetween_14 rfl (by omega) (by omega) (fun h14 => ?_) (fun h14 => ?_)
      · refine x_aload_n C eX4_wordBetween_35 rfl ?_
        refine yV0x [_, _] C (s_J4_toString_0e30d hK hS (by rw [tW_len]; omega) (fun j hj => by rw [tW_len] at hj; rw [tW_o hj]; have := hbk j (by omega); omega)) v_J4_toString_0e30d vv_J4_toString_0e30d s_RX4_45 eX4_wordBetween_36 (fun _ _ h => WF_pick [3, 4, 2, 0, 1] rfl rfl h) (rcv 3 rfl) rfl (nle rfl) (nle rfl) (nle rfl) (nle rfl) (fun x36 hx36 => ?_)
        refine x_aret (Or.inl ⟨_, rfl⟩) C F eX4_wordBetween_39 x36 rfl trivial (fun cf c h => ?_) (nle rfl) (nle rfl)
        rw [show (e9 - s9).toNat = k by omega]
        exact WF_pick [3, 4, 0] rfl rfl h
      · refine x_aload_n C eX4_wordBetween_17 rfl ?_
        refine x_aload_n C eX4_wordBetween_18 rfl ?_
        refine x_iload C eX4_wordBetween_19 rfl ?_
        refine yV1r [_, _, _] [_, _, _, _, _] C (s_X4_byteAt hK (by omega) (fun j _ => hF j) (by omega)) v_X4_byteAt vv_X4_byteAt s_RX4_34 eX4_wordBetween_21 (fun _ _ h => WF_pick [0, 1, 2, 3, 4] rfl rfl h) (rcv 0 rfl) rfl (nle rfl) (nle rfl) (nle rfl) (nle rfl) rfl ?_
        have hb9 := hbk k (by omega)
        refine x_i2c C eX4_wordBetween_24 (by omega) ?_
        refine yV1r [_, _, _] [_, _, _, _, _] C (s_J4_append_cf468 hK hS (by rw [tW_len]; omega) (by omega)) v_J4_append_cf468 vv_J4_append_cf468 s_RX4_41 eX4_wordBetween_25 (fun _ _ h => WF_pick [3, 4, 0, 1, 2] rfl rfl h) (rcv 3 rfl) rfl (nle rfl) (nle rfl) (nle rfl) (nle rfl) rfl ?_
        refine x_pop C eX4_wordBetween_28 rfl ?_
        refine x_iinc [_, _, _, _, _] C eX4_wordBetween_29 rfl rfl rfl ?_
        refine x_goto (pc' := 11) C eX4_wordBetween_32 rfl ?_
        refine x_pick [_, _, _, _, _] [2, 3, 4, 0, 1] rfl rfl ?_
        have h3 := ih (k + 1) (by omega) (by omega)
        rw [tW_s, show s9 + ((k + 1 : Nat) : Int) = s9 + (k : Int) + 1 by omega] at h3
        exact h3
  refine x_new C n_RX4_38 eX4_wordBetween_0 (nle rfl) (nle rfl) (fun sb => ?_)
  refine x_dup C eX4_wordBetween_3 rfl ?_
  refine yI0x (ret' := none) [_, _, _] C (s_J4_init_da8c8 hK hS) v_J4_init_da8c8 vi_J4_init_da8c8 rfl s_RX4_40 eX4_wordBetween_4 (fun _ _ h => WF_pick [0, 1, 2, 3] rfl rfl h) rfl (nle rfl) (nle rfl) (nle rfl) (nle rfl) (fun vb hvb => ?_)
  refine x_astore_n [_, _, _, _, _] C eX4_wordBetween_7 rfl rfl (nlt rfl) ?_
  refine x_iload_n C eX4_wordBetween_8 rfl ?_
  refine x_istore [_, _, _, _, _] C eX4_wordBetween_9 rfl rfl (nlt rfl) ?_
  refine x_pick [_, _, _, _, _] [2, 3, 4, 0, 1] rfl rfl ?_
  have h3 := loop sb vb 20 0 (by omega) (by omega)
  rw [show s9 + ((0 : Nat) : Int) = s9 by omega] at h3
  exact h3
