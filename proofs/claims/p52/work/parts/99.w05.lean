/-! A StringBuilder as one atom; its String. -/
def SBA (G : Gm) (sb : Nat) (w : List Int) : SA := fun d => ∃ x : Nat × Nat, ((1 ≤ x.2 ∧ x.2 ≤ 602) ∧ w.length ≤ x.2) ∧ WL [ob sb 1 [some (.ref x.1), some (.int (zI 0)), none, none] (sbI w), ar G 1 x.1 x.2 x.2 (oF w)] d
theorem SBA_rcv {G : Gm} {sb : Nat} {w : List Int} (c : Sto) (h : SBA G sb w c) : ∃ fs, c sb = some (.inr (1, fs)) := by
  obtain ⟨x, -, f, f1, -, f3, -⟩ := h
  have h0 := f1 0 _ rfl
  exact ⟨_, (f3 0 _ _ (by simp) h0).1⟩
theorem WF_SBA {G : Gm} {sb vb N : Nat} {w : List Int} {R : List SA} {cf c : Sto} (hN : (1 ≤ N ∧ N ≤ 602) ∧ w.length ≤ N) (h : WF (ob sb 1 [some (.ref vb), some (.int (zI 0)), none, none] (sbI w) :: ar G 1 vb N N (oF w) :: R) cf c) : WF (SBA G sb w :: R) cf c :=
  WF_close (L := [ob sb 1 [some (.ref vb), some (.int (zI 0)), none, none] (sbI w), ar G 1 vb N N (oF w)]) h (fun _ hd => ⟨(vb, N), hN, hd⟩)
theorem MD_sb {G : Gm} {l : Launch} {y : MethodName} {cc : ByteArray} {nL : Nat} {ret : Option FieldType} {d mc ms : Nat} {args : List Value} {sb : Nat} {w w' : List Int} {r : Option Value}
    (h : ∀ vb N : Nat, ((1 ≤ N ∧ N ≤ 602) ∧ w.length ≤ N) → MX G l y cc nL ret d mc ms args [ob sb 1 [some (.ref vb), some (.int (zI 0)), none, none] (sbI w), ar G 1 vb N N (oF w)] (fun _ : Nat × Nat => r) (fun x => ((1 ≤ x.2 ∧ x.2 ≤ 602) ∧ w'.length ≤ x.2)) (fun x : Nat × Nat => [ob sb 1 [some (.ref x.1), some (.int (zI 0)), none, none] (sbI w'), ar G 1 x.1 x.2 x.2 (oF w')])) : MD G l y cc nL ret d mc ms args [SBA G sb w] r [SBA G sb w'] :=
  MX_cv (fun cf c hw => by
    obtain ⟨x, hY, hW⟩ := WF_openX (R := []) hw (fun d hd => hd)
    exact ⟨_, _, _, _, _, cf, hW, h x.1 x.2 hY, fun x2 c' hp hw' => ⟨(), rfl, trivial, WF_SBA (R := []) hp hw'⟩⟩)
theorem WF_PL0 {G : Gm} {ws : List SA} {cf c : Sto} (h : WF ws cf c) : WF (PL G [] :: ws) cf c := by
  obtain ⟨f, h1, h2, h3, h4⟩ := h
  refine ⟨fun i => if i = 0 then s_no else f (i - 1), fun i P hi => ?_, fun i j a hi hj hij => ?_, fun i a e hi he => ?_, h4⟩
  · cases i with
    | zero => cases hi; exact fun x hx => absurd hx List.not_mem_nil
    | succ i => simpa using h1 i P (by simpa using hi)
  · cases i with
    | zero => exact Or.inl rfl
    | succ i =>
      cases j with
      | zero => exact Or.inr rfl
      | succ j => simpa using h2 i j a (by simpa using hi) (by simpa using hj) (fun z => hij (by rw [z]))
  · cases i with
    | zero => cases he
    | succ i => exact h3 i a e (by simpa using hi) (by simpa using he)

theorem z_appS {G : Gm} {l : Launch} (hK : KG G) {sb : Nat} {w : List Int} {q9 b9 : Nat} {v : List Int} (hD : KD G) (hn : w.length + v.length ≤ 300) (hb : ∀ x ∈ w, 0 ≤ x ∧ x < 128) (hq : strG G q9 b9 v) : MD G l yJ4_append_15ec4 cJ4_append_15ec4 2 (some (.object "java/lang/StringBuilder")) 7 1 602 [.ref sb, .ref q9] [SBA G sb w] (some (.ref sb)) [SBA G sb (w ++ v)] := MD_sb (fun vb N hN => z_appendS4 hK hD ⟨hN, hn⟩ hb hq)

theorem z_appC {G : Gm} {l : Launch} (hK : KG G) {sb : Nat} {w : List Int} {c9 : Int} (hD : KD G) (hn : w.length + 1 ≤ 300) (hb : ∀ x ∈ w, 0 ≤ x ∧ x < 128) (hc9 : 0 ≤ c9 ∧ c9 < 128) : MD G l yJ4_append_cf468 cJ4_append_cf468 2 (some (.object "java/lang/StringBuilder")) 7 1 602 [.ref sb, .int (zI c9)] [SBA G sb w] (some (.ref sb)) [SBA G sb (w ++ [c9])] := MD_sb (fun vb N hN => z_appendC4 hK hD ⟨hN, hn⟩ hb hc9)

theorem z_appI {G : Gm} {l : Launch} (hK : KG G) {sb : Nat} {w : List Int} {x9 : Int} (hD : KD G) (hn : w.length + 3 ≤ 300) (hb : ∀ x ∈ w, 0 ≤ x ∧ x < 128) (hx : 0 ≤ x9 ∧ x9 ≤ 127) : MD G l yJ4_append_bf812 cJ4_append_bf812 2 (some (.object "java/lang/StringBuilder")) 7 1 602 [.ref sb, .int (zI x9)] [SBA G sb w] (some (.ref sb)) [SBA G sb (w ++ dg x9)] := MD_sb (fun vb N hN => z_appendI4 hK hD ⟨hN, hn⟩ hb hx)

set_option maxHeartbeats 4000000 in
set_option maxRecDepth 100000 in
theorem z_copyOfRangeByte {G : Gm} {l : Launch} (hK : KG G) {vb N : Nat} {w : List Int} (hw : (w.length ≤ N ∧ N ≤ 602) ∧ w.length ≤ 300) (hb : ∀ j : Nat, 0 ≤ oF w j ∧ oF w j < 128) : MX G l yJ7_copyOfRangeByte_39247 cJ7_copyOfRangeByte_39247 5 (some (.array .byte)) 4 1 602 [.ref vb, .int (zI 0), .int (zI (w.length : Int))] [ar G 1 vb N N (oF (w))] (fun b9 : Nat => some (.ref b9)) (fun _ => True) (fun b9 : Nat => [ar G 1 vb N N (oF (w)), ar G 1 b9 w.length w.length (oF w)]) := by
  refine MX_of (lv := [some (.ref vb), some (.int (zI 0)), some (.int (zI (w.length : Int))), none, none]) hK (by decide +kernel) rfl (by first | exact nle rfl | omega) (fun X C F => ?_)
  have C : OKc G X l RJ7 "copyOfRangeByte" cJ7_copyOfRangeByte_39247 5 (some (.array .byte)) 4 1 602 := C
  refine x_iload_n C eJ7_copyOfRangeByte_39247_0 rfl ?_
  refine x_iload_n C eJ7_copyOfRangeByte_39247_1 rfl ?_
  refine yS2v [_] [_] C (s_J7_checkLength_df160 hK (by omega)) v_J7_checkLength_df160 vs_J7_checkLength_df160 s_RJ7_343 eJ7_copyOfRangeByte_39247_2 (fun _ _ h => WF_pick [0] rfl rfl h) rfl (by first | exact nle rfl | omega) (by first | exact nle rfl | omega) (by first | exact nle rfl | omega) (by first | exact nle rfl | omega) rfl ?_
  refine x_iload_n C eJ7_copyOfRangeByte_39247_5 rfl ?_
  refine x_iload_n C eJ7_copyOfRangeByte_39247_6 rfl ?_
  refine x_isub C eJ7_copyOfRangeByte_39247_7 ?_
  refine x_istore_n [_, _, _, _, _] C eJ7_copyOfRangeByte_39247_8 rfl rfl (nlt rfl) ?_
  refine x_iload_n C eJ7_copyOfRangeByte_39247_9 rfl ?_
  refine x_newB (N := w.length) C ac_byte eJ7_copyOfRangeByte_39247_10 (by omega) (by omega) (by first | exact nle rfl | omega) (by omega) (fun b9 => ?_)
  refine x_astore [_, _, _, _, _] C eJ7_copyOfRangeByte_39247_12 rfl rfl (nlt rfl) ?_
  refine x_aload_n C eJ7_copyOfRangeByte_39247_14 rfl ?_
  refine x_iload_n C eJ7_copyOfRangeByte_39247_15 rfl ?_
  refine x_aload C eJ7_copyOfRangeByte_39247_16 rfl ?_
  refine x_iconst C eJ7_copyOfRangeByte_39247_18 ?_
  refine x_aload_n C eJ7_copyOfRangeByte_39247_19 rfl ?_
  refine x_alen 1 C eJ7_copyOfRangeByte_39247_20 rfl (by decide) ar_al ?_
  refine x_iload_n C eJ7_copyOfRangeByte_39247_21 rfl ?_
  refine x_isub C eJ7_copyOfRangeByte_39247_22 ?_
  refine x_iload_n C eJ7_copyOfRangeByte_39247_23 rfl ?_
  refine x_min C s_RJ7_304 s2_min eJ7_copyOfRangeByte_39247_24 rfl (by first | exact nle rfl | omega) (by first | exact nle rfl | omega) (by first | exact nle rfl | omega) (by first | exact nle rfl | omega) (by omega) (by omega) ?_
  refine x_copyB [_, _] w.length 1 0 C s_RJ7_150 s2_copy eJ7_copyOfRangeByte_39247_27 rfl rfl (by omega) (by omega) (by omega) (by omega) (by omega) rfl (by first | exact nle rfl | omega) (fun j _ => hb j) (by first | exact nle rfl | omega) rfl ?_
  refine x_aload C eJ7_copyOfRangeByte_39247_30 rfl ?_
  refine x_aret (Or.inr ⟨_, rfl⟩) C F eJ7_copyOfRangeByte_39247_32 b9 rfl trivial (fun cf c h => ?_) (by first | exact nle rfl | omega) (by omega)
  refine PW.wf (PW_cons (fun _ h => h) (PW_cons (fun _ h => ar_congr (Nat.le_refl _) (fun j hj => ?_) h) PW_nil)) (WF_pick [1, 0] rfl rfl h)
  rw [if_pos (by omega)]
  exact congrArg (oF w) (by omega)
  
  

set_option maxHeartbeats 4000000 in
set_option maxRecDepth 100000 in
theorem z_copyOfRange {G : Gm} {l : Launch} (hK : KG G) {vb N : Nat} {w : List Int} (hD : KD G) (hw : (w.length ≤ N ∧ N ≤ 602) ∧ w.length ≤ 300) (hb : ∀ j : Nat, 0 ≤ oF w j ∧ oF w j < 128) : MX G l yJ7_copyOfRange_39247 cJ7_copyOfRange_39247 3 (some (.array .byte)) 5 1 602 [.ref vb, .int (zI 0), .int (zI (w.length : Int))] [ar G 1 vb N N (oF (w))] (fun b9 : Nat => some (.ref b9)) (fun _ => True) (fun b9 : Nat => [ar G 1 vb N N (oF (w)), ar G 1 b9 w.length w.length (oF w)]) := by
  refine MX_of (lv := [some (.ref vb), some (.int (zI 0)), some (.int (zI (w.length : Int)))]) hK (by decide +kernel) rfl (nle rfl) (fun X C F => ?_)
  have C : OKc G X l RJ7 "copyOfRange" cJ7_copyOfRange_39247 3 (some (.array .byte)) 5 1 602 := C
  refine x_iload_n C eJ7_copyOfRange_39247_0 rfl ?_
  refine x_if_ne 10 C eJ7_copyOfRange_39247_1 rfl (by omega) (fun h1 => ?_) (fun h1 => ?_)
  · exfalso; omega
  · refine x_iload_n C eJ7_copyOfRange_39247_4 rfl ?_
    refine x_aload_n C eJ7_copyOfRange_39247_5 rfl ?_
    refine x_alen 0 C eJ7_copyOfRange_39247_6 rfl (by decide) ar_al ?_
    refine x_icmp_eq 17 C eJ7_copyOfRange_39247_7 rfl (by omega) (by omega) (fun h7 => ?_) (fun h7 => ?_)
    · refine x_aload_n C eJ7_copyOfRange_39247_17 rfl ?_
      obtain rfl : N = w.length := by omega
      refine x_clone 0 C hD eJ7_copyOfRange_39247_18 rfl (fun j _ => hb j) rfl (nle rfl) (nle rfl) (nle rfl) (by omega) (fun b9 => ?_)
      refine x_castB 0 C eJ7_copyOfRange_39247_21 rfl ?_
      refine x_aret (Or.inr ⟨_, rfl⟩) C F eJ7_copyOfRange_39247_24 b9 rfl trivial (fun cf c h => ?_) (nle rfl) (by omega)
      exact WF_pick [1, 0] rfl rfl h
    · refine x_aload_n C eJ7_copyOfRange_39247_10 rfl ?_
      refine x_iload_n C eJ7_copyOfRange_39247_11 rfl ?_
      refine x_iload_n C eJ7_copyOfRange_39247_12 rfl ?_
      refine yS3x [] C (z_copyOfRangeByte hK hw hb) v_J7_copyOfRangeByte_39247 vs_J7_copyOfRangeByte_39247 s_RJ7_339 eJ7_copyOfRange_39247_13 (fun _ _ h => WF_pick [0] rfl rfl h) rfl (nle rfl) (nle rfl) (nle rfl) (nle rfl) (fun x13 hx13 => ?_)
      refine x_aret (Or.inr ⟨_, rfl⟩) C F eJ7_copyOfRange_39247_16 x13 rfl trivial (fun cf c h => ?_) (nle rfl) (nle rfl)
      exact WF_pick [0, 1] rfl rfl h

set_option maxHeartbeats 4000000 in
set_option maxRecDepth 100000 in
theorem z_strInit5 {G : Gm} {l : Launch} (hK : KG G) {q9 sb vb N : Nat} {w : List Int} (hD : KD G) (hw : (w.length ≤ N ∧ N ≤ 602) ∧ w.length ≤ 300) (hb : ∀ j : Nat, 0 ≤ oF w j ∧ oF w j < 128) : MX G l yJ0_init_db425 cJ0_init_db425 5 none 6 1 602 [.ref q9, .ref sb, .null] [ob q9 0 [some .null, none, none, none] (fun _ => 0), ob sb 1 [some (.ref vb), some (.int (zI 0)), none, none] (sbI (w)), ar G 1 vb N N (oF (w))] (fun _ : Nat => none) (fun _ => True) (fun b9 : Nat => [ob q9 0 [some (.ref b9), some (.int (zI 0)), none, none] (fun _ => 0), ob sb 1 [some (.ref vb), some (.int (zI 0)), none, none] (sbI (w)), ar G 1 vb N N (oF (w)), ar G 1 b9 w.length w.length (oF w)]) := by
  refine MX_of (lv := [some (.ref q9), some (.ref sb), some (.null), none, none]) hK (by decide +kernel) rfl (nle rfl) (fun X C F => ?_)
  have C : OKc G X l RJ0 "<init>" cJ0_init_db425 5 none 6 1 602 := C
  have hS : KS G := hD.1
  refine x_aload_n C eJ0_init_db425_0 rfl ?_
  refine x_objInit C ⟨s_RJ0_1, s2_obj⟩ eJ0_init_db425_1 rfl (nle rfl) (nle rfl) ?_
  refine x_aload_n C eJ0_init_db425_4 rfl ?_
  refine yU0r [_, _] [_, _, _] C (s_J5_getValue_6d5f1 hK ) v_J5_getValue_6d5f1 hci_1 im_J5_getValue_6d5f1 s_RJ0_552 sm_J5_getValue_6d5f1 sel_J5_getValue_6d5f1 eJ0_init_db425_5 (fun _ _ h => WF_pick [1, 0, 2] rfl rfl h) (rcv 1 rfl) rfl (nle rfl) (nle rfl) (nle rfl) (nle rfl) rfl ?_
  refine x_astore_n [_, _, _, _, _] C eJ0_init_db425_8 rfl rfl (nlt rfl) ?_
  refine x_aload_n C eJ0_init_db425_9 rfl ?_
  refine yO0r [_, _] [_, _, _] C (s_J4_length_8abf5 hK ) v_J4_length_8abf5 hci_1 v_J5_length_8abf5.1 im_J5_length_8abf5 ⟨v_J5_length_8abf5.2.2.2.1, v_J5_length_8abf5.2.2.2.2.1, v_J5_length_8abf5.2.2.2.2.2⟩ im_J4_length_8abf5 s_RJ0_549 sm_J5_length_8abf5 sel_J5_length_8abf5 eJ0_init_db425_10 (fun _ _ h => WF_pick [0, 1, 2] rfl rfl h) (rcv 0 rfl) rfl (nle rfl) (nle rfl) (nle rfl) (nle rfl) rfl ?_
  refine x_istore [_, _, _, _, _] C eJ0_init_db425_13 rfl rfl (nlt rfl) ?_
  refine x_aload_n C eJ0_init_db425_15 rfl ?_
  refine yU0r [_, _] [_, _, _] C (s_J5_isLatin1_aae02 hK hS) v_J5_isLatin1_aae02 hci_1 im_J5_isLatin1_aae02 s_RJ0_1047 sm_J5_isLatin1_aae02 sel_J5_isLatin1_aae02 eJ0_init_db425_16 (fun _ _ h => WF_pick [0, 1, 2] rfl rfl h) (rcv 0 rfl) rfl (nle rfl) (nle rfl) (nle rfl) (nle rfl) rfl ?_
  refine x_if_eq 41 C eJ0_init_db425_19 rfl (by omega) (fun h19 => ?_) (fun h19 => ?_)
  · exfalso; omega
  · refine x_aload_n C eJ0_init_db425_22 rfl ?_
    refine x_iconst C eJ0_init_db425_23 ?_
    refine x_putFR [_, _, _, _] [_, _, _] 1 C f_RJ0_15 eJ0_init_db425_24 (by intro C T N h; cases h; rfl) rfl (nlt rfl) rfl rfl rfl rfl ?_
    refine x_aload_n C eJ0_init_db425_27 rfl ?_
    refine x_aload_n C eJ0_init_db425_28 rfl ?_
    refine x_iconst C eJ0_init_db425_29 ?_
    refine x_iload C eJ0_init_db425_30 rfl ?_
    refine yS3x [_, _] C (z_copyOfRange hK hD hw hb) v_J7_copyOfRange_39247 vs_J7_copyOfRange_39247 s_RJ0_54 eJ0_init_db425_32 (fun _ _ h => WF_pick [2, 0, 1] rfl rfl h) rfl (nle rfl) (nle rfl) (nle rfl) (nle rfl) (fun x32 hx32 => ?_)
    refine x_putFR [_, _, _, _] [_, _, _, _] 3 C f_RJ0_9 eJ0_init_db425_35 (by intro C T N h; cases h; rfl) rfl (nlt rfl) rfl rfl rfl rfl ?_
    refine x_goto (pc' := 97) C eJ0_init_db425_38 rfl ?_
    refine x_vret C F eJ0_init_db425_97 x32 rfl trivial (fun cf c h => ?_) (nle rfl) (nle rfl)
    exact WF_pick [3, 2, 0, 1] rfl rfl h

set_option maxHeartbeats 4000000 in
set_option maxRecDepth 100000 in
theorem z_strInit {G : Gm} {l : Launch} (hK : KG G) {q9 sb vb N : Nat} {w : List Int} (hD : KD G) (hw : (w.length ≤ N ∧ N ≤ 602) ∧ w.length ≤ 300) (hb : ∀ j : Nat, 0 ≤ oF w j ∧ oF w j < 128) : MX G l yJ0_init_81219 cJ0_init_81219 2 none 7 1 602 [.ref q9, .ref sb] [ob q9 0 [some .null, none, none, none] (fun _ => 0), ob sb 1 [some (.ref vb), some (.int (zI 0)), none, none] (sbI (w)), ar G 1 vb N N (oF (w))] (fun _ : Nat => none) (fun _ => True) (fun b9 : Nat => [ob q9 0 [some (.ref b9), some (.int (zI 0)), none, none] (fun _ => 0), ob sb 1 [some (.ref vb), some (.int (zI 0)), none, none] (sbI (w)), ar G 1 vb N N (oF (w)), ar G 1 b9 w.length w.length (oF w)]) := by
  refine MX_of (lv := [some (.ref q9), some (.ref sb)]) hK (by decide +kernel) rfl (nle rfl) (fun X C F => ?_)
  have C : OKc G X l RJ0 "<init>" cJ0_init_81219 2 none 7 1 602 := C
  refine x_aload_n C eJ0_init_81219_0 rfl ?_
  refine x_aload_n C eJ0_init_81219_1 rfl ?_
  refine x_null C eJ0_init_81219_2 ?_
  refine yI2x (ret' := none) [] C (z_strInit5 hK hD hw hb) v_J0_init_db425 vi_J0_init_db425 rfl s_RJ0_489 eJ0_init_81219_3 (fun _ _ h => WF_pick [0, 1, 2] rfl rfl h) rfl (nle rfl) (nle rfl) (nle rfl) (nle rfl) (fun x3 hx3 => ?_)
  refine x_vret C F eJ0_init_81219_6 x3 rfl trivial (fun cf c h => ?_) (nle rfl) (nle rfl)
  exact WF_pick [0, 1, 2, 3] rfl rfl h

set_option maxHeartbeats 4000000 in
set_option maxRecDepth 100000 in
theorem z_toString4 {G : Gm} {l : Launch} (hK : KG G) {sb vb N : Nat} {w : List Int} (hD : KD G) (hw : (w.length ≤ N ∧ N ≤ 602) ∧ w.length ≤ 300) (hb : ∀ j : Nat, 0 ≤ oF w j ∧ oF w j < 128) : MX G l yJ4_toString_0e30d cJ4_toString_0e30d 1 (some (.object "java/lang/String")) 8 2 610 [.ref sb] [ob sb 1 [some (.ref vb), some (.int (zI 0)), none, none] (sbI (w)), ar G 1 vb N N (oF (w))] (fun x : Nat × Nat => some (.ref x.1)) (fun _ => True) (fun x : Nat × Nat => [PL G [(x.1, x.2, w)]]) := by
  refine MX_of (lv := [some (.ref sb)]) hK (by decide +kernel) rfl (nle rfl) (fun X C F => ?_)
  have C : OKc G X l RJ4 "toString" cJ4_toString_0e30d 1 (some (.object "java/lang/String")) 8 2 610 := C
  refine x_new C n_RJ4_18 eJ4_toString_0e30d_0 (nle rfl) (nle rfl) (fun q9 => ?_)
  refine x_dup C eJ4_toString_0e30d_3 rfl ?_
  refine x_aload_n C eJ4_toString_0e30d_4 rfl ?_
  refine yI1x (ret' := none) [] C (z_strInit hK hD hw hb) v_J0_init_81219 vi_J0_init_81219 rfl s_RJ4_137 eJ4_toString_0e30d_5 (fun _ _ h => WF_pick [0, 1, 2] rfl rfl h) rfl (nle rfl) (nle rfl) (nle rfl) (nle rfl) (fun x5 hx5 => ?_)
  exact x_aret (Or.inl ⟨_, rfl⟩) C F eJ4_toString_0e30d_8 (q9, x5) rfl trivial (fun cf c h => WF_pick [0] rfl rfl (WF_PL (G := G) (M := []) (q := q9) (b := x5) (w := w) (R := []) (WF_pick [1, 4, 0] rfl rfl (WF_PL0 (G := G) h)))) (nle rfl) (nle rfl)

theorem z_toString {G : Gm} {l : Launch} (hK : KG G) {sb : Nat} {w : List Int} (hD : KD G) (hw : w.length ≤ 300) (hb : ∀ x ∈ w, 0 ≤ x ∧ x < 128) : MX G l yJ4_toString_0e30d cJ4_toString_0e30d 1 (some (.object "java/lang/String")) 8 2 610 [.ref sb] [SBA G sb w] (fun x : Nat × Nat => some (.ref x.1)) (fun _ => True) (fun x : Nat × Nat => [PL G [(x.1, x.2, w)]]) :=
  MX_cv (fun cf c h => by
    obtain ⟨x, hY, hW⟩ := WF_openX (R := []) h (fun d hd => hd)
    exact ⟨_, _, _, _, _, cf, hW, z_toString4 hK hD ⟨⟨hY.2, hY.1.2⟩, hw⟩ (fun j => oF_b hb j), fun x2 c' hp hw' => ⟨x2, rfl, trivial, hw'⟩⟩)
theorem PL_SK {G : Gm} (hS : KS G) {q b : Nat} {w : List Int} (hw : w.length ≤ 400 ∧ ∀ x ∈ w, 0 ≤ x ∧ x < 128) : SK G [PL G [(q, b, w)]] q b w :=
  PLok_of hS (M := [(q, b, w)]) (fun x hx => by rcases List.mem_singleton.mp hx with rfl; exact hw) q b w (List.mem_singleton.mpr rfl)

set_option maxHeartbeats 4000000 in
set_option maxRecDepth 100000 in
theorem z_init5 {G : Gm} {l : Launch} (hK : KG G) {sb : Nat} (hS : KS G) : MX G l yJ5_init_d00df cJ5_init_d00df 2 none 2 1 16 [.ref sb, .int (zI 16)] [ob sb 1 [some .null, none, none, none] (fun _ => 0)] (fun _ : Nat => none) (fun _ => True) (fun vb => [ob sb 1 [some (.ref vb), some (.int (zI 0)), none, none] (sbI (([] : List Int))), ar G 1 vb 16 16 (oF (([] : List Int)))]) := by
  refine MX_of (lv := [some (.ref sb), some (.int (zI 16))]) hK (by decide +kernel) rfl (nle rfl) (fun X C F => ?_)
  have C : OKc G X l RJ5 "<init>" cJ5_init_d00df 2 none 2 1 16 := C
  refine x_aload_n C eJ5_init_d00df_0 rfl ?_
  refine x_objInit C ⟨s_RJ5_3, s2_obj⟩ eJ5_init_d00df_1 rfl (nle rfl) (nle rfl) ?_
  refine x_getsK C k_compact5 eJ5_init_d00df_4 hS.2.1 ?_
  refine x_if_eq 25 C eJ5_init_d00df_7 rfl (by omega) (fun h7 => ?_) (fun h7 => ?_)
  · exfalso; omega
  · refine x_aload_n C eJ5_init_d00df_10 rfl ?_
    refine x_iload_n C eJ5_init_d00df_11 rfl ?_
    refine x_newB (N := 16) C ac_byte eJ5_init_d00df_12 rfl (nle rfl) (nle rfl) (nle rfl) (fun vb => ?_)
    refine x_putR [_, _, _, _] [_, _] 1 C f_RJ5_15 eJ5_init_d00df_14 rfl (nlt rfl) rfl rfl rfl rfl ?_
    refine x_aload_n C eJ5_init_d00df_17 rfl ?_
    refine x_iconst C eJ5_init_d00df_18 ?_
    refine x_putR [_, _, _, _] [_, _] 1 C f_RJ5_22 eJ5_init_d00df_19 rfl (nlt rfl) rfl rfl rfl rfl ?_
    refine x_goto (pc' := 38) C eJ5_init_d00df_22 rfl ?_
    refine x_vret C F eJ5_init_d00df_38 vb rfl trivial (fun cf c h => ?_) (nle rfl) (nle rfl)
    refine PW.wf (PW_cons (fun _ h => ob_congr (fun i hi9 => ?_) h) (PW_cons (fun _ h => ar_congr (Nat.le_refl _) (fun j _ => rfl) h) PW_nil)) (WF_pick [1, 0] rfl rfl h)
    match i with
    | 0 => exact absurd hi9 (by simp)
    | 1 => exact absurd hi9 (by simp)
    | 2 => rfl
    | 3 => rfl
    | (k + 4) => exact absurd hi9 (by simp)
  

set_option maxHeartbeats 4000000 in
set_option maxRecDepth 100000 in
theorem z_init {G : Gm} {l : Launch} (hK : KG G) {sb : Nat} (hS : KS G) : MD G l yJ4_init_da8c8 cJ4_init_da8c8 1 none 3 1 16 [.ref sb] [ob sb 1 [some .null, none, none, none] (fun _ => 0)] none [SBA G sb []] := by
  refine MX_of (lv := [some (.ref sb)]) hK (by decide +kernel) rfl (nle rfl) (fun X C F => ?_)
  have C : OKc G X l RJ4 "<init>" cJ4_init_da8c8 1 none 3 1 16 := C
  refine x_aload_n C eJ4_init_da8c8_0 rfl ?_
  refine x_bipush C eJ4_init_da8c8_1 rfl ?_
  refine yI1x (ret' := none) [] C (z_init5 hK hS) v_J5_init_d00df vi_J5_init_d00df rfl s_RJ4_1 eJ4_init_da8c8_3 (fun _ _ h => WF_pick [0] rfl rfl h) rfl (nle rfl) (nle rfl) (nle rfl) (nle rfl) (fun x3 hx3 => ?_)
  refine x_vret C F eJ4_init_da8c8_6 () rfl trivial (fun cf c h => ?_) (nle rfl) (nle rfl)
  exact WF_SBA ⟨by decide, by decide⟩ (WF_pick [0, 1] rfl rfl h)
