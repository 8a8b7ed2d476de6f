set_option maxRecDepth 100000 in
theorem s_J0_lenK {G : Gm} {l : Launch} (hK : KG G) {q b : Nat} {w : List Int} (hS : KS G) (hq : strG G q b w) : MD G l yJ0_length_8abf5 cJ0_length_8abf5 1 (some .int) 2 0 0 [.ref q] [] (some (.int (zI (w.length : Int)))) [] := by
  exact s_J0_length hK hS (hq.sk [])

set_option maxRecDepth 100000 in
theorem s_J0_chK {G : Gm} {l : Launch} (hK : KG G) {q b : Nat} {w : List Int} {i : Int} (hS : KS G) (hq : strG G q b w) (hi : 0 ≤ i ∧ i < (w.length : Int)) : MD G l yJ0_charAt_5068e cJ0_charAt_5068e 2 (some .char) 4 0 0 [.ref q, .int (zI i)] [] (some (.int (zI (w.getD i.toNat 0)))) [] := by
  exact s_J0_charAt hK hS (hq.sk []) hi

set_option maxHeartbeats 4000000 in
set_option maxRecDepth 100000 in
theorem s_X8_goOn {G : Gm} {l : Launch} (hK : KG G) {o r : Nat} {A : Nat → Nat} {I Fb : Nat → Int} (hFb : ∀ j, -128 ≤ Fb j ∧ Fb j ≤ 127) (hP : Pin Fb I) : MD G l yX8_goOn cX8_goOn 1 none 3 0 0 [.ref o] [ob o 10 (shM A r) I, ar G 1 (A 5) 400 400 (Fb)] none [ob o 10 (shM A r) (goI Fb I), ar G 1 (A 5) 400 400 (Fb)] := by
  refine MX_of (lv := [some (.ref o)]) hK (by decide +kernel) rfl (nle rfl) (fun X C F => ?_)
  have C : OKc G X l RX8 "goOn" cX8_goOn 1 none 3 0 0 := C
  have h0 := hP
  unfold Pin Pin0 at h0
  refine x_aload_n C eX8_goOn_0 rfl ?_
  refine yV0r [_] [_, _] C (s_X8_good hK (by omega)) v_X8_good vv_X8_good s_RX8_152 eX8_goOn_1 (fun _ _ h => WF_pick [0, 1] rfl rfl h) (rcv 0 rfl) rfl (nle rfl) (nle rfl) (nle rfl) (nle rfl) rfl ?_
  refine x_ifb_eq 11 C eX8_goOn_4 rfl (fun h4 => ?_) (fun h4 => ?_)
  · refine x_vret C F eX8_goOn_11 () rfl trivial (fun cf c h => ?_) (nle rfl) (nle rfl)
    first
      | (rw [show goI Fb I = scanI Fb I from if_pos (by assumption)]; exact WF_pick [0, 1] rfl rfl h)
      | (rw [show goI Fb I = I from if_neg (by assumption)]; exact WF_pick [0, 1] rfl rfl h)
  · refine x_aload_n C eX8_goOn_7 rfl ?_
    refine yV0v [] [_, _] C (s_X8_scan hK (by omega) (by omega) (by omega)) v_X8_scan vv_X8_scan s_RX8_182 eX8_goOn_8 (fun _ _ h => WF_pick [0, 1] rfl rfl h) (rcv 0 rfl) rfl (nle rfl) (nle rfl) (nle rfl) (nle rfl) rfl ?_
    refine x_vret C F eX8_goOn_11 () rfl trivial (fun cf c h => ?_) (nle rfl) (nle rfl)
    first
      | (rw [show goI Fb I = scanI Fb I from if_pos (by assumption)]; exact WF_pick [0, 1] rfl rfl h)
      | (rw [show goI Fb I = I from if_neg (by assumption)]; exact WF_pick [0, 1] rfl rfl h)

set_option maxHeartbeats 4000000 in
set_option maxRecDepth 100000 in
theorem s_X8_isWord {G : Gm} {l : Launch} (hK : KG G) {o r : Nat} {A : Nat → Nat} {I Fb : Nat → Int} {q b : Nat} {w : List Int} (hFb : ∀ j, -128 ≤ Fb j ∧ Fb j ≤ 127) (hP : Pin Fb I) (hS : KS G) (hq : strG G q b w) : MD G l yX8_isWord cX8_isWord 4 (some .boolean) 5 0 0 [.ref o, .ref q] [ob o 10 (shM A r) I, ar G 1 (A 5) 400 400 (Fb)] (some (.int (zI (bz (isWd Fb I w = true))))) [ob o 10 (shM A r) I, ar G 1 (A 5) 400 400 (Fb)] := by
  refine MX_of (lv := [some (.ref o), some (.ref q), none, none]) hK (by decide +kernel) rfl (nle rfl) (fun X C F => ?_)
  have C : OKc G X l RX8 "isWord" cX8_isWord 4 (some .boolean) 5 0 0 := C
  have h0 := hP
  unfold Pin Pin0 at h0
  have hw60 := hq.1.1
  have hwr := getD_r hq.1.2
  have loop : ∀ (f k : Nat), k ≤ w.length → w.length < k + f → WX G X 0 0 [ob o 10 (shM A r) I, ar G 1 (A 5) 400 400 (Fb)] 39 [some (.ref o), some (.ref q), some (.int (zI (bz ((I 12 = 0 ∧ I 10 = 1 ∧ I 8 - I 9 = (w.length : Int)) ∧ sameW Fb (I 9).toNat w k = true)))), some (.int (zI (k : Int)))] [] := by
    intro f
    induction f with
    | zero => intro k g0 g1; exfalso; omega
    | succ f ih =>
      intro k g0 g1
      refine x_iload_n C eX8_isWord_39 rfl ?_
      refine x_aload_n C eX8_isWord_40 rfl ?_
      refine yK0r [_, _] [_, _] C (s_J0_lenK hK hS hq) v_J0_length_8abf5 vv_J0_length_8abf5 s_RX8_185 eX8_isWord_41 (fun _ _ h => WF_pick [0, 1] rfl rfl h) hq.rcv rfl (nle rfl) (nle rfl) (nle rfl) (nle rfl) rfl ?_
      refine x_icmp_ge 82 C eX8_isWord_44 rfl (by omega) (by omega) (fun h44 => ?_) (fun h44 => ?_)
      · refine x_iload_n C eX8_isWord_82 rfl ?_
        refine x_iret (nz_bz _) C F eX8_isWord_83 () ?_ trivial (fun cf c h => ?_) (nle rfl) (nle rfl)
        · first
            | (rw [bz_f (show ¬ isWd Fb I w = true from fun z => h48 ⟨(isWd_iff.mp z).1, sameW_m (w.length - k) (by rw [show k + (w.length - k) = w.length by omega]; exact (isWd_iff.mp z).2)⟩), bz_f h48])
            | (rw [show k = w.length by omega]; exact congrArg (fun z => some (Value.int (zI z))) (bz_iff isWd_iff))
        · exact WF_pick [0, 1] rfl rfl h
      · have hc9 := hwr k
        refine x_iload_n C eX8_isWord_47 rfl ?_
        refine x_ifb_eq 82 C eX8_isWord_48 rfl (fun h48 => ?_) (fun h48 => ?_)
        · refine x_iload_n C eX8_isWord_82 rfl ?_
          refine x_iret (nz_bz _) C F eX8_isWord_83 () ?_ trivial (fun cf c h => ?_) (nle rfl) (nle rfl)
          · first
              | (rw [bz_f (show ¬ isWd Fb I w = true from fun z => h48 ⟨(isWd_iff.mp z).1, sameW_m (w.length - k) (by rw [show k + (w.length - k) = w.length by omega]; exact (isWd_iff.mp z).2)⟩), bz_f h48])
              | (rw [show k = w.length by omega]; exact congrArg (fun z => some (Value.int (zI z))) (bz_iff isWd_iff))
          · exact WF_pick [0, 1] rfl rfl h
        · have hb9 := hFb ((I 9).toNat + k)
          have e9 : (I 9 + (k : Int)).toNat = (I 9).toNat + k := by omega
          refine x_aload_n C eX8_isWord_51 rfl ?_
          refine x_getR 0 C f_RX8_30 eX8_isWord_52 rfl rfl ?_
          refine x_aload_n C eX8_isWord_55 rfl ?_
          refine x_getI 0 C f_RX8_155 eX8_isWord_56 rfl rfl ?_
          try simp (disch := decide) only [up_s, up_n]
          refine x_iload_n C eX8_isWord_59 rfl ?_
          refine x_iadd C eX8_isWord_60 ?_
          refine x_bald 1 C eX8_isWord_61 rfl (by decide) (by omega) ?_
          refine x_aload_n C eX8_isWord_62 rfl ?_
          refine x_iload_n C eX8_isWord_63 rfl ?_
          refine yK1r [_, _] [_, _] C (s_J0_chK hK hS hq (by omega)) v_J0_charAt_5068e vv_J0_charAt_5068e s_RX8_190 eX8_isWord_64 (fun _ _ h => WF_pick [0, 1] rfl rfl h) hq.rcv rfl (nle rfl) (nle rfl) (nle rfl) (nle rfl) rfl ?_
          rw [e9, Int.toNat_natCast]
          refine x_icmp_ne 74 C eX8_isWord_67 rfl (by omega) (by omega) (fun h67 => ?_) (fun h67 => ?_)
          · refine x_iconst C eX8_isWord_74 ?_
            refine x_istore_n [_, _, _, _] C eX8_isWord_75 rfl rfl (nlt rfl) ?_
            refine x_iinc [_, _, _, _] C eX8_isWord_76 rfl rfl rfl ?_
            refine x_goto (pc' := 39) C eX8_isWord_79 rfl ?_
            have h := ih (k + 1) (by omega) (by omega)
            first
              | (rw [bz_t (show (I 12 = 0 ∧ I 10 = 1 ∧ I 8 - I 9 = (w.length : Int)) ∧ sameW Fb (I 9).toNat w (k + 1) = true from ⟨h48.1, sameW_s.mpr ⟨h48.2, by assumption⟩⟩)] at h; exact h)
              | (rw [bz_f (show ¬ ((I 12 = 0 ∧ I 10 = 1 ∧ I 8 - I 9 = (w.length : Int)) ∧ sameW Fb (I 9).toNat w (k + 1) = true) from fun z => absurd (sameW_s.mp z.2).2 (by assumption))] at h; exact h)
          · refine x_iconst C eX8_isWord_70 ?_
            refine x_goto (pc' := 75) C eX8_isWord_71 rfl ?_
            refine x_istore_n [_, _, _, _] C eX8_isWord_75 rfl rfl (nlt rfl) ?_
            refine x_iinc [_, _, _, _] C eX8_isWord_76 rfl rfl rfl ?_
            refine x_goto (pc' := 39) C eX8_isWord_79 rfl ?_
            have h := ih (k + 1) (by omega) (by omega)
            first
              | (rw [bz_t (show (I 12 = 0 ∧ I 10 = 1 ∧ I 8 - I 9 = (w.length : Int)) ∧ sameW Fb (I 9).toNat w (k + 1) = true from ⟨h48.1, sameW_s.mpr ⟨h48.2, by assumption⟩⟩)] at h; exact h)
              | (rw [bz_f (show ¬ ((I 12 = 0 ∧ I 10 = 1 ∧ I 8 - I 9 = (w.length : Int)) ∧ sameW Fb (I 9).toNat w (k + 1) = true) from fun z => absurd (sameW_s.mp z.2).2 (by assumption))] at h; exact h)
  refine x_aload_n C eX8_isWord_0 rfl ?_
  refine yV0r [_] [_, _] C (s_X8_good hK (by omega)) v_X8_good vv_X8_good s_RX8_152 eX8_isWord_1 (fun _ _ h => WF_pick [0, 1] rfl rfl h) (rcv 0 rfl) rfl (nle rfl) (nle rfl) (nle rfl) (nle rfl) rfl ?_
  refine x_ifb_eq 35 C eX8_isWord_4 rfl (fun h4 => ?_) (fun h4 => ?_)
  · refine x_iconst C eX8_isWord_35 ?_
    refine x_istore_n [_, _, _, _] C eX8_isWord_36 rfl rfl (nlt rfl) ?_
    refine x_iconst C eX8_isWord_37 ?_
    refine x_istore_n [_, _, _, _] C eX8_isWord_38 rfl rfl (nlt rfl) ?_
    have h := loop (w.length + 1) 0 (by omega) (by omega)
    first
      | (rw [bz_t (show (I 12 = 0 ∧ I 10 = 1 ∧ I 8 - I 9 = (w.length : Int)) ∧ sameW Fb (I 9).toNat w 0 = true from ⟨⟨by assumption, by omega, by omega⟩, rfl⟩)] at h; exact h)
      | (rw [bz_f (show ¬ ((I 12 = 0 ∧ I 10 = 1 ∧ I 8 - I 9 = (w.length : Int)) ∧ sameW Fb (I 9).toNat w 0 = true) from fun z => by have := z.1; omega)] at h; exact h)
  · refine x_aload_n C eX8_isWord_7 rfl ?_
    refine x_getI 0 C f_RX8_168 eX8_isWord_8 rfl rfl ?_
    refine x_iconst C eX8_isWord_11 ?_
    refine x_icmp_ne 35 C eX8_isWord_12 rfl (by omega) (by omega) (fun h12 => ?_) (fun h12 => ?_)
    · refine x_iconst C eX8_isWord_35 ?_
      refine x_istore_n [_, _, _, _] C eX8_isWord_36 rfl rfl (nlt rfl) ?_
      refine x_iconst C eX8_isWord_37 ?_
      refine x_istore_n [_, _, _, _] C eX8_isWord_38 rfl rfl (nlt rfl) ?_
      have h := loop (w.length + 1) 0 (by omega) (by omega)
      first
        | (rw [bz_t (show (I 12 = 0 ∧ I 10 = 1 ∧ I 8 - I 9 = (w.length : Int)) ∧ sameW Fb (I 9).toNat w 0 = true from ⟨⟨by assumption, by omega, by omega⟩, rfl⟩)] at h; exact h)
        | (rw [bz_f (show ¬ ((I 12 = 0 ∧ I 10 = 1 ∧ I 8 - I 9 = (w.length : Int)) ∧ sameW Fb (I 9).toNat w 0 = true) from fun z => by have := z.1; omega)] at h; exact h)
    · refine x_aload_n C eX8_isWord_15 rfl ?_
      refine x_getI 0 C f_RX8_161 eX8_isWord_16 rfl rfl ?_
      refine x_aload_n C eX8_isWord_19 rfl ?_
      refine x_getI 0 C f_RX8_155 eX8_isWord_20 rfl rfl ?_
      refine x_isub C eX8_isWord_23 ?_
      refine x_aload_n C eX8_isWord_24 rfl ?_
      refine yK0r [_, _] [_, _] C (s_J0_lenK hK hS hq) v_J0_length_8abf5 vv_J0_length_8abf5 s_RX8_185 eX8_isWord_25 (fun _ _ h => WF_pick [0, 1] rfl rfl h) hq.rcv rfl (nle rfl) (nle rfl) (nle rfl) (nle rfl) rfl ?_
      refine x_icmp_ne 35 C eX8_isWord_28 rfl (by omega) (by omega) (fun h28 => ?_) (fun h28 => ?_)
      · refine x_iconst C eX8_isWord_35 ?_
        refine x_istore_n [_, _, _, _] C eX8_isWord_36 rfl rfl (nlt rfl) ?_
        refine x_iconst C eX8_isWord_37 ?_
        refine x_istore_n [_, _, _, _] C eX8_isWord_38 rfl rfl (nlt rfl) ?_
        have h := loop (w.length + 1) 0 (by omega) (by omega)
        first
          | (rw [bz_t (show (I 12 = 0 ∧ I 10 = 1 ∧ I 8 - I 9 = (w.length : Int)) ∧ sameW Fb (I 9).toNat w 0 = true from ⟨⟨by assumption, by omega, by omega⟩, rfl⟩)] at h; exact h)
          | (rw [bz_f (show ¬ ((I 12 = 0 ∧ I 10 = 1 ∧ I 8 - I 9 = (w.length : Int)) ∧ sameW Fb (I 9).toNat w 0 = true) from fun z => by have := z.1; omega)] at h; exact h)
      · refine x_iconst C eX8_isWord_31 ?_
        refine x_goto (pc' := 36) C eX8_isWord_32 rfl ?_
        refine x_istore_n [_, _, _, _] C eX8_isWord_36 rfl rfl (nlt rfl) ?_
        refine x_iconst C eX8_isWord_37 ?_
        refine x_istore_n [_, _, _, _] C eX8_isWord_38 rfl rfl (nlt rfl) ?_
        have h := loop (w.length + 1) 0 (by omega) (by omega)
        first
          | (rw [bz_t (show (I 12 = 0 ∧ I 10 = 1 ∧ I 8 - I 9 = (w.length : Int)) ∧ sameW Fb (I 9).toNat w 0 = true from ⟨⟨by assumption, by omega, by omega⟩, rfl⟩)] at h; exact h)
          | (rw [bz_f (show ¬ ((I 12 = 0 ∧ I 10 = 1 ∧ I 8 - I 9 = (w.length : Int)) ∧ sameW Fb (I 9).toNat w 0 = true) from fun z => by have := z.1; omega)] at h; exact h)

set_option maxHeartbeats 4000000 in
set_option maxRecDepth 100000 in
theorem s_X8_numberHere {G : Gm} {l : Launch} (hK : KG G) {o r : Nat} {A : Nat → Nat} {I Fb : Nat → Int} {a9 b9 : Int} (hFb : ∀ j, -128 ≤ Fb j ∧ Fb j ≤ 127) (hP : Pin Fb I) (ha : -2147483648 ≤ a9 ∧ a9 < 2147483648) (hb : -2147483648 ≤ b9 ∧ b9 < 2147483648) : MD G l yX8_numberHere cX8_numberHere 3 (some .int) 4 0 0 [.ref o, .int (zI a9), .int (zI b9)] [ob o 10 (shM A r) I] (some (.int (zI (nhV I a9 b9)))) [ob o 10 (shM A r) (nhI I a9 b9)] := by
  refine MX_of (lv := [some (.ref o), some (.int (zI a9)), some (.int (zI b9))]) hK (by decide +kernel) rfl (nle rfl) (fun X C F => ?_)
  have C : OKc G X l RX8 "numberHere" cX8_numberHere 3 (some .int) 4 0 0 := C
  have h0 := hP
  unfold Pin Pin0 at h0
  have e3 : errI I 1 11 = I 11 := errI_o (by decide)
  refine x_aload_n C eX8_numberHere_0 rfl ?_
  refine yV0r [] [_] C (s_X8_good hK (by first | exact h0.1.2.2.2.1 | (have := (Pin_err (F := Fb) (c := 1) (by decide) hP).1.2.2.2.1; exact this) | (have := (Pin_err (F := Fb) (c := 2) (by decide) hP).1.2.2.2.1; exact this) | (exfalso; omega))) v_X8_good vv_X8_good s_RX8_152 eX8_numberHere_1 (fun _ _ h => WF_pick [0] rfl rfl h) (rcv 0 rfl) rfl (nle rfl) (nle rfl) (nle rfl) (nle rfl) rfl ?_
  refine x_ifb_eq 20 C eX8_numberHere_4 rfl (fun h4 => ?_) (fun h4 => ?_)
  · have h4n := h4
    refine x_aload_n C eX8_numberHere_20 rfl ?_
    refine yV0r [] [_] C (s_X8_good hK (by first | exact h0.1.2.2.2.1 | (have := (Pin_err (F := Fb) (c := 1) (by decide) hP).1.2.2.2.1; exact this) | (have := (Pin_err (F := Fb) (c := 2) (by decide) hP).1.2.2.2.1; exact this) | (exfalso; omega))) v_X8_good vv_X8_good s_RX8_152 eX8_numberHere_21 (fun _ _ h => WF_pick [0] rfl rfl h) (rcv 0 rfl) rfl (nle rfl) (nle rfl) (nle rfl) (nle rfl) rfl ?_
    refine x_ifb_eq 47 C eX8_numberHere_24 rfl (fun h24 => ?_) (fun h24 => ?_)
    · refine x_aload_n C eX8_numberHere_47 rfl ?_
      refine yV0r [] [_] C (s_X8_good hK (by first | exact h0.1.2.2.2.1 | (have := (Pin_err (F := Fb) (c := 1) (by decide) hP).1.2.2.2.1; exact this) | (have := (Pin_err (F := Fb) (c := 2) (by decide) hP).1.2.2.2.1; exact this) | (exfalso; omega))) v_X8_good vv_X8_good s_RX8_152 eX8_numberHere_48 (fun _ _ h => WF_pick [0] rfl rfl h) (rcv 0 rfl) rfl (nle rfl) (nle rfl) (nle rfl) (nle rfl) rfl ?_
      refine x_ifb_eq 61 C eX8_numberHere_51 rfl (fun h51 => ?_) (fun h51 => ?_)
      · refine x_iload_n C eX8_numberHere_61 rfl ?_
        refine x_iret (by first | rfl | exact (narZ (by omega)).1) C F eX8_numberHere_62 () ?_ trivial (fun cf c h => ?_) (nle rfl) (nle rfl)
        · first
            | (exfalso; omega)
            | (rw [nhV_1 (by rw [nhI_D h4]; exact h4)])
            | (rw [nhV_1 (by rw [nhI_A h4 (by omega), e1]; decide)])
            | (rw [nhV_0 (by rw [nhI_B (by omega) (by assumption)]; exact h4)])
            | (rw [nhV_1 (by rw [nhI_C (by omega) (by assumption), e2]; decide)])
        · first
            | (exfalso; omega)
            | (rw [nhI_D h4]; exact WF_pick [0] rfl rfl h)
            | (rw [nhI_A h4 (by omega)]; exact WF_pick [0] rfl rfl h)
            | (rw [nhI_B (by omega) (by assumption)]; exact WF_pick [0] rfl rfl h)
            | (rw [nhI_C (by omega) (by assumption)]; exact WF_pick [0] rfl rfl h)
      · refine x_aload_n C eX8_numberHere_54 rfl ?_
        refine x_getI 0 C f_RX8_179 eX8_numberHere_55 rfl rfl ?_
        refine x_goto (pc' := 62) C eX8_numberHere_58 rfl ?_
        refine x_iret (by first | rfl | exact (narZ (by omega)).1) C F eX8_numberHere_62 () ?_ trivial (fun cf c h => ?_) (nle rfl) (nle rfl)
        · first
            | (exfalso; omega)
            | (rw [nhV_1 (by rw [nhI_D h4]; exact h4)])
            | (rw [nhV_1 (by rw [nhI_A h4 (by omega), e1]; decide)])
            | (rw [nhV_0 (by rw [nhI_B (by omega) (by assumption)]; exact h4)])
            | (rw [nhV_1 (by rw [nhI_C (by omega) (by assumption), e2]; decide)])
        · first
            | (exfalso; omega)
            | (rw [nhI_D h4]; exact WF_pick [0] rfl rfl h)
            | (rw [nhI_A h4 (by omega)]; exact WF_pick [0] rfl rfl h)
            | (rw [nhI_B (by omega) (by assumption)]; exact WF_pick [0] rfl rfl h)
            | (rw [nhI_C (by omega) (by assumption)]; exact WF_pick [0] rfl rfl h)
    · refine x_aload_n C eX8_numberHere_27 rfl ?_
      refine x_getI 0 C f_RX8_179 eX8_numberHere_28 rfl rfl ?_
      refine x_i2l C eX8_numberHere_31 (by omega) ?_
      refine x_iload_n C eX8_numberHere_32 rfl ?_
      refine x_i2l C eX8_numberHere_33 (by omega) ?_
      refine x_iload_n C eX8_numberHere_34 rfl ?_
      refine x_i2l C eX8_numberHere_35 (by omega) ?_
      refine yS3r [_] [_] C (s_X8_in hK (by omega)) v_X8_in vs_X8_in s_RX8_72 eX8_numberHere_36 (fun _ _ h => WF_pick [0] rfl rfl h) rfl (nle rfl) (nle rfl) (nle rfl) (nle rfl) rfl ?_
      refine x_ifb_ne 47 C eX8_numberHere_39 rfl (fun h39 => ?_) (fun h39 => ?_)
      · refine x_aload_n C eX8_numberHere_47 rfl ?_
        refine yV0r [] [_] C (s_X8_good hK (by first | exact h0.1.2.2.2.1 | (have := (Pin_err (F := Fb) (c := 1) (by decide) hP).1.2.2.2.1; exact this) | (have := (Pin_err (F := Fb) (c := 2) (by decide) hP).1.2.2.2.1; exact this) | (exfalso; omega))) v_X8_good vv_X8_good s_RX8_152 eX8_numberHere_48 (fun _ _ h => WF_pick [0] rfl rfl h) (rcv 0 rfl) rfl (nle rfl) (nle rfl) (nle rfl) (nle rfl) rfl ?_
        refine x_ifb_eq 61 C eX8_numberHere_51 rfl (fun h51 => ?_) (fun h51 => ?_)
        · refine x_iload_n C eX8_numberHere_61 rfl ?_
          refine x_iret (by first | rfl | exact (narZ (by omega)).1) C F eX8_numberHere_62 () ?_ trivial (fun cf c h => ?_) (nle rfl) (nle rfl)
          · first
              | (exfalso; omega)
              | (rw [nhV_1 (by rw [nhI_D h4]; exact h4)])
              | (rw [nhV_1 (by rw [nhI_A h4 (by omega), e1]; decide)])
              | (rw [nhV_0 (by rw [nhI_B (by omega) (by assumption)]; exact h4)])
              | (rw [nhV_1 (by rw [nhI_C (by omega) (by assumption), e2]; decide)])
          · first
              | (exfalso; omega)
              | (rw [nhI_D h4]; exact WF_pick [0] rfl rfl h)
              | (rw [nhI_A h4 (by omega)]; exact WF_pick [0] rfl rfl h)
              | (rw [nhI_B (by omega) (by assumption)]; exact WF_pick [0] rfl rfl h)
              | (rw [nhI_C (by omega) (by assumption)]; exact WF_pick [0] rfl rfl h)
        · refine x_aload_n C eX8_numberHere_54 rfl ?_
          refine x_getI 0 C f_RX8_179 eX8_numberHere_55 rfl rfl ?_
          refine x_goto (pc' := 62) C eX8_numberHere_58 rfl ?_
          refine x_iret (by first | rfl | exact (narZ (by omega)).1) C F eX8_numberHere_62 () ?_ trivial (fun cf c h => ?_) (nle rfl) (nle rfl)
          · first
              | (exfalso; omega)
              | (rw [nhV_1 (by rw [nhI_D h4]; exact h4)])
              | (rw [nhV_1 (by rw [nhI_A h4 (by omega), e1]; decide)])
              | (rw [nhV_0 (by rw [nhI_B (by omega) (by assumption)]; exact h4)])
              | (rw [nhV_1 (by rw [nhI_C (by omega) (by assumption), e2]; decide)])
          · first
              | (exfalso; omega)
              | (rw [nhI_D h4]; exact WF_pick [0] rfl rfl h)
              | (rw [nhI_A h4 (by omega)]; exact WF_pick [0] rfl rfl h)
              | (rw [nhI_B (by omega) (by assumption)]; exact WF_pick [0] rfl rfl h)
              | (rw [nhI_C (by omega) (by assumption)]; exact WF_pick [0] rfl rfl h)
      · refine x_aload_n C eX8_numberHere_42 rfl ?_
        refine x_iconst C eX8_numberHere_43 ?_
        refine yV1v [] [_] C (s_X8_errs hK (by first | exact h0.1.2.2.2.1 | (have := (Pin_err (F := Fb) (c := 1) (by decide) hP).1.2.2.2.1; exact this) | (have := (Pin_err (F := Fb) (c := 2) (by decide) hP).1.2.2.2.1; exact this) | (exfalso; omega))) v_X8_errs vv_X8_errs s_RX8_194 eX8_numberHere_44 (fun _ _ h => WF_pick [0] rfl rfl h) (rcv 0 rfl) rfl (nle rfl) (nle rfl) (nle rfl) (nle rfl) rfl ?_
        refine x_aload_n C eX8_numberHere_47 rfl ?_
        refine yV0r [] [_] C (s_X8_good hK (by first | exact h0.1.2.2.2.1 | (have := (Pin_err (F := Fb) (c := 1) (by decide) hP).1.2.2.2.1; exact this) | (have := (Pin_err (F := Fb) (c := 2) (by decide) hP).1.2.2.2.1; exact this) | (exfalso; omega))) v_X8_good vv_X8_good s_RX8_152 eX8_numberHere_48 (fun _ _ h => WF_pick [0] rfl rfl h) (rcv 0 rfl) rfl (nle rfl) (nle rfl) (nle rfl) (nle rfl) rfl ?_
        refine x_ifb_eq 61 C eX8_numberHere_51 rfl (fun h51 => ?_) (fun h51 => ?_)
        · refine x_iload_n C eX8_numberHere_61 rfl ?_
          refine x_iret (by first | rfl | exact (narZ (by omega)).1) C F eX8_numberHere_62 () ?_ trivial (fun cf c h => ?_) (nle rfl) (nle rfl)
          · first
              | (exfalso; omega)
              | (rw [nhV_1 (by rw [nhI_D h4]; exact h4)])
              | (rw [nhV_1 (by rw [nhI_A h4 (by omega), e1]; decide)])
              | (rw [nhV_0 (by rw [nhI_B (by omega) (by assumption)]; exact h4)])
              | (rw [nhV_1 (by rw [nhI_C (by omega) (by assumption), e2]; decide)])
          · first
              | (exfalso; omega)
              | (rw [nhI_D h4]; exact WF_pick [0] rfl rfl h)
              | (rw [nhI_A h4 (by omega)]; exact WF_pick [0] rfl rfl h)
              | (rw [nhI_B (by omega) (by assumption)]; exact WF_pick [0] rfl rfl h)
              | (rw [nhI_C (by omega) (by assumption)]; exact WF_pick [0] rfl rfl h)
        · refine x_aload_n C eX8_numberHere_54 rfl ?_
          refine x_getI 0 C f_RX8_179 eX8_numberHere_55 rfl rfl ?_
          try simp (disch := decide) only [up_s, up_n]
          refine x_goto (pc' := 62) C eX8_numberHere_58 rfl ?_
          refine x_iret (by first | rfl | exact (narZ (by omega)).1) C F eX8_numberHere_62 () ?_ trivial (fun cf c h => ?_) (nle rfl) (nle rfl)
          · first
              | (exfalso; omega)
              | (rw [nhV_1 (by rw [nhI_D h4]; exact h4)])
              | (rw [nhV_1 (by rw [nhI_A h4 (by omega), e1]; decide)])
              | (rw [nhV_0 (by rw [nhI_B (by omega) (by assumption)]; exact h4)])
              | (rw [nhV_1 (by rw [nhI_C (by omega) (by assumption), e2]; decide)])
          · first
              | (exfalso; omega)
              | (rw [nhI_D h4]; exact WF_pick [0] rfl rfl h)
              | (rw [nhI_A h4 (by omega)]; exact WF_pick [0] rfl rfl h)
              | (rw [nhI_B (by omega) (by assumption)]; exact WF_pick [0] rfl rfl h)
              | (rw [nhI_C (by omega) (by assumption)]; exact WF_pick [0] rfl rfl h)
  · have e1 := errI_g (c := 1) h4
    have e2 := errI_g (c := 2) h4
    refine x_aload_n C eX8_numberHere_7 rfl ?_
    refine x_getI 0 C f_RX8_168 eX8_numberHere_8 rfl rfl ?_
    refine x_iconst C eX8_numberHere_11 ?_
    refine x_icmp_eq 20 C eX8_numberHere_12 rfl (by omega) (by omega) (fun h12 => ?_) (fun h12 => ?_)
    · refine x_aload_n C eX8_numberHere_20 rfl ?_
      refine yV0r [] [_] C (s_X8_good hK (by first | exact h0.1.2.2.2.1 | (have := (Pin_err (F := Fb) (c := 1) (by decide) hP).1.2.2.2.1; exact this) | (have := (Pin_err (F := Fb) (c := 2) (by decide) hP).1.2.2.2.1; exact this) | (exfalso; omega))) v_X8_good vv_X8_good s_RX8_152 eX8_numberHere_21 (fun _ _ h => WF_pick [0] rfl rfl h) (rcv 0 rfl) rfl (nle rfl) (nle rfl) (nle rfl) (nle rfl) rfl ?_
      refine x_ifb_eq 47 C eX8_numberHere_24 rfl (fun h24 => ?_) (fun h24 => ?_)
      · refine x_aload_n C eX8_numberHere_47 rfl ?_
        refine yV0r [] [_] C (s_X8_good hK (by first | exact h0.1.2.2.2.1 | (have := (Pin_err (F := Fb) (c := 1) (by decide) hP).1.2.2.2.1; exact this) | (have := (Pin_err (F := Fb) (c := 2) (by decide) hP).1.2.2.2.1; exact this) | (exfalso; omega))) v_X8_good vv_X8_good s_RX8_152 eX8_numberHere_48 (fun _ _ h => WF_pick [0] rfl rfl h) (rcv 0 rfl) rfl (nle rfl) (nle rfl) (nle rfl) (nle rfl) rfl ?_
        refine x_ifb_eq 61 C eX8_numberHere_51 rfl (fun h51 => ?_) (fun h51 => ?_)
        · refine x_iload_n C eX8_numberHere_61 rfl ?_
          refine x_iret (by first | rfl | exact (narZ (by omega)).1) C F eX8_numberHere_62 () ?_ trivial (fun cf c h => ?_) (nle rfl) (nle rfl)
          · first
              | (exfalso; omega)
              | (rw [nhV_1 (by rw [nhI_D h4]; exact h4)])
              | (rw [nhV_1 (by rw [nhI_A h4 (by omega), e1]; decide)])
              | (rw [nhV_0 (by rw [nhI_B (by omega) (by assumption)]; exact h4)])
              | (rw [nhV_1 (by rw [nhI_C (by omega) (by assumption), e2]; decide)])
          · first
              | (exfalso; omega)
              | (rw [nhI_D h4]; exact WF_pick [0] rfl rfl h)
              | (rw [nhI_A h4 (by omega)]; exact WF_pick [0] rfl rfl h)
              | (rw [nhI_B (by omega) (by assumption)]; exact WF_pick [0] rfl rfl h)
              | (rw [nhI_C (by omega) (by assumption)]; exact WF_pick [0] rfl rfl h)
        · refine x_aload_n C eX8_numberHere_54 rfl ?_
          refine x_getI 0 C f_RX8_179 eX8_numberHere_55 rfl rfl ?_
          refine x_goto (pc' := 62) C eX8_numberHere_58 rfl ?_
          refine x_iret (by first | rfl | exact (narZ (by omega)).1) C F eX8_numberHere_62 () ?_ trivial (fun cf c h => ?_) (nle rfl) (nle rfl)
          · first
              | (exfalso; omega)
              | (rw [nhV_1 (by rw [nhI_D h4]; exact h4)])
              | (rw [nhV_1 (by rw [nhI_A h4 (by omega), e1]; decide)])
              | (rw [nhV_0 (by rw [nhI_B (by omega) (by assumption)]; exact h4)])
              | (rw [nhV_1 (by rw [nhI_C (by omega) (by assumption), e2]; decide)])
          · first
              | (exfalso; omega)
              | (rw [nhI_D h4]; exact WF_pick [0] rfl rfl h)
              | (rw [nhI_A h4 (by omega)]; exact WF_pick [0] rfl rfl h)
              | (rw [nhI_B (by omega) (by assumption)]; exact WF_pick [0] rfl rfl h)
              | (rw [nhI_C (by omega) (by assumption)]; exact WF_pick [0] rfl rfl h)
      · refine x_aload_n C eX8_numberHere_27 rfl ?_
        refine x_getI 0 C f_RX8_179 eX8_numberHere_28 rfl rfl ?_
        refine x_i2l C eX8_numberHere_31 (by omega) ?_
        refine x_iload_n C eX8_numberHere_32 rfl ?_
        refine x_i2l C eX8_numberHere_33 (by omega) ?_
        refine x_iload_n C eX8_numberHere_34 rfl ?_
        refine x_i2l C eX8_numberHere_35 (by omega) ?_
        refine yS3r [_] [_] C (s_X8_in hK (by omega)) v_X8_in vs_X8_in s_RX8_72 eX8_numberHere_36 (fun _ _ h => WF_pick [0] rfl rfl h) rfl (nle rfl) (nle rfl) (nle rfl) (nle rfl) rfl ?_
        refine x_ifb_ne 47 C eX8_numberHere_39 rfl (fun h39 => ?_) (fun h39 => ?_)
        · refine x_aload_n C eX8_numberHere_47 rfl ?_
          refine yV0r [] [_] C (s_X8_good hK (by first | exact h0.1.2.2.2.1 | (have := (Pin_err (F := Fb) (c := 1) (by decide) hP).1.2.2.2.1; exact this) | (have := (Pin_err (F := Fb) (c := 2) (by decide) hP).1.2.2.2.1; exact this) | (exfalso; omega))) v_X8_good vv_X8_good s_RX8_152 eX8_numberHere_48 (fun _ _ h => WF_pick [0] rfl rfl h) (rcv 0 rfl) rfl (nle rfl) (nle rfl) (nle rfl) (nle rfl) rfl ?_
          refine x_ifb_eq 61 C eX8_numberHere_51 rfl (fun h51 => ?_) (fun h51 => ?_)
          · refine x_iload_n C eX8_numberHere_61 rfl ?_
            refine x_iret (by first | rfl | exact (narZ (by omega)).1) C F eX8_numberHere_62 () ?_ trivial (fun cf c h => ?_) (nle rfl) (nle rfl)
            · first
                | (exfalso; omega)
                | (rw [nhV_1 (by rw [nhI_D h4]; exact h4)])
                | (rw [nhV_1 (by rw [nhI_A h4 (by omega), e1]; decide)])
                | (rw [nhV_0 (by rw [nhI_B (by omega) (by assumption)]; exact h4)])
                | (rw [nhV_1 (by rw [nhI_C (by omega) (by assumption), e2]; decide)])
            · first
                | (exfalso; omega)
                | (rw [nhI_D h4]; exact WF_pick [0] rfl rfl h)
                | (rw [nhI_A h4 (by omega)]; exact WF_pick [0] rfl rfl h)
                | (rw [nhI_B (by omega) (by assumption)]; exact WF_pick [0] rfl rfl h)
                | (rw [nhI_C (by omega) (by assumption)]; exact WF_pick [0] rfl rfl h)
          · refine x_aload_n C eX8_numberHere_54 rfl ?_
            refine x_getI 0 C f_RX8_179 eX8_numberHere_55 rfl rfl ?_
            refine x_goto (pc' := 62) C eX8_numberHere_58 rfl ?_
            refine x_iret (by first | rfl | exact (narZ (by omega)).1) C F eX8_numberHere_62 () ?_ trivial (fun cf c h => ?_) (nle rfl) (nle rfl)
            · first
                | (exfalso; omega)
                | (rw [nhV_1 (by rw [nhI_D h4]; exact h4)])
                | (rw [nhV_1 (by rw [nhI_A h4 (by omega), e1]; decide)])
                | (rw [nhV_0 (by rw [nhI_B (by omega) (by assumption)]; exact h4)])
                | (rw [nhV_1 (by rw [nhI_C (by omega) (by assumption), e2]; decide)])
            · first
                | (exfalso; omega)
                | (rw [nhI_D h4]; exact WF_pick [0] rfl rfl h)
                | (rw [nhI_A h4 (by omega)]; exact WF_pick [0] rfl rfl h)
                | (rw [nhI_B (by omega) (by assumption)]; exact WF_pick [0] rfl rfl h)
                | (rw [nhI_C (by omega) (by assumption)]; exact WF_pick [0] rfl rfl h)
        · refine x_aload_n C eX8_numberHere_42 rfl ?_
          refine x_iconst C eX8_numberHere_43 ?_
          refine yV1v [] [_] C (s_X8_errs hK (by first | exact h0.1.2.2.2.1 | (have := (Pin_err (F := Fb) (c := 1) (by decide) hP).1.2.2.2.1; exact this) | (have := (Pin_err (F := Fb) (c := 2) (by decide) hP).1.2.2.2.1; exact this) | (exfalso; omega))) v_X8_errs vv_X8_errs s_RX8_194 eX8_numberHere_44 (fun _ _ h => WF_pick [0] rfl rfl h) (rcv 0 rfl) rfl (nle rfl) (nle rfl) (nle rfl) (nle rfl) rfl ?_
          refine x_aload_n C eX8_numberHere_47 rfl ?_
          refine yV0r [] [_] C (s_X8_good hK (by first | exact h0.1.2.2.2.1 | (have := (Pin_err (F := Fb) (c := 1) (by decide) hP).1.2.2.2.1; exact this) | (have := (Pin_err (F := Fb) (c := 2) (by decide) hP).1.2.2.2.1; exact this) | (exfalso; omega))) v_X8_good vv_X8_good s_RX8_152 eX8_numberHere_48 (fun _ _ h => WF_pick [0] rfl rfl h) (rcv 0 rfl) rfl (nle rfl) (nle rfl) (nle rfl) (nle rfl) rfl ?_
          refine x_ifb_eq 61 C eX8_numberHere_51 rfl (fun h51 => ?_) (fun h51 => ?_)
          · refine x_iload_n C eX8_numberHere_61 rfl ?_
            refine x_iret (by first | rfl | exact (narZ (by omega)).1) C F eX8_numberHere_62 () ?_ trivial (fun cf c h => ?_) (nle rfl) (nle rfl)
            · first
                | (exfalso; omega)
                | (rw [nhV_1 (by rw [nhI_D h4]; exact h4)])
                | (rw [nhV_1 (by rw [nhI_A h4 (by omega), e1]; decide)])
                | (rw [nhV_0 (by rw [nhI_B (by omega) (by assumption)]; exact h4)])
                | (rw [nhV_1 (by rw [nhI_C (by omega) (by assumption), e2]; decide)])
            · first
                | (exfalso; omega)
                | (rw [nhI_D h4]; exact WF_pick [0] rfl rfl h)
                | (rw [nhI_A h4 (by omega)]; exact WF_pick [0] rfl rfl h)
                | (rw [nhI_B (by omega) (by assumption)]; exact WF_pick [0] rfl rfl h)
                | (rw [nhI_C (by omega) (by assumption)]; exact WF_pick [0] rfl rfl h)
          · refine x_aload_n C eX8_numberHere_54 rfl ?_
            refine x_getI 0 C f_RX8_179 eX8_numberHere_55 rfl rfl ?_
            try simp (disch := decide) only [up_s, up_n]
            refine x_goto (pc' := 62) C eX8_numberHere_58 rfl ?_
            refine x_iret (by first | rfl | exact (narZ (by omega)).1) C F eX8_numberHere_62 () ?_ trivial (fun cf c h => ?_) (nle rfl) (nle rfl)
            · first
                | (exfalso; omega)
                | (rw [nhV_1 (by rw [nhI_D h4]; exact h4)])
                | (rw [nhV_1 (by rw [nhI_A h4 (by omega), e1]; decide)])
                | (rw [nhV_0 (by rw [nhI_B (by omega) (by assumption)]; exact h4)])
                | (rw [nhV_1 (by rw [nhI_C (by omega) (by assumption), e2]; decide)])
            · first
                | (exfalso; omega)
                | (rw [nhI_D h4]; exact WF_pick [0] rfl rfl h)
                | (rw [nhI_A h4 (by omega)]; exact WF_pick [0] rfl rfl h)
                | (rw [nhI_B (by omega) (by assumption)]; exact WF_pick [0] rfl rfl h)
                | (rw [nhI_C (by omega) (by assumption)]; exact WF_pick [0] rfl rfl h)
    · refine x_aload_n C eX8_numberHere_15 rfl ?_
      refine x_iconst C eX8_numberHere_16 ?_
      refine yV1v [] [_] C (s_X8_errs hK (by first | exact h0.1.2.2.2.1 | (have := (Pin_err (F := Fb) (c := 1) (by decide) hP).1.2.2.2.1; exact this) | (have := (Pin_err (F := Fb) (c := 2) (by decide) hP).1.2.2.2.1; exact this) | (exfalso; omega))) v_X8_errs vv_X8_errs s_RX8_194 eX8_numberHere_17 (fun _ _ h => WF_pick [0] rfl rfl h) (rcv 0 rfl) rfl (nle rfl) (nle rfl) (nle rfl) (nle rfl) rfl ?_
      refine x_aload_n C eX8_numberHere_20 rfl ?_
      refine yV0r [] [_] C (s_X8_good hK (by first | exact h0.1.2.2.2.1 | (have := (Pin_err (F := Fb) (c := 1) (by decide) hP).1.2.2.2.1; exact this) | (have := (Pin_err (F := Fb) (c := 2) (by decide) hP).1.2.2.2.1; exact this) | (exfalso; omega))) v_X8_good vv_X8_good s_RX8_152 eX8_numberHere_21 (fun _ _ h => WF_pick [0] rfl rfl h) (rcv 0 rfl) rfl (nle rfl) (nle rfl) (nle rfl) (nle rfl) rfl ?_
      refine x_ifb_eq 47 C eX8_numberHere_24 rfl (fun h24 => ?_) (fun h24 => ?_)
      · refine x_aload_n C eX8_numberHere_47 rfl ?_
        refine yV0r [] [_] C (s_X8_good hK (by first | exact h0.1.2.2.2.1 | (have := (Pin_err (F := Fb) (c := 1) (by decide) hP).1.2.2.2.1; exact this) | (have := (Pin_err (F := Fb) (c := 2) (by decide) hP).1.2.2.2.1; exact this) | (exfalso; omega))) v_X8_good vv_X8_good s_RX8_152 eX8_numberHere_48 (fun _ _ h => WF_pick [0] rfl rfl h) (rcv 0 rfl) rfl (nle rfl) (nle rfl) (nle rfl) (nle rfl) rfl ?_
        refine x_ifb_eq 61 C eX8_numberHere_51 rfl (fun h51 => ?_) (fun h51 => ?_)
        · refine x_iload_n C eX8_numberHere_61 rfl ?_
          refine x_iret (by first | rfl | exact (narZ (by omega)).1) C F eX8_numberHere_62 () ?_ trivial (fun cf c h => ?_) (nle rfl) (nle rfl)
          · first
              | (exfalso; omega)
              | (rw [nhV_1 (by rw [nhI_D h4]; exact h4)])
              | (rw [nhV_1 (by rw [nhI_A h4 (by omega), e1]; decide)])
              | (rw [nhV_0 (by rw [nhI_B (by omega) (by assumption)]; exact h4)])
              | (rw [nhV_1 (by rw [nhI_C (by omega) (by assumption), e2]; decide)])
          · first
              | (exfalso; omega)
              | (rw [nhI_D h4]; exact WF_pick [0] rfl rfl h)
              | (rw [nhI_A h4 (by omega)]; exact WF_pick [0] rfl rfl h)
              | (rw [nhI_B (by omega) (by assumption)]; exact WF_pick [0] rfl rfl h)
              | (rw [nhI_C (by omega) (by assumption)]; exact WF_pick [0] rfl rfl h)
        · refine x_aload_n C eX8_numberHere_54 rfl ?_
          refine x_getI 0 C f_RX8_179 eX8_numberHere_55 rfl rfl ?_
          try simp (disch := decide) only [up_s, up_n]
          refine x_goto (pc' := 62) C eX8_numberHere_58 rfl ?_
          refine x_iret (by first | rfl | exact (narZ (by omega)).1) C F eX8_numberHere_62 () ?_ trivial (fun cf c h => ?_) (nle rfl) (nle rfl)
          · first
              | (exfalso; omega)
              | (rw [nhV_1 (by rw [nhI_D h4]; exact h4)])
              | (rw [nhV_1 (by rw [nhI_A h4 (by omega), e1]; decide)])
              | (rw [nhV_0 (by rw [nhI_B (by omega) (by assumption)]; exact h4)])
              | (rw [nhV_1 (by rw [nhI_C (by omega) (by assumption), e2]; decide)])
          · first
              | (exfalso; omega)
              | (rw [nhI_D h4]; exact WF_pick [0] rfl rfl h)
              | (rw [nhI_A h4 (by omega)]; exact WF_pick [0] rfl rfl h)
              | (rw [nhI_B (by omega) (by assumption)]; exact WF_pick [0] rfl rfl h)
              | (rw [nhI_C (by omega) (by assumption)]; exact WF_pick [0] rfl rfl h)
      · refine x_aload_n C eX8_numberHere_27 rfl ?_
        refine x_getI 0 C f_RX8_179 eX8_numberHere_28 rfl rfl ?_
        try simp (disch := decide) only [up_s, up_n]
        refine x_i2l C eX8_numberHere_31 (by omega) ?_
        refine x_iload_n C eX8_numberHere_32 rfl ?_
        refine x_i2l C eX8_numberHere_33 (by omega) ?_
        refine x_iload_n C eX8_numberHere_34 rfl ?_
        refine x_i2l C eX8_numberHere_35 (by omega) ?_
        refine yS3r [_] [_] C (s_X8_in hK (by omega)) v_X8_in vs_X8_in s_RX8_72 eX8_numberHere_36 (fun _ _ h => WF_pick [0] rfl rfl h) rfl (nle rfl) (nle rfl) (nle rfl) (nle rfl) rfl ?_
        refine x_ifb_ne 47 C eX8_numberHere_39 rfl (fun h39 => ?_) (fun h39 => ?_)
        · refine x_aload_n C eX8_numberHere_47 rfl ?_
          refine yV0r [] [_] C (s_X8_good hK (by first | exact h0.1.2.2.2.1 | (have := (Pin_err (F := Fb) (c := 1) (by decide) hP).1.2.2.2.1; exact this) | (have := (Pin_err (F := Fb) (c := 2) (by decide) hP).1.2.2.2.1; exact this) | (exfalso; omega))) v_X8_good vv_X8_good s_RX8_152 eX8_numberHere_48 (fun _ _ h => WF_pick [0] rfl rfl h) (rcv 0 rfl) rfl (nle rfl) (nle rfl) (nle rfl) (nle rfl) rfl ?_
          refine x_ifb_eq 61 C eX8_numberHere_51 rfl (fun h51 => ?_) (fun h51 => ?_)
          · refine x_iload_n C eX8_numberHere_61 rfl ?_
            refine x_iret (by first | rfl | exact (narZ (by omega)).1) C F eX8_numberHere_62 () ?_ trivial (fun cf c h => ?_) (nle rfl) (nle rfl)
            · first
                | (exfalso; omega)
                | (rw [nhV_1 (by rw [nhI_D h4]; exact h4)])
                | (rw [nhV_1 (by rw [nhI_A h4 (by omega), e1]; decide)])
                | (rw [nhV_0 (by rw [nhI_B (by omega) (by assumption)]; exact h4)])
                | (rw [nhV_1 (by rw [nhI_C (by omega) (by assumption), e2]; decide)])
            · first
                | (exfalso; omega)
                | (rw [nhI_D h4]; exact WF_pick [0] rfl rfl h)
                | (rw [nhI_A h4 (by omega)]; exact WF_pick [0] rfl rfl h)
                | (rw [nhI_B (by omega) (by assumption)]; exact WF_pick [0] rfl rfl h)
                | (rw [nhI_C (by omega) (by assumption)]; exact WF_pick [0] rfl rfl h)
          · refine x_aload_n C eX8_numberHere_54 rfl ?_
            refine x_getI 0 C f_RX8_179 eX8_numberHere_55 rfl rfl ?_
            try simp (disch := decide) only [up_s, up_n]
            refine x_goto (pc' := 62) C eX8_numberHere_58 rfl ?_
            refine x_iret (by first | rfl | exact (narZ (by omega)).1) C F eX8_numberHere_62 () ?_ trivial (fun cf c h => ?_) (nle rfl) (nle rfl)
            · first
                | (exfalso; omega)
                | (rw [nhV_1 (by rw [nhI_D h4]; exact h4)])
                | (rw [nhV_1 (by rw [nhI_A h4 (by omega), e1]; decide)])
                | (rw [nhV_0 (by rw [nhI_B (by omega) (by assumption)]; exact h4)])
                | (rw [nhV_1 (by rw [nhI_C (by omega) (by assumption), e2]; decide)])
            · first
                | (exfalso; omega)
                | (rw [nhI_D h4]; exact WF_pick [0] rfl rfl h)
                | (rw [nhI_A h4 (by omega)]; exact WF_pick [0] rfl rfl h)
                | (rw [nhI_B (by omega) (by assumption)]; exact WF_pick [0] rfl rfl h)
                | (rw [nhI_C (by omega) (by assumption)]; exact WF_pick [0] rfl rfl h)
        · refine x_aload_n C eX8_numberHere_42 rfl ?_
          refine x_iconst C eX8_numberHere_43 ?_
          refine yV1v [] [_] C (s_X8_errs hK (by first | exact h0.1.2.2.2.1 | (have := (Pin_err (F := Fb) (c := 1) (by decide) hP).1.2.2.2.1; exact this) | (have := (Pin_err (F := Fb) (c := 2) (by decide) hP).1.2.2.2.1; exact this) | (exfalso; omega))) v_X8_errs vv_X8_errs s_RX8_194 eX8_numberHere_44 (fun _ _ h => WF_pick [0] rfl rfl h) (rcv 0 rfl) rfl (nle rfl) (nle rfl) (nle rfl) (nle rfl) rfl ?_
          refine x_aload_n C eX8_numberHere_47 rfl ?_
          refine yV0r [] [_] C (s_X8_good hK (by first | exact h0.1.2.2.2.1 | (have := (Pin_err (F := Fb) (c := 1) (by decide) hP).1.2.2.2.1; exact this) | (have := (Pin_err (F := Fb) (c := 2) (by decide) hP).1.2.2.2.1; exact this) | (exfalso; omega))) v_X8_good vv_X8_good s_RX8_152 eX8_numberHere_48 (fun _ _ h => WF_pick [0] rfl rfl h) (rcv 0 rfl) rfl (nle rfl) (nle rfl) (nle rfl) (nle rfl) rfl ?_
          refine x_ifb_eq 61 C eX8_numberHere_51 rfl (fun h51 => ?_) (fun h51 => ?_)
          · refine x_iload_n C eX8_numberHere_61 rfl ?_
            refine x_iret (by first | rfl | exact (narZ (by omega)).1) C F eX8_numberHere_62 () ?_ trivial (fun cf c h => ?_) (nle rfl) (nle rfl)
            · first
                | (exfalso; omega)
                | (rw [nhV_1 (by rw [nhI_D h4]; exact h4)])
                | (rw [nhV_1 (by rw [nhI_A h4 (by omega), e1]; decide)])
                | (rw [nhV_0 (by rw [nhI_B (by omega) (by assumption)]; exact h4)])
                | (rw [nhV_1 (by rw [nhI_C (by omega) (by assumption), e2]; decide)])
            · first
                | (exfalso; omega)
                | (rw [nhI_D h4]; exact WF_pick [0] rfl rfl h)
                | (rw [nhI_A h4 (by omega)]; exact WF_pick [0] rfl rfl h)
                | (rw [nhI_B (by omega) (by assumption)]; exact WF_pick [0] rfl rfl h)
                | (rw [nhI_C (by omega) (by assumption)]; exact WF_pick [0] rfl rfl h)
          · refine x_aload_n C eX8_numberHere_54 rfl ?_
            refine x_getI 0 C f_RX8_179 eX8_numberHere_55 rfl rfl ?_
            try simp (disch := decide) only [up_s, up_n]
            refine x_goto (pc' := 62) C eX8_numberHere_58 rfl ?_
            refine x_iret (by first | rfl | exact (narZ (by omega)).1) C F eX8_numberHere_62 () ?_ trivial (fun cf c h => ?_) (nle rfl) (nle rfl)
            · first
                | (exfalso; omega)
                | (rw [nhV_1 (by rw [nhI_D h4]; exact h4)])
                | (rw [nhV_1 (by rw [nhI_A h4 (by omega), e1]; decide)])
                | (rw [nhV_0 (by rw [nhI_B (by omega) (by assumption)]; exact h4)])
                | (rw [nhV_1 (by rw [nhI_C (by omega) (by assumption), e2]; decide)])
            · first
                | (exfalso; omega)
                | (rw [nhI_D h4]; exact WF_pick [0] rfl rfl h)
                | (rw [nhI_A h4 (by omega)]; exact WF_pick [0] rfl rfl h)
                | (rw [nhI_B (by omega) (by assumption)]; exact WF_pick [0] rfl rfl h)
                | (rw [nhI_C (by omega) (by assumption)]; exact WF_pick [0] rfl rfl h)

set_option maxHeartbeats 4000000 in
set_option maxRecDepth 100000 in
theorem s_X8_number {G : Gm} {l : Launch} (hK : KG G) {o r : Nat} {A : Nat → Nat} {I Fb : Nat → Int} {a9 b9 : Int} (hFb : ∀ j, -128 ≤ Fb j ∧ Fb j ≤ 127) (hP : Pin Fb I) (ha : -2147483648 ≤ a9 ∧ a9 < 2147483648) (hb : -2147483648 ≤ b9 ∧ b9 < 2147483648) : MD G l yX8_number cX8_number 4 (some .int) 5 0 0 [.ref o, .int (zI a9), .int (zI b9)] [ob o 10 (shM A r) I, ar G 1 (A 5) 400 400 (Fb)] (some (.int (zI (nhV I a9 b9)))) [ob o 10 (shM A r) (nbI Fb I a9 b9), ar G 1 (A 5) 400 400 (Fb)] := by
  refine MX_of (lv := [some (.ref o), some (.int (zI a9)), some (.int (zI b9)), none]) hK (by decide +kernel) rfl (nle rfl) (fun X C F => ?_)
  have C : OKc G X l RX8 "number" cX8_number 4 (some .int) 5 0 0 := C
  have h0 := hP
  unfold Pin Pin0 at h0
  refine x_aload_n C eX8_number_0 rfl ?_
  refine x_iload_n C eX8_number_1 rfl ?_
  refine x_iload_n C eX8_number_2 rfl ?_
  refine yV2r [_] [_, _] C (s_X8_numberHere hK hFb hP ha hb) v_X8_numberHere vv_X8_numberHere s_RX8_197 eX8_number_3 (fun _ _ h => WF_pick [0, 1] rfl rfl h) (rcv 0 rfl) rfl (nle rfl) (nle rfl) (nle rfl) (nle rfl) rfl ?_
  refine x_istore_n [_, _, _, _] C eX8_number_6 rfl rfl (nlt rfl) ?_
  refine x_aload_n C eX8_number_7 rfl ?_
  refine yV0v [] [_, _] C (s_X8_goOn hK hFb (Pin_nh hP)) v_X8_goOn vv_X8_goOn s_RX8_200 eX8_number_8 (fun _ _ h => WF_pick [0, 1] rfl rfl h) (rcv 0 rfl) rfl (nle rfl) (nle rfl) (nle rfl) (nle rfl) rfl ?_
  refine x_iload_n C eX8_number_11 rfl ?_
  refine x_iret (by first | rfl | exact (narZ (by omega)).1) C F eX8_number_12 () ?_ trivial (fun cf c h => ?_) (nle rfl) (nle rfl)
  · rfl
  · exact WF_pick [0, 1] rfl rfl h

set_option maxHeartbeats 4000000 in
set_option maxRecDepth 100000 in
theorem s_X8_takeWord {G : Gm} {l : Launch} (hK : KG G) {o r : Nat} {A : Nat → Nat} {I Fb : Nat → Int} {q b : Nat} {w : List Int} (hFb : ∀ j, -128 ≤ Fb j ∧ Fb j ≤ 127) (hP : Pin Fb I) (hS : KS G) (hq : strG G q b w) : MD G l yX8_takeWord cX8_takeWord 2 none 6 0 0 [.ref o, .ref q] [ob o 10 (shM A r) I, ar G 1 (A 5) 400 400 (Fb)] none [ob o 10 (shM A r) (twI Fb I w), ar G 1 (A 5) 400 400 (Fb)] := by
  refine MX_of (lv := [some (.ref o), some (.ref q)]) hK (by decide +kernel) rfl (nle rfl) (fun X C F => ?_)
  have C : OKc G X l RX8 "takeWord" cX8_takeWord 2 none 6 0 0 := C
  have h0 := hP
  unfold Pin Pin0 at h0
  refine x_aload_n C eX8_takeWord_0 rfl ?_
  refine x_aload_n C eX8_takeWord_1 rfl ?_
  refine yV1r [] [_, _] C (s_X8_isWord hK hFb hP hS hq) v_X8_isWord vv_X8_isWord s_RX8_203 eX8_takeWord_2 (fun _ _ h => WF_pick [0, 1] rfl rfl h) (rcv 0 rfl) rfl (nle rfl) (nle rfl) (nle rfl) (nle rfl) rfl ?_
  refine x_ifb_ne 13 C eX8_takeWord_5 rfl (fun h5 => ?_) (fun h5 => ?_)
  · refine x_aload_n C eX8_takeWord_13 rfl ?_
    refine yV0v [] [_, _] C (s_X8_goOn hK hFb (by first | exact hP | exact Pin_err (by decide) hP)) v_X8_goOn vv_X8_goOn s_RX8_200 eX8_takeWord_14 (fun _ _ h => WF_pick [0, 1] rfl rfl h) (rcv 0 rfl) rfl (nle rfl) (nle rfl) (nle rfl) (nle rfl) rfl ?_
    refine x_vret C F eX8_takeWord_17 () rfl trivial (fun cf c h => ?_) (nle rfl) (nle rfl)
    first
      | (rw [show twI Fb I w = goI Fb I from by unfold twI; rw [if_pos (by assumption)]]; exact WF_pick [0, 1] rfl rfl h)
      | (rw [show twI Fb I w = goI Fb (errI I 1) from by unfold twI; rw [if_neg (by assumption)]]; exact WF_pick [0, 1] rfl rfl h)
  · refine x_aload_n C eX8_takeWord_8 rfl ?_
    refine x_iconst C eX8_takeWord_9 ?_
    refine yV1v [_] [_, _] C (s_X8_errs hK h0.1.2.2.2.1) v_X8_errs vv_X8_errs s_RX8_194 eX8_takeWord_10 (fun _ _ h => WF_pick [0, 1] rfl rfl h) (rcv 0 rfl) rfl (nle rfl) (nle rfl) (nle rfl) (nle rfl) rfl ?_
    refine x_aload_n C eX8_takeWord_13 rfl ?_
    refine yV0v [] [_, _] C (s_X8_goOn hK hFb (by first | exact hP | exact Pin_err (by decide) hP)) v_X8_goOn vv_X8_goOn s_RX8_200 eX8_takeWord_14 (fun _ _ h => WF_pick [0, 1] rfl rfl h) (rcv 0 rfl) rfl (nle rfl) (nle rfl) (nle rfl) (nle rfl) rfl ?_
    refine x_vret C F eX8_takeWord_17 () rfl trivial (fun cf c h => ?_) (nle rfl) (nle rfl)
    first
      | (rw [show twI Fb I w = goI Fb I from by unfold twI; rw [if_pos (by assumption)]]; exact WF_pick [0, 1] rfl rfl h)
      | (rw [show twI Fb I w = goI Fb (errI I 1) from by unfold twI; rw [if_neg (by assumption)]]; exact WF_pick [0, 1] rfl rfl h)

set_option maxHeartbeats 4000000 in
set_option maxRecDepth 100000 in
theorem s_X8_semicolon {G : Gm} {l : Launch} (hK : KG G) {o r : Nat} {A : Nat → Nat} {I Fb : Nat → Int} (hFb : ∀ j, -128 ≤ Fb j ∧ Fb j ≤ 127) (hP : Pin Fb I) : MD G l yX8_semicolon cX8_semicolon 1 none 4 0 0 [.ref o] [ob o 10 (shM A r) I, ar G 1 (A 5) 400 400 (Fb)] none [ob o 10 (shM A r) (scI Fb I), ar G 1 (A 5) 400 400 (Fb)] := by
  refine MX_of (lv := [some (.ref o)]) hK (by decide +kernel) rfl (nle rfl) (fun X C F => ?_)
  have C : OKc G X l RX8 "semicolon" cX8_semicolon 1 none 4 0 0 := C
  have h0 := hP
  unfold Pin Pin0 at h0
  refine x_aload_n C eX8_semicolon_0 rfl ?_
  refine yV0r [_] [_, _] C (s_X8_good hK h0.1.2.2.2.1) v_X8_good vv_X8_good s_RX8_152 eX8_semicolon_1 (fun _ _ h => WF_pick [0, 1] rfl rfl h) (rcv 0 rfl) rfl (nle rfl) (nle rfl) (nle rfl) (nle rfl) rfl ?_
  refine x_ifb_eq 24 C eX8_semicolon_4 rfl (fun h4 => ?_) (fun h4 => ?_)
  · refine x_aload_n C eX8_semicolon_24 rfl ?_
    refine x_iconst C eX8_semicolon_25 ?_
    refine yV1v [_] [_, _] C (s_X8_errs hK h0.1.2.2.2.1) v_X8_errs vv_X8_errs s_RX8_194 eX8_semicolon_26 (fun _ _ h => WF_pick [0, 1] rfl rfl h) (rcv 0 rfl) rfl (nle rfl) (nle rfl) (nle rfl) (nle rfl) rfl ?_
    refine x_aload_n C eX8_semicolon_29 rfl ?_
    refine yV0v [] [_, _] C (s_X8_goOn hK hFb (by first | exact hP | exact Pin_err (by decide) hP)) v_X8_goOn vv_X8_goOn s_RX8_200 eX8_semicolon_30 (fun _ _ h => WF_pick [0, 1] rfl rfl h) (rcv 0 rfl) rfl (nle rfl) (nle rfl) (nle rfl) (nle rfl) rfl ?_
    refine x_vret C F eX8_semicolon_33 () rfl trivial (fun cf c h => ?_) (nle rfl) (nle rfl)
    first
      | (rw [show scI Fb I = goI Fb I from by unfold scI; rw [if_pos ⟨by assumption, by assumption⟩]]; exact WF_pick [0, 1] rfl rfl h)
      | (rw [show scI Fb I = goI Fb (errI I 1) from by unfold scI; rw [if_neg (by omega)]]; exact WF_pick [0, 1] rfl rfl h)
      | (rw [show scI Fb I = goI Fb (errI I 1) from by unfold scI; rw [errI_id (by assumption), ite_self]]; exact WF_pick [0, 1] rfl rfl h)
  · refine x_aload_n C eX8_semicolon_7 rfl ?_
    refine x_getI 0 C f_RX8_168 eX8_semicolon_8 rfl rfl ?_
    refine x_iconst C eX8_semicolon_11 ?_
    refine x_icmp_ne 24 C eX8_semicolon_12 rfl (by omega) (by omega) (fun h12 => ?_) (fun h12 => ?_)
    · refine x_aload_n C eX8_semicolon_24 rfl ?_
      refine x_iconst C eX8_semicolon_25 ?_
      refine yV1v [_] [_, _] C (s_X8_errs hK h0.1.2.2.2.1) v_X8_errs vv_X8_errs s_RX8_194 eX8_semicolon_26 (fun _ _ h => WF_pick [0, 1] rfl rfl h) (rcv 0 rfl) rfl (nle rfl) (nle rfl) (nle rfl) (nle rfl) rfl ?_
      refine x_aload_n C eX8_semicolon_29 rfl ?_
      refine yV0v [] [_, _] C (s_X8_goOn hK hFb (by first | exact hP | exact Pin_err (by decide) hP)) v_X8_goOn vv_X8_goOn s_RX8_200 eX8_semicolon_30 (fun _ _ h => WF_pick [0, 1] rfl rfl h) (rcv 0 rfl) rfl (nle rfl) (nle rfl) (nle rfl) (nle rfl) rfl ?_
      refine x_vret C F eX8_semicolon_33 () rfl trivial (fun cf c h => ?_) (nle rfl) (nle rfl)
      first
        | (rw [show scI Fb I = goI Fb I from by unfold scI; rw [if_pos ⟨by assumption, by assumption⟩]]; exact WF_pick [0, 1] rfl rfl h)
        | (rw [show scI Fb I = goI Fb (errI I 1) from by unfold scI; rw [if_neg (by omega)]]; exact WF_pick [0, 1] rfl rfl h)
        | (rw [show scI Fb I = goI Fb (errI I 1) from by unfold scI; rw [errI_id (by assumption), ite_self]]; exact WF_pick [0, 1] rfl rfl h)
    · refine x_aload_n C eX8_semicolon_15 rfl ?_
      refine x_getI 0 C f_RX8_179 eX8_semicolon_16 rfl rfl ?_
      refine x_bipush C eX8_semicolon_19 rfl ?_
      refine x_icmp_eq 29 C eX8_semicolon_21 rfl (by omega) (by omega) (fun h21 => ?_) (fun h21 => ?_)
      · refine x_aload_n C eX8_semicolon_29 rfl ?_
        refine yV0v [] [_, _] C (s_X8_goOn hK hFb (by first | exact hP | exact Pin_err (by decide) hP)) v_X8_goOn vv_X8_goOn s_RX8_200 eX8_semicolon_30 (fun _ _ h => WF_pick [0, 1] rfl rfl h) (rcv 0 rfl) rfl (nle rfl) (nle rfl) (nle rfl) (nle rfl) rfl ?_
        refine x_vret C F eX8_semicolon_33 () rfl trivial (fun cf c h => ?_) (nle rfl) (nle rfl)
        first
          | (rw [show scI Fb I = goI Fb I from by unfold scI; rw [if_pos ⟨by assumption, by assumption⟩]]; exact WF_pick [0, 1] rfl rfl h)
          | (rw [show scI Fb I = goI Fb (errI I 1) from by unfold scI; rw [if_neg (by omega)]]; exact WF_pick [0, 1] rfl rfl h)
          | (rw [show scI Fb I = goI Fb (errI I 1) from by unfold scI; rw [errI_id (by assumption), ite_self]]; exact WF_pick [0, 1] rfl rfl h)
      · refine x_aload_n C eX8_semicolon_24 rfl ?_
        refine x_iconst C eX8_semicolon_25 ?_
        refine yV1v [_] [_, _] C (s_X8_errs hK h0.1.2.2.2.1) v_X8_errs vv_X8_errs s_RX8_194 eX8_semicolon_26 (fun _ _ h => WF_pick [0, 1] rfl rfl h) (rcv 0 rfl) rfl (nle rfl) (nle rfl) (nle rfl) (nle rfl) rfl ?_
        refine x_aload_n C eX8_semicolon_29 rfl ?_
        refine yV0v [] [_, _] C (s_X8_goOn hK hFb (by first | exact hP | exact Pin_err (by decide) hP)) v_X8_goOn vv_X8_goOn s_RX8_200 eX8_semicolon_30 (fun _ _ h => WF_pick [0, 1] rfl rfl h) (rcv 0 rfl) rfl (nle rfl) (nle rfl) (nle rfl) (nle rfl) rfl ?_
        refine x_vret C F eX8_semicolon_33 () rfl trivial (fun cf c h => ?_) (nle rfl) (nle rfl)
        first
          | (rw [show scI Fb I = goI Fb I from by unfold scI; rw [if_pos ⟨by assumption, by assumption⟩]]; exact WF_pick [0, 1] rfl rfl h)
          | (rw [show scI Fb I = goI Fb (errI I 1) from by unfold scI; rw [if_neg (by omega)]]; exact WF_pick [0, 1] rfl rfl h)
          | (rw [show scI Fb I = goI Fb (errI I 1) from by unfold scI; rw [errI_id (by assumption), ite_self]]; exact WF_pick [0, 1] rfl rfl h)

set_option maxHeartbeats 4000000 in
set_option maxRecDepth 100000 in
theorem s_X8_isKeyword {G : Gm} {l : Launch} (hK : KG G) {o r : Nat} {A : Nat → Nat} {I Fb : Nat → Int} (hFb : ∀ j, -128 ≤ Fb j ∧ Fb j ≤ 127) (hP : Pin Fb I) (hS : KS G) : MD G l yX8_isKeyword cX8_isKeyword 2 (some .boolean) 6 0 0 [.ref o] [ob o 10 (shM A r) I, ar G 1 (A 5) 400 400 (Fb)] (some (.int (zI (bz (keyW Fb I = true))))) [ob o 10 (shM A r) I, ar G 1 (A 5) 400 400 (Fb)] := by
  refine MX_of (lv := [some (.ref o), none]) hK (by decide +kernel) rfl (nle rfl) (fun X C F => ?_)
  have C : OKc G X l RX8 "isKeyword" cX8_isKeyword 2 (some .boolean) 6 0 0 := C
  have h0 := hP
  unfold Pin Pin0 at h0
  refine x_aload_n C eX8_isKeyword_0 rfl ?_
  obtain ⟨q1, b1, hr1, hq1⟩ := lit_RX8_207 hS
  refine x_ldcS C hr1 eX8_isKeyword_1 ?_
  refine yV1r [] [_, _] C (s_X8_isWord hK hFb hP hS hq1) v_X8_isWord vv_X8_isWord s_RX8_203 eX8_isKeyword_3 (fun _ _ h => WF_pick [0, 1] rfl rfl h) (rcv 0 rfl) rfl (nle rfl) (nle rfl) (nle rfl) (nle rfl) rfl ?_
  refine x_ifb_ne 54 C eX8_isKeyword_6 rfl (fun h6 => ?_) (fun h6 => ?_)
  · refine x_iconst C eX8_isKeyword_54 ?_
    refine x_goto (pc' := 59) C eX8_isKeyword_55 rfl ?_
    refine x_istore_n [_, _] C eX8_isKeyword_59 rfl rfl (nlt rfl) ?_
    refine x_iload_n C eX8_isKeyword_60 rfl ?_
    refine x_if_ne 118 C eX8_isKeyword_61 rfl (by omega) (fun h61 => ?_) (fun h61 => ?_)
    · refine x_iconst C eX8_isKeyword_118 ?_
      refine x_goto (pc' := 123) C eX8_isKeyword_119 rfl ?_
      refine x_iret (narZ (by omega)).1 C F eX8_isKeyword_123 () ?_ trivial (fun cf c h => ?_) (nle rfl) (nle rfl)
      · try (exfalso; omega)
        all_goals
          by_cases hk9 : keyW Fb I = true
          · rw [bz_t hk9]
            all_goals (exfalso; simp [keyW, *] at hk9)
          · rw [bz_f hk9]
            all_goals (exfalso; apply hk9; simp [keyW, *])
      · exact WF_pick [0, 1] rfl rfl h
    · refine x_aload_n C eX8_isKeyword_64 rfl ?_
      obtain ⟨q65, b65, hr65, hq65⟩ := lit_RX8_219 hS
      refine x_ldcS C hr65 eX8_isKeyword_65 ?_
      refine yV1r [] [_, _] C (s_X8_isWord hK hFb hP hS hq65) v_X8_isWord vv_X8_isWord s_RX8_203 eX8_isKeyword_67 (fun _ _ h => WF_pick [0, 1] rfl rfl h) (rcv 0 rfl) rfl (nle rfl) (nle rfl) (nle rfl) (nle rfl) rfl ?_
      refine x_ifb_ne 118 C eX8_isKeyword_70 rfl (fun h70 => ?_) (fun h70 => ?_)
      · refine x_iconst C eX8_isKeyword_118 ?_
        refine x_goto (pc' := 123) C eX8_isKeyword_119 rfl ?_
        refine x_iret (narZ (by omega)).1 C F eX8_isKeyword_123 () ?_ trivial (fun cf c h => ?_) (nle rfl) (nle rfl)
        · try (exfalso; omega)
          all_goals
            by_cases hk9 : keyW Fb I = true
            · rw [bz_t hk9]
              all_goals (exfalso; simp [keyW, *] at hk9)
            · rw [bz_f hk9]
              all_goals (exfalso; apply hk9; simp [keyW, *])
        · exact WF_pick [0, 1] rfl rfl h
      · refine x_aload_n C eX8_isKeyword_73 rfl ?_
        obtain ⟨q74, b74, hr74, hq74⟩ := lit_RX8_221 hS
        refine x_ldcS C hr74 eX8_isKeyword_74 ?_
        refine yV1r [] [_, _] C (s_X8_isWord hK hFb hP hS hq74) v_X8_isWord vv_X8_isWord s_RX8_203 eX8_isKeyword_76 (fun _ _ h => WF_pick [0, 1] rfl rfl h) (rcv 0 rfl) rfl (nle rfl) (nle rfl) (nle rfl) (nle rfl) rfl ?_
        refine x_ifb_ne 118 C eX8_isKeyword_79 rfl (fun h79 => ?_) (fun h79 => ?_)
        · refine x_iconst C eX8_isKeyword_118 ?_
          refine x_goto (pc' := 123) C eX8_isKeyword_119 rfl ?_
          refine x_iret (narZ (by omega)).1 C F eX8_isKeyword_123 () ?_ trivial (fun cf c h => ?_) (nle rfl) (nle rfl)
          · try (exfalso; omega)
            all_goals
              by_cases hk9 : keyW Fb I = true
              · rw [bz_t hk9]
                all_goals (exfalso; simp [keyW, *] at hk9)
              · rw [bz_f hk9]
                all_goals (exfalso; apply hk9; simp [keyW, *])
          · exact WF_pick [0, 1] rfl rfl h
        · refine x_aload_n C eX8_isKeyword_82 rfl ?_
          obtain ⟨q83, b83, hr83, hq83⟩ := lit_RX8_223 hS
          refine x_ldcS C hr83 eX8_isKeyword_83 ?_
          refine yV1r [] [_, _] C (s_X8_isWord hK hFb hP hS hq83) v_X8_isWord vv_X8_isWord s_RX8_203 eX8_isKeyword_85 (fun _ _ h => WF_pick [0, 1] rfl rfl h) (rcv 0 rfl) rfl (nle rfl) (nle rfl) (nle rfl) (nle rfl) rfl ?_
          refine x_ifb_ne 118 C eX8_isKeyword_88 rfl (fun h88 => ?_) (fun h88 => ?_)
          · refine x_iconst C eX8_isKeyword_118 ?_
            refine x_goto (pc' := 123) C eX8_isKeyword_119 rfl ?_
            refine x_iret (narZ (by omega)).1 C F eX8_isKeyword_123 () ?_ trivial (fun cf c h => ?_) (nle rfl) (nle rfl)
            · try (exfalso; omega)
              all_goals
                by_cases hk9 : keyW Fb I = true
                · rw [bz_t hk9]
                  all_goals (exfalso; simp [keyW, *] at hk9)
                · rw [bz_f hk9]
                  all_goals (exfalso; apply hk9; simp [keyW, *])
            · exact WF_pick [0, 1] rfl rfl h
          · refine x_aload_n C eX8_isKeyword_91 rfl ?_
            obtain ⟨q92, b92, hr92, hq92⟩ := lit_RX8_225 hS
            refine x_ldcS C hr92 eX8_isKeyword_92 ?_
            refine yV1r [] [_, _] C (s_X8_isWord hK hFb hP hS hq92) v_X8_isWord vv_X8_isWord s_RX8_203 eX8_isKeyword_94 (fun _ _ h => WF_pick [0, 1] rfl rfl h) (rcv 0 rfl) rfl (nle rfl) (nle rfl) (nle rfl) (nle rfl) rfl ?_
            refine x_ifb_ne 118 C eX8_isKeyword_97 rfl (fun h97 => ?_) (fun h97 => ?_)
            · refine x_iconst C eX8_isKeyword_118 ?_
              refine x_goto (pc' := 123) C eX8_isKeyword_119 rfl ?_
              refine x_iret (narZ (by omega)).1 C F eX8_isKeyword_123 () ?_ trivial (fun cf c h => ?_) (nle rfl) (nle rfl)
              · try (exfalso; omega)
                all_goals
                  by_cases hk9 : keyW Fb I = true
                  · rw [bz_t hk9]
                    all_goals (exfalso; simp [keyW, *] at hk9)
                  · rw [bz_f hk9]
                    all_goals (exfalso; apply hk9; simp [keyW, *])
              · exact WF_pick [0, 1] rfl rfl h
            · refine x_aload_n C eX8_isKeyword_100 rfl ?_
              obtain ⟨q101, b101, hr101, hq101⟩ := lit_RX8_227 hS
              refine x_ldcS C hr101 eX8_isKeyword_101 ?_
              refine yV1r [] [_, _] C (s_X8_isWord hK hFb hP hS hq101) v_X8_isWord vv_X8_isWord s_RX8_203 eX8_isKeyword_103 (fun _ _ h => WF_pick [0, 1] rfl rfl h) (rcv 0 rfl) rfl (nle rfl) (nle rfl) (nle rfl) (nle rfl) rfl ?_
              refine x_ifb_ne 118 C eX8_isKeyword_106 rfl (fun h106 => ?_) (fun h106 => ?_)
              · refine x_iconst C eX8_isKeyword_118 ?_
                refine x_goto (pc' := 123) C eX8_isKeyword_119 rfl ?_
                refine x_iret (narZ (by omega)).1 C F eX8_isKeyword_123 () ?_ trivial (fun cf c h => ?_) (nle rfl) (nle rfl)
                · try (exfalso; omega)
                  all_goals
                    by_cases hk9 : keyW Fb I = true
                    · rw [bz_t hk9]
                      all_goals (exfalso; simp [keyW, *] at hk9)
                    · rw [bz_f hk9]
                      all_goals (exfalso; apply hk9; simp [keyW, *])
                · exact WF_pick [0, 1] rfl rfl h
              · refine x_aload_n C eX8_isKeyword_109 rfl ?_
                obtain ⟨q110, b110, hr110, hq110⟩ := lit_RX8_229 hS
                refine x_ldcS C hr110 eX8_isKeyword_110 ?_
                refine yV1r [] [_, _] C (s_X8_isWord hK hFb hP hS hq110) v_X8_isWord vv_X8_isWord s_RX8_203 eX8_isKeyword_112 (fun _ _ h => WF_pick [0, 1] rfl rfl h) (rcv 0 rfl) rfl (nle rfl) (nle rfl) (nle rfl) (nle rfl) rfl ?_
                refine x_ifb_eq 122 C eX8_isKeyword_115 rfl (fun h115 => ?_) (fun h115 => ?_)
                · refine x_iconst C eX8_isKeyword_122 ?_
                  refine x_iret (narZ (by omega)).1 C F eX8_isKeyword_123 () ?_ trivial (fun cf c h => ?_) (nle rfl) (nle rfl)
                  · try (exfalso; omega)
                    all_goals
                      by_cases hk9 : keyW Fb I = true
                      · rw [bz_t hk9]
                        all_goals (exfalso; simp [keyW, *] at hk9)
                      · rw [bz_f hk9]
                        all_goals (exfalso; apply hk9; simp [keyW, *])
                  · exact WF_pick [0, 1] rfl rfl h
                · refine x_iconst C eX8_isKeyword_118 ?_
                  refine x_goto (pc' := 123) C eX8_isKeyword_119 rfl ?_
                  refine x_iret (narZ (by omega)).1 C F eX8_isKeyword_123 () ?_ trivial (fun cf c h => ?_) (nle rfl) (nle rfl)
                  · try (exfalso; omega)
                    all_goals
                      by_cases hk9 : keyW Fb I = true
                      · rw [bz_t hk9]
                        all_goals (exfalso; simp [keyW, *] at hk9)
                      · rw [bz_f hk9]
                        all_goals (exfalso; apply hk9; simp [keyW, *])
                  · exact WF_pick [0, 1] rfl rfl h
  · refine x_aload_n C eX8_isKeyword_9 rfl ?_
    obtain ⟨q10, b10, hr10, hq10⟩ := lit_RX8_209 hS
    refine x_ldcS C hr10 eX8_isKeyword_10 ?_
    refine yV1r [] [_, _] C (s_X8_isWord hK hFb hP hS hq10) v_X8_isWord vv_X8_isWord s_RX8_203 eX8_isKeyword_12 (fun _ _ h => WF_pick [0, 1] rfl rfl h) (rcv 0 rfl) rfl (nle rfl) (nle rfl) (nle rfl) (nle rfl) rfl ?_
    refine x_ifb_ne 54 C eX8_isKeyword_15 rfl (fun h15 => ?_) (fun h15 => ?_)
    · refine x_iconst C eX8_isKeyword_54 ?_
      refine x_goto (pc' := 59) C eX8_isKeyword_55 rfl ?_
      refine x_istore_n [_, _] C eX8_isKeyword_59 rfl rfl (nlt rfl) ?_
      refine x_iload_n C eX8_isKeyword_60 rfl ?_
      refine x_if_ne 118 C eX8_isKeyword_61 rfl (by omega) (fun h61 => ?_) (fun h61 => ?_)
      · refine x_iconst C eX8_isKeyword_118 ?_
        refine x_goto (pc' := 123) C eX8_isKeyword_119 rfl ?_
        refine x_iret (narZ (by omega)).1 C F eX8_isKeyword_123 () ?_ trivial (fun cf c h => ?_) (nle rfl) (nle rfl)
        · try (exfalso; omega)
          all_goals
            by_cases hk9 : keyW Fb I = true
            · rw [bz_t hk9]
              all_goals (exfalso; simp [keyW, *] at hk9)
            · rw [bz_f hk9]
              all_goals (exfalso; apply hk9; simp [keyW, *])
        · exact WF_pick [0, 1] rfl rfl h
      · refine x_aload_n C eX8_isKeyword_64 rfl ?_
        obtain ⟨q65, b65, hr65, hq65⟩ := lit_RX8_219 hS
        refine x_ldcS C hr65 eX8_isKeyword_65 ?_
        refine yV1r [] [_, _] C (s_X8_isWord hK hFb hP hS hq65) v_X8_isWord vv_X8_isWord s_RX8_203 eX8_isKeyword_67 (fun _ _ h => WF_pick [0, 1] rfl rfl h) (rcv 0 rfl) rfl (nle rfl) (nle rfl) (nle rfl) (nle rfl) rfl ?_
        refine x_ifb_ne 118 C eX8_isKeyword_70 rfl (fun h70 => ?_) (fun h70 => ?_)
        · refine x_iconst C eX8_isKeyword_118 ?_
          refine x_goto (pc' := 123) C eX8_isKeyword_119 rfl ?_
          refine x_iret (narZ (by omega)).1 C F eX8_isKeyword_123 () ?_ trivial (fun cf c h => ?_) (nle rfl) (nle rfl)
          · try (exfalso; omega)
            all_goals
              by_cases hk9 : keyW Fb I = true
              · rw [bz_t hk9]
                all_goals (exfalso; simp [keyW, *] at hk9)
              · rw [bz_f hk9]
                all_goals (exfalso; apply hk9; simp [keyW, *])
          · exact WF_pick [0, 1] rfl rfl h
        · refine x_aload_n C eX8_isKeyword_73 rfl ?_
          obtain ⟨q74, b74, hr74, hq74⟩ := lit_RX8_221 hS
          refine x_ldcS C hr74 eX8_isKeyword_74 ?_
          refine yV1r [] [_, _] C (s_X8_isWord hK hFb hP hS hq74) v_X8_isWord vv_X8_isWord s_RX8_203 eX8_isKeyword_76 (fun _ _ h => WF_pick [0, 1] rfl rfl h) (rcv 0 rfl) rfl (nle rfl) (nle rfl) (nle rfl) (nle rfl) rfl ?_
          refine x_ifb_ne 118 C eX8_isKeyword_79 rfl (fun h79 => ?_) (fun h79 => ?_)
          · refine x_iconst C eX8_isKeyword_118 ?_
            refine x_goto (pc' := 123) C eX8_isKeyword_119 rfl ?_
            refine x_iret (narZ (by omega)).1 C F eX8_isKeyword_123 () ?_ trivial (fun cf c h => ?_) (nle rfl) (nle rfl)
            · try (exfalso; omega)
              all_goals
                by_cases hk9 : keyW Fb I = true
                · rw [bz_t hk9]
                  all_goals (exfalso; simp [keyW, *] at hk9)
                · rw [bz_f hk9]
                  all_goals (exfalso; apply hk9; simp [keyW, *])
            · exact WF_pick [0, 1] rfl rfl h
          · refine x_aload_n C eX8_isKeyword_82 rfl ?_
            obtain ⟨q83, b83, hr83, hq83⟩ := lit_RX8_223 hS
            refine x_ldcS C hr83 eX8_isKeyword_83 ?_
            refine yV1r [] [_, _] C (s_X8_isWord hK hFb hP hS hq83) v_X8_isWord vv_X8_isWord s_RX8_203 eX8_isKeyword_85 (fun _ _ h => WF_pick [0, 1] rfl rfl h) (rcv 0 rfl) rfl (nle rfl) (nle rfl) (nle rfl) (nle rfl) rfl ?_
            refine x_ifb_ne 118 C eX8_isKeyword_88 rfl (fun h88 => ?_) (fun h88 => ?_)
            · refine x_iconst C eX8_isKeyword_118 ?_
              refine x_goto (pc' := 123) C eX8_isKeyword_119 rfl ?_
              refine x_iret (narZ (by omega)).1 C F eX8_isKeyword_123 () ?_ trivial (fun cf c h => ?_) (nle rfl) (nle rfl)
              · try (exfalso; omega)
                all_goals
                  by_cases hk9 : keyW Fb I = true
                  · rw [bz_t hk9]
                    all_goals (exfalso; simp [keyW, *] at hk9)
                  · rw [bz_f hk9]
                    all_goals (exfalso; apply hk9; simp [keyW, *])
              · exact WF_pick [0, 1] rfl rfl h
            · refine x_aload_n C eX8_isKeyword_91 rfl ?_
              obtain ⟨q92, b92, hr92, hq92⟩ := lit_RX8_225 hS
              refine x_ldcS C hr92 eX8_isKeyword_92 ?_
              refine yV1r [] [_, _] C (s_X8_isWord hK hFb hP hS hq92) v_X8_isWord vv_X8_isWord s_RX8_203 eX8_isKeyword_94 (fun _ _ h => WF_pick [0, 1] rfl rfl h) (rcv 0 rfl) rfl (nle rfl) (nle rfl) (nle rfl) (nle rfl) rfl ?_
              refine x_ifb_ne 118 C eX8_isKeyword_97 rfl (fun h97 => ?_) (fun h97 => ?_)
              · refine x_iconst C eX8_isKeyword_118 ?_
                refine x_goto (pc' := 123) C eX8_isKeyword_119 rfl ?_
                refine x_iret (narZ (by omega)).1 C F eX8_isKeyword_123 () ?_ trivial (fun cf c h => ?_) (nle rfl) (nle rfl)
                · try (exfalso; omega)
                  all_goals
                    by_cases hk9 : keyW Fb I = true
                    · rw [bz_t hk9]
                      all_goals (exfalso; simp [keyW, *] at hk9)
                    · rw [bz_f hk9]
                      all_goals (exfalso; apply hk9; simp [keyW, *])
                · exact WF_pick [0, 1] rfl rfl h
              · refine x_aload_n C eX8_isKeyword_100 rfl ?_
                obtain ⟨q101, b101, hr101, hq101⟩ := lit_RX8_227 hS
                refine x_ldcS C hr101 eX8_isKeyword_101 ?_
                refine yV1r [] [_, _] C (s_X8_isWord hK hFb hP hS hq101) v_X8_isWord vv_X8_isWord s_RX8_203 eX8_isKeyword_103 (fun _ _ h => WF_pick [0, 1] rfl rfl h) (rcv 0 rfl) rfl (nle rfl) (nle rfl) (nle rfl) (nle rfl) rfl ?_
                refine x_ifb_ne 118 C eX8_isKeyword_106 rfl (fun h106 => ?_) (fun h106 => ?_)
                · refine x_iconst C eX8_isKeyword_118 ?_
                  refine x_goto (pc' := 123) C eX8_isKeyword_119 rfl ?_
                  refine x_iret (narZ (by omega)).1 C F eX8_isKeyword_123 () ?_ trivial (fun cf c h => ?_) (nle rfl) (nle rfl)
                  · try (exfalso; omega)
                    all_goals
                      by_cases hk9 : keyW Fb I = true
                      · rw [bz_t hk9]
                        all_goals (exfalso; simp [keyW, *] at hk9)
                      · rw [bz_f hk9]
                        all_goals (exfalso; apply hk9; simp [keyW, *])
                  · exact WF_pick [0, 1] rfl rfl h
                · refine x_aload_n C eX8_isKeyword_109 rfl ?_
                  obtain ⟨q110, b110, hr110, hq110⟩ := lit_RX8_229 hS
                  refine x_ldcS C hr110 eX8_isKeyword_110 ?_
                  refine yV1r [] [_, _] C (s_X8_isWord hK hFb hP hS hq110) v_X8_isWord vv_X8_isWord s_RX8_203 eX8_isKeyword_112 (fun _ _ h => WF_pick [0, 1] rfl rfl h) (rcv 0 rfl) rfl (nle rfl) (nle rfl) (nle rfl) (nle rfl) rfl ?_
                  refine x_ifb_eq 122 C eX8_isKeyword_115 rfl (fun h115 => ?_) (fun h115 => ?_)
                  · refine x_iconst C eX8_isKeyword_122 ?_
                    refine x_iret (narZ (by omega)).1 C F eX8_isKeyword_123 () ?_ trivial (fun cf c h => ?_) (nle rfl) (nle rfl)
                    · try (exfalso; omega)
                      all_goals
                        by_cases hk9 : keyW Fb I = true
                        · rw [bz_t hk9]
                          all_goals (exfalso; simp [keyW, *] at hk9)
                        · rw [bz_f hk9]
                          all_goals (exfalso; apply hk9; simp [keyW, *])
                    · exact WF_pick [0, 1] rfl rfl h
                  · refine x_iconst C eX8_isKeyword_118 ?_
                    refine x_goto (pc' := 123) C eX8_isKeyword_119 rfl ?_
                    refine x_iret (narZ (by omega)).1 C F eX8_isKeyword_123 () ?_ trivial (fun cf c h => ?_) (nle rfl) (nle rfl)
                    · try (exfalso; omega)
                      all_goals
                        by_cases hk9 : keyW Fb I = true
                        · rw [bz_t hk9]
                          all_goals (exfalso; simp [keyW, *] at hk9)
                        · rw [bz_f hk9]
                          all_goals (exfalso; apply hk9; simp [keyW, *])
                    · exact WF_pick [0, 1] rfl rfl h
    · refine x_aload_n C eX8_isKeyword_18 rfl ?_
      obtain ⟨q19, b19, hr19, hq19⟩ := lit_RX8_211 hS
      refine x_ldcS C hr19 eX8_isKeyword_19 ?_
      refine yV1r [] [_, _] C (s_X8_isWord hK hFb hP hS hq19) v_X8_isWord vv_X8_isWord s_RX8_203 eX8_isKeyword_21 (fun _ _ h => WF_pick [0, 1] rfl rfl h) (rcv 0 rfl) rfl (nle rfl) (nle rfl) (nle rfl) (nle rfl) rfl ?_
      refine x_ifb_ne 54 C eX8_isKeyword_24 rfl (fun h24 => ?_) (fun h24 => ?_)
      · refine x_iconst C eX8_isKeyword_54 ?_
        refine x_goto (pc' := 59) C eX8_isKeyword_55 rfl ?_
        refine x_istore_n [_, _] C eX8_isKeyword_59 rfl rfl (nlt rfl) ?_
        refine x_iload_n C eX8_isKeyword_60 rfl ?_
        refine x_if_ne 118 C eX8_isKeyword_61 rfl (by omega) (fun h61 => ?_) (fun h61 => ?_)
        · refine x_iconst C eX8_isKeyword_118 ?_
          refine x_goto (pc' := 123) C eX8_isKeyword_119 rfl ?_
          refine x_iret (narZ (by omega)).1 C F eX8_isKeyword_123 () ?_ trivial (fun cf c h => ?_) (nle rfl) (nle rfl)
          · try (exfalso; omega)
            all_goals
              by_cases hk9 : keyW Fb I = true
              · rw [bz_t hk9]
                all_goals (exfalso; simp [keyW, *] at hk9)
              · rw [bz_f hk9]
                all_goals (exfalso; apply hk9; simp [keyW, *])
          · exact WF_pick [0, 1] rfl rfl h
        · refine x_aload_n C eX8_isKeyword_64 rfl ?_
          obtain ⟨q65, b65, hr65, hq65⟩ := lit_RX8_219 hS
          refine x_ldcS C hr65 eX8_isKeyword_65 ?_
          refine yV1r [] [_, _] C (s_X8_isWord hK hFb hP hS hq65) v_X8_isWord vv_X8_isWord s_RX8_203 eX8_isKeyword_67 (fun _ _ h => WF_pick [0, 1] rfl rfl h) (rcv 0 rfl) rfl (nle rfl) (nle rfl) (nle rfl) (nle rfl) rfl ?_
          refine x_ifb_ne 118 C eX8_isKeyword_70 rfl (fun h70 => ?_) (fun h70 => ?_)
          · refine x_iconst C eX8_isKeyword_118 ?_
            refine x_goto (pc' := 123) C eX8_isKeyword_119 rfl ?_
            refine x_iret (narZ (by omega)).1 C F eX8_isKeyword_123 () ?_ trivial (fun cf c h => ?_) (nle rfl) (nle rfl)
            · try (exfalso; omega)
              all_goals
                by_cases hk9 : keyW Fb I = true
                · rw [bz_t hk9]
                  all_goals (exfalso; simp [keyW, *] at hk9)
                · rw [bz_f hk9]
                  all_goals (exfalso; apply hk9; simp [keyW, *])
            · exact WF_pick [0, 1] rfl rfl h
          · refine x_aload_n C eX8_isKeyword_73 rfl ?_
            obtain ⟨q74, b74, hr74, hq74⟩ := lit_RX8_221 hS
            refine x_ldcS C hr74 eX8_isKeyword_74 ?_
            refine yV1r [] [_, _] C (s_X8_isWord hK hFb hP hS hq74) v_X8_isWord vv_X8_isWord s_RX8_203 eX8_isKeyword_76 (fun _ _ h => WF_pick [0, 1] rfl rfl h) (rcv 0 rfl) rfl (nle rfl) (nle rfl) (nle rfl) (nle rfl) rfl ?_
            refine x_ifb_ne 118 C eX8_isKeyword_79 rfl (fun h79 => ?_) (fun h79 => ?_)
            · refine x_iconst C eX8_isKeyword_118 ?_
              refine x_goto (pc' := 123) C eX8_isKeyword_119 rfl ?_
              refine x_iret (narZ (by omega)).1 C F eX8_isKeyword_123 () ?_ trivial (fun cf c h => ?_) (nle rfl) (nle rfl)
              · try (exfalso; omega)
                all_goals
                  by_cases hk9 : keyW Fb I = true
                  · rw [bz_t hk9]
                    all_goals (exfalso; simp [keyW, *] at hk9)
                  · rw [bz_f hk9]
                    all_goals (exfalso; apply hk9; simp [keyW, *])
              · exact WF_pick [0, 1] rfl rfl h
            · refine x_aload_n C eX8_isKeyword_82 rfl ?_
              obtain ⟨q83, b83, hr83, hq83⟩ := lit_RX8_223 hS
              refine x_ldcS C hr83 eX8_isKeyword_83 ?_
              refine yV1r [] [_, _] C (s_X8_isWord hK hFb hP hS hq83) v_X8_isWord vv_X8_isWord s_RX8_203 eX8_isKeyword_85 (fun _ _ h => WF_pick [0, 1] rfl rfl h) (rcv 0 rfl) rfl (nle rfl) (nle rfl) (nle rfl) (nle rfl) rfl ?_
              refine x_ifb_ne 118 C eX8_isKeyword_88 rfl (fun h88 => ?_) (fun h88 => ?_)
              · refine x_iconst C eX8_isKeyword_118 ?_
                refine x_goto (pc' := 123) C eX8_isKeyword_119 rfl ?_
                refine x_iret (narZ (by omega)).1 C F eX8_isKeyword_123 () ?_ trivial (fun cf c h => ?_) (nle rfl) (nle rfl)
                · try (exfalso; omega)
                  all_goals
                    by_cases hk9 : keyW Fb I = true
                    · rw [bz_t hk9]
                      all_goals (exfalso; simp [keyW, *] at hk9)
                    · rw [bz_f hk9]
                      all_goals (exfalso; apply hk9; simp [keyW, *])
                · exact WF_pick [0, 1] rfl rfl h
              · refine x_aload_n C eX8_isKeyword_91 rfl ?_
                obtain ⟨q92, b92, hr92, hq92⟩ := lit_RX8_225 hS
                refine x_ldcS C hr92 eX8_isKeyword_92 ?_
                refine yV1r [] [_, _] C (s_X8_isWord hK hFb hP hS hq92) v_X8_isWord vv_X8_isWord s_RX8_203 eX8_isKeyword_94 (fun _ _ h => WF_pick [0, 1] rfl rfl h) (rcv 0 rfl) rfl (nle rfl) (nle rfl) (nle rfl) (nle rfl) rfl ?_
                refine x_ifb_ne 118 C eX8_isKeyword_97 rfl (fun h97 => ?_) (fun h97 => ?_)
                · refine x_iconst C eX8_isKeyword_118 ?_
                  refine x_goto (pc' := 123) C eX8_isKeyword_119 rfl ?_
                  refine x_iret (narZ (by omega)).1 C F eX8_isKeyword_123 () ?_ trivial (fun cf c h => ?_) (nle rfl) (nle rfl)
                  · try (exfalso; omega)
                    all_goals
                      by_cases hk9 : keyW Fb I = true
                      · rw [bz_t hk9]
                        all_goals (exfalso; simp [keyW, *] at hk9)
                      · rw [bz_f hk9]
                        all_goals (exfalso; apply hk9; simp [keyW, *])
                  · exact WF_pick [0, 1] rfl rfl h
                · refine x_aload_n C eX8_isKeyword_100 rfl ?_
                  obtain ⟨q101, b101, hr101, hq101⟩ := lit_RX8_227 hS
                  refine x_ldcS C hr101 eX8_isKeyword_101 ?_
                  refine yV1r [] [_, _] C (s_X8_isWord hK hFb hP hS hq101) v_X8_isWord vv_X8_isWord s_RX8_203 eX8_isKeyword_103 (fun _ _ h => WF_pick [0, 1] rfl rfl h) (rcv 0 rfl) rfl (nle rfl) (nle rfl) (nle rfl) (nle rfl) rfl ?_
                  refine x_ifb_ne 118 C eX8_isKeyword_106 rfl (fun h106 => ?_) (fun h106 => ?_)
                  · refine x_iconst C eX8_isKeyword_118 ?_
                    refine x_goto (pc' := 123) C eX8_isKeyword_119 rfl ?_
                    refine x_iret (narZ (by omega)).1 C F eX8_isKeyword_123 () ?_ trivial (fun cf c h => ?_) (nle rfl) (nle rfl)
                    · try (exfalso; omega)
                      all_goals
                        by_cases hk9 : keyW Fb I = true
                        · rw [bz_t hk9]
                          all_goals (exfalso; simp [keyW, *] at hk9)
                        · rw [bz_f hk9]
                          all_goals (exfalso; apply hk9; simp [keyW, *])
                    · exact WF_pick [0, 1] rfl rfl h
                  · refine x_aload_n C eX8_isKeyword_109 rfl ?_
                    obtain ⟨q110, b110, hr110, hq110⟩ := lit_RX8_229 hS
                    refine x_ldcS C hr110 eX8_isKeyword_110 ?_
                    refine yV1r [] [_, _] C (s_X8_isWord hK hFb hP hS hq110) v_X8_isWord vv_X8_isWord s_RX8_203 eX8_isKeyword_112 (fun _ _ h => WF_pick [0, 1] rfl rfl h) (rcv 0 rfl) rfl (nle rfl) (nle rfl) (nle rfl) (nle rfl) rfl ?_
                    refine x_ifb_eq 122 C eX8_isKeyword_115 rfl (fun h115 => ?_) (fun h115 => ?_)
                    · refine x_iconst C eX8_isKeyword_122 ?_
                      refine x_iret (narZ (by omega)).1 C F eX8_isKeyword_123 () ?_ trivial (fun cf c h => ?_) (nle rfl) (nle rfl)
                      · try (exfalso; omega)
                        all_goals
                          by_cases hk9 : keyW Fb I = true
                          · rw [bz_t hk9]
                            all_goals (exfalso; simp [keyW, *] at hk9)
                          · rw [bz_f hk9]
                            all_goals (exfalso; apply hk9; simp [keyW, *])
                      · exact WF_pick [0, 1] rfl rfl h
                    · refine x_iconst C eX8_isKeyword_118 ?_
                      refine x_goto (pc' := 123) C eX8_isKeyword_119 rfl ?_
                      refine x_iret (narZ (by omega)).1 C F eX8_isKeyword_123 () ?_ trivial (fun cf c h => ?_) (nle rfl) (nle rfl)
                      · try (exfalso; omega)
                        all_goals
                          by_cases hk9 : keyW Fb I = true
                          · rw [bz_t hk9]
                            all_goals (exfalso; simp [keyW, *] at hk9)
                          · rw [bz_f hk9]
                            all_goals (exfalso; apply hk9; simp [keyW, *])
                      · exact WF_pick [0, 1] rfl rfl h
      · refine x_aload_n C eX8_isKeyword_27 rfl ?_
        obtain ⟨q28, b28, hr28, hq28⟩ := lit_RX8_213 hS
        refine x_ldcS C hr28 eX8_isKeyword_28 ?_
        refine yV1r [] [_, _] C (s_X8_isWord hK hFb hP hS hq28) v_X8_isWord vv_X8_isWord s_RX8_203 eX8_isKeyword_30 (fun _ _ h => WF_pick [0, 1] rfl rfl h) (rcv 0 rfl) rfl (nle rfl) (nle rfl) (nle rfl) (nle rfl) rfl ?_
        refine x_ifb_ne 54 C eX8_isKeyword_33 rfl (fun h33 => ?_) (fun h33 => ?_)
        · refine x_iconst C eX8_isKeyword_54 ?_
          refine x_goto (pc' := 59) C eX8_isKeyword_55 rfl ?_
          refine x_istore_n [_, _] C eX8_isKeyword_59 rfl rfl (nlt rfl) ?_
          refine x_iload_n C eX8_isKeyword_60 rfl ?_
          refine x_if_ne 118 C eX8_isKeyword_61 rfl (by omega) (fun h61 => ?_) (fun h61 => ?_)
          · refine x_iconst C eX8_isKeyword_118 ?_
            refine x_goto (pc' := 123) C eX8_isKeyword_119 rfl ?_
            refine x_iret (narZ (by omega)).1 C F eX8_isKeyword_123 () ?_ trivial (fun cf c h => ?_) (nle rfl) (nle rfl)
            · try (exfalso; omega)
              all_goals
                by_cases hk9 : keyW Fb I = true
                · rw [bz_t hk9]
                  all_goals (exfalso; simp [keyW, *] at hk9)
                · rw [bz_f hk9]
                  all_goals (exfalso; apply hk9; simp [keyW, *])
            · exact WF_pick [0, 1] rfl rfl h
          · refine x_aload_n C eX8_isKeyword_64 rfl ?_
            obtain ⟨q65, b65, hr65, hq65⟩ := lit_RX8_219 hS
            refine x_ldcS C hr65 eX8_isKeyword_65 ?_
            refine yV1r [] [_, _] C (s_X8_isWord hK hFb hP hS hq65) v_X8_isWord vv_X8_isWord s_RX8_203 eX8_isKeyword_67 (fun _ _ h => WF_pick [0, 1] rfl rfl h) (rcv 0 rfl) rfl (nle rfl) (nle rfl) (nle rfl) (nle rfl) rfl ?_
            refine x_ifb_ne 118 C eX8_isKeyword_70 rfl (fun h70 => ?_) (fun h70 => ?_)
            · refine x_iconst C eX8_isKeyword_118 ?_
              refine x_goto (pc' := 123) C eX8_isKeyword_119 rfl ?_
              refine x_iret (narZ (by omega)).1 C F eX8_isKeyword_123 () ?_ trivial (fun cf c h => ?_) (nle rfl) (nle rfl)
              · try (exfalso; omega)
                all_goals
                  by_cases hk9 : keyW Fb I = true
                  · rw [bz_t hk9]
                    all_goals (exfalso; simp [keyW, *] at hk9)
                  · rw [bz_f hk9]
                    all_goals (exfalso; apply hk9; simp [keyW, *])
              · exact WF_pick [0, 1] rfl rfl h
            · refine x_aload_n C eX8_isKeyword_73 rfl ?_
              obtain ⟨q74, b74, hr74, hq74⟩ := lit_RX8_221 hS
              refine x_ldcS C hr74 eX8_isKeyword_74 ?_
              refine yV1r [] [_, _] C (s_X8_isWord hK hFb hP hS hq74) v_X8_isWord vv_X8_isWord s_RX8_203 eX8_isKeyword_76 (fun _ _ h => WF_pick [0, 1] rfl rfl h) (rcv 0 rfl) rfl (nle rfl) (nle rfl) (nle rfl) (nle rfl) rfl ?_
              refine x_ifb_ne 118 C eX8_isKeyword_79 rfl (fun h79 => ?_) (fun h79 => ?_)
              · refine x_iconst C eX8_isKeyword_118 ?_
                refine x_goto (pc' := 123) C eX8_isKeyword_119 rfl ?_
                refine x_iret (narZ (by omega)).1 C F eX8_isKeyword_123 () ?_ trivial (fun cf c h => ?_) (nle rfl) (nle rfl)
                · try (exfalso; omega)
                  all_goals
                    by_cases hk9 : keyW Fb I = true
                    · rw [bz_t hk9]
                      all_goals (exfalso; simp [keyW, *] at hk9)
                    · rw [bz_f hk9]
                      all_goals (exfalso; apply hk9; simp [keyW, *])
                · exact WF_pick [0, 1] rfl rfl h
              · refine x_aload_n C eX8_isKeyword_82 rfl ?_
                obtain ⟨q83, b83, hr83, hq83⟩ := lit_RX8_223 hS
                refine x_ldcS C hr83 eX8_isKeyword_83 ?_
                refine yV1r [] [_, _] C (s_X8_isWord hK hFb hP hS hq83) v_X8_isWord vv_X8_isWord s_RX8_203 eX8_isKeyword_85 (fun _ _ h => WF_pick [0, 1] rfl rfl h) (rcv 0 rfl) rfl (nle rfl) (nle rfl) (nle rfl) (nle rfl) rfl ?_
                refine x_ifb_ne 118 C eX8_isKeyword_88 rfl (fun h88 => ?_) (fun h88 => ?_)
                · refine x_iconst C eX8_isKeyword_118 ?_
                  refine x_goto (pc' := 123) C eX8_isKeyword_119 rfl ?_
                  refine x_iret (narZ (by omega)).1 C F eX8_isKeyword_123 () ?_ trivial (fun cf c h => ?_) (nle rfl) (nle rfl)
                  · try (exfalso; omega)
                    all_goals
                      by_cases hk9 : keyW Fb I = true
                      · rw [bz_t hk9]
                        all_goals (exfalso; simp [keyW, *] at hk9)
                      · rw [bz_f hk9]
                        all_goals (exfalso; apply hk9; simp [keyW, *])
                  · exact WF_pick [0, 1] rfl rfl h
                · refine x_aload_n C eX8_isKeyword_91 rfl ?_
                  obtain ⟨q92, b92, hr92, hq92⟩ := lit_RX8_225 hS
                  refine x_ldcS C hr92 eX8_isKeyword_92 ?_
                  refine yV1r [] [_, _] C (s_X8_isWord hK hFb hP hS hq92) v_X8_isWord vv_X8_isWord s_RX8_203 eX8_isKeyword_94 (fun _ _ h => WF_pick [0, 1] rfl rfl h) (rcv 0 rfl) rfl (nle rfl) (nle rfl) (nle rfl) (nle rfl) rfl ?_
                  refine x_ifb_ne 118 C eX8_isKeyword_97 rfl (fun h97 => ?_) (fun h97 => ?_)
                  · refine x_iconst C eX8_isKeyword_118 ?_
                    refine x_goto (pc' := 123) C eX8_isKeyword_119 rfl ?_
                    refine x_iret (narZ (by omega)).1 C F eX8_isKeyword_123 () ?_ trivial (fun cf c h => ?_) (nle rfl) (nle rfl)
                    · try (exfalso; omega)
                      all_goals
                        by_cases hk9 : keyW Fb I = true
                        · rw [bz_t hk9]
                          all_goals (exfalso; simp [keyW, *] at hk9)
                        · rw [bz_f hk9]
                          all_goals (exfalso; apply hk9; simp [keyW, *])
                    · exact WF_pick [0, 1] rfl rfl h
                  · refine x_aload_n C eX8_isKeyword_100 rfl ?_
                    obtain ⟨q101, b101, hr101, hq101⟩ := lit_RX8_227 hS
                    refine x_ldcS C hr101 eX8_isKeyword_101 ?_
                    refine yV1r [] [_, _] C (s_X8_isWord hK hFb hP hS hq101) v_X8_isWord vv_X8_isWord s_RX8_203 eX8_isKeyword_103 (fun _ _ h => WF_pick [0, 1] rfl rfl h) (rcv 0 rfl) rfl (nle rfl) (nle rfl) (nle rfl) (nle rfl) rfl ?_
                    refine x_ifb_ne 118 C eX8_isKeyword_106 rfl (fun h106 => ?_) (fun h106 => ?_)
                    · refine x_iconst C eX8_isKeyword_118 ?_
                      refine x_goto (pc' := 123) C eX8_isKeyword_119 rfl ?_
                      refine x_iret (narZ (by omega)).1 C F eX8_isKeyword_123 () ?_ trivial (fun cf c h => ?_) (nle rfl) (nle rfl)
                      · try (exfalso; omega)
                        all_goals
                          by_cases hk9 : keyW Fb I = true
                          · rw [bz_t hk9]
                            all_goals (exfalso; simp [keyW, *] at hk9)
                          · rw [bz_f hk9]
                            all_goals (exfalso; apply hk9; simp [keyW, *])
                      · exact WF_pick [0, 1] rfl rfl h
                    · refine x_aload_n C eX8_isKeyword_109 rfl ?_
                      obtain ⟨q110, b110, hr110, hq110⟩ := lit_RX8_229 hS
                      refine x_ldcS C hr110 eX8_isKeyword_110 ?_
                      refine yV1r [] [_, _] C (s_X8_isWord hK hFb hP hS hq110) v_X8_isWord vv_X8_isWord s_RX8_203 eX8_isKeyword_112 (fun _ _ h => WF_pick [0, 1] rfl rfl h) (rcv 0 rfl) rfl (nle rfl) (nle rfl) (nle rfl) (nle rfl) rfl ?_
                      refine x_ifb_eq 122 C eX8_isKeyword_115 rfl (fun h115 => ?_) (fun h115 => ?_)
                      · refine x_iconst C eX8_isKeyword_122 ?_
                        refine x_iret (narZ (by omega)).1 C F eX8_isKeyword_123 () ?_ trivial (fun cf c h => ?_) (nle rfl) (nle rfl)
                        · try (exfalso; omega)
                          all_goals
                            by_cases hk9 : keyW Fb I = true
                            · rw [bz_t hk9]
                              all_goals (exfalso; simp [keyW, *] at hk9)
                            · rw [bz_f hk9]
                              all_goals (exfalso; apply hk9; simp [keyW, *])
                        · exact WF_pick [0, 1] rfl rfl h
                      · refine x_iconst C eX8_isKeyword_118 ?_
                        refine x_goto (pc' := 123) C eX8_isKeyword_119 rfl ?_
                        refine x_iret (narZ (by omega)).1 C F eX8_isKeyword_123 () ?_ trivial (fun cf c h => ?_) (nle rfl) (nle rfl)
                        · try (exfalso; omega)
                          all_goals
                            by_cases hk9 : keyW Fb I = true
                            · rw [bz_t hk9]
                              all_goals (exfalso; simp [keyW, *] at hk9)
                            · rw [bz_f hk9]
                              all_goals (exfalso; apply hk9; simp [keyW, *])
                        · exact WF_pick [0, 1] rfl rfl h
        · refine x_aload_n C eX8_isKeyword_36 rfl ?_
          obtain ⟨q37, b37, hr37, hq37⟩ := lit_RX8_215 hS
          refine x_ldcS C hr37 eX8_isKeyword_37 ?_
          refine yV1r [] [_, _] C (s_X8_isWord hK hFb hP hS hq37) v_X8_isWord vv_X8_isWord s_RX8_203 eX8_isKeyword_39 (fun _ _ h => WF_pick [0, 1] rfl rfl h) (rcv 0 rfl) rfl (nle rfl) (nle rfl) (nle rfl) (nle rfl) rfl ?_
          refine x_ifb_ne 54 C eX8_isKeyword_42 rfl (fun h42 => ?_) (fun h42 => ?_)
          · refine x_iconst C eX8_isKeyword_54 ?_
            refine x_goto (pc' := 59) C eX8_isKeyword_55 rfl ?_
            refine x_istore_n [_, _] C eX8_isKeyword_59 rfl rfl (nlt rfl) ?_
            refine x_iload_n C eX8_isKeyword_60 rfl ?_
            refine x_if_ne 118 C eX8_isKeyword_61 rfl (by omega) (fun h61 => ?_) (fun h61 => ?_)
            · refine x_iconst C eX8_isKeyword_118 ?_
              refine x_goto (pc' := 123) C eX8_isKeyword_119 rfl ?_
              refine x_iret (narZ (by omega)).1 C F eX8_isKeyword_123 () ?_ trivial (fun cf c h => ?_) (nle rfl) (nle rfl)
              · try (exfalso; omega)
                all_goals
                  by_cases hk9 : keyW Fb I = true
                  · rw [bz_t hk9]
                    all_goals (exfalso; simp [keyW, *] at hk9)
                  · rw [bz_f hk9]
                    all_goals (exfalso; apply hk9; simp [keyW, *])
              · exact WF_pick [0, 1] rfl rfl h
            · refine x_aload_n C eX8_isKeyword_64 rfl ?_
              obtain ⟨q65, b65, hr65, hq65⟩ := lit_RX8_219 hS
              refine x_ldcS C hr65 eX8_isKeyword_65 ?_
              refine yV1r [] [_, _] C (s_X8_isWord hK hFb hP hS hq65) v_X8_isWord vv_X8_isWord s_RX8_203 eX8_isKeyword_67 (fun _ _ h => WF_pick [0, 1] rfl rfl h) (rcv 0 rfl) rfl (nle rfl) (nle rfl) (nle rfl) (nle rfl) rfl ?_
              refine x_ifb_ne 118 C eX8_isKeyword_70 rfl (fun h70 => ?_) (fun h70 => ?_)
              · refine x_iconst C eX8_isKeyword_118 ?_
                refine x_goto (pc' := 123) C eX8_isKeyword_119 rfl ?_
                refine x_iret (narZ (by omega)).1 C F eX8_isKeyword_123 () ?_ trivial (fun cf c h => ?_) (nle rfl) (nle rfl)
                · try (exfalso; omega)
                  all_goals
                    by_cases hk9 : keyW Fb I = true
                    · rw [bz_t hk9]
                      all_goals (exfalso; simp [keyW, *] at hk9)
                    · rw [bz_f hk9]
                      all_goals (exfalso; apply hk9; simp [keyW, *])
                · exact WF_pick [0, 1] rfl rfl h
              · refine x_aload_n C eX8_isKeyword_73 rfl ?_
                obtain ⟨q74, b74, hr74, hq74⟩ := lit_RX8_221 hS
                refine x_ldcS C hr74 eX8_isKeyword_74 ?_
                refine yV1r [] [_, _] C (s_X8_isWord hK hFb hP hS hq74) v_X8_isWord vv_X8_isWord s_RX8_203 eX8_isKeyword_76 (fun _ _ h => WF_pick [0, 1] rfl rfl h) (rcv 0 rfl) rfl (nle rfl) (nle rfl) (nle rfl) (nle rfl) rfl ?_
                refine x_ifb_ne 118 C eX8_isKeyword_79 rfl (fun h79 => ?_) (fun h79 => ?_)
                · refine x_iconst C eX8_isKeyword_118 ?_
                  refine x_goto (pc' := 123) C eX8_isKeyword_119 rfl ?_
                  refine x_iret (narZ (by omega)).1 C F eX8_isKeyword_123 () ?_ trivial (fun cf c h => ?_) (nle rfl) (nle rfl)
                  · try (exfalso; omega)
                    all_goals
                      by_cases hk9 : keyW Fb I = true
                      · rw [bz_t hk9]
                        all_goals (exfalso; simp [keyW, *] at hk9)
                      · rw [bz_f hk9]
                        all_goals (exfalso; apply hk9; simp [keyW, *])
                  · exact WF_pick [0, 1] rfl rfl h
                · refine x_aload_n C eX8_isKeyword_82 rfl ?_
                  obtain ⟨q83, b83, hr83, hq83⟩ := lit_RX8_223 hS
                  refine x_ldcS C hr83 eX8_isKeyword_83 ?_
                  refine yV1r [] [_, _] C (s_X8_isWord hK hFb hP hS hq83) v_X8_isWord vv_X8_isWord s_RX8_203 eX8_isKeyword_85 (fun _ _ h => WF_pick [0, 1] rfl rfl h) (rcv 0 rfl) rfl (nle rfl) (nle rfl) (nle rfl) (nle rfl) rfl ?_
                  refine x_ifb_ne 118 C eX8_isKeyword_88 rfl (fun h88 => ?_) (fun h88 => ?_)
                  · refine x_iconst C eX8_isKeyword_118 ?_
                    refine x_goto (pc' := 123) C eX8_isKeyword_119 rfl ?_
                    refine x_iret (narZ (by omega)).1 C F eX8_isKeyword_123 () ?_ trivial (fun cf c h => ?_) (nle rfl) (nle rfl)
                    · try (exfalso; omega)
                      all_goals
                        by_cases hk9 : keyW Fb I = true
                        · rw [bz_t hk9]
                          all_goals (exfalso; simp [keyW, *] at hk9)
                        · rw [bz_f hk9]
                          all_goals (exfalso; apply hk9; simp [keyW, *])
                    · exact WF_pick [0, 1] rfl rfl h
                  · refine x_aload_n C eX8_isKeyword_91 rfl ?_
                    obtain ⟨q92, b92, hr92, hq92⟩ := lit_RX8_225 hS
                    refine x_ldcS C hr92 eX8_isKeyword_92 ?_
                    refine yV1r [] [_, _] C (s_X8_isWord hK hFb hP hS hq92) v_X8_isWord vv_X8_isWord s_RX8_203 eX8_isKeyword_94 (fun _ _ h => WF_pick [0, 1] rfl rfl h) (rcv 0 rfl) rfl (nle rfl) (nle rfl) (nle rfl) (nle rfl) rfl ?_
                    refine x_ifb_ne 118 C eX8_isKeyword_97 rfl (fun h97 => ?_) (fun h97 => ?_)
                    · refine x_iconst C eX8_isKeyword_118 ?_
                      refine x_goto (pc' := 123) C eX8_isKeyword_119 rfl ?_
                      refine x_iret (narZ (by omega)).1 C F eX8_isKeyword_123 () ?_ trivial (fun cf c h => ?_) (nle rfl) (nle rfl)
                      · try (exfalso; omega)
                        all_goals
                          by_cases hk9 : keyW Fb I = true
                          · rw [bz_t hk9]
                            all_goals (exfalso; simp [keyW, *] at hk9)
                          · rw [bz_f hk9]
                            all_goals (exfalso; apply hk9; simp [keyW, *])
                      · exact WF_pick [0, 1] rfl rfl h
                    · refine x_aload_n C eX8_isKeyword_100 rfl ?_
                      obtain ⟨q101, b101, hr101, hq101⟩ := lit_RX8_227 hS
                      refine x_ldcS C hr101 eX8_isKeyword_101 ?_
                      refine yV1r [] [_, _] C (s_X8_isWord hK hFb hP hS hq101) v_X8_isWord vv_X8_isWord s_RX8_203 eX8_isKeyword_103 (fun _ _ h => WF_pick [0, 1] rfl rfl h) (rcv 0 rfl) rfl (nle rfl) (nle rfl) (nle rfl) (nle rfl) rfl ?_
                      refine x_ifb_ne 118 C eX8_isKeyword_106 rfl (fun h106 => ?_) (fun h106 => ?_)
                      · refine x_iconst C eX8_isKeyword_118 ?_
                        refine x_goto (pc' := 123) C eX8_isKeyword_119 rfl ?_
                        refine x_iret (narZ (by omega)).1 C F eX8_isKeyword_123 () ?_ trivial (fun cf c h => ?_) (nle rfl) (nle rfl)
                        · try (exfalso; omega)
                          all_goals
                            by_cases hk9 : keyW Fb I = true
                            · rw [bz_t hk9]
                              all_goals (exfalso; simp [keyW, *] at hk9)
                            · rw [bz_f hk9]
                              all_goals (exfalso; apply hk9; simp [keyW, *])
                        · exact WF_pick [0, 1] rfl rfl h
                      · refine x_aload_n C eX8_isKeyword_109 rfl ?_
                        obtain ⟨q110, b110, hr110, hq110⟩ := lit_RX8_229 hS
                        refine x_ldcS C hr110 eX8_isKeyword_110 ?_
                        refine yV1r [] [_, _] C (s_X8_isWord hK hFb hP hS hq110) v_X8_isWord vv_X8_isWord s_RX8_203 eX8_isKeyword_112 (fun _ _ h => WF_pick [0, 1] rfl rfl h) (rcv 0 rfl) rfl (nle rfl) (nle rfl) (nle rfl) (nle rfl) rfl ?_
                        refine x_ifb_eq 122 C eX8_isKeyword_115 rfl (fun h115 => ?_) (fun h115 => ?_)
                        · refine x_iconst C eX8_isKeyword_122 ?_
                          refine x_iret (narZ (by omega)).1 C F eX8_isKeyword_123 () ?_ trivial (fun cf c h => ?_) (nle rfl) (nle rfl)
                          · try (exfalso; omega)
                            all_goals
                              by_cases hk9 : keyW Fb I = true
                              · rw [bz_t hk9]
                                all_goals (exfalso; simp [keyW, *] at hk9)
                              · rw [bz_f hk9]
                                all_goals (exfalso; apply hk9; simp [keyW, *])
                          · exact WF_pick [0, 1] rfl rfl h
                        · refine x_iconst C eX8_isKeyword_118 ?_
                          refine x_goto (pc' := 123) C eX8_isKeyword_119 rfl ?_
                          refine x_iret (narZ (by omega)).1 C F eX8_isKeyword_123 () ?_ trivial (fun cf c h => ?_) (nle rfl) (nle rfl)
                          · try (exfalso; omega)
                            all_goals
                              by_cases hk9 : keyW Fb I = true
                              · rw [bz_t hk9]
                                all_goals (exfalso; simp [keyW, *] at hk9)
                              · rw [bz_f hk9]
                                all_goals (exfalso; apply hk9; simp [keyW, *])
                          · exact WF_pick [0, 1] rfl rfl h
          · refine x_aload_n C eX8_isKeyword_45 rfl ?_
            obtain ⟨q46, b46, hr46, hq46⟩ := lit_RX8_217 hS
            refine x_ldcS C hr46 eX8_isKeyword_46 ?_
            refine yV1r [] [_, _] C (s_X8_isWord hK hFb hP hS hq46) v_X8_isWord vv_X8_isWord s_RX8_203 eX8_isKeyword_48 (fun _ _ h => WF_pick [0, 1] rfl rfl h) (rcv 0 rfl) rfl (nle rfl) (nle rfl) (nle rfl) (nle rfl) rfl ?_
            refine x_ifb_eq 58 C eX8_isKeyword_51 rfl (fun h51 => ?_) (fun h51 => ?_)
            · refine x_iconst C eX8_isKeyword_58 ?_
              refine x_istore_n [_, _] C eX8_isKeyword_59 rfl rfl (nlt rfl) ?_
              refine x_iload_n C eX8_isKeyword_60 rfl ?_
              refine x_if_ne 118 C eX8_isKeyword_61 rfl (by omega) (fun h61 => ?_) (fun h61 => ?_)
              · refine x_iconst C eX8_isKeyword_118 ?_
                refine x_goto (pc' := 123) C eX8_isKeyword_119 rfl ?_
                refine x_iret (narZ (by omega)).1 C F eX8_isKeyword_123 () ?_ trivial (fun cf c h => ?_) (nle rfl) (nle rfl)
                · try (exfalso; omega)
                  all_goals
                    by_cases hk9 : keyW Fb I = true
                    · rw [bz_t hk9]
                      all_goals (exfalso; simp [keyW, *] at hk9)
                    · rw [bz_f hk9]
                      all_goals (exfalso; apply hk9; simp [keyW, *])
                · exact WF_pick [0, 1] rfl rfl h
              · refine x_aload_n C eX8_isKeyword_64 rfl ?_
                obtain ⟨q65, b65, hr65, hq65⟩ := lit_RX8_219 hS
                refine x_ldcS C hr65 eX8_isKeyword_65 ?_
                refine yV1r [] [_, _] C (s_X8_isWord hK hFb hP hS hq65) v_X8_isWord vv_X8_isWord s_RX8_203 eX8_isKeyword_67 (fun _ _ h => WF_pick [0, 1] rfl rfl h) (rcv 0 rfl) rfl (nle rfl) (nle rfl) (nle rfl) (nle rfl) rfl ?_
                refine x_ifb_ne 118 C eX8_isKeyword_70 rfl (fun h70 => ?_) (fun h70 => ?_)
                · refine x_iconst C eX8_isKeyword_118 ?_
                  refine x_goto (pc' := 123) C eX8_isKeyword_119 rfl ?_
                  refine x_iret (narZ (by omega)).1 C F eX8_isKeyword_123 () ?_ trivial (fun cf c h => ?_) (nle rfl) (nle rfl)
                  · try (exfalso; omega)
                    all_goals
                      by_cases hk9 : keyW Fb I = true
                      · rw [bz_t hk9]
                        all_goals (exfalso; simp [keyW, *] at hk9)
                      · rw [bz_f hk9]
                        all_goals (exfalso; apply hk9; simp [keyW, *])
                  · exact WF_pick [0, 1] rfl rfl h
                · refine x_aload_n C eX8_isKeyword_73 rfl ?_
                  obtain ⟨q74, b74, hr74, hq74⟩ := lit_RX8_221 hS
                  refine x_ldcS C hr74 eX8_isKeyword_74 ?_
                  refine yV1r [] [_, _] C (s_X8_isWord hK hFb hP hS hq74) v_X8_isWord vv_X8_isWord s_RX8_203 eX8_isKeyword_76 (fun _ _ h => WF_pick [0, 1] rfl rfl h) (rcv 0 rfl) rfl (nle rfl) (nle rfl) (nle rfl) (nle rfl) rfl ?_
                  refine x_ifb_ne 118 C eX8_isKeyword_79 rfl (fun h79 => ?_) (fun h79 => ?_)
                  · refine x_iconst C eX8_isKeyword_118 ?_
                    refine x_goto (pc' := 123) C eX8_isKeyword_119 rfl ?_
                    refine x_iret (narZ (by omega)).1 C F eX8_isKeyword_123 () ?_ trivial (fun cf c h => ?_) (nle rfl) (nle rfl)
                    · try (exfalso; omega)
                      all_goals
                        by_cases hk9 : keyW Fb I = true
                        · rw [bz_t hk9]
                          all_goals (exfalso; simp [keyW, *] at hk9)
                        · rw [bz_f hk9]
                          all_goals (exfalso; apply hk9; simp [keyW, *])
                    · exact WF_pick [0, 1] rfl rfl h
                  · refine x_aload_n C eX8_isKeyword_82 rfl ?_
                    obtain ⟨q83, b83, hr83, hq83⟩ := lit_RX8_223 hS
                    refine x_ldcS C hr83 eX8_isKeyword_83 ?_
                    refine yV1r [] [_, _] C (s_X8_isWord hK hFb hP hS hq83) v_X8_isWord vv_X8_isWord s_RX8_203 eX8_isKeyword_85 (fun _ _ h => WF_pick [0, 1] rfl rfl h) (rcv 0 rfl) rfl (nle rfl) (nle rfl) (nle rfl) (nle rfl) rfl ?_
                    refine x_ifb_ne 118 C eX8_isKeyword_88 rfl (fun h88 => ?_) (fun h88 => ?_)
                    · refine x_iconst C eX8_isKeyword_118 ?_
                      refine x_goto (pc' := 123) C eX8_isKeyword_119 rfl ?_
                      refine x_iret (narZ (by omega)).1 C F eX8_isKeyword_123 () ?_ trivial (fun cf c h => ?_) (nle rfl) (nle rfl)
                      · try (exfalso; omega)
                        all_goals
                          by_cases hk9 : keyW Fb I = true
                          · rw [bz_t hk9]
                            all_goals (exfalso; simp [keyW, *] at hk9)
                          · rw [bz_f hk9]
                            all_goals (exfalso; apply hk9; simp [keyW, *])
                      · exact WF_pick [0, 1] rfl rfl h
                    · refine x_aload_n C eX8_isKeyword_91 rfl ?_
                      obtain ⟨q92, b92, hr92, hq92⟩ := lit_RX8_225 hS
                      refine x_ldcS C hr92 eX8_isKeyword_92 ?_
                      refine yV1r [] [_, _] C (s_X8_isWord hK hFb hP hS hq92) v_X8_isWord vv_X8_isWord s_RX8_203 eX8_isKeyword_94 (fun _ _ h => WF_pick [0, 1] rfl rfl h) (rcv 0 rfl) rfl (nle rfl) (nle rfl) (nle rfl) (nle rfl) rfl ?_
                      refine x_ifb_ne 118 C eX8_isKeyword_97 rfl (fun h97 => ?_) (fun h97 => ?_)
                      · refine x_iconst C eX8_isKeyword_118 ?_
                        refine x_goto (pc' := 123) C eX8_isKeyword_119 rfl ?_
                        refine x_iret (narZ (by omega)).1 C F eX8_isKeyword_123 () ?_ trivial (fun cf c h => ?_) (nle rfl) (nle rfl)
                        · try (exfalso; omega)
                          all_goals
                            by_cases hk9 : keyW Fb I = true
                            · rw [bz_t hk9]
                              all_goals (exfalso; simp [keyW, *] at hk9)
                            · rw [bz_f hk9]
                              all_goals (exfalso; apply hk9; simp [keyW, *])
                        · exact WF_pick [0, 1] rfl rfl h
                      · refine x_aload_n C eX8_isKeyword_100 rfl ?_
                        obtain ⟨q101, b101, hr101, hq101⟩ := lit_RX8_227 hS
                        refine x_ldcS C hr101 eX8_isKeyword_101 ?_
                        refine yV1r [] [_, _] C (s_X8_isWord hK hFb hP hS hq101) v_X8_isWord vv_X8_isWord s_RX8_203 eX8_isKeyword_103 (fun _ _ h => WF_pick [0, 1] rfl rfl h) (rcv 0 rfl) rfl (nle rfl) (nle rfl) (nle rfl) (nle rfl) rfl ?_
                        refine x_ifb_ne 118 C eX8_isKeyword_106 rfl (fun h106 => ?_) (fun h106 => ?_)
                        · refine x_iconst C eX8_isKeyword_118 ?_
                          refine x_goto (pc' := 123) C eX8_isKeyword_119 rfl ?_
                          refine x_iret (narZ (by omega)).1 C F eX8_isKeyword_123 () ?_ trivial (fun cf c h => ?_) (nle rfl) (nle rfl)
                          · try (exfalso; omega)
                            all_goals
                              by_cases hk9 : keyW Fb I = true
                              · rw [bz_t hk9]
                                all_goals (exfalso; simp [keyW, *] at hk9)
                              · rw [bz_f hk9]
                                all_goals (exfalso; apply hk9; simp [keyW, *])
                          · exact WF_pick [0, 1] rfl rfl h
                        · refine x_aload_n C eX8_isKeyword_109 rfl ?_
                          obtain ⟨q110, b110, hr110, hq110⟩ := lit_RX8_229 hS
                          refine x_ldcS C hr110 eX8_isKeyword_110 ?_
                          refine yV1r [] [_, _] C (s_X8_isWord hK hFb hP hS hq110) v_X8_isWord vv_X8_isWord s_RX8_203 eX8_isKeyword_112 (fun _ _ h => WF_pick [0, 1] rfl rfl h) (rcv 0 rfl) rfl (nle rfl) (nle rfl) (nle rfl) (nle rfl) rfl ?_
                          refine x_ifb_eq 122 C eX8_isKeyword_115 rfl (fun h115 => ?_) (fun h115 => ?_)
                          · refine x_iconst C eX8_isKeyword_122 ?_
                            refine x_iret (narZ (by omega)).1 C F eX8_isKeyword_123 () ?_ trivial (fun cf c h => ?_) (nle rfl) (nle rfl)
                            · try (exfalso; omega)
                              all_goals
                                by_cases hk9 : keyW Fb I = true
                                · rw [bz_t hk9]
                                  all_goals (exfalso; simp [keyW, *] at hk9)
                                · rw [bz_f hk9]
                                  all_goals (exfalso; apply hk9; simp [keyW, *])
                            · exact WF_pick [0, 1] rfl rfl h
                          · refine x_iconst C eX8_isKeyword_118 ?_
                            refine x_goto (pc' := 123) C eX8_isKeyword_119 rfl ?_
                            refine x_iret (narZ (by omega)).1 C F eX8_isKeyword_123 () ?_ trivial (fun cf c h => ?_) (nle rfl) (nle rfl)
                            · try (exfalso; omega)
                              all_goals
                                by_cases hk9 : keyW Fb I = true
                                · rw [bz_t hk9]
                                  all_goals (exfalso; simp [keyW, *] at hk9)
                                · rw [bz_f hk9]
                                  all_goals (exfalso; apply hk9; simp [keyW, *])
                            · exact WF_pick [0, 1] rfl rfl h
            · refine x_iconst C eX8_isKeyword_54 ?_
              refine x_goto (pc' := 59) C eX8_isKeyword_55 rfl ?_
              refine x_istore_n [_, _] C eX8_isKeyword_59 rfl rfl (nlt rfl) ?_
              refine x_iload_n C eX8_isKeyword_60 rfl ?_
              refine x_if_ne 118 C eX8_isKeyword_61 rfl (by omega) (fun h61 => ?_) (fun h61 => ?_)
              · refine x_iconst C eX8_isKeyword_118 ?_
                refine x_goto (pc' := 123) C eX8_isKeyword_119 rfl ?_
                refine x_iret (narZ (by omega)).1 C F eX8_isKeyword_123 () ?_ trivial (fun cf c h => ?_) (nle rfl) (nle rfl)
                · try (exfalso; omega)
                  all_goals
                    by_cases hk9 : keyW Fb I = true
                    · rw [bz_t hk9]
                      all_goals (exfalso; simp [keyW, *] at hk9)
                    · rw [bz_f hk9]
                      all_goals (exfalso; apply hk9; simp [keyW, *])
                · exact WF_pick [0, 1] rfl rfl h
              · refine x_aload_n C eX8_isKeyword_64 rfl ?_
                obtain ⟨q65, b65, hr65, hq65⟩ := lit_RX8_219 hS
                refine x_ldcS C hr65 eX8_isKeyword_65 ?_
                refine yV1r [] [_, _] C (s_X8_isWord hK hFb hP hS hq65) v_X8_isWord vv_X8_isWord s_RX8_203 eX8_isKeyword_67 (fun _ _ h => WF_pick [0, 1] rfl rfl h) (rcv 0 rfl) rfl (nle rfl) (nle rfl) (nle rfl) (nle rfl) rfl ?_
                refine x_ifb_ne 118 C eX8_isKeyword_70 rfl (fun h70 => ?_) (fun h70 => ?_)
                · refine x_iconst C eX8_isKeyword_118 ?_
                  refine x_goto (pc' := 123) C eX8_isKeyword_119 rfl ?_
                  refine x_iret (narZ (by omega)).1 C F eX8_isKeyword_123 () ?_ trivial (fun cf c h => ?_) (nle rfl) (nle rfl)
                  · try (exfalso; omega)
                    all_goals
                      by_cases hk9 : keyW Fb I = true
                      · rw [bz_t hk9]
                        all_goals (exfalso; simp [keyW, *] at hk9)
                      · rw [bz_f hk9]
                        all_goals (exfalso; apply hk9; simp [keyW, *])
                  · exact WF_pick [0, 1] rfl rfl h
                · refine x_aload_n C eX8_isKeyword_73 rfl ?_
                  obtain ⟨q74, b74, hr74, hq74⟩ := lit_RX8_221 hS
                  refine x_ldcS C hr74 eX8_isKeyword_74 ?_
                  refine yV1r [] [_, _] C (s_X8_isWord hK hFb hP hS hq74) v_X8_isWord vv_X8_isWord s_RX8_203 eX8_isKeyword_76 (fun _ _ h => WF_pick [0, 1] rfl rfl h) (rcv 0 rfl) rfl (nle rfl) (nle rfl) (nle rfl) (nle rfl) rfl ?_
                  refine x_ifb_ne 118 C eX8_isKeyword_79 rfl (fun h79 => ?_) (fun h79 => ?_)
                  · refine x_iconst C eX8_isKeyword_118 ?_
                    refine x_goto (pc' := 123) C eX8_isKeyword_119 rfl ?_
                    refine x_iret (narZ (by omega)).1 C F eX8_isKeyword_123 () ?_ trivial (fun cf c h => ?_) (nle rfl) (nle rfl)
                    · try (exfalso; omega)
                      all_goals
                        by_cases hk9 : keyW Fb I = true
                        · rw [bz_t hk9]
                          all_goals (exfalso; simp [keyW, *] at hk9)
                        · rw [bz_f hk9]
                          all_goals (exfalso; apply hk9; simp [keyW, *])
                    · exact WF_pick [0, 1] rfl rfl h
                  · refine x_aload_n C eX8_isKeyword_82 rfl ?_
                    obtain ⟨q83, b83, hr83, hq83⟩ := lit_RX8_223 hS
                    refine x_ldcS C hr83 eX8_isKeyword_83 ?_
                    refine yV1r [] [_, _] C (s_X8_isWord hK hFb hP hS hq83) v_X8_isWord vv_X8_isWord s_RX8_203 eX8_isKeyword_85 (fun _ _ h => WF_pick [0, 1] rfl rfl h) (rcv 0 rfl) rfl (nle rfl) (nle rfl) (nle rfl) (nle rfl) rfl ?_
                    refine x_ifb_ne 118 C eX8_isKeyword_88 rfl (fun h88 => ?_) (fun h88 => ?_)
                    · refine x_iconst C eX8_isKeyword_118 ?_
                      refine x_goto (pc' := 123) C eX8_isKeyword_119 rfl ?_
                      refine x_iret (narZ (by omega)).1 C F eX8_isKeyword_123 () ?_ trivial (fun cf c h => ?_) (nle rfl) (nle rfl)
                      · try (exfalso; omega)
                        all_goals
                          by_cases hk9 : keyW Fb I = true
                          · rw [bz_t hk9]
                            all_goals (exfalso; simp [keyW, *] at hk9)
                          · rw [bz_f hk9]
                            all_goals (exfalso; apply hk9; simp [keyW, *])
                      · exact WF_pick [0, 1] rfl rfl h
                    · refine x_aload_n C eX8_isKeyword_91 rfl ?_
                      obtain ⟨q92, b92, hr92, hq92⟩ := lit_RX8_225 hS
                      refine x_ldcS C hr92 eX8_isKeyword_92 ?_
                      refine yV1r [] [_, _] C (s_X8_isWord hK hFb hP hS hq92) v_X8_isWord vv_X8_isWord s_RX8_203 eX8_isKeyword_94 (fun _ _ h => WF_pick [0, 1] rfl rfl h) (rcv 0 rfl) rfl (nle rfl) (nle rfl) (nle rfl) (nle rfl) rfl ?_
                      refine x_ifb_ne 118 C eX8_isKeyword_97 rfl (fun h97 => ?_) (fun h97 => ?_)
                      · refine x_iconst C eX8_isKeyword_118 ?_
                        refine x_goto (pc' := 123) C eX8_isKeyword_119 rfl ?_
                        refine x_iret (narZ (by omega)).1 C F eX8_isKeyword_123 () ?_ trivial (fun cf c h => ?_) (nle rfl) (nle rfl)
                        · try (exfalso; omega)
                          all_goals
                            by_cases hk9 : keyW Fb I = true
                            · rw [bz_t hk9]
                              all_goals (exfalso; simp [keyW, *] at hk9)
                            · rw [bz_f hk9]
                              all_goals (exfalso; apply hk9; simp [keyW, *])
                        · exact WF_pick [0, 1] rfl rfl h
                      · refine x_aload_n C eX8_isKeyword_100 rfl ?_
                        obtain ⟨q101, b101, hr101, hq101⟩ := lit_RX8_227 hS
                        refine x_ldcS C hr101 eX8_isKeyword_101 ?_
                        refine yV1r [] [_, _] C (s_X8_isWord hK hFb hP hS hq101) v_X8_isWord vv_X8_isWord s_RX8_203 eX8_isKeyword_103 (fun _ _ h => WF_pick [0, 1] rfl rfl h) (rcv 0 rfl) rfl (nle rfl) (nle rfl) (nle rfl) (nle rfl) rfl ?_
                        refine x_ifb_ne 118 C eX8_isKeyword_106 rfl (fun h106 => ?_) (fun h106 => ?_)
                        · refine x_iconst C eX8_isKeyword_118 ?_
                          refine x_goto (pc' := 123) C eX8_isKeyword_119 rfl ?_
                          refine x_iret (narZ (by omega)).1 C F eX8_isKeyword_123 () ?_ trivial (fun cf c h => ?_) (nle rfl) (nle rfl)
                          · try (exfalso; omega)
                            all_goals
                              by_cases hk9 : keyW Fb I = true
                              · rw [bz_t hk9]
                                all_goals (exfalso; simp [keyW, *] at hk9)
                              · rw [bz_f hk9]
                                all_goals (exfalso; apply hk9; simp [keyW, *])
                          · exact WF_pick [0, 1] rfl rfl h
                        · refine x_aload_n C eX8_isKeyword_109 rfl ?_
                          obtain ⟨q110, b110, hr110, hq110⟩ := lit_RX8_229 hS
                          refine x_ldcS C hr110 eX8_isKeyword_110 ?_
                          refine yV1r [] [_, _] C (s_X8_isWord hK hFb hP hS hq110) v_X8_isWord vv_X8_isWord s_RX8_203 eX8_isKeyword_112 (fun _ _ h => WF_pick [0, 1] rfl rfl h) (rcv 0 rfl) rfl (nle rfl) (nle rfl) (nle rfl) (nle rfl) rfl ?_
                          refine x_ifb_eq 122 C eX8_isKeyword_115 rfl (fun h115 => ?_) (fun h115 => ?_)
                          · refine x_iconst C eX8_isKeyword_122 ?_
                            refine x_iret (narZ (by omega)).1 C F eX8_isKeyword_123 () ?_ trivial (fun cf c h => ?_) (nle rfl) (nle rfl)
                            · try (exfalso; omega)
                              all_goals
                                by_cases hk9 : keyW Fb I = true
                                · rw [bz_t hk9]
                                  all_goals (exfalso; simp [keyW, *] at hk9)
                                · rw [bz_f hk9]
                                  all_goals (exfalso; apply hk9; simp [keyW, *])
                            · exact WF_pick [0, 1] rfl rfl h
                          · refine x_iconst C eX8_isKeyword_118 ?_
                            refine x_goto (pc' := 123) C eX8_isKeyword_119 rfl ?_
                            refine x_iret (narZ (by omega)).1 C F eX8_isKeyword_123 () ?_ trivial (fun cf c h => ?_) (nle rfl) (nle rfl)
                            · try (exfalso; omega)
                              all_goals
                                by_cases hk9 : keyW Fb I = true
                                · rw [bz_t hk9]
                                  all_goals (exfalso; simp [keyW, *] at hk9)
                                · rw [bz_f hk9]
                                  all_goals (exfalso; apply hk9; simp [keyW, *])
                            · exact WF_pick [0, 1] rfl rfl h

set_option maxHeartbeats 4000000 in
set_option maxRecDepth 100000 in
theorem s_X8_numberAfter {G : Gm} {l : Launch} (hK : KG G) {o r : Nat} {A : Nat → Nat} {I Fb : Nat → Int} {q b : Nat} {w : List Int} {a9 b9 : Int} (hFb : ∀ j, -128 ≤ Fb j ∧ Fb j ≤ 127) (hP : Pin Fb I) (hS : KS G) (hq : strG G q b w) (ha : -2147483648 ≤ a9 ∧ a9 < 2147483648) (hb : -2147483648 ≤ b9 ∧ b9 < 2147483648) : MD G l yX8_numberAfter cX8_numberAfter 4 (some .int) 7 0 0 [.ref o, .ref q, .int (zI a9), .int (zI b9)] [ob o 10 (shM A r) I, ar G 1 (A 5) 400 400 (Fb)] (some (.int (zI (nhV (twI Fb I w) a9 b9)))) [ob o 10 (shM A r) (nbI Fb (twI Fb I w) a9 b9), ar G 1 (A 5) 400 400 (Fb)] := by
  refine MX_of (lv := [some (.ref o), some (.ref q), some (.int (zI a9)), some (.int (zI b9))]) hK (by decide +kernel) rfl (nle rfl) (fun X C F => ?_)
  have C : OKc G X l RX8 "numberAfter" cX8_numberAfter 4 (some .int) 7 0 0 := C
  have h0 := hP
  unfold Pin Pin0 at h0
  refine x_aload_n C eX8_numberAfter_0 rfl ?_
  refine x_aload_n C eX8_numberAfter_1 rfl ?_
  refine yV1v [] [_, _] C (s_X8_takeWord hK hFb hP hS hq) v_X8_takeWord vv_X8_takeWord s_RX8_231 eX8_numberAfter_2 (fun _ _ h => WF_pick [0, 1] rfl rfl h) (rcv 0 rfl) rfl (nle rfl) (nle rfl) (nle rfl) (nle rfl) rfl ?_
  refine x_aload_n C eX8_numberAfter_5 rfl ?_
  refine x_iload_n C eX8_numberAfter_6 rfl ?_
  refine x_iload_n C eX8_numberAfter_7 rfl ?_
  refine yV2r [] [_, _] C (s_X8_number hK hFb (Pin_tw hFb hP) ha hb) v_X8_number vv_X8_number s_RX8_235 eX8_numberAfter_8 (fun _ _ h => WF_pick [0, 1] rfl rfl h) (rcv 0 rfl) rfl (nle rfl) (nle rfl) (nle rfl) (nle rfl) rfl ?_
  refine x_iret (by first | rfl | exact (narZ (by omega)).1) C F eX8_numberAfter_11 () ?_ trivial (fun cf c h => ?_) (nle rfl) (nle rfl)
  · rfl
  · exact WF_pick [0, 1] rfl rfl h
