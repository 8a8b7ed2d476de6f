set_option maxHeartbeats 4000000 in
set_option maxRecDepth 100000 in
theorem s_X8_thrown {G : Gm} {l : Launch} (hK : KG G) {o r : Nat} {A : Nat → Nat} {I : Nat → Int}  : MD G l yX8_thrown cX8_thrown 1 (some .int) 1 0 0 [.ref o] [ob o 10 (shM A r) I] (some (.int (zI (I 0)))) [ob o 10 (shM A r) I] := by
  refine MX_of (lv := [some (.ref o)]) hK (by decide +kernel) rfl (nle rfl) (fun X C F => ?_)
  have C : OKc G X l RX8 "thrown" cX8_thrown 1 (some .int) 1 0 0 := C
  refine x_aload_n C eX8_thrown_0 rfl ?_
  refine x_getI 0 C f_RX8_3 eX8_thrown_1 rfl rfl ?_
  refine x_iret (by first | rfl | exact (narZ (by omega)).1) C F eX8_thrown_4 () ?_ trivial (fun cf c h => ?_) (nle rfl) (nle rfl)
  · rfl
  · exact WF_pick [0] rfl rfl h

set_option maxHeartbeats 4000000 in
set_option maxRecDepth 100000 in
theorem s_X8_in {G : Gm} {l : Launch} (hK : KG G) {a b c : Int} (h1 : (-2147483648 ≤ a ∧ a < 2147483648) ∧ (-2147483648 ≤ b ∧ b < 2147483648) ∧ (-2147483648 ≤ c ∧ c < 2147483648)) : MD G l yX8_in cX8_in 6 (some .boolean) 1 0 0 [.long (zL a), .long (zL b), .long (zL c)] [] (some (.int (zI (bz (b ≤ a ∧ a ≤ c))))) [] := by
  refine MX_of (lv := [some (.long (zL a)), none, some (.long (zL b)), none, some (.long (zL c)), none]) hK (by decide +kernel) rfl (nle rfl) (fun X C F => ?_)
  have C : OKc G X l RX8 "in" cX8_in 6 (some .boolean) 1 0 0 := C
  refine x_lload_n C eX8_in_0 rfl ?_
  refine x_lload_n C eX8_in_1 rfl ?_
  refine x_lcmp_lt 17 C eX8_in_2 eX8_in_3 rfl (by omega) (by omega) (fun h2 => ?_) (fun h2 => ?_)
  · refine x_iconst C eX8_in_17 ?_
    refine x_iret (narZ (by omega)).1 C F eX8_in_18 () ?_ trivial (fun cf c h => ?_) (nle rfl) (nle rfl)
    · first | rfl | rw [bz_t (by omega)] | rw [bz_f (by omega)]
    · exact WF_pick [] rfl rfl h
  · refine x_lload_n C eX8_in_6 rfl ?_
    refine x_lload C eX8_in_7 rfl ?_
    refine x_lcmp_gt 17 C eX8_in_9 eX8_in_10 rfl (by omega) (by omega) (fun h9 => ?_) (fun h9 => ?_)
    · refine x_iconst C eX8_in_17 ?_
      refine x_iret (narZ (by omega)).1 C F eX8_in_18 () ?_ trivial (fun cf c h => ?_) (nle rfl) (nle rfl)
      · first | rfl | rw [bz_t (by omega)] | rw [bz_f (by omega)]
      · exact WF_pick [] rfl rfl h
    · refine x_iconst C eX8_in_13 ?_
      refine x_goto (pc' := 18) C eX8_in_14 rfl ?_
      refine x_iret (narZ (by omega)).1 C F eX8_in_18 () ?_ trivial (fun cf c h => ?_) (nle rfl) (nle rfl)
      · first | rfl | rw [bz_t (by omega)] | rw [bz_f (by omega)]
      · exact WF_pick [] rfl rfl h

set_option maxHeartbeats 4000000 in
set_option maxRecDepth 100000 in
theorem s_X8_passes3 {G : Gm} {l : Launch} (hK : KG G) {o r : Nat} {A : Nat → Nat} {I : Nat → Int} (p1 p2 p3 : Prop) [Decidable p1] [Decidable p2] [Decidable p3]  : MD G l yX8_passes3 cX8_passes3 4 (some .boolean) 1 0 0 [.ref o, .int (zI (bz p1)), .int (zI (bz p2)), .int (zI (bz p3))] [ob o 10 (shM A r) I] (some (.int (zI (bz (p1 ∧ p2 ∧ p3))))) [ob o 10 (shM A r) (up I 0 (thr p1 p2 p3))] := by
  refine MX_of (lv := [some (.ref o), some (.int (zI (bz p1))), some (.int (zI (bz p2))), some (.int (zI (bz p3)))]) hK (by decide +kernel) rfl (nle rfl) (fun X C F => ?_)
  have C : OKc G X l RX8 "passes3" cX8_passes3 4 (some .boolean) 1 0 0 := C
  refine x_aload_n C eX8_passes3_0 rfl ?_
  refine x_iload_n C eX8_passes3_1 rfl ?_
  refine x_ifb_ne 9 C eX8_passes3_2 rfl (fun h2 => ?_) (fun h2 => ?_)
  · refine x_iload_n C eX8_passes3_9 rfl ?_
    refine x_ifb_ne 17 C eX8_passes3_10 rfl (fun h10 => ?_) (fun h10 => ?_)
    · refine x_iload_n C eX8_passes3_17 rfl ?_
      refine x_ifb_ne 25 C eX8_passes3_18 rfl (fun h18 => ?_) (fun h18 => ?_)
      · refine x_iconst C eX8_passes3_25 ?_
        refine x_putI [_] 0 C f_RX8_3 eX8_passes3_26 rfl rfl rfl ?_
        refine x_aload_n C eX8_passes3_29 rfl ?_
        refine x_getI 0 C f_RX8_3 eX8_passes3_30 rfl rfl ?_
        simp only [up_lit, if_true, if_false]
        refine x_if_ne 40 C eX8_passes3_33 rfl (by omega) (fun h33 => ?_) (fun h33 => ?_)
        · refine x_iconst C eX8_passes3_40 ?_
          refine x_iret (narZ (by omega)).1 C F eX8_passes3_41 () ?_ trivial (fun cf c h => ?_) (nle rfl) (nle rfl)
          · first | (exfalso; omega) | rw [bz_t ⟨‹p1›, ‹p2›, ‹p3›⟩] | rw [bz_f (by rintro ⟨a, b, c⟩; contradiction)]
          · first
              | (exfalso; omega)
              | (refine PW.wf (PW_cons (fun _ h => ob_congr (fun i _ => ?_) h) PW_nil) (WF_pick [0] rfl rfl h); congr 1; unfold thr; (repeat' split) <;> first | rfl | contradiction)
        · refine x_iconst C eX8_passes3_36 ?_
          refine x_goto (pc' := 41) C eX8_passes3_37 rfl ?_
          refine x_iret (narZ (by omega)).1 C F eX8_passes3_41 () ?_ trivial (fun cf c h => ?_) (nle rfl) (nle rfl)
          · first | (exfalso; omega) | rw [bz_t ⟨‹p1›, ‹p2›, ‹p3›⟩] | rw [bz_f (by rintro ⟨a, b, c⟩; contradiction)]
          · first
              | (exfalso; omega)
              | (refine PW.wf (PW_cons (fun _ h => ob_congr (fun i _ => ?_) h) PW_nil) (WF_pick [0] rfl rfl h); congr 1; unfold thr; (repeat' split) <;> first | rfl | contradiction)
      · refine x_iconst C eX8_passes3_21 ?_
        refine x_goto (pc' := 26) C eX8_passes3_22 rfl ?_
        refine x_putI [_] 0 C f_RX8_3 eX8_passes3_26 rfl rfl rfl ?_
        refine x_aload_n C eX8_passes3_29 rfl ?_
        refine x_getI 0 C f_RX8_3 eX8_passes3_30 rfl rfl ?_
        simp only [up_lit, if_true, if_false]
        refine x_if_ne 40 C eX8_passes3_33 rfl (by omega) (fun h33 => ?_) (fun h33 => ?_)
        · refine x_iconst C eX8_passes3_40 ?_
          refine x_iret (narZ (by omega)).1 C F eX8_passes3_41 () ?_ trivial (fun cf c h => ?_) (nle rfl) (nle rfl)
          · first | (exfalso; omega) | rw [bz_t ⟨‹p1›, ‹p2›, ‹p3›⟩] | rw [bz_f (by rintro ⟨a, b, c⟩; contradiction)]
          · first
              | (exfalso; omega)
              | (refine PW.wf (PW_cons (fun _ h => ob_congr (fun i _ => ?_) h) PW_nil) (WF_pick [0] rfl rfl h); congr 1; unfold thr; (repeat' split) <;> first | rfl | contradiction)
        · refine x_iconst C eX8_passes3_36 ?_
          refine x_goto (pc' := 41) C eX8_passes3_37 rfl ?_
          refine x_iret (narZ (by omega)).1 C F eX8_passes3_41 () ?_ trivial (fun cf c h => ?_) (nle rfl) (nle rfl)
          · first | (exfalso; omega) | rw [bz_t ⟨‹p1›, ‹p2›, ‹p3›⟩] | rw [bz_f (by rintro ⟨a, b, c⟩; contradiction)]
          · first
              | (exfalso; omega)
              | (refine PW.wf (PW_cons (fun _ h => ob_congr (fun i _ => ?_) h) PW_nil) (WF_pick [0] rfl rfl h); congr 1; unfold thr; (repeat' split) <;> first | rfl | contradiction)
    · refine x_iconst C eX8_passes3_13 ?_
      refine x_goto (pc' := 26) C eX8_passes3_14 rfl ?_
      refine x_putI [_] 0 C f_RX8_3 eX8_passes3_26 rfl rfl rfl ?_
      refine x_aload_n C eX8_passes3_29 rfl ?_
      refine x_getI 0 C f_RX8_3 eX8_passes3_30 rfl rfl ?_
      simp only [up_lit, if_true, if_false]
      refine x_if_ne 40 C eX8_passes3_33 rfl (by omega) (fun h33 => ?_) (fun h33 => ?_)
      · refine x_iconst C eX8_passes3_40 ?_
        refine x_iret (narZ (by omega)).1 C F eX8_passes3_41 () ?_ trivial (fun cf c h => ?_) (nle rfl) (nle rfl)
        · first | (exfalso; omega) | rw [bz_t ⟨‹p1›, ‹p2›, ‹p3›⟩] | rw [bz_f (by rintro ⟨a, b, c⟩; contradiction)]
        · first
            | (exfalso; omega)
            | (refine PW.wf (PW_cons (fun _ h => ob_congr (fun i _ => ?_) h) PW_nil) (WF_pick [0] rfl rfl h); congr 1; unfold thr; (repeat' split) <;> first | rfl | contradiction)
      · refine x_iconst C eX8_passes3_36 ?_
        refine x_goto (pc' := 41) C eX8_passes3_37 rfl ?_
        refine x_iret (narZ (by omega)).1 C F eX8_passes3_41 () ?_ trivial (fun cf c h => ?_) (nle rfl) (nle rfl)
        · first | (exfalso; omega) | rw [bz_t ⟨‹p1›, ‹p2›, ‹p3›⟩] | rw [bz_f (by rintro ⟨a, b, c⟩; contradiction)]
        · first
            | (exfalso; omega)
            | (refine PW.wf (PW_cons (fun _ h => ob_congr (fun i _ => ?_) h) PW_nil) (WF_pick [0] rfl rfl h); congr 1; unfold thr; (repeat' split) <;> first | rfl | contradiction)
  · refine x_iconst C eX8_passes3_5 ?_
    refine x_goto (pc' := 26) C eX8_passes3_6 rfl ?_
    refine x_putI [_] 0 C f_RX8_3 eX8_passes3_26 rfl rfl rfl ?_
    refine x_aload_n C eX8_passes3_29 rfl ?_
    refine x_getI 0 C f_RX8_3 eX8_passes3_30 rfl rfl ?_
    simp only [up_lit, if_true, if_false]
    refine x_if_ne 40 C eX8_passes3_33 rfl (by omega) (fun h33 => ?_) (fun h33 => ?_)
    · refine x_iconst C eX8_passes3_40 ?_
      refine x_iret (narZ (by omega)).1 C F eX8_passes3_41 () ?_ trivial (fun cf c h => ?_) (nle rfl) (nle rfl)
      · first | (exfalso; omega) | rw [bz_t ⟨‹p1›, ‹p2›, ‹p3›⟩] | rw [bz_f (by rintro ⟨a, b, c⟩; contradiction)]
      · first
          | (exfalso; omega)
          | (refine PW.wf (PW_cons (fun _ h => ob_congr (fun i _ => ?_) h) PW_nil) (WF_pick [0] rfl rfl h); congr 1; unfold thr; (repeat' split) <;> first | rfl | contradiction)
    · refine x_iconst C eX8_passes3_36 ?_
      refine x_goto (pc' := 41) C eX8_passes3_37 rfl ?_
      refine x_iret (narZ (by omega)).1 C F eX8_passes3_41 () ?_ trivial (fun cf c h => ?_) (nle rfl) (nle rfl)
      · first | (exfalso; omega) | rw [bz_t ⟨‹p1›, ‹p2›, ‹p3›⟩] | rw [bz_f (by rintro ⟨a, b, c⟩; contradiction)]
      · first
          | (exfalso; omega)
          | (refine PW.wf (PW_cons (fun _ h => ob_congr (fun i _ => ?_) h) PW_nil) (WF_pick [0] rfl rfl h); congr 1; unfold thr; (repeat' split) <;> first | rfl | contradiction)

set_option maxHeartbeats 4000000 in
set_option maxRecDepth 100000 in
theorem s_X8_passes2 {G : Gm} {l : Launch} (hK : KG G) {o r : Nat} {A : Nat → Nat} {I : Nat → Int} (p1 p2 : Prop) [Decidable p1] [Decidable p2]  : MD G l yX8_passes2 cX8_passes2 3 (some .boolean) 2 0 0 [.ref o, .int (zI (bz p1)), .int (zI (bz p2))] [ob o 10 (shM A r) I] (some (.int (zI (bz (p1 ∧ p2 ∧ True))))) [ob o 10 (shM A r) (up I 0 (thr p1 p2 True))] := by
  refine MX_of (lv := [some (.ref o), some (.int (zI (bz p1))), some (.int (zI (bz p2)))]) hK (by decide +kernel) rfl (nle rfl) (fun X C F => ?_)
  have C : OKc G X l RX8 "passes2" cX8_passes2 3 (some .boolean) 2 0 0 := C
  refine x_aload_n C eX8_passes2_0 rfl ?_
  refine x_iload_n C eX8_passes2_1 rfl ?_
  refine x_iload_n C eX8_passes2_2 rfl ?_
  refine x_iconst C eX8_passes2_3 ?_
  refine yV3r [] [_] C (s_X8_passes3 hK p1 p2 True ) v_X8_passes3 vv_X8_passes3 s_RX8_7 eX8_passes2_4 (fun _ _ h => WF_pick [0] rfl rfl h) (rcv 0 rfl) rfl (nle rfl) (nle rfl) (nle rfl) (nle rfl) rfl ?_
  refine x_iret (nz_bz _) C F eX8_passes2_7 () ?_ trivial (fun cf c h => ?_) (nle rfl) (nle rfl)
  · rfl
  · exact WF_pick [0] rfl rfl h

set_option maxHeartbeats 4000000 in
set_option maxRecDepth 100000 in
theorem s_X8_passes {G : Gm} {l : Launch} (hK : KG G) {o r : Nat} {A : Nat → Nat} {I : Nat → Int} (p1 : Prop) [Decidable p1]  : MD G l yX8_passes cX8_passes 2 (some .boolean) 2 0 0 [.ref o, .int (zI (bz p1))] [ob o 10 (shM A r) I] (some (.int (zI (bz (p1 ∧ True ∧ True))))) [ob o 10 (shM A r) (up I 0 (thr p1 True True))] := by
  refine MX_of (lv := [some (.ref o), some (.int (zI (bz p1)))]) hK (by decide +kernel) rfl (nle rfl) (fun X C F => ?_)
  have C : OKc G X l RX8 "passes" cX8_passes 2 (some .boolean) 2 0 0 := C
  refine x_aload_n C eX8_passes_0 rfl ?_
  refine x_iload_n C eX8_passes_1 rfl ?_
  refine x_iconst C eX8_passes_2 ?_
  refine x_iconst C eX8_passes_3 ?_
  refine yV3r [] [_] C (s_X8_passes3 hK p1 True True ) v_X8_passes3 vv_X8_passes3 s_RX8_7 eX8_passes_4 (fun _ _ h => WF_pick [0] rfl rfl h) (rcv 0 rfl) rfl (nle rfl) (nle rfl) (nle rfl) (nle rfl) rfl ?_
  refine x_iret (nz_bz _) C F eX8_passes_7 () ?_ trivial (fun cf c h => ?_) (nle rfl) (nle rfl)
  · rfl
  · exact WF_pick [0] rfl rfl h

set_option maxHeartbeats 4000000 in
set_option maxRecDepth 100000 in
theorem s_X8_lines {G : Gm} {l : Launch} (hK : KG G) {o r : Nat} {A : Nat → Nat} {I : Nat → Int} {N : Nat → Net} {n : Net} (hr : rok r) : MD G l yX8_lines cX8_lines 1 (some .int) 1 0 0 [.ref o] [ob o 10 (shM A r) I, fam G A (uN N r n)] (some (.int (zI (n (-1) 0)))) [ob o 10 (shM A r) I, fam G A (uN N r n)] := by
  refine MX_of (lv := [some (.ref o)]) hK (by decide +kernel) rfl (nle rfl) (fun X C F => ?_)
  have C : OKc G X l RX8 "lines" cX8_lines 1 (some .int) 1 0 0 := C
  refine x_aload_n C eX8_lines_0 rfl ?_
  refine x_getR 0 C f_RX8_24 eX8_lines_1 rfl rfl ?_
  refine x_iconst C eX8_lines_4 ?_
  refine x_faldU 1 C eX8_lines_5 rfl hr (by omega) ?_
  first | rw [enc_head _ (by omega)] | rw [enc_line _ (by omega) (by omega)]
  refine x_iret (by first | rfl | exact (narZ (by omega)).1) C F eX8_lines_6 () ?_ trivial (fun cf c h => ?_) (nle rfl) (nle rfl)
  · rfl
  · exact WF_pick [0, 1] rfl rfl h

set_option maxHeartbeats 4000000 in
set_option maxRecDepth 100000 in
theorem s_X8_of {G : Gm} {l : Launch} (hK : KG G) {o r : Nat} {A : Nat → Nat} {I : Nat → Int} {N : Nat → Net} {n : Net} {l9 w9 : Int} (hr : rok r) (hl : 0 ≤ l9 ∧ l9 < 6) (hw : 0 ≤ w9 ∧ w9 < 268) : MD G l yX8_of cX8_of 3 (some .int) 1 0 0 [.ref o, .int (zI l9), .int (zI w9)] [ob o 10 (shM A r) I, fam G A (uN N r n)] (some (.int (zI (n l9 w9)))) [ob o 10 (shM A r) I, fam G A (uN N r n)] := by
  refine MX_of (lv := [some (.ref o), some (.int (zI l9)), some (.int (zI w9))]) hK (by decide +kernel) rfl (nle rfl) (fun X C F => ?_)
  have C : OKc G X l RX8 "of" cX8_of 3 (some .int) 1 0 0 := C
  refine x_aload_n C eX8_of_0 rfl ?_
  refine x_getR 0 C f_RX8_24 eX8_of_1 rfl rfl ?_
  refine x_bipush C eX8_of_4 rfl ?_
  refine x_sipush C eX8_of_6 rfl ?_
  refine x_iload_n C eX8_of_9 rfl ?_
  refine x_imul C eX8_of_10 ?_
  refine x_iadd C eX8_of_11 ?_
  refine x_iload_n C eX8_of_12 rfl ?_
  refine x_iadd C eX8_of_13 ?_
  refine x_faldU 1 C eX8_of_14 rfl hr (by omega) ?_
  first | rw [enc_head _ (by omega)] | rw [enc_line _ (by omega) (by omega)]
  refine x_iret (by first | rfl | exact (narZ (by omega)).1) C F eX8_of_15 () ?_ trivial (fun cf c h => ?_) (nle rfl) (nle rfl)
  · rfl
  · exact WF_pick [0, 1] rfl rfl h

set_option maxHeartbeats 4000000 in
set_option maxRecDepth 100000 in
theorem s_X8_put {G : Gm} {l : Launch} (hK : KG G) {o r : Nat} {A : Nat → Nat} {I : Nat → Int} {N : Nat → Net} {n : Net} {l9 w9 v9 : Int} (hr : rok r) (hl : 0 ≤ l9 ∧ l9 < 6) (hw : 0 ≤ w9 ∧ w9 < 268) : MD G l yX8_put cX8_put 4 none 1 0 0 [.ref o, .int (zI l9), .int (zI w9), .int (zI v9)] [ob o 10 (shM A r) I, fam G A (uN N r n)] none [ob o 10 (shM A r) I, fam G A (uN N r (un n l9 (ub (n l9) w9 v9)))] := by
  refine MX_of (lv := [some (.ref o), some (.int (zI l9)), some (.int (zI w9)), some (.int (zI v9))]) hK (by decide +kernel) rfl (nle rfl) (fun X C F => ?_)
  have C : OKc G X l RX8 "put" cX8_put 4 none 1 0 0 := C
  refine x_aload_n C eX8_put_0 rfl ?_
  refine x_getR 0 C f_RX8_24 eX8_put_1 rfl rfl ?_
  refine x_bipush C eX8_put_4 rfl ?_
  refine x_sipush C eX8_put_6 rfl ?_
  refine x_iload_n C eX8_put_9 rfl ?_
  refine x_imul C eX8_put_10 ?_
  refine x_iadd C eX8_put_11 ?_
  refine x_iload_n C eX8_put_12 rfl ?_
  refine x_iadd C eX8_put_13 ?_
  refine x_iload_n C eX8_put_14 rfl ?_
  refine x_fastU [_, _] 1 C eX8_put_15 rfl hr (by omega) rfl ?_
  first | rw [encU_head _ (by omega)] | rw [encU_line _ (by omega) (by omega)]
  refine x_vret C F eX8_put_16 () rfl trivial (fun cf c h => ?_) (nle rfl) (nle rfl)
  exact WF_pick [0, 1] rfl rfl h

set_option maxHeartbeats 4000000 in
set_option maxRecDepth 100000 in
theorem s_X8_add {G : Gm} {l : Launch} (hK : KG G) {o r : Nat} {A : Nat → Nat} {I : Nat → Int} {N : Nat → Net} {n : Net} {l9 w9 v9 : Int} (hr : rok r) (hl : 0 ≤ l9 ∧ l9 < 6) (hw : 0 ≤ w9 ∧ w9 < 268) : MD G l yX8_add cX8_add 4 none 1 0 0 [.ref o, .int (zI l9), .int (zI w9), .int (zI v9)] [ob o 10 (shM A r) I, fam G A (uN N r n)] none [ob o 10 (shM A r) I, fam G A (uN N r (un n l9 (ub (n l9) w9 (n l9 w9 + v9))))] := by
  refine MX_of (lv := [some (.ref o), some (.int (zI l9)), some (.int (zI w9)), some (.int (zI v9))]) hK (by decide +kernel) rfl (nle rfl) (fun X C F => ?_)
  have C : OKc G X l RX8 "add" cX8_add 4 none 1 0 0 := C
  refine x_aload_n C eX8_add_0 rfl ?_
  refine x_getR 0 C f_RX8_24 eX8_add_1 rfl rfl ?_
  refine x_bipush C eX8_add_4 rfl ?_
  refine x_sipush C eX8_add_6 rfl ?_
  refine x_iload_n C eX8_add_9 rfl ?_
  refine x_imul C eX8_add_10 ?_
  refine x_iadd C eX8_add_11 ?_
  refine x_iload_n C eX8_add_12 rfl ?_
  refine x_iadd C eX8_add_13 ?_
  refine x_dup2 C eX8_add_14 rfl rfl ?_
  refine x_faldU 1 C eX8_add_15 rfl hr (by omega) ?_
  first | rw [enc_head _ (by omega)] | rw [enc_line _ (by omega) (by omega)]
  refine x_iload_n C eX8_add_16 rfl ?_
  refine x_iadd C eX8_add_17 ?_
  refine x_fastU [_, _] 1 C eX8_add_18 rfl hr (by omega) rfl ?_
  first | rw [encU_head _ (by omega)] | rw [encU_line _ (by omega) (by omega)]
  refine x_vret C F eX8_add_19 () rfl trivial (fun cf c h => ?_) (nle rfl) (nle rfl)
  exact WF_pick [0, 1] rfl rfl h

set_option maxHeartbeats 4000000 in
set_option maxRecDepth 100000 in
theorem s_X8_counts {G : Gm} {l : Launch} (hK : KG G) {o r : Nat} {A : Nat → Nat} {I : Nat → Int} {N : Nat → Net} {n : Net} {l9 w9 : Int} (hr : rok r) (hl : 0 ≤ l9 ∧ l9 < 6) (hw : 0 ≤ w9 ∧ w9 < 12) : MD G l yX8_counts cX8_counts 3 none 2 0 0 [.ref o, .int (zI l9), .int (zI w9)] [ob o 10 (shM A r) I, fam G A (uN N r n)] none [ob o 10 (shM A r) I, fam G A (uN N r (un n l9 (inc (n l9) (16 + w9))))] := by
  refine MX_of (lv := [some (.ref o), some (.int (zI l9)), some (.int (zI w9))]) hK (by decide +kernel) rfl (nle rfl) (fun X C F => ?_)
  have C : OKc G X l RX8 "counts" cX8_counts 3 none 2 0 0 := C
  refine x_aload_n C eX8_counts_0 rfl ?_
  refine x_iload_n C eX8_counts_1 rfl ?_
  refine x_bipush C eX8_counts_2 rfl ?_
  refine x_iload_n C eX8_counts_4 rfl ?_
  refine x_iadd C eX8_counts_5 ?_
  refine x_iconst C eX8_counts_6 ?_
  refine yV3v [] [_, _] C (s_X8_add hK hr (by (try simp (disch := omega) only [Int.reduceAdd, uN_s, uN_uN, un_s, un_un, un_n, ub_s, ub_n, inc, bStop_n, bDrop_s, bDrop_n, unub_n, nLog_n, nLog_h, Int.sub_add_cancel]); omega) (by (try simp (disch := omega) only [Int.reduceAdd, uN_s, uN_uN, un_s, un_un, un_n, ub_s, ub_n, inc, bStop_n, bDrop_s, bDrop_n, unub_n, nLog_n, nLog_h, Int.sub_add_cancel]); omega)) v_X8_add vv_X8_add s_RX8_60 eX8_counts_7 (fun _ _ h => WF_pick [0, 1] rfl rfl h) (rcv 0 rfl) rfl (nle rfl) (nle rfl) (nle rfl) (nle rfl) rfl ?_
  try simp (disch := omega) only [Int.reduceAdd, uN_s, uN_uN, un_s, un_un, un_n, ub_s, ub_n, inc, bStop_n, bDrop_s, bDrop_n, unub_n, nLog_n, nLog_h, Int.sub_add_cancel]
  refine x_vret C F eX8_counts_10 () rfl trivial (fun cf c h => ?_) (nle rfl) (nle rfl)
  exact WF_pick [0, 1] rfl rfl h

set_option maxHeartbeats 4000000 in
set_option maxRecDepth 100000 in
theorem s_X8_counted {G : Gm} {l : Launch} (hK : KG G) {o r : Nat} {A : Nat → Nat} {I : Nat → Int} {N : Nat → Net} {n : Net} {l9 w9 : Int} (hr : rok r) (hl : 0 ≤ l9 ∧ l9 < 6) (hw : 0 ≤ w9 ∧ w9 < 12) : MD G l yX8_counted cX8_counted 3 (some .int) 2 0 0 [.ref o, .int (zI l9), .int (zI w9)] [ob o 10 (shM A r) I, fam G A (uN N r n)] (some (.int (zI (n l9 (16 + w9))))) [ob o 10 (shM A r) I, fam G A (uN N r n)] := by
  refine MX_of (lv := [some (.ref o), some (.int (zI l9)), some (.int (zI w9))]) hK (by decide +kernel) rfl (nle rfl) (fun X C F => ?_)
  have C : OKc G X l RX8 "counted" cX8_counted 3 (some .int) 2 0 0 := C
  refine x_aload_n C eX8_counted_0 rfl ?_
  refine x_iload_n C eX8_counted_1 rfl ?_
  refine x_bipush C eX8_counted_2 rfl ?_
  refine x_iload_n C eX8_counted_4 rfl ?_
  refine x_iadd C eX8_counted_5 ?_
  refine yV2r [] [_, _] C (s_X8_of hK hr (by (try simp (disch := omega) only [Int.reduceAdd, uN_s, uN_uN, un_s, un_un, un_n, ub_s, ub_n, inc, bStop_n, bDrop_s, bDrop_n, unub_n, nLog_n, nLog_h, Int.sub_add_cancel]); omega) (by (try simp (disch := omega) only [Int.reduceAdd, uN_s, uN_uN, un_s, un_un, un_n, ub_s, ub_n, inc, bStop_n, bDrop_s, bDrop_n, unub_n, nLog_n, nLog_h, Int.sub_add_cancel]); omega)) v_X8_of vv_X8_of s_RX8_64 eX8_counted_6 (fun _ _ h => WF_pick [0, 1] rfl rfl h) (rcv 0 rfl) rfl (nle rfl) (nle rfl) (nle rfl) (nle rfl) rfl ?_
  refine x_iret (by first | rfl | exact (narZ (by omega)).1) C F eX8_counted_9 () ?_ trivial (fun cf c h => ?_) (nle rfl) (nle rfl)
  · rfl
  · exact WF_pick [0, 1] rfl rfl h

set_option maxHeartbeats 4000000 in
set_option maxRecDepth 100000 in
theorem s_X8_isLine {G : Gm} {l : Launch} (hK : KG G) {o r : Nat} {A : Nat → Nat} {I : Nat → Int} {N : Nat → Net} {n : Net} {l9 : Int} (hr : rok r) (hl : -2147483648 ≤ l9 ∧ l9 < 2147483648) (hn : 0 ≤ n (-1) 0 ∧ n (-1) 0 ≤ 6) : MD G l yX8_isLine cX8_isLine 2 (some .boolean) 2 0 0 [.ref o, .int (zI l9)] [ob o 10 (shM A r) I, fam G A (uN N r n)] (some (.int (zI (bz (0 ≤ l9 ∧ l9 ≤ n (-1) 0 - 1))))) [ob o 10 (shM A r) I, fam G A (uN N r n)] := by
  refine MX_of (lv := [some (.ref o), some (.int (zI l9))]) hK (by decide +kernel) rfl (nle rfl) (fun X C F => ?_)
  have C : OKc G X l RX8 "isLine" cX8_isLine 2 (some .boolean) 2 0 0 := C
  refine x_iload_n C eX8_isLine_0 rfl ?_
  refine x_i2l C eX8_isLine_1 (by omega) ?_
  refine x_lconst (v := 0) C eX8_isLine_2 rfl ?_
  refine x_aload_n C eX8_isLine_3 rfl ?_
  refine yV0r [] [_, _] C (s_X8_lines hK hr) v_X8_lines vv_X8_lines s_RX8_68 eX8_isLine_4 (fun _ _ h => WF_pick [0, 1] rfl rfl h) (rcv 0 rfl) rfl (nle rfl) (nle rfl) (nle rfl) (nle rfl) rfl ?_
  refine x_iconst C eX8_isLine_7 ?_
  refine x_isub C eX8_isLine_8 ?_
  refine x_i2l C eX8_isLine_9 (by omega) ?_
  refine yS3r [_, _] [_, _] C (s_X8_in hK (by (try simp (disch := omega) only [Int.reduceAdd, uN_s, uN_uN, un_s, un_un, un_n, ub_s, ub_n, inc, bStop_n, bDrop_s, bDrop_n, unub_n, nLog_n, nLog_h, Int.sub_add_cancel]); omega)) v_X8_in vs_X8_in s_RX8_72 eX8_isLine_10 (fun _ _ h => WF_pick [0, 1] rfl rfl h) rfl (nle rfl) (nle rfl) (nle rfl) (nle rfl) rfl ?_
  refine x_iret (nz_bz _) C F eX8_isLine_13 () ?_ trivial (fun cf c h => ?_) (nle rfl) (nle rfl)
  · rfl
  · exact WF_pick [0, 1] rfl rfl h

set_option maxHeartbeats 4000000 in
set_option maxRecDepth 100000 in
theorem s_X8_isHeld {G : Gm} {l : Launch} (hK : KG G) {o r : Nat} {A : Nat → Nat} {I : Nat → Int} {N : Nat → Net} {n : Net} {l9 : Int} (hr : rok r) (hl : 0 ≤ l9 ∧ l9 < 6) (hb : -2147483648 ≤ n l9 9 ∧ n l9 9 < 2147483648) : MD G l yX8_isHeld cX8_isHeld 2 (some .boolean) 2 0 0 [.ref o, .int (zI l9)] [ob o 10 (shM A r) I, fam G A (uN N r n)] (some (.int (zI (bz (0 < n l9 9))))) [ob o 10 (shM A r) I, fam G A (uN N r n)] := by
  refine MX_of (lv := [some (.ref o), some (.int (zI l9))]) hK (by decide +kernel) rfl (nle rfl) (fun X C F => ?_)
  have C : OKc G X l RX8 "isHeld" cX8_isHeld 2 (some .boolean) 2 0 0 := C
  refine x_aload_n C eX8_isHeld_0 rfl ?_
  refine x_iload_n C eX8_isHeld_1 rfl ?_
  refine x_bipush C eX8_isHeld_2 rfl ?_
  refine yV2r [] [_, _] C (s_X8_of hK hr (by (try simp (disch := omega) only [Int.reduceAdd, uN_s, uN_uN, un_s, un_un, un_n, ub_s, ub_n, inc, bStop_n, bDrop_s, bDrop_n, unub_n, nLog_n, nLog_h, Int.sub_add_cancel]); omega) (by (try simp (disch := omega) only [Int.reduceAdd, uN_s, uN_uN, un_s, un_un, un_n, ub_s, ub_n, inc, bStop_n, bDrop_s, bDrop_n, unub_n, nLog_n, nLog_h, Int.sub_add_cancel]); omega)) v_X8_of vv_X8_of s_RX8_64 eX8_isHeld_4 (fun _ _ h => WF_pick [0, 1] rfl rfl h) (rcv 0 rfl) rfl (nle rfl) (nle rfl) (nle rfl) (nle rfl) rfl ?_
  refine x_if_le 14 C eX8_isHeld_7 rfl (by omega) (fun h7 => ?_) (fun h7 => ?_)
  · refine x_iconst C eX8_isHeld_14 ?_
    refine x_iret (narZ (by omega)).1 C F eX8_isHeld_15 () ?_ trivial (fun cf c h => ?_) (nle rfl) (nle rfl)
    · first | rfl | rw [bz_t (by omega)] | rw [bz_f (by omega)]
    · exact WF_pick [0, 1] rfl rfl h
  · refine x_iconst C eX8_isHeld_10 ?_
    refine x_goto (pc' := 15) C eX8_isHeld_11 rfl ?_
    refine x_iret (narZ (by omega)).1 C F eX8_isHeld_15 () ?_ trivial (fun cf c h => ?_) (nle rfl) (nle rfl)
    · first | rfl | rw [bz_t (by omega)] | rw [bz_f (by omega)]
    · exact WF_pick [0, 1] rfl rfl h

set_option maxHeartbeats 4000000 in
set_option maxRecDepth 100000 in
theorem s_X8_lends {G : Gm} {l : Launch} (hK : KG G) {o r : Nat} {A : Nat → Nat} {I : Nat → Int} {N : Nat → Net} {n : Net} {l9 : Int} (hr : rok r) (hl : 0 ≤ l9 ∧ l9 < 6) (hb : -2147483648 ≤ n l9 12 ∧ n l9 12 < 2147483648) : MD G l yX8_lends cX8_lends 2 (some .boolean) 2 0 0 [.ref o, .int (zI l9)] [ob o 10 (shM A r) I, fam G A (uN N r n)] (some (.int (zI (bz (0 < n l9 12))))) [ob o 10 (shM A r) I, fam G A (uN N r n)] := by
  refine MX_of (lv := [some (.ref o), some (.int (zI l9))]) hK (by decide +kernel) rfl (nle rfl) (fun X C F => ?_)
  have C : OKc G X l RX8 "lends" cX8_lends 2 (some .boolean) 2 0 0 := C
  refine x_aload_n C eX8_lends_0 rfl ?_
  refine x_iload_n C eX8_lends_1 rfl ?_
  refine x_bipush C eX8_lends_2 rfl ?_
  refine yV2r [] [_, _] C (s_X8_of hK hr (by (try simp (disch := omega) only [Int.reduceAdd, uN_s, uN_uN, un_s, un_un, un_n, ub_s, ub_n, inc, bStop_n, bDrop_s, bDrop_n, unub_n, nLog_n, nLog_h, Int.sub_add_cancel]); omega) (by (try simp (disch := omega) only [Int.reduceAdd, uN_s, uN_uN, un_s, un_un, un_n, ub_s, ub_n, inc, bStop_n, bDrop_s, bDrop_n, unub_n, nLog_n, nLog_h, Int.sub_add_cancel]); omega)) v_X8_of vv_X8_of s_RX8_64 eX8_lends_4 (fun _ _ h => WF_pick [0, 1] rfl rfl h) (rcv 0 rfl) rfl (nle rfl) (nle rfl) (nle rfl) (nle rfl) rfl ?_
  refine x_if_le 14 C eX8_lends_7 rfl (by omega) (fun h7 => ?_) (fun h7 => ?_)
  · refine x_iconst C eX8_lends_14 ?_
    refine x_iret (narZ (by omega)).1 C F eX8_lends_15 () ?_ trivial (fun cf c h => ?_) (nle rfl) (nle rfl)
    · first | rfl | rw [bz_t (by omega)] | rw [bz_f (by omega)]
    · exact WF_pick [0, 1] rfl rfl h
  · refine x_iconst C eX8_lends_10 ?_
    refine x_goto (pc' := 15) C eX8_lends_11 rfl ?_
    refine x_iret (narZ (by omega)).1 C F eX8_lends_15 () ?_ trivial (fun cf c h => ?_) (nle rfl) (nle rfl)
    · first | rfl | rw [bz_t (by omega)] | rw [bz_f (by omega)]
    · exact WF_pick [0, 1] rfl rfl h

set_option maxHeartbeats 4000000 in
set_option maxRecDepth 100000 in
theorem s_X8_dropFirst {G : Gm} {l : Launch} (hK : KG G) {o r : Nat} {A : Nat → Nat} {I : Nat → Int} {N : Nat → Net} {n : Net} {l9 q9 s9 : Int} (hr : rok r) (hl : 0 ≤ l9 ∧ l9 < 6) (hq : 28 ≤ q9 ∧ q9 ≤ 148) (hs : 0 ≤ s9 ∧ s9 < 28) (hB : 1 ≤ n l9 s9 ∧ n l9 s9 ≤ 60) : MD G l yX8_dropFirst cX8_dropFirst 5 none 2 0 0 [.ref o, .int (zI l9), .int (zI q9), .int (zI s9)] [ob o 10 (shM A r) I, fam G A (uN N r n)] none [ob o 10 (shM A r) I, fam G A (uN N r (un n l9 (bDrop (n l9) q9 s9)))] := by
  refine MX_of (lv := [some (.ref o), some (.int (zI l9)), some (.int (zI q9)), some (.int (zI s9)), none]) hK (by decide +kernel) rfl (nle rfl) (fun X C F => ?_)
  have C : OKc G X l RX8 "dropFirst" cX8_dropFirst 5 none 2 0 0 := C
  have loop : ∀ (j : Nat) (k : Int), 0 ≤ k → k ≤ n l9 s9 - 1 → n l9 s9 - k ≤ j → WX G X 0 0 [ob o 10 (shM A r) I, fam G A (uN N r (un n l9 (bShift (n l9) q9 k)))] 3 [some (.ref o), some (.int (zI l9)), some (.int (zI q9)), some (.int (zI s9)), some (.int (zI k))] [] := by
    intro j
    induction j with
    | zero => intro k h0 h1 h2; exfalso; omega
    | succ j ih =>
      intro k h0 h1 h2
      have e0 : bShift (n l9) q9 k s9 = n l9 s9 := bShift_out (by omega)
      refine x_iload C eX8_dropFirst_3 rfl ?_
      refine x_iconst C eX8_dropFirst_5 ?_
      refine x_iadd C eX8_dropFirst_6 ?_
      refine x_aload_n C eX8_dropFirst_7 rfl ?_
      refine x_iload_n C eX8_dropFirst_8 rfl ?_
      refine x_iload_n C eX8_dropFirst_9 rfl ?_
      refine yV2r [] [_, _] C (s_X8_of hK hr (by (try simp (disch := omega) only [Int.reduceAdd, uN_s, uN_uN, un_s, un_un, un_n, ub_s, ub_n, inc, bStop_n, bDrop_s, bDrop_n, unub_n, nLog_n, nLog_h, Int.sub_add_cancel]); omega) (by (try simp (disch := omega) only [Int.reduceAdd, uN_s, uN_uN, un_s, un_un, un_n, ub_s, ub_n, inc, bStop_n, bDrop_s, bDrop_n, unub_n, nLog_n, nLog_h, Int.sub_add_cancel]); omega)) v_X8_of vv_X8_of s_RX8_64 eX8_dropFirst_10 (fun _ _ h => WF_pick [0, 1] rfl rfl h) (rcv 0 rfl) rfl (nle rfl) (nle rfl) (nle rfl) (nle rfl) rfl ?_
      try simp (disch := omega) only [un_s, un_un, e0]
      refine x_icmp_ge 42 C eX8_dropFirst_13 rfl (by omega) (by omega) (fun h13 => ?_) (fun h13 => ?_)
      · refine x_aload_n C eX8_dropFirst_42 rfl ?_
        refine x_iload_n C eX8_dropFirst_43 rfl ?_
        refine x_iload_n C eX8_dropFirst_44 rfl ?_
        refine x_iconst C eX8_dropFirst_45 ?_
        refine yV3v [] [_, _] C (s_X8_add hK hr (by (try simp (disch := omega) only [Int.reduceAdd, uN_s, uN_uN, un_s, un_un, un_n, ub_s, ub_n, inc, bStop_n, bDrop_s, bDrop_n, unub_n, nLog_n, nLog_h, Int.sub_add_cancel]); omega) (by (try simp (disch := omega) only [Int.reduceAdd, uN_s, uN_uN, un_s, un_un, un_n, ub_s, ub_n, inc, bStop_n, bDrop_s, bDrop_n, unub_n, nLog_n, nLog_h, Int.sub_add_cancel]); omega)) v_X8_add vv_X8_add s_RX8_60 eX8_dropFirst_46 (fun _ _ h => WF_pick [0, 1] rfl rfl h) (rcv 0 rfl) rfl (nle rfl) (nle rfl) (nle rfl) (nle rfl) rfl ?_
        try simp (disch := omega) only [un_s, un_un, e0]
        refine x_vret C F eX8_dropFirst_49 () rfl trivial (fun cf c h => ?_) (nle rfl) (nle rfl)
        refine PW.wf (PW_cons (fun _ h => h) (PW_cons (fun _ h => ?_) PW_nil)) (WF_pick [0, 1] rfl rfl h)
        rw [show bDrop (n l9) q9 s9 = ub (bShift (n l9) q9 k) s9 (n l9 s9 + -1) from bDrop_shift (by omega) (by omega)]
        exact h
      · refine x_aload_n C eX8_dropFirst_16 rfl ?_
        refine x_iload_n C eX8_dropFirst_17 rfl ?_
        refine x_iload_n C eX8_dropFirst_18 rfl ?_
        refine x_iload C eX8_dropFirst_19 rfl ?_
        refine x_iadd C eX8_dropFirst_21 ?_
        refine x_aload_n C eX8_dropFirst_22 rfl ?_
        refine x_iload_n C eX8_dropFirst_23 rfl ?_
        refine x_iload_n C eX8_dropFirst_24 rfl ?_
        refine x_iload C eX8_dropFirst_25 rfl ?_
        refine x_iadd C eX8_dropFirst_27 ?_
        refine x_iconst C eX8_dropFirst_28 ?_
        refine x_iadd C eX8_dropFirst_29 ?_
        refine yV2r [] [_, _] C (s_X8_of hK hr (by (try simp (disch := omega) only [Int.reduceAdd, uN_s, uN_uN, un_s, un_un, un_n, ub_s, ub_n, inc, bStop_n, bDrop_s, bDrop_n, unub_n, nLog_n, nLog_h, Int.sub_add_cancel]); omega) (by (try simp (disch := omega) only [Int.reduceAdd, uN_s, uN_uN, un_s, un_un, un_n, ub_s, ub_n, inc, bStop_n, bDrop_s, bDrop_n, unub_n, nLog_n, nLog_h, Int.sub_add_cancel]); omega)) v_X8_of vv_X8_of s_RX8_64 eX8_dropFirst_30 (fun _ _ h => WF_pick [0, 1] rfl rfl h) (rcv 0 rfl) rfl (nle rfl) (nle rfl) (nle rfl) (nle rfl) rfl ?_
        try simp (disch := omega) only [un_s, un_un, e0]
        refine yV3v [] [_, _] C (s_X8_put hK hr (by (try simp (disch := omega) only [Int.reduceAdd, uN_s, uN_uN, un_s, un_un, un_n, ub_s, ub_n, inc, bStop_n, bDrop_s, bDrop_n, unub_n, nLog_n, nLog_h, Int.sub_add_cancel]); omega) (by (try simp (disch := omega) only [Int.reduceAdd, uN_s, uN_uN, un_s, un_un, un_n, ub_s, ub_n, inc, bStop_n, bDrop_s, bDrop_n, unub_n, nLog_n, nLog_h, Int.sub_add_cancel]); omega)) v_X8_put vv_X8_put s_RX8_76 eX8_dropFirst_33 (fun _ _ h => WF_pick [0, 1] rfl rfl h) (rcv 0 rfl) rfl (nle rfl) (nle rfl) (nle rfl) (nle rfl) rfl ?_
        try simp (disch := omega) only [un_s, un_un, e0]
        refine x_iinc [_, _, _, _, _] C eX8_dropFirst_36 rfl rfl rfl ?_
        refine x_goto (pc' := 3) C eX8_dropFirst_39 rfl ?_
        rw [bShift_step _ _ _ h0]
        exact ih (k + 1) (by omega) (by omega) (by omega)
  refine x_iconst C eX8_dropFirst_0 ?_
  refine x_istore [_, _, _, _, _] C eX8_dropFirst_1 rfl rfl (nlt rfl) ?_
  have h := loop 60 0 (by omega) (by omega) (by omega)
  rw [bShift_0, un_id] at h
  exact h

set_option maxHeartbeats 4000000 in
set_option maxRecDepth 100000 in
theorem s_X8_layStop {G : Gm} {l : Launch} (hK : KG G) {o r : Nat} {A : Nat → Nat} {I : Nat → Int} {N : Nat → Net} {n : Net} {l9 : Int} (hr : rok r) (hl : 0 ≤ l9 ∧ l9 < 6) (hB : (0 ≤ n l9 6 ∧ n l9 6 ≤ 60) ∧ (0 ≤ n l9 3 ∧ n l9 3 ≤ 60) ∧ (0 ≤ n l9 2 ∧ n l9 2 ≤ 60) ∧ (0 ≤ n l9 10 ∧ n l9 10 ≤ 1)) : MD G l yX8_layStop cX8_layStop 2 none 3 0 0 [.ref o, .int (zI l9)] [ob o 10 (shM A r) I, fam G A (uN N r n)] none [ob o 10 (shM A r) I, fam G A (uN N r (un n l9 (bStop (n l9))))] := by
  refine MX_of (lv := [some (.ref o), some (.int (zI l9))]) hK (by decide +kernel) rfl (nle rfl) (fun X C F => ?_)
  have C : OKc G X l RX8 "layStop" cX8_layStop 2 none 3 0 0 := C
  refine x_aload_n C eX8_layStop_0 rfl ?_
  refine x_iload_n C eX8_layStop_1 rfl ?_
  refine x_bipush C eX8_layStop_2 rfl ?_
  refine yV2r [] [_, _] C (s_X8_of hK hr (by (try simp (disch := omega) only [Int.reduceAdd, uN_s, uN_uN, un_s, un_un, un_n, ub_s, ub_n, inc, bStop_n, bDrop_s, bDrop_n, unub_n, nLog_n, nLog_h, Int.sub_add_cancel]); omega) (by (try simp (disch := omega) only [Int.reduceAdd, uN_s, uN_uN, un_s, un_un, un_n, ub_s, ub_n, inc, bStop_n, bDrop_s, bDrop_n, unub_n, nLog_n, nLog_h, Int.sub_add_cancel]); omega)) v_X8_of vv_X8_of s_RX8_64 eX8_layStop_4 (fun _ _ h => WF_pick [0, 1] rfl rfl h) (rcv 0 rfl) rfl (nle rfl) (nle rfl) (nle rfl) (nle rfl) rfl ?_
  refine x_aload_n C eX8_layStop_7 rfl ?_
  refine x_iload_n C eX8_layStop_8 rfl ?_
  refine x_iconst C eX8_layStop_9 ?_
  refine yV2r [] [_, _] C (s_X8_of hK hr (by (try simp (disch := omega) only [Int.reduceAdd, uN_s, uN_uN, un_s, un_un, un_n, ub_s, ub_n, inc, bStop_n, bDrop_s, bDrop_n, unub_n, nLog_n, nLog_h, Int.sub_add_cancel]); omega) (by (try simp (disch := omega) only [Int.reduceAdd, uN_s, uN_uN, un_s, un_un, un_n, ub_s, ub_n, inc, bStop_n, bDrop_s, bDrop_n, unub_n, nLog_n, nLog_h, Int.sub_add_cancel]); omega)) v_X8_of vv_X8_of s_RX8_64 eX8_layStop_10 (fun _ _ h => WF_pick [0, 1] rfl rfl h) (rcv 0 rfl) rfl (nle rfl) (nle rfl) (nle rfl) (nle rfl) rfl ?_
  refine x_icmp_lt 44 C eX8_layStop_13 rfl (by omega) (by omega) (fun h13 => ?_) (fun h13 => ?_)
  · refine x_aload_n C eX8_layStop_44 rfl ?_
    refine x_iload_n C eX8_layStop_45 rfl ?_
    refine x_bipush C eX8_layStop_46 rfl ?_
    refine yV2r [] [_, _] C (s_X8_of hK hr (by (try simp (disch := omega) only [Int.reduceAdd, uN_s, uN_uN, un_s, un_un, un_n, ub_s, ub_n, inc, bStop_n, bDrop_s, bDrop_n, unub_n, nLog_n, nLog_h, Int.sub_add_cancel]); omega) (by (try simp (disch := omega) only [Int.reduceAdd, uN_s, uN_uN, un_s, un_un, un_n, ub_s, ub_n, inc, bStop_n, bDrop_s, bDrop_n, unub_n, nLog_n, nLog_h, Int.sub_add_cancel]); omega)) v_X8_of vv_X8_of s_RX8_64 eX8_layStop_48 (fun _ _ h => WF_pick [0, 1] rfl rfl h) (rcv 0 rfl) rfl (nle rfl) (nle rfl) (nle rfl) (nle rfl) rfl ?_
    refine x_aload_n C eX8_layStop_51 rfl ?_
    refine x_iload_n C eX8_layStop_52 rfl ?_
    refine x_iconst C eX8_layStop_53 ?_
    refine yV2r [] [_, _] C (s_X8_of hK hr (by (try simp (disch := omega) only [Int.reduceAdd, uN_s, uN_uN, un_s, un_un, un_n, ub_s, ub_n, inc, bStop_n, bDrop_s, bDrop_n, unub_n, nLog_n, nLog_h, Int.sub_add_cancel]); omega) (by (try simp (disch := omega) only [Int.reduceAdd, uN_s, uN_uN, un_s, un_un, un_n, ub_s, ub_n, inc, bStop_n, bDrop_s, bDrop_n, unub_n, nLog_n, nLog_h, Int.sub_add_cancel]); omega)) v_X8_of vv_X8_of s_RX8_64 eX8_layStop_54 (fun _ _ h => WF_pick [0, 1] rfl rfl h) (rcv 0 rfl) rfl (nle rfl) (nle rfl) (nle rfl) (nle rfl) rfl ?_
    refine x_icmp_gt 68 C eX8_layStop_57 rfl (by omega) (by omega) (fun h57 => ?_) (fun h57 => ?_)
    · refine x_vret C F eX8_layStop_68 () rfl trivial (fun cf c h => ?_) (nle rfl) (nle rfl)
      first
        | rw [show bStop (n l9) = n l9 from by unfold bStop; rw [if_neg (by omega), if_neg (by omega)], un_id]; exact WF_pick [0, 1] rfl rfl h
        | rw [show bStop (n l9) = ub (n l9) 10 0 from by unfold bStop; rw [if_neg (by omega), if_pos (by omega)]]; exact WF_pick [0, 1] rfl rfl h
        | rw [show bStop (n l9) = inc (ub (n l9) 10 1) 24 from by unfold bStop; rw [if_pos (by omega)]]; (try simp (disch := omega) only [inc, ub_n, ub_s]); exact WF_pick [0, 1] rfl rfl h
    · refine x_aload_n C eX8_layStop_60 rfl ?_
      refine x_iload_n C eX8_layStop_61 rfl ?_
      refine x_bipush C eX8_layStop_62 rfl ?_
      refine x_iconst C eX8_layStop_64 ?_
      refine yV3v [] [_, _] C (s_X8_put hK hr (by (try simp (disch := omega) only [Int.reduceAdd, uN_s, uN_uN, un_s, un_un, un_n, ub_s, ub_n, inc, bStop_n, bDrop_s, bDrop_n, unub_n, nLog_n, nLog_h, Int.sub_add_cancel]); omega) (by (try simp (disch := omega) only [Int.reduceAdd, uN_s, uN_uN, un_s, un_un, un_n, ub_s, ub_n, inc, bStop_n, bDrop_s, bDrop_n, unub_n, nLog_n, nLog_h, Int.sub_add_cancel]); omega)) v_X8_put vv_X8_put s_RX8_76 eX8_layStop_65 (fun _ _ h => WF_pick [0, 1] rfl rfl h) (rcv 0 rfl) rfl (nle rfl) (nle rfl) (nle rfl) (nle rfl) rfl ?_
      try simp (disch := omega) only [Int.reduceAdd, uN_s, uN_uN, un_s, un_un, un_n, ub_s, ub_n, inc, bStop_n, bDrop_s, bDrop_n, unub_n, nLog_n, nLog_h, Int.sub_add_cancel]
      refine x_vret C F eX8_layStop_68 () rfl trivial (fun cf c h => ?_) (nle rfl) (nle rfl)
      first
        | rw [show bStop (n l9) = n l9 from by unfold bStop; rw [if_neg (by omega), if_neg (by omega)], un_id]; exact WF_pick [0, 1] rfl rfl h
        | rw [show bStop (n l9) = ub (n l9) 10 0 from by unfold bStop; rw [if_neg (by omega), if_pos (by omega)]]; exact WF_pick [0, 1] rfl rfl h
        | rw [show bStop (n l9) = inc (ub (n l9) 10 1) 24 from by unfold bStop; rw [if_pos (by omega)]]; (try simp (disch := omega) only [inc, ub_n, ub_s]); exact WF_pick [0, 1] rfl rfl h
  · refine x_aload_n C eX8_layStop_16 rfl ?_
    refine x_iload_n C eX8_layStop_17 rfl ?_
    refine x_bipush C eX8_layStop_18 rfl ?_
    refine yV2r [] [_, _] C (s_X8_of hK hr (by (try simp (disch := omega) only [Int.reduceAdd, uN_s, uN_uN, un_s, un_un, un_n, ub_s, ub_n, inc, bStop_n, bDrop_s, bDrop_n, unub_n, nLog_n, nLog_h, Int.sub_add_cancel]); omega) (by (try simp (disch := omega) only [Int.reduceAdd, uN_s, uN_uN, un_s, un_un, un_n, ub_s, ub_n, inc, bStop_n, bDrop_s, bDrop_n, unub_n, nLog_n, nLog_h, Int.sub_add_cancel]); omega)) v_X8_of vv_X8_of s_RX8_64 eX8_layStop_20 (fun _ _ h => WF_pick [0, 1] rfl rfl h) (rcv 0 rfl) rfl (nle rfl) (nle rfl) (nle rfl) (nle rfl) rfl ?_
    refine x_if_ne 44 C eX8_layStop_23 rfl (by omega) (fun h23 => ?_) (fun h23 => ?_)
    · refine x_aload_n C eX8_layStop_44 rfl ?_
      refine x_iload_n C eX8_layStop_45 rfl ?_
      refine x_bipush C eX8_layStop_46 rfl ?_
      refine yV2r [] [_, _] C (s_X8_of hK hr (by (try simp (disch := omega) only [Int.reduceAdd, uN_s, uN_uN, un_s, un_un, un_n, ub_s, ub_n, inc, bStop_n, bDrop_s, bDrop_n, unub_n, nLog_n, nLog_h, Int.sub_add_cancel]); omega) (by (try simp (disch := omega) only [Int.reduceAdd, uN_s, uN_uN, un_s, un_un, un_n, ub_s, ub_n, inc, bStop_n, bDrop_s, bDrop_n, unub_n, nLog_n, nLog_h, Int.sub_add_cancel]); omega)) v_X8_of vv_X8_of s_RX8_64 eX8_layStop_48 (fun _ _ h => WF_pick [0, 1] rfl rfl h) (rcv 0 rfl) rfl (nle rfl) (nle rfl) (nle rfl) (nle rfl) rfl ?_
      refine x_aload_n C eX8_layStop_51 rfl ?_
      refine x_iload_n C eX8_layStop_52 rfl ?_
      refine x_iconst C eX8_layStop_53 ?_
      refine yV2r [] [_, _] C (s_X8_of hK hr (by (try simp (disch := omega) only [Int.reduceAdd, uN_s, uN_uN, un_s, un_un, un_n, ub_s, ub_n, inc, bStop_n, bDrop_s, bDrop_n, unub_n, nLog_n, nLog_h, Int.sub_add_cancel]); omega) (by (try simp (disch := omega) only [Int.reduceAdd, uN_s, uN_uN, un_s, un_un, un_n, ub_s, ub_n, inc, bStop_n, bDrop_s, bDrop_n, unub_n, nLog_n, nLog_h, Int.sub_add_cancel]); omega)) v_X8_of vv_X8_of s_RX8_64 eX8_layStop_54 (fun _ _ h => WF_pick [0, 1] rfl rfl h) (rcv 0 rfl) rfl (nle rfl) (nle rfl) (nle rfl) (nle rfl) rfl ?_
      refine x_icmp_gt 68 C eX8_layStop_57 rfl (by omega) (by omega) (fun h57 => ?_) (fun h57 => ?_)
      · refine x_vret C F eX8_layStop_68 () rfl trivial (fun cf c h => ?_) (nle rfl) (nle rfl)
        first
          | rw [show bStop (n l9) = n l9 from by unfold bStop; rw [if_neg (by omega), if_neg (by omega)], un_id]; exact WF_pick [0, 1] rfl rfl h
          | rw [show bStop (n l9) = ub (n l9) 10 0 from by unfold bStop; rw [if_neg (by omega), if_pos (by omega)]]; exact WF_pick [0, 1] rfl rfl h
          | rw [show bStop (n l9) = inc (ub (n l9) 10 1) 24 from by unfold bStop; rw [if_pos (by omega)]]; (try simp (disch := omega) only [inc, ub_n, ub_s]); exact WF_pick [0, 1] rfl rfl h
      · refine x_aload_n C eX8_layStop_60 rfl ?_
        refine x_iload_n C eX8_layStop_61 rfl ?_
        refine x_bipush C eX8_layStop_62 rfl ?_
        refine x_iconst C eX8_layStop_64 ?_
        refine yV3v [] [_, _] C (s_X8_put hK hr (by (try simp (disch := omega) only [Int.reduceAdd, uN_s, uN_uN, un_s, un_un, un_n, ub_s, ub_n, inc, bStop_n, bDrop_s, bDrop_n, unub_n, nLog_n, nLog_h, Int.sub_add_cancel]); omega) (by (try simp (disch := omega) only [Int.reduceAdd, uN_s, uN_uN, un_s, un_un, un_n, ub_s, ub_n, inc, bStop_n, bDrop_s, bDrop_n, unub_n, nLog_n, nLog_h, Int.sub_add_cancel]); omega)) v_X8_put vv_X8_put s_RX8_76 eX8_layStop_65 (fun _ _ h => WF_pick [0, 1] rfl rfl h) (rcv 0 rfl) rfl (nle rfl) (nle rfl) (nle rfl) (nle rfl) rfl ?_
        try simp (disch := omega) only [Int.reduceAdd, uN_s, uN_uN, un_s, un_un, un_n, ub_s, ub_n, inc, bStop_n, bDrop_s, bDrop_n, unub_n, nLog_n, nLog_h, Int.sub_add_cancel]
        refine x_vret C F eX8_layStop_68 () rfl trivial (fun cf c h => ?_) (nle rfl) (nle rfl)
        first
          | rw [show bStop (n l9) = n l9 from by unfold bStop; rw [if_neg (by omega), if_neg (by omega)], un_id]; exact WF_pick [0, 1] rfl rfl h
          | rw [show bStop (n l9) = ub (n l9) 10 0 from by unfold bStop; rw [if_neg (by omega), if_pos (by omega)]]; exact WF_pick [0, 1] rfl rfl h
          | rw [show bStop (n l9) = inc (ub (n l9) 10 1) 24 from by unfold bStop; rw [if_pos (by omega)]]; (try simp (disch := omega) only [inc, ub_n, ub_s]); exact WF_pick [0, 1] rfl rfl h
    · refine x_aload_n C eX8_layStop_26 rfl ?_
      refine x_iload_n C eX8_layStop_27 rfl ?_
      refine x_bipush C eX8_layStop_28 rfl ?_
      refine x_iconst C eX8_layStop_30 ?_
      refine yV3v [] [_, _] C (s_X8_put hK hr (by (try simp (disch := omega) only [Int.reduceAdd, uN_s, uN_uN, un_s, un_un, un_n, ub_s, ub_n, inc, bStop_n, bDrop_s, bDrop_n, unub_n, nLog_n, nLog_h, Int.sub_add_cancel]); omega) (by (try simp (disch := omega) only [Int.reduceAdd, uN_s, uN_uN, un_s, un_un, un_n, ub_s, ub_n, inc, bStop_n, bDrop_s, bDrop_n, unub_n, nLog_n, nLog_h, Int.sub_add_cancel]); omega)) v_X8_put vv_X8_put s_RX8_76 eX8_layStop_31 (fun _ _ h => WF_pick [0, 1] rfl rfl h) (rcv 0 rfl) rfl (nle rfl) (nle rfl) (nle rfl) (nle rfl) rfl ?_
      try simp (disch := omega) only [Int.reduceAdd, uN_s, uN_uN, un_s, un_un, un_n, ub_s, ub_n, inc, bStop_n, bDrop_s, bDrop_n, unub_n, nLog_n, nLog_h, Int.sub_add_cancel]
      refine x_aload_n C eX8_layStop_34 rfl ?_
      refine x_iload_n C eX8_layStop_35 rfl ?_
      refine x_bipush C eX8_layStop_36 rfl ?_
      refine yV2v [] [_, _] C (s_X8_counts hK hr (by (try simp (disch := omega) only [Int.reduceAdd, uN_s, uN_uN, un_s, un_un, un_n, ub_s, ub_n, inc, bStop_n, bDrop_s, bDrop_n, unub_n, nLog_n, nLog_h, Int.sub_add_cancel]); omega) (by (try simp (disch := omega) only [Int.reduceAdd, uN_s, uN_uN, un_s, un_un, un_n, ub_s, ub_n, inc, bStop_n, bDrop_s, bDrop_n, unub_n, nLog_n, nLog_h, Int.sub_add_cancel]); omega)) v_X8_counts vv_X8_counts s_RX8_79 eX8_layStop_38 (fun _ _ h => WF_pick [0, 1] rfl rfl h) (rcv 0 rfl) rfl (nle rfl) (nle rfl) (nle rfl) (nle rfl) rfl ?_
      try simp (disch := omega) only [Int.reduceAdd, uN_s, uN_uN, un_s, un_un, un_n, ub_s, ub_n, inc, bStop_n, bDrop_s, bDrop_n, unub_n, nLog_n, nLog_h, Int.sub_add_cancel]
      refine x_goto (pc' := 68) C eX8_layStop_41 rfl ?_
      refine x_vret C F eX8_layStop_68 () rfl trivial (fun cf c h => ?_) (nle rfl) (nle rfl)
      first
        | rw [show bStop (n l9) = n l9 from by unfold bStop; rw [if_neg (by omega), if_neg (by omega)], un_id]; exact WF_pick [0, 1] rfl rfl h
        | rw [show bStop (n l9) = ub (n l9) 10 0 from by unfold bStop; rw [if_neg (by omega), if_pos (by omega)]]; exact WF_pick [0, 1] rfl rfl h
        | rw [show bStop (n l9) = inc (ub (n l9) 10 1) 24 from by unfold bStop; rw [if_pos (by omega)]]; (try simp (disch := omega) only [inc, ub_n, ub_s]); exact WF_pick [0, 1] rfl rfl h
