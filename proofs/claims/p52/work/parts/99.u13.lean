/-! Texts of the class. -/

set_option maxHeartbeats 4000000 in
set_option maxRecDepth 100000 in
theorem s_X4_addByteI {G : Gm} {l : Launch} (hK : KG G) {q b : Nat} {z : Int} {Fb : Nat → Int} {v9 : Int32} (hz : 0 ≤ z ∧ z < 400) : MD G l yX4_addByte cX4_addByte 2 none 1 0 0 [.ref q, .int v9] [ob q 6 [some (.ref b), none] (fun _ => z), ar G 1 b 400 400 (Fb)] none [ob q 6 [some (.ref b), none] (fun _ => (z + 1)), ar G 1 b 400 400 (up Fb z.toNat (v9.toInt8.toInt32).toInt8.toInt)] := by
  refine MX_of (lv := [some (.ref q), some (.int v9)]) hK (by decide +kernel) rfl (nle rfl) (fun X C F => ?_)
  have C : OKc G X l RX4 "addByte" cX4_addByte 2 none 1 0 0 := C
  refine x_aload_n C eX4_addByte_0 rfl ?_
  refine x_getI 0 C f_RX4_15 eX4_addByte_1 rfl rfl ?_
  try simp (disch := decide) only [up_s, up_n]
  refine x_if_lt 40 C eX4_addByte_4 rfl (by omega) (fun h4 => ?_) (fun h4 => ?_)
  · exfalso; omega
  · refine x_aload_n C eX4_addByte_7 rfl ?_
    refine x_getI 0 C f_RX4_15 eX4_addByte_8 rfl rfl ?_
    try simp (disch := decide) only [up_s, up_n]
    refine x_aload_n C eX4_addByte_11 rfl ?_
    refine x_getR 0 C f_RX4_9 eX4_addByte_12 rfl rfl ?_
    refine x_alen 1 C eX4_addByte_15 rfl (by decide) ar_al ?_
    refine x_icmp_ge 40 C eX4_addByte_16 rfl (by omega) (by omega) (fun h16 => ?_) (fun h16 => ?_)
    · exfalso; omega
    · refine x_aload_n C eX4_addByte_19 rfl ?_
      refine x_getR 0 C f_RX4_9 eX4_addByte_20 rfl rfl ?_
      refine x_aload_n C eX4_addByte_23 rfl ?_
      refine x_getI 0 C f_RX4_15 eX4_addByte_24 rfl rfl ?_
      try simp (disch := decide) only [up_s, up_n]
      refine x_iload_n C eX4_addByte_27 rfl ?_
      refine x_i2bR C eX4_addByte_28 ?_
      refine x_bast (x := 0) [_, _] 400 1 C eX4_addByte_29 rfl (by decide) (by omega) (by omega) rfl ?_
      refine x_aload_n C eX4_addByte_30 rfl ?_
      refine x_dup C eX4_addByte_31 rfl ?_
      refine x_getI 0 C f_RX4_15 eX4_addByte_32 rfl rfl ?_
      try simp (disch := decide) only [up_s, up_n]
      refine x_iconst C eX4_addByte_35 ?_
      refine x_iadd C eX4_addByte_36 ?_
      refine x_putI [_, _] 0 C f_RX4_15 eX4_addByte_37 rfl rfl rfl ?_
      refine x_vret C F eX4_addByte_40 () rfl trivial (fun cf c h => ?_) (nle rfl) (nle rfl)
      refine PW.wf (PW_cons (fun _ h => ob_congr (fun i hi9 => ?_) h) (PW_cons (fun _ h => ?_) PW_nil)) (WF_pick [0, 1] rfl rfl h)
      · match i with
        | 0 => exact absurd hi9 (by simp)
        | 1 => exact up_s _ _ _
        | (k + 2) => exact absurd hi9 (by simp)
      · exact h

set_option maxHeartbeats 4000000 in
set_option maxRecDepth 100000 in
theorem s_X4_byteAt {G : Gm} {l : Launch} (hK : KG G) {q b : Nat} {z i9 : Int} {Fb : Nat → Int} {m : Nat} (hz : (0 ≤ z ∧ z ≤ m) ∧ m ≤ 400) (hF : ∀ j : Nat, (j : Int) < z → -128 ≤ Fb j ∧ Fb j ≤ 127) (hi : 0 ≤ i9 ∧ i9 < 2147483648) : MD G l yX4_byteAt cX4_byteAt 2 (some .int) 1 0 0 [.ref q, .int (zI i9)] [ob q 6 [some (.ref b), none] (fun _ => z), ar G 1 b 400 m (Fb)] (some (.int (zI (byt Fb z i9)))) [ob q 6 [some (.ref b), none] (fun _ => z), ar G 1 b 400 m (Fb)] := by
  refine MX_of (lv := [some (.ref q), some (.int (zI i9))]) hK (by decide +kernel) rfl (nle rfl) (fun X C F => ?_)
  have C : OKc G X l RX4 "byteAt" cX4_byteAt 2 (some .int) 1 0 0 := C
  refine x_iload_n C eX4_byteAt_0 rfl ?_
  refine x_if_lt 34 C eX4_byteAt_1 rfl (by omega) (fun h1 => ?_) (fun h1 => ?_)
  · exfalso; omega
  · refine x_iload_n C eX4_byteAt_4 rfl ?_
    refine x_aload_n C eX4_byteAt_5 rfl ?_
    refine x_getI 0 C f_RX4_15 eX4_byteAt_6 rfl rfl ?_
    try simp (disch := decide) only [up_s, up_n]
    refine x_icmp_ge 34 C eX4_byteAt_9 rfl (by omega) (by omega) (fun h9 => ?_) (fun h9 => ?_)
    · refine x_iconst C eX4_byteAt_34 ?_
      refine x_iret (by first | rfl | exact (narZ (by omega)).1) C F eX4_byteAt_35 () ?_ trivial (fun cf c h => ?_) (nle rfl) (nle rfl)
      · first
          | (have e := and255 (hF i9.toNat (by omega))
             rw [e, show byt Fb z i9 = (if Fb i9.toNat < 0 then Fb i9.toNat + 256 else Fb i9.toNat) from if_pos (by assumption)])
          | rw [show byt Fb z i9 = -1 from if_neg (by omega)]
      · exact WF_pick [0, 1] rfl rfl h
    · refine x_iload_n C eX4_byteAt_12 rfl ?_
      refine x_aload_n C eX4_byteAt_13 rfl ?_
      refine x_getR 0 C f_RX4_9 eX4_byteAt_14 rfl rfl ?_
      refine x_alen 1 C eX4_byteAt_17 rfl (by decide) ar_al ?_
      refine x_icmp_ge 34 C eX4_byteAt_18 rfl (by omega) (by omega) (fun h18 => ?_) (fun h18 => ?_)
      · exfalso; omega
      · refine x_aload_n C eX4_byteAt_21 rfl ?_
        refine x_getR 0 C f_RX4_9 eX4_byteAt_22 rfl rfl ?_
        refine x_iload_n C eX4_byteAt_25 rfl ?_
        refine x_bald 1 C eX4_byteAt_26 rfl (by decide) (by omega) ?_
        refine x_sipush C eX4_byteAt_27 rfl ?_
        refine x_iandR C eX4_byteAt_30 ?_
        refine x_goto (pc' := 35) C eX4_byteAt_31 rfl ?_
        refine x_iret (by first | rfl | exact (narZ (by omega)).1) C F eX4_byteAt_35 () ?_ trivial (fun cf c h => ?_) (nle rfl) (nle rfl)
        · first
            | (have e := and255 (hF i9.toNat (by omega))
               rw [e, show byt Fb z i9 = (if Fb i9.toNat < 0 then Fb i9.toNat + 256 else Fb i9.toNat) from if_pos (by assumption)])
            | rw [show byt Fb z i9 = -1 from if_neg (by omega)]
        · exact WF_pick [0, 1] rfl rfl h

set_option maxHeartbeats 4000000 in
set_option maxRecDepth 100000 in
theorem s_X7_appendFour {G : Gm} {l : Launch} (hK : KG G) {e ip op t tr ps pa sl ib : Nat} {J : Nat → Int} {z : Nat} {Fb : Nat → Int} {v9 : Int32} (hz : z + 4 ≤ 400) : MD G l yX7_appendFour cX7_appendFour 2 none 2 0 0 [.ref e, .int v9] [ob e 9 (ecS ip op t tr ps pa sl) J, ob ip 6 [some (.ref ib), none] (fun _ => (z : Int)), ar G 1 ib 400 400 (Fb)] none [ob e 9 (ecS ip op t tr ps pa sl) J, ob ip 6 [some (.ref ib), none] (fun _ => ((z + 4 : Nat) : Int)), ar G 1 ib 400 400 (apF Fb z v9 4)] := by
  refine MX_of (lv := [some (.ref e), some (.int v9)]) hK (by decide +kernel) rfl (nle rfl) (fun X C F => ?_)
  have C : OKc G X l RX7 "appendFour" cX7_appendFour 2 none 2 0 0 := C
  refine x_aload_n C eX7_appendFour_0 rfl ?_
  refine x_getR 0 C f_RX7_10 eX7_appendFour_1 rfl rfl ?_
  refine x_iload_n C eX7_appendFour_4 rfl ?_
  refine x_bipush C eX7_appendFour_5 rfl ?_
  refine x_iushrR C eX7_appendFour_7 ?_
  refine yV1v [_] [_, _, _] C (s_X4_addByteI hK (by omega)) v_X4_addByte vv_X4_addByte s_RX7_63 eX7_appendFour_8 (fun _ _ h => WF_pick [1, 2, 0] rfl rfl h) (rcv 1 rfl) rfl (nle rfl) (nle rfl) (nle rfl) (nle rfl) rfl ?_
  refine x_aload_n C eX7_appendFour_11 rfl ?_
  refine x_getR 2 C f_RX7_10 eX7_appendFour_12 rfl rfl ?_
  refine x_iload_n C eX7_appendFour_15 rfl ?_
  refine x_bipush C eX7_appendFour_16 rfl ?_
  refine x_iushrR C eX7_appendFour_18 ?_
  refine yV1v [_] [_, _, _] C (s_X4_addByteI hK (by omega)) v_X4_addByte vv_X4_addByte s_RX7_63 eX7_appendFour_19 (fun _ _ h => WF_pick [0, 1, 2] rfl rfl h) (rcv 0 rfl) rfl (nle rfl) (nle rfl) (nle rfl) (nle rfl) rfl ?_
  refine x_aload_n C eX7_appendFour_22 rfl ?_
  refine x_getR 2 C f_RX7_10 eX7_appendFour_23 rfl rfl ?_
  refine x_iload_n C eX7_appendFour_26 rfl ?_
  refine x_bipush C eX7_appendFour_27 rfl ?_
  refine x_iushrR C eX7_appendFour_29 ?_
  refine yV1v [_] [_, _, _] C (s_X4_addByteI hK (by omega)) v_X4_addByte vv_X4_addByte s_RX7_63 eX7_appendFour_30 (fun _ _ h => WF_pick [0, 1, 2] rfl rfl h) (rcv 0 rfl) rfl (nle rfl) (nle rfl) (nle rfl) (nle rfl) rfl ?_
  refine x_aload_n C eX7_appendFour_33 rfl ?_
  refine x_getR 2 C f_RX7_10 eX7_appendFour_34 rfl rfl ?_
  refine x_iload_n C eX7_appendFour_37 rfl ?_
  refine yV1v [_] [_, _, _] C (s_X4_addByteI hK (by omega)) v_X4_addByte vv_X4_addByte s_RX7_63 eX7_appendFour_38 (fun _ _ h => WF_pick [0, 1, 2] rfl rfl h) (rcv 0 rfl) rfl (nle rfl) (nle rfl) (nle rfl) (nle rfl) rfl ?_
  refine x_vret C F eX7_appendFour_41 () rfl trivial (fun cf c h => ?_) (nle rfl) (nle rfl)
  refine PW.wf (PW_cons (fun _ h => h) (PW_cons (fun _ h => ob_congr (fun i hi9 => ?_) h) (PW_cons (fun _ h => ?_) PW_nil))) (WF_pick [2, 0, 1] rfl rfl h)
  · omega
  · rw [← apF_4 Fb z v9]
    rw [show ((z : Int) + 1 + 1 + 1).toNat = z + 3 by omega, show ((z : Int) + 1 + 1).toNat = z + 2 by omega, show ((z : Int) + 1).toNat = z + 1 by omega, Int.toNat_natCast] at h
    exact h

set_option maxHeartbeats 4000000 in
set_option maxRecDepth 100000 in
theorem s_X7_append {G : Gm} {l : Launch} (hK : KG G) {e ip op t tr ps pa sl ib : Nat} {J : Nat → Int} {z : Nat} {Fb : Nat → Int} {a9 b9 c9 d9 e9 : Int32} (hz : z + 20 ≤ 400) : MD G l yX7_append cX7_append 6 (some .int) 3 0 0 [.ref e, .int a9, .int b9, .int c9, .int d9, .int e9] [ob e 9 (ecS ip op t tr ps pa sl) J, ob ip 6 [some (.ref ib), none] (fun _ => (z : Int)), ar G 1 ib 400 400 (Fb)] (some (.int (zI ((z : Int) + 20)))) [ob e 9 (ecS ip op t tr ps pa sl) J, ob ip 6 [some (.ref ib), none] (fun _ => ((z + 20 : Nat) : Int)), ar G 1 ib 400 400 (ap5 Fb z a9 b9 c9 d9 e9)] := by
  refine MX_of (lv := [some (.ref e), some (.int a9), some (.int b9), some (.int c9), some (.int d9), some (.int e9)]) hK (by decide +kernel) rfl (nle rfl) (fun X C F => ?_)
  have C : OKc G X l RX7 "append" cX7_append 6 (some .int) 3 0 0 := C
  refine x_aload_n C eX7_append_0 rfl ?_
  refine x_getR 0 C f_RX7_10 eX7_append_1 rfl rfl ?_
  refine x_getI 1 C f_RX7_49 eX7_append_4 rfl rfl ?_
  try simp (disch := decide) only [up_s, up_n]
  refine x_bipush C eX7_append_7 rfl ?_
  refine x_iadd C eX7_append_9 ?_
  refine x_sipush C eX7_append_10 rfl ?_
  refine x_icmp_le 26 C eX7_append_13 rfl (by omega) (by omega) (fun h13 => ?_) (fun h13 => ?_)
  · refine x_aload_n C eX7_append_26 rfl ?_
    refine x_iload_n C eX7_append_27 rfl ?_
    refine yV1v [] [_, _, _] C (s_X7_appendFour hK (by omega)) v_X7_appendFour vv_X7_appendFour s_RX7_59 eX7_append_28 (fun _ _ h => WF_pick [0, 1, 2] rfl rfl h) (rcv 0 rfl) rfl (nle rfl) (nle rfl) (nle rfl) (nle rfl) rfl ?_
    refine x_aload_n C eX7_append_31 rfl ?_
    refine x_iload_n C eX7_append_32 rfl ?_
    refine yV1v [] [_, _, _] C (s_X7_appendFour hK (by omega)) v_X7_appendFour vv_X7_appendFour s_RX7_59 eX7_append_33 (fun _ _ h => WF_pick [0, 1, 2] rfl rfl h) (rcv 0 rfl) rfl (nle rfl) (nle rfl) (nle rfl) (nle rfl) rfl ?_
    refine x_aload_n C eX7_append_36 rfl ?_
    refine x_iload_n C eX7_append_37 rfl ?_
    refine yV1v [] [_, _, _] C (s_X7_appendFour hK (by omega)) v_X7_appendFour vv_X7_appendFour s_RX7_59 eX7_append_38 (fun _ _ h => WF_pick [0, 1, 2] rfl rfl h) (rcv 0 rfl) rfl (nle rfl) (nle rfl) (nle rfl) (nle rfl) rfl ?_
    refine x_aload_n C eX7_append_41 rfl ?_
    refine x_iload C eX7_append_42 rfl ?_
    refine yV1v [] [_, _, _] C (s_X7_appendFour hK (by omega)) v_X7_appendFour vv_X7_appendFour s_RX7_59 eX7_append_44 (fun _ _ h => WF_pick [0, 1, 2] rfl rfl h) (rcv 0 rfl) rfl (nle rfl) (nle rfl) (nle rfl) (nle rfl) rfl ?_
    refine x_aload_n C eX7_append_47 rfl ?_
    refine x_iload C eX7_append_48 rfl ?_
    refine yV1v [] [_, _, _] C (s_X7_appendFour hK (by omega)) v_X7_appendFour vv_X7_appendFour s_RX7_59 eX7_append_50 (fun _ _ h => WF_pick [0, 1, 2] rfl rfl h) (rcv 0 rfl) rfl (nle rfl) (nle rfl) (nle rfl) (nle rfl) rfl ?_
    refine x_aload_n C eX7_append_53 rfl ?_
    refine x_getR 0 C f_RX7_10 eX7_append_54 rfl rfl ?_
    refine x_getI 1 C f_RX7_49 eX7_append_57 rfl rfl ?_
    try simp (disch := decide) only [up_s, up_n]
    refine x_iret (by first | rfl | exact (narZ (by omega)).1) C F eX7_append_60 () ?_ trivial (fun cf c h => ?_) (nle rfl) (nle rfl)
    · exact congrArg (fun z => some (Value.int (zI z))) (by omega)
    · refine PW.wf (PW_cons (fun _ h => h) (PW_cons (fun _ h => ob_congr (fun i hi9 => by omega) h) (PW_cons (fun _ h => h) PW_nil))) (WF_pick [0, 1, 2] rfl rfl h)
  · exfalso; omega

set_option maxHeartbeats 4000000 in
set_option maxRecDepth 100000 in
theorem s_X7_truncate {G : Gm} {l : Launch} (hK : KG G) {e ip op t tr ps pa sl ib : Nat} {J : Nat → Int} {z a9 : Int} (hz : 0 ≤ z ∧ z ≤ 400) (ha : 0 ≤ a9 ∧ a9 ≤ z) : MD G l yX7_truncate cX7_truncate 2 none 1 0 0 [.ref e, .int (zI a9)] [ob e 9 (ecS ip op t tr ps pa sl) J, ob ip 6 [some (.ref ib), none] (fun _ => z)] none [ob e 9 (ecS ip op t tr ps pa sl) J, ob ip 6 [some (.ref ib), none] (fun _ => a9)] := by
  refine MX_of (lv := [some (.ref e), some (.int (zI a9))]) hK (by decide +kernel) rfl (nle rfl) (fun X C F => ?_)
  have C : OKc G X l RX7 "truncate" cX7_truncate 2 none 1 0 0 := C
  refine x_iload_n C eX7_truncate_0 rfl ?_
  refine x_if_lt 15 C eX7_truncate_1 rfl (by omega) (fun h1 => ?_) (fun h1 => ?_)
  · exfalso; omega
  · refine x_iload_n C eX7_truncate_4 rfl ?_
    refine x_aload_n C eX7_truncate_5 rfl ?_
    refine x_getR 0 C f_RX7_10 eX7_truncate_6 rfl rfl ?_
    refine x_getI 1 C f_RX7_49 eX7_truncate_9 rfl rfl ?_
    try simp (disch := decide) only [up_s, up_n]
    refine x_icmp_le 25 C eX7_truncate_12 rfl (by omega) (by omega) (fun h12 => ?_) (fun h12 => ?_)
    · refine x_aload_n C eX7_truncate_25 rfl ?_
      refine x_getR 0 C f_RX7_10 eX7_truncate_26 rfl rfl ?_
      refine x_iload_n C eX7_truncate_29 rfl ?_
      refine x_putI [_, _] 1 C f_RX7_49 eX7_truncate_30 rfl rfl rfl ?_
      refine x_vret C F eX7_truncate_33 () rfl trivial (fun cf c h => ?_) (nle rfl) (nle rfl)
      refine PW.wf (PW_cons (fun _ h => h) (PW_cons (fun _ h => ob_congr (fun i hi9 => ?_) h) PW_nil)) (WF_pick [0, 1] rfl rfl h)
      match i with
      | 0 => exact absurd hi9 (by simp)
      | 1 => exact up_s _ _ _
      | (k + 2) => exact absurd hi9 (by simp)
    · exfalso; omega

