/-! The parser's methods for one token. -/

set_option maxHeartbeats 4000000 in
set_option maxRecDepth 100000 in
theorem s_X2_takeKind {G : Gm} {l : Launch} (hK : KG G) {pa tk tr qb ql q : Nat} {J P : Nat → Int} {k9 a9 : Int} (hJk : 0 ≤ J 1 ∧ J 1 ≤ 17) (hk : 0 ≤ k9 ∧ k9 ≤ 100) : MD G l yX2_takeKind cX2_takeKind 3 (some .int) 1 0 0 [.ref pa, .int (zI k9), .int (zI a9)] [ob pa 4 (paS tk tr qb ql) (P), ob tk 7 [some (.ref q), none, none, none, none] J] (some (.int (zI (knC J k9)))) [ob pa 4 (paS tk tr qb ql) (up P 4 a9), ob tk 7 [some (.ref q), none, none, none, none] J] := by
  refine MX_of (lv := [some (.ref pa), some (.int (zI k9)), some (.int (zI a9))]) hK (by decide +kernel) rfl (nle rfl) (fun X C F => ?_)
  have C : OKc G X l RX2 "takeKind" cX2_takeKind 3 (some .int) 1 0 0 := C
  refine x_aload_n C eX2_takeKind_0 rfl ?_
  refine x_iload_n C eX2_takeKind_1 rfl ?_
  refine x_putI [_, _] 0 C f_RX2_42 eX2_takeKind_2 rfl rfl rfl ?_
  refine x_aload_n C eX2_takeKind_5 rfl ?_
  refine x_getR 0 C f_RX2_26 eX2_takeKind_6 rfl rfl ?_
  refine x_getI 1 C f_RX2_50 eX2_takeKind_9 rfl rfl ?_
  try simp (disch := decide) only [up_s, up_n]
  refine x_iload_n C eX2_takeKind_12 rfl ?_
  refine x_icmp_ne 20 C eX2_takeKind_13 rfl (by omega) (by omega) (fun h13 => ?_) (fun h13 => ?_)
  · refine x_iconst C eX2_takeKind_20 ?_
    refine x_iret (by first | rfl | exact (narZ (by omega)).1) C F eX2_takeKind_21 () ?_ trivial (fun cf c h => ?_) (nle rfl) (nle rfl)
    · first
        | rw [knC, if_pos (by omega)]
        | rw [knC, if_neg (by omega)]
    · exact WF_pick [0, 1] rfl rfl h
  · refine x_iconst C eX2_takeKind_16 ?_
    refine x_goto (pc' := 21) C eX2_takeKind_17 rfl ?_
    refine x_iret (by first | rfl | exact (narZ (by omega)).1) C F eX2_takeKind_21 () ?_ trivial (fun cf c h => ?_) (nle rfl) (nle rfl)
    · first
        | rw [knC, if_pos (by omega)]
        | rw [knC, if_neg (by omega)]
    · exact WF_pick [0, 1] rfl rfl h

set_option maxHeartbeats 4000000 in
set_option maxRecDepth 100000 in
theorem s_X2_takeStatementEnd {G : Gm} {l : Launch} (hK : KG G) {pa tk tr qb ql q : Nat} {J P : Nat → Int} (hJk : 0 ≤ J 1 ∧ J 1 ≤ 17) : MD G l yX2_takeStatementEnd cX2_takeStatementEnd 1 (some .int) 2 0 0 [.ref pa] [ob pa 4 (paS tk tr qb ql) (P), ob tk 7 [some (.ref q), none, none, none, none] J] (some (.int (zI (knC J 2)))) [ob pa 4 (paS tk tr qb ql) (up P 4 1), ob tk 7 [some (.ref q), none, none, none, none] J] := by
  refine MX_of (lv := [some (.ref pa)]) hK (by decide +kernel) rfl (nle rfl) (fun X C F => ?_)
  have C : OKc G X l RX2 "takeStatementEnd" cX2_takeStatementEnd 1 (some .int) 2 0 0 := C
  refine x_aload_n C eX2_takeStatementEnd_0 rfl ?_
  refine x_iconst C eX2_takeStatementEnd_1 ?_
  refine x_iconst C eX2_takeStatementEnd_2 ?_
  refine yV2r [] [_, _] C (s_X2_takeKind hK hJk (by decide)) v_X2_takeKind vv_X2_takeKind s_RX2_97 eX2_takeStatementEnd_3 (fun _ _ h => WF_pick [0, 1] rfl rfl h) (rcv 0 rfl) rfl (nle rfl) (nle rfl) (nle rfl) (nle rfl) rfl ?_
  refine x_iret (by first | rfl | exact (narZ (by omega)).1) C F eX2_takeStatementEnd_6 () ?_ trivial (fun cf c h => ?_) (nle rfl) (nle rfl)
  · rfl
  · exact WF_pick [0, 1] rfl rfl h

set_option maxHeartbeats 4000000 in
set_option maxRecDepth 100000 in
theorem s_X2_takeNumber {G : Gm} {l : Launch} (hK : KG G) {pa tk tr qb ql q : Nat} {J P : Nat → Int} {l9 h9 a9 : Int} (hJb : 0 ≤ J 4 ∧ J 4 ≤ 1000) (hJk : 0 ≤ J 1 ∧ J 1 ≤ 17) (hr : (-2000 ≤ l9 ∧ l9 ≤ 2000) ∧ (-2000 ≤ h9 ∧ h9 ≤ 2000)) : MD G l yX2_takeNumber cX2_takeNumber 4 (some .int) 1 0 0 [.ref pa, .int (zI l9), .int (zI h9), .int (zI a9)] [ob pa 4 (paS tk tr qb ql) (P), ob tk 7 [some (.ref q), none, none, none, none] J] (some (.int (zI (tnC J l9 h9)))) [ob pa 4 (paS tk tr qb ql) (up P 4 a9), ob tk 7 [some (.ref q), none, none, none, none] J] := by
  refine MX_of (lv := [some (.ref pa), some (.int (zI l9)), some (.int (zI h9)), some (.int (zI a9))]) hK (by decide +kernel) rfl (nle rfl) (fun X C F => ?_)
  have C : OKc G X l RX2 "takeNumber" cX2_takeNumber 4 (some .int) 1 0 0 := C
  refine x_aload_n C eX2_takeNumber_0 rfl ?_
  refine x_iload_n C eX2_takeNumber_1 rfl ?_
  refine x_putI [_, _] 0 C f_RX2_42 eX2_takeNumber_2 rfl rfl rfl ?_
  refine x_aload_n C eX2_takeNumber_5 rfl ?_
  refine x_getR 0 C f_RX2_26 eX2_takeNumber_6 rfl rfl ?_
  refine x_getI 1 C f_RX2_50 eX2_takeNumber_9 rfl rfl ?_
  try simp (disch := decide) only [up_s, up_n]
  refine x_iconst C eX2_takeNumber_12 ?_
  refine x_icmp_eq 18 C eX2_takeNumber_13 rfl (by omega) (by omega) (fun h13 => ?_) (fun h13 => ?_)
  · refine x_aload_n C eX2_takeNumber_18 rfl ?_
    refine x_getR 0 C f_RX2_26 eX2_takeNumber_19 rfl rfl ?_
    refine x_getI 1 C f_RX2_143 eX2_takeNumber_22 rfl rfl ?_
    try simp (disch := decide) only [up_s, up_n]
    refine x_iload_n C eX2_takeNumber_25 rfl ?_
    refine x_icmp_lt 40 C eX2_takeNumber_26 rfl (by omega) (by omega) (fun h26 => ?_) (fun h26 => ?_)
    · refine x_iconst C eX2_takeNumber_40 ?_
      refine x_goto (pc' := 45) C eX2_takeNumber_41 rfl ?_
      refine x_iret (by first | rfl | exact (narZ (by omega)).1) C F eX2_takeNumber_45 () ?_ trivial (fun cf c h => ?_) (nle rfl) (nle rfl)
      · first
          | rw [tnC, if_neg (by omega)]
          | rw [tnC, if_pos (by omega), if_pos (by omega)]
          | rw [tnC, if_pos (by omega), if_neg (by omega)]
      · exact WF_pick [0, 1] rfl rfl h
    · refine x_aload_n C eX2_takeNumber_29 rfl ?_
      refine x_getR 0 C f_RX2_26 eX2_takeNumber_30 rfl rfl ?_
      refine x_getI 1 C f_RX2_143 eX2_takeNumber_33 rfl rfl ?_
      try simp (disch := decide) only [up_s, up_n]
      refine x_iload_n C eX2_takeNumber_36 rfl ?_
      refine x_icmp_le 44 C eX2_takeNumber_37 rfl (by omega) (by omega) (fun h37 => ?_) (fun h37 => ?_)
      · refine x_iconst C eX2_takeNumber_44 ?_
        refine x_iret (by first | rfl | exact (narZ (by omega)).1) C F eX2_takeNumber_45 () ?_ trivial (fun cf c h => ?_) (nle rfl) (nle rfl)
        · first
            | rw [tnC, if_neg (by omega)]
            | rw [tnC, if_pos (by omega), if_pos (by omega)]
            | rw [tnC, if_pos (by omega), if_neg (by omega)]
        · exact WF_pick [0, 1] rfl rfl h
      · refine x_iconst C eX2_takeNumber_40 ?_
        refine x_goto (pc' := 45) C eX2_takeNumber_41 rfl ?_
        refine x_iret (by first | rfl | exact (narZ (by omega)).1) C F eX2_takeNumber_45 () ?_ trivial (fun cf c h => ?_) (nle rfl) (nle rfl)
        · first
            | rw [tnC, if_neg (by omega)]
            | rw [tnC, if_pos (by omega), if_pos (by omega)]
            | rw [tnC, if_pos (by omega), if_neg (by omega)]
        · exact WF_pick [0, 1] rfl rfl h
  · refine x_iconst C eX2_takeNumber_16 ?_
    refine x_iret (by first | rfl | exact (narZ (by omega)).1) C F eX2_takeNumber_17 () ?_ trivial (fun cf c h => ?_) (nle rfl) (nle rfl)
    · first
        | rw [tnC, if_neg (by omega)]
        | rw [tnC, if_pos (by omega), if_pos (by omega)]
        | rw [tnC, if_pos (by omega), if_neg (by omega)]
    · exact WF_pick [0, 1] rfl rfl h

set_option maxHeartbeats 4000000 in
set_option maxRecDepth 100000 in
theorem s_X2_takeKnownName {G : Gm} {l : Launch} (hK : KG G) {pa tk tr qb ql q : Nat} {J P : Nat → Int} {a9 : Int} (hJk : 0 ≤ J 1 ∧ J 1 ≤ 17) (hP5 : -1 ≤ P 5 ∧ P 5 ≤ 5) : MD G l yX2_takeKnownName cX2_takeKnownName 2 (some .int) 1 0 0 [.ref pa, .int (zI a9)] [ob pa 4 (paS tk tr qb ql) (P), ob tk 7 [some (.ref q), none, none, none, none] J] (some (.int (zI (knm J P)))) [ob pa 4 (paS tk tr qb ql) (up P 4 a9), ob tk 7 [some (.ref q), none, none, none, none] J] := by
  refine MX_of (lv := [some (.ref pa), some (.int (zI a9))]) hK (by decide +kernel) rfl (nle rfl) (fun X C F => ?_)
  have C : OKc G X l RX2 "takeKnownName" cX2_takeKnownName 2 (some .int) 1 0 0 := C
  refine x_aload_n C eX2_takeKnownName_0 rfl ?_
  refine x_iload_n C eX2_takeKnownName_1 rfl ?_
  refine x_putI [_, _] 0 C f_RX2_42 eX2_takeKnownName_2 rfl rfl rfl ?_
  refine x_aload_n C eX2_takeKnownName_5 rfl ?_
  refine x_getR 0 C f_RX2_26 eX2_takeKnownName_6 rfl rfl ?_
  refine x_getI 1 C f_RX2_50 eX2_takeKnownName_9 rfl rfl ?_
  try simp (disch := decide) only [up_s, up_n]
  refine x_iconst C eX2_takeKnownName_12 ?_
  refine x_icmp_eq 18 C eX2_takeKnownName_13 rfl (by omega) (by omega) (fun h13 => ?_) (fun h13 => ?_)
  · refine x_aload_n C eX2_takeKnownName_18 rfl ?_
    refine x_getI 0 C f_RX2_67 eX2_takeKnownName_19 rfl rfl ?_
    try simp (disch := decide) only [up_s, up_n]
    refine x_iconst C eX2_takeKnownName_22 ?_
    refine x_icmp_ne 30 C eX2_takeKnownName_23 rfl (by omega) (by omega) (fun h23 => ?_) (fun h23 => ?_)
    · refine x_iconst C eX2_takeKnownName_30 ?_
      refine x_iret (by first | rfl | exact (narZ (by omega)).1) C F eX2_takeKnownName_31 () ?_ trivial (fun cf c h => ?_) (nle rfl) (nle rfl)
      · first
          | rw [knm, if_neg (by omega)]
          | rw [knm, if_pos (by omega), if_pos (by omega)]
          | rw [knm, if_pos (by omega), if_neg (by omega)]
      · exact WF_pick [0, 1] rfl rfl h
    · refine x_iconst C eX2_takeKnownName_26 ?_
      refine x_goto (pc' := 31) C eX2_takeKnownName_27 rfl ?_
      refine x_iret (by first | rfl | exact (narZ (by omega)).1) C F eX2_takeKnownName_31 () ?_ trivial (fun cf c h => ?_) (nle rfl) (nle rfl)
      · first
          | rw [knm, if_neg (by omega)]
          | rw [knm, if_pos (by omega), if_pos (by omega)]
          | rw [knm, if_pos (by omega), if_neg (by omega)]
      · exact WF_pick [0, 1] rfl rfl h
  · refine x_iconst C eX2_takeKnownName_16 ?_
    refine x_iret (by first | rfl | exact (narZ (by omega)).1) C F eX2_takeKnownName_17 () ?_ trivial (fun cf c h => ?_) (nle rfl) (nle rfl)
    · first
        | rw [knm, if_neg (by omega)]
        | rw [knm, if_pos (by omega), if_pos (by omega)]
        | rw [knm, if_pos (by omega), if_neg (by omega)]
    · exact WF_pick [0, 1] rfl rfl h

set_option maxHeartbeats 4000000 in
set_option maxRecDepth 100000 in
theorem s_X2_takeBorrower {G : Gm} {l : Launch} (hK : KG G) {pa tk tr qb ql q : Nat} {J P : Nat → Int} (hJk : 0 ≤ J 1 ∧ J 1 ≤ 17) (hP5 : -1 ≤ P 5 ∧ P 5 ≤ 5) (hP6 : -1 ≤ P 6 ∧ P 6 ≤ 5) : MD G l yX2_takeBorrower cX2_takeBorrower 2 (some .int) 2 0 0 [.ref pa] [ob pa 4 (paS tk tr qb ql) (P), ob tk 7 [some (.ref q), none, none, none, none] J] (some (.int (zI (boC J P)))) [ob pa 4 (paS tk tr qb ql) (up (up P 7 (P 5)) 4 16), ob tk 7 [some (.ref q), none, none, none, none] J] := by
  refine MX_of (lv := [some (.ref pa), none]) hK (by decide +kernel) rfl (nle rfl) (fun X C F => ?_)
  have C : OKc G X l RX2 "takeBorrower" cX2_takeBorrower 2 (some .int) 2 0 0 := C
  refine x_aload_n C eX2_takeBorrower_0 rfl ?_
  refine x_aload_n C eX2_takeBorrower_1 rfl ?_
  refine x_getI 0 C f_RX2_67 eX2_takeBorrower_2 rfl rfl ?_
  try simp (disch := decide) only [up_s, up_n]
  refine x_putI [_, _] 0 C f_RX2_185 eX2_takeBorrower_5 rfl rfl rfl ?_
  refine x_aload_n C eX2_takeBorrower_8 rfl ?_
  refine x_bipush C eX2_takeBorrower_9 rfl ?_
  refine yV1r [] [_, _] C (s_X2_takeKnownName hK hJk (by simp (disch := decide) only [up_s, up_n]; exact hP5)) v_X2_takeKnownName vv_X2_takeKnownName s_RX2_179 eX2_takeBorrower_11 (fun _ _ h => WF_pick [0, 1] rfl rfl h) (rcv 0 rfl) rfl (nle rfl) (nle rfl) (nle rfl) (nle rfl) rfl ?_
  rw [show knm J (up P 7 (P 5)) = knm J P by unfold knm; rw [up_n (by decide)]]
  have hk9 : 0 ≤ knm J P ∧ knm J P ≤ 4 := by unfold knm; split <;> (try split) <;> decide
  refine x_istore_n [_, _] C eX2_takeBorrower_14 rfl rfl (nlt rfl) ?_
  refine x_iload_n C eX2_takeBorrower_15 rfl ?_
  refine x_if_ne 34 C eX2_takeBorrower_16 rfl (by omega) (fun h16 => ?_) (fun h16 => ?_)
  · refine x_iload_n C eX2_takeBorrower_34 rfl ?_
    refine x_iret (by first | rfl | exact (narZ (by omega)).1) C F eX2_takeBorrower_35 () ?_ trivial (fun cf c h => ?_) (nle rfl) (nle rfl)
    · first
        | rw [boC, if_pos (by omega), if_pos (by omega)]
        | (rw [boC, if_pos (by omega), if_neg (by omega)]; try exact congrArg (fun z => some (Value.int (zI z))) (by omega))
        | rw [boC, if_neg (by omega)]
    · exact WF_pick [0, 1] rfl rfl h
  · refine x_aload_n C eX2_takeBorrower_19 rfl ?_
    refine x_getI 0 C f_RX2_185 eX2_takeBorrower_20 rfl rfl ?_
    try simp (disch := decide) only [up_s, up_n]
    refine x_aload_n C eX2_takeBorrower_23 rfl ?_
    refine x_getI 0 C f_RX2_176 eX2_takeBorrower_24 rfl rfl ?_
    try simp (disch := decide) only [up_s, up_n]
    refine x_icmp_ne 34 C eX2_takeBorrower_27 rfl (by omega) (by omega) (fun h27 => ?_) (fun h27 => ?_)
    · refine x_iload_n C eX2_takeBorrower_34 rfl ?_
      refine x_iret (by first | rfl | exact (narZ (by omega)).1) C F eX2_takeBorrower_35 () ?_ trivial (fun cf c h => ?_) (nle rfl) (nle rfl)
      · first
          | rw [boC, if_pos (by omega), if_pos (by omega)]
          | (rw [boC, if_pos (by omega), if_neg (by omega)]; try exact congrArg (fun z => some (Value.int (zI z))) (by omega))
          | rw [boC, if_neg (by omega)]
      · exact WF_pick [0, 1] rfl rfl h
    · refine x_iconst C eX2_takeBorrower_30 ?_
      refine x_goto (pc' := 35) C eX2_takeBorrower_31 rfl ?_
      refine x_iret (by first | rfl | exact (narZ (by omega)).1) C F eX2_takeBorrower_35 () ?_ trivial (fun cf c h => ?_) (nle rfl) (nle rfl)
      · first
          | rw [boC, if_pos (by omega), if_pos (by omega)]
          | (rw [boC, if_pos (by omega), if_neg (by omega)]; try exact congrArg (fun z => some (Value.int (zI z))) (by omega))
          | rw [boC, if_neg (by omega)]
      · exact WF_pick [0, 1] rfl rfl h

set_option maxHeartbeats 4000000 in
set_option maxRecDepth 100000 in
theorem s_X2_takeTypingLine {G : Gm} {l : Launch} (hK : KG G) {pa tk tr qb ql q : Nat} {J P : Nat → Int} (hJk : 0 ≤ J 1 ∧ J 1 ≤ 17) (hP5 : -1 ≤ P 5 ∧ P 5 ≤ 5) : MD G l yX2_takeTypingLine cX2_takeTypingLine 1 (some .int) 2 0 0 [.ref pa] [ob pa 4 (paS tk tr qb ql) (P), ob tk 7 [some (.ref q), none, none, none, none] J] (some (.int (zI (knm J P)))) [ob pa 4 (paS tk tr qb ql) (up (up P 8 (P 5)) 4 19), ob tk 7 [some (.ref q), none, none, none, none] J] := by
  refine MX_of (lv := [some (.ref pa)]) hK (by decide +kernel) rfl (nle rfl) (fun X C F => ?_)
  have C : OKc G X l RX2 "takeTypingLine" cX2_takeTypingLine 1 (some .int) 2 0 0 := C
  refine x_aload_n C eX2_takeTypingLine_0 rfl ?_
  refine x_aload_n C eX2_takeTypingLine_1 rfl ?_
  refine x_getI 0 C f_RX2_67 eX2_takeTypingLine_2 rfl rfl ?_
  try simp (disch := decide) only [up_s, up_n]
  refine x_putI [_, _] 0 C f_RX2_192 eX2_takeTypingLine_5 rfl rfl rfl ?_
  refine x_aload_n C eX2_takeTypingLine_8 rfl ?_
  refine x_bipush C eX2_takeTypingLine_9 rfl ?_
  refine yV1r [] [_, _] C (s_X2_takeKnownName hK hJk (by simp (disch := decide) only [up_s, up_n]; exact hP5)) v_X2_takeKnownName vv_X2_takeKnownName s_RX2_179 eX2_takeTypingLine_11 (fun _ _ h => WF_pick [0, 1] rfl rfl h) (rcv 0 rfl) rfl (nle rfl) (nle rfl) (nle rfl) (nle rfl) rfl ?_
  rw [show knm J (up P 8 (P 5)) = knm J P by unfold knm; rw [up_n (by decide)]]
  have hk9 : 0 ≤ knm J P ∧ knm J P ≤ 4 := by unfold knm; split <;> (try split) <;> decide
  refine x_iret (by first | rfl | exact (narZ (by omega)).1) C F eX2_takeTypingLine_14 () ?_ trivial (fun cf c h => ?_) (nle rfl) (nle rfl)
  · rfl
  · exact WF_pick [0, 1] rfl rfl h

set_option maxHeartbeats 4000000 in
set_option maxRecDepth 100000 in
theorem s_X2_takeTypedByte {G : Gm} {l : Launch} (hK : KG G) {pa tk tr qb ql q : Nat} {J P : Nat → Int} {bb bl : Nat} {tz : Int} {fB fL : Nat → Int} (hJb : 0 ≤ J 4 ∧ J 4 ≤ 1000) (hJk : 0 ≤ J 1 ∧ J 1 ≤ 17) (htz : 0 ≤ tz ∧ tz ≤ 60) : MD G l yX2_takeTypedByte cX2_takeTypedByte 2 (some .int) 2 0 0 [.ref pa] [ob pa 4 (paS tk tr qb ql) (P), ob tk 7 [some (.ref q), none, none, none, none] J, ob qb 5 [some (.ref bb), none] (fun _ => tz), ar G 0 bb 60 (tz).toNat (fB), ob ql 5 [some (.ref bl), none] (fun _ => tz), ar G 0 bl 60 (tz).toNat (fL)] (some (.int (zI (tbC J tz)))) [ob pa 4 (paS tk tr qb ql) (up P 4 20), ob tk 7 [some (.ref q), none, none, none, none] J, ob qb 5 [some (.ref bb), none] (fun _ => adZ (decide (tbC J tz = 0)) tz), ar G 0 bb 60 (adZ (decide (tbC J tz = 0)) tz).toNat (adF (decide (tbC J tz = 0)) tz fB (J 4)), ob ql 5 [some (.ref bl), none] (fun _ => adZ (decide (tbC J tz = 0)) tz), ar G 0 bl 60 (adZ (decide (tbC J tz = 0)) tz).toNat (adF (decide (tbC J tz = 0)) tz fL (P 8))] := by
  refine MX_of (lv := [some (.ref pa), none]) hK (by decide +kernel) rfl (nle rfl) (fun X C F => ?_)
  have C : OKc G X l RX2 "takeTypedByte" cX2_takeTypedByte 2 (some .int) 2 0 0 := C
  refine x_aload_n C eX2_takeTypedByte_0 rfl ?_
  refine x_iconst C eX2_takeTypedByte_1 ?_
  refine x_bipush C eX2_takeTypedByte_2 rfl ?_
  refine x_bipush C eX2_takeTypedByte_4 rfl ?_
  refine yV3r [_, _, _, _] [_, _, _, _, _, _] C (s_X2_takeNumber hK hJb hJk (by omega)) v_X2_takeNumber vv_X2_takeNumber s_RX2_163 eX2_takeTypedByte_6 (fun _ _ h => WF_pick [0, 1, 2, 3, 4, 5] rfl rfl h) (rcv 0 rfl) rfl (nle rfl) (nle rfl) (nle rfl) (nle rfl) rfl ?_
  have hk9 : 0 ≤ tnC J 1 127 ∧ tnC J 1 127 ≤ 2 := by unfold tnC; split <;> (try split) <;> decide
  refine x_istore_n [_, _] C eX2_takeTypedByte_9 rfl rfl (nlt rfl) ?_
  refine x_iload_n C eX2_takeTypedByte_10 rfl ?_
  refine x_if_eq 16 C eX2_takeTypedByte_11 rfl (by omega) (fun h11 => ?_) (fun h11 => ?_)
  · refine x_aload_n C eX2_takeTypedByte_16 rfl ?_
    refine x_getR 0 C f_RX2_12 eX2_takeTypedByte_17 rfl rfl ?_
    refine x_getI 2 C f_RX2_86 eX2_takeTypedByte_20 rfl rfl ?_
    try simp (disch := decide) only [up_s, up_n]
    refine x_bipush C eX2_takeTypedByte_23 rfl ?_
    refine x_icmp_lt 30 C eX2_takeTypedByte_25 rfl (by omega) (by omega) (fun h25 => ?_) (fun h25 => ?_)
    · refine x_aload_n C eX2_takeTypedByte_30 rfl ?_
      refine x_getR 0 C f_RX2_12 eX2_takeTypedByte_31 rfl rfl ?_
      refine x_aload_n C eX2_takeTypedByte_34 rfl ?_
      refine x_getR 0 C f_RX2_26 eX2_takeTypedByte_35 rfl rfl ?_
      refine x_getI 1 C f_RX2_143 eX2_takeTypedByte_38 rfl rfl ?_
      try simp (disch := decide) only [up_s, up_n]
      refine yV1v [_, _, _, _] [_, _, _, _, _, _] C (s_X3_add hK htz (by omega)) v_X3_add vv_X3_add s_RX2_195 eX2_takeTypedByte_41 (fun _ _ h => WF_pick [2, 3, 0, 1, 4, 5] rfl rfl h) (rcv 2 rfl) rfl (nle rfl) (nle rfl) (nle rfl) (nle rfl) rfl ?_
      skip
      refine x_aload_n C eX2_takeTypedByte_44 rfl ?_
      refine x_getR 2 C f_RX2_18 eX2_takeTypedByte_45 rfl rfl ?_
      refine x_aload_n C eX2_takeTypedByte_48 rfl ?_
      refine x_getI 2 C f_RX2_192 eX2_takeTypedByte_49 rfl rfl ?_
      try simp (disch := decide) only [up_s, up_n]
      refine yV1v [_, _, _, _] [_, _, _, _, _, _] C (s_X3_add hK htz (by omega)) v_X3_add vv_X3_add s_RX2_195 eX2_takeTypedByte_52 (fun _ _ h => WF_pick [4, 5, 0, 1, 2, 3] rfl rfl h) (rcv 4 rfl) rfl (nle rfl) (nle rfl) (nle rfl) (nle rfl) rfl ?_
      skip
      refine x_iconst C eX2_takeTypedByte_55 ?_
      refine x_iret (by first | rfl | exact (narZ (by omega)).1) C F eX2_takeTypedByte_56 () ?_ trivial (fun cf c h => ?_) (nle rfl) (nle rfl)
      · first
          | rw [tbC, if_neg (by omega)]
          | rw [tbC, if_pos (by omega), if_pos (by omega)]
          | rw [tbC, if_pos (by omega), if_neg (by omega)]
      · first
          | (have e : decide (tbC J tz = 0) = true := decide_eq_true (by rw [tbC, if_pos (by omega), if_pos (by omega)])
             rw [e]
             exact WF_pick [4, 5, 2, 3, 0, 1] rfl rfl h)
          | (have e : decide (tbC J tz = 0) = false := decide_eq_false (by first | (rw [tbC, if_neg (by omega)]; omega) | (rw [tbC, if_pos (by omega), if_neg (by omega)]; decide))
             rw [e]
             exact WF_pick [4, 5, 2, 3, 0, 1] rfl rfl h)
    · refine x_iconst C eX2_takeTypedByte_28 ?_
      refine x_iret (by first | rfl | exact (narZ (by omega)).1) C F eX2_takeTypedByte_29 () ?_ trivial (fun cf c h => ?_) (nle rfl) (nle rfl)
      · first
          | rw [tbC, if_neg (by omega)]
          | rw [tbC, if_pos (by omega), if_pos (by omega)]
          | rw [tbC, if_pos (by omega), if_neg (by omega)]
      · first
          | (have e : decide (tbC J tz = 0) = true := decide_eq_true (by rw [tbC, if_pos (by omega), if_pos (by omega)])
             rw [e]
             exact WF_pick [0, 1, 2, 3, 4, 5] rfl rfl h)
          | (have e : decide (tbC J tz = 0) = false := decide_eq_false (by first | (rw [tbC, if_neg (by omega)]; omega) | (rw [tbC, if_pos (by omega), if_neg (by omega)]; decide))
             rw [e]
             exact WF_pick [0, 1, 2, 3, 4, 5] rfl rfl h)
  · refine x_iload_n C eX2_takeTypedByte_14 rfl ?_
    refine x_iret (by first | rfl | exact (narZ (by omega)).1) C F eX2_takeTypedByte_15 () ?_ trivial (fun cf c h => ?_) (nle rfl) (nle rfl)
    · first
        | rw [tbC, if_neg (by omega)]
        | rw [tbC, if_pos (by omega), if_pos (by omega)]
        | rw [tbC, if_pos (by omega), if_neg (by omega)]
    · first
        | (have e : decide (tbC J tz = 0) = true := decide_eq_true (by rw [tbC, if_pos (by omega), if_pos (by omega)])
           rw [e]
           exact WF_pick [0, 1, 2, 3, 4, 5] rfl rfl h)
        | (have e : decide (tbC J tz = 0) = false := decide_eq_false (by first | (rw [tbC, if_neg (by omega)]; omega) | (rw [tbC, if_pos (by omega), if_neg (by omega)]; decide))
           rw [e]
           exact WF_pick [0, 1, 2, 3, 4, 5] rfl rfl h)

set_option maxHeartbeats 4000000 in
set_option maxRecDepth 100000 in
theorem s_X2_latestLine {G : Gm} {l : Launch} (hK : KG G) {pa tk tr qb ql al lg : Nat} {P Jt : Nat → Int} {L : Int → Nat} (ht : 1 ≤ Jt 2 ∧ Jt 2 ≤ 6) : MD G l yX2_latestLine cX2_latestLine 1 (some (.object "EchoLine$Line")) 2 0 0 [.ref pa] [ob pa 4 (paS tk tr qb ql) (P), ob tr 8 (tkS al lg) (Jt), arR G 5 al 6 (fun j => some (L (j : Int)))] (some (.ref (L (Jt 2 - 1)))) [ob pa 4 (paS tk tr qb ql) (P), ob tr 8 (tkS al lg) (Jt), arR G 5 al 6 (fun j => some (L (j : Int)))] := by
  refine MX_of (lv := [some (.ref pa)]) hK (by decide +kernel) rfl (nle rfl) (fun X C F => ?_)
  have C : OKc G X l RX2 "latestLine" cX2_latestLine 1 (some (.object "EchoLine$Line")) 2 0 0 := C
  refine x_aload_n C eX2_latestLine_0 rfl ?_
  refine x_getR 0 C f_RX2_30 eX2_latestLine_1 rfl rfl ?_
  refine x_aload_n C eX2_latestLine_4 rfl ?_
  refine x_getR 0 C f_RX2_30 eX2_latestLine_5 rfl rfl ?_
  refine x_getI 1 C f_RX2_140 eX2_latestLine_8 rfl rfl ?_
  skip
  refine x_iconst C eX2_latestLine_11 ?_
  refine x_isub C eX2_latestLine_12 ?_
  refine yV1r [_] [_, _, _] C (s_X6_lineAt hK (by omega)) v_X6_lineAt vv_X6_lineAt s_RX2_74 eX2_latestLine_13 (fun _ _ h => WF_pick [1, 2, 0] rfl rfl h) (rcv 1 rfl) rfl (nle rfl) (nle rfl) (nle rfl) (nle rfl) rfl ?_
  refine x_aret (Or.inl ⟨_, rfl⟩) C F eX2_latestLine_16 () ?_ trivial (fun cf c h => ?_) (nle rfl) (nle rfl)
  · rfl
  · exact WF_pick [2, 0, 1] rfl rfl h

set_option maxHeartbeats 4000000 in
set_option maxRecDepth 100000 in
theorem s_X2_takeCapacity {G : Gm} {l : Launch} (hK : KG G) {pa tk tr qb ql q : Nat} {J P : Nat → Int} {al lg : Nat} {M : Pool} {L : Int → Nat} {n : Net} (hJb : 0 ≤ J 4 ∧ J 4 ≤ 1000) (hJk : 0 ≤ J 1 ∧ J 1 ≤ 17) (hn1 : 1 ≤ n (-1) 0 ∧ n (-1) 0 ≤ 6) : MD G l yX2_takeCapacity cX2_takeCapacity 1 (some .int) 3 0 0 [.ref pa] [ob pa 4 (paS tk tr qb ql) (P), ob tk 7 [some (.ref q), none, none, none, none] J, ob tr 8 (tkS al lg) (tkI n), arR G 5 al 6 (fun j => some (L (j : Int))), LFz G M L (n), LOG G lg n] (some (.int (zI (tnC J 4 60)))) [ob pa 4 (paS tk tr qb ql) (up P 4 6), ob tk 7 [some (.ref q), none, none, none, none] J, ob tr 8 (tkS al lg) (tkI n), arR G 5 al 6 (fun j => some (L (j : Int))), LFz G M L (seL n 1 (J 4)), LOG G lg n] := by
  refine MX_of (lv := [some (.ref pa)]) hK (by decide +kernel) rfl (nle rfl) (fun X C F => ?_)
  have C : OKc G X l RX2 "takeCapacity" cX2_takeCapacity 1 (some .int) 3 0 0 := C
  refine x_aload_n C eX2_takeCapacity_0 rfl ?_
  refine yV0r [_, _, _] [_, _, _, _, _, _] C (s_X2_latestLine hK (by show 1 ≤ n (-1) 0 ∧ n (-1) 0 ≤ 6; exact hn1)) v_X2_latestLine vv_X2_latestLine s_RX2_146 eX2_takeCapacity_1 (fun _ _ h => WF_pick [0, 2, 3, 1, 4, 5] rfl rfl h) (rcv 0 rfl) rfl (nle rfl) (nle rfl) (nle rfl) (nle rfl) rfl ?_
  rw [show tkI n 2 - 1 = lst n from rfl]
  have hl9 : 0 ≤ lst n ∧ lst n < n (-1) 0 := by unfold lst; omega
  refine x_oZ (M := M) (L := L) (m := n) (i := lst n) (R := [_, _, _, _, _]) (by (try rw [un_n (by omega)]); omega) (fun _ _ hw => WF_pick [4, 0, 1, 2, 3, 5] rfl rfl hw) (fun A hA => ?_)
  refine x_aload_n C eX2_takeCapacity_4 rfl ?_
  refine x_getR 11 C f_RX2_26 eX2_takeCapacity_5 rfl rfl ?_
  refine x_getI 14 C f_RX2_143 eX2_takeCapacity_8 rfl rfl ?_
  try simp (disch := first | decide | omega) only [up_s, up_n, tkI_2, tkI_3, tkI_4, tkI_5, tkI_6, tkI_7, tkI_8, lnI_1, lnI_2, lnI_3, lnI_4, lnI_5, lnI_10, lnI_11, lnI_12, lnI_13, lnI_14, lnI_15, un_s, ub_s, ub_n]
  refine x_putI [_, _, _, _, _, _, _, _, _, _, _, _, _, _, _, _] 0 C f_RX2_160 eX2_takeCapacity_11 rfl rfl rfl ?_
  refine x_pick [_, _, _, _, _, _, _, _, _, _, _, _, _, _, _, _] [0, 1, 2, 3, 4, 5, 6, 7, 8, 9, 10, 11, 12, 13, 14, 15] rfl rfl ?_
  refine x_cZ (m := n) (i := lst n) (A := A) (B := ub (n (lst n)) 1 (J 4)) (by (try rw [un_n (by omega)]); omega) hA (fun cf c h => ?_) ?_
  · exact ln_this (B := n (lst n)) (by
      refine lnI_ok ?_ ?_ ?_ ?_ ?_ ?_ ?_ ?_ ?_ ?_ ?_
      all_goals (try simp (disch := omega) only [up_s, up_n, lnI_1, lnI_2, lnI_3, lnI_4, lnI_5, lnI_10, lnI_11, lnI_12, lnI_13, lnI_14, lnI_15, lnTo, ub_s, ub_n, bLend])
      all_goals (repeat' split)
      all_goals first | rfl | omega) (by first | rfl | (simp (disch := omega) only [ub_n, bLend])) (by first | rfl | (simp (disch := omega) only [ub_n, bLend])) (by first | rfl | (simp (disch := omega) only [ub_n, bLend])) (by first | rfl | (simp (disch := omega) only [ub_n, bLend])) (fun k hk => by first | rfl | (simp (disch := omega) only [ub_n, bLend])) cf c h rfl
  refine x_aload_n C eX2_takeCapacity_14 rfl ?_
  refine x_iconst C eX2_takeCapacity_15 ?_
  refine x_bipush C eX2_takeCapacity_16 rfl ?_
  refine x_bipush C eX2_takeCapacity_18 rfl ?_
  refine yV3r [_, _, _, _] [_, _, _, _, _, _] C (s_X2_takeNumber hK hJb hJk (by (try simp (disch := decide) only [lnI_1, lnI_2, un_s, ub_n, ub_s]); omega)) v_X2_takeNumber vv_X2_takeNumber s_RX2_163 eX2_takeCapacity_20 (fun _ _ h => WF_pick [1, 4, 0, 2, 3, 5] rfl rfl h) (rcv 1 rfl) rfl (nle rfl) (nle rfl) (nle rfl) (nle rfl) rfl ?_
  refine x_iret (by first | rfl | exact (narZ (by omega)).1) C F eX2_takeCapacity_23 () ?_ trivial (fun cf c h => ?_) (nle rfl) (nle rfl)
  · rfl
  · exact WF_pick [0, 1, 3, 4, 2, 5] rfl rfl h

set_option maxHeartbeats 4000000 in
set_option maxRecDepth 100000 in
theorem s_X2_takeShare {G : Gm} {l : Launch} (hK : KG G) {pa tk tr qb ql q : Nat} {J P : Nat → Int} {al lg : Nat} {M : Pool} {L : Int → Nat} {n : Net} (hJb : 0 ≤ J 4 ∧ J 4 ≤ 1000) (hJk : 0 ≤ J 1 ∧ J 1 ≤ 17) (hn1 : 1 ≤ n (-1) 0 ∧ n (-1) 0 ≤ 6) : MD G l yX2_takeShare cX2_takeShare 1 (some .int) 3 0 0 [.ref pa] [ob pa 4 (paS tk tr qb ql) (P), ob tk 7 [some (.ref q), none, none, none, none] J, ob tr 8 (tkS al lg) (tkI n), arR G 5 al 6 (fun j => some (L (j : Int))), LFz G M L (n), LOG G lg n] (some (.int (zI (tnC J 1 9)))) [ob pa 4 (paS tk tr qb ql) (up P 4 11), ob tk 7 [some (.ref q), none, none, none, none] J, ob tr 8 (tkS al lg) (tkI n), arR G 5 al 6 (fun j => some (L (j : Int))), LFz G M L (seL n 4 (J 4)), LOG G lg n] := by
  refine MX_of (lv := [some (.ref pa)]) hK (by decide +kernel) rfl (nle rfl) (fun X C F => ?_)
  have C : OKc G X l RX2 "takeShare" cX2_takeShare 1 (some .int) 3 0 0 := C
  refine x_aload_n C eX2_takeShare_0 rfl ?_
  refine yV0r [_, _, _] [_, _, _, _, _, _] C (s_X2_latestLine hK (by show 1 ≤ n (-1) 0 ∧ n (-1) 0 ≤ 6; exact hn1)) v_X2_latestLine vv_X2_latestLine s_RX2_146 eX2_takeShare_1 (fun _ _ h => WF_pick [0, 2, 3, 1, 4, 5] rfl rfl h) (rcv 0 rfl) rfl (nle rfl) (nle rfl) (nle rfl) (nle rfl) rfl ?_
  rw [show tkI n 2 - 1 = lst n from rfl]
  have hl9 : 0 ≤ lst n ∧ lst n < n (-1) 0 := by unfold lst; omega
  refine x_oZ (M := M) (L := L) (m := n) (i := lst n) (R := [_, _, _, _, _]) (by (try rw [un_n (by omega)]); omega) (fun _ _ hw => WF_pick [4, 0, 1, 2, 3, 5] rfl rfl hw) (fun A hA => ?_)
  refine x_aload_n C eX2_takeShare_4 rfl ?_
  refine x_getR 11 C f_RX2_26 eX2_takeShare_5 rfl rfl ?_
  refine x_getI 14 C f_RX2_143 eX2_takeShare_8 rfl rfl ?_
  try simp (disch := first | decide | omega) only [up_s, up_n, tkI_2, tkI_3, tkI_4, tkI_5, tkI_6, tkI_7, tkI_8, lnI_1, lnI_2, lnI_3, lnI_4, lnI_5, lnI_10, lnI_11, lnI_12, lnI_13, lnI_14, lnI_15, un_s, ub_s, ub_n]
  refine x_putI [_, _, _, _, _, _, _, _, _, _, _, _, _, _, _, _] 0 C f_RX2_78 eX2_takeShare_11 rfl rfl rfl ?_
  refine x_pick [_, _, _, _, _, _, _, _, _, _, _, _, _, _, _, _] [0, 1, 2, 3, 4, 5, 6, 7, 8, 9, 10, 11, 12, 13, 14, 15] rfl rfl ?_
  refine x_cZ (m := n) (i := lst n) (A := A) (B := ub (n (lst n)) 4 (J 4)) (by (try rw [un_n (by omega)]); omega) hA (fun cf c h => ?_) ?_
  · exact ln_this (B := n (lst n)) (by
      refine lnI_ok ?_ ?_ ?_ ?_ ?_ ?_ ?_ ?_ ?_ ?_ ?_
      all_goals (try simp (disch := omega) only [up_s, up_n, lnI_1, lnI_2, lnI_3, lnI_4, lnI_5, lnI_10, lnI_11, lnI_12, lnI_13, lnI_14, lnI_15, lnTo, ub_s, ub_n, bLend])
      all_goals (repeat' split)
      all_goals first | rfl | omega) (by first | rfl | (simp (disch := omega) only [ub_n, bLend])) (by first | rfl | (simp (disch := omega) only [ub_n, bLend])) (by first | rfl | (simp (disch := omega) only [ub_n, bLend])) (by first | rfl | (simp (disch := omega) only [ub_n, bLend])) (fun k hk => by first | rfl | (simp (disch := omega) only [ub_n, bLend])) cf c h rfl
  refine x_aload_n C eX2_takeShare_14 rfl ?_
  refine x_iconst C eX2_takeShare_15 ?_
  refine x_bipush C eX2_takeShare_16 rfl ?_
  refine x_bipush C eX2_takeShare_18 rfl ?_
  refine yV3r [_, _, _, _] [_, _, _, _, _, _] C (s_X2_takeNumber hK hJb hJk (by (try simp (disch := decide) only [lnI_1, lnI_2, un_s, ub_n, ub_s]); omega)) v_X2_takeNumber vv_X2_takeNumber s_RX2_163 eX2_takeShare_20 (fun _ _ h => WF_pick [1, 4, 0, 2, 3, 5] rfl rfl h) (rcv 1 rfl) rfl (nle rfl) (nle rfl) (nle rfl) (nle rfl) rfl ?_
  refine x_iret (by first | rfl | exact (narZ (by omega)).1) C F eX2_takeShare_23 () ?_ trivial (fun cf c h => ?_) (nle rfl) (nle rfl)
  · rfl
  · exact WF_pick [0, 1, 3, 4, 2, 5] rfl rfl h

set_option maxHeartbeats 4000000 in
set_option maxRecDepth 100000 in
theorem s_X2_takeLowMark {G : Gm} {l : Launch} (hK : KG G) {pa tk tr qb ql q : Nat} {J P : Nat → Int} {al lg : Nat} {M : Pool} {L : Int → Nat} {n : Net} (hJb : 0 ≤ J 4 ∧ J 4 ≤ 1000) (hJk : 0 ≤ J 1 ∧ J 1 ≤ 17) (hn1 : 1 ≤ n (-1) 0 ∧ n (-1) 0 ≤ 6) (hcap : -1000 ≤ n (lst n) 1 ∧ n (lst n) 1 ≤ 1000) : MD G l yX2_takeLowMark cX2_takeLowMark 1 (some .int) 3 0 0 [.ref pa] [ob pa 4 (paS tk tr qb ql) (P), ob tk 7 [some (.ref q), none, none, none, none] J, ob tr 8 (tkS al lg) (tkI n), arR G 5 al 6 (fun j => some (L (j : Int))), LFz G M L (n), LOG G lg n] (some (.int (zI (tnC J 0 (n (lst n) 1 - 1))))) [ob pa 4 (paS tk tr qb ql) (up P 4 8), ob tk 7 [some (.ref q), none, none, none, none] J, ob tr 8 (tkS al lg) (tkI n), arR G 5 al 6 (fun j => some (L (j : Int))), LFz G M L (seL n 2 (J 4)), LOG G lg n] := by
  refine MX_of (lv := [some (.ref pa)]) hK (by decide +kernel) rfl (nle rfl) (fun X C F => ?_)
  have C : OKc G X l RX2 "takeLowMark" cX2_takeLowMark 1 (some .int) 3 0 0 := C
  refine x_aload_n C eX2_takeLowMark_0 rfl ?_
  refine yV0r [_, _, _] [_, _, _, _, _, _] C (s_X2_latestLine hK (by show 1 ≤ n (-1) 0 ∧ n (-1) 0 ≤ 6; exact hn1)) v_X2_latestLine vv_X2_latestLine s_RX2_146 eX2_takeLowMark_1 (fun _ _ h => WF_pick [0, 2, 3, 1, 4, 5] rfl rfl h) (rcv 0 rfl) rfl (nle rfl) (nle rfl) (nle rfl) (nle rfl) rfl ?_
  rw [show tkI n 2 - 1 = lst n from rfl]
  have hl9 : 0 ≤ lst n ∧ lst n < n (-1) 0 := by unfold lst; omega
  refine x_oZ (M := M) (L := L) (m := n) (i := lst n) (R := [_, _, _, _, _]) (by (try rw [un_n (by omega)]); omega) (fun _ _ hw => WF_pick [4, 0, 1, 2, 3, 5] rfl rfl hw) (fun A hA => ?_)
  refine x_aload_n C eX2_takeLowMark_4 rfl ?_
  refine x_getR 11 C f_RX2_26 eX2_takeLowMark_5 rfl rfl ?_
  refine x_getI 14 C f_RX2_143 eX2_takeLowMark_8 rfl rfl ?_
  try simp (disch := first | decide | omega) only [up_s, up_n, tkI_2, tkI_3, tkI_4, tkI_5, tkI_6, tkI_7, tkI_8, lnI_1, lnI_2, lnI_3, lnI_4, lnI_5, lnI_10, lnI_11, lnI_12, lnI_13, lnI_14, lnI_15, un_s, ub_s, ub_n]
  refine x_putI [_, _, _, _, _, _, _, _, _, _, _, _, _, _, _, _] 0 C f_RX2_167 eX2_takeLowMark_11 rfl rfl rfl ?_
  refine x_pick [_, _, _, _, _, _, _, _, _, _, _, _, _, _, _, _] [0, 1, 2, 3, 4, 5, 6, 7, 8, 9, 10, 11, 12, 13, 14, 15] rfl rfl ?_
  refine x_cZ (m := n) (i := lst n) (A := A) (B := ub (n (lst n)) 2 (J 4)) (by (try rw [un_n (by omega)]); omega) hA (fun cf c h => ?_) ?_
  · exact ln_this (B := n (lst n)) (by
      refine lnI_ok ?_ ?_ ?_ ?_ ?_ ?_ ?_ ?_ ?_ ?_ ?_
      all_goals (try simp (disch := omega) only [up_s, up_n, lnI_1, lnI_2, lnI_3, lnI_4, lnI_5, lnI_10, lnI_11, lnI_12, lnI_13, lnI_14, lnI_15, lnTo, ub_s, ub_n, bLend])
      all_goals (repeat' split)
      all_goals first | rfl | omega) (by first | rfl | (simp (disch := omega) only [ub_n, bLend])) (by first | rfl | (simp (disch := omega) only [ub_n, bLend])) (by first | rfl | (simp (disch := omega) only [ub_n, bLend])) (by first | rfl | (simp (disch := omega) only [ub_n, bLend])) (fun k hk => by first | rfl | (simp (disch := omega) only [ub_n, bLend])) cf c h rfl
  refine x_aload_n C eX2_takeLowMark_14 rfl ?_
  refine x_iconst C eX2_takeLowMark_15 ?_
  refine x_aload_n C eX2_takeLowMark_16 rfl ?_
  refine yV0r [_, _, _] [_, _, _, _, _, _] C (s_X2_latestLine hK (by show 1 ≤ n (-1) 0 ∧ n (-1) 0 ≤ 6; exact hn1)) v_X2_latestLine vv_X2_latestLine s_RX2_146 eX2_takeLowMark_17 (fun _ _ h => WF_pick [1, 2, 3, 0, 4, 5] rfl rfl h) (rcv 1 rfl) rfl (nle rfl) (nle rfl) (nle rfl) (nle rfl) rfl ?_
  rw [show tkI n 2 - 1 = lst n from rfl]
  refine x_oZ (M := M) (L := L) (m := un n (lst n) (ub (n (lst n)) 2 (J 4))) (i := lst n) (R := [_, _, _, _, _]) (by (try rw [un_n (by omega)]); omega) (fun _ _ hw => WF_pick [3, 0, 1, 2, 4, 5] rfl rfl hw) (fun A hA => ?_)
  refine x_getI 0 C f_RX2_160 eX2_takeLowMark_20 rfl rfl ?_
  try simp (disch := first | decide | omega) only [up_s, up_n, tkI_2, tkI_3, tkI_4, tkI_5, tkI_6, tkI_7, tkI_8, lnI_1, lnI_2, lnI_3, lnI_4, lnI_5, lnI_10, lnI_11, lnI_12, lnI_13, lnI_14, lnI_15, un_s, ub_s, ub_n]
  refine x_pick [_, _, _, _, _, _, _, _, _, _, _, _, _, _, _, _] [0, 1, 2, 3, 4, 5, 6, 7, 8, 9, 10, 11, 12, 13, 14, 15] rfl rfl ?_
  refine x_cZ (m := un n (lst n) (ub (n (lst n)) 2 (J 4))) (i := lst n) (A := A) (B := (un n (lst n) (ub (n (lst n)) 2 (J 4))) (lst n)) (by (try rw [un_n (by omega)]); omega) hA (fun cf c h => ?_) ?_
  · rw [un_s]; exact h
  rw [un_id]
  refine x_iconst C eX2_takeLowMark_23 ?_
  refine x_isub C eX2_takeLowMark_24 ?_
  refine x_bipush C eX2_takeLowMark_25 rfl ?_
  refine yV3r [_, _, _, _] [_, _, _, _, _, _] C (s_X2_takeNumber hK hJb hJk (by (try simp (disch := decide) only [lnI_1, lnI_2, un_s, ub_n, ub_s]); omega)) v_X2_takeNumber vv_X2_takeNumber s_RX2_163 eX2_takeLowMark_27 (fun _ _ h => WF_pick [1, 4, 0, 2, 3, 5] rfl rfl h) (rcv 1 rfl) rfl (nle rfl) (nle rfl) (nle rfl) (nle rfl) rfl ?_
  refine x_iret (by first | rfl | exact (narZ (by omega)).1) C F eX2_takeLowMark_30 () ?_ trivial (fun cf c h => ?_) (nle rfl) (nle rfl)
  · rfl
  · exact WF_pick [0, 1, 3, 4, 2, 5] rfl rfl h

set_option maxHeartbeats 4000000 in
set_option maxRecDepth 100000 in
theorem s_X2_takeHighMark {G : Gm} {l : Launch} (hK : KG G) {pa tk tr qb ql q : Nat} {J P : Nat → Int} {al lg : Nat} {M : Pool} {L : Int → Nat} {n : Net} (hJb : 0 ≤ J 4 ∧ J 4 ≤ 1000) (hJk : 0 ≤ J 1 ∧ J 1 ≤ 17) (hn1 : 1 ≤ n (-1) 0 ∧ n (-1) 0 ≤ 6) (hcap : -1000 ≤ n (lst n) 1 ∧ n (lst n) 1 ≤ 1000) (hcap2 : -1000 ≤ n (lst n) 2 ∧ n (lst n) 2 ≤ 1000) : MD G l yX2_takeHighMark cX2_takeHighMark 1 (some .int) 3 0 0 [.ref pa] [ob pa 4 (paS tk tr qb ql) (P), ob tk 7 [some (.ref q), none, none, none, none] J, ob tr 8 (tkS al lg) (tkI n), arR G 5 al 6 (fun j => some (L (j : Int))), LFz G M L (n), LOG G lg n] (some (.int (zI (tnC J (n (lst n) 2 + 1) (n (lst n) 1))))) [ob pa 4 (paS tk tr qb ql) (up P 4 9), ob tk 7 [some (.ref q), none, none, none, none] J, ob tr 8 (tkS al lg) (tkI n), arR G 5 al 6 (fun j => some (L (j : Int))), LFz G M L (seL n 3 (J 4)), LOG G lg n] := by
  refine MX_of (lv := [some (.ref pa)]) hK (by decide +kernel) rfl (nle rfl) (fun X C F => ?_)
  have C : OKc G X l RX2 "takeHighMark" cX2_takeHighMark 1 (some .int) 3 0 0 := C
  refine x_aload_n C eX2_takeHighMark_0 rfl ?_
  refine yV0r [_, _, _] [_, _, _, _, _, _] C (s_X2_latestLine hK (by show 1 ≤ n (-1) 0 ∧ n (-1) 0 ≤ 6; exact hn1)) v_X2_latestLine vv_X2_latestLine s_RX2_146 eX2_takeHighMark_1 (fun _ _ h => WF_pick [0, 2, 3, 1, 4, 5] rfl rfl h) (rcv 0 rfl) rfl (nle rfl) (nle rfl) (nle rfl) (nle rfl) rfl ?_
  rw [show tkI n 2 - 1 = lst n from rfl]
  have hl9 : 0 ≤ lst n ∧ lst n < n (-1) 0 := by unfold lst; omega
  refine x_oZ (M := M) (L := L) (m := n) (i := lst n) (R := [_, _, _, _, _]) (by (try rw [un_n (by omega)]); omega) (fun _ _ hw => WF_pick [4, 0, 1, 2, 3, 5] rfl rfl hw) (fun A hA => ?_)
  refine x_aload_n C eX2_takeHighMark_4 rfl ?_
  refine x_getR 11 C f_RX2_26 eX2_takeHighMark_5 rfl rfl ?_
  refine x_getI 14 C f_RX2_143 eX2_takeHighMark_8 rfl rfl ?_
  try simp (disch := first | decide | omega) only [up_s, up_n, tkI_2, tkI_3, tkI_4, tkI_5, tkI_6, tkI_7, tkI_8, lnI_1, lnI_2, lnI_3, lnI_4, lnI_5, lnI_10, lnI_11, lnI_12, lnI_13, lnI_14, lnI_15, un_s, ub_s, ub_n]
  refine x_putI [_, _, _, _, _, _, _, _, _, _, _, _, _, _, _, _] 0 C f_RX2_170 eX2_takeHighMark_11 rfl rfl rfl ?_
  refine x_pick [_, _, _, _, _, _, _, _, _, _, _, _, _, _, _, _] [0, 1, 2, 3, 4, 5, 6, 7, 8, 9, 10, 11, 12, 13, 14, 15] rfl rfl ?_
  refine x_cZ (m := n) (i := lst n) (A := A) (B := ub (n (lst n)) 3 (J 4)) (by (try rw [un_n (by omega)]); omega) hA (fun cf c h => ?_) ?_
  · exact ln_this (B := n (lst n)) (by
      refine lnI_ok ?_ ?_ ?_ ?_ ?_ ?_ ?_ ?_ ?_ ?_ ?_
      all_goals (try simp (disch := omega) only [up_s, up_n, lnI_1, lnI_2, lnI_3, lnI_4, lnI_5, lnI_10, lnI_11, lnI_12, lnI_13, lnI_14, lnI_15, lnTo, ub_s, ub_n, bLend])
      all_goals (repeat' split)
      all_goals first | rfl | omega) (by first | rfl | (simp (disch := omega) only [ub_n, bLend])) (by first | rfl | (simp (disch := omega) only [ub_n, bLend])) (by first | rfl | (simp (disch := omega) only [ub_n, bLend])) (by first | rfl | (simp (disch := omega) only [ub_n, bLend])) (fun k hk => by first | rfl | (simp (disch := omega) only [ub_n, bLend])) cf c h rfl
  refine x_aload_n C eX2_takeHighMark_14 rfl ?_
  refine x_aload_n C eX2_takeHighMark_15 rfl ?_
  refine yV0r [_, _, _] [_, _, _, _, _, _] C (s_X2_latestLine hK (by show 1 ≤ n (-1) 0 ∧ n (-1) 0 ≤ 6; exact hn1)) v_X2_latestLine vv_X2_latestLine s_RX2_146 eX2_takeHighMark_16 (fun _ _ h => WF_pick [1, 2, 3, 0, 4, 5] rfl rfl h) (rcv 1 rfl) rfl (nle rfl) (nle rfl) (nle rfl) (nle rfl) rfl ?_
  rw [show tkI n 2 - 1 = lst n from rfl]
  refine x_oZ (M := M) (L := L) (m := un n (lst n) (ub (n (lst n)) 3 (J 4))) (i := lst n) (R := [_, _, _, _, _]) (by (try rw [un_n (by omega)]); omega) (fun _ _ hw => WF_pick [3, 0, 1, 2, 4, 5] rfl rfl hw) (fun A hA => ?_)
  refine x_getI 0 C f_RX2_167 eX2_takeHighMark_19 rfl rfl ?_
  try simp (disch := first | decide | omega) only [up_s, up_n, tkI_2, tkI_3, tkI_4, tkI_5, tkI_6, tkI_7, tkI_8, lnI_1, lnI_2, lnI_3, lnI_4, lnI_5, lnI_10, lnI_11, lnI_12, lnI_13, lnI_14, lnI_15, un_s, ub_s, ub_n]
  refine x_pick [_, _, _, _, _, _, _, _, _, _, _, _, _, _, _, _] [0, 1, 2, 3, 4, 5, 6, 7, 8, 9, 10, 11, 12, 13, 14, 15] rfl rfl ?_
  refine x_cZ (m := un n (lst n) (ub (n (lst n)) 3 (J 4))) (i := lst n) (A := A) (B := (un n (lst n) (ub (n (lst n)) 3 (J 4))) (lst n)) (by (try rw [un_n (by omega)]); omega) hA (fun cf c h => ?_) ?_
  · rw [un_s]; exact h
  rw [un_id]
  refine x_iconst C eX2_takeHighMark_22 ?_
  refine x_iadd C eX2_takeHighMark_23 ?_
  refine x_aload_n C eX2_takeHighMark_24 rfl ?_
  refine yV0r [_, _, _] [_, _, _, _, _, _] C (s_X2_latestLine hK (by show 1 ≤ n (-1) 0 ∧ n (-1) 0 ≤ 6; exact hn1)) v_X2_latestLine vv_X2_latestLine s_RX2_146 eX2_takeHighMark_25 (fun _ _ h => WF_pick [1, 2, 3, 0, 4, 5] rfl rfl h) (rcv 1 rfl) rfl (nle rfl) (nle rfl) (nle rfl) (nle rfl) rfl ?_
  rw [show tkI n 2 - 1 = lst n from rfl]
  refine x_oZ (M := M) (L := L) (m := un n (lst n) (ub (n (lst n)) 3 (J 4))) (i := lst n) (R := [_, _, _, _, _]) (by (try rw [un_n (by omega)]); omega) (fun _ _ hw => WF_pick [3, 0, 1, 2, 4, 5] rfl rfl hw) (fun A hA => ?_)
  refine x_getI 0 C f_RX2_160 eX2_takeHighMark_28 rfl rfl ?_
  try simp (disch := first | decide | omega) only [up_s, up_n, tkI_2, tkI_3, tkI_4, tkI_5, tkI_6, tkI_7, tkI_8, lnI_1, lnI_2, lnI_3, lnI_4, lnI_5, lnI_10, lnI_11, lnI_12, lnI_13, lnI_14, lnI_15, un_s, ub_s, ub_n]
  refine x_pick [_, _, _, _, _, _, _, _, _, _, _, _, _, _, _, _] [0, 1, 2, 3, 4, 5, 6, 7, 8, 9, 10, 11, 12, 13, 14, 15] rfl rfl ?_
  refine x_cZ (m := un n (lst n) (ub (n (lst n)) 3 (J 4))) (i := lst n) (A := A) (B := (un n (lst n) (ub (n (lst n)) 3 (J 4))) (lst n)) (by (try rw [un_n (by omega)]); omega) hA (fun cf c h => ?_) ?_
  · rw [un_s]; exact h
  rw [un_id]
  refine x_bipush C eX2_takeHighMark_31 rfl ?_
  refine yV3r [_, _, _, _] [_, _, _, _, _, _] C (s_X2_takeNumber hK hJb hJk (by (try simp (disch := decide) only [lnI_1, lnI_2, un_s, ub_n, ub_s]); omega)) v_X2_takeNumber vv_X2_takeNumber s_RX2_163 eX2_takeHighMark_33 (fun _ _ h => WF_pick [1, 4, 0, 2, 3, 5] rfl rfl h) (rcv 1 rfl) rfl (nle rfl) (nle rfl) (nle rfl) (nle rfl) rfl ?_
  refine x_iret (by first | rfl | exact (narZ (by omega)).1) C F eX2_takeHighMark_36 () ?_ trivial (fun cf c h => ?_) (nle rfl) (nle rfl)
  · rfl
  · exact WF_pick [0, 1, 3, 4, 2, 5] rfl rfl h
