/-! Throwing paths: methods that begin with a test that throws. -/
set_option maxHeartbeats 4000000 in
set_option maxRecDepth 100000 in
theorem t_X7_line_2 {G : Gm} {l : Launch} (hX : KX G) (hT0 : l.stackTraces = false) {e ip op t tr ps pa sl al lg : Nat} {J : Nat → Int} {n : Net} {l9 : Int} {w9 : Int32} (hm : 0 ≤ n (-1) 0 ∧ n (-1) 0 ≤ 6) (hb9 : -2147483648 ≤ l9 ∧ l9 ≤ 2147483647) (hl : ¬ (0 ≤ l9 ∧ l9 < n (-1) 0)) : MT G l yX7_line cX7_line 4 (some .int) 7 1 6 [.ref e, .int (zI l9), .int w9] [ob e 9 (ecS ip op t tr ps pa sl) J, ob t 8 (tkS al lg) (tkI (n))] "java/lang/IndexOutOfBoundsException" [ob e 9 (ecS ip op t tr ps pa sl) J, ob t 8 (tkS al lg) (tkI (n))] := by
  have hS : KS G := hX.1
  have hK : KG G := hS.1.1
  refine MT_of (lv := [some (.ref e), some (.int (zI l9)), some (.int w9), none]) hK (by decide +kernel) rfl (nle rfl) (fun X C F => ?_)
  have C : OKc G X l RX7 "line" cX7_line 4 (some .int) 7 1 6 := C
  refine x_aload_n C eX7_line_0 rfl ?_
  refine x_iload_n C eX7_line_1 rfl ?_
  exact x_callVX (As := [_]) [] C (t_X7_testLine_15 hX hT0 (by omega) (by omega) (by omega)) v_X7_testLine vv_X7_testLine s_RX7_145 (rcv 0 rfl) eX7_line_2 rfl (fun _ _ h => WF_pick [0, 1] rfl rfl h) rfl (nle rfl) (nle rfl) (nle rfl) (nle rfl) F (fun _ _ h => WF_pick [0, 1] rfl rfl h)

set_option maxHeartbeats 4000000 in
set_option maxRecDepth 100000 in
theorem t_X7_count_2 {G : Gm} {l : Launch} (hX : KX G) (hT0 : l.stackTraces = false) {e ip op t tr ps pa sl al lg : Nat} {J : Nat → Int} {n : Net} {l9 : Int} {w9 : Int32} (hm : 0 ≤ n (-1) 0 ∧ n (-1) 0 ≤ 6) (hb9 : -2147483648 ≤ l9 ∧ l9 ≤ 2147483647) (hl : ¬ (0 ≤ l9 ∧ l9 < n (-1) 0)) : MT G l yX7_count cX7_count 3 (some .int) 7 1 6 [.ref e, .int (zI l9), .int w9] [ob e 9 (ecS ip op t tr ps pa sl) J, ob t 8 (tkS al lg) (tkI (n))] "java/lang/IndexOutOfBoundsException" [ob e 9 (ecS ip op t tr ps pa sl) J, ob t 8 (tkS al lg) (tkI (n))] := by
  have hS : KS G := hX.1
  have hK : KG G := hS.1.1
  refine MT_of (lv := [some (.ref e), some (.int (zI l9)), some (.int w9)]) hK (by decide +kernel) rfl (nle rfl) (fun X C F => ?_)
  have C : OKc G X l RX7 "count" cX7_count 3 (some .int) 7 1 6 := C
  refine x_aload_n C eX7_count_0 rfl ?_
  refine x_iload_n C eX7_count_1 rfl ?_
  exact x_callVX (As := [_]) [] C (t_X7_testLine_15 hX hT0 (by omega) (by omega) (by omega)) v_X7_testLine vv_X7_testLine s_RX7_145 (rcv 0 rfl) eX7_count_2 rfl (fun _ _ h => WF_pick [0, 1] rfl rfl h) rfl (nle rfl) (nle rfl) (nle rfl) (nle rfl) F (fun _ _ h => WF_pick [0, 1] rfl rfl h)

set_option maxHeartbeats 4000000 in
set_option maxRecDepth 100000 in
theorem t_X7_queued_2 {G : Gm} {l : Launch} (hX : KX G) (hT0 : l.stackTraces = false) {e ip op t tr ps pa sl al lg : Nat} {J : Nat → Int} {n : Net} {l9 : Int} {w9 i9 : Int32} (hm : 0 ≤ n (-1) 0 ∧ n (-1) 0 ≤ 6) (hb9 : -2147483648 ≤ l9 ∧ l9 ≤ 2147483647) (hl : ¬ (0 ≤ l9 ∧ l9 < n (-1) 0)) : MT G l yX7_queued cX7_queued 6 (some .int) 7 1 6 [.ref e, .int (zI l9), .int w9, .int i9] [ob e 9 (ecS ip op t tr ps pa sl) J, ob t 8 (tkS al lg) (tkI (n))] "java/lang/IndexOutOfBoundsException" [ob e 9 (ecS ip op t tr ps pa sl) J, ob t 8 (tkS al lg) (tkI (n))] := by
  have hS : KS G := hX.1
  have hK : KG G := hS.1.1
  refine MT_of (lv := [some (.ref e), some (.int (zI l9)), some (.int w9), some (.int i9), none, none]) hK (by decide +kernel) rfl (nle rfl) (fun X C F => ?_)
  have C : OKc G X l RX7 "queued" cX7_queued 6 (some .int) 7 1 6 := C
  refine x_aload_n C eX7_queued_0 rfl ?_
  refine x_iload_n C eX7_queued_1 rfl ?_
  exact x_callVX (As := [_]) [] C (t_X7_testLine_15 hX hT0 (by omega) (by omega) (by omega)) v_X7_testLine vv_X7_testLine s_RX7_145 (rcv 0 rfl) eX7_queued_2 rfl (fun _ _ h => WF_pick [0, 1] rfl rfl h) rfl (nle rfl) (nle rfl) (nle rfl) (nle rfl) F (fun _ _ h => WF_pick [0, 1] rfl rfl h)

set_option maxHeartbeats 4000000 in
set_option maxRecDepth 100000 in
theorem t_X7_delivered_2 {G : Gm} {l : Launch} (hX : KX G) (hT0 : l.stackTraces = false) {e ip op t tr ps pa sl al lg : Nat} {J : Nat → Int} {n : Net} {l9 : Int}  (hm : 0 ≤ n (-1) 0 ∧ n (-1) 0 ≤ 6) (hb9 : -2147483648 ≤ l9 ∧ l9 ≤ 2147483647) (hl : ¬ (0 ≤ l9 ∧ l9 < n (-1) 0)) : MT G l yX7_delivered cX7_delivered 2 (some .int) 7 1 6 [.ref e, .int (zI l9)] [ob e 9 (ecS ip op t tr ps pa sl) J, ob t 8 (tkS al lg) (tkI (n))] "java/lang/IndexOutOfBoundsException" [ob e 9 (ecS ip op t tr ps pa sl) J, ob t 8 (tkS al lg) (tkI (n))] := by
  have hS : KS G := hX.1
  have hK : KG G := hS.1.1
  refine MT_of (lv := [some (.ref e), some (.int (zI l9))]) hK (by decide +kernel) rfl (nle rfl) (fun X C F => ?_)
  have C : OKc G X l RX7 "delivered" cX7_delivered 2 (some .int) 7 1 6 := C
  refine x_aload_n C eX7_delivered_0 rfl ?_
  refine x_iload_n C eX7_delivered_1 rfl ?_
  exact x_callVX (As := [_]) [] C (t_X7_testLine_15 hX hT0 (by omega) (by omega) (by omega)) v_X7_testLine vv_X7_testLine s_RX7_145 (rcv 0 rfl) eX7_delivered_2 rfl (fun _ _ h => WF_pick [0, 1] rfl rfl h) rfl (nle rfl) (nle rfl) (nle rfl) (nle rfl) F (fun _ _ h => WF_pick [0, 1] rfl rfl h)

set_option maxHeartbeats 4000000 in
set_option maxRecDepth 100000 in
theorem t_X7_sendsIn_2 {G : Gm} {l : Launch} (hX : KX G) (hT0 : l.stackTraces = false) {e ip op t tr ps pa sl al lg : Nat} {J : Nat → Int} {n : Net} {l9 : Int}  (hm : 0 ≤ n (-1) 0 ∧ n (-1) 0 ≤ 6) (hb9 : -2147483648 ≤ l9 ∧ l9 ≤ 2147483647) (hl : ¬ (0 ≤ l9 ∧ l9 < n (-1) 0)) : MT G l yX7_sendsIn cX7_sendsIn 3 (some .int) 7 1 6 [.ref e, .int (zI l9)] [ob e 9 (ecS ip op t tr ps pa sl) J, ob t 8 (tkS al lg) (tkI (n))] "java/lang/IndexOutOfBoundsException" [ob e 9 (ecS ip op t tr ps pa sl) J, ob t 8 (tkS al lg) (tkI (n))] := by
  have hS : KS G := hX.1
  have hK : KG G := hS.1.1
  refine MT_of (lv := [some (.ref e), some (.int (zI l9)), none]) hK (by decide +kernel) rfl (nle rfl) (fun X C F => ?_)
  have C : OKc G X l RX7 "sendsIn" cX7_sendsIn 3 (some .int) 7 1 6 := C
  refine x_aload_n C eX7_sendsIn_0 rfl ?_
  refine x_iload_n C eX7_sendsIn_1 rfl ?_
  exact x_callVX (As := [_]) [] C (t_X7_testLine_15 hX hT0 (by omega) (by omega) (by omega)) v_X7_testLine vv_X7_testLine s_RX7_145 (rcv 0 rfl) eX7_sendsIn_2 rfl (fun _ _ h => WF_pick [0, 1] rfl rfl h) rfl (nle rfl) (nle rfl) (nle rfl) (nle rfl) F (fun _ _ h => WF_pick [0, 1] rfl rfl h)

set_option maxHeartbeats 4000000 in
set_option maxRecDepth 100000 in
theorem t_X7_emptyIn_2 {G : Gm} {l : Launch} (hX : KX G) (hT0 : l.stackTraces = false) {e ip op t tr ps pa sl al lg : Nat} {J : Nat → Int} {n : Net} {l9 : Int}  (hm : 0 ≤ n (-1) 0 ∧ n (-1) 0 ≤ 6) (hb9 : -2147483648 ≤ l9 ∧ l9 ≤ 2147483647) (hl : ¬ (0 ≤ l9 ∧ l9 < n (-1) 0)) : MT G l yX7_emptyIn cX7_emptyIn 4 (some .int) 7 1 6 [.ref e, .int (zI l9)] [ob e 9 (ecS ip op t tr ps pa sl) J, ob t 8 (tkS al lg) (tkI (n))] "java/lang/IndexOutOfBoundsException" [ob e 9 (ecS ip op t tr ps pa sl) J, ob t 8 (tkS al lg) (tkI (n))] := by
  have hS : KS G := hX.1
  have hK : KG G := hS.1.1
  refine MT_of (lv := [some (.ref e), some (.int (zI l9)), none, none]) hK (by decide +kernel) rfl (nle rfl) (fun X C F => ?_)
  have C : OKc G X l RX7 "emptyIn" cX7_emptyIn 4 (some .int) 7 1 6 := C
  refine x_aload_n C eX7_emptyIn_0 rfl ?_
  refine x_iload_n C eX7_emptyIn_1 rfl ?_
  exact x_callVX (As := [_]) [] C (t_X7_testLine_15 hX hT0 (by omega) (by omega) (by omega)) v_X7_testLine vv_X7_testLine s_RX7_145 (rcv 0 rfl) eX7_emptyIn_2 rfl (fun _ _ h => WF_pick [0, 1] rfl rfl h) rfl (nle rfl) (nle rfl) (nle rfl) (nle rfl) F (fun _ _ h => WF_pick [0, 1] rfl rfl h)

set_option maxHeartbeats 4000000 in
set_option maxRecDepth 100000 in
theorem t_X7_sentIn_2 {G : Gm} {l : Launch} (hX : KX G) (hT0 : l.stackTraces = false) {e ip op t tr ps pa sl al lg : Nat} {J : Nat → Int} {n : Net} {l9 : Int} {w9 : Int32} (hm : 0 ≤ n (-1) 0 ∧ n (-1) 0 ≤ 6) (hb9 : -2147483648 ≤ l9 ∧ l9 ≤ 2147483647) (hl : ¬ (0 ≤ l9 ∧ l9 < n (-1) 0)) : MT G l yX7_sentIn cX7_sentIn 3 (some .int) 7 1 6 [.ref e, .int (zI l9), .int w9] [ob e 9 (ecS ip op t tr ps pa sl) J, ob t 8 (tkS al lg) (tkI (n))] "java/lang/IndexOutOfBoundsException" [ob e 9 (ecS ip op t tr ps pa sl) J, ob t 8 (tkS al lg) (tkI (n))] := by
  have hS : KS G := hX.1
  have hK : KG G := hS.1.1
  refine MT_of (lv := [some (.ref e), some (.int (zI l9)), some (.int w9)]) hK (by decide +kernel) rfl (nle rfl) (fun X C F => ?_)
  have C : OKc G X l RX7 "sentIn" cX7_sentIn 3 (some .int) 7 1 6 := C
  refine x_aload_n C eX7_sentIn_0 rfl ?_
  refine x_iload_n C eX7_sentIn_1 rfl ?_
  exact x_callVX (As := [_]) [] C (t_X7_testLine_15 hX hT0 (by omega) (by omega) (by omega)) v_X7_testLine vv_X7_testLine s_RX7_145 (rcv 0 rfl) eX7_sentIn_2 rfl (fun _ _ h => WF_pick [0, 1] rfl rfl h) rfl (nle rfl) (nle rfl) (nle rfl) (nle rfl) F (fun _ _ h => WF_pick [0, 1] rfl rfl h)

set_option maxHeartbeats 4000000 in
set_option maxRecDepth 100000 in
theorem t_X7_deliveredIn_2 {G : Gm} {l : Launch} (hX : KX G) (hT0 : l.stackTraces = false) {e ip op t tr ps pa sl al lg : Nat} {J : Nat → Int} {n : Net} {l9 : Int} {w9 : Int32} (hm : 0 ≤ n (-1) 0 ∧ n (-1) 0 ≤ 6) (hb9 : -2147483648 ≤ l9 ∧ l9 ≤ 2147483647) (hl : ¬ (0 ≤ l9 ∧ l9 < n (-1) 0)) : MT G l yX7_deliveredIn cX7_deliveredIn 3 (some .int) 7 1 6 [.ref e, .int (zI l9), .int w9] [ob e 9 (ecS ip op t tr ps pa sl) J, ob t 8 (tkS al lg) (tkI (n))] "java/lang/IndexOutOfBoundsException" [ob e 9 (ecS ip op t tr ps pa sl) J, ob t 8 (tkS al lg) (tkI (n))] := by
  have hS : KS G := hX.1
  have hK : KG G := hS.1.1
  refine MT_of (lv := [some (.ref e), some (.int (zI l9)), some (.int w9)]) hK (by decide +kernel) rfl (nle rfl) (fun X C F => ?_)
  have C : OKc G X l RX7 "deliveredIn" cX7_deliveredIn 3 (some .int) 7 1 6 := C
  refine x_aload_n C eX7_deliveredIn_0 rfl ?_
  refine x_iload_n C eX7_deliveredIn_1 rfl ?_
  exact x_callVX (As := [_]) [] C (t_X7_testLine_15 hX hT0 (by omega) (by omega) (by omega)) v_X7_testLine vv_X7_testLine s_RX7_145 (rcv 0 rfl) eX7_deliveredIn_2 rfl (fun _ _ h => WF_pick [0, 1] rfl rfl h) rfl (nle rfl) (nle rfl) (nle rfl) (nle rfl) F (fun _ _ h => WF_pick [0, 1] rfl rfl h)

set_option maxHeartbeats 4000000 in
set_option maxRecDepth 100000 in
theorem t_X7_room_2 {G : Gm} {l : Launch} (hX : KX G) (hT0 : l.stackTraces = false) {e ip op t tr ps pa sl al lg : Nat} {J : Nat → Int} {n : Net} {l9 : Int}  (hm : 0 ≤ n (-1) 0 ∧ n (-1) 0 ≤ 6) (hb9 : -2147483648 ≤ l9 ∧ l9 ≤ 2147483647) (hl : ¬ (0 ≤ l9 ∧ l9 < n (-1) 0)) : MT G l yX7_room cX7_room 3 (some .int) 7 1 6 [.ref e, .int (zI l9)] [ob e 9 (ecS ip op t tr ps pa sl) J, ob t 8 (tkS al lg) (tkI (n))] "java/lang/IndexOutOfBoundsException" [ob e 9 (ecS ip op t tr ps pa sl) J, ob t 8 (tkS al lg) (tkI (n))] := by
  have hS : KS G := hX.1
  have hK : KG G := hS.1.1
  refine MT_of (lv := [some (.ref e), some (.int (zI l9)), none]) hK (by decide +kernel) rfl (nle rfl) (fun X C F => ?_)
  have C : OKc G X l RX7 "room" cX7_room 3 (some .int) 7 1 6 := C
  refine x_aload_n C eX7_room_0 rfl ?_
  refine x_iload_n C eX7_room_1 rfl ?_
  exact x_callVX (As := [_]) [] C (t_X7_testLine_15 hX hT0 (by omega) (by omega) (by omega)) v_X7_testLine vv_X7_testLine s_RX7_145 (rcv 0 rfl) eX7_room_2 rfl (fun _ _ h => WF_pick [0, 1] rfl rfl h) rfl (nle rfl) (nle rfl) (nle rfl) (nle rfl) F (fun _ _ h => WF_pick [0, 1] rfl rfl h)

set_option maxHeartbeats 4000000 in
set_option maxRecDepth 100000 in
theorem t_X7_untilStop_2 {G : Gm} {l : Launch} (hX : KX G) (hT0 : l.stackTraces = false) {e ip op t tr ps pa sl al lg : Nat} {J : Nat → Int} {n : Net} {l9 : Int}  (hm : 0 ≤ n (-1) 0 ∧ n (-1) 0 ≤ 6) (hb9 : -2147483648 ≤ l9 ∧ l9 ≤ 2147483647) (hl : ¬ (0 ≤ l9 ∧ l9 < n (-1) 0)) : MT G l yX7_untilStop cX7_untilStop 3 (some .int) 7 1 6 [.ref e, .int (zI l9)] [ob e 9 (ecS ip op t tr ps pa sl) J, ob t 8 (tkS al lg) (tkI (n))] "java/lang/IndexOutOfBoundsException" [ob e 9 (ecS ip op t tr ps pa sl) J, ob t 8 (tkS al lg) (tkI (n))] := by
  have hS : KS G := hX.1
  have hK : KG G := hS.1.1
  refine MT_of (lv := [some (.ref e), some (.int (zI l9)), none]) hK (by decide +kernel) rfl (nle rfl) (fun X C F => ?_)
  have C : OKc G X l RX7 "untilStop" cX7_untilStop 3 (some .int) 7 1 6 := C
  refine x_aload_n C eX7_untilStop_0 rfl ?_
  refine x_iload_n C eX7_untilStop_1 rfl ?_
  exact x_callVX (As := [_]) [] C (t_X7_testLine_15 hX hT0 (by omega) (by omega) (by omega)) v_X7_testLine vv_X7_testLine s_RX7_145 (rcv 0 rfl) eX7_untilStop_2 rfl (fun _ _ h => WF_pick [0, 1] rfl rfl h) rfl (nle rfl) (nle rfl) (nle rfl) (nle rfl) F (fun _ _ h => WF_pick [0, 1] rfl rfl h)

set_option maxHeartbeats 4000000 in
set_option maxRecDepth 100000 in
theorem t_X7_droppedBy_2 {G : Gm} {l : Launch} (hX : KX G) (hT0 : l.stackTraces = false) {e ip op t tr ps pa sl al lg : Nat} {J : Nat → Int} {n : Net} {l9 : Int} {w9 : Int32} (hm : 0 ≤ n (-1) 0 ∧ n (-1) 0 ≤ 6) (hb9 : -2147483648 ≤ l9 ∧ l9 ≤ 2147483647) (hl : ¬ (0 ≤ l9 ∧ l9 < n (-1) 0)) : MT G l yX7_droppedBy cX7_droppedBy 5 (some .int) 7 1 6 [.ref e, .int (zI l9), .int w9] [ob e 9 (ecS ip op t tr ps pa sl) J, ob t 8 (tkS al lg) (tkI (n))] "java/lang/IndexOutOfBoundsException" [ob e 9 (ecS ip op t tr ps pa sl) J, ob t 8 (tkS al lg) (tkI (n))] := by
  have hS : KS G := hX.1
  have hK : KG G := hS.1.1
  refine MT_of (lv := [some (.ref e), some (.int (zI l9)), some (.int w9), none, none]) hK (by decide +kernel) rfl (nle rfl) (fun X C F => ?_)
  have C : OKc G X l RX7 "droppedBy" cX7_droppedBy 5 (some .int) 7 1 6 := C
  refine x_aload_n C eX7_droppedBy_0 rfl ?_
  refine x_iload_n C eX7_droppedBy_1 rfl ?_
  exact x_callVX (As := [_]) [] C (t_X7_testLine_15 hX hT0 (by omega) (by omega) (by omega)) v_X7_testLine vv_X7_testLine s_RX7_145 (rcv 0 rfl) eX7_droppedBy_2 rfl (fun _ _ h => WF_pick [0, 1] rfl rfl h) rfl (nle rfl) (nle rfl) (nle rfl) (nle rfl) F (fun _ _ h => WF_pick [0, 1] rfl rfl h)

set_option maxHeartbeats 4000000 in
set_option maxRecDepth 100000 in
theorem t_X7_sentIfLent_2 {G : Gm} {l : Launch} (hX : KX G) (hT0 : l.stackTraces = false) {e ip op t tr ps pa sl al lg : Nat} {J : Nat → Int} {n : Net} {l9 : Int} {w9 : Int32} (hm : 0 ≤ n (-1) 0 ∧ n (-1) 0 ≤ 6) (hb9 : -2147483648 ≤ l9 ∧ l9 ≤ 2147483647) (hl : ¬ (0 ≤ l9 ∧ l9 < n (-1) 0)) : MT G l yX7_sentIfLent cX7_sentIfLent 3 (some .int) 7 1 6 [.ref e, .int (zI l9), .int w9] [ob e 9 (ecS ip op t tr ps pa sl) J, ob t 8 (tkS al lg) (tkI (n))] "java/lang/IndexOutOfBoundsException" [ob e 9 (ecS ip op t tr ps pa sl) J, ob t 8 (tkS al lg) (tkI (n))] := by
  have hS : KS G := hX.1
  have hK : KG G := hS.1.1
  refine MT_of (lv := [some (.ref e), some (.int (zI l9)), some (.int w9)]) hK (by decide +kernel) rfl (nle rfl) (fun X C F => ?_)
  have C : OKc G X l RX7 "sentIfLent" cX7_sentIfLent 3 (some .int) 7 1 6 := C
  refine x_aload_n C eX7_sentIfLent_0 rfl ?_
  refine x_iload_n C eX7_sentIfLent_1 rfl ?_
  exact x_callVX (As := [_]) [] C (t_X7_testLine_15 hX hT0 (by omega) (by omega) (by omega)) v_X7_testLine vv_X7_testLine s_RX7_145 (rcv 0 rfl) eX7_sentIfLent_2 rfl (fun _ _ h => WF_pick [0, 1] rfl rfl h) rfl (nle rfl) (nle rfl) (nle rfl) (nle rfl) F (fun _ _ h => WF_pick [0, 1] rfl rfl h)

set_option maxHeartbeats 4000000 in
set_option maxRecDepth 100000 in
theorem t_X7_bestBorrower_2 {G : Gm} {l : Launch} (hX : KX G) (hT0 : l.stackTraces = false) {e ip op t tr ps pa sl al lg : Nat} {J : Nat → Int} {n : Net} {l9 : Int}  (hm : 0 ≤ n (-1) 0 ∧ n (-1) 0 ≤ 6) (hb9 : -2147483648 ≤ l9 ∧ l9 ≤ 2147483647) (hl : ¬ (0 ≤ l9 ∧ l9 < n (-1) 0)) : MT G l yX7_bestBorrower cX7_bestBorrower 5 (some .int) 7 1 6 [.ref e, .int (zI l9)] [ob e 9 (ecS ip op t tr ps pa sl) J, ob t 8 (tkS al lg) (tkI (n))] "java/lang/IndexOutOfBoundsException" [ob e 9 (ecS ip op t tr ps pa sl) J, ob t 8 (tkS al lg) (tkI (n))] := by
  have hS : KS G := hX.1
  have hK : KG G := hS.1.1
  refine MT_of (lv := [some (.ref e), some (.int (zI l9)), none, none, none]) hK (by decide +kernel) rfl (nle rfl) (fun X C F => ?_)
  have C : OKc G X l RX7 "bestBorrower" cX7_bestBorrower 5 (some .int) 7 1 6 := C
  refine x_aload_n C eX7_bestBorrower_0 rfl ?_
  refine x_iload_n C eX7_bestBorrower_1 rfl ?_
  exact x_callVX (As := [_]) [] C (t_X7_testLine_15 hX hT0 (by omega) (by omega) (by omega)) v_X7_testLine vv_X7_testLine s_RX7_145 (rcv 0 rfl) eX7_bestBorrower_2 rfl (fun _ _ h => WF_pick [0, 1] rfl rfl h) rfl (nle rfl) (nle rfl) (nle rfl) (nle rfl) F (fun _ _ h => WF_pick [0, 1] rfl rfl h)

set_option maxHeartbeats 4000000 in
set_option maxRecDepth 100000 in
theorem t_X7_share_2 {G : Gm} {l : Launch} (hX : KX G) (hT0 : l.stackTraces = false) {e ip op t tr ps pa sl al lg : Nat} {J : Nat → Int} {n : Net} {l9 : Int}  (hm : 0 ≤ n (-1) 0 ∧ n (-1) 0 ≤ 6) (hb9 : -2147483648 ≤ l9 ∧ l9 ≤ 2147483647) (hl : ¬ (0 ≤ l9 ∧ l9 < n (-1) 0)) : MT G l yX7_share cX7_share 2 (some .float) 7 1 6 [.ref e, .int (zI l9)] [ob e 9 (ecS ip op t tr ps pa sl) J, ob t 8 (tkS al lg) (tkI (n))] "java/lang/IndexOutOfBoundsException" [ob e 9 (ecS ip op t tr ps pa sl) J, ob t 8 (tkS al lg) (tkI (n))] := by
  have hS : KS G := hX.1
  have hK : KG G := hS.1.1
  refine MT_of (lv := [some (.ref e), some (.int (zI l9))]) hK (by decide +kernel) rfl (nle rfl) (fun X C F => ?_)
  have C : OKc G X l RX7 "share" cX7_share 2 (some .float) 7 1 6 := C
  refine x_aload_n C eX7_share_0 rfl ?_
  refine x_iload_n C eX7_share_1 rfl ?_
  exact x_callVX (As := [_]) [] C (t_X7_testLine_15 hX hT0 (by omega) (by omega) (by omega)) v_X7_testLine vv_X7_testLine s_RX7_145 (rcv 0 rfl) eX7_share_2 rfl (fun _ _ h => WF_pick [0, 1] rfl rfl h) rfl (nle rfl) (nle rfl) (nle rfl) (nle rfl) F (fun _ _ h => WF_pick [0, 1] rfl rfl h)

set_option maxHeartbeats 4000000 in
set_option maxRecDepth 100000 in
theorem t_X7_meanWait_2 {G : Gm} {l : Launch} (hX : KX G) (hT0 : l.stackTraces = false) {e ip op t tr ps pa sl al lg : Nat} {J : Nat → Int} {n : Net} {l9 : Int}  (hm : 0 ≤ n (-1) 0 ∧ n (-1) 0 ≤ 6) (hb9 : -2147483648 ≤ l9 ∧ l9 ≤ 2147483647) (hl : ¬ (0 ≤ l9 ∧ l9 < n (-1) 0)) : MT G l yX7_meanWait cX7_meanWait 4 (some .double) 7 1 6 [.ref e, .int (zI l9)] [ob e 9 (ecS ip op t tr ps pa sl) J, ob t 8 (tkS al lg) (tkI (n))] "java/lang/IndexOutOfBoundsException" [ob e 9 (ecS ip op t tr ps pa sl) J, ob t 8 (tkS al lg) (tkI (n))] := by
  have hS : KS G := hX.1
  have hK : KG G := hS.1.1
  refine MT_of (lv := [some (.ref e), some (.int (zI l9)), none, none]) hK (by decide +kernel) rfl (nle rfl) (fun X C F => ?_)
  have C : OKc G X l RX7 "meanWait" cX7_meanWait 4 (some .double) 7 1 6 := C
  refine x_aload_n C eX7_meanWait_0 rfl ?_
  refine x_iload_n C eX7_meanWait_1 rfl ?_
  exact x_callVX (As := [_]) [] C (t_X7_testLine_15 hX hT0 (by omega) (by omega) (by omega)) v_X7_testLine vv_X7_testLine s_RX7_145 (rcv 0 rfl) eX7_meanWait_2 rfl (fun _ _ h => WF_pick [0, 1] rfl rfl h) rfl (nle rfl) (nle rfl) (nle rfl) (nle rfl) F (fun _ _ h => WF_pick [0, 1] rfl rfl h)

set_option maxHeartbeats 4000000 in
set_option maxRecDepth 100000 in
theorem t_X7_gap_2 {G : Gm} {l : Launch} (hX : KX G) (hT0 : l.stackTraces = false) {e ip op t tr ps pa sl al lg : Nat} {J : Nat → Int} {n : Net} {l9 : Int}  (hm : 0 ≤ n (-1) 0 ∧ n (-1) 0 ≤ 6) (hb9 : -2147483648 ≤ l9 ∧ l9 ≤ 2147483647) (hl : ¬ (0 ≤ l9 ∧ l9 < n (-1) 0)) : MT G l yX7_gap cX7_gap 4 (some .int) 7 1 6 [.ref e, .int (zI l9)] [ob e 9 (ecS ip op t tr ps pa sl) J, ob t 8 (tkS al lg) (tkI (n))] "java/lang/IndexOutOfBoundsException" [ob e 9 (ecS ip op t tr ps pa sl) J, ob t 8 (tkS al lg) (tkI (n))] := by
  have hS : KS G := hX.1
  have hK : KG G := hS.1.1
  refine MT_of (lv := [some (.ref e), some (.int (zI l9)), none, none]) hK (by decide +kernel) rfl (nle rfl) (fun X C F => ?_)
  have C : OKc G X l RX7 "gap" cX7_gap 4 (some .int) 7 1 6 := C
  refine x_aload_n C eX7_gap_0 rfl ?_
  refine x_iload_n C eX7_gap_1 rfl ?_
  exact x_callVX (As := [_]) [] C (t_X7_testLine_15 hX hT0 (by omega) (by omega) (by omega)) v_X7_testLine vv_X7_testLine s_RX7_145 (rcv 0 rfl) eX7_gap_2 rfl (fun _ _ h => WF_pick [0, 1] rfl rfl h) rfl (nle rfl) (nle rfl) (nle rfl) (nle rfl) F (fun _ _ h => WF_pick [0, 1] rfl rfl h)

set_option maxHeartbeats 4000000 in
set_option maxRecDepth 100000 in
theorem t_X7_type_2 {G : Gm} {l : Launch} (hX : KX G) (hT0 : l.stackTraces = false) {e ip op t tr ps pa sl al lg : Nat} {J : Nat → Int} {n : Net} {l9 : Int} {w9 i9 : Int32} (hm : 0 ≤ n (-1) 0 ∧ n (-1) 0 ≤ 6) (hb9 : -2147483648 ≤ l9 ∧ l9 ≤ 2147483647) (hl : ¬ (0 ≤ l9 ∧ l9 < n (-1) 0)) : MT G l yX7_type cX7_type 6 (some .int) 7 1 6 [.ref e, .int (zI l9), .int w9, .int i9] [ob e 9 (ecS ip op t tr ps pa sl) J, ob t 8 (tkS al lg) (tkI (n))] "java/lang/IndexOutOfBoundsException" [ob e 9 (ecS ip op t tr ps pa sl) J, ob t 8 (tkS al lg) (tkI (n))] := by
  have hS : KS G := hX.1
  have hK : KG G := hS.1.1
  refine MT_of (lv := [some (.ref e), some (.int (zI l9)), some (.int w9), some (.int i9), none, none]) hK (by decide +kernel) rfl (nle rfl) (fun X C F => ?_)
  have C : OKc G X l RX7 "type" cX7_type 6 (some .int) 7 1 6 := C
  refine x_aload_n C eX7_type_0 rfl ?_
  refine x_iload_n C eX7_type_1 rfl ?_
  exact x_callVX (As := [_]) [] C (t_X7_testLine_15 hX hT0 (by omega) (by omega) (by omega)) v_X7_testLine vv_X7_testLine s_RX7_145 (rcv 0 rfl) eX7_type_2 rfl (fun _ _ h => WF_pick [0, 1] rfl rfl h) rfl (nle rfl) (nle rfl) (nle rfl) (nle rfl) F (fun _ _ h => WF_pick [0, 1] rfl rfl h)

set_option maxHeartbeats 4000000 in
set_option maxRecDepth 100000 in
theorem t_X7_reply_2 {G : Gm} {l : Launch} (hX : KX G) (hT0 : l.stackTraces = false) {e ip op t tr ps pa sl al lg : Nat} {J : Nat → Int} {n : Net} {l9 : Int} {w9 i9 : Int32} (hm : 0 ≤ n (-1) 0 ∧ n (-1) 0 ≤ 6) (hb9 : -2147483648 ≤ l9 ∧ l9 ≤ 2147483647) (hl : ¬ (0 ≤ l9 ∧ l9 < n (-1) 0)) : MT G l yX7_reply cX7_reply 6 (some .int) 7 1 6 [.ref e, .int (zI l9), .int w9, .int i9] [ob e 9 (ecS ip op t tr ps pa sl) J, ob t 8 (tkS al lg) (tkI (n))] "java/lang/IndexOutOfBoundsException" [ob e 9 (ecS ip op t tr ps pa sl) J, ob t 8 (tkS al lg) (tkI (n))] := by
  have hS : KS G := hX.1
  have hK : KG G := hS.1.1
  refine MT_of (lv := [some (.ref e), some (.int (zI l9)), some (.int w9), some (.int i9), none, none]) hK (by decide +kernel) rfl (nle rfl) (fun X C F => ?_)
  have C : OKc G X l RX7 "reply" cX7_reply 6 (some .int) 7 1 6 := C
  refine x_aload_n C eX7_reply_0 rfl ?_
  refine x_iload_n C eX7_reply_1 rfl ?_
  exact x_callVX (As := [_]) [] C (t_X7_testLine_15 hX hT0 (by omega) (by omega) (by omega)) v_X7_testLine vv_X7_testLine s_RX7_145 (rcv 0 rfl) eX7_reply_2 rfl (fun _ _ h => WF_pick [0, 1] rfl rfl h) rfl (nle rfl) (nle rfl) (nle rfl) (nle rfl) F (fun _ _ h => WF_pick [0, 1] rfl rfl h)

set_option maxHeartbeats 4000000 in
set_option maxRecDepth 100000 in
theorem t_X7_lend_2 {G : Gm} {l : Launch} (hX : KX G) (hT0 : l.stackTraces = false) {e ip op t tr ps pa sl al lg : Nat} {J : Nat → Int} {n : Net} {l9 : Int} {w9 i9 : Int32} (hm : 0 ≤ n (-1) 0 ∧ n (-1) 0 ≤ 6) (hb9 : -2147483648 ≤ l9 ∧ l9 ≤ 2147483647) (hl : ¬ (0 ≤ l9 ∧ l9 < n (-1) 0)) : MT G l yX7_lend cX7_lend 6 (some .int) 7 1 6 [.ref e, .int (zI l9), .int w9, .int i9] [ob e 9 (ecS ip op t tr ps pa sl) J, ob t 8 (tkS al lg) (tkI (n))] "java/lang/IndexOutOfBoundsException" [ob e 9 (ecS ip op t tr ps pa sl) J, ob t 8 (tkS al lg) (tkI (n))] := by
  have hS : KS G := hX.1
  have hK : KG G := hS.1.1
  refine MT_of (lv := [some (.ref e), some (.int (zI l9)), some (.int w9), some (.int i9), none, none]) hK (by decide +kernel) rfl (nle rfl) (fun X C F => ?_)
  have C : OKc G X l RX7 "lend" cX7_lend 6 (some .int) 7 1 6 := C
  refine x_aload_n C eX7_lend_0 rfl ?_
  refine x_iload_n C eX7_lend_1 rfl ?_
  exact x_callVX (As := [_]) [] C (t_X7_testLine_15 hX hT0 (by omega) (by omega) (by omega)) v_X7_testLine vv_X7_testLine s_RX7_145 (rcv 0 rfl) eX7_lend_2 rfl (fun _ _ h => WF_pick [0, 1] rfl rfl h) rfl (nle rfl) (nle rfl) (nle rfl) (nle rfl) F (fun _ _ h => WF_pick [0, 1] rfl rfl h)

set_option maxHeartbeats 4000000 in
set_option maxRecDepth 100000 in
theorem t_X7_recall_2 {G : Gm} {l : Launch} (hX : KX G) (hT0 : l.stackTraces = false) {e ip op t tr ps pa sl al lg : Nat} {J : Nat → Int} {n : Net} {l9 : Int}  (hm : 0 ≤ n (-1) 0 ∧ n (-1) 0 ≤ 6) (hb9 : -2147483648 ≤ l9 ∧ l9 ≤ 2147483647) (hl : ¬ (0 ≤ l9 ∧ l9 < n (-1) 0)) : MT G l yX7_recall cX7_recall 4 (some .int) 7 1 6 [.ref e, .int (zI l9)] [ob e 9 (ecS ip op t tr ps pa sl) J, ob t 8 (tkS al lg) (tkI (n))] "java/lang/IndexOutOfBoundsException" [ob e 9 (ecS ip op t tr ps pa sl) J, ob t 8 (tkS al lg) (tkI (n))] := by
  have hS : KS G := hX.1
  have hK : KG G := hS.1.1
  refine MT_of (lv := [some (.ref e), some (.int (zI l9)), none, none]) hK (by decide +kernel) rfl (nle rfl) (fun X C F => ?_)
  have C : OKc G X l RX7 "recall" cX7_recall 4 (some .int) 7 1 6 := C
  refine x_aload_n C eX7_recall_0 rfl ?_
  refine x_iload_n C eX7_recall_1 rfl ?_
  exact x_callVX (As := [_]) [] C (t_X7_testLine_15 hX hT0 (by omega) (by omega) (by omega)) v_X7_testLine vv_X7_testLine s_RX7_145 (rcv 0 rfl) eX7_recall_2 rfl (fun _ _ h => WF_pick [0, 1] rfl rfl h) rfl (nle rfl) (nle rfl) (nle rfl) (nle rfl) F (fun _ _ h => WF_pick [0, 1] rfl rfl h)

set_option maxHeartbeats 4000000 in
set_option maxRecDepth 100000 in
theorem t_X7_breakLine_2 {G : Gm} {l : Launch} (hX : KX G) (hT0 : l.stackTraces = false) {e ip op t tr ps pa sl al lg : Nat} {J : Nat → Int} {n : Net} {l9 : Int} {w9 : Int32} (hm : 0 ≤ n (-1) 0 ∧ n (-1) 0 ≤ 6) (hb9 : -2147483648 ≤ l9 ∧ l9 ≤ 2147483647) (hl : ¬ (0 ≤ l9 ∧ l9 < n (-1) 0)) : MT G l yX7_breakLine cX7_breakLine 5 (some .int) 7 1 6 [.ref e, .int (zI l9), .int w9] [ob e 9 (ecS ip op t tr ps pa sl) J, ob t 8 (tkS al lg) (tkI (n))] "java/lang/IndexOutOfBoundsException" [ob e 9 (ecS ip op t tr ps pa sl) J, ob t 8 (tkS al lg) (tkI (n))] := by
  have hS : KS G := hX.1
  have hK : KG G := hS.1.1
  refine MT_of (lv := [some (.ref e), some (.int (zI l9)), some (.int w9), none, none]) hK (by decide +kernel) rfl (nle rfl) (fun X C F => ?_)
  have C : OKc G X l RX7 "breakLine" cX7_breakLine 5 (some .int) 7 1 6 := C
  refine x_aload_n C eX7_breakLine_0 rfl ?_
  refine x_iload_n C eX7_breakLine_1 rfl ?_
  exact x_callVX (As := [_]) [] C (t_X7_testLine_15 hX hT0 (by omega) (by omega) (by omega)) v_X7_testLine vv_X7_testLine s_RX7_145 (rcv 0 rfl) eX7_breakLine_2 rfl (fun _ _ h => WF_pick [0, 1] rfl rfl h) rfl (nle rfl) (nle rfl) (nle rfl) (nle rfl) F (fun _ _ h => WF_pick [0, 1] rfl rfl h)

set_option maxHeartbeats 4000000 in
set_option maxRecDepth 100000 in
theorem t_X7_setPaused_2 {G : Gm} {l : Launch} (hX : KX G) (hT0 : l.stackTraces = false) {e ip op t tr ps pa sl al lg : Nat} {J : Nat → Int} {n : Net} {l9 : Int} {w9 : Int32} (hm : 0 ≤ n (-1) 0 ∧ n (-1) 0 ≤ 6) (hb9 : -2147483648 ≤ l9 ∧ l9 ≤ 2147483647) (hl : ¬ (0 ≤ l9 ∧ l9 < n (-1) 0)) : MT G l yX7_setPaused cX7_setPaused 5 (some .boolean) 7 1 6 [.ref e, .int (zI l9), .int w9] [ob e 9 (ecS ip op t tr ps pa sl) J, ob t 8 (tkS al lg) (tkI (n))] "java/lang/IndexOutOfBoundsException" [ob e 9 (ecS ip op t tr ps pa sl) J, ob t 8 (tkS al lg) (tkI (n))] := by
  have hS : KS G := hX.1
  have hK : KG G := hS.1.1
  refine MT_of (lv := [some (.ref e), some (.int (zI l9)), some (.int w9), none, none]) hK (by decide +kernel) rfl (nle rfl) (fun X C F => ?_)
  have C : OKc G X l RX7 "setPaused" cX7_setPaused 5 (some .boolean) 7 1 6 := C
  refine x_aload_n C eX7_setPaused_0 rfl ?_
  refine x_iload_n C eX7_setPaused_1 rfl ?_
  exact x_callVX (As := [_]) [] C (t_X7_testLine_15 hX hT0 (by omega) (by omega) (by omega)) v_X7_testLine vv_X7_testLine s_RX7_145 (rcv 0 rfl) eX7_setPaused_2 rfl (fun _ _ h => WF_pick [0, 1] rfl rfl h) rfl (nle rfl) (nle rfl) (nle rfl) (nle rfl) F (fun _ _ h => WF_pick [0, 1] rfl rfl h)

set_option maxHeartbeats 4000000 in
set_option maxRecDepth 100000 in
theorem t_X7_setEcho_2 {G : Gm} {l : Launch} (hX : KX G) (hT0 : l.stackTraces = false) {e ip op t tr ps pa sl al lg : Nat} {J : Nat → Int} {n : Net} {l9 : Int} {w9 : Int32} (hm : 0 ≤ n (-1) 0 ∧ n (-1) 0 ≤ 6) (hb9 : -2147483648 ≤ l9 ∧ l9 ≤ 2147483647) (hl : ¬ (0 ≤ l9 ∧ l9 < n (-1) 0)) : MT G l yX7_setEcho cX7_setEcho 5 (some .int) 7 1 6 [.ref e, .int (zI l9), .int w9] [ob e 9 (ecS ip op t tr ps pa sl) J, ob t 8 (tkS al lg) (tkI (n))] "java/lang/IndexOutOfBoundsException" [ob e 9 (ecS ip op t tr ps pa sl) J, ob t 8 (tkS al lg) (tkI (n))] := by
  have hS : KS G := hX.1
  have hK : KG G := hS.1.1
  refine MT_of (lv := [some (.ref e), some (.int (zI l9)), some (.int w9), none, none]) hK (by decide +kernel) rfl (nle rfl) (fun X C F => ?_)
  have C : OKc G X l RX7 "setEcho" cX7_setEcho 5 (some .int) 7 1 6 := C
  refine x_aload_n C eX7_setEcho_0 rfl ?_
  refine x_iload_n C eX7_setEcho_1 rfl ?_
  exact x_callVX (As := [_]) [] C (t_X7_testLine_15 hX hT0 (by omega) (by omega) (by omega)) v_X7_testLine vv_X7_testLine s_RX7_145 (rcv 0 rfl) eX7_setEcho_2 rfl (fun _ _ h => WF_pick [0, 1] rfl rfl h) rfl (nle rfl) (nle rfl) (nle rfl) (nle rfl) F (fun _ _ h => WF_pick [0, 1] rfl rfl h)

set_option maxHeartbeats 4000000 in
set_option maxRecDepth 100000 in
theorem t_X7_setMarks_2 {G : Gm} {l : Launch} (hX : KX G) (hT0 : l.stackTraces = false) {e ip op t tr ps pa sl al lg : Nat} {J : Nat → Int} {n : Net} {l9 : Int} {w9 i9 : Int32} (hm : 0 ≤ n (-1) 0 ∧ n (-1) 0 ≤ 6) (hb9 : -2147483648 ≤ l9 ∧ l9 ≤ 2147483647) (hl : ¬ (0 ≤ l9 ∧ l9 < n (-1) 0)) : MT G l yX7_setMarks cX7_setMarks 6 (some .int) 7 1 6 [.ref e, .int (zI l9), .int w9, .int i9] [ob e 9 (ecS ip op t tr ps pa sl) J, ob t 8 (tkS al lg) (tkI (n))] "java/lang/IndexOutOfBoundsException" [ob e 9 (ecS ip op t tr ps pa sl) J, ob t 8 (tkS al lg) (tkI (n))] := by
  have hS : KS G := hX.1
  have hK : KG G := hS.1.1
  refine MT_of (lv := [some (.ref e), some (.int (zI l9)), some (.int w9), some (.int i9), none, none]) hK (by decide +kernel) rfl (nle rfl) (fun X C F => ?_)
  have C : OKc G X l RX7 "setMarks" cX7_setMarks 6 (some .int) 7 1 6 := C
  refine x_aload_n C eX7_setMarks_0 rfl ?_
  refine x_iload_n C eX7_setMarks_1 rfl ?_
  exact x_callVX (As := [_]) [] C (t_X7_testLine_15 hX hT0 (by omega) (by omega) (by omega)) v_X7_testLine vv_X7_testLine s_RX7_145 (rcv 0 rfl) eX7_setMarks_2 rfl (fun _ _ h => WF_pick [0, 1] rfl rfl h) rfl (nle rfl) (nle rfl) (nle rfl) (nle rfl) F (fun _ _ h => WF_pick [0, 1] rfl rfl h)

set_option maxHeartbeats 4000000 in
set_option maxRecDepth 100000 in
theorem t_X7_setShare_2 {G : Gm} {l : Launch} (hX : KX G) (hT0 : l.stackTraces = false) {e ip op t tr ps pa sl al lg : Nat} {J : Nat → Int} {n : Net} {l9 : Int} {w9 : Int32} (hm : 0 ≤ n (-1) 0 ∧ n (-1) 0 ≤ 6) (hb9 : -2147483648 ≤ l9 ∧ l9 ≤ 2147483647) (hl : ¬ (0 ≤ l9 ∧ l9 < n (-1) 0)) : MT G l yX7_setShare cX7_setShare 5 (some .int) 7 1 6 [.ref e, .int (zI l9), .int w9] [ob e 9 (ecS ip op t tr ps pa sl) J, ob t 8 (tkS al lg) (tkI (n))] "java/lang/IndexOutOfBoundsException" [ob e 9 (ecS ip op t tr ps pa sl) J, ob t 8 (tkS al lg) (tkI (n))] := by
  have hS : KS G := hX.1
  have hK : KG G := hS.1.1
  refine MT_of (lv := [some (.ref e), some (.int (zI l9)), some (.int w9), none, none]) hK (by decide +kernel) rfl (nle rfl) (fun X C F => ?_)
  have C : OKc G X l RX7 "setShare" cX7_setShare 5 (some .int) 7 1 6 := C
  refine x_aload_n C eX7_setShare_0 rfl ?_
  refine x_iload_n C eX7_setShare_1 rfl ?_
  exact x_callVX (As := [_]) [] C (t_X7_testLine_15 hX hT0 (by omega) (by omega) (by omega)) v_X7_testLine vv_X7_testLine s_RX7_145 (rcv 0 rfl) eX7_setShare_2 rfl (fun _ _ h => WF_pick [0, 1] rfl rfl h) rfl (nle rfl) (nle rfl) (nle rfl) (nle rfl) F (fun _ _ h => WF_pick [0, 1] rfl rfl h)

set_option maxHeartbeats 4000000 in
set_option maxRecDepth 100000 in
theorem t_X7_writeCounts_2 {G : Gm} {l : Launch} (hX : KX G) (hT0 : l.stackTraces = false) {e ip op t tr ps pa sl al lg : Nat} {J : Nat → Int} {n : Net} {l9 : Int}  (hm : 0 ≤ n (-1) 0 ∧ n (-1) 0 ≤ 6) (hb9 : -2147483648 ≤ l9 ∧ l9 ≤ 2147483647) (hl : ¬ (0 ≤ l9 ∧ l9 < n (-1) 0)) : MT G l yX7_writeCounts cX7_writeCounts 3 (some .int) 7 1 6 [.ref e, .int (zI l9)] [ob e 9 (ecS ip op t tr ps pa sl) J, ob t 8 (tkS al lg) (tkI (n))] "java/lang/IndexOutOfBoundsException" [ob e 9 (ecS ip op t tr ps pa sl) J, ob t 8 (tkS al lg) (tkI (n))] := by
  have hS : KS G := hX.1
  have hK : KG G := hS.1.1
  refine MT_of (lv := [some (.ref e), some (.int (zI l9)), none]) hK (by decide +kernel) rfl (nle rfl) (fun X C F => ?_)
  have C : OKc G X l RX7 "writeCounts" cX7_writeCounts 3 (some .int) 7 1 6 := C
  refine x_aload_n C eX7_writeCounts_0 rfl ?_
  refine x_iload_n C eX7_writeCounts_1 rfl ?_
  exact x_callVX (As := [_]) [] C (t_X7_testLine_15 hX hT0 (by omega) (by omega) (by omega)) v_X7_testLine vv_X7_testLine s_RX7_145 (rcv 0 rfl) eX7_writeCounts_2 rfl (fun _ _ h => WF_pick [0, 1] rfl rfl h) rfl (nle rfl) (nle rfl) (nle rfl) (nle rfl) F (fun _ _ h => WF_pick [0, 1] rfl rfl h)

set_option maxHeartbeats 4000000 in
set_option maxRecDepth 100000 in
theorem t_X7_sentIn_10 {G : Gm} {l : Launch} (hX : KX G) (hT0 : l.stackTraces = false) {e ip op t tr ps pa sl al lg : Nat} {J : Nat → Int} {n : Net} {l9 v9 : Int} (hm : 0 ≤ n (-1) 0 ∧ n (-1) 0 ≤ 6) (hl : 0 ≤ l9 ∧ l9 < n (-1) 0) (hb1 : -2147483648 ≤ v9 ∧ v9 ≤ 2147483647) (ht : ¬ (0 ≤ v9 ∧ v9 ≤ 500)) : MT G l yX7_sentIn cX7_sentIn 3 (some .int) 7 1 6 [.ref e, .int (zI l9), .int (zI v9)] [ob e 9 (ecS ip op t tr ps pa sl) J, ob t 8 (tkS al lg) (tkI (n))] "java/lang/IllegalArgumentException" [ob e 9 (ecS ip op t tr ps pa sl) J, ob t 8 (tkS al lg) (tkI (n))] := by
  have hS : KS G := hX.1
  have hK : KG G := hS.1.1
  refine MT_of (lv := [some (.ref e), some (.int (zI l9)), some (.int (zI v9))]) hK (by decide +kernel) rfl (nle rfl) (fun X C F => ?_)
  have C : OKc G X l RX7 "sentIn" cX7_sentIn 3 (some .int) 7 1 6 := C
  refine x_aload_n C eX7_sentIn_0 rfl ?_
  refine x_iload_n C eX7_sentIn_1 rfl ?_
  refine yV1v [] [_, _] C (s_X7_testLine hK (by omega)) v_X7_testLine vv_X7_testLine s_RX7_145 eX7_sentIn_2 (fun _ _ h => WF_pick [0, 1] rfl rfl h) (rcv 0 rfl) rfl (nle rfl) (nle rfl) (nle rfl) (nle rfl) rfl ?_
  refine x_iload_n C eX7_sentIn_5 rfl ?_
  refine x_iconst C eX7_sentIn_6 ?_
  refine x_sipush C eX7_sentIn_7 rfl ?_
  exact x_callSX (As := [_, _, _]) [_, _] C (t_X7_testRange_10 hX hT0 (by omega) (by omega) (by omega) (by omega)) v_X7_testRange vs_X7_testRange s_RX7_219 eX7_sentIn_10 rfl (fun _ _ h => WF_pick [0, 1] rfl rfl h) rfl (nle rfl) (nle rfl) (nle rfl) (nle rfl) F (fun _ _ h => WF_pick [0, 1] rfl rfl h)

set_option maxHeartbeats 4000000 in
set_option maxRecDepth 100000 in
theorem t_X7_deliveredIn_10 {G : Gm} {l : Launch} (hX : KX G) (hT0 : l.stackTraces = false) {e ip op t tr ps pa sl al lg : Nat} {J : Nat → Int} {n : Net} {l9 v9 : Int} (hm : 0 ≤ n (-1) 0 ∧ n (-1) 0 ≤ 6) (hl : 0 ≤ l9 ∧ l9 < n (-1) 0) (hb1 : -2147483648 ≤ v9 ∧ v9 ≤ 2147483647) (ht : ¬ (0 ≤ v9 ∧ v9 ≤ 500)) : MT G l yX7_deliveredIn cX7_deliveredIn 3 (some .int) 7 1 6 [.ref e, .int (zI l9), .int (zI v9)] [ob e 9 (ecS ip op t tr ps pa sl) J, ob t 8 (tkS al lg) (tkI (n))] "java/lang/IllegalArgumentException" [ob e 9 (ecS ip op t tr ps pa sl) J, ob t 8 (tkS al lg) (tkI (n))] := by
  have hS : KS G := hX.1
  have hK : KG G := hS.1.1
  refine MT_of (lv := [some (.ref e), some (.int (zI l9)), some (.int (zI v9))]) hK (by decide +kernel) rfl (nle rfl) (fun X C F => ?_)
  have C : OKc G X l RX7 "deliveredIn" cX7_deliveredIn 3 (some .int) 7 1 6 := C
  refine x_aload_n C eX7_deliveredIn_0 rfl ?_
  refine x_iload_n C eX7_deliveredIn_1 rfl ?_
  refine yV1v [] [_, _] C (s_X7_testLine hK (by omega)) v_X7_testLine vv_X7_testLine s_RX7_145 eX7_deliveredIn_2 (fun _ _ h => WF_pick [0, 1] rfl rfl h) (rcv 0 rfl) rfl (nle rfl) (nle rfl) (nle rfl) (nle rfl) rfl ?_
  refine x_iload_n C eX7_deliveredIn_5 rfl ?_
  refine x_iconst C eX7_deliveredIn_6 ?_
  refine x_sipush C eX7_deliveredIn_7 rfl ?_
  exact x_callSX (As := [_, _, _]) [_, _] C (t_X7_testRange_10 hX hT0 (by omega) (by omega) (by omega) (by omega)) v_X7_testRange vs_X7_testRange s_RX7_219 eX7_deliveredIn_10 rfl (fun _ _ h => WF_pick [0, 1] rfl rfl h) rfl (nle rfl) (nle rfl) (nle rfl) (nle rfl) F (fun _ _ h => WF_pick [0, 1] rfl rfl h)

set_option maxHeartbeats 4000000 in
set_option maxRecDepth 100000 in
theorem t_X7_droppedBy_10 {G : Gm} {l : Launch} (hX : KX G) (hT0 : l.stackTraces = false) {e ip op t tr ps pa sl al lg : Nat} {J : Nat → Int} {n : Net} {l9 v9 : Int} (hm : 0 ≤ n (-1) 0 ∧ n (-1) 0 ≤ 6) (hl : 0 ≤ l9 ∧ l9 < n (-1) 0) (hb1 : -2147483648 ≤ v9 ∧ v9 ≤ 2147483647) (ht : ¬ (1 ≤ v9 ∧ v9 ≤ 500)) : MT G l yX7_droppedBy cX7_droppedBy 5 (some .int) 7 1 6 [.ref e, .int (zI l9), .int (zI v9)] [ob e 9 (ecS ip op t tr ps pa sl) J, ob t 8 (tkS al lg) (tkI (n))] "java/lang/IllegalArgumentException" [ob e 9 (ecS ip op t tr ps pa sl) J, ob t 8 (tkS al lg) (tkI (n))] := by
  have hS : KS G := hX.1
  have hK : KG G := hS.1.1
  refine MT_of (lv := [some (.ref e), some (.int (zI l9)), some (.int (zI v9)), none, none]) hK (by decide +kernel) rfl (nle rfl) (fun X C F => ?_)
  have C : OKc G X l RX7 "droppedBy" cX7_droppedBy 5 (some .int) 7 1 6 := C
  refine x_aload_n C eX7_droppedBy_0 rfl ?_
  refine x_iload_n C eX7_droppedBy_1 rfl ?_
  refine yV1v [] [_, _] C (s_X7_testLine hK (by omega)) v_X7_testLine vv_X7_testLine s_RX7_145 eX7_droppedBy_2 (fun _ _ h => WF_pick [0, 1] rfl rfl h) (rcv 0 rfl) rfl (nle rfl) (nle rfl) (nle rfl) (nle rfl) rfl ?_
  refine x_iload_n C eX7_droppedBy_5 rfl ?_
  refine x_iconst C eX7_droppedBy_6 ?_
  refine x_sipush C eX7_droppedBy_7 rfl ?_
  exact x_callSX (As := [_, _, _]) [_, _] C (t_X7_testRange_10 hX hT0 (by omega) (by omega) (by omega) (by omega)) v_X7_testRange vs_X7_testRange s_RX7_219 eX7_droppedBy_10 rfl (fun _ _ h => WF_pick [0, 1] rfl rfl h) rfl (nle rfl) (nle rfl) (nle rfl) (nle rfl) F (fun _ _ h => WF_pick [0, 1] rfl rfl h)

set_option maxHeartbeats 4000000 in
set_option maxRecDepth 100000 in
theorem t_X7_breakLine_9 {G : Gm} {l : Launch} (hX : KX G) (hT0 : l.stackTraces = false) {e ip op t tr ps pa sl al lg : Nat} {J : Nat → Int} {n : Net} {l9 v9 : Int} (hm : 0 ≤ n (-1) 0 ∧ n (-1) 0 ≤ 6) (hl : 0 ≤ l9 ∧ l9 < n (-1) 0) (hb1 : -2147483648 ≤ v9 ∧ v9 ≤ 2147483647) (ht : ¬ (1 ≤ v9 ∧ v9 ≤ 50)) : MT G l yX7_breakLine cX7_breakLine 5 (some .int) 7 1 6 [.ref e, .int (zI l9), .int (zI v9)] [ob e 9 (ecS ip op t tr ps pa sl) J, ob t 8 (tkS al lg) (tkI (n))] "java/lang/IllegalArgumentException" [ob e 9 (ecS ip op t tr ps pa sl) J, ob t 8 (tkS al lg) (tkI (n))] := by
  have hS : KS G := hX.1
  have hK : KG G := hS.1.1
  refine MT_of (lv := [some (.ref e), some (.int (zI l9)), some (.int (zI v9)), none, none]) hK (by decide +kernel) rfl (nle rfl) (fun X C F => ?_)
  have C : OKc G X l RX7 "breakLine" cX7_breakLine 5 (some .int) 7 1 6 := C
  refine x_aload_n C eX7_breakLine_0 rfl ?_
  refine x_iload_n C eX7_breakLine_1 rfl ?_
  refine yV1v [] [_, _] C (s_X7_testLine hK (by omega)) v_X7_testLine vv_X7_testLine s_RX7_145 eX7_breakLine_2 (fun _ _ h => WF_pick [0, 1] rfl rfl h) (rcv 0 rfl) rfl (nle rfl) (nle rfl) (nle rfl) (nle rfl) rfl ?_
  refine x_iload_n C eX7_breakLine_5 rfl ?_
  refine x_iconst C eX7_breakLine_6 ?_
  refine x_bipush C eX7_breakLine_7 rfl ?_
  exact x_callSX (As := [_, _, _]) [_, _] C (t_X7_testRange_10 hX hT0 (by omega) (by omega) (by omega) (by omega)) v_X7_testRange vs_X7_testRange s_RX7_219 eX7_breakLine_9 rfl (fun _ _ h => WF_pick [0, 1] rfl rfl h) rfl (nle rfl) (nle rfl) (nle rfl) (nle rfl) F (fun _ _ h => WF_pick [0, 1] rfl rfl h)

set_option maxHeartbeats 4000000 in
set_option maxRecDepth 100000 in
theorem t_X7_setEcho_8 {G : Gm} {l : Launch} (hX : KX G) (hT0 : l.stackTraces = false) {e ip op t tr ps pa sl al lg : Nat} {J : Nat → Int} {n : Net} {l9 v9 : Int} (hm : 0 ≤ n (-1) 0 ∧ n (-1) 0 ≤ 6) (hl : 0 ≤ l9 ∧ l9 < n (-1) 0) (hb1 : -2147483648 ≤ v9 ∧ v9 ≤ 2147483647) (ht : ¬ (0 ≤ v9 ∧ v9 ≤ 2)) : MT G l yX7_setEcho cX7_setEcho 5 (some .int) 7 1 6 [.ref e, .int (zI l9), .int (zI v9)] [ob e 9 (ecS ip op t tr ps pa sl) J, ob t 8 (tkS al lg) (tkI (n))] "java/lang/IllegalArgumentException" [ob e 9 (ecS ip op t tr ps pa sl) J, ob t 8 (tkS al lg) (tkI (n))] := by
  have hS : KS G := hX.1
  have hK : KG G := hS.1.1
  refine MT_of (lv := [some (.ref e), some (.int (zI l9)), some (.int (zI v9)), none, none]) hK (by decide +kernel) rfl (nle rfl) (fun X C F => ?_)
  have C : OKc G X l RX7 "setEcho" cX7_setEcho 5 (some .int) 7 1 6 := C
  refine x_aload_n C eX7_setEcho_0 rfl ?_
  refine x_iload_n C eX7_setEcho_1 rfl ?_
  refine yV1v [] [_, _] C (s_X7_testLine hK (by omega)) v_X7_testLine vv_X7_testLine s_RX7_145 eX7_setEcho_2 (fun _ _ h => WF_pick [0, 1] rfl rfl h) (rcv 0 rfl) rfl (nle rfl) (nle rfl) (nle rfl) (nle rfl) rfl ?_
  refine x_iload_n C eX7_setEcho_5 rfl ?_
  refine x_iconst C eX7_setEcho_6 ?_
  refine x_iconst C eX7_setEcho_7 ?_
  exact x_callSX (As := [_, _, _]) [_, _] C (t_X7_testRange_10 hX hT0 (by omega) (by omega) (by omega) (by omega)) v_X7_testRange vs_X7_testRange s_RX7_219 eX7_setEcho_8 rfl (fun _ _ h => WF_pick [0, 1] rfl rfl h) rfl (nle rfl) (nle rfl) (nle rfl) (nle rfl) F (fun _ _ h => WF_pick [0, 1] rfl rfl h)

set_option maxHeartbeats 4000000 in
set_option maxRecDepth 100000 in
theorem t_X7_setShare_9 {G : Gm} {l : Launch} (hX : KX G) (hT0 : l.stackTraces = false) {e ip op t tr ps pa sl al lg : Nat} {J : Nat → Int} {n : Net} {l9 v9 : Int} (hm : 0 ≤ n (-1) 0 ∧ n (-1) 0 ≤ 6) (hl : 0 ≤ l9 ∧ l9 < n (-1) 0) (hb1 : -2147483648 ≤ v9 ∧ v9 ≤ 2147483647) (ht : ¬ (1 ≤ v9 ∧ v9 ≤ 9)) : MT G l yX7_setShare cX7_setShare 5 (some .int) 7 1 6 [.ref e, .int (zI l9), .int (zI v9)] [ob e 9 (ecS ip op t tr ps pa sl) J, ob t 8 (tkS al lg) (tkI (n))] "java/lang/IllegalArgumentException" [ob e 9 (ecS ip op t tr ps pa sl) J, ob t 8 (tkS al lg) (tkI (n))] := by
  have hS : KS G := hX.1
  have hK : KG G := hS.1.1
  refine MT_of (lv := [some (.ref e), some (.int (zI l9)), some (.int (zI v9)), none, none]) hK (by decide +kernel) rfl (nle rfl) (fun X C F => ?_)
  have C : OKc G X l RX7 "setShare" cX7_setShare 5 (some .int) 7 1 6 := C
  refine x_aload_n C eX7_setShare_0 rfl ?_
  refine x_iload_n C eX7_setShare_1 rfl ?_
  refine yV1v [] [_, _] C (s_X7_testLine hK (by omega)) v_X7_testLine vv_X7_testLine s_RX7_145 eX7_setShare_2 (fun _ _ h => WF_pick [0, 1] rfl rfl h) (rcv 0 rfl) rfl (nle rfl) (nle rfl) (nle rfl) (nle rfl) rfl ?_
  refine x_iload_n C eX7_setShare_5 rfl ?_
  refine x_iconst C eX7_setShare_6 ?_
  refine x_bipush C eX7_setShare_7 rfl ?_
  exact x_callSX (As := [_, _, _]) [_, _] C (t_X7_testRange_10 hX hT0 (by omega) (by omega) (by omega) (by omega)) v_X7_testRange vs_X7_testRange s_RX7_219 eX7_setShare_9 rfl (fun _ _ h => WF_pick [0, 1] rfl rfl h) rfl (nle rfl) (nle rfl) (nle rfl) (nle rfl) F (fun _ _ h => WF_pick [0, 1] rfl rfl h)

set_option maxHeartbeats 4000000 in
set_option maxRecDepth 100000 in
theorem t_X7_count_6 {G : Gm} {l : Launch} (hX : KX G) (hT0 : l.stackTraces = false) {e ip op t tr ps pa sl al lg : Nat} {J : Nat → Int} {n : Net} {l9 v9 : Int} (hm : 0 ≤ n (-1) 0 ∧ n (-1) 0 ≤ 6) (hl : 0 ≤ l9 ∧ l9 < n (-1) 0) (hb1 : -2147483648 ≤ v9 ∧ v9 ≤ 2147483647) (ht : ¬ (0 ≤ v9 ∧ v9 < 12)) : MT G l yX7_count cX7_count 3 (some .int) 7 1 6 [.ref e, .int (zI l9), .int (zI v9)] [ob e 9 (ecS ip op t tr ps pa sl) J, ob t 8 (tkS al lg) (tkI (n))] "java/lang/IllegalArgumentException" [ob e 9 (ecS ip op t tr ps pa sl) J, ob t 8 (tkS al lg) (tkI (n))] := by
  have hS : KS G := hX.1
  have hK : KG G := hS.1.1
  refine MT_of (lv := [some (.ref e), some (.int (zI l9)), some (.int (zI v9))]) hK (by decide +kernel) rfl (nle rfl) (fun X C F => ?_)
  have C : OKc G X l RX7 "count" cX7_count 3 (some .int) 7 1 6 := C
  refine x_aload_n C eX7_count_0 rfl ?_
  refine x_iload_n C eX7_count_1 rfl ?_
  refine yV1v [] [_, _] C (s_X7_testLine hK (by omega)) v_X7_testLine vv_X7_testLine s_RX7_145 eX7_count_2 (fun _ _ h => WF_pick [0, 1] rfl rfl h) (rcv 0 rfl) rfl (nle rfl) (nle rfl) (nle rfl) (nle rfl) rfl ?_
  refine x_iload_n C eX7_count_5 rfl ?_
  exact x_callSX (As := [_]) [_, _] C (t_X7_testCount_10 hX hT0 (by omega) (by omega)) v_X7_testCount vs_X7_testCount s_RX7_181 eX7_count_6 rfl (fun _ _ h => WF_pick [0, 1] rfl rfl h) rfl (nle rfl) (nle rfl) (nle rfl) (nle rfl) F (fun _ _ h => WF_pick [0, 1] rfl rfl h)

set_option maxHeartbeats 4000000 in
set_option maxRecDepth 100000 in
theorem t_X7_sum_1 {G : Gm} {l : Launch} (hX : KX G) (hT0 : l.stackTraces = false) {e ip op t tr ps pa sl : Nat} {J : Nat → Int} {v9 : Int} (hb1 : -2147483648 ≤ v9 ∧ v9 ≤ 2147483647) (ht : ¬ (0 ≤ v9 ∧ v9 < 12)) : MT G l yX7_sum cX7_sum 4 (some .int) 7 1 6 [.ref e, .int (zI v9)] [ob e 9 (ecS ip op t tr ps pa sl) J] "java/lang/IllegalArgumentException" [ob e 9 (ecS ip op t tr ps pa sl) J] := by
  have hS : KS G := hX.1
  have hK : KG G := hS.1.1
  refine MT_of (lv := [some (.ref e), some (.int (zI v9)), none, none]) hK (by decide +kernel) rfl (nle rfl) (fun X C F => ?_)
  have C : OKc G X l RX7 "sum" cX7_sum 4 (some .int) 7 1 6 := C
  refine x_iload_n C eX7_sum_0 rfl ?_
  exact x_callSX (As := [_]) [_] C (t_X7_testCount_10 hX hT0 (by omega) (by omega)) v_X7_testCount vs_X7_testCount s_RX7_181 eX7_sum_1 rfl (fun _ _ h => WF_pick [0] rfl rfl h) rfl (nle rfl) (nle rfl) (nle rfl) (nle rfl) F (fun _ _ h => WF_pick [0] rfl rfl h)

set_option maxHeartbeats 4000000 in
set_option maxRecDepth 100000 in
theorem t_X7_tick_5 {G : Gm} {l : Launch} (hX : KX G) (hT0 : l.stackTraces = false) {e ip op t tr ps pa sl : Nat} {J : Nat → Int} {v9 : Int} (hb1 : -2147483648 ≤ v9 ∧ v9 ≤ 2147483647) (ht : ¬ (1 ≤ v9 ∧ v9 ≤ 200)) : MT G l yX7_tick cX7_tick 3 (some .int) 7 1 6 [.ref e, .int (zI v9)] [ob e 9 (ecS ip op t tr ps pa sl) J] "java/lang/IllegalArgumentException" [ob e 9 (ecS ip op t tr ps pa sl) J] := by
  have hS : KS G := hX.1
  have hK : KG G := hS.1.1
  refine MT_of (lv := [some (.ref e), some (.int (zI v9)), none]) hK (by decide +kernel) rfl (nle rfl) (fun X C F => ?_)
  have C : OKc G X l RX7 "tick" cX7_tick 3 (some .int) 7 1 6 := C
  refine x_iload_n C eX7_tick_0 rfl ?_
  refine x_iconst C eX7_tick_1 ?_
  refine x_sipush C eX7_tick_2 rfl ?_
  exact x_callSX (As := [_, _, _]) [_] C (t_X7_testRange_10 hX hT0 (by omega) (by omega) (by omega) (by omega)) v_X7_testRange vs_X7_testRange s_RX7_219 eX7_tick_5 rfl (fun _ _ h => WF_pick [0] rfl rfl h) rfl (nle rfl) (nle rfl) (nle rfl) (nle rfl) F (fun _ _ h => WF_pick [0] rfl rfl h)

set_option maxHeartbeats 4000000 in
set_option maxRecDepth 100000 in
theorem t_X7_type_9 {G : Gm} {l : Launch} (hX : KX G) (hT0 : l.stackTraces = false) {e ip op t tr ps pa sl al lg : Nat} {J : Nat → Int} {n : Net} {l9 v9 : Int} {i9 : Int32} (hm : 0 ≤ n (-1) 0 ∧ n (-1) 0 ≤ 6) (hl : 0 ≤ l9 ∧ l9 < n (-1) 0) (hb1 : -2147483648 ≤ v9 ∧ v9 ≤ 2147483647) (ht : ¬ (1 ≤ v9 ∧ v9 ≤ 127)) : MT G l yX7_type cX7_type 6 (some .int) 7 1 6 [.ref e, .int (zI l9), .int (zI v9), .int i9] [ob e 9 (ecS ip op t tr ps pa sl) J, ob t 8 (tkS al lg) (tkI (n))] "java/lang/IllegalArgumentException" [ob e 9 (ecS ip op t tr ps pa sl) J, ob t 8 (tkS al lg) (tkI (n))] := by
  have hS : KS G := hX.1
  have hK : KG G := hS.1.1
  refine MT_of (lv := [some (.ref e), some (.int (zI l9)), some (.int (zI v9)), some (.int i9), none, none]) hK (by decide +kernel) rfl (nle rfl) (fun X C F => ?_)
  have C : OKc G X l RX7 "type" cX7_type 6 (some .int) 7 1 6 := C
  refine x_aload_n C eX7_type_0 rfl ?_
  refine x_iload_n C eX7_type_1 rfl ?_
  refine yV1v [] [_, _] C (s_X7_testLine hK (by omega)) v_X7_testLine vv_X7_testLine s_RX7_145 eX7_type_2 (fun _ _ h => WF_pick [0, 1] rfl rfl h) (rcv 0 rfl) rfl (nle rfl) (nle rfl) (nle rfl) (nle rfl) rfl ?_
  refine x_iload_n C eX7_type_5 rfl ?_
  refine x_iconst C eX7_type_6 ?_
  refine x_bipush C eX7_type_7 rfl ?_
  exact x_callSX (As := [_, _, _]) [_, _] C (t_X7_testRange_10 hX hT0 (by omega) (by omega) (by omega) (by omega)) v_X7_testRange vs_X7_testRange s_RX7_219 eX7_type_9 rfl (fun _ _ h => WF_pick [0, 1] rfl rfl h) rfl (nle rfl) (nle rfl) (nle rfl) (nle rfl) F (fun _ _ h => WF_pick [0, 1] rfl rfl h)

set_option maxHeartbeats 4000000 in
set_option maxRecDepth 100000 in
theorem t_X7_type_16 {G : Gm} {l : Launch} (hX : KX G) (hT0 : l.stackTraces = false) {e ip op t tr ps pa sl al lg : Nat} {J : Nat → Int} {n : Net} {l9 v9 c9 : Int} (hm : 0 ≤ n (-1) 0 ∧ n (-1) 0 ≤ 6) (hl : 0 ≤ l9 ∧ l9 < n (-1) 0) (hv : 1 ≤ v9 ∧ v9 ≤ 127) (hb1 : -2147483648 ≤ c9 ∧ c9 ≤ 2147483647) (ht : ¬ (1 ≤ c9 ∧ c9 ≤ 60)) : MT G l yX7_type cX7_type 6 (some .int) 7 1 6 [.ref e, .int (zI l9), .int (zI v9), .int (zI c9)] [ob e 9 (ecS ip op t tr ps pa sl) J, ob t 8 (tkS al lg) (tkI (n))] "java/lang/IllegalArgumentException" [ob e 9 (ecS ip op t tr ps pa sl) J, ob t 8 (tkS al lg) (tkI (n))] := by
  have hS : KS G := hX.1
  have hK : KG G := hS.1.1
  refine MT_of (lv := [some (.ref e), some (.int (zI l9)), some (.int (zI v9)), some (.int (zI c9)), none, none]) hK (by decide +kernel) rfl (nle rfl) (fun X C F => ?_)
  have C : OKc G X l RX7 "type" cX7_type 6 (some .int) 7 1 6 := C
  refine x_aload_n C eX7_type_0 rfl ?_
  refine x_iload_n C eX7_type_1 rfl ?_
  refine yV1v [] [_, _] C (s_X7_testLine hK (by omega)) v_X7_testLine vv_X7_testLine s_RX7_145 eX7_type_2 (fun _ _ h => WF_pick [0, 1] rfl rfl h) (rcv 0 rfl) rfl (nle rfl) (nle rfl) (nle rfl) (nle rfl) rfl ?_
  refine x_iload_n C eX7_type_5 rfl ?_
  refine x_iconst C eX7_type_6 ?_
  refine x_bipush C eX7_type_7 rfl ?_
  refine yS3v [_, _] [_, _] C (s_X7_testRange hK (by omega)) v_X7_testRange vs_X7_testRange s_RX7_219 eX7_type_9 (fun _ _ h => WF_pick [0, 1] rfl rfl h) rfl (nle rfl) (nle rfl) (nle rfl) (nle rfl) rfl ?_
  refine x_iload_n C eX7_type_12 rfl ?_
  refine x_iconst C eX7_type_13 ?_
  refine x_bipush C eX7_type_14 rfl ?_
  exact x_callSX (As := [_, _, _]) [_, _] C (t_X7_testRange_10 hX hT0 (by omega) (by omega) (by omega) (by omega)) v_X7_testRange vs_X7_testRange s_RX7_219 eX7_type_16 rfl (fun _ _ h => WF_pick [0, 1] rfl rfl h) rfl (nle rfl) (nle rfl) (nle rfl) (nle rfl) F (fun _ _ h => WF_pick [0, 1] rfl rfl h)

set_option maxHeartbeats 4000000 in
set_option maxRecDepth 100000 in
theorem t_X7_reply_9 {G : Gm} {l : Launch} (hX : KX G) (hT0 : l.stackTraces = false) {e ip op t tr ps pa sl al lg : Nat} {J : Nat → Int} {n : Net} {l9 v9 : Int} {i9 : Int32} (hm : 0 ≤ n (-1) 0 ∧ n (-1) 0 ≤ 6) (hl : 0 ≤ l9 ∧ l9 < n (-1) 0) (hb1 : -2147483648 ≤ v9 ∧ v9 ≤ 2147483647) (ht : ¬ (1 ≤ v9 ∧ v9 ≤ 127)) : MT G l yX7_reply cX7_reply 6 (some .int) 7 1 6 [.ref e, .int (zI l9), .int (zI v9), .int i9] [ob e 9 (ecS ip op t tr ps pa sl) J, ob t 8 (tkS al lg) (tkI (n))] "java/lang/IllegalArgumentException" [ob e 9 (ecS ip op t tr ps pa sl) J, ob t 8 (tkS al lg) (tkI (n))] := by
  have hS : KS G := hX.1
  have hK : KG G := hS.1.1
  refine MT_of (lv := [some (.ref e), some (.int (zI l9)), some (.int (zI v9)), some (.int i9), none, none]) hK (by decide +kernel) rfl (nle rfl) (fun X C F => ?_)
  have C : OKc G X l RX7 "reply" cX7_reply 6 (some .int) 7 1 6 := C
  refine x_aload_n C eX7_reply_0 rfl ?_
  refine x_iload_n C eX7_reply_1 rfl ?_
  refine yV1v [] [_, _] C (s_X7_testLine hK (by omega)) v_X7_testLine vv_X7_testLine s_RX7_145 eX7_reply_2 (fun _ _ h => WF_pick [0, 1] rfl rfl h) (rcv 0 rfl) rfl (nle rfl) (nle rfl) (nle rfl) (nle rfl) rfl ?_
  refine x_iload_n C eX7_reply_5 rfl ?_
  refine x_iconst C eX7_reply_6 ?_
  refine x_bipush C eX7_reply_7 rfl ?_
  exact x_callSX (As := [_, _, _]) [_, _] C (t_X7_testRange_10 hX hT0 (by omega) (by omega) (by omega) (by omega)) v_X7_testRange vs_X7_testRange s_RX7_219 eX7_reply_9 rfl (fun _ _ h => WF_pick [0, 1] rfl rfl h) rfl (nle rfl) (nle rfl) (nle rfl) (nle rfl) F (fun _ _ h => WF_pick [0, 1] rfl rfl h)

set_option maxHeartbeats 4000000 in
set_option maxRecDepth 100000 in
theorem t_X7_reply_16 {G : Gm} {l : Launch} (hX : KX G) (hT0 : l.stackTraces = false) {e ip op t tr ps pa sl al lg : Nat} {J : Nat → Int} {n : Net} {l9 v9 c9 : Int} (hm : 0 ≤ n (-1) 0 ∧ n (-1) 0 ≤ 6) (hl : 0 ≤ l9 ∧ l9 < n (-1) 0) (hv : 1 ≤ v9 ∧ v9 ≤ 127) (hb1 : -2147483648 ≤ c9 ∧ c9 ≤ 2147483647) (ht : ¬ (1 ≤ c9 ∧ c9 ≤ 60)) : MT G l yX7_reply cX7_reply 6 (some .int) 7 1 6 [.ref e, .int (zI l9), .int (zI v9), .int (zI c9)] [ob e 9 (ecS ip op t tr ps pa sl) J, ob t 8 (tkS al lg) (tkI (n))] "java/lang/IllegalArgumentException" [ob e 9 (ecS ip op t tr ps pa sl) J, ob t 8 (tkS al lg) (tkI (n))] := by
  have hS : KS G := hX.1
  have hK : KG G := hS.1.1
  refine MT_of (lv := [some (.ref e), some (.int (zI l9)), some (.int (zI v9)), some (.int (zI c9)), none, none]) hK (by decide +kernel) rfl (nle rfl) (fun X C F => ?_)
  have C : OKc G X l RX7 "reply" cX7_reply 6 (some .int) 7 1 6 := C
  refine x_aload_n C eX7_reply_0 rfl ?_
  refine x_iload_n C eX7_reply_1 rfl ?_
  refine yV1v [] [_, _] C (s_X7_testLine hK (by omega)) v_X7_testLine vv_X7_testLine s_RX7_145 eX7_reply_2 (fun _ _ h => WF_pick [0, 1] rfl rfl h) (rcv 0 rfl) rfl (nle rfl) (nle rfl) (nle rfl) (nle rfl) rfl ?_
  refine x_iload_n C eX7_reply_5 rfl ?_
  refine x_iconst C eX7_reply_6 ?_
  refine x_bipush C eX7_reply_7 rfl ?_
  refine yS3v [_, _] [_, _] C (s_X7_testRange hK (by omega)) v_X7_testRange vs_X7_testRange s_RX7_219 eX7_reply_9 (fun _ _ h => WF_pick [0, 1] rfl rfl h) rfl (nle rfl) (nle rfl) (nle rfl) (nle rfl) rfl ?_
  refine x_iload_n C eX7_reply_12 rfl ?_
  refine x_iconst C eX7_reply_13 ?_
  refine x_bipush C eX7_reply_14 rfl ?_
  exact x_callSX (As := [_, _, _]) [_, _] C (t_X7_testRange_10 hX hT0 (by omega) (by omega) (by omega) (by omega)) v_X7_testRange vs_X7_testRange s_RX7_219 eX7_reply_16 rfl (fun _ _ h => WF_pick [0, 1] rfl rfl h) rfl (nle rfl) (nle rfl) (nle rfl) (nle rfl) F (fun _ _ h => WF_pick [0, 1] rfl rfl h)

set_option maxHeartbeats 4000000 in
set_option maxRecDepth 100000 in
theorem t_X7_sentIfLent_7 {G : Gm} {l : Launch} (hX : KX G) (hT0 : l.stackTraces = false) {e ip op t tr ps pa sl al lg : Nat} {J : Nat → Int} {n : Net} {l9 o9 : Int} (hm : 0 ≤ n (-1) 0 ∧ n (-1) 0 ≤ 6) (hl : 0 ≤ l9 ∧ l9 < n (-1) 0) (hb1 : -2147483648 ≤ o9 ∧ o9 ≤ 2147483647) (ho : ¬ (0 ≤ o9 ∧ o9 < n (-1) 0)) : MT G l yX7_sentIfLent cX7_sentIfLent 3 (some .int) 7 1 6 [.ref e, .int (zI l9), .int (zI o9)] [ob e 9 (ecS ip op t tr ps pa sl) J, ob t 8 (tkS al lg) (tkI (n))] "java/lang/IndexOutOfBoundsException" [ob e 9 (ecS ip op t tr ps pa sl) J, ob t 8 (tkS al lg) (tkI (n))] := by
  have hS : KS G := hX.1
  have hK : KG G := hS.1.1
  refine MT_of (lv := [some (.ref e), some (.int (zI l9)), some (.int (zI o9))]) hK (by decide +kernel) rfl (nle rfl) (fun X C F => ?_)
  have C : OKc G X l RX7 "sentIfLent" cX7_sentIfLent 3 (some .int) 7 1 6 := C
  refine x_aload_n C eX7_sentIfLent_0 rfl ?_
  refine x_iload_n C eX7_sentIfLent_1 rfl ?_
  refine yV1v [] [_, _] C (s_X7_testLine hK (by omega)) v_X7_testLine vv_X7_testLine s_RX7_145 eX7_sentIfLent_2 (fun _ _ h => WF_pick [0, 1] rfl rfl h) (rcv 0 rfl) rfl (nle rfl) (nle rfl) (nle rfl) (nle rfl) rfl ?_
  refine x_aload_n C eX7_sentIfLent_5 rfl ?_
  refine x_iload_n C eX7_sentIfLent_6 rfl ?_
  exact x_callVX (As := [_]) [] C (t_X7_testLine_15 hX hT0 (by omega) (by omega) (by omega)) v_X7_testLine vv_X7_testLine s_RX7_145 (rcv 0 rfl) eX7_sentIfLent_7 rfl (fun _ _ h => WF_pick [0, 1] rfl rfl h) rfl (nle rfl) (nle rfl) (nle rfl) (nle rfl) F (fun _ _ h => WF_pick [0, 1] rfl rfl h)

set_option maxHeartbeats 4000000 in
set_option maxRecDepth 100000 in
theorem t_X7_sentIfLent_12 {G : Gm} {l : Launch} (hX : KX G) (hT0 : l.stackTraces = false) {e ip op t tr ps pa sl al lg : Nat} {J : Nat → Int} {n : Net} {l9 o9 : Int} (hm : 0 ≤ n (-1) 0 ∧ n (-1) 0 ≤ 6) (hl : 0 ≤ l9 ∧ l9 < n (-1) 0) (he : l9 = o9) : MT G l yX7_sentIfLent cX7_sentIfLent 3 (some .int) 7 1 6 [.ref e, .int (zI l9), .int (zI o9)] [ob e 9 (ecS ip op t tr ps pa sl) J, ob t 8 (tkS al lg) (tkI (n))] "java/lang/IllegalArgumentException" [ob e 9 (ecS ip op t tr ps pa sl) J, ob t 8 (tkS al lg) (tkI (n))] := by
  have hS : KS G := hX.1
  have hK : KG G := hS.1.1
  refine MT_of (lv := [some (.ref e), some (.int (zI l9)), some (.int (zI o9))]) hK (by decide +kernel) rfl (nle rfl) (fun X C F => ?_)
  have C : OKc G X l RX7 "sentIfLent" cX7_sentIfLent 3 (some .int) 7 1 6 := C
  subst he
  refine x_aload_n C eX7_sentIfLent_0 rfl ?_
  refine x_iload_n C eX7_sentIfLent_1 rfl ?_
  refine yV1v [] [_, _] C (s_X7_testLine hK (by omega)) v_X7_testLine vv_X7_testLine s_RX7_145 eX7_sentIfLent_2 (fun _ _ h => WF_pick [0, 1] rfl rfl h) (rcv 0 rfl) rfl (nle rfl) (nle rfl) (nle rfl) (nle rfl) rfl ?_
  refine x_aload_n C eX7_sentIfLent_5 rfl ?_
  refine x_iload_n C eX7_sentIfLent_6 rfl ?_
  refine yV1v [] [_, _] C (s_X7_testLine hK (by omega)) v_X7_testLine vv_X7_testLine s_RX7_145 eX7_sentIfLent_7 (fun _ _ h => WF_pick [0, 1] rfl rfl h) (rcv 0 rfl) rfl (nle rfl) (nle rfl) (nle rfl) (nle rfl) rfl ?_
  refine x_iload_n C eX7_sentIfLent_10 rfl ?_
  refine x_iload_n C eX7_sentIfLent_11 rfl ?_
  exact x_callSX (As := [_, _]) [_, _] C (t_X7_testOther_5 hX hT0 (by omega)) v_X7_testOther vs_X7_testOther s_RX7_234 eX7_sentIfLent_12 rfl (fun _ _ h => WF_pick [0, 1] rfl rfl h) rfl (nle rfl) (nle rfl) (nle rfl) (nle rfl) F (fun _ _ h => WF_pick [0, 1] rfl rfl h)

set_option maxHeartbeats 4000000 in
set_option maxRecDepth 100000 in
theorem t_X7_lend_7 {G : Gm} {l : Launch} (hX : KX G) (hT0 : l.stackTraces = false) {e ip op t tr ps pa sl al lg : Nat} {J : Nat → Int} {n : Net} {l9 o9 : Int} {i9 : Int32} (hm : 0 ≤ n (-1) 0 ∧ n (-1) 0 ≤ 6) (hl : 0 ≤ l9 ∧ l9 < n (-1) 0) (hb1 : -2147483648 ≤ o9 ∧ o9 ≤ 2147483647) (ho : ¬ (0 ≤ o9 ∧ o9 < n (-1) 0)) : MT G l yX7_lend cX7_lend 6 (some .int) 7 1 6 [.ref e, .int (zI l9), .int (zI o9), .int i9] [ob e 9 (ecS ip op t tr ps pa sl) J, ob t 8 (tkS al lg) (tkI (n))] "java/lang/IndexOutOfBoundsException" [ob e 9 (ecS ip op t tr ps pa sl) J, ob t 8 (tkS al lg) (tkI (n))] := by
  have hS : KS G := hX.1
  have hK : KG G := hS.1.1
  refine MT_of (lv := [some (.ref e), some (.int (zI l9)), some (.int (zI o9)), some (.int i9), none, none]) hK (by decide +kernel) rfl (nle rfl) (fun X C F => ?_)
  have C : OKc G X l RX7 "lend" cX7_lend 6 (some .int) 7 1 6 := C
  refine x_aload_n C eX7_lend_0 rfl ?_
  refine x_iload_n C eX7_lend_1 rfl ?_
  refine yV1v [] [_, _] C (s_X7_testLine hK (by omega)) v_X7_testLine vv_X7_testLine s_RX7_145 eX7_lend_2 (fun _ _ h => WF_pick [0, 1] rfl rfl h) (rcv 0 rfl) rfl (nle rfl) (nle rfl) (nle rfl) (nle rfl) rfl ?_
  refine x_aload_n C eX7_lend_5 rfl ?_
  refine x_iload_n C eX7_lend_6 rfl ?_
  exact x_callVX (As := [_]) [] C (t_X7_testLine_15 hX hT0 (by omega) (by omega) (by omega)) v_X7_testLine vv_X7_testLine s_RX7_145 (rcv 0 rfl) eX7_lend_7 rfl (fun _ _ h => WF_pick [0, 1] rfl rfl h) rfl (nle rfl) (nle rfl) (nle rfl) (nle rfl) F (fun _ _ h => WF_pick [0, 1] rfl rfl h)

set_option maxHeartbeats 4000000 in
set_option maxRecDepth 100000 in
theorem t_X7_lend_12 {G : Gm} {l : Launch} (hX : KX G) (hT0 : l.stackTraces = false) {e ip op t tr ps pa sl al lg : Nat} {J : Nat → Int} {n : Net} {l9 o9 : Int} {i9 : Int32} (hm : 0 ≤ n (-1) 0 ∧ n (-1) 0 ≤ 6) (hl : 0 ≤ l9 ∧ l9 < n (-1) 0) (he : l9 = o9) : MT G l yX7_lend cX7_lend 6 (some .int) 7 1 6 [.ref e, .int (zI l9), .int (zI o9), .int i9] [ob e 9 (ecS ip op t tr ps pa sl) J, ob t 8 (tkS al lg) (tkI (n))] "java/lang/IllegalArgumentException" [ob e 9 (ecS ip op t tr ps pa sl) J, ob t 8 (tkS al lg) (tkI (n))] := by
  have hS : KS G := hX.1
  have hK : KG G := hS.1.1
  refine MT_of (lv := [some (.ref e), some (.int (zI l9)), some (.int (zI o9)), some (.int i9), none, none]) hK (by decide +kernel) rfl (nle rfl) (fun X C F => ?_)
  have C : OKc G X l RX7 "lend" cX7_lend 6 (some .int) 7 1 6 := C
  subst he
  refine x_aload_n C eX7_lend_0 rfl ?_
  refine x_iload_n C eX7_lend_1 rfl ?_
  refine yV1v [] [_, _] C (s_X7_testLine hK (by omega)) v_X7_testLine vv_X7_testLine s_RX7_145 eX7_lend_2 (fun _ _ h => WF_pick [0, 1] rfl rfl h) (rcv 0 rfl) rfl (nle rfl) (nle rfl) (nle rfl) (nle rfl) rfl ?_
  refine x_aload_n C eX7_lend_5 rfl ?_
  refine x_iload_n C eX7_lend_6 rfl ?_
  refine yV1v [] [_, _] C (s_X7_testLine hK (by omega)) v_X7_testLine vv_X7_testLine s_RX7_145 eX7_lend_7 (fun _ _ h => WF_pick [0, 1] rfl rfl h) (rcv 0 rfl) rfl (nle rfl) (nle rfl) (nle rfl) (nle rfl) rfl ?_
  refine x_iload_n C eX7_lend_10 rfl ?_
  refine x_iload_n C eX7_lend_11 rfl ?_
  exact x_callSX (As := [_, _]) [_, _] C (t_X7_testOther_5 hX hT0 (by omega)) v_X7_testOther vs_X7_testOther s_RX7_234 eX7_lend_12 rfl (fun _ _ h => WF_pick [0, 1] rfl rfl h) rfl (nle rfl) (nle rfl) (nle rfl) (nle rfl) F (fun _ _ h => WF_pick [0, 1] rfl rfl h)

set_option maxHeartbeats 4000000 in
set_option maxRecDepth 100000 in
theorem t_X7_lend_19 {G : Gm} {l : Launch} (hX : KX G) (hT0 : l.stackTraces = false) {e ip op t tr ps pa sl al lg : Nat} {J : Nat → Int} {n : Net} {l9 o9 v9 : Int} (hm : 0 ≤ n (-1) 0 ∧ n (-1) 0 ≤ 6) (hl : 0 ≤ l9 ∧ l9 < n (-1) 0) (ho : 0 ≤ o9 ∧ o9 < n (-1) 0) (hne : ¬ l9 = o9) (hb1 : -2147483648 ≤ v9 ∧ v9 ≤ 2147483647) (ht : ¬ (1 ≤ v9 ∧ v9 ≤ 99)) : MT G l yX7_lend cX7_lend 6 (some .int) 7 1 6 [.ref e, .int (zI l9), .int (zI o9), .int (zI v9)] [ob e 9 (ecS ip op t tr ps pa sl) J, ob t 8 (tkS al lg) (tkI (n))] "java/lang/IllegalArgumentException" [ob e 9 (ecS ip op t tr ps pa sl) J, ob t 8 (tkS al lg) (tkI (n))] := by
  have hS : KS G := hX.1
  have hK : KG G := hS.1.1
  refine MT_of (lv := [some (.ref e), some (.int (zI l9)), some (.int (zI o9)), some (.int (zI v9)), none, none]) hK (by decide +kernel) rfl (nle rfl) (fun X C F => ?_)
  have C : OKc G X l RX7 "lend" cX7_lend 6 (some .int) 7 1 6 := C
  refine x_aload_n C eX7_lend_0 rfl ?_
  refine x_iload_n C eX7_lend_1 rfl ?_
  refine yV1v [] [_, _] C (s_X7_testLine hK (by omega)) v_X7_testLine vv_X7_testLine s_RX7_145 eX7_lend_2 (fun _ _ h => WF_pick [0, 1] rfl rfl h) (rcv 0 rfl) rfl (nle rfl) (nle rfl) (nle rfl) (nle rfl) rfl ?_
  refine x_aload_n C eX7_lend_5 rfl ?_
  refine x_iload_n C eX7_lend_6 rfl ?_
  refine yV1v [] [_, _] C (s_X7_testLine hK (by omega)) v_X7_testLine vv_X7_testLine s_RX7_145 eX7_lend_7 (fun _ _ h => WF_pick [0, 1] rfl rfl h) (rcv 0 rfl) rfl (nle rfl) (nle rfl) (nle rfl) (nle rfl) rfl ?_
  refine x_iload_n C eX7_lend_10 rfl ?_
  refine x_iload_n C eX7_lend_11 rfl ?_
  refine yS2v [_, _] [_, _] C (s_X7_testOther hK (by omega)) v_X7_testOther vs_X7_testOther s_RX7_234 eX7_lend_12 (fun _ _ h => WF_pick [0, 1] rfl rfl h) rfl (nle rfl) (nle rfl) (nle rfl) (nle rfl) rfl ?_
  refine x_iload_n C eX7_lend_15 rfl ?_
  refine x_iconst C eX7_lend_16 ?_
  refine x_bipush C eX7_lend_17 rfl ?_
  exact x_callSX (As := [_, _, _]) [_, _] C (t_X7_testRange_10 hX hT0 (by omega) (by omega) (by omega) (by omega)) v_X7_testRange vs_X7_testRange s_RX7_219 eX7_lend_19 rfl (fun _ _ h => WF_pick [0, 1] rfl rfl h) rfl (nle rfl) (nle rfl) (nle rfl) (nle rfl) F (fun _ _ h => WF_pick [0, 1] rfl rfl h)

set_option maxHeartbeats 4000000 in
set_option maxRecDepth 100000 in
theorem t_X7_line_15 {G : Gm} {l : Launch} (hX : KX G) (hT0 : l.stackTraces = false) {e ip op t tr ps pa sl al lg : Nat} {J : Nat → Int} {n : Net} {l9 w9 : Int} (hm : 0 ≤ n (-1) 0 ∧ n (-1) 0 ≤ 6) (hl : 0 ≤ l9 ∧ l9 < n (-1) 0) (hb1 : -2147483648 ≤ w9 ∧ w9 ≤ 2147483647) (hw : ¬ (0 ≤ w9 ∧ w9 ≤ 10)) : MT G l yX7_line cX7_line 4 (some .int) 7 1 6 [.ref e, .int (zI l9), .int (zI w9)] [ob e 9 (ecS ip op t tr ps pa sl) J, ob t 8 (tkS al lg) (tkI (n))] "java/lang/IllegalArgumentException" [ob e 9 (ecS ip op t tr ps pa sl) J, ob t 8 (tkS al lg) (tkI (n))] := by
  have hS : KS G := hX.1
  have hK : KG G := hS.1.1
  refine MT_of (lv := [some (.ref e), some (.int (zI l9)), some (.int (zI w9)), none]) hK (by decide +kernel) rfl (nle rfl) (fun X C F => ?_)
  have C : OKc G X l RX7 "line" cX7_line 4 (some .int) 7 1 6 := C
  refine x_aload_n C eX7_line_0 rfl ?_
  refine x_iload_n C eX7_line_1 rfl ?_
  refine yV1v [] [_, _] C (s_X7_testLine hK (by omega)) v_X7_testLine vv_X7_testLine s_RX7_145 eX7_line_2 (fun _ _ h => WF_pick [0, 1] rfl rfl h) (rcv 0 rfl) rfl (nle rfl) (nle rfl) (nle rfl) (nle rfl) rfl ?_
  refine x_iload_n C eX7_line_5 rfl ?_
  refine x_if_lt 15 C eX7_line_6 rfl (by omega) (fun h6 => ?_) (fun h6 => ?_)
  · exact x_throwS hX hT0 C F eX7_line_15 eX7_line_18 eX7_line_19 eX7_line_21 eX7_line_24 te_66 xl_148 rfl (nle rfl) (nle rfl) (nle rfl) (nle rfl) (fun _ _ h => WF_pick [0, 1] rfl rfl h)
  · refine x_iload_n C eX7_line_9 rfl ?_
    refine x_bipush C eX7_line_10 rfl ?_
    refine x_icmp_le 25 C eX7_line_12 rfl (by omega) (by omega) (fun h12 => ?_) (fun h12 => ?_)
    · exfalso; omega
    · exact x_throwS hX hT0 C F eX7_line_15 eX7_line_18 eX7_line_19 eX7_line_21 eX7_line_24 te_66 xl_148 rfl (nle rfl) (nle rfl) (nle rfl) (nle rfl) (fun _ _ h => WF_pick [0, 1] rfl rfl h)

set_option maxHeartbeats 4000000 in
set_option maxRecDepth 100000 in
theorem t_X7_property_10 {G : Gm} {l : Launch} (hX : KX G) (hT0 : l.stackTraces = false) {e ip op t tr ps pa sl : Nat} {J : Nat → Int} {w9 : Int} (hb1 : -2147483648 ≤ w9 ∧ w9 ≤ 2147483647) (hw : ¬ (0 ≤ w9 ∧ w9 ≤ 10)) : MT G l yX7_property cX7_property 2 (some .int) 7 1 6 [.ref e, .int (zI w9)] [ob e 9 (ecS ip op t tr ps pa sl) J] "java/lang/IllegalArgumentException" [ob e 9 (ecS ip op t tr ps pa sl) J] := by
  have hS : KS G := hX.1
  have hK : KG G := hS.1.1
  refine MT_of (lv := [some (.ref e), some (.int (zI w9))]) hK (by decide +kernel) rfl (nle rfl) (fun X C F => ?_)
  have C : OKc G X l RX7 "property" cX7_property 2 (some .int) 7 1 6 := C
  refine x_iload_n C eX7_property_0 rfl ?_
  refine x_if_lt 10 C eX7_property_1 rfl (by omega) (fun h1 => ?_) (fun h1 => ?_)
  · exact x_throwS hX hT0 C F eX7_property_10 eX7_property_13 eX7_property_14 eX7_property_16 eX7_property_19 te_66 xl_98 rfl (nle rfl) (nle rfl) (nle rfl) (nle rfl) (fun _ _ h => WF_pick [0] rfl rfl h)
  · refine x_iload_n C eX7_property_4 rfl ?_
    refine x_bipush C eX7_property_5 rfl ?_
    refine x_icmp_le 20 C eX7_property_7 rfl (by omega) (by omega) (fun h7 => ?_) (fun h7 => ?_)
    · exfalso; omega
    · exact x_throwS hX hT0 C F eX7_property_10 eX7_property_13 eX7_property_14 eX7_property_16 eX7_property_19 te_66 xl_98 rfl (nle rfl) (nle rfl) (nle rfl) (nle rfl) (fun _ _ h => WF_pick [0] rfl rfl h)

set_option maxHeartbeats 4000000 in
set_option maxRecDepth 100000 in
theorem t_X7_truncate_15 {G : Gm} {l : Launch} (hX : KX G) (hT0 : l.stackTraces = false) {e ip op t tr ps pa sl ib : Nat} {J : Nat → Int} {z a9 : Int} (hz : 0 ≤ z ∧ z ≤ 400) (hb1 : -2147483648 ≤ a9 ∧ a9 ≤ 2147483647) (ha : ¬ (0 ≤ a9 ∧ a9 ≤ z)) : MT G l yX7_truncate cX7_truncate 2 none 7 1 6 [.ref e, .int (zI a9)] [ob e 9 (ecS ip op t tr ps pa sl) J, ob ip 6 [some (.ref ib), none] (fun _ => z)] "java/lang/IllegalArgumentException" [ob e 9 (ecS ip op t tr ps pa sl) J, ob ip 6 [some (.ref ib), none] (fun _ => z)] := by
  have hS : KS G := hX.1
  have hK : KG G := hS.1.1
  refine MT_of (lv := [some (.ref e), some (.int (zI a9))]) hK (by decide +kernel) rfl (nle rfl) (fun X C F => ?_)
  have C : OKc G X l RX7 "truncate" cX7_truncate 2 none 7 1 6 := C
  refine x_iload_n C eX7_truncate_0 rfl ?_
  refine x_if_lt 15 C eX7_truncate_1 rfl (by omega) (fun h1 => ?_) (fun h1 => ?_)
  · exact x_throwS hX hT0 C F eX7_truncate_15 eX7_truncate_18 eX7_truncate_19 eX7_truncate_21 eX7_truncate_24 te_66 xl_68 rfl (nle rfl) (nle rfl) (nle rfl) (nle rfl) (fun _ _ h => WF_pick [0, 1] rfl rfl h)
  · refine x_iload_n C eX7_truncate_4 rfl ?_
    refine x_aload_n C eX7_truncate_5 rfl ?_
    refine x_getR 0 C f_RX7_10 eX7_truncate_6 rfl rfl ?_
    refine x_getI 1 C f_RX7_49 eX7_truncate_9 rfl rfl ?_
    try simp (disch := decide) only [up_s, up_n, tkI_2, tkI_3, tkI_4, tkI_5, tkI_6, tkI_7, tkI_8, lnI_1, lnI_2, lnI_3, lnI_4, lnI_5, lnI_10, lnI_11, lnI_12, lnI_13, lnI_14, lnI_15]
    refine x_icmp_le 25 C eX7_truncate_12 rfl (by omega) (by omega) (fun h12 => ?_) (fun h12 => ?_)
    · exfalso; omega
    · exact x_throwS hX hT0 C F eX7_truncate_15 eX7_truncate_18 eX7_truncate_19 eX7_truncate_21 eX7_truncate_24 te_66 xl_68 rfl (nle rfl) (nle rfl) (nle rfl) (nle rfl) (fun _ _ h => WF_pick [0, 1] rfl rfl h)

set_option maxHeartbeats 4000000 in
set_option maxRecDepth 100000 in
theorem t_X7_append_16 {G : Gm} {l : Launch} (hX : KX G) (hT0 : l.stackTraces = false) {e ip op t tr ps pa sl ib : Nat} {J : Nat → Int} {z : Int} {a9 b9 c9 d9 e9 : Int32} (hz : 0 ≤ z ∧ z ≤ 400) (ha : 400 < z + 20) : MT G l yX7_append cX7_append 6 (some .int) 7 1 6 [.ref e, .int a9, .int b9, .int c9, .int d9, .int e9] [ob e 9 (ecS ip op t tr ps pa sl) J, ob ip 6 [some (.ref ib), none] (fun _ => z)] "java/lang/IllegalStateException" [ob e 9 (ecS ip op t tr ps pa sl) J, ob ip 6 [some (.ref ib), none] (fun _ => z)] := by
  have hS : KS G := hX.1
  have hK : KG G := hS.1.1
  refine MT_of (lv := [some (.ref e), some (.int a9), some (.int b9), some (.int c9), some (.int d9), some (.int e9)]) hK (by decide +kernel) rfl (nle rfl) (fun X C F => ?_)
  have C : OKc G X l RX7 "append" cX7_append 6 (some .int) 7 1 6 := C
  refine x_aload_n C eX7_append_0 rfl ?_
  refine x_getR 0 C f_RX7_10 eX7_append_1 rfl rfl ?_
  refine x_getI 1 C f_RX7_49 eX7_append_4 rfl rfl ?_
  try simp (disch := decide) only [up_s, up_n, tkI_2, tkI_3, tkI_4, tkI_5, tkI_6, tkI_7, tkI_8, lnI_1, lnI_2, lnI_3, lnI_4, lnI_5, lnI_10, lnI_11, lnI_12, lnI_13, lnI_14, lnI_15]
  refine x_bipush C eX7_append_7 rfl ?_
  refine x_iadd C eX7_append_9 ?_
  refine x_sipush C eX7_append_10 rfl ?_
  refine x_icmp_le 26 C eX7_append_13 rfl (by omega) (by omega) (fun h13 => ?_) (fun h13 => ?_)
  · exfalso; omega
  · exact x_throwS hX hT0 C F eX7_append_16 eX7_append_19 eX7_append_20 eX7_append_22 eX7_append_25 te_52 xl_54 rfl (nle rfl) (nle rfl) (nle rfl) (nle rfl) (fun _ _ h => WF_pick [0, 1] rfl rfl h)

set_option maxHeartbeats 4000000 in
set_option maxRecDepth 100000 in
theorem t_X7_keep_2 {G : Gm} {l : Launch} (hX : KX G) (hT0 : l.stackTraces = false) {e ip op t tr ps pa sl : Nat} {J : Nat → Int} {M : Pool} {Fu : Nat → Int} {K : Nat → Net} {s9 : Int} (hb9 : -2147483648 ≤ s9 ∧ s9 ≤ 2147483647) (hs : ¬ (0 ≤ s9 ∧ s9 ≤ 1)) : MT G l yX7_keep cX7_keep 3 (some .int) 7 1 6 [.ref e, .int (zI s9)] [ob e 9 (ecS ip op t tr ps pa sl) J, SS G M sl Fu K] "java/lang/IndexOutOfBoundsException" [ob e 9 (ecS ip op t tr ps pa sl) J, SS G M sl Fu K] := by
  have hS : KS G := hX.1
  have hK : KG G := hS.1.1
  refine MT_of (lv := [some (.ref e), some (.int (zI s9)), none]) hK (by decide +kernel) rfl (nle rfl) (fun X C F => ?_)
  have C : OKc G X l RX7 "keep" cX7_keep 3 (some .int) 7 1 6 := C
  refine x_aload_n C eX7_keep_0 rfl ?_
  refine x_iload_n C eX7_keep_1 rfl ?_
  exact x_callVX (As := [_]) [] C (t_X7_testSlot_13 hX hT0 (by omega) (by omega)) v_X7_testSlot vv_X7_testSlot s_RX7_275 (rcv 0 rfl) eX7_keep_2 rfl (fun _ _ h => WF_pick [0, 1] rfl rfl h) rfl (nle rfl) (nle rfl) (nle rfl) (nle rfl) F (fun _ _ h => WF_pick [0, 1] rfl rfl h)

set_option maxHeartbeats 4000000 in
set_option maxRecDepth 100000 in
theorem t_X7_restore_2 {G : Gm} {l : Launch} (hX : KX G) (hT0 : l.stackTraces = false) {e ip op t tr ps pa sl : Nat} {J : Nat → Int} {M : Pool} {Fu : Nat → Int} {K : Nat → Net} {s9 : Int} (hb9 : -2147483648 ≤ s9 ∧ s9 ≤ 2147483647) (hs : ¬ (0 ≤ s9 ∧ s9 ≤ 1)) : MT G l yX7_restore cX7_restore 3 (some .int) 7 1 6 [.ref e, .int (zI s9)] [ob e 9 (ecS ip op t tr ps pa sl) J, SS G M sl Fu K] "java/lang/IndexOutOfBoundsException" [ob e 9 (ecS ip op t tr ps pa sl) J, SS G M sl Fu K] := by
  have hS : KS G := hX.1
  have hK : KG G := hS.1.1
  refine MT_of (lv := [some (.ref e), some (.int (zI s9)), none]) hK (by decide +kernel) rfl (nle rfl) (fun X C F => ?_)
  have C : OKc G X l RX7 "restore" cX7_restore 3 (some .int) 7 1 6 := C
  refine x_aload_n C eX7_restore_0 rfl ?_
  refine x_iload_n C eX7_restore_1 rfl ?_
  exact x_callVX (As := [_]) [] C (t_X7_testSlot_13 hX hT0 (by omega) (by omega)) v_X7_testSlot vv_X7_testSlot s_RX7_275 (rcv 0 rfl) eX7_restore_2 rfl (fun _ _ h => WF_pick [0, 1] rfl rfl h) rfl (nle rfl) (nle rfl) (nle rfl) (nle rfl) F (fun _ _ h => WF_pick [0, 1] rfl rfl h)
