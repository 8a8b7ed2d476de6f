/-! Throwing paths of the class: the tests, then the methods that begin with them. -/
set_option maxHeartbeats 4000000 in
set_option maxRecDepth 100000 in
theorem t_X7_testLine_15 {G : Gm} {l : Launch} (hX : KX G) (hT0 : l.stackTraces = false) {e ip op t tr ps pa sl al lg : Nat} {J : Nat → Int} {n : Net} {l9 : Int} (hm : 0 ≤ n (-1) 0 ∧ n (-1) 0 ≤ 6) (hb9 : -2147483648 ≤ l9 ∧ l9 ≤ 2147483647) (hl : ¬ (0 ≤ l9 ∧ l9 < n (-1) 0)) : MT G l yX7_testLine cX7_testLine 2 none 6 1 6 [.ref e, .int (zI l9)] [ob e 9 (ecS ip op t tr ps pa sl) J, ob t 8 (tkS al lg) (tkI (n))] "java/lang/IndexOutOfBoundsException" [ob e 9 (ecS ip op t tr ps pa sl) J, ob t 8 (tkS al lg) (tkI (n))] := by
  have hS : KS G := hX.1
  have hK : KG G := hS.1.1
  refine MT_of (lv := [some (.ref e), some (.int (zI l9))]) hK (by decide +kernel) rfl (nle rfl) (fun X C F => ?_)
  have C : OKc G X l RX7 "testLine" cX7_testLine 2 none 6 1 6 := C
  refine x_iload_n C eX7_testLine_0 rfl ?_
  refine x_if_lt 15 C eX7_testLine_1 rfl (by omega) (fun h1 => ?_) (fun h1 => ?_)
  · exact x_throwSW hX hT0 C F eX7_testLine_15 eX7_testLine_18 eX7_testLine_19 eX7_testLine_22 eX7_testLine_25 te_187 xl_311 rfl (nle rfl) (nle rfl) (nle rfl) (nle rfl) (fun _ _ h => WF_pick [0, 1] rfl rfl h)
  · refine x_iload_n C eX7_testLine_4 rfl ?_
    refine x_aload_n C eX7_testLine_5 rfl ?_
    refine x_getR 0 C f_RX7_22 eX7_testLine_6 rfl rfl ?_
    refine x_getI 1 C f_RX7_91 eX7_testLine_9 rfl rfl ?_
    try simp (disch := decide) only [up_s, up_n, tkI_2, tkI_3, tkI_4, tkI_5, tkI_6, tkI_7, tkI_8, lnI_1, lnI_2, lnI_3, lnI_4, lnI_5, lnI_10, lnI_11, lnI_12, lnI_13, lnI_14, lnI_15]
    refine x_icmp_lt 26 C eX7_testLine_12 rfl (by omega) (by omega) (fun h12 => ?_) (fun h12 => ?_)
    · exfalso; omega
    · exact x_throwSW hX hT0 C F eX7_testLine_15 eX7_testLine_18 eX7_testLine_19 eX7_testLine_22 eX7_testLine_25 te_187 xl_311 rfl (nle rfl) (nle rfl) (nle rfl) (nle rfl) (fun _ _ h => WF_pick [0, 1] rfl rfl h)

set_option maxHeartbeats 4000000 in
set_option maxRecDepth 100000 in
theorem t_X7_testSlot_13 {G : Gm} {l : Launch} (hX : KX G) (hT0 : l.stackTraces = false) {e ip op t tr ps pa sl : Nat} {J : Nat → Int} {M : Pool} {Fu : Nat → Int} {K : Nat → Net} {s9 : Int} (hb9 : -2147483648 ≤ s9 ∧ s9 ≤ 2147483647) (hs : ¬ (0 ≤ s9 ∧ s9 ≤ 1)) : MT G l yX7_testSlot cX7_testSlot 2 none 6 1 6 [.ref e, .int (zI s9)] [ob e 9 (ecS ip op t tr ps pa sl) J, SS G M sl Fu K] "java/lang/IndexOutOfBoundsException" [ob e 9 (ecS ip op t tr ps pa sl) J, SS G M sl Fu K] := by
  have hS : KS G := hX.1
  have hK : KG G := hS.1.1
  refine MT_of (lv := [some (.ref e), some (.int (zI s9))]) hK (by decide +kernel) rfl (nle rfl) (fun X C F => ?_)
  have C : OKc G X l RX7 "testSlot" cX7_testSlot 2 none 6 1 6 := C
  refine x_iload_n C eX7_testSlot_0 rfl ?_
  refine x_if_lt 13 C eX7_testSlot_1 rfl (by omega) (fun h1 => ?_) (fun h1 => ?_)
  · exact x_throwSW hX hT0 C F eX7_testSlot_13 eX7_testSlot_16 eX7_testSlot_17 eX7_testSlot_20 eX7_testSlot_23 te_187 xl_313 rfl (nle rfl) (nle rfl) (nle rfl) (nle rfl) (fun _ _ h => WF_pick [0, 1] rfl rfl h)
  · refine x_iload_n C eX7_testSlot_4 rfl ?_
    refine x_aload_n C eX7_testSlot_5 rfl ?_
    refine x_getR 0 C f_RX7_42 eX7_testSlot_6 rfl rfl ?_
    refine x_alen 1 C eX7_testSlot_9 rfl (by decide) SS_al ?_
    refine x_icmp_lt 24 C eX7_testSlot_10 rfl (by omega) (by omega) (fun h10 => ?_) (fun h10 => ?_)
    · exfalso; omega
    · exact x_throwSW hX hT0 C F eX7_testSlot_13 eX7_testSlot_16 eX7_testSlot_17 eX7_testSlot_20 eX7_testSlot_23 te_187 xl_313 rfl (nle rfl) (nle rfl) (nle rfl) (nle rfl) (fun _ _ h => WF_pick [0, 1] rfl rfl h)

set_option maxHeartbeats 4000000 in
set_option maxRecDepth 100000 in
theorem t_X7_testRange_10 {G : Gm} {l : Launch} (hX : KX G) (hT0 : l.stackTraces = false) {v9 a9 b9 : Int} (hb1 : -2147483648 ≤ v9 ∧ v9 ≤ 2147483647) (hb2 : -2147483648 ≤ a9 ∧ a9 ≤ 2147483647) (hb3 : -2147483648 ≤ b9 ∧ b9 ≤ 2147483647) (h : ¬ (a9 ≤ v9 ∧ v9 ≤ b9)) : MT G l yX7_testRange cX7_testRange 3 none 6 1 6 [.int (zI v9), .int (zI a9), .int (zI b9)] [] "java/lang/IllegalArgumentException" [] := by
  have hS : KS G := hX.1
  have hK : KG G := hS.1.1
  refine MT_of (lv := [some (.int (zI v9)), some (.int (zI a9)), some (.int (zI b9))]) hK (by decide +kernel) rfl (nle rfl) (fun X C F => ?_)
  have C : OKc G X l RX7 "testRange" cX7_testRange 3 none 6 1 6 := C
  refine x_iload_n C eX7_testRange_0 rfl ?_
  refine x_iload_n C eX7_testRange_1 rfl ?_
  refine x_icmp_lt 10 C eX7_testRange_2 rfl (by omega) (by omega) (fun h2 => ?_) (fun h2 => ?_)
  · exact x_throwSW hX hT0 C F eX7_testRange_10 eX7_testRange_13 eX7_testRange_14 eX7_testRange_17 eX7_testRange_20 te_66 xl_315 rfl (nle rfl) (nle rfl) (nle rfl) (nle rfl) (fun _ _ h => WF_pick [] rfl rfl h)
  · refine x_iload_n C eX7_testRange_5 rfl ?_
    refine x_iload_n C eX7_testRange_6 rfl ?_
    refine x_icmp_le 21 C eX7_testRange_7 rfl (by omega) (by omega) (fun h7 => ?_) (fun h7 => ?_)
    · exfalso; omega
    · exact x_throwSW hX hT0 C F eX7_testRange_10 eX7_testRange_13 eX7_testRange_14 eX7_testRange_17 eX7_testRange_20 te_66 xl_315 rfl (nle rfl) (nle rfl) (nle rfl) (nle rfl) (fun _ _ h => WF_pick [] rfl rfl h)

set_option maxHeartbeats 4000000 in
set_option maxRecDepth 100000 in
theorem t_X7_testCount_10 {G : Gm} {l : Launch} (hX : KX G) (hT0 : l.stackTraces = false) {w9 : Int} (hb1 : -2147483648 ≤ w9 ∧ w9 ≤ 2147483647) (h : ¬ (0 ≤ w9 ∧ w9 < 12)) : MT G l yX7_testCount cX7_testCount 1 none 6 1 6 [.int (zI w9)] [] "java/lang/IllegalArgumentException" [] := by
  have hS : KS G := hX.1
  have hK : KG G := hS.1.1
  refine MT_of (lv := [some (.int (zI w9))]) hK (by decide +kernel) rfl (nle rfl) (fun X C F => ?_)
  have C : OKc G X l RX7 "testCount" cX7_testCount 1 none 6 1 6 := C
  refine x_iload_n C eX7_testCount_0 rfl ?_
  refine x_if_lt 10 C eX7_testCount_1 rfl (by omega) (fun h1 => ?_) (fun h1 => ?_)
  · exact x_throwSW hX hT0 C F eX7_testCount_10 eX7_testCount_13 eX7_testCount_14 eX7_testCount_17 eX7_testCount_20 te_66 xl_317 rfl (nle rfl) (nle rfl) (nle rfl) (nle rfl) (fun _ _ h => WF_pick [] rfl rfl h)
  · refine x_iload_n C eX7_testCount_4 rfl ?_
    refine x_bipush C eX7_testCount_5 rfl ?_
    refine x_icmp_lt 21 C eX7_testCount_7 rfl (by omega) (by omega) (fun h7 => ?_) (fun h7 => ?_)
    · exfalso; omega
    · exact x_throwSW hX hT0 C F eX7_testCount_10 eX7_testCount_13 eX7_testCount_14 eX7_testCount_17 eX7_testCount_20 te_66 xl_317 rfl (nle rfl) (nle rfl) (nle rfl) (nle rfl) (fun _ _ h => WF_pick [] rfl rfl h)

set_option maxHeartbeats 4000000 in
set_option maxRecDepth 100000 in
theorem t_X7_testOther_5 {G : Gm} {l : Launch} (hX : KX G) (hT0 : l.stackTraces = false) {l9 : Int} (hb1 : -2147483648 ≤ l9 ∧ l9 ≤ 2147483647) : MT G l yX7_testOther cX7_testOther 2 none 6 1 6 [.int (zI l9), .int (zI l9)] [] "java/lang/IllegalArgumentException" [] := by
  have hS : KS G := hX.1
  have hK : KG G := hS.1.1
  refine MT_of (lv := [some (.int (zI l9)), some (.int (zI l9))]) hK (by decide +kernel) rfl (nle rfl) (fun X C F => ?_)
  have C : OKc G X l RX7 "testOther" cX7_testOther 2 none 6 1 6 := C
  refine x_iload_n C eX7_testOther_0 rfl ?_
  refine x_iload_n C eX7_testOther_1 rfl ?_
  refine x_icmp_ne 16 C eX7_testOther_2 rfl (by omega) (by omega) (fun h2 => ?_) (fun h2 => ?_)
  · exfalso; omega
  · exact x_throwSW hX hT0 C F eX7_testOther_5 eX7_testOther_8 eX7_testOther_9 eX7_testOther_12 eX7_testOther_15 te_66 xl_319 rfl (nle rfl) (nle rfl) (nle rfl) (nle rfl) (fun _ _ h => WF_pick [] rfl rfl h)
