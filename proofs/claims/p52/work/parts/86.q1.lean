/-! The class itself: the fields of its object, and what it asks of arguments. -/
abbrev ecS (ip op t tr ps pa sl : Nat) : List (Option Value) := [some (.ref ip), some (.ref op), some (.ref t), some (.ref tr), some (.ref ps), some (.ref pa), none, some (.ref sl), none, none]
section Rules
variable {G : Gm} {X : Cx} {k n : Nat} {ws : List SA} {pc : Nat} {lv : List (Option Value)} {st : List Value}
/-- opens a trunk of which nothing is told -/
theorem x_oTG {t : Nat} {L : Int → Nat} {R : List SA} (hw : ∀ cf c, WF ws cf c → WF (TG G t L :: R) cf c) (K : ∀ (al lg : Nat) (J : Nat → Int), WX G X k n (ob t 8 (tkS al lg) J :: arR G 5 al 6 (fun j => some (L (j : Int))) :: LFG G L :: LOGG G lg :: R) pc lv st) : WX G X k n ws pc lv st := by
  intro H locs ls c h1 h2 h3 h4
  obtain ⟨y, -, h5⟩ := WF_openX (X := Nat × Nat × (Nat → Int)) (Y := fun _ => True) (L := fun y => [ob t 8 (tkS y.1 y.2.1) y.2.2, arR G 5 y.1 6 (fun j => some (L (j : Int))), LFG G L, LOGG G y.2.1]) (hw _ _ h1) (fun d hd => by
    obtain ⟨al, lg, J, g⟩ := hd
    exact ⟨(al, lg, J), trivial, g⟩)
  exact K y.1 y.2.1 y.2.2 H locs ls c h5 h2 h3 h4
end Rules
theorem WF_cTO {G : Gm} {M : Pool} {t al lg : Nat} {L : Int → Nat} {m : Net} {R : List SA} {cf c : Sto} (h : WF (ob t 8 (tkS al lg) (tkI m) :: arR G 5 al 6 (fun j => some (L (j : Int))) :: LF G M L m :: LOG G lg m :: R) cf c) : WF (TO G M t L m :: R) cf c :=
  WF_close (L := [ob t 8 (tkS al lg) (tkI m), arR G 5 al 6 (fun j => some (L (j : Int))), LF G M L m, LOG G lg m]) (R := R) h (fun _ hd => ⟨al, lg, hd⟩)
theorem WF_cTG {G : Gm} {M : Pool} {t al lg : Nat} {L : Int → Nat} {m : Net} {R : List SA} {cf c : Sto} (h : WF (ob t 8 (tkS al lg) (tkI m) :: arR G 5 al 6 (fun j => some (L (j : Int))) :: LF G M L m :: LOG G lg m :: R) cf c) : WF (TG G t L :: R) cf c :=
  WF_close (L := [ob t 8 (tkS al lg) (tkI m), arR G 5 al 6 (fun j => some (L (j : Int))), LF G M L m, LOG G lg m]) (R := R) h (fun _ hd => TG_of ⟨al, lg, hd⟩)

set_option maxHeartbeats 4000000 in
set_option maxRecDepth 100000 in
theorem s_X7_testLine {G : Gm} {l : Launch} (hK : KG G) {e ip op t tr ps pa sl al lg : Nat} {J : Nat → Int} {n : Net} {l9 : Int} (hl : (0 ≤ l9 ∧ l9 < n (-1) 0) ∧ n (-1) 0 ≤ 6) : MD G l yX7_testLine cX7_testLine 2 none 1 0 0 [.ref e, .int (zI l9)] [ob e 9 (ecS ip op t tr ps pa sl) J, ob t 8 (tkS al lg) (tkI (n))] none [ob e 9 (ecS ip op t tr ps pa sl) J, ob t 8 (tkS al lg) (tkI (n))] := by
  refine MX_of (lv := [some (.ref e), some (.int (zI l9))]) hK (by decide +kernel) rfl (nle rfl) (fun X C F => ?_)
  have C : OKc G X l RX7 "testLine" cX7_testLine 2 none 1 0 0 := C
  refine x_iload_n C eX7_testLine_0 rfl ?_
  refine x_if_lt 15 C eX7_testLine_1 rfl (by omega) (fun h1 => ?_) (fun h1 => ?_)
  · exfalso; omega
  · refine x_iload_n C eX7_testLine_4 rfl ?_
    refine x_aload_n C eX7_testLine_5 rfl ?_
    refine x_getR 0 C f_RX7_22 eX7_testLine_6 rfl rfl ?_
    refine x_getI 1 C f_RX7_91 eX7_testLine_9 rfl rfl ?_
    try simp (disch := decide) only [up_s, up_n, tkI_2, tkI_3, tkI_4, tkI_5, tkI_6, tkI_7, tkI_8, lnI_1, lnI_2, lnI_3, lnI_4, lnI_5, lnI_10, lnI_11, lnI_12, lnI_13, lnI_14, lnI_15]
    refine x_icmp_lt 26 C eX7_testLine_12 rfl (by omega) (by omega) (fun h12 => ?_) (fun h12 => ?_)
    · refine x_vret C F eX7_testLine_26 () rfl trivial (fun cf c h => ?_) (nle rfl) (nle rfl)
      exact WF_pick [0, 1] rfl rfl h
    · exfalso; omega

set_option maxHeartbeats 4000000 in
set_option maxRecDepth 100000 in
theorem s_X7_testRange {G : Gm} {l : Launch} (hK : KG G) {v9 a9 b9 : Int} (h : (a9 ≤ v9 ∧ v9 ≤ b9) ∧ (-2147483648 ≤ a9 ∧ b9 < 2147483648)) : MD G l yX7_testRange cX7_testRange 3 none 1 0 0 [.int (zI v9), .int (zI a9), .int (zI b9)] [] none [] := by
  refine MX_of (lv := [some (.int (zI v9)), some (.int (zI a9)), some (.int (zI b9))]) hK (by decide +kernel) rfl (nle rfl) (fun X C F => ?_)
  have C : OKc G X l RX7 "testRange" cX7_testRange 3 none 1 0 0 := C
  refine x_iload_n C eX7_testRange_0 rfl ?_
  refine x_iload_n C eX7_testRange_1 rfl ?_
  refine x_icmp_lt 10 C eX7_testRange_2 rfl (by omega) (by omega) (fun h2 => ?_) (fun h2 => ?_)
  · exfalso; omega
  · refine x_iload_n C eX7_testRange_5 rfl ?_
    refine x_iload_n C eX7_testRange_6 rfl ?_
    refine x_icmp_le 21 C eX7_testRange_7 rfl (by omega) (by omega) (fun h7 => ?_) (fun h7 => ?_)
    · refine x_vret C F eX7_testRange_21 () rfl trivial (fun cf c h => ?_) (nle rfl) (nle rfl)
      exact WF_pick [] rfl rfl h
    · exfalso; omega

set_option maxHeartbeats 4000000 in
set_option maxRecDepth 100000 in
theorem s_X7_testCount {G : Gm} {l : Launch} (hK : KG G) {w9 : Int} (h : 0 ≤ w9 ∧ w9 < 12) : MD G l yX7_testCount cX7_testCount 1 none 1 0 0 [.int (zI w9)] [] none [] := by
  refine MX_of (lv := [some (.int (zI w9))]) hK (by decide +kernel) rfl (nle rfl) (fun X C F => ?_)
  have C : OKc G X l RX7 "testCount" cX7_testCount 1 none 1 0 0 := C
  refine x_iload_n C eX7_testCount_0 rfl ?_
  refine x_if_lt 10 C eX7_testCount_1 rfl (by omega) (fun h1 => ?_) (fun h1 => ?_)
  · exfalso; omega
  · refine x_iload_n C eX7_testCount_4 rfl ?_
    refine x_bipush C eX7_testCount_5 rfl ?_
    refine x_icmp_lt 21 C eX7_testCount_7 rfl (by omega) (by omega) (fun h7 => ?_) (fun h7 => ?_)
    · refine x_vret C F eX7_testCount_21 () rfl trivial (fun cf c h => ?_) (nle rfl) (nle rfl)
      exact WF_pick [] rfl rfl h
    · exfalso; omega

set_option maxHeartbeats 4000000 in
set_option maxRecDepth 100000 in
theorem s_X7_testOther {G : Gm} {l : Launch} (hK : KG G) {l9 o9 : Int} (h : (0 ≤ l9 ∧ l9 < 6) ∧ (0 ≤ o9 ∧ o9 < 6) ∧ ¬ l9 = o9) : MD G l yX7_testOther cX7_testOther 2 none 1 0 0 [.int (zI l9), .int (zI o9)] [] none [] := by
  refine MX_of (lv := [some (.int (zI l9)), some (.int (zI o9))]) hK (by decide +kernel) rfl (nle rfl) (fun X C F => ?_)
  have C : OKc G X l RX7 "testOther" cX7_testOther 2 none 1 0 0 := C
  refine x_iload_n C eX7_testOther_0 rfl ?_
  refine x_iload_n C eX7_testOther_1 rfl ?_
  refine x_icmp_ne 16 C eX7_testOther_2 rfl (by omega) (by omega) (fun h2 => ?_) (fun h2 => ?_)
  · refine x_vret C F eX7_testOther_16 () rfl trivial (fun cf c h => ?_) (nle rfl) (nle rfl)
    exact WF_pick [] rfl rfl h
  · exfalso; omega

set_option maxHeartbeats 4000000 in
set_option maxRecDepth 100000 in
theorem s_X7_errorCode {G : Gm} {l : Launch} (hK : KG G) {e ip op t tr ps pa sl : Nat} {J : Nat → Int}  : MD G l yX7_errorCode cX7_errorCode 1 (some .int) 1 0 0 [.ref e] [ob e 9 (ecS ip op t tr ps pa sl) J] (some (.int (zI (J 8)))) [ob e 9 (ecS ip op t tr ps pa sl) J] := by
  refine MX_of (lv := [some (.ref e)]) hK (by decide +kernel) rfl (nle rfl) (fun X C F => ?_)
  have C : OKc G X l RX7 "errorCode" cX7_errorCode 1 (some .int) 1 0 0 := C
  refine x_aload_n C eX7_errorCode_0 rfl ?_
  refine x_getI 0 C f_RX7_75 eX7_errorCode_1 rfl rfl ?_
  try simp (disch := decide) only [up_s, up_n, tkI_2, tkI_3, tkI_4, tkI_5, tkI_6, tkI_7, tkI_8, lnI_1, lnI_2, lnI_3, lnI_4, lnI_5, lnI_10, lnI_11, lnI_12, lnI_13, lnI_14, lnI_15]
  refine x_iret (by first | rfl | exact (narZ (by omega)).1) C F eX7_errorCode_4 () ?_ trivial (fun cf c h => ?_) (nle rfl) (nle rfl)
  · rfl
  · exact WF_pick [0] rfl rfl h

set_option maxHeartbeats 4000000 in
set_option maxRecDepth 100000 in
theorem s_X7_count {G : Gm} {l : Launch} (hK : KG G) {e ip op t tr ps pa sl al lg : Nat} {J : Nat → Int} {M : Pool} {L : Int → Nat} {n : Net} {b : Int} {l9 w9 : Int} (hN : NetOk b n) (hb : b ≤ 900000000) (hl : 0 ≤ l9 ∧ l9 < n (-1) 0) (hw : 0 ≤ w9 ∧ w9 < 12) : MD G l yX7_count cX7_count 3 (some .int) 2 0 0 [.ref e, .int (zI l9), .int (zI w9)] [ob e 9 (ecS ip op t tr ps pa sl) J, ob t 8 (tkS al lg) (tkI (n)), arR G 5 al 6 (fun j => some (L (j : Int))), LF G M L (n), LOG G lg (n)] (some (.int (zI (n l9 (16 + w9))))) [ob e 9 (ecS ip op t tr ps pa sl) J, ob t 8 (tkS al lg) (tkI (n)), arR G 5 al 6 (fun j => some (L (j : Int))), LF G M L (n), LOG G lg (n)] := by
  refine MX_of (lv := [some (.ref e), some (.int (zI l9)), some (.int (zI w9))]) hK (by decide +kernel) rfl (nle rfl) (fun X C F => ?_)
  have C : OKc G X l RX7 "count" cX7_count 3 (some .int) 2 0 0 := C
  have hH := hN.1
  unfold HeadOk at hH
  refine x_aload_n C eX7_count_0 rfl ?_
  refine x_iload_n C eX7_count_1 rfl ?_
  refine yV1v [_, _, _] [_, _, _, _, _] C (s_X7_testLine hK (by omega)) v_X7_testLine vv_X7_testLine s_RX7_145 eX7_count_2 (fun _ _ h => WF_pick [0, 1, 2, 3, 4] rfl rfl h) (rcv 0 rfl) rfl (nle rfl) (nle rfl) (nle rfl) (nle rfl) rfl ?_
  refine x_iload_n C eX7_count_5 rfl ?_
  refine yS1v [_, _, _, _, _] [_, _, _, _, _] C (s_X7_testCount hK (by omega)) v_X7_testCount vs_X7_testCount s_RX7_181 eX7_count_6 (fun _ _ h => WF_pick [0, 1, 2, 3, 4] rfl rfl h) rfl (nle rfl) (nle rfl) (nle rfl) (nle rfl) rfl ?_
  refine x_aload_n C eX7_count_9 rfl ?_
  refine x_getR 0 C f_RX7_22 eX7_count_10 rfl rfl ?_
  refine x_iload_n C eX7_count_13 rfl ?_
  refine yV1r [_, _, _] [_, _, _, _, _] C (s_X6_lineAt hK (by omega)) v_X6_lineAt vv_X6_lineAt s_RX7_122 eX7_count_14 (fun _ _ h => WF_pick [1, 2, 0, 3, 4] rfl rfl h) (rcv 1 rfl) rfl (nle rfl) (nle rfl) (nle rfl) (nle rfl) rfl ?_
  refine x_iload_n C eX7_count_17 rfl ?_
  refine yV1r [_, _, _, _] [_, _, _, _, _] C (s_FL_counted hK (by omega) (by omega)) v_X0_counted vv_X0_counted s_RX7_184 eX7_count_18 (fun _ _ h => WF_pick [3, 0, 1, 2, 4] rfl rfl h) (rcvP 3 rfl (LF_rcv (by omega))) rfl (nle rfl) (nle rfl) (nle rfl) (nle rfl) rfl ?_
  refine x_iret (by first | rfl | exact (narZ (by omega)).1) C F eX7_count_21 () ?_ trivial (fun cf c h => ?_) (nle rfl) (nle rfl)
  · rfl
  · exact WF_pick [3, 1, 2, 0, 4] rfl rfl h

set_option maxHeartbeats 4000000 in
set_option maxRecDepth 100000 in
theorem s_X7_delivered {G : Gm} {l : Launch} (hK : KG G) {e ip op t tr ps pa sl al lg : Nat} {J : Nat → Int} {M : Pool} {L : Int → Nat} {n : Net} {b : Int} {l9 : Int} (hN : NetOk b n) (hb : b ≤ 900000000) (hl : 0 ≤ l9 ∧ l9 < n (-1) 0) : MD G l yX7_delivered cX7_delivered 2 (some .int) 2 0 0 [.ref e, .int (zI l9)] [ob e 9 (ecS ip op t tr ps pa sl) J, ob t 8 (tkS al lg) (tkI (n)), arR G 5 al 6 (fun j => some (L (j : Int))), LF G M L (n), LOG G lg (n)] (some (.int (zI (n l9 14)))) [ob e 9 (ecS ip op t tr ps pa sl) J, ob t 8 (tkS al lg) (tkI (n)), arR G 5 al 6 (fun j => some (L (j : Int))), LF G M L (n), LOG G lg (n)] := by
  refine MX_of (lv := [some (.ref e), some (.int (zI l9))]) hK (by decide +kernel) rfl (nle rfl) (fun X C F => ?_)
  have C : OKc G X l RX7 "delivered" cX7_delivered 2 (some .int) 2 0 0 := C
  have hH := hN.1
  unfold HeadOk at hH
  have hL := hN.2.2 l9 (by omega) (by omega)
  unfold LineOk at hL
  refine x_aload_n C eX7_delivered_0 rfl ?_
  refine x_iload_n C eX7_delivered_1 rfl ?_
  refine yV1v [_, _, _] [_, _, _, _, _] C (s_X7_testLine hK (by omega)) v_X7_testLine vv_X7_testLine s_RX7_145 eX7_delivered_2 (fun _ _ h => WF_pick [0, 1, 2, 3, 4] rfl rfl h) (rcv 0 rfl) rfl (nle rfl) (nle rfl) (nle rfl) (nle rfl) rfl ?_
  refine x_aload_n C eX7_delivered_5 rfl ?_
  refine x_getR 0 C f_RX7_22 eX7_delivered_6 rfl rfl ?_
  refine x_iload_n C eX7_delivered_9 rfl ?_
  refine yV1r [_, _, _] [_, _, _, _, _] C (s_X6_lineAt hK (by omega)) v_X6_lineAt vv_X6_lineAt s_RX7_122 eX7_delivered_10 (fun _ _ h => WF_pick [1, 2, 0, 3, 4] rfl rfl h) (rcv 1 rfl) rfl (nle rfl) (nle rfl) (nle rfl) (nle rfl) rfl ?_
  refine x_gL 3 C f_RX7_195 eX7_delivered_13 rfl (by omega) rfl ?_
  try simp only [lnI_1, lnI_2, lnI_3, lnI_4, lnI_5, lnI_10, lnI_11, lnI_12, lnI_13, lnI_14, lnI_15]
  refine x_iret (by first | rfl | exact (narZ (by omega)).1) C F eX7_delivered_16 () ?_ trivial (fun cf c h => ?_) (nle rfl) (nle rfl)
  · rfl
  · exact WF_pick [2, 0, 1, 3, 4] rfl rfl h

set_option maxHeartbeats 4000000 in
set_option maxRecDepth 100000 in
theorem s_X7_gap {G : Gm} {l : Launch} (hK : KG G) {e ip op t tr ps pa sl al lg : Nat} {J : Nat → Int} {M : Pool} {L : Int → Nat} {n : Net} {b : Int} {l9 : Int} (hN : NetOk b n) (hb : b ≤ 900000000) (hl : 0 ≤ l9 ∧ l9 < n (-1) 0) : MD G l yX7_gap cX7_gap 4 (some .int) 2 0 0 [.ref e, .int (zI l9)] [ob e 9 (ecS ip op t tr ps pa sl) J, ob t 8 (tkS al lg) (tkI (n)), arR G 5 al 6 (fun j => some (L (j : Int))), LF G M L (n), LOG G lg (n)] (some (.int (zI (n l9 (16 + 0) - n l9 (16 + 1) - n l9 (16 + 2) - n l9 (16 + 3) - n l9 6)))) [ob e 9 (ecS ip op t tr ps pa sl) J, ob t 8 (tkS al lg) (tkI (n)), arR G 5 al 6 (fun j => some (L (j : Int))), LF G M L (n), LOG G lg (n)] := by
  refine MX_of (lv := [some (.ref e), some (.int (zI l9)), none, none]) hK (by decide +kernel) rfl (nle rfl) (fun X C F => ?_)
  have C : OKc G X l RX7 "gap" cX7_gap 4 (some .int) 2 0 0 := C
  have hH := hN.1
  unfold HeadOk at hH
  have hL := hN.2.2 l9 (by omega) (by omega)
  unfold LineOk at hL
  refine x_aload_n C eX7_gap_0 rfl ?_
  refine x_iload_n C eX7_gap_1 rfl ?_
  refine yV1v [_, _, _] [_, _, _, _, _] C (s_X7_testLine hK (by omega)) v_X7_testLine vv_X7_testLine s_RX7_145 eX7_gap_2 (fun _ _ h => WF_pick [0, 1, 2, 3, 4] rfl rfl h) (rcv 0 rfl) rfl (nle rfl) (nle rfl) (nle rfl) (nle rfl) rfl ?_
  refine x_aload_n C eX7_gap_5 rfl ?_
  refine x_getR 0 C f_RX7_22 eX7_gap_6 rfl rfl ?_
  refine x_iload_n C eX7_gap_9 rfl ?_
  refine yV1r [_, _, _] [_, _, _, _, _] C (s_X6_lineAt hK (by omega)) v_X6_lineAt vv_X6_lineAt s_RX7_122 eX7_gap_10 (fun _ _ h => WF_pick [1, 2, 0, 3, 4] rfl rfl h) (rcv 1 rfl) rfl (nle rfl) (nle rfl) (nle rfl) (nle rfl) rfl ?_
  refine x_astore_n [_, _, _, _] C eX7_gap_13 rfl rfl (nlt rfl) ?_
  refine x_aload_n C eX7_gap_14 rfl ?_
  refine x_iconst C eX7_gap_15 ?_
  refine yV1r [_, _, _, _] [_, _, _, _, _] C (s_FL_counted hK (by omega) (by omega)) v_X0_counted vv_X0_counted s_RX7_184 eX7_gap_16 (fun _ _ h => WF_pick [3, 0, 1, 2, 4] rfl rfl h) (rcvP 3 rfl (LF_rcv (by omega))) rfl (nle rfl) (nle rfl) (nle rfl) (nle rfl) rfl ?_
  refine x_aload_n C eX7_gap_19 rfl ?_
  refine x_iconst C eX7_gap_20 ?_
  refine yV1r [_, _, _, _] [_, _, _, _, _] C (s_FL_counted hK (by omega) (by omega)) v_X0_counted vv_X0_counted s_RX7_184 eX7_gap_21 (fun _ _ h => WF_pick [0, 1, 2, 3, 4] rfl rfl h) (rcvP 0 rfl (LF_rcv (by omega))) rfl (nle rfl) (nle rfl) (nle rfl) (nle rfl) rfl ?_
  refine x_iadd C eX7_gap_24 ?_
  refine x_aload_n C eX7_gap_25 rfl ?_
  refine x_iconst C eX7_gap_26 ?_
  refine yV1r [_, _, _, _] [_, _, _, _, _] C (s_FL_counted hK (by omega) (by omega)) v_X0_counted vv_X0_counted s_RX7_184 eX7_gap_27 (fun _ _ h => WF_pick [0, 1, 2, 3, 4] rfl rfl h) (rcvP 0 rfl (LF_rcv (by omega))) rfl (nle rfl) (nle rfl) (nle rfl) (nle rfl) rfl ?_
  refine x_iadd C eX7_gap_30 ?_
  refine x_istore_n [_, _, _, _] C eX7_gap_31 rfl rfl (nlt rfl) ?_
  refine x_aload_n C eX7_gap_32 rfl ?_
  refine x_iconst C eX7_gap_33 ?_
  refine yV1r [_, _, _, _] [_, _, _, _, _] C (s_FL_counted hK (by omega) (by omega)) v_X0_counted vv_X0_counted s_RX7_184 eX7_gap_34 (fun _ _ h => WF_pick [0, 1, 2, 3, 4] rfl rfl h) (rcvP 0 rfl (LF_rcv (by omega))) rfl (nle rfl) (nle rfl) (nle rfl) (nle rfl) rfl ?_
  refine x_iload_n C eX7_gap_37 rfl ?_
  refine x_isub C eX7_gap_38 ?_
  refine x_oL (M := M) (L := L) (m := n) (i := l9) (R := [_, _, _, _]) (by omega) (fun _ _ hw => WF_pick [0, 1, 2, 3, 4] rfl rfl hw) (fun A hA => ?_)
  refine x_aload_n C eX7_gap_39 rfl ?_
  refine x_getR 0 C f_RX7_165 eX7_gap_40 rfl rfl ?_
  refine x_getI 1 C f_RX7_169 eX7_gap_43 rfl rfl ?_
  try simp (disch := decide) only [up_s, up_n, tkI_2, tkI_3, tkI_4, tkI_5, tkI_6, tkI_7, tkI_8, lnI_1, lnI_2, lnI_3, lnI_4, lnI_5, lnI_10, lnI_11, lnI_12, lnI_13, lnI_14, lnI_15]
  refine x_isub C eX7_gap_46 ?_
  refine x_pick [_, _, _, _, _, _, _, _, _, _, _, _, _, _, _] [0, 1, 2, 3, 4, 5, 6, 7, 8, 9, 10, 11, 12, 13, 14] rfl rfl ?_
  refine x_cL (m := n) (i := l9) (A := A) (B := n l9) (by omega) hA (fun cf c h => ?_) ?_
  · exact h
  rw [un_id]
  refine x_iret (by first | rfl | exact (narZ (by omega)).1) C F eX7_gap_47 () ?_ trivial (fun cf c h => ?_) (nle rfl) (nle rfl)
  · exact congrArg (fun z => some (Value.int (zI z))) (by omega)
  · exact WF_pick [3, 1, 2, 0, 4] rfl rfl h

