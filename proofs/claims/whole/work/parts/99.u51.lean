/-! The law, case by case: questions. -/
set_option maxHeartbeats 4000000 in
set_option maxRecDepth 100000 in
theorem lc_8_0 {G : Gm} {X : Cx} {l : Launch} {x : LFx} {k nn : Nat} {i b : Int} {J : Nat → Int} {M : Pool} {n : Net} {N K : Nat → Net} {Fu Fb : Nat → Int} {w : List Int} {z : Int} {I TL TB : Nat → Int} {N9 : Nat → Net} {f : Nat → Int64} {fD : Nat → UInt64} {a1 a2 : Int} (H : LKn G l x) (hC : OKc G X l RL "law" cL_law 9 (some .boolean) 1400 964359 6203026) (hI : INV b J M n N K Fu Fb w z I) (hb : b ≤ 15000000) (hk : k + 100 ≤ 964359) (hn : nn + 2200 ≤ 6203026) (hi : 0 ≤ i ∧ i + 6 ≤ (x.L : Int)) (ha1 : (x.xs (i + 1).toNat).toInt = a1) (ha2 : (x.xs (i + 2).toNat).toInt = a2) (hl : 0 ≤ a1 ∧ a1 < n (-1) 0) (hw : 0 ≤ a2 ∧ a2 < 12) (K9 : LCont G X x (b + 8000) (k + 100) (nn + 2200) i) : WX G X k nn (LAT G x J M n N K Fu Fb w z I TL TB N9 f fD) 572 (LLV x i) [] := by
  have C := hC
  have hK : KG G := H.hX.1.1.1
  have hH := hI.hN.1.1
  unfold HeadOk at hH
  have r1 : -2147483648 ≤ a1 ∧ a1 < 2147483648 := by rw [← ha1]; exact bI_toInt _
  have r2 : -2147483648 ≤ a2 ∧ a2 < 2147483648 := by rw [← ha2]; exact bI_toInt _
  refine x_aload_n C eL_law_572 rfl ?_
  refine x_argA C H.hx H.hbl H.hL eL_law_573 eL_law_574 eL_law_576 eL_law_577 eL_law_578 rfl rfl (by omega) ha1 ?_
  refine x_argA C H.hx H.hbl H.hL eL_law_579 eL_law_580 eL_law_582 eL_law_583 eL_law_584 rfl rfl (by omega) ha2 ?_
  refine x_aload_n C eL_law_585 rfl ?_
  refine x_callSW (As := [_, _, _, _]) [_, _, _, _, _, _, _, _, _, _, _, _, _, _, _, _, _, _, _] C (wn_count hK (s_X7_count hK hI.hN.1 (by omega) (by omega) (by omega)) (rcv 0 rfl)) cw_count s_RL_176 eL_law_586 rfl (fun _ _ h => WF_pick [0, 1, 2, 3, 4, 23, 5, 6, 7, 8, 9, 10, 11, 12, 13, 14, 15, 16, 17, 18, 19, 20, 21, 22, 24] rfl rfl h) rfl (nle rfl) (nle rfl) (by omega) (by omega) (fun _ _ => ?_)
  refine x_pick [_, _, _, _, _, _, _, _, _, _, _, _, _, _, _, _, _, _, _, _, _, _, _, _, _] [0, 1, 2, 3, 4, 5, 6, 7, 8, 9, 10, 11, 12, 13, 14, 15, 16, 17, 18, 19, 20, 21, 22, 23, 24] rfl rfl ?_
  refine x_istore [_, _, _, _, _, _, _, _, _] C eL_law_589 rfl rfl (nlt rfl) ?_
  refine x_aload_n C eL_law_591 rfl ?_
  refine x_argA C H.hx H.hbl H.hL eL_law_592 eL_law_593 eL_law_595 eL_law_596 eL_law_597 rfl rfl (by omega) ha1 ?_
  refine x_argA C H.hx H.hbl H.hL eL_law_598 eL_law_599 eL_law_601 eL_law_602 eL_law_603 rfl rfl (by omega) ha2 ?_
  have c1 : 0 ≤ a1 ∧ a1 ≤ n (-1) 0 - 1 := by first | trivial | omega
  have c2 : 0 ≤ a2 ∧ a2 ≤ 11 := by first | trivial | omega
  have c3 : True := by first | trivial | omega
  have hM := s_X8_count (G := G) (l := l) (o := x.o) (A := x.A) (I := I) (N := N9) (n := n) (b := b) (l9 := a1) (w9 := a2) hK hI.hN.1 (by omega) (by omega) (by omega)
  simp only [if_pos (show (0 ≤ a1 ∧ a1 ≤ n (-1) 0 - 1) ∧ (0 ≤ a2 ∧ a2 ≤ 11) ∧ (True) from ⟨c1, c2, c3⟩), thr_0 c1 c2 c3] at hM
  refine yV2r [_, _, _, _, _, _, _, _, _, _, _, _, _, _, _, _, _, _, _, _, _, _, _] [_, _, _, _, _, _, _, _, _, _, _, _, _, _, _, _, _, _, _, _, _, _, _, _, _] C hM v_X8_count vv_X8_count s_RL_178 eL_law_604 (fun _ _ h => WF_pick [15, 16, 0, 1, 2, 3, 4, 5, 6, 7, 8, 9, 10, 11, 12, 13, 14, 17, 18, 19, 20, 21, 22, 23, 24] rfl rfl h) (rcv 15 rfl) rfl (nle rfl) (nle rfl) (by omega) (by omega) rfl ?_
  refine x_istore [_, _, _, _, _, _, _, _, _] C eL_law_607 rfl rfl (nlt rfl) ?_
  refine x_aload_n C eL_law_609 rfl ?_
  refine yV0r [_, _, _, _, _, _, _, _, _, _, _, _, _, _, _, _, _, _, _, _, _, _, _, _] [_, _, _, _, _, _, _, _, _, _, _, _, _, _, _, _, _, _, _, _, _, _, _, _, _] C (s_X8_thrown hK) v_X8_thrown vv_X8_thrown s_RL_145 eL_law_610 (fun _ _ h => WF_pick [0, 1, 2, 3, 4, 5, 6, 7, 8, 9, 10, 11, 12, 13, 14, 15, 16, 17, 18, 19, 20, 21, 22, 23, 24] rfl rfl h) (rcv 0 rfl) rfl (nle rfl) (nle rfl) (by omega) (by omega) rfl ?_
  refine x_iload C eL_law_613 rfl ?_
  refine x_icmp_val (by first | exact up_s _ _ _ | exact (up_n (by decide)).trans (up_s _ _ _)) 620 C eL_law_615 rfl ?_
  refine x_iload C eL_law_620 rfl ?_
  refine x_if_ne 637 C eL_law_622 rfl (by omega) (fun h => absurd rfl h) (fun _ => ?_)
  refine x_aload_n C eL_law_625 rfl ?_
  refine x_iconst C eL_law_626 ?_
  refine x_lald (N := 1) 7 C eL_law_627 rfl (by decide) (by omega) ?_
  refine x_iload C eL_law_628 rfl ?_
  refine x_i2lR C eL_law_630 ?_
  refine x_lcmp_same 637 (if_pos rfl) C eL_law_631 eL_law_632 rfl ?_
  refine x_goto (pc' := 2791) C eL_law_637 rfl ?_
  refine x_pick [_, _, _, _, _, _, _, _, _, _, _, _, _, _, _, _, _, _, _, _, _, _, _, _, _] [2, 3, 4, 5, 6, 8, 9, 10, 11, 12, 13, 14, 15, 16, 0, 1, 17, 18, 19, 20, 21, 22, 23, 7, 24] rfl rfl ?_
  refine x_lv [_, _, _, _, _, _, none, none, _] rfl (lx_drop _ [6, 7] rfl) ?_
  exact x_wide (by omega) (by omega) (K9 (hI.qI (by omega) (up_n (by decide)) (up_n (by decide)) (up_n (by decide)) (up_n (by decide)) (up_n (by decide)) (up_n (by decide))))

set_option maxHeartbeats 4000000 in
set_option maxRecDepth 100000 in
theorem lc_8_1 {G : Gm} {X : Cx} {l : Launch} {x : LFx} {k nn : Nat} {i b : Int} {J : Nat → Int} {M : Pool} {n : Net} {N K : Nat → Net} {Fu Fb : Nat → Int} {w : List Int} {z : Int} {I TL TB : Nat → Int} {N9 : Nat → Net} {f : Nat → Int64} {fD : Nat → UInt64} {a1 a2 : Int} (H : LKn G l x) (hC : OKc G X l RL "law" cL_law 9 (some .boolean) 1400 964359 6203026) (hI : INV b J M n N K Fu Fb w z I) (hb : b ≤ 15000000) (hk : k + 100 ≤ 964359) (hn : nn + 2200 ≤ 6203026) (hi : 0 ≤ i ∧ i + 6 ≤ (x.L : Int)) (ha1 : (x.xs (i + 1).toNat).toInt = a1) (ha2 : (x.xs (i + 2).toNat).toInt = a2) (hl : ¬ (0 ≤ a1 ∧ a1 < n (-1) 0)) (K9 : LCont G X x (b + 8000) (k + 100) (nn + 2200) i) : WX G X k nn (LAT G x J M n N K Fu Fb w z I TL TB N9 f fD) 572 (LLV x i) [] := by
  have C := hC
  have hK : KG G := H.hX.1.1.1
  have hH := hI.hN.1.1
  unfold HeadOk at hH
  have r1 : -2147483648 ≤ a1 ∧ a1 < 2147483648 := by rw [← ha1]; exact bI_toInt _
  have r2 : -2147483648 ≤ a2 ∧ a2 < 2147483648 := by rw [← ha2]; exact bI_toInt _
  refine x_aload_n C eL_law_572 rfl ?_
  refine x_argA C H.hx H.hbl H.hL eL_law_573 eL_law_574 eL_law_576 eL_law_577 eL_law_578 rfl rfl (by omega) ha1 ?_
  refine x_argA C H.hx H.hbl H.hL eL_law_579 eL_law_580 eL_law_582 eL_law_583 eL_law_584 rfl rfl (by omega) ha2 ?_
  refine x_aload_n C eL_law_585 rfl ?_
  refine x_callSW (As := [_, _, _, _]) [_, _, _, _, _, _, _, _, _, _, _, _, _, _, _, _, _, _, _, _, _, _] C (wx_count_1 hK (t_X7_count_2 H.hX H.hT0 (by omega) (by omega) (by omega)) (xwd_c (i := 0) H.hX rfl) (rcv 0 rfl)) cw_count s_RL_176 eL_law_586 rfl (fun _ _ h => WF_pick [0, 1, 23, 2, 3, 4, 5, 6, 7, 8, 9, 10, 11, 12, 13, 14, 15, 16, 17, 18, 19, 20, 21, 22, 24] rfl rfl h) rfl (nle rfl) (nle rfl) (by omega) (by omega) (fun _ _ => ?_)
  refine x_pick [_, _, _, _, _, _, _, _, _, _, _, _, _, _, _, _, _, _, _, _, _, _, _, _, _] [0, 1, 2, 3, 4, 5, 6, 7, 8, 9, 10, 11, 12, 13, 14, 15, 16, 17, 18, 19, 20, 21, 22, 23, 24] rfl rfl ?_
  refine x_istore [_, _, _, _, _, _, _, _, _] C eL_law_589 rfl rfl (nlt rfl) ?_
  refine x_aload_n C eL_law_591 rfl ?_
  refine x_argA C H.hx H.hbl H.hL eL_law_592 eL_law_593 eL_law_595 eL_law_596 eL_law_597 rfl rfl (by omega) ha1 ?_
  refine x_argA C H.hx H.hbl H.hL eL_law_598 eL_law_599 eL_law_601 eL_law_602 eL_law_603 rfl rfl (by omega) ha2 ?_
  have c1 : ¬ (0 ≤ a1 ∧ a1 ≤ n (-1) 0 - 1) := by omega
  have hM := s_X8_count (G := G) (l := l) (o := x.o) (A := x.A) (I := I) (N := N9) (n := n) (b := b) (l9 := a1) (w9 := a2) hK hI.hN.1 (by omega) (by omega) (by omega)
  simp only [if_neg (show ¬ ((0 ≤ a1 ∧ a1 ≤ n (-1) 0 - 1) ∧ (0 ≤ a2 ∧ a2 ≤ 11) ∧ (True)) from fun q => c1 q.1), thr_1 c1] at hM
  refine yV2r [_, _, _, _, _, _, _, _, _, _, _, _, _, _, _, _, _, _, _, _, _, _, _] [_, _, _, _, _, _, _, _, _, _, _, _, _, _, _, _, _, _, _, _, _, _, _, _, _] C hM v_X8_count vv_X8_count s_RL_178 eL_law_604 (fun _ _ h => WF_pick [15, 16, 0, 1, 2, 3, 4, 5, 6, 7, 8, 9, 10, 11, 12, 13, 14, 17, 18, 19, 20, 21, 22, 23, 24] rfl rfl h) (rcv 15 rfl) rfl (nle rfl) (nle rfl) (by omega) (by omega) rfl ?_
  refine x_istore [_, _, _, _, _, _, _, _, _] C eL_law_607 rfl rfl (nlt rfl) ?_
  refine x_aload_n C eL_law_609 rfl ?_
  refine yV0r [_, _, _, _, _, _, _, _, _, _, _, _, _, _, _, _, _, _, _, _, _, _, _, _] [_, _, _, _, _, _, _, _, _, _, _, _, _, _, _, _, _, _, _, _, _, _, _, _, _] C (s_X8_thrown hK) v_X8_thrown vv_X8_thrown s_RL_145 eL_law_610 (fun _ _ h => WF_pick [0, 1, 2, 3, 4, 5, 6, 7, 8, 9, 10, 11, 12, 13, 14, 15, 16, 17, 18, 19, 20, 21, 22, 23, 24] rfl rfl h) (rcv 0 rfl) rfl (nle rfl) (nle rfl) (by omega) (by omega) rfl ?_
  refine x_iload C eL_law_613 rfl ?_
  refine x_icmp_val (by first | exact up_s _ _ _ | exact (up_n (by decide)).trans (up_s _ _ _)) 620 C eL_law_615 rfl ?_
  refine x_iload C eL_law_620 rfl ?_
  refine x_if_ne 637 C eL_law_622 rfl (by omega) (fun _ => ?_) (fun h => absurd h (by decide))
  refine x_goto (pc' := 2791) C eL_law_637 rfl ?_
  refine x_pick [_, _, _, _, _, _, _, _, _, _, _, _, _, _, _, _, _, _, _, _, _, _, _, _, _] [2, 3, 5, 6, 7, 8, 9, 10, 11, 12, 13, 14, 15, 16, 0, 1, 17, 18, 19, 20, 21, 22, 23, 4, 24] rfl rfl ?_
  refine x_lv [_, _, _, _, _, _, none, none, _] rfl (lx_drop _ [6, 7] rfl) ?_
  exact x_wide (by omega) (by omega) (K9 (hI.qI (by omega) (up_n (by decide)) (up_n (by decide)) (up_n (by decide)) (up_n (by decide)) (up_n (by decide)) (up_n (by decide))))

set_option maxHeartbeats 4000000 in
set_option maxRecDepth 100000 in
theorem lc_8_2 {G : Gm} {X : Cx} {l : Launch} {x : LFx} {k nn : Nat} {i b : Int} {J : Nat → Int} {M : Pool} {n : Net} {N K : Nat → Net} {Fu Fb : Nat → Int} {w : List Int} {z : Int} {I TL TB : Nat → Int} {N9 : Nat → Net} {f : Nat → Int64} {fD : Nat → UInt64} {a1 a2 : Int} (H : LKn G l x) (hC : OKc G X l RL "law" cL_law 9 (some .boolean) 1400 964359 6203026) (hI : INV b J M n N K Fu Fb w z I) (hb : b ≤ 15000000) (hk : k + 100 ≤ 964359) (hn : nn + 2200 ≤ 6203026) (hi : 0 ≤ i ∧ i + 6 ≤ (x.L : Int)) (ha1 : (x.xs (i + 1).toNat).toInt = a1) (ha2 : (x.xs (i + 2).toNat).toInt = a2) (hl : 0 ≤ a1 ∧ a1 < n (-1) 0) (hw : ¬ (0 ≤ a2 ∧ a2 < 12)) (K9 : LCont G X x (b + 8000) (k + 100) (nn + 2200) i) : WX G X k nn (LAT G x J M n N K Fu Fb w z I TL TB N9 f fD) 572 (LLV x i) [] := by
  have C := hC
  have hK : KG G := H.hX.1.1.1
  have hH := hI.hN.1.1
  unfold HeadOk at hH
  have r1 : -2147483648 ≤ a1 ∧ a1 < 2147483648 := by rw [← ha1]; exact bI_toInt _
  have r2 : -2147483648 ≤ a2 ∧ a2 < 2147483648 := by rw [← ha2]; exact bI_toInt _
  refine x_aload_n C eL_law_572 rfl ?_
  refine x_argA C H.hx H.hbl H.hL eL_law_573 eL_law_574 eL_law_576 eL_law_577 eL_law_578 rfl rfl (by omega) ha1 ?_
  refine x_argA C H.hx H.hbl H.hL eL_law_579 eL_law_580 eL_law_582 eL_law_583 eL_law_584 rfl rfl (by omega) ha2 ?_
  refine x_aload_n C eL_law_585 rfl ?_
  refine x_callSW (As := [_, _, _, _]) [_, _, _, _, _, _, _, _, _, _, _, _, _, _, _, _, _, _, _, _, _, _] C (wx_count_2 hK (t_X7_count_6 H.hX H.hT0 (by omega) (by omega) (by omega) (by omega)) (xwd_c (i := 1) H.hX rfl) H.n1 (rcv 0 rfl)) cw_count s_RL_176 eL_law_586 rfl (fun _ _ h => WF_pick [0, 1, 23, 2, 3, 4, 5, 6, 7, 8, 9, 10, 11, 12, 13, 14, 15, 16, 17, 18, 19, 20, 21, 22, 24] rfl rfl h) rfl (nle rfl) (nle rfl) (by omega) (by omega) (fun _ _ => ?_)
  refine x_pick [_, _, _, _, _, _, _, _, _, _, _, _, _, _, _, _, _, _, _, _, _, _, _, _, _] [0, 1, 2, 3, 4, 5, 6, 7, 8, 9, 10, 11, 12, 13, 14, 15, 16, 17, 18, 19, 20, 21, 22, 23, 24] rfl rfl ?_
  refine x_istore [_, _, _, _, _, _, _, _, _] C eL_law_589 rfl rfl (nlt rfl) ?_
  refine x_aload_n C eL_law_591 rfl ?_
  refine x_argA C H.hx H.hbl H.hL eL_law_592 eL_law_593 eL_law_595 eL_law_596 eL_law_597 rfl rfl (by omega) ha1 ?_
  refine x_argA C H.hx H.hbl H.hL eL_law_598 eL_law_599 eL_law_601 eL_law_602 eL_law_603 rfl rfl (by omega) ha2 ?_
  have c1 : 0 ≤ a1 ∧ a1 ≤ n (-1) 0 - 1 := by first | trivial | omega
  have c2 : ¬ (0 ≤ a2 ∧ a2 ≤ 11) := by omega
  have hM := s_X8_count (G := G) (l := l) (o := x.o) (A := x.A) (I := I) (N := N9) (n := n) (b := b) (l9 := a1) (w9 := a2) hK hI.hN.1 (by omega) (by omega) (by omega)
  simp only [if_neg (show ¬ ((0 ≤ a1 ∧ a1 ≤ n (-1) 0 - 1) ∧ (0 ≤ a2 ∧ a2 ≤ 11) ∧ (True)) from fun q => c2 q.2.1), thr_2 c1 c2] at hM
  refine yV2r [_, _, _, _, _, _, _, _, _, _, _, _, _, _, _, _, _, _, _, _, _, _, _] [_, _, _, _, _, _, _, _, _, _, _, _, _, _, _, _, _, _, _, _, _, _, _, _, _] C hM v_X8_count vv_X8_count s_RL_178 eL_law_604 (fun _ _ h => WF_pick [15, 16, 0, 1, 2, 3, 4, 5, 6, 7, 8, 9, 10, 11, 12, 13, 14, 17, 18, 19, 20, 21, 22, 23, 24] rfl rfl h) (rcv 15 rfl) rfl (nle rfl) (nle rfl) (by omega) (by omega) rfl ?_
  refine x_istore [_, _, _, _, _, _, _, _, _] C eL_law_607 rfl rfl (nlt rfl) ?_
  refine x_aload_n C eL_law_609 rfl ?_
  refine yV0r [_, _, _, _, _, _, _, _, _, _, _, _, _, _, _, _, _, _, _, _, _, _, _, _] [_, _, _, _, _, _, _, _, _, _, _, _, _, _, _, _, _, _, _, _, _, _, _, _, _] C (s_X8_thrown hK) v_X8_thrown vv_X8_thrown s_RL_145 eL_law_610 (fun _ _ h => WF_pick [0, 1, 2, 3, 4, 5, 6, 7, 8, 9, 10, 11, 12, 13, 14, 15, 16, 17, 18, 19, 20, 21, 22, 23, 24] rfl rfl h) (rcv 0 rfl) rfl (nle rfl) (nle rfl) (by omega) (by omega) rfl ?_
  refine x_iload C eL_law_613 rfl ?_
  refine x_icmp_val (by first | exact up_s _ _ _ | exact (up_n (by decide)).trans (up_s _ _ _)) 620 C eL_law_615 rfl ?_
  refine x_iload C eL_law_620 rfl ?_
  refine x_if_ne 637 C eL_law_622 rfl (by omega) (fun _ => ?_) (fun h => absurd h (by decide))
  refine x_goto (pc' := 2791) C eL_law_637 rfl ?_
  refine x_pick [_, _, _, _, _, _, _, _, _, _, _, _, _, _, _, _, _, _, _, _, _, _, _, _, _] [2, 3, 5, 6, 7, 8, 9, 10, 11, 12, 13, 14, 15, 16, 0, 1, 17, 18, 19, 20, 21, 22, 23, 4, 24] rfl rfl ?_
  refine x_lv [_, _, _, _, _, _, none, none, _] rfl (lx_drop _ [6, 7] rfl) ?_
  exact x_wide (by omega) (by omega) (K9 (hI.qI (by omega) (up_n (by decide)) (up_n (by decide)) (up_n (by decide)) (up_n (by decide)) (up_n (by decide)) (up_n (by decide))))

set_option maxHeartbeats 4000000 in
set_option maxRecDepth 100000 in
theorem lc_24_0 {G : Gm} {X : Cx} {l : Launch} {x : LFx} {k nn : Nat} {i b : Int} {J : Nat → Int} {M : Pool} {n : Net} {N K : Nat → Net} {Fu Fb : Nat → Int} {w : List Int} {z : Int} {I TL TB : Nat → Int} {N9 : Nat → Net} {f : Nat → Int64} {fD : Nat → UInt64} (H : LKn G l x) (hC : OKc G X l RL "law" cL_law 9 (some .boolean) 1400 964359 6203026) (hI : INV b J M n N K Fu Fb w z I) (hb : b ≤ 15000000) (hk : k + 100 ≤ 964359) (hn : nn + 2200 ≤ 6203026) (hi : 0 ≤ i ∧ i + 6 ≤ (x.L : Int))   (K9 : LCont G X x (b + 8000) (k + 100) (nn + 2200) i) : WX G X k nn (LAT G x J M n N K Fu Fb w z I TL TB N9 f fD) 1451 (LLV x i) [] := by
  have C := hC
  have hK : KG G := H.hX.1.1.1
  have hH := hI.hN.1.1
  unfold HeadOk at hH
  refine x_aload_n C eL_law_1451 rfl ?_
  refine yV0r [_, _, _, _, _, _, _, _, _, _, _, _, _, _, _, _, _, _, _, _] [_, _, _, _, _, _, _, _, _, _, _, _, _, _, _, _, _, _, _, _, _, _, _, _, _] C (s_X7_busiest hK hI.hN.1 (by omega)) v_X7_busiest vv_X7_busiest s_RL_228 eL_law_1452 (fun _ _ h => WF_pick [0, 1, 2, 3, 4, 5, 6, 7, 8, 9, 10, 11, 12, 13, 14, 15, 16, 17, 18, 19, 20, 21, 22, 23, 24] rfl rfl h) (rcv 0 rfl) rfl (nle rfl) (nle rfl) (by omega) (by omega) rfl ?_
  refine x_aload_n C eL_law_1455 rfl ?_
  have hM := s_X8_busiest (G := G) (l := l) (o := x.o) (A := x.A) (I := I) (N := N9) (n := n) (b := b) hK hI.hN.1 (by omega)
  refine yV0r [_, _, _, _, _, _, _, _, _, _, _, _, _, _, _, _, _, _, _, _, _, _, _] [_, _, _, _, _, _, _, _, _, _, _, _, _, _, _, _, _, _, _, _, _, _, _, _, _] C hM v_X8_busiest vv_X8_busiest s_RL_231 eL_law_1456 (fun _ _ h => WF_pick [14, 15, 0, 1, 2, 3, 4, 5, 6, 7, 8, 9, 10, 11, 12, 13, 16, 17, 18, 19, 20, 21, 22, 23, 24] rfl rfl h) (rcv 14 rfl) rfl (nle rfl) (nle rfl) (by omega) (by omega) rfl ?_
  refine x_icmp_same 2791 C eL_law_1459 rfl ?_
  refine x_pick [_, _, _, _, _, _, _, _, _, _, _, _, _, _, _, _, _, _, _, _, _, _, _, _, _] [2, 3, 4, 5, 6, 7, 8, 9, 10, 11, 12, 13, 14, 15, 0, 1, 16, 17, 18, 19, 20, 21, 22, 23, 24] rfl rfl ?_
  exact x_wide (by omega) (by omega) (K9 (hI.qI (by omega) (up_n (by decide)) (up_n (by decide)) (up_n (by decide)) (up_n (by decide)) (up_n (by decide)) (up_n (by decide))))

