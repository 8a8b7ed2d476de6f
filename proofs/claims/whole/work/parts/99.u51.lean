/-! The law, case by case: questions. -/
set_option maxHeartbeats 4000000 in
set_option maxRecDepth 100000 in
theorem lc_6_0 {G : Gm} {X : Cx} {l : Launch} {x : LFx} {k nn : Nat} {i b : Int} {J : Nat → Int} {M : Pool} {n : Net} {N K : Nat → Net} {Fu Fb : Nat → Int} {w : List Int} {z : Int} {I TL TB : Nat → Int} {N9 : Nat → Net} {f : Nat → Int64} {fD : Nat → UInt64} {a1 : Int} (H : LKn G l x) {nmL : String} (hC : OKc G X l RL nmL cL_law 9 (some .boolean) 1400 600000 6200000) (hI : INV b J M n N K Fu Fb w z I) (hb : b ≤ 15000000) (hk : k + 100 ≤ 600000) (hn : nn + 2200 ≤ 6200000) (hi : 0 ≤ i ∧ i + 6 ≤ (x.L : Int)) (ha1 : (x.xs (i + 1).toNat).toInt = a1) (hw : 0 ≤ a1 ∧ a1 ≤ 10) (K9 : LCont G X x (b + 8000) (k + 100) (nn + 2200) i) : WX G X k nn (LAT G x J M n N K Fu Fb w z I TL TB N9 f fD) 448 (LLV x i) [] := by
  have C := hC
  have hK : KG G := H.hX.1.1.1
  have hH := hI.hN.1.1
  unfold HeadOk at hH
  have r1 : -2147483648 ≤ a1 ∧ a1 < 2147483648 := by rw [← ha1]; exact bI_toInt _
  refine x_aload_n C eL_law_448 rfl ?_
  refine x_argA C H.hx H.hbl H.hL eL_law_449 eL_law_450 eL_law_452 eL_law_453 eL_law_454 rfl rfl (by omega) ha1 ?_
  refine x_aload_n C eL_law_455 rfl ?_
  refine x_callSW (As := [_, _, _]) [_, _, _, _, _, _, _, _, _, _, _, _, _, _, _, _, _, _, _] C (wn_property hK (s_X7_property hK hI.hN.1 (by omega) (by omega)) (rcv 0 rfl)) cw_property s_RL_168 eL_law_456 rfl (fun _ _ h => WF_pick [0, 1, 2, 3, 4, 23, 5, 6, 7, 8, 9, 10, 11, 12, 13, 14, 15, 16, 17, 18, 19, 20, 21, 22, 24] rfl rfl h) rfl (nle rfl) (nle rfl) (by omega) (by omega) (fun _ _ => ?_)
  refine x_pick [_, _, _, _, _, _, _, _, _, _, _, _, _, _, _, _, _, _, _, _, _, _, _, _, _] [0, 1, 2, 3, 4, 5, 6, 7, 8, 9, 10, 11, 12, 13, 14, 15, 16, 17, 18, 19, 20, 21, 22, 23, 24] rfl rfl ?_
  refine x_istore [_, _, _, _, _, _, _, _, _] C eL_law_459 rfl rfl (nlt rfl) ?_
  refine x_aload_n C eL_law_461 rfl ?_
  refine x_argA C H.hx H.hbl H.hL eL_law_462 eL_law_463 eL_law_465 eL_law_466 eL_law_467 rfl rfl (by omega) ha1 ?_
  have c1 : 0 ≤ a1 ∧ a1 ≤ 10 := by first | trivial | omega | (simp only [if_true, if_false]; omega)
  have c2 : True := by first | trivial | omega | (simp only [if_true, if_false]; omega)
  have c3 : True := by first | trivial | omega | (simp only [if_true, if_false]; omega)
  have hM := s_X8_property (G := G) (l := l) (o := x.o) (A := x.A) (I := I) (N := N9) (n := n) (b := b) (w9 := a1) hK hI.hN.1 (by omega) (by omega)
  simp only [if_pos (show (0 ≤ a1 ∧ a1 ≤ 10) ∧ (True) ∧ (True) from ⟨c1, c2, c3⟩), thr_0 c1 c2 c3] at hM
  refine yV1r [_, _, _, _, _, _, _, _, _, _, _, _, _, _, _, _, _, _, _, _, _, _, _] [_, _, _, _, _, _, _, _, _, _, _, _, _, _, _, _, _, _, _, _, _, _, _, _, _] C hM v_X8_property vv_X8_property s_RL_171 eL_law_468 (fun _ _ h => WF_pick [15, 16, 0, 1, 2, 3, 4, 5, 6, 7, 8, 9, 10, 11, 12, 13, 14, 17, 18, 19, 20, 21, 22, 23, 24] rfl rfl h) (rcv 15 rfl) rfl (nle rfl) (nle rfl) (by omega) (by omega) rfl ?_
  refine x_istore [_, _, _, _, _, _, _, _, _] C eL_law_471 rfl rfl (nlt rfl) ?_
  refine x_aload_n C eL_law_473 rfl ?_
  refine yV0r [_, _, _, _, _, _, _, _, _, _, _, _, _, _, _, _, _, _, _, _, _, _, _, _] [_, _, _, _, _, _, _, _, _, _, _, _, _, _, _, _, _, _, _, _, _, _, _, _, _] C (s_X8_thrown hK) v_X8_thrown vv_X8_thrown s_RL_145 eL_law_474 (fun _ _ h => WF_pick [0, 1, 2, 3, 4, 5, 6, 7, 8, 9, 10, 11, 12, 13, 14, 15, 16, 17, 18, 19, 20, 21, 22, 23, 24] rfl rfl h) (rcv 0 rfl) rfl (nle rfl) (nle rfl) (by omega) (by omega) rfl ?_
  refine x_iload C eL_law_477 rfl ?_
  refine x_icmp_val (by first | exact up_s _ _ _ | exact (up_n (by decide)).trans (up_s _ _ _)) 484 C eL_law_479 rfl ?_
  refine x_iload C eL_law_484 rfl ?_
  refine x_if_ne 501 C eL_law_486 rfl (by omega) (fun h => absurd rfl h) (fun _ => ?_)
  refine x_aload_n C eL_law_489 rfl ?_
  refine x_iconst C eL_law_490 ?_
  refine x_lald (N := 1) 7 C eL_law_491 rfl (by decide) (by omega) ?_
  refine x_iload C eL_law_492 rfl ?_
  refine x_i2lR C eL_law_494 ?_
  refine x_lcmp_same 501 (by first | exact if_pos rfl | (rw [if_pos rfl]; rfl) | decide) C eL_law_495 eL_law_496 rfl ?_
  refine x_goto (pc' := 2791) C eL_law_501 rfl ?_
  refine x_pick [_, _, _, _, _, _, _, _, _, _, _, _, _, _, _, _, _, _, _, _, _, _, _, _, _] [2, 3, 4, 5, 6, 8, 9, 10, 11, 12, 13, 14, 15, 16, 0, 1, 17, 18, 19, 20, 21, 22, 23, 7, 24] rfl rfl ?_
  refine x_lv [_, _, _, _, _, _, none, none, _] rfl (lx_drop _ [6, 7] rfl) ?_
  exact x_wide (by omega) (by omega) (K9 (hI.qI (by omega) (up_n (by decide)) (up_n (by decide)) (up_n (by decide)) (up_n (by decide)) (up_n (by decide)) (up_n (by decide))))

set_option maxHeartbeats 4000000 in
set_option maxRecDepth 100000 in
theorem lc_6_1 {G : Gm} {X : Cx} {l : Launch} {x : LFx} {k nn : Nat} {i b : Int} {J : Nat → Int} {M : Pool} {n : Net} {N K : Nat → Net} {Fu Fb : Nat → Int} {w : List Int} {z : Int} {I TL TB : Nat → Int} {N9 : Nat → Net} {f : Nat → Int64} {fD : Nat → UInt64} {a1 : Int} (H : LKn G l x) {nmL : String} (hC : OKc G X l RL nmL cL_law 9 (some .boolean) 1400 600000 6200000) (hI : INV b J M n N K Fu Fb w z I) (hb : b ≤ 15000000) (hk : k + 100 ≤ 600000) (hn : nn + 2200 ≤ 6200000) (hi : 0 ≤ i ∧ i + 6 ≤ (x.L : Int)) (ha1 : (x.xs (i + 1).toNat).toInt = a1) (hw : ¬ (0 ≤ a1 ∧ a1 ≤ 10)) (K9 : LCont G X x (b + 8000) (k + 100) (nn + 2200) i) : WX G X k nn (LAT G x J M n N K Fu Fb w z I TL TB N9 f fD) 448 (LLV x i) [] := by
  have C := hC
  have hK : KG G := H.hX.1.1.1
  have hH := hI.hN.1.1
  unfold HeadOk at hH
  have r1 : -2147483648 ≤ a1 ∧ a1 < 2147483648 := by rw [← ha1]; exact bI_toInt _
  refine x_aload_n C eL_law_448 rfl ?_
  refine x_argA C H.hx H.hbl H.hL eL_law_449 eL_law_450 eL_law_452 eL_law_453 eL_law_454 rfl rfl (by omega) ha1 ?_
  refine x_aload_n C eL_law_455 rfl ?_
  refine x_callSW (As := [_, _, _]) [_, _, _, _, _, _, _, _, _, _, _, _, _, _, _, _, _, _, _, _, _, _, _] C (wx_property_1 hK (t_X7_property_10 H.hX H.hT0 (by omega) (by omega)) (xwd_c (i := 1) H.hX rfl) (rcv 0 rfl)) cw_property s_RL_168 eL_law_456 rfl (fun _ _ h => WF_pick [0, 23, 1, 2, 3, 4, 5, 6, 7, 8, 9, 10, 11, 12, 13, 14, 15, 16, 17, 18, 19, 20, 21, 22, 24] rfl rfl h) rfl (nle rfl) (nle rfl) (by omega) (by omega) (fun _ _ => ?_)
  refine x_pick [_, _, _, _, _, _, _, _, _, _, _, _, _, _, _, _, _, _, _, _, _, _, _, _, _] [0, 1, 2, 3, 4, 5, 6, 7, 8, 9, 10, 11, 12, 13, 14, 15, 16, 17, 18, 19, 20, 21, 22, 23, 24] rfl rfl ?_
  refine x_istore [_, _, _, _, _, _, _, _, _] C eL_law_459 rfl rfl (nlt rfl) ?_
  refine x_aload_n C eL_law_461 rfl ?_
  refine x_argA C H.hx H.hbl H.hL eL_law_462 eL_law_463 eL_law_465 eL_law_466 eL_law_467 rfl rfl (by omega) ha1 ?_
  have c1 : ¬ (0 ≤ a1 ∧ a1 ≤ 10) := by first | omega | (simp only [if_true, if_false]; omega)
  have hM := s_X8_property (G := G) (l := l) (o := x.o) (A := x.A) (I := I) (N := N9) (n := n) (b := b) (w9 := a1) hK hI.hN.1 (by omega) (by omega)
  simp only [if_neg (show ¬ ((0 ≤ a1 ∧ a1 ≤ 10) ∧ (True) ∧ (True)) from fun q => c1 q.1), thr_1 c1] at hM
  refine yV1r [_, _, _, _, _, _, _, _, _, _, _, _, _, _, _, _, _, _, _, _, _, _, _] [_, _, _, _, _, _, _, _, _, _, _, _, _, _, _, _, _, _, _, _, _, _, _, _, _] C hM v_X8_property vv_X8_property s_RL_171 eL_law_468 (fun _ _ h => WF_pick [15, 16, 0, 1, 2, 3, 4, 5, 6, 7, 8, 9, 10, 11, 12, 13, 14, 17, 18, 19, 20, 21, 22, 23, 24] rfl rfl h) (rcv 15 rfl) rfl (nle rfl) (nle rfl) (by omega) (by omega) rfl ?_
  refine x_istore [_, _, _, _, _, _, _, _, _] C eL_law_471 rfl rfl (nlt rfl) ?_
  refine x_aload_n C eL_law_473 rfl ?_
  refine yV0r [_, _, _, _, _, _, _, _, _, _, _, _, _, _, _, _, _, _, _, _, _, _, _, _] [_, _, _, _, _, _, _, _, _, _, _, _, _, _, _, _, _, _, _, _, _, _, _, _, _] C (s_X8_thrown hK) v_X8_thrown vv_X8_thrown s_RL_145 eL_law_474 (fun _ _ h => WF_pick [0, 1, 2, 3, 4, 5, 6, 7, 8, 9, 10, 11, 12, 13, 14, 15, 16, 17, 18, 19, 20, 21, 22, 23, 24] rfl rfl h) (rcv 0 rfl) rfl (nle rfl) (nle rfl) (by omega) (by omega) rfl ?_
  refine x_iload C eL_law_477 rfl ?_
  refine x_icmp_val (by first | exact up_s _ _ _ | exact (up_n (by decide)).trans (up_s _ _ _)) 484 C eL_law_479 rfl ?_
  refine x_iload C eL_law_484 rfl ?_
  refine x_if_ne 501 C eL_law_486 rfl (by omega) (fun _ => ?_) (fun h => absurd h (by decide))
  refine x_goto (pc' := 2791) C eL_law_501 rfl ?_
  refine x_pick [_, _, _, _, _, _, _, _, _, _, _, _, _, _, _, _, _, _, _, _, _, _, _, _, _] [2, 4, 5, 6, 7, 8, 9, 10, 11, 12, 13, 14, 15, 16, 0, 1, 17, 18, 19, 20, 21, 22, 23, 3, 24] rfl rfl ?_
  refine x_lv [_, _, _, _, _, _, none, none, _] rfl (lx_drop _ [6, 7] rfl) ?_
  exact x_wide (by omega) (by omega) (K9 (hI.qI (by omega) (up_n (by decide)) (up_n (by decide)) (up_n (by decide)) (up_n (by decide)) (up_n (by decide)) (up_n (by decide))))

set_option maxHeartbeats 4000000 in
set_option maxRecDepth 100000 in
theorem lc_7_0 {G : Gm} {X : Cx} {l : Launch} {x : LFx} {k nn : Nat} {i b : Int} {J : Nat → Int} {M : Pool} {n : Net} {N K : Nat → Net} {Fu Fb : Nat → Int} {w : List Int} {z : Int} {I TL TB : Nat → Int} {N9 : Nat → Net} {f : Nat → Int64} {fD : Nat → UInt64} {a1 a2 : Int} (H : LKn G l x) {nmL : String} (hC : OKc G X l RL nmL cL_law 9 (some .boolean) 1400 600000 6200000) (hI : INV b J M n N K Fu Fb w z I) (hb : b ≤ 15000000) (hk : k + 100 ≤ 600000) (hn : nn + 2200 ≤ 6200000) (hi : 0 ≤ i ∧ i + 6 ≤ (x.L : Int)) (ha1 : (x.xs (i + 1).toNat).toInt = a1) (ha2 : (x.xs (i + 2).toNat).toInt = a2) (hl : 0 ≤ a1 ∧ a1 < n (-1) 0) (hw : 0 ≤ a2 ∧ a2 ≤ 10) (K9 : LCont G X x (b + 8000) (k + 100) (nn + 2200) i) : WX G X k nn (LAT G x J M n N K Fu Fb w z I TL TB N9 f fD) 504 (LLV x i) [] := by
  have C := hC
  have hK : KG G := H.hX.1.1.1
  have hH := hI.hN.1.1
  unfold HeadOk at hH
  have r1 : -2147483648 ≤ a1 ∧ a1 < 2147483648 := by rw [← ha1]; exact bI_toInt _
  have r2 : -2147483648 ≤ a2 ∧ a2 < 2147483648 := by rw [← ha2]; exact bI_toInt _
  refine x_aload_n C eL_law_504 rfl ?_
  refine x_argA C H.hx H.hbl H.hL eL_law_505 eL_law_506 eL_law_508 eL_law_509 eL_law_510 rfl rfl (by omega) ha1 ?_
  refine x_argA C H.hx H.hbl H.hL eL_law_511 eL_law_512 eL_law_514 eL_law_515 eL_law_516 rfl rfl (by omega) ha2 ?_
  refine x_aload_n C eL_law_517 rfl ?_
  refine x_callSW (As := [_, _, _, _]) [_, _, _, _, _, _, _, _, _, _, _, _, _, _, _, _, _, _, _] C (wn_line hK (s_X7_line hK hI.hN.1 (by omega) (by omega) (by omega)) (rcv 0 rfl)) cw_line s_RL_172 eL_law_518 rfl (fun _ _ h => WF_pick [0, 1, 2, 3, 4, 23, 5, 6, 7, 8, 9, 10, 11, 12, 13, 14, 15, 16, 17, 18, 19, 20, 21, 22, 24] rfl rfl h) rfl (nle rfl) (nle rfl) (by omega) (by omega) (fun _ _ => ?_)
  refine x_pick [_, _, _, _, _, _, _, _, _, _, _, _, _, _, _, _, _, _, _, _, _, _, _, _, _] [0, 1, 2, 3, 4, 5, 6, 7, 8, 9, 10, 11, 12, 13, 14, 15, 16, 17, 18, 19, 20, 21, 22, 23, 24] rfl rfl ?_
  refine x_istore [_, _, _, _, _, _, _, _, _] C eL_law_521 rfl rfl (nlt rfl) ?_
  refine x_aload_n C eL_law_523 rfl ?_
  refine x_argA C H.hx H.hbl H.hL eL_law_524 eL_law_525 eL_law_527 eL_law_528 eL_law_529 rfl rfl (by omega) ha1 ?_
  refine x_argA C H.hx H.hbl H.hL eL_law_530 eL_law_531 eL_law_533 eL_law_534 eL_law_535 rfl rfl (by omega) ha2 ?_
  have c1 : 0 ≤ a1 ∧ a1 ≤ n (-1) 0 - 1 := by first | trivial | omega | (simp only [if_true, if_false]; omega)
  have c2 : 0 ≤ a2 ∧ a2 ≤ 10 := by first | trivial | omega | (simp only [if_true, if_false]; omega)
  have c3 : True := by first | trivial | omega | (simp only [if_true, if_false]; omega)
  have hM := s_X8_line (G := G) (l := l) (o := x.o) (A := x.A) (I := I) (N := N9) (n := n) (b := b) (l9 := a1) (w9 := a2) hK hI.hN.1 (by omega) (by omega) (by omega)
  simp only [if_pos (show (0 ≤ a1 ∧ a1 ≤ n (-1) 0 - 1) ∧ (0 ≤ a2 ∧ a2 ≤ 10) ∧ (True) from ⟨c1, c2, c3⟩), thr_0 c1 c2 c3] at hM
  refine yV2r [_, _, _, _, _, _, _, _, _, _, _, _, _, _, _, _, _, _, _, _, _, _, _] [_, _, _, _, _, _, _, _, _, _, _, _, _, _, _, _, _, _, _, _, _, _, _, _, _] C hM v_X8_line vv_X8_line s_RL_175 eL_law_536 (fun _ _ h => WF_pick [15, 16, 0, 1, 2, 3, 4, 5, 6, 7, 8, 9, 10, 11, 12, 13, 14, 17, 18, 19, 20, 21, 22, 23, 24] rfl rfl h) (rcv 15 rfl) rfl (nle rfl) (nle rfl) (by omega) (by omega) rfl ?_
  refine x_istore [_, _, _, _, _, _, _, _, _] C eL_law_539 rfl rfl (nlt rfl) ?_
  refine x_aload_n C eL_law_541 rfl ?_
  refine yV0r [_, _, _, _, _, _, _, _, _, _, _, _, _, _, _, _, _, _, _, _, _, _, _, _] [_, _, _, _, _, _, _, _, _, _, _, _, _, _, _, _, _, _, _, _, _, _, _, _, _] C (s_X8_thrown hK) v_X8_thrown vv_X8_thrown s_RL_145 eL_law_542 (fun _ _ h => WF_pick [0, 1, 2, 3, 4, 5, 6, 7, 8, 9, 10, 11, 12, 13, 14, 15, 16, 17, 18, 19, 20, 21, 22, 23, 24] rfl rfl h) (rcv 0 rfl) rfl (nle rfl) (nle rfl) (by omega) (by omega) rfl ?_
  refine x_iload C eL_law_545 rfl ?_
  refine x_icmp_val (by first | exact up_s _ _ _ | exact (up_n (by decide)).trans (up_s _ _ _)) 552 C eL_law_547 rfl ?_
  refine x_iload C eL_law_552 rfl ?_
  refine x_if_ne 569 C eL_law_554 rfl (by omega) (fun h => absurd rfl h) (fun _ => ?_)
  refine x_aload_n C eL_law_557 rfl ?_
  refine x_iconst C eL_law_558 ?_
  refine x_lald (N := 1) 7 C eL_law_559 rfl (by decide) (by omega) ?_
  refine x_iload C eL_law_560 rfl ?_
  refine x_i2lR C eL_law_562 ?_
  refine x_lcmp_same 569 (by first | exact if_pos rfl | (rw [if_pos rfl]; rfl) | decide) C eL_law_563 eL_law_564 rfl ?_
  refine x_goto (pc' := 2791) C eL_law_569 rfl ?_
  refine x_pick [_, _, _, _, _, _, _, _, _, _, _, _, _, _, _, _, _, _, _, _, _, _, _, _, _] [2, 3, 4, 5, 6, 8, 9, 10, 11, 12, 13, 14, 15, 16, 0, 1, 17, 18, 19, 20, 21, 22, 23, 7, 24] rfl rfl ?_
  refine x_lv [_, _, _, _, _, _, none, none, _] rfl (lx_drop _ [6, 7] rfl) ?_
  exact x_wide (by omega) (by omega) (K9 (hI.qI (by omega) (up_n (by decide)) (up_n (by decide)) (up_n (by decide)) (up_n (by decide)) (up_n (by decide)) (up_n (by decide))))

set_option maxHeartbeats 4000000 in
set_option maxRecDepth 100000 in
theorem lc_7_1 {G : Gm} {X : Cx} {l : Launch} {x : LFx} {k nn : Nat} {i b : Int} {J : Nat → Int} {M : Pool} {n : Net} {N K : Nat → Net} {Fu Fb : Nat → Int} {w : List Int} {z : Int} {I TL TB : Nat → Int} {N9 : Nat → Net} {f : Nat → Int64} {fD : Nat → UInt64} {a1 a2 : Int} (H : LKn G l x) {nmL : String} (hC : OKc G X l RL nmL cL_law 9 (some .boolean) 1400 600000 6200000) (hI : INV b J M n N K Fu Fb w z I) (hb : b ≤ 15000000) (hk : k + 100 ≤ 600000) (hn : nn + 2200 ≤ 6200000) (hi : 0 ≤ i ∧ i + 6 ≤ (x.L : Int)) (ha1 : (x.xs (i + 1).toNat).toInt = a1) (ha2 : (x.xs (i + 2).toNat).toInt = a2) (hl : ¬ (0 ≤ a1 ∧ a1 < n (-1) 0)) (K9 : LCont G X x (b + 8000) (k + 100) (nn + 2200) i) : WX G X k nn (LAT G x J M n N K Fu Fb w z I TL TB N9 f fD) 504 (LLV x i) [] := by
  have C := hC
  have hK : KG G := H.hX.1.1.1
  have hH := hI.hN.1.1
  unfold HeadOk at hH
  have r1 : -2147483648 ≤ a1 ∧ a1 < 2147483648 := by rw [← ha1]; exact bI_toInt _
  have r2 : -2147483648 ≤ a2 ∧ a2 < 2147483648 := by rw [← ha2]; exact bI_toInt _
  refine x_aload_n C eL_law_504 rfl ?_
  refine x_argA C H.hx H.hbl H.hL eL_law_505 eL_law_506 eL_law_508 eL_law_509 eL_law_510 rfl rfl (by omega) ha1 ?_
  refine x_argA C H.hx H.hbl H.hL eL_law_511 eL_law_512 eL_law_514 eL_law_515 eL_law_516 rfl rfl (by omega) ha2 ?_
  refine x_aload_n C eL_law_517 rfl ?_
  refine x_callSW (As := [_, _, _, _]) [_, _, _, _, _, _, _, _, _, _, _, _, _, _, _, _, _, _, _, _, _, _] C (wx_line_1 hK (t_X7_line_2 H.hX H.hT0 (by omega) (by omega) (by omega)) (xwd_c (i := 0) H.hX rfl) (rcv 0 rfl)) cw_line s_RL_172 eL_law_518 rfl (fun _ _ h => WF_pick [0, 1, 23, 2, 3, 4, 5, 6, 7, 8, 9, 10, 11, 12, 13, 14, 15, 16, 17, 18, 19, 20, 21, 22, 24] rfl rfl h) rfl (nle rfl) (nle rfl) (by omega) (by omega) (fun _ _ => ?_)
  refine x_pick [_, _, _, _, _, _, _, _, _, _, _, _, _, _, _, _, _, _, _, _, _, _, _, _, _] [0, 1, 2, 3, 4, 5, 6, 7, 8, 9, 10, 11, 12, 13, 14, 15, 16, 17, 18, 19, 20, 21, 22, 23, 24] rfl rfl ?_
  refine x_istore [_, _, _, _, _, _, _, _, _] C eL_law_521 rfl rfl (nlt rfl) ?_
  refine x_aload_n C eL_law_523 rfl ?_
  refine x_argA C H.hx H.hbl H.hL eL_law_524 eL_law_525 eL_law_527 eL_law_528 eL_law_529 rfl rfl (by omega) ha1 ?_
  refine x_argA C H.hx H.hbl H.hL eL_law_530 eL_law_531 eL_law_533 eL_law_534 eL_law_535 rfl rfl (by omega) ha2 ?_
  have c1 : ¬ (0 ≤ a1 ∧ a1 ≤ n (-1) 0 - 1) := by first | omega | (simp only [if_true, if_false]; omega)
  have hM := s_X8_line (G := G) (l := l) (o := x.o) (A := x.A) (I := I) (N := N9) (n := n) (b := b) (l9 := a1) (w9 := a2) hK hI.hN.1 (by omega) (by omega) (by omega)
  simp only [if_neg (show ¬ ((0 ≤ a1 ∧ a1 ≤ n (-1) 0 - 1) ∧ (0 ≤ a2 ∧ a2 ≤ 10) ∧ (True)) from fun q => c1 q.1), thr_1 c1] at hM
  refine yV2r [_, _, _, _, _, _, _, _, _, _, _, _, _, _, _, _, _, _, _, _, _, _, _] [_, _, _, _, _, _, _, _, _, _, _, _, _, _, _, _, _, _, _, _, _, _, _, _, _] C hM v_X8_line vv_X8_line s_RL_175 eL_law_536 (fun _ _ h => WF_pick [15, 16, 0, 1, 2, 3, 4, 5, 6, 7, 8, 9, 10, 11, 12, 13, 14, 17, 18, 19, 20, 21, 22, 23, 24] rfl rfl h) (rcv 15 rfl) rfl (nle rfl) (nle rfl) (by omega) (by omega) rfl ?_
  refine x_istore [_, _, _, _, _, _, _, _, _] C eL_law_539 rfl rfl (nlt rfl) ?_
  refine x_aload_n C eL_law_541 rfl ?_
  refine yV0r [_, _, _, _, _, _, _, _, _, _, _, _, _, _, _, _, _, _, _, _, _, _, _, _] [_, _, _, _, _, _, _, _, _, _, _, _, _, _, _, _, _, _, _, _, _, _, _, _, _] C (s_X8_thrown hK) v_X8_thrown vv_X8_thrown s_RL_145 eL_law_542 (fun _ _ h => WF_pick [0, 1, 2, 3, 4, 5, 6, 7, 8, 9, 10, 11, 12, 13, 14, 15, 16, 17, 18, 19, 20, 21, 22, 23, 24] rfl rfl h) (rcv 0 rfl) rfl (nle rfl) (nle rfl) (by omega) (by omega) rfl ?_
  refine x_iload C eL_law_545 rfl ?_
  refine x_icmp_val (by first | exact up_s _ _ _ | exact (up_n (by decide)).trans (up_s _ _ _)) 552 C eL_law_547 rfl ?_
  refine x_iload C eL_law_552 rfl ?_
  refine x_if_ne 569 C eL_law_554 rfl (by omega) (fun _ => ?_) (fun h => absurd h (by decide))
  refine x_goto (pc' := 2791) C eL_law_569 rfl ?_
  refine x_pick [_, _, _, _, _, _, _, _, _, _, _, _, _, _, _, _, _, _, _, _, _, _, _, _, _] [2, 3, 5, 6, 7, 8, 9, 10, 11, 12, 13, 14, 15, 16, 0, 1, 17, 18, 19, 20, 21, 22, 23, 4, 24] rfl rfl ?_
  refine x_lv [_, _, _, _, _, _, none, none, _] rfl (lx_drop _ [6, 7] rfl) ?_
  exact x_wide (by omega) (by omega) (K9 (hI.qI (by omega) (up_n (by decide)) (up_n (by decide)) (up_n (by decide)) (up_n (by decide)) (up_n (by decide)) (up_n (by decide))))

set_option maxHeartbeats 4000000 in
set_option maxRecDepth 100000 in
theorem lc_7_2 {G : Gm} {X : Cx} {l : Launch} {x : LFx} {k nn : Nat} {i b : Int} {J : Nat → Int} {M : Pool} {n : Net} {N K : Nat → Net} {Fu Fb : Nat → Int} {w : List Int} {z : Int} {I TL TB : Nat → Int} {N9 : Nat → Net} {f : Nat → Int64} {fD : Nat → UInt64} {a1 a2 : Int} (H : LKn G l x) {nmL : String} (hC : OKc G X l RL nmL cL_law 9 (some .boolean) 1400 600000 6200000) (hI : INV b J M n N K Fu Fb w z I) (hb : b ≤ 15000000) (hk : k + 100 ≤ 600000) (hn : nn + 2200 ≤ 6200000) (hi : 0 ≤ i ∧ i + 6 ≤ (x.L : Int)) (ha1 : (x.xs (i + 1).toNat).toInt = a1) (ha2 : (x.xs (i + 2).toNat).toInt = a2) (hl : 0 ≤ a1 ∧ a1 < n (-1) 0) (hw : ¬ (0 ≤ a2 ∧ a2 ≤ 10)) (K9 : LCont G X x (b + 8000) (k + 100) (nn + 2200) i) : WX G X k nn (LAT G x J M n N K Fu Fb w z I TL TB N9 f fD) 504 (LLV x i) [] := by
  have C := hC
  have hK : KG G := H.hX.1.1.1
  have hH := hI.hN.1.1
  unfold HeadOk at hH
  have r1 : -2147483648 ≤ a1 ∧ a1 < 2147483648 := by rw [← ha1]; exact bI_toInt _
  have r2 : -2147483648 ≤ a2 ∧ a2 < 2147483648 := by rw [← ha2]; exact bI_toInt _
  refine x_aload_n C eL_law_504 rfl ?_
  refine x_argA C H.hx H.hbl H.hL eL_law_505 eL_law_506 eL_law_508 eL_law_509 eL_law_510 rfl rfl (by omega) ha1 ?_
  refine x_argA C H.hx H.hbl H.hL eL_law_511 eL_law_512 eL_law_514 eL_law_515 eL_law_516 rfl rfl (by omega) ha2 ?_
  refine x_aload_n C eL_law_517 rfl ?_
  refine x_callSW (As := [_, _, _, _]) [_, _, _, _, _, _, _, _, _, _, _, _, _, _, _, _, _, _, _, _, _, _] C (wx_line_2 hK (t_X7_line_15 H.hX H.hT0 (by omega) (by omega) (by omega) (by omega)) (xwd_c (i := 1) H.hX rfl) H.n1 (rcv 0 rfl)) cw_line s_RL_172 eL_law_518 rfl (fun _ _ h => WF_pick [0, 1, 23, 2, 3, 4, 5, 6, 7, 8, 9, 10, 11, 12, 13, 14, 15, 16, 17, 18, 19, 20, 21, 22, 24] rfl rfl h) rfl (nle rfl) (nle rfl) (by omega) (by omega) (fun _ _ => ?_)
  refine x_pick [_, _, _, _, _, _, _, _, _, _, _, _, _, _, _, _, _, _, _, _, _, _, _, _, _] [0, 1, 2, 3, 4, 5, 6, 7, 8, 9, 10, 11, 12, 13, 14, 15, 16, 17, 18, 19, 20, 21, 22, 23, 24] rfl rfl ?_
  refine x_istore [_, _, _, _, _, _, _, _, _] C eL_law_521 rfl rfl (nlt rfl) ?_
  refine x_aload_n C eL_law_523 rfl ?_
  refine x_argA C H.hx H.hbl H.hL eL_law_524 eL_law_525 eL_law_527 eL_law_528 eL_law_529 rfl rfl (by omega) ha1 ?_
  refine x_argA C H.hx H.hbl H.hL eL_law_530 eL_law_531 eL_law_533 eL_law_534 eL_law_535 rfl rfl (by omega) ha2 ?_
  have c1 : 0 ≤ a1 ∧ a1 ≤ n (-1) 0 - 1 := by first | trivial | omega | (simp only [if_true, if_false]; omega)
  have c2 : ¬ (0 ≤ a2 ∧ a2 ≤ 10) := by first | omega | (simp only [if_true, if_false]; omega)
  have hM := s_X8_line (G := G) (l := l) (o := x.o) (A := x.A) (I := I) (N := N9) (n := n) (b := b) (l9 := a1) (w9 := a2) hK hI.hN.1 (by omega) (by omega) (by omega)
  simp only [if_neg (show ¬ ((0 ≤ a1 ∧ a1 ≤ n (-1) 0 - 1) ∧ (0 ≤ a2 ∧ a2 ≤ 10) ∧ (True)) from fun q => c2 q.2.1), thr_2 c1 c2] at hM
  refine yV2r [_, _, _, _, _, _, _, _, _, _, _, _, _, _, _, _, _, _, _, _, _, _, _] [_, _, _, _, _, _, _, _, _, _, _, _, _, _, _, _, _, _, _, _, _, _, _, _, _] C hM v_X8_line vv_X8_line s_RL_175 eL_law_536 (fun _ _ h => WF_pick [15, 16, 0, 1, 2, 3, 4, 5, 6, 7, 8, 9, 10, 11, 12, 13, 14, 17, 18, 19, 20, 21, 22, 23, 24] rfl rfl h) (rcv 15 rfl) rfl (nle rfl) (nle rfl) (by omega) (by omega) rfl ?_
  refine x_istore [_, _, _, _, _, _, _, _, _] C eL_law_539 rfl rfl (nlt rfl) ?_
  refine x_aload_n C eL_law_541 rfl ?_
  refine yV0r [_, _, _, _, _, _, _, _, _, _, _, _, _, _, _, _, _, _, _, _, _, _, _, _] [_, _, _, _, _, _, _, _, _, _, _, _, _, _, _, _, _, _, _, _, _, _, _, _, _] C (s_X8_thrown hK) v_X8_thrown vv_X8_thrown s_RL_145 eL_law_542 (fun _ _ h => WF_pick [0, 1, 2, 3, 4, 5, 6, 7, 8, 9, 10, 11, 12, 13, 14, 15, 16, 17, 18, 19, 20, 21, 22, 23, 24] rfl rfl h) (rcv 0 rfl) rfl (nle rfl) (nle rfl) (by omega) (by omega) rfl ?_
  refine x_iload C eL_law_545 rfl ?_
  refine x_icmp_val (by first | exact up_s _ _ _ | exact (up_n (by decide)).trans (up_s _ _ _)) 552 C eL_law_547 rfl ?_
  refine x_iload C eL_law_552 rfl ?_
  refine x_if_ne 569 C eL_law_554 rfl (by omega) (fun _ => ?_) (fun h => absurd h (by decide))
  refine x_goto (pc' := 2791) C eL_law_569 rfl ?_
  refine x_pick [_, _, _, _, _, _, _, _, _, _, _, _, _, _, _, _, _, _, _, _, _, _, _, _, _] [2, 3, 5, 6, 7, 8, 9, 10, 11, 12, 13, 14, 15, 16, 0, 1, 17, 18, 19, 20, 21, 22, 23, 4, 24] rfl rfl ?_
  refine x_lv [_, _, _, _, _, _, none, none, _] rfl (lx_drop _ [6, 7] rfl) ?_
  exact x_wide (by omega) (by omega) (K9 (hI.qI (by omega) (up_n (by decide)) (up_n (by decide)) (up_n (by decide)) (up_n (by decide)) (up_n (by decide)) (up_n (by decide))))

set_option maxHeartbeats 4000000 in
set_option maxRecDepth 100000 in
theorem lc_8_0 {G : Gm} {X : Cx} {l : Launch} {x : LFx} {k nn : Nat} {i b : Int} {J : Nat → Int} {M : Pool} {n : Net} {N K : Nat → Net} {Fu Fb : Nat → Int} {w : List Int} {z : Int} {I TL TB : Nat → Int} {N9 : Nat → Net} {f : Nat → Int64} {fD : Nat → UInt64} {a1 a2 : Int} (H : LKn G l x) {nmL : String} (hC : OKc G X l RL nmL cL_law 9 (some .boolean) 1400 600000 6200000) (hI : INV b J M n N K Fu Fb w z I) (hb : b ≤ 15000000) (hk : k + 100 ≤ 600000) (hn : nn + 2200 ≤ 6200000) (hi : 0 ≤ i ∧ i + 6 ≤ (x.L : Int)) (ha1 : (x.xs (i + 1).toNat).toInt = a1) (ha2 : (x.xs (i + 2).toNat).toInt = a2) (hl : 0 ≤ a1 ∧ a1 < n (-1) 0) (hw : 0 ≤ a2 ∧ a2 < 12) (K9 : LCont G X x (b + 8000) (k + 100) (nn + 2200) i) : WX G X k nn (LAT G x J M n N K Fu Fb w z I TL TB N9 f fD) 572 (LLV x i) [] := by
  have C := hC
  have hK : KG G := H.hX.1.1.1
  have hH := hI.hN.1.1
  unfold HeadOk at hH
  have r1 : -2147483648 ≤ a1 ∧ a1 < 2147483648 := by rw [← ha1]; exact bI_toInt _
  have r2 : -2147483648 ≤ a2 ∧ a2 < 2147483648 := by rw [← ha2]; exact bI_toInt _
  refine x_aload_n C eL_law_572 rfl ?_
  refine x_argA C H.hx H.hbl H.hL eL_law_573 eL_law_574 eL_law_576 eL_law_577 eL_law_578 rfl rfl (by omega) ha1 ?_
  refine x_argA C H.hx H.hbl H.hL eL_law_579 eL_law_580 eL_law_582 eL_law_583 eL_law_584 rfl rfl (by omega) ha2 ?_
  refine x_aload_n C eL_law_585 rfl ?_
  refine x_callSW (As := [_, _, _, _]) [_, _, _, _, _, _, _, _, _, _, _, _, _, _, _, _, _, _, _] C (wn_count hK (s_X7_count hK hI.hN.1 (by omega) (by omega) (by omega)) (rcv 0 rfl)) cw_count s_RL_176 eL_law_586 rfl (fun _ _ h => WF_pick [0, 1, 2, 3, 4, 23, 5, 6, 7, 8, 9, 10, 11, 12, 13, 14, 15, 16, 17, 18, 19, 20, 21, 22, 24] rfl rfl h) rfl (nle rfl) (nle rfl) (by omega) (by omega) (fun _ _ => ?_)
  refine x_pick [_, _, _, _, _, _, _, _, _, _, _, _, _, _, _, _, _, _, _, _, _, _, _, _, _] [0, 1, 2, 3, 4, 5, 6, 7, 8, 9, 10, 11, 12, 13, 14, 15, 16, 17, 18, 19, 20, 21, 22, 23, 24] rfl rfl ?_
  refine x_istore [_, _, _, _, _, _, _, _, _] C eL_law_589 rfl rfl (nlt rfl) ?_
  refine x_aload_n C eL_law_591 rfl ?_
  refine x_argA C H.hx H.hbl H.hL eL_law_592 eL_law_593 eL_law_595 eL_law_596 eL_law_597 rfl rfl (by omega) ha1 ?_
  refine x_argA C H.hx H.hbl H.hL eL_law_598 eL_law_599 eL_law_601 eL_law_602 eL_law_603 rfl rfl (by omega) ha2 ?_
  have c1 : 0 ≤ a1 ∧ a1 ≤ n (-1) 0 - 1 := by first | trivial | omega | (simp only [if_true, if_false]; omega)
  have c2 : 0 ≤ a2 ∧ a2 ≤ 11 := by first | trivial | omega | (simp only [if_true, if_false]; omega)
  have c3 : True := by first | trivial | omega | (simp only [if_true, if_false]; omega)
  have hM := s_X8_count (G := G) (l := l) (o := x.o) (A := x.A) (I := I) (N := N9) (n := n) (b := b) (l9 := a1) (w9 := a2) hK hI.hN.1 (by omega) (by omega) (by omega)
  simp only [if_pos (show (0 ≤ a1 ∧ a1 ≤ n (-1) 0 - 1) ∧ (0 ≤ a2 ∧ a2 ≤ 11) ∧ (True) from ⟨c1, c2, c3⟩), thr_0 c1 c2 c3] at hM
  refine yV2r [_, _, _, _, _, _, _, _, _, _, _, _, _, _, _, _, _, _, _, _, _, _, _] [_, _, _, _, _, _, _, _, _, _, _, _, _, _, _, _, _, _, _, _, _, _, _, _, _] C hM v_X8_count vv_X8_count s_RL_178 eL_law_604 (fun _ _ h => WF_pick [15, 16, 0, 1, 2, 3, 4, 5, 6, 7, 8, 9, 10, 11, 12, 13, 14, 17, 18, 19, 20, 21, 22, 23, 24] rfl rfl h) (rcv 15 rfl) rfl (nle rfl) (nle rfl) (by omega) (by omega) rfl ?_
  refine x_istore [_, _, _, _, _, _, _, _, _] C eL_law_607 rfl rfl (nlt rfl) ?_
  refine x_aload_n C eL_law_609 rfl ?_
  refine yV0r [_, _, _, _, _, _, _, _, _, _, _, _, _, _, _, _, _, _, _, _, _, _, _, _] [_, _, _, _, _, _, _, _, _, _, _, _, _, _, _, _, _, _, _, _, _, _, _, _, _] C (s_X8_thrown hK) v_X8_thrown vv_X8_thrown s_RL_145 eL_law_610 (fun _ _ h => WF_pick [0, 1, 2, 3, 4, 5, 6, 7, 8, 9, 10, 11, 12, 13, 14, 15, 16, 17, 18, 19, 20, 21, 22, 23, 24] rfl rfl h) (rcv 0 rfl) rfl (nle rfl) (nle rfl) (by omega) (by omega) rfl ?_
  refine x_iload C eL_law_613 rfl ?_
  refine x_icmp_val (by first | exact up_s _ _ _ | exact (up_n (by decide)).trans (up_s _ _ _)) 620 C eL_law_615 rfl ?_
  refine x_iload C eL_law_620 rfl ?_
  refine x_if_ne 637 C eL_law_622 rfl (by omega) (fun h => absurd rfl h) (fun _ => ?_)
  refine x_aload_n C eL_law_625 rfl ?_
  refine x_iconst C eL_law_626 ?_
  refine x_lald (N := 1) 7 C eL_law_627 rfl (by decide) (by omega) ?_
  refine x_iload C eL_law_628 rfl ?_
  refine x_i2lR C eL_law_630 ?_
  refine x_lcmp_same 637 (by first | exact if_pos rfl | (rw [if_pos rfl]; rfl) | decide) C eL_law_631 eL_law_632 rfl ?_
  refine x_goto (pc' := 2791) C eL_law_637 rfl ?_
  refine x_pick [_, _, _, _, _, _, _, _, _, _, _, _, _, _, _, _, _, _, _, _, _, _, _, _, _] [2, 3, 4, 5, 6, 8, 9, 10, 11, 12, 13, 14, 15, 16, 0, 1, 17, 18, 19, 20, 21, 22, 23, 7, 24] rfl rfl ?_
  refine x_lv [_, _, _, _, _, _, none, none, _] rfl (lx_drop _ [6, 7] rfl) ?_
  exact x_wide (by omega) (by omega) (K9 (hI.qI (by omega) (up_n (by decide)) (up_n (by decide)) (up_n (by decide)) (up_n (by decide)) (up_n (by decide)) (up_n (by decide))))

set_option maxHeartbeats 4000000 in
set_option maxRecDepth 100000 in
theorem lc_8_1 {G : Gm} {X : Cx} {l : Launch} {x : LFx} {k nn : Nat} {i b : Int} {J : Nat → Int} {M : Pool} {n : Net} {N K : Nat → Net} {Fu Fb : Nat → Int} {w : List Int} {z : Int} {I TL TB : Nat → Int} {N9 : Nat → Net} {f : Nat → Int64} {fD : Nat → UInt64} {a1 a2 : Int} (H : LKn G l x) {nmL : String} (hC : OKc G X l RL nmL cL_law 9 (some .boolean) 1400 600000 6200000) (hI : INV b J M n N K Fu Fb w z I) (hb : b ≤ 15000000) (hk : k + 100 ≤ 600000) (hn : nn + 2200 ≤ 6200000) (hi : 0 ≤ i ∧ i + 6 ≤ (x.L : Int)) (ha1 : (x.xs (i + 1).toNat).toInt = a1) (ha2 : (x.xs (i + 2).toNat).toInt = a2) (hl : ¬ (0 ≤ a1 ∧ a1 < n (-1) 0)) (K9 : LCont G X x (b + 8000) (k + 100) (nn + 2200) i) : WX G X k nn (LAT G x J M n N K Fu Fb w z I TL TB N9 f fD) 572 (LLV x i) [] := by
  have C := hC
  have hK : KG G := H.hX.1.1.1
  have hH := hI.hN.1.1
  unfold HeadOk at hH
  have r1 : -2147483648 ≤ a1 ∧ a1 < 2147483648 := by rw [← ha1]; exact bI_toInt _
  have r2 : -2147483648 ≤ a2 ∧ a2 < 2147483648 := by rw [← ha2]; exact bI_toInt _
  refine x_aload_n C eL_law_572 rfl ?_
  refine x_argA C H.hx H.hbl H.hL eL_law_573 eL_law_574 eL_law_576 eL_law_577 eL_law_578 rfl rfl (by omega) ha1 ?_
  refine x_argA C H.hx H.hbl H.hL eL_law_579 eL_law_580 eL_law_582 eL_law_583 eL_law_584 rfl rfl (by omega) ha2 ?_
  refine x_aload_n C eL_law_585 rfl ?_
  refine x_callSW (As := [_, _, _, _]) [_, _, _, _, _, _, _, _, _, _, _, _, _, _, _, _, _, _, _, _, _, _] C (wx_count_1 hK (t_X7_count_2 H.hX H.hT0 (by omega) (by omega) (by omega)) (xwd_c (i := 0) H.hX rfl) (rcv 0 rfl)) cw_count s_RL_176 eL_law_586 rfl (fun _ _ h => WF_pick [0, 1, 23, 2, 3, 4, 5, 6, 7, 8, 9, 10, 11, 12, 13, 14, 15, 16, 17, 18, 19, 20, 21, 22, 24] rfl rfl h) rfl (nle rfl) (nle rfl) (by omega) (by omega) (fun _ _ => ?_)
  refine x_pick [_, _, _, _, _, _, _, _, _, _, _, _, _, _, _, _, _, _, _, _, _, _, _, _, _] [0, 1, 2, 3, 4, 5, 6, 7, 8, 9, 10, 11, 12, 13, 14, 15, 16, 17, 18, 19, 20, 21, 22, 23, 24] rfl rfl ?_
  refine x_istore [_, _, _, _, _, _, _, _, _] C eL_law_589 rfl rfl (nlt rfl) ?_
  refine x_aload_n C eL_law_591 rfl ?_
  refine x_argA C H.hx H.hbl H.hL eL_law_592 eL_law_593 eL_law_595 eL_law_596 eL_law_597 rfl rfl (by omega) ha1 ?_
  refine x_argA C H.hx H.hbl H.hL eL_law_598 eL_law_599 eL_law_601 eL_law_602 eL_law_603 rfl rfl (by omega) ha2 ?_
  have c1 : ¬ (0 ≤ a1 ∧ a1 ≤ n (-1) 0 - 1) := by first | omega | (simp only [if_true, if_false]; omega)
  have hM := s_X8_count (G := G) (l := l) (o := x.o) (A := x.A) (I := I) (N := N9) (n := n) (b := b) (l9 := a1) (w9 := a2) hK hI.hN.1 (by omega) (by omega) (by omega)
  simp only [if_neg (show ¬ ((0 ≤ a1 ∧ a1 ≤ n (-1) 0 - 1) ∧ (0 ≤ a2 ∧ a2 ≤ 11) ∧ (True)) from fun q => c1 q.1), thr_1 c1] at hM
  refine yV2r [_, _, _, _, _, _, _, _, _, _, _, _, _, _, _, _, _, _, _, _, _, _, _] [_, _, _, _, _, _, _, _, _, _, _, _, _, _, _, _, _, _, _, _, _, _, _, _, _] C hM v_X8_count vv_X8_count s_RL_178 eL_law_604 (fun _ _ h => WF_pick [15, 16, 0, 1, 2, 3, 4, 5, 6, 7, 8, 9, 10, 11, 12, 13, 14, 17, 18, 19, 20, 21, 22, 23, 24] rfl rfl h) (rcv 15 rfl) rfl (nle rfl) (nle rfl) (by omega) (by omega) rfl ?_
  refine x_istore [_, _, _, _, _, _, _, _, _] C eL_law_607 rfl rfl (nlt rfl) ?_
  refine x_aload_n C eL_law_609 rfl ?_
  refine yV0r [_, _, _, _, _, _, _, _, _, _, _, _, _, _, _, _, _, _, _, _, _, _, _, _] [_, _, _, _, _, _, _, _, _, _, _, _, _, _, _, _, _, _, _, _, _, _, _, _, _] C (s_X8_thrown hK) v_X8_thrown vv_X8_thrown s_RL_145 eL_law_610 (fun _ _ h => WF_pick [0, 1, 2, 3, 4, 5, 6, 7, 8, 9, 10, 11, 12, 13, 14, 15, 16, 17, 18, 19, 20, 21, 22, 23, 24] rfl rfl h) (rcv 0 rfl) rfl (nle rfl) (nle rfl) (by omega) (by omega) rfl ?_
  refine x_iload C eL_law_613 rfl ?_
  refine x_icmp_val (by first | exact up_s _ _ _ | exact (up_n (by decide)).trans (up_s _ _ _)) 620 C eL_law_615 rfl ?_
  refine x_iload C eL_law_620 rfl ?_
  refine x_if_ne 637 C eL_law_622 rfl (by omega) (fun _ => ?_) (fun h => absurd h (by decide))
  refine x_goto (pc' := 2791) C eL_law_637 rfl ?_
  refine x_pick [_, _, _, _, _, _, _, _, _, _, _, _, _, _, _, _, _, _, _, _, _, _, _, _, _] [2, 3, 5, 6, 7, 8, 9, 10, 11, 12, 13, 14, 15, 16, 0, 1, 17, 18, 19, 20, 21, 22, 23, 4, 24] rfl rfl ?_
  refine x_lv [_, _, _, _, _, _, none, none, _] rfl (lx_drop _ [6, 7] rfl) ?_
  exact x_wide (by omega) (by omega) (K9 (hI.qI (by omega) (up_n (by decide)) (up_n (by decide)) (up_n (by decide)) (up_n (by decide)) (up_n (by decide)) (up_n (by decide))))

set_option maxHeartbeats 4000000 in
set_option maxRecDepth 100000 in
theorem lc_8_2 {G : Gm} {X : Cx} {l : Launch} {x : LFx} {k nn : Nat} {i b : Int} {J : Nat → Int} {M : Pool} {n : Net} {N K : Nat → Net} {Fu Fb : Nat → Int} {w : List Int} {z : Int} {I TL TB : Nat → Int} {N9 : Nat → Net} {f : Nat → Int64} {fD : Nat → UInt64} {a1 a2 : Int} (H : LKn G l x) {nmL : String} (hC : OKc G X l RL nmL cL_law 9 (some .boolean) 1400 600000 6200000) (hI : INV b J M n N K Fu Fb w z I) (hb : b ≤ 15000000) (hk : k + 100 ≤ 600000) (hn : nn + 2200 ≤ 6200000) (hi : 0 ≤ i ∧ i + 6 ≤ (x.L : Int)) (ha1 : (x.xs (i + 1).toNat).toInt = a1) (ha2 : (x.xs (i + 2).toNat).toInt = a2) (hl : 0 ≤ a1 ∧ a1 < n (-1) 0) (hw : ¬ (0 ≤ a2 ∧ a2 < 12)) (K9 : LCont G X x (b + 8000) (k + 100) (nn + 2200) i) : WX G X k nn (LAT G x J M n N K Fu Fb w z I TL TB N9 f fD) 572 (LLV x i) [] := by
  have C := hC
  have hK : KG G := H.hX.1.1.1
  have hH := hI.hN.1.1
  unfold HeadOk at hH
  have r1 : -2147483648 ≤ a1 ∧ a1 < 2147483648 := by rw [← ha1]; exact bI_toInt _
  have r2 : -2147483648 ≤ a2 ∧ a2 < 2147483648 := by rw [← ha2]; exact bI_toInt _
  refine x_aload_n C eL_law_572 rfl ?_
  refine x_argA C H.hx H.hbl H.hL eL_law_573 eL_law_574 eL_law_576 eL_law_577 eL_law_578 rfl rfl (by omega) ha1 ?_
  refine x_argA C H.hx H.hbl H.hL eL_law_579 eL_law_580 eL_law_582 eL_law_583 eL_law_584 rfl rfl (by omega) ha2 ?_
  refine x_aload_n C eL_law_585 rfl ?_
  refine x_callSW (As := [_, _, _, _]) [_, _, _, _, _, _, _, _, _, _, _, _, _, _, _, _, _, _, _, _, _, _] C (wx_count_2 hK (t_X7_count_6 H.hX H.hT0 (by omega) (by omega) (by omega) (by omega)) (xwd_c (i := 1) H.hX rfl) H.n1 (rcv 0 rfl)) cw_count s_RL_176 eL_law_586 rfl (fun _ _ h => WF_pick [0, 1, 23, 2, 3, 4, 5, 6, 7, 8, 9, 10, 11, 12, 13, 14, 15, 16, 17, 18, 19, 20, 21, 22, 24] rfl rfl h) rfl (nle rfl) (nle rfl) (by omega) (by omega) (fun _ _ => ?_)
  refine x_pick [_, _, _, _, _, _, _, _, _, _, _, _, _, _, _, _, _, _, _, _, _, _, _, _, _] [0, 1, 2, 3, 4, 5, 6, 7, 8, 9, 10, 11, 12, 13, 14, 15, 16, 17, 18, 19, 20, 21, 22, 23, 24] rfl rfl ?_
  refine x_istore [_, _, _, _, _, _, _, _, _] C eL_law_589 rfl rfl (nlt rfl) ?_
  refine x_aload_n C eL_law_591 rfl ?_
  refine x_argA C H.hx H.hbl H.hL eL_law_592 eL_law_593 eL_law_595 eL_law_596 eL_law_597 rfl rfl (by omega) ha1 ?_
  refine x_argA C H.hx H.hbl H.hL eL_law_598 eL_law_599 eL_law_601 eL_law_602 eL_law_603 rfl rfl (by omega) ha2 ?_
  have c1 : 0 ≤ a1 ∧ a1 ≤ n (-1) 0 - 1 := by first | trivial | omega | (simp only [if_true, if_false]; omega)
  have c2 : ¬ (0 ≤ a2 ∧ a2 ≤ 11) := by first | omega | (simp only [if_true, if_false]; omega)
  have hM := s_X8_count (G := G) (l := l) (o := x.o) (A := x.A) (I := I) (N := N9) (n := n) (b := b) (l9 := a1) (w9 := a2) hK hI.hN.1 (by omega) (by omega) (by omega)
  simp only [if_neg (show ¬ ((0 ≤ a1 ∧ a1 ≤ n (-1) 0 - 1) ∧ (0 ≤ a2 ∧ a2 ≤ 11) ∧ (True)) from fun q => c2 q.2.1), thr_2 c1 c2] at hM
  refine yV2r [_, _, _, _, _, _, _, _, _, _, _, _, _, _, _, _, _, _, _, _, _, _, _] [_, _, _, _, _, _, _, _, _, _, _, _, _, _, _, _, _, _, _, _, _, _, _, _, _] C hM v_X8_count vv_X8_count s_RL_178 eL_law_604 (fun _ _ h => WF_pick [15, 16, 0, 1, 2, 3, 4, 5, 6, 7, 8, 9, 10, 11, 12, 13, 14, 17, 18, 19, 20, 21, 22, 23, 24] rfl rfl h) (rcv 15 rfl) rfl (nle rfl) (nle rfl) (by omega) (by omega) rfl ?_
  refine x_istore [_, _, _, _, _, _, _, _, _] C eL_law_607 rfl rfl (nlt rfl) ?_
  refine x_aload_n C eL_law_609 rfl ?_
  refine yV0r [_, _, _, _, _, _, _, _, _, _, _, _, _, _, _, _, _, _, _, _, _, _, _, _] [_, _, _, _, _, _, _, _, _, _, _, _, _, _, _, _, _, _, _, _, _, _, _, _, _] C (s_X8_thrown hK) v_X8_thrown vv_X8_thrown s_RL_145 eL_law_610 (fun _ _ h => WF_pick [0, 1, 2, 3, 4, 5, 6, 7, 8, 9, 10, 11, 12, 13, 14, 15, 16, 17, 18, 19, 20, 21, 22, 23, 24] rfl rfl h) (rcv 0 rfl) rfl (nle rfl) (nle rfl) (by omega) (by omega) rfl ?_
  refine x_iload C eL_law_613 rfl ?_
  refine x_icmp_val (by first | exact up_s _ _ _ | exact (up_n (by decide)).trans (up_s _ _ _)) 620 C eL_law_615 rfl ?_
  refine x_iload C eL_law_620 rfl ?_
  refine x_if_ne 637 C eL_law_622 rfl (by omega) (fun _ => ?_) (fun h => absurd h (by decide))
  refine x_goto (pc' := 2791) C eL_law_637 rfl ?_
  refine x_pick [_, _, _, _, _, _, _, _, _, _, _, _, _, _, _, _, _, _, _, _, _, _, _, _, _] [2, 3, 5, 6, 7, 8, 9, 10, 11, 12, 13, 14, 15, 16, 0, 1, 17, 18, 19, 20, 21, 22, 23, 4, 24] rfl rfl ?_
  refine x_lv [_, _, _, _, _, _, none, none, _] rfl (lx_drop _ [6, 7] rfl) ?_
  exact x_wide (by omega) (by omega) (K9 (hI.qI (by omega) (up_n (by decide)) (up_n (by decide)) (up_n (by decide)) (up_n (by decide)) (up_n (by decide)) (up_n (by decide))))

set_option maxHeartbeats 4000000 in
set_option maxRecDepth 100000 in
theorem lc_10_0 {G : Gm} {X : Cx} {l : Launch} {x : LFx} {k nn : Nat} {i b : Int} {J : Nat → Int} {M : Pool} {n : Net} {N K : Nat → Net} {Fu Fb : Nat → Int} {w : List Int} {z : Int} {I TL TB : Nat → Int} {N9 : Nat → Net} {f : Nat → Int64} {fD : Nat → UInt64} {a1 : Int} (H : LKn G l x) {nmL : String} (hC : OKc G X l RL nmL cL_law 9 (some .boolean) 1400 600000 6200000) (hI : INV b J M n N K Fu Fb w z I) (hb : b ≤ 15000000) (hk : k + 100 ≤ 600000) (hn : nn + 2200 ≤ 6200000) (hi : 0 ≤ i ∧ i + 6 ≤ (x.L : Int)) (ha1 : (x.xs (i + 1).toNat).toInt = a1) (hl : 0 ≤ a1 ∧ a1 < n (-1) 0) (K9 : LCont G X x (b + 8000) (k + 100) (nn + 2200) i) : WX G X k nn (LAT G x J M n N K Fu Fb w z I TL TB N9 f fD) 736 (LLV x i) [] := by
  have C := hC
  have hK : KG G := H.hX.1.1.1
  have hH := hI.hN.1.1
  unfold HeadOk at hH
  have r1 : -2147483648 ≤ a1 ∧ a1 < 2147483648 := by rw [← ha1]; exact bI_toInt _
  refine x_aload_n C eL_law_736 rfl ?_
  refine x_argA C H.hx H.hbl H.hL eL_law_737 eL_law_738 eL_law_740 eL_law_741 eL_law_742 rfl rfl (by omega) ha1 ?_
  refine x_aload_n C eL_law_743 rfl ?_
  refine x_callSW (As := [_, _, _]) [_, _, _, _, _, _, _, _, _, _, _, _, _, _, _, _, _, _, _] C (wn_delivered hK (s_X7_delivered hK hI.hN.1 (by omega) (by omega)) (rcv 0 rfl)) cw_delivered s_RL_183 eL_law_744 rfl (fun _ _ h => WF_pick [0, 1, 2, 3, 4, 23, 5, 6, 7, 8, 9, 10, 11, 12, 13, 14, 15, 16, 17, 18, 19, 20, 21, 22, 24] rfl rfl h) rfl (nle rfl) (nle rfl) (by omega) (by omega) (fun _ _ => ?_)
  refine x_pick [_, _, _, _, _, _, _, _, _, _, _, _, _, _, _, _, _, _, _, _, _, _, _, _, _] [0, 1, 2, 3, 4, 5, 6, 7, 8, 9, 10, 11, 12, 13, 14, 15, 16, 17, 18, 19, 20, 21, 22, 23, 24] rfl rfl ?_
  refine x_istore [_, _, _, _, _, _, _, _, _] C eL_law_747 rfl rfl (nlt rfl) ?_
  refine x_aload_n C eL_law_749 rfl ?_
  refine x_argA C H.hx H.hbl H.hL eL_law_750 eL_law_751 eL_law_753 eL_law_754 eL_law_755 rfl rfl (by omega) ha1 ?_
  have c1 : 0 ≤ a1 ∧ a1 ≤ n (-1) 0 - 1 := by first | trivial | omega | (simp only [if_true, if_false]; omega)
  have c2 : True := by first | trivial | omega | (simp only [if_true, if_false]; omega)
  have c3 : True := by first | trivial | omega | (simp only [if_true, if_false]; omega)
  have hM := s_X8_delivered (G := G) (l := l) (o := x.o) (A := x.A) (I := I) (N := N9) (n := n) (b := b) (l9 := a1) hK hI.hN.1 (by omega) (by omega)
  simp only [if_pos (show (0 ≤ a1 ∧ a1 ≤ n (-1) 0 - 1) ∧ (True) ∧ (True) from ⟨c1, c2, c3⟩), thr_0 c1 c2 c3] at hM
  refine yV1r [_, _, _, _, _, _, _, _, _, _, _, _, _, _, _, _, _, _, _, _, _, _, _] [_, _, _, _, _, _, _, _, _, _, _, _, _, _, _, _, _, _, _, _, _, _, _, _, _] C hM v_X8_delivered vv_X8_delivered s_RL_185 eL_law_756 (fun _ _ h => WF_pick [15, 16, 0, 1, 2, 3, 4, 5, 6, 7, 8, 9, 10, 11, 12, 13, 14, 17, 18, 19, 20, 21, 22, 23, 24] rfl rfl h) (rcv 15 rfl) rfl (nle rfl) (nle rfl) (by omega) (by omega) rfl ?_
  refine x_istore [_, _, _, _, _, _, _, _, _] C eL_law_759 rfl rfl (nlt rfl) ?_
  refine x_aload_n C eL_law_761 rfl ?_
  refine yV0r [_, _, _, _, _, _, _, _, _, _, _, _, _, _, _, _, _, _, _, _, _, _, _, _] [_, _, _, _, _, _, _, _, _, _, _, _, _, _, _, _, _, _, _, _, _, _, _, _, _] C (s_X8_thrown hK) v_X8_thrown vv_X8_thrown s_RL_145 eL_law_762 (fun _ _ h => WF_pick [0, 1, 2, 3, 4, 5, 6, 7, 8, 9, 10, 11, 12, 13, 14, 15, 16, 17, 18, 19, 20, 21, 22, 23, 24] rfl rfl h) (rcv 0 rfl) rfl (nle rfl) (nle rfl) (by omega) (by omega) rfl ?_
  refine x_iload C eL_law_765 rfl ?_
  refine x_icmp_val (by first | exact up_s _ _ _ | exact (up_n (by decide)).trans (up_s _ _ _)) 772 C eL_law_767 rfl ?_
  refine x_iload C eL_law_772 rfl ?_
  refine x_if_ne 789 C eL_law_774 rfl (by omega) (fun h => absurd rfl h) (fun _ => ?_)
  refine x_aload_n C eL_law_777 rfl ?_
  refine x_iconst C eL_law_778 ?_
  refine x_lald (N := 1) 7 C eL_law_779 rfl (by decide) (by omega) ?_
  refine x_iload C eL_law_780 rfl ?_
  refine x_i2lR C eL_law_782 ?_
  refine x_lcmp_same 789 (by first | exact if_pos rfl | (rw [if_pos rfl]; rfl) | decide) C eL_law_783 eL_law_784 rfl ?_
  refine x_goto (pc' := 2791) C eL_law_789 rfl ?_
  refine x_pick [_, _, _, _, _, _, _, _, _, _, _, _, _, _, _, _, _, _, _, _, _, _, _, _, _] [2, 3, 4, 5, 6, 8, 9, 10, 11, 12, 13, 14, 15, 16, 0, 1, 17, 18, 19, 20, 21, 22, 23, 7, 24] rfl rfl ?_
  refine x_lv [_, _, _, _, _, _, none, none, _] rfl (lx_drop _ [6, 7] rfl) ?_
  exact x_wide (by omega) (by omega) (K9 (hI.qI (by omega) (up_n (by decide)) (up_n (by decide)) (up_n (by decide)) (up_n (by decide)) (up_n (by decide)) (up_n (by decide))))

set_option maxHeartbeats 4000000 in
set_option maxRecDepth 100000 in
theorem lc_10_1 {G : Gm} {X : Cx} {l : Launch} {x : LFx} {k nn : Nat} {i b : Int} {J : Nat → Int} {M : Pool} {n : Net} {N K : Nat → Net} {Fu Fb : Nat → Int} {w : List Int} {z : Int} {I TL TB : Nat → Int} {N9 : Nat → Net} {f : Nat → Int64} {fD : Nat → UInt64} {a1 : Int} (H : LKn G l x) {nmL : String} (hC : OKc G X l RL nmL cL_law 9 (some .boolean) 1400 600000 6200000) (hI : INV b J M n N K Fu Fb w z I) (hb : b ≤ 15000000) (hk : k + 100 ≤ 600000) (hn : nn + 2200 ≤ 6200000) (hi : 0 ≤ i ∧ i + 6 ≤ (x.L : Int)) (ha1 : (x.xs (i + 1).toNat).toInt = a1) (hl : ¬ (0 ≤ a1 ∧ a1 < n (-1) 0)) (K9 : LCont G X x (b + 8000) (k + 100) (nn + 2200) i) : WX G X k nn (LAT G x J M n N K Fu Fb w z I TL TB N9 f fD) 736 (LLV x i) [] := by
  have C := hC
  have hK : KG G := H.hX.1.1.1
  have hH := hI.hN.1.1
  unfold HeadOk at hH
  have r1 : -2147483648 ≤ a1 ∧ a1 < 2147483648 := by rw [← ha1]; exact bI_toInt _
  refine x_aload_n C eL_law_736 rfl ?_
  refine x_argA C H.hx H.hbl H.hL eL_law_737 eL_law_738 eL_law_740 eL_law_741 eL_law_742 rfl rfl (by omega) ha1 ?_
  refine x_aload_n C eL_law_743 rfl ?_
  refine x_callSW (As := [_, _, _]) [_, _, _, _, _, _, _, _, _, _, _, _, _, _, _, _, _, _, _, _, _, _] C (wx_delivered_1 hK (t_X7_delivered_2 H.hX H.hT0 (by omega) (by omega) (by omega)) (xwd_c (i := 0) H.hX rfl) (rcv 0 rfl)) cw_delivered s_RL_183 eL_law_744 rfl (fun _ _ h => WF_pick [0, 1, 23, 2, 3, 4, 5, 6, 7, 8, 9, 10, 11, 12, 13, 14, 15, 16, 17, 18, 19, 20, 21, 22, 24] rfl rfl h) rfl (nle rfl) (nle rfl) (by omega) (by omega) (fun _ _ => ?_)
  refine x_pick [_, _, _, _, _, _, _, _, _, _, _, _, _, _, _, _, _, _, _, _, _, _, _, _, _] [0, 1, 2, 3, 4, 5, 6, 7, 8, 9, 10, 11, 12, 13, 14, 15, 16, 17, 18, 19, 20, 21, 22, 23, 24] rfl rfl ?_
  refine x_istore [_, _, _, _, _, _, _, _, _] C eL_law_747 rfl rfl (nlt rfl) ?_
  refine x_aload_n C eL_law_749 rfl ?_
  refine x_argA C H.hx H.hbl H.hL eL_law_750 eL_law_751 eL_law_753 eL_law_754 eL_law_755 rfl rfl (by omega) ha1 ?_
  have c1 : ¬ (0 ≤ a1 ∧ a1 ≤ n (-1) 0 - 1) := by first | omega | (simp only [if_true, if_false]; omega)
  have hM := s_X8_delivered (G := G) (l := l) (o := x.o) (A := x.A) (I := I) (N := N9) (n := n) (b := b) (l9 := a1) hK hI.hN.1 (by omega) (by omega)
  simp only [if_neg (show ¬ ((0 ≤ a1 ∧ a1 ≤ n (-1) 0 - 1) ∧ (True) ∧ (True)) from fun q => c1 q.1), thr_1 c1] at hM
  refine yV1r [_, _, _, _, _, _, _, _, _, _, _, _, _, _, _, _, _, _, _, _, _, _, _] [_, _, _, _, _, _, _, _, _, _, _, _, _, _, _, _, _, _, _, _, _, _, _, _, _] C hM v_X8_delivered vv_X8_delivered s_RL_185 eL_law_756 (fun _ _ h => WF_pick [15, 16, 0, 1, 2, 3, 4, 5, 6, 7, 8, 9, 10, 11, 12, 13, 14, 17, 18, 19, 20, 21, 22, 23, 24] rfl rfl h) (rcv 15 rfl) rfl (nle rfl) (nle rfl) (by omega) (by omega) rfl ?_
  refine x_istore [_, _, _, _, _, _, _, _, _] C eL_law_759 rfl rfl (nlt rfl) ?_
  refine x_aload_n C eL_law_761 rfl ?_
  refine yV0r [_, _, _, _, _, _, _, _, _, _, _, _, _, _, _, _, _, _, _, _, _, _, _, _] [_, _, _, _, _, _, _, _, _, _, _, _, _, _, _, _, _, _, _, _, _, _, _, _, _] C (s_X8_thrown hK) v_X8_thrown vv_X8_thrown s_RL_145 eL_law_762 (fun _ _ h => WF_pick [0, 1, 2, 3, 4, 5, 6, 7, 8, 9, 10, 11, 12, 13, 14, 15, 16, 17, 18, 19, 20, 21, 22, 23, 24] rfl rfl h) (rcv 0 rfl) rfl (nle rfl) (nle rfl) (by omega) (by omega) rfl ?_
  refine x_iload C eL_law_765 rfl ?_
  refine x_icmp_val (by first | exact up_s _ _ _ | exact (up_n (by decide)).trans (up_s _ _ _)) 772 C eL_law_767 rfl ?_
  refine x_iload C eL_law_772 rfl ?_
  refine x_if_ne 789 C eL_law_774 rfl (by omega) (fun _ => ?_) (fun h => absurd h (by decide))
  refine x_goto (pc' := 2791) C eL_law_789 rfl ?_
  refine x_pick [_, _, _, _, _, _, _, _, _, _, _, _, _, _, _, _, _, _, _, _, _, _, _, _, _] [2, 3, 5, 6, 7, 8, 9, 10, 11, 12, 13, 14, 15, 16, 0, 1, 17, 18, 19, 20, 21, 22, 23, 4, 24] rfl rfl ?_
  refine x_lv [_, _, _, _, _, _, none, none, _] rfl (lx_drop _ [6, 7] rfl) ?_
  exact x_wide (by omega) (by omega) (K9 (hI.qI (by omega) (up_n (by decide)) (up_n (by decide)) (up_n (by decide)) (up_n (by decide)) (up_n (by decide)) (up_n (by decide))))

set_option maxHeartbeats 4000000 in
set_option maxRecDepth 100000 in
theorem lc_13_0 {G : Gm} {X : Cx} {l : Launch} {x : LFx} {k nn : Nat} {i b : Int} {J : Nat → Int} {M : Pool} {n : Net} {N K : Nat → Net} {Fu Fb : Nat → Int} {w : List Int} {z : Int} {I TL TB : Nat → Int} {N9 : Nat → Net} {f : Nat → Int64} {fD : Nat → UInt64} {a1 : Int} (H : LKn G l x) {nmL : String} (hC : OKc G X l RL nmL cL_law 9 (some .boolean) 1400 600000 6200000) (hI : INV b J M n N K Fu Fb w z I) (hb : b ≤ 15000000) (hk : k + 100 ≤ 600000) (hn : nn + 2200 ≤ 6200000) (hi : 0 ≤ i ∧ i + 6 ≤ (x.L : Int)) (ha1 : (x.xs (i + 1).toNat).toInt = a1) (hl : 0 ≤ a1 ∧ a1 < n (-1) 0) (K9 : LCont G X x (b + 8000) (k + 100) (nn + 2200) i) : WX G X k nn (LAT G x J M n N K Fu Fb w z I TL TB N9 f fD) 873 (LLV x i) [] := by
  have C := hC
  have hK : KG G := H.hX.1.1.1
  have hH := hI.hN.1.1
  unfold HeadOk at hH
  have r1 : -2147483648 ≤ a1 ∧ a1 < 2147483648 := by rw [← ha1]; exact bI_toInt _
  refine x_aload_n C eL_law_873 rfl ?_
  refine x_argA C H.hx H.hbl H.hL eL_law_874 eL_law_875 eL_law_877 eL_law_878 eL_law_879 rfl rfl (by omega) ha1 ?_
  refine x_aload_n C eL_law_880 rfl ?_
  refine x_callSW (As := [_, _, _]) [_, _, _, _, _, _, _, _, _, _, _, _, _, _, _, _, _, _] C (wn_sendsIn hK (s_X7_sendsIn hK hI.hN.1 (by omega) (by omega)) (rcv 0 rfl)) cw_sendsIn s_RL_193 eL_law_881 rfl (fun _ _ h => WF_pick [0, 1, 2, 3, 4, 5, 23, 6, 7, 8, 9, 10, 11, 12, 13, 14, 15, 16, 17, 18, 19, 20, 21, 22, 24] rfl rfl h) rfl (nle rfl) (nle rfl) (by omega) (by omega) (fun _ _ => ?_)
  refine x_pick [_, _, _, _, _, _, _, _, _, _, _, _, _, _, _, _, _, _, _, _, _, _, _, _, _] [0, 1, 2, 3, 4, 5, 6, 7, 8, 9, 10, 11, 12, 13, 14, 15, 16, 17, 18, 19, 20, 21, 22, 23, 24] rfl rfl ?_
  refine x_istore [_, _, _, _, _, _, _, _, _] C eL_law_884 rfl rfl (nlt rfl) ?_
  refine x_aload_n C eL_law_886 rfl ?_
  refine x_argA C H.hx H.hbl H.hL eL_law_887 eL_law_888 eL_law_890 eL_law_891 eL_law_892 rfl rfl (by omega) ha1 ?_
  have c1 : 0 ≤ a1 ∧ a1 ≤ n (-1) 0 - 1 := by first | trivial | omega | (simp only [if_true, if_false]; omega)
  have c2 : True := by first | trivial | omega | (simp only [if_true, if_false]; omega)
  have c3 : True := by first | trivial | omega | (simp only [if_true, if_false]; omega)
  have hM := s_X8_sendsIn (G := G) (l := l) (o := x.o) (A := x.A) (I := I) (N := N9) (n := n) (b := b) (l9 := a1) hK hI.hN.1 (by omega) (by omega)
  simp only [if_pos (show (0 ≤ a1 ∧ a1 ≤ n (-1) 0 - 1) ∧ (True) ∧ (True) from ⟨c1, c2, c3⟩), thr_0 c1 c2 c3] at hM
  refine yV1r [_, _, _, _, _, _, _, _, _, _, _, _, _, _, _, _, _, _, _, _, _, _, _] [_, _, _, _, _, _, _, _, _, _, _, _, _, _, _, _, _, _, _, _, _, _, _, _, _] C hM v_X8_sendsIn vv_X8_sendsIn s_RL_195 eL_law_893 (fun _ _ h => WF_pick [15, 16, 0, 1, 2, 3, 4, 5, 6, 7, 8, 9, 10, 11, 12, 13, 14, 17, 18, 19, 20, 21, 22, 23, 24] rfl rfl h) (rcv 15 rfl) rfl (nle rfl) (nle rfl) (by omega) (by omega) rfl ?_
  refine x_oFQ (R := [_, _, _, _, _, _, _, _, _, _, _, _, _, _, _, _, _, _, _, _, _, _, _, _]) (fun _ _ h => WF_pick [1, 0, 2, 3, 4, 5, 6, 7, 8, 9, 10, 11, 12, 13, 14, 15, 16, 17, 18, 19, 20, 21, 22, 23, 24] rfl rfl h) (fun N8 => ?_)
  refine x_istore [_, _, _, _, _, _, _, _, _] C eL_law_896 rfl rfl (nlt rfl) ?_
  refine x_aload_n C eL_law_898 rfl ?_
  refine yV0r [_, _, _, _, _, _, _, _, _, _, _, _, _, _, _, _, _, _, _, _, _, _, _, _] [_, _, _, _, _, _, _, _, _, _, _, _, _, _, _, _, _, _, _, _, _, _, _, _, _] C (s_X8_thrown hK) v_X8_thrown vv_X8_thrown s_RL_145 eL_law_899 (fun _ _ h => WF_pick [1, 0, 2, 3, 4, 5, 6, 7, 8, 9, 10, 11, 12, 13, 14, 15, 16, 17, 18, 19, 20, 21, 22, 23, 24] rfl rfl h) (rcv 1 rfl) rfl (nle rfl) (nle rfl) (by omega) (by omega) rfl ?_
  refine x_iload C eL_law_902 rfl ?_
  refine x_icmp_val (by first | exact up_s _ _ _ | exact (up_n (by decide)).trans (up_s _ _ _)) 909 C eL_law_904 rfl ?_
  refine x_iload C eL_law_909 rfl ?_
  refine x_if_ne 926 C eL_law_911 rfl (by omega) (fun h => absurd rfl h) (fun _ => ?_)
  refine x_aload_n C eL_law_914 rfl ?_
  refine x_iconst C eL_law_915 ?_
  refine x_lald (N := 1) 8 C eL_law_916 rfl (by decide) (by omega) ?_
  refine x_iload C eL_law_917 rfl ?_
  refine x_i2lR C eL_law_919 ?_
  refine x_lcmp_same 926 (by first | exact if_pos rfl | (rw [if_pos rfl]; rfl) | decide) C eL_law_920 eL_law_921 rfl ?_
  refine x_goto (pc' := 2791) C eL_law_926 rfl ?_
  refine x_pick [_, _, _, _, _, _, _, _, _, _, _, _, _, _, _, _, _, _, _, _, _, _, _, _, _] [2, 3, 4, 5, 6, 7, 9, 10, 11, 12, 13, 14, 15, 16, 0, 1, 17, 18, 19, 20, 21, 22, 23, 8, 24] rfl rfl ?_
  refine x_lv [_, _, _, _, _, _, none, none, _] rfl (lx_drop _ [6, 7] rfl) ?_
  exact x_wide (by omega) (by omega) (K9 (hI.qI (by omega) (up_n (by decide)) (up_n (by decide)) (up_n (by decide)) (up_n (by decide)) (up_n (by decide)) (up_n (by decide))))

set_option maxHeartbeats 4000000 in
set_option maxRecDepth 100000 in
theorem lc_13_1 {G : Gm} {X : Cx} {l : Launch} {x : LFx} {k nn : Nat} {i b : Int} {J : Nat → Int} {M : Pool} {n : Net} {N K : Nat → Net} {Fu Fb : Nat → Int} {w : List Int} {z : Int} {I TL TB : Nat → Int} {N9 : Nat → Net} {f : Nat → Int64} {fD : Nat → UInt64} {a1 : Int} (H : LKn G l x) {nmL : String} (hC : OKc G X l RL nmL cL_law 9 (some .boolean) 1400 600000 6200000) (hI : INV b J M n N K Fu Fb w z I) (hb : b ≤ 15000000) (hk : k + 100 ≤ 600000) (hn : nn + 2200 ≤ 6200000) (hi : 0 ≤ i ∧ i + 6 ≤ (x.L : Int)) (ha1 : (x.xs (i + 1).toNat).toInt = a1) (hl : ¬ (0 ≤ a1 ∧ a1 < n (-1) 0)) (K9 : LCont G X x (b + 8000) (k + 100) (nn + 2200) i) : WX G X k nn (LAT G x J M n N K Fu Fb w z I TL TB N9 f fD) 873 (LLV x i) [] := by
  have C := hC
  have hK : KG G := H.hX.1.1.1
  have hH := hI.hN.1.1
  unfold HeadOk at hH
  have r1 : -2147483648 ≤ a1 ∧ a1 < 2147483648 := by rw [← ha1]; exact bI_toInt _
  refine x_aload_n C eL_law_873 rfl ?_
  refine x_argA C H.hx H.hbl H.hL eL_law_874 eL_law_875 eL_law_877 eL_law_878 eL_law_879 rfl rfl (by omega) ha1 ?_
  refine x_aload_n C eL_law_880 rfl ?_
  refine x_callSW (As := [_, _, _]) [_, _, _, _, _, _, _, _, _, _, _, _, _, _, _, _, _, _, _, _, _, _] C (wx_sendsIn_1 hK (t_X7_sendsIn_2 H.hX H.hT0 (by omega) (by omega) (by omega)) (xwd_c (i := 0) H.hX rfl) (rcv 0 rfl)) cw_sendsIn s_RL_193 eL_law_881 rfl (fun _ _ h => WF_pick [0, 1, 23, 2, 3, 4, 5, 6, 7, 8, 9, 10, 11, 12, 13, 14, 15, 16, 17, 18, 19, 20, 21, 22, 24] rfl rfl h) rfl (nle rfl) (nle rfl) (by omega) (by omega) (fun _ _ => ?_)
  refine x_pick [_, _, _, _, _, _, _, _, _, _, _, _, _, _, _, _, _, _, _, _, _, _, _, _, _] [0, 1, 2, 3, 4, 5, 6, 7, 8, 9, 10, 11, 12, 13, 14, 15, 16, 17, 18, 19, 20, 21, 22, 23, 24] rfl rfl ?_
  refine x_istore [_, _, _, _, _, _, _, _, _] C eL_law_884 rfl rfl (nlt rfl) ?_
  refine x_aload_n C eL_law_886 rfl ?_
  refine x_argA C H.hx H.hbl H.hL eL_law_887 eL_law_888 eL_law_890 eL_law_891 eL_law_892 rfl rfl (by omega) ha1 ?_
  have c1 : ¬ (0 ≤ a1 ∧ a1 ≤ n (-1) 0 - 1) := by first | omega | (simp only [if_true, if_false]; omega)
  have hM := s_X8_sendsIn (G := G) (l := l) (o := x.o) (A := x.A) (I := I) (N := N9) (n := n) (b := b) (l9 := a1) hK hI.hN.1 (by omega) (by omega)
  simp only [if_neg (show ¬ ((0 ≤ a1 ∧ a1 ≤ n (-1) 0 - 1) ∧ (True) ∧ (True)) from fun q => c1 q.1), thr_1 c1] at hM
  refine yV1r [_, _, _, _, _, _, _, _, _, _, _, _, _, _, _, _, _, _, _, _, _, _, _] [_, _, _, _, _, _, _, _, _, _, _, _, _, _, _, _, _, _, _, _, _, _, _, _, _] C hM v_X8_sendsIn vv_X8_sendsIn s_RL_195 eL_law_893 (fun _ _ h => WF_pick [15, 16, 0, 1, 2, 3, 4, 5, 6, 7, 8, 9, 10, 11, 12, 13, 14, 17, 18, 19, 20, 21, 22, 23, 24] rfl rfl h) (rcv 15 rfl) rfl (nle rfl) (nle rfl) (by omega) (by omega) rfl ?_
  refine x_oFQ (R := [_, _, _, _, _, _, _, _, _, _, _, _, _, _, _, _, _, _, _, _, _, _, _, _]) (fun _ _ h => WF_pick [1, 0, 2, 3, 4, 5, 6, 7, 8, 9, 10, 11, 12, 13, 14, 15, 16, 17, 18, 19, 20, 21, 22, 23, 24] rfl rfl h) (fun N8 => ?_)
  refine x_istore [_, _, _, _, _, _, _, _, _] C eL_law_896 rfl rfl (nlt rfl) ?_
  refine x_aload_n C eL_law_898 rfl ?_
  refine yV0r [_, _, _, _, _, _, _, _, _, _, _, _, _, _, _, _, _, _, _, _, _, _, _, _] [_, _, _, _, _, _, _, _, _, _, _, _, _, _, _, _, _, _, _, _, _, _, _, _, _] C (s_X8_thrown hK) v_X8_thrown vv_X8_thrown s_RL_145 eL_law_899 (fun _ _ h => WF_pick [1, 0, 2, 3, 4, 5, 6, 7, 8, 9, 10, 11, 12, 13, 14, 15, 16, 17, 18, 19, 20, 21, 22, 23, 24] rfl rfl h) (rcv 1 rfl) rfl (nle rfl) (nle rfl) (by omega) (by omega) rfl ?_
  refine x_iload C eL_law_902 rfl ?_
  refine x_icmp_val (by first | exact up_s _ _ _ | exact (up_n (by decide)).trans (up_s _ _ _)) 909 C eL_law_904 rfl ?_
  refine x_iload C eL_law_909 rfl ?_
  refine x_if_ne 926 C eL_law_911 rfl (by omega) (fun _ => ?_) (fun h => absurd h (by decide))
  refine x_goto (pc' := 2791) C eL_law_926 rfl ?_
  refine x_pick [_, _, _, _, _, _, _, _, _, _, _, _, _, _, _, _, _, _, _, _, _, _, _, _, _] [2, 3, 5, 6, 7, 8, 9, 10, 11, 12, 13, 14, 15, 16, 0, 1, 17, 18, 19, 20, 21, 22, 23, 4, 24] rfl rfl ?_
  refine x_lv [_, _, _, _, _, _, none, none, _] rfl (lx_drop _ [6, 7] rfl) ?_
  exact x_wide (by omega) (by omega) (K9 (hI.qI (by omega) (up_n (by decide)) (up_n (by decide)) (up_n (by decide)) (up_n (by decide)) (up_n (by decide)) (up_n (by decide))))

set_option maxHeartbeats 4000000 in
set_option maxRecDepth 100000 in
theorem lc_14_0 {G : Gm} {X : Cx} {l : Launch} {x : LFx} {k nn : Nat} {i b : Int} {J : Nat → Int} {M : Pool} {n : Net} {N K : Nat → Net} {Fu Fb : Nat → Int} {w : List Int} {z : Int} {I TL TB : Nat → Int} {N9 : Nat → Net} {f : Nat → Int64} {fD : Nat → UInt64} {a1 : Int} (H : LKn G l x) {nmL : String} (hC : OKc G X l RL nmL cL_law 9 (some .boolean) 1400 600000 6200000) (hI : INV b J M n N K Fu Fb w z I) (hb : b ≤ 15000000) (hk : k + 100 ≤ 600000) (hn : nn + 2200 ≤ 6200000) (hi : 0 ≤ i ∧ i + 6 ≤ (x.L : Int)) (ha1 : (x.xs (i + 1).toNat).toInt = a1) (hl : 0 ≤ a1 ∧ a1 < n (-1) 0) (K9 : LCont G X x (b + 8000) (k + 100) (nn + 2200) i) : WX G X k nn (LAT G x J M n N K Fu Fb w z I TL TB N9 f fD) 929 (LLV x i) [] := by
  have C := hC
  have hK : KG G := H.hX.1.1.1
  have hH := hI.hN.1.1
  unfold HeadOk at hH
  have r1 : -2147483648 ≤ a1 ∧ a1 < 2147483648 := by rw [← ha1]; exact bI_toInt _
  refine x_aload_n C eL_law_929 rfl ?_
  refine x_argA C H.hx H.hbl H.hL eL_law_930 eL_law_931 eL_law_933 eL_law_934 eL_law_935 rfl rfl (by omega) ha1 ?_
  refine x_aload_n C eL_law_936 rfl ?_
  refine x_callSW (As := [_, _, _]) [_, _, _, _, _, _, _, _, _, _, _, _, _, _, _, _, _, _] C (wn_emptyIn hK (s_X7_emptyIn hK hI.hN.1 (by omega) (by omega)) (rcv 0 rfl)) cw_emptyIn s_RL_196 eL_law_937 rfl (fun _ _ h => WF_pick [0, 1, 2, 3, 4, 5, 23, 6, 7, 8, 9, 10, 11, 12, 13, 14, 15, 16, 17, 18, 19, 20, 21, 22, 24] rfl rfl h) rfl (nle rfl) (nle rfl) (by omega) (by omega) (fun _ _ => ?_)
  refine x_pick [_, _, _, _, _, _, _, _, _, _, _, _, _, _, _, _, _, _, _, _, _, _, _, _, _] [0, 1, 2, 3, 4, 5, 6, 7, 8, 9, 10, 11, 12, 13, 14, 15, 16, 17, 18, 19, 20, 21, 22, 23, 24] rfl rfl ?_
  refine x_istore [_, _, _, _, _, _, _, _, _] C eL_law_940 rfl rfl (nlt rfl) ?_
  refine x_aload_n C eL_law_942 rfl ?_
  refine x_argA C H.hx H.hbl H.hL eL_law_943 eL_law_944 eL_law_946 eL_law_947 eL_law_948 rfl rfl (by omega) ha1 ?_
  have c1 : 0 ≤ a1 ∧ a1 ≤ n (-1) 0 - 1 := by first | trivial | omega | (simp only [if_true, if_false]; omega)
  have c2 : True := by first | trivial | omega | (simp only [if_true, if_false]; omega)
  have c3 : True := by first | trivial | omega | (simp only [if_true, if_false]; omega)
  have hM := s_X8_emptyIn (G := G) (l := l) (o := x.o) (A := x.A) (I := I) (N := N9) (n := n) (b := b) (l9 := a1) hK hI.hN.1 (by omega) (by omega)
  simp only [if_pos (show (0 ≤ a1 ∧ a1 ≤ n (-1) 0 - 1) ∧ (True) ∧ (True) from ⟨c1, c2, c3⟩), thr_0 c1 c2 c3] at hM
  refine yV1r [_, _, _, _, _, _, _, _, _, _, _, _, _, _, _, _, _, _, _, _, _, _, _] [_, _, _, _, _, _, _, _, _, _, _, _, _, _, _, _, _, _, _, _, _, _, _, _, _] C hM v_X8_emptyIn vv_X8_emptyIn s_RL_198 eL_law_949 (fun _ _ h => WF_pick [15, 16, 0, 1, 2, 3, 4, 5, 6, 7, 8, 9, 10, 11, 12, 13, 14, 17, 18, 19, 20, 21, 22, 23, 24] rfl rfl h) (rcv 15 rfl) rfl (nle rfl) (nle rfl) (by omega) (by omega) rfl ?_
  refine x_oFQ (R := [_, _, _, _, _, _, _, _, _, _, _, _, _, _, _, _, _, _, _, _, _, _, _, _]) (fun _ _ h => WF_pick [1, 0, 2, 3, 4, 5, 6, 7, 8, 9, 10, 11, 12, 13, 14, 15, 16, 17, 18, 19, 20, 21, 22, 23, 24] rfl rfl h) (fun N8 => ?_)
  refine x_istore [_, _, _, _, _, _, _, _, _] C eL_law_952 rfl rfl (nlt rfl) ?_
  refine x_aload_n C eL_law_954 rfl ?_
  refine yV0r [_, _, _, _, _, _, _, _, _, _, _, _, _, _, _, _, _, _, _, _, _, _, _, _] [_, _, _, _, _, _, _, _, _, _, _, _, _, _, _, _, _, _, _, _, _, _, _, _, _] C (s_X8_thrown hK) v_X8_thrown vv_X8_thrown s_RL_145 eL_law_955 (fun _ _ h => WF_pick [1, 0, 2, 3, 4, 5, 6, 7, 8, 9, 10, 11, 12, 13, 14, 15, 16, 17, 18, 19, 20, 21, 22, 23, 24] rfl rfl h) (rcv 1 rfl) rfl (nle rfl) (nle rfl) (by omega) (by omega) rfl ?_
  refine x_iload C eL_law_958 rfl ?_
  refine x_icmp_val (by first | exact up_s _ _ _ | exact (up_n (by decide)).trans (up_s _ _ _)) 965 C eL_law_960 rfl ?_
  refine x_iload C eL_law_965 rfl ?_
  refine x_if_ne 982 C eL_law_967 rfl (by omega) (fun h => absurd rfl h) (fun _ => ?_)
  refine x_aload_n C eL_law_970 rfl ?_
  refine x_iconst C eL_law_971 ?_
  refine x_lald (N := 1) 8 C eL_law_972 rfl (by decide) (by omega) ?_
  refine x_iload C eL_law_973 rfl ?_
  refine x_i2lR C eL_law_975 ?_
  refine x_lcmp_same 982 (by first | exact if_pos rfl | (rw [if_pos rfl]; rfl) | decide) C eL_law_976 eL_law_977 rfl ?_
  refine x_goto (pc' := 2791) C eL_law_982 rfl ?_
  refine x_pick [_, _, _, _, _, _, _, _, _, _, _, _, _, _, _, _, _, _, _, _, _, _, _, _, _] [2, 3, 4, 5, 6, 7, 9, 10, 11, 12, 13, 14, 15, 16, 0, 1, 17, 18, 19, 20, 21, 22, 23, 8, 24] rfl rfl ?_
  refine x_lv [_, _, _, _, _, _, none, none, _] rfl (lx_drop _ [6, 7] rfl) ?_
  exact x_wide (by omega) (by omega) (K9 (hI.qI (by omega) (up_n (by decide)) (up_n (by decide)) (up_n (by decide)) (up_n (by decide)) (up_n (by decide)) (up_n (by decide))))

set_option maxHeartbeats 4000000 in
set_option maxRecDepth 100000 in
theorem lc_14_1 {G : Gm} {X : Cx} {l : Launch} {x : LFx} {k nn : Nat} {i b : Int} {J : Nat → Int} {M : Pool} {n : Net} {N K : Nat → Net} {Fu Fb : Nat → Int} {w : List Int} {z : Int} {I TL TB : Nat → Int} {N9 : Nat → Net} {f : Nat → Int64} {fD : Nat → UInt64} {a1 : Int} (H : LKn G l x) {nmL : String} (hC : OKc G X l RL nmL cL_law 9 (some .boolean) 1400 600000 6200000) (hI : INV b J M n N K Fu Fb w z I) (hb : b ≤ 15000000) (hk : k + 100 ≤ 600000) (hn : nn + 2200 ≤ 6200000) (hi : 0 ≤ i ∧ i + 6 ≤ (x.L : Int)) (ha1 : (x.xs (i + 1).toNat).toInt = a1) (hl : ¬ (0 ≤ a1 ∧ a1 < n (-1) 0)) (K9 : LCont G X x (b + 8000) (k + 100) (nn + 2200) i) : WX G X k nn (LAT G x J M n N K Fu Fb w z I TL TB N9 f fD) 929 (LLV x i) [] := by
  have C := hC
  have hK : KG G := H.hX.1.1.1
  have hH := hI.hN.1.1
  unfold HeadOk at hH
  have r1 : -2147483648 ≤ a1 ∧ a1 < 2147483648 := by rw [← ha1]; exact bI_toInt _
  refine x_aload_n C eL_law_929 rfl ?_
  refine x_argA C H.hx H.hbl H.hL eL_law_930 eL_law_931 eL_law_933 eL_law_934 eL_law_935 rfl rfl (by omega) ha1 ?_
  refine x_aload_n C eL_law_936 rfl ?_
  refine x_callSW (As := [_, _, _]) [_, _, _, _, _, _, _, _, _, _, _, _, _, _, _, _, _, _, _, _, _, _] C (wx_emptyIn_1 hK (t_X7_emptyIn_2 H.hX H.hT0 (by omega) (by omega) (by omega)) (xwd_c (i := 0) H.hX rfl) (rcv 0 rfl)) cw_emptyIn s_RL_196 eL_law_937 rfl (fun _ _ h => WF_pick [0, 1, 23, 2, 3, 4, 5, 6, 7, 8, 9, 10, 11, 12, 13, 14, 15, 16, 17, 18, 19, 20, 21, 22, 24] rfl rfl h) rfl (nle rfl) (nle rfl) (by omega) (by omega) (fun _ _ => ?_)
  refine x_pick [_, _, _, _, _, _, _, _, _, _, _, _, _, _, _, _, _, _, _, _, _, _, _, _, _] [0, 1, 2, 3, 4, 5, 6, 7, 8, 9, 10, 11, 12, 13, 14, 15, 16, 17, 18, 19, 20, 21, 22, 23, 24] rfl rfl ?_
  refine x_istore [_, _, _, _, _, _, _, _, _] C eL_law_940 rfl rfl (nlt rfl) ?_
  refine x_aload_n C eL_law_942 rfl ?_
  refine x_argA C H.hx H.hbl H.hL eL_law_943 eL_law_944 eL_law_946 eL_law_947 eL_law_948 rfl rfl (by omega) ha1 ?_
  have c1 : ¬ (0 ≤ a1 ∧ a1 ≤ n (-1) 0 - 1) := by first | omega | (simp only [if_true, if_false]; omega)
  have hM := s_X8_emptyIn (G := G) (l := l) (o := x.o) (A := x.A) (I := I) (N := N9) (n := n) (b := b) (l9 := a1) hK hI.hN.1 (by omega) (by omega)
  simp only [if_neg (show ¬ ((0 ≤ a1 ∧ a1 ≤ n (-1) 0 - 1) ∧ (True) ∧ (True)) from fun q => c1 q.1), thr_1 c1] at hM
  refine yV1r [_, _, _, _, _, _, _, _, _, _, _, _, _, _, _, _, _, _, _, _, _, _, _] [_, _, _, _, _, _, _, _, _, _, _, _, _, _, _, _, _, _, _, _, _, _, _, _, _] C hM v_X8_emptyIn vv_X8_emptyIn s_RL_198 eL_law_949 (fun _ _ h => WF_pick [15, 16, 0, 1, 2, 3, 4, 5, 6, 7, 8, 9, 10, 11, 12, 13, 14, 17, 18, 19, 20, 21, 22, 23, 24] rfl rfl h) (rcv 15 rfl) rfl (nle rfl) (nle rfl) (by omega) (by omega) rfl ?_
  refine x_oFQ (R := [_, _, _, _, _, _, _, _, _, _, _, _, _, _, _, _, _, _, _, _, _, _, _, _]) (fun _ _ h => WF_pick [1, 0, 2, 3, 4, 5, 6, 7, 8, 9, 10, 11, 12, 13, 14, 15, 16, 17, 18, 19, 20, 21, 22, 23, 24] rfl rfl h) (fun N8 => ?_)
  refine x_istore [_, _, _, _, _, _, _, _, _] C eL_law_952 rfl rfl (nlt rfl) ?_
  refine x_aload_n C eL_law_954 rfl ?_
  refine yV0r [_, _, _, _, _, _, _, _, _, _, _, _, _, _, _, _, _, _, _, _, _, _, _, _] [_, _, _, _, _, _, _, _, _, _, _, _, _, _, _, _, _, _, _, _, _, _, _, _, _] C (s_X8_thrown hK) v_X8_thrown vv_X8_thrown s_RL_145 eL_law_955 (fun _ _ h => WF_pick [1, 0, 2, 3, 4, 5, 6, 7, 8, 9, 10, 11, 12, 13, 14, 15, 16, 17, 18, 19, 20, 21, 22, 23, 24] rfl rfl h) (rcv 1 rfl) rfl (nle rfl) (nle rfl) (by omega) (by omega) rfl ?_
  refine x_iload C eL_law_958 rfl ?_
  refine x_icmp_val (by first | exact up_s _ _ _ | exact (up_n (by decide)).trans (up_s _ _ _)) 965 C eL_law_960 rfl ?_
  refine x_iload C eL_law_965 rfl ?_
  refine x_if_ne 982 C eL_law_967 rfl (by omega) (fun _ => ?_) (fun h => absurd h (by decide))
  refine x_goto (pc' := 2791) C eL_law_982 rfl ?_
  refine x_pick [_, _, _, _, _, _, _, _, _, _, _, _, _, _, _, _, _, _, _, _, _, _, _, _, _] [2, 3, 5, 6, 7, 8, 9, 10, 11, 12, 13, 14, 15, 16, 0, 1, 17, 18, 19, 20, 21, 22, 23, 4, 24] rfl rfl ?_
  refine x_lv [_, _, _, _, _, _, none, none, _] rfl (lx_drop _ [6, 7] rfl) ?_
  exact x_wide (by omega) (by omega) (K9 (hI.qI (by omega) (up_n (by decide)) (up_n (by decide)) (up_n (by decide)) (up_n (by decide)) (up_n (by decide)) (up_n (by decide))))

set_option maxHeartbeats 4000000 in
set_option maxRecDepth 100000 in
theorem lc_18_0 {G : Gm} {X : Cx} {l : Launch} {x : LFx} {k nn : Nat} {i b : Int} {J : Nat → Int} {M : Pool} {n : Net} {N K : Nat → Net} {Fu Fb : Nat → Int} {w : List Int} {z : Int} {I TL TB : Nat → Int} {N9 : Nat → Net} {f : Nat → Int64} {fD : Nat → UInt64} {a1 : Int} (H : LKn G l x) {nmL : String} (hC : OKc G X l RL nmL cL_law 9 (some .boolean) 1400 600000 6200000) (hI : INV b J M n N K Fu Fb w z I) (hb : b ≤ 15000000) (hk : k + 100 ≤ 600000) (hn : nn + 2200 ≤ 6200000) (hi : 0 ≤ i ∧ i + 6 ≤ (x.L : Int)) (ha1 : (x.xs (i + 1).toNat).toInt = a1) (hl : 0 ≤ a1 ∧ a1 < n (-1) 0) (K9 : LCont G X x (b + 8000) (k + 100) (nn + 2200) i) : WX G X k nn (LAT G x J M n N K Fu Fb w z I TL TB N9 f fD) 1134 (LLV x i) [] := by
  have C := hC
  have hK : KG G := H.hX.1.1.1
  have hH := hI.hN.1.1
  unfold HeadOk at hH
  have r1 : -2147483648 ≤ a1 ∧ a1 < 2147483648 := by rw [← ha1]; exact bI_toInt _
  refine x_aload_n C eL_law_1134 rfl ?_
  refine x_argA C H.hx H.hbl H.hL eL_law_1135 eL_law_1136 eL_law_1138 eL_law_1139 eL_law_1140 rfl rfl (by omega) ha1 ?_
  refine x_aload_n C eL_law_1141 rfl ?_
  refine x_callSW (As := [_, _, _]) [_, _, _, _, _, _, _, _, _, _, _, _, _, _, _, _, _, _, _] C (wn_room hK (s_X7_room hK hI.hN.1 (by omega) (by omega)) (rcv 0 rfl)) cw_room s_RL_209 eL_law_1142 rfl (fun _ _ h => WF_pick [0, 1, 2, 3, 4, 23, 5, 6, 7, 8, 9, 10, 11, 12, 13, 14, 15, 16, 17, 18, 19, 20, 21, 22, 24] rfl rfl h) rfl (nle rfl) (nle rfl) (by omega) (by omega) (fun _ _ => ?_)
  refine x_pick [_, _, _, _, _, _, _, _, _, _, _, _, _, _, _, _, _, _, _, _, _, _, _, _, _] [0, 1, 2, 3, 4, 5, 6, 7, 8, 9, 10, 11, 12, 13, 14, 15, 16, 17, 18, 19, 20, 21, 22, 23, 24] rfl rfl ?_
  refine x_istore [_, _, _, _, _, _, _, _, _] C eL_law_1145 rfl rfl (nlt rfl) ?_
  refine x_aload_n C eL_law_1147 rfl ?_
  refine x_argA C H.hx H.hbl H.hL eL_law_1148 eL_law_1149 eL_law_1151 eL_law_1152 eL_law_1153 rfl rfl (by omega) ha1 ?_
  have c1 : 0 ≤ a1 ∧ a1 ≤ n (-1) 0 - 1 := by first | trivial | omega | (simp only [if_true, if_false]; omega)
  have c2 : True := by first | trivial | omega | (simp only [if_true, if_false]; omega)
  have c3 : True := by first | trivial | omega | (simp only [if_true, if_false]; omega)
  have hM := s_X8_room (G := G) (l := l) (o := x.o) (A := x.A) (I := I) (N := N9) (n := n) (b := b) (l9 := a1) hK hI.hN.1 (by omega) (by omega)
  simp only [if_pos (show (0 ≤ a1 ∧ a1 ≤ n (-1) 0 - 1) ∧ (True) ∧ (True) from ⟨c1, c2, c3⟩), thr_0 c1 c2 c3] at hM
  refine yV1r [_, _, _, _, _, _, _, _, _, _, _, _, _, _, _, _, _, _, _, _, _, _, _] [_, _, _, _, _, _, _, _, _, _, _, _, _, _, _, _, _, _, _, _, _, _, _, _, _] C hM v_X8_room vv_X8_room s_RL_211 eL_law_1154 (fun _ _ h => WF_pick [15, 16, 0, 1, 2, 3, 4, 5, 6, 7, 8, 9, 10, 11, 12, 13, 14, 17, 18, 19, 20, 21, 22, 23, 24] rfl rfl h) (rcv 15 rfl) rfl (nle rfl) (nle rfl) (by omega) (by omega) rfl ?_
  refine x_istore [_, _, _, _, _, _, _, _, _] C eL_law_1157 rfl rfl (nlt rfl) ?_
  refine x_aload_n C eL_law_1159 rfl ?_
  refine yV0r [_, _, _, _, _, _, _, _, _, _, _, _, _, _, _, _, _, _, _, _, _, _, _, _] [_, _, _, _, _, _, _, _, _, _, _, _, _, _, _, _, _, _, _, _, _, _, _, _, _] C (s_X8_thrown hK) v_X8_thrown vv_X8_thrown s_RL_145 eL_law_1160 (fun _ _ h => WF_pick [0, 1, 2, 3, 4, 5, 6, 7, 8, 9, 10, 11, 12, 13, 14, 15, 16, 17, 18, 19, 20, 21, 22, 23, 24] rfl rfl h) (rcv 0 rfl) rfl (nle rfl) (nle rfl) (by omega) (by omega) rfl ?_
  refine x_iload C eL_law_1163 rfl ?_
  refine x_icmp_val (by first | exact up_s _ _ _ | exact (up_n (by decide)).trans (up_s _ _ _)) 1170 C eL_law_1165 rfl ?_
  refine x_iload C eL_law_1170 rfl ?_
  refine x_if_ne 1187 C eL_law_1172 rfl (by omega) (fun h => absurd rfl h) (fun _ => ?_)
  refine x_aload_n C eL_law_1175 rfl ?_
  refine x_iconst C eL_law_1176 ?_
  refine x_lald (N := 1) 7 C eL_law_1177 rfl (by decide) (by omega) ?_
  refine x_iload C eL_law_1178 rfl ?_
  refine x_i2lR C eL_law_1180 ?_
  refine x_lcmp_same 1187 (by first | exact if_pos rfl | (rw [if_pos rfl]; rfl) | decide) C eL_law_1181 eL_law_1182 rfl ?_
  refine x_goto (pc' := 2791) C eL_law_1187 rfl ?_
  refine x_pick [_, _, _, _, _, _, _, _, _, _, _, _, _, _, _, _, _, _, _, _, _, _, _, _, _] [2, 3, 4, 5, 6, 8, 9, 10, 11, 12, 13, 14, 15, 16, 0, 1, 17, 18, 19, 20, 21, 22, 23, 7, 24] rfl rfl ?_
  refine x_lv [_, _, _, _, _, _, none, none, _] rfl (lx_drop _ [6, 7] rfl) ?_
  exact x_wide (by omega) (by omega) (K9 (hI.qI (by omega) (up_n (by decide)) (up_n (by decide)) (up_n (by decide)) (up_n (by decide)) (up_n (by decide)) (up_n (by decide))))

set_option maxHeartbeats 4000000 in
set_option maxRecDepth 100000 in
theorem lc_18_1 {G : Gm} {X : Cx} {l : Launch} {x : LFx} {k nn : Nat} {i b : Int} {J : Nat → Int} {M : Pool} {n : Net} {N K : Nat → Net} {Fu Fb : Nat → Int} {w : List Int} {z : Int} {I TL TB : Nat → Int} {N9 : Nat → Net} {f : Nat → Int64} {fD : Nat → UInt64} {a1 : Int} (H : LKn G l x) {nmL : String} (hC : OKc G X l RL nmL cL_law 9 (some .boolean) 1400 600000 6200000) (hI : INV b J M n N K Fu Fb w z I) (hb : b ≤ 15000000) (hk : k + 100 ≤ 600000) (hn : nn + 2200 ≤ 6200000) (hi : 0 ≤ i ∧ i + 6 ≤ (x.L : Int)) (ha1 : (x.xs (i + 1).toNat).toInt = a1) (hl : ¬ (0 ≤ a1 ∧ a1 < n (-1) 0)) (K9 : LCont G X x (b + 8000) (k + 100) (nn + 2200) i) : WX G X k nn (LAT G x J M n N K Fu Fb w z I TL TB N9 f fD) 1134 (LLV x i) [] := by
  have C := hC
  have hK : KG G := H.hX.1.1.1
  have hH := hI.hN.1.1
  unfold HeadOk at hH
  have r1 : -2147483648 ≤ a1 ∧ a1 < 2147483648 := by rw [← ha1]; exact bI_toInt _
  refine x_aload_n C eL_law_1134 rfl ?_
  refine x_argA C H.hx H.hbl H.hL eL_law_1135 eL_law_1136 eL_law_1138 eL_law_1139 eL_law_1140 rfl rfl (by omega) ha1 ?_
  refine x_aload_n C eL_law_1141 rfl ?_
  refine x_callSW (As := [_, _, _]) [_, _, _, _, _, _, _, _, _, _, _, _, _, _, _, _, _, _, _, _, _, _] C (wx_room_1 hK (t_X7_room_2 H.hX H.hT0 (by omega) (by omega) (by omega)) (xwd_c (i := 0) H.hX rfl) (rcv 0 rfl)) cw_room s_RL_209 eL_law_1142 rfl (fun _ _ h => WF_pick [0, 1, 23, 2, 3, 4, 5, 6, 7, 8, 9, 10, 11, 12, 13, 14, 15, 16, 17, 18, 19, 20, 21, 22, 24] rfl rfl h) rfl (nle rfl) (nle rfl) (by omega) (by omega) (fun _ _ => ?_)
  refine x_pick [_, _, _, _, _, _, _, _, _, _, _, _, _, _, _, _, _, _, _, _, _, _, _, _, _] [0, 1, 2, 3, 4, 5, 6, 7, 8, 9, 10, 11, 12, 13, 14, 15, 16, 17, 18, 19, 20, 21, 22, 23, 24] rfl rfl ?_
  refine x_istore [_, _, _, _, _, _, _, _, _] C eL_law_1145 rfl rfl (nlt rfl) ?_
  refine x_aload_n C eL_law_1147 rfl ?_
  refine x_argA C H.hx H.hbl H.hL eL_law_1148 eL_law_1149 eL_law_1151 eL_law_1152 eL_law_1153 rfl rfl (by omega) ha1 ?_
  have c1 : ¬ (0 ≤ a1 ∧ a1 ≤ n (-1) 0 - 1) := by first | omega | (simp only [if_true, if_false]; omega)
  have hM := s_X8_room (G := G) (l := l) (o := x.o) (A := x.A) (I := I) (N := N9) (n := n) (b := b) (l9 := a1) hK hI.hN.1 (by omega) (by omega)
  simp only [if_neg (show ¬ ((0 ≤ a1 ∧ a1 ≤ n (-1) 0 - 1) ∧ (True) ∧ (True)) from fun q => c1 q.1), thr_1 c1] at hM
  refine yV1r [_, _, _, _, _, _, _, _, _, _, _, _, _, _, _, _, _, _, _, _, _, _, _] [_, _, _, _, _, _, _, _, _, _, _, _, _, _, _, _, _, _, _, _, _, _, _, _, _] C hM v_X8_room vv_X8_room s_RL_211 eL_law_1154 (fun _ _ h => WF_pick [15, 16, 0, 1, 2, 3, 4, 5, 6, 7, 8, 9, 10, 11, 12, 13, 14, 17, 18, 19, 20, 21, 22, 23, 24] rfl rfl h) (rcv 15 rfl) rfl (nle rfl) (nle rfl) (by omega) (by omega) rfl ?_
  refine x_istore [_, _, _, _, _, _, _, _, _] C eL_law_1157 rfl rfl (nlt rfl) ?_
  refine x_aload_n C eL_law_1159 rfl ?_
  refine yV0r [_, _, _, _, _, _, _, _, _, _, _, _, _, _, _, _, _, _, _, _, _, _, _, _] [_, _, _, _, _, _, _, _, _, _, _, _, _, _, _, _, _, _, _, _, _, _, _, _, _] C (s_X8_thrown hK) v_X8_thrown vv_X8_thrown s_RL_145 eL_law_1160 (fun _ _ h => WF_pick [0, 1, 2, 3, 4, 5, 6, 7, 8, 9, 10, 11, 12, 13, 14, 15, 16, 17, 18, 19, 20, 21, 22, 23, 24] rfl rfl h) (rcv 0 rfl) rfl (nle rfl) (nle rfl) (by omega) (by omega) rfl ?_
  refine x_iload C eL_law_1163 rfl ?_
  refine x_icmp_val (by first | exact up_s _ _ _ | exact (up_n (by decide)).trans (up_s _ _ _)) 1170 C eL_law_1165 rfl ?_
  refine x_iload C eL_law_1170 rfl ?_
  refine x_if_ne 1187 C eL_law_1172 rfl (by omega) (fun _ => ?_) (fun h => absurd h (by decide))
  refine x_goto (pc' := 2791) C eL_law_1187 rfl ?_
  refine x_pick [_, _, _, _, _, _, _, _, _, _, _, _, _, _, _, _, _, _, _, _, _, _, _, _, _] [2, 3, 5, 6, 7, 8, 9, 10, 11, 12, 13, 14, 15, 16, 0, 1, 17, 18, 19, 20, 21, 22, 23, 4, 24] rfl rfl ?_
  refine x_lv [_, _, _, _, _, _, none, none, _] rfl (lx_drop _ [6, 7] rfl) ?_
  exact x_wide (by omega) (by omega) (K9 (hI.qI (by omega) (up_n (by decide)) (up_n (by decide)) (up_n (by decide)) (up_n (by decide)) (up_n (by decide)) (up_n (by decide))))

set_option maxHeartbeats 4000000 in
set_option maxRecDepth 100000 in
theorem lc_19_0 {G : Gm} {X : Cx} {l : Launch} {x : LFx} {k nn : Nat} {i b : Int} {J : Nat → Int} {M : Pool} {n : Net} {N K : Nat → Net} {Fu Fb : Nat → Int} {w : List Int} {z : Int} {I TL TB : Nat → Int} {N9 : Nat → Net} {f : Nat → Int64} {fD : Nat → UInt64} {a1 : Int} (H : LKn G l x) {nmL : String} (hC : OKc G X l RL nmL cL_law 9 (some .boolean) 1400 600000 6200000) (hI : INV b J M n N K Fu Fb w z I) (hb : b ≤ 15000000) (hk : k + 100 ≤ 600000) (hn : nn + 2200 ≤ 6200000) (hi : 0 ≤ i ∧ i + 6 ≤ (x.L : Int)) (ha1 : (x.xs (i + 1).toNat).toInt = a1) (hl : 0 ≤ a1 ∧ a1 < n (-1) 0) (K9 : LCont G X x (b + 8000) (k + 100) (nn + 2200) i) : WX G X k nn (LAT G x J M n N K Fu Fb w z I TL TB N9 f fD) 1190 (LLV x i) [] := by
  have C := hC
  have hK : KG G := H.hX.1.1.1
  have hH := hI.hN.1.1
  unfold HeadOk at hH
  have r1 : -2147483648 ≤ a1 ∧ a1 < 2147483648 := by rw [← ha1]; exact bI_toInt _
  refine x_aload_n C eL_law_1190 rfl ?_
  refine x_argA C H.hx H.hbl H.hL eL_law_1191 eL_law_1192 eL_law_1194 eL_law_1195 eL_law_1196 rfl rfl (by omega) ha1 ?_
  refine x_aload_n C eL_law_1197 rfl ?_
  refine x_callSW (As := [_, _, _]) [_, _, _, _, _, _, _, _, _, _, _, _, _, _, _, _, _, _, _] C (wn_untilStop hK (s_X7_untilStop hK hI.hN.1 (by omega) (by omega)) (rcv 0 rfl)) cw_untilStop s_RL_212 eL_law_1198 rfl (fun _ _ h => WF_pick [0, 1, 2, 3, 4, 23, 5, 6, 7, 8, 9, 10, 11, 12, 13, 14, 15, 16, 17, 18, 19, 20, 21, 22, 24] rfl rfl h) rfl (nle rfl) (nle rfl) (by omega) (by omega) (fun _ _ => ?_)
  refine x_pick [_, _, _, _, _, _, _, _, _, _, _, _, _, _, _, _, _, _, _, _, _, _, _, _, _] [0, 1, 2, 3, 4, 5, 6, 7, 8, 9, 10, 11, 12, 13, 14, 15, 16, 17, 18, 19, 20, 21, 22, 23, 24] rfl rfl ?_
  refine x_istore [_, _, _, _, _, _, _, _, _] C eL_law_1201 rfl rfl (nlt rfl) ?_
  refine x_aload_n C eL_law_1203 rfl ?_
  refine x_argA C H.hx H.hbl H.hL eL_law_1204 eL_law_1205 eL_law_1207 eL_law_1208 eL_law_1209 rfl rfl (by omega) ha1 ?_
  have c1 : 0 ≤ a1 ∧ a1 ≤ n (-1) 0 - 1 := by first | trivial | omega | (simp only [if_true, if_false]; omega)
  have c2 : True := by first | trivial | omega | (simp only [if_true, if_false]; omega)
  have c3 : True := by first | trivial | omega | (simp only [if_true, if_false]; omega)
  have hM := s_X8_untilStop (G := G) (l := l) (o := x.o) (A := x.A) (I := I) (N := N9) (n := n) (b := b) (l9 := a1) hK hI.hN.1 (by omega) (by omega)
  simp only [if_pos (show (0 ≤ a1 ∧ a1 ≤ n (-1) 0 - 1) ∧ (True) ∧ (True) from ⟨c1, c2, c3⟩), thr_0 c1 c2 c3] at hM
  refine yV1r [_, _, _, _, _, _, _, _, _, _, _, _, _, _, _, _, _, _, _, _, _, _, _] [_, _, _, _, _, _, _, _, _, _, _, _, _, _, _, _, _, _, _, _, _, _, _, _, _] C hM v_X8_untilStop vv_X8_untilStop s_RL_214 eL_law_1210 (fun _ _ h => WF_pick [15, 16, 0, 1, 2, 3, 4, 5, 6, 7, 8, 9, 10, 11, 12, 13, 14, 17, 18, 19, 20, 21, 22, 23, 24] rfl rfl h) (rcv 15 rfl) rfl (nle rfl) (nle rfl) (by omega) (by omega) rfl ?_
  refine x_istore [_, _, _, _, _, _, _, _, _] C eL_law_1213 rfl rfl (nlt rfl) ?_
  refine x_aload_n C eL_law_1215 rfl ?_
  refine yV0r [_, _, _, _, _, _, _, _, _, _, _, _, _, _, _, _, _, _, _, _, _, _, _, _] [_, _, _, _, _, _, _, _, _, _, _, _, _, _, _, _, _, _, _, _, _, _, _, _, _] C (s_X8_thrown hK) v_X8_thrown vv_X8_thrown s_RL_145 eL_law_1216 (fun _ _ h => WF_pick [0, 1, 2, 3, 4, 5, 6, 7, 8, 9, 10, 11, 12, 13, 14, 15, 16, 17, 18, 19, 20, 21, 22, 23, 24] rfl rfl h) (rcv 0 rfl) rfl (nle rfl) (nle rfl) (by omega) (by omega) rfl ?_
  refine x_iload C eL_law_1219 rfl ?_
  refine x_icmp_val (by first | exact up_s _ _ _ | exact (up_n (by decide)).trans (up_s _ _ _)) 1226 C eL_law_1221 rfl ?_
  refine x_iload C eL_law_1226 rfl ?_
  refine x_if_ne 1243 C eL_law_1228 rfl (by omega) (fun h => absurd rfl h) (fun _ => ?_)
  refine x_aload_n C eL_law_1231 rfl ?_
  refine x_iconst C eL_law_1232 ?_
  refine x_lald (N := 1) 7 C eL_law_1233 rfl (by decide) (by omega) ?_
  refine x_iload C eL_law_1234 rfl ?_
  refine x_i2lR C eL_law_1236 ?_
  refine x_lcmp_same 1243 (by first | exact if_pos rfl | (rw [if_pos rfl]; rfl) | decide) C eL_law_1237 eL_law_1238 rfl ?_
  refine x_goto (pc' := 2791) C eL_law_1243 rfl ?_
  refine x_pick [_, _, _, _, _, _, _, _, _, _, _, _, _, _, _, _, _, _, _, _, _, _, _, _, _] [2, 3, 4, 5, 6, 8, 9, 10, 11, 12, 13, 14, 15, 16, 0, 1, 17, 18, 19, 20, 21, 22, 23, 7, 24] rfl rfl ?_
  refine x_lv [_, _, _, _, _, _, none, none, _] rfl (lx_drop _ [6, 7] rfl) ?_
  exact x_wide (by omega) (by omega) (K9 (hI.qI (by omega) (up_n (by decide)) (up_n (by decide)) (up_n (by decide)) (up_n (by decide)) (up_n (by decide)) (up_n (by decide))))

set_option maxHeartbeats 4000000 in
set_option maxRecDepth 100000 in
theorem lc_19_1 {G : Gm} {X : Cx} {l : Launch} {x : LFx} {k nn : Nat} {i b : Int} {J : Nat → Int} {M : Pool} {n : Net} {N K : Nat → Net} {Fu Fb : Nat → Int} {w : List Int} {z : Int} {I TL TB : Nat → Int} {N9 : Nat → Net} {f : Nat → Int64} {fD : Nat → UInt64} {a1 : Int} (H : LKn G l x) {nmL : String} (hC : OKc G X l RL nmL cL_law 9 (some .boolean) 1400 600000 6200000) (hI : INV b J M n N K Fu Fb w z I) (hb : b ≤ 15000000) (hk : k + 100 ≤ 600000) (hn : nn + 2200 ≤ 6200000) (hi : 0 ≤ i ∧ i + 6 ≤ (x.L : Int)) (ha1 : (x.xs (i + 1).toNat).toInt = a1) (hl : ¬ (0 ≤ a1 ∧ a1 < n (-1) 0)) (K9 : LCont G X x (b + 8000) (k + 100) (nn + 2200) i) : WX G X k nn (LAT G x J M n N K Fu Fb w z I TL TB N9 f fD) 1190 (LLV x i) [] := by
  have C := hC
  have hK : KG G := H.hX.1.1.1
  have hH := hI.hN.1.1
  unfold HeadOk at hH
  have r1 : -2147483648 ≤ a1 ∧ a1 < 2147483648 := by rw [← ha1]; exact bI_toInt _
  refine x_aload_n C eL_law_1190 rfl ?_
  refine x_argA C H.hx H.hbl H.hL eL_law_1191 eL_law_1192 eL_law_1194 eL_law_1195 eL_law_1196 rfl rfl (by omega) ha1 ?_
  refine x_aload_n C eL_law_1197 rfl ?_
  refine x_callSW (As := [_, _, _]) [_, _, _, _, _, _, _, _, _, _, _, _, _, _, _, _, _, _, _, _, _, _] C (wx_untilStop_1 hK (t_X7_untilStop_2 H.hX H.hT0 (by omega) (by omega) (by omega)) (xwd_c (i := 0) H.hX rfl) (rcv 0 rfl)) cw_untilStop s_RL_212 eL_law_1198 rfl (fun _ _ h => WF_pick [0, 1, 23, 2, 3, 4, 5, 6, 7, 8, 9, 10, 11, 12, 13, 14, 15, 16, 17, 18, 19, 20, 21, 22, 24] rfl rfl h) rfl (nle rfl) (nle rfl) (by omega) (by omega) (fun _ _ => ?_)
  refine x_pick [_, _, _, _, _, _, _, _, _, _, _, _, _, _, _, _, _, _, _, _, _, _, _, _, _] [0, 1, 2, 3, 4, 5, 6, 7, 8, 9, 10, 11, 12, 13, 14, 15, 16, 17, 18, 19, 20, 21, 22, 23, 24] rfl rfl ?_
  refine x_istore [_, _, _, _, _, _, _, _, _] C eL_law_1201 rfl rfl (nlt rfl) ?_
  refine x_aload_n C eL_law_1203 rfl ?_
  refine x_argA C H.hx H.hbl H.hL eL_law_1204 eL_law_1205 eL_law_1207 eL_law_1208 eL_law_1209 rfl rfl (by omega) ha1 ?_
  have c1 : ¬ (0 ≤ a1 ∧ a1 ≤ n (-1) 0 - 1) := by first | omega | (simp only [if_true, if_false]; omega)
  have hM := s_X8_untilStop (G := G) (l := l) (o := x.o) (A := x.A) (I := I) (N := N9) (n := n) (b := b) (l9 := a1) hK hI.hN.1 (by omega) (by omega)
  simp only [if_neg (show ¬ ((0 ≤ a1 ∧ a1 ≤ n (-1) 0 - 1) ∧ (True) ∧ (True)) from fun q => c1 q.1), thr_1 c1] at hM
  refine yV1r [_, _, _, _, _, _, _, _, _, _, _, _, _, _, _, _, _, _, _, _, _, _, _] [_, _, _, _, _, _, _, _, _, _, _, _, _, _, _, _, _, _, _, _, _, _, _, _, _] C hM v_X8_untilStop vv_X8_untilStop s_RL_214 eL_law_1210 (fun _ _ h => WF_pick [15, 16, 0, 1, 2, 3, 4, 5, 6, 7, 8, 9, 10, 11, 12, 13, 14, 17, 18, 19, 20, 21, 22, 23, 24] rfl rfl h) (rcv 15 rfl) rfl (nle rfl) (nle rfl) (by omega) (by omega) rfl ?_
  refine x_istore [_, _, _, _, _, _, _, _, _] C eL_law_1213 rfl rfl (nlt rfl) ?_
  refine x_aload_n C eL_law_1215 rfl ?_
  refine yV0r [_, _, _, _, _, _, _, _, _, _, _, _, _, _, _, _, _, _, _, _, _, _, _, _] [_, _, _, _, _, _, _, _, _, _, _, _, _, _, _, _, _, _, _, _, _, _, _, _, _] C (s_X8_thrown hK) v_X8_thrown vv_X8_thrown s_RL_145 eL_law_1216 (fun _ _ h => WF_pick [0, 1, 2, 3, 4, 5, 6, 7, 8, 9, 10, 11, 12, 13, 14, 15, 16, 17, 18, 19, 20, 21, 22, 23, 24] rfl rfl h) (rcv 0 rfl) rfl (nle rfl) (nle rfl) (by omega) (by omega) rfl ?_
  refine x_iload C eL_law_1219 rfl ?_
  refine x_icmp_val (by first | exact up_s _ _ _ | exact (up_n (by decide)).trans (up_s _ _ _)) 1226 C eL_law_1221 rfl ?_
  refine x_iload C eL_law_1226 rfl ?_
  refine x_if_ne 1243 C eL_law_1228 rfl (by omega) (fun _ => ?_) (fun h => absurd h (by decide))
  refine x_goto (pc' := 2791) C eL_law_1243 rfl ?_
  refine x_pick [_, _, _, _, _, _, _, _, _, _, _, _, _, _, _, _, _, _, _, _, _, _, _, _, _] [2, 3, 5, 6, 7, 8, 9, 10, 11, 12, 13, 14, 15, 16, 0, 1, 17, 18, 19, 20, 21, 22, 23, 4, 24] rfl rfl ?_
  refine x_lv [_, _, _, _, _, _, none, none, _] rfl (lx_drop _ [6, 7] rfl) ?_
  exact x_wide (by omega) (by omega) (K9 (hI.qI (by omega) (up_n (by decide)) (up_n (by decide)) (up_n (by decide)) (up_n (by decide)) (up_n (by decide)) (up_n (by decide))))

set_option maxHeartbeats 4000000 in
set_option maxRecDepth 100000 in
theorem lc_22_0 {G : Gm} {X : Cx} {l : Launch} {x : LFx} {k nn : Nat} {i b : Int} {J : Nat → Int} {M : Pool} {n : Net} {N K : Nat → Net} {Fu Fb : Nat → Int} {w : List Int} {z : Int} {I TL TB : Nat → Int} {N9 : Nat → Net} {f : Nat → Int64} {fD : Nat → UInt64} {a1 : Int} (H : LKn G l x) {nmL : String} (hC : OKc G X l RL nmL cL_law 9 (some .boolean) 1400 600000 6200000) (hI : INV b J M n N K Fu Fb w z I) (hb : b ≤ 15000000) (hk : k + 100 ≤ 600000) (hn : nn + 2200 ≤ 6200000) (hi : 0 ≤ i ∧ i + 6 ≤ (x.L : Int)) (ha1 : (x.xs (i + 1).toNat).toInt = a1) (hl : 0 ≤ a1 ∧ a1 < n (-1) 0) (K9 : LCont G X x (b + 8000) (k + 100) (nn + 2200) i) : WX G X k nn (LAT G x J M n N K Fu Fb w z I TL TB N9 f fD) 1382 (LLV x i) [] := by
  have C := hC
  have hK : KG G := H.hX.1.1.1
  have hH := hI.hN.1.1
  unfold HeadOk at hH
  have r1 : -2147483648 ≤ a1 ∧ a1 < 2147483648 := by rw [← ha1]; exact bI_toInt _
  refine x_aload_n C eL_law_1382 rfl ?_
  refine x_argA C H.hx H.hbl H.hL eL_law_1383 eL_law_1384 eL_law_1386 eL_law_1387 eL_law_1388 rfl rfl (by omega) ha1 ?_
  refine x_aload_n C eL_law_1389 rfl ?_
  refine x_callSW (As := [_, _, _]) [_, _, _, _, _, _, _, _, _, _, _, _, _, _, _, _, _, _] C (wn_bestBorrower hK (s_X7_bestBorrower hK hI.hN.1 (by omega) (by omega)) (rcv 0 rfl)) cw_bestBorrower s_RL_221 eL_law_1390 rfl (fun _ _ h => WF_pick [0, 1, 2, 3, 4, 5, 23, 6, 7, 8, 9, 10, 11, 12, 13, 14, 15, 16, 17, 18, 19, 20, 21, 22, 24] rfl rfl h) rfl (nle rfl) (nle rfl) (by omega) (by omega) (fun _ _ => ?_)
  refine x_pick [_, _, _, _, _, _, _, _, _, _, _, _, _, _, _, _, _, _, _, _, _, _, _, _, _] [0, 1, 2, 3, 4, 5, 6, 7, 8, 9, 10, 11, 12, 13, 14, 15, 16, 17, 18, 19, 20, 21, 22, 23, 24] rfl rfl ?_
  refine x_istore [_, _, _, _, _, _, _, _, _] C eL_law_1393 rfl rfl (nlt rfl) ?_
  refine x_aload_n C eL_law_1395 rfl ?_
  refine x_argA C H.hx H.hbl H.hL eL_law_1396 eL_law_1397 eL_law_1399 eL_law_1400 eL_law_1401 rfl rfl (by omega) ha1 ?_
  have c1 : 0 ≤ a1 ∧ a1 ≤ n (-1) 0 - 1 := by first | trivial | omega | (simp only [if_true, if_false]; omega)
  have c2 : True := by first | trivial | omega | (simp only [if_true, if_false]; omega)
  have c3 : True := by first | trivial | omega | (simp only [if_true, if_false]; omega)
  have hM := s_X8_bestBorrower (G := G) (l := l) (o := x.o) (A := x.A) (I := I) (N := N9) (n := n) (b := b) (l9 := a1) hK hI.hN.1 (by omega) (by omega)
  simp only [if_pos (show (0 ≤ a1 ∧ a1 ≤ n (-1) 0 - 1) ∧ (True) ∧ (True) from ⟨c1, c2, c3⟩), thr_0 c1 c2 c3] at hM
  refine yV1r [_, _, _, _, _, _, _, _, _, _, _, _, _, _, _, _, _, _, _, _, _, _, _] [_, _, _, _, _, _, _, _, _, _, _, _, _, _, _, _, _, _, _, _, _, _, _, _, _] C hM v_X8_bestBorrower vv_X8_bestBorrower s_RL_223 eL_law_1402 (fun _ _ h => WF_pick [15, 16, 0, 1, 2, 3, 4, 5, 6, 7, 8, 9, 10, 11, 12, 13, 14, 17, 18, 19, 20, 21, 22, 23, 24] rfl rfl h) (rcv 15 rfl) rfl (nle rfl) (nle rfl) (by omega) (by omega) rfl ?_
  refine x_oFQ (R := [_, _, _, _, _, _, _, _, _, _, _, _, _, _, _, _, _, _, _, _, _, _, _, _]) (fun _ _ h => WF_pick [1, 0, 2, 3, 4, 5, 6, 7, 8, 9, 10, 11, 12, 13, 14, 15, 16, 17, 18, 19, 20, 21, 22, 23, 24] rfl rfl h) (fun N8 => ?_)
  refine x_istore [_, _, _, _, _, _, _, _, _] C eL_law_1405 rfl rfl (nlt rfl) ?_
  refine x_aload_n C eL_law_1407 rfl ?_
  refine yV0r [_, _, _, _, _, _, _, _, _, _, _, _, _, _, _, _, _, _, _, _, _, _, _, _] [_, _, _, _, _, _, _, _, _, _, _, _, _, _, _, _, _, _, _, _, _, _, _, _, _] C (s_X8_thrown hK) v_X8_thrown vv_X8_thrown s_RL_145 eL_law_1408 (fun _ _ h => WF_pick [1, 0, 2, 3, 4, 5, 6, 7, 8, 9, 10, 11, 12, 13, 14, 15, 16, 17, 18, 19, 20, 21, 22, 23, 24] rfl rfl h) (rcv 1 rfl) rfl (nle rfl) (nle rfl) (by omega) (by omega) rfl ?_
  refine x_iload C eL_law_1411 rfl ?_
  refine x_icmp_val (by first | exact up_s _ _ _ | exact (up_n (by decide)).trans (up_s _ _ _)) 1418 C eL_law_1413 rfl ?_
  refine x_iload C eL_law_1418 rfl ?_
  refine x_if_ne 1435 C eL_law_1420 rfl (by omega) (fun h => absurd rfl h) (fun _ => ?_)
  refine x_aload_n C eL_law_1423 rfl ?_
  refine x_iconst C eL_law_1424 ?_
  refine x_lald (N := 1) 8 C eL_law_1425 rfl (by decide) (by omega) ?_
  refine x_iload C eL_law_1426 rfl ?_
  refine x_i2lR C eL_law_1428 ?_
  refine x_lcmp_same 1435 (by first | exact if_pos rfl | (rw [if_pos rfl]; rfl) | decide) C eL_law_1429 eL_law_1430 rfl ?_
  refine x_goto (pc' := 2791) C eL_law_1435 rfl ?_
  refine x_pick [_, _, _, _, _, _, _, _, _, _, _, _, _, _, _, _, _, _, _, _, _, _, _, _, _] [2, 3, 4, 5, 6, 7, 9, 10, 11, 12, 13, 14, 15, 16, 0, 1, 17, 18, 19, 20, 21, 22, 23, 8, 24] rfl rfl ?_
  refine x_lv [_, _, _, _, _, _, none, none, _] rfl (lx_drop _ [6, 7] rfl) ?_
  exact x_wide (by omega) (by omega) (K9 (hI.qI (by omega) (up_n (by decide)) (up_n (by decide)) (up_n (by decide)) (up_n (by decide)) (up_n (by decide)) (up_n (by decide))))

set_option maxHeartbeats 4000000 in
set_option maxRecDepth 100000 in
theorem lc_22_1 {G : Gm} {X : Cx} {l : Launch} {x : LFx} {k nn : Nat} {i b : Int} {J : Nat → Int} {M : Pool} {n : Net} {N K : Nat → Net} {Fu Fb : Nat → Int} {w : List Int} {z : Int} {I TL TB : Nat → Int} {N9 : Nat → Net} {f : Nat → Int64} {fD : Nat → UInt64} {a1 : Int} (H : LKn G l x) {nmL : String} (hC : OKc G X l RL nmL cL_law 9 (some .boolean) 1400 600000 6200000) (hI : INV b J M n N K Fu Fb w z I) (hb : b ≤ 15000000) (hk : k + 100 ≤ 600000) (hn : nn + 2200 ≤ 6200000) (hi : 0 ≤ i ∧ i + 6 ≤ (x.L : Int)) (ha1 : (x.xs (i + 1).toNat).toInt = a1) (hl : ¬ (0 ≤ a1 ∧ a1 < n (-1) 0)) (K9 : LCont G X x (b + 8000) (k + 100) (nn + 2200) i) : WX G X k nn (LAT G x J M n N K Fu Fb w z I TL TB N9 f fD) 1382 (LLV x i) [] := by
  have C := hC
  have hK : KG G := H.hX.1.1.1
  have hH := hI.hN.1.1
  unfold HeadOk at hH
  have r1 : -2147483648 ≤ a1 ∧ a1 < 2147483648 := by rw [← ha1]; exact bI_toInt _
  refine x_aload_n C eL_law_1382 rfl ?_
  refine x_argA C H.hx H.hbl H.hL eL_law_1383 eL_law_1384 eL_law_1386 eL_law_1387 eL_law_1388 rfl rfl (by omega) ha1 ?_
  refine x_aload_n C eL_law_1389 rfl ?_
  refine x_callSW (As := [_, _, _]) [_, _, _, _, _, _, _, _, _, _, _, _, _, _, _, _, _, _, _, _, _, _] C (wx_bestBorrower_1 hK (t_X7_bestBorrower_2 H.hX H.hT0 (by omega) (by omega) (by omega)) (xwd_c (i := 0) H.hX rfl) (rcv 0 rfl)) cw_bestBorrower s_RL_221 eL_law_1390 rfl (fun _ _ h => WF_pick [0, 1, 23, 2, 3, 4, 5, 6, 7, 8, 9, 10, 11, 12, 13, 14, 15, 16, 17, 18, 19, 20, 21, 22, 24] rfl rfl h) rfl (nle rfl) (nle rfl) (by omega) (by omega) (fun _ _ => ?_)
  refine x_pick [_, _, _, _, _, _, _, _, _, _, _, _, _, _, _, _, _, _, _, _, _, _, _, _, _] [0, 1, 2, 3, 4, 5, 6, 7, 8, 9, 10, 11, 12, 13, 14, 15, 16, 17, 18, 19, 20, 21, 22, 23, 24] rfl rfl ?_
  refine x_istore [_, _, _, _, _, _, _, _, _] C eL_law_1393 rfl rfl (nlt rfl) ?_
  refine x_aload_n C eL_law_1395 rfl ?_
  refine x_argA C H.hx H.hbl H.hL eL_law_1396 eL_law_1397 eL_law_1399 eL_law_1400 eL_law_1401 rfl rfl (by omega) ha1 ?_
  have c1 : ¬ (0 ≤ a1 ∧ a1 ≤ n (-1) 0 - 1) := by first | omega | (simp only [if_true, if_false]; omega)
  have hM := s_X8_bestBorrower (G := G) (l := l) (o := x.o) (A := x.A) (I := I) (N := N9) (n := n) (b := b) (l9 := a1) hK hI.hN.1 (by omega) (by omega)
  simp only [if_neg (show ¬ ((0 ≤ a1 ∧ a1 ≤ n (-1) 0 - 1) ∧ (True) ∧ (True)) from fun q => c1 q.1), thr_1 c1] at hM
  refine yV1r [_, _, _, _, _, _, _, _, _, _, _, _, _, _, _, _, _, _, _, _, _, _, _] [_, _, _, _, _, _, _, _, _, _, _, _, _, _, _, _, _, _, _, _, _, _, _, _, _] C hM v_X8_bestBorrower vv_X8_bestBorrower s_RL_223 eL_law_1402 (fun _ _ h => WF_pick [15, 16, 0, 1, 2, 3, 4, 5, 6, 7, 8, 9, 10, 11, 12, 13, 14, 17, 18, 19, 20, 21, 22, 23, 24] rfl rfl h) (rcv 15 rfl) rfl (nle rfl) (nle rfl) (by omega) (by omega) rfl ?_
  refine x_oFQ (R := [_, _, _, _, _, _, _, _, _, _, _, _, _, _, _, _, _, _, _, _, _, _, _, _]) (fun _ _ h => WF_pick [1, 0, 2, 3, 4, 5, 6, 7, 8, 9, 10, 11, 12, 13, 14, 15, 16, 17, 18, 19, 20, 21, 22, 23, 24] rfl rfl h) (fun N8 => ?_)
  refine x_istore [_, _, _, _, _, _, _, _, _] C eL_law_1405 rfl rfl (nlt rfl) ?_
  refine x_aload_n C eL_law_1407 rfl ?_
  refine yV0r [_, _, _, _, _, _, _, _, _, _, _, _, _, _, _, _, _, _, _, _, _, _, _, _] [_, _, _, _, _, _, _, _, _, _, _, _, _, _, _, _, _, _, _, _, _, _, _, _, _] C (s_X8_thrown hK) v_X8_thrown vv_X8_thrown s_RL_145 eL_law_1408 (fun _ _ h => WF_pick [1, 0, 2, 3, 4, 5, 6, 7, 8, 9, 10, 11, 12, 13, 14, 15, 16, 17, 18, 19, 20, 21, 22, 23, 24] rfl rfl h) (rcv 1 rfl) rfl (nle rfl) (nle rfl) (by omega) (by omega) rfl ?_
  refine x_iload C eL_law_1411 rfl ?_
  refine x_icmp_val (by first | exact up_s _ _ _ | exact (up_n (by decide)).trans (up_s _ _ _)) 1418 C eL_law_1413 rfl ?_
  refine x_iload C eL_law_1418 rfl ?_
  refine x_if_ne 1435 C eL_law_1420 rfl (by omega) (fun _ => ?_) (fun h => absurd h (by decide))
  refine x_goto (pc' := 2791) C eL_law_1435 rfl ?_
  refine x_pick [_, _, _, _, _, _, _, _, _, _, _, _, _, _, _, _, _, _, _, _, _, _, _, _, _] [2, 3, 5, 6, 7, 8, 9, 10, 11, 12, 13, 14, 15, 16, 0, 1, 17, 18, 19, 20, 21, 22, 23, 4, 24] rfl rfl ?_
  refine x_lv [_, _, _, _, _, _, none, none, _] rfl (lx_drop _ [6, 7] rfl) ?_
  exact x_wide (by omega) (by omega) (K9 (hI.qI (by omega) (up_n (by decide)) (up_n (by decide)) (up_n (by decide)) (up_n (by decide)) (up_n (by decide)) (up_n (by decide))))

set_option maxHeartbeats 4000000 in
set_option maxRecDepth 100000 in
theorem lc_28_0 {G : Gm} {X : Cx} {l : Launch} {x : LFx} {k nn : Nat} {i b : Int} {J : Nat → Int} {M : Pool} {n : Net} {N K : Nat → Net} {Fu Fb : Nat → Int} {w : List Int} {z : Int} {I TL TB : Nat → Int} {N9 : Nat → Net} {f : Nat → Int64} {fD : Nat → UInt64} {a1 : Int} (H : LKn G l x) {nmL : String} (hC : OKc G X l RL nmL cL_law 9 (some .boolean) 1400 600000 6200000) (hI : INV b J M n N K Fu Fb w z I) (hb : b ≤ 15000000) (hk : k + 100 ≤ 600000) (hn : nn + 2200 ≤ 6200000) (hi : 0 ≤ i ∧ i + 6 ≤ (x.L : Int)) (ha1 : (x.xs (i + 1).toNat).toInt = a1) (hl : 0 ≤ a1 ∧ a1 < n (-1) 0) (K9 : LCont G X x (b + 8000) (k + 100) (nn + 2200) i) : WX G X k nn (LAT G x J M n N K Fu Fb w z I TL TB N9 f fD) 1632 (LLV x i) [] := by
  have C := hC
  have hK : KG G := H.hX.1.1.1
  have hH := hI.hN.1.1
  unfold HeadOk at hH
  have r1 : -2147483648 ≤ a1 ∧ a1 < 2147483648 := by rw [← ha1]; exact bI_toInt _
  refine x_aload_n C eL_law_1632 rfl ?_
  refine x_argA C H.hx H.hbl H.hL eL_law_1633 eL_law_1634 eL_law_1636 eL_law_1637 eL_law_1638 rfl rfl (by omega) ha1 ?_
  refine x_aload_n C eL_law_1639 rfl ?_
  refine x_callSW (As := [_, _, _]) [_, _, _, _, _, _, _, _, _, _, _, _, _, _, _, _, _, _, _] C (wn_gap hK (s_X7_gap hK hI.hN.1 (by omega) (by omega)) (rcv 0 rfl)) cw_gap s_RL_243 eL_law_1640 rfl (fun _ _ h => WF_pick [0, 1, 2, 3, 4, 23, 5, 6, 7, 8, 9, 10, 11, 12, 13, 14, 15, 16, 17, 18, 19, 20, 21, 22, 24] rfl rfl h) rfl (nle rfl) (nle rfl) (by omega) (by omega) (fun _ _ => ?_)
  refine x_pick [_, _, _, _, _, _, _, _, _, _, _, _, _, _, _, _, _, _, _, _, _, _, _, _, _] [0, 1, 2, 3, 4, 5, 6, 7, 8, 9, 10, 11, 12, 13, 14, 15, 16, 17, 18, 19, 20, 21, 22, 23, 24] rfl rfl ?_
  refine x_istore [_, _, _, _, _, _, _, _, _] C eL_law_1643 rfl rfl (nlt rfl) ?_
  refine x_aload_n C eL_law_1645 rfl ?_
  refine x_argA C H.hx H.hbl H.hL eL_law_1646 eL_law_1647 eL_law_1649 eL_law_1650 eL_law_1651 rfl rfl (by omega) ha1 ?_
  have c1 : 0 ≤ a1 ∧ a1 ≤ n (-1) 0 - 1 := by first | trivial | omega | (simp only [if_true, if_false]; omega)
  have c2 : True := by first | trivial | omega | (simp only [if_true, if_false]; omega)
  have c3 : True := by first | trivial | omega | (simp only [if_true, if_false]; omega)
  have hM := s_X8_gap (G := G) (l := l) (o := x.o) (A := x.A) (I := I) (N := N9) (n := n) (b := b) (l9 := a1) hK hI.hN.1 (by omega) (by omega)
  simp only [if_pos (show (0 ≤ a1 ∧ a1 ≤ n (-1) 0 - 1) ∧ (True) ∧ (True) from ⟨c1, c2, c3⟩), thr_0 c1 c2 c3] at hM
  refine yV1r [_, _, _, _, _, _, _, _, _, _, _, _, _, _, _, _, _, _, _, _, _, _, _] [_, _, _, _, _, _, _, _, _, _, _, _, _, _, _, _, _, _, _, _, _, _, _, _, _] C hM v_X8_gap vv_X8_gap s_RL_245 eL_law_1652 (fun _ _ h => WF_pick [15, 16, 0, 1, 2, 3, 4, 5, 6, 7, 8, 9, 10, 11, 12, 13, 14, 17, 18, 19, 20, 21, 22, 23, 24] rfl rfl h) (rcv 15 rfl) rfl (nle rfl) (nle rfl) (by omega) (by omega) rfl ?_
  refine x_istore [_, _, _, _, _, _, _, _, _] C eL_law_1655 rfl rfl (nlt rfl) ?_
  refine x_aload_n C eL_law_1657 rfl ?_
  refine yV0r [_, _, _, _, _, _, _, _, _, _, _, _, _, _, _, _, _, _, _, _, _, _, _, _] [_, _, _, _, _, _, _, _, _, _, _, _, _, _, _, _, _, _, _, _, _, _, _, _, _] C (s_X8_thrown hK) v_X8_thrown vv_X8_thrown s_RL_145 eL_law_1658 (fun _ _ h => WF_pick [0, 1, 2, 3, 4, 5, 6, 7, 8, 9, 10, 11, 12, 13, 14, 15, 16, 17, 18, 19, 20, 21, 22, 23, 24] rfl rfl h) (rcv 0 rfl) rfl (nle rfl) (nle rfl) (by omega) (by omega) rfl ?_
  refine x_iload C eL_law_1661 rfl ?_
  refine x_icmp_val (by first | exact up_s _ _ _ | exact (up_n (by decide)).trans (up_s _ _ _)) 1668 C eL_law_1663 rfl ?_
  refine x_iload C eL_law_1668 rfl ?_
  refine x_if_ne 1685 C eL_law_1670 rfl (by omega) (fun h => absurd rfl h) (fun _ => ?_)
  refine x_aload_n C eL_law_1673 rfl ?_
  refine x_iconst C eL_law_1674 ?_
  refine x_lald (N := 1) 7 C eL_law_1675 rfl (by decide) (by omega) ?_
  refine x_iload C eL_law_1676 rfl ?_
  refine x_i2lR C eL_law_1678 ?_
  refine x_lcmp_same 1685 (by first | exact if_pos rfl | (rw [if_pos rfl]; rfl) | decide) C eL_law_1679 eL_law_1680 rfl ?_
  refine x_goto (pc' := 2791) C eL_law_1685 rfl ?_
  refine x_pick [_, _, _, _, _, _, _, _, _, _, _, _, _, _, _, _, _, _, _, _, _, _, _, _, _] [2, 3, 4, 5, 6, 8, 9, 10, 11, 12, 13, 14, 15, 16, 0, 1, 17, 18, 19, 20, 21, 22, 23, 7, 24] rfl rfl ?_
  refine x_lv [_, _, _, _, _, _, none, none, _] rfl (lx_drop _ [6, 7] rfl) ?_
  exact x_wide (by omega) (by omega) (K9 (hI.qI (by omega) (up_n (by decide)) (up_n (by decide)) (up_n (by decide)) (up_n (by decide)) (up_n (by decide)) (up_n (by decide))))

set_option maxHeartbeats 4000000 in
set_option maxRecDepth 100000 in
theorem lc_28_1 {G : Gm} {X : Cx} {l : Launch} {x : LFx} {k nn : Nat} {i b : Int} {J : Nat → Int} {M : Pool} {n : Net} {N K : Nat → Net} {Fu Fb : Nat → Int} {w : List Int} {z : Int} {I TL TB : Nat → Int} {N9 : Nat → Net} {f : Nat → Int64} {fD : Nat → UInt64} {a1 : Int} (H : LKn G l x) {nmL : String} (hC : OKc G X l RL nmL cL_law 9 (some .boolean) 1400 600000 6200000) (hI : INV b J M n N K Fu Fb w z I) (hb : b ≤ 15000000) (hk : k + 100 ≤ 600000) (hn : nn + 2200 ≤ 6200000) (hi : 0 ≤ i ∧ i + 6 ≤ (x.L : Int)) (ha1 : (x.xs (i + 1).toNat).toInt = a1) (hl : ¬ (0 ≤ a1 ∧ a1 < n (-1) 0)) (K9 : LCont G X x (b + 8000) (k + 100) (nn + 2200) i) : WX G X k nn (LAT G x J M n N K Fu Fb w z I TL TB N9 f fD) 1632 (LLV x i) [] := by
  have C := hC
  have hK : KG G := H.hX.1.1.1
  have hH := hI.hN.1.1
  unfold HeadOk at hH
  have r1 : -2147483648 ≤ a1 ∧ a1 < 2147483648 := by rw [← ha1]; exact bI_toInt _
  refine x_aload_n C eL_law_1632 rfl ?_
  refine x_argA C H.hx H.hbl H.hL eL_law_1633 eL_law_1634 eL_law_1636 eL_law_1637 eL_law_1638 rfl rfl (by omega) ha1 ?_
  refine x_aload_n C eL_law_1639 rfl ?_
  refine x_callSW (As := [_, _, _]) [_, _, _, _, _, _, _, _, _, _, _, _, _, _, _, _, _, _, _, _, _, _] C (wx_gap_1 hK (t_X7_gap_2 H.hX H.hT0 (by omega) (by omega) (by omega)) (xwd_c (i := 0) H.hX rfl) (rcv 0 rfl)) cw_gap s_RL_243 eL_law_1640 rfl (fun _ _ h => WF_pick [0, 1, 23, 2, 3, 4, 5, 6, 7, 8, 9, 10, 11, 12, 13, 14, 15, 16, 17, 18, 19, 20, 21, 22, 24] rfl rfl h) rfl (nle rfl) (nle rfl) (by omega) (by omega) (fun _ _ => ?_)
  refine x_pick [_, _, _, _, _, _, _, _, _, _, _, _, _, _, _, _, _, _, _, _, _, _, _, _, _] [0, 1, 2, 3, 4, 5, 6, 7, 8, 9, 10, 11, 12, 13, 14, 15, 16, 17, 18, 19, 20, 21, 22, 23, 24] rfl rfl ?_
  refine x_istore [_, _, _, _, _, _, _, _, _] C eL_law_1643 rfl rfl (nlt rfl) ?_
  refine x_aload_n C eL_law_1645 rfl ?_
  refine x_argA C H.hx H.hbl H.hL eL_law_1646 eL_law_1647 eL_law_1649 eL_law_1650 eL_law_1651 rfl rfl (by omega) ha1 ?_
  have c1 : ¬ (0 ≤ a1 ∧ a1 ≤ n (-1) 0 - 1) := by first | omega | (simp only [if_true, if_false]; omega)
  have hM := s_X8_gap (G := G) (l := l) (o := x.o) (A := x.A) (I := I) (N := N9) (n := n) (b := b) (l9 := a1) hK hI.hN.1 (by omega) (by omega)
  simp only [if_neg (show ¬ ((0 ≤ a1 ∧ a1 ≤ n (-1) 0 - 1) ∧ (True) ∧ (True)) from fun q => c1 q.1), thr_1 c1] at hM
  refine yV1r [_, _, _, _, _, _, _, _, _, _, _, _, _, _, _, _, _, _, _, _, _, _, _] [_, _, _, _, _, _, _, _, _, _, _, _, _, _, _, _, _, _, _, _, _, _, _, _, _] C hM v_X8_gap vv_X8_gap s_RL_245 eL_law_1652 (fun _ _ h => WF_pick [15, 16, 0, 1, 2, 3, 4, 5, 6, 7, 8, 9, 10, 11, 12, 13, 14, 17, 18, 19, 20, 21, 22, 23, 24] rfl rfl h) (rcv 15 rfl) rfl (nle rfl) (nle rfl) (by omega) (by omega) rfl ?_
  refine x_istore [_, _, _, _, _, _, _, _, _] C eL_law_1655 rfl rfl (nlt rfl) ?_
  refine x_aload_n C eL_law_1657 rfl ?_
  refine yV0r [_, _, _, _, _, _, _, _, _, _, _, _, _, _, _, _, _, _, _, _, _, _, _, _] [_, _, _, _, _, _, _, _, _, _, _, _, _, _, _, _, _, _, _, _, _, _, _, _, _] C (s_X8_thrown hK) v_X8_thrown vv_X8_thrown s_RL_145 eL_law_1658 (fun _ _ h => WF_pick [0, 1, 2, 3, 4, 5, 6, 7, 8, 9, 10, 11, 12, 13, 14, 15, 16, 17, 18, 19, 20, 21, 22, 23, 24] rfl rfl h) (rcv 0 rfl) rfl (nle rfl) (nle rfl) (by omega) (by omega) rfl ?_
  refine x_iload C eL_law_1661 rfl ?_
  refine x_icmp_val (by first | exact up_s _ _ _ | exact (up_n (by decide)).trans (up_s _ _ _)) 1668 C eL_law_1663 rfl ?_
  refine x_iload C eL_law_1668 rfl ?_
  refine x_if_ne 1685 C eL_law_1670 rfl (by omega) (fun _ => ?_) (fun h => absurd h (by decide))
  refine x_goto (pc' := 2791) C eL_law_1685 rfl ?_
  refine x_pick [_, _, _, _, _, _, _, _, _, _, _, _, _, _, _, _, _, _, _, _, _, _, _, _, _] [2, 3, 5, 6, 7, 8, 9, 10, 11, 12, 13, 14, 15, 16, 0, 1, 17, 18, 19, 20, 21, 22, 23, 4, 24] rfl rfl ?_
  refine x_lv [_, _, _, _, _, _, none, none, _] rfl (lx_drop _ [6, 7] rfl) ?_
  exact x_wide (by omega) (by omega) (K9 (hI.qI (by omega) (up_n (by decide)) (up_n (by decide)) (up_n (by decide)) (up_n (by decide)) (up_n (by decide)) (up_n (by decide))))

set_option maxHeartbeats 4000000 in
set_option maxRecDepth 100000 in
theorem lc_11_0 {G : Gm} {X : Cx} {l : Launch} {x : LFx} {k nn : Nat} {i b : Int} {J : Nat → Int} {M : Pool} {n : Net} {N K : Nat → Net} {Fu Fb : Nat → Int} {w : List Int} {z : Int} {I TL TB : Nat → Int} {N9 : Nat → Net} {f : Nat → Int64} {fD : Nat → UInt64} {a1 a2 : Int} (H : LKn G l x) {nmL : String} (hC : OKc G X l RL nmL cL_law 9 (some .boolean) 1400 600000 6200000) (hI : INV b J M n N K Fu Fb w z I) (hb : b ≤ 15000000) (hk : k + 100 ≤ 600000) (hn : nn + 2200 ≤ 6200000) (hi : 0 ≤ i ∧ i + 6 ≤ (x.L : Int)) (ha1 : (x.xs (i + 1).toNat).toInt = a1) (ha2 : (x.xs (i + 2).toNat).toInt = a2) (hi9 : 0 ≤ a1 ∧ a1 < n (-1) 7) (hw : 0 ≤ a2 ∧ a2 < 5) (K9 : LCont G X x (b + 8000) (k + 100) (nn + 2200) i) : WX G X k nn (LAT G x J M n N K Fu Fb w z I TL TB N9 f fD) 792 (LLV x i) [] := by
  have C := hC
  have hK : KG G := H.hX.1.1.1
  have hH := hI.hN.1.1
  unfold HeadOk at hH
  have r1 : -2147483648 ≤ a1 ∧ a1 < 2147483648 := by rw [← ha1]; exact bI_toInt _
  have r2 : -2147483648 ≤ a2 ∧ a2 < 2147483648 := by rw [← ha2]; exact bI_toInt _
  refine x_aload_n C eL_law_792 rfl ?_
  refine x_argA C H.hx H.hbl H.hL eL_law_793 eL_law_794 eL_law_796 eL_law_797 eL_law_798 rfl rfl (by omega) ha1 ?_
  refine x_argA C H.hx H.hbl H.hL eL_law_799 eL_law_800 eL_law_802 eL_law_803 eL_law_804 rfl rfl (by omega) ha2 ?_
  refine x_aload_n C eL_law_805 rfl ?_
  refine x_callSW (As := [_, _, _, _]) [_, _, _, _, _, _, _, _, _, _, _, _, _, _, _, _, _, _, _] C (wn_logged hK (s_X7_logged hK hI.hN.1 (by omega) (by omega) (by omega)) (rcv 0 rfl)) cw_logged s_RL_186 eL_law_806 rfl (fun _ _ h => WF_pick [0, 1, 2, 3, 4, 23, 5, 6, 7, 8, 9, 10, 11, 12, 13, 14, 15, 16, 17, 18, 19, 20, 21, 22, 24] rfl rfl h) rfl (nle rfl) (nle rfl) (by omega) (by omega) (fun _ _ => ?_)
  refine x_pick [_, _, _, _, _, _, _, _, _, _, _, _, _, _, _, _, _, _, _, _, _, _, _, _, _] [0, 1, 2, 3, 4, 5, 6, 7, 8, 9, 10, 11, 12, 13, 14, 15, 16, 17, 18, 19, 20, 21, 22, 23, 24] rfl rfl ?_
  refine x_istore [_, _, _, _, _, _, _, _, _] C eL_law_809 rfl rfl (nlt rfl) ?_
  refine x_aload_n C eL_law_811 rfl ?_
  refine x_argA C H.hx H.hbl H.hL eL_law_812 eL_law_813 eL_law_815 eL_law_816 eL_law_817 rfl rfl (by omega) ha1 ?_
  refine x_argA C H.hx H.hbl H.hL eL_law_818 eL_law_819 eL_law_821 eL_law_822 eL_law_823 rfl rfl (by omega) ha2 ?_
  have c1 : 0 ≤ a1 ∧ a1 ≤ n (-1) 7 - 1 := by first | trivial | omega | (simp only [if_true, if_false]; omega)
  have c2 : 0 ≤ a2 ∧ a2 ≤ 4 := by first | trivial | omega | (simp only [if_true, if_false]; omega)
  have c3 : True := by first | trivial | omega | (simp only [if_true, if_false]; omega)
  have hM := s_X8_logged (G := G) (l := l) (o := x.o) (A := x.A) (I := I) (N := N9) (n := n) (b := b) (i9 := a1) (w9 := a2) hK hI.hN.1 (by omega) (by omega) (by omega)
  simp only [if_pos (show (0 ≤ a1 ∧ a1 ≤ n (-1) 7 - 1) ∧ (0 ≤ a2 ∧ a2 ≤ 4) ∧ (True) from ⟨c1, c2, c3⟩), thr_0 c1 c2 c3] at hM
  refine yV2r [_, _, _, _, _, _, _, _, _, _, _, _, _, _, _, _, _, _, _, _, _, _, _] [_, _, _, _, _, _, _, _, _, _, _, _, _, _, _, _, _, _, _, _, _, _, _, _, _] C hM v_X8_logged vv_X8_logged s_RL_188 eL_law_824 (fun _ _ h => WF_pick [15, 16, 0, 1, 2, 3, 4, 5, 6, 7, 8, 9, 10, 11, 12, 13, 14, 17, 18, 19, 20, 21, 22, 23, 24] rfl rfl h) (rcv 15 rfl) rfl (nle rfl) (nle rfl) (by omega) (by omega) rfl ?_
  refine x_istore [_, _, _, _, _, _, _, _, _] C eL_law_827 rfl rfl (nlt rfl) ?_
  refine x_aload_n C eL_law_829 rfl ?_
  refine yV0r [_, _, _, _, _, _, _, _, _, _, _, _, _, _, _, _, _, _, _, _, _, _, _, _] [_, _, _, _, _, _, _, _, _, _, _, _, _, _, _, _, _, _, _, _, _, _, _, _, _] C (s_X8_thrown hK) v_X8_thrown vv_X8_thrown s_RL_145 eL_law_830 (fun _ _ h => WF_pick [0, 1, 2, 3, 4, 5, 6, 7, 8, 9, 10, 11, 12, 13, 14, 15, 16, 17, 18, 19, 20, 21, 22, 23, 24] rfl rfl h) (rcv 0 rfl) rfl (nle rfl) (nle rfl) (by omega) (by omega) rfl ?_
  refine x_iload C eL_law_833 rfl ?_
  refine x_icmp_val (by first | exact up_s _ _ _ | exact (up_n (by decide)).trans (up_s _ _ _)) 840 C eL_law_835 rfl ?_
  refine x_iload C eL_law_840 rfl ?_
  refine x_if_ne 857 C eL_law_842 rfl (by omega) (fun h => absurd rfl h) (fun _ => ?_)
  refine x_aload_n C eL_law_845 rfl ?_
  refine x_iconst C eL_law_846 ?_
  refine x_lald (N := 1) 7 C eL_law_847 rfl (by decide) (by omega) ?_
  refine x_iload C eL_law_848 rfl ?_
  refine x_i2lR C eL_law_850 ?_
  refine x_lcmp_same 857 (by first | exact if_pos rfl | (rw [if_pos rfl]; rfl) | decide) C eL_law_851 eL_law_852 rfl ?_
  refine x_goto (pc' := 2791) C eL_law_857 rfl ?_
  refine x_pick [_, _, _, _, _, _, _, _, _, _, _, _, _, _, _, _, _, _, _, _, _, _, _, _, _] [2, 3, 4, 5, 6, 8, 9, 10, 11, 12, 13, 14, 15, 16, 0, 1, 17, 18, 19, 20, 21, 22, 23, 7, 24] rfl rfl ?_
  refine x_lv [_, _, _, _, _, _, none, none, _] rfl (lx_drop _ [6, 7] rfl) ?_
  exact x_wide (by omega) (by omega) (K9 (hI.qI (by omega) (up_n (by decide)) (up_n (by decide)) (up_n (by decide)) (up_n (by decide)) (up_n (by decide)) (up_n (by decide))))

set_option maxHeartbeats 4000000 in
set_option maxRecDepth 100000 in
theorem lc_11_1 {G : Gm} {X : Cx} {l : Launch} {x : LFx} {k nn : Nat} {i b : Int} {J : Nat → Int} {M : Pool} {n : Net} {N K : Nat → Net} {Fu Fb : Nat → Int} {w : List Int} {z : Int} {I TL TB : Nat → Int} {N9 : Nat → Net} {f : Nat → Int64} {fD : Nat → UInt64} {a1 a2 : Int} (H : LKn G l x) {nmL : String} (hC : OKc G X l RL nmL cL_law 9 (some .boolean) 1400 600000 6200000) (hI : INV b J M n N K Fu Fb w z I) (hb : b ≤ 15000000) (hk : k + 100 ≤ 600000) (hn : nn + 2200 ≤ 6200000) (hi : 0 ≤ i ∧ i + 6 ≤ (x.L : Int)) (ha1 : (x.xs (i + 1).toNat).toInt = a1) (ha2 : (x.xs (i + 2).toNat).toInt = a2) (hi9 : ¬ (0 ≤ a1 ∧ a1 < n (-1) 7)) (K9 : LCont G X x (b + 8000) (k + 100) (nn + 2200) i) : WX G X k nn (LAT G x J M n N K Fu Fb w z I TL TB N9 f fD) 792 (LLV x i) [] := by
  have C := hC
  have hK : KG G := H.hX.1.1.1
  have hH := hI.hN.1.1
  unfold HeadOk at hH
  have r1 : -2147483648 ≤ a1 ∧ a1 < 2147483648 := by rw [← ha1]; exact bI_toInt _
  have r2 : -2147483648 ≤ a2 ∧ a2 < 2147483648 := by rw [← ha2]; exact bI_toInt _
  refine x_aload_n C eL_law_792 rfl ?_
  refine x_argA C H.hx H.hbl H.hL eL_law_793 eL_law_794 eL_law_796 eL_law_797 eL_law_798 rfl rfl (by omega) ha1 ?_
  refine x_argA C H.hx H.hbl H.hL eL_law_799 eL_law_800 eL_law_802 eL_law_803 eL_law_804 rfl rfl (by omega) ha2 ?_
  refine x_aload_n C eL_law_805 rfl ?_
  refine x_callSW (As := [_, _, _, _]) [_, _, _, _, _, _, _, _, _, _, _, _, _, _, _, _, _, _, _] C (wx_logged_1 hK (t_X7_logged_18 H.hX H.hT0 hI.hN.1 (by omega) (by omega) (by omega)) (xwd_c (i := 0) H.hX rfl) (rcv 0 rfl)) cw_logged s_RL_186 eL_law_806 rfl (fun _ _ h => WF_pick [0, 1, 2, 3, 4, 23, 5, 6, 7, 8, 9, 10, 11, 12, 13, 14, 15, 16, 17, 18, 19, 20, 21, 22, 24] rfl rfl h) rfl (nle rfl) (nle rfl) (by omega) (by omega) (fun _ _ => ?_)
  refine x_pick [_, _, _, _, _, _, _, _, _, _, _, _, _, _, _, _, _, _, _, _, _, _, _, _, _] [0, 1, 2, 3, 4, 5, 6, 7, 8, 9, 10, 11, 12, 13, 14, 15, 16, 17, 18, 19, 20, 21, 22, 23, 24] rfl rfl ?_
  refine x_istore [_, _, _, _, _, _, _, _, _] C eL_law_809 rfl rfl (nlt rfl) ?_
  refine x_aload_n C eL_law_811 rfl ?_
  refine x_argA C H.hx H.hbl H.hL eL_law_812 eL_law_813 eL_law_815 eL_law_816 eL_law_817 rfl rfl (by omega) ha1 ?_
  refine x_argA C H.hx H.hbl H.hL eL_law_818 eL_law_819 eL_law_821 eL_law_822 eL_law_823 rfl rfl (by omega) ha2 ?_
  have c1 : ¬ (0 ≤ a1 ∧ a1 ≤ n (-1) 7 - 1) := by first | omega | (simp only [if_true, if_false]; omega)
  have hM := s_X8_logged (G := G) (l := l) (o := x.o) (A := x.A) (I := I) (N := N9) (n := n) (b := b) (i9 := a1) (w9 := a2) hK hI.hN.1 (by omega) (by omega) (by omega)
  simp only [if_neg (show ¬ ((0 ≤ a1 ∧ a1 ≤ n (-1) 7 - 1) ∧ (0 ≤ a2 ∧ a2 ≤ 4) ∧ (True)) from fun q => c1 q.1), thr_1 c1] at hM
  refine yV2r [_, _, _, _, _, _, _, _, _, _, _, _, _, _, _, _, _, _, _, _, _, _, _] [_, _, _, _, _, _, _, _, _, _, _, _, _, _, _, _, _, _, _, _, _, _, _, _, _] C hM v_X8_logged vv_X8_logged s_RL_188 eL_law_824 (fun _ _ h => WF_pick [15, 16, 0, 1, 2, 3, 4, 5, 6, 7, 8, 9, 10, 11, 12, 13, 14, 17, 18, 19, 20, 21, 22, 23, 24] rfl rfl h) (rcv 15 rfl) rfl (nle rfl) (nle rfl) (by omega) (by omega) rfl ?_
  refine x_istore [_, _, _, _, _, _, _, _, _] C eL_law_827 rfl rfl (nlt rfl) ?_
  refine x_aload_n C eL_law_829 rfl ?_
  refine yV0r [_, _, _, _, _, _, _, _, _, _, _, _, _, _, _, _, _, _, _, _, _, _, _, _] [_, _, _, _, _, _, _, _, _, _, _, _, _, _, _, _, _, _, _, _, _, _, _, _, _] C (s_X8_thrown hK) v_X8_thrown vv_X8_thrown s_RL_145 eL_law_830 (fun _ _ h => WF_pick [0, 1, 2, 3, 4, 5, 6, 7, 8, 9, 10, 11, 12, 13, 14, 15, 16, 17, 18, 19, 20, 21, 22, 23, 24] rfl rfl h) (rcv 0 rfl) rfl (nle rfl) (nle rfl) (by omega) (by omega) rfl ?_
  refine x_iload C eL_law_833 rfl ?_
  refine x_icmp_val (by first | exact up_s _ _ _ | exact (up_n (by decide)).trans (up_s _ _ _)) 840 C eL_law_835 rfl ?_
  refine x_iload C eL_law_840 rfl ?_
  refine x_if_ne 857 C eL_law_842 rfl (by omega) (fun _ => ?_) (fun h => absurd h (by decide))
  refine x_goto (pc' := 2791) C eL_law_857 rfl ?_
  refine x_pick [_, _, _, _, _, _, _, _, _, _, _, _, _, _, _, _, _, _, _, _, _, _, _, _, _] [2, 3, 4, 5, 6, 8, 9, 10, 11, 12, 13, 14, 15, 16, 0, 1, 17, 18, 19, 20, 21, 22, 23, 7, 24] rfl rfl ?_
  refine x_lv [_, _, _, _, _, _, none, none, _] rfl (lx_drop _ [6, 7] rfl) ?_
  exact x_wide (by omega) (by omega) (K9 (hI.qI (by omega) (up_n (by decide)) (up_n (by decide)) (up_n (by decide)) (up_n (by decide)) (up_n (by decide)) (up_n (by decide))))

set_option maxHeartbeats 4000000 in
set_option maxRecDepth 100000 in
theorem lc_11_2 {G : Gm} {X : Cx} {l : Launch} {x : LFx} {k nn : Nat} {i b : Int} {J : Nat → Int} {M : Pool} {n : Net} {N K : Nat → Net} {Fu Fb : Nat → Int} {w : List Int} {z : Int} {I TL TB : Nat → Int} {N9 : Nat → Net} {f : Nat → Int64} {fD : Nat → UInt64} {a1 a2 : Int} (H : LKn G l x) {nmL : String} (hC : OKc G X l RL nmL cL_law 9 (some .boolean) 1400 600000 6200000) (hI : INV b J M n N K Fu Fb w z I) (hb : b ≤ 15000000) (hk : k + 100 ≤ 600000) (hn : nn + 2200 ≤ 6200000) (hi : 0 ≤ i ∧ i + 6 ≤ (x.L : Int)) (ha1 : (x.xs (i + 1).toNat).toInt = a1) (ha2 : (x.xs (i + 2).toNat).toInt = a2) (hi9 : 0 ≤ a1 ∧ a1 < n (-1) 7) (hw : ¬ (0 ≤ a2 ∧ a2 < 5)) (K9 : LCont G X x (b + 8000) (k + 100) (nn + 2200) i) : WX G X k nn (LAT G x J M n N K Fu Fb w z I TL TB N9 f fD) 792 (LLV x i) [] := by
  have C := hC
  have hK : KG G := H.hX.1.1.1
  have hH := hI.hN.1.1
  unfold HeadOk at hH
  have r1 : -2147483648 ≤ a1 ∧ a1 < 2147483648 := by rw [← ha1]; exact bI_toInt _
  have r2 : -2147483648 ≤ a2 ∧ a2 < 2147483648 := by rw [← ha2]; exact bI_toInt _
  refine x_aload_n C eL_law_792 rfl ?_
  refine x_argA C H.hx H.hbl H.hL eL_law_793 eL_law_794 eL_law_796 eL_law_797 eL_law_798 rfl rfl (by omega) ha1 ?_
  refine x_argA C H.hx H.hbl H.hL eL_law_799 eL_law_800 eL_law_802 eL_law_803 eL_law_804 rfl rfl (by omega) ha2 ?_
  refine x_aload_n C eL_law_805 rfl ?_
  refine x_callSW (As := [_, _, _, _]) [_, _, _, _, _, _, _, _, _, _, _, _, _, _, _, _, _, _, _] C (wx_logged_2 hK (t_X7_logged_37 H.hX H.hT0 hI.hN.1 (by omega) (by omega) (by omega) (by omega)) (xwd_c (i := 1) H.hX rfl) H.n1 (rcv 0 rfl)) cw_logged s_RL_186 eL_law_806 rfl (fun _ _ h => WF_pick [0, 1, 2, 3, 4, 23, 5, 6, 7, 8, 9, 10, 11, 12, 13, 14, 15, 16, 17, 18, 19, 20, 21, 22, 24] rfl rfl h) rfl (nle rfl) (nle rfl) (by omega) (by omega) (fun _ _ => ?_)
  refine x_pick [_, _, _, _, _, _, _, _, _, _, _, _, _, _, _, _, _, _, _, _, _, _, _, _, _] [0, 1, 2, 3, 4, 5, 6, 7, 8, 9, 10, 11, 12, 13, 14, 15, 16, 17, 18, 19, 20, 21, 22, 23, 24] rfl rfl ?_
  refine x_istore [_, _, _, _, _, _, _, _, _] C eL_law_809 rfl rfl (nlt rfl) ?_
  refine x_aload_n C eL_law_811 rfl ?_
  refine x_argA C H.hx H.hbl H.hL eL_law_812 eL_law_813 eL_law_815 eL_law_816 eL_law_817 rfl rfl (by omega) ha1 ?_
  refine x_argA C H.hx H.hbl H.hL eL_law_818 eL_law_819 eL_law_821 eL_law_822 eL_law_823 rfl rfl (by omega) ha2 ?_
  have c1 : 0 ≤ a1 ∧ a1 ≤ n (-1) 7 - 1 := by first | trivial | omega | (simp only [if_true, if_false]; omega)
  have c2 : ¬ (0 ≤ a2 ∧ a2 ≤ 4) := by first | omega | (simp only [if_true, if_false]; omega)
  have hM := s_X8_logged (G := G) (l := l) (o := x.o) (A := x.A) (I := I) (N := N9) (n := n) (b := b) (i9 := a1) (w9 := a2) hK hI.hN.1 (by omega) (by omega) (by omega)
  simp only [if_neg (show ¬ ((0 ≤ a1 ∧ a1 ≤ n (-1) 7 - 1) ∧ (0 ≤ a2 ∧ a2 ≤ 4) ∧ (True)) from fun q => c2 q.2.1), thr_2 c1 c2] at hM
  refine yV2r [_, _, _, _, _, _, _, _, _, _, _, _, _, _, _, _, _, _, _, _, _, _, _] [_, _, _, _, _, _, _, _, _, _, _, _, _, _, _, _, _, _, _, _, _, _, _, _, _] C hM v_X8_logged vv_X8_logged s_RL_188 eL_law_824 (fun _ _ h => WF_pick [15, 16, 0, 1, 2, 3, 4, 5, 6, 7, 8, 9, 10, 11, 12, 13, 14, 17, 18, 19, 20, 21, 22, 23, 24] rfl rfl h) (rcv 15 rfl) rfl (nle rfl) (nle rfl) (by omega) (by omega) rfl ?_
  refine x_istore [_, _, _, _, _, _, _, _, _] C eL_law_827 rfl rfl (nlt rfl) ?_
  refine x_aload_n C eL_law_829 rfl ?_
  refine yV0r [_, _, _, _, _, _, _, _, _, _, _, _, _, _, _, _, _, _, _, _, _, _, _, _] [_, _, _, _, _, _, _, _, _, _, _, _, _, _, _, _, _, _, _, _, _, _, _, _, _] C (s_X8_thrown hK) v_X8_thrown vv_X8_thrown s_RL_145 eL_law_830 (fun _ _ h => WF_pick [0, 1, 2, 3, 4, 5, 6, 7, 8, 9, 10, 11, 12, 13, 14, 15, 16, 17, 18, 19, 20, 21, 22, 23, 24] rfl rfl h) (rcv 0 rfl) rfl (nle rfl) (nle rfl) (by omega) (by omega) rfl ?_
  refine x_iload C eL_law_833 rfl ?_
  refine x_icmp_val (by first | exact up_s _ _ _ | exact (up_n (by decide)).trans (up_s _ _ _)) 840 C eL_law_835 rfl ?_
  refine x_iload C eL_law_840 rfl ?_
  refine x_if_ne 857 C eL_law_842 rfl (by omega) (fun _ => ?_) (fun h => absurd h (by decide))
  refine x_goto (pc' := 2791) C eL_law_857 rfl ?_
  refine x_pick [_, _, _, _, _, _, _, _, _, _, _, _, _, _, _, _, _, _, _, _, _, _, _, _, _] [2, 3, 4, 5, 6, 8, 9, 10, 11, 12, 13, 14, 15, 16, 0, 1, 17, 18, 19, 20, 21, 22, 23, 7, 24] rfl rfl ?_
  refine x_lv [_, _, _, _, _, _, none, none, _] rfl (lx_drop _ [6, 7] rfl) ?_
  exact x_wide (by omega) (by omega) (K9 (hI.qI (by omega) (up_n (by decide)) (up_n (by decide)) (up_n (by decide)) (up_n (by decide)) (up_n (by decide)) (up_n (by decide))))

set_option maxHeartbeats 4000000 in
set_option maxRecDepth 100000 in
theorem lc_16_0 {G : Gm} {X : Cx} {l : Launch} {x : LFx} {k nn : Nat} {i b : Int} {J : Nat → Int} {M : Pool} {n : Net} {N K : Nat → Net} {Fu Fb : Nat → Int} {w : List Int} {z : Int} {I TL TB : Nat → Int} {N9 : Nat → Net} {f : Nat → Int64} {fD : Nat → UInt64} {a1 a2 : Int} (H : LKn G l x) {nmL : String} (hC : OKc G X l RL nmL cL_law 9 (some .boolean) 1400 600000 6200000) (hI : INV b J M n N K Fu Fb w z I) (hb : b ≤ 15000000) (hk : k + 100 ≤ 600000) (hn : nn + 2200 ≤ 6200000) (hi : 0 ≤ i ∧ i + 6 ≤ (x.L : Int)) (ha1 : (x.xs (i + 1).toNat).toInt = a1) (ha2 : (x.xs (i + 2).toNat).toInt = a2) (hl : 0 ≤ a1 ∧ a1 < n (-1) 0) (ht : 0 ≤ a2 ∧ a2 ≤ 500) (K9 : LCont G X x (b + 8000) (k + 100) (nn + 2200) i) : WX G X k nn (LAT G x J M n N K Fu Fb w z I TL TB N9 f fD) 998 (LLV x i) [] := by
  have C := hC
  have hK : KG G := H.hX.1.1.1
  have hH := hI.hN.1.1
  unfold HeadOk at hH
  have r1 : -2147483648 ≤ a1 ∧ a1 < 2147483648 := by rw [← ha1]; exact bI_toInt _
  have r2 : -2147483648 ≤ a2 ∧ a2 < 2147483648 := by rw [← ha2]; exact bI_toInt _
  refine x_aload_n C eL_law_998 rfl ?_
  refine x_argA C H.hx H.hbl H.hL eL_law_999 eL_law_1000 eL_law_1002 eL_law_1003 eL_law_1004 rfl rfl (by omega) ha1 ?_
  refine x_argA C H.hx H.hbl H.hL eL_law_1005 eL_law_1006 eL_law_1008 eL_law_1009 eL_law_1010 rfl rfl (by omega) ha2 ?_
  refine x_aload_n C eL_law_1011 rfl ?_
  refine x_callSW (As := [_, _, _, _]) [_, _, _, _, _, _, _, _, _, _, _, _, _, _, _, _, _, _] C (wn_sentIn hK (s_X7_sentIn hK hI.hN.1 (by omega) (by omega) (by omega)) (rcv 0 rfl)) cw_sentIn s_RL_203 eL_law_1012 rfl (fun _ _ h => WF_pick [0, 1, 2, 3, 4, 5, 23, 6, 7, 8, 9, 10, 11, 12, 13, 14, 15, 16, 17, 18, 19, 20, 21, 22, 24] rfl rfl h) rfl (nle rfl) (nle rfl) (by omega) (by omega) (fun _ _ => ?_)
  refine x_pick [_, _, _, _, _, _, _, _, _, _, _, _, _, _, _, _, _, _, _, _, _, _, _, _, _] [0, 1, 2, 3, 4, 5, 6, 7, 8, 9, 10, 11, 12, 13, 14, 15, 16, 17, 18, 19, 20, 21, 22, 23, 24] rfl rfl ?_
  refine x_istore [_, _, _, _, _, _, _, _, _] C eL_law_1015 rfl rfl (nlt rfl) ?_
  refine x_aload_n C eL_law_1017 rfl ?_
  refine x_argA C H.hx H.hbl H.hL eL_law_1018 eL_law_1019 eL_law_1021 eL_law_1022 eL_law_1023 rfl rfl (by omega) ha1 ?_
  refine x_argA C H.hx H.hbl H.hL eL_law_1024 eL_law_1025 eL_law_1027 eL_law_1028 eL_law_1029 rfl rfl (by omega) ha2 ?_
  have c1 : 0 ≤ a1 ∧ a1 ≤ n (-1) 0 - 1 := by first | trivial | omega | (simp only [if_true, if_false]; omega)
  have c2 : 0 ≤ a2 ∧ a2 ≤ 500 := by first | trivial | omega | (simp only [if_true, if_false]; omega)
  have c3 : True := by first | trivial | omega | (simp only [if_true, if_false]; omega)
  have hM := s_X8_sentIn (G := G) (l := l) (o := x.o) (A := x.A) (I := I) (N := N9) (n := n) (b := b) (l9 := a1) (t9 := a2) hK hI.hN.1 (by omega) (by omega) (by omega)
  simp only [if_pos (show (0 ≤ a1 ∧ a1 ≤ n (-1) 0 - 1) ∧ (0 ≤ a2 ∧ a2 ≤ 500) ∧ (True) from ⟨c1, c2, c3⟩), thr_0 c1 c2 c3] at hM
  refine yV2r [_, _, _, _, _, _, _, _, _, _, _, _, _, _, _, _, _, _, _, _, _, _, _] [_, _, _, _, _, _, _, _, _, _, _, _, _, _, _, _, _, _, _, _, _, _, _, _, _] C hM v_X8_sentIn vv_X8_sentIn s_RL_205 eL_law_1030 (fun _ _ h => WF_pick [15, 16, 0, 1, 2, 3, 4, 5, 6, 7, 8, 9, 10, 11, 12, 13, 14, 17, 18, 19, 20, 21, 22, 23, 24] rfl rfl h) (rcv 15 rfl) rfl (nle rfl) (nle rfl) (by omega) (by omega) rfl ?_
  refine x_oFQ (R := [_, _, _, _, _, _, _, _, _, _, _, _, _, _, _, _, _, _, _, _, _, _, _, _]) (fun _ _ h => WF_pick [1, 0, 2, 3, 4, 5, 6, 7, 8, 9, 10, 11, 12, 13, 14, 15, 16, 17, 18, 19, 20, 21, 22, 23, 24] rfl rfl h) (fun N8 => ?_)
  refine x_istore [_, _, _, _, _, _, _, _, _] C eL_law_1033 rfl rfl (nlt rfl) ?_
  refine x_aload_n C eL_law_1035 rfl ?_
  refine yV0r [_, _, _, _, _, _, _, _, _, _, _, _, _, _, _, _, _, _, _, _, _, _, _, _] [_, _, _, _, _, _, _, _, _, _, _, _, _, _, _, _, _, _, _, _, _, _, _, _, _] C (s_X8_thrown hK) v_X8_thrown vv_X8_thrown s_RL_145 eL_law_1036 (fun _ _ h => WF_pick [1, 0, 2, 3, 4, 5, 6, 7, 8, 9, 10, 11, 12, 13, 14, 15, 16, 17, 18, 19, 20, 21, 22, 23, 24] rfl rfl h) (rcv 1 rfl) rfl (nle rfl) (nle rfl) (by omega) (by omega) rfl ?_
  refine x_iload C eL_law_1039 rfl ?_
  refine x_icmp_val (by first | exact up_s _ _ _ | exact (up_n (by decide)).trans (up_s _ _ _)) 1046 C eL_law_1041 rfl ?_
  refine x_iload C eL_law_1046 rfl ?_
  refine x_if_ne 1063 C eL_law_1048 rfl (by omega) (fun h => absurd rfl h) (fun _ => ?_)
  refine x_aload_n C eL_law_1051 rfl ?_
  refine x_iconst C eL_law_1052 ?_
  refine x_lald (N := 1) 8 C eL_law_1053 rfl (by decide) (by omega) ?_
  refine x_iload C eL_law_1054 rfl ?_
  refine x_i2lR C eL_law_1056 ?_
  refine x_lcmp_same 1063 (by first | exact if_pos rfl | (rw [if_pos rfl]; rfl) | decide) C eL_law_1057 eL_law_1058 rfl ?_
  refine x_goto (pc' := 2791) C eL_law_1063 rfl ?_
  refine x_pick [_, _, _, _, _, _, _, _, _, _, _, _, _, _, _, _, _, _, _, _, _, _, _, _, _] [2, 3, 4, 5, 6, 7, 9, 10, 11, 12, 13, 14, 15, 16, 0, 1, 17, 18, 19, 20, 21, 22, 23, 8, 24] rfl rfl ?_
  refine x_lv [_, _, _, _, _, _, none, none, _] rfl (lx_drop _ [6, 7] rfl) ?_
  exact x_wide (by omega) (by omega) (K9 (hI.qI (by omega) (up_n (by decide)) (up_n (by decide)) (up_n (by decide)) (up_n (by decide)) (up_n (by decide)) (up_n (by decide))))

set_option maxHeartbeats 4000000 in
set_option maxRecDepth 100000 in
theorem lc_16_1 {G : Gm} {X : Cx} {l : Launch} {x : LFx} {k nn : Nat} {i b : Int} {J : Nat → Int} {M : Pool} {n : Net} {N K : Nat → Net} {Fu Fb : Nat → Int} {w : List Int} {z : Int} {I TL TB : Nat → Int} {N9 : Nat → Net} {f : Nat → Int64} {fD : Nat → UInt64} {a1 a2 : Int} (H : LKn G l x) {nmL : String} (hC : OKc G X l RL nmL cL_law 9 (some .boolean) 1400 600000 6200000) (hI : INV b J M n N K Fu Fb w z I) (hb : b ≤ 15000000) (hk : k + 100 ≤ 600000) (hn : nn + 2200 ≤ 6200000) (hi : 0 ≤ i ∧ i + 6 ≤ (x.L : Int)) (ha1 : (x.xs (i + 1).toNat).toInt = a1) (ha2 : (x.xs (i + 2).toNat).toInt = a2) (hl : ¬ (0 ≤ a1 ∧ a1 < n (-1) 0)) (K9 : LCont G X x (b + 8000) (k + 100) (nn + 2200) i) : WX G X k nn (LAT G x J M n N K Fu Fb w z I TL TB N9 f fD) 998 (LLV x i) [] := by
  have C := hC
  have hK : KG G := H.hX.1.1.1
  have hH := hI.hN.1.1
  unfold HeadOk at hH
  have r1 : -2147483648 ≤ a1 ∧ a1 < 2147483648 := by rw [← ha1]; exact bI_toInt _
  have r2 : -2147483648 ≤ a2 ∧ a2 < 2147483648 := by rw [← ha2]; exact bI_toInt _
  refine x_aload_n C eL_law_998 rfl ?_
  refine x_argA C H.hx H.hbl H.hL eL_law_999 eL_law_1000 eL_law_1002 eL_law_1003 eL_law_1004 rfl rfl (by omega) ha1 ?_
  refine x_argA C H.hx H.hbl H.hL eL_law_1005 eL_law_1006 eL_law_1008 eL_law_1009 eL_law_1010 rfl rfl (by omega) ha2 ?_
  refine x_aload_n C eL_law_1011 rfl ?_
  refine x_callSW (As := [_, _, _, _]) [_, _, _, _, _, _, _, _, _, _, _, _, _, _, _, _, _, _, _, _, _, _] C (wx_sentIn_1 hK (t_X7_sentIn_2 H.hX H.hT0 (by omega) (by omega) (by omega)) (xwd_c (i := 0) H.hX rfl) (rcv 0 rfl)) cw_sentIn s_RL_203 eL_law_1012 rfl (fun _ _ h => WF_pick [0, 1, 23, 2, 3, 4, 5, 6, 7, 8, 9, 10, 11, 12, 13, 14, 15, 16, 17, 18, 19, 20, 21, 22, 24] rfl rfl h) rfl (nle rfl) (nle rfl) (by omega) (by omega) (fun _ _ => ?_)
  refine x_pick [_, _, _, _, _, _, _, _, _, _, _, _, _, _, _, _, _, _, _, _, _, _, _, _, _] [0, 1, 2, 3, 4, 5, 6, 7, 8, 9, 10, 11, 12, 13, 14, 15, 16, 17, 18, 19, 20, 21, 22, 23, 24] rfl rfl ?_
  refine x_istore [_, _, _, _, _, _, _, _, _] C eL_law_1015 rfl rfl (nlt rfl) ?_
  refine x_aload_n C eL_law_1017 rfl ?_
  refine x_argA C H.hx H.hbl H.hL eL_law_1018 eL_law_1019 eL_law_1021 eL_law_1022 eL_law_1023 rfl rfl (by omega) ha1 ?_
  refine x_argA C H.hx H.hbl H.hL eL_law_1024 eL_law_1025 eL_law_1027 eL_law_1028 eL_law_1029 rfl rfl (by omega) ha2 ?_
  have c1 : ¬ (0 ≤ a1 ∧ a1 ≤ n (-1) 0 - 1) := by first | omega | (simp only [if_true, if_false]; omega)
  have hM := s_X8_sentIn (G := G) (l := l) (o := x.o) (A := x.A) (I := I) (N := N9) (n := n) (b := b) (l9 := a1) (t9 := a2) hK hI.hN.1 (by omega) (by omega) (by omega)
  simp only [if_neg (show ¬ ((0 ≤ a1 ∧ a1 ≤ n (-1) 0 - 1) ∧ (0 ≤ a2 ∧ a2 ≤ 500) ∧ (True)) from fun q => c1 q.1), thr_1 c1] at hM
  refine yV2r [_, _, _, _, _, _, _, _, _, _, _, _, _, _, _, _, _, _, _, _, _, _, _] [_, _, _, _, _, _, _, _, _, _, _, _, _, _, _, _, _, _, _, _, _, _, _, _, _] C hM v_X8_sentIn vv_X8_sentIn s_RL_205 eL_law_1030 (fun _ _ h => WF_pick [15, 16, 0, 1, 2, 3, 4, 5, 6, 7, 8, 9, 10, 11, 12, 13, 14, 17, 18, 19, 20, 21, 22, 23, 24] rfl rfl h) (rcv 15 rfl) rfl (nle rfl) (nle rfl) (by omega) (by omega) rfl ?_
  refine x_oFQ (R := [_, _, _, _, _, _, _, _, _, _, _, _, _, _, _, _, _, _, _, _, _, _, _, _]) (fun _ _ h => WF_pick [1, 0, 2, 3, 4, 5, 6, 7, 8, 9, 10, 11, 12, 13, 14, 15, 16, 17, 18, 19, 20, 21, 22, 23, 24] rfl rfl h) (fun N8 => ?_)
  refine x_istore [_, _, _, _, _, _, _, _, _] C eL_law_1033 rfl rfl (nlt rfl) ?_
  refine x_aload_n C eL_law_1035 rfl ?_
  refine yV0r [_, _, _, _, _, _, _, _, _, _, _, _, _, _, _, _, _, _, _, _, _, _, _, _] [_, _, _, _, _, _, _, _, _, _, _, _, _, _, _, _, _, _, _, _, _, _, _, _, _] C (s_X8_thrown hK) v_X8_thrown vv_X8_thrown s_RL_145 eL_law_1036 (fun _ _ h => WF_pick [1, 0, 2, 3, 4, 5, 6, 7, 8, 9, 10, 11, 12, 13, 14, 15, 16, 17, 18, 19, 20, 21, 22, 23, 24] rfl rfl h) (rcv 1 rfl) rfl (nle rfl) (nle rfl) (by omega) (by omega) rfl ?_
  refine x_iload C eL_law_1039 rfl ?_
  refine x_icmp_val (by first | exact up_s _ _ _ | exact (up_n (by decide)).trans (up_s _ _ _)) 1046 C eL_law_1041 rfl ?_
  refine x_iload C eL_law_1046 rfl ?_
  refine x_if_ne 1063 C eL_law_1048 rfl (by omega) (fun _ => ?_) (fun h => absurd h (by decide))
  refine x_goto (pc' := 2791) C eL_law_1063 rfl ?_
  refine x_pick [_, _, _, _, _, _, _, _, _, _, _, _, _, _, _, _, _, _, _, _, _, _, _, _, _] [2, 3, 5, 6, 7, 8, 9, 10, 11, 12, 13, 14, 15, 16, 0, 1, 17, 18, 19, 20, 21, 22, 23, 4, 24] rfl rfl ?_
  refine x_lv [_, _, _, _, _, _, none, none, _] rfl (lx_drop _ [6, 7] rfl) ?_
  exact x_wide (by omega) (by omega) (K9 (hI.qI (by omega) (up_n (by decide)) (up_n (by decide)) (up_n (by decide)) (up_n (by decide)) (up_n (by decide)) (up_n (by decide))))

set_option maxHeartbeats 4000000 in
set_option maxRecDepth 100000 in
theorem lc_16_2 {G : Gm} {X : Cx} {l : Launch} {x : LFx} {k nn : Nat} {i b : Int} {J : Nat → Int} {M : Pool} {n : Net} {N K : Nat → Net} {Fu Fb : Nat → Int} {w : List Int} {z : Int} {I TL TB : Nat → Int} {N9 : Nat → Net} {f : Nat → Int64} {fD : Nat → UInt64} {a1 a2 : Int} (H : LKn G l x) {nmL : String} (hC : OKc G X l RL nmL cL_law 9 (some .boolean) 1400 600000 6200000) (hI : INV b J M n N K Fu Fb w z I) (hb : b ≤ 15000000) (hk : k + 100 ≤ 600000) (hn : nn + 2200 ≤ 6200000) (hi : 0 ≤ i ∧ i + 6 ≤ (x.L : Int)) (ha1 : (x.xs (i + 1).toNat).toInt = a1) (ha2 : (x.xs (i + 2).toNat).toInt = a2) (hl : 0 ≤ a1 ∧ a1 < n (-1) 0) (ht : ¬ (0 ≤ a2 ∧ a2 ≤ 500)) (K9 : LCont G X x (b + 8000) (k + 100) (nn + 2200) i) : WX G X k nn (LAT G x J M n N K Fu Fb w z I TL TB N9 f fD) 998 (LLV x i) [] := by
  have C := hC
  have hK : KG G := H.hX.1.1.1
  have hH := hI.hN.1.1
  unfold HeadOk at hH
  have r1 : -2147483648 ≤ a1 ∧ a1 < 2147483648 := by rw [← ha1]; exact bI_toInt _
  have r2 : -2147483648 ≤ a2 ∧ a2 < 2147483648 := by rw [← ha2]; exact bI_toInt _
  refine x_aload_n C eL_law_998 rfl ?_
  refine x_argA C H.hx H.hbl H.hL eL_law_999 eL_law_1000 eL_law_1002 eL_law_1003 eL_law_1004 rfl rfl (by omega) ha1 ?_
  refine x_argA C H.hx H.hbl H.hL eL_law_1005 eL_law_1006 eL_law_1008 eL_law_1009 eL_law_1010 rfl rfl (by omega) ha2 ?_
  refine x_aload_n C eL_law_1011 rfl ?_
  refine x_callSW (As := [_, _, _, _]) [_, _, _, _, _, _, _, _, _, _, _, _, _, _, _, _, _, _, _, _, _, _] C (wx_sentIn_2 hK (t_X7_sentIn_10 H.hX H.hT0 (by omega) (by omega) (by omega) (by omega)) (xwd_c (i := 1) H.hX rfl) H.n1 (rcv 0 rfl)) cw_sentIn s_RL_203 eL_law_1012 rfl (fun _ _ h => WF_pick [0, 1, 23, 2, 3, 4, 5, 6, 7, 8, 9, 10, 11, 12, 13, 14, 15, 16, 17, 18, 19, 20, 21, 22, 24] rfl rfl h) rfl (nle rfl) (nle rfl) (by omega) (by omega) (fun _ _ => ?_)
  refine x_pick [_, _, _, _, _, _, _, _, _, _, _, _, _, _, _, _, _, _, _, _, _, _, _, _, _] [0, 1, 2, 3, 4, 5, 6, 7, 8, 9, 10, 11, 12, 13, 14, 15, 16, 17, 18, 19, 20, 21, 22, 23, 24] rfl rfl ?_
  refine x_istore [_, _, _, _, _, _, _, _, _] C eL_law_1015 rfl rfl (nlt rfl) ?_
  refine x_aload_n C eL_law_1017 rfl ?_
  refine x_argA C H.hx H.hbl H.hL eL_law_1018 eL_law_1019 eL_law_1021 eL_law_1022 eL_law_1023 rfl rfl (by omega) ha1 ?_
  refine x_argA C H.hx H.hbl H.hL eL_law_1024 eL_law_1025 eL_law_1027 eL_law_1028 eL_law_1029 rfl rfl (by omega) ha2 ?_
  have c1 : 0 ≤ a1 ∧ a1 ≤ n (-1) 0 - 1 := by first | trivial | omega | (simp only [if_true, if_false]; omega)
  have c2 : ¬ (0 ≤ a2 ∧ a2 ≤ 500) := by first | omega | (simp only [if_true, if_false]; omega)
  have hM := s_X8_sentIn (G := G) (l := l) (o := x.o) (A := x.A) (I := I) (N := N9) (n := n) (b := b) (l9 := a1) (t9 := a2) hK hI.hN.1 (by omega) (by omega) (by omega)
  simp only [if_neg (show ¬ ((0 ≤ a1 ∧ a1 ≤ n (-1) 0 - 1) ∧ (0 ≤ a2 ∧ a2 ≤ 500) ∧ (True)) from fun q => c2 q.2.1), thr_2 c1 c2] at hM
  refine yV2r [_, _, _, _, _, _, _, _, _, _, _, _, _, _, _, _, _, _, _, _, _, _, _] [_, _, _, _, _, _, _, _, _, _, _, _, _, _, _, _, _, _, _, _, _, _, _, _, _] C hM v_X8_sentIn vv_X8_sentIn s_RL_205 eL_law_1030 (fun _ _ h => WF_pick [15, 16, 0, 1, 2, 3, 4, 5, 6, 7, 8, 9, 10, 11, 12, 13, 14, 17, 18, 19, 20, 21, 22, 23, 24] rfl rfl h) (rcv 15 rfl) rfl (nle rfl) (nle rfl) (by omega) (by omega) rfl ?_
  refine x_oFQ (R := [_, _, _, _, _, _, _, _, _, _, _, _, _, _, _, _, _, _, _, _, _, _, _, _]) (fun _ _ h => WF_pick [1, 0, 2, 3, 4, 5, 6, 7, 8, 9, 10, 11, 12, 13, 14, 15, 16, 17, 18, 19, 20, 21, 22, 23, 24] rfl rfl h) (fun N8 => ?_)
  refine x_istore [_, _, _, _, _, _, _, _, _] C eL_law_1033 rfl rfl (nlt rfl) ?_
  refine x_aload_n C eL_law_1035 rfl ?_
  refine yV0r [_, _, _, _, _, _, _, _, _, _, _, _, _, _, _, _, _, _, _, _, _, _, _, _] [_, _, _, _, _, _, _, _, _, _, _, _, _, _, _, _, _, _, _, _, _, _, _, _, _] C (s_X8_thrown hK) v_X8_thrown vv_X8_thrown s_RL_145 eL_law_1036 (fun _ _ h => WF_pick [1, 0, 2, 3, 4, 5, 6, 7, 8, 9, 10, 11, 12, 13, 14, 15, 16, 17, 18, 19, 20, 21, 22, 23, 24] rfl rfl h) (rcv 1 rfl) rfl (nle rfl) (nle rfl) (by omega) (by omega) rfl ?_
  refine x_iload C eL_law_1039 rfl ?_
  refine x_icmp_val (by first | exact up_s _ _ _ | exact (up_n (by decide)).trans (up_s _ _ _)) 1046 C eL_law_1041 rfl ?_
  refine x_iload C eL_law_1046 rfl ?_
  refine x_if_ne 1063 C eL_law_1048 rfl (by omega) (fun _ => ?_) (fun h => absurd h (by decide))
  refine x_goto (pc' := 2791) C eL_law_1063 rfl ?_
  refine x_pick [_, _, _, _, _, _, _, _, _, _, _, _, _, _, _, _, _, _, _, _, _, _, _, _, _] [2, 3, 5, 6, 7, 8, 9, 10, 11, 12, 13, 14, 15, 16, 0, 1, 17, 18, 19, 20, 21, 22, 23, 4, 24] rfl rfl ?_
  refine x_lv [_, _, _, _, _, _, none, none, _] rfl (lx_drop _ [6, 7] rfl) ?_
  exact x_wide (by omega) (by omega) (K9 (hI.qI (by omega) (up_n (by decide)) (up_n (by decide)) (up_n (by decide)) (up_n (by decide)) (up_n (by decide)) (up_n (by decide))))

set_option maxHeartbeats 4000000 in
set_option maxRecDepth 100000 in
theorem lc_17_0 {G : Gm} {X : Cx} {l : Launch} {x : LFx} {k nn : Nat} {i b : Int} {J : Nat → Int} {M : Pool} {n : Net} {N K : Nat → Net} {Fu Fb : Nat → Int} {w : List Int} {z : Int} {I TL TB : Nat → Int} {N9 : Nat → Net} {f : Nat → Int64} {fD : Nat → UInt64} {a1 a2 : Int} (H : LKn G l x) {nmL : String} (hC : OKc G X l RL nmL cL_law 9 (some .boolean) 1400 600000 6200000) (hI : INV b J M n N K Fu Fb w z I) (hb : b ≤ 15000000) (hk : k + 100 ≤ 600000) (hn : nn + 2200 ≤ 6200000) (hi : 0 ≤ i ∧ i + 6 ≤ (x.L : Int)) (ha1 : (x.xs (i + 1).toNat).toInt = a1) (ha2 : (x.xs (i + 2).toNat).toInt = a2) (hl : 0 ≤ a1 ∧ a1 < n (-1) 0) (ht : 0 ≤ a2 ∧ a2 ≤ 500) (K9 : LCont G X x (b + 8000) (k + 100) (nn + 2200) i) : WX G X k nn (LAT G x J M n N K Fu Fb w z I TL TB N9 f fD) 1066 (LLV x i) [] := by
  have C := hC
  have hK : KG G := H.hX.1.1.1
  have hH := hI.hN.1.1
  unfold HeadOk at hH
  have r1 : -2147483648 ≤ a1 ∧ a1 < 2147483648 := by rw [← ha1]; exact bI_toInt _
  have r2 : -2147483648 ≤ a2 ∧ a2 < 2147483648 := by rw [← ha2]; exact bI_toInt _
  refine x_aload_n C eL_law_1066 rfl ?_
  refine x_argA C H.hx H.hbl H.hL eL_law_1067 eL_law_1068 eL_law_1070 eL_law_1071 eL_law_1072 rfl rfl (by omega) ha1 ?_
  refine x_argA C H.hx H.hbl H.hL eL_law_1073 eL_law_1074 eL_law_1076 eL_law_1077 eL_law_1078 rfl rfl (by omega) ha2 ?_
  refine x_aload_n C eL_law_1079 rfl ?_
  refine x_callSW (As := [_, _, _, _]) [_, _, _, _, _, _, _, _, _, _, _, _, _, _, _, _, _, _] C (wn_deliveredIn hK (s_X7_deliveredIn hK hI.hN.1 (by omega) (by omega) (by omega)) (rcv 0 rfl)) cw_deliveredIn s_RL_206 eL_law_1080 rfl (fun _ _ h => WF_pick [0, 1, 2, 3, 4, 5, 23, 6, 7, 8, 9, 10, 11, 12, 13, 14, 15, 16, 17, 18, 19, 20, 21, 22, 24] rfl rfl h) rfl (nle rfl) (nle rfl) (by omega) (by omega) (fun _ _ => ?_)
  refine x_pick [_, _, _, _, _, _, _, _, _, _, _, _, _, _, _, _, _, _, _, _, _, _, _, _, _] [0, 1, 2, 3, 4, 5, 6, 7, 8, 9, 10, 11, 12, 13, 14, 15, 16, 17, 18, 19, 20, 21, 22, 23, 24] rfl rfl ?_
  refine x_istore [_, _, _, _, _, _, _, _, _] C eL_law_1083 rfl rfl (nlt rfl) ?_
  refine x_aload_n C eL_law_1085 rfl ?_
  refine x_argA C H.hx H.hbl H.hL eL_law_1086 eL_law_1087 eL_law_1089 eL_law_1090 eL_law_1091 rfl rfl (by omega) ha1 ?_
  refine x_argA C H.hx H.hbl H.hL eL_law_1092 eL_law_1093 eL_law_1095 eL_law_1096 eL_law_1097 rfl rfl (by omega) ha2 ?_
  have c1 : 0 ≤ a1 ∧ a1 ≤ n (-1) 0 - 1 := by first | trivial | omega | (simp only [if_true, if_false]; omega)
  have c2 : 0 ≤ a2 ∧ a2 ≤ 500 := by first | trivial | omega | (simp only [if_true, if_false]; omega)
  have c3 : True := by first | trivial | omega | (simp only [if_true, if_false]; omega)
  have hM := s_X8_deliveredIn (G := G) (l := l) (o := x.o) (A := x.A) (I := I) (N := N9) (n := n) (b := b) (l9 := a1) (t9 := a2) hK hI.hN.1 (by omega) (by omega) (by omega)
  simp only [if_pos (show (0 ≤ a1 ∧ a1 ≤ n (-1) 0 - 1) ∧ (0 ≤ a2 ∧ a2 ≤ 500) ∧ (True) from ⟨c1, c2, c3⟩), thr_0 c1 c2 c3] at hM
  refine yV2r [_, _, _, _, _, _, _, _, _, _, _, _, _, _, _, _, _, _, _, _, _, _, _] [_, _, _, _, _, _, _, _, _, _, _, _, _, _, _, _, _, _, _, _, _, _, _, _, _] C hM v_X8_deliveredIn vv_X8_deliveredIn s_RL_208 eL_law_1098 (fun _ _ h => WF_pick [15, 16, 0, 1, 2, 3, 4, 5, 6, 7, 8, 9, 10, 11, 12, 13, 14, 17, 18, 19, 20, 21, 22, 23, 24] rfl rfl h) (rcv 15 rfl) rfl (nle rfl) (nle rfl) (by omega) (by omega) rfl ?_
  refine x_oFQ (R := [_, _, _, _, _, _, _, _, _, _, _, _, _, _, _, _, _, _, _, _, _, _, _, _]) (fun _ _ h => WF_pick [1, 0, 2, 3, 4, 5, 6, 7, 8, 9, 10, 11, 12, 13, 14, 15, 16, 17, 18, 19, 20, 21, 22, 23, 24] rfl rfl h) (fun N8 => ?_)
  refine x_istore [_, _, _, _, _, _, _, _, _] C eL_law_1101 rfl rfl (nlt rfl) ?_
  refine x_aload_n C eL_law_1103 rfl ?_
  refine yV0r [_, _, _, _, _, _, _, _, _, _, _, _, _, _, _, _, _, _, _, _, _, _, _, _] [_, _, _, _, _, _, _, _, _, _, _, _, _, _, _, _, _, _, _, _, _, _, _, _, _] C (s_X8_thrown hK) v_X8_thrown vv_X8_thrown s_RL_145 eL_law_1104 (fun _ _ h => WF_pick [1, 0, 2, 3, 4, 5, 6, 7, 8, 9, 10, 11, 12, 13, 14, 15, 16, 17, 18, 19, 20, 21, 22, 23, 24] rfl rfl h) (rcv 1 rfl) rfl (nle rfl) (nle rfl) (by omega) (by omega) rfl ?_
  refine x_iload C eL_law_1107 rfl ?_
  refine x_icmp_val (by first | exact up_s _ _ _ | exact (up_n (by decide)).trans (up_s _ _ _)) 1114 C eL_law_1109 rfl ?_
  refine x_iload C eL_law_1114 rfl ?_
  refine x_if_ne 1131 C eL_law_1116 rfl (by omega) (fun h => absurd rfl h) (fun _ => ?_)
  refine x_aload_n C eL_law_1119 rfl ?_
  refine x_iconst C eL_law_1120 ?_
  refine x_lald (N := 1) 8 C eL_law_1121 rfl (by decide) (by omega) ?_
  refine x_iload C eL_law_1122 rfl ?_
  refine x_i2lR C eL_law_1124 ?_
  refine x_lcmp_same 1131 (by first | exact if_pos rfl | (rw [if_pos rfl]; rfl) | decide) C eL_law_1125 eL_law_1126 rfl ?_
  refine x_goto (pc' := 2791) C eL_law_1131 rfl ?_
  refine x_pick [_, _, _, _, _, _, _, _, _, _, _, _, _, _, _, _, _, _, _, _, _, _, _, _, _] [2, 3, 4, 5, 6, 7, 9, 10, 11, 12, 13, 14, 15, 16, 0, 1, 17, 18, 19, 20, 21, 22, 23, 8, 24] rfl rfl ?_
  refine x_lv [_, _, _, _, _, _, none, none, _] rfl (lx_drop _ [6, 7] rfl) ?_
  exact x_wide (by omega) (by omega) (K9 (hI.qI (by omega) (up_n (by decide)) (up_n (by decide)) (up_n (by decide)) (up_n (by decide)) (up_n (by decide)) (up_n (by decide))))

set_option maxHeartbeats 4000000 in
set_option maxRecDepth 100000 in
theorem lc_17_1 {G : Gm} {X : Cx} {l : Launch} {x : LFx} {k nn : Nat} {i b : Int} {J : Nat → Int} {M : Pool} {n : Net} {N K : Nat → Net} {Fu Fb : Nat → Int} {w : List Int} {z : Int} {I TL TB : Nat → Int} {N9 : Nat → Net} {f : Nat → Int64} {fD : Nat → UInt64} {a1 a2 : Int} (H : LKn G l x) {nmL : String} (hC : OKc G X l RL nmL cL_law 9 (some .boolean) 1400 600000 6200000) (hI : INV b J M n N K Fu Fb w z I) (hb : b ≤ 15000000) (hk : k + 100 ≤ 600000) (hn : nn + 2200 ≤ 6200000) (hi : 0 ≤ i ∧ i + 6 ≤ (x.L : Int)) (ha1 : (x.xs (i + 1).toNat).toInt = a1) (ha2 : (x.xs (i + 2).toNat).toInt = a2) (hl : ¬ (0 ≤ a1 ∧ a1 < n (-1) 0)) (K9 : LCont G X x (b + 8000) (k + 100) (nn + 2200) i) : WX G X k nn (LAT G x J M n N K Fu Fb w z I TL TB N9 f fD) 1066 (LLV x i) [] := by
  have C := hC
  have hK : KG G := H.hX.1.1.1
  have hH := hI.hN.1.1
  unfold HeadOk at hH
  have r1 : -2147483648 ≤ a1 ∧ a1 < 2147483648 := by rw [← ha1]; exact bI_toInt _
  have r2 : -2147483648 ≤ a2 ∧ a2 < 2147483648 := by rw [← ha2]; exact bI_toInt _
  refine x_aload_n C eL_law_1066 rfl ?_
  refine x_argA C H.hx H.hbl H.hL eL_law_1067 eL_law_1068 eL_law_1070 eL_law_1071 eL_law_1072 rfl rfl (by omega) ha1 ?_
  refine x_argA C H.hx H.hbl H.hL eL_law_1073 eL_law_1074 eL_law_1076 eL_law_1077 eL_law_1078 rfl rfl (by omega) ha2 ?_
  refine x_aload_n C eL_law_1079 rfl ?_
  refine x_callSW (As := [_, _, _, _]) [_, _, _, _, _, _, _, _, _, _, _, _, _, _, _, _, _, _, _, _, _, _] C (wx_deliveredIn_1 hK (t_X7_deliveredIn_2 H.hX H.hT0 (by omega) (by omega) (by omega)) (xwd_c (i := 0) H.hX rfl) (rcv 0 rfl)) cw_deliveredIn s_RL_206 eL_law_1080 rfl (fun _ _ h => WF_pick [0, 1, 23, 2, 3, 4, 5, 6, 7, 8, 9, 10, 11, 12, 13, 14, 15, 16, 17, 18, 19, 20, 21, 22, 24] rfl rfl h) rfl (nle rfl) (nle rfl) (by omega) (by omega) (fun _ _ => ?_)
  refine x_pick [_, _, _, _, _, _, _, _, _, _, _, _, _, _, _, _, _, _, _, _, _, _, _, _, _] [0, 1, 2, 3, 4, 5, 6, 7, 8, 9, 10, 11, 12, 13, 14, 15, 16, 17, 18, 19, 20, 21, 22, 23, 24] rfl rfl ?_
  refine x_istore [_, _, _, _, _, _, _, _, _] C eL_law_1083 rfl rfl (nlt rfl) ?_
  refine x_aload_n C eL_law_1085 rfl ?_
  refine x_argA C H.hx H.hbl H.hL eL_law_1086 eL_law_1087 eL_law_1089 eL_law_1090 eL_law_1091 rfl rfl (by omega) ha1 ?_
  refine x_argA C H.hx H.hbl H.hL eL_law_1092 eL_law_1093 eL_law_1095 eL_law_1096 eL_law_1097 rfl rfl (by omega) ha2 ?_
  have c1 : ¬ (0 ≤ a1 ∧ a1 ≤ n (-1) 0 - 1) := by first | omega | (simp only [if_true, if_false]; omega)
  have hM := s_X8_deliveredIn (G := G) (l := l) (o := x.o) (A := x.A) (I := I) (N := N9) (n := n) (b := b) (l9 := a1) (t9 := a2) hK hI.hN.1 (by omega) (by omega) (by omega)
  simp only [if_neg (show ¬ ((0 ≤ a1 ∧ a1 ≤ n (-1) 0 - 1) ∧ (0 ≤ a2 ∧ a2 ≤ 500) ∧ (True)) from fun q => c1 q.1), thr_1 c1] at hM
  refine yV2r [_, _, _, _, _, _, _, _, _, _, _, _, _, _, _, _, _, _, _, _, _, _, _] [_, _, _, _, _, _, _, _, _, _, _, _, _, _, _, _, _, _, _, _, _, _, _, _, _] C hM v_X8_deliveredIn vv_X8_deliveredIn s_RL_208 eL_law_1098 (fun _ _ h => WF_pick [15, 16, 0, 1, 2, 3, 4, 5, 6, 7, 8, 9, 10, 11, 12, 13, 14, 17, 18, 19, 20, 21, 22, 23, 24] rfl rfl h) (rcv 15 rfl) rfl (nle rfl) (nle rfl) (by omega) (by omega) rfl ?_
  refine x_oFQ (R := [_, _, _, _, _, _, _, _, _, _, _, _, _, _, _, _, _, _, _, _, _, _, _, _]) (fun _ _ h => WF_pick [1, 0, 2, 3, 4, 5, 6, 7, 8, 9, 10, 11, 12, 13, 14, 15, 16, 17, 18, 19, 20, 21, 22, 23, 24] rfl rfl h) (fun N8 => ?_)
  refine x_istore [_, _, _, _, _, _, _, _, _] C eL_law_1101 rfl rfl (nlt rfl) ?_
  refine x_aload_n C eL_law_1103 rfl ?_
  refine yV0r [_, _, _, _, _, _, _, _, _, _, _, _, _, _, _, _, _, _, _, _, _, _, _, _] [_, _, _, _, _, _, _, _, _, _, _, _, _, _, _, _, _, _, _, _, _, _, _, _, _] C (s_X8_thrown hK) v_X8_thrown vv_X8_thrown s_RL_145 eL_law_1104 (fun _ _ h => WF_pick [1, 0, 2, 3, 4, 5, 6, 7, 8, 9, 10, 11, 12, 13, 14, 15, 16, 17, 18, 19, 20, 21, 22, 23, 24] rfl rfl h) (rcv 1 rfl) rfl (nle rfl) (nle rfl) (by omega) (by omega) rfl ?_
  refine x_iload C eL_law_1107 rfl ?_
  refine x_icmp_val (by first | exact up_s _ _ _ | exact (up_n (by decide)).trans (up_s _ _ _)) 1114 C eL_law_1109 rfl ?_
  refine x_iload C eL_law_1114 rfl ?_
  refine x_if_ne 1131 C eL_law_1116 rfl (by omega) (fun _ => ?_) (fun h => absurd h (by decide))
  refine x_goto (pc' := 2791) C eL_law_1131 rfl ?_
  refine x_pick [_, _, _, _, _, _, _, _, _, _, _, _, _, _, _, _, _, _, _, _, _, _, _, _, _] [2, 3, 5, 6, 7, 8, 9, 10, 11, 12, 13, 14, 15, 16, 0, 1, 17, 18, 19, 20, 21, 22, 23, 4, 24] rfl rfl ?_
  refine x_lv [_, _, _, _, _, _, none, none, _] rfl (lx_drop _ [6, 7] rfl) ?_
  exact x_wide (by omega) (by omega) (K9 (hI.qI (by omega) (up_n (by decide)) (up_n (by decide)) (up_n (by decide)) (up_n (by decide)) (up_n (by decide)) (up_n (by decide))))

set_option maxHeartbeats 4000000 in
set_option maxRecDepth 100000 in
theorem lc_17_2 {G : Gm} {X : Cx} {l : Launch} {x : LFx} {k nn : Nat} {i b : Int} {J : Nat → Int} {M : Pool} {n : Net} {N K : Nat → Net} {Fu Fb : Nat → Int} {w : List Int} {z : Int} {I TL TB : Nat → Int} {N9 : Nat → Net} {f : Nat → Int64} {fD : Nat → UInt64} {a1 a2 : Int} (H : LKn G l x) {nmL : String} (hC : OKc G X l RL nmL cL_law 9 (some .boolean) 1400 600000 6200000) (hI : INV b J M n N K Fu Fb w z I) (hb : b ≤ 15000000) (hk : k + 100 ≤ 600000) (hn : nn + 2200 ≤ 6200000) (hi : 0 ≤ i ∧ i + 6 ≤ (x.L : Int)) (ha1 : (x.xs (i + 1).toNat).toInt = a1) (ha2 : (x.xs (i + 2).toNat).toInt = a2) (hl : 0 ≤ a1 ∧ a1 < n (-1) 0) (ht : ¬ (0 ≤ a2 ∧ a2 ≤ 500)) (K9 : LCont G X x (b + 8000) (k + 100) (nn + 2200) i) : WX G X k nn (LAT G x J M n N K Fu Fb w z I TL TB N9 f fD) 1066 (LLV x i) [] := by
  have C := hC
  have hK : KG G := H.hX.1.1.1
  have hH := hI.hN.1.1
  unfold HeadOk at hH
  have r1 : -2147483648 ≤ a1 ∧ a1 < 2147483648 := by rw [← ha1]; exact bI_toInt _
  have r2 : -2147483648 ≤ a2 ∧ a2 < 2147483648 := by rw [← ha2]; exact bI_toInt _
  refine x_aload_n C eL_law_1066 rfl ?_
  refine x_argA C H.hx H.hbl H.hL eL_law_1067 eL_law_1068 eL_law_1070 eL_law_1071 eL_law_1072 rfl rfl (by omega) ha1 ?_
  refine x_argA C H.hx H.hbl H.hL eL_law_1073 eL_law_1074 eL_law_1076 eL_law_1077 eL_law_1078 rfl rfl (by omega) ha2 ?_
  refine x_aload_n C eL_law_1079 rfl ?_
  refine x_callSW (As := [_, _, _, _]) [_, _, _, _, _, _, _, _, _, _, _, _, _, _, _, _, _, _, _, _, _, _] C (wx_deliveredIn_2 hK (t_X7_deliveredIn_10 H.hX H.hT0 (by omega) (by omega) (by omega) (by omega)) (xwd_c (i := 1) H.hX rfl) H.n1 (rcv 0 rfl)) cw_deliveredIn s_RL_206 eL_law_1080 rfl (fun _ _ h => WF_pick [0, 1, 23, 2, 3, 4, 5, 6, 7, 8, 9, 10, 11, 12, 13, 14, 15, 16, 17, 18, 19, 20, 21, 22, 24] rfl rfl h) rfl (nle rfl) (nle rfl) (by omega) (by omega) (fun _ _ => ?_)
  refine x_pick [_, _, _, _, _, _, _, _, _, _, _, _, _, _, _, _, _, _, _, _, _, _, _, _, _] [0, 1, 2, 3, 4, 5, 6, 7, 8, 9, 10, 11, 12, 13, 14, 15, 16, 17, 18, 19, 20, 21, 22, 23, 24] rfl rfl ?_
  refine x_istore [_, _, _, _, _, _, _, _, _] C eL_law_1083 rfl rfl (nlt rfl) ?_
  refine x_aload_n C eL_law_1085 rfl ?_
  refine x_argA C H.hx H.hbl H.hL eL_law_1086 eL_law_1087 eL_law_1089 eL_law_1090 eL_law_1091 rfl rfl (by omega) ha1 ?_
  refine x_argA C H.hx H.hbl H.hL eL_law_1092 eL_law_1093 eL_law_1095 eL_law_1096 eL_law_1097 rfl rfl (by omega) ha2 ?_
  have c1 : 0 ≤ a1 ∧ a1 ≤ n (-1) 0 - 1 := by first | trivial | omega | (simp only [if_true, if_false]; omega)
  have c2 : ¬ (0 ≤ a2 ∧ a2 ≤ 500) := by first | omega | (simp only [if_true, if_false]; omega)
  have hM := s_X8_deliveredIn (G := G) (l := l) (o := x.o) (A := x.A) (I := I) (N := N9) (n := n) (b := b) (l9 := a1) (t9 := a2) hK hI.hN.1 (by omega) (by omega) (by omega)
  simp only [if_neg (show ¬ ((0 ≤ a1 ∧ a1 ≤ n (-1) 0 - 1) ∧ (0 ≤ a2 ∧ a2 ≤ 500) ∧ (True)) from fun q => c2 q.2.1), thr_2 c1 c2] at hM
  refine yV2r [_, _, _, _, _, _, _, _, _, _, _, _, _, _, _, _, _, _, _, _, _, _, _] [_, _, _, _, _, _, _, _, _, _, _, _, _, _, _, _, _, _, _, _, _, _, _, _, _] C hM v_X8_deliveredIn vv_X8_deliveredIn s_RL_208 eL_law_1098 (fun _ _ h => WF_pick [15, 16, 0, 1, 2, 3, 4, 5, 6, 7, 8, 9, 10, 11, 12, 13, 14, 17, 18, 19, 20, 21, 22, 23, 24] rfl rfl h) (rcv 15 rfl) rfl (nle rfl) (nle rfl) (by omega) (by omega) rfl ?_
  refine x_oFQ (R := [_, _, _, _, _, _, _, _, _, _, _, _, _, _, _, _, _, _, _, _, _, _, _, _]) (fun _ _ h => WF_pick [1, 0, 2, 3, 4, 5, 6, 7, 8, 9, 10, 11, 12, 13, 14, 15, 16, 17, 18, 19, 20, 21, 22, 23, 24] rfl rfl h) (fun N8 => ?_)
  refine x_istore [_, _, _, _, _, _, _, _, _] C eL_law_1101 rfl rfl (nlt rfl) ?_
  refine x_aload_n C eL_law_1103 rfl ?_
  refine yV0r [_, _, _, _, _, _, _, _, _, _, _, _, _, _, _, _, _, _, _, _, _, _, _, _] [_, _, _, _, _, _, _, _, _, _, _, _, _, _, _, _, _, _, _, _, _, _, _, _, _] C (s_X8_thrown hK) v_X8_thrown vv_X8_thrown s_RL_145 eL_law_1104 (fun _ _ h => WF_pick [1, 0, 2, 3, 4, 5, 6, 7, 8, 9, 10, 11, 12, 13, 14, 15, 16, 17, 18, 19, 20, 21, 22, 23, 24] rfl rfl h) (rcv 1 rfl) rfl (nle rfl) (nle rfl) (by omega) (by omega) rfl ?_
  refine x_iload C eL_law_1107 rfl ?_
  refine x_icmp_val (by first | exact up_s _ _ _ | exact (up_n (by decide)).trans (up_s _ _ _)) 1114 C eL_law_1109 rfl ?_
  refine x_iload C eL_law_1114 rfl ?_
  refine x_if_ne 1131 C eL_law_1116 rfl (by omega) (fun _ => ?_) (fun h => absurd h (by decide))
  refine x_goto (pc' := 2791) C eL_law_1131 rfl ?_
  refine x_pick [_, _, _, _, _, _, _, _, _, _, _, _, _, _, _, _, _, _, _, _, _, _, _, _, _] [2, 3, 5, 6, 7, 8, 9, 10, 11, 12, 13, 14, 15, 16, 0, 1, 17, 18, 19, 20, 21, 22, 23, 4, 24] rfl rfl ?_
  refine x_lv [_, _, _, _, _, _, none, none, _] rfl (lx_drop _ [6, 7] rfl) ?_
  exact x_wide (by omega) (by omega) (K9 (hI.qI (by omega) (up_n (by decide)) (up_n (by decide)) (up_n (by decide)) (up_n (by decide)) (up_n (by decide)) (up_n (by decide))))

set_option maxHeartbeats 4000000 in
set_option maxRecDepth 100000 in
theorem lc_21_0 {G : Gm} {X : Cx} {l : Launch} {x : LFx} {k nn : Nat} {i b : Int} {J : Nat → Int} {M : Pool} {n : Net} {N K : Nat → Net} {Fu Fb : Nat → Int} {w : List Int} {z : Int} {I TL TB : Nat → Int} {N9 : Nat → Net} {f : Nat → Int64} {fD : Nat → UInt64} {a1 a2 : Int} (H : LKn G l x) {nmL : String} (hC : OKc G X l RL nmL cL_law 9 (some .boolean) 1400 600000 6200000) (hI : INV b J M n N K Fu Fb w z I) (hb : b ≤ 15000000) (hk : k + 100 ≤ 600000) (hn : nn + 2200 ≤ 6200000) (hi : 0 ≤ i ∧ i + 6 ≤ (x.L : Int)) (ha1 : (x.xs (i + 1).toNat).toInt = a1) (ha2 : (x.xs (i + 2).toNat).toInt = a2) (hl : 0 ≤ a1 ∧ a1 < n (-1) 0) (ho : 0 ≤ a2 ∧ a2 < n (-1) 0) (hne : ¬ a2 = a1) (K9 : LCont G X x (b + 8000) (k + 100) (nn + 2200) i) : WX G X k nn (LAT G x J M n N K Fu Fb w z I TL TB N9 f fD) 1314 (LLV x i) [] := by
  have C := hC
  have hK : KG G := H.hX.1.1.1
  have hH := hI.hN.1.1
  unfold HeadOk at hH
  have r1 : -2147483648 ≤ a1 ∧ a1 < 2147483648 := by rw [← ha1]; exact bI_toInt _
  have r2 : -2147483648 ≤ a2 ∧ a2 < 2147483648 := by rw [← ha2]; exact bI_toInt _
  refine x_aload_n C eL_law_1314 rfl ?_
  refine x_argA C H.hx H.hbl H.hL eL_law_1315 eL_law_1316 eL_law_1318 eL_law_1319 eL_law_1320 rfl rfl (by omega) ha1 ?_
  refine x_argA C H.hx H.hbl H.hL eL_law_1321 eL_law_1322 eL_law_1324 eL_law_1325 eL_law_1326 rfl rfl (by omega) ha2 ?_
  refine x_aload_n C eL_law_1327 rfl ?_
  refine x_callSW (As := [_, _, _, _]) [_, _, _, _, _, _, _, _, _, _, _, _, _, _, _, _, _, _] C (wn_sentIfLent hK (s_X7_sentIfLent hK hI.hN.1 (by omega) (by omega) (by omega) (by omega)) (rcv 0 rfl)) cw_sentIfLent s_RL_218 eL_law_1328 rfl (fun _ _ h => WF_pick [0, 1, 2, 3, 4, 5, 23, 6, 7, 8, 9, 10, 11, 12, 13, 14, 15, 16, 17, 18, 19, 20, 21, 22, 24] rfl rfl h) rfl (nle rfl) (nle rfl) (by omega) (by omega) (fun _ _ => ?_)
  refine x_pick [_, _, _, _, _, _, _, _, _, _, _, _, _, _, _, _, _, _, _, _, _, _, _, _, _] [0, 1, 2, 3, 4, 5, 6, 7, 8, 9, 10, 11, 12, 13, 14, 15, 16, 17, 18, 19, 20, 21, 22, 23, 24] rfl rfl ?_
  refine x_istore [_, _, _, _, _, _, _, _, _] C eL_law_1331 rfl rfl (nlt rfl) ?_
  refine x_aload_n C eL_law_1333 rfl ?_
  refine x_argA C H.hx H.hbl H.hL eL_law_1334 eL_law_1335 eL_law_1337 eL_law_1338 eL_law_1339 rfl rfl (by omega) ha1 ?_
  refine x_argA C H.hx H.hbl H.hL eL_law_1340 eL_law_1341 eL_law_1343 eL_law_1344 eL_law_1345 rfl rfl (by omega) ha2 ?_
  have c1 : (0 ≤ a1 ∧ a1 ≤ n (-1) 0 - 1) ∧ 0 ≤ a2 ∧ a2 ≤ n (-1) 0 - 1 := by first | trivial | omega | (simp only [if_true, if_false]; omega)
  have c2 : ¬ a1 = a2 := by first | trivial | omega | (simp only [if_true, if_false]; omega)
  have c3 : True := by first | trivial | omega | (simp only [if_true, if_false]; omega)
  have hM := s_X8_sentIfLent (G := G) (l := l) (o := x.o) (A := x.A) (I := I) (N := N9) (n := n) (b := b) (l9 := a1) (o9 := a2) hK hI.hN.1 (by omega) (by omega) (by omega)
  simp only [if_pos (show ((0 ≤ a1 ∧ a1 ≤ n (-1) 0 - 1) ∧ 0 ≤ a2 ∧ a2 ≤ n (-1) 0 - 1) ∧ (¬ a1 = a2) ∧ (True) from ⟨c1, c2, c3⟩), thr_0 c1 c2 c3] at hM
  refine yV2r [_, _, _, _, _, _, _, _, _, _, _, _, _, _, _, _, _, _, _, _, _, _, _] [_, _, _, _, _, _, _, _, _, _, _, _, _, _, _, _, _, _, _, _, _, _, _, _, _] C hM v_X8_sentIfLent vv_X8_sentIfLent s_RL_220 eL_law_1346 (fun _ _ h => WF_pick [15, 16, 0, 1, 2, 3, 4, 5, 6, 7, 8, 9, 10, 11, 12, 13, 14, 17, 18, 19, 20, 21, 22, 23, 24] rfl rfl h) (rcv 15 rfl) rfl (nle rfl) (nle rfl) (by omega) (by omega) rfl ?_
  refine x_oFQ (R := [_, _, _, _, _, _, _, _, _, _, _, _, _, _, _, _, _, _, _, _, _, _, _, _]) (fun _ _ h => WF_pick [1, 0, 2, 3, 4, 5, 6, 7, 8, 9, 10, 11, 12, 13, 14, 15, 16, 17, 18, 19, 20, 21, 22, 23, 24] rfl rfl h) (fun N8 => ?_)
  refine x_istore [_, _, _, _, _, _, _, _, _] C eL_law_1349 rfl rfl (nlt rfl) ?_
  refine x_aload_n C eL_law_1351 rfl ?_
  refine yV0r [_, _, _, _, _, _, _, _, _, _, _, _, _, _, _, _, _, _, _, _, _, _, _, _] [_, _, _, _, _, _, _, _, _, _, _, _, _, _, _, _, _, _, _, _, _, _, _, _, _] C (s_X8_thrown hK) v_X8_thrown vv_X8_thrown s_RL_145 eL_law_1352 (fun _ _ h => WF_pick [1, 0, 2, 3, 4, 5, 6, 7, 8, 9, 10, 11, 12, 13, 14, 15, 16, 17, 18, 19, 20, 21, 22, 23, 24] rfl rfl h) (rcv 1 rfl) rfl (nle rfl) (nle rfl) (by omega) (by omega) rfl ?_
  refine x_iload C eL_law_1355 rfl ?_
  refine x_icmp_val (by first | exact up_s _ _ _ | exact (up_n (by decide)).trans (up_s _ _ _)) 1362 C eL_law_1357 rfl ?_
  refine x_iload C eL_law_1362 rfl ?_
  refine x_if_ne 1379 C eL_law_1364 rfl (by omega) (fun h => absurd rfl h) (fun _ => ?_)
  refine x_aload_n C eL_law_1367 rfl ?_
  refine x_iconst C eL_law_1368 ?_
  refine x_lald (N := 1) 8 C eL_law_1369 rfl (by decide) (by omega) ?_
  refine x_iload C eL_law_1370 rfl ?_
  refine x_i2lR C eL_law_1372 ?_
  refine x_lcmp_same 1379 (by first | exact if_pos rfl | (rw [if_pos rfl]; rfl) | decide) C eL_law_1373 eL_law_1374 rfl ?_
  refine x_goto (pc' := 2791) C eL_law_1379 rfl ?_
  refine x_pick [_, _, _, _, _, _, _, _, _, _, _, _, _, _, _, _, _, _, _, _, _, _, _, _, _] [2, 3, 4, 5, 6, 7, 9, 10, 11, 12, 13, 14, 15, 16, 0, 1, 17, 18, 19, 20, 21, 22, 23, 8, 24] rfl rfl ?_
  refine x_lv [_, _, _, _, _, _, none, none, _] rfl (lx_drop _ [6, 7] rfl) ?_
  exact x_wide (by omega) (by omega) (K9 (hI.qI (by omega) (up_n (by decide)) (up_n (by decide)) (up_n (by decide)) (up_n (by decide)) (up_n (by decide)) (up_n (by decide))))

set_option maxHeartbeats 4000000 in
set_option maxRecDepth 100000 in
theorem lc_21_1 {G : Gm} {X : Cx} {l : Launch} {x : LFx} {k nn : Nat} {i b : Int} {J : Nat → Int} {M : Pool} {n : Net} {N K : Nat → Net} {Fu Fb : Nat → Int} {w : List Int} {z : Int} {I TL TB : Nat → Int} {N9 : Nat → Net} {f : Nat → Int64} {fD : Nat → UInt64} {a1 a2 : Int} (H : LKn G l x) {nmL : String} (hC : OKc G X l RL nmL cL_law 9 (some .boolean) 1400 600000 6200000) (hI : INV b J M n N K Fu Fb w z I) (hb : b ≤ 15000000) (hk : k + 100 ≤ 600000) (hn : nn + 2200 ≤ 6200000) (hi : 0 ≤ i ∧ i + 6 ≤ (x.L : Int)) (ha1 : (x.xs (i + 1).toNat).toInt = a1) (ha2 : (x.xs (i + 2).toNat).toInt = a2) (hl : ¬ (0 ≤ a1 ∧ a1 < n (-1) 0)) (K9 : LCont G X x (b + 8000) (k + 100) (nn + 2200) i) : WX G X k nn (LAT G x J M n N K Fu Fb w z I TL TB N9 f fD) 1314 (LLV x i) [] := by
  have C := hC
  have hK : KG G := H.hX.1.1.1
  have hH := hI.hN.1.1
  unfold HeadOk at hH
  have r1 : -2147483648 ≤ a1 ∧ a1 < 2147483648 := by rw [← ha1]; exact bI_toInt _
  have r2 : -2147483648 ≤ a2 ∧ a2 < 2147483648 := by rw [← ha2]; exact bI_toInt _
  refine x_aload_n C eL_law_1314 rfl ?_
  refine x_argA C H.hx H.hbl H.hL eL_law_1315 eL_law_1316 eL_law_1318 eL_law_1319 eL_law_1320 rfl rfl (by omega) ha1 ?_
  refine x_argA C H.hx H.hbl H.hL eL_law_1321 eL_law_1322 eL_law_1324 eL_law_1325 eL_law_1326 rfl rfl (by omega) ha2 ?_
  refine x_aload_n C eL_law_1327 rfl ?_
  refine x_callSW (As := [_, _, _, _]) [_, _, _, _, _, _, _, _, _, _, _, _, _, _, _, _, _, _, _, _, _, _] C (wx_sentIfLent_1 hK (t_X7_sentIfLent_2 H.hX H.hT0 (by omega) (by omega) (by omega)) (xwd_c (i := 0) H.hX rfl) (rcv 0 rfl)) cw_sentIfLent s_RL_218 eL_law_1328 rfl (fun _ _ h => WF_pick [0, 1, 23, 2, 3, 4, 5, 6, 7, 8, 9, 10, 11, 12, 13, 14, 15, 16, 17, 18, 19, 20, 21, 22, 24] rfl rfl h) rfl (nle rfl) (nle rfl) (by omega) (by omega) (fun _ _ => ?_)
  refine x_pick [_, _, _, _, _, _, _, _, _, _, _, _, _, _, _, _, _, _, _, _, _, _, _, _, _] [0, 1, 2, 3, 4, 5, 6, 7, 8, 9, 10, 11, 12, 13, 14, 15, 16, 17, 18, 19, 20, 21, 22, 23, 24] rfl rfl ?_
  refine x_istore [_, _, _, _, _, _, _, _, _] C eL_law_1331 rfl rfl (nlt rfl) ?_
  refine x_aload_n C eL_law_1333 rfl ?_
  refine x_argA C H.hx H.hbl H.hL eL_law_1334 eL_law_1335 eL_law_1337 eL_law_1338 eL_law_1339 rfl rfl (by omega) ha1 ?_
  refine x_argA C H.hx H.hbl H.hL eL_law_1340 eL_law_1341 eL_law_1343 eL_law_1344 eL_law_1345 rfl rfl (by omega) ha2 ?_
  have c1 : ¬ ((0 ≤ a1 ∧ a1 ≤ n (-1) 0 - 1) ∧ 0 ≤ a2 ∧ a2 ≤ n (-1) 0 - 1) := by first | omega | (simp only [if_true, if_false]; omega)
  have hM := s_X8_sentIfLent (G := G) (l := l) (o := x.o) (A := x.A) (I := I) (N := N9) (n := n) (b := b) (l9 := a1) (o9 := a2) hK hI.hN.1 (by omega) (by omega) (by omega)
  simp only [if_neg (show ¬ (((0 ≤ a1 ∧ a1 ≤ n (-1) 0 - 1) ∧ 0 ≤ a2 ∧ a2 ≤ n (-1) 0 - 1) ∧ (¬ a1 = a2) ∧ (True)) from fun q => c1 q.1), thr_1 c1] at hM
  refine yV2r [_, _, _, _, _, _, _, _, _, _, _, _, _, _, _, _, _, _, _, _, _, _, _] [_, _, _, _, _, _, _, _, _, _, _, _, _, _, _, _, _, _, _, _, _, _, _, _, _] C hM v_X8_sentIfLent vv_X8_sentIfLent s_RL_220 eL_law_1346 (fun _ _ h => WF_pick [15, 16, 0, 1, 2, 3, 4, 5, 6, 7, 8, 9, 10, 11, 12, 13, 14, 17, 18, 19, 20, 21, 22, 23, 24] rfl rfl h) (rcv 15 rfl) rfl (nle rfl) (nle rfl) (by omega) (by omega) rfl ?_
  refine x_oFQ (R := [_, _, _, _, _, _, _, _, _, _, _, _, _, _, _, _, _, _, _, _, _, _, _, _]) (fun _ _ h => WF_pick [1, 0, 2, 3, 4, 5, 6, 7, 8, 9, 10, 11, 12, 13, 14, 15, 16, 17, 18, 19, 20, 21, 22, 23, 24] rfl rfl h) (fun N8 => ?_)
  refine x_istore [_, _, _, _, _, _, _, _, _] C eL_law_1349 rfl rfl (nlt rfl) ?_
  refine x_aload_n C eL_law_1351 rfl ?_
  refine yV0r [_, _, _, _, _, _, _, _, _, _, _, _, _, _, _, _, _, _, _, _, _, _, _, _] [_, _, _, _, _, _, _, _, _, _, _, _, _, _, _, _, _, _, _, _, _, _, _, _, _] C (s_X8_thrown hK) v_X8_thrown vv_X8_thrown s_RL_145 eL_law_1352 (fun _ _ h => WF_pick [1, 0, 2, 3, 4, 5, 6, 7, 8, 9, 10, 11, 12, 13, 14, 15, 16, 17, 18, 19, 20, 21, 22, 23, 24] rfl rfl h) (rcv 1 rfl) rfl (nle rfl) (nle rfl) (by omega) (by omega) rfl ?_
  refine x_iload C eL_law_1355 rfl ?_
  refine x_icmp_val (by first | exact up_s _ _ _ | exact (up_n (by decide)).trans (up_s _ _ _)) 1362 C eL_law_1357 rfl ?_
  refine x_iload C eL_law_1362 rfl ?_
  refine x_if_ne 1379 C eL_law_1364 rfl (by omega) (fun _ => ?_) (fun h => absurd h (by decide))
  refine x_goto (pc' := 2791) C eL_law_1379 rfl ?_
  refine x_pick [_, _, _, _, _, _, _, _, _, _, _, _, _, _, _, _, _, _, _, _, _, _, _, _, _] [2, 3, 5, 6, 7, 8, 9, 10, 11, 12, 13, 14, 15, 16, 0, 1, 17, 18, 19, 20, 21, 22, 23, 4, 24] rfl rfl ?_
  refine x_lv [_, _, _, _, _, _, none, none, _] rfl (lx_drop _ [6, 7] rfl) ?_
  exact x_wide (by omega) (by omega) (K9 (hI.qI (by omega) (up_n (by decide)) (up_n (by decide)) (up_n (by decide)) (up_n (by decide)) (up_n (by decide)) (up_n (by decide))))

set_option maxHeartbeats 4000000 in
set_option maxRecDepth 100000 in
theorem lc_21_1b {G : Gm} {X : Cx} {l : Launch} {x : LFx} {k nn : Nat} {i b : Int} {J : Nat → Int} {M : Pool} {n : Net} {N K : Nat → Net} {Fu Fb : Nat → Int} {w : List Int} {z : Int} {I TL TB : Nat → Int} {N9 : Nat → Net} {f : Nat → Int64} {fD : Nat → UInt64} {a1 a2 : Int} (H : LKn G l x) {nmL : String} (hC : OKc G X l RL nmL cL_law 9 (some .boolean) 1400 600000 6200000) (hI : INV b J M n N K Fu Fb w z I) (hb : b ≤ 15000000) (hk : k + 100 ≤ 600000) (hn : nn + 2200 ≤ 6200000) (hi : 0 ≤ i ∧ i + 6 ≤ (x.L : Int)) (ha1 : (x.xs (i + 1).toNat).toInt = a1) (ha2 : (x.xs (i + 2).toNat).toInt = a2) (hl : 0 ≤ a1 ∧ a1 < n (-1) 0) (ho : ¬ (0 ≤ a2 ∧ a2 < n (-1) 0)) (K9 : LCont G X x (b + 8000) (k + 100) (nn + 2200) i) : WX G X k nn (LAT G x J M n N K Fu Fb w z I TL TB N9 f fD) 1314 (LLV x i) [] := by
  have C := hC
  have hK : KG G := H.hX.1.1.1
  have hH := hI.hN.1.1
  unfold HeadOk at hH
  have r1 : -2147483648 ≤ a1 ∧ a1 < 2147483648 := by rw [← ha1]; exact bI_toInt _
  have r2 : -2147483648 ≤ a2 ∧ a2 < 2147483648 := by rw [← ha2]; exact bI_toInt _
  refine x_aload_n C eL_law_1314 rfl ?_
  refine x_argA C H.hx H.hbl H.hL eL_law_1315 eL_law_1316 eL_law_1318 eL_law_1319 eL_law_1320 rfl rfl (by omega) ha1 ?_
  refine x_argA C H.hx H.hbl H.hL eL_law_1321 eL_law_1322 eL_law_1324 eL_law_1325 eL_law_1326 rfl rfl (by omega) ha2 ?_
  refine x_aload_n C eL_law_1327 rfl ?_
  refine x_callSW (As := [_, _, _, _]) [_, _, _, _, _, _, _, _, _, _, _, _, _, _, _, _, _, _, _, _, _, _] C (wx_sentIfLent_1 hK (t_X7_sentIfLent_7 H.hX H.hT0 (by omega) (by omega) (by omega) (by omega)) (xwd_c (i := 0) H.hX rfl) (rcv 0 rfl)) cw_sentIfLent s_RL_218 eL_law_1328 rfl (fun _ _ h => WF_pick [0, 1, 23, 2, 3, 4, 5, 6, 7, 8, 9, 10, 11, 12, 13, 14, 15, 16, 17, 18, 19, 20, 21, 22, 24] rfl rfl h) rfl (nle rfl) (nle rfl) (by omega) (by omega) (fun _ _ => ?_)
  refine x_pick [_, _, _, _, _, _, _, _, _, _, _, _, _, _, _, _, _, _, _, _, _, _, _, _, _] [0, 1, 2, 3, 4, 5, 6, 7, 8, 9, 10, 11, 12, 13, 14, 15, 16, 17, 18, 19, 20, 21, 22, 23, 24] rfl rfl ?_
  refine x_istore [_, _, _, _, _, _, _, _, _] C eL_law_1331 rfl rfl (nlt rfl) ?_
  refine x_aload_n C eL_law_1333 rfl ?_
  refine x_argA C H.hx H.hbl H.hL eL_law_1334 eL_law_1335 eL_law_1337 eL_law_1338 eL_law_1339 rfl rfl (by omega) ha1 ?_
  refine x_argA C H.hx H.hbl H.hL eL_law_1340 eL_law_1341 eL_law_1343 eL_law_1344 eL_law_1345 rfl rfl (by omega) ha2 ?_
  have c1 : ¬ ((0 ≤ a1 ∧ a1 ≤ n (-1) 0 - 1) ∧ 0 ≤ a2 ∧ a2 ≤ n (-1) 0 - 1) := by first | omega | (simp only [if_true, if_false]; omega)
  have hM := s_X8_sentIfLent (G := G) (l := l) (o := x.o) (A := x.A) (I := I) (N := N9) (n := n) (b := b) (l9 := a1) (o9 := a2) hK hI.hN.1 (by omega) (by omega) (by omega)
  simp only [if_neg (show ¬ (((0 ≤ a1 ∧ a1 ≤ n (-1) 0 - 1) ∧ 0 ≤ a2 ∧ a2 ≤ n (-1) 0 - 1) ∧ (¬ a1 = a2) ∧ (True)) from fun q => c1 q.1), thr_1 c1] at hM
  refine yV2r [_, _, _, _, _, _, _, _, _, _, _, _, _, _, _, _, _, _, _, _, _, _, _] [_, _, _, _, _, _, _, _, _, _, _, _, _, _, _, _, _, _, _, _, _, _, _, _, _] C hM v_X8_sentIfLent vv_X8_sentIfLent s_RL_220 eL_law_1346 (fun _ _ h => WF_pick [15, 16, 0, 1, 2, 3, 4, 5, 6, 7, 8, 9, 10, 11, 12, 13, 14, 17, 18, 19, 20, 21, 22, 23, 24] rfl rfl h) (rcv 15 rfl) rfl (nle rfl) (nle rfl) (by omega) (by omega) rfl ?_
  refine x_oFQ (R := [_, _, _, _, _, _, _, _, _, _, _, _, _, _, _, _, _, _, _, _, _, _, _, _]) (fun _ _ h => WF_pick [1, 0, 2, 3, 4, 5, 6, 7, 8, 9, 10, 11, 12, 13, 14, 15, 16, 17, 18, 19, 20, 21, 22, 23, 24] rfl rfl h) (fun N8 => ?_)
  refine x_istore [_, _, _, _, _, _, _, _, _] C eL_law_1349 rfl rfl (nlt rfl) ?_
  refine x_aload_n C eL_law_1351 rfl ?_
  refine yV0r [_, _, _, _, _, _, _, _, _, _, _, _, _, _, _, _, _, _, _, _, _, _, _, _] [_, _, _, _, _, _, _, _, _, _, _, _, _, _, _, _, _, _, _, _, _, _, _, _, _] C (s_X8_thrown hK) v_X8_thrown vv_X8_thrown s_RL_145 eL_law_1352 (fun _ _ h => WF_pick [1, 0, 2, 3, 4, 5, 6, 7, 8, 9, 10, 11, 12, 13, 14, 15, 16, 17, 18, 19, 20, 21, 22, 23, 24] rfl rfl h) (rcv 1 rfl) rfl (nle rfl) (nle rfl) (by omega) (by omega) rfl ?_
  refine x_iload C eL_law_1355 rfl ?_
  refine x_icmp_val (by first | exact up_s _ _ _ | exact (up_n (by decide)).trans (up_s _ _ _)) 1362 C eL_law_1357 rfl ?_
  refine x_iload C eL_law_1362 rfl ?_
  refine x_if_ne 1379 C eL_law_1364 rfl (by omega) (fun _ => ?_) (fun h => absurd h (by decide))
  refine x_goto (pc' := 2791) C eL_law_1379 rfl ?_
  refine x_pick [_, _, _, _, _, _, _, _, _, _, _, _, _, _, _, _, _, _, _, _, _, _, _, _, _] [2, 3, 5, 6, 7, 8, 9, 10, 11, 12, 13, 14, 15, 16, 0, 1, 17, 18, 19, 20, 21, 22, 23, 4, 24] rfl rfl ?_
  refine x_lv [_, _, _, _, _, _, none, none, _] rfl (lx_drop _ [6, 7] rfl) ?_
  exact x_wide (by omega) (by omega) (K9 (hI.qI (by omega) (up_n (by decide)) (up_n (by decide)) (up_n (by decide)) (up_n (by decide)) (up_n (by decide)) (up_n (by decide))))

set_option maxHeartbeats 4000000 in
set_option maxRecDepth 100000 in
theorem lc_21_2 {G : Gm} {X : Cx} {l : Launch} {x : LFx} {k nn : Nat} {i b : Int} {J : Nat → Int} {M : Pool} {n : Net} {N K : Nat → Net} {Fu Fb : Nat → Int} {w : List Int} {z : Int} {I TL TB : Nat → Int} {N9 : Nat → Net} {f : Nat → Int64} {fD : Nat → UInt64} {a1 a2 : Int} (H : LKn G l x) {nmL : String} (hC : OKc G X l RL nmL cL_law 9 (some .boolean) 1400 600000 6200000) (hI : INV b J M n N K Fu Fb w z I) (hb : b ≤ 15000000) (hk : k + 100 ≤ 600000) (hn : nn + 2200 ≤ 6200000) (hi : 0 ≤ i ∧ i + 6 ≤ (x.L : Int)) (ha1 : (x.xs (i + 1).toNat).toInt = a1) (ha2 : (x.xs (i + 2).toNat).toInt = a2) (hl : 0 ≤ a1 ∧ a1 < n (-1) 0) (he : a1 = a2) (K9 : LCont G X x (b + 8000) (k + 100) (nn + 2200) i) : WX G X k nn (LAT G x J M n N K Fu Fb w z I TL TB N9 f fD) 1314 (LLV x i) [] := by
  have C := hC
  have hK : KG G := H.hX.1.1.1
  have hH := hI.hN.1.1
  unfold HeadOk at hH
  have r1 : -2147483648 ≤ a1 ∧ a1 < 2147483648 := by rw [← ha1]; exact bI_toInt _
  have r2 : -2147483648 ≤ a2 ∧ a2 < 2147483648 := by rw [← ha2]; exact bI_toInt _
  refine x_aload_n C eL_law_1314 rfl ?_
  refine x_argA C H.hx H.hbl H.hL eL_law_1315 eL_law_1316 eL_law_1318 eL_law_1319 eL_law_1320 rfl rfl (by omega) ha1 ?_
  refine x_argA C H.hx H.hbl H.hL eL_law_1321 eL_law_1322 eL_law_1324 eL_law_1325 eL_law_1326 rfl rfl (by omega) ha2 ?_
  refine x_aload_n C eL_law_1327 rfl ?_
  refine x_callSW (As := [_, _, _, _]) [_, _, _, _, _, _, _, _, _, _, _, _, _, _, _, _, _, _, _, _, _, _] C (wx_sentIfLent_2 hK (t_X7_sentIfLent_12 H.hX H.hT0 (by omega) (by omega) (by omega)) (xwd_c (i := 1) H.hX rfl) H.n1 (rcv 0 rfl)) cw_sentIfLent s_RL_218 eL_law_1328 rfl (fun _ _ h => WF_pick [0, 1, 23, 2, 3, 4, 5, 6, 7, 8, 9, 10, 11, 12, 13, 14, 15, 16, 17, 18, 19, 20, 21, 22, 24] rfl rfl h) rfl (nle rfl) (nle rfl) (by omega) (by omega) (fun _ _ => ?_)
  refine x_pick [_, _, _, _, _, _, _, _, _, _, _, _, _, _, _, _, _, _, _, _, _, _, _, _, _] [0, 1, 2, 3, 4, 5, 6, 7, 8, 9, 10, 11, 12, 13, 14, 15, 16, 17, 18, 19, 20, 21, 22, 23, 24] rfl rfl ?_
  refine x_istore [_, _, _, _, _, _, _, _, _] C eL_law_1331 rfl rfl (nlt rfl) ?_
  refine x_aload_n C eL_law_1333 rfl ?_
  refine x_argA C H.hx H.hbl H.hL eL_law_1334 eL_law_1335 eL_law_1337 eL_law_1338 eL_law_1339 rfl rfl (by omega) ha1 ?_
  refine x_argA C H.hx H.hbl H.hL eL_law_1340 eL_law_1341 eL_law_1343 eL_law_1344 eL_law_1345 rfl rfl (by omega) ha2 ?_
  have c1 : (0 ≤ a1 ∧ a1 ≤ n (-1) 0 - 1) ∧ 0 ≤ a2 ∧ a2 ≤ n (-1) 0 - 1 := by first | trivial | omega | (simp only [if_true, if_false]; omega)
  have c2 : ¬ (¬ a1 = a2) := by first | omega | (simp only [if_true, if_false]; omega)
  have hM := s_X8_sentIfLent (G := G) (l := l) (o := x.o) (A := x.A) (I := I) (N := N9) (n := n) (b := b) (l9 := a1) (o9 := a2) hK hI.hN.1 (by omega) (by omega) (by omega)
  simp only [if_neg (show ¬ (((0 ≤ a1 ∧ a1 ≤ n (-1) 0 - 1) ∧ 0 ≤ a2 ∧ a2 ≤ n (-1) 0 - 1) ∧ (¬ a1 = a2) ∧ (True)) from fun q => c2 q.2.1), thr_2 c1 c2] at hM
  refine yV2r [_, _, _, _, _, _, _, _, _, _, _, _, _, _, _, _, _, _, _, _, _, _, _] [_, _, _, _, _, _, _, _, _, _, _, _, _, _, _, _, _, _, _, _, _, _, _, _, _] C hM v_X8_sentIfLent vv_X8_sentIfLent s_RL_220 eL_law_1346 (fun _ _ h => WF_pick [15, 16, 0, 1, 2, 3, 4, 5, 6, 7, 8, 9, 10, 11, 12, 13, 14, 17, 18, 19, 20, 21, 22, 23, 24] rfl rfl h) (rcv 15 rfl) rfl (nle rfl) (nle rfl) (by omega) (by omega) rfl ?_
  refine x_oFQ (R := [_, _, _, _, _, _, _, _, _, _, _, _, _, _, _, _, _, _, _, _, _, _, _, _]) (fun _ _ h => WF_pick [1, 0, 2, 3, 4, 5, 6, 7, 8, 9, 10, 11, 12, 13, 14, 15, 16, 17, 18, 19, 20, 21, 22, 23, 24] rfl rfl h) (fun N8 => ?_)
  refine x_istore [_, _, _, _, _, _, _, _, _] C eL_law_1349 rfl rfl (nlt rfl) ?_
  refine x_aload_n C eL_law_1351 rfl ?_
  refine yV0r [_, _, _, _, _, _, _, _, _, _, _, _, _, _, _, _, _, _, _, _, _, _, _, _] [_, _, _, _, _, _, _, _, _, _, _, _, _, _, _, _, _, _, _, _, _, _, _, _, _] C (s_X8_thrown hK) v_X8_thrown vv_X8_thrown s_RL_145 eL_law_1352 (fun _ _ h => WF_pick [1, 0, 2, 3, 4, 5, 6, 7, 8, 9, 10, 11, 12, 13, 14, 15, 16, 17, 18, 19, 20, 21, 22, 23, 24] rfl rfl h) (rcv 1 rfl) rfl (nle rfl) (nle rfl) (by omega) (by omega) rfl ?_
  refine x_iload C eL_law_1355 rfl ?_
  refine x_icmp_val (by first | exact up_s _ _ _ | exact (up_n (by decide)).trans (up_s _ _ _)) 1362 C eL_law_1357 rfl ?_
  refine x_iload C eL_law_1362 rfl ?_
  refine x_if_ne 1379 C eL_law_1364 rfl (by omega) (fun _ => ?_) (fun h => absurd h (by decide))
  refine x_goto (pc' := 2791) C eL_law_1379 rfl ?_
  refine x_pick [_, _, _, _, _, _, _, _, _, _, _, _, _, _, _, _, _, _, _, _, _, _, _, _, _] [2, 3, 5, 6, 7, 8, 9, 10, 11, 12, 13, 14, 15, 16, 0, 1, 17, 18, 19, 20, 21, 22, 23, 4, 24] rfl rfl ?_
  refine x_lv [_, _, _, _, _, _, none, none, _] rfl (lx_drop _ [6, 7] rfl) ?_
  exact x_wide (by omega) (by omega) (K9 (hI.qI (by omega) (up_n (by decide)) (up_n (by decide)) (up_n (by decide)) (up_n (by decide)) (up_n (by decide)) (up_n (by decide))))

set_option maxHeartbeats 4000000 in
set_option maxRecDepth 100000 in
theorem lc_29_0 {G : Gm} {X : Cx} {l : Launch} {x : LFx} {k nn : Nat} {i b : Int} {J : Nat → Int} {M : Pool} {n : Net} {N K : Nat → Net} {Fu Fb : Nat → Int} {w : List Int} {z : Int} {I TL TB : Nat → Int} {N9 : Nat → Net} {f : Nat → Int64} {fD : Nat → UInt64} {a1 : Int} (H : LKn G l x) {nmL : String} (hC : OKc G X l RL nmL cL_law 9 (some .boolean) 1400 600000 6200000) (hI : INV b J M n N K Fu Fb w z I) (hb : b ≤ 15000000) (hk : k + 100 ≤ 600000) (hn : nn + 2200 ≤ 6200000) (hi : 0 ≤ i ∧ i + 6 ≤ (x.L : Int)) (ha1 : (x.xs (i + 1).toNat).toInt = a1) (hw : 0 ≤ a1 ∧ a1 < 12) (K9 : LCont G X x (b + 8000) (k + 100) (nn + 2200) i) : WX G X k nn (LAT G x J M n N K Fu Fb w z I TL TB N9 f fD) 1688 (LLV x i) [] := by
  have C := hC
  have hK : KG G := H.hX.1.1.1
  have hH := hI.hN.1.1
  unfold HeadOk at hH
  have r1 : -2147483648 ≤ a1 ∧ a1 < 2147483648 := by rw [← ha1]; exact bI_toInt _
  refine x_aload_n C eL_law_1688 rfl ?_
  refine x_argA C H.hx H.hbl H.hL eL_law_1689 eL_law_1690 eL_law_1692 eL_law_1693 eL_law_1694 rfl rfl (by omega) ha1 ?_
  refine x_aload_n C eL_law_1695 rfl ?_
  refine x_callSW (As := [_, _, _]) [_, _, _, _, _, _, _, _, _, _, _, _, _, _, _, _, _, _, _] C (wn_sum hK (s_X7_sum hK hI.hN.1 (by omega) (by omega)) (rcv 0 rfl)) cw_sum s_RL_246 eL_law_1696 rfl (fun _ _ h => WF_pick [0, 1, 2, 3, 4, 23, 5, 6, 7, 8, 9, 10, 11, 12, 13, 14, 15, 16, 17, 18, 19, 20, 21, 22, 24] rfl rfl h) rfl (nle rfl) (nle rfl) (by omega) (by omega) (fun _ _ => ?_)
  refine x_pick [_, _, _, _, _, _, _, _, _, _, _, _, _, _, _, _, _, _, _, _, _, _, _, _, _] [0, 1, 2, 3, 4, 5, 6, 7, 8, 9, 10, 11, 12, 13, 14, 15, 16, 17, 18, 19, 20, 21, 22, 23, 24] rfl rfl ?_
  refine x_istore [_, _, _, _, _, _, _, _, _] C eL_law_1699 rfl rfl (nlt rfl) ?_
  refine x_aload_n C eL_law_1701 rfl ?_
  refine x_argA C H.hx H.hbl H.hL eL_law_1702 eL_law_1703 eL_law_1705 eL_law_1706 eL_law_1707 rfl rfl (by omega) ha1 ?_
  have c1 : 0 ≤ a1 ∧ a1 ≤ 11 := by first | trivial | omega | (simp only [if_true, if_false]; omega)
  have c2 : True := by first | trivial | omega | (simp only [if_true, if_false]; omega)
  have c3 : True := by first | trivial | omega | (simp only [if_true, if_false]; omega)
  have hM := s_X8_sum (G := G) (l := l) (o := x.o) (A := x.A) (I := I) (N := N9) (n := n) (b := b) (w9 := a1) hK hI.hN.1 (by omega) (by omega)
  simp only [if_pos (show (0 ≤ a1 ∧ a1 ≤ 11) ∧ (True) ∧ (True) from ⟨c1, c2, c3⟩), thr_0 c1 c2 c3] at hM
  refine yV1r [_, _, _, _, _, _, _, _, _, _, _, _, _, _, _, _, _, _, _, _, _, _, _] [_, _, _, _, _, _, _, _, _, _, _, _, _, _, _, _, _, _, _, _, _, _, _, _, _] C hM v_X8_sum vv_X8_sum s_RL_248 eL_law_1708 (fun _ _ h => WF_pick [15, 16, 0, 1, 2, 3, 4, 5, 6, 7, 8, 9, 10, 11, 12, 13, 14, 17, 18, 19, 20, 21, 22, 23, 24] rfl rfl h) (rcv 15 rfl) rfl (nle rfl) (nle rfl) (by omega) (by omega) rfl ?_
  refine x_istore [_, _, _, _, _, _, _, _, _] C eL_law_1711 rfl rfl (nlt rfl) ?_
  refine x_aload_n C eL_law_1713 rfl ?_
  refine yV0r [_, _, _, _, _, _, _, _, _, _, _, _, _, _, _, _, _, _, _, _, _, _, _, _] [_, _, _, _, _, _, _, _, _, _, _, _, _, _, _, _, _, _, _, _, _, _, _, _, _] C (s_X8_thrown hK) v_X8_thrown vv_X8_thrown s_RL_145 eL_law_1714 (fun _ _ h => WF_pick [0, 1, 2, 3, 4, 5, 6, 7, 8, 9, 10, 11, 12, 13, 14, 15, 16, 17, 18, 19, 20, 21, 22, 23, 24] rfl rfl h) (rcv 0 rfl) rfl (nle rfl) (nle rfl) (by omega) (by omega) rfl ?_
  refine x_iload C eL_law_1717 rfl ?_
  refine x_icmp_val (by first | exact up_s _ _ _ | exact (up_n (by decide)).trans (up_s _ _ _)) 1724 C eL_law_1719 rfl ?_
  refine x_iload C eL_law_1724 rfl ?_
  refine x_if_ne 1741 C eL_law_1726 rfl (by omega) (fun h => absurd rfl h) (fun _ => ?_)
  refine x_aload_n C eL_law_1729 rfl ?_
  refine x_iconst C eL_law_1730 ?_
  refine x_lald (N := 1) 7 C eL_law_1731 rfl (by decide) (by omega) ?_
  refine x_iload C eL_law_1732 rfl ?_
  refine x_i2lR C eL_law_1734 ?_
  refine x_lcmp_same 1741 (by first | exact if_pos rfl | (rw [if_pos rfl]; rfl) | decide) C eL_law_1735 eL_law_1736 rfl ?_
  refine x_goto (pc' := 2791) C eL_law_1741 rfl ?_
  refine x_pick [_, _, _, _, _, _, _, _, _, _, _, _, _, _, _, _, _, _, _, _, _, _, _, _, _] [2, 3, 4, 5, 6, 8, 9, 10, 11, 12, 13, 14, 15, 16, 0, 1, 17, 18, 19, 20, 21, 22, 23, 7, 24] rfl rfl ?_
  refine x_lv [_, _, _, _, _, _, none, none, _] rfl (lx_drop _ [6, 7] rfl) ?_
  exact x_wide (by omega) (by omega) (K9 (hI.qI (by omega) (up_n (by decide)) (up_n (by decide)) (up_n (by decide)) (up_n (by decide)) (up_n (by decide)) (up_n (by decide))))

set_option maxHeartbeats 4000000 in
set_option maxRecDepth 100000 in
theorem lc_29_1 {G : Gm} {X : Cx} {l : Launch} {x : LFx} {k nn : Nat} {i b : Int} {J : Nat → Int} {M : Pool} {n : Net} {N K : Nat → Net} {Fu Fb : Nat → Int} {w : List Int} {z : Int} {I TL TB : Nat → Int} {N9 : Nat → Net} {f : Nat → Int64} {fD : Nat → UInt64} {a1 : Int} (H : LKn G l x) {nmL : String} (hC : OKc G X l RL nmL cL_law 9 (some .boolean) 1400 600000 6200000) (hI : INV b J M n N K Fu Fb w z I) (hb : b ≤ 15000000) (hk : k + 100 ≤ 600000) (hn : nn + 2200 ≤ 6200000) (hi : 0 ≤ i ∧ i + 6 ≤ (x.L : Int)) (ha1 : (x.xs (i + 1).toNat).toInt = a1) (hw : ¬ (0 ≤ a1 ∧ a1 < 12)) (K9 : LCont G X x (b + 8000) (k + 100) (nn + 2200) i) : WX G X k nn (LAT G x J M n N K Fu Fb w z I TL TB N9 f fD) 1688 (LLV x i) [] := by
  have C := hC
  have hK : KG G := H.hX.1.1.1
  have hH := hI.hN.1.1
  unfold HeadOk at hH
  have r1 : -2147483648 ≤ a1 ∧ a1 < 2147483648 := by rw [← ha1]; exact bI_toInt _
  refine x_aload_n C eL_law_1688 rfl ?_
  refine x_argA C H.hx H.hbl H.hL eL_law_1689 eL_law_1690 eL_law_1692 eL_law_1693 eL_law_1694 rfl rfl (by omega) ha1 ?_
  refine x_aload_n C eL_law_1695 rfl ?_
  refine x_callSW (As := [_, _, _]) [_, _, _, _, _, _, _, _, _, _, _, _, _, _, _, _, _, _, _, _, _, _, _] C (wx_sum_1 hK (t_X7_sum_1 H.hX H.hT0 (by omega) (by omega)) (xwd_c (i := 1) H.hX rfl) (rcv 0 rfl)) cw_sum s_RL_246 eL_law_1696 rfl (fun _ _ h => WF_pick [0, 23, 1, 2, 3, 4, 5, 6, 7, 8, 9, 10, 11, 12, 13, 14, 15, 16, 17, 18, 19, 20, 21, 22, 24] rfl rfl h) rfl (nle rfl) (nle rfl) (by omega) (by omega) (fun _ _ => ?_)
  refine x_pick [_, _, _, _, _, _, _, _, _, _, _, _, _, _, _, _, _, _, _, _, _, _, _, _, _] [0, 1, 2, 3, 4, 5, 6, 7, 8, 9, 10, 11, 12, 13, 14, 15, 16, 17, 18, 19, 20, 21, 22, 23, 24] rfl rfl ?_
  refine x_istore [_, _, _, _, _, _, _, _, _] C eL_law_1699 rfl rfl (nlt rfl) ?_
  refine x_aload_n C eL_law_1701 rfl ?_
  refine x_argA C H.hx H.hbl H.hL eL_law_1702 eL_law_1703 eL_law_1705 eL_law_1706 eL_law_1707 rfl rfl (by omega) ha1 ?_
  have c1 : ¬ (0 ≤ a1 ∧ a1 ≤ 11) := by first | omega | (simp only [if_true, if_false]; omega)
  have hM := s_X8_sum (G := G) (l := l) (o := x.o) (A := x.A) (I := I) (N := N9) (n := n) (b := b) (w9 := a1) hK hI.hN.1 (by omega) (by omega)
  simp only [if_neg (show ¬ ((0 ≤ a1 ∧ a1 ≤ 11) ∧ (True) ∧ (True)) from fun q => c1 q.1), thr_1 c1] at hM
  refine yV1r [_, _, _, _, _, _, _, _, _, _, _, _, _, _, _, _, _, _, _, _, _, _, _] [_, _, _, _, _, _, _, _, _, _, _, _, _, _, _, _, _, _, _, _, _, _, _, _, _] C hM v_X8_sum vv_X8_sum s_RL_248 eL_law_1708 (fun _ _ h => WF_pick [15, 16, 0, 1, 2, 3, 4, 5, 6, 7, 8, 9, 10, 11, 12, 13, 14, 17, 18, 19, 20, 21, 22, 23, 24] rfl rfl h) (rcv 15 rfl) rfl (nle rfl) (nle rfl) (by omega) (by omega) rfl ?_
  refine x_istore [_, _, _, _, _, _, _, _, _] C eL_law_1711 rfl rfl (nlt rfl) ?_
  refine x_aload_n C eL_law_1713 rfl ?_
  refine yV0r [_, _, _, _, _, _, _, _, _, _, _, _, _, _, _, _, _, _, _, _, _, _, _, _] [_, _, _, _, _, _, _, _, _, _, _, _, _, _, _, _, _, _, _, _, _, _, _, _, _] C (s_X8_thrown hK) v_X8_thrown vv_X8_thrown s_RL_145 eL_law_1714 (fun _ _ h => WF_pick [0, 1, 2, 3, 4, 5, 6, 7, 8, 9, 10, 11, 12, 13, 14, 15, 16, 17, 18, 19, 20, 21, 22, 23, 24] rfl rfl h) (rcv 0 rfl) rfl (nle rfl) (nle rfl) (by omega) (by omega) rfl ?_
  refine x_iload C eL_law_1717 rfl ?_
  refine x_icmp_val (by first | exact up_s _ _ _ | exact (up_n (by decide)).trans (up_s _ _ _)) 1724 C eL_law_1719 rfl ?_
  refine x_iload C eL_law_1724 rfl ?_
  refine x_if_ne 1741 C eL_law_1726 rfl (by omega) (fun _ => ?_) (fun h => absurd h (by decide))
  refine x_goto (pc' := 2791) C eL_law_1741 rfl ?_
  refine x_pick [_, _, _, _, _, _, _, _, _, _, _, _, _, _, _, _, _, _, _, _, _, _, _, _, _] [2, 4, 5, 6, 7, 8, 9, 10, 11, 12, 13, 14, 15, 16, 0, 1, 17, 18, 19, 20, 21, 22, 23, 3, 24] rfl rfl ?_
  refine x_lv [_, _, _, _, _, _, none, none, _] rfl (lx_drop _ [6, 7] rfl) ?_
  exact x_wide (by omega) (by omega) (K9 (hI.qI (by omega) (up_n (by decide)) (up_n (by decide)) (up_n (by decide)) (up_n (by decide)) (up_n (by decide)) (up_n (by decide))))

set_option maxHeartbeats 4000000 in
set_option maxRecDepth 100000 in
theorem lc_12_0 {G : Gm} {X : Cx} {l : Launch} {x : LFx} {k nn : Nat} {i b : Int} {J : Nat → Int} {M : Pool} {n : Net} {N K : Nat → Net} {Fu Fb : Nat → Int} {w : List Int} {z : Int} {I TL TB : Nat → Int} {N9 : Nat → Net} {f : Nat → Int64} {fD : Nat → UInt64} (H : LKn G l x) {nmL : String} (hC : OKc G X l RL nmL cL_law 9 (some .boolean) 1400 600000 6200000) (hI : INV b J M n N K Fu Fb w z I) (hb : b ≤ 15000000) (hk : k + 100 ≤ 600000) (hn : nn + 2200 ≤ 6200000) (hi : 0 ≤ i ∧ i + 6 ≤ (x.L : Int))   (K9 : LCont G X x (b + 8000) (k + 100) (nn + 2200) i) : WX G X k nn (LAT G x J M n N K Fu Fb w z I TL TB N9 f fD) 860 (LLV x i) [] := by
  have C := hC
  have hK : KG G := H.hX.1.1.1
  have hH := hI.hN.1.1
  unfold HeadOk at hH
  refine x_aload_n C eL_law_860 rfl ?_
  refine yV0r [_, _, _, _, _, _, _, _, _, _, _, _, _, _, _, _, _, _, _] [_, _, _, _, _, _, _, _, _, _, _, _, _, _, _, _, _, _, _, _, _, _, _, _, _] C (s_X7_nextSender hK hI.hN.1 (by omega)) v_X7_nextSender vv_X7_nextSender s_RL_189 eL_law_861 (fun _ _ h => WF_pick [0, 1, 2, 3, 4, 5, 6, 7, 8, 9, 10, 11, 12, 13, 14, 15, 16, 17, 18, 19, 20, 21, 22, 23, 24] rfl rfl h) (rcv 0 rfl) rfl (nle rfl) (nle rfl) (by omega) (by omega) rfl ?_
  refine x_aload_n C eL_law_864 rfl ?_
  have hM := s_X8_nextSender (G := G) (l := l) (o := x.o) (A := x.A) (I := I) (N := N9) (n := n) (b := b) hK hI.hN.1 (by omega)
  refine yV0r [_, _, _, _, _, _, _, _, _, _, _, _, _, _, _, _, _, _, _, _, _, _, _] [_, _, _, _, _, _, _, _, _, _, _, _, _, _, _, _, _, _, _, _, _, _, _, _, _] C hM v_X8_nextSender vv_X8_nextSender s_RL_192 eL_law_865 (fun _ _ h => WF_pick [14, 15, 0, 1, 2, 3, 4, 5, 6, 7, 8, 9, 10, 11, 12, 13, 16, 17, 18, 19, 20, 21, 22, 23, 24] rfl rfl h) (rcv 14 rfl) rfl (nle rfl) (nle rfl) (by omega) (by omega) rfl ?_
  refine x_oFQ (R := [_, _, _, _, _, _, _, _, _, _, _, _, _, _, _, _, _, _, _, _, _, _, _, _]) (fun _ _ h => WF_pick [1, 0, 2, 3, 4, 5, 6, 7, 8, 9, 10, 11, 12, 13, 14, 15, 16, 17, 18, 19, 20, 21, 22, 23, 24] rfl rfl h) (fun N8 => ?_)
  refine x_icmp_same 2791 C eL_law_868 rfl ?_
  refine x_pick [_, _, _, _, _, _, _, _, _, _, _, _, _, _, _, _, _, _, _, _, _, _, _, _, _] [2, 3, 4, 5, 6, 7, 8, 9, 10, 11, 12, 13, 14, 15, 1, 0, 16, 17, 18, 19, 20, 21, 22, 23, 24] rfl rfl ?_
  exact x_wide (by omega) (by omega) (K9 (hI.qI (by omega) (up_n (by decide)) (up_n (by decide)) (up_n (by decide)) (up_n (by decide)) (up_n (by decide)) (up_n (by decide))))

set_option maxHeartbeats 4000000 in
set_option maxRecDepth 100000 in
theorem lc_15_0 {G : Gm} {X : Cx} {l : Launch} {x : LFx} {k nn : Nat} {i b : Int} {J : Nat → Int} {M : Pool} {n : Net} {N K : Nat → Net} {Fu Fb : Nat → Int} {w : List Int} {z : Int} {I TL TB : Nat → Int} {N9 : Nat → Net} {f : Nat → Int64} {fD : Nat → UInt64} (H : LKn G l x) {nmL : String} (hC : OKc G X l RL nmL cL_law 9 (some .boolean) 1400 600000 6200000) (hI : INV b J M n N K Fu Fb w z I) (hb : b ≤ 15000000) (hk : k + 100 ≤ 600000) (hn : nn + 2200 ≤ 6200000) (hi : 0 ≤ i ∧ i + 6 ≤ (x.L : Int))   (K9 : LCont G X x (b + 8000) (k + 100) (nn + 2200) i) : WX G X k nn (LAT G x J M n N K Fu Fb w z I TL TB N9 f fD) 985 (LLV x i) [] := by
  have C := hC
  have hK : KG G := H.hX.1.1.1
  have hH := hI.hN.1.1
  unfold HeadOk at hH
  refine x_aload_n C eL_law_985 rfl ?_
  refine yV0r [_, _, _, _, _, _, _, _, _, _, _, _, _, _, _, _, _, _, _] [_, _, _, _, _, _, _, _, _, _, _, _, _, _, _, _, _, _, _, _, _, _, _, _, _] C (s_X7_quietIn hK hI.hN.1 (by omega)) v_X7_quietIn vv_X7_quietIn s_RL_199 eL_law_986 (fun _ _ h => WF_pick [0, 1, 2, 3, 4, 5, 6, 7, 8, 9, 10, 11, 12, 13, 14, 15, 16, 17, 18, 19, 20, 21, 22, 23, 24] rfl rfl h) (rcv 0 rfl) rfl (nle rfl) (nle rfl) (by omega) (by omega) rfl ?_
  refine x_aload_n C eL_law_989 rfl ?_
  have hM := s_X8_quietIn (G := G) (l := l) (o := x.o) (A := x.A) (I := I) (N := N9) (n := n) (b := b) hK hI.hN.1 (by omega)
  refine yV0r [_, _, _, _, _, _, _, _, _, _, _, _, _, _, _, _, _, _, _, _, _, _, _] [_, _, _, _, _, _, _, _, _, _, _, _, _, _, _, _, _, _, _, _, _, _, _, _, _] C hM v_X8_quietIn vv_X8_quietIn s_RL_202 eL_law_990 (fun _ _ h => WF_pick [14, 15, 0, 1, 2, 3, 4, 5, 6, 7, 8, 9, 10, 11, 12, 13, 16, 17, 18, 19, 20, 21, 22, 23, 24] rfl rfl h) (rcv 14 rfl) rfl (nle rfl) (nle rfl) (by omega) (by omega) rfl ?_
  refine x_oFQ (R := [_, _, _, _, _, _, _, _, _, _, _, _, _, _, _, _, _, _, _, _, _, _, _, _]) (fun _ _ h => WF_pick [1, 0, 2, 3, 4, 5, 6, 7, 8, 9, 10, 11, 12, 13, 14, 15, 16, 17, 18, 19, 20, 21, 22, 23, 24] rfl rfl h) (fun N8 => ?_)
  refine x_icmp_same 2791 C eL_law_993 rfl ?_
  refine x_pick [_, _, _, _, _, _, _, _, _, _, _, _, _, _, _, _, _, _, _, _, _, _, _, _, _] [2, 3, 4, 5, 6, 7, 8, 9, 10, 11, 12, 13, 14, 15, 1, 0, 16, 17, 18, 19, 20, 21, 22, 23, 24] rfl rfl ?_
  exact x_wide (by omega) (by omega) (K9 (hI.qI (by omega) (up_n (by decide)) (up_n (by decide)) (up_n (by decide)) (up_n (by decide)) (up_n (by decide)) (up_n (by decide))))

set_option maxHeartbeats 4000000 in
set_option maxRecDepth 100000 in
theorem lc_23_0 {G : Gm} {X : Cx} {l : Launch} {x : LFx} {k nn : Nat} {i b : Int} {J : Nat → Int} {M : Pool} {n : Net} {N K : Nat → Net} {Fu Fb : Nat → Int} {w : List Int} {z : Int} {I TL TB : Nat → Int} {N9 : Nat → Net} {f : Nat → Int64} {fD : Nat → UInt64} (H : LKn G l x) {nmL : String} (hC : OKc G X l RL nmL cL_law 9 (some .boolean) 1400 600000 6200000) (hI : INV b J M n N K Fu Fb w z I) (hb : b ≤ 15000000) (hk : k + 100 ≤ 600000) (hn : nn + 2200 ≤ 6200000) (hi : 0 ≤ i ∧ i + 6 ≤ (x.L : Int))   (K9 : LCont G X x (b + 8000) (k + 100) (nn + 2200) i) : WX G X k nn (LAT G x J M n N K Fu Fb w z I TL TB N9 f fD) 1438 (LLV x i) [] := by
  have C := hC
  have hK : KG G := H.hX.1.1.1
  have hH := hI.hN.1.1
  unfold HeadOk at hH
  refine x_aload_n C eL_law_1438 rfl ?_
  refine yV0r [_, _, _, _, _, _, _, _, _, _, _, _, _, _, _, _, _, _, _, _] [_, _, _, _, _, _, _, _, _, _, _, _, _, _, _, _, _, _, _, _, _, _, _, _, _] C (s_X7_fullest hK hI.hN.1 (by omega)) v_X7_fullest vv_X7_fullest s_RL_224 eL_law_1439 (fun _ _ h => WF_pick [0, 1, 2, 3, 4, 5, 6, 7, 8, 9, 10, 11, 12, 13, 14, 15, 16, 17, 18, 19, 20, 21, 22, 23, 24] rfl rfl h) (rcv 0 rfl) rfl (nle rfl) (nle rfl) (by omega) (by omega) rfl ?_
  refine x_aload_n C eL_law_1442 rfl ?_
  have hM := s_X8_fullest (G := G) (l := l) (o := x.o) (A := x.A) (I := I) (N := N9) (n := n) (b := b) hK hI.hN.1 (by omega)
  refine yV0r [_, _, _, _, _, _, _, _, _, _, _, _, _, _, _, _, _, _, _, _, _, _, _] [_, _, _, _, _, _, _, _, _, _, _, _, _, _, _, _, _, _, _, _, _, _, _, _, _] C hM v_X8_fullest vv_X8_fullest s_RL_227 eL_law_1443 (fun _ _ h => WF_pick [14, 15, 0, 1, 2, 3, 4, 5, 6, 7, 8, 9, 10, 11, 12, 13, 16, 17, 18, 19, 20, 21, 22, 23, 24] rfl rfl h) (rcv 14 rfl) rfl (nle rfl) (nle rfl) (by omega) (by omega) rfl ?_
  refine x_icmp_same 2791 C eL_law_1446 rfl ?_
  refine x_pick [_, _, _, _, _, _, _, _, _, _, _, _, _, _, _, _, _, _, _, _, _, _, _, _, _] [2, 3, 4, 5, 6, 7, 8, 9, 10, 11, 12, 13, 14, 15, 0, 1, 16, 17, 18, 19, 20, 21, 22, 23, 24] rfl rfl ?_
  exact x_wide (by omega) (by omega) (K9 (hI.qI (by omega) (up_n (by decide)) (up_n (by decide)) (up_n (by decide)) (up_n (by decide)) (up_n (by decide)) (up_n (by decide))))

set_option maxHeartbeats 4000000 in
set_option maxRecDepth 100000 in
theorem lc_24_0 {G : Gm} {X : Cx} {l : Launch} {x : LFx} {k nn : Nat} {i b : Int} {J : Nat → Int} {M : Pool} {n : Net} {N K : Nat → Net} {Fu Fb : Nat → Int} {w : List Int} {z : Int} {I TL TB : Nat → Int} {N9 : Nat → Net} {f : Nat → Int64} {fD : Nat → UInt64} (H : LKn G l x) {nmL : String} (hC : OKc G X l RL nmL cL_law 9 (some .boolean) 1400 600000 6200000) (hI : INV b J M n N K Fu Fb w z I) (hb : b ≤ 15000000) (hk : k + 100 ≤ 600000) (hn : nn + 2200 ≤ 6200000) (hi : 0 ≤ i ∧ i + 6 ≤ (x.L : Int))   (K9 : LCont G X x (b + 8000) (k + 100) (nn + 2200) i) : WX G X k nn (LAT G x J M n N K Fu Fb w z I TL TB N9 f fD) 1451 (LLV x i) [] := by
  have C := hC
  have hK : KG G := H.hX.1.1.1
  have hH := hI.hN.1.1
  unfold HeadOk at hH
  refine x_aload_n C eL_law_1451 rfl ?_
  refine yV0r [_, _, _, _, _, _, _, _, _, _, _, _, _, _, _, _, _, _, _, _] [_, _, _, _, _, _, _, _, _, _, _, _, _, _, _, _, _, _, _, _, _, _, _, _, _] C (s_X7_busiest hK hI.hN.1 (by omega)) v_X7_busiest vv_X7_busiest s_RL_228 eL_law_1452 (fun _ _ h => WF_pick [0, 1, 2, 3, 4, 5, 6, 7, 8, 9, 10, 11, 12, 13, 14, 15, 16, 17, 18, 19, 20, 21, 22, 23, 24] rfl rfl h) (rcv 0 rfl) rfl (nle rfl) (nle rfl) (by omega) (by omega) rfl ?_
  refine x_aload_n C eL_law_1455 rfl ?_
  have hM := s_X8_busiest (G := G) (l := l) (o := x.o) (A := x.A) (I := I) (N := N9) (n := n) (b := b) hK hI.hN.1 (by omega)
  refine yV0r [_, _, _, _, _, _, _, _, _, _, _, _, _, _, _, _, _, _, _, _, _, _, _] [_, _, _, _, _, _, _, _, _, _, _, _, _, _, _, _, _, _, _, _, _, _, _, _, _] C hM v_X8_busiest vv_X8_busiest s_RL_231 eL_law_1456 (fun _ _ h => WF_pick [14, 15, 0, 1, 2, 3, 4, 5, 6, 7, 8, 9, 10, 11, 12, 13, 16, 17, 18, 19, 20, 21, 22, 23, 24] rfl rfl h) (rcv 14 rfl) rfl (nle rfl) (nle rfl) (by omega) (by omega) rfl ?_
  refine x_icmp_same 2791 C eL_law_1459 rfl ?_
  refine x_pick [_, _, _, _, _, _, _, _, _, _, _, _, _, _, _, _, _, _, _, _, _, _, _, _, _] [2, 3, 4, 5, 6, 7, 8, 9, 10, 11, 12, 13, 14, 15, 0, 1, 16, 17, 18, 19, 20, 21, 22, 23, 24] rfl rfl ?_
  exact x_wide (by omega) (by omega) (K9 (hI.qI (by omega) (up_n (by decide)) (up_n (by decide)) (up_n (by decide)) (up_n (by decide)) (up_n (by decide)) (up_n (by decide))))

set_option maxHeartbeats 4000000 in
set_option maxRecDepth 100000 in
theorem lc_27_0 {G : Gm} {X : Cx} {l : Launch} {x : LFx} {k nn : Nat} {i b : Int} {J : Nat → Int} {M : Pool} {n : Net} {N K : Nat → Net} {Fu Fb : Nat → Int} {w : List Int} {z : Int} {I TL TB : Nat → Int} {N9 : Nat → Net} {f : Nat → Int64} {fD : Nat → UInt64} (H : LKn G l x) {nmL : String} (hC : OKc G X l RL nmL cL_law 9 (some .boolean) 1400 600000 6200000) (hI : INV b J M n N K Fu Fb w z I) (hb : b ≤ 15000000) (hk : k + 100 ≤ 600000) (hn : nn + 2200 ≤ 6200000) (hi : 0 ≤ i ∧ i + 6 ≤ (x.L : Int))   (K9 : LCont G X x (b + 8000) (k + 100) (nn + 2200) i) : WX G X k nn (LAT G x J M n N K Fu Fb w z I TL TB N9 f fD) 1619 (LLV x i) [] := by
  have C := hC
  have hK : KG G := H.hX.1.1.1
  have hH := hI.hN.1.1
  unfold HeadOk at hH
  refine x_aload_n C eL_law_1619 rfl ?_
  refine yV0r [_, _, _, _, _, _, _, _, _, _, _, _, _, _, _, _, _, _, _, _] [_, _, _, _, _, _, _, _, _, _, _, _, _, _, _, _, _, _, _, _, _, _, _, _, _] C (s_X7_longestRun hK hI.hN.1 (by omega)) v_X7_longestRun vv_X7_longestRun s_RL_239 eL_law_1620 (fun _ _ h => WF_pick [0, 1, 2, 3, 4, 5, 6, 7, 8, 9, 10, 11, 12, 13, 14, 15, 16, 17, 18, 19, 20, 21, 22, 23, 24] rfl rfl h) (rcv 0 rfl) rfl (nle rfl) (nle rfl) (by omega) (by omega) rfl ?_
  refine x_aload_n C eL_law_1623 rfl ?_
  have hM := s_X8_longestRun (G := G) (l := l) (o := x.o) (A := x.A) (I := I) (N := N9) (n := n) (b := b) hK hI.hN.1 (by omega)
  refine yV0r [_, _, _, _, _, _, _, _, _, _, _, _, _, _, _, _, _, _, _, _, _, _, _] [_, _, _, _, _, _, _, _, _, _, _, _, _, _, _, _, _, _, _, _, _, _, _, _, _] C hM v_X8_longestRun vv_X8_longestRun s_RL_242 eL_law_1624 (fun _ _ h => WF_pick [14, 15, 0, 1, 2, 3, 4, 5, 6, 7, 8, 9, 10, 11, 12, 13, 16, 17, 18, 19, 20, 21, 22, 23, 24] rfl rfl h) (rcv 14 rfl) rfl (nle rfl) (nle rfl) (by omega) (by omega) rfl ?_
  refine x_icmp_same 2791 C eL_law_1627 rfl ?_
  refine x_pick [_, _, _, _, _, _, _, _, _, _, _, _, _, _, _, _, _, _, _, _, _, _, _, _, _] [2, 3, 4, 5, 6, 7, 8, 9, 10, 11, 12, 13, 14, 15, 0, 1, 16, 17, 18, 19, 20, 21, 22, 23, 24] rfl rfl ?_
  exact x_wide (by omega) (by omega) (K9 (hI.qI (by omega) (up_n (by decide)) (up_n (by decide)) (up_n (by decide)) (up_n (by decide)) (up_n (by decide)) (up_n (by decide))))

set_option maxHeartbeats 4000000 in
set_option maxRecDepth 100000 in
theorem lc_3_0 {G : Gm} {X : Cx} {l : Launch} {x : LFx} {k nn : Nat} {i b : Int} {J : Nat → Int} {M : Pool} {n : Net} {N K : Nat → Net} {Fu Fb : Nat → Int} {w : List Int} {z : Int} {I TL TB : Nat → Int} {N9 : Nat → Net} {f : Nat → Int64} {fD : Nat → UInt64} (H : LKn G l x) {nmL : String} (hC : OKc G X l RL nmL cL_law 9 (some .boolean) 1400 600000 6200000) (hI : INV b J M n N K Fu Fb w z I) (hb : b ≤ 15000000) (hk : k + 100 ≤ 600000) (hn : nn + 2200 ≤ 6200000) (hi : 0 ≤ i ∧ i + 6 ≤ (x.L : Int))   (K9 : LCont G X x (b + 8000) (k + 100) (nn + 2200) i) : WX G X k nn (LAT G x J M n N K Fu Fb w z I TL TB N9 f fD) 409 (LLV x i) [] := by
  have C := hC
  have hK : KG G := H.hX.1.1.1
  have hH := hI.hN.1.1
  unfold HeadOk at hH
  refine x_aload_n C eL_law_409 rfl ?_
  refine yV0r [_, _, _, _, _, _, _, _, _, _, _, _, _, _, _, _, _, _, _, _, _, _, _, _] [_, _, _, _, _, _, _, _, _, _, _, _, _, _, _, _, _, _, _, _, _, _, _, _, _] C (s_X7_errorCode hK ) v_X7_errorCode vv_X7_errorCode s_RL_156 eL_law_410 (fun _ _ h => WF_pick [0, 1, 2, 3, 4, 5, 6, 7, 8, 9, 10, 11, 12, 13, 14, 15, 16, 17, 18, 19, 20, 21, 22, 23, 24] rfl rfl h) (rcv 0 rfl) rfl (nle rfl) (nle rfl) (by omega) (by omega) rfl ?_
  refine x_aload_n C eL_law_413 rfl ?_
  have hM := s_X8_errorCode (G := G) (l := l) (o := x.o) (A := x.A) (I := I) (N := N9) (n := n) hK 
  refine yV0r [_, _, _, _, _, _, _, _, _, _, _, _, _, _, _, _, _, _, _, _, _, _, _] [_, _, _, _, _, _, _, _, _, _, _, _, _, _, _, _, _, _, _, _, _, _, _, _, _] C hM v_X8_errorCode vv_X8_errorCode s_RL_159 eL_law_414 (fun _ _ h => WF_pick [14, 15, 0, 1, 2, 3, 4, 5, 6, 7, 8, 9, 10, 11, 12, 13, 16, 17, 18, 19, 20, 21, 22, 23, 24] rfl rfl h) (rcv 14 rfl) rfl (nle rfl) (nle rfl) (by omega) (by omega) rfl ?_
  refine x_icmp_val hI.e8.symm 2791 C eL_law_417 rfl ?_
  refine x_pick [_, _, _, _, _, _, _, _, _, _, _, _, _, _, _, _, _, _, _, _, _, _, _, _, _] [2, 3, 4, 5, 6, 7, 8, 9, 10, 11, 12, 13, 14, 15, 0, 1, 16, 17, 18, 19, 20, 21, 22, 23, 24] rfl rfl ?_
  exact x_wide (by omega) (by omega) (K9 (hI.qI (by omega) (up_n (by decide)) (up_n (by decide)) (up_n (by decide)) (up_n (by decide)) (up_n (by decide)) (up_n (by decide))))

set_option maxHeartbeats 4000000 in
set_option maxRecDepth 100000 in
theorem lc_4_0 {G : Gm} {X : Cx} {l : Launch} {x : LFx} {k nn : Nat} {i b : Int} {J : Nat → Int} {M : Pool} {n : Net} {N K : Nat → Net} {Fu Fb : Nat → Int} {w : List Int} {z : Int} {I TL TB : Nat → Int} {N9 : Nat → Net} {f : Nat → Int64} {fD : Nat → UInt64} (H : LKn G l x) {nmL : String} (hC : OKc G X l RL nmL cL_law 9 (some .boolean) 1400 600000 6200000) (hI : INV b J M n N K Fu Fb w z I) (hb : b ≤ 15000000) (hk : k + 100 ≤ 600000) (hn : nn + 2200 ≤ 6200000) (hi : 0 ≤ i ∧ i + 6 ≤ (x.L : Int))   (K9 : LCont G X x (b + 8000) (k + 100) (nn + 2200) i) : WX G X k nn (LAT G x J M n N K Fu Fb w z I TL TB N9 f fD) 422 (LLV x i) [] := by
  have C := hC
  have hK : KG G := H.hX.1.1.1
  have hH := hI.hN.1.1
  unfold HeadOk at hH
  refine x_aload_n C eL_law_422 rfl ?_
  refine yV0r [_, _, _, _, _, _, _, _, _, _, _, _, _, _, _, _, _, _, _, _, _, _, _, _] [_, _, _, _, _, _, _, _, _, _, _, _, _, _, _, _, _, _, _, _, _, _, _, _, _] C (s_X7_errorPosition hK ) v_X7_errorPosition vv_X7_errorPosition s_RL_160 eL_law_423 (fun _ _ h => WF_pick [0, 1, 2, 3, 4, 5, 6, 7, 8, 9, 10, 11, 12, 13, 14, 15, 16, 17, 18, 19, 20, 21, 22, 23, 24] rfl rfl h) (rcv 0 rfl) rfl (nle rfl) (nle rfl) (by omega) (by omega) rfl ?_
  refine x_aload_n C eL_law_426 rfl ?_
  have hM := s_X8_errorPosition (G := G) (l := l) (o := x.o) (A := x.A) (I := I) (N := N9) (n := n) hK 
  refine yV0r [_, _, _, _, _, _, _, _, _, _, _, _, _, _, _, _, _, _, _, _, _, _, _] [_, _, _, _, _, _, _, _, _, _, _, _, _, _, _, _, _, _, _, _, _, _, _, _, _] C hM v_X8_errorPosition vv_X8_errorPosition s_RL_163 eL_law_427 (fun _ _ h => WF_pick [14, 15, 0, 1, 2, 3, 4, 5, 6, 7, 8, 9, 10, 11, 12, 13, 16, 17, 18, 19, 20, 21, 22, 23, 24] rfl rfl h) (rcv 14 rfl) rfl (nle rfl) (nle rfl) (by omega) (by omega) rfl ?_
  refine x_icmp_val hI.e9.symm 2791 C eL_law_430 rfl ?_
  refine x_pick [_, _, _, _, _, _, _, _, _, _, _, _, _, _, _, _, _, _, _, _, _, _, _, _, _] [2, 3, 4, 5, 6, 7, 8, 9, 10, 11, 12, 13, 14, 15, 0, 1, 16, 17, 18, 19, 20, 21, 22, 23, 24] rfl rfl ?_
  exact x_wide (by omega) (by omega) (K9 (hI.qI (by omega) (up_n (by decide)) (up_n (by decide)) (up_n (by decide)) (up_n (by decide)) (up_n (by decide)) (up_n (by decide))))

set_option maxHeartbeats 4000000 in
set_option maxRecDepth 100000 in
theorem lc_44_0 {G : Gm} {X : Cx} {l : Launch} {x : LFx} {k nn : Nat} {i b : Int} {J : Nat → Int} {M : Pool} {n : Net} {N K : Nat → Net} {Fu Fb : Nat → Int} {w : List Int} {z : Int} {I TL TB : Nat → Int} {N9 : Nat → Net} {f : Nat → Int64} {fD : Nat → UInt64} (H : LKn G l x) {nmL : String} (hC : OKc G X l RL nmL cL_law 9 (some .boolean) 1400 600000 6200000) (hI : INV b J M n N K Fu Fb w z I) (hb : b ≤ 15000000) (hk : k + 100 ≤ 600000) (hn : nn + 2200 ≤ 6200000) (hi : 0 ≤ i ∧ i + 6 ≤ (x.L : Int))   (K9 : LCont G X x (b + 8000) (k + 100) (nn + 2200) i) : WX G X k nn (LAT G x J M n N K Fu Fb w z I TL TB N9 f fD) 2640 (LLV x i) [] := by
  have C := hC
  have hK : KG G := H.hX.1.1.1
  have hH := hI.hN.1.1
  unfold HeadOk at hH
  refine x_aload_n C eL_law_2640 rfl ?_
  refine yV0r [_, _, _, _, _, _, _, _, _, _, _, _, _, _, _, _, _, _, _, _, _, _, _, _] [_, _, _, _, _, _, _, _, _, _, _, _, _, _, _, _, _, _, _, _, _, _, _, _, _] C (s_X7_undoCount hK ) v_X7_undoCount vv_X7_undoCount s_RL_295 eL_law_2641 (fun _ _ h => WF_pick [0, 1, 2, 3, 4, 5, 6, 7, 8, 9, 10, 11, 12, 13, 14, 15, 16, 17, 18, 19, 20, 21, 22, 23, 24] rfl rfl h) (rcv 0 rfl) rfl (nle rfl) (nle rfl) (by omega) (by omega) rfl ?_
  refine x_aload_n C eL_law_2644 rfl ?_
  have hM := s_X8_undoCount (G := G) (l := l) (o := x.o) (A := x.A) (I := I) (N := N9) (n := n) hK 
  refine yV0r [_, _, _, _, _, _, _, _, _, _, _, _, _, _, _, _, _, _, _, _, _, _, _] [_, _, _, _, _, _, _, _, _, _, _, _, _, _, _, _, _, _, _, _, _, _, _, _, _] C hM v_X8_undoCount vv_X8_undoCount s_RL_298 eL_law_2645 (fun _ _ h => WF_pick [14, 15, 0, 1, 2, 3, 4, 5, 6, 7, 8, 9, 10, 11, 12, 13, 16, 17, 18, 19, 20, 21, 22, 23, 24] rfl rfl h) (rcv 14 rfl) rfl (nle rfl) (nle rfl) (by omega) (by omega) rfl ?_
  refine x_icmp_val hI.e6.symm 2791 C eL_law_2648 rfl ?_
  refine x_pick [_, _, _, _, _, _, _, _, _, _, _, _, _, _, _, _, _, _, _, _, _, _, _, _, _] [2, 3, 4, 5, 6, 7, 8, 9, 10, 11, 12, 13, 14, 15, 0, 1, 16, 17, 18, 19, 20, 21, 22, 23, 24] rfl rfl ?_
  exact x_wide (by omega) (by omega) (K9 (hI.qI (by omega) (up_n (by decide)) (up_n (by decide)) (up_n (by decide)) (up_n (by decide)) (up_n (by decide)) (up_n (by decide))))

