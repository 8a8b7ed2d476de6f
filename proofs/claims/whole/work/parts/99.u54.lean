/-! The law, case by case: calls with a truth. -/
set_option maxHeartbeats 4000000 in
set_option maxRecDepth 100000 in
theorem lc_9_0T {G : Gm} {X : Cx} {l : Launch} {x : LFx} {k nn : Nat} {i b : Int} {J : Nat → Int} {M : Pool} {n : Net} {N K : Nat → Net} {Fu Fb : Nat → Int} {w : List Int} {z : Int} {I TL TB : Nat → Int} {N9 : Nat → Net} {f : Nat → Int64} {fD : Nat → UInt64} {a1 a2 a3 : Int} (H : LKn G l x) {nmL : String} (hC : OKc G X l RL nmL cL_law 9 (some .boolean) 1400 600000 6200000) (hI : INV b J M n N K Fu Fb w z I) (hb : b ≤ 15000000) (hk : k + 100 ≤ 600000) (hn : nn + 2200 ≤ 6200000) (hi : 0 ≤ i ∧ i + 6 ≤ (x.L : Int)) (ha1 : (x.xs (i + 1).toNat).toInt = a1) (ha2 : (x.xs (i + 2).toNat).toInt = a2) (ha3 : (x.xs (i + 3).toNat).toInt = a3) (hz : ¬ a2 = 0) (hl : 0 ≤ a1 ∧ a1 < n (-1) 0) (hi9 : 0 ≤ a3 ∧ a3 < n a1 7) (K9 : LCont G X x (b + 8000) (k + 100) (nn + 2200) i) : WX G X k nn (LAT G x J M n N K Fu Fb w z I TL TB N9 f fD) 640 (LLV x i) [] := by
  have C := hC
  have hK : KG G := H.hX.1.1.1
  have hH := hI.hN.1.1
  unfold HeadOk at hH
  have r1 : -2147483648 ≤ a1 ∧ a1 < 2147483648 := by rw [← ha1]; exact bI_toInt _
  have r2 : -2147483648 ≤ a2 ∧ a2 < 2147483648 := by rw [← ha2]; exact bI_toInt _
  have r3 : -2147483648 ≤ a3 ∧ a3 < 2147483648 := by rw [← ha3]; exact bI_toInt _
  refine x_aload_n C eL_law_640 rfl ?_
  refine x_argA C H.hx H.hbl H.hL eL_law_641 eL_law_642 eL_law_644 eL_law_645 eL_law_646 rfl rfl (by omega) ha1 ?_
  refine x_argA C H.hx H.hbl H.hL eL_law_647 eL_law_648 eL_law_650 eL_law_651 eL_law_652 rfl rfl (by omega) ha2 ?_
  refine x_if_eq 660 C eL_law_653 rfl (by omega) (fun h => absurd h hz) (fun _ => ?_)
  refine x_iconst C eL_law_656 ?_
  refine x_goto (pc' := 661) C eL_law_657 rfl ?_
  refine x_argA C H.hx H.hbl H.hL eL_law_661 eL_law_662 eL_law_664 eL_law_665 eL_law_666 rfl rfl (by omega) ha3 ?_
  refine x_aload_n C eL_law_667 rfl ?_
  refine x_callSW (As := [_, _, _, _, _]) [_, _, _, _, _, _, _, _, _, _, _, _, _, _, _, _, _, _, _] C (wn_queued hK (s_X7_queued hK True hI.hN.1 (by omega) (by omega) (by simp only [if_true, if_false]; omega)) (rcv 0 rfl)) cw_queued s_RL_179 eL_law_668 rfl (fun _ _ h => WF_pick [0, 1, 2, 3, 4, 23, 5, 6, 7, 8, 9, 10, 11, 12, 13, 14, 15, 16, 17, 18, 19, 20, 21, 22, 24] rfl rfl h) rfl (nle rfl) (nle rfl) (by omega) (by omega) (fun _ _ => ?_)
  refine x_pick [_, _, _, _, _, _, _, _, _, _, _, _, _, _, _, _, _, _, _, _, _, _, _, _, _] [0, 1, 2, 3, 4, 5, 6, 7, 8, 9, 10, 11, 12, 13, 14, 15, 16, 17, 18, 19, 20, 21, 22, 23, 24] rfl rfl ?_
  refine x_istore [_, _, _, _, _, _, _, _, _] C eL_law_671 rfl rfl (nlt rfl) ?_
  refine x_aload_n C eL_law_673 rfl ?_
  refine x_argA C H.hx H.hbl H.hL eL_law_674 eL_law_675 eL_law_677 eL_law_678 eL_law_679 rfl rfl (by omega) ha1 ?_
  refine x_argA C H.hx H.hbl H.hL eL_law_680 eL_law_681 eL_law_683 eL_law_684 eL_law_685 rfl rfl (by omega) ha2 ?_
  refine x_if_eq 693 C eL_law_686 rfl (by omega) (fun h => absurd h hz) (fun _ => ?_)
  refine x_iconst C eL_law_689 ?_
  refine x_goto (pc' := 694) C eL_law_690 rfl ?_
  refine x_argA C H.hx H.hbl H.hL eL_law_694 eL_law_695 eL_law_697 eL_law_698 eL_law_699 rfl rfl (by omega) ha3 ?_
  have c1 : (0 ≤ a1 ∧ a1 ≤ n (-1) 0 - 1) ∧ 0 ≤ a3 ∧ a3 ≤ (if True then n a1 7 else n a1 6) - 1 := by first | trivial | omega | (simp only [if_true, if_false]; omega)
  have c2 : True := by first | trivial | omega | (simp only [if_true, if_false]; omega)
  have c3 : True := by first | trivial | omega | (simp only [if_true, if_false]; omega)
  have hM := s_X8_queued (G := G) (l := l) (o := x.o) (A := x.A) (I := I) (N := N9) (n := n) (b := b) (l9 := a1) (i9 := a3) hK True hI.hN.1 (by omega) (by omega) (by omega)
  simp only [if_pos (show ((0 ≤ a1 ∧ a1 ≤ n (-1) 0 - 1) ∧ 0 ≤ a3 ∧ a3 ≤ (if True then n a1 7 else n a1 6) - 1) ∧ (True) ∧ (True) from ⟨c1, c2, c3⟩), thr_0 c1 c2 c3] at hM
  refine yV3r [_, _, _, _, _, _, _, _, _, _, _, _, _, _, _, _, _, _, _, _, _, _, _] [_, _, _, _, _, _, _, _, _, _, _, _, _, _, _, _, _, _, _, _, _, _, _, _, _] C hM v_X8_queued vv_X8_queued s_RL_182 eL_law_700 (fun _ _ h => WF_pick [15, 16, 0, 1, 2, 3, 4, 5, 6, 7, 8, 9, 10, 11, 12, 13, 14, 17, 18, 19, 20, 21, 22, 23, 24] rfl rfl h) (rcv 15 rfl) rfl (nle rfl) (nle rfl) (by omega) (by omega) rfl ?_
  refine x_istore [_, _, _, _, _, _, _, _, _] C eL_law_703 rfl rfl (nlt rfl) ?_
  refine x_aload_n C eL_law_705 rfl ?_
  refine yV0r [_, _, _, _, _, _, _, _, _, _, _, _, _, _, _, _, _, _, _, _, _, _, _, _] [_, _, _, _, _, _, _, _, _, _, _, _, _, _, _, _, _, _, _, _, _, _, _, _, _] C (s_X8_thrown hK) v_X8_thrown vv_X8_thrown s_RL_145 eL_law_706 (fun _ _ h => WF_pick [0, 1, 2, 3, 4, 5, 6, 7, 8, 9, 10, 11, 12, 13, 14, 15, 16, 17, 18, 19, 20, 21, 22, 23, 24] rfl rfl h) (rcv 0 rfl) rfl (nle rfl) (nle rfl) (by omega) (by omega) rfl ?_
  refine x_iload C eL_law_709 rfl ?_
  refine x_icmp_val (by first | exact up_s _ _ _ | exact (up_n (by decide)).trans (up_s _ _ _)) 716 C eL_law_711 rfl ?_
  refine x_iload C eL_law_716 rfl ?_
  refine x_if_ne 733 C eL_law_718 rfl (by omega) (fun h => absurd rfl h) (fun _ => ?_)
  refine x_aload_n C eL_law_721 rfl ?_
  refine x_iconst C eL_law_722 ?_
  refine x_lald (N := 1) 7 C eL_law_723 rfl (by decide) (by omega) ?_
  refine x_iload C eL_law_724 rfl ?_
  refine x_i2lR C eL_law_726 ?_
  refine x_lcmp_same 733 (by first | exact if_pos rfl | (rw [if_pos rfl]; rfl) | decide) C eL_law_727 eL_law_728 rfl ?_
  refine x_goto (pc' := 2791) C eL_law_733 rfl ?_
  refine x_pick [_, _, _, _, _, _, _, _, _, _, _, _, _, _, _, _, _, _, _, _, _, _, _, _, _] [2, 3, 4, 5, 6, 8, 9, 10, 11, 12, 13, 14, 15, 16, 0, 1, 17, 18, 19, 20, 21, 22, 23, 7, 24] rfl rfl ?_
  refine x_lv [_, _, _, _, _, _, none, none, _] rfl (lx_drop _ [6, 7] rfl) ?_
  exact x_wide (by omega) (by omega) (K9 (hI.qI (by omega) (up_n (by decide)) (up_n (by decide)) (up_n (by decide)) (up_n (by decide)) (up_n (by decide)) (up_n (by decide))))

set_option maxHeartbeats 4000000 in
set_option maxRecDepth 100000 in
theorem lc_9_1T {G : Gm} {X : Cx} {l : Launch} {x : LFx} {k nn : Nat} {i b : Int} {J : Nat → Int} {M : Pool} {n : Net} {N K : Nat → Net} {Fu Fb : Nat → Int} {w : List Int} {z : Int} {I TL TB : Nat → Int} {N9 : Nat → Net} {f : Nat → Int64} {fD : Nat → UInt64} {a1 a2 a3 : Int} (H : LKn G l x) {nmL : String} (hC : OKc G X l RL nmL cL_law 9 (some .boolean) 1400 600000 6200000) (hI : INV b J M n N K Fu Fb w z I) (hb : b ≤ 15000000) (hk : k + 100 ≤ 600000) (hn : nn + 2200 ≤ 6200000) (hi : 0 ≤ i ∧ i + 6 ≤ (x.L : Int)) (ha1 : (x.xs (i + 1).toNat).toInt = a1) (ha2 : (x.xs (i + 2).toNat).toInt = a2) (ha3 : (x.xs (i + 3).toNat).toInt = a3) (hz : ¬ a2 = 0) (hl : ¬ (0 ≤ a1 ∧ a1 < n (-1) 0)) (K9 : LCont G X x (b + 8000) (k + 100) (nn + 2200) i) : WX G X k nn (LAT G x J M n N K Fu Fb w z I TL TB N9 f fD) 640 (LLV x i) [] := by
  have C := hC
  have hK : KG G := H.hX.1.1.1
  have hH := hI.hN.1.1
  unfold HeadOk at hH
  have r1 : -2147483648 ≤ a1 ∧ a1 < 2147483648 := by rw [← ha1]; exact bI_toInt _
  have r2 : -2147483648 ≤ a2 ∧ a2 < 2147483648 := by rw [← ha2]; exact bI_toInt _
  have r3 : -2147483648 ≤ a3 ∧ a3 < 2147483648 := by rw [← ha3]; exact bI_toInt _
  refine x_aload_n C eL_law_640 rfl ?_
  refine x_argA C H.hx H.hbl H.hL eL_law_641 eL_law_642 eL_law_644 eL_law_645 eL_law_646 rfl rfl (by omega) ha1 ?_
  refine x_argA C H.hx H.hbl H.hL eL_law_647 eL_law_648 eL_law_650 eL_law_651 eL_law_652 rfl rfl (by omega) ha2 ?_
  refine x_if_eq 660 C eL_law_653 rfl (by omega) (fun h => absurd h hz) (fun _ => ?_)
  refine x_iconst C eL_law_656 ?_
  refine x_goto (pc' := 661) C eL_law_657 rfl ?_
  refine x_argA C H.hx H.hbl H.hL eL_law_661 eL_law_662 eL_law_664 eL_law_665 eL_law_666 rfl rfl (by omega) ha3 ?_
  refine x_aload_n C eL_law_667 rfl ?_
  refine x_callSW (As := [_, _, _, _, _]) [_, _, _, _, _, _, _, _, _, _, _, _, _, _, _, _, _, _, _, _, _, _] C (wx_queued_1 hK (t_X7_queued_2 H.hX H.hT0 (by omega) (by omega) (by omega)) (xwd_c (i := 0) H.hX rfl) (rcv 0 rfl)) cw_queued s_RL_179 eL_law_668 rfl (fun _ _ h => WF_pick [0, 1, 23, 2, 3, 4, 5, 6, 7, 8, 9, 10, 11, 12, 13, 14, 15, 16, 17, 18, 19, 20, 21, 22, 24] rfl rfl h) rfl (nle rfl) (nle rfl) (by omega) (by omega) (fun _ _ => ?_)
  refine x_pick [_, _, _, _, _, _, _, _, _, _, _, _, _, _, _, _, _, _, _, _, _, _, _, _, _] [0, 1, 2, 3, 4, 5, 6, 7, 8, 9, 10, 11, 12, 13, 14, 15, 16, 17, 18, 19, 20, 21, 22, 23, 24] rfl rfl ?_
  refine x_istore [_, _, _, _, _, _, _, _, _] C eL_law_671 rfl rfl (nlt rfl) ?_
  refine x_aload_n C eL_law_673 rfl ?_
  refine x_argA C H.hx H.hbl H.hL eL_law_674 eL_law_675 eL_law_677 eL_law_678 eL_law_679 rfl rfl (by omega) ha1 ?_
  refine x_argA C H.hx H.hbl H.hL eL_law_680 eL_law_681 eL_law_683 eL_law_684 eL_law_685 rfl rfl (by omega) ha2 ?_
  refine x_if_eq 693 C eL_law_686 rfl (by omega) (fun h => absurd h hz) (fun _ => ?_)
  refine x_iconst C eL_law_689 ?_
  refine x_goto (pc' := 694) C eL_law_690 rfl ?_
  refine x_argA C H.hx H.hbl H.hL eL_law_694 eL_law_695 eL_law_697 eL_law_698 eL_law_699 rfl rfl (by omega) ha3 ?_
  have c1 : ¬ ((0 ≤ a1 ∧ a1 ≤ n (-1) 0 - 1) ∧ 0 ≤ a3 ∧ a3 ≤ (if True then n a1 7 else n a1 6) - 1) := by first | omega | (simp only [if_true, if_false]; omega)
  have hM := s_X8_queued (G := G) (l := l) (o := x.o) (A := x.A) (I := I) (N := N9) (n := n) (b := b) (l9 := a1) (i9 := a3) hK True hI.hN.1 (by omega) (by omega) (by omega)
  simp only [if_neg (show ¬ (((0 ≤ a1 ∧ a1 ≤ n (-1) 0 - 1) ∧ 0 ≤ a3 ∧ a3 ≤ (if True then n a1 7 else n a1 6) - 1) ∧ (True) ∧ (True)) from fun q => c1 q.1), thr_1 c1] at hM
  refine yV3r [_, _, _, _, _, _, _, _, _, _, _, _, _, _, _, _, _, _, _, _, _, _, _] [_, _, _, _, _, _, _, _, _, _, _, _, _, _, _, _, _, _, _, _, _, _, _, _, _] C hM v_X8_queued vv_X8_queued s_RL_182 eL_law_700 (fun _ _ h => WF_pick [15, 16, 0, 1, 2, 3, 4, 5, 6, 7, 8, 9, 10, 11, 12, 13, 14, 17, 18, 19, 20, 21, 22, 23, 24] rfl rfl h) (rcv 15 rfl) rfl (nle rfl) (nle rfl) (by omega) (by omega) rfl ?_
  refine x_istore [_, _, _, _, _, _, _, _, _] C eL_law_703 rfl rfl (nlt rfl) ?_
  refine x_aload_n C eL_law_705 rfl ?_
  refine yV0r [_, _, _, _, _, _, _, _, _, _, _, _, _, _, _, _, _, _, _, _, _, _, _, _] [_, _, _, _, _, _, _, _, _, _, _, _, _, _, _, _, _, _, _, _, _, _, _, _, _] C (s_X8_thrown hK) v_X8_thrown vv_X8_thrown s_RL_145 eL_law_706 (fun _ _ h => WF_pick [0, 1, 2, 3, 4, 5, 6, 7, 8, 9, 10, 11, 12, 13, 14, 15, 16, 17, 18, 19, 20, 21, 22, 23, 24] rfl rfl h) (rcv 0 rfl) rfl (nle rfl) (nle rfl) (by omega) (by omega) rfl ?_
  refine x_iload C eL_law_709 rfl ?_
  refine x_icmp_val (by first | exact up_s _ _ _ | exact (up_n (by decide)).trans (up_s _ _ _)) 716 C eL_law_711 rfl ?_
  refine x_iload C eL_law_716 rfl ?_
  refine x_if_ne 733 C eL_law_718 rfl (by omega) (fun _ => ?_) (fun h => absurd h (by decide))
  refine x_goto (pc' := 2791) C eL_law_733 rfl ?_
  refine x_pick [_, _, _, _, _, _, _, _, _, _, _, _, _, _, _, _, _, _, _, _, _, _, _, _, _] [2, 3, 5, 6, 7, 8, 9, 10, 11, 12, 13, 14, 15, 16, 0, 1, 17, 18, 19, 20, 21, 22, 23, 4, 24] rfl rfl ?_
  refine x_lv [_, _, _, _, _, _, none, none, _] rfl (lx_drop _ [6, 7] rfl) ?_
  exact x_wide (by omega) (by omega) (K9 (hI.qI (by omega) (up_n (by decide)) (up_n (by decide)) (up_n (by decide)) (up_n (by decide)) (up_n (by decide)) (up_n (by decide))))

set_option maxHeartbeats 4000000 in
set_option maxRecDepth 100000 in
theorem lc_9_1bT {G : Gm} {X : Cx} {l : Launch} {x : LFx} {k nn : Nat} {i b : Int} {J : Nat → Int} {M : Pool} {n : Net} {N K : Nat → Net} {Fu Fb : Nat → Int} {w : List Int} {z : Int} {I TL TB : Nat → Int} {N9 : Nat → Net} {f : Nat → Int64} {fD : Nat → UInt64} {a1 a2 a3 : Int} (H : LKn G l x) {nmL : String} (hC : OKc G X l RL nmL cL_law 9 (some .boolean) 1400 600000 6200000) (hI : INV b J M n N K Fu Fb w z I) (hb : b ≤ 15000000) (hk : k + 100 ≤ 600000) (hn : nn + 2200 ≤ 6200000) (hi : 0 ≤ i ∧ i + 6 ≤ (x.L : Int)) (ha1 : (x.xs (i + 1).toNat).toInt = a1) (ha2 : (x.xs (i + 2).toNat).toInt = a2) (ha3 : (x.xs (i + 3).toNat).toInt = a3) (hz : ¬ a2 = 0) (hl : 0 ≤ a1 ∧ a1 < n (-1) 0) (hi9 : ¬ (0 ≤ a3 ∧ a3 < n a1 7)) (K9 : LCont G X x (b + 8000) (k + 100) (nn + 2200) i) : WX G X k nn (LAT G x J M n N K Fu Fb w z I TL TB N9 f fD) 640 (LLV x i) [] := by
  have C := hC
  have hK : KG G := H.hX.1.1.1
  have hH := hI.hN.1.1
  unfold HeadOk at hH
  have r1 : -2147483648 ≤ a1 ∧ a1 < 2147483648 := by rw [← ha1]; exact bI_toInt _
  have r2 : -2147483648 ≤ a2 ∧ a2 < 2147483648 := by rw [← ha2]; exact bI_toInt _
  have r3 : -2147483648 ≤ a3 ∧ a3 < 2147483648 := by rw [← ha3]; exact bI_toInt _
  refine x_aload_n C eL_law_640 rfl ?_
  refine x_argA C H.hx H.hbl H.hL eL_law_641 eL_law_642 eL_law_644 eL_law_645 eL_law_646 rfl rfl (by omega) ha1 ?_
  refine x_argA C H.hx H.hbl H.hL eL_law_647 eL_law_648 eL_law_650 eL_law_651 eL_law_652 rfl rfl (by omega) ha2 ?_
  refine x_if_eq 660 C eL_law_653 rfl (by omega) (fun h => absurd h hz) (fun _ => ?_)
  refine x_iconst C eL_law_656 ?_
  refine x_goto (pc' := 661) C eL_law_657 rfl ?_
  refine x_argA C H.hx H.hbl H.hL eL_law_661 eL_law_662 eL_law_664 eL_law_665 eL_law_666 rfl rfl (by omega) ha3 ?_
  refine x_aload_n C eL_law_667 rfl ?_
  refine x_callSW (As := [_, _, _, _, _]) [_, _, _, _, _, _, _, _, _, _, _, _, _, _, _, _, _, _, _] C (wx_queued_1 hK (t_X7_queued_47 H.hX H.hT0 True hI.hN.1 (by omega) (by omega) (by omega) (by simp only [if_true, if_false]; omega)) (xwd_c (i := 0) H.hX rfl) (rcv 0 rfl)) cw_queued s_RL_179 eL_law_668 rfl (fun _ _ h => WF_pick [0, 1, 2, 3, 4, 23, 5, 6, 7, 8, 9, 10, 11, 12, 13, 14, 15, 16, 17, 18, 19, 20, 21, 22, 24] rfl rfl h) rfl (nle rfl) (nle rfl) (by omega) (by omega) (fun _ _ => ?_)
  refine x_pick [_, _, _, _, _, _, _, _, _, _, _, _, _, _, _, _, _, _, _, _, _, _, _, _, _] [0, 1, 2, 3, 4, 5, 6, 7, 8, 9, 10, 11, 12, 13, 14, 15, 16, 17, 18, 19, 20, 21, 22, 23, 24] rfl rfl ?_
  refine x_istore [_, _, _, _, _, _, _, _, _] C eL_law_671 rfl rfl (nlt rfl) ?_
  refine x_aload_n C eL_law_673 rfl ?_
  refine x_argA C H.hx H.hbl H.hL eL_law_674 eL_law_675 eL_law_677 eL_law_678 eL_law_679 rfl rfl (by omega) ha1 ?_
  refine x_argA C H.hx H.hbl H.hL eL_law_680 eL_law_681 eL_law_683 eL_law_684 eL_law_685 rfl rfl (by omega) ha2 ?_
  refine x_if_eq 693 C eL_law_686 rfl (by omega) (fun h => absurd h hz) (fun _ => ?_)
  refine x_iconst C eL_law_689 ?_
  refine x_goto (pc' := 694) C eL_law_690 rfl ?_
  refine x_argA C H.hx H.hbl H.hL eL_law_694 eL_law_695 eL_law_697 eL_law_698 eL_law_699 rfl rfl (by omega) ha3 ?_
  have c1 : ¬ ((0 ≤ a1 ∧ a1 ≤ n (-1) 0 - 1) ∧ 0 ≤ a3 ∧ a3 ≤ (if True then n a1 7 else n a1 6) - 1) := by first | omega | (simp only [if_true, if_false]; omega)
  have hM := s_X8_queued (G := G) (l := l) (o := x.o) (A := x.A) (I := I) (N := N9) (n := n) (b := b) (l9 := a1) (i9 := a3) hK True hI.hN.1 (by omega) (by omega) (by omega)
  simp only [if_neg (show ¬ (((0 ≤ a1 ∧ a1 ≤ n (-1) 0 - 1) ∧ 0 ≤ a3 ∧ a3 ≤ (if True then n a1 7 else n a1 6) - 1) ∧ (True) ∧ (True)) from fun q => c1 q.1), thr_1 c1] at hM
  refine yV3r [_, _, _, _, _, _, _, _, _, _, _, _, _, _, _, _, _, _, _, _, _, _, _] [_, _, _, _, _, _, _, _, _, _, _, _, _, _, _, _, _, _, _, _, _, _, _, _, _] C hM v_X8_queued vv_X8_queued s_RL_182 eL_law_700 (fun _ _ h => WF_pick [15, 16, 0, 1, 2, 3, 4, 5, 6, 7, 8, 9, 10, 11, 12, 13, 14, 17, 18, 19, 20, 21, 22, 23, 24] rfl rfl h) (rcv 15 rfl) rfl (nle rfl) (nle rfl) (by omega) (by omega) rfl ?_
  refine x_istore [_, _, _, _, _, _, _, _, _] C eL_law_703 rfl rfl (nlt rfl) ?_
  refine x_aload_n C eL_law_705 rfl ?_
  refine yV0r [_, _, _, _, _, _, _, _, _, _, _, _, _, _, _, _, _, _, _, _, _, _, _, _] [_, _, _, _, _, _, _, _, _, _, _, _, _, _, _, _, _, _, _, _, _, _, _, _, _] C (s_X8_thrown hK) v_X8_thrown vv_X8_thrown s_RL_145 eL_law_706 (fun _ _ h => WF_pick [0, 1, 2, 3, 4, 5, 6, 7, 8, 9, 10, 11, 12, 13, 14, 15, 16, 17, 18, 19, 20, 21, 22, 23, 24] rfl rfl h) (rcv 0 rfl) rfl (nle rfl) (nle rfl) (by omega) (by omega) rfl ?_
  refine x_iload C eL_law_709 rfl ?_
  refine x_icmp_val (by first | exact up_s _ _ _ | exact (up_n (by decide)).trans (up_s _ _ _)) 716 C eL_law_711 rfl ?_
  refine x_iload C eL_law_716 rfl ?_
  refine x_if_ne 733 C eL_law_718 rfl (by omega) (fun _ => ?_) (fun h => absurd h (by decide))
  refine x_goto (pc' := 2791) C eL_law_733 rfl ?_
  refine x_pick [_, _, _, _, _, _, _, _, _, _, _, _, _, _, _, _, _, _, _, _, _, _, _, _, _] [2, 3, 4, 5, 6, 8, 9, 10, 11, 12, 13, 14, 15, 16, 0, 1, 17, 18, 19, 20, 21, 22, 23, 7, 24] rfl rfl ?_
  refine x_lv [_, _, _, _, _, _, none, none, _] rfl (lx_drop _ [6, 7] rfl) ?_
  exact x_wide (by omega) (by omega) (K9 (hI.qI (by omega) (up_n (by decide)) (up_n (by decide)) (up_n (by decide)) (up_n (by decide)) (up_n (by decide)) (up_n (by decide))))

set_option maxHeartbeats 4000000 in
set_option maxRecDepth 100000 in
theorem lc_36_0TT {G : Gm} {X : Cx} {l : Launch} {x : LFx} {k nn : Nat} {i b : Int} {J : Nat → Int} {M : Pool} {n : Net} {N K : Nat → Net} {Fu Fb : Nat → Int} {w : List Int} {z : Int} {I TL TB : Nat → Int} {N9 : Nat → Net} {f : Nat → Int64} {fD : Nat → UInt64} {a1 a2 : Int} (H : LKn G l x) {nmL : String} (hC : OKc G X l RL nmL cL_law 9 (some .boolean) 1400 600000 6200000) (hI : INV b J M n N K Fu Fb w z I) (hb : b ≤ 15000000) (hk : k + 100 ≤ 600000) (hn : nn + 2200 ≤ 6200000) (hi : 0 ≤ i ∧ i + 6 ≤ (x.L : Int)) (ha1 : (x.xs (i + 1).toNat).toInt = a1) (ha2 : (x.xs (i + 2).toNat).toInt = a2) (hz : ¬ a2 = 0) (hl : 0 ≤ a1 ∧ a1 < n (-1) 0) (hq : n a1 11 = 1) (K9 : LCont G X x (b + 8000) (k + 100) (nn + 2200) i) : WX G X k nn (LAT G x J M n N K Fu Fb w z I TL TB N9 f fD) 2164 (LLV x i) [] := by
  have C := hC
  have hK : KG G := H.hX.1.1.1
  have hH := hI.hN.1.1
  unfold HeadOk at hH
  have r1 : -2147483648 ≤ a1 ∧ a1 < 2147483648 := by rw [← ha1]; exact bI_toInt _
  have r2 : -2147483648 ≤ a2 ∧ a2 < 2147483648 := by rw [← ha2]; exact bI_toInt _
  refine x_aload_n C eL_law_2164 rfl ?_
  refine x_argA C H.hx H.hbl H.hL eL_law_2165 eL_law_2166 eL_law_2168 eL_law_2169 eL_law_2170 rfl rfl (by omega) ha1 ?_
  refine x_argA C H.hx H.hbl H.hL eL_law_2171 eL_law_2172 eL_law_2174 eL_law_2175 eL_law_2176 rfl rfl (by omega) ha2 ?_
  refine x_if_eq 2184 C eL_law_2177 rfl (by omega) (fun h => absurd h hz) (fun _ => ?_)
  refine x_iconst C eL_law_2180 ?_
  refine x_goto (pc' := 2185) C eL_law_2181 rfl ?_
  refine x_aload_n C eL_law_2185 rfl ?_
  refine x_callSW (As := [_, _, _, _]) [_, _, _, _, _, _, _, _, _, _, _, _, _, _, _, _, _, _] C (wn_setPaused hK True (by have h9 := s_X7_setPaused (l := l) (J := J) (M := M) (N := N) (e := x.e) (ip := x.ip) (op := x.op) (t := x.t) (tr := x.tr) (ps := x.ps) (pa := x.pa) (sl := x.sl) (al := x.al) (lg := x.lg) (L := x.LL) hK True hI.hN.1 (by omega) hI.h6 H.hX.1 hl; rw [hq] at h9; exact h9) (rcv 0 rfl)) cw_setPaused s_RL_268 eL_law_2186 rfl (fun _ _ h => WF_pick [0, 1, 2, 3, 4, 12, 23, 5, 6, 7, 8, 9, 10, 11, 13, 14, 15, 16, 17, 18, 19, 20, 21, 22, 24] rfl rfl h) rfl (nle rfl) (nle rfl) (by omega) (by omega) (fun _ _ => ?_)
  refine x_pick [_, _, _, _, _, _, _, _, _, _, _, _, _, _, _, _, _, _, _, _, _, _, _, _, _] [0, 1, 2, 3, 4, 5, 6, 7, 8, 9, 10, 11, 12, 13, 14, 15, 16, 17, 18, 19, 20, 21, 22, 23, 24] rfl rfl ?_
  refine x_istore [_, _, _, _, _, _, _, _, _] C eL_law_2189 rfl rfl (nlt rfl) ?_
  refine x_aload_n C eL_law_2191 rfl ?_
  refine x_argA C H.hx H.hbl H.hL eL_law_2192 eL_law_2193 eL_law_2195 eL_law_2196 eL_law_2197 rfl rfl (by omega) ha1 ?_
  refine x_argA C H.hx H.hbl H.hL eL_law_2198 eL_law_2199 eL_law_2201 eL_law_2202 eL_law_2203 rfl rfl (by omega) ha2 ?_
  refine x_if_eq 2211 C eL_law_2204 rfl (by omega) (fun h => absurd h hz) (fun _ => ?_)
  refine x_iconst C eL_law_2207 ?_
  refine x_goto (pc' := 2212) C eL_law_2208 rfl ?_
  have c1 : 0 ≤ a1 ∧ a1 ≤ n (-1) 0 - 1 := by first | trivial | omega | (simp only [if_true, if_false]; omega)
  have c2 : True := by first | trivial | omega | (simp only [if_true, if_false]; omega)
  have c3 : True := by first | trivial | omega | (simp only [if_true, if_false]; omega)
  have hM := s_X8_setPaused (G := G) (l := l) (o := x.o) (A := x.A) (I := I) (N := N9) (n := n) (b := b) (l9 := a1) (P := N) hK True hI.hN.1 (by omega) (by omega) (by have := hI.e6; have := hI.h6; omega)
  simp only [if_pos (show (0 ≤ a1 ∧ a1 ≤ n (-1) 0 - 1) ∧ (True) ∧ (True) from ⟨c1, c2, c3⟩), thr_0 c1 c2 c3] at hM
  rw [bz_t (p := ((0 ≤ a1 ∧ a1 ≤ n (-1) 0 - 1) ∧ (True) ∧ (True)) ∧ n a1 11 = 1) ⟨⟨c1, c2, c3⟩, hq⟩] at hM
  simp only [hI.e6] at hM
  refine yV2r [_, _, _, _, _, _, _, _, _, _, _, _, _, _, _, _, _, _, _, _, _, _] [_, _, _, _, _, _, _, _, _, _, _, _, _, _, _, _, _, _, _, _, _, _, _, _, _] C hM v_X8_setPaused vv_X8_setPaused s_RL_271 eL_law_2212 (fun _ _ h => WF_pick [15, 16, 20, 0, 1, 2, 3, 4, 5, 6, 7, 8, 9, 10, 11, 12, 13, 14, 17, 18, 19, 21, 22, 23, 24] rfl rfl h) (rcv 15 rfl) rfl (nle rfl) (nle rfl) (by omega) (by omega) rfl ?_
  refine x_istore [_, _, _, _, _, _, _, _, _] C eL_law_2215 rfl rfl (nlt rfl) ?_
  refine x_aload_n C eL_law_2217 rfl ?_
  refine yV0r [_, _, _, _, _, _, _, _, _, _, _, _, _, _, _, _, _, _, _, _, _, _, _, _] [_, _, _, _, _, _, _, _, _, _, _, _, _, _, _, _, _, _, _, _, _, _, _, _, _] C (s_X8_thrown hK) v_X8_thrown vv_X8_thrown s_RL_145 eL_law_2218 (fun _ _ h => WF_pick [0, 1, 2, 3, 4, 5, 6, 7, 8, 9, 10, 11, 12, 13, 14, 15, 16, 17, 18, 19, 20, 21, 22, 23, 24] rfl rfl h) (rcv 0 rfl) rfl (nle rfl) (nle rfl) (by omega) (by omega) rfl ?_
  refine x_iload C eL_law_2221 rfl ?_
  refine x_icmp_val (by first | exact up_s _ _ _ | exact (up_n (by decide)).trans (up_s _ _ _)) 2228 C eL_law_2223 rfl ?_
  refine x_iload C eL_law_2228 rfl ?_
  refine x_if_ne 2252 C eL_law_2230 rfl (by omega) (fun h => absurd rfl h) (fun _ => ?_)
  refine x_aload_n C eL_law_2233 rfl ?_
  refine x_iconst C eL_law_2234 ?_
  refine x_lald (N := 1) 9 C eL_law_2235 rfl (by decide) (by omega) ?_
  refine x_iload C eL_law_2236 rfl ?_
  refine x_if_eq 2245 C eL_law_2238 rfl (by omega) (fun h => absurd h (by decide)) (fun _ => ?_)
  refine x_lconst (v := 1) C eL_law_2241 rfl ?_
  refine x_goto (pc' := 2246) C eL_law_2242 rfl ?_
  refine x_lcmp_same 2252 (by first | exact if_pos rfl | (rw [if_pos rfl]; rfl) | decide) C eL_law_2246 eL_law_2247 rfl ?_
  refine x_goto (pc' := 2791) C eL_law_2252 rfl ?_
  refine x_pick [_, _, _, _, _, _, _, _, _, _, _, _, _, _, _, _, _, _, _, _, _, _, _, _, _] [3, 4, 5, 6, 7, 10, 11, 12, 13, 14, 15, 16, 8, 17, 0, 1, 18, 19, 20, 2, 21, 22, 23, 9, 24] rfl rfl ?_
  refine x_lv [_, _, _, _, _, _, none, none, _] rfl (lx_drop _ [6, 7] rfl) ?_
  exact x_wide (by omega) (by omega) (K9 (hI.chg (by omega) ((GOK_ub hI.hN hl (by first | exact Or.inr (Or.inr (Or.inr (Or.inl ⟨rfl, Or.inr rfl⟩))) | exact Or.inr (Or.inr (Or.inr (Or.inl ⟨rfl, Or.inl rfl⟩))))).mono (by omega)) (up_s _ _ _) ((up_n (by decide)).trans (up_n (by decide))) ((up_n (by decide)).trans (up_n (by decide))) ((up_n (by decide)).trans (up_n (by decide))) ((up_n (by decide)).trans (up_n (by decide))) ((up_n (by decide)).trans (up_n (by decide)))))

set_option maxHeartbeats 4000000 in
set_option maxRecDepth 100000 in
theorem lc_36_0TF {G : Gm} {X : Cx} {l : Launch} {x : LFx} {k nn : Nat} {i b : Int} {J : Nat → Int} {M : Pool} {n : Net} {N K : Nat → Net} {Fu Fb : Nat → Int} {w : List Int} {z : Int} {I TL TB : Nat → Int} {N9 : Nat → Net} {f : Nat → Int64} {fD : Nat → UInt64} {a1 a2 : Int} (H : LKn G l x) {nmL : String} (hC : OKc G X l RL nmL cL_law 9 (some .boolean) 1400 600000 6200000) (hI : INV b J M n N K Fu Fb w z I) (hb : b ≤ 15000000) (hk : k + 100 ≤ 600000) (hn : nn + 2200 ≤ 6200000) (hi : 0 ≤ i ∧ i + 6 ≤ (x.L : Int)) (ha1 : (x.xs (i + 1).toNat).toInt = a1) (ha2 : (x.xs (i + 2).toNat).toInt = a2) (hz : ¬ a2 = 0) (hl : 0 ≤ a1 ∧ a1 < n (-1) 0) (hq : n a1 11 = 0) (K9 : LCont G X x (b + 8000) (k + 100) (nn + 2200) i) : WX G X k nn (LAT G x J M n N K Fu Fb w z I TL TB N9 f fD) 2164 (LLV x i) [] := by
  have C := hC
  have hK : KG G := H.hX.1.1.1
  have hH := hI.hN.1.1
  unfold HeadOk at hH
  have r1 : -2147483648 ≤ a1 ∧ a1 < 2147483648 := by rw [← ha1]; exact bI_toInt _
  have r2 : -2147483648 ≤ a2 ∧ a2 < 2147483648 := by rw [← ha2]; exact bI_toInt _
  refine x_aload_n C eL_law_2164 rfl ?_
  refine x_argA C H.hx H.hbl H.hL eL_law_2165 eL_law_2166 eL_law_2168 eL_law_2169 eL_law_2170 rfl rfl (by omega) ha1 ?_
  refine x_argA C H.hx H.hbl H.hL eL_law_2171 eL_law_2172 eL_law_2174 eL_law_2175 eL_law_2176 rfl rfl (by omega) ha2 ?_
  refine x_if_eq 2184 C eL_law_2177 rfl (by omega) (fun h => absurd h hz) (fun _ => ?_)
  refine x_iconst C eL_law_2180 ?_
  refine x_goto (pc' := 2185) C eL_law_2181 rfl ?_
  refine x_aload_n C eL_law_2185 rfl ?_
  refine x_callSW (As := [_, _, _, _]) [_, _, _, _, _, _, _, _, _, _, _, _, _, _, _, _, _, _] C (wn_setPaused hK False (by have h9 := s_X7_setPaused (l := l) (J := J) (M := M) (N := N) (e := x.e) (ip := x.ip) (op := x.op) (t := x.t) (tr := x.tr) (ps := x.ps) (pa := x.pa) (sl := x.sl) (al := x.al) (lg := x.lg) (L := x.LL) hK True hI.hN.1 (by omega) hI.h6 H.hX.1 hl; rw [hq] at h9; exact h9) (rcv 0 rfl)) cw_setPaused s_RL_268 eL_law_2186 rfl (fun _ _ h => WF_pick [0, 1, 2, 3, 4, 12, 23, 5, 6, 7, 8, 9, 10, 11, 13, 14, 15, 16, 17, 18, 19, 20, 21, 22, 24] rfl rfl h) rfl (nle rfl) (nle rfl) (by omega) (by omega) (fun _ _ => ?_)
  refine x_pick [_, _, _, _, _, _, _, _, _, _, _, _, _, _, _, _, _, _, _, _, _, _, _, _, _] [0, 1, 2, 3, 4, 5, 6, 7, 8, 9, 10, 11, 12, 13, 14, 15, 16, 17, 18, 19, 20, 21, 22, 23, 24] rfl rfl ?_
  refine x_istore [_, _, _, _, _, _, _, _, _] C eL_law_2189 rfl rfl (nlt rfl) ?_
  refine x_aload_n C eL_law_2191 rfl ?_
  refine x_argA C H.hx H.hbl H.hL eL_law_2192 eL_law_2193 eL_law_2195 eL_law_2196 eL_law_2197 rfl rfl (by omega) ha1 ?_
  refine x_argA C H.hx H.hbl H.hL eL_law_2198 eL_law_2199 eL_law_2201 eL_law_2202 eL_law_2203 rfl rfl (by omega) ha2 ?_
  refine x_if_eq 2211 C eL_law_2204 rfl (by omega) (fun h => absurd h hz) (fun _ => ?_)
  refine x_iconst C eL_law_2207 ?_
  refine x_goto (pc' := 2212) C eL_law_2208 rfl ?_
  have c1 : 0 ≤ a1 ∧ a1 ≤ n (-1) 0 - 1 := by first | trivial | omega | (simp only [if_true, if_false]; omega)
  have c2 : True := by first | trivial | omega | (simp only [if_true, if_false]; omega)
  have c3 : True := by first | trivial | omega | (simp only [if_true, if_false]; omega)
  have hM := s_X8_setPaused (G := G) (l := l) (o := x.o) (A := x.A) (I := I) (N := N9) (n := n) (b := b) (l9 := a1) (P := N) hK True hI.hN.1 (by omega) (by omega) (by have := hI.e6; have := hI.h6; omega)
  simp only [if_pos (show (0 ≤ a1 ∧ a1 ≤ n (-1) 0 - 1) ∧ (True) ∧ (True) from ⟨c1, c2, c3⟩), thr_0 c1 c2 c3] at hM
  rw [bz_f (p := ((0 ≤ a1 ∧ a1 ≤ n (-1) 0 - 1) ∧ (True) ∧ (True)) ∧ n a1 11 = 1) (fun q => by have := q.2; omega)] at hM
  simp only [hI.e6] at hM
  refine yV2r [_, _, _, _, _, _, _, _, _, _, _, _, _, _, _, _, _, _, _, _, _, _] [_, _, _, _, _, _, _, _, _, _, _, _, _, _, _, _, _, _, _, _, _, _, _, _, _] C hM v_X8_setPaused vv_X8_setPaused s_RL_271 eL_law_2212 (fun _ _ h => WF_pick [15, 16, 20, 0, 1, 2, 3, 4, 5, 6, 7, 8, 9, 10, 11, 12, 13, 14, 17, 18, 19, 21, 22, 23, 24] rfl rfl h) (rcv 15 rfl) rfl (nle rfl) (nle rfl) (by omega) (by omega) rfl ?_
  refine x_istore [_, _, _, _, _, _, _, _, _] C eL_law_2215 rfl rfl (nlt rfl) ?_
  refine x_aload_n C eL_law_2217 rfl ?_
  refine yV0r [_, _, _, _, _, _, _, _, _, _, _, _, _, _, _, _, _, _, _, _, _, _, _, _] [_, _, _, _, _, _, _, _, _, _, _, _, _, _, _, _, _, _, _, _, _, _, _, _, _] C (s_X8_thrown hK) v_X8_thrown vv_X8_thrown s_RL_145 eL_law_2218 (fun _ _ h => WF_pick [0, 1, 2, 3, 4, 5, 6, 7, 8, 9, 10, 11, 12, 13, 14, 15, 16, 17, 18, 19, 20, 21, 22, 23, 24] rfl rfl h) (rcv 0 rfl) rfl (nle rfl) (nle rfl) (by omega) (by omega) rfl ?_
  refine x_iload C eL_law_2221 rfl ?_
  refine x_icmp_val (by first | exact up_s _ _ _ | exact (up_n (by decide)).trans (up_s _ _ _)) 2228 C eL_law_2223 rfl ?_
  refine x_iload C eL_law_2228 rfl ?_
  refine x_if_ne 2252 C eL_law_2230 rfl (by omega) (fun h => absurd rfl h) (fun _ => ?_)
  refine x_aload_n C eL_law_2233 rfl ?_
  refine x_iconst C eL_law_2234 ?_
  refine x_lald (N := 1) 9 C eL_law_2235 rfl (by decide) (by omega) ?_
  refine x_iload C eL_law_2236 rfl ?_
  refine x_if_eq 2245 C eL_law_2238 rfl (by omega) (fun _ => ?_) (fun h => absurd rfl h)
  refine x_lconst (v := 0) C eL_law_2245 rfl ?_
  refine x_lcmp_same 2252 (by first | exact if_pos rfl | (rw [if_pos rfl]; rfl) | decide) C eL_law_2246 eL_law_2247 rfl ?_
  refine x_goto (pc' := 2791) C eL_law_2252 rfl ?_
  refine x_pick [_, _, _, _, _, _, _, _, _, _, _, _, _, _, _, _, _, _, _, _, _, _, _, _, _] [3, 4, 5, 6, 7, 10, 11, 12, 13, 14, 15, 16, 8, 17, 0, 1, 18, 19, 20, 2, 21, 22, 23, 9, 24] rfl rfl ?_
  refine x_lv [_, _, _, _, _, _, none, none, _] rfl (lx_drop _ [6, 7] rfl) ?_
  exact x_wide (by omega) (by omega) (K9 (hI.chg (by omega) ((GOK_ub hI.hN hl (by first | exact Or.inr (Or.inr (Or.inr (Or.inl ⟨rfl, Or.inr rfl⟩))) | exact Or.inr (Or.inr (Or.inr (Or.inl ⟨rfl, Or.inl rfl⟩))))).mono (by omega)) (up_s _ _ _) ((up_n (by decide)).trans (up_n (by decide))) ((up_n (by decide)).trans (up_n (by decide))) ((up_n (by decide)).trans (up_n (by decide))) ((up_n (by decide)).trans (up_n (by decide))) ((up_n (by decide)).trans (up_n (by decide)))))

set_option maxHeartbeats 4000000 in
set_option maxRecDepth 100000 in
theorem lc_36_1T {G : Gm} {X : Cx} {l : Launch} {x : LFx} {k nn : Nat} {i b : Int} {J : Nat → Int} {M : Pool} {n : Net} {N K : Nat → Net} {Fu Fb : Nat → Int} {w : List Int} {z : Int} {I TL TB : Nat → Int} {N9 : Nat → Net} {f : Nat → Int64} {fD : Nat → UInt64} {a1 a2 : Int} (H : LKn G l x) {nmL : String} (hC : OKc G X l RL nmL cL_law 9 (some .boolean) 1400 600000 6200000) (hI : INV b J M n N K Fu Fb w z I) (hb : b ≤ 15000000) (hk : k + 100 ≤ 600000) (hn : nn + 2200 ≤ 6200000) (hi : 0 ≤ i ∧ i + 6 ≤ (x.L : Int)) (ha1 : (x.xs (i + 1).toNat).toInt = a1) (ha2 : (x.xs (i + 2).toNat).toInt = a2) (hz : ¬ a2 = 0) (hl : ¬ (0 ≤ a1 ∧ a1 < n (-1) 0)) (K9 : LCont G X x (b + 8000) (k + 100) (nn + 2200) i) : WX G X k nn (LAT G x J M n N K Fu Fb w z I TL TB N9 f fD) 2164 (LLV x i) [] := by
  have C := hC
  have hK : KG G := H.hX.1.1.1
  have hH := hI.hN.1.1
  unfold HeadOk at hH
  have r1 : -2147483648 ≤ a1 ∧ a1 < 2147483648 := by rw [← ha1]; exact bI_toInt _
  have r2 : -2147483648 ≤ a2 ∧ a2 < 2147483648 := by rw [← ha2]; exact bI_toInt _
  refine x_aload_n C eL_law_2164 rfl ?_
  refine x_argA C H.hx H.hbl H.hL eL_law_2165 eL_law_2166 eL_law_2168 eL_law_2169 eL_law_2170 rfl rfl (by omega) ha1 ?_
  refine x_argA C H.hx H.hbl H.hL eL_law_2171 eL_law_2172 eL_law_2174 eL_law_2175 eL_law_2176 rfl rfl (by omega) ha2 ?_
  refine x_if_eq 2184 C eL_law_2177 rfl (by omega) (fun h => absurd h hz) (fun _ => ?_)
  refine x_iconst C eL_law_2180 ?_
  refine x_goto (pc' := 2185) C eL_law_2181 rfl ?_
  refine x_aload_n C eL_law_2185 rfl ?_
  refine x_callSW (As := [_, _, _, _]) [_, _, _, _, _, _, _, _, _, _, _, _, _, _, _, _, _, _, _, _, _, _] C (wx_setPaused_1 hK (t_X7_setPaused_2 H.hX H.hT0 (by omega) (by omega) (by omega)) (xwd_c (i := 0) H.hX rfl) (rcv 0 rfl)) cw_setPaused s_RL_268 eL_law_2186 rfl (fun _ _ h => WF_pick [0, 1, 23, 2, 3, 4, 5, 6, 7, 8, 9, 10, 11, 12, 13, 14, 15, 16, 17, 18, 19, 20, 21, 22, 24] rfl rfl h) rfl (nle rfl) (nle rfl) (by omega) (by omega) (fun _ _ => ?_)
  refine x_pick [_, _, _, _, _, _, _, _, _, _, _, _, _, _, _, _, _, _, _, _, _, _, _, _, _] [0, 1, 2, 3, 4, 5, 6, 7, 8, 9, 10, 11, 12, 13, 14, 15, 16, 17, 18, 19, 20, 21, 22, 23, 24] rfl rfl ?_
  refine x_istore [_, _, _, _, _, _, _, _, _] C eL_law_2189 rfl rfl (nlt rfl) ?_
  refine x_aload_n C eL_law_2191 rfl ?_
  refine x_argA C H.hx H.hbl H.hL eL_law_2192 eL_law_2193 eL_law_2195 eL_law_2196 eL_law_2197 rfl rfl (by omega) ha1 ?_
  refine x_argA C H.hx H.hbl H.hL eL_law_2198 eL_law_2199 eL_law_2201 eL_law_2202 eL_law_2203 rfl rfl (by omega) ha2 ?_
  refine x_if_eq 2211 C eL_law_2204 rfl (by omega) (fun h => absurd h hz) (fun _ => ?_)
  refine x_iconst C eL_law_2207 ?_
  refine x_goto (pc' := 2212) C eL_law_2208 rfl ?_
  have c1 : ¬ (0 ≤ a1 ∧ a1 ≤ n (-1) 0 - 1) := by first | omega | (simp only [if_true, if_false]; omega)
  have hM := s_X8_setPaused (G := G) (l := l) (o := x.o) (A := x.A) (I := I) (N := N9) (n := n) (b := b) (l9 := a1) (P := N) hK True hI.hN.1 (by omega) (by omega) (by have := hI.e6; have := hI.h6; omega)
  simp only [if_neg (show ¬ ((0 ≤ a1 ∧ a1 ≤ n (-1) 0 - 1) ∧ (True) ∧ (True)) from fun q => c1 q.1), thr_1 c1] at hM
  refine yV2r [_, _, _, _, _, _, _, _, _, _, _, _, _, _, _, _, _, _, _, _, _, _] [_, _, _, _, _, _, _, _, _, _, _, _, _, _, _, _, _, _, _, _, _, _, _, _, _] C hM v_X8_setPaused vv_X8_setPaused s_RL_271 eL_law_2212 (fun _ _ h => WF_pick [15, 16, 20, 0, 1, 2, 3, 4, 5, 6, 7, 8, 9, 10, 11, 12, 13, 14, 17, 18, 19, 21, 22, 23, 24] rfl rfl h) (rcv 15 rfl) rfl (nle rfl) (nle rfl) (by omega) (by omega) rfl ?_
  refine x_istore [_, _, _, _, _, _, _, _, _] C eL_law_2215 rfl rfl (nlt rfl) ?_
  refine x_aload_n C eL_law_2217 rfl ?_
  refine yV0r [_, _, _, _, _, _, _, _, _, _, _, _, _, _, _, _, _, _, _, _, _, _, _, _] [_, _, _, _, _, _, _, _, _, _, _, _, _, _, _, _, _, _, _, _, _, _, _, _, _] C (s_X8_thrown hK) v_X8_thrown vv_X8_thrown s_RL_145 eL_law_2218 (fun _ _ h => WF_pick [0, 1, 2, 3, 4, 5, 6, 7, 8, 9, 10, 11, 12, 13, 14, 15, 16, 17, 18, 19, 20, 21, 22, 23, 24] rfl rfl h) (rcv 0 rfl) rfl (nle rfl) (nle rfl) (by omega) (by omega) rfl ?_
  refine x_iload C eL_law_2221 rfl ?_
  refine x_icmp_val (by first | exact up_s _ _ _ | exact (up_n (by decide)).trans (up_s _ _ _)) 2228 C eL_law_2223 rfl ?_
  refine x_iload C eL_law_2228 rfl ?_
  refine x_if_ne 2252 C eL_law_2230 rfl (by omega) (fun _ => ?_) (fun h => absurd h (by decide))
  refine x_goto (pc' := 2791) C eL_law_2252 rfl ?_
  refine x_pick [_, _, _, _, _, _, _, _, _, _, _, _, _, _, _, _, _, _, _, _, _, _, _, _, _] [3, 4, 6, 7, 8, 9, 10, 11, 12, 13, 14, 15, 16, 17, 0, 1, 18, 19, 20, 2, 21, 22, 23, 5, 24] rfl rfl ?_
  refine x_lv [_, _, _, _, _, _, none, none, _] rfl (lx_drop _ [6, 7] rfl) ?_
  exact x_wide (by omega) (by omega) (K9 (hI.qI (by omega) (up_n (by decide)) (up_n (by decide)) (up_n (by decide)) (up_n (by decide)) (up_n (by decide)) (up_n (by decide))))

set_option maxHeartbeats 4000000 in
set_option maxRecDepth 100000 in
theorem lc_9_0F {G : Gm} {X : Cx} {l : Launch} {x : LFx} {k nn : Nat} {i b : Int} {J : Nat → Int} {M : Pool} {n : Net} {N K : Nat → Net} {Fu Fb : Nat → Int} {w : List Int} {z : Int} {I TL TB : Nat → Int} {N9 : Nat → Net} {f : Nat → Int64} {fD : Nat → UInt64} {a1 a2 a3 : Int} (H : LKn G l x) {nmL : String} (hC : OKc G X l RL nmL cL_law 9 (some .boolean) 1400 600000 6200000) (hI : INV b J M n N K Fu Fb w z I) (hb : b ≤ 15000000) (hk : k + 100 ≤ 600000) (hn : nn + 2200 ≤ 6200000) (hi : 0 ≤ i ∧ i + 6 ≤ (x.L : Int)) (ha1 : (x.xs (i + 1).toNat).toInt = a1) (ha2 : (x.xs (i + 2).toNat).toInt = a2) (ha3 : (x.xs (i + 3).toNat).toInt = a3) (hz : a2 = 0) (hl : 0 ≤ a1 ∧ a1 < n (-1) 0) (hi9 : 0 ≤ a3 ∧ a3 < n a1 6) (K9 : LCont G X x (b + 8000) (k + 100) (nn + 2200) i) : WX G X k nn (LAT G x J M n N K Fu Fb w z I TL TB N9 f fD) 640 (LLV x i) [] := by
  have C := hC
  have hK : KG G := H.hX.1.1.1
  have hH := hI.hN.1.1
  unfold HeadOk at hH
  have r1 : -2147483648 ≤ a1 ∧ a1 < 2147483648 := by rw [← ha1]; exact bI_toInt _
  have r2 : -2147483648 ≤ a2 ∧ a2 < 2147483648 := by rw [← ha2]; exact bI_toInt _
  have r3 : -2147483648 ≤ a3 ∧ a3 < 2147483648 := by rw [← ha3]; exact bI_toInt _
  refine x_aload_n C eL_law_640 rfl ?_
  refine x_argA C H.hx H.hbl H.hL eL_law_641 eL_law_642 eL_law_644 eL_law_645 eL_law_646 rfl rfl (by omega) ha1 ?_
  refine x_argA C H.hx H.hbl H.hL eL_law_647 eL_law_648 eL_law_650 eL_law_651 eL_law_652 rfl rfl (by omega) ha2 ?_
  refine x_if_eq 660 C eL_law_653 rfl (by omega) (fun _ => ?_) (fun h => absurd hz h)
  refine x_iconst C eL_law_660 ?_
  refine x_argA C H.hx H.hbl H.hL eL_law_661 eL_law_662 eL_law_664 eL_law_665 eL_law_666 rfl rfl (by omega) ha3 ?_
  refine x_aload_n C eL_law_667 rfl ?_
  refine x_callSW (As := [_, _, _, _, _]) [_, _, _, _, _, _, _, _, _, _, _, _, _, _, _, _, _, _, _] C (wn_queued hK (s_X7_queued hK False hI.hN.1 (by omega) (by omega) (by simp only [if_true, if_false]; omega)) (rcv 0 rfl)) cw_queued s_RL_179 eL_law_668 rfl (fun _ _ h => WF_pick [0, 1, 2, 3, 4, 23, 5, 6, 7, 8, 9, 10, 11, 12, 13, 14, 15, 16, 17, 18, 19, 20, 21, 22, 24] rfl rfl h) rfl (nle rfl) (nle rfl) (by omega) (by omega) (fun _ _ => ?_)
  refine x_pick [_, _, _, _, _, _, _, _, _, _, _, _, _, _, _, _, _, _, _, _, _, _, _, _, _] [0, 1, 2, 3, 4, 5, 6, 7, 8, 9, 10, 11, 12, 13, 14, 15, 16, 17, 18, 19, 20, 21, 22, 23, 24] rfl rfl ?_
  refine x_istore [_, _, _, _, _, _, _, _, _] C eL_law_671 rfl rfl (nlt rfl) ?_
  refine x_aload_n C eL_law_673 rfl ?_
  refine x_argA C H.hx H.hbl H.hL eL_law_674 eL_law_675 eL_law_677 eL_law_678 eL_law_679 rfl rfl (by omega) ha1 ?_
  refine x_argA C H.hx H.hbl H.hL eL_law_680 eL_law_681 eL_law_683 eL_law_684 eL_law_685 rfl rfl (by omega) ha2 ?_
  refine x_if_eq 693 C eL_law_686 rfl (by omega) (fun _ => ?_) (fun h => absurd hz h)
  refine x_iconst C eL_law_693 ?_
  refine x_argA C H.hx H.hbl H.hL eL_law_694 eL_law_695 eL_law_697 eL_law_698 eL_law_699 rfl rfl (by omega) ha3 ?_
  have c1 : (0 ≤ a1 ∧ a1 ≤ n (-1) 0 - 1) ∧ 0 ≤ a3 ∧ a3 ≤ (if False then n a1 7 else n a1 6) - 1 := by first | trivial | omega | (simp only [if_true, if_false]; omega)
  have c2 : True := by first | trivial | omega | (simp only [if_true, if_false]; omega)
  have c3 : True := by first | trivial | omega | (simp only [if_true, if_false]; omega)
  have hM := s_X8_queued (G := G) (l := l) (o := x.o) (A := x.A) (I := I) (N := N9) (n := n) (b := b) (l9 := a1) (i9 := a3) hK False hI.hN.1 (by omega) (by omega) (by omega)
  simp only [if_pos (show ((0 ≤ a1 ∧ a1 ≤ n (-1) 0 - 1) ∧ 0 ≤ a3 ∧ a3 ≤ (if False then n a1 7 else n a1 6) - 1) ∧ (True) ∧ (True) from ⟨c1, c2, c3⟩), thr_0 c1 c2 c3] at hM
  refine yV3r [_, _, _, _, _, _, _, _, _, _, _, _, _, _, _, _, _, _, _, _, _, _, _] [_, _, _, _, _, _, _, _, _, _, _, _, _, _, _, _, _, _, _, _, _, _, _, _, _] C hM v_X8_queued vv_X8_queued s_RL_182 eL_law_700 (fun _ _ h => WF_pick [15, 16, 0, 1, 2, 3, 4, 5, 6, 7, 8, 9, 10, 11, 12, 13, 14, 17, 18, 19, 20, 21, 22, 23, 24] rfl rfl h) (rcv 15 rfl) rfl (nle rfl) (nle rfl) (by omega) (by omega) rfl ?_
  refine x_istore [_, _, _, _, _, _, _, _, _] C eL_law_703 rfl rfl (nlt rfl) ?_
  refine x_aload_n C eL_law_705 rfl ?_
  refine yV0r [_, _, _, _, _, _, _, _, _, _, _, _, _, _, _, _, _, _, _, _, _, _, _, _] [_, _, _, _, _, _, _, _, _, _, _, _, _, _, _, _, _, _, _, _, _, _, _, _, _] C (s_X8_thrown hK) v_X8_thrown vv_X8_thrown s_RL_145 eL_law_706 (fun _ _ h => WF_pick [0, 1, 2, 3, 4, 5, 6, 7, 8, 9, 10, 11, 12, 13, 14, 15, 16, 17, 18, 19, 20, 21, 22, 23, 24] rfl rfl h) (rcv 0 rfl) rfl (nle rfl) (nle rfl) (by omega) (by omega) rfl ?_
  refine x_iload C eL_law_709 rfl ?_
  refine x_icmp_val (by first | exact up_s _ _ _ | exact (up_n (by decide)).trans (up_s _ _ _)) 716 C eL_law_711 rfl ?_
  refine x_iload C eL_law_716 rfl ?_
  refine x_if_ne 733 C eL_law_718 rfl (by omega) (fun h => absurd rfl h) (fun _ => ?_)
  refine x_aload_n C eL_law_721 rfl ?_
  refine x_iconst C eL_law_722 ?_
  refine x_lald (N := 1) 7 C eL_law_723 rfl (by decide) (by omega) ?_
  refine x_iload C eL_law_724 rfl ?_
  refine x_i2lR C eL_law_726 ?_
  refine x_lcmp_same 733 (by first | exact if_pos rfl | (rw [if_pos rfl]; rfl) | decide) C eL_law_727 eL_law_728 rfl ?_
  refine x_goto (pc' := 2791) C eL_law_733 rfl ?_
  refine x_pick [_, _, _, _, _, _, _, _, _, _, _, _, _, _, _, _, _, _, _, _, _, _, _, _, _] [2, 3, 4, 5, 6, 8, 9, 10, 11, 12, 13, 14, 15, 16, 0, 1, 17, 18, 19, 20, 21, 22, 23, 7, 24] rfl rfl ?_
  refine x_lv [_, _, _, _, _, _, none, none, _] rfl (lx_drop _ [6, 7] rfl) ?_
  exact x_wide (by omega) (by omega) (K9 (hI.qI (by omega) (up_n (by decide)) (up_n (by decide)) (up_n (by decide)) (up_n (by decide)) (up_n (by decide)) (up_n (by decide))))

set_option maxHeartbeats 4000000 in
set_option maxRecDepth 100000 in
theorem lc_9_1F {G : Gm} {X : Cx} {l : Launch} {x : LFx} {k nn : Nat} {i b : Int} {J : Nat → Int} {M : Pool} {n : Net} {N K : Nat → Net} {Fu Fb : Nat → Int} {w : List Int} {z : Int} {I TL TB : Nat → Int} {N9 : Nat → Net} {f : Nat → Int64} {fD : Nat → UInt64} {a1 a2 a3 : Int} (H : LKn G l x) {nmL : String} (hC : OKc G X l RL nmL cL_law 9 (some .boolean) 1400 600000 6200000) (hI : INV b J M n N K Fu Fb w z I) (hb : b ≤ 15000000) (hk : k + 100 ≤ 600000) (hn : nn + 2200 ≤ 6200000) (hi : 0 ≤ i ∧ i + 6 ≤ (x.L : Int)) (ha1 : (x.xs (i + 1).toNat).toInt = a1) (ha2 : (x.xs (i + 2).toNat).toInt = a2) (ha3 : (x.xs (i + 3).toNat).toInt = a3) (hz : a2 = 0) (hl : ¬ (0 ≤ a1 ∧ a1 < n (-1) 0)) (K9 : LCont G X x (b + 8000) (k + 100) (nn + 2200) i) : WX G X k nn (LAT G x J M n N K Fu Fb w z I TL TB N9 f fD) 640 (LLV x i) [] := by
  have C := hC
  have hK : KG G := H.hX.1.1.1
  have hH := hI.hN.1.1
  unfold HeadOk at hH
  have r1 : -2147483648 ≤ a1 ∧ a1 < 2147483648 := by rw [← ha1]; exact bI_toInt _
  have r2 : -2147483648 ≤ a2 ∧ a2 < 2147483648 := by rw [← ha2]; exact bI_toInt _
  have r3 : -2147483648 ≤ a3 ∧ a3 < 2147483648 := by rw [← ha3]; exact bI_toInt _
  refine x_aload_n C eL_law_640 rfl ?_
  refine x_argA C H.hx H.hbl H.hL eL_law_641 eL_law_642 eL_law_644 eL_law_645 eL_law_646 rfl rfl (by omega) ha1 ?_
  refine x_argA C H.hx H.hbl H.hL eL_law_647 eL_law_648 eL_law_650 eL_law_651 eL_law_652 rfl rfl (by omega) ha2 ?_
  refine x_if_eq 660 C eL_law_653 rfl (by omega) (fun _ => ?_) (fun h => absurd hz h)
  refine x_iconst C eL_law_660 ?_
  refine x_argA C H.hx H.hbl H.hL eL_law_661 eL_law_662 eL_law_664 eL_law_665 eL_law_666 rfl rfl (by omega) ha3 ?_
  refine x_aload_n C eL_law_667 rfl ?_
  refine x_callSW (As := [_, _, _, _, _]) [_, _, _, _, _, _, _, _, _, _, _, _, _, _, _, _, _, _, _, _, _, _] C (wx_queued_1 hK (t_X7_queued_2 H.hX H.hT0 (by omega) (by omega) (by omega)) (xwd_c (i := 0) H.hX rfl) (rcv 0 rfl)) cw_queued s_RL_179 eL_law_668 rfl (fun _ _ h => WF_pick [0, 1, 23, 2, 3, 4, 5, 6, 7, 8, 9, 10, 11, 12, 13, 14, 15, 16, 17, 18, 19, 20, 21, 22, 24] rfl rfl h) rfl (nle rfl) (nle rfl) (by omega) (by omega) (fun _ _ => ?_)
  refine x_pick [_, _, _, _, _, _, _, _, _, _, _, _, _, _, _, _, _, _, _, _, _, _, _, _, _] [0, 1, 2, 3, 4, 5, 6, 7, 8, 9, 10, 11, 12, 13, 14, 15, 16, 17, 18, 19, 20, 21, 22, 23, 24] rfl rfl ?_
  refine x_istore [_, _, _, _, _, _, _, _, _] C eL_law_671 rfl rfl (nlt rfl) ?_
  refine x_aload_n C eL_law_673 rfl ?_
  refine x_argA C H.hx H.hbl H.hL eL_law_674 eL_law_675 eL_law_677 eL_law_678 eL_law_679 rfl rfl (by omega) ha1 ?_
  refine x_argA C H.hx H.hbl H.hL eL_law_680 eL_law_681 eL_law_683 eL_law_684 eL_law_685 rfl rfl (by omega) ha2 ?_
  refine x_if_eq 693 C eL_law_686 rfl (by omega) (fun _ => ?_) (fun h => absurd hz h)
  refine x_iconst C eL_law_693 ?_
  refine x_argA C H.hx H.hbl H.hL eL_law_694 eL_law_695 eL_law_697 eL_law_698 eL_law_699 rfl rfl (by omega) ha3 ?_
  have c1 : ¬ ((0 ≤ a1 ∧ a1 ≤ n (-1) 0 - 1) ∧ 0 ≤ a3 ∧ a3 ≤ (if False then n a1 7 else n a1 6) - 1) := by first | omega | (simp only [if_true, if_false]; omega)
  have hM := s_X8_queued (G := G) (l := l) (o := x.o) (A := x.A) (I := I) (N := N9) (n := n) (b := b) (l9 := a1) (i9 := a3) hK False hI.hN.1 (by omega) (by omega) (by omega)
  simp only [if_neg (show ¬ (((0 ≤ a1 ∧ a1 ≤ n (-1) 0 - 1) ∧ 0 ≤ a3 ∧ a3 ≤ (if False then n a1 7 else n a1 6) - 1) ∧ (True) ∧ (True)) from fun q => c1 q.1), thr_1 c1] at hM
  refine yV3r [_, _, _, _, _, _, _, _, _, _, _, _, _, _, _, _, _, _, _, _, _, _, _] [_, _, _, _, _, _, _, _, _, _, _, _, _, _, _, _, _, _, _, _, _, _, _, _, _] C hM v_X8_queued vv_X8_queued s_RL_182 eL_law_700 (fun _ _ h => WF_pick [15, 16, 0, 1, 2, 3, 4, 5, 6, 7, 8, 9, 10, 11, 12, 13, 14, 17, 18, 19, 20, 21, 22, 23, 24] rfl rfl h) (rcv 15 rfl) rfl (nle rfl) (nle rfl) (by omega) (by omega) rfl ?_
  refine x_istore [_, _, _, _, _, _, _, _, _] C eL_law_703 rfl rfl (nlt rfl) ?_
  refine x_aload_n C eL_law_705 rfl ?_
  refine yV0r [_, _, _, _, _, _, _, _, _, _, _, _, _, _, _, _, _, _, _, _, _, _, _, _] [_, _, _, _, _, _, _, _, _, _, _, _, _, _, _, _, _, _, _, _, _, _, _, _, _] C (s_X8_thrown hK) v_X8_thrown vv_X8_thrown s_RL_145 eL_law_706 (fun _ _ h => WF_pick [0, 1, 2, 3, 4, 5, 6, 7, 8, 9, 10, 11, 12, 13, 14, 15, 16, 17, 18, 19, 20, 21, 22, 23, 24] rfl rfl h) (rcv 0 rfl) rfl (nle rfl) (nle rfl) (by omega) (by omega) rfl ?_
  refine x_iload C eL_law_709 rfl ?_
  refine x_icmp_val (by first | exact up_s _ _ _ | exact (up_n (by decide)).trans (up_s _ _ _)) 716 C eL_law_711 rfl ?_
  refine x_iload C eL_law_716 rfl ?_
  refine x_if_ne 733 C eL_law_718 rfl (by omega) (fun _ => ?_) (fun h => absurd h (by decide))
  refine x_goto (pc' := 2791) C eL_law_733 rfl ?_
  refine x_pick [_, _, _, _, _, _, _, _, _, _, _, _, _, _, _, _, _, _, _, _, _, _, _, _, _] [2, 3, 5, 6, 7, 8, 9, 10, 11, 12, 13, 14, 15, 16, 0, 1, 17, 18, 19, 20, 21, 22, 23, 4, 24] rfl rfl ?_
  refine x_lv [_, _, _, _, _, _, none, none, _] rfl (lx_drop _ [6, 7] rfl) ?_
  exact x_wide (by omega) (by omega) (K9 (hI.qI (by omega) (up_n (by decide)) (up_n (by decide)) (up_n (by decide)) (up_n (by decide)) (up_n (by decide)) (up_n (by decide))))

set_option maxHeartbeats 4000000 in
set_option maxRecDepth 100000 in
theorem lc_9_1bF {G : Gm} {X : Cx} {l : Launch} {x : LFx} {k nn : Nat} {i b : Int} {J : Nat → Int} {M : Pool} {n : Net} {N K : Nat → Net} {Fu Fb : Nat → Int} {w : List Int} {z : Int} {I TL TB : Nat → Int} {N9 : Nat → Net} {f : Nat → Int64} {fD : Nat → UInt64} {a1 a2 a3 : Int} (H : LKn G l x) {nmL : String} (hC : OKc G X l RL nmL cL_law 9 (some .boolean) 1400 600000 6200000) (hI : INV b J M n N K Fu Fb w z I) (hb : b ≤ 15000000) (hk : k + 100 ≤ 600000) (hn : nn + 2200 ≤ 6200000) (hi : 0 ≤ i ∧ i + 6 ≤ (x.L : Int)) (ha1 : (x.xs (i + 1).toNat).toInt = a1) (ha2 : (x.xs (i + 2).toNat).toInt = a2) (ha3 : (x.xs (i + 3).toNat).toInt = a3) (hz : a2 = 0) (hl : 0 ≤ a1 ∧ a1 < n (-1) 0) (hi9 : ¬ (0 ≤ a3 ∧ a3 < n a1 6)) (K9 : LCont G X x (b + 8000) (k + 100) (nn + 2200) i) : WX G X k nn (LAT G x J M n N K Fu Fb w z I TL TB N9 f fD) 640 (LLV x i) [] := by
  have C := hC
  have hK : KG G := H.hX.1.1.1
  have hH := hI.hN.1.1
  unfold HeadOk at hH
  have r1 : -2147483648 ≤ a1 ∧ a1 < 2147483648 := by rw [← ha1]; exact bI_toInt _
  have r2 : -2147483648 ≤ a2 ∧ a2 < 2147483648 := by rw [← ha2]; exact bI_toInt _
  have r3 : -2147483648 ≤ a3 ∧ a3 < 2147483648 := by rw [← ha3]; exact bI_toInt _
  refine x_aload_n C eL_law_640 rfl ?_
  refine x_argA C H.hx H.hbl H.hL eL_law_641 eL_law_642 eL_law_644 eL_law_645 eL_law_646 rfl rfl (by omega) ha1 ?_
  refine x_argA C H.hx H.hbl H.hL eL_law_647 eL_law_648 eL_law_650 eL_law_651 eL_law_652 rfl rfl (by omega) ha2 ?_
  refine x_if_eq 660 C eL_law_653 rfl (by omega) (fun _ => ?_) (fun h => absurd hz h)
  refine x_iconst C eL_law_660 ?_
  refine x_argA C H.hx H.hbl H.hL eL_law_661 eL_law_662 eL_law_664 eL_law_665 eL_law_666 rfl rfl (by omega) ha3 ?_
  refine x_aload_n C eL_law_667 rfl ?_
  refine x_callSW (As := [_, _, _, _, _]) [_, _, _, _, _, _, _, _, _, _, _, _, _, _, _, _, _, _, _] C (wx_queued_1 hK (t_X7_queued_47 H.hX H.hT0 False hI.hN.1 (by omega) (by omega) (by omega) (by simp only [if_true, if_false]; omega)) (xwd_c (i := 0) H.hX rfl) (rcv 0 rfl)) cw_queued s_RL_179 eL_law_668 rfl (fun _ _ h => WF_pick [0, 1, 2, 3, 4, 23, 5, 6, 7, 8, 9, 10, 11, 12, 13, 14, 15, 16, 17, 18, 19, 20, 21, 22, 24] rfl rfl h) rfl (nle rfl) (nle rfl) (by omega) (by omega) (fun _ _ => ?_)
  refine x_pick [_, _, _, _, _, _, _, _, _, _, _, _, _, _, _, _, _, _, _, _, _, _, _, _, _] [0, 1, 2, 3, 4, 5, 6, 7, 8, 9, 10, 11, 12, 13, 14, 15, 16, 17, 18, 19, 20, 21, 22, 23, 24] rfl rfl ?_
  refine x_istore [_, _, _, _, _, _, _, _, _] C eL_law_671 rfl rfl (nlt rfl) ?_
  refine x_aload_n C eL_law_673 rfl ?_
  refine x_argA C H.hx H.hbl H.hL eL_law_674 eL_law_675 eL_law_677 eL_law_678 eL_law_679 rfl rfl (by omega) ha1 ?_
  refine x_argA C H.hx H.hbl H.hL eL_law_680 eL_law_681 eL_law_683 eL_law_684 eL_law_685 rfl rfl (by omega) ha2 ?_
  refine x_if_eq 693 C eL_law_686 rfl (by omega) (fun _ => ?_) (fun h => absurd hz h)
  refine x_iconst C eL_law_693 ?_
  refine x_argA C H.hx H.hbl H.hL eL_law_694 eL_law_695 eL_law_697 eL_law_698 eL_law_699 rfl rfl (by omega) ha3 ?_
  have c1 : ¬ ((0 ≤ a1 ∧ a1 ≤ n (-1) 0 - 1) ∧ 0 ≤ a3 ∧ a3 ≤ (if False then n a1 7 else n a1 6) - 1) := by first | omega | (simp only [if_true, if_false]; omega)
  have hM := s_X8_queued (G := G) (l := l) (o := x.o) (A := x.A) (I := I) (N := N9) (n := n) (b := b) (l9 := a1) (i9 := a3) hK False hI.hN.1 (by omega) (by omega) (by omega)
  simp only [if_neg (show ¬ (((0 ≤ a1 ∧ a1 ≤ n (-1) 0 - 1) ∧ 0 ≤ a3 ∧ a3 ≤ (if False then n a1 7 else n a1 6) - 1) ∧ (True) ∧ (True)) from fun q => c1 q.1), thr_1 c1] at hM
  refine yV3r [_, _, _, _, _, _, _, _, _, _, _, _, _, _, _, _, _, _, _, _, _, _, _] [_, _, _, _, _, _, _, _, _, _, _, _, _, _, _, _, _, _, _, _, _, _, _, _, _] C hM v_X8_queued vv_X8_queued s_RL_182 eL_law_700 (fun _ _ h => WF_pick [15, 16, 0, 1, 2, 3, 4, 5, 6, 7, 8, 9, 10, 11, 12, 13, 14, 17, 18, 19, 20, 21, 22, 23, 24] rfl rfl h) (rcv 15 rfl) rfl (nle rfl) (nle rfl) (by omega) (by omega) rfl ?_
  refine x_istore [_, _, _, _, _, _, _, _, _] C eL_law_703 rfl rfl (nlt rfl) ?_
  refine x_aload_n C eL_law_705 rfl ?_
  refine yV0r [_, _, _, _, _, _, _, _, _, _, _, _, _, _, _, _, _, _, _, _, _, _, _, _] [_, _, _, _, _, _, _, _, _, _, _, _, _, _, _, _, _, _, _, _, _, _, _, _, _] C (s_X8_thrown hK) v_X8_thrown vv_X8_thrown s_RL_145 eL_law_706 (fun _ _ h => WF_pick [0, 1, 2, 3, 4, 5, 6, 7, 8, 9, 10, 11, 12, 13, 14, 15, 16, 17, 18, 19, 20, 21, 22, 23, 24] rfl rfl h) (rcv 0 rfl) rfl (nle rfl) (nle rfl) (by omega) (by omega) rfl ?_
  refine x_iload C eL_law_709 rfl ?_
  refine x_icmp_val (by first | exact up_s _ _ _ | exact (up_n (by decide)).trans (up_s _ _ _)) 716 C eL_law_711 rfl ?_
  refine x_iload C eL_law_716 rfl ?_
  refine x_if_ne 733 C eL_law_718 rfl (by omega) (fun _ => ?_) (fun h => absurd h (by decide))
  refine x_goto (pc' := 2791) C eL_law_733 rfl ?_
  refine x_pick [_, _, _, _, _, _, _, _, _, _, _, _, _, _, _, _, _, _, _, _, _, _, _, _, _] [2, 3, 4, 5, 6, 8, 9, 10, 11, 12, 13, 14, 15, 16, 0, 1, 17, 18, 19, 20, 21, 22, 23, 7, 24] rfl rfl ?_
  refine x_lv [_, _, _, _, _, _, none, none, _] rfl (lx_drop _ [6, 7] rfl) ?_
  exact x_wide (by omega) (by omega) (K9 (hI.qI (by omega) (up_n (by decide)) (up_n (by decide)) (up_n (by decide)) (up_n (by decide)) (up_n (by decide)) (up_n (by decide))))

set_option maxHeartbeats 4000000 in
set_option maxRecDepth 100000 in
theorem lc_36_0FT {G : Gm} {X : Cx} {l : Launch} {x : LFx} {k nn : Nat} {i b : Int} {J : Nat → Int} {M : Pool} {n : Net} {N K : Nat → Net} {Fu Fb : Nat → Int} {w : List Int} {z : Int} {I TL TB : Nat → Int} {N9 : Nat → Net} {f : Nat → Int64} {fD : Nat → UInt64} {a1 a2 : Int} (H : LKn G l x) {nmL : String} (hC : OKc G X l RL nmL cL_law 9 (some .boolean) 1400 600000 6200000) (hI : INV b J M n N K Fu Fb w z I) (hb : b ≤ 15000000) (hk : k + 100 ≤ 600000) (hn : nn + 2200 ≤ 6200000) (hi : 0 ≤ i ∧ i + 6 ≤ (x.L : Int)) (ha1 : (x.xs (i + 1).toNat).toInt = a1) (ha2 : (x.xs (i + 2).toNat).toInt = a2) (hz : a2 = 0) (hl : 0 ≤ a1 ∧ a1 < n (-1) 0) (hq : n a1 11 = 1) (K9 : LCont G X x (b + 8000) (k + 100) (nn + 2200) i) : WX G X k nn (LAT G x J M n N K Fu Fb w z I TL TB N9 f fD) 2164 (LLV x i) [] := by
  have C := hC
  have hK : KG G := H.hX.1.1.1
  have hH := hI.hN.1.1
  unfold HeadOk at hH
  have r1 : -2147483648 ≤ a1 ∧ a1 < 2147483648 := by rw [← ha1]; exact bI_toInt _
  have r2 : -2147483648 ≤ a2 ∧ a2 < 2147483648 := by rw [← ha2]; exact bI_toInt _
  refine x_aload_n C eL_law_2164 rfl ?_
  refine x_argA C H.hx H.hbl H.hL eL_law_2165 eL_law_2166 eL_law_2168 eL_law_2169 eL_law_2170 rfl rfl (by omega) ha1 ?_
  refine x_argA C H.hx H.hbl H.hL eL_law_2171 eL_law_2172 eL_law_2174 eL_law_2175 eL_law_2176 rfl rfl (by omega) ha2 ?_
  refine x_if_eq 2184 C eL_law_2177 rfl (by omega) (fun _ => ?_) (fun h => absurd hz h)
  refine x_iconst C eL_law_2184 ?_
  refine x_aload_n C eL_law_2185 rfl ?_
  refine x_callSW (As := [_, _, _, _]) [_, _, _, _, _, _, _, _, _, _, _, _, _, _, _, _, _, _] C (wn_setPaused hK True (by have h9 := s_X7_setPaused (l := l) (J := J) (M := M) (N := N) (e := x.e) (ip := x.ip) (op := x.op) (t := x.t) (tr := x.tr) (ps := x.ps) (pa := x.pa) (sl := x.sl) (al := x.al) (lg := x.lg) (L := x.LL) hK False hI.hN.1 (by omega) hI.h6 H.hX.1 hl; rw [hq] at h9; exact h9) (rcv 0 rfl)) cw_setPaused s_RL_268 eL_law_2186 rfl (fun _ _ h => WF_pick [0, 1, 2, 3, 4, 12, 23, 5, 6, 7, 8, 9, 10, 11, 13, 14, 15, 16, 17, 18, 19, 20, 21, 22, 24] rfl rfl h) rfl (nle rfl) (nle rfl) (by omega) (by omega) (fun _ _ => ?_)
  refine x_pick [_, _, _, _, _, _, _, _, _, _, _, _, _, _, _, _, _, _, _, _, _, _, _, _, _] [0, 1, 2, 3, 4, 5, 6, 7, 8, 9, 10, 11, 12, 13, 14, 15, 16, 17, 18, 19, 20, 21, 22, 23, 24] rfl rfl ?_
  refine x_istore [_, _, _, _, _, _, _, _, _] C eL_law_2189 rfl rfl (nlt rfl) ?_
  refine x_aload_n C eL_law_2191 rfl ?_
  refine x_argA C H.hx H.hbl H.hL eL_law_2192 eL_law_2193 eL_law_2195 eL_law_2196 eL_law_2197 rfl rfl (by omega) ha1 ?_
  refine x_argA C H.hx H.hbl H.hL eL_law_2198 eL_law_2199 eL_law_2201 eL_law_2202 eL_law_2203 rfl rfl (by omega) ha2 ?_
  refine x_if_eq 2211 C eL_law_2204 rfl (by omega) (fun _ => ?_) (fun h => absurd hz h)
  refine x_iconst C eL_law_2211 ?_
  have c1 : 0 ≤ a1 ∧ a1 ≤ n (-1) 0 - 1 := by first | trivial | omega | (simp only [if_true, if_false]; omega)
  have c2 : True := by first | trivial | omega | (simp only [if_true, if_false]; omega)
  have c3 : True := by first | trivial | omega | (simp only [if_true, if_false]; omega)
  have hM := s_X8_setPaused (G := G) (l := l) (o := x.o) (A := x.A) (I := I) (N := N9) (n := n) (b := b) (l9 := a1) (P := N) hK False hI.hN.1 (by omega) (by omega) (by have := hI.e6; have := hI.h6; omega)
  simp only [if_pos (show (0 ≤ a1 ∧ a1 ≤ n (-1) 0 - 1) ∧ (True) ∧ (True) from ⟨c1, c2, c3⟩), thr_0 c1 c2 c3] at hM
  rw [bz_t (p := ((0 ≤ a1 ∧ a1 ≤ n (-1) 0 - 1) ∧ (True) ∧ (True)) ∧ n a1 11 = 1) ⟨⟨c1, c2, c3⟩, hq⟩] at hM
  simp only [hI.e6] at hM
  refine yV2r [_, _, _, _, _, _, _, _, _, _, _, _, _, _, _, _, _, _, _, _, _, _] [_, _, _, _, _, _, _, _, _, _, _, _, _, _, _, _, _, _, _, _, _, _, _, _, _] C hM v_X8_setPaused vv_X8_setPaused s_RL_271 eL_law_2212 (fun _ _ h => WF_pick [15, 16, 20, 0, 1, 2, 3, 4, 5, 6, 7, 8, 9, 10, 11, 12, 13, 14, 17, 18, 19, 21, 22, 23, 24] rfl rfl h) (rcv 15 rfl) rfl (nle rfl) (nle rfl) (by omega) (by omega) rfl ?_
  refine x_istore [_, _, _, _, _, _, _, _, _] C eL_law_2215 rfl rfl (nlt rfl) ?_
  refine x_aload_n C eL_law_2217 rfl ?_
  refine yV0r [_, _, _, _, _, _, _, _, _, _, _, _, _, _, _, _, _, _, _, _, _, _, _, _] [_, _, _, _, _, _, _, _, _, _, _, _, _, _, _, _, _, _, _, _, _, _, _, _, _] C (s_X8_thrown hK) v_X8_thrown vv_X8_thrown s_RL_145 eL_law_2218 (fun _ _ h => WF_pick [0, 1, 2, 3, 4, 5, 6, 7, 8, 9, 10, 11, 12, 13, 14, 15, 16, 17, 18, 19, 20, 21, 22, 23, 24] rfl rfl h) (rcv 0 rfl) rfl (nle rfl) (nle rfl) (by omega) (by omega) rfl ?_
  refine x_iload C eL_law_2221 rfl ?_
  refine x_icmp_val (by first | exact up_s _ _ _ | exact (up_n (by decide)).trans (up_s _ _ _)) 2228 C eL_law_2223 rfl ?_
  refine x_iload C eL_law_2228 rfl ?_
  refine x_if_ne 2252 C eL_law_2230 rfl (by omega) (fun h => absurd rfl h) (fun _ => ?_)
  refine x_aload_n C eL_law_2233 rfl ?_
  refine x_iconst C eL_law_2234 ?_
  refine x_lald (N := 1) 9 C eL_law_2235 rfl (by decide) (by omega) ?_
  refine x_iload C eL_law_2236 rfl ?_
  refine x_if_eq 2245 C eL_law_2238 rfl (by omega) (fun h => absurd h (by decide)) (fun _ => ?_)
  refine x_lconst (v := 1) C eL_law_2241 rfl ?_
  refine x_goto (pc' := 2246) C eL_law_2242 rfl ?_
  refine x_lcmp_same 2252 (by first | exact if_pos rfl | (rw [if_pos rfl]; rfl) | decide) C eL_law_2246 eL_law_2247 rfl ?_
  refine x_goto (pc' := 2791) C eL_law_2252 rfl ?_
  refine x_pick [_, _, _, _, _, _, _, _, _, _, _, _, _, _, _, _, _, _, _, _, _, _, _, _, _] [3, 4, 5, 6, 7, 10, 11, 12, 13, 14, 15, 16, 8, 17, 0, 1, 18, 19, 20, 2, 21, 22, 23, 9, 24] rfl rfl ?_
  refine x_lv [_, _, _, _, _, _, none, none, _] rfl (lx_drop _ [6, 7] rfl) ?_
  exact x_wide (by omega) (by omega) (K9 (hI.chg (by omega) ((GOK_ub hI.hN hl (by first | exact Or.inr (Or.inr (Or.inr (Or.inl ⟨rfl, Or.inr rfl⟩))) | exact Or.inr (Or.inr (Or.inr (Or.inl ⟨rfl, Or.inl rfl⟩))))).mono (by omega)) (up_s _ _ _) ((up_n (by decide)).trans (up_n (by decide))) ((up_n (by decide)).trans (up_n (by decide))) ((up_n (by decide)).trans (up_n (by decide))) ((up_n (by decide)).trans (up_n (by decide))) ((up_n (by decide)).trans (up_n (by decide)))))

set_option maxHeartbeats 4000000 in
set_option maxRecDepth 100000 in
theorem lc_36_0FF {G : Gm} {X : Cx} {l : Launch} {x : LFx} {k nn : Nat} {i b : Int} {J : Nat → Int} {M : Pool} {n : Net} {N K : Nat → Net} {Fu Fb : Nat → Int} {w : List Int} {z : Int} {I TL TB : Nat → Int} {N9 : Nat → Net} {f : Nat → Int64} {fD : Nat → UInt64} {a1 a2 : Int} (H : LKn G l x) {nmL : String} (hC : OKc G X l RL nmL cL_law 9 (some .boolean) 1400 600000 6200000) (hI : INV b J M n N K Fu Fb w z I) (hb : b ≤ 15000000) (hk : k + 100 ≤ 600000) (hn : nn + 2200 ≤ 6200000) (hi : 0 ≤ i ∧ i + 6 ≤ (x.L : Int)) (ha1 : (x.xs (i + 1).toNat).toInt = a1) (ha2 : (x.xs (i + 2).toNat).toInt = a2) (hz : a2 = 0) (hl : 0 ≤ a1 ∧ a1 < n (-1) 0) (hq : n a1 11 = 0) (K9 : LCont G X x (b + 8000) (k + 100) (nn + 2200) i) : WX G X k nn (LAT G x J M n N K Fu Fb w z I TL TB N9 f fD) 2164 (LLV x i) [] := by
  have C := hC
  have hK : KG G := H.hX.1.1.1
  have hH := hI.hN.1.1
  unfold HeadOk at hH
  have r1 : -2147483648 ≤ a1 ∧ a1 < 2147483648 := by rw [← ha1]; exact bI_toInt _
  have r2 : -2147483648 ≤ a2 ∧ a2 < 2147483648 := by rw [← ha2]; exact bI_toInt _
  refine x_aload_n C eL_law_2164 rfl ?_
  refine x_argA C H.hx H.hbl H.hL eL_law_2165 eL_law_2166 eL_law_2168 eL_law_2169 eL_law_2170 rfl rfl (by omega) ha1 ?_
  refine x_argA C H.hx H.hbl H.hL eL_law_2171 eL_law_2172 eL_law_2174 eL_law_2175 eL_law_2176 rfl rfl (by omega) ha2 ?_
  refine x_if_eq 2184 C eL_law_2177 rfl (by omega) (fun _ => ?_) (fun h => absurd hz h)
  refine x_iconst C eL_law_2184 ?_
  refine x_aload_n C eL_law_2185 rfl ?_
  refine x_callSW (As := [_, _, _, _]) [_, _, _, _, _, _, _, _, _, _, _, _, _, _, _, _, _, _] C (wn_setPaused hK False (by have h9 := s_X7_setPaused (l := l) (J := J) (M := M) (N := N) (e := x.e) (ip := x.ip) (op := x.op) (t := x.t) (tr := x.tr) (ps := x.ps) (pa := x.pa) (sl := x.sl) (al := x.al) (lg := x.lg) (L := x.LL) hK False hI.hN.1 (by omega) hI.h6 H.hX.1 hl; rw [hq] at h9; exact h9) (rcv 0 rfl)) cw_setPaused s_RL_268 eL_law_2186 rfl (fun _ _ h => WF_pick [0, 1, 2, 3, 4, 12, 23, 5, 6, 7, 8, 9, 10, 11, 13, 14, 15, 16, 17, 18, 19, 20, 21, 22, 24] rfl rfl h) rfl (nle rfl) (nle rfl) (by omega) (by omega) (fun _ _ => ?_)
  refine x_pick [_, _, _, _, _, _, _, _, _, _, _, _, _, _, _, _, _, _, _, _, _, _, _, _, _] [0, 1, 2, 3, 4, 5, 6, 7, 8, 9, 10, 11, 12, 13, 14, 15, 16, 17, 18, 19, 20, 21, 22, 23, 24] rfl rfl ?_
  refine x_istore [_, _, _, _, _, _, _, _, _] C eL_law_2189 rfl rfl (nlt rfl) ?_
  refine x_aload_n C eL_law_2191 rfl ?_
  refine x_argA C H.hx H.hbl H.hL eL_law_2192 eL_law_2193 eL_law_2195 eL_law_2196 eL_law_2197 rfl rfl (by omega) ha1 ?_
  refine x_argA C H.hx H.hbl H.hL eL_law_2198 eL_law_2199 eL_law_2201 eL_law_2202 eL_law_2203 rfl rfl (by omega) ha2 ?_
  refine x_if_eq 2211 C eL_law_2204 rfl (by omega) (fun _ => ?_) (fun h => absurd hz h)
  refine x_iconst C eL_law_2211 ?_
  have c1 : 0 ≤ a1 ∧ a1 ≤ n (-1) 0 - 1 := by first | trivial | omega | (simp only [if_true, if_false]; omega)
  have c2 : True := by first | trivial | omega | (simp only [if_true, if_false]; omega)
  have c3 : True := by first | trivial | omega | (simp only [if_true, if_false]; omega)
  have hM := s_X8_setPaused (G := G) (l := l) (o := x.o) (A := x.A) (I := I) (N := N9) (n := n) (b := b) (l9 := a1) (P := N) hK False hI.hN.1 (by omega) (by omega) (by have := hI.e6; have := hI.h6; omega)
  simp only [if_pos (show (0 ≤ a1 ∧ a1 ≤ n (-1) 0 - 1) ∧ (True) ∧ (True) from ⟨c1, c2, c3⟩), thr_0 c1 c2 c3] at hM
  rw [bz_f (p := ((0 ≤ a1 ∧ a1 ≤ n (-1) 0 - 1) ∧ (True) ∧ (True)) ∧ n a1 11 = 1) (fun q => by have := q.2; omega)] at hM
  simp only [hI.e6] at hM
  refine yV2r [_, _, _, _, _, _, _, _, _, _, _, _, _, _, _, _, _, _, _, _, _, _] [_, _, _, _, _, _, _, _, _, _, _, _, _, _, _, _, _, _, _, _, _, _, _, _, _] C hM v_X8_setPaused vv_X8_setPaused s_RL_271 eL_law_2212 (fun _ _ h => WF_pick [15, 16, 20, 0, 1, 2, 3, 4, 5, 6, 7, 8, 9, 10, 11, 12, 13, 14, 17, 18, 19, 21, 22, 23, 24] rfl rfl h) (rcv 15 rfl) rfl (nle rfl) (nle rfl) (by omega) (by omega) rfl ?_
  refine x_istore [_, _, _, _, _, _, _, _, _] C eL_law_2215 rfl rfl (nlt rfl) ?_
  refine x_aload_n C eL_law_2217 rfl ?_
  refine yV0r [_, _, _, _, _, _, _, _, _, _, _, _, _, _, _, _, _, _, _, _, _, _, _, _] [_, _, _, _, _, _, _, _, _, _, _, _, _, _, _, _, _, _, _, _, _, _, _, _, _] C (s_X8_thrown hK) v_X8_thrown vv_X8_thrown s_RL_145 eL_law_2218 (fun _ _ h => WF_pick [0, 1, 2, 3, 4, 5, 6, 7, 8, 9, 10, 11, 12, 13, 14, 15, 16, 17, 18, 19, 20, 21, 22, 23, 24] rfl rfl h) (rcv 0 rfl) rfl (nle rfl) (nle rfl) (by omega) (by omega) rfl ?_
  refine x_iload C eL_law_2221 rfl ?_
  refine x_icmp_val (by first | exact up_s _ _ _ | exact (up_n (by decide)).trans (up_s _ _ _)) 2228 C eL_law_2223 rfl ?_
  refine x_iload C eL_law_2228 rfl ?_
  refine x_if_ne 2252 C eL_law_2230 rfl (by omega) (fun h => absurd rfl h) (fun _ => ?_)
  refine x_aload_n C eL_law_2233 rfl ?_
  refine x_iconst C eL_law_2234 ?_
  refine x_lald (N := 1) 9 C eL_law_2235 rfl (by decide) (by omega) ?_
  refine x_iload C eL_law_2236 rfl ?_
  refine x_if_eq 2245 C eL_law_2238 rfl (by omega) (fun _ => ?_) (fun h => absurd rfl h)
  refine x_lconst (v := 0) C eL_law_2245 rfl ?_
  refine x_lcmp_same 2252 (by first | exact if_pos rfl | (rw [if_pos rfl]; rfl) | decide) C eL_law_2246 eL_law_2247 rfl ?_
  refine x_goto (pc' := 2791) C eL_law_2252 rfl ?_
  refine x_pick [_, _, _, _, _, _, _, _, _, _, _, _, _, _, _, _, _, _, _, _, _, _, _, _, _] [3, 4, 5, 6, 7, 10, 11, 12, 13, 14, 15, 16, 8, 17, 0, 1, 18, 19, 20, 2, 21, 22, 23, 9, 24] rfl rfl ?_
  refine x_lv [_, _, _, _, _, _, none, none, _] rfl (lx_drop _ [6, 7] rfl) ?_
  exact x_wide (by omega) (by omega) (K9 (hI.chg (by omega) ((GOK_ub hI.hN hl (by first | exact Or.inr (Or.inr (Or.inr (Or.inl ⟨rfl, Or.inr rfl⟩))) | exact Or.inr (Or.inr (Or.inr (Or.inl ⟨rfl, Or.inl rfl⟩))))).mono (by omega)) (up_s _ _ _) ((up_n (by decide)).trans (up_n (by decide))) ((up_n (by decide)).trans (up_n (by decide))) ((up_n (by decide)).trans (up_n (by decide))) ((up_n (by decide)).trans (up_n (by decide))) ((up_n (by decide)).trans (up_n (by decide)))))

set_option maxHeartbeats 4000000 in
set_option maxRecDepth 100000 in
theorem lc_36_1F {G : Gm} {X : Cx} {l : Launch} {x : LFx} {k nn : Nat} {i b : Int} {J : Nat → Int} {M : Pool} {n : Net} {N K : Nat → Net} {Fu Fb : Nat → Int} {w : List Int} {z : Int} {I TL TB : Nat → Int} {N9 : Nat → Net} {f : Nat → Int64} {fD : Nat → UInt64} {a1 a2 : Int} (H : LKn G l x) {nmL : String} (hC : OKc G X l RL nmL cL_law 9 (some .boolean) 1400 600000 6200000) (hI : INV b J M n N K Fu Fb w z I) (hb : b ≤ 15000000) (hk : k + 100 ≤ 600000) (hn : nn + 2200 ≤ 6200000) (hi : 0 ≤ i ∧ i + 6 ≤ (x.L : Int)) (ha1 : (x.xs (i + 1).toNat).toInt = a1) (ha2 : (x.xs (i + 2).toNat).toInt = a2) (hz : a2 = 0) (hl : ¬ (0 ≤ a1 ∧ a1 < n (-1) 0)) (K9 : LCont G X x (b + 8000) (k + 100) (nn + 2200) i) : WX G X k nn (LAT G x J M n N K Fu Fb w z I TL TB N9 f fD) 2164 (LLV x i) [] := by
  have C := hC
  have hK : KG G := H.hX.1.1.1
  have hH := hI.hN.1.1
  unfold HeadOk at hH
  have r1 : -2147483648 ≤ a1 ∧ a1 < 2147483648 := by rw [← ha1]; exact bI_toInt _
  have r2 : -2147483648 ≤ a2 ∧ a2 < 2147483648 := by rw [← ha2]; exact bI_toInt _
  refine x_aload_n C eL_law_2164 rfl ?_
  refine x_argA C H.hx H.hbl H.hL eL_law_2165 eL_law_2166 eL_law_2168 eL_law_2169 eL_law_2170 rfl rfl (by omega) ha1 ?_
  refine x_argA C H.hx H.hbl H.hL eL_law_2171 eL_law_2172 eL_law_2174 eL_law_2175 eL_law_2176 rfl rfl (by omega) ha2 ?_
  refine x_if_eq 2184 C eL_law_2177 rfl (by omega) (fun _ => ?_) (fun h => absurd hz h)
  refine x_iconst C eL_law_2184 ?_
  refine x_aload_n C eL_law_2185 rfl ?_
  refine x_callSW (As := [_, _, _, _]) [_, _, _, _, _, _, _, _, _, _, _, _, _, _, _, _, _, _, _, _, _, _] C (wx_setPaused_1 hK (t_X7_setPaused_2 H.hX H.hT0 (by omega) (by omega) (by omega)) (xwd_c (i := 0) H.hX rfl) (rcv 0 rfl)) cw_setPaused s_RL_268 eL_law_2186 rfl (fun _ _ h => WF_pick [0, 1, 23, 2, 3, 4, 5, 6, 7, 8, 9, 10, 11, 12, 13, 14, 15, 16, 17, 18, 19, 20, 21, 22, 24] rfl rfl h) rfl (nle rfl) (nle rfl) (by omega) (by omega) (fun _ _ => ?_)
  refine x_pick [_, _, _, _, _, _, _, _, _, _, _, _, _, _, _, _, _, _, _, _, _, _, _, _, _] [0, 1, 2, 3, 4, 5, 6, 7, 8, 9, 10, 11, 12, 13, 14, 15, 16, 17, 18, 19, 20, 21, 22, 23, 24] rfl rfl ?_
  refine x_istore [_, _, _, _, _, _, _, _, _] C eL_law_2189 rfl rfl (nlt rfl) ?_
  refine x_aload_n C eL_law_2191 rfl ?_
  refine x_argA C H.hx H.hbl H.hL eL_law_2192 eL_law_2193 eL_law_2195 eL_law_2196 eL_law_2197 rfl rfl (by omega) ha1 ?_
  refine x_argA C H.hx H.hbl H.hL eL_law_2198 eL_law_2199 eL_law_2201 eL_law_2202 eL_law_2203 rfl rfl (by omega) ha2 ?_
  refine x_if_eq 2211 C eL_law_2204 rfl (by omega) (fun _ => ?_) (fun h => absurd hz h)
  refine x_iconst C eL_law_2211 ?_
  have c1 : ¬ (0 ≤ a1 ∧ a1 ≤ n (-1) 0 - 1) := by first | omega | (simp only [if_true, if_false]; omega)
  have hM := s_X8_setPaused (G := G) (l := l) (o := x.o) (A := x.A) (I := I) (N := N9) (n := n) (b := b) (l9 := a1) (P := N) hK False hI.hN.1 (by omega) (by omega) (by have := hI.e6; have := hI.h6; omega)
  simp only [if_neg (show ¬ ((0 ≤ a1 ∧ a1 ≤ n (-1) 0 - 1) ∧ (True) ∧ (True)) from fun q => c1 q.1), thr_1 c1] at hM
  refine yV2r [_, _, _, _, _, _, _, _, _, _, _, _, _, _, _, _, _, _, _, _, _, _] [_, _, _, _, _, _, _, _, _, _, _, _, _, _, _, _, _, _, _, _, _, _, _, _, _] C hM v_X8_setPaused vv_X8_setPaused s_RL_271 eL_law_2212 (fun _ _ h => WF_pick [15, 16, 20, 0, 1, 2, 3, 4, 5, 6, 7, 8, 9, 10, 11, 12, 13, 14, 17, 18, 19, 21, 22, 23, 24] rfl rfl h) (rcv 15 rfl) rfl (nle rfl) (nle rfl) (by omega) (by omega) rfl ?_
  refine x_istore [_, _, _, _, _, _, _, _, _] C eL_law_2215 rfl rfl (nlt rfl) ?_
  refine x_aload_n C eL_law_2217 rfl ?_
  refine yV0r [_, _, _, _, _, _, _, _, _, _, _, _, _, _, _, _, _, _, _, _, _, _, _, _] [_, _, _, _, _, _, _, _, _, _, _, _, _, _, _, _, _, _, _, _, _, _, _, _, _] C (s_X8_thrown hK) v_X8_thrown vv_X8_thrown s_RL_145 eL_law_2218 (fun _ _ h => WF_pick [0, 1, 2, 3, 4, 5, 6, 7, 8, 9, 10, 11, 12, 13, 14, 15, 16, 17, 18, 19, 20, 21, 22, 23, 24] rfl rfl h) (rcv 0 rfl) rfl (nle rfl) (nle rfl) (by omega) (by omega) rfl ?_
  refine x_iload C eL_law_2221 rfl ?_
  refine x_icmp_val (by first | exact up_s _ _ _ | exact (up_n (by decide)).trans (up_s _ _ _)) 2228 C eL_law_2223 rfl ?_
  refine x_iload C eL_law_2228 rfl ?_
  refine x_if_ne 2252 C eL_law_2230 rfl (by omega) (fun _ => ?_) (fun h => absurd h (by decide))
  refine x_goto (pc' := 2791) C eL_law_2252 rfl ?_
  refine x_pick [_, _, _, _, _, _, _, _, _, _, _, _, _, _, _, _, _, _, _, _, _, _, _, _, _] [3, 4, 6, 7, 8, 9, 10, 11, 12, 13, 14, 15, 16, 17, 0, 1, 18, 19, 20, 2, 21, 22, 23, 5, 24] rfl rfl ?_
  refine x_lv [_, _, _, _, _, _, none, none, _] rfl (lx_drop _ [6, 7] rfl) ?_
  exact x_wide (by omega) (by omega) (K9 (hI.qI (by omega) (up_n (by decide)) (up_n (by decide)) (up_n (by decide)) (up_n (by decide)) (up_n (by decide)) (up_n (by decide))))

