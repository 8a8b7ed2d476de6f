/-! The law, case by case: changes. -/
set_option maxHeartbeats 4000000 in
set_option maxRecDepth 100000 in
theorem lc_32_0 {G : Gm} {X : Cx} {l : Launch} {x : LFx} {k nn : Nat} {i b : Int} {J : Nat → Int} {M : Pool} {n : Net} {N K : Nat → Net} {Fu Fb : Nat → Int} {w : List Int} {z : Int} {I TL TB : Nat → Int} {N9 : Nat → Net} {f : Nat → Int64} {fD : Nat → UInt64} {a1 : Int} (H : LKn G l x) {nmL : String} (hC : OKc G X l RL nmL cL_law 9 (some .boolean) 1400 600000 6200000) (hI : INV b J M n N K Fu Fb w z I) (hb : b ≤ 15000000) (hk : k + 100 ≤ 600000) (hn : nn + 2200 ≤ 6200000) (hi : 0 ≤ i ∧ i + 6 ≤ (x.L : Int)) (ha1 : (x.xs (i + 1).toNat).toInt = a1) (ht : 1 ≤ a1 ∧ a1 ≤ 200) (K9 : LCont G X x (b + 8000) (k + 100) (nn + 2200) i) : WX G X k nn (LAT G x J M n N K Fu Fb w z I TL TB N9 f fD) 1904 (LLV x i) [] := by
  have C := hC
  have hK : KG G := H.hX.1.1.1
  have hH := hI.hN.1.1
  unfold HeadOk at hH
  have r1 : -2147483648 ≤ a1 ∧ a1 < 2147483648 := by rw [← ha1]; exact bI_toInt _
  refine x_aload_n C eL_law_1904 rfl ?_
  refine x_argA C H.hx H.hbl H.hL eL_law_1905 eL_law_1906 eL_law_1908 eL_law_1909 eL_law_1910 rfl rfl (by omega) ha1 ?_
  refine x_aload_n C eL_law_1911 rfl ?_
  refine x_callSW (As := [_, _, _]) [_, _, _, _, _, _, _, _, _, _, _, _, _, _, _, _, _, _] C (wn_tick hK (s_X7_tick hK hI.hN.1 (by omega) hI.h6 H.hX.1 (by omega)) (rcv 0 rfl)) cw_tick s_RL_256 eL_law_1912 rfl (fun _ _ h => WF_pick [0, 1, 2, 3, 4, 12, 23, 5, 6, 7, 8, 9, 10, 11, 13, 14, 15, 16, 17, 18, 19, 20, 21, 22, 24] rfl rfl h) rfl (nle rfl) (nle rfl) (by omega) (by omega) (fun _ _ => ?_)
  refine x_pick [_, _, _, _, _, _, _, _, _, _, _, _, _, _, _, _, _, _, _, _, _, _, _, _, _] [0, 1, 2, 3, 4, 5, 6, 7, 8, 9, 10, 11, 12, 13, 14, 15, 16, 17, 18, 19, 20, 21, 22, 23, 24] rfl rfl ?_
  refine x_istore [_, _, _, _, _, _, _, _, _] C eL_law_1915 rfl rfl (nlt rfl) ?_
  refine x_aload_n C eL_law_1917 rfl ?_
  refine x_argA C H.hx H.hbl H.hL eL_law_1918 eL_law_1919 eL_law_1921 eL_law_1922 eL_law_1923 rfl rfl (by omega) ha1 ?_
  have c1 : 1 ≤ a1 ∧ a1 ≤ 200 := by first | trivial | omega | (simp only [if_true, if_false]; omega)
  have c2 : True := by first | trivial | omega | (simp only [if_true, if_false]; omega)
  have c3 : True := by first | trivial | omega | (simp only [if_true, if_false]; omega)
  have hM := s_X8_tick (G := G) (l := l) (o := x.o) (A := x.A) (I := I) (N := N9) (n := n) (b := b) (t9 := a1) (P := N) hK hI.hN.1 (by omega) (by omega) (by have := hI.e6; have := hI.h6; omega)
  simp only [if_pos (show (1 ≤ a1 ∧ a1 ≤ 200) ∧ (True) ∧ (True) from ⟨c1, c2, c3⟩), thr_0 c1 c2 c3] at hM
  simp only [hI.e6] at hM
  refine yV1r [_, _, _, _, _, _, _, _, _, _, _, _, _, _, _, _, _, _, _, _, _, _] [_, _, _, _, _, _, _, _, _, _, _, _, _, _, _, _, _, _, _, _, _, _, _, _, _] C hM v_X8_tick vv_X8_tick s_RL_258 eL_law_1924 (fun _ _ h => WF_pick [15, 16, 20, 0, 1, 2, 3, 4, 5, 6, 7, 8, 9, 10, 11, 12, 13, 14, 17, 18, 19, 21, 22, 23, 24] rfl rfl h) (rcv 15 rfl) rfl (nle rfl) (nle rfl) (by omega) (by omega) rfl ?_
  refine x_istore [_, _, _, _, _, _, _, _, _] C eL_law_1927 rfl rfl (nlt rfl) ?_
  refine x_aload_n C eL_law_1929 rfl ?_
  refine yV0r [_, _, _, _, _, _, _, _, _, _, _, _, _, _, _, _, _, _, _, _, _, _, _, _] [_, _, _, _, _, _, _, _, _, _, _, _, _, _, _, _, _, _, _, _, _, _, _, _, _] C (s_X8_thrown hK) v_X8_thrown vv_X8_thrown s_RL_145 eL_law_1930 (fun _ _ h => WF_pick [0, 1, 2, 3, 4, 5, 6, 7, 8, 9, 10, 11, 12, 13, 14, 15, 16, 17, 18, 19, 20, 21, 22, 23, 24] rfl rfl h) (rcv 0 rfl) rfl (nle rfl) (nle rfl) (by omega) (by omega) rfl ?_
  refine x_iload C eL_law_1933 rfl ?_
  refine x_icmp_val (by first | exact up_s _ _ _ | exact (up_n (by decide)).trans (up_s _ _ _)) 1940 C eL_law_1935 rfl ?_
  refine x_iload C eL_law_1940 rfl ?_
  refine x_if_ne 1957 C eL_law_1942 rfl (by omega) (fun h => absurd rfl h) (fun _ => ?_)
  refine x_aload_n C eL_law_1945 rfl ?_
  refine x_iconst C eL_law_1946 ?_
  refine x_lald (N := 1) 9 C eL_law_1947 rfl (by decide) (by omega) ?_
  refine x_iload C eL_law_1948 rfl ?_
  refine x_i2lR C eL_law_1950 ?_
  refine x_lcmp_same 1957 (by first | exact if_pos rfl | (rw [if_pos rfl]; rfl) | decide) C eL_law_1951 eL_law_1952 rfl ?_
  refine x_goto (pc' := 2791) C eL_law_1957 rfl ?_
  refine x_pick [_, _, _, _, _, _, _, _, _, _, _, _, _, _, _, _, _, _, _, _, _, _, _, _, _] [3, 4, 5, 6, 7, 10, 11, 12, 13, 14, 15, 16, 8, 17, 0, 1, 18, 19, 20, 2, 21, 22, 23, 9, 24] rfl rfl ?_
  refine x_lv [_, _, _, _, _, _, none, none, _] rfl (lx_drop _ [6, 7] rfl) ?_
  exact x_wide (by omega) (by omega) (K9 (hI.chg (by omega) ((GOK_tick hI.hN a1.toNat).mono (by omega)) (up_s _ _ _) ((up_n (by decide)).trans (up_n (by decide))) ((up_n (by decide)).trans (up_n (by decide))) ((up_n (by decide)).trans (up_n (by decide))) ((up_n (by decide)).trans (up_n (by decide))) ((up_n (by decide)).trans (up_n (by decide)))))

set_option maxHeartbeats 4000000 in
set_option maxRecDepth 100000 in
theorem lc_32_1 {G : Gm} {X : Cx} {l : Launch} {x : LFx} {k nn : Nat} {i b : Int} {J : Nat → Int} {M : Pool} {n : Net} {N K : Nat → Net} {Fu Fb : Nat → Int} {w : List Int} {z : Int} {I TL TB : Nat → Int} {N9 : Nat → Net} {f : Nat → Int64} {fD : Nat → UInt64} {a1 : Int} (H : LKn G l x) {nmL : String} (hC : OKc G X l RL nmL cL_law 9 (some .boolean) 1400 600000 6200000) (hI : INV b J M n N K Fu Fb w z I) (hb : b ≤ 15000000) (hk : k + 100 ≤ 600000) (hn : nn + 2200 ≤ 6200000) (hi : 0 ≤ i ∧ i + 6 ≤ (x.L : Int)) (ha1 : (x.xs (i + 1).toNat).toInt = a1) (ht : ¬ (1 ≤ a1 ∧ a1 ≤ 200)) (K9 : LCont G X x (b + 8000) (k + 100) (nn + 2200) i) : WX G X k nn (LAT G x J M n N K Fu Fb w z I TL TB N9 f fD) 1904 (LLV x i) [] := by
  have C := hC
  have hK : KG G := H.hX.1.1.1
  have hH := hI.hN.1.1
  unfold HeadOk at hH
  have r1 : -2147483648 ≤ a1 ∧ a1 < 2147483648 := by rw [← ha1]; exact bI_toInt _
  refine x_aload_n C eL_law_1904 rfl ?_
  refine x_argA C H.hx H.hbl H.hL eL_law_1905 eL_law_1906 eL_law_1908 eL_law_1909 eL_law_1910 rfl rfl (by omega) ha1 ?_
  refine x_aload_n C eL_law_1911 rfl ?_
  refine x_callSW (As := [_, _, _]) [_, _, _, _, _, _, _, _, _, _, _, _, _, _, _, _, _, _, _, _, _, _, _] C (wx_tick_1 hK (t_X7_tick_5 H.hX H.hT0 (by omega) (by omega)) (xwd_c (i := 1) H.hX rfl) (rcv 0 rfl)) cw_tick s_RL_256 eL_law_1912 rfl (fun _ _ h => WF_pick [0, 23, 1, 2, 3, 4, 5, 6, 7, 8, 9, 10, 11, 12, 13, 14, 15, 16, 17, 18, 19, 20, 21, 22, 24] rfl rfl h) rfl (nle rfl) (nle rfl) (by omega) (by omega) (fun _ _ => ?_)
  refine x_pick [_, _, _, _, _, _, _, _, _, _, _, _, _, _, _, _, _, _, _, _, _, _, _, _, _] [0, 1, 2, 3, 4, 5, 6, 7, 8, 9, 10, 11, 12, 13, 14, 15, 16, 17, 18, 19, 20, 21, 22, 23, 24] rfl rfl ?_
  refine x_istore [_, _, _, _, _, _, _, _, _] C eL_law_1915 rfl rfl (nlt rfl) ?_
  refine x_aload_n C eL_law_1917 rfl ?_
  refine x_argA C H.hx H.hbl H.hL eL_law_1918 eL_law_1919 eL_law_1921 eL_law_1922 eL_law_1923 rfl rfl (by omega) ha1 ?_
  have c1 : ¬ (1 ≤ a1 ∧ a1 ≤ 200) := by first | omega | (simp only [if_true, if_false]; omega)
  have hM := s_X8_tick (G := G) (l := l) (o := x.o) (A := x.A) (I := I) (N := N9) (n := n) (b := b) (t9 := a1) (P := N) hK hI.hN.1 (by omega) (by omega) (by have := hI.e6; have := hI.h6; omega)
  simp only [if_neg (show ¬ ((1 ≤ a1 ∧ a1 ≤ 200) ∧ (True) ∧ (True)) from fun q => c1 q.1), thr_1 c1] at hM
  refine yV1r [_, _, _, _, _, _, _, _, _, _, _, _, _, _, _, _, _, _, _, _, _, _] [_, _, _, _, _, _, _, _, _, _, _, _, _, _, _, _, _, _, _, _, _, _, _, _, _] C hM v_X8_tick vv_X8_tick s_RL_258 eL_law_1924 (fun _ _ h => WF_pick [15, 16, 20, 0, 1, 2, 3, 4, 5, 6, 7, 8, 9, 10, 11, 12, 13, 14, 17, 18, 19, 21, 22, 23, 24] rfl rfl h) (rcv 15 rfl) rfl (nle rfl) (nle rfl) (by omega) (by omega) rfl ?_
  refine x_istore [_, _, _, _, _, _, _, _, _] C eL_law_1927 rfl rfl (nlt rfl) ?_
  refine x_aload_n C eL_law_1929 rfl ?_
  refine yV0r [_, _, _, _, _, _, _, _, _, _, _, _, _, _, _, _, _, _, _, _, _, _, _, _] [_, _, _, _, _, _, _, _, _, _, _, _, _, _, _, _, _, _, _, _, _, _, _, _, _] C (s_X8_thrown hK) v_X8_thrown vv_X8_thrown s_RL_145 eL_law_1930 (fun _ _ h => WF_pick [0, 1, 2, 3, 4, 5, 6, 7, 8, 9, 10, 11, 12, 13, 14, 15, 16, 17, 18, 19, 20, 21, 22, 23, 24] rfl rfl h) (rcv 0 rfl) rfl (nle rfl) (nle rfl) (by omega) (by omega) rfl ?_
  refine x_iload C eL_law_1933 rfl ?_
  refine x_icmp_val (by first | exact up_s _ _ _ | exact (up_n (by decide)).trans (up_s _ _ _)) 1940 C eL_law_1935 rfl ?_
  refine x_iload C eL_law_1940 rfl ?_
  refine x_if_ne 1957 C eL_law_1942 rfl (by omega) (fun _ => ?_) (fun h => absurd h (by decide))
  refine x_goto (pc' := 2791) C eL_law_1957 rfl ?_
  refine x_pick [_, _, _, _, _, _, _, _, _, _, _, _, _, _, _, _, _, _, _, _, _, _, _, _, _] [3, 5, 6, 7, 8, 9, 10, 11, 12, 13, 14, 15, 16, 17, 0, 1, 18, 19, 20, 2, 21, 22, 23, 4, 24] rfl rfl ?_
  refine x_lv [_, _, _, _, _, _, none, none, _] rfl (lx_drop _ [6, 7] rfl) ?_
  exact x_wide (by omega) (by omega) (K9 (hI.qI (by omega) (up_n (by decide)) (up_n (by decide)) (up_n (by decide)) (up_n (by decide)) (up_n (by decide)) (up_n (by decide))))

set_option maxHeartbeats 4000000 in
set_option maxRecDepth 100000 in
theorem lc_33_0 {G : Gm} {X : Cx} {l : Launch} {x : LFx} {k nn : Nat} {i b : Int} {J : Nat → Int} {M : Pool} {n : Net} {N K : Nat → Net} {Fu Fb : Nat → Int} {w : List Int} {z : Int} {I TL TB : Nat → Int} {N9 : Nat → Net} {f : Nat → Int64} {fD : Nat → UInt64} {a1 a2 a3 : Int} (H : LKn G l x) {nmL : String} (hC : OKc G X l RL nmL cL_law 9 (some .boolean) 1400 600000 6200000) (hI : INV b J M n N K Fu Fb w z I) (hb : b ≤ 15000000) (hk : k + 100 ≤ 600000) (hn : nn + 2200 ≤ 6200000) (hi : 0 ≤ i ∧ i + 6 ≤ (x.L : Int)) (ha1 : (x.xs (i + 1).toNat).toInt = a1) (ha2 : (x.xs (i + 2).toNat).toInt = a2) (ha3 : (x.xs (i + 3).toNat).toInt = a3) (hl : 0 ≤ a1 ∧ a1 < n (-1) 0) (ho : 0 ≤ a2 ∧ a2 < n (-1) 0) (hne : ¬ a1 = a2) (ht : 1 ≤ a3 ∧ a3 ≤ 99) (K9 : LCont G X x (b + 8000) (k + 100) (nn + 2200) i) : WX G X k nn (LAT G x J M n N K Fu Fb w z I TL TB N9 f fD) 1960 (LLV x i) [] := by
  have C := hC
  have hK : KG G := H.hX.1.1.1
  have hH := hI.hN.1.1
  unfold HeadOk at hH
  have r1 : -2147483648 ≤ a1 ∧ a1 < 2147483648 := by rw [← ha1]; exact bI_toInt _
  have r2 : -2147483648 ≤ a2 ∧ a2 < 2147483648 := by rw [← ha2]; exact bI_toInt _
  have r3 : -2147483648 ≤ a3 ∧ a3 < 2147483648 := by rw [← ha3]; exact bI_toInt _
  refine x_aload_n C eL_law_1960 rfl ?_
  refine x_argA C H.hx H.hbl H.hL eL_law_1961 eL_law_1962 eL_law_1964 eL_law_1965 eL_law_1966 rfl rfl (by omega) ha1 ?_
  refine x_argA C H.hx H.hbl H.hL eL_law_1967 eL_law_1968 eL_law_1970 eL_law_1971 eL_law_1972 rfl rfl (by omega) ha2 ?_
  refine x_argA C H.hx H.hbl H.hL eL_law_1973 eL_law_1974 eL_law_1976 eL_law_1977 eL_law_1978 rfl rfl (by omega) ha3 ?_
  refine x_aload_n C eL_law_1979 rfl ?_
  refine x_callSW (As := [_, _, _, _, _]) [_, _, _, _, _, _, _, _, _, _, _, _, _, _, _, _, _, _] C (wn_lend hK (s_X7_lend hK hI.hN.1 (by omega) hI.h6 H.hX.1 (by omega) (by omega) (by omega) (by omega)) (rcv 0 rfl)) cw_lend s_RL_259 eL_law_1980 rfl (fun _ _ h => WF_pick [0, 1, 2, 3, 4, 12, 23, 5, 6, 7, 8, 9, 10, 11, 13, 14, 15, 16, 17, 18, 19, 20, 21, 22, 24] rfl rfl h) rfl (nle rfl) (nle rfl) (by omega) (by omega) (fun _ _ => ?_)
  refine x_pick [_, _, _, _, _, _, _, _, _, _, _, _, _, _, _, _, _, _, _, _, _, _, _, _, _] [0, 1, 2, 3, 4, 5, 6, 7, 8, 9, 10, 11, 12, 13, 14, 15, 16, 17, 18, 19, 20, 21, 22, 23, 24] rfl rfl ?_
  refine x_istore [_, _, _, _, _, _, _, _, _] C eL_law_1983 rfl rfl (nlt rfl) ?_
  refine x_aload_n C eL_law_1985 rfl ?_
  refine x_argA C H.hx H.hbl H.hL eL_law_1986 eL_law_1987 eL_law_1989 eL_law_1990 eL_law_1991 rfl rfl (by omega) ha1 ?_
  refine x_argA C H.hx H.hbl H.hL eL_law_1992 eL_law_1993 eL_law_1995 eL_law_1996 eL_law_1997 rfl rfl (by omega) ha2 ?_
  refine x_argA C H.hx H.hbl H.hL eL_law_1998 eL_law_1999 eL_law_2001 eL_law_2002 eL_law_2003 rfl rfl (by omega) ha3 ?_
  have c1 : (0 ≤ a1 ∧ a1 ≤ n (-1) 0 - 1) ∧ 0 ≤ a2 ∧ a2 ≤ n (-1) 0 - 1 := by first | trivial | omega | (simp only [if_true, if_false]; omega)
  have c2 : ¬ a1 = a2 ∧ 1 ≤ a3 ∧ a3 ≤ 99 := by first | trivial | omega | (simp only [if_true, if_false]; omega)
  have c3 : True := by first | trivial | omega | (simp only [if_true, if_false]; omega)
  have hM := s_X8_lend (G := G) (l := l) (o := x.o) (A := x.A) (I := I) (N := N9) (n := n) (b := b) (l9 := a1) (o9 := a2) (t9 := a3) (P := N) hK hI.hN.1 (by omega) (by omega) (by omega) (by omega) (by have := hI.e6; have := hI.h6; omega)
  simp only [if_pos (show ((0 ≤ a1 ∧ a1 ≤ n (-1) 0 - 1) ∧ 0 ≤ a2 ∧ a2 ≤ n (-1) 0 - 1) ∧ (¬ a1 = a2 ∧ 1 ≤ a3 ∧ a3 ≤ 99) ∧ (True) from ⟨c1, c2, c3⟩), thr_0 c1 c2 c3] at hM
  simp only [hI.e6] at hM
  refine yV3r [_, _, _, _, _, _, _, _, _, _, _, _, _, _, _, _, _, _, _, _, _, _] [_, _, _, _, _, _, _, _, _, _, _, _, _, _, _, _, _, _, _, _, _, _, _, _, _] C hM v_X8_lend vv_X8_lend s_RL_261 eL_law_2004 (fun _ _ h => WF_pick [15, 16, 20, 0, 1, 2, 3, 4, 5, 6, 7, 8, 9, 10, 11, 12, 13, 14, 17, 18, 19, 21, 22, 23, 24] rfl rfl h) (rcv 15 rfl) rfl (nle rfl) (nle rfl) (by omega) (by omega) rfl ?_
  refine x_istore [_, _, _, _, _, _, _, _, _] C eL_law_2007 rfl rfl (nlt rfl) ?_
  refine x_aload_n C eL_law_2009 rfl ?_
  refine yV0r [_, _, _, _, _, _, _, _, _, _, _, _, _, _, _, _, _, _, _, _, _, _, _, _] [_, _, _, _, _, _, _, _, _, _, _, _, _, _, _, _, _, _, _, _, _, _, _, _, _] C (s_X8_thrown hK) v_X8_thrown vv_X8_thrown s_RL_145 eL_law_2010 (fun _ _ h => WF_pick [0, 1, 2, 3, 4, 5, 6, 7, 8, 9, 10, 11, 12, 13, 14, 15, 16, 17, 18, 19, 20, 21, 22, 23, 24] rfl rfl h) (rcv 0 rfl) rfl (nle rfl) (nle rfl) (by omega) (by omega) rfl ?_
  refine x_iload C eL_law_2013 rfl ?_
  refine x_icmp_val (by first | exact up_s _ _ _ | exact (up_n (by decide)).trans (up_s _ _ _)) 2020 C eL_law_2015 rfl ?_
  refine x_iload C eL_law_2020 rfl ?_
  refine x_if_ne 2037 C eL_law_2022 rfl (by omega) (fun h => absurd rfl h) (fun _ => ?_)
  refine x_aload_n C eL_law_2025 rfl ?_
  refine x_iconst C eL_law_2026 ?_
  refine x_lald (N := 1) 9 C eL_law_2027 rfl (by decide) (by omega) ?_
  refine x_iload C eL_law_2028 rfl ?_
  refine x_i2lR C eL_law_2030 ?_
  refine x_lcmp_same 2037 (by first | exact if_pos rfl | (rw [if_pos rfl]; rfl) | decide) C eL_law_2031 eL_law_2032 rfl ?_
  refine x_goto (pc' := 2791) C eL_law_2037 rfl ?_
  refine x_pick [_, _, _, _, _, _, _, _, _, _, _, _, _, _, _, _, _, _, _, _, _, _, _, _, _] [3, 4, 5, 6, 7, 10, 11, 12, 13, 14, 15, 16, 8, 17, 0, 1, 18, 19, 20, 2, 21, 22, 23, 9, 24] rfl rfl ?_
  refine x_lv [_, _, _, _, _, _, none, none, _] rfl (lx_drop _ [6, 7] rfl) ?_
  exact x_wide (by omega) (by omega) (K9 (hI.chg (by omega) ((GOK_lend hI.hN hl ho hne (by omega)).mono (by omega)) (up_s _ _ _) ((up_n (by decide)).trans (up_n (by decide))) ((up_n (by decide)).trans (up_n (by decide))) ((up_n (by decide)).trans (up_n (by decide))) ((up_n (by decide)).trans (up_n (by decide))) ((up_n (by decide)).trans (up_n (by decide)))))

set_option maxHeartbeats 4000000 in
set_option maxRecDepth 100000 in
theorem lc_33_1 {G : Gm} {X : Cx} {l : Launch} {x : LFx} {k nn : Nat} {i b : Int} {J : Nat → Int} {M : Pool} {n : Net} {N K : Nat → Net} {Fu Fb : Nat → Int} {w : List Int} {z : Int} {I TL TB : Nat → Int} {N9 : Nat → Net} {f : Nat → Int64} {fD : Nat → UInt64} {a1 a2 a3 : Int} (H : LKn G l x) {nmL : String} (hC : OKc G X l RL nmL cL_law 9 (some .boolean) 1400 600000 6200000) (hI : INV b J M n N K Fu Fb w z I) (hb : b ≤ 15000000) (hk : k + 100 ≤ 600000) (hn : nn + 2200 ≤ 6200000) (hi : 0 ≤ i ∧ i + 6 ≤ (x.L : Int)) (ha1 : (x.xs (i + 1).toNat).toInt = a1) (ha2 : (x.xs (i + 2).toNat).toInt = a2) (ha3 : (x.xs (i + 3).toNat).toInt = a3) (hl : ¬ (0 ≤ a1 ∧ a1 < n (-1) 0)) (K9 : LCont G X x (b + 8000) (k + 100) (nn + 2200) i) : WX G X k nn (LAT G x J M n N K Fu Fb w z I TL TB N9 f fD) 1960 (LLV x i) [] := by
  have C := hC
  have hK : KG G := H.hX.1.1.1
  have hH := hI.hN.1.1
  unfold HeadOk at hH
  have r1 : -2147483648 ≤ a1 ∧ a1 < 2147483648 := by rw [← ha1]; exact bI_toInt _
  have r2 : -2147483648 ≤ a2 ∧ a2 < 2147483648 := by rw [← ha2]; exact bI_toInt _
  have r3 : -2147483648 ≤ a3 ∧ a3 < 2147483648 := by rw [← ha3]; exact bI_toInt _
  refine x_aload_n C eL_law_1960 rfl ?_
  refine x_argA C H.hx H.hbl H.hL eL_law_1961 eL_law_1962 eL_law_1964 eL_law_1965 eL_law_1966 rfl rfl (by omega) ha1 ?_
  refine x_argA C H.hx H.hbl H.hL eL_law_1967 eL_law_1968 eL_law_1970 eL_law_1971 eL_law_1972 rfl rfl (by omega) ha2 ?_
  refine x_argA C H.hx H.hbl H.hL eL_law_1973 eL_law_1974 eL_law_1976 eL_law_1977 eL_law_1978 rfl rfl (by omega) ha3 ?_
  refine x_aload_n C eL_law_1979 rfl ?_
  refine x_callSW (As := [_, _, _, _, _]) [_, _, _, _, _, _, _, _, _, _, _, _, _, _, _, _, _, _, _, _, _, _] C (wx_lend_1 hK (t_X7_lend_2 H.hX H.hT0 (by omega) (by omega) (by omega)) (xwd_c (i := 0) H.hX rfl) (rcv 0 rfl)) cw_lend s_RL_259 eL_law_1980 rfl (fun _ _ h => WF_pick [0, 1, 23, 2, 3, 4, 5, 6, 7, 8, 9, 10, 11, 12, 13, 14, 15, 16, 17, 18, 19, 20, 21, 22, 24] rfl rfl h) rfl (nle rfl) (nle rfl) (by omega) (by omega) (fun _ _ => ?_)
  refine x_pick [_, _, _, _, _, _, _, _, _, _, _, _, _, _, _, _, _, _, _, _, _, _, _, _, _] [0, 1, 2, 3, 4, 5, 6, 7, 8, 9, 10, 11, 12, 13, 14, 15, 16, 17, 18, 19, 20, 21, 22, 23, 24] rfl rfl ?_
  refine x_istore [_, _, _, _, _, _, _, _, _] C eL_law_1983 rfl rfl (nlt rfl) ?_
  refine x_aload_n C eL_law_1985 rfl ?_
  refine x_argA C H.hx H.hbl H.hL eL_law_1986 eL_law_1987 eL_law_1989 eL_law_1990 eL_law_1991 rfl rfl (by omega) ha1 ?_
  refine x_argA C H.hx H.hbl H.hL eL_law_1992 eL_law_1993 eL_law_1995 eL_law_1996 eL_law_1997 rfl rfl (by omega) ha2 ?_
  refine x_argA C H.hx H.hbl H.hL eL_law_1998 eL_law_1999 eL_law_2001 eL_law_2002 eL_law_2003 rfl rfl (by omega) ha3 ?_
  have c1 : ¬ ((0 ≤ a1 ∧ a1 ≤ n (-1) 0 - 1) ∧ 0 ≤ a2 ∧ a2 ≤ n (-1) 0 - 1) := by first | omega | (simp only [if_true, if_false]; omega)
  have hM := s_X8_lend (G := G) (l := l) (o := x.o) (A := x.A) (I := I) (N := N9) (n := n) (b := b) (l9 := a1) (o9 := a2) (t9 := a3) (P := N) hK hI.hN.1 (by omega) (by omega) (by omega) (by omega) (by have := hI.e6; have := hI.h6; omega)
  simp only [if_neg (show ¬ (((0 ≤ a1 ∧ a1 ≤ n (-1) 0 - 1) ∧ 0 ≤ a2 ∧ a2 ≤ n (-1) 0 - 1) ∧ (¬ a1 = a2 ∧ 1 ≤ a3 ∧ a3 ≤ 99) ∧ (True)) from fun q => c1 q.1), thr_1 c1] at hM
  refine yV3r [_, _, _, _, _, _, _, _, _, _, _, _, _, _, _, _, _, _, _, _, _, _] [_, _, _, _, _, _, _, _, _, _, _, _, _, _, _, _, _, _, _, _, _, _, _, _, _] C hM v_X8_lend vv_X8_lend s_RL_261 eL_law_2004 (fun _ _ h => WF_pick [15, 16, 20, 0, 1, 2, 3, 4, 5, 6, 7, 8, 9, 10, 11, 12, 13, 14, 17, 18, 19, 21, 22, 23, 24] rfl rfl h) (rcv 15 rfl) rfl (nle rfl) (nle rfl) (by omega) (by omega) rfl ?_
  refine x_istore [_, _, _, _, _, _, _, _, _] C eL_law_2007 rfl rfl (nlt rfl) ?_
  refine x_aload_n C eL_law_2009 rfl ?_
  refine yV0r [_, _, _, _, _, _, _, _, _, _, _, _, _, _, _, _, _, _, _, _, _, _, _, _] [_, _, _, _, _, _, _, _, _, _, _, _, _, _, _, _, _, _, _, _, _, _, _, _, _] C (s_X8_thrown hK) v_X8_thrown vv_X8_thrown s_RL_145 eL_law_2010 (fun _ _ h => WF_pick [0, 1, 2, 3, 4, 5, 6, 7, 8, 9, 10, 11, 12, 13, 14, 15, 16, 17, 18, 19, 20, 21, 22, 23, 24] rfl rfl h) (rcv 0 rfl) rfl (nle rfl) (nle rfl) (by omega) (by omega) rfl ?_
  refine x_iload C eL_law_2013 rfl ?_
  refine x_icmp_val (by first | exact up_s _ _ _ | exact (up_n (by decide)).trans (up_s _ _ _)) 2020 C eL_law_2015 rfl ?_
  refine x_iload C eL_law_2020 rfl ?_
  refine x_if_ne 2037 C eL_law_2022 rfl (by omega) (fun _ => ?_) (fun h => absurd h (by decide))
  refine x_goto (pc' := 2791) C eL_law_2037 rfl ?_
  refine x_pick [_, _, _, _, _, _, _, _, _, _, _, _, _, _, _, _, _, _, _, _, _, _, _, _, _] [3, 4, 6, 7, 8, 9, 10, 11, 12, 13, 14, 15, 16, 17, 0, 1, 18, 19, 20, 2, 21, 22, 23, 5, 24] rfl rfl ?_
  refine x_lv [_, _, _, _, _, _, none, none, _] rfl (lx_drop _ [6, 7] rfl) ?_
  exact x_wide (by omega) (by omega) (K9 (hI.qI (by omega) (up_n (by decide)) (up_n (by decide)) (up_n (by decide)) (up_n (by decide)) (up_n (by decide)) (up_n (by decide))))

set_option maxHeartbeats 4000000 in
set_option maxRecDepth 100000 in
theorem lc_33_1b {G : Gm} {X : Cx} {l : Launch} {x : LFx} {k nn : Nat} {i b : Int} {J : Nat → Int} {M : Pool} {n : Net} {N K : Nat → Net} {Fu Fb : Nat → Int} {w : List Int} {z : Int} {I TL TB : Nat → Int} {N9 : Nat → Net} {f : Nat → Int64} {fD : Nat → UInt64} {a1 a2 a3 : Int} (H : LKn G l x) {nmL : String} (hC : OKc G X l RL nmL cL_law 9 (some .boolean) 1400 600000 6200000) (hI : INV b J M n N K Fu Fb w z I) (hb : b ≤ 15000000) (hk : k + 100 ≤ 600000) (hn : nn + 2200 ≤ 6200000) (hi : 0 ≤ i ∧ i + 6 ≤ (x.L : Int)) (ha1 : (x.xs (i + 1).toNat).toInt = a1) (ha2 : (x.xs (i + 2).toNat).toInt = a2) (ha3 : (x.xs (i + 3).toNat).toInt = a3) (hl : 0 ≤ a1 ∧ a1 < n (-1) 0) (ho : ¬ (0 ≤ a2 ∧ a2 < n (-1) 0)) (K9 : LCont G X x (b + 8000) (k + 100) (nn + 2200) i) : WX G X k nn (LAT G x J M n N K Fu Fb w z I TL TB N9 f fD) 1960 (LLV x i) [] := by
  have C := hC
  have hK : KG G := H.hX.1.1.1
  have hH := hI.hN.1.1
  unfold HeadOk at hH
  have r1 : -2147483648 ≤ a1 ∧ a1 < 2147483648 := by rw [← ha1]; exact bI_toInt _
  have r2 : -2147483648 ≤ a2 ∧ a2 < 2147483648 := by rw [← ha2]; exact bI_toInt _
  have r3 : -2147483648 ≤ a3 ∧ a3 < 2147483648 := by rw [← ha3]; exact bI_toInt _
  refine x_aload_n C eL_law_1960 rfl ?_
  refine x_argA C H.hx H.hbl H.hL eL_law_1961 eL_law_1962 eL_law_1964 eL_law_1965 eL_law_1966 rfl rfl (by omega) ha1 ?_
  refine x_argA C H.hx H.hbl H.hL eL_law_1967 eL_law_1968 eL_law_1970 eL_law_1971 eL_law_1972 rfl rfl (by omega) ha2 ?_
  refine x_argA C H.hx H.hbl H.hL eL_law_1973 eL_law_1974 eL_law_1976 eL_law_1977 eL_law_1978 rfl rfl (by omega) ha3 ?_
  refine x_aload_n C eL_law_1979 rfl ?_
  refine x_callSW (As := [_, _, _, _, _]) [_, _, _, _, _, _, _, _, _, _, _, _, _, _, _, _, _, _, _, _, _, _] C (wx_lend_1 hK (t_X7_lend_7 H.hX H.hT0 (by omega) (by omega) (by omega) (by omega)) (xwd_c (i := 0) H.hX rfl) (rcv 0 rfl)) cw_lend s_RL_259 eL_law_1980 rfl (fun _ _ h => WF_pick [0, 1, 23, 2, 3, 4, 5, 6, 7, 8, 9, 10, 11, 12, 13, 14, 15, 16, 17, 18, 19, 20, 21, 22, 24] rfl rfl h) rfl (nle rfl) (nle rfl) (by omega) (by omega) (fun _ _ => ?_)
  refine x_pick [_, _, _, _, _, _, _, _, _, _, _, _, _, _, _, _, _, _, _, _, _, _, _, _, _] [0, 1, 2, 3, 4, 5, 6, 7, 8, 9, 10, 11, 12, 13, 14, 15, 16, 17, 18, 19, 20, 21, 22, 23, 24] rfl rfl ?_
  refine x_istore [_, _, _, _, _, _, _, _, _] C eL_law_1983 rfl rfl (nlt rfl) ?_
  refine x_aload_n C eL_law_1985 rfl ?_
  refine x_argA C H.hx H.hbl H.hL eL_law_1986 eL_law_1987 eL_law_1989 eL_law_1990 eL_law_1991 rfl rfl (by omega) ha1 ?_
  refine x_argA C H.hx H.hbl H.hL eL_law_1992 eL_law_1993 eL_law_1995 eL_law_1996 eL_law_1997 rfl rfl (by omega) ha2 ?_
  refine x_argA C H.hx H.hbl H.hL eL_law_1998 eL_law_1999 eL_law_2001 eL_law_2002 eL_law_2003 rfl rfl (by omega) ha3 ?_
  have c1 : ¬ ((0 ≤ a1 ∧ a1 ≤ n (-1) 0 - 1) ∧ 0 ≤ a2 ∧ a2 ≤ n (-1) 0 - 1) := by first | omega | (simp only [if_true, if_false]; omega)
  have hM := s_X8_lend (G := G) (l := l) (o := x.o) (A := x.A) (I := I) (N := N9) (n := n) (b := b) (l9 := a1) (o9 := a2) (t9 := a3) (P := N) hK hI.hN.1 (by omega) (by omega) (by omega) (by omega) (by have := hI.e6; have := hI.h6; omega)
  simp only [if_neg (show ¬ (((0 ≤ a1 ∧ a1 ≤ n (-1) 0 - 1) ∧ 0 ≤ a2 ∧ a2 ≤ n (-1) 0 - 1) ∧ (¬ a1 = a2 ∧ 1 ≤ a3 ∧ a3 ≤ 99) ∧ (True)) from fun q => c1 q.1), thr_1 c1] at hM
  refine yV3r [_, _, _, _, _, _, _, _, _, _, _, _, _, _, _, _, _, _, _, _, _, _] [_, _, _, _, _, _, _, _, _, _, _, _, _, _, _, _, _, _, _, _, _, _, _, _, _] C hM v_X8_lend vv_X8_lend s_RL_261 eL_law_2004 (fun _ _ h => WF_pick [15, 16, 20, 0, 1, 2, 3, 4, 5, 6, 7, 8, 9, 10, 11, 12, 13, 14, 17, 18, 19, 21, 22, 23, 24] rfl rfl h) (rcv 15 rfl) rfl (nle rfl) (nle rfl) (by omega) (by omega) rfl ?_
  refine x_istore [_, _, _, _, _, _, _, _, _] C eL_law_2007 rfl rfl (nlt rfl) ?_
  refine x_aload_n C eL_law_2009 rfl ?_
  refine yV0r [_, _, _, _, _, _, _, _, _, _, _, _, _, _, _, _, _, _, _, _, _, _, _, _] [_, _, _, _, _, _, _, _, _, _, _, _, _, _, _, _, _, _, _, _, _, _, _, _, _] C (s_X8_thrown hK) v_X8_thrown vv_X8_thrown s_RL_145 eL_law_2010 (fun _ _ h => WF_pick [0, 1, 2, 3, 4, 5, 6, 7, 8, 9, 10, 11, 12, 13, 14, 15, 16, 17, 18, 19, 20, 21, 22, 23, 24] rfl rfl h) (rcv 0 rfl) rfl (nle rfl) (nle rfl) (by omega) (by omega) rfl ?_
  refine x_iload C eL_law_2013 rfl ?_
  refine x_icmp_val (by first | exact up_s _ _ _ | exact (up_n (by decide)).trans (up_s _ _ _)) 2020 C eL_law_2015 rfl ?_
  refine x_iload C eL_law_2020 rfl ?_
  refine x_if_ne 2037 C eL_law_2022 rfl (by omega) (fun _ => ?_) (fun h => absurd h (by decide))
  refine x_goto (pc' := 2791) C eL_law_2037 rfl ?_
  refine x_pick [_, _, _, _, _, _, _, _, _, _, _, _, _, _, _, _, _, _, _, _, _, _, _, _, _] [3, 4, 6, 7, 8, 9, 10, 11, 12, 13, 14, 15, 16, 17, 0, 1, 18, 19, 20, 2, 21, 22, 23, 5, 24] rfl rfl ?_
  refine x_lv [_, _, _, _, _, _, none, none, _] rfl (lx_drop _ [6, 7] rfl) ?_
  exact x_wide (by omega) (by omega) (K9 (hI.qI (by omega) (up_n (by decide)) (up_n (by decide)) (up_n (by decide)) (up_n (by decide)) (up_n (by decide)) (up_n (by decide))))

set_option maxHeartbeats 4000000 in
set_option maxRecDepth 100000 in
theorem lc_33_2 {G : Gm} {X : Cx} {l : Launch} {x : LFx} {k nn : Nat} {i b : Int} {J : Nat → Int} {M : Pool} {n : Net} {N K : Nat → Net} {Fu Fb : Nat → Int} {w : List Int} {z : Int} {I TL TB : Nat → Int} {N9 : Nat → Net} {f : Nat → Int64} {fD : Nat → UInt64} {a1 a2 a3 : Int} (H : LKn G l x) {nmL : String} (hC : OKc G X l RL nmL cL_law 9 (some .boolean) 1400 600000 6200000) (hI : INV b J M n N K Fu Fb w z I) (hb : b ≤ 15000000) (hk : k + 100 ≤ 600000) (hn : nn + 2200 ≤ 6200000) (hi : 0 ≤ i ∧ i + 6 ≤ (x.L : Int)) (ha1 : (x.xs (i + 1).toNat).toInt = a1) (ha2 : (x.xs (i + 2).toNat).toInt = a2) (ha3 : (x.xs (i + 3).toNat).toInt = a3) (hl : 0 ≤ a1 ∧ a1 < n (-1) 0) (he : a1 = a2) (K9 : LCont G X x (b + 8000) (k + 100) (nn + 2200) i) : WX G X k nn (LAT G x J M n N K Fu Fb w z I TL TB N9 f fD) 1960 (LLV x i) [] := by
  have C := hC
  have hK : KG G := H.hX.1.1.1
  have hH := hI.hN.1.1
  unfold HeadOk at hH
  have r1 : -2147483648 ≤ a1 ∧ a1 < 2147483648 := by rw [← ha1]; exact bI_toInt _
  have r2 : -2147483648 ≤ a2 ∧ a2 < 2147483648 := by rw [← ha2]; exact bI_toInt _
  have r3 : -2147483648 ≤ a3 ∧ a3 < 2147483648 := by rw [← ha3]; exact bI_toInt _
  refine x_aload_n C eL_law_1960 rfl ?_
  refine x_argA C H.hx H.hbl H.hL eL_law_1961 eL_law_1962 eL_law_1964 eL_law_1965 eL_law_1966 rfl rfl (by omega) ha1 ?_
  refine x_argA C H.hx H.hbl H.hL eL_law_1967 eL_law_1968 eL_law_1970 eL_law_1971 eL_law_1972 rfl rfl (by omega) ha2 ?_
  refine x_argA C H.hx H.hbl H.hL eL_law_1973 eL_law_1974 eL_law_1976 eL_law_1977 eL_law_1978 rfl rfl (by omega) ha3 ?_
  refine x_aload_n C eL_law_1979 rfl ?_
  refine x_callSW (As := [_, _, _, _, _]) [_, _, _, _, _, _, _, _, _, _, _, _, _, _, _, _, _, _, _, _, _, _] C (wx_lend_2 hK (t_X7_lend_12 H.hX H.hT0 (by omega) (by omega) (by omega)) (xwd_c (i := 1) H.hX rfl) H.n1 (rcv 0 rfl)) cw_lend s_RL_259 eL_law_1980 rfl (fun _ _ h => WF_pick [0, 1, 23, 2, 3, 4, 5, 6, 7, 8, 9, 10, 11, 12, 13, 14, 15, 16, 17, 18, 19, 20, 21, 22, 24] rfl rfl h) rfl (nle rfl) (nle rfl) (by omega) (by omega) (fun _ _ => ?_)
  refine x_pick [_, _, _, _, _, _, _, _, _, _, _, _, _, _, _, _, _, _, _, _, _, _, _, _, _] [0, 1, 2, 3, 4, 5, 6, 7, 8, 9, 10, 11, 12, 13, 14, 15, 16, 17, 18, 19, 20, 21, 22, 23, 24] rfl rfl ?_
  refine x_istore [_, _, _, _, _, _, _, _, _] C eL_law_1983 rfl rfl (nlt rfl) ?_
  refine x_aload_n C eL_law_1985 rfl ?_
  refine x_argA C H.hx H.hbl H.hL eL_law_1986 eL_law_1987 eL_law_1989 eL_law_1990 eL_law_1991 rfl rfl (by omega) ha1 ?_
  refine x_argA C H.hx H.hbl H.hL eL_law_1992 eL_law_1993 eL_law_1995 eL_law_1996 eL_law_1997 rfl rfl (by omega) ha2 ?_
  refine x_argA C H.hx H.hbl H.hL eL_law_1998 eL_law_1999 eL_law_2001 eL_law_2002 eL_law_2003 rfl rfl (by omega) ha3 ?_
  have c1 : (0 ≤ a1 ∧ a1 ≤ n (-1) 0 - 1) ∧ 0 ≤ a2 ∧ a2 ≤ n (-1) 0 - 1 := by first | trivial | omega | (simp only [if_true, if_false]; omega)
  have c2 : ¬ (¬ a1 = a2 ∧ 1 ≤ a3 ∧ a3 ≤ 99) := by first | omega | (simp only [if_true, if_false]; omega)
  have hM := s_X8_lend (G := G) (l := l) (o := x.o) (A := x.A) (I := I) (N := N9) (n := n) (b := b) (l9 := a1) (o9 := a2) (t9 := a3) (P := N) hK hI.hN.1 (by omega) (by omega) (by omega) (by omega) (by have := hI.e6; have := hI.h6; omega)
  simp only [if_neg (show ¬ (((0 ≤ a1 ∧ a1 ≤ n (-1) 0 - 1) ∧ 0 ≤ a2 ∧ a2 ≤ n (-1) 0 - 1) ∧ (¬ a1 = a2 ∧ 1 ≤ a3 ∧ a3 ≤ 99) ∧ (True)) from fun q => c2 q.2.1), thr_2 c1 c2] at hM
  refine yV3r [_, _, _, _, _, _, _, _, _, _, _, _, _, _, _, _, _, _, _, _, _, _] [_, _, _, _, _, _, _, _, _, _, _, _, _, _, _, _, _, _, _, _, _, _, _, _, _] C hM v_X8_lend vv_X8_lend s_RL_261 eL_law_2004 (fun _ _ h => WF_pick [15, 16, 20, 0, 1, 2, 3, 4, 5, 6, 7, 8, 9, 10, 11, 12, 13, 14, 17, 18, 19, 21, 22, 23, 24] rfl rfl h) (rcv 15 rfl) rfl (nle rfl) (nle rfl) (by omega) (by omega) rfl ?_
  refine x_istore [_, _, _, _, _, _, _, _, _] C eL_law_2007 rfl rfl (nlt rfl) ?_
  refine x_aload_n C eL_law_2009 rfl ?_
  refine yV0r [_, _, _, _, _, _, _, _, _, _, _, _, _, _, _, _, _, _, _, _, _, _, _, _] [_, _, _, _, _, _, _, _, _, _, _, _, _, _, _, _, _, _, _, _, _, _, _, _, _] C (s_X8_thrown hK) v_X8_thrown vv_X8_thrown s_RL_145 eL_law_2010 (fun _ _ h => WF_pick [0, 1, 2, 3, 4, 5, 6, 7, 8, 9, 10, 11, 12, 13, 14, 15, 16, 17, 18, 19, 20, 21, 22, 23, 24] rfl rfl h) (rcv 0 rfl) rfl (nle rfl) (nle rfl) (by omega) (by omega) rfl ?_
  refine x_iload C eL_law_2013 rfl ?_
  refine x_icmp_val (by first | exact up_s _ _ _ | exact (up_n (by decide)).trans (up_s _ _ _)) 2020 C eL_law_2015 rfl ?_
  refine x_iload C eL_law_2020 rfl ?_
  refine x_if_ne 2037 C eL_law_2022 rfl (by omega) (fun _ => ?_) (fun h => absurd h (by decide))
  refine x_goto (pc' := 2791) C eL_law_2037 rfl ?_
  refine x_pick [_, _, _, _, _, _, _, _, _, _, _, _, _, _, _, _, _, _, _, _, _, _, _, _, _] [3, 4, 6, 7, 8, 9, 10, 11, 12, 13, 14, 15, 16, 17, 0, 1, 18, 19, 20, 2, 21, 22, 23, 5, 24] rfl rfl ?_
  refine x_lv [_, _, _, _, _, _, none, none, _] rfl (lx_drop _ [6, 7] rfl) ?_
  exact x_wide (by omega) (by omega) (K9 (hI.qI (by omega) (up_n (by decide)) (up_n (by decide)) (up_n (by decide)) (up_n (by decide)) (up_n (by decide)) (up_n (by decide))))

set_option maxHeartbeats 4000000 in
set_option maxRecDepth 100000 in
theorem lc_33_2b {G : Gm} {X : Cx} {l : Launch} {x : LFx} {k nn : Nat} {i b : Int} {J : Nat → Int} {M : Pool} {n : Net} {N K : Nat → Net} {Fu Fb : Nat → Int} {w : List Int} {z : Int} {I TL TB : Nat → Int} {N9 : Nat → Net} {f : Nat → Int64} {fD : Nat → UInt64} {a1 a2 a3 : Int} (H : LKn G l x) {nmL : String} (hC : OKc G X l RL nmL cL_law 9 (some .boolean) 1400 600000 6200000) (hI : INV b J M n N K Fu Fb w z I) (hb : b ≤ 15000000) (hk : k + 100 ≤ 600000) (hn : nn + 2200 ≤ 6200000) (hi : 0 ≤ i ∧ i + 6 ≤ (x.L : Int)) (ha1 : (x.xs (i + 1).toNat).toInt = a1) (ha2 : (x.xs (i + 2).toNat).toInt = a2) (ha3 : (x.xs (i + 3).toNat).toInt = a3) (hl : 0 ≤ a1 ∧ a1 < n (-1) 0) (ho : 0 ≤ a2 ∧ a2 < n (-1) 0) (hne : ¬ a1 = a2) (ht : ¬ (1 ≤ a3 ∧ a3 ≤ 99)) (K9 : LCont G X x (b + 8000) (k + 100) (nn + 2200) i) : WX G X k nn (LAT G x J M n N K Fu Fb w z I TL TB N9 f fD) 1960 (LLV x i) [] := by
  have C := hC
  have hK : KG G := H.hX.1.1.1
  have hH := hI.hN.1.1
  unfold HeadOk at hH
  have r1 : -2147483648 ≤ a1 ∧ a1 < 2147483648 := by rw [← ha1]; exact bI_toInt _
  have r2 : -2147483648 ≤ a2 ∧ a2 < 2147483648 := by rw [← ha2]; exact bI_toInt _
  have r3 : -2147483648 ≤ a3 ∧ a3 < 2147483648 := by rw [← ha3]; exact bI_toInt _
  refine x_aload_n C eL_law_1960 rfl ?_
  refine x_argA C H.hx H.hbl H.hL eL_law_1961 eL_law_1962 eL_law_1964 eL_law_1965 eL_law_1966 rfl rfl (by omega) ha1 ?_
  refine x_argA C H.hx H.hbl H.hL eL_law_1967 eL_law_1968 eL_law_1970 eL_law_1971 eL_law_1972 rfl rfl (by omega) ha2 ?_
  refine x_argA C H.hx H.hbl H.hL eL_law_1973 eL_law_1974 eL_law_1976 eL_law_1977 eL_law_1978 rfl rfl (by omega) ha3 ?_
  refine x_aload_n C eL_law_1979 rfl ?_
  refine x_callSW (As := [_, _, _, _, _]) [_, _, _, _, _, _, _, _, _, _, _, _, _, _, _, _, _, _, _, _, _, _] C (wx_lend_2 hK (t_X7_lend_19 H.hX H.hT0 (by omega) (by omega) (by omega) (by omega) (by omega) (by omega)) (xwd_c (i := 1) H.hX rfl) H.n1 (rcv 0 rfl)) cw_lend s_RL_259 eL_law_1980 rfl (fun _ _ h => WF_pick [0, 1, 23, 2, 3, 4, 5, 6, 7, 8, 9, 10, 11, 12, 13, 14, 15, 16, 17, 18, 19, 20, 21, 22, 24] rfl rfl h) rfl (nle rfl) (nle rfl) (by omega) (by omega) (fun _ _ => ?_)
  refine x_pick [_, _, _, _, _, _, _, _, _, _, _, _, _, _, _, _, _, _, _, _, _, _, _, _, _] [0, 1, 2, 3, 4, 5, 6, 7, 8, 9, 10, 11, 12, 13, 14, 15, 16, 17, 18, 19, 20, 21, 22, 23, 24] rfl rfl ?_
  refine x_istore [_, _, _, _, _, _, _, _, _] C eL_law_1983 rfl rfl (nlt rfl) ?_
  refine x_aload_n C eL_law_1985 rfl ?_
  refine x_argA C H.hx H.hbl H.hL eL_law_1986 eL_law_1987 eL_law_1989 eL_law_1990 eL_law_1991 rfl rfl (by omega) ha1 ?_
  refine x_argA C H.hx H.hbl H.hL eL_law_1992 eL_law_1993 eL_law_1995 eL_law_1996 eL_law_1997 rfl rfl (by omega) ha2 ?_
  refine x_argA C H.hx H.hbl H.hL eL_law_1998 eL_law_1999 eL_law_2001 eL_law_2002 eL_law_2003 rfl rfl (by omega) ha3 ?_
  have c1 : (0 ≤ a1 ∧ a1 ≤ n (-1) 0 - 1) ∧ 0 ≤ a2 ∧ a2 ≤ n (-1) 0 - 1 := by first | trivial | omega | (simp only [if_true, if_false]; omega)
  have c2 : ¬ (¬ a1 = a2 ∧ 1 ≤ a3 ∧ a3 ≤ 99) := by first | omega | (simp only [if_true, if_false]; omega)
  have hM := s_X8_lend (G := G) (l := l) (o := x.o) (A := x.A) (I := I) (N := N9) (n := n) (b := b) (l9 := a1) (o9 := a2) (t9 := a3) (P := N) hK hI.hN.1 (by omega) (by omega) (by omega) (by omega) (by have := hI.e6; have := hI.h6; omega)
  simp only [if_neg (show ¬ (((0 ≤ a1 ∧ a1 ≤ n (-1) 0 - 1) ∧ 0 ≤ a2 ∧ a2 ≤ n (-1) 0 - 1) ∧ (¬ a1 = a2 ∧ 1 ≤ a3 ∧ a3 ≤ 99) ∧ (True)) from fun q => c2 q.2.1), thr_2 c1 c2] at hM
  refine yV3r [_, _, _, _, _, _, _, _, _, _, _, _, _, _, _, _, _, _, _, _, _, _] [_, _, _, _, _, _, _, _, _, _, _, _, _, _, _, _, _, _, _, _, _, _, _, _, _] C hM v_X8_lend vv_X8_lend s_RL_261 eL_law_2004 (fun _ _ h => WF_pick [15, 16, 20, 0, 1, 2, 3, 4, 5, 6, 7, 8, 9, 10, 11, 12, 13, 14, 17, 18, 19, 21, 22, 23, 24] rfl rfl h) (rcv 15 rfl) rfl (nle rfl) (nle rfl) (by omega) (by omega) rfl ?_
  refine x_istore [_, _, _, _, _, _, _, _, _] C eL_law_2007 rfl rfl (nlt rfl) ?_
  refine x_aload_n C eL_law_2009 rfl ?_
  refine yV0r [_, _, _, _, _, _, _, _, _, _, _, _, _, _, _, _, _, _, _, _, _, _, _, _] [_, _, _, _, _, _, _, _, _, _, _, _, _, _, _, _, _, _, _, _, _, _, _, _, _] C (s_X8_thrown hK) v_X8_thrown vv_X8_thrown s_RL_145 eL_law_2010 (fun _ _ h => WF_pick [0, 1, 2, 3, 4, 5, 6, 7, 8, 9, 10, 11, 12, 13, 14, 15, 16, 17, 18, 19, 20, 21, 22, 23, 24] rfl rfl h) (rcv 0 rfl) rfl (nle rfl) (nle rfl) (by omega) (by omega) rfl ?_
  refine x_iload C eL_law_2013 rfl ?_
  refine x_icmp_val (by first | exact up_s _ _ _ | exact (up_n (by decide)).trans (up_s _ _ _)) 2020 C eL_law_2015 rfl ?_
  refine x_iload C eL_law_2020 rfl ?_
  refine x_if_ne 2037 C eL_law_2022 rfl (by omega) (fun _ => ?_) (fun h => absurd h (by decide))
  refine x_goto (pc' := 2791) C eL_law_2037 rfl ?_
  refine x_pick [_, _, _, _, _, _, _, _, _, _, _, _, _, _, _, _, _, _, _, _, _, _, _, _, _] [3, 4, 6, 7, 8, 9, 10, 11, 12, 13, 14, 15, 16, 17, 0, 1, 18, 19, 20, 2, 21, 22, 23, 5, 24] rfl rfl ?_
  refine x_lv [_, _, _, _, _, _, none, none, _] rfl (lx_drop _ [6, 7] rfl) ?_
  exact x_wide (by omega) (by omega) (K9 (hI.qI (by omega) (up_n (by decide)) (up_n (by decide)) (up_n (by decide)) (up_n (by decide)) (up_n (by decide)) (up_n (by decide))))

set_option maxHeartbeats 4000000 in
set_option maxRecDepth 100000 in
theorem lc_34_0 {G : Gm} {X : Cx} {l : Launch} {x : LFx} {k nn : Nat} {i b : Int} {J : Nat → Int} {M : Pool} {n : Net} {N K : Nat → Net} {Fu Fb : Nat → Int} {w : List Int} {z : Int} {I TL TB : Nat → Int} {N9 : Nat → Net} {f : Nat → Int64} {fD : Nat → UInt64} {a1 : Int} (H : LKn G l x) {nmL : String} (hC : OKc G X l RL nmL cL_law 9 (some .boolean) 1400 600000 6200000) (hI : INV b J M n N K Fu Fb w z I) (hb : b ≤ 15000000) (hk : k + 100 ≤ 600000) (hn : nn + 2200 ≤ 6200000) (hi : 0 ≤ i ∧ i + 6 ≤ (x.L : Int)) (ha1 : (x.xs (i + 1).toNat).toInt = a1) (hl : 0 ≤ a1 ∧ a1 < n (-1) 0) (K9 : LCont G X x (b + 8000) (k + 100) (nn + 2200) i) : WX G X k nn (LAT G x J M n N K Fu Fb w z I TL TB N9 f fD) 2040 (LLV x i) [] := by
  have C := hC
  have hK : KG G := H.hX.1.1.1
  have hH := hI.hN.1.1
  unfold HeadOk at hH
  have r1 : -2147483648 ≤ a1 ∧ a1 < 2147483648 := by rw [← ha1]; exact bI_toInt _
  refine x_aload_n C eL_law_2040 rfl ?_
  refine x_argA C H.hx H.hbl H.hL eL_law_2041 eL_law_2042 eL_law_2044 eL_law_2045 eL_law_2046 rfl rfl (by omega) ha1 ?_
  refine x_aload_n C eL_law_2047 rfl ?_
  refine x_callSW (As := [_, _, _]) [_, _, _, _, _, _, _, _, _, _, _, _, _, _, _, _, _, _] C (wn_recall hK (s_X7_recall hK hI.hN.1 (by omega) hI.h6 H.hX.1 (by omega)) (rcv 0 rfl)) cw_recall s_RL_262 eL_law_2048 rfl (fun _ _ h => WF_pick [0, 1, 2, 3, 4, 12, 23, 5, 6, 7, 8, 9, 10, 11, 13, 14, 15, 16, 17, 18, 19, 20, 21, 22, 24] rfl rfl h) rfl (nle rfl) (nle rfl) (by omega) (by omega) (fun _ _ => ?_)
  refine x_pick [_, _, _, _, _, _, _, _, _, _, _, _, _, _, _, _, _, _, _, _, _, _, _, _, _] [0, 1, 2, 3, 4, 5, 6, 7, 8, 9, 10, 11, 12, 13, 14, 15, 16, 17, 18, 19, 20, 21, 22, 23, 24] rfl rfl ?_
  refine x_istore [_, _, _, _, _, _, _, _, _] C eL_law_2051 rfl rfl (nlt rfl) ?_
  refine x_aload_n C eL_law_2053 rfl ?_
  refine x_argA C H.hx H.hbl H.hL eL_law_2054 eL_law_2055 eL_law_2057 eL_law_2058 eL_law_2059 rfl rfl (by omega) ha1 ?_
  have c1 : 0 ≤ a1 ∧ a1 ≤ n (-1) 0 - 1 := by first | trivial | omega | (simp only [if_true, if_false]; omega)
  have c2 : True := by first | trivial | omega | (simp only [if_true, if_false]; omega)
  have c3 : True := by first | trivial | omega | (simp only [if_true, if_false]; omega)
  have hM := s_X8_recall (G := G) (l := l) (o := x.o) (A := x.A) (I := I) (N := N9) (n := n) (b := b) (l9 := a1) (P := N) hK hI.hN.1 (by omega) (by omega) (by have := hI.e6; have := hI.h6; omega)
  simp only [if_pos (show (0 ≤ a1 ∧ a1 ≤ n (-1) 0 - 1) ∧ (True) ∧ (True) from ⟨c1, c2, c3⟩), thr_0 c1 c2 c3] at hM
  simp only [hI.e6] at hM
  refine yV1r [_, _, _, _, _, _, _, _, _, _, _, _, _, _, _, _, _, _, _, _, _, _] [_, _, _, _, _, _, _, _, _, _, _, _, _, _, _, _, _, _, _, _, _, _, _, _, _] C hM v_X8_recall vv_X8_recall s_RL_264 eL_law_2060 (fun _ _ h => WF_pick [15, 16, 20, 0, 1, 2, 3, 4, 5, 6, 7, 8, 9, 10, 11, 12, 13, 14, 17, 18, 19, 21, 22, 23, 24] rfl rfl h) (rcv 15 rfl) rfl (nle rfl) (nle rfl) (by omega) (by omega) rfl ?_
  refine x_istore [_, _, _, _, _, _, _, _, _] C eL_law_2063 rfl rfl (nlt rfl) ?_
  refine x_aload_n C eL_law_2065 rfl ?_
  refine yV0r [_, _, _, _, _, _, _, _, _, _, _, _, _, _, _, _, _, _, _, _, _, _, _, _] [_, _, _, _, _, _, _, _, _, _, _, _, _, _, _, _, _, _, _, _, _, _, _, _, _] C (s_X8_thrown hK) v_X8_thrown vv_X8_thrown s_RL_145 eL_law_2066 (fun _ _ h => WF_pick [0, 1, 2, 3, 4, 5, 6, 7, 8, 9, 10, 11, 12, 13, 14, 15, 16, 17, 18, 19, 20, 21, 22, 23, 24] rfl rfl h) (rcv 0 rfl) rfl (nle rfl) (nle rfl) (by omega) (by omega) rfl ?_
  refine x_iload C eL_law_2069 rfl ?_
  refine x_icmp_val (by first | exact up_s _ _ _ | exact (up_n (by decide)).trans (up_s _ _ _)) 2076 C eL_law_2071 rfl ?_
  refine x_iload C eL_law_2076 rfl ?_
  refine x_if_ne 2093 C eL_law_2078 rfl (by omega) (fun h => absurd rfl h) (fun _ => ?_)
  refine x_aload_n C eL_law_2081 rfl ?_
  refine x_iconst C eL_law_2082 ?_
  refine x_lald (N := 1) 9 C eL_law_2083 rfl (by decide) (by omega) ?_
  refine x_iload C eL_law_2084 rfl ?_
  refine x_i2lR C eL_law_2086 ?_
  refine x_lcmp_same 2093 (by first | exact if_pos rfl | (rw [if_pos rfl]; rfl) | decide) C eL_law_2087 eL_law_2088 rfl ?_
  refine x_goto (pc' := 2791) C eL_law_2093 rfl ?_
  refine x_pick [_, _, _, _, _, _, _, _, _, _, _, _, _, _, _, _, _, _, _, _, _, _, _, _, _] [3, 4, 5, 6, 7, 10, 11, 12, 13, 14, 15, 16, 8, 17, 0, 1, 18, 19, 20, 2, 21, 22, 23, 9, 24] rfl rfl ?_
  refine x_lv [_, _, _, _, _, _, none, none, _] rfl (lx_drop _ [6, 7] rfl) ?_
  exact x_wide (by omega) (by omega) (K9 (hI.chg (by omega) ((GOK_ub hI.hN hl (by omega)).mono (by omega)) (up_s _ _ _) ((up_n (by decide)).trans (up_n (by decide))) ((up_n (by decide)).trans (up_n (by decide))) ((up_n (by decide)).trans (up_n (by decide))) ((up_n (by decide)).trans (up_n (by decide))) ((up_n (by decide)).trans (up_n (by decide)))))

set_option maxHeartbeats 4000000 in
set_option maxRecDepth 100000 in
theorem lc_34_1 {G : Gm} {X : Cx} {l : Launch} {x : LFx} {k nn : Nat} {i b : Int} {J : Nat → Int} {M : Pool} {n : Net} {N K : Nat → Net} {Fu Fb : Nat → Int} {w : List Int} {z : Int} {I TL TB : Nat → Int} {N9 : Nat → Net} {f : Nat → Int64} {fD : Nat → UInt64} {a1 : Int} (H : LKn G l x) {nmL : String} (hC : OKc G X l RL nmL cL_law 9 (some .boolean) 1400 600000 6200000) (hI : INV b J M n N K Fu Fb w z I) (hb : b ≤ 15000000) (hk : k + 100 ≤ 600000) (hn : nn + 2200 ≤ 6200000) (hi : 0 ≤ i ∧ i + 6 ≤ (x.L : Int)) (ha1 : (x.xs (i + 1).toNat).toInt = a1) (hl : ¬ (0 ≤ a1 ∧ a1 < n (-1) 0)) (K9 : LCont G X x (b + 8000) (k + 100) (nn + 2200) i) : WX G X k nn (LAT G x J M n N K Fu Fb w z I TL TB N9 f fD) 2040 (LLV x i) [] := by
  have C := hC
  have hK : KG G := H.hX.1.1.1
  have hH := hI.hN.1.1
  unfold HeadOk at hH
  have r1 : -2147483648 ≤ a1 ∧ a1 < 2147483648 := by rw [← ha1]; exact bI_toInt _
  refine x_aload_n C eL_law_2040 rfl ?_
  refine x_argA C H.hx H.hbl H.hL eL_law_2041 eL_law_2042 eL_law_2044 eL_law_2045 eL_law_2046 rfl rfl (by omega) ha1 ?_
  refine x_aload_n C eL_law_2047 rfl ?_
  refine x_callSW (As := [_, _, _]) [_, _, _, _, _, _, _, _, _, _, _, _, _, _, _, _, _, _, _, _, _, _] C (wx_recall_1 hK (t_X7_recall_2 H.hX H.hT0 (by omega) (by omega) (by omega)) (xwd_c (i := 0) H.hX rfl) (rcv 0 rfl)) cw_recall s_RL_262 eL_law_2048 rfl (fun _ _ h => WF_pick [0, 1, 23, 2, 3, 4, 5, 6, 7, 8, 9, 10, 11, 12, 13, 14, 15, 16, 17, 18, 19, 20, 21, 22, 24] rfl rfl h) rfl (nle rfl) (nle rfl) (by omega) (by omega) (fun _ _ => ?_)
  refine x_pick [_, _, _, _, _, _, _, _, _, _, _, _, _, _, _, _, _, _, _, _, _, _, _, _, _] [0, 1, 2, 3, 4, 5, 6, 7, 8, 9, 10, 11, 12, 13, 14, 15, 16, 17, 18, 19, 20, 21, 22, 23, 24] rfl rfl ?_
  refine x_istore [_, _, _, _, _, _, _, _, _] C eL_law_2051 rfl rfl (nlt rfl) ?_
  refine x_aload_n C eL_law_2053 rfl ?_
  refine x_argA C H.hx H.hbl H.hL eL_law_2054 eL_law_2055 eL_law_2057 eL_law_2058 eL_law_2059 rfl rfl (by omega) ha1 ?_
  have c1 : ¬ (0 ≤ a1 ∧ a1 ≤ n (-1) 0 - 1) := by first | omega | (simp only [if_true, if_false]; omega)
  have hM := s_X8_recall (G := G) (l := l) (o := x.o) (A := x.A) (I := I) (N := N9) (n := n) (b := b) (l9 := a1) (P := N) hK hI.hN.1 (by omega) (by omega) (by have := hI.e6; have := hI.h6; omega)
  simp only [if_neg (show ¬ ((0 ≤ a1 ∧ a1 ≤ n (-1) 0 - 1) ∧ (True) ∧ (True)) from fun q => c1 q.1), thr_1 c1] at hM
  refine yV1r [_, _, _, _, _, _, _, _, _, _, _, _, _, _, _, _, _, _, _, _, _, _] [_, _, _, _, _, _, _, _, _, _, _, _, _, _, _, _, _, _, _, _, _, _, _, _, _] C hM v_X8_recall vv_X8_recall s_RL_264 eL_law_2060 (fun _ _ h => WF_pick [15, 16, 20, 0, 1, 2, 3, 4, 5, 6, 7, 8, 9, 10, 11, 12, 13, 14, 17, 18, 19, 21, 22, 23, 24] rfl rfl h) (rcv 15 rfl) rfl (nle rfl) (nle rfl) (by omega) (by omega) rfl ?_
  refine x_istore [_, _, _, _, _, _, _, _, _] C eL_law_2063 rfl rfl (nlt rfl) ?_
  refine x_aload_n C eL_law_2065 rfl ?_
  refine yV0r [_, _, _, _, _, _, _, _, _, _, _, _, _, _, _, _, _, _, _, _, _, _, _, _] [_, _, _, _, _, _, _, _, _, _, _, _, _, _, _, _, _, _, _, _, _, _, _, _, _] C (s_X8_thrown hK) v_X8_thrown vv_X8_thrown s_RL_145 eL_law_2066 (fun _ _ h => WF_pick [0, 1, 2, 3, 4, 5, 6, 7, 8, 9, 10, 11, 12, 13, 14, 15, 16, 17, 18, 19, 20, 21, 22, 23, 24] rfl rfl h) (rcv 0 rfl) rfl (nle rfl) (nle rfl) (by omega) (by omega) rfl ?_
  refine x_iload C eL_law_2069 rfl ?_
  refine x_icmp_val (by first | exact up_s _ _ _ | exact (up_n (by decide)).trans (up_s _ _ _)) 2076 C eL_law_2071 rfl ?_
  refine x_iload C eL_law_2076 rfl ?_
  refine x_if_ne 2093 C eL_law_2078 rfl (by omega) (fun _ => ?_) (fun h => absurd h (by decide))
  refine x_goto (pc' := 2791) C eL_law_2093 rfl ?_
  refine x_pick [_, _, _, _, _, _, _, _, _, _, _, _, _, _, _, _, _, _, _, _, _, _, _, _, _] [3, 4, 6, 7, 8, 9, 10, 11, 12, 13, 14, 15, 16, 17, 0, 1, 18, 19, 20, 2, 21, 22, 23, 5, 24] rfl rfl ?_
  refine x_lv [_, _, _, _, _, _, none, none, _] rfl (lx_drop _ [6, 7] rfl) ?_
  exact x_wide (by omega) (by omega) (K9 (hI.qI (by omega) (up_n (by decide)) (up_n (by decide)) (up_n (by decide)) (up_n (by decide)) (up_n (by decide)) (up_n (by decide))))

set_option maxHeartbeats 4000000 in
set_option maxRecDepth 100000 in
theorem lc_35_0 {G : Gm} {X : Cx} {l : Launch} {x : LFx} {k nn : Nat} {i b : Int} {J : Nat → Int} {M : Pool} {n : Net} {N K : Nat → Net} {Fu Fb : Nat → Int} {w : List Int} {z : Int} {I TL TB : Nat → Int} {N9 : Nat → Net} {f : Nat → Int64} {fD : Nat → UInt64} {a1 a2 : Int} (H : LKn G l x) {nmL : String} (hC : OKc G X l RL nmL cL_law 9 (some .boolean) 1400 600000 6200000) (hI : INV b J M n N K Fu Fb w z I) (hb : b ≤ 15000000) (hk : k + 100 ≤ 600000) (hn : nn + 2200 ≤ 6200000) (hi : 0 ≤ i ∧ i + 6 ≤ (x.L : Int)) (ha1 : (x.xs (i + 1).toNat).toInt = a1) (ha2 : (x.xs (i + 2).toNat).toInt = a2) (hl : 0 ≤ a1 ∧ a1 < n (-1) 0) (ht : 1 ≤ a2 ∧ a2 ≤ 50) (K9 : LCont G X x (b + 8000) (k + 100) (nn + 2200) i) : WX G X k nn (LAT G x J M n N K Fu Fb w z I TL TB N9 f fD) 2096 (LLV x i) [] := by
  have C := hC
  have hK : KG G := H.hX.1.1.1
  have hH := hI.hN.1.1
  unfold HeadOk at hH
  have r1 : -2147483648 ≤ a1 ∧ a1 < 2147483648 := by rw [← ha1]; exact bI_toInt _
  have r2 : -2147483648 ≤ a2 ∧ a2 < 2147483648 := by rw [← ha2]; exact bI_toInt _
  refine x_aload_n C eL_law_2096 rfl ?_
  refine x_argA C H.hx H.hbl H.hL eL_law_2097 eL_law_2098 eL_law_2100 eL_law_2101 eL_law_2102 rfl rfl (by omega) ha1 ?_
  refine x_argA C H.hx H.hbl H.hL eL_law_2103 eL_law_2104 eL_law_2106 eL_law_2107 eL_law_2108 rfl rfl (by omega) ha2 ?_
  refine x_aload_n C eL_law_2109 rfl ?_
  refine x_callSW (As := [_, _, _, _]) [_, _, _, _, _, _, _, _, _, _, _, _, _, _, _, _, _, _] C (wn_breakLine hK (s_X7_breakLine hK hI.hN.1 (by omega) hI.h6 H.hX.1 (by omega) (by omega)) (rcv 0 rfl)) cw_breakLine s_RL_265 eL_law_2110 rfl (fun _ _ h => WF_pick [0, 1, 2, 3, 4, 12, 23, 5, 6, 7, 8, 9, 10, 11, 13, 14, 15, 16, 17, 18, 19, 20, 21, 22, 24] rfl rfl h) rfl (nle rfl) (nle rfl) (by omega) (by omega) (fun _ _ => ?_)
  refine x_pick [_, _, _, _, _, _, _, _, _, _, _, _, _, _, _, _, _, _, _, _, _, _, _, _, _] [0, 1, 2, 3, 4, 5, 6, 7, 8, 9, 10, 11, 12, 13, 14, 15, 16, 17, 18, 19, 20, 21, 22, 23, 24] rfl rfl ?_
  refine x_istore [_, _, _, _, _, _, _, _, _] C eL_law_2113 rfl rfl (nlt rfl) ?_
  refine x_aload_n C eL_law_2115 rfl ?_
  refine x_argA C H.hx H.hbl H.hL eL_law_2116 eL_law_2117 eL_law_2119 eL_law_2120 eL_law_2121 rfl rfl (by omega) ha1 ?_
  refine x_argA C H.hx H.hbl H.hL eL_law_2122 eL_law_2123 eL_law_2125 eL_law_2126 eL_law_2127 rfl rfl (by omega) ha2 ?_
  have c1 : 0 ≤ a1 ∧ a1 ≤ n (-1) 0 - 1 := by first | trivial | omega | (simp only [if_true, if_false]; omega)
  have c2 : 1 ≤ a2 ∧ a2 ≤ 50 := by first | trivial | omega | (simp only [if_true, if_false]; omega)
  have c3 : True := by first | trivial | omega | (simp only [if_true, if_false]; omega)
  have hM := s_X8_breakLine (G := G) (l := l) (o := x.o) (A := x.A) (I := I) (N := N9) (n := n) (b := b) (l9 := a1) (t9 := a2) (P := N) hK hI.hN.1 (by omega) (by omega) (by omega) (by have := hI.e6; have := hI.h6; omega)
  simp only [if_pos (show (0 ≤ a1 ∧ a1 ≤ n (-1) 0 - 1) ∧ (1 ≤ a2 ∧ a2 ≤ 50) ∧ (True) from ⟨c1, c2, c3⟩), thr_0 c1 c2 c3] at hM
  simp only [hI.e6] at hM
  refine yV2r [_, _, _, _, _, _, _, _, _, _, _, _, _, _, _, _, _, _, _, _, _, _] [_, _, _, _, _, _, _, _, _, _, _, _, _, _, _, _, _, _, _, _, _, _, _, _, _] C hM v_X8_breakLine vv_X8_breakLine s_RL_267 eL_law_2128 (fun _ _ h => WF_pick [15, 16, 20, 0, 1, 2, 3, 4, 5, 6, 7, 8, 9, 10, 11, 12, 13, 14, 17, 18, 19, 21, 22, 23, 24] rfl rfl h) (rcv 15 rfl) rfl (nle rfl) (nle rfl) (by omega) (by omega) rfl ?_
  refine x_istore [_, _, _, _, _, _, _, _, _] C eL_law_2131 rfl rfl (nlt rfl) ?_
  refine x_aload_n C eL_law_2133 rfl ?_
  refine yV0r [_, _, _, _, _, _, _, _, _, _, _, _, _, _, _, _, _, _, _, _, _, _, _, _] [_, _, _, _, _, _, _, _, _, _, _, _, _, _, _, _, _, _, _, _, _, _, _, _, _] C (s_X8_thrown hK) v_X8_thrown vv_X8_thrown s_RL_145 eL_law_2134 (fun _ _ h => WF_pick [0, 1, 2, 3, 4, 5, 6, 7, 8, 9, 10, 11, 12, 13, 14, 15, 16, 17, 18, 19, 20, 21, 22, 23, 24] rfl rfl h) (rcv 0 rfl) rfl (nle rfl) (nle rfl) (by omega) (by omega) rfl ?_
  refine x_iload C eL_law_2137 rfl ?_
  refine x_icmp_val (by first | exact up_s _ _ _ | exact (up_n (by decide)).trans (up_s _ _ _)) 2144 C eL_law_2139 rfl ?_
  refine x_iload C eL_law_2144 rfl ?_
  refine x_if_ne 2161 C eL_law_2146 rfl (by omega) (fun h => absurd rfl h) (fun _ => ?_)
  refine x_aload_n C eL_law_2149 rfl ?_
  refine x_iconst C eL_law_2150 ?_
  refine x_lald (N := 1) 9 C eL_law_2151 rfl (by decide) (by omega) ?_
  refine x_iload C eL_law_2152 rfl ?_
  refine x_i2lR C eL_law_2154 ?_
  refine x_lcmp_same 2161 (by first | exact if_pos rfl | (rw [if_pos rfl]; rfl) | decide) C eL_law_2155 eL_law_2156 rfl ?_
  refine x_goto (pc' := 2791) C eL_law_2161 rfl ?_
  refine x_pick [_, _, _, _, _, _, _, _, _, _, _, _, _, _, _, _, _, _, _, _, _, _, _, _, _] [3, 4, 5, 6, 7, 10, 11, 12, 13, 14, 15, 16, 8, 17, 0, 1, 18, 19, 20, 2, 21, 22, 23, 9, 24] rfl rfl ?_
  refine x_lv [_, _, _, _, _, _, none, none, _] rfl (lx_drop _ [6, 7] rfl) ?_
  exact x_wide (by omega) (by omega) (K9 (hI.chg (by omega) ((GOK_break hI.hN hl (by omega)).mono (by omega)) (up_s _ _ _) ((up_n (by decide)).trans (up_n (by decide))) ((up_n (by decide)).trans (up_n (by decide))) ((up_n (by decide)).trans (up_n (by decide))) ((up_n (by decide)).trans (up_n (by decide))) ((up_n (by decide)).trans (up_n (by decide)))))

set_option maxHeartbeats 4000000 in
set_option maxRecDepth 100000 in
theorem lc_35_1 {G : Gm} {X : Cx} {l : Launch} {x : LFx} {k nn : Nat} {i b : Int} {J : Nat → Int} {M : Pool} {n : Net} {N K : Nat → Net} {Fu Fb : Nat → Int} {w : List Int} {z : Int} {I TL TB : Nat → Int} {N9 : Nat → Net} {f : Nat → Int64} {fD : Nat → UInt64} {a1 a2 : Int} (H : LKn G l x) {nmL : String} (hC : OKc G X l RL nmL cL_law 9 (some .boolean) 1400 600000 6200000) (hI : INV b J M n N K Fu Fb w z I) (hb : b ≤ 15000000) (hk : k + 100 ≤ 600000) (hn : nn + 2200 ≤ 6200000) (hi : 0 ≤ i ∧ i + 6 ≤ (x.L : Int)) (ha1 : (x.xs (i + 1).toNat).toInt = a1) (ha2 : (x.xs (i + 2).toNat).toInt = a2) (hl : ¬ (0 ≤ a1 ∧ a1 < n (-1) 0)) (K9 : LCont G X x (b + 8000) (k + 100) (nn + 2200) i) : WX G X k nn (LAT G x J M n N K Fu Fb w z I TL TB N9 f fD) 2096 (LLV x i) [] := by
  have C := hC
  have hK : KG G := H.hX.1.1.1
  have hH := hI.hN.1.1
  unfold HeadOk at hH
  have r1 : -2147483648 ≤ a1 ∧ a1 < 2147483648 := by rw [← ha1]; exact bI_toInt _
  have r2 : -2147483648 ≤ a2 ∧ a2 < 2147483648 := by rw [← ha2]; exact bI_toInt _
  refine x_aload_n C eL_law_2096 rfl ?_
  refine x_argA C H.hx H.hbl H.hL eL_law_2097 eL_law_2098 eL_law_2100 eL_law_2101 eL_law_2102 rfl rfl (by omega) ha1 ?_
  refine x_argA C H.hx H.hbl H.hL eL_law_2103 eL_law_2104 eL_law_2106 eL_law_2107 eL_law_2108 rfl rfl (by omega) ha2 ?_
  refine x_aload_n C eL_law_2109 rfl ?_
  refine x_callSW (As := [_, _, _, _]) [_, _, _, _, _, _, _, _, _, _, _, _, _, _, _, _, _, _, _, _, _, _] C (wx_breakLine_1 hK (t_X7_breakLine_2 H.hX H.hT0 (by omega) (by omega) (by omega)) (xwd_c (i := 0) H.hX rfl) (rcv 0 rfl)) cw_breakLine s_RL_265 eL_law_2110 rfl (fun _ _ h => WF_pick [0, 1, 23, 2, 3, 4, 5, 6, 7, 8, 9, 10, 11, 12, 13, 14, 15, 16, 17, 18, 19, 20, 21, 22, 24] rfl rfl h) rfl (nle rfl) (nle rfl) (by omega) (by omega) (fun _ _ => ?_)
  refine x_pick [_, _, _, _, _, _, _, _, _, _, _, _, _, _, _, _, _, _, _, _, _, _, _, _, _] [0, 1, 2, 3, 4, 5, 6, 7, 8, 9, 10, 11, 12, 13, 14, 15, 16, 17, 18, 19, 20, 21, 22, 23, 24] rfl rfl ?_
  refine x_istore [_, _, _, _, _, _, _, _, _] C eL_law_2113 rfl rfl (nlt rfl) ?_
  refine x_aload_n C eL_law_2115 rfl ?_
  refine x_argA C H.hx H.hbl H.hL eL_law_2116 eL_law_2117 eL_law_2119 eL_law_2120 eL_law_2121 rfl rfl (by omega) ha1 ?_
  refine x_argA C H.hx H.hbl H.hL eL_law_2122 eL_law_2123 eL_law_2125 eL_law_2126 eL_law_2127 rfl rfl (by omega) ha2 ?_
  have c1 : ¬ (0 ≤ a1 ∧ a1 ≤ n (-1) 0 - 1) := by first | omega | (simp only [if_true, if_false]; omega)
  have hM := s_X8_breakLine (G := G) (l := l) (o := x.o) (A := x.A) (I := I) (N := N9) (n := n) (b := b) (l9 := a1) (t9 := a2) (P := N) hK hI.hN.1 (by omega) (by omega) (by omega) (by have := hI.e6; have := hI.h6; omega)
  simp only [if_neg (show ¬ ((0 ≤ a1 ∧ a1 ≤ n (-1) 0 - 1) ∧ (1 ≤ a2 ∧ a2 ≤ 50) ∧ (True)) from fun q => c1 q.1), thr_1 c1] at hM
  refine yV2r [_, _, _, _, _, _, _, _, _, _, _, _, _, _, _, _, _, _, _, _, _, _] [_, _, _, _, _, _, _, _, _, _, _, _, _, _, _, _, _, _, _, _, _, _, _, _, _] C hM v_X8_breakLine vv_X8_breakLine s_RL_267 eL_law_2128 (fun _ _ h => WF_pick [15, 16, 20, 0, 1, 2, 3, 4, 5, 6, 7, 8, 9, 10, 11, 12, 13, 14, 17, 18, 19, 21, 22, 23, 24] rfl rfl h) (rcv 15 rfl) rfl (nle rfl) (nle rfl) (by omega) (by omega) rfl ?_
  refine x_istore [_, _, _, _, _, _, _, _, _] C eL_law_2131 rfl rfl (nlt rfl) ?_
  refine x_aload_n C eL_law_2133 rfl ?_
  refine yV0r [_, _, _, _, _, _, _, _, _, _, _, _, _, _, _, _, _, _, _, _, _, _, _, _] [_, _, _, _, _, _, _, _, _, _, _, _, _, _, _, _, _, _, _, _, _, _, _, _, _] C (s_X8_thrown hK) v_X8_thrown vv_X8_thrown s_RL_145 eL_law_2134 (fun _ _ h => WF_pick [0, 1, 2, 3, 4, 5, 6, 7, 8, 9, 10, 11, 12, 13, 14, 15, 16, 17, 18, 19, 20, 21, 22, 23, 24] rfl rfl h) (rcv 0 rfl) rfl (nle rfl) (nle rfl) (by omega) (by omega) rfl ?_
  refine x_iload C eL_law_2137 rfl ?_
  refine x_icmp_val (by first | exact up_s _ _ _ | exact (up_n (by decide)).trans (up_s _ _ _)) 2144 C eL_law_2139 rfl ?_
  refine x_iload C eL_law_2144 rfl ?_
  refine x_if_ne 2161 C eL_law_2146 rfl (by omega) (fun _ => ?_) (fun h => absurd h (by decide))
  refine x_goto (pc' := 2791) C eL_law_2161 rfl ?_
  refine x_pick [_, _, _, _, _, _, _, _, _, _, _, _, _, _, _, _, _, _, _, _, _, _, _, _, _] [3, 4, 6, 7, 8, 9, 10, 11, 12, 13, 14, 15, 16, 17, 0, 1, 18, 19, 20, 2, 21, 22, 23, 5, 24] rfl rfl ?_
  refine x_lv [_, _, _, _, _, _, none, none, _] rfl (lx_drop _ [6, 7] rfl) ?_
  exact x_wide (by omega) (by omega) (K9 (hI.qI (by omega) (up_n (by decide)) (up_n (by decide)) (up_n (by decide)) (up_n (by decide)) (up_n (by decide)) (up_n (by decide))))

set_option maxHeartbeats 4000000 in
set_option maxRecDepth 100000 in
theorem lc_35_2 {G : Gm} {X : Cx} {l : Launch} {x : LFx} {k nn : Nat} {i b : Int} {J : Nat → Int} {M : Pool} {n : Net} {N K : Nat → Net} {Fu Fb : Nat → Int} {w : List Int} {z : Int} {I TL TB : Nat → Int} {N9 : Nat → Net} {f : Nat → Int64} {fD : Nat → UInt64} {a1 a2 : Int} (H : LKn G l x) {nmL : String} (hC : OKc G X l RL nmL cL_law 9 (some .boolean) 1400 600000 6200000) (hI : INV b J M n N K Fu Fb w z I) (hb : b ≤ 15000000) (hk : k + 100 ≤ 600000) (hn : nn + 2200 ≤ 6200000) (hi : 0 ≤ i ∧ i + 6 ≤ (x.L : Int)) (ha1 : (x.xs (i + 1).toNat).toInt = a1) (ha2 : (x.xs (i + 2).toNat).toInt = a2) (hl : 0 ≤ a1 ∧ a1 < n (-1) 0) (ht : ¬ (1 ≤ a2 ∧ a2 ≤ 50)) (K9 : LCont G X x (b + 8000) (k + 100) (nn + 2200) i) : WX G X k nn (LAT G x J M n N K Fu Fb w z I TL TB N9 f fD) 2096 (LLV x i) [] := by
  have C := hC
  have hK : KG G := H.hX.1.1.1
  have hH := hI.hN.1.1
  unfold HeadOk at hH
  have r1 : -2147483648 ≤ a1 ∧ a1 < 2147483648 := by rw [← ha1]; exact bI_toInt _
  have r2 : -2147483648 ≤ a2 ∧ a2 < 2147483648 := by rw [← ha2]; exact bI_toInt _
  refine x_aload_n C eL_law_2096 rfl ?_
  refine x_argA C H.hx H.hbl H.hL eL_law_2097 eL_law_2098 eL_law_2100 eL_law_2101 eL_law_2102 rfl rfl (by omega) ha1 ?_
  refine x_argA C H.hx H.hbl H.hL eL_law_2103 eL_law_2104 eL_law_2106 eL_law_2107 eL_law_2108 rfl rfl (by omega) ha2 ?_
  refine x_aload_n C eL_law_2109 rfl ?_
  refine x_callSW (As := [_, _, _, _]) [_, _, _, _, _, _, _, _, _, _, _, _, _, _, _, _, _, _, _, _, _, _] C (wx_breakLine_2 hK (t_X7_breakLine_9 H.hX H.hT0 (by omega) (by omega) (by omega) (by omega)) (xwd_c (i := 1) H.hX rfl) H.n1 (rcv 0 rfl)) cw_breakLine s_RL_265 eL_law_2110 rfl (fun _ _ h => WF_pick [0, 1, 23, 2, 3, 4, 5, 6, 7, 8, 9, 10, 11, 12, 13, 14, 15, 16, 17, 18, 19, 20, 21, 22, 24] rfl rfl h) rfl (nle rfl) (nle rfl) (by omega) (by omega) (fun _ _ => ?_)
  refine x_pick [_, _, _, _, _, _, _, _, _, _, _, _, _, _, _, _, _, _, _, _, _, _, _, _, _] [0, 1, 2, 3, 4, 5, 6, 7, 8, 9, 10, 11, 12, 13, 14, 15, 16, 17, 18, 19, 20, 21, 22, 23, 24] rfl rfl ?_
  refine x_istore [_, _, _, _, _, _, _, _, _] C eL_law_2113 rfl rfl (nlt rfl) ?_
  refine x_aload_n C eL_law_2115 rfl ?_
  refine x_argA C H.hx H.hbl H.hL eL_law_2116 eL_law_2117 eL_law_2119 eL_law_2120 eL_law_2121 rfl rfl (by omega) ha1 ?_
  refine x_argA C H.hx H.hbl H.hL eL_law_2122 eL_law_2123 eL_law_2125 eL_law_2126 eL_law_2127 rfl rfl (by omega) ha2 ?_
  have c1 : 0 ≤ a1 ∧ a1 ≤ n (-1) 0 - 1 := by first | trivial | omega | (simp only [if_true, if_false]; omega)
  have c2 : ¬ (1 ≤ a2 ∧ a2 ≤ 50) := by first | omega | (simp only [if_true, if_false]; omega)
  have hM := s_X8_breakLine (G := G) (l := l) (o := x.o) (A := x.A) (I := I) (N := N9) (n := n) (b := b) (l9 := a1) (t9 := a2) (P := N) hK hI.hN.1 (by omega) (by omega) (by omega) (by have := hI.e6; have := hI.h6; omega)
  simp only [if_neg (show ¬ ((0 ≤ a1 ∧ a1 ≤ n (-1) 0 - 1) ∧ (1 ≤ a2 ∧ a2 ≤ 50) ∧ (True)) from fun q => c2 q.2.1), thr_2 c1 c2] at hM
  refine yV2r [_, _, _, _, _, _, _, _, _, _, _, _, _, _, _, _, _, _, _, _, _, _] [_, _, _, _, _, _, _, _, _, _, _, _, _, _, _, _, _, _, _, _, _, _, _, _, _] C hM v_X8_breakLine vv_X8_breakLine s_RL_267 eL_law_2128 (fun _ _ h => WF_pick [15, 16, 20, 0, 1, 2, 3, 4, 5, 6, 7, 8, 9, 10, 11, 12, 13, 14, 17, 18, 19, 21, 22, 23, 24] rfl rfl h) (rcv 15 rfl) rfl (nle rfl) (nle rfl) (by omega) (by omega) rfl ?_
  refine x_istore [_, _, _, _, _, _, _, _, _] C eL_law_2131 rfl rfl (nlt rfl) ?_
  refine x_aload_n C eL_law_2133 rfl ?_
  refine yV0r [_, _, _, _, _, _, _, _, _, _, _, _, _, _, _, _, _, _, _, _, _, _, _, _] [_, _, _, _, _, _, _, _, _, _, _, _, _, _, _, _, _, _, _, _, _, _, _, _, _] C (s_X8_thrown hK) v_X8_thrown vv_X8_thrown s_RL_145 eL_law_2134 (fun _ _ h => WF_pick [0, 1, 2, 3, 4, 5, 6, 7, 8, 9, 10, 11, 12, 13, 14, 15, 16, 17, 18, 19, 20, 21, 22, 23, 24] rfl rfl h) (rcv 0 rfl) rfl (nle rfl) (nle rfl) (by omega) (by omega) rfl ?_
  refine x_iload C eL_law_2137 rfl ?_
  refine x_icmp_val (by first | exact up_s _ _ _ | exact (up_n (by decide)).trans (up_s _ _ _)) 2144 C eL_law_2139 rfl ?_
  refine x_iload C eL_law_2144 rfl ?_
  refine x_if_ne 2161 C eL_law_2146 rfl (by omega) (fun _ => ?_) (fun h => absurd h (by decide))
  refine x_goto (pc' := 2791) C eL_law_2161 rfl ?_
  refine x_pick [_, _, _, _, _, _, _, _, _, _, _, _, _, _, _, _, _, _, _, _, _, _, _, _, _] [3, 4, 6, 7, 8, 9, 10, 11, 12, 13, 14, 15, 16, 17, 0, 1, 18, 19, 20, 2, 21, 22, 23, 5, 24] rfl rfl ?_
  refine x_lv [_, _, _, _, _, _, none, none, _] rfl (lx_drop _ [6, 7] rfl) ?_
  exact x_wide (by omega) (by omega) (K9 (hI.qI (by omega) (up_n (by decide)) (up_n (by decide)) (up_n (by decide)) (up_n (by decide)) (up_n (by decide)) (up_n (by decide))))

set_option maxHeartbeats 4000000 in
set_option maxRecDepth 100000 in
theorem lc_37_0 {G : Gm} {X : Cx} {l : Launch} {x : LFx} {k nn : Nat} {i b : Int} {J : Nat → Int} {M : Pool} {n : Net} {N K : Nat → Net} {Fu Fb : Nat → Int} {w : List Int} {z : Int} {I TL TB : Nat → Int} {N9 : Nat → Net} {f : Nat → Int64} {fD : Nat → UInt64} {a1 a2 : Int} (H : LKn G l x) {nmL : String} (hC : OKc G X l RL nmL cL_law 9 (some .boolean) 1400 600000 6200000) (hI : INV b J M n N K Fu Fb w z I) (hb : b ≤ 15000000) (hk : k + 100 ≤ 600000) (hn : nn + 2200 ≤ 6200000) (hi : 0 ≤ i ∧ i + 6 ≤ (x.L : Int)) (ha1 : (x.xs (i + 1).toNat).toInt = a1) (ha2 : (x.xs (i + 2).toNat).toInt = a2) (hl : 0 ≤ a1 ∧ a1 < n (-1) 0) (he : 0 ≤ a2 ∧ a2 ≤ 2) (K9 : LCont G X x (b + 8000) (k + 100) (nn + 2200) i) : WX G X k nn (LAT G x J M n N K Fu Fb w z I TL TB N9 f fD) 2255 (LLV x i) [] := by
  have C := hC
  have hK : KG G := H.hX.1.1.1
  have hH := hI.hN.1.1
  unfold HeadOk at hH
  have r1 : -2147483648 ≤ a1 ∧ a1 < 2147483648 := by rw [← ha1]; exact bI_toInt _
  have r2 : -2147483648 ≤ a2 ∧ a2 < 2147483648 := by rw [← ha2]; exact bI_toInt _
  refine x_aload_n C eL_law_2255 rfl ?_
  refine x_argA C H.hx H.hbl H.hL eL_law_2256 eL_law_2257 eL_law_2259 eL_law_2260 eL_law_2261 rfl rfl (by omega) ha1 ?_
  refine x_argA C H.hx H.hbl H.hL eL_law_2262 eL_law_2263 eL_law_2265 eL_law_2266 eL_law_2267 rfl rfl (by omega) ha2 ?_
  refine x_aload_n C eL_law_2268 rfl ?_
  refine x_callSW (As := [_, _, _, _]) [_, _, _, _, _, _, _, _, _, _, _, _, _, _, _, _, _, _] C (wn_setEcho hK (s_X7_setEcho hK hI.hN.1 (by omega) hI.h6 H.hX.1 (by omega) (by omega)) (rcv 0 rfl)) cw_setEcho s_RL_272 eL_law_2269 rfl (fun _ _ h => WF_pick [0, 1, 2, 3, 4, 12, 23, 5, 6, 7, 8, 9, 10, 11, 13, 14, 15, 16, 17, 18, 19, 20, 21, 22, 24] rfl rfl h) rfl (nle rfl) (nle rfl) (by omega) (by omega) (fun _ _ => ?_)
  refine x_pick [_, _, _, _, _, _, _, _, _, _, _, _, _, _, _, _, _, _, _, _, _, _, _, _, _] [0, 1, 2, 3, 4, 5, 6, 7, 8, 9, 10, 11, 12, 13, 14, 15, 16, 17, 18, 19, 20, 21, 22, 23, 24] rfl rfl ?_
  refine x_istore [_, _, _, _, _, _, _, _, _] C eL_law_2272 rfl rfl (nlt rfl) ?_
  refine x_aload_n C eL_law_2274 rfl ?_
  refine x_argA C H.hx H.hbl H.hL eL_law_2275 eL_law_2276 eL_law_2278 eL_law_2279 eL_law_2280 rfl rfl (by omega) ha1 ?_
  refine x_argA C H.hx H.hbl H.hL eL_law_2281 eL_law_2282 eL_law_2284 eL_law_2285 eL_law_2286 rfl rfl (by omega) ha2 ?_
  have c1 : 0 ≤ a1 ∧ a1 ≤ n (-1) 0 - 1 := by first | trivial | omega | (simp only [if_true, if_false]; omega)
  have c2 : 0 ≤ a2 ∧ a2 ≤ 2 := by first | trivial | omega | (simp only [if_true, if_false]; omega)
  have c3 : True := by first | trivial | omega | (simp only [if_true, if_false]; omega)
  have hM := s_X8_setEcho (G := G) (l := l) (o := x.o) (A := x.A) (I := I) (N := N9) (n := n) (b := b) (l9 := a1) (e9 := a2) (P := N) hK hI.hN.1 (by omega) (by omega) (by omega) (by have := hI.e6; have := hI.h6; omega)
  simp only [if_pos (show (0 ≤ a1 ∧ a1 ≤ n (-1) 0 - 1) ∧ (0 ≤ a2 ∧ a2 ≤ 2) ∧ (True) from ⟨c1, c2, c3⟩), thr_0 c1 c2 c3] at hM
  simp only [hI.e6] at hM
  refine yV2r [_, _, _, _, _, _, _, _, _, _, _, _, _, _, _, _, _, _, _, _, _, _] [_, _, _, _, _, _, _, _, _, _, _, _, _, _, _, _, _, _, _, _, _, _, _, _, _] C hM v_X8_setEcho vv_X8_setEcho s_RL_274 eL_law_2287 (fun _ _ h => WF_pick [15, 16, 20, 0, 1, 2, 3, 4, 5, 6, 7, 8, 9, 10, 11, 12, 13, 14, 17, 18, 19, 21, 22, 23, 24] rfl rfl h) (rcv 15 rfl) rfl (nle rfl) (nle rfl) (by omega) (by omega) rfl ?_
  refine x_istore [_, _, _, _, _, _, _, _, _] C eL_law_2290 rfl rfl (nlt rfl) ?_
  refine x_aload_n C eL_law_2292 rfl ?_
  refine yV0r [_, _, _, _, _, _, _, _, _, _, _, _, _, _, _, _, _, _, _, _, _, _, _, _] [_, _, _, _, _, _, _, _, _, _, _, _, _, _, _, _, _, _, _, _, _, _, _, _, _] C (s_X8_thrown hK) v_X8_thrown vv_X8_thrown s_RL_145 eL_law_2293 (fun _ _ h => WF_pick [0, 1, 2, 3, 4, 5, 6, 7, 8, 9, 10, 11, 12, 13, 14, 15, 16, 17, 18, 19, 20, 21, 22, 23, 24] rfl rfl h) (rcv 0 rfl) rfl (nle rfl) (nle rfl) (by omega) (by omega) rfl ?_
  refine x_iload C eL_law_2296 rfl ?_
  refine x_icmp_val (by first | exact up_s _ _ _ | exact (up_n (by decide)).trans (up_s _ _ _)) 2303 C eL_law_2298 rfl ?_
  refine x_iload C eL_law_2303 rfl ?_
  refine x_if_ne 2320 C eL_law_2305 rfl (by omega) (fun h => absurd rfl h) (fun _ => ?_)
  refine x_aload_n C eL_law_2308 rfl ?_
  refine x_iconst C eL_law_2309 ?_
  refine x_lald (N := 1) 9 C eL_law_2310 rfl (by decide) (by omega) ?_
  refine x_iload C eL_law_2311 rfl ?_
  refine x_i2lR C eL_law_2313 ?_
  refine x_lcmp_same 2320 (by first | exact if_pos rfl | (rw [if_pos rfl]; rfl) | decide) C eL_law_2314 eL_law_2315 rfl ?_
  refine x_goto (pc' := 2791) C eL_law_2320 rfl ?_
  refine x_pick [_, _, _, _, _, _, _, _, _, _, _, _, _, _, _, _, _, _, _, _, _, _, _, _, _] [3, 4, 5, 6, 7, 10, 11, 12, 13, 14, 15, 16, 8, 17, 0, 1, 18, 19, 20, 2, 21, 22, 23, 9, 24] rfl rfl ?_
  refine x_lv [_, _, _, _, _, _, none, none, _] rfl (lx_drop _ [6, 7] rfl) ?_
  exact x_wide (by omega) (by omega) (K9 (hI.chg (by omega) ((GOK_echo hI.hN hl he).mono (by omega)) (up_s _ _ _) ((up_n (by decide)).trans (up_n (by decide))) ((up_n (by decide)).trans (up_n (by decide))) ((up_n (by decide)).trans (up_n (by decide))) ((up_n (by decide)).trans (up_n (by decide))) ((up_n (by decide)).trans (up_n (by decide)))))

set_option maxHeartbeats 4000000 in
set_option maxRecDepth 100000 in
theorem lc_37_1 {G : Gm} {X : Cx} {l : Launch} {x : LFx} {k nn : Nat} {i b : Int} {J : Nat → Int} {M : Pool} {n : Net} {N K : Nat → Net} {Fu Fb : Nat → Int} {w : List Int} {z : Int} {I TL TB : Nat → Int} {N9 : Nat → Net} {f : Nat → Int64} {fD : Nat → UInt64} {a1 a2 : Int} (H : LKn G l x) {nmL : String} (hC : OKc G X l RL nmL cL_law 9 (some .boolean) 1400 600000 6200000) (hI : INV b J M n N K Fu Fb w z I) (hb : b ≤ 15000000) (hk : k + 100 ≤ 600000) (hn : nn + 2200 ≤ 6200000) (hi : 0 ≤ i ∧ i + 6 ≤ (x.L : Int)) (ha1 : (x.xs (i + 1).toNat).toInt = a1) (ha2 : (x.xs (i + 2).toNat).toInt = a2) (hl : ¬ (0 ≤ a1 ∧ a1 < n (-1) 0)) (K9 : LCont G X x (b + 8000) (k + 100) (nn + 2200) i) : WX G X k nn (LAT G x J M n N K Fu Fb w z I TL TB N9 f fD) 2255 (LLV x i) [] := by
  have C := hC
  have hK : KG G := H.hX.1.1.1
  have hH := hI.hN.1.1
  unfold HeadOk at hH
  have r1 : -2147483648 ≤ a1 ∧ a1 < 2147483648 := by rw [← ha1]; exact bI_toInt _
  have r2 : -2147483648 ≤ a2 ∧ a2 < 2147483648 := by rw [← ha2]; exact bI_toInt _
  refine x_aload_n C eL_law_2255 rfl ?_
  refine x_argA C H.hx H.hbl H.hL eL_law_2256 eL_law_2257 eL_law_2259 eL_law_2260 eL_law_2261 rfl rfl (by omega) ha1 ?_
  refine x_argA C H.hx H.hbl H.hL eL_law_2262 eL_law_2263 eL_law_2265 eL_law_2266 eL_law_2267 rfl rfl (by omega) ha2 ?_
  refine x_aload_n C eL_law_2268 rfl ?_
  refine x_callSW (As := [_, _, _, _]) [_, _, _, _, _, _, _, _, _, _, _, _, _, _, _, _, _, _, _, _, _, _] C (wx_setEcho_1 hK (t_X7_setEcho_2 H.hX H.hT0 (by omega) (by omega) (by omega)) (xwd_c (i := 0) H.hX rfl) (rcv 0 rfl)) cw_setEcho s_RL_272 eL_law_2269 rfl (fun _ _ h => WF_pick [0, 1, 23, 2, 3, 4, 5, 6, 7, 8, 9, 10, 11, 12, 13, 14, 15, 16, 17, 18, 19, 20, 21, 22, 24] rfl rfl h) rfl (nle rfl) (nle rfl) (by omega) (by omega) (fun _ _ => ?_)
  refine x_pick [_, _, _, _, _, _, _, _, _, _, _, _, _, _, _, _, _, _, _, _, _, _, _, _, _] [0, 1, 2, 3, 4, 5, 6, 7, 8, 9, 10, 11, 12, 13, 14, 15, 16, 17, 18, 19, 20, 21, 22, 23, 24] rfl rfl ?_
  refine x_istore [_, _, _, _, _, _, _, _, _] C eL_law_2272 rfl rfl (nlt rfl) ?_
  refine x_aload_n C eL_law_2274 rfl ?_
  refine x_argA C H.hx H.hbl H.hL eL_law_2275 eL_law_2276 eL_law_2278 eL_law_2279 eL_law_2280 rfl rfl (by omega) ha1 ?_
  refine x_argA C H.hx H.hbl H.hL eL_law_2281 eL_law_2282 eL_law_2284 eL_law_2285 eL_law_2286 rfl rfl (by omega) ha2 ?_
  have c1 : ¬ (0 ≤ a1 ∧ a1 ≤ n (-1) 0 - 1) := by first | omega | (simp only [if_true, if_false]; omega)
  have hM := s_X8_setEcho (G := G) (l := l) (o := x.o) (A := x.A) (I := I) (N := N9) (n := n) (b := b) (l9 := a1) (e9 := a2) (P := N) hK hI.hN.1 (by omega) (by omega) (by omega) (by have := hI.e6; have := hI.h6; omega)
  simp only [if_neg (show ¬ ((0 ≤ a1 ∧ a1 ≤ n (-1) 0 - 1) ∧ (0 ≤ a2 ∧ a2 ≤ 2) ∧ (True)) from fun q => c1 q.1), thr_1 c1] at hM
  refine yV2r [_, _, _, _, _, _, _, _, _, _, _, _, _, _, _, _, _, _, _, _, _, _] [_, _, _, _, _, _, _, _, _, _, _, _, _, _, _, _, _, _, _, _, _, _, _, _, _] C hM v_X8_setEcho vv_X8_setEcho s_RL_274 eL_law_2287 (fun _ _ h => WF_pick [15, 16, 20, 0, 1, 2, 3, 4, 5, 6, 7, 8, 9, 10, 11, 12, 13, 14, 17, 18, 19, 21, 22, 23, 24] rfl rfl h) (rcv 15 rfl) rfl (nle rfl) (nle rfl) (by omega) (by omega) rfl ?_
  refine x_istore [_, _, _, _, _, _, _, _, _] C eL_law_2290 rfl rfl (nlt rfl) ?_
  refine x_aload_n C eL_law_2292 rfl ?_
  refine yV0r [_, _, _, _, _, _, _, _, _, _, _, _, _, _, _, _, _, _, _, _, _, _, _, _] [_, _, _, _, _, _, _, _, _, _, _, _, _, _, _, _, _, _, _, _, _, _, _, _, _] C (s_X8_thrown hK) v_X8_thrown vv_X8_thrown s_RL_145 eL_law_2293 (fun _ _ h => WF_pick [0, 1, 2, 3, 4, 5, 6, 7, 8, 9, 10, 11, 12, 13, 14, 15, 16, 17, 18, 19, 20, 21, 22, 23, 24] rfl rfl h) (rcv 0 rfl) rfl (nle rfl) (nle rfl) (by omega) (by omega) rfl ?_
  refine x_iload C eL_law_2296 rfl ?_
  refine x_icmp_val (by first | exact up_s _ _ _ | exact (up_n (by decide)).trans (up_s _ _ _)) 2303 C eL_law_2298 rfl ?_
  refine x_iload C eL_law_2303 rfl ?_
  refine x_if_ne 2320 C eL_law_2305 rfl (by omega) (fun _ => ?_) (fun h => absurd h (by decide))
  refine x_goto (pc' := 2791) C eL_law_2320 rfl ?_
  refine x_pick [_, _, _, _, _, _, _, _, _, _, _, _, _, _, _, _, _, _, _, _, _, _, _, _, _] [3, 4, 6, 7, 8, 9, 10, 11, 12, 13, 14, 15, 16, 17, 0, 1, 18, 19, 20, 2, 21, 22, 23, 5, 24] rfl rfl ?_
  refine x_lv [_, _, _, _, _, _, none, none, _] rfl (lx_drop _ [6, 7] rfl) ?_
  exact x_wide (by omega) (by omega) (K9 (hI.qI (by omega) (up_n (by decide)) (up_n (by decide)) (up_n (by decide)) (up_n (by decide)) (up_n (by decide)) (up_n (by decide))))

set_option maxHeartbeats 4000000 in
set_option maxRecDepth 100000 in
theorem lc_37_2 {G : Gm} {X : Cx} {l : Launch} {x : LFx} {k nn : Nat} {i b : Int} {J : Nat → Int} {M : Pool} {n : Net} {N K : Nat → Net} {Fu Fb : Nat → Int} {w : List Int} {z : Int} {I TL TB : Nat → Int} {N9 : Nat → Net} {f : Nat → Int64} {fD : Nat → UInt64} {a1 a2 : Int} (H : LKn G l x) {nmL : String} (hC : OKc G X l RL nmL cL_law 9 (some .boolean) 1400 600000 6200000) (hI : INV b J M n N K Fu Fb w z I) (hb : b ≤ 15000000) (hk : k + 100 ≤ 600000) (hn : nn + 2200 ≤ 6200000) (hi : 0 ≤ i ∧ i + 6 ≤ (x.L : Int)) (ha1 : (x.xs (i + 1).toNat).toInt = a1) (ha2 : (x.xs (i + 2).toNat).toInt = a2) (hl : 0 ≤ a1 ∧ a1 < n (-1) 0) (ht : ¬ (0 ≤ a2 ∧ a2 ≤ 2)) (K9 : LCont G X x (b + 8000) (k + 100) (nn + 2200) i) : WX G X k nn (LAT G x J M n N K Fu Fb w z I TL TB N9 f fD) 2255 (LLV x i) [] := by
  have C := hC
  have hK : KG G := H.hX.1.1.1
  have hH := hI.hN.1.1
  unfold HeadOk at hH
  have r1 : -2147483648 ≤ a1 ∧ a1 < 2147483648 := by rw [← ha1]; exact bI_toInt _
  have r2 : -2147483648 ≤ a2 ∧ a2 < 2147483648 := by rw [← ha2]; exact bI_toInt _
  refine x_aload_n C eL_law_2255 rfl ?_
  refine x_argA C H.hx H.hbl H.hL eL_law_2256 eL_law_2257 eL_law_2259 eL_law_2260 eL_law_2261 rfl rfl (by omega) ha1 ?_
  refine x_argA C H.hx H.hbl H.hL eL_law_2262 eL_law_2263 eL_law_2265 eL_law_2266 eL_law_2267 rfl rfl (by omega) ha2 ?_
  refine x_aload_n C eL_law_2268 rfl ?_
  refine x_callSW (As := [_, _, _, _]) [_, _, _, _, _, _, _, _, _, _, _, _, _, _, _, _, _, _, _, _, _, _] C (wx_setEcho_2 hK (t_X7_setEcho_8 H.hX H.hT0 (by omega) (by omega) (by omega) (by omega)) (xwd_c (i := 1) H.hX rfl) H.n1 (rcv 0 rfl)) cw_setEcho s_RL_272 eL_law_2269 rfl (fun _ _ h => WF_pick [0, 1, 23, 2, 3, 4, 5, 6, 7, 8, 9, 10, 11, 12, 13, 14, 15, 16, 17, 18, 19, 20, 21, 22, 24] rfl rfl h) rfl (nle rfl) (nle rfl) (by omega) (by omega) (fun _ _ => ?_)
  refine x_pick [_, _, _, _, _, _, _, _, _, _, _, _, _, _, _, _, _, _, _, _, _, _, _, _, _] [0, 1, 2, 3, 4, 5, 6, 7, 8, 9, 10, 11, 12, 13, 14, 15, 16, 17, 18, 19, 20, 21, 22, 23, 24] rfl rfl ?_
  refine x_istore [_, _, _, _, _, _, _, _, _] C eL_law_2272 rfl rfl (nlt rfl) ?_
  refine x_aload_n C eL_law_2274 rfl ?_
  refine x_argA C H.hx H.hbl H.hL eL_law_2275 eL_law_2276 eL_law_2278 eL_law_2279 eL_law_2280 rfl rfl (by omega) ha1 ?_
  refine x_argA C H.hx H.hbl H.hL eL_law_2281 eL_law_2282 eL_law_2284 eL_law_2285 eL_law_2286 rfl rfl (by omega) ha2 ?_
  have c1 : 0 ≤ a1 ∧ a1 ≤ n (-1) 0 - 1 := by first | trivial | omega | (simp only [if_true, if_false]; omega)
  have c2 : ¬ (0 ≤ a2 ∧ a2 ≤ 2) := by first | omega | (simp only [if_true, if_false]; omega)
  have hM := s_X8_setEcho (G := G) (l := l) (o := x.o) (A := x.A) (I := I) (N := N9) (n := n) (b := b) (l9 := a1) (e9 := a2) (P := N) hK hI.hN.1 (by omega) (by omega) (by omega) (by have := hI.e6; have := hI.h6; omega)
  simp only [if_neg (show ¬ ((0 ≤ a1 ∧ a1 ≤ n (-1) 0 - 1) ∧ (0 ≤ a2 ∧ a2 ≤ 2) ∧ (True)) from fun q => c2 q.2.1), thr_2 c1 c2] at hM
  refine yV2r [_, _, _, _, _, _, _, _, _, _, _, _, _, _, _, _, _, _, _, _, _, _] [_, _, _, _, _, _, _, _, _, _, _, _, _, _, _, _, _, _, _, _, _, _, _, _, _] C hM v_X8_setEcho vv_X8_setEcho s_RL_274 eL_law_2287 (fun _ _ h => WF_pick [15, 16, 20, 0, 1, 2, 3, 4, 5, 6, 7, 8, 9, 10, 11, 12, 13, 14, 17, 18, 19, 21, 22, 23, 24] rfl rfl h) (rcv 15 rfl) rfl (nle rfl) (nle rfl) (by omega) (by omega) rfl ?_
  refine x_istore [_, _, _, _, _, _, _, _, _] C eL_law_2290 rfl rfl (nlt rfl) ?_
  refine x_aload_n C eL_law_2292 rfl ?_
  refine yV0r [_, _, _, _, _, _, _, _, _, _, _, _, _, _, _, _, _, _, _, _, _, _, _, _] [_, _, _, _, _, _, _, _, _, _, _, _, _, _, _, _, _, _, _, _, _, _, _, _, _] C (s_X8_thrown hK) v_X8_thrown vv_X8_thrown s_RL_145 eL_law_2293 (fun _ _ h => WF_pick [0, 1, 2, 3, 4, 5, 6, 7, 8, 9, 10, 11, 12, 13, 14, 15, 16, 17, 18, 19, 20, 21, 22, 23, 24] rfl rfl h) (rcv 0 rfl) rfl (nle rfl) (nle rfl) (by omega) (by omega) rfl ?_
  refine x_iload C eL_law_2296 rfl ?_
  refine x_icmp_val (by first | exact up_s _ _ _ | exact (up_n (by decide)).trans (up_s _ _ _)) 2303 C eL_law_2298 rfl ?_
  refine x_iload C eL_law_2303 rfl ?_
  refine x_if_ne 2320 C eL_law_2305 rfl (by omega) (fun _ => ?_) (fun h => absurd h (by decide))
  refine x_goto (pc' := 2791) C eL_law_2320 rfl ?_
  refine x_pick [_, _, _, _, _, _, _, _, _, _, _, _, _, _, _, _, _, _, _, _, _, _, _, _, _] [3, 4, 6, 7, 8, 9, 10, 11, 12, 13, 14, 15, 16, 17, 0, 1, 18, 19, 20, 2, 21, 22, 23, 5, 24] rfl rfl ?_
  refine x_lv [_, _, _, _, _, _, none, none, _] rfl (lx_drop _ [6, 7] rfl) ?_
  exact x_wide (by omega) (by omega) (K9 (hI.qI (by omega) (up_n (by decide)) (up_n (by decide)) (up_n (by decide)) (up_n (by decide)) (up_n (by decide)) (up_n (by decide))))

set_option maxHeartbeats 4000000 in
set_option maxRecDepth 100000 in
theorem lc_39_0 {G : Gm} {X : Cx} {l : Launch} {x : LFx} {k nn : Nat} {i b : Int} {J : Nat → Int} {M : Pool} {n : Net} {N K : Nat → Net} {Fu Fb : Nat → Int} {w : List Int} {z : Int} {I TL TB : Nat → Int} {N9 : Nat → Net} {f : Nat → Int64} {fD : Nat → UInt64} {a1 a2 : Int} (H : LKn G l x) {nmL : String} (hC : OKc G X l RL nmL cL_law 9 (some .boolean) 1400 600000 6200000) (hI : INV b J M n N K Fu Fb w z I) (hb : b ≤ 15000000) (hk : k + 100 ≤ 600000) (hn : nn + 2200 ≤ 6200000) (hi : 0 ≤ i ∧ i + 6 ≤ (x.L : Int)) (ha1 : (x.xs (i + 1).toNat).toInt = a1) (ha2 : (x.xs (i + 2).toNat).toInt = a2) (hl : 0 ≤ a1 ∧ a1 < n (-1) 0) (he : 1 ≤ a2 ∧ a2 ≤ 9) (K9 : LCont G X x (b + 8000) (k + 100) (nn + 2200) i) : WX G X k nn (LAT G x J M n N K Fu Fb w z I TL TB N9 f fD) 2403 (LLV x i) [] := by
  have C := hC
  have hK : KG G := H.hX.1.1.1
  have hH := hI.hN.1.1
  unfold HeadOk at hH
  have r1 : -2147483648 ≤ a1 ∧ a1 < 2147483648 := by rw [← ha1]; exact bI_toInt _
  have r2 : -2147483648 ≤ a2 ∧ a2 < 2147483648 := by rw [← ha2]; exact bI_toInt _
  refine x_aload_n C eL_law_2403 rfl ?_
  refine x_argA C H.hx H.hbl H.hL eL_law_2404 eL_law_2405 eL_law_2407 eL_law_2408 eL_law_2409 rfl rfl (by omega) ha1 ?_
  refine x_argA C H.hx H.hbl H.hL eL_law_2410 eL_law_2411 eL_law_2413 eL_law_2414 eL_law_2415 rfl rfl (by omega) ha2 ?_
  refine x_aload_n C eL_law_2416 rfl ?_
  refine x_callSW (As := [_, _, _, _]) [_, _, _, _, _, _, _, _, _, _, _, _, _, _, _, _, _, _] C (wn_setShare hK (s_X7_setShare hK hI.hN.1 (by omega) hI.h6 H.hX.1 (by omega) (by omega)) (rcv 0 rfl)) cw_setShare s_RL_278 eL_law_2417 rfl (fun _ _ h => WF_pick [0, 1, 2, 3, 4, 12, 23, 5, 6, 7, 8, 9, 10, 11, 13, 14, 15, 16, 17, 18, 19, 20, 21, 22, 24] rfl rfl h) rfl (nle rfl) (nle rfl) (by omega) (by omega) (fun _ _ => ?_)
  refine x_pick [_, _, _, _, _, _, _, _, _, _, _, _, _, _, _, _, _, _, _, _, _, _, _, _, _] [0, 1, 2, 3, 4, 5, 6, 7, 8, 9, 10, 11, 12, 13, 14, 15, 16, 17, 18, 19, 20, 21, 22, 23, 24] rfl rfl ?_
  refine x_istore [_, _, _, _, _, _, _, _, _] C eL_law_2420 rfl rfl (nlt rfl) ?_
  refine x_aload_n C eL_law_2422 rfl ?_
  refine x_argA C H.hx H.hbl H.hL eL_law_2423 eL_law_2424 eL_law_2426 eL_law_2427 eL_law_2428 rfl rfl (by omega) ha1 ?_
  refine x_argA C H.hx H.hbl H.hL eL_law_2429 eL_law_2430 eL_law_2432 eL_law_2433 eL_law_2434 rfl rfl (by omega) ha2 ?_
  have c1 : 0 ≤ a1 ∧ a1 ≤ n (-1) 0 - 1 := by first | trivial | omega | (simp only [if_true, if_false]; omega)
  have c2 : 1 ≤ a2 ∧ a2 ≤ 9 := by first | trivial | omega | (simp only [if_true, if_false]; omega)
  have c3 : True := by first | trivial | omega | (simp only [if_true, if_false]; omega)
  have hM := s_X8_setShare (G := G) (l := l) (o := x.o) (A := x.A) (I := I) (N := N9) (n := n) (b := b) (l9 := a1) (e9 := a2) (P := N) hK hI.hN.1 (by omega) (by omega) (by omega) (by have := hI.e6; have := hI.h6; omega)
  simp only [if_pos (show (0 ≤ a1 ∧ a1 ≤ n (-1) 0 - 1) ∧ (1 ≤ a2 ∧ a2 ≤ 9) ∧ (True) from ⟨c1, c2, c3⟩), thr_0 c1 c2 c3] at hM
  simp only [hI.e6] at hM
  refine yV2r [_, _, _, _, _, _, _, _, _, _, _, _, _, _, _, _, _, _, _, _, _, _] [_, _, _, _, _, _, _, _, _, _, _, _, _, _, _, _, _, _, _, _, _, _, _, _, _] C hM v_X8_setShare vv_X8_setShare s_RL_280 eL_law_2435 (fun _ _ h => WF_pick [15, 16, 20, 0, 1, 2, 3, 4, 5, 6, 7, 8, 9, 10, 11, 12, 13, 14, 17, 18, 19, 21, 22, 23, 24] rfl rfl h) (rcv 15 rfl) rfl (nle rfl) (nle rfl) (by omega) (by omega) rfl ?_
  refine x_istore [_, _, _, _, _, _, _, _, _] C eL_law_2438 rfl rfl (nlt rfl) ?_
  refine x_aload_n C eL_law_2440 rfl ?_
  refine yV0r [_, _, _, _, _, _, _, _, _, _, _, _, _, _, _, _, _, _, _, _, _, _, _, _] [_, _, _, _, _, _, _, _, _, _, _, _, _, _, _, _, _, _, _, _, _, _, _, _, _] C (s_X8_thrown hK) v_X8_thrown vv_X8_thrown s_RL_145 eL_law_2441 (fun _ _ h => WF_pick [0, 1, 2, 3, 4, 5, 6, 7, 8, 9, 10, 11, 12, 13, 14, 15, 16, 17, 18, 19, 20, 21, 22, 23, 24] rfl rfl h) (rcv 0 rfl) rfl (nle rfl) (nle rfl) (by omega) (by omega) rfl ?_
  refine x_iload C eL_law_2444 rfl ?_
  refine x_icmp_val (by first | exact up_s _ _ _ | exact (up_n (by decide)).trans (up_s _ _ _)) 2451 C eL_law_2446 rfl ?_
  refine x_iload C eL_law_2451 rfl ?_
  refine x_if_ne 2468 C eL_law_2453 rfl (by omega) (fun h => absurd rfl h) (fun _ => ?_)
  refine x_aload_n C eL_law_2456 rfl ?_
  refine x_iconst C eL_law_2457 ?_
  refine x_lald (N := 1) 9 C eL_law_2458 rfl (by decide) (by omega) ?_
  refine x_iload C eL_law_2459 rfl ?_
  refine x_i2lR C eL_law_2461 ?_
  refine x_lcmp_same 2468 (by first | exact if_pos rfl | (rw [if_pos rfl]; rfl) | decide) C eL_law_2462 eL_law_2463 rfl ?_
  refine x_goto (pc' := 2791) C eL_law_2468 rfl ?_
  refine x_pick [_, _, _, _, _, _, _, _, _, _, _, _, _, _, _, _, _, _, _, _, _, _, _, _, _] [3, 4, 5, 6, 7, 10, 11, 12, 13, 14, 15, 16, 8, 17, 0, 1, 18, 19, 20, 2, 21, 22, 23, 9, 24] rfl rfl ?_
  refine x_lv [_, _, _, _, _, _, none, none, _] rfl (lx_drop _ [6, 7] rfl) ?_
  exact x_wide (by omega) (by omega) (K9 (hI.chg (by omega) ((GOK_ub hI.hN hl (by omega)).mono (by omega)) (up_s _ _ _) ((up_n (by decide)).trans (up_n (by decide))) ((up_n (by decide)).trans (up_n (by decide))) ((up_n (by decide)).trans (up_n (by decide))) ((up_n (by decide)).trans (up_n (by decide))) ((up_n (by decide)).trans (up_n (by decide)))))

set_option maxHeartbeats 4000000 in
set_option maxRecDepth 100000 in
theorem lc_39_1 {G : Gm} {X : Cx} {l : Launch} {x : LFx} {k nn : Nat} {i b : Int} {J : Nat → Int} {M : Pool} {n : Net} {N K : Nat → Net} {Fu Fb : Nat → Int} {w : List Int} {z : Int} {I TL TB : Nat → Int} {N9 : Nat → Net} {f : Nat → Int64} {fD : Nat → UInt64} {a1 a2 : Int} (H : LKn G l x) {nmL : String} (hC : OKc G X l RL nmL cL_law 9 (some .boolean) 1400 600000 6200000) (hI : INV b J M n N K Fu Fb w z I) (hb : b ≤ 15000000) (hk : k + 100 ≤ 600000) (hn : nn + 2200 ≤ 6200000) (hi : 0 ≤ i ∧ i + 6 ≤ (x.L : Int)) (ha1 : (x.xs (i + 1).toNat).toInt = a1) (ha2 : (x.xs (i + 2).toNat).toInt = a2) (hl : ¬ (0 ≤ a1 ∧ a1 < n (-1) 0)) (K9 : LCont G X x (b + 8000) (k + 100) (nn + 2200) i) : WX G X k nn (LAT G x J M n N K Fu Fb w z I TL TB N9 f fD) 2403 (LLV x i) [] := by
  have C := hC
  have hK : KG G := H.hX.1.1.1
  have hH := hI.hN.1.1
  unfold HeadOk at hH
  have r1 : -2147483648 ≤ a1 ∧ a1 < 2147483648 := by rw [← ha1]; exact bI_toInt _
  have r2 : -2147483648 ≤ a2 ∧ a2 < 2147483648 := by rw [← ha2]; exact bI_toInt _
  refine x_aload_n C eL_law_2403 rfl ?_
  refine x_argA C H.hx H.hbl H.hL eL_law_2404 eL_law_2405 eL_law_2407 eL_law_2408 eL_law_2409 rfl rfl (by omega) ha1 ?_
  refine x_argA C H.hx H.hbl H.hL eL_law_2410 eL_law_2411 eL_law_2413 eL_law_2414 eL_law_2415 rfl rfl (by omega) ha2 ?_
  refine x_aload_n C eL_law_2416 rfl ?_
  refine x_callSW (As := [_, _, _, _]) [_, _, _, _, _, _, _, _, _, _, _, _, _, _, _, _, _, _, _, _, _, _] C (wx_setShare_1 hK (t_X7_setShare_2 H.hX H.hT0 (by omega) (by omega) (by omega)) (xwd_c (i := 0) H.hX rfl) (rcv 0 rfl)) cw_setShare s_RL_278 eL_law_2417 rfl (fun _ _ h => WF_pick [0, 1, 23, 2, 3, 4, 5, 6, 7, 8, 9, 10, 11, 12, 13, 14, 15, 16, 17, 18, 19, 20, 21, 22, 24] rfl rfl h) rfl (nle rfl) (nle rfl) (by omega) (by omega) (fun _ _ => ?_)
  refine x_pick [_, _, _, _, _, _, _, _, _, _, _, _, _, _, _, _, _, _, _, _, _, _, _, _, _] [0, 1, 2, 3, 4, 5, 6, 7, 8, 9, 10, 11, 12, 13, 14, 15, 16, 17, 18, 19, 20, 21, 22, 23, 24] rfl rfl ?_
  refine x_istore [_, _, _, _, _, _, _, _, _] C eL_law_2420 rfl rfl (nlt rfl) ?_
  refine x_aload_n C eL_law_2422 rfl ?_
  refine x_argA C H.hx H.hbl H.hL eL_law_2423 eL_law_2424 eL_law_2426 eL_law_2427 eL_law_2428 rfl rfl (by omega) ha1 ?_
  refine x_argA C H.hx H.hbl H.hL eL_law_2429 eL_law_2430 eL_law_2432 eL_law_2433 eL_law_2434 rfl rfl (by omega) ha2 ?_
  have c1 : ¬ (0 ≤ a1 ∧ a1 ≤ n (-1) 0 - 1) := by first | omega | (simp only [if_true, if_false]; omega)
  have hM := s_X8_setShare (G := G) (l := l) (o := x.o) (A := x.A) (I := I) (N := N9) (n := n) (b := b) (l9 := a1) (e9 := a2) (P := N) hK hI.hN.1 (by omega) (by omega) (by omega) (by have := hI.e6; have := hI.h6; omega)
  simp only [if_neg (show ¬ ((0 ≤ a1 ∧ a1 ≤ n (-1) 0 - 1) ∧ (1 ≤ a2 ∧ a2 ≤ 9) ∧ (True)) from fun q => c1 q.1), thr_1 c1] at hM
  refine yV2r [_, _, _, _, _, _, _, _, _, _, _, _, _, _, _, _, _, _, _, _, _, _] [_, _, _, _, _, _, _, _, _, _, _, _, _, _, _, _, _, _, _, _, _, _, _, _, _] C hM v_X8_setShare vv_X8_setShare s_RL_280 eL_law_2435 (fun _ _ h => WF_pick [15, 16, 20, 0, 1, 2, 3, 4, 5, 6, 7, 8, 9, 10, 11, 12, 13, 14, 17, 18, 19, 21, 22, 23, 24] rfl rfl h) (rcv 15 rfl) rfl (nle rfl) (nle rfl) (by omega) (by omega) rfl ?_
  refine x_istore [_, _, _, _, _, _, _, _, _] C eL_law_2438 rfl rfl (nlt rfl) ?_
  refine x_aload_n C eL_law_2440 rfl ?_
  refine yV0r [_, _, _, _, _, _, _, _, _, _, _, _, _, _, _, _, _, _, _, _, _, _, _, _] [_, _, _, _, _, _, _, _, _, _, _, _, _, _, _, _, _, _, _, _, _, _, _, _, _] C (s_X8_thrown hK) v_X8_thrown vv_X8_thrown s_RL_145 eL_law_2441 (fun _ _ h => WF_pick [0, 1, 2, 3, 4, 5, 6, 7, 8, 9, 10, 11, 12, 13, 14, 15, 16, 17, 18, 19, 20, 21, 22, 23, 24] rfl rfl h) (rcv 0 rfl) rfl (nle rfl) (nle rfl) (by omega) (by omega) rfl ?_
  refine x_iload C eL_law_2444 rfl ?_
  refine x_icmp_val (by first | exact up_s _ _ _ | exact (up_n (by decide)).trans (up_s _ _ _)) 2451 C eL_law_2446 rfl ?_
  refine x_iload C eL_law_2451 rfl ?_
  refine x_if_ne 2468 C eL_law_2453 rfl (by omega) (fun _ => ?_) (fun h => absurd h (by decide))
  refine x_goto (pc' := 2791) C eL_law_2468 rfl ?_
  refine x_pick [_, _, _, _, _, _, _, _, _, _, _, _, _, _, _, _, _, _, _, _, _, _, _, _, _] [3, 4, 6, 7, 8, 9, 10, 11, 12, 13, 14, 15, 16, 17, 0, 1, 18, 19, 20, 2, 21, 22, 23, 5, 24] rfl rfl ?_
  refine x_lv [_, _, _, _, _, _, none, none, _] rfl (lx_drop _ [6, 7] rfl) ?_
  exact x_wide (by omega) (by omega) (K9 (hI.qI (by omega) (up_n (by decide)) (up_n (by decide)) (up_n (by decide)) (up_n (by decide)) (up_n (by decide)) (up_n (by decide))))

set_option maxHeartbeats 4000000 in
set_option maxRecDepth 100000 in
theorem lc_39_2 {G : Gm} {X : Cx} {l : Launch} {x : LFx} {k nn : Nat} {i b : Int} {J : Nat → Int} {M : Pool} {n : Net} {N K : Nat → Net} {Fu Fb : Nat → Int} {w : List Int} {z : Int} {I TL TB : Nat → Int} {N9 : Nat → Net} {f : Nat → Int64} {fD : Nat → UInt64} {a1 a2 : Int} (H : LKn G l x) {nmL : String} (hC : OKc G X l RL nmL cL_law 9 (some .boolean) 1400 600000 6200000) (hI : INV b J M n N K Fu Fb w z I) (hb : b ≤ 15000000) (hk : k + 100 ≤ 600000) (hn : nn + 2200 ≤ 6200000) (hi : 0 ≤ i ∧ i + 6 ≤ (x.L : Int)) (ha1 : (x.xs (i + 1).toNat).toInt = a1) (ha2 : (x.xs (i + 2).toNat).toInt = a2) (hl : 0 ≤ a1 ∧ a1 < n (-1) 0) (ht : ¬ (1 ≤ a2 ∧ a2 ≤ 9)) (K9 : LCont G X x (b + 8000) (k + 100) (nn + 2200) i) : WX G X k nn (LAT G x J M n N K Fu Fb w z I TL TB N9 f fD) 2403 (LLV x i) [] := by
  have C := hC
  have hK : KG G := H.hX.1.1.1
  have hH := hI.hN.1.1
  unfold HeadOk at hH
  have r1 : -2147483648 ≤ a1 ∧ a1 < 2147483648 := by rw [← ha1]; exact bI_toInt _
  have r2 : -2147483648 ≤ a2 ∧ a2 < 2147483648 := by rw [← ha2]; exact bI_toInt _
  refine x_aload_n C eL_law_2403 rfl ?_
  refine x_argA C H.hx H.hbl H.hL eL_law_2404 eL_law_2405 eL_law_2407 eL_law_2408 eL_law_2409 rfl rfl (by omega) ha1 ?_
  refine x_argA C H.hx H.hbl H.hL eL_law_2410 eL_law_2411 eL_law_2413 eL_law_2414 eL_law_2415 rfl rfl (by omega) ha2 ?_
  refine x_aload_n C eL_law_2416 rfl ?_
  refine x_callSW (As := [_, _, _, _]) [_, _, _, _, _, _, _, _, _, _, _, _, _, _, _, _, _, _, _, _, _, _] C (wx_setShare_2 hK (t_X7_setShare_9 H.hX H.hT0 (by omega) (by omega) (by omega) (by omega)) (xwd_c (i := 1) H.hX rfl) H.n1 (rcv 0 rfl)) cw_setShare s_RL_278 eL_law_2417 rfl (fun _ _ h => WF_pick [0, 1, 23, 2, 3, 4, 5, 6, 7, 8, 9, 10, 11, 12, 13, 14, 15, 16, 17, 18, 19, 20, 21, 22, 24] rfl rfl h) rfl (nle rfl) (nle rfl) (by omega) (by omega) (fun _ _ => ?_)
  refine x_pick [_, _, _, _, _, _, _, _, _, _, _, _, _, _, _, _, _, _, _, _, _, _, _, _, _] [0, 1, 2, 3, 4, 5, 6, 7, 8, 9, 10, 11, 12, 13, 14, 15, 16, 17, 18, 19, 20, 21, 22, 23, 24] rfl rfl ?_
  refine x_istore [_, _, _, _, _, _, _, _, _] C eL_law_2420 rfl rfl (nlt rfl) ?_
  refine x_aload_n C eL_law_2422 rfl ?_
  refine x_argA C H.hx H.hbl H.hL eL_law_2423 eL_law_2424 eL_law_2426 eL_law_2427 eL_law_2428 rfl rfl (by omega) ha1 ?_
  refine x_argA C H.hx H.hbl H.hL eL_law_2429 eL_law_2430 eL_law_2432 eL_law_2433 eL_law_2434 rfl rfl (by omega) ha2 ?_
  have c1 : 0 ≤ a1 ∧ a1 ≤ n (-1) 0 - 1 := by first | trivial | omega | (simp only [if_true, if_false]; omega)
  have c2 : ¬ (1 ≤ a2 ∧ a2 ≤ 9) := by first | omega | (simp only [if_true, if_false]; omega)
  have hM := s_X8_setShare (G := G) (l := l) (o := x.o) (A := x.A) (I := I) (N := N9) (n := n) (b := b) (l9 := a1) (e9 := a2) (P := N) hK hI.hN.1 (by omega) (by omega) (by omega) (by have := hI.e6; have := hI.h6; omega)
  simp only [if_neg (show ¬ ((0 ≤ a1 ∧ a1 ≤ n (-1) 0 - 1) ∧ (1 ≤ a2 ∧ a2 ≤ 9) ∧ (True)) from fun q => c2 q.2.1), thr_2 c1 c2] at hM
  refine yV2r [_, _, _, _, _, _, _, _, _, _, _, _, _, _, _, _, _, _, _, _, _, _] [_, _, _, _, _, _, _, _, _, _, _, _, _, _, _, _, _, _, _, _, _, _, _, _, _] C hM v_X8_setShare vv_X8_setShare s_RL_280 eL_law_2435 (fun _ _ h => WF_pick [15, 16, 20, 0, 1, 2, 3, 4, 5, 6, 7, 8, 9, 10, 11, 12, 13, 14, 17, 18, 19, 21, 22, 23, 24] rfl rfl h) (rcv 15 rfl) rfl (nle rfl) (nle rfl) (by omega) (by omega) rfl ?_
  refine x_istore [_, _, _, _, _, _, _, _, _] C eL_law_2438 rfl rfl (nlt rfl) ?_
  refine x_aload_n C eL_law_2440 rfl ?_
  refine yV0r [_, _, _, _, _, _, _, _, _, _, _, _, _, _, _, _, _, _, _, _, _, _, _, _] [_, _, _, _, _, _, _, _, _, _, _, _, _, _, _, _, _, _, _, _, _, _, _, _, _] C (s_X8_thrown hK) v_X8_thrown vv_X8_thrown s_RL_145 eL_law_2441 (fun _ _ h => WF_pick [0, 1, 2, 3, 4, 5, 6, 7, 8, 9, 10, 11, 12, 13, 14, 15, 16, 17, 18, 19, 20, 21, 22, 23, 24] rfl rfl h) (rcv 0 rfl) rfl (nle rfl) (nle rfl) (by omega) (by omega) rfl ?_
  refine x_iload C eL_law_2444 rfl ?_
  refine x_icmp_val (by first | exact up_s _ _ _ | exact (up_n (by decide)).trans (up_s _ _ _)) 2451 C eL_law_2446 rfl ?_
  refine x_iload C eL_law_2451 rfl ?_
  refine x_if_ne 2468 C eL_law_2453 rfl (by omega) (fun _ => ?_) (fun h => absurd h (by decide))
  refine x_goto (pc' := 2791) C eL_law_2468 rfl ?_
  refine x_pick [_, _, _, _, _, _, _, _, _, _, _, _, _, _, _, _, _, _, _, _, _, _, _, _, _] [3, 4, 6, 7, 8, 9, 10, 11, 12, 13, 14, 15, 16, 17, 0, 1, 18, 19, 20, 2, 21, 22, 23, 5, 24] rfl rfl ?_
  refine x_lv [_, _, _, _, _, _, none, none, _] rfl (lx_drop _ [6, 7] rfl) ?_
  exact x_wide (by omega) (by omega) (K9 (hI.qI (by omega) (up_n (by decide)) (up_n (by decide)) (up_n (by decide)) (up_n (by decide)) (up_n (by decide)) (up_n (by decide))))

set_option maxHeartbeats 4000000 in
set_option maxRecDepth 100000 in
theorem lc_38_0 {G : Gm} {X : Cx} {l : Launch} {x : LFx} {k nn : Nat} {i b : Int} {J : Nat → Int} {M : Pool} {n : Net} {N K : Nat → Net} {Fu Fb : Nat → Int} {w : List Int} {z : Int} {I TL TB : Nat → Int} {N9 : Nat → Net} {f : Nat → Int64} {fD : Nat → UInt64} {a1 a2 a3 : Int} (H : LKn G l x) {nmL : String} (hC : OKc G X l RL nmL cL_law 9 (some .boolean) 1400 600000 6200000) (hI : INV b J M n N K Fu Fb w z I) (hb : b ≤ 15000000) (hk : k + 100 ≤ 600000) (hn : nn + 2200 ≤ 6200000) (hi : 0 ≤ i ∧ i + 6 ≤ (x.L : Int)) (ha1 : (x.xs (i + 1).toNat).toInt = a1) (ha2 : (x.xs (i + 2).toNat).toInt = a2) (ha3 : (x.xs (i + 3).toNat).toInt = a3) (hl : 0 ≤ a1 ∧ a1 < n (-1) 0) (ha : (0 ≤ a2 ∧ a2 ≤ n a1 1 - 1) ∧ a2 + 1 ≤ a3 ∧ a3 ≤ n a1 1) (K9 : LCont G X x (b + 8000) (k + 100) (nn + 2200) i) : WX G X k nn (LAT G x J M n N K Fu Fb w z I TL TB N9 f fD) 2323 (LLV x i) [] := by
  have C := hC
  have hK : KG G := H.hX.1.1.1
  have hH := hI.hN.1.1
  unfold HeadOk at hH
  have r1 : -2147483648 ≤ a1 ∧ a1 < 2147483648 := by rw [← ha1]; exact bI_toInt _
  have r2 : -2147483648 ≤ a2 ∧ a2 < 2147483648 := by rw [← ha2]; exact bI_toInt _
  have r3 : -2147483648 ≤ a3 ∧ a3 < 2147483648 := by rw [← ha3]; exact bI_toInt _
  refine x_aload_n C eL_law_2323 rfl ?_
  refine x_argA C H.hx H.hbl H.hL eL_law_2324 eL_law_2325 eL_law_2327 eL_law_2328 eL_law_2329 rfl rfl (by omega) ha1 ?_
  refine x_argA C H.hx H.hbl H.hL eL_law_2330 eL_law_2331 eL_law_2333 eL_law_2334 eL_law_2335 rfl rfl (by omega) ha2 ?_
  refine x_argA C H.hx H.hbl H.hL eL_law_2336 eL_law_2337 eL_law_2339 eL_law_2340 eL_law_2341 rfl rfl (by omega) ha3 ?_
  refine x_aload_n C eL_law_2342 rfl ?_
  refine x_callSW (As := [_, _, _, _, _]) [_, _, _, _, _, _, _, _, _, _, _, _, _, _, _, _, _, _] C (wn_setMarks hK (s_X7_setMarks hK hI.hN.1 (by omega) hI.h6 H.hX.1 (by omega) (by omega)) (rcv 0 rfl)) cw_setMarks s_RL_275 eL_law_2343 rfl (fun _ _ h => WF_pick [0, 1, 2, 3, 4, 12, 23, 5, 6, 7, 8, 9, 10, 11, 13, 14, 15, 16, 17, 18, 19, 20, 21, 22, 24] rfl rfl h) rfl (nle rfl) (nle rfl) (by omega) (by omega) (fun _ _ => ?_)
  refine x_pick [_, _, _, _, _, _, _, _, _, _, _, _, _, _, _, _, _, _, _, _, _, _, _, _, _] [0, 1, 2, 3, 4, 5, 6, 7, 8, 9, 10, 11, 12, 13, 14, 15, 16, 17, 18, 19, 20, 21, 22, 23, 24] rfl rfl ?_
  refine x_istore [_, _, _, _, _, _, _, _, _] C eL_law_2346 rfl rfl (nlt rfl) ?_
  refine x_aload_n C eL_law_2348 rfl ?_
  refine x_argA C H.hx H.hbl H.hL eL_law_2349 eL_law_2350 eL_law_2352 eL_law_2353 eL_law_2354 rfl rfl (by omega) ha1 ?_
  refine x_argA C H.hx H.hbl H.hL eL_law_2355 eL_law_2356 eL_law_2358 eL_law_2359 eL_law_2360 rfl rfl (by omega) ha2 ?_
  refine x_argA C H.hx H.hbl H.hL eL_law_2361 eL_law_2362 eL_law_2364 eL_law_2365 eL_law_2366 rfl rfl (by omega) ha3 ?_
  have c1 : 0 ≤ a1 ∧ a1 ≤ n (-1) 0 - 1 := by first | trivial | omega | (simp only [if_true, if_false]; omega)
  have c2 : (0 ≤ a1 ∧ a1 ≤ n (-1) 0 - 1) ∧ (0 ≤ a2 ∧ a2 ≤ n a1 1 - 1) ∧ a2 + 1 ≤ a3 ∧ a3 ≤ n a1 1 := by first | trivial | omega | (simp only [if_true, if_false]; omega)
  have c3 : True := by first | trivial | omega | (simp only [if_true, if_false]; omega)
  have hM := s_X8_setMarks (G := G) (l := l) (o := x.o) (A := x.A) (I := I) (N := N9) (n := n) (b := b) (l9 := a1) (a9 := a2) (c9 := a3) (P := N) hK hI.hN.1 (by omega) (by omega) (by omega) (by omega) (by have := hI.e6; have := hI.h6; omega)
  simp only [if_pos (show (0 ≤ a1 ∧ a1 ≤ n (-1) 0 - 1) ∧ ((0 ≤ a1 ∧ a1 ≤ n (-1) 0 - 1) ∧ (0 ≤ a2 ∧ a2 ≤ n a1 1 - 1) ∧ a2 + 1 ≤ a3 ∧ a3 ≤ n a1 1) ∧ (True) from ⟨c1, c2, c3⟩), thr_0 c1 c2 c3] at hM
  simp only [hI.e6] at hM
  refine yV3r [_, _, _, _, _, _, _, _, _, _, _, _, _, _, _, _, _, _, _, _, _, _] [_, _, _, _, _, _, _, _, _, _, _, _, _, _, _, _, _, _, _, _, _, _, _, _, _] C hM v_X8_setMarks vv_X8_setMarks s_RL_277 eL_law_2367 (fun _ _ h => WF_pick [15, 16, 20, 0, 1, 2, 3, 4, 5, 6, 7, 8, 9, 10, 11, 12, 13, 14, 17, 18, 19, 21, 22, 23, 24] rfl rfl h) (rcv 15 rfl) rfl (nle rfl) (nle rfl) (by omega) (by omega) rfl ?_
  refine x_istore [_, _, _, _, _, _, _, _, _] C eL_law_2370 rfl rfl (nlt rfl) ?_
  refine x_aload_n C eL_law_2372 rfl ?_
  refine yV0r [_, _, _, _, _, _, _, _, _, _, _, _, _, _, _, _, _, _, _, _, _, _, _, _] [_, _, _, _, _, _, _, _, _, _, _, _, _, _, _, _, _, _, _, _, _, _, _, _, _] C (s_X8_thrown hK) v_X8_thrown vv_X8_thrown s_RL_145 eL_law_2373 (fun _ _ h => WF_pick [0, 1, 2, 3, 4, 5, 6, 7, 8, 9, 10, 11, 12, 13, 14, 15, 16, 17, 18, 19, 20, 21, 22, 23, 24] rfl rfl h) (rcv 0 rfl) rfl (nle rfl) (nle rfl) (by omega) (by omega) rfl ?_
  refine x_iload C eL_law_2376 rfl ?_
  refine x_icmp_val (by first | exact up_s _ _ _ | exact (up_n (by decide)).trans (up_s _ _ _)) 2383 C eL_law_2378 rfl ?_
  refine x_iload C eL_law_2383 rfl ?_
  refine x_if_ne 2400 C eL_law_2385 rfl (by omega) (fun h => absurd rfl h) (fun _ => ?_)
  refine x_aload_n C eL_law_2388 rfl ?_
  refine x_iconst C eL_law_2389 ?_
  refine x_lald (N := 1) 9 C eL_law_2390 rfl (by decide) (by omega) ?_
  refine x_iload C eL_law_2391 rfl ?_
  refine x_i2lR C eL_law_2393 ?_
  refine x_lcmp_same 2400 (by first | exact if_pos rfl | (rw [if_pos rfl]; rfl) | decide) C eL_law_2394 eL_law_2395 rfl ?_
  refine x_goto (pc' := 2791) C eL_law_2400 rfl ?_
  refine x_pick [_, _, _, _, _, _, _, _, _, _, _, _, _, _, _, _, _, _, _, _, _, _, _, _, _] [3, 4, 5, 6, 7, 10, 11, 12, 13, 14, 15, 16, 8, 17, 0, 1, 18, 19, 20, 2, 21, 22, 23, 9, 24] rfl rfl ?_
  refine x_lv [_, _, _, _, _, _, none, none, _] rfl (lx_drop _ [6, 7] rfl) ?_
  exact x_wide (by omega) (by omega) (K9 (hI.chg (by omega) ((GOK_marks hI.hN hl (by omega)).mono (by omega)) (up_s _ _ _) ((up_n (by decide)).trans (up_n (by decide))) ((up_n (by decide)).trans (up_n (by decide))) ((up_n (by decide)).trans (up_n (by decide))) ((up_n (by decide)).trans (up_n (by decide))) ((up_n (by decide)).trans (up_n (by decide)))))

set_option maxHeartbeats 4000000 in
set_option maxRecDepth 100000 in
theorem lc_38_1 {G : Gm} {X : Cx} {l : Launch} {x : LFx} {k nn : Nat} {i b : Int} {J : Nat → Int} {M : Pool} {n : Net} {N K : Nat → Net} {Fu Fb : Nat → Int} {w : List Int} {z : Int} {I TL TB : Nat → Int} {N9 : Nat → Net} {f : Nat → Int64} {fD : Nat → UInt64} {a1 a2 a3 : Int} (H : LKn G l x) {nmL : String} (hC : OKc G X l RL nmL cL_law 9 (some .boolean) 1400 600000 6200000) (hI : INV b J M n N K Fu Fb w z I) (hb : b ≤ 15000000) (hk : k + 100 ≤ 600000) (hn : nn + 2200 ≤ 6200000) (hi : 0 ≤ i ∧ i + 6 ≤ (x.L : Int)) (ha1 : (x.xs (i + 1).toNat).toInt = a1) (ha2 : (x.xs (i + 2).toNat).toInt = a2) (ha3 : (x.xs (i + 3).toNat).toInt = a3) (hl : ¬ (0 ≤ a1 ∧ a1 < n (-1) 0)) (K9 : LCont G X x (b + 8000) (k + 100) (nn + 2200) i) : WX G X k nn (LAT G x J M n N K Fu Fb w z I TL TB N9 f fD) 2323 (LLV x i) [] := by
  have C := hC
  have hK : KG G := H.hX.1.1.1
  have hH := hI.hN.1.1
  unfold HeadOk at hH
  have r1 : -2147483648 ≤ a1 ∧ a1 < 2147483648 := by rw [← ha1]; exact bI_toInt _
  have r2 : -2147483648 ≤ a2 ∧ a2 < 2147483648 := by rw [← ha2]; exact bI_toInt _
  have r3 : -2147483648 ≤ a3 ∧ a3 < 2147483648 := by rw [← ha3]; exact bI_toInt _
  refine x_aload_n C eL_law_2323 rfl ?_
  refine x_argA C H.hx H.hbl H.hL eL_law_2324 eL_law_2325 eL_law_2327 eL_law_2328 eL_law_2329 rfl rfl (by omega) ha1 ?_
  refine x_argA C H.hx H.hbl H.hL eL_law_2330 eL_law_2331 eL_law_2333 eL_law_2334 eL_law_2335 rfl rfl (by omega) ha2 ?_
  refine x_argA C H.hx H.hbl H.hL eL_law_2336 eL_law_2337 eL_law_2339 eL_law_2340 eL_law_2341 rfl rfl (by omega) ha3 ?_
  refine x_aload_n C eL_law_2342 rfl ?_
  refine x_callSW (As := [_, _, _, _, _]) [_, _, _, _, _, _, _, _, _, _, _, _, _, _, _, _, _, _, _, _, _, _] C (wx_setMarks_1 hK (t_X7_setMarks_2 H.hX H.hT0 (by omega) (by omega) (by omega)) (xwd_c (i := 0) H.hX rfl) (rcv 0 rfl)) cw_setMarks s_RL_275 eL_law_2343 rfl (fun _ _ h => WF_pick [0, 1, 23, 2, 3, 4, 5, 6, 7, 8, 9, 10, 11, 12, 13, 14, 15, 16, 17, 18, 19, 20, 21, 22, 24] rfl rfl h) rfl (nle rfl) (nle rfl) (by omega) (by omega) (fun _ _ => ?_)
  refine x_pick [_, _, _, _, _, _, _, _, _, _, _, _, _, _, _, _, _, _, _, _, _, _, _, _, _] [0, 1, 2, 3, 4, 5, 6, 7, 8, 9, 10, 11, 12, 13, 14, 15, 16, 17, 18, 19, 20, 21, 22, 23, 24] rfl rfl ?_
  refine x_istore [_, _, _, _, _, _, _, _, _] C eL_law_2346 rfl rfl (nlt rfl) ?_
  refine x_aload_n C eL_law_2348 rfl ?_
  refine x_argA C H.hx H.hbl H.hL eL_law_2349 eL_law_2350 eL_law_2352 eL_law_2353 eL_law_2354 rfl rfl (by omega) ha1 ?_
  refine x_argA C H.hx H.hbl H.hL eL_law_2355 eL_law_2356 eL_law_2358 eL_law_2359 eL_law_2360 rfl rfl (by omega) ha2 ?_
  refine x_argA C H.hx H.hbl H.hL eL_law_2361 eL_law_2362 eL_law_2364 eL_law_2365 eL_law_2366 rfl rfl (by omega) ha3 ?_
  have c1 : ¬ (0 ≤ a1 ∧ a1 ≤ n (-1) 0 - 1) := by first | omega | (simp only [if_true, if_false]; omega)
  have hM := s_X8_setMarks (G := G) (l := l) (o := x.o) (A := x.A) (I := I) (N := N9) (n := n) (b := b) (l9 := a1) (a9 := a2) (c9 := a3) (P := N) hK hI.hN.1 (by omega) (by omega) (by omega) (by omega) (by have := hI.e6; have := hI.h6; omega)
  simp only [if_neg (show ¬ ((0 ≤ a1 ∧ a1 ≤ n (-1) 0 - 1) ∧ ((0 ≤ a1 ∧ a1 ≤ n (-1) 0 - 1) ∧ (0 ≤ a2 ∧ a2 ≤ n a1 1 - 1) ∧ a2 + 1 ≤ a3 ∧ a3 ≤ n a1 1) ∧ (True)) from fun q => c1 q.1), thr_1 c1] at hM
  refine yV3r [_, _, _, _, _, _, _, _, _, _, _, _, _, _, _, _, _, _, _, _, _, _] [_, _, _, _, _, _, _, _, _, _, _, _, _, _, _, _, _, _, _, _, _, _, _, _, _] C hM v_X8_setMarks vv_X8_setMarks s_RL_277 eL_law_2367 (fun _ _ h => WF_pick [15, 16, 20, 0, 1, 2, 3, 4, 5, 6, 7, 8, 9, 10, 11, 12, 13, 14, 17, 18, 19, 21, 22, 23, 24] rfl rfl h) (rcv 15 rfl) rfl (nle rfl) (nle rfl) (by omega) (by omega) rfl ?_
  refine x_istore [_, _, _, _, _, _, _, _, _] C eL_law_2370 rfl rfl (nlt rfl) ?_
  refine x_aload_n C eL_law_2372 rfl ?_
  refine yV0r [_, _, _, _, _, _, _, _, _, _, _, _, _, _, _, _, _, _, _, _, _, _, _, _] [_, _, _, _, _, _, _, _, _, _, _, _, _, _, _, _, _, _, _, _, _, _, _, _, _] C (s_X8_thrown hK) v_X8_thrown vv_X8_thrown s_RL_145 eL_law_2373 (fun _ _ h => WF_pick [0, 1, 2, 3, 4, 5, 6, 7, 8, 9, 10, 11, 12, 13, 14, 15, 16, 17, 18, 19, 20, 21, 22, 23, 24] rfl rfl h) (rcv 0 rfl) rfl (nle rfl) (nle rfl) (by omega) (by omega) rfl ?_
  refine x_iload C eL_law_2376 rfl ?_
  refine x_icmp_val (by first | exact up_s _ _ _ | exact (up_n (by decide)).trans (up_s _ _ _)) 2383 C eL_law_2378 rfl ?_
  refine x_iload C eL_law_2383 rfl ?_
  refine x_if_ne 2400 C eL_law_2385 rfl (by omega) (fun _ => ?_) (fun h => absurd h (by decide))
  refine x_goto (pc' := 2791) C eL_law_2400 rfl ?_
  refine x_pick [_, _, _, _, _, _, _, _, _, _, _, _, _, _, _, _, _, _, _, _, _, _, _, _, _] [3, 4, 6, 7, 8, 9, 10, 11, 12, 13, 14, 15, 16, 17, 0, 1, 18, 19, 20, 2, 21, 22, 23, 5, 24] rfl rfl ?_
  refine x_lv [_, _, _, _, _, _, none, none, _] rfl (lx_drop _ [6, 7] rfl) ?_
  exact x_wide (by omega) (by omega) (K9 (hI.qI (by omega) (up_n (by decide)) (up_n (by decide)) (up_n (by decide)) (up_n (by decide)) (up_n (by decide)) (up_n (by decide))))

set_option maxHeartbeats 4000000 in
set_option maxRecDepth 100000 in
theorem lc_38_2 {G : Gm} {X : Cx} {l : Launch} {x : LFx} {k nn : Nat} {i b : Int} {J : Nat → Int} {M : Pool} {n : Net} {N K : Nat → Net} {Fu Fb : Nat → Int} {w : List Int} {z : Int} {I TL TB : Nat → Int} {N9 : Nat → Net} {f : Nat → Int64} {fD : Nat → UInt64} {a1 a2 a3 : Int} (H : LKn G l x) {nmL : String} (hC : OKc G X l RL nmL cL_law 9 (some .boolean) 1400 600000 6200000) (hI : INV b J M n N K Fu Fb w z I) (hb : b ≤ 15000000) (hk : k + 100 ≤ 600000) (hn : nn + 2200 ≤ 6200000) (hi : 0 ≤ i ∧ i + 6 ≤ (x.L : Int)) (ha1 : (x.xs (i + 1).toNat).toInt = a1) (ha2 : (x.xs (i + 2).toNat).toInt = a2) (ha3 : (x.xs (i + 3).toNat).toInt = a3) (hl : 0 ≤ a1 ∧ a1 < n (-1) 0) (ha : ¬ (0 ≤ a2 ∧ a2 ≤ n a1 1 - 1)) (K9 : LCont G X x (b + 8000) (k + 100) (nn + 2200) i) : WX G X k nn (LAT G x J M n N K Fu Fb w z I TL TB N9 f fD) 2323 (LLV x i) [] := by
  have C := hC
  have hK : KG G := H.hX.1.1.1
  have hH := hI.hN.1.1
  unfold HeadOk at hH
  have r1 : -2147483648 ≤ a1 ∧ a1 < 2147483648 := by rw [← ha1]; exact bI_toInt _
  have r2 : -2147483648 ≤ a2 ∧ a2 < 2147483648 := by rw [← ha2]; exact bI_toInt _
  have r3 : -2147483648 ≤ a3 ∧ a3 < 2147483648 := by rw [← ha3]; exact bI_toInt _
  refine x_aload_n C eL_law_2323 rfl ?_
  refine x_argA C H.hx H.hbl H.hL eL_law_2324 eL_law_2325 eL_law_2327 eL_law_2328 eL_law_2329 rfl rfl (by omega) ha1 ?_
  refine x_argA C H.hx H.hbl H.hL eL_law_2330 eL_law_2331 eL_law_2333 eL_law_2334 eL_law_2335 rfl rfl (by omega) ha2 ?_
  refine x_argA C H.hx H.hbl H.hL eL_law_2336 eL_law_2337 eL_law_2339 eL_law_2340 eL_law_2341 rfl rfl (by omega) ha3 ?_
  refine x_aload_n C eL_law_2342 rfl ?_
  refine x_callSW (As := [_, _, _, _, _]) [_, _, _, _, _, _, _, _, _, _, _, _, _, _, _, _, _, _, _] C (wx_setMarks_2 hK (t_X7_setMarks_24 H.hX H.hT0 hI.hN.1 (by omega) (by omega) (by omega) (by omega)) (xwd_c (i := 1) H.hX rfl) H.n1 (rcv 0 rfl)) cw_setMarks s_RL_275 eL_law_2343 rfl (fun _ _ h => WF_pick [0, 1, 2, 3, 4, 23, 5, 6, 7, 8, 9, 10, 11, 12, 13, 14, 15, 16, 17, 18, 19, 20, 21, 22, 24] rfl rfl h) rfl (nle rfl) (nle rfl) (by omega) (by omega) (fun _ _ => ?_)
  refine x_pick [_, _, _, _, _, _, _, _, _, _, _, _, _, _, _, _, _, _, _, _, _, _, _, _, _] [0, 1, 2, 3, 4, 5, 6, 7, 8, 9, 10, 11, 12, 13, 14, 15, 16, 17, 18, 19, 20, 21, 22, 23, 24] rfl rfl ?_
  refine x_istore [_, _, _, _, _, _, _, _, _] C eL_law_2346 rfl rfl (nlt rfl) ?_
  refine x_aload_n C eL_law_2348 rfl ?_
  refine x_argA C H.hx H.hbl H.hL eL_law_2349 eL_law_2350 eL_law_2352 eL_law_2353 eL_law_2354 rfl rfl (by omega) ha1 ?_
  refine x_argA C H.hx H.hbl H.hL eL_law_2355 eL_law_2356 eL_law_2358 eL_law_2359 eL_law_2360 rfl rfl (by omega) ha2 ?_
  refine x_argA C H.hx H.hbl H.hL eL_law_2361 eL_law_2362 eL_law_2364 eL_law_2365 eL_law_2366 rfl rfl (by omega) ha3 ?_
  have c1 : 0 ≤ a1 ∧ a1 ≤ n (-1) 0 - 1 := by first | trivial | omega | (simp only [if_true, if_false]; omega)
  have c2 : ¬ ((0 ≤ a1 ∧ a1 ≤ n (-1) 0 - 1) ∧ (0 ≤ a2 ∧ a2 ≤ n a1 1 - 1) ∧ a2 + 1 ≤ a3 ∧ a3 ≤ n a1 1) := by first | omega | (simp only [if_true, if_false]; omega)
  have hM := s_X8_setMarks (G := G) (l := l) (o := x.o) (A := x.A) (I := I) (N := N9) (n := n) (b := b) (l9 := a1) (a9 := a2) (c9 := a3) (P := N) hK hI.hN.1 (by omega) (by omega) (by omega) (by omega) (by have := hI.e6; have := hI.h6; omega)
  simp only [if_neg (show ¬ ((0 ≤ a1 ∧ a1 ≤ n (-1) 0 - 1) ∧ ((0 ≤ a1 ∧ a1 ≤ n (-1) 0 - 1) ∧ (0 ≤ a2 ∧ a2 ≤ n a1 1 - 1) ∧ a2 + 1 ≤ a3 ∧ a3 ≤ n a1 1) ∧ (True)) from fun q => c2 q.2.1), thr_2 c1 c2] at hM
  refine yV3r [_, _, _, _, _, _, _, _, _, _, _, _, _, _, _, _, _, _, _, _, _, _] [_, _, _, _, _, _, _, _, _, _, _, _, _, _, _, _, _, _, _, _, _, _, _, _, _] C hM v_X8_setMarks vv_X8_setMarks s_RL_277 eL_law_2367 (fun _ _ h => WF_pick [15, 16, 20, 0, 1, 2, 3, 4, 5, 6, 7, 8, 9, 10, 11, 12, 13, 14, 17, 18, 19, 21, 22, 23, 24] rfl rfl h) (rcv 15 rfl) rfl (nle rfl) (nle rfl) (by omega) (by omega) rfl ?_
  refine x_istore [_, _, _, _, _, _, _, _, _] C eL_law_2370 rfl rfl (nlt rfl) ?_
  refine x_aload_n C eL_law_2372 rfl ?_
  refine yV0r [_, _, _, _, _, _, _, _, _, _, _, _, _, _, _, _, _, _, _, _, _, _, _, _] [_, _, _, _, _, _, _, _, _, _, _, _, _, _, _, _, _, _, _, _, _, _, _, _, _] C (s_X8_thrown hK) v_X8_thrown vv_X8_thrown s_RL_145 eL_law_2373 (fun _ _ h => WF_pick [0, 1, 2, 3, 4, 5, 6, 7, 8, 9, 10, 11, 12, 13, 14, 15, 16, 17, 18, 19, 20, 21, 22, 23, 24] rfl rfl h) (rcv 0 rfl) rfl (nle rfl) (nle rfl) (by omega) (by omega) rfl ?_
  refine x_iload C eL_law_2376 rfl ?_
  refine x_icmp_val (by first | exact up_s _ _ _ | exact (up_n (by decide)).trans (up_s _ _ _)) 2383 C eL_law_2378 rfl ?_
  refine x_iload C eL_law_2383 rfl ?_
  refine x_if_ne 2400 C eL_law_2385 rfl (by omega) (fun _ => ?_) (fun h => absurd h (by decide))
  refine x_goto (pc' := 2791) C eL_law_2400 rfl ?_
  refine x_pick [_, _, _, _, _, _, _, _, _, _, _, _, _, _, _, _, _, _, _, _, _, _, _, _, _] [3, 4, 5, 6, 7, 9, 10, 11, 12, 13, 14, 15, 16, 17, 0, 1, 18, 19, 20, 2, 21, 22, 23, 8, 24] rfl rfl ?_
  refine x_lv [_, _, _, _, _, _, none, none, _] rfl (lx_drop _ [6, 7] rfl) ?_
  exact x_wide (by omega) (by omega) (K9 (hI.qI (by omega) (up_n (by decide)) (up_n (by decide)) (up_n (by decide)) (up_n (by decide)) (up_n (by decide)) (up_n (by decide))))

set_option maxHeartbeats 4000000 in
set_option maxRecDepth 100000 in
theorem lc_38_2b {G : Gm} {X : Cx} {l : Launch} {x : LFx} {k nn : Nat} {i b : Int} {J : Nat → Int} {M : Pool} {n : Net} {N K : Nat → Net} {Fu Fb : Nat → Int} {w : List Int} {z : Int} {I TL TB : Nat → Int} {N9 : Nat → Net} {f : Nat → Int64} {fD : Nat → UInt64} {a1 a2 a3 : Int} (H : LKn G l x) {nmL : String} (hC : OKc G X l RL nmL cL_law 9 (some .boolean) 1400 600000 6200000) (hI : INV b J M n N K Fu Fb w z I) (hb : b ≤ 15000000) (hk : k + 100 ≤ 600000) (hn : nn + 2200 ≤ 6200000) (hi : 0 ≤ i ∧ i + 6 ≤ (x.L : Int)) (ha1 : (x.xs (i + 1).toNat).toInt = a1) (ha2 : (x.xs (i + 2).toNat).toInt = a2) (ha3 : (x.xs (i + 3).toNat).toInt = a3) (hl : 0 ≤ a1 ∧ a1 < n (-1) 0) (ha : (0 ≤ a2 ∧ a2 ≤ n a1 1 - 1) ∧ ¬ (a2 + 1 ≤ a3 ∧ a3 ≤ n a1 1)) (K9 : LCont G X x (b + 8000) (k + 100) (nn + 2200) i) : WX G X k nn (LAT G x J M n N K Fu Fb w z I TL TB N9 f fD) 2323 (LLV x i) [] := by
  have C := hC
  have hK : KG G := H.hX.1.1.1
  have hH := hI.hN.1.1
  unfold HeadOk at hH
  have r1 : -2147483648 ≤ a1 ∧ a1 < 2147483648 := by rw [← ha1]; exact bI_toInt _
  have r2 : -2147483648 ≤ a2 ∧ a2 < 2147483648 := by rw [← ha2]; exact bI_toInt _
  have r3 : -2147483648 ≤ a3 ∧ a3 < 2147483648 := by rw [← ha3]; exact bI_toInt _
  refine x_aload_n C eL_law_2323 rfl ?_
  refine x_argA C H.hx H.hbl H.hL eL_law_2324 eL_law_2325 eL_law_2327 eL_law_2328 eL_law_2329 rfl rfl (by omega) ha1 ?_
  refine x_argA C H.hx H.hbl H.hL eL_law_2330 eL_law_2331 eL_law_2333 eL_law_2334 eL_law_2335 rfl rfl (by omega) ha2 ?_
  refine x_argA C H.hx H.hbl H.hL eL_law_2336 eL_law_2337 eL_law_2339 eL_law_2340 eL_law_2341 rfl rfl (by omega) ha3 ?_
  refine x_aload_n C eL_law_2342 rfl ?_
  refine x_callSW (As := [_, _, _, _, _]) [_, _, _, _, _, _, _, _, _, _, _, _, _, _, _, _, _, _, _] C (wx_setMarks_2 hK (t_X7_setMarks_36 H.hX H.hT0 hI.hN.1 (by omega) (by omega) (by omega) (by omega)) (xwd_c (i := 1) H.hX rfl) H.n1 (rcv 0 rfl)) cw_setMarks s_RL_275 eL_law_2343 rfl (fun _ _ h => WF_pick [0, 1, 2, 3, 4, 23, 5, 6, 7, 8, 9, 10, 11, 12, 13, 14, 15, 16, 17, 18, 19, 20, 21, 22, 24] rfl rfl h) rfl (nle rfl) (nle rfl) (by omega) (by omega) (fun _ _ => ?_)
  refine x_pick [_, _, _, _, _, _, _, _, _, _, _, _, _, _, _, _, _, _, _, _, _, _, _, _, _] [0, 1, 2, 3, 4, 5, 6, 7, 8, 9, 10, 11, 12, 13, 14, 15, 16, 17, 18, 19, 20, 21, 22, 23, 24] rfl rfl ?_
  refine x_istore [_, _, _, _, _, _, _, _, _] C eL_law_2346 rfl rfl (nlt rfl) ?_
  refine x_aload_n C eL_law_2348 rfl ?_
  refine x_argA C H.hx H.hbl H.hL eL_law_2349 eL_law_2350 eL_law_2352 eL_law_2353 eL_law_2354 rfl rfl (by omega) ha1 ?_
  refine x_argA C H.hx H.hbl H.hL eL_law_2355 eL_law_2356 eL_law_2358 eL_law_2359 eL_law_2360 rfl rfl (by omega) ha2 ?_
  refine x_argA C H.hx H.hbl H.hL eL_law_2361 eL_law_2362 eL_law_2364 eL_law_2365 eL_law_2366 rfl rfl (by omega) ha3 ?_
  have c1 : 0 ≤ a1 ∧ a1 ≤ n (-1) 0 - 1 := by first | trivial | omega | (simp only [if_true, if_false]; omega)
  have c2 : ¬ ((0 ≤ a1 ∧ a1 ≤ n (-1) 0 - 1) ∧ (0 ≤ a2 ∧ a2 ≤ n a1 1 - 1) ∧ a2 + 1 ≤ a3 ∧ a3 ≤ n a1 1) := by first | omega | (simp only [if_true, if_false]; omega)
  have hM := s_X8_setMarks (G := G) (l := l) (o := x.o) (A := x.A) (I := I) (N := N9) (n := n) (b := b) (l9 := a1) (a9 := a2) (c9 := a3) (P := N) hK hI.hN.1 (by omega) (by omega) (by omega) (by omega) (by have := hI.e6; have := hI.h6; omega)
  simp only [if_neg (show ¬ ((0 ≤ a1 ∧ a1 ≤ n (-1) 0 - 1) ∧ ((0 ≤ a1 ∧ a1 ≤ n (-1) 0 - 1) ∧ (0 ≤ a2 ∧ a2 ≤ n a1 1 - 1) ∧ a2 + 1 ≤ a3 ∧ a3 ≤ n a1 1) ∧ (True)) from fun q => c2 q.2.1), thr_2 c1 c2] at hM
  refine yV3r [_, _, _, _, _, _, _, _, _, _, _, _, _, _, _, _, _, _, _, _, _, _] [_, _, _, _, _, _, _, _, _, _, _, _, _, _, _, _, _, _, _, _, _, _, _, _, _] C hM v_X8_setMarks vv_X8_setMarks s_RL_277 eL_law_2367 (fun _ _ h => WF_pick [15, 16, 20, 0, 1, 2, 3, 4, 5, 6, 7, 8, 9, 10, 11, 12, 13, 14, 17, 18, 19, 21, 22, 23, 24] rfl rfl h) (rcv 15 rfl) rfl (nle rfl) (nle rfl) (by omega) (by omega) rfl ?_
  refine x_istore [_, _, _, _, _, _, _, _, _] C eL_law_2370 rfl rfl (nlt rfl) ?_
  refine x_aload_n C eL_law_2372 rfl ?_
  refine yV0r [_, _, _, _, _, _, _, _, _, _, _, _, _, _, _, _, _, _, _, _, _, _, _, _] [_, _, _, _, _, _, _, _, _, _, _, _, _, _, _, _, _, _, _, _, _, _, _, _, _] C (s_X8_thrown hK) v_X8_thrown vv_X8_thrown s_RL_145 eL_law_2373 (fun _ _ h => WF_pick [0, 1, 2, 3, 4, 5, 6, 7, 8, 9, 10, 11, 12, 13, 14, 15, 16, 17, 18, 19, 20, 21, 22, 23, 24] rfl rfl h) (rcv 0 rfl) rfl (nle rfl) (nle rfl) (by omega) (by omega) rfl ?_
  refine x_iload C eL_law_2376 rfl ?_
  refine x_icmp_val (by first | exact up_s _ _ _ | exact (up_n (by decide)).trans (up_s _ _ _)) 2383 C eL_law_2378 rfl ?_
  refine x_iload C eL_law_2383 rfl ?_
  refine x_if_ne 2400 C eL_law_2385 rfl (by omega) (fun _ => ?_) (fun h => absurd h (by decide))
  refine x_goto (pc' := 2791) C eL_law_2400 rfl ?_
  refine x_pick [_, _, _, _, _, _, _, _, _, _, _, _, _, _, _, _, _, _, _, _, _, _, _, _, _] [3, 4, 5, 6, 7, 9, 10, 11, 12, 13, 14, 15, 16, 17, 0, 1, 18, 19, 20, 2, 21, 22, 23, 8, 24] rfl rfl ?_
  refine x_lv [_, _, _, _, _, _, none, none, _] rfl (lx_drop _ [6, 7] rfl) ?_
  exact x_wide (by omega) (by omega) (K9 (hI.qI (by omega) (up_n (by decide)) (up_n (by decide)) (up_n (by decide)) (up_n (by decide)) (up_n (by decide)) (up_n (by decide))))

set_option maxHeartbeats 4000000 in
set_option maxRecDepth 100000 in
theorem lc_30_0 {G : Gm} {X : Cx} {l : Launch} {x : LFx} {k nn : Nat} {i b : Int} {J : Nat → Int} {M : Pool} {n : Net} {N K : Nat → Net} {Fu Fb : Nat → Int} {w : List Int} {z : Int} {I TL TB : Nat → Int} {N9 : Nat → Net} {f : Nat → Int64} {fD : Nat → UInt64} {a1 a2 a3 : Int} (H : LKn G l x) {nmL : String} (hC : OKc G X l RL nmL cL_law 9 (some .boolean) 1400 600000 6200000) (hI : INV b J M n N K Fu Fb w z I) (hb : b ≤ 15000000) (hk : k + 100 ≤ 600000) (hn : nn + 2200 ≤ 6200000) (hi : 0 ≤ i ∧ i + 6 ≤ (x.L : Int)) (ha1 : (x.xs (i + 1).toNat).toInt = a1) (ha2 : (x.xs (i + 2).toNat).toInt = a2) (ha3 : (x.xs (i + 3).toNat).toInt = a3) (hl : 0 ≤ a1 ∧ a1 < n (-1) 0) (hv : 1 ≤ a2 ∧ a2 ≤ 127) (ht : 1 ≤ a3 ∧ a3 ≤ 60) (K9 : LCont G X x (b + 8000) (k + 100) (nn + 2200) i) : WX G X k nn (LAT G x J M n N K Fu Fb w z I TL TB N9 f fD) 1744 (LLV x i) [] := by
  have C := hC
  have hK : KG G := H.hX.1.1.1
  have hH := hI.hN.1.1
  unfold HeadOk at hH
  have r1 : -2147483648 ≤ a1 ∧ a1 < 2147483648 := by rw [← ha1]; exact bI_toInt _
  have r2 : -2147483648 ≤ a2 ∧ a2 < 2147483648 := by rw [← ha2]; exact bI_toInt _
  have r3 : -2147483648 ≤ a3 ∧ a3 < 2147483648 := by rw [← ha3]; exact bI_toInt _
  refine x_aload_n C eL_law_1744 rfl ?_
  refine x_argA C H.hx H.hbl H.hL eL_law_1745 eL_law_1746 eL_law_1748 eL_law_1749 eL_law_1750 rfl rfl (by omega) ha1 ?_
  refine x_argA C H.hx H.hbl H.hL eL_law_1751 eL_law_1752 eL_law_1754 eL_law_1755 eL_law_1756 rfl rfl (by omega) ha2 ?_
  refine x_argA C H.hx H.hbl H.hL eL_law_1757 eL_law_1758 eL_law_1760 eL_law_1761 eL_law_1762 rfl rfl (by omega) ha3 ?_
  refine x_aload_n C eL_law_1763 rfl ?_
  refine x_callSW (As := [_, _, _, _, _]) [_, _, _, _, _, _, _, _, _, _, _, _, _, _, _, _, _, _] C (wn_type hK (s_X7_type hK hI.hN.1 (by omega) hI.h6 H.hX.1 (by omega) hv (by omega)) (rcv 0 rfl)) cw_type s_RL_249 eL_law_1764 rfl (fun _ _ h => WF_pick [0, 1, 2, 3, 4, 12, 23, 5, 6, 7, 8, 9, 10, 11, 13, 14, 15, 16, 17, 18, 19, 20, 21, 22, 24] rfl rfl h) rfl (nle rfl) (nle rfl) (by omega) (by omega) (fun _ _ => ?_)
  refine x_pick [_, _, _, _, _, _, _, _, _, _, _, _, _, _, _, _, _, _, _, _, _, _, _, _, _] [0, 1, 2, 3, 4, 5, 6, 7, 8, 9, 10, 11, 12, 13, 14, 15, 16, 17, 18, 19, 20, 21, 22, 23, 24] rfl rfl ?_
  refine x_istore [_, _, _, _, _, _, _, _, _] C eL_law_1767 rfl rfl (nlt rfl) ?_
  refine x_aload_n C eL_law_1769 rfl ?_
  refine x_argA C H.hx H.hbl H.hL eL_law_1770 eL_law_1771 eL_law_1773 eL_law_1774 eL_law_1775 rfl rfl (by omega) ha1 ?_
  refine x_argA C H.hx H.hbl H.hL eL_law_1776 eL_law_1777 eL_law_1779 eL_law_1780 eL_law_1781 rfl rfl (by omega) ha2 ?_
  refine x_argA C H.hx H.hbl H.hL eL_law_1782 eL_law_1783 eL_law_1785 eL_law_1786 eL_law_1787 rfl rfl (by omega) ha3 ?_
  have c1 : 0 ≤ a1 ∧ a1 ≤ n (-1) 0 - 1 := by first | trivial | omega | (simp only [if_true, if_false]; omega)
  have c2 : (1 ≤ a2 ∧ a2 ≤ 127) ∧ 1 ≤ a3 ∧ a3 ≤ 60 := by first | trivial | omega | (simp only [if_true, if_false]; omega)
  have c3 : True := by first | trivial | omega | (simp only [if_true, if_false]; omega)
  have hM := s_X8_type (G := G) (l := l) (o := x.o) (A := x.A) (I := I) (N := N9) (n := n) (b := b) (l9 := a1) (v9 := a2) (t9 := a3) (P := N) hK hI.hN.1 (by omega) (by omega) (by omega) (by omega) (by have := hI.e6; have := hI.h6; omega)
  simp only [if_pos (show (0 ≤ a1 ∧ a1 ≤ n (-1) 0 - 1) ∧ ((1 ≤ a2 ∧ a2 ≤ 127) ∧ 1 ≤ a3 ∧ a3 ≤ 60) ∧ (True) from ⟨c1, c2, c3⟩), thr_0 c1 c2 c3] at hM
  simp only [hI.e6] at hM
  refine yV3r [_, _, _, _, _, _, _, _, _, _, _, _, _, _, _, _, _, _, _, _, _, _] [_, _, _, _, _, _, _, _, _, _, _, _, _, _, _, _, _, _, _, _, _, _, _, _, _] C hM v_X8_type vv_X8_type s_RL_252 eL_law_1788 (fun _ _ h => WF_pick [15, 16, 20, 0, 1, 2, 3, 4, 5, 6, 7, 8, 9, 10, 11, 12, 13, 14, 17, 18, 19, 21, 22, 23, 24] rfl rfl h) (rcv 15 rfl) rfl (nle rfl) (nle rfl) (by omega) (by omega) rfl ?_
  refine x_istore [_, _, _, _, _, _, _, _, _] C eL_law_1791 rfl rfl (nlt rfl) ?_
  refine x_aload_n C eL_law_1793 rfl ?_
  refine yV0r [_, _, _, _, _, _, _, _, _, _, _, _, _, _, _, _, _, _, _, _, _, _, _, _] [_, _, _, _, _, _, _, _, _, _, _, _, _, _, _, _, _, _, _, _, _, _, _, _, _] C (s_X8_thrown hK) v_X8_thrown vv_X8_thrown s_RL_145 eL_law_1794 (fun _ _ h => WF_pick [0, 1, 2, 3, 4, 5, 6, 7, 8, 9, 10, 11, 12, 13, 14, 15, 16, 17, 18, 19, 20, 21, 22, 23, 24] rfl rfl h) (rcv 0 rfl) rfl (nle rfl) (nle rfl) (by omega) (by omega) rfl ?_
  refine x_iload C eL_law_1797 rfl ?_
  refine x_icmp_val (by first | exact up_s _ _ _ | exact (up_n (by decide)).trans (up_s _ _ _)) 1804 C eL_law_1799 rfl ?_
  refine x_iload C eL_law_1804 rfl ?_
  refine x_if_ne 1821 C eL_law_1806 rfl (by omega) (fun h => absurd rfl h) (fun _ => ?_)
  refine x_aload_n C eL_law_1809 rfl ?_
  refine x_iconst C eL_law_1810 ?_
  refine x_lald (N := 1) 9 C eL_law_1811 rfl (by decide) (by omega) ?_
  refine x_iload C eL_law_1812 rfl ?_
  refine x_i2lR C eL_law_1814 ?_
  refine x_lcmp_same 1821 (by first | exact if_pos rfl | (rw [if_pos rfl]; rfl) | decide) C eL_law_1815 eL_law_1816 rfl ?_
  refine x_goto (pc' := 2791) C eL_law_1821 rfl ?_
  refine x_pick [_, _, _, _, _, _, _, _, _, _, _, _, _, _, _, _, _, _, _, _, _, _, _, _, _] [3, 4, 5, 6, 7, 10, 11, 12, 13, 14, 15, 16, 8, 17, 0, 1, 18, 19, 20, 2, 21, 22, 23, 9, 24] rfl rfl ?_
  refine x_lv [_, _, _, _, _, _, none, none, _] rfl (lx_drop _ [6, 7] rfl) ?_
  exact x_wide (by omega) (by omega) (K9 (hI.chg (by omega) ((GOK_types hI.hN hl hv a3.toNat).mono (by omega)) (up_s _ _ _) ((up_n (by decide)).trans (up_n (by decide))) ((up_n (by decide)).trans (up_n (by decide))) ((up_n (by decide)).trans (up_n (by decide))) ((up_n (by decide)).trans (up_n (by decide))) ((up_n (by decide)).trans (up_n (by decide)))))

set_option maxHeartbeats 4000000 in
set_option maxRecDepth 100000 in
theorem lc_30_1 {G : Gm} {X : Cx} {l : Launch} {x : LFx} {k nn : Nat} {i b : Int} {J : Nat → Int} {M : Pool} {n : Net} {N K : Nat → Net} {Fu Fb : Nat → Int} {w : List Int} {z : Int} {I TL TB : Nat → Int} {N9 : Nat → Net} {f : Nat → Int64} {fD : Nat → UInt64} {a1 a2 a3 : Int} (H : LKn G l x) {nmL : String} (hC : OKc G X l RL nmL cL_law 9 (some .boolean) 1400 600000 6200000) (hI : INV b J M n N K Fu Fb w z I) (hb : b ≤ 15000000) (hk : k + 100 ≤ 600000) (hn : nn + 2200 ≤ 6200000) (hi : 0 ≤ i ∧ i + 6 ≤ (x.L : Int)) (ha1 : (x.xs (i + 1).toNat).toInt = a1) (ha2 : (x.xs (i + 2).toNat).toInt = a2) (ha3 : (x.xs (i + 3).toNat).toInt = a3) (hl : ¬ (0 ≤ a1 ∧ a1 < n (-1) 0)) (K9 : LCont G X x (b + 8000) (k + 100) (nn + 2200) i) : WX G X k nn (LAT G x J M n N K Fu Fb w z I TL TB N9 f fD) 1744 (LLV x i) [] := by
  have C := hC
  have hK : KG G := H.hX.1.1.1
  have hH := hI.hN.1.1
  unfold HeadOk at hH
  have r1 : -2147483648 ≤ a1 ∧ a1 < 2147483648 := by rw [← ha1]; exact bI_toInt _
  have r2 : -2147483648 ≤ a2 ∧ a2 < 2147483648 := by rw [← ha2]; exact bI_toInt _
  have r3 : -2147483648 ≤ a3 ∧ a3 < 2147483648 := by rw [← ha3]; exact bI_toInt _
  refine x_aload_n C eL_law_1744 rfl ?_
  refine x_argA C H.hx H.hbl H.hL eL_law_1745 eL_law_1746 eL_law_1748 eL_law_1749 eL_law_1750 rfl rfl (by omega) ha1 ?_
  refine x_argA C H.hx H.hbl H.hL eL_law_1751 eL_law_1752 eL_law_1754 eL_law_1755 eL_law_1756 rfl rfl (by omega) ha2 ?_
  refine x_argA C H.hx H.hbl H.hL eL_law_1757 eL_law_1758 eL_law_1760 eL_law_1761 eL_law_1762 rfl rfl (by omega) ha3 ?_
  refine x_aload_n C eL_law_1763 rfl ?_
  refine x_callSW (As := [_, _, _, _, _]) [_, _, _, _, _, _, _, _, _, _, _, _, _, _, _, _, _, _, _, _, _, _] C (wx_type_1 hK (t_X7_type_2 H.hX H.hT0 (by omega) (by omega) (by omega)) (xwd_c (i := 0) H.hX rfl) (rcv 0 rfl)) cw_type s_RL_249 eL_law_1764 rfl (fun _ _ h => WF_pick [0, 1, 23, 2, 3, 4, 5, 6, 7, 8, 9, 10, 11, 12, 13, 14, 15, 16, 17, 18, 19, 20, 21, 22, 24] rfl rfl h) rfl (nle rfl) (nle rfl) (by omega) (by omega) (fun _ _ => ?_)
  refine x_pick [_, _, _, _, _, _, _, _, _, _, _, _, _, _, _, _, _, _, _, _, _, _, _, _, _] [0, 1, 2, 3, 4, 5, 6, 7, 8, 9, 10, 11, 12, 13, 14, 15, 16, 17, 18, 19, 20, 21, 22, 23, 24] rfl rfl ?_
  refine x_istore [_, _, _, _, _, _, _, _, _] C eL_law_1767 rfl rfl (nlt rfl) ?_
  refine x_aload_n C eL_law_1769 rfl ?_
  refine x_argA C H.hx H.hbl H.hL eL_law_1770 eL_law_1771 eL_law_1773 eL_law_1774 eL_law_1775 rfl rfl (by omega) ha1 ?_
  refine x_argA C H.hx H.hbl H.hL eL_law_1776 eL_law_1777 eL_law_1779 eL_law_1780 eL_law_1781 rfl rfl (by omega) ha2 ?_
  refine x_argA C H.hx H.hbl H.hL eL_law_1782 eL_law_1783 eL_law_1785 eL_law_1786 eL_law_1787 rfl rfl (by omega) ha3 ?_
  have c1 : ¬ (0 ≤ a1 ∧ a1 ≤ n (-1) 0 - 1) := by first | omega | (simp only [if_true, if_false]; omega)
  have hM := s_X8_type (G := G) (l := l) (o := x.o) (A := x.A) (I := I) (N := N9) (n := n) (b := b) (l9 := a1) (v9 := a2) (t9 := a3) (P := N) hK hI.hN.1 (by omega) (by omega) (by omega) (by omega) (by have := hI.e6; have := hI.h6; omega)
  simp only [if_neg (show ¬ ((0 ≤ a1 ∧ a1 ≤ n (-1) 0 - 1) ∧ ((1 ≤ a2 ∧ a2 ≤ 127) ∧ 1 ≤ a3 ∧ a3 ≤ 60) ∧ (True)) from fun q => c1 q.1), thr_1 c1] at hM
  refine yV3r [_, _, _, _, _, _, _, _, _, _, _, _, _, _, _, _, _, _, _, _, _, _] [_, _, _, _, _, _, _, _, _, _, _, _, _, _, _, _, _, _, _, _, _, _, _, _, _] C hM v_X8_type vv_X8_type s_RL_252 eL_law_1788 (fun _ _ h => WF_pick [15, 16, 20, 0, 1, 2, 3, 4, 5, 6, 7, 8, 9, 10, 11, 12, 13, 14, 17, 18, 19, 21, 22, 23, 24] rfl rfl h) (rcv 15 rfl) rfl (nle rfl) (nle rfl) (by omega) (by omega) rfl ?_
  refine x_istore [_, _, _, _, _, _, _, _, _] C eL_law_1791 rfl rfl (nlt rfl) ?_
  refine x_aload_n C eL_law_1793 rfl ?_
  refine yV0r [_, _, _, _, _, _, _, _, _, _, _, _, _, _, _, _, _, _, _, _, _, _, _, _] [_, _, _, _, _, _, _, _, _, _, _, _, _, _, _, _, _, _, _, _, _, _, _, _, _] C (s_X8_thrown hK) v_X8_thrown vv_X8_thrown s_RL_145 eL_law_1794 (fun _ _ h => WF_pick [0, 1, 2, 3, 4, 5, 6, 7, 8, 9, 10, 11, 12, 13, 14, 15, 16, 17, 18, 19, 20, 21, 22, 23, 24] rfl rfl h) (rcv 0 rfl) rfl (nle rfl) (nle rfl) (by omega) (by omega) rfl ?_
  refine x_iload C eL_law_1797 rfl ?_
  refine x_icmp_val (by first | exact up_s _ _ _ | exact (up_n (by decide)).trans (up_s _ _ _)) 1804 C eL_law_1799 rfl ?_
  refine x_iload C eL_law_1804 rfl ?_
  refine x_if_ne 1821 C eL_law_1806 rfl (by omega) (fun _ => ?_) (fun h => absurd h (by decide))
  refine x_goto (pc' := 2791) C eL_law_1821 rfl ?_
  refine x_pick [_, _, _, _, _, _, _, _, _, _, _, _, _, _, _, _, _, _, _, _, _, _, _, _, _] [3, 4, 6, 7, 8, 9, 10, 11, 12, 13, 14, 15, 16, 17, 0, 1, 18, 19, 20, 2, 21, 22, 23, 5, 24] rfl rfl ?_
  refine x_lv [_, _, _, _, _, _, none, none, _] rfl (lx_drop _ [6, 7] rfl) ?_
  exact x_wide (by omega) (by omega) (K9 (hI.qI (by omega) (up_n (by decide)) (up_n (by decide)) (up_n (by decide)) (up_n (by decide)) (up_n (by decide)) (up_n (by decide))))

set_option maxHeartbeats 4000000 in
set_option maxRecDepth 100000 in
theorem lc_30_2 {G : Gm} {X : Cx} {l : Launch} {x : LFx} {k nn : Nat} {i b : Int} {J : Nat → Int} {M : Pool} {n : Net} {N K : Nat → Net} {Fu Fb : Nat → Int} {w : List Int} {z : Int} {I TL TB : Nat → Int} {N9 : Nat → Net} {f : Nat → Int64} {fD : Nat → UInt64} {a1 a2 a3 : Int} (H : LKn G l x) {nmL : String} (hC : OKc G X l RL nmL cL_law 9 (some .boolean) 1400 600000 6200000) (hI : INV b J M n N K Fu Fb w z I) (hb : b ≤ 15000000) (hk : k + 100 ≤ 600000) (hn : nn + 2200 ≤ 6200000) (hi : 0 ≤ i ∧ i + 6 ≤ (x.L : Int)) (ha1 : (x.xs (i + 1).toNat).toInt = a1) (ha2 : (x.xs (i + 2).toNat).toInt = a2) (ha3 : (x.xs (i + 3).toNat).toInt = a3) (hl : 0 ≤ a1 ∧ a1 < n (-1) 0) (hv : ¬ (1 ≤ a2 ∧ a2 ≤ 127)) (K9 : LCont G X x (b + 8000) (k + 100) (nn + 2200) i) : WX G X k nn (LAT G x J M n N K Fu Fb w z I TL TB N9 f fD) 1744 (LLV x i) [] := by
  have C := hC
  have hK : KG G := H.hX.1.1.1
  have hH := hI.hN.1.1
  unfold HeadOk at hH
  have r1 : -2147483648 ≤ a1 ∧ a1 < 2147483648 := by rw [← ha1]; exact bI_toInt _
  have r2 : -2147483648 ≤ a2 ∧ a2 < 2147483648 := by rw [← ha2]; exact bI_toInt _
  have r3 : -2147483648 ≤ a3 ∧ a3 < 2147483648 := by rw [← ha3]; exact bI_toInt _
  refine x_aload_n C eL_law_1744 rfl ?_
  refine x_argA C H.hx H.hbl H.hL eL_law_1745 eL_law_1746 eL_law_1748 eL_law_1749 eL_law_1750 rfl rfl (by omega) ha1 ?_
  refine x_argA C H.hx H.hbl H.hL eL_law_1751 eL_law_1752 eL_law_1754 eL_law_1755 eL_law_1756 rfl rfl (by omega) ha2 ?_
  refine x_argA C H.hx H.hbl H.hL eL_law_1757 eL_law_1758 eL_law_1760 eL_law_1761 eL_law_1762 rfl rfl (by omega) ha3 ?_
  refine x_aload_n C eL_law_1763 rfl ?_
  refine x_callSW (As := [_, _, _, _, _]) [_, _, _, _, _, _, _, _, _, _, _, _, _, _, _, _, _, _, _, _, _, _] C (wx_type_2 hK (t_X7_type_9 H.hX H.hT0 (by omega) (by omega) (by omega) (by omega)) (xwd_c (i := 1) H.hX rfl) H.n1 (rcv 0 rfl)) cw_type s_RL_249 eL_law_1764 rfl (fun _ _ h => WF_pick [0, 1, 23, 2, 3, 4, 5, 6, 7, 8, 9, 10, 11, 12, 13, 14, 15, 16, 17, 18, 19, 20, 21, 22, 24] rfl rfl h) rfl (nle rfl) (nle rfl) (by omega) (by omega) (fun _ _ => ?_)
  refine x_pick [_, _, _, _, _, _, _, _, _, _, _, _, _, _, _, _, _, _, _, _, _, _, _, _, _] [0, 1, 2, 3, 4, 5, 6, 7, 8, 9, 10, 11, 12, 13, 14, 15, 16, 17, 18, 19, 20, 21, 22, 23, 24] rfl rfl ?_
  refine x_istore [_, _, _, _, _, _, _, _, _] C eL_law_1767 rfl rfl (nlt rfl) ?_
  refine x_aload_n C eL_law_1769 rfl ?_
  refine x_argA C H.hx H.hbl H.hL eL_law_1770 eL_law_1771 eL_law_1773 eL_law_1774 eL_law_1775 rfl rfl (by omega) ha1 ?_
  refine x_argA C H.hx H.hbl H.hL eL_law_1776 eL_law_1777 eL_law_1779 eL_law_1780 eL_law_1781 rfl rfl (by omega) ha2 ?_
  refine x_argA C H.hx H.hbl H.hL eL_law_1782 eL_law_1783 eL_law_1785 eL_law_1786 eL_law_1787 rfl rfl (by omega) ha3 ?_
  have c1 : 0 ≤ a1 ∧ a1 ≤ n (-1) 0 - 1 := by first | trivial | omega | (simp only [if_true, if_false]; omega)
  have c2 : ¬ ((1 ≤ a2 ∧ a2 ≤ 127) ∧ 1 ≤ a3 ∧ a3 ≤ 60) := by first | omega | (simp only [if_true, if_false]; omega)
  have hM := s_X8_type (G := G) (l := l) (o := x.o) (A := x.A) (I := I) (N := N9) (n := n) (b := b) (l9 := a1) (v9 := a2) (t9 := a3) (P := N) hK hI.hN.1 (by omega) (by omega) (by omega) (by omega) (by have := hI.e6; have := hI.h6; omega)
  simp only [if_neg (show ¬ ((0 ≤ a1 ∧ a1 ≤ n (-1) 0 - 1) ∧ ((1 ≤ a2 ∧ a2 ≤ 127) ∧ 1 ≤ a3 ∧ a3 ≤ 60) ∧ (True)) from fun q => c2 q.2.1), thr_2 c1 c2] at hM
  refine yV3r [_, _, _, _, _, _, _, _, _, _, _, _, _, _, _, _, _, _, _, _, _, _] [_, _, _, _, _, _, _, _, _, _, _, _, _, _, _, _, _, _, _, _, _, _, _, _, _] C hM v_X8_type vv_X8_type s_RL_252 eL_law_1788 (fun _ _ h => WF_pick [15, 16, 20, 0, 1, 2, 3, 4, 5, 6, 7, 8, 9, 10, 11, 12, 13, 14, 17, 18, 19, 21, 22, 23, 24] rfl rfl h) (rcv 15 rfl) rfl (nle rfl) (nle rfl) (by omega) (by omega) rfl ?_
  refine x_istore [_, _, _, _, _, _, _, _, _] C eL_law_1791 rfl rfl (nlt rfl) ?_
  refine x_aload_n C eL_law_1793 rfl ?_
  refine yV0r [_, _, _, _, _, _, _, _, _, _, _, _, _, _, _, _, _, _, _, _, _, _, _, _] [_, _, _, _, _, _, _, _, _, _, _, _, _, _, _, _, _, _, _, _, _, _, _, _, _] C (s_X8_thrown hK) v_X8_thrown vv_X8_thrown s_RL_145 eL_law_1794 (fun _ _ h => WF_pick [0, 1, 2, 3, 4, 5, 6, 7, 8, 9, 10, 11, 12, 13, 14, 15, 16, 17, 18, 19, 20, 21, 22, 23, 24] rfl rfl h) (rcv 0 rfl) rfl (nle rfl) (nle rfl) (by omega) (by omega) rfl ?_
  refine x_iload C eL_law_1797 rfl ?_
  refine x_icmp_val (by first | exact up_s _ _ _ | exact (up_n (by decide)).trans (up_s _ _ _)) 1804 C eL_law_1799 rfl ?_
  refine x_iload C eL_law_1804 rfl ?_
  refine x_if_ne 1821 C eL_law_1806 rfl (by omega) (fun _ => ?_) (fun h => absurd h (by decide))
  refine x_goto (pc' := 2791) C eL_law_1821 rfl ?_
  refine x_pick [_, _, _, _, _, _, _, _, _, _, _, _, _, _, _, _, _, _, _, _, _, _, _, _, _] [3, 4, 6, 7, 8, 9, 10, 11, 12, 13, 14, 15, 16, 17, 0, 1, 18, 19, 20, 2, 21, 22, 23, 5, 24] rfl rfl ?_
  refine x_lv [_, _, _, _, _, _, none, none, _] rfl (lx_drop _ [6, 7] rfl) ?_
  exact x_wide (by omega) (by omega) (K9 (hI.qI (by omega) (up_n (by decide)) (up_n (by decide)) (up_n (by decide)) (up_n (by decide)) (up_n (by decide)) (up_n (by decide))))

set_option maxHeartbeats 4000000 in
set_option maxRecDepth 100000 in
theorem lc_30_2b {G : Gm} {X : Cx} {l : Launch} {x : LFx} {k nn : Nat} {i b : Int} {J : Nat → Int} {M : Pool} {n : Net} {N K : Nat → Net} {Fu Fb : Nat → Int} {w : List Int} {z : Int} {I TL TB : Nat → Int} {N9 : Nat → Net} {f : Nat → Int64} {fD : Nat → UInt64} {a1 a2 a3 : Int} (H : LKn G l x) {nmL : String} (hC : OKc G X l RL nmL cL_law 9 (some .boolean) 1400 600000 6200000) (hI : INV b J M n N K Fu Fb w z I) (hb : b ≤ 15000000) (hk : k + 100 ≤ 600000) (hn : nn + 2200 ≤ 6200000) (hi : 0 ≤ i ∧ i + 6 ≤ (x.L : Int)) (ha1 : (x.xs (i + 1).toNat).toInt = a1) (ha2 : (x.xs (i + 2).toNat).toInt = a2) (ha3 : (x.xs (i + 3).toNat).toInt = a3) (hl : 0 ≤ a1 ∧ a1 < n (-1) 0) (hv : 1 ≤ a2 ∧ a2 ≤ 127) (ht : ¬ (1 ≤ a3 ∧ a3 ≤ 60)) (K9 : LCont G X x (b + 8000) (k + 100) (nn + 2200) i) : WX G X k nn (LAT G x J M n N K Fu Fb w z I TL TB N9 f fD) 1744 (LLV x i) [] := by
  have C := hC
  have hK : KG G := H.hX.1.1.1
  have hH := hI.hN.1.1
  unfold HeadOk at hH
  have r1 : -2147483648 ≤ a1 ∧ a1 < 2147483648 := by rw [← ha1]; exact bI_toInt _
  have r2 : -2147483648 ≤ a2 ∧ a2 < 2147483648 := by rw [← ha2]; exact bI_toInt _
  have r3 : -2147483648 ≤ a3 ∧ a3 < 2147483648 := by rw [← ha3]; exact bI_toInt _
  refine x_aload_n C eL_law_1744 rfl ?_
  refine x_argA C H.hx H.hbl H.hL eL_law_1745 eL_law_1746 eL_law_1748 eL_law_1749 eL_law_1750 rfl rfl (by omega) ha1 ?_
  refine x_argA C H.hx H.hbl H.hL eL_law_1751 eL_law_1752 eL_law_1754 eL_law_1755 eL_law_1756 rfl rfl (by omega) ha2 ?_
  refine x_argA C H.hx H.hbl H.hL eL_law_1757 eL_law_1758 eL_law_1760 eL_law_1761 eL_law_1762 rfl rfl (by omega) ha3 ?_
  refine x_aload_n C eL_law_1763 rfl ?_
  refine x_callSW (As := [_, _, _, _, _]) [_, _, _, _, _, _, _, _, _, _, _, _, _, _, _, _, _, _, _, _, _, _] C (wx_type_2 hK (t_X7_type_16 H.hX H.hT0 (by omega) (by omega) hv (by omega) (by omega)) (xwd_c (i := 1) H.hX rfl) H.n1 (rcv 0 rfl)) cw_type s_RL_249 eL_law_1764 rfl (fun _ _ h => WF_pick [0, 1, 23, 2, 3, 4, 5, 6, 7, 8, 9, 10, 11, 12, 13, 14, 15, 16, 17, 18, 19, 20, 21, 22, 24] rfl rfl h) rfl (nle rfl) (nle rfl) (by omega) (by omega) (fun _ _ => ?_)
  refine x_pick [_, _, _, _, _, _, _, _, _, _, _, _, _, _, _, _, _, _, _, _, _, _, _, _, _] [0, 1, 2, 3, 4, 5, 6, 7, 8, 9, 10, 11, 12, 13, 14, 15, 16, 17, 18, 19, 20, 21, 22, 23, 24] rfl rfl ?_
  refine x_istore [_, _, _, _, _, _, _, _, _] C eL_law_1767 rfl rfl (nlt rfl) ?_
  refine x_aload_n C eL_law_1769 rfl ?_
  refine x_argA C H.hx H.hbl H.hL eL_law_1770 eL_law_1771 eL_law_1773 eL_law_1774 eL_law_1775 rfl rfl (by omega) ha1 ?_
  refine x_argA C H.hx H.hbl H.hL eL_law_1776 eL_law_1777 eL_law_1779 eL_law_1780 eL_law_1781 rfl rfl (by omega) ha2 ?_
  refine x_argA C H.hx H.hbl H.hL eL_law_1782 eL_law_1783 eL_law_1785 eL_law_1786 eL_law_1787 rfl rfl (by omega) ha3 ?_
  have c1 : 0 ≤ a1 ∧ a1 ≤ n (-1) 0 - 1 := by first | trivial | omega | (simp only [if_true, if_false]; omega)
  have c2 : ¬ ((1 ≤ a2 ∧ a2 ≤ 127) ∧ 1 ≤ a3 ∧ a3 ≤ 60) := by first | omega | (simp only [if_true, if_false]; omega)
  have hM := s_X8_type (G := G) (l := l) (o := x.o) (A := x.A) (I := I) (N := N9) (n := n) (b := b) (l9 := a1) (v9 := a2) (t9 := a3) (P := N) hK hI.hN.1 (by omega) (by omega) (by omega) (by omega) (by have := hI.e6; have := hI.h6; omega)
  simp only [if_neg (show ¬ ((0 ≤ a1 ∧ a1 ≤ n (-1) 0 - 1) ∧ ((1 ≤ a2 ∧ a2 ≤ 127) ∧ 1 ≤ a3 ∧ a3 ≤ 60) ∧ (True)) from fun q => c2 q.2.1), thr_2 c1 c2] at hM
  refine yV3r [_, _, _, _, _, _, _, _, _, _, _, _, _, _, _, _, _, _, _, _, _, _] [_, _, _, _, _, _, _, _, _, _, _, _, _, _, _, _, _, _, _, _, _, _, _, _, _] C hM v_X8_type vv_X8_type s_RL_252 eL_law_1788 (fun _ _ h => WF_pick [15, 16, 20, 0, 1, 2, 3, 4, 5, 6, 7, 8, 9, 10, 11, 12, 13, 14, 17, 18, 19, 21, 22, 23, 24] rfl rfl h) (rcv 15 rfl) rfl (nle rfl) (nle rfl) (by omega) (by omega) rfl ?_
  refine x_istore [_, _, _, _, _, _, _, _, _] C eL_law_1791 rfl rfl (nlt rfl) ?_
  refine x_aload_n C eL_law_1793 rfl ?_
  refine yV0r [_, _, _, _, _, _, _, _, _, _, _, _, _, _, _, _, _, _, _, _, _, _, _, _] [_, _, _, _, _, _, _, _, _, _, _, _, _, _, _, _, _, _, _, _, _, _, _, _, _] C (s_X8_thrown hK) v_X8_thrown vv_X8_thrown s_RL_145 eL_law_1794 (fun _ _ h => WF_pick [0, 1, 2, 3, 4, 5, 6, 7, 8, 9, 10, 11, 12, 13, 14, 15, 16, 17, 18, 19, 20, 21, 22, 23, 24] rfl rfl h) (rcv 0 rfl) rfl (nle rfl) (nle rfl) (by omega) (by omega) rfl ?_
  refine x_iload C eL_law_1797 rfl ?_
  refine x_icmp_val (by first | exact up_s _ _ _ | exact (up_n (by decide)).trans (up_s _ _ _)) 1804 C eL_law_1799 rfl ?_
  refine x_iload C eL_law_1804 rfl ?_
  refine x_if_ne 1821 C eL_law_1806 rfl (by omega) (fun _ => ?_) (fun h => absurd h (by decide))
  refine x_goto (pc' := 2791) C eL_law_1821 rfl ?_
  refine x_pick [_, _, _, _, _, _, _, _, _, _, _, _, _, _, _, _, _, _, _, _, _, _, _, _, _] [3, 4, 6, 7, 8, 9, 10, 11, 12, 13, 14, 15, 16, 17, 0, 1, 18, 19, 20, 2, 21, 22, 23, 5, 24] rfl rfl ?_
  refine x_lv [_, _, _, _, _, _, none, none, _] rfl (lx_drop _ [6, 7] rfl) ?_
  exact x_wide (by omega) (by omega) (K9 (hI.qI (by omega) (up_n (by decide)) (up_n (by decide)) (up_n (by decide)) (up_n (by decide)) (up_n (by decide)) (up_n (by decide))))

set_option maxHeartbeats 4000000 in
set_option maxRecDepth 100000 in
theorem lc_31_0 {G : Gm} {X : Cx} {l : Launch} {x : LFx} {k nn : Nat} {i b : Int} {J : Nat → Int} {M : Pool} {n : Net} {N K : Nat → Net} {Fu Fb : Nat → Int} {w : List Int} {z : Int} {I TL TB : Nat → Int} {N9 : Nat → Net} {f : Nat → Int64} {fD : Nat → UInt64} {a1 a2 a3 : Int} (H : LKn G l x) {nmL : String} (hC : OKc G X l RL nmL cL_law 9 (some .boolean) 1400 600000 6200000) (hI : INV b J M n N K Fu Fb w z I) (hb : b ≤ 15000000) (hk : k + 100 ≤ 600000) (hn : nn + 2200 ≤ 6200000) (hi : 0 ≤ i ∧ i + 6 ≤ (x.L : Int)) (ha1 : (x.xs (i + 1).toNat).toInt = a1) (ha2 : (x.xs (i + 2).toNat).toInt = a2) (ha3 : (x.xs (i + 3).toNat).toInt = a3) (hl : 0 ≤ a1 ∧ a1 < n (-1) 0) (hv : 1 ≤ a2 ∧ a2 ≤ 127) (ht : 1 ≤ a3 ∧ a3 ≤ 60) (K9 : LCont G X x (b + 8000) (k + 100) (nn + 2200) i) : WX G X k nn (LAT G x J M n N K Fu Fb w z I TL TB N9 f fD) 1824 (LLV x i) [] := by
  have C := hC
  have hK : KG G := H.hX.1.1.1
  have hH := hI.hN.1.1
  unfold HeadOk at hH
  have r1 : -2147483648 ≤ a1 ∧ a1 < 2147483648 := by rw [← ha1]; exact bI_toInt _
  have r2 : -2147483648 ≤ a2 ∧ a2 < 2147483648 := by rw [← ha2]; exact bI_toInt _
  have r3 : -2147483648 ≤ a3 ∧ a3 < 2147483648 := by rw [← ha3]; exact bI_toInt _
  refine x_aload_n C eL_law_1824 rfl ?_
  refine x_argA C H.hx H.hbl H.hL eL_law_1825 eL_law_1826 eL_law_1828 eL_law_1829 eL_law_1830 rfl rfl (by omega) ha1 ?_
  refine x_argA C H.hx H.hbl H.hL eL_law_1831 eL_law_1832 eL_law_1834 eL_law_1835 eL_law_1836 rfl rfl (by omega) ha2 ?_
  refine x_argA C H.hx H.hbl H.hL eL_law_1837 eL_law_1838 eL_law_1840 eL_law_1841 eL_law_1842 rfl rfl (by omega) ha3 ?_
  refine x_aload_n C eL_law_1843 rfl ?_
  refine x_callSW (As := [_, _, _, _, _]) [_, _, _, _, _, _, _, _, _, _, _, _, _, _, _, _, _, _] C (wn_reply hK (s_X7_reply hK hI.hN.1 (by omega) hI.h6 H.hX.1 (by omega) hv (by omega)) (rcv 0 rfl)) cw_reply s_RL_253 eL_law_1844 rfl (fun _ _ h => WF_pick [0, 1, 2, 3, 4, 12, 23, 5, 6, 7, 8, 9, 10, 11, 13, 14, 15, 16, 17, 18, 19, 20, 21, 22, 24] rfl rfl h) rfl (nle rfl) (nle rfl) (by omega) (by omega) (fun _ _ => ?_)
  refine x_pick [_, _, _, _, _, _, _, _, _, _, _, _, _, _, _, _, _, _, _, _, _, _, _, _, _] [0, 1, 2, 3, 4, 5, 6, 7, 8, 9, 10, 11, 12, 13, 14, 15, 16, 17, 18, 19, 20, 21, 22, 23, 24] rfl rfl ?_
  refine x_istore [_, _, _, _, _, _, _, _, _] C eL_law_1847 rfl rfl (nlt rfl) ?_
  refine x_aload_n C eL_law_1849 rfl ?_
  refine x_argA C H.hx H.hbl H.hL eL_law_1850 eL_law_1851 eL_law_1853 eL_law_1854 eL_law_1855 rfl rfl (by omega) ha1 ?_
  refine x_argA C H.hx H.hbl H.hL eL_law_1856 eL_law_1857 eL_law_1859 eL_law_1860 eL_law_1861 rfl rfl (by omega) ha2 ?_
  refine x_argA C H.hx H.hbl H.hL eL_law_1862 eL_law_1863 eL_law_1865 eL_law_1866 eL_law_1867 rfl rfl (by omega) ha3 ?_
  have c1 : 0 ≤ a1 ∧ a1 ≤ n (-1) 0 - 1 := by first | trivial | omega | (simp only [if_true, if_false]; omega)
  have c2 : (1 ≤ a2 ∧ a2 ≤ 127) ∧ 1 ≤ a3 ∧ a3 ≤ 60 := by first | trivial | omega | (simp only [if_true, if_false]; omega)
  have c3 : True := by first | trivial | omega | (simp only [if_true, if_false]; omega)
  have hM := s_X8_reply (G := G) (l := l) (o := x.o) (A := x.A) (I := I) (N := N9) (n := n) (b := b) (l9 := a1) (v9 := a2) (t9 := a3) (P := N) hK hI.hN.1 (by omega) (by omega) (by omega) (by omega) (by have := hI.e6; have := hI.h6; omega)
  simp only [if_pos (show (0 ≤ a1 ∧ a1 ≤ n (-1) 0 - 1) ∧ ((1 ≤ a2 ∧ a2 ≤ 127) ∧ 1 ≤ a3 ∧ a3 ≤ 60) ∧ (True) from ⟨c1, c2, c3⟩), thr_0 c1 c2 c3] at hM
  simp only [hI.e6] at hM
  refine yV3r [_, _, _, _, _, _, _, _, _, _, _, _, _, _, _, _, _, _, _, _, _, _] [_, _, _, _, _, _, _, _, _, _, _, _, _, _, _, _, _, _, _, _, _, _, _, _, _] C hM v_X8_reply vv_X8_reply s_RL_255 eL_law_1868 (fun _ _ h => WF_pick [15, 16, 20, 0, 1, 2, 3, 4, 5, 6, 7, 8, 9, 10, 11, 12, 13, 14, 17, 18, 19, 21, 22, 23, 24] rfl rfl h) (rcv 15 rfl) rfl (nle rfl) (nle rfl) (by omega) (by omega) rfl ?_
  refine x_istore [_, _, _, _, _, _, _, _, _] C eL_law_1871 rfl rfl (nlt rfl) ?_
  refine x_aload_n C eL_law_1873 rfl ?_
  refine yV0r [_, _, _, _, _, _, _, _, _, _, _, _, _, _, _, _, _, _, _, _, _, _, _, _] [_, _, _, _, _, _, _, _, _, _, _, _, _, _, _, _, _, _, _, _, _, _, _, _, _] C (s_X8_thrown hK) v_X8_thrown vv_X8_thrown s_RL_145 eL_law_1874 (fun _ _ h => WF_pick [0, 1, 2, 3, 4, 5, 6, 7, 8, 9, 10, 11, 12, 13, 14, 15, 16, 17, 18, 19, 20, 21, 22, 23, 24] rfl rfl h) (rcv 0 rfl) rfl (nle rfl) (nle rfl) (by omega) (by omega) rfl ?_
  refine x_iload C eL_law_1877 rfl ?_
  refine x_icmp_val (by first | exact up_s _ _ _ | exact (up_n (by decide)).trans (up_s _ _ _)) 1884 C eL_law_1879 rfl ?_
  refine x_iload C eL_law_1884 rfl ?_
  refine x_if_ne 1901 C eL_law_1886 rfl (by omega) (fun h => absurd rfl h) (fun _ => ?_)
  refine x_aload_n C eL_law_1889 rfl ?_
  refine x_iconst C eL_law_1890 ?_
  refine x_lald (N := 1) 9 C eL_law_1891 rfl (by decide) (by omega) ?_
  refine x_iload C eL_law_1892 rfl ?_
  refine x_i2lR C eL_law_1894 ?_
  refine x_lcmp_same 1901 (by first | exact if_pos rfl | (rw [if_pos rfl]; rfl) | decide) C eL_law_1895 eL_law_1896 rfl ?_
  refine x_goto (pc' := 2791) C eL_law_1901 rfl ?_
  refine x_pick [_, _, _, _, _, _, _, _, _, _, _, _, _, _, _, _, _, _, _, _, _, _, _, _, _] [3, 4, 5, 6, 7, 10, 11, 12, 13, 14, 15, 16, 8, 17, 0, 1, 18, 19, 20, 2, 21, 22, 23, 9, 24] rfl rfl ?_
  refine x_lv [_, _, _, _, _, _, none, none, _] rfl (lx_drop _ [6, 7] rfl) ?_
  exact x_wide (by omega) (by omega) (K9 (hI.chg (by omega) ((GOK_offers hI.hN hl hv a3.toNat).mono (by omega)) (up_s _ _ _) ((up_n (by decide)).trans (up_n (by decide))) ((up_n (by decide)).trans (up_n (by decide))) ((up_n (by decide)).trans (up_n (by decide))) ((up_n (by decide)).trans (up_n (by decide))) ((up_n (by decide)).trans (up_n (by decide)))))

set_option maxHeartbeats 4000000 in
set_option maxRecDepth 100000 in
theorem lc_31_1 {G : Gm} {X : Cx} {l : Launch} {x : LFx} {k nn : Nat} {i b : Int} {J : Nat → Int} {M : Pool} {n : Net} {N K : Nat → Net} {Fu Fb : Nat → Int} {w : List Int} {z : Int} {I TL TB : Nat → Int} {N9 : Nat → Net} {f : Nat → Int64} {fD : Nat → UInt64} {a1 a2 a3 : Int} (H : LKn G l x) {nmL : String} (hC : OKc G X l RL nmL cL_law 9 (some .boolean) 1400 600000 6200000) (hI : INV b J M n N K Fu Fb w z I) (hb : b ≤ 15000000) (hk : k + 100 ≤ 600000) (hn : nn + 2200 ≤ 6200000) (hi : 0 ≤ i ∧ i + 6 ≤ (x.L : Int)) (ha1 : (x.xs (i + 1).toNat).toInt = a1) (ha2 : (x.xs (i + 2).toNat).toInt = a2) (ha3 : (x.xs (i + 3).toNat).toInt = a3) (hl : ¬ (0 ≤ a1 ∧ a1 < n (-1) 0)) (K9 : LCont G X x (b + 8000) (k + 100) (nn + 2200) i) : WX G X k nn (LAT G x J M n N K Fu Fb w z I TL TB N9 f fD) 1824 (LLV x i) [] := by
  have C := hC
  have hK : KG G := H.hX.1.1.1
  have hH := hI.hN.1.1
  unfold HeadOk at hH
  have r1 : -2147483648 ≤ a1 ∧ a1 < 2147483648 := by rw [← ha1]; exact bI_toInt _
  have r2 : -2147483648 ≤ a2 ∧ a2 < 2147483648 := by rw [← ha2]; exact bI_toInt _
  have r3 : -2147483648 ≤ a3 ∧ a3 < 2147483648 := by rw [← ha3]; exact bI_toInt _
  refine x_aload_n C eL_law_1824 rfl ?_
  refine x_argA C H.hx H.hbl H.hL eL_law_1825 eL_law_1826 eL_law_1828 eL_law_1829 eL_law_1830 rfl rfl (by omega) ha1 ?_
  refine x_argA C H.hx H.hbl H.hL eL_law_1831 eL_law_1832 eL_law_1834 eL_law_1835 eL_law_1836 rfl rfl (by omega) ha2 ?_
  refine x_argA C H.hx H.hbl H.hL eL_law_1837 eL_law_1838 eL_law_1840 eL_law_1841 eL_law_1842 rfl rfl (by omega) ha3 ?_
  refine x_aload_n C eL_law_1843 rfl ?_
  refine x_callSW (As := [_, _, _, _, _]) [_, _, _, _, _, _, _, _, _, _, _, _, _, _, _, _, _, _, _, _, _, _] C (wx_reply_1 hK (t_X7_reply_2 H.hX H.hT0 (by omega) (by omega) (by omega)) (xwd_c (i := 0) H.hX rfl) (rcv 0 rfl)) cw_reply s_RL_253 eL_law_1844 rfl (fun _ _ h => WF_pick [0, 1, 23, 2, 3, 4, 5, 6, 7, 8, 9, 10, 11, 12, 13, 14, 15, 16, 17, 18, 19, 20, 21, 22, 24] rfl rfl h) rfl (nle rfl) (nle rfl) (by omega) (by omega) (fun _ _ => ?_)
  refine x_pick [_, _, _, _, _, _, _, _, _, _, _, _, _, _, _, _, _, _, _, _, _, _, _, _, _] [0, 1, 2, 3, 4, 5, 6, 7, 8, 9, 10, 11, 12, 13, 14, 15, 16, 17, 18, 19, 20, 21, 22, 23, 24] rfl rfl ?_
  refine x_istore [_, _, _, _, _, _, _, _, _] C eL_law_1847 rfl rfl (nlt rfl) ?_
  refine x_aload_n C eL_law_1849 rfl ?_
  refine x_argA C H.hx H.hbl H.hL eL_law_1850 eL_law_1851 eL_law_1853 eL_law_1854 eL_law_1855 rfl rfl (by omega) ha1 ?_
  refine x_argA C H.hx H.hbl H.hL eL_law_1856 eL_law_1857 eL_law_1859 eL_law_1860 eL_law_1861 rfl rfl (by omega) ha2 ?_
  refine x_argA C H.hx H.hbl H.hL eL_law_1862 eL_law_1863 eL_law_1865 eL_law_1866 eL_law_1867 rfl rfl (by omega) ha3 ?_
  have c1 : ¬ (0 ≤ a1 ∧ a1 ≤ n (-1) 0 - 1) := by first | omega | (simp only [if_true, if_false]; omega)
  have hM := s_X8_reply (G := G) (l := l) (o := x.o) (A := x.A) (I := I) (N := N9) (n := n) (b := b) (l9 := a1) (v9 := a2) (t9 := a3) (P := N) hK hI.hN.1 (by omega) (by omega) (by omega) (by omega) (by have := hI.e6; have := hI.h6; omega)
  simp only [if_neg (show ¬ ((0 ≤ a1 ∧ a1 ≤ n (-1) 0 - 1) ∧ ((1 ≤ a2 ∧ a2 ≤ 127) ∧ 1 ≤ a3 ∧ a3 ≤ 60) ∧ (True)) from fun q => c1 q.1), thr_1 c1] at hM
  refine yV3r [_, _, _, _, _, _, _, _, _, _, _, _, _, _, _, _, _, _, _, _, _, _] [_, _, _, _, _, _, _, _, _, _, _, _, _, _, _, _, _, _, _, _, _, _, _, _, _] C hM v_X8_reply vv_X8_reply s_RL_255 eL_law_1868 (fun _ _ h => WF_pick [15, 16, 20, 0, 1, 2, 3, 4, 5, 6, 7, 8, 9, 10, 11, 12, 13, 14, 17, 18, 19, 21, 22, 23, 24] rfl rfl h) (rcv 15 rfl) rfl (nle rfl) (nle rfl) (by omega) (by omega) rfl ?_
  refine x_istore [_, _, _, _, _, _, _, _, _] C eL_law_1871 rfl rfl (nlt rfl) ?_
  refine x_aload_n C eL_law_1873 rfl ?_
  refine yV0r [_, _, _, _, _, _, _, _, _, _, _, _, _, _, _, _, _, _, _, _, _, _, _, _] [_, _, _, _, _, _, _, _, _, _, _, _, _, _, _, _, _, _, _, _, _, _, _, _, _] C (s_X8_thrown hK) v_X8_thrown vv_X8_thrown s_RL_145 eL_law_1874 (fun _ _ h => WF_pick [0, 1, 2, 3, 4, 5, 6, 7, 8, 9, 10, 11, 12, 13, 14, 15, 16, 17, 18, 19, 20, 21, 22, 23, 24] rfl rfl h) (rcv 0 rfl) rfl (nle rfl) (nle rfl) (by omega) (by omega) rfl ?_
  refine x_iload C eL_law_1877 rfl ?_
  refine x_icmp_val (by first | exact up_s _ _ _ | exact (up_n (by decide)).trans (up_s _ _ _)) 1884 C eL_law_1879 rfl ?_
  refine x_iload C eL_law_1884 rfl ?_
  refine x_if_ne 1901 C eL_law_1886 rfl (by omega) (fun _ => ?_) (fun h => absurd h (by decide))
  refine x_goto (pc' := 2791) C eL_law_1901 rfl ?_
  refine x_pick [_, _, _, _, _, _, _, _, _, _, _, _, _, _, _, _, _, _, _, _, _, _, _, _, _] [3, 4, 6, 7, 8, 9, 10, 11, 12, 13, 14, 15, 16, 17, 0, 1, 18, 19, 20, 2, 21, 22, 23, 5, 24] rfl rfl ?_
  refine x_lv [_, _, _, _, _, _, none, none, _] rfl (lx_drop _ [6, 7] rfl) ?_
  exact x_wide (by omega) (by omega) (K9 (hI.qI (by omega) (up_n (by decide)) (up_n (by decide)) (up_n (by decide)) (up_n (by decide)) (up_n (by decide)) (up_n (by decide))))

set_option maxHeartbeats 4000000 in
set_option maxRecDepth 100000 in
theorem lc_31_2 {G : Gm} {X : Cx} {l : Launch} {x : LFx} {k nn : Nat} {i b : Int} {J : Nat → Int} {M : Pool} {n : Net} {N K : Nat → Net} {Fu Fb : Nat → Int} {w : List Int} {z : Int} {I TL TB : Nat → Int} {N9 : Nat → Net} {f : Nat → Int64} {fD : Nat → UInt64} {a1 a2 a3 : Int} (H : LKn G l x) {nmL : String} (hC : OKc G X l RL nmL cL_law 9 (some .boolean) 1400 600000 6200000) (hI : INV b J M n N K Fu Fb w z I) (hb : b ≤ 15000000) (hk : k + 100 ≤ 600000) (hn : nn + 2200 ≤ 6200000) (hi : 0 ≤ i ∧ i + 6 ≤ (x.L : Int)) (ha1 : (x.xs (i + 1).toNat).toInt = a1) (ha2 : (x.xs (i + 2).toNat).toInt = a2) (ha3 : (x.xs (i + 3).toNat).toInt = a3) (hl : 0 ≤ a1 ∧ a1 < n (-1) 0) (hv : ¬ (1 ≤ a2 ∧ a2 ≤ 127)) (K9 : LCont G X x (b + 8000) (k + 100) (nn + 2200) i) : WX G X k nn (LAT G x J M n N K Fu Fb w z I TL TB N9 f fD) 1824 (LLV x i) [] := by
  have C := hC
  have hK : KG G := H.hX.1.1.1
  have hH := hI.hN.1.1
  unfold HeadOk at hH
  have r1 : -2147483648 ≤ a1 ∧ a1 < 2147483648 := by rw [← ha1]; exact bI_toInt _
  have r2 : -2147483648 ≤ a2 ∧ a2 < 2147483648 := by rw [← ha2]; exact bI_toInt _
  have r3 : -2147483648 ≤ a3 ∧ a3 < 2147483648 := by rw [← ha3]; exact bI_toInt _
  refine x_aload_n C eL_law_1824 rfl ?_
  refine x_argA C H.hx H.hbl H.hL eL_law_1825 eL_law_1826 eL_law_1828 eL_law_1829 eL_law_1830 rfl rfl (by omega) ha1 ?_
  refine x_argA C H.hx H.hbl H.hL eL_law_1831 eL_law_1832 eL_law_1834 eL_law_1835 eL_law_1836 rfl rfl (by omega) ha2 ?_
  refine x_argA C H.hx H.hbl H.hL eL_law_1837 eL_law_1838 eL_law_1840 eL_law_1841 eL_law_1842 rfl rfl (by omega) ha3 ?_
  refine x_aload_n C eL_law_1843 rfl ?_
  refine x_callSW (As := [_, _, _, _, _]) [_, _, _, _, _, _, _, _, _, _, _, _, _, _, _, _, _, _, _, _, _, _] C (wx_reply_2 hK (t_X7_reply_9 H.hX H.hT0 (by omega) (by omega) (by omega) (by omega)) (xwd_c (i := 1) H.hX rfl) H.n1 (rcv 0 rfl)) cw_reply s_RL_253 eL_law_1844 rfl (fun _ _ h => WF_pick [0, 1, 23, 2, 3, 4, 5, 6, 7, 8, 9, 10, 11, 12, 13, 14, 15, 16, 17, 18, 19, 20, 21, 22, 24] rfl rfl h) rfl (nle rfl) (nle rfl) (by omega) (by omega) (fun _ _ => ?_)
  refine x_pick [_, _, _, _, _, _, _, _, _, _, _, _, _, _, _, _, _, _, _, _, _, _, _, _, _] [0, 1, 2, 3, 4, 5, 6, 7, 8, 9, 10, 11, 12, 13, 14, 15, 16, 17, 18, 19, 20, 21, 22, 23, 24] rfl rfl ?_
  refine x_istore [_, _, _, _, _, _, _, _, _] C eL_law_1847 rfl rfl (nlt rfl) ?_
  refine x_aload_n C eL_law_1849 rfl ?_
  refine x_argA C H.hx H.hbl H.hL eL_law_1850 eL_law_1851 eL_law_1853 eL_law_1854 eL_law_1855 rfl rfl (by omega) ha1 ?_
  refine x_argA C H.hx H.hbl H.hL eL_law_1856 eL_law_1857 eL_law_1859 eL_law_1860 eL_law_1861 rfl rfl (by omega) ha2 ?_
  refine x_argA C H.hx H.hbl H.hL eL_law_1862 eL_law_1863 eL_law_1865 eL_law_1866 eL_law_1867 rfl rfl (by omega) ha3 ?_
  have c1 : 0 ≤ a1 ∧ a1 ≤ n (-1) 0 - 1 := by first | trivial | omega | (simp only [if_true, if_false]; omega)
  have c2 : ¬ ((1 ≤ a2 ∧ a2 ≤ 127) ∧ 1 ≤ a3 ∧ a3 ≤ 60) := by first | omega | (simp only [if_true, if_false]; omega)
  have hM := s_X8_reply (G := G) (l := l) (o := x.o) (A := x.A) (I := I) (N := N9) (n := n) (b := b) (l9 := a1) (v9 := a2) (t9 := a3) (P := N) hK hI.hN.1 (by omega) (by omega) (by omega) (by omega) (by have := hI.e6; have := hI.h6; omega)
  simp only [if_neg (show ¬ ((0 ≤ a1 ∧ a1 ≤ n (-1) 0 - 1) ∧ ((1 ≤ a2 ∧ a2 ≤ 127) ∧ 1 ≤ a3 ∧ a3 ≤ 60) ∧ (True)) from fun q => c2 q.2.1), thr_2 c1 c2] at hM
  refine yV3r [_, _, _, _, _, _, _, _, _, _, _, _, _, _, _, _, _, _, _, _, _, _] [_, _, _, _, _, _, _, _, _, _, _, _, _, _, _, _, _, _, _, _, _, _, _, _, _] C hM v_X8_reply vv_X8_reply s_RL_255 eL_law_1868 (fun _ _ h => WF_pick [15, 16, 20, 0, 1, 2, 3, 4, 5, 6, 7, 8, 9, 10, 11, 12, 13, 14, 17, 18, 19, 21, 22, 23, 24] rfl rfl h) (rcv 15 rfl) rfl (nle rfl) (nle rfl) (by omega) (by omega) rfl ?_
  refine x_istore [_, _, _, _, _, _, _, _, _] C eL_law_1871 rfl rfl (nlt rfl) ?_
  refine x_aload_n C eL_law_1873 rfl ?_
  refine yV0r [_, _, _, _, _, _, _, _, _, _, _, _, _, _, _, _, _, _, _, _, _, _, _, _] [_, _, _, _, _, _, _, _, _, _, _, _, _, _, _, _, _, _, _, _, _, _, _, _, _] C (s_X8_thrown hK) v_X8_thrown vv_X8_thrown s_RL_145 eL_law_1874 (fun _ _ h => WF_pick [0, 1, 2, 3, 4, 5, 6, 7, 8, 9, 10, 11, 12, 13, 14, 15, 16, 17, 18, 19, 20, 21, 22, 23, 24] rfl rfl h) (rcv 0 rfl) rfl (nle rfl) (nle rfl) (by omega) (by omega) rfl ?_
  refine x_iload C eL_law_1877 rfl ?_
  refine x_icmp_val (by first | exact up_s _ _ _ | exact (up_n (by decide)).trans (up_s _ _ _)) 1884 C eL_law_1879 rfl ?_
  refine x_iload C eL_law_1884 rfl ?_
  refine x_if_ne 1901 C eL_law_1886 rfl (by omega) (fun _ => ?_) (fun h => absurd h (by decide))
  refine x_goto (pc' := 2791) C eL_law_1901 rfl ?_
  refine x_pick [_, _, _, _, _, _, _, _, _, _, _, _, _, _, _, _, _, _, _, _, _, _, _, _, _] [3, 4, 6, 7, 8, 9, 10, 11, 12, 13, 14, 15, 16, 17, 0, 1, 18, 19, 20, 2, 21, 22, 23, 5, 24] rfl rfl ?_
  refine x_lv [_, _, _, _, _, _, none, none, _] rfl (lx_drop _ [6, 7] rfl) ?_
  exact x_wide (by omega) (by omega) (K9 (hI.qI (by omega) (up_n (by decide)) (up_n (by decide)) (up_n (by decide)) (up_n (by decide)) (up_n (by decide)) (up_n (by decide))))

set_option maxHeartbeats 4000000 in
set_option maxRecDepth 100000 in
theorem lc_31_2b {G : Gm} {X : Cx} {l : Launch} {x : LFx} {k nn : Nat} {i b : Int} {J : Nat → Int} {M : Pool} {n : Net} {N K : Nat → Net} {Fu Fb : Nat → Int} {w : List Int} {z : Int} {I TL TB : Nat → Int} {N9 : Nat → Net} {f : Nat → Int64} {fD : Nat → UInt64} {a1 a2 a3 : Int} (H : LKn G l x) {nmL : String} (hC : OKc G X l RL nmL cL_law 9 (some .boolean) 1400 600000 6200000) (hI : INV b J M n N K Fu Fb w z I) (hb : b ≤ 15000000) (hk : k + 100 ≤ 600000) (hn : nn + 2200 ≤ 6200000) (hi : 0 ≤ i ∧ i + 6 ≤ (x.L : Int)) (ha1 : (x.xs (i + 1).toNat).toInt = a1) (ha2 : (x.xs (i + 2).toNat).toInt = a2) (ha3 : (x.xs (i + 3).toNat).toInt = a3) (hl : 0 ≤ a1 ∧ a1 < n (-1) 0) (hv : 1 ≤ a2 ∧ a2 ≤ 127) (ht : ¬ (1 ≤ a3 ∧ a3 ≤ 60)) (K9 : LCont G X x (b + 8000) (k + 100) (nn + 2200) i) : WX G X k nn (LAT G x J M n N K Fu Fb w z I TL TB N9 f fD) 1824 (LLV x i) [] := by
  have C := hC
  have hK : KG G := H.hX.1.1.1
  have hH := hI.hN.1.1
  unfold HeadOk at hH
  have r1 : -2147483648 ≤ a1 ∧ a1 < 2147483648 := by rw [← ha1]; exact bI_toInt _
  have r2 : -2147483648 ≤ a2 ∧ a2 < 2147483648 := by rw [← ha2]; exact bI_toInt _
  have r3 : -2147483648 ≤ a3 ∧ a3 < 2147483648 := by rw [← ha3]; exact bI_toInt _
  refine x_aload_n C eL_law_1824 rfl ?_
  refine x_argA C H.hx H.hbl H.hL eL_law_1825 eL_law_1826 eL_law_1828 eL_law_1829 eL_law_1830 rfl rfl (by omega) ha1 ?_
  refine x_argA C H.hx H.hbl H.hL eL_law_1831 eL_law_1832 eL_law_1834 eL_law_1835 eL_law_1836 rfl rfl (by omega) ha2 ?_
  refine x_argA C H.hx H.hbl H.hL eL_law_1837 eL_law_1838 eL_law_1840 eL_law_1841 eL_law_1842 rfl rfl (by omega) ha3 ?_
  refine x_aload_n C eL_law_1843 rfl ?_
  refine x_callSW (As := [_, _, _, _, _]) [_, _, _, _, _, _, _, _, _, _, _, _, _, _, _, _, _, _, _, _, _, _] C (wx_reply_2 hK (t_X7_reply_16 H.hX H.hT0 (by omega) (by omega) hv (by omega) (by omega)) (xwd_c (i := 1) H.hX rfl) H.n1 (rcv 0 rfl)) cw_reply s_RL_253 eL_law_1844 rfl (fun _ _ h => WF_pick [0, 1, 23, 2, 3, 4, 5, 6, 7, 8, 9, 10, 11, 12, 13, 14, 15, 16, 17, 18, 19, 20, 21, 22, 24] rfl rfl h) rfl (nle rfl) (nle rfl) (by omega) (by omega) (fun _ _ => ?_)
  refine x_pick [_, _, _, _, _, _, _, _, _, _, _, _, _, _, _, _, _, _, _, _, _, _, _, _, _] [0, 1, 2, 3, 4, 5, 6, 7, 8, 9, 10, 11, 12, 13, 14, 15, 16, 17, 18, 19, 20, 21, 22, 23, 24] rfl rfl ?_
  refine x_istore [_, _, _, _, _, _, _, _, _] C eL_law_1847 rfl rfl (nlt rfl) ?_
  refine x_aload_n C eL_law_1849 rfl ?_
  refine x_argA C H.hx H.hbl H.hL eL_law_1850 eL_law_1851 eL_law_1853 eL_law_1854 eL_law_1855 rfl rfl (by omega) ha1 ?_
  refine x_argA C H.hx H.hbl H.hL eL_law_1856 eL_law_1857 eL_law_1859 eL_law_1860 eL_law_1861 rfl rfl (by omega) ha2 ?_
  refine x_argA C H.hx H.hbl H.hL eL_law_1862 eL_law_1863 eL_law_1865 eL_law_1866 eL_law_1867 rfl rfl (by omega) ha3 ?_
  have c1 : 0 ≤ a1 ∧ a1 ≤ n (-1) 0 - 1 := by first | trivial | omega | (simp only [if_true, if_false]; omega)
  have c2 : ¬ ((1 ≤ a2 ∧ a2 ≤ 127) ∧ 1 ≤ a3 ∧ a3 ≤ 60) := by first | omega | (simp only [if_true, if_false]; omega)
  have hM := s_X8_reply (G := G) (l := l) (o := x.o) (A := x.A) (I := I) (N := N9) (n := n) (b := b) (l9 := a1) (v9 := a2) (t9 := a3) (P := N) hK hI.hN.1 (by omega) (by omega) (by omega) (by omega) (by have := hI.e6; have := hI.h6; omega)
  simp only [if_neg (show ¬ ((0 ≤ a1 ∧ a1 ≤ n (-1) 0 - 1) ∧ ((1 ≤ a2 ∧ a2 ≤ 127) ∧ 1 ≤ a3 ∧ a3 ≤ 60) ∧ (True)) from fun q => c2 q.2.1), thr_2 c1 c2] at hM
  refine yV3r [_, _, _, _, _, _, _, _, _, _, _, _, _, _, _, _, _, _, _, _, _, _] [_, _, _, _, _, _, _, _, _, _, _, _, _, _, _, _, _, _, _, _, _, _, _, _, _] C hM v_X8_reply vv_X8_reply s_RL_255 eL_law_1868 (fun _ _ h => WF_pick [15, 16, 20, 0, 1, 2, 3, 4, 5, 6, 7, 8, 9, 10, 11, 12, 13, 14, 17, 18, 19, 21, 22, 23, 24] rfl rfl h) (rcv 15 rfl) rfl (nle rfl) (nle rfl) (by omega) (by omega) rfl ?_
  refine x_istore [_, _, _, _, _, _, _, _, _] C eL_law_1871 rfl rfl (nlt rfl) ?_
  refine x_aload_n C eL_law_1873 rfl ?_
  refine yV0r [_, _, _, _, _, _, _, _, _, _, _, _, _, _, _, _, _, _, _, _, _, _, _, _] [_, _, _, _, _, _, _, _, _, _, _, _, _, _, _, _, _, _, _, _, _, _, _, _, _] C (s_X8_thrown hK) v_X8_thrown vv_X8_thrown s_RL_145 eL_law_1874 (fun _ _ h => WF_pick [0, 1, 2, 3, 4, 5, 6, 7, 8, 9, 10, 11, 12, 13, 14, 15, 16, 17, 18, 19, 20, 21, 22, 23, 24] rfl rfl h) (rcv 0 rfl) rfl (nle rfl) (nle rfl) (by omega) (by omega) rfl ?_
  refine x_iload C eL_law_1877 rfl ?_
  refine x_icmp_val (by first | exact up_s _ _ _ | exact (up_n (by decide)).trans (up_s _ _ _)) 1884 C eL_law_1879 rfl ?_
  refine x_iload C eL_law_1884 rfl ?_
  refine x_if_ne 1901 C eL_law_1886 rfl (by omega) (fun _ => ?_) (fun h => absurd h (by decide))
  refine x_goto (pc' := 2791) C eL_law_1901 rfl ?_
  refine x_pick [_, _, _, _, _, _, _, _, _, _, _, _, _, _, _, _, _, _, _, _, _, _, _, _, _] [3, 4, 6, 7, 8, 9, 10, 11, 12, 13, 14, 15, 16, 17, 0, 1, 18, 19, 20, 2, 21, 22, 23, 5, 24] rfl rfl ?_
  refine x_lv [_, _, _, _, _, _, none, none, _] rfl (lx_drop _ [6, 7] rfl) ?_
  exact x_wide (by omega) (by omega) (K9 (hI.qI (by omega) (up_n (by decide)) (up_n (by decide)) (up_n (by decide)) (up_n (by decide)) (up_n (by decide)) (up_n (by decide))))

set_option maxHeartbeats 4000000 in
set_option maxRecDepth 100000 in
theorem lc_40_0 {G : Gm} {X : Cx} {l : Launch} {x : LFx} {k nn : Nat} {i b : Int} {J : Nat → Int} {M : Pool} {n : Net} {N K : Nat → Net} {Fu Fb : Nat → Int} {w : List Int} {z : Int} {I TL TB : Nat → Int} {N9 : Nat → Net} {f : Nat → Int64} {fD : Nat → UInt64} (H : LKn G l x) {nmL : String} (hC : OKc G X l RL nmL cL_law 9 (some .boolean) 1400 600000 6200000) (hI : INV b J M n N K Fu Fb w z I) (hb : b ≤ 15000000) (hk : k + 100 ≤ 600000) (hn : nn + 2200 ≤ 6200000) (hi : 0 ≤ i ∧ i + 6 ≤ (x.L : Int))   (K9 : LCont G X x (b + 8000) (k + 100) (nn + 2200) i) : WX G X k nn (LAT G x J M n N K Fu Fb w z I TL TB N9 f fD) 2471 (LLV x i) [] := by
  have C := hC
  have hK : KG G := H.hX.1.1.1
  have hH := hI.hN.1.1
  unfold HeadOk at hH
  refine x_aload_n C eL_law_2471 rfl ?_
  refine yV0s [_, _, _, _, _, _, _, _, _, _, _, _, _, _, _, _, _, _, _] [_, _, _, _, _, _, _, _, _, _, _, _, _, _, _, _, _, _, _, _, _, _, _, _, _] C (s_X7_pass hK hI.hN.1 (by omega) hI.h6 H.hX.1) v_X7_pass vv_X7_pass s_RL_281 eL_law_2472 (fun _ _ h => WF_pick [0, 1, 2, 3, 4, 12, 5, 6, 7, 8, 9, 10, 11, 13, 14, 15, 16, 17, 18, 19, 20, 21, 22, 23, 24] rfl rfl h) (rcv 0 rfl) rfl (nle rfl) (nle rfl) (by omega) (by omega) rfl ?_
  refine x_aload_n C eL_law_2475 rfl ?_
  have hM := s_X8_pass (G := G) (l := l) (o := x.o) (A := x.A) (I := I) (N := N9) (n := n) (P := N) (b := b) hK hI.hN.1 (by omega) (by have := hI.e6; have := hI.h6; omega)
  simp only [hI.e6] at hM
  refine yV0r [_, _, _, _, _, _, _, _, _, _, _, _, _, _, _, _, _, _, _, _, _, _] [_, _, _, _, _, _, _, _, _, _, _, _, _, _, _, _, _, _, _, _, _, _, _, _, _] C hM v_X8_pass vv_X8_pass s_RL_284 eL_law_2476 (fun _ _ h => WF_pick [14, 15, 19, 0, 1, 2, 3, 4, 5, 6, 7, 8, 9, 10, 11, 12, 13, 16, 17, 18, 20, 21, 22, 23, 24] rfl rfl h) (rcv 14 rfl) rfl (nle rfl) (nle rfl) (by omega) (by omega) rfl ?_
  refine x_icmp_same 2791 C eL_law_2479 rfl ?_
  refine x_pick [_, _, _, _, _, _, _, _, _, _, _, _, _, _, _, _, _, _, _, _, _, _, _, _, _] [3, 4, 5, 6, 7, 9, 10, 11, 12, 13, 14, 15, 8, 16, 0, 1, 17, 18, 19, 2, 20, 21, 22, 23, 24] rfl rfl ?_
  exact x_wide (by omega) (by omega) (K9 (hI.chg (by omega) ((GOK_pass hI.hN).mono (by omega)) (up_s _ _ _) ((up_n (by decide)).trans (up_n (by decide))) ((up_n (by decide)).trans (up_n (by decide))) ((up_n (by decide)).trans (up_n (by decide))) ((up_n (by decide)).trans (up_n (by decide))) ((up_n (by decide)).trans (up_n (by decide)))))

set_option maxHeartbeats 4000000 in
set_option maxRecDepth 100000 in
theorem lc_41_0 {G : Gm} {X : Cx} {l : Launch} {x : LFx} {k nn : Nat} {i b : Int} {J : Nat → Int} {M : Pool} {n : Net} {N K : Nat → Net} {Fu Fb : Nat → Int} {w : List Int} {z : Int} {I TL TB : Nat → Int} {N9 : Nat → Net} {f : Nat → Int64} {fD : Nat → UInt64} {a1 : Int} (H : LKn G l x) {nmL : String} (hC : OKc G X l RL nmL cL_law 9 (some .boolean) 1400 600000 6200000) (hI : INV b J M n N K Fu Fb w z I) (hb : b ≤ 15000000) (hk : k + 100 ≤ 600000) (hn : nn + 2200 ≤ 6200000) (hi : 0 ≤ i ∧ i + 6 ≤ (x.L : Int)) (ha1 : (x.xs (i + 1).toNat).toInt = a1) (hs : 0 ≤ a1 ∧ a1 ≤ 1) (K9 : LCont G X x (b + 8000) (k + 100) (nn + 2200) i) : WX G X k nn (LAT G x J M n N K Fu Fb w z I TL TB N9 f fD) 2484 (LLV x i) [] := by
  have C := hC
  have hK : KG G := H.hX.1.1.1
  have hH := hI.hN.1.1
  unfold HeadOk at hH
  have r1 : -2147483648 ≤ a1 ∧ a1 < 2147483648 := by rw [← ha1]; exact bI_toInt _
  refine x_aload_n C eL_law_2484 rfl ?_
  refine x_argA C H.hx H.hbl H.hL eL_law_2485 eL_law_2486 eL_law_2488 eL_law_2489 eL_law_2490 rfl rfl (by omega) ha1 ?_
  refine x_aload_n C eL_law_2491 rfl ?_
  refine x_callSW (As := [_, _, _]) [_, _, _, _, _, _, _, _, _, _, _, _, _, _, _, _, _, _] C (wn_keep hK (s_X7_keep hK hI.hN.1 (by omega) H.hX.1 (by omega)) (rcv 0 rfl)) cw_keep s_RL_285 eL_law_2492 rfl (fun _ _ h => WF_pick [0, 1, 2, 3, 4, 13, 23, 5, 6, 7, 8, 9, 10, 11, 12, 14, 15, 16, 17, 18, 19, 20, 21, 22, 24] rfl rfl h) rfl (nle rfl) (nle rfl) (by omega) (by omega) (fun _ _ => ?_)
  refine x_pick [_, _, _, _, _, _, _, _, _, _, _, _, _, _, _, _, _, _, _, _, _, _, _, _, _] [0, 1, 2, 3, 4, 5, 6, 7, 8, 9, 10, 11, 12, 13, 14, 15, 16, 17, 18, 19, 20, 21, 22, 23, 24] rfl rfl ?_
  refine x_istore [_, _, _, _, _, _, _, _, _] C eL_law_2495 rfl rfl (nlt rfl) ?_
  refine x_aload_n C eL_law_2497 rfl ?_
  refine x_argA C H.hx H.hbl H.hL eL_law_2498 eL_law_2499 eL_law_2501 eL_law_2502 eL_law_2503 rfl rfl (by omega) ha1 ?_
  have c1 : 0 ≤ a1 ∧ a1 ≤ 1 := by first | trivial | omega | (simp only [if_true, if_false]; omega)
  have c2 : True := by first | trivial | omega | (simp only [if_true, if_false]; omega)
  have c3 : True := by first | trivial | omega | (simp only [if_true, if_false]; omega)
  have hM := s_X8_keep (G := G) (l := l) (o := x.o) (A := x.A) (I := I) (N := N9) (n := n) (b := b) (s9 := a1) (K := K) (Fu := Fu) hK hI.hN.1 (by omega) (by omega)
  simp only [if_pos (show (0 ≤ a1 ∧ a1 ≤ 1) ∧ (True) ∧ (True) from ⟨c1, c2, c3⟩), thr_0 c1 c2 c3] at hM
  refine yV1r [_, _, _, _, _, _, _, _, _, _, _, _, _, _, _, _, _, _, _, _, _] [_, _, _, _, _, _, _, _, _, _, _, _, _, _, _, _, _, _, _, _, _, _, _, _, _] C hM v_X8_keep vv_X8_keep s_RL_287 eL_law_2504 (fun _ _ h => WF_pick [15, 16, 21, 22, 0, 1, 2, 3, 4, 5, 6, 7, 8, 9, 10, 11, 12, 13, 14, 17, 18, 19, 20, 23, 24] rfl rfl h) (rcv 15 rfl) rfl (nle rfl) (nle rfl) (by omega) (by omega) rfl ?_
  refine x_istore [_, _, _, _, _, _, _, _, _] C eL_law_2507 rfl rfl (nlt rfl) ?_
  refine x_aload_n C eL_law_2509 rfl ?_
  refine yV0r [_, _, _, _, _, _, _, _, _, _, _, _, _, _, _, _, _, _, _, _, _, _, _, _] [_, _, _, _, _, _, _, _, _, _, _, _, _, _, _, _, _, _, _, _, _, _, _, _, _] C (s_X8_thrown hK) v_X8_thrown vv_X8_thrown s_RL_145 eL_law_2510 (fun _ _ h => WF_pick [0, 1, 2, 3, 4, 5, 6, 7, 8, 9, 10, 11, 12, 13, 14, 15, 16, 17, 18, 19, 20, 21, 22, 23, 24] rfl rfl h) (rcv 0 rfl) rfl (nle rfl) (nle rfl) (by omega) (by omega) rfl ?_
  refine x_iload C eL_law_2513 rfl ?_
  refine x_icmp_val (by first | exact up_s _ _ _ | exact (up_n (by decide)).trans (up_s _ _ _)) 2520 C eL_law_2515 rfl ?_
  refine x_iload C eL_law_2520 rfl ?_
  refine x_if_ne 2537 C eL_law_2522 rfl (by omega) (fun h => absurd rfl h) (fun _ => ?_)
  refine x_aload_n C eL_law_2525 rfl ?_
  refine x_iconst C eL_law_2526 ?_
  refine x_lald (N := 1) 10 C eL_law_2527 rfl (by decide) (by omega) ?_
  refine x_iload C eL_law_2528 rfl ?_
  refine x_i2lR C eL_law_2530 ?_
  refine x_lcmp_same 2537 (by first | exact if_pos rfl | (rw [if_pos rfl]; rfl) | decide) C eL_law_2531 eL_law_2532 rfl ?_
  refine x_goto (pc' := 2791) C eL_law_2537 rfl ?_
  refine x_pick [_, _, _, _, _, _, _, _, _, _, _, _, _, _, _, _, _, _, _, _, _, _, _, _, _] [4, 5, 6, 7, 8, 11, 12, 13, 14, 15, 16, 17, 18, 9, 0, 1, 19, 20, 21, 22, 2, 3, 23, 10, 24] rfl rfl ?_
  refine x_lv [_, _, _, _, _, _, none, none, _] rfl (lx_drop _ [6, 7] rfl) ?_
  exact x_wide (by omega) (by omega) (K9 (hI.keep (by omega) hs (up_n (by decide)) (up_n (by decide)) (up_n (by decide)) (up_n (by decide)) (up_n (by decide)) (up_n (by decide))))

set_option maxHeartbeats 4000000 in
set_option maxRecDepth 100000 in
theorem lc_41_1 {G : Gm} {X : Cx} {l : Launch} {x : LFx} {k nn : Nat} {i b : Int} {J : Nat → Int} {M : Pool} {n : Net} {N K : Nat → Net} {Fu Fb : Nat → Int} {w : List Int} {z : Int} {I TL TB : Nat → Int} {N9 : Nat → Net} {f : Nat → Int64} {fD : Nat → UInt64} {a1 : Int} (H : LKn G l x) {nmL : String} (hC : OKc G X l RL nmL cL_law 9 (some .boolean) 1400 600000 6200000) (hI : INV b J M n N K Fu Fb w z I) (hb : b ≤ 15000000) (hk : k + 100 ≤ 600000) (hn : nn + 2200 ≤ 6200000) (hi : 0 ≤ i ∧ i + 6 ≤ (x.L : Int)) (ha1 : (x.xs (i + 1).toNat).toInt = a1) (hs : ¬ (0 ≤ a1 ∧ a1 ≤ 1)) (K9 : LCont G X x (b + 8000) (k + 100) (nn + 2200) i) : WX G X k nn (LAT G x J M n N K Fu Fb w z I TL TB N9 f fD) 2484 (LLV x i) [] := by
  have C := hC
  have hK : KG G := H.hX.1.1.1
  have hH := hI.hN.1.1
  unfold HeadOk at hH
  have r1 : -2147483648 ≤ a1 ∧ a1 < 2147483648 := by rw [← ha1]; exact bI_toInt _
  refine x_aload_n C eL_law_2484 rfl ?_
  refine x_argA C H.hx H.hbl H.hL eL_law_2485 eL_law_2486 eL_law_2488 eL_law_2489 eL_law_2490 rfl rfl (by omega) ha1 ?_
  refine x_aload_n C eL_law_2491 rfl ?_
  refine x_callSW (As := [_, _, _]) [_, _, _, _, _, _, _, _, _, _, _, _, _, _, _, _, _, _, _, _, _, _] C (wx_keep_1 hK (t_X7_keep_2 H.hX H.hT0 (by omega) (by omega)) (xwd_c (i := 0) H.hX rfl) (rcv 0 rfl)) cw_keep s_RL_285 eL_law_2492 rfl (fun _ _ h => WF_pick [0, 13, 23, 1, 2, 3, 4, 5, 6, 7, 8, 9, 10, 11, 12, 14, 15, 16, 17, 18, 19, 20, 21, 22, 24] rfl rfl h) rfl (nle rfl) (nle rfl) (by omega) (by omega) (fun _ _ => ?_)
  refine x_pick [_, _, _, _, _, _, _, _, _, _, _, _, _, _, _, _, _, _, _, _, _, _, _, _, _] [0, 1, 2, 3, 4, 5, 6, 7, 8, 9, 10, 11, 12, 13, 14, 15, 16, 17, 18, 19, 20, 21, 22, 23, 24] rfl rfl ?_
  refine x_istore [_, _, _, _, _, _, _, _, _] C eL_law_2495 rfl rfl (nlt rfl) ?_
  refine x_aload_n C eL_law_2497 rfl ?_
  refine x_argA C H.hx H.hbl H.hL eL_law_2498 eL_law_2499 eL_law_2501 eL_law_2502 eL_law_2503 rfl rfl (by omega) ha1 ?_
  have c1 : ¬ (0 ≤ a1 ∧ a1 ≤ 1) := by first | omega | (simp only [if_true, if_false]; omega)
  have hM := s_X8_keep (G := G) (l := l) (o := x.o) (A := x.A) (I := I) (N := N9) (n := n) (b := b) (s9 := a1) (K := K) (Fu := Fu) hK hI.hN.1 (by omega) (by omega)
  simp only [if_neg (show ¬ ((0 ≤ a1 ∧ a1 ≤ 1) ∧ (True) ∧ (True)) from fun q => c1 q.1), thr_1 c1] at hM
  refine yV1r [_, _, _, _, _, _, _, _, _, _, _, _, _, _, _, _, _, _, _, _, _] [_, _, _, _, _, _, _, _, _, _, _, _, _, _, _, _, _, _, _, _, _, _, _, _, _] C hM v_X8_keep vv_X8_keep s_RL_287 eL_law_2504 (fun _ _ h => WF_pick [15, 16, 21, 22, 0, 1, 2, 3, 4, 5, 6, 7, 8, 9, 10, 11, 12, 13, 14, 17, 18, 19, 20, 23, 24] rfl rfl h) (rcv 15 rfl) rfl (nle rfl) (nle rfl) (by omega) (by omega) rfl ?_
  refine x_istore [_, _, _, _, _, _, _, _, _] C eL_law_2507 rfl rfl (nlt rfl) ?_
  refine x_aload_n C eL_law_2509 rfl ?_
  refine yV0r [_, _, _, _, _, _, _, _, _, _, _, _, _, _, _, _, _, _, _, _, _, _, _, _] [_, _, _, _, _, _, _, _, _, _, _, _, _, _, _, _, _, _, _, _, _, _, _, _, _] C (s_X8_thrown hK) v_X8_thrown vv_X8_thrown s_RL_145 eL_law_2510 (fun _ _ h => WF_pick [0, 1, 2, 3, 4, 5, 6, 7, 8, 9, 10, 11, 12, 13, 14, 15, 16, 17, 18, 19, 20, 21, 22, 23, 24] rfl rfl h) (rcv 0 rfl) rfl (nle rfl) (nle rfl) (by omega) (by omega) rfl ?_
  refine x_iload C eL_law_2513 rfl ?_
  refine x_icmp_val (by first | exact up_s _ _ _ | exact (up_n (by decide)).trans (up_s _ _ _)) 2520 C eL_law_2515 rfl ?_
  refine x_iload C eL_law_2520 rfl ?_
  refine x_if_ne 2537 C eL_law_2522 rfl (by omega) (fun _ => ?_) (fun h => absurd h (by decide))
  refine x_goto (pc' := 2791) C eL_law_2537 rfl ?_
  refine x_pick [_, _, _, _, _, _, _, _, _, _, _, _, _, _, _, _, _, _, _, _, _, _, _, _, _] [4, 7, 8, 9, 10, 11, 12, 13, 14, 15, 16, 17, 18, 5, 0, 1, 19, 20, 21, 22, 2, 3, 23, 6, 24] rfl rfl ?_
  refine x_lv [_, _, _, _, _, _, none, none, _] rfl (lx_drop _ [6, 7] rfl) ?_
  exact x_wide (by omega) (by omega) (K9 (hI.qI (by omega) (up_n (by decide)) (up_n (by decide)) (up_n (by decide)) (up_n (by decide)) (up_n (by decide)) (up_n (by decide))))

set_option maxHeartbeats 4000000 in
set_option maxRecDepth 100000 in
theorem lc_42_0 {G : Gm} {X : Cx} {l : Launch} {x : LFx} {k nn : Nat} {i b : Int} {J : Nat → Int} {M : Pool} {n : Net} {N K : Nat → Net} {Fu Fb : Nat → Int} {w : List Int} {z : Int} {I TL TB : Nat → Int} {N9 : Nat → Net} {f : Nat → Int64} {fD : Nat → UInt64} {a1 : Int} (H : LKn G l x) {nmL : String} (hC : OKc G X l RL nmL cL_law 9 (some .boolean) 1400 600000 6200000) (hI : INV b J M n N K Fu Fb w z I) (hb : b ≤ 15000000) (hk : k + 100 ≤ 600000) (hn : nn + 2200 ≤ 6200000) (hi : 0 ≤ i ∧ i + 6 ≤ (x.L : Int)) (ha1 : (x.xs (i + 1).toNat).toInt = a1) (hs : 0 ≤ a1 ∧ a1 ≤ 1) (hf : Fu a1.toNat = 1) (K9 : LCont G X x (b + 8000) (k + 100) (nn + 2200) i) : WX G X k nn (LAT G x J M n N K Fu Fb w z I TL TB N9 f fD) 2540 (LLV x i) [] := by
  have C := hC
  have hK : KG G := H.hX.1.1.1
  have hH := hI.hN.1.1
  unfold HeadOk at hH
  have r1 : -2147483648 ≤ a1 ∧ a1 < 2147483648 := by rw [← ha1]; exact bI_toInt _
  refine x_aload_n C eL_law_2540 rfl ?_
  refine x_argA C H.hx H.hbl H.hL eL_law_2541 eL_law_2542 eL_law_2544 eL_law_2545 eL_law_2546 rfl rfl (by omega) ha1 ?_
  refine x_aload_n C eL_law_2547 rfl ?_
  refine x_callSW (As := [_, _, _]) [_, _, _, _, _, _, _, _, _, _, _, _, _, _, _, _, _] C (wn_restore hK (s_X7_restore hK hI.hN.1 (by omega) hI.h6 H.hX.1 (by omega) hf (hI.hK _ (by omega) hf).1) (rcv 0 rfl)) cw_restore s_RL_288 eL_law_2548 rfl (fun _ _ h => WF_pick [0, 1, 2, 3, 4, 12, 13, 23, 5, 6, 7, 8, 9, 10, 11, 14, 15, 16, 17, 18, 19, 20, 21, 22, 24] rfl rfl h) rfl (nle rfl) (nle rfl) (by omega) (by omega) (fun _ _ => ?_)
  refine x_pick [_, _, _, _, _, _, _, _, _, _, _, _, _, _, _, _, _, _, _, _, _, _, _, _, _] [0, 1, 2, 3, 4, 5, 6, 7, 8, 9, 10, 11, 12, 13, 14, 15, 16, 17, 18, 19, 20, 21, 22, 23, 24] rfl rfl ?_
  refine x_istore [_, _, _, _, _, _, _, _, _] C eL_law_2551 rfl rfl (nlt rfl) ?_
  refine x_aload_n C eL_law_2553 rfl ?_
  refine x_argA C H.hx H.hbl H.hL eL_law_2554 eL_law_2555 eL_law_2557 eL_law_2558 eL_law_2559 rfl rfl (by omega) ha1 ?_
  have c1 : 0 ≤ a1 ∧ a1 ≤ 1 := by first | trivial | omega | (simp only [if_true, if_false]; omega)
  have c2 : ¬ (0 ≤ a1 ∧ a1 ≤ 1) ∨ Fu a1.toNat = 1 := by first | trivial | omega | (simp only [if_true, if_false]; omega)
  have c3 : True := by first | trivial | omega | (simp only [if_true, if_false]; omega)
  have hM := s_X8_restore (G := G) (l := l) (o := x.o) (A := x.A) (I := I) (N := N9) (n := n) (b := b) (s9 := a1) (P := N) (K := K) (Fu := Fu) hK hI.hN.1 (by omega) (by omega) (by have := hI.e6; have := hI.h6; omega) hI.hFu
  simp only [if_pos (show (0 ≤ a1 ∧ a1 ≤ 1) ∧ (¬ (0 ≤ a1 ∧ a1 ≤ 1) ∨ Fu a1.toNat = 1) ∧ (True) from ⟨c1, c2, c3⟩), thr_0 c1 c2 c3] at hM
  simp only [hI.e6] at hM
  refine yV1r [_, _, _, _, _, _, _, _, _, _, _, _, _, _, _, _, _, _, _, _] [_, _, _, _, _, _, _, _, _, _, _, _, _, _, _, _, _, _, _, _, _, _, _, _, _] C hM v_X8_restore vv_X8_restore s_RL_290 eL_law_2560 (fun _ _ h => WF_pick [15, 16, 20, 21, 22, 0, 1, 2, 3, 4, 5, 6, 7, 8, 9, 10, 11, 12, 13, 14, 17, 18, 19, 23, 24] rfl rfl h) (rcv 15 rfl) rfl (nle rfl) (nle rfl) (by omega) (by omega) rfl ?_
  refine x_istore [_, _, _, _, _, _, _, _, _] C eL_law_2563 rfl rfl (nlt rfl) ?_
  refine x_aload_n C eL_law_2565 rfl ?_
  refine yV0r [_, _, _, _, _, _, _, _, _, _, _, _, _, _, _, _, _, _, _, _, _, _, _, _] [_, _, _, _, _, _, _, _, _, _, _, _, _, _, _, _, _, _, _, _, _, _, _, _, _] C (s_X8_thrown hK) v_X8_thrown vv_X8_thrown s_RL_145 eL_law_2566 (fun _ _ h => WF_pick [0, 1, 2, 3, 4, 5, 6, 7, 8, 9, 10, 11, 12, 13, 14, 15, 16, 17, 18, 19, 20, 21, 22, 23, 24] rfl rfl h) (rcv 0 rfl) rfl (nle rfl) (nle rfl) (by omega) (by omega) rfl ?_
  refine x_iload C eL_law_2569 rfl ?_
  refine x_icmp_val (by first | exact up_s _ _ _ | exact (up_n (by decide)).trans (up_s _ _ _)) 2576 C eL_law_2571 rfl ?_
  refine x_iload C eL_law_2576 rfl ?_
  refine x_if_ne 2593 C eL_law_2578 rfl (by omega) (fun h => absurd rfl h) (fun _ => ?_)
  refine x_aload_n C eL_law_2581 rfl ?_
  refine x_iconst C eL_law_2582 ?_
  refine x_lald (N := 1) 12 C eL_law_2583 rfl (by decide) (by omega) ?_
  refine x_iload C eL_law_2584 rfl ?_
  refine x_i2lR C eL_law_2586 ?_
  refine x_lcmp_same 2593 (by first | exact if_pos rfl | (rw [if_pos rfl]; rfl) | decide) C eL_law_2587 eL_law_2588 rfl ?_
  refine x_goto (pc' := 2791) C eL_law_2593 rfl ?_
  refine x_pick [_, _, _, _, _, _, _, _, _, _, _, _, _, _, _, _, _, _, _, _, _, _, _, _, _] [5, 6, 7, 8, 9, 13, 14, 15, 16, 17, 18, 19, 10, 11, 0, 1, 20, 21, 22, 2, 3, 4, 23, 12, 24] rfl rfl ?_
  refine x_lv [_, _, _, _, _, _, none, none, _] rfl (lx_drop _ [6, 7] rfl) ?_
  exact x_wide (by omega) (by omega) (K9 (hI.chg (by omega) ((hI.hK a1.toNat (by omega) hf).mono (by omega)) (up_s _ _ _) ((up_n (by decide)).trans (up_n (by decide))) ((up_n (by decide)).trans (up_n (by decide))) ((up_n (by decide)).trans (up_n (by decide))) ((up_n (by decide)).trans (up_n (by decide))) ((up_n (by decide)).trans (up_n (by decide)))))

set_option maxHeartbeats 4000000 in
set_option maxRecDepth 100000 in
theorem lc_42_1 {G : Gm} {X : Cx} {l : Launch} {x : LFx} {k nn : Nat} {i b : Int} {J : Nat → Int} {M : Pool} {n : Net} {N K : Nat → Net} {Fu Fb : Nat → Int} {w : List Int} {z : Int} {I TL TB : Nat → Int} {N9 : Nat → Net} {f : Nat → Int64} {fD : Nat → UInt64} {a1 : Int} (H : LKn G l x) {nmL : String} (hC : OKc G X l RL nmL cL_law 9 (some .boolean) 1400 600000 6200000) (hI : INV b J M n N K Fu Fb w z I) (hb : b ≤ 15000000) (hk : k + 100 ≤ 600000) (hn : nn + 2200 ≤ 6200000) (hi : 0 ≤ i ∧ i + 6 ≤ (x.L : Int)) (ha1 : (x.xs (i + 1).toNat).toInt = a1) (hs : ¬ (0 ≤ a1 ∧ a1 ≤ 1)) (K9 : LCont G X x (b + 8000) (k + 100) (nn + 2200) i) : WX G X k nn (LAT G x J M n N K Fu Fb w z I TL TB N9 f fD) 2540 (LLV x i) [] := by
  have C := hC
  have hK : KG G := H.hX.1.1.1
  have hH := hI.hN.1.1
  unfold HeadOk at hH
  have r1 : -2147483648 ≤ a1 ∧ a1 < 2147483648 := by rw [← ha1]; exact bI_toInt _
  refine x_aload_n C eL_law_2540 rfl ?_
  refine x_argA C H.hx H.hbl H.hL eL_law_2541 eL_law_2542 eL_law_2544 eL_law_2545 eL_law_2546 rfl rfl (by omega) ha1 ?_
  refine x_aload_n C eL_law_2547 rfl ?_
  refine x_callSW (As := [_, _, _]) [_, _, _, _, _, _, _, _, _, _, _, _, _, _, _, _, _, _, _, _, _, _] C (wx_restore_1 hK (t_X7_restore_2 H.hX H.hT0 (by omega) (by omega)) (xwd_c (i := 0) H.hX rfl) (rcv 0 rfl)) cw_restore s_RL_288 eL_law_2548 rfl (fun _ _ h => WF_pick [0, 13, 23, 1, 2, 3, 4, 5, 6, 7, 8, 9, 10, 11, 12, 14, 15, 16, 17, 18, 19, 20, 21, 22, 24] rfl rfl h) rfl (nle rfl) (nle rfl) (by omega) (by omega) (fun _ _ => ?_)
  refine x_pick [_, _, _, _, _, _, _, _, _, _, _, _, _, _, _, _, _, _, _, _, _, _, _, _, _] [0, 1, 2, 3, 4, 5, 6, 7, 8, 9, 10, 11, 12, 13, 14, 15, 16, 17, 18, 19, 20, 21, 22, 23, 24] rfl rfl ?_
  refine x_istore [_, _, _, _, _, _, _, _, _] C eL_law_2551 rfl rfl (nlt rfl) ?_
  refine x_aload_n C eL_law_2553 rfl ?_
  refine x_argA C H.hx H.hbl H.hL eL_law_2554 eL_law_2555 eL_law_2557 eL_law_2558 eL_law_2559 rfl rfl (by omega) ha1 ?_
  have c1 : ¬ (0 ≤ a1 ∧ a1 ≤ 1) := by first | omega | (simp only [if_true, if_false]; omega)
  have hM := s_X8_restore (G := G) (l := l) (o := x.o) (A := x.A) (I := I) (N := N9) (n := n) (b := b) (s9 := a1) (P := N) (K := K) (Fu := Fu) hK hI.hN.1 (by omega) (by omega) (by have := hI.e6; have := hI.h6; omega) hI.hFu
  simp only [if_neg (show ¬ ((0 ≤ a1 ∧ a1 ≤ 1) ∧ (¬ (0 ≤ a1 ∧ a1 ≤ 1) ∨ Fu a1.toNat = 1) ∧ (True)) from fun q => c1 q.1), thr_1 c1] at hM
  refine yV1r [_, _, _, _, _, _, _, _, _, _, _, _, _, _, _, _, _, _, _, _] [_, _, _, _, _, _, _, _, _, _, _, _, _, _, _, _, _, _, _, _, _, _, _, _, _] C hM v_X8_restore vv_X8_restore s_RL_290 eL_law_2560 (fun _ _ h => WF_pick [15, 16, 20, 21, 22, 0, 1, 2, 3, 4, 5, 6, 7, 8, 9, 10, 11, 12, 13, 14, 17, 18, 19, 23, 24] rfl rfl h) (rcv 15 rfl) rfl (nle rfl) (nle rfl) (by omega) (by omega) rfl ?_
  refine x_istore [_, _, _, _, _, _, _, _, _] C eL_law_2563 rfl rfl (nlt rfl) ?_
  refine x_aload_n C eL_law_2565 rfl ?_
  refine yV0r [_, _, _, _, _, _, _, _, _, _, _, _, _, _, _, _, _, _, _, _, _, _, _, _] [_, _, _, _, _, _, _, _, _, _, _, _, _, _, _, _, _, _, _, _, _, _, _, _, _] C (s_X8_thrown hK) v_X8_thrown vv_X8_thrown s_RL_145 eL_law_2566 (fun _ _ h => WF_pick [0, 1, 2, 3, 4, 5, 6, 7, 8, 9, 10, 11, 12, 13, 14, 15, 16, 17, 18, 19, 20, 21, 22, 23, 24] rfl rfl h) (rcv 0 rfl) rfl (nle rfl) (nle rfl) (by omega) (by omega) rfl ?_
  refine x_iload C eL_law_2569 rfl ?_
  refine x_icmp_val (by first | exact up_s _ _ _ | exact (up_n (by decide)).trans (up_s _ _ _)) 2576 C eL_law_2571 rfl ?_
  refine x_iload C eL_law_2576 rfl ?_
  refine x_if_ne 2593 C eL_law_2578 rfl (by omega) (fun _ => ?_) (fun h => absurd h (by decide))
  refine x_goto (pc' := 2791) C eL_law_2593 rfl ?_
  refine x_pick [_, _, _, _, _, _, _, _, _, _, _, _, _, _, _, _, _, _, _, _, _, _, _, _, _] [5, 8, 9, 10, 11, 12, 13, 14, 15, 16, 17, 18, 19, 6, 0, 1, 20, 21, 22, 2, 3, 4, 23, 7, 24] rfl rfl ?_
  refine x_lv [_, _, _, _, _, _, none, none, _] rfl (lx_drop _ [6, 7] rfl) ?_
  exact x_wide (by omega) (by omega) (K9 (hI.qI (by omega) (up_n (by decide)) (up_n (by decide)) (up_n (by decide)) (up_n (by decide)) (up_n (by decide)) (up_n (by decide))))

set_option maxHeartbeats 4000000 in
set_option maxRecDepth 100000 in
theorem lc_42_2 {G : Gm} {X : Cx} {l : Launch} {x : LFx} {k nn : Nat} {i b : Int} {J : Nat → Int} {M : Pool} {n : Net} {N K : Nat → Net} {Fu Fb : Nat → Int} {w : List Int} {z : Int} {I TL TB : Nat → Int} {N9 : Nat → Net} {f : Nat → Int64} {fD : Nat → UInt64} {a1 : Int} (H : LKn G l x) {nmL : String} (hC : OKc G X l RL nmL cL_law 9 (some .boolean) 1400 600000 6200000) (hI : INV b J M n N K Fu Fb w z I) (hb : b ≤ 15000000) (hk : k + 100 ≤ 600000) (hn : nn + 2200 ≤ 6200000) (hi : 0 ≤ i ∧ i + 6 ≤ (x.L : Int)) (ha1 : (x.xs (i + 1).toNat).toInt = a1) (hs : 0 ≤ a1 ∧ a1 ≤ 1) (hf : ¬ Fu a1.toNat = 1) (K9 : LCont G X x (b + 8000) (k + 100) (nn + 2200) i) : WX G X k nn (LAT G x J M n N K Fu Fb w z I TL TB N9 f fD) 2540 (LLV x i) [] := by
  have C := hC
  have hK : KG G := H.hX.1.1.1
  have hH := hI.hN.1.1
  unfold HeadOk at hH
  have r1 : -2147483648 ≤ a1 ∧ a1 < 2147483648 := by rw [← ha1]; exact bI_toInt _
  refine x_aload_n C eL_law_2540 rfl ?_
  refine x_argA C H.hx H.hbl H.hL eL_law_2541 eL_law_2542 eL_law_2544 eL_law_2545 eL_law_2546 rfl rfl (by omega) ha1 ?_
  refine x_aload_n C eL_law_2547 rfl ?_
  refine x_callSW (As := [_, _, _]) [_, _, _, _, _, _, _, _, _, _, _, _, _, _, _, _, _, _, _, _, _, _] C (wx_restore_2 hK (t_X7_restore_16 H.hX H.hT0 (by omega) (by omega)) (xwd_c (i := 2) H.hX rfl) H.n2 (rcv 0 rfl)) cw_restore s_RL_288 eL_law_2548 rfl (fun _ _ h => WF_pick [0, 13, 23, 1, 2, 3, 4, 5, 6, 7, 8, 9, 10, 11, 12, 14, 15, 16, 17, 18, 19, 20, 21, 22, 24] rfl rfl h) rfl (nle rfl) (nle rfl) (by omega) (by omega) (fun _ _ => ?_)
  refine x_pick [_, _, _, _, _, _, _, _, _, _, _, _, _, _, _, _, _, _, _, _, _, _, _, _, _] [0, 1, 2, 3, 4, 5, 6, 7, 8, 9, 10, 11, 12, 13, 14, 15, 16, 17, 18, 19, 20, 21, 22, 23, 24] rfl rfl ?_
  refine x_istore [_, _, _, _, _, _, _, _, _] C eL_law_2551 rfl rfl (nlt rfl) ?_
  refine x_aload_n C eL_law_2553 rfl ?_
  refine x_argA C H.hx H.hbl H.hL eL_law_2554 eL_law_2555 eL_law_2557 eL_law_2558 eL_law_2559 rfl rfl (by omega) ha1 ?_
  have c1 : 0 ≤ a1 ∧ a1 ≤ 1 := by first | trivial | omega | (simp only [if_true, if_false]; omega)
  have c2 : ¬ (¬ (0 ≤ a1 ∧ a1 ≤ 1) ∨ Fu a1.toNat = 1) := by first | omega | (simp only [if_true, if_false]; omega)
  have hM := s_X8_restore (G := G) (l := l) (o := x.o) (A := x.A) (I := I) (N := N9) (n := n) (b := b) (s9 := a1) (P := N) (K := K) (Fu := Fu) hK hI.hN.1 (by omega) (by omega) (by have := hI.e6; have := hI.h6; omega) hI.hFu
  simp only [if_neg (show ¬ ((0 ≤ a1 ∧ a1 ≤ 1) ∧ (¬ (0 ≤ a1 ∧ a1 ≤ 1) ∨ Fu a1.toNat = 1) ∧ (True)) from fun q => c2 q.2.1), thr_2 c1 c2] at hM
  refine yV1r [_, _, _, _, _, _, _, _, _, _, _, _, _, _, _, _, _, _, _, _] [_, _, _, _, _, _, _, _, _, _, _, _, _, _, _, _, _, _, _, _, _, _, _, _, _] C hM v_X8_restore vv_X8_restore s_RL_290 eL_law_2560 (fun _ _ h => WF_pick [15, 16, 20, 21, 22, 0, 1, 2, 3, 4, 5, 6, 7, 8, 9, 10, 11, 12, 13, 14, 17, 18, 19, 23, 24] rfl rfl h) (rcv 15 rfl) rfl (nle rfl) (nle rfl) (by omega) (by omega) rfl ?_
  refine x_istore [_, _, _, _, _, _, _, _, _] C eL_law_2563 rfl rfl (nlt rfl) ?_
  refine x_aload_n C eL_law_2565 rfl ?_
  refine yV0r [_, _, _, _, _, _, _, _, _, _, _, _, _, _, _, _, _, _, _, _, _, _, _, _] [_, _, _, _, _, _, _, _, _, _, _, _, _, _, _, _, _, _, _, _, _, _, _, _, _] C (s_X8_thrown hK) v_X8_thrown vv_X8_thrown s_RL_145 eL_law_2566 (fun _ _ h => WF_pick [0, 1, 2, 3, 4, 5, 6, 7, 8, 9, 10, 11, 12, 13, 14, 15, 16, 17, 18, 19, 20, 21, 22, 23, 24] rfl rfl h) (rcv 0 rfl) rfl (nle rfl) (nle rfl) (by omega) (by omega) rfl ?_
  refine x_iload C eL_law_2569 rfl ?_
  refine x_icmp_val (by first | exact up_s _ _ _ | exact (up_n (by decide)).trans (up_s _ _ _)) 2576 C eL_law_2571 rfl ?_
  refine x_iload C eL_law_2576 rfl ?_
  refine x_if_ne 2593 C eL_law_2578 rfl (by omega) (fun _ => ?_) (fun h => absurd h (by decide))
  refine x_goto (pc' := 2791) C eL_law_2593 rfl ?_
  refine x_pick [_, _, _, _, _, _, _, _, _, _, _, _, _, _, _, _, _, _, _, _, _, _, _, _, _] [5, 8, 9, 10, 11, 12, 13, 14, 15, 16, 17, 18, 19, 6, 0, 1, 20, 21, 22, 2, 3, 4, 23, 7, 24] rfl rfl ?_
  refine x_lv [_, _, _, _, _, _, none, none, _] rfl (lx_drop _ [6, 7] rfl) ?_
  exact x_wide (by omega) (by omega) (K9 (hI.qI (by omega) (up_n (by decide)) (up_n (by decide)) (up_n (by decide)) (up_n (by decide)) (up_n (by decide)) (up_n (by decide))))

set_option maxHeartbeats 4000000 in
set_option maxRecDepth 100000 in
theorem lc_43_0 {G : Gm} {X : Cx} {l : Launch} {x : LFx} {k nn : Nat} {i b : Int} {J : Nat → Int} {M : Pool} {n : Net} {N K : Nat → Net} {Fu Fb : Nat → Int} {w : List Int} {z : Int} {I TL TB : Nat → Int} {N9 : Nat → Net} {f : Nat → Int64} {fD : Nat → UInt64} (H : LKn G l x) {nmL : String} (hC : OKc G X l RL nmL cL_law 9 (some .boolean) 1400 600000 6200000) (hI : INV b J M n N K Fu Fb w z I) (hb : b ≤ 15000000) (hk : k + 100 ≤ 600000) (hn : nn + 2200 ≤ 6200000) (hi : 0 ≤ i ∧ i + 6 ≤ (x.L : Int))  (h0 : 0 < J 6) (K9 : LCont G X x (b + 8000) (k + 100) (nn + 2200) i) : WX G X k nn (LAT G x J M n N K Fu Fb w z I TL TB N9 f fD) 2596 (LLV x i) [] := by
  have C := hC
  have hK : KG G := H.hX.1.1.1
  have hH := hI.hN.1.1
  unfold HeadOk at hH
  have e6 := hI.e6
  have h6 := hI.h6
  refine x_aload_n C eL_law_2596 rfl ?_
  refine x_aload_n C eL_law_2597 rfl ?_
  refine x_callSW (As := [_, _]) [_, _, _, _, _, _, _, _, _, _, _, _, _, _, _, _, _, _] C (wn_undo hK (s_X7_undo hK hI.hN.1 (by omega) (by omega) (hI.hP _ (by omega)).1) (rcv 0 rfl)) cw_undo s_RL_291 eL_law_2598 rfl (fun _ _ h => WF_pick [0, 1, 2, 3, 4, 12, 23, 5, 6, 7, 8, 9, 10, 11, 13, 14, 15, 16, 17, 18, 19, 20, 21, 22, 24] rfl rfl h) rfl (nle rfl) (nle rfl) (by omega) (by omega) (fun _ _ => ?_)
  refine x_pick [_, _, _, _, _, _, _, _, _, _, _, _, _, _, _, _, _, _, _, _, _, _, _, _, _] [0, 1, 2, 3, 4, 5, 6, 7, 8, 9, 10, 11, 12, 13, 14, 15, 16, 17, 18, 19, 20, 21, 22, 23, 24] rfl rfl ?_
  refine x_istore [_, _, _, _, _, _, _, _, _] C eL_law_2601 rfl rfl (nlt rfl) ?_
  refine x_aload_n C eL_law_2603 rfl ?_
  have c1 : 0 < I 20 := by first | trivial | omega | (simp only [if_true, if_false]; omega)
  have c2 : True := by first | trivial | omega | (simp only [if_true, if_false]; omega)
  have c3 : True := by first | trivial | omega | (simp only [if_true, if_false]; omega)
  have hM := s_X8_undo (G := G) (l := l) (o := x.o) (A := x.A) (I := I) (N := N9) (n := n) (P := N) hK (by have := hI.e6; have := hI.h6; omega)
  simp only [if_pos (show (0 < I 20) ∧ (True) ∧ (True) from ⟨c1, c2, c3⟩), thr_0 c1 c2 c3] at hM
  simp only [hI.e6] at hM
  refine yV0r [_, _, _, _, _, _, _, _, _, _, _, _, _, _, _, _, _, _, _, _, _, _] [_, _, _, _, _, _, _, _, _, _, _, _, _, _, _, _, _, _, _, _, _, _, _, _, _] C hM v_X8_undo vv_X8_undo s_RL_294 eL_law_2604 (fun _ _ h => WF_pick [15, 16, 20, 0, 1, 2, 3, 4, 5, 6, 7, 8, 9, 10, 11, 12, 13, 14, 17, 18, 19, 21, 22, 23, 24] rfl rfl h) (rcv 15 rfl) rfl (nle rfl) (nle rfl) (by omega) (by omega) rfl ?_
  refine x_istore [_, _, _, _, _, _, _, _, _] C eL_law_2607 rfl rfl (nlt rfl) ?_
  refine x_aload_n C eL_law_2609 rfl ?_
  refine yV0r [_, _, _, _, _, _, _, _, _, _, _, _, _, _, _, _, _, _, _, _, _, _, _, _] [_, _, _, _, _, _, _, _, _, _, _, _, _, _, _, _, _, _, _, _, _, _, _, _, _] C (s_X8_thrown hK) v_X8_thrown vv_X8_thrown s_RL_145 eL_law_2610 (fun _ _ h => WF_pick [0, 1, 2, 3, 4, 5, 6, 7, 8, 9, 10, 11, 12, 13, 14, 15, 16, 17, 18, 19, 20, 21, 22, 23, 24] rfl rfl h) (rcv 0 rfl) rfl (nle rfl) (nle rfl) (by omega) (by omega) rfl ?_
  refine x_iload C eL_law_2613 rfl ?_
  refine x_icmp_val (by first | exact up_s _ _ _ | exact (up_n (by decide)).trans (up_s _ _ _)) 2620 C eL_law_2615 rfl ?_
  refine x_iload C eL_law_2620 rfl ?_
  refine x_if_ne 2637 C eL_law_2622 rfl (by omega) (fun h => absurd rfl h) (fun _ => ?_)
  refine x_aload_n C eL_law_2625 rfl ?_
  refine x_iconst C eL_law_2626 ?_
  refine x_lald (N := 1) 9 C eL_law_2627 rfl (by decide) (by omega) ?_
  refine x_iload C eL_law_2628 rfl ?_
  refine x_i2lR C eL_law_2630 ?_
  refine x_lcmp_same 2637 (by first | exact if_pos rfl | (rw [if_pos rfl]; rfl) | decide) C eL_law_2631 eL_law_2632 rfl ?_
  refine x_goto (pc' := 2791) C eL_law_2637 rfl ?_
  refine x_pick [_, _, _, _, _, _, _, _, _, _, _, _, _, _, _, _, _, _, _, _, _, _, _, _, _] [3, 4, 5, 6, 7, 10, 11, 12, 13, 14, 15, 16, 8, 17, 0, 1, 18, 19, 20, 2, 21, 22, 23, 9, 24] rfl rfl ?_
  refine x_lv [_, _, _, _, _, _, none, none, _] rfl (lx_drop _ [6, 7] rfl) ?_
  exact x_wide (by omega) (by omega) (K9 (hI.undo (by omega) h0 (up_s _ _ _) ((up_n (by decide)).trans (up_n (by decide))) ((up_n (by decide)).trans (up_n (by decide))) ((up_n (by decide)).trans (up_n (by decide))) ((up_n (by decide)).trans (up_n (by decide))) ((up_n (by decide)).trans (up_n (by decide)))))

set_option maxHeartbeats 4000000 in
set_option maxRecDepth 100000 in
theorem lc_43_1 {G : Gm} {X : Cx} {l : Launch} {x : LFx} {k nn : Nat} {i b : Int} {J : Nat → Int} {M : Pool} {n : Net} {N K : Nat → Net} {Fu Fb : Nat → Int} {w : List Int} {z : Int} {I TL TB : Nat → Int} {N9 : Nat → Net} {f : Nat → Int64} {fD : Nat → UInt64} (H : LKn G l x) {nmL : String} (hC : OKc G X l RL nmL cL_law 9 (some .boolean) 1400 600000 6200000) (hI : INV b J M n N K Fu Fb w z I) (hb : b ≤ 15000000) (hk : k + 100 ≤ 600000) (hn : nn + 2200 ≤ 6200000) (hi : 0 ≤ i ∧ i + 6 ≤ (x.L : Int))  (h0 : ¬ 0 < J 6) (K9 : LCont G X x (b + 8000) (k + 100) (nn + 2200) i) : WX G X k nn (LAT G x J M n N K Fu Fb w z I TL TB N9 f fD) 2596 (LLV x i) [] := by
  have C := hC
  have hK : KG G := H.hX.1.1.1
  have hH := hI.hN.1.1
  unfold HeadOk at hH
  have e6 := hI.e6
  have h6 := hI.h6
  refine x_aload_n C eL_law_2596 rfl ?_
  refine x_aload_n C eL_law_2597 rfl ?_
  refine x_callSW (As := [_, _]) [_, _, _, _, _, _, _, _, _, _, _, _, _, _, _, _, _, _, _, _, _, _] C (wx_undo_1 hK (t_X7_undo_39 H.hX H.hT0 (by omega)) (xwd_c (i := 2) H.hX rfl) (rcv 0 rfl)) cw_undo s_RL_291 eL_law_2598 rfl (fun _ _ h => WF_pick [0, 12, 23, 1, 2, 3, 4, 5, 6, 7, 8, 9, 10, 11, 13, 14, 15, 16, 17, 18, 19, 20, 21, 22, 24] rfl rfl h) rfl (nle rfl) (nle rfl) (by omega) (by omega) (fun _ _ => ?_)
  refine x_pick [_, _, _, _, _, _, _, _, _, _, _, _, _, _, _, _, _, _, _, _, _, _, _, _, _] [0, 1, 2, 3, 4, 5, 6, 7, 8, 9, 10, 11, 12, 13, 14, 15, 16, 17, 18, 19, 20, 21, 22, 23, 24] rfl rfl ?_
  refine x_istore [_, _, _, _, _, _, _, _, _] C eL_law_2601 rfl rfl (nlt rfl) ?_
  refine x_aload_n C eL_law_2603 rfl ?_
  have c1 : ¬ (0 < I 20) := by first | omega | (simp only [if_true, if_false]; omega)
  have hM := s_X8_undo (G := G) (l := l) (o := x.o) (A := x.A) (I := I) (N := N9) (n := n) (P := N) hK (by have := hI.e6; have := hI.h6; omega)
  simp only [if_neg (show ¬ ((0 < I 20) ∧ (True) ∧ (True)) from fun q => c1 q.1), thr_1 c1] at hM
  refine yV0r [_, _, _, _, _, _, _, _, _, _, _, _, _, _, _, _, _, _, _, _, _, _] [_, _, _, _, _, _, _, _, _, _, _, _, _, _, _, _, _, _, _, _, _, _, _, _, _] C hM v_X8_undo vv_X8_undo s_RL_294 eL_law_2604 (fun _ _ h => WF_pick [15, 16, 20, 0, 1, 2, 3, 4, 5, 6, 7, 8, 9, 10, 11, 12, 13, 14, 17, 18, 19, 21, 22, 23, 24] rfl rfl h) (rcv 15 rfl) rfl (nle rfl) (nle rfl) (by omega) (by omega) rfl ?_
  refine x_istore [_, _, _, _, _, _, _, _, _] C eL_law_2607 rfl rfl (nlt rfl) ?_
  refine x_aload_n C eL_law_2609 rfl ?_
  refine yV0r [_, _, _, _, _, _, _, _, _, _, _, _, _, _, _, _, _, _, _, _, _, _, _, _] [_, _, _, _, _, _, _, _, _, _, _, _, _, _, _, _, _, _, _, _, _, _, _, _, _] C (s_X8_thrown hK) v_X8_thrown vv_X8_thrown s_RL_145 eL_law_2610 (fun _ _ h => WF_pick [0, 1, 2, 3, 4, 5, 6, 7, 8, 9, 10, 11, 12, 13, 14, 15, 16, 17, 18, 19, 20, 21, 22, 23, 24] rfl rfl h) (rcv 0 rfl) rfl (nle rfl) (nle rfl) (by omega) (by omega) rfl ?_
  refine x_iload C eL_law_2613 rfl ?_
  refine x_icmp_val (by first | exact up_s _ _ _ | exact (up_n (by decide)).trans (up_s _ _ _)) 2620 C eL_law_2615 rfl ?_
  refine x_iload C eL_law_2620 rfl ?_
  refine x_if_ne 2637 C eL_law_2622 rfl (by omega) (fun _ => ?_) (fun h => absurd h (by decide))
  refine x_goto (pc' := 2791) C eL_law_2637 rfl ?_
  refine x_pick [_, _, _, _, _, _, _, _, _, _, _, _, _, _, _, _, _, _, _, _, _, _, _, _, _] [3, 6, 7, 8, 9, 10, 11, 12, 13, 14, 15, 16, 4, 17, 0, 1, 18, 19, 20, 2, 21, 22, 23, 5, 24] rfl rfl ?_
  refine x_lv [_, _, _, _, _, _, none, none, _] rfl (lx_drop _ [6, 7] rfl) ?_
  exact x_wide (by omega) (by omega) (K9 (hI.qI (by omega) (up_n (by decide)) (up_n (by decide)) (up_n (by decide)) (up_n (by decide)) (up_n (by decide)) (up_n (by decide))))

