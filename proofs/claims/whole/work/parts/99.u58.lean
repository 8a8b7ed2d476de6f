/-! The law: load. -/
set_option maxHeartbeats 4000000 in
set_option maxRecDepth 100000 in
theorem lc_2_0 {G : Gm} {X : Cx} {l : Launch} {x : LFx} {k nn : Nat} {i b : Int} {J : Nat → Int} {M : Pool} {n : Net} {N K : Nat → Net} {Fu Fb : Nat → Int} {w : List Int} {z : Int} {I TL TB : Nat → Int} {N9 : Nat → Net} {f : Nat → Int64} {fD : Nat → UInt64} (H : LKn G l x) {nmL : String} (hC : OKc G X l RL nmL cL_law 9 (some .boolean) 1400 600000 6200000) (hI : INV b J M n N K Fu Fb w z I) (hb : b ≤ 15000000) (hk : k + 100 ≤ 600000) (hn : nn + 2200 ≤ 6200000) (hi : 0 ≤ i ∧ i + 6 ≤ (x.L : Int))  (hq : (ldR Fb I TL TB).1 12 = 0) (K9 : LCont G X x (b + 8000) (k + 100) (nn + 2200) i) : WX G X k nn (LAT G x J M n N K Fu Fb w z I TL TB N9 f fD) 396 (LLV x i) [] := by
  have C := hC
  have hK : KG G := H.hX.1.1.1
  have hH := hI.hN.1.1
  unfold HeadOk at hH
  refine x_aload_n C eL_law_396 rfl ?_
  refine yV0x [_, _, _, _, _, _, _, _, _, _, _, _, _, _] C ((by have h9 := s_X7_load (l := l) (e := x.e) (ip := x.ip) (op := x.op) (t := x.t) (tr := x.tr) (ps := x.ps) (pa := x.pa) (sl := x.sl) (al := x.al) (lg := x.lg) (ib := x.ib) (J := J) (M := M) (L := x.LL) (L2 := x.L2) (n := n) (N := N) (z := z) (Fb := Fb) (Im := I) (TL := TL) (TB := TB) hK hI.hN.1 (by omega) hI.h6 H.hX.1 hI.hM hI.hz hI.hF hI.ez hI.h11; simp only [if_pos hq] at h9; exact h9)) v_X7_load vv_X7_load s_RL_152 eL_law_397 (fun _ _ h => WF_pick [0, 1, 2, 3, 4, 5, 6, 7, 8, 11, 12, 9, 10, 13, 14, 15, 16, 17, 18, 19, 20, 21, 22, 23, 24] rfl rfl h) (rcv 0 rfl) rfl (nle rfl) (nle rfl) (by omega) (by omega) (fun M2 hM2 => ?_)
  refine x_pick [_, _, _, _, _, _, _, _, _, _, _, _, _, _, _, _, _, _, _, _, _, _, _, _, _] [13, 0, 1, 2, 3, 4, 5, 6, 7, 8, 9, 10, 11, 12, 14, 15, 16, 17, 18, 19, 20, 21, 22, 23, 24] rfl rfl ?_
  refine x_wf (fun _ _ h => PW.wf (PW_cons (fun _ hd => SS_mono hM2.1 hd) PW_rf) h) ?_
  refine x_aload_n C eL_law_400 rfl ?_
  have hM := s_X8_load (G := G) (l := l) (o := x.o) (A := x.A) (I := I) (Fb := Fb) (N := N9) (n := n) (TL := TL) (TB := TB) (P := N) hK hI.hF (by have := hI.ez; have := hI.hz; omega) hI.h11 (by have := hI.e6; have := hI.h6; omega) H.hX.1
  simp only [if_pos hq] at hM
  try simp only [hI.e6] at hM
  refine yV0r [_, _, _, _, _, _, _, _, _, _, _, _, _, _, _, _, _, _, _] [_, _, _, _, _, _, _, _, _, _, _, _, _, _, _, _, _, _, _, _, _, _, _, _, _] C hM v_X8_load vv_X8_load s_RL_155 eL_law_401 (fun _ _ h => WF_pick [14, 16, 15, 17, 18, 19, 0, 1, 2, 3, 4, 5, 6, 7, 8, 9, 10, 11, 12, 13, 20, 21, 22, 23, 24] rfl rfl h) (rcv 14 rfl) rfl (nle rfl) (nle rfl) (by omega) (by omega) rfl ?_
  refine x_oFQ (R := [_, _, _, _, _, _, _, _, _, _, _, _, _, _, _, _, _, _, _, _, _, _, _, _]) (fun _ _ h => WF_pick [2, 0, 1, 3, 4, 5, 6, 7, 8, 9, 10, 11, 12, 13, 14, 15, 16, 17, 18, 19, 20, 21, 22, 23, 24] rfl rfl h) (fun N8 => ?_)
  refine x_icmp_same 2791 C eL_law_404 rfl ?_
  refine x_pick [_, _, _, _, _, _, _, _, _, _, _, _, _, _, _, _, _, _, _, _, _, _, _, _, _] [7, 8, 9, 10, 11, 12, 13, 14, 15, 18, 19, 16, 17, 6, 1, 0, 2, 3, 4, 5, 20, 21, 22, 23, 24] rfl rfl ?_
  exact x_wide (by omega) (by omega) (K9 (hI.load1 (by omega) (by omega) hM2.2 hq))

set_option maxHeartbeats 4000000 in
set_option maxRecDepth 100000 in
theorem lc_2_1 {G : Gm} {X : Cx} {l : Launch} {x : LFx} {k nn : Nat} {i b : Int} {J : Nat → Int} {M : Pool} {n : Net} {N K : Nat → Net} {Fu Fb : Nat → Int} {w : List Int} {z : Int} {I TL TB : Nat → Int} {N9 : Nat → Net} {f : Nat → Int64} {fD : Nat → UInt64} (H : LKn G l x) {nmL : String} (hC : OKc G X l RL nmL cL_law 9 (some .boolean) 1400 600000 6200000) (hI : INV b J M n N K Fu Fb w z I) (hb : b ≤ 15000000) (hk : k + 100 ≤ 600000) (hn : nn + 2200 ≤ 6200000) (hi : 0 ≤ i ∧ i + 6 ≤ (x.L : Int))  (hq : ¬ (ldR Fb I TL TB).1 12 = 0) (K9 : LCont G X x (b + 8000) (k + 100) (nn + 2200) i) : WX G X k nn (LAT G x J M n N K Fu Fb w z I TL TB N9 f fD) 396 (LLV x i) [] := by
  have C := hC
  have hK : KG G := H.hX.1.1.1
  have hH := hI.hN.1.1
  unfold HeadOk at hH
  refine x_aload_n C eL_law_396 rfl ?_
  refine yV0x [_, _, _, _, _, _, _, _, _, _, _, _, _, _] C ((by have h9 := s_X7_load (l := l) (e := x.e) (ip := x.ip) (op := x.op) (t := x.t) (tr := x.tr) (ps := x.ps) (pa := x.pa) (sl := x.sl) (al := x.al) (lg := x.lg) (ib := x.ib) (J := J) (M := M) (L := x.LL) (L2 := x.L2) (n := n) (N := N) (z := z) (Fb := Fb) (Im := I) (TL := TL) (TB := TB) hK hI.hN.1 (by omega) hI.h6 H.hX.1 hI.hM hI.hz hI.hF hI.ez hI.h11; simp only [if_neg hq] at h9; exact h9)) v_X7_load vv_X7_load s_RL_152 eL_law_397 (fun _ _ h => WF_pick [0, 1, 2, 3, 4, 5, 6, 7, 8, 11, 12, 9, 10, 13, 14, 15, 16, 17, 18, 19, 20, 21, 22, 23, 24] rfl rfl h) (rcv 0 rfl) rfl (nle rfl) (nle rfl) (by omega) (by omega) (fun M2 hM2 => ?_)
  refine x_pick [_, _, _, _, _, _, _, _, _, _, _, _, _, _, _, _, _, _, _, _, _, _, _, _, _] [13, 0, 1, 2, 3, 4, 5, 6, 7, 8, 9, 10, 11, 12, 14, 15, 16, 17, 18, 19, 20, 21, 22, 23, 24] rfl rfl ?_
  refine x_wf (fun _ _ h => PW.wf (PW_cons (fun _ hd => SS_mono hM2.1 hd) PW_rf) h) ?_
  refine x_aload_n C eL_law_400 rfl ?_
  have hM := s_X8_load (G := G) (l := l) (o := x.o) (A := x.A) (I := I) (Fb := Fb) (N := N9) (n := n) (TL := TL) (TB := TB) (P := N) hK hI.hF (by have := hI.ez; have := hI.hz; omega) hI.h11 (by have := hI.e6; have := hI.h6; omega) H.hX.1
  simp only [if_neg hq] at hM
  try simp only [hI.e6] at hM
  refine yV0r [_, _, _, _, _, _, _, _, _, _, _, _, _, _, _, _, _, _, _] [_, _, _, _, _, _, _, _, _, _, _, _, _, _, _, _, _, _, _, _, _, _, _, _, _] C hM v_X8_load vv_X8_load s_RL_155 eL_law_401 (fun _ _ h => WF_pick [14, 16, 15, 17, 18, 19, 0, 1, 2, 3, 4, 5, 6, 7, 8, 9, 10, 11, 12, 13, 20, 21, 22, 23, 24] rfl rfl h) (rcv 14 rfl) rfl (nle rfl) (nle rfl) (by omega) (by omega) rfl ?_
  refine x_oFQ (R := [_, _, _, _, _, _, _, _, _, _, _, _, _, _, _, _, _, _, _, _, _, _, _, _]) (fun _ _ h => WF_pick [2, 0, 1, 3, 4, 5, 6, 7, 8, 9, 10, 11, 12, 13, 14, 15, 16, 17, 18, 19, 20, 21, 22, 23, 24] rfl rfl h) (fun N8 => ?_)
  refine x_icmp_same 2791 C eL_law_404 rfl ?_
  refine x_pick [_, _, _, _, _, _, _, _, _, _, _, _, _, _, _, _, _, _, _, _, _, _, _, _, _] [7, 8, 9, 10, 11, 12, 13, 14, 15, 18, 19, 16, 17, 6, 1, 0, 2, 3, 4, 5, 20, 21, 22, 23, 24] rfl rfl ?_
  exact x_wide (by omega) (by omega) (K9 (hI.load0 (by omega) hM2.2))

