/-! The law: bytes dropped ahead. -/
set_option maxHeartbeats 4000000 in
set_option maxRecDepth 100000 in
theorem lc_20_0 {G : Gm} {X : Cx} {l : Launch} {x : LFx} {k nn : Nat} {i b : Int} {J : Nat → Int} {M : Pool} {n : Net} {N K : Nat → Net} {Fu Fb : Nat → Int} {w : List Int} {z : Int} {I TL TB : Nat → Int} {N9 : Nat → Net} {f : Nat → Int64} {fD : Nat → UInt64} {a1 a2 : Int} (H : LKn G l x) {nmL : String} (hC : OKc G X l RL nmL cL_law 9 (some .boolean) 1400 600000 6200000) (hI : INV b J M n N K Fu Fb w z I) (hb : b ≤ 15000000) (hk : k + 100 ≤ 600000) (hn : nn + 2200 ≤ 6200000) (hi : 0 ≤ i ∧ i + 6 ≤ (x.L : Int)) (ha1 : (x.xs (i + 1).toNat).toInt = a1) (ha2 : (x.xs (i + 2).toNat).toInt = a2) (hl : 0 ≤ a1 ∧ a1 < n (-1) 0) (ht : 1 ≤ a2 ∧ a2 ≤ 500) (K9 : LCont G X x (b + 8000) (k + 100) (nn + 2200) i) : WX G X k nn (LAT G x J M n N K Fu Fb w z I TL TB N9 f fD) 1246 (LLV x i) [] := by
  have C := hC
  have hK : KG G := H.hX.1.1.1
  have hH := hI.hN.1.1
  unfold HeadOk at hH
  have r1 : -2147483648 ≤ a1 ∧ a1 < 2147483648 := by rw [← ha1]; exact bI_toInt _
  have r2 : -2147483648 ≤ a2 ∧ a2 < 2147483648 := by rw [← ha2]; exact bI_toInt _
  refine x_aload_n C eL_law_1246 rfl ?_
  refine x_argA C H.hx H.hbl H.hL eL_law_1247 eL_law_1248 eL_law_1250 eL_law_1251 eL_law_1252 rfl rfl (by omega) ha1 ?_
  refine x_argA C H.hx H.hbl H.hL eL_law_1253 eL_law_1254 eL_law_1256 eL_law_1257 eL_law_1258 rfl rfl (by omega) ha2 ?_
  refine x_aload_n C eL_law_1259 rfl ?_
  refine x_callSW (As := [_, _, _, _]) [_, _, _, _, _, _, _, _, _, _, _, _, _, _, _, _, _, _] C (wn_droppedBy hK (s_X7_droppedBy hK hI.hN.1 (by omega) (by omega) (by omega)) (rcv 0 rfl)) cw_droppedBy s_RL_215 eL_law_1260 rfl (fun _ _ h => WF_pick [0, 1, 2, 3, 4, 5, 23, 6, 7, 8, 9, 10, 11, 12, 13, 14, 15, 16, 17, 18, 19, 20, 21, 22, 24] rfl rfl h) rfl (nle rfl) (nle rfl) (by omega) (by omega) (fun _ _ => ?_)
  refine x_pick [_, _, _, _, _, _, _, _, _, _, _, _, _, _, _, _, _, _, _, _, _, _, _, _, _] [0, 1, 2, 3, 4, 5, 6, 7, 8, 9, 10, 11, 12, 13, 14, 15, 16, 17, 18, 19, 20, 21, 22, 23, 24] rfl rfl ?_
  refine x_istore [_, _, _, _, _, _, _, _, _] C eL_law_1263 rfl rfl (nlt rfl) ?_
  refine x_aload_n C eL_law_1265 rfl ?_
  refine x_argA C H.hx H.hbl H.hL eL_law_1266 eL_law_1267 eL_law_1269 eL_law_1270 eL_law_1271 rfl rfl (by omega) ha1 ?_
  refine x_argA C H.hx H.hbl H.hL eL_law_1272 eL_law_1273 eL_law_1275 eL_law_1276 eL_law_1277 rfl rfl (by omega) ha2 ?_
  have c1 : 0 ≤ a1 ∧ a1 ≤ n (-1) 0 - 1 := by first | trivial | omega | (simp only [if_true, if_false]; omega)
  have c2 : 1 ≤ a2 ∧ a2 ≤ 500 := by first | trivial | omega | (simp only [if_true, if_false]; omega)
  have c3 : True := by first | trivial | omega | (simp only [if_true, if_false]; omega)
  have hM := s_X8_droppedBy (G := G) (l := l) (o := x.o) (A := x.A) (I := I) (N := N9) (n := n) (b := b) (l9 := a1) (t9 := a2) hK hI.hN.1 (by omega) (by omega) (by omega)
  simp only [if_pos (show (0 ≤ a1 ∧ a1 ≤ n (-1) 0 - 1) ∧ (1 ≤ a2 ∧ a2 ≤ 500) ∧ (True) from ⟨c1, c2, c3⟩), thr_0 c1 c2 c3] at hM
  rw [show (16 + 2 : Int) = 18 from rfl, ← drop_eq hI.hN.1 hl] at hM
  refine yV2r [_, _, _, _, _, _, _, _, _, _, _, _, _, _, _, _, _, _, _, _, _, _, _] [_, _, _, _, _, _, _, _, _, _, _, _, _, _, _, _, _, _, _, _, _, _, _, _, _] C hM v_X8_droppedBy vv_X8_droppedBy s_RL_217 eL_law_1278 (fun _ _ h => WF_pick [15, 16, 0, 1, 2, 3, 4, 5, 6, 7, 8, 9, 10, 11, 12, 13, 14, 17, 18, 19, 20, 21, 22, 23, 24] rfl rfl h) (rcv 15 rfl) rfl (nle rfl) (nle rfl) (by omega) (by omega) rfl ?_
  refine x_oFQ (R := [_, _, _, _, _, _, _, _, _, _, _, _, _, _, _, _, _, _, _, _, _, _, _, _]) (fun _ _ h => WF_pick [1, 0, 2, 3, 4, 5, 6, 7, 8, 9, 10, 11, 12, 13, 14, 15, 16, 17, 18, 19, 20, 21, 22, 23, 24] rfl rfl h) (fun N8 => ?_)
  refine x_istore [_, _, _, _, _, _, _, _, _] C eL_law_1281 rfl rfl (nlt rfl) ?_
  refine x_aload_n C eL_law_1283 rfl ?_
  refine yV0r [_, _, _, _, _, _, _, _, _, _, _, _, _, _, _, _, _, _, _, _, _, _, _, _] [_, _, _, _, _, _, _, _, _, _, _, _, _, _, _, _, _, _, _, _, _, _, _, _, _] C (s_X8_thrown hK) v_X8_thrown vv_X8_thrown s_RL_145 eL_law_1284 (fun _ _ h => WF_pick [1, 0, 2, 3, 4, 5, 6, 7, 8, 9, 10, 11, 12, 13, 14, 15, 16, 17, 18, 19, 20, 21, 22, 23, 24] rfl rfl h) (rcv 1 rfl) rfl (nle rfl) (nle rfl) (by omega) (by omega) rfl ?_
  refine x_iload C eL_law_1287 rfl ?_
  refine x_icmp_val (by first | exact up_s _ _ _ | exact (up_n (by decide)).trans (up_s _ _ _)) 1294 C eL_law_1289 rfl ?_
  refine x_iload C eL_law_1294 rfl ?_
  refine x_if_ne 1311 C eL_law_1296 rfl (by omega) (fun h => absurd rfl h) (fun _ => ?_)
  refine x_aload_n C eL_law_1299 rfl ?_
  refine x_iconst C eL_law_1300 ?_
  refine x_lald (N := 1) 8 C eL_law_1301 rfl (by decide) (by omega) ?_
  refine x_iload C eL_law_1302 rfl ?_
  refine x_i2lR C eL_law_1304 ?_
  refine x_lcmp_same 1311 (by first | exact if_pos rfl | (rw [if_pos rfl]; rfl) | decide) C eL_law_1305 eL_law_1306 rfl ?_
  refine x_goto (pc' := 2791) C eL_law_1311 rfl ?_
  refine x_pick [_, _, _, _, _, _, _, _, _, _, _, _, _, _, _, _, _, _, _, _, _, _, _, _, _] [2, 3, 4, 5, 6, 7, 9, 10, 11, 12, 13, 14, 15, 16, 0, 1, 17, 18, 19, 20, 21, 22, 23, 8, 24] rfl rfl ?_
  refine x_lv [_, _, _, _, _, _, none, none, _] rfl (lx_drop _ [6, 7] rfl) ?_
  exact x_wide (by omega) (by omega) (K9 (hI.qI (by omega) (up_n (by decide)) (up_n (by decide)) (up_n (by decide)) (up_n (by decide)) (up_n (by decide)) (up_n (by decide))))

set_option maxHeartbeats 4000000 in
set_option maxRecDepth 100000 in
theorem lc_20_1 {G : Gm} {X : Cx} {l : Launch} {x : LFx} {k nn : Nat} {i b : Int} {J : Nat → Int} {M : Pool} {n : Net} {N K : Nat → Net} {Fu Fb : Nat → Int} {w : List Int} {z : Int} {I TL TB : Nat → Int} {N9 : Nat → Net} {f : Nat → Int64} {fD : Nat → UInt64} {a1 a2 : Int} (H : LKn G l x) {nmL : String} (hC : OKc G X l RL nmL cL_law 9 (some .boolean) 1400 600000 6200000) (hI : INV b J M n N K Fu Fb w z I) (hb : b ≤ 15000000) (hk : k + 100 ≤ 600000) (hn : nn + 2200 ≤ 6200000) (hi : 0 ≤ i ∧ i + 6 ≤ (x.L : Int)) (ha1 : (x.xs (i + 1).toNat).toInt = a1) (ha2 : (x.xs (i + 2).toNat).toInt = a2) (hl : ¬ (0 ≤ a1 ∧ a1 < n (-1) 0)) (K9 : LCont G X x (b + 8000) (k + 100) (nn + 2200) i) : WX G X k nn (LAT G x J M n N K Fu Fb w z I TL TB N9 f fD) 1246 (LLV x i) [] := by
  have C := hC
  have hK : KG G := H.hX.1.1.1
  have hH := hI.hN.1.1
  unfold HeadOk at hH
  have r1 : -2147483648 ≤ a1 ∧ a1 < 2147483648 := by rw [← ha1]; exact bI_toInt _
  have r2 : -2147483648 ≤ a2 ∧ a2 < 2147483648 := by rw [← ha2]; exact bI_toInt _
  refine x_aload_n C eL_law_1246 rfl ?_
  refine x_argA C H.hx H.hbl H.hL eL_law_1247 eL_law_1248 eL_law_1250 eL_law_1251 eL_law_1252 rfl rfl (by omega) ha1 ?_
  refine x_argA C H.hx H.hbl H.hL eL_law_1253 eL_law_1254 eL_law_1256 eL_law_1257 eL_law_1258 rfl rfl (by omega) ha2 ?_
  refine x_aload_n C eL_law_1259 rfl ?_
  refine x_callSW (As := [_, _, _, _]) [_, _, _, _, _, _, _, _, _, _, _, _, _, _, _, _, _, _, _, _, _, _] C (wx_droppedBy_1 hK (t_X7_droppedBy_2 H.hX H.hT0 (by omega) (by omega) (by omega)) (xwd_c (i := 0) H.hX rfl) (rcv 0 rfl)) cw_droppedBy s_RL_215 eL_law_1260 rfl (fun _ _ h => WF_pick [0, 1, 23, 2, 3, 4, 5, 6, 7, 8, 9, 10, 11, 12, 13, 14, 15, 16, 17, 18, 19, 20, 21, 22, 24] rfl rfl h) rfl (nle rfl) (nle rfl) (by omega) (by omega) (fun _ _ => ?_)
  refine x_pick [_, _, _, _, _, _, _, _, _, _, _, _, _, _, _, _, _, _, _, _, _, _, _, _, _] [0, 1, 2, 3, 4, 5, 6, 7, 8, 9, 10, 11, 12, 13, 14, 15, 16, 17, 18, 19, 20, 21, 22, 23, 24] rfl rfl ?_
  refine x_istore [_, _, _, _, _, _, _, _, _] C eL_law_1263 rfl rfl (nlt rfl) ?_
  refine x_aload_n C eL_law_1265 rfl ?_
  refine x_argA C H.hx H.hbl H.hL eL_law_1266 eL_law_1267 eL_law_1269 eL_law_1270 eL_law_1271 rfl rfl (by omega) ha1 ?_
  refine x_argA C H.hx H.hbl H.hL eL_law_1272 eL_law_1273 eL_law_1275 eL_law_1276 eL_law_1277 rfl rfl (by omega) ha2 ?_
  have c1 : ¬ (0 ≤ a1 ∧ a1 ≤ n (-1) 0 - 1) := by first | omega | (simp only [if_true, if_false]; omega)
  have hM := s_X8_droppedBy (G := G) (l := l) (o := x.o) (A := x.A) (I := I) (N := N9) (n := n) (b := b) (l9 := a1) (t9 := a2) hK hI.hN.1 (by omega) (by omega) (by omega)
  simp only [if_neg (show ¬ ((0 ≤ a1 ∧ a1 ≤ n (-1) 0 - 1) ∧ (1 ≤ a2 ∧ a2 ≤ 500) ∧ (True)) from fun q => c1 q.1), thr_1 c1] at hM
  refine yV2r [_, _, _, _, _, _, _, _, _, _, _, _, _, _, _, _, _, _, _, _, _, _, _] [_, _, _, _, _, _, _, _, _, _, _, _, _, _, _, _, _, _, _, _, _, _, _, _, _] C hM v_X8_droppedBy vv_X8_droppedBy s_RL_217 eL_law_1278 (fun _ _ h => WF_pick [15, 16, 0, 1, 2, 3, 4, 5, 6, 7, 8, 9, 10, 11, 12, 13, 14, 17, 18, 19, 20, 21, 22, 23, 24] rfl rfl h) (rcv 15 rfl) rfl (nle rfl) (nle rfl) (by omega) (by omega) rfl ?_
  refine x_oFQ (R := [_, _, _, _, _, _, _, _, _, _, _, _, _, _, _, _, _, _, _, _, _, _, _, _]) (fun _ _ h => WF_pick [1, 0, 2, 3, 4, 5, 6, 7, 8, 9, 10, 11, 12, 13, 14, 15, 16, 17, 18, 19, 20, 21, 22, 23, 24] rfl rfl h) (fun N8 => ?_)
  refine x_istore [_, _, _, _, _, _, _, _, _] C eL_law_1281 rfl rfl (nlt rfl) ?_
  refine x_aload_n C eL_law_1283 rfl ?_
  refine yV0r [_, _, _, _, _, _, _, _, _, _, _, _, _, _, _, _, _, _, _, _, _, _, _, _] [_, _, _, _, _, _, _, _, _, _, _, _, _, _, _, _, _, _, _, _, _, _, _, _, _] C (s_X8_thrown hK) v_X8_thrown vv_X8_thrown s_RL_145 eL_law_1284 (fun _ _ h => WF_pick [1, 0, 2, 3, 4, 5, 6, 7, 8, 9, 10, 11, 12, 13, 14, 15, 16, 17, 18, 19, 20, 21, 22, 23, 24] rfl rfl h) (rcv 1 rfl) rfl (nle rfl) (nle rfl) (by omega) (by omega) rfl ?_
  refine x_iload C eL_law_1287 rfl ?_
  refine x_icmp_val (by first | exact up_s _ _ _ | exact (up_n (by decide)).trans (up_s _ _ _)) 1294 C eL_law_1289 rfl ?_
  refine x_iload C eL_law_1294 rfl ?_
  refine x_if_ne 1311 C eL_law_1296 rfl (by omega) (fun _ => ?_) (fun h => absurd h (by decide))
  refine x_goto (pc' := 2791) C eL_law_1311 rfl ?_
  refine x_pick [_, _, _, _, _, _, _, _, _, _, _, _, _, _, _, _, _, _, _, _, _, _, _, _, _] [2, 3, 5, 6, 7, 8, 9, 10, 11, 12, 13, 14, 15, 16, 0, 1, 17, 18, 19, 20, 21, 22, 23, 4, 24] rfl rfl ?_
  refine x_lv [_, _, _, _, _, _, none, none, _] rfl (lx_drop _ [6, 7] rfl) ?_
  exact x_wide (by omega) (by omega) (K9 (hI.qI (by omega) (up_n (by decide)) (up_n (by decide)) (up_n (by decide)) (up_n (by decide)) (up_n (by decide)) (up_n (by decide))))

set_option maxHeartbeats 4000000 in
set_option maxRecDepth 100000 in
theorem lc_20_2 {G : Gm} {X : Cx} {l : Launch} {x : LFx} {k nn : Nat} {i b : Int} {J : Nat → Int} {M : Pool} {n : Net} {N K : Nat → Net} {Fu Fb : Nat → Int} {w : List Int} {z : Int} {I TL TB : Nat → Int} {N9 : Nat → Net} {f : Nat → Int64} {fD : Nat → UInt64} {a1 a2 : Int} (H : LKn G l x) {nmL : String} (hC : OKc G X l RL nmL cL_law 9 (some .boolean) 1400 600000 6200000) (hI : INV b J M n N K Fu Fb w z I) (hb : b ≤ 15000000) (hk : k + 100 ≤ 600000) (hn : nn + 2200 ≤ 6200000) (hi : 0 ≤ i ∧ i + 6 ≤ (x.L : Int)) (ha1 : (x.xs (i + 1).toNat).toInt = a1) (ha2 : (x.xs (i + 2).toNat).toInt = a2) (hl : 0 ≤ a1 ∧ a1 < n (-1) 0) (ht : ¬ (1 ≤ a2 ∧ a2 ≤ 500)) (K9 : LCont G X x (b + 8000) (k + 100) (nn + 2200) i) : WX G X k nn (LAT G x J M n N K Fu Fb w z I TL TB N9 f fD) 1246 (LLV x i) [] := by
  have C := hC
  have hK : KG G := H.hX.1.1.1
  have hH := hI.hN.1.1
  unfold HeadOk at hH
  have r1 : -2147483648 ≤ a1 ∧ a1 < 2147483648 := by rw [← ha1]; exact bI_toInt _
  have r2 : -2147483648 ≤ a2 ∧ a2 < 2147483648 := by rw [← ha2]; exact bI_toInt _
  refine x_aload_n C eL_law_1246 rfl ?_
  refine x_argA C H.hx H.hbl H.hL eL_law_1247 eL_law_1248 eL_law_1250 eL_law_1251 eL_law_1252 rfl rfl (by omega) ha1 ?_
  refine x_argA C H.hx H.hbl H.hL eL_law_1253 eL_law_1254 eL_law_1256 eL_law_1257 eL_law_1258 rfl rfl (by omega) ha2 ?_
  refine x_aload_n C eL_law_1259 rfl ?_
  refine x_callSW (As := [_, _, _, _]) [_, _, _, _, _, _, _, _, _, _, _, _, _, _, _, _, _, _, _, _, _, _] C (wx_droppedBy_2 hK (t_X7_droppedBy_10 H.hX H.hT0 (by omega) (by omega) (by omega) (by omega)) (xwd_c (i := 1) H.hX rfl) H.n1 (rcv 0 rfl)) cw_droppedBy s_RL_215 eL_law_1260 rfl (fun _ _ h => WF_pick [0, 1, 23, 2, 3, 4, 5, 6, 7, 8, 9, 10, 11, 12, 13, 14, 15, 16, 17, 18, 19, 20, 21, 22, 24] rfl rfl h) rfl (nle rfl) (nle rfl) (by omega) (by omega) (fun _ _ => ?_)
  refine x_pick [_, _, _, _, _, _, _, _, _, _, _, _, _, _, _, _, _, _, _, _, _, _, _, _, _] [0, 1, 2, 3, 4, 5, 6, 7, 8, 9, 10, 11, 12, 13, 14, 15, 16, 17, 18, 19, 20, 21, 22, 23, 24] rfl rfl ?_
  refine x_istore [_, _, _, _, _, _, _, _, _] C eL_law_1263 rfl rfl (nlt rfl) ?_
  refine x_aload_n C eL_law_1265 rfl ?_
  refine x_argA C H.hx H.hbl H.hL eL_law_1266 eL_law_1267 eL_law_1269 eL_law_1270 eL_law_1271 rfl rfl (by omega) ha1 ?_
  refine x_argA C H.hx H.hbl H.hL eL_law_1272 eL_law_1273 eL_law_1275 eL_law_1276 eL_law_1277 rfl rfl (by omega) ha2 ?_
  have c1 : 0 ≤ a1 ∧ a1 ≤ n (-1) 0 - 1 := by first | trivial | omega | (simp only [if_true, if_false]; omega)
  have c2 : ¬ (1 ≤ a2 ∧ a2 ≤ 500) := by first | omega | (simp only [if_true, if_false]; omega)
  have hM := s_X8_droppedBy (G := G) (l := l) (o := x.o) (A := x.A) (I := I) (N := N9) (n := n) (b := b) (l9 := a1) (t9 := a2) hK hI.hN.1 (by omega) (by omega) (by omega)
  simp only [if_neg (show ¬ ((0 ≤ a1 ∧ a1 ≤ n (-1) 0 - 1) ∧ (1 ≤ a2 ∧ a2 ≤ 500) ∧ (True)) from fun q => c2 q.2.1), thr_2 c1 c2] at hM
  refine yV2r [_, _, _, _, _, _, _, _, _, _, _, _, _, _, _, _, _, _, _, _, _, _, _] [_, _, _, _, _, _, _, _, _, _, _, _, _, _, _, _, _, _, _, _, _, _, _, _, _] C hM v_X8_droppedBy vv_X8_droppedBy s_RL_217 eL_law_1278 (fun _ _ h => WF_pick [15, 16, 0, 1, 2, 3, 4, 5, 6, 7, 8, 9, 10, 11, 12, 13, 14, 17, 18, 19, 20, 21, 22, 23, 24] rfl rfl h) (rcv 15 rfl) rfl (nle rfl) (nle rfl) (by omega) (by omega) rfl ?_
  refine x_oFQ (R := [_, _, _, _, _, _, _, _, _, _, _, _, _, _, _, _, _, _, _, _, _, _, _, _]) (fun _ _ h => WF_pick [1, 0, 2, 3, 4, 5, 6, 7, 8, 9, 10, 11, 12, 13, 14, 15, 16, 17, 18, 19, 20, 21, 22, 23, 24] rfl rfl h) (fun N8 => ?_)
  refine x_istore [_, _, _, _, _, _, _, _, _] C eL_law_1281 rfl rfl (nlt rfl) ?_
  refine x_aload_n C eL_law_1283 rfl ?_
  refine yV0r [_, _, _, _, _, _, _, _, _, _, _, _, _, _, _, _, _, _, _, _, _, _, _, _] [_, _, _, _, _, _, _, _, _, _, _, _, _, _, _, _, _, _, _, _, _, _, _, _, _] C (s_X8_thrown hK) v_X8_thrown vv_X8_thrown s_RL_145 eL_law_1284 (fun _ _ h => WF_pick [1, 0, 2, 3, 4, 5, 6, 7, 8, 9, 10, 11, 12, 13, 14, 15, 16, 17, 18, 19, 20, 21, 22, 23, 24] rfl rfl h) (rcv 1 rfl) rfl (nle rfl) (nle rfl) (by omega) (by omega) rfl ?_
  refine x_iload C eL_law_1287 rfl ?_
  refine x_icmp_val (by first | exact up_s _ _ _ | exact (up_n (by decide)).trans (up_s _ _ _)) 1294 C eL_law_1289 rfl ?_
  refine x_iload C eL_law_1294 rfl ?_
  refine x_if_ne 1311 C eL_law_1296 rfl (by omega) (fun _ => ?_) (fun h => absurd h (by decide))
  refine x_goto (pc' := 2791) C eL_law_1311 rfl ?_
  refine x_pick [_, _, _, _, _, _, _, _, _, _, _, _, _, _, _, _, _, _, _, _, _, _, _, _, _] [2, 3, 5, 6, 7, 8, 9, 10, 11, 12, 13, 14, 15, 16, 0, 1, 17, 18, 19, 20, 21, 22, 23, 4, 24] rfl rfl ?_
  refine x_lv [_, _, _, _, _, _, none, none, _] rfl (lx_drop _ [6, 7] rfl) ?_
  exact x_wide (by omega) (by omega) (K9 (hI.qI (by omega) (up_n (by decide)) (up_n (by decide)) (up_n (by decide)) (up_n (by decide)) (up_n (by decide)) (up_n (by decide))))

