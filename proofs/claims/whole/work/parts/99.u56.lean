/-! The law, case by case: text and numbers. -/
set_option maxHeartbeats 4000000 in
set_option maxRecDepth 100000 in
theorem lc_0_0 {G : Gm} {X : Cx} {l : Launch} {x : LFx} {k nn : Nat} {i b : Int} {J : Nat → Int} {M : Pool} {n : Net} {N K : Nat → Net} {Fu Fb : Nat → Int} {w : List Int} {z : Int} {I TL TB : Nat → Int} {N9 : Nat → Net} {f : Nat → Int64} {fD : Nat → UInt64} {a1 a2 a3 a4 a5 : Int} (H : LKn G l x) {nmL : String} (hC : OKc G X l RL nmL cL_law 9 (some .boolean) 1400 600000 6200000) (hI : INV b J M n N K Fu Fb w z I) (hb : b ≤ 15000000) (hk : k + 100 ≤ 600000) (hn : nn + 2200 ≤ 6200000) (hi : 0 ≤ i ∧ i + 6 ≤ (x.L : Int)) (ha1 : (x.xs (i + 1).toNat).toInt = a1) (ha2 : (x.xs (i + 2).toNat).toInt = a2) (ha3 : (x.xs (i + 3).toNat).toInt = a3) (ha4 : (x.xs (i + 4).toNat).toInt = a4) (ha5 : (x.xs (i + 5).toNat).toInt = a5) (h20 : z + 20 ≤ 400) (K9 : LCont G X x (b + 8000) (k + 100) (nn + 2200) i) : WX G X k nn (LAT G x J M n N K Fu Fb w z I TL TB N9 f fD) 256 (LLV x i) [] := by
  have C := hC
  have hK : KG G := H.hX.1.1.1
  have hH := hI.hN.1.1
  unfold HeadOk at hH
  have r1 : -2147483648 ≤ a1 ∧ a1 < 2147483648 := by rw [← ha1]; exact bI_toInt _
  have r2 : -2147483648 ≤ a2 ∧ a2 < 2147483648 := by rw [← ha2]; exact bI_toInt _
  have r3 : -2147483648 ≤ a3 ∧ a3 < 2147483648 := by rw [← ha3]; exact bI_toInt _
  have r4 : -2147483648 ≤ a4 ∧ a4 < 2147483648 := by rw [← ha4]; exact bI_toInt _
  have r5 : -2147483648 ≤ a5 ∧ a5 < 2147483648 := by rw [← ha5]; exact bI_toInt _
  obtain ⟨z0, hz0⟩ := Int.eq_ofNat_of_zero_le hI.hz.1
  subst hz0
  have ez := hI.ez
  have hz := hI.hz
  refine x_aload_n C eL_law_256 rfl ?_
  refine x_argA C H.hx H.hbl H.hL eL_law_257 eL_law_258 eL_law_260 eL_law_261 eL_law_262 rfl rfl (by omega) ha1 ?_
  refine x_argA C H.hx H.hbl H.hL eL_law_263 eL_law_264 eL_law_266 eL_law_267 eL_law_268 rfl rfl (by omega) ha2 ?_
  refine x_argA C H.hx H.hbl H.hL eL_law_269 eL_law_270 eL_law_272 eL_law_273 eL_law_274 rfl rfl (by omega) ha3 ?_
  refine x_argA C H.hx H.hbl H.hL eL_law_275 eL_law_276 eL_law_278 eL_law_279 eL_law_280 rfl rfl (by omega) ha4 ?_
  refine x_argA C H.hx H.hbl H.hL eL_law_281 eL_law_282 eL_law_284 eL_law_285 eL_law_286 rfl rfl (by omega) ha5 ?_
  refine x_aload_n C eL_law_287 rfl ?_
  refine x_callSW (As := [_, _, _, _, _, _, _]) [_, _, _, _, _, _, _, _, _, _, _, _, _, _, _, _, _, _, _, _, _] C (wn_append hK (s_X7_append hK (by omega)) (rcv 0 rfl)) cw_append s_RL_139 eL_law_288 rfl (fun _ _ h => WF_pick [0, 7, 8, 23, 1, 2, 3, 4, 5, 6, 9, 10, 11, 12, 13, 14, 15, 16, 17, 18, 19, 20, 21, 22, 24] rfl rfl h) rfl (nle rfl) (nle rfl) (by omega) (by omega) (fun _ _ => ?_)
  refine x_pick [_, _, _, _, _, _, _, _, _, _, _, _, _, _, _, _, _, _, _, _, _, _, _, _, _] [0, 1, 2, 3, 4, 5, 6, 7, 8, 9, 10, 11, 12, 13, 14, 15, 16, 17, 18, 19, 20, 21, 22, 23, 24] rfl rfl ?_
  refine x_istore [_, _, _, _, _, _, _, _, _] C eL_law_291 rfl rfl (nlt rfl) ?_
  refine x_aload_n C eL_law_293 rfl ?_
  refine x_argA C H.hx H.hbl H.hL eL_law_294 eL_law_295 eL_law_297 eL_law_298 eL_law_299 rfl rfl (by omega) ha1 ?_
  refine x_argA C H.hx H.hbl H.hL eL_law_300 eL_law_301 eL_law_303 eL_law_304 eL_law_305 rfl rfl (by omega) ha2 ?_
  refine x_argA C H.hx H.hbl H.hL eL_law_306 eL_law_307 eL_law_309 eL_law_310 eL_law_311 rfl rfl (by omega) ha3 ?_
  refine x_argA C H.hx H.hbl H.hL eL_law_312 eL_law_313 eL_law_315 eL_law_316 eL_law_317 rfl rfl (by omega) ha4 ?_
  refine x_argA C H.hx H.hbl H.hL eL_law_318 eL_law_319 eL_law_321 eL_law_322 eL_law_323 rfl rfl (by omega) ha5 ?_
  have c1 : I 6 + 20 ≤ 400 := by first | trivial | omega | (simp only [if_true, if_false]; omega)
  have c2 : True := by first | trivial | omega | (simp only [if_true, if_false]; omega)
  have c3 : True := by first | trivial | omega | (simp only [if_true, if_false]; omega)
  have hM := s_X8_append (G := G) (l := l) (o := x.o) (r := 1) (A := x.A) (I := I) (Fb := Fb) (a9 := (zI a1)) (b9 := (zI a2)) (c9 := (zI a3)) (d9 := (zI a4)) (e9 := (zI a5)) hK (by have := hI.ez; have := hI.hz; omega)
  simp only [if_pos (show (I 6 + 20 ≤ 400) ∧ (True) ∧ (True) from ⟨c1, c2, c3⟩), thr_0 c1 c2 c3] at hM
  simp only [hI.ez, Int.toNat_natCast] at hM
  refine yV5r [_, _, _, _, _, _, _, _, _, _, _, _, _, _, _, _, _, _, _, _, _, _, _] [_, _, _, _, _, _, _, _, _, _, _, _, _, _, _, _, _, _, _, _, _, _, _, _, _] C hM v_X8_append vv_X8_append s_RL_144 eL_law_324 (fun _ _ h => WF_pick [15, 17, 0, 1, 2, 3, 4, 5, 6, 7, 8, 9, 10, 11, 12, 13, 14, 16, 18, 19, 20, 21, 22, 23, 24] rfl rfl h) (rcv 15 rfl) rfl (nle rfl) (nle rfl) (by omega) (by omega) rfl ?_
  refine x_istore [_, _, _, _, _, _, _, _, _] C eL_law_327 rfl rfl (nlt rfl) ?_
  refine x_aload_n C eL_law_329 rfl ?_
  refine yV0r [_, _, _, _, _, _, _, _, _, _, _, _, _, _, _, _, _, _, _, _, _, _, _, _] [_, _, _, _, _, _, _, _, _, _, _, _, _, _, _, _, _, _, _, _, _, _, _, _, _] C (s_X8_thrown hK) v_X8_thrown vv_X8_thrown s_RL_145 eL_law_330 (fun _ _ h => WF_pick [0, 1, 2, 3, 4, 5, 6, 7, 8, 9, 10, 11, 12, 13, 14, 15, 16, 17, 18, 19, 20, 21, 22, 23, 24] rfl rfl h) (rcv 0 rfl) rfl (nle rfl) (nle rfl) (by omega) (by omega) rfl ?_
  refine x_iload C eL_law_333 rfl ?_
  refine x_icmp_val (by first | exact up_s _ _ _ | exact (up_n (by decide)).trans (up_s _ _ _)) 340 C eL_law_335 rfl ?_
  refine x_iload C eL_law_340 rfl ?_
  refine x_if_ne 357 C eL_law_342 rfl (by omega) (fun h => absurd rfl h) (fun _ => ?_)
  refine x_aload_n C eL_law_345 rfl ?_
  refine x_iconst C eL_law_346 ?_
  refine x_lald (N := 1) 5 C eL_law_347 rfl (by decide) (by omega) ?_
  refine x_iload C eL_law_348 rfl ?_
  refine x_i2lR C eL_law_350 ?_
  refine x_lcmp_same 357 (by first | exact if_pos rfl | (rw [if_pos rfl]; rfl) | decide) C eL_law_351 eL_law_352 rfl ?_
  refine x_goto (pc' := 2791) C eL_law_357 rfl ?_
  refine x_pick [_, _, _, _, _, _, _, _, _, _, _, _, _, _, _, _, _, _, _, _, _, _, _, _, _] [2, 6, 7, 8, 9, 10, 11, 3, 4, 12, 13, 14, 15, 16, 0, 17, 1, 18, 19, 20, 21, 22, 23, 5, 24] rfl rfl ?_
  refine x_lv [_, _, _, _, _, _, none, none, _] rfl (lx_drop _ [6, 7] rfl) ?_
  exact x_wide (by omega) (by omega) (K9 (hI.inp (by omega) (by omega) (ap5_r hI.hF _ _ _ _ _ _) (by rw [up_s]; omega) ((up_n (by decide)).trans (up_n (by decide))) ((up_n (by decide)).trans (up_n (by decide))) ((up_n (by decide)).trans (up_n (by decide))) ((up_n (by decide)).trans (up_n (by decide))) ((up_n (by decide)).trans (up_n (by decide)))))

set_option maxHeartbeats 4000000 in
set_option maxRecDepth 100000 in
theorem lc_0_1 {G : Gm} {X : Cx} {l : Launch} {x : LFx} {k nn : Nat} {i b : Int} {J : Nat → Int} {M : Pool} {n : Net} {N K : Nat → Net} {Fu Fb : Nat → Int} {w : List Int} {z : Int} {I TL TB : Nat → Int} {N9 : Nat → Net} {f : Nat → Int64} {fD : Nat → UInt64} {a1 a2 a3 a4 a5 : Int} (H : LKn G l x) {nmL : String} (hC : OKc G X l RL nmL cL_law 9 (some .boolean) 1400 600000 6200000) (hI : INV b J M n N K Fu Fb w z I) (hb : b ≤ 15000000) (hk : k + 100 ≤ 600000) (hn : nn + 2200 ≤ 6200000) (hi : 0 ≤ i ∧ i + 6 ≤ (x.L : Int)) (ha1 : (x.xs (i + 1).toNat).toInt = a1) (ha2 : (x.xs (i + 2).toNat).toInt = a2) (ha3 : (x.xs (i + 3).toNat).toInt = a3) (ha4 : (x.xs (i + 4).toNat).toInt = a4) (ha5 : (x.xs (i + 5).toNat).toInt = a5) (h20 : 400 < z + 20) (K9 : LCont G X x (b + 8000) (k + 100) (nn + 2200) i) : WX G X k nn (LAT G x J M n N K Fu Fb w z I TL TB N9 f fD) 256 (LLV x i) [] := by
  have C := hC
  have hK : KG G := H.hX.1.1.1
  have hH := hI.hN.1.1
  unfold HeadOk at hH
  have r1 : -2147483648 ≤ a1 ∧ a1 < 2147483648 := by rw [← ha1]; exact bI_toInt _
  have r2 : -2147483648 ≤ a2 ∧ a2 < 2147483648 := by rw [← ha2]; exact bI_toInt _
  have r3 : -2147483648 ≤ a3 ∧ a3 < 2147483648 := by rw [← ha3]; exact bI_toInt _
  have r4 : -2147483648 ≤ a4 ∧ a4 < 2147483648 := by rw [← ha4]; exact bI_toInt _
  have r5 : -2147483648 ≤ a5 ∧ a5 < 2147483648 := by rw [← ha5]; exact bI_toInt _
  have ez := hI.ez
  have hz := hI.hz
  have hw := hI.hw
  refine x_aload_n C eL_law_256 rfl ?_
  refine x_argA C H.hx H.hbl H.hL eL_law_257 eL_law_258 eL_law_260 eL_law_261 eL_law_262 rfl rfl (by omega) ha1 ?_
  refine x_argA C H.hx H.hbl H.hL eL_law_263 eL_law_264 eL_law_266 eL_law_267 eL_law_268 rfl rfl (by omega) ha2 ?_
  refine x_argA C H.hx H.hbl H.hL eL_law_269 eL_law_270 eL_law_272 eL_law_273 eL_law_274 rfl rfl (by omega) ha3 ?_
  refine x_argA C H.hx H.hbl H.hL eL_law_275 eL_law_276 eL_law_278 eL_law_279 eL_law_280 rfl rfl (by omega) ha4 ?_
  refine x_argA C H.hx H.hbl H.hL eL_law_281 eL_law_282 eL_law_284 eL_law_285 eL_law_286 rfl rfl (by omega) ha5 ?_
  refine x_aload_n C eL_law_287 rfl ?_
  refine x_callSW (As := [_, _, _, _, _, _, _]) [_, _, _, _, _, _, _, _, _, _, _, _, _, _, _, _, _, _, _, _, _, _] C (wx_append_1 hK (t_X7_append_16 H.hX H.hT0 hI.hz (by omega)) (xwd_c (i := 2) H.hX rfl) (rcv 0 rfl)) cw_append s_RL_139 eL_law_288 rfl (fun _ _ h => WF_pick [0, 7, 23, 1, 2, 3, 4, 5, 6, 8, 9, 10, 11, 12, 13, 14, 15, 16, 17, 18, 19, 20, 21, 22, 24] rfl rfl h) rfl (nle rfl) (nle rfl) (by omega) (by omega) (fun _ _ => ?_)
  refine x_pick [_, _, _, _, _, _, _, _, _, _, _, _, _, _, _, _, _, _, _, _, _, _, _, _, _] [0, 1, 2, 3, 4, 5, 6, 7, 8, 9, 10, 11, 12, 13, 14, 15, 16, 17, 18, 19, 20, 21, 22, 23, 24] rfl rfl ?_
  refine x_istore [_, _, _, _, _, _, _, _, _] C eL_law_291 rfl rfl (nlt rfl) ?_
  refine x_aload_n C eL_law_293 rfl ?_
  refine x_argA C H.hx H.hbl H.hL eL_law_294 eL_law_295 eL_law_297 eL_law_298 eL_law_299 rfl rfl (by omega) ha1 ?_
  refine x_argA C H.hx H.hbl H.hL eL_law_300 eL_law_301 eL_law_303 eL_law_304 eL_law_305 rfl rfl (by omega) ha2 ?_
  refine x_argA C H.hx H.hbl H.hL eL_law_306 eL_law_307 eL_law_309 eL_law_310 eL_law_311 rfl rfl (by omega) ha3 ?_
  refine x_argA C H.hx H.hbl H.hL eL_law_312 eL_law_313 eL_law_315 eL_law_316 eL_law_317 rfl rfl (by omega) ha4 ?_
  refine x_argA C H.hx H.hbl H.hL eL_law_318 eL_law_319 eL_law_321 eL_law_322 eL_law_323 rfl rfl (by omega) ha5 ?_
  have c1 : ¬ (I 6 + 20 ≤ 400) := by first | omega | (simp only [if_true, if_false]; omega)
  have hM := s_X8_append (G := G) (l := l) (o := x.o) (r := 1) (A := x.A) (I := I) (Fb := Fb) (a9 := (zI a1)) (b9 := (zI a2)) (c9 := (zI a3)) (d9 := (zI a4)) (e9 := (zI a5)) hK (by have := hI.ez; have := hI.hz; omega)
  simp only [if_neg (show ¬ ((I 6 + 20 ≤ 400) ∧ (True) ∧ (True)) from fun q => c1 q.1), thr_1 c1] at hM
  refine yV5r [_, _, _, _, _, _, _, _, _, _, _, _, _, _, _, _, _, _, _, _, _, _, _] [_, _, _, _, _, _, _, _, _, _, _, _, _, _, _, _, _, _, _, _, _, _, _, _, _] C hM v_X8_append vv_X8_append s_RL_144 eL_law_324 (fun _ _ h => WF_pick [15, 17, 0, 1, 2, 3, 4, 5, 6, 7, 8, 9, 10, 11, 12, 13, 14, 16, 18, 19, 20, 21, 22, 23, 24] rfl rfl h) (rcv 15 rfl) rfl (nle rfl) (nle rfl) (by omega) (by omega) rfl ?_
  refine x_istore [_, _, _, _, _, _, _, _, _] C eL_law_327 rfl rfl (nlt rfl) ?_
  refine x_aload_n C eL_law_329 rfl ?_
  refine yV0r [_, _, _, _, _, _, _, _, _, _, _, _, _, _, _, _, _, _, _, _, _, _, _, _] [_, _, _, _, _, _, _, _, _, _, _, _, _, _, _, _, _, _, _, _, _, _, _, _, _] C (s_X8_thrown hK) v_X8_thrown vv_X8_thrown s_RL_145 eL_law_330 (fun _ _ h => WF_pick [0, 1, 2, 3, 4, 5, 6, 7, 8, 9, 10, 11, 12, 13, 14, 15, 16, 17, 18, 19, 20, 21, 22, 23, 24] rfl rfl h) (rcv 0 rfl) rfl (nle rfl) (nle rfl) (by omega) (by omega) rfl ?_
  refine x_iload C eL_law_333 rfl ?_
  refine x_icmp_val (by first | exact up_s _ _ _ | exact (up_n (by decide)).trans (up_s _ _ _)) 340 C eL_law_335 rfl ?_
  refine x_iload C eL_law_340 rfl ?_
  refine x_if_ne 357 C eL_law_342 rfl (by omega) (fun _ => ?_) (fun h => absurd h (by decide))
  refine x_goto (pc' := 2791) C eL_law_357 rfl ?_
  refine x_pick [_, _, _, _, _, _, _, _, _, _, _, _, _, _, _, _, _, _, _, _, _, _, _, _, _] [2, 5, 6, 7, 8, 9, 10, 3, 11, 12, 13, 14, 15, 16, 0, 17, 1, 18, 19, 20, 21, 22, 23, 4, 24] rfl rfl ?_
  refine x_lv [_, _, _, _, _, _, none, none, _] rfl (lx_drop _ [6, 7] rfl) ?_
  exact x_wide (by omega) (by omega) (K9 (hI.qI (by omega) (up_n (by decide)) (up_n (by decide)) (up_n (by decide)) (up_n (by decide)) (up_n (by decide)) (up_n (by decide))))

set_option maxHeartbeats 4000000 in
set_option maxRecDepth 100000 in
theorem lc_1_0 {G : Gm} {X : Cx} {l : Launch} {x : LFx} {k nn : Nat} {i b : Int} {J : Nat → Int} {M : Pool} {n : Net} {N K : Nat → Net} {Fu Fb : Nat → Int} {w : List Int} {z : Int} {I TL TB : Nat → Int} {N9 : Nat → Net} {f : Nat → Int64} {fD : Nat → UInt64} {a1 : Int} (H : LKn G l x) {nmL : String} (hC : OKc G X l RL nmL cL_law 9 (some .boolean) 1400 600000 6200000) (hI : INV b J M n N K Fu Fb w z I) (hb : b ≤ 15000000) (hk : k + 100 ≤ 600000) (hn : nn + 2200 ≤ 6200000) (hi : 0 ≤ i ∧ i + 6 ≤ (x.L : Int)) (ha1 : (x.xs (i + 1).toNat).toInt = a1) (ha : 0 ≤ a1 ∧ a1 ≤ z) (K9 : LCont G X x (b + 8000) (k + 100) (nn + 2200) i) : WX G X k nn (LAT G x J M n N K Fu Fb w z I TL TB N9 f fD) 360 (LLV x i) [] := by
  have C := hC
  have hK : KG G := H.hX.1.1.1
  have hH := hI.hN.1.1
  unfold HeadOk at hH
  have r1 : -2147483648 ≤ a1 ∧ a1 < 2147483648 := by rw [← ha1]; exact bI_toInt _
  have ez := hI.ez
  have hz := hI.hz
  have hw := hI.hw
  refine x_aload_n C eL_law_360 rfl ?_
  refine x_argA C H.hx H.hbl H.hL eL_law_361 eL_law_362 eL_law_364 eL_law_365 eL_law_366 rfl rfl (by omega) ha1 ?_
  refine x_callSW (As := [_, _]) [_, _, _, _, _, _, _, _, _, _, _, _, _, _, _, _, _, _, _, _, _, _, _] C (wn_truncate (oq := x.oq) (f := f) hK (s_X7_truncate hK hI.hz (by omega)) (rcv 0 rfl)) cw_truncate s_RL_148 eL_law_367 rfl (fun _ _ h => WF_pick [0, 7, 1, 2, 3, 4, 5, 6, 8, 9, 10, 11, 12, 13, 14, 15, 16, 17, 18, 19, 20, 21, 22, 23, 24] rfl rfl h) rfl (nle rfl) (nle rfl) (by omega) (by omega) (fun _ _ => ?_)
  refine x_pick [_, _, _, _, _, _, _, _, _, _, _, _, _, _, _, _, _, _, _, _, _, _, _, _, _] [0, 1, 2, 3, 4, 5, 6, 7, 8, 9, 10, 11, 12, 13, 14, 15, 16, 17, 18, 19, 20, 21, 22, 23, 24] rfl rfl ?_
  refine x_istore [_, _, _, _, _, _, _, _, _] C eL_law_370 rfl rfl (nlt rfl) ?_
  refine x_aload_n C eL_law_372 rfl ?_
  refine x_argA C H.hx H.hbl H.hL eL_law_373 eL_law_374 eL_law_376 eL_law_377 eL_law_378 rfl rfl (by omega) ha1 ?_
  have c1 : 0 ≤ a1 ∧ a1 ≤ I 6 := by first | trivial | omega | (simp only [if_true, if_false]; omega)
  have c2 : True := by first | trivial | omega | (simp only [if_true, if_false]; omega)
  have c3 : True := by first | trivial | omega | (simp only [if_true, if_false]; omega)
  have hM := s_X8_truncate (G := G) (l := l) (o := x.o) (A := x.A) (I := I) (N := N9) (n := n) (a9 := a1) hK (by omega) (by have := hI.ez; have := hI.hz; omega)
  simp only [if_pos (show (0 ≤ a1 ∧ a1 ≤ I 6) ∧ (True) ∧ (True) from ⟨c1, c2, c3⟩), thr_0 c1 c2 c3] at hM
  refine yV1v [_, _, _, _, _, _, _, _, _, _, _, _, _, _, _, _, _, _, _, _, _, _, _] [_, _, _, _, _, _, _, _, _, _, _, _, _, _, _, _, _, _, _, _, _, _, _, _, _] C hM v_X8_truncate vv_X8_truncate s_RL_151 eL_law_379 (fun _ _ h => WF_pick [14, 15, 0, 1, 2, 3, 4, 5, 6, 7, 8, 9, 10, 11, 12, 13, 16, 17, 18, 19, 20, 21, 22, 23, 24] rfl rfl h) (rcv 14 rfl) rfl (nle rfl) (nle rfl) (by omega) (by omega) rfl ?_
  refine x_aload_n C eL_law_382 rfl ?_
  refine yV0r [_, _, _, _, _, _, _, _, _, _, _, _, _, _, _, _, _, _, _, _, _, _, _, _] [_, _, _, _, _, _, _, _, _, _, _, _, _, _, _, _, _, _, _, _, _, _, _, _, _] C (s_X8_thrown hK) v_X8_thrown vv_X8_thrown s_RL_145 eL_law_383 (fun _ _ h => WF_pick [0, 1, 2, 3, 4, 5, 6, 7, 8, 9, 10, 11, 12, 13, 14, 15, 16, 17, 18, 19, 20, 21, 22, 23, 24] rfl rfl h) (rcv 0 rfl) rfl (nle rfl) (nle rfl) (by omega) (by omega) rfl ?_
  refine x_iload C eL_law_386 rfl ?_
  refine x_icmp_val (by first | exact up_s _ _ _ | exact (up_n (by decide)).trans (up_s _ _ _)) 393 C eL_law_388 rfl ?_
  refine x_goto (pc' := 2791) C eL_law_393 rfl ?_
  refine x_pick [_, _, _, _, _, _, _, _, _, _, _, _, _, _, _, _, _, _, _, _, _, _, _, _, _] [2, 4, 5, 6, 7, 8, 9, 3, 10, 11, 12, 13, 14, 15, 0, 1, 16, 17, 18, 19, 20, 21, 22, 23, 24] rfl rfl ?_
  refine x_lv [_, _, _, _, _, _, none, _, _] rfl (lx_drop _ [6] rfl) ?_
  exact x_wide (by omega) (by omega) (K9 (hI.inp (by omega) (by omega) hI.hF (up_s _ _ _) ((up_n (by decide)).trans (up_n (by decide))) ((up_n (by decide)).trans (up_n (by decide))) ((up_n (by decide)).trans (up_n (by decide))) ((up_n (by decide)).trans (up_n (by decide))) ((up_n (by decide)).trans (up_n (by decide)))))

set_option maxHeartbeats 4000000 in
set_option maxRecDepth 100000 in
theorem lc_1_1 {G : Gm} {X : Cx} {l : Launch} {x : LFx} {k nn : Nat} {i b : Int} {J : Nat → Int} {M : Pool} {n : Net} {N K : Nat → Net} {Fu Fb : Nat → Int} {w : List Int} {z : Int} {I TL TB : Nat → Int} {N9 : Nat → Net} {f : Nat → Int64} {fD : Nat → UInt64} {a1 : Int} (H : LKn G l x) {nmL : String} (hC : OKc G X l RL nmL cL_law 9 (some .boolean) 1400 600000 6200000) (hI : INV b J M n N K Fu Fb w z I) (hb : b ≤ 15000000) (hk : k + 100 ≤ 600000) (hn : nn + 2200 ≤ 6200000) (hi : 0 ≤ i ∧ i + 6 ≤ (x.L : Int)) (ha1 : (x.xs (i + 1).toNat).toInt = a1) (ha : ¬ (0 ≤ a1 ∧ a1 ≤ z)) (K9 : LCont G X x (b + 8000) (k + 100) (nn + 2200) i) : WX G X k nn (LAT G x J M n N K Fu Fb w z I TL TB N9 f fD) 360 (LLV x i) [] := by
  have C := hC
  have hK : KG G := H.hX.1.1.1
  have hH := hI.hN.1.1
  unfold HeadOk at hH
  have r1 : -2147483648 ≤ a1 ∧ a1 < 2147483648 := by rw [← ha1]; exact bI_toInt _
  have ez := hI.ez
  have hz := hI.hz
  have hw := hI.hw
  refine x_aload_n C eL_law_360 rfl ?_
  refine x_argA C H.hx H.hbl H.hL eL_law_361 eL_law_362 eL_law_364 eL_law_365 eL_law_366 rfl rfl (by omega) ha1 ?_
  refine x_callSW (As := [_, _]) [_, _, _, _, _, _, _, _, _, _, _, _, _, _, _, _, _, _, _, _, _, _, _] C (wx_truncate_1 (oq := x.oq) (f := f) hK (t_X7_truncate_15 H.hX H.hT0 hI.hz (by omega) (by omega)) (xwd_c (i := 1) H.hX rfl) (rcv 0 rfl)) cw_truncate s_RL_148 eL_law_367 rfl (fun _ _ h => WF_pick [0, 7, 1, 2, 3, 4, 5, 6, 8, 9, 10, 11, 12, 13, 14, 15, 16, 17, 18, 19, 20, 21, 22, 23, 24] rfl rfl h) rfl (nle rfl) (nle rfl) (by omega) (by omega) (fun _ _ => ?_)
  refine x_pick [_, _, _, _, _, _, _, _, _, _, _, _, _, _, _, _, _, _, _, _, _, _, _, _, _] [0, 1, 2, 3, 4, 5, 6, 7, 8, 9, 10, 11, 12, 13, 14, 15, 16, 17, 18, 19, 20, 21, 22, 23, 24] rfl rfl ?_
  refine x_istore [_, _, _, _, _, _, _, _, _] C eL_law_370 rfl rfl (nlt rfl) ?_
  refine x_aload_n C eL_law_372 rfl ?_
  refine x_argA C H.hx H.hbl H.hL eL_law_373 eL_law_374 eL_law_376 eL_law_377 eL_law_378 rfl rfl (by omega) ha1 ?_
  have c1 : ¬ (0 ≤ a1 ∧ a1 ≤ I 6) := by first | omega | (simp only [if_true, if_false]; omega)
  have hM := s_X8_truncate (G := G) (l := l) (o := x.o) (A := x.A) (I := I) (N := N9) (n := n) (a9 := a1) hK (by omega) (by have := hI.ez; have := hI.hz; omega)
  simp only [if_neg (show ¬ ((0 ≤ a1 ∧ a1 ≤ I 6) ∧ (True) ∧ (True)) from fun q => c1 q.1), thr_1 c1] at hM
  refine yV1v [_, _, _, _, _, _, _, _, _, _, _, _, _, _, _, _, _, _, _, _, _, _, _] [_, _, _, _, _, _, _, _, _, _, _, _, _, _, _, _, _, _, _, _, _, _, _, _, _] C hM v_X8_truncate vv_X8_truncate s_RL_151 eL_law_379 (fun _ _ h => WF_pick [14, 15, 0, 1, 2, 3, 4, 5, 6, 7, 8, 9, 10, 11, 12, 13, 16, 17, 18, 19, 20, 21, 22, 23, 24] rfl rfl h) (rcv 14 rfl) rfl (nle rfl) (nle rfl) (by omega) (by omega) rfl ?_
  refine x_aload_n C eL_law_382 rfl ?_
  refine yV0r [_, _, _, _, _, _, _, _, _, _, _, _, _, _, _, _, _, _, _, _, _, _, _, _] [_, _, _, _, _, _, _, _, _, _, _, _, _, _, _, _, _, _, _, _, _, _, _, _, _] C (s_X8_thrown hK) v_X8_thrown vv_X8_thrown s_RL_145 eL_law_383 (fun _ _ h => WF_pick [0, 1, 2, 3, 4, 5, 6, 7, 8, 9, 10, 11, 12, 13, 14, 15, 16, 17, 18, 19, 20, 21, 22, 23, 24] rfl rfl h) (rcv 0 rfl) rfl (nle rfl) (nle rfl) (by omega) (by omega) rfl ?_
  refine x_iload C eL_law_386 rfl ?_
  refine x_icmp_val (by first | exact up_s _ _ _ | exact (up_n (by decide)).trans (up_s _ _ _)) 393 C eL_law_388 rfl ?_
  refine x_goto (pc' := 2791) C eL_law_393 rfl ?_
  refine x_pick [_, _, _, _, _, _, _, _, _, _, _, _, _, _, _, _, _, _, _, _, _, _, _, _, _] [2, 4, 5, 6, 7, 8, 9, 3, 10, 11, 12, 13, 14, 15, 0, 1, 16, 17, 18, 19, 20, 21, 22, 23, 24] rfl rfl ?_
  refine x_lv [_, _, _, _, _, _, none, _, _] rfl (lx_drop _ [6] rfl) ?_
  exact x_wide (by omega) (by omega) (K9 (hI.qI (by omega) (up_n (by decide)) (up_n (by decide)) (up_n (by decide)) (up_n (by decide)) (up_n (by decide)) (up_n (by decide))))

set_option maxHeartbeats 4000000 in
set_option maxRecDepth 100000 in
theorem lc_5_0 {G : Gm} {X : Cx} {l : Launch} {x : LFx} {k nn : Nat} {i b : Int} {J : Nat → Int} {M : Pool} {n : Net} {N K : Nat → Net} {Fu Fb : Nat → Int} {w : List Int} {z : Int} {I TL TB : Nat → Int} {N9 : Nat → Net} {f : Nat → Int64} {fD : Nat → UInt64} (H : LKn G l x) {nmL : String} (hC : OKc G X l RL nmL cL_law 9 (some .boolean) 1400 600000 6200000) (hI : INV b J M n N K Fu Fb w z I) (hb : b ≤ 15000000) (hk : k + 100 ≤ 600000) (hn : nn + 2200 ≤ 6200000) (hi : 0 ≤ i ∧ i + 6 ≤ (x.L : Int))   (K9 : LCont G X x (b + 8000) (k + 100) (nn + 2200) i) : WX G X k nn (LAT G x J M n N K Fu Fb w z I TL TB N9 f fD) 435 (LLV x i) [] := by
  have C := hC
  have hK : KG G := H.hX.1.1.1
  have hH := hI.hN.1.1
  unfold HeadOk at hH
  refine x_aload_n C eL_law_435 rfl ?_
  refine yV0r [_, _, _, _, _, _, _, _, _, _, _, _, _, _, _, _, _] [_, _, _, _, _, _, _, _, _, _, _, _, _, _, _, _, _, _, _, _, _, _, _, _, _] C (s_X7_find hK hI.hN.1 (by omega) H.hX.1 (PLok_of H.hX.1 hI.hM) namOk_pf hI.hz hI.hF) v_X7_find vv_X7_find s_RL_164 eL_law_436 (fun _ _ h => WF_pick [0, 1, 2, 3, 4, 7, 8, 11, 5, 6, 9, 10, 12, 13, 14, 15, 16, 17, 18, 19, 20, 21, 22, 23, 24] rfl rfl h) (rcv 0 rfl) rfl (nle rfl) (nle rfl) (by omega) (by omega) rfl ?_
  refine x_aload_n C eL_law_439 rfl ?_
  have hM := s_X8_find (G := G) (l := l) (o := x.o) (A := x.A) (I := I) (N := N9) (n := n) (b := b) (Fb := Fb) hK hI.hN.1 (by omega) (by have := hI.ez; have := hI.hz; omega) hI.hF
  simp only [hI.ez] at hM
  refine yV0r [_, _, _, _, _, _, _, _, _, _, _, _, _, _, _, _, _, _, _, _, _, _] [_, _, _, _, _, _, _, _, _, _, _, _, _, _, _, _, _, _, _, _, _, _, _, _, _] C hM v_X8_find vv_X8_find s_RL_167 eL_law_440 (fun _ _ h => WF_pick [14, 15, 16, 0, 1, 2, 3, 4, 5, 6, 7, 8, 9, 10, 11, 12, 13, 17, 18, 19, 20, 21, 22, 23, 24] rfl rfl h) (rcv 14 rfl) rfl (nle rfl) (nle rfl) (by omega) (by omega) rfl ?_
  refine x_icmp_val (find_ok hI.hF hI.hz.1 (by omega) hI.hN.2) 2791 C eL_law_443 rfl ?_
  refine x_pick [_, _, _, _, _, _, _, _, _, _, _, _, _, _, _, _, _, _, _, _, _, _, _, _, _] [3, 4, 5, 6, 7, 11, 12, 8, 9, 13, 14, 10, 15, 16, 0, 1, 2, 17, 18, 19, 20, 21, 22, 23, 24] rfl rfl ?_
  exact x_wide (by omega) (by omega) (K9 (hI.inp (by omega) (by decide) hI.hF (up_s _ _ _) ((up_n (by decide)).trans (up_n (by decide))) ((up_n (by decide)).trans (up_n (by decide))) ((up_n (by decide)).trans (up_n (by decide))) ((up_n (by decide)).trans (up_n (by decide))) ((up_n (by decide)).trans (up_n (by decide)))))

set_option maxHeartbeats 4000000 in
set_option maxRecDepth 100000 in
theorem lc_48_0 {G : Gm} {X : Cx} {l : Launch} {x : LFx} {k nn : Nat} {i b : Int} {J : Nat → Int} {M : Pool} {n : Net} {N K : Nat → Net} {Fu Fb : Nat → Int} {w : List Int} {z : Int} {I TL TB : Nat → Int} {N9 : Nat → Net} {f : Nat → Int64} {fD : Nat → UInt64} {a1 : Int} (H : LKn G l x) {nmL : String} (hC : OKc G X l RL nmL cL_law 9 (some .boolean) 1400 600000 6200000) (hI : INV b J M n N K Fu Fb w z I) (hb : b ≤ 15000000) (hk : k + 100 ≤ 600000) (hn : nn + 2200 ≤ 6200000) (hi : 0 ≤ i ∧ i + 6 ≤ (x.L : Int)) (ha1 : (x.xs (i + 1).toNat).toInt = a1) (hi9 : 0 ≤ a1 ∧ a1 < (w.length : Int)) (K9 : LCont G X x (b + 8000) (k + 100) (nn + 2200) i) : WX G X k nn (LAT G x J M n N K Fu Fb w z I TL TB N9 f fD) 2735 (LLV x i) [] := by
  have C := hC
  have hK : KG G := H.hX.1.1.1
  have hH := hI.hN.1.1
  unfold HeadOk at hH
  have r1 : -2147483648 ≤ a1 ∧ a1 < 2147483648 := by rw [← ha1]; exact bI_toInt _
  have ez := hI.ez
  have hz := hI.hz
  have hw := hI.hw
  refine x_aload_n C eL_law_2735 rfl ?_
  refine x_argA C H.hx H.hbl H.hL eL_law_2736 eL_law_2737 eL_law_2739 eL_law_2740 eL_law_2741 rfl rfl (by omega) ha1 ?_
  refine x_aload_n C eL_law_2742 rfl ?_
  refine x_callSW (As := [_, _, _]) [_, _, _, _, _, _, _, _, _, _, _, _, _, _, _, _, _, _, _, _, _] C (wn_outputByte hK (s_X7_outputByte hK (by omega) hI.hv (by omega)) (rcv 0 rfl)) cw_outputByte s_RL_310 eL_law_2743 rfl (fun _ _ h => WF_pick [0, 9, 10, 23, 1, 2, 3, 4, 5, 6, 7, 8, 11, 12, 13, 14, 15, 16, 17, 18, 19, 20, 21, 22, 24] rfl rfl h) rfl (nle rfl) (nle rfl) (by omega) (by omega) (fun _ _ => ?_)
  refine x_pick [_, _, _, _, _, _, _, _, _, _, _, _, _, _, _, _, _, _, _, _, _, _, _, _, _] [0, 1, 2, 3, 4, 5, 6, 7, 8, 9, 10, 11, 12, 13, 14, 15, 16, 17, 18, 19, 20, 21, 22, 23, 24] rfl rfl ?_
  refine x_istore [_, _, _, _, _, _, _, _, _] C eL_law_2746 rfl rfl (nlt rfl) ?_
  refine x_aload_n C eL_law_2748 rfl ?_
  refine x_argA C H.hx H.hbl H.hL eL_law_2749 eL_law_2750 eL_law_2752 eL_law_2753 eL_law_2754 rfl rfl (by omega) ha1 ?_
  have c1 : 0 ≤ a1 ∧ a1 ≤ (w.length : Int) - 1 := by first | trivial | omega | (simp only [if_true, if_false]; omega)
  have c2 : True := by first | trivial | omega | (simp only [if_true, if_false]; omega)
  have c3 : True := by first | trivial | omega | (simp only [if_true, if_false]; omega)
  have hM := s_X8_outputByte (G := G) (l := l) (o := x.o) (A := x.A) (I := I) (w := w) (i9 := a1) hK (by omega) hI.hw hI.ew
  simp only [if_pos (show (0 ≤ a1 ∧ a1 ≤ (w.length : Int) - 1) ∧ (True) ∧ (True) from ⟨c1, c2, c3⟩), thr_0 c1 c2 c3] at hM
  refine yV1r [_, _, _, _, _, _, _, _, _, _, _, _, _, _, _, _, _, _, _, _, _, _, _] [_, _, _, _, _, _, _, _, _, _, _, _, _, _, _, _, _, _, _, _, _, _, _, _, _] C hM v_X8_outputByte vv_X8_outputByte s_RL_312 eL_law_2755 (fun _ _ h => WF_pick [15, 23, 0, 1, 2, 3, 4, 5, 6, 7, 8, 9, 10, 11, 12, 13, 14, 16, 17, 18, 19, 20, 21, 22, 24] rfl rfl h) (rcv 15 rfl) rfl (nle rfl) (nle rfl) (by omega) (by omega) rfl ?_
  refine x_istore [_, _, _, _, _, _, _, _, _] C eL_law_2758 rfl rfl (nlt rfl) ?_
  refine x_aload_n C eL_law_2760 rfl ?_
  refine yV0r [_, _, _, _, _, _, _, _, _, _, _, _, _, _, _, _, _, _, _, _, _, _, _, _] [_, _, _, _, _, _, _, _, _, _, _, _, _, _, _, _, _, _, _, _, _, _, _, _, _] C (s_X8_thrown hK) v_X8_thrown vv_X8_thrown s_RL_145 eL_law_2761 (fun _ _ h => WF_pick [0, 1, 2, 3, 4, 5, 6, 7, 8, 9, 10, 11, 12, 13, 14, 15, 16, 17, 18, 19, 20, 21, 22, 23, 24] rfl rfl h) (rcv 0 rfl) rfl (nle rfl) (nle rfl) (by omega) (by omega) rfl ?_
  refine x_iload C eL_law_2764 rfl ?_
  refine x_icmp_val (by first | exact up_s _ _ _ | exact (up_n (by decide)).trans (up_s _ _ _)) 2771 C eL_law_2766 rfl ?_
  refine x_iload C eL_law_2771 rfl ?_
  refine x_if_ne 2788 C eL_law_2773 rfl (by omega) (fun h => absurd rfl h) (fun _ => ?_)
  refine x_aload_n C eL_law_2776 rfl ?_
  refine x_iconst C eL_law_2777 ?_
  refine x_lald (N := 1) 5 C eL_law_2778 rfl (by decide) (by omega) ?_
  refine x_iload C eL_law_2779 rfl ?_
  refine x_i2lR C eL_law_2781 ?_
  refine x_lcmp_same 2788 (by first | exact if_pos rfl | (rw [if_pos rfl]; rfl) | decide) C eL_law_2782 eL_law_2783 rfl ?_
  refine x_goto (pc' := 2791) C eL_law_2788 rfl ?_
  refine x_pick [_, _, _, _, _, _, _, _, _, _, _, _, _, _, _, _, _, _, _, _, _, _, _, _, _] [2, 6, 7, 8, 9, 10, 11, 12, 13, 3, 4, 14, 15, 16, 0, 17, 18, 19, 20, 21, 22, 23, 1, 5, 24] rfl rfl ?_
  refine x_lv [_, _, _, _, _, _, none, none, _] rfl (lx_drop _ [6, 7] rfl) ?_
  exact x_wide (by omega) (by omega) (K9 (hI.qI (by omega) (up_n (by decide)) (up_n (by decide)) (up_n (by decide)) (up_n (by decide)) (up_n (by decide)) (up_n (by decide))))

set_option maxHeartbeats 4000000 in
set_option maxRecDepth 100000 in
theorem lc_48_1 {G : Gm} {X : Cx} {l : Launch} {x : LFx} {k nn : Nat} {i b : Int} {J : Nat → Int} {M : Pool} {n : Net} {N K : Nat → Net} {Fu Fb : Nat → Int} {w : List Int} {z : Int} {I TL TB : Nat → Int} {N9 : Nat → Net} {f : Nat → Int64} {fD : Nat → UInt64} {a1 : Int} (H : LKn G l x) {nmL : String} (hC : OKc G X l RL nmL cL_law 9 (some .boolean) 1400 600000 6200000) (hI : INV b J M n N K Fu Fb w z I) (hb : b ≤ 15000000) (hk : k + 100 ≤ 600000) (hn : nn + 2200 ≤ 6200000) (hi : 0 ≤ i ∧ i + 6 ≤ (x.L : Int)) (ha1 : (x.xs (i + 1).toNat).toInt = a1) (hi9 : ¬ (0 ≤ a1 ∧ a1 < (w.length : Int))) (K9 : LCont G X x (b + 8000) (k + 100) (nn + 2200) i) : WX G X k nn (LAT G x J M n N K Fu Fb w z I TL TB N9 f fD) 2735 (LLV x i) [] := by
  have C := hC
  have hK : KG G := H.hX.1.1.1
  have hH := hI.hN.1.1
  unfold HeadOk at hH
  have r1 : -2147483648 ≤ a1 ∧ a1 < 2147483648 := by rw [← ha1]; exact bI_toInt _
  have ez := hI.ez
  have hz := hI.hz
  have hw := hI.hw
  refine x_aload_n C eL_law_2735 rfl ?_
  refine x_argA C H.hx H.hbl H.hL eL_law_2736 eL_law_2737 eL_law_2739 eL_law_2740 eL_law_2741 rfl rfl (by omega) ha1 ?_
  refine x_aload_n C eL_law_2742 rfl ?_
  refine x_callSW (As := [_, _, _]) [_, _, _, _, _, _, _, _, _, _, _, _, _, _, _, _, _, _, _, _, _, _] C (wx_outputByte_1 hK (t_X7_outputByte_15 H.hX H.hT0 (by omega) (by omega) (by omega)) (xwd_c (i := 3) H.hX rfl) (rcv 0 rfl)) cw_outputByte s_RL_310 eL_law_2743 rfl (fun _ _ h => WF_pick [0, 9, 23, 1, 2, 3, 4, 5, 6, 7, 8, 10, 11, 12, 13, 14, 15, 16, 17, 18, 19, 20, 21, 22, 24] rfl rfl h) rfl (nle rfl) (nle rfl) (by omega) (by omega) (fun _ _ => ?_)
  refine x_pick [_, _, _, _, _, _, _, _, _, _, _, _, _, _, _, _, _, _, _, _, _, _, _, _, _] [0, 1, 2, 3, 4, 5, 6, 7, 8, 9, 10, 11, 12, 13, 14, 15, 16, 17, 18, 19, 20, 21, 22, 23, 24] rfl rfl ?_
  refine x_istore [_, _, _, _, _, _, _, _, _] C eL_law_2746 rfl rfl (nlt rfl) ?_
  refine x_aload_n C eL_law_2748 rfl ?_
  refine x_argA C H.hx H.hbl H.hL eL_law_2749 eL_law_2750 eL_law_2752 eL_law_2753 eL_law_2754 rfl rfl (by omega) ha1 ?_
  have c1 : ¬ (0 ≤ a1 ∧ a1 ≤ (w.length : Int) - 1) := by first | omega | (simp only [if_true, if_false]; omega)
  have hM := s_X8_outputByte (G := G) (l := l) (o := x.o) (A := x.A) (I := I) (w := w) (i9 := a1) hK (by omega) hI.hw hI.ew
  simp only [if_neg (show ¬ ((0 ≤ a1 ∧ a1 ≤ (w.length : Int) - 1) ∧ (True) ∧ (True)) from fun q => c1 q.1), thr_1 c1] at hM
  refine yV1r [_, _, _, _, _, _, _, _, _, _, _, _, _, _, _, _, _, _, _, _, _, _, _] [_, _, _, _, _, _, _, _, _, _, _, _, _, _, _, _, _, _, _, _, _, _, _, _, _] C hM v_X8_outputByte vv_X8_outputByte s_RL_312 eL_law_2755 (fun _ _ h => WF_pick [15, 23, 0, 1, 2, 3, 4, 5, 6, 7, 8, 9, 10, 11, 12, 13, 14, 16, 17, 18, 19, 20, 21, 22, 24] rfl rfl h) (rcv 15 rfl) rfl (nle rfl) (nle rfl) (by omega) (by omega) rfl ?_
  refine x_istore [_, _, _, _, _, _, _, _, _] C eL_law_2758 rfl rfl (nlt rfl) ?_
  refine x_aload_n C eL_law_2760 rfl ?_
  refine yV0r [_, _, _, _, _, _, _, _, _, _, _, _, _, _, _, _, _, _, _, _, _, _, _, _] [_, _, _, _, _, _, _, _, _, _, _, _, _, _, _, _, _, _, _, _, _, _, _, _, _] C (s_X8_thrown hK) v_X8_thrown vv_X8_thrown s_RL_145 eL_law_2761 (fun _ _ h => WF_pick [0, 1, 2, 3, 4, 5, 6, 7, 8, 9, 10, 11, 12, 13, 14, 15, 16, 17, 18, 19, 20, 21, 22, 23, 24] rfl rfl h) (rcv 0 rfl) rfl (nle rfl) (nle rfl) (by omega) (by omega) rfl ?_
  refine x_iload C eL_law_2764 rfl ?_
  refine x_icmp_val (by first | exact up_s _ _ _ | exact (up_n (by decide)).trans (up_s _ _ _)) 2771 C eL_law_2766 rfl ?_
  refine x_iload C eL_law_2771 rfl ?_
  refine x_if_ne 2788 C eL_law_2773 rfl (by omega) (fun _ => ?_) (fun h => absurd h (by decide))
  refine x_goto (pc' := 2791) C eL_law_2788 rfl ?_
  refine x_pick [_, _, _, _, _, _, _, _, _, _, _, _, _, _, _, _, _, _, _, _, _, _, _, _, _] [2, 5, 6, 7, 8, 9, 10, 11, 12, 3, 13, 14, 15, 16, 0, 17, 18, 19, 20, 21, 22, 23, 1, 4, 24] rfl rfl ?_
  refine x_lv [_, _, _, _, _, _, none, none, _] rfl (lx_drop _ [6, 7] rfl) ?_
  exact x_wide (by omega) (by omega) (K9 (hI.qI (by omega) (up_n (by decide)) (up_n (by decide)) (up_n (by decide)) (up_n (by decide)) (up_n (by decide)) (up_n (by decide))))

set_option maxHeartbeats 4000000 in
set_option maxRecDepth 100000 in
theorem lc_45_0 {G : Gm} {X : Cx} {l : Launch} {x : LFx} {k nn : Nat} {i b : Int} {J : Nat → Int} {M : Pool} {n : Net} {N K : Nat → Net} {Fu Fb : Nat → Int} {w : List Int} {z : Int} {I TL TB : Nat → Int} {N9 : Nat → Net} {f : Nat → Int64} {fD : Nat → UInt64} (H : LKn G l x) {nmL : String} (hC : OKc G X l RL nmL cL_law 9 (some .boolean) 1400 600000 6200000) (hI : INV b J M n N K Fu Fb w z I) (hb : b ≤ 15000000) (hk : k + 100 ≤ 600000) (hn : nn + 2200 ≤ 6200000) (hi : 0 ≤ i ∧ i + 6 ≤ (x.L : Int))   (K9 : LCont G X x (b + 8000) (k + 100) (nn + 2200) i) : WX G X k nn (LAT G x J M n N K Fu Fb w z I TL TB N9 f fD) 2653 (LLV x i) [] := by
  have C := hC
  have hK : KG G := H.hX.1.1.1
  have hH := hI.hN.1.1
  unfold HeadOk at hH
  refine x_aload_n C eL_law_2653 rfl ?_
  refine yV0r [_, _, _, _, _, _, _, _, _, _, _, _, _, _, _, _, _] [_, _, _, _, _, _, _, _, _, _, _, _, _, _, _, _, _, _, _, _, _, _, _, _, _] C (s_X7_writeQueues hK hI.hN.1 (by omega) H.hX.1 (PLok_of H.hX.1 hI.hM) namOk_pf) v_X7_writeQueues vv_X7_writeQueues s_RL_299 eL_law_2654 (fun _ _ h => WF_pick [0, 1, 2, 3, 4, 9, 10, 11, 5, 6, 7, 8, 12, 13, 14, 15, 16, 17, 18, 19, 20, 21, 22, 23, 24] rfl rfl h) (rcv 0 rfl) rfl (nle rfl) (nle rfl) (by omega) (by omega) rfl ?_
  refine x_aload_n C eL_law_2657 rfl ?_
  have hM := s_X8_writeQueues (G := G) (l := l) (o := x.o) (A := x.A) (I := I) (N := N9) (n := n) (b := b) (w := w) hK hI.hN.1 (by omega)
  refine yV0r [_, _, _, _, _, _, _, _, _, _, _, _, _, _, _, _, _, _, _, _, _, _] [_, _, _, _, _, _, _, _, _, _, _, _, _, _, _, _, _, _, _, _, _, _, _, _, _] C hM v_X8_writeQueues vv_X8_writeQueues s_RL_302 eL_law_2658 (fun _ _ h => WF_pick [14, 15, 22, 0, 1, 2, 3, 4, 5, 6, 7, 8, 9, 10, 11, 12, 13, 16, 17, 18, 19, 20, 21, 23, 24] rfl rfl h) (rcv 14 rfl) rfl (nle rfl) (nle rfl) (by omega) (by omega) rfl ?_
  refine x_icmp_same 2791 C eL_law_2661 rfl ?_
  refine x_pick [_, _, _, _, _, _, _, _, _, _, _, _, _, _, _, _, _, _, _, _, _, _, _, _, _] [3, 4, 5, 6, 7, 11, 12, 13, 14, 8, 9, 10, 15, 16, 0, 1, 17, 18, 19, 20, 21, 22, 2, 23, 24] rfl rfl ?_
  exact x_wide (by omega) (by omega) (K9 (hI.wr (by omega) ((by have := queS_len6 hI.hN.1 (n (-1) 0).toNat (by omega); omega)) (queS_r hI.hN.1 _ (by omega)) (up_s _ _ _) ((up_n (by decide)).trans (up_n (by decide))) ((up_n (by decide)).trans (up_n (by decide))) ((up_n (by decide)).trans (up_n (by decide))) ((up_n (by decide)).trans (up_n (by decide))) ((up_n (by decide)).trans (up_n (by decide)))))

set_option maxHeartbeats 4000000 in
set_option maxRecDepth 100000 in
theorem lc_46_0 {G : Gm} {X : Cx} {l : Launch} {x : LFx} {k nn : Nat} {i b : Int} {J : Nat → Int} {M : Pool} {n : Net} {N K : Nat → Net} {Fu Fb : Nat → Int} {w : List Int} {z : Int} {I TL TB : Nat → Int} {N9 : Nat → Net} {f : Nat → Int64} {fD : Nat → UInt64} (H : LKn G l x) {nmL : String} (hC : OKc G X l RL nmL cL_law 9 (some .boolean) 1400 600000 6200000) (hI : INV b J M n N K Fu Fb w z I) (hb : b ≤ 15000000) (hk : k + 100 ≤ 600000) (hn : nn + 2200 ≤ 6200000) (hi : 0 ≤ i ∧ i + 6 ≤ (x.L : Int))   (K9 : LCont G X x (b + 8000) (k + 100) (nn + 2200) i) : WX G X k nn (LAT G x J M n N K Fu Fb w z I TL TB N9 f fD) 2666 (LLV x i) [] := by
  have C := hC
  have hK : KG G := H.hX.1.1.1
  have hH := hI.hN.1.1
  unfold HeadOk at hH
  refine x_aload_n C eL_law_2666 rfl ?_
  refine yV0r [_, _, _, _, _, _, _, _, _, _, _, _, _, _, _, _, _, _] [_, _, _, _, _, _, _, _, _, _, _, _, _, _, _, _, _, _, _, _, _, _, _, _, _] C (s_X7_writeLog hK hI.hN.1 (by omega)) v_X7_writeLog vv_X7_writeLog s_RL_303 eL_law_2667 (fun _ _ h => WF_pick [0, 1, 2, 3, 4, 9, 10, 5, 6, 7, 8, 11, 12, 13, 14, 15, 16, 17, 18, 19, 20, 21, 22, 23, 24] rfl rfl h) (rcv 0 rfl) rfl (nle rfl) (nle rfl) (by omega) (by omega) rfl ?_
  refine x_aload_n C eL_law_2670 rfl ?_
  have hM := s_X8_writeLog (G := G) (l := l) (o := x.o) (A := x.A) (I := I) (N := N9) (n := n) (b := b) (w := w) hK hI.hN.1 (by omega)
  refine yV0r [_, _, _, _, _, _, _, _, _, _, _, _, _, _, _, _, _, _, _, _, _, _] [_, _, _, _, _, _, _, _, _, _, _, _, _, _, _, _, _, _, _, _, _, _, _, _, _] C hM v_X8_writeLog vv_X8_writeLog s_RL_306 eL_law_2671 (fun _ _ h => WF_pick [14, 15, 22, 0, 1, 2, 3, 4, 5, 6, 7, 8, 9, 10, 11, 12, 13, 16, 17, 18, 19, 20, 21, 23, 24] rfl rfl h) (rcv 14 rfl) rfl (nle rfl) (nle rfl) (by omega) (by omega) rfl ?_
  refine x_icmp_same 2791 C eL_law_2674 rfl ?_
  refine x_pick [_, _, _, _, _, _, _, _, _, _, _, _, _, _, _, _, _, _, _, _, _, _, _, _, _] [3, 4, 5, 6, 7, 10, 11, 12, 13, 8, 9, 14, 15, 16, 0, 1, 17, 18, 19, 20, 21, 22, 2, 23, 24] rfl rfl ?_
  exact x_wide (by omega) (by omega) (K9 (hI.wr (by omega) ((by have := logS_len3 hI.hN.1 (min 20 (n (-1) 7)).toNat (by omega); omega)) (logS_r hI.hN.1 _ (by omega)) (up_s _ _ _) ((up_n (by decide)).trans (up_n (by decide))) ((up_n (by decide)).trans (up_n (by decide))) ((up_n (by decide)).trans (up_n (by decide))) ((up_n (by decide)).trans (up_n (by decide))) ((up_n (by decide)).trans (up_n (by decide)))))

set_option maxHeartbeats 4000000 in
set_option maxRecDepth 100000 in
theorem lc_47_0 {G : Gm} {X : Cx} {l : Launch} {x : LFx} {k nn : Nat} {i b : Int} {J : Nat → Int} {M : Pool} {n : Net} {N K : Nat → Net} {Fu Fb : Nat → Int} {w : List Int} {z : Int} {I TL TB : Nat → Int} {N9 : Nat → Net} {f : Nat → Int64} {fD : Nat → UInt64} {a1 : Int} (H : LKn G l x) {nmL : String} (hC : OKc G X l RL nmL cL_law 9 (some .boolean) 1400 600000 6200000) (hI : INV b J M n N K Fu Fb w z I) (hb : b ≤ 15000000) (hk : k + 100 ≤ 600000) (hn : nn + 2200 ≤ 6200000) (hi : 0 ≤ i ∧ i + 6 ≤ (x.L : Int)) (ha1 : (x.xs (i + 1).toNat).toInt = a1) (hl : 0 ≤ a1 ∧ a1 < n (-1) 0) (K9 : LCont G X x (b + 8000) (k + 100) (nn + 2200) i) : WX G X k nn (LAT G x J M n N K Fu Fb w z I TL TB N9 f fD) 2679 (LLV x i) [] := by
  have C := hC
  have hK : KG G := H.hX.1.1.1
  have hH := hI.hN.1.1
  unfold HeadOk at hH
  have r1 : -2147483648 ≤ a1 ∧ a1 < 2147483648 := by rw [← ha1]; exact bI_toInt _
  refine x_aload_n C eL_law_2679 rfl ?_
  refine x_argA C H.hx H.hbl H.hL eL_law_2680 eL_law_2681 eL_law_2683 eL_law_2684 eL_law_2685 rfl rfl (by omega) ha1 ?_
  refine x_aload_n C eL_law_2686 rfl ?_
  refine x_callSW (As := [_, _, _]) [_, _, _, _, _, _, _, _, _, _, _, _, _, _, _, _, _] C (wn_writeCounts hK (s_X7_writeCounts hK hI.hN.1 (by omega) (by omega)) (rcv 0 rfl)) cw_writeCounts s_RL_307 eL_law_2687 rfl (fun _ _ h => WF_pick [0, 1, 2, 3, 4, 9, 10, 23, 5, 6, 7, 8, 11, 12, 13, 14, 15, 16, 17, 18, 19, 20, 21, 22, 24] rfl rfl h) rfl (nle rfl) (nle rfl) (by omega) (by omega) (fun _ _ => ?_)
  refine x_pick [_, _, _, _, _, _, _, _, _, _, _, _, _, _, _, _, _, _, _, _, _, _, _, _, _] [0, 1, 2, 3, 4, 5, 6, 7, 8, 9, 10, 11, 12, 13, 14, 15, 16, 17, 18, 19, 20, 21, 22, 23, 24] rfl rfl ?_
  refine x_istore [_, _, _, _, _, _, _, _, _] C eL_law_2690 rfl rfl (nlt rfl) ?_
  refine x_aload_n C eL_law_2692 rfl ?_
  refine x_argA C H.hx H.hbl H.hL eL_law_2693 eL_law_2694 eL_law_2696 eL_law_2697 eL_law_2698 rfl rfl (by omega) ha1 ?_
  have c1 : 0 ≤ a1 ∧ a1 ≤ n (-1) 0 - 1 := by first | trivial | omega | (simp only [if_true, if_false]; omega)
  have c2 : True := by first | trivial | omega | (simp only [if_true, if_false]; omega)
  have c3 : True := by first | trivial | omega | (simp only [if_true, if_false]; omega)
  have hM := s_X8_writeCounts (G := G) (l := l) (o := x.o) (A := x.A) (I := I) (N := N9) (n := n) (b := b) (l9 := a1) (w := w) hK hI.hN.1 (by omega) (by omega)
  simp only [if_pos (show (0 ≤ a1 ∧ a1 ≤ n (-1) 0 - 1) ∧ (True) ∧ (True) from ⟨c1, c2, c3⟩), thr_0 c1 c2 c3] at hM
  refine yV1r [_, _, _, _, _, _, _, _, _, _, _, _, _, _, _, _, _, _, _, _, _, _] [_, _, _, _, _, _, _, _, _, _, _, _, _, _, _, _, _, _, _, _, _, _, _, _, _] C hM v_X8_writeCounts vv_X8_writeCounts s_RL_309 eL_law_2699 (fun _ _ h => WF_pick [15, 16, 23, 0, 1, 2, 3, 4, 5, 6, 7, 8, 9, 10, 11, 12, 13, 14, 17, 18, 19, 20, 21, 22, 24] rfl rfl h) (rcv 15 rfl) rfl (nle rfl) (nle rfl) (by omega) (by omega) rfl ?_
  refine x_istore [_, _, _, _, _, _, _, _, _] C eL_law_2702 rfl rfl (nlt rfl) ?_
  refine x_aload_n C eL_law_2704 rfl ?_
  refine yV0r [_, _, _, _, _, _, _, _, _, _, _, _, _, _, _, _, _, _, _, _, _, _, _, _] [_, _, _, _, _, _, _, _, _, _, _, _, _, _, _, _, _, _, _, _, _, _, _, _, _] C (s_X8_thrown hK) v_X8_thrown vv_X8_thrown s_RL_145 eL_law_2705 (fun _ _ h => WF_pick [0, 1, 2, 3, 4, 5, 6, 7, 8, 9, 10, 11, 12, 13, 14, 15, 16, 17, 18, 19, 20, 21, 22, 23, 24] rfl rfl h) (rcv 0 rfl) rfl (nle rfl) (nle rfl) (by omega) (by omega) rfl ?_
  refine x_iload C eL_law_2708 rfl ?_
  refine x_icmp_val (by first | exact up_s _ _ _ | exact (up_n (by decide)).trans (up_s _ _ _)) 2715 C eL_law_2710 rfl ?_
  refine x_iload C eL_law_2715 rfl ?_
  refine x_if_ne 2732 C eL_law_2717 rfl (by omega) (fun h => absurd rfl h) (fun _ => ?_)
  refine x_aload_n C eL_law_2720 rfl ?_
  refine x_iconst C eL_law_2721 ?_
  refine x_lald (N := 1) 10 C eL_law_2722 rfl (by decide) (by omega) ?_
  refine x_iload C eL_law_2723 rfl ?_
  refine x_i2lR C eL_law_2725 ?_
  refine x_lcmp_same 2732 (by first | exact if_pos rfl | (rw [if_pos rfl]; rfl) | decide) C eL_law_2726 eL_law_2727 rfl ?_
  refine x_goto (pc' := 2791) C eL_law_2732 rfl ?_
  refine x_pick [_, _, _, _, _, _, _, _, _, _, _, _, _, _, _, _, _, _, _, _, _, _, _, _, _] [3, 4, 5, 6, 7, 11, 12, 13, 14, 8, 9, 15, 16, 17, 0, 1, 18, 19, 20, 21, 22, 23, 2, 10, 24] rfl rfl ?_
  refine x_lv [_, _, _, _, _, _, none, none, _] rfl (lx_drop _ [6, 7] rfl) ?_
  exact x_wide (by omega) (by omega) (K9 (hI.wr (by omega) ((by have := cntS_len (n := n) (l := a1) (b := b) (fun k u v => LineOk_c (hI.hN.1.2.2 a1 hl.1 hl.2) u v) (by omega) 8 (by omega); omega)) (cntS_r hI.hN.1 hl _ (by decide)) (up_s _ _ _) ((up_n (by decide)).trans (up_n (by decide))) ((up_n (by decide)).trans (up_n (by decide))) ((up_n (by decide)).trans (up_n (by decide))) ((up_n (by decide)).trans (up_n (by decide))) ((up_n (by decide)).trans (up_n (by decide)))))

set_option maxHeartbeats 4000000 in
set_option maxRecDepth 100000 in
theorem lc_47_1 {G : Gm} {X : Cx} {l : Launch} {x : LFx} {k nn : Nat} {i b : Int} {J : Nat → Int} {M : Pool} {n : Net} {N K : Nat → Net} {Fu Fb : Nat → Int} {w : List Int} {z : Int} {I TL TB : Nat → Int} {N9 : Nat → Net} {f : Nat → Int64} {fD : Nat → UInt64} {a1 : Int} (H : LKn G l x) {nmL : String} (hC : OKc G X l RL nmL cL_law 9 (some .boolean) 1400 600000 6200000) (hI : INV b J M n N K Fu Fb w z I) (hb : b ≤ 15000000) (hk : k + 100 ≤ 600000) (hn : nn + 2200 ≤ 6200000) (hi : 0 ≤ i ∧ i + 6 ≤ (x.L : Int)) (ha1 : (x.xs (i + 1).toNat).toInt = a1) (hl : ¬ (0 ≤ a1 ∧ a1 < n (-1) 0)) (K9 : LCont G X x (b + 8000) (k + 100) (nn + 2200) i) : WX G X k nn (LAT G x J M n N K Fu Fb w z I TL TB N9 f fD) 2679 (LLV x i) [] := by
  have C := hC
  have hK : KG G := H.hX.1.1.1
  have hH := hI.hN.1.1
  unfold HeadOk at hH
  have r1 : -2147483648 ≤ a1 ∧ a1 < 2147483648 := by rw [← ha1]; exact bI_toInt _
  refine x_aload_n C eL_law_2679 rfl ?_
  refine x_argA C H.hx H.hbl H.hL eL_law_2680 eL_law_2681 eL_law_2683 eL_law_2684 eL_law_2685 rfl rfl (by omega) ha1 ?_
  refine x_aload_n C eL_law_2686 rfl ?_
  refine x_callSW (As := [_, _, _]) [_, _, _, _, _, _, _, _, _, _, _, _, _, _, _, _, _, _, _, _, _, _] C (wx_writeCounts_1 hK (t_X7_writeCounts_2 H.hX H.hT0 (by omega) (by omega) (by omega)) (xwd_c (i := 0) H.hX rfl) (rcv 0 rfl)) cw_writeCounts s_RL_307 eL_law_2687 rfl (fun _ _ h => WF_pick [0, 1, 23, 2, 3, 4, 5, 6, 7, 8, 9, 10, 11, 12, 13, 14, 15, 16, 17, 18, 19, 20, 21, 22, 24] rfl rfl h) rfl (nle rfl) (nle rfl) (by omega) (by omega) (fun _ _ => ?_)
  refine x_pick [_, _, _, _, _, _, _, _, _, _, _, _, _, _, _, _, _, _, _, _, _, _, _, _, _] [0, 1, 2, 3, 4, 5, 6, 7, 8, 9, 10, 11, 12, 13, 14, 15, 16, 17, 18, 19, 20, 21, 22, 23, 24] rfl rfl ?_
  refine x_istore [_, _, _, _, _, _, _, _, _] C eL_law_2690 rfl rfl (nlt rfl) ?_
  refine x_aload_n C eL_law_2692 rfl ?_
  refine x_argA C H.hx H.hbl H.hL eL_law_2693 eL_law_2694 eL_law_2696 eL_law_2697 eL_law_2698 rfl rfl (by omega) ha1 ?_
  have c1 : ¬ (0 ≤ a1 ∧ a1 ≤ n (-1) 0 - 1) := by first | omega | (simp only [if_true, if_false]; omega)
  have hM := s_X8_writeCounts (G := G) (l := l) (o := x.o) (A := x.A) (I := I) (N := N9) (n := n) (b := b) (l9 := a1) (w := w) hK hI.hN.1 (by omega) (by omega)
  simp only [if_neg (show ¬ ((0 ≤ a1 ∧ a1 ≤ n (-1) 0 - 1) ∧ (True) ∧ (True)) from fun q => c1 q.1), thr_1 c1] at hM
  refine yV1r [_, _, _, _, _, _, _, _, _, _, _, _, _, _, _, _, _, _, _, _, _, _] [_, _, _, _, _, _, _, _, _, _, _, _, _, _, _, _, _, _, _, _, _, _, _, _, _] C hM v_X8_writeCounts vv_X8_writeCounts s_RL_309 eL_law_2699 (fun _ _ h => WF_pick [15, 16, 23, 0, 1, 2, 3, 4, 5, 6, 7, 8, 9, 10, 11, 12, 13, 14, 17, 18, 19, 20, 21, 22, 24] rfl rfl h) (rcv 15 rfl) rfl (nle rfl) (nle rfl) (by omega) (by omega) rfl ?_
  refine x_istore [_, _, _, _, _, _, _, _, _] C eL_law_2702 rfl rfl (nlt rfl) ?_
  refine x_aload_n C eL_law_2704 rfl ?_
  refine yV0r [_, _, _, _, _, _, _, _, _, _, _, _, _, _, _, _, _, _, _, _, _, _, _, _] [_, _, _, _, _, _, _, _, _, _, _, _, _, _, _, _, _, _, _, _, _, _, _, _, _] C (s_X8_thrown hK) v_X8_thrown vv_X8_thrown s_RL_145 eL_law_2705 (fun _ _ h => WF_pick [0, 1, 2, 3, 4, 5, 6, 7, 8, 9, 10, 11, 12, 13, 14, 15, 16, 17, 18, 19, 20, 21, 22, 23, 24] rfl rfl h) (rcv 0 rfl) rfl (nle rfl) (nle rfl) (by omega) (by omega) rfl ?_
  refine x_iload C eL_law_2708 rfl ?_
  refine x_icmp_val (by first | exact up_s _ _ _ | exact (up_n (by decide)).trans (up_s _ _ _)) 2715 C eL_law_2710 rfl ?_
  refine x_iload C eL_law_2715 rfl ?_
  refine x_if_ne 2732 C eL_law_2717 rfl (by omega) (fun _ => ?_) (fun h => absurd h (by decide))
  refine x_goto (pc' := 2791) C eL_law_2732 rfl ?_
  refine x_pick [_, _, _, _, _, _, _, _, _, _, _, _, _, _, _, _, _, _, _, _, _, _, _, _, _] [3, 4, 6, 7, 8, 9, 10, 11, 12, 13, 14, 15, 16, 17, 0, 1, 18, 19, 20, 21, 22, 23, 2, 5, 24] rfl rfl ?_
  refine x_lv [_, _, _, _, _, _, none, none, _] rfl (lx_drop _ [6, 7] rfl) ?_
  exact x_wide (by omega) (by omega) (K9 (hI.qI (by omega) (up_n (by decide)) (up_n (by decide)) (up_n (by decide)) (up_n (by decide)) (up_n (by decide)) (up_n (by decide))))

set_option maxHeartbeats 4000000 in
set_option maxRecDepth 100000 in
theorem lc_25_0 {G : Gm} {X : Cx} {l : Launch} {x : LFx} {k nn : Nat} {i b : Int} {J : Nat → Int} {M : Pool} {n : Net} {N K : Nat → Net} {Fu Fb : Nat → Int} {w : List Int} {z : Int} {I TL TB : Nat → Int} {N9 : Nat → Net} {f : Nat → Int64} {fD : Nat → UInt64} {a1 : Int} (H : LKn G l x) {nmL : String} (hC : OKc G X l RL nmL cL_law 9 (some .boolean) 1400 600000 6200000) (hI : INV b J M n N K Fu Fb w z I) (hb : b ≤ 15000000) (hk : k + 100 ≤ 600000) (hn : nn + 2200 ≤ 6200000) (hi : 0 ≤ i ∧ i + 6 ≤ (x.L : Int)) (ha1 : (x.xs (i + 1).toNat).toInt = a1) (hl : 0 ≤ a1 ∧ a1 < n (-1) 0) (K9 : LCont G X x (b + 8000) (k + 100) (nn + 2200) i) : WX G X k nn (LAT G x J M n N K Fu Fb w z I TL TB N9 f fD) 1464 (LLV x i) [] := by
  have C := hC
  have hK : KG G := H.hX.1.1.1
  have hH := hI.hN.1.1
  unfold HeadOk at hH
  have r1 : -2147483648 ≤ a1 ∧ a1 < 2147483648 := by rw [← ha1]; exact bI_toInt _
  obtain ⟨hne, hq⟩ := shA_ok H.hFP hI.hN.1 (by omega) hl
  refine x_aload_n C eL_law_1464 rfl ?_
  refine x_argA C H.hx H.hbl H.hL eL_law_1465 eL_law_1466 eL_law_1468 eL_law_1469 eL_law_1470 rfl rfl (by omega) ha1 ?_
  refine x_aload C eL_law_1471 rfl ?_
  refine x_callSW (As := [_, _, _]) [_, _, _, _, _, _, _, _, _, _, _, _, _, _, _, _, _, _, _] C (wn_share hK hne (s_X7_share hK hI.hN.1 (by omega) hl H.hFP) (rcv 0 rfl)) cw_share s_RL_232 eL_law_1473 rfl (fun _ _ h => WF_pick [0, 1, 2, 3, 4, 24, 5, 6, 7, 8, 9, 10, 11, 12, 13, 14, 15, 16, 17, 18, 19, 20, 21, 22, 23] rfl rfl h) rfl (nle rfl) (nle rfl) (by omega) (by omega) (fun _ _ => ?_)
  refine x_pick [_, _, _, _, _, _, _, _, _, _, _, _, _, _, _, _, _, _, _, _, _, _, _, _, _] [0, 1, 2, 3, 4, 5, 6, 7, 8, 9, 10, 11, 12, 13, 14, 15, 16, 17, 18, 19, 20, 21, 22, 23, 24] rfl rfl ?_
  refine x_istore [_, _, _, _, _, _, _, _, _] C eL_law_1476 rfl rfl (nlt rfl) ?_
  refine x_aload_n C eL_law_1478 rfl ?_
  refine x_argA C H.hx H.hbl H.hL eL_law_1479 eL_law_1480 eL_law_1482 eL_law_1483 eL_law_1484 rfl rfl (by omega) ha1 ?_
  have c1 : 0 ≤ a1 ∧ a1 ≤ n (-1) 0 - 1 := by first | trivial | omega | (simp only [if_true, if_false]; omega)
  have c2 : True := by first | trivial | omega | (simp only [if_true, if_false]; omega)
  have c3 : True := by first | trivial | omega | (simp only [if_true, if_false]; omega)
  have hM := s_X8_share (G := G) (l := l) (o := x.o) (A := x.A) (I := I) (N := N9) (n := n) (b := b) (l9 := a1) hK hI.hN.1 (by omega) (by omega) H.hFP
  simp only [if_pos (show (0 ≤ a1 ∧ a1 ≤ n (-1) 0 - 1) ∧ (True) ∧ (True) from ⟨c1, c2, c3⟩), thr_0 c1 c2 c3] at hM
  refine yV1r [_, _, _, _, _, _, _, _, _, _, _, _, _, _, _, _, _, _, _, _, _, _, _] [_, _, _, _, _, _, _, _, _, _, _, _, _, _, _, _, _, _, _, _, _, _, _, _, _] C hM v_X8_share vv_X8_share s_RL_235 eL_law_1485 (fun _ _ h => WF_pick [15, 16, 0, 1, 2, 3, 4, 5, 6, 7, 8, 9, 10, 11, 12, 13, 14, 17, 18, 19, 20, 21, 22, 23, 24] rfl rfl h) (rcv 15 rfl) rfl (nle rfl) (nle rfl) (by omega) (by omega) rfl ?_
  refine x_fstore [_, _, _, _, _, _, _, _, _] C eL_law_1488 rfl rfl (nlt rfl) ?_
  refine x_aload_n C eL_law_1490 rfl ?_
  refine yV0r [_, _, _, _, _, _, _, _, _, _, _, _, _, _, _, _, _, _, _, _, _, _, _, _] [_, _, _, _, _, _, _, _, _, _, _, _, _, _, _, _, _, _, _, _, _, _, _, _, _] C (s_X8_thrown hK) v_X8_thrown vv_X8_thrown s_RL_145 eL_law_1491 (fun _ _ h => WF_pick [0, 1, 2, 3, 4, 5, 6, 7, 8, 9, 10, 11, 12, 13, 14, 15, 16, 17, 18, 19, 20, 21, 22, 23, 24] rfl rfl h) (rcv 0 rfl) rfl (nle rfl) (nle rfl) (by omega) (by omega) rfl ?_
  refine x_iload C eL_law_1494 rfl ?_
  refine x_icmp_val (by first | exact up_s _ _ _ | exact (up_n (by decide)).trans (up_s _ _ _)) 1501 C eL_law_1496 rfl ?_
  refine x_iload C eL_law_1501 rfl ?_
  refine x_if_ne 1539 C eL_law_1503 rfl (by omega) (fun h => absurd rfl h) (fun _ => ?_)
  refine x_aload C eL_law_1506 rfl ?_
  refine x_iconst C eL_law_1508 ?_
  refine x_dald (N := 1) 7 C eL_law_1509 rfl (by decide) (by omega) ?_
  refine x_fload C eL_law_1510 rfl ?_
  refine x_f2d C eL_law_1512 hne ?_
  refine x_dcmp_same 1539 (if_pos rfl) hq C eL_law_1513 eL_law_1514 rfl ?_
  refine x_goto (pc' := 2791) C eL_law_1539 rfl ?_
  refine x_pick [_, _, _, _, _, _, _, _, _, _, _, _, _, _, _, _, _, _, _, _, _, _, _, _, _] [2, 3, 4, 5, 6, 8, 9, 10, 11, 12, 13, 14, 15, 16, 0, 1, 17, 18, 19, 20, 21, 22, 23, 24, 7] rfl rfl ?_
  refine x_lv [_, _, _, _, _, _, none, none, _] rfl (lx_drop _ [6, 7] rfl) ?_
  exact x_wide (by omega) (by omega) (K9 (hI.qI (by omega) (up_n (by decide)) (up_n (by decide)) (up_n (by decide)) (up_n (by decide)) (up_n (by decide)) (up_n (by decide))))

set_option maxHeartbeats 4000000 in
set_option maxRecDepth 100000 in
theorem lc_25_1 {G : Gm} {X : Cx} {l : Launch} {x : LFx} {k nn : Nat} {i b : Int} {J : Nat → Int} {M : Pool} {n : Net} {N K : Nat → Net} {Fu Fb : Nat → Int} {w : List Int} {z : Int} {I TL TB : Nat → Int} {N9 : Nat → Net} {f : Nat → Int64} {fD : Nat → UInt64} {a1 : Int} (H : LKn G l x) {nmL : String} (hC : OKc G X l RL nmL cL_law 9 (some .boolean) 1400 600000 6200000) (hI : INV b J M n N K Fu Fb w z I) (hb : b ≤ 15000000) (hk : k + 100 ≤ 600000) (hn : nn + 2200 ≤ 6200000) (hi : 0 ≤ i ∧ i + 6 ≤ (x.L : Int)) (ha1 : (x.xs (i + 1).toNat).toInt = a1) (hl : ¬ (0 ≤ a1 ∧ a1 < n (-1) 0)) (K9 : LCont G X x (b + 8000) (k + 100) (nn + 2200) i) : WX G X k nn (LAT G x J M n N K Fu Fb w z I TL TB N9 f fD) 1464 (LLV x i) [] := by
  have C := hC
  have hK : KG G := H.hX.1.1.1
  have hH := hI.hN.1.1
  unfold HeadOk at hH
  have r1 : -2147483648 ≤ a1 ∧ a1 < 2147483648 := by rw [← ha1]; exact bI_toInt _
  refine x_aload_n C eL_law_1464 rfl ?_
  refine x_argA C H.hx H.hbl H.hL eL_law_1465 eL_law_1466 eL_law_1468 eL_law_1469 eL_law_1470 rfl rfl (by omega) ha1 ?_
  refine x_aload C eL_law_1471 rfl ?_
  refine x_callSW (As := [_, _, _]) [_, _, _, _, _, _, _, _, _, _, _, _, _, _, _, _, _, _, _, _, _, _] C (wx_share_1 hK (t_X7_share_2 H.hX H.hT0 (by omega) (by omega) (by omega)) (xwd_c (i := 0) H.hX rfl) (rcv 0 rfl)) cw_share s_RL_232 eL_law_1473 rfl (fun _ _ h => WF_pick [0, 1, 24, 2, 3, 4, 5, 6, 7, 8, 9, 10, 11, 12, 13, 14, 15, 16, 17, 18, 19, 20, 21, 22, 23] rfl rfl h) rfl (nle rfl) (nle rfl) (by omega) (by omega) (fun _ _ => ?_)
  refine x_pick [_, _, _, _, _, _, _, _, _, _, _, _, _, _, _, _, _, _, _, _, _, _, _, _, _] [0, 1, 2, 3, 4, 5, 6, 7, 8, 9, 10, 11, 12, 13, 14, 15, 16, 17, 18, 19, 20, 21, 22, 23, 24] rfl rfl ?_
  refine x_istore [_, _, _, _, _, _, _, _, _] C eL_law_1476 rfl rfl (nlt rfl) ?_
  refine x_aload_n C eL_law_1478 rfl ?_
  refine x_argA C H.hx H.hbl H.hL eL_law_1479 eL_law_1480 eL_law_1482 eL_law_1483 eL_law_1484 rfl rfl (by omega) ha1 ?_
  have c1 : ¬ (0 ≤ a1 ∧ a1 ≤ n (-1) 0 - 1) := by first | omega | (simp only [if_true, if_false]; omega)
  have hM := s_X8_share (G := G) (l := l) (o := x.o) (A := x.A) (I := I) (N := N9) (n := n) (b := b) (l9 := a1) hK hI.hN.1 (by omega) (by omega) H.hFP
  simp only [if_neg (show ¬ ((0 ≤ a1 ∧ a1 ≤ n (-1) 0 - 1) ∧ (True) ∧ (True)) from fun q => c1 q.1), thr_1 c1] at hM
  refine yV1r [_, _, _, _, _, _, _, _, _, _, _, _, _, _, _, _, _, _, _, _, _, _, _] [_, _, _, _, _, _, _, _, _, _, _, _, _, _, _, _, _, _, _, _, _, _, _, _, _] C hM v_X8_share vv_X8_share s_RL_235 eL_law_1485 (fun _ _ h => WF_pick [15, 16, 0, 1, 2, 3, 4, 5, 6, 7, 8, 9, 10, 11, 12, 13, 14, 17, 18, 19, 20, 21, 22, 23, 24] rfl rfl h) (rcv 15 rfl) rfl (nle rfl) (nle rfl) (by omega) (by omega) rfl ?_
  refine x_fstore [_, _, _, _, _, _, _, _, _] C eL_law_1488 rfl rfl (nlt rfl) ?_
  refine x_aload_n C eL_law_1490 rfl ?_
  refine yV0r [_, _, _, _, _, _, _, _, _, _, _, _, _, _, _, _, _, _, _, _, _, _, _, _] [_, _, _, _, _, _, _, _, _, _, _, _, _, _, _, _, _, _, _, _, _, _, _, _, _] C (s_X8_thrown hK) v_X8_thrown vv_X8_thrown s_RL_145 eL_law_1491 (fun _ _ h => WF_pick [0, 1, 2, 3, 4, 5, 6, 7, 8, 9, 10, 11, 12, 13, 14, 15, 16, 17, 18, 19, 20, 21, 22, 23, 24] rfl rfl h) (rcv 0 rfl) rfl (nle rfl) (nle rfl) (by omega) (by omega) rfl ?_
  refine x_iload C eL_law_1494 rfl ?_
  refine x_icmp_val (by first | exact up_s _ _ _ | exact (up_n (by decide)).trans (up_s _ _ _)) 1501 C eL_law_1496 rfl ?_
  refine x_iload C eL_law_1501 rfl ?_
  refine x_if_ne 1539 C eL_law_1503 rfl (by omega) (fun _ => ?_) (fun h => absurd h (by decide))
  refine x_goto (pc' := 2791) C eL_law_1539 rfl ?_
  refine x_pick [_, _, _, _, _, _, _, _, _, _, _, _, _, _, _, _, _, _, _, _, _, _, _, _, _] [2, 3, 5, 6, 7, 8, 9, 10, 11, 12, 13, 14, 15, 16, 0, 1, 17, 18, 19, 20, 21, 22, 23, 24, 4] rfl rfl ?_
  refine x_lv [_, _, _, _, _, _, none, none, _] rfl (lx_drop _ [6, 7] rfl) ?_
  exact x_wide (by omega) (by omega) (K9 (hI.qI (by omega) (up_n (by decide)) (up_n (by decide)) (up_n (by decide)) (up_n (by decide)) (up_n (by decide)) (up_n (by decide))))

set_option maxHeartbeats 4000000 in
set_option maxRecDepth 100000 in
theorem lc_26_0 {G : Gm} {X : Cx} {l : Launch} {x : LFx} {k nn : Nat} {i b : Int} {J : Nat → Int} {M : Pool} {n : Net} {N K : Nat → Net} {Fu Fb : Nat → Int} {w : List Int} {z : Int} {I TL TB : Nat → Int} {N9 : Nat → Net} {f : Nat → Int64} {fD : Nat → UInt64} {a1 : Int} (H : LKn G l x) {nmL : String} (hC : OKc G X l RL nmL cL_law 9 (some .boolean) 1400 600000 6200000) (hI : INV b J M n N K Fu Fb w z I) (hb : b ≤ 15000000) (hk : k + 100 ≤ 600000) (hn : nn + 2200 ≤ 6200000) (hi : 0 ≤ i ∧ i + 6 ≤ (x.L : Int)) (ha1 : (x.xs (i + 1).toNat).toInt = a1) (hl : 0 ≤ a1 ∧ a1 < n (-1) 0) (K9 : LCont G X x (b + 8000) (k + 100) (nn + 2200) i) : WX G X k nn (LAT G x J M n N K Fu Fb w z I TL TB N9 f fD) 1542 (LLV x i) [] := by
  have C := hC
  have hK : KG G := H.hX.1.1.1
  have hH := hI.hN.1.1
  unfold HeadOk at hH
  have r1 : -2147483648 ≤ a1 ∧ a1 < 2147483648 := by rw [← ha1]; exact bI_toInt _
  have hq := mwA_ok H.hFP hI.hN.1 (by omega) hl
  refine x_aload_n C eL_law_1542 rfl ?_
  refine x_argA C H.hx H.hbl H.hL eL_law_1543 eL_law_1544 eL_law_1546 eL_law_1547 eL_law_1548 rfl rfl (by omega) ha1 ?_
  refine x_aload C eL_law_1549 rfl ?_
  refine x_callSW (As := [_, _, _]) [_, _, _, _, _, _, _, _, _, _, _, _, _, _, _, _, _, _, _] C (wn_meanWait hK (s_X7_meanWait hK hI.hN.1 (by omega) (by omega) H.hFP) (rcv 0 rfl)) cw_meanWait s_RL_236 eL_law_1551 rfl (fun _ _ h => WF_pick [0, 1, 2, 3, 4, 24, 5, 6, 7, 8, 9, 10, 11, 12, 13, 14, 15, 16, 17, 18, 19, 20, 21, 22, 23] rfl rfl h) rfl (nle rfl) (nle rfl) (by omega) (by omega) (fun _ _ => ?_)
  refine x_pick [_, _, _, _, _, _, _, _, _, _, _, _, _, _, _, _, _, _, _, _, _, _, _, _, _] [0, 1, 2, 3, 4, 5, 6, 7, 8, 9, 10, 11, 12, 13, 14, 15, 16, 17, 18, 19, 20, 21, 22, 23, 24] rfl rfl ?_
  refine x_istore [_, _, _, _, _, _, _, _, _] C eL_law_1554 rfl rfl (nlt rfl) ?_
  refine x_aload_n C eL_law_1556 rfl ?_
  refine x_argA C H.hx H.hbl H.hL eL_law_1557 eL_law_1558 eL_law_1560 eL_law_1561 eL_law_1562 rfl rfl (by omega) ha1 ?_
  have c1 : 0 ≤ a1 ∧ a1 ≤ n (-1) 0 - 1 := by first | trivial | omega | (simp only [if_true, if_false]; omega)
  have c2 : True := by first | trivial | omega | (simp only [if_true, if_false]; omega)
  have c3 : True := by first | trivial | omega | (simp only [if_true, if_false]; omega)
  have hM := s_X8_meanWait (G := G) (l := l) (o := x.o) (A := x.A) (I := I) (N := N9) (n := n) (b := b) (l9 := a1) hK hI.hN.1 (by omega) (by omega) H.hFP
  simp only [if_pos (show (0 ≤ a1 ∧ a1 ≤ n (-1) 0 - 1) ∧ (True) ∧ (True) from ⟨c1, c2, c3⟩), thr_0 c1 c2 c3] at hM
  refine yV1r [_, _, _, _, _, _, _, _, _, _, _, _, _, _, _, _, _, _, _, _, _, _, _] [_, _, _, _, _, _, _, _, _, _, _, _, _, _, _, _, _, _, _, _, _, _, _, _, _] C hM v_X8_meanWait vv_X8_meanWait s_RL_238 eL_law_1563 (fun _ _ h => WF_pick [15, 16, 0, 1, 2, 3, 4, 5, 6, 7, 8, 9, 10, 11, 12, 13, 14, 17, 18, 19, 20, 21, 22, 23, 24] rfl rfl h) (rcv 15 rfl) rfl (nle rfl) (nle rfl) (by omega) (by omega) rfl ?_
  refine x_dstore [_, _, _, _, _, _, _, _, _] C eL_law_1566 rfl rfl (nlt rfl) ?_
  refine x_aload_n C eL_law_1568 rfl ?_
  refine yV0r [_, _, _, _, _, _, _, _, _, _, _, _, _, _, _, _, _, _, _, _, _, _, _, _] [_, _, _, _, _, _, _, _, _, _, _, _, _, _, _, _, _, _, _, _, _, _, _, _, _] C (s_X8_thrown hK) v_X8_thrown vv_X8_thrown s_RL_145 eL_law_1569 (fun _ _ h => WF_pick [0, 1, 2, 3, 4, 5, 6, 7, 8, 9, 10, 11, 12, 13, 14, 15, 16, 17, 18, 19, 20, 21, 22, 23, 24] rfl rfl h) (rcv 0 rfl) rfl (nle rfl) (nle rfl) (by omega) (by omega) rfl ?_
  refine x_iload C eL_law_1572 rfl ?_
  refine x_icmp_val (by first | exact up_s _ _ _ | exact (up_n (by decide)).trans (up_s _ _ _)) 1579 C eL_law_1574 rfl ?_
  refine x_iload C eL_law_1579 rfl ?_
  refine x_if_ne 1616 C eL_law_1581 rfl (by omega) (fun h => absurd rfl h) (fun _ => ?_)
  refine x_aload C eL_law_1584 rfl ?_
  refine x_iconst C eL_law_1586 ?_
  refine x_dald (N := 1) 7 C eL_law_1587 rfl (by decide) (by omega) ?_
  refine x_dload C eL_law_1588 rfl ?_
  refine x_dcmp_same 1616 (if_pos rfl) hq C eL_law_1590 eL_law_1591 rfl ?_
  refine x_goto (pc' := 2791) C eL_law_1616 rfl ?_
  refine x_pick [_, _, _, _, _, _, _, _, _, _, _, _, _, _, _, _, _, _, _, _, _, _, _, _, _] [2, 3, 4, 5, 6, 8, 9, 10, 11, 12, 13, 14, 15, 16, 0, 1, 17, 18, 19, 20, 21, 22, 23, 24, 7] rfl rfl ?_
  refine x_lv [_, _, _, _, _, _, none, none, _] rfl (lx_drop _ [6, 7] rfl) ?_
  exact x_wide (by omega) (by omega) (K9 (hI.qI (by omega) (up_n (by decide)) (up_n (by decide)) (up_n (by decide)) (up_n (by decide)) (up_n (by decide)) (up_n (by decide))))

set_option maxHeartbeats 4000000 in
set_option maxRecDepth 100000 in
theorem lc_26_1 {G : Gm} {X : Cx} {l : Launch} {x : LFx} {k nn : Nat} {i b : Int} {J : Nat → Int} {M : Pool} {n : Net} {N K : Nat → Net} {Fu Fb : Nat → Int} {w : List Int} {z : Int} {I TL TB : Nat → Int} {N9 : Nat → Net} {f : Nat → Int64} {fD : Nat → UInt64} {a1 : Int} (H : LKn G l x) {nmL : String} (hC : OKc G X l RL nmL cL_law 9 (some .boolean) 1400 600000 6200000) (hI : INV b J M n N K Fu Fb w z I) (hb : b ≤ 15000000) (hk : k + 100 ≤ 600000) (hn : nn + 2200 ≤ 6200000) (hi : 0 ≤ i ∧ i + 6 ≤ (x.L : Int)) (ha1 : (x.xs (i + 1).toNat).toInt = a1) (hl : ¬ (0 ≤ a1 ∧ a1 < n (-1) 0)) (K9 : LCont G X x (b + 8000) (k + 100) (nn + 2200) i) : WX G X k nn (LAT G x J M n N K Fu Fb w z I TL TB N9 f fD) 1542 (LLV x i) [] := by
  have C := hC
  have hK : KG G := H.hX.1.1.1
  have hH := hI.hN.1.1
  unfold HeadOk at hH
  have r1 : -2147483648 ≤ a1 ∧ a1 < 2147483648 := by rw [← ha1]; exact bI_toInt _
  refine x_aload_n C eL_law_1542 rfl ?_
  refine x_argA C H.hx H.hbl H.hL eL_law_1543 eL_law_1544 eL_law_1546 eL_law_1547 eL_law_1548 rfl rfl (by omega) ha1 ?_
  refine x_aload C eL_law_1549 rfl ?_
  refine x_callSW (As := [_, _, _]) [_, _, _, _, _, _, _, _, _, _, _, _, _, _, _, _, _, _, _, _, _, _] C (wx_meanWait_1 hK (t_X7_meanWait_2 H.hX H.hT0 (by omega) (by omega) (by omega)) (xwd_c (i := 0) H.hX rfl) (rcv 0 rfl)) cw_meanWait s_RL_236 eL_law_1551 rfl (fun _ _ h => WF_pick [0, 1, 24, 2, 3, 4, 5, 6, 7, 8, 9, 10, 11, 12, 13, 14, 15, 16, 17, 18, 19, 20, 21, 22, 23] rfl rfl h) rfl (nle rfl) (nle rfl) (by omega) (by omega) (fun _ _ => ?_)
  refine x_pick [_, _, _, _, _, _, _, _, _, _, _, _, _, _, _, _, _, _, _, _, _, _, _, _, _] [0, 1, 2, 3, 4, 5, 6, 7, 8, 9, 10, 11, 12, 13, 14, 15, 16, 17, 18, 19, 20, 21, 22, 23, 24] rfl rfl ?_
  refine x_istore [_, _, _, _, _, _, _, _, _] C eL_law_1554 rfl rfl (nlt rfl) ?_
  refine x_aload_n C eL_law_1556 rfl ?_
  refine x_argA C H.hx H.hbl H.hL eL_law_1557 eL_law_1558 eL_law_1560 eL_law_1561 eL_law_1562 rfl rfl (by omega) ha1 ?_
  have c1 : ¬ (0 ≤ a1 ∧ a1 ≤ n (-1) 0 - 1) := by first | omega | (simp only [if_true, if_false]; omega)
  have hM := s_X8_meanWait (G := G) (l := l) (o := x.o) (A := x.A) (I := I) (N := N9) (n := n) (b := b) (l9 := a1) hK hI.hN.1 (by omega) (by omega) H.hFP
  simp only [if_neg (show ¬ ((0 ≤ a1 ∧ a1 ≤ n (-1) 0 - 1) ∧ (True) ∧ (True)) from fun q => c1 q.1), thr_1 c1] at hM
  refine yV1r [_, _, _, _, _, _, _, _, _, _, _, _, _, _, _, _, _, _, _, _, _, _, _] [_, _, _, _, _, _, _, _, _, _, _, _, _, _, _, _, _, _, _, _, _, _, _, _, _] C hM v_X8_meanWait vv_X8_meanWait s_RL_238 eL_law_1563 (fun _ _ h => WF_pick [15, 16, 0, 1, 2, 3, 4, 5, 6, 7, 8, 9, 10, 11, 12, 13, 14, 17, 18, 19, 20, 21, 22, 23, 24] rfl rfl h) (rcv 15 rfl) rfl (nle rfl) (nle rfl) (by omega) (by omega) rfl ?_
  refine x_dstore [_, _, _, _, _, _, _, _, _] C eL_law_1566 rfl rfl (nlt rfl) ?_
  refine x_aload_n C eL_law_1568 rfl ?_
  refine yV0r [_, _, _, _, _, _, _, _, _, _, _, _, _, _, _, _, _, _, _, _, _, _, _, _] [_, _, _, _, _, _, _, _, _, _, _, _, _, _, _, _, _, _, _, _, _, _, _, _, _] C (s_X8_thrown hK) v_X8_thrown vv_X8_thrown s_RL_145 eL_law_1569 (fun _ _ h => WF_pick [0, 1, 2, 3, 4, 5, 6, 7, 8, 9, 10, 11, 12, 13, 14, 15, 16, 17, 18, 19, 20, 21, 22, 23, 24] rfl rfl h) (rcv 0 rfl) rfl (nle rfl) (nle rfl) (by omega) (by omega) rfl ?_
  refine x_iload C eL_law_1572 rfl ?_
  refine x_icmp_val (by first | exact up_s _ _ _ | exact (up_n (by decide)).trans (up_s _ _ _)) 1579 C eL_law_1574 rfl ?_
  refine x_iload C eL_law_1579 rfl ?_
  refine x_if_ne 1616 C eL_law_1581 rfl (by omega) (fun _ => ?_) (fun h => absurd h (by decide))
  refine x_goto (pc' := 2791) C eL_law_1616 rfl ?_
  refine x_pick [_, _, _, _, _, _, _, _, _, _, _, _, _, _, _, _, _, _, _, _, _, _, _, _, _] [2, 3, 5, 6, 7, 8, 9, 10, 11, 12, 13, 14, 15, 16, 0, 1, 17, 18, 19, 20, 21, 22, 23, 24, 4] rfl rfl ?_
  refine x_lv [_, _, _, _, _, _, none, none, _] rfl (lx_drop _ [6, 7] rfl) ?_
  exact x_wide (by omega) (by omega) (K9 (hI.qI (by omega) (up_n (by decide)) (up_n (by decide)) (up_n (by decide)) (up_n (by decide)) (up_n (by decide)) (up_n (by decide))))

