/-! The law: its loop. -/
section Rules
variable {G : Gm} {X : Cx} {l : Launch} {own nm : String} {cc : ByteArray} {nL : Nat} {ret : Option FieldType} {d mc ms : Nat} {k n : Nat} {ws : List SA} {pc pc' pc1 : Nat} {lv : List (Option Value)} {st : List Value}
theorem x_iandZ {a b : Int32} (C : OKc G X l own nm cc nL ret d mc ms) (D : dx cc pc .iand 1 pc') (K : ∀ v : Int, (-2147483648 ≤ v ∧ v < 2147483648) → WX G X k n ws pc' lv (.int (zI v) :: st)) : WX G X k n ws pc lv (.int b :: .int a :: st) := by
  refine x_iandR C D ?_
  rw [← zI_of (a &&& b)]
  exact K _ (bI_toInt _)
theorem x_sldA {x : LFx} {i : Int} {pc2 pc3 : Nat} (C : OKc G X l own nm cc nL ret d mc ms) (hX : va_X x.b x.L x.xs G.1 G.1.heap) (hbl : x.b < G.1.heap.size) (hL : x.L ≤ 3072) (D0 : dx cc pc (.aload_n 0) 1 pc1) (D1 : dx cc pc1 (.iload 5) 2 pc2) (D4 : dx cc pc2 .iaload 1 pc3) (h0 : lv[0]? = some (some (.ref x.b))) (h5 : lv[5]? = some (some (.int (zI i)))) (hi : 0 ≤ i ∧ i < (x.L : Int))
    (K : ∀ a : Int32, WX G X k n ws pc3 lv (.int a :: st)) : WX G X k n ws pc lv st := by
  refine x_aload_n C D0 h0 ?_
  refine x_iload C D1 h5 ?_
  obtain ⟨p, l, e, R, s, m, args, below, meth, c0, cf, Q⟩ := X
  obtain ⟨hx, rfl, rfl, hb, hml, hown, hts, hK, hvm, hlk, hret, hnm⟩ := C
  obtain ⟨D4, rfl⟩ := D4
  try dsimp only at hx hb hml hown hts hvm hlk hret hnm
  intro H locs ls c h1 h2 h3 h4
  obtain ⟨scr, g1, g2, g3, g4, g5⟩ := hX.moved hvm.alike
  have e9 : (zI i).toNatClampNeg = i.toNat := zI_nat hi.1 (by omega)
  have hlt : (zI i).toNatClampNeg < x.L := by rw [e9]; omega
  exact W.iald (v := .int (x.xs (zI i).toNatClampNeg)) hx hb (by rw [h2.2.1 x.b hbl]; exact g1) g2 g3 (by rw [g4]; exact zI_in hi.1 hi.2 (by omega)) (g5 _ hlt) rfl rfl D4 (K _ H locs ls c h1 h2 h3 h4)
theorem x_slen {x : LFx} (C : OKc G X l own nm cc nL ret d mc ms) (hX : va_X x.b x.L x.xs G.1 G.1.heap) (hbl : x.b < G.1.heap.size) (D : dx cc pc .arraylength 1 pc') (K : WX G X k n ws pc' lv (.int (zI (x.L : Int)) :: st)) : WX G X k n ws pc lv (.ref x.b :: st) := by
  obtain ⟨p, l, e, R, s, m, args, below, meth, c0, cf, Q⟩ := X
  obtain ⟨hx, rfl, rfl, hb, hml, hown, hts, hK, hvm, hlk, hret, hnm⟩ := C
  obtain ⟨D4, rfl⟩ := D
  try dsimp only at hx hb hml hown hts hvm hlk hret hnm
  intro H locs ls c h1 h2 h3 h4
  obtain ⟨scr, g1, g2, g3, g4, g5⟩ := hX.moved hvm.alike
  have K' := K H locs ls c h1 h2 h3 h4
  rw [← zI_ofNat] at K'
  exact W.alen (n := Int32.ofNat x.L) hx hb (by rw [h2.2.1 x.b hbl]; exact g1) g2 (by rw [g4] <;> rfl) rfl rfl D4 K'
end Rules
set_option maxHeartbeats 4000000 in
set_option maxRecDepth 100000 in
theorem law_loop {G : Gm} {X : Cx} {l : Launch} {x : LFx} (H : LKn G l x) {nmL : String} (hC : OKc G X l RL nmL cL_law 9 (some .boolean) 1400 600000 6200000) (hF : FIN G X 600000 6200000 (fun _ : Unit => some (.int (zI 1))) (fun _ => True) (fun _ => [])) :
    ∀ (g : Nat) {k nn : Nat} {i b : Int} {J : Nat → Int} {M : Pool} {n : Net} {N K : Nat → Net} {Fu Fb : Nat → Int} {w : List Int} {z : Int} {I TL TB : Nat → Int} {N9 : Nat → Net} {f : Nat → Int64} {fD : Nat → UInt64}, INV b J M n N K Fu Fb w z I → 0 ≤ i → (x.L : Int) - 6 < i + 6 * (g : Int) → i < 100000 → k + 100 * g ≤ 600000 → nn + 2200 * g ≤ 6200000 → b + 8000 * (g : Int) ≤ 15000000 → WX G X k nn (LAT G x J M n N K Fu Fb w z I TL TB N9 f fD) 28 (LLV x i) [] := by
  intro g
  induction g with
  | zero =>
    intro k nn i b J M n N K Fu Fb w z I TL TB N9 f fD hI h0 hg hi hk hn hb
    have C := hC
    have hL := H.hL
    refine x_iload C eL_law_28 rfl ?_
    refine x_aload_n C eL_law_30 rfl ?_
    refine x_slen C H.hx H.hbl eL_law_31 ?_
    refine x_bipush C eL_law_32 rfl ?_
    refine x_isub C eL_law_34 ?_
    refine x_icmp_gt 2797 C eL_law_35 rfl (by omega) (by omega) (fun _ => ?_) (fun h => absurd h (by omega))
    refine x_iconst C eL_law_2797 ?_
    exact x_iret (by first | rfl | exact (narZ (by omega)).1) C hF eL_law_2798 () rfl trivial (fun _ _ h => WF_pick [] rfl rfl h) (by omega) (by omega)
  | succ g ih =>
    intro k nn i b J M n N K Fu Fb w z I TL TB N9 f fD hI h0 hg hi hk hn hb
    have C := hC
    have hL := H.hL
    refine x_iload C eL_law_28 rfl ?_
    refine x_aload_n C eL_law_30 rfl ?_
    refine x_slen C H.hx H.hbl eL_law_31 ?_
    refine x_bipush C eL_law_32 rfl ?_
    refine x_isub C eL_law_34 ?_
    refine x_icmp_gt 2797 C eL_law_35 rfl (by omega) (by omega) (fun _ => ?_) (fun h => ?_)
    · refine x_iconst C eL_law_2797 ?_
      exact x_iret (by first | rfl | exact (narZ (by omega)).1) C hF eL_law_2798 () rfl trivial (fun _ _ h => WF_pick [] rfl rfl h) (by omega) (by omega)
    · have K9 : LCont G X x (b + 8000) (k + 100) (nn + 2200) i := by
        intro J M n N K Fu Fb w z I TL TB N9 f fD hI2
        refine x_iinc [_, _, _, _, _, _, _, _, _] C eL_law_2791 rfl rfl rfl ?_
        refine x_goto (pc' := 28) C eL_law_2794 rfl ?_
        exact ih hI2 (by omega) (by omega) (by omega) (by omega) (by omega) (by omega)
      have hi6 : 0 ≤ i ∧ i + 6 ≤ (x.L : Int) := by omega
      refine x_sldA C H.hx H.hbl H.hL eL_law_38 eL_law_39 eL_law_41 rfl rfl (by omega) (fun a => ?_)
      refine x_bipush C eL_law_42 rfl ?_
      refine x_iandZ C eL_law_44 (fun v hv => ?_)
      have hsw : v = 0 ∨ v = 1 ∨ v = 2 ∨ v = 3 ∨ v = 4 ∨ v = 5 ∨ v = 6 ∨ v = 7 ∨ v = 8 ∨ v = 9 ∨ v = 10 ∨ v = 11 ∨ v = 12 ∨ v = 13 ∨ v = 14 ∨ v = 15 ∨ v = 16 ∨ v = 17 ∨ v = 18 ∨ v = 19 ∨ v = 20 ∨ v = 21 ∨ v = 22 ∨ v = 23 ∨ v = 24 ∨ v = 25 ∨ v = 26 ∨ v = 27 ∨ v = 28 ∨ v = 29 ∨ v = 30 ∨ v = 31 ∨ v = 32 ∨ v = 33 ∨ v = 34 ∨ v = 35 ∨ v = 36 ∨ v = 37 ∨ v = 38 ∨ v = 39 ∨ v = 40 ∨ v = 41 ∨ v = 42 ∨ v = 43 ∨ v = 44 ∨ v = 45 ∨ v = 46 ∨ v = 47 ∨ v = 48 ∨ (v < 0 ∨ 48 < v) := by omega
      rcases hsw with rfl | rfl | rfl | rfl | rfl | rfl | rfl | rfl | rfl | rfl | rfl | rfl | rfl | rfl | rfl | rfl | rfl | rfl | rfl | rfl | rfl | rfl | rfl | rfl | rfl | rfl | rfl | rfl | rfl | rfl | rfl | rfl | rfl | rfl | rfl | rfl | rfl | rfl | rfl | rfl | rfl | rfl | rfl | rfl | rfl | rfl | rfl | rfl | rfl | hsw
      · exact x_tabIn 256 C eL_law_45 (by decide) (by decide) (by decide) rfl rfl (lcs_0 H hC hI (by omega) (by omega) (by omega) hi6 K9)
      · exact x_tabIn 360 C eL_law_45 (by decide) (by decide) (by decide) rfl rfl (lcs_1 H hC hI (by omega) (by omega) (by omega) hi6 K9)
      · exact x_tabIn 396 C eL_law_45 (by decide) (by decide) (by decide) rfl rfl (lcs_2 H hC hI (by omega) (by omega) (by omega) hi6 K9)
      · exact x_tabIn 409 C eL_law_45 (by decide) (by decide) (by decide) rfl rfl (lcs_3 H hC hI (by omega) (by omega) (by omega) hi6 K9)
      · exact x_tabIn 422 C eL_law_45 (by decide) (by decide) (by decide) rfl rfl (lcs_4 H hC hI (by omega) (by omega) (by omega) hi6 K9)
      · exact x_tabIn 435 C eL_law_45 (by decide) (by decide) (by decide) rfl rfl (lcs_5 H hC hI (by omega) (by omega) (by omega) hi6 K9)
      · exact x_tabIn 448 C eL_law_45 (by decide) (by decide) (by decide) rfl rfl (lcs_6 H hC hI (by omega) (by omega) (by omega) hi6 K9)
      · exact x_tabIn 504 C eL_law_45 (by decide) (by decide) (by decide) rfl rfl (lcs_7 H hC hI (by omega) (by omega) (by omega) hi6 K9)
      · exact x_tabIn 572 C eL_law_45 (by decide) (by decide) (by decide) rfl rfl (lcs_8 H hC hI (by omega) (by omega) (by omega) hi6 K9)
      · exact x_tabIn 640 C eL_law_45 (by decide) (by decide) (by decide) rfl rfl (lcs_9 H hC hI (by omega) (by omega) (by omega) hi6 K9)
      · exact x_tabIn 736 C eL_law_45 (by decide) (by decide) (by decide) rfl rfl (lcs_10 H hC hI (by omega) (by omega) (by omega) hi6 K9)
      · exact x_tabIn 792 C eL_law_45 (by decide) (by decide) (by decide) rfl rfl (lcs_11 H hC hI (by omega) (by omega) (by omega) hi6 K9)
      · exact x_tabIn 860 C eL_law_45 (by decide) (by decide) (by decide) rfl rfl (lcs_12 H hC hI (by omega) (by omega) (by omega) hi6 K9)
      · exact x_tabIn 873 C eL_law_45 (by decide) (by decide) (by decide) rfl rfl (lcs_13 H hC hI (by omega) (by omega) (by omega) hi6 K9)
      · exact x_tabIn 929 C eL_law_45 (by decide) (by decide) (by decide) rfl rfl (lcs_14 H hC hI (by omega) (by omega) (by omega) hi6 K9)
      · exact x_tabIn 985 C eL_law_45 (by decide) (by decide) (by decide) rfl rfl (lcs_15 H hC hI (by omega) (by omega) (by omega) hi6 K9)
      · exact x_tabIn 998 C eL_law_45 (by decide) (by decide) (by decide) rfl rfl (lcs_16 H hC hI (by omega) (by omega) (by omega) hi6 K9)
      · exact x_tabIn 1066 C eL_law_45 (by decide) (by decide) (by decide) rfl rfl (lcs_17 H hC hI (by omega) (by omega) (by omega) hi6 K9)
      · exact x_tabIn 1134 C eL_law_45 (by decide) (by decide) (by decide) rfl rfl (lcs_18 H hC hI (by omega) (by omega) (by omega) hi6 K9)
      · exact x_tabIn 1190 C eL_law_45 (by decide) (by decide) (by decide) rfl rfl (lcs_19 H hC hI (by omega) (by omega) (by omega) hi6 K9)
      · exact x_tabIn 1246 C eL_law_45 (by decide) (by decide) (by decide) rfl rfl (lcs_20 H hC hI (by omega) (by omega) (by omega) hi6 K9)
      · exact x_tabIn 1314 C eL_law_45 (by decide) (by decide) (by decide) rfl rfl (lcs_21 H hC hI (by omega) (by omega) (by omega) hi6 K9)
      · exact x_tabIn 1382 C eL_law_45 (by decide) (by decide) (by decide) rfl rfl (lcs_22 H hC hI (by omega) (by omega) (by omega) hi6 K9)
      · exact x_tabIn 1438 C eL_law_45 (by decide) (by decide) (by decide) rfl rfl (lcs_23 H hC hI (by omega) (by omega) (by omega) hi6 K9)
      · exact x_tabIn 1451 C eL_law_45 (by decide) (by decide) (by decide) rfl rfl (lcs_24 H hC hI (by omega) (by omega) (by omega) hi6 K9)
      · exact x_tabIn 1464 C eL_law_45 (by decide) (by decide) (by decide) rfl rfl (lcs_25 H hC hI (by omega) (by omega) (by omega) hi6 K9)
      · exact x_tabIn 1542 C eL_law_45 (by decide) (by decide) (by decide) rfl rfl (lcs_26 H hC hI (by omega) (by omega) (by omega) hi6 K9)
      · exact x_tabIn 1619 C eL_law_45 (by decide) (by decide) (by decide) rfl rfl (lcs_27 H hC hI (by omega) (by omega) (by omega) hi6 K9)
      · exact x_tabIn 1632 C eL_law_45 (by decide) (by decide) (by decide) rfl rfl (lcs_28 H hC hI (by omega) (by omega) (by omega) hi6 K9)
      · exact x_tabIn 1688 C eL_law_45 (by decide) (by decide) (by decide) rfl rfl (lcs_29 H hC hI (by omega) (by omega) (by omega) hi6 K9)
      · exact x_tabIn 1744 C eL_law_45 (by decide) (by decide) (by decide) rfl rfl (lcs_30 H hC hI (by omega) (by omega) (by omega) hi6 K9)
      · exact x_tabIn 1824 C eL_law_45 (by decide) (by decide) (by decide) rfl rfl (lcs_31 H hC hI (by omega) (by omega) (by omega) hi6 K9)
      · exact x_tabIn 1904 C eL_law_45 (by decide) (by decide) (by decide) rfl rfl (lcs_32 H hC hI (by omega) (by omega) (by omega) hi6 K9)
      · exact x_tabIn 1960 C eL_law_45 (by decide) (by decide) (by decide) rfl rfl (lcs_33 H hC hI (by omega) (by omega) (by omega) hi6 K9)
      · exact x_tabIn 2040 C eL_law_45 (by decide) (by decide) (by decide) rfl rfl (lcs_34 H hC hI (by omega) (by omega) (by omega) hi6 K9)
      · exact x_tabIn 2096 C eL_law_45 (by decide) (by decide) (by decide) rfl rfl (lcs_35 H hC hI (by omega) (by omega) (by omega) hi6 K9)
      · exact x_tabIn 2164 C eL_law_45 (by decide) (by decide) (by decide) rfl rfl (lcs_36 H hC hI (by omega) (by omega) (by omega) hi6 K9)
      · exact x_tabIn 2255 C eL_law_45 (by decide) (by decide) (by decide) rfl rfl (lcs_37 H hC hI (by omega) (by omega) (by omega) hi6 K9)
      · exact x_tabIn 2323 C eL_law_45 (by decide) (by decide) (by decide) rfl rfl (lcs_38 H hC hI (by omega) (by omega) (by omega) hi6 K9)
      · exact x_tabIn 2403 C eL_law_45 (by decide) (by decide) (by decide) rfl rfl (lcs_39 H hC hI (by omega) (by omega) (by omega) hi6 K9)
      · exact x_tabIn 2471 C eL_law_45 (by decide) (by decide) (by decide) rfl rfl (lcs_40 H hC hI (by omega) (by omega) (by omega) hi6 K9)
      · exact x_tabIn 2484 C eL_law_45 (by decide) (by decide) (by decide) rfl rfl (lcs_41 H hC hI (by omega) (by omega) (by omega) hi6 K9)
      · exact x_tabIn 2540 C eL_law_45 (by decide) (by decide) (by decide) rfl rfl (lcs_42 H hC hI (by omega) (by omega) (by omega) hi6 K9)
      · exact x_tabIn 2596 C eL_law_45 (by decide) (by decide) (by decide) rfl rfl (lcs_43 H hC hI (by omega) (by omega) (by omega) hi6 K9)
      · exact x_tabIn 2640 C eL_law_45 (by decide) (by decide) (by decide) rfl rfl (lcs_44 H hC hI (by omega) (by omega) (by omega) hi6 K9)
      · exact x_tabIn 2653 C eL_law_45 (by decide) (by decide) (by decide) rfl rfl (lcs_45 H hC hI (by omega) (by omega) (by omega) hi6 K9)
      · exact x_tabIn 2666 C eL_law_45 (by decide) (by decide) (by decide) rfl rfl (lcs_46 H hC hI (by omega) (by omega) (by omega) hi6 K9)
      · exact x_tabIn 2679 C eL_law_45 (by decide) (by decide) (by decide) rfl rfl (lcs_47 H hC hI (by omega) (by omega) (by omega) hi6 K9)
      · exact x_tabIn 2735 C eL_law_45 (by decide) (by decide) (by decide) rfl rfl (lcs_48 H hC hI (by omega) (by omega) (by omega) hi6 K9)
      · refine x_tabOut 2791 C eL_law_45 hv hsw rfl ?_
        exact x_wide (by omega) (by omega) (K9 (hI.qI (by omega) rfl rfl rfl rfl rfl rfl))
