/-! The law's small methods. -/
section Rules
variable {G : Gm} {X : Cx} {l : Launch} {own nm : String} {cc : ByteArray} {nL : Nat} {ret : Option FieldType} {d mc ms : Nat} {k n : Nat} {ws : List SA} {pc pc' : Nat} {lv : List (Option Value)} {st : List Value}
theorem x_slen0 {b L : Nat} {xs : Nat → Int32} (C : OKc G X l own nm cc nL ret d mc ms) (hs : SC G b L xs) (D : dx cc pc .arraylength 1 pc') (K : WX G X k n ws pc' lv (.int (zI (L : Int)) :: st)) : WX G X k n ws pc lv (.ref b :: st) := by
  obtain ⟨p, l, e, R, s, m, args, below, meth, c0, cf, Q⟩ := X
  obtain ⟨hx, rfl, rfl, hb, hml, hown, hts, hK, hvm, hlk, hret, hnm⟩ := C
  obtain ⟨D4, rfl⟩ := D
  obtain ⟨hX, hbl, hL⟩ := hs
  try dsimp only at hx hb hml hown hts hvm hlk hret hnm
  intro H locs ls c h1 h2 h3 h4
  obtain ⟨scr, g1, g2, g3, g4, g5⟩ := hX.moved hvm.alike
  have K' := K H locs ls c h1 h2 h3 h4
  rw [← zI_ofNat] at K'
  exact W.alen (n := Int32.ofNat L) hx hb (by rw [h2.2.1 b hbl]; exact g1) g2 (by rw [g4] <;> rfl) rfl rfl D4 K'
theorem x_sld0 {b L : Nat} {xs : Nat → Int32} {i : Int} (C : OKc G X l own nm cc nL ret d mc ms) (hs : SC G b L xs) (D : dx cc pc .iaload 1 pc') (hi : 0 ≤ i ∧ i < (L : Int)) (K : WX G X k n ws pc' lv (.int (xs i.toNat) :: st)) : WX G X k n ws pc lv (.int (zI i) :: .ref b :: st) := by
  obtain ⟨p, l, e, R, s, m, args, below, meth, c0, cf, Q⟩ := X
  obtain ⟨hx, rfl, rfl, hb, hml, hown, hts, hK, hvm, hlk, hret, hnm⟩ := C
  obtain ⟨D4, rfl⟩ := D
  obtain ⟨hX, hbl, hL⟩ := hs
  try dsimp only at hx hb hml hown hts hvm hlk hret hnm
  intro H locs ls c h1 h2 h3 h4
  obtain ⟨scr, g1, g2, g3, g4, g5⟩ := hX.moved hvm.alike
  have e9 : (zI i).toNatClampNeg = i.toNat := zI_nat hi.1 (by omega)
  have hlt : (zI i).toNatClampNeg < L := by rw [e9]; omega
  have K' := K H locs ls c h1 h2 h3 h4
  rw [← e9] at K'
  exact W.iald (v := .int (xs (zI i).toNatClampNeg)) hx hb (by rw [h2.2.1 b hbl]; exact g1) g2 g3 (by rw [g4]; exact zI_in hi.1 hi.2 (by omega)) (g5 _ hlt) rfl rfl D4 K'
end Rules

set_option maxHeartbeats 4000000 in
set_option maxRecDepth 100000 in
theorem z_draw {G : Gm} {l : Launch} (hK : KG G) {b L : Nat} {xs : Nat → Int32} {k9 n9 : Int} (hs : SC G b L xs) (hk : 0 ≤ k9 ∧ k9 < 100000) (hn : 0 < n9 ∧ n9 < 2147483648) : MD G l yL_draw cL_draw 3 (some .int) 1 0 0 [.ref b, .int (zI k9), .int (zI n9)] [] (some (.int (zI (drw L xs k9 n9)))) [] := by
  refine MX_of (lv := [some (.ref b), some (.int (zI k9)), some (.int (zI n9))]) hK (by decide +kernel) rfl (nle rfl) (fun X C F => ?_)
  have C : OKc G X l RL "draw" cL_draw 3 (some .int) 1 0 0 := C
  have hL := hs.2.2
  have tail : ∀ v : Int32, FIN G X 0 0 (fun _ : Unit => some (.int (zI ((v &&& zI 2147483647).toInt % n9)))) (fun _ => True) (fun _ => []) → WX G X 0 0 [] 13 [some (.ref b), some (.int (zI k9)), some (.int (zI n9))] [.int v] := by
    intro v F
    have hp := and_pos v
    have hq := (v &&& zI 2147483647).toInt_lt
    refine x_ldc (own2 := RL) C eL_draw_13 k_RL_7 ?_
    refine x_iandR C eL_draw_15 ?_
    rw [← zI_of (v &&& zI 2147483647)]
    refine x_iload_n C eL_draw_16 rfl ?_
    refine x_irem C eL_draw_17 ⟨⟨hp, by omega⟩, hn⟩ ?_
    refine x_iret rfl C F eL_draw_18 () ?_ trivial (fun cf c h => h) (nle rfl) (nle rfl)
    rfl
  refine x_iload_n C eL_draw_0 rfl ?_
  refine x_aload_n C eL_draw_1 rfl ?_
  refine x_slen0 C hs eL_draw_2 ?_
  refine x_icmp_ge 12 C eL_draw_3 rfl (by omega) (by omega) (fun h3 => ?_) (fun h3 => ?_)
  · refine x_iconst C eL_draw_12 ?_
    refine tail (zI 0) ?_
    have e : drw L xs k9 n9 = (zI 0 &&& zI 2147483647).toInt % n9 := by unfold drw; rw [if_neg (by omega)]
    rw [← e]
    exact F
  · refine x_aload_n C eL_draw_6 rfl ?_
    refine x_iload_n C eL_draw_7 rfl ?_
    refine x_sld0 C hs eL_draw_8 ⟨by omega, by omega⟩ ?_
    refine x_goto (pc' := 13) C eL_draw_9 rfl ?_
    refine tail (xs k9.toNat) ?_
    have e : drw L xs k9 n9 = (xs k9.toNat &&& zI 2147483647).toInt % n9 := by unfold drw; rw [if_pos (by omega)]
    rw [← e]
    exact F

set_option maxHeartbeats 4000000 in
set_option maxRecDepth 100000 in
theorem z_name {G : Gm} {l : Launch} (hK : KG G) {k9 : Int} (hk : 0 ≤ k9 ∧ k9 < 30) : MD G l yL_name cL_name 1 (some .char) 1 0 0 [.int (zI k9)] [] (some (.int (zI (97 + k9)))) [] := by
  refine MX_of (lv := [some (.int (zI k9))]) hK (by decide +kernel) rfl (nle rfl) (fun X C F => ?_)
  have C : OKc G X l RL "name" cL_name 1 (some .char) 1 0 0 := C
  refine x_bipush C eL_name_0 rfl ?_
  refine x_iload_n C eL_name_2 rfl ?_
  refine x_iadd C eL_name_3 ?_
  refine x_i2c C eL_name_4 (by omega) ?_
  refine x_iret (nar_c (by omega)) C F eL_name_5 () rfl trivial (fun cf c h => h) (nle rfl) (nle rfl)

set_option maxHeartbeats 4000000 in
set_option maxRecDepth 100000 in
theorem z_is {G : Gm} {l : Launch} (hK : KG G) {n : Net} {w9 l9 : Int} {m : Nat} (hm : m ≤ 6) (hl : 0 ≤ l9 ∧ l9 < (m : Int)) : MD G l yL_is cL_is 2 (some .boolean) 1 0 0 [.int (thoseV n w9 m), .int (zI l9)] [] (some (.int (zI (bz (0 < n l9 w9))))) [] := by
  refine MX_of (lv := [some (.int (thoseV n w9 m)), some (.int (zI l9))]) hK (by decide +kernel) rfl (nle rfl) (fun X C F => ?_)
  have C : OKc G X l RL "is" cL_is 2 (some .boolean) 1 0 0 := C
  refine x_iload_n C eL_is_0 rfl ?_
  refine x_iload_n C eL_is_1 rfl ?_
  refine x_ishrR C eL_is_2 ?_
  refine x_iconst C eL_is_3 ?_
  refine x_iandR C eL_is_4 ?_
  rw [those_bit hm hl]
  have hbz : bz (0 < n l9 w9) = 0 ∨ bz (0 < n l9 w9) = 1 := by unfold bz; split <;> omega
  refine x_iconst C eL_is_5 ?_
  refine x_icmp_ne 13 C eL_is_6 rfl (by omega) (by omega) (fun h6 => ?_) (fun h6 => ?_)
  · refine x_iconst C eL_is_13 ?_
    refine x_iret (narZ (by omega)).1 C F eL_is_14 () ?_ trivial (fun cf c h => ?_) (nle rfl) (nle rfl)
    · exact congrArg (fun z => some (Value.int (zI z))) (by omega)
    · exact WF_pick [] rfl rfl h
  · refine x_iconst C eL_is_9 ?_
    refine x_goto (pc' := 14) C eL_is_10 rfl ?_
    refine x_iret (narZ (by omega)).1 C F eL_is_14 () ?_ trivial (fun cf c h => ?_) (nle rfl) (nle rfl)
    · exact congrArg (fun z => some (Value.int (zI z))) (by omega)
    · exact WF_pick [] rfl rfl h

set_option maxHeartbeats 4000000 in
set_option maxRecDepth 100000 in
theorem z_four {G : Gm} {l : Launch} (hK : KG G) (hS : KS G) {P : List SA} {q b : Nat} {w : List Int} {a9 : Int} (hs : SK G P q b w) (ha : 0 ≤ a9 ∧ a9 < 100000) : MD G l yL_four cL_four 4 (some .int) 5 0 0 [.ref q, .int (zI a9)] P (some (.int (zI (fvk w a9 4)))) P := by
  refine MX_of (lv := [some (.ref q), some (.int (zI a9)), none, none]) hK (by decide +kernel) rfl (nle rfl) (fun X C F => ?_)
  have C : OKc G X l RL "four" cL_four 4 (some .int) 5 0 0 := C
  have h60 := hs.1.1
  have hr := fvk_r hs.1.2 a9
  have hz : ∀ j : Nat, j < 4 → 0 ≤ fvk w a9 j ∧ fvk w a9 j ≤ 8355711 := by
    intro j hj
    match j, hj with
    | 0, _ => exact ⟨Int.le_refl _, by show (0 : Int) ≤ 8355711; decide⟩
    | 1, _ => omega
    | 2, _ => omega
    | 3, _ => omega
  have loop : ∀ (f j : Nat), j ≤ 4 → 4 < j + f → WX G X 0 0 P 4 [some (.ref q), some (.int (zI a9)), some (.int (zI (fvk w a9 j))), some (.int (zI (j : Int)))] [] := by
    intro f
    induction f with
    | zero => intro j h0 h1; exfalso; omega
    | succ f ih =>
      intro j h0 h1
      refine x_iload_n C eL_four_4 rfl ?_
      refine x_iconst C eL_four_5 ?_
      refine x_icmp_ge 42 C eL_four_6 rfl (by omega) (by omega) (fun h6 => ?_) (fun h6 => ?_)
      · obtain rfl : j = 4 := by omega
        refine x_iload_n C eL_four_42 rfl ?_
        exact x_iret rfl C F eL_four_43 () rfl trivial (fun cf c h => h) (nle rfl) (nle rfl)
      · have hv := hz j (by omega)
        refine x_iload_n C eL_four_9 rfl ?_
        refine x_bipush C eL_four_10 rfl ?_
        refine x_ishlR C eL_four_12 ?_
        rw [shl8 ⟨hv.1, by omega⟩]
        refine x_iload_n C eL_four_13 rfl ?_
        refine x_iload_n C eL_four_14 rfl ?_
        refine x_iadd C eL_four_15 ?_
        refine x_aload_n C eL_four_16 rfl ?_
        refine x_callVK (As := []) [] C (s_J0_length hK hS hs) v_J0_length_8abf5 vv_J0_length_8abf5 s_RL_8 (fun s hs' cf c H hw hH => (hs.2 s hs' cf c H hw hH).1) eL_four_17 rfl hpkN rfl (nle rfl) (nle rfl) (nle rfl) (nle rfl) (fun _ _ => ?_)
        show WX G X 0 0 (P ++ []) 20 _ [.int (zI (w.length : Int)), .int (zI (a9 + (j : Int))), .int (zI (256 * fvk w a9 j))]
        rw [List.append_nil]
        have fin : ∀ c9 : Int, chr w (a9 + j) = c9 → WX G X 0 0 P 34 [some (.ref q), some (.int (zI a9)), some (.int (zI (fvk w a9 j))), some (.int (zI (j : Int)))] [.int (zI c9), .int (zI (256 * fvk w a9 j))] := by
          intro c9 hc9
          have hcr := getD_r hs.1.2 (a9 + j).toNat
          have hcr2 : 0 ≤ c9 ∧ c9 < 128 := by rw [← hc9]; exact hcr
          refine x_iorR C eL_four_34 ?_
          rw [or8 hv.1 ⟨hcr2.1, by omega⟩]
          refine x_istore_n [_, _, _, _] C eL_four_35 rfl rfl (nlt rfl) ?_
          refine x_iinc [_, _, _, _] C eL_four_36 rfl rfl rfl ?_
          refine x_goto (pc' := 4) C eL_four_39 rfl ?_
          have h9 := ih (j + 1) (by omega) (by omega)
          have e : fvk w a9 (j + 1) = 256 * fvk w a9 j + c9 := by rw [← hc9]; rfl
          rw [e] at h9
          exact h9
        refine x_icmp_ge 33 C eL_four_20 rfl (by omega) (by omega) (fun h20 => ?_) (fun h20 => ?_)
        · refine x_iconst C eL_four_33 ?_
          refine fin 0 ?_
          unfold chr
          rw [List.getD_eq_getElem?_getD, List.getElem?_eq_none (by omega)]
          rfl
        · refine x_aload_n C eL_four_23 rfl ?_
          refine x_iload_n C eL_four_24 rfl ?_
          refine x_iload_n C eL_four_25 rfl ?_
          refine x_iadd C eL_four_26 ?_
          refine x_callVK (As := [.int (zI (a9 + (j : Int)))]) [] C (s_J0_charAt hK hS hs (i := a9 + (j : Int)) ⟨by omega, by omega⟩) v_J0_charAt_5068e vv_J0_charAt_5068e s_RL_14 (fun s hs' cf c H hw hH => (hs.2 s hs' cf c H hw hH).1) eL_four_27 rfl hpkN rfl (nle rfl) (nle rfl) (nle rfl) (nle rfl) (fun _ _ => ?_)
          show WX G X 0 0 (P ++ []) 30 _ [.int (zI (w.getD (a9 + (j : Int)).toNat 0)), .int (zI (256 * fvk w a9 j))]
          rw [List.append_nil]
          refine x_goto (pc' := 34) C eL_four_30 rfl ?_
          exact fin _ rfl
  refine x_iconst C eL_four_0 ?_
  refine x_istore_n [_, _, _, _] C eL_four_1 rfl rfl (nlt rfl) ?_
  refine x_iconst C eL_four_2 ?_
  refine x_istore_n [_, _, _, _] C eL_four_3 rfl rfl (nlt rfl) ?_
  exact loop 5 0 (by omega) (by omega)
