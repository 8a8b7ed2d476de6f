/-! The law's load up to its text's end. -/
theorem linesR_len {P : Nat → LinP} {m : Nat} (hm : 1 ≤ m) (R : List Int) : 1 ≤ (linesR P 0 m R).length := by
  match m, hm with
  | m' + 1, _ =>
    show 1 ≤ (lineP P 0 (linesR P 1 m' R)).length
    unfold lineP
    unfold lineT
    rw [List.length_append]
    have h : w_line.length = 4 := rfl
    omega
abbrev txtL (L : Nat) (xs : Nat → Int32) (m : Nat) : List Int := linesR (dP L xs) 0 m (lendO (dLe L xs m) (dX L xs m) (dY L xs m) (dT L xs) (tyO (dL L xs m 0) (dN L xs 0) (dF L xs) (tyO (dL L xs m 1) (dN L xs 1) (dF L xs) [])))
theorem dN_r (L : Nat) (xs : Nat → Int32) (k : Nat) : dN L xs k ≤ 8 := by
  have h := drw_r (L := L) (xs := xs) (k := 25 + (k : Int)) (n := 9) (by decide)
  unfold dN
  omega
set_option maxHeartbeats 4000000 in
set_option maxRecDepth 100000 in
theorem z_ld_0 {G : Gm} {X : Cx} {l : Launch} (hK : KG G) (hD : KD G) {e b9 L9 m : Nat} {xs : Nat → Int32} {RR : List SA} (C : OKc G X l RL "load" cL_load 9 (some .boolean) 14 250 70000) (hsc : SC G b9 L9 xs) (hm : (m : Int) = 1 + drw L9 xs 0 4) (K : ∀ (sb : Nat) (w : List Int), B7 w → w.length ≤ 289 → w = txtL L9 xs m → WX G X 97 57230 (SBA G sb w :: RR) 436 [some (.ref e), some (.ref b9), some (.int (zI (m : Int))), some (.ref sb), some (.int (zI ((dLe L9 xs m : Nat) : Int))), some (.int (zI (0 + ((dN L9 xs 0 : Nat) : Int) + ((dN L9 xs 1 : Nat) : Int)))), none, none, none] []) : WX G X 0 0 RR 0 [some (.ref e), some (.ref b9), none, none, none, none, none, none, none] [] := by
  have hS : KS G := hD.1
  have h0 := drw_r (L := L9) (xs := xs) (k := 0) (n := 4) (by decide)
  have hm4 : 1 ≤ m ∧ m ≤ 4 := by omega
  refine x_iconst C eL_load_0 ?_
  refine x_aload_n C eL_load_1 rfl ?_
  refine x_iconst C eL_load_2 ?_
  refine x_iconst C eL_load_3 ?_
  refine yS3r RR RR C (z_draw hK hsc (by omega) (by omega)) v_L_draw vs_L_draw s_RL_40 eL_load_4 (fun _ _ h => h) rfl (nle rfl) (nle rfl) (nle rfl) (nle rfl) rfl ?_
  refine x_iadd C eL_load_7 ?_
  rw [← hm]
  refine x_istore_n [_, _, _, _, _, _, _, _, _] C eL_load_8 rfl rfl (nlt rfl) ?_
  refine x_new C n_RL_44 eL_load_9 (nle rfl) (nle rfl) (fun sb => ?_)
  refine x_dup C eL_load_12 rfl ?_
  refine yI0w (ret' := none) RR (SBA G sb [] :: RR) C (z_init hK hS) v_J4_init_da8c8 vi_J4_init_da8c8 rfl s_RL_46 eL_load_13 (fun _ _ h => h) rfl (nle rfl) (nle rfl) (nle rfl) (nle rfl) rfl ?_
  refine x_astore_n [_, _, _, _, _, _, _, _, _] C eL_load_16 rfl rfl (nlt rfl) ?_
  refine x_iconst C eL_load_17 ?_
  refine x_istore [_, _, _, _, _, _, _, _, _] C eL_load_18 rfl rfl (nlt rfl) ?_
  have hl0 : dLe L9 xs m ≤ 1 := by unfold dLe; split <;> omega
  have E2 : ∀ w : List Int, B7 w → w.length ≤ 289 → w = txtL L9 xs m → WX G X 97 57230 (SBA G sb w :: RR) 309 [some (.ref e), some (.ref b9), some (.int (zI (m : Int))), some (.ref sb), some (.int (zI ((dLe L9 xs m : Nat) : Int))), some (.int (zI (0 + ((dN L9 xs 0 : Nat) : Int) + ((dN L9 xs 1 : Nat) : Int)))), some (.int (zI ((1 : Nat) + 1 : Int))), none, none] [] := by
    intro w hbw hlw hU
    refine x_iload C eL_load_309 rfl ?_
    refine x_iconst C eL_load_311 ?_
    refine x_icmp_ge 436 C eL_load_312 rfl (by omega) (by omega) (fun h312 => ?_) (fun h312 => ?_)
    · refine x_lv [_, _, _, _, _, _, none, none, none] rfl (lx_drop _ [6] rfl) ?_
      exact K sb w hbw hlw hU
    · exfalso; omega
  have turn : ∀ (t : Nat) (ty : Int) (w : List Int) (k n : Nat), t < 2 → 0 ≤ ty ∧ ty ≤ 100 → B7 w → w.length ≤ 249 → k + 20 ≤ 250 ∧ n + 12040 ≤ 70000 → (∀ w9 : List Int, B7 w9 → w9.length ≤ w.length + 40 → (∀ R, w9 ++ R = w ++ tyO (dL L9 xs m t) (dN L9 xs t) (dF L9 xs) R) → WX G X (k + 20) (n + 12040) (SBA G sb w9 :: RR) 309 [some (.ref e), some (.ref b9), some (.int (zI (m : Int))), some (.ref sb), some (.int (zI ((dLe L9 xs m : Nat) : Int))), some (.int (zI (ty + ((dN L9 xs t : Nat) : Int)))), some (.int (zI ((t : Int) + 1))), none, none] []) → WX G X k n (SBA G sb w :: RR) 309 [some (.ref e), some (.ref b9), some (.int (zI (m : Int))), some (.ref sb), some (.int (zI ((dLe L9 xs m : Nat) : Int))), some (.int (zI ty)), some (.int (zI (t : Int))), none, none] [] := by
    intro t ty w k n ht hty hbw hlw hn K9
    refine x_iload C eL_load_309 rfl ?_
    refine x_iconst C eL_load_311 ?_
    refine x_icmp_ge 436 C eL_load_312 rfl (by omega) (by omega) (fun h312 => ?_) (fun h312 => ?_)
    · exfalso; omega
    · refine z_ld_315 hK hD C hsc hm4 hbw ht hty hlw hn (fun w9 hb9 hl9 hU9 => ?_)
      refine x_iinc [_, _, _, _, _, _, _, _, _] C eL_load_430 rfl rfl rfl ?_
      refine x_goto (pc' := 309) C eL_load_433 rfl ?_
      exact K9 w9 hb9 hl9 hU9
  have E303 : ∀ w : List Int, B7 w → w.length ≤ 209 → (∀ R, w ++ R = linesR (dP L9 xs) 0 m (lendO (dLe L9 xs m) (dX L9 xs m) (dY L9 xs m) (dT L9 xs) R)) → WX G X 57 33150 (SBA G sb w :: RR) 303 [some (.ref e), some (.ref b9), some (.int (zI (m : Int))), some (.ref sb), some (.int (zI ((dLe L9 xs m : Nat) : Int))), none, none, none, none] [] := by
    intro w hbw hlw hU
    refine x_iconst C eL_load_303 ?_
    refine x_istore [_, _, _, _, _, _, _, _, _] C eL_load_304 rfl rfl (nlt rfl) ?_
    refine x_iconst C eL_load_306 ?_
    refine x_istore [_, _, _, _, _, _, _, _, _] C eL_load_307 rfl rfl (nlt rfl) ?_
    have hd0 := dN_r L9 xs 0
    refine turn 0 0 w 57 33150 (by decide) (by decide) hbw (by omega) (by decide) (fun w1 hb1 hl1 hU1 => ?_)
    refine turn 1 _ w1 77 45190 (by decide) (by omega) hb1 (by omega) (by decide) (fun w2 hb2 hl2 hU2 => ?_)
    refine E2 w2 hb2 (by omega) ?_
    rw [← List.append_nil w2, hU2, hU1, hU]
  have E211 : ∀ w : List Int, B7 w → w.length ≤ 188 → (∀ R, w ++ R = linesR (dP L9 xs) 0 m R) → WX G X 50 28936 (SBA G sb w :: RR) 211 [some (.ref e), some (.ref b9), some (.int (zI (m : Int))), some (.ref sb), some (.int (zI (m : Int))), none, none, none, none] [] := by
    intro w hbw hlw hU
    refine z_ld_211 hK hD C hsc hm4 hbw hlw (by decide) (fun w9 hb9 hl9 hU9 => ?_)
    exact E303 w9 hb9 (by omega) (fun R => by rw [hU9, hU])
  have loop : ∀ (f i : Nat) (w : List Int), B7 w → i ≤ m → m < i + f → w.length ≤ 47 * i → (∀ R, w ++ R = linesR (dP L9 xs) 0 i R) → WX G X (2 + 12 * i) (40 + 7224 * i) (SBA G sb w :: RR) 20 [some (.ref e), some (.ref b9), some (.int (zI (m : Int))), some (.ref sb), some (.int (zI (i : Int))), none, none, none, none] [] := by
    intro f
    induction f with
    | zero => intro i w hbw h1 h2 hlw hU; exfalso; omega
    | succ f ih =>
      intro i w hbw h1 h2 hlw hU
      refine x_iload C eL_load_20 rfl ?_
      refine x_iload_n C eL_load_22 rfl ?_
      refine x_icmp_ge 211 C eL_load_23 rfl (by omega) (by omega) (fun h23 => ?_) (fun h23 => ?_)
      · have ei : i = m := by omega
        rw [ei] at hU hlw ⊢
        refine x_widen (k' := 50) (n' := 28936) (by omega) (by omega) ?_
        exact E211 w hbw (by omega) hU
      · have K9 : ∀ w9 : List Int, B7 w9 → w9.length ≤ 47 * (i + 1) → (∀ R, w9 ++ R = w ++ lineP (dP L9 xs) i R) → WX G X (2 + 12 * i + 12) (40 + 7224 * i + 7224) (SBA G sb w9 :: RR) 205 [some (.ref e), some (.ref b9), some (.int (zI (m : Int))), some (.ref sb), some (.int (zI (i : Int))), none, none, none, none] [] := by
          intro w9 hb9 hl9 hU9
          refine x_iinc [_, _, _, _, _, _, _, _, _] C eL_load_205 rfl rfl rfl ?_
          refine x_goto (pc' := 20) C eL_load_208 rfl ?_
          exact ih (i + 1) w9 hb9 (by omega) (by omega) hl9 (fun R => by rw [hU9, hU, linesR_s, Nat.zero_add])
        have h5 := drw_r (L := L9) (xs := xs) (k := 5) (n := 2) (by decide)
        refine x_iconst C eL_load_26 ?_
        refine x_aload_n C eL_load_27 rfl ?_
        refine x_iconst C eL_load_28 ?_
        refine x_iload C eL_load_29 rfl ?_
        refine x_iadd C eL_load_31 ?_
        refine x_aload_n C eL_load_32 rfl ?_
        refine x_iconst C eL_load_33 ?_
        refine x_iconst C eL_load_34 ?_
        refine yS3r (SBA G sb w :: RR) (SBA G sb w :: RR) C (z_draw hK hsc (by omega) (by omega)) v_L_draw vs_L_draw s_RL_40 eL_load_35 (fun _ _ h => h) rfl (nle rfl) (nle rfl) (by omega) (by omega) rfl ?_
        have q9 := z_ld_47 (e := e) (sb := sb) (RR := RR) hK hD C hsc hm4 hbw (i := i) (by omega) hlw (by omega) K9
        refine x_if_ne 45 C eL_load_38 rfl (by omega) (fun h38 => ?_) (fun h38 => ?_)
        · refine x_bipush C eL_load_45 rfl ?_
          have ed : dD L9 xs = 30 := by unfold dD; rw [if_neg (by omega)]
          rw [ed] at q9
          exact q9
        · refine x_iconst C eL_load_41 ?_
          refine x_goto (pc' := 47) C eL_load_42 rfl ?_
          have ed : dD L9 xs = 5 := by unfold dD; rw [if_pos (by omega)]
          rw [ed] at q9
          exact q9
  refine x_widen (k' := 2 + 12 * 0) (n' := 40 + 7224 * 0) (by omega) (by omega) ?_
  exact loop 9 0 [] (fun _ h => absurd h (List.not_mem_nil)) (by omega) (by omega) (by decide) (fun R => rfl)
