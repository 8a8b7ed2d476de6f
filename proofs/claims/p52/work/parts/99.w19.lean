/-! The law's load. -/
abbrev LdR : Type := Pool × Net × (Nat → Int) × (Nat → Net)
theorem dXY {L : Nat} {xs : Nat → Int32} {m : Nat} (hm : 1 ≤ m ∧ m ≤ 4) : dLe L xs m = 1 → dX L xs m < m ∧ dY L xs m < m ∧ ¬ dX L xs m = dY L xs m := by
  intro h
  have h1 : 1 < (m : Int) := by
    unfold dLe at h
    split at h
    · next c => exact c.1
    · exact absurd h (by decide)
  have h2 := drw_r (L := L) (xs := xs) (k := 23) (n := (m : Int)) (by omega)
  unfold dX dY
  rcases (show m = 2 ∨ m = 3 ∨ m = 4 by omega) with rfl | rfl | rfl <;> omega
theorem those_one {n : Net} {m le x : Nat} (hm : 1 ≤ m ∧ m ≤ 4) (hx : le = 1 → x < m) (h : ∀ j : Nat, 0 < n j 12 ↔ le = 1 ∧ j = x) : ∃ v9 : Int, thoseV n 12 m = zI v9 ∧ (0 ≤ v9 ∧ v9 < 64) ∧ (¬ le = 1 → v9 = 0) ∧ (le = 1 → zI 1 <<< (zI (x : Int) &&& 31) = zI v9) := by
  by_cases c : le = 1
  · have h1 : ∀ j : Nat, 0 < n j 12 ↔ j = x := fun j => ⟨fun z => ((h j).mp z).2, fun z => (h j).mpr ⟨c, z⟩⟩
    refine ⟨((2 ^ x : Nat) : Int), ?_, ?_, fun z => absurd c z, fun _ => shl_one ⟨x, by have := hx c; omega⟩⟩
    · rw [thoseV_msk n 12 m (by omega), msk_one h1 m, if_pos (hx c)]
    · have h2 : 2 ^ x < 64 := show 2 ^ x < 2 ^ 6 from Nat.pow_lt_pow_right (by decide) (by have := hx c; omega)
      generalize 2 ^ x = p at h2 ⊢
      omega
  · refine ⟨0, ?_, by decide, fun _ => rfl, fun z => absurd z c⟩
    rw [thoseV_msk n 12 m (by omega), msk_none (fun j z => c ((h j).mp z).1) m]
    rfl

set_option maxHeartbeats 4000000 in
set_option maxRecDepth 100000 in
theorem z_load {G : Gm} {l : Launch} (hK : KG G) {e ip op t tr ps pa sl al lg : Nat} {J : Nat → Int} {M : Pool} {L L2 : Int → Nat} {n : Net} {N : Nat → Net} {b : Int} {ib b9 L9 : Nat} {xs : Nat → Int32} {Fb : Nat → Int} (hN : NetOk b n) (hb : b ≤ 900000000) (h6 : 0 ≤ J 6 ∧ J 6 ≤ 6) (hD : KD G) (hPM : PLw M) (hF : ∀ j : Nat, -128 ≤ Fb j ∧ Fb j ≤ 127) (hsc : SC G b9 L9 xs) : MX G l yL_load cL_load 9 (some .boolean) 14 250 70000 [.ref e, .ref b9] [ob e 9 (ecS ip op t tr ps pa sl) (J), ob t 8 (tkS al lg) (tkI (n)), arR G 5 al 6 (fun j => some (L (j : Int))), LF G M L (n), LOG G lg (n), TG G tr L2, PRS G ps ip tr, ob ip 6 [some (.ref ib), none] (fun _ => 0), ar G 1 ib 400 400 (Fb), PL G M, PS G M pa (J 6) N] (fun _ : LdR => some (.int (zI 1))) (fun x : LdR => NetOk 8000 x.2.1 ∧ SOK x.2.1 ∧ (0 ≤ x.2.2.1 6 ∧ x.2.2.1 6 ≤ 6) ∧ PLw x.1) (fun x : LdR => [ob e 9 (ecS ip op t tr ps pa sl) x.2.2.1, ob t 8 (tkS al lg) (tkI x.2.1), arR G 5 al 6 (fun j => some (L (j : Int))), LF G x.1 L x.2.1, LOG G lg x.2.1, PS G x.1 pa (x.2.2.1 6) x.2.2.2]) := by
  refine MX_of (lv := [some (.ref e), some (.ref b9), none, none, none, none, none, none, none]) hK (by decide +kernel) rfl (nle rfl) (fun X C F => ?_)
  have C : OKc G X l RL "load" cL_load 9 (some .boolean) 14 250 70000 := C
  have hS : KS G := hD.1
  have h0 := drw_r (L := L9) (xs := xs) (k := 0) (n := 4) (by decide)
  obtain ⟨m, hm⟩ : ∃ m : Nat, (m : Int) = 1 + drw L9 xs 0 4 := ⟨(1 + drw L9 xs 0 4).toNat, by omega⟩
  have hm4 : 1 ≤ m ∧ m ≤ 4 := by omega
  refine z_ld_0 hK hD C hsc hm (fun sb w hbw hlw hU => ?_)
  have hd0 := dN_r L9 xs 0
  have hd1 := dN_r L9 xs 1
  have hl9 := drw_r (L := L9) (xs := xs) (k := 27 + ((0 : Nat) : Int)) (n := (m : Int)) (by omega)
  have hl8 := drw_r (L := L9) (xs := xs) (k := 27 + ((1 : Nat) : Int)) (n := (m : Int)) (by omega)
  have hT9 : 1 ≤ dT L9 xs ∧ dT L9 xs ≤ 99 := by
    have := drw_r (L := L9) (xs := xs) (k := 24) (n := 5) (by decide)
    unfold dT; omega
  refine x_aload_n C eL_load_436 rfl ?_
  refine x_aload_n C eL_load_437 rfl ?_
  refine yV0x [_, _, _, _, _, _, _, _, _, _, _] C (z_toString hK hD (by omega) hbw) v_J4_toString_0e30d vv_J4_toString_0e30d s_RL_85 eL_load_438 (fun _ _ h => WF_pick [0, 1, 2, 3, 4, 5, 6, 7, 8, 9, 10, 11] rfl rfl h) (rcvP 0 rfl SBA_rcv) rfl (nle rfl) (nle rfl) (nle rfl) (nle rfl) (fun x438 hx438 => ?_)
  have hw1 : 1 ≤ w.length := by rw [hU]; exact linesR_len hm4.1 _
  refine yS2x [_, _, _, _, _, _, _, _] C (z_feed hK hS ⟨hw1, by omega⟩ hbw hF) v_L_feed vs_L_feed s_RL_89 eL_load_441 (fun _ _ h => WF_pick [1, 8, 9, 0, 2, 3, 4, 5, 6, 7, 10, 11] rfl rfl h) rfl (nle rfl) (nle rfl) (nle rfl) (nle rfl) (fun x441 hx441 => ?_)
  obtain ⟨he, hN2, hs2, h20, h21, h22, h2q, h2l⟩ := load_net (F := x441) (I := (up (fun _ => 0) 6 ((w.length : Nat) : Int))) (TL := fun _ => 0) (TB := fun _ => 0) (z := w.length) (up_s _ _ _) (by omega) (by rw [up_n (by decide)]; decide) hx441.2 (dP_ok L9 xs) hm4 (dXY hm4) (t := dT L9 xs) hT9 (l0 := dL L9 xs m 0) (l1 := dL L9 xs m 1) ⟨by unfold dL; omega, by unfold dL; omega⟩ (m0 := dN L9 xs 0) (m1 := dN L9 xs 1) (by omega) (dF_r L9 xs) (by show Rem x441 w.length 0 (txtL L9 xs m); rw [← hU]; exact ⟨Nat.zero_add _, fun j hj => by rw [Nat.zero_add]; exact hx441.1 j hj⟩)
  refine x_aload_n C eL_load_444 rfl ?_
  refine yV0x [] C (s_X7_load hK (Im := (up (fun _ => 0) 6 ((w.length : Nat) : Int))) (TL := fun _ => 0) (TB := fun _ => 0) hN hb h6 hS hPM (by omega) hx441.2 (up_s _ _ _) (by rw [up_n (by decide)]; decide)) v_X7_load vv_X7_load s_RL_93 eL_load_445 (fun _ _ h => WF_pick [0, 3, 4, 5, 6, 7, 8, 1, 2, 9, 10] rfl rfl h) (rcv 0 rfl) rfl (nle rfl) (nle rfl) (nle rfl) (nle rfl) (fun x445 hx445 => ?_)
  obtain ⟨n2, hn2⟩ : ∃ n2, ldN x441 (up (fun _ => 0) 6 ((w.length : Nat) : Int)) (fun _ => 0) (fun _ => 0) = n2 := ⟨_, rfl⟩
  simp only [if_pos he]
  rw [hn2] at hN2 hs2 h20 h21 h22
  have h2q : qs (fun l => n2 l 16) m = ((dN L9 xs 0 : Nat) : Int) + ((dN L9 xs 1 : Nat) : Int) := by rw [← hn2]; exact h2q
  have h2l : ∀ j : Nat, 0 < n2 j 12 ↔ dLe L9 xs m = 1 ∧ j = dX L9 xs m := by rw [← hn2]; exact h2l
  rw [hn2]
  obtain ⟨J2, hJ2⟩ : ∃ J2, up (up (up J 8 ((ldR x441 (up (fun _ => 0) 6 ((w.length : Nat) : Int)) (fun _ => 0) (fun _ => 0)).1 12)) 9 ((ldR x441 (up (fun _ => 0) 6 ((w.length : Nat) : Int)) (fun _ => 0) (fun _ => 0)).1 13)) 6 (rmR (J 6)) = J2 := ⟨_, rfl⟩
  have hJ8 : J2 8 = 0 := by rw [← hJ2, up_n (by decide), up_n (by decide), up_s]; exact he
  have hJ6 : J2 6 = rmR (J 6) := by rw [← hJ2, up_s]
  have hJr : 0 ≤ J2 6 ∧ J2 6 ≤ 6 := by rw [hJ6]; unfold rmR; split <;> omega
  rw [hJ2, ← hJ6, h20]
  obtain ⟨v9, hv9, hv9r, hv90, hv91⟩ := those_one hm4 (fun c => (dXY hm4 c).1) h2l
  have hxd : ((dX L9 xs m : Nat) : Int) = drw L9 xs 23 (m : Int) := by
    have := drw_r (L := L9) (xs := xs) (k := 23) (n := (m : Int)) (by omega)
    unfold dX; omega
  have ht0 : (n2 (-1) 0).toNat = m := by omega
  have hle2 : dLe L9 xs m ≤ 1 := by unfold dLe; split <;> omega
  rw [hxd] at hv91
  refine x_iload_n C eL_load_448 rfl ?_
  refine x_icmp_ne 526 C eL_load_449 rfl (by omega) (by omega) (fun h449 => ?_) (fun h449 => ?_)
  · exfalso; omega
  · refine x_aload_n C eL_load_452 rfl ?_
    refine yV0r [_, _, _, _, _, _, _, _, _, _] [_, _, _, _, _, _, _, _, _, _, _] C (s_X7_errorCode hK ) v_X7_errorCode vv_X7_errorCode s_RL_96 eL_load_453 (fun _ _ h => WF_pick [0, 1, 2, 3, 4, 5, 6, 7, 8, 9, 10] rfl rfl h) (rcv 0 rfl) rfl (nle rfl) (nle rfl) (nle rfl) (nle rfl) rfl ?_
    rw [hJ8]
    refine x_if_ne 526 C eL_load_456 rfl (by omega) (fun h456 => ?_) (fun h456 => ?_)
    · exfalso; omega
    · refine x_aload_n C eL_load_459 rfl ?_
      refine x_iconst C eL_load_460 ?_
      refine yV1r [_, _, _, _, _, _] [_, _, _, _, _, _, _, _, _, _, _] C (s_X7_property hK hN2 (by decide) (by decide)) v_X7_property vv_X7_property s_RL_99 eL_load_461 (fun _ _ h => WF_pick [0, 1, 2, 3, 4, 5, 6, 7, 8, 9, 10] rfl rfl h) (rcv 0 rfl) rfl (nle rfl) (nle rfl) (nle rfl) (nle rfl) rfl ?_
      rw [show propVal n2 0 = zI (n2 (-1) 0) from rfl]
      rw [h20]
      refine x_iload_n C eL_load_464 rfl ?_
      refine x_icmp_ne 526 C eL_load_465 rfl (by omega) (by omega) (fun h465 => ?_) (fun h465 => ?_)
      · exfalso; omega
      · refine x_aload_n C eL_load_468 rfl ?_
        refine x_iconst C eL_load_469 ?_
        refine yV1r [_, _, _, _, _, _] [_, _, _, _, _, _, _, _, _, _, _] C (s_X7_property hK hN2 (by decide) (by decide)) v_X7_property vv_X7_property s_RL_99 eL_load_470 (fun _ _ h => WF_pick [0, 1, 2, 3, 4, 5, 6, 7, 8, 9, 10] rfl rfl h) (rcv 0 rfl) rfl (nle rfl) (nle rfl) (nle rfl) (nle rfl) rfl ?_
        rw [show propVal n2 1 = zI (n2 (-1) 1) from rfl]
        rw [h21]
        refine x_if_ne 526 C eL_load_473 rfl (by omega) (fun h473 => ?_) (fun h473 => ?_)
        · exfalso; omega
        · refine x_aload_n C eL_load_476 rfl ?_
          refine x_iconst C eL_load_477 ?_
          refine yV1r [_, _, _, _, _, _] [_, _, _, _, _, _, _, _, _, _, _] C (s_X7_property hK hN2 (by decide) (by decide)) v_X7_property vv_X7_property s_RL_99 eL_load_478 (fun _ _ h => WF_pick [0, 1, 2, 3, 4, 5, 6, 7, 8, 9, 10] rfl rfl h) (rcv 0 rfl) rfl (nle rfl) (nle rfl) (nle rfl) (nle rfl) rfl ?_
          rw [show propVal n2 2 = zI (n2 (-1) 2) from rfl]
          rw [h22]
          refine x_if_ne 526 C eL_load_481 rfl (by omega) (fun h481 => ?_) (fun h481 => ?_)
          · exfalso; omega
          · refine x_aload_n C eL_load_484 rfl ?_
            refine x_iconst C eL_load_485 ?_
            refine yV1r [_, _, _, _, _, _] [_, _, _, _, _, _, _, _, _, _, _] C (s_X7_sum hK hN2 (by decide) (by decide)) v_X7_sum vv_X7_sum s_RL_103 eL_load_486 (fun _ _ h => WF_pick [0, 1, 2, 3, 4, 5, 6, 7, 8, 9, 10] rfl rfl h) (rcv 0 rfl) rfl (nle rfl) (nle rfl) (nle rfl) (nle rfl) rfl ?_
            rw [show qs (fun l => n2 l (16 + 0)) (n2 (-1) 0).toNat = ((dN L9 xs 0 : Nat) : Int) + ((dN L9 xs 1 : Nat) : Int) from by rw [ht0]; exact h2q]
            refine x_iload C eL_load_489 rfl ?_
            refine x_icmp_ne 526 C eL_load_491 rfl (by omega) (by omega) (fun h491 => ?_) (fun h491 => ?_)
            · exfalso; omega
            · refine x_aload_n C eL_load_494 rfl ?_
              refine x_bipush C eL_load_495 rfl ?_
              refine yV1r [_, _, _, _, _, _] [_, _, _, _, _, _, _, _, _, _, _] C (s_X7_property hK hN2 (by decide) (by decide)) v_X7_property vv_X7_property s_RL_99 eL_load_497 (fun _ _ h => WF_pick [0, 1, 2, 3, 4, 5, 6, 7, 8, 9, 10] rfl rfl h) (rcv 0 rfl) rfl (nle rfl) (nle rfl) (nle rfl) (nle rfl) rfl ?_
              rw [show propVal n2 10 = thoseV n2 12 (n2 (-1) 0).toNat from rfl, ht0, hv9]
              refine x_iload C eL_load_500 rfl ?_
              refine x_iconst C eL_load_502 ?_
              refine x_icmp_ne 518 C eL_load_503 rfl (by omega) (by omega) (fun h503 => ?_) (fun h503 => ?_)
              · refine x_iconst C eL_load_518 ?_
                refine x_icmp_ne 526 C eL_load_519 rfl (by omega) (by omega) (fun h519 => ?_) (fun h519 => ?_)
                · exfalso; omega
                · refine x_iconst C eL_load_522 ?_
                  refine x_goto (pc' := 527) C eL_load_523 rfl ?_
                  refine x_iret rfl C F eL_load_527 (x445, n2, J2, rmP (J 6) N n) rfl ⟨hN2, hs2, hJr, hx445.2⟩ (fun cf c h => ?_) (nle rfl) (nle rfl)
                  exact WF_pick [0, 1, 2, 3, 4, 10] rfl rfl h
              · refine x_iconst C eL_load_506 ?_
                refine x_aload_n C eL_load_507 rfl ?_
                refine x_bipush C eL_load_508 rfl ?_
                refine x_iload_n C eL_load_510 rfl ?_
                refine yS3r [_, _, _, _, _, _, _, _, _, _, _] [_, _, _, _, _, _, _, _, _, _, _] C (z_draw hK hsc (by omega) (by omega)) v_L_draw vs_L_draw s_RL_40 eL_load_511 (fun _ _ h => WF_pick [0, 1, 2, 3, 4, 5, 6, 7, 8, 9, 10] rfl rfl h) rfl (nle rfl) (nle rfl) (nle rfl) (nle rfl) rfl ?_
                refine x_ishlR C eL_load_514 ?_
                rw [hv91 (by omega)]
                refine x_goto (pc' := 519) C eL_load_515 rfl ?_
                refine x_icmp_ne 526 C eL_load_519 rfl (by omega) (by omega) (fun h519 => ?_) (fun h519 => ?_)
                · exfalso; omega
                · refine x_iconst C eL_load_522 ?_
                  refine x_goto (pc' := 527) C eL_load_523 rfl ?_
                  refine x_iret rfl C F eL_load_527 (x445, n2, J2, rmP (J 6) N n) rfl ⟨hN2, hs2, hJr, hx445.2⟩ (fun cf c h => ?_) (nle rfl) (nle rfl)
                  exact WF_pick [0, 1, 2, 3, 4, 10] rfl rfl h
  
