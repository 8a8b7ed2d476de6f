theorem s_X8_nameOf0 {G : Gm} {l : Launch} (hK : KG G) {a z : Nat} {Fb : Nat → Int} (hs : z ≤ 400) : MD G l yX8_nameOf cX8_nameOf 5 (some .int) 1 0 0 [.ref a, .int (zI 0), .int (zI (z : Int))] [ar G 1 a 400 400 Fb] (some (.int (zI (nmF Fb 0 z)))) [ar G 1 a 400 400 Fb] := by
  have h := s_X8_nameOf (G := G) (l := l) hK (a := a) (s := 0) (m := z) (Fb := Fb) (by omega)
  rw [Nat.zero_add] at h
  exact h

set_option maxHeartbeats 4000000 in
set_option maxRecDepth 100000 in
theorem s_X8_find {G : Gm} {l : Launch} (hK : KG G) {o : Nat} {A : Nat → Nat} {I : Nat → Int} {N : Nat → Net} {n : Net} {b : Int} {Fb : Nat → Int} (hN : NetOk b n) (hb : b ≤ 900000000) (h6 : 0 ≤ I 6 ∧ I 6 ≤ 400) (hFb : ∀ j, -128 ≤ Fb j ∧ Fb j ≤ 127) : MD G l yX8_find cX8_find 3 (some .int) 3 0 0 [.ref o] [ob o 10 (shM A 1) I, fam G A (uN N 1 (n)), ar G 1 (A 5) 400 400 (Fb)] (some (.int (zI (lnN n (fndN Fb (I 6)))))) [ob o 10 (shM A 1) (up (up I 0 0) 6 0), fam G A (uN N 1 (n)), ar G 1 (A 5) 400 400 (Fb)] := by
  refine MX_of (lv := [some (.ref o), none, none]) hK (by decide +kernel) rfl (nle rfl) (fun X C F => ?_)
  have C : OKc G X l RX8 "find" cX8_find 3 (some .int) 3 0 0 := C
  have hH := hN.1
  unfold HeadOk at hH
  have hr : rok 1 := Or.inl rfl
  obtain ⟨z, hz⟩ : ∃ z : Nat, I 6 = (z : Int) := ⟨(I 6).toNat, by omega⟩
  have hm9 : ∀ k : Int, 0 ≤ k → k < n (-1) 0 → 0 ≤ n k 0 ∧ n k 0 < 387420489 := fun k u v => (hN.2.2 k u v).1
  have loop : ∀ (f k : Nat), k ≤ z → z < k + f → WX G X 0 0 [ob o 10 (shM A 1) (up I 0 0), fam G A (uN N 1 (n)), ar G 1 (A 5) 400 400 (Fb)] 20 [some (.ref o), some (.int (zI (bz ((1 ≤ I 6 ∧ I 6 ≤ 6) ∧ azF Fb k = true)))), some (.int (zI k))] [] := by
    intro f
    induction f with
    | zero => intro k h0 h1; exfalso; omega
    | succ f ih =>
      intro k h0 h1
      have hb9 := hFb k
      refine x_iload_n C eX8_find_20 rfl ?_
      refine x_aload_n C eX8_find_21 rfl ?_
      refine x_getI 0 C f_RX8_139 eX8_find_22 rfl rfl ?_
      try simp only [up_lit, if_true, if_false]
      refine x_icmp_ge 55 C eX8_find_25 rfl (by omega) (by omega) (fun h25 => ?_) (fun h25 => ?_)
      · refine x_iload_n C eX8_find_55 rfl ?_
        refine x_ifb_eq 74 C eX8_find_56 rfl (fun h56 => ?_) (fun h56 => ?_)
        · have hN9 : ¬ ((1 ≤ I 6 ∧ I 6 ≤ 6) ∧ azF Fb z = true) := fun q => h56 ⟨q.1, azF_m (z - k) (by rw [show k + (z - k) = z by omega]; exact q.2)⟩
          refine x_iconst C eX8_find_74 ?_
          refine x_istore_n [_, _, _] C eX8_find_75 rfl rfl (nlt rfl) ?_
          refine x_aload_n C eX8_find_76 rfl ?_
          refine x_iconst C eX8_find_77 ?_
          refine x_putI [_, _, _] 0 C f_RX8_139 eX8_find_78 rfl rfl rfl ?_
          refine x_aload_n C eX8_find_81 rfl ?_
          refine x_iload_n C eX8_find_82 rfl ?_
          refine yV1r [_] [_, _, _] C (s_X8_lineNamed hK hr (by omega) (by omega) hm9) v_X8_lineNamed vv_X8_lineNamed s_RX8_252 eX8_find_83 (fun _ _ h => WF_pick [0, 1, 2] rfl rfl h) (rcv 0 rfl) rfl (nle rfl) (nle rfl) (nle rfl) (nle rfl) rfl ?_
          skip
          refine x_iret (by first | rfl | exact (narZ (by omega)).1) C F eX8_find_86 () ?_ trivial (fun cf c h => ?_) (nle rfl) (nle rfl)
          · first
              | (rw [fndN_f hz]; assumption)
              | (rw [fndN_t hz]; assumption)
          · exact WF_pick [0, 1, 2] rfl rfl h
        · have hP9 : (1 ≤ I 6 ∧ I 6 ≤ 6) ∧ azF Fb z = true := by
            first
              | contradiction
              | (rw [show z = k by omega]; exact h56)
          have hR9 := fndN_r (by omega) hP9.2
          refine x_aload_n C eX8_find_59 rfl ?_
          refine x_getR 0 C f_RX8_30 eX8_find_60 rfl rfl ?_
          refine x_iconst C eX8_find_63 ?_
          refine x_aload_n C eX8_find_64 rfl ?_
          refine x_getI 0 C f_RX8_139 eX8_find_65 rfl rfl ?_
          try simp only [up_lit, if_true, if_false]
          rw [hz]
          refine yS3r [_, _] [_, _, _] C (s_X8_nameOf0 hK (by omega)) v_X8_nameOf vs_X8_nameOf s_RX8_245 eX8_find_68 (fun _ _ h => WF_pick [2, 0, 1] rfl rfl h) rfl (nle rfl) (nle rfl) (nle rfl) (nle rfl) rfl ?_
          skip
          refine x_goto (pc' := 75) C eX8_find_71 rfl ?_
          refine x_istore_n [_, _, _] C eX8_find_75 rfl rfl (nlt rfl) ?_
          refine x_aload_n C eX8_find_76 rfl ?_
          refine x_iconst C eX8_find_77 ?_
          refine x_putI [_, _, _] 1 C f_RX8_139 eX8_find_78 rfl rfl rfl ?_
          refine x_aload_n C eX8_find_81 rfl ?_
          refine x_iload_n C eX8_find_82 rfl ?_
          refine yV1r [_] [_, _, _] C (s_X8_lineNamed hK hr (by omega) (by omega) hm9) v_X8_lineNamed vv_X8_lineNamed s_RX8_252 eX8_find_83 (fun _ _ h => WF_pick [1, 2, 0] rfl rfl h) (rcv 1 rfl) rfl (nle rfl) (nle rfl) (nle rfl) (nle rfl) rfl ?_
          skip
          refine x_iret (by first | rfl | exact (narZ (by omega)).1) C F eX8_find_86 () ?_ trivial (fun cf c h => ?_) (nle rfl) (nle rfl)
          · first
              | (rw [fndN_f hz]; assumption)
              | (rw [fndN_t hz]; assumption)
          · exact WF_pick [0, 1, 2] rfl rfl h
      · refine x_iload_n C eX8_find_28 rfl ?_
        refine x_ifb_eq 55 C eX8_find_29 rfl (fun h29 => ?_) (fun h29 => ?_)
        · refine x_iload_n C eX8_find_55 rfl ?_
          refine x_ifb_eq 74 C eX8_find_56 rfl (fun h56 => ?_) (fun h56 => ?_)
          · have hN9 : ¬ ((1 ≤ I 6 ∧ I 6 ≤ 6) ∧ azF Fb z = true) := fun q => h56 ⟨q.1, azF_m (z - k) (by rw [show k + (z - k) = z by omega]; exact q.2)⟩
            refine x_iconst C eX8_find_74 ?_
            refine x_istore_n [_, _, _] C eX8_find_75 rfl rfl (nlt rfl) ?_
            refine x_aload_n C eX8_find_76 rfl ?_
            refine x_iconst C eX8_find_77 ?_
            refine x_putI [_, _, _] 0 C f_RX8_139 eX8_find_78 rfl rfl rfl ?_
            refine x_aload_n C eX8_find_81 rfl ?_
            refine x_iload_n C eX8_find_82 rfl ?_
            refine yV1r [_] [_, _, _] C (s_X8_lineNamed hK hr (by omega) (by omega) hm9) v_X8_lineNamed vv_X8_lineNamed s_RX8_252 eX8_find_83 (fun _ _ h => WF_pick [0, 1, 2] rfl rfl h) (rcv 0 rfl) rfl (nle rfl) (nle rfl) (nle rfl) (nle rfl) rfl ?_
            skip
            refine x_iret (by first | rfl | exact (narZ (by omega)).1) C F eX8_find_86 () ?_ trivial (fun cf c h => ?_) (nle rfl) (nle rfl)
            · first
                | (rw [fndN_f hz]; assumption)
                | (rw [fndN_t hz]; assumption)
            · exact WF_pick [0, 1, 2] rfl rfl h
          · have hP9 : (1 ≤ I 6 ∧ I 6 ≤ 6) ∧ azF Fb z = true := by
              first
                | contradiction
                | (rw [show z = k by omega]; exact h56)
            have hR9 := fndN_r (by omega) hP9.2
            refine x_aload_n C eX8_find_59 rfl ?_
            refine x_getR 0 C f_RX8_30 eX8_find_60 rfl rfl ?_
            refine x_iconst C eX8_find_63 ?_
            refine x_aload_n C eX8_find_64 rfl ?_
            refine x_getI 0 C f_RX8_139 eX8_find_65 rfl rfl ?_
            try simp only [up_lit, if_true, if_false]
            rw [hz]
            refine yS3r [_, _] [_, _, _] C (s_X8_nameOf0 hK (by omega)) v_X8_nameOf vs_X8_nameOf s_RX8_245 eX8_find_68 (fun _ _ h => WF_pick [2, 0, 1] rfl rfl h) rfl (nle rfl) (nle rfl) (nle rfl) (nle rfl) rfl ?_
            skip
            refine x_goto (pc' := 75) C eX8_find_71 rfl ?_
            refine x_istore_n [_, _, _] C eX8_find_75 rfl rfl (nlt rfl) ?_
            refine x_aload_n C eX8_find_76 rfl ?_
            refine x_iconst C eX8_find_77 ?_
            refine x_putI [_, _, _] 1 C f_RX8_139 eX8_find_78 rfl rfl rfl ?_
            refine x_aload_n C eX8_find_81 rfl ?_
            refine x_iload_n C eX8_find_82 rfl ?_
            refine yV1r [_] [_, _, _] C (s_X8_lineNamed hK hr (by omega) (by omega) hm9) v_X8_lineNamed vv_X8_lineNamed s_RX8_252 eX8_find_83 (fun _ _ h => WF_pick [1, 2, 0] rfl rfl h) (rcv 1 rfl) rfl (nle rfl) (nle rfl) (nle rfl) (nle rfl) rfl ?_
            skip
            refine x_iret (by first | rfl | exact (narZ (by omega)).1) C F eX8_find_86 () ?_ trivial (fun cf c h => ?_) (nle rfl) (nle rfl)
            · first
                | (rw [fndN_f hz]; assumption)
                | (rw [fndN_t hz]; assumption)
            · exact WF_pick [0, 1, 2] rfl rfl h
        · refine x_aload_n C eX8_find_32 rfl ?_
          refine x_getR 0 C f_RX8_30 eX8_find_33 rfl rfl ?_
          refine x_iload_n C eX8_find_36 rfl ?_
          refine x_bald 2 C eX8_find_37 rfl (by decide) (by omega) ?_
          try rw [Int.toNat_natCast]
          refine x_i2l C eX8_find_38 (by omega) ?_
          refine x_ldc2 C eX8_find_39 k_RX8_171 ?_
          refine x_ldc2 C eX8_find_42 k_RX8_173 ?_
          refine yS3r [_, _, _] [_, _, _] C (s_X8_in hK (by omega)) v_X8_in vs_X8_in s_RX8_72 eX8_find_45 (fun _ _ h => WF_pick [0, 1, 2] rfl rfl h) rfl (nle rfl) (nle rfl) (nle rfl) (nle rfl) rfl ?_
          skip
          refine x_istore_n [_, _, _] C eX8_find_48 rfl rfl (nlt rfl) ?_
          refine x_iinc [_, _, _] C eX8_find_49 rfl rfl rfl ?_
          refine x_goto (pc' := 20) C eX8_find_52 rfl ?_
          have h := ih (k + 1) (by omega) (by omega)
          rw [bz_iff (q := 97 ≤ Fb k ∧ Fb k ≤ 122) ⟨fun q => (azF_s.mp q.2).2, fun q => ⟨h29.1, azF_s.mpr ⟨h29.2, q⟩⟩⟩] at h
          exact h
  refine x_aload_n C eX8_find_0 rfl ?_
  refine x_iconst C eX8_find_1 ?_
  refine x_putI [_, _, _] 0 C f_RX8_3 eX8_find_2 rfl rfl rfl ?_
  refine x_aload_n C eX8_find_5 rfl ?_
  refine x_getI 0 C f_RX8_139 eX8_find_6 rfl rfl ?_
  try simp only [up_lit, if_true, if_false]
  refine x_i2l C eX8_find_9 (by omega) ?_
  refine x_lconst (v := 1) C eX8_find_10 rfl ?_
  refine x_ldc2 C eX8_find_11 k_RX8_292 ?_
  refine yS3r [_, _, _] [_, _, _] C (s_X8_in hK (by (try simp (disch := omega) only [Int.reduceAdd, uN_s, uN_uN, un_s, un_un, un_n, ub_s, ub_n, inc, bStop_n, bDrop_s, bDrop_n, unub_n, nLog_n, nLog_h, Int.sub_add_cancel]); omega)) v_X8_in vs_X8_in s_RX8_72 eX8_find_14 (fun _ _ h => WF_pick [0, 1, 2] rfl rfl h) rfl (nle rfl) (nle rfl) (nle rfl) (nle rfl) rfl ?_
  refine x_istore_n [_, _, _] C eX8_find_17 rfl rfl (nlt rfl) ?_
  refine x_iconst C eX8_find_18 ?_
  refine x_istore_n [_, _, _] C eX8_find_19 rfl rfl (nlt rfl) ?_
  have h := loop (z + 1) 0 (by omega) (by omega)
  rw [bz_iff (q := 1 ≤ I 6 ∧ I 6 ≤ 6) ⟨fun q => q.1, fun q => ⟨q, rfl⟩⟩] at h
  exact h
