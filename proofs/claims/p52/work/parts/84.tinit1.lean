set_option maxHeartbeats 4000000 in
set_option maxRecDepth 100000 in
theorem s_X6_init {G : Gm} {l : Launch} (hK : KG G) {M : Pool} {t : Nat} (hS : KS G) : MX G l yX6_init cX6_init 2 none 4 63 1877 [.ref t] [ob t 8 [some .null, some .null, none, none, none, none, none, none, none] (fun _ => 0)] (fun _ : Int → Nat => none) (fun _ => True) (fun L => [TO G M t L nInit]) := by
  refine MX_of (lv := [some (.ref t), none]) hK (by decide +kernel) rfl (by first | exact nle rfl | omega) (fun X C F => ?_)
  have C : OKc G X l RX6 "<init>" cX6_init 2 none 4 63 1877 := C
  have loop : ∀ (al lg la f j : Nat) (La Qa : Nat → Nat), j ≤ 6 → 6 < j + f → WX G X (3 + 10 * j) (209 + 278 * j) [ob t 8 (tkS al lg) (up (up (fun _ => 0) 2 1) 5 1), arR G 5 al 6 (fun x9 => if x9 < j then some (La x9) else none), ACC G M (j) La Qa, ob lg 3 [some (.ref la), none, none] (lgI 0 0), ar G 0 la 200 200 (fun _ => 0)] 36 [some (.ref t), some (.int (zI (j : Int)))] [] := by
    intro al lg la f
    induction f with
    | zero => intro j La Qa g0 g1; exfalso; omega
    | succ f ih =>
      intro j La Qa g0 g1
      refine x_iload_n C eX6_init_36 rfl ?_
      refine x_aload_n C eX6_init_37 rfl ?_
      refine x_getR 0 C f_RX6_11 eX6_init_38 rfl rfl ?_
      refine x_alen 1 C eX6_init_41 rfl (by decide) arR_al ?_
      refine x_icmp_ge 64 C eX6_init_42 rfl (by omega) (by omega) (fun h42 => ?_) (fun h42 => ?_)
      · refine x_vret C F eX6_init_64 (LQ La Qa) rfl trivial (fun cf c h => ?_) (by first | exact nle rfl | omega) (by first | exact nle rfl | omega)
        obtain rfl : j = 6 := by omega
        have h1 := LOG_init _ _ [_, _, _] (WF_pick [3, 4, 0, 1, 2] rfl rfl h)
        refine WF_close (L := [ob t 8 (tkS al lg) (tkI nInit), arR G 5 al 6 (fun j => some (LQ La Qa (j : Int))), LF G M (LQ La Qa) nInit, LOG G lg nInit]) (R := []) ?_ (fun d hd => ⟨al, lg, hd⟩)
        refine PW.wf (PW_cons (tkOb ?_ ?_ ?_ ?_ ?_ ?_ ?_) (PW_cons (fun _ h => arR_congr (fun j hj => ?_) h) (PW_cons (fun _ h => ACC_6 h) (PW_cons (fun _ h => h) PW_nil)))) (WF_pick [1, 2, 3, 0] rfl rfl h1)
        all_goals first | rfl | (rw [if_pos hj]; unfold LQ; rw [if_pos (by omega), Int.toNat_natCast])
      · refine x_aload_n C eX6_init_45 rfl ?_
        refine x_getR 0 C f_RX6_11 eX6_init_46 rfl rfl ?_
        refine x_iload_n C eX6_init_49 rfl ?_
        refine x_new C n_RX6_9 eX6_init_50 (by first | exact nle rfl | omega) (by first | exact nle rfl | omega) (fun a9 => ?_)
        refine x_dup C eX6_init_53 rfl ?_
        refine yIN0x (ret' := none) [_, _, _, _, _] C (s_X0_init hK hS) v_X0_init vi_X0_init rfl sn_RX6_31 eX6_init_54 (fun _ _ h => WF_pick [0, 1, 2, 3, 4, 5] rfl rfl h) rfl (by first | exact nle rfl | omega) (by first | exact nle rfl | omega) (by first | exact nle rfl | omega) (by first | exact nle rfl | omega) (fun A9 hA9 => ?_)
        refine x_pick [_, _, _, _, _, _, _, _, _, _, _, _, _, _, _] [0, 1, 2, 3, 4, 5, 6, 7, 8, 9, 10, 11, 12, 13, 14] rfl rfl ?_
        refine x_ws (LN G M a9 (A9 1) bIni :: [_, _, _, _, _]) (fun cf0 c hw => WF_close (L := lnA G a9 A9 bIni) (R := [_, _, _, _, _]) hw (fun d hd => ⟨A9, ⟨NM_0 hA9, rfl⟩, hd⟩)) ?_
        refine x_aast [_, _, _, _, _, _] 2 0 C eX6_init_57 rfl (Or.inl ⟨rfl, rfl⟩) (by decide) (by omega) rfl LN_obj rfl ?_
        refine x_ws [_, _, _, _, _] (fun cf0 c hw => ACC_s (R := [_, _, _, _]) (WF_pick [3, 0, 1, 2, 4, 5] rfl rfl hw)) ?_
        refine x_iinc [_, _] C eX6_init_58 rfl rfl rfl ?_
        refine x_goto (pc' := 36) C eX6_init_61 rfl ?_
        have hh := ih (j + 1) (fun k => if k = j then a9 else La k) (fun k => if k = j then A9 1 else Qa k) (by omega) (by omega)
        rw [show 3 + 10 * (j + 1) = 3 + 10 * j + 1 + 9 by omega, show 209 + 278 * (j + 1) = 209 + 278 * j + 18 + 260 by omega] at hh
        refine x_ws [ob t 8 (tkS al lg) (up (up (fun _ => 0) 2 1) 5 1), arR G 5 al 6 (fun x9 => if x9 < j + 1 then some ((fun k => if k = j then a9 else La k) x9) else none), ACC G M (j + 1) (fun k => if k = j then a9 else La k) (fun k => if k = j then A9 1 else Qa k), ob lg 3 [some (.ref la), none, none] (lgI 0 0), ar G 0 la 200 200 (fun _ => 0)] (fun cf0 c hw => ?_) hh
        refine PW.wf (PW_cons (fun _ h => h) (PW_cons (fun _ h => arR_congr (fun k hk => ?_) h) PW_rf)) (WF_pick [1, 2, 0, 3, 4] rfl rfl hw)
        rw [Int.toNat_natCast]
        by_cases c1 : k = j
        · rw [if_pos c1, if_pos (by omega)]
          exact (congrArg some (if_pos c1)).symm
        · rw [if_neg c1]
          by_cases c2 : k < j
          · rw [if_pos c2, if_pos (by omega)]
            exact (congrArg some (if_neg c1)).symm
          · rw [if_neg c2, if_neg (by omega)]
  refine x_aload_n C eX6_init_0 rfl ?_
  refine x_objInit C ⟨s_RX6_3, s2_obj⟩ eX6_init_1 rfl (by first | exact nle rfl | omega) (by first | exact nle rfl | omega) ?_
  refine x_aload_n C eX6_init_4 rfl ?_
  refine x_bipush C eX6_init_5 rfl ?_
  refine x_anew (N := 6) (t := 5) C cl_RX6_9 (Or.inl ⟨rfl, rfl⟩) eX6_init_7 rfl (by first | exact nle rfl | omega) (by first | exact nle rfl | omega) (by first | exact nle rfl | omega) (fun al => ?_)
  refine x_putFR [_, _, _, _, _, _, _, _, _] [_, _] 1 C f_RX6_11 eX6_init_10 (by intro C T N h; cases h; rfl) rfl (nlt rfl) rfl rfl rfl rfl ?_
  refine x_aload_n C eX6_init_13 rfl ?_
  refine x_new C n_RX6_17 eX6_init_14 (by first | exact nle rfl | omega) (by first | exact nle rfl | omega) (fun lg => ?_)
  refine x_dup C eX6_init_17 rfl ?_
  refine yIN0x (ret' := none) [_, _] C (s_X1_init hK ) v_X1_init vi_X1_init rfl sn_RX6_19 eX6_init_18 (fun _ _ h => WF_pick [0, 1, 2] rfl rfl h) rfl (by first | exact nle rfl | omega) (by first | exact nle rfl | omega) (by first | exact nle rfl | omega) (by first | exact nle rfl | omega) (fun x18 hx18 => ?_)
  refine x_putFR [_, _, _, _, _, _, _, _, _] [_, _, _, _] 3 C f_RX6_20 eX6_init_21 (by intro C T N h; cases h; rfl) rfl (nlt rfl) rfl rfl rfl rfl ?_
  refine x_aload_n C eX6_init_24 rfl ?_
  refine x_iconst C eX6_init_25 ?_
  refine x_putI [_, _, _, _] 3 C f_RX6_24 eX6_init_26 rfl rfl rfl ?_
  refine x_aload_n C eX6_init_29 rfl ?_
  refine x_iconst C eX6_init_30 ?_
  refine x_putI [_, _, _, _] 3 C f_RX6_28 eX6_init_31 rfl rfl rfl ?_
  refine x_iconst C eX6_init_34 ?_
  refine x_istore_n [_, _] C eX6_init_35 rfl rfl (nlt rfl) ?_
  refine x_ws [ob t 8 (tkS al lg) (up (up (fun _ => 0) 2 1) 5 1), arR G 5 al 6 (fun x9 => if x9 < 0 then some ((fun _ => 0) x9) else none), ACC G M (0) (fun _ => 0) (fun _ => 0), ob lg 3 [some (.ref x18), none, none] (lgI 0 0), ar G 0 x18 200 200 (fun _ => 0)] (fun cf0 c hw => ?_) (loop al lg x18 10 0 (fun _ => 0) (fun _ => 0) (by omega) (by omega))
  have h := ACC_0 (G := G) (M := M) (La := fun _ => 0) (Qa := fun _ => 0) (R := [_, _, _, _]) (WF_pick [3, 2, 0, 1] rfl rfl hw)
  exact PW.wf (PW_cons (fun _ h => h) (PW_cons (fun _ h => arR_congr (fun j hj => by rw [if_neg (by omega)]) h) PW_rf)) (WF_pick [1, 2, 0, 3, 4] rfl rfl h)
