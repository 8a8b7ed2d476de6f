/-! New objects of the class. -/
theorem fam6_nil {Q : Nat → SA} (h : ∀ j, j < 6 → Q j = WL []) (d : Sto) : fam6 Q d := by
  have e : ∀ d : Sto, WL [] d := fun d => ⟨fun _ => s_no, fun i P hi => by simp at hi, fun i j a hi => absurd hi (Nat.not_lt_zero i), fun i a e hi => absurd hi (Nat.not_lt_zero i), fun a e he => by cases he⟩
  refine ⟨fun _ => s_no, fun i P hi => ?_, fun _ _ _ _ _ _ => Or.inl rfl, fun i a e _ he => (by cases he), fun a e he => (by cases he)⟩
  match i, hi with
  | 0, rfl => rw [h 0 (by decide)]; exact e _
  | 1, rfl => rw [h 1 (by decide)]; exact e _
  | 2, rfl => rw [h 2 (by decide)]; exact e _
  | 3, rfl => rw [h 3 (by decide)]; exact e _
  | 4, rfl => rw [h 4 (by decide)]; exact e _
  | 5, rfl => rw [h 5 (by decide)]; exact e _
theorem WF_any {P : SA} {ws : List SA} {cf c : Sto} (hp : ∀ d, P d) (h : WF ws cf c) : WF (P :: ws) cf c := WF_close (L := []) (R := ws) h (fun d _ => hp d)
theorem WF_PS0 {G : Gm} {M : Pool} {pa : Nat} {N : Nat → Net} {R : List SA} {cf c : Sto} (h : WF (arR G 6 pa 6 (fun _ => none) :: R) cf c) : WF (PS G M pa 0 N :: R) cf c :=
  WF_close (L := [fam6 (pQ G M (fun _ => none) (fun _ _ => 0) 0 N), arR G 6 pa 6 (fun _ => none)]) (WF_any (fun d => fam6_nil (fun j _ => pQ_none rfl) d) h) (fun d hd => ⟨fun _ => none, fun _ _ => 0, fun j hj => absurd hj (by omega), WF_pick [1, 0] rfl rfl hd⟩)
theorem WF_SS0 {G : Gm} {M : Pool} {sl : Nat} {K : Nat → Net} {R : List SA} {cf c : Sto} (h : WF (arR G 6 sl 2 (fun _ => none) :: R) cf c) : WF (SS G M sl (fun _ => 0) K :: R) cf c :=
  WF_close (L := [fam6 (pQ G M (fun _ => none) (fun _ _ => 0) 6 K), arR G 6 sl 2 (fun _ => none)]) (WF_any (fun d => fam6_nil (fun j _ => pQ_none rfl) d) h) (fun d hd => ⟨fun _ => none, fun _ _ => 0, ⟨fun j _ => by simp, fun _ _ => rfl⟩, WF_pick [1, 0] rfl rfl hd⟩)

set_option maxHeartbeats 4000000 in
set_option maxRecDepth 100000 in
theorem s_X5_init {G : Gm} {l : Launch} (hK : KG G) {tk q : Nat}  : MD G l yX5_init cX5_init 2 none 2 0 0 [.ref tk, .ref q] [ob tk 7 [some .null, none, none, none, none] (fun _ => 0)] none [ob tk 7 [some (.ref q), none, none, none, none] (fun _ => 0)] := by
  refine MX_of (lv := [some (.ref tk), some (.ref q)]) hK (by decide +kernel) rfl (nle rfl) (fun X C F => ?_)
  have C : OKc G X l RX5 "<init>" cX5_init 2 none 2 0 0 := C
  refine x_aload_n C eX5_init_0 rfl ?_
  refine x_objInit C ⟨s_RX5_3, s2_obj⟩ eX5_init_1 rfl (nle rfl) (nle rfl) ?_
  refine x_aload_n C eX5_init_4 rfl ?_
  refine x_aload_n C eX5_init_5 rfl ?_
  refine x_putFR [_, _, _, _, _] [_] 0 C f_RX5_9 eX5_init_6 (by intro C T N h; cases h; rfl) rfl (nlt rfl) rfl rfl rfl rfl ?_
  refine x_vret C F eX5_init_9 () rfl trivial (fun cf c h => ?_) (nle rfl) (nle rfl)
  exact WF_pick [0] rfl rfl h

set_option maxHeartbeats 4000000 in
set_option maxRecDepth 100000 in
theorem s_X2_init {G : Gm} {l : Launch} (hK : KG G) {pa q tr : Nat}  : MD G l yX2_init cX2_init 3 none 3 5 129 [.ref pa, .ref q, .ref tr] [ob pa 4 [some .null, some .null, some .null, some .null, none, none, none, none, none] (fun _ => 0)] none [PRS G pa q tr] := by
  refine MX_of (lv := [some (.ref pa), some (.ref q), some (.ref tr)]) hK (by decide +kernel) rfl (nle rfl) (fun X C F => ?_)
  have C : OKc G X l RX2 "<init>" cX2_init 3 none 3 5 129 := C
  refine x_aload_n C eX2_init_0 rfl ?_
  refine x_objInit C ⟨s_RX2_3, s2_obj⟩ eX2_init_1 rfl (nle rfl) (nle rfl) ?_
  refine x_aload_n C eX2_init_4 rfl ?_
  refine x_new C n_RX2_9 eX2_init_5 (nle rfl) (nle rfl) (fun qb => ?_)
  refine x_dup C eX2_init_8 rfl ?_
  refine yIN0x (ret' := none) [_] C (s_X3_init hK ) v_X3_init vi_X3_init rfl sn_RX2_11 eX2_init_9 (fun _ _ h => WF_pick [0, 1] rfl rfl h) rfl (nle rfl) (nle rfl) (nle rfl) (nle rfl) (fun x9 hx9 => ?_)
  refine x_putFR [_, _, _, _, _, _, _, _, _] [_, _, _] 2 C f_RX2_12 eX2_init_12 (by intro C T N h; cases h; rfl) rfl (nlt rfl) rfl rfl rfl rfl ?_
  refine x_aload_n C eX2_init_15 rfl ?_
  refine x_new C n_RX2_9 eX2_init_16 (nle rfl) (nle rfl) (fun ql => ?_)
  refine x_dup C eX2_init_19 rfl ?_
  refine yIN0x (ret' := none) [_, _, _] C (s_X3_init hK ) v_X3_init vi_X3_init rfl sn_RX2_11 eX2_init_20 (fun _ _ h => WF_pick [0, 1, 2, 3] rfl rfl h) rfl (nle rfl) (nle rfl) (nle rfl) (nle rfl) (fun x20 hx20 => ?_)
  refine x_putFR [_, _, _, _, _, _, _, _, _] [_, _, _, _, _] 4 C f_RX2_18 eX2_init_23 (by intro C T N h; cases h; rfl) rfl (nlt rfl) rfl rfl rfl rfl ?_
  refine x_aload_n C eX2_init_26 rfl ?_
  refine x_new C n_RX2_21 eX2_init_27 (nle rfl) (nle rfl) (fun tk => ?_)
  refine x_dup C eX2_init_30 rfl ?_
  refine x_aload_n C eX2_init_31 rfl ?_
  refine yI1v (ret' := none) [_, _, _, _, _] [_, _, _, _, _, _] C (s_X5_init hK ) v_X5_init vi_X5_init rfl s_RX2_23 eX2_init_32 (fun _ _ h => WF_pick [0, 1, 2, 3, 4, 5] rfl rfl h) rfl (nle rfl) (nle rfl) (nle rfl) (nle rfl) rfl ?_
  refine x_putFR [_, _, _, _, _, _, _, _, _] [_, _, _, _, _, _] 5 C f_RX2_26 eX2_init_35 (by intro C T N h; cases h; rfl) rfl (nlt rfl) rfl rfl rfl rfl ?_
  refine x_aload_n C eX2_init_38 rfl ?_
  refine x_aload_n C eX2_init_39 rfl ?_
  refine x_putFR [_, _, _, _, _, _, _, _, _] [_, _, _, _, _, _] 5 C f_RX2_30 eX2_init_40 (by intro C T N h; cases h; rfl) rfl (nlt rfl) rfl rfl rfl rfl ?_
  refine x_vret C F eX2_init_43 () rfl trivial (fun cf c h => ?_) (nle rfl) (nle rfl)
  exact WF_cPR (tz := 0) ⟨by decide, by decide, by decide⟩ (R := []) (WF_pick [5, 0, 3, 4, 1, 2] rfl rfl h)

set_option maxHeartbeats 4000000 in
set_option maxRecDepth 100000 in
theorem s_X7_init {G : Gm} {l : Launch} (hK : KG G) {e : Nat} (hS : KS G) : MX G l yX7_init cX7_init 1 none 5 140 4722 [.ref e] [ob e 9 [some .null, some .null, some .null, some .null, some .null, some .null, none, some .null, none, none] (fun _ => 0)] (fun _ : (Nat × Nat × Nat × Nat × Nat × Nat × Nat × Nat × Nat) × (Int → Nat) × (Int → Nat) => none) (fun _ => True) (fun x : (Nat × Nat × Nat × Nat × Nat × Nat × Nat × Nat × Nat) × (Int → Nat) × (Int → Nat) => [ob e 9 (ecS x.1.1 x.1.2.1 x.1.2.2.1 x.1.2.2.2.1 x.1.2.2.2.2.1 x.1.2.2.2.2.2.1 x.1.2.2.2.2.2.2.1) (up (fun _ => 0) 9 (-1)), TO G [] x.1.2.2.1 x.2.1 nInit, TG G x.1.2.2.2.1 x.2.2, PRS G x.1.2.2.2.2.1 x.1.1 x.1.2.2.2.1, ob x.1.1 6 [some (.ref x.1.2.2.2.2.2.2.2.1), none] (fun _ => 0), ar G 1 x.1.2.2.2.2.2.2.2.1 400 400 (fun _ => 0), ob x.1.2.1 6 [some (.ref x.1.2.2.2.2.2.2.2.2), none] (fun _ => ((([] : List Int)).length : Int)), ar G 1 x.1.2.2.2.2.2.2.2.2 400 (([] : List Int)).length (oF (([] : List Int))), PL G [], PS G [] x.1.2.2.2.2.2.1 0 (fun _ => Zn), SS G [] x.1.2.2.2.2.2.2.1 (fun _ => 0) (fun _ => Zn)]) := by
  refine MX_of (lv := [some (.ref e)]) hK (by decide +kernel) rfl (by first | exact nle rfl | omega) (fun X C F => ?_)
  have C : OKc G X l RX7 "<init>" cX7_init 1 none 5 140 4722 := C
  refine x_aload_n C eX7_init_0 rfl ?_
  refine x_objInit C ⟨s_RX7_1, s2_obj⟩ eX7_init_1 rfl (by first | exact nle rfl | omega) (by first | exact nle rfl | omega) ?_
  refine x_aload_n C eX7_init_4 rfl ?_
  refine x_new C n_RX7_7 eX7_init_5 (by first | exact nle rfl | omega) (by first | exact nle rfl | omega) (fun ip => ?_)
  refine x_dup C eX7_init_8 rfl ?_
  refine yIN0x (ret' := none) [_] C (s_X4_init hK ) v_X4_init vi_X4_init rfl sn_RX7_9 eX7_init_9 (fun _ _ h => WF_pick [0, 1] rfl rfl h) rfl (by first | exact nle rfl | omega) (by first | exact nle rfl | omega) (by first | exact nle rfl | omega) (by first | exact nle rfl | omega) (fun x9 hx9 => ?_)
  refine x_putFR [_, _, _, _, _, _, _, _, _, _] [_, _, _] 2 C f_RX7_10 eX7_init_12 (by intro C T N h; cases h; rfl) rfl (nlt rfl) rfl rfl rfl rfl ?_
  refine x_aload_n C eX7_init_15 rfl ?_
  refine x_new C n_RX7_7 eX7_init_16 (by first | exact nle rfl | omega) (by first | exact nle rfl | omega) (fun op => ?_)
  refine x_dup C eX7_init_19 rfl ?_
  refine yIN0x (ret' := none) [_, _, _] C (s_X4_init hK ) v_X4_init vi_X4_init rfl sn_RX7_9 eX7_init_20 (fun _ _ h => WF_pick [0, 1, 2, 3] rfl rfl h) rfl (by first | exact nle rfl | omega) (by first | exact nle rfl | omega) (by first | exact nle rfl | omega) (by first | exact nle rfl | omega) (fun x20 hx20 => ?_)
  refine x_putFR [_, _, _, _, _, _, _, _, _, _] [_, _, _, _, _] 4 C f_RX7_16 eX7_init_23 (by intro C T N h; cases h; rfl) rfl (nlt rfl) rfl rfl rfl rfl ?_
  refine x_aload_n C eX7_init_26 rfl ?_
  refine x_new C n_RX7_19 eX7_init_27 (by first | exact nle rfl | omega) (by first | exact nle rfl | omega) (fun t1 => ?_)
  refine x_dup C eX7_init_30 rfl ?_
  refine yI0x (ret' := none) [_, _, _, _, _] C (s_X6_init hK (M := []) hS) v_X6_init vi_X6_init rfl s_RX7_21 eX7_init_31 (fun _ _ h => WF_pick [0, 1, 2, 3, 4, 5] rfl rfl h) rfl (by first | exact nle rfl | omega) (by first | exact nle rfl | omega) (by first | exact nle rfl | omega) (by first | exact nle rfl | omega) (fun x31 hx31 => ?_)
  refine x_putFR [_, _, _, _, _, _, _, _, _, _] [_, _, _, _, _, _] 5 C f_RX7_22 eX7_init_34 (by intro C T N h; cases h; rfl) rfl (nlt rfl) rfl rfl rfl rfl ?_
  refine x_aload_n C eX7_init_37 rfl ?_
  refine x_new C n_RX7_19 eX7_init_38 (by first | exact nle rfl | omega) (by first | exact nle rfl | omega) (fun tr1 => ?_)
  refine x_dup C eX7_init_41 rfl ?_
  refine yI0x (ret' := none) [_, _, _, _, _, _] C (s_X6_init hK (M := []) hS) v_X6_init vi_X6_init rfl s_RX7_21 eX7_init_42 (fun _ _ h => WF_pick [0, 1, 2, 3, 4, 5, 6] rfl rfl h) rfl (by first | exact nle rfl | omega) (by first | exact nle rfl | omega) (by first | exact nle rfl | omega) (by first | exact nle rfl | omega) (fun x42 hx42 => ?_)
  refine x_putFR [_, _, _, _, _, _, _, _, _, _] [_, _, _, _, _, _, _] 6 C f_RX7_26 eX7_init_45 (by intro C T N h; cases h; rfl) rfl (nlt rfl) rfl rfl rfl rfl ?_
  refine x_aload_n C eX7_init_48 rfl ?_
  refine x_new C n_RX7_29 eX7_init_49 (by first | exact nle rfl | omega) (by first | exact nle rfl | omega) (fun ps1 => ?_)
  refine x_dup C eX7_init_52 rfl ?_
  refine x_aload_n C eX7_init_53 rfl ?_
  refine x_getR 7 C f_RX7_10 eX7_init_54 rfl rfl ?_
  refine x_aload_n C eX7_init_57 rfl ?_
  refine x_getR 7 C f_RX7_26 eX7_init_58 rfl rfl ?_
  refine yI2w (ret' := none) [_, _, _, _, _, _, _] [_, _, _, _, _, _, _, _] C (s_X2_init hK ) v_X2_init vi_X2_init rfl s_RX7_31 eX7_init_61 (fun _ _ h => WF_pick [0, 1, 2, 3, 4, 5, 6, 7] rfl rfl h) rfl (by first | exact nle rfl | omega) (by first | exact nle rfl | omega) (by first | exact nle rfl | omega) (by first | exact nle rfl | omega) rfl ?_
  refine x_putFR [_, _, _, _, _, _, _, _, _, _] [_, _, _, _, _, _, _, _] 7 C f_RX7_34 eX7_init_64 (by intro C T N h; cases h; rfl) rfl (nlt rfl) rfl rfl rfl rfl ?_
  refine x_aload_n C eX7_init_67 rfl ?_
  refine x_bipush C eX7_init_68 rfl ?_
  refine x_anew (N := 6) (t := 6) C cl_RX7_19 (Or.inr ⟨rfl, rfl⟩) eX7_init_70 rfl (by first | exact nle rfl | omega) (by first | exact nle rfl | omega) (by first | exact nle rfl | omega) (fun pa1 => ?_)
  refine x_putFR [_, _, _, _, _, _, _, _, _, _] [_, _, _, _, _, _, _, _, _] 8 C f_RX7_38 eX7_init_73 (by intro C T N h; cases h; rfl) rfl (nlt rfl) rfl rfl rfl rfl ?_
  refine x_aload_n C eX7_init_76 rfl ?_
  refine x_iconst C eX7_init_77 ?_
  refine x_anew (N := 2) (t := 6) C cl_RX7_19 (Or.inr ⟨rfl, rfl⟩) eX7_init_78 rfl (by first | exact nle rfl | omega) (by first | exact nle rfl | omega) (by first | exact nle rfl | omega) (fun sl1 => ?_)
  refine x_putFR [_, _, _, _, _, _, _, _, _, _] [_, _, _, _, _, _, _, _, _, _] 9 C f_RX7_42 eX7_init_81 (by intro C T N h; cases h; rfl) rfl (nlt rfl) rfl rfl rfl rfl ?_
  refine x_aload_n C eX7_init_84 rfl ?_
  refine x_iconst C eX7_init_85 ?_
  refine x_putI [_, _, _, _, _, _, _, _, _, _] 9 C f_RX7_45 eX7_init_86 rfl rfl rfl ?_
  refine x_vret C F eX7_init_89 ((ip, op, t1, tr1, ps1, pa1, sl1, x9, x20), x31, x42) rfl trivial (fun cf c h => ?_) (by first | exact nle rfl | omega) (by first | exact nle rfl | omega)
  have h1 := WF_PS0 (M := []) (N := fun _ => Zn) (R := [_, _, _, _, _, _, _, _, _]) (WF_pick [1, 0, 9, 4, 3, 2, 7, 8, 5, 6] rfl rfl h)
  have h2 := WF_SS0 (M := []) (K := fun _ => Zn) (R := [_, _, _, _, _, _, _, _, _]) (WF_pick [1, 0, 2, 3, 4, 5, 6, 7, 8, 9] rfl rfl h1)
  have h3 := WF_any (P := PL G []) (fun d x hx => absurd hx List.not_mem_nil) h2
  refine PW.wf (PW_cons (fun _ h => h) (PW_cons (fun _ h => h) (PW_cons (fun d h => TG_of h) (PW_cons (fun _ h => h) (PW_cons (fun _ h => h) (PW_cons (fun _ h => h) (PW_cons (fun _ h => h) (PW_cons (fun _ h => ar_congr (Nat.zero_le _) (fun j hj => absurd hj (Nat.not_lt_zero j)) h) PW_rf)))))))) (WF_pick [3, 4, 5, 6, 7, 8, 9, 10, 0, 2, 1] rfl rfl h3)
