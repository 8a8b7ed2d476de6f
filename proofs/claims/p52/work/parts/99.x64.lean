/-! The start: what the premises give. -/
theorem LT_1 {w : Cond} (i : Nat) (h : tables_1_1[i]? = some w) : w ∈ lw_tbl := List.mem_append_right _ (show w ∈ tables_1 from List.mem_append_left _ (List.mem_of_getElem? h))
theorem LT_2 {w : Cond} (i : Nat) (h : tables_1_2[i]? = some w) : w ∈ lw_tbl := List.mem_append_right _ (show w ∈ tables_1 from List.mem_append_right _ (List.mem_append_left _ (List.mem_of_getElem? h)))
theorem LT_3 {w : Cond} (i : Nat) (h : tables_1_3[i]? = some w) : w ∈ lw_tbl := List.mem_append_right _ (show w ∈ tables_1 from List.mem_append_right _ (List.mem_append_right _ (List.mem_append_left _ (List.mem_of_getElem? h))))
theorem LT_4 {w : Cond} (i : Nat) (h : tables_1_4[i]? = some w) : w ∈ lw_tbl := List.mem_append_right _ (show w ∈ tables_1 from List.mem_append_right _ (List.mem_append_right _ (List.mem_append_right _ (List.mem_append_left _ (List.mem_of_getElem? h)))))
theorem LT_5 {w : Cond} (i : Nat) (h : tables_1_5[i]? = some w) : w ∈ lw_tbl := List.mem_append_right _ (show w ∈ tables_1 from List.mem_append_right _ (List.mem_append_right _ (List.mem_append_right _ (List.mem_append_right _ (List.mem_of_getElem? h)))))
theorem gv {args : Array Value} {s : State} (h : (Jvm.Cond.and given_1 narrow_1).before args s = true) {k : Nat} {c : Cond} (hk : (flatC (Jvm.Cond.and given_1 narrow_1))[k]? = some c) : c.before args s = true := flat_of_before _ h c (List.mem_of_getElem? hk)
/-- a literal's String, in the heap of the start -/
def strA (s : State) (q b : Nat) (w : List Int) : Prop := (w.length ≤ 400 ∧ ∀ x ∈ w, 0 ≤ x ∧ x < 128) ∧ va_O "java/lang/String" q (fun a => s.heap.size ≤ a) s s.heap ∧ va_OF "java/lang/String" "coder" "B" (.int (zI 0)) q (fun a => s.heap.size ≤ a) s s.heap ∧ va_OF "java/lang/String" "value" "[B" (.ref b) q (fun a => s.heap.size ≤ a) s s.heap ∧ va_T .byte b w.length (fun j => .int (zI (w.getD j 0))) (fun a => s.heap.size ≤ a) s s.heap
theorem lit_ref {args : Array Value} {s : State} {own tx : String} {k : Nat} {tm : Term} (hr : (Cond.stringRef own k tx).before args s = true) (hex : (Cond.exactly tm "java/lang/String").before args s = true) (htm : tm = .string own k := by rfl) : ∃ q, vk_R own k tx q s := by
  subst htm
  obtain ⟨a, c, cA, kA, q1, -⟩ := Cond.exactly_spec (args := args) (first := s) (o := none) (s := s) (idx := []) (t := .string own k) (cls := "java/lang/String") hex
  exact ⟨a, vk_R.of hr q1⟩
theorem lit_one {args : Array Value} {s : State} {own tx : String} {k : Nat} {tm : Term} {w : List Int} (hw : w.length ≤ 400 ∧ ∀ x ∈ w, 0 ≤ x ∧ x < 128) (hr : (Cond.stringRef own k tx).before args s = true) (hex : (Cond.exactly tm "java/lang/String").before args s = true) (hco : (Cond.eq (.field tm "java/lang/String" "coder" "B") (.int (zI 0))).before args s = true)
    (har : (Cond.arrayOf (.field tm "java/lang/String" "value" "[B") .byte).before args s = true) (hle : (Cond.eq (.length (.field tm "java/lang/String" "value" "[B")) (.int (Int32.ofNat w.length))).before args s = true)
    (hel : ∀ j : Nat, j < w.length → (Cond.eq (.elem (.field tm "java/lang/String" "value" "[B") (.int (Int32.ofNat j))) (.int (zI (w.getD j 0)))).before args s = true) (htm : tm = .string own k := by rfl) : ∃ q b, vk_R own k tx q s ∧ strA s q b w := by
  subst htm
  have hA : ∀ a : Nat, a < s.heap.size → ¬ (fun a => s.heap.size ≤ a) a := fun a ha h => absurd ha (Nat.not_lt.mpr h)
  obtain ⟨a, c, cA, kA, q1, q2, q3, q4, q5, q6, -⟩ := Cond.exactly_spec (args := args) (first := s) (o := none) (s := s) (idx := []) (t := .string own k) (cls := "java/lang/String") hex
  obtain ⟨t, ht, hT⟩ := va_Tof (f := fun j => .int (zI (w.getD j 0))) (A := fun a => s.heap.size ≤ a) (by omega) har (va_eqt hle) (fun j hj => va_eqt (hel j hj)) hA
  exact ⟨a, t, vk_R.of hr q1, hw, ⟨cA, q3, q5, by rw [q6]; exact q2, hA a (Array.getElem?_eq_some_iff.mp q3).1⟩, vk_OFof q1 (va_eqt hco) hA, vk_OFof q1 ht hA, hT⟩
theorem arr_of {args : Array Value} {s : State} {ty : FieldType} (h : (Cond.arrayClass ty).before args s = true) : ∃ c : ClassId, ArrOfT s c ty ∧ s.vm.findClass ("[" ++ ty.toString) = some c := by
  obtain ⟨c, k, comp, h1, h2, h3⟩ := Cond.arrayClass_spec h
  refine ⟨c, fun n z => ?_, h1⟩
  first
  | exact ⟨fun _ h => (by cases h), k, h2, comp, h3⟩
  | exact ⟨k, comp, h2, h3⟩
  | exact ⟨k, h2, comp, h3⟩
  | exact ⟨rfl, k, comp, h2, h3⟩
  | (unfold State.isArrayOf; simp [arrV, h2, h3])
theorem arr_ov {args : Array Value} {s : State} {C : String} (h : (Cond.arrayOver (.object C)).before args s = true) : ∃ c : ClassId, ArrOfT s c (.object C) ∧ va_RA s c (.object C) := by
  obtain ⟨comp, c, k, h1, h2, h3, h4, h5⟩ := Cond.arrayOver_spec h
  refine ⟨c, fun n z => ?_, ⟨k, comp, h3, h4, h1, h5⟩⟩
  first
  | exact ⟨fun _ h => (by cases h), k, h3, comp, h4⟩
  | exact ⟨k, comp, h3, h4⟩
  | exact ⟨k, h3, comp, h4⟩
  | exact ⟨rfl, k, comp, h3, h4⟩
  | (unfold State.isArrayOf; simp [arrV, h3, h4])

set_option maxRecDepth 100000 in
theorem sl_EchoLine_Line_9 {s : State} {args : Array Value} (hts : ∀ w ∈ lw_tbl, w.before args s = true) (h : (Jvm.Cond.and given_1 narrow_1).before args s = true) : ∃ q b, vk_R "EchoLine$Line" 9 "" q s ∧ strA s q b w_none0 := lit_one (tm := .string "EchoLine$Line" 9) ⟨by decide, by decide⟩ (hts _ (LT_1 81 rfl)) (gv h (k := 243) rfl) (gv h (k := 244) (by first | rfl | decide +kernel)) (gv h (k := 245) rfl) (gv h (k := 246) (by first | rfl | decide +kernel)) (fun j hj => absurd hj (Nat.not_lt_zero j))
set_option maxRecDepth 100000 in
theorem sl_EchoLine_Tokens_54 {s : State} {args : Array Value} (hts : ∀ w ∈ lw_tbl, w.before args s = true) (h : (Jvm.Cond.and given_1 narrow_1).before args s = true) : ∃ q b, vk_R "EchoLine$Tokens" 54 "line" q s ∧ strA s q b w_line := lit_one (tm := .string "EchoLine$Tokens" 54) ⟨by decide, by decide⟩ (hts _ (LT_4 67 rfl)) (gv h (k := 445) rfl) (gv h (k := 446) (by first | rfl | decide +kernel)) (gv h (k := 447) rfl) (gv h (k := 448) (by first | rfl | decide +kernel)) (fun j hj => match j, hj with | 0, _ => gv h (k := 449) (by first | rfl | decide +kernel) | 1, _ => gv h (k := 450) (by first | rfl | decide +kernel) | 2, _ => gv h (k := 451) (by first | rfl | decide +kernel) | 3, _ => gv h (k := 452) (by first | rfl | decide +kernel) | j + 4, hj => absurd hj (by show ¬ j + 4 < 4; omega))
set_option maxRecDepth 100000 in
theorem sl_EchoLine_Tokens_60 {s : State} {args : Array Value} (hts : ∀ w ∈ lw_tbl, w.before args s = true) (h : (Jvm.Cond.and given_1 narrow_1).before args s = true) : ∃ q b, vk_R "EchoLine$Tokens" 60 "cap" q s ∧ strA s q b w_cap := lit_one (tm := .string "EchoLine$Tokens" 60) ⟨by decide, by decide⟩ (hts _ (LT_4 79 rfl)) (gv h (k := 453) rfl) (gv h (k := 454) (by first | rfl | decide +kernel)) (gv h (k := 455) rfl) (gv h (k := 456) (by first | rfl | decide +kernel)) (fun j hj => match j, hj with | 0, _ => gv h (k := 457) (by first | rfl | decide +kernel) | 1, _ => gv h (k := 458) (by first | rfl | decide +kernel) | 2, _ => gv h (k := 459) (by first | rfl | decide +kernel) | j + 3, hj => absurd hj (by show ¬ j + 3 < 3; omega))
set_option maxRecDepth 100000 in
theorem sl_EchoLine_Tokens_62 {s : State} {args : Array Value} (hts : ∀ w ∈ lw_tbl, w.before args s = true) (h : (Jvm.Cond.and given_1 narrow_1).before args s = true) : ∃ q b, vk_R "EchoLine$Tokens" 62 "marks" q s ∧ strA s q b w_marks := lit_one (tm := .string "EchoLine$Tokens" 62) ⟨by decide, by decide⟩ (hts _ (LT_4 80 rfl)) (gv h (k := 460) rfl) (gv h (k := 461) (by first | rfl | decide +kernel)) (gv h (k := 462) rfl) (gv h (k := 463) (by first | rfl | decide +kernel)) (fun j hj => match j, hj with | 0, _ => gv h (k := 464) (by first | rfl | decide +kernel) | 1, _ => gv h (k := 465) (by first | rfl | decide +kernel) | 2, _ => gv h (k := 466) (by first | rfl | decide +kernel) | 3, _ => gv h (k := 467) (by first | rfl | decide +kernel) | 4, _ => gv h (k := 468) (by first | rfl | decide +kernel) | j + 5, hj => absurd hj (by show ¬ j + 5 < 5; omega))
set_option maxRecDepth 100000 in
theorem sl_EchoLine_Tokens_64 {s : State} {args : Array Value} (hts : ∀ w ∈ lw_tbl, w.before args s = true) (h : (Jvm.Cond.and given_1 narrow_1).before args s = true) : ∃ q b, vk_R "EchoLine$Tokens" 64 "share" q s ∧ strA s q b w_share := lit_one (tm := .string "EchoLine$Tokens" 64) ⟨by decide, by decide⟩ (hts _ (LT_4 81 rfl)) (gv h (k := 469) rfl) (gv h (k := 470) (by first | rfl | decide +kernel)) (gv h (k := 471) rfl) (gv h (k := 472) (by first | rfl | decide +kernel)) (fun j hj => match j, hj with | 0, _ => gv h (k := 473) (by first | rfl | decide +kernel) | 1, _ => gv h (k := 474) (by first | rfl | decide +kernel) | 2, _ => gv h (k := 475) (by first | rfl | decide +kernel) | 3, _ => gv h (k := 476) (by first | rfl | decide +kernel) | 4, _ => gv h (k := 477) (by first | rfl | decide +kernel) | j + 5, hj => absurd hj (by show ¬ j + 5 < 5; omega))
set_option maxRecDepth 100000 in
theorem sl_EchoLine_Tokens_66 {s : State} {args : Array Value} (hts : ∀ w ∈ lw_tbl, w.before args s = true) (h : (Jvm.Cond.and given_1 narrow_1).before args s = true) : ∃ q b, vk_R "EchoLine$Tokens" 66 "echo" q s ∧ strA s q b w_echo := lit_one (tm := .string "EchoLine$Tokens" 66) ⟨by decide, by decide⟩ (hts _ (LT_4 82 rfl)) (gv h (k := 478) rfl) (gv h (k := 479) (by first | rfl | decide +kernel)) (gv h (k := 480) rfl) (gv h (k := 481) (by first | rfl | decide +kernel)) (fun j hj => match j, hj with | 0, _ => gv h (k := 482) (by first | rfl | decide +kernel) | 1, _ => gv h (k := 483) (by first | rfl | decide +kernel) | 2, _ => gv h (k := 484) (by first | rfl | decide +kernel) | 3, _ => gv h (k := 485) (by first | rfl | decide +kernel) | j + 4, hj => absurd hj (by show ¬ j + 4 < 4; omega))
set_option maxRecDepth 100000 in
theorem sl_EchoLine_Tokens_68 {s : State} {args : Array Value} (hts : ∀ w ∈ lw_tbl, w.before args s = true) (h : (Jvm.Cond.and given_1 narrow_1).before args s = true) : ∃ q b, vk_R "EchoLine$Tokens" 68 "none" q s ∧ strA s q b w_none := lit_one (tm := .string "EchoLine$Tokens" 68) ⟨by decide, by decide⟩ (hts _ (LT_4 83 rfl)) (gv h (k := 486) rfl) (gv h (k := 487) (by first | rfl | decide +kernel)) (gv h (k := 488) rfl) (gv h (k := 489) (by first | rfl | decide +kernel)) (fun j hj => match j, hj with | 0, _ => gv h (k := 490) (by first | rfl | decide +kernel) | 1, _ => gv h (k := 491) (by first | rfl | decide +kernel) | 2, _ => gv h (k := 492) (by first | rfl | decide +kernel) | 3, _ => gv h (k := 493) (by first | rfl | decide +kernel) | j + 4, hj => absurd hj (by show ¬ j + 4 < 4; omega))
set_option maxRecDepth 100000 in
theorem sl_EchoLine_Tokens_70 {s : State} {args : Array Value} (hts : ∀ w ∈ lw_tbl, w.before args s = true) (h : (Jvm.Cond.and given_1 narrow_1).before args s = true) : ∃ q b, vk_R "EchoLine$Tokens" 70 "each" q s ∧ strA s q b w_each := lit_one (tm := .string "EchoLine$Tokens" 70) ⟨by decide, by decide⟩ (hts _ (LT_4 84 rfl)) (gv h (k := 494) rfl) (gv h (k := 495) (by first | rfl | decide +kernel)) (gv h (k := 496) rfl) (gv h (k := 497) (by first | rfl | decide +kernel)) (fun j hj => match j, hj with | 0, _ => gv h (k := 498) (by first | rfl | decide +kernel) | 1, _ => gv h (k := 499) (by first | rfl | decide +kernel) | 2, _ => gv h (k := 500) (by first | rfl | decide +kernel) | 3, _ => gv h (k := 501) (by first | rfl | decide +kernel) | j + 4, hj => absurd hj (by show ¬ j + 4 < 4; omega))
set_option maxRecDepth 100000 in
theorem sl_EchoLine_Tokens_72 {s : State} {args : Array Value} (hts : ∀ w ∈ lw_tbl, w.before args s = true) (h : (Jvm.Cond.and given_1 narrow_1).before args s = true) : ∃ q b, vk_R "EchoLine$Tokens" 72 "whole" q s ∧ strA s q b w_whole := lit_one (tm := .string "EchoLine$Tokens" 72) ⟨by decide, by decide⟩ (hts _ (LT_4 85 rfl)) (gv h (k := 502) rfl) (gv h (k := 503) (by first | rfl | decide +kernel)) (gv h (k := 504) rfl) (gv h (k := 505) (by first | rfl | decide +kernel)) (fun j hj => match j, hj with | 0, _ => gv h (k := 506) (by first | rfl | decide +kernel) | 1, _ => gv h (k := 507) (by first | rfl | decide +kernel) | 2, _ => gv h (k := 508) (by first | rfl | decide +kernel) | 3, _ => gv h (k := 509) (by first | rfl | decide +kernel) | 4, _ => gv h (k := 510) (by first | rfl | decide +kernel) | j + 5, hj => absurd hj (by show ¬ j + 5 < 5; omega))
set_option maxRecDepth 100000 in
theorem sl_EchoLine_Tokens_74 {s : State} {args : Array Value} (hts : ∀ w ∈ lw_tbl, w.before args s = true) (h : (Jvm.Cond.and given_1 narrow_1).before args s = true) : ∃ q b, vk_R "EchoLine$Tokens" 74 "lend" q s ∧ strA s q b w_lend := lit_one (tm := .string "EchoLine$Tokens" 74) ⟨by decide, by decide⟩ (hts _ (LT_4 86 rfl)) (gv h (k := 511) rfl) (gv h (k := 512) (by first | rfl | decide +kernel)) (gv h (k := 513) rfl) (gv h (k := 514) (by first | rfl | decide +kernel)) (fun j hj => match j, hj with | 0, _ => gv h (k := 515) (by first | rfl | decide +kernel) | 1, _ => gv h (k := 516) (by first | rfl | decide +kernel) | 2, _ => gv h (k := 517) (by first | rfl | decide +kernel) | 3, _ => gv h (k := 518) (by first | rfl | decide +kernel) | j + 4, hj => absurd hj (by show ¬ j + 4 < 4; omega))
set_option maxRecDepth 100000 in
theorem sl_EchoLine_Tokens_76 {s : State} {args : Array Value} (hts : ∀ w ∈ lw_tbl, w.before args s = true) (h : (Jvm.Cond.and given_1 narrow_1).before args s = true) : ∃ q b, vk_R "EchoLine$Tokens" 76 "to" q s ∧ strA s q b w_to := lit_one (tm := .string "EchoLine$Tokens" 76) ⟨by decide, by decide⟩ (hts _ (LT_4 87 rfl)) (gv h (k := 519) rfl) (gv h (k := 520) (by first | rfl | decide +kernel)) (gv h (k := 521) rfl) (gv h (k := 522) (by first | rfl | decide +kernel)) (fun j hj => match j, hj with | 0, _ => gv h (k := 523) (by first | rfl | decide +kernel) | 1, _ => gv h (k := 524) (by first | rfl | decide +kernel) | j + 2, hj => absurd hj (by show ¬ j + 2 < 2; omega))
set_option maxRecDepth 100000 in
theorem sl_EchoLine_Tokens_78 {s : State} {args : Array Value} (hts : ∀ w ∈ lw_tbl, w.before args s = true) (h : (Jvm.Cond.and given_1 narrow_1).before args s = true) : ∃ q b, vk_R "EchoLine$Tokens" 78 "for" q s ∧ strA s q b w_for := lit_one (tm := .string "EchoLine$Tokens" 78) ⟨by decide, by decide⟩ (hts _ (LT_4 88 rfl)) (gv h (k := 525) rfl) (gv h (k := 526) (by first | rfl | decide +kernel)) (gv h (k := 527) rfl) (gv h (k := 528) (by first | rfl | decide +kernel)) (fun j hj => match j, hj with | 0, _ => gv h (k := 529) (by first | rfl | decide +kernel) | 1, _ => gv h (k := 530) (by first | rfl | decide +kernel) | 2, _ => gv h (k := 531) (by first | rfl | decide +kernel) | j + 3, hj => absurd hj (by show ¬ j + 3 < 3; omega))
set_option maxRecDepth 100000 in
theorem sl_EchoLine_Tokens_80 {s : State} {args : Array Value} (hts : ∀ w ∈ lw_tbl, w.before args s = true) (h : (Jvm.Cond.and given_1 narrow_1).before args s = true) : ∃ q b, vk_R "EchoLine$Tokens" 80 "type" q s ∧ strA s q b w_type := lit_one (tm := .string "EchoLine$Tokens" 80) ⟨by decide, by decide⟩ (hts _ (LT_4 89 rfl)) (gv h (k := 532) rfl) (gv h (k := 533) (by first | rfl | decide +kernel)) (gv h (k := 534) rfl) (gv h (k := 535) (by first | rfl | decide +kernel)) (fun j hj => match j, hj with | 0, _ => gv h (k := 536) (by first | rfl | decide +kernel) | 1, _ => gv h (k := 537) (by first | rfl | decide +kernel) | 2, _ => gv h (k := 538) (by first | rfl | decide +kernel) | 3, _ => gv h (k := 539) (by first | rfl | decide +kernel) | j + 4, hj => absurd hj (by show ¬ j + 4 < 4; omega))
set_option maxRecDepth 100000 in
theorem sl_EchoLineLaw_47 {s : State} {args : Array Value} (hts : ∀ w ∈ lw_tbl, w.before args s = true) (h : (Jvm.Cond.and given_1 narrow_1).before args s = true) : ∃ q b, vk_R "EchoLineLaw" 47 "line l" q s ∧ strA s q b wl_47 := lit_one (tm := .string "EchoLineLaw" 47) ⟨by decide, by decide⟩ (hts _ (LT_2 197 rfl)) (gv h (k := 267) rfl) (gv h (k := 268) (by first | rfl | decide +kernel)) (gv h (k := 269) rfl) (gv h (k := 270) (by first | rfl | decide +kernel)) (fun j hj => match j, hj with | 0, _ => gv h (k := 271) (by first | rfl | decide +kernel) | 1, _ => gv h (k := 272) (by first | rfl | decide +kernel) | 2, _ => gv h (k := 273) (by first | rfl | decide +kernel) | 3, _ => gv h (k := 274) (by first | rfl | decide +kernel) | 4, _ => gv h (k := 275) (by first | rfl | decide +kernel) | 5, _ => gv h (k := 276) (by first | rfl | decide +kernel) | j + 6, hj => absurd hj (by show ¬ j + 6 < 6; omega))
set_option maxRecDepth 100000 in
theorem sl_EchoLineLaw_58 {s : State} {args : Array Value} (hts : ∀ w ∈ lw_tbl, w.before args s = true) (h : (Jvm.Cond.and given_1 narrow_1).before args s = true) : ∃ q b, vk_R "EchoLineLaw" 58 " cap " q s ∧ strA s q b wl_58 := lit_one (tm := .string "EchoLineLaw" 58) ⟨by decide, by decide⟩ (hts _ (LT_3 103 rfl)) (gv h (k := 277) rfl) (gv h (k := 278) (by first | rfl | decide +kernel)) (gv h (k := 279) rfl) (gv h (k := 280) (by first | rfl | decide +kernel)) (fun j hj => match j, hj with | 0, _ => gv h (k := 281) (by first | rfl | decide +kernel) | 1, _ => gv h (k := 282) (by first | rfl | decide +kernel) | 2, _ => gv h (k := 283) (by first | rfl | decide +kernel) | 3, _ => gv h (k := 284) (by first | rfl | decide +kernel) | 4, _ => gv h (k := 285) (by first | rfl | decide +kernel) | j + 5, hj => absurd hj (by show ¬ j + 5 < 5; omega))
set_option maxRecDepth 100000 in
theorem sl_EchoLineLaw_63 {s : State} {args : Array Value} (hts : ∀ w ∈ lw_tbl, w.before args s = true) (h : (Jvm.Cond.and given_1 narrow_1).before args s = true) : ∃ q b, vk_R "EchoLineLaw" 63 " marks " q s ∧ strA s q b wl_63 := lit_one (tm := .string "EchoLineLaw" 63) ⟨by decide, by decide⟩ (hts _ (LT_3 129 rfl)) (gv h (k := 286) rfl) (gv h (k := 287) (by first | rfl | decide +kernel)) (gv h (k := 288) rfl) (gv h (k := 289) (by first | rfl | decide +kernel)) (fun j hj => match j, hj with | 0, _ => gv h (k := 290) (by first | rfl | decide +kernel) | 1, _ => gv h (k := 291) (by first | rfl | decide +kernel) | 2, _ => gv h (k := 292) (by first | rfl | decide +kernel) | 3, _ => gv h (k := 293) (by first | rfl | decide +kernel) | 4, _ => gv h (k := 294) (by first | rfl | decide +kernel) | 5, _ => gv h (k := 295) (by first | rfl | decide +kernel) | 6, _ => gv h (k := 296) (by first | rfl | decide +kernel) | j + 7, hj => absurd hj (by show ¬ j + 7 < 7; omega))
set_option maxRecDepth 100000 in
theorem sl_EchoLineLaw_65 {s : State} {args : Array Value} (hts : ∀ w ∈ lw_tbl, w.before args s = true) (h : (Jvm.Cond.and given_1 narrow_1).before args s = true) : ∃ q b, vk_R "EchoLineLaw" 65 " " q s ∧ strA s q b wl_65 := lit_one (tm := .string "EchoLineLaw" 65) ⟨by decide, by decide⟩ (hts _ (LT_3 130 rfl)) (gv h (k := 297) rfl) (gv h (k := 298) (by first | rfl | decide +kernel)) (gv h (k := 299) rfl) (gv h (k := 300) (by first | rfl | decide +kernel)) (fun j hj => match j, hj with | 0, _ => gv h (k := 301) (by first | rfl | decide +kernel) | j + 1, hj => absurd hj (by show ¬ j + 1 < 1; omega))
set_option maxRecDepth 100000 in
theorem sl_EchoLineLaw_67 {s : State} {args : Array Value} (hts : ∀ w ∈ lw_tbl, w.before args s = true) (h : (Jvm.Cond.and given_1 narrow_1).before args s = true) : ∃ q b, vk_R "EchoLineLaw" 67 " share " q s ∧ strA s q b wl_67 := lit_one (tm := .string "EchoLineLaw" 67) ⟨by decide, by decide⟩ (hts _ (LT_3 131 rfl)) (gv h (k := 302) rfl) (gv h (k := 303) (by first | rfl | decide +kernel)) (gv h (k := 304) rfl) (gv h (k := 305) (by first | rfl | decide +kernel)) (fun j hj => match j, hj with | 0, _ => gv h (k := 306) (by first | rfl | decide +kernel) | 1, _ => gv h (k := 307) (by first | rfl | decide +kernel) | 2, _ => gv h (k := 308) (by first | rfl | decide +kernel) | 3, _ => gv h (k := 309) (by first | rfl | decide +kernel) | 4, _ => gv h (k := 310) (by first | rfl | decide +kernel) | 5, _ => gv h (k := 311) (by first | rfl | decide +kernel) | 6, _ => gv h (k := 312) (by first | rfl | decide +kernel) | j + 7, hj => absurd hj (by show ¬ j + 7 < 7; omega))
set_option maxRecDepth 100000 in
theorem sl_EchoLineLaw_69 {s : State} {args : Array Value} (hts : ∀ w ∈ lw_tbl, w.before args s = true) (h : (Jvm.Cond.and given_1 narrow_1).before args s = true) : ∃ q b, vk_R "EchoLineLaw" 69 " echo none" q s ∧ strA s q b wl_69 := lit_one (tm := .string "EchoLineLaw" 69) ⟨by decide, by decide⟩ (hts _ (LT_3 132 rfl)) (gv h (k := 313) rfl) (gv h (k := 314) (by first | rfl | decide +kernel)) (gv h (k := 315) rfl) (gv h (k := 316) (by first | rfl | decide +kernel)) (fun j hj => match j, hj with | 0, _ => gv h (k := 317) (by first | rfl | decide +kernel) | 1, _ => gv h (k := 318) (by first | rfl | decide +kernel) | 2, _ => gv h (k := 319) (by first | rfl | decide +kernel) | 3, _ => gv h (k := 320) (by first | rfl | decide +kernel) | 4, _ => gv h (k := 321) (by first | rfl | decide +kernel) | 5, _ => gv h (k := 322) (by first | rfl | decide +kernel) | 6, _ => gv h (k := 323) (by first | rfl | decide +kernel) | 7, _ => gv h (k := 324) (by first | rfl | decide +kernel) | 8, _ => gv h (k := 325) (by first | rfl | decide +kernel) | 9, _ => gv h (k := 326) (by first | rfl | decide +kernel) | j + 10, hj => absurd hj (by show ¬ j + 10 < 10; omega))
set_option maxRecDepth 100000 in
theorem sl_EchoLineLaw_71 {s : State} {args : Array Value} (hts : ∀ w ∈ lw_tbl, w.before args s = true) (h : (Jvm.Cond.and given_1 narrow_1).before args s = true) : ∃ q b, vk_R "EchoLineLaw" 71 " echo each" q s ∧ strA s q b wl_71 := lit_one (tm := .string "EchoLineLaw" 71) ⟨by decide, by decide⟩ (hts _ (LT_3 133 rfl)) (gv h (k := 327) rfl) (gv h (k := 328) (by first | rfl | decide +kernel)) (gv h (k := 329) rfl) (gv h (k := 330) (by first | rfl | decide +kernel)) (fun j hj => match j, hj with | 0, _ => gv h (k := 331) (by first | rfl | decide +kernel) | 1, _ => gv h (k := 332) (by first | rfl | decide +kernel) | 2, _ => gv h (k := 333) (by first | rfl | decide +kernel) | 3, _ => gv h (k := 334) (by first | rfl | decide +kernel) | 4, _ => gv h (k := 335) (by first | rfl | decide +kernel) | 5, _ => gv h (k := 336) (by first | rfl | decide +kernel) | 6, _ => gv h (k := 337) (by first | rfl | decide +kernel) | 7, _ => gv h (k := 338) (by first | rfl | decide +kernel) | 8, _ => gv h (k := 339) (by first | rfl | decide +kernel) | 9, _ => gv h (k := 340) (by first | rfl | decide +kernel) | j + 10, hj => absurd hj (by show ¬ j + 10 < 10; omega))
set_option maxRecDepth 100000 in
theorem sl_EchoLineLaw_73 {s : State} {args : Array Value} (hts : ∀ w ∈ lw_tbl, w.before args s = true) (h : (Jvm.Cond.and given_1 narrow_1).before args s = true) : ∃ q b, vk_R "EchoLineLaw" 73 " echo whole" q s ∧ strA s q b wl_73 := lit_one (tm := .string "EchoLineLaw" 73) ⟨by decide, by decide⟩ (hts _ (LT_3 134 rfl)) (gv h (k := 341) rfl) (gv h (k := 342) (by first | rfl | decide +kernel)) (gv h (k := 343) rfl) (gv h (k := 344) (by first | rfl | decide +kernel)) (fun j hj => match j, hj with | 0, _ => gv h (k := 345) (by first | rfl | decide +kernel) | 1, _ => gv h (k := 346) (by first | rfl | decide +kernel) | 2, _ => gv h (k := 347) (by first | rfl | decide +kernel) | 3, _ => gv h (k := 348) (by first | rfl | decide +kernel) | 4, _ => gv h (k := 349) (by first | rfl | decide +kernel) | 5, _ => gv h (k := 350) (by first | rfl | decide +kernel) | 6, _ => gv h (k := 351) (by first | rfl | decide +kernel) | 7, _ => gv h (k := 352) (by first | rfl | decide +kernel) | 8, _ => gv h (k := 353) (by first | rfl | decide +kernel) | 9, _ => gv h (k := 354) (by first | rfl | decide +kernel) | 10, _ => gv h (k := 355) (by first | rfl | decide +kernel) | j + 11, hj => absurd hj (by show ¬ j + 11 < 11; omega))
set_option maxRecDepth 100000 in
theorem sl_EchoLineLaw_75 {s : State} {args : Array Value} (hts : ∀ w ∈ lw_tbl, w.before args s = true) (h : (Jvm.Cond.and given_1 narrow_1).before args s = true) : ∃ q b, vk_R "EchoLineLaw" 75 ";" q s ∧ strA s q b wl_75 := lit_one (tm := .string "EchoLineLaw" 75) ⟨by decide, by decide⟩ (hts _ (LT_3 135 rfl)) (gv h (k := 356) rfl) (gv h (k := 357) (by first | rfl | decide +kernel)) (gv h (k := 358) rfl) (gv h (k := 359) (by first | rfl | decide +kernel)) (fun j hj => match j, hj with | 0, _ => gv h (k := 360) (by first | rfl | decide +kernel) | j + 1, hj => absurd hj (by show ¬ j + 1 < 1; omega))
set_option maxRecDepth 100000 in
theorem sl_EchoLineLaw_77 {s : State} {args : Array Value} (hts : ∀ w ∈ lw_tbl, w.before args s = true) (h : (Jvm.Cond.and given_1 narrow_1).before args s = true) : ∃ q b, vk_R "EchoLineLaw" 77 "lend l" q s ∧ strA s q b wl_77 := lit_one (tm := .string "EchoLineLaw" 77) ⟨by decide, by decide⟩ (hts _ (LT_3 136 rfl)) (gv h (k := 361) rfl) (gv h (k := 362) (by first | rfl | decide +kernel)) (gv h (k := 363) rfl) (gv h (k := 364) (by first | rfl | decide +kernel)) (fun j hj => match j, hj with | 0, _ => gv h (k := 365) (by first | rfl | decide +kernel) | 1, _ => gv h (k := 366) (by first | rfl | decide +kernel) | 2, _ => gv h (k := 367) (by first | rfl | decide +kernel) | 3, _ => gv h (k := 368) (by first | rfl | decide +kernel) | 4, _ => gv h (k := 369) (by first | rfl | decide +kernel) | 5, _ => gv h (k := 370) (by first | rfl | decide +kernel) | j + 6, hj => absurd hj (by show ¬ j + 6 < 6; omega))
set_option maxRecDepth 100000 in
theorem sl_EchoLineLaw_79 {s : State} {args : Array Value} (hts : ∀ w ∈ lw_tbl, w.before args s = true) (h : (Jvm.Cond.and given_1 narrow_1).before args s = true) : ∃ q b, vk_R "EchoLineLaw" 79 " to l" q s ∧ strA s q b wl_79 := lit_one (tm := .string "EchoLineLaw" 79) ⟨by decide, by decide⟩ (hts _ (LT_3 137 rfl)) (gv h (k := 371) rfl) (gv h (k := 372) (by first | rfl | decide +kernel)) (gv h (k := 373) rfl) (gv h (k := 374) (by first | rfl | decide +kernel)) (fun j hj => match j, hj with | 0, _ => gv h (k := 375) (by first | rfl | decide +kernel) | 1, _ => gv h (k := 376) (by first | rfl | decide +kernel) | 2, _ => gv h (k := 377) (by first | rfl | decide +kernel) | 3, _ => gv h (k := 378) (by first | rfl | decide +kernel) | 4, _ => gv h (k := 379) (by first | rfl | decide +kernel) | j + 5, hj => absurd hj (by show ¬ j + 5 < 5; omega))
set_option maxRecDepth 100000 in
theorem sl_EchoLineLaw_81 {s : State} {args : Array Value} (hts : ∀ w ∈ lw_tbl, w.before args s = true) (h : (Jvm.Cond.and given_1 narrow_1).before args s = true) : ∃ q b, vk_R "EchoLineLaw" 81 " for " q s ∧ strA s q b wl_81 := lit_one (tm := .string "EchoLineLaw" 81) ⟨by decide, by decide⟩ (hts _ (LT_3 138 rfl)) (gv h (k := 380) rfl) (gv h (k := 381) (by first | rfl | decide +kernel)) (gv h (k := 382) rfl) (gv h (k := 383) (by first | rfl | decide +kernel)) (fun j hj => match j, hj with | 0, _ => gv h (k := 384) (by first | rfl | decide +kernel) | 1, _ => gv h (k := 385) (by first | rfl | decide +kernel) | 2, _ => gv h (k := 386) (by first | rfl | decide +kernel) | 3, _ => gv h (k := 387) (by first | rfl | decide +kernel) | 4, _ => gv h (k := 388) (by first | rfl | decide +kernel) | j + 5, hj => absurd hj (by show ¬ j + 5 < 5; omega))
set_option maxRecDepth 100000 in
theorem sl_EchoLineLaw_83 {s : State} {args : Array Value} (hts : ∀ w ∈ lw_tbl, w.before args s = true) (h : (Jvm.Cond.and given_1 narrow_1).before args s = true) : ∃ q b, vk_R "EchoLineLaw" 83 "type l" q s ∧ strA s q b wl_83 := lit_one (tm := .string "EchoLineLaw" 83) ⟨by decide, by decide⟩ (hts _ (LT_3 139 rfl)) (gv h (k := 389) rfl) (gv h (k := 390) (by first | rfl | decide +kernel)) (gv h (k := 391) rfl) (gv h (k := 392) (by first | rfl | decide +kernel)) (fun j hj => match j, hj with | 0, _ => gv h (k := 393) (by first | rfl | decide +kernel) | 1, _ => gv h (k := 394) (by first | rfl | decide +kernel) | 2, _ => gv h (k := 395) (by first | rfl | decide +kernel) | 3, _ => gv h (k := 396) (by first | rfl | decide +kernel) | 4, _ => gv h (k := 397) (by first | rfl | decide +kernel) | 5, _ => gv h (k := 398) (by first | rfl | decide +kernel) | j + 6, hj => absurd hj (by show ¬ j + 6 < 6; omega))
set_option maxRecDepth 100000 in
theorem ks_of {s : State} {args : Array Value} (hts : ∀ w ∈ lw_tbl, w.before args s = true) (h : (Jvm.Cond.and given_1 narrow_1).before args s = true) {G : Gm} (hG : G.1 = s) (hK : KG G) : KS G := by
  subst hG
  refine ⟨⟨hK, va_Nw.of rfl (hts _ (LT_2 210 rfl))⟩, va_Zof (hts _ (LT_2 176 rfl)) (hts _ (LT_1 11 rfl)) (va_eqt (gv h (k := 6) rfl)) (fun a ha hA => absurd ha (Nat.not_lt.mpr hA)), va_Zqof (hts _ (LT_3 22 rfl)) (hts _ (LT_1 17 rfl)) (gv h (k := 7) rfl) (fun a ha hA => absurd ha (Nat.not_lt.mpr hA)), ?_⟩
  intro x hx
  simp only [LIT, List.mem_cons, List.not_mem_nil, or_false] at hx
  rcases hx with rfl | rfl | rfl | rfl | rfl | rfl | rfl | rfl | rfl | rfl | rfl | rfl | rfl | rfl | rfl | rfl | rfl | rfl | rfl | rfl | rfl | rfl | rfl | rfl | rfl | rfl
  · exact sl_EchoLine_Line_9 hts h
  · exact sl_EchoLine_Tokens_54 hts h
  · exact sl_EchoLine_Tokens_60 hts h
  · exact sl_EchoLine_Tokens_62 hts h
  · exact sl_EchoLine_Tokens_64 hts h
  · exact sl_EchoLine_Tokens_66 hts h
  · exact sl_EchoLine_Tokens_68 hts h
  · exact sl_EchoLine_Tokens_70 hts h
  · exact sl_EchoLine_Tokens_72 hts h
  · exact sl_EchoLine_Tokens_74 hts h
  · exact sl_EchoLine_Tokens_76 hts h
  · exact sl_EchoLine_Tokens_78 hts h
  · exact sl_EchoLine_Tokens_80 hts h
  · exact sl_EchoLineLaw_47 hts h
  · exact sl_EchoLineLaw_58 hts h
  · exact sl_EchoLineLaw_63 hts h
  · exact sl_EchoLineLaw_65 hts h
  · exact sl_EchoLineLaw_67 hts h
  · exact sl_EchoLineLaw_69 hts h
  · exact sl_EchoLineLaw_71 hts h
  · exact sl_EchoLineLaw_73 hts h
  · exact sl_EchoLineLaw_75 hts h
  · exact sl_EchoLineLaw_77 hts h
  · exact sl_EchoLineLaw_79 hts h
  · exact sl_EchoLineLaw_81 hts h
  · exact sl_EchoLineLaw_83 hts h
set_option maxRecDepth 100000 in
theorem dig_DigitOnes : ∀ j : Fin 100, (flatC (Jvm.Cond.and given_1 narrow_1))[14 + (j : Nat)]? = some (Cond.eq (.elem (.static "java/lang/Integer" "DigitOnes" "[B") (.int (Int32.ofNat (j : Nat)))) (.int (zI (w_ones.getD (j : Nat) 0)))) := by decide +kernel
set_option maxRecDepth 100000 in
theorem tab_DigitOnes {s : State} {args : Array Value} (hts : ∀ w ∈ lw_tbl, w.before args s = true) (h : (Jvm.Cond.and given_1 narrow_1).before args s = true) {G : Gm} (hG : G.1 = s) : tabG G "DigitOnes" w_ones := by
  subst hG
  have hA : ∀ a : Nat, a < G.1.heap.size → ¬ old G a := fun a ha hA => absurd ha (Nat.not_lt.mpr hA)
  obtain ⟨t, ht, hT⟩ := va_Tof (tm := .static "java/lang/Integer" "DigitOnes" "[B") (ty := .byte) (N := w_ones.length) (f := fun j => .int (zI (w_ones.getD j 0))) (A := old G) (by decide) (gv h (k := 12) rfl) (va_eqt (gv h (k := 13) (by first | rfl | decide +kernel))) (fun j hj => va_eqt (gv h (k := 14 + j) (dig_DigitOnes ⟨j, hj⟩))) hA
  exact ⟨t, va_Zof (hts _ (LT_3 118 rfl)) (hts _ (LT_1 20 rfl)) ht hA, hT⟩
set_option maxRecDepth 100000 in
theorem dig_DigitTens : ∀ j : Fin 100, (flatC (Jvm.Cond.and given_1 narrow_1))[117 + (j : Nat)]? = some (Cond.eq (.elem (.static "java/lang/Integer" "DigitTens" "[B") (.int (Int32.ofNat (j : Nat)))) (.int (zI (w_tens.getD (j : Nat) 0)))) := by decide +kernel
set_option maxRecDepth 100000 in
theorem tab_DigitTens {s : State} {args : Array Value} (hts : ∀ w ∈ lw_tbl, w.before args s = true) (h : (Jvm.Cond.and given_1 narrow_1).before args s = true) {G : Gm} (hG : G.1 = s) : tabG G "DigitTens" w_tens := by
  subst hG
  have hA : ∀ a : Nat, a < G.1.heap.size → ¬ old G a := fun a ha hA => absurd ha (Nat.not_lt.mpr hA)
  obtain ⟨t, ht, hT⟩ := va_Tof (tm := .static "java/lang/Integer" "DigitTens" "[B") (ty := .byte) (N := w_tens.length) (f := fun j => .int (zI (w_tens.getD j 0))) (A := old G) (by decide) (gv h (k := 115) rfl) (va_eqt (gv h (k := 116) (by first | rfl | decide +kernel))) (fun j hj => va_eqt (gv h (k := 117 + j) (dig_DigitTens ⟨j, hj⟩))) hA
  exact ⟨t, va_Zof (hts _ (LT_3 120 rfl)) (hts _ (LT_1 20 rfl)) ht hA, hT⟩
set_option maxRecDepth 100000 in
theorem kd_of {s : State} {args : Array Value} (hts : ∀ w ∈ lw_tbl, w.before args s = true) (h : (Jvm.Cond.and given_1 narrow_1).before args s = true) {G : Gm} (hG : G.1 = s) (hK : KG G) : KD G := ⟨ks_of hts h hG hK, tab_DigitOnes hts h hG, tab_DigitTens hts h hG, by subst hG; exact va_Nw.of rfl (hts _ (LT_2 236 rfl)), by subst hG; exact va_Nw.of rfl (hts _ (LT_2 214 rfl)), by subst hG; exact va_Nw.of rfl (hts _ (LT_3 45 rfl)), by subst hG; exact va_Nw.of rfl (hts _ (LT_3 49 rfl))⟩
set_option maxRecDepth 100000 in
theorem kg_of {s : State} {args : Array Value} (hts : ∀ w ∈ lw_tbl, w.before args s = true) : ∃ G : Gm, G.1 = s ∧ KG G := by
  obtain ⟨c0, i0, k0⟩ := u_known (C := RJ0) (T := TJ0) (N := 4) (n := 4) hts (fun w hw => (List.mem_filter.mp (kc_J0.2.1 w hw)).1) (hts _ (LT_3 145 rfl))
  obtain ⟨c1, i1, k1⟩ := u_known (C := RJ4) (T := TJ4) (N := 4) (n := 4) hts (fun w hw => (List.mem_filter.mp (kc_J4.2.1 w hw)).1) (hts _ (LT_2 167 rfl))
  obtain ⟨c2, i2, k2⟩ := u_known (C := RX0) (T := TX0) (N := 18) (n := 18) hts (fun w hw => (List.mem_filter.mp (kc_X0.2.1 w hw)).1) (hts _ (LT_1 76 rfl))
  obtain ⟨c3, i3, k3⟩ := u_known (C := RX1) (T := TX1) (N := 3) (n := 3) hts (fun w hw => (List.mem_filter.mp (kc_X1.2.1 w hw)).1) (hts _ (LT_1 60 rfl))
  obtain ⟨c4, i4, k4⟩ := u_known (C := RX2) (T := TX2) (N := 9) (n := 9) hts (fun w hw => (List.mem_filter.mp (kc_X2.2.1 w hw)).1) (hts _ (LT_1 218 rfl))
  obtain ⟨c5, i5, k5⟩ := u_known (C := RX3) (T := TX3) (N := 2) (n := 2) hts (fun w hw => (List.mem_filter.mp (kc_X3.2.1 w hw)).1) (hts _ (LT_1 83 rfl))
  obtain ⟨c6, i6, k6⟩ := u_known (C := RX4) (T := TX4) (N := 2) (n := 2) hts (fun w hw => (List.mem_filter.mp (kc_X4.2.1 w hw)).1) (hts _ (LT_1 36 rfl))
  obtain ⟨c7, i7, k7⟩ := u_known (C := RX5) (T := TX5) (N := 5) (n := 5) hts (fun w hw => (List.mem_filter.mp (kc_X5.2.1 w hw)).1) (hts _ (LT_1 226 rfl))
  obtain ⟨c8, i8, k8⟩ := u_known (C := RX6) (T := TX6) (N := 9) (n := 9) hts (fun w hw => (List.mem_filter.mp (kc_X6.2.1 w hw)).1) (hts _ (LT_1 52 rfl))
  obtain ⟨c9, i9, k9⟩ := u_known (C := RX7) (T := TX7) (N := 10) (n := 10) hts (fun w hw => (List.mem_filter.mp (kc_X7.2.1 w hw)).1) (hts _ (LT_1 28 rfl))
  obtain ⟨t0, q0, p0⟩ := arr_of (ty := .int) (hts _ (LT_1 75 rfl))
  obtain ⟨t1, q1, p1⟩ := arr_of (ty := .byte) (hts _ (LT_1 50 rfl))
  have w5 := hts _ (LT_1 58 rfl)
  obtain ⟨t5, q5, p5⟩ := arr_ov (C := "EchoLine$Line") w5
  have w6 := hts _ (LT_2 40 rfl)
  obtain ⟨t6, q6, p6⟩ := arr_ov (C := "EchoLine$Trunk") w6
  refine ⟨(s, (fun k => match k with | 0 => c0 | 1 => c1 | 2 => c2 | 3 => c3 | 4 => c4 | 5 => c5 | 6 => c6 | 7 => c7 | 8 => c8 | _ => c9, fun k => match k with | 0 => i0 | 1 => i1 | 2 => i2 | 3 => i3 | 4 => i4 | 5 => i5 | 6 => i6 | 7 => i7 | 8 => i8 | _ => i9), fun k => match k with | 0 => t0 | 1 => t1 | 2 => t0 | 3 => t0 | 4 => t0 | 5 => t5 | _ => t6), rfl, ⟨fun k q hq => ?_, fun k q hq => ?_⟩, ?_, va_AO.of w5, va_AO.of w6⟩
  · match k, hq with
    | 0, hq => cases hq; exact k0
    | 1, hq => cases hq; exact k1
    | 2, hq => cases hq; exact k2
    | 3, hq => cases hq; exact k3
    | 4, hq => cases hq; exact k4
    | 5, hq => cases hq; exact k5
    | 6, hq => cases hq; exact k6
    | 7, hq => cases hq; exact k7
    | 8, hq => cases hq; exact k8
    | 9, hq => cases hq; exact k9
    | k + 10, hq => simp [CL, vwCl] at hq
  · match k, hq with
    | 0, hq => cases hq; exact ⟨q0, p0⟩
    | 1, hq => cases hq; exact ⟨q1, p1⟩
    | 2, hq => cases hq; exact ⟨q0, p0⟩
    | 3, hq => cases hq; exact ⟨q0, p0⟩
    | 4, hq => cases hq; exact ⟨q0, p0⟩
    | 5, hq => cases hq; exact ⟨q5, p5⟩
    | 6, hq => cases hq; exact ⟨q6, p6⟩
    | k + 7, hq => simp [tysG] at hq
  · intro w hw
    simp only [TSn, List.mem_cons, List.not_mem_nil, or_false] at hw
    rcases hw with rfl | rfl | rfl | rfl | rfl
    · exact va_Nw.of rfl (hts _ (LT_1 37 rfl))
    · exact va_Nw.of rfl (hts _ (LT_1 84 rfl))
    · exact va_Nw.of rfl (hts _ (LT_1 224 rfl))
    · exact va_Nw.of rfl (hts _ (LT_1 61 rfl))
    · exact va_Nw.of rfl (hts _ (LT_1 77 rfl))
