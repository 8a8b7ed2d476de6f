/-! The start: what the premises give. -/
theorem LT_1 {w : Cond} (i : Nat) (h : tables_1_1[i]? = some w) : w ∈ lw_tbl := List.mem_append_right _ (show w ∈ tables_1 from List.mem_append_left _ (List.mem_of_getElem? h))
theorem LT_2 {w : Cond} (i : Nat) (h : tables_1_2[i]? = some w) : w ∈ lw_tbl := List.mem_append_right _ (show w ∈ tables_1 from List.mem_append_right _ (List.mem_append_left _ (List.mem_of_getElem? h)))
theorem LT_3 {w : Cond} (i : Nat) (h : tables_1_3[i]? = some w) : w ∈ lw_tbl := List.mem_append_right _ (show w ∈ tables_1 from List.mem_append_right _ (List.mem_append_right _ (List.mem_append_left _ (List.mem_of_getElem? h))))
theorem LT_4 {w : Cond} (i : Nat) (h : tables_1_4[i]? = some w) : w ∈ lw_tbl := List.mem_append_right _ (show w ∈ tables_1 from List.mem_append_right _ (List.mem_append_right _ (List.mem_append_right _ (List.mem_append_left _ (List.mem_of_getElem? h)))))
theorem LT_5 {w : Cond} (i : Nat) (h : tables_1_5[i]? = some w) : w ∈ lw_tbl := List.mem_append_right _ (show w ∈ tables_1 from List.mem_append_right _ (List.mem_append_right _ (List.mem_append_right _ (List.mem_append_right _ (List.mem_append_left _ (List.mem_of_getElem? h))))))
theorem LT_6 {w : Cond} (i : Nat) (h : tables_1_6[i]? = some w) : w ∈ lw_tbl := List.mem_append_right _ (show w ∈ tables_1 from List.mem_append_right _ (List.mem_append_right _ (List.mem_append_right _ (List.mem_append_right _ (List.mem_append_right _ (List.mem_append_left _ (List.mem_of_getElem? h)))))))
theorem LT_7 {w : Cond} (i : Nat) (h : tables_1_7[i]? = some w) : w ∈ lw_tbl := List.mem_append_right _ (show w ∈ tables_1 from List.mem_append_right _ (List.mem_append_right _ (List.mem_append_right _ (List.mem_append_right _ (List.mem_append_right _ (List.mem_append_right _ (List.mem_append_left _ (List.mem_of_getElem? h))))))))
theorem LT_8 {w : Cond} (i : Nat) (h : tables_1_8[i]? = some w) : w ∈ lw_tbl := List.mem_append_right _ (show w ∈ tables_1 from List.mem_append_right _ (List.mem_append_right _ (List.mem_append_right _ (List.mem_append_right _ (List.mem_append_right _ (List.mem_append_right _ (List.mem_append_right _ (List.mem_append_left _ (List.mem_of_getElem? h)))))))))
theorem LT_9 {w : Cond} (i : Nat) (h : tables_1_9[i]? = some w) : w ∈ lw_tbl := List.mem_append_right _ (show w ∈ tables_1 from List.mem_append_right _ (List.mem_append_right _ (List.mem_append_right _ (List.mem_append_right _ (List.mem_append_right _ (List.mem_append_right _ (List.mem_append_right _ (List.mem_append_right _ (List.mem_of_getElem? h)))))))))
theorem gv {args : Array Value} {s : State} (h : (Jvm.Cond.and given_1 narrow_1).before args s = true) {k : Nat} {c : Cond} (hk : (flatC (Jvm.Cond.and given_1 narrow_1))[k]? = some c) : c.before args s = true := flat_of_before _ h c (List.mem_of_getElem? hk)
/-- a literal's String, in the heap of the start -/
def strA (s : State) (q b : Nat) (w : List Int) : Prop := (w.length ≤ 60 ∧ ∀ x ∈ w, 0 ≤ x ∧ x < 128) ∧ va_O "java/lang/String" q (fun a => s.heap.size ≤ a) s s.heap ∧ va_OF "java/lang/String" "coder" "B" (.int (zI 0)) q (fun a => s.heap.size ≤ a) s s.heap ∧ va_OF "java/lang/String" "value" "[B" (.ref b) q (fun a => s.heap.size ≤ a) s s.heap ∧ va_T .byte b w.length (fun j => .int (zI (w.getD j 0))) (fun a => s.heap.size ≤ a) s s.heap
theorem lit_ref {args : Array Value} {s : State} {own tx : String} {k : Nat} {tm : Term} (hr : (Cond.stringRef own k tx).before args s = true) (hex : (Cond.exactly tm "java/lang/String").before args s = true) (htm : tm = .string own k := by rfl) : ∃ q, vk_R own k tx q s := by
  subst htm
  obtain ⟨a, c, cA, kA, q1, -⟩ := Cond.exactly_spec (args := args) (first := s) (o := none) (s := s) (idx := []) (t := .string own k) (cls := "java/lang/String") hex
  exact ⟨a, vk_R.of hr q1⟩
theorem lit_one {args : Array Value} {s : State} {own tx : String} {k : Nat} {tm : Term} {w : List Int} (hw : w.length ≤ 60 ∧ ∀ x ∈ w, 0 ≤ x ∧ x < 128) (hr : (Cond.stringRef own k tx).before args s = true) (hex : (Cond.exactly tm "java/lang/String").before args s = true) (hco : (Cond.eq (.field tm "java/lang/String" "coder" "B") (.int (zI 0))).before args s = true)
    (har : (Cond.arrayOf (.field tm "java/lang/String" "value" "[B") .byte).before args s = true) (hle : (Cond.eq (.length (.field tm "java/lang/String" "value" "[B")) (.int (Int32.ofNat w.length))).before args s = true)
    (hel : ∀ j : Nat, j < w.length → (Cond.eq (.elem (.field tm "java/lang/String" "value" "[B") (.int (Int32.ofNat j))) (.int (zI (w.getD j 0)))).before args s = true) (htm : tm = .string own k := by rfl) : ∃ q b, vk_R own k tx q s ∧ strA s q b w := by
  subst htm
  have hA : ∀ a : Nat, a < s.heap.size → ¬ (fun a => s.heap.size ≤ a) a := fun a ha h => absurd ha (Nat.not_lt.mpr h)
  obtain ⟨a, c, cA, kA, q1, q2, q3, q4, q5, q6, -⟩ := Cond.exactly_spec (args := args) (first := s) (o := none) (s := s) (idx := []) (t := .string own k) (cls := "java/lang/String") hex
  obtain ⟨t, ht, hT⟩ := va_Tof (f := fun j => .int (zI (w.getD j 0))) (A := fun a => s.heap.size ≤ a) (by omega) har (va_eqt hle) (fun j hj => va_eqt (hel j hj)) hA
  exact ⟨a, t, vk_R.of hr q1, hw, ⟨cA, q3, q5, by rw [q6]; exact q2, hA a (Array.getElem?_eq_some_iff.mp q3).1⟩, vk_OFof q1 (va_eqt hco) hA, vk_OFof q1 ht hA, hT⟩
theorem arr_of {args : Array Value} {s : State} {ty : FieldType} (h : (Cond.arrayClass ty).before args s = true) : ∃ c : ClassId, ArrOfT s c ty ∧ s.vm.findClass ("[" ++ ty.toString) = some c := by
  obtain ⟨c, k, comp, h1, h2, h3⟩ := Cond.arrayClass_spec h
  refine ⟨c, fun n z => ?_, h1⟩
  first
  | exact ⟨fun _ h => (by cases h), k, h2, comp, h3⟩
  | exact ⟨k, comp, h2, h3⟩
  | exact ⟨k, h2, comp, h3⟩
  | exact ⟨rfl, k, comp, h2, h3⟩
  | (unfold State.isArrayOf; simp [arrV, h2, h3])
theorem arr_ov {args : Array Value} {s : State} {C : String} (h : (Cond.arrayOver (.object C)).before args s = true) : ∃ c : ClassId, ArrOfT s c (.object C) ∧ va_RA s c (.object C) := by
  obtain ⟨comp, c, k, h1, h2, h3, h4, h5⟩ := Cond.arrayOver_spec h
  refine ⟨c, fun n z => ?_, ⟨k, comp, h3, h4, h1, h5⟩⟩
  first
  | exact ⟨fun _ h => (by cases h), k, h3, comp, h4⟩
  | exact ⟨k, comp, h3, h4⟩
  | exact ⟨k, h3, comp, h4⟩
  | exact ⟨rfl, k, comp, h3, h4⟩
  | (unfold State.isArrayOf; simp [arrV, h3, h4])

set_option maxRecDepth 100000 in
theorem sl_EchoLine_Line_9 {s : State} {args : Array Value} (hts : ∀ w ∈ lw_tbl, w.before args s = true) (h : (Jvm.Cond.and given_1 narrow_1).before args s = true) : ∃ q b, vk_R "EchoLine$Line" 9 "" q s ∧ strA s q b w_none0 := lit_one (tm := .string "EchoLine$Line" 9) ⟨by decide, by decide⟩ (hts _ (LT_1 84 rfl)) (gv h (k := 303) rfl) (gv h (k := 304) (by first | rfl | decide +kernel)) (gv h (k := 305) rfl) (gv h (k := 306) (by first | rfl | decide +kernel)) (fun j hj => absurd hj (Nat.not_lt_zero j))
set_option maxRecDepth 100000 in
theorem sl_EchoLine_Tokens_54 {s : State} {args : Array Value} (hts : ∀ w ∈ lw_tbl, w.before args s = true) (h : (Jvm.Cond.and given_1 narrow_1).before args s = true) : ∃ q b, vk_R "EchoLine$Tokens" 54 "line" q s ∧ strA s q b w_line := lit_one (tm := .string "EchoLine$Tokens" 54) ⟨by decide, by decide⟩ (hts _ (LT_2 133 rfl)) (gv h (k := 307) rfl) (gv h (k := 308) (by first | rfl | decide +kernel)) (gv h (k := 309) rfl) (gv h (k := 310) (by first | rfl | decide +kernel)) (fun j hj => match j, hj with | 0, _ => gv h (k := 311) (by first | rfl | decide +kernel) | 1, _ => gv h (k := 312) (by first | rfl | decide +kernel) | 2, _ => gv h (k := 313) (by first | rfl | decide +kernel) | 3, _ => gv h (k := 314) (by first | rfl | decide +kernel) | j + 4, hj => absurd hj (by show ¬ j + 4 < 4; omega))
set_option maxRecDepth 100000 in
theorem sl_EchoLine_Tokens_60 {s : State} {args : Array Value} (hts : ∀ w ∈ lw_tbl, w.before args s = true) (h : (Jvm.Cond.and given_1 narrow_1).before args s = true) : ∃ q b, vk_R "EchoLine$Tokens" 60 "cap" q s ∧ strA s q b w_cap := lit_one (tm := .string "EchoLine$Tokens" 60) ⟨by decide, by decide⟩ (hts _ (LT_2 191 rfl)) (gv h (k := 315) rfl) (gv h (k := 316) (by first | rfl | decide +kernel)) (gv h (k := 317) rfl) (gv h (k := 318) (by first | rfl | decide +kernel)) (fun j hj => match j, hj with | 0, _ => gv h (k := 319) (by first | rfl | decide +kernel) | 1, _ => gv h (k := 320) (by first | rfl | decide +kernel) | 2, _ => gv h (k := 321) (by first | rfl | decide +kernel) | j + 3, hj => absurd hj (by show ¬ j + 3 < 3; omega))
set_option maxRecDepth 100000 in
theorem sl_EchoLine_Tokens_62 {s : State} {args : Array Value} (hts : ∀ w ∈ lw_tbl, w.before args s = true) (h : (Jvm.Cond.and given_1 narrow_1).before args s = true) : ∃ q b, vk_R "EchoLine$Tokens" 62 "marks" q s ∧ strA s q b w_marks := lit_one (tm := .string "EchoLine$Tokens" 62) ⟨by decide, by decide⟩ (hts _ (LT_2 192 rfl)) (gv h (k := 322) rfl) (gv h (k := 323) (by first | rfl | decide +kernel)) (gv h (k := 324) rfl) (gv h (k := 325) (by first | rfl | decide +kernel)) (fun j hj => match j, hj with | 0, _ => gv h (k := 326) (by first | rfl | decide +kernel) | 1, _ => gv h (k := 327) (by first | rfl | decide +kernel) | 2, _ => gv h (k := 328) (by first | rfl | decide +kernel) | 3, _ => gv h (k := 329) (by first | rfl | decide +kernel) | 4, _ => gv h (k := 330) (by first | rfl | decide +kernel) | j + 5, hj => absurd hj (by show ¬ j + 5 < 5; omega))
set_option maxRecDepth 100000 in
theorem sl_EchoLine_Tokens_64 {s : State} {args : Array Value} (hts : ∀ w ∈ lw_tbl, w.before args s = true) (h : (Jvm.Cond.and given_1 narrow_1).before args s = true) : ∃ q b, vk_R "EchoLine$Tokens" 64 "share" q s ∧ strA s q b w_share := lit_one (tm := .string "EchoLine$Tokens" 64) ⟨by decide, by decide⟩ (hts _ (LT_2 193 rfl)) (gv h (k := 331) rfl) (gv h (k := 332) (by first | rfl | decide +kernel)) (gv h (k := 333) rfl) (gv h (k := 334) (by first | rfl | decide +kernel)) (fun j hj => match j, hj with | 0, _ => gv h (k := 335) (by first | rfl | decide +kernel) | 1, _ => gv h (k := 336) (by first | rfl | decide +kernel) | 2, _ => gv h (k := 337) (by first | rfl | decide +kernel) | 3, _ => gv h (k := 338) (by first | rfl | decide +kernel) | 4, _ => gv h (k := 339) (by first | rfl | decide +kernel) | j + 5, hj => absurd hj (by show ¬ j + 5 < 5; omega))
set_option maxRecDepth 100000 in
theorem sl_EchoLine_Tokens_66 {s : State} {args : Array Value} (hts : ∀ w ∈ lw_tbl, w.before args s = true) (h : (Jvm.Cond.and given_1 narrow_1).before args s = true) : ∃ q b, vk_R "EchoLine$Tokens" 66 "echo" q s ∧ strA s q b w_echo := lit_one (tm := .string "EchoLine$Tokens" 66) ⟨by decide, by decide⟩ (hts _ (LT_2 194 rfl)) (gv h (k := 340) rfl) (gv h (k := 341) (by first | rfl | decide +kernel)) (gv h (k := 342) rfl) (gv h (k := 343) (by first | rfl | decide +kernel)) (fun j hj => match j, hj with | 0, _ => gv h (k := 344) (by first | rfl | decide +kernel) | 1, _ => gv h (k := 345) (by first | rfl | decide +kernel) | 2, _ => gv h (k := 346) (by first | rfl | decide +kernel) | 3, _ => gv h (k := 347) (by first | rfl | decide +kernel) | j + 4, hj => absurd hj (by show ¬ j + 4 < 4; omega))
set_option maxRecDepth 100000 in
theorem sl_EchoLine_Tokens_68 {s : State} {args : Array Value} (hts : ∀ w ∈ lw_tbl, w.before args s = true) (h : (Jvm.Cond.and given_1 narrow_1).before args s = true) : ∃ q b, vk_R "EchoLine$Tokens" 68 "none" q s ∧ strA s q b w_none := lit_one (tm := .string "EchoLine$Tokens" 68) ⟨by decide, by decide⟩ (hts _ (LT_2 195 rfl)) (gv h (k := 348) rfl) (gv h (k := 349) (by first | rfl | decide +kernel)) (gv h (k := 350) rfl) (gv h (k := 351) (by first | rfl | decide +kernel)) (fun j hj => match j, hj with | 0, _ => gv h (k := 352) (by first | rfl | decide +kernel) | 1, _ => gv h (k := 353) (by first | rfl | decide +kernel) | 2, _ => gv h (k := 354) (by first | rfl | decide +kernel) | 3, _ => gv h (k := 355) (by first | rfl | decide +kernel) | j + 4, hj => absurd hj (by show ¬ j + 4 < 4; omega))
set_option maxRecDepth 100000 in
theorem sl_EchoLine_Tokens_70 {s : State} {args : Array Value} (hts : ∀ w ∈ lw_tbl, w.before args s = true) (h : (Jvm.Cond.and given_1 narrow_1).before args s = true) : ∃ q b, vk_R "EchoLine$Tokens" 70 "each" q s ∧ strA s q b w_each := lit_one (tm := .string "EchoLine$Tokens" 70) ⟨by decide, by decide⟩ (hts _ (LT_2 196 rfl)) (gv h (k := 356) rfl) (gv h (k := 357) (by first | rfl | decide +kernel)) (gv h (k := 358) rfl) (gv h (k := 359) (by first | rfl | decide +kernel)) (fun j hj => match j, hj with | 0, _ => gv h (k := 360) (by first | rfl | decide +kernel) | 1, _ => gv h (k := 361) (by first | rfl | decide +kernel) | 2, _ => gv h (k := 362) (by first | rfl | decide +kernel) | 3, _ => gv h (k := 363) (by first | rfl | decide +kernel) | j + 4, hj => absurd hj (by show ¬ j + 4 < 4; omega))
set_option maxRecDepth 100000 in
theorem sl_EchoLine_Tokens_72 {s : State} {args : Array Value} (hts : ∀ w ∈ lw_tbl, w.before args s = true) (h : (Jvm.Cond.and given_1 narrow_1).before args s = true) : ∃ q b, vk_R "EchoLine$Tokens" 72 "whole" q s ∧ strA s q b w_whole := lit_one (tm := .string "EchoLine$Tokens" 72) ⟨by decide, by decide⟩ (hts _ (LT_2 197 rfl)) (gv h (k := 364) rfl) (gv h (k := 365) (by first | rfl | decide +kernel)) (gv h (k := 366) rfl) (gv h (k := 367) (by first | rfl | decide +kernel)) (fun j hj => match j, hj with | 0, _ => gv h (k := 368) (by first | rfl | decide +kernel) | 1, _ => gv h (k := 369) (by first | rfl | decide +kernel) | 2, _ => gv h (k := 370) (by first | rfl | decide +kernel) | 3, _ => gv h (k := 371) (by first | rfl | decide +kernel) | 4, _ => gv h (k := 372) (by first | rfl | decide +kernel) | j + 5, hj => absurd hj (by show ¬ j + 5 < 5; omega))
set_option maxRecDepth 100000 in
theorem sl_EchoLine_Tokens_74 {s : State} {args : Array Value} (hts : ∀ w ∈ lw_tbl, w.before args s = true) (h : (Jvm.Cond.and given_1 narrow_1).before args s = true) : ∃ q b, vk_R "EchoLine$Tokens" 74 "lend" q s ∧ strA s q b w_lend := lit_one (tm := .string "EchoLine$Tokens" 74) ⟨by decide, by decide⟩ (hts _ (LT_2 198 rfl)) (gv h (k := 373) rfl) (gv h (k := 374) (by first | rfl | decide +kernel)) (gv h (k := 375) rfl) (gv h (k := 376) (by first | rfl | decide +kernel)) (fun j hj => match j, hj with | 0, _ => gv h (k := 377) (by first | rfl | decide +kernel) | 1, _ => gv h (k := 378) (by first | rfl | decide +kernel) | 2, _ => gv h (k := 379) (by first | rfl | decide +kernel) | 3, _ => gv h (k := 380) (by first | rfl | decide +kernel) | j + 4, hj => absurd hj (by show ¬ j + 4 < 4; omega))
set_option maxRecDepth 100000 in
theorem sl_EchoLine_Tokens_76 {s : State} {args : Array Value} (hts : ∀ w ∈ lw_tbl, w.before args s = true) (h : (Jvm.Cond.and given_1 narrow_1).before args s = true) : ∃ q b, vk_R "EchoLine$Tokens" 76 "to" q s ∧ strA s q b w_to := lit_one (tm := .string "EchoLine$Tokens" 76) ⟨by decide, by decide⟩ (hts _ (LT_2 199 rfl)) (gv h (k := 381) rfl) (gv h (k := 382) (by first | rfl | decide +kernel)) (gv h (k := 383) rfl) (gv h (k := 384) (by first | rfl | decide +kernel)) (fun j hj => match j, hj with | 0, _ => gv h (k := 385) (by first | rfl | decide +kernel) | 1, _ => gv h (k := 386) (by first | rfl | decide +kernel) | j + 2, hj => absurd hj (by show ¬ j + 2 < 2; omega))
set_option maxRecDepth 100000 in
theorem sl_EchoLine_Tokens_78 {s : State} {args : Array Value} (hts : ∀ w ∈ lw_tbl, w.before args s = true) (h : (Jvm.Cond.and given_1 narrow_1).before args s = true) : ∃ q b, vk_R "EchoLine$Tokens" 78 "for" q s ∧ strA s q b w_for := lit_one (tm := .string "EchoLine$Tokens" 78) ⟨by decide, by decide⟩ (hts _ (LT_2 200 rfl)) (gv h (k := 387) rfl) (gv h (k := 388) (by first | rfl | decide +kernel)) (gv h (k := 389) rfl) (gv h (k := 390) (by first | rfl | decide +kernel)) (fun j hj => match j, hj with | 0, _ => gv h (k := 391) (by first | rfl | decide +kernel) | 1, _ => gv h (k := 392) (by first | rfl | decide +kernel) | 2, _ => gv h (k := 393) (by first | rfl | decide +kernel) | j + 3, hj => absurd hj (by show ¬ j + 3 < 3; omega))
set_option maxRecDepth 100000 in
theorem sl_EchoLine_Tokens_80 {s : State} {args : Array Value} (hts : ∀ w ∈ lw_tbl, w.before args s = true) (h : (Jvm.Cond.and given_1 narrow_1).before args s = true) : ∃ q b, vk_R "EchoLine$Tokens" 80 "type" q s ∧ strA s q b w_type := lit_one (tm := .string "EchoLine$Tokens" 80) ⟨by decide, by decide⟩ (hts _ (LT_2 201 rfl)) (gv h (k := 394) rfl) (gv h (k := 395) (by first | rfl | decide +kernel)) (gv h (k := 396) rfl) (gv h (k := 397) (by first | rfl | decide +kernel)) (fun j hj => match j, hj with | 0, _ => gv h (k := 398) (by first | rfl | decide +kernel) | 1, _ => gv h (k := 399) (by first | rfl | decide +kernel) | 2, _ => gv h (k := 400) (by first | rfl | decide +kernel) | 3, _ => gv h (k := 401) (by first | rfl | decide +kernel) | j + 4, hj => absurd hj (by show ¬ j + 4 < 4; omega))
set_option maxRecDepth 100000 in
theorem sl_EchoLineModel_207 {s : State} {args : Array Value} (hts : ∀ w ∈ lw_tbl, w.before args s = true) (h : (Jvm.Cond.and given_1 narrow_1).before args s = true) : ∃ q b, vk_R "EchoLineModel" 207 "line" q s ∧ strA s q b w_line := lit_one (tm := .string "EchoLineModel" 207) ⟨by decide, by decide⟩ (hts _ (LT_7 103 rfl)) (gv h (k := 711) rfl) (gv h (k := 712) (by first | rfl | decide +kernel)) (gv h (k := 713) rfl) (gv h (k := 714) (by first | rfl | decide +kernel)) (fun j hj => match j, hj with | 0, _ => gv h (k := 715) (by first | rfl | decide +kernel) | 1, _ => gv h (k := 716) (by first | rfl | decide +kernel) | 2, _ => gv h (k := 717) (by first | rfl | decide +kernel) | 3, _ => gv h (k := 718) (by first | rfl | decide +kernel) | j + 4, hj => absurd hj (by show ¬ j + 4 < 4; omega))
set_option maxRecDepth 100000 in
theorem sl_EchoLineModel_209 {s : State} {args : Array Value} (hts : ∀ w ∈ lw_tbl, w.before args s = true) (h : (Jvm.Cond.and given_1 narrow_1).before args s = true) : ∃ q b, vk_R "EchoLineModel" 209 "cap" q s ∧ strA s q b w_cap := lit_one (tm := .string "EchoLineModel" 209) ⟨by decide, by decide⟩ (hts _ (LT_7 142 rfl)) (gv h (k := 720) rfl) (gv h (k := 721) (by first | rfl | decide +kernel)) (gv h (k := 722) rfl) (gv h (k := 723) (by first | rfl | decide +kernel)) (fun j hj => match j, hj with | 0, _ => gv h (k := 724) (by first | rfl | decide +kernel) | 1, _ => gv h (k := 725) (by first | rfl | decide +kernel) | 2, _ => gv h (k := 726) (by first | rfl | decide +kernel) | j + 3, hj => absurd hj (by show ¬ j + 3 < 3; omega))
set_option maxRecDepth 100000 in
theorem sl_EchoLineModel_211 {s : State} {args : Array Value} (hts : ∀ w ∈ lw_tbl, w.before args s = true) (h : (Jvm.Cond.and given_1 narrow_1).before args s = true) : ∃ q b, vk_R "EchoLineModel" 211 "marks" q s ∧ strA s q b w_marks := lit_one (tm := .string "EchoLineModel" 211) ⟨by decide, by decide⟩ (hts _ (LT_7 143 rfl)) (gv h (k := 728) rfl) (gv h (k := 729) (by first | rfl | decide +kernel)) (gv h (k := 730) rfl) (gv h (k := 731) (by first | rfl | decide +kernel)) (fun j hj => match j, hj with | 0, _ => gv h (k := 732) (by first | rfl | decide +kernel) | 1, _ => gv h (k := 733) (by first | rfl | decide +kernel) | 2, _ => gv h (k := 734) (by first | rfl | decide +kernel) | 3, _ => gv h (k := 735) (by first | rfl | decide +kernel) | 4, _ => gv h (k := 736) (by first | rfl | decide +kernel) | j + 5, hj => absurd hj (by show ¬ j + 5 < 5; omega))
set_option maxRecDepth 100000 in
theorem sl_EchoLineModel_213 {s : State} {args : Array Value} (hts : ∀ w ∈ lw_tbl, w.before args s = true) (h : (Jvm.Cond.and given_1 narrow_1).before args s = true) : ∃ q b, vk_R "EchoLineModel" 213 "share" q s ∧ strA s q b w_share := lit_one (tm := .string "EchoLineModel" 213) ⟨by decide, by decide⟩ (hts _ (LT_7 144 rfl)) (gv h (k := 738) rfl) (gv h (k := 739) (by first | rfl | decide +kernel)) (gv h (k := 740) rfl) (gv h (k := 741) (by first | rfl | decide +kernel)) (fun j hj => match j, hj with | 0, _ => gv h (k := 742) (by first | rfl | decide +kernel) | 1, _ => gv h (k := 743) (by first | rfl | decide +kernel) | 2, _ => gv h (k := 744) (by first | rfl | decide +kernel) | 3, _ => gv h (k := 745) (by first | rfl | decide +kernel) | 4, _ => gv h (k := 746) (by first | rfl | decide +kernel) | j + 5, hj => absurd hj (by show ¬ j + 5 < 5; omega))
set_option maxRecDepth 100000 in
theorem sl_EchoLineModel_215 {s : State} {args : Array Value} (hts : ∀ w ∈ lw_tbl, w.before args s = true) (h : (Jvm.Cond.and given_1 narrow_1).before args s = true) : ∃ q b, vk_R "EchoLineModel" 215 "echo" q s ∧ strA s q b w_echo := lit_one (tm := .string "EchoLineModel" 215) ⟨by decide, by decide⟩ (hts _ (LT_7 145 rfl)) (gv h (k := 748) rfl) (gv h (k := 749) (by first | rfl | decide +kernel)) (gv h (k := 750) rfl) (gv h (k := 751) (by first | rfl | decide +kernel)) (fun j hj => match j, hj with | 0, _ => gv h (k := 752) (by first | rfl | decide +kernel) | 1, _ => gv h (k := 753) (by first | rfl | decide +kernel) | 2, _ => gv h (k := 754) (by first | rfl | decide +kernel) | 3, _ => gv h (k := 755) (by first | rfl | decide +kernel) | j + 4, hj => absurd hj (by show ¬ j + 4 < 4; omega))
set_option maxRecDepth 100000 in
theorem sl_EchoLineModel_217 {s : State} {args : Array Value} (hts : ∀ w ∈ lw_tbl, w.before args s = true) (h : (Jvm.Cond.and given_1 narrow_1).before args s = true) : ∃ q b, vk_R "EchoLineModel" 217 "none" q s ∧ strA s q b w_none := lit_one (tm := .string "EchoLineModel" 217) ⟨by decide, by decide⟩ (hts _ (LT_7 146 rfl)) (gv h (k := 757) rfl) (gv h (k := 758) (by first | rfl | decide +kernel)) (gv h (k := 759) rfl) (gv h (k := 760) (by first | rfl | decide +kernel)) (fun j hj => match j, hj with | 0, _ => gv h (k := 761) (by first | rfl | decide +kernel) | 1, _ => gv h (k := 762) (by first | rfl | decide +kernel) | 2, _ => gv h (k := 763) (by first | rfl | decide +kernel) | 3, _ => gv h (k := 764) (by first | rfl | decide +kernel) | j + 4, hj => absurd hj (by show ¬ j + 4 < 4; omega))
set_option maxRecDepth 100000 in
theorem sl_EchoLineModel_219 {s : State} {args : Array Value} (hts : ∀ w ∈ lw_tbl, w.before args s = true) (h : (Jvm.Cond.and given_1 narrow_1).before args s = true) : ∃ q b, vk_R "EchoLineModel" 219 "each" q s ∧ strA s q b w_each := lit_one (tm := .string "EchoLineModel" 219) ⟨by decide, by decide⟩ (hts _ (LT_7 147 rfl)) (gv h (k := 766) rfl) (gv h (k := 767) (by first | rfl | decide +kernel)) (gv h (k := 768) rfl) (gv h (k := 769) (by first | rfl | decide +kernel)) (fun j hj => match j, hj with | 0, _ => gv h (k := 770) (by first | rfl | decide +kernel) | 1, _ => gv h (k := 771) (by first | rfl | decide +kernel) | 2, _ => gv h (k := 772) (by first | rfl | decide +kernel) | 3, _ => gv h (k := 773) (by first | rfl | decide +kernel) | j + 4, hj => absurd hj (by show ¬ j + 4 < 4; omega))
set_option maxRecDepth 100000 in
theorem sl_EchoLineModel_221 {s : State} {args : Array Value} (hts : ∀ w ∈ lw_tbl, w.before args s = true) (h : (Jvm.Cond.and given_1 narrow_1).before args s = true) : ∃ q b, vk_R "EchoLineModel" 221 "whole" q s ∧ strA s q b w_whole := lit_one (tm := .string "EchoLineModel" 221) ⟨by decide, by decide⟩ (hts _ (LT_7 148 rfl)) (gv h (k := 775) rfl) (gv h (k := 776) (by first | rfl | decide +kernel)) (gv h (k := 777) rfl) (gv h (k := 778) (by first | rfl | decide +kernel)) (fun j hj => match j, hj with | 0, _ => gv h (k := 779) (by first | rfl | decide +kernel) | 1, _ => gv h (k := 780) (by first | rfl | decide +kernel) | 2, _ => gv h (k := 781) (by first | rfl | decide +kernel) | 3, _ => gv h (k := 782) (by first | rfl | decide +kernel) | 4, _ => gv h (k := 783) (by first | rfl | decide +kernel) | j + 5, hj => absurd hj (by show ¬ j + 5 < 5; omega))
set_option maxRecDepth 100000 in
theorem sl_EchoLineModel_223 {s : State} {args : Array Value} (hts : ∀ w ∈ lw_tbl, w.before args s = true) (h : (Jvm.Cond.and given_1 narrow_1).before args s = true) : ∃ q b, vk_R "EchoLineModel" 223 "lend" q s ∧ strA s q b w_lend := lit_one (tm := .string "EchoLineModel" 223) ⟨by decide, by decide⟩ (hts _ (LT_7 149 rfl)) (gv h (k := 785) rfl) (gv h (k := 786) (by first | rfl | decide +kernel)) (gv h (k := 787) rfl) (gv h (k := 788) (by first | rfl | decide +kernel)) (fun j hj => match j, hj with | 0, _ => gv h (k := 789) (by first | rfl | decide +kernel) | 1, _ => gv h (k := 790) (by first | rfl | decide +kernel) | 2, _ => gv h (k := 791) (by first | rfl | decide +kernel) | 3, _ => gv h (k := 792) (by first | rfl | decide +kernel) | j + 4, hj => absurd hj (by show ¬ j + 4 < 4; omega))
set_option maxRecDepth 100000 in
theorem sl_EchoLineModel_225 {s : State} {args : Array Value} (hts : ∀ w ∈ lw_tbl, w.before args s = true) (h : (Jvm.Cond.and given_1 narrow_1).before args s = true) : ∃ q b, vk_R "EchoLineModel" 225 "to" q s ∧ strA s q b w_to := lit_one (tm := .string "EchoLineModel" 225) ⟨by decide, by decide⟩ (hts _ (LT_7 150 rfl)) (gv h (k := 794) rfl) (gv h (k := 795) (by first | rfl | decide +kernel)) (gv h (k := 796) rfl) (gv h (k := 797) (by first | rfl | decide +kernel)) (fun j hj => match j, hj with | 0, _ => gv h (k := 798) (by first | rfl | decide +kernel) | 1, _ => gv h (k := 799) (by first | rfl | decide +kernel) | j + 2, hj => absurd hj (by show ¬ j + 2 < 2; omega))
set_option maxRecDepth 100000 in
theorem sl_EchoLineModel_227 {s : State} {args : Array Value} (hts : ∀ w ∈ lw_tbl, w.before args s = true) (h : (Jvm.Cond.and given_1 narrow_1).before args s = true) : ∃ q b, vk_R "EchoLineModel" 227 "for" q s ∧ strA s q b w_for := lit_one (tm := .string "EchoLineModel" 227) ⟨by decide, by decide⟩ (hts _ (LT_7 151 rfl)) (gv h (k := 801) rfl) (gv h (k := 802) (by first | rfl | decide +kernel)) (gv h (k := 803) rfl) (gv h (k := 804) (by first | rfl | decide +kernel)) (fun j hj => match j, hj with | 0, _ => gv h (k := 805) (by first | rfl | decide +kernel) | 1, _ => gv h (k := 806) (by first | rfl | decide +kernel) | 2, _ => gv h (k := 807) (by first | rfl | decide +kernel) | j + 3, hj => absurd hj (by show ¬ j + 3 < 3; omega))
set_option maxRecDepth 100000 in
theorem sl_EchoLineModel_229 {s : State} {args : Array Value} (hts : ∀ w ∈ lw_tbl, w.before args s = true) (h : (Jvm.Cond.and given_1 narrow_1).before args s = true) : ∃ q b, vk_R "EchoLineModel" 229 "type" q s ∧ strA s q b w_type := lit_one (tm := .string "EchoLineModel" 229) ⟨by decide, by decide⟩ (hts _ (LT_7 152 rfl)) (gv h (k := 809) rfl) (gv h (k := 810) (by first | rfl | decide +kernel)) (gv h (k := 811) rfl) (gv h (k := 812) (by first | rfl | decide +kernel)) (fun j hj => match j, hj with | 0, _ => gv h (k := 813) (by first | rfl | decide +kernel) | 1, _ => gv h (k := 814) (by first | rfl | decide +kernel) | 2, _ => gv h (k := 815) (by first | rfl | decide +kernel) | 3, _ => gv h (k := 816) (by first | rfl | decide +kernel) | j + 4, hj => absurd hj (by show ¬ j + 4 < 4; omega))
set_option maxRecDepth 100000 in
theorem xs_54 {s : State} {args : Array Value} (hts : ∀ w ∈ lw_tbl, w.before args s = true) (h : (Jvm.Cond.and given_1 narrow_1).before args s = true) : ∃ q, vk_R RX7 54 "the input buffer is full" q s := lit_ref (tm := .string "EchoLine" 54) (hts _ (LT_5 96 rfl)) (gv h (k := 409) rfl)
set_option maxRecDepth 100000 in
theorem xs_68 {s : State} {args : Array Value} (hts : ∀ w ∈ lw_tbl, w.before args s = true) (h : (Jvm.Cond.and given_1 narrow_1).before args s = true) : ∃ q, vk_R RX7 68 "no such length" q s := lit_ref (tm := .string "EchoLine" 68) (hts _ (LT_5 116 rfl)) (gv h (k := 437) rfl)
set_option maxRecDepth 100000 in
theorem xs_98 {s : State} {args : Array Value} (hts : ∀ w ∈ lw_tbl, w.before args s = true) (h : (Jvm.Cond.and given_1 narrow_1).before args s = true) : ∃ q, vk_R RX7 98 "no such property" q s := lit_ref (tm := .string "EchoLine" 98) (hts _ (LT_5 125 rfl)) (gv h (k := 455) rfl)
set_option maxRecDepth 100000 in
theorem xs_311 {s : State} {args : Array Value} (hts : ∀ w ∈ lw_tbl, w.before args s = true) (h : (Jvm.Cond.and given_1 narrow_1).before args s = true) : ∃ q, vk_R RX7 311 "no such line" q s := lit_ref (tm := .string "EchoLine" 311) (hts _ (LT_5 155 rfl)) (gv h (k := 475) rfl)
set_option maxRecDepth 100000 in
theorem xs_148 {s : State} {args : Array Value} (hts : ∀ w ∈ lw_tbl, w.before args s = true) (h : (Jvm.Cond.and given_1 narrow_1).before args s = true) : ∃ q, vk_R RX7 148 "no such number of a line" q s := lit_ref (tm := .string "EchoLine" 148) (hts _ (LT_5 162 rfl)) (gv h (k := 491) rfl)
set_option maxRecDepth 100000 in
theorem xs_317 {s : State} {args : Array Value} (hts : ∀ w ∈ lw_tbl, w.before args s = true) (h : (Jvm.Cond.and given_1 narrow_1).before args s = true) : ∃ q, vk_R RX7 317 "no such count" q s := lit_ref (tm := .string "EchoLine" 317) (hts _ (LT_5 173 rfl)) (gv h (k := 519) rfl)
set_option maxRecDepth 100000 in
theorem xs_189 {s : State} {args : Array Value} (hts : ∀ w ∈ lw_tbl, w.before args s = true) (h : (Jvm.Cond.and given_1 narrow_1).before args s = true) : ∃ q, vk_R RX7 189 "no such byte" q s := lit_ref (tm := .string "EchoLine" 189) (hts _ (LT_5 181 rfl)) (gv h (k := 536) rfl)
set_option maxRecDepth 100000 in
theorem xs_205 {s : State} {args : Array Value} (hts : ∀ w ∈ lw_tbl, w.before args s = true) (h : (Jvm.Cond.and given_1 narrow_1).before args s = true) : ∃ q, vk_R RX7 205 "no such entry" q s := lit_ref (tm := .string "EchoLine" 205) (hts _ (LT_5 197 rfl)) (gv h (k := 552) rfl)
set_option maxRecDepth 100000 in
theorem xs_207 {s : State} {args : Array Value} (hts : ∀ w ∈ lw_tbl, w.before args s = true) (h : (Jvm.Cond.and given_1 narrow_1).before args s = true) : ∃ q, vk_R RX7 207 "no such number of an entry" q s := lit_ref (tm := .string "EchoLine" 207) (hts _ (LT_5 198 rfl)) (gv h (k := 569) rfl)
set_option maxRecDepth 100000 in
theorem xs_315 {s : State} {args : Array Value} (hts : ∀ w ∈ lw_tbl, w.before args s = true) (h : (Jvm.Cond.and given_1 narrow_1).before args s = true) : ∃ q, vk_R RX7 315 "out of range" q s := lit_ref (tm := .string "EchoLine" 315) (hts _ (LT_5 223 rfl)) (gv h (k := 599) rfl)
set_option maxRecDepth 100000 in
theorem xs_319 {s : State} {args : Array Value} (hts : ∀ w ∈ lw_tbl, w.before args s = true) (h : (Jvm.Cond.and given_1 narrow_1).before args s = true) : ∃ q, vk_R RX7 319 "both lines are the same" q s := lit_ref (tm := .string "EchoLine" 319) (hts _ (LT_6 32 rfl)) (gv h (k := 615) rfl)
set_option maxRecDepth 100000 in
theorem xs_313 {s : State} {args : Array Value} (hts : ∀ w ∈ lw_tbl, w.before args s = true) (h : (Jvm.Cond.and given_1 narrow_1).before args s = true) : ∃ q, vk_R RX7 313 "no such slot" q s := lit_ref (tm := .string "EchoLine" 313) (hts _ (LT_6 162 rfl)) (gv h (k := 642) rfl)
set_option maxRecDepth 100000 in
theorem xs_278 {s : State} {args : Array Value} (hts : ∀ w ∈ lw_tbl, w.before args s = true) (h : (Jvm.Cond.and given_1 narrow_1).before args s = true) : ∃ q, vk_R RX7 278 "nothing is kept there" q s := lit_ref (tm := .string "EchoLine" 278) (hts _ (LT_6 170 rfl)) (gv h (k := 658) rfl)
set_option maxRecDepth 100000 in
theorem xs_283 {s : State} {args : Array Value} (hts : ∀ w ∈ lw_tbl, w.before args s = true) (h : (Jvm.Cond.and given_1 narrow_1).before args s = true) : ∃ q, vk_R RX7 283 "there is nothing to undo" q s := lit_ref (tm := .string "EchoLine" 283) (hts _ (LT_6 178 rfl)) (gv h (k := 683) rfl)
set_option maxRecDepth 100000 in
theorem ks_of {s : State} {args : Array Value} (hts : ∀ w ∈ lw_tbl, w.before args s = true) (h : (Jvm.Cond.and given_1 narrow_1).before args s = true) {G : Gm} (hG : G.1 = s) (hK : KG G) : KS G := by
  subst hG
  refine ⟨⟨hK, va_Nw.of rfl (hts _ (LT_3 44 rfl))⟩, va_Zof (hts _ (LT_2 151 rfl)) (hts _ (LT_1 15 rfl)) (va_eqt (gv h (k := 4) rfl)) (fun a ha hA => absurd ha (Nat.not_lt.mpr hA)), va_Zqof (hts _ (LT_2 168 rfl)) (hts _ (LT_1 17 rfl)) (gv h (k := 5) rfl) (fun a ha hA => absurd ha (Nat.not_lt.mpr hA)), ?_⟩
  intro x hx
  simp only [LIT, List.mem_cons, List.not_mem_nil, or_false] at hx
  rcases hx with rfl | rfl | rfl | rfl | rfl | rfl | rfl | rfl | rfl | rfl | rfl | rfl | rfl | rfl | rfl | rfl | rfl | rfl | rfl | rfl | rfl | rfl | rfl | rfl | rfl
  · exact sl_EchoLine_Line_9 hts h
  · exact sl_EchoLine_Tokens_54 hts h
  · exact sl_EchoLine_Tokens_60 hts h
  · exact sl_EchoLine_Tokens_62 hts h
  · exact sl_EchoLine_Tokens_64 hts h
  · exact sl_EchoLine_Tokens_66 hts h
  · exact sl_EchoLine_Tokens_68 hts h
  · exact sl_EchoLine_Tokens_70 hts h
  · exact sl_EchoLine_Tokens_72 hts h
  · exact sl_EchoLine_Tokens_74 hts h
  · exact sl_EchoLine_Tokens_76 hts h
  · exact sl_EchoLine_Tokens_78 hts h
  · exact sl_EchoLine_Tokens_80 hts h
  · exact sl_EchoLineModel_207 hts h
  · exact sl_EchoLineModel_209 hts h
  · exact sl_EchoLineModel_211 hts h
  · exact sl_EchoLineModel_213 hts h
  · exact sl_EchoLineModel_215 hts h
  · exact sl_EchoLineModel_217 hts h
  · exact sl_EchoLineModel_219 hts h
  · exact sl_EchoLineModel_221 hts h
  · exact sl_EchoLineModel_223 hts h
  · exact sl_EchoLineModel_225 hts h
  · exact sl_EchoLineModel_227 hts h
  · exact sl_EchoLineModel_229 hts h
set_option maxRecDepth 100000 in
theorem kx_of {s : State} {args : Array Value} (hts : ∀ w ∈ lw_tbl, w.before args s = true) (h : (Jvm.Cond.and given_1 narrow_1).before args s = true) {G : Gm} (hG : G.1 = s) (hK : KG G) : KX G := by
  have hS := ks_of hts h hG hK
  subst hG
  refine ⟨hS, vx_Zqof (hts _ (LT_3 172 rfl)) (hts _ (LT_1 10 rfl)) (gv h (k := 9) rfl) (fun a ha hA => absurd ha (Nat.not_lt.mpr hA)), vx_Zqof (hts _ (LT_3 174 rfl)) (hts _ (LT_1 10 rfl)) (gv h (k := 10) rfl) (fun a ha hA => absurd ha (Nat.not_lt.mpr hA)), ?_, ?_⟩
  · intro w hw
    simp only [XWD, List.mem_cons, List.not_mem_nil, or_false] at hw
    rcases hw with rfl | rfl | rfl | rfl | rfl | rfl | rfl
    · exact va_Nw.of rfl (hts _ (LT_5 148 rfl))
    · exact va_Nw.of rfl (hts _ (LT_3 147 rfl))
    · exact va_Nw.of rfl (hts _ (LT_5 89 rfl))
    · exact va_Nw.of rfl (hts _ (LT_6 196 rfl))
    · exact va_Nw.of rfl (hts _ (LT_3 149 rfl))
    · exact va_Nw.of rfl (hts _ (LT_3 151 rfl))
    · exact va_Nw.of rfl (hts _ (LT_3 153 rfl))
  · intro x hx
    simp only [XLIT, List.mem_cons, List.not_mem_nil, or_false] at hx
    rcases hx with rfl | rfl | rfl | rfl | rfl | rfl | rfl | rfl | rfl | rfl | rfl | rfl | rfl | rfl
    · exact xs_54 hts h
    · exact xs_68 hts h
    · exact xs_98 hts h
    · exact xs_311 hts h
    · exact xs_148 hts h
    · exact xs_317 hts h
    · exact xs_189 hts h
    · exact xs_205 hts h
    · exact xs_207 hts h
    · exact xs_315 hts h
    · exact xs_319 hts h
    · exact xs_313 hts h
    · exact xs_278 hts h
    · exact xs_283 hts h
set_option maxRecDepth 100000 in
theorem n1_of {s : State} {args : Array Value} (h : (Jvm.Cond.and given_1 narrow_1).before args s = true) : va_Nc "java/lang/IllegalArgumentException" "java/lang/IndexOutOfBoundsException" s := va_Nc.of (gv h (k := 255) rfl)
set_option maxRecDepth 100000 in
theorem n2_of {s : State} {args : Array Value} (h : (Jvm.Cond.and given_1 narrow_1).before args s = true) : va_Nc "java/lang/IllegalStateException" "java/lang/IndexOutOfBoundsException" s := va_Nc.of (gv h (k := 254) rfl)
set_option maxRecDepth 100000 in
theorem kg_of {s : State} {args : Array Value} (hts : ∀ w ∈ lw_tbl, w.before args s = true) : ∃ G : Gm, G.1 = s ∧ KG G := by
  obtain ⟨c0, i0, k0⟩ := u_known (C := RJ0) (T := TJ0) (N := 4) (n := 4) hts (fun w hw => (List.mem_filter.mp (kc_J0.2.1 w hw)).1) (hts _ (LT_3 114 rfl))
  obtain ⟨c1, i1, k1⟩ := u_known (C := RJ4) (T := TJ4) (N := 4) (n := 4) hts (fun w hw => (List.mem_filter.mp (kc_J4.2.1 w hw)).1) (hts _ (LT_3 7 rfl))
  obtain ⟨c2, i2, k2⟩ := u_known (C := RX0) (T := TX0) (N := 18) (n := 18) hts (fun w hw => (List.mem_filter.mp (kc_X0.2.1 w hw)).1) (hts _ (LT_1 79 rfl))
  obtain ⟨c3, i3, k3⟩ := u_known (C := RX1) (T := TX1) (N := 3) (n := 3) hts (fun w hw => (List.mem_filter.mp (kc_X1.2.1 w hw)).1) (hts _ (LT_1 62 rfl))
  obtain ⟨c4, i4, k4⟩ := u_known (C := RX2) (T := TX2) (N := 9) (n := 9) hts (fun w hw => (List.mem_filter.mp (kc_X2.2.1 w hw)).1) (hts _ (LT_1 224 rfl))
  obtain ⟨c5, i5, k5⟩ := u_known (C := RX3) (T := TX3) (N := 2) (n := 2) hts (fun w hw => (List.mem_filter.mp (kc_X3.2.1 w hw)).1) (hts _ (LT_1 86 rfl))
  obtain ⟨c6, i6, k6⟩ := u_known (C := RX4) (T := TX4) (N := 2) (n := 2) hts (fun w hw => (List.mem_filter.mp (kc_X4.2.1 w hw)).1) (hts _ (LT_1 38 rfl))
  obtain ⟨c7, i7, k7⟩ := u_known (C := RX5) (T := TX5) (N := 5) (n := 5) hts (fun w hw => (List.mem_filter.mp (kc_X5.2.1 w hw)).1) (hts _ (LT_1 232 rfl))
  obtain ⟨c8, i8, k8⟩ := u_known (C := RX6) (T := TX6) (N := 9) (n := 9) hts (fun w hw => (List.mem_filter.mp (kc_X6.2.1 w hw)).1) (hts _ (LT_1 54 rfl))
  obtain ⟨c9, i9, k9⟩ := u_known (C := RX7) (T := TX7) (N := 10) (n := 10) hts (fun w hw => (List.mem_filter.mp (kc_X7.2.1 w hw)).1) (hts _ (LT_1 30 rfl))
  obtain ⟨c10, i10, k10⟩ := u_known (C := RX8) (T := TX8) (N := 23) (n := 23) hts (fun w hw => (List.mem_filter.mp (kc_X8.2.1 w hw)).1) (hts _ (LT_6 215 rfl))
  obtain ⟨t0, q0, p0⟩ := arr_of (ty := .int) (hts _ (LT_1 78 rfl))
  obtain ⟨t1, q1, p1⟩ := arr_of (ty := .byte) (hts _ (LT_1 52 rfl))
  obtain ⟨t2, q2, p2⟩ := arr_of (ty := .boolean) (hts _ (LT_7 62 rfl))
  obtain ⟨t3, q3, p3⟩ := arr_of (ty := .long) (hts _ (LT_9 77 rfl))
  obtain ⟨t4, q4, p4⟩ := arr_of (ty := .double) (hts _ (LT_9 78 rfl))
  have w5 := hts _ (LT_1 60 rfl)
  obtain ⟨t5, q5, p5⟩ := arr_ov (C := "EchoLine$Line") w5
  have w6 := hts _ (LT_2 46 rfl)
  obtain ⟨t6, q6, p6⟩ := arr_ov (C := "EchoLine$Trunk") w6
  refine ⟨(s, (fun k => match k with | 0 => c0 | 1 => c1 | 2 => c2 | 3 => c3 | 4 => c4 | 5 => c5 | 6 => c6 | 7 => c7 | 8 => c8 | 9 => c9 | _ => c10, fun k => match k with | 0 => i0 | 1 => i1 | 2 => i2 | 3 => i3 | 4 => i4 | 5 => i5 | 6 => i6 | 7 => i7 | 8 => i8 | 9 => i9 | _ => i10), fun k => match k with | 0 => t0 | 1 => t1 | 2 => t2 | 3 => t3 | 4 => t4 | 5 => t5 | _ => t6), rfl, ⟨fun k q hq => ?_, fun k q hq => ?_⟩, ?_, va_AO.of w5, va_AO.of w6⟩
  · match k, hq with
    | 0, hq => cases hq; exact k0
    | 1, hq => cases hq; exact k1
    | 2, hq => cases hq; exact k2
    | 3, hq => cases hq; exact k3
    | 4, hq => cases hq; exact k4
    | 5, hq => cases hq; exact k5
    | 6, hq => cases hq; exact k6
    | 7, hq => cases hq; exact k7
    | 8, hq => cases hq; exact k8
    | 9, hq => cases hq; exact k9
    | 10, hq => cases hq; exact k10
    | k + 11, hq => simp [CL, vwCl] at hq
  · match k, hq with
    | 0, hq => cases hq; exact ⟨q0, p0⟩
    | 1, hq => cases hq; exact ⟨q1, p1⟩
    | 2, hq => cases hq; exact ⟨q2, p2⟩
    | 3, hq => cases hq; exact ⟨q3, p3⟩
    | 4, hq => cases hq; exact ⟨q4, p4⟩
    | 5, hq => cases hq; exact ⟨q5, p5⟩
    | 6, hq => cases hq; exact ⟨q6, p6⟩
    | k + 7, hq => simp [tysG] at hq
  · intro w hw
    simp only [TSn, List.mem_cons, List.not_mem_nil, or_false] at hw
    rcases hw with rfl | rfl | rfl | rfl | rfl
    · exact va_Nw.of rfl (hts _ (LT_1 39 rfl))
    · exact va_Nw.of rfl (hts _ (LT_1 87 rfl))
    · exact va_Nw.of rfl (hts _ (LT_1 230 rfl))
    · exact va_Nw.of rfl (hts _ (LT_1 63 rfl))
    · exact va_Nw.of rfl (hts _ (LT_1 80 rfl))
