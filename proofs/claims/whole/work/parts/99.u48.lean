/-! The law's wrappers: each over whatever contract the class's method has. -/
theorem app_get (P : List SA) (A : SA) : (P ++ [A])[P.length]? = some A := by simp
theorem app_set (P : List SA) (A B : SA) : (P ++ [A]).set P.length B = P ++ [B] := by simp

theorem ini_RL : Cond.initialized RL ∈ TSg := TS_1 0 rfl rfl
abbrev hL_append : List (Nat × Nat × Nat × Nat) := [(0, 16, 19, 13)]
theorem cw_append : CW yL_append cL_append 8 (some .int) hL_append 7 := ⟨TS_5 81 rfl rfl, ini_RL, TS_5 80 rfl rfl, by decide, by decide +kernel, by decide +kernel, by decide +kernel⟩
abbrev hL_truncate : List (Nat × Nat × Nat × Nat) := [(0, 5, 8, 19)]
theorem cw_truncate : CW yL_truncate cL_truncate 3 (some .int) hL_truncate 2 := ⟨TS_5 109 rfl rfl, ini_RL, TS_5 108 rfl rfl, by decide, by decide +kernel, by decide +kernel, by decide +kernel⟩
abbrev hL_property : List (Nat × Nat × Nat × Nat) := [(0, 9, 12, 19)]
theorem cw_property : CW yL_property cL_property 4 (some .int) hL_property 3 := ⟨TS_5 120 rfl rfl, ini_RL, TS_5 119 rfl rfl, by decide, by decide +kernel, by decide +kernel, by decide +kernel⟩
abbrev hL_line : List (Nat × Nat × Nat × Nat) := [(0, 10, 13, 29), (0, 10, 17, 19)]
theorem cw_line : CW yL_line cL_line 5 (some .int) hL_line 4 := ⟨TS_5 136 rfl rfl, ini_RL, TS_5 135 rfl rfl, by decide, by decide +kernel, by decide +kernel, by decide +kernel⟩
abbrev hL_count : List (Nat × Nat × Nat × Nat) := [(0, 10, 13, 29), (0, 10, 17, 19)]
theorem cw_count : CW yL_count cL_count 5 (some .int) hL_count 4 := ⟨TS_5 165 rfl rfl, ini_RL, TS_5 164 rfl rfl, by decide, by decide +kernel, by decide +kernel, by decide +kernel⟩
abbrev hL_queued : List (Nat × Nat × Nat × Nat) := [(0, 12, 15, 29)]
theorem cw_queued : CW yL_queued cL_queued 6 (some .int) hL_queued 5 := ⟨TS_5 176 rfl rfl, ini_RL, TS_5 175 rfl rfl, by decide, by decide +kernel, by decide +kernel, by decide +kernel⟩
abbrev hL_delivered : List (Nat × Nat × Nat × Nat) := [(0, 9, 12, 29)]
theorem cw_delivered : CW yL_delivered cL_delivered 4 (some .int) hL_delivered 3 := ⟨TS_5 185 rfl rfl, ini_RL, TS_5 184 rfl rfl, by decide, by decide +kernel, by decide +kernel, by decide +kernel⟩
abbrev hL_logged : List (Nat × Nat × Nat × Nat) := [(0, 10, 13, 29), (0, 10, 17, 19)]
theorem cw_logged : CW yL_logged cL_logged 5 (some .int) hL_logged 4 := ⟨TS_5 192 rfl rfl, ini_RL, TS_5 191 rfl rfl, by decide, by decide +kernel, by decide +kernel, by decide +kernel⟩
abbrev hL_sendsIn : List (Nat × Nat × Nat × Nat) := [(0, 9, 12, 29)]
theorem cw_sendsIn : CW yL_sendsIn cL_sendsIn 4 (some .int) hL_sendsIn 3 := ⟨TS_5 201 rfl rfl, ini_RL, TS_5 200 rfl rfl, by decide, by decide +kernel, by decide +kernel, by decide +kernel⟩
abbrev hL_emptyIn : List (Nat × Nat × Nat × Nat) := [(0, 9, 12, 29)]
theorem cw_emptyIn : CW yL_emptyIn cL_emptyIn 4 (some .int) hL_emptyIn 3 := ⟨TS_5 208 rfl rfl, ini_RL, TS_5 207 rfl rfl, by decide, by decide +kernel, by decide +kernel, by decide +kernel⟩
abbrev hL_sentIn : List (Nat × Nat × Nat × Nat) := [(0, 10, 13, 29), (0, 10, 17, 19)]
theorem cw_sentIn : CW yL_sentIn cL_sentIn 5 (some .int) hL_sentIn 4 := ⟨TS_5 215 rfl rfl, ini_RL, TS_5 214 rfl rfl, by decide, by decide +kernel, by decide +kernel, by decide +kernel⟩
abbrev hL_deliveredIn : List (Nat × Nat × Nat × Nat) := [(0, 10, 13, 29), (0, 10, 17, 19)]
theorem cw_deliveredIn : CW yL_deliveredIn cL_deliveredIn 5 (some .int) hL_deliveredIn 4 := ⟨TS_5 235 rfl rfl, ini_RL, TS_5 234 rfl rfl, by decide, by decide +kernel, by decide +kernel, by decide +kernel⟩
abbrev hL_room : List (Nat × Nat × Nat × Nat) := [(0, 9, 12, 29)]
theorem cw_room : CW yL_room cL_room 4 (some .int) hL_room 3 := ⟨TS_6 2 rfl rfl, ini_RL, TS_6 1 rfl rfl, by decide, by decide +kernel, by decide +kernel, by decide +kernel⟩
abbrev hL_untilStop : List (Nat × Nat × Nat × Nat) := [(0, 9, 12, 29)]
theorem cw_untilStop : CW yL_untilStop cL_untilStop 4 (some .int) hL_untilStop 3 := ⟨TS_6 9 rfl rfl, ini_RL, TS_6 8 rfl rfl, by decide, by decide +kernel, by decide +kernel, by decide +kernel⟩
abbrev hL_droppedBy : List (Nat × Nat × Nat × Nat) := [(0, 10, 13, 29), (0, 10, 17, 19)]
theorem cw_droppedBy : CW yL_droppedBy cL_droppedBy 5 (some .int) hL_droppedBy 4 := ⟨TS_6 16 rfl rfl, ini_RL, TS_6 15 rfl rfl, by decide, by decide +kernel, by decide +kernel, by decide +kernel⟩
abbrev hL_sentIfLent : List (Nat × Nat × Nat × Nat) := [(0, 10, 13, 29), (0, 10, 17, 19)]
theorem cw_sentIfLent : CW yL_sentIfLent cL_sentIfLent 5 (some .int) hL_sentIfLent 4 := ⟨TS_6 24 rfl rfl, ini_RL, TS_6 23 rfl rfl, by decide, by decide +kernel, by decide +kernel, by decide +kernel⟩
abbrev hL_bestBorrower : List (Nat × Nat × Nat × Nat) := [(0, 9, 12, 29)]
theorem cw_bestBorrower : CW yL_bestBorrower cL_bestBorrower 4 (some .int) hL_bestBorrower 3 := ⟨TS_6 40 rfl rfl, ini_RL, TS_6 39 rfl rfl, by decide, by decide +kernel, by decide +kernel, by decide +kernel⟩
abbrev hL_share : List (Nat × Nat × Nat × Nat) := [(0, 9, 12, 29)]
theorem cw_share : CW yL_share cL_share 4 (some .int) hL_share 3 := ⟨TS_6 47 rfl rfl, ini_RL, TS_6 46 rfl rfl, by decide, by decide +kernel, by decide +kernel, by decide +kernel⟩
abbrev hL_meanWait : List (Nat × Nat × Nat × Nat) := [(0, 8, 11, 29)]
theorem cw_meanWait : CW yL_meanWait cL_meanWait 4 (some .int) hL_meanWait 3 := ⟨TS_6 54 rfl rfl, ini_RL, TS_6 53 rfl rfl, by decide, by decide +kernel, by decide +kernel, by decide +kernel⟩
abbrev hL_gap : List (Nat × Nat × Nat × Nat) := [(0, 9, 12, 29)]
theorem cw_gap : CW yL_gap cL_gap 4 (some .int) hL_gap 3 := ⟨TS_6 61 rfl rfl, ini_RL, TS_6 60 rfl rfl, by decide, by decide +kernel, by decide +kernel, by decide +kernel⟩
abbrev hL_sum : List (Nat × Nat × Nat × Nat) := [(0, 9, 12, 19)]
theorem cw_sum : CW yL_sum cL_sum 4 (some .int) hL_sum 3 := ⟨TS_6 68 rfl rfl, ini_RL, TS_6 67 rfl rfl, by decide, by decide +kernel, by decide +kernel, by decide +kernel⟩
abbrev hL_type : List (Nat × Nat × Nat × Nat) := [(0, 12, 15, 29), (0, 12, 19, 19)]
theorem cw_type : CW yL_type cL_type 6 (some .int) hL_type 5 := ⟨TS_6 75 rfl rfl, ini_RL, TS_6 74 rfl rfl, by decide, by decide +kernel, by decide +kernel, by decide +kernel⟩
abbrev hL_reply : List (Nat × Nat × Nat × Nat) := [(0, 12, 15, 29), (0, 12, 19, 19)]
theorem cw_reply : CW yL_reply cL_reply 6 (some .int) hL_reply 5 := ⟨TS_6 82 rfl rfl, ini_RL, TS_6 81 rfl rfl, by decide, by decide +kernel, by decide +kernel, by decide +kernel⟩
abbrev hL_tick : List (Nat × Nat × Nat × Nat) := [(0, 9, 12, 19)]
theorem cw_tick : CW yL_tick cL_tick 4 (some .int) hL_tick 3 := ⟨TS_6 90 rfl rfl, ini_RL, TS_6 89 rfl rfl, by decide, by decide +kernel, by decide +kernel, by decide +kernel⟩
abbrev hL_lend : List (Nat × Nat × Nat × Nat) := [(0, 12, 15, 29), (0, 12, 19, 19)]
theorem cw_lend : CW yL_lend cL_lend 6 (some .int) hL_lend 5 := ⟨TS_6 97 rfl rfl, ini_RL, TS_6 96 rfl rfl, by decide, by decide +kernel, by decide +kernel, by decide +kernel⟩
abbrev hL_recall : List (Nat × Nat × Nat × Nat) := [(0, 9, 12, 29)]
theorem cw_recall : CW yL_recall cL_recall 4 (some .int) hL_recall 3 := ⟨TS_6 104 rfl rfl, ini_RL, TS_6 103 rfl rfl, by decide, by decide +kernel, by decide +kernel, by decide +kernel⟩
abbrev hL_breakLine : List (Nat × Nat × Nat × Nat) := [(0, 10, 13, 29), (0, 10, 17, 19)]
theorem cw_breakLine : CW yL_breakLine cL_breakLine 5 (some .int) hL_breakLine 4 := ⟨TS_6 112 rfl rfl, ini_RL, TS_6 111 rfl rfl, by decide, by decide +kernel, by decide +kernel, by decide +kernel⟩
abbrev hL_setPaused : List (Nat × Nat × Nat × Nat) := [(0, 17, 20, 29)]
theorem cw_setPaused : CW yL_setPaused cL_setPaused 5 (some .int) hL_setPaused 4 := ⟨TS_6 123 rfl rfl, ini_RL, TS_6 122 rfl rfl, by decide, by decide +kernel, by decide +kernel, by decide +kernel⟩
abbrev hL_setEcho : List (Nat × Nat × Nat × Nat) := [(0, 10, 13, 29), (0, 10, 17, 19)]
theorem cw_setEcho : CW yL_setEcho cL_setEcho 5 (some .int) hL_setEcho 4 := ⟨TS_6 130 rfl rfl, ini_RL, TS_6 129 rfl rfl, by decide, by decide +kernel, by decide +kernel, by decide +kernel⟩
abbrev hL_setMarks : List (Nat × Nat × Nat × Nat) := [(0, 12, 15, 29), (0, 12, 19, 19)]
theorem cw_setMarks : CW yL_setMarks cL_setMarks 6 (some .int) hL_setMarks 5 := ⟨TS_6 138 rfl rfl, ini_RL, TS_6 137 rfl rfl, by decide, by decide +kernel, by decide +kernel, by decide +kernel⟩
abbrev hL_setShare : List (Nat × Nat × Nat × Nat) := [(0, 10, 13, 29), (0, 10, 17, 19)]
theorem cw_setShare : CW yL_setShare cL_setShare 5 (some .int) hL_setShare 4 := ⟨TS_6 146 rfl rfl, ini_RL, TS_6 145 rfl rfl, by decide, by decide +kernel, by decide +kernel, by decide +kernel⟩
abbrev hL_keep : List (Nat × Nat × Nat × Nat) := [(0, 9, 12, 29)]
theorem cw_keep : CW yL_keep cL_keep 4 (some .int) hL_keep 3 := ⟨TS_6 153 rfl rfl, ini_RL, TS_6 152 rfl rfl, by decide, by decide +kernel, by decide +kernel, by decide +kernel⟩
abbrev hL_restore : List (Nat × Nat × Nat × Nat) := [(0, 9, 12, 29), (0, 9, 15, 13)]
theorem cw_restore : CW yL_restore cL_restore 4 (some .int) hL_restore 3 := ⟨TS_6 165 rfl rfl, ini_RL, TS_6 164 rfl rfl, by decide, by decide +kernel, by decide +kernel, by decide +kernel⟩
abbrev hL_undo : List (Nat × Nat × Nat × Nat) := [(0, 8, 11, 13)]
theorem cw_undo : CW yL_undo cL_undo 3 (some .int) hL_undo 2 := ⟨TS_6 173 rfl rfl, ini_RL, TS_6 172 rfl rfl, by decide, by decide +kernel, by decide +kernel, by decide +kernel⟩
abbrev hL_writeCounts : List (Nat × Nat × Nat × Nat) := [(0, 9, 12, 29)]
theorem cw_writeCounts : CW yL_writeCounts cL_writeCounts 4 (some .int) hL_writeCounts 3 := ⟨TS_6 181 rfl rfl, ini_RL, TS_6 180 rfl rfl, by decide, by decide +kernel, by decide +kernel, by decide +kernel⟩
abbrev hL_outputByte : List (Nat × Nat × Nat × Nat) := [(0, 9, 12, 133)]
theorem cw_outputByte : CW yL_outputByte cL_outputByte 4 (some .int) hL_outputByte 3 := ⟨TS_6 188 rfl rfl, ini_RL, TS_6 187 rfl rfl, by decide, by decide +kernel, by decide +kernel, by decide +kernel⟩
set_option maxRecDepth 100000 in
theorem wn_append {G : Gm} {l : Launch} (hK : KG G) {e oq : Nat} {x1 x2 x3 x4 x5 : Int32} {f : Nat → Int64} {d' mc' ms' : Nat} {w : Int32} {P P' : List SA} (hM : MD G l yX7_append cX7_append 6 (some .int) d' mc' ms' [.ref e, .int x1, .int x2, .int x3, .int x4, .int x5] P (some (.int w)) P') (hr : ∀ cf c, WF (P ++ [arL G oq 1 f]) cf c → ∃ fs, c e = some (.inr (9, fs))) : MXW G l yL_append cL_append 8 (some .int) hL_append (d' + 1) mc' ms' [.ref e, .int x1, .int x2, .int x3, .int x4, .int x5, .ref oq] (P ++ [arL G oq 1 f]) (fun _ : Unit => some (.int (zI 0))) (fun _ => True) (fun _ => P' ++ [arL G oq 1 (fun j => if j = (0 : Int).toNat then w.toInt64 else f j)]) := by
  refine MXW_of (lv := [some (.ref e), some (.int x1), some (.int x2), some (.int x3), some (.int x4), some (.int x5), some (.ref oq), none]) hK (by decide +kernel) rfl (nle rfl) (fun X C F htab => ?_)
  have C : OKc G X l RL "append" cL_append 8 (some .int) (d' + 1) mc' ms' := C
  refine x_aload C eL_append_0 rfl ?_
  refine x_iconst C eL_append_2 ?_
  refine x_aload_n C eL_append_3 rfl ?_
  refine x_iload_n C eL_append_4 rfl ?_
  refine x_iload_n C eL_append_5 rfl ?_
  refine x_iload_n C eL_append_6 rfl ?_
  refine x_iload C eL_append_7 rfl ?_
  refine x_iload C eL_append_9 rfl ?_
  refine x_callV (As := [.int x1, .int x2, .int x3, .int x4, .int x5]) [arL G oq 1 f] C hM v_X7_append vv_X7_append s_RL_7 hr eL_append_11 rfl (fun _ _ h => h) rfl (nle rfl) (by omega) (by omega) (by omega) (fun _ _ => ?_)
  refine x_i2lR C eL_append_14 ?_
  refine x_last (i := 0) (P' ++ [arL G oq 1 _]) P'.length C eL_append_15 (app_get _ _) (by decide) (by omega) (app_set _ _ _) ?_
  refine x_goto (pc' := 23) C eL_append_16 rfl ?_
  refine x_iconst C eL_append_23 ?_
  exact x_iret (by first | rfl | exact (narZ (by omega)).1) C F eL_append_24 () rfl trivial (fun cf c h => h) (by omega) (by omega)
set_option maxRecDepth 100000 in
theorem wn_truncate {G : Gm} {l : Launch} (hK : KG G) {e oq : Nat} {x1 : Int32} {f : Nat → Int64} {d' mc' ms' : Nat} {P P' : List SA} (hM : MD G l yX7_truncate cX7_truncate 2 none d' mc' ms' [.ref e, .int x1] P none P') (hr : ∀ cf c, WF (P) cf c → ∃ fs, c e = some (.inr (9, fs))) : MXW G l yL_truncate cL_truncate 3 (some .int) hL_truncate (d' + 1) mc' ms' [.ref e, .int x1] (P) (fun _ : Unit => some (.int (zI 0))) (fun _ => True) (fun _ => P') := by
  refine MXW_of (lv := [some (.ref e), some (.int x1), none]) hK (by decide +kernel) rfl (nle rfl) (fun X C F htab => ?_)
  have C : OKc G X l RL "truncate" cL_truncate 3 (some .int) (d' + 1) mc' ms' := C
  refine x_aload_n C eL_truncate_0 rfl ?_
  refine x_iload_n C eL_truncate_1 rfl ?_
  refine x_callV (As := [.int x1]) [] C hM v_X7_truncate vv_X7_truncate s_RL_15 hr eL_truncate_2 rfl (fun _ _ h => by rw [List.append_nil]; exact h) rfl (nle rfl) (by omega) (by omega) (by omega) (fun _ _ => ?_)
  refine x_goto (pc' := 11) C eL_truncate_5 rfl ?_
  refine x_iconst C eL_truncate_11 ?_
  exact x_iret (by first | rfl | exact (narZ (by omega)).1) C F eL_truncate_12 () rfl trivial (fun cf c h => by rw [List.append_nil] at h; exact h) (by omega) (by omega)
set_option maxRecDepth 100000 in
theorem wn_property {G : Gm} {l : Launch} (hK : KG G) {e oq : Nat} {x1 : Int32} {f : Nat → Int64} {d' mc' ms' : Nat} {w : Int32} {P P' : List SA} (hM : MD G l yX7_property cX7_property 2 (some .int) d' mc' ms' [.ref e, .int x1] P (some (.int w)) P') (hr : ∀ cf c, WF (P ++ [arL G oq 1 f]) cf c → ∃ fs, c e = some (.inr (9, fs))) : MXW G l yL_property cL_property 4 (some .int) hL_property (d' + 1) mc' ms' [.ref e, .int x1, .ref oq] (P ++ [arL G oq 1 f]) (fun _ : Unit => some (.int (zI 0))) (fun _ => True) (fun _ => P' ++ [arL G oq 1 (fun j => if j = (0 : Int).toNat then w.toInt64 else f j)]) := by
  refine MXW_of (lv := [some (.ref e), some (.int x1), some (.ref oq), none]) hK (by decide +kernel) rfl (nle rfl) (fun X C F htab => ?_)
  have C : OKc G X l RL "property" cL_property 4 (some .int) (d' + 1) mc' ms' := C
  refine x_aload_n C eL_property_0 rfl ?_
  refine x_iconst C eL_property_1 ?_
  refine x_aload_n C eL_property_2 rfl ?_
  refine x_iload_n C eL_property_3 rfl ?_
  refine x_callV (As := [.int x1]) [arL G oq 1 f] C hM v_X7_property vv_X7_property s_RL_21 hr eL_property_4 rfl (fun _ _ h => h) rfl (nle rfl) (by omega) (by omega) (by omega) (fun _ _ => ?_)
  refine x_i2lR C eL_property_7 ?_
  refine x_last (i := 0) (P' ++ [arL G oq 1 _]) P'.length C eL_property_8 (app_get _ _) (by decide) (by omega) (app_set _ _ _) ?_
  refine x_goto (pc' := 15) C eL_property_9 rfl ?_
  refine x_iconst C eL_property_15 ?_
  exact x_iret (by first | rfl | exact (narZ (by omega)).1) C F eL_property_16 () rfl trivial (fun cf c h => h) (by omega) (by omega)
set_option maxRecDepth 100000 in
theorem wn_line {G : Gm} {l : Launch} (hK : KG G) {e oq : Nat} {x1 x2 : Int32} {f : Nat → Int64} {d' mc' ms' : Nat} {w : Int32} {P P' : List SA} (hM : MD G l yX7_line cX7_line 4 (some .int) d' mc' ms' [.ref e, .int x1, .int x2] P (some (.int w)) P') (hr : ∀ cf c, WF (P ++ [arL G oq 1 f]) cf c → ∃ fs, c e = some (.inr (9, fs))) : MXW G l yL_line cL_line 5 (some .int) hL_line (d' + 1) mc' ms' [.ref e, .int x1, .int x2, .ref oq] (P ++ [arL G oq 1 f]) (fun _ : Unit => some (.int (zI 0))) (fun _ => True) (fun _ => P' ++ [arL G oq 1 (fun j => if j = (0 : Int).toNat then w.toInt64 else f j)]) := by
  refine MXW_of (lv := [some (.ref e), some (.int x1), some (.int x2), some (.ref oq), none]) hK (by decide +kernel) rfl (nle rfl) (fun X C F htab => ?_)
  have C : OKc G X l RL "line" cL_line 5 (some .int) (d' + 1) mc' ms' := C
  refine x_aload_n C eL_line_0 rfl ?_
  refine x_iconst C eL_line_1 ?_
  refine x_aload_n C eL_line_2 rfl ?_
  refine x_iload_n C eL_line_3 rfl ?_
  refine x_iload_n C eL_line_4 rfl ?_
  refine x_callV (As := [.int x1, .int x2]) [arL G oq 1 f] C hM v_X7_line vv_X7_line s_RL_25 hr eL_line_5 rfl (fun _ _ h => h) rfl (nle rfl) (by omega) (by omega) (by omega) (fun _ _ => ?_)
  refine x_i2lR C eL_line_8 ?_
  refine x_last (i := 0) (P' ++ [arL G oq 1 _]) P'.length C eL_line_9 (app_get _ _) (by decide) (by omega) (app_set _ _ _) ?_
  refine x_goto (pc' := 21) C eL_line_10 rfl ?_
  refine x_iconst C eL_line_21 ?_
  exact x_iret (by first | rfl | exact (narZ (by omega)).1) C F eL_line_22 () rfl trivial (fun cf c h => h) (by omega) (by omega)
set_option maxRecDepth 100000 in
theorem wn_count {G : Gm} {l : Launch} (hK : KG G) {e oq : Nat} {x1 x2 : Int32} {f : Nat → Int64} {d' mc' ms' : Nat} {w : Int32} {P P' : List SA} (hM : MD G l yX7_count cX7_count 3 (some .int) d' mc' ms' [.ref e, .int x1, .int x2] P (some (.int w)) P') (hr : ∀ cf c, WF (P ++ [arL G oq 1 f]) cf c → ∃ fs, c e = some (.inr (9, fs))) : MXW G l yL_count cL_count 5 (some .int) hL_count (d' + 1) mc' ms' [.ref e, .int x1, .int x2, .ref oq] (P ++ [arL G oq 1 f]) (fun _ : Unit => some (.int (zI 0))) (fun _ => True) (fun _ => P' ++ [arL G oq 1 (fun j => if j = (0 : Int).toNat then w.toInt64 else f j)]) := by
  refine MXW_of (lv := [some (.ref e), some (.int x1), some (.int x2), some (.ref oq), none]) hK (by decide +kernel) rfl (nle rfl) (fun X C F htab => ?_)
  have C : OKc G X l RL "count" cL_count 5 (some .int) (d' + 1) mc' ms' := C
  refine x_aload_n C eL_count_0 rfl ?_
  refine x_iconst C eL_count_1 ?_
  refine x_aload_n C eL_count_2 rfl ?_
  refine x_iload_n C eL_count_3 rfl ?_
  refine x_iload_n C eL_count_4 rfl ?_
  refine x_callV (As := [.int x1, .int x2]) [arL G oq 1 f] C hM v_X7_count vv_X7_count s_RL_31 hr eL_count_5 rfl (fun _ _ h => h) rfl (nle rfl) (by omega) (by omega) (by omega) (fun _ _ => ?_)
  refine x_i2lR C eL_count_8 ?_
  refine x_last (i := 0) (P' ++ [arL G oq 1 _]) P'.length C eL_count_9 (app_get _ _) (by decide) (by omega) (app_set _ _ _) ?_
  refine x_goto (pc' := 21) C eL_count_10 rfl ?_
  refine x_iconst C eL_count_21 ?_
  exact x_iret (by first | rfl | exact (narZ (by omega)).1) C F eL_count_22 () rfl trivial (fun cf c h => h) (by omega) (by omega)
set_option maxRecDepth 100000 in
theorem wn_queued {G : Gm} {l : Launch} (hK : KG G) {e oq : Nat} {x1 x2 x3 : Int32} {f : Nat → Int64} {d' mc' ms' : Nat} {w : Int32} {P P' : List SA} (hM : MD G l yX7_queued cX7_queued 6 (some .int) d' mc' ms' [.ref e, .int x1, .int x2, .int x3] P (some (.int w)) P') (hr : ∀ cf c, WF (P ++ [arL G oq 1 f]) cf c → ∃ fs, c e = some (.inr (9, fs))) : MXW G l yL_queued cL_queued 6 (some .int) hL_queued (d' + 1) mc' ms' [.ref e, .int x1, .int x2, .int x3, .ref oq] (P ++ [arL G oq 1 f]) (fun _ : Unit => some (.int (zI 0))) (fun _ => True) (fun _ => P' ++ [arL G oq 1 (fun j => if j = (0 : Int).toNat then w.toInt64 else f j)]) := by
  refine MXW_of (lv := [some (.ref e), some (.int x1), some (.int x2), some (.int x3), some (.ref oq), none]) hK (by decide +kernel) rfl (nle rfl) (fun X C F htab => ?_)
  have C : OKc G X l RL "queued" cL_queued 6 (some .int) (d' + 1) mc' ms' := C
  refine x_aload C eL_queued_0 rfl ?_
  refine x_iconst C eL_queued_2 ?_
  refine x_aload_n C eL_queued_3 rfl ?_
  refine x_iload_n C eL_queued_4 rfl ?_
  refine x_iload_n C eL_queued_5 rfl ?_
  refine x_iload_n C eL_queued_6 rfl ?_
  refine x_callV (As := [.int x1, .int x2, .int x3]) [arL G oq 1 f] C hM v_X7_queued vv_X7_queued s_RL_34 hr eL_queued_7 rfl (fun _ _ h => h) rfl (nle rfl) (by omega) (by omega) (by omega) (fun _ _ => ?_)
  refine x_i2lR C eL_queued_10 ?_
  refine x_last (i := 0) (P' ++ [arL G oq 1 _]) P'.length C eL_queued_11 (app_get _ _) (by decide) (by omega) (app_set _ _ _) ?_
  refine x_goto (pc' := 19) C eL_queued_12 rfl ?_
  refine x_iconst C eL_queued_19 ?_
  exact x_iret (by first | rfl | exact (narZ (by omega)).1) C F eL_queued_20 () rfl trivial (fun cf c h => h) (by omega) (by omega)
set_option maxRecDepth 100000 in
theorem wn_delivered {G : Gm} {l : Launch} (hK : KG G) {e oq : Nat} {x1 : Int32} {f : Nat → Int64} {d' mc' ms' : Nat} {w : Int32} {P P' : List SA} (hM : MD G l yX7_delivered cX7_delivered 2 (some .int) d' mc' ms' [.ref e, .int x1] P (some (.int w)) P') (hr : ∀ cf c, WF (P ++ [arL G oq 1 f]) cf c → ∃ fs, c e = some (.inr (9, fs))) : MXW G l yL_delivered cL_delivered 4 (some .int) hL_delivered (d' + 1) mc' ms' [.ref e, .int x1, .ref oq] (P ++ [arL G oq 1 f]) (fun _ : Unit => some (.int (zI 0))) (fun _ => True) (fun _ => P' ++ [arL G oq 1 (fun j => if j = (0 : Int).toNat then w.toInt64 else f j)]) := by
  refine MXW_of (lv := [some (.ref e), some (.int x1), some (.ref oq), none]) hK (by decide +kernel) rfl (nle rfl) (fun X C F htab => ?_)
  have C : OKc G X l RL "delivered" cL_delivered 4 (some .int) (d' + 1) mc' ms' := C
  refine x_aload_n C eL_delivered_0 rfl ?_
  refine x_iconst C eL_delivered_1 ?_
  refine x_aload_n C eL_delivered_2 rfl ?_
  refine x_iload_n C eL_delivered_3 rfl ?_
  refine x_callV (As := [.int x1]) [arL G oq 1 f] C hM v_X7_delivered vv_X7_delivered s_RL_38 hr eL_delivered_4 rfl (fun _ _ h => h) rfl (nle rfl) (by omega) (by omega) (by omega) (fun _ _ => ?_)
  refine x_i2lR C eL_delivered_7 ?_
  refine x_last (i := 0) (P' ++ [arL G oq 1 _]) P'.length C eL_delivered_8 (app_get _ _) (by decide) (by omega) (app_set _ _ _) ?_
  refine x_goto (pc' := 15) C eL_delivered_9 rfl ?_
  refine x_iconst C eL_delivered_15 ?_
  exact x_iret (by first | rfl | exact (narZ (by omega)).1) C F eL_delivered_16 () rfl trivial (fun cf c h => h) (by omega) (by omega)
set_option maxRecDepth 100000 in
theorem wn_logged {G : Gm} {l : Launch} (hK : KG G) {e oq : Nat} {x1 x2 : Int32} {f : Nat → Int64} {d' mc' ms' : Nat} {w : Int32} {P P' : List SA} (hM : MD G l yX7_logged cX7_logged 3 (some .int) d' mc' ms' [.ref e, .int x1, .int x2] P (some (.int w)) P') (hr : ∀ cf c, WF (P ++ [arL G oq 1 f]) cf c → ∃ fs, c e = some (.inr (9, fs))) : MXW G l yL_logged cL_logged 5 (some .int) hL_logged (d' + 1) mc' ms' [.ref e, .int x1, .int x2, .ref oq] (P ++ [arL G oq 1 f]) (fun _ : Unit => some (.int (zI 0))) (fun _ => True) (fun _ => P' ++ [arL G oq 1 (fun j => if j = (0 : Int).toNat then w.toInt64 else f j)]) := by
  refine MXW_of (lv := [some (.ref e), some (.int x1), some (.int x2), some (.ref oq), none]) hK (by decide +kernel) rfl (nle rfl) (fun X C F htab => ?_)
  have C : OKc G X l RL "logged" cL_logged 5 (some .int) (d' + 1) mc' ms' := C
  refine x_aload_n C eL_logged_0 rfl ?_
  refine x_iconst C eL_logged_1 ?_
  refine x_aload_n C eL_logged_2 rfl ?_
  refine x_iload_n C eL_logged_3 rfl ?_
  refine x_iload_n C eL_logged_4 rfl ?_
  refine x_callV (As := [.int x1, .int x2]) [arL G oq 1 f] C hM v_X7_logged vv_X7_logged s_RL_41 hr eL_logged_5 rfl (fun _ _ h => h) rfl (nle rfl) (by omega) (by omega) (by omega) (fun _ _ => ?_)
  refine x_i2lR C eL_logged_8 ?_
  refine x_last (i := 0) (P' ++ [arL G oq 1 _]) P'.length C eL_logged_9 (app_get _ _) (by decide) (by omega) (app_set _ _ _) ?_
  refine x_goto (pc' := 21) C eL_logged_10 rfl ?_
  refine x_iconst C eL_logged_21 ?_
  exact x_iret (by first | rfl | exact (narZ (by omega)).1) C F eL_logged_22 () rfl trivial (fun cf c h => h) (by omega) (by omega)
set_option maxRecDepth 100000 in
theorem wn_sendsIn {G : Gm} {l : Launch} (hK : KG G) {e oq : Nat} {x1 : Int32} {f : Nat → Int64} {d' mc' ms' : Nat} {w : Int32} {P P' : List SA} (hM : MD G l yX7_sendsIn cX7_sendsIn 3 (some .int) d' mc' ms' [.ref e, .int x1] P (some (.int w)) P') (hr : ∀ cf c, WF (P ++ [arL G oq 1 f]) cf c → ∃ fs, c e = some (.inr (9, fs))) : MXW G l yL_sendsIn cL_sendsIn 4 (some .int) hL_sendsIn (d' + 1) mc' ms' [.ref e, .int x1, .ref oq] (P ++ [arL G oq 1 f]) (fun _ : Unit => some (.int (zI 0))) (fun _ => True) (fun _ => P' ++ [arL G oq 1 (fun j => if j = (0 : Int).toNat then w.toInt64 else f j)]) := by
  refine MXW_of (lv := [some (.ref e), some (.int x1), some (.ref oq), none]) hK (by decide +kernel) rfl (nle rfl) (fun X C F htab => ?_)
  have C : OKc G X l RL "sendsIn" cL_sendsIn 4 (some .int) (d' + 1) mc' ms' := C
  refine x_aload_n C eL_sendsIn_0 rfl ?_
  refine x_iconst C eL_sendsIn_1 ?_
  refine x_aload_n C eL_sendsIn_2 rfl ?_
  refine x_iload_n C eL_sendsIn_3 rfl ?_
  refine x_callV (As := [.int x1]) [arL G oq 1 f] C hM v_X7_sendsIn vv_X7_sendsIn s_RL_44 hr eL_sendsIn_4 rfl (fun _ _ h => h) rfl (nle rfl) (by omega) (by omega) (by omega) (fun _ _ => ?_)
  refine x_i2lR C eL_sendsIn_7 ?_
  refine x_last (i := 0) (P' ++ [arL G oq 1 _]) P'.length C eL_sendsIn_8 (app_get _ _) (by decide) (by omega) (app_set _ _ _) ?_
  refine x_goto (pc' := 15) C eL_sendsIn_9 rfl ?_
  refine x_iconst C eL_sendsIn_15 ?_
  exact x_iret (by first | rfl | exact (narZ (by omega)).1) C F eL_sendsIn_16 () rfl trivial (fun cf c h => h) (by omega) (by omega)
set_option maxRecDepth 100000 in
theorem wn_emptyIn {G : Gm} {l : Launch} (hK : KG G) {e oq : Nat} {x1 : Int32} {f : Nat → Int64} {d' mc' ms' : Nat} {w : Int32} {P P' : List SA} (hM : MD G l yX7_emptyIn cX7_emptyIn 4 (some .int) d' mc' ms' [.ref e, .int x1] P (some (.int w)) P') (hr : ∀ cf c, WF (P ++ [arL G oq 1 f]) cf c → ∃ fs, c e = some (.inr (9, fs))) : MXW G l yL_emptyIn cL_emptyIn 4 (some .int) hL_emptyIn (d' + 1) mc' ms' [.ref e, .int x1, .ref oq] (P ++ [arL G oq 1 f]) (fun _ : Unit => some (.int (zI 0))) (fun _ => True) (fun _ => P' ++ [arL G oq 1 (fun j => if j = (0 : Int).toNat then w.toInt64 else f j)]) := by
  refine MXW_of (lv := [some (.ref e), some (.int x1), some (.ref oq), none]) hK (by decide +kernel) rfl (nle rfl) (fun X C F htab => ?_)
  have C : OKc G X l RL "emptyIn" cL_emptyIn 4 (some .int) (d' + 1) mc' ms' := C
  refine x_aload_n C eL_emptyIn_0 rfl ?_
  refine x_iconst C eL_emptyIn_1 ?_
  refine x_aload_n C eL_emptyIn_2 rfl ?_
  refine x_iload_n C eL_emptyIn_3 rfl ?_
  refine x_callV (As := [.int x1]) [arL G oq 1 f] C hM v_X7_emptyIn vv_X7_emptyIn s_RL_47 hr eL_emptyIn_4 rfl (fun _ _ h => h) rfl (nle rfl) (by omega) (by omega) (by omega) (fun _ _ => ?_)
  refine x_i2lR C eL_emptyIn_7 ?_
  refine x_last (i := 0) (P' ++ [arL G oq 1 _]) P'.length C eL_emptyIn_8 (app_get _ _) (by decide) (by omega) (app_set _ _ _) ?_
  refine x_goto (pc' := 15) C eL_emptyIn_9 rfl ?_
  refine x_iconst C eL_emptyIn_15 ?_
  exact x_iret (by first | rfl | exact (narZ (by omega)).1) C F eL_emptyIn_16 () rfl trivial (fun cf c h => h) (by omega) (by omega)
set_option maxRecDepth 100000 in
theorem wn_sentIn {G : Gm} {l : Launch} (hK : KG G) {e oq : Nat} {x1 x2 : Int32} {f : Nat → Int64} {d' mc' ms' : Nat} {w : Int32} {P P' : List SA} (hM : MD G l yX7_sentIn cX7_sentIn 3 (some .int) d' mc' ms' [.ref e, .int x1, .int x2] P (some (.int w)) P') (hr : ∀ cf c, WF (P ++ [arL G oq 1 f]) cf c → ∃ fs, c e = some (.inr (9, fs))) : MXW G l yL_sentIn cL_sentIn 5 (some .int) hL_sentIn (d' + 1) mc' ms' [.ref e, .int x1, .int x2, .ref oq] (P ++ [arL G oq 1 f]) (fun _ : Unit => some (.int (zI 0))) (fun _ => True) (fun _ => P' ++ [arL G oq 1 (fun j => if j = (0 : Int).toNat then w.toInt64 else f j)]) := by
  refine MXW_of (lv := [some (.ref e), some (.int x1), some (.int x2), some (.ref oq), none]) hK (by decide +kernel) rfl (nle rfl) (fun X C F htab => ?_)
  have C : OKc G X l RL "sentIn" cL_sentIn 5 (some .int) (d' + 1) mc' ms' := C
  refine x_aload_n C eL_sentIn_0 rfl ?_
  refine x_iconst C eL_sentIn_1 ?_
  refine x_aload_n C eL_sentIn_2 rfl ?_
  refine x_iload_n C eL_sentIn_3 rfl ?_
  refine x_iload_n C eL_sentIn_4 rfl ?_
  refine x_callV (As := [.int x1, .int x2]) [arL G oq 1 f] C hM v_X7_sentIn vv_X7_sentIn s_RL_50 hr eL_sentIn_5 rfl (fun _ _ h => h) rfl (nle rfl) (by omega) (by omega) (by omega) (fun _ _ => ?_)
  refine x_i2lR C eL_sentIn_8 ?_
  refine x_last (i := 0) (P' ++ [arL G oq 1 _]) P'.length C eL_sentIn_9 (app_get _ _) (by decide) (by omega) (app_set _ _ _) ?_
  refine x_goto (pc' := 21) C eL_sentIn_10 rfl ?_
  refine x_iconst C eL_sentIn_21 ?_
  exact x_iret (by first | rfl | exact (narZ (by omega)).1) C F eL_sentIn_22 () rfl trivial (fun cf c h => h) (by omega) (by omega)
set_option maxRecDepth 100000 in
theorem wn_deliveredIn {G : Gm} {l : Launch} (hK : KG G) {e oq : Nat} {x1 x2 : Int32} {f : Nat → Int64} {d' mc' ms' : Nat} {w : Int32} {P P' : List SA} (hM : MD G l yX7_deliveredIn cX7_deliveredIn 3 (some .int) d' mc' ms' [.ref e, .int x1, .int x2] P (some (.int w)) P') (hr : ∀ cf c, WF (P ++ [arL G oq 1 f]) cf c → ∃ fs, c e = some (.inr (9, fs))) : MXW G l yL_deliveredIn cL_deliveredIn 5 (some .int) hL_deliveredIn (d' + 1) mc' ms' [.ref e, .int x1, .int x2, .ref oq] (P ++ [arL G oq 1 f]) (fun _ : Unit => some (.int (zI 0))) (fun _ => True) (fun _ => P' ++ [arL G oq 1 (fun j => if j = (0 : Int).toNat then w.toInt64 else f j)]) := by
  refine MXW_of (lv := [some (.ref e), some (.int x1), some (.int x2), some (.ref oq), none]) hK (by decide +kernel) rfl (nle rfl) (fun X C F htab => ?_)
  have C : OKc G X l RL "deliveredIn" cL_deliveredIn 5 (some .int) (d' + 1) mc' ms' := C
  refine x_aload_n C eL_deliveredIn_0 rfl ?_
  refine x_iconst C eL_deliveredIn_1 ?_
  refine x_aload_n C eL_deliveredIn_2 rfl ?_
  refine x_iload_n C eL_deliveredIn_3 rfl ?_
  refine x_iload_n C eL_deliveredIn_4 rfl ?_
  refine x_callV (As := [.int x1, .int x2]) [arL G oq 1 f] C hM v_X7_deliveredIn vv_X7_deliveredIn s_RL_53 hr eL_deliveredIn_5 rfl (fun _ _ h => h) rfl (nle rfl) (by omega) (by omega) (by omega) (fun _ _ => ?_)
  refine x_i2lR C eL_deliveredIn_8 ?_
  refine x_last (i := 0) (P' ++ [arL G oq 1 _]) P'.length C eL_deliveredIn_9 (app_get _ _) (by decide) (by omega) (app_set _ _ _) ?_
  refine x_goto (pc' := 21) C eL_deliveredIn_10 rfl ?_
  refine x_iconst C eL_deliveredIn_21 ?_
  exact x_iret (by first | rfl | exact (narZ (by omega)).1) C F eL_deliveredIn_22 () rfl trivial (fun cf c h => h) (by omega) (by omega)
set_option maxRecDepth 100000 in
theorem wn_room {G : Gm} {l : Launch} (hK : KG G) {e oq : Nat} {x1 : Int32} {f : Nat → Int64} {d' mc' ms' : Nat} {w : Int32} {P P' : List SA} (hM : MD G l yX7_room cX7_room 3 (some .int) d' mc' ms' [.ref e, .int x1] P (some (.int w)) P') (hr : ∀ cf c, WF (P ++ [arL G oq 1 f]) cf c → ∃ fs, c e = some (.inr (9, fs))) : MXW G l yL_room cL_room 4 (some .int) hL_room (d' + 1) mc' ms' [.ref e, .int x1, .ref oq] (P ++ [arL G oq 1 f]) (fun _ : Unit => some (.int (zI 0))) (fun _ => True) (fun _ => P' ++ [arL G oq 1 (fun j => if j = (0 : Int).toNat then w.toInt64 else f j)]) := by
  refine MXW_of (lv := [some (.ref e), some (.int x1), some (.ref oq), none]) hK (by decide +kernel) rfl (nle rfl) (fun X C F htab => ?_)
  have C : OKc G X l RL "room" cL_room 4 (some .int) (d' + 1) mc' ms' := C
  refine x_aload_n C eL_room_0 rfl ?_
  refine x_iconst C eL_room_1 ?_
  refine x_aload_n C eL_room_2 rfl ?_
  refine x_iload_n C eL_room_3 rfl ?_
  refine x_callV (As := [.int x1]) [arL G oq 1 f] C hM v_X7_room vv_X7_room s_RL_56 hr eL_room_4 rfl (fun _ _ h => h) rfl (nle rfl) (by omega) (by omega) (by omega) (fun _ _ => ?_)
  refine x_i2lR C eL_room_7 ?_
  refine x_last (i := 0) (P' ++ [arL G oq 1 _]) P'.length C eL_room_8 (app_get _ _) (by decide) (by omega) (app_set _ _ _) ?_
  refine x_goto (pc' := 15) C eL_room_9 rfl ?_
  refine x_iconst C eL_room_15 ?_
  exact x_iret (by first | rfl | exact (narZ (by omega)).1) C F eL_room_16 () rfl trivial (fun cf c h => h) (by omega) (by omega)
set_option maxRecDepth 100000 in
theorem wn_untilStop {G : Gm} {l : Launch} (hK : KG G) {e oq : Nat} {x1 : Int32} {f : Nat → Int64} {d' mc' ms' : Nat} {w : Int32} {P P' : List SA} (hM : MD G l yX7_untilStop cX7_untilStop 3 (some .int) d' mc' ms' [.ref e, .int x1] P (some (.int w)) P') (hr : ∀ cf c, WF (P ++ [arL G oq 1 f]) cf c → ∃ fs, c e = some (.inr (9, fs))) : MXW G l yL_untilStop cL_untilStop 4 (some .int) hL_untilStop (d' + 1) mc' ms' [.ref e, .int x1, .ref oq] (P ++ [arL G oq 1 f]) (fun _ : Unit => some (.int (zI 0))) (fun _ => True) (fun _ => P' ++ [arL G oq 1 (fun j => if j = (0 : Int).toNat then w.toInt64 else f j)]) := by
  refine MXW_of (lv := [some (.ref e), some (.int x1), some (.ref oq), none]) hK (by decide +kernel) rfl (nle rfl) (fun X C F htab => ?_)
  have C : OKc G X l RL "untilStop" cL_untilStop 4 (some .int) (d' + 1) mc' ms' := C
  refine x_aload_n C eL_untilStop_0 rfl ?_
  refine x_iconst C eL_untilStop_1 ?_
  refine x_aload_n C eL_untilStop_2 rfl ?_
  refine x_iload_n C eL_untilStop_3 rfl ?_
  refine x_callV (As := [.int x1]) [arL G oq 1 f] C hM v_X7_untilStop vv_X7_untilStop s_RL_59 hr eL_untilStop_4 rfl (fun _ _ h => h) rfl (nle rfl) (by omega) (by omega) (by omega) (fun _ _ => ?_)
  refine x_i2lR C eL_untilStop_7 ?_
  refine x_last (i := 0) (P' ++ [arL G oq 1 _]) P'.length C eL_untilStop_8 (app_get _ _) (by decide) (by omega) (app_set _ _ _) ?_
  refine x_goto (pc' := 15) C eL_untilStop_9 rfl ?_
  refine x_iconst C eL_untilStop_15 ?_
  exact x_iret (by first | rfl | exact (narZ (by omega)).1) C F eL_untilStop_16 () rfl trivial (fun cf c h => h) (by omega) (by omega)
set_option maxRecDepth 100000 in
theorem wn_droppedBy {G : Gm} {l : Launch} (hK : KG G) {e oq : Nat} {x1 x2 : Int32} {f : Nat → Int64} {d' mc' ms' : Nat} {w : Int32} {P P' : List SA} (hM : MD G l yX7_droppedBy cX7_droppedBy 5 (some .int) d' mc' ms' [.ref e, .int x1, .int x2] P (some (.int w)) P') (hr : ∀ cf c, WF (P ++ [arL G oq 1 f]) cf c → ∃ fs, c e = some (.inr (9, fs))) : MXW G l yL_droppedBy cL_droppedBy 5 (some .int) hL_droppedBy (d' + 1) mc' ms' [.ref e, .int x1, .int x2, .ref oq] (P ++ [arL G oq 1 f]) (fun _ : Unit => some (.int (zI 0))) (fun _ => True) (fun _ => P' ++ [arL G oq 1 (fun j => if j = (0 : Int).toNat then w.toInt64 else f j)]) := by
  refine MXW_of (lv := [some (.ref e), some (.int x1), some (.int x2), some (.ref oq), none]) hK (by decide +kernel) rfl (nle rfl) (fun X C F htab => ?_)
  have C : OKc G X l RL "droppedBy" cL_droppedBy 5 (some .int) (d' + 1) mc' ms' := C
  refine x_aload_n C eL_droppedBy_0 rfl ?_
  refine x_iconst C eL_droppedBy_1 ?_
  refine x_aload_n C eL_droppedBy_2 rfl ?_
  refine x_iload_n C eL_droppedBy_3 rfl ?_
  refine x_iload_n C eL_droppedBy_4 rfl ?_
  refine x_callV (As := [.int x1, .int x2]) [arL G oq 1 f] C hM v_X7_droppedBy vv_X7_droppedBy s_RL_62 hr eL_droppedBy_5 rfl (fun _ _ h => h) rfl (nle rfl) (by omega) (by omega) (by omega) (fun _ _ => ?_)
  refine x_i2lR C eL_droppedBy_8 ?_
  refine x_last (i := 0) (P' ++ [arL G oq 1 _]) P'.length C eL_droppedBy_9 (app_get _ _) (by decide) (by omega) (app_set _ _ _) ?_
  refine x_goto (pc' := 21) C eL_droppedBy_10 rfl ?_
  refine x_iconst C eL_droppedBy_21 ?_
  exact x_iret (by first | rfl | exact (narZ (by omega)).1) C F eL_droppedBy_22 () rfl trivial (fun cf c h => h) (by omega) (by omega)
set_option maxRecDepth 100000 in
theorem wn_sentIfLent {G : Gm} {l : Launch} (hK : KG G) {e oq : Nat} {x1 x2 : Int32} {f : Nat → Int64} {d' mc' ms' : Nat} {w : Int32} {P P' : List SA} (hM : MD G l yX7_sentIfLent cX7_sentIfLent 3 (some .int) d' mc' ms' [.ref e, .int x1, .int x2] P (some (.int w)) P') (hr : ∀ cf c, WF (P ++ [arL G oq 1 f]) cf c → ∃ fs, c e = some (.inr (9, fs))) : MXW G l yL_sentIfLent cL_sentIfLent 5 (some .int) hL_sentIfLent (d' + 1) mc' ms' [.ref e, .int x1, .int x2, .ref oq] (P ++ [arL G oq 1 f]) (fun _ : Unit => some (.int (zI 0))) (fun _ => True) (fun _ => P' ++ [arL G oq 1 (fun j => if j = (0 : Int).toNat then w.toInt64 else f j)]) := by
  refine MXW_of (lv := [some (.ref e), some (.int x1), some (.int x2), some (.ref oq), none]) hK (by decide +kernel) rfl (nle rfl) (fun X C F htab => ?_)
  have C : OKc G X l RL "sentIfLent" cL_sentIfLent 5 (some .int) (d' + 1) mc' ms' := C
  refine x_aload_n C eL_sentIfLent_0 rfl ?_
  refine x_iconst C eL_sentIfLent_1 ?_
  refine x_aload_n C eL_sentIfLent_2 rfl ?_
  refine x_iload_n C eL_sentIfLent_3 rfl ?_
  refine x_iload_n C eL_sentIfLent_4 rfl ?_
  refine x_callV (As := [.int x1, .int x2]) [arL G oq 1 f] C hM v_X7_sentIfLent vv_X7_sentIfLent s_RL_65 hr eL_sentIfLent_5 rfl (fun _ _ h => h) rfl (nle rfl) (by omega) (by omega) (by omega) (fun _ _ => ?_)
  refine x_i2lR C eL_sentIfLent_8 ?_
  refine x_last (i := 0) (P' ++ [arL G oq 1 _]) P'.length C eL_sentIfLent_9 (app_get _ _) (by decide) (by omega) (app_set _ _ _) ?_
  refine x_goto (pc' := 21) C eL_sentIfLent_10 rfl ?_
  refine x_iconst C eL_sentIfLent_21 ?_
  exact x_iret (by first | rfl | exact (narZ (by omega)).1) C F eL_sentIfLent_22 () rfl trivial (fun cf c h => h) (by omega) (by omega)
set_option maxRecDepth 100000 in
theorem wn_bestBorrower {G : Gm} {l : Launch} (hK : KG G) {e oq : Nat} {x1 : Int32} {f : Nat → Int64} {d' mc' ms' : Nat} {w : Int32} {P P' : List SA} (hM : MD G l yX7_bestBorrower cX7_bestBorrower 5 (some .int) d' mc' ms' [.ref e, .int x1] P (some (.int w)) P') (hr : ∀ cf c, WF (P ++ [arL G oq 1 f]) cf c → ∃ fs, c e = some (.inr (9, fs))) : MXW G l yL_bestBorrower cL_bestBorrower 4 (some .int) hL_bestBorrower (d' + 1) mc' ms' [.ref e, .int x1, .ref oq] (P ++ [arL G oq 1 f]) (fun _ : Unit => some (.int (zI 0))) (fun _ => True) (fun _ => P' ++ [arL G oq 1 (fun j => if j = (0 : Int).toNat then w.toInt64 else f j)]) := by
  refine MXW_of (lv := [some (.ref e), some (.int x1), some (.ref oq), none]) hK (by decide +kernel) rfl (nle rfl) (fun X C F htab => ?_)
  have C : OKc G X l RL "bestBorrower" cL_bestBorrower 4 (some .int) (d' + 1) mc' ms' := C
  refine x_aload_n C eL_bestBorrower_0 rfl ?_
  refine x_iconst C eL_bestBorrower_1 ?_
  refine x_aload_n C eL_bestBorrower_2 rfl ?_
  refine x_iload_n C eL_bestBorrower_3 rfl ?_
  refine x_callV (As := [.int x1]) [arL G oq 1 f] C hM v_X7_bestBorrower vv_X7_bestBorrower s_RL_68 hr eL_bestBorrower_4 rfl (fun _ _ h => h) rfl (nle rfl) (by omega) (by omega) (by omega) (fun _ _ => ?_)
  refine x_i2lR C eL_bestBorrower_7 ?_
  refine x_last (i := 0) (P' ++ [arL G oq 1 _]) P'.length C eL_bestBorrower_8 (app_get _ _) (by decide) (by omega) (app_set _ _ _) ?_
  refine x_goto (pc' := 15) C eL_bestBorrower_9 rfl ?_
  refine x_iconst C eL_bestBorrower_15 ?_
  exact x_iret (by first | rfl | exact (narZ (by omega)).1) C F eL_bestBorrower_16 () rfl trivial (fun cf c h => h) (by omega) (by omega)
set_option maxRecDepth 100000 in
theorem wn_share {G : Gm} {l : Launch} (hK : KG G) {e oq : Nat} {x1 : Int32} {f : Nat → UInt64} {d' mc' ms' : Nat} {w : UInt32} (hne : vf_n64 (FP.f2d w)) {P P' : List SA} (hM : MD G l yX7_share cX7_share 2 (some .float) d' mc' ms' [.ref e, .int x1] P (some (.float w)) P') (hr : ∀ cf c, WF (P ++ [arD G oq 1 f]) cf c → ∃ fs, c e = some (.inr (9, fs))) : MXW G l yL_share cL_share 4 (some .int) hL_share (d' + 1) mc' ms' [.ref e, .int x1, .ref oq] (P ++ [arD G oq 1 f]) (fun _ : Unit => some (.int (zI 0))) (fun _ => True) (fun _ => P' ++ [arD G oq 1 (fun j => if j = (0 : Int).toNat then FP.f2d w else f j)]) := by
  refine MXW_of (lv := [some (.ref e), some (.int x1), some (.ref oq), none]) hK (by decide +kernel) rfl (nle rfl) (fun X C F htab => ?_)
  have C : OKc G X l RL "share" cL_share 4 (some .int) (d' + 1) mc' ms' := C
  refine x_aload_n C eL_share_0 rfl ?_
  refine x_iconst C eL_share_1 ?_
  refine x_aload_n C eL_share_2 rfl ?_
  refine x_iload_n C eL_share_3 rfl ?_
  refine x_callV (As := [.int x1]) [arD G oq 1 f] C hM v_X7_share vv_X7_share s_RL_71 hr eL_share_4 rfl (fun _ _ h => h) rfl (nle rfl) (by omega) (by omega) (by omega) (fun _ _ => ?_)
  refine x_f2d C eL_share_7 hne ?_
  refine x_dast (i := 0) (P' ++ [arD G oq 1 _]) P'.length C eL_share_8 (app_get _ _) (by decide) (by omega) (app_set _ _ _) ?_
  refine x_goto (pc' := 15) C eL_share_9 rfl ?_
  refine x_iconst C eL_share_15 ?_
  exact x_iret (by first | rfl | exact (narZ (by omega)).1) C F eL_share_16 () rfl trivial (fun cf c h => h) (by omega) (by omega)
set_option maxRecDepth 100000 in
theorem wn_meanWait {G : Gm} {l : Launch} (hK : KG G) {e oq : Nat} {x1 : Int32} {f : Nat → UInt64} {d' mc' ms' : Nat} {w : UInt64} {P P' : List SA} (hM : MD G l yX7_meanWait cX7_meanWait 4 (some .double) d' mc' ms' [.ref e, .int x1] P (some (.double w)) P') (hr : ∀ cf c, WF (P ++ [arD G oq 1 f]) cf c → ∃ fs, c e = some (.inr (9, fs))) : MXW G l yL_meanWait cL_meanWait 4 (some .int) hL_meanWait (d' + 1) mc' ms' [.ref e, .int x1, .ref oq] (P ++ [arD G oq 1 f]) (fun _ : Unit => some (.int (zI 0))) (fun _ => True) (fun _ => P' ++ [arD G oq 1 (fun j => if j = (0 : Int).toNat then w else f j)]) := by
  refine MXW_of (lv := [some (.ref e), some (.int x1), some (.ref oq), none]) hK (by decide +kernel) rfl (nle rfl) (fun X C F htab => ?_)
  have C : OKc G X l RL "meanWait" cL_meanWait 4 (some .int) (d' + 1) mc' ms' := C
  refine x_aload_n C eL_meanWait_0 rfl ?_
  refine x_iconst C eL_meanWait_1 ?_
  refine x_aload_n C eL_meanWait_2 rfl ?_
  refine x_iload_n C eL_meanWait_3 rfl ?_
  refine x_callV (As := [.int x1]) [arD G oq 1 f] C hM v_X7_meanWait vv_X7_meanWait s_RL_75 hr eL_meanWait_4 rfl (fun _ _ h => h) rfl (nle rfl) (by omega) (by omega) (by omega) (fun _ _ => ?_)
  refine x_dast (i := 0) (P' ++ [arD G oq 1 _]) P'.length C eL_meanWait_7 (app_get _ _) (by decide) (by omega) (app_set _ _ _) ?_
  refine x_goto (pc' := 14) C eL_meanWait_8 rfl ?_
  refine x_iconst C eL_meanWait_14 ?_
  exact x_iret (by first | rfl | exact (narZ (by omega)).1) C F eL_meanWait_15 () rfl trivial (fun cf c h => h) (by omega) (by omega)
set_option maxRecDepth 100000 in
theorem wn_gap {G : Gm} {l : Launch} (hK : KG G) {e oq : Nat} {x1 : Int32} {f : Nat → Int64} {d' mc' ms' : Nat} {w : Int32} {P P' : List SA} (hM : MD G l yX7_gap cX7_gap 4 (some .int) d' mc' ms' [.ref e, .int x1] P (some (.int w)) P') (hr : ∀ cf c, WF (P ++ [arL G oq 1 f]) cf c → ∃ fs, c e = some (.inr (9, fs))) : MXW G l yL_gap cL_gap 4 (some .int) hL_gap (d' + 1) mc' ms' [.ref e, .int x1, .ref oq] (P ++ [arL G oq 1 f]) (fun _ : Unit => some (.int (zI 0))) (fun _ => True) (fun _ => P' ++ [arL G oq 1 (fun j => if j = (0 : Int).toNat then w.toInt64 else f j)]) := by
  refine MXW_of (lv := [some (.ref e), some (.int x1), some (.ref oq), none]) hK (by decide +kernel) rfl (nle rfl) (fun X C F htab => ?_)
  have C : OKc G X l RL "gap" cL_gap 4 (some .int) (d' + 1) mc' ms' := C
  refine x_aload_n C eL_gap_0 rfl ?_
  refine x_iconst C eL_gap_1 ?_
  refine x_aload_n C eL_gap_2 rfl ?_
  refine x_iload_n C eL_gap_3 rfl ?_
  refine x_callV (As := [.int x1]) [arL G oq 1 f] C hM v_X7_gap vv_X7_gap s_RL_79 hr eL_gap_4 rfl (fun _ _ h => h) rfl (nle rfl) (by omega) (by omega) (by omega) (fun _ _ => ?_)
  refine x_i2lR C eL_gap_7 ?_
  refine x_last (i := 0) (P' ++ [arL G oq 1 _]) P'.length C eL_gap_8 (app_get _ _) (by decide) (by omega) (app_set _ _ _) ?_
  refine x_goto (pc' := 15) C eL_gap_9 rfl ?_
  refine x_iconst C eL_gap_15 ?_
  exact x_iret (by first | rfl | exact (narZ (by omega)).1) C F eL_gap_16 () rfl trivial (fun cf c h => h) (by omega) (by omega)
set_option maxRecDepth 100000 in
theorem wn_sum {G : Gm} {l : Launch} (hK : KG G) {e oq : Nat} {x1 : Int32} {f : Nat → Int64} {d' mc' ms' : Nat} {w : Int32} {P P' : List SA} (hM : MD G l yX7_sum cX7_sum 4 (some .int) d' mc' ms' [.ref e, .int x1] P (some (.int w)) P') (hr : ∀ cf c, WF (P ++ [arL G oq 1 f]) cf c → ∃ fs, c e = some (.inr (9, fs))) : MXW G l yL_sum cL_sum 4 (some .int) hL_sum (d' + 1) mc' ms' [.ref e, .int x1, .ref oq] (P ++ [arL G oq 1 f]) (fun _ : Unit => some (.int (zI 0))) (fun _ => True) (fun _ => P' ++ [arL G oq 1 (fun j => if j = (0 : Int).toNat then w.toInt64 else f j)]) := by
  refine MXW_of (lv := [some (.ref e), some (.int x1), some (.ref oq), none]) hK (by decide +kernel) rfl (nle rfl) (fun X C F htab => ?_)
  have C : OKc G X l RL "sum" cL_sum 4 (some .int) (d' + 1) mc' ms' := C
  refine x_aload_n C eL_sum_0 rfl ?_
  refine x_iconst C eL_sum_1 ?_
  refine x_aload_n C eL_sum_2 rfl ?_
  refine x_iload_n C eL_sum_3 rfl ?_
  refine x_callV (As := [.int x1]) [arL G oq 1 f] C hM v_X7_sum vv_X7_sum s_RL_82 hr eL_sum_4 rfl (fun _ _ h => h) rfl (nle rfl) (by omega) (by omega) (by omega) (fun _ _ => ?_)
  refine x_i2lR C eL_sum_7 ?_
  refine x_last (i := 0) (P' ++ [arL G oq 1 _]) P'.length C eL_sum_8 (app_get _ _) (by decide) (by omega) (app_set _ _ _) ?_
  refine x_goto (pc' := 15) C eL_sum_9 rfl ?_
  refine x_iconst C eL_sum_15 ?_
  exact x_iret (by first | rfl | exact (narZ (by omega)).1) C F eL_sum_16 () rfl trivial (fun cf c h => h) (by omega) (by omega)
set_option maxRecDepth 100000 in
theorem wn_type {G : Gm} {l : Launch} (hK : KG G) {e oq : Nat} {x1 x2 x3 : Int32} {f : Nat → Int64} {d' mc' ms' : Nat} {w : Int32} {P P' : List SA} (hM : MD G l yX7_type cX7_type 6 (some .int) d' mc' ms' [.ref e, .int x1, .int x2, .int x3] P (some (.int w)) P') (hr : ∀ cf c, WF (P ++ [arL G oq 1 f]) cf c → ∃ fs, c e = some (.inr (9, fs))) : MXW G l yL_type cL_type 6 (some .int) hL_type (d' + 1) mc' ms' [.ref e, .int x1, .int x2, .int x3, .ref oq] (P ++ [arL G oq 1 f]) (fun _ : Unit => some (.int (zI 0))) (fun _ => True) (fun _ => P' ++ [arL G oq 1 (fun j => if j = (0 : Int).toNat then w.toInt64 else f j)]) := by
  refine MXW_of (lv := [some (.ref e), some (.int x1), some (.int x2), some (.int x3), some (.ref oq), none]) hK (by decide +kernel) rfl (nle rfl) (fun X C F htab => ?_)
  have C : OKc G X l RL "type" cL_type 6 (some .int) (d' + 1) mc' ms' := C
  refine x_aload C eL_type_0 rfl ?_
  refine x_iconst C eL_type_2 ?_
  refine x_aload_n C eL_type_3 rfl ?_
  refine x_iload_n C eL_type_4 rfl ?_
  refine x_iload_n C eL_type_5 rfl ?_
  refine x_iload_n C eL_type_6 rfl ?_
  refine x_callV (As := [.int x1, .int x2, .int x3]) [arL G oq 1 f] C hM v_X7_type vv_X7_type s_RL_85 hr eL_type_7 rfl (fun _ _ h => h) rfl (nle rfl) (by omega) (by omega) (by omega) (fun _ _ => ?_)
  refine x_i2lR C eL_type_10 ?_
  refine x_last (i := 0) (P' ++ [arL G oq 1 _]) P'.length C eL_type_11 (app_get _ _) (by decide) (by omega) (app_set _ _ _) ?_
  refine x_goto (pc' := 23) C eL_type_12 rfl ?_
  refine x_iconst C eL_type_23 ?_
  exact x_iret (by first | rfl | exact (narZ (by omega)).1) C F eL_type_24 () rfl trivial (fun cf c h => h) (by omega) (by omega)
set_option maxRecDepth 100000 in
theorem wn_reply {G : Gm} {l : Launch} (hK : KG G) {e oq : Nat} {x1 x2 x3 : Int32} {f : Nat → Int64} {d' mc' ms' : Nat} {w : Int32} {P P' : List SA} (hM : MD G l yX7_reply cX7_reply 6 (some .int) d' mc' ms' [.ref e, .int x1, .int x2, .int x3] P (some (.int w)) P') (hr : ∀ cf c, WF (P ++ [arL G oq 1 f]) cf c → ∃ fs, c e = some (.inr (9, fs))) : MXW G l yL_reply cL_reply 6 (some .int) hL_reply (d' + 1) mc' ms' [.ref e, .int x1, .int x2, .int x3, .ref oq] (P ++ [arL G oq 1 f]) (fun _ : Unit => some (.int (zI 0))) (fun _ => True) (fun _ => P' ++ [arL G oq 1 (fun j => if j = (0 : Int).toNat then w.toInt64 else f j)]) := by
  refine MXW_of (lv := [some (.ref e), some (.int x1), some (.int x2), some (.int x3), some (.ref oq), none]) hK (by decide +kernel) rfl (nle rfl) (fun X C F htab => ?_)
  have C : OKc G X l RL "reply" cL_reply 6 (some .int) (d' + 1) mc' ms' := C
  refine x_aload C eL_reply_0 rfl ?_
  refine x_iconst C eL_reply_2 ?_
  refine x_aload_n C eL_reply_3 rfl ?_
  refine x_iload_n C eL_reply_4 rfl ?_
  refine x_iload_n C eL_reply_5 rfl ?_
  refine x_iload_n C eL_reply_6 rfl ?_
  refine x_callV (As := [.int x1, .int x2, .int x3]) [arL G oq 1 f] C hM v_X7_reply vv_X7_reply s_RL_89 hr eL_reply_7 rfl (fun _ _ h => h) rfl (nle rfl) (by omega) (by omega) (by omega) (fun _ _ => ?_)
  refine x_i2lR C eL_reply_10 ?_
  refine x_last (i := 0) (P' ++ [arL G oq 1 _]) P'.length C eL_reply_11 (app_get _ _) (by decide) (by omega) (app_set _ _ _) ?_
  refine x_goto (pc' := 23) C eL_reply_12 rfl ?_
  refine x_iconst C eL_reply_23 ?_
  exact x_iret (by first | rfl | exact (narZ (by omega)).1) C F eL_reply_24 () rfl trivial (fun cf c h => h) (by omega) (by omega)
set_option maxRecDepth 100000 in
theorem wn_tick {G : Gm} {l : Launch} (hK : KG G) {e oq : Nat} {x1 : Int32} {f : Nat → Int64} {d' mc' ms' : Nat} {w : Int32} {P P' : List SA} (hM : MD G l yX7_tick cX7_tick 3 (some .int) d' mc' ms' [.ref e, .int x1] P (some (.int w)) P') (hr : ∀ cf c, WF (P ++ [arL G oq 1 f]) cf c → ∃ fs, c e = some (.inr (9, fs))) : MXW G l yL_tick cL_tick 4 (some .int) hL_tick (d' + 1) mc' ms' [.ref e, .int x1, .ref oq] (P ++ [arL G oq 1 f]) (fun _ : Unit => some (.int (zI 0))) (fun _ => True) (fun _ => P' ++ [arL G oq 1 (fun j => if j = (0 : Int).toNat then w.toInt64 else f j)]) := by
  refine MXW_of (lv := [some (.ref e), some (.int x1), some (.ref oq), none]) hK (by decide +kernel) rfl (nle rfl) (fun X C F htab => ?_)
  have C : OKc G X l RL "tick" cL_tick 4 (some .int) (d' + 1) mc' ms' := C
  refine x_aload_n C eL_tick_0 rfl ?_
  refine x_iconst C eL_tick_1 ?_
  refine x_aload_n C eL_tick_2 rfl ?_
  refine x_iload_n C eL_tick_3 rfl ?_
  refine x_callV (As := [.int x1]) [arL G oq 1 f] C hM v_X7_tick vv_X7_tick s_RL_92 hr eL_tick_4 rfl (fun _ _ h => h) rfl (nle rfl) (by omega) (by omega) (by omega) (fun _ _ => ?_)
  refine x_i2lR C eL_tick_7 ?_
  refine x_last (i := 0) (P' ++ [arL G oq 1 _]) P'.length C eL_tick_8 (app_get _ _) (by decide) (by omega) (app_set _ _ _) ?_
  refine x_goto (pc' := 15) C eL_tick_9 rfl ?_
  refine x_iconst C eL_tick_15 ?_
  exact x_iret (by first | rfl | exact (narZ (by omega)).1) C F eL_tick_16 () rfl trivial (fun cf c h => h) (by omega) (by omega)
set_option maxRecDepth 100000 in
theorem wn_lend {G : Gm} {l : Launch} (hK : KG G) {e oq : Nat} {x1 x2 x3 : Int32} {f : Nat → Int64} {d' mc' ms' : Nat} {w : Int32} {P P' : List SA} (hM : MD G l yX7_lend cX7_lend 6 (some .int) d' mc' ms' [.ref e, .int x1, .int x2, .int x3] P (some (.int w)) P') (hr : ∀ cf c, WF (P ++ [arL G oq 1 f]) cf c → ∃ fs, c e = some (.inr (9, fs))) : MXW G l yL_lend cL_lend 6 (some .int) hL_lend (d' + 1) mc' ms' [.ref e, .int x1, .int x2, .int x3, .ref oq] (P ++ [arL G oq 1 f]) (fun _ : Unit => some (.int (zI 0))) (fun _ => True) (fun _ => P' ++ [arL G oq 1 (fun j => if j = (0 : Int).toNat then w.toInt64 else f j)]) := by
  refine MXW_of (lv := [some (.ref e), some (.int x1), some (.int x2), some (.int x3), some (.ref oq), none]) hK (by decide +kernel) rfl (nle rfl) (fun X C F htab => ?_)
  have C : OKc G X l RL "lend" cL_lend 6 (some .int) (d' + 1) mc' ms' := C
  refine x_aload C eL_lend_0 rfl ?_
  refine x_iconst C eL_lend_2 ?_
  refine x_aload_n C eL_lend_3 rfl ?_
  refine x_iload_n C eL_lend_4 rfl ?_
  refine x_iload_n C eL_lend_5 rfl ?_
  refine x_iload_n C eL_lend_6 rfl ?_
  refine x_callV (As := [.int x1, .int x2, .int x3]) [arL G oq 1 f] C hM v_X7_lend vv_X7_lend s_RL_95 hr eL_lend_7 rfl (fun _ _ h => h) rfl (nle rfl) (by omega) (by omega) (by omega) (fun _ _ => ?_)
  refine x_i2lR C eL_lend_10 ?_
  refine x_last (i := 0) (P' ++ [arL G oq 1 _]) P'.length C eL_lend_11 (app_get _ _) (by decide) (by omega) (app_set _ _ _) ?_
  refine x_goto (pc' := 23) C eL_lend_12 rfl ?_
  refine x_iconst C eL_lend_23 ?_
  exact x_iret (by first | rfl | exact (narZ (by omega)).1) C F eL_lend_24 () rfl trivial (fun cf c h => h) (by omega) (by omega)
set_option maxRecDepth 100000 in
theorem wn_recall {G : Gm} {l : Launch} (hK : KG G) {e oq : Nat} {x1 : Int32} {f : Nat → Int64} {d' mc' ms' : Nat} {w : Int32} {P P' : List SA} (hM : MD G l yX7_recall cX7_recall 4 (some .int) d' mc' ms' [.ref e, .int x1] P (some (.int w)) P') (hr : ∀ cf c, WF (P ++ [arL G oq 1 f]) cf c → ∃ fs, c e = some (.inr (9, fs))) : MXW G l yL_recall cL_recall 4 (some .int) hL_recall (d' + 1) mc' ms' [.ref e, .int x1, .ref oq] (P ++ [arL G oq 1 f]) (fun _ : Unit => some (.int (zI 0))) (fun _ => True) (fun _ => P' ++ [arL G oq 1 (fun j => if j = (0 : Int).toNat then w.toInt64 else f j)]) := by
  refine MXW_of (lv := [some (.ref e), some (.int x1), some (.ref oq), none]) hK (by decide +kernel) rfl (nle rfl) (fun X C F htab => ?_)
  have C : OKc G X l RL "recall" cL_recall 4 (some .int) (d' + 1) mc' ms' := C
  refine x_aload_n C eL_recall_0 rfl ?_
  refine x_iconst C eL_recall_1 ?_
  refine x_aload_n C eL_recall_2 rfl ?_
  refine x_iload_n C eL_recall_3 rfl ?_
  refine x_callV (As := [.int x1]) [arL G oq 1 f] C hM v_X7_recall vv_X7_recall s_RL_98 hr eL_recall_4 rfl (fun _ _ h => h) rfl (nle rfl) (by omega) (by omega) (by omega) (fun _ _ => ?_)
  refine x_i2lR C eL_recall_7 ?_
  refine x_last (i := 0) (P' ++ [arL G oq 1 _]) P'.length C eL_recall_8 (app_get _ _) (by decide) (by omega) (app_set _ _ _) ?_
  refine x_goto (pc' := 15) C eL_recall_9 rfl ?_
  refine x_iconst C eL_recall_15 ?_
  exact x_iret (by first | rfl | exact (narZ (by omega)).1) C F eL_recall_16 () rfl trivial (fun cf c h => h) (by omega) (by omega)
set_option maxRecDepth 100000 in
theorem wn_breakLine {G : Gm} {l : Launch} (hK : KG G) {e oq : Nat} {x1 x2 : Int32} {f : Nat → Int64} {d' mc' ms' : Nat} {w : Int32} {P P' : List SA} (hM : MD G l yX7_breakLine cX7_breakLine 5 (some .int) d' mc' ms' [.ref e, .int x1, .int x2] P (some (.int w)) P') (hr : ∀ cf c, WF (P ++ [arL G oq 1 f]) cf c → ∃ fs, c e = some (.inr (9, fs))) : MXW G l yL_breakLine cL_breakLine 5 (some .int) hL_breakLine (d' + 1) mc' ms' [.ref e, .int x1, .int x2, .ref oq] (P ++ [arL G oq 1 f]) (fun _ : Unit => some (.int (zI 0))) (fun _ => True) (fun _ => P' ++ [arL G oq 1 (fun j => if j = (0 : Int).toNat then w.toInt64 else f j)]) := by
  refine MXW_of (lv := [some (.ref e), some (.int x1), some (.int x2), some (.ref oq), none]) hK (by decide +kernel) rfl (nle rfl) (fun X C F htab => ?_)
  have C : OKc G X l RL "breakLine" cL_breakLine 5 (some .int) (d' + 1) mc' ms' := C
  refine x_aload_n C eL_breakLine_0 rfl ?_
  refine x_iconst C eL_breakLine_1 ?_
  refine x_aload_n C eL_breakLine_2 rfl ?_
  refine x_iload_n C eL_breakLine_3 rfl ?_
  refine x_iload_n C eL_breakLine_4 rfl ?_
  refine x_callV (As := [.int x1, .int x2]) [arL G oq 1 f] C hM v_X7_breakLine vv_X7_breakLine s_RL_101 hr eL_breakLine_5 rfl (fun _ _ h => h) rfl (nle rfl) (by omega) (by omega) (by omega) (fun _ _ => ?_)
  refine x_i2lR C eL_breakLine_8 ?_
  refine x_last (i := 0) (P' ++ [arL G oq 1 _]) P'.length C eL_breakLine_9 (app_get _ _) (by decide) (by omega) (app_set _ _ _) ?_
  refine x_goto (pc' := 21) C eL_breakLine_10 rfl ?_
  refine x_iconst C eL_breakLine_21 ?_
  exact x_iret (by first | rfl | exact (narZ (by omega)).1) C F eL_breakLine_22 () rfl trivial (fun cf c h => h) (by omega) (by omega)
set_option maxRecDepth 100000 in
theorem wn_setPaused {G : Gm} {l : Launch} (hK : KG G) {e oq : Nat} {x1 x2 : Int32} {f : Nat → Int64} {d' mc' ms' : Nat} (p9 : Prop) [Decidable p9] {P P' : List SA} (hM : MD G l yX7_setPaused cX7_setPaused 5 (some .boolean) d' mc' ms' [.ref e, .int x1, .int x2] P (some (.int (zI (bz p9)))) P') (hr : ∀ cf c, WF (P ++ [arL G oq 1 f]) cf c → ∃ fs, c e = some (.inr (9, fs))) : MXW G l yL_setPaused cL_setPaused 5 (some .int) hL_setPaused (d' + 1) mc' ms' [.ref e, .int x1, .int x2, .ref oq] (P ++ [arL G oq 1 f]) (fun _ : Unit => some (.int (zI 0))) (fun _ => True) (fun _ => P' ++ [arL G oq 1 (fun j => if j = (0 : Int).toNat then zL (bz p9) else f j)]) := by
  refine MXW_of (lv := [some (.ref e), some (.int x1), some (.int x2), some (.ref oq), none]) hK (by decide +kernel) rfl (nle rfl) (fun X C F htab => ?_)
  have C : OKc G X l RL "setPaused" cL_setPaused 5 (some .int) (d' + 1) mc' ms' := C
  refine x_aload_n C eL_setPaused_0 rfl ?_
  refine x_iconst C eL_setPaused_1 ?_
  refine x_aload_n C eL_setPaused_2 rfl ?_
  refine x_iload_n C eL_setPaused_3 rfl ?_
  refine x_iload_n C eL_setPaused_4 rfl ?_
  refine x_callV (As := [.int x1, .int x2]) [arL G oq 1 f] C hM v_X7_setPaused vv_X7_setPaused s_RL_104 hr eL_setPaused_5 rfl (fun _ _ h => h) rfl (nle rfl) (by omega) (by omega) (by omega) (fun _ _ => ?_)
  refine x_ifb_eq 15 C eL_setPaused_8 rfl (fun h8 => ?_) (fun h8 => ?_)
  · refine x_lconst (v := 0) C eL_setPaused_15 rfl ?_
    refine x_last (i := 0) (P' ++ [arL G oq 1 _]) P'.length C eL_setPaused_16 (app_get _ _) (by decide) (by omega) (app_set _ _ _) ?_
    refine x_goto (pc' := 24) C eL_setPaused_17 rfl ?_
    refine x_iconst C eL_setPaused_24 ?_
    exact x_iret (by first | rfl | exact (narZ (by omega)).1) C F eL_setPaused_25 () rfl trivial (fun cf c h => by first | (rw [bz_t (by assumption)]; exact h) | (rw [bz_f (by assumption)]; exact h)) (by omega) (by omega)
  · refine x_lconst (v := 1) C eL_setPaused_11 rfl ?_
    refine x_goto (pc' := 16) C eL_setPaused_12 rfl ?_
    refine x_last (i := 0) (P' ++ [arL G oq 1 _]) P'.length C eL_setPaused_16 (app_get _ _) (by decide) (by omega) (app_set _ _ _) ?_
    refine x_goto (pc' := 24) C eL_setPaused_17 rfl ?_
    refine x_iconst C eL_setPaused_24 ?_
    exact x_iret (by first | rfl | exact (narZ (by omega)).1) C F eL_setPaused_25 () rfl trivial (fun cf c h => by first | (rw [bz_t (by assumption)]; exact h) | (rw [bz_f (by assumption)]; exact h)) (by omega) (by omega)
set_option maxRecDepth 100000 in
theorem wn_setEcho {G : Gm} {l : Launch} (hK : KG G) {e oq : Nat} {x1 x2 : Int32} {f : Nat → Int64} {d' mc' ms' : Nat} {w : Int32} {P P' : List SA} (hM : MD G l yX7_setEcho cX7_setEcho 5 (some .int) d' mc' ms' [.ref e, .int x1, .int x2] P (some (.int w)) P') (hr : ∀ cf c, WF (P ++ [arL G oq 1 f]) cf c → ∃ fs, c e = some (.inr (9, fs))) : MXW G l yL_setEcho cL_setEcho 5 (some .int) hL_setEcho (d' + 1) mc' ms' [.ref e, .int x1, .int x2, .ref oq] (P ++ [arL G oq 1 f]) (fun _ : Unit => some (.int (zI 0))) (fun _ => True) (fun _ => P' ++ [arL G oq 1 (fun j => if j = (0 : Int).toNat then w.toInt64 else f j)]) := by
  refine MXW_of (lv := [some (.ref e), some (.int x1), some (.int x2), some (.ref oq), none]) hK (by decide +kernel) rfl (nle rfl) (fun X C F htab => ?_)
  have C : OKc G X l RL "setEcho" cL_setEcho 5 (some .int) (d' + 1) mc' ms' := C
  refine x_aload_n C eL_setEcho_0 rfl ?_
  refine x_iconst C eL_setEcho_1 ?_
  refine x_aload_n C eL_setEcho_2 rfl ?_
  refine x_iload_n C eL_setEcho_3 rfl ?_
  refine x_iload_n C eL_setEcho_4 rfl ?_
  refine x_callV (As := [.int x1, .int x2]) [arL G oq 1 f] C hM v_X7_setEcho vv_X7_setEcho s_RL_108 hr eL_setEcho_5 rfl (fun _ _ h => h) rfl (nle rfl) (by omega) (by omega) (by omega) (fun _ _ => ?_)
  refine x_i2lR C eL_setEcho_8 ?_
  refine x_last (i := 0) (P' ++ [arL G oq 1 _]) P'.length C eL_setEcho_9 (app_get _ _) (by decide) (by omega) (app_set _ _ _) ?_
  refine x_goto (pc' := 21) C eL_setEcho_10 rfl ?_
  refine x_iconst C eL_setEcho_21 ?_
  exact x_iret (by first | rfl | exact (narZ (by omega)).1) C F eL_setEcho_22 () rfl trivial (fun cf c h => h) (by omega) (by omega)
set_option maxRecDepth 100000 in
theorem wn_setMarks {G : Gm} {l : Launch} (hK : KG G) {e oq : Nat} {x1 x2 x3 : Int32} {f : Nat → Int64} {d' mc' ms' : Nat} {w : Int32} {P P' : List SA} (hM : MD G l yX7_setMarks cX7_setMarks 6 (some .int) d' mc' ms' [.ref e, .int x1, .int x2, .int x3] P (some (.int w)) P') (hr : ∀ cf c, WF (P ++ [arL G oq 1 f]) cf c → ∃ fs, c e = some (.inr (9, fs))) : MXW G l yL_setMarks cL_setMarks 6 (some .int) hL_setMarks (d' + 1) mc' ms' [.ref e, .int x1, .int x2, .int x3, .ref oq] (P ++ [arL G oq 1 f]) (fun _ : Unit => some (.int (zI 0))) (fun _ => True) (fun _ => P' ++ [arL G oq 1 (fun j => if j = (0 : Int).toNat then w.toInt64 else f j)]) := by
  refine MXW_of (lv := [some (.ref e), some (.int x1), some (.int x2), some (.int x3), some (.ref oq), none]) hK (by decide +kernel) rfl (nle rfl) (fun X C F htab => ?_)
  have C : OKc G X l RL "setMarks" cL_setMarks 6 (some .int) (d' + 1) mc' ms' := C
  refine x_aload C eL_setMarks_0 rfl ?_
  refine x_iconst C eL_setMarks_2 ?_
  refine x_aload_n C eL_setMarks_3 rfl ?_
  refine x_iload_n C eL_setMarks_4 rfl ?_
  refine x_iload_n C eL_setMarks_5 rfl ?_
  refine x_iload_n C eL_setMarks_6 rfl ?_
  refine x_callV (As := [.int x1, .int x2, .int x3]) [arL G oq 1 f] C hM v_X7_setMarks vv_X7_setMarks s_RL_111 hr eL_setMarks_7 rfl (fun _ _ h => h) rfl (nle rfl) (by omega) (by omega) (by omega) (fun _ _ => ?_)
  refine x_i2lR C eL_setMarks_10 ?_
  refine x_last (i := 0) (P' ++ [arL G oq 1 _]) P'.length C eL_setMarks_11 (app_get _ _) (by decide) (by omega) (app_set _ _ _) ?_
  refine x_goto (pc' := 23) C eL_setMarks_12 rfl ?_
  refine x_iconst C eL_setMarks_23 ?_
  exact x_iret (by first | rfl | exact (narZ (by omega)).1) C F eL_setMarks_24 () rfl trivial (fun cf c h => h) (by omega) (by omega)
set_option maxRecDepth 100000 in
theorem wn_setShare {G : Gm} {l : Launch} (hK : KG G) {e oq : Nat} {x1 x2 : Int32} {f : Nat → Int64} {d' mc' ms' : Nat} {w : Int32} {P P' : List SA} (hM : MD G l yX7_setShare cX7_setShare 5 (some .int) d' mc' ms' [.ref e, .int x1, .int x2] P (some (.int w)) P') (hr : ∀ cf c, WF (P ++ [arL G oq 1 f]) cf c → ∃ fs, c e = some (.inr (9, fs))) : MXW G l yL_setShare cL_setShare 5 (some .int) hL_setShare (d' + 1) mc' ms' [.ref e, .int x1, .int x2, .ref oq] (P ++ [arL G oq 1 f]) (fun _ : Unit => some (.int (zI 0))) (fun _ => True) (fun _ => P' ++ [arL G oq 1 (fun j => if j = (0 : Int).toNat then w.toInt64 else f j)]) := by
  refine MXW_of (lv := [some (.ref e), some (.int x1), some (.int x2), some (.ref oq), none]) hK (by decide +kernel) rfl (nle rfl) (fun X C F htab => ?_)
  have C : OKc G X l RL "setShare" cL_setShare 5 (some .int) (d' + 1) mc' ms' := C
  refine x_aload_n C eL_setShare_0 rfl ?_
  refine x_iconst C eL_setShare_1 ?_
  refine x_aload_n C eL_setShare_2 rfl ?_
  refine x_iload_n C eL_setShare_3 rfl ?_
  refine x_iload_n C eL_setShare_4 rfl ?_
  refine x_callV (As := [.int x1, .int x2]) [arL G oq 1 f] C hM v_X7_setShare vv_X7_setShare s_RL_114 hr eL_setShare_5 rfl (fun _ _ h => h) rfl (nle rfl) (by omega) (by omega) (by omega) (fun _ _ => ?_)
  refine x_i2lR C eL_setShare_8 ?_
  refine x_last (i := 0) (P' ++ [arL G oq 1 _]) P'.length C eL_setShare_9 (app_get _ _) (by decide) (by omega) (app_set _ _ _) ?_
  refine x_goto (pc' := 21) C eL_setShare_10 rfl ?_
  refine x_iconst C eL_setShare_21 ?_
  exact x_iret (by first | rfl | exact (narZ (by omega)).1) C F eL_setShare_22 () rfl trivial (fun cf c h => h) (by omega) (by omega)
set_option maxRecDepth 100000 in
theorem wn_keep {G : Gm} {l : Launch} (hK : KG G) {e oq : Nat} {x1 : Int32} {f : Nat → Int64} {d' mc' ms' : Nat} {w : Int32} {P P' : List SA} (hM : MD G l yX7_keep cX7_keep 3 (some .int) d' mc' ms' [.ref e, .int x1] P (some (.int w)) P') (hr : ∀ cf c, WF (P ++ [arL G oq 1 f]) cf c → ∃ fs, c e = some (.inr (9, fs))) : MXW G l yL_keep cL_keep 4 (some .int) hL_keep (d' + 1) mc' ms' [.ref e, .int x1, .ref oq] (P ++ [arL G oq 1 f]) (fun _ : Unit => some (.int (zI 0))) (fun _ => True) (fun _ => P' ++ [arL G oq 1 (fun j => if j = (0 : Int).toNat then w.toInt64 else f j)]) := by
  refine MXW_of (lv := [some (.ref e), some (.int x1), some (.ref oq), none]) hK (by decide +kernel) rfl (nle rfl) (fun X C F htab => ?_)
  have C : OKc G X l RL "keep" cL_keep 4 (some .int) (d' + 1) mc' ms' := C
  refine x_aload_n C eL_keep_0 rfl ?_
  refine x_iconst C eL_keep_1 ?_
  refine x_aload_n C eL_keep_2 rfl ?_
  refine x_iload_n C eL_keep_3 rfl ?_
  refine x_callV (As := [.int x1]) [arL G oq 1 f] C hM v_X7_keep vv_X7_keep s_RL_117 hr eL_keep_4 rfl (fun _ _ h => h) rfl (nle rfl) (by omega) (by omega) (by omega) (fun _ _ => ?_)
  refine x_i2lR C eL_keep_7 ?_
  refine x_last (i := 0) (P' ++ [arL G oq 1 _]) P'.length C eL_keep_8 (app_get _ _) (by decide) (by omega) (app_set _ _ _) ?_
  refine x_goto (pc' := 15) C eL_keep_9 rfl ?_
  refine x_iconst C eL_keep_15 ?_
  exact x_iret (by first | rfl | exact (narZ (by omega)).1) C F eL_keep_16 () rfl trivial (fun cf c h => h) (by omega) (by omega)
set_option maxRecDepth 100000 in
theorem wn_restore {G : Gm} {l : Launch} (hK : KG G) {e oq : Nat} {x1 : Int32} {f : Nat → Int64} {d' mc' ms' : Nat} {w : Int32} {P P' : List SA} (hM : MD G l yX7_restore cX7_restore 3 (some .int) d' mc' ms' [.ref e, .int x1] P (some (.int w)) P') (hr : ∀ cf c, WF (P ++ [arL G oq 1 f]) cf c → ∃ fs, c e = some (.inr (9, fs))) : MXW G l yL_restore cL_restore 4 (some .int) hL_restore (d' + 1) mc' ms' [.ref e, .int x1, .ref oq] (P ++ [arL G oq 1 f]) (fun _ : Unit => some (.int (zI 0))) (fun _ => True) (fun _ => P' ++ [arL G oq 1 (fun j => if j = (0 : Int).toNat then w.toInt64 else f j)]) := by
  refine MXW_of (lv := [some (.ref e), some (.int x1), some (.ref oq), none]) hK (by decide +kernel) rfl (nle rfl) (fun X C F htab => ?_)
  have C : OKc G X l RL "restore" cL_restore 4 (some .int) (d' + 1) mc' ms' := C
  refine x_aload_n C eL_restore_0 rfl ?_
  refine x_iconst C eL_restore_1 ?_
  refine x_aload_n C eL_restore_2 rfl ?_
  refine x_iload_n C eL_restore_3 rfl ?_
  refine x_callV (As := [.int x1]) [arL G oq 1 f] C hM v_X7_restore vv_X7_restore s_RL_120 hr eL_restore_4 rfl (fun _ _ h => h) rfl (nle rfl) (by omega) (by omega) (by omega) (fun _ _ => ?_)
  refine x_i2lR C eL_restore_7 ?_
  refine x_last (i := 0) (P' ++ [arL G oq 1 _]) P'.length C eL_restore_8 (app_get _ _) (by decide) (by omega) (app_set _ _ _) ?_
  refine x_goto (pc' := 18) C eL_restore_9 rfl ?_
  refine x_iconst C eL_restore_18 ?_
  exact x_iret (by first | rfl | exact (narZ (by omega)).1) C F eL_restore_19 () rfl trivial (fun cf c h => h) (by omega) (by omega)
set_option maxRecDepth 100000 in
theorem wn_undo {G : Gm} {l : Launch} (hK : KG G) {e oq : Nat} {f : Nat → Int64} {d' mc' ms' : Nat} {w : Int32} {P P' : List SA} (hM : MD G l yX7_undo cX7_undo 2 (some .int) d' mc' ms' [.ref e] P (some (.int w)) P') (hr : ∀ cf c, WF (P ++ [arL G oq 1 f]) cf c → ∃ fs, c e = some (.inr (9, fs))) : MXW G l yL_undo cL_undo 3 (some .int) hL_undo (d' + 1) mc' ms' [.ref e, .ref oq] (P ++ [arL G oq 1 f]) (fun _ : Unit => some (.int (zI 0))) (fun _ => True) (fun _ => P' ++ [arL G oq 1 (fun j => if j = (0 : Int).toNat then w.toInt64 else f j)]) := by
  refine MXW_of (lv := [some (.ref e), some (.ref oq), none]) hK (by decide +kernel) rfl (nle rfl) (fun X C F htab => ?_)
  have C : OKc G X l RL "undo" cL_undo 3 (some .int) (d' + 1) mc' ms' := C
  refine x_aload_n C eL_undo_0 rfl ?_
  refine x_iconst C eL_undo_1 ?_
  refine x_aload_n C eL_undo_2 rfl ?_
  refine x_callV (As := []) [arL G oq 1 f] C hM v_X7_undo vv_X7_undo s_RL_123 hr eL_undo_3 rfl (fun _ _ h => h) rfl (nle rfl) (by omega) (by omega) (by omega) (fun _ _ => ?_)
  refine x_i2lR C eL_undo_6 ?_
  refine x_last (i := 0) (P' ++ [arL G oq 1 _]) P'.length C eL_undo_7 (app_get _ _) (by decide) (by omega) (app_set _ _ _) ?_
  refine x_goto (pc' := 14) C eL_undo_8 rfl ?_
  refine x_iconst C eL_undo_14 ?_
  exact x_iret (by first | rfl | exact (narZ (by omega)).1) C F eL_undo_15 () rfl trivial (fun cf c h => h) (by omega) (by omega)
set_option maxRecDepth 100000 in
theorem wn_writeCounts {G : Gm} {l : Launch} (hK : KG G) {e oq : Nat} {x1 : Int32} {f : Nat → Int64} {d' mc' ms' : Nat} {w : Int32} {P P' : List SA} (hM : MD G l yX7_writeCounts cX7_writeCounts 3 (some .int) d' mc' ms' [.ref e, .int x1] P (some (.int w)) P') (hr : ∀ cf c, WF (P ++ [arL G oq 1 f]) cf c → ∃ fs, c e = some (.inr (9, fs))) : MXW G l yL_writeCounts cL_writeCounts 4 (some .int) hL_writeCounts (d' + 1) mc' ms' [.ref e, .int x1, .ref oq] (P ++ [arL G oq 1 f]) (fun _ : Unit => some (.int (zI 0))) (fun _ => True) (fun _ => P' ++ [arL G oq 1 (fun j => if j = (0 : Int).toNat then w.toInt64 else f j)]) := by
  refine MXW_of (lv := [some (.ref e), some (.int x1), some (.ref oq), none]) hK (by decide +kernel) rfl (nle rfl) (fun X C F htab => ?_)
  have C : OKc G X l RL "writeCounts" cL_writeCounts 4 (some .int) (d' + 1) mc' ms' := C
  refine x_aload_n C eL_writeCounts_0 rfl ?_
  refine x_iconst C eL_writeCounts_1 ?_
  refine x_aload_n C eL_writeCounts_2 rfl ?_
  refine x_iload_n C eL_writeCounts_3 rfl ?_
  refine x_callV (As := [.int x1]) [arL G oq 1 f] C hM v_X7_writeCounts vv_X7_writeCounts s_RL_127 hr eL_writeCounts_4 rfl (fun _ _ h => h) rfl (nle rfl) (by omega) (by omega) (by omega) (fun _ _ => ?_)
  refine x_i2lR C eL_writeCounts_7 ?_
  refine x_last (i := 0) (P' ++ [arL G oq 1 _]) P'.length C eL_writeCounts_8 (app_get _ _) (by decide) (by omega) (app_set _ _ _) ?_
  refine x_goto (pc' := 15) C eL_writeCounts_9 rfl ?_
  refine x_iconst C eL_writeCounts_15 ?_
  exact x_iret (by first | rfl | exact (narZ (by omega)).1) C F eL_writeCounts_16 () rfl trivial (fun cf c h => h) (by omega) (by omega)
set_option maxRecDepth 100000 in
theorem wn_outputByte {G : Gm} {l : Launch} (hK : KG G) {e oq : Nat} {x1 : Int32} {f : Nat → Int64} {d' mc' ms' : Nat} {w : Int32} {P P' : List SA} (hM : MD G l yX7_outputByte cX7_outputByte 2 (some .int) d' mc' ms' [.ref e, .int x1] P (some (.int w)) P') (hr : ∀ cf c, WF (P ++ [arL G oq 1 f]) cf c → ∃ fs, c e = some (.inr (9, fs))) : MXW G l yL_outputByte cL_outputByte 4 (some .int) hL_outputByte (d' + 1) mc' ms' [.ref e, .int x1, .ref oq] (P ++ [arL G oq 1 f]) (fun _ : Unit => some (.int (zI 0))) (fun _ => True) (fun _ => P' ++ [arL G oq 1 (fun j => if j = (0 : Int).toNat then w.toInt64 else f j)]) := by
  refine MXW_of (lv := [some (.ref e), some (.int x1), some (.ref oq), none]) hK (by decide +kernel) rfl (nle rfl) (fun X C F htab => ?_)
  have C : OKc G X l RL "outputByte" cL_outputByte 4 (some .int) (d' + 1) mc' ms' := C
  refine x_aload_n C eL_outputByte_0 rfl ?_
  refine x_iconst C eL_outputByte_1 ?_
  refine x_aload_n C eL_outputByte_2 rfl ?_
  refine x_iload_n C eL_outputByte_3 rfl ?_
  refine x_callV (As := [.int x1]) [arL G oq 1 f] C hM v_X7_outputByte vv_X7_outputByte s_RL_130 hr eL_outputByte_4 rfl (fun _ _ h => h) rfl (nle rfl) (by omega) (by omega) (by omega) (fun _ _ => ?_)
  refine x_i2lR C eL_outputByte_7 ?_
  refine x_last (i := 0) (P' ++ [arL G oq 1 _]) P'.length C eL_outputByte_8 (app_get _ _) (by decide) (by omega) (app_set _ _ _) ?_
  refine x_goto (pc' := 15) C eL_outputByte_9 rfl ?_
  refine x_iconst C eL_outputByte_15 ?_
  exact x_iret (by first | rfl | exact (narZ (by omega)).1) C F eL_outputByte_16 () rfl trivial (fun cf c h => h) (by omega) (by omega)
set_option maxRecDepth 100000 in
theorem wx_append_1 {G : Gm} {l : Launch} (hK : KG G) {e oq : Nat} {x1 x2 x3 x4 x5 : Int32} {f : Nat → Int64} {d' mc' ms' : Nat} {P P' : List SA} (hM : MT G l yX7_append cX7_append 6 (some .int) d' mc' ms' [.ref e, .int x1, .int x2, .int x3, .int x4, .int x5] P "java/lang/IllegalStateException" P') (hC : va_Nw (Cond.castable "java/lang/IllegalStateException" "java/lang/IllegalStateException") G.1) (hr : ∀ cf c, WF (P ++ [arL G oq 1 f]) cf c → ∃ fs, c e = some (.inr (9, fs))) : MXW G l yL_append cL_append 8 (some .int) hL_append (d' + 1) mc' ms' [.ref e, .int x1, .int x2, .int x3, .int x4, .int x5, .ref oq] (P ++ [arL G oq 1 f]) (fun _ : Unit => some (.int (zI 1))) (fun _ => True) (fun _ => P' ++ [arL G oq 1 f]) := by
  refine MXW_of (lv := [some (.ref e), some (.int x1), some (.int x2), some (.int x3), some (.int x4), some (.int x5), some (.ref oq), none]) hK (by decide +kernel) rfl (nle rfl) (fun X C F htab => ?_)
  have C : OKc G X l RL "append" cL_append 8 (some .int) (d' + 1) mc' ms' := C
  refine x_aload C eL_append_0 rfl ?_
  refine x_iconst C eL_append_2 ?_
  refine x_aload_n C eL_append_3 rfl ?_
  refine x_iload_n C eL_append_4 rfl ?_
  refine x_iload_n C eL_append_5 rfl ?_
  refine x_iload_n C eL_append_6 rfl ?_
  refine x_iload C eL_append_7 rfl ?_
  refine x_iload C eL_append_9 rfl ?_
  refine x_callVC (As := [.int x1, .int x2, .int x3, .int x4, .int x5]) [arL G oq 1 f] hL_append 0 C hM v_X7_append vv_X7_append s_RL_7 hr eL_append_11 rfl (fun _ _ h => h) rfl (nle rfl) (by omega) (by omega) (by omega) htab rfl ⟨[], _, _, rfl, rfl, rfl, by decide, by decide, fun _ h => nomatch h⟩ cl_RL_13 hC (fun _ => ?_)
  refine x_astore [_, _, _, _, _, _, _, _] C eL_append_19 rfl rfl (nlt rfl) ?_
  refine x_iconst C eL_append_21 ?_
  exact x_iret (by first | rfl | exact (narZ (by omega)).1) C F eL_append_22 () rfl trivial (fun cf c h => h) (by omega) (by omega)
set_option maxRecDepth 100000 in
theorem wx_truncate_1 {G : Gm} {l : Launch} (hK : KG G) {e oq : Nat} {x1 : Int32} {f : Nat → Int64} {d' mc' ms' : Nat} {P P' : List SA} (hM : MT G l yX7_truncate cX7_truncate 2 none d' mc' ms' [.ref e, .int x1] P "java/lang/IllegalArgumentException" P') (hC : va_Nw (Cond.castable "java/lang/IllegalArgumentException" "java/lang/IllegalArgumentException") G.1) (hr : ∀ cf c, WF (P) cf c → ∃ fs, c e = some (.inr (9, fs))) : MXW G l yL_truncate cL_truncate 3 (some .int) hL_truncate (d' + 1) mc' ms' [.ref e, .int x1] (P) (fun _ : Unit => some (.int (zI 1))) (fun _ => True) (fun _ => P') := by
  refine MXW_of (lv := [some (.ref e), some (.int x1), none]) hK (by decide +kernel) rfl (nle rfl) (fun X C F htab => ?_)
  have C : OKc G X l RL "truncate" cL_truncate 3 (some .int) (d' + 1) mc' ms' := C
  refine x_aload_n C eL_truncate_0 rfl ?_
  refine x_iload_n C eL_truncate_1 rfl ?_
  refine x_callVC (As := [.int x1]) [] hL_truncate 0 C hM v_X7_truncate vv_X7_truncate s_RL_15 hr eL_truncate_2 rfl (fun _ _ h => by rw [List.append_nil]; exact h) rfl (nle rfl) (by omega) (by omega) (by omega) htab rfl ⟨[], _, _, rfl, rfl, rfl, by decide, by decide, fun _ h => nomatch h⟩ cl_RL_19 hC (fun _ => ?_)
  refine x_astore_n [_, _, _] C eL_truncate_8 rfl rfl (nlt rfl) ?_
  refine x_iconst C eL_truncate_9 ?_
  exact x_iret (by first | rfl | exact (narZ (by omega)).1) C F eL_truncate_10 () rfl trivial (fun cf c h => by rw [List.append_nil] at h; exact h) (by omega) (by omega)
set_option maxRecDepth 100000 in
theorem wx_property_1 {G : Gm} {l : Launch} (hK : KG G) {e oq : Nat} {x1 : Int32} {f : Nat → Int64} {d' mc' ms' : Nat} {P P' : List SA} (hM : MT G l yX7_property cX7_property 2 (some .int) d' mc' ms' [.ref e, .int x1] P "java/lang/IllegalArgumentException" P') (hC : va_Nw (Cond.castable "java/lang/IllegalArgumentException" "java/lang/IllegalArgumentException") G.1) (hr : ∀ cf c, WF (P ++ [arL G oq 1 f]) cf c → ∃ fs, c e = some (.inr (9, fs))) : MXW G l yL_property cL_property 4 (some .int) hL_property (d' + 1) mc' ms' [.ref e, .int x1, .ref oq] (P ++ [arL G oq 1 f]) (fun _ : Unit => some (.int (zI 1))) (fun _ => True) (fun _ => P' ++ [arL G oq 1 f]) := by
  refine MXW_of (lv := [some (.ref e), some (.int x1), some (.ref oq), none]) hK (by decide +kernel) rfl (nle rfl) (fun X C F htab => ?_)
  have C : OKc G X l RL "property" cL_property 4 (some .int) (d' + 1) mc' ms' := C
  refine x_aload_n C eL_property_0 rfl ?_
  refine x_iconst C eL_property_1 ?_
  refine x_aload_n C eL_property_2 rfl ?_
  refine x_iload_n C eL_property_3 rfl ?_
  refine x_callVC (As := [.int x1]) [arL G oq 1 f] hL_property 0 C hM v_X7_property vv_X7_property s_RL_21 hr eL_property_4 rfl (fun _ _ h => h) rfl (nle rfl) (by omega) (by omega) (by omega) htab rfl ⟨[], _, _, rfl, rfl, rfl, by decide, by decide, fun _ h => nomatch h⟩ cl_RL_19 hC (fun _ => ?_)
  refine x_astore_n [_, _, _, _] C eL_property_12 rfl rfl (nlt rfl) ?_
  refine x_iconst C eL_property_13 ?_
  exact x_iret (by first | rfl | exact (narZ (by omega)).1) C F eL_property_14 () rfl trivial (fun cf c h => h) (by omega) (by omega)
set_option maxRecDepth 100000 in
theorem wx_line_1 {G : Gm} {l : Launch} (hK : KG G) {e oq : Nat} {x1 x2 : Int32} {f : Nat → Int64} {d' mc' ms' : Nat} {P P' : List SA} (hM : MT G l yX7_line cX7_line 4 (some .int) d' mc' ms' [.ref e, .int x1, .int x2] P "java/lang/IndexOutOfBoundsException" P') (hC : va_Nw (Cond.castable "java/lang/IndexOutOfBoundsException" "java/lang/IndexOutOfBoundsException") G.1) (hr : ∀ cf c, WF (P ++ [arL G oq 1 f]) cf c → ∃ fs, c e = some (.inr (9, fs))) : MXW G l yL_line cL_line 5 (some .int) hL_line (d' + 1) mc' ms' [.ref e, .int x1, .int x2, .ref oq] (P ++ [arL G oq 1 f]) (fun _ : Unit => some (.int (zI 1))) (fun _ => True) (fun _ => P' ++ [arL G oq 1 f]) := by
  refine MXW_of (lv := [some (.ref e), some (.int x1), some (.int x2), some (.ref oq), none]) hK (by decide +kernel) rfl (nle rfl) (fun X C F htab => ?_)
  have C : OKc G X l RL "line" cL_line 5 (some .int) (d' + 1) mc' ms' := C
  refine x_aload_n C eL_line_0 rfl ?_
  refine x_iconst C eL_line_1 ?_
  refine x_aload_n C eL_line_2 rfl ?_
  refine x_iload_n C eL_line_3 rfl ?_
  refine x_iload_n C eL_line_4 rfl ?_
  refine x_callVC (As := [.int x1, .int x2]) [arL G oq 1 f] hL_line 0 C hM v_X7_line vv_X7_line s_RL_25 hr eL_line_5 rfl (fun _ _ h => h) rfl (nle rfl) (by omega) (by omega) (by omega) htab rfl ⟨[], _, _, rfl, rfl, rfl, by decide, by decide, fun _ h => nomatch h⟩ cl_RL_29 hC (fun _ => ?_)
  refine x_astore [_, _, _, _, _] C eL_line_13 rfl rfl (nlt rfl) ?_
  refine x_iconst C eL_line_15 ?_
  exact x_iret (by first | rfl | exact (narZ (by omega)).1) C F eL_line_16 () rfl trivial (fun cf c h => h) (by omega) (by omega)
set_option maxRecDepth 100000 in
theorem wx_line_2 {G : Gm} {l : Launch} (hK : KG G) {e oq : Nat} {x1 x2 : Int32} {f : Nat → Int64} {d' mc' ms' : Nat} {P P' : List SA} (hM : MT G l yX7_line cX7_line 4 (some .int) d' mc' ms' [.ref e, .int x1, .int x2] P "java/lang/IllegalArgumentException" P') (hC : va_Nw (Cond.castable "java/lang/IllegalArgumentException" "java/lang/IllegalArgumentException") G.1) (hN : va_Nc "java/lang/IllegalArgumentException" "java/lang/IndexOutOfBoundsException" G.1) (hr : ∀ cf c, WF (P ++ [arL G oq 1 f]) cf c → ∃ fs, c e = some (.inr (9, fs))) : MXW G l yL_line cL_line 5 (some .int) hL_line (d' + 1) mc' ms' [.ref e, .int x1, .int x2, .ref oq] (P ++ [arL G oq 1 f]) (fun _ : Unit => some (.int (zI 2))) (fun _ => True) (fun _ => P' ++ [arL G oq 1 f]) := by
  refine MXW_of (lv := [some (.ref e), some (.int x1), some (.int x2), some (.ref oq), none]) hK (by decide +kernel) rfl (nle rfl) (fun X C F htab => ?_)
  have C : OKc G X l RL "line" cL_line 5 (some .int) (d' + 1) mc' ms' := C
  refine x_aload_n C eL_line_0 rfl ?_
  refine x_iconst C eL_line_1 ?_
  refine x_aload_n C eL_line_2 rfl ?_
  refine x_iload_n C eL_line_3 rfl ?_
  refine x_iload_n C eL_line_4 rfl ?_
  refine x_callVC (As := [.int x1, .int x2]) [arL G oq 1 f] hL_line 1 C hM v_X7_line vv_X7_line s_RL_25 hr eL_line_5 rfl (fun _ _ h => h) rfl (nle rfl) (by omega) (by omega) (by omega) htab rfl ⟨[⟨0, 10, 13, 29⟩], _, _, rfl, rfl, rfl, by decide, by decide, fun z hz => by
      simp only [List.mem_cons, List.not_mem_nil, or_false] at hz
      subst hz
      exact ⟨by decide, "java/lang/IndexOutOfBoundsException", cl_RL_29, hN⟩⟩ cl_RL_19 hC (fun _ => ?_)
  refine x_astore [_, _, _, _, _] C eL_line_17 rfl rfl (nlt rfl) ?_
  refine x_iconst C eL_line_19 ?_
  exact x_iret (by first | rfl | exact (narZ (by omega)).1) C F eL_line_20 () rfl trivial (fun cf c h => h) (by omega) (by omega)
set_option maxRecDepth 100000 in
theorem wx_count_1 {G : Gm} {l : Launch} (hK : KG G) {e oq : Nat} {x1 x2 : Int32} {f : Nat → Int64} {d' mc' ms' : Nat} {P P' : List SA} (hM : MT G l yX7_count cX7_count 3 (some .int) d' mc' ms' [.ref e, .int x1, .int x2] P "java/lang/IndexOutOfBoundsException" P') (hC : va_Nw (Cond.castable "java/lang/IndexOutOfBoundsException" "java/lang/IndexOutOfBoundsException") G.1) (hr : ∀ cf c, WF (P ++ [arL G oq 1 f]) cf c → ∃ fs, c e = some (.inr (9, fs))) : MXW G l yL_count cL_count 5 (some .int) hL_count (d' + 1) mc' ms' [.ref e, .int x1, .int x2, .ref oq] (P ++ [arL G oq 1 f]) (fun _ : Unit => some (.int (zI 1))) (fun _ => True) (fun _ => P' ++ [arL G oq 1 f]) := by
  refine MXW_of (lv := [some (.ref e), some (.int x1), some (.int x2), some (.ref oq), none]) hK (by decide +kernel) rfl (nle rfl) (fun X C F htab => ?_)
  have C : OKc G X l RL "count" cL_count 5 (some .int) (d' + 1) mc' ms' := C
  refine x_aload_n C eL_count_0 rfl ?_
  refine x_iconst C eL_count_1 ?_
  refine x_aload_n C eL_count_2 rfl ?_
  refine x_iload_n C eL_count_3 rfl ?_
  refine x_iload_n C eL_count_4 rfl ?_
  refine x_callVC (As := [.int x1, .int x2]) [arL G oq 1 f] hL_count 0 C hM v_X7_count vv_X7_count s_RL_31 hr eL_count_5 rfl (fun _ _ h => h) rfl (nle rfl) (by omega) (by omega) (by omega) htab rfl ⟨[], _, _, rfl, rfl, rfl, by decide, by decide, fun _ h => nomatch h⟩ cl_RL_29 hC (fun _ => ?_)
  refine x_astore [_, _, _, _, _] C eL_count_13 rfl rfl (nlt rfl) ?_
  refine x_iconst C eL_count_15 ?_
  exact x_iret (by first | rfl | exact (narZ (by omega)).1) C F eL_count_16 () rfl trivial (fun cf c h => h) (by omega) (by omega)
set_option maxRecDepth 100000 in
theorem wx_count_2 {G : Gm} {l : Launch} (hK : KG G) {e oq : Nat} {x1 x2 : Int32} {f : Nat → Int64} {d' mc' ms' : Nat} {P P' : List SA} (hM : MT G l yX7_count cX7_count 3 (some .int) d' mc' ms' [.ref e, .int x1, .int x2] P "java/lang/IllegalArgumentException" P') (hC : va_Nw (Cond.castable "java/lang/IllegalArgumentException" "java/lang/IllegalArgumentException") G.1) (hN : va_Nc "java/lang/IllegalArgumentException" "java/lang/IndexOutOfBoundsException" G.1) (hr : ∀ cf c, WF (P ++ [arL G oq 1 f]) cf c → ∃ fs, c e = some (.inr (9, fs))) : MXW G l yL_count cL_count 5 (some .int) hL_count (d' + 1) mc' ms' [.ref e, .int x1, .int x2, .ref oq] (P ++ [arL G oq 1 f]) (fun _ : Unit => some (.int (zI 2))) (fun _ => True) (fun _ => P' ++ [arL G oq 1 f]) := by
  refine MXW_of (lv := [some (.ref e), some (.int x1), some (.int x2), some (.ref oq), none]) hK (by decide +kernel) rfl (nle rfl) (fun X C F htab => ?_)
  have C : OKc G X l RL "count" cL_count 5 (some .int) (d' + 1) mc' ms' := C
  refine x_aload_n C eL_count_0 rfl ?_
  refine x_iconst C eL_count_1 ?_
  refine x_aload_n C eL_count_2 rfl ?_
  refine x_iload_n C eL_count_3 rfl ?_
  refine x_iload_n C eL_count_4 rfl ?_
  refine x_callVC (As := [.int x1, .int x2]) [arL G oq 1 f] hL_count 1 C hM v_X7_count vv_X7_count s_RL_31 hr eL_count_5 rfl (fun _ _ h => h) rfl (nle rfl) (by omega) (by omega) (by omega) htab rfl ⟨[⟨0, 10, 13, 29⟩], _, _, rfl, rfl, rfl, by decide, by decide, fun z hz => by
      simp only [List.mem_cons, List.not_mem_nil, or_false] at hz
      subst hz
      exact ⟨by decide, "java/lang/IndexOutOfBoundsException", cl_RL_29, hN⟩⟩ cl_RL_19 hC (fun _ => ?_)
  refine x_astore [_, _, _, _, _] C eL_count_17 rfl rfl (nlt rfl) ?_
  refine x_iconst C eL_count_19 ?_
  exact x_iret (by first | rfl | exact (narZ (by omega)).1) C F eL_count_20 () rfl trivial (fun cf c h => h) (by omega) (by omega)
set_option maxRecDepth 100000 in
theorem wx_queued_1 {G : Gm} {l : Launch} (hK : KG G) {e oq : Nat} {x1 x2 x3 : Int32} {f : Nat → Int64} {d' mc' ms' : Nat} {P P' : List SA} (hM : MT G l yX7_queued cX7_queued 6 (some .int) d' mc' ms' [.ref e, .int x1, .int x2, .int x3] P "java/lang/IndexOutOfBoundsException" P') (hC : va_Nw (Cond.castable "java/lang/IndexOutOfBoundsException" "java/lang/IndexOutOfBoundsException") G.1) (hr : ∀ cf c, WF (P ++ [arL G oq 1 f]) cf c → ∃ fs, c e = some (.inr (9, fs))) : MXW G l yL_queued cL_queued 6 (some .int) hL_queued (d' + 1) mc' ms' [.ref e, .int x1, .int x2, .int x3, .ref oq] (P ++ [arL G oq 1 f]) (fun _ : Unit => some (.int (zI 1))) (fun _ => True) (fun _ => P' ++ [arL G oq 1 f]) := by
  refine MXW_of (lv := [some (.ref e), some (.int x1), some (.int x2), some (.int x3), some (.ref oq), none]) hK (by decide +kernel) rfl (nle rfl) (fun X C F htab => ?_)
  have C : OKc G X l RL "queued" cL_queued 6 (some .int) (d' + 1) mc' ms' := C
  refine x_aload C eL_queued_0 rfl ?_
  refine x_iconst C eL_queued_2 ?_
  refine x_aload_n C eL_queued_3 rfl ?_
  refine x_iload_n C eL_queued_4 rfl ?_
  refine x_iload_n C eL_queued_5 rfl ?_
  refine x_iload_n C eL_queued_6 rfl ?_
  refine x_callVC (As := [.int x1, .int x2, .int x3]) [arL G oq 1 f] hL_queued 0 C hM v_X7_queued vv_X7_queued s_RL_34 hr eL_queued_7 rfl (fun _ _ h => h) rfl (nle rfl) (by omega) (by omega) (by omega) htab rfl ⟨[], _, _, rfl, rfl, rfl, by decide, by decide, fun _ h => nomatch h⟩ cl_RL_29 hC (fun _ => ?_)
  refine x_astore [_, _, _, _, _, _] C eL_queued_15 rfl rfl (nlt rfl) ?_
  refine x_iconst C eL_queued_17 ?_
  exact x_iret (by first | rfl | exact (narZ (by omega)).1) C F eL_queued_18 () rfl trivial (fun cf c h => h) (by omega) (by omega)
set_option maxRecDepth 100000 in
theorem wx_delivered_1 {G : Gm} {l : Launch} (hK : KG G) {e oq : Nat} {x1 : Int32} {f : Nat → Int64} {d' mc' ms' : Nat} {P P' : List SA} (hM : MT G l yX7_delivered cX7_delivered 2 (some .int) d' mc' ms' [.ref e, .int x1] P "java/lang/IndexOutOfBoundsException" P') (hC : va_Nw (Cond.castable "java/lang/IndexOutOfBoundsException" "java/lang/IndexOutOfBoundsException") G.1) (hr : ∀ cf c, WF (P ++ [arL G oq 1 f]) cf c → ∃ fs, c e = some (.inr (9, fs))) : MXW G l yL_delivered cL_delivered 4 (some .int) hL_delivered (d' + 1) mc' ms' [.ref e, .int x1, .ref oq] (P ++ [arL G oq 1 f]) (fun _ : Unit => some (.int (zI 1))) (fun _ => True) (fun _ => P' ++ [arL G oq 1 f]) := by
  refine MXW_of (lv := [some (.ref e), some (.int x1), some (.ref oq), none]) hK (by decide +kernel) rfl (nle rfl) (fun X C F htab => ?_)
  have C : OKc G X l RL "delivered" cL_delivered 4 (some .int) (d' + 1) mc' ms' := C
  refine x_aload_n C eL_delivered_0 rfl ?_
  refine x_iconst C eL_delivered_1 ?_
  refine x_aload_n C eL_delivered_2 rfl ?_
  refine x_iload_n C eL_delivered_3 rfl ?_
  refine x_callVC (As := [.int x1]) [arL G oq 1 f] hL_delivered 0 C hM v_X7_delivered vv_X7_delivered s_RL_38 hr eL_delivered_4 rfl (fun _ _ h => h) rfl (nle rfl) (by omega) (by omega) (by omega) htab rfl ⟨[], _, _, rfl, rfl, rfl, by decide, by decide, fun _ h => nomatch h⟩ cl_RL_29 hC (fun _ => ?_)
  refine x_astore_n [_, _, _, _] C eL_delivered_12 rfl rfl (nlt rfl) ?_
  refine x_iconst C eL_delivered_13 ?_
  exact x_iret (by first | rfl | exact (narZ (by omega)).1) C F eL_delivered_14 () rfl trivial (fun cf c h => h) (by omega) (by omega)
set_option maxRecDepth 100000 in
theorem wx_logged_1 {G : Gm} {l : Launch} (hK : KG G) {e oq : Nat} {x1 x2 : Int32} {f : Nat → Int64} {d' mc' ms' : Nat} {P P' : List SA} (hM : MT G l yX7_logged cX7_logged 3 (some .int) d' mc' ms' [.ref e, .int x1, .int x2] P "java/lang/IndexOutOfBoundsException" P') (hC : va_Nw (Cond.castable "java/lang/IndexOutOfBoundsException" "java/lang/IndexOutOfBoundsException") G.1) (hr : ∀ cf c, WF (P ++ [arL G oq 1 f]) cf c → ∃ fs, c e = some (.inr (9, fs))) : MXW G l yL_logged cL_logged 5 (some .int) hL_logged (d' + 1) mc' ms' [.ref e, .int x1, .int x2, .ref oq] (P ++ [arL G oq 1 f]) (fun _ : Unit => some (.int (zI 1))) (fun _ => True) (fun _ => P' ++ [arL G oq 1 f]) := by
  refine MXW_of (lv := [some (.ref e), some (.int x1), some (.int x2), some (.ref oq), none]) hK (by decide +kernel) rfl (nle rfl) (fun X C F htab => ?_)
  have C : OKc G X l RL "logged" cL_logged 5 (some .int) (d' + 1) mc' ms' := C
  refine x_aload_n C eL_logged_0 rfl ?_
  refine x_iconst C eL_logged_1 ?_
  refine x_aload_n C eL_logged_2 rfl ?_
  refine x_iload_n C eL_logged_3 rfl ?_
  refine x_iload_n C eL_logged_4 rfl ?_
  refine x_callVC (As := [.int x1, .int x2]) [arL G oq 1 f] hL_logged 0 C hM v_X7_logged vv_X7_logged s_RL_41 hr eL_logged_5 rfl (fun _ _ h => h) rfl (nle rfl) (by omega) (by omega) (by omega) htab rfl ⟨[], _, _, rfl, rfl, rfl, by decide, by decide, fun _ h => nomatch h⟩ cl_RL_29 hC (fun _ => ?_)
  refine x_astore [_, _, _, _, _] C eL_logged_13 rfl rfl (nlt rfl) ?_
  refine x_iconst C eL_logged_15 ?_
  exact x_iret (by first | rfl | exact (narZ (by omega)).1) C F eL_logged_16 () rfl trivial (fun cf c h => h) (by omega) (by omega)
set_option maxRecDepth 100000 in
theorem wx_logged_2 {G : Gm} {l : Launch} (hK : KG G) {e oq : Nat} {x1 x2 : Int32} {f : Nat → Int64} {d' mc' ms' : Nat} {P P' : List SA} (hM : MT G l yX7_logged cX7_logged 3 (some .int) d' mc' ms' [.ref e, .int x1, .int x2] P "java/lang/IllegalArgumentException" P') (hC : va_Nw (Cond.castable "java/lang/IllegalArgumentException" "java/lang/IllegalArgumentException") G.1) (hN : va_Nc "java/lang/IllegalArgumentException" "java/lang/IndexOutOfBoundsException" G.1) (hr : ∀ cf c, WF (P ++ [arL G oq 1 f]) cf c → ∃ fs, c e = some (.inr (9, fs))) : MXW G l yL_logged cL_logged 5 (some .int) hL_logged (d' + 1) mc' ms' [.ref e, .int x1, .int x2, .ref oq] (P ++ [arL G oq 1 f]) (fun _ : Unit => some (.int (zI 2))) (fun _ => True) (fun _ => P' ++ [arL G oq 1 f]) := by
  refine MXW_of (lv := [some (.ref e), some (.int x1), some (.int x2), some (.ref oq), none]) hK (by decide +kernel) rfl (nle rfl) (fun X C F htab => ?_)
  have C : OKc G X l RL "logged" cL_logged 5 (some .int) (d' + 1) mc' ms' := C
  refine x_aload_n C eL_logged_0 rfl ?_
  refine x_iconst C eL_logged_1 ?_
  refine x_aload_n C eL_logged_2 rfl ?_
  refine x_iload_n C eL_logged_3 rfl ?_
  refine x_iload_n C eL_logged_4 rfl ?_
  refine x_callVC (As := [.int x1, .int x2]) [arL G oq 1 f] hL_logged 1 C hM v_X7_logged vv_X7_logged s_RL_41 hr eL_logged_5 rfl (fun _ _ h => h) rfl (nle rfl) (by omega) (by omega) (by omega) htab rfl ⟨[⟨0, 10, 13, 29⟩], _, _, rfl, rfl, rfl, by decide, by decide, fun z hz => by
      simp only [List.mem_cons, List.not_mem_nil, or_false] at hz
      subst hz
      exact ⟨by decide, "java/lang/IndexOutOfBoundsException", cl_RL_29, hN⟩⟩ cl_RL_19 hC (fun _ => ?_)
  refine x_astore [_, _, _, _, _] C eL_logged_17 rfl rfl (nlt rfl) ?_
  refine x_iconst C eL_logged_19 ?_
  exact x_iret (by first | rfl | exact (narZ (by omega)).1) C F eL_logged_20 () rfl trivial (fun cf c h => h) (by omega) (by omega)
set_option maxRecDepth 100000 in
theorem wx_sendsIn_1 {G : Gm} {l : Launch} (hK : KG G) {e oq : Nat} {x1 : Int32} {f : Nat → Int64} {d' mc' ms' : Nat} {P P' : List SA} (hM : MT G l yX7_sendsIn cX7_sendsIn 3 (some .int) d' mc' ms' [.ref e, .int x1] P "java/lang/IndexOutOfBoundsException" P') (hC : va_Nw (Cond.castable "java/lang/IndexOutOfBoundsException" "java/lang/IndexOutOfBoundsException") G.1) (hr : ∀ cf c, WF (P ++ [arL G oq 1 f]) cf c → ∃ fs, c e = some (.inr (9, fs))) : MXW G l yL_sendsIn cL_sendsIn 4 (some .int) hL_sendsIn (d' + 1) mc' ms' [.ref e, .int x1, .ref oq] (P ++ [arL G oq 1 f]) (fun _ : Unit => some (.int (zI 1))) (fun _ => True) (fun _ => P' ++ [arL G oq 1 f]) := by
  refine MXW_of (lv := [some (.ref e), some (.int x1), some (.ref oq), none]) hK (by decide +kernel) rfl (nle rfl) (fun X C F htab => ?_)
  have C : OKc G X l RL "sendsIn" cL_sendsIn 4 (some .int) (d' + 1) mc' ms' := C
  refine x_aload_n C eL_sendsIn_0 rfl ?_
  refine x_iconst C eL_sendsIn_1 ?_
  refine x_aload_n C eL_sendsIn_2 rfl ?_
  refine x_iload_n C eL_sendsIn_3 rfl ?_
  refine x_callVC (As := [.int x1]) [arL G oq 1 f] hL_sendsIn 0 C hM v_X7_sendsIn vv_X7_sendsIn s_RL_44 hr eL_sendsIn_4 rfl (fun _ _ h => h) rfl (nle rfl) (by omega) (by omega) (by omega) htab rfl ⟨[], _, _, rfl, rfl, rfl, by decide, by decide, fun _ h => nomatch h⟩ cl_RL_29 hC (fun _ => ?_)
  refine x_astore_n [_, _, _, _] C eL_sendsIn_12 rfl rfl (nlt rfl) ?_
  refine x_iconst C eL_sendsIn_13 ?_
  exact x_iret (by first | rfl | exact (narZ (by omega)).1) C F eL_sendsIn_14 () rfl trivial (fun cf c h => h) (by omega) (by omega)
set_option maxRecDepth 100000 in
theorem wx_emptyIn_1 {G : Gm} {l : Launch} (hK : KG G) {e oq : Nat} {x1 : Int32} {f : Nat → Int64} {d' mc' ms' : Nat} {P P' : List SA} (hM : MT G l yX7_emptyIn cX7_emptyIn 4 (some .int) d' mc' ms' [.ref e, .int x1] P "java/lang/IndexOutOfBoundsException" P') (hC : va_Nw (Cond.castable "java/lang/IndexOutOfBoundsException" "java/lang/IndexOutOfBoundsException") G.1) (hr : ∀ cf c, WF (P ++ [arL G oq 1 f]) cf c → ∃ fs, c e = some (.inr (9, fs))) : MXW G l yL_emptyIn cL_emptyIn 4 (some .int) hL_emptyIn (d' + 1) mc' ms' [.ref e, .int x1, .ref oq] (P ++ [arL G oq 1 f]) (fun _ : Unit => some (.int (zI 1))) (fun _ => True) (fun _ => P' ++ [arL G oq 1 f]) := by
  refine MXW_of (lv := [some (.ref e), some (.int x1), some (.ref oq), none]) hK (by decide +kernel) rfl (nle rfl) (fun X C F htab => ?_)
  have C : OKc G X l RL "emptyIn" cL_emptyIn 4 (some .int) (d' + 1) mc' ms' := C
  refine x_aload_n C eL_emptyIn_0 rfl ?_
  refine x_iconst C eL_emptyIn_1 ?_
  refine x_aload_n C eL_emptyIn_2 rfl ?_
  refine x_iload_n C eL_emptyIn_3 rfl ?_
  refine x_callVC (As := [.int x1]) [arL G oq 1 f] hL_emptyIn 0 C hM v_X7_emptyIn vv_X7_emptyIn s_RL_47 hr eL_emptyIn_4 rfl (fun _ _ h => h) rfl (nle rfl) (by omega) (by omega) (by omega) htab rfl ⟨[], _, _, rfl, rfl, rfl, by decide, by decide, fun _ h => nomatch h⟩ cl_RL_29 hC (fun _ => ?_)
  refine x_astore_n [_, _, _, _] C eL_emptyIn_12 rfl rfl (nlt rfl) ?_
  refine x_iconst C eL_emptyIn_13 ?_
  exact x_iret (by first | rfl | exact (narZ (by omega)).1) C F eL_emptyIn_14 () rfl trivial (fun cf c h => h) (by omega) (by omega)
set_option maxRecDepth 100000 in
theorem wx_sentIn_1 {G : Gm} {l : Launch} (hK : KG G) {e oq : Nat} {x1 x2 : Int32} {f : Nat → Int64} {d' mc' ms' : Nat} {P P' : List SA} (hM : MT G l yX7_sentIn cX7_sentIn 3 (some .int) d' mc' ms' [.ref e, .int x1, .int x2] P "java/lang/IndexOutOfBoundsException" P') (hC : va_Nw (Cond.castable "java/lang/IndexOutOfBoundsException" "java/lang/IndexOutOfBoundsException") G.1) (hr : ∀ cf c, WF (P ++ [arL G oq 1 f]) cf c → ∃ fs, c e = some (.inr (9, fs))) : MXW G l yL_sentIn cL_sentIn 5 (some .int) hL_sentIn (d' + 1) mc' ms' [.ref e, .int x1, .int x2, .ref oq] (P ++ [arL G oq 1 f]) (fun _ : Unit => some (.int (zI 1))) (fun _ => True) (fun _ => P' ++ [arL G oq 1 f]) := by
  refine MXW_of (lv := [some (.ref e), some (.int x1), some (.int x2), some (.ref oq), none]) hK (by decide +kernel) rfl (nle rfl) (fun X C F htab => ?_)
  have C : OKc G X l RL "sentIn" cL_sentIn 5 (some .int) (d' + 1) mc' ms' := C
  refine x_aload_n C eL_sentIn_0 rfl ?_
  refine x_iconst C eL_sentIn_1 ?_
  refine x_aload_n C eL_sentIn_2 rfl ?_
  refine x_iload_n C eL_sentIn_3 rfl ?_
  refine x_iload_n C eL_sentIn_4 rfl ?_
  refine x_callVC (As := [.int x1, .int x2]) [arL G oq 1 f] hL_sentIn 0 C hM v_X7_sentIn vv_X7_sentIn s_RL_50 hr eL_sentIn_5 rfl (fun _ _ h => h) rfl (nle rfl) (by omega) (by omega) (by omega) htab rfl ⟨[], _, _, rfl, rfl, rfl, by decide, by decide, fun _ h => nomatch h⟩ cl_RL_29 hC (fun _ => ?_)
  refine x_astore [_, _, _, _, _] C eL_sentIn_13 rfl rfl (nlt rfl) ?_
  refine x_iconst C eL_sentIn_15 ?_
  exact x_iret (by first | rfl | exact (narZ (by omega)).1) C F eL_sentIn_16 () rfl trivial (fun cf c h => h) (by omega) (by omega)
set_option maxRecDepth 100000 in
theorem wx_sentIn_2 {G : Gm} {l : Launch} (hK : KG G) {e oq : Nat} {x1 x2 : Int32} {f : Nat → Int64} {d' mc' ms' : Nat} {P P' : List SA} (hM : MT G l yX7_sentIn cX7_sentIn 3 (some .int) d' mc' ms' [.ref e, .int x1, .int x2] P "java/lang/IllegalArgumentException" P') (hC : va_Nw (Cond.castable "java/lang/IllegalArgumentException" "java/lang/IllegalArgumentException") G.1) (hN : va_Nc "java/lang/IllegalArgumentException" "java/lang/IndexOutOfBoundsException" G.1) (hr : ∀ cf c, WF (P ++ [arL G oq 1 f]) cf c → ∃ fs, c e = some (.inr (9, fs))) : MXW G l yL_sentIn cL_sentIn 5 (some .int) hL_sentIn (d' + 1) mc' ms' [.ref e, .int x1, .int x2, .ref oq] (P ++ [arL G oq 1 f]) (fun _ : Unit => some (.int (zI 2))) (fun _ => True) (fun _ => P' ++ [arL G oq 1 f]) := by
  refine MXW_of (lv := [some (.ref e), some (.int x1), some (.int x2), some (.ref oq), none]) hK (by decide +kernel) rfl (nle rfl) (fun X C F htab => ?_)
  have C : OKc G X l RL "sentIn" cL_sentIn 5 (some .int) (d' + 1) mc' ms' := C
  refine x_aload_n C eL_sentIn_0 rfl ?_
  refine x_iconst C eL_sentIn_1 ?_
  refine x_aload_n C eL_sentIn_2 rfl ?_
  refine x_iload_n C eL_sentIn_3 rfl ?_
  refine x_iload_n C eL_sentIn_4 rfl ?_
  refine x_callVC (As := [.int x1, .int x2]) [arL G oq 1 f] hL_sentIn 1 C hM v_X7_sentIn vv_X7_sentIn s_RL_50 hr eL_sentIn_5 rfl (fun _ _ h => h) rfl (nle rfl) (by omega) (by omega) (by omega) htab rfl ⟨[⟨0, 10, 13, 29⟩], _, _, rfl, rfl, rfl, by decide, by decide, fun z hz => by
      simp only [List.mem_cons, List.not_mem_nil, or_false] at hz
      subst hz
      exact ⟨by decide, "java/lang/IndexOutOfBoundsException", cl_RL_29, hN⟩⟩ cl_RL_19 hC (fun _ => ?_)
  refine x_astore [_, _, _, _, _] C eL_sentIn_17 rfl rfl (nlt rfl) ?_
  refine x_iconst C eL_sentIn_19 ?_
  exact x_iret (by first | rfl | exact (narZ (by omega)).1) C F eL_sentIn_20 () rfl trivial (fun cf c h => h) (by omega) (by omega)
set_option maxRecDepth 100000 in
theorem wx_deliveredIn_1 {G : Gm} {l : Launch} (hK : KG G) {e oq : Nat} {x1 x2 : Int32} {f : Nat → Int64} {d' mc' ms' : Nat} {P P' : List SA} (hM : MT G l yX7_deliveredIn cX7_deliveredIn 3 (some .int) d' mc' ms' [.ref e, .int x1, .int x2] P "java/lang/IndexOutOfBoundsException" P') (hC : va_Nw (Cond.castable "java/lang/IndexOutOfBoundsException" "java/lang/IndexOutOfBoundsException") G.1) (hr : ∀ cf c, WF (P ++ [arL G oq 1 f]) cf c → ∃ fs, c e = some (.inr (9, fs))) : MXW G l yL_deliveredIn cL_deliveredIn 5 (some .int) hL_deliveredIn (d' + 1) mc' ms' [.ref e, .int x1, .int x2, .ref oq] (P ++ [arL G oq 1 f]) (fun _ : Unit => some (.int (zI 1))) (fun _ => True) (fun _ => P' ++ [arL G oq 1 f]) := by
  refine MXW_of (lv := [some (.ref e), some (.int x1), some (.int x2), some (.ref oq), none]) hK (by decide +kernel) rfl (nle rfl) (fun X C F htab => ?_)
  have C : OKc G X l RL "deliveredIn" cL_deliveredIn 5 (some .int) (d' + 1) mc' ms' := C
  refine x_aload_n C eL_deliveredIn_0 rfl ?_
  refine x_iconst C eL_deliveredIn_1 ?_
  refine x_aload_n C eL_deliveredIn_2 rfl ?_
  refine x_iload_n C eL_deliveredIn_3 rfl ?_
  refine x_iload_n C eL_deliveredIn_4 rfl ?_
  refine x_callVC (As := [.int x1, .int x2]) [arL G oq 1 f] hL_deliveredIn 0 C hM v_X7_deliveredIn vv_X7_deliveredIn s_RL_53 hr eL_deliveredIn_5 rfl (fun _ _ h => h) rfl (nle rfl) (by omega) (by omega) (by omega) htab rfl ⟨[], _, _, rfl, rfl, rfl, by decide, by decide, fun _ h => nomatch h⟩ cl_RL_29 hC (fun _ => ?_)
  refine x_astore [_, _, _, _, _] C eL_deliveredIn_13 rfl rfl (nlt rfl) ?_
  refine x_iconst C eL_deliveredIn_15 ?_
  exact x_iret (by first | rfl | exact (narZ (by omega)).1) C F eL_deliveredIn_16 () rfl trivial (fun cf c h => h) (by omega) (by omega)
set_option maxRecDepth 100000 in
theorem wx_deliveredIn_2 {G : Gm} {l : Launch} (hK : KG G) {e oq : Nat} {x1 x2 : Int32} {f : Nat → Int64} {d' mc' ms' : Nat} {P P' : List SA} (hM : MT G l yX7_deliveredIn cX7_deliveredIn 3 (some .int) d' mc' ms' [.ref e, .int x1, .int x2] P "java/lang/IllegalArgumentException" P') (hC : va_Nw (Cond.castable "java/lang/IllegalArgumentException" "java/lang/IllegalArgumentException") G.1) (hN : va_Nc "java/lang/IllegalArgumentException" "java/lang/IndexOutOfBoundsException" G.1) (hr : ∀ cf c, WF (P ++ [arL G oq 1 f]) cf c → ∃ fs, c e = some (.inr (9, fs))) : MXW G l yL_deliveredIn cL_deliveredIn 5 (some .int) hL_deliveredIn (d' + 1) mc' ms' [.ref e, .int x1, .int x2, .ref oq] (P ++ [arL G oq 1 f]) (fun _ : Unit => some (.int (zI 2))) (fun _ => True) (fun _ => P' ++ [arL G oq 1 f]) := by
  refine MXW_of (lv := [some (.ref e), some (.int x1), some (.int x2), some (.ref oq), none]) hK (by decide +kernel) rfl (nle rfl) (fun X C F htab => ?_)
  have C : OKc G X l RL "deliveredIn" cL_deliveredIn 5 (some .int) (d' + 1) mc' ms' := C
  refine x_aload_n C eL_deliveredIn_0 rfl ?_
  refine x_iconst C eL_deliveredIn_1 ?_
  refine x_aload_n C eL_deliveredIn_2 rfl ?_
  refine x_iload_n C eL_deliveredIn_3 rfl ?_
  refine x_iload_n C eL_deliveredIn_4 rfl ?_
  refine x_callVC (As := [.int x1, .int x2]) [arL G oq 1 f] hL_deliveredIn 1 C hM v_X7_deliveredIn vv_X7_deliveredIn s_RL_53 hr eL_deliveredIn_5 rfl (fun _ _ h => h) rfl (nle rfl) (by omega) (by omega) (by omega) htab rfl ⟨[⟨0, 10, 13, 29⟩], _, _, rfl, rfl, rfl, by decide, by decide, fun z hz => by
      simp only [List.mem_cons, List.not_mem_nil, or_false] at hz
      subst hz
      exact ⟨by decide, "java/lang/IndexOutOfBoundsException", cl_RL_29, hN⟩⟩ cl_RL_19 hC (fun _ => ?_)
  refine x_astore [_, _, _, _, _] C eL_deliveredIn_17 rfl rfl (nlt rfl) ?_
  refine x_iconst C eL_deliveredIn_19 ?_
  exact x_iret (by first | rfl | exact (narZ (by omega)).1) C F eL_deliveredIn_20 () rfl trivial (fun cf c h => h) (by omega) (by omega)
set_option maxRecDepth 100000 in
theorem wx_room_1 {G : Gm} {l : Launch} (hK : KG G) {e oq : Nat} {x1 : Int32} {f : Nat → Int64} {d' mc' ms' : Nat} {P P' : List SA} (hM : MT G l yX7_room cX7_room 3 (some .int) d' mc' ms' [.ref e, .int x1] P "java/lang/IndexOutOfBoundsException" P') (hC : va_Nw (Cond.castable "java/lang/IndexOutOfBoundsException" "java/lang/IndexOutOfBoundsException") G.1) (hr : ∀ cf c, WF (P ++ [arL G oq 1 f]) cf c → ∃ fs, c e = some (.inr (9, fs))) : MXW G l yL_room cL_room 4 (some .int) hL_room (d' + 1) mc' ms' [.ref e, .int x1, .ref oq] (P ++ [arL G oq 1 f]) (fun _ : Unit => some (.int (zI 1))) (fun _ => True) (fun _ => P' ++ [arL G oq 1 f]) := by
  refine MXW_of (lv := [some (.ref e), some (.int x1), some (.ref oq), none]) hK (by decide +kernel) rfl (nle rfl) (fun X C F htab => ?_)
  have C : OKc G X l RL "room" cL_room 4 (some .int) (d' + 1) mc' ms' := C
  refine x_aload_n C eL_room_0 rfl ?_
  refine x_iconst C eL_room_1 ?_
  refine x_aload_n C eL_room_2 rfl ?_
  refine x_iload_n C eL_room_3 rfl ?_
  refine x_callVC (As := [.int x1]) [arL G oq 1 f] hL_room 0 C hM v_X7_room vv_X7_room s_RL_56 hr eL_room_4 rfl (fun _ _ h => h) rfl (nle rfl) (by omega) (by omega) (by omega) htab rfl ⟨[], _, _, rfl, rfl, rfl, by decide, by decide, fun _ h => nomatch h⟩ cl_RL_29 hC (fun _ => ?_)
  refine x_astore_n [_, _, _, _] C eL_room_12 rfl rfl (nlt rfl) ?_
  refine x_iconst C eL_room_13 ?_
  exact x_iret (by first | rfl | exact (narZ (by omega)).1) C F eL_room_14 () rfl trivial (fun cf c h => h) (by omega) (by omega)
set_option maxRecDepth 100000 in
theorem wx_untilStop_1 {G : Gm} {l : Launch} (hK : KG G) {e oq : Nat} {x1 : Int32} {f : Nat → Int64} {d' mc' ms' : Nat} {P P' : List SA} (hM : MT G l yX7_untilStop cX7_untilStop 3 (some .int) d' mc' ms' [.ref e, .int x1] P "java/lang/IndexOutOfBoundsException" P') (hC : va_Nw (Cond.castable "java/lang/IndexOutOfBoundsException" "java/lang/IndexOutOfBoundsException") G.1) (hr : ∀ cf c, WF (P ++ [arL G oq 1 f]) cf c → ∃ fs, c e = some (.inr (9, fs))) : MXW G l yL_untilStop cL_untilStop 4 (some .int) hL_untilStop (d' + 1) mc' ms' [.ref e, .int x1, .ref oq] (P ++ [arL G oq 1 f]) (fun _ : Unit => some (.int (zI 1))) (fun _ => True) (fun _ => P' ++ [arL G oq 1 f]) := by
  refine MXW_of (lv := [some (.ref e), some (.int x1), some (.ref oq), none]) hK (by decide +kernel) rfl (nle rfl) (fun X C F htab => ?_)
  have C : OKc G X l RL "untilStop" cL_untilStop 4 (some .int) (d' + 1) mc' ms' := C
  refine x_aload_n C eL_untilStop_0 rfl ?_
  refine x_iconst C eL_untilStop_1 ?_
  refine x_aload_n C eL_untilStop_2 rfl ?_
  refine x_iload_n C eL_untilStop_3 rfl ?_
  refine x_callVC (As := [.int x1]) [arL G oq 1 f] hL_untilStop 0 C hM v_X7_untilStop vv_X7_untilStop s_RL_59 hr eL_untilStop_4 rfl (fun _ _ h => h) rfl (nle rfl) (by omega) (by omega) (by omega) htab rfl ⟨[], _, _, rfl, rfl, rfl, by decide, by decide, fun _ h => nomatch h⟩ cl_RL_29 hC (fun _ => ?_)
  refine x_astore_n [_, _, _, _] C eL_untilStop_12 rfl rfl (nlt rfl) ?_
  refine x_iconst C eL_untilStop_13 ?_
  exact x_iret (by first | rfl | exact (narZ (by omega)).1) C F eL_untilStop_14 () rfl trivial (fun cf c h => h) (by omega) (by omega)
set_option maxRecDepth 100000 in
theorem wx_droppedBy_1 {G : Gm} {l : Launch} (hK : KG G) {e oq : Nat} {x1 x2 : Int32} {f : Nat → Int64} {d' mc' ms' : Nat} {P P' : List SA} (hM : MT G l yX7_droppedBy cX7_droppedBy 5 (some .int) d' mc' ms' [.ref e, .int x1, .int x2] P "java/lang/IndexOutOfBoundsException" P') (hC : va_Nw (Cond.castable "java/lang/IndexOutOfBoundsException" "java/lang/IndexOutOfBoundsException") G.1) (hr : ∀ cf c, WF (P ++ [arL G oq 1 f]) cf c → ∃ fs, c e = some (.inr (9, fs))) : MXW G l yL_droppedBy cL_droppedBy 5 (some .int) hL_droppedBy (d' + 1) mc' ms' [.ref e, .int x1, .int x2, .ref oq] (P ++ [arL G oq 1 f]) (fun _ : Unit => some (.int (zI 1))) (fun _ => True) (fun _ => P' ++ [arL G oq 1 f]) := by
  refine MXW_of (lv := [some (.ref e), some (.int x1), some (.int x2), some (.ref oq), none]) hK (by decide +kernel) rfl (nle rfl) (fun X C F htab => ?_)
  have C : OKc G X l RL "droppedBy" cL_droppedBy 5 (some .int) (d' + 1) mc' ms' := C
  refine x_aload_n C eL_droppedBy_0 rfl ?_
  refine x_iconst C eL_droppedBy_1 ?_
  refine x_aload_n C eL_droppedBy_2 rfl ?_
  refine x_iload_n C eL_droppedBy_3 rfl ?_
  refine x_iload_n C eL_droppedBy_4 rfl ?_
  refine x_callVC (As := [.int x1, .int x2]) [arL G oq 1 f] hL_droppedBy 0 C hM v_X7_droppedBy vv_X7_droppedBy s_RL_62 hr eL_droppedBy_5 rfl (fun _ _ h => h) rfl (nle rfl) (by omega) (by omega) (by omega) htab rfl ⟨[], _, _, rfl, rfl, rfl, by decide, by decide, fun _ h => nomatch h⟩ cl_RL_29 hC (fun _ => ?_)
  refine x_astore [_, _, _, _, _] C eL_droppedBy_13 rfl rfl (nlt rfl) ?_
  refine x_iconst C eL_droppedBy_15 ?_
  exact x_iret (by first | rfl | exact (narZ (by omega)).1) C F eL_droppedBy_16 () rfl trivial (fun cf c h => h) (by omega) (by omega)
set_option maxRecDepth 100000 in
theorem wx_droppedBy_2 {G : Gm} {l : Launch} (hK : KG G) {e oq : Nat} {x1 x2 : Int32} {f : Nat → Int64} {d' mc' ms' : Nat} {P P' : List SA} (hM : MT G l yX7_droppedBy cX7_droppedBy 5 (some .int) d' mc' ms' [.ref e, .int x1, .int x2] P "java/lang/IllegalArgumentException" P') (hC : va_Nw (Cond.castable "java/lang/IllegalArgumentException" "java/lang/IllegalArgumentException") G.1) (hN : va_Nc "java/lang/IllegalArgumentException" "java/lang/IndexOutOfBoundsException" G.1) (hr : ∀ cf c, WF (P ++ [arL G oq 1 f]) cf c → ∃ fs, c e = some (.inr (9, fs))) : MXW G l yL_droppedBy cL_droppedBy 5 (some .int) hL_droppedBy (d' + 1) mc' ms' [.ref e, .int x1, .int x2, .ref oq] (P ++ [arL G oq 1 f]) (fun _ : Unit => some (.int (zI 2))) (fun _ => True) (fun _ => P' ++ [arL G oq 1 f]) := by
  refine MXW_of (lv := [some (.ref e), some (.int x1), some (.int x2), some (.ref oq), none]) hK (by decide +kernel) rfl (nle rfl) (fun X C F htab => ?_)
  have C : OKc G X l RL "droppedBy" cL_droppedBy 5 (some .int) (d' + 1) mc' ms' := C
  refine x_aload_n C eL_droppedBy_0 rfl ?_
  refine x_iconst C eL_droppedBy_1 ?_
  refine x_aload_n C eL_droppedBy_2 rfl ?_
  refine x_iload_n C eL_droppedBy_3 rfl ?_
  refine x_iload_n C eL_droppedBy_4 rfl ?_
  refine x_callVC (As := [.int x1, .int x2]) [arL G oq 1 f] hL_droppedBy 1 C hM v_X7_droppedBy vv_X7_droppedBy s_RL_62 hr eL_droppedBy_5 rfl (fun _ _ h => h) rfl (nle rfl) (by omega) (by omega) (by omega) htab rfl ⟨[⟨0, 10, 13, 29⟩], _, _, rfl, rfl, rfl, by decide, by decide, fun z hz => by
      simp only [List.mem_cons, List.not_mem_nil, or_false] at hz
      subst hz
      exact ⟨by decide, "java/lang/IndexOutOfBoundsException", cl_RL_29, hN⟩⟩ cl_RL_19 hC (fun _ => ?_)
  refine x_astore [_, _, _, _, _] C eL_droppedBy_17 rfl rfl (nlt rfl) ?_
  refine x_iconst C eL_droppedBy_19 ?_
  exact x_iret (by first | rfl | exact (narZ (by omega)).1) C F eL_droppedBy_20 () rfl trivial (fun cf c h => h) (by omega) (by omega)
set_option maxRecDepth 100000 in
theorem wx_sentIfLent_1 {G : Gm} {l : Launch} (hK : KG G) {e oq : Nat} {x1 x2 : Int32} {f : Nat → Int64} {d' mc' ms' : Nat} {P P' : List SA} (hM : MT G l yX7_sentIfLent cX7_sentIfLent 3 (some .int) d' mc' ms' [.ref e, .int x1, .int x2] P "java/lang/IndexOutOfBoundsException" P') (hC : va_Nw (Cond.castable "java/lang/IndexOutOfBoundsException" "java/lang/IndexOutOfBoundsException") G.1) (hr : ∀ cf c, WF (P ++ [arL G oq 1 f]) cf c → ∃ fs, c e = some (.inr (9, fs))) : MXW G l yL_sentIfLent cL_sentIfLent 5 (some .int) hL_sentIfLent (d' + 1) mc' ms' [.ref e, .int x1, .int x2, .ref oq] (P ++ [arL G oq 1 f]) (fun _ : Unit => some (.int (zI 1))) (fun _ => True) (fun _ => P' ++ [arL G oq 1 f]) := by
  refine MXW_of (lv := [some (.ref e), some (.int x1), some (.int x2), some (.ref oq), none]) hK (by decide +kernel) rfl (nle rfl) (fun X C F htab => ?_)
  have C : OKc G X l RL "sentIfLent" cL_sentIfLent 5 (some .int) (d' + 1) mc' ms' := C
  refine x_aload_n C eL_sentIfLent_0 rfl ?_
  refine x_iconst C eL_sentIfLent_1 ?_
  refine x_aload_n C eL_sentIfLent_2 rfl ?_
  refine x_iload_n C eL_sentIfLent_3 rfl ?_
  refine x_iload_n C eL_sentIfLent_4 rfl ?_
  refine x_callVC (As := [.int x1, .int x2]) [arL G oq 1 f] hL_sentIfLent 0 C hM v_X7_sentIfLent vv_X7_sentIfLent s_RL_65 hr eL_sentIfLent_5 rfl (fun _ _ h => h) rfl (nle rfl) (by omega) (by omega) (by omega) htab rfl ⟨[], _, _, rfl, rfl, rfl, by decide, by decide, fun _ h => nomatch h⟩ cl_RL_29 hC (fun _ => ?_)
  refine x_astore [_, _, _, _, _] C eL_sentIfLent_13 rfl rfl (nlt rfl) ?_
  refine x_iconst C eL_sentIfLent_15 ?_
  exact x_iret (by first | rfl | exact (narZ (by omega)).1) C F eL_sentIfLent_16 () rfl trivial (fun cf c h => h) (by omega) (by omega)
set_option maxRecDepth 100000 in
theorem wx_sentIfLent_2 {G : Gm} {l : Launch} (hK : KG G) {e oq : Nat} {x1 x2 : Int32} {f : Nat → Int64} {d' mc' ms' : Nat} {P P' : List SA} (hM : MT G l yX7_sentIfLent cX7_sentIfLent 3 (some .int) d' mc' ms' [.ref e, .int x1, .int x2] P "java/lang/IllegalArgumentException" P') (hC : va_Nw (Cond.castable "java/lang/IllegalArgumentException" "java/lang/IllegalArgumentException") G.1) (hN : va_Nc "java/lang/IllegalArgumentException" "java/lang/IndexOutOfBoundsException" G.1) (hr : ∀ cf c, WF (P ++ [arL G oq 1 f]) cf c → ∃ fs, c e = some (.inr (9, fs))) : MXW G l yL_sentIfLent cL_sentIfLent 5 (some .int) hL_sentIfLent (d' + 1) mc' ms' [.ref e, .int x1, .int x2, .ref oq] (P ++ [arL G oq 1 f]) (fun _ : Unit => some (.int (zI 2))) (fun _ => True) (fun _ => P' ++ [arL G oq 1 f]) := by
  refine MXW_of (lv := [some (.ref e), some (.int x1), some (.int x2), some (.ref oq), none]) hK (by decide +kernel) rfl (nle rfl) (fun X C F htab => ?_)
  have C : OKc G X l RL "sentIfLent" cL_sentIfLent 5 (some .int) (d' + 1) mc' ms' := C
  refine x_aload_n C eL_sentIfLent_0 rfl ?_
  refine x_iconst C eL_sentIfLent_1 ?_
  refine x_aload_n C eL_sentIfLent_2 rfl ?_
  refine x_iload_n C eL_sentIfLent_3 rfl ?_
  refine x_iload_n C eL_sentIfLent_4 rfl ?_
  refine x_callVC (As := [.int x1, .int x2]) [arL G oq 1 f] hL_sentIfLent 1 C hM v_X7_sentIfLent vv_X7_sentIfLent s_RL_65 hr eL_sentIfLent_5 rfl (fun _ _ h => h) rfl (nle rfl) (by omega) (by omega) (by omega) htab rfl ⟨[⟨0, 10, 13, 29⟩], _, _, rfl, rfl, rfl, by decide, by decide, fun z hz => by
      simp only [List.mem_cons, List.not_mem_nil, or_false] at hz
      subst hz
      exact ⟨by decide, "java/lang/IndexOutOfBoundsException", cl_RL_29, hN⟩⟩ cl_RL_19 hC (fun _ => ?_)
  refine x_astore [_, _, _, _, _] C eL_sentIfLent_17 rfl rfl (nlt rfl) ?_
  refine x_iconst C eL_sentIfLent_19 ?_
  exact x_iret (by first | rfl | exact (narZ (by omega)).1) C F eL_sentIfLent_20 () rfl trivial (fun cf c h => h) (by omega) (by omega)
set_option maxRecDepth 100000 in
theorem wx_bestBorrower_1 {G : Gm} {l : Launch} (hK : KG G) {e oq : Nat} {x1 : Int32} {f : Nat → Int64} {d' mc' ms' : Nat} {P P' : List SA} (hM : MT G l yX7_bestBorrower cX7_bestBorrower 5 (some .int) d' mc' ms' [.ref e, .int x1] P "java/lang/IndexOutOfBoundsException" P') (hC : va_Nw (Cond.castable "java/lang/IndexOutOfBoundsException" "java/lang/IndexOutOfBoundsException") G.1) (hr : ∀ cf c, WF (P ++ [arL G oq 1 f]) cf c → ∃ fs, c e = some (.inr (9, fs))) : MXW G l yL_bestBorrower cL_bestBorrower 4 (some .int) hL_bestBorrower (d' + 1) mc' ms' [.ref e, .int x1, .ref oq] (P ++ [arL G oq 1 f]) (fun _ : Unit => some (.int (zI 1))) (fun _ => True) (fun _ => P' ++ [arL G oq 1 f]) := by
  refine MXW_of (lv := [some (.ref e), some (.int x1), some (.ref oq), none]) hK (by decide +kernel) rfl (nle rfl) (fun X C F htab => ?_)
  have C : OKc G X l RL "bestBorrower" cL_bestBorrower 4 (some .int) (d' + 1) mc' ms' := C
  refine x_aload_n C eL_bestBorrower_0 rfl ?_
  refine x_iconst C eL_bestBorrower_1 ?_
  refine x_aload_n C eL_bestBorrower_2 rfl ?_
  refine x_iload_n C eL_bestBorrower_3 rfl ?_
  refine x_callVC (As := [.int x1]) [arL G oq 1 f] hL_bestBorrower 0 C hM v_X7_bestBorrower vv_X7_bestBorrower s_RL_68 hr eL_bestBorrower_4 rfl (fun _ _ h => h) rfl (nle rfl) (by omega) (by omega) (by omega) htab rfl ⟨[], _, _, rfl, rfl, rfl, by decide, by decide, fun _ h => nomatch h⟩ cl_RL_29 hC (fun _ => ?_)
  refine x_astore_n [_, _, _, _] C eL_bestBorrower_12 rfl rfl (nlt rfl) ?_
  refine x_iconst C eL_bestBorrower_13 ?_
  exact x_iret (by first | rfl | exact (narZ (by omega)).1) C F eL_bestBorrower_14 () rfl trivial (fun cf c h => h) (by omega) (by omega)
set_option maxRecDepth 100000 in
theorem wx_share_1 {G : Gm} {l : Launch} (hK : KG G) {e oq : Nat} {x1 : Int32} {f : Nat → UInt64} {d' mc' ms' : Nat} {P P' : List SA} (hM : MT G l yX7_share cX7_share 2 (some .float) d' mc' ms' [.ref e, .int x1] P "java/lang/IndexOutOfBoundsException" P') (hC : va_Nw (Cond.castable "java/lang/IndexOutOfBoundsException" "java/lang/IndexOutOfBoundsException") G.1) (hr : ∀ cf c, WF (P ++ [arD G oq 1 f]) cf c → ∃ fs, c e = some (.inr (9, fs))) : MXW G l yL_share cL_share 4 (some .int) hL_share (d' + 1) mc' ms' [.ref e, .int x1, .ref oq] (P ++ [arD G oq 1 f]) (fun _ : Unit => some (.int (zI 1))) (fun _ => True) (fun _ => P' ++ [arD G oq 1 f]) := by
  refine MXW_of (lv := [some (.ref e), some (.int x1), some (.ref oq), none]) hK (by decide +kernel) rfl (nle rfl) (fun X C F htab => ?_)
  have C : OKc G X l RL "share" cL_share 4 (some .int) (d' + 1) mc' ms' := C
  refine x_aload_n C eL_share_0 rfl ?_
  refine x_iconst C eL_share_1 ?_
  refine x_aload_n C eL_share_2 rfl ?_
  refine x_iload_n C eL_share_3 rfl ?_
  refine x_callVC (As := [.int x1]) [arD G oq 1 f] hL_share 0 C hM v_X7_share vv_X7_share s_RL_71 hr eL_share_4 rfl (fun _ _ h => h) rfl (nle rfl) (by omega) (by omega) (by omega) htab rfl ⟨[], _, _, rfl, rfl, rfl, by decide, by decide, fun _ h => nomatch h⟩ cl_RL_29 hC (fun _ => ?_)
  refine x_astore_n [_, _, _, _] C eL_share_12 rfl rfl (nlt rfl) ?_
  refine x_iconst C eL_share_13 ?_
  exact x_iret (by first | rfl | exact (narZ (by omega)).1) C F eL_share_14 () rfl trivial (fun cf c h => h) (by omega) (by omega)
set_option maxRecDepth 100000 in
theorem wx_meanWait_1 {G : Gm} {l : Launch} (hK : KG G) {e oq : Nat} {x1 : Int32} {f : Nat → UInt64} {d' mc' ms' : Nat} {P P' : List SA} (hM : MT G l yX7_meanWait cX7_meanWait 4 (some .double) d' mc' ms' [.ref e, .int x1] P "java/lang/IndexOutOfBoundsException" P') (hC : va_Nw (Cond.castable "java/lang/IndexOutOfBoundsException" "java/lang/IndexOutOfBoundsException") G.1) (hr : ∀ cf c, WF (P ++ [arD G oq 1 f]) cf c → ∃ fs, c e = some (.inr (9, fs))) : MXW G l yL_meanWait cL_meanWait 4 (some .int) hL_meanWait (d' + 1) mc' ms' [.ref e, .int x1, .ref oq] (P ++ [arD G oq 1 f]) (fun _ : Unit => some (.int (zI 1))) (fun _ => True) (fun _ => P' ++ [arD G oq 1 f]) := by
  refine MXW_of (lv := [some (.ref e), some (.int x1), some (.ref oq), none]) hK (by decide +kernel) rfl (nle rfl) (fun X C F htab => ?_)
  have C : OKc G X l RL "meanWait" cL_meanWait 4 (some .int) (d' + 1) mc' ms' := C
  refine x_aload_n C eL_meanWait_0 rfl ?_
  refine x_iconst C eL_meanWait_1 ?_
  refine x_aload_n C eL_meanWait_2 rfl ?_
  refine x_iload_n C eL_meanWait_3 rfl ?_
  refine x_callVC (As := [.int x1]) [arD G oq 1 f] hL_meanWait 0 C hM v_X7_meanWait vv_X7_meanWait s_RL_75 hr eL_meanWait_4 rfl (fun _ _ h => h) rfl (nle rfl) (by omega) (by omega) (by omega) htab rfl ⟨[], _, _, rfl, rfl, rfl, by decide, by decide, fun _ h => nomatch h⟩ cl_RL_29 hC (fun _ => ?_)
  refine x_astore_n [_, _, _, _] C eL_meanWait_11 rfl rfl (nlt rfl) ?_
  refine x_iconst C eL_meanWait_12 ?_
  exact x_iret (by first | rfl | exact (narZ (by omega)).1) C F eL_meanWait_13 () rfl trivial (fun cf c h => h) (by omega) (by omega)
set_option maxRecDepth 100000 in
theorem wx_gap_1 {G : Gm} {l : Launch} (hK : KG G) {e oq : Nat} {x1 : Int32} {f : Nat → Int64} {d' mc' ms' : Nat} {P P' : List SA} (hM : MT G l yX7_gap cX7_gap 4 (some .int) d' mc' ms' [.ref e, .int x1] P "java/lang/IndexOutOfBoundsException" P') (hC : va_Nw (Cond.castable "java/lang/IndexOutOfBoundsException" "java/lang/IndexOutOfBoundsException") G.1) (hr : ∀ cf c, WF (P ++ [arL G oq 1 f]) cf c → ∃ fs, c e = some (.inr (9, fs))) : MXW G l yL_gap cL_gap 4 (some .int) hL_gap (d' + 1) mc' ms' [.ref e, .int x1, .ref oq] (P ++ [arL G oq 1 f]) (fun _ : Unit => some (.int (zI 1))) (fun _ => True) (fun _ => P' ++ [arL G oq 1 f]) := by
  refine MXW_of (lv := [some (.ref e), some (.int x1), some (.ref oq), none]) hK (by decide +kernel) rfl (nle rfl) (fun X C F htab => ?_)
  have C : OKc G X l RL "gap" cL_gap 4 (some .int) (d' + 1) mc' ms' := C
  refine x_aload_n C eL_gap_0 rfl ?_
  refine x_iconst C eL_gap_1 ?_
  refine x_aload_n C eL_gap_2 rfl ?_
  refine x_iload_n C eL_gap_3 rfl ?_
  refine x_callVC (As := [.int x1]) [arL G oq 1 f] hL_gap 0 C hM v_X7_gap vv_X7_gap s_RL_79 hr eL_gap_4 rfl (fun _ _ h => h) rfl (nle rfl) (by omega) (by omega) (by omega) htab rfl ⟨[], _, _, rfl, rfl, rfl, by decide, by decide, fun _ h => nomatch h⟩ cl_RL_29 hC (fun _ => ?_)
  refine x_astore_n [_, _, _, _] C eL_gap_12 rfl rfl (nlt rfl) ?_
  refine x_iconst C eL_gap_13 ?_
  exact x_iret (by first | rfl | exact (narZ (by omega)).1) C F eL_gap_14 () rfl trivial (fun cf c h => h) (by omega) (by omega)
set_option maxRecDepth 100000 in
theorem wx_sum_1 {G : Gm} {l : Launch} (hK : KG G) {e oq : Nat} {x1 : Int32} {f : Nat → Int64} {d' mc' ms' : Nat} {P P' : List SA} (hM : MT G l yX7_sum cX7_sum 4 (some .int) d' mc' ms' [.ref e, .int x1] P "java/lang/IllegalArgumentException" P') (hC : va_Nw (Cond.castable "java/lang/IllegalArgumentException" "java/lang/IllegalArgumentException") G.1) (hr : ∀ cf c, WF (P ++ [arL G oq 1 f]) cf c → ∃ fs, c e = some (.inr (9, fs))) : MXW G l yL_sum cL_sum 4 (some .int) hL_sum (d' + 1) mc' ms' [.ref e, .int x1, .ref oq] (P ++ [arL G oq 1 f]) (fun _ : Unit => some (.int (zI 1))) (fun _ => True) (fun _ => P' ++ [arL G oq 1 f]) := by
  refine MXW_of (lv := [some (.ref e), some (.int x1), some (.ref oq), none]) hK (by decide +kernel) rfl (nle rfl) (fun X C F htab => ?_)
  have C : OKc G X l RL "sum" cL_sum 4 (some .int) (d' + 1) mc' ms' := C
  refine x_aload_n C eL_sum_0 rfl ?_
  refine x_iconst C eL_sum_1 ?_
  refine x_aload_n C eL_sum_2 rfl ?_
  refine x_iload_n C eL_sum_3 rfl ?_
  refine x_callVC (As := [.int x1]) [arL G oq 1 f] hL_sum 0 C hM v_X7_sum vv_X7_sum s_RL_82 hr eL_sum_4 rfl (fun _ _ h => h) rfl (nle rfl) (by omega) (by omega) (by omega) htab rfl ⟨[], _, _, rfl, rfl, rfl, by decide, by decide, fun _ h => nomatch h⟩ cl_RL_19 hC (fun _ => ?_)
  refine x_astore_n [_, _, _, _] C eL_sum_12 rfl rfl (nlt rfl) ?_
  refine x_iconst C eL_sum_13 ?_
  exact x_iret (by first | rfl | exact (narZ (by omega)).1) C F eL_sum_14 () rfl trivial (fun cf c h => h) (by omega) (by omega)
set_option maxRecDepth 100000 in
theorem wx_type_1 {G : Gm} {l : Launch} (hK : KG G) {e oq : Nat} {x1 x2 x3 : Int32} {f : Nat → Int64} {d' mc' ms' : Nat} {P P' : List SA} (hM : MT G l yX7_type cX7_type 6 (some .int) d' mc' ms' [.ref e, .int x1, .int x2, .int x3] P "java/lang/IndexOutOfBoundsException" P') (hC : va_Nw (Cond.castable "java/lang/IndexOutOfBoundsException" "java/lang/IndexOutOfBoundsException") G.1) (hr : ∀ cf c, WF (P ++ [arL G oq 1 f]) cf c → ∃ fs, c e = some (.inr (9, fs))) : MXW G l yL_type cL_type 6 (some .int) hL_type (d' + 1) mc' ms' [.ref e, .int x1, .int x2, .int x3, .ref oq] (P ++ [arL G oq 1 f]) (fun _ : Unit => some (.int (zI 1))) (fun _ => True) (fun _ => P' ++ [arL G oq 1 f]) := by
  refine MXW_of (lv := [some (.ref e), some (.int x1), some (.int x2), some (.int x3), some (.ref oq), none]) hK (by decide +kernel) rfl (nle rfl) (fun X C F htab => ?_)
  have C : OKc G X l RL "type" cL_type 6 (some .int) (d' + 1) mc' ms' := C
  refine x_aload C eL_type_0 rfl ?_
  refine x_iconst C eL_type_2 ?_
  refine x_aload_n C eL_type_3 rfl ?_
  refine x_iload_n C eL_type_4 rfl ?_
  refine x_iload_n C eL_type_5 rfl ?_
  refine x_iload_n C eL_type_6 rfl ?_
  refine x_callVC (As := [.int x1, .int x2, .int x3]) [arL G oq 1 f] hL_type 0 C hM v_X7_type vv_X7_type s_RL_85 hr eL_type_7 rfl (fun _ _ h => h) rfl (nle rfl) (by omega) (by omega) (by omega) htab rfl ⟨[], _, _, rfl, rfl, rfl, by decide, by decide, fun _ h => nomatch h⟩ cl_RL_29 hC (fun _ => ?_)
  refine x_astore [_, _, _, _, _, _] C eL_type_15 rfl rfl (nlt rfl) ?_
  refine x_iconst C eL_type_17 ?_
  exact x_iret (by first | rfl | exact (narZ (by omega)).1) C F eL_type_18 () rfl trivial (fun cf c h => h) (by omega) (by omega)
set_option maxRecDepth 100000 in
theorem wx_type_2 {G : Gm} {l : Launch} (hK : KG G) {e oq : Nat} {x1 x2 x3 : Int32} {f : Nat → Int64} {d' mc' ms' : Nat} {P P' : List SA} (hM : MT G l yX7_type cX7_type 6 (some .int) d' mc' ms' [.ref e, .int x1, .int x2, .int x3] P "java/lang/IllegalArgumentException" P') (hC : va_Nw (Cond.castable "java/lang/IllegalArgumentException" "java/lang/IllegalArgumentException") G.1) (hN : va_Nc "java/lang/IllegalArgumentException" "java/lang/IndexOutOfBoundsException" G.1) (hr : ∀ cf c, WF (P ++ [arL G oq 1 f]) cf c → ∃ fs, c e = some (.inr (9, fs))) : MXW G l yL_type cL_type 6 (some .int) hL_type (d' + 1) mc' ms' [.ref e, .int x1, .int x2, .int x3, .ref oq] (P ++ [arL G oq 1 f]) (fun _ : Unit => some (.int (zI 2))) (fun _ => True) (fun _ => P' ++ [arL G oq 1 f]) := by
  refine MXW_of (lv := [some (.ref e), some (.int x1), some (.int x2), some (.int x3), some (.ref oq), none]) hK (by decide +kernel) rfl (nle rfl) (fun X C F htab => ?_)
  have C : OKc G X l RL "type" cL_type 6 (some .int) (d' + 1) mc' ms' := C
  refine x_aload C eL_type_0 rfl ?_
  refine x_iconst C eL_type_2 ?_
  refine x_aload_n C eL_type_3 rfl ?_
  refine x_iload_n C eL_type_4 rfl ?_
  refine x_iload_n C eL_type_5 rfl ?_
  refine x_iload_n C eL_type_6 rfl ?_
  refine x_callVC (As := [.int x1, .int x2, .int x3]) [arL G oq 1 f] hL_type 1 C hM v_X7_type vv_X7_type s_RL_85 hr eL_type_7 rfl (fun _ _ h => h) rfl (nle rfl) (by omega) (by omega) (by omega) htab rfl ⟨[⟨0, 12, 15, 29⟩], _, _, rfl, rfl, rfl, by decide, by decide, fun z hz => by
      simp only [List.mem_cons, List.not_mem_nil, or_false] at hz
      subst hz
      exact ⟨by decide, "java/lang/IndexOutOfBoundsException", cl_RL_29, hN⟩⟩ cl_RL_19 hC (fun _ => ?_)
  refine x_astore [_, _, _, _, _, _] C eL_type_19 rfl rfl (nlt rfl) ?_
  refine x_iconst C eL_type_21 ?_
  exact x_iret (by first | rfl | exact (narZ (by omega)).1) C F eL_type_22 () rfl trivial (fun cf c h => h) (by omega) (by omega)
set_option maxRecDepth 100000 in
theorem wx_reply_1 {G : Gm} {l : Launch} (hK : KG G) {e oq : Nat} {x1 x2 x3 : Int32} {f : Nat → Int64} {d' mc' ms' : Nat} {P P' : List SA} (hM : MT G l yX7_reply cX7_reply 6 (some .int) d' mc' ms' [.ref e, .int x1, .int x2, .int x3] P "java/lang/IndexOutOfBoundsException" P') (hC : va_Nw (Cond.castable "java/lang/IndexOutOfBoundsException" "java/lang/IndexOutOfBoundsException") G.1) (hr : ∀ cf c, WF (P ++ [arL G oq 1 f]) cf c → ∃ fs, c e = some (.inr (9, fs))) : MXW G l yL_reply cL_reply 6 (some .int) hL_reply (d' + 1) mc' ms' [.ref e, .int x1, .int x2, .int x3, .ref oq] (P ++ [arL G oq 1 f]) (fun _ : Unit => some (.int (zI 1))) (fun _ => True) (fun _ => P' ++ [arL G oq 1 f]) := by
  refine MXW_of (lv := [some (.ref e), some (.int x1), some (.int x2), some (.int x3), some (.ref oq), none]) hK (by decide +kernel) rfl (nle rfl) (fun X C F htab => ?_)
  have C : OKc G X l RL "reply" cL_reply 6 (some .int) (d' + 1) mc' ms' := C
  refine x_aload C eL_reply_0 rfl ?_
  refine x_iconst C eL_reply_2 ?_
  refine x_aload_n C eL_reply_3 rfl ?_
  refine x_iload_n C eL_reply_4 rfl ?_
  refine x_iload_n C eL_reply_5 rfl ?_
  refine x_iload_n C eL_reply_6 rfl ?_
  refine x_callVC (As := [.int x1, .int x2, .int x3]) [arL G oq 1 f] hL_reply 0 C hM v_X7_reply vv_X7_reply s_RL_89 hr eL_reply_7 rfl (fun _ _ h => h) rfl (nle rfl) (by omega) (by omega) (by omega) htab rfl ⟨[], _, _, rfl, rfl, rfl, by decide, by decide, fun _ h => nomatch h⟩ cl_RL_29 hC (fun _ => ?_)
  refine x_astore [_, _, _, _, _, _] C eL_reply_15 rfl rfl (nlt rfl) ?_
  refine x_iconst C eL_reply_17 ?_
  exact x_iret (by first | rfl | exact (narZ (by omega)).1) C F eL_reply_18 () rfl trivial (fun cf c h => h) (by omega) (by omega)
set_option maxRecDepth 100000 in
theorem wx_reply_2 {G : Gm} {l : Launch} (hK : KG G) {e oq : Nat} {x1 x2 x3 : Int32} {f : Nat → Int64} {d' mc' ms' : Nat} {P P' : List SA} (hM : MT G l yX7_reply cX7_reply 6 (some .int) d' mc' ms' [.ref e, .int x1, .int x2, .int x3] P "java/lang/IllegalArgumentException" P') (hC : va_Nw (Cond.castable "java/lang/IllegalArgumentException" "java/lang/IllegalArgumentException") G.1) (hN : va_Nc "java/lang/IllegalArgumentException" "java/lang/IndexOutOfBoundsException" G.1) (hr : ∀ cf c, WF (P ++ [arL G oq 1 f]) cf c → ∃ fs, c e = some (.inr (9, fs))) : MXW G l yL_reply cL_reply 6 (some .int) hL_reply (d' + 1) mc' ms' [.ref e, .int x1, .int x2, .int x3, .ref oq] (P ++ [arL G oq 1 f]) (fun _ : Unit => some (.int (zI 2))) (fun _ => True) (fun _ => P' ++ [arL G oq 1 f]) := by
  refine MXW_of (lv := [some (.ref e), some (.int x1), some (.int x2), some (.int x3), some (.ref oq), none]) hK (by decide +kernel) rfl (nle rfl) (fun X C F htab => ?_)
  have C : OKc G X l RL "reply" cL_reply 6 (some .int) (d' + 1) mc' ms' := C
  refine x_aload C eL_reply_0 rfl ?_
  refine x_iconst C eL_reply_2 ?_
  refine x_aload_n C eL_reply_3 rfl ?_
  refine x_iload_n C eL_reply_4 rfl ?_
  refine x_iload_n C eL_reply_5 rfl ?_
  refine x_iload_n C eL_reply_6 rfl ?_
  refine x_callVC (As := [.int x1, .int x2, .int x3]) [arL G oq 1 f] hL_reply 1 C hM v_X7_reply vv_X7_reply s_RL_89 hr eL_reply_7 rfl (fun _ _ h => h) rfl (nle rfl) (by omega) (by omega) (by omega) htab rfl ⟨[⟨0, 12, 15, 29⟩], _, _, rfl, rfl, rfl, by decide, by decide, fun z hz => by
      simp only [List.mem_cons, List.not_mem_nil, or_false] at hz
      subst hz
      exact ⟨by decide, "java/lang/IndexOutOfBoundsException", cl_RL_29, hN⟩⟩ cl_RL_19 hC (fun _ => ?_)
  refine x_astore [_, _, _, _, _, _] C eL_reply_19 rfl rfl (nlt rfl) ?_
  refine x_iconst C eL_reply_21 ?_
  exact x_iret (by first | rfl | exact (narZ (by omega)).1) C F eL_reply_22 () rfl trivial (fun cf c h => h) (by omega) (by omega)
set_option maxRecDepth 100000 in
theorem wx_tick_1 {G : Gm} {l : Launch} (hK : KG G) {e oq : Nat} {x1 : Int32} {f : Nat → Int64} {d' mc' ms' : Nat} {P P' : List SA} (hM : MT G l yX7_tick cX7_tick 3 (some .int) d' mc' ms' [.ref e, .int x1] P "java/lang/IllegalArgumentException" P') (hC : va_Nw (Cond.castable "java/lang/IllegalArgumentException" "java/lang/IllegalArgumentException") G.1) (hr : ∀ cf c, WF (P ++ [arL G oq 1 f]) cf c → ∃ fs, c e = some (.inr (9, fs))) : MXW G l yL_tick cL_tick 4 (some .int) hL_tick (d' + 1) mc' ms' [.ref e, .int x1, .ref oq] (P ++ [arL G oq 1 f]) (fun _ : Unit => some (.int (zI 1))) (fun _ => True) (fun _ => P' ++ [arL G oq 1 f]) := by
  refine MXW_of (lv := [some (.ref e), some (.int x1), some (.ref oq), none]) hK (by decide +kernel) rfl (nle rfl) (fun X C F htab => ?_)
  have C : OKc G X l RL "tick" cL_tick 4 (some .int) (d' + 1) mc' ms' := C
  refine x_aload_n C eL_tick_0 rfl ?_
  refine x_iconst C eL_tick_1 ?_
  refine x_aload_n C eL_tick_2 rfl ?_
  refine x_iload_n C eL_tick_3 rfl ?_
  refine x_callVC (As := [.int x1]) [arL G oq 1 f] hL_tick 0 C hM v_X7_tick vv_X7_tick s_RL_92 hr eL_tick_4 rfl (fun _ _ h => h) rfl (nle rfl) (by omega) (by omega) (by omega) htab rfl ⟨[], _, _, rfl, rfl, rfl, by decide, by decide, fun _ h => nomatch h⟩ cl_RL_19 hC (fun _ => ?_)
  refine x_astore_n [_, _, _, _] C eL_tick_12 rfl rfl (nlt rfl) ?_
  refine x_iconst C eL_tick_13 ?_
  exact x_iret (by first | rfl | exact (narZ (by omega)).1) C F eL_tick_14 () rfl trivial (fun cf c h => h) (by omega) (by omega)
set_option maxRecDepth 100000 in
theorem wx_lend_1 {G : Gm} {l : Launch} (hK : KG G) {e oq : Nat} {x1 x2 x3 : Int32} {f : Nat → Int64} {d' mc' ms' : Nat} {P P' : List SA} (hM : MT G l yX7_lend cX7_lend 6 (some .int) d' mc' ms' [.ref e, .int x1, .int x2, .int x3] P "java/lang/IndexOutOfBoundsException" P') (hC : va_Nw (Cond.castable "java/lang/IndexOutOfBoundsException" "java/lang/IndexOutOfBoundsException") G.1) (hr : ∀ cf c, WF (P ++ [arL G oq 1 f]) cf c → ∃ fs, c e = some (.inr (9, fs))) : MXW G l yL_lend cL_lend 6 (some .int) hL_lend (d' + 1) mc' ms' [.ref e, .int x1, .int x2, .int x3, .ref oq] (P ++ [arL G oq 1 f]) (fun _ : Unit => some (.int (zI 1))) (fun _ => True) (fun _ => P' ++ [arL G oq 1 f]) := by
  refine MXW_of (lv := [some (.ref e), some (.int x1), some (.int x2), some (.int x3), some (.ref oq), none]) hK (by decide +kernel) rfl (nle rfl) (fun X C F htab => ?_)
  have C : OKc G X l RL "lend" cL_lend 6 (some .int) (d' + 1) mc' ms' := C
  refine x_aload C eL_lend_0 rfl ?_
  refine x_iconst C eL_lend_2 ?_
  refine x_aload_n C eL_lend_3 rfl ?_
  refine x_iload_n C eL_lend_4 rfl ?_
  refine x_iload_n C eL_lend_5 rfl ?_
  refine x_iload_n C eL_lend_6 rfl ?_
  refine x_callVC (As := [.int x1, .int x2, .int x3]) [arL G oq 1 f] hL_lend 0 C hM v_X7_lend vv_X7_lend s_RL_95 hr eL_lend_7 rfl (fun _ _ h => h) rfl (nle rfl) (by omega) (by omega) (by omega) htab rfl ⟨[], _, _, rfl, rfl, rfl, by decide, by decide, fun _ h => nomatch h⟩ cl_RL_29 hC (fun _ => ?_)
  refine x_astore [_, _, _, _, _, _] C eL_lend_15 rfl rfl (nlt rfl) ?_
  refine x_iconst C eL_lend_17 ?_
  exact x_iret (by first | rfl | exact (narZ (by omega)).1) C F eL_lend_18 () rfl trivial (fun cf c h => h) (by omega) (by omega)
set_option maxRecDepth 100000 in
theorem wx_lend_2 {G : Gm} {l : Launch} (hK : KG G) {e oq : Nat} {x1 x2 x3 : Int32} {f : Nat → Int64} {d' mc' ms' : Nat} {P P' : List SA} (hM : MT G l yX7_lend cX7_lend 6 (some .int) d' mc' ms' [.ref e, .int x1, .int x2, .int x3] P "java/lang/IllegalArgumentException" P') (hC : va_Nw (Cond.castable "java/lang/IllegalArgumentException" "java/lang/IllegalArgumentException") G.1) (hN : va_Nc "java/lang/IllegalArgumentException" "java/lang/IndexOutOfBoundsException" G.1) (hr : ∀ cf c, WF (P ++ [arL G oq 1 f]) cf c → ∃ fs, c e = some (.inr (9, fs))) : MXW G l yL_lend cL_lend 6 (some .int) hL_lend (d' + 1) mc' ms' [.ref e, .int x1, .int x2, .int x3, .ref oq] (P ++ [arL G oq 1 f]) (fun _ : Unit => some (.int (zI 2))) (fun _ => True) (fun _ => P' ++ [arL G oq 1 f]) := by
  refine MXW_of (lv := [some (.ref e), some (.int x1), some (.int x2), some (.int x3), some (.ref oq), none]) hK (by decide +kernel) rfl (nle rfl) (fun X C F htab => ?_)
  have C : OKc G X l RL "lend" cL_lend 6 (some .int) (d' + 1) mc' ms' := C
  refine x_aload C eL_lend_0 rfl ?_
  refine x_iconst C eL_lend_2 ?_
  refine x_aload_n C eL_lend_3 rfl ?_
  refine x_iload_n C eL_lend_4 rfl ?_
  refine x_iload_n C eL_lend_5 rfl ?_
  refine x_iload_n C eL_lend_6 rfl ?_
  refine x_callVC (As := [.int x1, .int x2, .int x3]) [arL G oq 1 f] hL_lend 1 C hM v_X7_lend vv_X7_lend s_RL_95 hr eL_lend_7 rfl (fun _ _ h => h) rfl (nle rfl) (by omega) (by omega) (by omega) htab rfl ⟨[⟨0, 12, 15, 29⟩], _, _, rfl, rfl, rfl, by decide, by decide, fun z hz => by
      simp only [List.mem_cons, List.not_mem_nil, or_false] at hz
      subst hz
      exact ⟨by decide, "java/lang/IndexOutOfBoundsException", cl_RL_29, hN⟩⟩ cl_RL_19 hC (fun _ => ?_)
  refine x_astore [_, _, _, _, _, _] C eL_lend_19 rfl rfl (nlt rfl) ?_
  refine x_iconst C eL_lend_21 ?_
  exact x_iret (by first | rfl | exact (narZ (by omega)).1) C F eL_lend_22 () rfl trivial (fun cf c h => h) (by omega) (by omega)
set_option maxRecDepth 100000 in
theorem wx_recall_1 {G : Gm} {l : Launch} (hK : KG G) {e oq : Nat} {x1 : Int32} {f : Nat → Int64} {d' mc' ms' : Nat} {P P' : List SA} (hM : MT G l yX7_recall cX7_recall 4 (some .int) d' mc' ms' [.ref e, .int x1] P "java/lang/IndexOutOfBoundsException" P') (hC : va_Nw (Cond.castable "java/lang/IndexOutOfBoundsException" "java/lang/IndexOutOfBoundsException") G.1) (hr : ∀ cf c, WF (P ++ [arL G oq 1 f]) cf c → ∃ fs, c e = some (.inr (9, fs))) : MXW G l yL_recall cL_recall 4 (some .int) hL_recall (d' + 1) mc' ms' [.ref e, .int x1, .ref oq] (P ++ [arL G oq 1 f]) (fun _ : Unit => some (.int (zI 1))) (fun _ => True) (fun _ => P' ++ [arL G oq 1 f]) := by
  refine MXW_of (lv := [some (.ref e), some (.int x1), some (.ref oq), none]) hK (by decide +kernel) rfl (nle rfl) (fun X C F htab => ?_)
  have C : OKc G X l RL "recall" cL_recall 4 (some .int) (d' + 1) mc' ms' := C
  refine x_aload_n C eL_recall_0 rfl ?_
  refine x_iconst C eL_recall_1 ?_
  refine x_aload_n C eL_recall_2 rfl ?_
  refine x_iload_n C eL_recall_3 rfl ?_
  refine x_callVC (As := [.int x1]) [arL G oq 1 f] hL_recall 0 C hM v_X7_recall vv_X7_recall s_RL_98 hr eL_recall_4 rfl (fun _ _ h => h) rfl (nle rfl) (by omega) (by omega) (by omega) htab rfl ⟨[], _, _, rfl, rfl, rfl, by decide, by decide, fun _ h => nomatch h⟩ cl_RL_29 hC (fun _ => ?_)
  refine x_astore_n [_, _, _, _] C eL_recall_12 rfl rfl (nlt rfl) ?_
  refine x_iconst C eL_recall_13 ?_
  exact x_iret (by first | rfl | exact (narZ (by omega)).1) C F eL_recall_14 () rfl trivial (fun cf c h => h) (by omega) (by omega)
set_option maxRecDepth 100000 in
theorem wx_breakLine_1 {G : Gm} {l : Launch} (hK : KG G) {e oq : Nat} {x1 x2 : Int32} {f : Nat → Int64} {d' mc' ms' : Nat} {P P' : List SA} (hM : MT G l yX7_breakLine cX7_breakLine 5 (some .int) d' mc' ms' [.ref e, .int x1, .int x2] P "java/lang/IndexOutOfBoundsException" P') (hC : va_Nw (Cond.castable "java/lang/IndexOutOfBoundsException" "java/lang/IndexOutOfBoundsException") G.1) (hr : ∀ cf c, WF (P ++ [arL G oq 1 f]) cf c → ∃ fs, c e = some (.inr (9, fs))) : MXW G l yL_breakLine cL_breakLine 5 (some .int) hL_breakLine (d' + 1) mc' ms' [.ref e, .int x1, .int x2, .ref oq] (P ++ [arL G oq 1 f]) (fun _ : Unit => some (.int (zI 1))) (fun _ => True) (fun _ => P' ++ [arL G oq 1 f]) := by
  refine MXW_of (lv := [some (.ref e), some (.int x1), some (.int x2), some (.ref oq), none]) hK (by decide +kernel) rfl (nle rfl) (fun X C F htab => ?_)
  have C : OKc G X l RL "breakLine" cL_breakLine 5 (some .int) (d' + 1) mc' ms' := C
  refine x_aload_n C eL_breakLine_0 rfl ?_
  refine x_iconst C eL_breakLine_1 ?_
  refine x_aload_n C eL_breakLine_2 rfl ?_
  refine x_iload_n C eL_breakLine_3 rfl ?_
  refine x_iload_n C eL_breakLine_4 rfl ?_
  refine x_callVC (As := [.int x1, .int x2]) [arL G oq 1 f] hL_breakLine 0 C hM v_X7_breakLine vv_X7_breakLine s_RL_101 hr eL_breakLine_5 rfl (fun _ _ h => h) rfl (nle rfl) (by omega) (by omega) (by omega) htab rfl ⟨[], _, _, rfl, rfl, rfl, by decide, by decide, fun _ h => nomatch h⟩ cl_RL_29 hC (fun _ => ?_)
  refine x_astore [_, _, _, _, _] C eL_breakLine_13 rfl rfl (nlt rfl) ?_
  refine x_iconst C eL_breakLine_15 ?_
  exact x_iret (by first | rfl | exact (narZ (by omega)).1) C F eL_breakLine_16 () rfl trivial (fun cf c h => h) (by omega) (by omega)
set_option maxRecDepth 100000 in
theorem wx_breakLine_2 {G : Gm} {l : Launch} (hK : KG G) {e oq : Nat} {x1 x2 : Int32} {f : Nat → Int64} {d' mc' ms' : Nat} {P P' : List SA} (hM : MT G l yX7_breakLine cX7_breakLine 5 (some .int) d' mc' ms' [.ref e, .int x1, .int x2] P "java/lang/IllegalArgumentException" P') (hC : va_Nw (Cond.castable "java/lang/IllegalArgumentException" "java/lang/IllegalArgumentException") G.1) (hN : va_Nc "java/lang/IllegalArgumentException" "java/lang/IndexOutOfBoundsException" G.1) (hr : ∀ cf c, WF (P ++ [arL G oq 1 f]) cf c → ∃ fs, c e = some (.inr (9, fs))) : MXW G l yL_breakLine cL_breakLine 5 (some .int) hL_breakLine (d' + 1) mc' ms' [.ref e, .int x1, .int x2, .ref oq] (P ++ [arL G oq 1 f]) (fun _ : Unit => some (.int (zI 2))) (fun _ => True) (fun _ => P' ++ [arL G oq 1 f]) := by
  refine MXW_of (lv := [some (.ref e), some (.int x1), some (.int x2), some (.ref oq), none]) hK (by decide +kernel) rfl (nle rfl) (fun X C F htab => ?_)
  have C : OKc G X l RL "breakLine" cL_breakLine 5 (some .int) (d' + 1) mc' ms' := C
  refine x_aload_n C eL_breakLine_0 rfl ?_
  refine x_iconst C eL_breakLine_1 ?_
  refine x_aload_n C eL_breakLine_2 rfl ?_
  refine x_iload_n C eL_breakLine_3 rfl ?_
  refine x_iload_n C eL_breakLine_4 rfl ?_
  refine x_callVC (As := [.int x1, .int x2]) [arL G oq 1 f] hL_breakLine 1 C hM v_X7_breakLine vv_X7_breakLine s_RL_101 hr eL_breakLine_5 rfl (fun _ _ h => h) rfl (nle rfl) (by omega) (by omega) (by omega) htab rfl ⟨[⟨0, 10, 13, 29⟩], _, _, rfl, rfl, rfl, by decide, by decide, fun z hz => by
      simp only [List.mem_cons, List.not_mem_nil, or_false] at hz
      subst hz
      exact ⟨by decide, "java/lang/IndexOutOfBoundsException", cl_RL_29, hN⟩⟩ cl_RL_19 hC (fun _ => ?_)
  refine x_astore [_, _, _, _, _] C eL_breakLine_17 rfl rfl (nlt rfl) ?_
  refine x_iconst C eL_breakLine_19 ?_
  exact x_iret (by first | rfl | exact (narZ (by omega)).1) C F eL_breakLine_20 () rfl trivial (fun cf c h => h) (by omega) (by omega)
set_option maxRecDepth 100000 in
theorem wx_setPaused_1 {G : Gm} {l : Launch} (hK : KG G) {e oq : Nat} {x1 x2 : Int32} {f : Nat → Int64} {d' mc' ms' : Nat} {P P' : List SA} (hM : MT G l yX7_setPaused cX7_setPaused 5 (some .boolean) d' mc' ms' [.ref e, .int x1, .int x2] P "java/lang/IndexOutOfBoundsException" P') (hC : va_Nw (Cond.castable "java/lang/IndexOutOfBoundsException" "java/lang/IndexOutOfBoundsException") G.1) (hr : ∀ cf c, WF (P ++ [arL G oq 1 f]) cf c → ∃ fs, c e = some (.inr (9, fs))) : MXW G l yL_setPaused cL_setPaused 5 (some .int) hL_setPaused (d' + 1) mc' ms' [.ref e, .int x1, .int x2, .ref oq] (P ++ [arL G oq 1 f]) (fun _ : Unit => some (.int (zI 1))) (fun _ => True) (fun _ => P' ++ [arL G oq 1 f]) := by
  refine MXW_of (lv := [some (.ref e), some (.int x1), some (.int x2), some (.ref oq), none]) hK (by decide +kernel) rfl (nle rfl) (fun X C F htab => ?_)
  have C : OKc G X l RL "setPaused" cL_setPaused 5 (some .int) (d' + 1) mc' ms' := C
  refine x_aload_n C eL_setPaused_0 rfl ?_
  refine x_iconst C eL_setPaused_1 ?_
  refine x_aload_n C eL_setPaused_2 rfl ?_
  refine x_iload_n C eL_setPaused_3 rfl ?_
  refine x_iload_n C eL_setPaused_4 rfl ?_
  refine x_callVC (As := [.int x1, .int x2]) [arL G oq 1 f] hL_setPaused 0 C hM v_X7_setPaused vv_X7_setPaused s_RL_104 hr eL_setPaused_5 rfl (fun _ _ h => h) rfl (nle rfl) (by omega) (by omega) (by omega) htab rfl ⟨[], _, _, rfl, rfl, rfl, by decide, by decide, fun _ h => nomatch h⟩ cl_RL_29 hC (fun _ => ?_)
  refine x_astore [_, _, _, _, _] C eL_setPaused_20 rfl rfl (nlt rfl) ?_
  refine x_iconst C eL_setPaused_22 ?_
  exact x_iret (by first | rfl | exact (narZ (by omega)).1) C F eL_setPaused_23 () rfl trivial (fun cf c h => h) (by omega) (by omega)
set_option maxRecDepth 100000 in
theorem wx_setEcho_1 {G : Gm} {l : Launch} (hK : KG G) {e oq : Nat} {x1 x2 : Int32} {f : Nat → Int64} {d' mc' ms' : Nat} {P P' : List SA} (hM : MT G l yX7_setEcho cX7_setEcho 5 (some .int) d' mc' ms' [.ref e, .int x1, .int x2] P "java/lang/IndexOutOfBoundsException" P') (hC : va_Nw (Cond.castable "java/lang/IndexOutOfBoundsException" "java/lang/IndexOutOfBoundsException") G.1) (hr : ∀ cf c, WF (P ++ [arL G oq 1 f]) cf c → ∃ fs, c e = some (.inr (9, fs))) : MXW G l yL_setEcho cL_setEcho 5 (some .int) hL_setEcho (d' + 1) mc' ms' [.ref e, .int x1, .int x2, .ref oq] (P ++ [arL G oq 1 f]) (fun _ : Unit => some (.int (zI 1))) (fun _ => True) (fun _ => P' ++ [arL G oq 1 f]) := by
  refine MXW_of (lv := [some (.ref e), some (.int x1), some (.int x2), some (.ref oq), none]) hK (by decide +kernel) rfl (nle rfl) (fun X C F htab => ?_)
  have C : OKc G X l RL "setEcho" cL_setEcho 5 (some .int) (d' + 1) mc' ms' := C
  refine x_aload_n C eL_setEcho_0 rfl ?_
  refine x_iconst C eL_setEcho_1 ?_
  refine x_aload_n C eL_setEcho_2 rfl ?_
  refine x_iload_n C eL_setEcho_3 rfl ?_
  refine x_iload_n C eL_setEcho_4 rfl ?_
  refine x_callVC (As := [.int x1, .int x2]) [arL G oq 1 f] hL_setEcho 0 C hM v_X7_setEcho vv_X7_setEcho s_RL_108 hr eL_setEcho_5 rfl (fun _ _ h => h) rfl (nle rfl) (by omega) (by omega) (by omega) htab rfl ⟨[], _, _, rfl, rfl, rfl, by decide, by decide, fun _ h => nomatch h⟩ cl_RL_29 hC (fun _ => ?_)
  refine x_astore [_, _, _, _, _] C eL_setEcho_13 rfl rfl (nlt rfl) ?_
  refine x_iconst C eL_setEcho_15 ?_
  exact x_iret (by first | rfl | exact (narZ (by omega)).1) C F eL_setEcho_16 () rfl trivial (fun cf c h => h) (by omega) (by omega)
set_option maxRecDepth 100000 in
theorem wx_setEcho_2 {G : Gm} {l : Launch} (hK : KG G) {e oq : Nat} {x1 x2 : Int32} {f : Nat → Int64} {d' mc' ms' : Nat} {P P' : List SA} (hM : MT G l yX7_setEcho cX7_setEcho 5 (some .int) d' mc' ms' [.ref e, .int x1, .int x2] P "java/lang/IllegalArgumentException" P') (hC : va_Nw (Cond.castable "java/lang/IllegalArgumentException" "java/lang/IllegalArgumentException") G.1) (hN : va_Nc "java/lang/IllegalArgumentException" "java/lang/IndexOutOfBoundsException" G.1) (hr : ∀ cf c, WF (P ++ [arL G oq 1 f]) cf c → ∃ fs, c e = some (.inr (9, fs))) : MXW G l yL_setEcho cL_setEcho 5 (some .int) hL_setEcho (d' + 1) mc' ms' [.ref e, .int x1, .int x2, .ref oq] (P ++ [arL G oq 1 f]) (fun _ : Unit => some (.int (zI 2))) (fun _ => True) (fun _ => P' ++ [arL G oq 1 f]) := by
  refine MXW_of (lv := [some (.ref e), some (.int x1), some (.int x2), some (.ref oq), none]) hK (by decide +kernel) rfl (nle rfl) (fun X C F htab => ?_)
  have C : OKc G X l RL "setEcho" cL_setEcho 5 (some .int) (d' + 1) mc' ms' := C
  refine x_aload_n C eL_setEcho_0 rfl ?_
  refine x_iconst C eL_setEcho_1 ?_
  refine x_aload_n C eL_setEcho_2 rfl ?_
  refine x_iload_n C eL_setEcho_3 rfl ?_
  refine x_iload_n C eL_setEcho_4 rfl ?_
  refine x_callVC (As := [.int x1, .int x2]) [arL G oq 1 f] hL_setEcho 1 C hM v_X7_setEcho vv_X7_setEcho s_RL_108 hr eL_setEcho_5 rfl (fun _ _ h => h) rfl (nle rfl) (by omega) (by omega) (by omega) htab rfl ⟨[⟨0, 10, 13, 29⟩], _, _, rfl, rfl, rfl, by decide, by decide, fun z hz => by
      simp only [List.mem_cons, List.not_mem_nil, or_false] at hz
      subst hz
      exact ⟨by decide, "java/lang/IndexOutOfBoundsException", cl_RL_29, hN⟩⟩ cl_RL_19 hC (fun _ => ?_)
  refine x_astore [_, _, _, _, _] C eL_setEcho_17 rfl rfl (nlt rfl) ?_
  refine x_iconst C eL_setEcho_19 ?_
  exact x_iret (by first | rfl | exact (narZ (by omega)).1) C F eL_setEcho_20 () rfl trivial (fun cf c h => h) (by omega) (by omega)
set_option maxRecDepth 100000 in
theorem wx_setMarks_1 {G : Gm} {l : Launch} (hK : KG G) {e oq : Nat} {x1 x2 x3 : Int32} {f : Nat → Int64} {d' mc' ms' : Nat} {P P' : List SA} (hM : MT G l yX7_setMarks cX7_setMarks 6 (some .int) d' mc' ms' [.ref e, .int x1, .int x2, .int x3] P "java/lang/IndexOutOfBoundsException" P') (hC : va_Nw (Cond.castable "java/lang/IndexOutOfBoundsException" "java/lang/IndexOutOfBoundsException") G.1) (hr : ∀ cf c, WF (P ++ [arL G oq 1 f]) cf c → ∃ fs, c e = some (.inr (9, fs))) : MXW G l yL_setMarks cL_setMarks 6 (some .int) hL_setMarks (d' + 1) mc' ms' [.ref e, .int x1, .int x2, .int x3, .ref oq] (P ++ [arL G oq 1 f]) (fun _ : Unit => some (.int (zI 1))) (fun _ => True) (fun _ => P' ++ [arL G oq 1 f]) := by
  refine MXW_of (lv := [some (.ref e), some (.int x1), some (.int x2), some (.int x3), some (.ref oq), none]) hK (by decide +kernel) rfl (nle rfl) (fun X C F htab => ?_)
  have C : OKc G X l RL "setMarks" cL_setMarks 6 (some .int) (d' + 1) mc' ms' := C
  refine x_aload C eL_setMarks_0 rfl ?_
  refine x_iconst C eL_setMarks_2 ?_
  refine x_aload_n C eL_setMarks_3 rfl ?_
  refine x_iload_n C eL_setMarks_4 rfl ?_
  refine x_iload_n C eL_setMarks_5 rfl ?_
  refine x_iload_n C eL_setMarks_6 rfl ?_
  refine x_callVC (As := [.int x1, .int x2, .int x3]) [arL G oq 1 f] hL_setMarks 0 C hM v_X7_setMarks vv_X7_setMarks s_RL_111 hr eL_setMarks_7 rfl (fun _ _ h => h) rfl (nle rfl) (by omega) (by omega) (by omega) htab rfl ⟨[], _, _, rfl, rfl, rfl, by decide, by decide, fun _ h => nomatch h⟩ cl_RL_29 hC (fun _ => ?_)
  refine x_astore [_, _, _, _, _, _] C eL_setMarks_15 rfl rfl (nlt rfl) ?_
  refine x_iconst C eL_setMarks_17 ?_
  exact x_iret (by first | rfl | exact (narZ (by omega)).1) C F eL_setMarks_18 () rfl trivial (fun cf c h => h) (by omega) (by omega)
set_option maxRecDepth 100000 in
theorem wx_setMarks_2 {G : Gm} {l : Launch} (hK : KG G) {e oq : Nat} {x1 x2 x3 : Int32} {f : Nat → Int64} {d' mc' ms' : Nat} {P P' : List SA} (hM : MT G l yX7_setMarks cX7_setMarks 6 (some .int) d' mc' ms' [.ref e, .int x1, .int x2, .int x3] P "java/lang/IllegalArgumentException" P') (hC : va_Nw (Cond.castable "java/lang/IllegalArgumentException" "java/lang/IllegalArgumentException") G.1) (hN : va_Nc "java/lang/IllegalArgumentException" "java/lang/IndexOutOfBoundsException" G.1) (hr : ∀ cf c, WF (P ++ [arL G oq 1 f]) cf c → ∃ fs, c e = some (.inr (9, fs))) : MXW G l yL_setMarks cL_setMarks 6 (some .int) hL_setMarks (d' + 1) mc' ms' [.ref e, .int x1, .int x2, .int x3, .ref oq] (P ++ [arL G oq 1 f]) (fun _ : Unit => some (.int (zI 2))) (fun _ => True) (fun _ => P' ++ [arL G oq 1 f]) := by
  refine MXW_of (lv := [some (.ref e), some (.int x1), some (.int x2), some (.int x3), some (.ref oq), none]) hK (by decide +kernel) rfl (nle rfl) (fun X C F htab => ?_)
  have C : OKc G X l RL "setMarks" cL_setMarks 6 (some .int) (d' + 1) mc' ms' := C
  refine x_aload C eL_setMarks_0 rfl ?_
  refine x_iconst C eL_setMarks_2 ?_
  refine x_aload_n C eL_setMarks_3 rfl ?_
  refine x_iload_n C eL_setMarks_4 rfl ?_
  refine x_iload_n C eL_setMarks_5 rfl ?_
  refine x_iload_n C eL_setMarks_6 rfl ?_
  refine x_callVC (As := [.int x1, .int x2, .int x3]) [arL G oq 1 f] hL_setMarks 1 C hM v_X7_setMarks vv_X7_setMarks s_RL_111 hr eL_setMarks_7 rfl (fun _ _ h => h) rfl (nle rfl) (by omega) (by omega) (by omega) htab rfl ⟨[⟨0, 12, 15, 29⟩], _, _, rfl, rfl, rfl, by decide, by decide, fun z hz => by
      simp only [List.mem_cons, List.not_mem_nil, or_false] at hz
      subst hz
      exact ⟨by decide, "java/lang/IndexOutOfBoundsException", cl_RL_29, hN⟩⟩ cl_RL_19 hC (fun _ => ?_)
  refine x_astore [_, _, _, _, _, _] C eL_setMarks_19 rfl rfl (nlt rfl) ?_
  refine x_iconst C eL_setMarks_21 ?_
  exact x_iret (by first | rfl | exact (narZ (by omega)).1) C F eL_setMarks_22 () rfl trivial (fun cf c h => h) (by omega) (by omega)
set_option maxRecDepth 100000 in
theorem wx_setShare_1 {G : Gm} {l : Launch} (hK : KG G) {e oq : Nat} {x1 x2 : Int32} {f : Nat → Int64} {d' mc' ms' : Nat} {P P' : List SA} (hM : MT G l yX7_setShare cX7_setShare 5 (some .int) d' mc' ms' [.ref e, .int x1, .int x2] P "java/lang/IndexOutOfBoundsException" P') (hC : va_Nw (Cond.castable "java/lang/IndexOutOfBoundsException" "java/lang/IndexOutOfBoundsException") G.1) (hr : ∀ cf c, WF (P ++ [arL G oq 1 f]) cf c → ∃ fs, c e = some (.inr (9, fs))) : MXW G l yL_setShare cL_setShare 5 (some .int) hL_setShare (d' + 1) mc' ms' [.ref e, .int x1, .int x2, .ref oq] (P ++ [arL G oq 1 f]) (fun _ : Unit => some (.int (zI 1))) (fun _ => True) (fun _ => P' ++ [arL G oq 1 f]) := by
  refine MXW_of (lv := [some (.ref e), some (.int x1), some (.int x2), some (.ref oq), none]) hK (by decide +kernel) rfl (nle rfl) (fun X C F htab => ?_)
  have C : OKc G X l RL "setShare" cL_setShare 5 (some .int) (d' + 1) mc' ms' := C
  refine x_aload_n C eL_setShare_0 rfl ?_
  refine x_iconst C eL_setShare_1 ?_
  refine x_aload_n C eL_setShare_2 rfl ?_
  refine x_iload_n C eL_setShare_3 rfl ?_
  refine x_iload_n C eL_setShare_4 rfl ?_
  refine x_callVC (As := [.int x1, .int x2]) [arL G oq 1 f] hL_setShare 0 C hM v_X7_setShare vv_X7_setShare s_RL_114 hr eL_setShare_5 rfl (fun _ _ h => h) rfl (nle rfl) (by omega) (by omega) (by omega) htab rfl ⟨[], _, _, rfl, rfl, rfl, by decide, by decide, fun _ h => nomatch h⟩ cl_RL_29 hC (fun _ => ?_)
  refine x_astore [_, _, _, _, _] C eL_setShare_13 rfl rfl (nlt rfl) ?_
  refine x_iconst C eL_setShare_15 ?_
  exact x_iret (by first | rfl | exact (narZ (by omega)).1) C F eL_setShare_16 () rfl trivial (fun cf c h => h) (by omega) (by omega)
set_option maxRecDepth 100000 in
theorem wx_setShare_2 {G : Gm} {l : Launch} (hK : KG G) {e oq : Nat} {x1 x2 : Int32} {f : Nat → Int64} {d' mc' ms' : Nat} {P P' : List SA} (hM : MT G l yX7_setShare cX7_setShare 5 (some .int) d' mc' ms' [.ref e, .int x1, .int x2] P "java/lang/IllegalArgumentException" P') (hC : va_Nw (Cond.castable "java/lang/IllegalArgumentException" "java/lang/IllegalArgumentException") G.1) (hN : va_Nc "java/lang/IllegalArgumentException" "java/lang/IndexOutOfBoundsException" G.1) (hr : ∀ cf c, WF (P ++ [arL G oq 1 f]) cf c → ∃ fs, c e = some (.inr (9, fs))) : MXW G l yL_setShare cL_setShare 5 (some .int) hL_setShare (d' + 1) mc' ms' [.ref e, .int x1, .int x2, .ref oq] (P ++ [arL G oq 1 f]) (fun _ : Unit => some (.int (zI 2))) (fun _ => True) (fun _ => P' ++ [arL G oq 1 f]) := by
  refine MXW_of (lv := [some (.ref e), some (.int x1), some (.int x2), some (.ref oq), none]) hK (by decide +kernel) rfl (nle rfl) (fun X C F htab => ?_)
  have C : OKc G X l RL "setShare" cL_setShare 5 (some .int) (d' + 1) mc' ms' := C
  refine x_aload_n C eL_setShare_0 rfl ?_
  refine x_iconst C eL_setShare_1 ?_
  refine x_aload_n C eL_setShare_2 rfl ?_
  refine x_iload_n C eL_setShare_3 rfl ?_
  refine x_iload_n C eL_setShare_4 rfl ?_
  refine x_callVC (As := [.int x1, .int x2]) [arL G oq 1 f] hL_setShare 1 C hM v_X7_setShare vv_X7_setShare s_RL_114 hr eL_setShare_5 rfl (fun _ _ h => h) rfl (nle rfl) (by omega) (by omega) (by omega) htab rfl ⟨[⟨0, 10, 13, 29⟩], _, _, rfl, rfl, rfl, by decide, by decide, fun z hz => by
      simp only [List.mem_cons, List.not_mem_nil, or_false] at hz
      subst hz
      exact ⟨by decide, "java/lang/IndexOutOfBoundsException", cl_RL_29, hN⟩⟩ cl_RL_19 hC (fun _ => ?_)
  refine x_astore [_, _, _, _, _] C eL_setShare_17 rfl rfl (nlt rfl) ?_
  refine x_iconst C eL_setShare_19 ?_
  exact x_iret (by first | rfl | exact (narZ (by omega)).1) C F eL_setShare_20 () rfl trivial (fun cf c h => h) (by omega) (by omega)
set_option maxRecDepth 100000 in
theorem wx_keep_1 {G : Gm} {l : Launch} (hK : KG G) {e oq : Nat} {x1 : Int32} {f : Nat → Int64} {d' mc' ms' : Nat} {P P' : List SA} (hM : MT G l yX7_keep cX7_keep 3 (some .int) d' mc' ms' [.ref e, .int x1] P "java/lang/IndexOutOfBoundsException" P') (hC : va_Nw (Cond.castable "java/lang/IndexOutOfBoundsException" "java/lang/IndexOutOfBoundsException") G.1) (hr : ∀ cf c, WF (P ++ [arL G oq 1 f]) cf c → ∃ fs, c e = some (.inr (9, fs))) : MXW G l yL_keep cL_keep 4 (some .int) hL_keep (d' + 1) mc' ms' [.ref e, .int x1, .ref oq] (P ++ [arL G oq 1 f]) (fun _ : Unit => some (.int (zI 1))) (fun _ => True) (fun _ => P' ++ [arL G oq 1 f]) := by
  refine MXW_of (lv := [some (.ref e), some (.int x1), some (.ref oq), none]) hK (by decide +kernel) rfl (nle rfl) (fun X C F htab => ?_)
  have C : OKc G X l RL "keep" cL_keep 4 (some .int) (d' + 1) mc' ms' := C
  refine x_aload_n C eL_keep_0 rfl ?_
  refine x_iconst C eL_keep_1 ?_
  refine x_aload_n C eL_keep_2 rfl ?_
  refine x_iload_n C eL_keep_3 rfl ?_
  refine x_callVC (As := [.int x1]) [arL G oq 1 f] hL_keep 0 C hM v_X7_keep vv_X7_keep s_RL_117 hr eL_keep_4 rfl (fun _ _ h => h) rfl (nle rfl) (by omega) (by omega) (by omega) htab rfl ⟨[], _, _, rfl, rfl, rfl, by decide, by decide, fun _ h => nomatch h⟩ cl_RL_29 hC (fun _ => ?_)
  refine x_astore_n [_, _, _, _] C eL_keep_12 rfl rfl (nlt rfl) ?_
  refine x_iconst C eL_keep_13 ?_
  exact x_iret (by first | rfl | exact (narZ (by omega)).1) C F eL_keep_14 () rfl trivial (fun cf c h => h) (by omega) (by omega)
set_option maxRecDepth 100000 in
theorem wx_restore_1 {G : Gm} {l : Launch} (hK : KG G) {e oq : Nat} {x1 : Int32} {f : Nat → Int64} {d' mc' ms' : Nat} {P P' : List SA} (hM : MT G l yX7_restore cX7_restore 3 (some .int) d' mc' ms' [.ref e, .int x1] P "java/lang/IndexOutOfBoundsException" P') (hC : va_Nw (Cond.castable "java/lang/IndexOutOfBoundsException" "java/lang/IndexOutOfBoundsException") G.1) (hr : ∀ cf c, WF (P ++ [arL G oq 1 f]) cf c → ∃ fs, c e = some (.inr (9, fs))) : MXW G l yL_restore cL_restore 4 (some .int) hL_restore (d' + 1) mc' ms' [.ref e, .int x1, .ref oq] (P ++ [arL G oq 1 f]) (fun _ : Unit => some (.int (zI 1))) (fun _ => True) (fun _ => P' ++ [arL G oq 1 f]) := by
  refine MXW_of (lv := [some (.ref e), some (.int x1), some (.ref oq), none]) hK (by decide +kernel) rfl (nle rfl) (fun X C F htab => ?_)
  have C : OKc G X l RL "restore" cL_restore 4 (some .int) (d' + 1) mc' ms' := C
  refine x_aload_n C eL_restore_0 rfl ?_
  refine x_iconst C eL_restore_1 ?_
  refine x_aload_n C eL_restore_2 rfl ?_
  refine x_iload_n C eL_restore_3 rfl ?_
  refine x_callVC (As := [.int x1]) [arL G oq 1 f] hL_restore 0 C hM v_X7_restore vv_X7_restore s_RL_120 hr eL_restore_4 rfl (fun _ _ h => h) rfl (nle rfl) (by omega) (by omega) (by omega) htab rfl ⟨[], _, _, rfl, rfl, rfl, by decide, by decide, fun _ h => nomatch h⟩ cl_RL_29 hC (fun _ => ?_)
  refine x_astore_n [_, _, _, _] C eL_restore_12 rfl rfl (nlt rfl) ?_
  refine x_iconst C eL_restore_13 ?_
  exact x_iret (by first | rfl | exact (narZ (by omega)).1) C F eL_restore_14 () rfl trivial (fun cf c h => h) (by omega) (by omega)
set_option maxRecDepth 100000 in
theorem wx_restore_2 {G : Gm} {l : Launch} (hK : KG G) {e oq : Nat} {x1 : Int32} {f : Nat → Int64} {d' mc' ms' : Nat} {P P' : List SA} (hM : MT G l yX7_restore cX7_restore 3 (some .int) d' mc' ms' [.ref e, .int x1] P "java/lang/IllegalStateException" P') (hC : va_Nw (Cond.castable "java/lang/IllegalStateException" "java/lang/IllegalStateException") G.1) (hN : va_Nc "java/lang/IllegalStateException" "java/lang/IndexOutOfBoundsException" G.1) (hr : ∀ cf c, WF (P ++ [arL G oq 1 f]) cf c → ∃ fs, c e = some (.inr (9, fs))) : MXW G l yL_restore cL_restore 4 (some .int) hL_restore (d' + 1) mc' ms' [.ref e, .int x1, .ref oq] (P ++ [arL G oq 1 f]) (fun _ : Unit => some (.int (zI 2))) (fun _ => True) (fun _ => P' ++ [arL G oq 1 f]) := by
  refine MXW_of (lv := [some (.ref e), some (.int x1), some (.ref oq), none]) hK (by decide +kernel) rfl (nle rfl) (fun X C F htab => ?_)
  have C : OKc G X l RL "restore" cL_restore 4 (some .int) (d' + 1) mc' ms' := C
  refine x_aload_n C eL_restore_0 rfl ?_
  refine x_iconst C eL_restore_1 ?_
  refine x_aload_n C eL_restore_2 rfl ?_
  refine x_iload_n C eL_restore_3 rfl ?_
  refine x_callVC (As := [.int x1]) [arL G oq 1 f] hL_restore 1 C hM v_X7_restore vv_X7_restore s_RL_120 hr eL_restore_4 rfl (fun _ _ h => h) rfl (nle rfl) (by omega) (by omega) (by omega) htab rfl ⟨[⟨0, 9, 12, 29⟩], _, _, rfl, rfl, rfl, by decide, by decide, fun z hz => by
      simp only [List.mem_cons, List.not_mem_nil, or_false] at hz
      subst hz
      exact ⟨by decide, "java/lang/IndexOutOfBoundsException", cl_RL_29, hN⟩⟩ cl_RL_13 hC (fun _ => ?_)
  refine x_astore_n [_, _, _, _] C eL_restore_15 rfl rfl (nlt rfl) ?_
  refine x_iconst C eL_restore_16 ?_
  exact x_iret (by first | rfl | exact (narZ (by omega)).1) C F eL_restore_17 () rfl trivial (fun cf c h => h) (by omega) (by omega)
set_option maxRecDepth 100000 in
theorem wx_undo_1 {G : Gm} {l : Launch} (hK : KG G) {e oq : Nat} {f : Nat → Int64} {d' mc' ms' : Nat} {P P' : List SA} (hM : MT G l yX7_undo cX7_undo 2 (some .int) d' mc' ms' [.ref e] P "java/lang/IllegalStateException" P') (hC : va_Nw (Cond.castable "java/lang/IllegalStateException" "java/lang/IllegalStateException") G.1) (hr : ∀ cf c, WF (P ++ [arL G oq 1 f]) cf c → ∃ fs, c e = some (.inr (9, fs))) : MXW G l yL_undo cL_undo 3 (some .int) hL_undo (d' + 1) mc' ms' [.ref e, .ref oq] (P ++ [arL G oq 1 f]) (fun _ : Unit => some (.int (zI 1))) (fun _ => True) (fun _ => P' ++ [arL G oq 1 f]) := by
  refine MXW_of (lv := [some (.ref e), some (.ref oq), none]) hK (by decide +kernel) rfl (nle rfl) (fun X C F htab => ?_)
  have C : OKc G X l RL "undo" cL_undo 3 (some .int) (d' + 1) mc' ms' := C
  refine x_aload_n C eL_undo_0 rfl ?_
  refine x_iconst C eL_undo_1 ?_
  refine x_aload_n C eL_undo_2 rfl ?_
  refine x_callVC (As := []) [arL G oq 1 f] hL_undo 0 C hM v_X7_undo vv_X7_undo s_RL_123 hr eL_undo_3 rfl (fun _ _ h => h) rfl (nle rfl) (by omega) (by omega) (by omega) htab rfl ⟨[], _, _, rfl, rfl, rfl, by decide, by decide, fun _ h => nomatch h⟩ cl_RL_13 hC (fun _ => ?_)
  refine x_astore_n [_, _, _] C eL_undo_11 rfl rfl (nlt rfl) ?_
  refine x_iconst C eL_undo_12 ?_
  exact x_iret (by first | rfl | exact (narZ (by omega)).1) C F eL_undo_13 () rfl trivial (fun cf c h => h) (by omega) (by omega)
set_option maxRecDepth 100000 in
theorem wx_writeCounts_1 {G : Gm} {l : Launch} (hK : KG G) {e oq : Nat} {x1 : Int32} {f : Nat → Int64} {d' mc' ms' : Nat} {P P' : List SA} (hM : MT G l yX7_writeCounts cX7_writeCounts 3 (some .int) d' mc' ms' [.ref e, .int x1] P "java/lang/IndexOutOfBoundsException" P') (hC : va_Nw (Cond.castable "java/lang/IndexOutOfBoundsException" "java/lang/IndexOutOfBoundsException") G.1) (hr : ∀ cf c, WF (P ++ [arL G oq 1 f]) cf c → ∃ fs, c e = some (.inr (9, fs))) : MXW G l yL_writeCounts cL_writeCounts 4 (some .int) hL_writeCounts (d' + 1) mc' ms' [.ref e, .int x1, .ref oq] (P ++ [arL G oq 1 f]) (fun _ : Unit => some (.int (zI 1))) (fun _ => True) (fun _ => P' ++ [arL G oq 1 f]) := by
  refine MXW_of (lv := [some (.ref e), some (.int x1), some (.ref oq), none]) hK (by decide +kernel) rfl (nle rfl) (fun X C F htab => ?_)
  have C : OKc G X l RL "writeCounts" cL_writeCounts 4 (some .int) (d' + 1) mc' ms' := C
  refine x_aload_n C eL_writeCounts_0 rfl ?_
  refine x_iconst C eL_writeCounts_1 ?_
  refine x_aload_n C eL_writeCounts_2 rfl ?_
  refine x_iload_n C eL_writeCounts_3 rfl ?_
  refine x_callVC (As := [.int x1]) [arL G oq 1 f] hL_writeCounts 0 C hM v_X7_writeCounts vv_X7_writeCounts s_RL_127 hr eL_writeCounts_4 rfl (fun _ _ h => h) rfl (nle rfl) (by omega) (by omega) (by omega) htab rfl ⟨[], _, _, rfl, rfl, rfl, by decide, by decide, fun _ h => nomatch h⟩ cl_RL_29 hC (fun _ => ?_)
  refine x_astore_n [_, _, _, _] C eL_writeCounts_12 rfl rfl (nlt rfl) ?_
  refine x_iconst C eL_writeCounts_13 ?_
  exact x_iret (by first | rfl | exact (narZ (by omega)).1) C F eL_writeCounts_14 () rfl trivial (fun cf c h => h) (by omega) (by omega)
set_option maxRecDepth 100000 in
theorem wx_outputByte_1 {G : Gm} {l : Launch} (hK : KG G) {e oq : Nat} {x1 : Int32} {f : Nat → Int64} {d' mc' ms' : Nat} {P P' : List SA} (hM : MT G l yX7_outputByte cX7_outputByte 2 (some .int) d' mc' ms' [.ref e, .int x1] P "java/util/NoSuchElementException" P') (hC : va_Nw (Cond.castable "java/util/NoSuchElementException" "java/util/NoSuchElementException") G.1) (hr : ∀ cf c, WF (P ++ [arL G oq 1 f]) cf c → ∃ fs, c e = some (.inr (9, fs))) : MXW G l yL_outputByte cL_outputByte 4 (some .int) hL_outputByte (d' + 1) mc' ms' [.ref e, .int x1, .ref oq] (P ++ [arL G oq 1 f]) (fun _ : Unit => some (.int (zI 1))) (fun _ => True) (fun _ => P' ++ [arL G oq 1 f]) := by
  refine MXW_of (lv := [some (.ref e), some (.int x1), some (.ref oq), none]) hK (by decide +kernel) rfl (nle rfl) (fun X C F htab => ?_)
  have C : OKc G X l RL "outputByte" cL_outputByte 4 (some .int) (d' + 1) mc' ms' := C
  refine x_aload_n C eL_outputByte_0 rfl ?_
  refine x_iconst C eL_outputByte_1 ?_
  refine x_aload_n C eL_outputByte_2 rfl ?_
  refine x_iload_n C eL_outputByte_3 rfl ?_
  refine x_callVC (As := [.int x1]) [arL G oq 1 f] hL_outputByte 0 C hM v_X7_outputByte vv_X7_outputByte s_RL_130 hr eL_outputByte_4 rfl (fun _ _ h => h) rfl (nle rfl) (by omega) (by omega) (by omega) htab rfl ⟨[], _, _, rfl, rfl, rfl, by decide, by decide, fun _ h => nomatch h⟩ cl_RL_133 hC (fun _ => ?_)
  refine x_astore_n [_, _, _, _] C eL_outputByte_12 rfl rfl (nlt rfl) ?_
  refine x_iconst C eL_outputByte_13 ?_
  exact x_iret (by first | rfl | exact (narZ (by omega)).1) C F eL_outputByte_14 () rfl trivial (fun cf c h => h) (by omega) (by omega)
