/-! outputByte where there is none. -/
set_option maxHeartbeats 4000000 in
set_option maxRecDepth 100000 in
theorem t_X7_outputByte_15 {G : Gm} {l : Launch} (hX : KX G) (hT0 : l.stackTraces = false) {e ip op t tr ps pa sl ob9 : Nat} {J : Nat → Int} {w : List Int} {i9 : Int} (hw : w.length ≤ 400) (hb1 : -2147483648 ≤ i9 ∧ i9 ≤ 2147483647) (hi : ¬ (0 ≤ i9 ∧ i9 < (w.length : Int))) : MT G l yX7_outputByte cX7_outputByte 2 (some .int) 7 1 6 [.ref e, .int (zI i9)] [ob e 9 (ecS ip op t tr ps pa sl) J, ob op 6 [some (.ref ob9), none] (fun _ => ((w).length : Int))] "java/util/NoSuchElementException" [ob e 9 (ecS ip op t tr ps pa sl) J, ob op 6 [some (.ref ob9), none] (fun _ => ((w).length : Int))] := by
  have hS : KS G := hX.1
  have hK : KG G := hS.1.1
  refine MT_of (lv := [some (.ref e), some (.int (zI i9))]) hK (by decide +kernel) rfl (nle rfl) (fun X C F => ?_)
  have C : OKc G X l RX7 "outputByte" cX7_outputByte 2 (some .int) 7 1 6 := C
  refine x_iload_n C eX7_outputByte_0 rfl ?_
  refine x_if_lt 15 C eX7_outputByte_1 rfl (by omega) (fun h1 => ?_) (fun h1 => ?_)
  · exact x_throwN hX hT0 C F eX7_outputByte_15 eX7_outputByte_18 eX7_outputByte_19 eX7_outputByte_21 eX7_outputByte_24 xl_189 rfl (nle rfl) (nle rfl) (nle rfl) (nle rfl) (fun _ _ h => WF_pick [0, 1] rfl rfl h)
  · refine x_iload_n C eX7_outputByte_4 rfl ?_
    refine x_aload_n C eX7_outputByte_5 rfl ?_
    refine x_getR 0 C f_RX7_16 eX7_outputByte_6 rfl rfl ?_
    refine x_getI 1 C f_RX7_49 eX7_outputByte_9 rfl rfl ?_
    try simp (disch := decide) only [up_s, up_n, tkI_2, tkI_3, tkI_4, tkI_5, tkI_6, tkI_7, tkI_8, lnI_1, lnI_2, lnI_3, lnI_4, lnI_5, lnI_10, lnI_11, lnI_12, lnI_13, lnI_14, lnI_15]
    refine x_icmp_lt 25 C eX7_outputByte_12 rfl (by omega) (by omega) (fun h12 => ?_) (fun h12 => ?_)
    · exfalso; omega
    · exact x_throwN hX hT0 C F eX7_outputByte_15 eX7_outputByte_18 eX7_outputByte_19 eX7_outputByte_21 eX7_outputByte_24 xl_189 rfl (nle rfl) (nle rfl) (nle rfl) (nle rfl) (fun _ _ h => WF_pick [0, 1] rfl rfl h)
