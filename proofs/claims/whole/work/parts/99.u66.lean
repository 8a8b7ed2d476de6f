/-! No NaN comes up (names of the library stand in Jvm.FP.Core: the whole library is wanted). -/
theorem fq_ne {f : FP.Core.Fmt} {i j : Int} {x y : FP.Core.Datum} (hx : FP.Core.Whole i x) (hy : FP.Core.Whole j y) (hj : j ≠ 0) : FP.Core.quotient f x y ≠ .nan := by
  rw [ne_eq, FP.Core.quotient_nan]
  cases x with
  | nan => exact hx.elim
  | inf s => exact hx.elim
  | fin s c q =>
    cases y with
    | nan => exact hy.elim
    | inf s => exact hy.elim
    | fin t d r =>
      rintro (h | h | ⟨_, _, h, _⟩ | ⟨s', t', q', r', h1, h2⟩)
      · cases h
      · cases h
      · cases h
      · cases h2
        have h9 : FP.Core.signed t (0 * 2 ^ r.toNat) = j * ((2 ^ (-r).toNat : Nat) : Int) := hy
        have h0 : FP.Core.signed t (0 * 2 ^ r.toNat) = 0 := by cases t <;> simp [FP.Core.signed]
        rw [h0] at h9
        have h8 : (0 : Int) < ((2 ^ (-r).toNat : Nat) : Int) := by exact_mod_cast Nat.two_pow_pos _
        rcases Int.mul_eq_zero.mp h9.symm with z | z
        · exact hj z
        · omega
theorem FPok_pf : FPok := by
  refine ⟨fun a b h1 h2 h3 h4 => ?_, fun a b h1 h2 h3 h4 => ?_⟩
  · have ea : (zI a).toInt = a := zI_toInt ⟨by omega, by omega⟩
    have eb : (zI b).toInt = b := zI_toInt ⟨by omega, by omega⟩
    have ha := FP.Core.i2f_int (a := zI a) (by rw [ea]; omega)
    have hb := FP.Core.i2f_int (a := zI b) (by rw [eb]; omega)
    rw [ea] at ha
    rw [eb] at hb
    have hne : FP.Core.val32 (shV a b) ≠ .nan := by
      unfold shV
      rw [FP.Core.val32_fdiv]
      exact fq_ne ha hb (by omega)
    have hd : FP.Core.val64 (FP.f2d (shV a b)) ≠ .nan := fun z => by
      have h := (FP.Core.dIsNaN_iff _).mpr z
      have e : FP.f2d (shV a b) = FP.Core.f2d (shV a b) := if_neg (by rw [(FP.Core.notNaN_iff32 _).mpr hne]; decide)
      have h2 : FP.Core.dIsNaN (FP.f2d (shV a b)) = false := by rw [e]; exact FP.Core.f2d_out ((FP.Core.notNaN_iff32 (shV a b)).mpr hne)
      rw [h2] at h
      cases h
    refine ⟨?_, ?_, FP.Core.dcmp_self hd⟩
    · have h := (FP.Core.ne_nan32 _).mp hne
      unfold vf_n32
      rw [UInt32.le_iff_toNat_le, UInt32.toNat_and]
      simpa [Nat.and_two_pow_sub_one_eq_mod _ 31] using h
    · have h := (FP.Core.ne_nan _).mp hd
      unfold vf_n64
      rw [UInt64.le_iff_toNat_le, UInt64.toNat_and]
      simpa [Nat.and_two_pow_sub_one_eq_mod _ 63] using h
  · have ea : (zI a).toInt = a := zI_toInt ⟨by omega, by omega⟩
    have eb : (zI b).toInt = b := zI_toInt ⟨by omega, by omega⟩
    have ha := FP.Core.i2d_int (zI a)
    have hb := FP.Core.i2d_int (zI b)
    rw [ea] at ha
    rw [eb] at hb
    have hd : FP.Core.val64 (mwV a b) ≠ .nan := by
      unfold mwV
      rw [FP.Core.val64_ddiv]
      exact fq_ne ha hb (by omega)
    refine ⟨?_, FP.Core.dcmp_self hd⟩
    have h := (FP.Core.ne_nan _).mp hd
    unfold vf_n64
    rw [UInt64.le_iff_toNat_le, UInt64.toNat_and]
    simpa [Nat.and_two_pow_sub_one_eq_mod _ 63] using h
