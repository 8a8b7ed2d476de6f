/-! Texts: bytes in a row. -/
theorem u_ush (v : Int32) (s : Int) (h : s = 8 ∨ s = 16 ∨ s = 24) : ((v.toUInt32 >>> ((zI s).toUInt32 &&& Int32.toUInt32 31)).toInt32).toInt8 = (v >>> (zI s &&& 31)).toInt8 := by
  rcases h with rfl | rfl | rfl
  · apply Int8.toBitVec_inj.mp
    rw [Int32.toBitVec_toInt8, Int32.toBitVec_toInt8, Int32.toBitVec_shiftRight]
    have e1 : ((v.toUInt32 >>> ((zI 8).toUInt32 &&& Int32.toUInt32 31)).toInt32).toBitVec = v.toBitVec >>> 8 := by
      show (v.toUInt32 >>> ((zI 8).toUInt32 &&& Int32.toUInt32 31)).toBitVec = _
      rw [UInt32.toBitVec_shiftRight]; rfl
    rw [e1, show v.toBitVec.sshiftRight' ((zI 8 &&& 31).toBitVec.smod (32 : BitVec 32)) = v.toBitVec.sshiftRight 8 from rfl]
    apply BitVec.eq_of_getLsbD_eq
    intro i hi
    rw [BitVec.getLsbD_signExtend, BitVec.getLsbD_signExtend, BitVec.getLsbD_ushiftRight, BitVec.getLsbD_sshiftRight]
    have h1 : i < 32 := by omega
    have h2 : 8 + i < 32 := by omega
    simp [h1, h2, hi]
  · apply Int8.toBitVec_inj.mp
    rw [Int32.toBitVec_toInt8, Int32.toBitVec_toInt8, Int32.toBitVec_shiftRight]
    have e1 : ((v.toUInt32 >>> ((zI 16).toUInt32 &&& Int32.toUInt32 31)).toInt32).toBitVec = v.toBitVec >>> 16 := by
      show (v.toUInt32 >>> ((zI 16).toUInt32 &&& Int32.toUInt32 31)).toBitVec = _
      rw [UInt32.toBitVec_shiftRight]; rfl
    rw [e1, show v.toBitVec.sshiftRight' ((zI 16 &&& 31).toBitVec.smod (32 : BitVec 32)) = v.toBitVec.sshiftRight 16 from rfl]
    apply BitVec.eq_of_getLsbD_eq
    intro i hi
    rw [BitVec.getLsbD_signExtend, BitVec.getLsbD_signExtend, BitVec.getLsbD_ushiftRight, BitVec.getLsbD_sshiftRight]
    have h1 : i < 32 := by omega
    have h2 : 16 + i < 32 := by omega
    simp [h1, h2, hi]
  · apply Int8.toBitVec_inj.mp
    rw [Int32.toBitVec_toInt8, Int32.toBitVec_toInt8, Int32.toBitVec_shiftRight]
    have e1 : ((v.toUInt32 >>> ((zI 24).toUInt32 &&& Int32.toUInt32 31)).toInt32).toBitVec = v.toBitVec >>> 24 := by
      show (v.toUInt32 >>> ((zI 24).toUInt32 &&& Int32.toUInt32 31)).toBitVec = _
      rw [UInt32.toBitVec_shiftRight]; rfl
    rw [e1, show v.toBitVec.sshiftRight' ((zI 24 &&& 31).toBitVec.smod (32 : BitVec 32)) = v.toBitVec.sshiftRight 24 from rfl]
    apply BitVec.eq_of_getLsbD_eq
    intro i hi
    rw [BitVec.getLsbD_signExtend, BitVec.getLsbD_signExtend, BitVec.getLsbD_ushiftRight, BitVec.getLsbD_sshiftRight]
    have h1 : i < 32 := by omega
    have h2 : 24 + i < 32 := by omega
    simp [h1, h2, hi]
/-- the four bytes of a number, one behind the other -/
theorem apF_4 (F : Nat → Int) (z : Nat) (v : Int32) : up (up (up (up F z (((v.toUInt32 >>> ((zI 24).toUInt32 &&& Int32.toUInt32 31)).toInt32).toInt8.toInt32).toInt8.toInt) (z + 1) (((v.toUInt32 >>> ((zI 16).toUInt32 &&& Int32.toUInt32 31)).toInt32).toInt8.toInt32).toInt8.toInt) (z + 2) (((v.toUInt32 >>> ((zI 8).toUInt32 &&& Int32.toUInt32 31)).toInt32).toInt8.toInt32).toInt8.toInt) (z + 3) (v.toInt8.toInt32).toInt8.toInt = apF F z v 4 := by
  rw [u_ush v 24 (by decide), u_ush v 16 (by decide), u_ush v 8 (by decide)]
  show _ = up (up (up (up F (z + 0) (bt v 0)) (z + 1) (bt v 1)) (z + 2) (bt v 2)) (z + 3) (bt v 3)
  unfold bt
  have e3 : v >>> (zI (24 - 8 * ((3 : Nat) : Int)) &&& 31) = v := by
    rw [show (zI (24 - 8 * ((3 : Nat) : Int)) &&& 31 : Int32) = 0 by decide]
    apply Int32.toBitVec_inj.mp
    rw [Int32.toBitVec_shiftRight]
    simp
  rw [e3]
  rfl
