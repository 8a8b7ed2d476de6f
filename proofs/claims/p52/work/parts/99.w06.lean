/-! The law's small methods: what they do to numbers. -/
theorem and_pos (a : Int32) : 0 ≤ (a &&& zI 2147483647).toInt := by
  have e : (a &&& zI 2147483647).toBitVec = a.toBitVec &&& (zI 2147483647).toBitVec := Int32.toBitVec_and _ _
  have hm : (zI 2147483647).toBitVec.msb = false := by decide
  have hz : (a.toBitVec &&& (zI 2147483647).toBitVec).msb = false := by rw [BitVec.msb_and, hm, Bool.and_false]
  show 0 ≤ (a &&& zI 2147483647).toBitVec.toInt
  rw [e, BitVec.toInt_eq_msb_cond, hz]
  simp
/-- what the law draws out of its script -/
def drw (L : Nat) (xs : Nat → Int32) (k n : Int) : Int := ((if k < (L : Int) then xs k.toNat else zI 0) &&& zI 2147483647).toInt % n
theorem drw_r {L : Nat} {xs : Nat → Int32} {k n : Int} (h : 0 < n) : 0 ≤ drw L xs k n ∧ drw L xs k n < n := ⟨Int.emod_nonneg _ (by omega), Int.emod_lt_of_pos _ h⟩
/-- the script -/
def SC (G : Gm) (b L : Nat) (xs : Nat → Int32) : Prop := va_X b L xs G.1 G.1.heap ∧ b < G.1.heap.size ∧ L ≤ 260
/-! sets of lines -/
def msk (n : Net) (w : Int) : Nat → Nat
  | 0 => 0
  | k + 1 => msk n w k + if 0 < n k w then 2 ^ k else 0
theorem or_step : ∀ k : Fin 6, ∀ M : Fin 64, (M : Nat) < 2 ^ (k : Nat) → zI ((M : Nat) : Int) ||| (zI 1 <<< (zI ((k : Nat) : Int) &&& 31)) = zI (((M : Nat) + 2 ^ (k : Nat) : Nat) : Int) := by decide +kernel
theorem or_none : ∀ M : Fin 64, zI ((M : Nat) : Int) ||| zI 0 = zI ((M : Nat) : Int) := by decide +kernel
theorem msk_lt (n : Net) (w : Int) : ∀ k : Nat, msk n w k < 2 ^ k
  | 0 => Nat.zero_lt_one
  | k + 1 => by
    have h := msk_lt n w k
    show msk n w k + _ < 2 ^ (k + 1)
    rw [Nat.pow_succ]
    split <;> omega
theorem thoseV_msk (n : Net) (w : Int) : ∀ k : Nat, k ≤ 6 → thoseV n w k = zI ((msk n w k : Nat) : Int)
  | 0, _ => rfl
  | k + 1, hk => by
    have ih := thoseV_msk n w k (by omega)
    have h := msk_lt n w k
    have h6 : msk n w k < 64 := Nat.lt_of_lt_of_le h (Nat.pow_le_pow_right (by decide) (show k ≤ 6 by omega))
    show thoseV n w k ||| _ = zI ((msk n w k + _ : Nat) : Int)
    rw [ih]
    by_cases c : 0 < n k w
    · rw [if_pos c, if_pos c]
      exact or_step ⟨k, by omega⟩ ⟨msk n w k, h6⟩ h
    · rw [if_neg c, if_neg c]
      exact or_none ⟨msk n w k, h6⟩
theorem bit_at : ∀ M : Fin 64, ∀ l : Fin 6, (zI ((M : Nat) : Int) >>> (zI ((l : Nat) : Int) &&& 31)) &&& zI 1 = zI (((M : Nat) / 2 ^ (l : Nat) % 2 : Nat) : Int) := by decide +kernel
theorem msk_bit (n : Net) (w : Int) {m l : Nat} (hl : l < m) : msk n w m / 2 ^ l % 2 = if 0 < n l w then 1 else 0 := by
  induction m with
  | zero => omega
  | succ m ih =>
    have hlt := msk_lt n w m
    show (msk n w m + _) / 2 ^ l % 2 = _
    by_cases e : l = m
    · subst e
      have hp : 0 < 2 ^ l := Nat.pow_pos (by decide)
      split
      · rw [Nat.add_div_right _ hp, Nat.div_eq_of_lt hlt]
      · rw [Nat.add_zero, Nat.div_eq_of_lt hlt]
    · have ih9 := ih (by omega)
      rw [← ih9]
      split
      · obtain ⟨d, rfl⟩ : ∃ d, m = l + 1 + d := ⟨m - l - 1, by omega⟩
        rw [show 2 ^ (l + 1 + d) = 2 ^ l * (2 * 2 ^ d) by rw [Nat.pow_add, Nat.pow_succ]; exact Nat.mul_assoc _ _ _, Nat.add_mul_div_left _ _ (Nat.pow_pos (by decide)), Nat.add_mul_mod_self_left]
      · rw [Nat.add_zero]
theorem those_bit {n : Net} {w l9 : Int} {m : Nat} (hm : m ≤ 6) (hl : 0 ≤ l9 ∧ l9 < (m : Int)) : (thoseV n w m >>> (zI l9 &&& 31)) &&& zI 1 = zI (bz (0 < n l9 w)) := by
  obtain ⟨l, rfl⟩ := Int.eq_ofNat_of_zero_le hl.1
  have h6 : msk n w m < 64 := Nat.lt_of_lt_of_le (msk_lt n w m) (Nat.pow_le_pow_right (by decide) hm)
  rw [thoseV_msk n w m hm]
  have h1 := bit_at ⟨msk n w m, h6⟩ ⟨l, by omega⟩
  refine h1.trans ?_
  show zI ((msk n w m / 2 ^ l % 2 : Nat) : Int) = _
  rw [msk_bit n w (by omega)]
  unfold bz
  split <;> rfl
theorem msk_one {n : Net} {w : Int} {x : Nat} (hx : ∀ j : Nat, 0 < n j w ↔ j = x) : ∀ m : Nat, msk n w m = if x < m then 2 ^ x else 0
  | 0 => by rw [if_neg (by omega)]; rfl
  | m + 1 => by
    show msk n w m + _ = _
    rw [msk_one hx m]
    by_cases e : m = x
    · subst e
      rw [if_neg (by omega), if_pos ((hx m).mpr rfl), if_pos (by omega), Nat.zero_add]
    · rw [if_neg (fun z => e ((hx m).mp z)), Nat.add_zero]
      by_cases c : x < m
      · rw [if_pos c, if_pos (by omega)]
      · rw [if_neg c, if_neg (by omega)]
theorem msk_none {n : Net} {w : Int} (hx : ∀ j : Nat, ¬ 0 < n j w) : ∀ m : Nat, msk n w m = 0
  | 0 => rfl
  | m + 1 => by
    show msk n w m + _ = _
    rw [msk_none hx m, if_neg (hx m)]
theorem shl_one : ∀ k : Fin 6, zI 1 <<< (zI ((k : Nat) : Int) &&& 31) = zI ((2 ^ (k : Nat) : Nat) : Int) := by decide +kernel
/-! four letters in a number -/
def chr (w : List Int) (a : Int) : Int := w.getD a.toNat 0
def fvk (w : List Int) (a : Int) : Nat → Int
  | 0 => 0
  | j + 1 => 256 * fvk w a j + chr w (a + j)
theorem shl8 {V : Int} (h : 0 ≤ V ∧ V < 8388608) : zI V <<< (zI 8 &&& 31) = zI (256 * V) := by
  obtain ⟨v, rfl⟩ := Int.eq_ofNat_of_zero_le h.1
  have h1 := pk_shlN (n := v) (zI 8 &&& 31) 8 (by decide) (by omega)
  unfold nI at h1
  rw [zI_ofNat, zI_ofNat] at h1
  rw [h1]
  congr 1
  omega
theorem or8 {A c : Int} (hA : 0 ≤ A) (hc : 0 ≤ c ∧ c < 256) : zI (256 * A) ||| zI c = zI (256 * A + c) := by
  obtain ⟨a, rfl⟩ := Int.eq_ofNat_of_zero_le hA
  obtain ⟨d, rfl⟩ := Int.eq_ofNat_of_zero_le hc.1
  have e : 2 ^ 8 * a + d = 2 ^ 8 * a ||| d := Nat.two_pow_add_eq_or_of_lt (by omega) a
  have h1 : Int32.ofNat (2 ^ 8 * a) ||| Int32.ofNat d = Int32.ofNat (2 ^ 8 * a ||| d) := by
    apply Int32.toBitVec_inj.mp
    rw [Int32.toBitVec_or]
    show BitVec.ofNat 32 (2 ^ 8 * a) ||| BitVec.ofNat 32 d = BitVec.ofNat 32 (2 ^ 8 * a ||| d)
    rw [BitVec.ofNat_or]
  rw [← e, zI_ofNat, zI_ofNat, zI_ofNat] at h1
  have e1 : ((2 ^ 8 * a : Nat) : Int) = 256 * (a : Int) := by omega
  have e2 : ((2 ^ 8 * a + d : Nat) : Int) = 256 * (a : Int) + (d : Int) := by omega
  rw [e1, e2] at h1
  exact h1
theorem shr_k {V : Int} (h : 0 ≤ V ∧ V < 2147483648) (j : Nat) (hj : j < 4) : zI V >>> (zI (24 - 8 * (j : Int)) &&& 31) = zI (V / (2 ^ (24 - 8 * j) : Nat)) := by
  obtain ⟨v, rfl⟩ := Int.eq_ofNat_of_zero_le h.1
  have h1 := pk_shrN (n := v) (by omega) (zI (24 - 8 * (j : Int)) &&& 31) (24 - 8 * j) (by
    have h0 : ∀ k : Fin 4, ((zI (24 - 8 * ((k : Nat) : Int)) &&& 31).toBitVec.smod 32).toNat = 24 - 8 * (k : Nat) := by decide +kernel
    exact h0 ⟨j, hj⟩)
  unfold nI at h1
  rw [zI_ofNat, zI_ofNat] at h1
  rw [h1]
  rfl
theorem i8_m {A c : Int} (hA : bI (256 * A + c)) (hc : 0 ≤ c ∧ c < 128) : ((zI (256 * A + c)).toInt8.toInt32).toInt8.toInt = c := by
  have e : (256 * A + c) % ((256 : Nat) : Int) = c := by omega
  have e2 : c % ((256 : Nat) : Int) = c := by omega
  have b1 : Int.bmod (256 * A + c) 256 = c := by
    unfold Int.bmod
    rw [e]
    dsimp only
    rw [if_pos (by omega)]
  have b2 : Int.bmod c 256 = c := by
    unfold Int.bmod
    rw [e2]
    dsimp only
    rw [if_pos (by omega)]
  have h1 : (zI (256 * A + c)).toInt8.toInt = c := by
    rw [Int32.toInt_toInt8, zI_toInt hA]
    exact b1
  rw [Int32.toInt_toInt8, Int8.toInt_toInt32, h1]
  exact b2
theorem fvk_r {w : List Int} (hw : ∀ x ∈ w, 0 ≤ x ∧ x < 128) (a : Int) : (0 ≤ fvk w a 1 ∧ fvk w a 1 ≤ 127) ∧ (0 ≤ fvk w a 2 ∧ fvk w a 2 ≤ 32639) ∧ (0 ≤ fvk w a 3 ∧ fvk w a 3 ≤ 8355711) ∧ 0 ≤ fvk w a 4 ∧ fvk w a 4 ≤ 2139062143 := by
  have h := fun i => getD_r hw i
  have h0 := h (a + (0 : Nat)).toNat
  have h1 := h (a + (1 : Nat)).toNat
  have h2 := h (a + (2 : Nat)).toNat
  have h3 := h (a + (3 : Nat)).toNat
  unfold fvk fvk fvk fvk fvk chr
  omega
theorem bt_fv {w : List Int} (hw : ∀ x ∈ w, 0 ≤ x ∧ x < 128) (a : Int) (j : Nat) (hj : j < 4) : bt (zI (fvk w a 4)) j = chr w (a + j) := by
  have hr := fvk_r hw a
  have hc : ∀ i : Nat, 0 ≤ chr w (a + i) ∧ chr w (a + i) < 128 := fun i => getD_r hw _
  unfold bt
  rw [shr_k (by omega) j hj]
  have s1 : fvk w a 1 = 256 * fvk w a 0 + chr w (a + (0 : Nat)) := rfl
  have s2 : fvk w a 2 = 256 * fvk w a 1 + chr w (a + (1 : Nat)) := rfl
  have s3 : fvk w a 3 = 256 * fvk w a 2 + chr w (a + (2 : Nat)) := rfl
  have s4 : fvk w a 4 = 256 * fvk w a 3 + chr w (a + (3 : Nat)) := rfl
  have z0 : fvk w a 0 = 0 := rfl
  have c0 := hc 0
  have c1 := hc 1
  have c2 := hc 2
  have c3 := hc 3
  have key : ∀ i : Nat, i < 4 → fvk w a 4 / ((2 ^ (24 - 8 * i) : Nat) : Int) = 256 * fvk w a i + chr w (a + i) := by
    intro i hi
    match i, hi with
    | 0, _ => show fvk w a 4 / 16777216 = _; omega
    | 1, _ => show fvk w a 4 / 65536 = _; omega
    | 2, _ => show fvk w a 4 / 256 = _; omega
    | 3, _ => show fvk w a 4 / 1 = _; omega
  rw [key j hj]
  have hz : 0 ≤ fvk w a j ∧ fvk w a j ≤ 8355711 := by
    match j, hj with
    | 0, _ => omega
    | 1, _ => omega
    | 2, _ => omega
    | 3, _ => omega
  have := hc j
  exact i8_m ⟨by omega, by omega⟩ (hc j)
