/-! The rules of the walk, an instruction each: laid by program (wip/whole/gen/rules.py) over the kit's rows. -/
theorem zI_ne0 {a b : Int} (hs : (0 ≤ a ∧ a < 2147483648) ∧ 0 < b ∧ b < 2147483648) : ¬ zI b = 0 := by
  rw [zI_0, zI_eq ⟨by omega, by omega⟩ ⟨by omega, by omega⟩]
  omega
theorem zI_div {a b : Int} (hs : (0 ≤ a ∧ a < 2147483648) ∧ 0 < b ∧ b < 2147483648) : zI a / zI b = zI (a / b) := by
  unfold zI
  rw [← Int.tdiv_eq_ediv_of_nonneg hs.1.1, Int32.ofInt_tdiv (by show -2147483648 ≤ a; omega) (by show a ≤ 2147483647; omega) (by show -2147483648 ≤ b; omega) (by show b ≤ 2147483647; omega)]
theorem zI_rem {a b : Int} (hs : (0 ≤ a ∧ a < 2147483648) ∧ 0 < b ∧ b < 2147483648) : zI (a - a / b * b) = zI (a % b) := by
  congr 1
  have h := Int.emod_add_mul_ediv a b
  rw [Int.mul_comm] at h
  omega
theorem zL_toInt {n : Int} (h : bI n) : (zL n).toInt = n := Int64.toInt_ofInt_of_le (by have := h.1; omega) (by have := h.2; omega)
theorem zI_i2l {a : Int} (h : -2147483648 ≤ a ∧ a < 2147483648) : (zI a).toInt64 = zL a := by
  rw [← Int64.toInt_inj, Int32.toInt_toInt64, zI_toInt h, zL_toInt h]
theorem zL_cmp {a b : Int} (ha : bI a) (hb : bI b) : (a < b → lg_cmp (zL a) (zL b) = -1) ∧ (a = b → lg_cmp (zL a) (zL b) = 0) ∧ (b < a → lg_cmp (zL a) (zL b) = 1) := by
  have h1 : zL b < zL a ↔ b < a := by rw [Int64.lt_iff_toInt_lt, zL_toInt ha, zL_toInt hb]
  have h2 : zL a < zL b ↔ a < b := by rw [Int64.lt_iff_toInt_lt, zL_toInt ha, zL_toInt hb]
  have h3 : zL a = zL b ↔ a = b := by rw [← Int64.toInt_inj, zL_toInt ha, zL_toInt hb]
  refine ⟨fun q => ?_, fun q => ?_, fun q => ?_⟩
  · simp only [lg_cmp, h1, h3, show ¬ b < a by omega, show ¬ a = b by omega, if_false]
  · subst q
    simp [lg_cmp]
  · simp only [lg_cmp, h1, q, if_true]
theorem zI_i2c {a : Int} (h : 0 ≤ a ∧ a < 65536) : ((zI a).toUInt32 % 65536).toInt32 = zI a := by
  obtain ⟨n, rfl⟩ := Int.eq_ofNat_of_zero_le h.1
  have hn : n < 65536 := by omega
  have e : zI (n : Int) = (UInt32.ofNat n).toInt32 := by
    rw [← zI_ofNat]
    rfl
  rw [e]
  congr 1
  apply UInt32.toNat_inj.mp
  show (UInt32.ofNat n % 65536).toNat = _
  rw [UInt32.toNat_mod]
  refine Nat.mod_eq_of_lt ?_
  show (UInt32.ofNat n).toNat < 65536
  rw [UInt32.toNat_ofNat_of_lt' (show n < 4294967296 by omega)]
  exact hn
section Rules
variable {G : Gm} {X : Cx} {l : Launch} {own nm : String} {cc : ByteArray} {nL : Nat} {ret : Option FieldType} {d mc ms : Nat} {k n : Nat} {ws ws' : List SA} {pc pc' pc1 len : Nat} {lv lv' : List (Option Value)} {st : List Value}
theorem x_iconst {i : Int} (C : OKc G X l own nm cc nL ret d mc ms) (D : dx cc pc (.iconst i) 1 pc')  (K : WX G X k n ws pc' lv (.int (zI i) :: st)) : WX G X k n ws pc lv (st) := by
  obtain ⟨p, l, e, R, s, m, args, below, meth, c0, cf, Q⟩ := X
  obtain ⟨hx, rfl, rfl, hb, hml, hown, hts, hK, hvm, hlk, hret, hnm⟩ := C
  obtain ⟨D1, rfl⟩ := D
  exact fun H locs ls c h1 h2 h3 h4 => lv_iconst hx hb D1 rfl (K H locs ls c h1 h2 h3 h4)

theorem x_bipush {i : Int} (C : OKc G X l own nm cc nL ret d mc ms) (D : dx cc pc (.bipush i) 2 pc') (hv : (Int8.ofInt i).toInt32 = zI i) (K : WX G X k n ws pc' lv (.int (zI i) :: st)) : WX G X k n ws pc lv (st) := by
  obtain ⟨p, l, e, R, s, m, args, below, meth, c0, cf, Q⟩ := X
  obtain ⟨hx, rfl, rfl, hb, hml, hown, hts, hK, hvm, hlk, hret, hnm⟩ := C
  obtain ⟨D1, rfl⟩ := D
  exact fun H locs ls c h1 h2 h3 h4 => lv_bipush hx hb D1 hv (K H locs ls c h1 h2 h3 h4)

theorem x_sipush {i : Int} (C : OKc G X l own nm cc nL ret d mc ms) (D : dx cc pc (.sipush i) 3 pc') (hv : (Int16.ofInt i).toInt32 = zI i) (K : WX G X k n ws pc' lv (.int (zI i) :: st)) : WX G X k n ws pc lv (st) := by
  obtain ⟨p, l, e, R, s, m, args, below, meth, c0, cf, Q⟩ := X
  obtain ⟨hx, rfl, rfl, hb, hml, hown, hts, hK, hvm, hlk, hret, hnm⟩ := C
  obtain ⟨D1, rfl⟩ := D
  exact fun H locs ls c h1 h2 h3 h4 => lv_sipush hx hb D1 hv (K H locs ls c h1 h2 h3 h4)

theorem x_lconst {i : Fin 2} {v : Int} (C : OKc G X l own nm cc nL ret d mc ms) (D : dx cc pc (.lconst i) 1 pc') (hv : Int64.ofNat (i : Nat) = zL v) (K : WX G X k n ws pc' lv (.long (zL v) :: st)) : WX G X k n ws pc lv (st) := by
  obtain ⟨p, l, e, R, s, m, args, below, meth, c0, cf, Q⟩ := X
  obtain ⟨hx, rfl, rfl, hb, hml, hown, hts, hK, hvm, hlk, hret, hnm⟩ := C
  obtain ⟨D1, rfl⟩ := D
  exact fun H locs ls c h1 h2 h3 h4 => lv_lconst hx hb D1 hv (K H locs ls c h1 h2 h3 h4)

theorem x_null  (C : OKc G X l own nm cc nL ret d mc ms) (D : dx cc pc (.aconst_null) 1 pc')  (K : WX G X k n ws pc' lv (.null :: st)) : WX G X k n ws pc lv (st) := by
  obtain ⟨p, l, e, R, s, m, args, below, meth, c0, cf, Q⟩ := X
  obtain ⟨hx, rfl, rfl, hb, hml, hown, hts, hK, hvm, hlk, hret, hnm⟩ := C
  obtain ⟨D1, rfl⟩ := D
  exact fun H locs ls c h1 h2 h3 h4 => lv_null hx hb D1 (K H locs ls c h1 h2 h3 h4)

theorem x_fconst0  (C : OKc G X l own nm cc nL ret d mc ms) (D : dx cc pc (.fconst 0) 1 pc')  (K : WX G X k n ws pc' lv (.float 0 :: st)) : WX G X k n ws pc lv (st) := by
  obtain ⟨p, l, e, R, s, m, args, below, meth, c0, cf, Q⟩ := X
  obtain ⟨hx, rfl, rfl, hb, hml, hown, hts, hK, hvm, hlk, hret, hnm⟩ := C
  obtain ⟨D1, rfl⟩ := D
  exact fun H locs ls c h1 h2 h3 h4 => lv_fconst0 hx hb D1 (K H locs ls c h1 h2 h3 h4)

theorem x_dconst0  (C : OKc G X l own nm cc nL ret d mc ms) (D : dx cc pc (.dconst 0) 1 pc')  (K : WX G X k n ws pc' lv (.double 0 :: st)) : WX G X k n ws pc lv (st) := by
  obtain ⟨p, l, e, R, s, m, args, below, meth, c0, cf, Q⟩ := X
  obtain ⟨hx, rfl, rfl, hb, hml, hown, hts, hK, hvm, hlk, hret, hnm⟩ := C
  obtain ⟨D1, rfl⟩ := D
  exact fun H locs ls c h1 h2 h3 h4 => lv_dconst0 hx hb D1 (K H locs ls c h1 h2 h3 h4)

theorem x_iload_n {j : Fin 4} {x : Int32} (C : OKc G X l own nm cc nL ret d mc ms) (D : dx cc pc (.iload_n j) 1 pc') (hl : lv[(j : Nat)]? = some (some (.int x))) (K : WX G X k n ws pc' lv (.int x :: st)) : WX G X k n ws pc lv (st) := by
  obtain ⟨p, l, e, R, s, m, args, below, meth, c0, cf, Q⟩ := X
  obtain ⟨hx, rfl, rfl, hb, hml, hown, hts, hK, hvm, hlk, hret, hnm⟩ := C
  obtain ⟨D1, rfl⟩ := D
  exact fun H locs ls c h1 h2 h3 h4 => lv_iload_n hx hb D1 rfl (h4.2.2 _ _ hl) (K H locs ls c h1 h2 h3 h4)

theorem x_iload {j : Nat} {x : Int32} (C : OKc G X l own nm cc nL ret d mc ms) (D : dx cc pc (.iload j) 2 pc') (hl : lv[j]? = some (some (.int x))) (K : WX G X k n ws pc' lv (.int x :: st)) : WX G X k n ws pc lv (st) := by
  obtain ⟨p, l, e, R, s, m, args, below, meth, c0, cf, Q⟩ := X
  obtain ⟨hx, rfl, rfl, hb, hml, hown, hts, hK, hvm, hlk, hret, hnm⟩ := C
  obtain ⟨D1, rfl⟩ := D
  exact fun H locs ls c h1 h2 h3 h4 => lv_iload hx hb D1 (h4.2.2 _ _ hl) (K H locs ls c h1 h2 h3 h4)

theorem x_lload_n {j : Fin 4} {x : Int64} (C : OKc G X l own nm cc nL ret d mc ms) (D : dx cc pc (.lload_n j) 1 pc') (hl : lv[(j : Nat)]? = some (some (.long x))) (K : WX G X k n ws pc' lv (.long x :: st)) : WX G X k n ws pc lv (st) := by
  obtain ⟨p, l, e, R, s, m, args, below, meth, c0, cf, Q⟩ := X
  obtain ⟨hx, rfl, rfl, hb, hml, hown, hts, hK, hvm, hlk, hret, hnm⟩ := C
  obtain ⟨D1, rfl⟩ := D
  exact fun H locs ls c h1 h2 h3 h4 => lv_lload_n hx hb D1 rfl (h4.2.2 _ _ hl) (K H locs ls c h1 h2 h3 h4)

theorem x_lload {j : Nat} {x : Int64} (C : OKc G X l own nm cc nL ret d mc ms) (D : dx cc pc (.lload j) 2 pc') (hl : lv[j]? = some (some (.long x))) (K : WX G X k n ws pc' lv (.long x :: st)) : WX G X k n ws pc lv (st) := by
  obtain ⟨p, l, e, R, s, m, args, below, meth, c0, cf, Q⟩ := X
  obtain ⟨hx, rfl, rfl, hb, hml, hown, hts, hK, hvm, hlk, hret, hnm⟩ := C
  obtain ⟨D1, rfl⟩ := D
  exact fun H locs ls c h1 h2 h3 h4 => lv_lload hx hb D1 (h4.2.2 _ _ hl) (K H locs ls c h1 h2 h3 h4)

theorem x_aload_n {j : Fin 4} {x : Nat} (C : OKc G X l own nm cc nL ret d mc ms) (D : dx cc pc (.aload_n j) 1 pc') (hl : lv[(j : Nat)]? = some (some (.ref x))) (K : WX G X k n ws pc' lv (.ref x :: st)) : WX G X k n ws pc lv (st) := by
  obtain ⟨p, l, e, R, s, m, args, below, meth, c0, cf, Q⟩ := X
  obtain ⟨hx, rfl, rfl, hb, hml, hown, hts, hK, hvm, hlk, hret, hnm⟩ := C
  obtain ⟨D1, rfl⟩ := D
  exact fun H locs ls c h1 h2 h3 h4 => lv_aload_n hx hb D1 rfl (h4.2.2 _ _ hl) (K H locs ls c h1 h2 h3 h4)

theorem x_aload {j : Nat} {x : Nat} (C : OKc G X l own nm cc nL ret d mc ms) (D : dx cc pc (.aload j) 2 pc') (hl : lv[j]? = some (some (.ref x))) (K : WX G X k n ws pc' lv (.ref x :: st)) : WX G X k n ws pc lv (st) := by
  obtain ⟨p, l, e, R, s, m, args, below, meth, c0, cf, Q⟩ := X
  obtain ⟨hx, rfl, rfl, hb, hml, hown, hts, hK, hvm, hlk, hret, hnm⟩ := C
  obtain ⟨D1, rfl⟩ := D
  exact fun H locs ls c h1 h2 h3 h4 => lv_aload hx hb D1 (h4.2.2 _ _ hl) (K H locs ls c h1 h2 h3 h4)

theorem x_fload_n {j : Fin 4} {x : UInt32} (C : OKc G X l own nm cc nL ret d mc ms) (D : dx cc pc (.fload_n j) 1 pc') (hl : lv[(j : Nat)]? = some (some (.float x))) (K : WX G X k n ws pc' lv (.float x :: st)) : WX G X k n ws pc lv (st) := by
  obtain ⟨p, l, e, R, s, m, args, below, meth, c0, cf, Q⟩ := X
  obtain ⟨hx, rfl, rfl, hb, hml, hown, hts, hK, hvm, hlk, hret, hnm⟩ := C
  obtain ⟨D1, rfl⟩ := D
  exact fun H locs ls c h1 h2 h3 h4 => lv_fload_n hx hb D1 rfl (h4.2.2 _ _ hl) (K H locs ls c h1 h2 h3 h4)

theorem x_fload {j : Nat} {x : UInt32} (C : OKc G X l own nm cc nL ret d mc ms) (D : dx cc pc (.fload j) 2 pc') (hl : lv[j]? = some (some (.float x))) (K : WX G X k n ws pc' lv (.float x :: st)) : WX G X k n ws pc lv (st) := by
  obtain ⟨p, l, e, R, s, m, args, below, meth, c0, cf, Q⟩ := X
  obtain ⟨hx, rfl, rfl, hb, hml, hown, hts, hK, hvm, hlk, hret, hnm⟩ := C
  obtain ⟨D1, rfl⟩ := D
  exact fun H locs ls c h1 h2 h3 h4 => lv_fload hx hb D1 (h4.2.2 _ _ hl) (K H locs ls c h1 h2 h3 h4)

theorem x_dload_n {j : Fin 4} {x : UInt64} (C : OKc G X l own nm cc nL ret d mc ms) (D : dx cc pc (.dload_n j) 1 pc') (hl : lv[(j : Nat)]? = some (some (.double x))) (K : WX G X k n ws pc' lv (.double x :: st)) : WX G X k n ws pc lv (st) := by
  obtain ⟨p, l, e, R, s, m, args, below, meth, c0, cf, Q⟩ := X
  obtain ⟨hx, rfl, rfl, hb, hml, hown, hts, hK, hvm, hlk, hret, hnm⟩ := C
  obtain ⟨D1, rfl⟩ := D
  exact fun H locs ls c h1 h2 h3 h4 => lv_dload_n hx hb D1 rfl (h4.2.2 _ _ hl) (K H locs ls c h1 h2 h3 h4)

theorem x_dload {j : Nat} {x : UInt64} (C : OKc G X l own nm cc nL ret d mc ms) (D : dx cc pc (.dload j) 2 pc') (hl : lv[j]? = some (some (.double x))) (K : WX G X k n ws pc' lv (.double x :: st)) : WX G X k n ws pc lv (st) := by
  obtain ⟨p, l, e, R, s, m, args, below, meth, c0, cf, Q⟩ := X
  obtain ⟨hx, rfl, rfl, hb, hml, hown, hts, hK, hvm, hlk, hret, hnm⟩ := C
  obtain ⟨D1, rfl⟩ := D
  exact fun H locs ls c h1 h2 h3 h4 => lv_dload hx hb D1 (h4.2.2 _ _ hl) (K H locs ls c h1 h2 h3 h4)

theorem x_aloadN_n {j : Fin 4} (C : OKc G X l own nm cc nL ret d mc ms) (D : dx cc pc (.aload_n j) 1 pc') (hl : lv[(j : Nat)]? = some (some .null)) (K : WX G X k n ws pc' lv (.null :: st)) : WX G X k n ws pc lv (st) := by
  obtain ⟨p, l, e, R, s, m, args, below, meth, c0, cf, Q⟩ := X
  obtain ⟨hx, rfl, rfl, hb, hml, hown, hts, hK, hvm, hlk, hret, hnm⟩ := C
  obtain ⟨D1, rfl⟩ := D
  exact fun H locs ls c h1 h2 h3 h4 => lv_aload_nN hx hb D1 rfl (h4.2.2 _ _ hl) (K H locs ls c h1 h2 h3 h4)

theorem x_aloadN {j : Nat} (C : OKc G X l own nm cc nL ret d mc ms) (D : dx cc pc (.aload j) 2 pc') (hl : lv[j]? = some (some .null)) (K : WX G X k n ws pc' lv (.null :: st)) : WX G X k n ws pc lv (st) := by
  obtain ⟨p, l, e, R, s, m, args, below, meth, c0, cf, Q⟩ := X
  obtain ⟨hx, rfl, rfl, hb, hml, hown, hts, hK, hvm, hlk, hret, hnm⟩ := C
  obtain ⟨D1, rfl⟩ := D
  exact fun H locs ls c h1 h2 h3 h4 => lv_aloadN hx hb D1 (h4.2.2 _ _ hl) (K H locs ls c h1 h2 h3 h4)

theorem x_istore_n {j : Fin 4} {x : Int32} (lv' : List (Option Value)) (C : OKc G X l own nm cc nL ret d mc ms) (D : dx cc pc (.istore_n j) 1 pc') (hl : lv.set ((j : Nat)) (some (.int x)) = lv') (hc : c1 lv ((j : Nat)) = true) (hn : ((j : Nat)) < lv.length) (K : WX G X k n ws pc' lv' st) : WX G X k n ws pc lv (.int x :: st) := by
  obtain ⟨p, l, e, R, s, m, args, below, meth, c0, cf, Q⟩ := X
  obtain ⟨hx, rfl, rfl, hb, hml, hown, hts, hK, hvm, hlk, hret, hnm⟩ := C
  obtain ⟨D1, rfl⟩ := D
  exact fun H locs ls c h1 h2 h3 h4 => lv_istore_n hx hb D1 rfl (lx_has h4) hn rfl (fun ls' hl' => K H locs ls' c h1 h2 h3 (lx_store1 hl' hl hc))

theorem x_istore {j : Nat} {x : Int32} (lv' : List (Option Value)) (C : OKc G X l own nm cc nL ret d mc ms) (D : dx cc pc (.istore j) 2 pc') (hl : lv.set (j) (some (.int x)) = lv') (hc : c1 lv (j) = true) (hn : (j) < lv.length) (K : WX G X k n ws pc' lv' st) : WX G X k n ws pc lv (.int x :: st) := by
  obtain ⟨p, l, e, R, s, m, args, below, meth, c0, cf, Q⟩ := X
  obtain ⟨hx, rfl, rfl, hb, hml, hown, hts, hK, hvm, hlk, hret, hnm⟩ := C
  obtain ⟨D1, rfl⟩ := D
  exact fun H locs ls c h1 h2 h3 h4 => lv_istore hx hb D1 (lx_has h4) hn rfl (fun ls' hl' => K H locs ls' c h1 h2 h3 (lx_store1 hl' hl hc))

theorem x_lstore_n {j : Fin 4} {x : Int64} (lv' : List (Option Value)) (C : OKc G X l own nm cc nL ret d mc ms) (D : dx cc pc (.lstore_n j) 1 pc') (hl : (lv.set ((j : Nat)) (some (.long x))).set ((j : Nat) + 1) none = lv') (hc : c1 lv ((j : Nat)) = true) (hn : ((j : Nat) + 1) < lv.length) (K : WX G X k n ws pc' lv' st) : WX G X k n ws pc lv (.long x :: st) := by
  obtain ⟨p, l, e, R, s, m, args, below, meth, c0, cf, Q⟩ := X
  obtain ⟨hx, rfl, rfl, hb, hml, hown, hts, hK, hvm, hlk, hret, hnm⟩ := C
  obtain ⟨D1, rfl⟩ := D
  exact fun H locs ls c h1 h2 h3 h4 => lv_lstore_n hx hb D1 rfl (lx_has h4) hn rfl (fun ls' hl' => K H locs ls' c h1 h2 h3 (lx_store2 hl' hl hc))

theorem x_lstore {j : Nat} {x : Int64} (lv' : List (Option Value)) (C : OKc G X l own nm cc nL ret d mc ms) (D : dx cc pc (.lstore j) 2 pc') (hl : (lv.set (j) (some (.long x))).set (j + 1) none = lv') (hc : c1 lv (j) = true) (hn : (j + 1) < lv.length) (K : WX G X k n ws pc' lv' st) : WX G X k n ws pc lv (.long x :: st) := by
  obtain ⟨p, l, e, R, s, m, args, below, meth, c0, cf, Q⟩ := X
  obtain ⟨hx, rfl, rfl, hb, hml, hown, hts, hK, hvm, hlk, hret, hnm⟩ := C
  obtain ⟨D1, rfl⟩ := D
  exact fun H locs ls c h1 h2 h3 h4 => lv_lstore hx hb D1 (lx_has h4) hn rfl (fun ls' hl' => K H locs ls' c h1 h2 h3 (lx_store2 hl' hl hc))

theorem x_astore_n {j : Fin 4} {x : Nat} (lv' : List (Option Value)) (C : OKc G X l own nm cc nL ret d mc ms) (D : dx cc pc (.astore_n j) 1 pc') (hl : lv.set ((j : Nat)) (some (.ref x)) = lv') (hc : c1 lv ((j : Nat)) = true) (hn : ((j : Nat)) < lv.length) (K : WX G X k n ws pc' lv' st) : WX G X k n ws pc lv (.ref x :: st) := by
  obtain ⟨p, l, e, R, s, m, args, below, meth, c0, cf, Q⟩ := X
  obtain ⟨hx, rfl, rfl, hb, hml, hown, hts, hK, hvm, hlk, hret, hnm⟩ := C
  obtain ⟨D1, rfl⟩ := D
  exact fun H locs ls c h1 h2 h3 h4 => lv_astore_n hx hb D1 rfl (lx_has h4) hn rfl (fun ls' hl' => K H locs ls' c h1 h2 h3 (lx_store1 hl' hl hc))

theorem x_astore {j : Nat} {x : Nat} (lv' : List (Option Value)) (C : OKc G X l own nm cc nL ret d mc ms) (D : dx cc pc (.astore j) 2 pc') (hl : lv.set (j) (some (.ref x)) = lv') (hc : c1 lv (j) = true) (hn : (j) < lv.length) (K : WX G X k n ws pc' lv' st) : WX G X k n ws pc lv (.ref x :: st) := by
  obtain ⟨p, l, e, R, s, m, args, below, meth, c0, cf, Q⟩ := X
  obtain ⟨hx, rfl, rfl, hb, hml, hown, hts, hK, hvm, hlk, hret, hnm⟩ := C
  obtain ⟨D1, rfl⟩ := D
  exact fun H locs ls c h1 h2 h3 h4 => lv_astore hx hb D1 (lx_has h4) hn rfl (fun ls' hl' => K H locs ls' c h1 h2 h3 (lx_store1 hl' hl hc))

theorem x_fstore_n {j : Fin 4} {x : UInt32} (lv' : List (Option Value)) (C : OKc G X l own nm cc nL ret d mc ms) (D : dx cc pc (.fstore_n j) 1 pc') (hl : lv.set ((j : Nat)) (some (.float x)) = lv') (hc : c1 lv ((j : Nat)) = true) (hn : ((j : Nat)) < lv.length) (K : WX G X k n ws pc' lv' st) : WX G X k n ws pc lv (.float x :: st) := by
  obtain ⟨p, l, e, R, s, m, args, below, meth, c0, cf, Q⟩ := X
  obtain ⟨hx, rfl, rfl, hb, hml, hown, hts, hK, hvm, hlk, hret, hnm⟩ := C
  obtain ⟨D1, rfl⟩ := D
  exact fun H locs ls c h1 h2 h3 h4 => lv_fstore_n hx hb D1 rfl (lx_has h4) hn rfl (fun ls' hl' => K H locs ls' c h1 h2 h3 (lx_store1 hl' hl hc))

theorem x_fstore {j : Nat} {x : UInt32} (lv' : List (Option Value)) (C : OKc G X l own nm cc nL ret d mc ms) (D : dx cc pc (.fstore j) 2 pc') (hl : lv.set (j) (some (.float x)) = lv') (hc : c1 lv (j) = true) (hn : (j) < lv.length) (K : WX G X k n ws pc' lv' st) : WX G X k n ws pc lv (.float x :: st) := by
  obtain ⟨p, l, e, R, s, m, args, below, meth, c0, cf, Q⟩ := X
  obtain ⟨hx, rfl, rfl, hb, hml, hown, hts, hK, hvm, hlk, hret, hnm⟩ := C
  obtain ⟨D1, rfl⟩ := D
  exact fun H locs ls c h1 h2 h3 h4 => lv_fstore hx hb D1 (lx_has h4) hn rfl (fun ls' hl' => K H locs ls' c h1 h2 h3 (lx_store1 hl' hl hc))

theorem x_dstore_n {j : Fin 4} {x : UInt64} (lv' : List (Option Value)) (C : OKc G X l own nm cc nL ret d mc ms) (D : dx cc pc (.dstore_n j) 1 pc') (hl : (lv.set ((j : Nat)) (some (.double x))).set ((j : Nat) + 1) none = lv') (hc : c1 lv ((j : Nat)) = true) (hn : ((j : Nat) + 1) < lv.length) (K : WX G X k n ws pc' lv' st) : WX G X k n ws pc lv (.double x :: st) := by
  obtain ⟨p, l, e, R, s, m, args, below, meth, c0, cf, Q⟩ := X
  obtain ⟨hx, rfl, rfl, hb, hml, hown, hts, hK, hvm, hlk, hret, hnm⟩ := C
  obtain ⟨D1, rfl⟩ := D
  exact fun H locs ls c h1 h2 h3 h4 => lv_dstore_n hx hb D1 rfl (lx_has h4) hn rfl (fun ls' hl' => K H locs ls' c h1 h2 h3 (lx_store2 hl' hl hc))

theorem x_dstore {j : Nat} {x : UInt64} (lv' : List (Option Value)) (C : OKc G X l own nm cc nL ret d mc ms) (D : dx cc pc (.dstore j) 2 pc') (hl : (lv.set (j) (some (.double x))).set (j + 1) none = lv') (hc : c1 lv (j) = true) (hn : (j + 1) < lv.length) (K : WX G X k n ws pc' lv' st) : WX G X k n ws pc lv (.double x :: st) := by
  obtain ⟨p, l, e, R, s, m, args, below, meth, c0, cf, Q⟩ := X
  obtain ⟨hx, rfl, rfl, hb, hml, hown, hts, hK, hvm, hlk, hret, hnm⟩ := C
  obtain ⟨D1, rfl⟩ := D
  exact fun H locs ls c h1 h2 h3 h4 => lv_dstore hx hb D1 (lx_has h4) hn rfl (fun ls' hl' => K H locs ls' c h1 h2 h3 (lx_store2 hl' hl hc))

theorem x_astoreN_n {j : Fin 4} (lv' : List (Option Value)) (C : OKc G X l own nm cc nL ret d mc ms) (D : dx cc pc (.astore_n j) 1 pc') (hl : lv.set ((j : Nat)) (some (.null)) = lv') (hc : c1 lv ((j : Nat)) = true) (hn : ((j : Nat)) < lv.length) (K : WX G X k n ws pc' lv' st) : WX G X k n ws pc lv (.null :: st) := by
  obtain ⟨p, l, e, R, s, m, args, below, meth, c0, cf, Q⟩ := X
  obtain ⟨hx, rfl, rfl, hb, hml, hown, hts, hK, hvm, hlk, hret, hnm⟩ := C
  obtain ⟨D1, rfl⟩ := D
  exact fun H locs ls c h1 h2 h3 h4 => lv_astore_nN hx hb D1 rfl (lx_has h4) hn rfl (fun ls' hl' => K H locs ls' c h1 h2 h3 (lx_store1 hl' hl hc))

theorem x_astoreN {j : Nat} (lv' : List (Option Value)) (C : OKc G X l own nm cc nL ret d mc ms) (D : dx cc pc (.astore j) 2 pc') (hl : lv.set (j) (some (.null)) = lv') (hc : c1 lv (j) = true) (hn : (j) < lv.length) (K : WX G X k n ws pc' lv' st) : WX G X k n ws pc lv (.null :: st) := by
  obtain ⟨p, l, e, R, s, m, args, below, meth, c0, cf, Q⟩ := X
  obtain ⟨hx, rfl, rfl, hb, hml, hown, hts, hK, hvm, hlk, hret, hnm⟩ := C
  obtain ⟨D1, rfl⟩ := D
  exact fun H locs ls c h1 h2 h3 h4 => lv_astoreN hx hb D1 (lx_has h4) hn rfl (fun ls' hl' => K H locs ls' c h1 h2 h3 (lx_store1 hl' hl hc))

theorem x_iinc {j : Nat} {i x : Int} (lv' : List (Option Value)) (C : OKc G X l own nm cc nL ret d mc ms) (D : dx cc pc (.iinc j i) 3 pc') (hx0 : lv[j]? = some (some (.int (zI x)))) (hl : lv.set j (some (.int (zI (x + i)))) = lv') (hc : c1 lv j = true) (K : WX G X k n ws pc' lv' st) : WX G X k n ws pc lv st := by
  obtain ⟨p, l, e, R, s, m, args, below, meth, c0, cf, Q⟩ := X
  obtain ⟨hx, rfl, rfl, hb, hml, hown, hts, hK, hvm, hlk, hret, hnm⟩ := C
  obtain ⟨D1, rfl⟩ := D
  have hn : j < lv.length := (List.getElem?_eq_some_iff.mp hx0).1
  refine fun H locs ls c h1 h2 h3 h4 => ?_
  obtain ⟨q, hq⟩ := List.getElem?_of_mem ((lxL_mem lv 0 (j, Value.int (zI x))).mpr ⟨Nat.zero_le _, by simpa using hx0⟩)
  exact lv_iinc hx hb D1 (lx_has h4) hq (by rw [← zI_add]; rfl) hn rfl (fun ls' hl' => K H locs ls' c h1 h2 h3 (lx_store1 hl' hl hc))

theorem x_iadd {a b : Int} (C : OKc G X l own nm cc nL ret d mc ms) (D : dx cc pc (.iadd) 1 pc')  (K : WX G X k n ws pc' lv (.int (zI (a + b)) :: st)) : WX G X k n ws pc lv (.int (zI b) :: .int (zI a) :: st) := by
  obtain ⟨p, l, e, R, s, m, args, below, meth, c0, cf, Q⟩ := X
  obtain ⟨hx, rfl, rfl, hb, hml, hown, hts, hK, hvm, hlk, hret, hnm⟩ := C
  obtain ⟨D1, rfl⟩ := D
  exact fun H locs ls c h1 h2 h3 h4 => lv_iadd hx hb D1 (by rw [zI_add]; exact (K H locs ls c h1 h2 h3 h4))

theorem x_isub {a b : Int} (C : OKc G X l own nm cc nL ret d mc ms) (D : dx cc pc (.isub) 1 pc')  (K : WX G X k n ws pc' lv (.int (zI (a - b)) :: st)) : WX G X k n ws pc lv (.int (zI b) :: .int (zI a) :: st) := by
  obtain ⟨p, l, e, R, s, m, args, below, meth, c0, cf, Q⟩ := X
  obtain ⟨hx, rfl, rfl, hb, hml, hown, hts, hK, hvm, hlk, hret, hnm⟩ := C
  obtain ⟨D1, rfl⟩ := D
  exact fun H locs ls c h1 h2 h3 h4 => lv_isub hx hb D1 (by rw [zI_sub]; exact (K H locs ls c h1 h2 h3 h4))

theorem x_imul {a b : Int} (C : OKc G X l own nm cc nL ret d mc ms) (D : dx cc pc (.imul) 1 pc')  (K : WX G X k n ws pc' lv (.int (zI (a * b)) :: st)) : WX G X k n ws pc lv (.int (zI b) :: .int (zI a) :: st) := by
  obtain ⟨p, l, e, R, s, m, args, below, meth, c0, cf, Q⟩ := X
  obtain ⟨hx, rfl, rfl, hb, hml, hown, hts, hK, hvm, hlk, hret, hnm⟩ := C
  obtain ⟨D1, rfl⟩ := D
  exact fun H locs ls c h1 h2 h3 h4 => lv_imul hx hb D1 (by rw [zI_mul]; exact (K H locs ls c h1 h2 h3 h4))

theorem x_idiv {a b : Int} (C : OKc G X l own nm cc nL ret d mc ms) (D : dx cc pc (.idiv) 1 pc') (hs : (0 ≤ a ∧ a < 2147483648) ∧ 0 < b ∧ b < 2147483648) (K : WX G X k n ws pc' lv (.int (zI (a / b)) :: st)) : WX G X k n ws pc lv (.int (zI b) :: .int (zI a) :: st) := by
  obtain ⟨p, l, e, R, s, m, args, below, meth, c0, cf, Q⟩ := X
  obtain ⟨hx, rfl, rfl, hb, hml, hown, hts, hK, hvm, hlk, hret, hnm⟩ := C
  obtain ⟨D1, rfl⟩ := D
  exact fun H locs ls c h1 h2 h3 h4 => lv_idiv hx hb D1 (zI_ne0 hs) (by rw [zI_div hs]; exact (K H locs ls c h1 h2 h3 h4))

theorem x_irem {a b : Int} (C : OKc G X l own nm cc nL ret d mc ms) (D : dx cc pc (.irem) 1 pc') (hs : (0 ≤ a ∧ a < 2147483648) ∧ 0 < b ∧ b < 2147483648) (K : WX G X k n ws pc' lv (.int (zI (a % b)) :: st)) : WX G X k n ws pc lv (.int (zI b) :: .int (zI a) :: st) := by
  obtain ⟨p, l, e, R, s, m, args, below, meth, c0, cf, Q⟩ := X
  obtain ⟨hx, rfl, rfl, hb, hml, hown, hts, hK, hvm, hlk, hret, hnm⟩ := C
  obtain ⟨D1, rfl⟩ := D
  exact fun H locs ls c h1 h2 h3 h4 => lv_irem hx hb D1 (zI_ne0 hs) (by rw [zI_div hs, zI_mul, zI_sub, zI_rem hs]; exact (K H locs ls c h1 h2 h3 h4))

theorem x_iandR {a b : Int32} (C : OKc G X l own nm cc nL ret d mc ms) (D : dx cc pc (.iand) 1 pc')  (K : WX G X k n ws pc' lv (.int (a &&& b) :: st)) : WX G X k n ws pc lv (.int b :: .int a :: st) := by
  obtain ⟨p, l, e, R, s, m, args, below, meth, c0, cf, Q⟩ := X
  obtain ⟨hx, rfl, rfl, hb, hml, hown, hts, hK, hvm, hlk, hret, hnm⟩ := C
  obtain ⟨D1, rfl⟩ := D
  exact fun H locs ls c h1 h2 h3 h4 => lv_iand hx hb D1 (K H locs ls c h1 h2 h3 h4)

theorem x_iorR {a b : Int32} (C : OKc G X l own nm cc nL ret d mc ms) (D : dx cc pc (.ior) 1 pc')  (K : WX G X k n ws pc' lv (.int (a ||| b) :: st)) : WX G X k n ws pc lv (.int b :: .int a :: st) := by
  obtain ⟨p, l, e, R, s, m, args, below, meth, c0, cf, Q⟩ := X
  obtain ⟨hx, rfl, rfl, hb, hml, hown, hts, hK, hvm, hlk, hret, hnm⟩ := C
  obtain ⟨D1, rfl⟩ := D
  exact fun H locs ls c h1 h2 h3 h4 => lv_ior hx hb D1 (K H locs ls c h1 h2 h3 h4)

theorem x_ishlR {a b : Int32} (C : OKc G X l own nm cc nL ret d mc ms) (D : dx cc pc (.ishl) 1 pc')  (K : WX G X k n ws pc' lv (.int (a <<< (b &&& 31)) :: st)) : WX G X k n ws pc lv (.int b :: .int a :: st) := by
  obtain ⟨p, l, e, R, s, m, args, below, meth, c0, cf, Q⟩ := X
  obtain ⟨hx, rfl, rfl, hb, hml, hown, hts, hK, hvm, hlk, hret, hnm⟩ := C
  obtain ⟨D1, rfl⟩ := D
  exact fun H locs ls c h1 h2 h3 h4 => lv_ishl hx hb D1 (K H locs ls c h1 h2 h3 h4)

theorem x_ishrR {a b : Int32} (C : OKc G X l own nm cc nL ret d mc ms) (D : dx cc pc (.ishr) 1 pc')  (K : WX G X k n ws pc' lv (.int (a >>> (b &&& 31)) :: st)) : WX G X k n ws pc lv (.int b :: .int a :: st) := by
  obtain ⟨p, l, e, R, s, m, args, below, meth, c0, cf, Q⟩ := X
  obtain ⟨hx, rfl, rfl, hb, hml, hown, hts, hK, hvm, hlk, hret, hnm⟩ := C
  obtain ⟨D1, rfl⟩ := D
  exact fun H locs ls c h1 h2 h3 h4 => lv_ishr hx hb D1 (K H locs ls c h1 h2 h3 h4)

theorem x_iushrR {a b : Int32} (C : OKc G X l own nm cc nL ret d mc ms) (D : dx cc pc (.iushr) 1 pc')  (K : WX G X k n ws pc' lv (.int (a.toUInt32 >>> (b.toUInt32 &&& Int32.toUInt32 31)).toInt32 :: st)) : WX G X k n ws pc lv (.int b :: .int a :: st) := by
  obtain ⟨p, l, e, R, s, m, args, below, meth, c0, cf, Q⟩ := X
  obtain ⟨hx, rfl, rfl, hb, hml, hown, hts, hK, hvm, hlk, hret, hnm⟩ := C
  obtain ⟨D1, rfl⟩ := D
  exact fun H locs ls c h1 h2 h3 h4 => lv_iushr hx hb D1 rfl (K H locs ls c h1 h2 h3 h4)

theorem x_laddR {a b : Int64} (C : OKc G X l own nm cc nL ret d mc ms) (D : dx cc pc (.ladd) 1 pc')  (K : WX G X k n ws pc' lv (.long (a + b) :: st)) : WX G X k n ws pc lv (.long b :: .long a :: st) := by
  obtain ⟨p, l, e, R, s, m, args, below, meth, c0, cf, Q⟩ := X
  obtain ⟨hx, rfl, rfl, hb, hml, hown, hts, hK, hvm, hlk, hret, hnm⟩ := C
  obtain ⟨D1, rfl⟩ := D
  exact fun H locs ls c h1 h2 h3 h4 => lv_ladd hx hb D1 (K H locs ls c h1 h2 h3 h4)

theorem x_i2lR {a : Int32} (C : OKc G X l own nm cc nL ret d mc ms) (D : dx cc pc (.i2l) 1 pc')  (K : WX G X k n ws pc' lv (.long a.toInt64 :: st)) : WX G X k n ws pc lv (.int a :: st) := by
  obtain ⟨p, l, e, R, s, m, args, below, meth, c0, cf, Q⟩ := X
  obtain ⟨hx, rfl, rfl, hb, hml, hown, hts, hK, hvm, hlk, hret, hnm⟩ := C
  obtain ⟨D1, rfl⟩ := D
  exact fun H locs ls c h1 h2 h3 h4 => lv_i2l hx hb D1 rfl (K H locs ls c h1 h2 h3 h4)

theorem x_i2l {a : Int} (C : OKc G X l own nm cc nL ret d mc ms) (D : dx cc pc (.i2l) 1 pc') (hs : -2147483648 ≤ a ∧ a < 2147483648) (K : WX G X k n ws pc' lv (.long (zL a) :: st)) : WX G X k n ws pc lv (.int (zI a) :: st) := by
  obtain ⟨p, l, e, R, s, m, args, below, meth, c0, cf, Q⟩ := X
  obtain ⟨hx, rfl, rfl, hb, hml, hown, hts, hK, hvm, hlk, hret, hnm⟩ := C
  obtain ⟨D1, rfl⟩ := D
  exact fun H locs ls c h1 h2 h3 h4 => lv_i2l hx hb D1 (zI_i2l hs) (K H locs ls c h1 h2 h3 h4)

theorem x_i2bR {a : Int32} (C : OKc G X l own nm cc nL ret d mc ms) (D : dx cc pc (.i2b) 1 pc')  (K : WX G X k n ws pc' lv (.int a.toInt8.toInt32 :: st)) : WX G X k n ws pc lv (.int a :: st) := by
  obtain ⟨p, l, e, R, s, m, args, below, meth, c0, cf, Q⟩ := X
  obtain ⟨hx, rfl, rfl, hb, hml, hown, hts, hK, hvm, hlk, hret, hnm⟩ := C
  obtain ⟨D1, rfl⟩ := D
  exact fun H locs ls c h1 h2 h3 h4 => lv_i2b hx hb D1 rfl (K H locs ls c h1 h2 h3 h4)

theorem x_i2c {a : Int} (C : OKc G X l own nm cc nL ret d mc ms) (D : dx cc pc (.i2c) 1 pc') (hs : 0 ≤ a ∧ a < 65536) (K : WX G X k n ws pc' lv (.int (zI a) :: st)) : WX G X k n ws pc lv (.int (zI a) :: st) := by
  obtain ⟨p, l, e, R, s, m, args, below, meth, c0, cf, Q⟩ := X
  obtain ⟨hx, rfl, rfl, hb, hml, hown, hts, hK, hvm, hlk, hret, hnm⟩ := C
  obtain ⟨D1, rfl⟩ := D
  exact fun H locs ls c h1 h2 h3 h4 => lv_i2c hx hb D1 (zI_i2c hs) (K H locs ls c h1 h2 h3 h4)

theorem x_i2f {a : Int32} (C : OKc G X l own nm cc nL ret d mc ms) (D : dx cc pc (.i2f) 1 pc')  (K : WX G X k n ws pc' lv (.float (FP.i2f a) :: st)) : WX G X k n ws pc lv (.int a :: st) := by
  obtain ⟨p, l, e, R, s, m, args, below, meth, c0, cf, Q⟩ := X
  obtain ⟨hx, rfl, rfl, hb, hml, hown, hts, hK, hvm, hlk, hret, hnm⟩ := C
  obtain ⟨D1, rfl⟩ := D
  exact fun H locs ls c h1 h2 h3 h4 => lv_i2f hx hb D1 (K H locs ls c h1 h2 h3 h4)

theorem x_i2d {a : Int32} (C : OKc G X l own nm cc nL ret d mc ms) (D : dx cc pc (.i2d) 1 pc')  (K : WX G X k n ws pc' lv (.double (FP.i2d a) :: st)) : WX G X k n ws pc lv (.int a :: st) := by
  obtain ⟨p, l, e, R, s, m, args, below, meth, c0, cf, Q⟩ := X
  obtain ⟨hx, rfl, rfl, hb, hml, hown, hts, hK, hvm, hlk, hret, hnm⟩ := C
  obtain ⟨D1, rfl⟩ := D
  exact fun H locs ls c h1 h2 h3 h4 => lv_i2d hx hb D1 (K H locs ls c h1 h2 h3 h4)

theorem x_l2d {a : Int64} (C : OKc G X l own nm cc nL ret d mc ms) (D : dx cc pc (.l2d) 1 pc')  (K : WX G X k n ws pc' lv (.double (FP.l2d a) :: st)) : WX G X k n ws pc lv (.long a :: st) := by
  obtain ⟨p, l, e, R, s, m, args, below, meth, c0, cf, Q⟩ := X
  obtain ⟨hx, rfl, rfl, hb, hml, hown, hts, hK, hvm, hlk, hret, hnm⟩ := C
  obtain ⟨D1, rfl⟩ := D
  exact fun H locs ls c h1 h2 h3 h4 => lv_l2d hx hb D1 (K H locs ls c h1 h2 h3 h4)

theorem x_fcmp {a b : UInt32} {op : CmpOp} (C : OKc G X l own nm cc nL ret d mc ms) (D : dx cc pc (.fcmp op) 1 pc')  (K : WX G X k n ws pc' lv (.int (Op.cmpValue (FP.fcmp a b) op) :: st)) : WX G X k n ws pc lv (.float b :: .float a :: st) := by
  obtain ⟨p, l, e, R, s, m, args, below, meth, c0, cf, Q⟩ := X
  obtain ⟨hx, rfl, rfl, hb, hml, hown, hts, hK, hvm, hlk, hret, hnm⟩ := C
  obtain ⟨D1, rfl⟩ := D
  exact fun H locs ls c h1 h2 h3 h4 => lv_fcmp hx hb D1 (K H locs ls c h1 h2 h3 h4)

theorem x_dcmp {a b : UInt64} {op : CmpOp} (C : OKc G X l own nm cc nL ret d mc ms) (D : dx cc pc (.dcmp op) 1 pc')  (K : WX G X k n ws pc' lv (.int (Op.cmpValue (FP.dcmp a b) op) :: st)) : WX G X k n ws pc lv (.double b :: .double a :: st) := by
  obtain ⟨p, l, e, R, s, m, args, below, meth, c0, cf, Q⟩ := X
  obtain ⟨hx, rfl, rfl, hb, hml, hown, hts, hK, hvm, hlk, hret, hnm⟩ := C
  obtain ⟨D1, rfl⟩ := D
  exact fun H locs ls c h1 h2 h3 h4 => lv_dcmp hx hb D1 (K H locs ls c h1 h2 h3 h4)

theorem x_dup {va : Value} (C : OKc G X l own nm cc nL ret d mc ms) (D : dx cc pc (.dup) 1 pc') (hva : va.category = 1) (K : WX G X k n ws pc' lv (va :: va :: st)) : WX G X k n ws pc lv (va :: st) := by
  obtain ⟨p, l, e, R, s, m, args, below, meth, c0, cf, Q⟩ := X
  obtain ⟨hx, rfl, rfl, hb, hml, hown, hts, hK, hvm, hlk, hret, hnm⟩ := C
  obtain ⟨D1, rfl⟩ := D
  exact fun H locs ls c h1 h2 h3 h4 => lv_dup hx hb D1 hva (K H locs ls c h1 h2 h3 h4)

theorem x_dup2 {va vb : Value} (C : OKc G X l own nm cc nL ret d mc ms) (D : dx cc pc (.dup2) 1 pc') (hva : va.category = 1) (hvb : vb.category = 1) (K : WX G X k n ws pc' lv (va :: vb :: va :: vb :: st)) : WX G X k n ws pc lv (va :: vb :: st) := by
  obtain ⟨p, l, e, R, s, m, args, below, meth, c0, cf, Q⟩ := X
  obtain ⟨hx, rfl, rfl, hb, hml, hown, hts, hK, hvm, hlk, hret, hnm⟩ := C
  obtain ⟨D1, rfl⟩ := D
  exact fun H locs ls c h1 h2 h3 h4 => lv_dup2_11 hx hb D1 hva hvb (K H locs ls c h1 h2 h3 h4)

theorem x_dup_x1 {va vb : Value} (C : OKc G X l own nm cc nL ret d mc ms) (D : dx cc pc (.dup_x1) 1 pc') (hva : va.category = 1) (hvb : vb.category = 1) (K : WX G X k n ws pc' lv (va :: vb :: va :: st)) : WX G X k n ws pc lv (va :: vb :: st) := by
  obtain ⟨p, l, e, R, s, m, args, below, meth, c0, cf, Q⟩ := X
  obtain ⟨hx, rfl, rfl, hb, hml, hown, hts, hK, hvm, hlk, hret, hnm⟩ := C
  obtain ⟨D1, rfl⟩ := D
  exact fun H locs ls c h1 h2 h3 h4 => lv_dup_x1 hx hb D1 hva hvb (K H locs ls c h1 h2 h3 h4)

theorem x_pop {va : Value} (C : OKc G X l own nm cc nL ret d mc ms) (D : dx cc pc (.pop) 1 pc') (hva : va.category = 1) (K : WX G X k n ws pc' lv (st)) : WX G X k n ws pc lv (va :: st) := by
  obtain ⟨p, l, e, R, s, m, args, below, meth, c0, cf, Q⟩ := X
  obtain ⟨hx, rfl, rfl, hb, hml, hown, hts, hK, hvm, hlk, hret, hnm⟩ := C
  obtain ⟨D1, rfl⟩ := D
  exact fun H locs ls c h1 h2 h3 h4 => lv_pop hx hb D1 hva (K H locs ls c h1 h2 h3 h4)

theorem x_ldc {own2 : String} {i : Nat} {v : Int} (C : OKc G X l own nm cc nL ret d mc ms) (D : dx cc pc (.ldc i) 2 pc') (hw : Cond.constant own i (zI v) ∈ TSg) (K : WX G X k n ws pc' lv (.int (zI v) :: st)) : WX G X k n ws pc lv (st) := by
  obtain ⟨p, l, e, R, s, m, args, below, meth, c0, cf, Q⟩ := X
  obtain ⟨hx, rfl, rfl, hb, hml, hown, hts, hK, hvm, hlk, hret, hnm⟩ := C
  obtain ⟨D1, rfl⟩ := D
  exact fun H locs ls c h1 h2 h3 h4 => lv_ldc hx hb hown (hts _ hw) D1 (K H locs ls c h1 h2 h3 h4)

theorem x_ldc_w {i : Nat} {v : Int} (C : OKc G X l own nm cc nL ret d mc ms) (D : dx cc pc (.ldc_w i) 3 pc') (hw : Cond.constant own i (zI v) ∈ TSg) (K : WX G X k n ws pc' lv (.int (zI v) :: st)) : WX G X k n ws pc lv (st) := by
  obtain ⟨p, l, e, R, s, m, args, below, meth, c0, cf, Q⟩ := X
  obtain ⟨hx, rfl, rfl, hb, hml, hown, hts, hK, hvm, hlk, hret, hnm⟩ := C
  obtain ⟨D1, rfl⟩ := D
  exact fun H locs ls c h1 h2 h3 h4 => lv_ldcw hx hb hown (hts _ hw) D1 (K H locs ls c h1 h2 h3 h4)

theorem x_ldc2 {i : Nat} {v : Int} (C : OKc G X l own nm cc nL ret d mc ms) (D : dx cc pc (.ldc2_w i) 3 pc') (hw : Cond.constantLong own i (zL v) ∈ TSg) (K : WX G X k n ws pc' lv (.long (zL v) :: st)) : WX G X k n ws pc lv (st) := by
  obtain ⟨p, l, e, R, s, m, args, below, meth, c0, cf, Q⟩ := X
  obtain ⟨hx, rfl, rfl, hb, hml, hown, hts, hK, hvm, hlk, hret, hnm⟩ := C
  obtain ⟨D1, rfl⟩ := D
  exact fun H locs ls c h1 h2 h3 h4 => lv_ldc2 hx hb hown (hts _ hw) D1 (K H locs ls c h1 h2 h3 h4)

theorem x_goto {off : Int} (C : OKc G X l own nm cc nL ret d mc ms) (D : dx cc pc (.goto off) 3 pc1) (ht : (pc : Int) + off = (pc' : Int)) (K : WX G X k n ws pc' lv st) : WX G X k n ws pc lv st := by
  obtain ⟨p, l, e, R, s, m, args, below, meth, c0, cf, Q⟩ := X
  obtain ⟨hx, rfl, rfl, hb, hml, hown, hts, hK, hvm, hlk, hret, hnm⟩ := C
  obtain ⟨D1, rfl⟩ := D
  exact fun H locs ls c h1 h2 h3 h4 => lv_goto hx hb D1 ht (K H locs ls c h1 h2 h3 h4)

theorem x_icmp_eq {off : Int} {a b : Int} (tgt : Nat) (C : OKc G X l own nm cc nL ret d mc ms) (D : dx cc pc (.if_icmp .eq off) 3 pc') (ht : (pc : Int) + off = (tgt : Int)) (ha : -2147483648 ≤ a ∧ a < 2147483648) (hb' : -2147483648 ≤ b ∧ b < 2147483648) (KT : a = b → WX G X k n ws tgt lv st) (KF : ¬ a = b → WX G X k n ws pc' lv st) : WX G X k n ws pc lv (.int (zI b) :: .int (zI a) :: st) := by
  have hlt := zI_lt (a := a) (b := b) ha hb'
  have hle := zI_le (a := a) (b := b) ha hb'
  have hgt := zI_lt (a := b) (b := a) hb' ha
  have hge := zI_le (a := b) (b := a) hb' ha
  have heq := zI_eq (a := a) (b := b) ha hb'
  obtain ⟨p, l, e, R, s, m, args, below, meth, c0, cf, Q⟩ := X
  obtain ⟨hx, rfl, rfl, hb, hml, hown, hts, hK, hvm, hlk, hret, hnm⟩ := C
  obtain ⟨D1, rfl⟩ := D
  exact fun H locs ls c h1 h2 h3 h4 => lv_icmp_eq hx hb D1 ht (fun q => KT (heq.mp q) H locs ls c h1 h2 h3 h4) (fun q => KF (fun z => q (heq.mpr z)) H locs ls c h1 h2 h3 h4)

theorem x_if_eq {off : Int} {a : Int} (tgt : Nat) (C : OKc G X l own nm cc nL ret d mc ms) (D : dx cc pc (.ifCond .eq off) 3 pc') (ht : (pc : Int) + off = (tgt : Int)) (ha : -2147483648 ≤ a ∧ a < 2147483648) (KT : a = 0 → WX G X k n ws tgt lv st) (KF : ¬ a = 0 → WX G X k n ws pc' lv st) : WX G X k n ws pc lv (.int (zI a) :: st) := by
  have hlt := zI_lt (a := a) (b := 0) ha ⟨by decide, by decide⟩
  have hle := zI_le (a := a) (b := 0) ha ⟨by decide, by decide⟩
  have hgt := zI_lt (a := 0) (b := a) ⟨by decide, by decide⟩ ha
  have hge := zI_le (a := 0) (b := a) ⟨by decide, by decide⟩ ha
  have heq := zI_eq (a := a) (b := 0) ha ⟨by decide, by decide⟩
  obtain ⟨p, l, e, R, s, m, args, below, meth, c0, cf, Q⟩ := X
  obtain ⟨hx, rfl, rfl, hb, hml, hown, hts, hK, hvm, hlk, hret, hnm⟩ := C
  obtain ⟨D1, rfl⟩ := D
  exact fun H locs ls c h1 h2 h3 h4 => lv_if_eq hx hb D1 ht (fun q => KT (heq.mp q) H locs ls c h1 h2 h3 h4) (fun q => KF (fun z => q (heq.mpr z)) H locs ls c h1 h2 h3 h4)

theorem x_lcmp_eq {off : Int} {a b : Int} (tgt : Nat) (C : OKc G X l own nm cc nL ret d mc ms) (D : dx cc pc .lcmp 1 pc1) (D' : dx cc pc1 (.ifCond .eq off) 3 pc') (ht : (pc1 : Int) + off = (tgt : Int)) (ha : -2147483648 ≤ a ∧ a < 2147483648) (hb' : -2147483648 ≤ b ∧ b < 2147483648) (KT : a = b → WX G X k n ws tgt lv st) (KF : ¬ a = b → WX G X k n ws pc' lv st) : WX G X k n ws pc lv (.long (zL b) :: .long (zL a) :: st) := by
  have hc := zL_cmp ha hb'
  obtain ⟨p, l, e, R, s, m, args, below, meth, c0, cf, Q⟩ := X
  obtain ⟨hx, rfl, rfl, hb, hml, hown, hts, hK, hvm, hlk, hret, hnm⟩ := C
  obtain ⟨D1, rfl⟩ := D
  obtain ⟨D2, rfl⟩ := D'
  refine fun H locs ls c h1 h2 h3 h4 => W.lcmp hx hb D1 ?_
  rcases Int.lt_trichotomy a b with q | q | q
  · rw [hc.1 q]; exact lv_if_eq hx hb D2 ht (fun z => by first | exact KT (by omega) H locs ls c h1 h2 h3 h4 | exact absurd z (by decide)) (fun z => by first | exact KF (by omega) H locs ls c h1 h2 h3 h4 | exact absurd (by decide) z | exact absurd z (by decide))
  · rw [hc.2.1 q]; exact lv_if_eq hx hb D2 ht (fun z => by first | exact KT (by omega) H locs ls c h1 h2 h3 h4 | exact absurd z (by decide)) (fun z => by first | exact KF (by omega) H locs ls c h1 h2 h3 h4 | exact absurd (by decide) z | exact absurd z (by decide))
  · rw [hc.2.2 q]; exact lv_if_eq hx hb D2 ht (fun z => by first | exact KT (by omega) H locs ls c h1 h2 h3 h4 | exact absurd z (by decide)) (fun z => by first | exact KF (by omega) H locs ls c h1 h2 h3 h4 | exact absurd (by decide) z | exact absurd z (by decide))

theorem x_icmp_ne {off : Int} {a b : Int} (tgt : Nat) (C : OKc G X l own nm cc nL ret d mc ms) (D : dx cc pc (.if_icmp .ne off) 3 pc') (ht : (pc : Int) + off = (tgt : Int)) (ha : -2147483648 ≤ a ∧ a < 2147483648) (hb' : -2147483648 ≤ b ∧ b < 2147483648) (KT : ¬ a = b → WX G X k n ws tgt lv st) (KF : a = b → WX G X k n ws pc' lv st) : WX G X k n ws pc lv (.int (zI b) :: .int (zI a) :: st) := by
  have hlt := zI_lt (a := a) (b := b) ha hb'
  have hle := zI_le (a := a) (b := b) ha hb'
  have hgt := zI_lt (a := b) (b := a) hb' ha
  have hge := zI_le (a := b) (b := a) hb' ha
  have heq := zI_eq (a := a) (b := b) ha hb'
  obtain ⟨p, l, e, R, s, m, args, below, meth, c0, cf, Q⟩ := X
  obtain ⟨hx, rfl, rfl, hb, hml, hown, hts, hK, hvm, hlk, hret, hnm⟩ := C
  obtain ⟨D1, rfl⟩ := D
  exact fun H locs ls c h1 h2 h3 h4 => lv_icmp_ne hx hb D1 ht (fun q => KT (fun z => q (heq.mpr z)) H locs ls c h1 h2 h3 h4) (fun q => KF (heq.mp q) H locs ls c h1 h2 h3 h4)

theorem x_if_ne {off : Int} {a : Int} (tgt : Nat) (C : OKc G X l own nm cc nL ret d mc ms) (D : dx cc pc (.ifCond .ne off) 3 pc') (ht : (pc : Int) + off = (tgt : Int)) (ha : -2147483648 ≤ a ∧ a < 2147483648) (KT : ¬ a = 0 → WX G X k n ws tgt lv st) (KF : a = 0 → WX G X k n ws pc' lv st) : WX G X k n ws pc lv (.int (zI a) :: st) := by
  have hlt := zI_lt (a := a) (b := 0) ha ⟨by decide, by decide⟩
  have hle := zI_le (a := a) (b := 0) ha ⟨by decide, by decide⟩
  have hgt := zI_lt (a := 0) (b := a) ⟨by decide, by decide⟩ ha
  have hge := zI_le (a := 0) (b := a) ⟨by decide, by decide⟩ ha
  have heq := zI_eq (a := a) (b := 0) ha ⟨by decide, by decide⟩
  obtain ⟨p, l, e, R, s, m, args, below, meth, c0, cf, Q⟩ := X
  obtain ⟨hx, rfl, rfl, hb, hml, hown, hts, hK, hvm, hlk, hret, hnm⟩ := C
  obtain ⟨D1, rfl⟩ := D
  exact fun H locs ls c h1 h2 h3 h4 => lv_if_ne hx hb D1 ht (fun q => KT (fun z => q (heq.mpr z)) H locs ls c h1 h2 h3 h4) (fun q => KF (heq.mp q) H locs ls c h1 h2 h3 h4)

theorem x_lcmp_ne {off : Int} {a b : Int} (tgt : Nat) (C : OKc G X l own nm cc nL ret d mc ms) (D : dx cc pc .lcmp 1 pc1) (D' : dx cc pc1 (.ifCond .ne off) 3 pc') (ht : (pc1 : Int) + off = (tgt : Int)) (ha : -2147483648 ≤ a ∧ a < 2147483648) (hb' : -2147483648 ≤ b ∧ b < 2147483648) (KT : ¬ a = b → WX G X k n ws tgt lv st) (KF : a = b → WX G X k n ws pc' lv st) : WX G X k n ws pc lv (.long (zL b) :: .long (zL a) :: st) := by
  have hc := zL_cmp ha hb'
  obtain ⟨p, l, e, R, s, m, args, below, meth, c0, cf, Q⟩ := X
  obtain ⟨hx, rfl, rfl, hb, hml, hown, hts, hK, hvm, hlk, hret, hnm⟩ := C
  obtain ⟨D1, rfl⟩ := D
  obtain ⟨D2, rfl⟩ := D'
  refine fun H locs ls c h1 h2 h3 h4 => W.lcmp hx hb D1 ?_
  rcases Int.lt_trichotomy a b with q | q | q
  · rw [hc.1 q]; exact lv_if_ne hx hb D2 ht (fun z => by first | exact KT (by omega) H locs ls c h1 h2 h3 h4 | exact absurd z (by decide)) (fun z => by first | exact KF (by omega) H locs ls c h1 h2 h3 h4 | exact absurd (by decide) z | exact absurd z (by decide))
  · rw [hc.2.1 q]; exact lv_if_ne hx hb D2 ht (fun z => by first | exact KT (by omega) H locs ls c h1 h2 h3 h4 | exact absurd z (by decide)) (fun z => by first | exact KF (by omega) H locs ls c h1 h2 h3 h4 | exact absurd (by decide) z | exact absurd z (by decide))
  · rw [hc.2.2 q]; exact lv_if_ne hx hb D2 ht (fun z => by first | exact KT (by omega) H locs ls c h1 h2 h3 h4 | exact absurd z (by decide)) (fun z => by first | exact KF (by omega) H locs ls c h1 h2 h3 h4 | exact absurd (by decide) z | exact absurd z (by decide))

theorem x_icmp_lt {off : Int} {a b : Int} (tgt : Nat) (C : OKc G X l own nm cc nL ret d mc ms) (D : dx cc pc (.if_icmp .lt off) 3 pc') (ht : (pc : Int) + off = (tgt : Int)) (ha : -2147483648 ≤ a ∧ a < 2147483648) (hb' : -2147483648 ≤ b ∧ b < 2147483648) (KT : a < b → WX G X k n ws tgt lv st) (KF : b ≤ a → WX G X k n ws pc' lv st) : WX G X k n ws pc lv (.int (zI b) :: .int (zI a) :: st) := by
  have hlt := zI_lt (a := a) (b := b) ha hb'
  have hle := zI_le (a := a) (b := b) ha hb'
  have hgt := zI_lt (a := b) (b := a) hb' ha
  have hge := zI_le (a := b) (b := a) hb' ha
  have heq := zI_eq (a := a) (b := b) ha hb'
  obtain ⟨p, l, e, R, s, m, args, below, meth, c0, cf, Q⟩ := X
  obtain ⟨hx, rfl, rfl, hb, hml, hown, hts, hK, hvm, hlk, hret, hnm⟩ := C
  obtain ⟨D1, rfl⟩ := D
  exact fun H locs ls c h1 h2 h3 h4 => lv_icmp_lt hx hb D1 ht (fun q => KT (hlt.mp q) H locs ls c h1 h2 h3 h4) (fun q => KF (Int.not_lt.mp fun z => q (hlt.mpr z)) H locs ls c h1 h2 h3 h4)

theorem x_if_lt {off : Int} {a : Int} (tgt : Nat) (C : OKc G X l own nm cc nL ret d mc ms) (D : dx cc pc (.ifCond .lt off) 3 pc') (ht : (pc : Int) + off = (tgt : Int)) (ha : -2147483648 ≤ a ∧ a < 2147483648) (KT : a < 0 → WX G X k n ws tgt lv st) (KF : 0 ≤ a → WX G X k n ws pc' lv st) : WX G X k n ws pc lv (.int (zI a) :: st) := by
  have hlt := zI_lt (a := a) (b := 0) ha ⟨by decide, by decide⟩
  have hle := zI_le (a := a) (b := 0) ha ⟨by decide, by decide⟩
  have hgt := zI_lt (a := 0) (b := a) ⟨by decide, by decide⟩ ha
  have hge := zI_le (a := 0) (b := a) ⟨by decide, by decide⟩ ha
  have heq := zI_eq (a := a) (b := 0) ha ⟨by decide, by decide⟩
  obtain ⟨p, l, e, R, s, m, args, below, meth, c0, cf, Q⟩ := X
  obtain ⟨hx, rfl, rfl, hb, hml, hown, hts, hK, hvm, hlk, hret, hnm⟩ := C
  obtain ⟨D1, rfl⟩ := D
  exact fun H locs ls c h1 h2 h3 h4 => lv_if_lt hx hb D1 ht (fun q => KT (hlt.mp q) H locs ls c h1 h2 h3 h4) (fun q => KF (Int.not_lt.mp fun z => q (hlt.mpr z)) H locs ls c h1 h2 h3 h4)

theorem x_lcmp_lt {off : Int} {a b : Int} (tgt : Nat) (C : OKc G X l own nm cc nL ret d mc ms) (D : dx cc pc .lcmp 1 pc1) (D' : dx cc pc1 (.ifCond .lt off) 3 pc') (ht : (pc1 : Int) + off = (tgt : Int)) (ha : -2147483648 ≤ a ∧ a < 2147483648) (hb' : -2147483648 ≤ b ∧ b < 2147483648) (KT : a < b → WX G X k n ws tgt lv st) (KF : b ≤ a → WX G X k n ws pc' lv st) : WX G X k n ws pc lv (.long (zL b) :: .long (zL a) :: st) := by
  have hc := zL_cmp ha hb'
  obtain ⟨p, l, e, R, s, m, args, below, meth, c0, cf, Q⟩ := X
  obtain ⟨hx, rfl, rfl, hb, hml, hown, hts, hK, hvm, hlk, hret, hnm⟩ := C
  obtain ⟨D1, rfl⟩ := D
  obtain ⟨D2, rfl⟩ := D'
  refine fun H locs ls c h1 h2 h3 h4 => W.lcmp hx hb D1 ?_
  rcases Int.lt_trichotomy a b with q | q | q
  · rw [hc.1 q]; exact lv_if_lt hx hb D2 ht (fun z => by first | exact KT (by omega) H locs ls c h1 h2 h3 h4 | exact absurd z (by decide)) (fun z => by first | exact KF (by omega) H locs ls c h1 h2 h3 h4 | exact absurd (by decide) z | exact absurd z (by decide))
  · rw [hc.2.1 q]; exact lv_if_lt hx hb D2 ht (fun z => by first | exact KT (by omega) H locs ls c h1 h2 h3 h4 | exact absurd z (by decide)) (fun z => by first | exact KF (by omega) H locs ls c h1 h2 h3 h4 | exact absurd (by decide) z | exact absurd z (by decide))
  · rw [hc.2.2 q]; exact lv_if_lt hx hb D2 ht (fun z => by first | exact KT (by omega) H locs ls c h1 h2 h3 h4 | exact absurd z (by decide)) (fun z => by first | exact KF (by omega) H locs ls c h1 h2 h3 h4 | exact absurd (by decide) z | exact absurd z (by decide))

theorem x_icmp_ge {off : Int} {a b : Int} (tgt : Nat) (C : OKc G X l own nm cc nL ret d mc ms) (D : dx cc pc (.if_icmp .ge off) 3 pc') (ht : (pc : Int) + off = (tgt : Int)) (ha : -2147483648 ≤ a ∧ a < 2147483648) (hb' : -2147483648 ≤ b ∧ b < 2147483648) (KT : b ≤ a → WX G X k n ws tgt lv st) (KF : a < b → WX G X k n ws pc' lv st) : WX G X k n ws pc lv (.int (zI b) :: .int (zI a) :: st) := by
  have hlt := zI_lt (a := a) (b := b) ha hb'
  have hle := zI_le (a := a) (b := b) ha hb'
  have hgt := zI_lt (a := b) (b := a) hb' ha
  have hge := zI_le (a := b) (b := a) hb' ha
  have heq := zI_eq (a := a) (b := b) ha hb'
  obtain ⟨p, l, e, R, s, m, args, below, meth, c0, cf, Q⟩ := X
  obtain ⟨hx, rfl, rfl, hb, hml, hown, hts, hK, hvm, hlk, hret, hnm⟩ := C
  obtain ⟨D1, rfl⟩ := D
  exact fun H locs ls c h1 h2 h3 h4 => lv_icmp_ge hx hb D1 ht (fun q => KT (hge.mp q) H locs ls c h1 h2 h3 h4) (fun q => KF (Int.not_le.mp fun z => q (hge.mpr z)) H locs ls c h1 h2 h3 h4)

theorem x_if_ge {off : Int} {a : Int} (tgt : Nat) (C : OKc G X l own nm cc nL ret d mc ms) (D : dx cc pc (.ifCond .ge off) 3 pc') (ht : (pc : Int) + off = (tgt : Int)) (ha : -2147483648 ≤ a ∧ a < 2147483648) (KT : 0 ≤ a → WX G X k n ws tgt lv st) (KF : a < 0 → WX G X k n ws pc' lv st) : WX G X k n ws pc lv (.int (zI a) :: st) := by
  have hlt := zI_lt (a := a) (b := 0) ha ⟨by decide, by decide⟩
  have hle := zI_le (a := a) (b := 0) ha ⟨by decide, by decide⟩
  have hgt := zI_lt (a := 0) (b := a) ⟨by decide, by decide⟩ ha
  have hge := zI_le (a := 0) (b := a) ⟨by decide, by decide⟩ ha
  have heq := zI_eq (a := a) (b := 0) ha ⟨by decide, by decide⟩
  obtain ⟨p, l, e, R, s, m, args, below, meth, c0, cf, Q⟩ := X
  obtain ⟨hx, rfl, rfl, hb, hml, hown, hts, hK, hvm, hlk, hret, hnm⟩ := C
  obtain ⟨D1, rfl⟩ := D
  exact fun H locs ls c h1 h2 h3 h4 => lv_if_ge hx hb D1 ht (fun q => KT (hge.mp q) H locs ls c h1 h2 h3 h4) (fun q => KF (Int.not_le.mp fun z => q (hge.mpr z)) H locs ls c h1 h2 h3 h4)

theorem x_lcmp_ge {off : Int} {a b : Int} (tgt : Nat) (C : OKc G X l own nm cc nL ret d mc ms) (D : dx cc pc .lcmp 1 pc1) (D' : dx cc pc1 (.ifCond .ge off) 3 pc') (ht : (pc1 : Int) + off = (tgt : Int)) (ha : -2147483648 ≤ a ∧ a < 2147483648) (hb' : -2147483648 ≤ b ∧ b < 2147483648) (KT : b ≤ a → WX G X k n ws tgt lv st) (KF : a < b → WX G X k n ws pc' lv st) : WX G X k n ws pc lv (.long (zL b) :: .long (zL a) :: st) := by
  have hc := zL_cmp ha hb'
  obtain ⟨p, l, e, R, s, m, args, below, meth, c0, cf, Q⟩ := X
  obtain ⟨hx, rfl, rfl, hb, hml, hown, hts, hK, hvm, hlk, hret, hnm⟩ := C
  obtain ⟨D1, rfl⟩ := D
  obtain ⟨D2, rfl⟩ := D'
  refine fun H locs ls c h1 h2 h3 h4 => W.lcmp hx hb D1 ?_
  rcases Int.lt_trichotomy a b with q | q | q
  · rw [hc.1 q]; exact lv_if_ge hx hb D2 ht (fun z => by first | exact KT (by omega) H locs ls c h1 h2 h3 h4 | exact absurd z (by decide)) (fun z => by first | exact KF (by omega) H locs ls c h1 h2 h3 h4 | exact absurd (by decide) z | exact absurd z (by decide))
  · rw [hc.2.1 q]; exact lv_if_ge hx hb D2 ht (fun z => by first | exact KT (by omega) H locs ls c h1 h2 h3 h4 | exact absurd z (by decide)) (fun z => by first | exact KF (by omega) H locs ls c h1 h2 h3 h4 | exact absurd (by decide) z | exact absurd z (by decide))
  · rw [hc.2.2 q]; exact lv_if_ge hx hb D2 ht (fun z => by first | exact KT (by omega) H locs ls c h1 h2 h3 h4 | exact absurd z (by decide)) (fun z => by first | exact KF (by omega) H locs ls c h1 h2 h3 h4 | exact absurd (by decide) z | exact absurd z (by decide))

theorem x_icmp_gt {off : Int} {a b : Int} (tgt : Nat) (C : OKc G X l own nm cc nL ret d mc ms) (D : dx cc pc (.if_icmp .gt off) 3 pc') (ht : (pc : Int) + off = (tgt : Int)) (ha : -2147483648 ≤ a ∧ a < 2147483648) (hb' : -2147483648 ≤ b ∧ b < 2147483648) (KT : b < a → WX G X k n ws tgt lv st) (KF : a ≤ b → WX G X k n ws pc' lv st) : WX G X k n ws pc lv (.int (zI b) :: .int (zI a) :: st) := by
  have hlt := zI_lt (a := a) (b := b) ha hb'
  have hle := zI_le (a := a) (b := b) ha hb'
  have hgt := zI_lt (a := b) (b := a) hb' ha
  have hge := zI_le (a := b) (b := a) hb' ha
  have heq := zI_eq (a := a) (b := b) ha hb'
  obtain ⟨p, l, e, R, s, m, args, below, meth, c0, cf, Q⟩ := X
  obtain ⟨hx, rfl, rfl, hb, hml, hown, hts, hK, hvm, hlk, hret, hnm⟩ := C
  obtain ⟨D1, rfl⟩ := D
  exact fun H locs ls c h1 h2 h3 h4 => lv_icmp_gt hx hb D1 ht (fun q => KT (hgt.mp q) H locs ls c h1 h2 h3 h4) (fun q => KF (Int.not_lt.mp fun z => q (hgt.mpr z)) H locs ls c h1 h2 h3 h4)

theorem x_if_gt {off : Int} {a : Int} (tgt : Nat) (C : OKc G X l own nm cc nL ret d mc ms) (D : dx cc pc (.ifCond .gt off) 3 pc') (ht : (pc : Int) + off = (tgt : Int)) (ha : -2147483648 ≤ a ∧ a < 2147483648) (KT : 0 < a → WX G X k n ws tgt lv st) (KF : a ≤ 0 → WX G X k n ws pc' lv st) : WX G X k n ws pc lv (.int (zI a) :: st) := by
  have hlt := zI_lt (a := a) (b := 0) ha ⟨by decide, by decide⟩
  have hle := zI_le (a := a) (b := 0) ha ⟨by decide, by decide⟩
  have hgt := zI_lt (a := 0) (b := a) ⟨by decide, by decide⟩ ha
  have hge := zI_le (a := 0) (b := a) ⟨by decide, by decide⟩ ha
  have heq := zI_eq (a := a) (b := 0) ha ⟨by decide, by decide⟩
  obtain ⟨p, l, e, R, s, m, args, below, meth, c0, cf, Q⟩ := X
  obtain ⟨hx, rfl, rfl, hb, hml, hown, hts, hK, hvm, hlk, hret, hnm⟩ := C
  obtain ⟨D1, rfl⟩ := D
  exact fun H locs ls c h1 h2 h3 h4 => lv_if_gt hx hb D1 ht (fun q => KT (hgt.mp q) H locs ls c h1 h2 h3 h4) (fun q => KF (Int.not_lt.mp fun z => q (hgt.mpr z)) H locs ls c h1 h2 h3 h4)

theorem x_lcmp_gt {off : Int} {a b : Int} (tgt : Nat) (C : OKc G X l own nm cc nL ret d mc ms) (D : dx cc pc .lcmp 1 pc1) (D' : dx cc pc1 (.ifCond .gt off) 3 pc') (ht : (pc1 : Int) + off = (tgt : Int)) (ha : -2147483648 ≤ a ∧ a < 2147483648) (hb' : -2147483648 ≤ b ∧ b < 2147483648) (KT : b < a → WX G X k n ws tgt lv st) (KF : a ≤ b → WX G X k n ws pc' lv st) : WX G X k n ws pc lv (.long (zL b) :: .long (zL a) :: st) := by
  have hc := zL_cmp ha hb'
  obtain ⟨p, l, e, R, s, m, args, below, meth, c0, cf, Q⟩ := X
  obtain ⟨hx, rfl, rfl, hb, hml, hown, hts, hK, hvm, hlk, hret, hnm⟩ := C
  obtain ⟨D1, rfl⟩ := D
  obtain ⟨D2, rfl⟩ := D'
  refine fun H locs ls c h1 h2 h3 h4 => W.lcmp hx hb D1 ?_
  rcases Int.lt_trichotomy a b with q | q | q
  · rw [hc.1 q]; exact lv_if_gt hx hb D2 ht (fun z => by first | exact KT (by omega) H locs ls c h1 h2 h3 h4 | exact absurd z (by decide)) (fun z => by first | exact KF (by omega) H locs ls c h1 h2 h3 h4 | exact absurd (by decide) z | exact absurd z (by decide))
  · rw [hc.2.1 q]; exact lv_if_gt hx hb D2 ht (fun z => by first | exact KT (by omega) H locs ls c h1 h2 h3 h4 | exact absurd z (by decide)) (fun z => by first | exact KF (by omega) H locs ls c h1 h2 h3 h4 | exact absurd (by decide) z | exact absurd z (by decide))
  · rw [hc.2.2 q]; exact lv_if_gt hx hb D2 ht (fun z => by first | exact KT (by omega) H locs ls c h1 h2 h3 h4 | exact absurd z (by decide)) (fun z => by first | exact KF (by omega) H locs ls c h1 h2 h3 h4 | exact absurd (by decide) z | exact absurd z (by decide))

theorem x_icmp_le {off : Int} {a b : Int} (tgt : Nat) (C : OKc G X l own nm cc nL ret d mc ms) (D : dx cc pc (.if_icmp .le off) 3 pc') (ht : (pc : Int) + off = (tgt : Int)) (ha : -2147483648 ≤ a ∧ a < 2147483648) (hb' : -2147483648 ≤ b ∧ b < 2147483648) (KT : a ≤ b → WX G X k n ws tgt lv st) (KF : b < a → WX G X k n ws pc' lv st) : WX G X k n ws pc lv (.int (zI b) :: .int (zI a) :: st) := by
  have hlt := zI_lt (a := a) (b := b) ha hb'
  have hle := zI_le (a := a) (b := b) ha hb'
  have hgt := zI_lt (a := b) (b := a) hb' ha
  have hge := zI_le (a := b) (b := a) hb' ha
  have heq := zI_eq (a := a) (b := b) ha hb'
  obtain ⟨p, l, e, R, s, m, args, below, meth, c0, cf, Q⟩ := X
  obtain ⟨hx, rfl, rfl, hb, hml, hown, hts, hK, hvm, hlk, hret, hnm⟩ := C
  obtain ⟨D1, rfl⟩ := D
  exact fun H locs ls c h1 h2 h3 h4 => lv_icmp_le hx hb D1 ht (fun q => KT (hle.mp q) H locs ls c h1 h2 h3 h4) (fun q => KF (Int.not_le.mp fun z => q (hle.mpr z)) H locs ls c h1 h2 h3 h4)

theorem x_if_le {off : Int} {a : Int} (tgt : Nat) (C : OKc G X l own nm cc nL ret d mc ms) (D : dx cc pc (.ifCond .le off) 3 pc') (ht : (pc : Int) + off = (tgt : Int)) (ha : -2147483648 ≤ a ∧ a < 2147483648) (KT : a ≤ 0 → WX G X k n ws tgt lv st) (KF : 0 < a → WX G X k n ws pc' lv st) : WX G X k n ws pc lv (.int (zI a) :: st) := by
  have hlt := zI_lt (a := a) (b := 0) ha ⟨by decide, by decide⟩
  have hle := zI_le (a := a) (b := 0) ha ⟨by decide, by decide⟩
  have hgt := zI_lt (a := 0) (b := a) ⟨by decide, by decide⟩ ha
  have hge := zI_le (a := 0) (b := a) ⟨by decide, by decide⟩ ha
  have heq := zI_eq (a := a) (b := 0) ha ⟨by decide, by decide⟩
  obtain ⟨p, l, e, R, s, m, args, below, meth, c0, cf, Q⟩ := X
  obtain ⟨hx, rfl, rfl, hb, hml, hown, hts, hK, hvm, hlk, hret, hnm⟩ := C
  obtain ⟨D1, rfl⟩ := D
  exact fun H locs ls c h1 h2 h3 h4 => lv_if_le hx hb D1 ht (fun q => KT (hle.mp q) H locs ls c h1 h2 h3 h4) (fun q => KF (Int.not_le.mp fun z => q (hle.mpr z)) H locs ls c h1 h2 h3 h4)

theorem x_lcmp_le {off : Int} {a b : Int} (tgt : Nat) (C : OKc G X l own nm cc nL ret d mc ms) (D : dx cc pc .lcmp 1 pc1) (D' : dx cc pc1 (.ifCond .le off) 3 pc') (ht : (pc1 : Int) + off = (tgt : Int)) (ha : -2147483648 ≤ a ∧ a < 2147483648) (hb' : -2147483648 ≤ b ∧ b < 2147483648) (KT : a ≤ b → WX G X k n ws tgt lv st) (KF : b < a → WX G X k n ws pc' lv st) : WX G X k n ws pc lv (.long (zL b) :: .long (zL a) :: st) := by
  have hc := zL_cmp ha hb'
  obtain ⟨p, l, e, R, s, m, args, below, meth, c0, cf, Q⟩ := X
  obtain ⟨hx, rfl, rfl, hb, hml, hown, hts, hK, hvm, hlk, hret, hnm⟩ := C
  obtain ⟨D1, rfl⟩ := D
  obtain ⟨D2, rfl⟩ := D'
  refine fun H locs ls c h1 h2 h3 h4 => W.lcmp hx hb D1 ?_
  rcases Int.lt_trichotomy a b with q | q | q
  · rw [hc.1 q]; exact lv_if_le hx hb D2 ht (fun z => by first | exact KT (by omega) H locs ls c h1 h2 h3 h4 | exact absurd z (by decide)) (fun z => by first | exact KF (by omega) H locs ls c h1 h2 h3 h4 | exact absurd (by decide) z | exact absurd z (by decide))
  · rw [hc.2.1 q]; exact lv_if_le hx hb D2 ht (fun z => by first | exact KT (by omega) H locs ls c h1 h2 h3 h4 | exact absurd z (by decide)) (fun z => by first | exact KF (by omega) H locs ls c h1 h2 h3 h4 | exact absurd (by decide) z | exact absurd z (by decide))
  · rw [hc.2.2 q]; exact lv_if_le hx hb D2 ht (fun z => by first | exact KT (by omega) H locs ls c h1 h2 h3 h4 | exact absurd z (by decide)) (fun z => by first | exact KF (by omega) H locs ls c h1 h2 h3 h4 | exact absurd (by decide) z | exact absurd z (by decide))

theorem x_ifb_eq {off : Int} {p : Prop} [hdp : Decidable p] (tgt : Nat) (C : OKc G X l own nm cc nL ret d mc ms) (D : dx cc pc (.ifCond .eq off) 3 pc') (ht : (pc : Int) + off = (tgt : Int)) (KT : ¬ p → WX G X k n ws tgt lv st) (KF : p → WX G X k n ws pc' lv st) : WX G X k n ws pc lv (.int (zI (bz p)) :: st) := by
  have hbz := bz_bI p
  refine x_if_eq tgt C D ht hbz (fun q => KT ?_) (fun q => KF ?_)
  · exact fun z => by rw [bz_t z] at q; cases q
  · exact Classical.byContradiction fun z => q (bz_f z)

theorem x_ifb_ne {off : Int} {p : Prop} [hdp : Decidable p] (tgt : Nat) (C : OKc G X l own nm cc nL ret d mc ms) (D : dx cc pc (.ifCond .ne off) 3 pc') (ht : (pc : Int) + off = (tgt : Int)) (KT : p → WX G X k n ws tgt lv st) (KF : ¬ p → WX G X k n ws pc' lv st) : WX G X k n ws pc lv (.int (zI (bz p)) :: st) := by
  have hbz := bz_bI p
  refine x_if_ne tgt C D ht hbz (fun q => KT ?_) (fun q => KF ?_)
  · exact Classical.byContradiction fun z => q (bz_f z)
  · exact fun z => by rw [bz_t z] at q; cases q

theorem x_ifnonnull {off : Int} {a : Nat} (C : OKc G X l own nm cc nL ret d mc ms) (D : dx cc pc (.ifnonnull off) 3 pc1) (ht : (pc : Int) + off = (pc' : Int)) (K : WX G X k n ws pc' lv st) : WX G X k n ws pc lv (.ref a :: st) := by
  obtain ⟨p, l, e, R, s, m, args, below, meth, c0, cf, Q⟩ := X
  obtain ⟨hx, rfl, rfl, hb, hml, hown, hts, hK, hvm, hlk, hret, hnm⟩ := C
  obtain ⟨D1, rfl⟩ := D
  exact fun H locs ls c h1 h2 h3 h4 => lv_ifnonnull hx hb D1 ht (K H locs ls c h1 h2 h3 h4)

theorem x_ifnonnullN {off : Int} (C : OKc G X l own nm cc nL ret d mc ms) (D : dx cc pc (.ifnonnull off) 3 pc') (K : WX G X k n ws pc' lv st) : WX G X k n ws pc lv (.null :: st) := by
  obtain ⟨p, l, e, R, s, m, args, below, meth, c0, cf, Q⟩ := X
  obtain ⟨hx, rfl, rfl, hb, hml, hown, hts, hK, hvm, hlk, hret, hnm⟩ := C
  obtain ⟨D1, rfl⟩ := D
  exact fun H locs ls c h1 h2 h3 h4 => lv_ifnonnullN hx hb D1 (K H locs ls c h1 h2 h3 h4)

theorem x_tabIn {dflt lo hi : Int} {offs : Array Int} {a : Int} (tgt : Nat) (C : OKc G X l own nm cc nL ret d mc ms) (D : dx cc pc (.tableswitch dflt lo hi offs) len pc1) (hs : -2147483648 ≤ a ∧ a < 2147483648) (h1 : lo ≤ a) (h2 : a ≤ hi) {off : Int} (ho : offs[(a - lo).toNat]? = some off) (ht : (pc : Int) + off = (tgt : Int)) (K : WX G X k n ws tgt lv st) : WX G X k n ws pc lv (.int (zI a) :: st) := by
  obtain ⟨p, l, e, R, s, m, args, below, meth, c0, cf, Q⟩ := X
  obtain ⟨hx, rfl, rfl, hb, hml, hown, hts, hK, hvm, hlk, hret, hnm⟩ := C
  obtain ⟨D1, rfl⟩ := D
  have e := zI_toInt hs
  exact fun H locs ls c g1 g2 g3 g4 => lv_tableIn hx hb D1 (by rw [e]; omega) (by rw [e]; omega) (by rw [e]; exact ho) ht (K H locs ls c g1 g2 g3 g4)

theorem x_tabOut {dflt lo hi : Int} {offs : Array Int} {a : Int} (tgt : Nat) (C : OKc G X l own nm cc nL ret d mc ms) (D : dx cc pc (.tableswitch dflt lo hi offs) len pc1) (hs : -2147483648 ≤ a ∧ a < 2147483648) (h1 : a < lo ∨ hi < a) (ht : (pc : Int) + dflt = (tgt : Int)) (K : WX G X k n ws tgt lv st) : WX G X k n ws pc lv (.int (zI a) :: st) := by
  obtain ⟨p, l, e, R, s, m, args, below, meth, c0, cf, Q⟩ := X
  obtain ⟨hx, rfl, rfl, hb, hml, hown, hts, hK, hvm, hlk, hret, hnm⟩ := C
  obtain ⟨D1, rfl⟩ := D
  have e := zI_toInt hs
  exact fun H locs ls c g1 g2 g3 g4 => lv_tableOut hx hb D1 (by rw [e]; exact h1) ht (K H locs ls c g1 g2 g3 g4)

theorem x_lv (lv' : List (Option Value)) (hl : lv'.length = lv.length) (h : ∀ (i : Nat) (v : Value), lv'[i]? = some (some v) → lv[i]? = some (some v)) (K : WX G X k n ws pc lv' st) : WX G X k n ws pc lv st :=
  fun H locs ls c h1 h2 h3 h4 => K H locs ls c h1 h2 h3 ⟨h4.1.trans hl.symm, h4.2.1, fun i v hi => h4.2.2 i v (h i v hi)⟩

theorem x_ws (ws' : List SA) (h : ∀ cf c, WF ws cf c → WF ws' cf c) (K : WX G X k n ws' pc lv st) : WX G X k n ws pc lv st :=
  fun H locs ls c h1 h2 h3 h4 => K H locs ls c (h _ _ h1) h2 h3 h4

theorem x_pick (ws' : List SA) (is : List Nat) (hL : is.map (fun i => ws[i]?) = ws'.map some) (hn : va_nd is = true) (K : WX G X k n ws' pc lv st) : WX G X k n ws pc lv st :=
  x_ws ws' (fun _ _ h => WF_pick is hL hn h) K

theorem x_widen {k' n' : Nat} (h1 : k ≤ k') (h2 : n ≤ n') (K : WX G X k' n' ws pc lv st) : WX G X k n ws pc lv st :=
  fun H locs ls c g1 g2 g3 g4 => W.widen h1 h2 (K H locs ls c g1 g2 g3 g4)
end Rules
