/-! Names, keywords, tokens: the class's and the reference's. -/
theorem top_s (q : Nat) (v : Int) (f k : Nat) : top q v (f + 1) k = if v / pw q (k + 1) < q then k else top q v f (k + 1) := rfl
theorem p27 : pw 27 1 = 1 ∧ pw 27 2 = 27 ∧ pw 27 3 = 729 ∧ pw 27 4 = 19683 ∧ pw 27 5 = 531441 ∧ pw 27 6 = 14348907 := by decide +kernel

theorem dv_1 {v q c : Int} (e : v = 27 * q + c - 96) (h : 97 ≤ c ∧ c ≤ 122) : v / 27 = q ∧ v % 27 = c - 96 := by omega
theorem dv_2 (v : Int) : v / 729 = v / 27 / 27 := by
  first
  | (show v / (27 * 27) = v / 27 / 27; exact (Int.ediv_ediv_of_nonneg (by decide)).symm)
  | omega
theorem dv_3 (v : Int) : v / 19683 = v / 729 / 27 := by
  first
  | (show v / (729 * 27) = v / 729 / 27; exact (Int.ediv_ediv_of_nonneg (by decide)).symm)
  | omega
theorem dv_4 (v : Int) : v / 531441 = v / 19683 / 27 := by
  first
  | (show v / (19683 * 27) = v / 19683 / 27; exact (Int.ediv_ediv_of_nonneg (by decide)).symm)
  | omega
theorem dv_5 (v : Int) : v / 14348907 = v / 531441 / 27 := by
  first
  | (show v / (531441 * 27) = v / 531441 / 27; exact (Int.ediv_ediv_of_nonneg (by decide)).symm)
  | omega
theorem dv_g {v k q : Int} (h : v / k = q) (hq : 27 ≤ q) : ¬ v / k < ((27 : Nat) : Int) := by rw [h]; omega
theorem dv_l {v k q : Int} (h : v / k = q) (hq : q < 27) : v / k < ((27 : Nat) : Int) := by rw [h]; omega
theorem dv_c {v k q c : Int} (h : v / k = q) (hq : q % 27 = c - 96) : 96 + v / k % ((27 : Nat) : Int) = c := by rw [h]; omega
theorem dv_b {v q c : Int} (e : v = 27 * q + c - 96) (h : 97 ≤ c ∧ c ≤ 122) (hq : 1 ≤ q) : 27 ≤ v := by omega

theorem namOk_pf : namOk := by
  intro u hu hl
  obtain ⟨p1, p2, p3, p4, p5, p6⟩ := p27
  match u, hu, hl with
  | [], _, _ => rfl
  | [a], _, hl =>
    have ha := hl a (by simp)
    show nam (27 * 0 + a - 96) = _
    obtain ⟨q1, e1⟩ : ∃ q : Int, q = 27 * 0 + a - 96 := ⟨_, rfl⟩
    rw [← e1]
    obtain ⟨x1, y1⟩ := dv_1 e1 ha
    have l1 : 1 ≤ q1 := by omega
    have u1 : q1 < 27 := by omega
    have z0 : q1 / 1 = q1 := Int.ediv_one _
    have t : top 27 q1 10 0 = 0 := by rw [top_s, if_pos (by rw [p1]; exact dv_l z0 u1)]
    unfold nam
    rw [if_pos (Int.lt_of_lt_of_le (by decide) l1), t]
    show [96 + q1 / pw 27 1 % (27 : Nat)] = [a]
    rw [p1]
    have ga : 96 + q1 / 1 % ((27 : Nat) : Int) = a := dv_c z0 y1
    rw [ga]
  | [a, b], _, hl =>
    have ha := hl a (by simp)
    have hb := hl b (by simp)
    show nam (27 * (27 * 0 + a - 96) + b - 96) = _
    obtain ⟨q1, e1⟩ : ∃ q : Int, q = 27 * 0 + a - 96 := ⟨_, rfl⟩
    rw [← e1]
    obtain ⟨x1, y1⟩ := dv_1 e1 ha
    obtain ⟨q2, e2⟩ : ∃ q : Int, q = 27 * q1 + b - 96 := ⟨_, rfl⟩
    rw [← e2]
    obtain ⟨x2, y2⟩ := dv_1 e2 hb
    have l1 : 1 ≤ q1 := by omega
    have u1 : q1 < 27 := by omega
    have b2 : 27 ≤ q2 := dv_b e2 hb l1
    have z0 : q2 / 1 = q2 := Int.ediv_one _
    have z1 : q2 / 27 = q1 := x2
    have t : top 27 q2 10 0 = 1 := by rw [top_s, if_neg (by rw [p1]; exact dv_g z0 b2), top_s, if_pos (by rw [p2]; exact dv_l z1 u1)]
    unfold nam
    rw [if_pos (Int.lt_of_lt_of_le (by decide) b2), t]
    show [96 + q2 / pw 27 2 % (27 : Nat), 96 + q2 / pw 27 1 % (27 : Nat)] = [a, b]
    rw [p2, p1]
    have ga : 96 + q2 / 27 % ((27 : Nat) : Int) = a := dv_c z1 y1
    have gb : 96 + q2 / 1 % ((27 : Nat) : Int) = b := dv_c z0 y2
    rw [ga, gb]
  | [a, b, c], _, hl =>
    have ha := hl a (by simp)
    have hb := hl b (by simp)
    have hc := hl c (by simp)
    show nam (27 * (27 * (27 * 0 + a - 96) + b - 96) + c - 96) = _
    obtain ⟨q1, e1⟩ : ∃ q : Int, q = 27 * 0 + a - 96 := ⟨_, rfl⟩
    rw [← e1]
    obtain ⟨x1, y1⟩ := dv_1 e1 ha
    obtain ⟨q2, e2⟩ : ∃ q : Int, q = 27 * q1 + b - 96 := ⟨_, rfl⟩
    rw [← e2]
    obtain ⟨x2, y2⟩ := dv_1 e2 hb
    obtain ⟨q3, e3⟩ : ∃ q : Int, q = 27 * q2 + c - 96 := ⟨_, rfl⟩
    rw [← e3]
    obtain ⟨x3, y3⟩ := dv_1 e3 hc
    have l1 : 1 ≤ q1 := by omega
    have u1 : q1 < 27 := by omega
    have b2 : 27 ≤ q2 := dv_b e2 hb l1
    have b3 : 27 ≤ q3 := dv_b e3 hc (Int.le_trans (by decide) b2)
    have z0 : q3 / 1 = q3 := Int.ediv_one _
    have z1 : q3 / 27 = q2 := x3
    have z2 : q3 / 729 = q1 := by rw [dv_2, z1, x2]
    have t : top 27 q3 10 0 = 2 := by rw [top_s, if_neg (by rw [p1]; exact dv_g z0 b3), top_s, if_neg (by rw [p2]; exact dv_g z1 b2), top_s, if_pos (by rw [p3]; exact dv_l z2 u1)]
    unfold nam
    rw [if_pos (Int.lt_of_lt_of_le (by decide) b3), t]
    show [96 + q3 / pw 27 3 % (27 : Nat), 96 + q3 / pw 27 2 % (27 : Nat), 96 + q3 / pw 27 1 % (27 : Nat)] = [a, b, c]
    rw [p3, p2, p1]
    have ga : 96 + q3 / 729 % ((27 : Nat) : Int) = a := dv_c z2 y1
    have gb : 96 + q3 / 27 % ((27 : Nat) : Int) = b := dv_c z1 y2
    have gc : 96 + q3 / 1 % ((27 : Nat) : Int) = c := dv_c z0 y3
    rw [ga, gb, gc]
  | [a, b, c, d], _, hl =>
    have ha := hl a (by simp)
    have hb := hl b (by simp)
    have hc := hl c (by simp)
    have hd := hl d (by simp)
    show nam (27 * (27 * (27 * (27 * 0 + a - 96) + b - 96) + c - 96) + d - 96) = _
    obtain ⟨q1, e1⟩ : ∃ q : Int, q = 27 * 0 + a - 96 := ⟨_, rfl⟩
    rw [← e1]
    obtain ⟨x1, y1⟩ := dv_1 e1 ha
    obtain ⟨q2, e2⟩ : ∃ q : Int, q = 27 * q1 + b - 96 := ⟨_, rfl⟩
    rw [← e2]
    obtain ⟨x2, y2⟩ := dv_1 e2 hb
    obtain ⟨q3, e3⟩ : ∃ q : Int, q = 27 * q2 + c - 96 := ⟨_, rfl⟩
    rw [← e3]
    obtain ⟨x3, y3⟩ := dv_1 e3 hc
    obtain ⟨q4, e4⟩ : ∃ q : Int, q = 27 * q3 + d - 96 := ⟨_, rfl⟩
    rw [← e4]
    obtain ⟨x4, y4⟩ := dv_1 e4 hd
    have l1 : 1 ≤ q1 := by omega
    have u1 : q1 < 27 := by omega
    have b2 : 27 ≤ q2 := dv_b e2 hb l1
    have b3 : 27 ≤ q3 := dv_b e3 hc (Int.le_trans (by decide) b2)
    have b4 : 27 ≤ q4 := dv_b e4 hd (Int.le_trans (by decide) b3)
    have z0 : q4 / 1 = q4 := Int.ediv_one _
    have z1 : q4 / 27 = q3 := x4
    have z2 : q4 / 729 = q2 := by rw [dv_2, z1, x3]
    have z3 : q4 / 19683 = q1 := by rw [dv_3, z2, x2]
    have t : top 27 q4 10 0 = 3 := by rw [top_s, if_neg (by rw [p1]; exact dv_g z0 b4), top_s, if_neg (by rw [p2]; exact dv_g z1 b3), top_s, if_neg (by rw [p3]; exact dv_g z2 b2), top_s, if_pos (by rw [p4]; exact dv_l z3 u1)]
    unfold nam
    rw [if_pos (Int.lt_of_lt_of_le (by decide) b4), t]
    show [96 + q4 / pw 27 4 % (27 : Nat), 96 + q4 / pw 27 3 % (27 : Nat), 96 + q4 / pw 27 2 % (27 : Nat), 96 + q4 / pw 27 1 % (27 : Nat)] = [a, b, c, d]
    rw [p4, p3, p2, p1]
    have ga : 96 + q4 / 19683 % ((27 : Nat) : Int) = a := dv_c z3 y1
    have gb : 96 + q4 / 729 % ((27 : Nat) : Int) = b := dv_c z2 y2
    have gc : 96 + q4 / 27 % ((27 : Nat) : Int) = c := dv_c z1 y3
    have gd : 96 + q4 / 1 % ((27 : Nat) : Int) = d := dv_c z0 y4
    rw [ga, gb, gc, gd]
  | [a, b, c, d, e], _, hl =>
    have ha := hl a (by simp)
    have hb := hl b (by simp)
    have hc := hl c (by simp)
    have hd := hl d (by simp)
    have he := hl e (by simp)
    show nam (27 * (27 * (27 * (27 * (27 * 0 + a - 96) + b - 96) + c - 96) + d - 96) + e - 96) = _
    obtain ⟨q1, e1⟩ : ∃ q : Int, q = 27 * 0 + a - 96 := ⟨_, rfl⟩
    rw [← e1]
    obtain ⟨x1, y1⟩ := dv_1 e1 ha
    obtain ⟨q2, e2⟩ : ∃ q : Int, q = 27 * q1 + b - 96 := ⟨_, rfl⟩
    rw [← e2]
    obtain ⟨x2, y2⟩ := dv_1 e2 hb
    obtain ⟨q3, e3⟩ : ∃ q : Int, q = 27 * q2 + c - 96 := ⟨_, rfl⟩
    rw [← e3]
    obtain ⟨x3, y3⟩ := dv_1 e3 hc
    obtain ⟨q4, e4⟩ : ∃ q : Int, q = 27 * q3 + d - 96 := ⟨_, rfl⟩
    rw [← e4]
    obtain ⟨x4, y4⟩ := dv_1 e4 hd
    obtain ⟨q5, e5⟩ : ∃ q : Int, q = 27 * q4 + e - 96 := ⟨_, rfl⟩
    rw [← e5]
    obtain ⟨x5, y5⟩ := dv_1 e5 he
    have l1 : 1 ≤ q1 := by omega
    have u1 : q1 < 27 := by omega
    have b2 : 27 ≤ q2 := dv_b e2 hb l1
    have b3 : 27 ≤ q3 := dv_b e3 hc (Int.le_trans (by decide) b2)
    have b4 : 27 ≤ q4 := dv_b e4 hd (Int.le_trans (by decide) b3)
    have b5 : 27 ≤ q5 := dv_b e5 he (Int.le_trans (by decide) b4)
    have z0 : q5 / 1 = q5 := Int.ediv_one _
    have z1 : q5 / 27 = q4 := x5
    have z2 : q5 / 729 = q3 := by rw [dv_2, z1, x4]
    have z3 : q5 / 19683 = q2 := by rw [dv_3, z2, x3]
    have z4 : q5 / 531441 = q1 := by rw [dv_4, z3, x2]
    have t : top 27 q5 10 0 = 4 := by rw [top_s, if_neg (by rw [p1]; exact dv_g z0 b5), top_s, if_neg (by rw [p2]; exact dv_g z1 b4), top_s, if_neg (by rw [p3]; exact dv_g z2 b3), top_s, if_neg (by rw [p4]; exact dv_g z3 b2), top_s, if_pos (by rw [p5]; exact dv_l z4 u1)]
    unfold nam
    rw [if_pos (Int.lt_of_lt_of_le (by decide) b5), t]
    show [96 + q5 / pw 27 5 % (27 : Nat), 96 + q5 / pw 27 4 % (27 : Nat), 96 + q5 / pw 27 3 % (27 : Nat), 96 + q5 / pw 27 2 % (27 : Nat), 96 + q5 / pw 27 1 % (27 : Nat)] = [a, b, c, d, e]
    rw [p5, p4, p3, p2, p1]
    have ga : 96 + q5 / 531441 % ((27 : Nat) : Int) = a := dv_c z4 y1
    have gb : 96 + q5 / 19683 % ((27 : Nat) : Int) = b := dv_c z3 y2
    have gc : 96 + q5 / 729 % ((27 : Nat) : Int) = c := dv_c z2 y3
    have gd : 96 + q5 / 27 % ((27 : Nat) : Int) = d := dv_c z1 y4
    have ge : 96 + q5 / 1 % ((27 : Nat) : Int) = e := dv_c z0 y5
    rw [ga, gb, gc, gd, ge]
  | [a, b, c, d, e, f], _, hl =>
    have ha := hl a (by simp)
    have hb := hl b (by simp)
    have hc := hl c (by simp)
    have hd := hl d (by simp)
    have he := hl e (by simp)
    have hf := hl f (by simp)
    show nam (27 * (27 * (27 * (27 * (27 * (27 * 0 + a - 96) + b - 96) + c - 96) + d - 96) + e - 96) + f - 96) = _
    obtain ⟨q1, e1⟩ : ∃ q : Int, q = 27 * 0 + a - 96 := ⟨_, rfl⟩
    rw [← e1]
    obtain ⟨x1, y1⟩ := dv_1 e1 ha
    obtain ⟨q2, e2⟩ : ∃ q : Int, q = 27 * q1 + b - 96 := ⟨_, rfl⟩
    rw [← e2]
    obtain ⟨x2, y2⟩ := dv_1 e2 hb
    obtain ⟨q3, e3⟩ : ∃ q : Int, q = 27 * q2 + c - 96 := ⟨_, rfl⟩
    rw [← e3]
    obtain ⟨x3, y3⟩ := dv_1 e3 hc
    obtain ⟨q4, e4⟩ : ∃ q : Int, q = 27 * q3 + d - 96 := ⟨_, rfl⟩
    rw [← e4]
    obtain ⟨x4, y4⟩ := dv_1 e4 hd
    obtain ⟨q5, e5⟩ : ∃ q : Int, q = 27 * q4 + e - 96 := ⟨_, rfl⟩
    rw [← e5]
    obtain ⟨x5, y5⟩ := dv_1 e5 he
    obtain ⟨q6, e6⟩ : ∃ q : Int, q = 27 * q5 + f - 96 := ⟨_, rfl⟩
    rw [← e6]
    obtain ⟨x6, y6⟩ := dv_1 e6 hf
    have l1 : 1 ≤ q1 := by omega
    have u1 : q1 < 27 := by omega
    have b2 : 27 ≤ q2 := dv_b e2 hb l1
    have b3 : 27 ≤ q3 := dv_b e3 hc (Int.le_trans (by decide) b2)
    have b4 : 27 ≤ q4 := dv_b e4 hd (Int.le_trans (by decide) b3)
    have b5 : 27 ≤ q5 := dv_b e5 he (Int.le_trans (by decide) b4)
    have b6 : 27 ≤ q6 := dv_b e6 hf (Int.le_trans (by decide) b5)
    have z0 : q6 / 1 = q6 := Int.ediv_one _
    have z1 : q6 / 27 = q5 := x6
    have z2 : q6 / 729 = q4 := by rw [dv_2, z1, x5]
    have z3 : q6 / 19683 = q3 := by rw [dv_3, z2, x4]
    have z4 : q6 / 531441 = q2 := by rw [dv_4, z3, x3]
    have z5 : q6 / 14348907 = q1 := by rw [dv_5, z4, x2]
    have t : top 27 q6 10 0 = 5 := by rw [top_s, if_neg (by rw [p1]; exact dv_g z0 b6), top_s, if_neg (by rw [p2]; exact dv_g z1 b5), top_s, if_neg (by rw [p3]; exact dv_g z2 b4), top_s, if_neg (by rw [p4]; exact dv_g z3 b3), top_s, if_neg (by rw [p5]; exact dv_g z4 b2), top_s, if_pos (by rw [p6]; exact dv_l z5 u1)]
    unfold nam
    rw [if_pos (Int.lt_of_lt_of_le (by decide) b6), t]
    show [96 + q6 / pw 27 6 % (27 : Nat), 96 + q6 / pw 27 5 % (27 : Nat), 96 + q6 / pw 27 4 % (27 : Nat), 96 + q6 / pw 27 3 % (27 : Nat), 96 + q6 / pw 27 2 % (27 : Nat), 96 + q6 / pw 27 1 % (27 : Nat)] = [a, b, c, d, e, f]
    rw [p6, p5, p4, p3, p2, p1]
    have ga : 96 + q6 / 14348907 % ((27 : Nat) : Int) = a := dv_c z5 y1
    have gb : 96 + q6 / 531441 % ((27 : Nat) : Int) = b := dv_c z4 y2
    have gc : 96 + q6 / 19683 % ((27 : Nat) : Int) = c := dv_c z3 y3
    have gd : 96 + q6 / 729 % ((27 : Nat) : Int) = d := dv_c z2 y4
    have ge : 96 + q6 / 27 % ((27 : Nat) : Int) = e := dv_c z1 y5
    have gf : 96 + q6 / 1 % ((27 : Nat) : Int) = f := dv_c z0 y6
    rw [ga, gb, gc, gd, ge, gf]
  | (_ :: _ :: _ :: _ :: _ :: _ :: _ :: _), hu, _ => exact absurd hu (by simp)
