/-! The law, case by case: every outcome. -/
set_option maxHeartbeats 4000000 in
set_option maxRecDepth 100000 in
theorem lcs_0 {G : Gm} {X : Cx} {l : Launch} {x : LFx} {k nn : Nat} {i b : Int} {J : Nat → Int} {M : Pool} {n : Net} {N K : Nat → Net} {Fu Fb : Nat → Int} {w : List Int} {z : Int} {I TL TB : Nat → Int} {N9 : Nat → Net} {f : Nat → Int64} {fD : Nat → UInt64} (H : LKn G l x) {nmL : String} (hC : OKc G X l RL nmL cL_law 9 (some .boolean) 1400 600000 6200000) (hI : INV b J M n N K Fu Fb w z I) (hb : b ≤ 15000000) (hk : k + 100 ≤ 600000) (hn : nn + 2200 ≤ 6200000) (hi : 0 ≤ i ∧ i + 6 ≤ (x.L : Int)) (K9 : LCont G X x (b + 8000) (k + 100) (nn + 2200) i) : WX G X k nn (LAT G x J M n N K Fu Fb w z I TL TB N9 f fD) 256 (LLV x i) [] := by
  obtain ⟨a1, ha1⟩ : ∃ a, (x.xs (i + 1).toNat).toInt = a := ⟨_, rfl⟩
  obtain ⟨a2, ha2⟩ : ∃ a, (x.xs (i + 2).toNat).toInt = a := ⟨_, rfl⟩
  obtain ⟨a3, ha3⟩ : ∃ a, (x.xs (i + 3).toNat).toInt = a := ⟨_, rfl⟩
  obtain ⟨a4, ha4⟩ : ∃ a, (x.xs (i + 4).toNat).toInt = a := ⟨_, rfl⟩
  obtain ⟨a5, ha5⟩ : ∃ a, (x.xs (i + 5).toNat).toInt = a := ⟨_, rfl⟩
  by_cases q0 : z + 20 ≤ 400
  all_goals by_cases q1 : 400 < z + 20
  all_goals (first | exact lc_0_0 H hC hI hb hk hn hi ha1 ha2 ha3 ha4 ha5 (by omega) K9 | exact lc_0_1 H hC hI hb hk hn hi ha1 ha2 ha3 ha4 ha5 (by omega) K9)

set_option maxHeartbeats 4000000 in
set_option maxRecDepth 100000 in
theorem lcs_1 {G : Gm} {X : Cx} {l : Launch} {x : LFx} {k nn : Nat} {i b : Int} {J : Nat → Int} {M : Pool} {n : Net} {N K : Nat → Net} {Fu Fb : Nat → Int} {w : List Int} {z : Int} {I TL TB : Nat → Int} {N9 : Nat → Net} {f : Nat → Int64} {fD : Nat → UInt64} (H : LKn G l x) {nmL : String} (hC : OKc G X l RL nmL cL_law 9 (some .boolean) 1400 600000 6200000) (hI : INV b J M n N K Fu Fb w z I) (hb : b ≤ 15000000) (hk : k + 100 ≤ 600000) (hn : nn + 2200 ≤ 6200000) (hi : 0 ≤ i ∧ i + 6 ≤ (x.L : Int)) (K9 : LCont G X x (b + 8000) (k + 100) (nn + 2200) i) : WX G X k nn (LAT G x J M n N K Fu Fb w z I TL TB N9 f fD) 360 (LLV x i) [] := by
  obtain ⟨a1, ha1⟩ : ∃ a, (x.xs (i + 1).toNat).toInt = a := ⟨_, rfl⟩
  by_cases q0 : 0 ≤ a1 ∧ a1 ≤ z
  all_goals by_cases q1 : (0 ≤ a1 ∧ a1 ≤ z)
  all_goals (first | exact lc_1_0 H hC hI hb hk hn hi ha1 (by omega) K9 | exact lc_1_1 H hC hI hb hk hn hi ha1 (by omega) K9)

set_option maxHeartbeats 4000000 in
set_option maxRecDepth 100000 in
theorem lcs_2 {G : Gm} {X : Cx} {l : Launch} {x : LFx} {k nn : Nat} {i b : Int} {J : Nat → Int} {M : Pool} {n : Net} {N K : Nat → Net} {Fu Fb : Nat → Int} {w : List Int} {z : Int} {I TL TB : Nat → Int} {N9 : Nat → Net} {f : Nat → Int64} {fD : Nat → UInt64} (H : LKn G l x) {nmL : String} (hC : OKc G X l RL nmL cL_law 9 (some .boolean) 1400 600000 6200000) (hI : INV b J M n N K Fu Fb w z I) (hb : b ≤ 15000000) (hk : k + 100 ≤ 600000) (hn : nn + 2200 ≤ 6200000) (hi : 0 ≤ i ∧ i + 6 ≤ (x.L : Int)) (K9 : LCont G X x (b + 8000) (k + 100) (nn + 2200) i) : WX G X k nn (LAT G x J M n N K Fu Fb w z I TL TB N9 f fD) 396 (LLV x i) [] := by
  by_cases q0 : (ldR Fb I TL TB).1 12 = 0
  all_goals (first | exact lc_2_0 H hC hI hb hk hn hi  (by omega) K9 | exact lc_2_1 H hC hI hb hk hn hi  (by omega) K9)

set_option maxHeartbeats 4000000 in
set_option maxRecDepth 100000 in
theorem lcs_3 {G : Gm} {X : Cx} {l : Launch} {x : LFx} {k nn : Nat} {i b : Int} {J : Nat → Int} {M : Pool} {n : Net} {N K : Nat → Net} {Fu Fb : Nat → Int} {w : List Int} {z : Int} {I TL TB : Nat → Int} {N9 : Nat → Net} {f : Nat → Int64} {fD : Nat → UInt64} (H : LKn G l x) {nmL : String} (hC : OKc G X l RL nmL cL_law 9 (some .boolean) 1400 600000 6200000) (hI : INV b J M n N K Fu Fb w z I) (hb : b ≤ 15000000) (hk : k + 100 ≤ 600000) (hn : nn + 2200 ≤ 6200000) (hi : 0 ≤ i ∧ i + 6 ≤ (x.L : Int)) (K9 : LCont G X x (b + 8000) (k + 100) (nn + 2200) i) : WX G X k nn (LAT G x J M n N K Fu Fb w z I TL TB N9 f fD) 409 (LLV x i) [] := by
  exact lc_3_0 H hC hI hb hk hn hi   K9

set_option maxHeartbeats 4000000 in
set_option maxRecDepth 100000 in
theorem lcs_4 {G : Gm} {X : Cx} {l : Launch} {x : LFx} {k nn : Nat} {i b : Int} {J : Nat → Int} {M : Pool} {n : Net} {N K : Nat → Net} {Fu Fb : Nat → Int} {w : List Int} {z : Int} {I TL TB : Nat → Int} {N9 : Nat → Net} {f : Nat → Int64} {fD : Nat → UInt64} (H : LKn G l x) {nmL : String} (hC : OKc G X l RL nmL cL_law 9 (some .boolean) 1400 600000 6200000) (hI : INV b J M n N K Fu Fb w z I) (hb : b ≤ 15000000) (hk : k + 100 ≤ 600000) (hn : nn + 2200 ≤ 6200000) (hi : 0 ≤ i ∧ i + 6 ≤ (x.L : Int)) (K9 : LCont G X x (b + 8000) (k + 100) (nn + 2200) i) : WX G X k nn (LAT G x J M n N K Fu Fb w z I TL TB N9 f fD) 422 (LLV x i) [] := by
  exact lc_4_0 H hC hI hb hk hn hi   K9

set_option maxHeartbeats 4000000 in
set_option maxRecDepth 100000 in
theorem lcs_5 {G : Gm} {X : Cx} {l : Launch} {x : LFx} {k nn : Nat} {i b : Int} {J : Nat → Int} {M : Pool} {n : Net} {N K : Nat → Net} {Fu Fb : Nat → Int} {w : List Int} {z : Int} {I TL TB : Nat → Int} {N9 : Nat → Net} {f : Nat → Int64} {fD : Nat → UInt64} (H : LKn G l x) {nmL : String} (hC : OKc G X l RL nmL cL_law 9 (some .boolean) 1400 600000 6200000) (hI : INV b J M n N K Fu Fb w z I) (hb : b ≤ 15000000) (hk : k + 100 ≤ 600000) (hn : nn + 2200 ≤ 6200000) (hi : 0 ≤ i ∧ i + 6 ≤ (x.L : Int)) (K9 : LCont G X x (b + 8000) (k + 100) (nn + 2200) i) : WX G X k nn (LAT G x J M n N K Fu Fb w z I TL TB N9 f fD) 435 (LLV x i) [] := by
  exact lc_5_0 H hC hI hb hk hn hi   K9

set_option maxHeartbeats 4000000 in
set_option maxRecDepth 100000 in
theorem lcs_6 {G : Gm} {X : Cx} {l : Launch} {x : LFx} {k nn : Nat} {i b : Int} {J : Nat → Int} {M : Pool} {n : Net} {N K : Nat → Net} {Fu Fb : Nat → Int} {w : List Int} {z : Int} {I TL TB : Nat → Int} {N9 : Nat → Net} {f : Nat → Int64} {fD : Nat → UInt64} (H : LKn G l x) {nmL : String} (hC : OKc G X l RL nmL cL_law 9 (some .boolean) 1400 600000 6200000) (hI : INV b J M n N K Fu Fb w z I) (hb : b ≤ 15000000) (hk : k + 100 ≤ 600000) (hn : nn + 2200 ≤ 6200000) (hi : 0 ≤ i ∧ i + 6 ≤ (x.L : Int)) (K9 : LCont G X x (b + 8000) (k + 100) (nn + 2200) i) : WX G X k nn (LAT G x J M n N K Fu Fb w z I TL TB N9 f fD) 448 (LLV x i) [] := by
  obtain ⟨a1, ha1⟩ : ∃ a, (x.xs (i + 1).toNat).toInt = a := ⟨_, rfl⟩
  by_cases q0 : 0 ≤ a1 ∧ a1 ≤ 10
  all_goals by_cases q1 : (0 ≤ a1 ∧ a1 ≤ 10)
  all_goals (first | exact lc_6_0 H hC hI hb hk hn hi ha1 (by omega) K9 | exact lc_6_1 H hC hI hb hk hn hi ha1 (by omega) K9)

set_option maxHeartbeats 4000000 in
set_option maxRecDepth 100000 in
theorem lcs_7 {G : Gm} {X : Cx} {l : Launch} {x : LFx} {k nn : Nat} {i b : Int} {J : Nat → Int} {M : Pool} {n : Net} {N K : Nat → Net} {Fu Fb : Nat → Int} {w : List Int} {z : Int} {I TL TB : Nat → Int} {N9 : Nat → Net} {f : Nat → Int64} {fD : Nat → UInt64} (H : LKn G l x) {nmL : String} (hC : OKc G X l RL nmL cL_law 9 (some .boolean) 1400 600000 6200000) (hI : INV b J M n N K Fu Fb w z I) (hb : b ≤ 15000000) (hk : k + 100 ≤ 600000) (hn : nn + 2200 ≤ 6200000) (hi : 0 ≤ i ∧ i + 6 ≤ (x.L : Int)) (K9 : LCont G X x (b + 8000) (k + 100) (nn + 2200) i) : WX G X k nn (LAT G x J M n N K Fu Fb w z I TL TB N9 f fD) 504 (LLV x i) [] := by
  obtain ⟨a1, ha1⟩ : ∃ a, (x.xs (i + 1).toNat).toInt = a := ⟨_, rfl⟩
  obtain ⟨a2, ha2⟩ : ∃ a, (x.xs (i + 2).toNat).toInt = a := ⟨_, rfl⟩
  by_cases q0 : 0 ≤ a1 ∧ a1 < n (-1) 0
  all_goals by_cases q1 : 0 ≤ a2 ∧ a2 ≤ 10
  all_goals by_cases q2 : (0 ≤ a1 ∧ a1 < n (-1) 0)
  all_goals by_cases q3 : (0 ≤ a2 ∧ a2 ≤ 10)
  all_goals (first | exact lc_7_0 H hC hI hb hk hn hi ha1 ha2 (by omega) (by omega) K9 | exact lc_7_1 H hC hI hb hk hn hi ha1 ha2 (by omega) K9 | exact lc_7_2 H hC hI hb hk hn hi ha1 ha2 (by omega) (by omega) K9)

set_option maxHeartbeats 4000000 in
set_option maxRecDepth 100000 in
theorem lcs_8 {G : Gm} {X : Cx} {l : Launch} {x : LFx} {k nn : Nat} {i b : Int} {J : Nat → Int} {M : Pool} {n : Net} {N K : Nat → Net} {Fu Fb : Nat → Int} {w : List Int} {z : Int} {I TL TB : Nat → Int} {N9 : Nat → Net} {f : Nat → Int64} {fD : Nat → UInt64} (H : LKn G l x) {nmL : String} (hC : OKc G X l RL nmL cL_law 9 (some .boolean) 1400 600000 6200000) (hI : INV b J M n N K Fu Fb w z I) (hb : b ≤ 15000000) (hk : k + 100 ≤ 600000) (hn : nn + 2200 ≤ 6200000) (hi : 0 ≤ i ∧ i + 6 ≤ (x.L : Int)) (K9 : LCont G X x (b + 8000) (k + 100) (nn + 2200) i) : WX G X k nn (LAT G x J M n N K Fu Fb w z I TL TB N9 f fD) 572 (LLV x i) [] := by
  obtain ⟨a1, ha1⟩ : ∃ a, (x.xs (i + 1).toNat).toInt = a := ⟨_, rfl⟩
  obtain ⟨a2, ha2⟩ : ∃ a, (x.xs (i + 2).toNat).toInt = a := ⟨_, rfl⟩
  by_cases q0 : 0 ≤ a1 ∧ a1 < n (-1) 0
  all_goals by_cases q1 : 0 ≤ a2 ∧ a2 < 12
  all_goals by_cases q2 : (0 ≤ a1 ∧ a1 < n (-1) 0)
  all_goals by_cases q3 : (0 ≤ a2 ∧ a2 < 12)
  all_goals (first | exact lc_8_0 H hC hI hb hk hn hi ha1 ha2 (by omega) (by omega) K9 | exact lc_8_1 H hC hI hb hk hn hi ha1 ha2 (by omega) K9 | exact lc_8_2 H hC hI hb hk hn hi ha1 ha2 (by omega) (by omega) K9)

set_option maxHeartbeats 4000000 in
set_option maxRecDepth 100000 in
theorem lcs_9 {G : Gm} {X : Cx} {l : Launch} {x : LFx} {k nn : Nat} {i b : Int} {J : Nat → Int} {M : Pool} {n : Net} {N K : Nat → Net} {Fu Fb : Nat → Int} {w : List Int} {z : Int} {I TL TB : Nat → Int} {N9 : Nat → Net} {f : Nat → Int64} {fD : Nat → UInt64} (H : LKn G l x) {nmL : String} (hC : OKc G X l RL nmL cL_law 9 (some .boolean) 1400 600000 6200000) (hI : INV b J M n N K Fu Fb w z I) (hb : b ≤ 15000000) (hk : k + 100 ≤ 600000) (hn : nn + 2200 ≤ 6200000) (hi : 0 ≤ i ∧ i + 6 ≤ (x.L : Int)) (K9 : LCont G X x (b + 8000) (k + 100) (nn + 2200) i) : WX G X k nn (LAT G x J M n N K Fu Fb w z I TL TB N9 f fD) 640 (LLV x i) [] := by
  obtain ⟨a1, ha1⟩ : ∃ a, (x.xs (i + 1).toNat).toInt = a := ⟨_, rfl⟩
  obtain ⟨a2, ha2⟩ : ∃ a, (x.xs (i + 2).toNat).toInt = a := ⟨_, rfl⟩
  obtain ⟨a3, ha3⟩ : ∃ a, (x.xs (i + 3).toNat).toInt = a := ⟨_, rfl⟩
  by_cases q0 : a2 = 0
  all_goals by_cases q1 : 0 ≤ a1 ∧ a1 < n (-1) 0
  all_goals by_cases q2 : 0 ≤ a3 ∧ a3 < n a1 7
  all_goals by_cases q3 : (0 ≤ a1 ∧ a1 < n (-1) 0)
  all_goals by_cases q4 : (0 ≤ a3 ∧ a3 < n a1 7)
  all_goals by_cases q5 : 0 ≤ a3 ∧ a3 < n a1 6
  all_goals by_cases q6 : (0 ≤ a3 ∧ a3 < n a1 6)
  all_goals (first | exact lc_9_0T H hC hI hb hk hn hi ha1 ha2 ha3 (by omega) (by omega) (by omega) K9 | exact lc_9_1T H hC hI hb hk hn hi ha1 ha2 ha3 (by omega) (by omega) K9 | exact lc_9_1bT H hC hI hb hk hn hi ha1 ha2 ha3 (by omega) (by omega) (by omega) K9 | exact lc_9_0F H hC hI hb hk hn hi ha1 ha2 ha3 (by omega) (by omega) (by omega) K9 | exact lc_9_1F H hC hI hb hk hn hi ha1 ha2 ha3 (by omega) (by omega) K9 | exact lc_9_1bF H hC hI hb hk hn hi ha1 ha2 ha3 (by omega) (by omega) (by omega) K9)

set_option maxHeartbeats 4000000 in
set_option maxRecDepth 100000 in
theorem lcs_10 {G : Gm} {X : Cx} {l : Launch} {x : LFx} {k nn : Nat} {i b : Int} {J : Nat → Int} {M : Pool} {n : Net} {N K : Nat → Net} {Fu Fb : Nat → Int} {w : List Int} {z : Int} {I TL TB : Nat → Int} {N9 : Nat → Net} {f : Nat → Int64} {fD : Nat → UInt64} (H : LKn G l x) {nmL : String} (hC : OKc G X l RL nmL cL_law 9 (some .boolean) 1400 600000 6200000) (hI : INV b J M n N K Fu Fb w z I) (hb : b ≤ 15000000) (hk : k + 100 ≤ 600000) (hn : nn + 2200 ≤ 6200000) (hi : 0 ≤ i ∧ i + 6 ≤ (x.L : Int)) (K9 : LCont G X x (b + 8000) (k + 100) (nn + 2200) i) : WX G X k nn (LAT G x J M n N K Fu Fb w z I TL TB N9 f fD) 736 (LLV x i) [] := by
  obtain ⟨a1, ha1⟩ : ∃ a, (x.xs (i + 1).toNat).toInt = a := ⟨_, rfl⟩
  by_cases q0 : 0 ≤ a1 ∧ a1 < n (-1) 0
  all_goals by_cases q1 : (0 ≤ a1 ∧ a1 < n (-1) 0)
  all_goals (first | exact lc_10_0 H hC hI hb hk hn hi ha1 (by omega) K9 | exact lc_10_1 H hC hI hb hk hn hi ha1 (by omega) K9)

set_option maxHeartbeats 4000000 in
set_option maxRecDepth 100000 in
theorem lcs_11 {G : Gm} {X : Cx} {l : Launch} {x : LFx} {k nn : Nat} {i b : Int} {J : Nat → Int} {M : Pool} {n : Net} {N K : Nat → Net} {Fu Fb : Nat → Int} {w : List Int} {z : Int} {I TL TB : Nat → Int} {N9 : Nat → Net} {f : Nat → Int64} {fD : Nat → UInt64} (H : LKn G l x) {nmL : String} (hC : OKc G X l RL nmL cL_law 9 (some .boolean) 1400 600000 6200000) (hI : INV b J M n N K Fu Fb w z I) (hb : b ≤ 15000000) (hk : k + 100 ≤ 600000) (hn : nn + 2200 ≤ 6200000) (hi : 0 ≤ i ∧ i + 6 ≤ (x.L : Int)) (K9 : LCont G X x (b + 8000) (k + 100) (nn + 2200) i) : WX G X k nn (LAT G x J M n N K Fu Fb w z I TL TB N9 f fD) 792 (LLV x i) [] := by
  obtain ⟨a1, ha1⟩ : ∃ a, (x.xs (i + 1).toNat).toInt = a := ⟨_, rfl⟩
  obtain ⟨a2, ha2⟩ : ∃ a, (x.xs (i + 2).toNat).toInt = a := ⟨_, rfl⟩
  by_cases q0 : 0 ≤ a1 ∧ a1 < n (-1) 7
  all_goals by_cases q1 : 0 ≤ a2 ∧ a2 < 5
  all_goals by_cases q2 : (0 ≤ a1 ∧ a1 < n (-1) 7)
  all_goals by_cases q3 : (0 ≤ a2 ∧ a2 < 5)
  all_goals (first | exact lc_11_0 H hC hI hb hk hn hi ha1 ha2 (by omega) (by omega) K9 | exact lc_11_1 H hC hI hb hk hn hi ha1 ha2 (by omega) K9 | exact lc_11_2 H hC hI hb hk hn hi ha1 ha2 (by omega) (by omega) K9)

set_option maxHeartbeats 4000000 in
set_option maxRecDepth 100000 in
theorem lcs_12 {G : Gm} {X : Cx} {l : Launch} {x : LFx} {k nn : Nat} {i b : Int} {J : Nat → Int} {M : Pool} {n : Net} {N K : Nat → Net} {Fu Fb : Nat → Int} {w : List Int} {z : Int} {I TL TB : Nat → Int} {N9 : Nat → Net} {f : Nat → Int64} {fD : Nat → UInt64} (H : LKn G l x) {nmL : String} (hC : OKc G X l RL nmL cL_law 9 (some .boolean) 1400 600000 6200000) (hI : INV b J M n N K Fu Fb w z I) (hb : b ≤ 15000000) (hk : k + 100 ≤ 600000) (hn : nn + 2200 ≤ 6200000) (hi : 0 ≤ i ∧ i + 6 ≤ (x.L : Int)) (K9 : LCont G X x (b + 8000) (k + 100) (nn + 2200) i) : WX G X k nn (LAT G x J M n N K Fu Fb w z I TL TB N9 f fD) 860 (LLV x i) [] := by
  exact lc_12_0 H hC hI hb hk hn hi   K9

set_option maxHeartbeats 4000000 in
set_option maxRecDepth 100000 in
theorem lcs_13 {G : Gm} {X : Cx} {l : Launch} {x : LFx} {k nn : Nat} {i b : Int} {J : Nat → Int} {M : Pool} {n : Net} {N K : Nat → Net} {Fu Fb : Nat → Int} {w : List Int} {z : Int} {I TL TB : Nat → Int} {N9 : Nat → Net} {f : Nat → Int64} {fD : Nat → UInt64} (H : LKn G l x) {nmL : String} (hC : OKc G X l RL nmL cL_law 9 (some .boolean) 1400 600000 6200000) (hI : INV b J M n N K Fu Fb w z I) (hb : b ≤ 15000000) (hk : k + 100 ≤ 600000) (hn : nn + 2200 ≤ 6200000) (hi : 0 ≤ i ∧ i + 6 ≤ (x.L : Int)) (K9 : LCont G X x (b + 8000) (k + 100) (nn + 2200) i) : WX G X k nn (LAT G x J M n N K Fu Fb w z I TL TB N9 f fD) 873 (LLV x i) [] := by
  obtain ⟨a1, ha1⟩ : ∃ a, (x.xs (i + 1).toNat).toInt = a := ⟨_, rfl⟩
  by_cases q0 : 0 ≤ a1 ∧ a1 < n (-1) 0
  all_goals by_cases q1 : (0 ≤ a1 ∧ a1 < n (-1) 0)
  all_goals (first | exact lc_13_0 H hC hI hb hk hn hi ha1 (by omega) K9 | exact lc_13_1 H hC hI hb hk hn hi ha1 (by omega) K9)

set_option maxHeartbeats 4000000 in
set_option maxRecDepth 100000 in
theorem lcs_14 {G : Gm} {X : Cx} {l : Launch} {x : LFx} {k nn : Nat} {i b : Int} {J : Nat → Int} {M : Pool} {n : Net} {N K : Nat → Net} {Fu Fb : Nat → Int} {w : List Int} {z : Int} {I TL TB : Nat → Int} {N9 : Nat → Net} {f : Nat → Int64} {fD : Nat → UInt64} (H : LKn G l x) {nmL : String} (hC : OKc G X l RL nmL cL_law 9 (some .boolean) 1400 600000 6200000) (hI : INV b J M n N K Fu Fb w z I) (hb : b ≤ 15000000) (hk : k + 100 ≤ 600000) (hn : nn + 2200 ≤ 6200000) (hi : 0 ≤ i ∧ i + 6 ≤ (x.L : Int)) (K9 : LCont G X x (b + 8000) (k + 100) (nn + 2200) i) : WX G X k nn (LAT G x J M n N K Fu Fb w z I TL TB N9 f fD) 929 (LLV x i) [] := by
  obtain ⟨a1, ha1⟩ : ∃ a, (x.xs (i + 1).toNat).toInt = a := ⟨_, rfl⟩
  by_cases q0 : 0 ≤ a1 ∧ a1 < n (-1) 0
  all_goals by_cases q1 : (0 ≤ a1 ∧ a1 < n (-1) 0)
  all_goals (first | exact lc_14_0 H hC hI hb hk hn hi ha1 (by omega) K9 | exact lc_14_1 H hC hI hb hk hn hi ha1 (by omega) K9)

set_option maxHeartbeats 4000000 in
set_option maxRecDepth 100000 in
theorem lcs_15 {G : Gm} {X : Cx} {l : Launch} {x : LFx} {k nn : Nat} {i b : Int} {J : Nat → Int} {M : Pool} {n : Net} {N K : Nat → Net} {Fu Fb : Nat → Int} {w : List Int} {z : Int} {I TL TB : Nat → Int} {N9 : Nat → Net} {f : Nat → Int64} {fD : Nat → UInt64} (H : LKn G l x) {nmL : String} (hC : OKc G X l RL nmL cL_law 9 (some .boolean) 1400 600000 6200000) (hI : INV b J M n N K Fu Fb w z I) (hb : b ≤ 15000000) (hk : k + 100 ≤ 600000) (hn : nn + 2200 ≤ 6200000) (hi : 0 ≤ i ∧ i + 6 ≤ (x.L : Int)) (K9 : LCont G X x (b + 8000) (k + 100) (nn + 2200) i) : WX G X k nn (LAT G x J M n N K Fu Fb w z I TL TB N9 f fD) 985 (LLV x i) [] := by
  exact lc_15_0 H hC hI hb hk hn hi   K9

set_option maxHeartbeats 4000000 in
set_option maxRecDepth 100000 in
theorem lcs_16 {G : Gm} {X : Cx} {l : Launch} {x : LFx} {k nn : Nat} {i b : Int} {J : Nat → Int} {M : Pool} {n : Net} {N K : Nat → Net} {Fu Fb : Nat → Int} {w : List Int} {z : Int} {I TL TB : Nat → Int} {N9 : Nat → Net} {f : Nat → Int64} {fD : Nat → UInt64} (H : LKn G l x) {nmL : String} (hC : OKc G X l RL nmL cL_law 9 (some .boolean) 1400 600000 6200000) (hI : INV b J M n N K Fu Fb w z I) (hb : b ≤ 15000000) (hk : k + 100 ≤ 600000) (hn : nn + 2200 ≤ 6200000) (hi : 0 ≤ i ∧ i + 6 ≤ (x.L : Int)) (K9 : LCont G X x (b + 8000) (k + 100) (nn + 2200) i) : WX G X k nn (LAT G x J M n N K Fu Fb w z I TL TB N9 f fD) 998 (LLV x i) [] := by
  obtain ⟨a1, ha1⟩ : ∃ a, (x.xs (i + 1).toNat).toInt = a := ⟨_, rfl⟩
  obtain ⟨a2, ha2⟩ : ∃ a, (x.xs (i + 2).toNat).toInt = a := ⟨_, rfl⟩
  by_cases q0 : 0 ≤ a1 ∧ a1 < n (-1) 0
  all_goals by_cases q1 : 0 ≤ a2 ∧ a2 ≤ 500
  all_goals by_cases q2 : (0 ≤ a1 ∧ a1 < n (-1) 0)
  all_goals by_cases q3 : (0 ≤ a2 ∧ a2 ≤ 500)
  all_goals (first | exact lc_16_0 H hC hI hb hk hn hi ha1 ha2 (by omega) (by omega) K9 | exact lc_16_1 H hC hI hb hk hn hi ha1 ha2 (by omega) K9 | exact lc_16_2 H hC hI hb hk hn hi ha1 ha2 (by omega) (by omega) K9)

set_option maxHeartbeats 4000000 in
set_option maxRecDepth 100000 in
theorem lcs_17 {G : Gm} {X : Cx} {l : Launch} {x : LFx} {k nn : Nat} {i b : Int} {J : Nat → Int} {M : Pool} {n : Net} {N K : Nat → Net} {Fu Fb : Nat → Int} {w : List Int} {z : Int} {I TL TB : Nat → Int} {N9 : Nat → Net} {f : Nat → Int64} {fD : Nat → UInt64} (H : LKn G l x) {nmL : String} (hC : OKc G X l RL nmL cL_law 9 (some .boolean) 1400 600000 6200000) (hI : INV b J M n N K Fu Fb w z I) (hb : b ≤ 15000000) (hk : k + 100 ≤ 600000) (hn : nn + 2200 ≤ 6200000) (hi : 0 ≤ i ∧ i + 6 ≤ (x.L : Int)) (K9 : LCont G X x (b + 8000) (k + 100) (nn + 2200) i) : WX G X k nn (LAT G x J M n N K Fu Fb w z I TL TB N9 f fD) 1066 (LLV x i) [] := by
  obtain ⟨a1, ha1⟩ : ∃ a, (x.xs (i + 1).toNat).toInt = a := ⟨_, rfl⟩
  obtain ⟨a2, ha2⟩ : ∃ a, (x.xs (i + 2).toNat).toInt = a := ⟨_, rfl⟩
  by_cases q0 : 0 ≤ a1 ∧ a1 < n (-1) 0
  all_goals by_cases q1 : 0 ≤ a2 ∧ a2 ≤ 500
  all_goals by_cases q2 : (0 ≤ a1 ∧ a1 < n (-1) 0)
  all_goals by_cases q3 : (0 ≤ a2 ∧ a2 ≤ 500)
  all_goals (first | exact lc_17_0 H hC hI hb hk hn hi ha1 ha2 (by omega) (by omega) K9 | exact lc_17_1 H hC hI hb hk hn hi ha1 ha2 (by omega) K9 | exact lc_17_2 H hC hI hb hk hn hi ha1 ha2 (by omega) (by omega) K9)

set_option maxHeartbeats 4000000 in
set_option maxRecDepth 100000 in
theorem lcs_18 {G : Gm} {X : Cx} {l : Launch} {x : LFx} {k nn : Nat} {i b : Int} {J : Nat → Int} {M : Pool} {n : Net} {N K : Nat → Net} {Fu Fb : Nat → Int} {w : List Int} {z : Int} {I TL TB : Nat → Int} {N9 : Nat → Net} {f : Nat → Int64} {fD : Nat → UInt64} (H : LKn G l x) {nmL : String} (hC : OKc G X l RL nmL cL_law 9 (some .boolean) 1400 600000 6200000) (hI : INV b J M n N K Fu Fb w z I) (hb : b ≤ 15000000) (hk : k + 100 ≤ 600000) (hn : nn + 2200 ≤ 6200000) (hi : 0 ≤ i ∧ i + 6 ≤ (x.L : Int)) (K9 : LCont G X x (b + 8000) (k + 100) (nn + 2200) i) : WX G X k nn (LAT G x J M n N K Fu Fb w z I TL TB N9 f fD) 1134 (LLV x i) [] := by
  obtain ⟨a1, ha1⟩ : ∃ a, (x.xs (i + 1).toNat).toInt = a := ⟨_, rfl⟩
  by_cases q0 : 0 ≤ a1 ∧ a1 < n (-1) 0
  all_goals by_cases q1 : (0 ≤ a1 ∧ a1 < n (-1) 0)
  all_goals (first | exact lc_18_0 H hC hI hb hk hn hi ha1 (by omega) K9 | exact lc_18_1 H hC hI hb hk hn hi ha1 (by omega) K9)

set_option maxHeartbeats 4000000 in
set_option maxRecDepth 100000 in
theorem lcs_19 {G : Gm} {X : Cx} {l : Launch} {x : LFx} {k nn : Nat} {i b : Int} {J : Nat → Int} {M : Pool} {n : Net} {N K : Nat → Net} {Fu Fb : Nat → Int} {w : List Int} {z : Int} {I TL TB : Nat → Int} {N9 : Nat → Net} {f : Nat → Int64} {fD : Nat → UInt64} (H : LKn G l x) {nmL : String} (hC : OKc G X l RL nmL cL_law 9 (some .boolean) 1400 600000 6200000) (hI : INV b J M n N K Fu Fb w z I) (hb : b ≤ 15000000) (hk : k + 100 ≤ 600000) (hn : nn + 2200 ≤ 6200000) (hi : 0 ≤ i ∧ i + 6 ≤ (x.L : Int)) (K9 : LCont G X x (b + 8000) (k + 100) (nn + 2200) i) : WX G X k nn (LAT G x J M n N K Fu Fb w z I TL TB N9 f fD) 1190 (LLV x i) [] := by
  obtain ⟨a1, ha1⟩ : ∃ a, (x.xs (i + 1).toNat).toInt = a := ⟨_, rfl⟩
  by_cases q0 : 0 ≤ a1 ∧ a1 < n (-1) 0
  all_goals by_cases q1 : (0 ≤ a1 ∧ a1 < n (-1) 0)
  all_goals (first | exact lc_19_0 H hC hI hb hk hn hi ha1 (by omega) K9 | exact lc_19_1 H hC hI hb hk hn hi ha1 (by omega) K9)

set_option maxHeartbeats 4000000 in
set_option maxRecDepth 100000 in
theorem lcs_20 {G : Gm} {X : Cx} {l : Launch} {x : LFx} {k nn : Nat} {i b : Int} {J : Nat → Int} {M : Pool} {n : Net} {N K : Nat → Net} {Fu Fb : Nat → Int} {w : List Int} {z : Int} {I TL TB : Nat → Int} {N9 : Nat → Net} {f : Nat → Int64} {fD : Nat → UInt64} (H : LKn G l x) {nmL : String} (hC : OKc G X l RL nmL cL_law 9 (some .boolean) 1400 600000 6200000) (hI : INV b J M n N K Fu Fb w z I) (hb : b ≤ 15000000) (hk : k + 100 ≤ 600000) (hn : nn + 2200 ≤ 6200000) (hi : 0 ≤ i ∧ i + 6 ≤ (x.L : Int)) (K9 : LCont G X x (b + 8000) (k + 100) (nn + 2200) i) : WX G X k nn (LAT G x J M n N K Fu Fb w z I TL TB N9 f fD) 1246 (LLV x i) [] := by
  obtain ⟨a1, ha1⟩ : ∃ a, (x.xs (i + 1).toNat).toInt = a := ⟨_, rfl⟩
  obtain ⟨a2, ha2⟩ : ∃ a, (x.xs (i + 2).toNat).toInt = a := ⟨_, rfl⟩
  by_cases q0 : 0 ≤ a1 ∧ a1 < n (-1) 0
  all_goals by_cases q1 : 1 ≤ a2 ∧ a2 ≤ 500
  all_goals by_cases q2 : (0 ≤ a1 ∧ a1 < n (-1) 0)
  all_goals by_cases q3 : (1 ≤ a2 ∧ a2 ≤ 500)
  all_goals (first | exact lc_20_0 H hC hI hb hk hn hi ha1 ha2 (by omega) (by omega) K9 | exact lc_20_1 H hC hI hb hk hn hi ha1 ha2 (by omega) K9 | exact lc_20_2 H hC hI hb hk hn hi ha1 ha2 (by omega) (by omega) K9)

set_option maxHeartbeats 4000000 in
set_option maxRecDepth 100000 in
theorem lcs_21 {G : Gm} {X : Cx} {l : Launch} {x : LFx} {k nn : Nat} {i b : Int} {J : Nat → Int} {M : Pool} {n : Net} {N K : Nat → Net} {Fu Fb : Nat → Int} {w : List Int} {z : Int} {I TL TB : Nat → Int} {N9 : Nat → Net} {f : Nat → Int64} {fD : Nat → UInt64} (H : LKn G l x) {nmL : String} (hC : OKc G X l RL nmL cL_law 9 (some .boolean) 1400 600000 6200000) (hI : INV b J M n N K Fu Fb w z I) (hb : b ≤ 15000000) (hk : k + 100 ≤ 600000) (hn : nn + 2200 ≤ 6200000) (hi : 0 ≤ i ∧ i + 6 ≤ (x.L : Int)) (K9 : LCont G X x (b + 8000) (k + 100) (nn + 2200) i) : WX G X k nn (LAT G x J M n N K Fu Fb w z I TL TB N9 f fD) 1314 (LLV x i) [] := by
  obtain ⟨a1, ha1⟩ : ∃ a, (x.xs (i + 1).toNat).toInt = a := ⟨_, rfl⟩
  obtain ⟨a2, ha2⟩ : ∃ a, (x.xs (i + 2).toNat).toInt = a := ⟨_, rfl⟩
  by_cases q0 : 0 ≤ a1 ∧ a1 < n (-1) 0
  all_goals by_cases q1 : 0 ≤ a2 ∧ a2 < n (-1) 0
  all_goals by_cases q2 : a2 = a1
  all_goals by_cases q3 : (0 ≤ a1 ∧ a1 < n (-1) 0)
  all_goals by_cases q4 : (0 ≤ a2 ∧ a2 < n (-1) 0)
  all_goals by_cases q5 : a1 = a2
  all_goals (first | exact lc_21_0 H hC hI hb hk hn hi ha1 ha2 (by omega) (by omega) (by omega) K9 | exact lc_21_1 H hC hI hb hk hn hi ha1 ha2 (by omega) K9 | exact lc_21_1b H hC hI hb hk hn hi ha1 ha2 (by omega) (by omega) K9 | exact lc_21_2 H hC hI hb hk hn hi ha1 ha2 (by omega) (by omega) K9)

set_option maxHeartbeats 4000000 in
set_option maxRecDepth 100000 in
theorem lcs_22 {G : Gm} {X : Cx} {l : Launch} {x : LFx} {k nn : Nat} {i b : Int} {J : Nat → Int} {M : Pool} {n : Net} {N K : Nat → Net} {Fu Fb : Nat → Int} {w : List Int} {z : Int} {I TL TB : Nat → Int} {N9 : Nat → Net} {f : Nat → Int64} {fD : Nat → UInt64} (H : LKn G l x) {nmL : String} (hC : OKc G X l RL nmL cL_law 9 (some .boolean) 1400 600000 6200000) (hI : INV b J M n N K Fu Fb w z I) (hb : b ≤ 15000000) (hk : k + 100 ≤ 600000) (hn : nn + 2200 ≤ 6200000) (hi : 0 ≤ i ∧ i + 6 ≤ (x.L : Int)) (K9 : LCont G X x (b + 8000) (k + 100) (nn + 2200) i) : WX G X k nn (LAT G x J M n N K Fu Fb w z I TL TB N9 f fD) 1382 (LLV x i) [] := by
  obtain ⟨a1, ha1⟩ : ∃ a, (x.xs (i + 1).toNat).toInt = a := ⟨_, rfl⟩
  by_cases q0 : 0 ≤ a1 ∧ a1 < n (-1) 0
  all_goals by_cases q1 : (0 ≤ a1 ∧ a1 < n (-1) 0)
  all_goals (first | exact lc_22_0 H hC hI hb hk hn hi ha1 (by omega) K9 | exact lc_22_1 H hC hI hb hk hn hi ha1 (by omega) K9)

set_option maxHeartbeats 4000000 in
set_option maxRecDepth 100000 in
theorem lcs_23 {G : Gm} {X : Cx} {l : Launch} {x : LFx} {k nn : Nat} {i b : Int} {J : Nat → Int} {M : Pool} {n : Net} {N K : Nat → Net} {Fu Fb : Nat → Int} {w : List Int} {z : Int} {I TL TB : Nat → Int} {N9 : Nat → Net} {f : Nat → Int64} {fD : Nat → UInt64} (H : LKn G l x) {nmL : String} (hC : OKc G X l RL nmL cL_law 9 (some .boolean) 1400 600000 6200000) (hI : INV b J M n N K Fu Fb w z I) (hb : b ≤ 15000000) (hk : k + 100 ≤ 600000) (hn : nn + 2200 ≤ 6200000) (hi : 0 ≤ i ∧ i + 6 ≤ (x.L : Int)) (K9 : LCont G X x (b + 8000) (k + 100) (nn + 2200) i) : WX G X k nn (LAT G x J M n N K Fu Fb w z I TL TB N9 f fD) 1438 (LLV x i) [] := by
  exact lc_23_0 H hC hI hb hk hn hi   K9

set_option maxHeartbeats 4000000 in
set_option maxRecDepth 100000 in
theorem lcs_24 {G : Gm} {X : Cx} {l : Launch} {x : LFx} {k nn : Nat} {i b : Int} {J : Nat → Int} {M : Pool} {n : Net} {N K : Nat → Net} {Fu Fb : Nat → Int} {w : List Int} {z : Int} {I TL TB : Nat → Int} {N9 : Nat → Net} {f : Nat → Int64} {fD : Nat → UInt64} (H : LKn G l x) {nmL : String} (hC : OKc G X l RL nmL cL_law 9 (some .boolean) 1400 600000 6200000) (hI : INV b J M n N K Fu Fb w z I) (hb : b ≤ 15000000) (hk : k + 100 ≤ 600000) (hn : nn + 2200 ≤ 6200000) (hi : 0 ≤ i ∧ i + 6 ≤ (x.L : Int)) (K9 : LCont G X x (b + 8000) (k + 100) (nn + 2200) i) : WX G X k nn (LAT G x J M n N K Fu Fb w z I TL TB N9 f fD) 1451 (LLV x i) [] := by
  exact lc_24_0 H hC hI hb hk hn hi   K9

set_option maxHeartbeats 4000000 in
set_option maxRecDepth 100000 in
theorem lcs_25 {G : Gm} {X : Cx} {l : Launch} {x : LFx} {k nn : Nat} {i b : Int} {J : Nat → Int} {M : Pool} {n : Net} {N K : Nat → Net} {Fu Fb : Nat → Int} {w : List Int} {z : Int} {I TL TB : Nat → Int} {N9 : Nat → Net} {f : Nat → Int64} {fD : Nat → UInt64} (H : LKn G l x) {nmL : String} (hC : OKc G X l RL nmL cL_law 9 (some .boolean) 1400 600000 6200000) (hI : INV b J M n N K Fu Fb w z I) (hb : b ≤ 15000000) (hk : k + 100 ≤ 600000) (hn : nn + 2200 ≤ 6200000) (hi : 0 ≤ i ∧ i + 6 ≤ (x.L : Int)) (K9 : LCont G X x (b + 8000) (k + 100) (nn + 2200) i) : WX G X k nn (LAT G x J M n N K Fu Fb w z I TL TB N9 f fD) 1464 (LLV x i) [] := by
  obtain ⟨a1, ha1⟩ : ∃ a, (x.xs (i + 1).toNat).toInt = a := ⟨_, rfl⟩
  by_cases q0 : 0 ≤ a1 ∧ a1 < n (-1) 0
  all_goals by_cases q1 : (0 ≤ a1 ∧ a1 < n (-1) 0)
  all_goals (first | exact lc_25_0 H hC hI hb hk hn hi ha1 (by omega) K9 | exact lc_25_1 H hC hI hb hk hn hi ha1 (by omega) K9)

set_option maxHeartbeats 4000000 in
set_option maxRecDepth 100000 in
theorem lcs_26 {G : Gm} {X : Cx} {l : Launch} {x : LFx} {k nn : Nat} {i b : Int} {J : Nat → Int} {M : Pool} {n : Net} {N K : Nat → Net} {Fu Fb : Nat → Int} {w : List Int} {z : Int} {I TL TB : Nat → Int} {N9 : Nat → Net} {f : Nat → Int64} {fD : Nat → UInt64} (H : LKn G l x) {nmL : String} (hC : OKc G X l RL nmL cL_law 9 (some .boolean) 1400 600000 6200000) (hI : INV b J M n N K Fu Fb w z I) (hb : b ≤ 15000000) (hk : k + 100 ≤ 600000) (hn : nn + 2200 ≤ 6200000) (hi : 0 ≤ i ∧ i + 6 ≤ (x.L : Int)) (K9 : LCont G X x (b + 8000) (k + 100) (nn + 2200) i) : WX G X k nn (LAT G x J M n N K Fu Fb w z I TL TB N9 f fD) 1542 (LLV x i) [] := by
  obtain ⟨a1, ha1⟩ : ∃ a, (x.xs (i + 1).toNat).toInt = a := ⟨_, rfl⟩
  by_cases q0 : 0 ≤ a1 ∧ a1 < n (-1) 0
  all_goals by_cases q1 : (0 ≤ a1 ∧ a1 < n (-1) 0)
  all_goals (first | exact lc_26_0 H hC hI hb hk hn hi ha1 (by omega) K9 | exact lc_26_1 H hC hI hb hk hn hi ha1 (by omega) K9)

set_option maxHeartbeats 4000000 in
set_option maxRecDepth 100000 in
theorem lcs_27 {G : Gm} {X : Cx} {l : Launch} {x : LFx} {k nn : Nat} {i b : Int} {J : Nat → Int} {M : Pool} {n : Net} {N K : Nat → Net} {Fu Fb : Nat → Int} {w : List Int} {z : Int} {I TL TB : Nat → Int} {N9 : Nat → Net} {f : Nat → Int64} {fD : Nat → UInt64} (H : LKn G l x) {nmL : String} (hC : OKc G X l RL nmL cL_law 9 (some .boolean) 1400 600000 6200000) (hI : INV b J M n N K Fu Fb w z I) (hb : b ≤ 15000000) (hk : k + 100 ≤ 600000) (hn : nn + 2200 ≤ 6200000) (hi : 0 ≤ i ∧ i + 6 ≤ (x.L : Int)) (K9 : LCont G X x (b + 8000) (k + 100) (nn + 2200) i) : WX G X k nn (LAT G x J M n N K Fu Fb w z I TL TB N9 f fD) 1619 (LLV x i) [] := by
  exact lc_27_0 H hC hI hb hk hn hi   K9

set_option maxHeartbeats 4000000 in
set_option maxRecDepth 100000 in
theorem lcs_28 {G : Gm} {X : Cx} {l : Launch} {x : LFx} {k nn : Nat} {i b : Int} {J : Nat → Int} {M : Pool} {n : Net} {N K : Nat → Net} {Fu Fb : Nat → Int} {w : List Int} {z : Int} {I TL TB : Nat → Int} {N9 : Nat → Net} {f : Nat → Int64} {fD : Nat → UInt64} (H : LKn G l x) {nmL : String} (hC : OKc G X l RL nmL cL_law 9 (some .boolean) 1400 600000 6200000) (hI : INV b J M n N K Fu Fb w z I) (hb : b ≤ 15000000) (hk : k + 100 ≤ 600000) (hn : nn + 2200 ≤ 6200000) (hi : 0 ≤ i ∧ i + 6 ≤ (x.L : Int)) (K9 : LCont G X x (b + 8000) (k + 100) (nn + 2200) i) : WX G X k nn (LAT G x J M n N K Fu Fb w z I TL TB N9 f fD) 1632 (LLV x i) [] := by
  obtain ⟨a1, ha1⟩ : ∃ a, (x.xs (i + 1).toNat).toInt = a := ⟨_, rfl⟩
  by_cases q0 : 0 ≤ a1 ∧ a1 < n (-1) 0
  all_goals by_cases q1 : (0 ≤ a1 ∧ a1 < n (-1) 0)
  all_goals (first | exact lc_28_0 H hC hI hb hk hn hi ha1 (by omega) K9 | exact lc_28_1 H hC hI hb hk hn hi ha1 (by omega) K9)

set_option maxHeartbeats 4000000 in
set_option maxRecDepth 100000 in
theorem lcs_29 {G : Gm} {X : Cx} {l : Launch} {x : LFx} {k nn : Nat} {i b : Int} {J : Nat → Int} {M : Pool} {n : Net} {N K : Nat → Net} {Fu Fb : Nat → Int} {w : List Int} {z : Int} {I TL TB : Nat → Int} {N9 : Nat → Net} {f : Nat → Int64} {fD : Nat → UInt64} (H : LKn G l x) {nmL : String} (hC : OKc G X l RL nmL cL_law 9 (some .boolean) 1400 600000 6200000) (hI : INV b J M n N K Fu Fb w z I) (hb : b ≤ 15000000) (hk : k + 100 ≤ 600000) (hn : nn + 2200 ≤ 6200000) (hi : 0 ≤ i ∧ i + 6 ≤ (x.L : Int)) (K9 : LCont G X x (b + 8000) (k + 100) (nn + 2200) i) : WX G X k nn (LAT G x J M n N K Fu Fb w z I TL TB N9 f fD) 1688 (LLV x i) [] := by
  obtain ⟨a1, ha1⟩ : ∃ a, (x.xs (i + 1).toNat).toInt = a := ⟨_, rfl⟩
  by_cases q0 : 0 ≤ a1 ∧ a1 < 12
  all_goals by_cases q1 : (0 ≤ a1 ∧ a1 < 12)
  all_goals (first | exact lc_29_0 H hC hI hb hk hn hi ha1 (by omega) K9 | exact lc_29_1 H hC hI hb hk hn hi ha1 (by omega) K9)

set_option maxHeartbeats 4000000 in
set_option maxRecDepth 100000 in
theorem lcs_30 {G : Gm} {X : Cx} {l : Launch} {x : LFx} {k nn : Nat} {i b : Int} {J : Nat → Int} {M : Pool} {n : Net} {N K : Nat → Net} {Fu Fb : Nat → Int} {w : List Int} {z : Int} {I TL TB : Nat → Int} {N9 : Nat → Net} {f : Nat → Int64} {fD : Nat → UInt64} (H : LKn G l x) {nmL : String} (hC : OKc G X l RL nmL cL_law 9 (some .boolean) 1400 600000 6200000) (hI : INV b J M n N K Fu Fb w z I) (hb : b ≤ 15000000) (hk : k + 100 ≤ 600000) (hn : nn + 2200 ≤ 6200000) (hi : 0 ≤ i ∧ i + 6 ≤ (x.L : Int)) (K9 : LCont G X x (b + 8000) (k + 100) (nn + 2200) i) : WX G X k nn (LAT G x J M n N K Fu Fb w z I TL TB N9 f fD) 1744 (LLV x i) [] := by
  obtain ⟨a1, ha1⟩ : ∃ a, (x.xs (i + 1).toNat).toInt = a := ⟨_, rfl⟩
  obtain ⟨a2, ha2⟩ : ∃ a, (x.xs (i + 2).toNat).toInt = a := ⟨_, rfl⟩
  obtain ⟨a3, ha3⟩ : ∃ a, (x.xs (i + 3).toNat).toInt = a := ⟨_, rfl⟩
  by_cases q0 : 0 ≤ a1 ∧ a1 < n (-1) 0
  all_goals by_cases q1 : 1 ≤ a2 ∧ a2 ≤ 127
  all_goals by_cases q2 : 1 ≤ a3 ∧ a3 ≤ 60
  all_goals by_cases q3 : (0 ≤ a1 ∧ a1 < n (-1) 0)
  all_goals by_cases q4 : (1 ≤ a2 ∧ a2 ≤ 127)
  all_goals by_cases q5 : (1 ≤ a3 ∧ a3 ≤ 60)
  all_goals (first | exact lc_30_0 H hC hI hb hk hn hi ha1 ha2 ha3 (by omega) (by omega) (by omega) K9 | exact lc_30_1 H hC hI hb hk hn hi ha1 ha2 ha3 (by omega) K9 | exact lc_30_2 H hC hI hb hk hn hi ha1 ha2 ha3 (by omega) (by omega) K9 | exact lc_30_2b H hC hI hb hk hn hi ha1 ha2 ha3 (by omega) (by omega) (by omega) K9)

set_option maxHeartbeats 4000000 in
set_option maxRecDepth 100000 in
theorem lcs_31 {G : Gm} {X : Cx} {l : Launch} {x : LFx} {k nn : Nat} {i b : Int} {J : Nat → Int} {M : Pool} {n : Net} {N K : Nat → Net} {Fu Fb : Nat → Int} {w : List Int} {z : Int} {I TL TB : Nat → Int} {N9 : Nat → Net} {f : Nat → Int64} {fD : Nat → UInt64} (H : LKn G l x) {nmL : String} (hC : OKc G X l RL nmL cL_law 9 (some .boolean) 1400 600000 6200000) (hI : INV b J M n N K Fu Fb w z I) (hb : b ≤ 15000000) (hk : k + 100 ≤ 600000) (hn : nn + 2200 ≤ 6200000) (hi : 0 ≤ i ∧ i + 6 ≤ (x.L : Int)) (K9 : LCont G X x (b + 8000) (k + 100) (nn + 2200) i) : WX G X k nn (LAT G x J M n N K Fu Fb w z I TL TB N9 f fD) 1824 (LLV x i) [] := by
  obtain ⟨a1, ha1⟩ : ∃ a, (x.xs (i + 1).toNat).toInt = a := ⟨_, rfl⟩
  obtain ⟨a2, ha2⟩ : ∃ a, (x.xs (i + 2).toNat).toInt = a := ⟨_, rfl⟩
  obtain ⟨a3, ha3⟩ : ∃ a, (x.xs (i + 3).toNat).toInt = a := ⟨_, rfl⟩
  by_cases q0 : 0 ≤ a1 ∧ a1 < n (-1) 0
  all_goals by_cases q1 : 1 ≤ a2 ∧ a2 ≤ 127
  all_goals by_cases q2 : 1 ≤ a3 ∧ a3 ≤ 60
  all_goals by_cases q3 : (0 ≤ a1 ∧ a1 < n (-1) 0)
  all_goals by_cases q4 : (1 ≤ a2 ∧ a2 ≤ 127)
  all_goals by_cases q5 : (1 ≤ a3 ∧ a3 ≤ 60)
  all_goals (first | exact lc_31_0 H hC hI hb hk hn hi ha1 ha2 ha3 (by omega) (by omega) (by omega) K9 | exact lc_31_1 H hC hI hb hk hn hi ha1 ha2 ha3 (by omega) K9 | exact lc_31_2 H hC hI hb hk hn hi ha1 ha2 ha3 (by omega) (by omega) K9 | exact lc_31_2b H hC hI hb hk hn hi ha1 ha2 ha3 (by omega) (by omega) (by omega) K9)

set_option maxHeartbeats 4000000 in
set_option maxRecDepth 100000 in
theorem lcs_32 {G : Gm} {X : Cx} {l : Launch} {x : LFx} {k nn : Nat} {i b : Int} {J : Nat → Int} {M : Pool} {n : Net} {N K : Nat → Net} {Fu Fb : Nat → Int} {w : List Int} {z : Int} {I TL TB : Nat → Int} {N9 : Nat → Net} {f : Nat → Int64} {fD : Nat → UInt64} (H : LKn G l x) {nmL : String} (hC : OKc G X l RL nmL cL_law 9 (some .boolean) 1400 600000 6200000) (hI : INV b J M n N K Fu Fb w z I) (hb : b ≤ 15000000) (hk : k + 100 ≤ 600000) (hn : nn + 2200 ≤ 6200000) (hi : 0 ≤ i ∧ i + 6 ≤ (x.L : Int)) (K9 : LCont G X x (b + 8000) (k + 100) (nn + 2200) i) : WX G X k nn (LAT G x J M n N K Fu Fb w z I TL TB N9 f fD) 1904 (LLV x i) [] := by
  obtain ⟨a1, ha1⟩ : ∃ a, (x.xs (i + 1).toNat).toInt = a := ⟨_, rfl⟩
  by_cases q0 : 1 ≤ a1 ∧ a1 ≤ 200
  all_goals by_cases q1 : (1 ≤ a1 ∧ a1 ≤ 200)
  all_goals (first | exact lc_32_0 H hC hI hb hk hn hi ha1 (by omega) K9 | exact lc_32_1 H hC hI hb hk hn hi ha1 (by omega) K9)

set_option maxHeartbeats 4000000 in
set_option maxRecDepth 100000 in
theorem lcs_33 {G : Gm} {X : Cx} {l : Launch} {x : LFx} {k nn : Nat} {i b : Int} {J : Nat → Int} {M : Pool} {n : Net} {N K : Nat → Net} {Fu Fb : Nat → Int} {w : List Int} {z : Int} {I TL TB : Nat → Int} {N9 : Nat → Net} {f : Nat → Int64} {fD : Nat → UInt64} (H : LKn G l x) {nmL : String} (hC : OKc G X l RL nmL cL_law 9 (some .boolean) 1400 600000 6200000) (hI : INV b J M n N K Fu Fb w z I) (hb : b ≤ 15000000) (hk : k + 100 ≤ 600000) (hn : nn + 2200 ≤ 6200000) (hi : 0 ≤ i ∧ i + 6 ≤ (x.L : Int)) (K9 : LCont G X x (b + 8000) (k + 100) (nn + 2200) i) : WX G X k nn (LAT G x J M n N K Fu Fb w z I TL TB N9 f fD) 1960 (LLV x i) [] := by
  obtain ⟨a1, ha1⟩ : ∃ a, (x.xs (i + 1).toNat).toInt = a := ⟨_, rfl⟩
  obtain ⟨a2, ha2⟩ : ∃ a, (x.xs (i + 2).toNat).toInt = a := ⟨_, rfl⟩
  obtain ⟨a3, ha3⟩ : ∃ a, (x.xs (i + 3).toNat).toInt = a := ⟨_, rfl⟩
  by_cases q0 : 0 ≤ a1 ∧ a1 < n (-1) 0
  all_goals by_cases q1 : 0 ≤ a2 ∧ a2 < n (-1) 0
  all_goals by_cases q2 : a1 = a2
  all_goals by_cases q3 : 1 ≤ a3 ∧ a3 ≤ 99
  all_goals by_cases q4 : (0 ≤ a1 ∧ a1 < n (-1) 0)
  all_goals by_cases q5 : (0 ≤ a2 ∧ a2 < n (-1) 0)
  all_goals by_cases q6 : (1 ≤ a3 ∧ a3 ≤ 99)
  all_goals (first | exact lc_33_0 H hC hI hb hk hn hi ha1 ha2 ha3 (by omega) (by omega) (by omega) (by omega) K9 | exact lc_33_1 H hC hI hb hk hn hi ha1 ha2 ha3 (by omega) K9 | exact lc_33_1b H hC hI hb hk hn hi ha1 ha2 ha3 (by omega) (by omega) K9 | exact lc_33_2 H hC hI hb hk hn hi ha1 ha2 ha3 (by omega) (by omega) K9 | exact lc_33_2b H hC hI hb hk hn hi ha1 ha2 ha3 (by omega) (by omega) (by omega) (by omega) K9)

set_option maxHeartbeats 4000000 in
set_option maxRecDepth 100000 in
theorem lcs_34 {G : Gm} {X : Cx} {l : Launch} {x : LFx} {k nn : Nat} {i b : Int} {J : Nat → Int} {M : Pool} {n : Net} {N K : Nat → Net} {Fu Fb : Nat → Int} {w : List Int} {z : Int} {I TL TB : Nat → Int} {N9 : Nat → Net} {f : Nat → Int64} {fD : Nat → UInt64} (H : LKn G l x) {nmL : String} (hC : OKc G X l RL nmL cL_law 9 (some .boolean) 1400 600000 6200000) (hI : INV b J M n N K Fu Fb w z I) (hb : b ≤ 15000000) (hk : k + 100 ≤ 600000) (hn : nn + 2200 ≤ 6200000) (hi : 0 ≤ i ∧ i + 6 ≤ (x.L : Int)) (K9 : LCont G X x (b + 8000) (k + 100) (nn + 2200) i) : WX G X k nn (LAT G x J M n N K Fu Fb w z I TL TB N9 f fD) 2040 (LLV x i) [] := by
  obtain ⟨a1, ha1⟩ : ∃ a, (x.xs (i + 1).toNat).toInt = a := ⟨_, rfl⟩
  by_cases q0 : 0 ≤ a1 ∧ a1 < n (-1) 0
  all_goals by_cases q1 : (0 ≤ a1 ∧ a1 < n (-1) 0)
  all_goals (first | exact lc_34_0 H hC hI hb hk hn hi ha1 (by omega) K9 | exact lc_34_1 H hC hI hb hk hn hi ha1 (by omega) K9)

set_option maxHeartbeats 4000000 in
set_option maxRecDepth 100000 in
theorem lcs_35 {G : Gm} {X : Cx} {l : Launch} {x : LFx} {k nn : Nat} {i b : Int} {J : Nat → Int} {M : Pool} {n : Net} {N K : Nat → Net} {Fu Fb : Nat → Int} {w : List Int} {z : Int} {I TL TB : Nat → Int} {N9 : Nat → Net} {f : Nat → Int64} {fD : Nat → UInt64} (H : LKn G l x) {nmL : String} (hC : OKc G X l RL nmL cL_law 9 (some .boolean) 1400 600000 6200000) (hI : INV b J M n N K Fu Fb w z I) (hb : b ≤ 15000000) (hk : k + 100 ≤ 600000) (hn : nn + 2200 ≤ 6200000) (hi : 0 ≤ i ∧ i + 6 ≤ (x.L : Int)) (K9 : LCont G X x (b + 8000) (k + 100) (nn + 2200) i) : WX G X k nn (LAT G x J M n N K Fu Fb w z I TL TB N9 f fD) 2096 (LLV x i) [] := by
  obtain ⟨a1, ha1⟩ : ∃ a, (x.xs (i + 1).toNat).toInt = a := ⟨_, rfl⟩
  obtain ⟨a2, ha2⟩ : ∃ a, (x.xs (i + 2).toNat).toInt = a := ⟨_, rfl⟩
  by_cases q0 : 0 ≤ a1 ∧ a1 < n (-1) 0
  all_goals by_cases q1 : 1 ≤ a2 ∧ a2 ≤ 50
  all_goals by_cases q2 : (0 ≤ a1 ∧ a1 < n (-1) 0)
  all_goals by_cases q3 : (1 ≤ a2 ∧ a2 ≤ 50)
  all_goals (first | exact lc_35_0 H hC hI hb hk hn hi ha1 ha2 (by omega) (by omega) K9 | exact lc_35_1 H hC hI hb hk hn hi ha1 ha2 (by omega) K9 | exact lc_35_2 H hC hI hb hk hn hi ha1 ha2 (by omega) (by omega) K9)

set_option maxHeartbeats 4000000 in
set_option maxRecDepth 100000 in
theorem lcs_36 {G : Gm} {X : Cx} {l : Launch} {x : LFx} {k nn : Nat} {i b : Int} {J : Nat → Int} {M : Pool} {n : Net} {N K : Nat → Net} {Fu Fb : Nat → Int} {w : List Int} {z : Int} {I TL TB : Nat → Int} {N9 : Nat → Net} {f : Nat → Int64} {fD : Nat → UInt64} (H : LKn G l x) {nmL : String} (hC : OKc G X l RL nmL cL_law 9 (some .boolean) 1400 600000 6200000) (hI : INV b J M n N K Fu Fb w z I) (hb : b ≤ 15000000) (hk : k + 100 ≤ 600000) (hn : nn + 2200 ≤ 6200000) (hi : 0 ≤ i ∧ i + 6 ≤ (x.L : Int)) (K9 : LCont G X x (b + 8000) (k + 100) (nn + 2200) i) : WX G X k nn (LAT G x J M n N K Fu Fb w z I TL TB N9 f fD) 2164 (LLV x i) [] := by
  obtain ⟨a1, ha1⟩ : ∃ a, (x.xs (i + 1).toNat).toInt = a := ⟨_, rfl⟩
  obtain ⟨a2, ha2⟩ : ∃ a, (x.xs (i + 2).toNat).toInt = a := ⟨_, rfl⟩
  have h11 : ¬ (0 ≤ a1 ∧ a1 < n (-1) 0) ∨ (n a1 11 = 0 ∨ n a1 11 = 1) := by
    by_cases h : 0 ≤ a1 ∧ a1 < n (-1) 0
    · have hL := hI.hN.1.2.2 a1 h.1 h.2
      unfold LineOk at hL
      exact Or.inr (by omega)
    · exact Or.inl h
  by_cases q0 : a2 = 0
  all_goals by_cases q1 : 0 ≤ a1 ∧ a1 < n (-1) 0
  all_goals by_cases q2 : n a1 11 = 1
  all_goals by_cases q3 : (0 ≤ a1 ∧ a1 < n (-1) 0)
  all_goals (first | exact lc_36_0TT H hC hI hb hk hn hi ha1 ha2 (by omega) (by omega) (by omega) K9 | exact lc_36_0TF H hC hI hb hk hn hi ha1 ha2 (by omega) (by omega) (by omega) K9 | exact lc_36_1T H hC hI hb hk hn hi ha1 ha2 (by omega) (by omega) K9 | exact lc_36_0FT H hC hI hb hk hn hi ha1 ha2 (by omega) (by omega) (by omega) K9 | exact lc_36_0FF H hC hI hb hk hn hi ha1 ha2 (by omega) (by omega) (by omega) K9 | exact lc_36_1F H hC hI hb hk hn hi ha1 ha2 (by omega) (by omega) K9)

set_option maxHeartbeats 4000000 in
set_option maxRecDepth 100000 in
theorem lcs_37 {G : Gm} {X : Cx} {l : Launch} {x : LFx} {k nn : Nat} {i b : Int} {J : Nat → Int} {M : Pool} {n : Net} {N K : Nat → Net} {Fu Fb : Nat → Int} {w : List Int} {z : Int} {I TL TB : Nat → Int} {N9 : Nat → Net} {f : Nat → Int64} {fD : Nat → UInt64} (H : LKn G l x) {nmL : String} (hC : OKc G X l RL nmL cL_law 9 (some .boolean) 1400 600000 6200000) (hI : INV b J M n N K Fu Fb w z I) (hb : b ≤ 15000000) (hk : k + 100 ≤ 600000) (hn : nn + 2200 ≤ 6200000) (hi : 0 ≤ i ∧ i + 6 ≤ (x.L : Int)) (K9 : LCont G X x (b + 8000) (k + 100) (nn + 2200) i) : WX G X k nn (LAT G x J M n N K Fu Fb w z I TL TB N9 f fD) 2255 (LLV x i) [] := by
  obtain ⟨a1, ha1⟩ : ∃ a, (x.xs (i + 1).toNat).toInt = a := ⟨_, rfl⟩
  obtain ⟨a2, ha2⟩ : ∃ a, (x.xs (i + 2).toNat).toInt = a := ⟨_, rfl⟩
  by_cases q0 : 0 ≤ a1 ∧ a1 < n (-1) 0
  all_goals by_cases q1 : 0 ≤ a2 ∧ a2 ≤ 2
  all_goals by_cases q2 : (0 ≤ a1 ∧ a1 < n (-1) 0)
  all_goals by_cases q3 : (0 ≤ a2 ∧ a2 ≤ 2)
  all_goals (first | exact lc_37_0 H hC hI hb hk hn hi ha1 ha2 (by omega) (by omega) K9 | exact lc_37_1 H hC hI hb hk hn hi ha1 ha2 (by omega) K9 | exact lc_37_2 H hC hI hb hk hn hi ha1 ha2 (by omega) (by omega) K9)

set_option maxHeartbeats 4000000 in
set_option maxRecDepth 100000 in
theorem lcs_38 {G : Gm} {X : Cx} {l : Launch} {x : LFx} {k nn : Nat} {i b : Int} {J : Nat → Int} {M : Pool} {n : Net} {N K : Nat → Net} {Fu Fb : Nat → Int} {w : List Int} {z : Int} {I TL TB : Nat → Int} {N9 : Nat → Net} {f : Nat → Int64} {fD : Nat → UInt64} (H : LKn G l x) {nmL : String} (hC : OKc G X l RL nmL cL_law 9 (some .boolean) 1400 600000 6200000) (hI : INV b J M n N K Fu Fb w z I) (hb : b ≤ 15000000) (hk : k + 100 ≤ 600000) (hn : nn + 2200 ≤ 6200000) (hi : 0 ≤ i ∧ i + 6 ≤ (x.L : Int)) (K9 : LCont G X x (b + 8000) (k + 100) (nn + 2200) i) : WX G X k nn (LAT G x J M n N K Fu Fb w z I TL TB N9 f fD) 2323 (LLV x i) [] := by
  obtain ⟨a1, ha1⟩ : ∃ a, (x.xs (i + 1).toNat).toInt = a := ⟨_, rfl⟩
  obtain ⟨a2, ha2⟩ : ∃ a, (x.xs (i + 2).toNat).toInt = a := ⟨_, rfl⟩
  obtain ⟨a3, ha3⟩ : ∃ a, (x.xs (i + 3).toNat).toInt = a := ⟨_, rfl⟩
  by_cases q0 : 0 ≤ a1 ∧ a1 < n (-1) 0
  all_goals by_cases q1 : (0 ≤ a2 ∧ a2 ≤ n a1 1 - 1) ∧ a2 + 1 ≤ a3 ∧ a3 ≤ n a1 1
  all_goals by_cases q2 : (0 ≤ a1 ∧ a1 < n (-1) 0)
  all_goals by_cases q3 : (0 ≤ a2 ∧ a2 ≤ n a1 1 - 1)
  all_goals (first | exact lc_38_0 H hC hI hb hk hn hi ha1 ha2 ha3 (by omega) (by omega) K9 | exact lc_38_1 H hC hI hb hk hn hi ha1 ha2 ha3 (by omega) K9 | exact lc_38_2 H hC hI hb hk hn hi ha1 ha2 ha3 (by omega) (by omega) K9 | exact lc_38_2b H hC hI hb hk hn hi ha1 ha2 ha3 (by omega) (by omega) K9)

set_option maxHeartbeats 4000000 in
set_option maxRecDepth 100000 in
theorem lcs_39 {G : Gm} {X : Cx} {l : Launch} {x : LFx} {k nn : Nat} {i b : Int} {J : Nat → Int} {M : Pool} {n : Net} {N K : Nat → Net} {Fu Fb : Nat → Int} {w : List Int} {z : Int} {I TL TB : Nat → Int} {N9 : Nat → Net} {f : Nat → Int64} {fD : Nat → UInt64} (H : LKn G l x) {nmL : String} (hC : OKc G X l RL nmL cL_law 9 (some .boolean) 1400 600000 6200000) (hI : INV b J M n N K Fu Fb w z I) (hb : b ≤ 15000000) (hk : k + 100 ≤ 600000) (hn : nn + 2200 ≤ 6200000) (hi : 0 ≤ i ∧ i + 6 ≤ (x.L : Int)) (K9 : LCont G X x (b + 8000) (k + 100) (nn + 2200) i) : WX G X k nn (LAT G x J M n N K Fu Fb w z I TL TB N9 f fD) 2403 (LLV x i) [] := by
  obtain ⟨a1, ha1⟩ : ∃ a, (x.xs (i + 1).toNat).toInt = a := ⟨_, rfl⟩
  obtain ⟨a2, ha2⟩ : ∃ a, (x.xs (i + 2).toNat).toInt = a := ⟨_, rfl⟩
  by_cases q0 : 0 ≤ a1 ∧ a1 < n (-1) 0
  all_goals by_cases q1 : 1 ≤ a2 ∧ a2 ≤ 9
  all_goals by_cases q2 : (0 ≤ a1 ∧ a1 < n (-1) 0)
  all_goals by_cases q3 : (1 ≤ a2 ∧ a2 ≤ 9)
  all_goals (first | exact lc_39_0 H hC hI hb hk hn hi ha1 ha2 (by omega) (by omega) K9 | exact lc_39_1 H hC hI hb hk hn hi ha1 ha2 (by omega) K9 | exact lc_39_2 H hC hI hb hk hn hi ha1 ha2 (by omega) (by omega) K9)

set_option maxHeartbeats 4000000 in
set_option maxRecDepth 100000 in
theorem lcs_40 {G : Gm} {X : Cx} {l : Launch} {x : LFx} {k nn : Nat} {i b : Int} {J : Nat → Int} {M : Pool} {n : Net} {N K : Nat → Net} {Fu Fb : Nat → Int} {w : List Int} {z : Int} {I TL TB : Nat → Int} {N9 : Nat → Net} {f : Nat → Int64} {fD : Nat → UInt64} (H : LKn G l x) {nmL : String} (hC : OKc G X l RL nmL cL_law 9 (some .boolean) 1400 600000 6200000) (hI : INV b J M n N K Fu Fb w z I) (hb : b ≤ 15000000) (hk : k + 100 ≤ 600000) (hn : nn + 2200 ≤ 6200000) (hi : 0 ≤ i ∧ i + 6 ≤ (x.L : Int)) (K9 : LCont G X x (b + 8000) (k + 100) (nn + 2200) i) : WX G X k nn (LAT G x J M n N K Fu Fb w z I TL TB N9 f fD) 2471 (LLV x i) [] := by
  exact lc_40_0 H hC hI hb hk hn hi   K9

set_option maxHeartbeats 4000000 in
set_option maxRecDepth 100000 in
theorem lcs_41 {G : Gm} {X : Cx} {l : Launch} {x : LFx} {k nn : Nat} {i b : Int} {J : Nat → Int} {M : Pool} {n : Net} {N K : Nat → Net} {Fu Fb : Nat → Int} {w : List Int} {z : Int} {I TL TB : Nat → Int} {N9 : Nat → Net} {f : Nat → Int64} {fD : Nat → UInt64} (H : LKn G l x) {nmL : String} (hC : OKc G X l RL nmL cL_law 9 (some .boolean) 1400 600000 6200000) (hI : INV b J M n N K Fu Fb w z I) (hb : b ≤ 15000000) (hk : k + 100 ≤ 600000) (hn : nn + 2200 ≤ 6200000) (hi : 0 ≤ i ∧ i + 6 ≤ (x.L : Int)) (K9 : LCont G X x (b + 8000) (k + 100) (nn + 2200) i) : WX G X k nn (LAT G x J M n N K Fu Fb w z I TL TB N9 f fD) 2484 (LLV x i) [] := by
  obtain ⟨a1, ha1⟩ : ∃ a, (x.xs (i + 1).toNat).toInt = a := ⟨_, rfl⟩
  by_cases q0 : 0 ≤ a1 ∧ a1 ≤ 1
  all_goals by_cases q1 : (0 ≤ a1 ∧ a1 ≤ 1)
  all_goals (first | exact lc_41_0 H hC hI hb hk hn hi ha1 (by omega) K9 | exact lc_41_1 H hC hI hb hk hn hi ha1 (by omega) K9)

set_option maxHeartbeats 4000000 in
set_option maxRecDepth 100000 in
theorem lcs_42 {G : Gm} {X : Cx} {l : Launch} {x : LFx} {k nn : Nat} {i b : Int} {J : Nat → Int} {M : Pool} {n : Net} {N K : Nat → Net} {Fu Fb : Nat → Int} {w : List Int} {z : Int} {I TL TB : Nat → Int} {N9 : Nat → Net} {f : Nat → Int64} {fD : Nat → UInt64} (H : LKn G l x) {nmL : String} (hC : OKc G X l RL nmL cL_law 9 (some .boolean) 1400 600000 6200000) (hI : INV b J M n N K Fu Fb w z I) (hb : b ≤ 15000000) (hk : k + 100 ≤ 600000) (hn : nn + 2200 ≤ 6200000) (hi : 0 ≤ i ∧ i + 6 ≤ (x.L : Int)) (K9 : LCont G X x (b + 8000) (k + 100) (nn + 2200) i) : WX G X k nn (LAT G x J M n N K Fu Fb w z I TL TB N9 f fD) 2540 (LLV x i) [] := by
  obtain ⟨a1, ha1⟩ : ∃ a, (x.xs (i + 1).toNat).toInt = a := ⟨_, rfl⟩
  by_cases q0 : 0 ≤ a1 ∧ a1 ≤ 1
  all_goals by_cases q1 : Fu a1.toNat = 1
  all_goals by_cases q2 : (0 ≤ a1 ∧ a1 ≤ 1)
  all_goals (first | exact lc_42_0 H hC hI hb hk hn hi ha1 (by omega) (by omega) K9 | exact lc_42_1 H hC hI hb hk hn hi ha1 (by omega) K9 | exact lc_42_2 H hC hI hb hk hn hi ha1 (by omega) (by omega) K9)

set_option maxHeartbeats 4000000 in
set_option maxRecDepth 100000 in
theorem lcs_43 {G : Gm} {X : Cx} {l : Launch} {x : LFx} {k nn : Nat} {i b : Int} {J : Nat → Int} {M : Pool} {n : Net} {N K : Nat → Net} {Fu Fb : Nat → Int} {w : List Int} {z : Int} {I TL TB : Nat → Int} {N9 : Nat → Net} {f : Nat → Int64} {fD : Nat → UInt64} (H : LKn G l x) {nmL : String} (hC : OKc G X l RL nmL cL_law 9 (some .boolean) 1400 600000 6200000) (hI : INV b J M n N K Fu Fb w z I) (hb : b ≤ 15000000) (hk : k + 100 ≤ 600000) (hn : nn + 2200 ≤ 6200000) (hi : 0 ≤ i ∧ i + 6 ≤ (x.L : Int)) (K9 : LCont G X x (b + 8000) (k + 100) (nn + 2200) i) : WX G X k nn (LAT G x J M n N K Fu Fb w z I TL TB N9 f fD) 2596 (LLV x i) [] := by
  by_cases q0 : 0 < J 6
  all_goals (first | exact lc_43_0 H hC hI hb hk hn hi  (by omega) K9 | exact lc_43_1 H hC hI hb hk hn hi  (by omega) K9)

set_option maxHeartbeats 4000000 in
set_option maxRecDepth 100000 in
theorem lcs_44 {G : Gm} {X : Cx} {l : Launch} {x : LFx} {k nn : Nat} {i b : Int} {J : Nat → Int} {M : Pool} {n : Net} {N K : Nat → Net} {Fu Fb : Nat → Int} {w : List Int} {z : Int} {I TL TB : Nat → Int} {N9 : Nat → Net} {f : Nat → Int64} {fD : Nat → UInt64} (H : LKn G l x) {nmL : String} (hC : OKc G X l RL nmL cL_law 9 (some .boolean) 1400 600000 6200000) (hI : INV b J M n N K Fu Fb w z I) (hb : b ≤ 15000000) (hk : k + 100 ≤ 600000) (hn : nn + 2200 ≤ 6200000) (hi : 0 ≤ i ∧ i + 6 ≤ (x.L : Int)) (K9 : LCont G X x (b + 8000) (k + 100) (nn + 2200) i) : WX G X k nn (LAT G x J M n N K Fu Fb w z I TL TB N9 f fD) 2640 (LLV x i) [] := by
  exact lc_44_0 H hC hI hb hk hn hi   K9

set_option maxHeartbeats 4000000 in
set_option maxRecDepth 100000 in
theorem lcs_45 {G : Gm} {X : Cx} {l : Launch} {x : LFx} {k nn : Nat} {i b : Int} {J : Nat → Int} {M : Pool} {n : Net} {N K : Nat → Net} {Fu Fb : Nat → Int} {w : List Int} {z : Int} {I TL TB : Nat → Int} {N9 : Nat → Net} {f : Nat → Int64} {fD : Nat → UInt64} (H : LKn G l x) {nmL : String} (hC : OKc G X l RL nmL cL_law 9 (some .boolean) 1400 600000 6200000) (hI : INV b J M n N K Fu Fb w z I) (hb : b ≤ 15000000) (hk : k + 100 ≤ 600000) (hn : nn + 2200 ≤ 6200000) (hi : 0 ≤ i ∧ i + 6 ≤ (x.L : Int)) (K9 : LCont G X x (b + 8000) (k + 100) (nn + 2200) i) : WX G X k nn (LAT G x J M n N K Fu Fb w z I TL TB N9 f fD) 2653 (LLV x i) [] := by
  exact lc_45_0 H hC hI hb hk hn hi   K9

set_option maxHeartbeats 4000000 in
set_option maxRecDepth 100000 in
theorem lcs_46 {G : Gm} {X : Cx} {l : Launch} {x : LFx} {k nn : Nat} {i b : Int} {J : Nat → Int} {M : Pool} {n : Net} {N K : Nat → Net} {Fu Fb : Nat → Int} {w : List Int} {z : Int} {I TL TB : Nat → Int} {N9 : Nat → Net} {f : Nat → Int64} {fD : Nat → UInt64} (H : LKn G l x) {nmL : String} (hC : OKc G X l RL nmL cL_law 9 (some .boolean) 1400 600000 6200000) (hI : INV b J M n N K Fu Fb w z I) (hb : b ≤ 15000000) (hk : k + 100 ≤ 600000) (hn : nn + 2200 ≤ 6200000) (hi : 0 ≤ i ∧ i + 6 ≤ (x.L : Int)) (K9 : LCont G X x (b + 8000) (k + 100) (nn + 2200) i) : WX G X k nn (LAT G x J M n N K Fu Fb w z I TL TB N9 f fD) 2666 (LLV x i) [] := by
  exact lc_46_0 H hC hI hb hk hn hi   K9

set_option maxHeartbeats 4000000 in
set_option maxRecDepth 100000 in
theorem lcs_47 {G : Gm} {X : Cx} {l : Launch} {x : LFx} {k nn : Nat} {i b : Int} {J : Nat → Int} {M : Pool} {n : Net} {N K : Nat → Net} {Fu Fb : Nat → Int} {w : List Int} {z : Int} {I TL TB : Nat → Int} {N9 : Nat → Net} {f : Nat → Int64} {fD : Nat → UInt64} (H : LKn G l x) {nmL : String} (hC : OKc G X l RL nmL cL_law 9 (some .boolean) 1400 600000 6200000) (hI : INV b J M n N K Fu Fb w z I) (hb : b ≤ 15000000) (hk : k + 100 ≤ 600000) (hn : nn + 2200 ≤ 6200000) (hi : 0 ≤ i ∧ i + 6 ≤ (x.L : Int)) (K9 : LCont G X x (b + 8000) (k + 100) (nn + 2200) i) : WX G X k nn (LAT G x J M n N K Fu Fb w z I TL TB N9 f fD) 2679 (LLV x i) [] := by
  obtain ⟨a1, ha1⟩ : ∃ a, (x.xs (i + 1).toNat).toInt = a := ⟨_, rfl⟩
  by_cases q0 : 0 ≤ a1 ∧ a1 < n (-1) 0
  all_goals by_cases q1 : (0 ≤ a1 ∧ a1 < n (-1) 0)
  all_goals (first | exact lc_47_0 H hC hI hb hk hn hi ha1 (by omega) K9 | exact lc_47_1 H hC hI hb hk hn hi ha1 (by omega) K9)

set_option maxHeartbeats 4000000 in
set_option maxRecDepth 100000 in
theorem lcs_48 {G : Gm} {X : Cx} {l : Launch} {x : LFx} {k nn : Nat} {i b : Int} {J : Nat → Int} {M : Pool} {n : Net} {N K : Nat → Net} {Fu Fb : Nat → Int} {w : List Int} {z : Int} {I TL TB : Nat → Int} {N9 : Nat → Net} {f : Nat → Int64} {fD : Nat → UInt64} (H : LKn G l x) {nmL : String} (hC : OKc G X l RL nmL cL_law 9 (some .boolean) 1400 600000 6200000) (hI : INV b J M n N K Fu Fb w z I) (hb : b ≤ 15000000) (hk : k + 100 ≤ 600000) (hn : nn + 2200 ≤ 6200000) (hi : 0 ≤ i ∧ i + 6 ≤ (x.L : Int)) (K9 : LCont G X x (b + 8000) (k + 100) (nn + 2200) i) : WX G X k nn (LAT G x J M n N K Fu Fb w z I TL TB N9 f fD) 2735 (LLV x i) [] := by
  obtain ⟨a1, ha1⟩ : ∃ a, (x.xs (i + 1).toNat).toInt = a := ⟨_, rfl⟩
  by_cases q0 : 0 ≤ a1 ∧ a1 < (w.length : Int)
  all_goals by_cases q1 : (0 ≤ a1 ∧ a1 < (w.length : Int))
  all_goals (first | exact lc_48_0 H hC hI hb hk hn hi ha1 (by omega) K9 | exact lc_48_1 H hC hI hb hk hn hi ha1 (by omega) K9)

