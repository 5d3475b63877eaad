/-! numbers: every int and long as an integer -/
def jI (z : Int) : Int32 := Int32.ofInt z
def jL (z : Int) : Int64 := Int64.ofInt z
theorem jI_add (a b : Int) : jI a + jI b = jI (a + b) := (Int32.ofInt_add a b).symm
theorem jI_sub (a b : Int) : jI a - jI b = jI (a - b) := (Int32.ofInt_sub a b).symm
theorem jI_mul (a b : Int) : jI a * jI b = jI (a * b) := (Int32.ofInt_mul a b).symm
theorem jL_add (a b : Int) : jL a + jL b = jL (a + b) := (Int64.ofInt_add a b).symm
theorem jI_toInt {a : Int} (h : -2147483648 ≤ a ∧ a ≤ 2147483647) : (jI a).toInt = a := Int32.toInt_ofInt_of_le (by omega) (by omega)
theorem jL_toInt {a : Int} (h : -9223372036854775808 ≤ a ∧ a ≤ 9223372036854775807) : (jL a).toInt = a := Int64.toInt_ofInt_of_le (by omega) (by omega)
theorem jI_of (x : Int32) : ∃ z : Int, (-2147483648 ≤ z ∧ z ≤ 2147483647) ∧ x = jI z := ⟨x.toInt, ⟨by have := x.le_toInt; omega, by have := x.toInt_lt; omega⟩, (Int32.ofInt_toInt x).symm⟩
theorem jL_of (x : Int64) : ∃ z : Int, (-9223372036854775808 ≤ z ∧ z ≤ 9223372036854775807) ∧ x = jL z := ⟨x.toInt, ⟨by have := x.le_toInt; omega, by have := x.toInt_lt; omega⟩, (Int64.ofInt_toInt x).symm⟩
theorem jI_lt {a b : Int} (ha : -2147483648 ≤ a ∧ a ≤ 2147483647) (hb : -2147483648 ≤ b ∧ b ≤ 2147483647) : jI a < jI b ↔ a < b := by rw [Int32.lt_iff_toInt_lt, jI_toInt ha, jI_toInt hb]
theorem jI_le {a b : Int} (ha : -2147483648 ≤ a ∧ a ≤ 2147483647) (hb : -2147483648 ≤ b ∧ b ≤ 2147483647) : jI a ≤ jI b ↔ a ≤ b := by rw [Int32.le_iff_toInt_le, jI_toInt ha, jI_toInt hb]
theorem jI_eq {a b : Int} (ha : -2147483648 ≤ a ∧ a ≤ 2147483647) (hb : -2147483648 ≤ b ∧ b ≤ 2147483647) : jI a = jI b ↔ a = b := by rw [← Int32.toInt_inj, jI_toInt ha, jI_toInt hb]
theorem jL_lt {a b : Int} (ha : -9223372036854775808 ≤ a ∧ a ≤ 9223372036854775807) (hb : -9223372036854775808 ≤ b ∧ b ≤ 9223372036854775807) : jL a < jL b ↔ a < b := by rw [Int64.lt_iff_toInt_lt, jL_toInt ha, jL_toInt hb]
theorem jL_eq {a b : Int} (ha : -9223372036854775808 ≤ a ∧ a ≤ 9223372036854775807) (hb : -9223372036854775808 ≤ b ∧ b ≤ 9223372036854775807) : jL a = jL b ↔ a = b := by rw [← Int64.toInt_inj, jL_toInt ha, jL_toInt hb]
theorem jI_0 : (0 : Int32) = jI 0 := by decide
theorem jI_cl {a : Int} (h0 : 0 ≤ a) (h1 : a ≤ 2147483647) : ((jI a).toNatClampNeg : Int) = a := by
  have := Int32.toNatClampNeg_ofInt_of_le (n := a) (by omega) (by omega)
  unfold jI
  rw [this]
  omega
theorem jI_in {a : Int} {n : Nat} (h0 : 0 ≤ a) (h1 : a < n) (hn : a ≤ 2147483647) : vp_in (jI a) n := by
  rw [vp_in_iff, jI_toInt (by omega)]
  exact ⟨h0, h1⟩
theorem jI_i2l {a : Int} (h : -2147483648 ≤ a ∧ a ≤ 2147483647) : (jI a).toInt64 = jL a := by
  rw [← Int64.toInt_inj, Int32.toInt_toInt64, jI_toInt h, jL_toInt (by omega)]
theorem jL_l2i (a : Int) : (jL a).toInt32 = jI a := Int64.toInt32_ofInt
def cmpZ (a b : Int) : Int := if b < a then 1 else if a = b then 0 else -1
theorem cmpZ_r (a b : Int) : -1 ≤ cmpZ a b ∧ cmpZ a b ≤ 1 := by unfold cmpZ; split <;> (try split) <;> omega
theorem cmpZ_lt {a b : Int} : cmpZ a b < 0 ↔ a < b := by unfold cmpZ; split <;> (try split) <;> omega
theorem cmpZ_eq {a b : Int} : cmpZ a b = 0 ↔ a = b := by unfold cmpZ; split <;> (try split) <;> omega
theorem cmpZ_gt {a b : Int} : 0 < cmpZ a b ↔ b < a := by unfold cmpZ; split <;> (try split) <;> omega
theorem lg_cmpZ {a b : Int} (ha : -9223372036854775808 ≤ a ∧ a ≤ 9223372036854775807) (hb : -9223372036854775808 ≤ b ∧ b ≤ 9223372036854775807) : lg_cmp (jL a) (jL b) = jI (cmpZ a b) := by
  unfold lg_cmp cmpZ
  simp only [gt_iff_lt, jL_lt hb ha, jL_eq ha hb]
  split
  · decide
  · split <;> decide
/-! the state: what each slot of each cell holds, by kind and number -/
def u3 {α : Type} (X : Nat → Int → Int → α) (k : Nat) (i j : Int) (v : α) : Nat → Int → Int → α := fun k' i' j' => if k' = k ∧ i' = i ∧ j' = j then v else X k' i' j'
theorem u3_s {α : Type} (X : Nat → Int → Int → α) (k : Nat) (i j : Int) (v : α) : u3 X k i j v k i j = v := by simp [u3]
theorem u3_k {α : Type} (X : Nat → Int → Int → α) {k k' : Nat} (i j : Int) (v : α) (h : k' ≠ k) : u3 X k i j v k' = X k' := by funext i' j'; simp [u3, h]
theorem u3_i {α : Type} (X : Nat → Int → Int → α) (k : Nat) {i i' : Int} (j : Int) (v : α) (h : i' ≠ i) : u3 X k i j v k i' = X k i' := by funext j'; simp [u3, h]
theorem u3_j {α : Type} (X : Nat → Int → Int → α) (k : Nat) (i : Int) {j j' : Int} (v : α) (h : j' ≠ j) : u3 X k i j v k i j' = X k i j' := by simp [u3, h]
theorem u3_ne {α : Type} (X : Nat → Int → Int → α) (k k' : Nat) (i i' : Int) (j : Int) (v : α) (h : ¬ (k' = k ∧ i' = i)) : u3 X k i j v k' i' = X k' i' := by
  funext j'
  simp only [u3]
  rw [if_neg (fun q => h ⟨q.1, q.2.1⟩)]
theorem zlt {c : Int} (h : c = 1) : 0 < c := by rw [h]; decide
/-! the layout of the kinds: printed by wip/tools/layout.py -/
def layL : List (Nat × List (Nat × Nat) × (Nat × Nat × Nat) × Int) := [(9, [(3, 1), (0, 0), (3, 2), (0, 0), (3, 3), (3, 4), (4, 7), (4, 7), (3, 5), (3, 6), (3, 29), (3, 32)], (9, 0, 0), 0),
  (0, [], (4, 8, 19), 8),
  (0, [], (4, 7, 15), 30),
  (0, [], (0, 2, 0), 16),
  (0, [], (4, 5, 7), 4),
  (0, [], (4, 7, 15), 30),
  (0, [], (4, 6, 26), 450),
  (5, [(0, 0), (3, 8), (3, 9), (3, 10), (3, 11), (3, 12), (0, 0), (3, 13), (3, 14)], (9, 0, 0), 0),
  (0, [], (0, 0, 0), 30),
  (0, [], (0, 0, 0), 30),
  (0, [], (0, 0, 0), 150),
  (0, [], (0, 0, 0), 150),
  (0, [], (1, 1, 0), 150),
  (0, [], (0, 0, 0), 150),
  (0, [], (1, 1, 0), 1800),
  (7, [(4, 19), (3, 16), (3, 17), (0, 0)], (9, 0, 0), 0),
  (0, [], (1, 1, 0), 5),
  (0, [], (4, 6, 26), 5),
  (0, [], (9, 0, 0), 0),
  (8, [(0, 0), (0, 0), (3, 20), (3, 21), (3, 22), (3, 23), (0, 0), (3, 24)], (9, 0, 0), 0),
  (0, [], (0, 0, 0), 5),
  (0, [], (0, 0, 0), 5),
  (0, [], (1, 1, 0), 5),
  (0, [], (0, 2, 0), 5),
  (0, [], (4, 3, 25), 4),
  (1, [(0, 0), (0, 0), (0, 0), (1, 0)], (9, 0, 0), 0),
  (6, [(3, 27), (0, 0)], (9, 0, 0), 0),
  (0, [], (1, 1, 0), (-1)),
  (4, [(4, 15), (0, 0), (1, 0), (4, 26)], (9, 0, 0), 0),
  (3, [(3, 30), (0, 0), (3, 31), (0, 0)], (9, 0, 0), 0),
  (0, [], (4, 4, 28), 80),
  (0, [], (0, 0, 0), 4),
  (2, [(0, 0), (0, 0), (0, 0), (0, 0)], (9, 0, 0), 0),
  (0, [], (9, 0, 0), 0),
  (0, [], (9, 0, 0), 0),
  (0, [], (9, 0, 0), 0),
  (0, [], (9, 0, 0), 0),
  (0, [], (9, 0, 0), 0),
  (0, [], (9, 0, 0), 0),
  (0, [], (9, 0, 0), 0),
  (10, [(0, 0), (3, 42), (0, 0), (3, 44), (3, 45), (3, 46), (3, 47), (3, 48), (3, 49), (3, 50), (3, 51), (3, 52), (3, 53), (0, 0), (3, 55), (3, 56), (3, 57), (3, 58), (3, 59), (3, 60), (0, 0), (3, 62), (0, 0), (3, 64), (3, 65), (3, 66), (3, 67), (3, 68), (0, 0), (3, 70), (3, 71), (3, 72), (3, 73), (3, 74), (3, 75), (3, 76), (3, 77), (3, 78), (3, 79), (3, 80), (3, 81), (0, 0), (0, 0), (0, 0), (3, 85), (3, 86), (3, 87), (3, 88), (3, 89), (3, 90), (0, 0)], (9, 0, 0), 0),
  (0, [], (9, 0, 0), 0),
  (0, [], (0, 2, 0), 16),
  (0, [], (9, 0, 0), 0),
  (0, [], (0, 0, 0), 8),
  (0, [], (0, 0, 0), 40),
  (0, [], (0, 0, 0), 40),
  (0, [], (1, 1, 0), 40),
  (0, [], (0, 2, 0), 40),
  (0, [], (0, 0, 0), 8),
  (0, [], (0, 0, 0), 32),
  (0, [], (0, 0, 0), 32),
  (0, [], (0, 0, 0), 32),
  (0, [], (1, 1, 0), 32),
  (0, [], (9, 0, 0), 0),
  (0, [], (0, 0, 0), 30),
  (0, [], (1, 1, 0), 150),
  (0, [], (0, 0, 0), 400),
  (0, [], (0, 0, 0), 400),
  (0, [], (1, 1, 0), 4800),
  (0, [], (0, 2, 0), 400),
  (0, [], (9, 0, 0), 0),
  (0, [], (0, 0, 0), 4),
  (0, [], (9, 0, 0), 0),
  (0, [], (0, 0, 0), 80),
  (0, [], (0, 0, 0), 80),
  (0, [], (0, 0, 0), 80),
  (0, [], (0, 0, 0), 80),
  (0, [], (1, 1, 0), 80),
  (0, [], (9, 0, 0), 0),
  (0, [], (0, 0, 0), 5),
  (0, [], (0, 0, 0), 150),
  (0, [], (0, 0, 0), 150),
  (0, [], (0, 0, 0), 750),
  (0, [], (0, 0, 0), 750),
  (0, [], (1, 1, 0), 750),
  (0, [], (0, 0, 0), 5),
  (0, [], (0, 0, 0), 750),
  (0, [], (0, 0, 0), 750),
  (0, [], (1, 1, 0), 9000),
  (0, [], (0, 0, 0), 30),
  (0, [], (0, 0, 0), 150),
  (0, [], (9, 0, 0), 0),
  (0, [], (9, 0, 0), 0),
  (0, [], (9, 0, 0), 0),
  (0, [], (0, 0, 0), 450),
  (0, [], (0, 0, 0), 30),
  (0, [], (0, 0, 0), 30),
  (0, [], (0, 0, 0), 400),
  (0, [], (0, 0, 0), 400),
  (0, [], (0, 0, 0), 30),
  (0, [], (9, 0, 0), 0),
  (0, [], (9, 0, 0), 0),
  (0, [], (9, 0, 0), 0),
  (0, [], (9, 0, 0), 0),
  (0, [], (9, 0, 0), 0),
  (0, [], (9, 0, 0), 0),
  (0, [], (9, 0, 0), 0),
  (0, [], (9, 0, 0), 0),
  (0, [], (9, 0, 0), 0),
  (0, [], (1, 1, 0), 1)]
def lay (k : Nat) : Nat × List (Nat × Nat) × (Nat × Nat × Nat) × Int := layL.getD k (0, [], (9, 0, 0), 0)
def slo (k j : Nat) : Nat × Nat := (lay k).2.1.getD j (9, 0)
def SL (k j ci code tgt N : Nat) : Prop := (lay k).1 = ci + 1 ∧ (lay k).2.1.length = N ∧ slo k j = (code, tgt) ∧ j < N
def AR (k code t tgt : Nat) (len : Int) : Prop := (lay k).1 = 0 ∧ (lay k).2.2.1 = (code, t, tgt) ∧ (lay k).2.2.2 = len
theorem sl_0_0 : SL 0 0 8 3 1 12 := by unfold SL slo; decide +kernel
theorem sl_0_1 : SL 0 1 8 0 0 12 := by unfold SL slo; decide +kernel
theorem sl_0_2 : SL 0 2 8 3 2 12 := by unfold SL slo; decide +kernel
theorem sl_0_3 : SL 0 3 8 0 0 12 := by unfold SL slo; decide +kernel
theorem sl_0_4 : SL 0 4 8 3 3 12 := by unfold SL slo; decide +kernel
theorem sl_0_5 : SL 0 5 8 3 4 12 := by unfold SL slo; decide +kernel
theorem sl_0_6 : SL 0 6 8 4 7 12 := by unfold SL slo; decide +kernel
theorem sl_0_7 : SL 0 7 8 4 7 12 := by unfold SL slo; decide +kernel
theorem sl_0_8 : SL 0 8 8 3 5 12 := by unfold SL slo; decide +kernel
theorem sl_0_9 : SL 0 9 8 3 6 12 := by unfold SL slo; decide +kernel
theorem sl_0_10 : SL 0 10 8 3 29 12 := by unfold SL slo; decide +kernel
theorem sl_0_11 : SL 0 11 8 3 32 12 := by unfold SL slo; decide +kernel
theorem sl_7_0 : SL 7 0 4 0 0 9 := by unfold SL slo; decide +kernel
theorem sl_7_1 : SL 7 1 4 3 8 9 := by unfold SL slo; decide +kernel
theorem sl_7_2 : SL 7 2 4 3 9 9 := by unfold SL slo; decide +kernel
theorem sl_7_3 : SL 7 3 4 3 10 9 := by unfold SL slo; decide +kernel
theorem sl_7_4 : SL 7 4 4 3 11 9 := by unfold SL slo; decide +kernel
theorem sl_7_5 : SL 7 5 4 3 12 9 := by unfold SL slo; decide +kernel
theorem sl_7_6 : SL 7 6 4 0 0 9 := by unfold SL slo; decide +kernel
theorem sl_7_7 : SL 7 7 4 3 13 9 := by unfold SL slo; decide +kernel
theorem sl_7_8 : SL 7 8 4 3 14 9 := by unfold SL slo; decide +kernel
theorem sl_15_0 : SL 15 0 6 4 19 4 := by unfold SL slo; decide +kernel
theorem sl_15_1 : SL 15 1 6 3 16 4 := by unfold SL slo; decide +kernel
theorem sl_15_2 : SL 15 2 6 3 17 4 := by unfold SL slo; decide +kernel
theorem sl_15_3 : SL 15 3 6 0 0 4 := by unfold SL slo; decide +kernel
theorem sl_19_0 : SL 19 0 7 0 0 8 := by unfold SL slo; decide +kernel
theorem sl_19_1 : SL 19 1 7 0 0 8 := by unfold SL slo; decide +kernel
theorem sl_19_2 : SL 19 2 7 3 20 8 := by unfold SL slo; decide +kernel
theorem sl_19_3 : SL 19 3 7 3 21 8 := by unfold SL slo; decide +kernel
theorem sl_19_4 : SL 19 4 7 3 22 8 := by unfold SL slo; decide +kernel
theorem sl_19_5 : SL 19 5 7 3 23 8 := by unfold SL slo; decide +kernel
theorem sl_19_6 : SL 19 6 7 0 0 8 := by unfold SL slo; decide +kernel
theorem sl_19_7 : SL 19 7 7 3 24 8 := by unfold SL slo; decide +kernel
theorem sl_25_0 : SL 25 0 0 0 0 4 := by unfold SL slo; decide +kernel
theorem sl_25_1 : SL 25 1 0 0 0 4 := by unfold SL slo; decide +kernel
theorem sl_25_2 : SL 25 2 0 0 0 4 := by unfold SL slo; decide +kernel
theorem sl_25_3 : SL 25 3 0 1 0 4 := by unfold SL slo; decide +kernel
theorem sl_26_0 : SL 26 0 5 3 27 2 := by unfold SL slo; decide +kernel
theorem sl_26_1 : SL 26 1 5 0 0 2 := by unfold SL slo; decide +kernel
theorem sl_28_0 : SL 28 0 3 4 15 4 := by unfold SL slo; decide +kernel
theorem sl_28_1 : SL 28 1 3 0 0 4 := by unfold SL slo; decide +kernel
theorem sl_28_2 : SL 28 2 3 1 0 4 := by unfold SL slo; decide +kernel
theorem sl_28_3 : SL 28 3 3 4 26 4 := by unfold SL slo; decide +kernel
theorem sl_29_0 : SL 29 0 2 3 30 4 := by unfold SL slo; decide +kernel
theorem sl_29_1 : SL 29 1 2 0 0 4 := by unfold SL slo; decide +kernel
theorem sl_29_2 : SL 29 2 2 3 31 4 := by unfold SL slo; decide +kernel
theorem sl_29_3 : SL 29 3 2 0 0 4 := by unfold SL slo; decide +kernel
theorem sl_32_0 : SL 32 0 1 0 0 4 := by unfold SL slo; decide +kernel
theorem sl_32_1 : SL 32 1 1 0 0 4 := by unfold SL slo; decide +kernel
theorem sl_32_2 : SL 32 2 1 0 0 4 := by unfold SL slo; decide +kernel
theorem sl_32_3 : SL 32 3 1 0 0 4 := by unfold SL slo; decide +kernel
theorem sl_40_0 : SL 40 0 9 0 0 51 := by unfold SL slo; decide +kernel
theorem sl_40_1 : SL 40 1 9 3 42 51 := by unfold SL slo; decide +kernel
theorem sl_40_2 : SL 40 2 9 0 0 51 := by unfold SL slo; decide +kernel
theorem sl_40_3 : SL 40 3 9 3 44 51 := by unfold SL slo; decide +kernel
theorem sl_40_4 : SL 40 4 9 3 45 51 := by unfold SL slo; decide +kernel
theorem sl_40_5 : SL 40 5 9 3 46 51 := by unfold SL slo; decide +kernel
theorem sl_40_6 : SL 40 6 9 3 47 51 := by unfold SL slo; decide +kernel
theorem sl_40_7 : SL 40 7 9 3 48 51 := by unfold SL slo; decide +kernel
theorem sl_40_8 : SL 40 8 9 3 49 51 := by unfold SL slo; decide +kernel
theorem sl_40_9 : SL 40 9 9 3 50 51 := by unfold SL slo; decide +kernel
theorem sl_40_10 : SL 40 10 9 3 51 51 := by unfold SL slo; decide +kernel
theorem sl_40_11 : SL 40 11 9 3 52 51 := by unfold SL slo; decide +kernel
theorem sl_40_12 : SL 40 12 9 3 53 51 := by unfold SL slo; decide +kernel
theorem sl_40_13 : SL 40 13 9 0 0 51 := by unfold SL slo; decide +kernel
theorem sl_40_14 : SL 40 14 9 3 55 51 := by unfold SL slo; decide +kernel
theorem sl_40_15 : SL 40 15 9 3 56 51 := by unfold SL slo; decide +kernel
theorem sl_40_16 : SL 40 16 9 3 57 51 := by unfold SL slo; decide +kernel
theorem sl_40_17 : SL 40 17 9 3 58 51 := by unfold SL slo; decide +kernel
theorem sl_40_18 : SL 40 18 9 3 59 51 := by unfold SL slo; decide +kernel
theorem sl_40_19 : SL 40 19 9 3 60 51 := by unfold SL slo; decide +kernel
theorem sl_40_20 : SL 40 20 9 0 0 51 := by unfold SL slo; decide +kernel
theorem sl_40_21 : SL 40 21 9 3 62 51 := by unfold SL slo; decide +kernel
theorem sl_40_22 : SL 40 22 9 0 0 51 := by unfold SL slo; decide +kernel
theorem sl_40_23 : SL 40 23 9 3 64 51 := by unfold SL slo; decide +kernel
theorem sl_40_24 : SL 40 24 9 3 65 51 := by unfold SL slo; decide +kernel
theorem sl_40_25 : SL 40 25 9 3 66 51 := by unfold SL slo; decide +kernel
theorem sl_40_26 : SL 40 26 9 3 67 51 := by unfold SL slo; decide +kernel
theorem sl_40_27 : SL 40 27 9 3 68 51 := by unfold SL slo; decide +kernel
theorem sl_40_28 : SL 40 28 9 0 0 51 := by unfold SL slo; decide +kernel
theorem sl_40_29 : SL 40 29 9 3 70 51 := by unfold SL slo; decide +kernel
theorem sl_40_30 : SL 40 30 9 3 71 51 := by unfold SL slo; decide +kernel
theorem sl_40_31 : SL 40 31 9 3 72 51 := by unfold SL slo; decide +kernel
theorem sl_40_32 : SL 40 32 9 3 73 51 := by unfold SL slo; decide +kernel
theorem sl_40_33 : SL 40 33 9 3 74 51 := by unfold SL slo; decide +kernel
theorem sl_40_34 : SL 40 34 9 3 75 51 := by unfold SL slo; decide +kernel
theorem sl_40_35 : SL 40 35 9 3 76 51 := by unfold SL slo; decide +kernel
theorem sl_40_36 : SL 40 36 9 3 77 51 := by unfold SL slo; decide +kernel
theorem sl_40_37 : SL 40 37 9 3 78 51 := by unfold SL slo; decide +kernel
theorem sl_40_38 : SL 40 38 9 3 79 51 := by unfold SL slo; decide +kernel
theorem sl_40_39 : SL 40 39 9 3 80 51 := by unfold SL slo; decide +kernel
theorem sl_40_40 : SL 40 40 9 3 81 51 := by unfold SL slo; decide +kernel
theorem sl_40_41 : SL 40 41 9 0 0 51 := by unfold SL slo; decide +kernel
theorem sl_40_42 : SL 40 42 9 0 0 51 := by unfold SL slo; decide +kernel
theorem sl_40_43 : SL 40 43 9 0 0 51 := by unfold SL slo; decide +kernel
theorem sl_40_44 : SL 40 44 9 3 85 51 := by unfold SL slo; decide +kernel
theorem sl_40_45 : SL 40 45 9 3 86 51 := by unfold SL slo; decide +kernel
theorem sl_40_46 : SL 40 46 9 3 87 51 := by unfold SL slo; decide +kernel
theorem sl_40_47 : SL 40 47 9 3 88 51 := by unfold SL slo; decide +kernel
theorem sl_40_48 : SL 40 48 9 3 89 51 := by unfold SL slo; decide +kernel
theorem sl_40_49 : SL 40 49 9 3 90 51 := by unfold SL slo; decide +kernel
theorem sl_40_50 : SL 40 50 9 0 0 51 := by unfold SL slo; decide +kernel
theorem ar_1 : AR 1 4 8 19 8 := by unfold AR; decide +kernel
theorem ar_2 : AR 2 4 7 15 30 := by unfold AR; decide +kernel
theorem ar_3 : AR 3 0 2 0 16 := by unfold AR; decide +kernel
theorem ar_4 : AR 4 4 5 7 4 := by unfold AR; decide +kernel
theorem ar_5 : AR 5 4 7 15 30 := by unfold AR; decide +kernel
theorem ar_6 : AR 6 4 6 26 450 := by unfold AR; decide +kernel
theorem ar_8 : AR 8 0 0 0 30 := by unfold AR; decide +kernel
theorem ar_9 : AR 9 0 0 0 30 := by unfold AR; decide +kernel
theorem ar_10 : AR 10 0 0 0 150 := by unfold AR; decide +kernel
theorem ar_11 : AR 11 0 0 0 150 := by unfold AR; decide +kernel
theorem ar_12 : AR 12 1 1 0 150 := by unfold AR; decide +kernel
theorem ar_13 : AR 13 0 0 0 150 := by unfold AR; decide +kernel
theorem ar_14 : AR 14 1 1 0 1800 := by unfold AR; decide +kernel
theorem ar_16 : AR 16 1 1 0 5 := by unfold AR; decide +kernel
theorem ar_17 : AR 17 4 6 26 5 := by unfold AR; decide +kernel
theorem ar_20 : AR 20 0 0 0 5 := by unfold AR; decide +kernel
theorem ar_21 : AR 21 0 0 0 5 := by unfold AR; decide +kernel
theorem ar_22 : AR 22 1 1 0 5 := by unfold AR; decide +kernel
theorem ar_23 : AR 23 0 2 0 5 := by unfold AR; decide +kernel
theorem ar_24 : AR 24 4 3 25 4 := by unfold AR; decide +kernel
theorem ar_27 : AR 27 1 1 0 (-1) := by unfold AR; decide +kernel
theorem ar_30 : AR 30 4 4 28 80 := by unfold AR; decide +kernel
theorem ar_31 : AR 31 0 0 0 4 := by unfold AR; decide +kernel
theorem ar_42 : AR 42 0 2 0 16 := by unfold AR; decide +kernel
theorem ar_44 : AR 44 0 0 0 8 := by unfold AR; decide +kernel
theorem ar_45 : AR 45 0 0 0 40 := by unfold AR; decide +kernel
theorem ar_46 : AR 46 0 0 0 40 := by unfold AR; decide +kernel
theorem ar_47 : AR 47 1 1 0 40 := by unfold AR; decide +kernel
theorem ar_48 : AR 48 0 2 0 40 := by unfold AR; decide +kernel
theorem ar_49 : AR 49 0 0 0 8 := by unfold AR; decide +kernel
theorem ar_50 : AR 50 0 0 0 32 := by unfold AR; decide +kernel
theorem ar_51 : AR 51 0 0 0 32 := by unfold AR; decide +kernel
theorem ar_52 : AR 52 0 0 0 32 := by unfold AR; decide +kernel
theorem ar_53 : AR 53 1 1 0 32 := by unfold AR; decide +kernel
theorem ar_55 : AR 55 0 0 0 30 := by unfold AR; decide +kernel
theorem ar_56 : AR 56 1 1 0 150 := by unfold AR; decide +kernel
theorem ar_57 : AR 57 0 0 0 400 := by unfold AR; decide +kernel
theorem ar_58 : AR 58 0 0 0 400 := by unfold AR; decide +kernel
theorem ar_59 : AR 59 1 1 0 4800 := by unfold AR; decide +kernel
theorem ar_60 : AR 60 0 2 0 400 := by unfold AR; decide +kernel
theorem ar_62 : AR 62 0 0 0 4 := by unfold AR; decide +kernel
theorem ar_64 : AR 64 0 0 0 80 := by unfold AR; decide +kernel
theorem ar_65 : AR 65 0 0 0 80 := by unfold AR; decide +kernel
theorem ar_66 : AR 66 0 0 0 80 := by unfold AR; decide +kernel
theorem ar_67 : AR 67 0 0 0 80 := by unfold AR; decide +kernel
theorem ar_68 : AR 68 1 1 0 80 := by unfold AR; decide +kernel
theorem ar_70 : AR 70 0 0 0 5 := by unfold AR; decide +kernel
theorem ar_71 : AR 71 0 0 0 150 := by unfold AR; decide +kernel
theorem ar_72 : AR 72 0 0 0 150 := by unfold AR; decide +kernel
theorem ar_73 : AR 73 0 0 0 750 := by unfold AR; decide +kernel
theorem ar_74 : AR 74 0 0 0 750 := by unfold AR; decide +kernel
theorem ar_75 : AR 75 1 1 0 750 := by unfold AR; decide +kernel
theorem ar_76 : AR 76 0 0 0 5 := by unfold AR; decide +kernel
theorem ar_77 : AR 77 0 0 0 750 := by unfold AR; decide +kernel
theorem ar_78 : AR 78 0 0 0 750 := by unfold AR; decide +kernel
theorem ar_79 : AR 79 1 1 0 9000 := by unfold AR; decide +kernel
theorem ar_80 : AR 80 0 0 0 30 := by unfold AR; decide +kernel
theorem ar_81 : AR 81 0 0 0 150 := by unfold AR; decide +kernel
theorem ar_85 : AR 85 0 0 0 450 := by unfold AR; decide +kernel
theorem ar_86 : AR 86 0 0 0 30 := by unfold AR; decide +kernel
theorem ar_87 : AR 87 0 0 0 30 := by unfold AR; decide +kernel
theorem ar_88 : AR 88 0 0 0 400 := by unfold AR; decide +kernel
theorem ar_89 : AR 89 0 0 0 400 := by unfold AR; decide +kernel
theorem ar_90 : AR 90 0 0 0 30 := by unfold AR; decide +kernel
theorem ar_100 : AR 100 1 1 0 1 := by unfold AR; decide +kernel

/-! the world: every cell of the class and of the reference, by kind and number -/
abbrev St : Type := (Nat → Int → Nat) × (Nat → Int) × (Nat → Int → Int → Int) × (Nat → Int → Int → Option Int) × (Int → Int)
def slV (ad : Nat → Int → Nat) (X : Nat → Int → Int → Int) (R : Nat → Int → Int → Option Int) (k : Nat) (i : Int) (j : Nat) (c : Nat × Nat) : Value :=
  if c.1 = 0 then .int (jI (X k i j)) else if c.1 = 1 then .long (jL (X k i j)) else if c.1 = 3 then .ref (ad c.2 i) else va_rf ((R k i j).map (ad c.2))
def lenE (ln : Int → Int) (k : Nat) (i : Int) : Int := if k = 27 then ln i else (lay k).2.2.2
def ceE (tc : Nat → ClassId) (ad : Nat → Int → Nat) (X : Nat → Int → Int → Int) (R : Nat → Int → Int → Option Int) (ln : Int → Int) (k : Nat) (i : Int) : va_E :=
  if (lay k).1 = 0 then
    (if (lay k).2.2.1.1 = 0 then .inl (tc (lay k).2.2.1.2.1, (lenE ln k i).toNat, .inl (fun q => jI (X k i q)))
    else if (lay k).2.2.1.1 = 1 then .inl (tc (lay k).2.2.1.2.1, (lenE ln k i).toNat, .inr (.inl (fun q => jL (X k i q))))
    else .inl (tc (lay k).2.2.1.2.1, (lenE ln k i).toNat, .inr (.inr (.inr (.inr (fun q => (R k i q).map (ad (lay k).2.2.1.2.2)))))))
  else .inr ((lay k).1 - 1, (List.range (lay k).2.1.length).map (fun j => slV ad X R k i j (slo k j)))
def tysL (tc : Nat → ClassId) : List (ClassId × FieldType) := [(tc 0, .int), (tc 1, .long), (tc 2, .boolean), (tc 3, .object RX0), (tc 4, .object RX3), (tc 5, .object RX4), (tc 6, .object RX5), (tc 7, .object RX6), (tc 8, .object RX7)]
def rfK (k j t : Nat) : Prop := ((lay k).1 = 0 ∧ (lay k).2.2.1.1 = 4 ∧ (lay k).2.2.1.2.2 = t) ∨ ((lay k).1 ≠ 0 ∧ slo k j = (4, t))
def RefOK (cnt : Nat → Int) (R : Nat → Int → Int → Option Int) : Prop := ∀ (k : Nat) (i : Int) (j t : Nat) (i' : Int), 0 ≤ i → i < cnt k → rfK k j t → R k i j = some i' → 0 ≤ i' ∧ i' < cnt t
def wlE (tc : Nat → ClassId) (ad : Nat → Int → Nat) (X : Nat → Int → Int → Int) (R : Nat → Int → Int → Option Int) (ln : Int → Int) (RL : List (Nat × Int)) : va_W := RL.map fun r => (ad r.1 r.2, ceE tc ad X R ln r.1 r.2)
def wd (D : va_G) (tc : Nat → ClassId) (base : Nat) (u : St) (H : Heap) : Prop :=
  (∃ RL : List (Nat × Int), (∀ k i, (k, i) ∈ RL ↔ (0 ≤ i ∧ i < u.2.1 k)) ∧ va_P D vwCl (wlE tc u.1 u.2.2.1 u.2.2.2.1 u.2.2.2.2 RL) H ∧ va_D (fun q => base ≤ q) (wlE tc u.1 u.2.2.1 u.2.2.2.1 u.2.2.2.2 RL)) ∧ RefOK u.2.1 u.2.2.2.1 ∧ base ≤ H.size
theorem ceE_congr {tc : Nat → ClassId} {ad : Nat → Int → Nat} {X X' : Nat → Int → Int → Int} {R R' : Nat → Int → Int → Option Int} {ln : Int → Int} {k : Nat} {i : Int} (hX : X' k i = X k i) (hR : R' k i = R k i) : ceE tc ad X' R' ln k i = ceE tc ad X R ln k i := by
  unfold ceE slV
  rw [hX, hR]
theorem wd_pos {D : va_G} {tc : Nat → ClassId} {base : Nat} {ad : Nat → Int → Nat} {cnt : Nat → Int} {X : Nat → Int → Int → Int} {R : Nat → Int → Int → Option Int} {ln : Int → Int} {H : Heap} {k : Nat} {i : Int}
    (hw : wd D tc base (ad, cnt, X, R, ln) H) (h0 : 0 ≤ i) (h1 : i < cnt k) : ∃ (ws : va_W) (q0 : Nat), va_P D vwCl ws H ∧ va_D (fun q => base ≤ q) ws ∧ ws[q0]? = some (ad k i, ceE tc ad X R ln k i) ∧
      (∀ (k' : Nat) (i' : Int), 0 ≤ i' → i' < cnt k' → ∃ q1 : Nat, ws[q1]? = some (ad k' i', ceE tc ad X R ln k' i')) ∧
      ∀ (X' : Nat → Int → Int → Int) (R' : Nat → Int → Int → Option Int) (H' : Heap), (∀ k' i', ¬ (k' = k ∧ i' = i) → X' k' i' = X k' i' ∧ R' k' i' = R k' i') → RefOK cnt R' → va_P D vwCl (ws.set q0 (ad k i, ceE tc ad X' R' ln k i)) H' → va_D (fun q => base ≤ q) (ws.set q0 (ad k i, ceE tc ad X' R' ln k i)) → wd D tc base (ad, cnt, X', R', ln) H' := by
  obtain ⟨⟨RL, hRL, hP, hD⟩, -, -⟩ := hw
  have hget : ∀ (k' : Nat) (i' : Int), 0 ≤ i' → i' < cnt k' → ∃ q1 : Nat, RL[q1]? = some (k', i') ∧ (wlE tc ad X R ln RL)[q1]? = some (ad k' i', ceE tc ad X R ln k' i') := by
    intro k' i' g0 g1
    obtain ⟨q1, hq1⟩ := List.getElem?_of_mem ((hRL k' i').mpr ⟨g0, g1⟩)
    exact ⟨q1, hq1, by simp [wlE, hq1]⟩
  obtain ⟨q0, hr, hq⟩ := hget k i h0 h1
  refine ⟨wlE tc ad X R ln RL, q0, hP, hD, hq, fun k' i' g0 g1 => by obtain ⟨q1, -, h⟩ := hget k' i' g0 g1; exact ⟨q1, h⟩, ?_⟩
  intro X' R' H' hne hrf hP' hD'
  have hb : base ≤ H'.size := by
    have hl := (List.getElem?_eq_some_iff.mp hq).1
    have hz := List.getElem?_set_self (a := (ad k i, ceE tc ad X' R' ln k i)) hl
    have h5 := hD'.2 q0 _ hz
    have h6 := (hP' q0 _ hz).lt
    dsimp only at h5 h6
    omega
  have hset : (wlE tc ad X R ln RL).set q0 (ad k i, ceE tc ad X' R' ln k i) = wlE tc ad X' R' ln RL := by
    apply List.ext_getElem?
    intro p
    by_cases hp : p = q0
    · subst hp
      have hl := (List.getElem?_eq_some_iff.mp hq).1
      rw [List.getElem?_set_self hl]
      simp [wlE, hr]
    · rw [List.getElem?_set_ne (Ne.symm hp)]
      simp only [wlE, List.getElem?_map]
      cases hb2 : RL[p]? with
      | none => rfl
      | some r =>
        obtain ⟨rk, ri⟩ := r
        have hn : ¬ (rk = k ∧ ri = i) := by
          rintro ⟨rfl, rfl⟩
          have h2 : (wlE tc ad X R ln RL)[p]? = some (ad rk ri, ceE tc ad X R ln rk ri) := by simp [wlE, hb2]
          exact hp (hD.1 p q0 _ _ h2 hq rfl)
        have h3 := hne rk ri hn
        simp only [Option.map_some]
        rw [ceE_congr h3.1 h3.2]
  rw [hset] at hP' hD'
  exact ⟨⟨RL, hRL, hP', hD'⟩, hrf, hb⟩
theorem wd_size {D : va_G} {tc : Nat → ClassId} {base : Nat} {u : St} {H : Heap} (hw : wd D tc base u H) : base ≤ H.size := hw.2.2
theorem wd_ref {D : va_G} {tc : Nat → ClassId} {base : Nat} {ad : Nat → Int → Nat} {cnt : Nat → Int} {X : Nat → Int → Int → Int} {R : Nat → Int → Int → Option Int} {ln : Int → Int} {H : Heap} (hw : wd D tc base (ad, cnt, X, R, ln) H) : RefOK cnt R := hw.2.1
theorem wd_inj {D : va_G} {tc : Nat → ClassId} {base : Nat} {ad : Nat → Int → Nat} {cnt : Nat → Int} {X : Nat → Int → Int → Int} {R : Nat → Int → Int → Option Int} {ln : Int → Int} {H : Heap} {k k' : Nat} {i i' : Int}
    (hw : wd D tc base (ad, cnt, X, R, ln) H) (h0 : 0 ≤ i) (h1 : i < cnt k) (g0 : 0 ≤ i') (g1 : i' < cnt k') (e : ad k i = ad k' i') : k = k' ∧ i = i' := by
  obtain ⟨⟨RL, hRL, -, hD⟩, -, -⟩ := hw
  obtain ⟨q0, h2⟩ := List.getElem?_of_mem ((hRL k i).mpr ⟨h0, h1⟩)
  obtain ⟨q1, h3⟩ := List.getElem?_of_mem ((hRL k' i').mpr ⟨g0, g1⟩)
  have e0 := hD.1 q0 q1 (ad k i, ceE tc ad X R ln k i) (ad k' i', ceE tc ad X R ln k' i') (by simp [wlE, h2]) (by simp [wlE, h3]) e
  subst e0
  rw [h2] at h3
  cases h3
  exact ⟨rfl, rfl⟩
theorem ob_E {tc : Nat → ClassId} {ad : Nat → Int → Nat} {X : Nat → Int → Int → Int} {R : Nat → Int → Int → Option Int} {ln : Int → Int} {k j ci code tgt N : Nat} {i : Int} (h : SL k j ci code tgt N) :
    ceE tc ad X R ln k i = .inr (ci, (List.range N).map (fun j => slV ad X R k i j (slo k j))) := by
  obtain ⟨h1, h2, -, -⟩ := h
  unfold ceE
  rw [if_neg (by rw [h1]; omega), h1, h2]
  rfl
theorem ar_iE {tc : Nat → ClassId} {ad : Nat → Int → Nat} {X : Nat → Int → Int → Int} {R : Nat → Int → Int → Option Int} {ln : Int → Int} {k t tgt : Nat} {len i : Int} (h : AR k 0 t tgt len) :
    ceE tc ad X R ln k i = .inl (tc t, (lenE ln k i).toNat, .inl (fun q => jI (X k i q))) := by
  obtain ⟨h1, h2, -⟩ := h
  unfold ceE
  rw [if_pos h1, h2]
  rfl
theorem ar_lE {tc : Nat → ClassId} {ad : Nat → Int → Nat} {X : Nat → Int → Int → Int} {R : Nat → Int → Int → Option Int} {ln : Int → Int} {k t tgt : Nat} {len i : Int} (h : AR k 1 t tgt len) :
    ceE tc ad X R ln k i = .inl (tc t, (lenE ln k i).toNat, .inr (.inl (fun q => jL (X k i q)))) := by
  obtain ⟨h1, h2, -⟩ := h
  unfold ceE
  rw [if_pos h1, h2]
  rfl
theorem ar_rE {tc : Nat → ClassId} {ad : Nat → Int → Nat} {X : Nat → Int → Int → Int} {R : Nat → Int → Int → Option Int} {ln : Int → Int} {k t tgt : Nat} {len i : Int} (h : AR k 4 t tgt len) :
    ceE tc ad X R ln k i = .inl (tc t, (lenE ln k i).toNat, .inr (.inr (.inr (.inr (fun q => (R k i q).map (ad tgt)))))) := by
  obtain ⟨h1, h2, -⟩ := h
  unfold ceE
  rw [if_pos h1, h2]
  rfl
theorem mp_set {N j : Nat} {g g' : Nat → Value} {v : Value} (hj : j < N) (hv : g' j = v) (ho : ∀ i, i ≠ j → g' i = g i) : ((List.range N).map g).set j v = (List.range N).map g' := by
  apply List.ext_getElem?
  intro q
  by_cases hq : q = j
  · subst hq
    rw [List.getElem?_set_self (by simpa using hj)]
    simp [hj, hv]
  · rw [List.getElem?_set_ne (Ne.symm hq)]
    simp only [List.getElem?_map]
    by_cases hqn : q < N
    · simp [hqn, ho q hq]
    · have : (List.range N)[q]? = none := by simp; omega
      rw [this]; rfl
theorem refOK_X {cnt : Nat → Int} {R : Nat → Int → Int → Option Int} (h : RefOK cnt R) : RefOK cnt R := h
theorem refOK_s {cnt : Nat → Int} {R : Nat → Int → Int → Option Int} {k : Nat} {i j : Int} {i' : Int} {t : Nat} (h : RefOK cnt R) (hk : ∀ (j' t' : Nat), (j' : Int) = j → rfK k j' t' → t' = t) (h0 : 0 ≤ i') (h1 : i' < cnt t) : RefOK cnt (u3 R k i j (some i')) := by
  intro k2 i2 j2 t2 r g0 g1 hr e
  simp only [u3] at e
  split at e
  · rename_i hc
    obtain ⟨rfl, rfl, rfl⟩ := hc
    cases e
    rw [hk j2 t2 rfl hr]
    exact ⟨h0, h1⟩
  · exact h k2 i2 j2 t2 r g0 g1 hr e
theorem refOK_n {cnt : Nat → Int} {R : Nat → Int → Int → Option Int} {k : Nat} {i j : Int} (h : RefOK cnt R) : RefOK cnt (u3 R k i j none) := by
  intro k2 i2 j2 t2 r g0 g1 hr e
  simp only [u3] at e
  split at e
  · cases e
  · exact h k2 i2 j2 t2 r g0 g1 hr e
