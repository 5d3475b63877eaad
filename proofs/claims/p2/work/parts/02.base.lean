/-! numbers: every int and long as an integer -/
def jI (z : Int) : Int32 := Int32.ofInt z
def jL (z : Int) : Int64 := Int64.ofInt z
theorem jI_add (a b : Int) : jI a + jI b = jI (a + b) := (Int32.ofInt_add a b).symm
theorem jI_sub (a b : Int) : jI a - jI b = jI (a - b) := (Int32.ofInt_sub a b).symm
theorem jI_mul (a b : Int) : jI a * jI b = jI (a * b) := (Int32.ofInt_mul a b).symm
theorem jL_add (a b : Int) : jL a + jL b = jL (a + b) := (Int64.ofInt_add a b).symm
theorem jI_toInt {a : Int} (h : -2147483648 ≤ a ∧ a ≤ 2147483647) : (jI a).toInt = a := Int32.toInt_ofInt_of_le (by omega) (by omega)
theorem jL_toInt {a : Int} (h : -9223372036854775808 ≤ a ∧ a ≤ 9223372036854775807) : (jL a).toInt = a := Int64.toInt_ofInt_of_le (by omega) (by omega)
theorem jI_of (x : Int32) : ∃ z : Int, (-2147483648 ≤ z ∧ z ≤ 2147483647) ∧ x = jI z := ⟨x.toInt, ⟨by have := x.le_toInt; omega, by have := x.toInt_lt; omega⟩, (Int32.ofInt_toInt x).symm⟩
theorem jL_of (x : Int64) : ∃ z : Int, (-9223372036854775808 ≤ z ∧ z ≤ 9223372036854775807) ∧ x = jL z := ⟨x.toInt, ⟨by have := x.le_toInt; omega, by have := x.toInt_lt; omega⟩, (Int64.ofInt_toInt x).symm⟩
theorem jI_lt {a b : Int} (ha : -2147483648 ≤ a ∧ a ≤ 2147483647) (hb : -2147483648 ≤ b ∧ b ≤ 2147483647) : jI a < jI b ↔ a < b := by rw [Int32.lt_iff_toInt_lt, jI_toInt ha, jI_toInt hb]
theorem jI_le {a b : Int} (ha : -2147483648 ≤ a ∧ a ≤ 2147483647) (hb : -2147483648 ≤ b ∧ b ≤ 2147483647) : jI a ≤ jI b ↔ a ≤ b := by rw [Int32.le_iff_toInt_le, jI_toInt ha, jI_toInt hb]
theorem jI_eq {a b : Int} (ha : -2147483648 ≤ a ∧ a ≤ 2147483647) (hb : -2147483648 ≤ b ∧ b ≤ 2147483647) : jI a = jI b ↔ a = b := by rw [← Int32.toInt_inj, jI_toInt ha, jI_toInt hb]
theorem jL_lt {a b : Int} (ha : -9223372036854775808 ≤ a ∧ a ≤ 9223372036854775807) (hb : -9223372036854775808 ≤ b ∧ b ≤ 9223372036854775807) : jL a < jL b ↔ a < b := by rw [Int64.lt_iff_toInt_lt, jL_toInt ha, jL_toInt hb]
theorem jL_eq {a b : Int} (ha : -9223372036854775808 ≤ a ∧ a ≤ 9223372036854775807) (hb : -9223372036854775808 ≤ b ∧ b ≤ 9223372036854775807) : jL a = jL b ↔ a = b := by rw [← Int64.toInt_inj, jL_toInt ha, jL_toInt hb]
theorem jI_0 : (0 : Int32) = jI 0 := by decide
theorem jI_cl {a : Int} (h0 : 0 ≤ a) (h1 : a ≤ 2147483647) : ((jI a).toNatClampNeg : Int) = a := by
  have := Int32.toNatClampNeg_ofInt_of_le (n := a) (by omega) (by omega)
  unfold jI
  rw [this]
  omega
theorem jI_in {a : Int} {n : Nat} (h0 : 0 ≤ a) (h1 : a < n) (hn : a ≤ 2147483647) : vp_in (jI a) n := by
  rw [vp_in_iff, jI_toInt (by omega)]
  exact ⟨h0, h1⟩
theorem jI_i2l {a : Int} (h : -2147483648 ≤ a ∧ a ≤ 2147483647) : (jI a).toInt64 = jL a := by
  rw [← Int64.toInt_inj, Int32.toInt_toInt64, jI_toInt h, jL_toInt (by omega)]
theorem jL_l2i (a : Int) : (jL a).toInt32 = jI a := Int64.toInt32_ofInt
def cmpZ (a b : Int) : Int := if b < a then 1 else if a = b then 0 else -1
theorem cmpZ_r (a b : Int) : -1 ≤ cmpZ a b ∧ cmpZ a b ≤ 1 := by unfold cmpZ; split <;> (try split) <;> omega
theorem cmpZ_lt {a b : Int} : cmpZ a b < 0 ↔ a < b := by unfold cmpZ; split <;> (try split) <;> omega
theorem cmpZ_eq {a b : Int} : cmpZ a b = 0 ↔ a = b := by unfold cmpZ; split <;> (try split) <;> omega
theorem cmpZ_gt {a b : Int} : 0 < cmpZ a b ↔ b < a := by unfold cmpZ; split <;> (try split) <;> omega
theorem lg_cmpZ {a b : Int} (ha : -9223372036854775808 ≤ a ∧ a ≤ 9223372036854775807) (hb : -9223372036854775808 ≤ b ∧ b ≤ 9223372036854775807) : lg_cmp (jL a) (jL b) = jI (cmpZ a b) := by
  unfold lg_cmp cmpZ
  simp only [gt_iff_lt, jL_lt hb ha, jL_eq ha hb]
  split
  · decide
  · split <;> decide
/-! the state: what each slot of each cell holds, by kind and number -/
def u3 {α : Type} (X : Nat → Int → Int → α) (k : Nat) (i j : Int) (v : α) : Nat → Int → Int → α := fun k' i' j' => if k' = k ∧ i' = i ∧ j' = j then v else X k' i' j'
theorem u3_s {α : Type} (X : Nat → Int → Int → α) (k : Nat) (i j : Int) (v : α) : u3 X k i j v k i j = v := by simp [u3]
theorem u3_k {α : Type} (X : Nat → Int → Int → α) {k k' : Nat} (i j : Int) (v : α) (h : k' ≠ k) : u3 X k i j v k' = X k' := by funext i' j'; simp [u3, h]
theorem u3_i {α : Type} (X : Nat → Int → Int → α) (k : Nat) {i i' : Int} (j : Int) (v : α) (h : i' ≠ i) : u3 X k i j v k i' = X k i' := by funext j'; simp [u3, h]
theorem u3_j {α : Type} (X : Nat → Int → Int → α) (k : Nat) (i : Int) {j j' : Int} (v : α) (h : j' ≠ j) : u3 X k i j v k i j' = X k i j' := by simp [u3, h]
theorem u3_ne {α : Type} (X : Nat → Int → Int → α) (k k' : Nat) (i i' : Int) (j : Int) (v : α) (h : ¬ (k' = k ∧ i' = i)) : u3 X k i j v k' i' = X k' i' := by
  funext j'
  simp only [u3]
  rw [if_neg (fun q => h ⟨q.1, q.2.1⟩)]
/-! the layout of the kinds: printed by wip/tools/layout.py -/
def layL : List (Nat × List (Nat × Nat) × (Nat × Nat × Nat) × Int) := [(9, [(3, 1), (0, 0), (3, 2), (0, 0), (3, 3), (3, 4), (4, 7), (4, 7), (3, 5), (3, 6), (3, 29), (3, 32)], (9, 0, 0), 0),
  (0, [], (4, 8, 19), 8),
  (0, [], (4, 7, 15), 30),
  (0, [], (0, 2, 0), 16),
  (0, [], (4, 5, 7), 4),
  (0, [], (4, 7, 15), 30),
  (0, [], (4, 6, 26), 450),
  (5, [(0, 0), (3, 8), (3, 9), (3, 10), (3, 11), (3, 12), (0, 0), (3, 13), (3, 14)], (9, 0, 0), 0),
  (0, [], (0, 0, 0), 30),
  (0, [], (0, 0, 0), 30),
  (0, [], (0, 0, 0), 150),
  (0, [], (0, 0, 0), 150),
  (0, [], (1, 1, 0), 150),
  (0, [], (0, 0, 0), 150),
  (0, [], (1, 1, 0), 1800),
  (7, [(4, 19), (3, 16), (3, 17), (0, 0)], (9, 0, 0), 0),
  (0, [], (1, 1, 0), 5),
  (0, [], (4, 6, 26), 5),
  (0, [], (9, 0, 0), 0),
  (8, [(0, 0), (0, 0), (3, 20), (3, 21), (3, 22), (3, 23), (0, 0), (3, 24)], (9, 0, 0), 0),
  (0, [], (0, 0, 0), 5),
  (0, [], (0, 0, 0), 5),
  (0, [], (1, 1, 0), 5),
  (0, [], (0, 2, 0), 5),
  (0, [], (4, 3, 25), 4),
  (1, [(0, 0), (0, 0), (0, 0), (1, 0)], (9, 0, 0), 0),
  (6, [(3, 27), (0, 0)], (9, 0, 0), 0),
  (0, [], (1, 1, 0), (-1)),
  (4, [(4, 15), (0, 0), (1, 0), (4, 26)], (9, 0, 0), 0),
  (3, [(3, 30), (0, 0), (3, 31), (0, 0)], (9, 0, 0), 0),
  (0, [], (4, 4, 28), 80),
  (0, [], (0, 0, 0), 4),
  (2, [(0, 0), (0, 0), (0, 0), (0, 0)], (9, 0, 0), 0),
  (0, [], (9, 0, 0), 0),
  (0, [], (9, 0, 0), 0),
  (0, [], (9, 0, 0), 0),
  (0, [], (9, 0, 0), 0),
  (0, [], (9, 0, 0), 0),
  (0, [], (9, 0, 0), 0),
  (0, [], (9, 0, 0), 0),
  (10, [(0, 0), (3, 42), (0, 0), (3, 44), (3, 45), (3, 46), (3, 47), (3, 48), (3, 49), (3, 50), (3, 51), (3, 52), (3, 53), (0, 0), (3, 55), (3, 56), (3, 57), (3, 58), (3, 59), (3, 60), (0, 0), (3, 62), (0, 0), (3, 64), (3, 65), (3, 66), (3, 67), (3, 68), (0, 0), (3, 70), (3, 71), (3, 72), (3, 73), (3, 74), (3, 75), (3, 76), (3, 77), (3, 78), (3, 79), (3, 80), (3, 81), (0, 0), (0, 0), (0, 0), (3, 85), (3, 86), (3, 87), (3, 88), (3, 89), (3, 90), (0, 0)], (9, 0, 0), 0),
  (0, [], (9, 0, 0), 0),
  (0, [], (0, 2, 0), 16),
  (0, [], (9, 0, 0), 0),
  (0, [], (0, 0, 0), 8),
  (0, [], (0, 0, 0), 40),
  (0, [], (0, 0, 0), 40),
  (0, [], (1, 1, 0), 40),
  (0, [], (0, 2, 0), 40),
  (0, [], (0, 0, 0), 8),
  (0, [], (0, 0, 0), 32),
  (0, [], (0, 0, 0), 32),
  (0, [], (0, 0, 0), 32),
  (0, [], (1, 1, 0), 32),
  (0, [], (9, 0, 0), 0),
  (0, [], (0, 0, 0), 30),
  (0, [], (1, 1, 0), 150),
  (0, [], (0, 0, 0), 400),
  (0, [], (0, 0, 0), 400),
  (0, [], (1, 1, 0), 4800),
  (0, [], (0, 2, 0), 400),
  (0, [], (9, 0, 0), 0),
  (0, [], (0, 0, 0), 4),
  (0, [], (9, 0, 0), 0),
  (0, [], (0, 0, 0), 80),
  (0, [], (0, 0, 0), 80),
  (0, [], (0, 0, 0), 80),
  (0, [], (0, 0, 0), 80),
  (0, [], (1, 1, 0), 80),
  (0, [], (9, 0, 0), 0),
  (0, [], (0, 0, 0), 5),
  (0, [], (0, 0, 0), 150),
  (0, [], (0, 0, 0), 150),
  (0, [], (0, 0, 0), 750),
  (0, [], (0, 0, 0), 750),
  (0, [], (1, 1, 0), 750),
  (0, [], (0, 0, 0), 5),
  (0, [], (0, 0, 0), 750),
  (0, [], (0, 0, 0), 750),
  (0, [], (1, 1, 0), 9000),
  (0, [], (0, 0, 0), 30),
  (0, [], (0, 0, 0), 150),
  (0, [], (9, 0, 0), 0),
  (0, [], (9, 0, 0), 0),
  (0, [], (9, 0, 0), 0),
  (0, [], (0, 0, 0), 450),
  (0, [], (0, 0, 0), 30),
  (0, [], (0, 0, 0), 30),
  (0, [], (0, 0, 0), 400),
  (0, [], (0, 0, 0), 400),
  (0, [], (0, 0, 0), 30),
  (0, [], (9, 0, 0), 0),
  (0, [], (9, 0, 0), 0),
  (0, [], (9, 0, 0), 0),
  (0, [], (9, 0, 0), 0),
  (0, [], (9, 0, 0), 0),
  (0, [], (9, 0, 0), 0),
  (0, [], (9, 0, 0), 0),
  (0, [], (9, 0, 0), 0),
  (0, [], (9, 0, 0), 0),
  (0, [], (1, 1, 0), 1)]
def lay (k : Nat) : Nat × List (Nat × Nat) × (Nat × Nat × Nat) × Int := layL.getD k (0, [], (9, 0, 0), 0)
def SL (k j ci code tgt N : Nat) : Prop := (lay k).1 = ci + 1 ∧ (lay k).2.1.length = N ∧ (lay k).2.1.getD j (9, 0) = (code, tgt) ∧ j < N
def AR (k code t tgt : Nat) (len : Int) : Prop := (lay k).1 = 0 ∧ (lay k).2.2.1 = (code, t, tgt) ∧ (lay k).2.2.2 = len
theorem sl_0_0 : SL 0 0 8 3 1 12 := by decide +kernel
theorem sl_0_1 : SL 0 1 8 0 0 12 := by decide +kernel
theorem sl_0_2 : SL 0 2 8 3 2 12 := by decide +kernel
theorem sl_0_3 : SL 0 3 8 0 0 12 := by decide +kernel
theorem sl_0_4 : SL 0 4 8 3 3 12 := by decide +kernel
theorem sl_0_5 : SL 0 5 8 3 4 12 := by decide +kernel
theorem sl_0_6 : SL 0 6 8 4 7 12 := by decide +kernel
theorem sl_0_7 : SL 0 7 8 4 7 12 := by decide +kernel
theorem sl_0_8 : SL 0 8 8 3 5 12 := by decide +kernel
theorem sl_0_9 : SL 0 9 8 3 6 12 := by decide +kernel
theorem sl_0_10 : SL 0 10 8 3 29 12 := by decide +kernel
theorem sl_0_11 : SL 0 11 8 3 32 12 := by decide +kernel
theorem sl_7_0 : SL 7 0 4 0 0 9 := by decide +kernel
theorem sl_7_1 : SL 7 1 4 3 8 9 := by decide +kernel
theorem sl_7_2 : SL 7 2 4 3 9 9 := by decide +kernel
theorem sl_7_3 : SL 7 3 4 3 10 9 := by decide +kernel
theorem sl_7_4 : SL 7 4 4 3 11 9 := by decide +kernel
theorem sl_7_5 : SL 7 5 4 3 12 9 := by decide +kernel
theorem sl_7_6 : SL 7 6 4 0 0 9 := by decide +kernel
theorem sl_7_7 : SL 7 7 4 3 13 9 := by decide +kernel
theorem sl_7_8 : SL 7 8 4 3 14 9 := by decide +kernel
theorem sl_15_0 : SL 15 0 6 4 19 4 := by decide +kernel
theorem sl_15_1 : SL 15 1 6 3 16 4 := by decide +kernel
theorem sl_15_2 : SL 15 2 6 3 17 4 := by decide +kernel
theorem sl_15_3 : SL 15 3 6 0 0 4 := by decide +kernel
theorem sl_19_0 : SL 19 0 7 0 0 8 := by decide +kernel
theorem sl_19_1 : SL 19 1 7 0 0 8 := by decide +kernel
theorem sl_19_2 : SL 19 2 7 3 20 8 := by decide +kernel
theorem sl_19_3 : SL 19 3 7 3 21 8 := by decide +kernel
theorem sl_19_4 : SL 19 4 7 3 22 8 := by decide +kernel
theorem sl_19_5 : SL 19 5 7 3 23 8 := by decide +kernel
theorem sl_19_6 : SL 19 6 7 0 0 8 := by decide +kernel
theorem sl_19_7 : SL 19 7 7 3 24 8 := by decide +kernel
theorem sl_25_0 : SL 25 0 0 0 0 4 := by decide +kernel
theorem sl_25_1 : SL 25 1 0 0 0 4 := by decide +kernel
theorem sl_25_2 : SL 25 2 0 0 0 4 := by decide +kernel
theorem sl_25_3 : SL 25 3 0 1 0 4 := by decide +kernel
theorem sl_26_0 : SL 26 0 5 3 27 2 := by decide +kernel
theorem sl_26_1 : SL 26 1 5 0 0 2 := by decide +kernel
theorem sl_28_0 : SL 28 0 3 4 15 4 := by decide +kernel
theorem sl_28_1 : SL 28 1 3 0 0 4 := by decide +kernel
theorem sl_28_2 : SL 28 2 3 1 0 4 := by decide +kernel
theorem sl_28_3 : SL 28 3 3 4 26 4 := by decide +kernel
theorem sl_29_0 : SL 29 0 2 3 30 4 := by decide +kernel
theorem sl_29_1 : SL 29 1 2 0 0 4 := by decide +kernel
theorem sl_29_2 : SL 29 2 2 3 31 4 := by decide +kernel
theorem sl_29_3 : SL 29 3 2 0 0 4 := by decide +kernel
theorem sl_32_0 : SL 32 0 1 0 0 4 := by decide +kernel
theorem sl_32_1 : SL 32 1 1 0 0 4 := by decide +kernel
theorem sl_32_2 : SL 32 2 1 0 0 4 := by decide +kernel
theorem sl_32_3 : SL 32 3 1 0 0 4 := by decide +kernel
theorem sl_40_0 : SL 40 0 9 0 0 51 := by decide +kernel
theorem sl_40_1 : SL 40 1 9 3 42 51 := by decide +kernel
theorem sl_40_2 : SL 40 2 9 0 0 51 := by decide +kernel
theorem sl_40_3 : SL 40 3 9 3 44 51 := by decide +kernel
theorem sl_40_4 : SL 40 4 9 3 45 51 := by decide +kernel
theorem sl_40_5 : SL 40 5 9 3 46 51 := by decide +kernel
theorem sl_40_6 : SL 40 6 9 3 47 51 := by decide +kernel
theorem sl_40_7 : SL 40 7 9 3 48 51 := by decide +kernel
theorem sl_40_8 : SL 40 8 9 3 49 51 := by decide +kernel
theorem sl_40_9 : SL 40 9 9 3 50 51 := by decide +kernel
theorem sl_40_10 : SL 40 10 9 3 51 51 := by decide +kernel
theorem sl_40_11 : SL 40 11 9 3 52 51 := by decide +kernel
theorem sl_40_12 : SL 40 12 9 3 53 51 := by decide +kernel
theorem sl_40_13 : SL 40 13 9 0 0 51 := by decide +kernel
theorem sl_40_14 : SL 40 14 9 3 55 51 := by decide +kernel
theorem sl_40_15 : SL 40 15 9 3 56 51 := by decide +kernel
theorem sl_40_16 : SL 40 16 9 3 57 51 := by decide +kernel
theorem sl_40_17 : SL 40 17 9 3 58 51 := by decide +kernel
theorem sl_40_18 : SL 40 18 9 3 59 51 := by decide +kernel
theorem sl_40_19 : SL 40 19 9 3 60 51 := by decide +kernel
theorem sl_40_20 : SL 40 20 9 0 0 51 := by decide +kernel
theorem sl_40_21 : SL 40 21 9 3 62 51 := by decide +kernel
theorem sl_40_22 : SL 40 22 9 0 0 51 := by decide +kernel
theorem sl_40_23 : SL 40 23 9 3 64 51 := by decide +kernel
theorem sl_40_24 : SL 40 24 9 3 65 51 := by decide +kernel
theorem sl_40_25 : SL 40 25 9 3 66 51 := by decide +kernel
theorem sl_40_26 : SL 40 26 9 3 67 51 := by decide +kernel
theorem sl_40_27 : SL 40 27 9 3 68 51 := by decide +kernel
theorem sl_40_28 : SL 40 28 9 0 0 51 := by decide +kernel
theorem sl_40_29 : SL 40 29 9 3 70 51 := by decide +kernel
theorem sl_40_30 : SL 40 30 9 3 71 51 := by decide +kernel
theorem sl_40_31 : SL 40 31 9 3 72 51 := by decide +kernel
theorem sl_40_32 : SL 40 32 9 3 73 51 := by decide +kernel
theorem sl_40_33 : SL 40 33 9 3 74 51 := by decide +kernel
theorem sl_40_34 : SL 40 34 9 3 75 51 := by decide +kernel
theorem sl_40_35 : SL 40 35 9 3 76 51 := by decide +kernel
theorem sl_40_36 : SL 40 36 9 3 77 51 := by decide +kernel
theorem sl_40_37 : SL 40 37 9 3 78 51 := by decide +kernel
theorem sl_40_38 : SL 40 38 9 3 79 51 := by decide +kernel
theorem sl_40_39 : SL 40 39 9 3 80 51 := by decide +kernel
theorem sl_40_40 : SL 40 40 9 3 81 51 := by decide +kernel
theorem sl_40_41 : SL 40 41 9 0 0 51 := by decide +kernel
theorem sl_40_42 : SL 40 42 9 0 0 51 := by decide +kernel
theorem sl_40_43 : SL 40 43 9 0 0 51 := by decide +kernel
theorem sl_40_44 : SL 40 44 9 3 85 51 := by decide +kernel
theorem sl_40_45 : SL 40 45 9 3 86 51 := by decide +kernel
theorem sl_40_46 : SL 40 46 9 3 87 51 := by decide +kernel
theorem sl_40_47 : SL 40 47 9 3 88 51 := by decide +kernel
theorem sl_40_48 : SL 40 48 9 3 89 51 := by decide +kernel
theorem sl_40_49 : SL 40 49 9 3 90 51 := by decide +kernel
theorem sl_40_50 : SL 40 50 9 0 0 51 := by decide +kernel
theorem ar_1 : AR 1 4 8 19 8 := by decide +kernel
theorem ar_2 : AR 2 4 7 15 30 := by decide +kernel
theorem ar_3 : AR 3 0 2 0 16 := by decide +kernel
theorem ar_4 : AR 4 4 5 7 4 := by decide +kernel
theorem ar_5 : AR 5 4 7 15 30 := by decide +kernel
theorem ar_6 : AR 6 4 6 26 450 := by decide +kernel
theorem ar_8 : AR 8 0 0 0 30 := by decide +kernel
theorem ar_9 : AR 9 0 0 0 30 := by decide +kernel
theorem ar_10 : AR 10 0 0 0 150 := by decide +kernel
theorem ar_11 : AR 11 0 0 0 150 := by decide +kernel
theorem ar_12 : AR 12 1 1 0 150 := by decide +kernel
theorem ar_13 : AR 13 0 0 0 150 := by decide +kernel
theorem ar_14 : AR 14 1 1 0 1800 := by decide +kernel
theorem ar_16 : AR 16 1 1 0 5 := by decide +kernel
theorem ar_17 : AR 17 4 6 26 5 := by decide +kernel
theorem ar_20 : AR 20 0 0 0 5 := by decide +kernel
theorem ar_21 : AR 21 0 0 0 5 := by decide +kernel
theorem ar_22 : AR 22 1 1 0 5 := by decide +kernel
theorem ar_23 : AR 23 0 2 0 5 := by decide +kernel
theorem ar_24 : AR 24 4 3 25 4 := by decide +kernel
theorem ar_27 : AR 27 1 1 0 (-1) := by decide +kernel
theorem ar_30 : AR 30 4 4 28 80 := by decide +kernel
theorem ar_31 : AR 31 0 0 0 4 := by decide +kernel
theorem ar_42 : AR 42 0 2 0 16 := by decide +kernel
theorem ar_44 : AR 44 0 0 0 8 := by decide +kernel
theorem ar_45 : AR 45 0 0 0 40 := by decide +kernel
theorem ar_46 : AR 46 0 0 0 40 := by decide +kernel
theorem ar_47 : AR 47 1 1 0 40 := by decide +kernel
theorem ar_48 : AR 48 0 2 0 40 := by decide +kernel
theorem ar_49 : AR 49 0 0 0 8 := by decide +kernel
theorem ar_50 : AR 50 0 0 0 32 := by decide +kernel
theorem ar_51 : AR 51 0 0 0 32 := by decide +kernel
theorem ar_52 : AR 52 0 0 0 32 := by decide +kernel
theorem ar_53 : AR 53 1 1 0 32 := by decide +kernel
theorem ar_55 : AR 55 0 0 0 30 := by decide +kernel
theorem ar_56 : AR 56 1 1 0 150 := by decide +kernel
theorem ar_57 : AR 57 0 0 0 400 := by decide +kernel
theorem ar_58 : AR 58 0 0 0 400 := by decide +kernel
theorem ar_59 : AR 59 1 1 0 4800 := by decide +kernel
theorem ar_60 : AR 60 0 2 0 400 := by decide +kernel
theorem ar_62 : AR 62 0 0 0 4 := by decide +kernel
theorem ar_64 : AR 64 0 0 0 80 := by decide +kernel
theorem ar_65 : AR 65 0 0 0 80 := by decide +kernel
theorem ar_66 : AR 66 0 0 0 80 := by decide +kernel
theorem ar_67 : AR 67 0 0 0 80 := by decide +kernel
theorem ar_68 : AR 68 1 1 0 80 := by decide +kernel
theorem ar_70 : AR 70 0 0 0 5 := by decide +kernel
theorem ar_71 : AR 71 0 0 0 150 := by decide +kernel
theorem ar_72 : AR 72 0 0 0 150 := by decide +kernel
theorem ar_73 : AR 73 0 0 0 750 := by decide +kernel
theorem ar_74 : AR 74 0 0 0 750 := by decide +kernel
theorem ar_75 : AR 75 1 1 0 750 := by decide +kernel
theorem ar_76 : AR 76 0 0 0 5 := by decide +kernel
theorem ar_77 : AR 77 0 0 0 750 := by decide +kernel
theorem ar_78 : AR 78 0 0 0 750 := by decide +kernel
theorem ar_79 : AR 79 1 1 0 9000 := by decide +kernel
theorem ar_80 : AR 80 0 0 0 30 := by decide +kernel
theorem ar_81 : AR 81 0 0 0 150 := by decide +kernel
theorem ar_85 : AR 85 0 0 0 450 := by decide +kernel
theorem ar_86 : AR 86 0 0 0 30 := by decide +kernel
theorem ar_87 : AR 87 0 0 0 30 := by decide +kernel
theorem ar_88 : AR 88 0 0 0 400 := by decide +kernel
theorem ar_89 : AR 89 0 0 0 400 := by decide +kernel
theorem ar_90 : AR 90 0 0 0 30 := by decide +kernel
theorem ar_100 : AR 100 1 1 0 1 := by decide +kernel

/-! the world: every cell of the class and of the reference, by kind and number -/
abbrev St : Type := (Nat → Int → Nat) × (Nat → Int) × (Nat → Int → Int → Int) × (Nat → Int → Int → Option Int) × (Int → Int)
def slV (ad : Nat → Int → Nat) (X : Nat → Int → Int → Int) (R : Nat → Int → Int → Option Int) (k : Nat) (i : Int) (j : Nat) (c : Nat × Nat) : Value :=
  if c.1 = 0 then .int (jI (X k i j)) else if c.1 = 1 then .long (jL (X k i j)) else if c.1 = 3 then .ref (ad c.2 i) else va_rf ((R k i j).map (ad c.2))
def lenE (ln : Int → Int) (k : Nat) (i : Int) : Int := if k = 27 then ln i else (lay k).2.2.2
def ceE (tc : Nat → ClassId) (ad : Nat → Int → Nat) (X : Nat → Int → Int → Int) (R : Nat → Int → Int → Option Int) (ln : Int → Int) (k : Nat) (i : Int) : va_E :=
  if (lay k).1 = 0 then
    (if (lay k).2.2.1.1 = 0 then .inl (tc (lay k).2.2.1.2.1, (lenE ln k i).toNat, .inl (fun q => jI (X k i q)))
    else if (lay k).2.2.1.1 = 1 then .inl (tc (lay k).2.2.1.2.1, (lenE ln k i).toNat, .inr (.inl (fun q => jL (X k i q))))
    else .inl (tc (lay k).2.2.1.2.1, (lenE ln k i).toNat, .inr (.inr (.inr (.inr (fun q => (R k i q).map (ad (lay k).2.2.1.2.2)))))))
  else .inr ((lay k).1 - 1, (List.range (lay k).2.1.length).map (fun j => slV ad X R k i j ((lay k).2.1.getD j (9, 0))))
def tysL (tc : Nat → ClassId) : List (ClassId × FieldType) := [(tc 0, .int), (tc 1, .long), (tc 2, .boolean), (tc 3, .object RX0), (tc 4, .object RX3), (tc 5, .object RX4), (tc 6, .object RX5), (tc 7, .object RX6), (tc 8, .object RX7)]
def rfK (k j t : Nat) : Prop := ((lay k).1 = 0 ∧ (lay k).2.2.1.1 = 4 ∧ (lay k).2.2.1.2.2 = t) ∨ ((lay k).1 ≠ 0 ∧ (lay k).2.1.getD j (9, 0) = (4, t))
def RefOK (cnt : Nat → Int) (R : Nat → Int → Int → Option Int) : Prop := ∀ (k : Nat) (i : Int) (j t : Nat) (i' : Int), 0 ≤ i → i < cnt k → rfK k j t → R k i j = some i' → 0 ≤ i' ∧ i' < cnt t
def wlE (tc : Nat → ClassId) (ad : Nat → Int → Nat) (X : Nat → Int → Int → Int) (R : Nat → Int → Int → Option Int) (ln : Int → Int) (RL : List (Nat × Int)) : va_W := RL.map fun r => (ad r.1 r.2, ceE tc ad X R ln r.1 r.2)
def wd (D : va_G) (tc : Nat → ClassId) (base : Nat) (u : St) (H : Heap) : Prop :=
  (∃ RL : List (Nat × Int), (∀ k i, (k, i) ∈ RL ↔ (0 ≤ i ∧ i < u.2.1 k)) ∧ va_P D vwCl (wlE tc u.1 u.2.2.1 u.2.2.2.1 u.2.2.2.2 RL) H ∧ va_D (fun q => base ≤ q) (wlE tc u.1 u.2.2.1 u.2.2.2.1 u.2.2.2.2 RL)) ∧ RefOK u.2.1 u.2.2.2.1 ∧ base ≤ H.size
theorem ceE_congr {tc : Nat → ClassId} {ad : Nat → Int → Nat} {X X' : Nat → Int → Int → Int} {R R' : Nat → Int → Int → Option Int} {ln : Int → Int} {k : Nat} {i : Int} (hX : X' k i = X k i) (hR : R' k i = R k i) : ceE tc ad X' R' ln k i = ceE tc ad X R ln k i := by
  unfold ceE slV
  rw [hX, hR]
theorem wd_pos {D : va_G} {tc : Nat → ClassId} {base : Nat} {ad : Nat → Int → Nat} {cnt : Nat → Int} {X : Nat → Int → Int → Int} {R : Nat → Int → Int → Option Int} {ln : Int → Int} {H : Heap} {k : Nat} {i : Int}
    (hw : wd D tc base (ad, cnt, X, R, ln) H) (h0 : 0 ≤ i) (h1 : i < cnt k) : ∃ (ws : va_W) (q0 : Nat), va_P D vwCl ws H ∧ va_D (fun q => base ≤ q) ws ∧ ws[q0]? = some (ad k i, ceE tc ad X R ln k i) ∧
      (∀ (k' : Nat) (i' : Int), 0 ≤ i' → i' < cnt k' → ∃ q1, ws[q1]? = some (ad k' i', ceE tc ad X R ln k' i')) ∧
      ∀ (X' : Nat → Int → Int → Int) (R' : Nat → Int → Int → Option Int) (H' : Heap), (∀ k' i', ¬ (k' = k ∧ i' = i) → X' k' i' = X k' i' ∧ R' k' i' = R k' i') → RefOK cnt R' → va_P D vwCl (ws.set q0 (ad k i, ceE tc ad X' R' ln k i)) H' → va_D (fun q => base ≤ q) (ws.set q0 (ad k i, ceE tc ad X' R' ln k i)) → wd D tc base (ad, cnt, X', R', ln) H' := by
  obtain ⟨⟨RL, hRL, hP, hD⟩, -, -⟩ := hw
  have hget : ∀ (k' : Nat) (i' : Int), 0 ≤ i' → i' < cnt k' → ∃ q1, RL[q1]? = some (k', i') ∧ (wlE tc ad X R ln RL)[q1]? = some (ad k' i', ceE tc ad X R ln k' i') := by
    intro k' i' g0 g1
    obtain ⟨q1, hq1⟩ := List.getElem?_of_mem ((hRL k' i').mpr ⟨g0, g1⟩)
    exact ⟨q1, hq1, by simp [wlE, hq1]⟩
  obtain ⟨q0, hr, hq⟩ := hget k i h0 h1
  refine ⟨wlE tc ad X R ln RL, q0, hP, hD, hq, fun k' i' g0 g1 => by obtain ⟨q1, -, h⟩ := hget k' i' g0 g1; exact ⟨q1, h⟩, ?_⟩
  intro X' R' H' hne hrf hP' hD'
  have hb : base ≤ H'.size := by
    have hl := (List.getElem?_eq_some_iff.mp hq).1
    have hz := List.getElem?_set_self (a := (ad k i, ceE tc ad X' R' ln k i)) hl
    have h5 := hD'.2 q0 _ hz
    have h6 := (hP' q0 _ hz).lt
    dsimp only at h5 h6
    omega
  have hset : (wlE tc ad X R ln RL).set q0 (ad k i, ceE tc ad X' R' ln k i) = wlE tc ad X' R' ln RL := by
    apply List.ext_getElem?
    intro p
    by_cases hp : p = q0
    · subst hp
      have hl := (List.getElem?_eq_some_iff.mp hq).1
      rw [List.getElem?_set_self hl]
      simp [wlE, hr]
    · rw [List.getElem?_set_ne (Ne.symm hp)]
      simp only [wlE, List.getElem?_map]
      cases hb2 : RL[p]? with
      | none => rfl
      | some r =>
        obtain ⟨rk, ri⟩ := r
        have hn : ¬ (rk = k ∧ ri = i) := by
          rintro ⟨rfl, rfl⟩
          have h2 : (wlE tc ad X R ln RL)[p]? = some (ad rk ri, ceE tc ad X R ln rk ri) := by simp [wlE, hb2]
          exact hp (hD.1 p q0 _ _ h2 hq rfl)
        have h3 := hne rk ri hn
        simp only [Option.map_some]
        rw [ceE_congr h3.1 h3.2]
  rw [hset] at hP' hD'
  exact ⟨⟨RL, hRL, hP', hD'⟩, hrf, hb⟩
theorem wd_size {D : va_G} {tc : Nat → ClassId} {base : Nat} {u : St} {H : Heap} (hw : wd D tc base u H) : base ≤ H.size := hw.2.2
theorem wd_ref {D : va_G} {tc : Nat → ClassId} {base : Nat} {ad : Nat → Int → Nat} {cnt : Nat → Int} {X : Nat → Int → Int → Int} {R : Nat → Int → Int → Option Int} {ln : Int → Int} {H : Heap} (hw : wd D tc base (ad, cnt, X, R, ln) H) : RefOK cnt R := hw.2.1
theorem wd_inj {D : va_G} {tc : Nat → ClassId} {base : Nat} {ad : Nat → Int → Nat} {cnt : Nat → Int} {X : Nat → Int → Int → Int} {R : Nat → Int → Int → Option Int} {ln : Int → Int} {H : Heap} {k k' : Nat} {i i' : Int}
    (hw : wd D tc base (ad, cnt, X, R, ln) H) (h0 : 0 ≤ i) (h1 : i < cnt k) (g0 : 0 ≤ i') (g1 : i' < cnt k') (e : ad k i = ad k' i') : k = k' ∧ i = i' := by
  obtain ⟨⟨RL, hRL, -, hD⟩, -, -⟩ := hw
  obtain ⟨q0, h2⟩ := List.getElem?_of_mem ((hRL k i).mpr ⟨h0, h1⟩)
  obtain ⟨q1, h3⟩ := List.getElem?_of_mem ((hRL k' i').mpr ⟨g0, g1⟩)
  have e0 := hD.1 q0 q1 (ad k i, ceE tc ad X R ln k i) (ad k' i', ceE tc ad X R ln k' i') (by simp [wlE, h2]) (by simp [wlE, h3]) e
  subst e0
  rw [h2] at h3
  cases h3
  exact ⟨rfl, rfl⟩
theorem ob_E {tc : Nat → ClassId} {ad : Nat → Int → Nat} {X : Nat → Int → Int → Int} {R : Nat → Int → Int → Option Int} {ln : Int → Int} {k j ci code tgt N : Nat} {i : Int} (h : SL k j ci code tgt N) :
    ceE tc ad X R ln k i = .inr (ci, (List.range N).map (fun j => slV ad X R k i j ((lay k).2.1.getD j (9, 0)))) := by
  obtain ⟨h1, h2, -, -⟩ := h
  unfold ceE
  rw [if_neg (by rw [h1]; omega), h1, h2]
  rfl
theorem ar_iE {tc : Nat → ClassId} {ad : Nat → Int → Nat} {X : Nat → Int → Int → Int} {R : Nat → Int → Int → Option Int} {ln : Int → Int} {k t tgt : Nat} {len i : Int} (h : AR k 0 t tgt len) :
    ceE tc ad X R ln k i = .inl (tc t, (lenE ln k i).toNat, .inl (fun q => jI (X k i q))) := by
  obtain ⟨h1, h2, -⟩ := h
  unfold ceE
  rw [if_pos h1, h2]
  rfl
theorem ar_lE {tc : Nat → ClassId} {ad : Nat → Int → Nat} {X : Nat → Int → Int → Int} {R : Nat → Int → Int → Option Int} {ln : Int → Int} {k t tgt : Nat} {len i : Int} (h : AR k 1 t tgt len) :
    ceE tc ad X R ln k i = .inl (tc t, (lenE ln k i).toNat, .inr (.inl (fun q => jL (X k i q)))) := by
  obtain ⟨h1, h2, -⟩ := h
  unfold ceE
  rw [if_pos h1, h2]
  rfl
theorem ar_rE {tc : Nat → ClassId} {ad : Nat → Int → Nat} {X : Nat → Int → Int → Int} {R : Nat → Int → Int → Option Int} {ln : Int → Int} {k t tgt : Nat} {len i : Int} (h : AR k 4 t tgt len) :
    ceE tc ad X R ln k i = .inl (tc t, (lenE ln k i).toNat, .inr (.inr (.inr (.inr (fun q => (R k i q).map (ad tgt)))))) := by
  obtain ⟨h1, h2, -⟩ := h
  unfold ceE
  rw [if_pos h1, h2]
  rfl
theorem mp_set {N j : Nat} {g g' : Nat → Value} {v : Value} (hj : j < N) (hv : g' j = v) (ho : ∀ i, i ≠ j → g' i = g i) : ((List.range N).map g).set j v = (List.range N).map g' := by
  apply List.ext_getElem?
  intro q
  by_cases hq : q = j
  · subst hq
    rw [List.getElem?_set_self (by simpa using hj)]
    simp [hj, hv]
  · rw [List.getElem?_set_ne (Ne.symm hq)]
    simp only [List.getElem?_map]
    by_cases hqn : q < N
    · simp [hqn, ho q hq]
    · have : (List.range N)[q]? = none := by simp; omega
      rw [this]; rfl
theorem refOK_X {cnt : Nat → Int} {R : Nat → Int → Int → Option Int} (h : RefOK cnt R) : RefOK cnt R := h
theorem refOK_s {cnt : Nat → Int} {R : Nat → Int → Int → Option Int} {k : Nat} {i j : Int} {i' : Int} {t : Nat} (h : RefOK cnt R) (hk : ∀ (j' t' : Nat), (j' : Int) = j → rfK k j' t' → t' = t) (h0 : 0 ≤ i') (h1 : i' < cnt t) : RefOK cnt (u3 R k i j (some i')) := by
  intro k2 i2 j2 t2 r g0 g1 hr e
  simp only [u3] at e
  split at e
  · rename_i hc
    obtain ⟨rfl, rfl, rfl⟩ := hc
    cases e
    rw [hk j2 t2 rfl hr]
    exact ⟨h0, h1⟩
  · exact h k2 i2 j2 t2 r g0 g1 hr e
theorem refOK_n {cnt : Nat → Int} {R : Nat → Int → Int → Option Int} {k : Nat} {i j : Int} (h : RefOK cnt R) : RefOK cnt (u3 R k i j none) := by
  intro k2 i2 j2 t2 r g0 g1 hr e
  simp only [u3] at e
  split at e
  · cases e
  · exact h k2 i2 j2 t2 r g0 g1 hr e
/-! rows of the walk over the world -/
def fctx (s : State) (m : MethodId) (args : Array Value) (own : String) (Ts : List Cond) (D : va_G) (tc : Nat → ClassId) (C : String) (T : u_T) (N ci : Nat) : Prop :=
  (∀ w ∈ Ts, w.before args s = true) ∧ (∀ w ∈ u_ws C T N, w ∈ Ts) ∧ s.vm.findClass own = some m.cls ∧ va_K D vwCl (tysL tc) s ∧ vwCl[ci]? = some (C, T, N)
def tctx (T : u_T) (N : Nat) (ty : Nat → FieldType) : Prop := (∀ k, k < N → parseFieldDescriptor (T k).2.2.1 = some (ty k)) ∧ (∀ a, a < N → ∀ b, b < N → a ≠ b → (T a).2.1 ≠ (T b).2.1)
section XR
variable {p : Program} {l : Launch} {e : Env} {R : Room} {s : State} {m : MethodId} {args : Array Value} {below : List Frame} {meth : Method} {c : Code} {H H0 : Heap} {locs : List Loc} {cells slots : Nat} {Q : State → Prop}
variable {cc : ByteArray} {pc : Nat} {ls : Array Slot} {rest : List Value} {D : va_G} {tc : Nat → ClassId} {base : Nat} {ad : Nat → Int → Nat} {cnt : Nat → Int} {X : Nat → Int → Int → Int} {Y : Nat → Int → Int → Option Int} {ln : Int → Int}
variable {own C : String} {T : u_T} {N ci index : Nat} {Ts : List Cond} {k j : Nat} {i jz : Int}
theorem x_geti (hx : p.tables.exec = Jvm.exec) (hb : c.code = cc) (F : fctx s m args own Ts D tc C T N ci) (hw : wd D tc base (ad, cnt, X, Y, ln) H) (h0 : 0 ≤ i) (h1 : i < cnt k) {t : Nat} (hs : SL k j ci 0 t N) (hj : (j : Int) = jz)
    (hlink : (Cond.fieldLink own index (T j).1 (T j).2.1 (T j).2.2.1).before args s = true) (hdg : decode cc pc = .ok (.getfield index, 3))
    (kk : W p l e R s m args below meth c H locs cells slots Q (F0 m (pc + 3) ls (.int (jI (X k i jz)) :: rest))) : W p l e R s m args below meth c H locs cells slots Q (F0 m pc ls (.ref (ad k i) :: rest)) := by
  obtain ⟨hts, hin, hown, hK, hc⟩ := F
  obtain ⟨ws, q0, hP, hD, hq, -, -⟩ := wd_pos hw h0 h1
  rw [ob_E hs] at hq
  subst hj
  refine va_get hx hb hts hin hown hK hP q0 hq hc j hs.2.2.2 hlink (fun _ h => h) (v := .int (jI (X k i j))) ?_ hdg kk
  have h3 := hs.2.2.1
  simp [hs.2.2.2, slV, h3]
theorem x_getl (hx : p.tables.exec = Jvm.exec) (hb : c.code = cc) (F : fctx s m args own Ts D tc C T N ci) (hw : wd D tc base (ad, cnt, X, Y, ln) H) (h0 : 0 ≤ i) (h1 : i < cnt k) {t : Nat} (hs : SL k j ci 1 t N) (hj : (j : Int) = jz)
    (hlink : (Cond.fieldLink own index (T j).1 (T j).2.1 (T j).2.2.1).before args s = true) (hdg : decode cc pc = .ok (.getfield index, 3))
    (kk : W p l e R s m args below meth c H locs cells slots Q (F0 m (pc + 3) ls (.long (jL (X k i jz)) :: rest))) : W p l e R s m args below meth c H locs cells slots Q (F0 m pc ls (.ref (ad k i) :: rest)) := by
  obtain ⟨hts, hin, hown, hK, hc⟩ := F
  obtain ⟨ws, q0, hP, hD, hq, -, -⟩ := wd_pos hw h0 h1
  rw [ob_E hs] at hq
  subst hj
  refine va_get hx hb hts hin hown hK hP q0 hq hc j hs.2.2.2 hlink (fun _ h => h) (v := .long (jL (X k i j))) ?_ hdg kk
  have h3 := hs.2.2.1
  simp [hs.2.2.2, slV, h3]
theorem x_geto (hx : p.tables.exec = Jvm.exec) (hb : c.code = cc) (F : fctx s m args own Ts D tc C T N ci) (hw : wd D tc base (ad, cnt, X, Y, ln) H) (h0 : 0 ≤ i) (h1 : i < cnt k) {t : Nat} (hs : SL k j ci 3 t N)
    (hlink : (Cond.fieldLink own index (T j).1 (T j).2.1 (T j).2.2.1).before args s = true) (hdg : decode cc pc = .ok (.getfield index, 3))
    (kk : W p l e R s m args below meth c H locs cells slots Q (F0 m (pc + 3) ls (.ref (ad t i) :: rest))) : W p l e R s m args below meth c H locs cells slots Q (F0 m pc ls (.ref (ad k i) :: rest)) := by
  obtain ⟨hts, hin, hown, hK, hc⟩ := F
  obtain ⟨ws, q0, hP, hD, hq, -, -⟩ := wd_pos hw h0 h1
  rw [ob_E hs] at hq
  refine va_get hx hb hts hin hown hK hP q0 hq hc j hs.2.2.2 hlink (fun _ h => h) (v := .ref (ad t i)) ?_ hdg kk
  have h3 := hs.2.2.1
  simp [hs.2.2.2, slV, h3]
theorem x_getr (hx : p.tables.exec = Jvm.exec) (hb : c.code = cc) (F : fctx s m args own Ts D tc C T N ci) (hw : wd D tc base (ad, cnt, X, Y, ln) H) (h0 : 0 ≤ i) (h1 : i < cnt k) {t : Nat} (hs : SL k j ci 4 t N) (hj : (j : Int) = jz)
    (hlink : (Cond.fieldLink own index (T j).1 (T j).2.1 (T j).2.2.1).before args s = true) (hdg : decode cc pc = .ok (.getfield index, 3))
    (kn : Y k i jz = none → W p l e R s m args below meth c H locs cells slots Q (F0 m (pc + 3) ls (.null :: rest)))
    (kk : ∀ r : Int, Y k i jz = some r → 0 ≤ r → r < cnt t → W p l e R s m args below meth c H locs cells slots Q (F0 m (pc + 3) ls (.ref (ad t r) :: rest))) : W p l e R s m args below meth c H locs cells slots Q (F0 m pc ls (.ref (ad k i) :: rest)) := by
  obtain ⟨hts, hin, hown, hK, hc⟩ := F
  obtain ⟨ws, q0, hP, hD, hq, -, -⟩ := wd_pos hw h0 h1
  have hrf := wd_ref hw
  rw [ob_E hs] at hq
  subst hj
  have h3 := hs.2.2.1
  refine va_get hx hb hts hin hown hK hP q0 hq hc j hs.2.2.2 hlink (fun _ h => h) (v := va_rf ((Y k i j).map (ad t))) ?_ hdg ?_
  · simp [hs.2.2.2, slV, h3]
  · cases hy : Y k i j with
    | none => exact kn hy
    | some r =>
      obtain ⟨g0, g1⟩ := hrf k i j t r h0 h1 (Or.inr ⟨by rw [hs.1]; omega, h3⟩) hy
      exact kk r hy g0 g1
theorem x_puti (hx : p.tables.exec = Jvm.exec) (hb : c.code = cc) (F : fctx s m args own Ts D tc C T N ci) {ty0 : Nat → FieldType} (G : tctx T N ty0) (hw : wd D tc base (ad, cnt, X, Y, ln) H) (hS : va_S (fun q => base ≤ q) H0 H locs) (h0 : 0 ≤ i) (h1 : i < cnt k) {t : Nat} (hs : SL k j ci 0 t N) (hj : (j : Int) = jz)
    (hlink : (Cond.fieldLink own index (T j).1 (T j).2.1 (T j).2.2.1).before args s = true) (hfin : (T j).2.2.2 = false) {ty : FieldType} {v : Int} (hd : parseFieldDescriptor (T j).2.2.1 = some ty) (hn : narrow ty (.int (jI v)) = .int (jI v)) (hfit : fits ty (.int (jI v)) = true) (hdg : decode cc pc = .ok (.putfield index, 3))
    (kk : ∀ (H1 : Heap) (locs1 : List Loc), wd D tc base (ad, cnt, u3 X k i jz v, Y, ln) H1 → va_S (fun q => base ≤ q) H0 H1 locs1 → W p l e R s m args below meth c H1 locs1 cells slots Q (F0 m (pc + 3) ls rest)) : W p l e R s m args below meth c H locs cells slots Q (F0 m pc ls (.int (jI v) :: .ref (ad k i) :: rest)) := by
  obtain ⟨hts, hin, hown, hK, hc⟩ := F
  obtain ⟨ws, q0, hP, hD, hq, -, hset⟩ := wd_pos hw h0 h1
  have hq' := hq
  rw [ob_E hs] at hq'
  subst hj
  have h3 := hs.2.2.1
  have h4 := hs.2.2.2
  refine va_put hx hb hts hin ty0 G.1 G.2 hown hK hP hD hS q0 hq' hc j h4 hlink (fun _ h => h) hfin hd hn hfit (by simpa using h4) hdg (fun H1 locs1 hP1 hD1 hS1 => ?_)
  have he : ceE tc ad (u3 X k i j v) Y ln k i = .inr (ci, ((List.range N).map (fun j => slV ad X Y k i j ((lay k).2.1.getD j (9, 0)))).set j (.int (jI v))) := by
    rw [ob_E hs]
    congr 2
    refine (mp_set h4 ?_ ?_).symm
    · simp [slV, h3, u3]
    · intro q hq
      have hq2 : ¬ ((q : Int) = (j : Int)) := by omega
      simp [slV, u3, hq2]
  rw [← he] at hP1 hD1
  exact kk H1 locs1 (hset (u3 X k i j v) Y H1 (fun k' i' hne => ⟨u3_ne X k k' i i' j v hne, rfl⟩) (wd_ref hw) hP1 hD1) hS1
theorem x_putl (hx : p.tables.exec = Jvm.exec) (hb : c.code = cc) (F : fctx s m args own Ts D tc C T N ci) {ty0 : Nat → FieldType} (G : tctx T N ty0) (hw : wd D tc base (ad, cnt, X, Y, ln) H) (hS : va_S (fun q => base ≤ q) H0 H locs) (h0 : 0 ≤ i) (h1 : i < cnt k) {t : Nat} (hs : SL k j ci 1 t N) (hj : (j : Int) = jz)
    (hlink : (Cond.fieldLink own index (T j).1 (T j).2.1 (T j).2.2.1).before args s = true) (hfin : (T j).2.2.2 = false) {v : Int} (hd : parseFieldDescriptor (T j).2.2.1 = some .long) (hdg : decode cc pc = .ok (.putfield index, 3))
    (kk : ∀ (H1 : Heap) (locs1 : List Loc), wd D tc base (ad, cnt, u3 X k i jz v, Y, ln) H1 → va_S (fun q => base ≤ q) H0 H1 locs1 → W p l e R s m args below meth c H1 locs1 cells slots Q (F0 m (pc + 3) ls rest)) : W p l e R s m args below meth c H locs cells slots Q (F0 m pc ls (.long (jL v) :: .ref (ad k i) :: rest)) := by
  obtain ⟨hts, hin, hown, hK, hc⟩ := F
  obtain ⟨ws, q0, hP, hD, hq, -, hset⟩ := wd_pos hw h0 h1
  have hq' := hq
  rw [ob_E hs] at hq'
  subst hj
  have h3 := hs.2.2.1
  have h4 := hs.2.2.2
  refine va_put hx hb hts hin ty0 G.1 G.2 hown hK hP hD hS q0 hq' hc j h4 hlink (fun _ h => h) hfin hd rfl rfl (by simpa using h4) hdg (fun H1 locs1 hP1 hD1 hS1 => ?_)
  have he : ceE tc ad (u3 X k i j v) Y ln k i = .inr (ci, ((List.range N).map (fun j => slV ad X Y k i j ((lay k).2.1.getD j (9, 0)))).set j (.long (jL v))) := by
    rw [ob_E hs]
    congr 2
    refine (mp_set h4 ?_ ?_).symm
    · simp [slV, h3, u3]
    · intro q hq
      have hq2 : ¬ ((q : Int) = (j : Int)) := by omega
      simp [slV, u3, hq2]
  rw [← he] at hP1 hD1
  exact kk H1 locs1 (hset (u3 X k i j v) Y H1 (fun k' i' hne => ⟨u3_ne X k k' i i' j v hne, rfl⟩) (wd_ref hw) hP1 hD1) hS1
theorem x_putr (hx : p.tables.exec = Jvm.exec) (hb : c.code = cc) (F : fctx s m args own Ts D tc C T N ci) {ty0 : Nat → FieldType} (G : tctx T N ty0) (hw : wd D tc base (ad, cnt, X, Y, ln) H) (hS : va_S (fun q => base ≤ q) H0 H locs) (h0 : 0 ≤ i) (h1 : i < cnt k) {t : Nat} (hs : SL k j ci 4 t N) (hj : (j : Int) = jz)
    (hlink : (Cond.fieldLink own index (T j).1 (T j).2.1 (T j).2.2.1).before args s = true) (hfin : (T j).2.2.2 = false) {r : Int} (g0 : 0 ≤ r) (g1 : r < cnt t) {cn : String} (hd : parseFieldDescriptor (T j).2.2.1 = some (.object cn)) (hdg : decode cc pc = .ok (.putfield index, 3))
    (kk : ∀ (H1 : Heap) (locs1 : List Loc), wd D tc base (ad, cnt, X, u3 Y k i jz (some r), ln) H1 → va_S (fun q => base ≤ q) H0 H1 locs1 → W p l e R s m args below meth c H1 locs1 cells slots Q (F0 m (pc + 3) ls rest)) : W p l e R s m args below meth c H locs cells slots Q (F0 m pc ls (.ref (ad t r) :: .ref (ad k i) :: rest)) := by
  obtain ⟨hts, hin, hown, hK, hc⟩ := F
  obtain ⟨ws, q0, hP, hD, hq, -, hset⟩ := wd_pos hw h0 h1
  have hq' := hq
  rw [ob_E hs] at hq'
  subst hj
  have h3 := hs.2.2.1
  have h4 := hs.2.2.2
  refine va_put hx hb hts hin ty0 G.1 G.2 hown hK hP hD hS q0 hq' hc j h4 hlink (fun _ h => h) hfin hd rfl rfl (by simpa using h4) hdg (fun H1 locs1 hP1 hD1 hS1 => ?_)
  have he : ceE tc ad X (u3 Y k i j (some r)) ln k i = .inr (ci, ((List.range N).map (fun j => slV ad X Y k i j ((lay k).2.1.getD j (9, 0)))).set j (.ref (ad t r))) := by
    rw [ob_E hs]
    congr 2
    refine (mp_set h4 ?_ ?_).symm
    · simp [slV, h3, u3, va_rf]
    · intro q hq
      have hq2 : ¬ ((q : Int) = (j : Int)) := by omega
      simp [slV, u3, hq2]
  rw [← he] at hP1 hD1
  refine kk H1 locs1 (hset X (u3 Y k i j (some r)) H1 (fun k' i' hne => ⟨rfl, u3_ne Y k k' i i' j _ hne⟩) (refOK_s (t := t) (wd_ref hw) ?_ g0 g1) hP1 hD1) hS1
  intro j' t' ej hr
  have ej2 : j' = j := by omega
  subst ej2
  rcases hr with ⟨z1, -⟩ | ⟨-, z2⟩
  · rw [hs.1] at z1; omega
  · rw [h3] at z2; cases z2; rfl
theorem x_putn (hx : p.tables.exec = Jvm.exec) (hb : c.code = cc) (F : fctx s m args own Ts D tc C T N ci) {ty0 : Nat → FieldType} (G : tctx T N ty0) (hw : wd D tc base (ad, cnt, X, Y, ln) H) (hS : va_S (fun q => base ≤ q) H0 H locs) (h0 : 0 ≤ i) (h1 : i < cnt k) {t : Nat} (hs : SL k j ci 4 t N) (hj : (j : Int) = jz)
    (hlink : (Cond.fieldLink own index (T j).1 (T j).2.1 (T j).2.2.1).before args s = true) (hfin : (T j).2.2.2 = false) {cn : String} (hd : parseFieldDescriptor (T j).2.2.1 = some (.object cn)) (hdg : decode cc pc = .ok (.putfield index, 3))
    (kk : ∀ (H1 : Heap) (locs1 : List Loc), wd D tc base (ad, cnt, X, u3 Y k i jz none, ln) H1 → va_S (fun q => base ≤ q) H0 H1 locs1 → W p l e R s m args below meth c H1 locs1 cells slots Q (F0 m (pc + 3) ls rest)) : W p l e R s m args below meth c H locs cells slots Q (F0 m pc ls (.null :: .ref (ad k i) :: rest)) := by
  obtain ⟨hts, hin, hown, hK, hc⟩ := F
  obtain ⟨ws, q0, hP, hD, hq, -, hset⟩ := wd_pos hw h0 h1
  have hq' := hq
  rw [ob_E hs] at hq'
  subst hj
  have h3 := hs.2.2.1
  have h4 := hs.2.2.2
  refine va_put hx hb hts hin ty0 G.1 G.2 hown hK hP hD hS q0 hq' hc j h4 hlink (fun _ h => h) hfin hd rfl rfl (by simpa using h4) hdg (fun H1 locs1 hP1 hD1 hS1 => ?_)
  have he : ceE tc ad X (u3 Y k i j none) ln k i = .inr (ci, ((List.range N).map (fun j => slV ad X Y k i j ((lay k).2.1.getD j (9, 0)))).set j .null) := by
    rw [ob_E hs]
    congr 2
    refine (mp_set h4 ?_ ?_).symm
    · simp [slV, h3, u3, va_rf]
    · intro q hq
      have hq2 : ¬ ((q : Int) = (j : Int)) := by omega
      simp [slV, u3, hq2]
  rw [← he] at hP1 hD1
  exact kk H1 locs1 (hset X (u3 Y k i j none) H1 (fun k' i' hne => ⟨rfl, u3_ne Y k k' i i' j _ hne⟩) (refOK_n (wd_ref hw)) hP1 hD1) hS1
theorem len_E {ln : Int → Int} {k code t tgt : Nat} {len i : Int} (h : AR k code t tgt len) (hk : k ≠ 27) : lenE ln k i = len := by
  unfold lenE
  rw [if_neg hk, h.2.2]
section XA
variable {z len v : Int} {tgt : Nat}
theorem x_iald (hx : p.tables.exec = Jvm.exec) (hb : c.code = cc) (hK : va_K D vwCl (tysL tc) s) (hw : wd D tc base (ad, cnt, X, Y, ln) H) (h0 : 0 ≤ i) (h1 : i < cnt k) (hs : AR k 0 0 tgt len) (hl : lenE ln k i = len) (z0 : 0 ≤ z) (z1 : z < len) (z2 : z ≤ 2147483647) (hdg : decode cc pc = .ok (.iaload, 1))
    (kk : W p l e R s m args below meth c H locs cells slots Q (F0 m (pc + 1) ls (.int (jI (X k i z)) :: rest))) : W p l e R s m args below meth c H locs cells slots Q (F0 m pc ls (.int (jI z) :: .ref (ad k i) :: rest)) := by
  obtain ⟨ws, q0, hP, hD, hq, -, -⟩ := wd_pos hw h0 h1
  rw [ar_iE hs, hl] at hq
  refine va_iald hx hb hK hP q0 0 hq rfl (jI_in z0 (by omega) z2) hdg ?_
  rw [jI_cl z0 z2]
  exact kk
theorem x_zald (hx : p.tables.exec = Jvm.exec) (hb : c.code = cc) (hK : va_K D vwCl (tysL tc) s) (hw : wd D tc base (ad, cnt, X, Y, ln) H) (h0 : 0 ≤ i) (h1 : i < cnt k) (hs : AR k 0 2 tgt len) (hl : lenE ln k i = len) (z0 : 0 ≤ z) (z1 : z < len) (z2 : z ≤ 2147483647) (hdg : decode cc pc = .ok (.baload, 1))
    (kk : W p l e R s m args below meth c H locs cells slots Q (F0 m (pc + 1) ls (.int (jI (X k i z)) :: rest))) : W p l e R s m args below meth c H locs cells slots Q (F0 m pc ls (.int (jI z) :: .ref (ad k i) :: rest)) := by
  obtain ⟨ws, q0, hP, hD, hq, -, -⟩ := wd_pos hw h0 h1
  rw [ar_iE hs, hl] at hq
  refine va_zald hx hb hK hP q0 2 hq rfl (jI_in z0 (by omega) z2) hdg ?_
  rw [jI_cl z0 z2]
  exact kk
theorem x_lald (hx : p.tables.exec = Jvm.exec) (hb : c.code = cc) (hK : va_K D vwCl (tysL tc) s) (hw : wd D tc base (ad, cnt, X, Y, ln) H) (h0 : 0 ≤ i) (h1 : i < cnt k) {l0 : Int} (hs : AR k 1 1 tgt l0) (hl : lenE ln k i = len) (z0 : 0 ≤ z) (z1 : z < len) (z2 : z ≤ 2147483647) (hdg : decode cc pc = .ok (.laload, 1))
    (kk : W p l e R s m args below meth c H locs cells slots Q (F0 m (pc + 1) ls (.long (jL (X k i z)) :: rest))) : W p l e R s m args below meth c H locs cells slots Q (F0 m pc ls (.int (jI z) :: .ref (ad k i) :: rest)) := by
  obtain ⟨ws, q0, hP, hD, hq, -, -⟩ := wd_pos hw h0 h1
  rw [ar_lE hs, hl] at hq
  refine va_lald hx hb hK hP q0 1 hq rfl (jI_in z0 (by omega) z2) hdg ?_
  rw [jI_cl z0 z2]
  exact kk
theorem x_aald (hx : p.tables.exec = Jvm.exec) (hb : c.code = cc) (hK : va_K D vwCl (tysL tc) s) (hw : wd D tc base (ad, cnt, X, Y, ln) H) (h0 : 0 ≤ i) (h1 : i < cnt k) {t0 : Nat} {cn : String} (hs : AR k 4 t0 tgt len) (ht : (tysL tc)[t0]? = some (tc t0, .object cn)) (hl : lenE ln k i = len) (z0 : 0 ≤ z) (z1 : z < len) (z2 : z ≤ 2147483647) (hdg : decode cc pc = .ok (.aaload, 1))
    (kn : Y k i z = none → W p l e R s m args below meth c H locs cells slots Q (F0 m (pc + 1) ls (.null :: rest)))
    (kk : ∀ r : Int, Y k i z = some r → 0 ≤ r → r < cnt tgt → W p l e R s m args below meth c H locs cells slots Q (F0 m (pc + 1) ls (.ref (ad tgt r) :: rest))) : W p l e R s m args below meth c H locs cells slots Q (F0 m pc ls (.int (jI z) :: .ref (ad k i) :: rest)) := by
  obtain ⟨ws, q0, hP, hD, hq, -, -⟩ := wd_pos hw h0 h1
  have hrf := wd_ref hw
  rw [ar_rE hs, hl] at hq
  refine va_aldq hx hb hK hP q0 t0 hq ht (jI_in z0 (by omega) z2) hdg ?_
  rw [jI_cl z0 z2]
  cases hy : Y k i z with
  | none => exact kn hy
  | some r =>
    have e1 : ((z.toNat : Nat) : Int) = z := by omega
    obtain ⟨g0, g1⟩ := hrf k i z.toNat tgt r h0 h1 (Or.inl ⟨hs.1, by rw [hs.2.1], by rw [hs.2.1]⟩) (by rw [e1]; exact hy)
    exact kk r hy g0 g1
theorem x_iast (hx : p.tables.exec = Jvm.exec) (hb : c.code = cc) (hK : va_K D vwCl (tysL tc) s) (hw : wd D tc base (ad, cnt, X, Y, ln) H) (hS : va_S (fun q => base ≤ q) H0 H locs) (h0 : 0 ≤ i) (h1 : i < cnt k) (hs : AR k 0 0 tgt len) (hl : lenE ln k i = len) (z0 : 0 ≤ z) (z1 : z < len) (z2 : z ≤ 2147483647) (hdg : decode cc pc = .ok (.iastore, 1))
    (kk : ∀ (H1 : Heap) (locs1 : List Loc), wd D tc base (ad, cnt, u3 X k i z v, Y, ln) H1 → va_S (fun q => base ≤ q) H0 H1 locs1 → W p l e R s m args below meth c H1 locs1 cells slots Q (F0 m (pc + 1) ls rest)) : W p l e R s m args below meth c H locs cells slots Q (F0 m pc ls (.int (jI v) :: .int (jI z) :: .ref (ad k i) :: rest)) := by
  obtain ⟨ws, q0, hP, hD, hq, -, hset⟩ := wd_pos hw h0 h1
  rw [ar_iE hs, hl] at hq
  refine va_iast hx hb hK hP hD hS q0 0 hq rfl (jI_in z0 (by omega) z2) hdg (fun H1 locs1 hP1 hD1 hS1 => ?_)
  have he : ceE tc ad (u3 X k i z v) Y ln k i = .inl (tc 0, len.toNat, .inl (upd (fun q => jI (X k i q)) (jI z).toNatClampNeg (jI v))) := by
    rw [ar_iE hs, hl]
    congr 4
    funext q
    have e1 := jI_cl z0 z2
    by_cases hq2 : q = (jI z).toNatClampNeg
    · subst hq2
      simp [upd, u3, e1]
    · have hq3 : ¬ ((q : Int) = z) := by omega
      simp [upd, u3, hq2, hq3]
  rw [← he] at hP1 hD1
  exact kk H1 locs1 (hset (u3 X k i z v) Y H1 (fun k' i' hne => ⟨u3_ne X k k' i i' z v hne, rfl⟩) (wd_ref hw) hP1 hD1) hS1
theorem x_zast (hx : p.tables.exec = Jvm.exec) (hb : c.code = cc) (hK : va_K D vwCl (tysL tc) s) (hw : wd D tc base (ad, cnt, X, Y, ln) H) (hS : va_S (fun q => base ≤ q) H0 H locs) (h0 : 0 ≤ i) (h1 : i < cnt k) (hs : AR k 0 2 tgt len) (hl : lenE ln k i = len) (z0 : 0 ≤ z) (z1 : z < len) (z2 : z ≤ 2147483647) (v0 : 0 ≤ v) (v1 : v ≤ 1) (hdg : decode cc pc = .ok (.bastore, 1))
    (kk : ∀ (H1 : Heap) (locs1 : List Loc), wd D tc base (ad, cnt, u3 X k i z v, Y, ln) H1 → va_S (fun q => base ≤ q) H0 H1 locs1 → W p l e R s m args below meth c H1 locs1 cells slots Q (F0 m (pc + 1) ls rest)) : W p l e R s m args below meth c H locs cells slots Q (F0 m pc ls (.int (jI v) :: .int (jI z) :: .ref (ad k i) :: rest)) := by
  obtain ⟨ws, q0, hP, hD, hq, -, hset⟩ := wd_pos hw h0 h1
  rw [ar_iE hs, hl] at hq
  refine va_zast hx hb hK hP hD hS q0 2 hq rfl (jI_in z0 (by omega) z2) hdg (fun H1 locs1 hP1 hD1 hS1 => ?_)
  have hv : vp_nar .boolean (jI v) = jI v := by
    rcases (show v = 0 ∨ v = 1 by omega) with rfl | rfl <;> decide +kernel
  rw [hv] at hP1 hD1
  have he : ceE tc ad (u3 X k i z v) Y ln k i = .inl (tc 2, len.toNat, .inl (upd (fun q => jI (X k i q)) (jI z).toNatClampNeg (jI v))) := by
    rw [ar_iE hs, hl]
    congr 4
    funext q
    have e1 := jI_cl z0 z2
    by_cases hq2 : q = (jI z).toNatClampNeg
    · subst hq2
      simp [upd, u3, e1]
    · have hq3 : ¬ ((q : Int) = z) := by omega
      simp [upd, u3, hq2, hq3]
  rw [← he] at hP1 hD1
  exact kk H1 locs1 (hset (u3 X k i z v) Y H1 (fun k' i' hne => ⟨u3_ne X k k' i i' z v hne, rfl⟩) (wd_ref hw) hP1 hD1) hS1
theorem x_last (hx : p.tables.exec = Jvm.exec) (hb : c.code = cc) (hK : va_K D vwCl (tysL tc) s) (hw : wd D tc base (ad, cnt, X, Y, ln) H) (hS : va_S (fun q => base ≤ q) H0 H locs) (h0 : 0 ≤ i) (h1 : i < cnt k) {l0 : Int} (hs : AR k 1 1 tgt l0) (hl : lenE ln k i = len) (z0 : 0 ≤ z) (z1 : z < len) (z2 : z ≤ 2147483647) (hdg : decode cc pc = .ok (.lastore, 1))
    (kk : ∀ (H1 : Heap) (locs1 : List Loc), wd D tc base (ad, cnt, u3 X k i z v, Y, ln) H1 → va_S (fun q => base ≤ q) H0 H1 locs1 → W p l e R s m args below meth c H1 locs1 cells slots Q (F0 m (pc + 1) ls rest)) : W p l e R s m args below meth c H locs cells slots Q (F0 m pc ls (.long (jL v) :: .int (jI z) :: .ref (ad k i) :: rest)) := by
  obtain ⟨ws, q0, hP, hD, hq, -, hset⟩ := wd_pos hw h0 h1
  rw [ar_lE hs, hl] at hq
  refine va_last hx hb hK hP hD hS q0 1 hq rfl (jI_in z0 (by omega) z2) hdg (fun H1 locs1 hP1 hD1 hS1 => ?_)
  have he : ceE tc ad (u3 X k i z v) Y ln k i = .inl (tc 1, len.toNat, .inr (.inl (vp_updL (fun q => jL (X k i q)) (jI z).toNatClampNeg (jL v)))) := by
    rw [ar_lE hs, hl]
    congr 5
    funext q
    have e1 := jI_cl z0 z2
    by_cases hq2 : q = (jI z).toNatClampNeg
    · subst hq2
      simp [vp_updL, u3, e1]
    · have hq3 : ¬ ((q : Int) = z) := by omega
      simp [vp_updL, u3, hq2, hq3]
  rw [← he] at hP1 hD1
  exact kk H1 locs1 (hset (u3 X k i z v) Y H1 (fun k' i' hne => ⟨u3_ne X k k' i i' z v hne, rfl⟩) (wd_ref hw) hP1 hD1) hS1
theorem x_aast (hx : p.tables.exec = Jvm.exec) (hb : c.code = cc) (hK : va_K D vwCl (tysL tc) s) (hw : wd D tc base (ad, cnt, X, Y, ln) H) (hS : va_S (fun q => base ≤ q) H0 H locs) (h0 : 0 ≤ i) (h1 : i < cnt k) {t0 cj j1 c1 t1 : Nat} {r : Int} {cl1 : vw_C} (hs : AR k 4 t0 tgt len) (ht : (tysL tc)[t0]? = some (tc t0, .object cl1.1)) (hc : vwCl[cj]? = some cl1) {N1 : Nat} (ho : SL tgt j1 cj c1 t1 N1) (hl : lenE ln k i = len) (z0 : 0 ≤ z) (z1 : z < len) (z2 : z ≤ 2147483647) (g0 : 0 ≤ r) (g1 : r < cnt tgt) (hdg : decode cc pc = .ok (.aastore, 1))
    (kk : ∀ (H1 : Heap) (locs1 : List Loc), wd D tc base (ad, cnt, X, u3 Y k i z (some r), ln) H1 → va_S (fun q => base ≤ q) H0 H1 locs1 → W p l e R s m args below meth c H1 locs1 cells slots Q (F0 m (pc + 1) ls rest)) : W p l e R s m args below meth c H locs cells slots Q (F0 m pc ls (.ref (ad tgt r) :: .int (jI z) :: .ref (ad k i) :: rest)) := by
  obtain ⟨ws, q0, hP, hD, hq, hall, hset⟩ := wd_pos hw h0 h1
  obtain ⟨q1, hq1⟩ := hall tgt r g0 g1
  rw [ob_E ho] at hq1
  rw [ar_rE hs, hl] at hq
  refine va_astq hx hb hK hP hD hS q0 t0 q1 cj hq ht hq1 hc (jI_in z0 (by omega) z2) hdg (fun H1 locs1 hP1 hD1 hS1 => ?_)
  have he : ceE tc ad X (u3 Y k i z (some r)) ln k i = .inl (tc t0, len.toNat, .inr (.inr (.inr (.inr (va_up (fun q : Nat => (Y k i q).map (ad tgt)) (jI z).toNatClampNeg (some (ad tgt r))))))) := by
    rw [ar_rE hs, hl]
    congr 7
    funext q
    have e1 := jI_cl z0 z2
    by_cases hq2 : q = (jI z).toNatClampNeg
    · subst hq2
      simp [va_up, u3, e1]
    · have hq3 : ¬ ((q : Int) = z) := by omega
      simp [va_up, u3, hq2, hq3]
  rw [← he] at hP1 hD1
  refine kk H1 locs1 (hset X (u3 Y k i z (some r)) H1 (fun k' i' hne => ⟨rfl, u3_ne Y k k' i i' z _ hne⟩) (refOK_s (t := tgt) (wd_ref hw) ?_ g0 g1) hP1 hD1) hS1
  intro j' t' ej hr
  rcases hr with ⟨-, -, z2⟩ | ⟨z1, -⟩
  · rw [hs.2.1] at z2; exact z2.symm
  · exact absurd hs.1 z1
theorem x_aastn (hx : p.tables.exec = Jvm.exec) (hb : c.code = cc) (hK : va_K D vwCl (tysL tc) s) (hw : wd D tc base (ad, cnt, X, Y, ln) H) (hS : va_S (fun q => base ≤ q) H0 H locs) (h0 : 0 ≤ i) (h1 : i < cnt k) {t0 : Nat} {cn : String} (hs : AR k 4 t0 tgt len) (ht : (tysL tc)[t0]? = some (tc t0, .object cn)) (hl : lenE ln k i = len) (z0 : 0 ≤ z) (z1 : z < len) (z2 : z ≤ 2147483647) (hdg : decode cc pc = .ok (.aastore, 1))
    (kk : ∀ (H1 : Heap) (locs1 : List Loc), wd D tc base (ad, cnt, X, u3 Y k i z none, ln) H1 → va_S (fun q => base ≤ q) H0 H1 locs1 → W p l e R s m args below meth c H1 locs1 cells slots Q (F0 m (pc + 1) ls rest)) : W p l e R s m args below meth c H locs cells slots Q (F0 m pc ls (.null :: .int (jI z) :: .ref (ad k i) :: rest)) := by
  obtain ⟨ws, q0, hP, hD, hq, hall, hset⟩ := wd_pos hw h0 h1
  rw [ar_rE hs, hl] at hq
  refine va_astqN hx hb hK hP hD hS q0 t0 hq ht (jI_in z0 (by omega) z2) hdg (fun H1 locs1 hP1 hD1 hS1 => ?_)
  have he : ceE tc ad X (u3 Y k i z none) ln k i = .inl (tc t0, len.toNat, .inr (.inr (.inr (.inr (va_up (fun q : Nat => (Y k i q).map (ad tgt)) (jI z).toNatClampNeg none))))) := by
    rw [ar_rE hs, hl]
    congr 7
    funext q
    have e1 := jI_cl z0 z2
    by_cases hq2 : q = (jI z).toNatClampNeg
    · subst hq2
      simp [va_up, u3, e1]
    · have hq3 : ¬ ((q : Int) = z) := by omega
      simp [va_up, u3, hq2, hq3]
  rw [← he] at hP1 hD1
  exact kk H1 locs1 (hset X (u3 Y k i z none) H1 (fun k' i' hne => ⟨rfl, u3_ne Y k k' i i' z _ hne⟩) (refOK_n (wd_ref hw)) hP1 hD1) hS1
theorem x_alenl (hx : p.tables.exec = Jvm.exec) (hb : c.code = cc) (hK : va_K D vwCl (tysL tc) s) (hw : wd D tc base (ad, cnt, X, Y, ln) H) (h0 : 0 ≤ i) (h1 : i < cnt k) {l0 : Int} (hs : AR k 1 1 tgt l0) (hl : lenE ln k i = len) (z0 : 0 ≤ len) (hdg : decode cc pc = .ok (.arraylength, 1))
    (kk : W p l e R s m args below meth c H locs cells slots Q (F0 m (pc + 1) ls (.int (jI len) :: rest))) : W p l e R s m args below meth c H locs cells slots Q (F0 m pc ls (.ref (ad k i) :: rest)) := by
  obtain ⟨ws, q0, hP, hD, hq, -, -⟩ := wd_pos hw h0 h1
  rw [ar_lE hs, hl] at hq
  refine va_alen hx hb hK hP q0 1 hq (ty := .long) rfl (v := jI len) ?_ hdg kk
  show Int32.ofNat len.toNat = Int32.ofInt len
  rw [← Int32.ofInt_eq_ofNat]
  congr 1
  omega
end XA
end XR
