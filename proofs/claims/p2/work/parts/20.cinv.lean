/-! what holds of the class between calls: printed by wip/tools/cinv.py -/
def LnOK (ln : Int → Int) : Prop := ∀ i, 0 ≤ ln i ∧ ln i ≤ 12
def cTh (Y : Nat → Int → Int → Option Int) : Prop := ∀ x, 0 ≤ x → x < 30 → Y 2 0 x = some x
def cNt (Y : Nat → Int → Int → Option Int) : Prop := ∀ n, 0 ≤ n → n < 80 → Y 30 0 n = some n
def cSv (Y : Nat → Int → Int → Option Int) : Prop := (∀ q, 0 ≤ q → q < 4 → Y 4 0 q ≠ none) ∧ Y 0 0 6 ≠ none ∧ Y 0 0 7 ≠ none
def cTy (cnt : Nat → Int) (X : Nat → Int → Int → Int) (Y : Nat → Int → Int → Option Int) : Prop := cnt 19 = X 0 0 1 ∧ ∀ t, 0 ≤ t → t < X 0 0 1 → Y 1 0 t = some t ∧ X 19 t 0 = t
def cTt (X : Nat → Int → Int → Int) (Y : Nat → Int → Int → Option Int) : Prop := ∀ x, 0 ≤ x → x < X 0 0 3 → Y 15 x 0 ≠ none
def cCk (X : Nat → Int → Int → Int) (Y : Nat → Int → Int → Option Int) : Prop := ∀ q j, 0 ≤ q → q < X 0 0 1 → 0 ≤ j → j < X 19 q 6 → Y 24 q j ≠ none
def cRc (X : Nat → Int → Int → Int) : Prop := ∀ q r, 0 ≤ q → q < 6 → 0 ≤ r → r < X 7 q 0 → X 8 q r < X 0 0 1 ∧ ∀ f, 0 ≤ f → f < X 9 q r → 2 ≤ X 11 q (5 * r + f) → -1 ≤ X 12 q (5 * r + f) ∧ X 12 q (5 * r + f) ≤ 149
def cNo (X : Nat → Int → Int → Int) (Y : Nat → Int → Int → Option Int) (ln : Int → Int) : Prop := ∀ n, 0 ≤ n → n < X 29 0 1 → (Y 28 n 0 ≠ none → X 28 n 1 ≤ 4) ∧ (Y 28 n 0 = none → ∀ w, Y 28 n 3 = some w → X 28 n 1 < ln w)
def CInv (cnt : Nat → Int) (X : Nat → Int → Int → Int) (Y : Nat → Int → Int → Option Int) (ln : Int → Int) : Prop := cTh Y ∧ cNt Y ∧ cSv Y ∧ cTy cnt X Y ∧ cTt X Y ∧ cCk X Y ∧ cRc X ∧ cNo X Y ln
theorem cinv_frm {M N : List Nat} {cnt : Nat → Int} {X X1 : Nat → Int → Int → Int} {Y Y1 : Nat → Int → Int → Option Int} {ln : Int → Int} (h : CInv cnt X Y ln) (hF : Frm M X X1) (hH : Frm N Y Y1) (hd : ∀ c ∈ [2, 4, 1901, 1907, 701, 800, 900, 1100, 1200, 2902, 2802], c ∉ M) (he : ∀ c ∈ [200, 3000, 400, 7, 8, 100, 1501, 2400, 2801, 2804], c ∉ N) : CInv cnt X1 Y1 ln := by
  have a1 : X1 0 0 1 = X 0 0 1 := hF 0 0 1 (hd 2 (by decide))
  have a2 : X1 0 0 3 = X 0 0 3 := hF 0 0 3 (hd 4 (by decide))
  have a3 : ∀ i, X1 19 i 6 = X 19 i 6 := fun i => hF 19 i 6 (hd 1907 (by decide))
  have a3b : ∀ i, X1 19 i 0 = X 19 i 0 := fun i => hF 19 i 0 (hd 1901 (by decide))
  have a4 : ∀ i, X1 7 i 0 = X 7 i 0 := fun i => hF 7 i 0 (hd 701 (by decide))
  have a5 : ∀ i j, X1 8 i j = X 8 i j := fun i j => hF 8 i j (hd 800 (by decide))
  have a6 : ∀ i j, X1 9 i j = X 9 i j := fun i j => hF 9 i j (hd 900 (by decide))
  have a7 : ∀ i j, X1 11 i j = X 11 i j := fun i j => hF 11 i j (hd 1100 (by decide))
  have a8 : ∀ i j, X1 12 i j = X 12 i j := fun i j => hF 12 i j (hd 1200 (by decide))
  have a9 : X1 29 0 1 = X 29 0 1 := hF 29 0 1 (hd 2902 (by decide))
  have a10 : ∀ i, X1 28 i 1 = X 28 i 1 := fun i => hF 28 i 1 (hd 2802 (by decide))
  have b1 : ∀ j, Y1 2 0 j = Y 2 0 j := fun j => hH 2 0 j (he 200 (by decide))
  have b2 : ∀ j, Y1 30 0 j = Y 30 0 j := fun j => hH 30 0 j (he 3000 (by decide))
  have b3 : ∀ j, Y1 4 0 j = Y 4 0 j := fun j => hH 4 0 j (he 400 (by decide))
  have b4 : Y1 0 0 6 = Y 0 0 6 := hH 0 0 6 (he 7 (by decide))
  have b5 : Y1 0 0 7 = Y 0 0 7 := hH 0 0 7 (he 8 (by decide))
  have b6 : ∀ j, Y1 1 0 j = Y 1 0 j := fun j => hH 1 0 j (he 100 (by decide))
  have b7 : ∀ i, Y1 15 i 0 = Y 15 i 0 := fun i => hH 15 i 0 (he 1501 (by decide))
  have b8 : ∀ i j, Y1 24 i j = Y 24 i j := fun i j => hH 24 i j (he 2400 (by decide))
  have b9 : ∀ i, Y1 28 i 0 = Y 28 i 0 := fun i => hH 28 i 0 (he 2801 (by decide))
  have b10 : ∀ i, Y1 28 i 3 = Y 28 i 3 := fun i => hH 28 i 3 (he 2804 (by decide))
  unfold CInv cTh cNt cSv cTy cTt cCk cRc cNo at *
  simp only [a1, a2, a3, a3b, a4, a5, a6, a7, a8, a9, a10, b1, b2, b3, b4, b5, b6, b7, b8, b9, b10]
  exact h

