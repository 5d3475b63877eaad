/-! one position of recording, case by case -/
section RP
variable {la vl rid : Int → Int → Int} {y k p : Int} {s : Nat → Int → Int}
theorem recP_1 (h : la y k < 2) : recP la vl rid y k p s = u2 s 5 p (vl y k) := by unfold recP; rw [if_pos h]
theorem recP_2n (h : la y k = 2) (hv : vl y k < 0) : recP la vl rid y k p s = u2 s 5 p (-1) := by unfold recP; rw [if_neg (by omega), if_pos h, if_pos hv]
theorem recP_2o (h : la y k = 2) (hv : 0 ≤ vl y k) (hn : nmAt (s 1) (vl y k) (s 0 0).toNat ≠ -1) : recP la vl rid y k p s = u2 s 5 p (nmAt (s 1) (vl y k) (s 0 0).toNat) := by unfold recP; rw [if_neg (by omega), if_pos h, if_neg (by omega), if_neg hn]
theorem recP_2w (h : la y k = 2) (hv : 0 ≤ vl y k) (hn : nmAt (s 1) (vl y k) (s 0 0).toNat = -1) : recP la vl rid y k p s = u2 (u2 (u2 s 1 (s 0 0) (vl y k)) 5 p (s 0 0)) 0 0 (s 0 0 + 1) := by unfold recP; rw [if_neg (by omega), if_pos h, if_neg (by omega), if_pos hn]
theorem recP_3n (h : 3 ≤ la y k) (hv : rid y k < 0) : recP la vl rid y k p s = u2 s 5 p (-1) := by unfold recP; rw [if_neg (by omega), if_neg (by omega), if_pos hv]
theorem recP_3o (h : 3 ≤ la y k) (hv : 0 ≤ rid y k) (hn : nmAt (fun q => rid (s 3 q) (s 4 q)) (rid y k) (s 2 0).toNat ≠ -1) : recP la vl rid y k p s = u2 s 5 p (nmAt (fun q => rid (s 3 q) (s 4 q)) (rid y k) (s 2 0).toNat) := by unfold recP; rw [if_neg (by omega), if_neg (by omega), if_neg (by omega), if_neg hn]
theorem recP_3w (h : 3 ≤ la y k) (hv : 0 ≤ rid y k) (hn : nmAt (fun q => rid (s 3 q) (s 4 q)) (rid y k) (s 2 0).toNat = -1) : recP la vl rid y k p s = u2 (u2 (u2 (u2 s 3 (s 2 0) y) 4 (s 2 0) k) 5 p (s 2 0)) 2 0 (s 2 0 + 1) := by unfold recP; rw [if_neg (by omega), if_neg (by omega), if_neg (by omega), if_pos hn]
/-- values of other positions stay -/
theorem recP_5 {q : Int} (h : q ≠ p) : recP la vl rid y k p s 5 q = s 5 q := by
  unfold recP
  split
  · exact u2_i _ _ _ h
  · split
    · split
      · exact u2_i _ _ _ h
      · split
        · rw [u2_k _ _ _ _ (by decide), u2_i _ _ _ h, u2_k _ _ _ _ (by decide)]
        · exact u2_i _ _ _ h
    · split
      · exact u2_i _ _ _ h
      · split
        · rw [u2_k _ _ _ _ (by decide), u2_i _ _ _ h, u2_k _ _ _ _ (by decide), u2_k _ _ _ _ (by decide)]
        · exact u2_i _ _ _ h
theorem recK_5 {r q : Int} {n : Nat} (h : q < 5 * r ∨ 5 * r + (n : Int) ≤ q) : recK la vl rid s r n 5 q = s 5 q := by
  induction n with
  | zero => rfl
  | succ n ih =>
    simp only [recK]
    rw [recP_5 (by omega)]
    exact ih (by omega)
theorem recK_m {r : Int} (n : Nat) : s 0 0 ≤ recK la vl rid s r n 0 0 := by
  induction n with
  | zero => exact Int.le_refl _
  | succ n ih => exact Int.le_trans ih recP_m
theorem recK_o {r q : Int} (n : Nat) (hq : 0 ≤ q ∧ q < s 0 0) : recK la vl rid s r n 1 q = s 1 q := by
  induction n with
  | zero => rfl
  | succ n ih =>
    have := recK_m (la := la) (vl := vl) (rid := rid) (s := s) (r := r) n
    simp only [recK]
    rw [recP_o (by omega)]
    exact ih
end RP
/-! the reference's recording against the pure run: the fifth save -/
def mRid (X : Nat → Int → Int → Int) (y k : Int) : Int := X 56 0 (5 * y + k)
def rmT (X : Nat → Int → Int → Int) (s : Nat → Int → Int) : Prop := X 70 0 4 = s 0 0 ∧ ∀ i, 0 ≤ i → i < s 0 0 → X 80 0 i = s 1 i
def rmR (X : Nat → Int → Int → Int) (s : Nat → Int → Int) : Prop := X 76 0 4 = s 2 0 ∧ ∀ i, 0 ≤ i → i < s 2 0 → X 81 0 i = mRid X (s 3 i) (s 4 i) ∧ X 77 0 (600 + i) = X 57 0 (X 81 0 i) ∧ X 78 0 (600 + i) = X 58 0 (X 81 0 i) ∧ ∀ j, 0 ≤ j → j < 12 → X 79 0 (12 * (600 + i) + j) = X 59 0 (12 * X 81 0 i + j)
def rmL (X : Nat → Int → Int → Int) (s : Nat → Int → Int) (r k : Int) : Prop := X 73 0 (5 * (120 + r) + k) = X 45 0 (5 * X 55 0 (s 1 r) + k) ∧ X 74 0 (5 * (120 + r) + k) = lnM X (s 1 r) k ∧ X 75 0 (5 * (120 + r) + k) = s 5 (5 * r + k)
def rmV (X : Nat → Int → Int → Int) (s : Nat → Int → Int) (r k : Int) : Prop := (∀ r', 0 ≤ r' → r' < r → X 71 0 (120 + r') = X 55 0 (s 1 r') ∧ X 72 0 (120 + r') = fcM X (s 1 r') ∧ ∀ k', 0 ≤ k' → k' < fcM X (s 1 r') → rmL X s r' k') ∧ ∀ k', 0 ≤ k' → k' < k → rmL X s r k'
section RM
variable {X X1 : Nat → Int → Int → Int} {s s' : Nat → Int → Int} {x : Int}
theorem rmT.of (h : rmT X s) (e0 : X1 70 0 4 = X 70 0 4) (e1 : X1 80 = X 80) (f0 : s' 0 0 = s 0 0) (f1 : s' 1 = s 1) : rmT X1 s' := by
  unfold rmT at *
  rw [e0, e1, f0, f1]
  exact h
theorem rmR.of (h : rmR X s) (e0 : X1 76 0 4 = X 76 0 4) (e : ∀ κ ∈ [56, 57, 58, 59, 77, 78, 79, 81], X1 κ = X κ) (f2 : s' 2 0 = s 2 0) (f3 : s' 3 = s 3) (f4 : s' 4 = s 4) : rmR X1 s' := by
  unfold rmR mRid at *
  rw [e0, e 56 (by decide), e 57 (by decide), e 58 (by decide), e 59 (by decide), e 77 (by decide), e 78 (by decide), e 79 (by decide), e 81 (by decide), f2, f3, f4]
  exact h
theorem rmT.push (h : rmT X s) (hp : 0 ≤ s 0 0) (e1 : X1 70 0 4 = X 70 0 4 + 1) (e2 : X1 80 0 (X 70 0 4) = x) (e3 : ∀ j, j ≠ X 70 0 4 → X1 80 0 j = X 80 0 j) : rmT X1 (u2 (u2 s 1 (s 0 0) x) 0 0 (s 0 0 + 1)) := by
  obtain ⟨h1, h2⟩ := h
  rw [h1] at e1 e2 e3
  refine ⟨by rw [u2_s, e1], fun i i0 i1 => ?_⟩
  rw [u2_s] at i1
  rw [u2_k _ _ _ _ (by decide)]
  by_cases e : i = s 0 0
  · rw [e, u2_s, e2]
  · rw [u2_i _ _ _ e, e3 i e]
    exact h2 i i0 (by omega)
theorem rmR.push {y k : Int} (h : rmR X s) (hp : 0 ≤ s 2 0) (e1 : X1 76 0 4 = X 76 0 4 + 1) (e2 : X1 81 0 (X 76 0 4) = mRid X y k) (e3 : ∀ j, j ≠ X 76 0 4 → X1 81 0 j = X 81 0 j) (e4 : X1 77 0 (600 + X 76 0 4) = X 57 0 (mRid X y k) ∧ X1 78 0 (600 + X 76 0 4) = X 58 0 (mRid X y k)) (e5 : ∀ j, j ≠ 600 + X 76 0 4 → X1 77 0 j = X 77 0 j ∧ X1 78 0 j = X 78 0 j) (e6 : ∀ j, 0 ≤ j → j < 12 → X1 79 0 (12 * (600 + X 76 0 4) + j) = X 59 0 (12 * mRid X y k + j)) (e7 : ∀ j, j < 12 * (600 + X 76 0 4) → X1 79 0 j = X 79 0 j) (e : ∀ κ ∈ [56, 57, 58, 59], X1 κ = X κ) : rmR X1 (u2 (u2 (u2 s 3 (s 2 0) y) 4 (s 2 0) k) 2 0 (s 2 0 + 1)) := by
  obtain ⟨h1, h2⟩ := h
  rw [h1] at e1 e2 e3 e4 e5 e6 e7
  have f3 : ∀ i, i ≠ s 2 0 → u2 (u2 (u2 s 3 (s 2 0) y) 4 (s 2 0) k) 2 0 (s 2 0 + 1) 3 i = s 3 i := fun i hi => by rw [u2_k _ _ _ _ (by decide), u2_k _ _ _ _ (by decide), u2_i _ _ _ hi]
  have f4 : ∀ i, i ≠ s 2 0 → u2 (u2 (u2 s 3 (s 2 0) y) 4 (s 2 0) k) 2 0 (s 2 0 + 1) 4 i = s 4 i := fun i hi => by rw [u2_k _ _ _ _ (by decide), u2_i _ _ _ hi, u2_k _ _ _ _ (by decide)]
  have g3 : u2 (u2 (u2 s 3 (s 2 0) y) 4 (s 2 0) k) 2 0 (s 2 0 + 1) 3 (s 2 0) = y := by rw [u2_k _ _ _ _ (by decide), u2_k _ _ _ _ (by decide), u2_s]
  have g4 : u2 (u2 (u2 s 3 (s 2 0) y) 4 (s 2 0) k) 2 0 (s 2 0 + 1) 4 (s 2 0) = k := by rw [u2_k _ _ _ _ (by decide), u2_s]
  have hm : ∀ a b, mRid X1 a b = mRid X a b := fun a b => by unfold mRid; rw [e 56 (by decide)]
  refine ⟨by rw [u2_s, e1], fun i i0 i1 => ?_⟩
  rw [u2_s] at i1
  rw [hm, e 57 (by decide), e 58 (by decide), e 59 (by decide)]
  by_cases q : i = s 2 0
  · rw [q, g3, g4, e2]
    exact ⟨rfl, e4.1, e4.2, e6⟩
  · rw [f3 i q, f4 i q, e3 i q, (e5 (600 + i) (by omega)).1, (e5 (600 + i) (by omega)).2]
    obtain ⟨a1, a2, a3, a4⟩ := h2 i i0 (by omega)
    exact ⟨a1, a2, a3, fun j j0 j1 => by rw [e7 _ (by omega)]; exact a4 j j0 j1⟩
end RM
