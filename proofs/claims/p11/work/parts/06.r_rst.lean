/-! putting back: a field's verdict, a field's step, the run of fields and records -/
def goZ (a b : Int) : Prop := a = b ∨ (a = 1 ∧ b = 0) ∨ (a = 3 ∧ 3 < b) ∨ (a = 4 ∧ b = 5)
def fvF (tt lane fl v ou r1 r2 : Int) : Int := if tt < 0 then (if r1 = 0 then 8 else 0) else if ¬ (fl = lane ∨ (fl = 1 ∧ lane = 0) ∨ (fl = 3 ∧ 3 < lane) ∨ (fl = 4 ∧ lane = 5)) then 9 else if lane = 1 ∧ 0 ≤ v ∧ ou = 1 ∧ r2 = 0 then 7 else 0
/-- where the saved field k of record r of save s goes, in the reference -/
def toM (X : Nat → Int → Int → Int) (s r k : Int) : Int := nmAt (fun j => X 45 0 (5 * X 71 0 (30 * s + r) + j)) (X 73 0 (5 * (30 * s + r) + k)) (X 44 0 (X 71 0 (30 * s + r))).toNat
def tlM (X : Nat → Int → Int → Int) (s r k : Int) : Int := X 46 0 (5 * X 71 0 (30 * s + r) + toM X s r k)
def tvM (X : Nat → Int → Int → Int) (s r k : Int) : Int := X 75 0 (5 * (30 * s + r) + k)
def twM (X : Nat → Int → Int → Int) (s r k : Int) : Int := if tlM X s r k = 1 ∧ 0 ≤ tvM X s r k ∧ X 42 0 (tvM X s r k) = 1 then -1 else tvM X s r k
def fvM (X : Nat → Int → Int → Int) (s r k rule : Int) : Int := fvF (toM X s r k) (tlM X s r k) (X 74 0 (5 * (30 * s + r) + k)) (tvM X s r k) (X 42 0 (tvM X s r k)) (andZ rule 1) (andZ rule 2)
def rbM (s w lane : Int) (X X1 : Nat → Int → Int → Int) (row : Int) : Prop := (0 ≤ X 85 0 (3 * w + lane - 3) ∧ row = X 85 0 (3 * w + lane - 3) ∧ X1 = X) ∨ (X 85 0 (3 * w + lane - 3) < 0 ∧ (0 ≤ row ∧ row ≤ 399) ∧ ((∀ x k, 0 ≤ x → x < X 40 0 13 → 0 ≤ k → k < X 44 0 (X 55 0 x) → 3 ≤ X 46 0 (5 * X 55 0 x + k) → X 56 0 (5 * x + k) ≠ row) ∧ ∀ m, 0 ≤ m → m < X 40 0 22 → X 66 0 m ≠ row) ∧ (X1 57 0 row = lane ∧ X1 58 0 row = X 78 0 (150 * s + w)) ∧ (∀ y, y ≠ row → X1 57 0 y = X 57 0 y ∧ X1 58 0 y = X 58 0 y) ∧ (∀ j, 0 ≤ j → j < X 78 0 (150 * s + w) → X1 59 0 (12 * row + j) = X 79 0 (12 * (150 * s + w) + j)) ∧ (∀ p, ¬ (12 * row ≤ p ∧ p < 12 * row + 12) → X1 59 0 p = X 59 0 p) ∧ X1 85 0 (3 * w + lane - 3) = row ∧ (∀ j, j ≠ 3 * w + lane - 3 → X1 85 0 j = X 85 0 j) ∧ Frm [6000, 5700, 5800, 5900, 8500] X X1)
def fStM (s r bs k : Int) (X X1 : Nat → Int → Int → Int) : Prop := (toM X s r k < 0 ∧ X1 = X) ∨ (0 ≤ toM X s r k ∧ (tlM X s r k < 2 ∨ twM X s r k < 0) ∧ X1 = u3 X 56 0 (5 * (bs + r) + toM X s r k) (twM X s r k)) ∨ (0 ≤ toM X s r k ∧ tlM X s r k = 2 ∧ 0 ≤ twM X s r k ∧ X1 = u3 X 56 0 (5 * (bs + r) + toM X s r k) (bs + twM X s r k)) ∨ (0 ≤ toM X s r k ∧ 3 ≤ tlM X s r k ∧ 0 ≤ twM X s r k ∧ ∃ (X' : Nat → Int → Int → Int) (row : Int), rbM s (twM X s r k) (tlM X s r k) X X' row ∧ X1 = u3 X' 56 0 (5 * (bs + r) + toM X s r k) row)
def fTrM (s r rule bs : Int) : Nat → (Nat → Int → Int → Int) → (Nat → Int → Int → Int) → Prop
  | 0, X, X1 => X1 = X
  | k + 1, X, X1 => ∃ X', fTrM s r rule bs k X X' ∧ fvM X' s r (k : Int) rule = 0 ∧ fStM s r bs (k : Int) X' X1
def rTrM (s rule bs : Int) : Nat → (Nat → Int → Int → Int) → (Nat → Int → Int → Int) → Prop
  | 0, X, X1 => X1 = X
  | r + 1, X, X1 => ∃ X', rTrM s rule bs r X X' ∧ fTrM s (r : Int) rule bs (X' 72 0 (30 * s + (r : Int))).toNat X' X1
def fEndM (s r rule bs z : Int) (X X1 : Nat → Int → Int → Int) : Prop := (z = 0 ∧ fTrM s r rule bs (X 72 0 (30 * s + r)).toNat X X1) ∨ (z ≠ 0 ∧ ∃ (k : Int) (X' : Nat → Int → Int → Int), 0 ≤ k ∧ k < X 72 0 (30 * s + r) ∧ fTrM s r rule bs k.toNat X X' ∧ fvM X' s r k rule ≠ 0 ∧ z = -10 - fvM X' s r k rule ∧ Frm [4042, 4043, 4044] X' X1)
theorem fTrM.push {s r rule bs k : Int} {X Xa Xb : Nat → Int → Int → Int} (h : fTrM s r rule bs k.toNat X Xa) (hk : 0 ≤ k) (hv : fvM Xa s r k rule = 0) (hs : fStM s r bs k Xa Xb) : fTrM s r rule bs (k + 1).toNat X Xb := by
  rw [show (k + 1).toNat = k.toNat + 1 by omega]
  refine ⟨Xa, h, ?_⟩
  rw [show ((k.toNat : Nat) : Int) = k by omega]
  exact ⟨hv, hs⟩
theorem rTrM.push {s r rule bs : Int} {X Xa Xb : Nat → Int → Int → Int} (h : rTrM s rule bs r.toNat X Xa) (hr : 0 ≤ r) (hs : fTrM s r rule bs (Xa 72 0 (30 * s + r)).toNat Xa Xb) : rTrM s rule bs (r + 1).toNat X Xb := by
  rw [show (r + 1).toNat = r.toNat + 1 by omega]
  refine ⟨Xa, h, ?_⟩
  rw [show ((r.toNat : Nat) : Int) = r by omega]
  exact hs
section FV
variable {tt lane fl v ou r1 r2 : Int}
theorem fvF_g (h : tt < 0) (h1 : r1 = 0) : fvF tt lane fl v ou r1 r2 = 8 := by unfold fvF; rw [if_pos h, if_pos h1]
theorem fvF_g0 (h : tt < 0) (h1 : r1 ≠ 0) : fvF tt lane fl v ou r1 r2 = 0 := by unfold fvF; rw [if_pos h, if_neg h1]
theorem fvF_l (h : 0 ≤ tt) (h1 : ¬ (fl = lane ∨ (fl = 1 ∧ lane = 0) ∨ (fl = 3 ∧ 3 < lane) ∨ (fl = 4 ∧ lane = 5))) : fvF tt lane fl v ou r1 r2 = 9 := by unfold fvF; rw [if_neg (by omega), if_pos h1]
theorem fvF_w (h : 0 ≤ tt) (h1 : fl = lane ∨ (fl = 1 ∧ lane = 0) ∨ (fl = 3 ∧ 3 < lane) ∨ (fl = 4 ∧ lane = 5)) (h2 : lane = 1 ∧ 0 ≤ v ∧ ou = 1 ∧ r2 = 0) : fvF tt lane fl v ou r1 r2 = 7 := by unfold fvF; rw [if_neg (by omega), if_neg (fun q => q h1), if_pos h2]
theorem fvF_0 (h : 0 ≤ tt) (h1 : fl = lane ∨ (fl = 1 ∧ lane = 0) ∨ (fl = 3 ∧ 3 < lane) ∨ (fl = 4 ∧ lane = 5)) (h2 : ¬ (lane = 1 ∧ 0 ≤ v ∧ ou = 1 ∧ r2 = 0)) : fvF tt lane fl v ou r1 r2 = 0 := by unfold fvF; rw [if_neg (by omega), if_neg (fun q => q h1), if_neg h2]
end FV
theorem stM_eq {L : List Nat} {X X0 : Nat → Int → Int → Int} (hF : Frm L X X0) (hd : ∀ q ∈ [4200, 4400, 4500, 4600, 7100, 7300, 7400, 7500], q ∉ L) : toM X0 = toM X ∧ tlM X0 = tlM X ∧ tvM X0 = tvM X ∧ twM X0 = twM X ∧ fvM X0 = fvM X := by
  have e2 := hF.arr 42 (by decide +kernel) (hd 4200 (by decide))
  have e4 := hF.arr 44 (by decide +kernel) (hd 4400 (by decide))
  have e5 := hF.arr 45 (by decide +kernel) (hd 4500 (by decide))
  have e6 := hF.arr 46 (by decide +kernel) (hd 4600 (by decide))
  have f1 := hF.arr 71 (by decide +kernel) (hd 7100 (by decide))
  have f3 := hF.arr 73 (by decide +kernel) (hd 7300 (by decide))
  have f4 := hF.arr 74 (by decide +kernel) (hd 7400 (by decide))
  have f5 := hF.arr 75 (by decide +kernel) (hd 7500 (by decide))
  have g1 : toM X0 = toM X := by
    funext s r k
    simp only [toM, e4, e5, f1, f3]
  have g2 : tlM X0 = tlM X := by
    funext s r k
    simp only [tlM, g1, e6, f1]
  have g3 : tvM X0 = tvM X := by
    funext s r k
    simp only [tvM, f5]
  have g4 : twM X0 = twM X := by
    funext s r k
    simp only [twM, g2, g3, e2]
  refine ⟨g1, g2, g3, g4, ?_⟩
  funext s r k rule
  simp only [fvM, g1, g2, g3, e2, f4]
