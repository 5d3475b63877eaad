/-! putting back, in the class: the state is c (how many rows), X, Y, ln -/
def bdC (X : Nat → Int → Int → Int) (v : Int) : Int := if v ≠ -1 ∧ ¬ (0 ≤ v ∧ v < 16 ∧ X 3 0 v = 1) then 1 else 0
def toC (X : Nat → Int → Int → Int) (Y : Nat → Int → Int → Option Int) (x g i : Int) : Int := nmAt (X 20 (tyo (Y 15 x 0))) (X 10 g i) (X 19 (tyo (Y 15 x 0)) 1).toNat
def tlC (X : Nat → Int → Int → Int) (Y : Nat → Int → Int → Option Int) (x g i : Int) : Int := X 21 (tyo (Y 15 x 0)) (toC X Y x g i)
def twC (X : Nat → Int → Int → Int) (Y : Nat → Int → Int → Option Int) (x g i : Int) : Int := if tlC X Y x g i = 1 ∧ bdC X (X 12 g i) = 1 then -1 else X 12 g i
def fvC (X : Nat → Int → Int → Int) (Y : Nat → Int → Int → Option Int) (x g i rule : Int) : Int := fvF (toC X Y x g i) (tlC X Y x g i) (X 11 g i) 0 (bdC X (X 12 g i)) (andZ rule 1) (andZ rule 2)
def rpC (g w lane c : Int) (X : Nat → Int → Int → Int) (Y : Nat → Int → Int → Option Int) (ln : Int → Int) (c1 : Int) (X1 : Nat → Int → Int → Int) (Y1 : Nat → Int → Int → Option Int) (ln1 : Int → Int) (q : Int) : Prop := (Y 6 0 (3 * w + lane - 3) = some q ∧ c1 = c ∧ X1 = X ∧ Y1 = Y ∧ ln1 = ln) ∨ (Y 6 0 (3 * w + lane - 3) = none ∧ q = c ∧ c1 = c + 1 ∧ ln1 c = X 13 g w ∧ (∀ i, 0 ≤ i → i < c → ln1 i = ln i) ∧ (∀ j, 0 ≤ j → j < X 13 g w → X1 27 c j = X 14 g (12 * w + j)) ∧ (∀ y, y ≠ c → X1 27 y = X 27 y) ∧ Frm [2602, 2700] X X1 ∧ Y1 = u3 Y 6 0 (3 * w + lane - 3) (some c))
def fStC (g x i f c : Int) (X : Nat → Int → Int → Int) (Y : Nat → Int → Int → Option Int) (ln : Int → Int) (c1 : Int) (X1 : Nat → Int → Int → Int) (Y1 : Nat → Int → Int → Option Int) (ln1 : Int → Int) : Prop := (toC X Y x g i < 0 ∧ c1 = c ∧ X1 = X ∧ Y1 = Y ∧ ln1 = ln) ∨ (0 ≤ toC X Y x g i ∧ tlC X Y x g i < 3 ∧ c1 = c ∧ X1 = u3 X 16 x (toC X Y x g i) (if tlC X Y x g i = 2 ∧ twC X Y x g i ≠ -1 then f + twC X Y x g i else twC X Y x g i) ∧ Y1 = Y ∧ ln1 = ln) ∨ (0 ≤ toC X Y x g i ∧ 3 ≤ tlC X Y x g i ∧ twC X Y x g i = -1 ∧ c1 = c ∧ X1 = X ∧ Y1 = u3 Y 17 x (toC X Y x g i) none ∧ ln1 = ln) ∨ (0 ≤ toC X Y x g i ∧ 3 ≤ tlC X Y x g i ∧ twC X Y x g i ≠ -1 ∧ ∃ (Y' : Nat → Int → Int → Option Int) (q : Int), rpC g (twC X Y x g i) (tlC X Y x g i) c X Y ln c1 X1 Y' ln1 q ∧ Y1 = u3 Y' 17 x (toC X Y x g i) (some q))
def fTrC (g r f rule : Int) : Nat → Int → (Nat → Int → Int → Int) → (Nat → Int → Int → Option Int) → (Int → Int) → Int → (Nat → Int → Int → Int) → (Nat → Int → Int → Option Int) → (Int → Int) → Prop
  | 0, c, X, Y, ln, c1, X1, Y1, ln1 => c1 = c ∧ X1 = X ∧ Y1 = Y ∧ ln1 = ln
  | k + 1, c, X, Y, ln, c1, X1, Y1, ln1 => ∃ (c' : Int) (X' : Nat → Int → Int → Int) (Y' : Nat → Int → Int → Option Int) (ln' : Int → Int), fTrC g r f rule k c X Y ln c' X' Y' ln' ∧ fvC X' Y' (f + r) g (5 * r + (k : Int)) rule = 0 ∧ fStC g (f + r) (5 * r + (k : Int)) f c' X' Y' ln' c1 X1 Y1 ln1
def rTrC (g f rule : Int) : Nat → Int → (Nat → Int → Int → Int) → (Nat → Int → Int → Option Int) → (Int → Int) → Int → (Nat → Int → Int → Int) → (Nat → Int → Int → Option Int) → (Int → Int) → Prop
  | 0, c, X, Y, ln, c1, X1, Y1, ln1 => c1 = c ∧ X1 = X ∧ Y1 = Y ∧ ln1 = ln
  | r + 1, c, X, Y, ln, c1, X1, Y1, ln1 => ∃ (c' : Int) (X' : Nat → Int → Int → Int) (Y' : Nat → Int → Int → Option Int) (ln' : Int → Int), rTrC g f rule r c X Y ln c' X' Y' ln' ∧ fTrC g (r : Int) f rule (X' 9 g (r : Int)).toNat c' X' Y' ln' c1 X1 Y1 ln1
section TC
variable {g r f rule k c c1 c2 : Int} {X X1 X2 : Nat → Int → Int → Int} {Y Y1 Y2 : Nat → Int → Int → Option Int} {ln ln1 ln2 : Int → Int}
theorem fTrC.push (h : fTrC g r f rule k.toNat c X Y ln c1 X1 Y1 ln1) (hk : 0 ≤ k) (hv : fvC X1 Y1 (f + r) g (5 * r + k) rule = 0) (hs : fStC g (f + r) (5 * r + k) f c1 X1 Y1 ln1 c2 X2 Y2 ln2) : fTrC g r f rule (k + 1).toNat c X Y ln c2 X2 Y2 ln2 := by
  rw [show (k + 1).toNat = k.toNat + 1 by omega]
  refine ⟨c1, X1, Y1, ln1, h, ?_⟩
  rw [show ((k.toNat : Nat) : Int) = k by omega]
  exact ⟨hv, hs⟩
theorem rTrC.push (h : rTrC g f rule r.toNat c X Y ln c1 X1 Y1 ln1) (hr : 0 ≤ r) (hs : fTrC g r f rule (X1 9 g r).toNat c1 X1 Y1 ln1 c2 X2 Y2 ln2) : rTrC g f rule (r + 1).toNat c X Y ln c2 X2 Y2 ln2 := by
  rw [show (r + 1).toNat = r.toNat + 1 by omega]
  refine ⟨c1, X1, Y1, ln1, h, ?_⟩
  rw [show ((r.toNat : Nat) : Int) = r by omega]
  exact hs
end TC
theorem Frm.nil {α : Type} {X X1 : Nat → Int → Int → α} (h : Frm [] X X1) : X1 = X := funext fun k => funext fun i => funext fun j => h k i j (by simp)
