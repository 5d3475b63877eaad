/-- how putting back begins, in the reference -/
def rsI (X A : Nat → Int → Int → Int) (sv : Int) : Prop := A 40 0 13 = X 40 0 13 + X 70 0 sv ∧ (∀ j, 0 ≤ j → j < 450 → A 85 0 j = -1) ∧ Old X A ∧ New X A sv (X 70 0 sv) ∧ Frm [4001, 4014, 5500, 5600, 8500] X A
