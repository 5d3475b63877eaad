/-! more of what holds of the reference -/
def MInv5 (X : Nat → Int → Int → Int) : Prop := mA X ∧ mB X ∧ mC X ∧ mD X ∧ mF X
