/-! the class's recording: readers over versions, the slots -/
section RC4
variable {M N : List Nat} {X X1 : Nat → Int → Int → Int} {Y Y1 : Nat → Int → Int → Option Int} {ln : Int → Int} {g x : Int} {s s' : Nat → Int → Int}
theorem cFc.frm (hF : Frm M X X1) (hH : Frm N Y Y1) (hd : 1902 ∉ M) (he : 1501 ∉ N) : cFc X1 Y1 = cFc X Y := by
  funext y
  unfold cFc
  rw [hH 15 y 0 he, hF 19 _ 1 hd]
theorem cLa.frm (hF : Frm M X X1) (hH : Frm N Y Y1) (hd : 2100 ∉ M) (he : 1501 ∉ N) : cLa X1 Y1 = cLa X Y := by
  funext y k
  unfold cLa
  rw [hH 15 y 0 he, hF 21 _ k hd]
theorem cRid.frm (hH : Frm N Y Y1) (he : 1700 ∉ N) : cRid Y1 = cRid Y := by
  funext y k
  unfold cRid
  rw [hH 17 y k he]
theorem cVl.frm (hF : Frm M X X1) (hH : Frm N Y Y1) (hd : ∀ c ∈ [2100, 1600, 4], c ∉ M) (he : 1501 ∉ N) : cVl X1 Y1 = cVl X Y := by
  funext y k
  unfold cVl
  rw [cLa.frm hF hH (hd 2100 (by decide)) he, hF 16 y k (hd 1600 (by decide)), hF 0 0 3 (hd 4 (by decide))]
theorem rcT.cong (h : rcT X Y g s) (f0 : s' 0 0 = s 0 0) (f1 : s' 1 = s 1) : rcT X Y g s' := by
  unfold rcT at *
  rw [f0, f1]
  exact h
theorem rcR.cong (h : rcR X Y ln g s) (f2 : s' 2 0 = s 2 0) (f3 : s' 3 = s 3) (f4 : s' 4 = s 4) : rcR X Y ln g s' := by
  unfold rcR at *
  rw [f2, f3, f4]
  exact h
theorem u2_f (s : Nat → Int → Int) {κ κ' : Nat} (i v : Int) (h : κ' ≠ κ) : u2 s κ i v κ' = s κ' := funext fun j => u2_k s i v j h
def rcL (X : Nat → Int → Int → Int) (Y : Nat → Int → Int → Option Int) (g : Int) (s : Nat → Int → Int) (r k : Int) : Prop := X 10 g (5 * r + k) = X 20 (tyo (Y 15 (s 1 r) 0)) k ∧ X 11 g (5 * r + k) = cLa X Y (s 1 r) k ∧ X 12 g (5 * r + k) = s 5 (5 * r + k)
def rcV (X : Nat → Int → Int → Int) (Y : Nat → Int → Int → Option Int) (g : Int) (s : Nat → Int → Int) (r k : Int) : Prop := (∀ r' k', 0 ≤ r' → r' < r → 0 ≤ k' → k' < cFc X Y (s 1 r') → rcL X Y g s r' k') ∧ ∀ k', 0 ≤ k' → k' < k → rcL X Y g s r k'
end RC4
