/-! what the journal of each side does at a change: a note more while a mark stands, else nothing -/
def tyo (o : Option Int) : Int := o.getD (-1)
theorem tyo_some {o : Option Int} {t : Int} (h : o = some t) : tyo o = t := by rw [h]; rfl
def eNoteC (X X1 : Nat → Int → Int → Int) (Y Y1 : Nat → Int → Int → Option Int) (th : Option Int) (ix v : Int) (rw : Option Int) : Prop :=
  (X 29 0 3 = 0 ∧ X1 29 0 1 = X 29 0 1 ∧ X1 28 = X 28 ∧ Y1 28 = Y 28) ∨
  (0 < X 29 0 3 ∧ X1 29 0 1 = X 29 0 1 + 1 ∧ (Y1 28 (X 29 0 1) 0 = th ∧ X1 28 (X 29 0 1) 1 = ix ∧ X1 28 (X 29 0 1) 2 = v ∧ Y1 28 (X 29 0 1) 3 = rw) ∧ ∀ n, n ≠ X 29 0 1 → (∀ j, X1 28 n j = X 28 n j) ∧ ∀ j, Y1 28 n j = Y 28 n j)
def eNoteM (X X1 : Nat → Int → Int → Int) (th fd rw it ws : Int) : Prop :=
  (X 40 0 20 = 0 ∧ X1 40 0 22 = X 40 0 22 ∧ ∀ y, X1 64 0 y = X 64 0 y ∧ X1 65 0 y = X 65 0 y ∧ X1 66 0 y = X 66 0 y ∧ X1 67 0 y = X 67 0 y ∧ X1 68 0 y = X 68 0 y) ∨
  (0 < X 40 0 20 ∧ X1 40 0 22 = X 40 0 22 + 1 ∧ (X1 64 0 (X 40 0 22) = th ∧ X1 65 0 (X 40 0 22) = fd ∧ X1 66 0 (X 40 0 22) = rw ∧ X1 67 0 (X 40 0 22) = it ∧ X1 68 0 (X 40 0 22) = ws) ∧ ∀ y, y ≠ X 40 0 22 → X1 64 0 y = X 64 0 y ∧ X1 65 0 y = X 65 0 y ∧ X1 66 0 y = X 66 0 y ∧ X1 67 0 y = X 67 0 y ∧ X1 68 0 y = X 68 0 y)
section EF
variable {X X0 X1 X2 : Nat → Int → Int → Int} {Y Y0 Y1 Y2 : Nat → Int → Int → Option Int} {th rw : Option Int} {ix v : Int} {M N : List Nat} {thm fd rwm it ws : Int}
theorem eNoteC.to (h : eNoteC X X1 Y Y1 th ix v rw) (hF : Frm M X1 X2) (hH : Frm N Y1 Y2) (hd : ∀ c ∈ [2801, 2802, 2803, 2804, 2902], c ∉ M) (he : ∀ c ∈ [2801, 2802, 2803, 2804], c ∉ N) (hx : ∀ n j, X2 28 n j = X1 28 n j) (hy : ∀ n j, Y2 28 n j = Y1 28 n j) : eNoteC X X2 Y Y2 th ix v rw := by
  have a : X2 29 0 1 = X1 29 0 1 := hF 29 0 1 (hd 2902 (by decide))
  have b : X2 28 = X1 28 := funext fun n => funext fun j => hx n j
  have c : Y2 28 = Y1 28 := funext fun n => funext fun j => hy n j
  unfold eNoteC at *
  rw [a, b, c]
  exact h
theorem eNoteC.from (h : eNoteC X0 X1 Y0 Y1 th ix v rw) (hF : Frm M X X0) (hH : Frm N Y Y0) (hd : ∀ c ∈ [2902, 2904], c ∉ M) (hx : ∀ n j, X0 28 n j = X 28 n j) (hy : ∀ n j, Y0 28 n j = Y 28 n j) : eNoteC X X1 Y Y1 th ix v rw := by
  have a : X0 29 0 1 = X 29 0 1 := hF 29 0 1 (hd 2902 (by decide))
  have a2 : X0 29 0 3 = X 29 0 3 := hF 29 0 3 (hd 2904 (by decide))
  have b : X0 28 = X 28 := funext fun n => funext fun j => hx n j
  have c : Y0 28 = Y 28 := funext fun n => funext fun j => hy n j
  unfold eNoteC at *
  rw [a, a2, b, c] at h
  exact h
theorem eNoteM.to (h : eNoteM X X1 thm fd rwm it ws) (hF : Frm M X1 X2) (hd : ∀ c ∈ [4023, 6400, 6500, 6600, 6700, 6800], c ∉ M) : eNoteM X X2 thm fd rwm it ws := by
  have a : X2 40 0 22 = X1 40 0 22 := hF 40 0 22 (hd 4023 (by decide))
  have b4 : ∀ y, X2 64 0 y = X1 64 0 y := fun y => hF 64 0 y (hd 6400 (by decide))
  have b5 : ∀ y, X2 65 0 y = X1 65 0 y := fun y => hF 65 0 y (hd 6500 (by decide))
  have b6 : ∀ y, X2 66 0 y = X1 66 0 y := fun y => hF 66 0 y (hd 6600 (by decide))
  have b7 : ∀ y, X2 67 0 y = X1 67 0 y := fun y => hF 67 0 y (hd 6700 (by decide))
  have b8 : ∀ y, X2 68 0 y = X1 68 0 y := fun y => hF 68 0 y (hd 6800 (by decide))
  unfold eNoteM at *
  simp only [a, b4, b5, b6, b7, b8]
  exact h
theorem eNoteM.from (h : eNoteM X0 X1 thm fd rwm it ws) (hF : Frm M X X0) (hd : ∀ c ∈ [4021, 4023, 6400, 6500, 6600, 6700, 6800], c ∉ M) : eNoteM X X1 thm fd rwm it ws := by
  have a : X0 40 0 22 = X 40 0 22 := hF 40 0 22 (hd 4023 (by decide))
  have a0 : X0 40 0 20 = X 40 0 20 := hF 40 0 20 (hd 4021 (by decide))
  have b4 : ∀ y, X0 64 0 y = X 64 0 y := fun y => hF 64 0 y (hd 6400 (by decide))
  have b5 : ∀ y, X0 65 0 y = X 65 0 y := fun y => hF 65 0 y (hd 6500 (by decide))
  have b6 : ∀ y, X0 66 0 y = X 66 0 y := fun y => hF 66 0 y (hd 6600 (by decide))
  have b7 : ∀ y, X0 67 0 y = X 67 0 y := fun y => hF 67 0 y (hd 6700 (by decide))
  have b8 : ∀ y, X0 68 0 y = X 68 0 y := fun y => hF 68 0 y (hd 6800 (by decide))
  unfold eNoteM at *
  simp only [a, a0, b4, b5, b6, b7, b8] at h
  exact h
end EF
