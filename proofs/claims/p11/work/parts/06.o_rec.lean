/-! the class's recording against the pure run -/
def cFc (X : Nat → Int → Int → Int) (Y : Nat → Int → Int → Option Int) (y : Int) : Int := X 19 (tyo (Y 15 y 0)) 1
def cLa (X : Nat → Int → Int → Int) (Y : Nat → Int → Int → Option Int) (y k : Int) : Int := X 21 (tyo (Y 15 y 0)) k
def cRid (Y : Nat → Int → Int → Option Int) (y k : Int) : Int := tyo (Y 17 y k)
def cVl (X : Nat → Int → Int → Int) (Y : Nat → Int → Int → Option Int) (y k : Int) : Int := if cLa X Y y k = 2 then (if 0 ≤ X 16 y k ∧ X 16 y k < X 0 0 3 then X 16 y k else -1) else X 16 y k
theorem nmAt_push {f g : Int → Int} {a b n : Int} (hn : 0 ≤ n) (hg : ∀ j, 0 ≤ j → j < n → g j = f j) (hb : g n = b) : nmAt g a (n + 1).toNat = if nmAt f a n.toNat = -1 then (if b = a then n else -1) else nmAt f a n.toNat := by
  have e : (n + 1).toNat = n.toNat + 1 := by omega
  have e2 : ((n.toNat : Nat) : Int) = n := by omega
  rw [e]
  simp only [nmAt]
  rw [nmAt_congr (f := g) (g := f) (fun j j0 j1 => hg j j0 (by omega)), e2, hb]
/-- the records' things and the things' numbers -/
def rcT (X : Nat → Int → Int → Int) (Y : Nat → Int → Int → Option Int) (g : Int) (s : Nat → Int → Int) : Prop :=
  X 7 g 0 = s 0 0 ∧ (∀ i, 0 ≤ i → i < s 0 0 → Y 5 0 i = some (s 1 i) ∧ (0 ≤ s 1 i ∧ s 1 i < X 0 0 3) ∧ X 8 g i = tyo (Y 15 (s 1 i) 0) ∧ X 9 g i = cFc X Y (s 1 i)) ∧ ∀ x, 0 ≤ x → x < X 0 0 3 → X 15 x 3 = nmAt (s 1) x (s 0 0).toNat
/-- the records' rows and the rows' numbers -/
def rcR (X : Nat → Int → Int → Int) (Y : Nat → Int → Int → Option Int) (ln : Int → Int) (g : Int) (s : Nat → Int → Int) : Prop :=
  X 7 g 6 = s 2 0 ∧ (∀ i, 0 ≤ i → i < s 2 0 → X 13 g i = ln (cRid Y (s 3 i) (s 4 i)) ∧ ∀ j, 0 ≤ j → j < X 13 g i → X 14 g (12 * i + j) = X 27 (cRid Y (s 3 i) (s 4 i)) j) ∧ ∀ y k w, 0 ≤ y → y < X 0 0 3 → 0 ≤ k → k < cFc X Y y → Y 17 y k = some w → X 26 w 1 = nmAt (fun q => cRid Y (s 3 q) (s 4 q)) w (s 2 0).toNat
section RC3
variable {M N : List Nat} {X X1 : Nat → Int → Int → Int} {Y Y1 : Nat → Int → Int → Option Int} {ln : Int → Int} {g x : Int} {s : Nat → Int → Int}
theorem rcT.frm (h : rcT X Y g s) (hF : Frm M X X1) (hH : Frm N Y Y1) (hd : ∀ c ∈ [701, 4, 800, 900, 1902, 1504], c ∉ M) (he : ∀ c ∈ [500, 1501], c ∉ N) : rcT X1 Y1 g s := by
  have a1 : X1 7 g 0 = X 7 g 0 := hF 7 g 0 (hd 701 (by decide))
  have a2 : X1 0 0 3 = X 0 0 3 := hF 0 0 3 (hd 4 (by decide))
  have a3 : ∀ i, X1 8 g i = X 8 g i := fun i => hF 8 g i (hd 800 (by decide))
  have a4 : ∀ i, X1 9 g i = X 9 g i := fun i => hF 9 g i (hd 900 (by decide))
  have a5 : ∀ i, X1 19 i 1 = X 19 i 1 := fun i => hF 19 i 1 (hd 1902 (by decide))
  have a6 : ∀ i, X1 15 i 3 = X 15 i 3 := fun i => hF 15 i 3 (hd 1504 (by decide))
  have b1 : ∀ i, Y1 5 0 i = Y 5 0 i := fun i => hH 5 0 i (he 500 (by decide))
  have b2 : ∀ i, Y1 15 i 0 = Y 15 i 0 := fun i => hH 15 i 0 (he 1501 (by decide))
  unfold rcT cFc at *
  simp only [a1, a2, a3, a4, a5, a6, b1, b2]
  exact h
theorem rcR.frm (h : rcR X Y ln g s) (hF : Frm M X X1) (hH : Frm N Y Y1) (hd : ∀ c ∈ [707, 4, 1300, 1400, 1902, 2602, 2700], c ∉ M) (he : ∀ c ∈ [1700, 1501], c ∉ N) : rcR X1 Y1 ln g s := by
  have a1 : X1 7 g 6 = X 7 g 6 := hF 7 g 6 (hd 707 (by decide))
  have a2 : X1 0 0 3 = X 0 0 3 := hF 0 0 3 (hd 4 (by decide))
  have a3 : ∀ i, X1 13 g i = X 13 g i := fun i => hF 13 g i (hd 1300 (by decide))
  have a4 : ∀ i, X1 14 g i = X 14 g i := fun i => hF 14 g i (hd 1400 (by decide))
  have a5 : ∀ i, X1 19 i 1 = X 19 i 1 := fun i => hF 19 i 1 (hd 1902 (by decide))
  have a6 : ∀ i, X1 26 i 1 = X 26 i 1 := fun i => hF 26 i 1 (hd 2602 (by decide))
  have a7 : ∀ i j, X1 27 i j = X 27 i j := fun i j => hF 27 i j (hd 2700 (by decide))
  have b1 : ∀ i j, Y1 17 i j = Y 17 i j := fun i j => hH 17 i j (he 1700 (by decide))
  have b2 : ∀ i, Y1 15 i 0 = Y 15 i 0 := fun i => hH 15 i 0 (he 1501 (by decide))
  unfold rcR cFc cRid at *
  simp only [a1, a2, a3, a4, a5, a6, a7, b1, b2]
  exact h
/-- a thing becomes the next record -/
theorem rcT.push (h : rcT X Y g s) (hp : 0 ≤ s 0 0) (hx : 0 ≤ x ∧ x < X 0 0 3) (hn : X 15 x 3 = -1) (e1 : X1 7 g 0 = X 7 g 0 + 1) (e2 : X1 0 0 3 = X 0 0 3) (e3 : X1 15 x 3 = X 7 g 0) (e4 : ∀ i, i ≠ x → X1 15 i 3 = X 15 i 3) (e5 : Y1 5 0 (X 7 g 0) = some x) (e6 : ∀ j, j ≠ X 7 g 0 → Y1 5 0 j = Y 5 0 j) (e7 : X1 8 g (X 7 g 0) = tyo (Y 15 x 0)) (e8 : ∀ j, j ≠ X 7 g 0 → X1 8 g j = X 8 g j) (e9 : X1 9 g (X 7 g 0) = cFc X Y x) (e10 : ∀ j, j ≠ X 7 g 0 → X1 9 g j = X 9 g j) (e11 : ∀ i, X1 19 i 1 = X 19 i 1) (e12 : ∀ i, Y1 15 i 0 = Y 15 i 0) : rcT X1 Y1 g (u2 (u2 s 1 (s 0 0) x) 0 0 (s 0 0 + 1)) := by
  obtain ⟨h1, h2, h3⟩ := h
  have f0 : u2 (u2 s 1 (s 0 0) x) 0 0 (s 0 0 + 1) 0 0 = s 0 0 + 1 := u2_s _ _ _ _
  have f1 : ∀ i, u2 (u2 s 1 (s 0 0) x) 0 0 (s 0 0 + 1) 1 i = u2 s 1 (s 0 0) x 1 i := fun i => u2_k _ _ _ _ (by decide)
  have f2 : ∀ i, i ≠ s 0 0 → u2 s 1 (s 0 0) x 1 i = s 1 i := fun i hi => u2_i _ _ _ hi
  have f3 : u2 s 1 (s 0 0) x 1 (s 0 0) = x := u2_s _ _ _ _
  rw [h1] at e1 e3 e5 e6 e7 e8 e9 e10
  refine ⟨by rw [f0, e1], fun i i0 i1 => ?_, fun y y0 y1 => ?_⟩
  · rw [f0] at i1
    rw [f1]
    unfold cFc at e9 ⊢
    by_cases e : i = s 0 0
    · rw [e, f3, e5, e7, e9, e2]
      simp only [e11, e12]
      exact ⟨trivial, hx, trivial, trivial⟩
    · rw [f2 i e, e6 i e, e8 i e, e10 i e, e2]
      simp only [e11, e12]
      have := h2 i i0 (by omega)
      unfold cFc at this
      exact this
  · rw [f0]
    rw [e2] at y1
    have hc : nmAt (u2 (u2 s 1 (s 0 0) x) 0 0 (s 0 0 + 1) 1) y (s 0 0 + 1).toNat = if nmAt (s 1) y (s 0 0).toNat = -1 then (if x = y then s 0 0 else -1) else nmAt (s 1) y (s 0 0).toNat := nmAt_push hp (fun j j0 j1 => by rw [f1, f2 j (by omega)]) (by rw [f1, f3])
    rw [hc]
    by_cases e : y = x
    · rw [e, e3, ← h3 x hx.1 hx.2, hn, if_pos rfl, if_pos rfl]
    · rw [e4 y e, h3 y y0 y1]
      by_cases c : nmAt (s 1) y (s 0 0).toNat = -1
      · rw [if_pos c, if_neg (fun q => e q.symm), c]
      · rw [if_neg c]
/-- a row becomes the next one -/
theorem rcR.push {y k w : Int} (h : rcR X Y ln g s) (hp : 0 ≤ s 2 0) (hl : ∀ i, X 13 g i ≤ 12) (hw : Y 17 y k = some w) (hn : X 26 w 1 = -1) (e1 : X1 7 g 6 = X 7 g 6 + 1) (e2 : X1 0 0 3 = X 0 0 3) (e3 : X1 26 w 1 = X 7 g 6) (e4 : ∀ i, i ≠ w → X1 26 i 1 = X 26 i 1) (e5 : X1 13 g (X 7 g 6) = ln w) (e6 : ∀ i, i ≠ X 7 g 6 → X1 13 g i = X 13 g i) (e7 : ∀ j, 0 ≤ j → j < ln w → X1 14 g (12 * X 7 g 6 + j) = X 27 w j) (e8 : ∀ p, p < 12 * X 7 g 6 → X1 14 g p = X 14 g p) (e9 : ∀ i j, X1 27 i j = X 27 i j) (e10 : ∀ i, X1 19 i 1 = X 19 i 1) (e11 : ∀ i, Y1 15 i 0 = Y 15 i 0) (e12 : ∀ i j, Y1 17 i j = Y 17 i j) : rcR X1 Y1 ln g (u2 (u2 (u2 s 3 (s 2 0) y) 4 (s 2 0) k) 2 0 (s 2 0 + 1)) := by
  obtain ⟨h1, h2, h3⟩ := h
  have f0 : u2 (u2 (u2 s 3 (s 2 0) y) 4 (s 2 0) k) 2 0 (s 2 0 + 1) 2 0 = s 2 0 + 1 := u2_s _ _ _ _
  have f3 : ∀ i, i ≠ s 2 0 → u2 (u2 (u2 s 3 (s 2 0) y) 4 (s 2 0) k) 2 0 (s 2 0 + 1) 3 i = s 3 i := fun i hi => by rw [u2_k _ _ _ _ (by decide), u2_k _ _ _ _ (by decide), u2_i _ _ _ hi]
  have f4 : ∀ i, i ≠ s 2 0 → u2 (u2 (u2 s 3 (s 2 0) y) 4 (s 2 0) k) 2 0 (s 2 0 + 1) 4 i = s 4 i := fun i hi => by rw [u2_k _ _ _ _ (by decide), u2_i _ _ _ hi, u2_k _ _ _ _ (by decide)]
  have g3 : u2 (u2 (u2 s 3 (s 2 0) y) 4 (s 2 0) k) 2 0 (s 2 0 + 1) 3 (s 2 0) = y := by rw [u2_k _ _ _ _ (by decide), u2_k _ _ _ _ (by decide), u2_s]
  have g4 : u2 (u2 (u2 s 3 (s 2 0) y) 4 (s 2 0) k) 2 0 (s 2 0 + 1) 4 (s 2 0) = k := by rw [u2_k _ _ _ _ (by decide), u2_s]
  have hr : cRid Y y k = w := tyo_some hw
  have hrd : ∀ a b, cRid Y1 a b = cRid Y a b := fun a b => by unfold cRid; rw [e12]
  rw [h1] at e1 e3 e5 e6 e7 e8
  refine ⟨by rw [f0, e1], fun i i0 i1 => ?_, fun y' k' w' y0 y1 k0 k1 hw' => ?_⟩
  · rw [f0] at i1
    rw [hrd]
    by_cases e : i = s 2 0
    · rw [e, g3, g4, hr, e5]
      exact ⟨rfl, fun j j0 j1 => by rw [e7 j j0 j1, e9]⟩
    · rw [f3 i e, f4 i e, e6 i e]
      obtain ⟨a, b⟩ := h2 i i0 (by omega)
      refine ⟨a, fun j j0 j1 => ?_⟩
      have := hl i
      rw [e8 _ (by omega), e9]
      exact b j j0 j1
  · rw [f0]
    rw [e2] at y1
    rw [e12] at hw'
    have k1' : k' < cFc X Y y' := by unfold cFc at k1 ⊢; rw [e10, e11] at k1; exact k1
    have hc : nmAt (fun q => cRid Y1 (u2 (u2 (u2 s 3 (s 2 0) y) 4 (s 2 0) k) 2 0 (s 2 0 + 1) 3 q) (u2 (u2 (u2 s 3 (s 2 0) y) 4 (s 2 0) k) 2 0 (s 2 0 + 1) 4 q)) w' (s 2 0 + 1).toNat = if nmAt (fun q => cRid Y (s 3 q) (s 4 q)) w' (s 2 0).toNat = -1 then (if w = w' then s 2 0 else -1) else nmAt (fun q => cRid Y (s 3 q) (s 4 q)) w' (s 2 0).toNat := nmAt_push hp (fun j j0 j1 => by show cRid Y1 _ _ = cRid Y (s 3 j) (s 4 j); rw [hrd, f3 j (by omega), f4 j (by omega)]) (by show cRid Y1 _ _ = w; rw [hrd, g3, g4, hr])
    rw [hc]
    have h4 := h3 y' k' w' y0 y1 k0 k1' hw'
    by_cases e : w' = w
    · rw [e] at h4 ⊢
      rw [e3, ← h4, hn, if_pos rfl, if_pos rfl]
    · rw [e4 w' e, h4]
      by_cases c : nmAt (fun q => cRid Y (s 3 q) (s 4 q)) w' (s 2 0).toNat = -1
      · rw [if_pos c, if_neg (fun q => e q.symm), c]
      · rw [if_neg c]
end RC3
