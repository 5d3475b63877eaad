/-! what holds of the class between calls: printed by wip/tools/cinv.py -/
def LnOK (ln : Int → Int) : Prop := ∀ i, 0 ≤ ln i ∧ ln i ≤ 12
def cTh (Y : Nat → Int → Int → Option Int) : Prop := ∀ x, 0 ≤ x → x < 30 → Y 2 0 x = some x
def cNt (Y : Nat → Int → Int → Option Int) : Prop := ∀ n, 0 ≤ n → n < 80 → Y 30 0 n = some n
def cSv (Y : Nat → Int → Int → Option Int) : Prop := (∀ q, 0 ≤ q → q < 4 → Y 4 0 q ≠ none) ∧ Y 0 0 6 ≠ none ∧ Y 0 0 7 ≠ none
def cTy (cnt : Nat → Int) (X : Nat → Int → Int → Int) (Y : Nat → Int → Int → Option Int) : Prop := cnt 19 = X 0 0 1 ∧ ∀ t, 0 ≤ t → t < X 0 0 1 → Y 1 0 t = some t ∧ X 19 t 0 = t
def cTt (X : Nat → Int → Int → Int) (Y : Nat → Int → Int → Option Int) : Prop := ∀ x, 0 ≤ x → x < X 0 0 3 → Y 15 x 0 ≠ none
def cCk (X : Nat → Int → Int → Int) (Y : Nat → Int → Int → Option Int) : Prop := ∀ q j, 0 ≤ q → q < X 0 0 1 → 0 ≤ j → j < X 19 q 6 → Y 24 q j ≠ none
def cRc (X : Nat → Int → Int → Int) : Prop := ∀ q r, 0 ≤ q → q < 6 → 0 ≤ r → r < X 7 q 0 → X 8 q r < X 0 0 1
def cNo (X : Nat → Int → Int → Int) (Y : Nat → Int → Int → Option Int) (ln : Int → Int) : Prop := ∀ n, 0 ≤ n → n < 80 → (Y 28 n 0 ≠ none → X 28 n 1 ≤ 4) ∧ (Y 28 n 0 = none → ∀ w, Y 28 n 3 = some w → X 28 n 1 < ln w)
def CInv (cnt : Nat → Int) (X : Nat → Int → Int → Int) (Y : Nat → Int → Int → Option Int) (ln : Int → Int) : Prop := cTh Y ∧ cNt Y ∧ cSv Y ∧ cTy cnt X Y ∧ cTt X Y ∧ cCk X Y ∧ cRc X ∧ cNo X Y ln
theorem cinv_frm {M N : List Nat} {cnt : Nat → Int} {X X1 : Nat → Int → Int → Int} {Y Y1 : Nat → Int → Int → Option Int} {ln : Int → Int} (h : CInv cnt X Y ln) (hF : Frm M X X1) (hH : Frm N Y Y1) (hd : ∀ c ∈ [2, 4, 1901, 1907, 701, 800, 2802], c ∉ M) (he : ∀ c ∈ [200, 3000, 400, 7, 8, 100, 1501, 2400, 2801, 2804], c ∉ N) : CInv cnt X1 Y1 ln := by
  have a1 : X1 0 0 1 = X 0 0 1 := hF 0 0 1 (hd 2 (by decide))
  have a2 : X1 0 0 3 = X 0 0 3 := hF 0 0 3 (hd 4 (by decide))
  have a3 : ∀ i, X1 19 i 6 = X 19 i 6 := fun i => hF 19 i 6 (hd 1907 (by decide))
  have a3b : ∀ i, X1 19 i 0 = X 19 i 0 := fun i => hF 19 i 0 (hd 1901 (by decide))
  have a4 : ∀ i, X1 7 i 0 = X 7 i 0 := fun i => hF 7 i 0 (hd 701 (by decide))
  have a5 : ∀ i j, X1 8 i j = X 8 i j := fun i j => hF 8 i j (hd 800 (by decide))
  have a10 : ∀ i, X1 28 i 1 = X 28 i 1 := fun i => hF 28 i 1 (hd 2802 (by decide))
  have b1 : ∀ j, Y1 2 0 j = Y 2 0 j := fun j => hH 2 0 j (he 200 (by decide))
  have b2 : ∀ j, Y1 30 0 j = Y 30 0 j := fun j => hH 30 0 j (he 3000 (by decide))
  have b3 : ∀ j, Y1 4 0 j = Y 4 0 j := fun j => hH 4 0 j (he 400 (by decide))
  have b4 : Y1 0 0 6 = Y 0 0 6 := hH 0 0 6 (he 7 (by decide))
  have b5 : Y1 0 0 7 = Y 0 0 7 := hH 0 0 7 (he 8 (by decide))
  have b6 : ∀ j, Y1 1 0 j = Y 1 0 j := fun j => hH 1 0 j (he 100 (by decide))
  have b7 : ∀ i, Y1 15 i 0 = Y 15 i 0 := fun i => hH 15 i 0 (he 1501 (by decide))
  have b8 : ∀ i j, Y1 24 i j = Y 24 i j := fun i j => hH 24 i j (he 2400 (by decide))
  have b9 : ∀ i, Y1 28 i 0 = Y 28 i 0 := fun i => hH 28 i 0 (he 2801 (by decide))
  have b10 : ∀ i, Y1 28 i 3 = Y 28 i 3 := fun i => hH 28 i 3 (he 2804 (by decide))
  unfold CInv cTh cNt cSv cTy cTt cCk cRc cNo at *
  simp only [a1, a2, a3, a3b, a4, a5, a10, b1, b2, b3, b4, b5, b6, b7, b8, b9, b10]
  exact h
/-! what the records keep of things and rows -/
def cRv (X : Nat → Int → Int → Int) : Prop := ∀ q j, 0 ≤ q → q < 6 → 0 ≤ j → j < 150 → 2 ≤ X 11 q j → -1 ≤ X 12 q j ∧ X 12 q j ≤ 149
def cRx (X : Nat → Int → Int → Int) (g e : Int) : Prop := ∀ q j, 0 ≤ q → q < 6 → 0 ≤ j → j < 150 → ¬ (q = g ∧ j = e) → 2 ≤ X 11 q j → -1 ≤ X 12 q j ∧ X 12 q j ≤ 149
section CV
variable {M N : List Nat} {cnt cnt1 : Nat → Int} {X X1 : Nat → Int → Int → Int} {Y Y1 : Nat → Int → Int → Option Int} {ln : Int → Int}
theorem cRv.frm (h : cRv X) (hF : Frm M X X1) (hd : ∀ c ∈ [1100, 1200], c ∉ M) : cRv X1 := fun q j a b c d => by
  rw [hF 11 q j (hd 1100 (by decide)), hF 12 q j (hd 1200 (by decide))]; exact h q j a b c d
theorem cRx.frm {g e : Int} (h : cRx X g e) (hF : Frm M X X1) (hd : ∀ c ∈ [1100, 1200], c ∉ M) : cRx X1 g e := fun q j a b c d => by
  rw [hF 11 q j (hd 1100 (by decide)), hF 12 q j (hd 1200 (by decide))]; exact h q j a b c d
theorem u3_ij {α : Type} {Z : Nat → Int → Int → α} {k : Nat} {i j i1 j1 : Int} {v : α} (h : ¬ (i1 = i ∧ j1 = j)) : u3 Z k i j v k i1 j1 = Z k i1 j1 := by
  simp only [u3]
  rw [if_neg (fun q => h q.2)]
theorem cRv.lane {g e v : Int} (h : cRv X) : cRx (u3 X 11 g e v) g e := fun q j a b c d hn => by
  rw [u3_ij hn, u3_k _ _ _ _ (by decide)]; exact h q j a b c d
theorem cRx.val {g e v : Int} (h : cRx X g e) (hv : 2 ≤ X 11 g e → -1 ≤ v ∧ v ≤ 149) : cRv (u3 X 12 g e v) := fun q j a b c d => by
  by_cases hn : q = g ∧ j = e
  · obtain ⟨rfl, rfl⟩ := hn
    rw [u3_k _ _ _ _ (by decide), u3_s]; exact hv
  · rw [u3_k _ _ _ _ (by decide), u3_ij hn]; exact h q j a b c d hn
/-! the class's changes of state -/
theorem cinv_note (h : CInv cnt X Y ln) (hF : Frm [2802, 2803, 2902] X X1) (hH : Frm [2801, 2804] Y Y1) {n : Int} (e1 : ∀ m, m ≠ n → X1 28 m 1 = X 28 m 1 ∧ Y1 28 m 0 = Y 28 m 0 ∧ Y1 28 m 3 = Y 28 m 3) (hn : (Y1 28 n 0 ≠ none → X1 28 n 1 ≤ 4) ∧ (Y1 28 n 0 = none → ∀ w, Y1 28 n 3 = some w → X1 28 n 1 < ln w)) : CInv cnt X1 Y1 ln := by
  obtain ⟨a, b, c, d, e, f, g, k⟩ := h
  have a1 : X1 0 0 1 = X 0 0 1 := hF 0 0 1 (show 2 ∉ _ by decide)
  have a2 : X1 0 0 3 = X 0 0 3 := hF 0 0 3 (show 4 ∉ _ by decide)
  have a3 : ∀ i, X1 19 i 6 = X 19 i 6 := fun i => hF 19 i 6 (show 1907 ∉ _ by decide)
  have a3b : ∀ i, X1 19 i 0 = X 19 i 0 := fun i => hF 19 i 0 (show 1901 ∉ _ by decide)
  have a4 : ∀ i, X1 7 i 0 = X 7 i 0 := fun i => hF 7 i 0 (show 701 ∉ _ by decide)
  have a5 : ∀ i j, X1 8 i j = X 8 i j := fun i j => hF 8 i j (show 800 ∉ _ by decide)
  have b1 : ∀ j, Y1 2 0 j = Y 2 0 j := fun j => hH 2 0 j (show 200 ∉ _ by decide)
  have b2 : ∀ j, Y1 30 0 j = Y 30 0 j := fun j => hH 30 0 j (show 3000 ∉ _ by decide)
  have b3 : ∀ j, Y1 4 0 j = Y 4 0 j := fun j => hH 4 0 j (show 400 ∉ _ by decide)
  have b4 : Y1 0 0 6 = Y 0 0 6 := hH 0 0 6 (show 7 ∉ _ by decide)
  have b5 : Y1 0 0 7 = Y 0 0 7 := hH 0 0 7 (show 8 ∉ _ by decide)
  have b6 : ∀ j, Y1 1 0 j = Y 1 0 j := fun j => hH 1 0 j (show 100 ∉ _ by decide)
  have b7 : ∀ i, Y1 15 i 0 = Y 15 i 0 := fun i => hH 15 i 0 (show 1501 ∉ _ by decide)
  have b8 : ∀ i j, Y1 24 i j = Y 24 i j := fun i j => hH 24 i j (show 2400 ∉ _ by decide)
  refine ⟨?_, ?_, ?_, ?_, ?_, ?_, ?_, ?_⟩
  · unfold cTh at *; simp only [b1]; exact a
  · unfold cNt at *; simp only [b2]; exact b
  · unfold cSv at *; simp only [b3, b4, b5]; exact c
  · unfold cTy at *; simp only [a1, a3b, b6]; exact d
  · unfold cTt at *; simp only [a2, b7]; exact e
  · unfold cCk at *; simp only [a1, a3, b8]; exact f
  · unfold cRc at *; simp only [a1, a4, a5]; exact g
  · intro m m0 m1
    by_cases hm : m = n
    · rw [hm]; exact hn
    · obtain ⟨q1, q2, q3⟩ := e1 m hm
      rw [q1, q2, q3]; exact k m m0 m1
theorem cinv_y15 {x q : Int} (h : CInv cnt X Y ln) : CInv cnt X (u3 Y 15 x 0 (some q)) ln := by
  have e : ∀ (k : Nat) (i j : Int), k ≠ 15 → u3 Y 15 x 0 (some q) k i j = Y k i j := fun k i j hk => by rw [u3_k _ _ _ _ hk]
  obtain ⟨a, b, c, d, f, g, k, o⟩ := h
  refine ⟨?_, ?_, ?_, ?_, ?_, ?_, k, ?_⟩
  · unfold cTh at *; simp only [e 2 _ _ (by decide)]; exact a
  · unfold cNt at *; simp only [e 30 _ _ (by decide)]; exact b
  · unfold cSv at *; simp only [e 4 _ _ (by decide), e 0 _ _ (by decide)]; exact c
  · unfold cTy at *; simp only [e 1 _ _ (by decide)]; exact d
  · intro x' h0 h1
    by_cases hx : x' = x
    · rw [hx, u3_s]; exact fun q => by cases q
    · rw [u3_ij (fun q => hx q.1)]; exact f x' h0 h1
  · unfold cCk at *; simp only [e 24 _ _ (by decide)]; exact g
  · unfold cNo at *; simp only [e 28 _ _ (by decide)]; exact o
/-- things come or go -/
theorem cinv_things (h : CInv cnt X Y ln) (hF : Frm [4] X X1) (ht : ∀ x, 0 ≤ x → x < X1 0 0 3 → X 0 0 3 ≤ x → Y 15 x 0 ≠ none) : CInv cnt X1 Y ln := by
  obtain ⟨a, b, c, d, e, f, g, k⟩ := h
  have a1 : X1 0 0 1 = X 0 0 1 := hF 0 0 1 (show 2 ∉ _ by decide)
  have a3 : ∀ i, X1 19 i 6 = X 19 i 6 := fun i => hF 19 i 6 (show 1907 ∉ _ by decide)
  have a3b : ∀ i, X1 19 i 0 = X 19 i 0 := fun i => hF 19 i 0 (show 1901 ∉ _ by decide)
  have a4 : ∀ i, X1 7 i 0 = X 7 i 0 := fun i => hF 7 i 0 (show 701 ∉ _ by decide)
  have a5 : ∀ i j, X1 8 i j = X 8 i j := fun i j => hF 8 i j (show 800 ∉ _ by decide)
  have a6 : ∀ i, X1 28 i 1 = X 28 i 1 := fun i => hF 28 i 1 (show 2802 ∉ _ by decide)
  refine ⟨a, b, c, ?_, fun x h0 h1 => ?_, ?_, ?_, ?_⟩
  · unfold cTy at *; simp only [a1, a3b]; exact d
  · by_cases hx : x < X 0 0 3
    · exact e x h0 hx
    · exact ht x h0 h1 (by omega)
  · unfold cCk at *; simp only [a1, a3]; exact f
  · unfold cRc at *; simp only [a1, a4, a5]; exact g
  · unfold cNo at *; simp only [a6]; exact k
/-- checks come or go -/
theorem cinv_checks {q : Int} (h : CInv cnt X Y ln) (hF : Frm [1907] X X1) (hH : Frm [2400] Y Y1) (e1 : ∀ i, i ≠ q → X1 19 i 6 = X 19 i 6) (e2 : ∀ i j, ¬ (i = q ∧ X 19 q 6 ≤ j) → Y1 24 i j = Y 24 i j) (ht : ∀ j, 0 ≤ j → j < X1 19 q 6 → X 19 q 6 ≤ j → Y1 24 q j ≠ none) : CInv cnt X1 Y1 ln := by
  obtain ⟨a, b, c, d, e, f, g, k⟩ := h
  have a1 : X1 0 0 1 = X 0 0 1 := hF 0 0 1 (show 2 ∉ _ by decide)
  have a2 : X1 0 0 3 = X 0 0 3 := hF 0 0 3 (show 4 ∉ _ by decide)
  have a3b : ∀ i, X1 19 i 0 = X 19 i 0 := fun i => hF 19 i 0 (show 1901 ∉ _ by decide)
  have a4 : ∀ i, X1 7 i 0 = X 7 i 0 := fun i => hF 7 i 0 (show 701 ∉ _ by decide)
  have a5 : ∀ i j, X1 8 i j = X 8 i j := fun i j => hF 8 i j (show 800 ∉ _ by decide)
  have a6 : ∀ i, X1 28 i 1 = X 28 i 1 := fun i => hF 28 i 1 (show 2802 ∉ _ by decide)
  have b1 : ∀ j, Y1 2 0 j = Y 2 0 j := fun j => hH 2 0 j (show 200 ∉ _ by decide)
  have b2 : ∀ j, Y1 30 0 j = Y 30 0 j := fun j => hH 30 0 j (show 3000 ∉ _ by decide)
  have b3 : ∀ j, Y1 4 0 j = Y 4 0 j := fun j => hH 4 0 j (show 400 ∉ _ by decide)
  have b4 : Y1 0 0 6 = Y 0 0 6 := hH 0 0 6 (show 7 ∉ _ by decide)
  have b5 : Y1 0 0 7 = Y 0 0 7 := hH 0 0 7 (show 8 ∉ _ by decide)
  have b6 : ∀ j, Y1 1 0 j = Y 1 0 j := fun j => hH 1 0 j (show 100 ∉ _ by decide)
  have b7 : ∀ i, Y1 15 i 0 = Y 15 i 0 := fun i => hH 15 i 0 (show 1501 ∉ _ by decide)
  have b9 : ∀ i, Y1 28 i 0 = Y 28 i 0 := fun i => hH 28 i 0 (show 2801 ∉ _ by decide)
  have b10 : ∀ i, Y1 28 i 3 = Y 28 i 3 := fun i => hH 28 i 3 (show 2804 ∉ _ by decide)
  refine ⟨?_, ?_, ?_, ?_, ?_, ?_, ?_, ?_⟩
  · unfold cTh at *; simp only [b1]; exact a
  · unfold cNt at *; simp only [b2]; exact b
  · unfold cSv at *; simp only [b3, b4, b5]; exact c
  · unfold cTy at *; simp only [a1, a3b, b6]; exact d
  · unfold cTt at *; simp only [a2, b7]; exact e
  · intro i j i0 i1 j0 j1
    rw [a1] at i1
    by_cases hi : i = q
    · subst hi
      by_cases hj : j < X 19 i 6
      · rw [e2 i j (fun w => by omega)]; exact f i j i0 i1 j0 hj
      · exact ht j j0 j1 (by omega)
    · rw [e1 i hi] at j1
      rw [e2 i j (fun w => hi w.1)]; exact f i j i0 i1 j0 j1
  · unfold cRc at *; simp only [a1, a4, a5]; exact g
  · unfold cNo at *; simp only [a6, b9, b10]; exact k
/-- records begin anew, or one comes -/
theorem cinv_record {g : Int} (h : CInv cnt X Y ln) (hF : Frm [1504, 701, 800, 900, 707] X X1) (hH : Frm [500] Y Y1) (e1 : ∀ i, i ≠ g → X1 7 i 0 = X 7 i 0 ∧ ∀ j, X1 8 i j = X 8 i j) (e2 : ∀ r, 0 ≤ r → r < X1 7 g 0 → X1 8 g r < X 0 0 1) : CInv cnt X1 Y1 ln := by
  obtain ⟨a, b, c, d, e, f, k, o⟩ := h
  have a1 : X1 0 0 1 = X 0 0 1 := hF 0 0 1 (show 2 ∉ _ by decide)
  have a2 : X1 0 0 3 = X 0 0 3 := hF 0 0 3 (show 4 ∉ _ by decide)
  have a3 : ∀ i, X1 19 i 6 = X 19 i 6 := fun i => hF 19 i 6 (show 1907 ∉ _ by decide)
  have a3b : ∀ i, X1 19 i 0 = X 19 i 0 := fun i => hF 19 i 0 (show 1901 ∉ _ by decide)
  have a6 : ∀ i, X1 28 i 1 = X 28 i 1 := fun i => hF 28 i 1 (show 2802 ∉ _ by decide)
  have b1 : ∀ j, Y1 2 0 j = Y 2 0 j := fun j => hH 2 0 j (show 200 ∉ _ by decide)
  have b2 : ∀ j, Y1 30 0 j = Y 30 0 j := fun j => hH 30 0 j (show 3000 ∉ _ by decide)
  have b3 : ∀ j, Y1 4 0 j = Y 4 0 j := fun j => hH 4 0 j (show 400 ∉ _ by decide)
  have b4 : Y1 0 0 6 = Y 0 0 6 := hH 0 0 6 (show 7 ∉ _ by decide)
  have b5 : Y1 0 0 7 = Y 0 0 7 := hH 0 0 7 (show 8 ∉ _ by decide)
  have b6 : ∀ j, Y1 1 0 j = Y 1 0 j := fun j => hH 1 0 j (show 100 ∉ _ by decide)
  have b7 : ∀ i, Y1 15 i 0 = Y 15 i 0 := fun i => hH 15 i 0 (show 1501 ∉ _ by decide)
  have b8 : ∀ i j, Y1 24 i j = Y 24 i j := fun i j => hH 24 i j (show 2400 ∉ _ by decide)
  have b9 : ∀ i, Y1 28 i 0 = Y 28 i 0 := fun i => hH 28 i 0 (show 2801 ∉ _ by decide)
  have b10 : ∀ i, Y1 28 i 3 = Y 28 i 3 := fun i => hH 28 i 3 (show 2804 ∉ _ by decide)
  refine ⟨?_, ?_, ?_, ?_, ?_, ?_, ?_, ?_⟩
  · unfold cTh at *; simp only [b1]; exact a
  · unfold cNt at *; simp only [b2]; exact b
  · unfold cSv at *; simp only [b3, b4, b5]; exact c
  · unfold cTy at *; simp only [a1, a3b, b6]; exact d
  · unfold cTt at *; simp only [a2, b7]; exact e
  · unfold cCk at *; simp only [a1, a3, b8]; exact f
  · intro q r q0 q1 r0 r1
    rw [a1]
    by_cases hq : q = g
    · subst hq; exact e2 r r0 r1
    · rw [(e1 q hq).1] at r1
      rw [(e1 q hq).2]; exact k q r q0 q1 r0 r1
  · unfold cNo at *; simp only [a6, b9, b10]; exact o
theorem cinv_swap {sv a b : Int} (h : CInv cnt X Y ln) : CInv cnt X (u3 (u3 Y 4 0 sv (some a)) 0 0 6 (some b)) ln := by
  have e : ∀ (k : Nat) (i j : Int), k ≠ 4 → k ≠ 0 → u3 (u3 Y 4 0 sv (some a)) 0 0 6 (some b) k i j = Y k i j := fun k i j hk h0 => by rw [u3_k _ _ _ _ h0, u3_k _ _ _ _ hk]
  obtain ⟨p1, p2, c, d, f, g, k, o⟩ := h
  refine ⟨?_, ?_, ⟨fun q q0 q1 => ?_, ?_, ?_⟩, ?_, ?_, ?_, k, ?_⟩
  · unfold cTh at *; simp only [e 2 _ _ (by decide) (by decide)]; exact p1
  · unfold cNt at *; simp only [e 30 _ _ (by decide) (by decide)]; exact p2
  · rw [u3_k _ _ _ _ (by decide)]
    by_cases hq : q = sv
    · rw [hq, u3_s]; exact fun q => by cases q
    · rw [u3_j _ _ _ _ hq]; exact c.1 q q0 q1
  · rw [u3_s]; exact fun q => by cases q
  · rw [u3_j _ _ _ _ (by decide), u3_k _ _ _ _ (by decide)]; exact c.2.2
  · unfold cTy at *; simp only [e 1 _ _ (by decide) (by decide)]; exact d
  · unfold cTt at *; simp only [e 15 _ _ (by decide) (by decide)]; exact f
  · unfold cCk at *; simp only [e 24 _ _ (by decide) (by decide)]; exact g
  · unfold cNo at *; simp only [e 28 _ _ (by decide) (by decide)]; exact o
/-- a type comes: its number is T -/
theorem cinv_type {T : Int} (h : CInv cnt X Y ln) (hT : T = X 0 0 1) (hc : cnt1 19 = T + 1) (hF : Frm [1901, 1902, 1907, 2000, 2100, 2200, 2300, 2] X X1) (hH : Frm [2400, 100] Y Y1) (e0 : X1 0 0 1 = T + 1) (e1 : ∀ i, i ≠ T → X1 19 i 0 = X 19 i 0 ∧ X1 19 i 6 = X 19 i 6 ∧ (∀ j, Y1 24 i j = Y 24 i j) ∧ Y1 1 0 i = Y 1 0 i) (e2 : X1 19 T 0 = T ∧ X1 19 T 6 = 0 ∧ Y1 1 0 T = some T) {ln1 : Int → Int} (hl : ln1 = ln) : CInv cnt1 X1 Y1 ln1 := by
  subst hl
  obtain ⟨a, b, c, d, e, f, g, k⟩ := h
  have a2 : X1 0 0 3 = X 0 0 3 := hF 0 0 3 (show 4 ∉ _ by decide)
  have a4 : ∀ i, X1 7 i 0 = X 7 i 0 := fun i => hF 7 i 0 (show 701 ∉ _ by decide)
  have a5 : ∀ i j, X1 8 i j = X 8 i j := fun i j => hF 8 i j (show 800 ∉ _ by decide)
  have a6 : ∀ i, X1 28 i 1 = X 28 i 1 := fun i => hF 28 i 1 (show 2802 ∉ _ by decide)
  have b1 : ∀ j, Y1 2 0 j = Y 2 0 j := fun j => hH 2 0 j (show 200 ∉ _ by decide)
  have b2 : ∀ j, Y1 30 0 j = Y 30 0 j := fun j => hH 30 0 j (show 3000 ∉ _ by decide)
  have b3 : ∀ j, Y1 4 0 j = Y 4 0 j := fun j => hH 4 0 j (show 400 ∉ _ by decide)
  have b4 : Y1 0 0 6 = Y 0 0 6 := hH 0 0 6 (show 7 ∉ _ by decide)
  have b5 : Y1 0 0 7 = Y 0 0 7 := hH 0 0 7 (show 8 ∉ _ by decide)
  have b7 : ∀ i, Y1 15 i 0 = Y 15 i 0 := fun i => hH 15 i 0 (show 1501 ∉ _ by decide)
  have b9 : ∀ i, Y1 28 i 0 = Y 28 i 0 := fun i => hH 28 i 0 (show 2801 ∉ _ by decide)
  have b10 : ∀ i, Y1 28 i 3 = Y 28 i 3 := fun i => hH 28 i 3 (show 2804 ∉ _ by decide)
  refine ⟨?_, ?_, ?_, ⟨by omega, fun t t0 t1 => ?_⟩, ?_, fun q j q0 q1 j0 j1 => ?_, fun q r q0 q1 r0 r1 => ?_, ?_⟩
  · unfold cTh at *; simp only [b1]; exact a
  · unfold cNt at *; simp only [b2]; exact b
  · unfold cSv at *; simp only [b3, b4, b5]; exact c
  · by_cases ht : t = T
    · rw [ht]; exact ⟨e2.2.2, e2.1⟩
    · rw [(e1 t ht).1, (e1 t ht).2.2.2]; exact d.2 t t0 (by omega)
  · unfold cTt at *; simp only [a2, b7]; exact e
  · by_cases ht : q = T
    · rw [ht, e2.2.1] at j1; omega
    · rw [(e1 q ht).2.1] at j1
      rw [(e1 q ht).2.2.1]; exact f q j q0 (by omega) j0 j1
  · rw [a4] at r1
    rw [a5]
    have := g q r q0 q1 r0 r1
    omega
  · unfold cNo at *; simp only [a6, b9, b10]; exact k
end CV

