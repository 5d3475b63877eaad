section
/-! what holds of the class between calls: printed by wip/tools/cinv.py -/
def LnOK (ln : Int → Int) : Prop := ∀ i, 0 ≤ ln i ∧ ln i ≤ 12
def cTh (Y : Nat → Int → Int → Option Int) : Prop := ∀ x, 0 ≤ x → x < 30 → Y 2 0 x = some x
def cNt (Y : Nat → Int → Int → Option Int) : Prop := ∀ n, 0 ≤ n → n < 80 → Y 30 0 n = some n
def cSv (Y : Nat → Int → Int → Option Int) : Prop := (∀ q, 0 ≤ q → q < 4 → Y 4 0 q ≠ none) ∧ Y 0 0 6 ≠ none ∧ Y 0 0 7 ≠ none
def cTy (cnt : Nat → Int) (X : Nat → Int → Int → Int) (Y : Nat → Int → Int → Option Int) : Prop := cnt 19 = X 0 0 1 ∧ ∀ t, 0 ≤ t → t < X 0 0 1 → Y 1 0 t = some t ∧ X 19 t 0 = t
def cTt (X : Nat → Int → Int → Int) (Y : Nat → Int → Int → Option Int) : Prop := ∀ x, 0 ≤ x → x < X 0 0 3 → Y 15 x 0 ≠ none
def cCk (X : Nat → Int → Int → Int) (Y : Nat → Int → Int → Option Int) : Prop := ∀ q j, 0 ≤ q → q < X 0 0 1 → 0 ≤ j → j < X 19 q 6 → Y 24 q j ≠ none
def cRc (X : Nat → Int → Int → Int) : Prop := ∀ q r, 0 ≤ q → q < 6 → 0 ≤ r → r < X 7 q 0 → X 8 q r < X 0 0 1
def cNo (X : Nat → Int → Int → Int) (Y : Nat → Int → Int → Option Int) (ln : Int → Int) : Prop := ∀ n, 0 ≤ n → n < 80 → (Y 28 n 0 ≠ none → X 28 n 1 ≤ 4) ∧ (Y 28 n 0 = none → ∀ w, Y 28 n 3 = some w → X 28 n 1 < ln w)
def CInv (cnt : Nat → Int) (X : Nat → Int → Int → Int) (Y : Nat → Int → Int → Option Int) (ln : Int → Int) : Prop := cTh Y ∧ cNt Y ∧ cSv Y ∧ cTy cnt X Y ∧ cTt X Y ∧ cCk X Y ∧ cRc X ∧ cNo X Y ln
theorem cinv_frm {M N : List Nat} {cnt : Nat → Int} {X X1 : Nat → Int → Int → Int} {Y Y1 : Nat → Int → Int → Option Int} {ln : Int → Int} (h : CInv cnt X Y ln) (hF : Frm M X X1) (hH : Frm N Y Y1) (hd : ∀ c ∈ [2, 4, 1901, 1907, 701, 800, 2802], c ∉ M) (he : ∀ c ∈ [200, 3000, 400, 7, 8, 100, 1501, 2400, 2801, 2804], c ∉ N) : CInv cnt X1 Y1 ln := by
  have a1 : X1 0 0 1 = X 0 0 1 := hF 0 0 1 (hd 2 (by decide))
  have a2 : X1 0 0 3 = X 0 0 3 := hF 0 0 3 (hd 4 (by decide))
  have a3 : ∀ i, X1 19 i 6 = X 19 i 6 := fun i => hF 19 i 6 (hd 1907 (by decide))
  have a3b : ∀ i, X1 19 i 0 = X 19 i 0 := fun i => hF 19 i 0 (hd 1901 (by decide))
  have a4 : ∀ i, X1 7 i 0 = X 7 i 0 := fun i => hF 7 i 0 (hd 701 (by decide))
  have a5 : ∀ i j, X1 8 i j = X 8 i j := fun i j => hF 8 i j (hd 800 (by decide))
  have a10 : ∀ i, X1 28 i 1 = X 28 i 1 := fun i => hF 28 i 1 (hd 2802 (by decide))
  have b1 : ∀ j, Y1 2 0 j = Y 2 0 j := fun j => hH 2 0 j (he 200 (by decide))
  have b2 : ∀ j, Y1 30 0 j = Y 30 0 j := fun j => hH 30 0 j (he 3000 (by decide))
  have b3 : ∀ j, Y1 4 0 j = Y 4 0 j := fun j => hH 4 0 j (he 400 (by decide))
  have b4 : Y1 0 0 6 = Y 0 0 6 := hH 0 0 6 (he 7 (by decide))
  have b5 : Y1 0 0 7 = Y 0 0 7 := hH 0 0 7 (he 8 (by decide))
  have b6 : ∀ j, Y1 1 0 j = Y 1 0 j := fun j => hH 1 0 j (he 100 (by decide))
  have b7 : ∀ i, Y1 15 i 0 = Y 15 i 0 := fun i => hH 15 i 0 (he 1501 (by decide))
  have b8 : ∀ i j, Y1 24 i j = Y 24 i j := fun i j => hH 24 i j (he 2400 (by decide))
  have b9 : ∀ i, Y1 28 i 0 = Y 28 i 0 := fun i => hH 28 i 0 (he 2801 (by decide))
  have b10 : ∀ i, Y1 28 i 3 = Y 28 i 3 := fun i => hH 28 i 3 (he 2804 (by decide))
  unfold CInv cTh cNt cSv cTy cTt cCk cRc cNo at *
  simp only [a1, a2, a3, a3b, a4, a5, a10, b1, b2, b3, b4, b5, b6, b7, b8, b9, b10]
  exact h
/-! what the records keep of things and rows -/
def cRv (X : Nat → Int → Int → Int) : Prop := ∀ q j, 0 ≤ q → q < 6 → 0 ≤ j → j < 150 → 2 ≤ X 11 q j → -1 ≤ X 12 q j ∧ X 12 q j ≤ 149
def cRx (X : Nat → Int → Int → Int) (g e : Int) : Prop := ∀ q j, 0 ≤ q → q < 6 → 0 ≤ j → j < 150 → ¬ (q = g ∧ j = e) → 2 ≤ X 11 q j → -1 ≤ X 12 q j ∧ X 12 q j ≤ 149
section CV
variable {M N : List Nat} {cnt cnt1 : Nat → Int} {X X1 : Nat → Int → Int → Int} {Y Y1 : Nat → Int → Int → Option Int} {ln : Int → Int}
theorem cRv.frm (h : cRv X) (hF : Frm M X X1) (hd : ∀ c ∈ [1100, 1200], c ∉ M) : cRv X1 := fun q j a b c d => by
  rw [hF 11 q j (hd 1100 (by decide)), hF 12 q j (hd 1200 (by decide))]; exact h q j a b c d
theorem cRx.frm {g e : Int} (h : cRx X g e) (hF : Frm M X X1) (hd : ∀ c ∈ [1100, 1200], c ∉ M) : cRx X1 g e := fun q j a b c d => by
  rw [hF 11 q j (hd 1100 (by decide)), hF 12 q j (hd 1200 (by decide))]; exact h q j a b c d
theorem u3_ij {α : Type} {Z : Nat → Int → Int → α} {k : Nat} {i j i1 j1 : Int} {v : α} (h : ¬ (i1 = i ∧ j1 = j)) : u3 Z k i j v k i1 j1 = Z k i1 j1 := by
  simp only [u3]
  rw [if_neg (fun q => h q.2)]
theorem cRv.lane {g e v : Int} (h : cRv X) : cRx (u3 X 11 g e v) g e := fun q j a b c d hn => by
  rw [u3_ij hn, u3_k _ _ _ _ (by first | exact Nat.ne_of_beq_eq_false rfl | decide)]; exact h q j a b c d
theorem cRx.val {g e v : Int} (h : cRx X g e) (hv : 2 ≤ X 11 g e → -1 ≤ v ∧ v ≤ 149) : cRv (u3 X 12 g e v) := fun q j a b c d => by
  by_cases hn : q = g ∧ j = e
  · obtain ⟨rfl, rfl⟩ := hn
    rw [u3_k _ _ _ _ (by first | exact Nat.ne_of_beq_eq_false rfl | decide), u3_s]; exact hv
  · rw [u3_k _ _ _ _ (by first | exact Nat.ne_of_beq_eq_false rfl | decide), u3_ij hn]; exact h q j a b c d hn
/-! the class's changes of state -/
theorem cinv_note (h : CInv cnt X Y ln) (hF : Frm [2802, 2803, 2902] X X1) (hH : Frm [2801, 2804] Y Y1) {n : Int} (e1 : ∀ m, m ≠ n → X1 28 m 1 = X 28 m 1 ∧ Y1 28 m 0 = Y 28 m 0 ∧ Y1 28 m 3 = Y 28 m 3) (hn : (Y1 28 n 0 ≠ none → X1 28 n 1 ≤ 4) ∧ (Y1 28 n 0 = none → ∀ w, Y1 28 n 3 = some w → X1 28 n 1 < ln w)) : CInv cnt X1 Y1 ln := by
  obtain ⟨a, b, c, d, e, f, g, k⟩ := h
  have a1 : X1 0 0 1 = X 0 0 1 := hF 0 0 1 (show 2 ∉ _ by decide)
  have a2 : X1 0 0 3 = X 0 0 3 := hF 0 0 3 (show 4 ∉ _ by decide)
  have a3 : ∀ i, X1 19 i 6 = X 19 i 6 := fun i => hF 19 i 6 (show 1907 ∉ _ by decide)
  have a3b : ∀ i, X1 19 i 0 = X 19 i 0 := fun i => hF 19 i 0 (show 1901 ∉ _ by decide)
  have a4 : ∀ i, X1 7 i 0 = X 7 i 0 := fun i => hF 7 i 0 (show 701 ∉ _ by decide)
  have a5 : ∀ i j, X1 8 i j = X 8 i j := fun i j => hF 8 i j (show 800 ∉ _ by decide)
  have b1 : ∀ j, Y1 2 0 j = Y 2 0 j := fun j => hH 2 0 j (show 200 ∉ _ by decide)
  have b2 : ∀ j, Y1 30 0 j = Y 30 0 j := fun j => hH 30 0 j (show 3000 ∉ _ by decide)
  have b3 : ∀ j, Y1 4 0 j = Y 4 0 j := fun j => hH 4 0 j (show 400 ∉ _ by decide)
  have b4 : Y1 0 0 6 = Y 0 0 6 := hH 0 0 6 (show 7 ∉ _ by decide)
  have b5 : Y1 0 0 7 = Y 0 0 7 := hH 0 0 7 (show 8 ∉ _ by decide)
  have b6 : ∀ j, Y1 1 0 j = Y 1 0 j := fun j => hH 1 0 j (show 100 ∉ _ by decide)
  have b7 : ∀ i, Y1 15 i 0 = Y 15 i 0 := fun i => hH 15 i 0 (show 1501 ∉ _ by decide)
  have b8 : ∀ i j, Y1 24 i j = Y 24 i j := fun i j => hH 24 i j (show 2400 ∉ _ by decide)
  refine ⟨?_, ?_, ?_, ?_, ?_, ?_, ?_, ?_⟩
  · unfold cTh at *; simp only [b1]; exact a
  · unfold cNt at *; simp only [b2]; exact b
  · unfold cSv at *; simp only [b3, b4, b5]; exact c
  · unfold cTy at *; simp only [a1, a3b, b6]; exact d
  · unfold cTt at *; simp only [a2, b7]; exact e
  · unfold cCk at *; simp only [a1, a3, b8]; exact f
  · unfold cRc at *; simp only [a1, a4, a5]; exact g
  · intro m m0 m1
    by_cases hm : m = n
    · rw [hm]; exact hn
    · obtain ⟨q1, q2, q3⟩ := e1 m hm
      rw [q1, q2, q3]; exact k m m0 m1
theorem cinv_y15 {x q : Int} (h : CInv cnt X Y ln) : CInv cnt X (u3 Y 15 x 0 (some q)) ln := by
  have e : ∀ (k : Nat) (i j : Int), k ≠ 15 → u3 Y 15 x 0 (some q) k i j = Y k i j := fun k i j hk => by rw [u3_k _ _ _ _ hk]
  obtain ⟨a, b, c, d, f, g, k, o⟩ := h
  refine ⟨?_, ?_, ?_, ?_, ?_, ?_, k, ?_⟩
  · unfold cTh at *; simp only [e 2 _ _ (by decide)]; exact a
  · unfold cNt at *; simp only [e 30 _ _ (by decide)]; exact b
  · unfold cSv at *; simp only [e 4 _ _ (by decide), e 0 _ _ (by decide)]; exact c
  · unfold cTy at *; simp only [e 1 _ _ (by decide)]; exact d
  · intro x' h0 h1
    by_cases hx : x' = x
    · rw [hx, u3_s]; exact fun q => by cases q
    · rw [u3_ij (fun q => hx q.1)]; exact f x' h0 h1
  · unfold cCk at *; simp only [e 24 _ _ (by decide)]; exact g
  · unfold cNo at *; simp only [e 28 _ _ (by decide)]; exact o
/-- things come or go -/
theorem cinv_things (h : CInv cnt X Y ln) (hF : Frm [4] X X1) (ht : ∀ x, 0 ≤ x → x < X1 0 0 3 → X 0 0 3 ≤ x → Y 15 x 0 ≠ none) : CInv cnt X1 Y ln := by
  obtain ⟨a, b, c, d, e, f, g, k⟩ := h
  have a1 : X1 0 0 1 = X 0 0 1 := hF 0 0 1 (show 2 ∉ _ by decide)
  have a3 : ∀ i, X1 19 i 6 = X 19 i 6 := fun i => hF 19 i 6 (show 1907 ∉ _ by decide)
  have a3b : ∀ i, X1 19 i 0 = X 19 i 0 := fun i => hF 19 i 0 (show 1901 ∉ _ by decide)
  have a4 : ∀ i, X1 7 i 0 = X 7 i 0 := fun i => hF 7 i 0 (show 701 ∉ _ by decide)
  have a5 : ∀ i j, X1 8 i j = X 8 i j := fun i j => hF 8 i j (show 800 ∉ _ by decide)
  have a6 : ∀ i, X1 28 i 1 = X 28 i 1 := fun i => hF 28 i 1 (show 2802 ∉ _ by decide)
  refine ⟨a, b, c, ?_, fun x h0 h1 => ?_, ?_, ?_, ?_⟩
  · unfold cTy at *; simp only [a1, a3b]; exact d
  · by_cases hx : x < X 0 0 3
    · exact e x h0 hx
    · exact ht x h0 h1 (by omega)
  · unfold cCk at *; simp only [a1, a3]; exact f
  · unfold cRc at *; simp only [a1, a4, a5]; exact g
  · unfold cNo at *; simp only [a6]; exact k
/-- checks come or go -/
theorem cinv_checks {q : Int} (h : CInv cnt X Y ln) (hF : Frm [1907] X X1) (hH : Frm [2400] Y Y1) (e1 : ∀ i, i ≠ q → X1 19 i 6 = X 19 i 6) (e2 : ∀ i j, ¬ (i = q ∧ X 19 q 6 ≤ j) → Y1 24 i j = Y 24 i j) (ht : ∀ j, 0 ≤ j → j < X1 19 q 6 → X 19 q 6 ≤ j → Y1 24 q j ≠ none) : CInv cnt X1 Y1 ln := by
  obtain ⟨a, b, c, d, e, f, g, k⟩ := h
  have a1 : X1 0 0 1 = X 0 0 1 := hF 0 0 1 (show 2 ∉ _ by decide)
  have a2 : X1 0 0 3 = X 0 0 3 := hF 0 0 3 (show 4 ∉ _ by decide)
  have a3b : ∀ i, X1 19 i 0 = X 19 i 0 := fun i => hF 19 i 0 (show 1901 ∉ _ by decide)
  have a4 : ∀ i, X1 7 i 0 = X 7 i 0 := fun i => hF 7 i 0 (show 701 ∉ _ by decide)
  have a5 : ∀ i j, X1 8 i j = X 8 i j := fun i j => hF 8 i j (show 800 ∉ _ by decide)
  have a6 : ∀ i, X1 28 i 1 = X 28 i 1 := fun i => hF 28 i 1 (show 2802 ∉ _ by decide)
  have b1 : ∀ j, Y1 2 0 j = Y 2 0 j := fun j => hH 2 0 j (show 200 ∉ _ by decide)
  have b2 : ∀ j, Y1 30 0 j = Y 30 0 j := fun j => hH 30 0 j (show 3000 ∉ _ by decide)
  have b3 : ∀ j, Y1 4 0 j = Y 4 0 j := fun j => hH 4 0 j (show 400 ∉ _ by decide)
  have b4 : Y1 0 0 6 = Y 0 0 6 := hH 0 0 6 (show 7 ∉ _ by decide)
  have b5 : Y1 0 0 7 = Y 0 0 7 := hH 0 0 7 (show 8 ∉ _ by decide)
  have b6 : ∀ j, Y1 1 0 j = Y 1 0 j := fun j => hH 1 0 j (show 100 ∉ _ by decide)
  have b7 : ∀ i, Y1 15 i 0 = Y 15 i 0 := fun i => hH 15 i 0 (show 1501 ∉ _ by decide)
  have b9 : ∀ i, Y1 28 i 0 = Y 28 i 0 := fun i => hH 28 i 0 (show 2801 ∉ _ by decide)
  have b10 : ∀ i, Y1 28 i 3 = Y 28 i 3 := fun i => hH 28 i 3 (show 2804 ∉ _ by decide)
  refine ⟨?_, ?_, ?_, ?_, ?_, ?_, ?_, ?_⟩
  · unfold cTh at *; simp only [b1]; exact a
  · unfold cNt at *; simp only [b2]; exact b
  · unfold cSv at *; simp only [b3, b4, b5]; exact c
  · unfold cTy at *; simp only [a1, a3b, b6]; exact d
  · unfold cTt at *; simp only [a2, b7]; exact e
  · intro i j i0 i1 j0 j1
    rw [a1] at i1
    by_cases hi : i = q
    · subst hi
      by_cases hj : j < X 19 i 6
      · rw [e2 i j (fun w => by omega)]; exact f i j i0 i1 j0 hj
      · exact ht j j0 j1 (by omega)
    · rw [e1 i hi] at j1
      rw [e2 i j (fun w => hi w.1)]; exact f i j i0 i1 j0 j1
  · unfold cRc at *; simp only [a1, a4, a5]; exact g
  · unfold cNo at *; simp only [a6, b9, b10]; exact k
/-- records begin anew, or one comes -/
theorem cinv_record {g : Int} (h : CInv cnt X Y ln) (hF : Frm [1504, 701, 800, 900, 707] X X1) (hH : Frm [500] Y Y1) (e1 : ∀ i, i ≠ g → X1 7 i 0 = X 7 i 0 ∧ ∀ j, X1 8 i j = X 8 i j) (e2 : ∀ r, 0 ≤ r → r < X1 7 g 0 → X1 8 g r < X 0 0 1) : CInv cnt X1 Y1 ln := by
  obtain ⟨a, b, c, d, e, f, k, o⟩ := h
  have a1 : X1 0 0 1 = X 0 0 1 := hF 0 0 1 (show 2 ∉ _ by decide)
  have a2 : X1 0 0 3 = X 0 0 3 := hF 0 0 3 (show 4 ∉ _ by decide)
  have a3 : ∀ i, X1 19 i 6 = X 19 i 6 := fun i => hF 19 i 6 (show 1907 ∉ _ by decide)
  have a3b : ∀ i, X1 19 i 0 = X 19 i 0 := fun i => hF 19 i 0 (show 1901 ∉ _ by decide)
  have a6 : ∀ i, X1 28 i 1 = X 28 i 1 := fun i => hF 28 i 1 (show 2802 ∉ _ by decide)
  have b1 : ∀ j, Y1 2 0 j = Y 2 0 j := fun j => hH 2 0 j (show 200 ∉ _ by decide)
  have b2 : ∀ j, Y1 30 0 j = Y 30 0 j := fun j => hH 30 0 j (show 3000 ∉ _ by decide)
  have b3 : ∀ j, Y1 4 0 j = Y 4 0 j := fun j => hH 4 0 j (show 400 ∉ _ by decide)
  have b4 : Y1 0 0 6 = Y 0 0 6 := hH 0 0 6 (show 7 ∉ _ by decide)
  have b5 : Y1 0 0 7 = Y 0 0 7 := hH 0 0 7 (show 8 ∉ _ by decide)
  have b6 : ∀ j, Y1 1 0 j = Y 1 0 j := fun j => hH 1 0 j (show 100 ∉ _ by decide)
  have b7 : ∀ i, Y1 15 i 0 = Y 15 i 0 := fun i => hH 15 i 0 (show 1501 ∉ _ by decide)
  have b8 : ∀ i j, Y1 24 i j = Y 24 i j := fun i j => hH 24 i j (show 2400 ∉ _ by decide)
  have b9 : ∀ i, Y1 28 i 0 = Y 28 i 0 := fun i => hH 28 i 0 (show 2801 ∉ _ by decide)
  have b10 : ∀ i, Y1 28 i 3 = Y 28 i 3 := fun i => hH 28 i 3 (show 2804 ∉ _ by decide)
  refine ⟨?_, ?_, ?_, ?_, ?_, ?_, ?_, ?_⟩
  · unfold cTh at *; simp only [b1]; exact a
  · unfold cNt at *; simp only [b2]; exact b
  · unfold cSv at *; simp only [b3, b4, b5]; exact c
  · unfold cTy at *; simp only [a1, a3b, b6]; exact d
  · unfold cTt at *; simp only [a2, b7]; exact e
  · unfold cCk at *; simp only [a1, a3, b8]; exact f
  · intro q r q0 q1 r0 r1
    rw [a1]
    by_cases hq : q = g
    · subst hq; exact e2 r r0 r1
    · rw [(e1 q hq).1] at r1
      rw [(e1 q hq).2]; exact k q r q0 q1 r0 r1
  · unfold cNo at *; simp only [a6, b9, b10]; exact o
theorem cinv_swap {sv a b : Int} (h : CInv cnt X Y ln) : CInv cnt X (u3 (u3 Y 4 0 sv (some a)) 0 0 6 (some b)) ln := by
  have e : ∀ (k : Nat) (i j : Int), k ≠ 4 → k ≠ 0 → u3 (u3 Y 4 0 sv (some a)) 0 0 6 (some b) k i j = Y k i j := fun k i j hk h0 => by rw [u3_k _ _ _ _ h0, u3_k _ _ _ _ hk]
  obtain ⟨p1, p2, c, d, f, g, k, o⟩ := h
  refine ⟨?_, ?_, ⟨fun q q0 q1 => ?_, ?_, ?_⟩, ?_, ?_, ?_, k, ?_⟩
  · unfold cTh at *; simp only [e 2 _ _ (by decide) (by decide)]; exact p1
  · unfold cNt at *; simp only [e 30 _ _ (by decide) (by decide)]; exact p2
  · rw [u3_k _ _ _ _ (by first | exact Nat.ne_of_beq_eq_false rfl | decide)]
    by_cases hq : q = sv
    · rw [hq, u3_s]; exact fun q => by cases q
    · rw [u3_j _ _ _ _ hq]; exact c.1 q q0 q1
  · rw [u3_s]; exact fun q => by cases q
  · rw [u3_j _ _ _ _ (by decide), u3_k _ _ _ _ (by first | exact Nat.ne_of_beq_eq_false rfl | decide)]; exact c.2.2
  · unfold cTy at *; simp only [e 1 _ _ (by decide) (by decide)]; exact d
  · unfold cTt at *; simp only [e 15 _ _ (by decide) (by decide)]; exact f
  · unfold cCk at *; simp only [e 24 _ _ (by decide) (by decide)]; exact g
  · unfold cNo at *; simp only [e 28 _ _ (by decide) (by decide)]; exact o
/-- a type comes: its number is T -/
theorem cinv_type {T : Int} (h : CInv cnt X Y ln) (hT : T = X 0 0 1) (hc : cnt1 19 = T + 1) (hF : Frm [1901, 1902, 1907, 2000, 2100, 2200, 2300, 2] X X1) (hH : Frm [2400, 100] Y Y1) (e0 : X1 0 0 1 = T + 1) (e1 : ∀ i, i ≠ T → X1 19 i 0 = X 19 i 0 ∧ X1 19 i 6 = X 19 i 6 ∧ (∀ j, Y1 24 i j = Y 24 i j) ∧ Y1 1 0 i = Y 1 0 i) (e2 : X1 19 T 0 = T ∧ X1 19 T 6 = 0 ∧ Y1 1 0 T = some T) {ln1 : Int → Int} (hl : ln1 = ln) : CInv cnt1 X1 Y1 ln1 := by
  subst hl
  obtain ⟨a, b, c, d, e, f, g, k⟩ := h
  have a2 : X1 0 0 3 = X 0 0 3 := hF 0 0 3 (show 4 ∉ _ by decide)
  have a4 : ∀ i, X1 7 i 0 = X 7 i 0 := fun i => hF 7 i 0 (show 701 ∉ _ by decide)
  have a5 : ∀ i j, X1 8 i j = X 8 i j := fun i j => hF 8 i j (show 800 ∉ _ by decide)
  have a6 : ∀ i, X1 28 i 1 = X 28 i 1 := fun i => hF 28 i 1 (show 2802 ∉ _ by decide)
  have b1 : ∀ j, Y1 2 0 j = Y 2 0 j := fun j => hH 2 0 j (show 200 ∉ _ by decide)
  have b2 : ∀ j, Y1 30 0 j = Y 30 0 j := fun j => hH 30 0 j (show 3000 ∉ _ by decide)
  have b3 : ∀ j, Y1 4 0 j = Y 4 0 j := fun j => hH 4 0 j (show 400 ∉ _ by decide)
  have b4 : Y1 0 0 6 = Y 0 0 6 := hH 0 0 6 (show 7 ∉ _ by decide)
  have b5 : Y1 0 0 7 = Y 0 0 7 := hH 0 0 7 (show 8 ∉ _ by decide)
  have b7 : ∀ i, Y1 15 i 0 = Y 15 i 0 := fun i => hH 15 i 0 (show 1501 ∉ _ by decide)
  have b9 : ∀ i, Y1 28 i 0 = Y 28 i 0 := fun i => hH 28 i 0 (show 2801 ∉ _ by decide)
  have b10 : ∀ i, Y1 28 i 3 = Y 28 i 3 := fun i => hH 28 i 3 (show 2804 ∉ _ by decide)
  refine ⟨?_, ?_, ?_, ⟨by omega, fun t t0 t1 => ?_⟩, ?_, fun q j q0 q1 j0 j1 => ?_, fun q r q0 q1 r0 r1 => ?_, ?_⟩
  · unfold cTh at *; simp only [b1]; exact a
  · unfold cNt at *; simp only [b2]; exact b
  · unfold cSv at *; simp only [b3, b4, b5]; exact c
  · by_cases ht : t = T
    · rw [ht]; exact ⟨e2.2.2, e2.1⟩
    · rw [(e1 t ht).1, (e1 t ht).2.2.2]; exact d.2 t t0 (by omega)
  · unfold cTt at *; simp only [a2, b7]; exact e
  · by_cases ht : q = T
    · rw [ht, e2.2.1] at j1; omega
    · rw [(e1 q ht).2.1] at j1
      rw [(e1 q ht).2.2.1]; exact f q j q0 (by omega) j0 j1
  · rw [a4] at r1
    rw [a5]
    have := g q r q0 q1 r0 r1
    omega
  · unfold cNo at *; simp only [a6, b9, b10]; exact k
end CV
end
section
set_option maxHeartbeats 4000000 in
set_option maxRecDepth 100000 in
theorem c_X8_isBelow (l : Launch) (D : va_G) (tc : Nat → ClassId) (base : Nat) (ad : Nat → Int → Nat) (cnt : Nat → Int) (X : Nat → Int → Int → Int) (Y : Nat → Int → Int → Option Int) (ln : Int → Int) (a b : Int) (ha : -2147483648 ≤ a ∧ a ≤ 2147483647) (hb : -2147483648 ≤ b ∧ b ≤ 2147483647) : KI l D tc base yX8_isBelow wsX8_isBelow ({ frames := 0, cells := 0, slots := 0, locals := 0 } : Room) [.int (jI a), .int (jI b)] (ad, cnt, X, Y, ln) 0 0 (fun z u => u = (ad, cnt, X, Y, ln) ∧ ((z = 1 ∧ 0 ≤ a ∧ a < b) ∨ (z = 0 ∧ Hid (¬ (0 ≤ a ∧ a < b))))) := by
  refine K_of (cc := cX8_isBelow) (maxL := 2) (ret := (some .boolean)) (by decide) rfl (Nat.le_of_ble_eq_true rfl) ?_
  intro p e s m below meth c ls hx hb hr hml hown hts hlocks hl hK hw hS
  have hown : s.vm.findClass RX8 = some m.cls := hown
  obtain ⟨av9, hav9⟩ : ∃ a9 : Array Value, a9 = ([.int (jI a), .int (jI b)] : List Value).toArray := ⟨_, rfl⟩
  rw [← hav9] at hts ⊢
  obtain ⟨Q9, hQ9⟩ : ∃ q9Q : State → Prop, q9Q = MQ below (QI D tc base (fun z u => u = (ad, cnt, X, Y, ln) ∧ ((z = 1 ∧ 0 ≤ a ∧ a < b) ∨ (z = 0 ∧ Hid (¬ (0 ≤ a ∧ a < b)))))) av9 s 0 0 (frA base) := ⟨_, rfl⟩
  rw [← hQ9]
  have hl : lv_has ls 2 [(0, .int (jI a)), (1, .int (jI b))] := hl
  refine lv_iload_n hx hb dX8_isBelow_0 rfl (lv_at hl 0 rfl) ?_
  refine x_if_lt (tgt := 13) hx hb (by omega) dX8_isBelow_1 (by decide) (fun c1 => ?_) (fun c1 => ?_)
  · refine lv_iconst (v := jI 0) hx hb dX8_isBelow_13 rfl ?_
    rw [hQ9]
    refine ret_z (mc := 0) (ms := 0) hx hb hr hlocks hw hS (by first | exact Nat.le_of_ble_eq_true rfl | omega) (by first | exact Nat.le_of_ble_eq_true rfl | omega) dX8_isBelow_14 (by omega) ?_
    exact ⟨rfl, Or.inr ⟨rfl, (by first | omega | (intro q; first | omega | (simp only [Hid] at *; omega)))⟩⟩
  · refine lv_iload_n hx hb dX8_isBelow_4 rfl (lv_at hl 0 rfl) ?_
    refine lv_iload_n hx hb dX8_isBelow_5 rfl (lv_at hl 1 rfl) ?_
    refine x_icmp_ge (tgt := 13) hx hb (by omega) (by omega) dX8_isBelow_6 (by decide) (fun c2 => ?_) (fun c2 => ?_)
    · refine lv_iconst (v := jI 0) hx hb dX8_isBelow_13 rfl ?_
      rw [hQ9]
      refine ret_z (mc := 0) (ms := 0) hx hb hr hlocks hw hS (by first | exact Nat.le_of_ble_eq_true rfl | omega) (by first | exact Nat.le_of_ble_eq_true rfl | omega) dX8_isBelow_14 (by omega) ?_
      exact ⟨rfl, Or.inr ⟨rfl, (by first | omega | (intro q; first | omega | (simp only [Hid] at *; omega)))⟩⟩
    · refine lv_iconst (v := jI 1) hx hb dX8_isBelow_9 rfl ?_
      refine lv_goto (tgt := 14) hx hb dX8_isBelow_10 (by decide) ?_
      rw [hQ9]
      refine ret_z (mc := 0) (ms := 0) hx hb hr hlocks hw hS (by first | exact Nat.le_of_ble_eq_true rfl | omega) (by first | exact Nat.le_of_ble_eq_true rfl | omega) dX8_isBelow_14 (by omega) ?_
      exact ⟨rfl, Or.inl ⟨rfl, by omega⟩⟩

set_option maxHeartbeats 4000000 in
set_option maxRecDepth 100000 in
theorem c_X8_isRowLane (l : Launch) (D : va_G) (tc : Nat → ClassId) (base : Nat) (ad : Nat → Int → Nat) (cnt : Nat → Int) (X : Nat → Int → Int → Int) (Y : Nat → Int → Int → Option Int) (ln : Int → Int) (a : Int) (ha : -2147483648 ≤ a ∧ a ≤ 2147483647) : KI l D tc base yX8_isRowLane wsX8_isRowLane ({ frames := 0, cells := 0, slots := 0, locals := 0 } : Room) [.int (jI a)] (ad, cnt, X, Y, ln) 0 0 (fun z u => u = (ad, cnt, X, Y, ln) ∧ ((z = 1 ∧ 3 ≤ a) ∨ (z = 0 ∧ Hid (¬ (3 ≤ a))))) := by
  refine K_of (cc := cX8_isRowLane) (maxL := 1) (ret := (some .boolean)) (by decide) rfl (Nat.le_of_ble_eq_true rfl) ?_
  intro p e s m below meth c ls hx hb hr hml hown hts hlocks hl hK hw hS
  have hown : s.vm.findClass RX8 = some m.cls := hown
  obtain ⟨av9, hav9⟩ : ∃ a9 : Array Value, a9 = ([.int (jI a)] : List Value).toArray := ⟨_, rfl⟩
  rw [← hav9] at hts ⊢
  obtain ⟨Q9, hQ9⟩ : ∃ q9Q : State → Prop, q9Q = MQ below (QI D tc base (fun z u => u = (ad, cnt, X, Y, ln) ∧ ((z = 1 ∧ 3 ≤ a) ∨ (z = 0 ∧ Hid (¬ (3 ≤ a)))))) av9 s 0 0 (frA base) := ⟨_, rfl⟩
  rw [← hQ9]
  have hl : lv_has ls 1 [(0, .int (jI a))] := hl
  refine lv_iload_n hx hb dX8_isRowLane_0 rfl (lv_at hl 0 rfl) ?_
  refine lv_iconst (v := jI 3) hx hb dX8_isRowLane_1 rfl ?_
  refine x_icmp_lt (tgt := 9) hx hb (by omega) (by omega) dX8_isRowLane_2 (by decide) (fun c1 => ?_) (fun c1 => ?_)
  · refine lv_iconst (v := jI 0) hx hb dX8_isRowLane_9 rfl ?_
    rw [hQ9]
    refine ret_z (mc := 0) (ms := 0) hx hb hr hlocks hw hS (by first | exact Nat.le_of_ble_eq_true rfl | omega) (by first | exact Nat.le_of_ble_eq_true rfl | omega) dX8_isRowLane_10 (by omega) ?_
    exact ⟨rfl, Or.inr ⟨rfl, (by first | omega | (intro q; first | omega | (simp only [Hid] at *; omega)))⟩⟩
  · refine lv_iconst (v := jI 1) hx hb dX8_isRowLane_5 rfl ?_
    refine lv_goto (tgt := 10) hx hb dX8_isRowLane_6 (by decide) ?_
    rw [hQ9]
    refine ret_z (mc := 0) (ms := 0) hx hb hr hlocks hw hS (by first | exact Nat.le_of_ble_eq_true rfl | omega) (by first | exact Nat.le_of_ble_eq_true rfl | omega) dX8_isRowLane_10 (by omega) ?_
    exact ⟨rfl, Or.inl ⟨rfl, by omega⟩⟩

set_option maxHeartbeats 4000000 in
set_option maxRecDepth 100000 in
theorem c_X8_failed (l : Launch) (D : va_G) (tc : Nat → ClassId) (base : Nat) (ad : Nat → Int → Nat) (cnt : Nat → Int) (X : Nat → Int → Int → Int) (Y : Nat → Int → Int → Option Int) (ln : Int → Int) (a : Int) (ha : -100 ≤ a ∧ a ≤ 100) : KI l D tc base yX8_failed wsX8_failed ({ frames := 0, cells := 0, slots := 0, locals := 0 } : Room) [.int (jI a)] (ad, cnt, X, Y, ln) 0 0 (fun z u => u = (ad, cnt, X, Y, ln) ∧ z = -10 - a) := by
  refine K_of (cc := cX8_failed) (maxL := 1) (ret := (some .int)) (by decide) rfl (Nat.le_of_ble_eq_true rfl) ?_
  intro p e s m below meth c ls hx hb hr hml hown hts hlocks hl hK hw hS
  have hown : s.vm.findClass RX8 = some m.cls := hown
  obtain ⟨av9, hav9⟩ : ∃ a9 : Array Value, a9 = ([.int (jI a)] : List Value).toArray := ⟨_, rfl⟩
  rw [← hav9] at hts ⊢
  obtain ⟨Q9, hQ9⟩ : ∃ q9Q : State → Prop, q9Q = MQ below (QI D tc base (fun z u => u = (ad, cnt, X, Y, ln) ∧ z = -10 - a)) av9 s 0 0 (frA base) := ⟨_, rfl⟩
  rw [← hQ9]
  have hl : lv_has ls 1 [(0, .int (jI a))] := hl
  refine lv_bipush (v := jI (-10)) hx hb dX8_failed_0 (by decide) ?_
  refine lv_iload_n hx hb dX8_failed_2 rfl (lv_at hl 0 rfl) ?_
  refine x_isub hx hb dX8_failed_3 ?_
  rw [hQ9]
  refine ret_i (mc := 0) (ms := 0) hx hb hr hlocks hw hS (by first | exact Nat.le_of_ble_eq_true rfl | omega) (by first | exact Nat.le_of_ble_eq_true rfl | omega) dX8_failed_4 ?_
  exact ⟨rfl, rfl⟩

set_option maxHeartbeats 4000000 in
set_option maxRecDepth 100000 in
theorem c_X8_isWordInUse (l : Launch) (D : va_G) (tc : Nat → ClassId) (base : Nat) (ad : Nat → Int → Nat) (cnt : Nat → Int) (X : Nat → Int → Int → Int) (Y : Nat → Int → Int → Option Int) (ln : Int → Int) (hR : Rng X) (hFx : Fx cnt) (hLn : LnOK ln) (v : Int) (hv : -9223372036854775808 ≤ v ∧ v ≤ 9223372036854775807) : KI l D tc base yX8_isWordInUse wsX8_isWordInUse ({ frames := 0, cells := 0, slots := 0, locals := 0 } : Room) [.ref (ad 0 0), .long (jL v)] (ad, cnt, X, Y, ln) 0 0 (fun z u => u = (ad, cnt, X, Y, ln) ∧ ((z = 1 ∧ 0 ≤ v ∧ v < 16 ∧ X 3 0 v = 1) ∨ (z = 0 ∧ Hid (¬ (0 ≤ v ∧ v < 16 ∧ X 3 0 v = 1))))) := by
  refine K_of (cc := cX8_isWordInUse) (maxL := 3) (ret := (some .boolean)) (by decide) rfl (Nat.le_of_ble_eq_true rfl) ?_
  intro p e s m below meth c ls hx hb hr hml hown hts hlocks hl hK hw hS
  have hown : s.vm.findClass RX8 = some m.cls := hown
  obtain ⟨av9, hav9⟩ : ∃ a9 : Array Value, a9 = ([.ref (ad 0 0), .long (jL v)] : List Value).toArray := ⟨_, rfl⟩
  rw [← hav9] at hts ⊢
  obtain ⟨Q9, hQ9⟩ : ∃ q9Q : State → Prop, q9Q = MQ below (QI D tc base (fun z u => u = (ad, cnt, X, Y, ln) ∧ ((z = 1 ∧ 0 ≤ v ∧ v < 16 ∧ X 3 0 v = 1) ∨ (z = 0 ∧ Hid (¬ (0 ≤ v ∧ v < 16 ∧ X 3 0 v = 1)))))) av9 s 0 0 (frA base) := ⟨_, rfl⟩
  rw [← hQ9]
  have hi8 : ∀ w ∈ wsX80, w ∈ wsX8_isWordInUse := fun w h => List.mem_cons_of_mem _ (List.mem_append_right _ h)
  have hf8 : fctx s m _ RX8 wsX8_isWordInUse D tc RX8 TX8 12 8 := ⟨hts, hi8, hown, hK.1, rfl⟩
  have lk21 := hts (.fieldLink RX8 21 (TX8 4).1 (TX8 4).2.1 (TX8 4).2.2.1) (gj_X8_isWordInUse_0 _ (gp_1 gp_h))
  have hc0 : cnt 0 = 1 := hFx.at 0 1 (by decide)
  have hc3 : cnt 3 = 1 := hFx.at 3 1 (by decide)
  have hl : lv_has ls 3 [(0, .ref (ad 0 0)), (1, .long (jL v))] := hl
  refine lv_lload_n hx hb dX8_isWordInUse_0 rfl (lv_at hl 1 rfl) ?_
  refine lv_lconst (v := jL 0) hx hb dX8_isWordInUse_1 (by decide) ?_
  refine x_lcmp hx hb (by omega) (by omega) dX8_isWordInUse_2 ?_
  obtain ⟨z1, ez1⟩ : ∃ y : Int, y = cmpZ v 0 := ⟨_, rfl⟩
  rw [← ez1]
  have gz1 : (z1 < 0 ↔ (v : Int) < 0) ∧ (z1 = 0 ↔ (v : Int) = 0) ∧ -1 ≤ z1 ∧ z1 ≤ 1 := by rw [ez1]; exact ⟨cmpZ_lt, cmpZ_eq, (cmpZ_r _ _).1, (cmpZ_r _ _).2⟩
  clear ez1
  refine x_if_lt (tgt := 28) hx hb (by omega) dX8_isWordInUse_3 (by decide) (fun c2 => ?_) (fun c2 => ?_)
  · replace c2 := cz_ltT gz1 c2
    clear gz1
    refine lv_iconst (v := jI 0) hx hb dX8_isWordInUse_28 rfl ?_
    rw [hQ9]
    refine ret_z (mc := 0) (ms := 0) hx hb hr hlocks hw hS (by first | exact Nat.le_of_ble_eq_true rfl | omega) (by first | exact Nat.le_of_ble_eq_true rfl | omega) dX8_isWordInUse_29 (by omega) ?_
    exact ⟨rfl, Or.inr ⟨rfl, (by first | omega | (intro q; first | omega | (simp only [Hid] at *; omega)))⟩⟩
  · replace c2 := cz_ltF gz1 c2
    clear gz1
    refine lv_lload_n hx hb dX8_isWordInUse_6 rfl (lv_at hl 1 rfl) ?_
    refine lv_ldc2 (v := jL 16) hx hb hown (hts (.constantLong RX8 275 (16)) (by first | exact gj_X8_isWordInUse_0 _ (gp_h) | decide +kernel)) dX8_isWordInUse_7 ?_
    refine x_lcmp hx hb (by omega) (by omega) dX8_isWordInUse_10 ?_
    obtain ⟨z3, ez3⟩ : ∃ y : Int, y = cmpZ v 16 := ⟨_, rfl⟩
    rw [← ez3]
    have gz3 : (z3 < 0 ↔ (v : Int) < 16) ∧ (z3 = 0 ↔ (v : Int) = 16) ∧ -1 ≤ z3 ∧ z3 ≤ 1 := by rw [ez3]; exact ⟨cmpZ_lt, cmpZ_eq, (cmpZ_r _ _).1, (cmpZ_r _ _).2⟩
    clear ez3
    refine x_if_ge (tgt := 28) hx hb (by omega) dX8_isWordInUse_11 (by decide) (fun c4 => ?_) (fun c4 => ?_)
    · replace c4 := cz_geT gz3 c4
      clear gz3
      refine lv_iconst (v := jI 0) hx hb dX8_isWordInUse_28 rfl ?_
      rw [hQ9]
      refine ret_z (mc := 0) (ms := 0) hx hb hr hlocks hw hS (by first | exact Nat.le_of_ble_eq_true rfl | omega) (by first | exact Nat.le_of_ble_eq_true rfl | omega) dX8_isWordInUse_29 (by omega) ?_
      exact ⟨rfl, Or.inr ⟨rfl, (by first | omega | (intro q; first | omega | (simp only [Hid] at *; omega)))⟩⟩
    · replace c4 := cz_geF gz3 c4
      clear gz3
      refine lv_aload_n hx hb dX8_isWordInUse_14 rfl (lv_at hl 0 rfl) ?_
      refine x_geto hx hb hf8 hw (by first | exact Int.le_refl 0 | omega) (by first | exact zlt hc0 | omega) sl_0_4 lk21 dX8_isWordInUse_15 ?_
      refine lv_lload_n hx hb dX8_isWordInUse_18 rfl (lv_at hl 1 rfl) ?_
      refine x_l2i hx hb dX8_isWordInUse_19 ?_
      refine x_zald hx hb hK.1 hw (by first | exact Int.le_refl 0 | omega) (by first | exact zlt hc3 | omega) ar_3 (len_E ar_3 (by first | exact Nat.ne_of_beq_eq_false rfl | decide)) (by omega) (by omega) (by omega) dX8_isWordInUse_20 ?_
      have f5 : 0 ≤ X 3 0 v ∧ X 3 0 v ≤ 1 := hR 3 0 v
      refine x_if_eq (tgt := 28) hx hb (by omega) dX8_isWordInUse_21 (by decide) (fun c6 => ?_) (fun c6 => ?_)
      · refine lv_iconst (v := jI 0) hx hb dX8_isWordInUse_28 rfl ?_
        rw [hQ9]
        refine ret_z (mc := 0) (ms := 0) hx hb hr hlocks hw hS (by first | exact Nat.le_of_ble_eq_true rfl | omega) (by first | exact Nat.le_of_ble_eq_true rfl | omega) dX8_isWordInUse_29 (by omega) ?_
        exact ⟨rfl, Or.inr ⟨rfl, (by first | omega | (intro q; first | omega | (simp only [Hid] at *; omega)))⟩⟩
      · refine lv_iconst (v := jI 1) hx hb dX8_isWordInUse_24 rfl ?_
        refine lv_goto (tgt := 29) hx hb dX8_isWordInUse_25 (by decide) ?_
        rw [hQ9]
        refine ret_z (mc := 0) (ms := 0) hx hb hr hlocks hw hS (by first | exact Nat.le_of_ble_eq_true rfl | omega) (by first | exact Nat.le_of_ble_eq_true rfl | omega) dX8_isWordInUse_29 (by omega) ?_
        exact ⟨rfl, Or.inl ⟨rfl, by omega⟩⟩

set_option maxHeartbeats 4000000 in
set_option maxRecDepth 100000 in
theorem c_X7_hasField (l : Launch) (D : va_G) (tc : Nat → ClassId) (base : Nat) (ad : Nat → Int → Nat) (cnt : Nat → Int) (X : Nat → Int → Int → Int) (Y : Nat → Int → Int → Option Int) (ln : Int → Int) (hR : Rng X) (hFx : Fx cnt) (hLn : LnOK ln) (q k : Int) (hq : 0 ≤ q ∧ q < cnt 19) (hk : -2147483648 ≤ k ∧ k ≤ 2147483647) : KI l D tc base yX7_hasField wsX7_hasField ({ frames := 1, cells := 0, slots := 0, locals := 21 } : Room) [.ref (ad 19 q), .int (jI k)] (ad, cnt, X, Y, ln) 0 0 (fun z u => u = (ad, cnt, X, Y, ln) ∧ ((z = 1 ∧ 0 ≤ k ∧ k < X 19 q 1 ∧ k ≤ 4) ∨ (z = 0 ∧ Hid (¬ (0 ≤ k ∧ k < X 19 q 1))))) := by
  refine K_of (cc := cX7_hasField) (maxL := 2) (ret := (some .boolean)) (by decide) rfl (Nat.le_of_ble_eq_true rfl) ?_
  intro p e s m below meth c ls hx hb hr hml hown hts hlocks hl hK hw hS
  have hown : s.vm.findClass RX7 = some m.cls := hown
  obtain ⟨av9, hav9⟩ : ∃ a9 : Array Value, a9 = ([.ref (ad 19 q), .int (jI k)] : List Value).toArray := ⟨_, rfl⟩
  rw [← hav9] at hts ⊢
  obtain ⟨Q9, hQ9⟩ : ∃ q9Q : State → Prop, q9Q = MQ below (QI D tc base (fun z u => u = (ad, cnt, X, Y, ln) ∧ ((z = 1 ∧ 0 ≤ k ∧ k < X 19 q 1 ∧ k ≤ 4) ∨ (z = 0 ∧ Hid (¬ (0 ≤ k ∧ k < X 19 q 1)))))) av9 s 0 0 (frA base) := ⟨_, rfl⟩
  rw [← hQ9]
  have hi7 : ∀ w ∈ wsX70, w ∈ wsX7_hasField := fun w h => List.mem_cons_of_mem _ (List.mem_append_right _ h)
  have hf7 : fctx s m _ RX7 wsX7_hasField D tc RX7 TX7 8 7 := ⟨hts, hi7, hown, hK.1, rfl⟩
  have lk36 := hts (.fieldLink RX7 36 (TX7 1).1 (TX7 1).2.1 (TX7 1).2.2.1) (gj_X7_hasField_0 _ (gp_h))
  have hl : lv_has ls 2 [(0, .ref (ad 19 q)), (1, .int (jI k))] := hl
  have ffc : 0 ≤ X 19 q 1 ∧ X 19 q 1 ≤ 5 := hR 19 q 1
  refine lv_iload_n hx hb dX7_hasField_0 rfl (lv_at hl 1 rfl) ?_
  refine lv_aload_n hx hb dX7_hasField_1 rfl (lv_at hl 0 rfl) ?_
  refine x_geti (jz := 1) hx hb hf7 hw (by omega) (by omega) sl_19_1 rfl lk36 dX7_hasField_2 ?_
  have f1 : 0 ≤ X 19 q 1 ∧ X 19 q 1 ≤ 5 := hR 19 q 1
  refine gos_i (run_SN (As := [.int (jI k), .int (jI (X 19 q 1))]) (rest := []) (host := RX8) hx hb hml hown hts (c_X8_isBelow l D tc base ad cnt X Y ln k (X 19 q 1) (by omega) (by omega)) ⟨va_cnB 2 hts gX7_hasField_X8_isBelow_n39 rfl rfl rfl hK.2.1 (hts (.initialized RX8) (by first | exact gj_X7_hasField_0 _ (gp_1 (gp_1 gp_h)) | decide +kernel)) (by decide +kernel) ⟨Nat.le_of_ble_eq_true rfl, Nat.le_of_ble_eq_true rfl⟩, hts (.static yX8_isBelow) (by first | exact gj_X7_hasField_0 _ (gp_1 gp_h) | decide +kernel), trivial⟩ hK hw rfl hl.1 rfl (Nat.le_of_ble_eq_true rfl) dX7_hasField_5 ⟨Nat.le_of_ble_eq_true rfl, Nat.le_of_ble_eq_true rfl⟩) hS (fun z2 u3 H locs p4 hw hS => ?_)
  obtain ⟨eu3, p4⟩ := p4
  subst eu3
  rcases p4 with ⟨ez2, p4⟩ | ⟨ez2, p4⟩
  · subst ez2
    rw [hQ9]
    refine ret_z (mc := 0) (ms := 0) hx hb hr hlocks hw hS (by first | exact Nat.le_of_ble_eq_true rfl | omega) (by first | exact Nat.le_of_ble_eq_true rfl | omega) dX7_hasField_8 (by omega) ?_
    exact ⟨rfl, Or.inl ⟨rfl, by omega⟩⟩
  · subst ez2
    rw [hQ9]
    refine ret_z (mc := 0) (ms := 0) hx hb hr hlocks hw hS (by first | exact Nat.le_of_ble_eq_true rfl | omega) (by first | exact Nat.le_of_ble_eq_true rfl | omega) dX7_hasField_8 (by omega) ?_
    exact ⟨rfl, Or.inr ⟨rfl, (by first | omega | (intro q; first | omega | (simp only [Hid] at *; omega)))⟩⟩

set_option maxHeartbeats 4000000 in
set_option maxRecDepth 100000 in
theorem c_X7_hasLane (l : Launch) (D : va_G) (tc : Nat → ClassId) (base : Nat) (ad : Nat → Int → Nat) (cnt : Nat → Int) (X : Nat → Int → Int → Int) (Y : Nat → Int → Int → Option Int) (ln : Int → Int) (hR : Rng X) (hFx : Fx cnt) (hLn : LnOK ln) (q k lane : Int) (hq : 0 ≤ q ∧ q < cnt 19) (hk : -2147483648 ≤ k ∧ k ≤ 2147483647) (hlane : -2147483648 ≤ lane ∧ lane ≤ 2147483647) : KI l D tc base yX7_hasLane wsX7_hasLane ({ frames := 2, cells := 0, slots := 0, locals := 42 } : Room) [.ref (ad 19 q), .int (jI k), .int (jI lane)] (ad, cnt, X, Y, ln) 0 0 (fun z u => u = (ad, cnt, X, Y, ln) ∧ ((z = 1 ∧ 0 ≤ k ∧ k < X 19 q 1 ∧ k ≤ 4 ∧ X 21 q k = lane) ∨ (z = 0 ∧ Hid (¬ (0 ≤ k ∧ k < X 19 q 1 ∧ X 21 q k = lane))))) := by
  refine K_of (cc := cX7_hasLane) (maxL := 3) (ret := (some .boolean)) (by decide) rfl (Nat.le_of_ble_eq_true rfl) ?_
  intro p e s m below meth c ls hx hb hr hml hown hts hlocks hl hK hw hS
  have hown : s.vm.findClass RX7 = some m.cls := hown
  obtain ⟨av9, hav9⟩ : ∃ a9 : Array Value, a9 = ([.ref (ad 19 q), .int (jI k), .int (jI lane)] : List Value).toArray := ⟨_, rfl⟩
  rw [← hav9] at hts ⊢
  obtain ⟨Q9, hQ9⟩ : ∃ q9Q : State → Prop, q9Q = MQ below (QI D tc base (fun z u => u = (ad, cnt, X, Y, ln) ∧ ((z = 1 ∧ 0 ≤ k ∧ k < X 19 q 1 ∧ k ≤ 4 ∧ X 21 q k = lane) ∨ (z = 0 ∧ Hid (¬ (0 ≤ k ∧ k < X 19 q 1 ∧ X 21 q k = lane)))))) av9 s 0 0 (frA base) := ⟨_, rfl⟩
  rw [← hQ9]
  have hi7 : ∀ w ∈ wsX70, w ∈ wsX7_hasLane := fun w h => List.mem_cons_of_mem _ (List.mem_append_right _ h)
  have hf7 : fctx s m _ RX7 wsX7_hasLane D tc RX7 TX7 8 7 := ⟨hts, hi7, hown, hK.1, rfl⟩
  have lk15 := hts (.fieldLink RX7 15 (TX7 3).1 (TX7 3).2.1 (TX7 3).2.2.1) (gj_X7_hasLane_0 _ (gp_h))
  have hc21 : cnt 21 = cnt 19 := hFx.2.1 21 (by decide)
  have hl : lv_has ls 3 [(0, .ref (ad 19 q)), (1, .int (jI k)), (2, .int (jI lane))] := hl
  refine lv_aload_n hx hb dX7_hasLane_0 rfl (lv_at hl 0 rfl) ?_
  refine lv_iload_n hx hb dX7_hasLane_1 rfl (lv_at hl 1 rfl) ?_
  refine gos_i (run_V (As := [.int (jI k)]) (rest := []) hx hb hml hown hts (c_X7_hasField l D tc base ad cnt X Y ln hR hFx hLn q k (by omega) (by omega)) (cwV 1 hts gX7_hasLane_X7_hasField rfl rfl rfl (by first | exact hd_X7_hasField | decide +kernel) ⟨Nat.le_of_ble_eq_true rfl, Nat.le_of_ble_eq_true rfl⟩) hK hw (by first | exact Int.le_refl 0 | omega) (by first | exact zlt hc19 | omega) sl_19_0 rfl rfl hl.1 rfl (Nat.le_of_ble_eq_true rfl) dX7_hasLane_2 ⟨Nat.le_of_ble_eq_true rfl, Nat.le_of_ble_eq_true rfl⟩) hS (fun z1 u2 H locs p3 hw hS => ?_)
  obtain ⟨eu2, p3⟩ := p3
  subst eu2
  rcases p3 with ⟨ez1, p3⟩ | ⟨ez1, p3⟩
  · subst ez1
    refine x_if_eqF (tgt := 22) hx hb (by omega) (by decide) dX7_hasLane_5 (by decide) ?_
    refine lv_aload_n hx hb dX7_hasLane_8 rfl (lv_at hl 0 rfl) ?_
    refine x_geto hx hb hf7 hw (by omega) (by omega) sl_19_3 lk15 dX7_hasLane_9 ?_
    refine lv_iload_n hx hb dX7_hasLane_12 rfl (lv_at hl 1 rfl) ?_
    refine x_iald hx hb hK.1 hw (by omega) (by omega) ar_21 (len_E ar_21 (by first | exact Nat.ne_of_beq_eq_false rfl | decide)) (by omega) (by omega) (by omega) dX7_hasLane_13 ?_
    have f4 : 0 ≤ X 21 q k ∧ X 21 q k ≤ 5 := hR 21 q k
    refine lv_iload_n hx hb dX7_hasLane_14 rfl (lv_at hl 2 rfl) ?_
    refine x_icmp_ne (tgt := 22) hx hb (by omega) (by omega) dX7_hasLane_15 (by decide) (fun c5 => ?_) (fun c5 => ?_)
    · refine lv_iconst (v := jI 0) hx hb dX7_hasLane_22 rfl ?_
      rw [hQ9]
      refine ret_z (mc := 0) (ms := 0) hx hb hr hlocks hw hS (by first | exact Nat.le_of_ble_eq_true rfl | omega) (by first | exact Nat.le_of_ble_eq_true rfl | omega) dX7_hasLane_23 (by omega) ?_
      exact ⟨rfl, Or.inr ⟨rfl, (by first | omega | (intro q; first | omega | (simp only [Hid] at *; omega)))⟩⟩
    · refine lv_iconst (v := jI 1) hx hb dX7_hasLane_18 rfl ?_
      refine lv_goto (tgt := 23) hx hb dX7_hasLane_19 (by decide) ?_
      rw [hQ9]
      refine ret_z (mc := 0) (ms := 0) hx hb hr hlocks hw hS (by first | exact Nat.le_of_ble_eq_true rfl | omega) (by first | exact Nat.le_of_ble_eq_true rfl | omega) dX7_hasLane_23 (by omega) ?_
      exact ⟨rfl, Or.inl ⟨rfl, by omega⟩⟩
  · subst ez1
    refine x_if_eqT (tgt := 22) hx hb (by omega) (by decide) dX7_hasLane_5 (by decide) ?_
    refine lv_iconst (v := jI 0) hx hb dX7_hasLane_22 rfl ?_
    rw [hQ9]
    refine ret_z (mc := 0) (ms := 0) hx hb hr hlocks hw hS (by first | exact Nat.le_of_ble_eq_true rfl | omega) (by first | exact Nat.le_of_ble_eq_true rfl | omega) dX7_hasLane_23 (by omega) ?_
    exact ⟨rfl, Or.inr ⟨rfl, (by first | omega | (intro q; first | omega | (simp only [Hid] at *; omega)))⟩⟩

set_option maxHeartbeats 4000000 in
set_option maxRecDepth 100000 in
theorem c_X7_hasRowLane (l : Launch) (D : va_G) (tc : Nat → ClassId) (base : Nat) (ad : Nat → Int → Nat) (cnt : Nat → Int) (X : Nat → Int → Int → Int) (Y : Nat → Int → Int → Option Int) (ln : Int → Int) (hR : Rng X) (hFx : Fx cnt) (hLn : LnOK ln) (q k : Int) (hq : 0 ≤ q ∧ q < cnt 19) (hk : -2147483648 ≤ k ∧ k ≤ 2147483647) : KI l D tc base yX7_hasRowLane wsX7_hasRowLane ({ frames := 2, cells := 0, slots := 0, locals := 42 } : Room) [.ref (ad 19 q), .int (jI k)] (ad, cnt, X, Y, ln) 0 0 (fun z u => u = (ad, cnt, X, Y, ln) ∧ ((z = 1 ∧ 0 ≤ k ∧ k < X 19 q 1 ∧ k ≤ 4 ∧ 3 ≤ X 21 q k) ∨ (z = 0 ∧ Hid (¬ (0 ≤ k ∧ k < X 19 q 1 ∧ 3 ≤ X 21 q k))))) := by
  refine K_of (cc := cX7_hasRowLane) (maxL := 2) (ret := (some .boolean)) (by decide) rfl (Nat.le_of_ble_eq_true rfl) ?_
  intro p e s m below meth c ls hx hb hr hml hown hts hlocks hl hK hw hS
  have hown : s.vm.findClass RX7 = some m.cls := hown
  obtain ⟨av9, hav9⟩ : ∃ a9 : Array Value, a9 = ([.ref (ad 19 q), .int (jI k)] : List Value).toArray := ⟨_, rfl⟩
  rw [← hav9] at hts ⊢
  obtain ⟨Q9, hQ9⟩ : ∃ q9Q : State → Prop, q9Q = MQ below (QI D tc base (fun z u => u = (ad, cnt, X, Y, ln) ∧ ((z = 1 ∧ 0 ≤ k ∧ k < X 19 q 1 ∧ k ≤ 4 ∧ 3 ≤ X 21 q k) ∨ (z = 0 ∧ Hid (¬ (0 ≤ k ∧ k < X 19 q 1 ∧ 3 ≤ X 21 q k)))))) av9 s 0 0 (frA base) := ⟨_, rfl⟩
  rw [← hQ9]
  have hi7 : ∀ w ∈ wsX70, w ∈ wsX7_hasRowLane := fun w h => List.mem_cons_of_mem _ (List.mem_append_right _ h)
  have hf7 : fctx s m _ RX7 wsX7_hasRowLane D tc RX7 TX7 8 7 := ⟨hts, hi7, hown, hK.1, rfl⟩
  have lk15 := hts (.fieldLink RX7 15 (TX7 3).1 (TX7 3).2.1 (TX7 3).2.2.1) (gj_X7_hasRowLane_0 _ (gp_h))
  have hc21 : cnt 21 = cnt 19 := hFx.2.1 21 (by decide)
  have hl : lv_has ls 2 [(0, .ref (ad 19 q)), (1, .int (jI k))] := hl
  refine lv_aload_n hx hb dX7_hasRowLane_0 rfl (lv_at hl 0 rfl) ?_
  refine lv_iload_n hx hb dX7_hasRowLane_1 rfl (lv_at hl 1 rfl) ?_
  refine gos_i (run_V (As := [.int (jI k)]) (rest := []) hx hb hml hown hts (c_X7_hasField l D tc base ad cnt X Y ln hR hFx hLn q k (by omega) (by omega)) (cwV 1 hts gX7_hasRowLane_X7_hasField rfl rfl rfl (by first | exact hd_X7_hasField | decide +kernel) ⟨Nat.le_of_ble_eq_true rfl, Nat.le_of_ble_eq_true rfl⟩) hK hw (by first | exact Int.le_refl 0 | omega) (by first | exact zlt hc19 | omega) sl_19_0 rfl rfl hl.1 rfl (Nat.le_of_ble_eq_true rfl) dX7_hasRowLane_2 ⟨Nat.le_of_ble_eq_true rfl, Nat.le_of_ble_eq_true rfl⟩) hS (fun z1 u2 H locs p3 hw hS => ?_)
  obtain ⟨eu2, p3⟩ := p3
  subst eu2
  rcases p3 with ⟨ez1, p3⟩ | ⟨ez1, p3⟩
  · subst ez1
    refine x_if_eqF (tgt := 24) hx hb (by omega) (by decide) dX7_hasRowLane_5 (by decide) ?_
    refine lv_aload_n hx hb dX7_hasRowLane_8 rfl (lv_at hl 0 rfl) ?_
    refine x_geto hx hb hf7 hw (by omega) (by omega) sl_19_3 lk15 dX7_hasRowLane_9 ?_
    refine lv_iload_n hx hb dX7_hasRowLane_12 rfl (lv_at hl 1 rfl) ?_
    refine x_iald hx hb hK.1 hw (by omega) (by omega) ar_21 (len_E ar_21 (by first | exact Nat.ne_of_beq_eq_false rfl | decide)) (by omega) (by omega) (by omega) dX7_hasRowLane_13 ?_
    have f4 : 0 ≤ X 21 q k ∧ X 21 q k ≤ 5 := hR 21 q k
    refine gos_i (run_SN (As := [.int (jI (X 21 q k))]) (rest := []) (host := RX8) hx hb hml hown hts (c_X8_isRowLane l D tc base ad cnt X Y ln (X 21 q k) (by omega)) ⟨va_cnB 1 hts gX7_hasRowLane_X8_isRowLane_n47 rfl rfl rfl hK.2.2.1 (hts (.initialized RX8) (by first | exact gj_X7_hasRowLane_0 _ (gp_4 (gp_4 gp_h)) | decide +kernel)) (by decide +kernel) ⟨Nat.le_of_ble_eq_true rfl, Nat.le_of_ble_eq_true rfl⟩, hts (.static yX8_isRowLane) (by first | exact gj_X7_hasRowLane_0 _ (gp_4 (gp_4 (gp_1 (gp_1 gp_h)))) | decide +kernel), trivial⟩ hK hw rfl hl.1 rfl (Nat.le_of_ble_eq_true rfl) dX7_hasRowLane_14 ⟨Nat.le_of_ble_eq_true rfl, Nat.le_of_ble_eq_true rfl⟩) hS (fun z5 u6 H locs p7 hw hS => ?_)
    obtain ⟨eu6, p7⟩ := p7
    subst eu6
    rcases p7 with ⟨ez5, p7⟩ | ⟨ez5, p7⟩
    · subst ez5
      refine x_if_eqF (tgt := 24) hx hb (by omega) (by decide) dX7_hasRowLane_17 (by decide) ?_
      refine lv_iconst (v := jI 1) hx hb dX7_hasRowLane_20 rfl ?_
      refine lv_goto (tgt := 25) hx hb dX7_hasRowLane_21 (by decide) ?_
      rw [hQ9]
      refine ret_z (mc := 0) (ms := 0) hx hb hr hlocks hw hS (by first | exact Nat.le_of_ble_eq_true rfl | omega) (by first | exact Nat.le_of_ble_eq_true rfl | omega) dX7_hasRowLane_25 (by omega) ?_
      exact ⟨rfl, Or.inl ⟨rfl, by omega⟩⟩
    · subst ez5
      refine x_if_eqT (tgt := 24) hx hb (by omega) (by decide) dX7_hasRowLane_17 (by decide) ?_
      refine lv_iconst (v := jI 0) hx hb dX7_hasRowLane_24 rfl ?_
      rw [hQ9]
      refine ret_z (mc := 0) (ms := 0) hx hb hr hlocks hw hS (by first | exact Nat.le_of_ble_eq_true rfl | omega) (by first | exact Nat.le_of_ble_eq_true rfl | omega) dX7_hasRowLane_25 (by omega) ?_
      exact ⟨rfl, Or.inr ⟨rfl, (by first | omega | (intro q; first | omega | (simp only [Hid] at *; omega)))⟩⟩
  · subst ez1
    refine x_if_eqT (tgt := 24) hx hb (by omega) (by decide) dX7_hasRowLane_5 (by decide) ?_
    refine lv_iconst (v := jI 0) hx hb dX7_hasRowLane_24 rfl ?_
    rw [hQ9]
    refine ret_z (mc := 0) (ms := 0) hx hb hr hlocks hw hS (by first | exact Nat.le_of_ble_eq_true rfl | omega) (by first | exact Nat.le_of_ble_eq_true rfl | omega) dX7_hasRowLane_25 (by omega) ?_
    exact ⟨rfl, Or.inr ⟨rfl, (by first | omega | (intro q; first | omega | (simp only [Hid] at *; omega)))⟩⟩

set_option maxHeartbeats 4000000 in
set_option maxRecDepth 100000 in
theorem c_X7_fieldNamed (l : Launch) (D : va_G) (tc : Nat → ClassId) (base : Nat) (ad : Nat → Int → Nat) (cnt : Nat → Int) (X : Nat → Int → Int → Int) (Y : Nat → Int → Int → Option Int) (ln : Int → Int) (hR : Rng X) (hFx : Fx cnt) (hLn : LnOK ln) (q name : Int) (hq : 0 ≤ q ∧ q < cnt 19) (hname : -2147483648 ≤ name ∧ name ≤ 2147483647) : KI l D tc base yX7_fieldNamed wsX7_fieldNamed ({ frames := 0, cells := 0, slots := 0, locals := 0 } : Room) [.ref (ad 19 q), .int (jI name)] (ad, cnt, X, Y, ln) 0 0 (fun z u => u = (ad, cnt, X, Y, ln) ∧ -1 ≤ z ∧ z < X 19 q 1 ∧ z ≤ 4 ∧ z = nmAt (X 20 q) name (X 19 q 1).toNat) := by
  refine K_of (cc := cX7_fieldNamed) (maxL := 3) (ret := (some .int)) (by decide) rfl (Nat.le_of_ble_eq_true rfl) ?_
  intro p e s m below meth c ls hx hb hr hml hown hts hlocks hl hK hw hS
  have hown : s.vm.findClass RX7 = some m.cls := hown
  obtain ⟨av9, hav9⟩ : ∃ a9 : Array Value, a9 = ([.ref (ad 19 q), .int (jI name)] : List Value).toArray := ⟨_, rfl⟩
  rw [← hav9] at hts ⊢
  obtain ⟨Q9, hQ9⟩ : ∃ q9Q : State → Prop, q9Q = MQ below (QI D tc base (fun z u => u = (ad, cnt, X, Y, ln) ∧ -1 ≤ z ∧ z < X 19 q 1 ∧ z ≤ 4 ∧ z = nmAt (X 20 q) name (X 19 q 1).toNat)) av9 s 0 0 (frA base) := ⟨_, rfl⟩
  rw [← hQ9]
  have hi7 : ∀ w ∈ wsX70, w ∈ wsX7_fieldNamed := fun w h => List.mem_cons_of_mem _ (List.mem_append_right _ h)
  have hf7 : fctx s m _ RX7 wsX7_fieldNamed D tc RX7 TX7 8 7 := ⟨hts, hi7, hown, hK.1, rfl⟩
  have lk9 := hts (.fieldLink RX7 9 (TX7 2).1 (TX7 2).2.1 (TX7 2).2.2.1) (gj_X7_fieldNamed_0 _ (gp_1 gp_h))
  have lk36 := hts (.fieldLink RX7 36 (TX7 1).1 (TX7 1).2.1 (TX7 1).2.2.1) (gj_X7_fieldNamed_0 _ (gp_h))
  have hc20 : cnt 20 = cnt 19 := hFx.2.1 20 (by decide)
  have hl : lv_has ls 3 [(0, .ref (ad 19 q)), (1, .int (jI name))] := hl
  refine lv_iconst (v := jI 0) hx hb dX7_fieldNamed_0 rfl ?_
  refine lv_istore_n (lv' := [(2, .int (jI 0)), (0, .ref (ad 19 q)), (1, .int (jI name))]) hx hb dX7_fieldNamed_1 rfl hl (by decide) rfl (fun ls hl => ?_)
  have lp2 : ∀ (nn : Nat) (k : Int) (H : Heap) (locs : List Loc) (ls : Array Slot), (5 - k) < (nn : Int) → (0 ≤ k ∧ k ≤ 5) → (∀ j, 0 ≤ j → j < k → X 20 q j ≠ name) → wd D tc base (ad, cnt, X, Y, ln) H → va_S (frA base) s.heap H locs → lv_has ls 3 [(0, .ref (ad 19 q)), (1, .int (jI name)), (2, .int (jI k))] → W p l e ({ frames := 0, cells := 0, slots := 0, locals := 0 } : Room) s m av9 below meth c H locs 0 0 Q9 (F0 m 2 ls []) := by
    intro nn
    induction nn with
    | zero => intro k H locs ls hm hk hnn hw hS hl; exfalso; omega
    | succ nn ih2 =>
      intro k H locs ls hm hk hnn hw hS hl
      refine lv_iload_n hx hb dX7_fieldNamed_2 rfl (lv_at hl 2 rfl) ?_
      refine lv_aload_n hx hb dX7_fieldNamed_3 rfl (lv_at hl 0 rfl) ?_
      refine x_geti (jz := 1) hx hb hf7 hw (by omega) (by omega) sl_19_1 rfl lk36 dX7_fieldNamed_4 ?_
      have f1 : 0 ≤ X 19 q 1 ∧ X 19 q 1 ≤ 5 := hR 19 q 1
      refine x_icmp_ge (tgt := 28) hx hb (by omega) (by omega) dX7_fieldNamed_7 (by decide) (fun c2 => ?_) (fun c2 => ?_)
      · refine lv_iconst (v := jI (-1)) hx hb dX7_fieldNamed_28 rfl ?_
        rw [hQ9]
        refine ret_i (mc := 0) (ms := 0) hx hb hr hlocks hw hS (by first | exact Nat.le_of_ble_eq_true rfl | omega) (by first | exact Nat.le_of_ble_eq_true rfl | omega) dX7_fieldNamed_29 ?_
        exact ⟨rfl, by omega, by omega, by omega, (nmAt_no (fun j a b => hnn j a (by omega)) (by omega)).symm⟩
      · refine lv_aload_n hx hb dX7_fieldNamed_10 rfl (lv_at hl 0 rfl) ?_
        refine x_geto hx hb hf7 hw (by omega) (by omega) sl_19_2 lk9 dX7_fieldNamed_11 ?_
        refine lv_iload_n hx hb dX7_fieldNamed_14 rfl (lv_at hl 2 rfl) ?_
        refine x_iald hx hb hK.1 hw (by omega) (by omega) ar_20 (len_E ar_20 (by first | exact Nat.ne_of_beq_eq_false rfl | decide)) (by omega) (by omega) (by omega) dX7_fieldNamed_15 ?_
        have f3 : 0 ≤ X 20 q k ∧ X 20 q k ≤ 19 := hR 20 q k
        refine lv_iload_n hx hb dX7_fieldNamed_16 rfl (lv_at hl 1 rfl) ?_
        refine x_icmp_ne (tgt := 22) hx hb (by omega) (by omega) dX7_fieldNamed_17 (by decide) (fun c4 => ?_) (fun c4 => ?_)
        · refine lv_iinc (v := jI (k + 1)) (lv' := [(2, .int (jI (k + 1))), (0, .ref (ad 19 q)), (1, .int (jI name))]) hx hb dX7_fieldNamed_22 hl (k := 2) rfl (jI_add _ _) (by decide) rfl (fun ls hl => ?_)
          refine lv_goto (tgt := 2) hx hb dX7_fieldNamed_25 (by decide) ?_
          exact ih2 (k + 1) _ _ _ (by omega) (by omega) (fun j a b => if hj : j = k then (by rw [hj]; omega) else hnn j a (by omega)) hw hS (lv_sub hl [1, 2, 0] rfl)
        · refine lv_iload_n hx hb dX7_fieldNamed_20 rfl (lv_at hl 2 rfl) ?_
          rw [hQ9]
          refine ret_i (mc := 0) (ms := 0) hx hb hr hlocks hw hS (by first | exact Nat.le_of_ble_eq_true rfl | omega) (by first | exact Nat.le_of_ble_eq_true rfl | omega) dX7_fieldNamed_21 ?_
          exact ⟨rfl, by omega, by omega, by omega, (nmAt_yes hnn (by omega) (by omega)).symm⟩
  exact lp2 (5 - 0 : Int).toNat.succ 0 _ _ _ (by omega) (by omega) (fun j a b => by omega) hw hS (lv_sub hl [1, 2, 0] rfl)

set_option maxHeartbeats 4000000 in
set_option maxRecDepth 100000 in
theorem c_X8_typeNumbered (l : Launch) (D : va_G) (tc : Nat → ClassId) (base : Nat) (ad : Nat → Int → Nat) (cnt : Nat → Int) (X : Nat → Int → Int → Int) (Y : Nat → Int → Int → Option Int) (ln : Int → Int) (hR : Rng X) (hFx : Fx cnt) (hLn : LnOK ln) (hCI : CInv cnt X Y ln) (t : Int) (ht : -2147483648 ≤ t ∧ t ≤ 2147483647) : KR l D tc base 19 yX8_typeNumbered wsX8_typeNumbered ({ frames := 1, cells := 0, slots := 0, locals := 21 } : Room) [.ref (ad 0 0), .int (jI t)] (ad, cnt, X, Y, ln) 0 0 (fun o u => u = (ad, cnt, X, Y, ln) ∧ (∀ q, o = some q → q = t ∧ 0 ≤ t ∧ t < X 0 0 1 ∧ t ≤ 7 ∧ t < cnt 19) ∧ (o = none → Hid (¬ (0 ≤ t ∧ t < X 0 0 1)))) := by
  refine K_of (cc := cX8_typeNumbered) (maxL := 2) (ret := (some (.object "StateRecords$Type"))) (by decide) rfl (Nat.le_of_ble_eq_true rfl) ?_
  intro p e s m below meth c ls hx hb hr hml hown hts hlocks hl hK hw hS
  have hown : s.vm.findClass RX8 = some m.cls := hown
  obtain ⟨av9, hav9⟩ : ∃ a9 : Array Value, a9 = ([.ref (ad 0 0), .int (jI t)] : List Value).toArray := ⟨_, rfl⟩
  rw [← hav9] at hts ⊢
  obtain ⟨Q9, hQ9⟩ : ∃ q9Q : State → Prop, q9Q = MQ below (QR D tc base 19 (fun o u => u = (ad, cnt, X, Y, ln) ∧ (∀ q, o = some q → q = t ∧ 0 ≤ t ∧ t < X 0 0 1 ∧ t ≤ 7 ∧ t < cnt 19) ∧ (o = none → Hid (¬ (0 ≤ t ∧ t < X 0 0 1))))) av9 s 0 0 (frA base) := ⟨_, rfl⟩
  rw [← hQ9]
  have hi8 : ∀ w ∈ wsX80, w ∈ wsX8_typeNumbered := fun w h => List.mem_cons_of_mem _ (List.mem_append_right _ h)
  have hf8 : fctx s m _ RX8 wsX8_typeNumbered D tc RX8 TX8 12 8 := ⟨hts, hi8, hown, hK.1, rfl⟩
  have lk11 := hts (.fieldLink RX8 11 (TX8 0).1 (TX8 0).2.1 (TX8 0).2.2.1) (gj_X8_typeNumbered_0 _ (gp_1 gp_h))
  have lk63 := hts (.fieldLink RX8 63 (TX8 1).1 (TX8 1).2.1 (TX8 1).2.2.1) (gj_X8_typeNumbered_0 _ (gp_h))
  have hc0 : cnt 0 = 1 := hFx.at 0 1 (by decide)
  have hc1 : cnt 1 = 1 := hFx.at 1 1 (by decide)
  have hl : lv_has ls 2 [(0, .ref (ad 0 0)), (1, .int (jI t))] := hl
  have hct : cnt 19 = X 0 0 1 := hCI.2.2.2.1.1
  have ftc : 0 ≤ X 0 0 1 ∧ X 0 0 1 ≤ 8 := hR 0 0 1
  refine lv_iload_n hx hb dX8_typeNumbered_0 rfl (lv_at hl 1 rfl) ?_
  refine lv_aload_n hx hb dX8_typeNumbered_1 rfl (lv_at hl 0 rfl) ?_
  refine x_geti (jz := 1) hx hb hf8 hw (by first | exact Int.le_refl 0 | omega) (by first | exact zlt hc0 | omega) sl_0_1 rfl lk63 dX8_typeNumbered_2 ?_
  have f1 : 0 ≤ X 0 0 1 ∧ X 0 0 1 ≤ 8 := hR 0 0 1
  refine gos_i (run_S (As := [.int (jI t), .int (jI (X 0 0 1))]) (rest := []) hx hb hml hown hts (c_X8_isBelow l D tc base ad cnt X Y ln t (X 0 0 1) (by omega) (by omega)) (cwS 2 hts gX8_typeNumbered_X8_isBelow rfl rfl rfl (by first | exact hd_X8_isBelow | decide +kernel) ⟨Nat.le_of_ble_eq_true rfl, Nat.le_of_ble_eq_true rfl⟩) hK hw rfl hl.1 rfl (Nat.le_of_ble_eq_true rfl) dX8_typeNumbered_5 ⟨Nat.le_of_ble_eq_true rfl, Nat.le_of_ble_eq_true rfl⟩) hS (fun z2 u3 H locs p4 hw hS => ?_)
  obtain ⟨eu3, p4⟩ := p4
  subst eu3
  rcases p4 with ⟨ez2, p4⟩ | ⟨ez2, p4⟩
  · subst ez2
    refine x_if_eqF (tgt := 20) hx hb (by omega) (by decide) dX8_typeNumbered_8 (by decide) ?_
    refine lv_aload_n hx hb dX8_typeNumbered_11 rfl (lv_at hl 0 rfl) ?_
    refine x_geto hx hb hf8 hw (by first | exact Int.le_refl 0 | omega) (by first | exact zlt hc0 | omega) sl_0_0 lk11 dX8_typeNumbered_12 ?_
    refine lv_iload_n hx hb dX8_typeNumbered_15 rfl (lv_at hl 1 rfl) ?_
    refine x_aald hx hb hK.1 hw (by first | exact Int.le_refl 0 | omega) (by first | exact zlt hc1 | omega) ar_1 rfl (len_E ar_1 (by first | exact Nat.ne_of_beq_eq_false rfl | decide)) (by omega) (by omega) (by omega) dX8_typeNumbered_16 (fun y5 => ?_) (fun r6 y5 gr6 lr6 => ?_)
    · exfalso
      have h9 := (hCI.2.2.2.1.2 t (by omega) (by omega)).1; rw [h9] at y5; cases y5
    · have er6 : r6 = t := by have h9 := (hCI.2.2.2.1.2 t (by omega) (by omega)).1; rw [h9] at y5; cases y5; rfl
      rw [er6]
      refine lv_goto (tgt := 21) hx hb dX8_typeNumbered_17 (by decide) ?_
      rw [hQ9]
      refine ret_r (mc := 0) (ms := 0) (k := 19) (i := t) hx hb hr hlocks hw hS (by first | exact Nat.le_of_ble_eq_true rfl | omega) (by first | exact Nat.le_of_ble_eq_true rfl | omega) dX8_typeNumbered_21 ?_
      exact ⟨rfl, fun q e => by cases e; exact ⟨by omega, by omega, by omega, by omega, by omega⟩, fun e => by cases e⟩
  · subst ez2
    refine x_if_eqT (tgt := 20) hx hb (by omega) (by decide) dX8_typeNumbered_8 (by decide) ?_
    refine lv_null hx hb dX8_typeNumbered_20 ?_
    rw [hQ9]
    refine ret_n (mc := 0) (ms := 0) hx hb hr hlocks hw hS (by first | exact Nat.le_of_ble_eq_true rfl | omega) (by first | exact Nat.le_of_ble_eq_true rfl | omega) dX8_typeNumbered_21 ?_
    exact ⟨rfl, fun q e => (by cases e), fun _ q => by simp only [Hid] at *; omega⟩

set_option maxHeartbeats 4000000 in
set_option maxRecDepth 100000 in
theorem c_X8_thingNumbered (l : Launch) (D : va_G) (tc : Nat → ClassId) (base : Nat) (ad : Nat → Int → Nat) (cnt : Nat → Int) (X : Nat → Int → Int → Int) (Y : Nat → Int → Int → Option Int) (ln : Int → Int) (hR : Rng X) (hFx : Fx cnt) (hLn : LnOK ln) (hCI : CInv cnt X Y ln) (x : Int) (hx : -9223372036854775808 ≤ x ∧ x ≤ 9223372036854775807) : KR l D tc base 15 yX8_thingNumbered wsX8_thingNumbered ({ frames := 0, cells := 0, slots := 0, locals := 0 } : Room) [.ref (ad 0 0), .long (jL x)] (ad, cnt, X, Y, ln) 0 0 (fun o u => u = (ad, cnt, X, Y, ln) ∧ (∀ q, o = some q → q = x ∧ 0 ≤ x ∧ x < X 0 0 3 ∧ x ≤ 29) ∧ (o = none → Hid (¬ (0 ≤ x ∧ x < X 0 0 3)))) := by
  refine K_of (cc := cX8_thingNumbered) (maxL := 3) (ret := (some (.object "StateRecords$Thing"))) (by decide) rfl (Nat.le_of_ble_eq_true rfl) ?_
  intro p e s m below meth c ls hx hb hr hml hown hts hlocks hl hK hw hS
  have hown : s.vm.findClass RX8 = some m.cls := hown
  obtain ⟨av9, hav9⟩ : ∃ a9 : Array Value, a9 = ([.ref (ad 0 0), .long (jL x)] : List Value).toArray := ⟨_, rfl⟩
  rw [← hav9] at hts ⊢
  obtain ⟨Q9, hQ9⟩ : ∃ q9Q : State → Prop, q9Q = MQ below (QR D tc base 15 (fun o u => u = (ad, cnt, X, Y, ln) ∧ (∀ q, o = some q → q = x ∧ 0 ≤ x ∧ x < X 0 0 3 ∧ x ≤ 29) ∧ (o = none → Hid (¬ (0 ≤ x ∧ x < X 0 0 3))))) av9 s 0 0 (frA base) := ⟨_, rfl⟩
  rw [← hQ9]
  have hi8 : ∀ w ∈ wsX80, w ∈ wsX8_thingNumbered := fun w h => List.mem_cons_of_mem _ (List.mem_append_right _ h)
  have hf8 : fctx s m _ RX8 wsX8_thingNumbered D tc RX8 TX8 12 8 := ⟨hts, hi8, hown, hK.1, rfl⟩
  have lk17 := hts (.fieldLink RX8 17 (TX8 2).1 (TX8 2).2.1 (TX8 2).2.2.1) (gj_X8_thingNumbered_0 _ (gp_1 gp_h))
  have lk94 := hts (.fieldLink RX8 94 (TX8 3).1 (TX8 3).2.1 (TX8 3).2.2.1) (gj_X8_thingNumbered_0 _ (gp_h))
  have hc0 : cnt 0 = 1 := hFx.at 0 1 (by decide)
  have hc2 : cnt 2 = 1 := hFx.at 2 1 (by decide)
  have hc15 : cnt 15 = 30 := hFx.at 15 30 (by decide)
  have hl : lv_has ls 3 [(0, .ref (ad 0 0)), (1, .long (jL x))] := hl
  have ftc : 0 ≤ X 0 0 3 ∧ X 0 0 3 ≤ 30 := hR 0 0 3
  refine lv_lload_n hx hb dX8_thingNumbered_0 rfl (lv_at hl 1 rfl) ?_
  refine lv_lconst (v := jL 0) hx hb dX8_thingNumbered_1 (by decide) ?_
  refine x_lcmp hx hb (by omega) (by omega) dX8_thingNumbered_2 ?_
  obtain ⟨z1, ez1⟩ : ∃ y : Int, y = cmpZ x 0 := ⟨_, rfl⟩
  rw [← ez1]
  have gz1 : (z1 < 0 ↔ (x : Int) < 0) ∧ (z1 = 0 ↔ (x : Int) = 0) ∧ -1 ≤ z1 ∧ z1 ≤ 1 := by rw [ez1]; exact ⟨cmpZ_lt, cmpZ_eq, (cmpZ_r _ _).1, (cmpZ_r _ _).2⟩
  clear ez1
  refine x_if_lt (tgt := 26) hx hb (by omega) dX8_thingNumbered_3 (by decide) (fun c2 => ?_) (fun c2 => ?_)
  · replace c2 := cz_ltT gz1 c2
    clear gz1
    refine lv_null hx hb dX8_thingNumbered_26 ?_
    rw [hQ9]
    refine ret_n (mc := 0) (ms := 0) hx hb hr hlocks hw hS (by first | exact Nat.le_of_ble_eq_true rfl | omega) (by first | exact Nat.le_of_ble_eq_true rfl | omega) dX8_thingNumbered_27 ?_
    exact ⟨rfl, fun q e => (by cases e), fun _ q => by omega⟩
  · replace c2 := cz_ltF gz1 c2
    clear gz1
    refine lv_lload_n hx hb dX8_thingNumbered_6 rfl (lv_at hl 1 rfl) ?_
    refine lv_aload_n hx hb dX8_thingNumbered_7 rfl (lv_at hl 0 rfl) ?_
    refine x_geti (jz := 3) hx hb hf8 hw (by first | exact Int.le_refl 0 | omega) (by first | exact zlt hc0 | omega) sl_0_3 rfl lk94 dX8_thingNumbered_8 ?_
    have f3 : 0 ≤ X 0 0 3 ∧ X 0 0 3 ≤ 30 := hR 0 0 3
    refine x_i2l hx hb (by omega) dX8_thingNumbered_11 ?_
    refine x_lcmp hx hb (by omega) (by omega) dX8_thingNumbered_12 ?_
    obtain ⟨z4, ez4⟩ : ∃ y : Int, y = cmpZ x (X 0 0 3) := ⟨_, rfl⟩
    rw [← ez4]
    have gz4 : (z4 < 0 ↔ (x : Int) < (X 0 0 3)) ∧ (z4 = 0 ↔ (x : Int) = (X 0 0 3)) ∧ -1 ≤ z4 ∧ z4 ≤ 1 := by rw [ez4]; exact ⟨cmpZ_lt, cmpZ_eq, (cmpZ_r _ _).1, (cmpZ_r _ _).2⟩
    clear ez4
    refine x_if_ge (tgt := 26) hx hb (by omega) dX8_thingNumbered_13 (by decide) (fun c5 => ?_) (fun c5 => ?_)
    · replace c5 := cz_geT gz4 c5
      clear gz4
      refine lv_null hx hb dX8_thingNumbered_26 ?_
      rw [hQ9]
      refine ret_n (mc := 0) (ms := 0) hx hb hr hlocks hw hS (by first | exact Nat.le_of_ble_eq_true rfl | omega) (by first | exact Nat.le_of_ble_eq_true rfl | omega) dX8_thingNumbered_27 ?_
      exact ⟨rfl, fun q e => (by cases e), fun _ q => by omega⟩
    · replace c5 := cz_geF gz4 c5
      clear gz4
      refine lv_aload_n hx hb dX8_thingNumbered_16 rfl (lv_at hl 0 rfl) ?_
      refine x_geto hx hb hf8 hw (by first | exact Int.le_refl 0 | omega) (by first | exact zlt hc0 | omega) sl_0_2 lk17 dX8_thingNumbered_17 ?_
      refine lv_lload_n hx hb dX8_thingNumbered_20 rfl (lv_at hl 1 rfl) ?_
      refine x_l2i hx hb dX8_thingNumbered_21 ?_
      refine x_aald hx hb hK.1 hw (by first | exact Int.le_refl 0 | omega) (by first | exact zlt hc2 | omega) ar_2 rfl (len_E ar_2 (by first | exact Nat.ne_of_beq_eq_false rfl | decide)) (by omega) (by omega) (by omega) dX8_thingNumbered_22 (fun y6 => ?_) (fun r7 y6 gr7 lr7 => ?_)
      · exfalso
        have h9 := hCI.1 x (by omega) (by omega); rw [h9] at y6; cases y6
      · have er7 : r7 = x := by have h9 := hCI.1 x (by omega) (by omega); rw [h9] at y6; cases y6; rfl
        rw [er7]
        refine lv_goto (tgt := 27) hx hb dX8_thingNumbered_23 (by decide) ?_
        rw [hQ9]
        refine ret_r (mc := 0) (ms := 0) (k := 15) (i := x) hx hb hr hlocks hw hS (by first | exact Nat.le_of_ble_eq_true rfl | omega) (by first | exact Nat.le_of_ble_eq_true rfl | omega) dX8_thingNumbered_27 ?_
        exact ⟨rfl, fun q e => by cases e; exact ⟨by omega, by omega, by omega, by omega⟩, fun e => by cases e⟩
end
section
set_option maxHeartbeats 4000000 in
set_option maxRecDepth 100000 in
theorem c_X8_thingWithField (l : Launch) (D : va_G) (tc : Nat → ClassId) (base : Nat) (ad : Nat → Int → Nat) (cnt : Nat → Int) (X : Nat → Int → Int → Int) (Y : Nat → Int → Int → Option Int) (ln : Int → Int) (hR : Rng X) (hFx : Fx cnt) (hLn : LnOK ln) (hCI : CInv cnt X Y ln) (x k : Int) (hx : -2147483648 ≤ x ∧ x ≤ 2147483647) (hk : -2147483648 ≤ k ∧ k ≤ 2147483647) : KR l D tc base 15 yX8_thingWithField wsX8_thingWithField ({ frames := 2, cells := 0, slots := 0, locals := 42 } : Room) [.ref (ad 0 0), .int (jI x), .int (jI k)] (ad, cnt, X, Y, ln) 0 0 (fun o u => u = (ad, cnt, X, Y, ln) ∧ (∀ q, o = some q → q = x ∧ 0 ≤ x ∧ x < X 0 0 3 ∧ x ≤ 29 ∧ 0 ≤ k ∧ k ≤ 4 ∧ ∀ t, Y 15 x 0 = some t → k < X 19 t 1) ∧ (o = none → Hid (¬ (0 ≤ x ∧ x < X 0 0 3 ∧ 0 ≤ k ∧ k < X 19 (tyo (Y 15 x 0)) 1)))) := by
  refine K_of (cc := cX8_thingWithField) (maxL := 4) (ret := (some (.object "StateRecords$Thing"))) (by decide) rfl (Nat.le_of_ble_eq_true rfl) ?_
  intro p e s m below meth c ls hx hb hr hml hown hts hlocks hl hK hw hS
  have hown : s.vm.findClass RX8 = some m.cls := hown
  obtain ⟨av9, hav9⟩ : ∃ a9 : Array Value, a9 = ([.ref (ad 0 0), .int (jI x), .int (jI k)] : List Value).toArray := ⟨_, rfl⟩
  rw [← hav9] at hts ⊢
  obtain ⟨Q9, hQ9⟩ : ∃ q9Q : State → Prop, q9Q = MQ below (QR D tc base 15 (fun o u => u = (ad, cnt, X, Y, ln) ∧ (∀ q, o = some q → q = x ∧ 0 ≤ x ∧ x < X 0 0 3 ∧ x ≤ 29 ∧ 0 ≤ k ∧ k ≤ 4 ∧ ∀ t, Y 15 x 0 = some t → k < X 19 t 1) ∧ (o = none → Hid (¬ (0 ≤ x ∧ x < X 0 0 3 ∧ 0 ≤ k ∧ k < X 19 (tyo (Y 15 x 0)) 1))))) av9 s 0 0 (frA base) := ⟨_, rfl⟩
  rw [← hQ9]
  have hi6 : ∀ w ∈ wsX60, w ∈ wsX8_thingWithField := fun w h => List.mem_cons_of_mem _ (List.mem_append_left _ (List.mem_append_left _ (List.mem_append_right _ h)))
  have hf6 : fctx s m _ RX8 wsX8_thingWithField D tc RX6 TX6 4 6 := ⟨hts, hi6, hown, hK.1, rfl⟩
  have lk97 := hts (.fieldLink RX8 97 (TX6 0).1 (TX6 0).2.1 (TX6 0).2.2.1) (gj_X8_thingWithField_0 _ (gp_h))
  have hc0 : cnt 0 = 1 := hFx.at 0 1 (by decide)
  have hc15 : cnt 15 = 30 := hFx.at 15 30 (by decide)
  have hl : lv_has ls 4 [(0, .ref (ad 0 0)), (1, .int (jI x)), (2, .int (jI k))] := hl
  have ftc : 0 ≤ X 0 0 3 ∧ X 0 0 3 ≤ 30 := hR 0 0 3
  have fty : 0 ≤ X 0 0 1 ∧ X 0 0 1 ≤ 8 := hR 0 0 1
  have hct : cnt 19 = X 0 0 1 := hCI.2.2.2.1.1
  have hfj : 0 ≤ X 29 0 3 ∧ X 29 0 3 ≤ 4 := hR 29 0 3
  have hfn : 0 ≤ X 29 0 1 ∧ X 29 0 1 ≤ 80 := hR 29 0 1
  refine lv_aload_n hx hb dX8_thingWithField_0 rfl (lv_at hl 0 rfl) ?_
  refine lv_iload_n hx hb dX8_thingWithField_1 rfl (lv_at hl 1 rfl) ?_
  refine x_i2l hx hb (by omega) dX8_thingWithField_2 ?_
  refine gos_r (run_V (As := [.long (jL x)]) (rest := []) hx hb hml hown hts (c_X8_thingNumbered l D tc base ad cnt X Y ln hR hFx hLn hCI x (by omega)) (cwV 1 hts gX8_thingWithField_X8_thingNumbered rfl rfl rfl (by first | exact hd_X8_thingNumbered | decide +kernel) ⟨Nat.le_of_ble_eq_true rfl, Nat.le_of_ble_eq_true rfl⟩) hK hw (by first | exact Int.le_refl 0 | omega) (by first | exact zlt hc0 | omega) sl_0_0 rfl rfl hl.1 rfl (Nat.le_of_ble_eq_true rfl) dX8_thingWithField_3 ⟨Nat.le_of_ble_eq_true rfl, Nat.le_of_ble_eq_true rfl⟩) hS (fun u2 H locs p3 hw hS => ?_) (fun z1 u2 H locs p3 hw hS => ?_)
  · obtain ⟨eu2, hsp3, hnp3⟩ := p3
    subst eu2
    refine lv_astore_nN (lv' := [(3, .null), (0, .ref (ad 0 0)), (1, .int (jI x)), (2, .int (jI k))]) hx hb dX8_thingWithField_6 rfl hl (by decide) rfl (fun ls hl => ?_)
    refine lv_aload_nN hx hb dX8_thingWithField_7 rfl (lv_at hl 0 rfl) ?_
    refine lv_ifnullN (tgt := 26) hx hb dX8_thingWithField_8 (by decide) ?_
    refine lv_null hx hb dX8_thingWithField_26 ?_
    rw [hQ9]
    refine ret_n (mc := 0) (ms := 0) hx hb hr hlocks hw hS (by first | exact Nat.le_of_ble_eq_true rfl | omega) (by first | exact Nat.le_of_ble_eq_true rfl | omega) dX8_thingWithField_27 ?_
    exact ⟨rfl, fun q e => (by cases e), fun _ q => (by have h9n : ¬ (0 ≤ x ∧ x < X 0 0 3) := hnp3 rfl; omega)⟩
  · obtain ⟨eu2, hsp3, hnp3⟩ := p3
    subst eu2
    obtain ⟨ezz1, p3⟩ := hsp3 z1 rfl
    refine lv_astore_n (lv' := [(3, .ref (ad 15 z1)), (0, .ref (ad 0 0)), (1, .int (jI x)), (2, .int (jI k))]) hx hb dX8_thingWithField_6 rfl hl (by decide) rfl (fun ls hl => ?_)
    refine lv_aload_n hx hb dX8_thingWithField_7 rfl (lv_at hl 0 rfl) ?_
    refine lv_ifnull hx hb dX8_thingWithField_8 ?_
    refine lv_aload_n hx hb dX8_thingWithField_11 rfl (lv_at hl 0 rfl) ?_
    refine x_getr (jz := 0) hx hb hf6 hw (by omega) (by omega) sl_15_0 rfl lk97 dX8_thingWithField_12 (fun y4 => ?_) (fun r5 y4 gr5 lr5 => ?_)
    · exfalso
      exact absurd y4 (hCI.2.2.2.2.1 z1 (by omega) (by omega))
    · refine lv_iload_n hx hb dX8_thingWithField_15 rfl (lv_at hl 3 rfl) ?_
      refine gos_i (run_V (As := [.int (jI k)]) (rest := []) hx hb hml hown hts (c_X7_hasField l D tc base ad cnt X Y ln hR hFx hLn r5 k (by omega) (by omega)) (cwV 1 hts gX8_thingWithField_X7_hasField rfl rfl rfl (by first | exact hd_X7_hasField | decide +kernel) ⟨Nat.le_of_ble_eq_true rfl, Nat.le_of_ble_eq_true rfl⟩) hK hw (by first | exact Int.le_refl 0 | omega) (by first | exact zlt hc19 | omega) sl_19_0 rfl rfl hl.1 rfl (Nat.le_of_ble_eq_true rfl) dX8_thingWithField_16 ⟨Nat.le_of_ble_eq_true rfl, Nat.le_of_ble_eq_true rfl⟩) hS (fun z6 u7 H locs p8 hw hS => ?_)
      obtain ⟨eu7, p8⟩ := p8
      subst eu7
      rcases p8 with ⟨ez6, p8⟩ | ⟨ez6, p8⟩
      · subst ez6
        refine x_if_eqF (tgt := 26) hx hb (by omega) (by decide) dX8_thingWithField_19 (by decide) ?_
        refine lv_aload_n hx hb dX8_thingWithField_22 rfl (lv_at hl 0 rfl) ?_
        refine lv_goto (tgt := 27) hx hb dX8_thingWithField_23 (by decide) ?_
        rw [hQ9]
        refine ret_r (mc := 0) (ms := 0) (k := 15) (i := z1) hx hb hr hlocks hw hS (by first | exact Nat.le_of_ble_eq_true rfl | omega) (by first | exact Nat.le_of_ble_eq_true rfl | omega) dX8_thingWithField_27 ?_
        exact ⟨rfl, fun q e => by cases e; exact ⟨by omega, by omega, by omega, by omega, by omega, by omega, fun t ht => by rw [← ezz1, y4] at ht; cases ht; omega⟩, fun e => by cases e⟩
      · subst ez6
        refine x_if_eqT (tgt := 26) hx hb (by omega) (by decide) dX8_thingWithField_19 (by decide) ?_
        refine lv_null hx hb dX8_thingWithField_26 ?_
        rw [hQ9]
        refine ret_n (mc := 0) (ms := 0) hx hb hr hlocks hw hS (by first | exact Nat.le_of_ble_eq_true rfl | omega) (by first | exact Nat.le_of_ble_eq_true rfl | omega) dX8_thingWithField_27 ?_
        exact ⟨rfl, fun q e => (by cases e), fun _ q => (by have q4 := q.2.2.2; rw [← ezz1, tyo_some y4] at q4; (try delta Hid at *); omega)⟩

set_option maxHeartbeats 4000000 in
set_option maxRecDepth 100000 in
theorem c_X8_failureOfDivides (l : Launch) (D : va_G) (tc : Nat → ClassId) (base : Nat) (ad : Nat → Int → Nat) (cnt : Nat → Int) (X : Nat → Int → Int → Int) (Y : Nat → Int → Int → Option Int) (ln : Int → Int) (hR : Rng X) (hFx : Fx cnt) (hLn : LnOK ln) (hCI : CInv cnt X Y ln) (x g : Int) (hx0 : 0 ≤ x ∧ x ≤ 29) (hxt : x < X 0 0 3) (hg : 0 ≤ g ∧ g < cnt 25) : KI l D tc base yX8_failureOfDivides wsX8_failureOfDivides ({ frames := 3, cells := 0, slots := 0, locals := 64 } : Room) [.ref (ad 15 x), .ref (ad 25 g)] (ad, cnt, X, Y, ln) 0 0 (fun z u => u = (ad, cnt, X, Y, ln) ∧ (0 ≤ z ∧ z ≤ 10) ∧ (X 25 g 0 = 0 → z = ckC X Y ln x g)) := by
  refine K_of (cc := cX8_failureOfDivides) (maxL := 2) (ret := (some .int)) (by decide) rfl (Nat.le_of_ble_eq_true rfl) ?_
  intro p e s m below meth c ls hx hb hr hml hown hts hlocks hl hK hw hS
  have hown : s.vm.findClass RX8 = some m.cls := hown
  obtain ⟨av9, hav9⟩ : ∃ a9 : Array Value, a9 = ([.ref (ad 15 x), .ref (ad 25 g)] : List Value).toArray := ⟨_, rfl⟩
  rw [← hav9] at hts ⊢
  obtain ⟨Q9, hQ9⟩ : ∃ q9Q : State → Prop, q9Q = MQ below (QI D tc base (fun z u => u = (ad, cnt, X, Y, ln) ∧ (0 ≤ z ∧ z ≤ 10) ∧ (X 25 g 0 = 0 → z = ckC X Y ln x g))) av9 s 0 0 (frA base) := ⟨_, rfl⟩
  rw [← hQ9]
  have hi0 : ∀ w ∈ wsX00, w ∈ wsX8_failureOfDivides := fun w h => List.mem_cons_of_mem _ (List.mem_append_left _ (List.mem_append_right _ h))
  have hf0 : fctx s m _ RX8 wsX8_failureOfDivides D tc RX0 TX0 4 0 := ⟨hts, hi0, hown, hK.1, rfl⟩
  have hi6 : ∀ w ∈ wsX60, w ∈ wsX8_failureOfDivides := fun w h => List.mem_cons_of_mem _ (List.mem_append_left _ (List.mem_append_left _ (List.mem_append_right _ h)))
  have hf6 : fctx s m _ RX8 wsX8_failureOfDivides D tc RX6 TX6 4 6 := ⟨hts, hi6, hown, hK.1, rfl⟩
  have lk97 := hts (.fieldLink RX8 97 (TX6 0).1 (TX6 0).2.1 (TX6 0).2.2.1) (gj_X8_failureOfDivides_0 _ (gp_h))
  have lk193 := hts (.fieldLink RX8 193 (TX6 1).1 (TX6 1).2.1 (TX6 1).2.2.1) (gj_X8_failureOfDivides_0 _ (gp_1 (gp_1 (gp_1 gp_h))))
  have lk302 := hts (.fieldLink RX8 302 (TX0 1).1 (TX0 1).2.1 (TX0 1).2.2.1) (gj_X8_failureOfDivides_0 _ (gp_1 gp_h))
  have lk308 := hts (.fieldLink RX8 308 (TX0 2).1 (TX0 2).2.1 (TX0 2).2.2.1) (gj_X8_failureOfDivides_0 _ (gp_1 (gp_1 gp_h)))
  have hc15 : cnt 15 = 30 := hFx.at 15 30 (by decide)
  have hc16 : cnt 16 = 30 := hFx.at 16 30 (by decide)
  have hc27 : cnt 27 = cnt 26 := hFx.2.2
  have hl : lv_has ls 2 [(0, .ref (ad 15 x)), (1, .ref (ad 25 g))] := hl
  have ftc : 0 ≤ X 0 0 3 ∧ X 0 0 3 ≤ 30 := hR 0 0 3
  have fty : 0 ≤ X 0 0 1 ∧ X 0 0 1 ≤ 8 := hR 0 0 1
  have hct : cnt 19 = X 0 0 1 := hCI.2.2.2.1.1
  have hfj : 0 ≤ X 29 0 3 ∧ X 29 0 3 ≤ 4 := hR 29 0 3
  have hfn : 0 ≤ X 29 0 1 ∧ X 29 0 1 ≤ 80 := hR 29 0 1
  have fka : 0 ≤ X 25 g 1 ∧ X 25 g 1 ≤ 4 := hR 25 g 1
  have fkb : 0 ≤ X 25 g 2 ∧ X 25 g 2 ≤ 4 := hR 25 g 2
  have fkk : 0 ≤ X 25 g 0 ∧ X 25 g 0 ≤ 5 := hR 25 g 0
  refine lv_aload_n hx hb dX8_failureOfDivides_0 rfl (lv_at hl 0 rfl) ?_
  refine x_getr (jz := 0) hx hb hf6 hw (by omega) (by omega) sl_15_0 rfl lk97 dX8_failureOfDivides_1 (fun y1 => ?_) (fun r2 y1 gr2 lr2 => ?_)
  · exfalso
    exact absurd y1 (hCI.2.2.2.2.1 x (by omega) (by omega))
  · refine lv_aload_n hx hb dX8_failureOfDivides_4 rfl (lv_at hl 1 rfl) ?_
    refine x_geti (jz := 1) hx hb hf0 hw (by omega) (by omega) sl_25_1 rfl lk302 dX8_failureOfDivides_5 ?_
    have f3 : 0 ≤ X 25 g 1 ∧ X 25 g 1 ≤ 4 := hR 25 g 1
    refine lv_iconst (v := jI 0) hx hb dX8_failureOfDivides_8 rfl ?_
    refine gos_i (run_V (As := [.int (jI (X 25 g 1)), .int (jI 0)]) (rest := []) hx hb hml hown hts (c_X7_hasLane l D tc base ad cnt X Y ln hR hFx hLn r2 (X 25 g 1) 0 (by omega) (by omega) (by omega)) (cwV 2 hts gX8_failureOfDivides_X7_hasLane rfl rfl rfl (by first | exact hd_X7_hasLane | decide +kernel) ⟨Nat.le_of_ble_eq_true rfl, Nat.le_of_ble_eq_true rfl⟩) hK hw (by first | exact Int.le_refl 0 | omega) (by first | exact zlt hc19 | omega) sl_19_0 rfl rfl hl.1 rfl (Nat.le_of_ble_eq_true rfl) dX8_failureOfDivides_9 ⟨Nat.le_of_ble_eq_true rfl, Nat.le_of_ble_eq_true rfl⟩) hS (fun z4 u5 H locs p6 hw hS => ?_)
    obtain ⟨eu5, p6⟩ := p6
    subst eu5
    rcases p6 with ⟨ez4, p6⟩ | ⟨ez4, p6⟩
    · subst ez4
      refine x_if_eqF (tgt := 30) hx hb (by omega) (by decide) dX8_failureOfDivides_12 (by decide) ?_
      refine lv_aload_n hx hb dX8_failureOfDivides_15 rfl (lv_at hl 0 rfl) ?_
      refine x_getr (jz := 0) hx hb hf6 hw (by omega) (by omega) sl_15_0 rfl lk97 dX8_failureOfDivides_16 (fun y7 => ?_) (fun r8 y7 gr8 lr8 => ?_)
      · exfalso
        rw [y1] at y7; cases y7
      · have er8 : r8 = r2 := by rw [y1] at y7; cases y7; rfl
        rw [er8]
        refine lv_aload_n hx hb dX8_failureOfDivides_19 rfl (lv_at hl 1 rfl) ?_
        refine x_geti (jz := 2) hx hb hf0 hw (by omega) (by omega) sl_25_2 rfl lk308 dX8_failureOfDivides_20 ?_
        have f9 : 0 ≤ X 25 g 2 ∧ X 25 g 2 ≤ 4 := hR 25 g 2
        refine lv_iconst (v := jI 0) hx hb dX8_failureOfDivides_23 rfl ?_
        refine gos_i (run_V (As := [.int (jI (X 25 g 2)), .int (jI 0)]) (rest := []) hx hb hml hown hts (c_X7_hasLane l D tc base ad cnt X Y ln hR hFx hLn r2 (X 25 g 2) 0 (by omega) (by omega) (by omega)) (cwV 2 hts gX8_failureOfDivides_X7_hasLane rfl rfl rfl (by first | exact hd_X7_hasLane | decide +kernel) ⟨Nat.le_of_ble_eq_true rfl, Nat.le_of_ble_eq_true rfl⟩) hK hw (by first | exact Int.le_refl 0 | omega) (by first | exact zlt hc19 | omega) sl_19_0 rfl rfl hl.1 rfl (Nat.le_of_ble_eq_true rfl) dX8_failureOfDivides_24 ⟨Nat.le_of_ble_eq_true rfl, Nat.le_of_ble_eq_true rfl⟩) hS (fun z10 u11 H locs p12 hw hS => ?_)
        obtain ⟨eu11, p12⟩ := p12
        subst eu11
        rcases p12 with ⟨ez10, p12⟩ | ⟨ez10, p12⟩
        · subst ez10
          refine x_if_neT (tgt := 32) hx hb (by omega) (by decide) dX8_failureOfDivides_27 (by decide) ?_
          refine lv_aload_n hx hb dX8_failureOfDivides_32 rfl (lv_at hl 0 rfl) ?_
          refine x_geto hx hb hf6 hw (by omega) (by omega) sl_15_1 lk193 dX8_failureOfDivides_33 ?_
          refine lv_aload_n hx hb dX8_failureOfDivides_36 rfl (lv_at hl 1 rfl) ?_
          refine x_geti (jz := 2) hx hb hf0 hw (by omega) (by omega) sl_25_2 rfl lk308 dX8_failureOfDivides_37 ?_
          have f13 : 0 ≤ X 25 g 2 ∧ X 25 g 2 ≤ 4 := hR 25 g 2
          refine x_lald hx hb hK.1 hw (by omega) (by omega) ar_16 (len_E ar_16 (by first | exact Nat.ne_of_beq_eq_false rfl | decide)) (by omega) (by omega) (by omega) dX8_failureOfDivides_40 ?_
          have f14 : (-9223372036854775808) ≤ X 16 x (X 25 g 2) ∧ X 16 x (X 25 g 2) ≤ 9223372036854775807 := hR 16 x (X 25 g 2)
          refine lv_lconst (v := jL 0) hx hb dX8_failureOfDivides_41 (by decide) ?_
          refine x_lcmp hx hb (by omega) (by omega) dX8_failureOfDivides_42 ?_
          obtain ⟨z15, ez15⟩ : ∃ y : Int, y = cmpZ (X 16 x (X 25 g 2)) 0 := ⟨_, rfl⟩
          rw [← ez15]
          have gz15 : (z15 < 0 ↔ ((X 16 x (X 25 g 2)) : Int) < 0) ∧ (z15 = 0 ↔ ((X 16 x (X 25 g 2)) : Int) = 0) ∧ -1 ≤ z15 ∧ z15 ≤ 1 := by rw [ez15]; exact ⟨cmpZ_lt, cmpZ_eq, (cmpZ_r _ _).1, (cmpZ_r _ _).2⟩
          clear ez15
          refine x_if_ne (tgt := 50) hx hb (by omega) dX8_failureOfDivides_43 (by decide) (fun c16 => ?_) (fun c16 => ?_)
          · replace c16 := cz_neT gz15 c16
            clear gz15
            refine lv_iconst (v := jI 0) hx hb dX8_failureOfDivides_50 rfl ?_
            rw [hQ9]
            refine ret_i (mc := 0) (ms := 0) hx hb hr hlocks hw hS (by first | exact Nat.le_of_ble_eq_true rfl | omega) (by first | exact Nat.le_of_ble_eq_true rfl | omega) dX8_failureOfDivides_51 ?_
            exact ⟨rfl, by omega, fun hk9 => (by unfold ckC; rw [tyo_some y1]; rw [ckF_0 (by omega) (by (try delta Hid at *); omega)]; (repeat' split) <;> omega)⟩
          · replace c16 := cz_neF gz15 c16
            clear gz15
            refine lv_iconst (v := jI 5) hx hb dX8_failureOfDivides_46 rfl ?_
            refine lv_goto (tgt := 51) hx hb dX8_failureOfDivides_47 (by decide) ?_
            rw [hQ9]
            refine ret_i (mc := 0) (ms := 0) hx hb hr hlocks hw hS (by first | exact Nat.le_of_ble_eq_true rfl | omega) (by first | exact Nat.le_of_ble_eq_true rfl | omega) dX8_failureOfDivides_51 ?_
            exact ⟨rfl, by omega, fun hk9 => (by unfold ckC; rw [tyo_some y1]; rw [ckF_0 (by omega) (by (try delta Hid at *); omega)]; (repeat' split) <;> omega)⟩
        · subst ez10
          refine x_if_neF (tgt := 32) hx hb (by omega) (by decide) dX8_failureOfDivides_27 (by decide) ?_
          refine lv_iconst (v := jI 4) hx hb dX8_failureOfDivides_30 rfl ?_
          rw [hQ9]
          refine ret_i (mc := 0) (ms := 0) hx hb hr hlocks hw hS (by first | exact Nat.le_of_ble_eq_true rfl | omega) (by first | exact Nat.le_of_ble_eq_true rfl | omega) dX8_failureOfDivides_31 ?_
          exact ⟨rfl, by omega, fun hk9 => (by unfold ckC; rw [tyo_some y1]; rw [ckF_c ⟨by omega, by omega⟩ (by (try delta Hid at *); omega)])⟩
    · subst ez4
      refine x_if_eqT (tgt := 30) hx hb (by omega) (by decide) dX8_failureOfDivides_12 (by decide) ?_
      refine lv_iconst (v := jI 4) hx hb dX8_failureOfDivides_30 rfl ?_
      rw [hQ9]
      refine ret_i (mc := 0) (ms := 0) hx hb hr hlocks hw hS (by first | exact Nat.le_of_ble_eq_true rfl | omega) (by first | exact Nat.le_of_ble_eq_true rfl | omega) dX8_failureOfDivides_31 ?_
      exact ⟨rfl, by omega, fun hk9 => (by unfold ckC; rw [tyo_some y1]; rw [ckF_c ⟨by omega, by omega⟩ (by (try delta Hid at *); omega)])⟩

set_option maxHeartbeats 4000000 in
set_option maxRecDepth 100000 in
theorem c_X8_failureOfMeets (l : Launch) (D : va_G) (tc : Nat → ClassId) (base : Nat) (ad : Nat → Int → Nat) (cnt : Nat → Int) (X : Nat → Int → Int → Int) (Y : Nat → Int → Int → Option Int) (ln : Int → Int) (hR : Rng X) (hFx : Fx cnt) (hLn : LnOK ln) (hCI : CInv cnt X Y ln) (x g : Int) (hx0 : 0 ≤ x ∧ x ≤ 29) (hxt : x < X 0 0 3) (hg : 0 ≤ g ∧ g < cnt 25) : KI l D tc base yX8_failureOfMeets wsX8_failureOfMeets ({ frames := 3, cells := 0, slots := 0, locals := 64 } : Room) [.ref (ad 0 0), .ref (ad 15 x), .ref (ad 25 g)] (ad, cnt, X, Y, ln) 0 0 (fun z u => u = (ad, cnt, X, Y, ln) ∧ (0 ≤ z ∧ z ≤ 10) ∧ (X 25 g 0 = 1 → z = ckC X Y ln x g)) := by
  refine K_of (cc := cX8_failureOfMeets) (maxL := 4) (ret := (some .int)) (by decide) rfl (Nat.le_of_ble_eq_true rfl) ?_
  intro p e s m below meth c ls hx hb hr hml hown hts hlocks hl hK hw hS
  have hown : s.vm.findClass RX8 = some m.cls := hown
  obtain ⟨av9, hav9⟩ : ∃ a9 : Array Value, a9 = ([.ref (ad 0 0), .ref (ad 15 x), .ref (ad 25 g)] : List Value).toArray := ⟨_, rfl⟩
  rw [← hav9] at hts ⊢
  obtain ⟨Q9, hQ9⟩ : ∃ q9Q : State → Prop, q9Q = MQ below (QI D tc base (fun z u => u = (ad, cnt, X, Y, ln) ∧ (0 ≤ z ∧ z ≤ 10) ∧ (X 25 g 0 = 1 → z = ckC X Y ln x g))) av9 s 0 0 (frA base) := ⟨_, rfl⟩
  rw [← hQ9]
  have hi0 : ∀ w ∈ wsX00, w ∈ wsX8_failureOfMeets := fun w h => List.mem_cons_of_mem _ (List.mem_append_left _ (List.mem_append_left _ (List.mem_append_right _ h)))
  have hf0 : fctx s m _ RX8 wsX8_failureOfMeets D tc RX0 TX0 4 0 := ⟨hts, hi0, hown, hK.1, rfl⟩
  have hi6 : ∀ w ∈ wsX60, w ∈ wsX8_failureOfMeets := fun w h => List.mem_cons_of_mem _ (List.mem_append_left _ (List.mem_append_left _ (List.mem_append_left _ (List.mem_append_right _ h))))
  have hf6 : fctx s m _ RX8 wsX8_failureOfMeets D tc RX6 TX6 4 6 := ⟨hts, hi6, hown, hK.1, rfl⟩
  have hi7 : ∀ w ∈ wsX70, w ∈ wsX8_failureOfMeets := fun w h => List.mem_cons_of_mem _ (List.mem_append_left _ (List.mem_append_right _ h))
  have hf7 : fctx s m _ RX8 wsX8_failureOfMeets D tc RX7 TX7 8 7 := ⟨hts, hi7, hown, hK.1, rfl⟩
  have lk97 := hts (.fieldLink RX8 97 (TX6 0).1 (TX6 0).2.1 (TX6 0).2.2.1) (gj_X8_failureOfMeets_0 _ (gp_h))
  have lk193 := hts (.fieldLink RX8 193 (TX6 1).1 (TX6 1).2.1 (TX6 1).2.2.1) (gj_X8_failureOfMeets_0 _ (gp_1 (gp_1 gp_h)))
  have lk205 := hts (.fieldLink RX8 205 (TX7 0).1 (TX7 0).2.1 (TX7 0).2.2.1) (gj_X8_failureOfMeets_0 _ (gp_1 (gp_1 (gp_1 gp_h))))
  have lk302 := hts (.fieldLink RX8 302 (TX0 1).1 (TX0 1).2.1 (TX0 1).2.2.1) (gj_X8_failureOfMeets_0 _ (gp_1 gp_h))
  have lk311 := hts (.fieldLink RX8 311 (TX0 3).1 (TX0 3).2.1 (TX0 3).2.2.1) (gj_X8_failureOfMeets_0 _ (gp_4 gp_h))
  have hc0 : cnt 0 = 1 := hFx.at 0 1 (by decide)
  have hc15 : cnt 15 = 30 := hFx.at 15 30 (by decide)
  have hc16 : cnt 16 = 30 := hFx.at 16 30 (by decide)
  have hc27 : cnt 27 = cnt 26 := hFx.2.2
  have hl : lv_has ls 4 [(0, .ref (ad 0 0)), (1, .ref (ad 15 x)), (2, .ref (ad 25 g))] := hl
  have ftc : 0 ≤ X 0 0 3 ∧ X 0 0 3 ≤ 30 := hR 0 0 3
  have fty : 0 ≤ X 0 0 1 ∧ X 0 0 1 ≤ 8 := hR 0 0 1
  have hct : cnt 19 = X 0 0 1 := hCI.2.2.2.1.1
  have hfj : 0 ≤ X 29 0 3 ∧ X 29 0 3 ≤ 4 := hR 29 0 3
  have hfn : 0 ≤ X 29 0 1 ∧ X 29 0 1 ≤ 80 := hR 29 0 1
  have fka : 0 ≤ X 25 g 1 ∧ X 25 g 1 ≤ 4 := hR 25 g 1
  have fkb : 0 ≤ X 25 g 2 ∧ X 25 g 2 ≤ 4 := hR 25 g 2
  have fkk : 0 ≤ X 25 g 0 ∧ X 25 g 0 ≤ 5 := hR 25 g 0
  refine lv_aload_n hx hb dX8_failureOfMeets_0 rfl (lv_at hl 1 rfl) ?_
  refine x_getr (jz := 0) hx hb hf6 hw (by omega) (by omega) sl_15_0 rfl lk97 dX8_failureOfMeets_1 (fun y1 => ?_) (fun r2 y1 gr2 lr2 => ?_)
  · exfalso
    exact absurd y1 (hCI.2.2.2.2.1 x (by omega) (by omega))
  · refine lv_aload_n hx hb dX8_failureOfMeets_4 rfl (lv_at hl 2 rfl) ?_
    refine x_geti (jz := 1) hx hb hf0 hw (by omega) (by omega) sl_25_1 rfl lk302 dX8_failureOfMeets_5 ?_
    have f3 : 0 ≤ X 25 g 1 ∧ X 25 g 1 ≤ 4 := hR 25 g 1
    refine lv_iconst (v := jI 2) hx hb dX8_failureOfMeets_8 rfl ?_
    refine gos_i (run_V (As := [.int (jI (X 25 g 1)), .int (jI 2)]) (rest := []) hx hb hml hown hts (c_X7_hasLane l D tc base ad cnt X Y ln hR hFx hLn r2 (X 25 g 1) 2 (by omega) (by omega) (by omega)) (cwV 2 hts gX8_failureOfMeets_X7_hasLane rfl rfl rfl (by first | exact hd_X7_hasLane | decide +kernel) ⟨Nat.le_of_ble_eq_true rfl, Nat.le_of_ble_eq_true rfl⟩) hK hw (by first | exact Int.le_refl 0 | omega) (by first | exact zlt hc19 | omega) sl_19_0 rfl rfl hl.1 rfl (Nat.le_of_ble_eq_true rfl) dX8_failureOfMeets_9 ⟨Nat.le_of_ble_eq_true rfl, Nat.le_of_ble_eq_true rfl⟩) hS (fun z4 u5 H locs p6 hw hS => ?_)
    obtain ⟨eu5, p6⟩ := p6
    subst eu5
    rcases p6 with ⟨ez4, p6⟩ | ⟨ez4, p6⟩
    · subst ez4
      refine x_if_neT (tgt := 17) hx hb (by omega) (by decide) dX8_failureOfMeets_12 (by decide) ?_
      refine lv_aload_n hx hb dX8_failureOfMeets_17 rfl (lv_at hl 0 rfl) ?_
      refine lv_aload_n hx hb dX8_failureOfMeets_18 rfl (lv_at hl 1 rfl) ?_
      refine x_geto hx hb hf6 hw (by omega) (by omega) sl_15_1 lk193 dX8_failureOfMeets_19 ?_
      refine lv_aload_n hx hb dX8_failureOfMeets_22 rfl (lv_at hl 2 rfl) ?_
      refine x_geti (jz := 1) hx hb hf0 hw (by omega) (by omega) sl_25_1 rfl lk302 dX8_failureOfMeets_23 ?_
      have f7 : 0 ≤ X 25 g 1 ∧ X 25 g 1 ≤ 4 := hR 25 g 1
      refine x_lald hx hb hK.1 hw (by omega) (by omega) ar_16 (len_E ar_16 (by first | exact Nat.ne_of_beq_eq_false rfl | decide)) (by omega) (by omega) (by omega) dX8_failureOfMeets_26 ?_
      have f8 : (-9223372036854775808) ≤ X 16 x (X 25 g 1) ∧ X 16 x (X 25 g 1) ≤ 9223372036854775807 := hR 16 x (X 25 g 1)
      refine gos_r (run_V (As := [.long (jL (X 16 x (X 25 g 1)))]) (rest := []) hx hb hml hown hts (c_X8_thingNumbered l D tc base ad cnt X Y ln hR hFx hLn hCI (X 16 x (X 25 g 1)) (by omega)) (cwV 1 hts gX8_failureOfMeets_X8_thingNumbered rfl rfl rfl (by first | exact hd_X8_thingNumbered | decide +kernel) ⟨Nat.le_of_ble_eq_true rfl, Nat.le_of_ble_eq_true rfl⟩) hK hw (by first | exact Int.le_refl 0 | omega) (by first | exact zlt hc0 | omega) sl_0_0 rfl rfl hl.1 rfl (Nat.le_of_ble_eq_true rfl) dX8_failureOfMeets_27 ⟨Nat.le_of_ble_eq_true rfl, Nat.le_of_ble_eq_true rfl⟩) hS (fun u10 H locs p11 hw hS => ?_) (fun z9 u10 H locs p11 hw hS => ?_)
      · obtain ⟨eu10, hsp11, hnp11⟩ := p11
        subst eu10
        refine lv_astore_nN (lv' := [(3, .null), (0, .ref (ad 0 0)), (1, .ref (ad 15 x)), (2, .ref (ad 25 g))]) hx hb dX8_failureOfMeets_30 rfl hl (by decide) rfl (fun ls hl => ?_)
        refine lv_aload_nN hx hb dX8_failureOfMeets_31 rfl (lv_at hl 0 rfl) ?_
        refine lv_ifnonnullN hx hb dX8_failureOfMeets_32 ?_
        refine lv_iconst (v := jI 1) hx hb dX8_failureOfMeets_35 rfl ?_
        rw [hQ9]
        refine ret_i (mc := 0) (ms := 0) hx hb hr hlocks hw hS (by first | exact Nat.le_of_ble_eq_true rfl | omega) (by first | exact Nat.le_of_ble_eq_true rfl | omega) dX8_failureOfMeets_36 ?_
        exact ⟨rfl, by omega, fun hk9 => (by unfold ckC; rw [tyo_some y1]; rw [ckF_1 (by omega) (by (try delta Hid at *); omega)]; rw [if_neg (show ¬ (0 ≤ X 16 x (X 25 g 1) ∧ X 16 x (X 25 g 1) < X 0 0 3) from hnp11 rfl), if_pos (by omega)])⟩
      · obtain ⟨eu10, hsp11, hnp11⟩ := p11
        subst eu10
        obtain ⟨ezz9, p11⟩ := hsp11 z9 rfl
        refine lv_astore_n (lv' := [(3, .ref (ad 15 z9)), (0, .ref (ad 0 0)), (1, .ref (ad 15 x)), (2, .ref (ad 25 g))]) hx hb dX8_failureOfMeets_30 rfl hl (by decide) rfl (fun ls hl => ?_)
        refine lv_aload_n hx hb dX8_failureOfMeets_31 rfl (lv_at hl 0 rfl) ?_
        refine lv_ifnonnull (tgt := 37) hx hb dX8_failureOfMeets_32 (by decide) ?_
        refine lv_aload_n hx hb dX8_failureOfMeets_37 rfl (lv_at hl 0 rfl) ?_
        refine x_getr (jz := 0) hx hb hf6 hw (by omega) (by omega) sl_15_0 rfl lk97 dX8_failureOfMeets_38 (fun y12 => ?_) (fun r13 y12 gr13 lr13 => ?_)
        · exfalso
          exact absurd y12 (hCI.2.2.2.2.1 z9 (by omega) (by omega))
        · refine x_geti (jz := 0) hx hb hf7 hw (by omega) (by omega) sl_19_0 rfl lk205 dX8_failureOfMeets_41 ?_
          have f14 : 0 ≤ X 19 r13 0 ∧ X 19 r13 0 ≤ 7 := hR 19 r13 0
          refine x_i2l hx hb (by omega) dX8_failureOfMeets_44 ?_
          refine lv_aload_n hx hb dX8_failureOfMeets_45 rfl (lv_at hl 3 rfl) ?_
          refine x_getl (jz := 3) hx hb hf0 hw (by omega) (by omega) sl_25_3 rfl lk311 dX8_failureOfMeets_46 ?_
          have f15 : (-9223372036854775808) ≤ X 25 g 3 ∧ X 25 g 3 ≤ 9223372036854775807 := hR 25 g 3
          refine x_lcmp hx hb (by omega) (by omega) dX8_failureOfMeets_49 ?_
          obtain ⟨z16, ez16⟩ : ∃ y : Int, y = cmpZ (X 19 r13 0) (X 25 g 3) := ⟨_, rfl⟩
          rw [← ez16]
          have gz16 : (z16 < 0 ↔ ((X 19 r13 0) : Int) < (X 25 g 3)) ∧ (z16 = 0 ↔ ((X 19 r13 0) : Int) = (X 25 g 3)) ∧ -1 ≤ z16 ∧ z16 ≤ 1 := by rw [ez16]; exact ⟨cmpZ_lt, cmpZ_eq, (cmpZ_r _ _).1, (cmpZ_r _ _).2⟩
          clear ez16
          refine x_if_ne (tgt := 57) hx hb (by omega) dX8_failureOfMeets_50 (by decide) (fun c17 => ?_) (fun c17 => ?_)
          · replace c17 := cz_neT gz16 c17
            clear gz16
            refine lv_iconst (v := jI 4) hx hb dX8_failureOfMeets_57 rfl ?_
            rw [hQ9]
            refine ret_i (mc := 0) (ms := 0) hx hb hr hlocks hw hS (by first | exact Nat.le_of_ble_eq_true rfl | omega) (by first | exact Nat.le_of_ble_eq_true rfl | omega) dX8_failureOfMeets_58 ?_
            exact ⟨rfl, by omega, fun hk9 => (by unfold ckC; rw [tyo_some y1]; rw [ckF_1 (by omega) (by (try delta Hid at *); omega)]; have hmt : (if 0 ≤ X 16 x (X 25 g 1) ∧ X 16 x (X 25 g 1) < X 0 0 3 then X 19 (tyo (Y 15 (X 16 x (X 25 g 1)) 0)) 0 else -1) = X 19 r13 0 := (by rw [if_pos ⟨by omega, by omega⟩, ← ezz9, tyo_some y12]); rw [hmt]; (repeat' split) <;> omega)⟩
          · replace c17 := cz_neF gz16 c17
            clear gz16
            refine lv_iconst (v := jI 0) hx hb dX8_failureOfMeets_53 rfl ?_
            refine lv_goto (tgt := 58) hx hb dX8_failureOfMeets_54 (by decide) ?_
            rw [hQ9]
            refine ret_i (mc := 0) (ms := 0) hx hb hr hlocks hw hS (by first | exact Nat.le_of_ble_eq_true rfl | omega) (by first | exact Nat.le_of_ble_eq_true rfl | omega) dX8_failureOfMeets_58 ?_
            exact ⟨rfl, by omega, fun hk9 => (by unfold ckC; rw [tyo_some y1]; rw [ckF_1 (by omega) (by (try delta Hid at *); omega)]; have hmt : (if 0 ≤ X 16 x (X 25 g 1) ∧ X 16 x (X 25 g 1) < X 0 0 3 then X 19 (tyo (Y 15 (X 16 x (X 25 g 1)) 0)) 0 else -1) = X 19 r13 0 := (by rw [if_pos ⟨by omega, by omega⟩, ← ezz9, tyo_some y12]); rw [hmt]; (repeat' split) <;> omega)⟩
    · subst ez4
      refine x_if_neF (tgt := 17) hx hb (by omega) (by decide) dX8_failureOfMeets_12 (by decide) ?_
      refine lv_iconst (v := jI 4) hx hb dX8_failureOfMeets_15 rfl ?_
      rw [hQ9]
      refine ret_i (mc := 0) (ms := 0) hx hb hr hlocks hw hS (by first | exact Nat.le_of_ble_eq_true rfl | omega) (by first | exact Nat.le_of_ble_eq_true rfl | omega) dX8_failureOfMeets_16 ?_
      exact ⟨rfl, by omega, fun hk9 => (by unfold ckC; rw [tyo_some y1]; rw [ckF_c ⟨by omega, by omega⟩ (by (try delta Hid at *); omega)])⟩

set_option maxHeartbeats 4000000 in
set_option maxRecDepth 100000 in
theorem c_X8_failureOfHas (l : Launch) (D : va_G) (tc : Nat → ClassId) (base : Nat) (ad : Nat → Int → Nat) (cnt : Nat → Int) (X : Nat → Int → Int → Int) (Y : Nat → Int → Int → Option Int) (ln : Int → Int) (hR : Rng X) (hFx : Fx cnt) (hLn : LnOK ln) (hCI : CInv cnt X Y ln) (x g : Int) (hx0 : 0 ≤ x ∧ x ≤ 29) (hxt : x < X 0 0 3) (hg : 0 ≤ g ∧ g < cnt 25) : KI l D tc base yX8_failureOfHas wsX8_failureOfHas ({ frames := 3, cells := 0, slots := 0, locals := 64 } : Room) [.ref (ad 15 x), .ref (ad 25 g)] (ad, cnt, X, Y, ln) 0 0 (fun z u => u = (ad, cnt, X, Y, ln) ∧ (0 ≤ z ∧ z ≤ 10) ∧ (X 25 g 0 = 2 → z = ckC X Y ln x g)) := by
  refine K_of (cc := cX8_failureOfHas) (maxL := 5) (ret := (some .int)) (by decide) rfl (Nat.le_of_ble_eq_true rfl) ?_
  intro p e s m below meth c ls hx hb hr hml hown hts hlocks hl hK hw hS
  have hown : s.vm.findClass RX8 = some m.cls := hown
  obtain ⟨av9, hav9⟩ : ∃ a9 : Array Value, a9 = ([.ref (ad 15 x), .ref (ad 25 g)] : List Value).toArray := ⟨_, rfl⟩
  rw [← hav9] at hts ⊢
  obtain ⟨Q9, hQ9⟩ : ∃ q9Q : State → Prop, q9Q = MQ below (QI D tc base (fun z u => u = (ad, cnt, X, Y, ln) ∧ (0 ≤ z ∧ z ≤ 10) ∧ (X 25 g 0 = 2 → z = ckC X Y ln x g))) av9 s 0 0 (frA base) := ⟨_, rfl⟩
  rw [← hQ9]
  have hi0 : ∀ w ∈ wsX00, w ∈ wsX8_failureOfHas := fun w h => List.mem_cons_of_mem _ (List.mem_append_left _ (List.mem_append_left _ (List.mem_append_right _ h)))
  have hf0 : fctx s m _ RX8 wsX8_failureOfHas D tc RX0 TX0 4 0 := ⟨hts, hi0, hown, hK.1, rfl⟩
  have hi5 : ∀ w ∈ wsX50, w ∈ wsX8_failureOfHas := fun w h => List.mem_cons_of_mem _ (List.mem_append_left _ (List.mem_append_right _ h))
  have hf5 : fctx s m _ RX8 wsX8_failureOfHas D tc RX5 TX5 2 5 := ⟨hts, hi5, hown, hK.1, rfl⟩
  have hi6 : ∀ w ∈ wsX60, w ∈ wsX8_failureOfHas := fun w h => List.mem_cons_of_mem _ (List.mem_append_left _ (List.mem_append_left _ (List.mem_append_left _ (List.mem_append_right _ h))))
  have hf6 : fctx s m _ RX8 wsX8_failureOfHas D tc RX6 TX6 4 6 := ⟨hts, hi6, hown, hK.1, rfl⟩
  have lk97 := hts (.fieldLink RX8 97 (TX6 0).1 (TX6 0).2.1 (TX6 0).2.2.1) (gj_X8_failureOfHas_0 _ (gp_h))
  have lk158 := hts (.fieldLink RX8 158 (TX6 2).1 (TX6 2).2.1 (TX6 2).2.2.1) (gj_X8_failureOfHas_0 _ (gp_1 (gp_1 (gp_1 gp_h))))
  have lk161 := hts (.fieldLink RX8 161 (TX5 0).1 (TX5 0).2.1 (TX5 0).2.2.1) (gj_X8_failureOfHas_0 _ (gp_4 (gp_1 gp_h)))
  have lk193 := hts (.fieldLink RX8 193 (TX6 1).1 (TX6 1).2.1 (TX6 1).2.2.1) (gj_X8_failureOfHas_0 _ (gp_4 gp_h))
  have lk302 := hts (.fieldLink RX8 302 (TX0 1).1 (TX0 1).2.1 (TX0 1).2.2.1) (gj_X8_failureOfHas_0 _ (gp_1 gp_h))
  have lk308 := hts (.fieldLink RX8 308 (TX0 2).1 (TX0 2).2.1 (TX0 2).2.2.1) (gj_X8_failureOfHas_0 _ (gp_1 (gp_1 gp_h)))
  have lk311 := hts (.fieldLink RX8 311 (TX0 3).1 (TX0 3).2.1 (TX0 3).2.2.1) (gj_X8_failureOfHas_0 _ (gp_4 (gp_1 (gp_1 gp_h))))
  have hc15 : cnt 15 = 30 := hFx.at 15 30 (by decide)
  have hc16 : cnt 16 = 30 := hFx.at 16 30 (by decide)
  have hc17 : cnt 17 = 30 := hFx.at 17 30 (by decide)
  have hc27 : cnt 27 = cnt 26 := hFx.2.2
  have hl : lv_has ls 5 [(0, .ref (ad 15 x)), (1, .ref (ad 25 g))] := hl
  have ftc : 0 ≤ X 0 0 3 ∧ X 0 0 3 ≤ 30 := hR 0 0 3
  have fty : 0 ≤ X 0 0 1 ∧ X 0 0 1 ≤ 8 := hR 0 0 1
  have hct : cnt 19 = X 0 0 1 := hCI.2.2.2.1.1
  have hfj : 0 ≤ X 29 0 3 ∧ X 29 0 3 ≤ 4 := hR 29 0 3
  have hfn : 0 ≤ X 29 0 1 ∧ X 29 0 1 ≤ 80 := hR 29 0 1
  have fka : 0 ≤ X 25 g 1 ∧ X 25 g 1 ≤ 4 := hR 25 g 1
  have fkb : 0 ≤ X 25 g 2 ∧ X 25 g 2 ≤ 4 := hR 25 g 2
  have fkk : 0 ≤ X 25 g 0 ∧ X 25 g 0 ≤ 5 := hR 25 g 0
  refine lv_aload_n hx hb dX8_failureOfHas_0 rfl (lv_at hl 0 rfl) ?_
  refine x_getr (jz := 0) hx hb hf6 hw (by omega) (by omega) sl_15_0 rfl lk97 dX8_failureOfHas_1 (fun y1 => ?_) (fun r2 y1 gr2 lr2 => ?_)
  · exfalso
    exact absurd y1 (hCI.2.2.2.2.1 x (by omega) (by omega))
  · refine lv_aload_n hx hb dX8_failureOfHas_4 rfl (lv_at hl 1 rfl) ?_
    refine x_geti (jz := 1) hx hb hf0 hw (by omega) (by omega) sl_25_1 rfl lk302 dX8_failureOfHas_5 ?_
    have f3 : 0 ≤ X 25 g 1 ∧ X 25 g 1 ≤ 4 := hR 25 g 1
    refine gos_i (run_V (As := [.int (jI (X 25 g 1))]) (rest := []) hx hb hml hown hts (c_X7_hasRowLane l D tc base ad cnt X Y ln hR hFx hLn r2 (X 25 g 1) (by omega) (by omega)) (cwV 1 hts gX8_failureOfHas_X7_hasRowLane rfl rfl rfl (by first | exact hd_X7_hasRowLane | decide +kernel) ⟨Nat.le_of_ble_eq_true rfl, Nat.le_of_ble_eq_true rfl⟩) hK hw (by first | exact Int.le_refl 0 | omega) (by first | exact zlt hc19 | omega) sl_19_0 rfl rfl hl.1 rfl (Nat.le_of_ble_eq_true rfl) dX8_failureOfHas_8 ⟨Nat.le_of_ble_eq_true rfl, Nat.le_of_ble_eq_true rfl⟩) hS (fun z4 u5 H locs p6 hw hS => ?_)
    obtain ⟨eu5, p6⟩ := p6
    subst eu5
    rcases p6 with ⟨ez4, p6⟩ | ⟨ez4, p6⟩
    · subst ez4
      refine x_if_eqF (tgt := 29) hx hb (by omega) (by decide) dX8_failureOfHas_11 (by decide) ?_
      refine lv_aload_n hx hb dX8_failureOfHas_14 rfl (lv_at hl 0 rfl) ?_
      refine x_getr (jz := 0) hx hb hf6 hw (by omega) (by omega) sl_15_0 rfl lk97 dX8_failureOfHas_15 (fun y7 => ?_) (fun r8 y7 gr8 lr8 => ?_)
      · exfalso
        rw [y1] at y7; cases y7
      · have er8 : r8 = r2 := by rw [y1] at y7; cases y7; rfl
        rw [er8]
        refine lv_aload_n hx hb dX8_failureOfHas_18 rfl (lv_at hl 1 rfl) ?_
        refine x_geti (jz := 2) hx hb hf0 hw (by omega) (by omega) sl_25_2 rfl lk308 dX8_failureOfHas_19 ?_
        have f9 : 0 ≤ X 25 g 2 ∧ X 25 g 2 ≤ 4 := hR 25 g 2
        refine lv_iconst (v := jI 0) hx hb dX8_failureOfHas_22 rfl ?_
        refine gos_i (run_V (As := [.int (jI (X 25 g 2)), .int (jI 0)]) (rest := []) hx hb hml hown hts (c_X7_hasLane l D tc base ad cnt X Y ln hR hFx hLn r2 (X 25 g 2) 0 (by omega) (by omega) (by omega)) (cwV 2 hts gX8_failureOfHas_X7_hasLane rfl rfl rfl (by first | exact hd_X7_hasLane | decide +kernel) ⟨Nat.le_of_ble_eq_true rfl, Nat.le_of_ble_eq_true rfl⟩) hK hw (by first | exact Int.le_refl 0 | omega) (by first | exact zlt hc19 | omega) sl_19_0 rfl rfl hl.1 rfl (Nat.le_of_ble_eq_true rfl) dX8_failureOfHas_23 ⟨Nat.le_of_ble_eq_true rfl, Nat.le_of_ble_eq_true rfl⟩) hS (fun z10 u11 H locs p12 hw hS => ?_)
        obtain ⟨eu11, p12⟩ := p12
        subst eu11
        rcases p12 with ⟨ez10, p12⟩ | ⟨ez10, p12⟩
        · subst ez10
          refine x_if_neT (tgt := 31) hx hb (by omega) (by decide) dX8_failureOfHas_26 (by decide) ?_
          refine lv_aload_n hx hb dX8_failureOfHas_31 rfl (lv_at hl 0 rfl) ?_
          refine x_geto hx hb hf6 hw (by omega) (by omega) sl_15_2 lk158 dX8_failureOfHas_32 ?_
          refine lv_aload_n hx hb dX8_failureOfHas_35 rfl (lv_at hl 1 rfl) ?_
          refine x_geti (jz := 1) hx hb hf0 hw (by omega) (by omega) sl_25_1 rfl lk302 dX8_failureOfHas_36 ?_
          have f13 : 0 ≤ X 25 g 1 ∧ X 25 g 1 ≤ 4 := hR 25 g 1
          refine x_aald hx hb hK.1 hw (by omega) (by omega) ar_17 rfl (len_E ar_17 (by first | exact Nat.ne_of_beq_eq_false rfl | decide)) (by omega) (by omega) (by omega) dX8_failureOfHas_39 (fun y14 => ?_) (fun r15 y14 gr15 lr15 => ?_)
          · refine lv_astore_nN (lv' := [(2, .null), (0, .ref (ad 15 x)), (1, .ref (ad 25 g))]) hx hb dX8_failureOfHas_40 rfl hl (by decide) rfl (fun ls hl => ?_)
            refine lv_aload_nN hx hb dX8_failureOfHas_41 rfl (lv_at hl 0 rfl) ?_
            refine lv_ifnonnullN hx hb dX8_failureOfHas_42 ?_
            refine lv_iconst (v := jI 1) hx hb dX8_failureOfHas_45 rfl ?_
            rw [hQ9]
            refine ret_i (mc := 0) (ms := 0) hx hb hr hlocks hw hS (by first | exact Nat.le_of_ble_eq_true rfl | omega) (by first | exact Nat.le_of_ble_eq_true rfl | omega) dX8_failureOfHas_46 ?_
            exact ⟨rfl, by omega, fun hk9 => (by unfold ckC; rw [tyo_some y1]; rw [ckF_2 (by omega) (by (try delta Hid at *); omega)]; rw [y14, rlen_n, if_pos (by omega)])⟩
          · refine lv_astore_n (lv' := [(2, .ref (ad 26 r15)), (0, .ref (ad 15 x)), (1, .ref (ad 25 g))]) hx hb dX8_failureOfHas_40 rfl hl (by decide) rfl (fun ls hl => ?_)
            refine lv_aload_n hx hb dX8_failureOfHas_41 rfl (lv_at hl 0 rfl) ?_
            refine lv_ifnonnull (tgt := 47) hx hb dX8_failureOfHas_42 (by decide) ?_
            refine lv_aload_n hx hb dX8_failureOfHas_47 rfl (lv_at hl 1 rfl) ?_
            refine x_geto hx hb hf6 hw (by omega) (by omega) sl_15_1 lk193 dX8_failureOfHas_48 ?_
            refine lv_aload_n hx hb dX8_failureOfHas_51 rfl (lv_at hl 2 rfl) ?_
            refine x_geti (jz := 2) hx hb hf0 hw (by omega) (by omega) sl_25_2 rfl lk308 dX8_failureOfHas_52 ?_
            have f16 : 0 ≤ X 25 g 2 ∧ X 25 g 2 ≤ 4 := hR 25 g 2
            refine x_lald hx hb hK.1 hw (by omega) (by omega) ar_16 (len_E ar_16 (by first | exact Nat.ne_of_beq_eq_false rfl | decide)) (by omega) (by omega) (by omega) dX8_failureOfHas_55 ?_
            have f17 : (-9223372036854775808) ≤ X 16 x (X 25 g 2) ∧ X 16 x (X 25 g 2) ≤ 9223372036854775807 := hR 16 x (X 25 g 2)
            refine lv_lstore_n (lv' := [(3, .long (jL (X 16 x (X 25 g 2)))), (2, .ref (ad 26 r15)), (0, .ref (ad 15 x)), (1, .ref (ad 25 g))]) hx hb dX8_failureOfHas_56 rfl hl (by decide) rfl (fun ls hl => ?_)
            refine lv_lload_n hx hb dX8_failureOfHas_57 rfl (lv_at hl 0 rfl) ?_
            refine lv_lconst (v := jL 0) hx hb dX8_failureOfHas_58 (by decide) ?_
            refine x_lcmp hx hb (by omega) (by omega) dX8_failureOfHas_59 ?_
            obtain ⟨z18, ez18⟩ : ∃ y : Int, y = cmpZ (X 16 x (X 25 g 2)) 0 := ⟨_, rfl⟩
            rw [← ez18]
            have gz18 : (z18 < 0 ↔ ((X 16 x (X 25 g 2)) : Int) < 0) ∧ (z18 = 0 ↔ ((X 16 x (X 25 g 2)) : Int) = 0) ∧ -1 ≤ z18 ∧ z18 ≤ 1 := by rw [ez18]; exact ⟨cmpZ_lt, cmpZ_eq, (cmpZ_r _ _).1, (cmpZ_r _ _).2⟩
            clear ez18
            refine x_if_lt (tgt := 74) hx hb (by omega) dX8_failureOfHas_60 (by decide) (fun c19 => ?_) (fun c19 => ?_)
            · replace c19 := cz_ltT gz18 c19
              clear gz18
              refine lv_iconst (v := jI 2) hx hb dX8_failureOfHas_74 rfl ?_
              rw [hQ9]
              refine ret_i (mc := 0) (ms := 0) hx hb hr hlocks hw hS (by first | exact Nat.le_of_ble_eq_true rfl | omega) (by first | exact Nat.le_of_ble_eq_true rfl | omega) dX8_failureOfHas_75 ?_
              exact ⟨rfl, by omega, fun hk9 => (by unfold ckC; rw [tyo_some y1]; have fl9 := hLn r15; rw [ckF_2 (by omega) (by (try delta Hid at *); omega)]; rw [y14, rlen_s, tyo_s]; (repeat' split) <;> omega)⟩
            · replace c19 := cz_ltF gz18 c19
              clear gz18
              refine lv_lload_n hx hb dX8_failureOfHas_63 rfl (lv_at hl 0 rfl) ?_
              refine lv_aload_n hx hb dX8_failureOfHas_64 rfl (lv_at hl 1 rfl) ?_
              refine x_geto hx hb hf5 hw (by omega) (by omega) sl_26_0 lk161 dX8_failureOfHas_65 ?_
              have f20 : 0 ≤ ln r15 ∧ ln r15 ≤ 12 := hLn r15
              refine x_alenl hx hb hK.1 hw (by omega) (by omega) ar_27 (show lenE ln 27 r15 = ln r15 from rfl) (by omega) dX8_failureOfHas_68 ?_
              refine x_i2l hx hb (by omega) dX8_failureOfHas_69 ?_
              refine x_lcmp hx hb (by omega) (by omega) dX8_failureOfHas_70 ?_
              obtain ⟨z21, ez21⟩ : ∃ y : Int, y = cmpZ (X 16 x (X 25 g 2)) (ln r15) := ⟨_, rfl⟩
              rw [← ez21]
              have gz21 : (z21 < 0 ↔ ((X 16 x (X 25 g 2)) : Int) < (ln r15)) ∧ (z21 = 0 ↔ ((X 16 x (X 25 g 2)) : Int) = (ln r15)) ∧ -1 ≤ z21 ∧ z21 ≤ 1 := by rw [ez21]; exact ⟨cmpZ_lt, cmpZ_eq, (cmpZ_r _ _).1, (cmpZ_r _ _).2⟩
              clear ez21
              refine x_if_lt (tgt := 76) hx hb (by omega) dX8_failureOfHas_71 (by decide) (fun c22 => ?_) (fun c22 => ?_)
              · replace c22 := cz_ltT gz21 c22
                clear gz21
                refine lv_aload_n hx hb dX8_failureOfHas_76 rfl (lv_at hl 1 rfl) ?_
                refine x_geto hx hb hf5 hw (by omega) (by omega) sl_26_0 lk161 dX8_failureOfHas_77 ?_
                refine lv_lload_n hx hb dX8_failureOfHas_80 rfl (lv_at hl 0 rfl) ?_
                refine x_l2i hx hb dX8_failureOfHas_81 ?_
                have f23 : 0 ≤ ln r15 ∧ ln r15 ≤ 12 := hLn r15
                refine x_lald hx hb hK.1 hw (by omega) (by omega) ar_27 (show lenE ln 27 r15 = ln r15 from rfl) (by omega) (by omega) (by omega) dX8_failureOfHas_82 ?_
                have f24 : (-9223372036854775808) ≤ X 27 r15 (X 16 x (X 25 g 2)) ∧ X 27 r15 (X 16 x (X 25 g 2)) ≤ 9223372036854775807 := hR 27 r15 (X 16 x (X 25 g 2))
                refine lv_aload_n hx hb dX8_failureOfHas_83 rfl (lv_at hl 3 rfl) ?_
                refine x_getl (jz := 3) hx hb hf0 hw (by omega) (by omega) sl_25_3 rfl lk311 dX8_failureOfHas_84 ?_
                have f25 : (-9223372036854775808) ≤ X 25 g 3 ∧ X 25 g 3 ≤ 9223372036854775807 := hR 25 g 3
                refine x_lcmp hx hb (by omega) (by omega) dX8_failureOfHas_87 ?_
                obtain ⟨z26, ez26⟩ : ∃ y : Int, y = cmpZ (X 27 r15 (X 16 x (X 25 g 2))) (X 25 g 3) := ⟨_, rfl⟩
                rw [← ez26]
                have gz26 : (z26 < 0 ↔ ((X 27 r15 (X 16 x (X 25 g 2))) : Int) < (X 25 g 3)) ∧ (z26 = 0 ↔ ((X 27 r15 (X 16 x (X 25 g 2))) : Int) = (X 25 g 3)) ∧ -1 ≤ z26 ∧ z26 ≤ 1 := by rw [ez26]; exact ⟨cmpZ_lt, cmpZ_eq, (cmpZ_r _ _).1, (cmpZ_r _ _).2⟩
                clear ez26
                refine x_if_le (tgt := 95) hx hb (by omega) dX8_failureOfHas_88 (by decide) (fun c27 => ?_) (fun c27 => ?_)
                · replace c27 := cz_leT gz26 c27
                  clear gz26
                  refine lv_bipush (v := jI 6) hx hb dX8_failureOfHas_95 (by decide) ?_
                  rw [hQ9]
                  refine ret_i (mc := 0) (ms := 0) hx hb hr hlocks hw hS (by first | exact Nat.le_of_ble_eq_true rfl | omega) (by first | exact Nat.le_of_ble_eq_true rfl | omega) dX8_failureOfHas_97 ?_
                  exact ⟨rfl, by omega, fun hk9 => (by unfold ckC; rw [tyo_some y1]; have fl9 := hLn r15; rw [ckF_2 (by omega) (by (try delta Hid at *); omega)]; rw [y14, rlen_s, tyo_s]; (repeat' split) <;> omega)⟩
                · replace c27 := cz_leF gz26 c27
                  clear gz26
                  refine lv_iconst (v := jI 0) hx hb dX8_failureOfHas_91 rfl ?_
                  refine lv_goto (tgt := 97) hx hb dX8_failureOfHas_92 (by decide) ?_
                  rw [hQ9]
                  refine ret_i (mc := 0) (ms := 0) hx hb hr hlocks hw hS (by first | exact Nat.le_of_ble_eq_true rfl | omega) (by first | exact Nat.le_of_ble_eq_true rfl | omega) dX8_failureOfHas_97 ?_
                  exact ⟨rfl, by omega, fun hk9 => (by unfold ckC; rw [tyo_some y1]; have fl9 := hLn r15; rw [ckF_2 (by omega) (by (try delta Hid at *); omega)]; rw [y14, rlen_s, tyo_s]; (repeat' split) <;> omega)⟩
              · replace c22 := cz_ltF gz21 c22
                clear gz21
                refine lv_iconst (v := jI 2) hx hb dX8_failureOfHas_74 rfl ?_
                rw [hQ9]
                refine ret_i (mc := 0) (ms := 0) hx hb hr hlocks hw hS (by first | exact Nat.le_of_ble_eq_true rfl | omega) (by first | exact Nat.le_of_ble_eq_true rfl | omega) dX8_failureOfHas_75 ?_
                exact ⟨rfl, by omega, fun hk9 => (by unfold ckC; rw [tyo_some y1]; have fl9 := hLn r15; rw [ckF_2 (by omega) (by (try delta Hid at *); omega)]; rw [y14, rlen_s, tyo_s]; (repeat' split) <;> omega)⟩
        · subst ez10
          refine x_if_neF (tgt := 31) hx hb (by omega) (by decide) dX8_failureOfHas_26 (by decide) ?_
          refine lv_iconst (v := jI 4) hx hb dX8_failureOfHas_29 rfl ?_
          rw [hQ9]
          refine ret_i (mc := 0) (ms := 0) hx hb hr hlocks hw hS (by first | exact Nat.le_of_ble_eq_true rfl | omega) (by first | exact Nat.le_of_ble_eq_true rfl | omega) dX8_failureOfHas_30 ?_
          exact ⟨rfl, by omega, fun hk9 => (by unfold ckC; rw [tyo_some y1]; rw [ckF_c ⟨by omega, by omega⟩ (by (try delta Hid at *); omega)])⟩
    · subst ez4
      refine x_if_eqT (tgt := 29) hx hb (by omega) (by decide) dX8_failureOfHas_11 (by decide) ?_
      refine lv_iconst (v := jI 4) hx hb dX8_failureOfHas_29 rfl ?_
      rw [hQ9]
      refine ret_i (mc := 0) (ms := 0) hx hb hr hlocks hw hS (by first | exact Nat.le_of_ble_eq_true rfl | omega) (by first | exact Nat.le_of_ble_eq_true rfl | omega) dX8_failureOfHas_30 ?_
      exact ⟨rfl, by omega, fun hk9 => (by unfold ckC; rw [tyo_some y1]; rw [ckF_c ⟨by omega, by omega⟩ (by (try delta Hid at *); omega)])⟩

set_option maxHeartbeats 4000000 in
set_option maxRecDepth 100000 in
theorem c_X8_failureOfHolds (l : Launch) (D : va_G) (tc : Nat → ClassId) (base : Nat) (ad : Nat → Int → Nat) (cnt : Nat → Int) (X : Nat → Int → Int → Int) (Y : Nat → Int → Int → Option Int) (ln : Int → Int) (hR : Rng X) (hFx : Fx cnt) (hLn : LnOK ln) (hCI : CInv cnt X Y ln) (x g : Int) (hx0 : 0 ≤ x ∧ x ≤ 29) (hxt : x < X 0 0 3) (hg : 0 ≤ g ∧ g < cnt 25) : KI l D tc base yX8_failureOfHolds wsX8_failureOfHolds ({ frames := 3, cells := 0, slots := 0, locals := 64 } : Room) [.ref (ad 15 x), .ref (ad 25 g)] (ad, cnt, X, Y, ln) 0 0 (fun z u => u = (ad, cnt, X, Y, ln) ∧ (0 ≤ z ∧ z ≤ 10) ∧ (X 25 g 0 = 3 → z = ckC X Y ln x g)) := by
  refine K_of (cc := cX8_failureOfHolds) (maxL := 4) (ret := (some .int)) (by decide) rfl (Nat.le_of_ble_eq_true rfl) ?_
  intro p e s m below meth c ls hx hb hr hml hown hts hlocks hl hK hw hS
  have hown : s.vm.findClass RX8 = some m.cls := hown
  obtain ⟨av9, hav9⟩ : ∃ a9 : Array Value, a9 = ([.ref (ad 15 x), .ref (ad 25 g)] : List Value).toArray := ⟨_, rfl⟩
  rw [← hav9] at hts ⊢
  obtain ⟨Q9, hQ9⟩ : ∃ q9Q : State → Prop, q9Q = MQ below (QI D tc base (fun z u => u = (ad, cnt, X, Y, ln) ∧ (0 ≤ z ∧ z ≤ 10) ∧ (X 25 g 0 = 3 → z = ckC X Y ln x g))) av9 s 0 0 (frA base) := ⟨_, rfl⟩
  rw [← hQ9]
  have hi0 : ∀ w ∈ wsX00, w ∈ wsX8_failureOfHolds := fun w h => List.mem_cons_of_mem _ (List.mem_append_left _ (List.mem_append_right _ h))
  have hf0 : fctx s m _ RX8 wsX8_failureOfHolds D tc RX0 TX0 4 0 := ⟨hts, hi0, hown, hK.1, rfl⟩
  have hi6 : ∀ w ∈ wsX60, w ∈ wsX8_failureOfHolds := fun w h => List.mem_cons_of_mem _ (List.mem_append_left _ (List.mem_append_left _ (List.mem_append_right _ h)))
  have hf6 : fctx s m _ RX8 wsX8_failureOfHolds D tc RX6 TX6 4 6 := ⟨hts, hi6, hown, hK.1, rfl⟩
  have lk97 := hts (.fieldLink RX8 97 (TX6 0).1 (TX6 0).2.1 (TX6 0).2.2.1) (gj_X8_failureOfHolds_0 _ (gp_h))
  have lk193 := hts (.fieldLink RX8 193 (TX6 1).1 (TX6 1).2.1 (TX6 1).2.2.1) (gj_X8_failureOfHolds_0 _ (gp_1 (gp_1 gp_h)))
  have lk302 := hts (.fieldLink RX8 302 (TX0 1).1 (TX0 1).2.1 (TX0 1).2.2.1) (gj_X8_failureOfHolds_0 _ (gp_1 gp_h))
  have hc15 : cnt 15 = 30 := hFx.at 15 30 (by decide)
  have hc16 : cnt 16 = 30 := hFx.at 16 30 (by decide)
  have hc27 : cnt 27 = cnt 26 := hFx.2.2
  have hl : lv_has ls 4 [(0, .ref (ad 15 x)), (1, .ref (ad 25 g))] := hl
  have ftc : 0 ≤ X 0 0 3 ∧ X 0 0 3 ≤ 30 := hR 0 0 3
  have fty : 0 ≤ X 0 0 1 ∧ X 0 0 1 ≤ 8 := hR 0 0 1
  have hct : cnt 19 = X 0 0 1 := hCI.2.2.2.1.1
  have hfj : 0 ≤ X 29 0 3 ∧ X 29 0 3 ≤ 4 := hR 29 0 3
  have hfn : 0 ≤ X 29 0 1 ∧ X 29 0 1 ≤ 80 := hR 29 0 1
  have fka : 0 ≤ X 25 g 1 ∧ X 25 g 1 ≤ 4 := hR 25 g 1
  have fkb : 0 ≤ X 25 g 2 ∧ X 25 g 2 ≤ 4 := hR 25 g 2
  have fkk : 0 ≤ X 25 g 0 ∧ X 25 g 0 ≤ 5 := hR 25 g 0
  refine lv_aload_n hx hb dX8_failureOfHolds_0 rfl (lv_at hl 0 rfl) ?_
  refine x_getr (jz := 0) hx hb hf6 hw (by omega) (by omega) sl_15_0 rfl lk97 dX8_failureOfHolds_1 (fun y1 => ?_) (fun r2 y1 gr2 lr2 => ?_)
  · exfalso
    exact absurd y1 (hCI.2.2.2.2.1 x (by omega) (by omega))
  · refine lv_aload_n hx hb dX8_failureOfHolds_4 rfl (lv_at hl 1 rfl) ?_
    refine x_geti (jz := 1) hx hb hf0 hw (by omega) (by omega) sl_25_1 rfl lk302 dX8_failureOfHolds_5 ?_
    have f3 : 0 ≤ X 25 g 1 ∧ X 25 g 1 ≤ 4 := hR 25 g 1
    refine lv_iconst (v := jI 0) hx hb dX8_failureOfHolds_8 rfl ?_
    refine gos_i (run_V (As := [.int (jI (X 25 g 1)), .int (jI 0)]) (rest := []) hx hb hml hown hts (c_X7_hasLane l D tc base ad cnt X Y ln hR hFx hLn r2 (X 25 g 1) 0 (by omega) (by omega) (by omega)) (cwV 2 hts gX8_failureOfHolds_X7_hasLane rfl rfl rfl (by first | exact hd_X7_hasLane | decide +kernel) ⟨Nat.le_of_ble_eq_true rfl, Nat.le_of_ble_eq_true rfl⟩) hK hw (by first | exact Int.le_refl 0 | omega) (by first | exact zlt hc19 | omega) sl_19_0 rfl rfl hl.1 rfl (Nat.le_of_ble_eq_true rfl) dX8_failureOfHolds_9 ⟨Nat.le_of_ble_eq_true rfl, Nat.le_of_ble_eq_true rfl⟩) hS (fun z4 u5 H locs p6 hw hS => ?_)
    obtain ⟨eu5, p6⟩ := p6
    subst eu5
    rcases p6 with ⟨ez4, p6⟩ | ⟨ez4, p6⟩
    · subst ez4
      refine x_if_neT (tgt := 17) hx hb (by omega) (by decide) dX8_failureOfHolds_12 (by decide) ?_
      refine lv_aload_n hx hb dX8_failureOfHolds_17 rfl (lv_at hl 0 rfl) ?_
      refine x_geto hx hb hf6 hw (by omega) (by omega) sl_15_1 lk193 dX8_failureOfHolds_18 ?_
      refine lv_aload_n hx hb dX8_failureOfHolds_21 rfl (lv_at hl 1 rfl) ?_
      refine x_geti (jz := 1) hx hb hf0 hw (by omega) (by omega) sl_25_1 rfl lk302 dX8_failureOfHolds_22 ?_
      have f7 : 0 ≤ X 25 g 1 ∧ X 25 g 1 ≤ 4 := hR 25 g 1
      refine x_lald hx hb hK.1 hw (by omega) (by omega) ar_16 (len_E ar_16 (by first | exact Nat.ne_of_beq_eq_false rfl | decide)) (by omega) (by omega) (by omega) dX8_failureOfHolds_25 ?_
      have f8 : (-9223372036854775808) ≤ X 16 x (X 25 g 1) ∧ X 16 x (X 25 g 1) ≤ 9223372036854775807 := hR 16 x (X 25 g 1)
      refine lv_lstore_n (lv' := [(2, .long (jL (X 16 x (X 25 g 1)))), (0, .ref (ad 15 x)), (1, .ref (ad 25 g))]) hx hb dX8_failureOfHolds_26 rfl hl (by decide) rfl (fun ls hl => ?_)
      refine lv_lload_n hx hb dX8_failureOfHolds_27 rfl (lv_at hl 0 rfl) ?_
      refine lv_ldc2 (v := jL 12) hx hb hown (hts (.constantLong RX8 318 (12)) (by first | exact gj_X8_failureOfHolds_0 _ (gp_1 (gp_1 (gp_1 gp_h))) | decide +kernel)) dX8_failureOfHolds_28 ?_
      refine x_lcmp hx hb (by omega) (by omega) dX8_failureOfHolds_31 ?_
      obtain ⟨z9, ez9⟩ : ∃ y : Int, y = cmpZ (X 16 x (X 25 g 1)) 12 := ⟨_, rfl⟩
      rw [← ez9]
      have gz9 : (z9 < 0 ↔ ((X 16 x (X 25 g 1)) : Int) < 12) ∧ (z9 = 0 ↔ ((X 16 x (X 25 g 1)) : Int) = 12) ∧ -1 ≤ z9 ∧ z9 ≤ 1 := by rw [ez9]; exact ⟨cmpZ_lt, cmpZ_eq, (cmpZ_r _ _).1, (cmpZ_r _ _).2⟩
      clear ez9
      refine x_if_le (tgt := 38) hx hb (by omega) dX8_failureOfHolds_32 (by decide) (fun c10 => ?_) (fun c10 => ?_)
      · replace c10 := cz_leT gz9 c10
        clear gz9
        refine lv_lload_n hx hb dX8_failureOfHolds_38 rfl (lv_at hl 0 rfl) ?_
        refine lv_lconst (v := jL 0) hx hb dX8_failureOfHolds_39 (by decide) ?_
        refine x_lcmp hx hb (by omega) (by omega) dX8_failureOfHolds_40 ?_
        obtain ⟨z11, ez11⟩ : ∃ y : Int, y = cmpZ (X 16 x (X 25 g 1)) 0 := ⟨_, rfl⟩
        rw [← ez11]
        have gz11 : (z11 < 0 ↔ ((X 16 x (X 25 g 1)) : Int) < 0) ∧ (z11 = 0 ↔ ((X 16 x (X 25 g 1)) : Int) = 0) ∧ -1 ≤ z11 ∧ z11 ≤ 1 := by rw [ez11]; exact ⟨cmpZ_lt, cmpZ_eq, (cmpZ_r _ _).1, (cmpZ_r _ _).2⟩
        clear ez11
        refine x_if_ge (tgt := 48) hx hb (by omega) dX8_failureOfHolds_41 (by decide) (fun c12 => ?_) (fun c12 => ?_)
        · replace c12 := cz_geT gz11 c12
          clear gz11
          refine lv_iconst (v := jI 0) hx hb dX8_failureOfHolds_48 rfl ?_
          rw [hQ9]
          refine ret_i (mc := 0) (ms := 0) hx hb hr hlocks hw hS (by first | exact Nat.le_of_ble_eq_true rfl | omega) (by first | exact Nat.le_of_ble_eq_true rfl | omega) dX8_failureOfHolds_49 ?_
          exact ⟨rfl, by omega, fun hk9 => (by unfold ckC; rw [tyo_some y1]; rw [ckF_3 (by omega) (by (try delta Hid at *); omega)]; (repeat' split) <;> omega)⟩
        · replace c12 := cz_geF gz11 c12
          clear gz11
          refine lv_iconst (v := jI 3) hx hb dX8_failureOfHolds_44 rfl ?_
          refine lv_goto (tgt := 49) hx hb dX8_failureOfHolds_45 (by decide) ?_
          rw [hQ9]
          refine ret_i (mc := 0) (ms := 0) hx hb hr hlocks hw hS (by first | exact Nat.le_of_ble_eq_true rfl | omega) (by first | exact Nat.le_of_ble_eq_true rfl | omega) dX8_failureOfHolds_49 ?_
          exact ⟨rfl, by omega, fun hk9 => (by unfold ckC; rw [tyo_some y1]; rw [ckF_3 (by omega) (by (try delta Hid at *); omega)]; (repeat' split) <;> omega)⟩
      · replace c10 := cz_leF gz9 c10
        clear gz9
        refine lv_bipush (v := jI 6) hx hb dX8_failureOfHolds_35 (by decide) ?_
        rw [hQ9]
        refine ret_i (mc := 0) (ms := 0) hx hb hr hlocks hw hS (by first | exact Nat.le_of_ble_eq_true rfl | omega) (by first | exact Nat.le_of_ble_eq_true rfl | omega) dX8_failureOfHolds_37 ?_
        exact ⟨rfl, by omega, fun hk9 => (by unfold ckC; rw [tyo_some y1]; rw [ckF_3 (by omega) (by (try delta Hid at *); omega)]; (repeat' split) <;> omega)⟩
    · subst ez4
      refine x_if_neF (tgt := 17) hx hb (by omega) (by decide) dX8_failureOfHolds_12 (by decide) ?_
      refine lv_iconst (v := jI 4) hx hb dX8_failureOfHolds_15 rfl ?_
      rw [hQ9]
      refine ret_i (mc := 0) (ms := 0) hx hb hr hlocks hw hS (by first | exact Nat.le_of_ble_eq_true rfl | omega) (by first | exact Nat.le_of_ble_eq_true rfl | omega) dX8_failureOfHolds_16 ?_
      exact ⟨rfl, by omega, fun hk9 => (by unfold ckC; rw [tyo_some y1]; rw [ckF_c ⟨by omega, by omega⟩ (by (try delta Hid at *); omega)])⟩

set_option maxHeartbeats 4000000 in
set_option maxRecDepth 100000 in
theorem c_X8_failureOfLeast (l : Launch) (D : va_G) (tc : Nat → ClassId) (base : Nat) (ad : Nat → Int → Nat) (cnt : Nat → Int) (X : Nat → Int → Int → Int) (Y : Nat → Int → Int → Option Int) (ln : Int → Int) (hR : Rng X) (hFx : Fx cnt) (hLn : LnOK ln) (hCI : CInv cnt X Y ln) (x g : Int) (hx0 : 0 ≤ x ∧ x ≤ 29) (hxt : x < X 0 0 3) (hg : 0 ≤ g ∧ g < cnt 25) : KI l D tc base yX8_failureOfLeast wsX8_failureOfLeast ({ frames := 3, cells := 0, slots := 0, locals := 64 } : Room) [.ref (ad 15 x), .ref (ad 25 g)] (ad, cnt, X, Y, ln) 0 0 (fun z u => u = (ad, cnt, X, Y, ln) ∧ (0 ≤ z ∧ z ≤ 10) ∧ (X 25 g 0 = 4 → z = ckC X Y ln x g)) := by
  refine K_of (cc := cX8_failureOfLeast) (maxL := 2) (ret := (some .int)) (by decide) rfl (Nat.le_of_ble_eq_true rfl) ?_
  intro p e s m below meth c ls hx hb hr hml hown hts hlocks hl hK hw hS
  have hown : s.vm.findClass RX8 = some m.cls := hown
  obtain ⟨av9, hav9⟩ : ∃ a9 : Array Value, a9 = ([.ref (ad 15 x), .ref (ad 25 g)] : List Value).toArray := ⟨_, rfl⟩
  rw [← hav9] at hts ⊢
  obtain ⟨Q9, hQ9⟩ : ∃ q9Q : State → Prop, q9Q = MQ below (QI D tc base (fun z u => u = (ad, cnt, X, Y, ln) ∧ (0 ≤ z ∧ z ≤ 10) ∧ (X 25 g 0 = 4 → z = ckC X Y ln x g))) av9 s 0 0 (frA base) := ⟨_, rfl⟩
  rw [← hQ9]
  have hi0 : ∀ w ∈ wsX00, w ∈ wsX8_failureOfLeast := fun w h => List.mem_cons_of_mem _ (List.mem_append_left _ (List.mem_append_right _ h))
  have hf0 : fctx s m _ RX8 wsX8_failureOfLeast D tc RX0 TX0 4 0 := ⟨hts, hi0, hown, hK.1, rfl⟩
  have hi6 : ∀ w ∈ wsX60, w ∈ wsX8_failureOfLeast := fun w h => List.mem_cons_of_mem _ (List.mem_append_left _ (List.mem_append_left _ (List.mem_append_right _ h)))
  have hf6 : fctx s m _ RX8 wsX8_failureOfLeast D tc RX6 TX6 4 6 := ⟨hts, hi6, hown, hK.1, rfl⟩
  have lk97 := hts (.fieldLink RX8 97 (TX6 0).1 (TX6 0).2.1 (TX6 0).2.2.1) (gj_X8_failureOfLeast_0 _ (gp_h))
  have lk193 := hts (.fieldLink RX8 193 (TX6 1).1 (TX6 1).2.1 (TX6 1).2.2.1) (gj_X8_failureOfLeast_0 _ (gp_1 (gp_1 gp_h)))
  have lk302 := hts (.fieldLink RX8 302 (TX0 1).1 (TX0 1).2.1 (TX0 1).2.2.1) (gj_X8_failureOfLeast_0 _ (gp_1 gp_h))
  have lk311 := hts (.fieldLink RX8 311 (TX0 3).1 (TX0 3).2.1 (TX0 3).2.2.1) (gj_X8_failureOfLeast_0 _ (gp_1 (gp_1 (gp_1 gp_h))))
  have hc15 : cnt 15 = 30 := hFx.at 15 30 (by decide)
  have hc16 : cnt 16 = 30 := hFx.at 16 30 (by decide)
  have hc27 : cnt 27 = cnt 26 := hFx.2.2
  have hl : lv_has ls 2 [(0, .ref (ad 15 x)), (1, .ref (ad 25 g))] := hl
  have ftc : 0 ≤ X 0 0 3 ∧ X 0 0 3 ≤ 30 := hR 0 0 3
  have fty : 0 ≤ X 0 0 1 ∧ X 0 0 1 ≤ 8 := hR 0 0 1
  have hct : cnt 19 = X 0 0 1 := hCI.2.2.2.1.1
  have hfj : 0 ≤ X 29 0 3 ∧ X 29 0 3 ≤ 4 := hR 29 0 3
  have hfn : 0 ≤ X 29 0 1 ∧ X 29 0 1 ≤ 80 := hR 29 0 1
  have fka : 0 ≤ X 25 g 1 ∧ X 25 g 1 ≤ 4 := hR 25 g 1
  have fkb : 0 ≤ X 25 g 2 ∧ X 25 g 2 ≤ 4 := hR 25 g 2
  have fkk : 0 ≤ X 25 g 0 ∧ X 25 g 0 ≤ 5 := hR 25 g 0
  refine lv_aload_n hx hb dX8_failureOfLeast_0 rfl (lv_at hl 0 rfl) ?_
  refine x_getr (jz := 0) hx hb hf6 hw (by omega) (by omega) sl_15_0 rfl lk97 dX8_failureOfLeast_1 (fun y1 => ?_) (fun r2 y1 gr2 lr2 => ?_)
  · exfalso
    exact absurd y1 (hCI.2.2.2.2.1 x (by omega) (by omega))
  · refine lv_aload_n hx hb dX8_failureOfLeast_4 rfl (lv_at hl 1 rfl) ?_
    refine x_geti (jz := 1) hx hb hf0 hw (by omega) (by omega) sl_25_1 rfl lk302 dX8_failureOfLeast_5 ?_
    have f3 : 0 ≤ X 25 g 1 ∧ X 25 g 1 ≤ 4 := hR 25 g 1
    refine lv_iconst (v := jI 0) hx hb dX8_failureOfLeast_8 rfl ?_
    refine gos_i (run_V (As := [.int (jI (X 25 g 1)), .int (jI 0)]) (rest := []) hx hb hml hown hts (c_X7_hasLane l D tc base ad cnt X Y ln hR hFx hLn r2 (X 25 g 1) 0 (by omega) (by omega) (by omega)) (cwV 2 hts gX8_failureOfLeast_X7_hasLane rfl rfl rfl (by first | exact hd_X7_hasLane | decide +kernel) ⟨Nat.le_of_ble_eq_true rfl, Nat.le_of_ble_eq_true rfl⟩) hK hw (by first | exact Int.le_refl 0 | omega) (by first | exact zlt hc19 | omega) sl_19_0 rfl rfl hl.1 rfl (Nat.le_of_ble_eq_true rfl) dX8_failureOfLeast_9 ⟨Nat.le_of_ble_eq_true rfl, Nat.le_of_ble_eq_true rfl⟩) hS (fun z4 u5 H locs p6 hw hS => ?_)
    obtain ⟨eu5, p6⟩ := p6
    subst eu5
    rcases p6 with ⟨ez4, p6⟩ | ⟨ez4, p6⟩
    · subst ez4
      refine x_if_neT (tgt := 17) hx hb (by omega) (by decide) dX8_failureOfLeast_12 (by decide) ?_
      refine lv_aload_n hx hb dX8_failureOfLeast_17 rfl (lv_at hl 0 rfl) ?_
      refine x_geto hx hb hf6 hw (by omega) (by omega) sl_15_1 lk193 dX8_failureOfLeast_18 ?_
      refine lv_aload_n hx hb dX8_failureOfLeast_21 rfl (lv_at hl 1 rfl) ?_
      refine x_geti (jz := 1) hx hb hf0 hw (by omega) (by omega) sl_25_1 rfl lk302 dX8_failureOfLeast_22 ?_
      have f7 : 0 ≤ X 25 g 1 ∧ X 25 g 1 ≤ 4 := hR 25 g 1
      refine x_lald hx hb hK.1 hw (by omega) (by omega) ar_16 (len_E ar_16 (by first | exact Nat.ne_of_beq_eq_false rfl | decide)) (by omega) (by omega) (by omega) dX8_failureOfLeast_25 ?_
      have f8 : (-9223372036854775808) ≤ X 16 x (X 25 g 1) ∧ X 16 x (X 25 g 1) ≤ 9223372036854775807 := hR 16 x (X 25 g 1)
      refine lv_aload_n hx hb dX8_failureOfLeast_26 rfl (lv_at hl 1 rfl) ?_
      refine x_getl (jz := 3) hx hb hf0 hw (by omega) (by omega) sl_25_3 rfl lk311 dX8_failureOfLeast_27 ?_
      have f9 : (-9223372036854775808) ≤ X 25 g 3 ∧ X 25 g 3 ≤ 9223372036854775807 := hR 25 g 3
      refine x_lcmp hx hb (by omega) (by omega) dX8_failureOfLeast_30 ?_
      obtain ⟨z10, ez10⟩ : ∃ y : Int, y = cmpZ (X 16 x (X 25 g 1)) (X 25 g 3) := ⟨_, rfl⟩
      rw [← ez10]
      have gz10 : (z10 < 0 ↔ ((X 16 x (X 25 g 1)) : Int) < (X 25 g 3)) ∧ (z10 = 0 ↔ ((X 16 x (X 25 g 1)) : Int) = (X 25 g 3)) ∧ -1 ≤ z10 ∧ z10 ≤ 1 := by rw [ez10]; exact ⟨cmpZ_lt, cmpZ_eq, (cmpZ_r _ _).1, (cmpZ_r _ _).2⟩
      clear ez10
      refine x_if_ge (tgt := 39) hx hb (by omega) dX8_failureOfLeast_31 (by decide) (fun c11 => ?_) (fun c11 => ?_)
      · replace c11 := cz_geT gz10 c11
        clear gz10
        refine lv_iconst (v := jI 0) hx hb dX8_failureOfLeast_39 rfl ?_
        rw [hQ9]
        refine ret_i (mc := 0) (ms := 0) hx hb hr hlocks hw hS (by first | exact Nat.le_of_ble_eq_true rfl | omega) (by first | exact Nat.le_of_ble_eq_true rfl | omega) dX8_failureOfLeast_40 ?_
        exact ⟨rfl, by omega, fun hk9 => (by unfold ckC; rw [tyo_some y1]; rw [ckF_4 (by omega) (by (try delta Hid at *); omega)]; (repeat' split) <;> omega)⟩
      · replace c11 := cz_geF gz10 c11
        clear gz10
        refine lv_bipush (v := jI 6) hx hb dX8_failureOfLeast_34 (by decide) ?_
        refine lv_goto (tgt := 40) hx hb dX8_failureOfLeast_36 (by decide) ?_
        rw [hQ9]
        refine ret_i (mc := 0) (ms := 0) hx hb hr hlocks hw hS (by first | exact Nat.le_of_ble_eq_true rfl | omega) (by first | exact Nat.le_of_ble_eq_true rfl | omega) dX8_failureOfLeast_40 ?_
        exact ⟨rfl, by omega, fun hk9 => (by unfold ckC; rw [tyo_some y1]; rw [ckF_4 (by omega) (by (try delta Hid at *); omega)]; (repeat' split) <;> omega)⟩
    · subst ez4
      refine x_if_neF (tgt := 17) hx hb (by omega) (by decide) dX8_failureOfLeast_12 (by decide) ?_
      refine lv_iconst (v := jI 4) hx hb dX8_failureOfLeast_15 rfl ?_
      rw [hQ9]
      refine ret_i (mc := 0) (ms := 0) hx hb hr hlocks hw hS (by first | exact Nat.le_of_ble_eq_true rfl | omega) (by first | exact Nat.le_of_ble_eq_true rfl | omega) dX8_failureOfLeast_16 ?_
      exact ⟨rfl, by omega, fun hk9 => (by unfold ckC; rw [tyo_some y1]; rw [ckF_c ⟨by omega, by omega⟩ (by (try delta Hid at *); omega)])⟩

set_option maxHeartbeats 4000000 in
set_option maxRecDepth 100000 in
theorem c_X8_failureOfLeads (l : Launch) (D : va_G) (tc : Nat → ClassId) (base : Nat) (ad : Nat → Int → Nat) (cnt : Nat → Int) (X : Nat → Int → Int → Int) (Y : Nat → Int → Int → Option Int) (ln : Int → Int) (hR : Rng X) (hFx : Fx cnt) (hLn : LnOK ln) (hCI : CInv cnt X Y ln) (x g : Int) (hx0 : 0 ≤ x ∧ x ≤ 29) (hxt : x < X 0 0 3) (hg : 0 ≤ g ∧ g < cnt 25) : KI l D tc base yX8_failureOfLeads wsX8_failureOfLeads ({ frames := 3, cells := 0, slots := 0, locals := 64 } : Room) [.ref (ad 0 0), .ref (ad 15 x), .ref (ad 25 g)] (ad, cnt, X, Y, ln) 0 0 (fun z u => u = (ad, cnt, X, Y, ln) ∧ (0 ≤ z ∧ z ≤ 10) ∧ (X 25 g 0 = 5 → z = ckC X Y ln x g)) := by
  refine K_of (cc := cX8_failureOfLeads) (maxL := 5) (ret := (some .int)) (by decide) rfl (Nat.le_of_ble_eq_true rfl) ?_
  intro p e s m below meth c ls hx hb hr hml hown hts hlocks hl hK hw hS
  have hown : s.vm.findClass RX8 = some m.cls := hown
  obtain ⟨av9, hav9⟩ : ∃ a9 : Array Value, a9 = ([.ref (ad 0 0), .ref (ad 15 x), .ref (ad 25 g)] : List Value).toArray := ⟨_, rfl⟩
  rw [← hav9] at hts ⊢
  obtain ⟨Q9, hQ9⟩ : ∃ q9Q : State → Prop, q9Q = MQ below (QI D tc base (fun z u => u = (ad, cnt, X, Y, ln) ∧ (0 ≤ z ∧ z ≤ 10) ∧ (X 25 g 0 = 5 → z = ckC X Y ln x g))) av9 s 0 0 (frA base) := ⟨_, rfl⟩
  rw [← hQ9]
  have hi0 : ∀ w ∈ wsX00, w ∈ wsX8_failureOfLeads := fun w h => List.mem_cons_of_mem _ (List.mem_append_left _ (List.mem_append_left _ (List.mem_append_right _ h)))
  have hf0 : fctx s m _ RX8 wsX8_failureOfLeads D tc RX0 TX0 4 0 := ⟨hts, hi0, hown, hK.1, rfl⟩
  have hi6 : ∀ w ∈ wsX60, w ∈ wsX8_failureOfLeads := fun w h => List.mem_cons_of_mem _ (List.mem_append_left _ (List.mem_append_left _ (List.mem_append_left _ (List.mem_append_right _ h))))
  have hf6 : fctx s m _ RX8 wsX8_failureOfLeads D tc RX6 TX6 4 6 := ⟨hts, hi6, hown, hK.1, rfl⟩
  have hi7 : ∀ w ∈ wsX70, w ∈ wsX8_failureOfLeads := fun w h => List.mem_cons_of_mem _ (List.mem_append_left _ (List.mem_append_right _ h))
  have hf7 : fctx s m _ RX8 wsX8_failureOfLeads D tc RX7 TX7 8 7 := ⟨hts, hi7, hown, hK.1, rfl⟩
  have lk97 := hts (.fieldLink RX8 97 (TX6 0).1 (TX6 0).2.1 (TX6 0).2.2.1) (gj_X8_failureOfLeads_0 _ (gp_h))
  have lk193 := hts (.fieldLink RX8 193 (TX6 1).1 (TX6 1).2.1 (TX6 1).2.2.1) (gj_X8_failureOfLeads_0 _ (gp_1 (gp_1 gp_h)))
  have lk302 := hts (.fieldLink RX8 302 (TX0 1).1 (TX0 1).2.1 (TX0 1).2.2.1) (gj_X8_failureOfLeads_0 _ (gp_1 gp_h))
  have lk320 := hts (.fieldLink RX8 320 (TX7 2).1 (TX7 2).2.1 (TX7 2).2.2.1) (gj_X8_failureOfLeads_0 _ (gp_1 (gp_1 (gp_1 gp_h))))
  have hc0 : cnt 0 = 1 := hFx.at 0 1 (by decide)
  have hc15 : cnt 15 = 30 := hFx.at 15 30 (by decide)
  have hc16 : cnt 16 = 30 := hFx.at 16 30 (by decide)
  have hc20 : cnt 20 = cnt 19 := hFx.2.1 20 (by decide)
  have hc27 : cnt 27 = cnt 26 := hFx.2.2
  have hl : lv_has ls 5 [(0, .ref (ad 0 0)), (1, .ref (ad 15 x)), (2, .ref (ad 25 g))] := hl
  have ftc : 0 ≤ X 0 0 3 ∧ X 0 0 3 ≤ 30 := hR 0 0 3
  have fty : 0 ≤ X 0 0 1 ∧ X 0 0 1 ≤ 8 := hR 0 0 1
  have hct : cnt 19 = X 0 0 1 := hCI.2.2.2.1.1
  have hfj : 0 ≤ X 29 0 3 ∧ X 29 0 3 ≤ 4 := hR 29 0 3
  have hfn : 0 ≤ X 29 0 1 ∧ X 29 0 1 ≤ 80 := hR 29 0 1
  have fka : 0 ≤ X 25 g 1 ∧ X 25 g 1 ≤ 4 := hR 25 g 1
  have fkb : 0 ≤ X 25 g 2 ∧ X 25 g 2 ≤ 4 := hR 25 g 2
  have fkk : 0 ≤ X 25 g 0 ∧ X 25 g 0 ≤ 5 := hR 25 g 0
  refine lv_aload_n hx hb dX8_failureOfLeads_0 rfl (lv_at hl 1 rfl) ?_
  refine x_getr (jz := 0) hx hb hf6 hw (by omega) (by omega) sl_15_0 rfl lk97 dX8_failureOfLeads_1 (fun y1 => ?_) (fun r2 y1 gr2 lr2 => ?_)
  · exfalso
    exact absurd y1 (hCI.2.2.2.2.1 x (by omega) (by omega))
  · refine lv_aload_n hx hb dX8_failureOfLeads_4 rfl (lv_at hl 2 rfl) ?_
    refine x_geti (jz := 1) hx hb hf0 hw (by omega) (by omega) sl_25_1 rfl lk302 dX8_failureOfLeads_5 ?_
    have f3 : 0 ≤ X 25 g 1 ∧ X 25 g 1 ≤ 4 := hR 25 g 1
    refine lv_iconst (v := jI 2) hx hb dX8_failureOfLeads_8 rfl ?_
    refine gos_i (run_V (As := [.int (jI (X 25 g 1)), .int (jI 2)]) (rest := []) hx hb hml hown hts (c_X7_hasLane l D tc base ad cnt X Y ln hR hFx hLn r2 (X 25 g 1) 2 (by omega) (by omega) (by omega)) (cwV 2 hts gX8_failureOfLeads_X7_hasLane rfl rfl rfl (by first | exact hd_X7_hasLane | decide +kernel) ⟨Nat.le_of_ble_eq_true rfl, Nat.le_of_ble_eq_true rfl⟩) hK hw (by first | exact Int.le_refl 0 | omega) (by first | exact zlt hc19 | omega) sl_19_0 rfl rfl hl.1 rfl (Nat.le_of_ble_eq_true rfl) dX8_failureOfLeads_9 ⟨Nat.le_of_ble_eq_true rfl, Nat.le_of_ble_eq_true rfl⟩) hS (fun z4 u5 H locs p6 hw hS => ?_)
    obtain ⟨eu5, p6⟩ := p6
    subst eu5
    rcases p6 with ⟨ez4, p6⟩ | ⟨ez4, p6⟩
    · subst ez4
      refine x_if_neT (tgt := 17) hx hb (by omega) (by decide) dX8_failureOfLeads_12 (by decide) ?_
      refine lv_aload_n hx hb dX8_failureOfLeads_17 rfl (lv_at hl 0 rfl) ?_
      refine lv_aload_n hx hb dX8_failureOfLeads_18 rfl (lv_at hl 1 rfl) ?_
      refine x_geto hx hb hf6 hw (by omega) (by omega) sl_15_1 lk193 dX8_failureOfLeads_19 ?_
      refine lv_aload_n hx hb dX8_failureOfLeads_22 rfl (lv_at hl 2 rfl) ?_
      refine x_geti (jz := 1) hx hb hf0 hw (by omega) (by omega) sl_25_1 rfl lk302 dX8_failureOfLeads_23 ?_
      have f7 : 0 ≤ X 25 g 1 ∧ X 25 g 1 ≤ 4 := hR 25 g 1
      refine x_lald hx hb hK.1 hw (by omega) (by omega) ar_16 (len_E ar_16 (by first | exact Nat.ne_of_beq_eq_false rfl | decide)) (by omega) (by omega) (by omega) dX8_failureOfLeads_26 ?_
      have f8 : (-9223372036854775808) ≤ X 16 x (X 25 g 1) ∧ X 16 x (X 25 g 1) ≤ 9223372036854775807 := hR 16 x (X 25 g 1)
      refine gos_r (run_V (As := [.long (jL (X 16 x (X 25 g 1)))]) (rest := []) hx hb hml hown hts (c_X8_thingNumbered l D tc base ad cnt X Y ln hR hFx hLn hCI (X 16 x (X 25 g 1)) (by omega)) (cwV 1 hts gX8_failureOfLeads_X8_thingNumbered rfl rfl rfl (by first | exact hd_X8_thingNumbered | decide +kernel) ⟨Nat.le_of_ble_eq_true rfl, Nat.le_of_ble_eq_true rfl⟩) hK hw (by first | exact Int.le_refl 0 | omega) (by first | exact zlt hc0 | omega) sl_0_0 rfl rfl hl.1 rfl (Nat.le_of_ble_eq_true rfl) dX8_failureOfLeads_27 ⟨Nat.le_of_ble_eq_true rfl, Nat.le_of_ble_eq_true rfl⟩) hS (fun u10 H locs p11 hw hS => ?_) (fun z9 u10 H locs p11 hw hS => ?_)
      · obtain ⟨eu10, hsp11, hnp11⟩ := p11
        subst eu10
        refine lv_astore_nN (lv' := [(3, .null), (0, .ref (ad 0 0)), (1, .ref (ad 15 x)), (2, .ref (ad 25 g))]) hx hb dX8_failureOfLeads_30 rfl hl (by decide) rfl (fun ls hl => ?_)
        refine lv_aload_nN hx hb dX8_failureOfLeads_31 rfl (lv_at hl 0 rfl) ?_
        refine lv_ifnonnullN hx hb dX8_failureOfLeads_32 ?_
        refine lv_iconst (v := jI 1) hx hb dX8_failureOfLeads_35 rfl ?_
        rw [hQ9]
        refine ret_i (mc := 0) (ms := 0) hx hb hr hlocks hw hS (by first | exact Nat.le_of_ble_eq_true rfl | omega) (by first | exact Nat.le_of_ble_eq_true rfl | omega) dX8_failureOfLeads_36 ?_
        exact ⟨rfl, by omega, fun hk9 => (by unfold ckC; rw [tyo_some y1]; rw [ckF_5 (by omega) (by (try delta Hid at *); omega)]; rw [if_neg (show ¬ (0 ≤ X 16 x (X 25 g 1) ∧ X 16 x (X 25 g 1) < X 0 0 3) from hnp11 rfl), if_pos (by omega)])⟩
      · obtain ⟨eu10, hsp11, hnp11⟩ := p11
        subst eu10
        obtain ⟨ezz9, p11⟩ := hsp11 z9 rfl
        refine lv_astore_n (lv' := [(3, .ref (ad 15 z9)), (0, .ref (ad 0 0)), (1, .ref (ad 15 x)), (2, .ref (ad 25 g))]) hx hb dX8_failureOfLeads_30 rfl hl (by decide) rfl (fun ls hl => ?_)
        refine lv_aload_n hx hb dX8_failureOfLeads_31 rfl (lv_at hl 0 rfl) ?_
        refine lv_ifnonnull (tgt := 37) hx hb dX8_failureOfLeads_32 (by decide) ?_
        refine lv_aload_n hx hb dX8_failureOfLeads_37 rfl (lv_at hl 0 rfl) ?_
        refine x_getr (jz := 0) hx hb hf6 hw (by omega) (by omega) sl_15_0 rfl lk97 dX8_failureOfLeads_38 (fun y12 => ?_) (fun r13 y12 gr13 lr13 => ?_)
        · exfalso
          exact absurd y12 (hCI.2.2.2.2.1 z9 (by omega) (by omega))
        · refine lv_aload_n hx hb dX8_failureOfLeads_41 rfl (lv_at hl 2 rfl) ?_
          refine x_getr (jz := 0) hx hb hf6 hw (by omega) (by omega) sl_15_0 rfl lk97 dX8_failureOfLeads_42 (fun y14 => ?_) (fun r15 y14 gr15 lr15 => ?_)
          · exfalso
            rw [y1] at y14; cases y14
          · have er15 : r15 = r2 := by rw [y1] at y14; cases y14; rfl
            rw [er15]
            refine x_geto hx hb hf7 hw (by omega) (by omega) sl_19_2 lk320 dX8_failureOfLeads_45 ?_
            refine lv_aload_n hx hb dX8_failureOfLeads_48 rfl (lv_at hl 3 rfl) ?_
            refine x_geti (jz := 1) hx hb hf0 hw (by omega) (by omega) sl_25_1 rfl lk302 dX8_failureOfLeads_49 ?_
            have f16 : 0 ≤ X 25 g 1 ∧ X 25 g 1 ≤ 4 := hR 25 g 1
            refine x_iald hx hb hK.1 hw (by omega) (by omega) ar_20 (len_E ar_20 (by first | exact Nat.ne_of_beq_eq_false rfl | decide)) (by omega) (by omega) (by omega) dX8_failureOfLeads_52 ?_
            have f17 : 0 ≤ X 20 r2 (X 25 g 1) ∧ X 20 r2 (X 25 g 1) ≤ 19 := hR 20 r2 (X 25 g 1)
            refine gos_i (run_V (As := [.int (jI (X 20 r2 (X 25 g 1)))]) (rest := []) hx hb hml hown hts (c_X7_fieldNamed l D tc base ad cnt X Y ln hR hFx hLn r13 (X 20 r2 (X 25 g 1)) (by omega) (by omega)) (cwV 1 hts gX8_failureOfLeads_X7_fieldNamed rfl rfl rfl (by first | exact hd_X7_fieldNamed | decide +kernel) ⟨Nat.le_of_ble_eq_true rfl, Nat.le_of_ble_eq_true rfl⟩) hK hw (by first | exact Int.le_refl 0 | omega) (by first | exact zlt hc19 | omega) sl_19_0 rfl rfl hl.1 rfl (Nat.le_of_ble_eq_true rfl) dX8_failureOfLeads_53 ⟨Nat.le_of_ble_eq_true rfl, Nat.le_of_ble_eq_true rfl⟩) hS (fun z18 u19 H locs p20 hw hS => ?_)
            obtain ⟨eu19, p20⟩ := p20
            subst eu19
            refine lv_istore (lv' := [(4, .int (jI z18)), (3, .ref (ad 15 z9)), (0, .ref (ad 0 0)), (1, .ref (ad 15 x)), (2, .ref (ad 25 g))]) hx hb dX8_failureOfLeads_56 hl (by decide) rfl (fun ls hl => ?_)
            refine lv_aload_n hx hb dX8_failureOfLeads_58 rfl (lv_at hl 1 rfl) ?_
            refine x_getr (jz := 0) hx hb hf6 hw (by omega) (by omega) sl_15_0 rfl lk97 dX8_failureOfLeads_59 (fun y21 => ?_) (fun r22 y21 gr22 lr22 => ?_)
            · exfalso
              rw [y12] at y21; cases y21
            · have er22 : r22 = r13 := by rw [y12] at y21; cases y21; rfl
              rw [er22]
              refine lv_iload hx hb dX8_failureOfLeads_62 (lv_at hl 0 rfl) ?_
              refine lv_iconst (v := jI 2) hx hb dX8_failureOfLeads_64 rfl ?_
              refine gos_i (run_V (As := [.int (jI z18), .int (jI 2)]) (rest := []) hx hb hml hown hts (c_X7_hasLane l D tc base ad cnt X Y ln hR hFx hLn r13 z18 2 (by omega) (by omega) (by omega)) (cwV 2 hts gX8_failureOfLeads_X7_hasLane rfl rfl rfl (by first | exact hd_X7_hasLane | decide +kernel) ⟨Nat.le_of_ble_eq_true rfl, Nat.le_of_ble_eq_true rfl⟩) hK hw (by first | exact Int.le_refl 0 | omega) (by first | exact zlt hc19 | omega) sl_19_0 rfl rfl hl.1 rfl (Nat.le_of_ble_eq_true rfl) dX8_failureOfLeads_65 ⟨Nat.le_of_ble_eq_true rfl, Nat.le_of_ble_eq_true rfl⟩) hS (fun z23 u24 H locs p25 hw hS => ?_)
              obtain ⟨eu24, p25⟩ := p25
              subst eu24
              rcases p25 with ⟨ez23, p25⟩ | ⟨ez23, p25⟩
              · subst ez23
                refine x_if_neT (tgt := 73) hx hb (by omega) (by decide) dX8_failureOfLeads_68 (by decide) ?_
                refine lv_aload_n hx hb dX8_failureOfLeads_73 rfl (lv_at hl 2 rfl) ?_
                refine lv_aload_n hx hb dX8_failureOfLeads_74 rfl (lv_at hl 1 rfl) ?_
                refine x_geto hx hb hf6 hw (by omega) (by omega) sl_15_1 lk193 dX8_failureOfLeads_75 ?_
                refine lv_iload hx hb dX8_failureOfLeads_78 (lv_at hl 0 rfl) ?_
                refine x_lald hx hb hK.1 hw (by omega) (by omega) ar_16 (len_E ar_16 (by first | exact Nat.ne_of_beq_eq_false rfl | decide)) (by omega) (by omega) (by omega) dX8_failureOfLeads_80 ?_
                have f26 : (-9223372036854775808) ≤ X 16 z9 z18 ∧ X 16 z9 z18 ≤ 9223372036854775807 := hR 16 z9 z18
                refine gos_r (run_V (As := [.long (jL (X 16 z9 z18))]) (rest := []) hx hb hml hown hts (c_X8_thingNumbered l D tc base ad cnt X Y ln hR hFx hLn hCI (X 16 z9 z18) (by omega)) (cwV 1 hts gX8_failureOfLeads_X8_thingNumbered rfl rfl rfl (by first | exact hd_X8_thingNumbered | decide +kernel) ⟨Nat.le_of_ble_eq_true rfl, Nat.le_of_ble_eq_true rfl⟩) hK hw (by first | exact Int.le_refl 0 | omega) (by first | exact zlt hc0 | omega) sl_0_0 rfl rfl hl.1 rfl (Nat.le_of_ble_eq_true rfl) dX8_failureOfLeads_81 ⟨Nat.le_of_ble_eq_true rfl, Nat.le_of_ble_eq_true rfl⟩) hS (fun u28 H locs p29 hw hS => ?_) (fun z27 u28 H locs p29 hw hS => ?_)
                · obtain ⟨eu28, hsp29, hnp29⟩ := p29
                  subst eu28
                  refine lv_ifnonnullN hx hb dX8_failureOfLeads_84 ?_
                  refine lv_iconst (v := jI 1) hx hb dX8_failureOfLeads_87 rfl ?_
                  refine lv_goto (tgt := 92) hx hb dX8_failureOfLeads_88 (by decide) ?_
                  rw [hQ9]
                  refine ret_i (mc := 0) (ms := 0) hx hb hr hlocks hw hS (by first | exact Nat.le_of_ble_eq_true rfl | omega) (by first | exact Nat.le_of_ble_eq_true rfl | omega) dX8_failureOfLeads_92 ?_
                  refine ⟨rfl, ?g9p555, ?g9p556⟩
                  case g9p555 => omega
                  case g9p556 => exact fun hk9 => (by unfold ckC; rw [tyo_some y1]; rw [ckF_5 (by omega) (by (try delta Hid at *); omega)]; have hmt : (if 0 ≤ X 16 x (X 25 g 1) ∧ X 16 x (X 25 g 1) < X 0 0 3 then X 19 (tyo (Y 15 (X 16 x (X 25 g 1)) 0)) 0 else -1) = X 19 r13 0 := (by rw [if_pos ⟨by omega, by omega⟩, ← ezz9, tyo_some y12]); have f19 : 0 ≤ X 19 r13 0 ∧ X 19 r13 0 ≤ 7 := hR 19 r13 0; rw [hmt]; unfold ldC; rw [← ezz9, tyo_some y12, tyo_some y1, ← p20.2.2.2]; have h9n : ¬ (0 ≤ X 16 z9 z18 ∧ X 16 z9 z18 < X 0 0 3) := hnp29 rfl; (try delta Hid at *); (repeat' split) <;> omega)
                · obtain ⟨eu28, hsp29, hnp29⟩ := p29
                  subst eu28
                  obtain ⟨ezz27, p29⟩ := hsp29 z27 rfl
                  refine lv_ifnonnull (tgt := 91) hx hb dX8_failureOfLeads_84 (by decide) ?_
                  refine lv_iconst (v := jI 0) hx hb dX8_failureOfLeads_91 rfl ?_
                  rw [hQ9]
                  refine ret_i (mc := 0) (ms := 0) hx hb hr hlocks hw hS (by first | exact Nat.le_of_ble_eq_true rfl | omega) (by first | exact Nat.le_of_ble_eq_true rfl | omega) dX8_failureOfLeads_92 ?_
                  refine ⟨rfl, ?g9p557, ?g9p558⟩
                  case g9p557 => omega
                  case g9p558 => exact fun hk9 => (by unfold ckC; rw [tyo_some y1]; rw [ckF_5 (by omega) (by (try delta Hid at *); omega)]; have hmt : (if 0 ≤ X 16 x (X 25 g 1) ∧ X 16 x (X 25 g 1) < X 0 0 3 then X 19 (tyo (Y 15 (X 16 x (X 25 g 1)) 0)) 0 else -1) = X 19 r13 0 := (by rw [if_pos ⟨by omega, by omega⟩, ← ezz9, tyo_some y12]); have f19 : 0 ≤ X 19 r13 0 ∧ X 19 r13 0 ≤ 7 := hR 19 r13 0; rw [hmt]; unfold ldC; rw [← ezz9, tyo_some y12, tyo_some y1, ← p20.2.2.2]; (try delta Hid at *); (repeat' split) <;> omega)
              · subst ez23
                refine x_if_neF (tgt := 73) hx hb (by omega) (by decide) dX8_failureOfLeads_68 (by decide) ?_
                refine lv_iconst (v := jI 4) hx hb dX8_failureOfLeads_71 rfl ?_
                rw [hQ9]
                refine ret_i (mc := 0) (ms := 0) hx hb hr hlocks hw hS (by first | exact Nat.le_of_ble_eq_true rfl | omega) (by first | exact Nat.le_of_ble_eq_true rfl | omega) dX8_failureOfLeads_72 ?_
                refine ⟨rfl, ?g9p559, ?g9p560⟩
                case g9p559 => omega
                case g9p560 => exact fun hk9 => (by unfold ckC; rw [tyo_some y1]; rw [ckF_5 (by omega) (by (try delta Hid at *); omega)]; have hmt : (if 0 ≤ X 16 x (X 25 g 1) ∧ X 16 x (X 25 g 1) < X 0 0 3 then X 19 (tyo (Y 15 (X 16 x (X 25 g 1)) 0)) 0 else -1) = X 19 r13 0 := (by rw [if_pos ⟨by omega, by omega⟩, ← ezz9, tyo_some y12]); have f19 : 0 ≤ X 19 r13 0 ∧ X 19 r13 0 ≤ 7 := hR 19 r13 0; rw [hmt]; unfold ldC; rw [← ezz9, tyo_some y12, tyo_some y1, ← p20.2.2.2]; (try delta Hid at *); (repeat' split) <;> omega)
    · subst ez4
      refine x_if_neF (tgt := 17) hx hb (by omega) (by decide) dX8_failureOfLeads_12 (by decide) ?_
      refine lv_iconst (v := jI 4) hx hb dX8_failureOfLeads_15 rfl ?_
      rw [hQ9]
      refine ret_i (mc := 0) (ms := 0) hx hb hr hlocks hw hS (by first | exact Nat.le_of_ble_eq_true rfl | omega) (by first | exact Nat.le_of_ble_eq_true rfl | omega) dX8_failureOfLeads_16 ?_
      exact ⟨rfl, by omega, fun hk9 => (by unfold ckC; rw [tyo_some y1]; rw [ckF_c ⟨by omega, by omega⟩ (by (try delta Hid at *); omega)])⟩

set_option maxHeartbeats 4000000 in
set_option maxRecDepth 100000 in
theorem c_X8_failureOf (l : Launch) (D : va_G) (tc : Nat → ClassId) (base : Nat) (ad : Nat → Int → Nat) (cnt : Nat → Int) (X : Nat → Int → Int → Int) (Y : Nat → Int → Int → Option Int) (ln : Int → Int) (hR : Rng X) (hFx : Fx cnt) (hLn : LnOK ln) (hCI : CInv cnt X Y ln) (x g : Int) (hx0 : 0 ≤ x ∧ x ≤ 29) (hxt : x < X 0 0 3) (hg : 0 ≤ g ∧ g < cnt 25) : KI l D tc base yX8_failureOf wsX8_failureOf ({ frames := 4, cells := 0, slots := 0, locals := 88 } : Room) [.ref (ad 0 0), .ref (ad 15 x), .ref (ad 25 g)] (ad, cnt, X, Y, ln) 0 0 (fun z u => u = (ad, cnt, X, Y, ln) ∧ (0 ≤ z ∧ z ≤ 10) ∧ z = ckC X Y ln x g) := by
  refine K_of (cc := cX8_failureOf) (maxL := 3) (ret := (some .int)) (by decide) rfl (Nat.le_of_ble_eq_true rfl) ?_
  intro p e s m below meth c ls hx hb hr hml hown hts hlocks hl hK hw hS
  have hown : s.vm.findClass RX8 = some m.cls := hown
  obtain ⟨av9, hav9⟩ : ∃ a9 : Array Value, a9 = ([.ref (ad 0 0), .ref (ad 15 x), .ref (ad 25 g)] : List Value).toArray := ⟨_, rfl⟩
  rw [← hav9] at hts ⊢
  obtain ⟨Q9, hQ9⟩ : ∃ q9Q : State → Prop, q9Q = MQ below (QI D tc base (fun z u => u = (ad, cnt, X, Y, ln) ∧ (0 ≤ z ∧ z ≤ 10) ∧ z = ckC X Y ln x g)) av9 s 0 0 (frA base) := ⟨_, rfl⟩
  rw [← hQ9]
  have hi0 : ∀ w ∈ wsX00, w ∈ wsX8_failureOf := fun w h => List.mem_cons_of_mem _ (List.mem_append_left _ (List.mem_append_left _ (List.mem_append_left _ (List.mem_append_left _ (List.mem_append_right _ h)))))
  have hf0 : fctx s m _ RX8 wsX8_failureOf D tc RX0 TX0 4 0 := ⟨hts, hi0, hown, hK.1, rfl⟩
  have lk281 := hts (.fieldLink RX8 281 (TX0 0).1 (TX0 0).2.1 (TX0 0).2.2.1) (gj_X8_failureOf_0 _ (gp_h))
  have hc0 : cnt 0 = 1 := hFx.at 0 1 (by decide)
  have hc15 : cnt 15 = 30 := hFx.at 15 30 (by decide)
  have hl : lv_has ls 3 [(0, .ref (ad 0 0)), (1, .ref (ad 15 x)), (2, .ref (ad 25 g))] := hl
  have ftc : 0 ≤ X 0 0 3 ∧ X 0 0 3 ≤ 30 := hR 0 0 3
  have fty : 0 ≤ X 0 0 1 ∧ X 0 0 1 ≤ 8 := hR 0 0 1
  have hct : cnt 19 = X 0 0 1 := hCI.2.2.2.1.1
  have hfj : 0 ≤ X 29 0 3 ∧ X 29 0 3 ≤ 4 := hR 29 0 3
  have hfn : 0 ≤ X 29 0 1 ∧ X 29 0 1 ≤ 80 := hR 29 0 1
  have fka : 0 ≤ X 25 g 1 ∧ X 25 g 1 ≤ 4 := hR 25 g 1
  have fkb : 0 ≤ X 25 g 2 ∧ X 25 g 2 ≤ 4 := hR 25 g 2
  have fkk : 0 ≤ X 25 g 0 ∧ X 25 g 0 ≤ 5 := hR 25 g 0
  refine lv_aload_n hx hb dX8_failureOf_0 rfl (lv_at hl 2 rfl) ?_
  refine x_geti (jz := 0) hx hb hf0 hw (by omega) (by omega) sl_25_0 rfl lk281 dX8_failureOf_1 ?_
  have f1 : 0 ≤ X 25 g 0 ∧ X 25 g 0 ≤ 5 := hR 25 g 0
  have tc2 : (jI (X 25 g 0)).toInt = (X 25 g 0) := jI_toInt (by omega)
  by_cases c2 : (X 25 g 0) < 0 ∨ 4 < (X 25 g 0)
  · refine lv_tableOut (tgt := 71) hx hb dX8_failureOf_4 (by rw [tc2]; exact c2) (by decide) ?_
    refine lv_aload_n hx hb dX8_failureOf_71 rfl (lv_at hl 0 rfl) ?_
    refine lv_aload_n hx hb dX8_failureOf_72 rfl (lv_at hl 1 rfl) ?_
    refine lv_aload_n hx hb dX8_failureOf_73 rfl (lv_at hl 2 rfl) ?_
    refine gos_i (run_V (As := [.ref (ad 15 x), .ref (ad 25 g)]) (rest := []) hx hb hml hown hts (c_X8_failureOfLeads l D tc base ad cnt X Y ln hR hFx hLn hCI x g (by omega) (by omega) (by omega)) (cwV 2 hts gX8_failureOf_X8_failureOfLeads rfl rfl rfl (by first | exact hd_X8_failureOfLeads | decide +kernel) ⟨Nat.le_of_ble_eq_true rfl, Nat.le_of_ble_eq_true rfl⟩) hK hw (by first | exact Int.le_refl 0 | omega) (by first | exact zlt hc0 | omega) sl_0_0 rfl rfl hl.1 rfl (Nat.le_of_ble_eq_true rfl) dX8_failureOf_74 ⟨Nat.le_of_ble_eq_true rfl, Nat.le_of_ble_eq_true rfl⟩) hS (fun z3 u4 H locs p5 hw hS => ?_)
    obtain ⟨eu4, p5⟩ := p5
    subst eu4
    rw [hQ9]
    refine ret_i (mc := 0) (ms := 0) hx hb hr hlocks hw hS (by first | exact Nat.le_of_ble_eq_true rfl | omega) (by first | exact Nat.le_of_ble_eq_true rfl | omega) dX8_failureOf_77 ?_
    exact ⟨rfl, by omega, p5.2 (by omega)⟩
  by_cases c6 : (X 25 g 0) = 0
  · refine lv_tableIn (off := 36) (tgt := 40) hx hb dX8_failureOf_4 (by rw [tc2]; omega) (by rw [tc2]; omega) (by rw [tc2, c6]; rfl) (by decide) ?_
    refine lv_aload_n hx hb dX8_failureOf_40 rfl (lv_at hl 1 rfl) ?_
    refine lv_aload_n hx hb dX8_failureOf_41 rfl (lv_at hl 2 rfl) ?_
    refine gos_i (run_S (As := [.ref (ad 15 x), .ref (ad 25 g)]) (rest := []) hx hb hml hown hts (c_X8_failureOfDivides l D tc base ad cnt X Y ln hR hFx hLn hCI x g (by omega) (by omega) (by omega)) (cwS 2 hts gX8_failureOf_X8_failureOfDivides rfl rfl rfl (by first | exact hd_X8_failureOfDivides | decide +kernel) ⟨Nat.le_of_ble_eq_true rfl, Nat.le_of_ble_eq_true rfl⟩) hK hw rfl hl.1 rfl (Nat.le_of_ble_eq_true rfl) dX8_failureOf_42 ⟨Nat.le_of_ble_eq_true rfl, Nat.le_of_ble_eq_true rfl⟩) hS (fun z7 u8 H locs p9 hw hS => ?_)
    obtain ⟨eu8, p9⟩ := p9
    subst eu8
    rw [hQ9]
    refine ret_i (mc := 0) (ms := 0) hx hb hr hlocks hw hS (by first | exact Nat.le_of_ble_eq_true rfl | omega) (by first | exact Nat.le_of_ble_eq_true rfl | omega) dX8_failureOf_45 ?_
    exact ⟨rfl, by omega, p9.2 (by omega)⟩
  by_cases c10 : (X 25 g 0) = 1
  · refine lv_tableIn (off := 42) (tgt := 46) hx hb dX8_failureOf_4 (by rw [tc2]; omega) (by rw [tc2]; omega) (by rw [tc2, c10]; rfl) (by decide) ?_
    refine lv_aload_n hx hb dX8_failureOf_46 rfl (lv_at hl 0 rfl) ?_
    refine lv_aload_n hx hb dX8_failureOf_47 rfl (lv_at hl 1 rfl) ?_
    refine lv_aload_n hx hb dX8_failureOf_48 rfl (lv_at hl 2 rfl) ?_
    refine gos_i (run_V (As := [.ref (ad 15 x), .ref (ad 25 g)]) (rest := []) hx hb hml hown hts (c_X8_failureOfMeets l D tc base ad cnt X Y ln hR hFx hLn hCI x g (by omega) (by omega) (by omega)) (cwV 2 hts gX8_failureOf_X8_failureOfMeets rfl rfl rfl (by first | exact hd_X8_failureOfMeets | decide +kernel) ⟨Nat.le_of_ble_eq_true rfl, Nat.le_of_ble_eq_true rfl⟩) hK hw (by first | exact Int.le_refl 0 | omega) (by first | exact zlt hc0 | omega) sl_0_0 rfl rfl hl.1 rfl (Nat.le_of_ble_eq_true rfl) dX8_failureOf_49 ⟨Nat.le_of_ble_eq_true rfl, Nat.le_of_ble_eq_true rfl⟩) hS (fun z11 u12 H locs p13 hw hS => ?_)
    obtain ⟨eu12, p13⟩ := p13
    subst eu12
    rw [hQ9]
    refine ret_i (mc := 0) (ms := 0) hx hb hr hlocks hw hS (by first | exact Nat.le_of_ble_eq_true rfl | omega) (by first | exact Nat.le_of_ble_eq_true rfl | omega) dX8_failureOf_52 ?_
    exact ⟨rfl, by omega, p13.2 (by omega)⟩
  by_cases c14 : (X 25 g 0) = 2
  · refine lv_tableIn (off := 49) (tgt := 53) hx hb dX8_failureOf_4 (by rw [tc2]; omega) (by rw [tc2]; omega) (by rw [tc2, c14]; rfl) (by decide) ?_
    refine lv_aload_n hx hb dX8_failureOf_53 rfl (lv_at hl 1 rfl) ?_
    refine lv_aload_n hx hb dX8_failureOf_54 rfl (lv_at hl 2 rfl) ?_
    refine gos_i (run_S (As := [.ref (ad 15 x), .ref (ad 25 g)]) (rest := []) hx hb hml hown hts (c_X8_failureOfHas l D tc base ad cnt X Y ln hR hFx hLn hCI x g (by omega) (by omega) (by omega)) (cwS 2 hts gX8_failureOf_X8_failureOfHas rfl rfl rfl (by first | exact hd_X8_failureOfHas | decide +kernel) ⟨Nat.le_of_ble_eq_true rfl, Nat.le_of_ble_eq_true rfl⟩) hK hw rfl hl.1 rfl (Nat.le_of_ble_eq_true rfl) dX8_failureOf_55 ⟨Nat.le_of_ble_eq_true rfl, Nat.le_of_ble_eq_true rfl⟩) hS (fun z15 u16 H locs p17 hw hS => ?_)
    obtain ⟨eu16, p17⟩ := p17
    subst eu16
    rw [hQ9]
    refine ret_i (mc := 0) (ms := 0) hx hb hr hlocks hw hS (by first | exact Nat.le_of_ble_eq_true rfl | omega) (by first | exact Nat.le_of_ble_eq_true rfl | omega) dX8_failureOf_58 ?_
    exact ⟨rfl, by omega, p17.2 (by omega)⟩
  by_cases c18 : (X 25 g 0) = 3
  · refine lv_tableIn (off := 55) (tgt := 59) hx hb dX8_failureOf_4 (by rw [tc2]; omega) (by rw [tc2]; omega) (by rw [tc2, c18]; rfl) (by decide) ?_
    refine lv_aload_n hx hb dX8_failureOf_59 rfl (lv_at hl 1 rfl) ?_
    refine lv_aload_n hx hb dX8_failureOf_60 rfl (lv_at hl 2 rfl) ?_
    refine gos_i (run_S (As := [.ref (ad 15 x), .ref (ad 25 g)]) (rest := []) hx hb hml hown hts (c_X8_failureOfHolds l D tc base ad cnt X Y ln hR hFx hLn hCI x g (by omega) (by omega) (by omega)) (cwS 2 hts gX8_failureOf_X8_failureOfHolds rfl rfl rfl (by first | exact hd_X8_failureOfHolds | decide +kernel) ⟨Nat.le_of_ble_eq_true rfl, Nat.le_of_ble_eq_true rfl⟩) hK hw rfl hl.1 rfl (Nat.le_of_ble_eq_true rfl) dX8_failureOf_61 ⟨Nat.le_of_ble_eq_true rfl, Nat.le_of_ble_eq_true rfl⟩) hS (fun z19 u20 H locs p21 hw hS => ?_)
    obtain ⟨eu20, p21⟩ := p21
    subst eu20
    rw [hQ9]
    refine ret_i (mc := 0) (ms := 0) hx hb hr hlocks hw hS (by first | exact Nat.le_of_ble_eq_true rfl | omega) (by first | exact Nat.le_of_ble_eq_true rfl | omega) dX8_failureOf_64 ?_
    exact ⟨rfl, by omega, p21.2 (by omega)⟩
  have c22 : (X 25 g 0) = 4 := by omega
  refine lv_tableIn (off := 61) (tgt := 65) hx hb dX8_failureOf_4 (by rw [tc2]; omega) (by rw [tc2]; omega) (by rw [tc2, c22]; rfl) (by decide) ?_
  refine lv_aload_n hx hb dX8_failureOf_65 rfl (lv_at hl 1 rfl) ?_
  refine lv_aload_n hx hb dX8_failureOf_66 rfl (lv_at hl 2 rfl) ?_
  refine gos_i (run_S (As := [.ref (ad 15 x), .ref (ad 25 g)]) (rest := []) hx hb hml hown hts (c_X8_failureOfLeast l D tc base ad cnt X Y ln hR hFx hLn hCI x g (by omega) (by omega) (by omega)) (cwS 2 hts gX8_failureOf_X8_failureOfLeast rfl rfl rfl (by first | exact hd_X8_failureOfLeast | decide +kernel) ⟨Nat.le_of_ble_eq_true rfl, Nat.le_of_ble_eq_true rfl⟩) hK hw rfl hl.1 rfl (Nat.le_of_ble_eq_true rfl) dX8_failureOf_67 ⟨Nat.le_of_ble_eq_true rfl, Nat.le_of_ble_eq_true rfl⟩) hS (fun z23 u24 H locs p25 hw hS => ?_)
  obtain ⟨eu24, p25⟩ := p25
  subst eu24
  rw [hQ9]
  refine ret_i (mc := 0) (ms := 0) hx hb hr hlocks hw hS (by first | exact Nat.le_of_ble_eq_true rfl | omega) (by first | exact Nat.le_of_ble_eq_true rfl | omega) dX8_failureOf_70 ?_
  exact ⟨rfl, by omega, p25.2 (by omega)⟩

set_option maxHeartbeats 4000000 in
set_option maxRecDepth 100000 in
theorem c_X8_firstFailingCheck (l : Launch) (D : va_G) (tc : Nat → ClassId) (base : Nat) (ad : Nat → Int → Nat) (cnt : Nat → Int) (X : Nat → Int → Int → Int) (Y : Nat → Int → Int → Option Int) (ln : Int → Int) (hR : Rng X) (hFx : Fx cnt) (hLn : LnOK ln) (hCI : CInv cnt X Y ln) (x : Int) (hx0 : 0 ≤ x ∧ x ≤ 29) (hxt : x < X 0 0 3) : KI l D tc base yX8_firstFailingCheck wsX8_firstFailingCheck ({ frames := 5, cells := 0, slots := 0, locals := 110 } : Room) [.ref (ad 0 0), .ref (ad 15 x)] (ad, cnt, X, Y, ln) 0 0 (fun z u => u = (ad, cnt, X, Y, ln) ∧ (-1 ≤ z ∧ z ≤ 3) ∧ (∀ t, Y 15 x 0 = some t → z < X 19 t 6) ∧ ((z = -1 ∧ ∀ c, 0 ≤ c → c < X 19 (tyo (Y 15 x 0)) 6 → ckC X Y ln x (tyo (Y 24 (tyo (Y 15 x 0)) c)) = 0) ∨ (0 ≤ z ∧ z < X 19 (tyo (Y 15 x 0)) 6 ∧ (∀ c, 0 ≤ c → c < z → ckC X Y ln x (tyo (Y 24 (tyo (Y 15 x 0)) c)) = 0) ∧ ckC X Y ln x (tyo (Y 24 (tyo (Y 15 x 0)) z)) ≠ 0))) := by
  refine K_of (cc := cX8_firstFailingCheck) (maxL := 3) (ret := (some .int)) (by decide) rfl (Nat.le_of_ble_eq_true rfl) ?_
  intro p e s m below meth c ls hx hb hr hml hown hts hlocks hl hK hw hS
  have hown : s.vm.findClass RX8 = some m.cls := hown
  obtain ⟨av9, hav9⟩ : ∃ a9 : Array Value, a9 = ([.ref (ad 0 0), .ref (ad 15 x)] : List Value).toArray := ⟨_, rfl⟩
  rw [← hav9] at hts ⊢
  obtain ⟨Q9, hQ9⟩ : ∃ q9Q : State → Prop, q9Q = MQ below (QI D tc base (fun z u => u = (ad, cnt, X, Y, ln) ∧ (-1 ≤ z ∧ z ≤ 3) ∧ (∀ t, Y 15 x 0 = some t → z < X 19 t 6) ∧ ((z = -1 ∧ ∀ c, 0 ≤ c → c < X 19 (tyo (Y 15 x 0)) 6 → ckC X Y ln x (tyo (Y 24 (tyo (Y 15 x 0)) c)) = 0) ∨ (0 ≤ z ∧ z < X 19 (tyo (Y 15 x 0)) 6 ∧ (∀ c, 0 ≤ c → c < z → ckC X Y ln x (tyo (Y 24 (tyo (Y 15 x 0)) c)) = 0) ∧ ckC X Y ln x (tyo (Y 24 (tyo (Y 15 x 0)) z)) ≠ 0)))) av9 s 0 0 (frA base) := ⟨_, rfl⟩
  rw [← hQ9]
  have hi6 : ∀ w ∈ wsX60, w ∈ wsX8_firstFailingCheck := fun w h => List.mem_cons_of_mem _ (List.mem_append_left _ (List.mem_append_left _ (List.mem_append_left _ (List.mem_append_left _ (List.mem_append_right _ h)))))
  have hf6 : fctx s m _ RX8 wsX8_firstFailingCheck D tc RX6 TX6 4 6 := ⟨hts, hi6, hown, hK.1, rfl⟩
  have hi7 : ∀ w ∈ wsX70, w ∈ wsX8_firstFailingCheck := fun w h => List.mem_cons_of_mem _ (List.mem_append_left _ (List.mem_append_left _ (List.mem_append_left _ (List.mem_append_right _ h))))
  have hf7 : fctx s m _ RX8 wsX8_firstFailingCheck D tc RX7 TX7 8 7 := ⟨hts, hi7, hown, hK.1, rfl⟩
  have lk97 := hts (.fieldLink RX8 97 (TX6 0).1 (TX6 0).2.1 (TX6 0).2.2.1) (gj_X8_firstFailingCheck_0 _ (gp_h))
  have lk115 := hts (.fieldLink RX8 115 (TX7 6).1 (TX7 6).2.1 (TX7 6).2.2.1) (gj_X8_firstFailingCheck_0 _ (gp_1 gp_h))
  have lk118 := hts (.fieldLink RX8 118 (TX7 7).1 (TX7 7).2.1 (TX7 7).2.2.1) (gj_X8_firstFailingCheck_0 _ (gp_1 (gp_1 gp_h)))
  have hc0 : cnt 0 = 1 := hFx.at 0 1 (by decide)
  have hc15 : cnt 15 = 30 := hFx.at 15 30 (by decide)
  have hc24 : cnt 24 = cnt 19 := hFx.2.1 24 (by decide)
  have hl : lv_has ls 3 [(0, .ref (ad 0 0)), (1, .ref (ad 15 x))] := hl
  have ftc : 0 ≤ X 0 0 3 ∧ X 0 0 3 ≤ 30 := hR 0 0 3
  have fty : 0 ≤ X 0 0 1 ∧ X 0 0 1 ≤ 8 := hR 0 0 1
  have hct : cnt 19 = X 0 0 1 := hCI.2.2.2.1.1
  have hfj : 0 ≤ X 29 0 3 ∧ X 29 0 3 ≤ 4 := hR 29 0 3
  have hfn : 0 ≤ X 29 0 1 ∧ X 29 0 1 ≤ 80 := hR 29 0 1
  refine lv_iconst (v := jI 0) hx hb dX8_firstFailingCheck_0 rfl ?_
  refine lv_istore_n (lv' := [(2, .int (jI 0)), (0, .ref (ad 0 0)), (1, .ref (ad 15 x))]) hx hb dX8_firstFailingCheck_1 rfl hl (by decide) rfl (fun ls hl => ?_)
  have lp2 : ∀ (nn : Nat) (cz : Int) (H : Heap) (locs : List Loc) (ls : Array Slot), (4 - cz) < (nn : Int) → (0 ≤ cz ∧ cz ≤ 4) → (∀ c, 0 ≤ c → c < cz → ckC X Y ln x (tyo (Y 24 (tyo (Y 15 x 0)) c)) = 0) → wd D tc base (ad, cnt, X, Y, ln) H → va_S (frA base) s.heap H locs → lv_has ls 3 [(0, .ref (ad 0 0)), (1, .ref (ad 15 x)), (2, .int (jI cz))] → W p l e ({ frames := 5, cells := 0, slots := 0, locals := 110 } : Room) s m av9 below meth c H locs 0 0 Q9 (F0 m 2 ls []) := by
    intro nn
    induction nn with
    | zero => intro cz H locs ls hm hcz hcl hw hS hl; exfalso; omega
    | succ nn ih2 =>
      intro cz H locs ls hm hcz hcl hw hS hl
      refine lv_iload_n hx hb dX8_firstFailingCheck_2 rfl (lv_at hl 2 rfl) ?_
      refine lv_aload_n hx hb dX8_firstFailingCheck_3 rfl (lv_at hl 1 rfl) ?_
      refine x_getr (jz := 0) hx hb hf6 hw (by omega) (by omega) sl_15_0 rfl lk97 dX8_firstFailingCheck_4 (fun y1 => ?_) (fun r2 y1 gr2 lr2 => ?_)
      · exfalso
        exact absurd y1 (hCI.2.2.2.2.1 x (by omega) (by omega))
      · refine x_geti (jz := 6) hx hb hf7 hw (by omega) (by omega) sl_19_6 rfl lk115 dX8_firstFailingCheck_7 ?_
        have f3 : 0 ≤ X 19 r2 6 ∧ X 19 r2 6 ≤ 4 := hR 19 r2 6
        refine x_icmp_ge (tgt := 38) hx hb (by omega) (by omega) dX8_firstFailingCheck_10 (by decide) (fun c4 => ?_) (fun c4 => ?_)
        · refine lv_iconst (v := jI (-1)) hx hb dX8_firstFailingCheck_38 rfl ?_
          rw [hQ9]
          refine ret_i (mc := 0) (ms := 0) hx hb hr hlocks hw hS (by first | exact Nat.le_of_ble_eq_true rfl | omega) (by first | exact Nat.le_of_ble_eq_true rfl | omega) dX8_firstFailingCheck_39 ?_
          exact ⟨rfl, by omega, fun t ht => (by rw [y1] at ht; cases ht; omega), (by rw [tyo_some y1]; exact Or.inl ⟨rfl, fun c a b => (by have h9 := hcl c a (by omega); first | exact h9 | (rw [tyo_some y1] at h9; exact h9))⟩)⟩
        · refine lv_aload_n hx hb dX8_firstFailingCheck_13 rfl (lv_at hl 0 rfl) ?_
          refine lv_aload_n hx hb dX8_firstFailingCheck_14 rfl (lv_at hl 1 rfl) ?_
          refine lv_aload_n hx hb dX8_firstFailingCheck_15 rfl (lv_at hl 1 rfl) ?_
          refine x_getr (jz := 0) hx hb hf6 hw (by omega) (by omega) sl_15_0 rfl lk97 dX8_firstFailingCheck_16 (fun y5 => ?_) (fun r6 y5 gr6 lr6 => ?_)
          · exfalso
            rw [y1] at y5; cases y5
          · have er6 : r6 = r2 := by rw [y1] at y5; cases y5; rfl
            rw [er6]
            refine x_geto hx hb hf7 hw (by omega) (by omega) sl_19_7 lk118 dX8_firstFailingCheck_19 ?_
            refine lv_iload_n hx hb dX8_firstFailingCheck_22 rfl (lv_at hl 2 rfl) ?_
            refine x_aald hx hb hK.1 hw (by omega) (by omega) ar_24 rfl (len_E ar_24 (by first | exact Nat.ne_of_beq_eq_false rfl | decide)) (by omega) (by omega) (by omega) dX8_firstFailingCheck_23 (fun y7 => ?_) (fun r8 y7 gr8 lr8 => ?_)
            · exfalso
              exact absurd y7 (hCI.2.2.2.2.2.1 r2 cz (by omega) (by omega) (by omega) (by omega))
            · refine gos_i (run_V (As := [.ref (ad 15 x), .ref (ad 25 r8)]) (rest := []) hx hb hml hown hts (c_X8_failureOf l D tc base ad cnt X Y ln hR hFx hLn hCI x r8 (by omega) (by omega) (by omega)) (cwV 2 hts gX8_firstFailingCheck_X8_failureOf rfl rfl rfl (by first | exact hd_X8_failureOf | decide +kernel) ⟨Nat.le_of_ble_eq_true rfl, Nat.le_of_ble_eq_true rfl⟩) hK hw (by first | exact Int.le_refl 0 | omega) (by first | exact zlt hc0 | omega) sl_0_0 rfl rfl hl.1 rfl (Nat.le_of_ble_eq_true rfl) dX8_firstFailingCheck_24 ⟨Nat.le_of_ble_eq_true rfl, Nat.le_of_ble_eq_true rfl⟩) hS (fun z9 u10 H locs p11 hw hS => ?_)
              obtain ⟨eu10, p11⟩ := p11
              subst eu10
              refine x_if_eq (tgt := 32) hx hb (by omega) dX8_firstFailingCheck_27 (by decide) (fun c12 => ?_) (fun c12 => ?_)
              · refine lv_iinc (v := jI (cz + 1)) (lv' := [(2, .int (jI (cz + 1))), (0, .ref (ad 0 0)), (1, .ref (ad 15 x))]) hx hb dX8_firstFailingCheck_32 hl (k := 2) rfl (jI_add _ _) (by decide) rfl (fun ls hl => ?_)
                refine lv_goto (tgt := 2) hx hb dX8_firstFailingCheck_35 (by decide) ?_
                exact ih2 (cz + 1) _ _ _ (by omega) (by omega) (fun c a b => if hc9 : c = cz then (by rw [hc9, tyo_some y1, tyo_some y7]; omega) else hcl c a (by omega)) hw hS (lv_sub hl [1, 2, 0] rfl)
              · refine lv_iload_n hx hb dX8_firstFailingCheck_30 rfl (lv_at hl 2 rfl) ?_
                rw [hQ9]
                refine ret_i (mc := 0) (ms := 0) hx hb hr hlocks hw hS (by first | exact Nat.le_of_ble_eq_true rfl | omega) (by first | exact Nat.le_of_ble_eq_true rfl | omega) dX8_firstFailingCheck_31 ?_
                exact ⟨rfl, by omega, fun t ht => (by rw [y1] at ht; cases ht; omega), (by rw [tyo_some y1]; have h8 := hcl; rw [tyo_some y1] at h8; exact Or.inr ⟨by omega, by omega, h8, (by rw [tyo_some y7]; omega)⟩)⟩
  exact lp2 (4 - 0 : Int).toNat.succ 0 _ _ _ (by omega) (by omega) (fun c a b => by omega) hw hS (lv_sub hl [1, 2, 0] rfl)
end
