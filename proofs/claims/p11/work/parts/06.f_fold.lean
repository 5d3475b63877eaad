/-! recording, as a pure run over positions: s 0 0 how many records, s 1 their things, s 2 0 how many rows, s 3, s 4 the first place of each row, s 5 the values by position -/
def u2 (s : Nat → Int → Int) (κ : Nat) (i v : Int) : Nat → Int → Int := fun κ' i' => if κ' = κ ∧ i' = i then v else s κ' i'
theorem u2_s (s : Nat → Int → Int) (κ : Nat) (i v : Int) : u2 s κ i v κ i = v := by simp [u2]
theorem u2_k (s : Nat → Int → Int) {κ κ' : Nat} (i v i' : Int) (h : κ' ≠ κ) : u2 s κ i v κ' i' = s κ' i' := by simp [u2, h]
theorem u2_i (s : Nat → Int → Int) (κ : Nat) {i i' : Int} (v : Int) (h : i' ≠ i) : u2 s κ i v κ i' = s κ i' := by simp [u2, h]
theorem nmAt_alike {f g : Int → Int} {a b : Int} {n : Nat} (h : ∀ j, 0 ≤ j → j < (n : Int) → (f j = a ↔ g j = b)) : nmAt f a n = nmAt g b n := by
  induction n with
  | zero => rfl
  | succ n ih =>
    have e := ih (fun j h0 h1 => h j h0 (by omega))
    simp only [nmAt]
    rw [e]
    by_cases h2 : f (n : Int) = a
    · rw [if_pos h2, if_pos ((h (n : Int) (by omega) (by omega)).mp h2)]
    · rw [if_neg h2, if_neg (fun q => h2 ((h (n : Int) (by omega) (by omega)).mpr q))]
def recP (la vl rid : Int → Int → Int) (y k p : Int) (s : Nat → Int → Int) : Nat → Int → Int :=
  if la y k < 2 then u2 s 5 p (vl y k)
  else if la y k = 2 then
    (if vl y k < 0 then u2 s 5 p (-1)
    else if nmAt (s 1) (vl y k) (s 0 0).toNat = -1 then u2 (u2 (u2 s 1 (s 0 0) (vl y k)) 5 p (s 0 0)) 0 0 (s 0 0 + 1)
    else u2 s 5 p (nmAt (s 1) (vl y k) (s 0 0).toNat))
  else
    (if rid y k < 0 then u2 s 5 p (-1)
    else if nmAt (fun q => rid (s 3 q) (s 4 q)) (rid y k) (s 2 0).toNat = -1 then u2 (u2 (u2 (u2 s 3 (s 2 0) y) 4 (s 2 0) k) 5 p (s 2 0)) 2 0 (s 2 0 + 1)
    else u2 s 5 p (nmAt (fun q => rid (s 3 q) (s 4 q)) (rid y k) (s 2 0).toNat))
def recK (la vl rid : Int → Int → Int) (s : Nat → Int → Int) (r : Int) : Nat → Nat → Int → Int
  | 0 => s
  | k + 1 => recP la vl rid (s 1 r) (k : Int) (5 * r + (k : Int)) (recK la vl rid s r k)
def recR (fc : Int → Int) (la vl rid : Int → Int → Int) (x : Int) : Nat → Nat → Int → Int
  | 0 => u2 (u2 (u2 (fun _ _ => 0) 1 0 x) 0 0 1) 2 0 0
  | r + 1 => if (r : Int) < recR fc la vl rid x r 0 0 then recK la vl rid (recR fc la vl rid x r) (r : Int) (fc (recR fc la vl rid x r 1 (r : Int))).toNat else recR fc la vl rid x r
/-- what holds all along: the things of the records are things, the rows' first places are places of rows -/
def rInv (H : Int) (fc : Int → Int) (la rid : Int → Int → Int) (s : Nat → Int → Int) : Prop :=
  0 ≤ s 0 0 ∧ (∀ i, 0 ≤ i → i < s 0 0 → 0 ≤ s 1 i ∧ s 1 i < H) ∧ 0 ≤ s 2 0 ∧ ∀ i, 0 ≤ i → i < s 2 0 → (0 ≤ s 3 i ∧ s 3 i < H) ∧ (0 ≤ s 4 i ∧ s 4 i < fc (s 3 i)) ∧ 3 ≤ la (s 3 i) (s 4 i) ∧ 0 ≤ rid (s 3 i) (s 4 i)
section FO
variable {H : Int} {fc fc' : Int → Int} {la la' vl vl' rid rid' : Int → Int → Int} {s : Nat → Int → Int} {y k p x r : Int}
/-- readers that are alike -/
def Alk (H : Int) (fc fc' : Int → Int) (la la' vl vl' rid rid' : Int → Int → Int) : Prop :=
  (∀ y, 0 ≤ y → y < H → fc y = fc' y ∧ ∀ k, 0 ≤ k → k < fc y → la y k = la' y k ∧ (la y k < 3 → vl y k = vl' y k) ∧ (la y k = 2 → vl y k < H) ∧ (3 ≤ la y k → (rid y k < 0 ↔ rid' y k < 0))) ∧
  ∀ y k y' k', 0 ≤ y → y < H → 0 ≤ y' → y' < H → 0 ≤ k → k < fc y → 0 ≤ k' → k' < fc y' → 3 ≤ la y k → 3 ≤ la y' k' → 0 ≤ rid y k → 0 ≤ rid y' k' → (rid y k = rid y' k' ↔ rid' y k = rid' y' k')
theorem recP_inv (h : rInv H fc la rid s) (hy : 0 ≤ y ∧ y < H) (hk : 0 ≤ k ∧ k < fc y) (hv : la y k = 2 → vl y k < H) : rInv H fc la rid (recP la vl rid y k p s) := by
  obtain ⟨h1, h2, h3, h4⟩ := h
  unfold recP
  by_cases c1 : la y k < 2
  · rw [if_pos c1]
    refine ⟨by rw [u2_k _ _ _ _ (by decide)]; exact h1, fun i i0 i1 => ?_, by rw [u2_k _ _ _ _ (by decide)]; exact h3, fun i i0 i1 => ?_⟩
    · rw [u2_k _ _ _ _ (by decide)] at i1 ⊢
      exact h2 i i0 i1
    · rw [u2_k _ _ _ _ (by decide)] at i1
      rw [u2_k _ _ _ _ (by decide), u2_k _ _ _ _ (by decide)]
      exact h4 i i0 i1
  · rw [if_neg c1]
    by_cases c2 : la y k = 2
    · rw [if_pos c2]
      have hv2 := hv c2
      split
      · refine ⟨by rw [u2_k _ _ _ _ (by decide)]; exact h1, fun i i0 i1 => ?_, by rw [u2_k _ _ _ _ (by decide)]; exact h3, fun i i0 i1 => ?_⟩
        · rw [u2_k _ _ _ _ (by decide)] at i1 ⊢
          exact h2 i i0 i1
        · rw [u2_k _ _ _ _ (by decide)] at i1
          rw [u2_k _ _ _ _ (by decide), u2_k _ _ _ _ (by decide)]
          exact h4 i i0 i1
      · split
        · refine ⟨by rw [u2_s]; omega, fun i i0 i1 => ?_, by rw [u2_k _ _ _ _ (by decide), u2_k _ _ _ _ (by decide), u2_k _ _ _ _ (by decide)]; exact h3, fun i i0 i1 => ?_⟩
          · rw [u2_s] at i1
            rw [u2_k _ _ _ _ (by decide), u2_k _ _ _ _ (by decide)]
            by_cases e : i = s 0 0
            · rw [e, u2_s]; omega
            · rw [u2_i _ _ _ e]; exact h2 i i0 (by omega)
          · rw [u2_k _ _ _ _ (by decide), u2_k _ _ _ _ (by decide), u2_k _ _ _ _ (by decide)] at i1
            rw [u2_k _ _ _ _ (by decide), u2_k _ _ _ _ (by decide), u2_k _ _ _ _ (by decide), u2_k _ _ _ _ (by decide), u2_k _ _ _ _ (by decide), u2_k _ _ _ _ (by decide)]
            exact h4 i i0 i1
        · refine ⟨by rw [u2_k _ _ _ _ (by decide)]; exact h1, fun i i0 i1 => ?_, by rw [u2_k _ _ _ _ (by decide)]; exact h3, fun i i0 i1 => ?_⟩
          · rw [u2_k _ _ _ _ (by decide)] at i1 ⊢
            exact h2 i i0 i1
          · rw [u2_k _ _ _ _ (by decide)] at i1
            rw [u2_k _ _ _ _ (by decide), u2_k _ _ _ _ (by decide)]
            exact h4 i i0 i1
    · rw [if_neg c2]
      split
      · refine ⟨by rw [u2_k _ _ _ _ (by decide)]; exact h1, fun i i0 i1 => ?_, by rw [u2_k _ _ _ _ (by decide)]; exact h3, fun i i0 i1 => ?_⟩
        · rw [u2_k _ _ _ _ (by decide)] at i1 ⊢
          exact h2 i i0 i1
        · rw [u2_k _ _ _ _ (by decide)] at i1
          rw [u2_k _ _ _ _ (by decide), u2_k _ _ _ _ (by decide)]
          exact h4 i i0 i1
      · split
        · refine ⟨by rw [u2_k _ _ _ _ (by decide), u2_k _ _ _ _ (by decide), u2_k _ _ _ _ (by decide), u2_k _ _ _ _ (by decide)]; exact h1, fun i i0 i1 => ?_, by rw [u2_s]; omega, fun i i0 i1 => ?_⟩
          · rw [u2_k _ _ _ _ (by decide), u2_k _ _ _ _ (by decide), u2_k _ _ _ _ (by decide), u2_k _ _ _ _ (by decide)] at i1
            rw [u2_k _ _ _ _ (by decide), u2_k _ _ _ _ (by decide), u2_k _ _ _ _ (by decide), u2_k _ _ _ _ (by decide)]
            exact h2 i i0 i1
          · rw [u2_s] at i1
            have e3 : u2 (u2 (u2 (u2 s 3 (s 2 0) y) 4 (s 2 0) k) 5 p (s 2 0)) 2 0 (s 2 0 + 1) 3 i = u2 s 3 (s 2 0) y 3 i := by rw [u2_k _ _ _ _ (by decide), u2_k _ _ _ _ (by decide), u2_k _ _ _ _ (by decide)]
            have e4 : u2 (u2 (u2 (u2 s 3 (s 2 0) y) 4 (s 2 0) k) 5 p (s 2 0)) 2 0 (s 2 0 + 1) 4 i = u2 (u2 s 3 (s 2 0) y) 4 (s 2 0) k 4 i := by rw [u2_k _ _ _ _ (by decide), u2_k _ _ _ _ (by decide)]
            rw [e3, e4]
            by_cases e : i = s 2 0
            · rw [e, u2_s, u2_s]
              exact ⟨hy, hk, by omega, by omega⟩
            · rw [u2_i _ _ _ e, u2_i _ _ _ e, u2_k _ _ _ _ (by decide)]
              exact h4 i i0 (by omega)
        · refine ⟨by rw [u2_k _ _ _ _ (by decide)]; exact h1, fun i i0 i1 => ?_, by rw [u2_k _ _ _ _ (by decide)]; exact h3, fun i i0 i1 => ?_⟩
          · rw [u2_k _ _ _ _ (by decide)] at i1 ⊢
            exact h2 i i0 i1
          · rw [u2_k _ _ _ _ (by decide)] at i1
            rw [u2_k _ _ _ _ (by decide), u2_k _ _ _ _ (by decide)]
            exact h4 i i0 i1
theorem recP_alk (hA : Alk H fc fc' la la' vl vl' rid rid') (h : rInv H fc la rid s) (hy : 0 ≤ y ∧ y < H) (hk : 0 ≤ k ∧ k < fc y) : recP la vl rid y k p s = recP la' vl' rid' y k p s := by
  obtain ⟨h1, h2, h3, h4⟩ := h
  obtain ⟨a1, a2⟩ := hA.1 y hy.1 hy.2
  obtain ⟨b1, b2, b3, b4⟩ := a2 k hk.1 hk.2
  unfold recP
  rw [← b1]
  by_cases c1 : la y k < 2
  · rw [if_pos c1, if_pos c1, b2 (by omega)]
  · rw [if_neg c1, if_neg c1]
    by_cases c2 : la y k = 2
    · rw [if_pos c2, if_pos c2, b2 (by omega)]
    · rw [if_neg c2, if_neg c2]
      by_cases c3 : rid y k < 0
      · rw [if_pos c3, if_pos ((b4 (by omega)).mp c3)]
      · rw [if_neg c3, if_neg (fun q => c3 ((b4 (by omega)).mpr q))]
        have e : nmAt (fun q => rid (s 3 q) (s 4 q)) (rid y k) (s 2 0).toNat = nmAt (fun q => rid' (s 3 q) (s 4 q)) (rid' y k) (s 2 0).toNat := nmAt_alike (fun j j0 j1 => by
          obtain ⟨g1, g2, g3, g4⟩ := h4 j j0 (by omega)
          exact hA.2 _ _ _ _ g1.1 g1.2 hy.1 hy.2 g2.1 g2.2 hk.1 hk.2 g3 (by omega) g4 (by omega))
        rw [e]
theorem recP_o (hr : 0 ≤ r ∧ r < s 0 0) : recP la vl rid y k p s 1 r = s 1 r := by
  unfold recP
  split
  · exact u2_k _ _ _ _ (by decide)
  · split
    · split
      · exact u2_k _ _ _ _ (by decide)
      · split
        · rw [u2_k _ _ _ _ (by decide), u2_k _ _ _ _ (by decide), u2_i _ _ _ (by omega)]
        · exact u2_k _ _ _ _ (by decide)
    · split
      · exact u2_k _ _ _ _ (by decide)
      · split
        · rw [u2_k _ _ _ _ (by decide), u2_k _ _ _ _ (by decide), u2_k _ _ _ _ (by decide), u2_k _ _ _ _ (by decide)]
        · exact u2_k _ _ _ _ (by decide)
theorem recP_m : s 0 0 ≤ recP la vl rid y k p s 0 0 := by
  unfold recP
  split
  · rw [u2_k _ _ _ _ (by decide)]; omega
  · split
    · split
      · rw [u2_k _ _ _ _ (by decide)]; omega
      · split
        · rw [u2_s]; omega
        · rw [u2_k _ _ _ _ (by decide)]; omega
    · split
      · rw [u2_k _ _ _ _ (by decide)]; omega
      · split
        · rw [u2_k _ _ _ _ (by decide), u2_k _ _ _ _ (by decide), u2_k _ _ _ _ (by decide), u2_k _ _ _ _ (by decide)]; omega
        · rw [u2_k _ _ _ _ (by decide)]; omega
theorem recK_alk (hA : Alk H fc fc' la la' vl vl' rid rid') (h : rInv H fc la rid s) (hr : 0 ≤ r ∧ r < s 0 0) (n : Nat) (hn : (n : Int) ≤ fc (s 1 r)) : recK la vl rid s r n = recK la' vl' rid' s r n ∧ rInv H fc la rid (recK la vl rid s r n) ∧ s 0 0 ≤ recK la vl rid s r n 0 0 ∧ recK la vl rid s r n 1 r = s 1 r := by
  induction n with
  | zero => exact ⟨rfl, h, Int.le_refl _, rfl⟩
  | succ n ih =>
    obtain ⟨i1, i2, i3, i4⟩ := ih (by omega)
    have hy := h.2.1 r hr.1 hr.2
    have hk : 0 ≤ (n : Int) ∧ (n : Int) < fc (s 1 r) := ⟨by omega, by omega⟩
    have hv : la (s 1 r) (n : Int) = 2 → vl (s 1 r) (n : Int) < H := ((hA.1 _ hy.1 hy.2).2 _ hk.1 hk.2).2.2.1
    simp only [recK]
    rw [← i1]
    exact ⟨recP_alk hA i2 hy hk, recP_inv i2 hy hk hv, Int.le_trans i3 recP_m, by rw [recP_o (by omega)]; exact i4⟩
theorem recR_alk (hA : Alk H fc fc' la la' vl vl' rid rid') (hf : ∀ y, 0 ≤ y → y < H → 0 ≤ fc y) (hx : 0 ≤ x ∧ x < H) (n : Nat) : recR fc la vl rid x n = recR fc' la' vl' rid' x n ∧ rInv H fc la rid (recR fc la vl rid x n) := by
  induction n with
  | zero =>
    refine ⟨rfl, ?_⟩
    simp only [recR]
    refine ⟨by rw [u2_k _ _ _ _ (by decide), u2_s]; omega, fun i i0 i1 => ?_, by rw [u2_s]; omega, fun i i0 i1 => ?_⟩
    · rw [u2_k _ _ _ _ (by decide), u2_s] at i1
      rw [u2_k _ _ _ _ (by decide), u2_k _ _ _ _ (by decide), show i = 0 by omega, u2_s]
      exact hx
    · rw [u2_s] at i1
      omega
  | succ n ih =>
    obtain ⟨i1, i2⟩ := ih
    simp only [recR]
    rw [← i1]
    by_cases c : (n : Int) < recR fc la vl rid x n 0 0
    · rw [if_pos c, if_pos c]
      have hy := i2.2.1 (n : Int) (by omega) c
      have e := (hA.1 _ hy.1 hy.2).1
      rw [← e]
      have h0 := hf _ hy.1 hy.2
      obtain ⟨j1, j2, -, -⟩ := recK_alk hA i2 (r := (n : Int)) ⟨by omega, c⟩ (fc (recR fc la vl rid x n 1 (n : Int))).toNat (by omega)
      exact ⟨j1, j2⟩
    · rw [if_neg c, if_neg c]
      exact ⟨rfl, i2⟩
end FO
