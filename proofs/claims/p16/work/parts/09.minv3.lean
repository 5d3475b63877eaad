/-! more of what holds of the reference -/
def MInv5 (X : Nat → Int → Int → Int) : Prop := mA X ∧ mB X ∧ mC X ∧ mD X ∧ mF X
/-! the reference's changes of state -/
theorem tyv_up {a b lane v : Int} (h : tyv a lane v) (hab : a ≤ b) : tyv b lane v := ⟨h.1, fun q => ⟨(h.2.1 q).1, by have := (h.2.1 q).2; omega⟩, h.2.2⟩
theorem tyv_none {a lane : Int} (ha : 0 ≤ a) : tyv a lane (-1) := ⟨fun _ => by omega, fun _ => by omega, fun _ => by omega⟩
theorem tyv_0 {a v : Int} : tyv a 0 v := ⟨fun _ => by omega, fun _ => by omega, fun _ => by omega⟩
section M3
variable {M : List Nat} {X X1 : Nat → Int → Int → Int}
/-- the columns behind the saves stay -/
theorem mC_of (h : mC X) (hF : Frm M X X1) (hd : ∀ c ∈ [7000, 7100, 7200, 7400, 7500], c ∉ M) (ht : X 40 0 2 ≤ X1 40 0 2) : mC X1 := by
  have e0 : ∀ j, X1 70 0 j = X 70 0 j := fun j => hF 70 0 j (hd 7000 (by decide))
  have e1 : ∀ j, X1 71 0 j = X 71 0 j := fun j => hF 71 0 j (hd 7100 (by decide))
  have e2 : ∀ j, X1 72 0 j = X 72 0 j := fun j => hF 72 0 j (hd 7200 (by decide))
  have e4 : ∀ j, X1 74 0 j = X 74 0 j := fun j => hF 74 0 j (hd 7400 (by decide))
  have e5 : ∀ j, X1 75 0 j = X 75 0 j := fun j => hF 75 0 j (hd 7500 (by decide))
  intro s r h0 h1 h2 h3
  rw [e0] at h3
  obtain ⟨c1, c2⟩ := h s r h0 h1 h2 h3
  refine ⟨by rw [e1]; omega, fun k k0 k1 => ?_⟩
  rw [e2] at k1
  simp only [e0, e4, e5]
  exact c2 k k0 k1
theorem mE_of (h : mE X) (hF : Frm M X X1) (hd : ∀ c ∈ [6200, 4021, 4023], c ∉ M) : mE X1 := by
  have e0 : ∀ j, X1 62 0 j = X 62 0 j := fun j => hF 62 0 j (hd 6200 (by decide))
  have e1 : X1 40 0 20 = X 40 0 20 := hF 40 0 20 (hd 4021 (by decide))
  have e2 : X1 40 0 22 = X 40 0 22 := hF 40 0 22 (hd 4023 (by decide))
  unfold mE at *
  simp only [e0, e1, e2]
  exact h
theorem mD_of (h : mD X) (hF : Frm M X X1) (hd : ∀ c ∈ [5500, 6400, 6500, 6600, 6700, 6800, 4014, 4023], c ∉ M) (e : ∀ n : Int, 0 ≤ n → n < X 40 0 22 → X 67 0 n < 0 → X 64 0 n < X 40 0 13 → X 65 0 n < X 44 0 (X 55 0 (X 64 0 n)) → X 44 0 (X 55 0 (X 64 0 n)) ≤ X1 44 0 (X 55 0 (X 64 0 n)) ∧ X1 46 0 (5 * X 55 0 (X 64 0 n) + X 65 0 n) = X 46 0 (5 * X 55 0 (X 64 0 n) + X 65 0 n)) : mD X1 := by
  have e0 : ∀ j, X1 55 0 j = X 55 0 j := fun j => hF 55 0 j (hd 5500 (by decide))
  have e1 : ∀ j, X1 64 0 j = X 64 0 j := fun j => hF 64 0 j (hd 6400 (by decide))
  have e2 : ∀ j, X1 65 0 j = X 65 0 j := fun j => hF 65 0 j (hd 6500 (by decide))
  have e3 : ∀ j, X1 66 0 j = X 66 0 j := fun j => hF 66 0 j (hd 6600 (by decide))
  have e4 : ∀ j, X1 67 0 j = X 67 0 j := fun j => hF 67 0 j (hd 6700 (by decide))
  have e5 : ∀ j, X1 68 0 j = X 68 0 j := fun j => hF 68 0 j (hd 6800 (by decide))
  have e6 : X1 40 0 13 = X 40 0 13 := hF 40 0 13 (hd 4014 (by decide))
  have e7 : X1 40 0 22 = X 40 0 22 := hF 40 0 22 (hd 4023 (by decide))
  intro n n0 n1
  rw [e7] at n1
  simp only [e0, e1, e2, e3, e4, e5, e6]
  obtain ⟨d1, d2⟩ := h n n0 n1
  refine ⟨fun q => ?_, d2⟩
  obtain ⟨a, b, c⟩ := d1 q
  obtain ⟨f, g⟩ := e n n0 n1 q a b
  refine ⟨a, by omega, ?_⟩
  rw [g]
  exact c
theorem minv_type (h : MInv X) (hR : Rng X) (hF : Frm [4001, 4400, 4900, 4003] X X1) (e1 : ∀ j, j ≠ X 40 0 2 → X1 44 0 j = X 44 0 j) (e2 : X1 44 0 (X 40 0 2) = 0) (e3 : X1 40 0 2 = X 40 0 2 + 1) : MInv X1 := by
  obtain ⟨hA, hB, hC, hD, hE, hG⟩ := h
  have f46 : ∀ j, X1 46 0 j = X 46 0 j := fun j => hF 46 0 j (show 4600 ∉ _ by decide)
  have f47 : ∀ j, X1 47 0 j = X 47 0 j := fun j => hF 47 0 j (show 4700 ∉ _ by decide)
  have f55 : ∀ j, X1 55 0 j = X 55 0 j := fun j => hF 55 0 j (show 5500 ∉ _ by decide)
  have f56 : ∀ j, X1 56 0 j = X 56 0 j := fun j => hF 56 0 j (show 5600 ∉ _ by decide)
  have fth : X1 40 0 13 = X 40 0 13 := hF 40 0 13 (show 4014 ∉ _ by decide)
  refine ⟨?_, ?_, mC_of hC hF (by decide) (by omega), ?_, mE_of hE hF (by decide), ?_⟩
  · intro x k h0 h1 k0 k1
    simp only [f46, f55, f56, fth] at *
    have := hG x h0 h1
    rw [e1 _ (by omega)] at k1
    exact hA x k h0 h1 k0 k1
  · intro t k h0 h1 k0 k1
    simp only [f46, f47] at *
    by_cases ht : t = X 40 0 2
    · rw [ht, e2] at k1; omega
    · rw [e1 _ ht] at k1; exact hB t k h0 h1 k0 k1
  · refine mD_of hD hF (by decide) (fun n n0 n1 q a b => ?_)
    have h1 : 0 ≤ X 64 0 n ∧ X 64 0 n ≤ 29 := hR 64 0 n
    have := hG (X 64 0 n) h1.1 a
    rw [e1 _ (by omega), f46]
    exact ⟨Int.le_refl _, rfl⟩
  · intro x h0 h1
    rw [fth] at h1
    rw [f55, e3]
    have := hG x h0 h1
    omega
theorem minv_forget (h : MInv X) (hm : X 40 0 20 = 0) (hF : Frm [4001, 4014] X X1) (e : X1 40 0 13 = 0) : MInv X1 := by
  obtain ⟨hA, hB, hC, hD, hE, hG⟩ := h
  have f44 : ∀ j, X1 44 0 j = X 44 0 j := fun j => hF 44 0 j (show 4400 ∉ _ by decide)
  have f46 : ∀ j, X1 46 0 j = X 46 0 j := fun j => hF 46 0 j (show 4600 ∉ _ by decide)
  have f47 : ∀ j, X1 47 0 j = X 47 0 j := fun j => hF 47 0 j (show 4700 ∉ _ by decide)
  have fty : X1 40 0 2 = X 40 0 2 := hF 40 0 2 (show 4003 ∉ _ by decide)
  have fno : X1 40 0 22 = X 40 0 22 := hF 40 0 22 (show 4023 ∉ _ by decide)
  have hn := hE.1 hm
  refine ⟨fun x k h0 h1 => by omega, ?_, mC_of hC hF (by decide) (by omega), fun n n0 n1 => by omega, mE_of hE hF (by decide), fun x h0 h1 => by omega⟩
  unfold mB at *
  simp only [f44, f46, f47]
  exact hB
theorem minv_mark (h : MInv X) (hR : Rng X) (hF : Frm [4001, 6200, 4021] X X1) (e1 : ∀ j, j ≠ X 40 0 20 → X1 62 0 j = X 62 0 j) (e2 : X1 62 0 (X 40 0 20) = X 40 0 22) (e3 : X1 40 0 20 = X 40 0 20 + 1) : MInv X1 := by
  obtain ⟨hA, hB, hC, hD, hE, hG⟩ := h
  have f44 : ∀ j, X1 44 0 j = X 44 0 j := fun j => hF 44 0 j (show 4400 ∉ _ by decide)
  have f46 : ∀ j, X1 46 0 j = X 46 0 j := fun j => hF 46 0 j (show 4600 ∉ _ by decide)
  have f47 : ∀ j, X1 47 0 j = X 47 0 j := fun j => hF 47 0 j (show 4700 ∉ _ by decide)
  have f55 : ∀ j, X1 55 0 j = X 55 0 j := fun j => hF 55 0 j (show 5500 ∉ _ by decide)
  have f56 : ∀ j, X1 56 0 j = X 56 0 j := fun j => hF 56 0 j (show 5600 ∉ _ by decide)
  have fth : X1 40 0 13 = X 40 0 13 := hF 40 0 13 (show 4014 ∉ _ by decide)
  have fty : X1 40 0 2 = X 40 0 2 := hF 40 0 2 (show 4003 ∉ _ by decide)
  have fno : X1 40 0 22 = X 40 0 22 := hF 40 0 22 (show 4023 ∉ _ by decide)
  have hm : 0 ≤ X 40 0 20 ∧ X 40 0 20 ≤ 4 := hR 40 0 20
  refine ⟨?_, ?_, mC_of hC hF (by decide) (by omega), mD_of hD hF (by decide) (fun n _ _ _ _ _ => ⟨by rw [f44]; exact Int.le_refl _, by rw [f46]⟩), ⟨fun q => by omega, fun q => ?_⟩, ?_⟩
  · unfold mA at *; simp only [f44, f46, f55, f56, fth]; exact hA
  · unfold mB at *; simp only [f44, f46, f47]; exact hB
  · by_cases hq : X 40 0 20 = 0
    · rw [hq] at e2; rw [e2]; exact hE.1 hq
    · rw [e1 0 (by omega)]; exact hE.2 (by omega)
  · unfold mF at *; simp only [f55, fth, fty]; exact hG
/-- a note is written: N is its number -/
theorem minv_note {th fd rw it ws : Int} (h : MInv X) (hm : 0 < X 40 0 20) (hF : Frm [4001, 6400, 6500, 6600, 6700, 6800, 4023, 5900] X X1) (e0 : X1 40 0 22 = X 40 0 22 + 1)
    (e4 : ∀ j, j < X 40 0 22 → X1 64 0 j = X 64 0 j ∧ X1 65 0 j = X 65 0 j ∧ X1 66 0 j = X 66 0 j ∧ X1 67 0 j = X 67 0 j ∧ X1 68 0 j = X 68 0 j)
    (en : X1 67 0 (X 40 0 22) = it) (hn : (it < 0 → X1 64 0 (X 40 0 22) = th ∧ X1 65 0 (X 40 0 22) = fd ∧ X1 68 0 (X 40 0 22) = ws ∧ th < X 40 0 13 ∧ fd < X 44 0 (X 55 0 th) ∧ tyv (X 40 0 13) (X 46 0 (5 * X 55 0 th + fd)) ws) ∧ (0 ≤ it → X1 66 0 (X 40 0 22) = rw ∧ 0 ≤ rw)) : MInv X1 := by
  obtain ⟨hA, hB, hC, hD, hE, hG⟩ := h
  have f44 : ∀ j, X1 44 0 j = X 44 0 j := fun j => hF 44 0 j (show 4400 ∉ _ by decide)
  have f46 : ∀ j, X1 46 0 j = X 46 0 j := fun j => hF 46 0 j (show 4600 ∉ _ by decide)
  have f47 : ∀ j, X1 47 0 j = X 47 0 j := fun j => hF 47 0 j (show 4700 ∉ _ by decide)
  have f55 : ∀ j, X1 55 0 j = X 55 0 j := fun j => hF 55 0 j (show 5500 ∉ _ by decide)
  have f56 : ∀ j, X1 56 0 j = X 56 0 j := fun j => hF 56 0 j (show 5600 ∉ _ by decide)
  have f62 : ∀ j, X1 62 0 j = X 62 0 j := fun j => hF 62 0 j (show 6200 ∉ _ by decide)
  have fth : X1 40 0 13 = X 40 0 13 := hF 40 0 13 (show 4014 ∉ _ by decide)
  have fty : X1 40 0 2 = X 40 0 2 := hF 40 0 2 (show 4003 ∉ _ by decide)
  have fmk : X1 40 0 20 = X 40 0 20 := hF 40 0 20 (show 4021 ∉ _ by decide)
  refine ⟨?_, ?_, mC_of hC hF (by decide) (by omega), ?_, ⟨fun q => by omega, fun q => by rw [f62]; exact hE.2 hm⟩, ?_⟩
  · unfold mA at *; simp only [f44, f46, f55, f56, fth]; exact hA
  · unfold mB at *; simp only [f44, f46, f47]; exact hB
  · intro n n0 n1
    simp only [f44, f46, f55, fth]
    by_cases hq : n = X 40 0 22
    · rw [hq, en]
      refine ⟨fun q => ?_, fun q => ?_⟩
      · obtain ⟨a, b, c, d⟩ := hn.1 q
        rw [a, b, c]
        exact d
      · obtain ⟨a, b⟩ := hn.2 q
        rw [a]; exact b
    · obtain ⟨a, b, c, d, e⟩ := e4 n (by omega)
      rw [a, b, c, d, e]
      exact hD n n0 (by omega)
  · unfold mF at *; simp only [f55, fth, fty]; exact hG
theorem minv_thing {t : Int} (h : MInv X) (hR : Rng X) (ht : 0 ≤ t ∧ t < X 40 0 2) (hF : Frm [4001, 5500, 5600, 4014] X X1) (e1 : ∀ j, j < X 40 0 13 → X1 55 0 j = X 55 0 j) (e2 : X1 55 0 (X 40 0 13) = t) (e3 : ∀ j, j < 5 * X 40 0 13 → X1 56 0 j = X 56 0 j) (e4 : ∀ k, 0 ≤ k → k < X 44 0 t → X1 56 0 (5 * X 40 0 13 + k) = X 47 0 (5 * t + k)) (e5 : X1 40 0 13 = X 40 0 13 + 1) : MInv X1 := by
  obtain ⟨hA, hB, hC, hD, hE, hG⟩ := h
  have f44 : ∀ j, X1 44 0 j = X 44 0 j := fun j => hF 44 0 j (show 4400 ∉ _ by decide)
  have f46 : ∀ j, X1 46 0 j = X 46 0 j := fun j => hF 46 0 j (show 4600 ∉ _ by decide)
  have f47 : ∀ j, X1 47 0 j = X 47 0 j := fun j => hF 47 0 j (show 4700 ∉ _ by decide)
  have f64 : ∀ j, X1 64 0 j = X 64 0 j := fun j => hF 64 0 j (show 6400 ∉ _ by decide)
  have f65 : ∀ j, X1 65 0 j = X 65 0 j := fun j => hF 65 0 j (show 6500 ∉ _ by decide)
  have f66 : ∀ j, X1 66 0 j = X 66 0 j := fun j => hF 66 0 j (show 6600 ∉ _ by decide)
  have f67 : ∀ j, X1 67 0 j = X 67 0 j := fun j => hF 67 0 j (show 6700 ∉ _ by decide)
  have f68 : ∀ j, X1 68 0 j = X 68 0 j := fun j => hF 68 0 j (show 6800 ∉ _ by decide)
  have fty : X1 40 0 2 = X 40 0 2 := hF 40 0 2 (show 4003 ∉ _ by decide)
  have fno : X1 40 0 22 = X 40 0 22 := hF 40 0 22 (show 4023 ∉ _ by decide)
  have hty : 0 ≤ X 40 0 2 ∧ X 40 0 2 ≤ 8 := hR 40 0 2
  have hth : 0 ≤ X 40 0 13 ∧ X 40 0 13 ≤ 30 := hR 40 0 13
  have hfm : ∀ t, 0 ≤ X 44 0 t ∧ X 44 0 t ≤ 5 := fun t => hR 44 0 t
  refine ⟨?_, ?_, mC_of hC hF (by decide) (by omega), ?_, mE_of hE hF (by decide), ?_⟩
  · intro x k h0 h1 k0 k1
    rw [e5] at h1 ⊢
    simp only [f44, f46] at *
    by_cases hx : x = X 40 0 13
    · subst hx
      rw [e2] at k1 ⊢
      rw [e4 k k0 k1]
      by_cases hz : X 46 0 (5 * t + k) = 0
      · rw [hz]; exact tyv_0
      · rw [hB t k (by omega) (by omega) k0 k1 hz]; exact tyv_none (by omega)
    · rw [e1 x (by omega)] at k1 ⊢
      have := hfm (X 55 0 x)
      rw [e3 _ (by omega)]
      exact tyv_up (hA x k h0 (by omega) k0 k1) (by omega)
  · unfold mB at *; simp only [f44, f46, f47]; exact hB
  · intro n n0 n1
    rw [fno] at n1
    simp only [f44, f46, f64, f65, f66, f67, f68]
    obtain ⟨d1, d2⟩ := hD n n0 n1
    refine ⟨fun q => ?_, d2⟩
    obtain ⟨a, b, c⟩ := d1 q
    rw [e1 _ a, e5]
    exact ⟨by omega, b, tyv_up c (by omega)⟩
  · intro x h0 h1
    rw [e5] at h1
    rw [fty]
    by_cases hx : x = X 40 0 13
    · subst hx; rw [e2]; exact ht.2
    · rw [e1 x (by omega)]; exact hG x h0 (by omega)
/-- field k0 of type t: its values stand in the things below x -/
def Fld (X : Nat → Int → Int → Int) (t k0 x : Int) : Prop := (∀ x' k : Int, 0 ≤ x' → x' < X 40 0 13 → 0 ≤ k → k < X 44 0 (X 55 0 x') → (X 55 0 x' = t → k = k0 → x' < x) → tyv (X 40 0 13) (X 46 0 (5 * X 55 0 x' + k)) (X 56 0 (5 * x' + k))) ∧ mB X ∧ mC X ∧ mD X ∧ mE X ∧ mF X
theorem Fld.out {t k0 x : Int} (h : Fld X t k0 x) (hx : X 40 0 13 ≤ x) : MInv X := ⟨fun x' k h0 h1 k0 k1 => h.1 x' k h0 h1 k0 k1 (fun _ _ => by omega), h.2⟩
theorem Fld.of {t k0 x : Int} (h : MInv X) : Fld X t k0 x := ⟨fun x' k h0 h1 k0 k1 _ => h.1 x' k h0 h1 k0 k1, h.2⟩
theorem Fld.skip {t k0 x : Int} (h : Fld X t k0 x) (hx : X 55 0 x ≠ t) : Fld X t k0 (x + 1) := ⟨fun x' k h0 h1 k0 k1 q => h.1 x' k h0 h1 k0 k1 (fun a b => by have := q a b; by_cases hq : x' = x; exact absurd (hq ▸ a) hx; omega), h.2⟩
theorem Fld.step {t k0 x v : Int} (h : Fld X t k0 x) (hR : Rng X) (hk : 0 ≤ k0 ∧ k0 ≤ 4) (hxt : X 55 0 x = t) (hv : tyv (X 40 0 13) (X 46 0 (5 * t + k0)) v) : Fld (u3 X 56 0 (5 * x + k0) v) t k0 (x + 1) := by
  obtain ⟨hA, hB, hC, hD, hE, hG⟩ := h
  have e : ∀ (k' : Nat) (i j : Int), k' ≠ 56 → u3 X 56 0 (5 * x + k0) v k' i j = X k' i j := fun k' i j hk => by rw [u3_k _ _ _ _ hk]
  have hf : ∀ t, X 44 0 t ≤ 5 := fun t => (hR 44 0 t).2
  refine ⟨?_, ?_, ?_, ?_, ?_, ?_⟩
  · intro x' k' h0' h1' k0' k1' q
    simp only [e 40 _ _ (by decide), e 44 _ _ (by decide), e 46 _ _ (by decide), e 55 _ _ (by decide)] at *
    have := hf (X 55 0 x')
    by_cases hx : x' = x ∧ k' = k0
    · obtain ⟨rfl, rfl⟩ := hx
      rw [u3_s, hxt]; exact hv
    · rw [u3_j _ _ _ _ (by omega)]; exact hA x' k' h0' h1' k0' k1' (fun a b => by have := q a b; omega)
  · unfold mB at *; simp only [e 44 _ _ (by decide), e 46 _ _ (by decide), e 47 _ _ (by decide)]; exact hB
  · unfold mC at *; simp only [e 70 _ _ (by decide), e 71 _ _ (by decide), e 72 _ _ (by decide), e 74 _ _ (by decide), e 75 _ _ (by decide), e 40 _ _ (by decide)]; exact hC
  · unfold mD at *; simp only [e 40 _ _ (by decide), e 44 _ _ (by decide), e 46 _ _ (by decide), e 55 _ _ (by decide), e 64 _ _ (by decide), e 65 _ _ (by decide), e 66 _ _ (by decide), e 67 _ _ (by decide), e 68 _ _ (by decide)]; exact hD
  · unfold mE at *; simp only [e 40 _ _ (by decide), e 62 _ _ (by decide)]; exact hE
  · unfold mF at *; simp only [e 40 _ _ (by decide), e 55 _ _ (by decide)]; exact hG
theorem Fld.in_field {t lane v : Int} (h : MInv X) (hR : Rng X) (hm : X 40 0 20 = 0) (ht : 0 ≤ t ∧ t ≤ 7) (hk4 : X 44 0 t ≤ 4) (hlv : lane ≠ 0 → v = -1) (hF : Frm [4001, 4500, 4600, 4700, 4800, 4400] X X1) (e1 : ∀ j, j ≠ t → X1 44 0 j = X 44 0 j) (e2 : X1 44 0 t = X 44 0 t + 1) (e3 : ∀ j, j ≠ 5 * t + X 44 0 t → X1 46 0 j = X 46 0 j ∧ X1 47 0 j = X 47 0 j) (e4 : X1 46 0 (5 * t + X 44 0 t) = lane ∧ X1 47 0 (5 * t + X 44 0 t) = v) : Fld X1 t (X 44 0 t) 0 := by
  obtain ⟨hA, hB, hC, hD, hE, hG⟩ := h
  have f55 : ∀ j, X1 55 0 j = X 55 0 j := fun j => hF 55 0 j (show 5500 ∉ _ by decide)
  have f56 : ∀ j, X1 56 0 j = X 56 0 j := fun j => hF 56 0 j (show 5600 ∉ _ by decide)
  have fth : X1 40 0 13 = X 40 0 13 := hF 40 0 13 (show 4014 ∉ _ by decide)
  have fty : X1 40 0 2 = X 40 0 2 := hF 40 0 2 (show 4003 ∉ _ by decide)
  have fno : X1 40 0 22 = X 40 0 22 := hF 40 0 22 (show 4023 ∉ _ by decide)
  have hfm : ∀ t, 0 ≤ X 44 0 t ∧ X 44 0 t ≤ 5 := fun t => hR 44 0 t
  have hxt : ∀ x, 0 ≤ X 55 0 x ∧ X 55 0 x ≤ 7 := fun x => hR 55 0 x
  have hf1 : X1 44 0 t ≤ 5 ∨ X 44 0 t = 5 := by have := hfm t; omega
  have hn := hE.1 hm
  refine ⟨?_, ?_, mC_of hC hF (by decide) (by omega), fun n n0 n1 => by omega, mE_of hE hF (by decide), ?_⟩
  · intro x k h0 h1 k0 k1 q
    simp only [f55, f56, fth] at *
    have ha := hxt x
    have hb := hfm t
    have hc := hfm (X 55 0 x)
    by_cases hx : X 55 0 x = t
    · have hk : k ≠ X 44 0 t := fun e => by have := q hx e; omega
      rw [hx, e2] at k1
      have := hA x k h0 h1 k0 (by rw [hx]; omega)
      rw [hx] at this ⊢
      rw [(e3 _ (by omega)).1]
      exact this
    · rw [e1 _ hx] at k1
      rw [(e3 _ (by omega)).1]
      exact hA x k h0 h1 k0 k1
  · intro t' k h0 h1 k0 k1 hne
    have hb := hfm t
    have hc := hfm t'
    by_cases hk : 5 * t' + k = 5 * t + X 44 0 t
    · rw [hk] at hne ⊢
      rw [e4.1] at hne
      rw [e4.2]; exact hlv hne
    · rw [(e3 _ hk).1] at hne
      rw [(e3 _ hk).2]
      by_cases hx : t' = t
      · subst hx
        exact hB t' k h0 h1 k0 (by omega) hne
      · rw [e1 _ hx] at k1
        exact hB t' k h0 h1 k0 k1 hne
  · unfold mF at *; simp only [f55, fth, fty]; exact hG
theorem Fld.in_drop {t j : Int} (h : MInv X) (hR : Rng X) (hm : X 40 0 20 = 0) (ht : 0 ≤ t ∧ t ≤ 7) (hj : 0 ≤ j ∧ j + 1 < X 44 0 t) (hF : Frm [4500, 4600, 4700, 4800] X X1) (e3 : ∀ q, q ≠ 5 * t + j → X1 46 0 q = X 46 0 q ∧ X1 47 0 q = X 47 0 q) (e4 : X1 46 0 (5 * t + j) = X 46 0 (5 * t + (j + 1)) ∧ X1 47 0 (5 * t + j) = X 47 0 (5 * t + (j + 1))) : Fld X1 t j 0 := by
  obtain ⟨hA, hB, hC, hD, hE, hG⟩ := h
  have f44 : ∀ j, X1 44 0 j = X 44 0 j := fun j => hF 44 0 j (show 4400 ∉ _ by decide)
  have f55 : ∀ j, X1 55 0 j = X 55 0 j := fun j => hF 55 0 j (show 5500 ∉ _ by decide)
  have f56 : ∀ j, X1 56 0 j = X 56 0 j := fun j => hF 56 0 j (show 5600 ∉ _ by decide)
  have fth : X1 40 0 13 = X 40 0 13 := hF 40 0 13 (show 4014 ∉ _ by decide)
  have fty : X1 40 0 2 = X 40 0 2 := hF 40 0 2 (show 4003 ∉ _ by decide)
  have fno : X1 40 0 22 = X 40 0 22 := hF 40 0 22 (show 4023 ∉ _ by decide)
  have hfm : ∀ t, 0 ≤ X 44 0 t ∧ X 44 0 t ≤ 5 := fun t => hR 44 0 t
  have hxt : ∀ x, 0 ≤ X 55 0 x ∧ X 55 0 x ≤ 7 := fun x => hR 55 0 x
  have hn := hE.1 hm
  refine ⟨?_, ?_, mC_of hC hF (by decide) (by omega), fun n n0 n1 => by omega, mE_of hE hF (by decide), ?_⟩
  · intro x k h0 h1 k0 k1 q
    simp only [f44, f55, f56, fth] at *
    have ha := hxt x
    have hb := hfm t
    have hc := hfm (X 55 0 x)
    have : ¬ (X 55 0 x = t ∧ k = j) := fun e => by have := q e.1 e.2; omega
    rw [(e3 _ (by omega)).1]
    exact hA x k h0 h1 k0 k1
  · intro t' k h0 h1 k0 k1 hne
    have hb := hfm t
    have hc := hfm t'
    rw [f44] at k1
    by_cases hk : 5 * t' + k = 5 * t + j
    · rw [hk] at hne ⊢
      rw [e4.1] at hne
      rw [e4.2]; exact hB t (j + 1) ht.1 ht.2 (by omega) (by omega) hne
    · rw [(e3 _ hk).1] at hne
      rw [(e3 _ hk).2]
      exact hB t' k h0 h1 k0 k1 hne
  · unfold mF at *; simp only [f55, fth, fty]; exact hG
theorem minv_fdown {t : Int} (h : MInv X) (hm : X 40 0 20 = 0) (hF : Frm [4400] X X1) (e1 : ∀ j, j ≠ t → X1 44 0 j = X 44 0 j) (e2 : X1 44 0 t ≤ X 44 0 t) : MInv X1 := by
  obtain ⟨hA, hB, hC, hD, hE, hG⟩ := h
  have f46 : ∀ j, X1 46 0 j = X 46 0 j := fun j => hF 46 0 j (show 4600 ∉ _ by decide)
  have f47 : ∀ j, X1 47 0 j = X 47 0 j := fun j => hF 47 0 j (show 4700 ∉ _ by decide)
  have f55 : ∀ j, X1 55 0 j = X 55 0 j := fun j => hF 55 0 j (show 5500 ∉ _ by decide)
  have f56 : ∀ j, X1 56 0 j = X 56 0 j := fun j => hF 56 0 j (show 5600 ∉ _ by decide)
  have fth : X1 40 0 13 = X 40 0 13 := hF 40 0 13 (show 4014 ∉ _ by decide)
  have fty : X1 40 0 2 = X 40 0 2 := hF 40 0 2 (show 4003 ∉ _ by decide)
  have fno : X1 40 0 22 = X 40 0 22 := hF 40 0 22 (show 4023 ∉ _ by decide)
  have hl : ∀ j, X1 44 0 j ≤ X 44 0 j := fun j => if hj : j = t then hj ▸ e2 else by rw [e1 j hj]; exact Int.le_refl _
  have hn := hE.1 hm
  refine ⟨?_, ?_, mC_of hC hF (by decide) (by omega), fun n n0 n1 => by omega, mE_of hE hF (by decide), ?_⟩
  · intro x k h0 h1 k0 k1
    simp only [f46, f55, f56, fth] at *
    exact hA x k h0 h1 k0 (by have := hl (X 55 0 x); omega)
  · intro t' k h0 h1 k0 k1 hne
    simp only [f46, f47] at *
    exact hB t' k h0 h1 k0 (by have := hl t'; omega) hne
  · unfold mF at *; simp only [f55, fth, fty]; exact hG
/-! taking back -/
theorem minv5_frm (h : MInv5 X) (hF : Frm M X X1) (hd : ∀ c ∈ mDep, c ∉ [6200, 4021] → c ∉ M) : MInv5 X1 := by
  obtain ⟨hA, hB, hC, hD, hG⟩ := h
  have f44 : ∀ j, X1 44 0 j = X 44 0 j := fun j => hF 44 0 j (hd 4400 (by decide) (by decide))
  have f46 : ∀ j, X1 46 0 j = X 46 0 j := fun j => hF 46 0 j (hd 4600 (by decide) (by decide))
  have f47 : ∀ j, X1 47 0 j = X 47 0 j := fun j => hF 47 0 j (hd 4700 (by decide) (by decide))
  have f55 : ∀ j, X1 55 0 j = X 55 0 j := fun j => hF 55 0 j (hd 5500 (by decide) (by decide))
  have f56 : ∀ j, X1 56 0 j = X 56 0 j := fun j => hF 56 0 j (hd 5600 (by decide) (by decide))
  have fth : X1 40 0 13 = X 40 0 13 := hF 40 0 13 (hd 4014 (by decide) (by decide))
  have fty : X1 40 0 2 = X 40 0 2 := hF 40 0 2 (hd 4003 (by decide) (by decide))
  refine ⟨?_, ?_, mC_of hC hF (fun c hc => hd c (by revert c; decide) (by revert c; decide)) (by omega), mD_of hD hF (fun c hc => hd c (by revert c; decide) (by revert c; decide)) (fun n _ _ _ _ _ => ⟨by rw [f44]; exact Int.le_refl _, by rw [f46]⟩), ?_⟩
  · unfold mA at *; simp only [f44, f46, f55, f56, fth]; exact hA
  · unfold mB at *; simp only [f44, f46, f47]; exact hB
  · unfold mF at *; simp only [f55, fth, fty]; exact hG
theorem minv5_pop {n : Int} (h : MInv5 X) (hn : n ≤ X 40 0 22) : MInv5 (u3 X 40 0 22 n) := by
  obtain ⟨hA, hB, hC, hD, hG⟩ := h
  have e : ∀ (k' : Nat) (i j : Int), k' ≠ 40 → u3 X 40 0 22 n k' i j = X k' i j := fun k' i j hk => by rw [u3_k _ _ _ _ hk]
  have e13 : u3 X 40 0 22 n 40 0 13 = X 40 0 13 := by rw [u3_j _ _ _ _ (by decide)]
  have e2 : u3 X 40 0 22 n 40 0 2 = X 40 0 2 := by rw [u3_j _ _ _ _ (by decide)]
  refine ⟨?_, ?_, ?_, ?_, ?_⟩
  · unfold mA at *; simp only [e 44 _ _ (by decide), e 46 _ _ (by decide), e 55 _ _ (by decide), e 56 _ _ (by decide), e13]; exact hA
  · unfold mB at *; simp only [e 44 _ _ (by decide), e 46 _ _ (by decide), e 47 _ _ (by decide)]; exact hB
  · unfold mC at *; simp only [e 70 _ _ (by decide), e 71 _ _ (by decide), e 72 _ _ (by decide), e 74 _ _ (by decide), e 75 _ _ (by decide), e2]; exact hC
  · intro m m0 m1
    rw [u3_s] at m1
    simp only [e 44 _ _ (by decide), e 46 _ _ (by decide), e 55 _ _ (by decide), e 64 _ _ (by decide), e 65 _ _ (by decide), e 66 _ _ (by decide), e 67 _ _ (by decide), e 68 _ _ (by decide), e13]
    exact hD m m0 (by omega)
  · unfold mF at *; simp only [e 55 _ _ (by decide), e13, e2]; exact hG
theorem minv5_xval {x k v : Int} (h : MInv5 X) (hR : Rng X) (h0 : 0 ≤ x) (h1 : x < X 40 0 13) (k0 : 0 ≤ k) (k1 : k < X 44 0 (X 55 0 x)) (hv : tyv (X 40 0 13) (X 46 0 (5 * X 55 0 x + k)) v) : MInv5 (u3 X 56 0 (5 * x + k) v) := by
  obtain ⟨hA, hB, hC, hD, hG⟩ := h
  have e : ∀ (k' : Nat) (i j : Int), k' ≠ 56 → u3 X 56 0 (5 * x + k) v k' i j = X k' i j := fun k' i j hk => by rw [u3_k _ _ _ _ hk]
  have hf : ∀ t, X 44 0 t ≤ 5 := fun t => (hR 44 0 t).2
  refine ⟨?_, ?_, ?_, ?_, ?_⟩
  · intro x' k' h0' h1' k0' k1'
    simp only [e 40 _ _ (by decide), e 44 _ _ (by decide), e 46 _ _ (by decide), e 55 _ _ (by decide)] at *
    have := hf (X 55 0 x); have := hf (X 55 0 x')
    by_cases hx : x' = x ∧ k' = k
    · obtain ⟨rfl, rfl⟩ := hx
      rw [u3_s]; exact hv
    · rw [u3_j _ _ _ _ (by omega)]; exact hA x' k' h0' h1' k0' k1'
  · unfold mB at *; simp only [e 44 _ _ (by decide), e 46 _ _ (by decide), e 47 _ _ (by decide)]; exact hB
  · unfold mC at *; simp only [e 70 _ _ (by decide), e 71 _ _ (by decide), e 72 _ _ (by decide), e 74 _ _ (by decide), e 75 _ _ (by decide), e 40 _ _ (by decide)]; exact hC
  · unfold mD at *; simp only [e 40 _ _ (by decide), e 44 _ _ (by decide), e 46 _ _ (by decide), e 55 _ _ (by decide), e 64 _ _ (by decide), e 65 _ _ (by decide), e 66 _ _ (by decide), e 67 _ _ (by decide), e 68 _ _ (by decide)]; exact hD
  · unfold mF at *; simp only [e 40 _ _ (by decide), e 55 _ _ (by decide)]; exact hG
/-- one note is taken back: a value's -/
theorem minv5_undo_x {n x k w : Int} {X2 : Nat → Int → Int → Int} (h : MInv5 X) (hR1 : Rng X1) (hn0 : 0 ≤ n) (hn : n < X 40 0 22) (hi : X 67 0 n < 0) (e1 : X1 = u3 X 40 0 22 n) (hx : X 64 0 n = x) (hk : X 65 0 n = k) (hw : X 68 0 n = w) (x0 : 0 ≤ x) (k0 : 0 ≤ k) (e2 : X2 = u3 X1 56 0 (5 * x + k) w) : MInv5 X2 := by
  have h5 : MInv5 X1 := by rw [e1]; exact minv5_pop h (by omega)
  obtain ⟨a, b, c⟩ := (h.2.2.2.1 n hn0 hn).1 hi
  have f44 : ∀ j, X1 44 0 j = X 44 0 j := fun j => by rw [e1, u3_k _ _ _ _ (by decide)]
  have f46 : ∀ j, X1 46 0 j = X 46 0 j := fun j => by rw [e1, u3_k _ _ _ _ (by decide)]
  have f55 : ∀ j, X1 55 0 j = X 55 0 j := fun j => by rw [e1, u3_k _ _ _ _ (by decide)]
  have fth : X1 40 0 13 = X 40 0 13 := by rw [e1, u3_j _ _ _ _ (by decide)]
  rw [hx, hk] at *
  rw [e2]
  exact minv5_xval h5 hR1 x0 (by omega) k0 (by rw [f44, f55]; exact b) (by rw [f46, f55, fth, ← hw]; exact c)
theorem minv5_undo_r {n j w : Int} {X2 : Nat → Int → Int → Int} (h : MInv5 X) (hn : n ≤ X 40 0 22) (e1 : X1 = u3 X 40 0 22 n) (e2 : X2 = u3 X1 59 0 j w) : MInv5 X2 := by
  have h5 : MInv5 X1 := by rw [e1]; exact minv5_pop h hn
  rw [e2]
  exact minv5_frm (M := [5900]) h5 (Frm.set Frm.rf (show 5900 ∈ [5900] by decide)) (by decide)
theorem minv_undo_end {m : Int} (h : MInv X) (h5 : MInv5 X1) (hm : X1 40 0 20 = m) (hm2 : X 40 0 20 = m + 1) (_m0 : 0 ≤ m) (e62 : ∀ j, X1 62 0 j = X 62 0 j) (hn : X1 40 0 22 ≤ X 62 0 m) (hn0 : 0 ≤ X1 40 0 22) : MInv X1 := by
  obtain ⟨hA, hB, hC, hD, hG⟩ := h5
  refine ⟨hA, hB, hC, hD, ⟨fun q => ?_, fun q => by rw [e62]; exact h.2.2.2.2.1.2 (by omega)⟩, hG⟩
  have := h.2.2.2.2.1.2 (by omega)
  have hm0 : m = 0 := by omega
  rw [hm0, this] at hn
  omega
/-! the fifth save is written -/
theorem ty4_of {r k : Int} (h : ty4 X r k) (e4 : X1 74 0 (5 * (120 + r) + k) = X 74 0 (5 * (120 + r) + k)) (e5 : X1 75 0 (5 * (120 + r) + k) = X 75 0 (5 * (120 + r) + k)) (hs : X 70 0 4 ≤ X1 70 0 4) : ty4 X1 r k := by
  unfold ty4 at *
  rw [e4, e5]
  exact ⟨h.1, fun q => ⟨(h.2.1 q).1, by have := (h.2.1 q).2; omega⟩, h.2.2⟩
theorem cOK.of {r k : Int} (h : cOK X r k) (hr : 0 ≤ r) (hR : Rng X1) (ht : X 40 0 2 ≤ X1 40 0 2) (hs : X 70 0 4 ≤ X1 70 0 4) (e1 : ∀ r', 0 ≤ r' → r' < r → X1 71 0 (120 + r') = X 71 0 (120 + r') ∧ X1 72 0 (120 + r') = X 72 0 (120 + r')) (e4 : ∀ j, j < 5 * (120 + r) + k → X1 74 0 j = X 74 0 j ∧ X1 75 0 j = X 75 0 j) (hk : 0 ≤ k) : cOK X1 r k := by
  refine ⟨fun r' h0 h1 => ?_, fun k' k0 k1 => ?_⟩
  · obtain ⟨a, b⟩ := h.1 r' h0 h1
    refine ⟨by rw [(e1 r' h0 h1).1]; omega, fun k' k0 k1 => ?_⟩
    have hf : X1 72 0 (120 + r') ≤ 5 := (hR 72 0 (120 + r')).2
    rw [(e1 r' h0 h1).2] at k1 hf
    exact ty4_of (b k' k0 k1) (e4 _ (by omega)).1 (e4 _ (by omega)).2 hs
  · exact ty4_of (h.2 k' k0 k1) (e4 _ (by omega)).1 (e4 _ (by omega)).2 hs
theorem cOK.frm {r k : Int} (h : cOK X r k) (hF : Frm M X X1) (hd : ∀ c ∈ [7100, 7200, 7400, 7500, 4003], c ∉ M) (hs : X 70 0 4 ≤ X1 70 0 4) : cOK X1 r k := by
  have e1 : ∀ j, X1 71 0 j = X 71 0 j := fun j => hF 71 0 j (hd 7100 (by decide))
  have e2 : ∀ j, X1 72 0 j = X 72 0 j := fun j => hF 72 0 j (hd 7200 (by decide))
  have e4 : ∀ j, X1 74 0 j = X 74 0 j := fun j => hF 74 0 j (hd 7400 (by decide))
  have e5 : ∀ j, X1 75 0 j = X 75 0 j := fun j => hF 75 0 j (hd 7500 (by decide))
  have et : X1 40 0 2 = X 40 0 2 := hF 40 0 2 (hd 4003 (by decide))
  refine ⟨fun r' h0 h1 => ?_, fun k' k0 k1 => ty4_of (h.2 k' k0 k1) (e4 _) (e5 _) hs⟩
  obtain ⟨a, b⟩ := h.1 r' h0 h1
  refine ⟨by rw [e1, et]; exact a, fun k' k0 k1 => ?_⟩
  rw [e2] at k1
  exact ty4_of (b k' k0 k1) (e4 _) (e5 _) hs
theorem cOK.nil : cOK X 0 0 := ⟨fun r' h0 h1 => by omega, fun k' k0 k1 => by omega⟩
theorem cOK.next {r k : Int} (h : cOK X r k) (ht : X 71 0 (120 + r) < X 40 0 2) (hk : X 72 0 (120 + r) ≤ k) : cOK X (r + 1) 0 := by
  refine ⟨fun r' h0 h1 => ?_, fun k' k0 k1 => by omega⟩
  by_cases hq : r' = r
  · subst hq
    exact ⟨ht, fun k' k0 k1 => h.2 k' k0 (by omega)⟩
  · exact h.1 r' h0 (by omega)
theorem cOK.push {r k : Int} (h : cOK X r k) (ht : ty4 X r k) : cOK X r (k + 1) := by
  refine ⟨h.1, fun k' k0 k1 => ?_⟩
  by_cases hq : k' = k
  · subst hq; exact ht
  · exact h.2 k' k0 (by omega)
/-! the fifth save is copied into save s -/
def Cpy (Xe Xa : Nat → Int → Int → Int) (s a b c : Int) : Prop := (∀ j, (j < 30 * s ∨ 30 * s + 30 ≤ j) → Xa 71 0 j = Xe 71 0 j ∧ Xa 72 0 j = Xe 72 0 j) ∧ (∀ j, (j < 150 * s ∨ 150 * s + 150 ≤ j) → Xa 74 0 j = Xe 74 0 j ∧ Xa 75 0 j = Xe 75 0 j) ∧ (∀ r, 0 ≤ r → r < a → Xa 71 0 (30 * s + r) = Xe 71 0 (120 + r) ∧ Xa 72 0 (30 * s + r) = Xe 72 0 (120 + r)) ∧ ∀ r k, 0 ≤ r → 0 ≤ k → k < 5 → (r < b ∨ (r = b ∧ k < c)) → Xa 74 0 (5 * (30 * s + r) + k) = Xe 74 0 (5 * (120 + r) + k) ∧ Xa 75 0 (5 * (30 * s + r) + k) = Xe 75 0 (5 * (120 + r) + k)
theorem Cpy.in_ {Xe Xa : Nat → Int → Int → Int} {s : Int} (e : ∀ j, Xa 71 0 j = Xe 71 0 j ∧ Xa 72 0 j = Xe 72 0 j ∧ Xa 74 0 j = Xe 74 0 j ∧ Xa 75 0 j = Xe 75 0 j) : Cpy Xe Xa s 0 0 0 := ⟨fun j _ => ⟨(e j).1, (e j).2.1⟩, fun j _ => ⟨(e j).2.2.1, (e j).2.2.2⟩, fun r h0 h1 => by omega, fun r k h0 k0 k1 h => by omega⟩
theorem Cpy.next {Xe Xa : Nat → Int → Int → Int} {s a b c : Int} (h : Cpy Xe Xa s a b c) (hc : 5 ≤ c) : Cpy Xe Xa s a (b + 1) 0 := ⟨h.1, h.2.1, h.2.2.1, fun r k h0 k0 k1 hh => h.2.2.2 r k h0 k0 k1 (by omega)⟩
theorem Cpy.s7 {Xe Xa Xb Xc : Nat → Int → Int → Int} {s r : Int} (h : Cpy Xe Xa s r r 0) (hs : 0 ≤ s ∧ s ≤ 3) (hr : 0 ≤ r ∧ r ≤ 29) (e1 : Xb = u3 Xa 71 0 (30 * s + r) (Xa 71 0 (120 + r))) (e2 : Xc = u3 Xb 72 0 (30 * s + r) (Xa 72 0 (120 + r))) : Cpy Xe Xc s (r + 1) r 0 := by
  have k71 : ∀ j, j ≠ 30 * s + r → Xc 71 0 j = Xa 71 0 j := fun j hj => by rw [e2, e1, u3_k _ _ _ _ (by decide), u3_j _ _ _ _ hj]
  have k72 : ∀ j, j ≠ 30 * s + r → Xc 72 0 j = Xa 72 0 j := fun j hj => by rw [e2, u3_j _ _ _ _ hj, e1, u3_k _ _ _ _ (by decide)]
  have k71s : Xc 71 0 (30 * s + r) = Xa 71 0 (120 + r) := by rw [e2, e1, u3_k _ _ _ _ (by decide)]; exact u3_s _ _ _ _ _
  have k72s : Xc 72 0 (30 * s + r) = Xa 72 0 (120 + r) := by rw [e2]; exact u3_s _ _ _ _ _
  have k74 : ∀ j, Xc 74 0 j = Xa 74 0 j ∧ Xc 75 0 j = Xa 75 0 j := fun j => by rw [e2, e1, u3_k _ _ _ _ (by decide), u3_k _ _ _ _ (by decide), u3_k _ _ _ _ (by decide), u3_k _ _ _ _ (by decide)]; exact ⟨rfl, rfl⟩
  refine ⟨fun j hj => ?_, fun j hj => ?_, fun r' h0 h1 => ?_, fun r' k h0 k0 k1 hh => ?_⟩
  · rw [k71 j (by omega), k72 j (by omega)]; exact h.1 j hj
  · rw [(k74 j).1, (k74 j).2]; exact h.2.1 j hj
  · by_cases hq : r' = r
    · subst hq
      rw [k71s, k72s]
      exact h.1 (120 + r') (by omega)
    · rw [k71 _ (by omega), k72 _ (by omega)]; exact h.2.2.1 r' h0 (by omega)
  · rw [(k74 _).1, (k74 _).2]; exact h.2.2.2 r' k h0 k0 k1 hh
theorem Cpy.s5 {Xe Xa Xb Xc Xd : Nat → Int → Int → Int} {s a r k v : Int} (h : Cpy Xe Xa s a r k) (hs : 0 ≤ s ∧ s ≤ 3) (hr : 0 ≤ r ∧ r ≤ 29) (hk : 0 ≤ k ∧ k ≤ 4) (e1 : Xb = u3 Xa 73 0 (5 * (30 * s + r) + k) v) (e2 : Xc = u3 Xb 74 0 (5 * (30 * s + r) + k) (Xa 74 0 (5 * (120 + r) + k))) (e3 : Xd = u3 Xc 75 0 (5 * (30 * s + r) + k) (Xa 75 0 (5 * (120 + r) + k))) : Cpy Xe Xd s a r (k + 1) := by
  have k71 : ∀ j, Xd 71 0 j = Xa 71 0 j ∧ Xd 72 0 j = Xa 72 0 j := fun j => by rw [e3, e2, e1]; exact ⟨by rw [u3_k _ _ _ _ (by decide), u3_k _ _ _ _ (by decide), u3_k _ _ _ _ (by decide)], by rw [u3_k _ _ _ _ (by decide), u3_k _ _ _ _ (by decide), u3_k _ _ _ _ (by decide)]⟩
  have k74 : ∀ j, j ≠ 5 * (30 * s + r) + k → Xd 74 0 j = Xa 74 0 j := fun j hj => by rw [e3, u3_k _ _ _ _ (by decide), e2, u3_j _ _ _ _ hj, e1, u3_k _ _ _ _ (by decide)]
  have k75 : ∀ j, j ≠ 5 * (30 * s + r) + k → Xd 75 0 j = Xa 75 0 j := fun j hj => by rw [e3, u3_j _ _ _ _ hj, e2, u3_k _ _ _ _ (by decide), e1, u3_k _ _ _ _ (by decide)]
  have k74s : Xd 74 0 (5 * (30 * s + r) + k) = Xa 74 0 (5 * (120 + r) + k) := by rw [e3, u3_k _ _ _ _ (by decide), e2]; exact u3_s _ _ _ _ _
  have k75s : Xd 75 0 (5 * (30 * s + r) + k) = Xa 75 0 (5 * (120 + r) + k) := by rw [e3]; exact u3_s _ _ _ _ _
  refine ⟨fun j hj => ?_, fun j hj => ?_, fun r' h0 h1 => ?_, fun r' k' h0 k0 k1 hh => ?_⟩
  · rw [(k71 j).1, (k71 j).2]; exact h.1 j hj
  · rw [k74 j (by omega), k75 j (by omega)]; exact h.2.1 j hj
  · rw [(k71 _).1, (k71 _).2]; exact h.2.2.1 r' h0 h1
  · by_cases hq : r' = r ∧ k' = k
    · obtain ⟨rfl, rfl⟩ := hq
      rw [k74s, k75s]
      exact h.2.1 _ (by omega)
    · rw [k74 _ (by omega), k75 _ (by omega)]; exact h.2.2.2 r' k' h0 k0 k1 (by omega)
theorem minv_save {Xe Xa : Nat → Int → Int → Int} {s n b c : Int} (h : MInv Xe) (hR : Rng Xe) (hc : cOK Xe n 0) (hn4 : Xe 70 0 4 = n) (hs : 0 ≤ s ∧ s ≤ 3) (hF : Frm [7000, 7100, 7200, 7300, 7400, 7500, 7600, 7700, 7800, 7900] Xe Xa) (e70 : ∀ j, j ≠ s → Xa 70 0 j = Xe 70 0 j) (e70s : Xa 70 0 s = n) (hp : Cpy Xe Xa s n b c) (hb : n ≤ b) : MInv Xa := by
  obtain ⟨hA, hB, hC, hD, hE, hG⟩ := h
  have f44 : ∀ j, Xa 44 0 j = Xe 44 0 j := fun j => hF 44 0 j (show 4400 ∉ _ by decide)
  have f46 : ∀ j, Xa 46 0 j = Xe 46 0 j := fun j => hF 46 0 j (show 4600 ∉ _ by decide)
  have f47 : ∀ j, Xa 47 0 j = Xe 47 0 j := fun j => hF 47 0 j (show 4700 ∉ _ by decide)
  have f55 : ∀ j, Xa 55 0 j = Xe 55 0 j := fun j => hF 55 0 j (show 5500 ∉ _ by decide)
  have f56 : ∀ j, Xa 56 0 j = Xe 56 0 j := fun j => hF 56 0 j (show 5600 ∉ _ by decide)
  have fth : Xa 40 0 13 = Xe 40 0 13 := hF 40 0 13 (show 4014 ∉ _ by decide)
  have fty : Xa 40 0 2 = Xe 40 0 2 := hF 40 0 2 (show 4003 ∉ _ by decide)
  have h30 : ∀ s, 0 ≤ Xe 70 0 s ∧ Xe 70 0 s ≤ 30 := fun s => hR 70 0 s
  have h72 : ∀ j, 0 ≤ Xe 72 0 j ∧ Xe 72 0 j ≤ 5 := fun s => hR 72 0 s
  refine ⟨?_, ?_, ?_, mD_of hD hF (by decide) (fun n _ _ _ _ _ => ⟨by rw [f44]; exact Int.le_refl _, by rw [f46]⟩), mE_of hE hF (by decide), ?_⟩
  · unfold mA at *; simp only [f44, f46, f55, f56, fth]; exact hA
  · unfold mB at *; simp only [f44, f46, f47]; exact hB
  · intro s' r h0 h1 h2 h3
    rw [fty]
    by_cases hq : s' = s
    · subst hq
      rw [e70s] at h3 ⊢
      obtain ⟨a1, a2⟩ := hp.2.2.1 r h2 h3
      obtain ⟨c1, c2⟩ := hc.1 r h2 h3
      refine ⟨by rw [a1]; exact c1, fun k k0 k1 => ?_⟩
      rw [a2] at k1
      have := h72 (120 + r)
      obtain ⟨b1, b2⟩ := hp.2.2.2 r k h2 k0 (by omega) (by omega)
      rw [b1, b2]
      have := c2 k k0 k1
      unfold ty4 at this
      rw [hn4] at this
      exact this
    · rw [e70 _ hq] at h3 ⊢
      have := h30 s'
      obtain ⟨c1, c2⟩ := hC s' r h0 h1 h2 h3
      have g := hp.1 (30 * s' + r) (by omega)
      refine ⟨by rw [g.1]; exact c1, fun k k0 k1 => ?_⟩
      rw [g.2] at k1
      have := h72 (30 * s' + r)
      have g2 := hp.2.1 (5 * (30 * s' + r) + k) (by omega)
      rw [g2.1, g2.2]
      exact c2 k k0 k1
  · unfold mF at *; simp only [f55, fth, fty]; exact hG
theorem cOK.le {n r k : Int} (h : cOK X r k) (hn : n ≤ r) : cOK X n 0 := ⟨fun r' h0 h1 => h.1 r' h0 (by omega), fun k' k0 k1 => by omega⟩
theorem Cpy.le {Xe Xa : Nat → Int → Int → Int} {s a a1 b c : Int} (h : Cpy Xe Xa s a b c) (ha : a1 ≤ a) : Cpy Xe Xa s a1 b c := ⟨h.1, h.2.1, fun r h0 h1 => h.2.2.1 r h0 (by omega), h.2.2.2⟩
theorem u3_id {k : Nat} {i j : Int} : u3 X k i j (X k i j) = X := by
  funext k' i' j'
  simp only [u3]
  split
  · rename_i h
    obtain ⟨rfl, rfl, rfl⟩ := h
    rfl
  · rfl
theorem Fld.step_drop {t j x : Int} (h : Fld X t j x) (hR : Rng X) (hx : 0 ≤ x ∧ x < X 40 0 13) (hxt : X 55 0 x = t) (hj : 0 ≤ j ∧ j + 1 < X 44 0 t) (h46 : X 46 0 (5 * t + j) = X 46 0 (5 * t + (j + 1))) : Fld (u3 X 56 0 (5 * x + j) (X 56 0 (5 * x + j + 1))) t j (x + 1) := by
  have hf : X 44 0 t ≤ 5 := (hR 44 0 t).2
  refine Fld.step h hR (by omega) hxt ?_
  have := h.1 x (j + 1) hx.1 hx.2 (by omega) (by rw [hxt]; exact hj.2) (fun _ q => by omega)
  rw [hxt] at this
  rw [h46, Int.add_assoc]
  exact this
/-! putting back -/
def Old (X X1 : Nat → Int → Int → Int) : Prop := (∀ j, j < X 40 0 13 → X1 55 0 j = X 55 0 j) ∧ (∀ j, j < 5 * X 40 0 13 → X1 56 0 j = X 56 0 j)
def New (X X1 : Nat → Int → Int → Int) (sv r : Int) : Prop := ∀ r', 0 ≤ r' → r' < r → X1 55 0 (X 40 0 13 + r') = X 71 0 (30 * sv + r') ∧ ∀ q, 0 ≤ q → q < X 44 0 (X 71 0 (30 * sv + r')) → X1 56 0 (5 * (X 40 0 13 + r') + q) = X 47 0 (5 * X 71 0 (30 * sv + r') + q)
theorem Old.frm {X2 : Nat → Int → Int → Int} (h : Old X X1) (hF : Frm M X1 X2) (hd : ∀ c ∈ [5500, 5600], c ∉ M) : Old X X2 := ⟨fun j hj => (hF 55 0 j (hd 5500 (by decide))).trans (h.1 j hj), fun j hj => (hF 56 0 j (hd 5600 (by decide))).trans (h.2 j hj)⟩
theorem Old.rf (hF : Frm M X X1) (hd : ∀ c ∈ [5500, 5600], c ∉ M) : Old X X1 := ⟨fun j hj => hF 55 0 j (hd 5500 (by decide)), fun j hj => hF 56 0 j (hd 5600 (by decide))⟩
theorem Old.lo {X2 : Nat → Int → Int → Int} (h : Old X X1) (hF : Frm M X1 X2) (hd : 5500 ∉ M) (e : ∀ j, j < 5 * X 40 0 13 → X2 56 0 j = X1 56 0 j) : Old X X2 := ⟨fun j hj => (hF 55 0 j hd).trans (h.1 j hj), fun j hj => (e j hj).trans (h.2 j hj)⟩
theorem Old.s55 {z v : Int} (h : Old X X1) (hz : X 40 0 13 ≤ z) : Old X (u3 X1 55 0 z v) := ⟨fun j hj => by rw [u3_j _ _ _ _ (by omega)]; exact h.1 j hj, fun j hj => by rw [u3_k _ _ _ _ (by decide)]; exact h.2 j hj⟩
theorem Old.s56 {z v : Int} (h : Old X X1) (hz : 5 * X 40 0 13 ≤ z) : Old X (u3 X1 56 0 z v) := ⟨fun j hj => by rw [u3_k _ _ _ _ (by decide)]; exact h.1 j hj, fun j hj => by rw [u3_j _ _ _ _ (by omega)]; exact h.2 j hj⟩
theorem New.nil {sv : Int} : New X X1 sv 0 := fun r' h0 h1 => by omega
theorem New.s55 {sv r z v : Int} (h : New X X1 sv r) (hz : X 40 0 13 + r ≤ z) : New X (u3 X1 55 0 z v) sv r := fun r' h0 h1 => ⟨by rw [u3_j _ _ _ _ (by omega)]; exact (h r' h0 h1).1, fun q q0 q1 => by rw [u3_k _ _ _ _ (by decide)]; exact (h r' h0 h1).2 q q0 q1⟩
theorem New.s56 {sv r z v : Int} (h : New X X1 sv r) (hR : Rng X) (hz : 5 * (X 40 0 13 + r) ≤ z) : New X (u3 X1 56 0 z v) sv r := fun r' h0 h1 => ⟨by rw [u3_k _ _ _ _ (by decide)]; exact (h r' h0 h1).1, fun q q0 q1 => by
  have hf : X 44 0 (X 71 0 (30 * sv + r')) ≤ 5 := (hR 44 0 _).2
  rw [u3_j _ _ _ _ (by omega)]; exact (h r' h0 h1).2 q q0 q1⟩
theorem New.next {sv r : Int} (h : New X X1 sv r) (h5 : X1 55 0 (X 40 0 13 + r) = X 71 0 (30 * sv + r)) (h6 : ∀ q, 0 ≤ q → q < X 44 0 (X 71 0 (30 * sv + r)) → X1 56 0 (5 * (X 40 0 13 + r) + q) = X 47 0 (5 * X 71 0 (30 * sv + r) + q)) : New X X1 sv (r + 1) := fun r' h0 h1 => by
  by_cases hq : r' = r
  · subst hq; exact ⟨h5, h6⟩
  · exact h r' h0 (by omega)
theorem minv_rst_in {sv r n : Int} (h : MInv X) (hR : Rng X) (hs : 0 ≤ sv ∧ sv ≤ 3) (hF : Frm [4001, 4014, 5500, 5600, 8500] X X1) (ho : Old X X1) (hnw : New X X1 sv r) (hr : n ≤ r) (hn : X 70 0 sv = n) (e13 : X1 40 0 13 = X 40 0 13 + n) : MInv X1 := by
  obtain ⟨hA, hB, hC, hD, hE, hG⟩ := h
  have f44 : ∀ j, X1 44 0 j = X 44 0 j := fun j => hF 44 0 j (show 4400 ∉ _ by decide)
  have f46 : ∀ j, X1 46 0 j = X 46 0 j := fun j => hF 46 0 j (show 4600 ∉ _ by decide)
  have f47 : ∀ j, X1 47 0 j = X 47 0 j := fun j => hF 47 0 j (show 4700 ∉ _ by decide)
  have f64 : ∀ j, X1 64 0 j = X 64 0 j := fun j => hF 64 0 j (show 6400 ∉ _ by decide)
  have f65 : ∀ j, X1 65 0 j = X 65 0 j := fun j => hF 65 0 j (show 6500 ∉ _ by decide)
  have f66 : ∀ j, X1 66 0 j = X 66 0 j := fun j => hF 66 0 j (show 6600 ∉ _ by decide)
  have f67 : ∀ j, X1 67 0 j = X 67 0 j := fun j => hF 67 0 j (show 6700 ∉ _ by decide)
  have f68 : ∀ j, X1 68 0 j = X 68 0 j := fun j => hF 68 0 j (show 6800 ∉ _ by decide)
  have fty : X1 40 0 2 = X 40 0 2 := hF 40 0 2 (show 4003 ∉ _ by decide)
  have fno : X1 40 0 22 = X 40 0 22 := hF 40 0 22 (show 4023 ∉ _ by decide)
  have hty : 0 ≤ X 40 0 2 ∧ X 40 0 2 ≤ 8 := hR 40 0 2
  have hth : 0 ≤ X 40 0 13 ∧ X 40 0 13 ≤ 30 := hR 40 0 13
  have h7n : 0 ≤ X 70 0 sv ∧ X 70 0 sv ≤ 30 := hR 70 0 sv
  have h71 : ∀ j, 0 ≤ X 71 0 j ∧ X 71 0 j ≤ 7 := fun j => hR 71 0 j
  have hfm : ∀ t, 0 ≤ X 44 0 t ∧ X 44 0 t ≤ 5 := fun t => hR 44 0 t
  refine ⟨?_, ?_, mC_of hC hF (by decide) (by omega), ?_, mE_of hE hF (by decide), ?_⟩
  · intro x k h0 h1 k0 k1
    rw [e13] at h1 ⊢
    simp only [f44, f46] at *
    by_cases hx : x < X 40 0 13
    · rw [ho.1 x hx] at k1 ⊢
      have := hfm (X 55 0 x)
      rw [ho.2 _ (by omega)]
      exact tyv_up (hA x k h0 hx k0 k1) (by omega)
    · obtain ⟨a, b⟩ := hnw (x - X 40 0 13) (by omega) (by omega)
      rw [show X 40 0 13 + (x - X 40 0 13) = x by omega] at a b
      rw [a] at k1 ⊢
      rw [b k k0 k1]
      by_cases hz : X 46 0 (5 * X 71 0 (30 * sv + (x - X 40 0 13)) + k) = 0
      · rw [hz]; exact tyv_0
      · have g := h71 (30 * sv + (x - X 40 0 13))
        rw [hB _ k g.1 g.2 k0 k1 hz]; exact tyv_none (by omega)
  · unfold mB at *; simp only [f44, f46, f47]; exact hB
  · intro n' n0 n1
    rw [fno] at n1
    simp only [f44, f46, f64, f65, f66, f67, f68]
    obtain ⟨d1, d2⟩ := hD n' n0 n1
    refine ⟨fun q => ?_, d2⟩
    obtain ⟨a, b, c⟩ := d1 q
    rw [ho.1 _ a, e13]
    exact ⟨by omega, b, tyv_up c (by omega)⟩
  · intro x h0 h1
    rw [e13] at h1
    rw [fty]
    by_cases hx : x < X 40 0 13
    · rw [ho.1 x hx]; exact hG x h0 hx
    · obtain ⟨a, -⟩ := hnw (x - X 40 0 13) (by omega) (by omega)
      rw [show X 40 0 13 + (x - X 40 0 13) = x by omega] at a
      rw [a]
      exact (hC sv (x - X 40 0 13) hs.1 hs.2 (by omega) (by omega)).1
theorem minv_rst_back (h : MInv X) (hR : Rng X) (hF : Frm [4001, 4014, 5500, 5600, 4029, 6000, 5700, 5800, 5900, 8500, 4042, 4043, 4044] X X1) (ho : Old X X1) (e13 : X1 40 0 13 = X 40 0 13) : MInv X1 := by
  obtain ⟨hA, hB, hC, hD, hE, hG⟩ := h
  have f44 : ∀ j, X1 44 0 j = X 44 0 j := fun j => hF 44 0 j (show 4400 ∉ _ by decide)
  have f46 : ∀ j, X1 46 0 j = X 46 0 j := fun j => hF 46 0 j (show 4600 ∉ _ by decide)
  have f47 : ∀ j, X1 47 0 j = X 47 0 j := fun j => hF 47 0 j (show 4700 ∉ _ by decide)
  have f64 : ∀ j, X1 64 0 j = X 64 0 j := fun j => hF 64 0 j (show 6400 ∉ _ by decide)
  have f65 : ∀ j, X1 65 0 j = X 65 0 j := fun j => hF 65 0 j (show 6500 ∉ _ by decide)
  have f66 : ∀ j, X1 66 0 j = X 66 0 j := fun j => hF 66 0 j (show 6600 ∉ _ by decide)
  have f67 : ∀ j, X1 67 0 j = X 67 0 j := fun j => hF 67 0 j (show 6700 ∉ _ by decide)
  have f68 : ∀ j, X1 68 0 j = X 68 0 j := fun j => hF 68 0 j (show 6800 ∉ _ by decide)
  have fty : X1 40 0 2 = X 40 0 2 := hF 40 0 2 (show 4003 ∉ _ by decide)
  have fno : X1 40 0 22 = X 40 0 22 := hF 40 0 22 (show 4023 ∉ _ by decide)
  have hfm : ∀ t, 0 ≤ X 44 0 t ∧ X 44 0 t ≤ 5 := fun t => hR 44 0 t
  refine ⟨?_, ?_, mC_of hC hF (by decide) (by omega), ?_, mE_of hE hF (by decide), ?_⟩
  · intro x k h0 h1 k0 k1
    rw [e13] at h1 ⊢
    simp only [f44, f46] at *
    rw [ho.1 x h1] at k1 ⊢
    have := hfm (X 55 0 x)
    rw [ho.2 _ (by omega)]
    exact hA x k h0 h1 k0 k1
  · unfold mB at *; simp only [f44, f46, f47]; exact hB
  · intro n' n0 n1
    rw [fno] at n1
    simp only [f44, f46, f64, f65, f66, f67, f68]
    obtain ⟨d1, d2⟩ := hD n' n0 n1
    refine ⟨fun q => ?_, d2⟩
    obtain ⟨a, b, c⟩ := d1 q
    rw [ho.1 _ a, e13]
    exact ⟨a, b, c⟩
  · intro x h0 h1
    rw [e13] at h1
    rw [fty, ho.1 x h1]
    exact hG x h0 h1
end M3
