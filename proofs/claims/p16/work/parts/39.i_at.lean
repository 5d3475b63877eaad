section JAT
variable {cnt : Nat → Int} {X X1 X2 : Nat → Int → Int → Int} {Y : Nat → Int → Int → Option Int} {ln : Int → Int} {x k i z zb : Int}
/-- what at and itemAt read, told by the reference's words -/
theorem at_br (h : RC cnt X Y ln) (hMI : MInv X) (hR : Rng X) : (tHas X x ↔ 0 ≤ x ∧ x < X 40 0 13) ∧ (0 ≤ x ∧ x < X 40 0 13 → (tFld X Y x k ↔ 0 ≤ k ∧ k < X 44 0 (X 55 0 x)) ∧ (0 ≤ k ∧ k < X 44 0 (X 55 0 x) → (tRow X Y x k ↔ 3 ≤ X 46 0 (5 * X 55 0 x + k)) ∧ (X 46 0 (5 * X 55 0 x + k) < 3 → X 16 x k = X 56 0 (5 * x + k)) ∧ (3 ≤ X 46 0 (5 * X 55 0 x + k) → (Y 17 x k = none → X 56 0 (5 * x + k) = -1) ∧ ∀ g, Y 17 x k = some g → 0 ≤ X 56 0 (5 * x + k) ∧ ln g = X 58 0 (X 56 0 (5 * x + k)) ∧ ∀ i, 0 ≤ i → i < ln g → X 27 g i = X 59 0 (12 * X 56 0 (5 * x + k) + i)))) := by
  obtain ⟨⟨hT, hM, hW, hC, hf⟩, hB, -⟩ := id h
  have h3 := hB.1.1.1
  refine ⟨by unfold tHas; rw [h3], fun hx => ?_⟩
  obtain ⟨b1, b2, b3, b4⟩ := bridge hB.1.1 hT hf hMI hR hx.1 hx.2
  refine ⟨by unfold tFld; rw [b1, b2], fun hk => ?_⟩
  have b5 := b4 k hk.1 hk.2
  have hH := (hB.1.1.2 x hx.1 hx.2).2 k hk.1 hk.2
  obtain ⟨y1, y2, y3⟩ := hMI.1 x k hx.1 hx.2 hk.1 hk.2
  refine ⟨by unfold tRow; rw [b1, b5.2.1], hH.1, fun hl => ⟨fun e => ?_, fun g e => ?_⟩⟩
  · have := (hH.2 hl).mp e; omega
  · have h0 : 0 ≤ X 56 0 (5 * x + k) := by
      by_cases c : X 56 0 (5 * x + k) < 0
      · have := (hH.2 hl).mpr c
        rw [e] at this; cases this
      · omega
    have L : Lv Y X g (X 56 0 (5 * x + k)) (X 46 0 (5 * X 55 0 x + k)) := Or.inl ⟨x, k, hx.1, hx.2, hk.1, hk.2, rfl, hl, e, rfl⟩
    obtain ⟨-, -, -, -, -, r6, r7⟩ := hB.1.2.2.1 _ _ _ L
    exact ⟨h0, r6, r7⟩
theorem J_at (h : RC cnt X Y ln) (hMI : MInv X) (hR : Rng X) (hF : Frm [10000] X X1) (p : atL X X1 Y ln x k z) (hG : Frm [4001] X1 X2) (q : ((¬ (0 ≤ x ∧ x < X1 40 0 13) ∧ zb = 0 ∧ X2 40 0 0 = 1) ∨ ((0 ≤ x ∧ x < X1 40 0 13) ∧ ¬ (0 ≤ x ∧ x < X1 40 0 13 ∧ 0 ≤ k ∧ k < X1 44 0 (X1 55 0 x)) ∧ zb = 0 ∧ X2 40 0 0 = 2) ∨ ((0 ≤ x ∧ x < X1 40 0 13 ∧ 0 ≤ k ∧ k < X1 44 0 (X1 55 0 x)) ∧ (X1 46 0 (5 * X1 55 0 x + k) < 3 ∨ X1 56 0 (5 * x + k) < 0) ∧ zb = X1 56 0 (5 * x + k) ∧ X2 40 0 0 = 0) ∨ ((0 ≤ x ∧ x < X1 40 0 13 ∧ 0 ≤ k ∧ k < X1 44 0 (X1 55 0 x)) ∧ 3 ≤ X1 46 0 (5 * X1 55 0 x + k) ∧ 0 ≤ X1 56 0 (5 * x + k) ∧ zb = X1 58 0 (X1 56 0 (5 * x + k)) ∧ X2 40 0 0 = 0))) : X2 40 0 0 = z ∧ (z = 0 → X2 100 0 0 = zb) := by
  obtain ⟨a1, a2⟩ := at_br (x := x) (k := k) h hMI hR
  have eo : X2 100 0 0 = X1 100 0 0 := hG 100 0 0 (show 10000 ∉ _ by decide)
  rw [hF 40 0 13 (show 4014 ∉ _ by decide), hF.arr 44 (by decide +kernel) (by decide), hF.arr 46 (by decide +kernel) (by decide), hF.arr 55 (by decide +kernel) (by decide), hF.arr 56 (by decide +kernel) (by decide), hF.arr 58 (by decide +kernel) (by decide)] at q
  rw [eo]
  rcases p with ⟨pz, n1⟩ | ⟨pz, h1, n2⟩ | ⟨pz, h1, h2, hv⟩
  · rw [a1] at n1
    exact ⟨by omega, fun w => by omega⟩
  · rw [a1] at h1
    rw [(a2 h1).1] at n2
    exact ⟨by omega, fun w => by omega⟩
  · rw [a1] at h1
    obtain ⟨f1, f2⟩ := a2 h1
    rw [f1] at h2
    obtain ⟨g1, g2, g3⟩ := f2 h2
    rw [g1] at hv
    rcases hv with ⟨v1, v2⟩ | ⟨v1, v2, v3⟩ | ⟨v1, g, v2, v3⟩
    · have := g2 (by omega)
      exact ⟨by omega, fun w => by omega⟩
    · have := (g3 v1).1 v2
      exact ⟨by omega, fun w => by omega⟩
    · obtain ⟨w1, w2, -⟩ := (g3 v1).2 g v2
      exact ⟨by omega, fun w => by omega⟩
theorem J_itemAt (h : RC cnt X Y ln) (hMI : MInv X) (hR : Rng X) (hF : Frm [10000] X X1) (p : iaL X X1 Y ln x k i z) (hG : Frm [4001] X1 X2) (q : ((¬ (0 ≤ x ∧ x < X1 40 0 13) ∧ zb = 0 ∧ X2 40 0 0 = 1) ∨ ((0 ≤ x ∧ x < X1 40 0 13) ∧ ¬ (0 ≤ x ∧ x < X1 40 0 13 ∧ 0 ≤ k ∧ k < X1 44 0 (X1 55 0 x)) ∧ zb = 0 ∧ X2 40 0 0 = 3) ∨ ((0 ≤ x ∧ x < X1 40 0 13 ∧ 0 ≤ k ∧ k < X1 44 0 (X1 55 0 x)) ∧ (X1 46 0 (5 * X1 55 0 x + k) < 3 ∨ X1 56 0 (5 * x + k) < 0) ∧ zb = 0 ∧ X2 40 0 0 = 2) ∨ ((0 ≤ x ∧ x < X1 40 0 13 ∧ 0 ≤ k ∧ k < X1 44 0 (X1 55 0 x)) ∧ 3 ≤ X1 46 0 (5 * X1 55 0 x + k) ∧ 0 ≤ X1 56 0 (5 * x + k) ∧ ¬ (0 ≤ i ∧ i < X1 58 0 (X1 56 0 (5 * x + k))) ∧ zb = 0 ∧ X2 40 0 0 = 3) ∨ ((0 ≤ x ∧ x < X1 40 0 13 ∧ 0 ≤ k ∧ k < X1 44 0 (X1 55 0 x)) ∧ 3 ≤ X1 46 0 (5 * X1 55 0 x + k) ∧ 0 ≤ X1 56 0 (5 * x + k) ∧ (0 ≤ i ∧ i < X1 58 0 (X1 56 0 (5 * x + k))) ∧ zb = X1 59 0 (12 * X1 56 0 (5 * x + k) + i) ∧ X2 40 0 0 = 0))) : X2 40 0 0 = z ∧ (z = 0 → X2 100 0 0 = zb) := by
  obtain ⟨a1, a2⟩ := at_br (x := x) (k := k) h hMI hR
  have eo : X2 100 0 0 = X1 100 0 0 := hG 100 0 0 (show 10000 ∉ _ by decide)
  rw [hF 40 0 13 (show 4014 ∉ _ by decide), hF.arr 44 (by decide +kernel) (by decide), hF.arr 46 (by decide +kernel) (by decide), hF.arr 55 (by decide +kernel) (by decide), hF.arr 56 (by decide +kernel) (by decide), hF.arr 58 (by decide +kernel) (by decide), hF.arr 59 (by decide +kernel) (by decide)] at q
  rw [eo]
  rcases p with ⟨pz, n1⟩ | ⟨pz, ⟨h1, n2⟩ | ⟨h1, h2, h3, g, h4, n5⟩⟩ | ⟨pz, h1, h2, n3⟩ | ⟨pz, h1, h2, h3, g, h4, h5, h6⟩
  · rw [a1] at n1
    exact ⟨by omega, fun w => by omega⟩
  · rw [a1] at h1
    rw [(a2 h1).1] at n2
    exact ⟨by omega, fun w => by omega⟩
  · rw [a1] at h1
    obtain ⟨f1, f2⟩ := a2 h1
    rw [f1] at h2
    obtain ⟨g1, g2, g3⟩ := f2 h2
    rw [g1] at h3
    obtain ⟨w1, w2, -⟩ := (g3 h3).2 g h4
    exact ⟨by omega, fun w => by omega⟩
  · rw [a1] at h1
    obtain ⟨f1, f2⟩ := a2 h1
    rw [f1] at h2
    obtain ⟨g1, g2, g3⟩ := f2 h2
    rw [g1] at n3
    rcases n3 with n3 | n3
    · exact ⟨by omega, fun w => by omega⟩
    · by_cases c : 3 ≤ X 46 0 (5 * X 55 0 x + k)
      · have := (g3 c).1 n3
        exact ⟨by omega, fun w => by omega⟩
      · exact ⟨by omega, fun w => by omega⟩
  · rw [a1] at h1
    obtain ⟨f1, f2⟩ := a2 h1
    rw [f1] at h2
    obtain ⟨g1, g2, g3⟩ := f2 h2
    rw [g1] at h3
    obtain ⟨w1, w2, w3⟩ := (g3 h3).2 g h4
    have := w3 i h5.1 h5.2
    exact ⟨by omega, fun w => by omega⟩
end JAT

