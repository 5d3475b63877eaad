/-! what class and reference have in common: printed by wip/tools/law2.py -/
def rT (X : Nat → Int → Int → Int) : Prop := X 0 0 1 = X 40 0 2
def rM (X : Nat → Int → Int → Int) : Prop := X 29 0 3 = X 40 0 20
def rW (X : Nat → Int → Int → Int) : Prop := ∀ w, 0 ≤ w → w < 16 → X 3 0 w = 1 - X 42 0 w
def rC (X : Nat → Int → Int → Int) : Prop := ∀ t, 0 ≤ t → t < X 0 0 1 → X 19 t 6 = X 49 0 t
def rF (X : Nat → Int → Int → Int) : Prop := ∀ t, 0 ≤ t → t < X 0 0 1 → X 19 t 1 = X 44 0 t ∧ ∀ k, 0 ≤ k → k < X 19 t 1 → X 20 t k = X 45 0 (5 * t + k) ∧ X 21 t k = X 46 0 (5 * t + k) ∧ X 22 t k = X 47 0 (5 * t + k) ∧ X 23 t k = X 48 0 (5 * t + k)
section RX
variable {M N : List Nat} {X X1 X2 : Nat → Int → Int → Int}
theorem rT.frm (h : rT X) (hF : Frm M X X1) (hd : ∀ c ∈ [2, 4003], c ∉ M) : rT X1 := by unfold rT at *; rw [hF 0 0 1 (hd 2 (by decide)), hF 40 0 2 (hd 4003 (by decide))]; exact h
theorem rM.frm (h : rM X) (hF : Frm M X X1) (hd : ∀ c ∈ [2904, 4021], c ∉ M) : rM X1 := by unfold rM at *; rw [hF 29 0 3 (hd 2904 (by decide)), hF 40 0 20 (hd 4021 (by decide))]; exact h
theorem rW.frm (h : rW X) (hF : Frm M X X1) (hd : ∀ c ∈ [300, 4200], c ∉ M) : rW X1 := fun w g0 g1 => by rw [hF 3 0 w (hd 300 (by decide)), hF 42 0 w (hd 4200 (by decide))]; exact h w g0 g1
theorem rC.frm (h : rC X) (hF : Frm M X X1) (hd : ∀ c ∈ [2, 1907, 4900], c ∉ M) : rC X1 := fun t g0 g1 => by rw [hF 0 0 1 (hd 2 (by decide))] at g1; rw [hF 19 t 6 (hd 1907 (by decide)), hF 49 0 t (hd 4900 (by decide))]; exact h t g0 g1
theorem rF.frm (h : rF X) (hF : Frm M X X1) (hd : ∀ c ∈ [2, 1902, 2000, 2100, 2200, 2300, 4400, 4500, 4600, 4700, 4800], c ∉ M) : rF X1 := fun t g0 g1 => by
  rw [hF 0 0 1 (hd 2 (by decide))] at g1
  have h1 := h t g0 g1
  rw [hF 19 t 1 (hd 1902 (by decide)), hF 44 0 t (hd 4400 (by decide))]
  refine ⟨h1.1, fun k k0 k1 => ?_⟩
  rw [hF 20 t k (hd 2000 (by decide)), hF 21 t k (hd 2100 (by decide)), hF 22 t k (hd 2200 (by decide)), hF 23 t k (hd 2300 (by decide)), hF 45 0 _ (hd 4500 (by decide)), hF 46 0 _ (hd 4600 (by decide)), hF 47 0 _ (hd 4700 (by decide)), hF 48 0 _ (hd 4800 (by decide))]
  exact h1.2 k k0 k1
theorem rM_mark {z z2 : Int} (h : rM X) (hF : Frm [2904, 3100] X X1) (p : (4 ≤ X 29 0 3 ∧ z = -4 ∧ X1 29 0 3 = X 29 0 3) ∨ (X 29 0 3 < 4 ∧ z = X 29 0 3 + 1 ∧ X1 29 0 3 = X 29 0 3 + 1)) (hG : Frm [4001, 6200, 4021] X1 X2) (q : (X1 40 0 20 = 4 ∧ z2 = -4 ∧ X2 40 0 20 = X1 40 0 20) ∨ (X1 40 0 20 < 4 ∧ z2 = X1 40 0 20 + 1 ∧ X2 40 0 20 = X1 40 0 20 + 1)) (hR : Rng X) : rM X2 ∧ z = z2 := by
  unfold rM at *
  have a := hF 40 0 20 (show 4021 ∉ _ by decide)
  have b := hG 29 0 3 (show 2904 ∉ _ by decide)
  have c : 0 ≤ X 29 0 3 ∧ X 29 0 3 ≤ 4 := hR 29 0 3
  omega
theorem rM_undo (h : rM X) (hF : Frm [2904, 2902, 1600, 2700] X X1) (p : (X 29 0 3 = 0 ∧ X1 29 0 3 = 0) ∨ (1 ≤ X 29 0 3 ∧ X1 29 0 3 = X 29 0 3 - 1)) (hG : Frm [4001, 4021, 4023, 5600, 5900] X1 X2) (q : (X1 40 0 20 = 0 ∧ X2 40 0 20 = 0) ∨ (1 ≤ X1 40 0 20 ∧ X2 40 0 20 = X1 40 0 20 - 1)) : rM X2 := by
  unfold rM at *
  have a := hF 40 0 20 (show 4021 ∉ _ by decide)
  have b := hG 29 0 3 (show 2904 ∉ _ by decide)
  omega
theorem rW_word {z z2 w on on2 : Int} (h : rW X) (hF : Frm [300] X X1) (p : (0 ≤ w ∧ w < 16 ∧ z = X 3 0 w ∧ X1 3 0 w = on) ∨ (¬ (0 ≤ w ∧ w < 16) ∧ z = -1 ∧ X1 3 0 w = X 3 0 w)) (p2 : ∀ y, y ≠ w → X1 3 0 y = X 3 0 y) (hG : Frm [4001, 4200] X1 X2) (q : (0 ≤ w ∧ w < 16 ∧ z2 = 1 - X1 42 0 w ∧ X2 42 0 w = 1 - on2) ∨ (¬ (0 ≤ w ∧ w < 16) ∧ z2 = -1 ∧ X2 42 0 w = X1 42 0 w)) (q2 : ∀ y, y ≠ w → X2 42 0 y = X1 42 0 y) (ho : on = on2) : rW X2 ∧ z = z2 := by
  have a : ∀ w, X1 42 0 w = X 42 0 w := fun w => hF 42 0 w (show 4200 ∉ _ by decide)
  have b : ∀ w, X2 3 0 w = X1 3 0 w := fun w => hG 3 0 w (show 300 ∉ _ by decide)
  have aw := a w
  refine ⟨fun y g0 g1 => ?_, ?_⟩
  · have h1 := h y g0 g1
    rw [b y]
    by_cases e : y = w
    · subst e
      omega
    · rw [p2 y e, q2 y e, a y]
      exact h1
  · rcases p with ⟨g0, g1, p3, -⟩ | ⟨g, p3, -⟩
    · have h1 := h w g0 g1
      omega
    · omega
theorem rC_unchecked {z z2 t : Int} (hT : rT X) (h : rC X) (hF : Frm [1907] X X1) (p : (0 ≤ t ∧ t < X 0 0 1 ∧ z = X 19 t 6 ∧ X1 19 t 6 = 0) ∨ (¬ (0 ≤ t ∧ t < X 0 0 1) ∧ z = -1 ∧ X1 19 t 6 = X 19 t 6)) (p2 : ∀ y, y ≠ t → X1 19 y 6 = X 19 y 6) (hG : Frm [4001, 4900] X1 X2) (q : (0 ≤ t ∧ t < X1 40 0 2 ∧ z2 = X1 49 0 t ∧ X2 49 0 t = 0) ∨ (¬ (0 ≤ t ∧ t < X1 40 0 2) ∧ z2 = -1 ∧ X2 49 0 t = X1 49 0 t)) (q2 : ∀ y, y ≠ t → X2 49 0 y = X1 49 0 y) (hR : Rng X) : rC X2 ∧ z = z2 := by
  unfold rT at hT
  have a : ∀ t, X1 49 0 t = X 49 0 t := fun t => hF 49 0 t (show 4900 ∉ _ by decide)
  have b : ∀ t, X2 19 t 6 = X1 19 t 6 := fun t => hG 19 t 6 (show 1907 ∉ _ by decide)
  have a2 := hF 40 0 2 (show 4003 ∉ _ by decide)
  have a1 := hF 0 0 1 (show 2 ∉ _ by decide)
  have b1 := hG 0 0 1 (show 2 ∉ _ by decide)
  have at9 := a t
  have c : 0 ≤ X 19 t 6 ∧ X 19 t 6 ≤ 4 := hR 19 t 6
  refine ⟨fun y g0 g1 => ?_, ?_⟩
  · have h1 := h y g0 (by omega)
    rw [b y]
    by_cases e : y = t
    · subst e
      omega
    · rw [p2 y e, q2 y e, a y]
      exact h1
  · by_cases g : 0 ≤ t ∧ t < X 0 0 1
    · have h1 := h t g.1 g.2
      omega
    · omega
theorem rC_check {z z2 t kd a b : Int} (hT : rT X) (h : rC X) (hF : Frm [2501, 2502, 2503, 2504, 1907] X X1) (p : ((¬ (0 ≤ t ∧ t < X 0 0 1) ∧ z = -1 ∧ X1 19 t 6 = X 19 t 6) ∨ (0 ≤ t ∧ t < X 0 0 1 ∧ ¬ (0 ≤ kd ∧ kd < 6 ∧ 0 ≤ a ∧ a < 5 ∧ 0 ≤ b ∧ b < 5) ∧ z = -2 ∧ X1 19 t 6 = X 19 t 6) ∨ (0 ≤ t ∧ t < X 0 0 1 ∧ (0 ≤ kd ∧ kd < 6 ∧ 0 ≤ a ∧ a < 5 ∧ 0 ≤ b ∧ b < 5) ∧ 4 ≤ X 19 t 6 ∧ z = -4 ∧ X1 19 t 6 = X 19 t 6) ∨ (0 ≤ t ∧ t < X 0 0 1 ∧ (0 ≤ kd ∧ kd < 6 ∧ 0 ≤ a ∧ a < 5 ∧ 0 ≤ b ∧ b < 5) ∧ X 19 t 6 ≤ 3 ∧ z = X 19 t 6 + 1 ∧ X1 19 t 6 = X 19 t 6 + 1))) (p2 : ∀ y, y ≠ t → X1 19 y 6 = X 19 y 6) (hG : Frm [4001, 5000, 5100, 5200, 5300, 4900] X1 X2) (q : ((¬ (0 ≤ t ∧ t < X1 40 0 2) ∧ z2 = -1 ∧ X2 49 0 t = X1 49 0 t) ∨ (0 ≤ t ∧ t < X1 40 0 2 ∧ ¬ (0 ≤ kd ∧ kd < 6 ∧ 0 ≤ a ∧ a < 5 ∧ 0 ≤ b ∧ b < 5) ∧ z2 = -2 ∧ X2 49 0 t = X1 49 0 t) ∨ (0 ≤ t ∧ t < X1 40 0 2 ∧ (0 ≤ kd ∧ kd < 6 ∧ 0 ≤ a ∧ a < 5 ∧ 0 ≤ b ∧ b < 5) ∧ 4 ≤ X1 49 0 t ∧ z2 = -4 ∧ X2 49 0 t = X1 49 0 t) ∨ (0 ≤ t ∧ t < X1 40 0 2 ∧ (0 ≤ kd ∧ kd < 6 ∧ 0 ≤ a ∧ a < 5 ∧ 0 ≤ b ∧ b < 5) ∧ X1 49 0 t ≤ 3 ∧ z2 = X1 49 0 t + 1 ∧ X2 49 0 t = X1 49 0 t + 1))) (q2 : ∀ y, y ≠ t → X2 49 0 y = X1 49 0 y) (hR : Rng X) : rC X2 ∧ z = z2 := by
  unfold rT at hT
  have a : ∀ t, X1 49 0 t = X 49 0 t := fun t => hF 49 0 t (show 4900 ∉ _ by decide)
  have b : ∀ t, X2 19 t 6 = X1 19 t 6 := fun t => hG 19 t 6 (show 1907 ∉ _ by decide)
  have a2 := hF 40 0 2 (show 4003 ∉ _ by decide)
  have a1 := hF 0 0 1 (show 2 ∉ _ by decide)
  have b1 := hG 0 0 1 (show 2 ∉ _ by decide)
  have at9 := a t
  have c : 0 ≤ X 19 t 6 ∧ X 19 t 6 ≤ 4 := hR 19 t 6
  refine ⟨fun y g0 g1 => ?_, ?_⟩
  · have h1 := h y g0 (by omega)
    rw [b y]
    by_cases e : y = t
    · subst e
      omega
    · rw [p2 y e, q2 y e, a y]
      exact h1
  · by_cases g : 0 ≤ t ∧ t < X 0 0 1
    · have h1 := h t g.1 g.2
      omega
    · omega
theorem r_type {z z2 : Int} (hT : rT X) (hC : rC X) (hf : rF X) (hF : Frm [1901, 1902, 1907, 2000, 2100, 2200, 2300, 2] X X1) (p : (8 ≤ X 0 0 1 ∧ z = -4 ∧ X1 0 0 1 = X 0 0 1) ∨ (X 0 0 1 < 8 ∧ z = X 0 0 1 ∧ X1 0 0 1 = X 0 0 1 + 1 ∧ X1 19 (X 0 0 1) 1 = 0 ∧ X1 19 (X 0 0 1) 6 = 0)) (p2 : ∀ y, y ≠ X 0 0 1 → X1 19 y = X 19 y ∧ X1 20 y = X 20 y ∧ X1 21 y = X 21 y ∧ X1 22 y = X 22 y ∧ X1 23 y = X 23 y) (hG : Frm [4001, 4400, 4900, 4003] X1 X2) (q : (X1 40 0 2 = 8 ∧ z2 = -4 ∧ X2 40 0 2 = 8) ∨ (X1 40 0 2 < 8 ∧ z2 = X1 40 0 2 ∧ X2 40 0 2 = X1 40 0 2 + 1 ∧ X2 44 0 (X1 40 0 2) = 0 ∧ X2 49 0 (X1 40 0 2) = 0)) (q2 : ∀ y, y ≠ X1 40 0 2 → X2 44 0 y = X1 44 0 y) (q3 : ∀ y, y ≠ X1 40 0 2 → X2 49 0 y = X1 49 0 y) (hR : Rng X) : rT X2 ∧ rC X2 ∧ rF X2 ∧ z = z2 := by
  unfold rT at *
  have a : ∀ t, X1 49 0 t = X 49 0 t := fun t => hF 49 0 t (show 4900 ∉ _ by decide)
  have b : ∀ t, X2 19 t 6 = X1 19 t 6 := fun t => hG 19 t 6 (show 1907 ∉ _ by decide)
  have b9 : ∀ t, X2 19 t 1 = X1 19 t 1 := fun t => hG 19 t 1 (show 1902 ∉ _ by decide)
  have a2 := hF 40 0 2 (show 4003 ∉ _ by decide)
  have b1 := hG 0 0 1 (show 2 ∉ _ by decide)
  have c : 0 ≤ X 0 0 1 ∧ X 0 0 1 ≤ 8 := hR 0 0 1
  have a44 : ∀ y, X1 44 0 y = X 44 0 y := fun y => hF 44 0 y (show 4400 ∉ _ by decide)
  have a45 : ∀ y, X1 45 0 y = X 45 0 y := fun y => hF 45 0 y (show 4500 ∉ _ by decide)
  have a46 : ∀ y, X1 46 0 y = X 46 0 y := fun y => hF 46 0 y (show 4600 ∉ _ by decide)
  have a47 : ∀ y, X1 47 0 y = X 47 0 y := fun y => hF 47 0 y (show 4700 ∉ _ by decide)
  have a48 : ∀ y, X1 48 0 y = X 48 0 y := fun y => hF 48 0 y (show 4800 ∉ _ by decide)
  have b20 : ∀ y j, X2 20 y j = X1 20 y j := fun y j => hG 20 y j (show 2000 ∉ _ by decide)
  have b21 : ∀ y j, X2 21 y j = X1 21 y j := fun y j => hG 21 y j (show 2100 ∉ _ by decide)
  have b22 : ∀ y j, X2 22 y j = X1 22 y j := fun y j => hG 22 y j (show 2200 ∉ _ by decide)
  have b23 : ∀ y j, X2 23 y j = X1 23 y j := fun y j => hG 23 y j (show 2300 ∉ _ by decide)
  rw [a2, ← hT] at q2 q3 q
  refine ⟨by omega, fun y g0 g1 => ?_, fun y g0 g1 => ?_, by omega⟩
  · rw [b y]
    by_cases e : y = X 0 0 1
    · rw [e]
      omega
    · rw [(p2 y e).1, q3 y e, a y]
      exact hC y g0 (by omega)
  · rw [b9 y]
    by_cases e : y = X 0 0 1
    · rw [e]
      exact ⟨by omega, fun k k0 k1 => by omega⟩
    · obtain ⟨e1, e2, e3, e4, e5⟩ := p2 y e
      obtain ⟨h1, h2⟩ := hf y g0 (by omega)
      rw [e1, q2 y e, a44 y]
      refine ⟨h1, fun k k0 k1 => ?_⟩
      have h3 := h2 k k0 k1
      rw [b20, b21, b22, b23, e2, e3, e4, e5, hG 45 0 _ (show 4500 ∉ _ by decide), hG 46 0 _ (show 4600 ∉ _ by decide), hG 47 0 _ (show 4700 ∉ _ by decide), hG 48 0 _ (show 4800 ∉ _ by decide), a45, a46, a47, a48]
      exact h3
theorem rF_field {z z2 t name lane v : Int} (hT : rT X) (hM : rM X) (h : rF X) (hF : Frm [1902, 2000, 2100, 2200, 2300, 1600] X X1) (p : ((¬ (0 ≤ t ∧ t < X 0 0 1) ∧ z = -1 ∧ X1 19 t 1 = X 19 t 1) ∨ (0 ≤ t ∧ t < X 0 0 1 ∧ ¬ (0 ≤ name ∧ name < 20 ∧ nmAt (X 20 t) name (X 19 t 1).toNat = -1 ∧ 0 ≤ lane ∧ lane < 6) ∧ z = -2 ∧ X1 19 t 1 = X 19 t 1) ∨ (0 ≤ t ∧ t < X 0 0 1 ∧ (0 ≤ name ∧ name < 20 ∧ nmAt (X 20 t) name (X 19 t 1).toNat = -1 ∧ 0 ≤ lane ∧ lane < 6) ∧ 0 < X 29 0 3 ∧ z = -3 ∧ X1 19 t 1 = X 19 t 1) ∨ (0 ≤ t ∧ t < X 0 0 1 ∧ (0 ≤ name ∧ name < 20 ∧ nmAt (X 20 t) name (X 19 t 1).toNat = -1 ∧ 0 ≤ lane ∧ lane < 6) ∧ X 29 0 3 = 0 ∧ 5 ≤ X 19 t 1 ∧ z = -4 ∧ X1 19 t 1 = X 19 t 1) ∨ (0 ≤ t ∧ t < X 0 0 1 ∧ (0 ≤ name ∧ name < 20 ∧ nmAt (X 20 t) name (X 19 t 1).toNat = -1 ∧ 0 ≤ lane ∧ lane < 6) ∧ X 29 0 3 = 0 ∧ X 19 t 1 ≤ 4 ∧ z = X 19 t 1 ∧ X1 19 t 1 = X 19 t 1 + 1))) (p2 : 0 ≤ z → X1 20 t z = name ∧ X1 21 t z = lane ∧ X1 22 t z = (if lane = 0 then v else -1) ∧ X1 23 t z = 0) (p3 : ∀ y j, ¬ (0 ≤ z ∧ y = t ∧ j = z) → X1 20 y j = X 20 y j ∧ X1 21 y j = X 21 y j ∧ X1 22 y j = X 22 y j ∧ X1 23 y j = X 23 y j) (p4 : ∀ y, y ≠ t → X1 19 y 1 = X 19 y 1) (hG : Frm [4001, 4500, 4600, 4700, 4800, 4400, 5600] X1 X2) (q : ((¬ (0 ≤ t ∧ t < X1 40 0 2) ∧ z2 = -1 ∧ X2 44 0 t = X1 44 0 t) ∨ (0 ≤ t ∧ t < X1 40 0 2 ∧ ¬ (0 ≤ name ∧ name < 20 ∧ nmAt (fun j => X1 45 0 (5 * t + j)) name (X1 44 0 t).toNat = -1 ∧ 0 ≤ lane ∧ lane < 6) ∧ z2 = -2 ∧ X2 44 0 t = X1 44 0 t) ∨ (0 ≤ t ∧ t < X1 40 0 2 ∧ (0 ≤ name ∧ name < 20 ∧ nmAt (fun j => X1 45 0 (5 * t + j)) name (X1 44 0 t).toNat = -1 ∧ 0 ≤ lane ∧ lane < 6) ∧ 0 < X1 40 0 20 ∧ z2 = -3 ∧ X2 44 0 t = X1 44 0 t) ∨ (0 ≤ t ∧ t < X1 40 0 2 ∧ (0 ≤ name ∧ name < 20 ∧ nmAt (fun j => X1 45 0 (5 * t + j)) name (X1 44 0 t).toNat = -1 ∧ 0 ≤ lane ∧ lane < 6) ∧ X1 40 0 20 = 0 ∧ 5 ≤ X1 44 0 t ∧ z2 = -4 ∧ X2 44 0 t = X1 44 0 t) ∨ (0 ≤ t ∧ t < X1 40 0 2 ∧ (0 ≤ name ∧ name < 20 ∧ nmAt (fun j => X1 45 0 (5 * t + j)) name (X1 44 0 t).toNat = -1 ∧ 0 ≤ lane ∧ lane < 6) ∧ X1 40 0 20 = 0 ∧ X1 44 0 t ≤ 4 ∧ z2 = X1 44 0 t ∧ X2 44 0 t = X1 44 0 t + 1))) (q2 : 0 ≤ z2 → X2 45 0 (5 * t + z2) = name ∧ X2 46 0 (5 * t + z2) = lane ∧ X2 47 0 (5 * t + z2) = (if lane = 0 then v else -1) ∧ X2 48 0 (5 * t + z2) = 0) (q3 : ∀ y, ¬ (0 ≤ z2 ∧ y = 5 * t + z2) → X2 45 0 y = X1 45 0 y ∧ X2 46 0 y = X1 46 0 y ∧ X2 47 0 y = X1 47 0 y ∧ X2 48 0 y = X1 48 0 y) (q4 : ∀ y, y ≠ t → X2 44 0 y = X1 44 0 y) (hR : Rng X) (hR1 : Rng X1) : rF X2 ∧ z = z2 := by
  unfold rT at hT
  unfold rM at hM
  have a2 := hF 40 0 2 (show 4003 ∉ _ by decide)
  have a20 := hF 40 0 20 (show 4021 ∉ _ by decide)
  have a1 := hF 0 0 1 (show 2 ∉ _ by decide)
  have b1 := hG 0 0 1 (show 2 ∉ _ by decide)
  have b9 : ∀ t, X2 19 t 1 = X1 19 t 1 := fun t => hG 19 t 1 (show 1902 ∉ _ by decide)
  have a44 : ∀ y, X1 44 0 y = X 44 0 y := fun y => hF 44 0 y (show 4400 ∉ _ by decide)
  have a45 : ∀ y, X1 45 0 y = X 45 0 y := fun y => hF 45 0 y (show 4500 ∉ _ by decide)
  have a46 : ∀ y, X1 46 0 y = X 46 0 y := fun y => hF 46 0 y (show 4600 ∉ _ by decide)
  have a47 : ∀ y, X1 47 0 y = X 47 0 y := fun y => hF 47 0 y (show 4700 ∉ _ by decide)
  have a48 : ∀ y, X1 48 0 y = X 48 0 y := fun y => hF 48 0 y (show 4800 ∉ _ by decide)
  have b20 : ∀ y j, X2 20 y j = X1 20 y j := fun y j => hG 20 y j (show 2000 ∉ _ by decide)
  have b21 : ∀ y j, X2 21 y j = X1 21 y j := fun y j => hG 21 y j (show 2100 ∉ _ by decide)
  have b22 : ∀ y j, X2 22 y j = X1 22 y j := fun y j => hG 22 y j (show 2200 ∉ _ by decide)
  have b23 : ∀ y j, X2 23 y j = X1 23 y j := fun y j => hG 23 y j (show 2300 ∉ _ by decide)
  have at44 := a44 t
  have c1 : 0 ≤ X 19 t 1 ∧ X 19 t 1 ≤ 5 := hR 19 t 1
  have hnm : 0 ≤ t ∧ t < X 0 0 1 → X 19 t 1 = X 44 0 t ∧ nmAt (X 20 t) name (X 19 t 1).toNat = nmAt (fun j => X1 45 0 (5 * t + j)) name (X1 44 0 t).toNat := fun g => by
    obtain ⟨h1, h2⟩ := h t g.1 g.2
    refine ⟨h1, ?_⟩
    rw [a44, ← h1]
    exact nmAt_congr (fun j j0 j1 => by show X 20 t j = X1 45 0 (5 * t + j); rw [a45]; exact (h2 j j0 (by omega)).1)
  have hz : z = z2 ∧ (0 ≤ t ∧ t < X 0 0 1 → X2 44 0 t = X1 19 t 1) := by
    by_cases g : 0 ≤ t ∧ t < X 0 0 1
    · obtain ⟨g1, g2⟩ := hnm g
      rcases p with p | p | p | p | p <;> rcases q with q | q | q | q | q <;> omega
    · rcases p with p | p | p | p | p <;> rcases q with q | q | q | q | q <;> omega
  refine ⟨fun y g0 g1 => ?_, hz.1⟩
  rw [b1, a1] at g1
  have c2 : 0 ≤ X1 19 y 1 ∧ X1 19 y 1 ≤ 5 := hR1 19 y 1
  obtain ⟨h1, h2⟩ := h y g0 g1
  rw [b9 y]
  have hzz : 0 ≤ z → z = X 19 t 1 ∧ X1 19 t 1 = X 19 t 1 + 1 ∧ z ≤ 4 := fun q9 => by rcases p with p | p | p | p | p <;> omega
  have hzn : z < 0 → X1 19 t 1 = X 19 t 1 := fun q9 => by rcases p with p | p | p | p | p <;> omega
  clear p q
  refine ⟨?_, fun k k0 k1 => ?_⟩
  · by_cases e : y = t
    · rw [e] at g0 g1 ⊢
      exact (hz.2 ⟨g0, g1⟩).symm
    · rw [p4 y e, q4 y e, a44 y]
      exact h1
  · rw [b20, b21, b22, b23]
    by_cases e : 0 ≤ z ∧ y = t ∧ k = z
    · obtain ⟨e1, e2, e3⟩ := e
      obtain ⟨u1, u2, u3, u4⟩ := p2 e1
      obtain ⟨w1, w2, w3, w4⟩ := q2 (by omega)
      rw [← hz.1] at w1 w2 w3 w4
      rw [e2, e3, u1, u2, u3, u4, w1, w2, w3, w4]
      exact ⟨rfl, rfl, rfl, rfl⟩
    · obtain ⟨u1, u2, u3, u4⟩ := p3 y k e
      have hkl : k < X 19 y 1 := by
        by_cases ey : y = t
        · rw [ey] at k1 h1 ⊢
          have e9 : ¬ (0 ≤ z ∧ k = z) := fun q9 => e ⟨q9.1, ey, q9.2⟩
          omega
        · rw [p4 y ey] at k1
          exact k1
      have e5 : ¬ (0 ≤ z2 ∧ 5 * y + k = 5 * t + z2) := fun q9 => by
        have h8 : 0 ≤ z2 ∧ z2 ≤ 4 := by omega
        exact e ⟨by omega, by omega, by omega⟩
      obtain ⟨w1, w2, w3, w4⟩ := q3 (5 * y + k) e5
      rw [u1, u2, u3, u4, w1, w2, w3, w4, a45, a46, a47, a48]
      exact h2 k k0 hkl
theorem rF_drop {z z2 t k : Int} (hT : rT X) (hM : rM X) (h : rF X) (hF : Frm [1902, 2000, 2100, 2200, 2300, 1600] X X1) (p : ((¬ (0 ≤ t ∧ t < X 0 0 1 ∧ 0 ≤ k ∧ k < X 19 t 1) ∧ z = -1 ∧ X1 19 t 1 = X 19 t 1) ∨ (0 ≤ t ∧ t < X 0 0 1 ∧ 0 ≤ k ∧ k < X 19 t 1 ∧ 0 < X 29 0 3 ∧ z = -3 ∧ X1 19 t 1 = X 19 t 1) ∨ (0 ≤ t ∧ t < X 0 0 1 ∧ 0 ≤ k ∧ k < X 19 t 1 ∧ X 29 0 3 = 0 ∧ z = X 19 t 1 - 1 ∧ X1 19 t 1 = X 19 t 1 - 1))) (p2 : 0 ≤ z → Sh 20 X X1 t k (X 19 t 1 - 1) ∧ Sh 21 X X1 t k (X 19 t 1 - 1) ∧ Sh 22 X X1 t k (X 19 t 1 - 1) ∧ Sh 23 X X1 t k (X 19 t 1 - 1)) (p3 : z < 0 → ∀ y j, X1 20 y j = X 20 y j ∧ X1 21 y j = X 21 y j ∧ X1 22 y j = X 22 y j ∧ X1 23 y j = X 23 y j) (p4 : ∀ y, y ≠ t → X1 19 y 1 = X 19 y 1) (hG : Frm [4001, 4500, 4600, 4700, 4800, 4400, 5600] X1 X2) (q : ((¬ (0 ≤ t ∧ t < X1 40 0 2 ∧ 0 ≤ k ∧ k < X1 44 0 t) ∧ z2 = -1 ∧ X2 44 0 t = X1 44 0 t) ∨ (0 ≤ t ∧ t < X1 40 0 2 ∧ 0 ≤ k ∧ k < X1 44 0 t ∧ 0 < X1 40 0 20 ∧ z2 = -3 ∧ X2 44 0 t = X1 44 0 t) ∨ (0 ≤ t ∧ t < X1 40 0 2 ∧ 0 ≤ k ∧ k < X1 44 0 t ∧ X1 40 0 20 = 0 ∧ z2 = X1 44 0 t - 1 ∧ X2 44 0 t = X1 44 0 t - 1))) (q2 : 0 ≤ z2 → Sh 45 X1 X2 0 (5 * t + k) (5 * t + (X1 44 0 t - 1)) ∧ Sh 46 X1 X2 0 (5 * t + k) (5 * t + (X1 44 0 t - 1)) ∧ Sh 47 X1 X2 0 (5 * t + k) (5 * t + (X1 44 0 t - 1)) ∧ Sh 48 X1 X2 0 (5 * t + k) (5 * t + (X1 44 0 t - 1))) (q3 : z2 < 0 → ∀ y, X2 45 0 y = X1 45 0 y ∧ X2 46 0 y = X1 46 0 y ∧ X2 47 0 y = X1 47 0 y ∧ X2 48 0 y = X1 48 0 y) (q4 : ∀ y, y ≠ t → X2 44 0 y = X1 44 0 y) (hR : Rng X) (hR1 : Rng X1) : rF X2 ∧ z = z2 := by
  unfold rT at hT
  unfold rM at hM
  have a2 := hF 40 0 2 (show 4003 ∉ _ by decide)
  have a20 := hF 40 0 20 (show 4021 ∉ _ by decide)
  have a1 := hF 0 0 1 (show 2 ∉ _ by decide)
  have b1 := hG 0 0 1 (show 2 ∉ _ by decide)
  have b9 : ∀ t, X2 19 t 1 = X1 19 t 1 := fun t => hG 19 t 1 (show 1902 ∉ _ by decide)
  have a44 : ∀ y, X1 44 0 y = X 44 0 y := fun y => hF 44 0 y (show 4400 ∉ _ by decide)
  have a45 : ∀ y, X1 45 0 y = X 45 0 y := fun y => hF 45 0 y (show 4500 ∉ _ by decide)
  have a46 : ∀ y, X1 46 0 y = X 46 0 y := fun y => hF 46 0 y (show 4600 ∉ _ by decide)
  have a47 : ∀ y, X1 47 0 y = X 47 0 y := fun y => hF 47 0 y (show 4700 ∉ _ by decide)
  have a48 : ∀ y, X1 48 0 y = X 48 0 y := fun y => hF 48 0 y (show 4800 ∉ _ by decide)
  have b20 : ∀ y j, X2 20 y j = X1 20 y j := fun y j => hG 20 y j (show 2000 ∉ _ by decide)
  have b21 : ∀ y j, X2 21 y j = X1 21 y j := fun y j => hG 21 y j (show 2100 ∉ _ by decide)
  have b22 : ∀ y j, X2 22 y j = X1 22 y j := fun y j => hG 22 y j (show 2200 ∉ _ by decide)
  have b23 : ∀ y j, X2 23 y j = X1 23 y j := fun y j => hG 23 y j (show 2300 ∉ _ by decide)
  have at44 := a44 t
  have c1 : 0 ≤ X 19 t 1 ∧ X 19 t 1 ≤ 5 := hR 19 t 1
  have hnm : 0 ≤ t ∧ t < X 0 0 1 → X 19 t 1 = X 44 0 t := fun g => (h t g.1 g.2).1
  have hz : z = z2 ∧ (0 ≤ t ∧ t < X 0 0 1 → X2 44 0 t = X1 19 t 1) := by
    by_cases g : 0 ≤ t ∧ t < X 0 0 1
    · have g1 := hnm g
      rcases p with p | p | p <;> rcases q with q | q | q <;> omega
    · rcases p with p | p | p <;> rcases q with q | q | q <;> omega
  have hzz : 0 ≤ z → 0 ≤ t ∧ t < X 0 0 1 ∧ 0 ≤ k ∧ k < X 19 t 1 ∧ z = X 19 t 1 - 1 ∧ X1 19 t 1 = X 19 t 1 - 1 := fun q9 => by rcases p with p | p | p <;> omega
  have hzn : z < 0 → X1 19 t 1 = X 19 t 1 := fun q9 => by rcases p with p | p | p <;> omega
  have hz4 : 0 ≤ z → X1 44 0 t = X 19 t 1 := fun q9 => by have g9 := hzz q9; have g8 := hnm ⟨g9.1, g9.2.1⟩; omega
  clear p q
  refine ⟨fun y g0 g1 => ?_, hz.1⟩
  rw [b1, a1] at g1
  have c2 : 0 ≤ X1 19 y 1 ∧ X1 19 y 1 ≤ 5 := hR1 19 y 1
  obtain ⟨h1, h2⟩ := h y g0 g1
  rw [b9 y]
  refine ⟨?_, fun j j0 j1 => ?_⟩
  · by_cases e : y = t
    · rw [e] at g0 g1 ⊢
      exact (hz.2 ⟨g0, g1⟩).symm
    · rw [p4 y e, q4 y e, a44 y]
      exact h1
  · rw [b20, b21, b22, b23]
    by_cases hz0 : 0 ≤ z
    · obtain ⟨u1, u2, u3, u4⟩ := p2 hz0
      obtain ⟨w1, w2, w3, w4⟩ := q2 (by omega)
      rw [u1, u2, u3, u4, w1, w2, w3, w4]
      by_cases ey : y = t
      · subst ey
        have g3 := hnm ⟨g0, g1⟩
        by_cases hj : k ≤ j
        · have hc1 : y = y ∧ k ≤ j ∧ j < X 19 y 1 - 1 := ⟨rfl, hj, by omega⟩
          have hc2 : (0 : Int) = 0 ∧ 5 * y + k ≤ 5 * y + j ∧ 5 * y + j < 5 * y + (X1 44 0 y - 1) := ⟨rfl, by omega, by omega⟩
          rw [if_pos hc1, if_pos hc1, if_pos hc1, if_pos hc1, if_pos hc2, if_pos hc2, if_pos hc2, if_pos hc2, a45, a46, a47, a48, show 5 * y + j + 1 = 5 * y + (j + 1) by omega]
          exact h2 (j + 1) (by omega) (by omega)
        · have hc1 : ¬ (y = y ∧ k ≤ j ∧ j < X 19 y 1 - 1) := fun q9 => hj q9.2.1
          have hc2 : ¬ ((0 : Int) = 0 ∧ 5 * y + k ≤ 5 * y + j ∧ 5 * y + j < 5 * y + (X1 44 0 y - 1)) := fun q9 => by omega
          rw [if_neg hc1, if_neg hc1, if_neg hc1, if_neg hc1, if_neg hc2, if_neg hc2, if_neg hc2, if_neg hc2, a45, a46, a47, a48]
          exact h2 j j0 (by omega)
      · rw [p4 y ey] at j1
        have hc1 : ¬ (y = t ∧ k ≤ j ∧ j < X 19 t 1 - 1) := fun q9 => ey q9.1
        have hc2 : ¬ ((0 : Int) = 0 ∧ 5 * t + k ≤ 5 * y + j ∧ 5 * y + j < 5 * t + (X1 44 0 t - 1)) := fun q9 => by
          have h8 : X1 44 0 t - 1 ≤ 4 := by omega
          have h7 : 0 ≤ k := by omega
          have h6 : X 19 y 1 ≤ 5 := (hR 19 y 1).2
          omega
        rw [if_neg hc1, if_neg hc1, if_neg hc1, if_neg hc1, if_neg hc2, if_neg hc2, if_neg hc2, if_neg hc2, a45, a46, a47, a48]
        exact h2 j j0 j1
    · obtain ⟨u1, u2, u3, u4⟩ := p3 (by omega) y j
      obtain ⟨w1, w2, w3, w4⟩ := q3 (by omega) (5 * y + j)
      rw [u1, u2, u3, u4, w1, w2, w3, w4, a45, a46, a47, a48]
      refine h2 j j0 ?_
      by_cases ey : y = t
      · rw [ey] at j1 ⊢
        omega
      · rw [p4 y ey] at j1
        exact j1
theorem rF_shut {z z2 t k on on2 : Int} (hT : rT X) (h : rF X) (hF : Frm [2300] X X1) (p : (0 ≤ t ∧ t < X 0 0 1 ∧ 0 ≤ k ∧ k < X 19 t 1 ∧ z = X 23 t k ∧ X1 23 t k = on) ∨ (¬ (0 ≤ t ∧ t < X 0 0 1 ∧ 0 ≤ k ∧ k < X 19 t 1) ∧ z = -1 ∧ X1 23 t k = X 23 t k)) (p2 : ∀ y j, ¬ (y = t ∧ j = k) → X1 23 y j = X 23 y j) (hG : Frm [4001, 4800] X1 X2) (q : (0 ≤ t ∧ t < X1 40 0 2 ∧ 0 ≤ k ∧ k < X1 44 0 t ∧ z2 = X1 48 0 (5 * t + k) ∧ X2 48 0 (5 * t + k) = on2) ∨ (¬ (0 ≤ t ∧ t < X1 40 0 2 ∧ 0 ≤ k ∧ k < X1 44 0 t) ∧ z2 = -1 ∧ X2 48 0 (5 * t + k) = X1 48 0 (5 * t + k))) (q2 : ∀ y, y ≠ 5 * t + k → X2 48 0 y = X1 48 0 y) (ho : on = on2) (hR : Rng X) : rF X2 ∧ z = z2 := by
  unfold rT at hT
  have a2 := hF 40 0 2 (show 4003 ∉ _ by decide)
  have a1 := hF 0 0 1 (show 2 ∉ _ by decide)
  have b1 := hG 0 0 1 (show 2 ∉ _ by decide)
  have a9 : ∀ t, X1 19 t 1 = X 19 t 1 := fun t => hF 19 t 1 (show 1902 ∉ _ by decide)
  have b9 : ∀ t, X2 19 t 1 = X1 19 t 1 := fun t => hG 19 t 1 (show 1902 ∉ _ by decide)
  have a44 : ∀ y, X1 44 0 y = X 44 0 y := fun y => hF 44 0 y (show 4400 ∉ _ by decide)
  have a48 : ∀ y, X1 48 0 y = X 48 0 y := fun y => hF 48 0 y (show 4800 ∉ _ by decide)
  have b23 : ∀ y j, X2 23 y j = X1 23 y j := fun y j => hG 23 y j (show 2300 ∉ _ by decide)
  have at44 := a44 t
  have at48 := a48 (5 * t + k)
  have c1 : 0 ≤ X 19 t 1 ∧ X 19 t 1 ≤ 5 := hR 19 t 1
  have hk : 0 ≤ t ∧ t < X 0 0 1 → X 19 t 1 = X 44 0 t ∧ (0 ≤ k ∧ k < X 19 t 1 → X 23 t k = X 48 0 (5 * t + k)) := fun g => ⟨(h t g.1 g.2).1, fun g2 => ((h t g.1 g.2).2 k g2.1 g2.2).2.2.2⟩
  have hz : z = z2 := by
    by_cases g : 0 ≤ t ∧ t < X 0 0 1
    · obtain ⟨g1, g2⟩ := hk g
      by_cases g3 : 0 ≤ k ∧ k < X 19 t 1
      · have g4 := g2 g3
        omega
      · omega
    · omega
  refine ⟨fun y g0 g1 => ?_, hz⟩
  rw [b1, a1] at g1
  obtain ⟨h1, h2⟩ := h y g0 g1
  rw [b9, a9, hG 44 0 y (show 4400 ∉ _ by decide), a44]
  refine ⟨h1, fun j j0 j1 => ?_⟩
  obtain ⟨h3, h4, h5, h6⟩ := h2 j j0 j1
  have c2 : X 19 y 1 ≤ 5 := (hR 19 y 1).2
  rw [hG 20 y j (show 2000 ∉ _ by decide), hG 21 y j (show 2100 ∉ _ by decide), hG 22 y j (show 2200 ∉ _ by decide), hF 20 y j (show 2000 ∉ _ by decide), hF 21 y j (show 2100 ∉ _ by decide), hF 22 y j (show 2200 ∉ _ by decide), hG 45 0 _ (show 4500 ∉ _ by decide), hG 46 0 _ (show 4600 ∉ _ by decide), hG 47 0 _ (show 4700 ∉ _ by decide), hF 45 0 _ (show 4500 ∉ _ by decide), hF 46 0 _ (show 4600 ∉ _ by decide), hF 47 0 _ (show 4700 ∉ _ by decide), b23]
  refine ⟨h3, h4, h5, ?_⟩
  by_cases e : y = t ∧ j = k
  · obtain ⟨rfl, rfl⟩ := e
    omega
  · have e2 : 5 * y + j ≠ 5 * t + k ∨ ¬ (0 ≤ k ∧ k < X 19 t 1) := by omega
    rw [p2 y j e]
    rcases e2 with e2 | e2
    · rw [q2 _ e2, a48]
      exact h6
    · by_cases e3 : 5 * y + j = 5 * t + k
      · rw [e3] at h6 ⊢
        have e4 : X2 48 0 (5 * t + k) = X1 48 0 (5 * t + k) := by
          by_cases g : 0 ≤ t ∧ t < X 0 0 1
          · have g9 := (hk g).1
            omega
          · omega
        rw [e4, at48]
        exact h6
      · rw [q2 _ e3, a48]
        exact h6
end RX

