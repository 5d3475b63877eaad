/-! a check's verdict is the same on both sides -/
section JD
variable {X : Nat → Int → Int → Int} {Y : Nat → Int → Int → Option Int} {ln : Int → Int} {c : Int}
theorem ck_eq (hB : RB c X Y ln X) (hT : rT X) (hf : rF X) (hMI : MInv X) (hR : Rng X) (hLn : LnL ln) (hty : ∀ t, 0 ≤ t → t < X 0 0 1 → X 19 t 0 = t) {x g cq : Int} (hx : 0 ≤ x ∧ x < X 40 0 13) (k0 : X 25 g 0 = X 50 0 cq) (k1 : X 25 g 1 = X 51 0 cq) (k2 : X 25 g 2 = X 52 0 cq) (k3 : X 25 g 3 = X 53 0 cq) : ckC X Y ln x g = ckM X x cq := by
  obtain ⟨b1, b2, b3, b4⟩ := bridge hB.1 hT hf hMI hR hx.1 hx.2
  have rk : 0 ≤ X 50 0 cq ∧ X 50 0 cq ≤ 5 := hR 50 0 cq
  have ra : 0 ≤ X 51 0 cq ∧ X 51 0 cq ≤ 4 := hR 51 0 cq
  have rb : 0 ≤ X 52 0 cq ∧ X 52 0 cq ≤ 4 := hR 52 0 cq
  unfold ckC ckM
  rw [k0, k1, k2, k3, b1, b2]
  obtain ⟨kd, hkd⟩ : ∃ q, q = X 50 0 cq := ⟨_, rfl⟩
  obtain ⟨a, ha⟩ : ∃ q, q = X 51 0 cq := ⟨_, rfl⟩
  obtain ⟨b, hb⟩ : ∃ q, q = X 52 0 cq := ⟨_, rfl⟩
  obtain ⟨v, hv⟩ : ∃ q, q = X 53 0 cq := ⟨_, rfl⟩
  rw [← hkd, ← ha, ← hb, ← hv]
  rw [← hkd] at rk
  rw [← ha] at ra
  rw [← hb] at rb
  have hla : a < X 44 0 (X 55 0 x) → X 21 (X 55 0 x) a = X 46 0 (5 * X 55 0 x + a) := fun w => (b4 a ra.1 w).2.1
  have hlb : b < X 44 0 (X 55 0 x) → X 21 (X 55 0 x) b = X 46 0 (5 * X 55 0 x + b) := fun w => (b4 b rb.1 w).2.1
  have pl := (hB.1.2 x hx.1 hx.2).2
  have hva : a < X 44 0 (X 55 0 x) → X 46 0 (5 * X 55 0 x + a) < 3 → X 16 x a = X 56 0 (5 * x + a) := fun w u => (pl a ra.1 w).1 u
  have hvb : b < X 44 0 (X 55 0 x) → X 46 0 (5 * X 55 0 x + b) < 3 → X 16 x b = X 56 0 (5 * x + b) := fun w u => (pl b rb.1 w).1 u
  have h3 := hB.1.1
  unfold rT at hT
  -- a thing that is met
  have met : a < X 44 0 (X 55 0 x) → X 46 0 (5 * X 55 0 x + a) = 2 → (X 16 x a = X 56 0 (5 * x + a)) ∧ (-1 ≤ X 56 0 (5 * x + a) ∧ X 56 0 (5 * x + a) < X 40 0 13) ∧ (if 0 ≤ X 16 x a ∧ X 16 x a < X 0 0 3 then X 19 (tyo (Y 15 (X 16 x a) 0)) 0 else -1) = (if X 56 0 (5 * x + a) < 0 then -1 else X 55 0 (X 56 0 (5 * x + a))) := by
    intro w u
    have e1 := hva w (by omega)
    have e2 := (hMI.1 x a hx.1 hx.2 ra.1 w).2.1 u
    refine ⟨e1, e2, ?_⟩
    rw [e1]
    by_cases hn : X 56 0 (5 * x + a) < 0
    · rw [if_neg (fun q => by omega), if_pos hn]
    · rw [if_pos ⟨by omega, by omega⟩, if_neg hn]
      obtain ⟨d1, -, -, -⟩ := bridge hB.1 hT hf hMI hR (x := X 56 0 (5 * x + a)) (by omega) e2.2
      have d2 := hMI.2.2.2.2.2 (X 56 0 (5 * x + a)) (by omega) e2.2
      have d3 : 0 ≤ X 55 0 (X 56 0 (5 * x + a)) ∧ X 55 0 (X 56 0 (5 * x + a)) ≤ 7 := hR 55 0 _
      rw [d1]
      exact hty _ d3.1 (by omega)
  rcases (show kd = 0 ∨ kd = 1 ∨ kd = 2 ∨ kd = 3 ∨ kd = 4 ∨ kd = 5 by omega) with hk | hk | hk | hk | hk | hk
  · by_cases hc : a < X 44 0 (X 55 0 x) ∧ X 46 0 (5 * X 55 0 x + a) = 0 ∧ b < X 44 0 (X 55 0 x) ∧ X 46 0 (5 * X 55 0 x + b) = 0
    · have l1 := hla hc.1
      have l2 := hlb hc.2.2.1
      rw [ckF_0 hk ⟨hc.1, by omega, hc.2.2.1, by omega⟩, ckF_0 hk hc, hvb hc.2.2.1 (by omega)]
    · rw [ckF_c ⟨by omega, by omega⟩ (by omega), ckF_c ⟨by omega, by omega⟩ (by omega)]
  · by_cases hc : a < X 44 0 (X 55 0 x) ∧ X 46 0 (5 * X 55 0 x + a) = 2
    · have l1 := hla hc.1
      rw [ckF_1 hk ⟨hc.1, by omega⟩, ckF_1 hk hc, (met hc.1 hc.2).2.2]
    · rw [ckF_c ⟨by omega, by omega⟩ (by omega), ckF_c ⟨by omega, by omega⟩ (by omega)]
  · by_cases hc : a < X 44 0 (X 55 0 x) ∧ 3 ≤ X 46 0 (5 * X 55 0 x + a) ∧ b < X 44 0 (X 55 0 x) ∧ X 46 0 (5 * X 55 0 x + b) = 0
    · have l1 := hla hc.1
      have l2 := hlb hc.2.2.1
      rw [ckF_2 hk ⟨hc.1, by omega, hc.2.2.1, by omega⟩, ckF_2 hk hc, hvb hc.2.2.1 (by omega)]
      have hpl := (pl a ra.1 hc.1).2 hc.2.1
      cases e : Y 17 x a with
      | none =>
        have h9 := hpl.mp e
        rw [rlen_n, if_pos (by decide), if_pos h9, if_pos (by decide)]
      | some g9 =>
        have hL : Lv Y X g9 (X 56 0 (5 * x + a)) (X 46 0 (5 * X 55 0 x + a)) := Or.inl ⟨x, a, hx.1, hx.2, ra.1, hc.1, rfl, hc.2.1, e, rfl⟩
        obtain ⟨f1, f2, f3, f4, f5, f6, f7⟩ := hB.2.2.1 _ _ _ hL
        have l9 := hLn g9
        rw [rlen_s, tyo_s, if_neg (show ¬ X 56 0 (5 * x + a) < 0 by omega), f6]
        rw [f6] at l9 f7
        have hn9 : ¬ X 58 0 (X 56 0 (5 * x + a)) < 0 := by omega
        by_cases hi : X 56 0 (5 * x + b) < 0 ∨ X 58 0 (X 56 0 (5 * x + a)) ≤ X 56 0 (5 * x + b)
        · rw [if_neg hn9, if_neg hn9, if_pos hi, if_pos hi]
        · rw [if_neg hn9, if_neg hn9, if_neg hi, if_neg hi, f7 _ (by omega) (by omega)]
    · rw [ckF_c ⟨by omega, by omega⟩ (by omega), ckF_c ⟨by omega, by omega⟩ (by omega)]
  · by_cases hc : a < X 44 0 (X 55 0 x) ∧ X 46 0 (5 * X 55 0 x + a) = 0
    · have l1 := hla hc.1
      rw [ckF_3 hk ⟨hc.1, by omega⟩, ckF_3 hk hc, hva hc.1 (by omega)]
    · rw [ckF_c ⟨by omega, by omega⟩ (by omega), ckF_c ⟨by omega, by omega⟩ (by omega)]
  · by_cases hc : a < X 44 0 (X 55 0 x) ∧ X 46 0 (5 * X 55 0 x + a) = 0
    · have l1 := hla hc.1
      rw [ckF_4 hk ⟨hc.1, by omega⟩, ckF_4 hk hc, hva hc.1 (by omega)]
    · rw [ckF_c ⟨by omega, by omega⟩ (by omega), ckF_c ⟨by omega, by omega⟩ (by omega)]
  · by_cases hc : a < X 44 0 (X 55 0 x) ∧ X 46 0 (5 * X 55 0 x + a) = 2
    · have l1 := hla hc.1
      obtain ⟨m1, m2, m3⟩ := met hc.1 hc.2
      rw [ckF_5 hk ⟨hc.1, by omega⟩, ckF_5 hk hc, m3]
      by_cases hn : X 56 0 (5 * x + a) < 0
      · rw [if_pos hn, if_pos (by decide), if_pos (by decide)]
      · have hl : ldC X Y x (X 16 x a) a = ldM X x (X 56 0 (5 * x + a)) a := by
          rw [m1]
          obtain ⟨y, hy⟩ : ∃ q, q = X 56 0 (5 * x + a) := ⟨_, rfl⟩
          rw [← hy] at m2 hn ⊢
          obtain ⟨d1, d2, d3, d4⟩ := bridge hB.1 hT hf hMI hR (x := y) (by omega) m2.2
          have ply := (hB.1.2 y (by omega) m2.2).2
          unfold ldC ldM
          rw [d1, b1, d2, (b4 a ra.1 hc.1).1]
          have hnm : nmAt (X 20 (X 55 0 y)) (X 45 0 (5 * X 55 0 x + a)) (X 44 0 (X 55 0 y)).toNat = nmAt (fun j => X 45 0 (5 * X 55 0 y + j)) (X 45 0 (5 * X 55 0 x + a)) (X 44 0 (X 55 0 y)).toNat := nmAt_congr (fun j j0 j1 => (d4 j j0 (by omega)).1)
          rw [hnm]
          have hs := nmAt_spec (fun j => X 45 0 (5 * X 55 0 y + j)) (X 45 0 (5 * X 55 0 x + a)) (X 44 0 (X 55 0 y)).toNat
          obtain ⟨k, hk9⟩ : ∃ q, q = nmAt (fun j => X 45 0 (5 * X 55 0 y + j)) (X 45 0 (5 * X 55 0 x + a)) (X 44 0 (X 55 0 y)).toNat := ⟨_, rfl⟩
          rw [← hk9] at hs ⊢
          by_cases hk0 : k < 0
          · rw [if_pos hk0, if_pos hk0]
          · rw [if_neg hk0, if_neg hk0]
            have hkf : k < X 44 0 (X 55 0 y) := by
              rcases hs with ⟨q1, -⟩ | ⟨-, q2, -⟩ <;> omega
            rw [(d4 k (by omega) hkf).2.1]
            by_cases hl2 : X 46 0 (5 * X 55 0 y + k) ≠ 2
            · rw [if_pos hl2, if_pos hl2]
            · rw [if_neg hl2, if_neg hl2]
              have e1 := (ply k (by omega) hkf).1 (by unfold lnM; omega)
              have e2 := (hMI.1 y k (by omega) m2.2 (by omega) hkf).2.1 (by omega)
              rw [e1]
              by_cases hw : 0 ≤ X 56 0 (5 * y + k)
              · rw [if_pos ⟨hw, by omega⟩]
              · rw [if_neg (fun q => hw q.1)]
                omega
        rw [hl]
    · rw [ckF_c ⟨by omega, by omega⟩ (by omega), ckF_c ⟨by omega, by omega⟩ (by omega)]
theorem jd_eq {c5 : Int} (hB : RB c X Y ln X) (hT : rT X) (hf : rF X) (hC : rC X) (hK : rK c5 X Y X) (hMI : MInv X) (hR : Rng X) (hLn : LnL ln) (hty : ∀ t, 0 ≤ t → t < X 0 0 1 → X 19 t 0 = t) {x a b : Int} (hx : 0 ≤ x ∧ x < X 40 0 13) (ja : jdC X Y ln x a) (jb : jdM X x b) : a = b := by
  obtain ⟨b1, b2, b3, b4⟩ := bridge hB.1 hT hf hMI hR hx.1 hx.2
  have d2 := hMI.2.2.2.2.2 x hx.1 hx.2
  have d3 : 0 ≤ X 55 0 x ∧ X 55 0 x ≤ 7 := hR 55 0 x
  have hT0 := hT
  unfold rT at hT0
  have hcm := hC (X 55 0 x) d3.1 (by omega)
  have hck : ∀ q, 0 ≤ q → q < X 49 0 (X 55 0 x) → ckC X Y ln x (tyo (Y 24 (X 55 0 x) q)) = ckM X x (4 * X 55 0 x + q) := fun q q0 q1 => by
    obtain ⟨g, g1, g2, g3, g4, g5, g6⟩ := hK (X 55 0 x) q d3.1 d2 q0 q1
    rw [tyo_some g1]
    exact ck_eq hB hT hf hMI hR hLn hty hx g3 g4 g5 g6
  unfold jdC at ja
  rw [b1, hcm] at ja
  unfold jdM at jb
  rcases ja with ⟨a0, a1⟩ | ⟨a0, i, i0, i1, i2, i3⟩ <;> rcases jb with ⟨e0, e1⟩ | ⟨e0, j, j0, j1, j2, j3⟩
  · omega
  · have h9 := a1 j j0 j1
    rw [hck j j0 j1] at h9
    omega
  · have h9 := e1 i i0 i1
    rw [hck i i0 i1] at i3
    omega
  · have hij : i = j := by
      by_cases h1 : i < j
      · have h9 := j2 i i0 h1
        rw [hck i i0 i1] at i3
        omega
      · by_cases h2 : j < i
        · have h9 := i2 j j0 h2
          rw [hck j j0 j1] at h9
          omega
        · omega
    subst hij
    rw [hck i i0 i1] at i3
    omega
end JD
