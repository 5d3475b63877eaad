section
/-! each call, both sides -/
section JS
variable {cnt cnt1 : Nat → Int} {X X1 X2 : Nat → Int → Int → Int} {Y Y1 : Nat → Int → Int → Option Int} {ln ln1 : Int → Int} {c c1 : Int} {L N K : List Nat}
theorem RC_of (h : RC cnt X Y ln) (hF : Frm L X X1) (hH : Frm N Y Y1) (hG : Frm K X1 X2) (hd : ∀ q ∈ [2, 4003, 2904, 4021, 300, 4200, 1907, 4900, 1902, 2000, 2100, 2200, 2300, 4400, 4500, 4600, 4700, 4800, 5000, 5100, 5200, 5300, 2501, 2502, 2503, 2504, 701, 707, 800, 900, 1000, 1100, 1200, 1300, 1400, 7000, 7100, 7200, 7300, 7400, 7500, 7600, 7700, 7800, 7900], q ∉ L) (he : ∀ q ∈ [2400, 400, 7, 8], q ∉ N) (hk : ∀ q ∈ [2, 4003, 2904, 4021, 300, 4200, 1907, 4900, 1902, 2000, 2100, 2200, 2300, 4400, 4500, 4600, 4700, 4800, 5000, 5100, 5200, 5300, 2501, 2502, 2503, 2504, 701, 707, 800, 900, 1000, 1100, 1200, 1300, 1400, 7000, 7100, 7200, 7300, 7400, 7500, 7600, 7700, 7800, 7900], q ∉ K) (hc : cnt 25 ≤ cnt1 25) (hB : RBn (cnt1 26) X2 Y1 ln1) : RC cnt1 X2 Y1 ln1 := by
  obtain ⟨⟨hT, hM, hW, hC, hf⟩, -, hK, hS, h6, hN⟩ := h
  have sb : ∀ (l : List Nat) (P : List Nat), (∀ q ∈ [2, 4003, 2904, 4021, 300, 4200, 1907, 4900, 1902, 2000, 2100, 2200, 2300, 4400, 4500, 4600, 4700, 4800, 5000, 5100, 5200, 5300, 2501, 2502, 2503, 2504, 701, 707, 800, 900, 1000, 1100, 1200, 1300, 1400, 7000, 7100, 7200, 7300, 7400, 7500, 7600, 7700, 7800, 7900], q ∉ P) → (∀ q ∈ l, q ∈ [2, 4003, 2904, 4021, 300, 4200, 1907, 4900, 1902, 2000, 2100, 2200, 2300, 4400, 4500, 4600, 4700, 4800, 5000, 5100, 5200, 5300, 2501, 2502, 2503, 2504, 701, 707, 800, 900, 1000, 1100, 1200, 1300, 1400, 7000, 7100, 7200, 7300, 7400, 7500, 7600, 7700, 7800, 7900]) → ∀ q ∈ l, q ∉ P := fun l P a b q hq => a q (b q hq)
  refine ⟨⟨(hT.frm hF (sb _ _ hd (by decide))).frm hG (sb _ _ hk (by decide)), (hM.frm hF (sb _ _ hd (by decide))).frm hG (sb _ _ hk (by decide)), (hW.frm hF (sb _ _ hd (by decide))).frm hG (sb _ _ hk (by decide)), (hC.frm hF (sb _ _ hd (by decide))).frm hG (sb _ _ hk (by decide)), (hf.frm hF (sb _ _ hd (by decide))).frm hG (sb _ _ hk (by decide))⟩, hB, ?_, ?_, h6.frm hH (fun q hq => he q (by simp only [List.mem_cons, List.not_mem_nil, or_false] at hq ⊢; omega)), (hN.frm hF (sb _ _ hd (by decide))).frm hG (sb _ _ hk (by decide))⟩
  · exact (hK.frm hF hH (sb _ _ hd (by decide)) (he 2400 (by decide)) hc).frm (N := []) hG Frm.rf (sb _ _ hk (by decide)) (by decide) (Int.le_refl _)
  · exact (hS.frm hF hH (sb _ _ hd (by decide)) (he 400 (by decide))).frm (N := []) hG Frm.rf (sb _ _ hk (by decide)) (by decide)
/-! calls that change nothing that both sides tell of -/
theorem J_told {z z2 x what : Int} (h : RC cnt X Y ln) (hMI : MInv X) (hR : Rng X) (hR1 : Rng X1) (hLn : LnL ln) (hN9 : 0 ≤ cnt 25 ∧ 0 ≤ cnt 26) (hF : Frm [] X X1) (p : ((¬ (0 ≤ x ∧ x < X 0 0 3) ∧ z = -1) ∨ ((0 ≤ x ∧ x < X 0 0 3) ∧ what = 0 ∧ z = tyo (Y 15 x 0)) ∨ ((0 ≤ x ∧ x < X 0 0 3) ∧ what = 1 ∧ z = X 19 (tyo (Y 15 x 0)) 1) ∨ ((0 ≤ x ∧ x < X 0 0 3) ∧ what ≠ 0 ∧ what ≠ 1 ∧ z = -2)) ∧ X1 = X) (hG : Frm [4001] X1 X2) (hM2 : MInv X2) (q : ((¬ (0 ≤ x ∧ x < X1 40 0 13) ∧ z2 = -1) ∨ ((0 ≤ x ∧ x < X1 40 0 13) ∧ what = 0 ∧ z2 = X1 55 0 x) ∨ ((0 ≤ x ∧ x < X1 40 0 13) ∧ what = 1 ∧ z2 = X1 44 0 (X1 55 0 x)) ∨ ((0 ≤ x ∧ x < X1 40 0 13) ∧ what ≠ 0 ∧ what ≠ 1 ∧ z2 = -2))) : RC cnt X2 Y ln ∧ z = z2 := by
  obtain ⟨⟨hT, hM, hW, hC, hf⟩, hB, hK, hS, h6, hN⟩ := id h
  have e40 := hF.hi (by decide) 40 (by decide)
  have e44 := hF.hi (by decide) 44 (by decide)
  have e55 := hF.hi (by decide) 55 (by decide)
  refine ⟨RC_of (N := []) h hF Frm.rf hG (by decide) (by decide) (by decide) (Int.le_refl _) ((hB.cls (N := []) hF Frm.rf (by decide) (by decide) (by decide)).mdl hG (by decide) (by decide)), ?_⟩
  have h3 := hB.1.1.1
  simp only [e40, e44, e55] at q
  have p := p.1
  by_cases hx : 0 ≤ x ∧ x < X 40 0 13
  · obtain ⟨b1, b2, b3, b4⟩ := bridge hB.1.1 hT hf hMI hR hx.1 hx.2
    rw [b1] at p
    omega
  · omega
theorem J_count {z z2 what : Int} (h : RC cnt X Y ln) (hMI : MInv X) (hR : Rng X) (hR1 : Rng X1) (hLn : LnL ln) (hN9 : 0 ≤ cnt 25 ∧ 0 ≤ cnt 26) (hF : Frm [] X X1) (p : ((what = 0 ∧ z = X 0 0 1) ∨ (what = 1 ∧ z = X 0 0 3) ∨ (what = 2 ∧ z = X 29 0 3) ∨ (what = 3 ∧ z = X 29 0 1) ∨ (¬ (0 ≤ what ∧ what ≤ 3) ∧ z = -2)) ∧ X1 = X) (hG : Frm [4001] X1 X2) (hM2 : MInv X2) (q : ((what = 0 ∧ z2 = X1 40 0 2) ∨ (what = 1 ∧ z2 = X1 40 0 13) ∨ (what = 2 ∧ z2 = X1 40 0 20) ∨ (what = 3 ∧ z2 = X1 40 0 22) ∨ (¬ (0 ≤ what ∧ what ≤ 3) ∧ z2 = -2))) : RC cnt X2 Y ln ∧ z = z2 := by
  obtain ⟨⟨hT, hM, hW, hC, hf⟩, hB, hK, hS, h6, hN⟩ := id h
  have e40 := hF.hi (by decide) 40 (by decide)
  refine ⟨RC_of (N := []) h hF Frm.rf hG (by decide) (by decide) (by decide) (Int.le_refl _) ((hB.cls (N := []) hF Frm.rf (by decide) (by decide) (by decide)).mdl hG (by decide) (by decide)), ?_⟩
  have h3 := hB.1.1.1
  have h4 := hB.2
  unfold rT at hT
  unfold rM at hM
  rw [e40] at q
  have p := p.1
  omega
theorem J_saved {z z2 sv what : Int} (h : RC cnt X Y ln) (hMI : MInv X) (hR : Rng X) (hR1 : Rng X1) (hLn : LnL ln) (hN9 : 0 ≤ cnt 25 ∧ 0 ≤ cnt 26) (hF : Frm [] X X1) (p : ((¬ (0 ≤ sv ∧ sv < 4) ∧ z = -1) ∨ ((0 ≤ sv ∧ sv < 4) ∧ what = 0 ∧ z = X 7 (tyo (Y 4 0 sv)) 0) ∨ ((0 ≤ sv ∧ sv < 4) ∧ what = 1 ∧ z = X 7 (tyo (Y 4 0 sv)) 6) ∨ ((0 ≤ sv ∧ sv < 4) ∧ what ≠ 0 ∧ what ≠ 1 ∧ z = -2)) ∧ X1 = X) (hG : Frm [4001] X1 X2) (hM2 : MInv X2) (q : ((¬ (0 ≤ sv ∧ sv < 4) ∧ z2 = -1) ∨ ((0 ≤ sv ∧ sv < 4) ∧ what = 0 ∧ z2 = X1 70 0 sv) ∨ ((0 ≤ sv ∧ sv < 4) ∧ what = 1 ∧ X1 70 0 sv = 0 ∧ z2 = 0) ∨ ((0 ≤ sv ∧ sv < 4) ∧ what = 1 ∧ X1 70 0 sv ≠ 0 ∧ z2 = X1 76 0 sv) ∨ ((0 ≤ sv ∧ sv < 4) ∧ what ≠ 0 ∧ what ≠ 1 ∧ z2 = -2))) : RC cnt X2 Y ln ∧ z = z2 := by
  obtain ⟨⟨hT, hM, hW, hC, hf⟩, hB, hK, hS, h6, hN⟩ := id h
  have e70 := hF.hi (by decide) 70 (by decide)
  have e76 := hF.hi (by decide) 76 (by decide)
  refine ⟨RC_of (N := []) h hF Frm.rf hG (by decide) (by decide) (by decide) (Int.le_refl _) ((hB.cls (N := []) hF Frm.rf (by decide) (by decide) (by decide)).mdl hG (by decide) (by decide)), ?_⟩
  rw [e70, e76] at q
  have p := p.1
  by_cases hs : 0 ≤ sv ∧ sv < 4
  · obtain ⟨g, g1, g2⟩ := h6.1 sv hs.1 (by omega)
    unfold sl6 at g1
    rw [if_pos hs.2] at g1
    obtain ⟨s1, s2, s3, -⟩ := hS sv g hs.1 hs.2 g1
    rw [tyo_some g1] at p
    have r0 : 0 ≤ X 70 0 sv ∧ X 70 0 sv ≤ 30 := hR 70 0 sv
    by_cases h0 : X 70 0 sv = 0
    · have s4 := s3 h0
      omega
    · have s4 := s2 (by omega)
      omega
  · omega
/-! things -/
theorem J_forget {z z2 : Int} (h : RC cnt X Y ln) (hMI : MInv X) (hR : Rng X) (hR1 : Rng X1) (hLn : LnL ln) (hN9 : 0 ≤ cnt 25 ∧ 0 ≤ cnt 26) (hF : Frm [4] X X1) (p : ((0 < X 29 0 3 ∧ z = -3 ∧ X1 0 0 3 = X 0 0 3) ∨ (X 29 0 3 = 0 ∧ z = X 0 0 3 ∧ X1 0 0 3 = 0))) (hG : Frm [4001, 4014] X1 X2) (hM2 : MInv X2) (q : ((0 < X1 40 0 20 ∧ z2 = -3 ∧ X2 40 0 13 = X1 40 0 13) ∨ (X1 40 0 20 = 0 ∧ z2 = X1 40 0 13 ∧ X2 40 0 13 = 0))) : RC cnt X2 Y ln ∧ z = z2 := by
  obtain ⟨⟨hT, hM, hW, hC, hf⟩, hB, hK, hS, h6, hN⟩ := id h
  have hi := hF.hi (by decide)
  have e40 := hi 40 (by decide)
  unfold rM at hM
  have h3 := hB.1.1.1
  rw [e40] at q
  have r13 : 0 ≤ X 40 0 13 ∧ X 40 0 13 ≤ 30 := hR 40 0 13
  have hz : z = z2 ∧ X1 0 0 3 = X2 40 0 13 ∧ (0 ≤ X2 40 0 13 ∧ X2 40 0 13 ≤ X 40 0 13) := by omega
  refine ⟨RC_of (N := []) h hF Frm.rf hG (by decide) (by decide) (by decide) (Int.le_refl _) ⟨?_, ?_⟩, hz.1⟩
  · have k1 : RB (cnt 26) X Y ln X1 := hB.1.m hi
    have k2 : RB (cnt 26) X1 Y ln X2 := RB_less (N := X2 40 0 13) k1 (KpN.of (N := []) hF Frm.rf hG (by decide) (fun j => by rw [fc28]; simp; omega) (fun j => by simp) (by decide)) hLn (by rw [e40]; exact hz.2.2) hz.2.1 rfl (hG.arr 44 (by decide +kernel) (by decide)) (hG.arr 46 (by decide +kernel) (by decide)) (hG.arr 55 (by decide +kernel) (by decide)) (hG.arr 56 (by decide +kernel) (by decide)) (hF.arr 16 (by decide +kernel) (by decide)) rfl rfl
    exact k2.mdl hG (by decide)
  · rw [hG 29 0 1 (show 2902 ∉ _ by decide), hG 40 0 22 (show 4023 ∉ _ by decide), hF 29 0 1 (show 2902 ∉ _ by decide), e40]
    exact hB.2
theorem J_thing {z z2 t : Int} (h : RC cnt X Y ln) (hMI : MInv X) (hR : Rng X) (hR1 : Rng X1) (hLn : LnL ln) (hN9 : 0 ≤ cnt 25 ∧ 0 ≤ cnt 26) (hF : Frm [4, 1600] X X1) (hH : Frm [1501, 1700] Y Y1) (p : ((¬ (0 ≤ t ∧ t < X 0 0 1) ∧ z = -1) ∨ ((0 ≤ t ∧ t < X 0 0 1) ∧ 30 ≤ X 0 0 3 ∧ z = -4) ∨ ((0 ≤ t ∧ t < X 0 0 1) ∧ X 0 0 3 < 30 ∧ z = X 0 0 3)) ∧ (z < 0 → X1 = X ∧ Y1 = Y) ∧ (0 ≤ z → X1 0 0 3 = X 0 0 3 + 1 ∧ Y1 15 (X 0 0 3) 0 = some t ∧ (∀ y, y ≠ X 0 0 3 → Y1 15 y 0 = Y 15 y 0) ∧ (∀ j, 0 ≤ j → j < X 19 t 1 → X1 16 (X 0 0 3) j = X 22 t j ∧ Y1 17 (X 0 0 3) j = none) ∧ ∀ y j, y ≠ X 0 0 3 → X1 16 y j = X 16 y j ∧ Y1 17 y j = Y 17 y j)) (hG : Frm [4001, 5500, 5600, 4014] X1 X2) (hM2 : MInv X2) (q : ((¬ (0 ≤ t ∧ t < X1 40 0 2) ∧ z2 = -1) ∨ ((0 ≤ t ∧ t < X1 40 0 2) ∧ X1 40 0 13 = 30 ∧ z2 = -4) ∨ ((0 ≤ t ∧ t < X1 40 0 2) ∧ X1 40 0 13 < 30 ∧ z2 = X1 40 0 13)) ∧ (z2 < 0 → Frm [4001] X1 X2) ∧ (0 ≤ z2 → X2 40 0 13 = X1 40 0 13 + 1 ∧ X2 55 0 z2 = t ∧ (∀ y, y ≠ z2 → X2 55 0 y = X1 55 0 y) ∧ (∀ q, 0 ≤ q → q < X1 44 0 t → X2 56 0 (5 * z2 + q) = X1 47 0 (5 * t + q)) ∧ ∀ j, j < 5 * z2 → X2 56 0 j = X1 56 0 j)) : RC cnt X2 Y1 ln ∧ z = z2 := by
  obtain ⟨⟨hT, hM, hW, hC, hf⟩, hB, hK, hS, h6, hN⟩ := id h
  obtain ⟨p, p1, p2⟩ := p
  obtain ⟨q, q1, q2⟩ := q
  have hi := hF.hi (by decide)
  have e40 := hi 40 (by decide)
  have e44 := hi 44 (by decide)
  have e46 := hi 46 (by decide)
  have e47 := hi 47 (by decide)
  have e55 := hi 55 (by decide)
  have e56 := hi 56 (by decide)
  have e64 := hi 64 (by decide)
  have e67 := hi 67 (by decide)
  unfold rT at hT
  have h3 := hB.1.1.1
  rw [e40] at q
  have r13 : 0 ≤ X 40 0 13 ∧ X 40 0 13 ≤ 30 := hR 40 0 13
  have hz : z = z2 ∧ (0 ≤ z → z = X 40 0 13 ∧ 0 ≤ t ∧ t < X 0 0 1) ∧ (¬ 0 ≤ z → z < 0) := by omega
  refine ⟨RC_of h hF hH hG (by decide) (by decide) (by decide) (Int.le_refl _) ⟨?_, ?_⟩, hz.1⟩
  · by_cases h0 : 0 ≤ z
    · obtain ⟨z1, t0, t1⟩ := hz.2.1 h0
      obtain ⟨a1, a2, a3, a4, a5⟩ := p2 h0
      obtain ⟨b1, b2, b3, b4, b5⟩ := q2 (by omega)
      have hft := hf t t0 t1
      have k1 : RB (cnt 26) X Y ln X1 := hB.1.m hi
      rw [← hz.1, z1] at b2 b3 b4 b5
      rw [h3] at a1 a2 a3 a4 a5
      rw [e40] at b1
      rw [e55] at b3
      rw [e44, e47] at b4
      rw [e56] at b5
      have k2 : RB (cnt 26) X1 Y1 ln X2 := RB_things (N := 1) (T := fun _ => t) k1 (KpN.of hF hH hG (by decide) (fun j => by rw [fc28]; simp; omega) (fun j => by rw [fc28]; simp; omega) (by decide)) hLn (by decide) (by rw [a1, h3]) (fun y y0 y1 => by rw [e40] at y0 y1; rw [show y = X 40 0 13 by omega]; exact a2) (fun y y0 => by rw [e40] at y0; exact a3 y (by omega)) (fun y k y0 y1 k0 k1' => by rw [e40] at y0 y1; rw [e44] at k1'; rw [show y = X 40 0 13 by omega]; exact a4 k k0 (by rw [hft.1]; exact k1')) (fun y k y0 => by rw [e40] at y0; exact a5 y k (by omega)) (by rw [b1, e40]) (hG.arr 44 (by decide +kernel) (by decide)) (hG.arr 46 (by decide +kernel) (by decide)) (fun y y0 y1 => by rw [e40] at y0 y1; rw [show y = X 40 0 13 by omega]; exact b2) (fun y y0 => by rw [e40] at y0; rw [e55]; exact b3 y (by omega)) (fun y k y0 y1 k0 k1' => by rw [e40] at y0 y1; rw [e44] at k1'; rw [e47, show y = X 40 0 13 by omega]; exact b4 k k0 k1') (fun j hj => by rw [e40] at hj; rw [e56]; exact b5 j hj) (fun t => by rw [e44]; exact (hR 44 0 t).2) (fun y k y0 y1 k0 k1' => by rw [e44] at k1'; rw [e47, e46]; exact ⟨(hft.2 k k0 (by rw [hft.1]; exact k1')).2.2.1, fun ne => hMI.2.1 t k t0 (by have r1 : X 40 0 2 ≤ 8 := (hR 40 0 2).2; omega) k0 k1' ne⟩) (fun n n0 n1 n2 => by rw [e40] at n1 ⊢; rw [e67] at n2; rw [e64]; exact ((hMI.2.2.2.1 n n0 n1).1 n2).1)
      exact k2.mdl hG (by decide)
    · obtain ⟨a1, a2⟩ := p1 (by omega)
      have b1 := q1 (by omega)
      rw [a1] at b1
      rw [a2]
      exact (hB.mdl b1 (by decide) (by decide)).1
  · rw [hG 29 0 1 (show 2902 ∉ _ by decide), hG 40 0 22 (show 4023 ∉ _ by decide), hF 29 0 1 (show 2902 ∉ _ by decide), e40]
    exact hB.2
/-! values -/
theorem J_put {z z2 x k v : Int} (h : RC cnt X Y ln) (hMI : MInv X) (hR : Rng X) (hR1 : Rng X1) (hLn : LnL ln) (hN9 : 0 ≤ cnt 25 ∧ 0 ≤ cnt 26) (hF : Frm [2802, 2803, 2902, 1600] X X1) (hH : Frm [2801, 2804] Y Y1) (p : ((¬ (0 ≤ x ∧ x < X 0 0 3 ∧ 0 ≤ k ∧ k < X 19 (tyo (Y 15 x 0)) 1) ∧ z = -1) ∨ ((0 ≤ x ∧ x < X 0 0 3 ∧ 0 ≤ k ∧ k < X 19 (tyo (Y 15 x 0)) 1) ∧ 1 < X 21 (tyo (Y 15 x 0)) k ∧ z = -14) ∨ ((0 ≤ x ∧ x < X 0 0 3 ∧ 0 ≤ k ∧ k < X 19 (tyo (Y 15 x 0)) 1) ∧ X 21 (tyo (Y 15 x 0)) k = 1 ∧ v ≠ -1 ∧ ¬ (0 ≤ v ∧ v < 16 ∧ X 3 0 v = 1) ∧ z = -17) ∨ ((0 ≤ x ∧ x < X 0 0 3 ∧ 0 ≤ k ∧ k < X 19 (tyo (Y 15 x 0)) 1) ∧ X 21 (tyo (Y 15 x 0)) k ≤ 1 ∧ (X 21 (tyo (Y 15 x 0)) k = 1 → v = -1 ∨ (0 ≤ v ∧ v < 16 ∧ X 3 0 v = 1)) ∧ 80 ≤ X 29 0 1 ∧ z = -4) ∨ ((0 ≤ x ∧ x < X 0 0 3 ∧ 0 ≤ k ∧ k < X 19 (tyo (Y 15 x 0)) 1) ∧ X 21 (tyo (Y 15 x 0)) k ≤ 1 ∧ (X 21 (tyo (Y 15 x 0)) k = 1 → v = -1 ∨ (0 ≤ v ∧ v < 16 ∧ X 3 0 v = 1)) ∧ X 29 0 1 ≤ 79 ∧ z = 1)) ∧ (z < 0 → X1 = X ∧ Y1 = Y) ∧ (z = 1 → eNoteC X X1 Y Y1 (some x) k (X 16 x k) (Y 17 x k) ∧ X1 16 x k = v ∧ (∀ y j, ¬ (y = x ∧ j = k) → X1 16 y j = X 16 y j) ∧ ∀ y j, Y1 17 y j = Y 17 y j)) (hG : Frm [4001, 6400, 6500, 6700, 6800, 6600, 4023, 5600] X1 X2) (hM2 : MInv X2) (q : ((¬ (0 ≤ x ∧ x < X1 40 0 13 ∧ 0 ≤ k ∧ k < X1 44 0 (X1 55 0 x)) ∧ z2 = -1) ∨ ((0 ≤ x ∧ x < X1 40 0 13 ∧ 0 ≤ k ∧ k < X1 44 0 (X1 55 0 x)) ∧ 1 < X1 46 0 (5 * X1 55 0 x + k) ∧ z2 = -14) ∨ ((0 ≤ x ∧ x < X1 40 0 13 ∧ 0 ≤ k ∧ k < X1 44 0 (X1 55 0 x)) ∧ X1 46 0 (5 * X1 55 0 x + k) = 1 ∧ v ≠ -1 ∧ ¬ (0 ≤ v ∧ v < 16 ∧ X1 42 0 v = 0) ∧ z2 = -17) ∨ ((0 ≤ x ∧ x < X1 40 0 13 ∧ 0 ≤ k ∧ k < X1 44 0 (X1 55 0 x)) ∧ X1 46 0 (5 * X1 55 0 x + k) ≤ 1 ∧ (X1 46 0 (5 * X1 55 0 x + k) = 1 → v = -1 ∨ (0 ≤ v ∧ v < 16 ∧ X1 42 0 v = 0)) ∧ (0 < X1 40 0 20 ∧ X1 40 0 22 = 80) ∧ z2 = -4) ∨ ((0 ≤ x ∧ x < X1 40 0 13 ∧ 0 ≤ k ∧ k < X1 44 0 (X1 55 0 x)) ∧ X1 46 0 (5 * X1 55 0 x + k) ≤ 1 ∧ (X1 46 0 (5 * X1 55 0 x + k) = 1 → v = -1 ∨ (0 ≤ v ∧ v < 16 ∧ X1 42 0 v = 0)) ∧ (X1 40 0 20 = 0 ∨ X1 40 0 22 ≤ 79) ∧ z2 = 1)) ∧ (z2 < 0 → Frm [4001] X1 X2) ∧ (z2 = 1 → eNoteM X1 X2 x k (if 3 ≤ X1 46 0 (5 * X1 55 0 x + k) then X1 56 0 (5 * x + k) else -1) (-1) (X1 56 0 (5 * x + k)) ∧ X2 56 0 (5 * x + k) = v ∧ ∀ p, p ≠ 5 * x + k → X2 56 0 p = X1 56 0 p)) : RC cnt X2 Y1 ln ∧ z = z2 := by
  obtain ⟨⟨hT, hM, hW, hC, hf⟩, hB, hK, hS, h6, hN⟩ := id h
  obtain ⟨p, p1, p2⟩ := p
  obtain ⟨q, q1, q2⟩ := q
  have hi := hF.hi (by decide)
  have e40 := hi 40 (by decide)
  have e42 := hi 42 (by decide)
  have e44 := hi 44 (by decide)
  have e46 := hi 46 (by decide)
  have e55 := hi 55 (by decide)
  simp only [e40, e42, e44, e46, e55] at q
  unfold rM at hM
  have h3 := hB.1.1.1
  have h4 := hB.2
  have hE := hMI.2.2.2.2.1.1
  have r22 : 0 ≤ X 40 0 22 ∧ X 40 0 22 ≤ 80 := hR 40 0 22
  have r20 : 0 ≤ X 40 0 20 ∧ X 40 0 20 ≤ 4 := hR 40 0 20
  have hw : 0 ≤ v ∧ v < 16 → X 3 0 v = 1 - X 42 0 v := fun w => hW v w.1 w.2
  have hz : z = z2 ∧ (z = 1 → (0 ≤ x ∧ x < X 40 0 13 ∧ 0 ≤ k ∧ k < X 44 0 (X 55 0 x)) ∧ X 46 0 (5 * X 55 0 x + k) < 3) ∧ (z ≠ 1 → z < 0) := by
    by_cases hx : 0 ≤ x ∧ x < X 40 0 13
    · obtain ⟨b1, b2, b3, b4⟩ := bridge hB.1.1 hT hf hMI hR hx.1 hx.2
      rw [b1] at p
      by_cases hk : 0 ≤ k ∧ k < X 44 0 (X 55 0 x)
      · have b5 := (b4 k hk.1 hk.2).2.1
        rcases p with p | p | p | p | p <;> first | (clear q; exfalso; omega) | (rcases q with q | q | q | q | q <;> first | (exfalso; omega) | (refine ⟨?_, fun u => ⟨?_, ?_⟩, fun u => ?_⟩ <;> omega))
      · rcases p with p | p | p | p | p <;> first | (clear q; exfalso; omega) | (rcases q with q | q | q | q | q <;> first | (exfalso; omega) | (refine ⟨?_, fun u => ⟨?_, ?_⟩, fun u => ?_⟩ <;> omega))
    · rcases p with p | p | p | p | p <;> first | (clear q; exfalso; omega) | (rcases q with q | q | q | q | q <;> first | (exfalso; omega) | (refine ⟨?_, fun u => ⟨?_, ?_⟩, fun u => ?_⟩ <;> omega))
  refine ⟨RC_of h hF hH hG (by decide) (by decide) (by decide) (Int.le_refl _) ?_, hz.1⟩
  by_cases h1 : z = 1
  · obtain ⟨hp, hl⟩ := hz.2.1 h1
    obtain ⟨a1, a2, a3, a4⟩ := p2 h1
    obtain ⟨b1, b2, b3⟩ := q2 (by omega)
    exact J_val hB.1 h4 hM hR hLn hp hl hF hH a1 a2 a3 a4 hG (by decide) (by decide) b1 b2 b3
  · obtain ⟨a1, a2⟩ := p1 (hz.2.2 h1)
    have b1 := q1 (by have := hz.2.2 h1; omega)
    rw [a1] at b1
    rw [a2]
    exact hB.mdl b1 (by decide) (by decide)
theorem J_refer {z z2 x k y : Int} (h : RC cnt X Y ln) (hMI : MInv X) (hR : Rng X) (hR1 : Rng X1) (hLn : LnL ln) (hN9 : 0 ≤ cnt 25 ∧ 0 ≤ cnt 26) (hF : Frm [2802, 2803, 2902, 1600] X X1) (hH : Frm [2801, 2804] Y Y1) (p : ((¬ ((0 ≤ x ∧ x < X 0 0 3 ∧ 0 ≤ k ∧ k < X 19 (tyo (Y 15 x 0)) 1) ∧ (y = -1 ∨ (0 ≤ y ∧ y < X 0 0 3))) ∧ z = -1) ∨ ((0 ≤ x ∧ x < X 0 0 3 ∧ 0 ≤ k ∧ k < X 19 (tyo (Y 15 x 0)) 1) ∧ (y = -1 ∨ (0 ≤ y ∧ y < X 0 0 3)) ∧ X 21 (tyo (Y 15 x 0)) k ≠ 2 ∧ z = -14) ∨ ((0 ≤ x ∧ x < X 0 0 3 ∧ 0 ≤ k ∧ k < X 19 (tyo (Y 15 x 0)) 1) ∧ (y = -1 ∨ (0 ≤ y ∧ y < X 0 0 3)) ∧ X 21 (tyo (Y 15 x 0)) k = 2 ∧ 80 ≤ X 29 0 1 ∧ z = -4) ∨ ((0 ≤ x ∧ x < X 0 0 3 ∧ 0 ≤ k ∧ k < X 19 (tyo (Y 15 x 0)) 1) ∧ (y = -1 ∨ (0 ≤ y ∧ y < X 0 0 3)) ∧ X 21 (tyo (Y 15 x 0)) k = 2 ∧ X 29 0 1 ≤ 79 ∧ z = 1)) ∧ (z < 0 → X1 = X ∧ Y1 = Y) ∧ (z = 1 → eNoteC X X1 Y Y1 (some x) k (X 16 x k) (Y 17 x k) ∧ X1 16 x k = y ∧ (∀ p j, ¬ (p = x ∧ j = k) → X1 16 p j = X 16 p j) ∧ ∀ p j, Y1 17 p j = Y 17 p j)) (hG : Frm [4001, 6400, 6500, 6700, 6800, 6600, 4023, 5600] X1 X2) (hM2 : MInv X2) (q : ((¬ ((0 ≤ x ∧ x < X1 40 0 13 ∧ 0 ≤ k ∧ k < X1 44 0 (X1 55 0 x)) ∧ (y = -1 ∨ (0 ≤ y ∧ y < X1 40 0 13))) ∧ z2 = -1) ∨ ((0 ≤ x ∧ x < X1 40 0 13 ∧ 0 ≤ k ∧ k < X1 44 0 (X1 55 0 x)) ∧ (y = -1 ∨ (0 ≤ y ∧ y < X1 40 0 13)) ∧ X1 46 0 (5 * X1 55 0 x + k) ≠ 2 ∧ z2 = -14) ∨ ((0 ≤ x ∧ x < X1 40 0 13 ∧ 0 ≤ k ∧ k < X1 44 0 (X1 55 0 x)) ∧ (y = -1 ∨ (0 ≤ y ∧ y < X1 40 0 13)) ∧ X1 46 0 (5 * X1 55 0 x + k) = 2 ∧ (0 < X1 40 0 20 ∧ X1 40 0 22 = 80) ∧ z2 = -4) ∨ ((0 ≤ x ∧ x < X1 40 0 13 ∧ 0 ≤ k ∧ k < X1 44 0 (X1 55 0 x)) ∧ (y = -1 ∨ (0 ≤ y ∧ y < X1 40 0 13)) ∧ X1 46 0 (5 * X1 55 0 x + k) = 2 ∧ (X1 40 0 20 = 0 ∨ X1 40 0 22 ≤ 79) ∧ z2 = 1)) ∧ (z2 < 0 → Frm [4001] X1 X2) ∧ (z2 = 1 → eNoteM X1 X2 x k (if 3 ≤ X1 46 0 (5 * X1 55 0 x + k) then X1 56 0 (5 * x + k) else -1) (-1) (X1 56 0 (5 * x + k)) ∧ X2 56 0 (5 * x + k) = y ∧ ∀ p, p ≠ 5 * x + k → X2 56 0 p = X1 56 0 p)) : RC cnt X2 Y1 ln ∧ z = z2 := by
  obtain ⟨⟨hT, hM, hW, hC, hf⟩, hB, hK, hS, h6, hN⟩ := id h
  obtain ⟨p, p1, p2⟩ := p
  obtain ⟨q, q1, q2⟩ := q
  have hi := hF.hi (by decide)
  have e40 := hi 40 (by decide)
  have e44 := hi 44 (by decide)
  have e46 := hi 46 (by decide)
  have e55 := hi 55 (by decide)
  simp only [e40, e44, e46, e55] at q
  unfold rM at hM
  have h3 := hB.1.1.1
  have h4 := hB.2
  have hE := hMI.2.2.2.2.1.1
  have r22 : 0 ≤ X 40 0 22 ∧ X 40 0 22 ≤ 80 := hR 40 0 22
  have r20 : 0 ≤ X 40 0 20 ∧ X 40 0 20 ≤ 4 := hR 40 0 20
  have hz : z = z2 ∧ (z = 1 → (0 ≤ x ∧ x < X 40 0 13 ∧ 0 ≤ k ∧ k < X 44 0 (X 55 0 x)) ∧ X 46 0 (5 * X 55 0 x + k) < 3) ∧ (z ≠ 1 → z < 0) := by
    by_cases hx : 0 ≤ x ∧ x < X 40 0 13
    · obtain ⟨b1, b2, b3, b4⟩ := bridge hB.1.1 hT hf hMI hR hx.1 hx.2
      rw [b1] at p
      by_cases hk : 0 ≤ k ∧ k < X 44 0 (X 55 0 x)
      · have b5 := (b4 k hk.1 hk.2).2.1
        rcases p with p | p | p | p <;> first | (clear q; exfalso; omega) | (rcases q with q | q | q | q <;> first | (exfalso; omega) | (refine ⟨?_, fun u => ⟨?_, ?_⟩, fun u => ?_⟩ <;> omega))
      · rcases p with p | p | p | p <;> first | (clear q; exfalso; omega) | (rcases q with q | q | q | q <;> first | (exfalso; omega) | (refine ⟨?_, fun u => ⟨?_, ?_⟩, fun u => ?_⟩ <;> omega))
    · rcases p with p | p | p | p <;> first | (clear q; exfalso; omega) | (rcases q with q | q | q | q <;> first | (exfalso; omega) | (refine ⟨?_, fun u => ⟨?_, ?_⟩, fun u => ?_⟩ <;> omega))
  refine ⟨RC_of h hF hH hG (by decide) (by decide) (by decide) (Int.le_refl _) ?_, hz.1⟩
  by_cases h1 : z = 1
  · obtain ⟨hp, hl⟩ := hz.2.1 h1
    obtain ⟨a1, a2, a3, a4⟩ := p2 h1
    obtain ⟨b1, b2, b3⟩ := q2 (by omega)
    exact J_val hB.1 h4 hM hR hLn hp hl hF hH a1 a2 a3 a4 hG (by decide) (by decide) b1 b2 b3
  · obtain ⟨a1, a2⟩ := p1 (hz.2.2 h1)
    have b1 := q1 (by have := hz.2.2 h1; omega)
    rw [a1] at b1
    rw [a2]
    exact hB.mdl b1 (by decide) (by decide)
theorem J_share {z z2 x k y j : Int} (h : RC cnt X Y ln) (hMI : MInv X) (hR : Rng X) (hR1 : Rng X1) (hLn : LnL ln) (hN9 : 0 ≤ cnt 25 ∧ 0 ≤ cnt 26) (hF : Frm [2802, 2803, 2902] X X1) (hH : Frm [2801, 2804, 1700] Y Y1) (p : ((¬ ((0 ≤ x ∧ x < X 0 0 3 ∧ 0 ≤ k ∧ k < X 19 (tyo (Y 15 x 0)) 1) ∧ (0 ≤ y ∧ y < X 0 0 3 ∧ 0 ≤ j ∧ j < X 19 (tyo (Y 15 y 0)) 1)) ∧ z = -1) ∨ (((0 ≤ x ∧ x < X 0 0 3 ∧ 0 ≤ k ∧ k < X 19 (tyo (Y 15 x 0)) 1) ∧ (0 ≤ y ∧ y < X 0 0 3 ∧ 0 ≤ j ∧ j < X 19 (tyo (Y 15 y 0)) 1)) ∧ (X 21 (tyo (Y 15 x 0)) k < 3 ∨ X 21 (tyo (Y 15 x 0)) k ≠ X 21 (tyo (Y 15 y 0)) j) ∧ z = -14) ∨ (((0 ≤ x ∧ x < X 0 0 3 ∧ 0 ≤ k ∧ k < X 19 (tyo (Y 15 x 0)) 1) ∧ (0 ≤ y ∧ y < X 0 0 3 ∧ 0 ≤ j ∧ j < X 19 (tyo (Y 15 y 0)) 1)) ∧ 3 ≤ X 21 (tyo (Y 15 x 0)) k ∧ X 21 (tyo (Y 15 x 0)) k = X 21 (tyo (Y 15 y 0)) j ∧ 80 ≤ X 29 0 1 ∧ z = -4) ∨ (((0 ≤ x ∧ x < X 0 0 3 ∧ 0 ≤ k ∧ k < X 19 (tyo (Y 15 x 0)) 1) ∧ (0 ≤ y ∧ y < X 0 0 3 ∧ 0 ≤ j ∧ j < X 19 (tyo (Y 15 y 0)) 1)) ∧ 3 ≤ X 21 (tyo (Y 15 x 0)) k ∧ X 21 (tyo (Y 15 x 0)) k = X 21 (tyo (Y 15 y 0)) j ∧ X 29 0 1 ≤ 79 ∧ z = 1)) ∧ (z < 0 → X1 = X ∧ Y1 = Y) ∧ (z = 1 → eNoteC X X1 Y Y1 (some x) k (X 16 x k) (Y 17 x k) ∧ Y1 17 x k = Y 17 y j ∧ (∀ p q, ¬ (p = x ∧ q = k) → Y1 17 p q = Y 17 p q) ∧ ∀ p q, X1 16 p q = X 16 p q)) (hG : Frm [4001, 6400, 6500, 6700, 6800, 6600, 4023, 5600] X1 X2) (hM2 : MInv X2) (q : ((¬ ((0 ≤ x ∧ x < X1 40 0 13 ∧ 0 ≤ k ∧ k < X1 44 0 (X1 55 0 x)) ∧ (0 ≤ y ∧ y < X1 40 0 13 ∧ 0 ≤ j ∧ j < X1 44 0 (X1 55 0 y))) ∧ z2 = -1) ∨ (((0 ≤ x ∧ x < X1 40 0 13 ∧ 0 ≤ k ∧ k < X1 44 0 (X1 55 0 x)) ∧ (0 ≤ y ∧ y < X1 40 0 13 ∧ 0 ≤ j ∧ j < X1 44 0 (X1 55 0 y))) ∧ (X1 46 0 (5 * X1 55 0 x + k) < 3 ∨ X1 46 0 (5 * X1 55 0 x + k) ≠ X1 46 0 (5 * X1 55 0 y + j)) ∧ z2 = -14) ∨ (((0 ≤ x ∧ x < X1 40 0 13 ∧ 0 ≤ k ∧ k < X1 44 0 (X1 55 0 x)) ∧ (0 ≤ y ∧ y < X1 40 0 13 ∧ 0 ≤ j ∧ j < X1 44 0 (X1 55 0 y))) ∧ 3 ≤ X1 46 0 (5 * X1 55 0 x + k) ∧ X1 46 0 (5 * X1 55 0 x + k) = X1 46 0 (5 * X1 55 0 y + j) ∧ (0 < X1 40 0 20 ∧ X1 40 0 22 = 80) ∧ z2 = -4) ∨ (((0 ≤ x ∧ x < X1 40 0 13 ∧ 0 ≤ k ∧ k < X1 44 0 (X1 55 0 x)) ∧ (0 ≤ y ∧ y < X1 40 0 13 ∧ 0 ≤ j ∧ j < X1 44 0 (X1 55 0 y))) ∧ 3 ≤ X1 46 0 (5 * X1 55 0 x + k) ∧ X1 46 0 (5 * X1 55 0 x + k) = X1 46 0 (5 * X1 55 0 y + j) ∧ (X1 40 0 20 = 0 ∨ X1 40 0 22 ≤ 79) ∧ z2 = 1)) ∧ (z2 < 0 → Frm [4001] X1 X2) ∧ (z2 = 1 → eNoteM X1 X2 x k (if 3 ≤ X1 46 0 (5 * X1 55 0 x + k) then X1 56 0 (5 * x + k) else -1) (-1) (X1 56 0 (5 * x + k)) ∧ X2 56 0 (5 * x + k) = X1 56 0 (5 * y + j) ∧ ∀ p, p ≠ 5 * x + k → X2 56 0 p = X1 56 0 p)) : RC cnt X2 Y1 ln ∧ z = z2 := by
  obtain ⟨⟨hT, hM, hW, hC, hf⟩, hB, hK, hS, h6, hN⟩ := id h
  obtain ⟨p, p1, p2⟩ := p
  obtain ⟨q, q1, q2⟩ := q
  have hi := hF.hi (by decide)
  have e40 := hi 40 (by decide)
  have e44 := hi 44 (by decide)
  have e46 := hi 46 (by decide)
  have e55 := hi 55 (by decide)
  have e56 := hi 56 (by decide)
  simp only [e40, e44, e46, e55] at q
  unfold rM at hM
  have h3 := hB.1.1.1
  have h4 := hB.2
  have hE := hMI.2.2.2.2.1.1
  have r22 : 0 ≤ X 40 0 22 ∧ X 40 0 22 ≤ 80 := hR 40 0 22
  have r20 : 0 ≤ X 40 0 20 ∧ X 40 0 20 ≤ 4 := hR 40 0 20
  have hz : z = z2 ∧ (z = 1 → ((0 ≤ x ∧ x < X 40 0 13 ∧ 0 ≤ k ∧ k < X 44 0 (X 55 0 x)) ∧ (0 ≤ y ∧ y < X 40 0 13 ∧ 0 ≤ j ∧ j < X 44 0 (X 55 0 y))) ∧ 3 ≤ X 46 0 (5 * X 55 0 x + k) ∧ X 46 0 (5 * X 55 0 x + k) = X 46 0 (5 * X 55 0 y + j)) ∧ (z ≠ 1 → z < 0) := by
    by_cases hx : 0 ≤ x ∧ x < X 40 0 13
    · by_cases hy : 0 ≤ y ∧ y < X 40 0 13
      · obtain ⟨b1, b2, b3, b4⟩ := bridge hB.1.1 hT hf hMI hR hx.1 hx.2
        obtain ⟨d1, d2, d3, d4⟩ := bridge hB.1.1 hT hf hMI hR hy.1 hy.2
        rw [b1, d1] at p
        by_cases hk : 0 ≤ k ∧ k < X 44 0 (X 55 0 x)
        · by_cases hj : 0 ≤ j ∧ j < X 44 0 (X 55 0 y)
          · have b5 := (b4 k hk.1 hk.2).2.1
            have d5 := (d4 j hj.1 hj.2).2.1
            rcases p with p | p | p | p <;> first | (clear q; exfalso; omega) | (rcases q with q | q | q | q <;> first | (exfalso; omega) | (refine ⟨?_, fun u => ⟨⟨?_, ?_⟩, ?_, ?_⟩, fun u => ?_⟩ <;> omega))
          · rcases p with p | p | p | p <;> first | (clear q; exfalso; omega) | (rcases q with q | q | q | q <;> first | (exfalso; omega) | (refine ⟨?_, fun u => ⟨⟨?_, ?_⟩, ?_, ?_⟩, fun u => ?_⟩ <;> omega))
        · rcases p with p | p | p | p <;> first | (clear q; exfalso; omega) | (rcases q with q | q | q | q <;> first | (exfalso; omega) | (refine ⟨?_, fun u => ⟨⟨?_, ?_⟩, ?_, ?_⟩, fun u => ?_⟩ <;> omega))
      · rcases p with p | p | p | p <;> first | (clear q; exfalso; omega) | (rcases q with q | q | q | q <;> first | (exfalso; omega) | (refine ⟨?_, fun u => ⟨⟨?_, ?_⟩, ?_, ?_⟩, fun u => ?_⟩ <;> omega))
    · rcases p with p | p | p | p <;> first | (clear q; exfalso; omega) | (rcases q with q | q | q | q <;> first | (exfalso; omega) | (refine ⟨?_, fun u => ⟨⟨?_, ?_⟩, ?_, ?_⟩, fun u => ?_⟩ <;> omega))
  refine ⟨RC_of h hF hH hG (by decide) (by decide) (by decide) (Int.le_refl _) ?_, hz.1⟩
  by_cases h1 : z = 1
  · obtain ⟨⟨hp, hp2⟩, hl, hl2⟩ := hz.2.1 h1
    obtain ⟨a1, a2, a3, a4⟩ := p2 h1
    obtain ⟨b1, b2, b3⟩ := q2 (by omega)
    have hmm : RB (cnt 26) X Y ln X1 := hB.1.m hi
    have hpl := (hB.1.1.2 y hp2.1 hp2.2.1).2 j hp2.2.2.1 hp2.2.2.2
    have hnn := hpl.2 (by unfold lnM; omega)
    have hsame := rR_same (C1 := X1) (M1 := X2) (ln1 := ln) hmm.2.2 (fun g _ _ => by rw [hF.arr 27 (by decide +kernel) (by decide)]) (fun _ _ _ => rfl) (fun g r l _ => ⟨by rw [hG.arr 57 (by decide +kernel) (by decide)], by rw [hG.arr 58 (by decide +kernel) (by decide)], fun i _ _ => by rw [hG.arr 59 (by decide +kernel) (by decide)]⟩) hLn
    have hc0 : 0 ≤ cnt 26 := hN9.2
    cases e : Y 17 y j with
    | none =>
      exact J_rw (g0 := 0) hB.1 h4 hM hR hp hl hF (by decide) (by decide) hH (by decide) a1 (a2.trans e) a3 a4 hG (by decide) (by decide) b1 b2 b3 (by rw [e56]; exact ⟨fun _ => hnn.mp e, fun _ => rfl⟩) ⟨hc0, Int.le_refl _⟩ hsame (fun n _ _ _ => by rw [hG.arr 57 (by decide +kernel) (by decide)]) (Or.inl rfl)
    | some g =>
      refine J_rw (g0 := g) hB.1 h4 hM hR hp hl hF (by decide) (by decide) hH (by decide) a1 (a2.trans e) a3 a4 hG (by decide) (by decide) b1 b2 b3 ⟨fun w => (by cases w), fun w => ?_⟩ ⟨hc0, Int.le_refl _⟩ hsame (fun n _ _ _ => by rw [hG.arr 57 (by decide +kernel) (by decide)]) (Or.inr (Or.inl ⟨rfl, Or.inl ⟨y, j, hp2.1, by rw [e40]; exact hp2.2.1, hp2.2.2.1, by unfold fcM; rw [e44, e55]; exact hp2.2.2.2, by unfold lnM; rw [e46, e55]; exact hl2.symm, by unfold lnM; rw [e46, e55]; exact hl, e, rfl⟩⟩))
      rw [e56] at w
      rw [hnn.mpr w] at e
      cases e
  · obtain ⟨a1, a2⟩ := p1 (hz.2.2 h1)
    have b1 := q1 (by have := hz.2.2 h1; omega)
    rw [a1] at b1
    rw [a2]
    exact hB.mdl b1 (by decide) (by decide)
theorem J_item {z z2 x k i v : Int} (h : RC cnt X Y ln) (hMI : MInv X) (hR : Rng X) (hR1 : Rng X1) (hLn : LnL ln) (hN9 : 0 ≤ cnt 25 ∧ 0 ≤ cnt 26) (hF : Frm [2802, 2803, 2902, 2700] X X1) (hH : Frm [2801, 2804] Y Y1) (p : ((¬ (0 ≤ x ∧ x < X 0 0 3 ∧ 0 ≤ k ∧ k < X 19 (tyo (Y 15 x 0)) 1) ∧ z = -1) ∨ ((0 ≤ x ∧ x < X 0 0 3 ∧ 0 ≤ k ∧ k < X 19 (tyo (Y 15 x 0)) 1) ∧ X 21 (tyo (Y 15 x 0)) k < 3 ∧ z = -14) ∨ ((0 ≤ x ∧ x < X 0 0 3 ∧ 0 ≤ k ∧ k < X 19 (tyo (Y 15 x 0)) 1) ∧ 3 ≤ X 21 (tyo (Y 15 x 0)) k ∧ (rlen ln (Y 17 x k) < 0) ∧ z = -11) ∨ ((0 ≤ x ∧ x < X 0 0 3 ∧ 0 ≤ k ∧ k < X 19 (tyo (Y 15 x 0)) 1) ∧ 3 ≤ X 21 (tyo (Y 15 x 0)) k ∧ ¬ (rlen ln (Y 17 x k) < 0) ∧ ¬ (0 ≤ i ∧ i < rlen ln (Y 17 x k)) ∧ z = -12) ∨ ((0 ≤ x ∧ x < X 0 0 3 ∧ 0 ≤ k ∧ k < X 19 (tyo (Y 15 x 0)) 1) ∧ 3 ≤ X 21 (tyo (Y 15 x 0)) k ∧ ¬ (rlen ln (Y 17 x k) < 0) ∧ (0 ≤ i ∧ i < rlen ln (Y 17 x k)) ∧ 80 ≤ X 29 0 1 ∧ z = -4) ∨ ((0 ≤ x ∧ x < X 0 0 3 ∧ 0 ≤ k ∧ k < X 19 (tyo (Y 15 x 0)) 1) ∧ 3 ≤ X 21 (tyo (Y 15 x 0)) k ∧ ¬ (rlen ln (Y 17 x k) < 0) ∧ (0 ≤ i ∧ i < rlen ln (Y 17 x k)) ∧ X 29 0 1 ≤ 79 ∧ z = 1)) ∧ (z < 0 → X1 = X ∧ Y1 = Y) ∧ (z = 1 → ∃ g, Y 17 x k = some g ∧ eNoteC X X1 Y Y1 none i (X 27 g i) (some g) ∧ X1 27 g i = cutZ (X 21 (tyo (Y 15 x 0)) k) v ∧ ∀ y j, ¬ (y = g ∧ j = i) → X1 27 y j = X 27 y j)) (hG : Frm [4001, 6600, 6700, 6800, 4023, 5900] X1 X2) (hM2 : MInv X2) (q : ((¬ (0 ≤ x ∧ x < X1 40 0 13 ∧ 0 ≤ k ∧ k < X1 44 0 (X1 55 0 x)) ∧ z2 = -1) ∨ ((0 ≤ x ∧ x < X1 40 0 13 ∧ 0 ≤ k ∧ k < X1 44 0 (X1 55 0 x)) ∧ X1 46 0 (5 * X1 55 0 x + k) < 3 ∧ z2 = -14) ∨ ((0 ≤ x ∧ x < X1 40 0 13 ∧ 0 ≤ k ∧ k < X1 44 0 (X1 55 0 x)) ∧ 3 ≤ X1 46 0 (5 * X1 55 0 x + k) ∧ (X1 56 0 (5 * x + k) < 0) ∧ z2 = -11) ∨ ((0 ≤ x ∧ x < X1 40 0 13 ∧ 0 ≤ k ∧ k < X1 44 0 (X1 55 0 x)) ∧ 3 ≤ X1 46 0 (5 * X1 55 0 x + k) ∧ ¬ (X1 56 0 (5 * x + k) < 0) ∧ ¬ (0 ≤ i ∧ i < X1 58 0 (X1 56 0 (5 * x + k))) ∧ z2 = -12) ∨ ((0 ≤ x ∧ x < X1 40 0 13 ∧ 0 ≤ k ∧ k < X1 44 0 (X1 55 0 x)) ∧ 3 ≤ X1 46 0 (5 * X1 55 0 x + k) ∧ ¬ (X1 56 0 (5 * x + k) < 0) ∧ (0 ≤ i ∧ i < X1 58 0 (X1 56 0 (5 * x + k))) ∧ (0 < X1 40 0 20 ∧ X1 40 0 22 = 80) ∧ z2 = -4) ∨ ((0 ≤ x ∧ x < X1 40 0 13 ∧ 0 ≤ k ∧ k < X1 44 0 (X1 55 0 x)) ∧ 3 ≤ X1 46 0 (5 * X1 55 0 x + k) ∧ ¬ (X1 56 0 (5 * x + k) < 0) ∧ (0 ≤ i ∧ i < X1 58 0 (X1 56 0 (5 * x + k))) ∧ (X1 40 0 20 = 0 ∨ X1 40 0 22 ≤ 79) ∧ z2 = 1)) ∧ (z2 < 0 → Frm [4001] X1 X2) ∧ (z2 = 1 → eNoteM X1 X2 (X1 64 0 (X1 40 0 22)) (X1 65 0 (X1 40 0 22)) (X1 56 0 (5 * x + k)) i (X1 59 0 (12 * X1 56 0 (5 * x + k) + i)) ∧ X2 59 0 (12 * X1 56 0 (5 * x + k) + i) = cutZ (X1 57 0 (X1 56 0 (5 * x + k))) v ∧ ∀ p, p ≠ 12 * X1 56 0 (5 * x + k) + i → X2 59 0 p = X1 59 0 p)) : RC cnt X2 Y1 ln ∧ z = z2 := by
  obtain ⟨⟨hT, hM, hW, hC, hf⟩, hB, hK, hS, h6, hN⟩ := id h
  obtain ⟨p, p1, p2⟩ := p
  obtain ⟨q, q1, q2⟩ := q
  have hi := hF.hi (by decide)
  have e40 := hi 40 (by decide)
  have e44 := hi 44 (by decide)
  have e46 := hi 46 (by decide)
  have e55 := hi 55 (by decide)
  have e56 := hi 56 (by decide)
  have e57 := hi 57 (by decide)
  have e58 := hi 58 (by decide)
  simp only [e40, e44, e46, e55, e56, e58] at q
  unfold rM at hM
  have h3 := hB.1.1.1
  have h4 := hB.2
  have hE := hMI.2.2.2.2.1.1
  have r22 : 0 ≤ X 40 0 22 ∧ X 40 0 22 ≤ 80 := hR 40 0 22
  have r20 : 0 ≤ X 40 0 20 ∧ X 40 0 20 ≤ 4 := hR 40 0 20
  have hrl : (0 ≤ x ∧ x < X 40 0 13) → (0 ≤ k ∧ k < X 44 0 (X 55 0 x)) → 3 ≤ X 46 0 (5 * X 55 0 x + k) → (rlen ln (Y 17 x k) < 0 ↔ X 56 0 (5 * x + k) < 0) ∧ (0 ≤ X 56 0 (5 * x + k) → rlen ln (Y 17 x k) = X 58 0 (X 56 0 (5 * x + k)) ∧ X 57 0 (X 56 0 (5 * x + k)) = X 46 0 (5 * X 55 0 x + k) ∧ ∃ g, Y 17 x k = some g) := by
    intro hx hk hl
    have hpl := ((hB.1.1.2 x hx.1 hx.2).2 k hk.1 hk.2).2 hl
    cases e : Y 17 x k with
    | none =>
      have h9 := hpl.mp e
      rw [rlen_n]
      exact ⟨⟨fun _ => h9, fun _ => by omega⟩, fun w => by omega⟩
    | some g =>
      have h8 : Lv Y X g (X 56 0 (5 * x + k)) (X 46 0 (5 * X 55 0 x + k)) := Or.inl ⟨x, k, hx.1, hx.2, hk.1, hk.2, rfl, hl, e, rfl⟩
      obtain ⟨c1, c2, c3, c4, c5, c6, -⟩ := hB.1.2.2.1 _ _ _ h8
      have l1 := hLn g
      rw [rlen_s]
      exact ⟨⟨fun w => by omega, fun w => by omega⟩, fun w => ⟨c6, c5, g, rfl⟩⟩
  have hz : z = z2 ∧ (z = 1 → (0 ≤ x ∧ x < X 40 0 13 ∧ 0 ≤ k ∧ k < X 44 0 (X 55 0 x)) ∧ 3 ≤ X 46 0 (5 * X 55 0 x + k) ∧ 0 ≤ X 56 0 (5 * x + k) ∧ (0 ≤ i ∧ i < X 58 0 (X 56 0 (5 * x + k)))) ∧ (z ≠ 1 → z < 0) := by
    by_cases hx : 0 ≤ x ∧ x < X 40 0 13
    · obtain ⟨b1, b2, b3, b4⟩ := bridge hB.1.1 hT hf hMI hR hx.1 hx.2
      rw [b1] at p
      by_cases hk : 0 ≤ k ∧ k < X 44 0 (X 55 0 x)
      · have b5 := (b4 k hk.1 hk.2).2.1
        by_cases hl : 3 ≤ X 46 0 (5 * X 55 0 x + k)
        · obtain ⟨r1, r2⟩ := hrl hx hk hl
          by_cases hn : X 56 0 (5 * x + k) < 0
          · rcases p with p | p | p | p | p | p <;> first | (clear q; exfalso; omega) | (rcases q with q | q | q | q | q | q <;> first | (exfalso; omega) | (refine ⟨?_, fun u => ⟨?_, ?_, ?_, ?_⟩, fun u => ?_⟩ <;> omega))
          · have r3 := (r2 (by omega)).1
            rcases p with p | p | p | p | p | p <;> first | (clear q; exfalso; omega) | (rcases q with q | q | q | q | q | q <;> first | (exfalso; omega) | (refine ⟨?_, fun u => ⟨?_, ?_, ?_, ?_⟩, fun u => ?_⟩ <;> omega))
        · rcases p with p | p | p | p | p | p <;> first | (clear q; exfalso; omega) | (rcases q with q | q | q | q | q | q <;> first | (exfalso; omega) | (refine ⟨?_, fun u => ⟨?_, ?_, ?_, ?_⟩, fun u => ?_⟩ <;> omega))
      · rcases p with p | p | p | p | p | p <;> first | (clear q; exfalso; omega) | (rcases q with q | q | q | q | q | q <;> first | (exfalso; omega) | (refine ⟨?_, fun u => ⟨?_, ?_, ?_, ?_⟩, fun u => ?_⟩ <;> omega))
    · rcases p with p | p | p | p | p | p <;> first | (clear q; exfalso; omega) | (rcases q with q | q | q | q | q | q <;> first | (exfalso; omega) | (refine ⟨?_, fun u => ⟨?_, ?_, ?_, ?_⟩, fun u => ?_⟩ <;> omega))
  refine ⟨RC_of h hF hH hG (by decide) (by decide) (by decide) (Int.le_refl _) ?_, hz.1⟩
  by_cases h1 : z = 1
  · obtain ⟨hp, hl, hv0, hi0⟩ := hz.2.1 h1
    obtain ⟨g, a0, a1, a2, a3⟩ := p2 h1
    obtain ⟨b1, b2, b3⟩ := q2 (by omega)
    obtain ⟨r1, r2⟩ := hrl ⟨hp.1, hp.2.1⟩ ⟨hp.2.2.1, hp.2.2.2⟩ hl
    obtain ⟨r3, r4, -⟩ := r2 hv0
    rw [a0, rlen_s] at r3
    have l1 := hLn g
    obtain ⟨c1, c2, c3, c4⟩ := bridge hB.1.1 hT hf hMI hR hp.1 hp.2.1
    have c5 := (c4 k hp.2.2.1 hp.2.2.2).2.1
    rw [c1, c5] at a2
    rw [e57, e56, r4] at b2
    rw [e56] at b1 b3
    have hmm : RB (cnt 26) X Y ln X1 := hB.1.m hi
    have hN9 := RB_item (M1 := X2) (x := x) (k := k) (g := g) (r := X 56 0 (5 * x + k)) (i := i) hmm (by rw [e40]; exact h4) (by rw [e40]; exact hM) (KpC.of hF hH (by decide) (by decide)) (KpM.of hG (by decide)) (by unfold fcM; rw [e40, e44, e55]; exact hp) (by unfold lnM; rw [e46, e55]; exact hl) a0 (by rw [e56]) ⟨hi0.1, by omega⟩ a1 a2 a3 (hF.arr 16 (by decide +kernel) (by decide)) (hH.arr 17 (by decide +kernel) (by decide)) b1 b2 b3 (hG.arr 56 (by decide +kernel) (by decide)) (hG.arr 57 (by decide +kernel) (by decide)) (hG.arr 58 (by decide +kernel) (by decide)) (by omega) hLn
    refine ⟨hN9.1.mdl hG (by decide), ?_⟩
    rw [hG 29 0 1 (show 2902 ∉ _ by decide)]
    exact hN9.2
  · obtain ⟨a1, a2⟩ := p1 (hz.2.2 h1)
    have b1 := q1 (by have := hz.2.2 h1; omega)
    rw [a1] at b1
    rw [a2]
    exact hB.mdl b1 (by decide) (by decide)
theorem J_mark {z z2 : Int} (h : RC cnt X Y ln) (hMI : MInv X) (hR : Rng X) (hR1 : Rng X1) (hLn : LnL ln) (hN9 : 0 ≤ cnt 25 ∧ 0 ≤ cnt 26) (hF : Frm [2904, 3100] X X1) (p : ((4 ≤ X 29 0 3 ∧ z = -4 ∧ X1 29 0 3 = X 29 0 3) ∨ (X 29 0 3 < 4 ∧ z = X 29 0 3 + 1 ∧ X1 29 0 3 = X 29 0 3 + 1)) ∧ (0 ≤ z → X1 31 0 (X 29 0 3) = X 29 0 1) ∧ (∀ j, j ≠ X 29 0 3 → X1 31 0 j = X 31 0 j) ∧ (z < 0 → X1 = X)) (hG : Frm [4001, 6200, 4021] X1 X2) (hM2 : MInv X2) (q : ((X1 40 0 20 = 4 ∧ z2 = -4 ∧ X2 40 0 20 = X1 40 0 20) ∨ (X1 40 0 20 < 4 ∧ z2 = X1 40 0 20 + 1 ∧ X2 40 0 20 = X1 40 0 20 + 1)) ∧ (0 ≤ z2 → X2 62 0 (X1 40 0 20) = X1 40 0 22) ∧ (∀ j, j ≠ X1 40 0 20 → X2 62 0 j = X1 62 0 j) ∧ (z2 < 0 → Frm [4001] X1 X2)) : RC cnt X2 Y ln ∧ z = z2 := by
  obtain ⟨⟨hT, hM, hW, hC, hf⟩, hB, hK, hS, h6, hN⟩ := id h
  obtain ⟨p, p1, p2, p3⟩ := p
  obtain ⟨q, q1, q2, q3⟩ := q
  have hi := hF.hi (by decide)
  have e40 := hi 40 (by decide)
  have hmk := rM_mark hM hF p hG q hR
  have hzz := hmk.2
  unfold rM at hM
  rw [e40] at q q1 q2
  have h4 := hB.2
  have sb : ∀ (P : List Nat) (l : List Nat), (∀ q ∈ l, q ∉ P) → ∀ q ∈ l, q ∉ P := fun _ _ a => a
  refine ⟨⟨⟨(hT.frm hF (by decide)).frm hG (by decide), hmk.1, (hW.frm hF (by decide)).frm hG (by decide), (hC.frm hF (by decide)).frm hG (by decide), (hf.frm hF (by decide)).frm hG (by decide)⟩, ⟨?_, ?_⟩, (hK.frm (N := []) hF Frm.rf (by decide) (by decide) (Int.le_refl _)).frm (N := []) hG Frm.rf (by decide) (by decide) (Int.le_refl _), (hS.frm (N := []) hF Frm.rf (by decide) (by decide)).frm (N := []) hG Frm.rf (by decide) (by decide), h6, (hN.frm hF (by decide)).frm hG (by decide)⟩, hmk.2⟩
  · have hmm : RB (cnt 26) X Y ln X1 := hB.1.m hi
    have g22 : X2 40 0 22 = X1 40 0 22 := hG 40 0 22 (show 4023 ∉ _ by decide)
    have g13 : X2 40 0 13 = X1 40 0 13 := hG 40 0 13 (show 4014 ∉ _ by decide)
    by_cases h0 : 0 ≤ z
    · have hl : lnM X2 = lnM X1 := by
        funext a b
        unfold lnM
        rw [hG.arr 46 (by decide +kernel) (by decide), hG.arr 55 (by decide +kernel) (by decide)]
      have hk : ∀ k ∈ [57, 64, 65, 66, 67, 68], X2 k = X1 k := by
        intro k hk
        simp only [List.mem_cons, List.not_mem_nil, or_false] at hk
        rcases hk with rfl | rfl | rfl | rfl | rfl | rfl <;> exact hG.arr _ (by decide +kernel) (by decide)
      have hrn := rN_mark (C1 := X1) (M1 := X2) hmm.2.1 (by rw [e40]; exact h4) (by rw [e40]; exact hM) (fun n => ⟨hF 28 n 1 (show 2802 ∉ _ by decide), hF 28 n 2 (show 2803 ∉ _ by decide)⟩) (p1 h0) p2 (by rw [e40]; exact q1 (by omega)) (by rw [e40]; exact q2) (by rw [e40]; omega) g22 hl hk
      have k2 : RB (cnt 26) X1 Y ln X2 := RB_rn hmm hrn (hF 0 0 3 (show 4 ∉ _ by decide)) (hF.arr 16 (by decide +kernel) (by decide)) (hF.arr 27 (by decide +kernel) (by decide)) g13 g22 (fun κ hκ => by
        simp only [List.mem_cons, List.not_mem_nil, or_false] at hκ
        rcases hκ with rfl | rfl | rfl | rfl | rfl | rfl | rfl | rfl | rfl | rfl | rfl | rfl <;> exact hG.arr _ (by decide +kernel) (by decide))
      exact k2.mdl hG (by decide)
    · have b1 := q3 (by omega)
      rw [p3 (by omega)] at b1
      exact (hB.mdl b1 (by decide) (by decide)).1
  · rw [hG 29 0 1 (show 2902 ∉ _ by decide), hG 40 0 22 (show 4023 ∉ _ by decide), hF 29 0 1 (show 2902 ∉ _ by decide), e40]
    exact h4
theorem J_undo {z z2 : Int} (h : RC cnt X Y ln) (hMI : MInv X) (hR : Rng X) (hR1 : Rng X1) (hLn : LnL ln) (hN9 : 0 ≤ cnt 25 ∧ 0 ≤ cnt 26) (hF : Frm [2904, 2902, 1600, 2700] X X1) (hH : Frm [1700] Y Y1) (p : ((X 29 0 3 = 0 ∧ X1 29 0 3 = 0) ∨ (1 ≤ X 29 0 3 ∧ X1 29 0 3 = X 29 0 3 - 1)) ∧ (X 29 0 3 = 0 → X1 = X ∧ Y1 = Y ∧ z = -3) ∧ (1 ≤ X 29 0 3 → ∃ (V Xa : Nat → Int → Int → Int) (iz : Int), Frm [2904] X V ∧ uTrC (X 29 0 1) ((X 29 0 1 - 1 - iz).toNat) V Y Xa Y1 ∧ (X 31 0 (X 29 0 3 - 1) - 1 ≤ iz ∨ iz = X 29 0 1 - 1) ∧ iz < X 31 0 (X 29 0 3 - 1) ∧ (-1 ≤ iz ∧ iz < X 29 0 1 ∨ iz = -1) ∧ Frm [2902] Xa X1 ∧ X1 29 0 1 = X 31 0 (X 29 0 3 - 1) ∧ z = X 29 0 1 - X 31 0 (X 29 0 3 - 1))) (hG : Frm [4001, 4021, 4023, 5600, 5900] X1 X2) (hM2 : MInv X2) (q : ((X1 40 0 20 = 0 ∧ X2 40 0 20 = 0) ∨ (1 ≤ X1 40 0 20 ∧ X2 40 0 20 = X1 40 0 20 - 1)) ∧ (X1 40 0 20 = 0 → Frm [4001] X1 X2 ∧ z2 = -3) ∧ (1 ≤ X1 40 0 20 → ∃ V : Nat → Int → Int → Int, Frm [4001, 4021] X1 V ∧ V 40 0 20 = X1 40 0 20 - 1 ∧ X2 40 0 22 ≤ X1 62 0 (X1 40 0 20 - 1) ∧ (X2 40 0 22 = X1 40 0 22 ∨ X1 62 0 (X1 40 0 20 - 1) ≤ X2 40 0 22) ∧ z2 = X1 40 0 22 - X1 62 0 (X1 40 0 20 - 1) ∧ uTrM (X1 40 0 22) ((X1 40 0 22 - X2 40 0 22).toNat) V X2)) : RC cnt X2 Y1 ln ∧ z = z2 := by
  obtain ⟨⟨hT, hM, hW, hC, hf⟩, hB, hK, hS, h6, hN⟩ := id h
  obtain ⟨p, p1, p2⟩ := p
  obtain ⟨q, q1, q2⟩ := q
  have hi := hF.hi (by decide)
  have e40 := hi 40 (by decide)
  have e62 := hi 62 (by decide)
  have hmk := rM_undo hM hF p hG q
  have hm3 := hM
  unfold rM at hm3
  have h4 := hB.2
  have r20 : 0 ≤ X 40 0 20 ∧ X 40 0 20 ≤ 4 := hR 40 0 20
  have hfr : RC cnt X2 Y1 ln ↔ RBn (cnt 26) X2 Y1 ln := by
    constructor
    · exact fun w => w.2.1
    · intro w
      exact ⟨⟨(hT.frm hF (by decide)).frm hG (by decide), hmk, (hW.frm hF (by decide)).frm hG (by decide), (hC.frm hF (by decide)).frm hG (by decide), (hf.frm hF (by decide)).frm hG (by decide)⟩, w, (hK.frm hF hH (by decide) (by decide) (Int.le_refl _)).frm (N := []) hG Frm.rf (by decide) (by decide) (Int.le_refl _), (hS.frm hF hH (by decide) (by decide)).frm (N := []) hG Frm.rf (by decide) (by decide), h6.frm hH (by decide), (hN.frm hF (by decide)).frm hG (by decide)⟩
  rw [hfr]
  by_cases h0 : X 40 0 20 = 0
  · obtain ⟨a1, a2, a3⟩ := p1 (by omega)
    obtain ⟨b1, b2⟩ := q1 (by rw [e40]; exact h0)
    rw [a1] at b1
    rw [a2]
    exact ⟨hB.mdl b1 (by decide) (by decide), by omega⟩
  · obtain ⟨V, Xa, iz, a1, a2, a3, a4, a5, a6, a7, a8⟩ := p2 (by omega)
    obtain ⟨W, b1, b2, b3, b4, b5, b6⟩ := q2 (by rw [e40]; omega)
    have hst := (hB.1.2.1.1 (X 40 0 20 - 1) (by omega) (by omega))
    rw [hm3] at a3 a4 a7 a8
    rw [h4] at a2 a3 a5 a8
    simp only [e40, e62] at b3 b4 b5 b6
    have r22 : 0 ≤ X 40 0 22 ∧ X 40 0 22 ≤ 80 := hR 40 0 22
    have r62 : 0 ≤ X 62 0 (X 40 0 20 - 1) ∧ X 62 0 (X 40 0 20 - 1) ≤ 80 := hR 62 0 _
    rw [e40] at b2
    have f22 : X2 40 0 22 = X 62 0 (X 40 0 20 - 1) := by omega
    have fiz : iz = X 62 0 (X 40 0 20 - 1) - 1 := by omega
    -- both begin with a mark less
    have hlo : ∀ κ, 40 ≤ κ → κ ≠ 40 → W κ = X κ := fun κ hk hn => (b1.fn κ (fun j hj => by
      have := fc_ge κ j
      simp only [List.mem_cons, List.not_mem_nil, or_false] at hj
      have h9 : 41 * 100 ≤ κ * 100 := by omega
      omega)).trans (hi κ hk)
    have w13 : W 40 0 13 = X 40 0 13 := (b1 40 0 13 (show 4014 ∉ _ by decide)).trans (by rw [e40])
    have w22 : W 40 0 22 = X 40 0 22 := (b1 40 0 22 (show 4023 ∉ _ by decide)).trans (by rw [e40])
    have hRV : RB (cnt 26) V Y ln X := hB.1.cc (a1 0 0 3 (show 4 ∉ _ by decide)) (a1.arr 16 (by decide +kernel) (by decide)) (a1.arr 27 (by decide +kernel) (by decide)) (a1.arr 31 (by decide +kernel) (by decide)) (fun n => a1 28 n 1 (show 2802 ∉ _ by decide)) (fun n => a1 28 n 2 (show 2803 ∉ _ by decide))
    have hl : lnM W = lnM X := by
      funext a b
      unfold lnM
      rw [hlo 46 (by decide) (by decide), hlo 55 (by decide) (by decide)]
    have hrn : rN V Y W := by
      obtain ⟨n1, n2⟩ := hRV.2.1
      refine ⟨fun m m0 m1 => ?_, fun n n0 n1' => ?_⟩
      · rw [hlo 62 (by decide) (by decide), w22]
        exact n1 m m0 (by omega)
      · have h9 := n2 n n0 (by omega)
        unfold nOK at *
        rw [hl, hlo 57 (by decide) (by decide), hlo 64 (by decide) (by decide), hlo 65 (by decide) (by decide), hlo 66 (by decide) (by decide), hlo 67 (by decide) (by decide), hlo 68 (by decide) (by decide)]
        exact h9
    have hRW : RB (cnt 26) V Y ln W := RB_rn hRV hrn rfl rfl rfl w13 w22 (fun κ hκ => by
      simp only [List.mem_cons, List.not_mem_nil, or_false] at hκ
      exact hlo κ (by omega) (by omega))
    have hfc : fcM W = fcM X := by
      funext a
      unfold fcM
      rw [hlo 44 (by decide) (by decide), hlo 55 (by decide) (by decide)]
    have hj : (X 40 0 22 - 1 - iz).toNat = (X 40 0 22 - X2 40 0 22).toNat := by omega
    rw [hj] at a2
    have hu := RB_undo (M := W) w22 hRW (fun n n0 n1 => ⟨by rw [hlo 67 (by decide) (by decide)]; have r67 : -1 ≤ X 67 0 n ∧ X 67 0 n ≤ 11 := hR 67 0 n; omega, fun n2 => by
      rw [hlo 67 (by decide) (by decide)] at n2
      rw [hlo 64 (by decide) (by decide), hlo 65 (by decide) (by decide), w13, hfc]
      obtain ⟨c1, c2, c3⟩ := (hMI.2.2.2.1 n n0 n1).1 n2
      exact ⟨(hR 64 0 n).1, c1, (hR 65 0 n).1, c2⟩⟩) (fun y => by rw [hfc]; exact (hR 44 0 _).2) hLn (X 40 0 22 - X2 40 0 22).toNat Xa X2 Y1 (by omega) (fun m m0 m1 => by
      rw [hlo 62 (by decide) (by decide)]
      have := hst.2.2 m m0 (by omega)
      omega) a2 b6
    refine ⟨⟨?_, ?_⟩, by omega⟩
    · have k1 : RB (cnt 26) X1 Y1 ln X2 := hu.1.cc (a6 0 0 3 (show 4 ∉ _ by decide)) (a6.arr 16 (by decide +kernel) (by decide)) (a6.arr 27 (by decide +kernel) (by decide)) (a6.arr 31 (by decide +kernel) (by decide)) (fun n => a6 28 n 1 (show 2802 ∉ _ by decide)) (fun n => a6 28 n 2 (show 2803 ∉ _ by decide))
      exact k1.mdl hG (by decide)
    · rw [hG 29 0 1 (show 2902 ∉ _ by decide), a7, f22]
      exact hst.1
/-! types -/
theorem J_word {z z2 w on : Int} (h : RC cnt X Y ln) (hMI : MInv X) (hR : Rng X) (hR1 : Rng X1) (hLn : LnL ln) (hN9 : 0 ≤ cnt 25 ∧ 0 ≤ cnt 26) (hF : Frm [300] X X1) (p : ((0 ≤ w ∧ w < 16 ∧ z = X 3 0 w ∧ X1 3 0 w = on) ∨ (¬ (0 ≤ w ∧ w < 16) ∧ z = -1 ∧ X1 3 0 w = X 3 0 w)) ∧ ∀ y, y ≠ w → X1 3 0 y = X 3 0 y) (hG : Frm [4001, 4200] X1 X2) (hM2 : MInv X2) (q : ((0 ≤ w ∧ w < 16 ∧ z2 = 1 - X1 42 0 w ∧ X2 42 0 w = 1 - on) ∨ (¬ (0 ≤ w ∧ w < 16) ∧ z2 = -1 ∧ X2 42 0 w = X1 42 0 w)) ∧ ∀ y, y ≠ w → X2 42 0 y = X1 42 0 y) : RC cnt X2 Y ln ∧ z = z2 := by
  obtain ⟨⟨hT, hM, hW, hC, hf⟩, hB, hK, hS, h6, hN⟩ := id h
  have hw := rW_word hW hF p.1 p.2 hG q.1 q.2 rfl
  exact ⟨⟨⟨(hT.frm hF (by decide)).frm hG (by decide), (hM.frm hF (by decide)).frm hG (by decide), hw.1, (hC.frm hF (by decide)).frm hG (by decide), (hf.frm hF (by decide)).frm hG (by decide)⟩, (hB.cls (N := []) hF Frm.rf (by decide) (by decide) (by decide)).mdl hG (by decide) (by decide), (hK.frm (N := []) hF Frm.rf (by decide) (by decide) (Int.le_refl _)).frm (N := []) hG Frm.rf (by decide) (by decide) (Int.le_refl _), (hS.frm (N := []) hF Frm.rf (by decide) (by decide)).frm (N := []) hG Frm.rf (by decide) (by decide), h6, (hN.frm hF (by decide)).frm hG (by decide)⟩, hw.2⟩
theorem J_shut {z z2 t k on : Int} (h : RC cnt X Y ln) (hMI : MInv X) (hR : Rng X) (hR1 : Rng X1) (hLn : LnL ln) (hN9 : 0 ≤ cnt 25 ∧ 0 ≤ cnt 26) (hF : Frm [2300] X X1) (p : ((0 ≤ t ∧ t < X 0 0 1 ∧ 0 ≤ k ∧ k < X 19 t 1 ∧ z = X 23 t k ∧ X1 23 t k = on) ∨ (¬ (0 ≤ t ∧ t < X 0 0 1 ∧ 0 ≤ k ∧ k < X 19 t 1) ∧ z = -1 ∧ X1 23 t k = X 23 t k)) ∧ ∀ y j, ¬ (y = t ∧ j = k) → X1 23 y j = X 23 y j) (hG : Frm [4001, 4800] X1 X2) (hM2 : MInv X2) (q : ((0 ≤ t ∧ t < X1 40 0 2 ∧ 0 ≤ k ∧ k < X1 44 0 t ∧ z2 = X1 48 0 (5 * t + k) ∧ X2 48 0 (5 * t + k) = on) ∨ (¬ (0 ≤ t ∧ t < X1 40 0 2 ∧ 0 ≤ k ∧ k < X1 44 0 t) ∧ z2 = -1 ∧ X2 48 0 (5 * t + k) = X1 48 0 (5 * t + k))) ∧ ∀ y, y ≠ 5 * t + k → X2 48 0 y = X1 48 0 y) : RC cnt X2 Y ln ∧ z = z2 := by
  obtain ⟨⟨hT, hM, hW, hC, hf⟩, hB, hK, hS, h6, hN⟩ := id h
  have hw := rF_shut hT hf hF p.1 p.2 hG q.1 q.2 rfl hR
  exact ⟨⟨⟨(hT.frm hF (by decide)).frm hG (by decide), (hM.frm hF (by decide)).frm hG (by decide), (hW.frm hF (by decide)).frm hG (by decide), (hC.frm hF (by decide)).frm hG (by decide), hw.1⟩, (hB.cls (N := []) hF Frm.rf (by decide) (by decide) (by decide)).mdl hG (by decide) (by decide), (hK.frm (N := []) hF Frm.rf (by decide) (by decide) (Int.le_refl _)).frm (N := []) hG Frm.rf (by decide) (by decide) (Int.le_refl _), (hS.frm (N := []) hF Frm.rf (by decide) (by decide)).frm (N := []) hG Frm.rf (by decide) (by decide), h6, (hN.frm hF (by decide)).frm hG (by decide)⟩, hw.2⟩
theorem J_unchecked {z z2 t : Int} (h : RC cnt X Y ln) (hMI : MInv X) (hR : Rng X) (hR1 : Rng X1) (hLn : LnL ln) (hN9 : 0 ≤ cnt 25 ∧ 0 ≤ cnt 26) (hF : Frm [1907] X X1) (p : ((0 ≤ t ∧ t < X 0 0 1 ∧ z = X 19 t 6 ∧ X1 19 t 6 = 0) ∨ (¬ (0 ≤ t ∧ t < X 0 0 1) ∧ z = -1 ∧ X1 19 t 6 = X 19 t 6)) ∧ ∀ y, y ≠ t → X1 19 y 6 = X 19 y 6) (hG : Frm [4001, 4900] X1 X2) (hM2 : MInv X2) (q : ((0 ≤ t ∧ t < X1 40 0 2 ∧ z2 = X1 49 0 t ∧ X2 49 0 t = 0) ∨ (¬ (0 ≤ t ∧ t < X1 40 0 2) ∧ z2 = -1 ∧ X2 49 0 t = X1 49 0 t)) ∧ ∀ y, y ≠ t → X2 49 0 y = X1 49 0 y) : RC cnt X2 Y ln ∧ z = z2 := by
  obtain ⟨⟨hT, hM, hW, hC, hf⟩, hB, hK, hS, h6, hN⟩ := id h
  have hw := rC_unchecked hT hC hF p.1 p.2 hG q.1 q.2 hR
  refine ⟨⟨⟨(hT.frm hF (by decide)).frm hG (by decide), (hM.frm hF (by decide)).frm hG (by decide), (hW.frm hF (by decide)).frm hG (by decide), hw.1, (hf.frm hF (by decide)).frm hG (by decide)⟩, (hB.cls (N := []) hF Frm.rf (by decide) (by decide) (by decide)).mdl hG (by decide) (by decide), ?_, (hS.frm (N := []) hF Frm.rf (by decide) (by decide)).frm (N := []) hG Frm.rf (by decide) (by decide), h6, (hN.frm hF (by decide)).frm hG (by decide)⟩, hw.2⟩
  have k1 := hK.frm (N := []) hF Frm.rf (by decide) (by decide) (Int.le_refl _)
  intro t' q' t0 t1 q0 q1
  have e2 : X2 40 0 2 = X1 40 0 2 := hG 40 0 2 (show 4003 ∉ _ by decide)
  have hlt : q' < X1 49 0 t' := by
    by_cases e : t' = t
    · rw [e] at q1 ⊢
      rcases q.1 with ⟨-, -, -, q5⟩ | ⟨-, -, q5⟩ <;> omega
    · rw [← q.2 t' e]
      exact q1
  obtain ⟨g, g1, g2, g3, g4, g5, g6⟩ := k1 t' q' t0 (by omega) q0 hlt
  refine ⟨g, g1, g2, ?_, ?_, ?_, ?_⟩
  · rw [hG 25 g 0 (show 2501 ∉ _ by decide), hG 50 0 _ (show 5000 ∉ _ by decide)]; exact g3
  · rw [hG 25 g 1 (show 2502 ∉ _ by decide), hG 51 0 _ (show 5100 ∉ _ by decide)]; exact g4
  · rw [hG 25 g 2 (show 2503 ∉ _ by decide), hG 52 0 _ (show 5200 ∉ _ by decide)]; exact g5
  · rw [hG 25 g 3 (show 2504 ∉ _ by decide), hG 53 0 _ (show 5300 ∉ _ by decide)]; exact g6
theorem J_check {z z2 t kd a b v : Int} (h : RC cnt X Y ln) (hMI : MInv X) (hR : Rng X) (hR1 : Rng X1) (hLn : LnL ln) (hN9 : 0 ≤ cnt 25 ∧ 0 ≤ cnt 26) (hF : Frm [2501, 2502, 2503, 2504, 1907] X X1) (hH : Frm [2400] Y Y1) (hc : ∀ k, cnt k ≤ cnt1 k) (hl : ∀ i, 0 ≤ i → i < cnt 26 → ln1 i = ln i) (hLn1 : LnL ln1) (p : ((¬ (0 ≤ t ∧ t < X 0 0 1) ∧ z = -1 ∧ X1 19 t 6 = X 19 t 6) ∨ (0 ≤ t ∧ t < X 0 0 1 ∧ ¬ (0 ≤ kd ∧ kd < 6 ∧ 0 ≤ a ∧ a < 5 ∧ 0 ≤ b ∧ b < 5) ∧ z = -2 ∧ X1 19 t 6 = X 19 t 6) ∨ (0 ≤ t ∧ t < X 0 0 1 ∧ (0 ≤ kd ∧ kd < 6 ∧ 0 ≤ a ∧ a < 5 ∧ 0 ≤ b ∧ b < 5) ∧ 4 ≤ X 19 t 6 ∧ z = -4 ∧ X1 19 t 6 = X 19 t 6) ∨ (0 ≤ t ∧ t < X 0 0 1 ∧ (0 ≤ kd ∧ kd < 6 ∧ 0 ≤ a ∧ a < 5 ∧ 0 ≤ b ∧ b < 5) ∧ X 19 t 6 ≤ 3 ∧ z = X 19 t 6 + 1 ∧ X1 19 t 6 = X 19 t 6 + 1)) ∧ (∀ y, y ≠ t → X1 19 y 6 = X 19 y 6) ∧ (0 ≤ z → ∃ g, Y1 24 t (X 19 t 6) = some g ∧ cnt 25 ≤ g ∧ g < cnt1 25 ∧ X1 25 g 0 = kd ∧ X1 25 g 1 = a ∧ X1 25 g 2 = b ∧ X1 25 g 3 = v) ∧ (∀ g, 0 ≤ g → g < cnt 25 → ∀ j, X1 25 g j = X 25 g j) ∧ ∀ y j, ¬ (0 ≤ z ∧ y = t ∧ j = X 19 t 6) → Y1 24 y j = Y 24 y j) (hG : Frm [4001, 5000, 5100, 5200, 5300, 4900] X1 X2) (hM2 : MInv X2) (q : ((¬ (0 ≤ t ∧ t < X1 40 0 2) ∧ z2 = -1 ∧ X2 49 0 t = X1 49 0 t) ∨ (0 ≤ t ∧ t < X1 40 0 2 ∧ ¬ (0 ≤ kd ∧ kd < 6 ∧ 0 ≤ a ∧ a < 5 ∧ 0 ≤ b ∧ b < 5) ∧ z2 = -2 ∧ X2 49 0 t = X1 49 0 t) ∨ (0 ≤ t ∧ t < X1 40 0 2 ∧ (0 ≤ kd ∧ kd < 6 ∧ 0 ≤ a ∧ a < 5 ∧ 0 ≤ b ∧ b < 5) ∧ 4 ≤ X1 49 0 t ∧ z2 = -4 ∧ X2 49 0 t = X1 49 0 t) ∨ (0 ≤ t ∧ t < X1 40 0 2 ∧ (0 ≤ kd ∧ kd < 6 ∧ 0 ≤ a ∧ a < 5 ∧ 0 ≤ b ∧ b < 5) ∧ X1 49 0 t ≤ 3 ∧ z2 = X1 49 0 t + 1 ∧ X2 49 0 t = X1 49 0 t + 1)) ∧ (∀ y, y ≠ t → X2 49 0 y = X1 49 0 y) ∧ (0 ≤ z2 → X2 50 0 (4 * t + X1 49 0 t) = kd ∧ X2 51 0 (4 * t + X1 49 0 t) = a ∧ X2 52 0 (4 * t + X1 49 0 t) = b ∧ X2 53 0 (4 * t + X1 49 0 t) = v) ∧ ∀ y, ¬ (0 ≤ z2 ∧ y = (4 * t + X1 49 0 t)) → X2 50 0 y = X1 50 0 y ∧ X2 51 0 y = X1 51 0 y ∧ X2 52 0 y = X1 52 0 y ∧ X2 53 0 y = X1 53 0 y) : RC cnt1 X2 Y1 ln1 ∧ z = z2 := by
  obtain ⟨⟨hT, hM, hW, hC, hf⟩, hB, hK, hS, h6, hN⟩ := id h
  obtain ⟨p, p2, p3, p4, p5⟩ := p
  obtain ⟨q, q2, q3, q4⟩ := q
  have hw := rC_check hT hC hF p p2 hG q q2 hR
  have hT2 := (hT.frm hF (by decide)).frm hG (by decide)
  refine ⟨⟨⟨hT2, (hM.frm hF (by decide)).frm hG (by decide), (hW.frm hF (by decide)).frm hG (by decide), hw.1, (hf.frm hF (by decide)).frm hG (by decide)⟩, ?_, ?_, (hS.frm hF hH (by decide) (by decide)).frm (N := []) hG Frm.rf (by decide) (by decide), h6.frm hH (by decide), (hN.frm hF (by decide)).frm hG (by decide)⟩, hw.2⟩
  · have k1 := hB.cls hF hH (by decide) (by decide) (by decide)
    exact RBn.mdl (⟨k1.1.grow (hc 26) hl, k1.2⟩ : RBn (cnt1 26) X1 Y1 ln1) hG (by decide) (by decide)
  · have hi := hF.hi (by decide)
    have e40 := hi 40 (by decide)
    have e49 := hi 49 (by decide)
    have e50 := hi 50 (by decide)
    have e51 := hi 51 (by decide)
    have e52 := hi 52 (by decide)
    have e53 := hi 53 (by decide)
    have e2 : X2 40 0 2 = X1 40 0 2 := hG 40 0 2 (show 4003 ∉ _ by decide)
    unfold rT at hT
    have r19 : 0 ≤ X 19 t 6 ∧ X 19 t 6 ≤ 4 := hR 19 t 6
    have c25 := hc 25
    have hq8 : 0 ≤ z2 → 0 ≤ t ∧ t < X 0 0 1 ∧ X1 49 0 t ≤ 3 := fun w => by
      have hz9 := hw.2
      clear p2 p3 p4 p5 q2 q3 q4
      omega
    intro t' q' t0 t1 q0 q1
    by_cases hnew : 0 ≤ z ∧ t' = t ∧ q' = X 19 t 6
    · obtain ⟨z0, et, eq⟩ := hnew
      obtain ⟨g, g1, g2, g3, g4, g5, g6, g7⟩ := p3 z0
      obtain ⟨m1, m2, m3, m4⟩ := q3 (by omega)
      have ht : 0 ≤ t ∧ t < X 0 0 1 := by omega
      have h49 : X 49 0 t = X 19 t 6 := (hC t ht.1 ht.2).symm
      rw [e49, h49] at m1 m2 m3 m4
      subst et
      subst eq
      refine ⟨g, g1, ⟨by omega, g3⟩, ?_, ?_, ?_, ?_⟩
      · rw [hG 25 g 0 (show 2501 ∉ _ by decide), g4, m1]
      · rw [hG 25 g 1 (show 2502 ∉ _ by decide), g5, m2]
      · rw [hG 25 g 2 (show 2503 ∉ _ by decide), g6, m3]
      · rw [hG 25 g 3 (show 2504 ∉ _ by decide), g7, m4]
    · have hlt : q' < X 49 0 t' := by
        by_cases e : t' = t
        · subst e
          have ht : 0 ≤ t' ∧ t' < X 0 0 1 := by rw [e2, e40] at t1; omega
          have h49 : X 49 0 t' = X 19 t' 6 := (hC t' ht.1 ht.2).symm
          rw [e49, e40] at q
          have hz9 := hw.2
          rcases q with q | q | q | q <;> omega
        · rw [q2 t' e, e49] at q1
          exact q1
      obtain ⟨g, g1, g2, g3, g4, g5, g6⟩ := hK t' q' t0 (by rw [e2, e40] at t1; exact t1) q0 hlt
      have hne : ¬ (0 ≤ z2 ∧ 4 * t' + q' = 4 * t + X1 49 0 t) := by
        rintro ⟨w1, w2⟩
        have h8 := hq8 w1
        rw [e49] at w2 h8
        have h49 : X 49 0 t = X 19 t 6 := (hC t h8.1 h8.2.1).symm
        have h50 : X 49 0 t' ≤ 4 := (hR 49 0 t').2
        have hz9 := hw.2
        clear p p2 p3 p4 p5 q q2 q3 q4
        exact hnew ⟨by omega, by omega, by omega⟩
      obtain ⟨m1, m2, m3, m4⟩ := q4 (4 * t' + q') hne
      refine ⟨g, by rw [p5 t' q' hnew]; exact g1, ⟨g2.1, by omega⟩, ?_, ?_, ?_, ?_⟩
      · rw [hG 25 g 0 (show 2501 ∉ _ by decide), p4 g g2.1 g2.2, m1, e50]; exact g3
      · rw [hG 25 g 1 (show 2502 ∉ _ by decide), p4 g g2.1 g2.2, m2, e51]; exact g4
      · rw [hG 25 g 2 (show 2503 ∉ _ by decide), p4 g g2.1 g2.2, m3, e52]; exact g5
      · rw [hG 25 g 3 (show 2504 ∉ _ by decide), p4 g g2.1 g2.2, m4, e53]; exact g6
theorem J_type {z z2 : Int} (h : RC cnt X Y ln) (hMI : MInv X) (hR : Rng X) (hR1 : Rng X1) (hLn : LnL ln) (hN9 : 0 ≤ cnt 25 ∧ 0 ≤ cnt 26) (hF : Frm [1901, 1902, 1907, 2000, 2100, 2200, 2300, 2] X X1) (hH : Frm [2400, 100] Y Y1) (hc : ∀ k, cnt k ≤ cnt1 k) (hl : ∀ i, 0 ≤ i → i < cnt 26 → ln1 i = ln i) (hLn1 : LnL ln1) (p : ((8 ≤ X 0 0 1 ∧ z = -4 ∧ X1 0 0 1 = X 0 0 1) ∨ (X 0 0 1 < 8 ∧ z = X 0 0 1 ∧ X1 0 0 1 = X 0 0 1 + 1 ∧ X1 19 (X 0 0 1) 1 = 0 ∧ X1 19 (X 0 0 1) 6 = 0)) ∧ (∀ y, y ≠ X 0 0 1 → X1 19 y = X 19 y ∧ X1 20 y = X 20 y ∧ X1 21 y = X 21 y ∧ X1 22 y = X 22 y ∧ X1 23 y = X 23 y) ∧ (∀ y, y ≠ X 0 0 1 → Y1 24 y = Y 24 y)) (hG : Frm [4001, 4400, 4900, 4003] X1 X2) (hM2 : MInv X2) (q : ((X1 40 0 2 = 8 ∧ z2 = -4 ∧ X2 40 0 2 = 8) ∨ (X1 40 0 2 < 8 ∧ z2 = X1 40 0 2 ∧ X2 40 0 2 = X1 40 0 2 + 1 ∧ X2 44 0 (X1 40 0 2) = 0 ∧ X2 49 0 (X1 40 0 2) = 0)) ∧ (∀ y, y ≠ X1 40 0 2 → X2 44 0 y = X1 44 0 y) ∧ ∀ y, y ≠ X1 40 0 2 → X2 49 0 y = X1 49 0 y) : RC cnt1 X2 Y1 ln1 ∧ z = z2 := by
  obtain ⟨⟨hT, hM, hW, hC, hf⟩, hB, hK, hS, h6, hN⟩ := id h
  obtain ⟨p, p2, p3⟩ := p
  obtain ⟨q, q2, q3⟩ := q
  have hw := r_type hT hC hf hF p p2 hG q q2 q3 hR
  have hi := hF.hi (by decide)
  have e40 := hi 40 (by decide)
  have e44 := hi 44 (by decide)
  have e45 := hi 45 (by decide)
  have e46 := hi 46 (by decide)
  have e49 := hi 49 (by decide)
  have hT0 := hT
  unfold rT at hT0
  have r2 : 0 ≤ X 40 0 2 ∧ X 40 0 2 ≤ 8 := hR 40 0 2
  rw [e40] at q q2 q3
  have hty : ∀ y, y < X 40 0 2 → X2 44 0 y = X 44 0 y := fun y hy => by rw [q2 y (by omega), e44]
  refine ⟨⟨⟨hw.1, (hM.frm hF (by decide)).frm hG (by decide), (hW.frm hF (by decide)).frm hG (by decide), hw.2.1, hw.2.2.1⟩, ⟨?_, ?_⟩, ?_, (hS.frm hF hH (by decide) (by decide)).frm (N := []) hG Frm.rf (by decide) (by decide), h6.frm hH (by decide), ?_⟩, hw.2.2.2⟩
  · have k1 : RB (cnt 26) X Y ln X1 := hB.1.m hi
    have k2 : RB (cnt1 26) X1 Y1 ln1 X2 := RB_keep k1 (KpN.of hF hH hG (by decide) (fun j => by rw [fc28]; simp; omega) (fun j => by rw [fc28]; simp; omega) (by decide)) (hc 26) hl hLn (hF 0 0 3 (show 4 ∉ _ by decide)) (hG 40 0 13 (show 4014 ∉ _ by decide)) (hG.arr 55 (by decide +kernel) (by decide)) (hG.arr 56 (by decide +kernel) (by decide)) (hF.arr 16 (by decide +kernel) (by decide)) (fun x => hH 15 x 0 (show 1501 ∉ _ by decide)) (hH.arr 17 (by decide +kernel) (by decide)) (fun y y0 y1 => by
      rw [e40] at y1
      have h9 := hMI.2.2.2.2.2 y y0 y1
      refine ⟨?_, fun k _ _ => ?_⟩
      · unfold fcM
        rw [hG.arr 55 (by decide +kernel) (by decide), hi 55 (by decide), hty _ h9, e44]
      · unfold lnM
        rw [hG.arr 55 (by decide +kernel) (by decide), hG.arr 46 (by decide +kernel) (by decide)]) (fun n n0 n1 n2 => by
      rw [e40] at n1
      rw [hi 67 (by decide)] at n2
      have h9 := (hMI.2.2.2.1 n n0 n1).1 n2
      rw [hi 64 (by decide), hi 65 (by decide), e40]
      unfold fcM
      rw [e44, hi 55 (by decide)]
      exact ⟨⟨(hR 64 0 n).1, h9.1⟩, (hR 65 0 n).1, h9.2.1⟩)
    exact k2.mdl hG (by decide)
  · rw [hG 29 0 1 (show 2902 ∉ _ by decide), hG 40 0 22 (show 4023 ∉ _ by decide), hF 29 0 1 (show 2902 ∉ _ by decide), e40]
    exact hB.2
  · intro t' q' t0 t1 q0 q1
    have hlt : t' < X 40 0 2 := by
      by_cases e : t' = X 40 0 2
      · rw [e] at q1
        omega
      · omega
    rw [q3 t' (by omega), e49] at q1
    obtain ⟨g, g1, g2, g3, g4, g5, g6⟩ := hK t' q' t0 hlt q0 q1
    have c25 := hc 25
    refine ⟨g, by rw [p3 t' (by omega)]; exact g1, ⟨g2.1, by omega⟩, ?_, ?_, ?_, ?_⟩
    · rw [hG 25 g 0 (show 2501 ∉ _ by decide), hF 25 g 0 (show 2501 ∉ _ by decide), hG 50 0 _ (show 5000 ∉ _ by decide), hi 50 (by decide)]; exact g3
    · rw [hG 25 g 1 (show 2502 ∉ _ by decide), hF 25 g 1 (show 2502 ∉ _ by decide), hG 51 0 _ (show 5100 ∉ _ by decide), hi 51 (by decide)]; exact g4
    · rw [hG 25 g 2 (show 2503 ∉ _ by decide), hF 25 g 2 (show 2503 ∉ _ by decide), hG 52 0 _ (show 5200 ∉ _ by decide), hi 52 (by decide)]; exact g5
    · rw [hG 25 g 3 (show 2504 ∉ _ by decide), hF 25 g 3 (show 2504 ∉ _ by decide), hG 53 0 _ (show 5300 ∉ _ by decide), hi 53 (by decide)]; exact g6
  · intro t' k k' t0 t1 k0 k1 k2
    rw [hG.arr 45 (by decide +kernel) (by decide), e45]
    by_cases e : t' = X 40 0 2
    · rw [e] at k2
      omega
    · rw [q2 t' e, e44] at k2
      exact hN t' k k' t0 (by omega) k0 k1 k2
theorem J_row {z z2 x k n : Int} (h : RC cnt X Y ln) (hMI : MInv X) (hR : Rng X) (hR1 : Rng X1) (hLn : LnL ln) (hN9 : 0 ≤ cnt 25 ∧ 0 ≤ cnt 26) (hF : Frm [2802, 2803, 2902, 2602, 2700] X X1) (hH : Frm [2801, 2804, 1700] Y Y1) (hc : ∀ k, cnt k ≤ cnt1 k) (hl : ∀ i, 0 ≤ i → i < cnt 26 → ln1 i = ln i) (hLn1 : LnL ln1) (p : ((¬ (0 ≤ x ∧ x < X 0 0 3 ∧ 0 ≤ k ∧ k < X 19 (tyo (Y 15 x 0)) 1) ∧ z = -1) ∨ ((0 ≤ x ∧ x < X 0 0 3 ∧ 0 ≤ k ∧ k < X 19 (tyo (Y 15 x 0)) 1) ∧ 12 < n ∧ z = -2) ∨ ((0 ≤ x ∧ x < X 0 0 3 ∧ 0 ≤ k ∧ k < X 19 (tyo (Y 15 x 0)) 1) ∧ n ≤ 12 ∧ X 21 (tyo (Y 15 x 0)) k < 3 ∧ z = -14) ∨ ((0 ≤ x ∧ x < X 0 0 3 ∧ 0 ≤ k ∧ k < X 19 (tyo (Y 15 x 0)) 1) ∧ n ≤ 12 ∧ 3 ≤ X 21 (tyo (Y 15 x 0)) k ∧ n < -1 ∧ z = -13) ∨ ((0 ≤ x ∧ x < X 0 0 3 ∧ 0 ≤ k ∧ k < X 19 (tyo (Y 15 x 0)) 1) ∧ n ≤ 12 ∧ 3 ≤ X 21 (tyo (Y 15 x 0)) k ∧ -1 ≤ n ∧ 80 ≤ X 29 0 1 ∧ z = -4) ∨ ((0 ≤ x ∧ x < X 0 0 3 ∧ 0 ≤ k ∧ k < X 19 (tyo (Y 15 x 0)) 1) ∧ n ≤ 12 ∧ 3 ≤ X 21 (tyo (Y 15 x 0)) k ∧ -1 ≤ n ∧ X 29 0 1 ≤ 79 ∧ z = 1)) ∧ (∀ g, 0 ≤ g → g < cnt 26 → X1 27 g = X 27 g) ∧ (z < 0 → Frm [2602, 2700] X X1 ∧ Y1 = Y) ∧ (z = 1 → eNoteC X X1 Y Y1 (some x) k (X 16 x k) (Y 17 x k) ∧ (∀ p q, ¬ (p = x ∧ q = k) → Y1 17 p q = Y 17 p q) ∧ (∀ p q, X1 16 p q = X 16 p q) ∧ ((n = -1 ∧ Y1 17 x k = none) ∨ (0 ≤ n ∧ ∃ g, Y1 17 x k = some g ∧ cnt 26 ≤ g ∧ g < cnt1 26 ∧ ln1 g = n ∧ ∀ i, X1 27 g i = 0)))) (hG : Frm [4001, 6400, 6500, 6700, 6800, 6600, 4023, 5600, 6000, 5700, 5800, 5900] X1 X2) (hM2 : MInv X2) (q : ((¬ (0 ≤ x ∧ x < X1 40 0 13 ∧ 0 ≤ k ∧ k < X1 44 0 (X1 55 0 x)) ∧ z2 = -1) ∨ ((0 ≤ x ∧ x < X1 40 0 13 ∧ 0 ≤ k ∧ k < X1 44 0 (X1 55 0 x)) ∧ 12 < n ∧ z2 = -2) ∨ ((0 ≤ x ∧ x < X1 40 0 13 ∧ 0 ≤ k ∧ k < X1 44 0 (X1 55 0 x)) ∧ n ≤ 12 ∧ X1 46 0 (5 * X1 55 0 x + k) < 3 ∧ z2 = -14) ∨ ((0 ≤ x ∧ x < X1 40 0 13 ∧ 0 ≤ k ∧ k < X1 44 0 (X1 55 0 x)) ∧ n ≤ 12 ∧ 3 ≤ X1 46 0 (5 * X1 55 0 x + k) ∧ n < -1 ∧ z2 = -13) ∨ ((0 ≤ x ∧ x < X1 40 0 13 ∧ 0 ≤ k ∧ k < X1 44 0 (X1 55 0 x)) ∧ n ≤ 12 ∧ 3 ≤ X1 46 0 (5 * X1 55 0 x + k) ∧ -1 ≤ n ∧ (0 < X1 40 0 20 ∧ X1 40 0 22 = 80) ∧ z2 = -4) ∨ ((0 ≤ x ∧ x < X1 40 0 13 ∧ 0 ≤ k ∧ k < X1 44 0 (X1 55 0 x)) ∧ n ≤ 12 ∧ 3 ≤ X1 46 0 (5 * X1 55 0 x + k) ∧ -1 ≤ n ∧ (X1 40 0 20 = 0 ∨ X1 40 0 22 ≤ 79) ∧ z2 = 1)) ∧ (z2 < 0 → Frm [4001] X1 X2) ∧ (z2 = 1 → ∃ r, (eNoteM X1 X2 x k (if 3 ≤ X1 46 0 (5 * X1 55 0 x + k) then X1 56 0 (5 * x + k) else -1) (-1) (X1 56 0 (5 * x + k)) ∧ X2 56 0 (5 * x + k) = r ∧ ∀ p, p ≠ 5 * x + k → X2 56 0 p = X1 56 0 p) ∧ ((n < 0 ∧ r = -1 ∧ X2 57 = X1 57 ∧ X2 58 = X1 58 ∧ X2 59 = X1 59) ∨ (0 ≤ n ∧ 0 ≤ r ∧ r ≤ 399 ∧ nwM X1 X2 (X1 46 0 (5 * X1 55 0 x + k)) n r)))) : RC cnt1 X2 Y1 ln1 ∧ z = z2 := by
  obtain ⟨⟨hT, hM, hW, hC, hf⟩, hB, hK, hS, h6, hN⟩ := id h
  obtain ⟨p, p0, p1, p2⟩ := p
  obtain ⟨q, q1, q2⟩ := q
  have hi := hF.hi (by decide)
  have e40 := hi 40 (by decide)
  have e44 := hi 44 (by decide)
  have e46 := hi 46 (by decide)
  have e55 := hi 55 (by decide)
  simp only [e40, e44, e46, e55] at q
  unfold rM at hM
  have h3 := hB.1.1.1
  have h4 := hB.2
  have hE := hMI.2.2.2.2.1.1
  have r22 : 0 ≤ X 40 0 22 ∧ X 40 0 22 ≤ 80 := hR 40 0 22
  have r20 : 0 ≤ X 40 0 20 ∧ X 40 0 20 ≤ 4 := hR 40 0 20
  have hz : z = z2 ∧ (z = 1 → (0 ≤ x ∧ x < X 40 0 13 ∧ 0 ≤ k ∧ k < X 44 0 (X 55 0 x)) ∧ 3 ≤ X 46 0 (5 * X 55 0 x + k) ∧ -1 ≤ n ∧ n ≤ 12) ∧ (z ≠ 1 → z < 0) := by
    by_cases hx : 0 ≤ x ∧ x < X 40 0 13
    · obtain ⟨b1, b2, b3, b4⟩ := bridge hB.1.1 hT hf hMI hR hx.1 hx.2
      rw [b1] at p
      by_cases hk : 0 ≤ k ∧ k < X 44 0 (X 55 0 x)
      · have b5 := (b4 k hk.1 hk.2).2.1
        rcases p with p | p | p | p | p | p <;> first | (clear q; exfalso; omega) | (rcases q with q | q | q | q | q | q <;> first | (exfalso; omega) | (refine ⟨?_, fun u => ⟨?_, ?_, ?_, ?_⟩, fun u => ?_⟩ <;> omega))
      · rcases p with p | p | p | p | p | p <;> first | (clear q; exfalso; omega) | (rcases q with q | q | q | q | q | q <;> first | (exfalso; omega) | (refine ⟨?_, fun u => ⟨?_, ?_, ?_, ?_⟩, fun u => ?_⟩ <;> omega))
    · rcases p with p | p | p | p | p | p <;> first | (clear q; exfalso; omega) | (rcases q with q | q | q | q | q | q <;> first | (exfalso; omega) | (refine ⟨?_, fun u => ⟨?_, ?_, ?_, ?_⟩, fun u => ?_⟩ <;> omega))
  refine ⟨RC_of h hF hH hG (by decide) (by decide) (by decide) (hc 25) ?_, hz.1⟩
  have hmm : RB (cnt 26) X Y ln X1 := hB.1.m hi
  by_cases h1 : z = 1
  · obtain ⟨hp, hl3, hn1, hn2⟩ := hz.2.1 h1
    obtain ⟨a1, a3, a4, a5⟩ := p2 h1
    obtain ⟨r, ⟨b1, b2, b3⟩, b4⟩ := q2 (by omega)
    rcases b4 with ⟨n1, n2, n3, n4, n5⟩ | ⟨n1, n2, n3, n4⟩
    · rcases a5 with ⟨-, a6⟩ | ⟨a6, -⟩
      · refine J_rw (g0 := 0) hB.1 h4 hM hR hp hl3 hF (by decide) (by decide) hH (by decide) a1 a6 a3 a4 hG (by decide) (by decide) b1 b2 b3 ⟨fun _ => by omega, fun _ => rfl⟩ ⟨hN9.2, hc 26⟩ (rR_same hmm.2.2 p0 hl (fun g r l _ => ⟨by rw [n3], by rw [n4], fun i _ _ => by rw [n5]⟩) hLn) (fun n _ _ _ => by rw [n3]) (Or.inl rfl)
      · omega
    · rcases a5 with ⟨a6, -⟩ | ⟨-, g, a6, a7, a8, a9, a10⟩
      · omega
      · have hfr := nwM.fresh n4 hmm.2.1
        obtain ⟨m1, m2, m3, m4, m5, m6, m7⟩ := n4
        refine J_rw (g0 := g) hB.1 h4 hM hR hp hl3 hF (by decide) (by decide) hH (by decide) a1 a6 a3 a4 hG (by decide) (by decide) b1 b2 b3 ⟨fun w => (by cases w), fun w => by omega⟩ ⟨hN9.2, hc 26⟩ (rR_same hmm.2.2 p0 hl (fun g r' l hv => ?_) hLn) (fun n n0 n1 _ => (m5 _ (m2 n n0 n1)).1) (Or.inr (Or.inr ⟨rfl, ⟨a7, a8⟩, ⟨n2, n3⟩, hfr, m3, by rw [m4]; exact a9, fun i i0 i1 => ?_⟩))
        · have hne := hfr g r' l hv
          refine ⟨(m5 r' hne).1, (m5 r' hne).2, fun i i0 i1 => m7 _ (fun w => ?_)⟩
          omega
        · have l1 := hLn1 g
          rw [a10, m6 i i0 (by omega)]
  · obtain ⟨a1, a2⟩ := p1 (hz.2.2 h1)
    have b1 := q1 (by have := hz.2.2 h1; omega)
    rw [a2]
    have k1 : RB (cnt 26) X1 Y ln X1 := hmm.c2 (a1 0 0 3 (show 4 ∉ _ by decide)) (a1.arr 16 (by decide +kernel) (by decide)) p0 (a1.arr 31 (by decide +kernel) (by decide)) (fun n => a1 28 n 1 (show 2802 ∉ _ by decide)) (fun n => a1 28 n 2 (show 2803 ∉ _ by decide))
    have k2 : RBn (cnt1 26) X1 Y ln1 := ⟨k1.grow (hc 26) hl, by rw [a1 29 0 1 (show 2902 ∉ _ by decide), e40]; exact h4⟩
    exact k2.mdl b1 (by decide) (by decide)
theorem J_field {z z2 t name lane v : Int} (h : RC cnt X Y ln) (hMI : MInv X) (hR : Rng X) (hR1 : Rng X1) (hLn : LnL ln) (hN9 : 0 ≤ cnt 25 ∧ 0 ≤ cnt 26) (hF : Frm [1902, 2000, 2100, 2200, 2300, 1600] X X1) (hH : Frm [1700] Y Y1) (p : ((¬ (0 ≤ t ∧ t < X 0 0 1) ∧ z = -1 ∧ X1 19 t 1 = X 19 t 1) ∨ (0 ≤ t ∧ t < X 0 0 1 ∧ ¬ (0 ≤ name ∧ name < 20 ∧ nmAt (X 20 t) name (X 19 t 1).toNat = -1 ∧ 0 ≤ lane ∧ lane < 6) ∧ z = -2 ∧ X1 19 t 1 = X 19 t 1) ∨ (0 ≤ t ∧ t < X 0 0 1 ∧ (0 ≤ name ∧ name < 20 ∧ nmAt (X 20 t) name (X 19 t 1).toNat = -1 ∧ 0 ≤ lane ∧ lane < 6) ∧ 0 < X 29 0 3 ∧ z = -3 ∧ X1 19 t 1 = X 19 t 1) ∨ (0 ≤ t ∧ t < X 0 0 1 ∧ (0 ≤ name ∧ name < 20 ∧ nmAt (X 20 t) name (X 19 t 1).toNat = -1 ∧ 0 ≤ lane ∧ lane < 6) ∧ X 29 0 3 = 0 ∧ 5 ≤ X 19 t 1 ∧ z = -4 ∧ X1 19 t 1 = X 19 t 1) ∨ (0 ≤ t ∧ t < X 0 0 1 ∧ (0 ≤ name ∧ name < 20 ∧ nmAt (X 20 t) name (X 19 t 1).toNat = -1 ∧ 0 ≤ lane ∧ lane < 6) ∧ X 29 0 3 = 0 ∧ X 19 t 1 ≤ 4 ∧ z = X 19 t 1 ∧ X1 19 t 1 = X 19 t 1 + 1)) ∧ (0 ≤ z → X1 20 t z = name ∧ X1 21 t z = lane ∧ X1 22 t z = (if lane = 0 then v else -1) ∧ X1 23 t z = 0) ∧ (∀ y j, ¬ (0 ≤ z ∧ y = t ∧ j = z) → X1 20 y j = X 20 y j ∧ X1 21 y j = X 21 y j ∧ X1 22 y j = X 22 y j ∧ X1 23 y j = X 23 y j) ∧ (∀ y, y ≠ t → X1 19 y 1 = X 19 y 1) ∧ (0 ≤ z → (∀ y, 0 ≤ y → y < X 0 0 3 → Y 15 y 0 = some t → X1 16 y z = (if lane = 0 then v else -1) ∧ Y1 17 y z = none) ∧ ∀ y j, 0 ≤ y → y < X 0 0 3 → ¬ (Y 15 y 0 = some t ∧ j = z) → X1 16 y j = X 16 y j ∧ Y1 17 y j = Y 17 y j) ∧ (z < 0 → X1 = X ∧ Y1 = Y)) (hG : Frm [4001, 4500, 4600, 4700, 4800, 4400, 5600] X1 X2) (hM2 : MInv X2) (q : ((¬ (0 ≤ t ∧ t < X1 40 0 2) ∧ z2 = -1 ∧ X2 44 0 t = X1 44 0 t) ∨ (0 ≤ t ∧ t < X1 40 0 2 ∧ ¬ (0 ≤ name ∧ name < 20 ∧ nmAt (fun j => X1 45 0 (5 * t + j)) name (X1 44 0 t).toNat = -1 ∧ 0 ≤ lane ∧ lane < 6) ∧ z2 = -2 ∧ X2 44 0 t = X1 44 0 t) ∨ (0 ≤ t ∧ t < X1 40 0 2 ∧ (0 ≤ name ∧ name < 20 ∧ nmAt (fun j => X1 45 0 (5 * t + j)) name (X1 44 0 t).toNat = -1 ∧ 0 ≤ lane ∧ lane < 6) ∧ 0 < X1 40 0 20 ∧ z2 = -3 ∧ X2 44 0 t = X1 44 0 t) ∨ (0 ≤ t ∧ t < X1 40 0 2 ∧ (0 ≤ name ∧ name < 20 ∧ nmAt (fun j => X1 45 0 (5 * t + j)) name (X1 44 0 t).toNat = -1 ∧ 0 ≤ lane ∧ lane < 6) ∧ X1 40 0 20 = 0 ∧ 5 ≤ X1 44 0 t ∧ z2 = -4 ∧ X2 44 0 t = X1 44 0 t) ∨ (0 ≤ t ∧ t < X1 40 0 2 ∧ (0 ≤ name ∧ name < 20 ∧ nmAt (fun j => X1 45 0 (5 * t + j)) name (X1 44 0 t).toNat = -1 ∧ 0 ≤ lane ∧ lane < 6) ∧ X1 40 0 20 = 0 ∧ X1 44 0 t ≤ 4 ∧ z2 = X1 44 0 t ∧ X2 44 0 t = X1 44 0 t + 1)) ∧ (0 ≤ z2 → X2 45 0 (5 * t + z2) = name ∧ X2 46 0 (5 * t + z2) = lane ∧ X2 47 0 (5 * t + z2) = (if lane = 0 then v else -1) ∧ X2 48 0 (5 * t + z2) = 0) ∧ (∀ y, ¬ (0 ≤ z2 ∧ y = 5 * t + z2) → X2 45 0 y = X1 45 0 y ∧ X2 46 0 y = X1 46 0 y ∧ X2 47 0 y = X1 47 0 y ∧ X2 48 0 y = X1 48 0 y) ∧ (∀ y, y ≠ t → X2 44 0 y = X1 44 0 y) ∧ (0 ≤ z2 → (∀ y, 0 ≤ y → y < X1 40 0 13 → X1 55 0 y = t → X2 56 0 (5 * y + z2) = (if lane = 0 then v else -1)) ∧ ∀ y j, 0 ≤ y → y < X1 40 0 13 → 0 ≤ j → j ≤ 4 → ¬ (X1 55 0 y = t ∧ j = z2) → X2 56 0 (5 * y + j) = X1 56 0 (5 * y + j)) ∧ (z2 < 0 → Frm [4001] X1 X2)) : RC cnt X2 Y1 ln ∧ z = z2 := by
  obtain ⟨⟨hT, hM, hW, hC, hf⟩, hB, hK, hS, h6, hN⟩ := id h
  obtain ⟨p, p2, p3, p4, p5, p6⟩ := p
  obtain ⟨q, q2, q3, q4, q5, q6⟩ := q
  have hw := rF_field hT hM hf hF p p2 p3 p4 hG q q2 q3 q4 hR hR1
  have hi := hF.hi (by decide)
  have e40 := hi 40 (by decide)
  have e44 := hi 44 (by decide)
  have e45 := hi 45 (by decide)
  have e46 := hi 46 (by decide)
  have e55 := hi 55 (by decide)
  have e56 := hi 56 (by decide)
  have hT0 := hT
  have hM0 := hM
  unfold rT at hT0
  unfold rM at hM0
  have h3 := hB.1.1.1
  have g2 : X2 40 0 2 = X1 40 0 2 := hG 40 0 2 (show 4003 ∉ _ by decide)
  have hz2 := hw.2
  have r44 : 0 ≤ X 44 0 t ∧ X 44 0 t ≤ 5 := hR 44 0 t
  simp only [e40, e44, e45] at q
  have hq : (0 ≤ z → (0 ≤ t ∧ t < X 40 0 2) ∧ nmAt (fun j => X 45 0 (5 * t + j)) name (X 44 0 t).toNat = -1 ∧ X 40 0 20 = 0 ∧ X 44 0 t ≤ 4 ∧ z = X 44 0 t ∧ X2 44 0 t = X 44 0 t + 1 ∧ (0 ≤ lane ∧ lane < 6)) ∧ (z < 0 → X2 44 0 t = X 44 0 t) := by
    rcases q with q | q | q | q | q <;> refine ⟨fun u => ⟨?_, ?_, ?_, ?_, ?_, ?_, ?_⟩, fun u => ?_⟩ <;> omega
  have hE := hMI.2.2.2.2.1.1
  refine ⟨⟨⟨(hT.frm hF (by decide)).frm hG (by decide), (hM.frm hF (by decide)).frm hG (by decide), (hW.frm hF (by decide)).frm hG (by decide), (hC.frm hF (by decide)).frm hG (by decide), hw.1⟩, ⟨?_, ?_⟩, (hK.frm hF hH (by decide) (by decide) (Int.le_refl _)).frm (N := []) hG Frm.rf (by decide) (by decide) (Int.le_refl _), (hS.frm hF hH (by decide) (by decide)).frm (N := []) hG Frm.rf (by decide) (by decide), h6.frm hH (by decide), ?_⟩, hw.2⟩
  · have hmm : RB (cnt 26) X Y ln X1 := hB.1.m hi
    have kN : KpN X X1 Y Y1 X1 X2 := KpN.of hF hH hG (by decide) (fun j => by rw [fc28]; simp; omega) (fun j => by rw [fc28]; simp; omega) (by decide)
    by_cases h0 : 0 ≤ z
    · obtain ⟨c1, c2, c3, c4, c5, c6, c7⟩ := hq.1 h0
      obtain ⟨a1, a2⟩ := p5 h0
      obtain ⟨b1, b2⟩ := q5 (by omega)
      obtain ⟨d1, d2, d3, d4⟩ := q2 (by omega)
      rw [← hz2] at b1 b2 d2
      have k2 : RB (cnt 26) X1 Y1 ln X2 := RB_field (t := t) (kk := z) (dv := if lane = 0 then v else -1) hmm kN hLn (by rw [e40]; omega) (by rw [e44]; exact c5) ⟨h0, by omega⟩ (hF 0 0 3 (show 4 ∉ _ by decide)) (fun x => hH 15 x 0 (show 1501 ∉ _ by decide)) (hG 40 0 13 (show 4014 ∉ _ by decide)) (hG.arr 55 (by decide +kernel) (by decide)) (by omega) (fun y hy => q4 y hy) (fun y hy => (q3 y (fun w => hy (by omega))).2.1) (fun t => by rw [e44]; exact (hR 44 0 t).2) (fun x x0 x1 hx => a1 x x0 x1 hx) (fun x k x0 x1 hx => a2 x k x0 x1 hx) (fun x x0 x1 hx => b1 x x0 x1 hx) (fun x k x0 x1 k0 k1 hx => b2 x k x0 x1 k0 k1 hx) (fun w => by rw [d2] at w; rw [if_neg (by omega)])
      exact k2.mdl hG (by decide)
    · obtain ⟨a1, a2⟩ := p6 (by omega)
      have b1 := q6 (by omega)
      rw [a1] at b1
      rw [a2]
      exact (hB.mdl b1 (by decide) (by decide)).1
  · rw [hG 29 0 1 (show 2902 ∉ _ by decide), hG 40 0 22 (show 4023 ∉ _ by decide), hF 29 0 1 (show 2902 ∉ _ by decide), e40]
    exact hB.2
  · intro t' k k' t0 t1 k0 k1 k2
    rw [g2, e40] at t1
    have r44' : X 44 0 t' ≤ 5 := (hR 44 0 t').2
    by_cases e : t' = t ∧ 0 ≤ z
    · obtain ⟨e1, h0⟩ := e
      subst e1
      obtain ⟨c1, c2, c3, c4, c5, c6, c7⟩ := hq.1 h0
      have d1 := (q2 (by omega)).1
      rw [← hz2, c5] at d1
      rw [c6] at k2
      have hns := nmAt_spec (fun j => X 45 0 (5 * t' + j)) name (X 44 0 t').toNat
      rw [c2] at hns
      rcases hns with ⟨-, hns⟩ | ⟨hns, -⟩
      · have old : ∀ j, 0 ≤ j → j < X 44 0 t' → X2 45 0 (5 * t' + j) = X 45 0 (5 * t' + j) := fun j j0 j1 => by rw [(q3 (5 * t' + j) (fun w => by omega)).1, e45]
        by_cases e2 : k' = X 44 0 t'
        · rw [e2, d1, old k k0 (by omega)]
          exact hns k k0 (by omega)
        · rw [old k k0 (by omega), old k' (by omega) (by omega)]
          exact hN t' k k' t0 t1 k0 k1 (by omega)
      · omega
    · have h44 : X2 44 0 t' = X 44 0 t' := by
        by_cases e1 : t' = t
        · rw [e1]
          exact hq.2 (by have : ¬ 0 ≤ z := fun w => e ⟨e1, w⟩; omega)
        · rw [q4 t' e1, e44]
      rw [h44] at k2
      have old : ∀ j, 0 ≤ j → j < X 44 0 t' → X2 45 0 (5 * t' + j) = X 45 0 (5 * t' + j) := fun j j0 j1 => by
        rw [(q3 (5 * t' + j) (fun w => ?_)).1, e45]
        have hz0 : 0 ≤ z := by omega
        have c5 := (hq.1 hz0).2.2.2.2.1
        have c4 := (hq.1 hz0).2.2.2.1
        exact e ⟨by omega, hz0⟩
      rw [old k k0 (by omega), old k' (by omega) k2]
      exact hN t' k k' t0 t1 k0 k1 k2
theorem J_drop {z z2 t k : Int} (h : RC cnt X Y ln) (hMI : MInv X) (hR : Rng X) (hR1 : Rng X1) (hLn : LnL ln) (hN9 : 0 ≤ cnt 25 ∧ 0 ≤ cnt 26) (hF : Frm [1902, 2000, 2100, 2200, 2300, 1600] X X1) (hH : Frm [1700] Y Y1) (p : ((¬ (0 ≤ t ∧ t < X 0 0 1 ∧ 0 ≤ k ∧ k < X 19 t 1) ∧ z = -1 ∧ X1 19 t 1 = X 19 t 1) ∨ (0 ≤ t ∧ t < X 0 0 1 ∧ 0 ≤ k ∧ k < X 19 t 1 ∧ 0 < X 29 0 3 ∧ z = -3 ∧ X1 19 t 1 = X 19 t 1) ∨ (0 ≤ t ∧ t < X 0 0 1 ∧ 0 ≤ k ∧ k < X 19 t 1 ∧ X 29 0 3 = 0 ∧ z = X 19 t 1 - 1 ∧ X1 19 t 1 = X 19 t 1 - 1)) ∧ (0 ≤ z → Sh 20 X X1 t k (X 19 t 1 - 1) ∧ Sh 21 X X1 t k (X 19 t 1 - 1) ∧ Sh 22 X X1 t k (X 19 t 1 - 1) ∧ Sh 23 X X1 t k (X 19 t 1 - 1)) ∧ (z < 0 → ∀ y j, X1 20 y j = X 20 y j ∧ X1 21 y j = X 21 y j ∧ X1 22 y j = X 22 y j ∧ X1 23 y j = X 23 y j) ∧ (∀ y, y ≠ t → X1 19 y 1 = X 19 y 1) ∧ (0 ≤ z → (∀ y, 0 ≤ y → y < X 0 0 3 → Y 15 y 0 = some t → ∀ j, X1 16 y j = (if k ≤ j ∧ j < 4 then X 16 y (j + 1) else X 16 y j) ∧ Y1 17 y j = (if k ≤ j ∧ j < 4 then Y 17 y (j + 1) else Y 17 y j)) ∧ ∀ y j, 0 ≤ y → y < X 0 0 3 → ¬ (Y 15 y 0 = some t) → X1 16 y j = X 16 y j ∧ Y1 17 y j = Y 17 y j) ∧ (z < 0 → X1 = X ∧ Y1 = Y)) (hG : Frm [4001, 4500, 4600, 4700, 4800, 4400, 5600] X1 X2) (hM2 : MInv X2) (q : ((¬ (0 ≤ t ∧ t < X1 40 0 2 ∧ 0 ≤ k ∧ k < X1 44 0 t) ∧ z2 = -1 ∧ X2 44 0 t = X1 44 0 t) ∨ (0 ≤ t ∧ t < X1 40 0 2 ∧ 0 ≤ k ∧ k < X1 44 0 t ∧ 0 < X1 40 0 20 ∧ z2 = -3 ∧ X2 44 0 t = X1 44 0 t) ∨ (0 ≤ t ∧ t < X1 40 0 2 ∧ 0 ≤ k ∧ k < X1 44 0 t ∧ X1 40 0 20 = 0 ∧ z2 = X1 44 0 t - 1 ∧ X2 44 0 t = X1 44 0 t - 1)) ∧ (0 ≤ z2 → Sh 45 X1 X2 0 (5 * t + k) (5 * t + (X1 44 0 t - 1)) ∧ Sh 46 X1 X2 0 (5 * t + k) (5 * t + (X1 44 0 t - 1)) ∧ Sh 47 X1 X2 0 (5 * t + k) (5 * t + (X1 44 0 t - 1)) ∧ Sh 48 X1 X2 0 (5 * t + k) (5 * t + (X1 44 0 t - 1))) ∧ (z2 < 0 → ∀ y, X2 45 0 y = X1 45 0 y ∧ X2 46 0 y = X1 46 0 y ∧ X2 47 0 y = X1 47 0 y ∧ X2 48 0 y = X1 48 0 y) ∧ (∀ y, y ≠ t → X2 44 0 y = X1 44 0 y) ∧ (0 ≤ z2 → (∀ y j, 0 ≤ y → y < X1 40 0 13 → X1 55 0 y = t → k ≤ j → j < X1 44 0 t - 1 → X2 56 0 (5 * y + j) = X1 56 0 (5 * y + j + 1)) ∧ ∀ y j, 0 ≤ y → y < X1 40 0 13 → 0 ≤ j → j ≤ 4 → ¬ (X1 55 0 y = t ∧ k ≤ j) → X2 56 0 (5 * y + j) = X1 56 0 (5 * y + j)) ∧ (z2 < 0 → Frm [4001] X1 X2)) : RC cnt X2 Y1 ln ∧ z = z2 := by
  obtain ⟨⟨hT, hM, hW, hC, hf⟩, hB, hK, hS, h6, hN⟩ := id h
  obtain ⟨p, p2, p3, p4, p5, p6⟩ := p
  obtain ⟨q, q2, q3, q4, q5, q6⟩ := q
  have hw := rF_drop hT hM hf hF p p2 p3 p4 hG q q2 q3 q4 hR hR1
  have hi := hF.hi (by decide)
  have e40 := hi 40 (by decide)
  have e44 := hi 44 (by decide)
  have e45 := hi 45 (by decide)
  have hT0 := hT
  have hM0 := hM
  unfold rT at hT0
  unfold rM at hM0
  have h3 := hB.1.1.1
  have g2 : X2 40 0 2 = X1 40 0 2 := hG 40 0 2 (show 4003 ∉ _ by decide)
  have hz2 := hw.2
  have r44 : 0 ≤ X 44 0 t ∧ X 44 0 t ≤ 5 := hR 44 0 t
  rw [e40, e44] at q
  have hq : (0 ≤ z → (0 ≤ t ∧ t < X 40 0 2) ∧ (0 ≤ k ∧ k < X 44 0 t) ∧ X 40 0 20 = 0 ∧ X2 44 0 t = X 44 0 t - 1) ∧ (z < 0 → X2 44 0 t = X 44 0 t) := by
    rcases q with q | q | q <;> refine ⟨fun u => ⟨?_, ?_, ?_, ?_⟩, fun u => ?_⟩ <;> omega
  have hE := hMI.2.2.2.2.1.1
  refine ⟨⟨⟨(hT.frm hF (by decide)).frm hG (by decide), (hM.frm hF (by decide)).frm hG (by decide), (hW.frm hF (by decide)).frm hG (by decide), (hC.frm hF (by decide)).frm hG (by decide), hw.1⟩, ⟨?_, ?_⟩, (hK.frm hF hH (by decide) (by decide) (Int.le_refl _)).frm (N := []) hG Frm.rf (by decide) (by decide) (Int.le_refl _), (hS.frm hF hH (by decide) (by decide)).frm (N := []) hG Frm.rf (by decide) (by decide), h6.frm hH (by decide), ?_⟩, hw.2⟩
  · have hmm : RB (cnt 26) X Y ln X1 := hB.1.m hi
    have kN : KpN X X1 Y Y1 X1 X2 := KpN.of hF hH hG (by decide) (fun j => by rw [fc28]; simp; omega) (fun j => by rw [fc28]; simp; omega) (by decide)
    by_cases h0 : 0 ≤ z
    · obtain ⟨c1, c2, c3, c4⟩ := hq.1 h0
      obtain ⟨a1, a2⟩ := p5 h0
      obtain ⟨b1, b2⟩ := q5 (by omega)
      have d2 := (q2 (by omega)).2.1
      have k2 : RB (cnt 26) X1 Y1 ln X2 := RB_drop (t := t) (kk := k) hmm kN hLn (by rw [e40]; omega) (by rw [e44]; exact c2) (hF 0 0 3 (show 4 ∉ _ by decide)) (fun x => hH 15 x 0 (show 1501 ∉ _ by decide)) (hG 40 0 13 (show 4014 ∉ _ by decide)) (hG.arr 55 (by decide +kernel) (by decide)) (by rw [e44]; exact c4) (fun y hy => q4 y hy) d2 (fun t => by rw [e44]; exact (hR 44 0 t).2) (fun x j x0 x1 hx j0 j1 => by
        have h9 := a1 x x0 x1 hx j
        rw [if_pos ⟨j0, j1⟩, if_pos ⟨j0, j1⟩] at h9
        exact h9) (fun x j x0 x1 hx => by
        by_cases hxt : Y 15 x 0 = some t
        · have h9 := a1 x x0 x1 hxt j
          have hn : ¬ (k ≤ j ∧ j < 4) := fun w => hx ⟨hxt, w.1⟩
          rw [if_neg hn, if_neg hn] at h9
          exact h9
        · exact a2 x j x0 x1 hxt) (fun x j x0 x1 hx j0 j1 => b1 x j x0 x1 hx j0 j1) (fun x j x0 x1 j0 j1 hx => b2 x j x0 x1 j0 j1 hx)
      exact k2.mdl hG (by decide)
    · obtain ⟨a1, a2⟩ := p6 (by omega)
      have b1 := q6 (by omega)
      rw [a1] at b1
      rw [a2]
      exact (hB.mdl b1 (by decide) (by decide)).1
  · rw [hG 29 0 1 (show 2902 ∉ _ by decide), hG 40 0 22 (show 4023 ∉ _ by decide), hF 29 0 1 (show 2902 ∉ _ by decide), e40]
    exact hB.2
  · intro t' j j' t0 t1 j0 j1 j2
    rw [g2, e40] at t1
    have r44' : X 44 0 t' ≤ 5 := (hR 44 0 t').2
    by_cases h0 : 0 ≤ z
    · obtain ⟨c1, c2, c3, c4⟩ := hq.1 h0
      have d1 := (q2 (by omega)).1
      rw [e44] at d1
      -- where a field behind stood before
      have key : ∀ i, 0 ≤ i → i < X2 44 0 t' → ∃ i', 0 ≤ i' ∧ i' < X 44 0 t' ∧ X2 45 0 (5 * t' + i) = X 45 0 (5 * t' + i') ∧ i' = (if t' = t ∧ k ≤ i then i + 1 else i) := by
        intro i i0 i1
        by_cases e : t' = t
        · subst e
          rw [c4] at i1
          by_cases hk : k ≤ i
          · refine ⟨i + 1, by omega, by omega, ?_, by rw [if_pos ⟨rfl, hk⟩]⟩
            rw [d1, if_pos ⟨rfl, by omega, by omega⟩, e45, show 5 * t' + i + 1 = 5 * t' + (i + 1) by omega]
          · refine ⟨i, i0, by omega, ?_, by rw [if_neg (fun w => hk w.2)]⟩
            rw [d1, if_neg (fun w => by omega), e45]
        · rw [q4 t' e, e44] at i1
          refine ⟨i, i0, i1, ?_, by rw [if_neg (fun w => e w.1)]⟩
          rw [d1, if_neg (fun w => by omega), e45]
      obtain ⟨a, a0, a1, a2, a3⟩ := key j j0 (by omega)
      obtain ⟨b, b0, b1, b2, b3⟩ := key j' (by omega) j2
      rw [a2, b2]
      refine hN t' a b t0 t1 a0 ?_ b1
      by_cases w1 : t' = t ∧ k ≤ j
      · rw [if_pos w1] at a3
        rw [if_pos ⟨w1.1, by omega⟩] at b3
        omega
      · rw [if_neg w1] at a3
        split at b3 <;> omega
    · have h44 : X2 44 0 t' = X 44 0 t' := by
        by_cases e1 : t' = t
        · rw [e1]
          exact hq.2 (by omega)
        · rw [q4 t' e1, e44]
      rw [h44] at j2
      have old : ∀ i, X2 45 0 i = X 45 0 i := fun i => by rw [(q3 (by omega) i).1, e45]
      rw [old, old]
      exact hN t' j j' t0 t1 j0 j1 j2

end JS
end
section
/-! a check's verdict is the same on both sides -/
section JD
variable {X : Nat → Int → Int → Int} {Y : Nat → Int → Int → Option Int} {ln : Int → Int} {c : Int}
theorem ck_eq (hB : RB c X Y ln X) (hT : rT X) (hf : rF X) (hMI : MInv X) (hR : Rng X) (hLn : LnL ln) (hty : ∀ t, 0 ≤ t → t < X 0 0 1 → X 19 t 0 = t) {x g cq : Int} (hx : 0 ≤ x ∧ x < X 40 0 13) (k0 : X 25 g 0 = X 50 0 cq) (k1 : X 25 g 1 = X 51 0 cq) (k2 : X 25 g 2 = X 52 0 cq) (k3 : X 25 g 3 = X 53 0 cq) : ckC X Y ln x g = ckM X x cq := by
  obtain ⟨b1, b2, b3, b4⟩ := bridge hB.1 hT hf hMI hR hx.1 hx.2
  have rk : 0 ≤ X 50 0 cq ∧ X 50 0 cq ≤ 5 := hR 50 0 cq
  have ra : 0 ≤ X 51 0 cq ∧ X 51 0 cq ≤ 4 := hR 51 0 cq
  have rb : 0 ≤ X 52 0 cq ∧ X 52 0 cq ≤ 4 := hR 52 0 cq
  unfold ckC ckM
  rw [k0, k1, k2, k3, b1, b2]
  obtain ⟨kd, hkd⟩ : ∃ q, q = X 50 0 cq := ⟨_, rfl⟩
  obtain ⟨a, ha⟩ : ∃ q, q = X 51 0 cq := ⟨_, rfl⟩
  obtain ⟨b, hb⟩ : ∃ q, q = X 52 0 cq := ⟨_, rfl⟩
  obtain ⟨v, hv⟩ : ∃ q, q = X 53 0 cq := ⟨_, rfl⟩
  rw [← hkd, ← ha, ← hb, ← hv]
  rw [← hkd] at rk
  rw [← ha] at ra
  rw [← hb] at rb
  have hla : a < X 44 0 (X 55 0 x) → X 21 (X 55 0 x) a = X 46 0 (5 * X 55 0 x + a) := fun w => (b4 a ra.1 w).2.1
  have hlb : b < X 44 0 (X 55 0 x) → X 21 (X 55 0 x) b = X 46 0 (5 * X 55 0 x + b) := fun w => (b4 b rb.1 w).2.1
  have pl := (hB.1.2 x hx.1 hx.2).2
  have hva : a < X 44 0 (X 55 0 x) → X 46 0 (5 * X 55 0 x + a) < 3 → X 16 x a = X 56 0 (5 * x + a) := fun w u => (pl a ra.1 w).1 u
  have hvb : b < X 44 0 (X 55 0 x) → X 46 0 (5 * X 55 0 x + b) < 3 → X 16 x b = X 56 0 (5 * x + b) := fun w u => (pl b rb.1 w).1 u
  have h3 := hB.1.1
  unfold rT at hT
  -- a thing that is met
  have met : a < X 44 0 (X 55 0 x) → X 46 0 (5 * X 55 0 x + a) = 2 → (X 16 x a = X 56 0 (5 * x + a)) ∧ (-1 ≤ X 56 0 (5 * x + a) ∧ X 56 0 (5 * x + a) < X 40 0 13) ∧ (if 0 ≤ X 16 x a ∧ X 16 x a < X 0 0 3 then X 19 (tyo (Y 15 (X 16 x a) 0)) 0 else -1) = (if X 56 0 (5 * x + a) < 0 then -1 else X 55 0 (X 56 0 (5 * x + a))) := by
    intro w u
    have e1 := hva w (by omega)
    have e2 := (hMI.1 x a hx.1 hx.2 ra.1 w).2.1 u
    refine ⟨e1, e2, ?_⟩
    rw [e1]
    by_cases hn : X 56 0 (5 * x + a) < 0
    · rw [if_neg (fun q => by omega), if_pos hn]
    · rw [if_pos ⟨by omega, by omega⟩, if_neg hn]
      obtain ⟨d1, -, -, -⟩ := bridge hB.1 hT hf hMI hR (x := X 56 0 (5 * x + a)) (by omega) e2.2
      have d2 := hMI.2.2.2.2.2 (X 56 0 (5 * x + a)) (by omega) e2.2
      have d3 : 0 ≤ X 55 0 (X 56 0 (5 * x + a)) ∧ X 55 0 (X 56 0 (5 * x + a)) ≤ 7 := hR 55 0 _
      rw [d1]
      exact hty _ d3.1 (by omega)
  rcases (show kd = 0 ∨ kd = 1 ∨ kd = 2 ∨ kd = 3 ∨ kd = 4 ∨ kd = 5 by omega) with hk | hk | hk | hk | hk | hk
  · by_cases hc : a < X 44 0 (X 55 0 x) ∧ X 46 0 (5 * X 55 0 x + a) = 0 ∧ b < X 44 0 (X 55 0 x) ∧ X 46 0 (5 * X 55 0 x + b) = 0
    · have l1 := hla hc.1
      have l2 := hlb hc.2.2.1
      rw [ckF_0 hk ⟨hc.1, by omega, hc.2.2.1, by omega⟩, ckF_0 hk hc, hvb hc.2.2.1 (by omega)]
    · rw [ckF_c ⟨by omega, by omega⟩ (by omega), ckF_c ⟨by omega, by omega⟩ (by omega)]
  · by_cases hc : a < X 44 0 (X 55 0 x) ∧ X 46 0 (5 * X 55 0 x + a) = 2
    · have l1 := hla hc.1
      rw [ckF_1 hk ⟨hc.1, by omega⟩, ckF_1 hk hc, (met hc.1 hc.2).2.2]
    · rw [ckF_c ⟨by omega, by omega⟩ (by omega), ckF_c ⟨by omega, by omega⟩ (by omega)]
  · by_cases hc : a < X 44 0 (X 55 0 x) ∧ 3 ≤ X 46 0 (5 * X 55 0 x + a) ∧ b < X 44 0 (X 55 0 x) ∧ X 46 0 (5 * X 55 0 x + b) = 0
    · have l1 := hla hc.1
      have l2 := hlb hc.2.2.1
      rw [ckF_2 hk ⟨hc.1, by omega, hc.2.2.1, by omega⟩, ckF_2 hk hc, hvb hc.2.2.1 (by omega)]
      have hpl := (pl a ra.1 hc.1).2 hc.2.1
      cases e : Y 17 x a with
      | none =>
        have h9 := hpl.mp e
        rw [rlen_n, if_pos (by decide), if_pos h9, if_pos (by decide)]
      | some g9 =>
        have hL : Lv Y X g9 (X 56 0 (5 * x + a)) (X 46 0 (5 * X 55 0 x + a)) := Or.inl ⟨x, a, hx.1, hx.2, ra.1, hc.1, rfl, hc.2.1, e, rfl⟩
        obtain ⟨f1, f2, f3, f4, f5, f6, f7⟩ := hB.2.2.1 _ _ _ hL
        have l9 := hLn g9
        rw [rlen_s, tyo_s, if_neg (show ¬ X 56 0 (5 * x + a) < 0 by omega), f6]
        rw [f6] at l9 f7
        have hn9 : ¬ X 58 0 (X 56 0 (5 * x + a)) < 0 := by omega
        by_cases hi : X 56 0 (5 * x + b) < 0 ∨ X 58 0 (X 56 0 (5 * x + a)) ≤ X 56 0 (5 * x + b)
        · rw [if_neg hn9, if_neg hn9, if_pos hi, if_pos hi]
        · rw [if_neg hn9, if_neg hn9, if_neg hi, if_neg hi, f7 _ (by omega) (by omega)]
    · rw [ckF_c ⟨by omega, by omega⟩ (by omega), ckF_c ⟨by omega, by omega⟩ (by omega)]
  · by_cases hc : a < X 44 0 (X 55 0 x) ∧ X 46 0 (5 * X 55 0 x + a) = 0
    · have l1 := hla hc.1
      rw [ckF_3 hk ⟨hc.1, by omega⟩, ckF_3 hk hc, hva hc.1 (by omega)]
    · rw [ckF_c ⟨by omega, by omega⟩ (by omega), ckF_c ⟨by omega, by omega⟩ (by omega)]
  · by_cases hc : a < X 44 0 (X 55 0 x) ∧ X 46 0 (5 * X 55 0 x + a) = 0
    · have l1 := hla hc.1
      rw [ckF_4 hk ⟨hc.1, by omega⟩, ckF_4 hk hc, hva hc.1 (by omega)]
    · rw [ckF_c ⟨by omega, by omega⟩ (by omega), ckF_c ⟨by omega, by omega⟩ (by omega)]
  · by_cases hc : a < X 44 0 (X 55 0 x) ∧ X 46 0 (5 * X 55 0 x + a) = 2
    · have l1 := hla hc.1
      obtain ⟨m1, m2, m3⟩ := met hc.1 hc.2
      rw [ckF_5 hk ⟨hc.1, by omega⟩, ckF_5 hk hc, m3]
      by_cases hn : X 56 0 (5 * x + a) < 0
      · rw [if_pos hn, if_pos (by decide), if_pos (by decide)]
      · have hl : ldC X Y x (X 16 x a) a = ldM X x (X 56 0 (5 * x + a)) a := by
          rw [m1]
          obtain ⟨y, hy⟩ : ∃ q, q = X 56 0 (5 * x + a) := ⟨_, rfl⟩
          rw [← hy] at m2 hn ⊢
          obtain ⟨d1, d2, d3, d4⟩ := bridge hB.1 hT hf hMI hR (x := y) (by omega) m2.2
          have ply := (hB.1.2 y (by omega) m2.2).2
          unfold ldC ldM
          rw [d1, b1, d2, (b4 a ra.1 hc.1).1]
          have hnm : nmAt (X 20 (X 55 0 y)) (X 45 0 (5 * X 55 0 x + a)) (X 44 0 (X 55 0 y)).toNat = nmAt (fun j => X 45 0 (5 * X 55 0 y + j)) (X 45 0 (5 * X 55 0 x + a)) (X 44 0 (X 55 0 y)).toNat := nmAt_congr (fun j j0 j1 => (d4 j j0 (by omega)).1)
          rw [hnm]
          have hs := nmAt_spec (fun j => X 45 0 (5 * X 55 0 y + j)) (X 45 0 (5 * X 55 0 x + a)) (X 44 0 (X 55 0 y)).toNat
          obtain ⟨k, hk9⟩ : ∃ q, q = nmAt (fun j => X 45 0 (5 * X 55 0 y + j)) (X 45 0 (5 * X 55 0 x + a)) (X 44 0 (X 55 0 y)).toNat := ⟨_, rfl⟩
          rw [← hk9] at hs ⊢
          by_cases hk0 : k < 0
          · rw [if_pos hk0, if_pos hk0]
          · rw [if_neg hk0, if_neg hk0]
            have hkf : k < X 44 0 (X 55 0 y) := by
              rcases hs with ⟨q1, -⟩ | ⟨-, q2, -⟩ <;> omega
            rw [(d4 k (by omega) hkf).2.1]
            by_cases hl2 : X 46 0 (5 * X 55 0 y + k) ≠ 2
            · rw [if_pos hl2, if_pos hl2]
            · rw [if_neg hl2, if_neg hl2]
              have e1 := (ply k (by omega) hkf).1 (by unfold lnM; omega)
              have e2 := (hMI.1 y k (by omega) m2.2 (by omega) hkf).2.1 (by omega)
              rw [e1]
              by_cases hw : 0 ≤ X 56 0 (5 * y + k)
              · rw [if_pos ⟨hw, by omega⟩]
              · rw [if_neg (fun q => hw q.1)]
                omega
        rw [hl]
    · rw [ckF_c ⟨by omega, by omega⟩ (by omega), ckF_c ⟨by omega, by omega⟩ (by omega)]
theorem jd_eq {c5 : Int} (hB : RB c X Y ln X) (hT : rT X) (hf : rF X) (hC : rC X) (hK : rK c5 X Y X) (hMI : MInv X) (hR : Rng X) (hLn : LnL ln) (hty : ∀ t, 0 ≤ t → t < X 0 0 1 → X 19 t 0 = t) {x a b : Int} (hx : 0 ≤ x ∧ x < X 40 0 13) (ja : jdC X Y ln x a) (jb : jdM X x b) : a = b := by
  obtain ⟨b1, b2, b3, b4⟩ := bridge hB.1 hT hf hMI hR hx.1 hx.2
  have d2 := hMI.2.2.2.2.2 x hx.1 hx.2
  have d3 : 0 ≤ X 55 0 x ∧ X 55 0 x ≤ 7 := hR 55 0 x
  have hT0 := hT
  unfold rT at hT0
  have hcm := hC (X 55 0 x) d3.1 (by omega)
  have hck : ∀ q, 0 ≤ q → q < X 49 0 (X 55 0 x) → ckC X Y ln x (tyo (Y 24 (X 55 0 x) q)) = ckM X x (4 * X 55 0 x + q) := fun q q0 q1 => by
    obtain ⟨g, g1, g2, g3, g4, g5, g6⟩ := hK (X 55 0 x) q d3.1 d2 q0 q1
    rw [tyo_some g1]
    exact ck_eq hB hT hf hMI hR hLn hty hx g3 g4 g5 g6
  unfold jdC at ja
  rw [b1, hcm] at ja
  unfold jdM at jb
  rcases ja with ⟨a0, a1⟩ | ⟨a0, i, i0, i1, i2, i3⟩ <;> rcases jb with ⟨e0, e1⟩ | ⟨e0, j, j0, j1, j2, j3⟩
  · omega
  · have h9 := a1 j j0 j1
    rw [hck j j0 j1] at h9
    omega
  · have h9 := e1 i i0 i1
    rw [hck i i0 i1] at i3
    omega
  · have hij : i = j := by
      by_cases h1 : i < j
      · have h9 := j2 i i0 h1
        rw [hck i i0 i1] at i3
        omega
      · by_cases h2 : j < i
        · have h9 := i2 j j0 h2
          rw [hck j j0 j1] at h9
          omega
        · omega
    subst hij
    rw [hck i i0 i1] at i3
    omega
end JD
end
section
/-! recordings, both sides -/
theorem tyo_n : tyo none = -1 := rfl
section RS
variable {fc : Int → Int} {la vl rid : Int → Int → Int} {s : Nat → Int → Int} {y k p n x : Int}
/-- the rows that the places lead to -/
theorem recP_34 (h2 : 0 ≤ s 2 0) : s 2 0 ≤ recP la vl rid y k p s 2 0 ∧ (∀ i, i < s 2 0 → recP la vl rid y k p s 3 i = s 3 i ∧ recP la vl rid y k p s 4 i = s 4 i) ∧ (3 ≤ la y k → 0 ≤ recP la vl rid y k p s 5 p → recP la vl rid y k p s 5 p < recP la vl rid y k p s 2 0 ∧ rid (recP la vl rid y k p s 3 (recP la vl rid y k p s 5 p)) (recP la vl rid y k p s 4 (recP la vl rid y k p s 5 p)) = rid y k) := by
  have k5 : ∀ v i, u2 s 5 p v 2 i = s 2 i ∧ u2 s 5 p v 3 i = s 3 i ∧ u2 s 5 p v 4 i = s 4 i := fun v i => ⟨u2_k _ _ _ _ (by decide), u2_k _ _ _ _ (by decide), u2_k _ _ _ _ (by decide)⟩
  by_cases a1 : la y k < 2
  · rw [recP_1 a1]
    exact ⟨by rw [(k5 _ _).1]; exact Int.le_refl _, fun i _ => ⟨(k5 _ i).2.1, (k5 _ i).2.2⟩, fun w => by omega⟩
  · by_cases a2 : la y k = 2
    · by_cases b1 : vl y k < 0
      · rw [recP_2n a2 b1]
        exact ⟨by rw [(k5 _ _).1]; exact Int.le_refl _, fun i _ => ⟨(k5 _ i).2.1, (k5 _ i).2.2⟩, fun w => by omega⟩
      · by_cases b2 : nmAt (s 1) (vl y k) (s 0 0).toNat = -1
        · rw [recP_2w a2 (by omega) b2]
          have e2 : ∀ κ i, κ ≠ 0 → κ ≠ 5 → κ ≠ 1 → u2 (u2 (u2 s 1 (s 0 0) (vl y k)) 5 p (s 0 0)) 0 0 (s 0 0 + 1) κ i = s κ i := fun κ i h0 h5 h1 => by
            rw [u2_k _ _ _ _ h0, u2_k _ _ _ _ h5, u2_k _ _ _ _ h1]
          exact ⟨by rw [e2 2 0 (by decide) (by decide) (by decide)]; exact Int.le_refl _, fun i _ => ⟨e2 3 i (by decide) (by decide) (by decide), e2 4 i (by decide) (by decide) (by decide)⟩, fun w => by omega⟩
        · rw [recP_2o a2 (by omega) b2]
          exact ⟨by rw [(k5 _ _).1]; exact Int.le_refl _, fun i _ => ⟨(k5 _ i).2.1, (k5 _ i).2.2⟩, fun w => by omega⟩
    · have a3 : 3 ≤ la y k := by omega
      by_cases b1 : rid y k < 0
      · rw [recP_3n a3 b1]
        exact ⟨by rw [(k5 _ _).1]; exact Int.le_refl _, fun i _ => ⟨(k5 _ i).2.1, (k5 _ i).2.2⟩, fun _ w => by rw [u2_s] at w; omega⟩
      · by_cases b2 : nmAt (fun q => rid (s 3 q) (s 4 q)) (rid y k) (s 2 0).toNat = -1
        · rw [recP_3w a3 (by omega) b2]
          obtain ⟨U, hU⟩ : ∃ U, U = u2 (u2 (u2 (u2 s 3 (s 2 0) y) 4 (s 2 0) k) 5 p (s 2 0)) 2 0 (s 2 0 + 1) := ⟨_, rfl⟩
          rw [← hU]
          have f2 : U 2 0 = s 2 0 + 1 := by rw [hU, u2_s]
          have f3 : ∀ i, U 3 i = u2 s 3 (s 2 0) y 3 i := fun i => by rw [hU, u2_k _ _ _ _ (by decide), u2_k _ _ _ _ (by decide), u2_k _ _ _ _ (by decide)]
          have f4 : ∀ i, U 4 i = u2 (u2 s 3 (s 2 0) y) 4 (s 2 0) k 4 i := fun i => by rw [hU, u2_k _ _ _ _ (by decide), u2_k _ _ _ _ (by decide)]
          have f5 : U 5 p = s 2 0 := by rw [hU, u2_k _ _ _ _ (by decide), u2_s]
          refine ⟨by omega, fun i hi => ⟨?_, ?_⟩, fun _ _ => ⟨by omega, ?_⟩⟩
          · rw [f3, u2_i _ _ _ (by omega)]
          · rw [f4, u2_i _ _ _ (by omega), u2_k _ _ _ _ (by decide)]
          · rw [f5, f3, f4, u2_s, u2_s]
        · rw [recP_3o a3 (by omega) b2]
          refine ⟨by rw [(k5 _ _).1]; exact Int.le_refl _, fun i _ => ⟨(k5 _ i).2.1, (k5 _ i).2.2⟩, fun _ _ => ?_⟩
          rw [u2_s, (k5 _ _).1, (k5 _ _).2.1, (k5 _ _).2.2]
          rcases nmAt_spec (fun q => rid (s 3 q) (s 4 q)) (rid y k) (s 2 0).toNat with ⟨q1, -⟩ | ⟨q1, q2, q3, -⟩
          · exact absurd q1 b2
          · exact ⟨by omega, q3⟩
def rQ (fc : Int → Int) (la rid : Int → Int → Int) (s : Nat → Int → Int) (n k : Int) : Prop := ∀ r' k', 0 ≤ r' → r' < s 0 0 → 0 ≤ k' → k' < fc (s 1 r') → (r' < n ∨ (r' = n ∧ k' < k)) → 3 ≤ la (s 1 r') k' → 0 ≤ s 5 (5 * r' + k') → s 5 (5 * r' + k') < s 2 0 ∧ rid (s 3 (s 5 (5 * r' + k'))) (s 4 (s 5 (5 * r' + k'))) = rid (s 1 r') k'
theorem recP_q (h : rQ fc la rid s n k) (hf : ∀ y, fc y ≤ 5) (hn : 0 ≤ n ∧ n < s 0 0) (hk : 0 ≤ k) (h2 : 0 ≤ s 2 0) : rQ fc la rid (recP la vl rid (s 1 n) k (5 * n + k) s) n (k + 1) := by
  obtain ⟨a1, a2, a3⟩ := recP_34 (la := la) (vl := vl) (rid := rid) (y := s 1 n) (k := k) (p := 5 * n + k) h2
  intro r k' r0 r1 k0 k1 hc l v
  have hr : r < s 0 0 := by omega
  have e1 : recP la vl rid (s 1 n) k (5 * n + k) s 1 r = s 1 r := recP_o ⟨r0, hr⟩
  rw [e1] at k1 l ⊢
  have f5 := hf (s 1 r)
  by_cases he : r = n ∧ k' = k
  · obtain ⟨rfl, rfl⟩ := he
    exact a3 l v
  · have e5 : recP la vl rid (s 1 n) k (5 * n + k) s 5 (5 * r + k') = s 5 (5 * r + k') := recP_5 (by omega)
    rw [e5] at v ⊢
    obtain ⟨b1, b2⟩ := h r k' r0 hr k0 k1 (by omega) l v
    rw [(a2 _ b1).1, (a2 _ b1).2]
    exact ⟨by omega, b2⟩
theorem recK_q {r : Int} (h : rQ fc la rid s r 0) (hf : ∀ y, fc y ≤ 5) (hr : 0 ≤ r ∧ r < s 0 0) (h2 : 0 ≤ s 2 0) (n : Nat) : rQ fc la rid (recK la vl rid s r n) r (n : Int) ∧ 0 ≤ recK la vl rid s r n 2 0 := by
  induction n with
  | zero => exact ⟨h, h2⟩
  | succ n ih =>
    obtain ⟨i1, i2⟩ := ih
    have e1 : recK la vl rid s r n 1 r = s 1 r := recK_o n hr
    have e0 : s 0 0 ≤ recK la vl rid s r n 0 0 := recK_m n
    have e9 : recK la vl rid s r (n + 1) = recP la vl rid (s 1 r) (n : Int) (5 * r + (n : Int)) (recK la vl rid s r n) := rfl
    have h9 := recP_q (vl := vl) i1 hf ⟨hr.1, by omega⟩ (by omega) i2
    rw [e1] at h9
    rw [e9]
    refine ⟨?_, ?_⟩
    · have e : ((n + 1 : Nat) : Int) = (n : Int) + 1 := by omega
      rw [e]
      exact h9
    · have := (recP_34 (la := la) (vl := vl) (rid := rid) (y := s 1 r) (k := (n : Int)) (p := 5 * r + (n : Int)) i2).1
      omega
theorem recR_q (hf : ∀ y, fc y ≤ 5) (n : Nat) : rQ fc la rid (recR fc la vl rid x n) (n : Int) 0 ∧ 0 ≤ recR fc la vl rid x n 2 0 := by
  induction n with
  | zero =>
    refine ⟨fun r' k' r0 r1 k0 k1 hc => by omega, ?_⟩
    rw [recR_z, u2_s]
    exact Int.le_refl _
  | succ n ih =>
    obtain ⟨i1, i2⟩ := ih
    have e : ((n + 1 : Nat) : Int) = (n : Int) + 1 := by omega
    by_cases hlt : (n : Int) < recR fc la vl rid x n 0 0
    · rw [recR_up n hlt]
      obtain ⟨j1, j2⟩ := recK_q (vl := vl) i1 hf ⟨by omega, hlt⟩ i2 (fc (recR fc la vl rid x n 1 (n : Int))).toNat
      refine ⟨fun r' k' r0 r1 k0 k1 hc => j1 r' k' r0 r1 k0 k1 ?_, j2⟩
      by_cases h9 : r' = (n : Int)
      · rw [h9, recK_o _ ⟨by omega, hlt⟩] at k1
        exact Or.inr ⟨h9, by omega⟩
      · exact Or.inl (by omega)
    · rw [recR_stop n 1 hlt]
      exact ⟨fun r' k' r0 r1 k0 k1 hc => i1 r' k' r0 r1 k0 k1 (Or.inl (by omega)), i2⟩
end RS
section RT
variable {X X1 X2 W E M M1 M2 C C1 : Nat → Int → Int → Int} {Y Y1 V : Nat → Int → Int → Option Int} {ln : Int → Int} {c q x : Int} {S : Nat → Int → Int}
theorem rw17 (hB : RB c X Y ln X) {y k : Int} (y0 : 0 ≤ y) (y1 : y < X 40 0 13) (k0 : 0 ≤ k) (k1 : k < fcM X y) (l : 3 ≤ lnM X y k) (v : 0 ≤ mRid X y k) : ∃ g, Y 17 y k = some g ∧ Lv Y X g (mRid X y k) (lnM X y k) := by
  have h9 := ((hB.1.2 y y0 y1).2 k k0 k1).2 l
  unfold mRid at *
  cases e : Y 17 y k with
  | none =>
    have := h9.mp e
    omega
  | some g => exact ⟨g, rfl, Or.inl ⟨y, k, y0, y1, k0, k1, rfl, l, e, rfl⟩⟩
theorem alkX (hB : RB c X Y ln X) (hT : rT X) (hf : rF X) (hMI : MInv X) (hR : Rng X) : Alk (X 40 0 13) (fcM X) (cFc X Y) (lnM X) (cLa X Y) (mRid X) (cVl X Y) (mRid X) (cRid Y) := by
  have h3 := hB.1.1
  refine ⟨fun y y0 y1 => ?_, fun y k y' k' y0 y1 y0' y1' k0 k1 k0' k1' l l' v v' => ?_⟩
  · obtain ⟨b1, b2, b3, b4⟩ := bridge hB.1 hT hf hMI hR y0 y1
    refine ⟨by unfold fcM cFc; rw [b1, b2], fun k k0 k1 => ?_⟩
    have hl : lnM X y k = cLa X Y y k := by
      unfold lnM cLa
      rw [b1, (b4 k k0 k1).2.1]
    have hm := hMI.1 y k y0 y1 k0 k1
    have hv := (hB.1.2 y y0 y1).2 k k0 k1
    refine ⟨hl, fun u => ?_, fun u => (hm.2.1 u).2, fun u => ?_⟩
    · have e := hv.1 u
      unfold cVl mRid
      rw [← hl, e]
      by_cases h2 : lnM X y k = 2
      · have h9 := hm.2.1 h2
        rw [if_pos h2]
        by_cases h8 : 0 ≤ X 56 0 (5 * y + k)
        · rw [if_pos ⟨h8, by omega⟩]
        · rw [if_neg (fun w => h8 w.1)]
          omega
      · rw [if_neg h2]
    · have h9 := hv.2 u
      unfold mRid cRid
      cases e : Y 17 y k with
      | none => exact ⟨fun _ => by rw [tyo_n]; decide, fun _ => h9.mp e⟩
      | some g =>
        obtain ⟨f1, f2, f3, -⟩ := hB.2.2.1 g (X 56 0 (5 * y + k)) (lnM X y k) (Or.inl ⟨y, k, y0, y1, k0, k1, rfl, u, e, rfl⟩)
        rw [tyo_s]
        constructor <;> intro w <;> omega
  · obtain ⟨g, e, hL⟩ := rw17 hB y0 y1 k0 k1 l v
    obtain ⟨g', e', hL'⟩ := rw17 hB y0' y1' k0' k1' l' v'
    unfold cRid
    rw [e, e', tyo_s, tyo_s]
    exact (hB.2.2.2 _ _ _ _ _ _ hL hL').symm
/-- a recording, made on both sides -/
theorem rec_sv (hB : RB c X Y ln X) (hT : rT X) (hf : rF X) (hMI : MInv X) (hR : Rng X) (hLn : LnL ln) (hN : mNm X) (hx : 0 ≤ x ∧ x < X 40 0 13) (hS : S = recR (fcM X) (lnM X) (mRid X) (mRid X) x 30)
    (cT : rcT W V q S) (cR : rcR W V ln q S) (cV : rcV W V q S (S 0 0) 0) (cS : cSt X W Y V) (e27 : W 27 = X 27) (f17 : V 17 = Y 17)
    (mT : rmT E S) (mR : rmR E S) (mV : rmV E S (S 0 0) 0) (mS : mSt X E) (e56 : E 56 = X 56) (e57 : E 57 = X 57) (e58 : E 58 = X 58) (e59 : E 59 = X 59) (h30 : S 0 0 ≤ 30) : rSv W E q 4 := by
  have hI : rInv (X 40 0 13) (fcM X) (lnM X) (mRid X) S := by
    rw [hS]
    exact (recR_alk (alkX hB hT hf hMI hR) (fun y _ _ => (hR 44 0 _).1) hx 30).2
  obtain ⟨i0, i1, i2, i3⟩ := hI
  have hQ : rQ (fcM X) (lnM X) (mRid X) S 30 0 := by
    rw [hS]
    exact (recR_q (fun y => (hR 44 0 _).2) 30).1
  have hp : 1 ≤ S 0 0 := by
    rw [hS]
    exact recR_pos 30
  obtain ⟨s19, s20, s21, s15⟩ := cS
  obtain ⟨m44, m45, m46, m55⟩ := mS
  have hfE : fcM E = fcM X := by
    funext y
    unfold fcM
    rw [m44, m55]
  have hlE : lnM E = lnM X := by
    funext y k
    unfold lnM
    rw [m46, m55]
  have hrE : mRid E = mRid X := by
    funext y k
    unfold mRid
    rw [e56]
  have hty : ∀ r, 0 ≤ r → r < S 0 0 → tyo (V 15 (S 1 r) 0) = X 55 0 (S 1 r) := fun r r0 r1 => by
    rw [s15]
    exact (bridge hB.1 hT hf hMI hR (i1 r r0 r1).1 (i1 r r0 r1).2).1
  have hcf : ∀ r, 0 ≤ r → r < S 0 0 → cFc W V (S 1 r) = fcM X (S 1 r) := fun r r0 r1 => by
    unfold cFc
    rw [hty r r0 r1, s19]
    exact (bridge hB.1 hT hf hMI hR (i1 r r0 r1).1 (i1 r r0 r1).2).2.1
  refine ⟨by rw [cT.1, mT.1], fun _ => by rw [cR.1, mR.1], fun w => by rw [mT.1] at w; omega, fun r r0 r1 => ?_, fun w _ w0 w1 => ?_⟩
  · rw [mT.1] at r1
    obtain ⟨b1, b2, b3, b4⟩ := bridge hB.1 hT hf hMI hR (i1 r r0 r1).1 (i1 r r0 r1).2
    obtain ⟨t1, t2, t3, t4⟩ := cT.2.1 r r0 r1
    obtain ⟨v1, v2, v3⟩ := mV.1 r r0 r1
    rw [hfE] at v2 v3
    have h120 : (30 * 4 + r : Int) = 120 + r := by omega
    rw [h120]
    refine ⟨by rw [t3, hty r r0 r1, v1, m55], by rw [t4, hcf r r0 r1, v2], fun k k0 k1 => ?_, fun k k' k0 kk k1 => ?_⟩
    · rw [v2] at k1
      obtain ⟨g1, g2, g3⟩ := cV.1 r k r0 r1 k0 (by rw [hcf r r0 r1]; exact k1)
      obtain ⟨n1, n2, n3⟩ := v3 k k0 k1
      rw [hlE] at n2
      have b5 := b4 k k0 k1
      unfold rSf
      rw [h120]
      refine ⟨?_, ?_, by rw [g3, n3], fun u v => ?_⟩
      · rw [g1, n1, hty r r0 r1, s20, m45, m55]
        exact b5.1
      · rw [g2, n2]
        unfold cLa lnM
        rw [hty r r0 r1, s21]
        exact b5.2.1
      · rw [n2] at u
        rw [n3] at v
        rw [n2, n3]
        obtain ⟨y1, y2⟩ := hQ r k r0 r1 k0 k1 (Or.inl (by omega)) u v
        obtain ⟨o1, o2, -⟩ := mR.2 (S 5 (5 * r + k)) v y1
        obtain ⟨-, -, -, j6⟩ := i3 (S 5 (5 * r + k)) v y1
        rw [y2] at j6
        obtain ⟨g', -, hL⟩ := rw17 hB (i1 r r0 r1).1 (i1 r r0 r1).2 k0 k1 u j6
        obtain ⟨-, -, -, -, f5, -⟩ := hB.2.2.1 _ _ _ hL
        rw [mR.1]
        refine ⟨y1, ?_⟩
        rw [show (150 * 4 + S 5 (5 * r + k) : Int) = 600 + S 5 (5 * r + k) by omega, o2, o1, hrE, y2, e57]
        exact f5
    · rw [v2] at k1
      rw [(v3 k k0 (by omega)).1, (v3 k' (by omega) k1).1, m45, m55]
      exact hN (X 55 0 (S 1 r)) k k' (hR 55 0 _).1 (hMI.2.2.2.2.2 _ (i1 r r0 r1).1 (i1 r r0 r1).2) k0 kk k1
  · rw [mR.1] at w1
    obtain ⟨⟨j1, j2⟩, ⟨j3, j4⟩, j5, j6⟩ := i3 w w0 w1
    obtain ⟨g', hg', hL⟩ := rw17 hB j1 j2 j3 j4 j5 j6
    obtain ⟨f1, f2, f3, f4, f5, f6, f7⟩ := hB.2.2.1 _ _ _ hL
    obtain ⟨c1, c2⟩ := cR.2.1 w w0 w1
    obtain ⟨d1, d2, d3, d4⟩ := mR.2 w w0 w1
    have hri : cRid V (S 3 w) (S 4 w) = g' := by
      unfold cRid
      rw [f17, hg']
      rfl
    rw [hri] at c1 c2
    rw [show (150 * 4 + w : Int) = 600 + w by omega]
    refine ⟨by rw [c1, d3, d1, hrE, e58]; exact f6, fun i i0 i1' => ?_⟩
    have l12 := (hLn g').2
    have i2' : i < ln g' := by
      rw [c1] at i1'
      exact i1'
    rw [c2 i i0 i1', d4 i i0 (by omega), d1, hrE, e59, e27]
    exact f7 i i0 i2'
/-- a save's words in one place and in another -/
def sl2 (s s' : Int) (M M1 : Nat → Int → Int → Int) : Prop := (M1 70 0 s' = M 70 0 s ∧ M1 76 0 s' = M 76 0 s) ∧ (∀ j, 0 ≤ j → j < M 70 0 s → M1 71 0 (30 * s' + j) = M 71 0 (30 * s + j) ∧ M1 72 0 (30 * s' + j) = M 72 0 (30 * s + j)) ∧ (∀ j, 0 ≤ j → j < 5 * M 70 0 s → M1 73 0 (150 * s' + j) = M 73 0 (150 * s + j) ∧ M1 74 0 (150 * s' + j) = M 74 0 (150 * s + j) ∧ M1 75 0 (150 * s' + j) = M 75 0 (150 * s + j)) ∧ (∀ j, 0 ≤ j → j < M 76 0 s → M1 77 0 (150 * s' + j) = M 77 0 (150 * s + j) ∧ M1 78 0 (150 * s' + j) = M 78 0 (150 * s + j)) ∧ ∀ j, 0 ≤ j → j < 12 * M 76 0 s → M1 79 0 (1800 * s' + j) = M 79 0 (1800 * s + j)
/-- a save of the class as it was -/
def KE (X X1 : Nat → Int → Int → Int) (y : Int) : Prop := (X1 7 y 0 = X 7 y 0 ∧ X1 7 y 6 = X 7 y 6) ∧ ∀ κ ∈ [8, 9, 10, 11, 12, 13, 14], X1 κ y = X κ y
theorem KE.rf {y : Int} : KE X X y := ⟨⟨rfl, rfl⟩, fun _ _ => rfl⟩
theorem KE.tr {y : Int} (h : KE X X1 y) (k : KE X1 X2 y) : KE X X2 y := ⟨⟨k.1.1.trans h.1.1, k.1.2.trans h.1.2⟩, fun κ hκ => (k.2 κ hκ).trans (h.2 κ hκ)⟩
theorem rSv.mv {g s s' : Int} (h : rSv C M g s) (hs : sl2 s s' M M1) (hR : Rng M1) (hk : KE C C1 g) : rSv C1 M1 g s' := by
  obtain ⟨⟨e0, e6⟩, e⟩ := hk
  obtain ⟨a1, a2, a3, a4, a5⟩ := h
  obtain ⟨⟨s1, s2⟩, s3, s4, s5, s6⟩ := hs
  refine ⟨by rw [e0, s1]; exact a1, by rw [e6, s1, s2]; exact a2, by rw [e6, s1]; exact a3, fun r r0 r1 => ?_, fun w p w0 w1 => ?_⟩
  · rw [s1] at r1
    obtain ⟨b1, b2, b3, b4⟩ := a4 r r0 r1
    obtain ⟨t1, t2⟩ := s3 r r0 r1
    have r72 : 0 ≤ M1 72 0 (30 * s' + r) ∧ M1 72 0 (30 * s' + r) ≤ 5 := hR 72 0 _
    rw [t2] at r72
    have x73 : ∀ k, 0 ≤ k → k < 5 → M1 73 0 (5 * (30 * s' + r) + k) = M 73 0 (5 * (30 * s + r) + k) ∧ M1 74 0 (5 * (30 * s' + r) + k) = M 74 0 (5 * (30 * s + r) + k) ∧ M1 75 0 (5 * (30 * s' + r) + k) = M 75 0 (5 * (30 * s + r) + k) := fun k k0 k1 => by
      have h9 := s4 (5 * r + k) (by omega) (by omega)
      rw [show (150 * s + (5 * r + k) : Int) = 5 * (30 * s + r) + k by omega, show (150 * s' + (5 * r + k) : Int) = 5 * (30 * s' + r) + k by omega] at h9
      exact h9
    rw [t1, t2, e 8 (by decide), e 9 (by decide)]
    refine ⟨b1, b2, fun k k0 k1 => ?_, fun k k' k0 kk k1 => ?_⟩
    · obtain ⟨c1, c2, c3, c4⟩ := b3 k k0 k1
      obtain ⟨y1, y2, y3⟩ := x73 k k0 (by omega)
      unfold rSf
      rw [y1, y2, y3, s2, e 10 (by decide), e 11 (by decide), e 12 (by decide)]
      refine ⟨c1, c2, c3, fun u v => ?_⟩
      obtain ⟨d1, d2⟩ := c4 u v
      refine ⟨d1, ?_⟩
      rw [(s5 _ v d1).1]
      exact d2
    · rw [(x73 k k0 (by omega)).1, (x73 k' (by omega) (by omega)).1]
      exact b4 k k' k0 kk k1
  · rw [s1] at p
    rw [s2] at w1
    obtain ⟨b1, b2⟩ := a5 w p w0 w1
    have r78 : 0 ≤ M1 78 0 (150 * s' + w) ∧ M1 78 0 (150 * s' + w) ≤ 12 := hR 78 0 _
    have t8 := (s5 w w0 w1).2
    rw [t8] at r78
    rw [e 13 (by decide), e 14 (by decide), t8]
    refine ⟨b1, fun i i0 i1 => ?_⟩
    have h9 := s6 (12 * w + i) (by omega) (by omega)
    rw [show (1800 * s + (12 * w + i) : Int) = 12 * (150 * s + w) + i by omega, show (1800 * s' + (12 * w + i) : Int) = 12 * (150 * s' + w) + i by omega] at h9
    rw [h9]
    exact b2 i i0 i1
theorem sl2.of45 {s : Int} (h4 : S4 M M1) (h5 : S5 M M1) (hs : 0 ≤ s ∧ s < 4) (hR : Rng M) : sl2 s s M M1 := by
  have r70 : 0 ≤ M 70 0 s ∧ M 70 0 s ≤ 30 := hR 70 0 s
  have r76 : 0 ≤ M 76 0 s ∧ M 76 0 s ≤ 150 := hR 76 0 s
  exact ⟨⟨h4.1 s (by omega), h5.1 s (by omega)⟩, fun j a b => h4.2.1 _ (by omega), fun j a b => ⟨(h5.2.1 _ (by omega)).1, (h4.2.2 _ (by omega)).1, (h4.2.2 _ (by omega)).2⟩, fun j a b => ⟨(h5.2.1 _ (by omega)).2.1, (h5.2.1 _ (by omega)).2.2⟩, fun j a b => h5.2.2 _ (by omega)⟩
theorem sl2.tr {s : Int} (h : sl2 s s M M1) (k : sl2 s s M1 M2) : sl2 s s M M2 := by
  obtain ⟨⟨a1, a2⟩, a3, a4, a5, a6⟩ := h
  obtain ⟨⟨b1, b2⟩, b3, b4, b5, b6⟩ := k
  rw [a1] at b1 b3 b4
  rw [a2] at b2 b5 b6
  refine ⟨⟨b1, b2⟩, fun j x y => ?_, fun j x y => ?_, fun j x y => ?_, fun j x y => (b6 j x y).trans (a6 j x y)⟩
  · exact ⟨(b3 j x y).1.trans (a3 j x y).1, (b3 j x y).2.trans (a3 j x y).2⟩
  · exact ⟨(b4 j x y).1.trans (a4 j x y).1, (b4 j x y).2.1.trans (a4 j x y).2.1, (b4 j x y).2.2.trans (a4 j x y).2.2⟩
  · exact ⟨(b5 j x y).1.trans (a5 j x y).1, (b5 j x y).2.trans (a5 j x y).2⟩
theorem sl2.svn {sv : Int} (h : svC E M1 sv) : sl2 4 sv E M1 := by
  obtain ⟨a1, a2, -, h71, h72, h73, h74, h75, h77, h78, h79⟩ := h
  refine ⟨⟨a1, a2⟩, fun j a b => ?_, fun j a b => ?_, fun j a b => ?_, fun j a b => ?_⟩
  · rw [show (30 * 4 + j : Int) = 120 + j by omega]
    exact ⟨h71.at_ a b, h72.at_ a b⟩
  · rw [show (150 * 4 + j : Int) = 600 + j by omega]
    exact ⟨h73.at_ a b, h74.at_ a b, h75.at_ a b⟩
  · rw [show (150 * 4 + j : Int) = 600 + j by omega]
    exact ⟨h77.at_ a b, h78.at_ a b⟩
  · rw [show (1800 * 4 + j : Int) = 7200 + j by omega]
    exact h79.at_ a b
theorem sl2.svo {s sv : Int} (h : svC E M1 sv) (h30 : E 70 0 4 ≤ 30) (h150 : E 76 0 4 ≤ 150) (r70 : E 70 0 s ≤ 30) (r76 : E 76 0 s ≤ 150) (hn : s ≠ sv) : sl2 s s E M1 := by
  obtain ⟨-, -, ao, h71, h72, h73, h74, h75, h77, h78, h79⟩ := h
  exact ⟨ao s hn, fun j a b => ⟨h71.out (by omega), h72.out (by omega)⟩, fun j a b => ⟨h73.out (by omega), h74.out (by omega), h75.out (by omega)⟩, fun j a b => ⟨h77.out (by omega), h78.out (by omega)⟩, fun j a b => h79.out (by omega)⟩
/-- the saves' places are six, no two the same -/
theorem sl6_ne (h : rA6 Y) {s g g' : Int} (hs : 0 ≤ s ∧ s < 4) (e : Y 4 0 s = some g) (e' : Y 0 0 6 = some g') : g ≠ g' := fun w => by
  have h9 := h.2 s 4 hs.1 (by omega) (by decide) (by decide) (by unfold sl6; rw [if_pos hs.2, if_neg (by decide), if_pos rfl, e, e', w])
  omega
theorem sl6_ne7 (h : rA6 Y) {s g g' : Int} (hs : 0 ≤ s ∧ s < 4) (e : Y 4 0 s = some g) (e' : Y 0 0 7 = some g') : g ≠ g' := fun w => by
  have h9 := h.2 s 5 hs.1 (by omega) (by decide) (by decide) (by unfold sl6; rw [if_pos hs.2, if_neg (by decide), if_neg (by decide), e, e', w])
  omega
theorem gK.e {g y : Int} (h : gK g X X1) (hy : y ≠ g) : KE X X1 y := by
  obtain ⟨a, b8, b9, b10, b11, b12, b13, b14⟩ := h y hy
  refine ⟨a, fun κ hκ => ?_⟩
  simp only [List.mem_cons, List.not_mem_nil, or_false] at hκ
  rcases hκ with rfl | rfl | rfl | rfl | rfl | rfl | rfl
  · exact b8
  · exact b9
  · exact b10
  · exact b11
  · exact b12
  · exact b13
  · exact b14
theorem KE.frm {L : List Nat} (h : Frm L X X1) (hd : ∀ c ∈ [701, 707, 800, 900, 1000, 1100, 1200, 1300, 1400], c ∉ L) (y : Int) : KE X X1 y := gK.e (g := y + 1) (gK.frm h hd) (by omega)
theorem sl2.hi {s : Int} (h : sl2 s s X1 X2) (hi : ∀ κ, 40 ≤ κ → X1 κ = X κ) : sl2 s s X X2 := by
  unfold sl2 at *
  rw [hi 70 (by decide), hi 71 (by decide), hi 72 (by decide), hi 73 (by decide), hi 74 (by decide), hi 75 (by decide), hi 76 (by decide), hi 77 (by decide), hi 78 (by decide), hi 79 (by decide)] at h
  exact h
theorem sl2.frm {L : List Nat} {s : Int} (h : Frm L M M1) (hd : ∀ c ∈ [7000, 7100, 7200, 7300, 7400, 7500, 7600, 7700, 7800, 7900], c ∉ L) : sl2 s s M M1 := ⟨⟨h 70 0 _ (hd 7000 (by decide)), h 76 0 _ (hd 7600 (by decide))⟩, fun j _ _ => ⟨h 71 0 _ (hd 7100 (by decide)), h 72 0 _ (hd 7200 (by decide))⟩, fun j _ _ => ⟨h 73 0 _ (hd 7300 (by decide)), h 74 0 _ (hd 7400 (by decide)), h 75 0 _ (hd 7500 (by decide))⟩, fun j _ _ => ⟨h 77 0 _ (hd 7700 (by decide)), h 78 0 _ (hd 7800 (by decide))⟩, fun j _ _ => h 79 0 _ (hd 7900 (by decide))⟩
/-- the save's place and the spare one change places -/
theorem rA6.swap (h : rA6 Y) {sv a b : Int} (hs : 0 ≤ sv ∧ sv < 4) (ea : Y 4 0 sv = some a) (eb : Y 0 0 6 = some b) (f4 : ∀ i, i ≠ sv → Y1 4 0 i = Y 4 0 i) (f4s : Y1 4 0 sv = some b) (f6 : Y1 0 0 6 = some a) (f7 : Y1 0 0 7 = Y 0 0 7) : rA6 Y1 := by
  have tr : ∀ i, 0 ≤ i → i < 6 → ∃ j, (0 ≤ j ∧ j < 6) ∧ sl6 Y1 i = sl6 Y j ∧ (j = if i = sv then 4 else if i = 4 then sv else i) := fun i i0 i1 => by
    by_cases e1 : i = sv
    · refine ⟨4, ⟨by decide, by decide⟩, ?_, by rw [if_pos e1]⟩
      unfold sl6
      rw [e1, if_pos hs.2, if_neg (by decide), if_pos rfl, f4s, eb]
    · by_cases e2 : i = 4
      · refine ⟨sv, ⟨hs.1, by omega⟩, ?_, by rw [if_neg e1, if_pos e2]⟩
        unfold sl6
        rw [e2, if_pos hs.2, if_neg (by decide), if_pos rfl, f6, ea]
      · refine ⟨i, ⟨i0, i1⟩, ?_, by rw [if_neg e1, if_neg e2]⟩
        unfold sl6
        by_cases e3 : i < 4
        · rw [if_pos e3, if_pos e3, f4 i e1]
        · rw [if_neg e3, if_neg e3, if_neg e2, if_neg e2, f7]
  refine ⟨fun i i0 i1 => ?_, fun i j i0 i1 j0 j1 e => ?_⟩
  · obtain ⟨i', p, q, -⟩ := tr i i0 i1
    rw [q]
    exact h.1 i' p.1 p.2
  · obtain ⟨i', p, q, u⟩ := tr i i0 i1
    obtain ⟨j', p2, q2, u2⟩ := tr j j0 j1
    rw [q, q2] at e
    have h9 := h.2 i' j' p.1 p.2 p2.1 p2.2 e
    rw [u, u2] at h9
    split at h9 <;> (try split at h9) <;> (try split at h9) <;> (try split at h9) <;> omega
/-- the first difference, both sides -/
theorem row_eq {g o v sv : Int} (r1 : rSv C M g sv) (r2 : rSv C M o 4) (p1 : 0 < M 70 0 sv) (p2 : 0 < M 70 0 4) (v0 : 0 ≤ v) (v1 : v < M 76 0 sv) (v2 : v < M 76 0 4) (h77 : M 77 0 (150 * sv + v) = M 77 0 (600 + v)) : itE C g o v ↔ rdE M (150 * sv + v) (600 + v) := by
  obtain ⟨a1, a2⟩ := r1.2.2.2.2 v p1 v0 v1
  obtain ⟨b1, b2⟩ := r2.2.2.2.2 v p2 v0 v2
  rw [show (150 * 4 + v : Int) = 600 + v by omega] at b1 b2
  constructor
  · rintro ⟨t1, t2⟩
    refine ⟨h77, by rw [← a1, ← b1]; exact t1, fun k k0 k1 => ?_⟩
    rw [← a1] at k1
    rw [← a2 k k0 k1, ← b2 k k0 (by rw [← t1]; exact k1)]
    exact t2 k k0 k1
  · rintro ⟨-, t1, t2⟩
    rw [← a1, ← b1] at t1
    refine ⟨t1, fun k k0 k1 => ?_⟩
    rw [a2 k k0 k1, b2 k k0 (by rw [← t1]; exact k1)]
    exact t2 k k0 (by rw [← a1]; exact k1)
theorem df_eq {g o sv z z2 : Int} (r1 : rSv C M g sv) (r2 : rSv C M o 4) (hs : 0 ≤ sv ∧ sv < 4) (hMI : MInv M) (p1 : 0 < M 70 0 sv) (p2 : 0 < M 70 0 4) (d1 : dfP (mxC C g o) (shC C g o) (fun r => C 9 g r) (fun r f => vqC C g o (5 * r + f)) (fun r f => C 10 g (5 * r + f)) z) (d2 : dfP (mxM M sv) (shM M sv) (fun r => M 72 0 (30 * sv + r)) (vqM M sv) (fun r f => M 73 0 (5 * (30 * sv + r) + f)) z2) : z = z2 := by
  have emx : mxM M sv = mxC C g o := by
    unfold mxM mxC
    rw [r1.1, r2.1]
    (repeat' split) <;> omega
  rw [emx] at d2
  have ab : ∀ r, 0 ≤ r → r < M 70 0 sv → r < M 70 0 4 → (C 8 g r = M 71 0 (30 * sv + r) ∧ C 9 g r = M 72 0 (30 * sv + r) ∧ ∀ k, 0 ≤ k → k < M 72 0 (30 * sv + r) → C 10 g (5 * r + k) = M 73 0 (5 * (30 * sv + r) + k) ∧ C 11 g (5 * r + k) = M 74 0 (5 * (30 * sv + r) + k) ∧ C 12 g (5 * r + k) = M 75 0 (5 * (30 * sv + r) + k) ∧ (3 ≤ M 74 0 (5 * (30 * sv + r) + k) → 0 ≤ M 75 0 (5 * (30 * sv + r) + k) → M 75 0 (5 * (30 * sv + r) + k) < M 76 0 sv ∧ M 77 0 (150 * sv + M 75 0 (5 * (30 * sv + r) + k)) = M 74 0 (5 * (30 * sv + r) + k))) ∧ (C 8 o r = M 71 0 (120 + r) ∧ C 9 o r = M 72 0 (120 + r) ∧ ∀ k, 0 ≤ k → k < M 72 0 (120 + r) → C 10 o (5 * r + k) = M 73 0 (5 * (120 + r) + k) ∧ C 11 o (5 * r + k) = M 74 0 (5 * (120 + r) + k) ∧ C 12 o (5 * r + k) = M 75 0 (5 * (120 + r) + k) ∧ (3 ≤ M 74 0 (5 * (120 + r) + k) → 0 ≤ M 75 0 (5 * (120 + r) + k) → M 75 0 (5 * (120 + r) + k) < M 76 0 4 ∧ M 77 0 (600 + M 75 0 (5 * (120 + r) + k)) = M 74 0 (5 * (120 + r) + k))) := fun r r0 h1 h2 => by
    obtain ⟨a1, a2, a3, -⟩ := r1.2.2.2.1 r r0 h1
    obtain ⟨b1, b2, b3, -⟩ := r2.2.2.2.1 r r0 h2
    have h120 : (30 * 4 + r : Int) = 120 + r := by omega
    rw [h120] at b1 b2 b3
    refine ⟨⟨a1, a2, a3⟩, b1, b2, fun k k0 k1 => ?_⟩
    obtain ⟨c1, c2, c3, c4⟩ := b3 k k0 k1
    rw [h120] at c1 c2 c3 c4
    refine ⟨c1, c2, c3, fun u v => ?_⟩
    have c5 := c4 u v
    rw [show (150 * 4 + M 75 0 (5 * (120 + r) + k) : Int) = 600 + M 75 0 (5 * (120 + r) + k) by omega] at c5
    exact c5
  refine dfP_uniq d1 d2 (fun r r0 _ => ⟨⟨?_, ?_⟩, fun hsh => ?_⟩)
  · rintro ⟨h1, h2, h3, h4, h5⟩
    rw [r1.1] at h1
    rw [r2.1] at h2
    obtain ⟨⟨a1, a2, a3⟩, b1, b2, b3⟩ := ab r r0 h1 h2
    refine ⟨h1, h2, by rw [← a1, ← b1]; exact h3, by rw [← a2, ← b2]; exact h4, fun k k0 k1 => ?_⟩
    obtain ⟨c1, c2, -⟩ := a3 k k0 k1
    obtain ⟨e1, e2, -⟩ := b3 k k0 (by rw [← b2, ← h4, a2]; exact k1)
    obtain ⟨u1, u2⟩ := h5 k k0 (by rw [a2]; exact k1)
    exact ⟨by rw [← c1, ← e1]; exact u1, by rw [← c2, ← e2]; exact u2⟩
  · rintro ⟨h1, h2, h3, h4, h5⟩
    obtain ⟨⟨a1, a2, a3⟩, b1, b2, b3⟩ := ab r r0 h1 h2
    refine ⟨by rw [r1.1]; exact h1, by rw [r2.1]; exact h2, by rw [a1, b1]; exact h3, by rw [a2, b2]; exact h4, fun k k0 k1 => ?_⟩
    rw [a2] at k1
    obtain ⟨c1, c2, -⟩ := a3 k k0 k1
    obtain ⟨e1, e2, -⟩ := b3 k k0 (by rw [← h4]; exact k1)
    obtain ⟨u1, u2⟩ := h5 k k0 k1
    exact ⟨by rw [c1, e1]; exact u1, by rw [c2, e2]; exact u2⟩
  · obtain ⟨h1, h2, h3, h4, h5⟩ := hsh
    rw [r1.1] at h1
    rw [r2.1] at h2
    obtain ⟨⟨a1, a2, a3⟩, b1, b2, b3⟩ := ab r r0 h1 h2
    refine ⟨a2, fun f f0 f1 => ?_⟩
    have f1' : f < M 72 0 (30 * sv + r) := by
      rw [← a2]
      exact f1
    obtain ⟨c1, c2, c3, c4⟩ := a3 f f0 f1'
    obtain ⟨e1, e2, e3, e4⟩ := b3 f f0 (by rw [← b2, ← h4]; exact f1)
    obtain ⟨-, u2⟩ := h5 f f0 f1
    rw [c2, e2] at u2
    obtain ⟨-, -, m3⟩ := (hMI.2.2.1 sv r hs.1 (by omega) r0 h1).2 f f0 f1'
    refine ⟨⟨fun hq => ?_, fun hq => ?_⟩, c1⟩
    · obtain ⟨w1, w2⟩ := hq
      rw [c3, e3] at w1
      refine ⟨w1, fun l3 v0 => ?_⟩
      have it := w2 (by rw [c2]; omega) (by rw [c3]; omega)
      rw [c3] at it
      obtain ⟨t1, t2⟩ := c4 (by omega) v0
      obtain ⟨t3, t4⟩ := e4 (by omega) (by omega)
      rw [← w1] at t3 t4
      exact (row_eq r1 r2 p1 p2 v0 t1 t3 (by rw [t2, t4]; exact u2)).mp it
    · obtain ⟨w1, w2⟩ := hq
      refine ⟨by rw [c3, e3]; exact w1, fun l3 v0 => ?_⟩
      rw [c2] at l3
      rw [c3] at v0 ⊢
      have v1 := (m3 l3).1
      have v2 : 0 ≤ M 75 0 (5 * (30 * sv + r) + f) := by omega
      obtain ⟨t1, t2⟩ := c4 l3 v2
      obtain ⟨t3, t4⟩ := e4 (by omega) (by omega)
      rw [← w1] at t3 t4
      exact (row_eq r1 r2 p1 p2 v2 t1 t3 (by rw [t2, t4]; exact u2)).mpr (w2 (by omega) v2)
end RT
end
section
/-! verdicts, saves, likeness, differences: both sides -/
section JS2
variable {cnt cnt1 : Nat → Int} {X X1 X2 : Nat → Int → Int → Int} {Y Y1 : Nat → Int → Int → Option Int} {ln ln1 : Int → Int} {c c1 : Int} {L N K : List Nat}
theorem J_judge {z z2 x : Int} (h : RC cnt X Y ln) (hMI : MInv X) (hR : Rng X) (hR1 : Rng X1) (hLn : LnL ln) (hN9 : 0 ≤ cnt 25 ∧ 0 ≤ cnt 26) (hF : Frm [] X X1) (p : ((¬ (0 ≤ x ∧ x < X 0 0 3) ∧ z = -1) ∨ ((0 ≤ x ∧ x < X 0 0 3) ∧ ∃ how, jdC X Y ln x how ∧ ((how = 0 ∧ z = 1) ∨ (how ≠ 0 ∧ z = -10 - how)))) ∧ X1 = X) (hG : Frm [4001, 4029] X1 X2) (hM2 : MInv X2) (q : ((¬ (0 ≤ x ∧ x < X1 40 0 13) ∧ z2 = -1) ∨ ((0 ≤ x ∧ x < X1 40 0 13) ∧ ∃ how, jdM X1 x how ∧ ((how = 0 ∧ z2 = 1) ∨ (how ≠ 0 ∧ z2 = -10 - how))))) (hCI : CInv cnt X Y ln) : RC cnt X2 Y ln ∧ z = z2 := by
  obtain ⟨⟨hT, hM, hW, hC, hf⟩, hB, hK, hS, h6, hN⟩ := id h
  obtain ⟨p, eX⟩ := p
  rw [eX] at hG q
  refine ⟨RC_of (L := []) (N := []) (X1 := X) h Frm.rf Frm.rf hG (by decide) (by decide) (by decide) (Int.le_refl _) (hB.mdl hG (by decide) (by decide)), ?_⟩
  have h3 := hB.1.1.1
  have hty : ∀ t, 0 ≤ t → t < X 0 0 1 → X 19 t 0 = t := fun t a b => (hCI.2.2.2.1.2 t a b).2
  rcases p with ⟨p1, p2⟩ | ⟨p1, how, p3, p4⟩ <;> rcases q with ⟨q1, q2⟩ | ⟨q1, how2, q3, q4⟩
  · omega
  · omega
  · omega
  · have e := jd_eq hB.1 hT hf hC hK hMI hR hLn hty q1 p3 q3
    omega
theorem J_save {z z2 sv x : Int} (h : RC cnt X Y ln) (hMI : MInv X) (hR : Rng X) (hR1 : Rng X1) (hLn : LnL ln) (hN9 : 0 ≤ cnt 25 ∧ 0 ≤ cnt 26) (hF : Frm [701, 707, 800, 900, 1000, 1100, 1200, 1300, 1400, 1504, 2602, 3201, 3202, 3203, 3204] X X1) (hH : Frm [500, 400, 7] Y Y1) (p : cRv X1 ∧ ((¬ ((0 ≤ sv ∧ sv < 4) ∧ (0 ≤ x ∧ x < X 0 0 3)) ∧ z = -1 ∧ X1 = X ∧ Y1 = Y) ∨ (((0 ≤ sv ∧ sv < 4) ∧ (0 ≤ x ∧ x < X 0 0 3)) ∧ ∃ (q : Int) (W : Nat → Int → Int → Int) (V : Nat → Int → Int → Option Int) (zs : Int), Y 0 0 6 = some q ∧ (0 ≤ q ∧ q < 6) ∧ rcT W V q (recR (cFc X Y) (cLa X Y) (cVl X Y) (cRid Y) x 30) ∧ rcR W V ln q (recR (cFc X Y) (cLa X Y) (cVl X Y) (cRid Y) x 30) ∧ rcV W V q (recR (cFc X Y) (cLa X Y) (cVl X Y) (cRid Y) x 30) (recR (cFc X Y) (cLa X Y) (cVl X Y) (cRid Y) x 30 0 0) 0 ∧ gK q X W ∧ Frm [701, 707, 800, 900, 1000, 1100, 1200, 1300, 1400, 1504, 2602] X W ∧ Frm [500] Y V ∧ ((zs = -1 ∧ ∀ r x k, 0 ≤ r → r < W 7 q 0 → V 5 0 r = some x → 0 ≤ k → k < cFc W V x → W 23 (tyo (V 15 x 0)) k = 0) ∨ (0 ≤ zs ∧ ∃ r x k, 0 ≤ r ∧ r < W 7 q 0 ∧ V 5 0 r = some x ∧ 0 ≤ k ∧ k < cFc W V x ∧ W 23 (tyo (V 15 x 0)) k ≠ 0)) ∧ ((0 ≤ zs ∧ z = -20 ∧ Frm [3201, 3202, 3203, 3204] W X1 ∧ Y1 = V) ∨ (zs = -1 ∧ z = W 7 q 0 ∧ X1 = W ∧ ∃ q2, Y 4 0 sv = some q2 ∧ Y1 = u3 (u3 V 4 0 sv (some q)) 0 0 6 (some q2)))))) (hG : Frm [4001, 7100, 7200, 7300, 7400, 7500, 8000, 7000, 8100, 7700, 7800, 7900, 7600, 4042, 4043, 4044] X1 X2) (hM2 : MInv X2) (q : ((¬ ((0 ≤ sv ∧ sv < 4) ∧ (0 ≤ x ∧ x < X1 40 0 13)) ∧ z2 = -1 ∧ Frm [4001] X1 X2) ∨ (((0 ≤ sv ∧ sv < 4) ∧ (0 ≤ x ∧ x < X1 40 0 13)) ∧ z2 = -20 ∧ (∃ r k, 0 ≤ r ∧ r < recR (fcM X1) (lnM X1) (mRid X1) (mRid X1) x 30 0 0 ∧ 0 ≤ k ∧ k < fcM X1 (recR (fcM X1) (lnM X1) (mRid X1) (mRid X1) x 30 1 r) ∧ X1 48 0 (5 * X1 55 0 (recR (fcM X1) (lnM X1) (mRid X1) (mRid X1) x 30 1 r) + k) ≠ 0) ∧ S4 X1 X2 ∧ S5 X1 X2) ∨ (((0 ≤ sv ∧ sv < 4) ∧ (0 ≤ x ∧ x < X1 40 0 13)) ∧ z2 = recR (fcM X1) (lnM X1) (mRid X1) (mRid X1) x 30 0 0 ∧ 0 ≤ z2 ∧ (∀ r k, 0 ≤ r → r < recR (fcM X1) (lnM X1) (mRid X1) (mRid X1) x 30 0 0 → 0 ≤ k → k < fcM X1 (recR (fcM X1) (lnM X1) (mRid X1) (mRid X1) x 30 1 r) → X1 48 0 (5 * X1 55 0 (recR (fcM X1) (lnM X1) (mRid X1) (mRid X1) x 30 1 r) + k) = 0) ∧ ∃ E : Nat → Int → Int → Int, rmT E (recR (fcM X1) (lnM X1) (mRid X1) (mRid X1) x 30) ∧ rmR E (recR (fcM X1) (lnM X1) (mRid X1) (mRid X1) x 30) ∧ rmV E (recR (fcM X1) (lnM X1) (mRid X1) (mRid X1) x 30) (recR (fcM X1) (lnM X1) (mRid X1) (mRid X1) x 30 0 0) 0 ∧ S4 X1 E ∧ S5 X1 E ∧ mSt X1 E ∧ E 57 = X1 57 ∧ E 58 = X1 58 ∧ E 59 = X1 59 ∧ E 56 = X1 56 ∧ svC E X2 sv))) (hR2 : Rng X2) : RC cnt X2 Y1 ln ∧ z = z2 := by
  obtain ⟨⟨hT, hM, hW, hC, hf⟩, hB, hK, hS, h6, hN⟩ := id h
  have hi := hF.hi (by decide)
  have e40 := hi 40 (by decide)
  have h3 := hB.1.1.1
  obtain ⟨-, p⟩ := p
  have fin : rS X2 Y1 X2 → rA6 Y1 → RC cnt X2 Y1 ln := fun a b => ⟨⟨(hT.frm hF (by decide)).frm hG (by decide), (hM.frm hF (by decide)).frm hG (by decide), (hW.frm hF (by decide)).frm hG (by decide), (hC.frm hF (by decide)).frm hG (by decide), (hf.frm hF (by decide)).frm hG (by decide)⟩, (hB.cls hF hH (by decide) (by decide) (by decide)).mdl hG (by decide) (by decide), (hK.frm hF hH (by decide) (by decide) (Int.le_refl _)).frm (N := []) hG Frm.rf (by decide) (by decide) (Int.le_refl _), a, b, (hN.frm hF (by decide)).frm hG (by decide)⟩
  obtain ⟨d1, d2, d3⟩ := rdr_eq hF (by decide)
  rw [d1, d2, d3, e40, hi 48 (by decide), hi 55 (by decide)] at q
  by_cases hc : (0 ≤ sv ∧ sv < 4) ∧ (0 ≤ x ∧ x < X 40 0 13)
  · rcases p with ⟨p0, -⟩ | ⟨-, g, W, V, zs, e6, g6, cT, cR, cV, kG, kF, kV, psh, pe⟩
    · exact absurd (by rw [h3]; exact hc) p0
    have eS := recR_alk (alkX hB.1 hT hf hMI hR) (fun y _ _ => (hR 44 0 _).1) hc.2 30
    rw [← eS.1] at cT cR cV
    obtain ⟨S, hSd⟩ : ∃ S, S = recR (fcM X) (lnM X) (mRid X) (mRid X) x 30 := ⟨_, rfl⟩
    rw [← hSd] at cT cR cV q eS
    have hI := eS.2
    have cS := cSt.of kF kV (by decide) (by decide)
    have fcE : ∀ r, 0 ≤ r → r < S 0 0 → cFc W V (S 1 r) = fcM X (S 1 r) := fun r r0 r1 => by
      obtain ⟨b1, b2, b3, b4⟩ := bridge hB.1.1 hT hf hMI hR (hI.2.1 r r0 r1).1 (hI.2.1 r r0 r1).2
      unfold cFc
      rw [cS.2.2.2, b1, cS.1]
      exact b2
    have sh : ∀ r k, 0 ≤ r → r < S 0 0 → 0 ≤ k → k < fcM X (S 1 r) → W 23 (tyo (V 15 (S 1 r) 0)) k = X 48 0 (5 * X 55 0 (S 1 r) + k) := fun r k r0 r1 k0 k1 => by
      obtain ⟨b1, b2, b3, b4⟩ := bridge hB.1.1 hT hf hMI hR (hI.2.1 r r0 r1).1 (hI.2.1 r r0 r1).2
      rw [kF.arr 23 (by decide +kernel) (by decide), cS.2.2.2, b1]
      exact (b4 k k0 k1).2.2.2
    rcases psh with ⟨z0, nosh⟩ | ⟨z0, r, y, k, r0, r1, e5, k0, k1, ne⟩
    · rcases q with ⟨q0, -⟩ | ⟨-, -, ⟨r, k, r0, r1, k0, k1, ne⟩, -⟩ | ⟨-, q2, q3, -, E, mT, mR, mV, s4, s5, mS, e57, e58, e59, e56, hsv⟩
      · exact absurd hc q0
      · exfalso
        have h9 := nosh r (S 1 r) k r0 (by rw [cT.1]; exact r1) (cT.2.1 r r0 r1).1 k0 (by rw [fcE r r0 r1]; exact k1)
        rw [sh r k r0 r1 k0 k1] at h9
        exact ne h9
      · rcases pe with ⟨w, -⟩ | ⟨-, pz, eX, g2, e2, eY⟩
        · omega
        · have r70 : 0 ≤ X2 70 0 sv ∧ X2 70 0 sv ≤ 30 := hR2 70 0 sv
          have r76 : 0 ≤ X2 76 0 sv ∧ X2 76 0 sv ≤ 150 := hR2 76 0 sv
          have s70 := hsv.1
          have s76 := hsv.2.1
          have t70 := mT.1
          have hsvE : rSv W E g 4 := rec_sv hB.1 hT hf hMI hR hLn hN hc.2 hSd cT cR cV cS (kF.arr 27 (by decide +kernel) (by decide)) (kV.arr 17 (by decide +kernel) (by decide)) mT mR mV ⟨mS.1.trans (hi 44 (by decide)), mS.2.1.trans (hi 45 (by decide)), mS.2.2.1.trans (hi 46 (by decide)), mS.2.2.2.trans (hi 55 (by decide))⟩ (e56.trans (hi 56 (by decide))) (e57.trans (hi 57 (by decide))) (e58.trans (hi 58 (by decide))) (e59.trans (hi 59 (by decide))) (by omega)
          have v4 : ∀ i, V 4 0 i = Y 4 0 i := fun i => kV 4 0 i (show 400 ∉ _ by decide)
          have v6 : V 0 0 6 = Y 0 0 6 := kV 0 0 6 (show 7 ∉ _ by decide)
          have f4s : Y1 4 0 sv = some g := by rw [eY, u3_k _ _ _ _ (by first | exact Nat.ne_of_beq_eq_false rfl | decide), u3_s]
          have f4 : ∀ i, i ≠ sv → Y1 4 0 i = V 4 0 i := fun i hn => by
            rw [eY, u3_k _ _ _ _ (by first | exact Nat.ne_of_beq_eq_false rfl | decide)]
            simp only [u3]
            rw [if_neg (fun w => hn w.2.2)]
          have f6 : Y1 0 0 6 = some g2 := by rw [eY, u3_s]
          have f7 : Y1 0 0 7 = V 0 0 7 := by
            rw [eY]
            simp only [u3]
            rw [if_neg (by decide), if_neg (fun w => absurd w.1 (by decide))]
          have hGW := hG
          rw [eX] at hGW
          refine ⟨fin (fun s g' s0 s1 e => ?_) ((h6.frm kV (by decide)).swap (sv := sv) hc.1 ((v4 sv).trans e2) (v6.trans e6) f4 f4s f6 f7), by rw [pz, q2, cT.1]⟩
          by_cases es : s = sv
          · rw [es, f4s] at e
            rw [es, ← Option.some.inj e]
            exact hsvE.mv (sl2.svn hsv) hR2 (KE.frm hGW (by decide) g)
          · have e' : Y 4 0 s = some g' := by
              rw [← v4, ← f4 s es]
              exact e
            have t70' : 0 ≤ X1 70 0 s ∧ X1 70 0 s ≤ 30 := hR1 70 0 s
            have t76' : 0 ≤ X1 76 0 s ∧ X1 76 0 s ≤ 150 := hR1 76 0 s
            have u70 := s4.1 s (by omega)
            have u76 := s5.1 s (by omega)
            exact (hS s g' s0 s1 e').mv (((sl2.of45 s4 s5 ⟨s0, s1⟩ hR1).tr (sl2.svo hsv (by omega) (by omega) (by omega) (by omega) es)).hi hi) hR2 ((gK.e kG (sl6_ne h6 ⟨s0, s1⟩ e' e6)).tr (KE.frm hGW (by decide) g'))
    · rw [cT.1] at r1
      have e5' := (cT.2.1 r r0 r1).1
      rw [e5'] at e5
      have ey := Option.some.inj e5
      rw [← ey] at k1 ne
      rw [fcE r r0 r1] at k1
      rw [sh r k r0 r1 k0 k1] at ne
      rcases q with ⟨q0, -⟩ | ⟨-, q2, -, s4, s5⟩ | ⟨-, -, -, no, -⟩
      · exact absurd hc q0
      · rcases pe with ⟨-, pz, f3, eY⟩ | ⟨w, -⟩
        · refine ⟨fin (fun s g' s0 s1 e => ?_) (by rw [eY]; exact h6.frm kV (by decide)), by omega⟩
          have e' : Y 4 0 s = some g' := by
            rw [eY, kV 4 0 s (show 400 ∉ _ by decide)] at e
            exact e
          exact (hS s g' s0 s1 e').mv ((sl2.of45 s4 s5 ⟨s0, s1⟩ hR1).hi hi) hR2 (((gK.e kG (sl6_ne h6 ⟨s0, s1⟩ e' e6)).tr (KE.frm f3 (by decide) g')).tr (KE.frm hG (by decide) g'))
        · omega
      · exact absurd (no r k r0 r1 k0 k1) ne
  · rcases p with ⟨-, pz, eX, eY⟩ | ⟨pc, -⟩
    · rcases q with ⟨-, qz, qf⟩ | ⟨qc, -⟩ | ⟨qc, -⟩
      · rw [eX] at qf
        rw [eY]
        exact ⟨RC_of (L := []) (N := []) (X1 := X) h Frm.rf Frm.rf qf (by decide) (by decide) (by decide) (Int.le_refl _) (hB.mdl qf (by decide) (by decide)), by omega⟩
      · exact absurd qc hc
      · exact absurd qc hc
    · exact absurd (by rw [← h3]; exact pc) hc
theorem J_like {z z2 x y : Int} (h : RC cnt X Y ln) (hMI : MInv X) (hR : Rng X) (hR1 : Rng X1) (hLn : LnL ln) (hN9 : 0 ≤ cnt 25 ∧ 0 ≤ cnt 26) (hF : Frm [701, 707, 800, 900, 1000, 1100, 1200, 1300, 1400, 1504, 2602] X X1) (hH : Frm [500] Y Y1) (p : cRv X1 ∧ ((X1 = X ∧ Y1 = Y) ∨ ∃ (q q2 : Int) (W : Nat → Int → Int → Int), Y 0 0 6 = some q ∧ Y 0 0 7 = some q2 ∧ gK q X W ∧ gK q2 W X1)) (hG : Frm [4001, 8600, 8700, 9000, 4051, 8800, 8900] X1 X2) (hM2 : MInv X2) (q : True) (hR2 : Rng X2) : RC cnt X2 Y1 ln := by
  obtain ⟨⟨hT, hM, hW, hC, hf⟩, hB, hK, hS, h6, hN⟩ := id h
  have hi := hF.hi (by decide)
  obtain ⟨-, p⟩ := p
  have fin : rS X2 Y1 X2 → rA6 Y1 → RC cnt X2 Y1 ln := fun a b => ⟨⟨(hT.frm hF (by decide)).frm hG (by decide), (hM.frm hF (by decide)).frm hG (by decide), (hW.frm hF (by decide)).frm hG (by decide), (hC.frm hF (by decide)).frm hG (by decide), (hf.frm hF (by decide)).frm hG (by decide)⟩, (hB.cls hF hH (by decide) (by decide) (by decide)).mdl hG (by decide) (by decide), (hK.frm hF hH (by decide) (by decide) (Int.le_refl _)).frm (N := []) hG Frm.rf (by decide) (by decide) (Int.le_refl _), a, b, (hN.frm hF (by decide)).frm hG (by decide)⟩
  refine fin (fun s g' s0 s1 e => ?_) (h6.frm hH (by decide))
  have e' : Y 4 0 s = some g' := by
    rw [← hH 4 0 s (show 400 ∉ _ by decide)]
    exact e
  have kE : KE X X1 g' := by
    rcases p with ⟨eX, -⟩ | ⟨a, b, W, e6, e7, k1, k2⟩
    · rw [eX]
      exact KE.rf
    · exact (gK.e k1 (sl6_ne h6 ⟨s0, s1⟩ e' e6)).tr (gK.e k2 (sl6_ne7 h6 ⟨s0, s1⟩ e' e7))
  exact (hS s g' s0 s1 e').mv ((sl2.frm hG (by decide)).hi hi) hR2 (kE.tr (KE.frm hG (by decide) g'))
theorem J_differs {z z2 sv x : Int} (h : RC cnt X Y ln) (hMI : MInv X) (hR : Rng X) (hR1 : Rng X1) (hLn : LnL ln) (hN9 : 0 ≤ cnt 25 ∧ 0 ≤ cnt 26) (hF : Frm [701, 707, 800, 900, 1000, 1100, 1200, 1300, 1400, 1504, 2602] X X1) (hH : Frm [500] Y Y1) (p : cRv X1 ∧ ((¬ ((0 ≤ sv ∧ sv < 4) ∧ X 7 (tyo (Y 4 0 sv)) 0 ≠ 0 ∧ (0 ≤ x ∧ x < X 0 0 3)) ∧ z = -2 ∧ X1 = X ∧ Y1 = Y) ∨ (((0 ≤ sv ∧ sv < 4) ∧ X 7 (tyo (Y 4 0 sv)) 0 ≠ 0 ∧ (0 ≤ x ∧ x < X 0 0 3)) ∧ ∃ (q q2 : Int), Y 0 0 6 = some q ∧ Y 4 0 sv = some q2 ∧ (rcT X1 Y1 q (recR (cFc X Y) (cLa X Y) (cVl X Y) (cRid Y) x 30) ∧ rcR X1 Y1 ln q (recR (cFc X Y) (cLa X Y) (cVl X Y) (cRid Y) x 30) ∧ rcV X1 Y1 q (recR (cFc X Y) (cLa X Y) (cVl X Y) (cRid Y) x 30) (recR (cFc X Y) (cLa X Y) (cVl X Y) (cRid Y) x 30 0 0) 0) ∧ gK q X X1 ∧ dfP (mxC X1 q2 q) (shC X1 q2 q) (fun r => X1 9 q2 r) (fun r f => vqC X1 q2 q (5 * r + f)) (fun r f => X1 10 q2 (5 * r + f)) z))) (hG : Frm [4001, 7100, 7200, 7300, 7400, 7500, 8000, 7000, 8100, 7700, 7800, 7900, 7600, 4042, 4043, 4044] X1 X2) (hM2 : MInv X2) (q : S4 X1 X2 ∧ S5 X1 X2 ∧ ((¬ ((0 ≤ sv ∧ sv < 4) ∧ X1 70 0 sv ≠ 0 ∧ (0 ≤ x ∧ x < X1 40 0 13)) ∧ z2 = -2) ∨ (((0 ≤ sv ∧ sv < 4) ∧ X1 70 0 sv ≠ 0 ∧ (0 ≤ x ∧ x < X1 40 0 13)) ∧ (rmT X2 (recR (fcM X1) (lnM X1) (mRid X1) (mRid X1) x 30) ∧ rmR X2 (recR (fcM X1) (lnM X1) (mRid X1) (mRid X1) x 30) ∧ rmV X2 (recR (fcM X1) (lnM X1) (mRid X1) (mRid X1) x 30) (recR (fcM X1) (lnM X1) (mRid X1) (mRid X1) x 30 0 0) 0) ∧ dfP (mxM X2 sv) (shM X2 sv) (fun r => X2 72 0 (30 * sv + r)) (vqM X2 sv) (fun r f => X2 73 0 (5 * (30 * sv + r) + f)) z2))) (hR2 : Rng X2) : RC cnt X2 Y1 ln ∧ z = z2 := by
  obtain ⟨⟨hT, hM, hW, hC, hf⟩, hB, hK, hS, h6, hN⟩ := id h
  have hi := hF.hi (by decide)
  have e40 := hi 40 (by decide)
  have h3 := hB.1.1.1
  obtain ⟨-, p⟩ := p
  obtain ⟨s4, s5, q⟩ := q
  have fin : rS X2 Y1 X2 → rA6 Y1 → RC cnt X2 Y1 ln := fun a b => ⟨⟨(hT.frm hF (by decide)).frm hG (by decide), (hM.frm hF (by decide)).frm hG (by decide), (hW.frm hF (by decide)).frm hG (by decide), (hC.frm hF (by decide)).frm hG (by decide), (hf.frm hF (by decide)).frm hG (by decide)⟩, (hB.cls hF hH (by decide) (by decide) (by decide)).mdl hG (by decide) (by decide), (hK.frm hF hH (by decide) (by decide) (Int.le_refl _)).frm (N := []) hG Frm.rf (by decide) (by decide) (Int.le_refl _), a, b, (hN.frm hF (by decide)).frm hG (by decide)⟩
  have kE : ∀ s g', 0 ≤ s → s < 4 → Y 4 0 s = some g' → KE X X1 g' := fun s g' s0 s1 e' => by
    rcases p with ⟨-, -, eX, -⟩ | ⟨-, a, b, e6, -, -, kG, -⟩
    · rw [eX]
      exact KE.rf
    · exact gK.e kG (sl6_ne h6 ⟨s0, s1⟩ e' e6)
  have rs : rS X2 Y1 X2 := fun s g' s0 s1 e => by
    have e' : Y 4 0 s = some g' := by
      rw [← hH 4 0 s (show 400 ∉ _ by decide)]
      exact e
    exact (hS s g' s0 s1 e').mv ((sl2.of45 s4 s5 ⟨s0, s1⟩ hR1).hi hi) hR2 ((kE s g' s0 s1 e').tr (KE.frm hG (by decide) g'))
  refine ⟨fin rs (h6.frm hH (by decide)), ?_⟩
  have sv7 : 0 ≤ sv → sv < 4 → X 7 (tyo (Y 4 0 sv)) 0 = X 70 0 sv := fun a b => by
    obtain ⟨g, g1, -⟩ := h6.1 sv a (by omega)
    unfold sl6 at g1
    rw [if_pos b] at g1
    rw [tyo_some g1]
    exact (hS sv g a b g1).1
  obtain ⟨d1, d2, d3⟩ := rdr_eq hF (by decide)
  rw [d1, d2, d3, e40, hi 70 (by decide)] at q
  rcases p with ⟨pn, pz, -⟩ | ⟨pc, g, g2, e6, e2, ⟨cT, cR, cV⟩, kG, pd⟩
  · rcases q with ⟨-, qz⟩ | ⟨qc, -⟩
    · omega
    · exact absurd ⟨qc.1, by rw [sv7 qc.1.1 qc.1.2]; exact qc.2.1, by rw [h3]; exact qc.2.2⟩ pn
  · rcases q with ⟨qn, -⟩ | ⟨qc, ⟨mT, mR, mV⟩, qd⟩
    · exact absurd ⟨pc.1, by rw [← sv7 pc.1.1 pc.1.2]; exact pc.2.1, by rw [← h3]; exact pc.2.2⟩ qn
    · have eS := recR_alk (alkX hB.1 hT hf hMI hR) (fun y _ _ => (hR 44 0 _).1) qc.2.2 30
      rw [← eS.1] at cT cR cV
      have r70 : 0 ≤ X2 70 0 4 ∧ X2 70 0 4 ≤ 30 := hR2 70 0 4
      have t70 := mT.1
      have pp := recR_pos (fc := fcM X) (la := lnM X) (vl := mRid X) (rid := mRid X) (x := x) 30
      have hg : ∀ κ, 40 ≤ κ → κ < 60 → κ ≠ 40 → (lay κ).1 = 0 → κ * 100 ∉ [4001, 7100, 7200, 7300, 7400, 7500, 8000, 7000, 8100, 7700, 7800, 7900, 7600, 4042, 4043, 4044] → X2 κ = X κ := fun κ a _ _ l n => (hG.arr κ l n).trans (hi κ a)
      have r2 : rSv X1 X2 g 4 := rec_sv hB.1 hT hf hMI hR hLn hN qc.2.2 rfl cT cR cV (cSt.of hF hH (by decide) (by decide)) (hF.arr 27 (by decide +kernel) (by decide)) (hH.arr 17 (by decide +kernel) (by decide)) mT mR mV ⟨hg 44 (by decide) (by decide) (by decide) (by decide +kernel) (by decide), hg 45 (by decide) (by decide) (by decide) (by decide +kernel) (by decide), hg 46 (by decide) (by decide) (by decide) (by decide +kernel) (by decide), hg 55 (by decide) (by decide) (by decide) (by decide +kernel) (by decide)⟩ (hg 56 (by decide) (by decide) (by decide) (by decide +kernel) (by decide)) (hg 57 (by decide) (by decide) (by decide) (by decide +kernel) (by decide)) (hg 58 (by decide) (by decide) (by decide) (by decide +kernel) (by decide)) (hg 59 (by decide) (by decide) (by decide) (by decide +kernel) (by decide)) (by omega)
      have r1 : rSv X1 X2 g2 sv := (hS sv g2 qc.1.1 qc.1.2 e2).mv ((sl2.of45 s4 s5 qc.1 hR1).hi hi) hR2 (kE sv g2 qc.1.1 qc.1.2 e2)
      have q70 : X2 70 0 sv = X 70 0 sv := by rw [s4.1 sv (by omega), hi 70 (by decide)]
      have r70s : 0 ≤ X2 70 0 sv ∧ X2 70 0 sv ≤ 30 := hR2 70 0 sv
      have q71 := qc.2.1
      exact df_eq r1 r2 qc.1 hM2 (by omega) (by omega) pd qd
end JS2
end
section
/-! putting back, both sides -/
section PB
variable {A B C C1 M M1 : Nat → Int → Int → Int} {Y Y1 YA : Nat → Int → Int → Option Int} {ln ln1 : Int → Int} {c c1 sv g bs rule : Int}
/-- a value comes to a place, no note of it -/
theorem RB_putv {x k v : Int} (h : RB c C Y ln M) (hf : ∀ y, fcM M y ≤ 5) (hp : 0 ≤ x ∧ x < M 40 0 13 ∧ 0 ≤ k ∧ k < fcM M x) (hl3 : lnM M x k < 3) (hl12 : LnL ln) : RB c (u3 C 16 x k v) Y ln (u3 M 56 0 (5 * x + k) v) := by
  have eM : ∀ κ, κ ≠ 56 → u3 M 56 0 (5 * x + k) v κ = M κ := fun κ hκ => u3_k _ _ _ _ hκ
  have eC : ∀ κ, κ ≠ 16 → u3 C 16 x k v κ = C κ := fun κ hκ => u3_k _ _ _ _ hκ
  have hl : lnM (u3 M 56 0 (5 * x + k) v) = lnM M := by
    funext a b
    unfold lnM
    rw [eM 46 (by decide), eM 55 (by decide)]
  have hcf : fcM (u3 M 56 0 (5 * x + k) v) = fcM M := by
    funext a
    unfold fcM
    rw [eM 44 (by decide), eM 55 (by decide)]
  have e13 : u3 M 56 0 (5 * x + k) v 40 0 13 = M 40 0 13 := by rw [eM 40 (by decide)]
  refine RB_of h ⟨eC 28 (by decide), rfl, eC 31 (by decide), eC 27 (by decide), fun q hq => eM q (by simp only [List.mem_cons, List.not_mem_nil, or_false] at hq; omega), by rw [eM 40 (by decide)], by rw [eM 40 (by decide)]⟩ (Int.le_refl _) (fun _ _ _ => rfl) hl12 (fun n _ _ _ => by rw [hl]) ⟨by rw [eC 0 (by decide), e13]; exact h.1.1, fun y y0 y1 => ?_⟩ (fun g r l q => ?_)
  · rw [e13] at y1
    obtain ⟨a1, a2⟩ := h.1.2 y y0 y1
    rw [eM 55 (by decide), hcf, hl]
    refine ⟨a1, fun j j0 j1 => ?_⟩
    obtain ⟨b1, b2⟩ := a2 j j0 j1
    have := hf y
    have := hf x
    by_cases e : y = x ∧ j = k
    · obtain ⟨rfl, rfl⟩ := e
      rw [u3_s, u3_s]
      exact ⟨fun _ => rfl, fun q => by omega⟩
    · rw [u3_ij2 e, u3_at (fun w => e (by omega))]
      exact ⟨b1, b2⟩
  · obtain ⟨y, j, y0, y1, j0, j1, jl, l3, jy, jr⟩ := q
    rw [e13] at y1
    rw [hcf] at j1
    rw [hl] at jl
    have := hf y
    have := hf x
    have e : ¬ (y = x ∧ j = k) := fun e => by
      obtain ⟨rfl, rfl⟩ := e
      omega
    rw [u3_at (fun w => e (by omega))] at jr
    exact Or.inl ⟨y, j, y0, y1, j0, j1, jl, l3, jy, jr⟩
/-- a row comes to a place, no note of it -/
theorem RB_putr {x k g0 r0 : Int} {ro : Option Int} (h : RB c C Y ln M) (kC : KpC C C1 Y Y1) (h28 : ∀ n, C1 28 n 1 = C 28 n 1 ∧ C1 28 n 2 = C 28 n 2) (y28 : Y1 28 = Y 28) (kM : KpM M M1) (k22 : M1 40 0 22 = M 40 0 22) (kk : ∀ q ∈ [64, 65, 66, 67, 68], M1 q = M q) (hf : ∀ y, fcM M y ≤ 5) (hp : 0 ≤ x ∧ x < M 40 0 13 ∧ 0 ≤ k ∧ k < fcM M x) (hl3 : 3 ≤ lnM M x k)
    (hv : Y1 17 x k = ro) (ho : ∀ y j, ¬ (y = x ∧ j = k) → Y1 17 y j = Y 17 y j) (h16 : ∀ y j, C1 16 y j = C 16 y j) (hv2 : M1 56 0 (5 * x + k) = r0) (ho2 : ∀ p, p ≠ 5 * x + k → M1 56 0 p = M 56 0 p) (hnone : ro = none ↔ r0 < 0)
    (hc : 0 ≤ c ∧ c ≤ c1) (hkp : ∀ g r l, Lv Y M g r l → M1 57 0 r = l ∧ ln1 g = M1 58 0 r ∧ ∀ i, 0 ≤ i → i < ln1 g → C1 27 g i = M1 59 0 (12 * r + i)) (h57' : ∀ n, 0 ≤ n → n < M 40 0 22 → 0 ≤ M 67 0 n → M1 57 0 (M 66 0 n) = M 57 0 (M 66 0 n))
    (hcase : ro = none ∨ (ro = some g0 ∧ Lv Y M g0 r0 (lnM M x k)) ∨ (ro = some g0 ∧ (c ≤ g0 ∧ g0 < c1) ∧ (0 ≤ r0 ∧ r0 ≤ 399) ∧ (∀ g r l, Lv Y M g r l → r ≠ r0) ∧ M1 57 0 r0 = lnM M x k ∧ ln1 g0 = M1 58 0 r0 ∧ ∀ i, 0 ≤ i → i < ln1 g0 → C1 27 g0 i = M1 59 0 (12 * r0 + i))) : RB c1 C1 Y1 ln1 M1 := by
  obtain ⟨h1, h2, h3⟩ := h
  have hl := kM.lnE
  have hcf := kM.fcE
  obtain ⟨-, -, k55, k62, k13, k20⟩ := id kM
  obtain ⟨kc3, k31, k15⟩ := kC
  have hN : rN C1 Y1 M1 := ⟨fun m a b => by
      obtain ⟨q1, q2, q3⟩ := h2.1 m a (by rw [← k20]; exact b)
      rw [k31, k62, k22]
      exact ⟨q1, q2, q3⟩, fun n a b => by
      have h9 := h2.2 n a (by rw [← k22]; exact b)
      have h8 := h57' n a (by rw [← k22]; exact b)
      unfold nOK at *
      rw [kk 64 (by decide), kk 65 (by decide), kk 66 (by decide), kk 67 (by decide), kk 68 (by decide), hl, (h28 n).1, (h28 n).2, y28]
      exact ⟨h9.1, fun q => by rw [h8 q]; exact h9.2 q⟩⟩
  have hsub : ∀ g r l, Lv Y1 M1 g r l → Lv Y M g r l ∨ (ro = some g ∧ r = r0 ∧ l = lnM M x k) := by
    intro g r l hg
    rcases hg with ⟨y, j, y0, y1, j0, j1, jl, l3, jy, jr⟩ | ⟨n, a, b, q67, ql, q3, qy, q68⟩ | ⟨n, a, b, q67, ql, q3, qy, q66⟩
    · rw [k13] at y1
      rw [hcf] at j1
      rw [hl] at jl
      have := hf y
      have := hf x
      by_cases e : y = x ∧ j = k
      · obtain ⟨rfl, rfl⟩ := e
        exact Or.inr ⟨by rw [← hv]; exact jy, by rw [← hv2]; exact jr.symm, jl.symm⟩
      · rw [ho y j e] at jy
        rw [ho2 _ (by omega)] at jr
        exact Or.inl (Or.inl ⟨y, j, y0, y1, j0, j1, jl, l3, jy, jr⟩)
    · rw [k22] at b
      rw [kk 67 (by decide)] at q67
      rw [kk 64 (by decide), kk 65 (by decide), hl] at ql
      rw [y28] at qy
      rw [kk 68 (by decide)] at q68
      exact Or.inl (Or.inr (Or.inl ⟨n, a, b, q67, ql, q3, qy, q68⟩))
    · rw [k22] at b
      rw [kk 67 (by decide)] at q67
      rw [kk 66 (by decide)] at q66
      rw [y28] at qy
      have h8 := h57' n a b q67
      rw [q66] at h8
      exact Or.inl (Or.inr (Or.inr ⟨n, a, b, q67, by rw [← h8]; exact ql, q3, qy, q66⟩))
  refine ⟨⟨by rw [kc3, k13]; exact h1.1, fun y y0 y1 => ?_⟩, hN, ?_⟩
  · rw [k13] at y1
    obtain ⟨a1, a2⟩ := h1.2 y y0 y1
    rw [k15, k55, hl, hcf]
    refine ⟨a1, fun j j0 j1 => ?_⟩
    obtain ⟨b1, b2⟩ := a2 j j0 j1
    have := hf y
    have := hf x
    rw [h16]
    by_cases e : y = x ∧ j = k
    · obtain ⟨rfl, rfl⟩ := e
      exact ⟨fun q => by omega, fun _ => by rw [hv, hv2]; exact hnone⟩
    · rw [ho y j e, ho2 _ (by omega)]
      exact ⟨b1, b2⟩
  · rcases hcase with e | ⟨e, hL⟩ | ⟨e, hg0, hr0, hfr, hn1, hn2, hn3⟩
    · refine rR_sub h3 hc.2 (fun g r l hg => ?_) hkp
      rcases hsub g r l hg with q | ⟨q, -, -⟩
      · exact q
      · rw [e] at q
        cases q
    · refine rR_sub h3 hc.2 (fun g r l hg => ?_) hkp
      rcases hsub g r l hg with q | ⟨q, q1, q2⟩
      · exact q
      · rw [e] at q
        cases q
        rw [q1, q2]
        exact hL
    · refine rR_new (g0 := g0) (r0 := r0) (l0 := lnM M x k) h3 hc.2 (fun g r l hg => ?_) hkp ⟨by omega, hg0.1, hg0.2⟩ hr0 hfr ⟨hn1, hn2, hn3⟩
      rcases hsub g r l hg with q | ⟨q, q1, q2⟩
      · exact Or.inl q
      · rw [e] at q
        cases q
        exact Or.inr ⟨rfl, q1, q2⟩
/-- what stays all along -/
def JS0 (A B : Nat → Int → Int → Int) (YA : Nat → Int → Int → Option Int) (sv g bs : Int) : Prop :=
  (rSv A B g sv ∧ 0 < B 70 0 sv) ∧ (0 ≤ sv ∧ sv < 4) ∧ (0 ≤ bs ∧ B 40 0 13 = bs + B 70 0 sv) ∧
  (∀ r, 0 ≤ r → r < B 70 0 sv → YA 15 (bs + r) 0 = some (B 71 0 (30 * sv + r)) ∧ B 55 0 (bs + r) = B 71 0 (30 * sv + r) ∧ A 19 (B 71 0 (30 * sv + r)) 1 = B 44 0 (B 71 0 (30 * sv + r)) ∧ ∀ j, 0 ≤ j → j < B 44 0 (B 71 0 (30 * sv + r)) → A 20 (B 71 0 (30 * sv + r)) j = B 45 0 (5 * B 71 0 (30 * sv + r) + j) ∧ A 21 (B 71 0 (30 * sv + r)) j = B 46 0 (5 * B 71 0 (30 * sv + r) + j)) ∧
  (∀ v, 0 ≤ v → v < 16 → A 3 0 v = 1 - B 42 0 v ∧ (B 42 0 v = 0 ∨ B 42 0 v = 1)) ∧ (∀ t, B 44 0 t ≤ 5) ∧ (∀ i, 0 ≤ B 78 0 i ∧ B 78 0 i ≤ 12) ∧ (∀ i, B 46 0 i ≤ 5) ∧
  ∀ r k, 0 ≤ r → r < B 70 0 sv → 0 ≤ k → k < B 72 0 (30 * sv + r) → (B 74 0 (5 * (30 * sv + r) + k) = 1 → -1 ≤ B 75 0 (5 * (30 * sv + r) + k) ∧ B 75 0 (5 * (30 * sv + r) + k) ≤ 15) ∧ (B 74 0 (5 * (30 * sv + r) + k) = 2 → -1 ≤ B 75 0 (5 * (30 * sv + r) + k) ∧ B 75 0 (5 * (30 * sv + r) + k) < B 70 0 sv) ∧ (3 ≤ B 74 0 (5 * (30 * sv + r) + k) → -1 ≤ B 75 0 (5 * (30 * sv + r) + k) ∧ B 75 0 (5 * (30 * sv + r) + k) ≤ 149)
section ST
variable {r k : Int}
theorem to_eq (hs : JS0 A B YA sv g bs) (hr : 0 ≤ r ∧ r < B 70 0 sv) (hk : 0 ≤ k ∧ k < B 72 0 (30 * sv + r)) : toC A YA (bs + r) g (5 * r + k) = toM B sv r k := by
  obtain ⟨⟨hS, hp⟩, h2, h3, h4, -⟩ := hs
  obtain ⟨a1, a2, a3, a4⟩ := h4 r hr.1 hr.2
  obtain ⟨-, -, b3, -⟩ := hS.2.2.2.1 r hr.1 hr.2
  obtain ⟨c1, -⟩ := b3 k hk.1 hk.2
  unfold toC toM
  rw [a1, tyo_s, a3, c1]
  exact nmAt_congr (fun j j0 j1 => (a4 j j0 (by omega)).1)
theorem to_lt (hs : JS0 A B YA sv g bs) (hr : 0 ≤ r ∧ r < B 70 0 sv) (hk : 0 ≤ k ∧ k < B 72 0 (30 * sv + r)) : toM B sv r k < B 44 0 (B 71 0 (30 * sv + r)) ∨ toM B sv r k = -1 := by
  unfold toM
  rcases nmAt_spec (fun j => B 45 0 (5 * B 71 0 (30 * sv + r) + j)) (B 73 0 (5 * (30 * sv + r) + k)) (B 44 0 (B 71 0 (30 * sv + r))).toNat with ⟨q, -⟩ | ⟨q1, q2, -⟩
  · exact Or.inr q
  · exact Or.inl (by omega)
theorem tl_eq (hs : JS0 A B YA sv g bs) (hr : 0 ≤ r ∧ r < B 70 0 sv) (hk : 0 ≤ k ∧ k < B 72 0 (30 * sv + r)) (h0 : 0 ≤ toM B sv r k) : tlC A YA (bs + r) g (5 * r + k) = tlM B sv r k := by
  have h9 := to_lt hs hr hk
  have h8 := to_eq hs hr hk
  obtain ⟨⟨hS, hp⟩, h2, h3, h4, -⟩ := hs
  obtain ⟨a1, a2, a3, a4⟩ := h4 r hr.1 hr.2
  unfold tlC tlM
  rw [h8, a1, tyo_s]
  exact (a4 _ h0 (by omega)).2
theorem fl_eq (hs : JS0 A B YA sv g bs) (hr : 0 ≤ r ∧ r < B 70 0 sv) (hk : 0 ≤ k ∧ k < B 72 0 (30 * sv + r)) : A 11 g (5 * r + k) = B 74 0 (5 * (30 * sv + r) + k) ∧ A 12 g (5 * r + k) = tvM B sv r k ∧ (3 ≤ B 74 0 (5 * (30 * sv + r) + k) → 0 ≤ tvM B sv r k → tvM B sv r k < B 76 0 sv) := by
  obtain ⟨⟨hS, hp⟩, h2, h3, h4, -⟩ := hs
  obtain ⟨-, -, b3, -⟩ := hS.2.2.2.1 r hr.1 hr.2
  obtain ⟨c1, c2, c3, c4⟩ := b3 k hk.1 hk.2
  exact ⟨c2, c3, fun a b => (c4 a b).1⟩
theorem bd_eq (hs : JS0 A B YA sv g bs) (hr : 0 ≤ r ∧ r < B 70 0 sv) (hk : 0 ≤ k ∧ k < B 72 0 (30 * sv + r)) (h1 : B 74 0 (5 * (30 * sv + r) + k) = 1) : (bdC A (A 12 g (5 * r + k)) = 1 ↔ (0 ≤ tvM B sv r k ∧ B 42 0 (tvM B sv r k) = 1)) ∧ (bdC A (A 12 g (5 * r + k)) = 0 ∨ bdC A (A 12 g (5 * r + k)) = 1) := by
  obtain ⟨c2, c3, c4⟩ := fl_eq hs hr hk
  obtain ⟨-, -, -, -, h5, -, -, -, h8⟩ := hs
  have h9 := (h8 r k hr.1 hr.2 hk.1 hk.2).1 h1
  have h7 : tvM B sv r k = B 75 0 (5 * (30 * sv + r) + k) := rfl
  rw [← h7] at h9
  rw [c3]
  unfold bdC
  by_cases hv : tvM B sv r k = -1
  · rw [if_neg (fun q => q.1 hv)]
    exact ⟨⟨fun q => by omega, fun q => by omega⟩, Or.inl rfl⟩
  · obtain ⟨w1, w2⟩ := h5 (tvM B sv r k) (by omega) (by omega)
    by_cases ho : B 42 0 (tvM B sv r k) = 1
    · rw [if_pos ⟨hv, fun q => by omega⟩]
      exact ⟨⟨fun _ => ⟨by omega, ho⟩, fun _ => rfl⟩, Or.inr rfl⟩
    · rw [if_neg (fun q => q.2 ⟨by omega, by omega, by omega⟩)]
      exact ⟨⟨fun q => by omega, fun q => absurd q.2 ho⟩, Or.inl rfl⟩
theorem fv_eq (hs : JS0 A B YA sv g bs) (hr : 0 ≤ r ∧ r < B 70 0 sv) (hk : 0 ≤ k ∧ k < B 72 0 (30 * sv + r)) : fvC A YA (bs + r) g (5 * r + k) rule = fvM B sv r k rule := by
  have t1 := to_eq hs hr hk
  obtain ⟨f1, f2, -⟩ := fl_eq hs hr hk
  unfold fvC fvM
  rw [t1, f1]
  by_cases h0 : toM B sv r k < 0
  · unfold fvF
    rw [if_pos h0, if_pos h0]
  · rw [tl_eq hs hr hk (by omega)]
    by_cases hl : B 74 0 (5 * (30 * sv + r) + k) = tlM B sv r k ∨ (B 74 0 (5 * (30 * sv + r) + k) = 1 ∧ tlM B sv r k = 0) ∨ (B 74 0 (5 * (30 * sv + r) + k) = 3 ∧ 3 < tlM B sv r k) ∨ (B 74 0 (5 * (30 * sv + r) + k) = 4 ∧ tlM B sv r k = 5)
    · by_cases h1 : tlM B sv r k = 1
      · obtain ⟨d1, d2⟩ := bd_eq hs hr hk (by omega)
        by_cases hw : 0 ≤ tvM B sv r k ∧ B 42 0 (tvM B sv r k) = 1
        · by_cases h2 : andZ rule 2 = 0
          · rw [fvF_w (by omega) hl ⟨h1, by omega, d1.mpr hw, h2⟩, fvF_w (by omega) hl ⟨h1, hw.1, hw.2, h2⟩]
          · rw [fvF_0 (by omega) hl (fun q => h2 q.2.2.2), fvF_0 (by omega) hl (fun q => h2 q.2.2.2)]
        · rw [fvF_0 (by omega) hl (fun q => hw (d1.mp q.2.2.1)), fvF_0 (by omega) hl (fun q => hw ⟨q.2.1, q.2.2.1⟩)]
      · rw [fvF_0 (by omega) hl (fun q => h1 q.1), fvF_0 (by omega) hl (fun q => h1 q.1)]
    · rw [fvF_l (by omega) hl, fvF_l (by omega) hl]
/-- a field that goes back -/
theorem tw_eq (hs : JS0 A B YA sv g bs) (hr : 0 ≤ r ∧ r < B 70 0 sv) (hk : 0 ≤ k ∧ k < B 72 0 (30 * sv + r)) (h0 : 0 ≤ toM B sv r k) (hv : fvM B sv r k rule = 0) : twC A YA (bs + r) g (5 * r + k) = twM B sv r k ∧ (tlM B sv r k = 2 → -1 ≤ twM B sv r k) ∧ (3 ≤ tlM B sv r k → (-1 ≤ twM B sv r k ∧ twM B sv r k ≤ 149) ∧ (0 ≤ twM B sv r k → twM B sv r k < B 76 0 sv)) := by
  have t1 := to_eq hs hr hk
  obtain ⟨f1, f2, f3⟩ := fl_eq hs hr hk
  have tl := tl_eq hs hr hk h0
  have hl : B 74 0 (5 * (30 * sv + r) + k) = tlM B sv r k ∨ (B 74 0 (5 * (30 * sv + r) + k) = 1 ∧ tlM B sv r k = 0) ∨ (B 74 0 (5 * (30 * sv + r) + k) = 3 ∧ 3 < tlM B sv r k) ∨ (B 74 0 (5 * (30 * sv + r) + k) = 4 ∧ tlM B sv r k = 5) := Classical.byContradiction fun q => by
    unfold fvM at hv
    rw [fvF_l h0 q] at hv
    omega
  have hm := hs.2.2.2.2.2.2.2.2 r k hr.1 hr.2 hk.1 hk.2
  have h7 : tvM B sv r k = B 75 0 (5 * (30 * sv + r) + k) := rfl
  rw [← h7] at hm
  by_cases h1 : tlM B sv r k = 1
  · obtain ⟨d1, d2⟩ := bd_eq hs hr hk (by omega)
    refine ⟨?_, fun q => by omega, fun q => by omega⟩
    unfold twC twM
    rw [tl, f2]
    rw [f2] at d1 d2
    by_cases hw : 0 ≤ tvM B sv r k ∧ B 42 0 (tvM B sv r k) = 1
    · rw [if_pos ⟨h1, d1.mpr hw⟩, if_pos ⟨h1, hw.1, hw.2⟩]
    · rw [if_neg (fun q => hw (d1.mp q.2)), if_neg (fun q => hw q.2)]
  · have e2 : twM B sv r k = tvM B sv r k := by
      unfold twM
      rw [if_neg (fun q => h1 q.1)]
    refine ⟨?_, fun q => ?_, fun q => ?_⟩
    · unfold twC
      rw [tl, f2, e2, if_neg (fun q => h1 q.1)]
    · rw [e2]
      exact (hm.2.1 (by omega)).1
    · rw [e2]
      exact ⟨hm.2.2 (by omega), fun w => f3 (by omega) w⟩
/-- fields that went back stay where they are -/
theorem to_ne {k' : Int} (hs : JS0 A B YA sv g bs) (hr : 0 ≤ r ∧ r < B 70 0 sv) (hk : 0 ≤ k ∧ k < B 72 0 (30 * sv + r)) (hk' : 0 ≤ k' ∧ k' < k) (h0 : 0 ≤ toM B sv r k) : toM B sv r k' ≠ toM B sv r k := fun w => by
  obtain ⟨⟨hS, hp⟩, -⟩ := hs
  obtain ⟨-, -, -, b4⟩ := hS.2.2.2.1 r hr.1 hr.2
  have hne := b4 k' k hk'.1 hk'.2 hk.2
  have sp : ∀ q, 0 ≤ toM B sv r q → B 45 0 (5 * B 71 0 (30 * sv + r) + toM B sv r q) = B 73 0 (5 * (30 * sv + r) + q) := fun q hq => by
    unfold toM at hq ⊢
    rcases nmAt_spec (fun j => B 45 0 (5 * B 71 0 (30 * sv + r) + j)) (B 73 0 (5 * (30 * sv + r) + q)) (B 44 0 (B 71 0 (30 * sv + r))).toNat with ⟨u, -⟩ | ⟨-, -, u, -⟩
    · omega
    · exact u
  have s1 := sp k h0
  have s2 := sp k' (by rw [w]; exact h0)
  rw [w, s1] at s2
  exact hne s2.symm
end ST
/-- the places that went back before place m of record n -/
def dn (B : Nat → Int → Int → Int) (sv bs n m x k : Int) : Prop := ∃ r0 k0, 0 ≤ r0 ∧ 0 ≤ k0 ∧ (r0 < n ∨ (r0 = n ∧ k0 < m)) ∧ x = bs + r0 ∧ k = toM B sv r0 k0
def Bk (B : Nat → Int → Int → Int) (sv bs n m : Int) (Y : Nat → Int → Int → Option Int) (M : Nat → Int → Int → Int) : Prop := ∀ j, 0 ≤ j → j < 3 * B 76 0 sv → (Y 6 0 j = none ∧ M 85 0 j < 0) ∨ ∃ x k g, dn B sv bs n m x k ∧ Y 6 0 j = some g ∧ 0 ≤ M 85 0 j ∧ M 56 0 (5 * x + k) = M 85 0 j ∧ Y 17 x k = some g ∧ (0 ≤ x ∧ x < M 40 0 13 ∧ 0 ≤ k ∧ k < fcM M x) ∧ lnM M x k = j % 3 + 3
def JIv (A B : Nat → Int → Int → Int) (YA : Nat → Int → Int → Option Int) (sv bs n m c : Int) (C : Nat → Int → Int → Int) (Y : Nat → Int → Int → Option Int) (ln : Int → Int) (M : Nat → Int → Int → Int) : Prop := RB c C Y ln M ∧ (∀ i, 0 ≤ i → i < c → 0 ≤ ln i ∧ ln i ≤ 12) ∧ 0 ≤ c ∧ Frm [1600, 2602, 2700] A C ∧ Frm [1700, 600] YA Y ∧ Frm [5600, 6000, 5700, 5800, 5900, 8500] B M ∧ Bk B sv bs n m Y M
theorem dn.up {n m n' m' x k : Int} (h : dn B sv bs n m x k) (hu : n < n' ∨ (n = n' ∧ m ≤ m')) : dn B sv bs n' m' x k := by
  obtain ⟨r0, k0, a, b, d, e⟩ := h
  exact ⟨r0, k0, a, b, by omega, e⟩
theorem Bk.up {n m n' m' : Int} (h : Bk B sv bs n m Y M) (hu : n < n' ∨ (n = n' ∧ m ≤ m')) : Bk B sv bs n' m' Y M := fun j a b => by
  rcases h j a b with q | ⟨x, k, g, d, q⟩
  · exact Or.inl q
  · exact Or.inr ⟨x, k, g, d.up hu, q⟩
theorem JIv.up {n m n' m' : Int} (h : JIv A B YA sv bs n m c C Y ln M) (hu : n < n' ∨ (n = n' ∧ m ≤ m')) : JIv A B YA sv bs n' m' c C Y ln M := ⟨h.1, h.2.1, h.2.2.1, h.2.2.2.1, h.2.2.2.2.1, h.2.2.2.2.2.1, h.2.2.2.2.2.2.up hu⟩
/-- what a change at one place leaves of them -/
theorem Bk.at_ {n m x k : Int} (h : Bk B sv bs n m Y M) (hn : ¬ dn B sv bs n m x k) (hf : ∀ y, fcM M y ≤ 5) (hk : 0 ≤ k ∧ k < 5) (e6 : Y1 6 = Y 6) (e17 : ∀ y j, ¬ (y = x ∧ j = k) → Y1 17 y j = Y 17 y j) (e85 : M1 85 = M 85) (e56 : ∀ p, p ≠ 5 * x + k → M1 56 0 p = M 56 0 p) (e13 : M1 40 0 13 = M 40 0 13) (hl : lnM M1 = lnM M) (hc : fcM M1 = fcM M) : Bk B sv bs n m Y1 M1 := fun j a b => by
  rcases h j a b with q | ⟨x0, k0, g, d, q1, q2, q3, q4, q5, q6⟩
  · rw [e6, e85]
    exact Or.inl q
  · have ne : ¬ (x0 = x ∧ k0 = k) := fun w => hn (by rw [← w.1, ← w.2]; exact d)
    have := hf x0
    refine Or.inr ⟨x0, k0, g, d, by rw [e6]; exact q1, by rw [e85]; exact q2, ?_, by rw [e17 x0 k0 ne]; exact q4, by rw [e13, hc]; exact q5, by rw [hl]; exact q6⟩
    rw [e56 _ (fun w => ne (by omega)), e85]
    exact q3
theorem stC_eq {L N : List Nat} {X X0 : Nat → Int → Int → Int} {Z Z0 : Nat → Int → Int → Option Int} (hF : Frm L X X0) (hH : Frm N Z Z0) (hd : ∀ q ∈ [300, 1000, 1100, 1200, 1902, 2000, 2100], q ∉ L) (he : 1501 ∉ N) : toC X0 Z0 = toC X Z ∧ tlC X0 Z0 = tlC X Z ∧ twC X0 Z0 = twC X Z ∧ fvC X0 Z0 = fvC X Z := by
  have e3 := hF.arr 3 (by decide +kernel) (hd 300 (by decide))
  have e10 := hF.arr 10 (by decide +kernel) (hd 1000 (by decide))
  have e11 := hF.arr 11 (by decide +kernel) (hd 1100 (by decide))
  have e12 := hF.arr 12 (by decide +kernel) (hd 1200 (by decide))
  have e19 : ∀ i, X0 19 i 1 = X 19 i 1 := fun i => hF 19 i 1 (hd 1902 (by decide))
  have e20 := hF.arr 20 (by decide +kernel) (hd 2000 (by decide))
  have e21 := hF.arr 21 (by decide +kernel) (hd 2100 (by decide))
  have y15 : ∀ i, Z0 15 i 0 = Z 15 i 0 := fun i => hH 15 i 0 he
  have g1 : toC X0 Z0 = toC X Z := by
    funext x g i
    simp only [toC, e10, e19, e20, y15]
  have g2 : tlC X0 Z0 = tlC X Z := by
    funext x g i
    simp only [tlC, g1, e21, y15]
  have e9 : bdC X0 = bdC X := by
    funext v
    unfold bdC
    rw [e3]
  have g3 : twC X0 Z0 = twC X Z := by
    funext x g i
    unfold twC
    rw [g2, e9, e12]
  refine ⟨g1, g2, g3, ?_⟩
  funext x g i rule
  unfold fvC
  rw [g1, g2, e9, e11, e12]
theorem KpM.tr {M2 : Nat → Int → Int → Int} (h : KpM M M1) (k : KpM M1 M2) : KpM M M2 := ⟨k.1.trans h.1, k.2.1.trans h.2.1, k.2.2.1.trans h.2.2.1, k.2.2.2.1.trans h.2.2.2.1, k.2.2.2.2.1.trans h.2.2.2.2.1, k.2.2.2.2.2.trans h.2.2.2.2.2⟩
theorem KpM.s56 {p v : Int} : KpM M (u3 M 56 0 p v) := ⟨u3_k _ _ _ _ (by first | exact Nat.ne_of_beq_eq_false rfl | decide), u3_k _ _ _ _ (by first | exact Nat.ne_of_beq_eq_false rfl | decide), u3_k _ _ _ _ (by first | exact Nat.ne_of_beq_eq_false rfl | decide), u3_k _ _ _ _ (by first | exact Nat.ne_of_beq_eq_false rfl | decide), by rw [u3_k _ _ _ _ (by first | exact Nat.ne_of_beq_eq_false rfl | decide)], by rw [u3_k _ _ _ _ (by first | exact Nat.ne_of_beq_eq_false rfl | decide)]⟩
theorem JIv_step {r k : Int} (hs : JS0 A B YA sv g bs) (hr : 0 ≤ r ∧ r < B 70 0 sv) (hk : 0 ≤ k ∧ k < B 72 0 (30 * sv + r)) (h : JIv A B YA sv bs r k c C Y ln M) (hv : fvM B sv r k rule = 0) (sc : fStC g (bs + r) (5 * r + k) bs c C Y ln c1 C1 Y1 ln1) (sm : fStM sv r bs k M M1) : JIv A B YA sv bs r (k + 1) c1 C1 Y1 ln1 M1 := by
  obtain ⟨hB, hLb, hc0, fA, fY, fB, hbk⟩ := id h
  obtain ⟨mT, mL, mV, mW, -⟩ := stM_eq fB (by decide)
  obtain ⟨cT, cL, cW, -⟩ := stC_eq fA fY (by decide) (by decide)
  unfold fStC at sc
  unfold fStM at sm
  rw [cT, cL, cW, to_eq hs hr hk] at sc
  rw [mT, mL, mW] at sm
  obtain ⟨⟨hS, hp0⟩, hsv, ⟨hbs0, h13⟩, hty, hwd, h5, h12, h46, hmc⟩ := id hs
  obtain ⟨a1, a2, a3, a4⟩ := hty r hr.1 hr.2
  have e44 := fB.arr 44 (by decide +kernel) (by decide)
  have e46 := fB.arr 46 (by decide +kernel) (by decide)
  have e55 := fB.arr 55 (by decide +kernel) (by decide)
  have m13 : M 40 0 13 = B 40 0 13 := fB 40 0 13 (show 4014 ∉ _ by decide)
  have hfc : ∀ y, fcM M y ≤ 5 := fun y => by
    unfold fcM
    rw [e44]
    exact h5 _
  have fce : fcM M (bs + r) = B 44 0 (B 71 0 (30 * sv + r)) := by
    unfold fcM
    rw [e44, e55, a2]
  have tlt := to_lt hs hr hk
  by_cases h0 : toM B sv r k < 0
  · rcases sc with ⟨-, e1, e2, e3, e4⟩ | ⟨q, -⟩ | ⟨q, -⟩ | ⟨q, -⟩
    · rcases sm with ⟨-, e⟩ | ⟨q, -⟩ | ⟨q, -⟩ | ⟨q, -⟩
      · rw [e1, e2, e3, e4, e]
        exact h.up (Or.inr ⟨rfl, by omega⟩)
      · omega
      · omega
      · omega
    · omega
    · omega
    · omega
  · have h0' : 0 ≤ toM B sv r k := by omega
    obtain ⟨w1, w2, w3⟩ := tw_eq hs hr hk h0' hv
    rw [w1, tl_eq hs hr hk h0'] at sc
    have h5' := h5 (B 71 0 (30 * sv + r))
    have hpl : 0 ≤ bs + r ∧ bs + r < M 40 0 13 ∧ 0 ≤ toM B sv r k ∧ toM B sv r k < fcM M (bs + r) := ⟨by omega, by omega, h0', by rw [fce]; omega⟩
    have hlt : lnM M (bs + r) (toM B sv r k) = tlM B sv r k := by
      unfold lnM
      rw [e46, e55, a2]
      rfl
    have L5 : tlM B sv r k ≤ 5 := h46 _
    have hnd : ¬ dn B sv bs r k (bs + r) (toM B sv r k) := by
      rintro ⟨r0, k0, q0, q1, q2, q3, q4⟩
      have er : r0 = r := by omega
      rw [er] at q4 q2
      exact to_ne hs hr hk ⟨q1, by omega⟩ h0' q4.symm
    have T5 : 0 ≤ toM B sv r k ∧ toM B sv r k < 5 := ⟨h0', by omega⟩
    obtain ⟨T, eT⟩ : ∃ q, q = toM B sv r k := ⟨_, rfl⟩
    obtain ⟨W, eW⟩ : ∃ q, q = twM B sv r k := ⟨_, rfl⟩
    obtain ⟨Ln, eL⟩ : ∃ q, q = tlM B sv r k := ⟨_, rfl⟩
    rw [← eT, ← eL, ← eW] at sc sm
    rw [← eT] at h0' hpl hlt hnd T5
    rw [← eL] at hlt L5 w2 w3
    rw [← eW] at w2 w3
    by_cases hL : Ln < 3
    · rcases sc with ⟨q, -⟩ | ⟨-, -, e1, e2, e3, e4⟩ | ⟨-, q, -⟩ | ⟨-, q, -⟩
      · omega
      · have hval : ∃ v, C1 = u3 C 16 (bs + r) T v ∧ M1 = u3 M 56 0 (5 * (bs + r) + T) v := by
          rcases sm with ⟨q, -⟩ | ⟨-, u, e⟩ | ⟨-, u, uw, e⟩ | ⟨-, q, -⟩
          · omega
          · refine ⟨W, ?_, e⟩
            rw [e2, if_neg (fun q => by have := w2 q.1; omega)]
          · refine ⟨bs + W, ?_, e⟩
            rw [e2, if_pos ⟨u, by omega⟩]
          · omega
        obtain ⟨v, ec, em⟩ := hval
        have hLn : LnL (fun i => if 0 ≤ i ∧ i < c then ln i else 0) := fun i => by
          show 0 ≤ (if 0 ≤ i ∧ i < c then ln i else 0) ∧ (if 0 ≤ i ∧ i < c then ln i else 0) ≤ 12
          by_cases q : 0 ≤ i ∧ i < c
          · rw [if_pos q]
            exact hLb i q.1 q.2
          · rw [if_neg q]
            exact ⟨by decide, by decide⟩
        have hB2 := RB_putv (v := v) (hB.grow (ln1 := fun i => if 0 ≤ i ∧ i < c then ln i else 0) (Int.le_refl _) (fun i i0 i1 => if_pos ⟨i0, i1⟩)) hfc hpl (by rw [hlt]; exact hL) hLn
        have hB3 := hB2.grow (ln1 := ln) (Int.le_refl _) (fun i i0 i1 => (if_pos (show 0 ≤ i ∧ i < c from ⟨i0, i1⟩)).symm)
        rw [e1, e3, e4, ec, em]
        exact ⟨hB3, hLb, hc0, Frm.set fA (show 1600 ∈ [1600, 2602, 2700] by first | exact nlm_in rfl | decide), fY, Frm.set fB (show 5600 ∈ [5600, 6000, 5700, 5800, 5900, 8500] by first | exact nlm_in rfl | decide), (hbk.at_ hnd hfc T5 rfl (fun _ _ _ => rfl) (u3_k _ _ _ _ (by first | exact Nat.ne_of_beq_eq_false rfl | decide)) (fun p hp => u3_j _ _ _ _ hp) (by rw [u3_k _ _ _ _ (by first | exact Nat.ne_of_beq_eq_false rfl | decide)]) KpM.s56.lnE KpM.s56.fcE).up (Or.inr ⟨rfl, by omega⟩)⟩
      · omega
      · omega
    · have hl3 : 3 ≤ lnM M (bs + r) T := by
        rw [hlt]
        omega
      by_cases hW : W = -1
      · rcases sc with ⟨q, -⟩ | ⟨-, q, -⟩ | ⟨-, -, -, e1, e2, e3, e4⟩ | ⟨-, -, q, -⟩
        · omega
        · omega
        · rcases sm with ⟨q, -⟩ | ⟨-, -, e⟩ | ⟨-, q, -⟩ | ⟨-, -, q, -⟩
          · omega
          · rw [e1, e2, e3, e4, e]
            have hB2 : RB c C (u3 Y 17 (bs + r) T none) ln (u3 M 56 0 (5 * (bs + r) + T) W) := RB_putr (g0 := 0) (r0 := W) (ro := none) hB ⟨rfl, rfl, fun x => by rw [u3_k _ _ _ _ (by first | exact Nat.ne_of_beq_eq_false rfl | decide)]⟩ (fun n => ⟨rfl, rfl⟩) (u3_k _ _ _ _ (by first | exact Nat.ne_of_beq_eq_false rfl | decide)) KpM.s56 (by rw [u3_k _ _ _ _ (by first | exact Nat.ne_of_beq_eq_false rfl | decide)]) (fun q hq => u3_k _ _ _ _ (by simp only [List.mem_cons, List.not_mem_nil, or_false] at hq; omega)) hfc hpl hl3 (u3_s _ _ _ _ _) (fun y j e => u3_ij2 e) (fun _ _ => rfl) (u3_s _ _ _ _ _) (fun p hp => u3_j _ _ _ _ hp) ⟨fun _ => by omega, fun _ => rfl⟩ ⟨hc0, Int.le_refl _⟩ (fun g' r' l' hv' => by
              obtain ⟨b1, b2, b3, b4, b5, b6, b7⟩ := hB.2.2.1 _ _ _ hv'
              rw [u3_k _ _ _ _ (show (57 : Nat) ≠ 56 by decide), u3_k _ _ _ _ (show (58 : Nat) ≠ 56 by decide), u3_k _ _ _ _ (show (59 : Nat) ≠ 56 by decide)]
              exact ⟨b5, b6, b7⟩) (fun n _ _ _ => by rw [u3_k _ _ _ _ (by first | exact Nat.ne_of_beq_eq_false rfl | decide)]) (Or.inl rfl)
            exact ⟨hB2, hLb, hc0, fA, Frm.set fY (show 1700 ∈ [1700, 600] by first | exact nlm_in rfl | decide), Frm.set fB (show 5600 ∈ [5600, 6000, 5700, 5800, 5900, 8500] by first | exact nlm_in rfl | decide), (hbk.at_ hnd hfc T5 (u3_k _ _ _ _ (by first | exact Nat.ne_of_beq_eq_false rfl | decide)) (fun y j e => u3_ij2 e) (u3_k _ _ _ _ (by first | exact Nat.ne_of_beq_eq_false rfl | decide)) (fun p hp => u3_j _ _ _ _ hp) (by rw [u3_k _ _ _ _ (by first | exact Nat.ne_of_beq_eq_false rfl | decide)]) KpM.s56.lnE KpM.s56.fcE).up (Or.inr ⟨rfl, by omega⟩)⟩
          · omega
          · omega
        · exact absurd hW q
      · obtain ⟨wb, w76⟩ := w3 (by omega)
        have W0 : 0 ≤ W := by omega
        have w77 := w76 W0
        rcases sc with ⟨q, -⟩ | ⟨-, q, -⟩ | ⟨-, -, q, -⟩ | ⟨-, -, -, Y', q, rp, eY⟩
        · omega
        · omega
        · exact absurd q hW
        rcases sm with ⟨u, -⟩ | ⟨-, u, -⟩ | ⟨-, u, -⟩ | ⟨-, -, -, X', row, rb, e⟩
        · omega
        · omega
        · omega
        rcases hbk (3 * W + Ln - 3) (by omega) (by omega) with ⟨yn, mn⟩ | ⟨x0, k0, g', d, y6, m85, q56, q17, q5, q6⟩
        · rcases rp with ⟨y, -⟩ | ⟨-, eq, ec, el, elo, e27, e27o, eF, eY'⟩
          · rw [yn] at y
            cases y
          rcases rb with ⟨m, -⟩ | ⟨-, hrow, ⟨fr1, fr2⟩, ⟨n57, n58⟩, no, n59, n59o, n85, n85o, nF⟩
          · omega
          have hfr : ∀ g' r' l', Lv Y M g' r' l' → r' ≠ row := by
            rintro g' r' l' (⟨y, j, y0, y1, j0, j1, jl, l3, jy, jr⟩ | ⟨n, a, b, q67, ql, q3, qy, q68⟩ | ⟨n, a, b, q67, ql, q3, qy, q66⟩)
            · rw [← jr]
              exact fr1 y j y0 y1 j0 j1 (by rw [← jl] at l3; exact l3)
            · have h9 := (((hB.2.1.2 n a b).1 q67).2.2.2 (by rw [ql]; exact q3)).2
              rw [← q68, ← h9]
              exact fr2 n a b
            · rw [← q66]
              exact fr2 n a b
          have kM : KpM M M1 := by
            rw [e]
            exact (KpM.of nF (by decide)).tr KpM.s56
          have mk : ∀ κ, κ ≠ 56 → M1 κ = X' κ := fun κ hκ => by rw [e, u3_k _ _ _ _ hκ]
          have s13 := fA.arr 13 (by decide +kernel) (by decide)
          have s14 := fA.arr 14 (by decide +kernel) (by decide)
          have s78 := fB.arr 78 (by decide +kernel) (by decide)
          have s79 := fB.arr 79 (by decide +kernel) (by decide)
          obtain ⟨t1, t2⟩ := hS.2.2.2.2 W hp0 W0 (w76 W0)
          have t12 := h12 (150 * sv + W)
          rw [s13, t1] at el
          rw [s78] at n58 n59
          rw [s79] at n59
          rw [s13, s14, t1] at e27
          have hy17 : Y1 17 (bs + r) T = some c := by rw [eY, u3_s, eq]
          have hy6 : ∀ j, Y1 6 0 j = if j = 3 * W + Ln - 3 then some c else Y 6 0 j := fun j => by
            rw [eY, u3_k _ _ _ _ (by first | exact Nat.ne_of_beq_eq_false rfl | decide), eY']
            by_cases ej : j = 3 * W + Ln - 3
            · rw [if_pos ej, ej, u3_s]
            · rw [if_neg ej, u3_j _ _ _ _ ej]
          have ho : ∀ y j, ¬ (y = bs + r ∧ j = T) → Y1 17 y j = Y 17 y j := fun y j w => by rw [eY, u3_ij2 w, eY', u3_k _ _ _ _ (by first | exact Nat.ne_of_beq_eq_false rfl | decide)]
          have hv2 : M1 56 0 (5 * (bs + r) + T) = row := by rw [e, u3_s]
          have ho2 : ∀ p, p ≠ 5 * (bs + r) + T → M1 56 0 p = M 56 0 p := fun p hp => by rw [e, u3_j _ _ _ _ hp, nF.arr 56 (by decide +kernel) (by decide)]
          have hB2 : RB c1 C1 Y1 ln1 M1 := RB_putr (g0 := c) (r0 := row) (ro := some c) hB ⟨eF 0 0 3 (show 4 ∉ _ by decide), eF.arr 31 (by decide +kernel) (by decide), fun x => by rw [eY, u3_k _ _ _ _ (by first | exact Nat.ne_of_beq_eq_false rfl | decide), eY', u3_k _ _ _ _ (by first | exact Nat.ne_of_beq_eq_false rfl | decide)]⟩ (fun n => ⟨eF 28 n 1 (show 2802 ∉ _ by decide), eF 28 n 2 (show 2803 ∉ _ by decide)⟩) (by rw [eY, u3_k _ _ _ _ (by first | exact Nat.ne_of_beq_eq_false rfl | decide), eY', u3_k _ _ _ _ (by first | exact Nat.ne_of_beq_eq_false rfl | decide)]) kM (by rw [mk 40 (by decide)]; exact nF 40 0 22 (show 4023 ∉ _ by decide)) (fun q hq => by
              simp only [List.mem_cons, List.not_mem_nil, or_false] at hq
              rcases hq with rfl | rfl | rfl | rfl | rfl <;> rw [mk _ (by decide)] <;> exact nF.arr _ (by decide +kernel) (by decide)) hfc hpl hl3 hy17 ho (fun y j => by rw [eF.arr 16 (by decide +kernel) (by decide)]) hv2 ho2 ⟨fun w => (by cases w), fun w => (by omega)⟩ ⟨hc0, by omega⟩ (fun g' r' l' hv' => by
              obtain ⟨b1, b2, b3, b4, b5, b6, b7⟩ := hB.2.2.1 _ _ _ hv'
              have hne := hfr g' r' l' hv'
              have l9 := hLb g' b1 b2
              rw [mk 57 (by decide), mk 58 (by decide), mk 59 (by decide), elo g' b1 b2, e27o g' (by omega), (no r' hne).1, (no r' hne).2]
              refine ⟨b5, b6, fun i i0 i1 => ?_⟩
              rw [n59o _ (fun w => by omega)]
              exact b7 i i0 i1) (fun n a b _ => by rw [mk 57 (by decide)]; exact (no _ (fr2 n a b)).1) (Or.inr (Or.inr ⟨rfl, ⟨Int.le_refl _, by omega⟩, hrow, hfr, by rw [mk 57 (by decide), n57, hlt], by rw [mk 58 (by decide), n58, el], fun i i0 i1 => by
              rw [el] at i1
              rw [mk 59 (by decide), n59 i i0 i1, e27 i i0 i1]
              exact t2 i i0 (by rw [t1]; exact i1)⟩))
          refine ⟨hB2, fun i i0 i1 => ?_, by omega, fA.tr (eF.mono (by decide)), by rw [eY, eY']; exact Frm.set (Frm.set fY (show 600 ∈ [1700, 600] by first | exact nlm_in rfl | decide)) (show 1700 ∈ [1700, 600] by first | exact nlm_in rfl | decide), by rw [e]; exact Frm.set (fB.tr (nF.mono (by decide))) (show 5600 ∈ [5600, 6000, 5700, 5800, 5900, 8500] by first | exact nlm_in rfl | decide), fun j j0 j1 => ?_⟩
          · by_cases ei : i = c
            · rw [ei, el]
              exact t12
            · rw [elo i i0 (by omega)]
              exact hLb i i0 (by omega)
          · by_cases ej : j = 3 * W + Ln - 3
            · refine Or.inr ⟨bs + r, T, c, ⟨r, k, hr.1, hk.1, Or.inr ⟨rfl, by omega⟩, rfl, eT⟩, by rw [hy6, if_pos ej], ?_, ?_, hy17, ?_, ?_⟩
              · rw [mk 85 (by decide), ej, n85]
                exact hrow.1
              · rw [hv2, mk 85 (by decide), ej, n85]
              · rw [kM.2.2.2.2.1, kM.fcE]
                exact hpl
              · rw [kM.lnE, hlt]
                omega
            · have y6' : Y1 6 0 j = Y 6 0 j := by rw [hy6, if_neg ej]
              have m85' : M1 85 0 j = M 85 0 j := by rw [mk 85 (by decide), n85o j ej]
              rcases hbk j j0 j1 with u | ⟨x0, k0, g', d, q1, q2, q3, q4, q5, q6⟩
              · rw [y6', m85']
                exact Or.inl u
              · have ne : ¬ (x0 = bs + r ∧ k0 = T) := fun w => hnd (by rw [← w.1, ← w.2]; exact d)
                have := hfc x0
                refine Or.inr ⟨x0, k0, g', d.up (Or.inr ⟨rfl, by omega⟩), by rw [y6']; exact q1, by rw [m85']; exact q2, ?_, by rw [ho x0 k0 ne]; exact q4, by rw [kM.2.2.2.2.1, kM.fcE]; exact q5, by rw [kM.lnE]; exact q6⟩
                rw [ho2 _ (fun w => ne (by omega)), m85']
                exact q3
        · rcases rp with ⟨y, e1, e2, e3, e4⟩ | ⟨y, -⟩
          · rcases rb with ⟨m, er, eX⟩ | ⟨m, -⟩
            · have eg : g' = q := Option.some.inj (y6.symm.trans y)
              rw [eg] at q17
              rw [← er] at q56
              rw [e1, e2, e4, eY, e3, e, eX]
              have hB2 : RB c C (u3 Y 17 (bs + r) T (some q)) ln (u3 M 56 0 (5 * (bs + r) + T) row) := RB_putr (g0 := q) (r0 := row) (ro := some q) hB ⟨rfl, rfl, fun x => by rw [u3_k _ _ _ _ (by first | exact Nat.ne_of_beq_eq_false rfl | decide)]⟩ (fun n => ⟨rfl, rfl⟩) (u3_k _ _ _ _ (by first | exact Nat.ne_of_beq_eq_false rfl | decide)) KpM.s56 (by rw [u3_k _ _ _ _ (by first | exact Nat.ne_of_beq_eq_false rfl | decide)]) (fun q hq => u3_k _ _ _ _ (by simp only [List.mem_cons, List.not_mem_nil, or_false] at hq; omega)) hfc hpl hl3 (u3_s _ _ _ _ _) (fun y j e => u3_ij2 e) (fun _ _ => rfl) (u3_s _ _ _ _ _) (fun p hp => u3_j _ _ _ _ hp) ⟨fun w => (by cases w), fun w => (by omega)⟩ ⟨hc0, Int.le_refl _⟩ (fun g' r' l' hv' => by
                obtain ⟨b1, b2, b3, b4, b5, b6, b7⟩ := hB.2.2.1 _ _ _ hv'
                rw [u3_k _ _ _ _ (show (57 : Nat) ≠ 56 by decide), u3_k _ _ _ _ (show (58 : Nat) ≠ 56 by decide), u3_k _ _ _ _ (show (59 : Nat) ≠ 56 by decide)]
                exact ⟨b5, b6, b7⟩) (fun n _ _ _ => by rw [u3_k _ _ _ _ (by first | exact Nat.ne_of_beq_eq_false rfl | decide)]) (Or.inr (Or.inl ⟨rfl, Or.inl ⟨x0, k0, q5.1, q5.2.1, q5.2.2.1, q5.2.2.2, by rw [q6, hlt]; omega, hl3, q17, q56⟩⟩))
              exact ⟨hB2, hLb, hc0, fA, Frm.set fY (show 1700 ∈ [1700, 600] by first | exact nlm_in rfl | decide), Frm.set fB (show 5600 ∈ [5600, 6000, 5700, 5800, 5900, 8500] by first | exact nlm_in rfl | decide), (hbk.at_ hnd hfc T5 (u3_k _ _ _ _ (by first | exact Nat.ne_of_beq_eq_false rfl | decide)) (fun y j e => u3_ij2 e) (u3_k _ _ _ _ (by first | exact Nat.ne_of_beq_eq_false rfl | decide)) (fun p hp => u3_j _ _ _ _ hp) (by rw [u3_k _ _ _ _ (by first | exact Nat.ne_of_beq_eq_false rfl | decide)]) KpM.s56.lnE KpM.s56.fcE).up (Or.inr ⟨rfl, by omega⟩)⟩
            · omega
          · rw [y6] at y
            cases y
/-! the runs -/
theorem JIv_f {r : Int} (hs : JS0 A B YA sv g bs) (hr : 0 ≤ r ∧ r < B 70 0 sv) (h : JIv A B YA sv bs r 0 c C Y ln M) (n : Nat) : ∀ (c1 : Int) (C1 : Nat → Int → Int → Int) (Y1 : Nat → Int → Int → Option Int) (ln1 : Int → Int) (M1 : Nat → Int → Int → Int), (n : Int) ≤ B 72 0 (30 * sv + r) → fTrC g r bs rule n c C Y ln c1 C1 Y1 ln1 → fTrM sv r rule bs n M M1 → JIv A B YA sv bs r (n : Int) c1 C1 Y1 ln1 M1 := by
  induction n with
  | zero =>
    rintro c1 C1 Y1 ln1 M1 - ⟨rfl, rfl, rfl, rfl⟩ rfl
    exact h
  | succ n ih =>
    rintro c1 C1 Y1 ln1 M1 hn ⟨c', X', Y', l', t, v, st⟩ ⟨M', tm, vm, sm⟩
    have i := ih c' X' Y' l' M' (by omega) t tm
    have e := (stM_eq i.2.2.2.2.2.1 (by decide)).2.2.2.2
    rw [e] at vm
    have h9 := JIv_step hs hr ⟨by omega, by omega⟩ i vm st sm
    have e1 : ((n + 1 : Nat) : Int) = (n : Int) + 1 := by omega
    rw [e1]
    exact h9
theorem JIv_r (hs : JS0 A B YA sv g bs) (h : JIv A B YA sv bs 0 0 c C Y ln M) (n : Nat) : ∀ (c1 : Int) (C1 : Nat → Int → Int → Int) (Y1 : Nat → Int → Int → Option Int) (ln1 : Int → Int) (M1 : Nat → Int → Int → Int), (n : Int) ≤ B 70 0 sv → rTrC g bs rule n c C Y ln c1 C1 Y1 ln1 → rTrM sv rule bs n M M1 → JIv A B YA sv bs (n : Int) 0 c1 C1 Y1 ln1 M1 := by
  induction n with
  | zero =>
    rintro c1 C1 Y1 ln1 M1 - ⟨rfl, rfl, rfl, rfl⟩ rfl
    exact h
  | succ n ih =>
    rintro c1 C1 Y1 ln1 M1 hn ⟨c', X', Y', l', t, st⟩ ⟨M', tm, sm⟩
    have i := ih c' X' Y' l' M' (by omega) t tm
    have e9 : X' 9 g (n : Int) = B 72 0 (30 * sv + (n : Int)) := by
      rw [i.2.2.2.1.arr 9 (by decide +kernel) (by decide)]
      exact (hs.1.1.2.2.2.1 (n : Int) (by omega) (by omega)).2.1
    have e72 : M' 72 0 (30 * sv + (n : Int)) = B 72 0 (30 * sv + (n : Int)) := by rw [i.2.2.2.2.2.1.arr 72 (by decide +kernel) (by decide)]
    rw [e9] at st
    rw [e72] at sm
    by_cases hp : 0 ≤ B 72 0 (30 * sv + (n : Int))
    · have h9 := JIv_f hs ⟨by omega, by omega⟩ i _ c1 C1 Y1 ln1 M1 (by omega) st sm
      exact h9.up (Or.inl (by omega))
    · have ez : (B 72 0 (30 * sv + (n : Int))).toNat = 0 := by omega
      rw [ez] at st sm
      obtain ⟨rfl, rfl, rfl, rfl⟩ := st
      obtain rfl := sm
      exact i.up (Or.inl (by omega))
/-! each side alone: what it leaves, and that each field it went past may go back -/
theorem fStC.frm {x i f : Int} (h : fStC g x i f c C Y ln c1 C1 Y1 ln1) : Frm [1600, 2602, 2700] C C1 ∧ Frm [1700, 600] Y Y1 := by
  rcases h with ⟨-, -, e2, e3, -⟩ | ⟨-, -, -, e2, e3, -⟩ | ⟨-, -, -, -, e2, e3, -⟩ | ⟨-, -, -, Y', q, rp, eY⟩
  · rw [e2, e3]
    exact ⟨Frm.rf, Frm.rf⟩
  · rw [e2, e3]
    exact ⟨Frm.set Frm.rf (show 1600 ∈ [1600, 2602, 2700] by first | exact nlm_in rfl | decide), Frm.rf⟩
  · rw [e2, e3]
    exact ⟨Frm.rf, Frm.set Frm.rf (show 1700 ∈ [1700, 600] by first | exact nlm_in rfl | decide)⟩
  · rcases rp with ⟨-, -, e2, e3, -⟩ | ⟨-, -, -, -, -, -, -, eF, e3⟩
    · rw [e2, eY, e3]
      exact ⟨Frm.rf, Frm.set Frm.rf (show 1700 ∈ [1700, 600] by first | exact nlm_in rfl | decide)⟩
    · rw [eY, e3]
      exact ⟨eF.mono (by decide), Frm.set (Frm.set Frm.rf (show 600 ∈ [1700, 600] by first | exact nlm_in rfl | decide)) (show 1700 ∈ [1700, 600] by first | exact nlm_in rfl | decide)⟩
theorem fStM.frm {r k : Int} (h : fStM sv r bs k M M1) : Frm [5600, 6000, 5700, 5800, 5900, 8500] M M1 := by
  rcases h with ⟨-, e⟩ | ⟨-, -, e⟩ | ⟨-, -, -, e⟩ | ⟨-, -, -, X', row, rb, e⟩
  · rw [e]
    exact Frm.rf
  · rw [e]
    exact Frm.set Frm.rf (show 5600 ∈ [5600, 6000, 5700, 5800, 5900, 8500] by first | exact nlm_in rfl | decide)
  · rw [e]
    exact Frm.set Frm.rf (show 5600 ∈ [5600, 6000, 5700, 5800, 5900, 8500] by first | exact nlm_in rfl | decide)
  · rw [e]
    rcases rb with ⟨-, -, eX⟩ | ⟨-, -, -, -, -, -, -, -, -, nF⟩
    · rw [eX]
      exact Frm.set Frm.rf (show 5600 ∈ [5600, 6000, 5700, 5800, 5900, 8500] by first | exact nlm_in rfl | decide)
    · exact Frm.set (nF.mono (by decide)) (show 5600 ∈ [5600, 6000, 5700, 5800, 5900, 8500] by first | exact nlm_in rfl | decide)
theorem fTrC.all {r : Int} (n : Nat) : ∀ (c1 : Int) (C1 : Nat → Int → Int → Int) (Y1 : Nat → Int → Int → Option Int) (ln1 : Int → Int), fTrC g r bs rule n c C Y ln c1 C1 Y1 ln1 → (Frm [1600, 2602, 2700] C C1 ∧ Frm [1700, 600] Y Y1) ∧ ∀ k, 0 ≤ k → k < (n : Int) → fvC C Y (bs + r) g (5 * r + k) rule = 0 := by
  induction n with
  | zero =>
    rintro c1 C1 Y1 ln1 ⟨-, rfl, rfl, -⟩
    exact ⟨⟨Frm.rf, Frm.rf⟩, fun k a b => by omega⟩
  | succ n ih =>
    rintro c1 C1 Y1 ln1 ⟨c', X', Y', l', t, v, st⟩
    obtain ⟨⟨i1, i2⟩, i3⟩ := ih c' X' Y' l' t
    obtain ⟨s1, s2⟩ := st.frm
    rw [(stC_eq i1 i2 (by decide) (by decide)).2.2.2] at v
    refine ⟨⟨i1.tr s1, i2.tr s2⟩, fun k a b => ?_⟩
    by_cases e : k = (n : Int)
    · rw [e]
      exact v
    · exact i3 k a (by omega)
theorem rTrC.all (n : Nat) : ∀ (c1 : Int) (C1 : Nat → Int → Int → Int) (Y1 : Nat → Int → Int → Option Int) (ln1 : Int → Int), rTrC g bs rule n c C Y ln c1 C1 Y1 ln1 → (Frm [1600, 2602, 2700] C C1 ∧ Frm [1700, 600] Y Y1) ∧ ∀ r k, 0 ≤ r → r < (n : Int) → 0 ≤ k → k < C 9 g r → fvC C Y (bs + r) g (5 * r + k) rule = 0 := by
  induction n with
  | zero =>
    rintro c1 C1 Y1 ln1 ⟨-, rfl, rfl, -⟩
    exact ⟨⟨Frm.rf, Frm.rf⟩, fun r k a b => by omega⟩
  | succ n ih =>
    rintro c1 C1 Y1 ln1 ⟨c', X', Y', l', t, st⟩
    obtain ⟨⟨i1, i2⟩, i3⟩ := ih c' X' Y' l' t
    obtain ⟨⟨s1, s2⟩, s3⟩ := fTrC.all _ _ _ _ _ st
    rw [(stC_eq i1 i2 (by decide) (by decide)).2.2.2, i1.arr 9 (by decide +kernel) (by decide)] at s3
    refine ⟨⟨i1.tr s1, i2.tr s2⟩, fun r k a b k0 k1 => ?_⟩
    by_cases e : r = (n : Int)
    · rw [e] at k1 ⊢
      exact s3 k k0 (by omega)
    · exact i3 r k a (by omega) k0 k1
theorem fTrM.all {r : Int} (n : Nat) : ∀ (M1 : Nat → Int → Int → Int), fTrM sv r rule bs n M M1 → Frm [5600, 6000, 5700, 5800, 5900, 8500] M M1 ∧ ∀ k, 0 ≤ k → k < (n : Int) → fvM M sv r k rule = 0 := by
  induction n with
  | zero =>
    rintro M1 rfl
    exact ⟨Frm.rf, fun k a b => by omega⟩
  | succ n ih =>
    rintro M1 ⟨M', tm, vm, sm⟩
    obtain ⟨i1, i3⟩ := ih M' tm
    rw [(stM_eq i1 (by decide)).2.2.2.2] at vm
    refine ⟨i1.tr sm.frm, fun k a b => ?_⟩
    by_cases e : k = (n : Int)
    · rw [e]
      exact vm
    · exact i3 k a (by omega)
theorem rTrM.all (n : Nat) : ∀ (M1 : Nat → Int → Int → Int), rTrM sv rule bs n M M1 → Frm [5600, 6000, 5700, 5800, 5900, 8500] M M1 ∧ ∀ r k, 0 ≤ r → r < (n : Int) → 0 ≤ k → k < M 72 0 (30 * sv + r) → fvM M sv r k rule = 0 := by
  induction n with
  | zero =>
    rintro M1 rfl
    exact ⟨Frm.rf, fun r k a b => by omega⟩
  | succ n ih =>
    rintro M1 ⟨M', tm, sm⟩
    obtain ⟨i1, i3⟩ := ih M' tm
    obtain ⟨s1, s3⟩ := fTrM.all _ _ sm
    rw [(stM_eq i1 (by decide)).2.2.2.2, i1.arr 72 (by decide +kernel) (by decide)] at s3
    refine ⟨i1.tr s1, fun r k a b k0 k1 => ?_⟩
    by_cases e : r = (n : Int)
    · rw [e] at k1 ⊢
      exact s3 k k0 (by omega)
    · exact i3 r k a (by omega) k0 k1
/-! ends -/
theorem RB.mp (h : RB c C Y ln M) (a13 : M1 40 0 13 = M 40 0 13) (a20 : M1 40 0 20 = M 40 0 20) (a22 : M1 40 0 22 = M 40 0 22) (e : ∀ κ ∈ [44, 46, 55, 56, 57, 58, 59, 62, 64, 65, 66, 67, 68], M1 κ = M κ) : RB c C Y ln M1 := by
  have e44 := e 44 (by decide)
  have e46 := e 46 (by decide)
  have e55 := e 55 (by decide)
  have e56 := e 56 (by decide)
  have e57 := e 57 (by decide)
  have e58 := e 58 (by decide)
  have e59 := e 59 (by decide)
  have e62 := e 62 (by decide)
  have e64 := e 64 (by decide)
  have e65 := e 65 (by decide)
  have e66 := e 66 (by decide)
  have e67 := e 67 (by decide)
  have e68 := e 68 (by decide)
  unfold RB rH rN nOK rR Lv LvF LvN LvI lnM fcM at *
  simp only [a13, a20, a22, e44, e46, e55, e56, e57, e58, e59, e62, e64, e65, e66, e67, e68]
  exact h
theorem RB.mfr {L : List Nat} (h : RB c C Y ln M) (hF : Frm L M M1) (hd : ∀ q ∈ [4014, 4021, 4023, 4400, 4600, 5500, 5600, 5700, 5800, 5900, 6200, 6400, 6500, 6600, 6700, 6800], q ∉ L) : RB c C Y ln M1 := h.mp (hF 40 0 13 (hd 4014 (by decide))) (hF 40 0 20 (hd 4021 (by decide))) (hF 40 0 22 (hd 4023 (by decide))) (fun κ hκ => by
  simp only [List.mem_cons, List.not_mem_nil, or_false] at hκ
  rcases hκ with rfl | rfl | rfl | rfl | rfl | rfl | rfl | rfl | rfl | rfl | rfl | rfl | rfl
  · exact hF.arr 44 (by decide +kernel) (hd 4400 (by decide))
  · exact hF.arr 46 (by decide +kernel) (hd 4600 (by decide))
  · exact hF.arr 55 (by decide +kernel) (hd 5500 (by decide))
  · exact hF.arr 56 (by decide +kernel) (hd 5600 (by decide))
  · exact hF.arr 57 (by decide +kernel) (hd 5700 (by decide))
  · exact hF.arr 58 (by decide +kernel) (hd 5800 (by decide))
  · exact hF.arr 59 (by decide +kernel) (hd 5900 (by decide))
  · exact hF.arr 62 (by decide +kernel) (hd 6200 (by decide))
  · exact hF.arr 64 (by decide +kernel) (hd 6400 (by decide))
  · exact hF.arr 65 (by decide +kernel) (hd 6500 (by decide))
  · exact hF.arr 66 (by decide +kernel) (hd 6600 (by decide))
  · exact hF.arr 67 (by decide +kernel) (hd 6700 (by decide))
  · exact hF.arr 68 (by decide +kernel) (hd 6800 (by decide)))
/-- the class's words that the relation speaks of, but for the number of things -/
theorem RB.cf {L : List Nat} (h : RB c C Y ln M) (e3 : C1 0 0 3 = C 0 0 3) (hF : Frm L C C1) (hd : ∀ q ∈ [1600, 2700, 3100, 2802, 2803], q ∉ L) : RB c C1 Y ln M := h.cc e3 (hF.arr 16 (by decide +kernel) (hd 1600 (by decide))) (hF.arr 27 (by decide +kernel) (hd 2700 (by decide))) (hF.arr 31 (by decide +kernel) (hd 3100 (by decide))) (fun n => hF 28 n 1 (hd 2802 (by decide))) (fun n => hF 28 n 2 (hd 2803 (by decide)))
/-- the new things go again, on both sides -/
theorem RB.cut {L K : List Nat} {N : Int} (h : RB c C Y ln M) (hN : 0 ≤ N ∧ N ≤ M 40 0 13) (hl : ∀ i, 0 ≤ i → i < c → 0 ≤ ln i ∧ ln i ≤ 12) (hF : Frm L C C1) (hd : ∀ q ∈ [1600, 2700, 3100, 2802, 2803], q ∉ L) (c3 : C1 0 0 3 = N) (hG : Frm K M M1) (hk : ∀ q ∈ [4021, 4023, 4400, 4600, 5500, 5600, 5700, 5800, 5900, 6200, 6400, 6500, 6600, 6700, 6800], q ∉ K) (m13 : M1 40 0 13 = N) : RB c C1 Y ln M1 := by
  have hLn : LnL (fun i => if 0 ≤ i ∧ i < c then ln i else 0) := fun i => by
    show 0 ≤ (if 0 ≤ i ∧ i < c then ln i else 0) ∧ (if 0 ≤ i ∧ i < c then ln i else 0) ≤ 12
    by_cases q : 0 ≤ i ∧ i < c
    · rw [if_pos q]
      exact hl i q.1 q.2
    · rw [if_neg q]
      exact ⟨by decide, by decide⟩
  have k1 := h.grow (ln1 := fun i => if 0 ≤ i ∧ i < c then ln i else 0) (Int.le_refl _) (fun i i0 i1 => if_pos ⟨i0, i1⟩)
  have k2 : RB c (u3 C 0 0 3 N) Y (fun i => if 0 ≤ i ∧ i < c then ln i else 0) (u3 M 40 0 13 N) := RB_less k1 ⟨u3_k _ _ _ _ (by first | exact Nat.ne_of_beq_eq_false rfl | decide), rfl, u3_k _ _ _ _ (by first | exact Nat.ne_of_beq_eq_false rfl | decide), u3_k _ _ _ _ (by first | exact Nat.ne_of_beq_eq_false rfl | decide), fun q hq => u3_k _ _ _ _ (by simp only [List.mem_cons, List.not_mem_nil, or_false] at hq; omega), u3_j _ _ _ _ (by decide), u3_j _ _ _ _ (by decide)⟩ hLn hN (u3_s _ _ _ _ _) (u3_s _ _ _ _ _) (u3_k _ _ _ _ (by first | exact Nat.ne_of_beq_eq_false rfl | decide)) (u3_k _ _ _ _ (by first | exact Nat.ne_of_beq_eq_false rfl | decide)) (u3_k _ _ _ _ (by first | exact Nat.ne_of_beq_eq_false rfl | decide)) (u3_k _ _ _ _ (by first | exact Nat.ne_of_beq_eq_false rfl | decide)) (u3_k _ _ _ _ (by first | exact Nat.ne_of_beq_eq_false rfl | decide)) rfl rfl
  have k3 := k2.grow (ln1 := ln) (Int.le_refl _) (fun i i0 i1 => (if_pos (show 0 ≤ i ∧ i < c from ⟨i0, i1⟩)).symm)
  have k4 : RB c C1 Y ln (u3 M 40 0 13 N) := k3.cc (by rw [c3, u3_s]) (by rw [u3_k _ _ _ _ (by first | exact Nat.ne_of_beq_eq_false rfl | decide)]; exact hF.arr 16 (by decide +kernel) (hd 1600 (by decide))) (by rw [u3_k _ _ _ _ (by first | exact Nat.ne_of_beq_eq_false rfl | decide)]; exact hF.arr 27 (by decide +kernel) (hd 2700 (by decide))) (by rw [u3_k _ _ _ _ (by first | exact Nat.ne_of_beq_eq_false rfl | decide)]; exact hF.arr 31 (by decide +kernel) (hd 3100 (by decide))) (fun n => by rw [u3_k _ _ _ _ (by first | exact Nat.ne_of_beq_eq_false rfl | decide)]; exact hF 28 n 1 (hd 2802 (by decide))) (fun n => by rw [u3_k _ _ _ _ (by first | exact Nat.ne_of_beq_eq_false rfl | decide)]; exact hF 28 n 2 (hd 2803 (by decide)))
  refine k4.mp (by rw [m13, u3_s]) (by rw [u3_j _ _ _ _ (by decide)]; exact hG 40 0 20 (hk 4021 (by decide))) (by rw [u3_j _ _ _ _ (by decide)]; exact hG 40 0 22 (hk 4023 (by decide))) (fun κ hκ => ?_)
  simp only [List.mem_cons, List.not_mem_nil, or_false] at hκ
  rcases hκ with rfl | rfl | rfl | rfl | rfl | rfl | rfl | rfl | rfl | rfl | rfl | rfl | rfl <;> rw [u3_k _ _ _ _ (by first | exact Nat.ne_of_beq_eq_false rfl | decide)]
  · exact hG.arr 44 (by decide +kernel) (hk 4400 (by decide))
  · exact hG.arr 46 (by decide +kernel) (hk 4600 (by decide))
  · exact hG.arr 55 (by decide +kernel) (hk 5500 (by decide))
  · exact hG.arr 56 (by decide +kernel) (hk 5600 (by decide))
  · exact hG.arr 57 (by decide +kernel) (hk 5700 (by decide))
  · exact hG.arr 58 (by decide +kernel) (hk 5800 (by decide))
  · exact hG.arr 59 (by decide +kernel) (hk 5900 (by decide))
  · exact hG.arr 62 (by decide +kernel) (hk 6200 (by decide))
  · exact hG.arr 64 (by decide +kernel) (hk 6400 (by decide))
  · exact hG.arr 65 (by decide +kernel) (hk 6500 (by decide))
  · exact hG.arr 66 (by decide +kernel) (hk 6600 (by decide))
  · exact hG.arr 67 (by decide +kernel) (hk 6700 (by decide))
  · exact hG.arr 68 (by decide +kernel) (hk 6800 (by decide))
theorem jdC_pt (a0 : C1 0 0 3 = C 0 0 3) (a1 : C1 16 = C 16) (a2 : ∀ i, C1 19 i 0 = C 19 i 0) (a3 : ∀ i, C1 19 i 1 = C 19 i 1) (a4 : C1 20 = C 20) (a5 : C1 21 = C 21) (a6 : ∀ i, C1 25 i 0 = C 25 i 0) (a7 : ∀ i, C1 25 i 1 = C 25 i 1) (a8 : ∀ i, C1 25 i 2 = C 25 i 2) (a9 : ∀ i, C1 25 i 3 = C 25 i 3) (b0 : C1 27 = C 27) (c3 : ∀ i, C1 19 i 6 = C 19 i 6) : jdC C1 Y ln = jdC C Y ln := by
  have e : ckC C1 Y ln = ckC C Y ln := by
    funext x g
    simp only [ckC, ldC, a0, a1, a2, a3, a4, a5, a6, a7, a8, a9, b0]
  funext x z
  simp only [jdC, e, c3]
end PB
end
section
/-! putting back: both sides -/
section JS3
variable {cnt cnt1 : Nat → Int} {X X1 X2 : Nat → Int → Int → Int} {Y Y1 : Nat → Int → Int → Option Int} {ln ln1 : Int → Int} {c c1 : Int} {L N K : List Nat}
/-- how it begins: the new things are there, nothing went back yet -/
theorem J_begin {sv g : Int} {A A' : Nat → Int → Int → Int} {YA Yz : Nat → Int → Int → Option Int} (h : RC cnt X Y ln) (hMI : MInv X) (hR : Rng X) (hLn : LnL ln) (hN9 : 0 ≤ cnt 25 ∧ 0 ≤ cnt 26) (hi : ∀ κ, 40 ≤ κ → X1 κ = X κ) (hok : 0 ≤ sv ∧ sv < 4 ∧ X 70 0 sv ≠ 0) (eg : Y 4 0 sv = some g)
    (hA : A 0 0 3 = X 0 0 3 + X 7 g 0 ∧ (∀ r9, 0 ≤ r9 → r9 < X 7 g 0 → YA 15 (X 0 0 3 + r9) 0 = some (X 8 g r9) ∧ ∀ j, 0 ≤ j → j < X 19 (X 8 g r9) 1 → A 16 (X 0 0 3 + r9) j = X 22 (X 8 g r9) j ∧ YA 17 (X 0 0 3 + r9) j = none) ∧ (∀ y, y < X 0 0 3 → YA 15 y 0 = Y 15 y 0 ∧ ∀ j, A 16 y j = X 16 y j ∧ YA 17 y j = Y 17 y j) ∧ Frm [4, 1600] X A ∧ Frm [1501, 1700] Y YA) (hz : Frm [600] YA Yz) (hz6 : ∀ j, 0 ≤ j → j < 3 * A 7 g 6 → Yz 6 0 j = none) (hI : rsI X1 A' sv) : JS0 A A' Yz sv g (X 0 0 3) ∧ JIv A A' Yz sv (X 0 0 3) 0 0 (cnt 26) A Yz ln A' := by
  obtain ⟨⟨hT, hM, hW, hC, hf⟩, hB, hK, hS, h6, hN⟩ := id h
  obtain ⟨hA1, hA2, hA3, fA, fYA⟩ := hA
  obtain ⟨i13, i85, iO, iN, iF⟩ := hI
  have h3 := hB.1.1.1
  have s0 := hS sv g hok.1 hok.2.1 eg
  have m : ∀ κ, 40 ≤ κ → (lay κ).1 = 0 → κ * 100 ∉ [4001, 4014, 5500, 5600, 8500] → A' κ = X κ := fun κ a b d => (iF.arr κ b d).trans (hi κ a)
  have e42 := m 42 (by decide) (by decide +kernel) (by decide)
  have e44 := m 44 (by decide) (by decide +kernel) (by decide)
  have e45 := m 45 (by decide) (by decide +kernel) (by decide)
  have e46 := m 46 (by decide) (by decide +kernel) (by decide)
  have e70 := m 70 (by decide) (by decide +kernel) (by decide)
  have e71 := m 71 (by decide) (by decide +kernel) (by decide)
  have e72 := m 72 (by decide) (by decide +kernel) (by decide)
  have e73 := m 73 (by decide) (by decide +kernel) (by decide)
  have e74 := m 74 (by decide) (by decide +kernel) (by decide)
  have e75 := m 75 (by decide) (by decide +kernel) (by decide)
  have e76 := m 76 (by decide) (by decide +kernel) (by decide)
  have e77 := m 77 (by decide) (by decide +kernel) (by decide)
  have e78 := m 78 (by decide) (by decide +kernel) (by decide)
  have e79 := m 79 (by decide) (by decide +kernel) (by decide)
  unfold New at iN
  unfold Old at iO
  rw [hi 40 (by decide), hi 70 (by decide)] at i13
  rw [hi 40 (by decide), hi 44 (by decide), hi 47 (by decide), hi 70 (by decide), hi 71 (by decide)] at iN
  rw [hi 40 (by decide), hi 55 (by decide), hi 56 (by decide)] at iO
  have r70 : 0 ≤ X 70 0 sv ∧ X 70 0 sv ≤ 30 := hR 70 0 sv
  have r76 : 0 ≤ X 76 0 sv ∧ X 76 0 sv ≤ 150 := hR 76 0 sv
  have r13 : 0 ≤ X 40 0 13 ∧ X 40 0 13 ≤ 30 := hR 40 0 13
  have s1 := s0.1
  have hkE := KE.frm fA (by decide) g
  have sA : rSv A A' g sv := s0.of hkE.1.1 hkE.1.2 hkE.2 (fun κ hκ => by
    simp only [List.mem_cons, List.not_mem_nil, or_false] at hκ
    rcases hκ with rfl | rfl | rfl | rfl | rfl | rfl | rfl | rfl | rfl | rfl
    · exact e70
    · exact e71
    · exact e72
    · exact e73
    · exact e74
    · exact e75
    · exact e76
    · exact e77
    · exact e78
    · exact e79)
  have a19 : ∀ i, A 19 i 1 = X 19 i 1 := fun i => fA 19 i 1 (show 1902 ∉ _ by decide)
  have a20 := fA.arr 20 (by decide +kernel) (by decide)
  have a21 := fA.arr 21 (by decide +kernel) (by decide)
  have a3 := fA.arr 3 (by decide +kernel) (by decide)
  -- the types of the new things
  have ty : ∀ r, 0 ≤ r → r < X 70 0 sv → X 8 g r = X 71 0 (30 * sv + r) ∧ (0 ≤ X 71 0 (30 * sv + r) ∧ X 71 0 (30 * sv + r) < X 0 0 1) := fun r r0 r1 => by
    have b1 := (s0.2.2.2.1 r r0 r1).1
    have b2 := (hMI.2.2.1 sv r hok.1 (by omega) r0 r1).1
    have b3 : 0 ≤ X 71 0 (30 * sv + r) ∧ X 71 0 (30 * sv + r) ≤ 7 := hR 71 0 _
    unfold rT at hT
    exact ⟨b1, b3.1, by omega⟩
  have y15 : ∀ r, 0 ≤ r → r < X 70 0 sv → Yz 15 (X 0 0 3 + r) 0 = some (X 71 0 (30 * sv + r)) := fun r r0 r1 => by
    rw [hz 15 _ 0 (show 1501 ∉ _ by decide), (hA2 r r0 (by omega)).1, (ty r r0 r1).1]
  have fYz : Frm [1501, 1700, 600] Y Yz := (fYA.mono (by decide)).tr (hz.mono (by decide))
  have z17 : Yz 17 = YA 17 := hz.arr 17 (by decide +kernel) (by decide)
  refine ⟨⟨⟨sA, by rw [e70]; omega⟩, ⟨hok.1, hok.2.1⟩, ⟨by omega, by rw [i13, e70, h3]⟩, fun r r0 r1 => ?_, fun v v0 v1 => ?_, fun t => by rw [e44]; exact (hR 44 0 t).2, fun i => by rw [e78]; exact hR 78 0 i, fun i => by rw [e46]; exact (hR 46 0 i).2, fun r k r0 r1 k0 k1 => ?_⟩, ?_, fun i _ _ => hLn i, hN9.2, Frm.rf, Frm.rf, Frm.rf, fun j j0 j1 => ?_⟩
  · rw [e70] at r1
    obtain ⟨t1, t2⟩ := ty r r0 r1
    obtain ⟨d1, d2⟩ := hf _ t2.1 t2.2
    rw [e71, e44, e45, e46, a19, a20, a21]
    refine ⟨y15 r r0 r1, ?_, d1, fun j j0 j1 => ?_⟩
    · have h9 := (iN r r0 r1).1
      rw [h3]
      exact h9
    · have h9 := d2 j j0 (by rw [d1]; exact j1)
      exact ⟨h9.1, h9.2.1⟩
  · rw [a3, e42]
    have r42 : 0 ≤ X 42 0 v ∧ X 42 0 v ≤ 1 := hR 42 0 v
    exact ⟨hW v v0 v1, by omega⟩
  · rw [e70] at r1
    rw [e72] at k1
    rw [e70, e74, e75]
    exact (hMI.2.2.1 sv r hok.1 (by omega) r0 r1).2 k k0 k1
  · refine RB_things (N := X 70 0 sv) (T := fun y => X 71 0 (30 * sv + (y - X 40 0 13))) hB.1 ⟨fA.fn 28 (fun j => by rw [fc28]; simp; omega), fYz.fn 28 (fun j => by rw [fc28]; simp; omega), fA.arr 31 (by decide +kernel) (by decide), fA.arr 27 (by decide +kernel) (by decide), fun q hq => ?_, ?_, ?_⟩ hLn r70.1 (by rw [hA1, s1]) (fun y y0 y1 => ?_) (fun y y1 => ?_) (fun y k y0 y1 k0 k1 => ?_) (fun y k y1 => ?_) i13 e44 e46 (fun y y0 y1 => ?_) (fun y y1 => iO.1 y y1) (fun y k y0 y1 k0 k1 => ?_) (fun j hj => iO.2 j hj) (fun t => (hR 44 0 t).2) (fun y k y0 y1 k0 k1 => ?_) (fun n n0 n1 n2 => ((hMI.2.2.2.1 n n0 n1).1 n2).1)
    · simp only [List.mem_cons, List.not_mem_nil, or_false] at hq
      rcases hq with rfl | rfl | rfl | rfl | rfl | rfl | rfl | rfl | rfl <;> exact m _ (by decide) (by decide +kernel) (by decide)
    · rw [iF 40 0 20 (show 4021 ∉ _ by decide), hi 40 (by decide)]
    · rw [iF 40 0 22 (show 4023 ∉ _ by decide), hi 40 (by decide)]
    · have h9 := y15 (y - X 40 0 13) (by omega) (by omega)
      rw [show X 0 0 3 + (y - X 40 0 13) = y by omega] at h9
      exact h9
    · rw [hz 15 y 0 (show 1501 ∉ _ by decide)]
      exact (hA3 y (by omega)).1
    · have h9 := (hA2 (y - X 40 0 13) (by omega) (by omega)).2 k k0
      obtain ⟨t1, t2⟩ := ty (y - X 40 0 13) (by omega) (by omega)
      rw [show X 0 0 3 + (y - X 40 0 13) = y by omega, t1] at h9
      rw [z17]
      exact h9 (by rw [(hf _ t2.1 t2.2).1]; exact k1)
    · rw [z17]
      exact (hA3 y (by omega)).2 k
    · have h9 := (iN (y - X 40 0 13) (by omega) (by omega)).1
      rw [show X 40 0 13 + (y - X 40 0 13) = y by omega] at h9
      exact h9
    · have h9 := (iN (y - X 40 0 13) (by omega) (by omega)).2 k k0 k1
      rw [show X 40 0 13 + (y - X 40 0 13) = y by omega] at h9
      exact h9
    · obtain ⟨t1, t2⟩ := ty (y - X 40 0 13) (by omega) (by omega)
      obtain ⟨d1, d2⟩ := hf _ t2.1 t2.2
      have t3 : X 71 0 (30 * sv + (y - X 40 0 13)) ≤ 7 := (hR 71 0 _).2
      exact ⟨(d2 k k0 (by rw [d1]; exact k1)).2.2.1, fun ne => hMI.2.1 _ k t2.1 t3 k0 k1 ne⟩
  · rw [e76] at j1
    have h7 : A 7 g 6 = X 76 0 sv := by
      rw [sA.2.1 (by rw [e70]; omega), e76]
    exact Or.inl ⟨hz6 j j0 (by rw [h7]; exact j1), by rw [i85 j j0 (by omega)]; decide⟩
theorem RC.two (h : RC cnt X Y ln) (hF : Frm L X X1) (hG : Frm K X1 X2) (h1 : ∀ q ∈ L, 4000 < q) (h2 : ∀ q ∈ K, 4000 < q) (hd : ∀ q ∈ [4003, 4014, 4021, 4023, 4200, 4400, 4500, 4600, 4700, 4800, 4900, 5000, 5100, 5200, 5300, 5500, 5600, 5700, 5800, 5900, 6200, 6400, 6500, 6600, 6700, 6800, 7000, 7100, 7200, 7300, 7400, 7500, 7600, 7700, 7800, 7900], q ∉ L) (he : ∀ q ∈ [4003, 4014, 4021, 4023, 4200, 4400, 4500, 4600, 4700, 4800, 4900, 5000, 5100, 5200, 5300, 5500, 5600, 5700, 5800, 5900, 6200, 6400, 6500, 6600, 6700, 6800, 7000, 7100, 7200, 7300, 7400, 7500, 7600, 7700, 7800, 7900], q ∉ K) : RC cnt X2 Y ln := by
  have sb : ∀ (P : List Nat), (∀ q ∈ P, 4000 < q) → (∀ q ∈ [4003, 4014, 4021, 4023, 4200, 4400, 4500, 4600, 4700, 4800, 4900, 5000, 5100, 5200, 5300, 5500, 5600, 5700, 5800, 5900, 6200, 6400, 6500, 6600, 6700, 6800, 7000, 7100, 7200, 7300, 7400, 7500, 7600, 7700, 7800, 7900], q ∉ P) → ∀ q, (q < 4000 ∨ q ∈ [4003, 4014, 4021, 4023, 4200, 4400, 4500, 4600, 4700, 4800, 4900, 5000, 5100, 5200, 5300, 5500, 5600, 5700, 5800, 5900, 6200, 6400, 6500, 6600, 6700, 6800, 7000, 7100, 7200, 7300, 7400, 7500, 7600, 7700, 7800, 7900]) → q ∉ P := fun P a b q c w => by
    rcases c with c | c
    · have := a q w
      omega
    · exact b q c w
  exact RC_of (N := []) h hF Frm.rf hG (fun q hq => sb L h1 hd q ((show ∀ q ∈ [2, 4003, 2904, 4021, 300, 4200, 1907, 4900, 1902, 2000, 2100, 2200, 2300, 4400, 4500, 4600, 4700, 4800, 5000, 5100, 5200, 5300, 2501, 2502, 2503, 2504, 701, 707, 800, 900, 1000, 1100, 1200, 1300, 1400, 7000, 7100, 7200, 7300, 7400, 7500, 7600, 7700, 7800, 7900], (q < 4000 ∨ q ∈ [4003, 4014, 4021, 4023, 4200, 4400, 4500, 4600, 4700, 4800, 4900, 5000, 5100, 5200, 5300, 5500, 5600, 5700, 5800, 5900, 6200, 6400, 6500, 6600, 6700, 6800, 7000, 7100, 7200, 7300, 7400, 7500, 7600, 7700, 7800, 7900]) by decide) q hq)) (by decide) (fun q hq => sb K h2 he q ((show ∀ q ∈ [2, 4003, 2904, 4021, 300, 4200, 1907, 4900, 1902, 2000, 2100, 2200, 2300, 4400, 4500, 4600, 4700, 4800, 5000, 5100, 5200, 5300, 2501, 2502, 2503, 2504, 701, 707, 800, 900, 1000, 1100, 1200, 1300, 1400, 7000, 7100, 7200, 7300, 7400, 7500, 7600, 7700, 7800, 7900], (q < 4000 ∨ q ∈ [4003, 4014, 4021, 4023, 4200, 4400, 4500, 4600, 4700, 4800, 4900, 5000, 5100, 5200, 5300, 5500, 5600, 5700, 5800, 5900, 6200, 6400, 6500, 6600, 6700, 6800, 7000, 7100, 7200, 7300, 7400, 7500, 7600, 7700, 7800, 7900]) by decide) q hq)) (Int.le_refl _) ((h.2.1.mdl hF h1 (fun q hq => sb L h1 hd q (Or.inr ((show ∀ q ∈ [4014, 4021, 4023, 4400, 4600, 5500, 5600, 5700, 5800, 5900, 6200, 6400, 6500, 6600, 6700, 6800], q ∈ [4003, 4014, 4021, 4023, 4200, 4400, 4500, 4600, 4700, 4800, 4900, 5000, 5100, 5200, 5300, 5500, 5600, 5700, 5800, 5900, 6200, 6400, 6500, 6600, 6700, 6800, 7000, 7100, 7200, 7300, 7400, 7500, 7600, 7700, 7800, 7900] by decide) q hq)))).mdl hG h2 (fun q hq => sb K h2 he q (Or.inr ((show ∀ q ∈ [4014, 4021, 4023, 4400, 4600, 5500, 5600, 5700, 5800, 5900, 6200, 6400, 6500, 6600, 6700, 6800], q ∈ [4003, 4014, 4021, 4023, 4200, 4400, 4500, 4600, 4700, 4800, 4900, 5000, 5100, 5200, 5300, 5500, 5600, 5700, 5800, 5900, 6200, 6400, 6500, 6600, 6700, 6800, 7000, 7100, 7200, 7300, 7400, 7500, 7600, 7700, 7800, 7900] by decide) q hq))))
theorem J_restore {z z2 sv rule : Int} (h : RC cnt X Y ln) (hMI : MInv X) (hR : Rng X) (hR1 : Rng X1) (hLn : LnL ln) (hN9 : 0 ≤ cnt 25 ∧ 0 ≤ cnt 26) (hF : Frm [4, 1600, 2602, 2700, 3201, 3202, 3203, 3204] X X1) (hH : Frm [1501, 1700, 600] Y Y1) (hc : ∀ k, cnt k ≤ cnt1 k) (hl : ∀ i, 0 ≤ i → i < cnt 26 → ln1 i = ln i) (hLn1 : LnL ln1) (p : ((¬ (0 ≤ sv ∧ sv < 4 ∧ X 7 (tyo (Y 4 0 sv)) 0 ≠ 0) ∧ z = -1 ∧ X1 = X ∧ Y1 = Y ∧ cnt1 26 = cnt 26 ∧ ln1 = ln) ∨ ((0 ≤ sv ∧ sv < 4 ∧ X 7 (tyo (Y 4 0 sv)) 0 ≠ 0) ∧ ¬ (0 ≤ rule ∧ rule < 4) ∧ z = -2 ∧ X1 = X ∧ Y1 = Y ∧ cnt1 26 = cnt 26 ∧ ln1 = ln) ∨ ((0 ≤ sv ∧ sv < 4 ∧ X 7 (tyo (Y 4 0 sv)) 0 ≠ 0) ∧ (0 ≤ rule ∧ rule < 4) ∧ 30 < X 0 0 3 + X 7 (tyo (Y 4 0 sv)) 0 ∧ z = -4 ∧ X1 = X ∧ Y1 = Y ∧ cnt1 26 = cnt 26 ∧ ln1 = ln) ∨ ((0 ≤ sv ∧ sv < 4 ∧ X 7 (tyo (Y 4 0 sv)) 0 ≠ 0) ∧ (0 ≤ rule ∧ rule < 4) ∧ X 0 0 3 + X 7 (tyo (Y 4 0 sv)) 0 ≤ 30 ∧ ∃ (g : Int) (A B : Nat → Int → Int → Int) (YA YB : Nat → Int → Int → Option Int) (cB zf : Int) (lB : Int → Int), Y 4 0 sv = some g ∧ (A 0 0 3 = X 0 0 3 + X 7 g 0 ∧ (∀ r9, 0 ≤ r9 → r9 < X 7 g 0 → YA 15 (X 0 0 3 + r9) 0 = some (X 8 g r9) ∧ ∀ j, 0 ≤ j → j < X 19 (X 8 g r9) 1 → A 16 (X 0 0 3 + r9) j = X 22 (X 8 g r9) j ∧ YA 17 (X 0 0 3 + r9) j = none) ∧ (∀ y, y < X 0 0 3 → YA 15 y 0 = Y 15 y 0 ∧ ∀ j, A 16 y j = X 16 y j ∧ YA 17 y j = Y 17 y j) ∧ Frm [4, 1600] X A ∧ Frm [1501, 1700] Y YA) ∧ (∃ Yz : Nat → Int → Int → Option Int, Frm [600] YA Yz ∧ (∀ j, 0 ≤ j → j < 3 * A 7 g 6 → Yz 6 0 j = none) ∧ ((zf = 0 ∧ rTrC g (X 0 0 3) rule (A 7 g 0).toNat (cnt 26) A Yz ln (cB) B YB lB) ∨ (zf ≠ 0 ∧ ∃ (r k cA cP : Int) (XA XP : Nat → Int → Int → Int) (YA YP : Nat → Int → Int → Option Int) (lA lP : Int → Int), 0 ≤ r ∧ r < A 7 g 0 ∧ 0 ≤ k ∧ k < A 9 g r ∧ rTrC g (X 0 0 3) rule r.toNat (cnt 26) A Yz ln cA XA YA lA ∧ fTrC g r (X 0 0 3) rule k.toNat cA XA YA lA cP XP YP lP ∧ fvC XP YP (X 0 0 3 + r) g (5 * r + k) rule = zf ∧ cB = cP ∧ YB = YP ∧ lB = lP ∧ Frm [3201, 3202, 3203, 3204] XP B))) ∧ ((zf = 0 ∧ (∀ y, X 0 0 3 ≤ y → y < B 0 0 3 → jdC B YB lB y 0) ∧ z = X 0 0 3 ∧ Frm [3201, 3202, 3203, 3204] B X1 ∧ Y1 = YB ∧ cnt1 26 = cB ∧ ln1 = lB) ∨ (X1 0 0 3 = X 0 0 3 ∧ Frm [4, 3201, 3202, 3203, 3204] B X1 ∧ Y1 = YB ∧ cnt1 26 = cB ∧ ln1 = lB ∧ ((zf ≠ 0 ∧ z = -10 - zf) ∨ (zf = 0 ∧ ∃ y how, X 0 0 3 ≤ y ∧ y < B 0 0 3 ∧ (∀ y', X 0 0 3 ≤ y' → y' < y → jdC B YB lB y' 0) ∧ how ≠ 0 ∧ jdC B YB lB y how ∧ z = -10 - how))))))) (hG : Frm [4001, 4014, 5500, 5600, 4029, 6000, 5700, 5800, 5900, 8500, 4042, 4043, 4044] X1 X2) (hM2 : MInv X2) (q : ((¬ (0 ≤ sv ∧ sv < 4 ∧ X1 70 0 sv ≠ 0) ∧ z2 = -1 ∧ Frm [4001] X1 X2) ∨ ((0 ≤ sv ∧ sv < 4 ∧ X1 70 0 sv ≠ 0) ∧ ¬ (0 ≤ rule ∧ rule ≤ 3) ∧ z2 = -2 ∧ Frm [4001] X1 X2) ∨ ((0 ≤ sv ∧ sv < 4 ∧ X1 70 0 sv ≠ 0) ∧ (0 ≤ rule ∧ rule ≤ 3) ∧ 30 < X1 40 0 13 + X1 70 0 sv ∧ z2 = -4 ∧ Frm [4001] X1 X2) ∨ ((0 ≤ sv ∧ sv < 4 ∧ X1 70 0 sv ≠ 0) ∧ (0 ≤ rule ∧ rule ≤ 3) ∧ X1 40 0 13 + X1 70 0 sv ≤ 30 ∧ ∃ A : Nat → Int → Int → Int, rsI X1 A sv ∧ ((∃ B : Nat → Int → Int → Int, (Rng B ∧ MInv B) ∧ rTrM sv rule (X1 40 0 13) (X1 70 0 sv).toNat A B ∧ (((∀ r, 0 ≤ r → r < X1 70 0 sv → jdM B (X1 40 0 13 + r) 0) ∧ z2 = X1 40 0 13 ∧ Frm [4029] B X2) ∨ (∃ r how, 0 ≤ r ∧ r < X1 70 0 sv ∧ (∀ r', 0 ≤ r' → r' < r → jdM B (X1 40 0 13 + r') 0) ∧ how ≠ 0 ∧ jdM B (X1 40 0 13 + r) how ∧ z2 = -10 - how ∧ X2 40 0 13 = X1 40 0 13 ∧ Frm [4014, 4029, 4042, 4043, 4044] B X2))) ∨ (∃ (r : Int) (B P : Nat → Int → Int → Int), 0 ≤ r ∧ r < X1 70 0 sv ∧ rTrM sv rule (X1 40 0 13) r.toNat A B ∧ fEndM sv r rule (X1 40 0 13) z2 B P ∧ z2 ≠ 0 ∧ X2 40 0 13 = X1 40 0 13 ∧ Frm [4014] P X2))))) (hR2 : Rng X2) (hCI : CInv cnt X Y ln) : RC cnt1 X2 Y1 ln1 ∧ z = z2 := by
  obtain ⟨⟨hT, hM, hW, hC, hf⟩, hB, hK, hS, h6, hN⟩ := id h
  have hi := hF.hi (by decide)
  have e40 := hi 40 (by decide)
  have e70 := hi 70 (by decide)
  have h3 := hB.1.1.1
  have r13 : 0 ≤ X 40 0 13 ∧ X 40 0 13 ≤ 30 := hR 40 0 13
  have fin : RBn (cnt1 26) X2 Y1 ln1 → RC cnt1 X2 Y1 ln1 := RC_of h hF hH hG (by decide) (by decide) (by decide) (hc 25)
  have n22 : X2 29 0 1 = X2 40 0 22 := by
    rw [hG 29 0 1 (show 2902 ∉ _ by decide), hG 40 0 22 (show 4023 ∉ _ by decide), hF 29 0 1 (show 2902 ∉ _ by decide), e40]
    exact hB.2
  have sv7 : 0 ≤ sv → sv < 4 → X 7 (tyo (Y 4 0 sv)) 0 = X 70 0 sv := fun a b => by
    obtain ⟨g, g1, -⟩ := h6.1 sv a (by omega)
    unfold sl6 at g1
    rw [if_pos b] at g1
    rw [tyo_some g1]
    exact (hS sv g a b g1).1
  have ref : X1 = X → Y1 = Y → cnt1 26 = cnt 26 → ln1 = ln → Frm [4001] X1 X2 → RC cnt1 X2 Y1 ln1 := fun a b d e f => fin ⟨by
    rw [a] at f
    rw [b, d, e]
    exact (hB.mdl f (by decide) (by decide)).1, n22⟩
  rw [e40, e70] at q
  rcases p with ⟨pn, pz, a, b, d, e⟩ | ⟨pc, pr, pz, a, b, d, e⟩ | ⟨pc, pr, pt, pz, a, b, d, e⟩ | ⟨pc, pr, pt, g, A, B, YA, YB, cB, zf, lB, eg, hA, ⟨Yz, hz, hz6, hTr⟩, hEnd⟩
  · rcases q with ⟨-, qz, qf⟩ | ⟨qc, -⟩ | ⟨qc, -⟩ | ⟨qc, -⟩
    · exact ⟨ref a b d e qf, by omega⟩
    · exact absurd ⟨qc.1, qc.2.1, by rw [sv7 qc.1 qc.2.1]; exact qc.2.2⟩ pn
    · exact absurd ⟨qc.1, qc.2.1, by rw [sv7 qc.1 qc.2.1]; exact qc.2.2⟩ pn
    · exact absurd ⟨qc.1, qc.2.1, by rw [sv7 qc.1 qc.2.1]; exact qc.2.2⟩ pn
  · rcases q with ⟨qn, -⟩ | ⟨-, -, qz, qf⟩ | ⟨-, qr, -⟩ | ⟨-, qr, -⟩
    · exact absurd ⟨pc.1, pc.2.1, by rw [← sv7 pc.1 pc.2.1]; exact pc.2.2⟩ qn
    · exact ⟨ref a b d e qf, by omega⟩
    · exact absurd ⟨qr.1, by omega⟩ pr
    · exact absurd ⟨qr.1, by omega⟩ pr
  · have s9 := sv7 pc.1 pc.2.1
    rcases q with ⟨qn, -⟩ | ⟨-, qr, -⟩ | ⟨-, -, -, qz, qf⟩ | ⟨-, -, qt, -⟩
    · exact absurd ⟨pc.1, pc.2.1, by rw [← sv7 pc.1 pc.2.1]; exact pc.2.2⟩ qn
    · exact absurd ⟨pr.1, by omega⟩ qr
    · exact ⟨ref a b d e qf, by omega⟩
    · omega
  · have s9 := sv7 pc.1 pc.2.1
    rcases q with ⟨qn, -⟩ | ⟨-, qr, -⟩ | ⟨-, -, qt, -⟩ | ⟨qc, qr, qt, A', hI, hq⟩
    · exact absurd ⟨pc.1, pc.2.1, by rw [← sv7 pc.1 pc.2.1]; exact pc.2.2⟩ qn
    · exact absurd ⟨pr.1, by omega⟩ qr
    · omega
    obtain ⟨JS, J0⟩ := J_begin h hMI hR hLn hN9 hi qc eg hA hz hz6 hI
    obtain ⟨i13, -, -, -, iF⟩ := id hI
    rw [e40, e70] at i13
    have fA := hA.2.2.2.1
    have fYA := hA.2.2.2.2
    have a70 : A' 70 0 sv = X 70 0 sv := by rw [iF.arr 70 (by decide +kernel) (by decide), e70]
    have a7 : A 7 g 0 = X 70 0 sv := by rw [JS.1.1.1, a70]
    have r70 : 0 ≤ X 70 0 sv ∧ X 70 0 sv ≤ 30 := hR 70 0 sv
    have a9 : ∀ r, 0 ≤ r → r < X 70 0 sv → A 9 g r = A' 72 0 (30 * sv + r) := fun r r0 r1 => (JS.1.1.2.2.2.1 r r0 (by rw [a70]; exact r1)).2.1
    have fv : ∀ r k, 0 ≤ r → r < X 70 0 sv → 0 ≤ k → k < A' 72 0 (30 * sv + r) → fvC A Yz (X 0 0 3 + r) g (5 * r + k) rule = fvM A' sv r k rule := fun r k r0 r1 k0 k1 => fv_eq JS ⟨r0, by rw [a70]; exact r1⟩ ⟨k0, k1⟩
    rw [← h3] at hq
    rw [a7] at hTr
    rcases hTr with ⟨zf0, tC⟩ | ⟨zf0, r, k, cA, cP, XA, XP, YA', YP, lA, lP, r0, r1, k0, k1, tC, uC, vC, ec, eYB, elB, fXP⟩
    · obtain ⟨⟨fB, fYB⟩, aC⟩ := rTrC.all _ _ _ _ _ tC
      rcases hq with ⟨B', ⟨hRB, hMB⟩, tM, hq⟩ | ⟨r, B', P, r0, r1, tM, ⟨w, -⟩ | ⟨-, k, X', k0, k1, uM, vM, -⟩, w2, -⟩
      · obtain ⟨fB', aM⟩ := rTrM.all _ _ tM
        have J1 := JIv_r JS J0 (X 70 0 sv).toNat cB B YB lB B' (by rw [a70]; omega) tC tM
        have b13 : B' 40 0 13 = X 40 0 13 + X 70 0 sv := by rw [fB' 40 0 13 (show 4014 ∉ _ by decide), i13]
        have b3 : B 0 0 3 = X 0 0 3 + X 70 0 sv := by
          have h9 := J1.1.1.1
          omega
        have fAll : Frm [4, 1600, 2602, 2700, 3201, 3202, 3203, 3204, 4001, 4014, 5500, 5600, 8500, 6000, 5700, 5800, 5900] X B' := ((hF.mono (by decide)).tr (iF.mono (by decide))).tr (fB'.mono (by decide))
        have fB1 : Frm [4, 3201, 3202, 3203, 3204] B X1 := by
          rcases hEnd with ⟨-, -, -, f, -⟩ | ⟨-, f, -⟩
          · exact f.mono (by decide)
          · exact f
        have eYl : Y1 = YB ∧ cnt1 26 = cB ∧ ln1 = lB := by
          rcases hEnd with ⟨-, -, -, -, f⟩ | ⟨-, -, f1, f2, f3, -⟩
          · exact f
          · exact ⟨f1, f2, f3⟩
        obtain ⟨eY, ecn, eln⟩ := eYl
        have fB1' : Frm [4, 3201, 3202, 3203, 3204, 4001, 4014, 5500, 5600, 8500, 6000, 5700, 5800, 5900] B B' := ((fB1.mono (by decide)).tr (iF.mono (by decide))).tr (fB'.mono (by decide))
        -- verdicts are the same on both sides
        obtain ⟨Xm, hXm⟩ : ∃ Xm, Xm = u3 B' 0 0 3 (B 0 0 3) := ⟨_, rfl⟩
        have m3 : Xm 0 0 3 = B 0 0 3 := by rw [hXm, u3_s]
        have mk : ∀ κ, κ ≠ 0 → Xm κ = B' κ := fun κ hκ => by rw [hXm, u3_k _ _ _ _ hκ]
        have fm : Frm [4] B' Xm := by
          rw [hXm]
          exact Frm.set Frm.rf (show 4 ∈ [4] by first | exact nlm_in rfl | decide)
        have fm2 : Frm [4] Xm B' := fun κ i j hn => (fm κ i j hn).symm
        have fX : Frm [4, 1600, 2602, 2700, 3201, 3202, 3203, 3204, 4001, 4014, 5500, 5600, 8500, 6000, 5700, 5800, 5900] X Xm := fAll.tr (fm.mono (by decide))
        have fBm : Frm [4, 3201, 3202, 3203, 3204, 4001, 4014, 5500, 5600, 8500, 6000, 5700, 5800, 5900] B Xm := fB1'.tr (fm.mono (by decide))
        have hRm : Rng Xm := by
          rw [hXm]
          exact rng_set hRB (show 0 ≤ B 0 0 3 ∧ B 0 0 3 ≤ 30 by omega)
        have jC : jdC Xm YB lB = jdC B YB lB := jdC_pt m3 (fBm.arr 16 (by decide +kernel) (by decide)) (fun i => fBm 19 i 0 (show 1901 ∉ _ by decide)) (fun i => fBm 19 i 1 (show 1902 ∉ _ by decide)) (fBm.arr 20 (by decide +kernel) (by decide)) (fBm.arr 21 (by decide +kernel) (by decide)) (fun i => fBm 25 i 0 (show 2501 ∉ _ by decide)) (fun i => fBm 25 i 1 (show 2502 ∉ _ by decide)) (fun i => fBm 25 i 2 (show 2503 ∉ _ by decide)) (fun i => fBm 25 i 3 (show 2504 ∉ _ by decide)) (fBm.arr 27 (by decide +kernel) (by decide)) (fun i => fBm 19 i 6 (show 1907 ∉ _ by decide))
        have hRBm : RB cB Xm YB lB Xm := (J1.1.cf m3 fBm (by decide)).m (fun κ hκ => mk κ (by omega))
        have hHB : Frm [1501, 1700, 600] Y YB := by
          rw [← eY]
          exact hH
        have hty : ∀ t, 0 ≤ t → t < Xm 0 0 1 → Xm 19 t 0 = t := fun t t0 t1 => by
          rw [fX 0 0 1 (show 2 ∉ _ by decide)] at t1
          rw [fX 19 t 0 (show 1901 ∉ _ by decide)]
          exact (hCI.2.2.2.1.2 t t0 t1).2
        have jq : ∀ y a b, X 0 0 3 ≤ y → y < X 0 0 3 + X 70 0 sv → jdC B YB lB y a → jdM B' y b → a = b := fun y a b y0 y1 ja jb => by
          rw [← jC] at ja
          exact jd_eq hRBm (hT.frm fX (by decide)) (hf.frm fX (by decide)) (hC.frm fX (by decide)) (hK.frm fX hHB (by decide) (by decide) (Int.le_refl _)) (minv_frm hMB fm (by decide)) hRm (by rw [← eln]; exact hLn1) hty ⟨by omega, by rw [mk 40 (by decide)]; omega⟩ ja (jdM.from jb fm2 (by decide))
        have lnb := J1.2.1
        rcases hEnd with ⟨-, ej, ez, eF, -⟩ | ⟨e3, eF, -, -, -, ⟨w, -⟩ | ⟨-, y, how, y0, y1, yl, hw, jy, ez⟩⟩
        · rcases hq with ⟨-, qz, qF⟩ | ⟨r, how, r0, r1, -, hw, jr, -⟩
          · refine ⟨fin ⟨?_, n22⟩, by rw [ez, qz]⟩
            rw [eY, ecn, eln]
            exact ((J1.1.cf (eF 0 0 3 (show 4 ∉ _ by decide)) eF (by decide)).mfr qF (by decide)).mdl hG (by decide)
          · exact absurd (jq (X 0 0 3 + r) 0 how (by omega) (by omega) (ej _ (by omega) (by omega)) jr).symm hw
        · exact absurd zf0 w
        · rcases hq with ⟨jm, -⟩ | ⟨r, how2, r0, r1, rl, hw2, jr, qz, q13, qF⟩
          · have h9 := jm (y - X 0 0 3) (by omega) (by omega)
            rw [show X 0 0 3 + (y - X 0 0 3) = y by omega] at h9
            exact absurd (jq y how 0 (by omega) (by omega) jy h9) hw
          · have ey : y = X 0 0 3 + r := by
              rcases Int.lt_trichotomy y (X 0 0 3 + r) with w | w | w
              · have h9 := rl (y - X 0 0 3) (by omega) (by omega)
                rw [show X 0 0 3 + (y - X 0 0 3) = y by omega] at h9
                exact absurd (jq y how 0 (by omega) (by omega) jy h9) hw
              · exact w
              · exact absurd (jq (X 0 0 3 + r) 0 how2 (by omega) (by omega) (yl _ (by omega) w) jr).symm hw2
            rw [← ey] at jr
            have eh := jq y how how2 (by omega) (by omega) jy jr
            refine ⟨fin ⟨?_, n22⟩, by omega⟩
            rw [eY, ecn, eln]
            exact (J1.1.cut (N := X 40 0 13) ⟨r13.1, by omega⟩ lnb eF (by decide) (by rw [e3, h3]) qF (by decide) (by rw [q13, h3])).mdl hG (by decide)
      · exact absurd w w2
      · exfalso
        obtain ⟨fB', aM⟩ := rTrM.all _ _ tM
        obtain ⟨fX', -⟩ := fTrM.all _ _ uM
        rw [(stM_eq (fB'.tr fX') (by decide)).2.2.2.2] at vM
        rw [fB'.arr 72 (by decide +kernel) (by decide)] at k1
        exact vM ((fv r k r0 r1 k0 k1).symm.trans (aC r k r0 (by omega) k0 (by rw [a9 r r0 r1]; exact k1)))
    · rw [a9 r r0 r1] at k1
      obtain ⟨⟨fB, fYB⟩, aC⟩ := rTrC.all _ _ _ _ _ tC
      obtain ⟨⟨fP, fYP⟩, bC⟩ := fTrC.all _ _ _ _ _ uC
      rw [(stC_eq fB fYB (by decide) (by decide)).2.2.2] at bC
      rw [(stC_eq (fB.tr fP) (fYB.tr fYP) (by decide) (by decide)).2.2.2, fv r k r0 r1 k0 k1] at vC
      rcases hq with ⟨B', -, tM, -⟩ | ⟨r2, B', P, s0, s1, tM, ⟨w, -⟩ | ⟨-, k2, X', l0, l1, uM, vM, qz, qF⟩, w2, q13, qF2⟩
      · exfalso
        obtain ⟨-, aM⟩ := rTrM.all _ _ tM
        exact zf0 (vC.symm.trans (aM r k r0 (by omega) k0 k1))
      · exact absurd w w2
      · obtain ⟨fB', aM⟩ := rTrM.all _ _ tM
        obtain ⟨fX', bM⟩ := fTrM.all _ _ uM
        rw [(stM_eq fB' (by decide)).2.2.2.2] at bM
        rw [(stM_eq (fB'.tr fX') (by decide)).2.2.2.2] at vM qz
        rw [fB'.arr 72 (by decide +kernel) (by decide)] at l1
        have er : r = r2 := by
          rcases Int.lt_trichotomy r r2 with w | w | w
          · exact absurd (vC.symm.trans (aM r k r0 (by omega) k0 k1)) zf0
          · exact w
          · exact absurd ((fv r2 k2 s0 s1 l0 l1).symm.trans (aC r2 k2 s0 (by omega) l0 (by rw [a9 r2 s0 s1]; exact l1))) vM
        rw [← er] at uM vM qz l1 bM tM
        have ek : k = k2 := by
          rcases Int.lt_trichotomy k k2 with w | w | w
          · exact absurd (vC.symm.trans (bM k k0 (by omega))) zf0
          · exact w
          · exact absurd ((fv r k2 r0 r1 l0 l1).symm.trans (bC k2 l0 (by omega))) vM
        rw [← ek] at uM vM qz
        have J1 := JIv_r JS J0 r.toNat cA XA YA' lA B' (by rw [a70]; omega) tC tM
        rw [show ((r.toNat : Nat) : Int) = r by omega] at J1
        have J2 := JIv_f JS ⟨r0, by rw [a70]; exact r1⟩ J1 k.toNat cP XP YP lP X' (by omega) uC uM
        have b13 : X' 40 0 13 = X 40 0 13 + X 70 0 sv := by rw [fX' 40 0 13 (show 4014 ∉ _ by decide), fB' 40 0 13 (show 4014 ∉ _ by decide), i13]
        rcases hEnd with ⟨w, -⟩ | ⟨e3, eF, eY, ecn, eln, ⟨-, ez⟩ | ⟨w, -⟩⟩
        · exact absurd w zf0
        · refine ⟨fin ⟨?_, n22⟩, by rw [ez, qz, vC]⟩
          rw [eY, ecn, eln, ec, eYB, elB]
          exact (J2.1.cut (L := [4, 3201, 3202, 3203, 3204]) (K := [4014, 4042, 4043, 4044]) (N := X 40 0 13) ⟨r13.1, by omega⟩ J2.2.1 ((fXP.mono (by decide)).tr eF) (by decide) (by rw [e3, h3]) ((qF.mono (by decide)).tr (qF2.mono (by decide))) (by decide) (by rw [q13, h3])).mdl hG (by decide)
        · exact absurd w zf0
end JS3
end
section
/-! the law: what holds at its loop -/
def LI0 (q0 q1 q2 : Nat) (ad : Nat → Int → Nat) (cnt : Nat → Int) (X : Nat → Int → Int → Int) (Y : Nat → Int → Int → Option Int) (ln : Int → Int) : Prop := ad 0 0 = q0 ∧ ad 40 0 = q1 ∧ ad 100 0 = q2 ∧ Fx cnt ∧ Own cnt ∧ (0 ≤ cnt 25 ∧ 0 ≤ cnt 26) ∧ LnOK ln ∧ Rng X ∧ CInv cnt X Y ln ∧ cRv X ∧ MInv X
def LI (q0 q1 q2 : Nat) (ad : Nat → Int → Nat) (cnt : Nat → Int) (X : Nat → Int → Int → Int) (Y : Nat → Int → Int → Option Int) (ln : Int → Int) : Prop := LI0 q0 q1 q2 ad cnt X Y ln ∧ RC cnt X Y ln
section LIx
variable {M N : List Nat} {q0 q1 q2 : Nat} {ad ad1 : Nat → Int → Nat} {cnt cnt1 : Nat → Int} {X X1 : Nat → Int → Int → Int} {Y Y1 : Nat → Int → Int → Option Int} {ln ln1 : Int → Int}
abbrev okC (M : List Nat) : Prop := (∀ c ∈ mDep, c ∉ M) ∧ ∀ c ∈ [1100, 1200], c ∉ M
abbrev okM (M : List Nat) : Prop := (∀ c ∈ [2, 4, 1901, 1907, 701, 800, 2802], c ∉ M) ∧ ∀ c ∈ [1100, 1200], c ∉ M
theorem LI0.clsR (h : LI0 q0 q1 q2 ad cnt X Y ln) (hR1 : Rng X1) (hF : Frm M X X1) (hC : CInv cnt X1 Y1 ln) (hV : cRv X1) (hd : ∀ c ∈ mDep, c ∉ M) : LI0 q0 q1 q2 ad cnt X1 Y1 ln := by
  obtain ⟨a, b, c, d, e, f, g, -, -, -, k⟩ := h
  exact ⟨a, b, c, d, e, f, g, hR1, hC, hV, minv_frm k hF hd⟩
theorem LI0.cls (h : LI0 q0 q1 q2 ad cnt X Y ln) (hR1 : Rng X1) (hF : Frm M X X1) (hC : CInv cnt X1 Y1 ln) (hd : okC M) : LI0 q0 q1 q2 ad cnt X1 Y1 ln := h.clsR hR1 hF hC (h.2.2.2.2.2.2.2.2.2.1.frm hF hd.2) hd.1
theorem LI0.grow (h : LI0 q0 q1 q2 ad cnt X Y ln) (hE : Ext ad cnt ln ad1 cnt1 ln1) (hFx : Fx cnt1) (hOw : Own cnt1) (hLn : LnOK ln1) (hR1 : Rng X1) (hF : Frm M X X1) (hC : CInv cnt1 X1 Y1 ln1) (hd : okC M) : LI0 q0 q1 q2 ad1 cnt1 X1 Y1 ln1 := by
  obtain ⟨a, b, c, d, e, f, g, -, -, i, k⟩ := h
  have c0 : cnt 0 = 1 := d.at 0 1 (by decide)
  have c1 : cnt 40 = 1 := d.at 40 1 (by decide)
  have c2 : cnt 100 = 1 := d.at 100 1 (by decide)
  have m1 := hE.2.1 25
  have m2 := hE.2.1 26
  exact ⟨(hE.1 0 0 (by omega) (by omega)).trans a, (hE.1 40 0 (by omega) (by omega)).trans b, (hE.1 100 0 (by omega) (by omega)).trans c, hFx, hOw, ⟨by omega, by omega⟩, hLn, hR1, hC, i.frm hF hd.2, minv_frm k hF hd.1⟩
theorem LI0.mdl (h : LI0 q0 q1 q2 ad cnt X Y ln) (hR1 : Rng X1) (hF : Frm M X X1) (hM : MInv X1) (hd : okM M) : LI0 q0 q1 q2 ad cnt X1 Y ln := by
  obtain ⟨a, b, c, d, e, f, g, -, hC, i, -⟩ := h
  exact ⟨a, b, c, d, e, f, g, hR1, cinv_frm (M := M) (N := []) hC hF Frm.rf hd.1 (by decide), i.frm hF hd.2, hM⟩
end LIx
/-- the law's locals -/
def LV (b q0 q1 q2 : Nat) (i : Int) : List (Nat × Value) := [(0, .ref b), (1, .ref q0), (2, .ref q1), (3, .ref q2), (4, .int (jI i))]
def LK (p : Program) (l : Launch) (s : State) (m : MethodId) (c : Code) (b L : Nat) (xs : Nat → Int32) (D : va_G) (tc : Nat → ClassId) : Prop := p.tables.exec = Jvm.exec ∧ c.code = cL_law ∧ c.maxLocals = 8 ∧ s.vm.findClass RL = some m.cls ∧ (∀ w ∈ lw_tbl, w.before #[Value.ref b] s = true) ∧ va_X b L xs s s.heap ∧ b < s.heap.size ∧ Kx D tc s ∧ TK s.heap.size s s.heap ∧ l.stackTraces = false ∧ L ≤ 3584
/-- the machine comes to Q from pc, whatever the world is that the law's invariant holds of -/
def LAt (p : Program) (l : Launch) (e : Env) (s : State) (m : MethodId) (below : List Frame) (meth : Method) (c : Code) (b : Nat) (D : va_G) (tc : Nat → ClassId) (q0 q1 q2 : Nat) (i : Int) (Q : State → Prop) (pc cB sB : Nat) : Prop :=
  ∀ (ad : Nat → Int → Nat) (cnt : Nat → Int) (X : Nat → Int → Int → Int) (Y : Nat → Int → Int → Option Int) (ln : Int → Int) (H : Heap) (locs : List Loc) (ls : Array Slot) (cl sl : Nat), LI q0 q1 q2 ad cnt X Y ln → wd D tc s.heap.size (ad, cnt, X, Y, ln) H → va_S (frA s.heap.size) s.heap H locs → lv_has ls 8 (LV b q0 q1 q2 i) → cl ≤ cB → sl ≤ sB → W p l e room_1 s m #[Value.ref b] below meth c H locs cl sl Q (F0 m pc ls [])
section LR
variable {p : Program} {l : Launch} {e : Env} {s : State} {m : MethodId} {below : List Frame} {meth : Method} {c : Code} {b L : Nat} {xs : Nat → Int32} {D : va_G} {tc : Nat → ClassId} {H : Heap} {locs : List Loc} {cells slots : Nat} {Q : State → Prop} {pc pc2 : Nat} {ls : Array Slot} {rest : List Value} {q0 q1 q2 : Nat} {i k a : Int} {R : Room}
theorem l_topl {args : Array Value} {x : Int64} (kk : ∀ v : Int, (-9223372036854775808 ≤ v ∧ v ≤ 9223372036854775807) → x = jL v → W p l e R s m args below meth c H locs cells slots Q (F0 m pc ls (.long (jL v) :: rest))) : W p l e R s m args below meth c H locs cells slots Q (F0 m pc ls (.long x :: rest)) := by
  obtain ⟨z, hz, rfl⟩ := jL_of x
  exact kk z hz rfl
theorem l_topt {args : Array Value} {x : Int64} {v : Int} (ev : x = jL v) (kk : W p l e R s m args below meth c H locs cells slots Q (F0 m pc ls (.long (jL v) :: rest))) : W p l e R s m args below meth c H locs cells slots Q (F0 m pc ls (.long x :: rest)) := by
  rw [ev]; exact kk
theorem sc_at (xs : Nat → Int32) (i k : Int) : ∃ a : Int, xs (jI (i + k)).toNatClampNeg = jI a ∧ (-2147483648 ≤ a ∧ a ≤ 2147483647) := by
  obtain ⟨z, hz, ez⟩ := jI_of (xs (jI (i + k)).toNatClampNeg)
  exact ⟨z, ez, hz⟩
/-- an int of the script -/
theorem l_arg (C : LK p l s m c b L xs D tc) (hS : va_S (frA s.heap.size) s.heap H locs) (hl : lv_has ls 8 (LV b q0 q1 q2 i)) (hi : 0 ≤ i ∧ i + 7 ≤ L) (hk : 0 ≤ k ∧ k ≤ 6) (ea : xs (jI (i + k)).toNatClampNeg = jI a) (d1 : decode cL_law pc = .ok (.aload_n 0, 1)) (d2 : decode cL_law (pc + 1) = .ok (.iload 4, 2))
    (hc : W p l e R s m #[Value.ref b] below meth c H locs cells slots Q (F0 m pc2 ls (.int (jI k) :: .int (jI i) :: .ref b :: rest)) → W p l e R s m #[Value.ref b] below meth c H locs cells slots Q (F0 m (pc + 3) ls (.int (jI i) :: .ref b :: rest)))
    (d4 : decode cL_law pc2 = .ok (.iadd, 1)) (d5 : decode cL_law (pc2 + 1) = .ok (.iaload, 1)) (kk : W p l e R s m #[Value.ref b] below meth c H locs cells slots Q (F0 m (pc2 + 2) ls (.int (jI a) :: rest))) : W p l e R s m #[Value.ref b] below meth c H locs cells slots Q (F0 m pc ls rest) := by
  obtain ⟨hx, hb, hml, hown, hts, hX, hbl, hK, hT, hlT, hL⟩ := C
  refine lv_aload_n hx hb d1 rfl (lv_at hl 0 rfl) ?_
  refine lv_iload hx hb d2 (lv_at hl 4 rfl) ?_
  refine hc ?_
  refine x_iadd hx hb d4 ?_
  refine va_sld hx hb hX hbl (Nat.not_le.mpr hbl) hS (jI_in (by omega) (by omega) (by omega)) d5 ?_
  rw [ea]
  exact kk
theorem l_bool (C : LK p l s m c b L xs D tc) (ha : -2147483648 ≤ a ∧ a ≤ 2147483647) (d1 : decode cL_law pc = .ok (.ifCond .eq 7, 3)) (d2 : decode cL_law (pc + 3) = .ok (.iconst 1, 1)) (d3 : decode cL_law (pc + 4) = .ok (.goto 4, 3)) (d4 : decode cL_law (pc + 7) = .ok (.iconst 0, 1))
    (kk : ∀ z : Int, (0 ≤ z ∧ z ≤ 1) → ((a = 0 ∧ z = 0) ∨ (a ≠ 0 ∧ z = 1)) → W p l e R s m #[Value.ref b] below meth c H locs cells slots Q (F0 m (pc + 8) ls (.int (jI z) :: rest))) : W p l e R s m #[Value.ref b] below meth c H locs cells slots Q (F0 m pc ls (.int (jI a) :: rest)) := by
  have hx := C.1
  have hb := C.2.1
  refine x_if_eq (tgt := pc + 7) hx hb ha d1 (by omega) (fun h => ?_) (fun h => ?_)
  · exact lv_iconst (v := jI 0) hx hb d4 rfl (kk 0 (by omega) (Or.inl ⟨h, rfl⟩))
  · refine lv_iconst (v := jI 1) hx hb d2 rfl ?_
    refine lv_goto (tgt := pc + 8) hx hb d3 (by omega) ?_
    exact kk 1 (by omega) (Or.inr ⟨h, rfl⟩)
theorem LK.c32 (C : LK p l s m c b L xs D tc) : (Cond.constantLong RL 32 4294967295).before #[Value.ref b] s = true := C.2.2.2.2.1 _ (List.mem_of_getElem? (i := 1134) (by decide +kernel))
end LR
end
section
set_option maxHeartbeats 4000000 in
set_option maxRecDepth 100000 in
theorem law_c0 {p : Program} {l : Launch} {e : Env} {s : State} {m : MethodId} {below : List Frame} {meth : Method} {c : Code} {b L : Nat} {xs : Nat → Int32} {D : va_G} {tc : Nat → ClassId} {Q : State → Prop} {q0 q1 q2 cB sB : Nat} {i : Int} (C : LK p l s m c b L xs D tc) (hi : 0 ≤ i ∧ i + 7 ≤ L) (hcB : cB + 310 ≤ 601024) (hsB : sB + 2110 ≤ 7293034) (hg : LAt p l e s m below meth c b D tc q0 q1 q2 i Q 1343 (cB + 310) (sB + 2110)) : LAt p l e s m below meth c b D tc q0 q1 q2 i Q 164 cB sB := by
  obtain ⟨hx, hb, hml, hown, hts, hX, hbl, hK, hT, hlT, hL⟩ := id C
  intro ad cnt X Y ln H locs ls cl sl hI hw hS hl hcl hsl
  obtain ⟨hI0, hRC0⟩ := id hI
  obtain ⟨i0, i40, i100, iFx, iOw, iN, iLn, iR, iCI, iRv, iMI⟩ := id hI0
  refine lv_aload_n hx hb dL_law_164 rfl (lv_at hl 1 rfl) ?_
  obtain ⟨h0, h40, h100, hFx, hOw, hN, hLn, hR, hCI, hRv, hMI⟩ := id hI0
  have hc0 : cnt 0 = 1 := hFx.at 0 1 (by decide)
  refine gos_i (run_V (k := 0) (i := 0) (As := []) (rest := []) hx hb hml hown hts (c_X8_type l D tc s.heap.size ad cnt X Y ln hR hFx hLn hCI hOw hN) (cwV 0 hts gT_X8_type rfl rfl rfl (by first | exact hd_X8_type | decide +kernel) ⟨Nat.le_of_ble_eq_true rfl, Nat.le_of_ble_eq_true rfl⟩) hK hw (by first | exact Int.le_refl 0 | omega) (by first | exact zlt hc0 | omega) sl_0_0 rfl rfl hl.1 (by rw [h0]; rfl) (Nat.le_of_ble_eq_true rfl) dL_law_165 ⟨by show _ ≤ (601024 : Nat); omega, by show _ ≤ (7293034 : Nat); omega⟩) hS (fun z1 u2 H locs p3 hw hS => ?_)
  obtain ⟨ad6, cnt7, X4, Y8, ln9, rfl, hEX4, hFxX4, hOwX4, hLnX4, hRX4, hFX4, hHX4, hCX4, hzX4, pX4⟩ := p3
  have hI5 : LI0 q0 q1 q2 ad6 cnt7 X4 Y8 ln9 := LI0.grow hI0 hEX4 hFxX4 hOwX4 hLnX4 hRX4 hFX4 hCX4 (by decide)
  refine lv_pop hx hb dL_law_168 rfl ?_
  refine lv_aload_n hx hb dL_law_169 rfl (lv_at hl 2 rfl) ?_
  obtain ⟨h0, h40, h100, hFx, hOw, hN, hLn, hR, hCI, hRv, hMI⟩ := id hI5
  have hc40 : cnt7 40 = 1 := hFx.at 40 1 (by decide)
  refine gos_i (run_V (k := 40) (i := 0) (As := []) (rest := []) hx hb hml hown hts (c_X9_type l D tc s.heap.size ad6 cnt7 X4 Y8 ln9 hR hFx hMI) (cwV 0 hts gT_X9_type rfl rfl rfl (by first | exact hd_X9_type | decide +kernel) ⟨Nat.le_of_ble_eq_true rfl, Nat.le_of_ble_eq_true rfl⟩) hK hw (by first | exact Int.le_refl 0 | omega) (by first | exact zlt hc40 | omega) sl_40_0 rfl rfl hl.1 (by rw [h40]; rfl) (Nat.le_of_ble_eq_true rfl) dL_law_170 ⟨by show _ ≤ (601024 : Nat); omega, by show _ ≤ (7293034 : Nat); omega⟩) hS (fun z10 u11 H locs p12 hw hS => ?_)
  obtain ⟨X13, rfl, hRX13, hFX13, hMX13, hzX13, pX13⟩ := p12
  have hI14 : LI0 q0 q1 q2 ad6 cnt7 X13 Y8 ln9 := LI0.mdl hI5 hRX13 hFX13 hMX13 (by decide)
  refine lv_pop hx hb dL_law_173 rfl ?_
  obtain ⟨hRC, hq9⟩ := J_type hRC0 iMI iR hRX4 iLn iN hFX4 hHX4 hEX4.2.1 hEX4.2.2 hLnX4 pX4 hFX13 hMX13 pX13
  refine lv_goto (tgt := 1343) hx hb dL_law_174 (by decide) ?_
  exact hg _ _ _ _ _ H locs ls _ _ ⟨hI14, hRC⟩ hw hS hl (by omega) (by omega)

set_option maxHeartbeats 4000000 in
set_option maxRecDepth 100000 in
theorem law_c1 {p : Program} {l : Launch} {e : Env} {s : State} {m : MethodId} {below : List Frame} {meth : Method} {c : Code} {b L : Nat} {xs : Nat → Int32} {D : va_G} {tc : Nat → ClassId} {Q : State → Prop} {q0 q1 q2 cB sB : Nat} {i : Int} (C : LK p l s m c b L xs D tc) (hi : 0 ≤ i ∧ i + 7 ≤ L) (hcB : cB + 310 ≤ 601024) (hsB : sB + 2110 ≤ 7293034) (hg : LAt p l e s m below meth c b D tc q0 q1 q2 i Q 1343 (cB + 310) (sB + 2110)) : LAt p l e s m below meth c b D tc q0 q1 q2 i Q 177 cB sB := by
  obtain ⟨hx, hb, hml, hown, hts, hX, hbl, hK, hT, hlT, hL⟩ := id C
  intro ad cnt X Y ln H locs ls cl sl hI hw hS hl hcl hsl
  obtain ⟨hI0, hRC0⟩ := id hI
  obtain ⟨i0, i40, i100, iFx, iOw, iN, iLn, iR, iCI, iRv, iMI⟩ := id hI0
  refine lv_aload_n hx hb dL_law_177 rfl (lv_at hl 1 rfl) ?_
  obtain ⟨a1, ea1, ga1⟩ := sc_at xs i 1
  refine l_arg (k := 1) (pc2 := 182) C hS hl hi (by omega) ea1 dL_law_178 dL_law_179 (fun h => lv_iconst (v := jI 1) hx hb dL_law_181 rfl h) dL_law_182 dL_law_183 ?_
  obtain ⟨a2, ea2, ga2⟩ := sc_at xs i 2
  refine l_arg (k := 2) (pc2 := 188) C hS hl hi (by omega) ea2 dL_law_184 dL_law_185 (fun h => lv_iconst (v := jI 2) hx hb dL_law_187 rfl h) dL_law_188 dL_law_189 ?_
  obtain ⟨a3, ea3, ga3⟩ := sc_at xs i 3
  refine l_arg (k := 3) (pc2 := 194) C hS hl hi (by omega) ea3 dL_law_190 dL_law_191 (fun h => lv_iconst (v := jI 3) hx hb dL_law_193 rfl h) dL_law_194 dL_law_195 ?_
  obtain ⟨a4, ea4, ga4⟩ := sc_at xs i 4
  refine l_arg (k := 4) (pc2 := 200) C hS hl hi (by omega) ea4 dL_law_196 dL_law_197 (fun h => lv_iconst (v := jI 4) hx hb dL_law_199 rfl h) dL_law_200 dL_law_201 ?_
  refine lv_i2l hx hb dL_law_202 rfl ?_
  refine lv_bipush (v := jI 32) hx hb dL_law_203 (by decide) ?_
  refine lv_lshl hx hb dL_law_205 rfl ?_
  obtain ⟨a5, ea5, ga5⟩ := sc_at xs i 5
  refine l_arg (k := 5) (pc2 := 210) C hS hl hi (by omega) ea5 dL_law_206 dL_law_207 (fun h => lv_iconst (v := jI 5) hx hb dL_law_209 rfl h) dL_law_210 dL_law_211 ?_
  refine lv_i2l hx hb dL_law_212 rfl ?_
  refine lv_ldc2 hx hb hown C.c32 dL_law_213 ?_
  refine lv_land hx hb dL_law_216 ?_
  refine lv_lor hx hb dL_law_217 ?_
  refine l_topl (fun v4 gv4 ev4 => ?_)
  obtain ⟨h0, h40, h100, hFx, hOw, hN, hLn, hR, hCI, hRv, hMI⟩ := id hI0
  have hc0 : cnt 0 = 1 := hFx.at 0 1 (by decide)
  refine gos_i (run_V (k := 0) (i := 0) (As := [.int (jI a1), .int (jI a2), .int (jI a3), .long (jL v4)]) (rest := []) hx hb hml hown hts (c_X8_field l D tc s.heap.size ad cnt X Y ln hR hFx hLn hCI a1 a2 a3 v4 ga1 ga2 ga3 gv4) (cwV 4 hts gT_X8_field rfl rfl rfl (by first | exact hd_X8_field | decide +kernel) ⟨Nat.le_of_ble_eq_true rfl, Nat.le_of_ble_eq_true rfl⟩) hK hw (by first | exact Int.le_refl 0 | omega) (by first | exact zlt hc0 | omega) sl_0_0 rfl rfl hl.1 (by rw [h0]; rfl) (Nat.le_of_ble_eq_true rfl) dL_law_218 ⟨by show _ ≤ (601024 : Nat); omega, by show _ ≤ (7293034 : Nat); omega⟩) hS (fun z1 u2 H locs p3 hw hS => ?_)
  obtain ⟨X4, Y6, rfl, hRX4, hFX4, hHX4, hCX4, hzX4, pX4⟩ := p3
  have hI5 : LI0 q0 q1 q2 ad cnt X4 Y6 ln := LI0.cls hI0 hRX4 hFX4 hCX4 (by decide)
  refine lv_pop hx hb dL_law_221 rfl ?_
  refine lv_aload_n hx hb dL_law_222 rfl (lv_at hl 2 rfl) ?_
  refine l_arg (k := 1) (pc2 := 227) C hS hl hi (by omega) ea1 dL_law_223 dL_law_224 (fun h => lv_iconst (v := jI 1) hx hb dL_law_226 rfl h) dL_law_227 dL_law_228 ?_
  refine l_arg (k := 2) (pc2 := 233) C hS hl hi (by omega) ea2 dL_law_229 dL_law_230 (fun h => lv_iconst (v := jI 2) hx hb dL_law_232 rfl h) dL_law_233 dL_law_234 ?_
  refine l_arg (k := 3) (pc2 := 239) C hS hl hi (by omega) ea3 dL_law_235 dL_law_236 (fun h => lv_iconst (v := jI 3) hx hb dL_law_238 rfl h) dL_law_239 dL_law_240 ?_
  refine l_arg (k := 4) (pc2 := 245) C hS hl hi (by omega) ea4 dL_law_241 dL_law_242 (fun h => lv_iconst (v := jI 4) hx hb dL_law_244 rfl h) dL_law_245 dL_law_246 ?_
  refine lv_i2l hx hb dL_law_247 rfl ?_
  refine lv_bipush (v := jI 32) hx hb dL_law_248 (by decide) ?_
  refine lv_lshl hx hb dL_law_250 rfl ?_
  refine l_arg (k := 5) (pc2 := 255) C hS hl hi (by omega) ea5 dL_law_251 dL_law_252 (fun h => lv_iconst (v := jI 5) hx hb dL_law_254 rfl h) dL_law_255 dL_law_256 ?_
  refine lv_i2l hx hb dL_law_257 rfl ?_
  refine lv_ldc2 hx hb hown C.c32 dL_law_258 ?_
  refine lv_land hx hb dL_law_261 ?_
  refine lv_lor hx hb dL_law_262 ?_
  refine l_topt ev4 ?_
  obtain ⟨h0, h40, h100, hFx, hOw, hN, hLn, hR, hCI, hRv, hMI⟩ := id hI5
  have hc40 : cnt 40 = 1 := hFx.at 40 1 (by decide)
  refine gos_i (run_V (k := 40) (i := 0) (As := [.int (jI a1), .int (jI a2), .int (jI a3), .long (jL v4)]) (rest := []) hx hb hml hown hts (c_X9_field l D tc s.heap.size ad cnt X4 Y6 ln hR hFx hMI a1 a2 a3 v4 ga1 ga2 ga3 gv4) (cwV 4 hts gT_X9_field rfl rfl rfl (by first | exact hd_X9_field | decide +kernel) ⟨Nat.le_of_ble_eq_true rfl, Nat.le_of_ble_eq_true rfl⟩) hK hw (by first | exact Int.le_refl 0 | omega) (by first | exact zlt hc40 | omega) sl_40_0 rfl rfl hl.1 (by rw [h40]; rfl) (Nat.le_of_ble_eq_true rfl) dL_law_263 ⟨by show _ ≤ (601024 : Nat); omega, by show _ ≤ (7293034 : Nat); omega⟩) hS (fun z7 u8 H locs p9 hw hS => ?_)
  obtain ⟨X10, rfl, hRX10, hFX10, hMX10, hzX10, pX10⟩ := p9
  have hI11 : LI0 q0 q1 q2 ad cnt X10 Y6 ln := LI0.mdl hI5 hRX10 hFX10 hMX10 (by decide)
  refine lv_pop hx hb dL_law_266 rfl ?_
  obtain ⟨hRC, hq9⟩ := J_field hRC0 iMI iR hRX4 iLn iN hFX4 hHX4 pX4 hFX10 hMX10 pX10
  refine lv_goto (tgt := 1343) hx hb dL_law_267 (by decide) ?_
  exact hg _ _ _ _ _ H locs ls _ _ ⟨hI11, hRC⟩ hw hS hl (by omega) (by omega)

set_option maxHeartbeats 4000000 in
set_option maxRecDepth 100000 in
theorem law_c2 {p : Program} {l : Launch} {e : Env} {s : State} {m : MethodId} {below : List Frame} {meth : Method} {c : Code} {b L : Nat} {xs : Nat → Int32} {D : va_G} {tc : Nat → ClassId} {Q : State → Prop} {q0 q1 q2 cB sB : Nat} {i : Int} (C : LK p l s m c b L xs D tc) (hi : 0 ≤ i ∧ i + 7 ≤ L) (hcB : cB + 310 ≤ 601024) (hsB : sB + 2110 ≤ 7293034) (hg : LAt p l e s m below meth c b D tc q0 q1 q2 i Q 1343 (cB + 310) (sB + 2110)) : LAt p l e s m below meth c b D tc q0 q1 q2 i Q 270 cB sB := by
  obtain ⟨hx, hb, hml, hown, hts, hX, hbl, hK, hT, hlT, hL⟩ := id C
  intro ad cnt X Y ln H locs ls cl sl hI hw hS hl hcl hsl
  obtain ⟨hI0, hRC0⟩ := id hI
  obtain ⟨i0, i40, i100, iFx, iOw, iN, iLn, iR, iCI, iRv, iMI⟩ := id hI0
  refine lv_aload_n hx hb dL_law_270 rfl (lv_at hl 1 rfl) ?_
  obtain ⟨a1, ea1, ga1⟩ := sc_at xs i 1
  refine l_arg (k := 1) (pc2 := 275) C hS hl hi (by omega) ea1 dL_law_271 dL_law_272 (fun h => lv_iconst (v := jI 1) hx hb dL_law_274 rfl h) dL_law_275 dL_law_276 ?_
  obtain ⟨a2, ea2, ga2⟩ := sc_at xs i 2
  refine l_arg (k := 2) (pc2 := 281) C hS hl hi (by omega) ea2 dL_law_277 dL_law_278 (fun h => lv_iconst (v := jI 2) hx hb dL_law_280 rfl h) dL_law_281 dL_law_282 ?_
  obtain ⟨h0, h40, h100, hFx, hOw, hN, hLn, hR, hCI, hRv, hMI⟩ := id hI0
  have hc0 : cnt 0 = 1 := hFx.at 0 1 (by decide)
  refine gos_i (run_V (k := 0) (i := 0) (As := [.int (jI a1), .int (jI a2)]) (rest := []) hx hb hml hown hts (c_X8_drop l D tc s.heap.size ad cnt X Y ln hR hFx hLn hCI a1 a2 ga1 ga2) (cwV 2 hts gT_X8_drop rfl rfl rfl (by first | exact hd_X8_drop | decide +kernel) ⟨Nat.le_of_ble_eq_true rfl, Nat.le_of_ble_eq_true rfl⟩) hK hw (by first | exact Int.le_refl 0 | omega) (by first | exact zlt hc0 | omega) sl_0_0 rfl rfl hl.1 (by rw [h0]; rfl) (Nat.le_of_ble_eq_true rfl) dL_law_283 ⟨by show _ ≤ (601024 : Nat); omega, by show _ ≤ (7293034 : Nat); omega⟩) hS (fun z1 u2 H locs p3 hw hS => ?_)
  obtain ⟨X4, Y6, rfl, hRX4, hFX4, hHX4, hCX4, hzX4, pX4⟩ := p3
  have hI5 : LI0 q0 q1 q2 ad cnt X4 Y6 ln := LI0.cls hI0 hRX4 hFX4 hCX4 (by decide)
  refine lv_aload_n hx hb dL_law_286 rfl (lv_at hl 2 rfl) ?_
  refine l_arg (k := 1) (pc2 := 291) C hS hl hi (by omega) ea1 dL_law_287 dL_law_288 (fun h => lv_iconst (v := jI 1) hx hb dL_law_290 rfl h) dL_law_291 dL_law_292 ?_
  refine l_arg (k := 2) (pc2 := 297) C hS hl hi (by omega) ea2 dL_law_293 dL_law_294 (fun h => lv_iconst (v := jI 2) hx hb dL_law_296 rfl h) dL_law_297 dL_law_298 ?_
  obtain ⟨h0, h40, h100, hFx, hOw, hN, hLn, hR, hCI, hRv, hMI⟩ := id hI5
  have hc40 : cnt 40 = 1 := hFx.at 40 1 (by decide)
  refine gos_i (run_V (k := 40) (i := 0) (As := [.int (jI a1), .int (jI a2)]) (rest := [.int (jI z1)]) hx hb hml hown hts (c_X9_drop l D tc s.heap.size ad cnt X4 Y6 ln hR hFx hMI a1 a2 ga1 ga2) (cwV 2 hts gT_X9_drop rfl rfl rfl (by first | exact hd_X9_drop | decide +kernel) ⟨Nat.le_of_ble_eq_true rfl, Nat.le_of_ble_eq_true rfl⟩) hK hw (by first | exact Int.le_refl 0 | omega) (by first | exact zlt hc40 | omega) sl_40_0 rfl rfl hl.1 (by rw [h40]; rfl) (Nat.le_of_ble_eq_true rfl) dL_law_299 ⟨by show _ ≤ (601024 : Nat); omega, by show _ ≤ (7293034 : Nat); omega⟩) hS (fun z7 u8 H locs p9 hw hS => ?_)
  obtain ⟨X10, rfl, hRX10, hFX10, hMX10, hzX10, pX10⟩ := p9
  have hI11 : LI0 q0 q1 q2 ad cnt X10 Y6 ln := LI0.mdl hI5 hRX10 hFX10 hMX10 (by decide)
  obtain ⟨hRC, hq9⟩ := J_drop hRC0 iMI iR hRX4 iLn iN hFX4 hHX4 pX4 hFX10 hMX10 pX10
  refine x_icmp_eq (tgt := 1343) hx hb (by omega) (by omega) dL_law_302 (by decide) (fun _ => ?_) (fun c9 => ?_)
  · exact hg _ _ _ _ _ H locs ls _ _ ⟨hI11, hRC⟩ hw hS hl (by omega) (by omega)
  · exact absurd hq9 c9

set_option maxHeartbeats 4000000 in
set_option maxRecDepth 100000 in
theorem law_c3 {p : Program} {l : Launch} {e : Env} {s : State} {m : MethodId} {below : List Frame} {meth : Method} {c : Code} {b L : Nat} {xs : Nat → Int32} {D : va_G} {tc : Nat → ClassId} {Q : State → Prop} {q0 q1 q2 cB sB : Nat} {i : Int} (C : LK p l s m c b L xs D tc) (hi : 0 ≤ i ∧ i + 7 ≤ L) (hcB : cB + 310 ≤ 601024) (hsB : sB + 2110 ≤ 7293034) (hg : LAt p l e s m below meth c b D tc q0 q1 q2 i Q 1343 (cB + 310) (sB + 2110)) : LAt p l e s m below meth c b D tc q0 q1 q2 i Q 307 cB sB := by
  obtain ⟨hx, hb, hml, hown, hts, hX, hbl, hK, hT, hlT, hL⟩ := id C
  intro ad cnt X Y ln H locs ls cl sl hI hw hS hl hcl hsl
  obtain ⟨hI0, hRC0⟩ := id hI
  obtain ⟨i0, i40, i100, iFx, iOw, iN, iLn, iR, iCI, iRv, iMI⟩ := id hI0
  refine lv_aload_n hx hb dL_law_307 rfl (lv_at hl 1 rfl) ?_
  obtain ⟨a1, ea1, ga1⟩ := sc_at xs i 1
  refine l_arg (k := 1) (pc2 := 312) C hS hl hi (by omega) ea1 dL_law_308 dL_law_309 (fun h => lv_iconst (v := jI 1) hx hb dL_law_311 rfl h) dL_law_312 dL_law_313 ?_
  obtain ⟨a2, ea2, ga2⟩ := sc_at xs i 2
  refine l_arg (k := 2) (pc2 := 318) C hS hl hi (by omega) ea2 dL_law_314 dL_law_315 (fun h => lv_iconst (v := jI 2) hx hb dL_law_317 rfl h) dL_law_318 dL_law_319 ?_
  obtain ⟨a3, ea3, ga3⟩ := sc_at xs i 3
  refine l_arg (k := 3) (pc2 := 324) C hS hl hi (by omega) ea3 dL_law_320 dL_law_321 (fun h => lv_iconst (v := jI 3) hx hb dL_law_323 rfl h) dL_law_324 dL_law_325 ?_
  refine l_bool C ga3 dL_law_326 dL_law_329 dL_law_330 dL_law_333 (fun z1 gz1 ez1 => ?_)
  obtain ⟨h0, h40, h100, hFx, hOw, hN, hLn, hR, hCI, hRv, hMI⟩ := id hI0
  have hc0 : cnt 0 = 1 := hFx.at 0 1 (by decide)
  refine gos_i (run_V (k := 0) (i := 0) (As := [.int (jI a1), .int (jI a2), .int (jI z1)]) (rest := []) hx hb hml hown hts (c_X8_shut l D tc s.heap.size ad cnt X Y ln hR hFx hLn hCI a1 a2 z1 ga1 ga2 gz1) (cwV 3 hts gT_X8_shut rfl rfl rfl (by first | exact hd_X8_shut | decide +kernel) ⟨Nat.le_of_ble_eq_true rfl, Nat.le_of_ble_eq_true rfl⟩) hK hw (by first | exact Int.le_refl 0 | omega) (by first | exact zlt hc0 | omega) sl_0_0 rfl rfl hl.1 (by rw [h0]; rfl) (Nat.le_of_ble_eq_true rfl) dL_law_334 ⟨by show _ ≤ (601024 : Nat); omega, by show _ ≤ (7293034 : Nat); omega⟩) hS (fun z2 u3 H locs p4 hw hS => ?_)
  obtain ⟨X5, rfl, hRX5, hFX5, hCX5, hzX5, pX5⟩ := p4
  have hI6 : LI0 q0 q1 q2 ad cnt X5 Y ln := LI0.cls hI0 hRX5 hFX5 hCX5 (by decide)
  refine lv_pop hx hb dL_law_337 rfl ?_
  refine lv_aload_n hx hb dL_law_338 rfl (lv_at hl 2 rfl) ?_
  refine l_arg (k := 1) (pc2 := 343) C hS hl hi (by omega) ea1 dL_law_339 dL_law_340 (fun h => lv_iconst (v := jI 1) hx hb dL_law_342 rfl h) dL_law_343 dL_law_344 ?_
  refine l_arg (k := 2) (pc2 := 349) C hS hl hi (by omega) ea2 dL_law_345 dL_law_346 (fun h => lv_iconst (v := jI 2) hx hb dL_law_348 rfl h) dL_law_349 dL_law_350 ?_
  refine l_arg (k := 3) (pc2 := 355) C hS hl hi (by omega) ea3 dL_law_351 dL_law_352 (fun h => lv_iconst (v := jI 3) hx hb dL_law_354 rfl h) dL_law_355 dL_law_356 ?_
  refine l_bool C ga3 dL_law_357 dL_law_360 dL_law_361 dL_law_364 (fun z7 gz7 ez7 => ?_)
  obtain ⟨h0, h40, h100, hFx, hOw, hN, hLn, hR, hCI, hRv, hMI⟩ := id hI6
  have hc40 : cnt 40 = 1 := hFx.at 40 1 (by decide)
  refine gos_i (run_V (k := 40) (i := 0) (As := [.int (jI a1), .int (jI a2), .int (jI z7)]) (rest := []) hx hb hml hown hts (c_X9_shut l D tc s.heap.size ad cnt X5 Y ln hR hFx hMI a1 a2 z7 ga1 ga2 gz7) (cwV 3 hts gT_X9_shut rfl rfl rfl (by first | exact hd_X9_shut | decide +kernel) ⟨Nat.le_of_ble_eq_true rfl, Nat.le_of_ble_eq_true rfl⟩) hK hw (by first | exact Int.le_refl 0 | omega) (by first | exact zlt hc40 | omega) sl_40_0 rfl rfl hl.1 (by rw [h40]; rfl) (Nat.le_of_ble_eq_true rfl) dL_law_365 ⟨by show _ ≤ (601024 : Nat); omega, by show _ ≤ (7293034 : Nat); omega⟩) hS (fun z8 u9 H locs p10 hw hS => ?_)
  obtain ⟨X11, rfl, hRX11, hFX11, hMX11, hzX11, pX11⟩ := p10
  have hI12 : LI0 q0 q1 q2 ad cnt X11 Y ln := LI0.mdl hI6 hRX11 hFX11 hMX11 (by decide)
  refine lv_pop hx hb dL_law_368 rfl ?_
  obtain rfl : z7 = z1 := by omega
  obtain ⟨hRC, hq9⟩ := J_shut hRC0 iMI iR hRX5 iLn iN hFX5 pX5 hFX11 hMX11 pX11
  refine lv_goto (tgt := 1343) hx hb dL_law_369 (by decide) ?_
  exact hg _ _ _ _ _ H locs ls _ _ ⟨hI12, hRC⟩ hw hS hl (by omega) (by omega)

set_option maxHeartbeats 4000000 in
set_option maxRecDepth 100000 in
theorem law_c4 {p : Program} {l : Launch} {e : Env} {s : State} {m : MethodId} {below : List Frame} {meth : Method} {c : Code} {b L : Nat} {xs : Nat → Int32} {D : va_G} {tc : Nat → ClassId} {Q : State → Prop} {q0 q1 q2 cB sB : Nat} {i : Int} (C : LK p l s m c b L xs D tc) (hi : 0 ≤ i ∧ i + 7 ≤ L) (hcB : cB + 310 ≤ 601024) (hsB : sB + 2110 ≤ 7293034) (hg : LAt p l e s m below meth c b D tc q0 q1 q2 i Q 1343 (cB + 310) (sB + 2110)) : LAt p l e s m below meth c b D tc q0 q1 q2 i Q 372 cB sB := by
  obtain ⟨hx, hb, hml, hown, hts, hX, hbl, hK, hT, hlT, hL⟩ := id C
  intro ad cnt X Y ln H locs ls cl sl hI hw hS hl hcl hsl
  obtain ⟨hI0, hRC0⟩ := id hI
  obtain ⟨i0, i40, i100, iFx, iOw, iN, iLn, iR, iCI, iRv, iMI⟩ := id hI0
  refine lv_aload_n hx hb dL_law_372 rfl (lv_at hl 1 rfl) ?_
  obtain ⟨a1, ea1, ga1⟩ := sc_at xs i 1
  refine l_arg (k := 1) (pc2 := 377) C hS hl hi (by omega) ea1 dL_law_373 dL_law_374 (fun h => lv_iconst (v := jI 1) hx hb dL_law_376 rfl h) dL_law_377 dL_law_378 ?_
  obtain ⟨a2, ea2, ga2⟩ := sc_at xs i 2
  refine l_arg (k := 2) (pc2 := 383) C hS hl hi (by omega) ea2 dL_law_379 dL_law_380 (fun h => lv_iconst (v := jI 2) hx hb dL_law_382 rfl h) dL_law_383 dL_law_384 ?_
  obtain ⟨a3, ea3, ga3⟩ := sc_at xs i 3
  refine l_arg (k := 3) (pc2 := 389) C hS hl hi (by omega) ea3 dL_law_385 dL_law_386 (fun h => lv_iconst (v := jI 3) hx hb dL_law_388 rfl h) dL_law_389 dL_law_390 ?_
  obtain ⟨a4, ea4, ga4⟩ := sc_at xs i 4
  refine l_arg (k := 4) (pc2 := 395) C hS hl hi (by omega) ea4 dL_law_391 dL_law_392 (fun h => lv_iconst (v := jI 4) hx hb dL_law_394 rfl h) dL_law_395 dL_law_396 ?_
  obtain ⟨a5, ea5, ga5⟩ := sc_at xs i 5
  refine l_arg (k := 5) (pc2 := 401) C hS hl hi (by omega) ea5 dL_law_397 dL_law_398 (fun h => lv_iconst (v := jI 5) hx hb dL_law_400 rfl h) dL_law_401 dL_law_402 ?_
  refine lv_i2l hx hb dL_law_403 rfl ?_
  refine lv_bipush (v := jI 32) hx hb dL_law_404 (by decide) ?_
  refine lv_lshl hx hb dL_law_406 rfl ?_
  obtain ⟨a6, ea6, ga6⟩ := sc_at xs i 6
  refine l_arg (k := 6) (pc2 := 412) C hS hl hi (by omega) ea6 dL_law_407 dL_law_408 (fun h => lv_bipush (v := jI 6) hx hb dL_law_410 (by decide) h) dL_law_412 dL_law_413 ?_
  refine lv_i2l hx hb dL_law_414 rfl ?_
  refine lv_ldc2 hx hb hown C.c32 dL_law_415 ?_
  refine lv_land hx hb dL_law_418 ?_
  refine lv_lor hx hb dL_law_419 ?_
  refine l_topl (fun v5 gv5 ev5 => ?_)
  obtain ⟨h0, h40, h100, hFx, hOw, hN, hLn, hR, hCI, hRv, hMI⟩ := id hI0
  have hc0 : cnt 0 = 1 := hFx.at 0 1 (by decide)
  refine gos_i (run_V (k := 0) (i := 0) (As := [.int (jI a1), .int (jI a2), .int (jI a3), .int (jI a4), .long (jL v5)]) (rest := []) hx hb hml hown hts (c_X8_check l D tc s.heap.size ad cnt X Y ln hR hFx hLn hCI hOw hN a1 a2 a3 a4 v5 ga1 ga2 ga3 ga4 gv5) (cwV 5 hts gT_X8_check rfl rfl rfl (by first | exact hd_X8_check | decide +kernel) ⟨Nat.le_of_ble_eq_true rfl, Nat.le_of_ble_eq_true rfl⟩) hK hw (by first | exact Int.le_refl 0 | omega) (by first | exact zlt hc0 | omega) sl_0_0 rfl rfl hl.1 (by rw [h0]; rfl) (Nat.le_of_ble_eq_true rfl) dL_law_420 ⟨by show _ ≤ (601024 : Nat); omega, by show _ ≤ (7293034 : Nat); omega⟩) hS (fun z1 u2 H locs p3 hw hS => ?_)
  obtain ⟨ad6, cnt7, X4, Y8, ln9, rfl, hEX4, hFxX4, hOwX4, hLnX4, hRX4, hFX4, hHX4, hCX4, hzX4, pX4⟩ := p3
  have hI5 : LI0 q0 q1 q2 ad6 cnt7 X4 Y8 ln9 := LI0.grow hI0 hEX4 hFxX4 hOwX4 hLnX4 hRX4 hFX4 hCX4 (by decide)
  refine lv_pop hx hb dL_law_423 rfl ?_
  refine lv_aload_n hx hb dL_law_424 rfl (lv_at hl 2 rfl) ?_
  refine l_arg (k := 1) (pc2 := 429) C hS hl hi (by omega) ea1 dL_law_425 dL_law_426 (fun h => lv_iconst (v := jI 1) hx hb dL_law_428 rfl h) dL_law_429 dL_law_430 ?_
  refine l_arg (k := 2) (pc2 := 435) C hS hl hi (by omega) ea2 dL_law_431 dL_law_432 (fun h => lv_iconst (v := jI 2) hx hb dL_law_434 rfl h) dL_law_435 dL_law_436 ?_
  refine l_arg (k := 3) (pc2 := 441) C hS hl hi (by omega) ea3 dL_law_437 dL_law_438 (fun h => lv_iconst (v := jI 3) hx hb dL_law_440 rfl h) dL_law_441 dL_law_442 ?_
  refine l_arg (k := 4) (pc2 := 447) C hS hl hi (by omega) ea4 dL_law_443 dL_law_444 (fun h => lv_iconst (v := jI 4) hx hb dL_law_446 rfl h) dL_law_447 dL_law_448 ?_
  refine l_arg (k := 5) (pc2 := 453) C hS hl hi (by omega) ea5 dL_law_449 dL_law_450 (fun h => lv_iconst (v := jI 5) hx hb dL_law_452 rfl h) dL_law_453 dL_law_454 ?_
  refine lv_i2l hx hb dL_law_455 rfl ?_
  refine lv_bipush (v := jI 32) hx hb dL_law_456 (by decide) ?_
  refine lv_lshl hx hb dL_law_458 rfl ?_
  refine l_arg (k := 6) (pc2 := 464) C hS hl hi (by omega) ea6 dL_law_459 dL_law_460 (fun h => lv_bipush (v := jI 6) hx hb dL_law_462 (by decide) h) dL_law_464 dL_law_465 ?_
  refine lv_i2l hx hb dL_law_466 rfl ?_
  refine lv_ldc2 hx hb hown C.c32 dL_law_467 ?_
  refine lv_land hx hb dL_law_470 ?_
  refine lv_lor hx hb dL_law_471 ?_
  refine l_topt ev5 ?_
  obtain ⟨h0, h40, h100, hFx, hOw, hN, hLn, hR, hCI, hRv, hMI⟩ := id hI5
  have hc40 : cnt7 40 = 1 := hFx.at 40 1 (by decide)
  refine gos_i (run_V (k := 40) (i := 0) (As := [.int (jI a1), .int (jI a2), .int (jI a3), .int (jI a4), .long (jL v5)]) (rest := []) hx hb hml hown hts (c_X9_check l D tc s.heap.size ad6 cnt7 X4 Y8 ln9 hR hFx hMI a1 a2 a3 a4 v5 ga1 ga2 ga3 ga4 gv5) (cwV 5 hts gT_X9_check rfl rfl rfl (by first | exact hd_X9_check | decide +kernel) ⟨Nat.le_of_ble_eq_true rfl, Nat.le_of_ble_eq_true rfl⟩) hK hw (by first | exact Int.le_refl 0 | omega) (by first | exact zlt hc40 | omega) sl_40_0 rfl rfl hl.1 (by rw [h40]; rfl) (Nat.le_of_ble_eq_true rfl) dL_law_472 ⟨by show _ ≤ (601024 : Nat); omega, by show _ ≤ (7293034 : Nat); omega⟩) hS (fun z10 u11 H locs p12 hw hS => ?_)
  obtain ⟨X13, rfl, hRX13, hFX13, hMX13, hzX13, pX13⟩ := p12
  have hI14 : LI0 q0 q1 q2 ad6 cnt7 X13 Y8 ln9 := LI0.mdl hI5 hRX13 hFX13 hMX13 (by decide)
  refine lv_pop hx hb dL_law_475 rfl ?_
  obtain ⟨hRC, hq9⟩ := J_check hRC0 iMI iR hRX4 iLn iN hFX4 hHX4 hEX4.2.1 hEX4.2.2 hLnX4 pX4 hFX13 hMX13 pX13
  refine lv_goto (tgt := 1343) hx hb dL_law_476 (by decide) ?_
  exact hg _ _ _ _ _ H locs ls _ _ ⟨hI14, hRC⟩ hw hS hl (by omega) (by omega)

set_option maxHeartbeats 4000000 in
set_option maxRecDepth 100000 in
theorem law_c5 {p : Program} {l : Launch} {e : Env} {s : State} {m : MethodId} {below : List Frame} {meth : Method} {c : Code} {b L : Nat} {xs : Nat → Int32} {D : va_G} {tc : Nat → ClassId} {Q : State → Prop} {q0 q1 q2 cB sB : Nat} {i : Int} (C : LK p l s m c b L xs D tc) (hi : 0 ≤ i ∧ i + 7 ≤ L) (hcB : cB + 310 ≤ 601024) (hsB : sB + 2110 ≤ 7293034) (hg : LAt p l e s m below meth c b D tc q0 q1 q2 i Q 1343 (cB + 310) (sB + 2110)) : LAt p l e s m below meth c b D tc q0 q1 q2 i Q 479 cB sB := by
  obtain ⟨hx, hb, hml, hown, hts, hX, hbl, hK, hT, hlT, hL⟩ := id C
  intro ad cnt X Y ln H locs ls cl sl hI hw hS hl hcl hsl
  obtain ⟨hI0, hRC0⟩ := id hI
  obtain ⟨i0, i40, i100, iFx, iOw, iN, iLn, iR, iCI, iRv, iMI⟩ := id hI0
  refine lv_aload_n hx hb dL_law_479 rfl (lv_at hl 1 rfl) ?_
  obtain ⟨a1, ea1, ga1⟩ := sc_at xs i 1
  refine l_arg (k := 1) (pc2 := 484) C hS hl hi (by omega) ea1 dL_law_480 dL_law_481 (fun h => lv_iconst (v := jI 1) hx hb dL_law_483 rfl h) dL_law_484 dL_law_485 ?_
  obtain ⟨h0, h40, h100, hFx, hOw, hN, hLn, hR, hCI, hRv, hMI⟩ := id hI0
  have hc0 : cnt 0 = 1 := hFx.at 0 1 (by decide)
  refine gos_i (run_V (k := 0) (i := 0) (As := [.int (jI a1)]) (rest := []) hx hb hml hown hts (c_X8_unchecked l D tc s.heap.size ad cnt X Y ln hR hFx hLn hCI a1 ga1) (cwV 1 hts gT_X8_unchecked rfl rfl rfl (by first | exact hd_X8_unchecked | decide +kernel) ⟨Nat.le_of_ble_eq_true rfl, Nat.le_of_ble_eq_true rfl⟩) hK hw (by first | exact Int.le_refl 0 | omega) (by first | exact zlt hc0 | omega) sl_0_0 rfl rfl hl.1 (by rw [h0]; rfl) (Nat.le_of_ble_eq_true rfl) dL_law_486 ⟨by show _ ≤ (601024 : Nat); omega, by show _ ≤ (7293034 : Nat); omega⟩) hS (fun z1 u2 H locs p3 hw hS => ?_)
  obtain ⟨X4, rfl, hRX4, hFX4, hCX4, hzX4, pX4⟩ := p3
  have hI5 : LI0 q0 q1 q2 ad cnt X4 Y ln := LI0.cls hI0 hRX4 hFX4 hCX4 (by decide)
  refine lv_pop hx hb dL_law_489 rfl ?_
  refine lv_aload_n hx hb dL_law_490 rfl (lv_at hl 2 rfl) ?_
  refine l_arg (k := 1) (pc2 := 495) C hS hl hi (by omega) ea1 dL_law_491 dL_law_492 (fun h => lv_iconst (v := jI 1) hx hb dL_law_494 rfl h) dL_law_495 dL_law_496 ?_
  obtain ⟨h0, h40, h100, hFx, hOw, hN, hLn, hR, hCI, hRv, hMI⟩ := id hI5
  have hc40 : cnt 40 = 1 := hFx.at 40 1 (by decide)
  refine gos_i (run_V (k := 40) (i := 0) (As := [.int (jI a1)]) (rest := []) hx hb hml hown hts (c_X9_unchecked l D tc s.heap.size ad cnt X4 Y ln hR hFx hMI a1 ga1) (cwV 1 hts gT_X9_unchecked rfl rfl rfl (by first | exact hd_X9_unchecked | decide +kernel) ⟨Nat.le_of_ble_eq_true rfl, Nat.le_of_ble_eq_true rfl⟩) hK hw (by first | exact Int.le_refl 0 | omega) (by first | exact zlt hc40 | omega) sl_40_0 rfl rfl hl.1 (by rw [h40]; rfl) (Nat.le_of_ble_eq_true rfl) dL_law_497 ⟨by show _ ≤ (601024 : Nat); omega, by show _ ≤ (7293034 : Nat); omega⟩) hS (fun z6 u7 H locs p8 hw hS => ?_)
  obtain ⟨X9, rfl, hRX9, hFX9, hMX9, hzX9, pX9⟩ := p8
  have hI10 : LI0 q0 q1 q2 ad cnt X9 Y ln := LI0.mdl hI5 hRX9 hFX9 hMX9 (by decide)
  refine lv_pop hx hb dL_law_500 rfl ?_
  obtain ⟨hRC, hq9⟩ := J_unchecked hRC0 iMI iR hRX4 iLn iN hFX4 pX4 hFX9 hMX9 pX9
  refine lv_goto (tgt := 1343) hx hb dL_law_501 (by decide) ?_
  exact hg _ _ _ _ _ H locs ls _ _ ⟨hI10, hRC⟩ hw hS hl (by omega) (by omega)

set_option maxHeartbeats 4000000 in
set_option maxRecDepth 100000 in
theorem law_c6 {p : Program} {l : Launch} {e : Env} {s : State} {m : MethodId} {below : List Frame} {meth : Method} {c : Code} {b L : Nat} {xs : Nat → Int32} {D : va_G} {tc : Nat → ClassId} {Q : State → Prop} {q0 q1 q2 cB sB : Nat} {i : Int} (C : LK p l s m c b L xs D tc) (hi : 0 ≤ i ∧ i + 7 ≤ L) (hcB : cB + 310 ≤ 601024) (hsB : sB + 2110 ≤ 7293034) (hg : LAt p l e s m below meth c b D tc q0 q1 q2 i Q 1343 (cB + 310) (sB + 2110)) : LAt p l e s m below meth c b D tc q0 q1 q2 i Q 504 cB sB := by
  obtain ⟨hx, hb, hml, hown, hts, hX, hbl, hK, hT, hlT, hL⟩ := id C
  intro ad cnt X Y ln H locs ls cl sl hI hw hS hl hcl hsl
  obtain ⟨hI0, hRC0⟩ := id hI
  obtain ⟨i0, i40, i100, iFx, iOw, iN, iLn, iR, iCI, iRv, iMI⟩ := id hI0
  refine lv_aload_n hx hb dL_law_504 rfl (lv_at hl 1 rfl) ?_
  obtain ⟨a1, ea1, ga1⟩ := sc_at xs i 1
  refine l_arg (k := 1) (pc2 := 509) C hS hl hi (by omega) ea1 dL_law_505 dL_law_506 (fun h => lv_iconst (v := jI 1) hx hb dL_law_508 rfl h) dL_law_509 dL_law_510 ?_
  obtain ⟨a2, ea2, ga2⟩ := sc_at xs i 2
  refine l_arg (k := 2) (pc2 := 515) C hS hl hi (by omega) ea2 dL_law_511 dL_law_512 (fun h => lv_iconst (v := jI 2) hx hb dL_law_514 rfl h) dL_law_515 dL_law_516 ?_
  refine l_bool C ga2 dL_law_517 dL_law_520 dL_law_521 dL_law_524 (fun z1 gz1 ez1 => ?_)
  obtain ⟨h0, h40, h100, hFx, hOw, hN, hLn, hR, hCI, hRv, hMI⟩ := id hI0
  have hc0 : cnt 0 = 1 := hFx.at 0 1 (by decide)
  refine gos_i (run_V (k := 0) (i := 0) (As := [.int (jI a1), .int (jI z1)]) (rest := []) hx hb hml hown hts (c_X8_word l D tc s.heap.size ad cnt X Y ln hR hFx hLn hCI a1 z1 ga1 gz1) (cwV 2 hts gT_X8_word rfl rfl rfl (by first | exact hd_X8_word | decide +kernel) ⟨Nat.le_of_ble_eq_true rfl, Nat.le_of_ble_eq_true rfl⟩) hK hw (by first | exact Int.le_refl 0 | omega) (by first | exact zlt hc0 | omega) sl_0_0 rfl rfl hl.1 (by rw [h0]; rfl) (Nat.le_of_ble_eq_true rfl) dL_law_525 ⟨by show _ ≤ (601024 : Nat); omega, by show _ ≤ (7293034 : Nat); omega⟩) hS (fun z2 u3 H locs p4 hw hS => ?_)
  obtain ⟨X5, rfl, hRX5, hFX5, hCX5, hzX5, pX5⟩ := p4
  have hI6 : LI0 q0 q1 q2 ad cnt X5 Y ln := LI0.cls hI0 hRX5 hFX5 hCX5 (by decide)
  refine lv_pop hx hb dL_law_528 rfl ?_
  refine lv_aload_n hx hb dL_law_529 rfl (lv_at hl 2 rfl) ?_
  refine l_arg (k := 1) (pc2 := 534) C hS hl hi (by omega) ea1 dL_law_530 dL_law_531 (fun h => lv_iconst (v := jI 1) hx hb dL_law_533 rfl h) dL_law_534 dL_law_535 ?_
  refine l_arg (k := 2) (pc2 := 540) C hS hl hi (by omega) ea2 dL_law_536 dL_law_537 (fun h => lv_iconst (v := jI 2) hx hb dL_law_539 rfl h) dL_law_540 dL_law_541 ?_
  refine l_bool C ga2 dL_law_542 dL_law_545 dL_law_546 dL_law_549 (fun z7 gz7 ez7 => ?_)
  obtain ⟨h0, h40, h100, hFx, hOw, hN, hLn, hR, hCI, hRv, hMI⟩ := id hI6
  have hc40 : cnt 40 = 1 := hFx.at 40 1 (by decide)
  refine gos_i (run_V (k := 40) (i := 0) (As := [.int (jI a1), .int (jI z7)]) (rest := []) hx hb hml hown hts (c_X9_word l D tc s.heap.size ad cnt X5 Y ln hR hFx hMI a1 z7 ga1 gz7) (cwV 2 hts gT_X9_word rfl rfl rfl (by first | exact hd_X9_word | decide +kernel) ⟨Nat.le_of_ble_eq_true rfl, Nat.le_of_ble_eq_true rfl⟩) hK hw (by first | exact Int.le_refl 0 | omega) (by first | exact zlt hc40 | omega) sl_40_0 rfl rfl hl.1 (by rw [h40]; rfl) (Nat.le_of_ble_eq_true rfl) dL_law_550 ⟨by show _ ≤ (601024 : Nat); omega, by show _ ≤ (7293034 : Nat); omega⟩) hS (fun z8 u9 H locs p10 hw hS => ?_)
  obtain ⟨X11, rfl, hRX11, hFX11, hMX11, hzX11, pX11⟩ := p10
  have hI12 : LI0 q0 q1 q2 ad cnt X11 Y ln := LI0.mdl hI6 hRX11 hFX11 hMX11 (by decide)
  refine lv_pop hx hb dL_law_553 rfl ?_
  obtain rfl : z7 = z1 := by omega
  obtain ⟨hRC, hq9⟩ := J_word hRC0 iMI iR hRX5 iLn iN hFX5 pX5 hFX11 hMX11 pX11
  refine lv_goto (tgt := 1343) hx hb dL_law_554 (by decide) ?_
  exact hg _ _ _ _ _ H locs ls _ _ ⟨hI12, hRC⟩ hw hS hl (by omega) (by omega)
end
section
set_option maxHeartbeats 4000000 in
set_option maxRecDepth 100000 in
theorem law_c7 {p : Program} {l : Launch} {e : Env} {s : State} {m : MethodId} {below : List Frame} {meth : Method} {c : Code} {b L : Nat} {xs : Nat → Int32} {D : va_G} {tc : Nat → ClassId} {Q : State → Prop} {q0 q1 q2 cB sB : Nat} {i : Int} (C : LK p l s m c b L xs D tc) (hi : 0 ≤ i ∧ i + 7 ≤ L) (hcB : cB + 310 ≤ 601024) (hsB : sB + 2110 ≤ 7293034) (hg : LAt p l e s m below meth c b D tc q0 q1 q2 i Q 1343 (cB + 310) (sB + 2110)) : LAt p l e s m below meth c b D tc q0 q1 q2 i Q 557 cB sB := by
  obtain ⟨hx, hb, hml, hown, hts, hX, hbl, hK, hT, hlT, hL⟩ := id C
  intro ad cnt X Y ln H locs ls cl sl hI hw hS hl hcl hsl
  obtain ⟨hI0, hRC0⟩ := id hI
  obtain ⟨i0, i40, i100, iFx, iOw, iN, iLn, iR, iCI, iRv, iMI⟩ := id hI0
  refine lv_aload_n hx hb dL_law_557 rfl (lv_at hl 1 rfl) ?_
  obtain ⟨a1, ea1, ga1⟩ := sc_at xs i 1
  refine l_arg (k := 1) (pc2 := 562) C hS hl hi (by omega) ea1 dL_law_558 dL_law_559 (fun h => lv_iconst (v := jI 1) hx hb dL_law_561 rfl h) dL_law_562 dL_law_563 ?_
  obtain ⟨h0, h40, h100, hFx, hOw, hN, hLn, hR, hCI, hRv, hMI⟩ := id hI0
  have hc0 : cnt 0 = 1 := hFx.at 0 1 (by decide)
  refine gos_i (run_V (k := 0) (i := 0) (As := [.int (jI a1)]) (rest := []) hx hb hml hown hts (c_X8_thing l D tc s.heap.size ad cnt X Y ln hR hFx hLn hCI a1 ga1) (cwV 1 hts gT_X8_thing rfl rfl rfl (by first | exact hd_X8_thing | decide +kernel) ⟨Nat.le_of_ble_eq_true rfl, Nat.le_of_ble_eq_true rfl⟩) hK hw (by first | exact Int.le_refl 0 | omega) (by first | exact zlt hc0 | omega) sl_0_0 rfl rfl hl.1 (by rw [h0]; rfl) (Nat.le_of_ble_eq_true rfl) dL_law_564 ⟨by show _ ≤ (601024 : Nat); omega, by show _ ≤ (7293034 : Nat); omega⟩) hS (fun z1 u2 H locs p3 hw hS => ?_)
  obtain ⟨X4, Y6, rfl, hRX4, hFX4, hHX4, hCX4, hzX4, pX4⟩ := p3
  have hI5 : LI0 q0 q1 q2 ad cnt X4 Y6 ln := LI0.cls hI0 hRX4 hFX4 hCX4 (by decide)
  refine lv_pop hx hb dL_law_567 rfl ?_
  refine lv_aload_n hx hb dL_law_568 rfl (lv_at hl 2 rfl) ?_
  refine l_arg (k := 1) (pc2 := 573) C hS hl hi (by omega) ea1 dL_law_569 dL_law_570 (fun h => lv_iconst (v := jI 1) hx hb dL_law_572 rfl h) dL_law_573 dL_law_574 ?_
  obtain ⟨h0, h40, h100, hFx, hOw, hN, hLn, hR, hCI, hRv, hMI⟩ := id hI5
  have hc40 : cnt 40 = 1 := hFx.at 40 1 (by decide)
  refine gos_i (run_V (k := 40) (i := 0) (As := [.int (jI a1)]) (rest := []) hx hb hml hown hts (c_X9_thing l D tc s.heap.size ad cnt X4 Y6 ln hR hFx hMI a1 ga1) (cwV 1 hts gT_X9_thing rfl rfl rfl (by first | exact hd_X9_thing | decide +kernel) ⟨Nat.le_of_ble_eq_true rfl, Nat.le_of_ble_eq_true rfl⟩) hK hw (by first | exact Int.le_refl 0 | omega) (by first | exact zlt hc40 | omega) sl_40_0 rfl rfl hl.1 (by rw [h40]; rfl) (Nat.le_of_ble_eq_true rfl) dL_law_575 ⟨by show _ ≤ (601024 : Nat); omega, by show _ ≤ (7293034 : Nat); omega⟩) hS (fun z7 u8 H locs p9 hw hS => ?_)
  obtain ⟨X10, rfl, hRX10, hFX10, hMX10, hzX10, pX10⟩ := p9
  have hI11 : LI0 q0 q1 q2 ad cnt X10 Y6 ln := LI0.mdl hI5 hRX10 hFX10 hMX10 (by decide)
  refine lv_pop hx hb dL_law_578 rfl ?_
  obtain ⟨hRC, hq9⟩ := J_thing hRC0 iMI iR hRX4 iLn iN hFX4 hHX4 pX4 hFX10 hMX10 pX10
  refine lv_goto (tgt := 1343) hx hb dL_law_579 (by decide) ?_
  exact hg _ _ _ _ _ H locs ls _ _ ⟨hI11, hRC⟩ hw hS hl (by omega) (by omega)

set_option maxHeartbeats 4000000 in
set_option maxRecDepth 100000 in
theorem law_c8 {p : Program} {l : Launch} {e : Env} {s : State} {m : MethodId} {below : List Frame} {meth : Method} {c : Code} {b L : Nat} {xs : Nat → Int32} {D : va_G} {tc : Nat → ClassId} {Q : State → Prop} {q0 q1 q2 cB sB : Nat} {i : Int} (C : LK p l s m c b L xs D tc) (hi : 0 ≤ i ∧ i + 7 ≤ L) (hcB : cB + 310 ≤ 601024) (hsB : sB + 2110 ≤ 7293034) (hg : LAt p l e s m below meth c b D tc q0 q1 q2 i Q 1343 (cB + 310) (sB + 2110)) : LAt p l e s m below meth c b D tc q0 q1 q2 i Q 582 cB sB := by
  obtain ⟨hx, hb, hml, hown, hts, hX, hbl, hK, hT, hlT, hL⟩ := id C
  intro ad cnt X Y ln H locs ls cl sl hI hw hS hl hcl hsl
  obtain ⟨hI0, hRC0⟩ := id hI
  obtain ⟨i0, i40, i100, iFx, iOw, iN, iLn, iR, iCI, iRv, iMI⟩ := id hI0
  refine lv_aload_n hx hb dL_law_582 rfl (lv_at hl 1 rfl) ?_
  obtain ⟨a1, ea1, ga1⟩ := sc_at xs i 1
  refine l_arg (k := 1) (pc2 := 587) C hS hl hi (by omega) ea1 dL_law_583 dL_law_584 (fun h => lv_iconst (v := jI 1) hx hb dL_law_586 rfl h) dL_law_587 dL_law_588 ?_
  obtain ⟨a2, ea2, ga2⟩ := sc_at xs i 2
  refine l_arg (k := 2) (pc2 := 593) C hS hl hi (by omega) ea2 dL_law_589 dL_law_590 (fun h => lv_iconst (v := jI 2) hx hb dL_law_592 rfl h) dL_law_593 dL_law_594 ?_
  obtain ⟨a3, ea3, ga3⟩ := sc_at xs i 3
  refine l_arg (k := 3) (pc2 := 599) C hS hl hi (by omega) ea3 dL_law_595 dL_law_596 (fun h => lv_iconst (v := jI 3) hx hb dL_law_598 rfl h) dL_law_599 dL_law_600 ?_
  refine lv_i2l hx hb dL_law_601 rfl ?_
  refine lv_bipush (v := jI 32) hx hb dL_law_602 (by decide) ?_
  refine lv_lshl hx hb dL_law_604 rfl ?_
  obtain ⟨a4, ea4, ga4⟩ := sc_at xs i 4
  refine l_arg (k := 4) (pc2 := 609) C hS hl hi (by omega) ea4 dL_law_605 dL_law_606 (fun h => lv_iconst (v := jI 4) hx hb dL_law_608 rfl h) dL_law_609 dL_law_610 ?_
  refine lv_i2l hx hb dL_law_611 rfl ?_
  refine lv_ldc2 hx hb hown C.c32 dL_law_612 ?_
  refine lv_land hx hb dL_law_615 ?_
  refine lv_lor hx hb dL_law_616 ?_
  refine l_topl (fun v3 gv3 ev3 => ?_)
  obtain ⟨h0, h40, h100, hFx, hOw, hN, hLn, hR, hCI, hRv, hMI⟩ := id hI0
  have hc0 : cnt 0 = 1 := hFx.at 0 1 (by decide)
  refine gos_i (run_V (k := 0) (i := 0) (As := [.int (jI a1), .int (jI a2), .long (jL v3)]) (rest := []) hx hb hml hown hts (c_X8_put l D tc s.heap.size ad cnt X Y ln hR hFx hLn hCI a1 a2 v3 ga1 ga2 gv3) (cwV 3 hts gT_X8_put rfl rfl rfl (by first | exact hd_X8_put | decide +kernel) ⟨Nat.le_of_ble_eq_true rfl, Nat.le_of_ble_eq_true rfl⟩) hK hw (by first | exact Int.le_refl 0 | omega) (by first | exact zlt hc0 | omega) sl_0_0 rfl rfl hl.1 (by rw [h0]; rfl) (Nat.le_of_ble_eq_true rfl) dL_law_617 ⟨by show _ ≤ (601024 : Nat); omega, by show _ ≤ (7293034 : Nat); omega⟩) hS (fun z1 u2 H locs p3 hw hS => ?_)
  obtain ⟨X4, Y6, rfl, hRX4, hFX4, hHX4, hCX4, hzX4, pX4⟩ := p3
  have hI5 : LI0 q0 q1 q2 ad cnt X4 Y6 ln := LI0.cls hI0 hRX4 hFX4 hCX4 (by decide)
  refine lv_pop hx hb dL_law_620 rfl ?_
  refine lv_aload_n hx hb dL_law_621 rfl (lv_at hl 2 rfl) ?_
  refine l_arg (k := 1) (pc2 := 626) C hS hl hi (by omega) ea1 dL_law_622 dL_law_623 (fun h => lv_iconst (v := jI 1) hx hb dL_law_625 rfl h) dL_law_626 dL_law_627 ?_
  refine l_arg (k := 2) (pc2 := 632) C hS hl hi (by omega) ea2 dL_law_628 dL_law_629 (fun h => lv_iconst (v := jI 2) hx hb dL_law_631 rfl h) dL_law_632 dL_law_633 ?_
  refine l_arg (k := 3) (pc2 := 638) C hS hl hi (by omega) ea3 dL_law_634 dL_law_635 (fun h => lv_iconst (v := jI 3) hx hb dL_law_637 rfl h) dL_law_638 dL_law_639 ?_
  refine lv_i2l hx hb dL_law_640 rfl ?_
  refine lv_bipush (v := jI 32) hx hb dL_law_641 (by decide) ?_
  refine lv_lshl hx hb dL_law_643 rfl ?_
  refine l_arg (k := 4) (pc2 := 648) C hS hl hi (by omega) ea4 dL_law_644 dL_law_645 (fun h => lv_iconst (v := jI 4) hx hb dL_law_647 rfl h) dL_law_648 dL_law_649 ?_
  refine lv_i2l hx hb dL_law_650 rfl ?_
  refine lv_ldc2 hx hb hown C.c32 dL_law_651 ?_
  refine lv_land hx hb dL_law_654 ?_
  refine lv_lor hx hb dL_law_655 ?_
  refine l_topt ev3 ?_
  obtain ⟨h0, h40, h100, hFx, hOw, hN, hLn, hR, hCI, hRv, hMI⟩ := id hI5
  have hc40 : cnt 40 = 1 := hFx.at 40 1 (by decide)
  refine gos_i (run_V (k := 40) (i := 0) (As := [.int (jI a1), .int (jI a2), .long (jL v3)]) (rest := []) hx hb hml hown hts (c_X9_put l D tc s.heap.size ad cnt X4 Y6 ln hR hFx hMI a1 a2 v3 ga1 ga2 gv3) (cwV 3 hts gT_X9_put rfl rfl rfl (by first | exact hd_X9_put | decide +kernel) ⟨Nat.le_of_ble_eq_true rfl, Nat.le_of_ble_eq_true rfl⟩) hK hw (by first | exact Int.le_refl 0 | omega) (by first | exact zlt hc40 | omega) sl_40_0 rfl rfl hl.1 (by rw [h40]; rfl) (Nat.le_of_ble_eq_true rfl) dL_law_656 ⟨by show _ ≤ (601024 : Nat); omega, by show _ ≤ (7293034 : Nat); omega⟩) hS (fun z7 u8 H locs p9 hw hS => ?_)
  obtain ⟨X10, rfl, hRX10, hFX10, hMX10, hzX10, pX10⟩ := p9
  have hI11 : LI0 q0 q1 q2 ad cnt X10 Y6 ln := LI0.mdl hI5 hRX10 hFX10 hMX10 (by decide)
  refine lv_pop hx hb dL_law_659 rfl ?_
  obtain ⟨hRC, hq9⟩ := J_put hRC0 iMI iR hRX4 iLn iN hFX4 hHX4 pX4 hFX10 hMX10 pX10
  refine lv_goto (tgt := 1343) hx hb dL_law_660 (by decide) ?_
  exact hg _ _ _ _ _ H locs ls _ _ ⟨hI11, hRC⟩ hw hS hl (by omega) (by omega)

set_option maxHeartbeats 4000000 in
set_option maxRecDepth 100000 in
theorem law_c9 {p : Program} {l : Launch} {e : Env} {s : State} {m : MethodId} {below : List Frame} {meth : Method} {c : Code} {b L : Nat} {xs : Nat → Int32} {D : va_G} {tc : Nat → ClassId} {Q : State → Prop} {q0 q1 q2 cB sB : Nat} {i : Int} (C : LK p l s m c b L xs D tc) (hi : 0 ≤ i ∧ i + 7 ≤ L) (hcB : cB + 310 ≤ 601024) (hsB : sB + 2110 ≤ 7293034) (hg : LAt p l e s m below meth c b D tc q0 q1 q2 i Q 1343 (cB + 310) (sB + 2110)) : LAt p l e s m below meth c b D tc q0 q1 q2 i Q 663 cB sB := by
  obtain ⟨hx, hb, hml, hown, hts, hX, hbl, hK, hT, hlT, hL⟩ := id C
  intro ad cnt X Y ln H locs ls cl sl hI hw hS hl hcl hsl
  obtain ⟨hI0, hRC0⟩ := id hI
  obtain ⟨i0, i40, i100, iFx, iOw, iN, iLn, iR, iCI, iRv, iMI⟩ := id hI0
  refine lv_aload_n hx hb dL_law_663 rfl (lv_at hl 1 rfl) ?_
  obtain ⟨a1, ea1, ga1⟩ := sc_at xs i 1
  refine l_arg (k := 1) (pc2 := 668) C hS hl hi (by omega) ea1 dL_law_664 dL_law_665 (fun h => lv_iconst (v := jI 1) hx hb dL_law_667 rfl h) dL_law_668 dL_law_669 ?_
  obtain ⟨a2, ea2, ga2⟩ := sc_at xs i 2
  refine l_arg (k := 2) (pc2 := 674) C hS hl hi (by omega) ea2 dL_law_670 dL_law_671 (fun h => lv_iconst (v := jI 2) hx hb dL_law_673 rfl h) dL_law_674 dL_law_675 ?_
  obtain ⟨a3, ea3, ga3⟩ := sc_at xs i 3
  refine l_arg (k := 3) (pc2 := 680) C hS hl hi (by omega) ea3 dL_law_676 dL_law_677 (fun h => lv_iconst (v := jI 3) hx hb dL_law_679 rfl h) dL_law_680 dL_law_681 ?_
  obtain ⟨h0, h40, h100, hFx, hOw, hN, hLn, hR, hCI, hRv, hMI⟩ := id hI0
  have hc0 : cnt 0 = 1 := hFx.at 0 1 (by decide)
  refine gos_i (run_V (k := 0) (i := 0) (As := [.int (jI a1), .int (jI a2), .int (jI a3)]) (rest := []) hx hb hml hown hts (c_X8_refer l D tc s.heap.size ad cnt X Y ln hR hFx hLn hCI a1 a2 a3 ga1 ga2 ga3) (cwV 3 hts gT_X8_refer rfl rfl rfl (by first | exact hd_X8_refer | decide +kernel) ⟨Nat.le_of_ble_eq_true rfl, Nat.le_of_ble_eq_true rfl⟩) hK hw (by first | exact Int.le_refl 0 | omega) (by first | exact zlt hc0 | omega) sl_0_0 rfl rfl hl.1 (by rw [h0]; rfl) (Nat.le_of_ble_eq_true rfl) dL_law_682 ⟨by show _ ≤ (601024 : Nat); omega, by show _ ≤ (7293034 : Nat); omega⟩) hS (fun z1 u2 H locs p3 hw hS => ?_)
  obtain ⟨X4, Y6, rfl, hRX4, hFX4, hHX4, hCX4, hzX4, pX4⟩ := p3
  have hI5 : LI0 q0 q1 q2 ad cnt X4 Y6 ln := LI0.cls hI0 hRX4 hFX4 hCX4 (by decide)
  refine lv_pop hx hb dL_law_685 rfl ?_
  refine lv_aload_n hx hb dL_law_686 rfl (lv_at hl 2 rfl) ?_
  refine l_arg (k := 1) (pc2 := 691) C hS hl hi (by omega) ea1 dL_law_687 dL_law_688 (fun h => lv_iconst (v := jI 1) hx hb dL_law_690 rfl h) dL_law_691 dL_law_692 ?_
  refine l_arg (k := 2) (pc2 := 697) C hS hl hi (by omega) ea2 dL_law_693 dL_law_694 (fun h => lv_iconst (v := jI 2) hx hb dL_law_696 rfl h) dL_law_697 dL_law_698 ?_
  refine l_arg (k := 3) (pc2 := 703) C hS hl hi (by omega) ea3 dL_law_699 dL_law_700 (fun h => lv_iconst (v := jI 3) hx hb dL_law_702 rfl h) dL_law_703 dL_law_704 ?_
  obtain ⟨h0, h40, h100, hFx, hOw, hN, hLn, hR, hCI, hRv, hMI⟩ := id hI5
  have hc40 : cnt 40 = 1 := hFx.at 40 1 (by decide)
  refine gos_i (run_V (k := 40) (i := 0) (As := [.int (jI a1), .int (jI a2), .int (jI a3)]) (rest := []) hx hb hml hown hts (c_X9_refer l D tc s.heap.size ad cnt X4 Y6 ln hR hFx hMI a1 a2 a3 ga1 ga2 ga3) (cwV 3 hts gT_X9_refer rfl rfl rfl (by first | exact hd_X9_refer | decide +kernel) ⟨Nat.le_of_ble_eq_true rfl, Nat.le_of_ble_eq_true rfl⟩) hK hw (by first | exact Int.le_refl 0 | omega) (by first | exact zlt hc40 | omega) sl_40_0 rfl rfl hl.1 (by rw [h40]; rfl) (Nat.le_of_ble_eq_true rfl) dL_law_705 ⟨by show _ ≤ (601024 : Nat); omega, by show _ ≤ (7293034 : Nat); omega⟩) hS (fun z7 u8 H locs p9 hw hS => ?_)
  obtain ⟨X10, rfl, hRX10, hFX10, hMX10, hzX10, pX10⟩ := p9
  have hI11 : LI0 q0 q1 q2 ad cnt X10 Y6 ln := LI0.mdl hI5 hRX10 hFX10 hMX10 (by decide)
  refine lv_pop hx hb dL_law_708 rfl ?_
  obtain ⟨hRC, hq9⟩ := J_refer hRC0 iMI iR hRX4 iLn iN hFX4 hHX4 pX4 hFX10 hMX10 pX10
  refine lv_goto (tgt := 1343) hx hb dL_law_709 (by decide) ?_
  exact hg _ _ _ _ _ H locs ls _ _ ⟨hI11, hRC⟩ hw hS hl (by omega) (by omega)

set_option maxHeartbeats 4000000 in
set_option maxRecDepth 100000 in
theorem law_c10 {p : Program} {l : Launch} {e : Env} {s : State} {m : MethodId} {below : List Frame} {meth : Method} {c : Code} {b L : Nat} {xs : Nat → Int32} {D : va_G} {tc : Nat → ClassId} {Q : State → Prop} {q0 q1 q2 cB sB : Nat} {i : Int} (C : LK p l s m c b L xs D tc) (hi : 0 ≤ i ∧ i + 7 ≤ L) (hcB : cB + 310 ≤ 601024) (hsB : sB + 2110 ≤ 7293034) (hg : LAt p l e s m below meth c b D tc q0 q1 q2 i Q 1343 (cB + 310) (sB + 2110)) : LAt p l e s m below meth c b D tc q0 q1 q2 i Q 712 cB sB := by
  obtain ⟨hx, hb, hml, hown, hts, hX, hbl, hK, hT, hlT, hL⟩ := id C
  intro ad cnt X Y ln H locs ls cl sl hI hw hS hl hcl hsl
  obtain ⟨hI0, hRC0⟩ := id hI
  obtain ⟨i0, i40, i100, iFx, iOw, iN, iLn, iR, iCI, iRv, iMI⟩ := id hI0
  refine lv_aload_n hx hb dL_law_712 rfl (lv_at hl 1 rfl) ?_
  obtain ⟨a1, ea1, ga1⟩ := sc_at xs i 1
  refine l_arg (k := 1) (pc2 := 717) C hS hl hi (by omega) ea1 dL_law_713 dL_law_714 (fun h => lv_iconst (v := jI 1) hx hb dL_law_716 rfl h) dL_law_717 dL_law_718 ?_
  obtain ⟨a2, ea2, ga2⟩ := sc_at xs i 2
  refine l_arg (k := 2) (pc2 := 723) C hS hl hi (by omega) ea2 dL_law_719 dL_law_720 (fun h => lv_iconst (v := jI 2) hx hb dL_law_722 rfl h) dL_law_723 dL_law_724 ?_
  obtain ⟨a3, ea3, ga3⟩ := sc_at xs i 3
  refine l_arg (k := 3) (pc2 := 729) C hS hl hi (by omega) ea3 dL_law_725 dL_law_726 (fun h => lv_iconst (v := jI 3) hx hb dL_law_728 rfl h) dL_law_729 dL_law_730 ?_
  obtain ⟨h0, h40, h100, hFx, hOw, hN, hLn, hR, hCI, hRv, hMI⟩ := id hI0
  have hc0 : cnt 0 = 1 := hFx.at 0 1 (by decide)
  refine gos_i (run_V (k := 0) (i := 0) (As := [.int (jI a1), .int (jI a2), .int (jI a3)]) (rest := []) hx hb hml hown hts (c_X8_row l D tc s.heap.size ad cnt X Y ln hR hFx hLn hCI hOw hN a1 a2 a3 ga1 ga2 ga3) (cwV 3 hts gT_X8_row rfl rfl rfl (by first | exact hd_X8_row | decide +kernel) ⟨Nat.le_of_ble_eq_true rfl, Nat.le_of_ble_eq_true rfl⟩) hK hw (by first | exact Int.le_refl 0 | omega) (by first | exact zlt hc0 | omega) sl_0_0 rfl rfl hl.1 (by rw [h0]; rfl) (Nat.le_of_ble_eq_true rfl) dL_law_731 ⟨by show _ ≤ (601024 : Nat); omega, by show _ ≤ (7293034 : Nat); omega⟩) hS (fun z1 u2 H locs p3 hw hS => ?_)
  obtain ⟨ad6, cnt7, X4, Y8, ln9, rfl, hEX4, hFxX4, hOwX4, hLnX4, hRX4, hFX4, hHX4, hCX4, hzX4, pX4⟩ := p3
  have hI5 : LI0 q0 q1 q2 ad6 cnt7 X4 Y8 ln9 := LI0.grow hI0 hEX4 hFxX4 hOwX4 hLnX4 hRX4 hFX4 hCX4 (by decide)
  refine lv_pop hx hb dL_law_734 rfl ?_
  refine lv_aload_n hx hb dL_law_735 rfl (lv_at hl 2 rfl) ?_
  refine l_arg (k := 1) (pc2 := 740) C hS hl hi (by omega) ea1 dL_law_736 dL_law_737 (fun h => lv_iconst (v := jI 1) hx hb dL_law_739 rfl h) dL_law_740 dL_law_741 ?_
  refine l_arg (k := 2) (pc2 := 746) C hS hl hi (by omega) ea2 dL_law_742 dL_law_743 (fun h => lv_iconst (v := jI 2) hx hb dL_law_745 rfl h) dL_law_746 dL_law_747 ?_
  refine l_arg (k := 3) (pc2 := 752) C hS hl hi (by omega) ea3 dL_law_748 dL_law_749 (fun h => lv_iconst (v := jI 3) hx hb dL_law_751 rfl h) dL_law_752 dL_law_753 ?_
  obtain ⟨h0, h40, h100, hFx, hOw, hN, hLn, hR, hCI, hRv, hMI⟩ := id hI5
  have hc40 : cnt7 40 = 1 := hFx.at 40 1 (by decide)
  refine gos_i (run_V (k := 40) (i := 0) (As := [.int (jI a1), .int (jI a2), .int (jI a3)]) (rest := []) hx hb hml hown hts (c_X9_row l D tc s.heap.size ad6 cnt7 X4 Y8 ln9 hR hFx hMI a1 a2 a3 ga1 ga2 ga3) (cwV 3 hts gT_X9_row rfl rfl rfl (by first | exact hd_X9_row | decide +kernel) ⟨Nat.le_of_ble_eq_true rfl, Nat.le_of_ble_eq_true rfl⟩) hK hw (by first | exact Int.le_refl 0 | omega) (by first | exact zlt hc40 | omega) sl_40_0 rfl rfl hl.1 (by rw [h40]; rfl) (Nat.le_of_ble_eq_true rfl) dL_law_754 ⟨by show _ ≤ (601024 : Nat); omega, by show _ ≤ (7293034 : Nat); omega⟩) hS (fun z10 u11 H locs p12 hw hS => ?_)
  obtain ⟨X13, rfl, hRX13, hFX13, hMX13, hzX13, pX13⟩ := p12
  have hI14 : LI0 q0 q1 q2 ad6 cnt7 X13 Y8 ln9 := LI0.mdl hI5 hRX13 hFX13 hMX13 (by decide)
  refine lv_pop hx hb dL_law_757 rfl ?_
  obtain ⟨hRC, hq9⟩ := J_row hRC0 iMI iR hRX4 iLn iN hFX4 hHX4 hEX4.2.1 hEX4.2.2 hLnX4 pX4 hFX13 hMX13 pX13
  refine lv_goto (tgt := 1343) hx hb dL_law_758 (by decide) ?_
  exact hg _ _ _ _ _ H locs ls _ _ ⟨hI14, hRC⟩ hw hS hl (by omega) (by omega)

set_option maxHeartbeats 4000000 in
set_option maxRecDepth 100000 in
theorem law_c11 {p : Program} {l : Launch} {e : Env} {s : State} {m : MethodId} {below : List Frame} {meth : Method} {c : Code} {b L : Nat} {xs : Nat → Int32} {D : va_G} {tc : Nat → ClassId} {Q : State → Prop} {q0 q1 q2 cB sB : Nat} {i : Int} (C : LK p l s m c b L xs D tc) (hi : 0 ≤ i ∧ i + 7 ≤ L) (hcB : cB + 310 ≤ 601024) (hsB : sB + 2110 ≤ 7293034) (hg : LAt p l e s m below meth c b D tc q0 q1 q2 i Q 1343 (cB + 310) (sB + 2110)) : LAt p l e s m below meth c b D tc q0 q1 q2 i Q 761 cB sB := by
  obtain ⟨hx, hb, hml, hown, hts, hX, hbl, hK, hT, hlT, hL⟩ := id C
  intro ad cnt X Y ln H locs ls cl sl hI hw hS hl hcl hsl
  obtain ⟨hI0, hRC0⟩ := id hI
  obtain ⟨i0, i40, i100, iFx, iOw, iN, iLn, iR, iCI, iRv, iMI⟩ := id hI0
  refine lv_aload_n hx hb dL_law_761 rfl (lv_at hl 1 rfl) ?_
  obtain ⟨a1, ea1, ga1⟩ := sc_at xs i 1
  refine l_arg (k := 1) (pc2 := 766) C hS hl hi (by omega) ea1 dL_law_762 dL_law_763 (fun h => lv_iconst (v := jI 1) hx hb dL_law_765 rfl h) dL_law_766 dL_law_767 ?_
  obtain ⟨a2, ea2, ga2⟩ := sc_at xs i 2
  refine l_arg (k := 2) (pc2 := 772) C hS hl hi (by omega) ea2 dL_law_768 dL_law_769 (fun h => lv_iconst (v := jI 2) hx hb dL_law_771 rfl h) dL_law_772 dL_law_773 ?_
  obtain ⟨a3, ea3, ga3⟩ := sc_at xs i 3
  refine l_arg (k := 3) (pc2 := 778) C hS hl hi (by omega) ea3 dL_law_774 dL_law_775 (fun h => lv_iconst (v := jI 3) hx hb dL_law_777 rfl h) dL_law_778 dL_law_779 ?_
  obtain ⟨a4, ea4, ga4⟩ := sc_at xs i 4
  refine l_arg (k := 4) (pc2 := 784) C hS hl hi (by omega) ea4 dL_law_780 dL_law_781 (fun h => lv_iconst (v := jI 4) hx hb dL_law_783 rfl h) dL_law_784 dL_law_785 ?_
  obtain ⟨h0, h40, h100, hFx, hOw, hN, hLn, hR, hCI, hRv, hMI⟩ := id hI0
  have hc0 : cnt 0 = 1 := hFx.at 0 1 (by decide)
  refine gos_i (run_V (k := 0) (i := 0) (As := [.int (jI a1), .int (jI a2), .int (jI a3), .int (jI a4)]) (rest := []) hx hb hml hown hts (c_X8_share l D tc s.heap.size ad cnt X Y ln hR hFx hLn hCI a1 a2 a3 a4 ga1 ga2 ga3 ga4) (cwV 4 hts gT_X8_share rfl rfl rfl (by first | exact hd_X8_share | decide +kernel) ⟨Nat.le_of_ble_eq_true rfl, Nat.le_of_ble_eq_true rfl⟩) hK hw (by first | exact Int.le_refl 0 | omega) (by first | exact zlt hc0 | omega) sl_0_0 rfl rfl hl.1 (by rw [h0]; rfl) (Nat.le_of_ble_eq_true rfl) dL_law_786 ⟨by show _ ≤ (601024 : Nat); omega, by show _ ≤ (7293034 : Nat); omega⟩) hS (fun z1 u2 H locs p3 hw hS => ?_)
  obtain ⟨X4, Y6, rfl, hRX4, hFX4, hHX4, hCX4, hzX4, pX4⟩ := p3
  have hI5 : LI0 q0 q1 q2 ad cnt X4 Y6 ln := LI0.cls hI0 hRX4 hFX4 hCX4 (by decide)
  refine lv_pop hx hb dL_law_789 rfl ?_
  refine lv_aload_n hx hb dL_law_790 rfl (lv_at hl 2 rfl) ?_
  refine l_arg (k := 1) (pc2 := 795) C hS hl hi (by omega) ea1 dL_law_791 dL_law_792 (fun h => lv_iconst (v := jI 1) hx hb dL_law_794 rfl h) dL_law_795 dL_law_796 ?_
  refine l_arg (k := 2) (pc2 := 801) C hS hl hi (by omega) ea2 dL_law_797 dL_law_798 (fun h => lv_iconst (v := jI 2) hx hb dL_law_800 rfl h) dL_law_801 dL_law_802 ?_
  refine l_arg (k := 3) (pc2 := 807) C hS hl hi (by omega) ea3 dL_law_803 dL_law_804 (fun h => lv_iconst (v := jI 3) hx hb dL_law_806 rfl h) dL_law_807 dL_law_808 ?_
  refine l_arg (k := 4) (pc2 := 813) C hS hl hi (by omega) ea4 dL_law_809 dL_law_810 (fun h => lv_iconst (v := jI 4) hx hb dL_law_812 rfl h) dL_law_813 dL_law_814 ?_
  obtain ⟨h0, h40, h100, hFx, hOw, hN, hLn, hR, hCI, hRv, hMI⟩ := id hI5
  have hc40 : cnt 40 = 1 := hFx.at 40 1 (by decide)
  refine gos_i (run_V (k := 40) (i := 0) (As := [.int (jI a1), .int (jI a2), .int (jI a3), .int (jI a4)]) (rest := []) hx hb hml hown hts (c_X9_share l D tc s.heap.size ad cnt X4 Y6 ln hR hFx hMI a1 a2 a3 a4 ga1 ga2 ga3 ga4) (cwV 4 hts gT_X9_share rfl rfl rfl (by first | exact hd_X9_share | decide +kernel) ⟨Nat.le_of_ble_eq_true rfl, Nat.le_of_ble_eq_true rfl⟩) hK hw (by first | exact Int.le_refl 0 | omega) (by first | exact zlt hc40 | omega) sl_40_0 rfl rfl hl.1 (by rw [h40]; rfl) (Nat.le_of_ble_eq_true rfl) dL_law_815 ⟨by show _ ≤ (601024 : Nat); omega, by show _ ≤ (7293034 : Nat); omega⟩) hS (fun z7 u8 H locs p9 hw hS => ?_)
  obtain ⟨X10, rfl, hRX10, hFX10, hMX10, hzX10, pX10⟩ := p9
  have hI11 : LI0 q0 q1 q2 ad cnt X10 Y6 ln := LI0.mdl hI5 hRX10 hFX10 hMX10 (by decide)
  refine lv_pop hx hb dL_law_818 rfl ?_
  obtain ⟨hRC, hq9⟩ := J_share hRC0 iMI iR hRX4 iLn iN hFX4 hHX4 pX4 hFX10 hMX10 pX10
  refine lv_goto (tgt := 1343) hx hb dL_law_819 (by decide) ?_
  exact hg _ _ _ _ _ H locs ls _ _ ⟨hI11, hRC⟩ hw hS hl (by omega) (by omega)

set_option maxHeartbeats 4000000 in
set_option maxRecDepth 100000 in
theorem law_c12 {p : Program} {l : Launch} {e : Env} {s : State} {m : MethodId} {below : List Frame} {meth : Method} {c : Code} {b L : Nat} {xs : Nat → Int32} {D : va_G} {tc : Nat → ClassId} {Q : State → Prop} {q0 q1 q2 cB sB : Nat} {i : Int} (C : LK p l s m c b L xs D tc) (hi : 0 ≤ i ∧ i + 7 ≤ L) (hcB : cB + 310 ≤ 601024) (hsB : sB + 2110 ≤ 7293034) (hg : LAt p l e s m below meth c b D tc q0 q1 q2 i Q 1343 (cB + 310) (sB + 2110)) : LAt p l e s m below meth c b D tc q0 q1 q2 i Q 822 cB sB := by
  obtain ⟨hx, hb, hml, hown, hts, hX, hbl, hK, hT, hlT, hL⟩ := id C
  intro ad cnt X Y ln H locs ls cl sl hI hw hS hl hcl hsl
  obtain ⟨hI0, hRC0⟩ := id hI
  obtain ⟨i0, i40, i100, iFx, iOw, iN, iLn, iR, iCI, iRv, iMI⟩ := id hI0
  refine lv_aload_n hx hb dL_law_822 rfl (lv_at hl 1 rfl) ?_
  obtain ⟨a1, ea1, ga1⟩ := sc_at xs i 1
  refine l_arg (k := 1) (pc2 := 827) C hS hl hi (by omega) ea1 dL_law_823 dL_law_824 (fun h => lv_iconst (v := jI 1) hx hb dL_law_826 rfl h) dL_law_827 dL_law_828 ?_
  obtain ⟨a2, ea2, ga2⟩ := sc_at xs i 2
  refine l_arg (k := 2) (pc2 := 833) C hS hl hi (by omega) ea2 dL_law_829 dL_law_830 (fun h => lv_iconst (v := jI 2) hx hb dL_law_832 rfl h) dL_law_833 dL_law_834 ?_
  obtain ⟨a3, ea3, ga3⟩ := sc_at xs i 3
  refine l_arg (k := 3) (pc2 := 839) C hS hl hi (by omega) ea3 dL_law_835 dL_law_836 (fun h => lv_iconst (v := jI 3) hx hb dL_law_838 rfl h) dL_law_839 dL_law_840 ?_
  obtain ⟨a4, ea4, ga4⟩ := sc_at xs i 4
  refine l_arg (k := 4) (pc2 := 845) C hS hl hi (by omega) ea4 dL_law_841 dL_law_842 (fun h => lv_iconst (v := jI 4) hx hb dL_law_844 rfl h) dL_law_845 dL_law_846 ?_
  refine lv_i2l hx hb dL_law_847 rfl ?_
  refine lv_bipush (v := jI 32) hx hb dL_law_848 (by decide) ?_
  refine lv_lshl hx hb dL_law_850 rfl ?_
  obtain ⟨a5, ea5, ga5⟩ := sc_at xs i 5
  refine l_arg (k := 5) (pc2 := 855) C hS hl hi (by omega) ea5 dL_law_851 dL_law_852 (fun h => lv_iconst (v := jI 5) hx hb dL_law_854 rfl h) dL_law_855 dL_law_856 ?_
  refine lv_i2l hx hb dL_law_857 rfl ?_
  refine lv_ldc2 hx hb hown C.c32 dL_law_858 ?_
  refine lv_land hx hb dL_law_861 ?_
  refine lv_lor hx hb dL_law_862 ?_
  refine l_topl (fun v4 gv4 ev4 => ?_)
  obtain ⟨h0, h40, h100, hFx, hOw, hN, hLn, hR, hCI, hRv, hMI⟩ := id hI0
  have hc0 : cnt 0 = 1 := hFx.at 0 1 (by decide)
  refine gos_i (run_V (k := 0) (i := 0) (As := [.int (jI a1), .int (jI a2), .int (jI a3), .long (jL v4)]) (rest := []) hx hb hml hown hts (c_X8_item l D tc s.heap.size ad cnt X Y ln hR hFx hLn hCI a1 a2 a3 v4 ga1 ga2 ga3 gv4) (cwV 4 hts gT_X8_item rfl rfl rfl (by first | exact hd_X8_item | decide +kernel) ⟨Nat.le_of_ble_eq_true rfl, Nat.le_of_ble_eq_true rfl⟩) hK hw (by first | exact Int.le_refl 0 | omega) (by first | exact zlt hc0 | omega) sl_0_0 rfl rfl hl.1 (by rw [h0]; rfl) (Nat.le_of_ble_eq_true rfl) dL_law_863 ⟨by show _ ≤ (601024 : Nat); omega, by show _ ≤ (7293034 : Nat); omega⟩) hS (fun z1 u2 H locs p3 hw hS => ?_)
  obtain ⟨X4, Y6, rfl, hRX4, hFX4, hHX4, hCX4, hzX4, pX4⟩ := p3
  have hI5 : LI0 q0 q1 q2 ad cnt X4 Y6 ln := LI0.cls hI0 hRX4 hFX4 hCX4 (by decide)
  refine lv_pop hx hb dL_law_866 rfl ?_
  refine lv_aload_n hx hb dL_law_867 rfl (lv_at hl 2 rfl) ?_
  refine l_arg (k := 1) (pc2 := 872) C hS hl hi (by omega) ea1 dL_law_868 dL_law_869 (fun h => lv_iconst (v := jI 1) hx hb dL_law_871 rfl h) dL_law_872 dL_law_873 ?_
  refine l_arg (k := 2) (pc2 := 878) C hS hl hi (by omega) ea2 dL_law_874 dL_law_875 (fun h => lv_iconst (v := jI 2) hx hb dL_law_877 rfl h) dL_law_878 dL_law_879 ?_
  refine l_arg (k := 3) (pc2 := 884) C hS hl hi (by omega) ea3 dL_law_880 dL_law_881 (fun h => lv_iconst (v := jI 3) hx hb dL_law_883 rfl h) dL_law_884 dL_law_885 ?_
  refine l_arg (k := 4) (pc2 := 890) C hS hl hi (by omega) ea4 dL_law_886 dL_law_887 (fun h => lv_iconst (v := jI 4) hx hb dL_law_889 rfl h) dL_law_890 dL_law_891 ?_
  refine lv_i2l hx hb dL_law_892 rfl ?_
  refine lv_bipush (v := jI 32) hx hb dL_law_893 (by decide) ?_
  refine lv_lshl hx hb dL_law_895 rfl ?_
  refine l_arg (k := 5) (pc2 := 900) C hS hl hi (by omega) ea5 dL_law_896 dL_law_897 (fun h => lv_iconst (v := jI 5) hx hb dL_law_899 rfl h) dL_law_900 dL_law_901 ?_
  refine lv_i2l hx hb dL_law_902 rfl ?_
  refine lv_ldc2 hx hb hown C.c32 dL_law_903 ?_
  refine lv_land hx hb dL_law_906 ?_
  refine lv_lor hx hb dL_law_907 ?_
  refine l_topt ev4 ?_
  obtain ⟨h0, h40, h100, hFx, hOw, hN, hLn, hR, hCI, hRv, hMI⟩ := id hI5
  have hc40 : cnt 40 = 1 := hFx.at 40 1 (by decide)
  refine gos_i (run_V (k := 40) (i := 0) (As := [.int (jI a1), .int (jI a2), .int (jI a3), .long (jL v4)]) (rest := []) hx hb hml hown hts (c_X9_item l D tc s.heap.size ad cnt X4 Y6 ln hR hFx hMI a1 a2 a3 v4 ga1 ga2 ga3 gv4) (cwV 4 hts gT_X9_item rfl rfl rfl (by first | exact hd_X9_item | decide +kernel) ⟨Nat.le_of_ble_eq_true rfl, Nat.le_of_ble_eq_true rfl⟩) hK hw (by first | exact Int.le_refl 0 | omega) (by first | exact zlt hc40 | omega) sl_40_0 rfl rfl hl.1 (by rw [h40]; rfl) (Nat.le_of_ble_eq_true rfl) dL_law_908 ⟨by show _ ≤ (601024 : Nat); omega, by show _ ≤ (7293034 : Nat); omega⟩) hS (fun z7 u8 H locs p9 hw hS => ?_)
  obtain ⟨X10, rfl, hRX10, hFX10, hMX10, hzX10, pX10⟩ := p9
  have hI11 : LI0 q0 q1 q2 ad cnt X10 Y6 ln := LI0.mdl hI5 hRX10 hFX10 hMX10 (by decide)
  refine lv_pop hx hb dL_law_911 rfl ?_
  obtain ⟨hRC, hq9⟩ := J_item hRC0 iMI iR hRX4 iLn iN hFX4 hHX4 pX4 hFX10 hMX10 pX10
  refine lv_goto (tgt := 1343) hx hb dL_law_912 (by decide) ?_
  exact hg _ _ _ _ _ H locs ls _ _ ⟨hI11, hRC⟩ hw hS hl (by omega) (by omega)

set_option maxHeartbeats 4000000 in
set_option maxRecDepth 100000 in
theorem law_c13 {p : Program} {l : Launch} {e : Env} {s : State} {m : MethodId} {below : List Frame} {meth : Method} {c : Code} {b L : Nat} {xs : Nat → Int32} {D : va_G} {tc : Nat → ClassId} {Q : State → Prop} {q0 q1 q2 cB sB : Nat} {i : Int} (C : LK p l s m c b L xs D tc) (hi : 0 ≤ i ∧ i + 7 ≤ L) (hcB : cB + 310 ≤ 601024) (hsB : sB + 2110 ≤ 7293034) (hg : LAt p l e s m below meth c b D tc q0 q1 q2 i Q 1343 (cB + 310) (sB + 2110)) : LAt p l e s m below meth c b D tc q0 q1 q2 i Q 915 cB sB := by
  obtain ⟨hx, hb, hml, hown, hts, hX, hbl, hK, hT, hlT, hL⟩ := id C
  intro ad cnt X Y ln H locs ls cl sl hI hw hS hl hcl hsl
  obtain ⟨hI0, hRC0⟩ := id hI
  obtain ⟨i0, i40, i100, iFx, iOw, iN, iLn, iR, iCI, iRv, iMI⟩ := id hI0
  refine lv_aload_n hx hb dL_law_915 rfl (lv_at hl 1 rfl) ?_
  obtain ⟨a1, ea1, ga1⟩ := sc_at xs i 1
  refine l_arg (k := 1) (pc2 := 920) C hS hl hi (by omega) ea1 dL_law_916 dL_law_917 (fun h => lv_iconst (v := jI 1) hx hb dL_law_919 rfl h) dL_law_920 dL_law_921 ?_
  obtain ⟨a2, ea2, ga2⟩ := sc_at xs i 2
  refine l_arg (k := 2) (pc2 := 926) C hS hl hi (by omega) ea2 dL_law_922 dL_law_923 (fun h => lv_iconst (v := jI 2) hx hb dL_law_925 rfl h) dL_law_926 dL_law_927 ?_
  refine lv_aload_n hx hb dL_law_928 rfl (lv_at hl 3 rfl) ?_
  obtain ⟨h0, h40, h100, hFx, hOw, hN, hLn, hR, hCI, hRv, hMI⟩ := id hI0
  refine vx_calli (vx_runSX (As := [.ref (ad 0 0), .int (jI a1), .int (jI a2), .ref (ad 100 0)]) (rest := []) ⟨hx, hb, hml, hown, hts⟩ (c_L_at l hlT D tc s.heap.size ad cnt X Y ln hR hFx hLn hCI a1 a2 ga1 ga2) (vx_cwSW 4 hts gT_L_at rfl rfl rfl (by decide +kernel) ⟨Nat.le_of_ble_eq_true rfl, Nat.le_of_ble_eq_true rfl⟩) ⟨PcT.blind, fun U hU hW => ⟨rfl, by rw [hU]; exact hw, hK.warm hW, by rw [hU]; exact hT.go hS hW⟩⟩ rfl rfl hl.1 (by rw [h0, h100]; rfl) (lv_room (Nat.le_of_ble_eq_true rfl)) dL_law_929 ⟨by show _ ≤ (601024 : Nat); omega, by show _ ≤ (7293034 : Nat); omega⟩) hS (fun q _ h => h) (fun q h => h) (fun q _ h => h) (fun E ce q9 u9 t H1 locs1 ht hvm hp hB hz hk1 hS1 hcell hv hcl => absurd hp id) (fun r9 u9 t9 H locs ht9 hvm9 hp9 hB9 hz9 hk9 hS => ?_)
  obtain ⟨z2, rfl, X1, rfl, hRX1, hFX1, hzX1⟩ := hp9
  rw [ht9] at hB9
  have hw := hB9
  have hI3 : LI0 q0 q1 q2 ad cnt X1 Y ln := LI0.cls hI0 hRX1 hFX1 (cinv_frm (M := [10000]) (N := []) hCI hFX1 Frm.rf (by decide) (by decide)) (by decide)
  refine lv_istore (lv' := (5, .int (jI z2)) :: LV b q0 q1 q2 i) hx hb dL_law_932 hl (by decide) rfl (fun ls hl => ?_)
  have hl : lv_has ls 8 (LV b q0 q1 q2 i) := lv_sub hl [1, 2, 3, 4, 5] rfl
  refine lv_aload_n hx hb dL_law_934 rfl (lv_at hl 2 rfl) ?_
  refine l_arg (k := 1) (pc2 := 939) C hS hl hi (by omega) ea1 dL_law_935 dL_law_936 (fun h => lv_iconst (v := jI 1) hx hb dL_law_938 rfl h) dL_law_939 dL_law_940 ?_
  refine l_arg (k := 2) (pc2 := 945) C hS hl hi (by omega) ea2 dL_law_941 dL_law_942 (fun h => lv_iconst (v := jI 2) hx hb dL_law_944 rfl h) dL_law_945 dL_law_946 ?_
  obtain ⟨h0, h40, h100, hFx, hOw, hN, hLn, hR, hCI, hRv, hMI⟩ := id hI3
  have hc40 : cnt 40 = 1 := hFx.at 40 1 (by decide)
  refine gos_l (run_V (k := 40) (i := 0) (As := [.int (jI a1), .int (jI a2)]) (rest := []) hx hb hml hown hts (c_X9_at l D tc s.heap.size ad cnt X1 Y ln hR hFx hMI a1 a2 ga1 ga2) (cwV 2 hts gT_X9_at rfl rfl rfl (by first | exact hd_X9_at | decide +kernel) ⟨Nat.le_of_ble_eq_true rfl, Nat.le_of_ble_eq_true rfl⟩) hK hw (by first | exact Int.le_refl 0 | omega) (by first | exact zlt hc40 | omega) sl_40_0 rfl rfl hl.1 (by rw [h40]; rfl) (Nat.le_of_ble_eq_true rfl) dL_law_947 ⟨by show _ ≤ (601024 : Nat); omega, by show _ ≤ (7293034 : Nat); omega⟩) hS (fun z4 u5 H locs p6 hw hS => ?_)
  obtain ⟨X7, rfl, hRX7, hFX7, hMX7, hzX7, pX7⟩ := p6
  have hI8 : LI0 q0 q1 q2 ad cnt X7 Y ln := LI0.mdl hI3 hRX7 hFX7 hMX7 (by decide)
  refine lv_lstore (lv' := (6, .long (jL z4)) :: LV b q0 q1 q2 i) hx hb dL_law_950 hl (by decide) rfl (fun ls hl => ?_)
  have hl : lv_has ls 8 (LV b q0 q1 q2 i) := lv_sub hl [1, 2, 3, 4, 5] rfl
  have hRC : RC cnt X7 Y ln := RC.two hRC0 hFX1 hFX7 (by decide) (by decide) (by decide) (by decide)
  refine lv_goto (tgt := 1343) hx hb dL_law_952 (by decide) ?_
  exact hg _ _ _ _ _ H locs ls _ _ ⟨hI8, hRC⟩ hw hS hl (by omega) (by omega)
end
section
set_option maxHeartbeats 4000000 in
set_option maxRecDepth 100000 in
theorem law_c14 {p : Program} {l : Launch} {e : Env} {s : State} {m : MethodId} {below : List Frame} {meth : Method} {c : Code} {b L : Nat} {xs : Nat → Int32} {D : va_G} {tc : Nat → ClassId} {Q : State → Prop} {q0 q1 q2 cB sB : Nat} {i : Int} (C : LK p l s m c b L xs D tc) (hi : 0 ≤ i ∧ i + 7 ≤ L) (hcB : cB + 310 ≤ 601024) (hsB : sB + 2110 ≤ 7293034) (hg : LAt p l e s m below meth c b D tc q0 q1 q2 i Q 1343 (cB + 310) (sB + 2110)) : LAt p l e s m below meth c b D tc q0 q1 q2 i Q 955 cB sB := by
  obtain ⟨hx, hb, hml, hown, hts, hX, hbl, hK, hT, hlT, hL⟩ := id C
  intro ad cnt X Y ln H locs ls cl sl hI hw hS hl hcl hsl
  obtain ⟨hI0, hRC0⟩ := id hI
  obtain ⟨i0, i40, i100, iFx, iOw, iN, iLn, iR, iCI, iRv, iMI⟩ := id hI0
  refine lv_aload_n hx hb dL_law_955 rfl (lv_at hl 1 rfl) ?_
  obtain ⟨a1, ea1, ga1⟩ := sc_at xs i 1
  refine l_arg (k := 1) (pc2 := 960) C hS hl hi (by omega) ea1 dL_law_956 dL_law_957 (fun h => lv_iconst (v := jI 1) hx hb dL_law_959 rfl h) dL_law_960 dL_law_961 ?_
  obtain ⟨a2, ea2, ga2⟩ := sc_at xs i 2
  refine l_arg (k := 2) (pc2 := 966) C hS hl hi (by omega) ea2 dL_law_962 dL_law_963 (fun h => lv_iconst (v := jI 2) hx hb dL_law_965 rfl h) dL_law_966 dL_law_967 ?_
  obtain ⟨a3, ea3, ga3⟩ := sc_at xs i 3
  refine l_arg (k := 3) (pc2 := 972) C hS hl hi (by omega) ea3 dL_law_968 dL_law_969 (fun h => lv_iconst (v := jI 3) hx hb dL_law_971 rfl h) dL_law_972 dL_law_973 ?_
  refine lv_aload_n hx hb dL_law_974 rfl (lv_at hl 3 rfl) ?_
  obtain ⟨h0, h40, h100, hFx, hOw, hN, hLn, hR, hCI, hRv, hMI⟩ := id hI0
  refine vx_calli (vx_runSX (As := [.ref (ad 0 0), .int (jI a1), .int (jI a2), .int (jI a3), .ref (ad 100 0)]) (rest := []) ⟨hx, hb, hml, hown, hts⟩ (c_L_itemAt l hlT D tc s.heap.size ad cnt X Y ln hR hFx hLn hCI a1 a2 a3 ga1 ga2 ga3) (vx_cwSW 5 hts gT_L_itemAt rfl rfl rfl (by decide +kernel) ⟨Nat.le_of_ble_eq_true rfl, Nat.le_of_ble_eq_true rfl⟩) ⟨PcT.blind, fun U hU hW => ⟨rfl, by rw [hU]; exact hw, hK.warm hW, by rw [hU]; exact hT.go hS hW⟩⟩ rfl rfl hl.1 (by rw [h0, h100]; rfl) (lv_room (Nat.le_of_ble_eq_true rfl)) dL_law_975 ⟨by show _ ≤ (601024 : Nat); omega, by show _ ≤ (7293034 : Nat); omega⟩) hS (fun q _ h => h) (fun q h => h) (fun q _ h => h) (fun E ce q9 u9 t H1 locs1 ht hvm hp hB hz hk1 hS1 hcell hv hcl => absurd hp id) (fun r9 u9 t9 H locs ht9 hvm9 hp9 hB9 hz9 hk9 hS => ?_)
  obtain ⟨z2, rfl, X1, rfl, hRX1, hFX1, hzX1⟩ := hp9
  rw [ht9] at hB9
  have hw := hB9
  have hI3 : LI0 q0 q1 q2 ad cnt X1 Y ln := LI0.cls hI0 hRX1 hFX1 (cinv_frm (M := [10000]) (N := []) hCI hFX1 Frm.rf (by decide) (by decide)) (by decide)
  refine lv_istore (lv' := (5, .int (jI z2)) :: LV b q0 q1 q2 i) hx hb dL_law_978 hl (by decide) rfl (fun ls hl => ?_)
  have hl : lv_has ls 8 (LV b q0 q1 q2 i) := lv_sub hl [1, 2, 3, 4, 5] rfl
  refine lv_aload_n hx hb dL_law_980 rfl (lv_at hl 2 rfl) ?_
  refine l_arg (k := 1) (pc2 := 985) C hS hl hi (by omega) ea1 dL_law_981 dL_law_982 (fun h => lv_iconst (v := jI 1) hx hb dL_law_984 rfl h) dL_law_985 dL_law_986 ?_
  refine l_arg (k := 2) (pc2 := 991) C hS hl hi (by omega) ea2 dL_law_987 dL_law_988 (fun h => lv_iconst (v := jI 2) hx hb dL_law_990 rfl h) dL_law_991 dL_law_992 ?_
  refine l_arg (k := 3) (pc2 := 997) C hS hl hi (by omega) ea3 dL_law_993 dL_law_994 (fun h => lv_iconst (v := jI 3) hx hb dL_law_996 rfl h) dL_law_997 dL_law_998 ?_
  obtain ⟨h0, h40, h100, hFx, hOw, hN, hLn, hR, hCI, hRv, hMI⟩ := id hI3
  have hc40 : cnt 40 = 1 := hFx.at 40 1 (by decide)
  refine gos_l (run_V (k := 40) (i := 0) (As := [.int (jI a1), .int (jI a2), .int (jI a3)]) (rest := []) hx hb hml hown hts (c_X9_itemAt l D tc s.heap.size ad cnt X1 Y ln hR hFx hMI a1 a2 a3 ga1 ga2 ga3) (cwV 3 hts gT_X9_itemAt rfl rfl rfl (by first | exact hd_X9_itemAt | decide +kernel) ⟨Nat.le_of_ble_eq_true rfl, Nat.le_of_ble_eq_true rfl⟩) hK hw (by first | exact Int.le_refl 0 | omega) (by first | exact zlt hc40 | omega) sl_40_0 rfl rfl hl.1 (by rw [h40]; rfl) (Nat.le_of_ble_eq_true rfl) dL_law_999 ⟨by show _ ≤ (601024 : Nat); omega, by show _ ≤ (7293034 : Nat); omega⟩) hS (fun z4 u5 H locs p6 hw hS => ?_)
  obtain ⟨X7, rfl, hRX7, hFX7, hMX7, hzX7, pX7⟩ := p6
  have hI8 : LI0 q0 q1 q2 ad cnt X7 Y ln := LI0.mdl hI3 hRX7 hFX7 hMX7 (by decide)
  refine lv_lstore (lv' := (6, .long (jL z4)) :: LV b q0 q1 q2 i) hx hb dL_law_1002 hl (by decide) rfl (fun ls hl => ?_)
  have hl : lv_has ls 8 (LV b q0 q1 q2 i) := lv_sub hl [1, 2, 3, 4, 5] rfl
  have hRC : RC cnt X7 Y ln := RC.two hRC0 hFX1 hFX7 (by decide) (by decide) (by decide) (by decide)
  refine lv_goto (tgt := 1343) hx hb dL_law_1004 (by decide) ?_
  exact hg _ _ _ _ _ H locs ls _ _ ⟨hI8, hRC⟩ hw hS hl (by omega) (by omega)

set_option maxHeartbeats 4000000 in
set_option maxRecDepth 100000 in
theorem law_c15 {p : Program} {l : Launch} {e : Env} {s : State} {m : MethodId} {below : List Frame} {meth : Method} {c : Code} {b L : Nat} {xs : Nat → Int32} {D : va_G} {tc : Nat → ClassId} {Q : State → Prop} {q0 q1 q2 cB sB : Nat} {i : Int} (C : LK p l s m c b L xs D tc) (hi : 0 ≤ i ∧ i + 7 ≤ L) (hcB : cB + 310 ≤ 601024) (hsB : sB + 2110 ≤ 7293034) (hg : LAt p l e s m below meth c b D tc q0 q1 q2 i Q 1343 (cB + 310) (sB + 2110)) : LAt p l e s m below meth c b D tc q0 q1 q2 i Q 1007 cB sB := by
  obtain ⟨hx, hb, hml, hown, hts, hX, hbl, hK, hT, hlT, hL⟩ := id C
  intro ad cnt X Y ln H locs ls cl sl hI hw hS hl hcl hsl
  obtain ⟨hI0, hRC0⟩ := id hI
  obtain ⟨i0, i40, i100, iFx, iOw, iN, iLn, iR, iCI, iRv, iMI⟩ := id hI0
  refine lv_aload_n hx hb dL_law_1007 rfl (lv_at hl 1 rfl) ?_
  obtain ⟨h0, h40, h100, hFx, hOw, hN, hLn, hR, hCI, hRv, hMI⟩ := id hI0
  have hc0 : cnt 0 = 1 := hFx.at 0 1 (by decide)
  refine gos_i (run_V (k := 0) (i := 0) (As := []) (rest := []) hx hb hml hown hts (c_X8_forget l D tc s.heap.size ad cnt X Y ln hR hFx hLn hCI) (cwV 0 hts gT_X8_forget rfl rfl rfl (by first | exact hd_X8_forget | decide +kernel) ⟨Nat.le_of_ble_eq_true rfl, Nat.le_of_ble_eq_true rfl⟩) hK hw (by first | exact Int.le_refl 0 | omega) (by first | exact zlt hc0 | omega) sl_0_0 rfl rfl hl.1 (by rw [h0]; rfl) (Nat.le_of_ble_eq_true rfl) dL_law_1008 ⟨by show _ ≤ (601024 : Nat); omega, by show _ ≤ (7293034 : Nat); omega⟩) hS (fun z1 u2 H locs p3 hw hS => ?_)
  obtain ⟨X4, rfl, hRX4, hFX4, hCX4, hzX4, pX4⟩ := p3
  have hI5 : LI0 q0 q1 q2 ad cnt X4 Y ln := LI0.cls hI0 hRX4 hFX4 hCX4 (by decide)
  refine lv_pop hx hb dL_law_1011 rfl ?_
  refine lv_aload_n hx hb dL_law_1012 rfl (lv_at hl 2 rfl) ?_
  obtain ⟨h0, h40, h100, hFx, hOw, hN, hLn, hR, hCI, hRv, hMI⟩ := id hI5
  have hc40 : cnt 40 = 1 := hFx.at 40 1 (by decide)
  refine gos_i (run_V (k := 40) (i := 0) (As := []) (rest := []) hx hb hml hown hts (c_X9_forget l D tc s.heap.size ad cnt X4 Y ln hR hFx hMI) (cwV 0 hts gT_X9_forget rfl rfl rfl (by first | exact hd_X9_forget | decide +kernel) ⟨Nat.le_of_ble_eq_true rfl, Nat.le_of_ble_eq_true rfl⟩) hK hw (by first | exact Int.le_refl 0 | omega) (by first | exact zlt hc40 | omega) sl_40_0 rfl rfl hl.1 (by rw [h40]; rfl) (Nat.le_of_ble_eq_true rfl) dL_law_1013 ⟨by show _ ≤ (601024 : Nat); omega, by show _ ≤ (7293034 : Nat); omega⟩) hS (fun z6 u7 H locs p8 hw hS => ?_)
  obtain ⟨X9, rfl, hRX9, hFX9, hMX9, hzX9, pX9⟩ := p8
  have hI10 : LI0 q0 q1 q2 ad cnt X9 Y ln := LI0.mdl hI5 hRX9 hFX9 hMX9 (by decide)
  refine lv_pop hx hb dL_law_1016 rfl ?_
  obtain ⟨hRC, hq9⟩ := J_forget hRC0 iMI iR hRX4 iLn iN hFX4 pX4 hFX9 hMX9 pX9
  refine lv_goto (tgt := 1343) hx hb dL_law_1017 (by decide) ?_
  exact hg _ _ _ _ _ H locs ls _ _ ⟨hI10, hRC⟩ hw hS hl (by omega) (by omega)

set_option maxHeartbeats 4000000 in
set_option maxRecDepth 100000 in
theorem law_c16 {p : Program} {l : Launch} {e : Env} {s : State} {m : MethodId} {below : List Frame} {meth : Method} {c : Code} {b L : Nat} {xs : Nat → Int32} {D : va_G} {tc : Nat → ClassId} {Q : State → Prop} {q0 q1 q2 cB sB : Nat} {i : Int} (C : LK p l s m c b L xs D tc) (hi : 0 ≤ i ∧ i + 7 ≤ L) (hcB : cB + 310 ≤ 601024) (hsB : sB + 2110 ≤ 7293034) (hg : LAt p l e s m below meth c b D tc q0 q1 q2 i Q 1343 (cB + 310) (sB + 2110)) : LAt p l e s m below meth c b D tc q0 q1 q2 i Q 1020 cB sB := by
  obtain ⟨hx, hb, hml, hown, hts, hX, hbl, hK, hT, hlT, hL⟩ := id C
  intro ad cnt X Y ln H locs ls cl sl hI hw hS hl hcl hsl
  obtain ⟨hI0, hRC0⟩ := id hI
  obtain ⟨i0, i40, i100, iFx, iOw, iN, iLn, iR, iCI, iRv, iMI⟩ := id hI0
  refine lv_aload_n hx hb dL_law_1020 rfl (lv_at hl 1 rfl) ?_
  obtain ⟨a1, ea1, ga1⟩ := sc_at xs i 1
  refine l_arg (k := 1) (pc2 := 1025) C hS hl hi (by omega) ea1 dL_law_1021 dL_law_1022 (fun h => lv_iconst (v := jI 1) hx hb dL_law_1024 rfl h) dL_law_1025 dL_law_1026 ?_
  obtain ⟨a2, ea2, ga2⟩ := sc_at xs i 2
  refine l_arg (k := 2) (pc2 := 1031) C hS hl hi (by omega) ea2 dL_law_1027 dL_law_1028 (fun h => lv_iconst (v := jI 2) hx hb dL_law_1030 rfl h) dL_law_1031 dL_law_1032 ?_
  obtain ⟨h0, h40, h100, hFx, hOw, hN, hLn, hR, hCI, hRv, hMI⟩ := id hI0
  have hc0 : cnt 0 = 1 := hFx.at 0 1 (by decide)
  refine gos_i (run_V (k := 0) (i := 0) (As := [.int (jI a1), .int (jI a2)]) (rest := []) hx hb hml hown hts (c_X8_told l D tc s.heap.size ad cnt X Y ln hR hFx hLn hCI a1 a2 ga1 ga2) (cwV 2 hts gT_X8_told rfl rfl rfl (by first | exact hd_X8_told | decide +kernel) ⟨Nat.le_of_ble_eq_true rfl, Nat.le_of_ble_eq_true rfl⟩) hK hw (by first | exact Int.le_refl 0 | omega) (by first | exact zlt hc0 | omega) sl_0_0 rfl rfl hl.1 (by rw [h0]; rfl) (Nat.le_of_ble_eq_true rfl) dL_law_1033 ⟨by show _ ≤ (601024 : Nat); omega, by show _ ≤ (7293034 : Nat); omega⟩) hS (fun z1 u2 H locs p3 hw hS => ?_)
  obtain ⟨X4, rfl, hRX4, hFX4, hCX4, hzX4, pX4⟩ := p3
  have hI5 : LI0 q0 q1 q2 ad cnt X4 Y ln := LI0.cls hI0 hRX4 hFX4 hCX4 (by decide)
  refine lv_pop hx hb dL_law_1036 rfl ?_
  refine lv_aload_n hx hb dL_law_1037 rfl (lv_at hl 2 rfl) ?_
  refine l_arg (k := 1) (pc2 := 1042) C hS hl hi (by omega) ea1 dL_law_1038 dL_law_1039 (fun h => lv_iconst (v := jI 1) hx hb dL_law_1041 rfl h) dL_law_1042 dL_law_1043 ?_
  refine l_arg (k := 2) (pc2 := 1048) C hS hl hi (by omega) ea2 dL_law_1044 dL_law_1045 (fun h => lv_iconst (v := jI 2) hx hb dL_law_1047 rfl h) dL_law_1048 dL_law_1049 ?_
  obtain ⟨h0, h40, h100, hFx, hOw, hN, hLn, hR, hCI, hRv, hMI⟩ := id hI5
  have hc40 : cnt 40 = 1 := hFx.at 40 1 (by decide)
  refine gos_i (run_V (k := 40) (i := 0) (As := [.int (jI a1), .int (jI a2)]) (rest := []) hx hb hml hown hts (c_X9_told l D tc s.heap.size ad cnt X4 Y ln hR hFx hMI a1 a2 ga1 ga2) (cwV 2 hts gT_X9_told rfl rfl rfl (by first | exact hd_X9_told | decide +kernel) ⟨Nat.le_of_ble_eq_true rfl, Nat.le_of_ble_eq_true rfl⟩) hK hw (by first | exact Int.le_refl 0 | omega) (by first | exact zlt hc40 | omega) sl_40_0 rfl rfl hl.1 (by rw [h40]; rfl) (Nat.le_of_ble_eq_true rfl) dL_law_1050 ⟨by show _ ≤ (601024 : Nat); omega, by show _ ≤ (7293034 : Nat); omega⟩) hS (fun z6 u7 H locs p8 hw hS => ?_)
  obtain ⟨X9, rfl, hRX9, hFX9, hMX9, hzX9, pX9⟩ := p8
  have hI10 : LI0 q0 q1 q2 ad cnt X9 Y ln := LI0.mdl hI5 hRX9 hFX9 hMX9 (by decide)
  refine lv_pop hx hb dL_law_1053 rfl ?_
  obtain ⟨hRC, hq9⟩ := J_told hRC0 iMI iR hRX4 iLn iN hFX4 pX4 hFX9 hMX9 pX9
  refine lv_goto (tgt := 1343) hx hb dL_law_1054 (by decide) ?_
  exact hg _ _ _ _ _ H locs ls _ _ ⟨hI10, hRC⟩ hw hS hl (by omega) (by omega)

set_option maxHeartbeats 4000000 in
set_option maxRecDepth 100000 in
theorem law_c17 {p : Program} {l : Launch} {e : Env} {s : State} {m : MethodId} {below : List Frame} {meth : Method} {c : Code} {b L : Nat} {xs : Nat → Int32} {D : va_G} {tc : Nat → ClassId} {Q : State → Prop} {q0 q1 q2 cB sB : Nat} {i : Int} (C : LK p l s m c b L xs D tc) (hi : 0 ≤ i ∧ i + 7 ≤ L) (hcB : cB + 310 ≤ 601024) (hsB : sB + 2110 ≤ 7293034) (hg : LAt p l e s m below meth c b D tc q0 q1 q2 i Q 1343 (cB + 310) (sB + 2110)) : LAt p l e s m below meth c b D tc q0 q1 q2 i Q 1057 cB sB := by
  obtain ⟨hx, hb, hml, hown, hts, hX, hbl, hK, hT, hlT, hL⟩ := id C
  intro ad cnt X Y ln H locs ls cl sl hI hw hS hl hcl hsl
  obtain ⟨hI0, hRC0⟩ := id hI
  obtain ⟨i0, i40, i100, iFx, iOw, iN, iLn, iR, iCI, iRv, iMI⟩ := id hI0
  refine lv_aload_n hx hb dL_law_1057 rfl (lv_at hl 1 rfl) ?_
  obtain ⟨a1, ea1, ga1⟩ := sc_at xs i 1
  refine l_arg (k := 1) (pc2 := 1062) C hS hl hi (by omega) ea1 dL_law_1058 dL_law_1059 (fun h => lv_iconst (v := jI 1) hx hb dL_law_1061 rfl h) dL_law_1062 dL_law_1063 ?_
  obtain ⟨h0, h40, h100, hFx, hOw, hN, hLn, hR, hCI, hRv, hMI⟩ := id hI0
  have hc0 : cnt 0 = 1 := hFx.at 0 1 (by decide)
  refine gos_i (run_V (k := 0) (i := 0) (As := [.int (jI a1)]) (rest := []) hx hb hml hown hts (c_X8_judge l D tc s.heap.size ad cnt X Y ln hR hFx hLn hCI a1 ga1) (cwV 1 hts gT_X8_judge rfl rfl rfl (by first | exact hd_X8_judge | decide +kernel) ⟨Nat.le_of_ble_eq_true rfl, Nat.le_of_ble_eq_true rfl⟩) hK hw (by first | exact Int.le_refl 0 | omega) (by first | exact zlt hc0 | omega) sl_0_0 rfl rfl hl.1 (by rw [h0]; rfl) (Nat.le_of_ble_eq_true rfl) dL_law_1064 ⟨by show _ ≤ (601024 : Nat); omega, by show _ ≤ (7293034 : Nat); omega⟩) hS (fun z1 u2 H locs p3 hw hS => ?_)
  obtain ⟨X4, rfl, hRX4, hFX4, hCX4, hzX4, pX4⟩ := p3
  have hI5 : LI0 q0 q1 q2 ad cnt X4 Y ln := LI0.cls hI0 hRX4 hFX4 hCX4 (by decide)
  refine lv_pop hx hb dL_law_1067 rfl ?_
  refine lv_aload_n hx hb dL_law_1068 rfl (lv_at hl 2 rfl) ?_
  refine l_arg (k := 1) (pc2 := 1073) C hS hl hi (by omega) ea1 dL_law_1069 dL_law_1070 (fun h => lv_iconst (v := jI 1) hx hb dL_law_1072 rfl h) dL_law_1073 dL_law_1074 ?_
  obtain ⟨h0, h40, h100, hFx, hOw, hN, hLn, hR, hCI, hRv, hMI⟩ := id hI5
  have hc40 : cnt 40 = 1 := hFx.at 40 1 (by decide)
  refine gos_i (run_V (k := 40) (i := 0) (As := [.int (jI a1)]) (rest := []) hx hb hml hown hts (c_X9_judge l D tc s.heap.size ad cnt X4 Y ln hR hFx hMI a1 ga1) (cwV 1 hts gT_X9_judge rfl rfl rfl (by first | exact hd_X9_judge | decide +kernel) ⟨Nat.le_of_ble_eq_true rfl, Nat.le_of_ble_eq_true rfl⟩) hK hw (by first | exact Int.le_refl 0 | omega) (by first | exact zlt hc40 | omega) sl_40_0 rfl rfl hl.1 (by rw [h40]; rfl) (Nat.le_of_ble_eq_true rfl) dL_law_1075 ⟨by show _ ≤ (601024 : Nat); omega, by show _ ≤ (7293034 : Nat); omega⟩) hS (fun z6 u7 H locs p8 hw hS => ?_)
  obtain ⟨X9, rfl, hRX9, hFX9, hMX9, hzX9, pX9⟩ := p8
  have hI10 : LI0 q0 q1 q2 ad cnt X9 Y ln := LI0.mdl hI5 hRX9 hFX9 hMX9 (by decide)
  refine lv_pop hx hb dL_law_1078 rfl ?_
  obtain ⟨hRC, hq9⟩ := J_judge hRC0 iMI iR hRX4 iLn iN hFX4 pX4 hFX9 hMX9 pX9 iCI
  refine lv_goto (tgt := 1343) hx hb dL_law_1079 (by decide) ?_
  exact hg _ _ _ _ _ H locs ls _ _ ⟨hI10, hRC⟩ hw hS hl (by omega) (by omega)

set_option maxHeartbeats 4000000 in
set_option maxRecDepth 100000 in
theorem law_c18 {p : Program} {l : Launch} {e : Env} {s : State} {m : MethodId} {below : List Frame} {meth : Method} {c : Code} {b L : Nat} {xs : Nat → Int32} {D : va_G} {tc : Nat → ClassId} {Q : State → Prop} {q0 q1 q2 cB sB : Nat} {i : Int} (C : LK p l s m c b L xs D tc) (hi : 0 ≤ i ∧ i + 7 ≤ L) (hcB : cB + 310 ≤ 601024) (hsB : sB + 2110 ≤ 7293034) (hg : LAt p l e s m below meth c b D tc q0 q1 q2 i Q 1343 (cB + 310) (sB + 2110)) : LAt p l e s m below meth c b D tc q0 q1 q2 i Q 1082 cB sB := by
  obtain ⟨hx, hb, hml, hown, hts, hX, hbl, hK, hT, hlT, hL⟩ := id C
  intro ad cnt X Y ln H locs ls cl sl hI hw hS hl hcl hsl
  obtain ⟨hI0, hRC0⟩ := id hI
  obtain ⟨i0, i40, i100, iFx, iOw, iN, iLn, iR, iCI, iRv, iMI⟩ := id hI0
  refine lv_aload_n hx hb dL_law_1082 rfl (lv_at hl 1 rfl) ?_
  obtain ⟨a1, ea1, ga1⟩ := sc_at xs i 1
  refine l_arg (k := 1) (pc2 := 1087) C hS hl hi (by omega) ea1 dL_law_1083 dL_law_1084 (fun h => lv_iconst (v := jI 1) hx hb dL_law_1086 rfl h) dL_law_1087 dL_law_1088 ?_
  obtain ⟨a2, ea2, ga2⟩ := sc_at xs i 2
  refine l_arg (k := 2) (pc2 := 1093) C hS hl hi (by omega) ea2 dL_law_1089 dL_law_1090 (fun h => lv_iconst (v := jI 2) hx hb dL_law_1092 rfl h) dL_law_1093 dL_law_1094 ?_
  obtain ⟨h0, h40, h100, hFx, hOw, hN, hLn, hR, hCI, hRv, hMI⟩ := id hI0
  have hc0 : cnt 0 = 1 := hFx.at 0 1 (by decide)
  refine gos_i (run_V (k := 0) (i := 0) (As := [.int (jI a1), .int (jI a2)]) (rest := []) hx hb hml hown hts (c_X8_save l D tc s.heap.size ad cnt X Y ln hR hFx hLn hCI hRv a1 a2 ga1 ga2) (cwV 2 hts gT_X8_save rfl rfl rfl (by first | exact hd_X8_save | decide +kernel) ⟨Nat.le_of_ble_eq_true rfl, Nat.le_of_ble_eq_true rfl⟩) hK hw (by first | exact Int.le_refl 0 | omega) (by first | exact zlt hc0 | omega) sl_0_0 rfl rfl hl.1 (by rw [h0]; rfl) (Nat.le_of_ble_eq_true rfl) dL_law_1095 ⟨by show _ ≤ (601024 : Nat); omega, by show _ ≤ (7293034 : Nat); omega⟩) hS (fun z1 u2 H locs p3 hw hS => ?_)
  obtain ⟨X4, Y6, rfl, hRX4, hFX4, hHX4, hCX4, hzX4, pX4⟩ := p3
  have hVX4 := pX4.1
  have hI5 : LI0 q0 q1 q2 ad cnt X4 Y6 ln := LI0.clsR hI0 hRX4 hFX4 hCX4 hVX4 (by decide)
  refine lv_pop hx hb dL_law_1098 rfl ?_
  refine lv_aload_n hx hb dL_law_1099 rfl (lv_at hl 2 rfl) ?_
  refine l_arg (k := 1) (pc2 := 1104) C hS hl hi (by omega) ea1 dL_law_1100 dL_law_1101 (fun h => lv_iconst (v := jI 1) hx hb dL_law_1103 rfl h) dL_law_1104 dL_law_1105 ?_
  refine l_arg (k := 2) (pc2 := 1110) C hS hl hi (by omega) ea2 dL_law_1106 dL_law_1107 (fun h => lv_iconst (v := jI 2) hx hb dL_law_1109 rfl h) dL_law_1110 dL_law_1111 ?_
  obtain ⟨h0, h40, h100, hFx, hOw, hN, hLn, hR, hCI, hRv, hMI⟩ := id hI5
  have hc40 : cnt 40 = 1 := hFx.at 40 1 (by decide)
  refine gos_i (run_V (k := 40) (i := 0) (As := [.int (jI a1), .int (jI a2)]) (rest := []) hx hb hml hown hts (c_X9_save l D tc s.heap.size ad cnt X4 Y6 ln hR hFx hMI a1 a2 ga1 ga2) (cwV 2 hts gT_X9_save rfl rfl rfl (by first | exact hd_X9_save | decide +kernel) ⟨Nat.le_of_ble_eq_true rfl, Nat.le_of_ble_eq_true rfl⟩) hK hw (by first | exact Int.le_refl 0 | omega) (by first | exact zlt hc40 | omega) sl_40_0 rfl rfl hl.1 (by rw [h40]; rfl) (Nat.le_of_ble_eq_true rfl) dL_law_1112 ⟨by show _ ≤ (601024 : Nat); omega, by show _ ≤ (7293034 : Nat); omega⟩) hS (fun z7 u8 H locs p9 hw hS => ?_)
  obtain ⟨X10, rfl, hRX10, hFX10, hMX10, hzX10, pX10⟩ := p9
  have hI11 : LI0 q0 q1 q2 ad cnt X10 Y6 ln := LI0.mdl hI5 hRX10 hFX10 hMX10 (by decide)
  refine lv_pop hx hb dL_law_1115 rfl ?_
  obtain ⟨hRC, hq9⟩ := J_save hRC0 iMI iR hRX4 iLn iN hFX4 hHX4 pX4 hFX10 hMX10 pX10 hRX10
  refine lv_goto (tgt := 1343) hx hb dL_law_1116 (by decide) ?_
  exact hg _ _ _ _ _ H locs ls _ _ ⟨hI11, hRC⟩ hw hS hl (by omega) (by omega)

set_option maxHeartbeats 4000000 in
set_option maxRecDepth 100000 in
theorem law_c19 {p : Program} {l : Launch} {e : Env} {s : State} {m : MethodId} {below : List Frame} {meth : Method} {c : Code} {b L : Nat} {xs : Nat → Int32} {D : va_G} {tc : Nat → ClassId} {Q : State → Prop} {q0 q1 q2 cB sB : Nat} {i : Int} (C : LK p l s m c b L xs D tc) (hi : 0 ≤ i ∧ i + 7 ≤ L) (hcB : cB + 310 ≤ 601024) (hsB : sB + 2110 ≤ 7293034) (hg : LAt p l e s m below meth c b D tc q0 q1 q2 i Q 1343 (cB + 310) (sB + 2110)) : LAt p l e s m below meth c b D tc q0 q1 q2 i Q 1119 cB sB := by
  obtain ⟨hx, hb, hml, hown, hts, hX, hbl, hK, hT, hlT, hL⟩ := id C
  intro ad cnt X Y ln H locs ls cl sl hI hw hS hl hcl hsl
  obtain ⟨hI0, hRC0⟩ := id hI
  obtain ⟨i0, i40, i100, iFx, iOw, iN, iLn, iR, iCI, iRv, iMI⟩ := id hI0
  refine lv_aload_n hx hb dL_law_1119 rfl (lv_at hl 1 rfl) ?_
  obtain ⟨a1, ea1, ga1⟩ := sc_at xs i 1
  refine l_arg (k := 1) (pc2 := 1124) C hS hl hi (by omega) ea1 dL_law_1120 dL_law_1121 (fun h => lv_iconst (v := jI 1) hx hb dL_law_1123 rfl h) dL_law_1124 dL_law_1125 ?_
  obtain ⟨a2, ea2, ga2⟩ := sc_at xs i 2
  refine l_arg (k := 2) (pc2 := 1130) C hS hl hi (by omega) ea2 dL_law_1126 dL_law_1127 (fun h => lv_iconst (v := jI 2) hx hb dL_law_1129 rfl h) dL_law_1130 dL_law_1131 ?_
  obtain ⟨h0, h40, h100, hFx, hOw, hN, hLn, hR, hCI, hRv, hMI⟩ := id hI0
  have hc0 : cnt 0 = 1 := hFx.at 0 1 (by decide)
  refine gos_i (run_V (k := 0) (i := 0) (As := [.int (jI a1), .int (jI a2)]) (rest := []) hx hb hml hown hts (c_X8_saved l D tc s.heap.size ad cnt X Y ln hR hFx hLn hCI a1 a2 ga1 ga2) (cwV 2 hts gT_X8_saved rfl rfl rfl (by first | exact hd_X8_saved | decide +kernel) ⟨Nat.le_of_ble_eq_true rfl, Nat.le_of_ble_eq_true rfl⟩) hK hw (by first | exact Int.le_refl 0 | omega) (by first | exact zlt hc0 | omega) sl_0_0 rfl rfl hl.1 (by rw [h0]; rfl) (Nat.le_of_ble_eq_true rfl) dL_law_1132 ⟨by show _ ≤ (601024 : Nat); omega, by show _ ≤ (7293034 : Nat); omega⟩) hS (fun z1 u2 H locs p3 hw hS => ?_)
  obtain ⟨X4, rfl, hRX4, hFX4, hCX4, hzX4, pX4⟩ := p3
  have hI5 : LI0 q0 q1 q2 ad cnt X4 Y ln := LI0.cls hI0 hRX4 hFX4 hCX4 (by decide)
  refine lv_pop hx hb dL_law_1135 rfl ?_
  refine lv_aload_n hx hb dL_law_1136 rfl (lv_at hl 2 rfl) ?_
  refine l_arg (k := 1) (pc2 := 1141) C hS hl hi (by omega) ea1 dL_law_1137 dL_law_1138 (fun h => lv_iconst (v := jI 1) hx hb dL_law_1140 rfl h) dL_law_1141 dL_law_1142 ?_
  refine l_arg (k := 2) (pc2 := 1147) C hS hl hi (by omega) ea2 dL_law_1143 dL_law_1144 (fun h => lv_iconst (v := jI 2) hx hb dL_law_1146 rfl h) dL_law_1147 dL_law_1148 ?_
  obtain ⟨h0, h40, h100, hFx, hOw, hN, hLn, hR, hCI, hRv, hMI⟩ := id hI5
  have hc40 : cnt 40 = 1 := hFx.at 40 1 (by decide)
  refine gos_i (run_V (k := 40) (i := 0) (As := [.int (jI a1), .int (jI a2)]) (rest := []) hx hb hml hown hts (c_X9_saved l D tc s.heap.size ad cnt X4 Y ln hR hFx hMI a1 a2 ga1 ga2) (cwV 2 hts gT_X9_saved rfl rfl rfl (by first | exact hd_X9_saved | decide +kernel) ⟨Nat.le_of_ble_eq_true rfl, Nat.le_of_ble_eq_true rfl⟩) hK hw (by first | exact Int.le_refl 0 | omega) (by first | exact zlt hc40 | omega) sl_40_0 rfl rfl hl.1 (by rw [h40]; rfl) (Nat.le_of_ble_eq_true rfl) dL_law_1149 ⟨by show _ ≤ (601024 : Nat); omega, by show _ ≤ (7293034 : Nat); omega⟩) hS (fun z6 u7 H locs p8 hw hS => ?_)
  obtain ⟨X9, rfl, hRX9, hFX9, hMX9, hzX9, pX9⟩ := p8
  have hI10 : LI0 q0 q1 q2 ad cnt X9 Y ln := LI0.mdl hI5 hRX9 hFX9 hMX9 (by decide)
  refine lv_pop hx hb dL_law_1152 rfl ?_
  obtain ⟨hRC, hq9⟩ := J_saved hRC0 iMI iR hRX4 iLn iN hFX4 pX4 hFX9 hMX9 pX9
  refine lv_goto (tgt := 1343) hx hb dL_law_1153 (by decide) ?_
  exact hg _ _ _ _ _ H locs ls _ _ ⟨hI10, hRC⟩ hw hS hl (by omega) (by omega)

set_option maxHeartbeats 4000000 in
set_option maxRecDepth 100000 in
theorem law_c20 {p : Program} {l : Launch} {e : Env} {s : State} {m : MethodId} {below : List Frame} {meth : Method} {c : Code} {b L : Nat} {xs : Nat → Int32} {D : va_G} {tc : Nat → ClassId} {Q : State → Prop} {q0 q1 q2 cB sB : Nat} {i : Int} (C : LK p l s m c b L xs D tc) (hi : 0 ≤ i ∧ i + 7 ≤ L) (hcB : cB + 310 ≤ 601024) (hsB : sB + 2110 ≤ 7293034) (hg : LAt p l e s m below meth c b D tc q0 q1 q2 i Q 1343 (cB + 310) (sB + 2110)) : LAt p l e s m below meth c b D tc q0 q1 q2 i Q 1156 cB sB := by
  obtain ⟨hx, hb, hml, hown, hts, hX, hbl, hK, hT, hlT, hL⟩ := id C
  intro ad cnt X Y ln H locs ls cl sl hI hw hS hl hcl hsl
  obtain ⟨hI0, hRC0⟩ := id hI
  obtain ⟨i0, i40, i100, iFx, iOw, iN, iLn, iR, iCI, iRv, iMI⟩ := id hI0
  refine lv_aload_n hx hb dL_law_1156 rfl (lv_at hl 1 rfl) ?_
  obtain ⟨a1, ea1, ga1⟩ := sc_at xs i 1
  refine l_arg (k := 1) (pc2 := 1161) C hS hl hi (by omega) ea1 dL_law_1157 dL_law_1158 (fun h => lv_iconst (v := jI 1) hx hb dL_law_1160 rfl h) dL_law_1161 dL_law_1162 ?_
  obtain ⟨a2, ea2, ga2⟩ := sc_at xs i 2
  refine l_arg (k := 2) (pc2 := 1167) C hS hl hi (by omega) ea2 dL_law_1163 dL_law_1164 (fun h => lv_iconst (v := jI 2) hx hb dL_law_1166 rfl h) dL_law_1167 dL_law_1168 ?_
  obtain ⟨h0, h40, h100, hFx, hOw, hN, hLn, hR, hCI, hRv, hMI⟩ := id hI0
  have hc0 : cnt 0 = 1 := hFx.at 0 1 (by decide)
  refine gos_i (run_V (k := 0) (i := 0) (As := [.int (jI a1), .int (jI a2)]) (rest := []) hx hb hml hown hts (c_X8_restore l D tc s.heap.size ad cnt X Y ln hR hFx hLn hCI hOw hN a1 a2 ga1 ga2 hRv) (cwV 2 hts gT_X8_restore rfl rfl rfl (by first | exact hd_X8_restore | decide +kernel) ⟨Nat.le_of_ble_eq_true rfl, Nat.le_of_ble_eq_true rfl⟩) hK hw (by first | exact Int.le_refl 0 | omega) (by first | exact zlt hc0 | omega) sl_0_0 rfl rfl hl.1 (by rw [h0]; rfl) (Nat.le_of_ble_eq_true rfl) dL_law_1169 ⟨by show _ ≤ (601024 : Nat); omega, by show _ ≤ (7293034 : Nat); omega⟩) hS (fun z1 u2 H locs p3 hw hS => ?_)
  obtain ⟨ad6, cnt7, X4, Y8, ln9, rfl, hEX4, hFxX4, hOwX4, hLnX4, hRX4, hFX4, hHX4, hCX4, hzX4, pX4⟩ := p3
  have hI5 : LI0 q0 q1 q2 ad6 cnt7 X4 Y8 ln9 := LI0.grow hI0 hEX4 hFxX4 hOwX4 hLnX4 hRX4 hFX4 hCX4 (by decide)
  refine lv_pop hx hb dL_law_1172 rfl ?_
  refine lv_aload_n hx hb dL_law_1173 rfl (lv_at hl 2 rfl) ?_
  refine l_arg (k := 1) (pc2 := 1178) C hS hl hi (by omega) ea1 dL_law_1174 dL_law_1175 (fun h => lv_iconst (v := jI 1) hx hb dL_law_1177 rfl h) dL_law_1178 dL_law_1179 ?_
  refine l_arg (k := 2) (pc2 := 1184) C hS hl hi (by omega) ea2 dL_law_1180 dL_law_1181 (fun h => lv_iconst (v := jI 2) hx hb dL_law_1183 rfl h) dL_law_1184 dL_law_1185 ?_
  obtain ⟨h0, h40, h100, hFx, hOw, hN, hLn, hR, hCI, hRv, hMI⟩ := id hI5
  have hc40 : cnt7 40 = 1 := hFx.at 40 1 (by decide)
  refine gos_i (run_V (k := 40) (i := 0) (As := [.int (jI a1), .int (jI a2)]) (rest := []) hx hb hml hown hts (c_X9_restore l D tc s.heap.size ad6 cnt7 X4 Y8 ln9 hR hFx hMI a1 a2 ga1 ga2) (cwV 2 hts gT_X9_restore rfl rfl rfl (by first | exact hd_X9_restore | decide +kernel) ⟨Nat.le_of_ble_eq_true rfl, Nat.le_of_ble_eq_true rfl⟩) hK hw (by first | exact Int.le_refl 0 | omega) (by first | exact zlt hc40 | omega) sl_40_0 rfl rfl hl.1 (by rw [h40]; rfl) (Nat.le_of_ble_eq_true rfl) dL_law_1186 ⟨by show _ ≤ (601024 : Nat); omega, by show _ ≤ (7293034 : Nat); omega⟩) hS (fun z10 u11 H locs p12 hw hS => ?_)
  obtain ⟨X13, rfl, hRX13, hFX13, hMX13, hzX13, pX13⟩ := p12
  have hI14 : LI0 q0 q1 q2 ad6 cnt7 X13 Y8 ln9 := LI0.mdl hI5 hRX13 hFX13 hMX13 (by decide)
  refine lv_pop hx hb dL_law_1189 rfl ?_
  obtain ⟨hRC, hq9⟩ := J_restore hRC0 iMI iR hRX4 iLn iN hFX4 hHX4 hEX4.2.1 hEX4.2.2 hLnX4 pX4 hFX13 hMX13 pX13 hRX13 iCI
  refine lv_goto (tgt := 1343) hx hb dL_law_1190 (by decide) ?_
  exact hg _ _ _ _ _ H locs ls _ _ ⟨hI14, hRC⟩ hw hS hl (by omega) (by omega)
end
section
set_option maxHeartbeats 4000000 in
set_option maxRecDepth 100000 in
theorem law_c21 {p : Program} {l : Launch} {e : Env} {s : State} {m : MethodId} {below : List Frame} {meth : Method} {c : Code} {b L : Nat} {xs : Nat → Int32} {D : va_G} {tc : Nat → ClassId} {Q : State → Prop} {q0 q1 q2 cB sB : Nat} {i : Int} (C : LK p l s m c b L xs D tc) (hi : 0 ≤ i ∧ i + 7 ≤ L) (hcB : cB + 310 ≤ 601024) (hsB : sB + 2110 ≤ 7293034) (hg : LAt p l e s m below meth c b D tc q0 q1 q2 i Q 1343 (cB + 310) (sB + 2110)) : LAt p l e s m below meth c b D tc q0 q1 q2 i Q 1193 cB sB := by
  obtain ⟨hx, hb, hml, hown, hts, hX, hbl, hK, hT, hlT, hL⟩ := id C
  intro ad cnt X Y ln H locs ls cl sl hI hw hS hl hcl hsl
  obtain ⟨hI0, hRC0⟩ := id hI
  obtain ⟨i0, i40, i100, iFx, iOw, iN, iLn, iR, iCI, iRv, iMI⟩ := id hI0
  refine lv_aload_n hx hb dL_law_1193 rfl (lv_at hl 1 rfl) ?_
  obtain ⟨a1, ea1, ga1⟩ := sc_at xs i 1
  refine l_arg (k := 1) (pc2 := 1198) C hS hl hi (by omega) ea1 dL_law_1194 dL_law_1195 (fun h => lv_iconst (v := jI 1) hx hb dL_law_1197 rfl h) dL_law_1198 dL_law_1199 ?_
  obtain ⟨h0, h40, h100, hFx, hOw, hN, hLn, hR, hCI, hRv, hMI⟩ := id hI0
  have hc0 : cnt 0 = 1 := hFx.at 0 1 (by decide)
  refine gos_i (run_V (k := 0) (i := 0) (As := [.int (jI a1)]) (rest := []) hx hb hml hown hts (c_X8_fault l D tc s.heap.size ad cnt X Y ln hR hFx hLn hCI a1 ga1) (cwV 1 hts gT_X8_fault rfl rfl rfl (by first | exact hd_X8_fault | decide +kernel) ⟨Nat.le_of_ble_eq_true rfl, Nat.le_of_ble_eq_true rfl⟩) hK hw (by first | exact Int.le_refl 0 | omega) (by first | exact zlt hc0 | omega) sl_0_0 rfl rfl hl.1 (by rw [h0]; rfl) (Nat.le_of_ble_eq_true rfl) dL_law_1200 ⟨by show _ ≤ (601024 : Nat); omega, by show _ ≤ (7293034 : Nat); omega⟩) hS (fun z1 u2 H locs p3 hw hS => ?_)
  obtain ⟨X4, rfl, hRX4, hFX4, hCX4, hzX4⟩ := p3
  have hI5 : LI0 q0 q1 q2 ad cnt X4 Y ln := LI0.cls hI0 hRX4 hFX4 hCX4 (by decide)
  refine lv_pop hx hb dL_law_1203 rfl ?_
  refine lv_aload_n hx hb dL_law_1204 rfl (lv_at hl 2 rfl) ?_
  refine l_arg (k := 1) (pc2 := 1209) C hS hl hi (by omega) ea1 dL_law_1205 dL_law_1206 (fun h => lv_iconst (v := jI 1) hx hb dL_law_1208 rfl h) dL_law_1209 dL_law_1210 ?_
  obtain ⟨h0, h40, h100, hFx, hOw, hN, hLn, hR, hCI, hRv, hMI⟩ := id hI5
  have hc40 : cnt 40 = 1 := hFx.at 40 1 (by decide)
  refine gos_i (run_V (k := 40) (i := 0) (As := [.int (jI a1)]) (rest := []) hx hb hml hown hts (c_X9_fault l D tc s.heap.size ad cnt X4 Y ln hR hFx hMI a1 ga1) (cwV 1 hts gT_X9_fault rfl rfl rfl (by first | exact hd_X9_fault | decide +kernel) ⟨Nat.le_of_ble_eq_true rfl, Nat.le_of_ble_eq_true rfl⟩) hK hw (by first | exact Int.le_refl 0 | omega) (by first | exact zlt hc40 | omega) sl_40_0 rfl rfl hl.1 (by rw [h40]; rfl) (Nat.le_of_ble_eq_true rfl) dL_law_1211 ⟨by show _ ≤ (601024 : Nat); omega, by show _ ≤ (7293034 : Nat); omega⟩) hS (fun z6 u7 H locs p8 hw hS => ?_)
  obtain ⟨X9, rfl, hRX9, hFX9, hMX9, hzX9⟩ := p8
  have hI10 : LI0 q0 q1 q2 ad cnt X9 Y ln := LI0.mdl hI5 hRX9 hFX9 hMX9 (by decide)
  refine lv_pop hx hb dL_law_1214 rfl ?_
  have hRC : RC cnt X9 Y ln := RC.two hRC0 hFX4 hFX9 (by decide) (by decide) (by decide) (by decide)
  refine lv_goto (tgt := 1343) hx hb dL_law_1215 (by decide) ?_
  exact hg _ _ _ _ _ H locs ls _ _ ⟨hI10, hRC⟩ hw hS hl (by omega) (by omega)

set_option maxHeartbeats 4000000 in
set_option maxRecDepth 100000 in
theorem law_c22 {p : Program} {l : Launch} {e : Env} {s : State} {m : MethodId} {below : List Frame} {meth : Method} {c : Code} {b L : Nat} {xs : Nat → Int32} {D : va_G} {tc : Nat → ClassId} {Q : State → Prop} {q0 q1 q2 cB sB : Nat} {i : Int} (C : LK p l s m c b L xs D tc) (hi : 0 ≤ i ∧ i + 7 ≤ L) (hcB : cB + 310 ≤ 601024) (hsB : sB + 2110 ≤ 7293034) (hg : LAt p l e s m below meth c b D tc q0 q1 q2 i Q 1343 (cB + 310) (sB + 2110)) : LAt p l e s m below meth c b D tc q0 q1 q2 i Q 1218 cB sB := by
  obtain ⟨hx, hb, hml, hown, hts, hX, hbl, hK, hT, hlT, hL⟩ := id C
  intro ad cnt X Y ln H locs ls cl sl hI hw hS hl hcl hsl
  obtain ⟨hI0, hRC0⟩ := id hI
  obtain ⟨i0, i40, i100, iFx, iOw, iN, iLn, iR, iCI, iRv, iMI⟩ := id hI0
  refine lv_aload_n hx hb dL_law_1218 rfl (lv_at hl 1 rfl) ?_
  obtain ⟨a1, ea1, ga1⟩ := sc_at xs i 1
  refine l_arg (k := 1) (pc2 := 1223) C hS hl hi (by omega) ea1 dL_law_1219 dL_law_1220 (fun h => lv_iconst (v := jI 1) hx hb dL_law_1222 rfl h) dL_law_1223 dL_law_1224 ?_
  obtain ⟨a2, ea2, ga2⟩ := sc_at xs i 2
  refine l_arg (k := 2) (pc2 := 1229) C hS hl hi (by omega) ea2 dL_law_1225 dL_law_1226 (fun h => lv_iconst (v := jI 2) hx hb dL_law_1228 rfl h) dL_law_1229 dL_law_1230 ?_
  obtain ⟨h0, h40, h100, hFx, hOw, hN, hLn, hR, hCI, hRv, hMI⟩ := id hI0
  have hc0 : cnt 0 = 1 := hFx.at 0 1 (by decide)
  refine gos_i (run_V (k := 0) (i := 0) (As := [.int (jI a1), .int (jI a2)]) (rest := []) hx hb hml hown hts (c_X8_like l D tc s.heap.size ad cnt X Y ln hR hFx hLn hCI hRv a1 a2 ga1 ga2) (cwV 2 hts gT_X8_like rfl rfl rfl (by first | exact hd_X8_like | decide +kernel) ⟨Nat.le_of_ble_eq_true rfl, Nat.le_of_ble_eq_true rfl⟩) hK hw (by first | exact Int.le_refl 0 | omega) (by first | exact zlt hc0 | omega) sl_0_0 rfl rfl hl.1 (by rw [h0]; rfl) (Nat.le_of_ble_eq_true rfl) dL_law_1231 ⟨by show _ ≤ (601024 : Nat); omega, by show _ ≤ (7293034 : Nat); omega⟩) hS (fun z1 u2 H locs p3 hw hS => ?_)
  obtain ⟨X4, Y6, rfl, hRX4, hFX4, hHX4, hCX4, hzX4, pX4⟩ := p3
  have hVX4 := pX4.1
  have hI5 : LI0 q0 q1 q2 ad cnt X4 Y6 ln := LI0.clsR hI0 hRX4 hFX4 hCX4 hVX4 (by decide)
  refine lv_pop hx hb dL_law_1234 rfl ?_
  refine lv_aload_n hx hb dL_law_1235 rfl (lv_at hl 2 rfl) ?_
  refine l_arg (k := 1) (pc2 := 1240) C hS hl hi (by omega) ea1 dL_law_1236 dL_law_1237 (fun h => lv_iconst (v := jI 1) hx hb dL_law_1239 rfl h) dL_law_1240 dL_law_1241 ?_
  refine l_arg (k := 2) (pc2 := 1246) C hS hl hi (by omega) ea2 dL_law_1242 dL_law_1243 (fun h => lv_iconst (v := jI 2) hx hb dL_law_1245 rfl h) dL_law_1246 dL_law_1247 ?_
  obtain ⟨h0, h40, h100, hFx, hOw, hN, hLn, hR, hCI, hRv, hMI⟩ := id hI5
  have hc40 : cnt 40 = 1 := hFx.at 40 1 (by decide)
  refine gos_i (run_V (k := 40) (i := 0) (As := [.int (jI a1), .int (jI a2)]) (rest := []) hx hb hml hown hts (c_X9_like l D tc s.heap.size ad cnt X4 Y6 ln hR hFx hMI a1 a2 ga1 ga2) (cwV 2 hts gT_X9_like rfl rfl rfl (by first | exact hd_X9_like | decide +kernel) ⟨Nat.le_of_ble_eq_true rfl, Nat.le_of_ble_eq_true rfl⟩) hK hw (by first | exact Int.le_refl 0 | omega) (by first | exact zlt hc40 | omega) sl_40_0 rfl rfl hl.1 (by rw [h40]; rfl) (Nat.le_of_ble_eq_true rfl) dL_law_1248 ⟨by show _ ≤ (601024 : Nat); omega, by show _ ≤ (7293034 : Nat); omega⟩) hS (fun z7 u8 H locs p9 hw hS => ?_)
  obtain ⟨X10, rfl, hRX10, hFX10, hMX10, hzX10⟩ := p9
  have hI11 : LI0 q0 q1 q2 ad cnt X10 Y6 ln := LI0.mdl hI5 hRX10 hFX10 hMX10 (by decide)
  refine lv_pop hx hb dL_law_1251 rfl ?_
  have hRC := J_like (z := 0) (z2 := 0) (x := 0) (y := 0) hRC0 iMI iR hRX4 iLn iN hFX4 hHX4 pX4 hFX10 hMX10 trivial hRX10
  refine lv_goto (tgt := 1343) hx hb dL_law_1252 (by decide) ?_
  exact hg _ _ _ _ _ H locs ls _ _ ⟨hI11, hRC⟩ hw hS hl (by omega) (by omega)

set_option maxHeartbeats 4000000 in
set_option maxRecDepth 100000 in
theorem law_c23 {p : Program} {l : Launch} {e : Env} {s : State} {m : MethodId} {below : List Frame} {meth : Method} {c : Code} {b L : Nat} {xs : Nat → Int32} {D : va_G} {tc : Nat → ClassId} {Q : State → Prop} {q0 q1 q2 cB sB : Nat} {i : Int} (C : LK p l s m c b L xs D tc) (hi : 0 ≤ i ∧ i + 7 ≤ L) (hcB : cB + 310 ≤ 601024) (hsB : sB + 2110 ≤ 7293034) (hg : LAt p l e s m below meth c b D tc q0 q1 q2 i Q 1343 (cB + 310) (sB + 2110)) : LAt p l e s m below meth c b D tc q0 q1 q2 i Q 1255 cB sB := by
  obtain ⟨hx, hb, hml, hown, hts, hX, hbl, hK, hT, hlT, hL⟩ := id C
  intro ad cnt X Y ln H locs ls cl sl hI hw hS hl hcl hsl
  obtain ⟨hI0, hRC0⟩ := id hI
  obtain ⟨i0, i40, i100, iFx, iOw, iN, iLn, iR, iCI, iRv, iMI⟩ := id hI0
  refine lv_aload_n hx hb dL_law_1255 rfl (lv_at hl 1 rfl) ?_
  obtain ⟨a1, ea1, ga1⟩ := sc_at xs i 1
  refine l_arg (k := 1) (pc2 := 1260) C hS hl hi (by omega) ea1 dL_law_1256 dL_law_1257 (fun h => lv_iconst (v := jI 1) hx hb dL_law_1259 rfl h) dL_law_1260 dL_law_1261 ?_
  obtain ⟨a2, ea2, ga2⟩ := sc_at xs i 2
  refine l_arg (k := 2) (pc2 := 1266) C hS hl hi (by omega) ea2 dL_law_1262 dL_law_1263 (fun h => lv_iconst (v := jI 2) hx hb dL_law_1265 rfl h) dL_law_1266 dL_law_1267 ?_
  obtain ⟨h0, h40, h100, hFx, hOw, hN, hLn, hR, hCI, hRv, hMI⟩ := id hI0
  have hc0 : cnt 0 = 1 := hFx.at 0 1 (by decide)
  refine gos_i (run_V (k := 0) (i := 0) (As := [.int (jI a1), .int (jI a2)]) (rest := []) hx hb hml hown hts (c_X8_differs l D tc s.heap.size ad cnt X Y ln hR hFx hLn hCI hRv a1 a2 ga1 ga2) (cwV 2 hts gT_X8_differs rfl rfl rfl (by first | exact hd_X8_differs | decide +kernel) ⟨Nat.le_of_ble_eq_true rfl, Nat.le_of_ble_eq_true rfl⟩) hK hw (by first | exact Int.le_refl 0 | omega) (by first | exact zlt hc0 | omega) sl_0_0 rfl rfl hl.1 (by rw [h0]; rfl) (Nat.le_of_ble_eq_true rfl) dL_law_1268 ⟨by show _ ≤ (601024 : Nat); omega, by show _ ≤ (7293034 : Nat); omega⟩) hS (fun z1 u2 H locs p3 hw hS => ?_)
  obtain ⟨X4, Y6, rfl, hRX4, hFX4, hHX4, hCX4, hzX4, pX4⟩ := p3
  have hVX4 := pX4.1
  have hI5 : LI0 q0 q1 q2 ad cnt X4 Y6 ln := LI0.clsR hI0 hRX4 hFX4 hCX4 hVX4 (by decide)
  refine lv_pop hx hb dL_law_1271 rfl ?_
  refine lv_aload_n hx hb dL_law_1272 rfl (lv_at hl 2 rfl) ?_
  refine l_arg (k := 1) (pc2 := 1277) C hS hl hi (by omega) ea1 dL_law_1273 dL_law_1274 (fun h => lv_iconst (v := jI 1) hx hb dL_law_1276 rfl h) dL_law_1277 dL_law_1278 ?_
  refine l_arg (k := 2) (pc2 := 1283) C hS hl hi (by omega) ea2 dL_law_1279 dL_law_1280 (fun h => lv_iconst (v := jI 2) hx hb dL_law_1282 rfl h) dL_law_1283 dL_law_1284 ?_
  obtain ⟨h0, h40, h100, hFx, hOw, hN, hLn, hR, hCI, hRv, hMI⟩ := id hI5
  have hc40 : cnt 40 = 1 := hFx.at 40 1 (by decide)
  refine gos_i (run_V (k := 40) (i := 0) (As := [.int (jI a1), .int (jI a2)]) (rest := []) hx hb hml hown hts (c_X9_differs l D tc s.heap.size ad cnt X4 Y6 ln hR hFx hMI a1 a2 ga1 ga2) (cwV 2 hts gT_X9_differs rfl rfl rfl (by first | exact hd_X9_differs | decide +kernel) ⟨Nat.le_of_ble_eq_true rfl, Nat.le_of_ble_eq_true rfl⟩) hK hw (by first | exact Int.le_refl 0 | omega) (by first | exact zlt hc40 | omega) sl_40_0 rfl rfl hl.1 (by rw [h40]; rfl) (Nat.le_of_ble_eq_true rfl) dL_law_1285 ⟨by show _ ≤ (601024 : Nat); omega, by show _ ≤ (7293034 : Nat); omega⟩) hS (fun z7 u8 H locs p9 hw hS => ?_)
  obtain ⟨X10, rfl, hRX10, hFX10, hMX10, hzX10, pX10⟩ := p9
  have hI11 : LI0 q0 q1 q2 ad cnt X10 Y6 ln := LI0.mdl hI5 hRX10 hFX10 hMX10 (by decide)
  refine lv_pop hx hb dL_law_1288 rfl ?_
  obtain ⟨hRC, hq9⟩ := J_differs hRC0 iMI iR hRX4 iLn iN hFX4 hHX4 pX4 hFX10 hMX10 pX10 hRX10
  refine lv_goto (tgt := 1343) hx hb dL_law_1289 (by decide) ?_
  exact hg _ _ _ _ _ H locs ls _ _ ⟨hI11, hRC⟩ hw hS hl (by omega) (by omega)

set_option maxHeartbeats 4000000 in
set_option maxRecDepth 100000 in
theorem law_c24 {p : Program} {l : Launch} {e : Env} {s : State} {m : MethodId} {below : List Frame} {meth : Method} {c : Code} {b L : Nat} {xs : Nat → Int32} {D : va_G} {tc : Nat → ClassId} {Q : State → Prop} {q0 q1 q2 cB sB : Nat} {i : Int} (C : LK p l s m c b L xs D tc) (hi : 0 ≤ i ∧ i + 7 ≤ L) (hcB : cB + 310 ≤ 601024) (hsB : sB + 2110 ≤ 7293034) (hg : LAt p l e s m below meth c b D tc q0 q1 q2 i Q 1343 (cB + 310) (sB + 2110)) : LAt p l e s m below meth c b D tc q0 q1 q2 i Q 1292 cB sB := by
  obtain ⟨hx, hb, hml, hown, hts, hX, hbl, hK, hT, hlT, hL⟩ := id C
  intro ad cnt X Y ln H locs ls cl sl hI hw hS hl hcl hsl
  obtain ⟨hI0, hRC0⟩ := id hI
  obtain ⟨i0, i40, i100, iFx, iOw, iN, iLn, iR, iCI, iRv, iMI⟩ := id hI0
  refine lv_aload_n hx hb dL_law_1292 rfl (lv_at hl 1 rfl) ?_
  obtain ⟨h0, h40, h100, hFx, hOw, hN, hLn, hR, hCI, hRv, hMI⟩ := id hI0
  have hc0 : cnt 0 = 1 := hFx.at 0 1 (by decide)
  refine gos_i (run_V (k := 0) (i := 0) (As := []) (rest := []) hx hb hml hown hts (c_X8_mark l D tc s.heap.size ad cnt X Y ln hR hFx hLn hCI) (cwV 0 hts gT_X8_mark rfl rfl rfl (by first | exact hd_X8_mark | decide +kernel) ⟨Nat.le_of_ble_eq_true rfl, Nat.le_of_ble_eq_true rfl⟩) hK hw (by first | exact Int.le_refl 0 | omega) (by first | exact zlt hc0 | omega) sl_0_0 rfl rfl hl.1 (by rw [h0]; rfl) (Nat.le_of_ble_eq_true rfl) dL_law_1293 ⟨by show _ ≤ (601024 : Nat); omega, by show _ ≤ (7293034 : Nat); omega⟩) hS (fun z1 u2 H locs p3 hw hS => ?_)
  obtain ⟨X4, rfl, hRX4, hFX4, hCX4, hzX4, pX4⟩ := p3
  have hI5 : LI0 q0 q1 q2 ad cnt X4 Y ln := LI0.cls hI0 hRX4 hFX4 hCX4 (by decide)
  refine lv_pop hx hb dL_law_1296 rfl ?_
  refine lv_aload_n hx hb dL_law_1297 rfl (lv_at hl 2 rfl) ?_
  obtain ⟨h0, h40, h100, hFx, hOw, hN, hLn, hR, hCI, hRv, hMI⟩ := id hI5
  have hc40 : cnt 40 = 1 := hFx.at 40 1 (by decide)
  refine gos_i (run_V (k := 40) (i := 0) (As := []) (rest := []) hx hb hml hown hts (c_X9_mark l D tc s.heap.size ad cnt X4 Y ln hR hFx hMI) (cwV 0 hts gT_X9_mark rfl rfl rfl (by first | exact hd_X9_mark | decide +kernel) ⟨Nat.le_of_ble_eq_true rfl, Nat.le_of_ble_eq_true rfl⟩) hK hw (by first | exact Int.le_refl 0 | omega) (by first | exact zlt hc40 | omega) sl_40_0 rfl rfl hl.1 (by rw [h40]; rfl) (Nat.le_of_ble_eq_true rfl) dL_law_1298 ⟨by show _ ≤ (601024 : Nat); omega, by show _ ≤ (7293034 : Nat); omega⟩) hS (fun z6 u7 H locs p8 hw hS => ?_)
  obtain ⟨X9, rfl, hRX9, hFX9, hMX9, hzX9, pX9⟩ := p8
  have hI10 : LI0 q0 q1 q2 ad cnt X9 Y ln := LI0.mdl hI5 hRX9 hFX9 hMX9 (by decide)
  refine lv_pop hx hb dL_law_1301 rfl ?_
  obtain ⟨hRC, hq9⟩ := J_mark hRC0 iMI iR hRX4 iLn iN hFX4 pX4 hFX9 hMX9 pX9
  refine lv_goto (tgt := 1343) hx hb dL_law_1302 (by decide) ?_
  exact hg _ _ _ _ _ H locs ls _ _ ⟨hI10, hRC⟩ hw hS hl (by omega) (by omega)

set_option maxHeartbeats 4000000 in
set_option maxRecDepth 100000 in
theorem law_c25 {p : Program} {l : Launch} {e : Env} {s : State} {m : MethodId} {below : List Frame} {meth : Method} {c : Code} {b L : Nat} {xs : Nat → Int32} {D : va_G} {tc : Nat → ClassId} {Q : State → Prop} {q0 q1 q2 cB sB : Nat} {i : Int} (C : LK p l s m c b L xs D tc) (hi : 0 ≤ i ∧ i + 7 ≤ L) (hcB : cB + 310 ≤ 601024) (hsB : sB + 2110 ≤ 7293034) (hg : LAt p l e s m below meth c b D tc q0 q1 q2 i Q 1343 (cB + 310) (sB + 2110)) : LAt p l e s m below meth c b D tc q0 q1 q2 i Q 1305 cB sB := by
  obtain ⟨hx, hb, hml, hown, hts, hX, hbl, hK, hT, hlT, hL⟩ := id C
  intro ad cnt X Y ln H locs ls cl sl hI hw hS hl hcl hsl
  obtain ⟨hI0, hRC0⟩ := id hI
  obtain ⟨i0, i40, i100, iFx, iOw, iN, iLn, iR, iCI, iRv, iMI⟩ := id hI0
  refine lv_aload_n hx hb dL_law_1305 rfl (lv_at hl 1 rfl) ?_
  obtain ⟨h0, h40, h100, hFx, hOw, hN, hLn, hR, hCI, hRv, hMI⟩ := id hI0
  have hc0 : cnt 0 = 1 := hFx.at 0 1 (by decide)
  refine gos_i (run_V (k := 0) (i := 0) (As := []) (rest := []) hx hb hml hown hts (c_X8_undo l D tc s.heap.size ad cnt X Y ln hR hFx hLn hCI) (cwV 0 hts gT_X8_undo rfl rfl rfl (by first | exact hd_X8_undo | decide +kernel) ⟨Nat.le_of_ble_eq_true rfl, Nat.le_of_ble_eq_true rfl⟩) hK hw (by first | exact Int.le_refl 0 | omega) (by first | exact zlt hc0 | omega) sl_0_0 rfl rfl hl.1 (by rw [h0]; rfl) (Nat.le_of_ble_eq_true rfl) dL_law_1306 ⟨by show _ ≤ (601024 : Nat); omega, by show _ ≤ (7293034 : Nat); omega⟩) hS (fun z1 u2 H locs p3 hw hS => ?_)
  obtain ⟨X4, Y6, rfl, hRX4, hFX4, hHX4, hCX4, hzX4, pX4⟩ := p3
  have hI5 : LI0 q0 q1 q2 ad cnt X4 Y6 ln := LI0.cls hI0 hRX4 hFX4 hCX4 (by decide)
  refine lv_pop hx hb dL_law_1309 rfl ?_
  refine lv_aload_n hx hb dL_law_1310 rfl (lv_at hl 2 rfl) ?_
  obtain ⟨h0, h40, h100, hFx, hOw, hN, hLn, hR, hCI, hRv, hMI⟩ := id hI5
  have hc40 : cnt 40 = 1 := hFx.at 40 1 (by decide)
  refine gos_i (run_V (k := 40) (i := 0) (As := []) (rest := []) hx hb hml hown hts (c_X9_undo l D tc s.heap.size ad cnt X4 Y6 ln hR hFx hMI) (cwV 0 hts gT_X9_undo rfl rfl rfl (by first | exact hd_X9_undo | decide +kernel) ⟨Nat.le_of_ble_eq_true rfl, Nat.le_of_ble_eq_true rfl⟩) hK hw (by first | exact Int.le_refl 0 | omega) (by first | exact zlt hc40 | omega) sl_40_0 rfl rfl hl.1 (by rw [h40]; rfl) (Nat.le_of_ble_eq_true rfl) dL_law_1311 ⟨by show _ ≤ (601024 : Nat); omega, by show _ ≤ (7293034 : Nat); omega⟩) hS (fun z7 u8 H locs p9 hw hS => ?_)
  obtain ⟨X10, rfl, hRX10, hFX10, hMX10, hzX10, pX10⟩ := p9
  have hI11 : LI0 q0 q1 q2 ad cnt X10 Y6 ln := LI0.mdl hI5 hRX10 hFX10 hMX10 (by decide)
  refine lv_pop hx hb dL_law_1314 rfl ?_
  obtain ⟨hRC, hq9⟩ := J_undo hRC0 iMI iR hRX4 iLn iN hFX4 hHX4 pX4 hFX10 hMX10 pX10
  refine lv_goto (tgt := 1343) hx hb dL_law_1315 (by decide) ?_
  exact hg _ _ _ _ _ H locs ls _ _ ⟨hI11, hRC⟩ hw hS hl (by omega) (by omega)

set_option maxHeartbeats 4000000 in
set_option maxRecDepth 100000 in
theorem law_c26 {p : Program} {l : Launch} {e : Env} {s : State} {m : MethodId} {below : List Frame} {meth : Method} {c : Code} {b L : Nat} {xs : Nat → Int32} {D : va_G} {tc : Nat → ClassId} {Q : State → Prop} {q0 q1 q2 cB sB : Nat} {i : Int} (C : LK p l s m c b L xs D tc) (hi : 0 ≤ i ∧ i + 7 ≤ L) (hcB : cB + 310 ≤ 601024) (hsB : sB + 2110 ≤ 7293034) (hg : LAt p l e s m below meth c b D tc q0 q1 q2 i Q 1343 (cB + 310) (sB + 2110)) : LAt p l e s m below meth c b D tc q0 q1 q2 i Q 1318 cB sB := by
  obtain ⟨hx, hb, hml, hown, hts, hX, hbl, hK, hT, hlT, hL⟩ := id C
  intro ad cnt X Y ln H locs ls cl sl hI hw hS hl hcl hsl
  obtain ⟨hI0, hRC0⟩ := id hI
  obtain ⟨i0, i40, i100, iFx, iOw, iN, iLn, iR, iCI, iRv, iMI⟩ := id hI0
  refine lv_aload_n hx hb dL_law_1318 rfl (lv_at hl 1 rfl) ?_
  obtain ⟨a1, ea1, ga1⟩ := sc_at xs i 1
  refine l_arg (k := 1) (pc2 := 1323) C hS hl hi (by omega) ea1 dL_law_1319 dL_law_1320 (fun h => lv_iconst (v := jI 1) hx hb dL_law_1322 rfl h) dL_law_1323 dL_law_1324 ?_
  obtain ⟨h0, h40, h100, hFx, hOw, hN, hLn, hR, hCI, hRv, hMI⟩ := id hI0
  have hc0 : cnt 0 = 1 := hFx.at 0 1 (by decide)
  refine gos_i (run_V (k := 0) (i := 0) (As := [.int (jI a1)]) (rest := []) hx hb hml hown hts (c_X8_count l D tc s.heap.size ad cnt X Y ln hR hFx hLn hCI a1 ga1) (cwV 1 hts gT_X8_count rfl rfl rfl (by first | exact hd_X8_count | decide +kernel) ⟨Nat.le_of_ble_eq_true rfl, Nat.le_of_ble_eq_true rfl⟩) hK hw (by first | exact Int.le_refl 0 | omega) (by first | exact zlt hc0 | omega) sl_0_0 rfl rfl hl.1 (by rw [h0]; rfl) (Nat.le_of_ble_eq_true rfl) dL_law_1325 ⟨by show _ ≤ (601024 : Nat); omega, by show _ ≤ (7293034 : Nat); omega⟩) hS (fun z1 u2 H locs p3 hw hS => ?_)
  obtain ⟨X4, rfl, hRX4, hFX4, hCX4, hzX4, pX4⟩ := p3
  have hI5 : LI0 q0 q1 q2 ad cnt X4 Y ln := LI0.cls hI0 hRX4 hFX4 hCX4 (by decide)
  refine lv_pop hx hb dL_law_1328 rfl ?_
  refine lv_aload_n hx hb dL_law_1329 rfl (lv_at hl 2 rfl) ?_
  refine l_arg (k := 1) (pc2 := 1334) C hS hl hi (by omega) ea1 dL_law_1330 dL_law_1331 (fun h => lv_iconst (v := jI 1) hx hb dL_law_1333 rfl h) dL_law_1334 dL_law_1335 ?_
  obtain ⟨h0, h40, h100, hFx, hOw, hN, hLn, hR, hCI, hRv, hMI⟩ := id hI5
  have hc40 : cnt 40 = 1 := hFx.at 40 1 (by decide)
  refine gos_i (run_V (k := 40) (i := 0) (As := [.int (jI a1)]) (rest := []) hx hb hml hown hts (c_X9_count l D tc s.heap.size ad cnt X4 Y ln hR hFx hMI a1 ga1) (cwV 1 hts gT_X9_count rfl rfl rfl (by first | exact hd_X9_count | decide +kernel) ⟨Nat.le_of_ble_eq_true rfl, Nat.le_of_ble_eq_true rfl⟩) hK hw (by first | exact Int.le_refl 0 | omega) (by first | exact zlt hc40 | omega) sl_40_0 rfl rfl hl.1 (by rw [h40]; rfl) (Nat.le_of_ble_eq_true rfl) dL_law_1336 ⟨by show _ ≤ (601024 : Nat); omega, by show _ ≤ (7293034 : Nat); omega⟩) hS (fun z6 u7 H locs p8 hw hS => ?_)
  obtain ⟨X9, rfl, hRX9, hFX9, hMX9, hzX9, pX9⟩ := p8
  have hI10 : LI0 q0 q1 q2 ad cnt X9 Y ln := LI0.mdl hI5 hRX9 hFX9 hMX9 (by decide)
  refine lv_pop hx hb dL_law_1339 rfl ?_
  obtain ⟨hRC, hq9⟩ := J_count hRC0 iMI iR hRX4 iLn iN hFX4 pX4 hFX9 hMX9 pX9
  refine lv_goto (tgt := 1343) hx hb dL_law_1340 (by decide) ?_
  exact hg _ _ _ _ _ H locs ls _ _ ⟨hI10, hRC⟩ hw hS hl (by omega) (by omega)
end
section
/-! THE CLAIM OUT OF ONE WALK OF THE LAW'S BODY. Your part is whole_start (and what it stands on); all else here is the same for every law, but numbers. -/
def R_law : String := "StateRecordsLaw"
def lw_P (b : Addr) (xs : List Int32) (args : Array Value) (s : State) : Prop := args = #[.ref b] ∧ s.IntsAt b xs ∧ xs.length ≤ 3584 ∧ (Jvm.Cond.and given_1 narrow_1).before args s = true
def lw_Q (_ : Array Value) (s : State) (o : Outcome) (t : State) : Prop := o = .returned (some (.int 1)) ∧ Framed s o t [] 601024 7293034
def lw_Z (below : List Frame) (a : Array Value) (s : State) : State → Prop := fun t => ∃ o, t.status = .running ∧ Ended t below o ∧ lw_Q a s o t
/-- the law's own end, with 1 on the stack, nothing written that was there before, its room as the claim has it -/
theorem lw_ret {p : Program} {l : Launch} {e : Env} {s : State} {m : MethodId} {below : List Frame} {meth : Method} {c : Code} {b : Nat} (hx : p.tables.exec = Jvm.exec) (hb : c.code = code) (hr : meth.sig.returnType = ret) (hlocks : meth.locks = false) {pc : Nat} {H : Heap} {ls : Array Slot} (hdg : decode code pc = .ok (.ireturn, 1)) : W p l e room_1 s m #[Value.ref b] below meth c H [] 601024 7293034 (lw_Z below #[Value.ref b] s) (F0 m pc ls [.int 1]) := by
  intro T hT X
  obtain ⟨fs, hret, hrun, hended, hW, hframe⟩ := X.leave (v := some (.int 1)) (hlocks := hlocks) (fun h => by rw [hr] at h; cases h)
  have hmeth' : T.vm.method? m = some meth := X.method'
  refine ⟨T.setFrames fs, ?_, .returned (some (.int 1)), hrun, hended, rfl, ⟨_, rfl⟩, hW, hframe⟩
  jvm_step X.here [X.here.top, hx, hb, hdg, hmeth', hr, ret, narrow_b1]
  (try refine ⟨rfl, ?_⟩); (try refine ⟨rfl, ?_⟩)
  first | (intro acts; rw [hret _ acts rfl rfl rfl]) | rw [hret _ _ rfl rfl rfl]
  exact Steps.refl _
/-- what holds at the law's entry: the machine, the code, the tables' words (any of lw_tbl by 'hts w (by decide +kernel)'), the script of L ints xs at the cell b, what the Statement gives of the start (any of its parts by flat_of_before) -/
def lw_At (p : Program) (s : State) (m : MethodId) (meth : Method) (c : Code) (b L : Nat) (xs : Nat → Int32) : Prop :=
  p.tables.exec = Jvm.exec ∧ c.code = code ∧ meth.sig.returnType = ret ∧ c.maxLocals = 8 ∧ s.vm.findClass R_law = some m.cls ∧ (∀ w ∈ lw_tbl, w.before #[Value.ref b] s = true) ∧ va_X b L xs s s.heap ∧ b < s.heap.size ∧ meth.locks = false ∧ (Jvm.Cond.and given_1 narrow_1).before #[Value.ref b] s = true
end
section
/-! the law's loop -/
section LL
variable {p : Program} {l : Launch} {e : Env} {s : State} {m : MethodId} {below : List Frame} {meth : Method} {c : Code} {b L : Nat} {xs : Nat → Int32} {D : va_G} {tc : Nat → ClassId} {Q : State → Prop} {q0 q1 q2 cB sB : Nat} {i : Int}
theorem law_next (C : LK p l s m c b L xs D tc) (h : LAt p l e s m below meth c b D tc q0 q1 q2 (i + 7) Q 23 cB sB) : LAt p l e s m below meth c b D tc q0 q1 q2 i Q 1343 cB sB := by
  obtain ⟨hx, hb, -⟩ := id C
  intro ad cnt X Y ln H locs ls cl sl hI hw hS hl hcl hsl
  refine lv_iinc (v := jI (i + 7)) (lv' := [(4, .int (jI (i + 7))), (0, .ref b), (1, .ref q0), (2, .ref q1), (3, .ref q2)]) hx hb dL_law_1343 hl (k := 4) rfl (jI_add _ _) (by decide) rfl (fun ls hl => ?_)
  refine lv_goto (tgt := 23) hx hb dL_law_1346 (by decide) ?_
  exact h ad cnt X Y ln H locs ls cl sl hI hw hS (lv_sub hl [1, 2, 3, 4, 0] rfl) hcl hsl
theorem law_end (C : LK p l s m c b L xs D tc) (hr : meth.sig.returnType = ret) (hlocks : meth.locks = false) (h1 : cB ≤ 601024) (h2 : sB ≤ 7293034) : LAt p l e s m below meth c b D tc q0 q1 q2 i (lw_Z below #[Value.ref b] s) 1349 cB sB := by
  obtain ⟨hx, hb, -⟩ := id C
  intro ad cnt X Y ln H locs ls cl sl hI hw hS hl hcl hsl
  refine va_forget (fun q hq => hS.2.2 q hq) ?_
  refine W.widen (k := 601024) (n := 7293034) (by omega) (by omega) ?_
  refine lv_iconst (v := 1) hx hb dL_law_1349 rfl ?_
  exact lw_ret hx hb hr hlocks dL_law_1350
set_option maxHeartbeats 2000000 in
theorem law_disp (C : LK p l s m c b L xs D tc) (hi : 0 ≤ i ∧ i + 7 ≤ L) (hcB : cB + 310 ≤ 601024) (hsB : sB + 2110 ≤ 7293034) (hg : LAt p l e s m below meth c b D tc q0 q1 q2 i Q 1343 (cB + 310) (sB + 2110)) : LAt p l e s m below meth c b D tc q0 q1 q2 i Q 33 cB sB := by
  obtain ⟨hx, hb, hml, hown, hts, hX, hbl, hK, hT, hlT, hL⟩ := id C
  intro ad cnt X Y ln H locs ls cl sl hI hw hS hl hcl hsl
  refine lv_aload_n hx hb dL_law_33 rfl (lv_at hl 0 rfl) ?_
  refine lv_iload hx hb dL_law_34 (lv_at hl 4 rfl) ?_
  refine va_sld hx hb hX hbl (Nat.not_le.mpr hbl) hS (jI_in (by omega) (by omega) (by omega)) dL_law_36 ?_
  refine lv_bipush (v := jI 31) hx hb dL_law_37 (by decide) ?_
  refine lv_iand hx hb dL_law_39 ?_
  refine x_anyi (fun z hz => ?_)
  have tz : (jI z).toInt = z := jI_toInt hz
  by_cases ho : z < 0 ∨ 26 < z
  · refine lv_tableOut (tgt := 1343) hx hb dL_law_40 (by rw [tz]; exact ho) (by decide) ?_
    exact hg ad cnt X Y ln H locs ls cl sl hI hw hS hl (by omega) (by omega)
  by_cases c0 : z = 0
  · refine lv_tableIn (off := 124) (tgt := 164) hx hb dL_law_40 (by rw [tz]; omega) (by rw [tz]; omega) (by rw [tz, c0]; rfl) (by decide) ?_
    exact law_c0 C hi hcB hsB hg ad cnt X Y ln H locs ls cl sl hI hw hS hl hcl hsl
  by_cases c1 : z = 1
  · refine lv_tableIn (off := 137) (tgt := 177) hx hb dL_law_40 (by rw [tz]; omega) (by rw [tz]; omega) (by rw [tz, c1]; rfl) (by decide) ?_
    exact law_c1 C hi hcB hsB hg ad cnt X Y ln H locs ls cl sl hI hw hS hl hcl hsl
  by_cases c2 : z = 2
  · refine lv_tableIn (off := 230) (tgt := 270) hx hb dL_law_40 (by rw [tz]; omega) (by rw [tz]; omega) (by rw [tz, c2]; rfl) (by decide) ?_
    exact law_c2 C hi hcB hsB hg ad cnt X Y ln H locs ls cl sl hI hw hS hl hcl hsl
  by_cases c3 : z = 3
  · refine lv_tableIn (off := 267) (tgt := 307) hx hb dL_law_40 (by rw [tz]; omega) (by rw [tz]; omega) (by rw [tz, c3]; rfl) (by decide) ?_
    exact law_c3 C hi hcB hsB hg ad cnt X Y ln H locs ls cl sl hI hw hS hl hcl hsl
  by_cases c4 : z = 4
  · refine lv_tableIn (off := 332) (tgt := 372) hx hb dL_law_40 (by rw [tz]; omega) (by rw [tz]; omega) (by rw [tz, c4]; rfl) (by decide) ?_
    exact law_c4 C hi hcB hsB hg ad cnt X Y ln H locs ls cl sl hI hw hS hl hcl hsl
  by_cases c5 : z = 5
  · refine lv_tableIn (off := 439) (tgt := 479) hx hb dL_law_40 (by rw [tz]; omega) (by rw [tz]; omega) (by rw [tz, c5]; rfl) (by decide) ?_
    exact law_c5 C hi hcB hsB hg ad cnt X Y ln H locs ls cl sl hI hw hS hl hcl hsl
  by_cases c6 : z = 6
  · refine lv_tableIn (off := 464) (tgt := 504) hx hb dL_law_40 (by rw [tz]; omega) (by rw [tz]; omega) (by rw [tz, c6]; rfl) (by decide) ?_
    exact law_c6 C hi hcB hsB hg ad cnt X Y ln H locs ls cl sl hI hw hS hl hcl hsl
  by_cases c7 : z = 7
  · refine lv_tableIn (off := 517) (tgt := 557) hx hb dL_law_40 (by rw [tz]; omega) (by rw [tz]; omega) (by rw [tz, c7]; rfl) (by decide) ?_
    exact law_c7 C hi hcB hsB hg ad cnt X Y ln H locs ls cl sl hI hw hS hl hcl hsl
  by_cases c8 : z = 8
  · refine lv_tableIn (off := 542) (tgt := 582) hx hb dL_law_40 (by rw [tz]; omega) (by rw [tz]; omega) (by rw [tz, c8]; rfl) (by decide) ?_
    exact law_c8 C hi hcB hsB hg ad cnt X Y ln H locs ls cl sl hI hw hS hl hcl hsl
  by_cases c9 : z = 9
  · refine lv_tableIn (off := 623) (tgt := 663) hx hb dL_law_40 (by rw [tz]; omega) (by rw [tz]; omega) (by rw [tz, c9]; rfl) (by decide) ?_
    exact law_c9 C hi hcB hsB hg ad cnt X Y ln H locs ls cl sl hI hw hS hl hcl hsl
  by_cases c10 : z = 10
  · refine lv_tableIn (off := 672) (tgt := 712) hx hb dL_law_40 (by rw [tz]; omega) (by rw [tz]; omega) (by rw [tz, c10]; rfl) (by decide) ?_
    exact law_c10 C hi hcB hsB hg ad cnt X Y ln H locs ls cl sl hI hw hS hl hcl hsl
  by_cases c11 : z = 11
  · refine lv_tableIn (off := 721) (tgt := 761) hx hb dL_law_40 (by rw [tz]; omega) (by rw [tz]; omega) (by rw [tz, c11]; rfl) (by decide) ?_
    exact law_c11 C hi hcB hsB hg ad cnt X Y ln H locs ls cl sl hI hw hS hl hcl hsl
  by_cases c12 : z = 12
  · refine lv_tableIn (off := 782) (tgt := 822) hx hb dL_law_40 (by rw [tz]; omega) (by rw [tz]; omega) (by rw [tz, c12]; rfl) (by decide) ?_
    exact law_c12 C hi hcB hsB hg ad cnt X Y ln H locs ls cl sl hI hw hS hl hcl hsl
  by_cases c13 : z = 13
  · refine lv_tableIn (off := 875) (tgt := 915) hx hb dL_law_40 (by rw [tz]; omega) (by rw [tz]; omega) (by rw [tz, c13]; rfl) (by decide) ?_
    exact law_c13 C hi hcB hsB hg ad cnt X Y ln H locs ls cl sl hI hw hS hl hcl hsl
  by_cases c14 : z = 14
  · refine lv_tableIn (off := 915) (tgt := 955) hx hb dL_law_40 (by rw [tz]; omega) (by rw [tz]; omega) (by rw [tz, c14]; rfl) (by decide) ?_
    exact law_c14 C hi hcB hsB hg ad cnt X Y ln H locs ls cl sl hI hw hS hl hcl hsl
  by_cases c15 : z = 15
  · refine lv_tableIn (off := 967) (tgt := 1007) hx hb dL_law_40 (by rw [tz]; omega) (by rw [tz]; omega) (by rw [tz, c15]; rfl) (by decide) ?_
    exact law_c15 C hi hcB hsB hg ad cnt X Y ln H locs ls cl sl hI hw hS hl hcl hsl
  by_cases c16 : z = 16
  · refine lv_tableIn (off := 980) (tgt := 1020) hx hb dL_law_40 (by rw [tz]; omega) (by rw [tz]; omega) (by rw [tz, c16]; rfl) (by decide) ?_
    exact law_c16 C hi hcB hsB hg ad cnt X Y ln H locs ls cl sl hI hw hS hl hcl hsl
  by_cases c17 : z = 17
  · refine lv_tableIn (off := 1017) (tgt := 1057) hx hb dL_law_40 (by rw [tz]; omega) (by rw [tz]; omega) (by rw [tz, c17]; rfl) (by decide) ?_
    exact law_c17 C hi hcB hsB hg ad cnt X Y ln H locs ls cl sl hI hw hS hl hcl hsl
  by_cases c18 : z = 18
  · refine lv_tableIn (off := 1042) (tgt := 1082) hx hb dL_law_40 (by rw [tz]; omega) (by rw [tz]; omega) (by rw [tz, c18]; rfl) (by decide) ?_
    exact law_c18 C hi hcB hsB hg ad cnt X Y ln H locs ls cl sl hI hw hS hl hcl hsl
  by_cases c19 : z = 19
  · refine lv_tableIn (off := 1079) (tgt := 1119) hx hb dL_law_40 (by rw [tz]; omega) (by rw [tz]; omega) (by rw [tz, c19]; rfl) (by decide) ?_
    exact law_c19 C hi hcB hsB hg ad cnt X Y ln H locs ls cl sl hI hw hS hl hcl hsl
  by_cases c20 : z = 20
  · refine lv_tableIn (off := 1116) (tgt := 1156) hx hb dL_law_40 (by rw [tz]; omega) (by rw [tz]; omega) (by rw [tz, c20]; rfl) (by decide) ?_
    exact law_c20 C hi hcB hsB hg ad cnt X Y ln H locs ls cl sl hI hw hS hl hcl hsl
  by_cases c21 : z = 21
  · refine lv_tableIn (off := 1153) (tgt := 1193) hx hb dL_law_40 (by rw [tz]; omega) (by rw [tz]; omega) (by rw [tz, c21]; rfl) (by decide) ?_
    exact law_c21 C hi hcB hsB hg ad cnt X Y ln H locs ls cl sl hI hw hS hl hcl hsl
  by_cases c22 : z = 22
  · refine lv_tableIn (off := 1178) (tgt := 1218) hx hb dL_law_40 (by rw [tz]; omega) (by rw [tz]; omega) (by rw [tz, c22]; rfl) (by decide) ?_
    exact law_c22 C hi hcB hsB hg ad cnt X Y ln H locs ls cl sl hI hw hS hl hcl hsl
  by_cases c23 : z = 23
  · refine lv_tableIn (off := 1215) (tgt := 1255) hx hb dL_law_40 (by rw [tz]; omega) (by rw [tz]; omega) (by rw [tz, c23]; rfl) (by decide) ?_
    exact law_c23 C hi hcB hsB hg ad cnt X Y ln H locs ls cl sl hI hw hS hl hcl hsl
  by_cases c24 : z = 24
  · refine lv_tableIn (off := 1252) (tgt := 1292) hx hb dL_law_40 (by rw [tz]; omega) (by rw [tz]; omega) (by rw [tz, c24]; rfl) (by decide) ?_
    exact law_c24 C hi hcB hsB hg ad cnt X Y ln H locs ls cl sl hI hw hS hl hcl hsl
  by_cases c25 : z = 25
  · refine lv_tableIn (off := 1265) (tgt := 1305) hx hb dL_law_40 (by rw [tz]; omega) (by rw [tz]; omega) (by rw [tz, c25]; rfl) (by decide) ?_
    exact law_c25 C hi hcB hsB hg ad cnt X Y ln H locs ls cl sl hI hw hS hl hcl hsl
  have c26 : z = 26 := by omega
  refine lv_tableIn (off := 1278) (tgt := 1318) hx hb dL_law_40 (by rw [tz]; omega) (by rw [tz]; omega) (by rw [tz, c26]; rfl) (by decide) ?_
  exact law_c26 C hi hcB hsB hg ad cnt X Y ln H locs ls cl sl hI hw hS hl hcl hsl
theorem law_head (C : LK p l s m c b L xs D tc) (hi : 0 ≤ i ∧ i ≤ 4000) (ke : LAt p l e s m below meth c b D tc q0 q1 q2 i Q 1349 cB sB) (kg : i + 7 ≤ L → LAt p l e s m below meth c b D tc q0 q1 q2 i Q 33 cB sB) : LAt p l e s m below meth c b D tc q0 q1 q2 i Q 23 cB sB := by
  obtain ⟨hx, hb, hml, hown, hts, hX, hbl, hK, hT, hlT, hL⟩ := id C
  intro ad cnt X Y ln H locs ls cl sl hI hw hS hl hcl hsl
  refine lv_iload hx hb dL_law_23 (lv_at hl 4 rfl) ?_
  refine lv_aload_n hx hb dL_law_25 rfl (lv_at hl 0 rfl) ?_
  refine va_slen hx hb hX hbl (Nat.not_le.mpr hbl) hS dL_law_26 ?_
  have eL : Int32.ofNat L = jI (L : Int) := by unfold jI; exact (Int32.ofInt_eq_ofNat).symm
  rw [eL]
  refine lv_bipush (v := jI 7) hx hb dL_law_27 (by decide) ?_
  refine x_isub hx hb dL_law_29 ?_
  refine x_icmp_gt (tgt := 1349) hx hb (by omega) (by omega) dL_law_30 (by decide) (fun _ => ?_) (fun cg => ?_)
  · exact ke ad cnt X Y ln H locs ls cl sl hI hw hS hl hcl hsl
  · exact kg (by omega) ad cnt X Y ln H locs ls cl sl hI hw hS hl hcl hsl
set_option maxRecDepth 100000 in
theorem law_loop (C : LK p l s m c b L xs D tc) (hr : meth.sig.returnType = ret) (hlocks : meth.locks = false) : ∀ (n : Nat) (i : Int) (cB sB : Nat), (L : Int) - i < 7 * (n : Int) → 0 ≤ i ∧ i ≤ 3584 → cB + 310 * n ≤ 601024 → sB + 2110 * n ≤ 7293034 → LAt p l e s m below meth c b D tc q0 q1 q2 i (lw_Z below #[Value.ref b] s) 23 cB sB := by
  have hL := C.2.2.2.2.2.2.2.2.2.2
  intro n
  induction n with
  | zero => exact fun i cB sB h0 h1 h2 h3 => law_head C (by omega) (law_end C hr hlocks (by omega) (by omega)) (fun q => by omega)
  | succ n ih =>
    intro i cB sB h0 h1 h2 h3
    have e1 : cB + 310 ≤ 601024 := by omega
    have e2 : sB + 2110 ≤ 7293034 := by omega
    have k1 : cB + 310 + 310 * n ≤ 601024 := by omega
    have k2 : sB + 2110 + 2110 * n ≤ 7293034 := by omega
    have e3 : cB ≤ 601024 := by omega
    have e4 : sB ≤ 7293034 := by omega
    refine law_head C (by omega) (law_end C hr hlocks e3 e4) (fun q => ?_)
    exact law_disp C ⟨h1.1, q⟩ e1 e2 (law_next C (ih (i + 7) (cB + 310) (sB + 2110) (by omega) (by omega) k1 k2))
end LL
end
section
/-! what the start gives -/
theorem st_ar_int {s : State} {A : Array Value} (h : (Cond.arrayClass .int).before A s = true) : ∃ cA : ClassId, ArrOfT s cA .int ∧ va_RA s cA .int := by
  obtain ⟨c, k, comp, h1, h2, h3⟩ := Cond.arrayClass_spec h
  exact ⟨c, fun n z => ⟨fun k h => (by cases h), k, h2, comp, h3⟩, h1⟩
theorem st_ar_long {s : State} {A : Array Value} (h : (Cond.arrayClass .long).before A s = true) : ∃ cA : ClassId, ArrOfT s cA .long ∧ va_RA s cA .long := by
  obtain ⟨c, k, comp, h1, h2, h3⟩ := Cond.arrayClass_spec h
  exact ⟨c, fun n z => ⟨fun k h => (by cases h), k, h2, comp, h3⟩, h1⟩
theorem st_ar_boolean {s : State} {A : Array Value} (h : (Cond.arrayClass .boolean).before A s = true) : ∃ cA : ClassId, ArrOfT s cA .boolean ∧ va_RA s cA .boolean := by
  obtain ⟨c, k, comp, h1, h2, h3⟩ := Cond.arrayClass_spec h
  exact ⟨c, fun n z => ⟨fun k h => (by cases h), k, h2, comp, h3⟩, h1⟩
theorem st_ao {s : State} {C : String} (h : va_AO C s) : ∃ cA : ClassId, ArrOfT s cA (.object C) ∧ va_RA s cA (.object C) := by
  obtain ⟨comp, c, k, h1, h2, h3, h4, h5⟩ := Cond.arrayOver_spec h
  exact ⟨c, fun n z => ⟨fun k h => (by cases h), k, h3, comp, h4⟩, k, comp, h3, h4, h1, h5⟩
set_option maxHeartbeats 4000000 in
set_option maxRecDepth 100000 in
theorem st_K {s : State} {A : Array Value} (hts : ∀ w ∈ lw_tbl, w.before A s = true) : ∃ (D : va_G) (tc : Nat → ClassId), Kx D tc s := by
  obtain ⟨c0, i0, k0⟩ := u_known (C := RX0) (T := TX0) (N := 4) (n := 4) hts wsX00_in (hts (.instantiable RX0 4) (by first | exact gt_2 _ (gp_16 (gp_16 (gp_16 (gp_4 (gp_4 (gp_4 (gp_1 (gp_1 (gp_1 gp_h))))))))) | decide +kernel))
  obtain ⟨c1, i1, k1⟩ := u_known (C := RX1) (T := TX1) (N := 4) (n := 4) hts wsX10_in (hts (.instantiable RX1 4) (by first | exact gt_1 _ (gp_64 (gp_16 (gp_16 (gp_16 (gp_4 (gp_4 (gp_1 (gp_1 (gp_1 gp_h))))))))) | decide +kernel))
  obtain ⟨c2, i2, k2⟩ := u_known (C := RX2) (T := TX2) (N := 4) (n := 4) hts wsX20_in (hts (.instantiable RX2 4) (by first | exact gt_1 _ (gp_64 (gp_4 (gp_4 (gp_4 (gp_1 (gp_1 gp_h)))))) | decide +kernel))
  obtain ⟨c3, i3, k3⟩ := u_known (C := RX3) (T := TX3) (N := 4) (n := 4) hts wsX30_in (hts (.instantiable RX3 4) (by first | exact gt_1 _ (gp_64 (gp_16 (gp_4 (gp_1 gp_h)))) | decide +kernel))
  obtain ⟨c4, i4, k4⟩ := u_known (C := RX4) (T := TX4) (N := 9) (n := 9) hts wsX40_in (hts (.instantiable RX4 9) (by first | exact gt_1 _ (gp_16 (gp_16 gp_h)) | decide +kernel))
  obtain ⟨c5, i5, k5⟩ := u_known (C := RX5) (T := TX5) (N := 2) (n := 2) hts wsX50_in (hts (.instantiable RX5 2) (by first | exact gt_2 _ (gp_64 (gp_64 (gp_16 (gp_4 (gp_1 (gp_1 gp_h)))))) | decide +kernel))
  obtain ⟨c6, i6, k6⟩ := u_known (C := RX6) (T := TX6) (N := 4) (n := 4) hts wsX60_in (hts (.instantiable RX6 4) (by first | exact gt_1 _ (gp_64 (gp_64 (gp_16 (gp_1 gp_h)))) | decide +kernel))
  obtain ⟨c7, i7, k7⟩ := u_known (C := RX7) (T := TX7) (N := 8) (n := 8) hts wsX70_in (hts (.instantiable RX7 8) (by first | exact gt_1 _ (gp_64 (gp_64 (gp_64 (gp_16 (gp_4 (gp_1 gp_h)))))) | decide +kernel))
  obtain ⟨c8, i8, k8⟩ := u_known (C := RX8) (T := TX8) (N := 12) (n := 12) hts wsX80_in (hts (.instantiable RX8 12) (by first | exact gt_1 _ (gp_16 (gp_1 (gp_1 (gp_1 gp_h)))) | decide +kernel))
  obtain ⟨c9, i9, k9⟩ := u_known (C := RX9) (T := TX9) (N := 51) (n := 51) hts wsX90_in (hts (.instantiable RX9 51) (by first | exact gt_4 _ (gp_4 (gp_4 (gp_1 (gp_1 gp_h)))) | decide +kernel))
  have a0 : va_AO RX0 s := va_AO.of (hts (.arrayOver (.object RX0)) (by first | exact gt_1 _ (gp_64 (gp_64 (gp_64 (gp_16 (gp_4 (gp_4 (gp_1 (gp_1 (gp_1 gp_h))))))))) | decide +kernel))
  have a3 : va_AO RX3 s := va_AO.of (hts (.arrayOver (.object RX3)) (by first | exact gt_1 _ (gp_64 (gp_16 (gp_4 gp_h))) | decide +kernel))
  have a4 : va_AO RX4 s := va_AO.of (hts (.arrayOver (.object RX4)) (by first | exact gt_1 _ (gp_16 (gp_4 (gp_4 (gp_4 (gp_1 (gp_1 (gp_1 gp_h))))))) | decide +kernel))
  have a5 : va_AO RX5 s := va_AO.of (hts (.arrayOver (.object RX5)) (by first | exact gt_1 _ (gp_64 (gp_4 (gp_4 (gp_4 gp_h)))) | decide +kernel))
  have a6 : va_AO RX6 s := va_AO.of (hts (.arrayOver (.object RX6)) (by first | exact gt_1 _ (gp_16 (gp_4 (gp_4 (gp_4 (gp_1 gp_h))))) | decide +kernel))
  have a7 : va_AO RX7 s := va_AO.of (hts (.arrayOver (.object RX7)) (by first | exact gt_1 _ (gp_16 (gp_4 (gp_4 (gp_1 (gp_1 (gp_1 gp_h)))))) | decide +kernel))
  obtain ⟨t0, r0⟩ := st_ar_int (hts (.arrayClass .int) (by first | exact gt_1 _ (gp_64 (gp_4 (gp_4 (gp_1 gp_h)))) | decide +kernel))
  obtain ⟨t1, r1⟩ := st_ar_long (hts (.arrayClass .long) (by first | exact gt_1 _ (gp_64 (gp_4 (gp_4 (gp_1 (gp_1 gp_h))))) | decide +kernel))
  obtain ⟨t2, r2⟩ := st_ar_boolean (hts (.arrayClass .boolean) (by first | exact gt_1 _ (gp_64 (gp_4 (gp_4 gp_h))) | decide +kernel))
  obtain ⟨t3, r3⟩ := st_ao a0
  obtain ⟨t4, r4⟩ := st_ao a3
  obtain ⟨t5, r5⟩ := st_ao a4
  obtain ⟨t6, r6⟩ := st_ao a5
  obtain ⟨t7, r7⟩ := st_ao a6
  obtain ⟨t8, r8⟩ := st_ao a7
  refine ⟨(fun k => match k with | 0 => c0 | 1 => c1 | 2 => c2 | 3 => c3 | 4 => c4 | 5 => c5 | 6 => c6 | 7 => c7 | 8 => c8 | _ => c9, fun k => match k with | 0 => i0 | 1 => i1 | 2 => i2 | 3 => i3 | 4 => i4 | 5 => i5 | 6 => i6 | 7 => i7 | 8 => i8 | _ => i9), fun k => match k with | 0 => t0 | 1 => t1 | 2 => t2 | 3 => t3 | 4 => t4 | 5 => t5 | 6 => t6 | 7 => t7 | _ => t8, ⟨⟨?_, ?_⟩, ?_⟩⟩
  · intro k q hq
    match k, hq with
    | 0, hq => cases hq; exact k0
    | 1, hq => cases hq; exact k1
    | 2, hq => cases hq; exact k2
    | 3, hq => cases hq; exact k3
    | 4, hq => cases hq; exact k4
    | 5, hq => cases hq; exact k5
    | 6, hq => cases hq; exact k6
    | 7, hq => cases hq; exact k7
    | 8, hq => cases hq; exact k8
    | 9, hq => cases hq; exact k9
    | k + 10, hq => simp [vwCl] at hq
  · intro k q hq
    match k, hq with
    | 0, hq => cases hq; exact r0
    | 1, hq => cases hq; exact r1
    | 2, hq => cases hq; exact r2
    | 3, hq => cases hq; exact r3
    | 4, hq => cases hq; exact r4
    | 5, hq => cases hq; exact r5
    | 6, hq => cases hq; exact r6
    | 7, hq => cases hq; exact r7
    | 8, hq => cases hq; exact r8
    | k + 9, hq => simp [tysL] at hq
  · exact ⟨va_Nw.of rfl (hts (.methodLinkNest RX7 39 yX8_isBelow RX8) (by first | exact gt_2 _ (gp_16 (gp_16 (gp_4 (gp_4 (gp_4 (gp_1 gp_h)))))) | decide +kernel)), va_Nw.of rfl (hts (.methodLinkNest RX7 47 yX8_isRowLane RX8) (by first | exact gt_2 _ (gp_64 (gp_64 (gp_64 (gp_16 (gp_16 (gp_1 gp_h)))))) | decide +kernel)), va_Nw.of rfl (hts (.methodLinkNest RX4 50 yX8_isRowLane RX8) (by first | exact gt_3 _ (gp_64 (gp_16 (gp_16 gp_h))) | decide +kernel)), ⟨va_Nw.of rfl (hts (.methodLinkNest RX8 31 yX4_init RX8) (by first | exact gt_1 _ (gp_16 (gp_16 (gp_1 gp_h))) | decide +kernel)), va_Nw.of rfl (hts (.methodLinkNest RX8 57 yX1_init RX8) (by first | exact gt_1 _ (gp_64 (gp_16 (gp_16 (gp_16 (gp_4 (gp_4 (gp_4 gp_h))))))) | decide +kernel)), va_Nw.of rfl (hts (.methodLinkNest RX8 62 yX6_init RX8) (by first | exact gt_1 _ (gp_64 (gp_64 (gp_16 (gp_1 (gp_1 gp_h))))) | decide +kernel)), va_Nw.of rfl (hts (.methodLinkNest RX2 21 yX3_init RX8) (by first | exact gt_1 _ (gp_64 (gp_16 (gp_4 (gp_1 (gp_1 gp_h))))) | decide +kernel))⟩, a0, a3, a4, a5, a6, a7⟩
set_option maxHeartbeats 4000000 in
set_option maxRecDepth 100000 in
theorem st_T {s : State} {A : Array Value} (hts : ∀ w ∈ lw_tbl, w.before A s = true) (hgv : (Jvm.Cond.and given_1 narrow_1).before A s = true) : TK s.heap.size s s.heap := by
  have hg := flat_of_before _ hgv
  obtain ⟨a183, -, -, -, h183, -⟩ := Cond.exactly_spec (hg (.exactly (.string "StateRecords" 183) "java/lang/String") (by decide +kernel))
  obtain ⟨a190, -, -, -, h190, -⟩ := Cond.exactly_spec (hg (.exactly (.string "StateRecords" 190) "java/lang/String") (by decide +kernel))
  obtain ⟨a198, -, -, -, h198, -⟩ := Cond.exactly_spec (hg (.exactly (.string "StateRecords" 198) "java/lang/String") (by decide +kernel))
  obtain ⟨a201, -, -, -, h201, -⟩ := Cond.exactly_spec (hg (.exactly (.string "StateRecords" 201) "java/lang/String") (by decide +kernel))
  obtain ⟨a203, -, -, -, h203, -⟩ := Cond.exactly_spec (hg (.exactly (.string "StateRecords" 203) "java/lang/String") (by decide +kernel))
  refine ⟨⟨⟨a183, vk_R.of (hts (.stringRef RX8 183 "no such thing") (by first | exact gt_3 _ (gp_64 (gp_64 (gp_16 (gp_16 (gp_16 (gp_4 gp_h)))))) | decide +kernel)) h183⟩, ⟨a190, vk_R.of (hts (.stringRef RX8 190 "no such field") (by first | exact gt_3 _ (gp_64 (gp_64 (gp_64 (gp_16 (gp_4 (gp_4 gp_h)))))) | decide +kernel)) h190⟩, ⟨a198, vk_R.of (hts (.stringRef RX8 198 "no lane of rows") (by first | exact gt_4 _ (gp_h) | decide +kernel)) h198⟩, ⟨a201, vk_R.of (hts (.stringRef RX8 201 "no row") (by first | exact gt_4 _ (gp_4 (gp_1 (gp_1 (gp_1 gp_h)))) | decide +kernel)) h201⟩, ⟨a203, vk_R.of (hts (.stringRef RX8 203 "no such item") (by first | exact gt_4 _ (gp_4 (gp_4 gp_h)) | decide +kernel)) h203⟩⟩, ⟨va_Nw.of rfl (hts (.declares dI1) (by decide +kernel)), va_Nw.of rfl (hts (.declares dI2) (by decide +kernel)), va_Nw.of rfl (hts (.declares dI3) (by decide +kernel))⟩, ⟨va_Nw.of rfl (hts (.castable eA eA) (by decide +kernel)), va_Nw.of rfl (hts (.castable eI eI) (by decide +kernel)), va_Nw.of rfl (hts (.castable eS eS) (by decide +kernel))⟩, ⟨va_Nc.of (hg (.not (.castable eI eA)) (by decide +kernel)), va_Nc.of (hg (.not (.castable eS eA)) (by decide +kernel)), va_Nc.of (hg (.not (.castable eI eS)) (by decide +kernel))⟩, ?_, ?_⟩
  · exact vx_Zqof (hts (.laysStatic "java/lang/Throwable" "UNASSIGNED_STACK" "[Ljava/lang/StackTraceElement;") (by first | exact gt_3 _ (gp_64 (gp_64 (gp_16 (gp_16 (gp_4 (gp_1 (gp_1 gp_h))))))) | decide +kernel)) (hts (.initialized "java/lang/Throwable") (by first | exact gt_1 _ (gp_4 (gp_4 (gp_1 (gp_1 (gp_1 gp_h))))) | decide +kernel)) (hg (.isRef (.static "java/lang/Throwable" "UNASSIGNED_STACK" "[Ljava/lang/StackTraceElement;")) (by decide +kernel)) (fun a h => Nat.not_le.mpr h)
  · exact vx_Zqof (hts (.laysStatic "java/lang/Throwable" "SUPPRESSED_SENTINEL" "Ljava/util/List;") (by first | exact gt_3 _ (gp_64 (gp_64 (gp_16 (gp_16 (gp_4 (gp_4 gp_h)))))) | decide +kernel)) (hts (.initialized "java/lang/Throwable") (by first | exact gt_1 _ (gp_4 (gp_4 (gp_1 (gp_1 (gp_1 gp_h))))) | decide +kernel)) (hg (.isRef (.static "java/lang/Throwable" "SUPPRESSED_SENTINEL" "Ljava/util/List;")) (by decide +kernel)) (fun a h => Nat.not_le.mpr h)
end
section
/-! the reference and the law's row come into the world: printed by wip/tools/born9.py -/
def K9 : List Nat := [40, 42, 44, 45, 46, 47, 48, 49, 50, 51, 52, 53, 55, 56, 57, 58, 59, 60, 62, 64, 65, 66, 67, 68, 70, 71, 72, 73, 74, 75, 76, 77, 78, 79, 80, 81, 85, 86, 87, 88, 89, 90, 100]
def X9n (X : Nat → Int → Int → Int) : Nat → Int → Int → Int := fun k i j => if k = 40 ∧ i = 0 ∧ (j = 41 ∨ j = 42 ∨ j = 43) then -9 else X k i j
theorem X9n_k {X : Nat → Int → Int → Int} {k : Nat} (h : k ≠ 40) (i : Int) : X9n X k i = X k i := by funext j; simp [X9n, h]
theorem X9n_j {X : Nat → Int → Int → Int} {k : Nat} {i j : Int} (h : j ≠ 41 ∧ j ≠ 42 ∧ j ≠ 43) : X9n X k i j = X k i j := by simp only [X9n]; rw [if_neg (fun q => by omega)]
theorem X9n_9 {X : Nat → Int → Int → Int} {j : Int} (h : j = 41 ∨ j = 42 ∨ j = 43) : X9n X 40 0 j = -9 := by show (if 40 = 40 ∧ (0 : Int) = 0 ∧ (j = 41 ∨ j = 42 ∨ j = 43) then (-9 : Int) else X 40 0 j) = -9; exact if_pos ⟨rfl, rfl, h⟩
set_option maxHeartbeats 4000000 in
set_option maxRecDepth 100000 in
theorem born_mdl_o {tc : Nat → ClassId} {ad : Nat → Int → Nat} {X : Nat → Int → Int → Int} {Y : Nat → Int → Int → Option Int} {ln : Int → Int} {q1 q2 q3 q4 q5 q6 q7 q8 q9 q10 q11 q12 q13 q14 q15 q16 q17 q18 q19 q20 q21 q22 q23 q24 q25 q26 q27 q28 q29 q30 q31 q32 q33 q34 q35 q36 q37 q38 q39 q40 q41 : Nat} (hX : ∀ j, X 40 0 j = 0) (a42 : ad 42 0 = q1) (a44 : ad 44 0 = q2) (a45 : ad 45 0 = q3) (a46 : ad 46 0 = q4) (a47 : ad 47 0 = q5) (a48 : ad 48 0 = q6) (a49 : ad 49 0 = q7) (a50 : ad 50 0 = q8) (a51 : ad 51 0 = q9) (a52 : ad 52 0 = q10) (a53 : ad 53 0 = q11) (a55 : ad 55 0 = q12) (a56 : ad 56 0 = q13) (a57 : ad 57 0 = q14) (a58 : ad 58 0 = q15) (a59 : ad 59 0 = q16) (a60 : ad 60 0 = q17) (a62 : ad 62 0 = q18) (a64 : ad 64 0 = q19) (a65 : ad 65 0 = q20) (a66 : ad 66 0 = q21) (a67 : ad 67 0 = q22) (a68 : ad 68 0 = q23) (a70 : ad 70 0 = q24) (a71 : ad 71 0 = q25) (a72 : ad 72 0 = q26) (a73 : ad 73 0 = q27) (a74 : ad 74 0 = q28) (a75 : ad 75 0 = q29) (a76 : ad 76 0 = q30) (a77 : ad 77 0 = q31) (a78 : ad 78 0 = q32) (a79 : ad 79 0 = q33) (a80 : ad 80 0 = q34) (a81 : ad 81 0 = q35) (a85 : ad 85 0 = q36) (a86 : ad 86 0 = q37) (a87 : ad 87 0 = q38) (a88 : ad 88 0 = q39) (a89 : ad 89 0 = q40) (a90 : ad 90 0 = q41) : ceE tc ad (X9n X) Y ln 40 0 = .inr (9, [.int 0, .ref q1, .int 0, .ref q2, .ref q3, .ref q4, .ref q5, .ref q6, .ref q7, .ref q8, .ref q9, .ref q10, .ref q11, .int 0, .ref q12, .ref q13, .ref q14, .ref q15, .ref q16, .ref q17, .int 0, .ref q18, .int 0, .ref q19, .ref q20, .ref q21, .ref q22, .ref q23, .int 0, .ref q24, .ref q25, .ref q26, .ref q27, .ref q28, .ref q29, .ref q30, .ref q31, .ref q32, .ref q33, .ref q34, .ref q35, .int (jI (-9)), .int (jI (-9)), .int (jI (-9)), .ref q36, .ref q37, .ref q38, .ref q39, .ref q40, .ref q41, .int 0]) := by
  rw [ob_E sl_40_0]
  have t0 : slo 40 0 = (0, 0) := sl_40_0.2.2.1
  have t1 : slo 40 1 = (3, 42) := sl_40_1.2.2.1
  have t2 : slo 40 2 = (0, 0) := sl_40_2.2.2.1
  have t3 : slo 40 3 = (3, 44) := sl_40_3.2.2.1
  have t4 : slo 40 4 = (3, 45) := sl_40_4.2.2.1
  have t5 : slo 40 5 = (3, 46) := sl_40_5.2.2.1
  have t6 : slo 40 6 = (3, 47) := sl_40_6.2.2.1
  have t7 : slo 40 7 = (3, 48) := sl_40_7.2.2.1
  have t8 : slo 40 8 = (3, 49) := sl_40_8.2.2.1
  have t9 : slo 40 9 = (3, 50) := sl_40_9.2.2.1
  have t10 : slo 40 10 = (3, 51) := sl_40_10.2.2.1
  have t11 : slo 40 11 = (3, 52) := sl_40_11.2.2.1
  have t12 : slo 40 12 = (3, 53) := sl_40_12.2.2.1
  have t13 : slo 40 13 = (0, 0) := sl_40_13.2.2.1
  have t14 : slo 40 14 = (3, 55) := sl_40_14.2.2.1
  have t15 : slo 40 15 = (3, 56) := sl_40_15.2.2.1
  have t16 : slo 40 16 = (3, 57) := sl_40_16.2.2.1
  have t17 : slo 40 17 = (3, 58) := sl_40_17.2.2.1
  have t18 : slo 40 18 = (3, 59) := sl_40_18.2.2.1
  have t19 : slo 40 19 = (3, 60) := sl_40_19.2.2.1
  have t20 : slo 40 20 = (0, 0) := sl_40_20.2.2.1
  have t21 : slo 40 21 = (3, 62) := sl_40_21.2.2.1
  have t22 : slo 40 22 = (0, 0) := sl_40_22.2.2.1
  have t23 : slo 40 23 = (3, 64) := sl_40_23.2.2.1
  have t24 : slo 40 24 = (3, 65) := sl_40_24.2.2.1
  have t25 : slo 40 25 = (3, 66) := sl_40_25.2.2.1
  have t26 : slo 40 26 = (3, 67) := sl_40_26.2.2.1
  have t27 : slo 40 27 = (3, 68) := sl_40_27.2.2.1
  have t28 : slo 40 28 = (0, 0) := sl_40_28.2.2.1
  have t29 : slo 40 29 = (3, 70) := sl_40_29.2.2.1
  have t30 : slo 40 30 = (3, 71) := sl_40_30.2.2.1
  have t31 : slo 40 31 = (3, 72) := sl_40_31.2.2.1
  have t32 : slo 40 32 = (3, 73) := sl_40_32.2.2.1
  have t33 : slo 40 33 = (3, 74) := sl_40_33.2.2.1
  have t34 : slo 40 34 = (3, 75) := sl_40_34.2.2.1
  have t35 : slo 40 35 = (3, 76) := sl_40_35.2.2.1
  have t36 : slo 40 36 = (3, 77) := sl_40_36.2.2.1
  have t37 : slo 40 37 = (3, 78) := sl_40_37.2.2.1
  have t38 : slo 40 38 = (3, 79) := sl_40_38.2.2.1
  have t39 : slo 40 39 = (3, 80) := sl_40_39.2.2.1
  have t40 : slo 40 40 = (3, 81) := sl_40_40.2.2.1
  have t41 : slo 40 41 = (0, 0) := sl_40_41.2.2.1
  have t42 : slo 40 42 = (0, 0) := sl_40_42.2.2.1
  have t43 : slo 40 43 = (0, 0) := sl_40_43.2.2.1
  have t44 : slo 40 44 = (3, 85) := sl_40_44.2.2.1
  have t45 : slo 40 45 = (3, 86) := sl_40_45.2.2.1
  have t46 : slo 40 46 = (3, 87) := sl_40_46.2.2.1
  have t47 : slo 40 47 = (3, 88) := sl_40_47.2.2.1
  have t48 : slo 40 48 = (3, 89) := sl_40_48.2.2.1
  have t49 : slo 40 49 = (3, 90) := sl_40_49.2.2.1
  have t50 : slo 40 50 = (0, 0) := sl_40_50.2.2.1
  have x0 : X9n X 40 0 ((0 : Nat) : Int) = 0 := by rw [X9n_j (by omega)]; exact hX _
  have x2 : X9n X 40 0 ((2 : Nat) : Int) = 0 := by rw [X9n_j (by omega)]; exact hX _
  have x13 : X9n X 40 0 ((13 : Nat) : Int) = 0 := by rw [X9n_j (by omega)]; exact hX _
  have x20 : X9n X 40 0 ((20 : Nat) : Int) = 0 := by rw [X9n_j (by omega)]; exact hX _
  have x22 : X9n X 40 0 ((22 : Nat) : Int) = 0 := by rw [X9n_j (by omega)]; exact hX _
  have x28 : X9n X 40 0 ((28 : Nat) : Int) = 0 := by rw [X9n_j (by omega)]; exact hX _
  have x41 : X9n X 40 0 ((41 : Nat) : Int) = -9 := X9n_9 (by omega)
  have x42 : X9n X 40 0 ((42 : Nat) : Int) = -9 := X9n_9 (by omega)
  have x43 : X9n X 40 0 ((43 : Nat) : Int) = -9 := X9n_9 (by omega)
  have x50 : X9n X 40 0 ((50 : Nat) : Int) = 0 := by rw [X9n_j (by omega)]; exact hX _
  have hz : jI 0 = 0 := by decide
  have hi : ∀ z : Int, slV ad (X9n X) Y 40 0 0 (0, 0) = slV ad (X9n X) Y 40 0 0 (0, 0) := fun _ => rfl
  have s0 : slV ad (X9n X) Y 40 0 0 (slo 40 0) = .int 0 := by rw [t0]; show Value.int (jI (X9n X 40 0 ((0 : Nat) : Int))) = _; rw [x0, hz]
  have s1 : slV ad (X9n X) Y 40 0 1 (slo 40 1) = .ref q1 := by rw [t1]; show Value.ref (ad 42 0) = _; rw [a42]
  have s2 : slV ad (X9n X) Y 40 0 2 (slo 40 2) = .int 0 := by rw [t2]; show Value.int (jI (X9n X 40 0 ((2 : Nat) : Int))) = _; rw [x2, hz]
  have s3 : slV ad (X9n X) Y 40 0 3 (slo 40 3) = .ref q2 := by rw [t3]; show Value.ref (ad 44 0) = _; rw [a44]
  have s4 : slV ad (X9n X) Y 40 0 4 (slo 40 4) = .ref q3 := by rw [t4]; show Value.ref (ad 45 0) = _; rw [a45]
  have s5 : slV ad (X9n X) Y 40 0 5 (slo 40 5) = .ref q4 := by rw [t5]; show Value.ref (ad 46 0) = _; rw [a46]
  have s6 : slV ad (X9n X) Y 40 0 6 (slo 40 6) = .ref q5 := by rw [t6]; show Value.ref (ad 47 0) = _; rw [a47]
  have s7 : slV ad (X9n X) Y 40 0 7 (slo 40 7) = .ref q6 := by rw [t7]; show Value.ref (ad 48 0) = _; rw [a48]
  have s8 : slV ad (X9n X) Y 40 0 8 (slo 40 8) = .ref q7 := by rw [t8]; show Value.ref (ad 49 0) = _; rw [a49]
  have s9 : slV ad (X9n X) Y 40 0 9 (slo 40 9) = .ref q8 := by rw [t9]; show Value.ref (ad 50 0) = _; rw [a50]
  have s10 : slV ad (X9n X) Y 40 0 10 (slo 40 10) = .ref q9 := by rw [t10]; show Value.ref (ad 51 0) = _; rw [a51]
  have s11 : slV ad (X9n X) Y 40 0 11 (slo 40 11) = .ref q10 := by rw [t11]; show Value.ref (ad 52 0) = _; rw [a52]
  have s12 : slV ad (X9n X) Y 40 0 12 (slo 40 12) = .ref q11 := by rw [t12]; show Value.ref (ad 53 0) = _; rw [a53]
  have s13 : slV ad (X9n X) Y 40 0 13 (slo 40 13) = .int 0 := by rw [t13]; show Value.int (jI (X9n X 40 0 ((13 : Nat) : Int))) = _; rw [x13, hz]
  have s14 : slV ad (X9n X) Y 40 0 14 (slo 40 14) = .ref q12 := by rw [t14]; show Value.ref (ad 55 0) = _; rw [a55]
  have s15 : slV ad (X9n X) Y 40 0 15 (slo 40 15) = .ref q13 := by rw [t15]; show Value.ref (ad 56 0) = _; rw [a56]
  have s16 : slV ad (X9n X) Y 40 0 16 (slo 40 16) = .ref q14 := by rw [t16]; show Value.ref (ad 57 0) = _; rw [a57]
  have s17 : slV ad (X9n X) Y 40 0 17 (slo 40 17) = .ref q15 := by rw [t17]; show Value.ref (ad 58 0) = _; rw [a58]
  have s18 : slV ad (X9n X) Y 40 0 18 (slo 40 18) = .ref q16 := by rw [t18]; show Value.ref (ad 59 0) = _; rw [a59]
  have s19 : slV ad (X9n X) Y 40 0 19 (slo 40 19) = .ref q17 := by rw [t19]; show Value.ref (ad 60 0) = _; rw [a60]
  have s20 : slV ad (X9n X) Y 40 0 20 (slo 40 20) = .int 0 := by rw [t20]; show Value.int (jI (X9n X 40 0 ((20 : Nat) : Int))) = _; rw [x20, hz]
  have s21 : slV ad (X9n X) Y 40 0 21 (slo 40 21) = .ref q18 := by rw [t21]; show Value.ref (ad 62 0) = _; rw [a62]
  have s22 : slV ad (X9n X) Y 40 0 22 (slo 40 22) = .int 0 := by rw [t22]; show Value.int (jI (X9n X 40 0 ((22 : Nat) : Int))) = _; rw [x22, hz]
  have s23 : slV ad (X9n X) Y 40 0 23 (slo 40 23) = .ref q19 := by rw [t23]; show Value.ref (ad 64 0) = _; rw [a64]
  have s24 : slV ad (X9n X) Y 40 0 24 (slo 40 24) = .ref q20 := by rw [t24]; show Value.ref (ad 65 0) = _; rw [a65]
  have s25 : slV ad (X9n X) Y 40 0 25 (slo 40 25) = .ref q21 := by rw [t25]; show Value.ref (ad 66 0) = _; rw [a66]
  have s26 : slV ad (X9n X) Y 40 0 26 (slo 40 26) = .ref q22 := by rw [t26]; show Value.ref (ad 67 0) = _; rw [a67]
  have s27 : slV ad (X9n X) Y 40 0 27 (slo 40 27) = .ref q23 := by rw [t27]; show Value.ref (ad 68 0) = _; rw [a68]
  have s28 : slV ad (X9n X) Y 40 0 28 (slo 40 28) = .int 0 := by rw [t28]; show Value.int (jI (X9n X 40 0 ((28 : Nat) : Int))) = _; rw [x28, hz]
  have s29 : slV ad (X9n X) Y 40 0 29 (slo 40 29) = .ref q24 := by rw [t29]; show Value.ref (ad 70 0) = _; rw [a70]
  have s30 : slV ad (X9n X) Y 40 0 30 (slo 40 30) = .ref q25 := by rw [t30]; show Value.ref (ad 71 0) = _; rw [a71]
  have s31 : slV ad (X9n X) Y 40 0 31 (slo 40 31) = .ref q26 := by rw [t31]; show Value.ref (ad 72 0) = _; rw [a72]
  have s32 : slV ad (X9n X) Y 40 0 32 (slo 40 32) = .ref q27 := by rw [t32]; show Value.ref (ad 73 0) = _; rw [a73]
  have s33 : slV ad (X9n X) Y 40 0 33 (slo 40 33) = .ref q28 := by rw [t33]; show Value.ref (ad 74 0) = _; rw [a74]
  have s34 : slV ad (X9n X) Y 40 0 34 (slo 40 34) = .ref q29 := by rw [t34]; show Value.ref (ad 75 0) = _; rw [a75]
  have s35 : slV ad (X9n X) Y 40 0 35 (slo 40 35) = .ref q30 := by rw [t35]; show Value.ref (ad 76 0) = _; rw [a76]
  have s36 : slV ad (X9n X) Y 40 0 36 (slo 40 36) = .ref q31 := by rw [t36]; show Value.ref (ad 77 0) = _; rw [a77]
  have s37 : slV ad (X9n X) Y 40 0 37 (slo 40 37) = .ref q32 := by rw [t37]; show Value.ref (ad 78 0) = _; rw [a78]
  have s38 : slV ad (X9n X) Y 40 0 38 (slo 40 38) = .ref q33 := by rw [t38]; show Value.ref (ad 79 0) = _; rw [a79]
  have s39 : slV ad (X9n X) Y 40 0 39 (slo 40 39) = .ref q34 := by rw [t39]; show Value.ref (ad 80 0) = _; rw [a80]
  have s40 : slV ad (X9n X) Y 40 0 40 (slo 40 40) = .ref q35 := by rw [t40]; show Value.ref (ad 81 0) = _; rw [a81]
  have s41 : slV ad (X9n X) Y 40 0 41 (slo 40 41) = .int (jI (-9)) := by rw [t41]; show Value.int (jI (X9n X 40 0 ((41 : Nat) : Int))) = _; rw [x41]
  have s42 : slV ad (X9n X) Y 40 0 42 (slo 40 42) = .int (jI (-9)) := by rw [t42]; show Value.int (jI (X9n X 40 0 ((42 : Nat) : Int))) = _; rw [x42]
  have s43 : slV ad (X9n X) Y 40 0 43 (slo 40 43) = .int (jI (-9)) := by rw [t43]; show Value.int (jI (X9n X 40 0 ((43 : Nat) : Int))) = _; rw [x43]
  have s44 : slV ad (X9n X) Y 40 0 44 (slo 40 44) = .ref q36 := by rw [t44]; show Value.ref (ad 85 0) = _; rw [a85]
  have s45 : slV ad (X9n X) Y 40 0 45 (slo 40 45) = .ref q37 := by rw [t45]; show Value.ref (ad 86 0) = _; rw [a86]
  have s46 : slV ad (X9n X) Y 40 0 46 (slo 40 46) = .ref q38 := by rw [t46]; show Value.ref (ad 87 0) = _; rw [a87]
  have s47 : slV ad (X9n X) Y 40 0 47 (slo 40 47) = .ref q39 := by rw [t47]; show Value.ref (ad 88 0) = _; rw [a88]
  have s48 : slV ad (X9n X) Y 40 0 48 (slo 40 48) = .ref q40 := by rw [t48]; show Value.ref (ad 89 0) = _; rw [a89]
  have s49 : slV ad (X9n X) Y 40 0 49 (slo 40 49) = .ref q41 := by rw [t49]; show Value.ref (ad 90 0) = _; rw [a90]
  have s50 : slV ad (X9n X) Y 40 0 50 (slo 40 50) = .int 0 := by rw [t50]; show Value.int (jI (X9n X 40 0 ((50 : Nat) : Int))) = _; rw [x50, hz]
  simp only [List.range, List.range.loop, List.map, s0, s1, s2, s3, s4, s5, s6, s7, s8, s9, s10, s11, s12, s13, s14, s15, s16, s17, s18, s19, s20, s21, s22, s23, s24, s25, s26, s27, s28, s29, s30, s31, s32, s33, s34, s35, s36, s37, s38, s39, s40, s41, s42, s43, s44, s45, s46, s47, s48, s49, s50]
theorem born_mdl_a {tc : Nat → ClassId} {ad : Nat → Int → Nat} {X : Nat → Int → Int → Int} {Y : Nat → Int → Int → Option Int} {ln : Int → Int} {k : Nat} (hk : k ≠ 40) (h27 : k ≠ 27) (hX : ∀ j, X k 0 j = 0) (hY : ∀ j, Y k 0 j = none) : ceE tc ad (X9n X) Y ln k 0 = rawE tc (fun t => ad t 0) k := ceE_raw h27 (fun j => by rw [X9n_k hk]; exact hX j) hY
set_option maxHeartbeats 4000000 in
set_option maxRecDepth 100000 in
theorem born_mdl {D : va_G} {tc : Nat → ClassId} {base : Nat} {H : Heap} {ad : Nat → Int → Nat} {cnt : Nat → Int} {X : Nat → Int → Int → Int} {Y : Nat → Int → Int → Option Int} {ln : Int → Int} {h0 h1 h2 q1 q2 q3 q4 q5 q6 q7 q8 q9 q10 q11 q12 q13 q14 q15 q16 q17 q18 q19 q20 q21 q22 q23 q24 q25 q26 q27 q28 q29 q30 q31 q32 q33 q34 q35 q36 q37 q38 q39 q40 q41 : Nat} (hw : wx D tc base (ad, cnt, X, Y, ln) ([(h1, .inr (9, [.int 0, .ref q1, .int 0, .ref q2, .ref q3, .ref q4, .ref q5, .ref q6, .ref q7, .ref q8, .ref q9, .ref q10, .ref q11, .int 0, .ref q12, .ref q13, .ref q14, .ref q15, .ref q16, .ref q17, .int 0, .ref q18, .int 0, .ref q19, .ref q20, .ref q21, .ref q22, .ref q23, .int 0, .ref q24, .ref q25, .ref q26, .ref q27, .ref q28, .ref q29, .ref q30, .ref q31, .ref q32, .ref q33, .ref q34, .ref q35, .int (jI (-9)), .int (jI (-9)), .int (jI (-9)), .ref q36, .ref q37, .ref q38, .ref q39, .ref q40, .ref q41, .int 0])), (q1, .inl (tc 2, (16 : Int).toNat, .inl (fun _ => 0))), (q2, .inl (tc 0, (8 : Int).toNat, .inl (fun _ => 0))), (q3, .inl (tc 0, (40 : Int).toNat, .inl (fun _ => 0))), (q4, .inl (tc 0, (40 : Int).toNat, .inl (fun _ => 0))), (q5, .inl (tc 1, (40 : Int).toNat, .inr (.inl (fun _ => 0)))), (q6, .inl (tc 2, (40 : Int).toNat, .inl (fun _ => 0))), (q7, .inl (tc 0, (8 : Int).toNat, .inl (fun _ => 0))), (q8, .inl (tc 0, (32 : Int).toNat, .inl (fun _ => 0))), (q9, .inl (tc 0, (32 : Int).toNat, .inl (fun _ => 0))), (q10, .inl (tc 0, (32 : Int).toNat, .inl (fun _ => 0))), (q11, .inl (tc 1, (32 : Int).toNat, .inr (.inl (fun _ => 0)))), (q12, .inl (tc 0, (30 : Int).toNat, .inl (fun _ => 0))), (q13, .inl (tc 1, (150 : Int).toNat, .inr (.inl (fun _ => 0)))), (q14, .inl (tc 0, (400 : Int).toNat, .inl (fun _ => 0))), (q15, .inl (tc 0, (400 : Int).toNat, .inl (fun _ => 0))), (q16, .inl (tc 1, (4800 : Int).toNat, .inr (.inl (fun _ => 0)))), (q17, .inl (tc 2, (400 : Int).toNat, .inl (fun _ => 0))), (q18, .inl (tc 0, (4 : Int).toNat, .inl (fun _ => 0))), (q19, .inl (tc 0, (80 : Int).toNat, .inl (fun _ => 0))), (q20, .inl (tc 0, (80 : Int).toNat, .inl (fun _ => 0))), (q21, .inl (tc 0, (80 : Int).toNat, .inl (fun _ => 0))), (q22, .inl (tc 0, (80 : Int).toNat, .inl (fun _ => 0))), (q23, .inl (tc 1, (80 : Int).toNat, .inr (.inl (fun _ => 0)))), (q24, .inl (tc 0, (5 : Int).toNat, .inl (fun _ => 0))), (q25, .inl (tc 0, (150 : Int).toNat, .inl (fun _ => 0))), (q26, .inl (tc 0, (150 : Int).toNat, .inl (fun _ => 0))), (q27, .inl (tc 0, (750 : Int).toNat, .inl (fun _ => 0))), (q28, .inl (tc 0, (750 : Int).toNat, .inl (fun _ => 0))), (q29, .inl (tc 1, (750 : Int).toNat, .inr (.inl (fun _ => 0)))), (q30, .inl (tc 0, (5 : Int).toNat, .inl (fun _ => 0))), (q31, .inl (tc 0, (750 : Int).toNat, .inl (fun _ => 0))), (q32, .inl (tc 0, (750 : Int).toNat, .inl (fun _ => 0))), (q33, .inl (tc 1, (9000 : Int).toNat, .inr (.inl (fun _ => 0)))), (q34, .inl (tc 0, (30 : Int).toNat, .inl (fun _ => 0))), (q35, .inl (tc 0, (150 : Int).toNat, .inl (fun _ => 0))), (q36, .inl (tc 0, (450 : Int).toNat, .inl (fun _ => 0))), (q37, .inl (tc 0, (30 : Int).toNat, .inl (fun _ => 0))), (q38, .inl (tc 0, (30 : Int).toNat, .inl (fun _ => 0))), (q39, .inl (tc 0, (400 : Int).toNat, .inl (fun _ => 0))), (q40, .inl (tc 0, (400 : Int).toNat, .inl (fun _ => 0))), (q41, .inl (tc 0, (30 : Int).toNat, .inl (fun _ => 0)))] ++ [(h2, .inl (tc 1, (1 : Int).toNat, .inr (.inl (fun _ => 0))))]) H) (hn : ∀ k ∈ K9, cnt k = 0) (ho : Own cnt) (hz : Zr cnt X Y) : ∃ ad1 : Nat → Int → Nat, wd D tc base (ad1, upc cnt K9, X9n X, Y, ln) H ∧ ad1 40 0 = h1 ∧ ad1 100 0 = h2 ∧ ∀ k i, k ∉ K9 → ad1 k i = ad k i := by
  obtain ⟨ad1, hA⟩ : ∃ a : Nat → Int → Nat, a = up2 ad K9 0 (fun k => if k = 40 then h1 else if k = 42 then q1 else if k = 44 then q2 else if k = 45 then q3 else if k = 46 then q4 else if k = 47 then q5 else if k = 48 then q6 else if k = 49 then q7 else if k = 50 then q8 else if k = 51 then q9 else if k = 52 then q10 else if k = 53 then q11 else if k = 55 then q12 else if k = 56 then q13 else if k = 57 then q14 else if k = 58 then q15 else if k = 59 then q16 else if k = 60 then q17 else if k = 62 then q18 else if k = 64 then q19 else if k = 65 then q20 else if k = 66 then q21 else if k = 67 then q22 else if k = 68 then q23 else if k = 70 then q24 else if k = 71 then q25 else if k = 72 then q26 else if k = 73 then q27 else if k = 74 then q28 else if k = 75 then q29 else if k = 76 then q30 else if k = 77 then q31 else if k = 78 then q32 else if k = 79 then q33 else if k = 80 then q34 else if k = 81 then q35 else if k = 85 then q36 else if k = 86 then q37 else if k = 87 then q38 else if k = 88 then q39 else if k = 89 then q40 else if k = 90 then q41 else h2) := ⟨_, rfl⟩
  have a40 : ad1 40 0 = h1 := by rw [hA, up2_s (by decide)]; rfl
  have a42 : ad1 42 0 = q1 := by rw [hA, up2_s (by decide)]; rfl
  have a44 : ad1 44 0 = q2 := by rw [hA, up2_s (by decide)]; rfl
  have a45 : ad1 45 0 = q3 := by rw [hA, up2_s (by decide)]; rfl
  have a46 : ad1 46 0 = q4 := by rw [hA, up2_s (by decide)]; rfl
  have a47 : ad1 47 0 = q5 := by rw [hA, up2_s (by decide)]; rfl
  have a48 : ad1 48 0 = q6 := by rw [hA, up2_s (by decide)]; rfl
  have a49 : ad1 49 0 = q7 := by rw [hA, up2_s (by decide)]; rfl
  have a50 : ad1 50 0 = q8 := by rw [hA, up2_s (by decide)]; rfl
  have a51 : ad1 51 0 = q9 := by rw [hA, up2_s (by decide)]; rfl
  have a52 : ad1 52 0 = q10 := by rw [hA, up2_s (by decide)]; rfl
  have a53 : ad1 53 0 = q11 := by rw [hA, up2_s (by decide)]; rfl
  have a55 : ad1 55 0 = q12 := by rw [hA, up2_s (by decide)]; rfl
  have a56 : ad1 56 0 = q13 := by rw [hA, up2_s (by decide)]; rfl
  have a57 : ad1 57 0 = q14 := by rw [hA, up2_s (by decide)]; rfl
  have a58 : ad1 58 0 = q15 := by rw [hA, up2_s (by decide)]; rfl
  have a59 : ad1 59 0 = q16 := by rw [hA, up2_s (by decide)]; rfl
  have a60 : ad1 60 0 = q17 := by rw [hA, up2_s (by decide)]; rfl
  have a62 : ad1 62 0 = q18 := by rw [hA, up2_s (by decide)]; rfl
  have a64 : ad1 64 0 = q19 := by rw [hA, up2_s (by decide)]; rfl
  have a65 : ad1 65 0 = q20 := by rw [hA, up2_s (by decide)]; rfl
  have a66 : ad1 66 0 = q21 := by rw [hA, up2_s (by decide)]; rfl
  have a67 : ad1 67 0 = q22 := by rw [hA, up2_s (by decide)]; rfl
  have a68 : ad1 68 0 = q23 := by rw [hA, up2_s (by decide)]; rfl
  have a70 : ad1 70 0 = q24 := by rw [hA, up2_s (by decide)]; rfl
  have a71 : ad1 71 0 = q25 := by rw [hA, up2_s (by decide)]; rfl
  have a72 : ad1 72 0 = q26 := by rw [hA, up2_s (by decide)]; rfl
  have a73 : ad1 73 0 = q27 := by rw [hA, up2_s (by decide)]; rfl
  have a74 : ad1 74 0 = q28 := by rw [hA, up2_s (by decide)]; rfl
  have a75 : ad1 75 0 = q29 := by rw [hA, up2_s (by decide)]; rfl
  have a76 : ad1 76 0 = q30 := by rw [hA, up2_s (by decide)]; rfl
  have a77 : ad1 77 0 = q31 := by rw [hA, up2_s (by decide)]; rfl
  have a78 : ad1 78 0 = q32 := by rw [hA, up2_s (by decide)]; rfl
  have a79 : ad1 79 0 = q33 := by rw [hA, up2_s (by decide)]; rfl
  have a80 : ad1 80 0 = q34 := by rw [hA, up2_s (by decide)]; rfl
  have a81 : ad1 81 0 = q35 := by rw [hA, up2_s (by decide)]; rfl
  have a85 : ad1 85 0 = q36 := by rw [hA, up2_s (by decide)]; rfl
  have a86 : ad1 86 0 = q37 := by rw [hA, up2_s (by decide)]; rfl
  have a87 : ad1 87 0 = q38 := by rw [hA, up2_s (by decide)]; rfl
  have a88 : ad1 88 0 = q39 := by rw [hA, up2_s (by decide)]; rfl
  have a89 : ad1 89 0 = q40 := by rw [hA, up2_s (by decide)]; rfl
  have a90 : ad1 90 0 = q41 := by rw [hA, up2_s (by decide)]; rfl
  have a100 : ad1 100 0 = h2 := by rw [hA, up2_s (by decide)]; rfl
  have ao : ∀ k i, k ∉ K9 → ad1 k i = ad k i := fun k i h => by rw [hA, up2_k h]
  have ai : ∀ k i, i ≠ 0 → ad1 k i = ad k i := fun k i h => by rw [hA]; simp only [up2]; rw [if_neg (fun q => h q.2)]
  clear hA
  have hrf := wd_ref (wx_wd hw)
  have hX0 : ∀ k ∈ K9, ∀ j, X k 0 j = 0 := fun k hk j => (hz k 0 j (Or.inr (by rw [hn k hk]; omega))).1
  have hY0 : ∀ k ∈ K9, ∀ j, Y k 0 j = none := fun k hk j => (hz k 0 j (Or.inr (by rw [hn k hk]; omega))).2
  refine ⟨ad1, wx_wd (adopt (E := []) (NL := K9.map fun k => (k, (0 : Int))) hw ?_ (fun k i g0 g1 => ?_) ho (fun k i => ?_) ?_), a40, a100, ao⟩
  · have e40 : ceE tc ad1 (X9n X) Y ln 40 0 = .inr (9, [.int 0, .ref q1, .int 0, .ref q2, .ref q3, .ref q4, .ref q5, .ref q6, .ref q7, .ref q8, .ref q9, .ref q10, .ref q11, .int 0, .ref q12, .ref q13, .ref q14, .ref q15, .ref q16, .ref q17, .int 0, .ref q18, .int 0, .ref q19, .ref q20, .ref q21, .ref q22, .ref q23, .int 0, .ref q24, .ref q25, .ref q26, .ref q27, .ref q28, .ref q29, .ref q30, .ref q31, .ref q32, .ref q33, .ref q34, .ref q35, .int (jI (-9)), .int (jI (-9)), .int (jI (-9)), .ref q36, .ref q37, .ref q38, .ref q39, .ref q40, .ref q41, .int 0]) := born_mdl_o (hX0 40 (by decide)) a42 a44 a45 a46 a47 a48 a49 a50 a51 a52 a53 a55 a56 a57 a58 a59 a60 a62 a64 a65 a66 a67 a68 a70 a71 a72 a73 a74 a75 a76 a77 a78 a79 a80 a81 a85 a86 a87 a88 a89 a90
    have e42 : ceE tc ad1 (X9n X) Y ln 42 0 = .inl (tc 2, (16 : Int).toNat, .inl (fun _ => 0)) := (born_mdl_a (by decide) (by decide) (hX0 42 (by decide)) (hY0 42 (by decide))).trans rfl
    have e44 : ceE tc ad1 (X9n X) Y ln 44 0 = .inl (tc 0, (8 : Int).toNat, .inl (fun _ => 0)) := (born_mdl_a (by decide) (by decide) (hX0 44 (by decide)) (hY0 44 (by decide))).trans rfl
    have e45 : ceE tc ad1 (X9n X) Y ln 45 0 = .inl (tc 0, (40 : Int).toNat, .inl (fun _ => 0)) := (born_mdl_a (by decide) (by decide) (hX0 45 (by decide)) (hY0 45 (by decide))).trans rfl
    have e46 : ceE tc ad1 (X9n X) Y ln 46 0 = .inl (tc 0, (40 : Int).toNat, .inl (fun _ => 0)) := (born_mdl_a (by decide) (by decide) (hX0 46 (by decide)) (hY0 46 (by decide))).trans rfl
    have e47 : ceE tc ad1 (X9n X) Y ln 47 0 = .inl (tc 1, (40 : Int).toNat, .inr (.inl (fun _ => 0))) := (born_mdl_a (by decide) (by decide) (hX0 47 (by decide)) (hY0 47 (by decide))).trans rfl
    have e48 : ceE tc ad1 (X9n X) Y ln 48 0 = .inl (tc 2, (40 : Int).toNat, .inl (fun _ => 0)) := (born_mdl_a (by decide) (by decide) (hX0 48 (by decide)) (hY0 48 (by decide))).trans rfl
    have e49 : ceE tc ad1 (X9n X) Y ln 49 0 = .inl (tc 0, (8 : Int).toNat, .inl (fun _ => 0)) := (born_mdl_a (by decide) (by decide) (hX0 49 (by decide)) (hY0 49 (by decide))).trans rfl
    have e50 : ceE tc ad1 (X9n X) Y ln 50 0 = .inl (tc 0, (32 : Int).toNat, .inl (fun _ => 0)) := (born_mdl_a (by decide) (by decide) (hX0 50 (by decide)) (hY0 50 (by decide))).trans rfl
    have e51 : ceE tc ad1 (X9n X) Y ln 51 0 = .inl (tc 0, (32 : Int).toNat, .inl (fun _ => 0)) := (born_mdl_a (by decide) (by decide) (hX0 51 (by decide)) (hY0 51 (by decide))).trans rfl
    have e52 : ceE tc ad1 (X9n X) Y ln 52 0 = .inl (tc 0, (32 : Int).toNat, .inl (fun _ => 0)) := (born_mdl_a (by decide) (by decide) (hX0 52 (by decide)) (hY0 52 (by decide))).trans rfl
    have e53 : ceE tc ad1 (X9n X) Y ln 53 0 = .inl (tc 1, (32 : Int).toNat, .inr (.inl (fun _ => 0))) := (born_mdl_a (by decide) (by decide) (hX0 53 (by decide)) (hY0 53 (by decide))).trans rfl
    have e55 : ceE tc ad1 (X9n X) Y ln 55 0 = .inl (tc 0, (30 : Int).toNat, .inl (fun _ => 0)) := (born_mdl_a (by decide) (by decide) (hX0 55 (by decide)) (hY0 55 (by decide))).trans rfl
    have e56 : ceE tc ad1 (X9n X) Y ln 56 0 = .inl (tc 1, (150 : Int).toNat, .inr (.inl (fun _ => 0))) := (born_mdl_a (by decide) (by decide) (hX0 56 (by decide)) (hY0 56 (by decide))).trans rfl
    have e57 : ceE tc ad1 (X9n X) Y ln 57 0 = .inl (tc 0, (400 : Int).toNat, .inl (fun _ => 0)) := (born_mdl_a (by decide) (by decide) (hX0 57 (by decide)) (hY0 57 (by decide))).trans rfl
    have e58 : ceE tc ad1 (X9n X) Y ln 58 0 = .inl (tc 0, (400 : Int).toNat, .inl (fun _ => 0)) := (born_mdl_a (by decide) (by decide) (hX0 58 (by decide)) (hY0 58 (by decide))).trans rfl
    have e59 : ceE tc ad1 (X9n X) Y ln 59 0 = .inl (tc 1, (4800 : Int).toNat, .inr (.inl (fun _ => 0))) := (born_mdl_a (by decide) (by decide) (hX0 59 (by decide)) (hY0 59 (by decide))).trans rfl
    have e60 : ceE tc ad1 (X9n X) Y ln 60 0 = .inl (tc 2, (400 : Int).toNat, .inl (fun _ => 0)) := (born_mdl_a (by decide) (by decide) (hX0 60 (by decide)) (hY0 60 (by decide))).trans rfl
    have e62 : ceE tc ad1 (X9n X) Y ln 62 0 = .inl (tc 0, (4 : Int).toNat, .inl (fun _ => 0)) := (born_mdl_a (by decide) (by decide) (hX0 62 (by decide)) (hY0 62 (by decide))).trans rfl
    have e64 : ceE tc ad1 (X9n X) Y ln 64 0 = .inl (tc 0, (80 : Int).toNat, .inl (fun _ => 0)) := (born_mdl_a (by decide) (by decide) (hX0 64 (by decide)) (hY0 64 (by decide))).trans rfl
    have e65 : ceE tc ad1 (X9n X) Y ln 65 0 = .inl (tc 0, (80 : Int).toNat, .inl (fun _ => 0)) := (born_mdl_a (by decide) (by decide) (hX0 65 (by decide)) (hY0 65 (by decide))).trans rfl
    have e66 : ceE tc ad1 (X9n X) Y ln 66 0 = .inl (tc 0, (80 : Int).toNat, .inl (fun _ => 0)) := (born_mdl_a (by decide) (by decide) (hX0 66 (by decide)) (hY0 66 (by decide))).trans rfl
    have e67 : ceE tc ad1 (X9n X) Y ln 67 0 = .inl (tc 0, (80 : Int).toNat, .inl (fun _ => 0)) := (born_mdl_a (by decide) (by decide) (hX0 67 (by decide)) (hY0 67 (by decide))).trans rfl
    have e68 : ceE tc ad1 (X9n X) Y ln 68 0 = .inl (tc 1, (80 : Int).toNat, .inr (.inl (fun _ => 0))) := (born_mdl_a (by decide) (by decide) (hX0 68 (by decide)) (hY0 68 (by decide))).trans rfl
    have e70 : ceE tc ad1 (X9n X) Y ln 70 0 = .inl (tc 0, (5 : Int).toNat, .inl (fun _ => 0)) := (born_mdl_a (by decide) (by decide) (hX0 70 (by decide)) (hY0 70 (by decide))).trans rfl
    have e71 : ceE tc ad1 (X9n X) Y ln 71 0 = .inl (tc 0, (150 : Int).toNat, .inl (fun _ => 0)) := (born_mdl_a (by decide) (by decide) (hX0 71 (by decide)) (hY0 71 (by decide))).trans rfl
    have e72 : ceE tc ad1 (X9n X) Y ln 72 0 = .inl (tc 0, (150 : Int).toNat, .inl (fun _ => 0)) := (born_mdl_a (by decide) (by decide) (hX0 72 (by decide)) (hY0 72 (by decide))).trans rfl
    have e73 : ceE tc ad1 (X9n X) Y ln 73 0 = .inl (tc 0, (750 : Int).toNat, .inl (fun _ => 0)) := (born_mdl_a (by decide) (by decide) (hX0 73 (by decide)) (hY0 73 (by decide))).trans rfl
    have e74 : ceE tc ad1 (X9n X) Y ln 74 0 = .inl (tc 0, (750 : Int).toNat, .inl (fun _ => 0)) := (born_mdl_a (by decide) (by decide) (hX0 74 (by decide)) (hY0 74 (by decide))).trans rfl
    have e75 : ceE tc ad1 (X9n X) Y ln 75 0 = .inl (tc 1, (750 : Int).toNat, .inr (.inl (fun _ => 0))) := (born_mdl_a (by decide) (by decide) (hX0 75 (by decide)) (hY0 75 (by decide))).trans rfl
    have e76 : ceE tc ad1 (X9n X) Y ln 76 0 = .inl (tc 0, (5 : Int).toNat, .inl (fun _ => 0)) := (born_mdl_a (by decide) (by decide) (hX0 76 (by decide)) (hY0 76 (by decide))).trans rfl
    have e77 : ceE tc ad1 (X9n X) Y ln 77 0 = .inl (tc 0, (750 : Int).toNat, .inl (fun _ => 0)) := (born_mdl_a (by decide) (by decide) (hX0 77 (by decide)) (hY0 77 (by decide))).trans rfl
    have e78 : ceE tc ad1 (X9n X) Y ln 78 0 = .inl (tc 0, (750 : Int).toNat, .inl (fun _ => 0)) := (born_mdl_a (by decide) (by decide) (hX0 78 (by decide)) (hY0 78 (by decide))).trans rfl
    have e79 : ceE tc ad1 (X9n X) Y ln 79 0 = .inl (tc 1, (9000 : Int).toNat, .inr (.inl (fun _ => 0))) := (born_mdl_a (by decide) (by decide) (hX0 79 (by decide)) (hY0 79 (by decide))).trans rfl
    have e80 : ceE tc ad1 (X9n X) Y ln 80 0 = .inl (tc 0, (30 : Int).toNat, .inl (fun _ => 0)) := (born_mdl_a (by decide) (by decide) (hX0 80 (by decide)) (hY0 80 (by decide))).trans rfl
    have e81 : ceE tc ad1 (X9n X) Y ln 81 0 = .inl (tc 0, (150 : Int).toNat, .inl (fun _ => 0)) := (born_mdl_a (by decide) (by decide) (hX0 81 (by decide)) (hY0 81 (by decide))).trans rfl
    have e85 : ceE tc ad1 (X9n X) Y ln 85 0 = .inl (tc 0, (450 : Int).toNat, .inl (fun _ => 0)) := (born_mdl_a (by decide) (by decide) (hX0 85 (by decide)) (hY0 85 (by decide))).trans rfl
    have e86 : ceE tc ad1 (X9n X) Y ln 86 0 = .inl (tc 0, (30 : Int).toNat, .inl (fun _ => 0)) := (born_mdl_a (by decide) (by decide) (hX0 86 (by decide)) (hY0 86 (by decide))).trans rfl
    have e87 : ceE tc ad1 (X9n X) Y ln 87 0 = .inl (tc 0, (30 : Int).toNat, .inl (fun _ => 0)) := (born_mdl_a (by decide) (by decide) (hX0 87 (by decide)) (hY0 87 (by decide))).trans rfl
    have e88 : ceE tc ad1 (X9n X) Y ln 88 0 = .inl (tc 0, (400 : Int).toNat, .inl (fun _ => 0)) := (born_mdl_a (by decide) (by decide) (hX0 88 (by decide)) (hY0 88 (by decide))).trans rfl
    have e89 : ceE tc ad1 (X9n X) Y ln 89 0 = .inl (tc 0, (400 : Int).toNat, .inl (fun _ => 0)) := (born_mdl_a (by decide) (by decide) (hX0 89 (by decide)) (hY0 89 (by decide))).trans rfl
    have e90 : ceE tc ad1 (X9n X) Y ln 90 0 = .inl (tc 0, (30 : Int).toNat, .inl (fun _ => 0)) := (born_mdl_a (by decide) (by decide) (hX0 90 (by decide)) (hY0 90 (by decide))).trans rfl
    have e100 : ceE tc ad1 (X9n X) Y ln 100 0 = .inl (tc 1, (1 : Int).toNat, .inr (.inl (fun _ => 0))) := (born_mdl_a (by decide) (by decide) (hX0 100 (by decide)) (hY0 100 (by decide))).trans rfl
    simp only [wlE, K9, List.map, e40, e42, e44, e45, e46, e47, e48, e49, e50, e51, e52, e53, e55, e56, e57, e58, e59, e60, e62, e64, e65, e66, e67, e68, e70, e71, e72, e73, e74, e75, e76, e77, e78, e79, e80, e81, e85, e86, e87, e88, e89, e90, e100, a40, a42, a44, a45, a46, a47, a48, a49, a50, a51, a52, a53, a55, a56, a57, a58, a59, a60, a62, a64, a65, a66, a67, a68, a70, a71, a72, a73, a74, a75, a76, a77, a78, a79, a80, a81, a85, a86, a87, a88, a89, a90, a100]
    rfl
  · have hne : ¬ (k ∈ K9 ∧ i = 0) := fun q => by have := hn k q.1; omega
    have hk : k ∉ K9 := fun q => by have := hn k q; omega
    exact ⟨ao k i hk, X9n_k (fun q => hk (by rw [q]; decide)) i, rfl, fun _ => rfl⟩
  · simp only [upc]
    by_cases hk : k ∈ K9
    · have := hn k hk
      rw [if_pos hk]
      constructor
      · intro h
        exact Or.inr (List.mem_map.mpr ⟨k, hk, by rw [show i = 0 by omega]⟩)
      · rintro (h | h)
        · omega
        · obtain ⟨k', -, e⟩ := List.mem_map.mp h
          cases e
          omega
    · rw [if_neg hk]
      constructor
      · exact fun h => Or.inl h
      · rintro (h | h)
        · exact h
        · obtain ⟨k', hk', e⟩ := List.mem_map.mp h
          cases e
          exact absurd hk' hk
  · intro k i j t r g0 g1 hr e
    by_cases hm : k ∈ K9
    · exfalso
      rw [upc_s hm, hn k hm] at g1
      have h3 := hY0 k hm j
      rw [show i = 0 by omega, h3] at e
      cases e
    · rw [upc_k hm] at g1
      have := hrf k i j t r g0 g1 hr e
      have h2 : cnt t ≤ upc cnt K9 t := upc_le
      omega
theorem rng_z {X : Nat → Int → Int → Int} (hX : ∀ k i j, X k i j = if k = 3 ∧ i = 0 ∧ 0 ≤ j ∧ j < 16 then 1 else 0) : Rng (X9n X) := by
  have h0 : ∀ L ∈ rgL, ∀ q ∈ L, q.1 ≤ 0 ∧ 0 ≤ q.2 := by decide +kernel
  have hr : ∀ (k : Nat) (j : Int), (rg k j).1 ≤ 0 ∧ 0 ≤ (rg k j).2 := by
    intro k j
    unfold rg
    rw [List.getD_eq_getElem?_getD]
    rcases hq : (rgL.getD k [])[if (rgL.getD k []).length = 1 then 0 else j.toNat]? with _ | q
    · simp
    · simp only [Option.getD_some]
      rw [List.getD_eq_getElem?_getD] at hq
      rcases hk : rgL[k]? with _ | L
      · rw [hk] at hq; simp at hq
      · rw [hk, Option.getD_some] at hq
        exact h0 L (List.mem_of_getElem? hk) q (List.mem_of_getElem? hq)
  intro k i j
  by_cases h9 : k = 40 ∧ i = 0 ∧ (j = 41 ∨ j = 42 ∨ j = 43)
  · obtain ⟨rfl, rfl, h9⟩ := h9
    rw [X9n_9 h9]
    rcases h9 with rfl | rfl | rfl <;> decide +kernel
  · have e : X9n X k i j = X k i j := by simp only [X9n]; rw [if_neg h9]
    rw [e, hX]
    split
    · rename_i hc
      obtain ⟨rfl, -, -⟩ := hc
      show (0 : Int) ≤ 1 ∧ (1 : Int) ≤ 1
      decide
    · exact hr k j
theorem law_first {D : va_G} {tc : Nat → ClassId} {base : Nat} {H : Heap} {ad ad1 : Nat → Int → Nat} {cnt : Nat → Int} {X : Nat → Int → Int → Int} {Y : Nat → Int → Int → Option Int} {ln : Int → Int} {h0 h1 h2 : Nat} (hO : OI 30 16 4 h0 ad cnt X Y) (hln : LnOK ln) (hw : wd D tc base (ad1, upc cnt K9, X9n X, Y, ln) H) (e1 : ad1 40 0 = h1) (e2 : ad1 100 0 = h2) (ao : ∀ k i, k ∉ K9 → ad1 k i = ad k i) : LI h0 h1 h2 ad1 (upc cnt K9) (X9n X) Y ln := by
  obtain ⟨o1, ⟨s7, s15, s28, s29, s32, s0, sz⟩, o3, oX, o4, ⟨o6, o7⟩, o30, oOw, oZ⟩ := hO
  have hrf := wd_ref hw
  have x0 : ∀ k i j, k ≠ 3 → X k i j = 0 := fun k i j h => by rw [oX, if_neg (fun q => h q.1)]
  have x9 : ∀ k i j, k ≠ 3 → (j ≠ 41 ∧ j ≠ 42 ∧ j ≠ 43) → X9n X k i j = 0 := fun k i j h g => by rw [X9n_j g]; exact x0 k i j h
  have xk : ∀ k i j, k ≠ 3 → k ≠ 40 → X9n X k i j = 0 := fun k i j h g => by rw [X9n_k g]; exact x0 k i j h
  have c19 : upc cnt K9 19 = 0 := by rw [upc_k (by decide)]; exact sz 19 (by decide)
  have c25 : upc cnt K9 25 = 0 := by rw [upc_k (by decide)]; exact sz 25 (by decide)
  have c26 : upc cnt K9 26 = 0 := by rw [upc_k (by decide)]; exact sz 26 (by decide)
  have hfx : Fx (upc cnt K9) := by
    refine ⟨fun q hq => ?_, fun k hk => ?_, ?_⟩
    · have h9 : ∀ q ∈ fxL, (q.1 ∈ K9 ∧ q.1 ∉ K8 ∧ q.2 = 1) ∨ (q.1 ∉ K9 ∧ ((q.1 ∈ [7, 8, 9, 10, 11, 12, 13, 14] ∧ q.2 = 6) ∨ (q.1 ∈ [15, 16, 17] ∧ q.2 = 30) ∨ (q.1 = 28 ∧ q.2 = 80) ∨ (q.1 ∈ [29, 30, 31] ∧ q.2 = 1) ∨ (q.1 = 32 ∧ q.2 = 1) ∨ (q.1 ∈ [0, 1, 2, 3, 4, 5, 6] ∧ q.2 = 1))) := by decide +kernel
      rcases h9 q hq with ⟨g1, g2, g3⟩ | ⟨g1, g⟩
      · rw [upc_s g1, sz _ g2, g3]; rfl
      · rw [upc_k g1]
        rcases g with ⟨g, e⟩ | ⟨g, e⟩ | ⟨g, e⟩ | ⟨g, e⟩ | ⟨g, e⟩ | ⟨g, e⟩
        · rw [s7 _ g, e]; rfl
        · rw [s15 _ g, e]
        · rw [g, s28, e]
        · rw [s29 _ g, e]
        · rw [g, s32, e]
        · rw [s0 _ g, e]
    · have h9 : ∀ k ∈ [20, 21, 22, 23, 24], k ∉ K9 ∧ k ∉ K8 := by decide +kernel
      rw [upc_k (h9 k hk).1, sz _ (h9 k hk).2, c19]
    · rw [upc_k (by decide), sz 27 (by decide), c26]
  have how : Own (upc cnt K9) := Own.up oOw (by decide +kernel) (by decide +kernel)
  refine ⟨⟨by rw [ao 0 0 (by decide)]; exact o1, e1, e2, hfx, how, ⟨by omega, by omega⟩, hln, rng_z oX, ⟨o3, o30, ⟨fun q g0 g1 => by rw [o4 q g0 g1]; exact Option.some_ne_none _, by rw [o6]; exact Option.some_ne_none _, by rw [o7]; exact Option.some_ne_none _⟩, ⟨?_, ?_⟩, ?_, ?_, ?_, ?_⟩, ?_, ?_⟩, ?_⟩
  · rw [c19, x9 0 0 1 (by decide) (by decide)]
  · intro t g0 g1
    rw [x9 0 0 1 (by decide) (by decide)] at g1
    omega
  · intro x g0 g1
    rw [x9 0 0 3 (by decide) (by decide)] at g1
    omega
  · intro q j g0 g1
    rw [x9 0 0 1 (by decide) (by decide)] at g1
    omega
  · intro q r g0 g1 g2 g3
    rw [xk 7 q 0 (by decide) (by decide)] at g3
    omega
  · intro n g0 g1
    refine ⟨fun _ => by rw [xk 28 n 1 (by decide) (by decide)]; omega, fun _ w e => ?_⟩
    have h3 : upc cnt K9 28 = 80 := hfx.at 28 80 (by decide)
    have := hrf 28 n 3 26 w g0 (by omega) (Or.inr ⟨by decide +kernel, by decide +kernel⟩) e
    omega
  · intro q j g0 g1 g2 g3 g4
    rw [xk 11 q j (by decide) (by decide)] at g4
    omega
  · refine ⟨fun x k g0 g1 => ?_, fun t k g0 g1 g2 g3 => ?_, fun s r g0 g1 g2 g3 => ?_, fun n g0 g1 => ?_, ⟨fun _ => x9 40 0 22 (by decide) (by decide), fun _ => xk 62 0 0 (by decide) (by decide)⟩, fun x g0 g1 => ?_⟩
    · rw [x9 40 0 13 (by decide) (by decide)] at g1; omega
    · rw [xk 44 0 t (by decide) (by decide)] at g3; omega
    · rw [xk 70 0 s (by decide) (by decide)] at g3; omega
    · rw [x9 40 0 22 (by decide) (by decide)] at g1; omega
    · rw [x9 40 0 13 (by decide) (by decide)] at g1; omega
  · have c26' := c26
    have nlv : ∀ g r l, ¬ Lv Y (X9n X) g r l := by
      rintro g r l (⟨x, k, a, b, -⟩ | ⟨n, a, b, -⟩ | ⟨n, a, b, -⟩)
      · rw [x9 40 0 13 (by decide) (by decide)] at b; omega
      · rw [x9 40 0 22 (by decide) (by decide)] at b; omega
      · rw [x9 40 0 22 (by decide) (by decide)] at b; omega
    refine ⟨⟨by unfold rT; rw [x9 0 0 1 (by decide) (by decide), x9 40 0 2 (by decide) (by decide)], by unfold rM; rw [xk 29 0 3 (by decide) (by decide), x9 40 0 20 (by decide) (by decide)], fun w g0 g1 => by rw [X9n_k (by decide), oX, if_pos ⟨rfl, rfl, g0, g1⟩, xk 42 0 w (by decide) (by decide)]; rfl, fun t g0 g1 => by rw [x9 0 0 1 (by decide) (by decide)] at g1; omega, fun t g0 g1 => by rw [x9 0 0 1 (by decide) (by decide)] at g1; omega⟩, ⟨⟨⟨by rw [x9 0 0 3 (by decide) (by decide), x9 40 0 13 (by decide) (by decide)], fun x a b => ?_⟩, ⟨fun m a b => ?_, fun n a b => ?_⟩, ⟨fun g r l h => absurd h (nlv g r l), fun g r l g' r' l' h => absurd h (nlv g r l)⟩⟩, by rw [xk 29 0 1 (by decide) (by decide), x9 40 0 22 (by decide) (by decide)]⟩, fun t q a b => ?_, fun s g a b e => ?_, ⟨fun i i0 i1 => ?_, fun i j i0 i1 j0 j1 e => ?_⟩, fun t k k' a b => ?_⟩
    · rw [x9 40 0 13 (by decide) (by decide)] at b; omega
    · rw [x9 40 0 20 (by decide) (by decide)] at b; omega
    · rw [x9 40 0 22 (by decide) (by decide)] at b; omega
    · rw [x9 40 0 2 (by decide) (by decide)] at b; omega
    · have e70 : X9n X 70 0 s = 0 := xk 70 0 s (by decide) (by decide)
      exact ⟨by rw [xk 7 g 0 (by decide) (by decide), e70], fun w => by rw [e70] at w; omega, fun _ => xk 7 g 6 (by decide) (by decide), fun r r0 r1 => by rw [e70] at r1; omega, fun w w9 => by rw [e70] at w9; omega⟩
    · by_cases h4 : i < 4
      · refine ⟨2 + i, ?_, by omega, by omega⟩
        unfold sl6
        rw [if_pos h4]; exact o4 i i0 h4
      · by_cases h5 : i = 4
        · refine ⟨0, ?_, by decide, by decide⟩
          unfold sl6
          rw [if_neg h4, if_pos h5]; exact o6
        · refine ⟨1, ?_, by decide, by decide⟩
          unfold sl6
          rw [if_neg h4, if_neg h5]; exact o7
    · have sp : ∀ i, 0 ≤ i → i < 6 → sl6 Y i = some (if i < 4 then 2 + i else i - 4) := fun i i0 i1 => by
        unfold sl6
        by_cases h4 : i < 4
        · rw [if_pos h4, if_pos h4]; exact o4 i i0 h4
        · by_cases h5 : i = 4
          · rw [if_neg h4, if_pos h5, if_neg h4, h5]; exact o6
          · rw [if_neg h4, if_neg h5, if_neg h4, show i = 5 by omega]; exact o7
      rw [sp i i0 i1, sp j j0 j1] at e
      have e' := Option.some.inj e
      (repeat' split at e') <;> omega
    · rw [x9 40 0 2 (by decide) (by decide)] at b; omega
end
section
set_option maxHeartbeats 4000000 in
set_option maxRecDepth 100000 in
theorem st_empty {D : va_G} {tc : Nat → ClassId} {H : Heap} : wx D tc H.size ((fun _ _ => 0), (fun _ => 0), (fun _ _ _ => 0), (fun _ _ _ => none), (fun _ => 0)) [] H := by
  refine ⟨⟨[], fun k i => ⟨fun h => (by cases h), fun h => (by have h1 : 0 ≤ i ∧ i < 0 := h; omega)⟩, fun k q h => (by simp [wlE] at h), ⟨fun i j p q h => (by simp [wlE] at h), fun k q h => (by simp [wlE] at h)⟩⟩, fun k i j t i' h0 h1 => ?_, Nat.le_refl _⟩
  have h2 : i < 0 := h1
  omega
set_option maxHeartbeats 8000000 in
set_option maxRecDepth 100000 in
theorem whole_start {p : Program} {e : Env} {s : State} {m : MethodId} {below : List Frame} {meth : Method} {c : Code} (l : Launch) (hlT : l.stackTraces = false) {b L : Nat} {xs : Nat → Int32} (hL : L ≤ 3584) (C0 : lw_At p s m meth c b L xs) : W p l e room_1 s m #[Value.ref b] below meth c s.heap [] 0 0 (lw_Z below #[Value.ref b] s) (entryFrame m ([Value.ref b] : List Value).toArray 8) := by
  obtain ⟨hx, hb, hr, hml, hown, hts0, hX, hbl, hlocks, hgv⟩ := id C0
  have hown : s.vm.findClass RL = some m.cls := hown
  have hb : c.code = cL_law := hb
  obtain ⟨D, tc, hK⟩ := st_K hts0
  have hT := st_T hts0 hgv
  have hts : ∀ w ∈ lw_tbl, w.before #[Value.ref b] s = true := hts0
  have hS : va_S (frA s.heap.size) s.heap s.heap [] := va_S.rf
  have hl := lv_entry ([.ref b]) (n := 8) (Nat.le_of_ble_eq_true rfl)
  rw [lg_entry_eq]
  generalize (lg_sl ([.ref b]) ++ List.replicate (8 - (lg_sl ([.ref b])).length) Slot.unset).toArray = ls at hl ⊢
  have hl : lv_has ls 8 [(0, .ref b)] := hl
  have hf8 : fctx s m _ RL lw_tbl D tc RX8 TX8 12 8 := ⟨hts, wsX80_in, hown, hK.1, rfl⟩
  have hf9 : fctx s m _ RL lw_tbl D tc RX9 TX9 51 9 := ⟨hts, wsX90_in, hown, hK.1, rfl⟩
  refine g_new (E := []) (G := []) (ci := 8) (fs := [.null, .int 0, .null, .int 0, .null, .null, .null, .null, .null, .null, .null, .null]) hx hb hf8 ⟨tyX8_ok, nmX8⟩ (hts0 (.classLink RL 8 RX8) (by first | exact gt_1 _ (gp_16 (gp_1 (gp_1 gp_h))) | decide +kernel)) (hts0 (.instantiable RX8 12) (by first | exact gt_1 _ (gp_16 (gp_1 (gp_1 (gp_1 gp_h)))) | decide +kernel)) (hts0 (.initialized RX8) (by first | exact gt_1 _ (gp_1 gp_h) | decide +kernel)) (st_empty (D := D) (tc := tc)) hS (Nat.le_refl _) (fun j hj => by rcases (show j = 0 ∨ j = 1 ∨ j = 2 ∨ j = 3 ∨ j = 4 ∨ j = 5 ∨ j = 6 ∨ j = 7 ∨ j = 8 ∨ j = 9 ∨ j = 10 ∨ j = 11 by omega) with rfl | rfl | rfl | rfl | rfl | rfl | rfl | rfl | rfl | rfl | rfl | rfl <;> rfl) (show 0 + 1 ≤ 601024 by omega) (show 0 + 12 ≤ 7293034 by omega) dL_law_0 (fun q0 H hw hS => ?_)
  refine lv_dup hx hb dL_law_3 rfl ?_
  refine gos_x (run_I (As := []) (rest := [.ref q0]) hx hb hml hown hts (c_X8_init l D tc s.heap.size (fun _ _ => 0) (fun _ => 0) (fun _ _ _ => 0) (fun _ _ _ => none) (fun _ => 0) q0 (fun _ => rfl) (fun _ _ _ => rfl) (fun _ _ _ => rfl)) (cwI 0 hts ggT_X8_init rfl rfl rfl (hts0 (.initialized RX8) (by first | exact gt_1 _ (gp_1 gp_h) | decide +kernel)) (hts0 (.methodLink RL 23 yX8_init) (by first | exact gt_1 _ (gp_16 (gp_4 gp_h)) | decide +kernel)) (hts0 (.instanceMethod yX8_init) (by first | exact gt_1 _ (gp_16 (gp_4 (gp_1 gp_h))) | decide +kernel)) rfl (by decide +kernel) ⟨Nat.le_of_ble_eq_true rfl, Nat.le_of_ble_eq_true rfl⟩) hK hw rfl hl.1 rfl (Nat.le_of_ble_eq_true rfl) dL_law_4 ⟨show 0 + 1 + 228 ≤ 601024 by omega, show 0 + 12 + 16184 ≤ 7293034 by omega⟩) hS (fun u9 E9 H locs p9 hw hS => ?_)
  obtain ⟨ad, cnt, X, Y, rfl, rfl, hO⟩ := p9
  refine lv_astore_n (lv' := [(1, .ref q0), (0, .ref b)]) hx hb dL_law_7 rfl hl (by decide) rfl (fun ls hl => ?_)
  refine g_new (E := []) (G := []) (ci := 9) (fs := [.int 0, .null, .int 0, .null, .null, .null, .null, .null, .null, .null, .null, .null, .null, .int 0, .null, .null, .null, .null, .null, .null, .int 0, .null, .int 0, .null, .null, .null, .null, .null, .int 0, .null, .null, .null, .null, .null, .null, .null, .null, .null, .null, .null, .null, .int 0, .int 0, .int 0, .null, .null, .null, .null, .null, .null, .int 0]) hx hb hf9 ⟨tyX9_ok, nmX9⟩ (hts0 (.classLink RL 24 RX9) (by first | exact gt_4 _ (gp_4 (gp_4 (gp_1 gp_h))) | decide +kernel)) (hts0 (.instantiable RX9 51) (by first | exact gt_4 _ (gp_4 (gp_4 (gp_1 (gp_1 gp_h)))) | decide +kernel)) (hts0 (.initialized RX9) (by first | exact gt_1 _ (gp_4 (gp_1 (gp_1 (gp_1 gp_h)))) | decide +kernel)) hw hS (Nat.le_refl _) (fun j hj => by rcases (show j = 0 ∨ j = 1 ∨ j = 2 ∨ j = 3 ∨ j = 4 ∨ j = 5 ∨ j = 6 ∨ j = 7 ∨ j = 8 ∨ j = 9 ∨ j = 10 ∨ j = 11 ∨ j = 12 ∨ j = 13 ∨ j = 14 ∨ j = 15 ∨ j = 16 ∨ j = 17 ∨ j = 18 ∨ j = 19 ∨ j = 20 ∨ j = 21 ∨ j = 22 ∨ j = 23 ∨ j = 24 ∨ j = 25 ∨ j = 26 ∨ j = 27 ∨ j = 28 ∨ j = 29 ∨ j = 30 ∨ j = 31 ∨ j = 32 ∨ j = 33 ∨ j = 34 ∨ j = 35 ∨ j = 36 ∨ j = 37 ∨ j = 38 ∨ j = 39 ∨ j = 40 ∨ j = 41 ∨ j = 42 ∨ j = 43 ∨ j = 44 ∨ j = 45 ∨ j = 46 ∨ j = 47 ∨ j = 48 ∨ j = 49 ∨ j = 50 by omega) with rfl | rfl | rfl | rfl | rfl | rfl | rfl | rfl | rfl | rfl | rfl | rfl | rfl | rfl | rfl | rfl | rfl | rfl | rfl | rfl | rfl | rfl | rfl | rfl | rfl | rfl | rfl | rfl | rfl | rfl | rfl | rfl | rfl | rfl | rfl | rfl | rfl | rfl | rfl | rfl | rfl | rfl | rfl | rfl | rfl | rfl | rfl | rfl | rfl | rfl | rfl <;> rfl) (show 0 + 1 + 228 + 1 ≤ 601024 by omega) (show 0 + 12 + 16184 + 51 ≤ 7293034 by omega) dL_law_8 (fun h1 H hw hS => ?_)
  refine lv_dup hx hb dL_law_11 rfl ?_
  refine gos_x (run_I (As := []) (rest := [.ref h1]) hx hb hml hown hts (c_X9_init l D tc s.heap.size (ad, cnt, X, Y, fun _ => 0) [] h1) (cwI 0 hts ggT_X9_init rfl rfl rfl (hts0 (.initialized RX9) (by first | exact gt_1 _ (gp_4 (gp_1 (gp_1 (gp_1 gp_h)))) | decide +kernel)) (hts0 (.methodLink RL 26 yX9_init) (by first | exact gt_4 _ (gp_4 (gp_4 (gp_1 (gp_1 (gp_1 gp_h))))) | decide +kernel)) (hts0 (.instanceMethod yX9_init) (by first | exact gt_4 _ (gp_4 (gp_4 (gp_4 gp_h))) | decide +kernel)) rfl (by decide +kernel) ⟨Nat.le_of_ble_eq_true rfl, Nat.le_of_ble_eq_true rfl⟩) hK hw rfl hl.1 rfl (Nat.le_of_ble_eq_true rfl) dL_law_12 ⟨show 0 + 1 + 228 + 1 + 41 ≤ 601024 by omega, show 0 + 12 + 16184 + 51 + 21484 ≤ 7293034 by omega⟩) hS (fun u9 E9 H locs p9 hw hS => ?_)
  obtain ⟨rfl, r1, r2, r3, r4, r5, r6, r7, r8, r9, r10, r11, r12, r13, r14, r15, r16, r17, r18, r19, r20, r21, r22, r23, r24, r25, r26, r27, r28, r29, r30, r31, r32, r33, r34, r35, r36, r37, r38, r39, r40, r41, rfl⟩ := p9
  refine lv_astore_n (lv' := [(2, .ref h1), (1, .ref q0), (0, .ref b)]) hx hb dL_law_15 rfl hl (by decide) rfl (fun ls hl => ?_)
  refine lv_iconst (v := jI 1) hx hb dL_law_16 rfl ?_
  have hw : wx D tc s.heap.size (ad, cnt, X, Y, fun _ => 0) ([] ++ [(h1, .inr (9, [.int 0, .ref r1, .int 0, .ref r2, .ref r3, .ref r4, .ref r5, .ref r6, .ref r7, .ref r8, .ref r9, .ref r10, .ref r11, .int 0, .ref r12, .ref r13, .ref r14, .ref r15, .ref r16, .ref r17, .int 0, .ref r18, .int 0, .ref r19, .ref r20, .ref r21, .ref r22, .ref r23, .int 0, .ref r24, .ref r25, .ref r26, .ref r27, .ref r28, .ref r29, .ref r30, .ref r31, .ref r32, .ref r33, .ref r34, .ref r35, .int (jI (-9)), .int (jI (-9)), .int (jI (-9)), .ref r36, .ref r37, .ref r38, .ref r39, .ref r40, .ref r41, .int 0])), (r1, .inl (tc 2, (16 : Int).toNat, .inl (fun _ => 0))), (r2, .inl (tc 0, (8 : Int).toNat, .inl (fun _ => 0))), (r3, .inl (tc 0, (40 : Int).toNat, .inl (fun _ => 0))), (r4, .inl (tc 0, (40 : Int).toNat, .inl (fun _ => 0))), (r5, .inl (tc 1, (40 : Int).toNat, .inr (.inl (fun _ => 0)))), (r6, .inl (tc 2, (40 : Int).toNat, .inl (fun _ => 0))), (r7, .inl (tc 0, (8 : Int).toNat, .inl (fun _ => 0))), (r8, .inl (tc 0, (32 : Int).toNat, .inl (fun _ => 0))), (r9, .inl (tc 0, (32 : Int).toNat, .inl (fun _ => 0))), (r10, .inl (tc 0, (32 : Int).toNat, .inl (fun _ => 0))), (r11, .inl (tc 1, (32 : Int).toNat, .inr (.inl (fun _ => 0)))), (r12, .inl (tc 0, (30 : Int).toNat, .inl (fun _ => 0))), (r13, .inl (tc 1, (150 : Int).toNat, .inr (.inl (fun _ => 0)))), (r14, .inl (tc 0, (400 : Int).toNat, .inl (fun _ => 0))), (r15, .inl (tc 0, (400 : Int).toNat, .inl (fun _ => 0))), (r16, .inl (tc 1, (4800 : Int).toNat, .inr (.inl (fun _ => 0)))), (r17, .inl (tc 2, (400 : Int).toNat, .inl (fun _ => 0))), (r18, .inl (tc 0, (4 : Int).toNat, .inl (fun _ => 0))), (r19, .inl (tc 0, (80 : Int).toNat, .inl (fun _ => 0))), (r20, .inl (tc 0, (80 : Int).toNat, .inl (fun _ => 0))), (r21, .inl (tc 0, (80 : Int).toNat, .inl (fun _ => 0))), (r22, .inl (tc 0, (80 : Int).toNat, .inl (fun _ => 0))), (r23, .inl (tc 1, (80 : Int).toNat, .inr (.inl (fun _ => 0)))), (r24, .inl (tc 0, (5 : Int).toNat, .inl (fun _ => 0))), (r25, .inl (tc 0, (150 : Int).toNat, .inl (fun _ => 0))), (r26, .inl (tc 0, (150 : Int).toNat, .inl (fun _ => 0))), (r27, .inl (tc 0, (750 : Int).toNat, .inl (fun _ => 0))), (r28, .inl (tc 0, (750 : Int).toNat, .inl (fun _ => 0))), (r29, .inl (tc 1, (750 : Int).toNat, .inr (.inl (fun _ => 0)))), (r30, .inl (tc 0, (5 : Int).toNat, .inl (fun _ => 0))), (r31, .inl (tc 0, (750 : Int).toNat, .inl (fun _ => 0))), (r32, .inl (tc 0, (750 : Int).toNat, .inl (fun _ => 0))), (r33, .inl (tc 1, (9000 : Int).toNat, .inr (.inl (fun _ => 0)))), (r34, .inl (tc 0, (30 : Int).toNat, .inl (fun _ => 0))), (r35, .inl (tc 0, (150 : Int).toNat, .inl (fun _ => 0))), (r36, .inl (tc 0, (450 : Int).toNat, .inl (fun _ => 0))), (r37, .inl (tc 0, (30 : Int).toNat, .inl (fun _ => 0))), (r38, .inl (tc 0, (30 : Int).toNat, .inl (fun _ => 0))), (r39, .inl (tc 0, (400 : Int).toNat, .inl (fun _ => 0))), (r40, .inl (tc 0, (400 : Int).toNat, .inl (fun _ => 0))), (r41, .inl (tc 0, (30 : Int).toNat, .inl (fun _ => 0)))]) H := hw
  refine g_newa (t := 1) (z := 1) (a0 := ((1 : Int).toNat, .inr (.inl (fun _ => 0)))) (atype := .long) hx hb (hts0 (.arrayClass .long) (by first | exact gt_1 _ (gp_64 (gp_4 (gp_4 (gp_1 (gp_1 gp_h))))) | decide +kernel)) rfl hK.1 rfl hw hS (Nat.le_refl _) (fun _ => rfl) (by omega) (by omega) (by decide) (show 0 + 1 + 228 + 1 + 41 + 1 ≤ 601024 by omega) (show 0 + 12 + 16184 + 51 + 21484 + (1 : Int).toNat ≤ 7293034 by decide) dL_law_17 (fun h2 H hw hS => ?_)
  refine lv_astore_n (lv' := [(3, .ref h2), (2, .ref h1), (1, .ref q0), (0, .ref b)]) hx hb dL_law_19 rfl hl (by decide) rfl (fun ls hl => ?_)
  refine lv_iconst (v := jI 0) hx hb dL_law_20 rfl ?_
  refine lv_istore (lv' := [(4, .int (jI 0)), (3, .ref h2), (2, .ref h1), (1, .ref q0), (0, .ref b)]) hx hb dL_law_21 hl (by decide) rfl (fun ls hl => ?_)
  obtain ⟨ad2, hw, e1, e2, ao⟩ := born_mdl (h0 := q0) (ln := fun _ => 0) hw (fun k hk => hO.2.1.2.2.2.2.2.2 k ((show ∀ k ∈ K9, k ∉ K8 by decide +kernel) k hk)) hO.2.2.2.2.2.2.2.1 hO.2.2.2.2.2.2.2.2
  have hI := law_first hO (fun _ => by decide) hw e1 e2 ao
  have C : LK p l s m c b L xs D tc := ⟨hx, hb, hml, hown, hts, hX, hbl, hK, hT, hlT, hL⟩
  exact law_loop C hr hlocks 513 0 400 40000 (by omega) (by omega) (by omega) (by omega) ad2 _ _ _ _ H locs ls _ _ hI hw hS (lv_sub hl [4, 3, 2, 1, 0] rfl) (show 0 + 1 + 228 + 1 + 41 + 1 ≤ 400 by omega) (show 0 + 12 + 16184 + 51 + 21484 + (1 : Int).toNat ≤ 40000 by decide)
end
