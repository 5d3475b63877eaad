/-! putting back: both sides -/
section JS3
variable {cnt cnt1 : Nat → Int} {X X1 X2 : Nat → Int → Int → Int} {Y Y1 : Nat → Int → Int → Option Int} {ln ln1 : Int → Int} {c c1 : Int} {L N K : List Nat}
/-- how it begins: the new things are there, nothing went back yet -/
theorem J_begin {sv g : Int} {A A' : Nat → Int → Int → Int} {YA Yz : Nat → Int → Int → Option Int} (h : RC cnt X Y ln) (hMI : MInv X) (hR : Rng X) (hLn : LnL ln) (hN9 : 0 ≤ cnt 25 ∧ 0 ≤ cnt 26) (hi : ∀ κ, 40 ≤ κ → X1 κ = X κ) (hok : 0 ≤ sv ∧ sv < 4 ∧ X 70 0 sv ≠ 0) (eg : Y 4 0 sv = some g)
    (hA : A 0 0 3 = X 0 0 3 + X 7 g 0 ∧ (∀ r9, 0 ≤ r9 → r9 < X 7 g 0 → YA 15 (X 0 0 3 + r9) 0 = some (X 8 g r9) ∧ ∀ j, 0 ≤ j → j < X 19 (X 8 g r9) 1 → A 16 (X 0 0 3 + r9) j = X 22 (X 8 g r9) j ∧ YA 17 (X 0 0 3 + r9) j = none) ∧ (∀ y, y < X 0 0 3 → YA 15 y 0 = Y 15 y 0 ∧ ∀ j, A 16 y j = X 16 y j ∧ YA 17 y j = Y 17 y j) ∧ Frm [4, 1600] X A ∧ Frm [1501, 1700] Y YA) (hz : Frm [600] YA Yz) (hz6 : ∀ j, 0 ≤ j → j < 3 * A 7 g 6 → Yz 6 0 j = none) (hI : rsI X1 A' sv) : JS0 A A' Yz sv g (X 0 0 3) ∧ JIv A A' Yz sv (X 0 0 3) 0 0 (cnt 26) A Yz ln A' := by
  obtain ⟨⟨hT, hM, hW, hC, hf⟩, hB, hK, hS, h6, hN⟩ := id h
  obtain ⟨hA1, hA2, hA3, fA, fYA⟩ := hA
  obtain ⟨i13, i85, iO, iN, iF⟩ := hI
  have h3 := hB.1.1.1
  have s0 := hS sv g hok.1 hok.2.1 eg
  have m : ∀ κ, 40 ≤ κ → (lay κ).1 = 0 → κ * 100 ∉ [4001, 4014, 5500, 5600, 8500] → A' κ = X κ := fun κ a b d => (iF.arr κ b d).trans (hi κ a)
  have e42 := m 42 (by decide) (by decide +kernel) (by decide)
  have e44 := m 44 (by decide) (by decide +kernel) (by decide)
  have e45 := m 45 (by decide) (by decide +kernel) (by decide)
  have e46 := m 46 (by decide) (by decide +kernel) (by decide)
  have e70 := m 70 (by decide) (by decide +kernel) (by decide)
  have e71 := m 71 (by decide) (by decide +kernel) (by decide)
  have e72 := m 72 (by decide) (by decide +kernel) (by decide)
  have e73 := m 73 (by decide) (by decide +kernel) (by decide)
  have e74 := m 74 (by decide) (by decide +kernel) (by decide)
  have e75 := m 75 (by decide) (by decide +kernel) (by decide)
  have e76 := m 76 (by decide) (by decide +kernel) (by decide)
  have e77 := m 77 (by decide) (by decide +kernel) (by decide)
  have e78 := m 78 (by decide) (by decide +kernel) (by decide)
  have e79 := m 79 (by decide) (by decide +kernel) (by decide)
  unfold New at iN
  unfold Old at iO
  rw [hi 40 (by decide), hi 70 (by decide)] at i13
  rw [hi 40 (by decide), hi 44 (by decide), hi 47 (by decide), hi 70 (by decide), hi 71 (by decide)] at iN
  rw [hi 40 (by decide), hi 55 (by decide), hi 56 (by decide)] at iO
  have r70 : 0 ≤ X 70 0 sv ∧ X 70 0 sv ≤ 30 := hR 70 0 sv
  have r76 : 0 ≤ X 76 0 sv ∧ X 76 0 sv ≤ 150 := hR 76 0 sv
  have r13 : 0 ≤ X 40 0 13 ∧ X 40 0 13 ≤ 30 := hR 40 0 13
  have s1 := s0.1
  have hkE := KE.frm fA (by decide) g
  have sA : rSv A A' g sv := s0.of hkE.1.1 hkE.1.2 hkE.2 (fun κ hκ => by
    simp only [List.mem_cons, List.not_mem_nil, or_false] at hκ
    rcases hκ with rfl | rfl | rfl | rfl | rfl | rfl | rfl | rfl | rfl | rfl
    · exact e70
    · exact e71
    · exact e72
    · exact e73
    · exact e74
    · exact e75
    · exact e76
    · exact e77
    · exact e78
    · exact e79)
  have a19 : ∀ i, A 19 i 1 = X 19 i 1 := fun i => fA 19 i 1 (show 1902 ∉ _ by decide)
  have a20 := fA.arr 20 (by decide +kernel) (by decide)
  have a21 := fA.arr 21 (by decide +kernel) (by decide)
  have a3 := fA.arr 3 (by decide +kernel) (by decide)
  -- the types of the new things
  have ty : ∀ r, 0 ≤ r → r < X 70 0 sv → X 8 g r = X 71 0 (30 * sv + r) ∧ (0 ≤ X 71 0 (30 * sv + r) ∧ X 71 0 (30 * sv + r) < X 0 0 1) := fun r r0 r1 => by
    have b1 := (s0.2.2.2.1 r r0 r1).1
    have b2 := (hMI.2.2.1 sv r hok.1 (by omega) r0 r1).1
    have b3 : 0 ≤ X 71 0 (30 * sv + r) ∧ X 71 0 (30 * sv + r) ≤ 7 := hR 71 0 _
    unfold rT at hT
    exact ⟨b1, b3.1, by omega⟩
  have y15 : ∀ r, 0 ≤ r → r < X 70 0 sv → Yz 15 (X 0 0 3 + r) 0 = some (X 71 0 (30 * sv + r)) := fun r r0 r1 => by
    rw [hz 15 _ 0 (show 1501 ∉ _ by decide), (hA2 r r0 (by omega)).1, (ty r r0 r1).1]
  have fYz : Frm [1501, 1700, 600] Y Yz := (fYA.mono (by decide)).tr (hz.mono (by decide))
  have z17 : Yz 17 = YA 17 := hz.arr 17 (by decide +kernel) (by decide)
  refine ⟨⟨⟨sA, by rw [e70]; omega⟩, ⟨hok.1, hok.2.1⟩, ⟨by omega, by rw [i13, e70, h3]⟩, fun r r0 r1 => ?_, fun v v0 v1 => ?_, fun t => by rw [e44]; exact (hR 44 0 t).2, fun i => by rw [e78]; exact hR 78 0 i, fun i => by rw [e46]; exact (hR 46 0 i).2, fun r k r0 r1 k0 k1 => ?_⟩, ?_, fun i _ _ => hLn i, hN9.2, Frm.rf, Frm.rf, Frm.rf, fun j j0 j1 => ?_⟩
  · rw [e70] at r1
    obtain ⟨t1, t2⟩ := ty r r0 r1
    obtain ⟨d1, d2⟩ := hf _ t2.1 t2.2
    rw [e71, e44, e45, e46, a19, a20, a21]
    refine ⟨y15 r r0 r1, ?_, d1, fun j j0 j1 => ?_⟩
    · have h9 := (iN r r0 r1).1
      rw [h3]
      exact h9
    · have h9 := d2 j j0 (by rw [d1]; exact j1)
      exact ⟨h9.1, h9.2.1⟩
  · rw [a3, e42]
    have r42 : 0 ≤ X 42 0 v ∧ X 42 0 v ≤ 1 := hR 42 0 v
    exact ⟨hW v v0 v1, by omega⟩
  · rw [e70] at r1
    rw [e72] at k1
    rw [e70, e74, e75]
    exact (hMI.2.2.1 sv r hok.1 (by omega) r0 r1).2 k k0 k1
  · refine RB_things (N := X 70 0 sv) (T := fun y => X 71 0 (30 * sv + (y - X 40 0 13))) hB.1 ⟨fA.fn 28 (fun j => by rw [fc28]; simp; omega), fYz.fn 28 (fun j => by rw [fc28]; simp; omega), fA.arr 31 (by decide +kernel) (by decide), fA.arr 27 (by decide +kernel) (by decide), fun q hq => ?_, ?_, ?_⟩ hLn r70.1 (by rw [hA1, s1]) (fun y y0 y1 => ?_) (fun y y1 => ?_) (fun y k y0 y1 k0 k1 => ?_) (fun y k y1 => ?_) i13 e44 e46 (fun y y0 y1 => ?_) (fun y y1 => iO.1 y y1) (fun y k y0 y1 k0 k1 => ?_) (fun j hj => iO.2 j hj) (fun t => (hR 44 0 t).2) (fun y k y0 y1 k0 k1 => ?_) (fun n n0 n1 n2 => ((hMI.2.2.2.1 n n0 n1).1 n2).1)
    · simp only [List.mem_cons, List.not_mem_nil, or_false] at hq
      rcases hq with rfl | rfl | rfl | rfl | rfl | rfl | rfl | rfl | rfl <;> exact m _ (by decide) (by decide +kernel) (by decide)
    · rw [iF 40 0 20 (show 4021 ∉ _ by decide), hi 40 (by decide)]
    · rw [iF 40 0 22 (show 4023 ∉ _ by decide), hi 40 (by decide)]
    · have h9 := y15 (y - X 40 0 13) (by omega) (by omega)
      rw [show X 0 0 3 + (y - X 40 0 13) = y by omega] at h9
      exact h9
    · rw [hz 15 y 0 (show 1501 ∉ _ by decide)]
      exact (hA3 y (by omega)).1
    · have h9 := (hA2 (y - X 40 0 13) (by omega) (by omega)).2 k k0
      obtain ⟨t1, t2⟩ := ty (y - X 40 0 13) (by omega) (by omega)
      rw [show X 0 0 3 + (y - X 40 0 13) = y by omega, t1] at h9
      rw [z17]
      exact h9 (by rw [(hf _ t2.1 t2.2).1]; exact k1)
    · rw [z17]
      exact (hA3 y (by omega)).2 k
    · have h9 := (iN (y - X 40 0 13) (by omega) (by omega)).1
      rw [show X 40 0 13 + (y - X 40 0 13) = y by omega] at h9
      exact h9
    · have h9 := (iN (y - X 40 0 13) (by omega) (by omega)).2 k k0 k1
      rw [show X 40 0 13 + (y - X 40 0 13) = y by omega] at h9
      exact h9
    · obtain ⟨t1, t2⟩ := ty (y - X 40 0 13) (by omega) (by omega)
      obtain ⟨d1, d2⟩ := hf _ t2.1 t2.2
      have t3 : X 71 0 (30 * sv + (y - X 40 0 13)) ≤ 7 := (hR 71 0 _).2
      exact ⟨(d2 k k0 (by rw [d1]; exact k1)).2.2.1, fun ne => hMI.2.1 _ k t2.1 t3 k0 k1 ne⟩
  · rw [e76] at j1
    have h7 : A 7 g 6 = X 76 0 sv := by
      rw [sA.2.1 (by rw [e70]; omega), e76]
    exact Or.inl ⟨hz6 j j0 (by rw [h7]; exact j1), by rw [i85 j j0 (by omega)]; decide⟩
theorem RC.two (h : RC cnt X Y ln) (hF : Frm L X X1) (hG : Frm K X1 X2) (h1 : ∀ q ∈ L, 4000 < q) (h2 : ∀ q ∈ K, 4000 < q) (hd : ∀ q ∈ [4003, 4014, 4021, 4023, 4200, 4400, 4500, 4600, 4700, 4800, 4900, 5000, 5100, 5200, 5300, 5500, 5600, 5700, 5800, 5900, 6200, 6400, 6500, 6600, 6700, 6800, 7000, 7100, 7200, 7300, 7400, 7500, 7600, 7700, 7800, 7900], q ∉ L) (he : ∀ q ∈ [4003, 4014, 4021, 4023, 4200, 4400, 4500, 4600, 4700, 4800, 4900, 5000, 5100, 5200, 5300, 5500, 5600, 5700, 5800, 5900, 6200, 6400, 6500, 6600, 6700, 6800, 7000, 7100, 7200, 7300, 7400, 7500, 7600, 7700, 7800, 7900], q ∉ K) : RC cnt X2 Y ln := by
  have sb : ∀ (P : List Nat), (∀ q ∈ P, 4000 < q) → (∀ q ∈ [4003, 4014, 4021, 4023, 4200, 4400, 4500, 4600, 4700, 4800, 4900, 5000, 5100, 5200, 5300, 5500, 5600, 5700, 5800, 5900, 6200, 6400, 6500, 6600, 6700, 6800, 7000, 7100, 7200, 7300, 7400, 7500, 7600, 7700, 7800, 7900], q ∉ P) → ∀ q, (q < 4000 ∨ q ∈ [4003, 4014, 4021, 4023, 4200, 4400, 4500, 4600, 4700, 4800, 4900, 5000, 5100, 5200, 5300, 5500, 5600, 5700, 5800, 5900, 6200, 6400, 6500, 6600, 6700, 6800, 7000, 7100, 7200, 7300, 7400, 7500, 7600, 7700, 7800, 7900]) → q ∉ P := fun P a b q c w => by
    rcases c with c | c
    · have := a q w
      omega
    · exact b q c w
  exact RC_of (N := []) h hF Frm.rf hG (fun q hq => sb L h1 hd q ((show ∀ q ∈ [2, 4003, 2904, 4021, 300, 4200, 1907, 4900, 1902, 2000, 2100, 2200, 2300, 4400, 4500, 4600, 4700, 4800, 5000, 5100, 5200, 5300, 2501, 2502, 2503, 2504, 701, 707, 800, 900, 1000, 1100, 1200, 1300, 1400, 7000, 7100, 7200, 7300, 7400, 7500, 7600, 7700, 7800, 7900], (q < 4000 ∨ q ∈ [4003, 4014, 4021, 4023, 4200, 4400, 4500, 4600, 4700, 4800, 4900, 5000, 5100, 5200, 5300, 5500, 5600, 5700, 5800, 5900, 6200, 6400, 6500, 6600, 6700, 6800, 7000, 7100, 7200, 7300, 7400, 7500, 7600, 7700, 7800, 7900]) by decide) q hq)) (by decide) (fun q hq => sb K h2 he q ((show ∀ q ∈ [2, 4003, 2904, 4021, 300, 4200, 1907, 4900, 1902, 2000, 2100, 2200, 2300, 4400, 4500, 4600, 4700, 4800, 5000, 5100, 5200, 5300, 2501, 2502, 2503, 2504, 701, 707, 800, 900, 1000, 1100, 1200, 1300, 1400, 7000, 7100, 7200, 7300, 7400, 7500, 7600, 7700, 7800, 7900], (q < 4000 ∨ q ∈ [4003, 4014, 4021, 4023, 4200, 4400, 4500, 4600, 4700, 4800, 4900, 5000, 5100, 5200, 5300, 5500, 5600, 5700, 5800, 5900, 6200, 6400, 6500, 6600, 6700, 6800, 7000, 7100, 7200, 7300, 7400, 7500, 7600, 7700, 7800, 7900]) by decide) q hq)) (Int.le_refl _) ((h.2.1.mdl hF h1 (fun q hq => sb L h1 hd q (Or.inr ((show ∀ q ∈ [4014, 4021, 4023, 4400, 4600, 5500, 5600, 5700, 5800, 5900, 6200, 6400, 6500, 6600, 6700, 6800], q ∈ [4003, 4014, 4021, 4023, 4200, 4400, 4500, 4600, 4700, 4800, 4900, 5000, 5100, 5200, 5300, 5500, 5600, 5700, 5800, 5900, 6200, 6400, 6500, 6600, 6700, 6800, 7000, 7100, 7200, 7300, 7400, 7500, 7600, 7700, 7800, 7900] by decide) q hq)))).mdl hG h2 (fun q hq => sb K h2 he q (Or.inr ((show ∀ q ∈ [4014, 4021, 4023, 4400, 4600, 5500, 5600, 5700, 5800, 5900, 6200, 6400, 6500, 6600, 6700, 6800], q ∈ [4003, 4014, 4021, 4023, 4200, 4400, 4500, 4600, 4700, 4800, 4900, 5000, 5100, 5200, 5300, 5500, 5600, 5700, 5800, 5900, 6200, 6400, 6500, 6600, 6700, 6800, 7000, 7100, 7200, 7300, 7400, 7500, 7600, 7700, 7800, 7900] by decide) q hq))))
theorem J_restore {z z2 sv rule : Int} (h : RC cnt X Y ln) (hMI : MInv X) (hR : Rng X) (hR1 : Rng X1) (hLn : LnL ln) (hN9 : 0 ≤ cnt 25 ∧ 0 ≤ cnt 26) (hF : Frm [4, 1600, 2602, 2700, 3201, 3202, 3203, 3204] X X1) (hH : Frm [1501, 1700, 600] Y Y1) (hc : ∀ k, cnt k ≤ cnt1 k) (hl : ∀ i, 0 ≤ i → i < cnt 26 → ln1 i = ln i) (hLn1 : LnL ln1) (p : ((¬ (0 ≤ sv ∧ sv < 4 ∧ X 7 (tyo (Y 4 0 sv)) 0 ≠ 0) ∧ z = -1 ∧ X1 = X ∧ Y1 = Y ∧ cnt1 26 = cnt 26 ∧ ln1 = ln) ∨ ((0 ≤ sv ∧ sv < 4 ∧ X 7 (tyo (Y 4 0 sv)) 0 ≠ 0) ∧ ¬ (0 ≤ rule ∧ rule < 4) ∧ z = -2 ∧ X1 = X ∧ Y1 = Y ∧ cnt1 26 = cnt 26 ∧ ln1 = ln) ∨ ((0 ≤ sv ∧ sv < 4 ∧ X 7 (tyo (Y 4 0 sv)) 0 ≠ 0) ∧ (0 ≤ rule ∧ rule < 4) ∧ 30 < X 0 0 3 + X 7 (tyo (Y 4 0 sv)) 0 ∧ z = -4 ∧ X1 = X ∧ Y1 = Y ∧ cnt1 26 = cnt 26 ∧ ln1 = ln) ∨ ((0 ≤ sv ∧ sv < 4 ∧ X 7 (tyo (Y 4 0 sv)) 0 ≠ 0) ∧ (0 ≤ rule ∧ rule < 4) ∧ X 0 0 3 + X 7 (tyo (Y 4 0 sv)) 0 ≤ 30 ∧ ∃ (g : Int) (A B : Nat → Int → Int → Int) (YA YB : Nat → Int → Int → Option Int) (cB zf : Int) (lB : Int → Int), Y 4 0 sv = some g ∧ (A 0 0 3 = X 0 0 3 + X 7 g 0 ∧ (∀ r9, 0 ≤ r9 → r9 < X 7 g 0 → YA 15 (X 0 0 3 + r9) 0 = some (X 8 g r9) ∧ ∀ j, 0 ≤ j → j < X 19 (X 8 g r9) 1 → A 16 (X 0 0 3 + r9) j = X 22 (X 8 g r9) j ∧ YA 17 (X 0 0 3 + r9) j = none) ∧ (∀ y, y < X 0 0 3 → YA 15 y 0 = Y 15 y 0 ∧ ∀ j, A 16 y j = X 16 y j ∧ YA 17 y j = Y 17 y j) ∧ Frm [4, 1600] X A ∧ Frm [1501, 1700] Y YA) ∧ (∃ Yz : Nat → Int → Int → Option Int, Frm [600] YA Yz ∧ (∀ j, 0 ≤ j → j < 3 * A 7 g 6 → Yz 6 0 j = none) ∧ ((zf = 0 ∧ rTrC g (X 0 0 3) rule (A 7 g 0).toNat (cnt 26) A Yz ln (cB) B YB lB) ∨ (zf ≠ 0 ∧ ∃ (r k cA cP : Int) (XA XP : Nat → Int → Int → Int) (YA YP : Nat → Int → Int → Option Int) (lA lP : Int → Int), 0 ≤ r ∧ r < A 7 g 0 ∧ 0 ≤ k ∧ k < A 9 g r ∧ rTrC g (X 0 0 3) rule r.toNat (cnt 26) A Yz ln cA XA YA lA ∧ fTrC g r (X 0 0 3) rule k.toNat cA XA YA lA cP XP YP lP ∧ fvC XP YP (X 0 0 3 + r) g (5 * r + k) rule = zf ∧ cB = cP ∧ YB = YP ∧ lB = lP ∧ Frm [3201, 3202, 3203, 3204] XP B))) ∧ ((zf = 0 ∧ (∀ y, X 0 0 3 ≤ y → y < B 0 0 3 → jdC B YB lB y 0) ∧ z = X 0 0 3 ∧ Frm [3201, 3202, 3203, 3204] B X1 ∧ Y1 = YB ∧ cnt1 26 = cB ∧ ln1 = lB) ∨ (X1 0 0 3 = X 0 0 3 ∧ Frm [4, 3201, 3202, 3203, 3204] B X1 ∧ Y1 = YB ∧ cnt1 26 = cB ∧ ln1 = lB ∧ ((zf ≠ 0 ∧ z = -10 - zf) ∨ (zf = 0 ∧ ∃ y how, X 0 0 3 ≤ y ∧ y < B 0 0 3 ∧ (∀ y', X 0 0 3 ≤ y' → y' < y → jdC B YB lB y' 0) ∧ how ≠ 0 ∧ jdC B YB lB y how ∧ z = -10 - how))))))) (hG : Frm [4001, 4014, 5500, 5600, 4029, 6000, 5700, 5800, 5900, 8500, 4042, 4043, 4044] X1 X2) (hM2 : MInv X2) (q : ((¬ (0 ≤ sv ∧ sv < 4 ∧ X1 70 0 sv ≠ 0) ∧ z2 = -1 ∧ Frm [4001] X1 X2) ∨ ((0 ≤ sv ∧ sv < 4 ∧ X1 70 0 sv ≠ 0) ∧ ¬ (0 ≤ rule ∧ rule ≤ 3) ∧ z2 = -2 ∧ Frm [4001] X1 X2) ∨ ((0 ≤ sv ∧ sv < 4 ∧ X1 70 0 sv ≠ 0) ∧ (0 ≤ rule ∧ rule ≤ 3) ∧ 30 < X1 40 0 13 + X1 70 0 sv ∧ z2 = -4 ∧ Frm [4001] X1 X2) ∨ ((0 ≤ sv ∧ sv < 4 ∧ X1 70 0 sv ≠ 0) ∧ (0 ≤ rule ∧ rule ≤ 3) ∧ X1 40 0 13 + X1 70 0 sv ≤ 30 ∧ ∃ A : Nat → Int → Int → Int, rsI X1 A sv ∧ ((∃ B : Nat → Int → Int → Int, (Rng B ∧ MInv B) ∧ rTrM sv rule (X1 40 0 13) (X1 70 0 sv).toNat A B ∧ (((∀ r, 0 ≤ r → r < X1 70 0 sv → jdM B (X1 40 0 13 + r) 0) ∧ z2 = X1 40 0 13 ∧ Frm [4029] B X2) ∨ (∃ r how, 0 ≤ r ∧ r < X1 70 0 sv ∧ (∀ r', 0 ≤ r' → r' < r → jdM B (X1 40 0 13 + r') 0) ∧ how ≠ 0 ∧ jdM B (X1 40 0 13 + r) how ∧ z2 = -10 - how ∧ X2 40 0 13 = X1 40 0 13 ∧ Frm [4014, 4029, 4042, 4043, 4044] B X2))) ∨ (∃ (r : Int) (B P : Nat → Int → Int → Int), 0 ≤ r ∧ r < X1 70 0 sv ∧ rTrM sv rule (X1 40 0 13) r.toNat A B ∧ fEndM sv r rule (X1 40 0 13) z2 B P ∧ z2 ≠ 0 ∧ X2 40 0 13 = X1 40 0 13 ∧ Frm [4014] P X2))))) (hR2 : Rng X2) (hCI : CInv cnt X Y ln) : RC cnt1 X2 Y1 ln1 ∧ z = z2 := by
  obtain ⟨⟨hT, hM, hW, hC, hf⟩, hB, hK, hS, h6, hN⟩ := id h
  have hi := hF.hi (by decide)
  have e40 := hi 40 (by decide)
  have e70 := hi 70 (by decide)
  have h3 := hB.1.1.1
  have r13 : 0 ≤ X 40 0 13 ∧ X 40 0 13 ≤ 30 := hR 40 0 13
  have fin : RBn (cnt1 26) X2 Y1 ln1 → RC cnt1 X2 Y1 ln1 := RC_of h hF hH hG (by decide) (by decide) (by decide) (hc 25)
  have n22 : X2 29 0 1 = X2 40 0 22 := by
    rw [hG 29 0 1 (show 2902 ∉ _ by decide), hG 40 0 22 (show 4023 ∉ _ by decide), hF 29 0 1 (show 2902 ∉ _ by decide), e40]
    exact hB.2
  have sv7 : 0 ≤ sv → sv < 4 → X 7 (tyo (Y 4 0 sv)) 0 = X 70 0 sv := fun a b => by
    obtain ⟨g, g1, -⟩ := h6.1 sv a (by omega)
    unfold sl6 at g1
    rw [if_pos b] at g1
    rw [tyo_some g1]
    exact (hS sv g a b g1).1
  have ref : X1 = X → Y1 = Y → cnt1 26 = cnt 26 → ln1 = ln → Frm [4001] X1 X2 → RC cnt1 X2 Y1 ln1 := fun a b d e f => fin ⟨by
    rw [a] at f
    rw [b, d, e]
    exact (hB.mdl f (by decide) (by decide)).1, n22⟩
  rw [e40, e70] at q
  rcases p with ⟨pn, pz, a, b, d, e⟩ | ⟨pc, pr, pz, a, b, d, e⟩ | ⟨pc, pr, pt, pz, a, b, d, e⟩ | ⟨pc, pr, pt, g, A, B, YA, YB, cB, zf, lB, eg, hA, ⟨Yz, hz, hz6, hTr⟩, hEnd⟩
  · rcases q with ⟨-, qz, qf⟩ | ⟨qc, -⟩ | ⟨qc, -⟩ | ⟨qc, -⟩
    · exact ⟨ref a b d e qf, by omega⟩
    · exact absurd ⟨qc.1, qc.2.1, by rw [sv7 qc.1 qc.2.1]; exact qc.2.2⟩ pn
    · exact absurd ⟨qc.1, qc.2.1, by rw [sv7 qc.1 qc.2.1]; exact qc.2.2⟩ pn
    · exact absurd ⟨qc.1, qc.2.1, by rw [sv7 qc.1 qc.2.1]; exact qc.2.2⟩ pn
  · rcases q with ⟨qn, -⟩ | ⟨-, -, qz, qf⟩ | ⟨-, qr, -⟩ | ⟨-, qr, -⟩
    · exact absurd ⟨pc.1, pc.2.1, by rw [← sv7 pc.1 pc.2.1]; exact pc.2.2⟩ qn
    · exact ⟨ref a b d e qf, by omega⟩
    · exact absurd ⟨qr.1, by omega⟩ pr
    · exact absurd ⟨qr.1, by omega⟩ pr
  · have s9 := sv7 pc.1 pc.2.1
    rcases q with ⟨qn, -⟩ | ⟨-, qr, -⟩ | ⟨-, -, -, qz, qf⟩ | ⟨-, -, qt, -⟩
    · exact absurd ⟨pc.1, pc.2.1, by rw [← sv7 pc.1 pc.2.1]; exact pc.2.2⟩ qn
    · exact absurd ⟨pr.1, by omega⟩ qr
    · exact ⟨ref a b d e qf, by omega⟩
    · omega
  · have s9 := sv7 pc.1 pc.2.1
    rcases q with ⟨qn, -⟩ | ⟨-, qr, -⟩ | ⟨-, -, qt, -⟩ | ⟨qc, qr, qt, A', hI, hq⟩
    · exact absurd ⟨pc.1, pc.2.1, by rw [← sv7 pc.1 pc.2.1]; exact pc.2.2⟩ qn
    · exact absurd ⟨pr.1, by omega⟩ qr
    · omega
    obtain ⟨JS, J0⟩ := J_begin h hMI hR hLn hN9 hi qc eg hA hz hz6 hI
    obtain ⟨i13, -, -, -, iF⟩ := id hI
    rw [e40, e70] at i13
    have fA := hA.2.2.2.1
    have fYA := hA.2.2.2.2
    have a70 : A' 70 0 sv = X 70 0 sv := by rw [iF.arr 70 (by decide +kernel) (by decide), e70]
    have a7 : A 7 g 0 = X 70 0 sv := by rw [JS.1.1.1, a70]
    have r70 : 0 ≤ X 70 0 sv ∧ X 70 0 sv ≤ 30 := hR 70 0 sv
    have a9 : ∀ r, 0 ≤ r → r < X 70 0 sv → A 9 g r = A' 72 0 (30 * sv + r) := fun r r0 r1 => (JS.1.1.2.2.2.1 r r0 (by rw [a70]; exact r1)).2.1
    have fv : ∀ r k, 0 ≤ r → r < X 70 0 sv → 0 ≤ k → k < A' 72 0 (30 * sv + r) → fvC A Yz (X 0 0 3 + r) g (5 * r + k) rule = fvM A' sv r k rule := fun r k r0 r1 k0 k1 => fv_eq JS ⟨r0, by rw [a70]; exact r1⟩ ⟨k0, k1⟩
    rw [← h3] at hq
    rw [a7] at hTr
    rcases hTr with ⟨zf0, tC⟩ | ⟨zf0, r, k, cA, cP, XA, XP, YA', YP, lA, lP, r0, r1, k0, k1, tC, uC, vC, ec, eYB, elB, fXP⟩
    · obtain ⟨⟨fB, fYB⟩, aC⟩ := rTrC.all _ _ _ _ _ tC
      rcases hq with ⟨B', ⟨hRB, hMB⟩, tM, hq⟩ | ⟨r, B', P, r0, r1, tM, ⟨w, -⟩ | ⟨-, k, X', k0, k1, uM, vM, -⟩, w2, -⟩
      · obtain ⟨fB', aM⟩ := rTrM.all _ _ tM
        have J1 := JIv_r JS J0 (X 70 0 sv).toNat cB B YB lB B' (by rw [a70]; omega) tC tM
        have b13 : B' 40 0 13 = X 40 0 13 + X 70 0 sv := by rw [fB' 40 0 13 (show 4014 ∉ _ by decide), i13]
        have b3 : B 0 0 3 = X 0 0 3 + X 70 0 sv := by
          have h9 := J1.1.1.1
          omega
        have fAll : Frm [4, 1600, 2602, 2700, 3201, 3202, 3203, 3204, 4001, 4014, 5500, 5600, 8500, 6000, 5700, 5800, 5900] X B' := ((hF.mono (by decide)).tr (iF.mono (by decide))).tr (fB'.mono (by decide))
        have fB1 : Frm [4, 3201, 3202, 3203, 3204] B X1 := by
          rcases hEnd with ⟨-, -, -, f, -⟩ | ⟨-, f, -⟩
          · exact f.mono (by decide)
          · exact f
        have eYl : Y1 = YB ∧ cnt1 26 = cB ∧ ln1 = lB := by
          rcases hEnd with ⟨-, -, -, -, f⟩ | ⟨-, -, f1, f2, f3, -⟩
          · exact f
          · exact ⟨f1, f2, f3⟩
        obtain ⟨eY, ecn, eln⟩ := eYl
        have fB1' : Frm [4, 3201, 3202, 3203, 3204, 4001, 4014, 5500, 5600, 8500, 6000, 5700, 5800, 5900] B B' := ((fB1.mono (by decide)).tr (iF.mono (by decide))).tr (fB'.mono (by decide))
        -- verdicts are the same on both sides
        obtain ⟨Xm, hXm⟩ : ∃ Xm, Xm = u3 B' 0 0 3 (B 0 0 3) := ⟨_, rfl⟩
        have m3 : Xm 0 0 3 = B 0 0 3 := by rw [hXm, u3_s]
        have mk : ∀ κ, κ ≠ 0 → Xm κ = B' κ := fun κ hκ => by rw [hXm, u3_k _ _ _ _ hκ]
        have fm : Frm [4] B' Xm := by
          rw [hXm]
          exact Frm.set Frm.rf (show 4 ∈ [4] by decide)
        have fm2 : Frm [4] Xm B' := fun κ i j hn => (fm κ i j hn).symm
        have fX : Frm [4, 1600, 2602, 2700, 3201, 3202, 3203, 3204, 4001, 4014, 5500, 5600, 8500, 6000, 5700, 5800, 5900] X Xm := fAll.tr (fm.mono (by decide))
        have fBm : Frm [4, 3201, 3202, 3203, 3204, 4001, 4014, 5500, 5600, 8500, 6000, 5700, 5800, 5900] B Xm := fB1'.tr (fm.mono (by decide))
        have hRm : Rng Xm := by
          rw [hXm]
          exact rng_set hRB (show 0 ≤ B 0 0 3 ∧ B 0 0 3 ≤ 30 by omega)
        have jC : jdC Xm YB lB = jdC B YB lB := jdC_pt m3 (fBm.arr 16 (by decide +kernel) (by decide)) (fun i => fBm 19 i 0 (show 1901 ∉ _ by decide)) (fun i => fBm 19 i 1 (show 1902 ∉ _ by decide)) (fBm.arr 20 (by decide +kernel) (by decide)) (fBm.arr 21 (by decide +kernel) (by decide)) (fun i => fBm 25 i 0 (show 2501 ∉ _ by decide)) (fun i => fBm 25 i 1 (show 2502 ∉ _ by decide)) (fun i => fBm 25 i 2 (show 2503 ∉ _ by decide)) (fun i => fBm 25 i 3 (show 2504 ∉ _ by decide)) (fBm.arr 27 (by decide +kernel) (by decide)) (fun i => fBm 19 i 6 (show 1907 ∉ _ by decide))
        have hRBm : RB cB Xm YB lB Xm := (J1.1.cf m3 fBm (by decide)).m (fun κ hκ => mk κ (by omega))
        have hHB : Frm [1501, 1700, 600] Y YB := by
          rw [← eY]
          exact hH
        have hty : ∀ t, 0 ≤ t → t < Xm 0 0 1 → Xm 19 t 0 = t := fun t t0 t1 => by
          rw [fX 0 0 1 (show 2 ∉ _ by decide)] at t1
          rw [fX 19 t 0 (show 1901 ∉ _ by decide)]
          exact (hCI.2.2.2.1.2 t t0 t1).2
        have jq : ∀ y a b, X 0 0 3 ≤ y → y < X 0 0 3 + X 70 0 sv → jdC B YB lB y a → jdM B' y b → a = b := fun y a b y0 y1 ja jb => by
          rw [← jC] at ja
          exact jd_eq hRBm (hT.frm fX (by decide)) (hf.frm fX (by decide)) (hC.frm fX (by decide)) (hK.frm fX hHB (by decide) (by decide) (Int.le_refl _)) (minv_frm hMB fm (by decide)) hRm (by rw [← eln]; exact hLn1) hty ⟨by omega, by rw [mk 40 (by decide)]; omega⟩ ja (jdM.from jb fm2 (by decide))
        have lnb := J1.2.1
        rcases hEnd with ⟨-, ej, ez, eF, -⟩ | ⟨e3, eF, -, -, -, ⟨w, -⟩ | ⟨-, y, how, y0, y1, yl, hw, jy, ez⟩⟩
        · rcases hq with ⟨-, qz, qF⟩ | ⟨r, how, r0, r1, -, hw, jr, -⟩
          · refine ⟨fin ⟨?_, n22⟩, by rw [ez, qz]⟩
            rw [eY, ecn, eln]
            exact ((J1.1.cf (eF 0 0 3 (show 4 ∉ _ by decide)) eF (by decide)).mfr qF (by decide)).mdl hG (by decide)
          · exact absurd (jq (X 0 0 3 + r) 0 how (by omega) (by omega) (ej _ (by omega) (by omega)) jr).symm hw
        · exact absurd zf0 w
        · rcases hq with ⟨jm, -⟩ | ⟨r, how2, r0, r1, rl, hw2, jr, qz, q13, qF⟩
          · have h9 := jm (y - X 0 0 3) (by omega) (by omega)
            rw [show X 0 0 3 + (y - X 0 0 3) = y by omega] at h9
            exact absurd (jq y how 0 (by omega) (by omega) jy h9) hw
          · have ey : y = X 0 0 3 + r := by
              rcases Int.lt_trichotomy y (X 0 0 3 + r) with w | w | w
              · have h9 := rl (y - X 0 0 3) (by omega) (by omega)
                rw [show X 0 0 3 + (y - X 0 0 3) = y by omega] at h9
                exact absurd (jq y how 0 (by omega) (by omega) jy h9) hw
              · exact w
              · exact absurd (jq (X 0 0 3 + r) 0 how2 (by omega) (by omega) (yl _ (by omega) w) jr).symm hw2
            rw [← ey] at jr
            have eh := jq y how how2 (by omega) (by omega) jy jr
            refine ⟨fin ⟨?_, n22⟩, by omega⟩
            rw [eY, ecn, eln]
            exact (J1.1.cut (N := X 40 0 13) ⟨r13.1, by omega⟩ lnb eF (by decide) (by rw [e3, h3]) qF (by decide) (by rw [q13, h3])).mdl hG (by decide)
      · exact absurd w w2
      · exfalso
        obtain ⟨fB', aM⟩ := rTrM.all _ _ tM
        obtain ⟨fX', -⟩ := fTrM.all _ _ uM
        rw [(stM_eq (fB'.tr fX') (by decide)).2.2.2.2] at vM
        rw [fB'.arr 72 (by decide +kernel) (by decide)] at k1
        exact vM ((fv r k r0 r1 k0 k1).symm.trans (aC r k r0 (by omega) k0 (by rw [a9 r r0 r1]; exact k1)))
    · rw [a9 r r0 r1] at k1
      obtain ⟨⟨fB, fYB⟩, aC⟩ := rTrC.all _ _ _ _ _ tC
      obtain ⟨⟨fP, fYP⟩, bC⟩ := fTrC.all _ _ _ _ _ uC
      rw [(stC_eq fB fYB (by decide) (by decide)).2.2.2] at bC
      rw [(stC_eq (fB.tr fP) (fYB.tr fYP) (by decide) (by decide)).2.2.2, fv r k r0 r1 k0 k1] at vC
      rcases hq with ⟨B', -, tM, -⟩ | ⟨r2, B', P, s0, s1, tM, ⟨w, -⟩ | ⟨-, k2, X', l0, l1, uM, vM, qz, qF⟩, w2, q13, qF2⟩
      · exfalso
        obtain ⟨-, aM⟩ := rTrM.all _ _ tM
        exact zf0 (vC.symm.trans (aM r k r0 (by omega) k0 k1))
      · exact absurd w w2
      · obtain ⟨fB', aM⟩ := rTrM.all _ _ tM
        obtain ⟨fX', bM⟩ := fTrM.all _ _ uM
        rw [(stM_eq fB' (by decide)).2.2.2.2] at bM
        rw [(stM_eq (fB'.tr fX') (by decide)).2.2.2.2] at vM qz
        rw [fB'.arr 72 (by decide +kernel) (by decide)] at l1
        have er : r = r2 := by
          rcases Int.lt_trichotomy r r2 with w | w | w
          · exact absurd (vC.symm.trans (aM r k r0 (by omega) k0 k1)) zf0
          · exact w
          · exact absurd ((fv r2 k2 s0 s1 l0 l1).symm.trans (aC r2 k2 s0 (by omega) l0 (by rw [a9 r2 s0 s1]; exact l1))) vM
        rw [← er] at uM vM qz l1 bM tM
        have ek : k = k2 := by
          rcases Int.lt_trichotomy k k2 with w | w | w
          · exact absurd (vC.symm.trans (bM k k0 (by omega))) zf0
          · exact w
          · exact absurd ((fv r k2 r0 r1 l0 l1).symm.trans (bC k2 l0 (by omega))) vM
        rw [← ek] at uM vM qz
        have J1 := JIv_r JS J0 r.toNat cA XA YA' lA B' (by rw [a70]; omega) tC tM
        rw [show ((r.toNat : Nat) : Int) = r by omega] at J1
        have J2 := JIv_f JS ⟨r0, by rw [a70]; exact r1⟩ J1 k.toNat cP XP YP lP X' (by omega) uC uM
        have b13 : X' 40 0 13 = X 40 0 13 + X 70 0 sv := by rw [fX' 40 0 13 (show 4014 ∉ _ by decide), fB' 40 0 13 (show 4014 ∉ _ by decide), i13]
        rcases hEnd with ⟨w, -⟩ | ⟨e3, eF, eY, ecn, eln, ⟨-, ez⟩ | ⟨w, -⟩⟩
        · exact absurd w zf0
        · refine ⟨fin ⟨?_, n22⟩, by rw [ez, qz, vC]⟩
          rw [eY, ecn, eln, ec, eYB, elB]
          exact (J2.1.cut (L := [4, 3201, 3202, 3203, 3204]) (K := [4014, 4042, 4043, 4044]) (N := X 40 0 13) ⟨r13.1, by omega⟩ J2.2.1 ((fXP.mono (by decide)).tr eF) (by decide) (by rw [e3, h3]) ((qF.mono (by decide)).tr (qF2.mono (by decide))) (by decide) (by rw [q13, h3])).mdl hG (by decide)
        · exact absurd w zf0
end JS3

