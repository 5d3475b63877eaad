section
/-! class and reference together: what each call leaves the same -/
theorem fc_ge (κ : Nat) (j : Int) : κ * 100 ≤ fcode κ j := by
  unfold fcode
  split <;> omega
theorem Frm.hi {α : Type} {L : List Nat} {X X1 : Nat → Int → Int → α} (h : Frm L X X1) (hd : ∀ q ∈ L, q < 4000) : ∀ κ, 40 ≤ κ → X1 κ = X κ := fun κ hk => h.fn κ (fun j hj => by
  have h1 := hd _ hj
  have h2 := fc_ge κ j
  omega)
theorem Frm.lo {α : Type} {L : List Nat} {X X1 : Nat → Int → Int → α} (h : Frm L X X1) (hd : ∀ q ∈ L, 4000 < q) : ∀ κ, κ < 40 → (lay κ).1 = 0 → X1 κ = X κ := fun κ hk h0 => h.arr κ h0 (fun hj => by
  have h1 := hd _ hj
  omega)
section JR
variable {C C1 M M1 X X1 X2 : Nat → Int → Int → Int} {Y Y1 : Nat → Int → Int → Option Int} {ln ln1 : Int → Int} {c c1 : Int} {L : List Nat}
theorem RB.m (h : RB c C Y ln M) (e : ∀ κ, 40 ≤ κ → M1 κ = M κ) : RB c C Y ln M1 := by
  have e40 := e 40 (by decide)
  have e44 := e 44 (by decide)
  have e46 := e 46 (by decide)
  have e55 := e 55 (by decide)
  have e56 := e 56 (by decide)
  have e57 := e 57 (by decide)
  have e58 := e 58 (by decide)
  have e59 := e 59 (by decide)
  have e62 := e 62 (by decide)
  have e64 := e 64 (by decide)
  have e65 := e 65 (by decide)
  have e66 := e 66 (by decide)
  have e67 := e 67 (by decide)
  have e68 := e 68 (by decide)
  unfold RB rH rN nOK rR Lv LvF LvN LvI lnM fcM at *
  rw [e40, e44, e46, e55, e56, e57, e58, e59, e62, e64, e65, e66, e67, e68]
  exact h
theorem RB.cc (h : RB c C Y ln M) (e3 : C1 0 0 3 = C 0 0 3) (e16 : C1 16 = C 16) (e27 : C1 27 = C 27) (e31 : C1 31 = C 31) (e1 : ∀ n, C1 28 n 1 = C 28 n 1) (e2 : ∀ n, C1 28 n 2 = C 28 n 2) : RB c C1 Y ln M := by
  obtain ⟨⟨a1, a2⟩, ⟨b1, b2⟩, d1, d2⟩ := h
  refine ⟨⟨by rw [e3]; exact a1, fun x h0 h1 => ?_⟩, ⟨fun m h0 h1 => by rw [e31]; exact b1 m h0 h1, fun n h0 h1 => ?_⟩, fun g r l q => ?_, d2⟩
  · rw [e16]
    exact a2 x h0 h1
  · have h9 := b2 n h0 h1
    unfold nOK at *
    rw [e1, e2]
    exact h9
  · rw [e27]
    exact d1 g r l q
theorem RB.mdl (h : RB c C Y ln M) (hF : Frm L C C1) (hd : ∀ q ∈ L, 4000 < q) : RB c C1 Y ln M := by
  have nl : ∀ q, q < 4000 → q ∉ L := fun q hq hm => by
    have := hd q hm
    omega
  exact h.cc (hF 0 0 3 (nl 4 (by decide))) (hF.lo hd 16 (by decide) (by decide +kernel)) (hF.lo hd 27 (by decide) (by decide +kernel)) (hF.lo hd 31 (by decide) (by decide +kernel)) (fun n => hF 28 n 1 (nl 2802 (by decide))) (fun n => hF 28 n 2 (nl 2803 (by decide)))
/-- the types and lanes of things, seen from both sides -/
theorem bridge (hH : rH X Y X) (hT : rT X) (hF : rF X) (hMI : MInv X) (hR : Rng X) {x : Int} (h0 : 0 ≤ x) (h1 : x < X 40 0 13) : tyo (Y 15 x 0) = X 55 0 x ∧ X 19 (X 55 0 x) 1 = X 44 0 (X 55 0 x) ∧ (0 ≤ X 44 0 (X 55 0 x) ∧ X 44 0 (X 55 0 x) ≤ 5) ∧ ∀ k, 0 ≤ k → k < X 44 0 (X 55 0 x) → X 20 (X 55 0 x) k = X 45 0 (5 * X 55 0 x + k) ∧ X 21 (X 55 0 x) k = X 46 0 (5 * X 55 0 x + k) ∧ X 22 (X 55 0 x) k = X 47 0 (5 * X 55 0 x + k) ∧ X 23 (X 55 0 x) k = X 48 0 (5 * X 55 0 x + k) := by
  have a := (hH.2 x h0 h1).1
  have b := hMI.2.2.2.2.2 x h0 h1
  unfold rT at hT
  have r55 : 0 ≤ X 55 0 x ∧ X 55 0 x ≤ 7 := hR 55 0 x
  obtain ⟨d1, d2⟩ := hF (X 55 0 x) r55.1 (by omega)
  refine ⟨tyo_some a, d1, hR 44 0 _, fun k k0 k1 => d2 k k0 (by omega)⟩
/-! values and references -/
theorem J_val {x k v rw : Int} (hB : RB c X Y ln X) (hn : X 29 0 1 = X 40 0 22) (hm : X 29 0 3 = X 40 0 20) (hR : Rng X) (hl12 : LnL ln) (hp : 0 ≤ x ∧ x < X 40 0 13 ∧ 0 ≤ k ∧ k < X 44 0 (X 55 0 x)) (hl3 : X 46 0 (5 * X 55 0 x + k) < 3)
    (hF : Frm [2802, 2803, 2902, 1600] X X1) (hH : Frm [2801, 2804] Y Y1) (eC : eNoteC X X1 Y Y1 (some x) k (X 16 x k) (Y 17 x k)) (hv : X1 16 x k = v) (ho : ∀ y j, ¬ (y = x ∧ j = k) → X1 16 y j = X 16 y j) (h17 : ∀ y j, Y1 17 y j = Y 17 y j)
    (hG : Frm L X1 X2) (hd : ∀ q ∈ L, 4000 < q) (hd2 : ∀ q ∈ [4400, 4600, 5500, 6200, 4014, 4021, 5700, 5800, 5900], q ∉ L) (eM : eNoteM X1 X2 x k rw (-1) (X1 56 0 (5 * x + k))) (hv2 : X2 56 0 (5 * x + k) = v) (ho2 : ∀ p, p ≠ 5 * x + k → X2 56 0 p = X1 56 0 p) : RB c X2 Y1 ln X2 ∧ X2 29 0 1 = X2 40 0 22 := by
  have hi := hF.hi (by decide)
  have h1 : RB c X Y ln X1 := hB.m hi
  have e40 := hi 40 (by decide)
  have e44 := hi 44 (by decide)
  have e46 := hi 46 (by decide)
  have e55 := hi 55 (by decide)
  have hN := RB_val (M1 := X2) h1 (by rw [e40]; exact hn) (by rw [e40]; exact hm) (KpC.of hF hH (by decide) (by decide)) (KpM.of hG (fun q hq => hd2 q (by simp only [List.mem_cons, List.not_mem_nil, or_false] at hq ⊢; omega))) (fun y => by unfold fcM; rw [e44]; exact (hR 44 0 _).2) (by unfold fcM; rw [e40, e44, e55]; exact hp) (by unfold lnM; rw [e46, e55]; exact hl3) eC hv ho h17 (hF.arr 27 (by decide +kernel) (by decide)) eM hv2 ho2 (hG.arr 57 (by decide +kernel) (hd2 5700 (by decide))) (hG.arr 58 (by decide +kernel) (hd2 5800 (by decide))) (hG.arr 59 (by decide +kernel) (hd2 5900 (by decide))) hl12
  refine ⟨hN.1.mdl hG hd, ?_⟩
  have e9 : X2 29 0 1 = X1 29 0 1 := hG 29 0 1 (fun q => by
    have := hd 2902 q
    omega)
  rw [e9]
  exact hN.2

/-! the rest of the relation: checks, saves, records apart, names -/
end JR
def rK (c : Int) (C : Nat → Int → Int → Int) (Y : Nat → Int → Int → Option Int) (M : Nat → Int → Int → Int) : Prop := ∀ t q, 0 ≤ t → t < M 40 0 2 → 0 ≤ q → q < M 49 0 t → ∃ g, Y 24 t q = some g ∧ (0 ≤ g ∧ g < c) ∧ C 25 g 0 = M 50 0 (4 * t + q) ∧ C 25 g 1 = M 51 0 (4 * t + q) ∧ C 25 g 2 = M 52 0 (4 * t + q) ∧ C 25 g 3 = M 53 0 (4 * t + q)
def rSf (C M : Nat → Int → Int → Int) (g s r k : Int) : Prop := C 10 g (5 * r + k) = M 73 0 (5 * (30 * s + r) + k) ∧ C 11 g (5 * r + k) = M 74 0 (5 * (30 * s + r) + k) ∧ C 12 g (5 * r + k) = M 75 0 (5 * (30 * s + r) + k) ∧ (3 ≤ M 74 0 (5 * (30 * s + r) + k) → 0 ≤ M 75 0 (5 * (30 * s + r) + k) → M 75 0 (5 * (30 * s + r) + k) < M 76 0 s ∧ M 77 0 (150 * s + M 75 0 (5 * (30 * s + r) + k)) = M 74 0 (5 * (30 * s + r) + k))
def rSv (C M : Nat → Int → Int → Int) (g s : Int) : Prop := C 7 g 0 = M 70 0 s ∧ (0 < M 70 0 s → C 7 g 6 = M 76 0 s) ∧ (M 70 0 s = 0 → C 7 g 6 = 0) ∧ (∀ r, 0 ≤ r → r < M 70 0 s → C 8 g r = M 71 0 (30 * s + r) ∧ C 9 g r = M 72 0 (30 * s + r) ∧ (∀ k, 0 ≤ k → k < M 72 0 (30 * s + r) → rSf C M g s r k) ∧ ∀ k k', 0 ≤ k → k < k' → k' < M 72 0 (30 * s + r) → M 73 0 (5 * (30 * s + r) + k) ≠ M 73 0 (5 * (30 * s + r) + k')) ∧ ∀ w, 0 < M 70 0 s → 0 ≤ w → w < M 76 0 s → C 13 g w = M 78 0 (150 * s + w) ∧ ∀ i, 0 ≤ i → i < C 13 g w → C 14 g (12 * w + i) = M 79 0 (12 * (150 * s + w) + i)
def rS (C : Nat → Int → Int → Int) (Y : Nat → Int → Int → Option Int) (M : Nat → Int → Int → Int) : Prop := ∀ s g, 0 ≤ s → s < 4 → Y 4 0 s = some g → rSv C M g s
def sl6 (Y : Nat → Int → Int → Option Int) (i : Int) : Option Int := if i < 4 then Y 4 0 i else if i = 4 then Y 0 0 6 else Y 0 0 7
def rA6 (Y : Nat → Int → Int → Option Int) : Prop := (∀ i, 0 ≤ i → i < 6 → ∃ g, sl6 Y i = some g ∧ 0 ≤ g ∧ g < 6) ∧ ∀ i j, 0 ≤ i → i < 6 → 0 ≤ j → j < 6 → sl6 Y i = sl6 Y j → i = j
def mNm (M : Nat → Int → Int → Int) : Prop := ∀ t k k', 0 ≤ t → t < M 40 0 2 → 0 ≤ k → k < k' → k' < M 44 0 t → M 45 0 (5 * t + k) ≠ M 45 0 (5 * t + k')
def RBn (c : Int) (X : Nat → Int → Int → Int) (Y : Nat → Int → Int → Option Int) (ln : Int → Int) : Prop := RB c X Y ln X ∧ X 29 0 1 = X 40 0 22
def RC (cnt : Nat → Int) (X : Nat → Int → Int → Int) (Y : Nat → Int → Int → Option Int) (ln : Int → Int) : Prop := (rT X ∧ rM X ∧ rW X ∧ rC X ∧ rF X) ∧ RBn (cnt 26) X Y ln ∧ rK (cnt 25) X Y X ∧ rS X Y X ∧ rA6 Y ∧ mNm X
section FR
variable {C C1 M M1 X X1 X2 : Nat → Int → Int → Int} {Y Y1 : Nat → Int → Int → Option Int} {ln ln1 : Int → Int} {c c1 : Int} {L N : List Nat}
theorem rK.frm (h : rK c X Y X) (hF : Frm L X X1) (hH : Frm N Y Y1) (hd : ∀ q ∈ [4003, 4900, 5000, 5100, 5200, 5300, 2501, 2502, 2503, 2504], q ∉ L) (he : 2400 ∉ N) (hc : c ≤ c1) : rK c1 X1 Y1 X1 := by
  intro t q t0 t1 q0 q1
  rw [hF 40 0 2 (hd 4003 (by decide))] at t1
  rw [hF 49 0 t (hd 4900 (by decide))] at q1
  obtain ⟨g, g1, g2, g3, g4, g5, g6⟩ := h t q t0 t1 q0 q1
  refine ⟨g, by rw [hH 24 t q he]; exact g1, ⟨g2.1, by omega⟩, ?_, ?_, ?_, ?_⟩
  · rw [hF 25 g 0 (hd 2501 (by decide)), hF 50 0 _ (hd 5000 (by decide))]; exact g3
  · rw [hF 25 g 1 (hd 2502 (by decide)), hF 51 0 _ (hd 5100 (by decide))]; exact g4
  · rw [hF 25 g 2 (hd 2503 (by decide)), hF 52 0 _ (hd 5200 (by decide))]; exact g5
  · rw [hF 25 g 3 (hd 2504 (by decide)), hF 53 0 _ (hd 5300 (by decide))]; exact g6
theorem rSv.of {g s : Int} (h : rSv C M g s) (e0 : C1 7 g 0 = C 7 g 0) (e6 : C1 7 g 6 = C 7 g 6) (e : ∀ κ ∈ [8, 9, 10, 11, 12, 13, 14], C1 κ g = C κ g) (f : ∀ κ ∈ [70, 71, 72, 73, 74, 75, 76, 77, 78, 79], M1 κ = M κ) : rSv C1 M1 g s := by
  unfold rSv rSf at *
  rw [e0, e6, e 8 (by decide), e 9 (by decide), e 10 (by decide), e 11 (by decide), e 12 (by decide), e 13 (by decide), e 14 (by decide), f 70 (by decide), f 71 (by decide), f 72 (by decide), f 73 (by decide), f 74 (by decide), f 75 (by decide), f 76 (by decide), f 77 (by decide), f 78 (by decide), f 79 (by decide)]
  exact h
theorem mem_imp {L : List Nat} {l : List Nat} (h : ∀ q ∈ l, q ∉ L) (k : Nat) (hk : k ∈ l) : k ∉ L := h k hk
theorem rS.frm (h : rS X Y X) (hF : Frm L X X1) (hH : Frm N Y Y1) (hd : ∀ q ∈ [701, 707, 800, 900, 1000, 1100, 1200, 1300, 1400, 7000, 7100, 7200, 7300, 7400, 7500, 7600, 7700, 7800, 7900], q ∉ L) (he : 400 ∉ N) : rS X1 Y1 X1 := by
  intro s g s0 s1 e
  rw [hH 4 0 s he] at e
  refine (h s g s0 s1 e).of (hF 7 g 0 (hd 701 (by decide))) (hF 7 g 6 (hd 707 (by decide))) (fun κ hκ => ?_) (fun κ hκ => ?_)
  · simp only [List.mem_cons, List.not_mem_nil, or_false] at hκ
    rcases hκ with rfl | rfl | rfl | rfl | rfl | rfl | rfl
    · exact congrFun (hF.arr 8 (by decide +kernel) (hd 800 (by decide))) g
    · exact congrFun (hF.arr 9 (by decide +kernel) (hd 900 (by decide))) g
    · exact congrFun (hF.arr 10 (by decide +kernel) (hd 1000 (by decide))) g
    · exact congrFun (hF.arr 11 (by decide +kernel) (hd 1100 (by decide))) g
    · exact congrFun (hF.arr 12 (by decide +kernel) (hd 1200 (by decide))) g
    · exact congrFun (hF.arr 13 (by decide +kernel) (hd 1300 (by decide))) g
    · exact congrFun (hF.arr 14 (by decide +kernel) (hd 1400 (by decide))) g
  · simp only [List.mem_cons, List.not_mem_nil, or_false] at hκ
    rcases hκ with rfl | rfl | rfl | rfl | rfl | rfl | rfl | rfl | rfl | rfl
    · exact hF.arr 70 (by decide +kernel) (hd 7000 (by decide))
    · exact hF.arr 71 (by decide +kernel) (hd 7100 (by decide))
    · exact hF.arr 72 (by decide +kernel) (hd 7200 (by decide))
    · exact hF.arr 73 (by decide +kernel) (hd 7300 (by decide))
    · exact hF.arr 74 (by decide +kernel) (hd 7400 (by decide))
    · exact hF.arr 75 (by decide +kernel) (hd 7500 (by decide))
    · exact hF.arr 76 (by decide +kernel) (hd 7600 (by decide))
    · exact hF.arr 77 (by decide +kernel) (hd 7700 (by decide))
    · exact hF.arr 78 (by decide +kernel) (hd 7800 (by decide))
    · exact hF.arr 79 (by decide +kernel) (hd 7900 (by decide))
theorem rA6.frm (h : rA6 Y) (hH : Frm N Y Y1) (he : ∀ q ∈ [400, 7, 8], q ∉ N) : rA6 Y1 := by
  have e : sl6 Y1 = sl6 Y := by
    funext i
    unfold sl6
    rw [hH 4 0 i (he 400 (by decide)), hH 0 0 6 (he 7 (by decide)), hH 0 0 7 (he 8 (by decide))]
  unfold rA6 at *
  rw [e]
  exact h
theorem mNm.frm (h : mNm X) (hF : Frm L X X1) (hd : ∀ q ∈ [4003, 4400, 4500], q ∉ L) : mNm X1 := by
  unfold mNm at *
  rw [hF 40 0 2 (hd 4003 (by decide)), hF.arr 44 (by decide +kernel) (hd 4400 (by decide)), hF.arr 45 (by decide +kernel) (hd 4500 (by decide))]
  exact h
theorem RB.grow (h : RB c C Y ln M) (hc : c ≤ c1) (hl : ∀ i, 0 ≤ i → i < c → ln1 i = ln i) : RB c1 C Y ln1 M := by
  refine ⟨h.1, h.2.1, fun g r l q => ?_, h.2.2.2⟩
  obtain ⟨a1, a2, a3, a4, a5, a6, a7⟩ := h.2.2.1 g r l q
  rw [hl g a1 a2]
  exact ⟨a1, by omega, a3, a4, a5, a6, a7⟩
theorem RB.y (h : RB c C Y ln M) (e5 : ∀ x, Y1 15 x 0 = Y 15 x 0) (e7 : Y1 17 = Y 17) (f0 : ∀ n, Y1 28 n 0 = Y 28 n 0) (f3 : ∀ n, Y1 28 n 3 = Y 28 n 3) : RB c C Y1 ln M := by
  obtain ⟨⟨a1, a2⟩, ⟨b1, b2⟩, d1, d2⟩ := h
  have hv : ∀ g r l, Lv Y1 M g r l → Lv Y M g r l := fun g r l q => by
    unfold Lv LvF LvN LvI at *
    simp only [e7, f3] at q
    exact q
  refine ⟨⟨a1, fun x h0 h1 => ?_⟩, ⟨b1, fun n h0 h1 => ?_⟩, fun g r l q => d1 g r l (hv g r l q), fun g r l g' r' l' q q' => d2 _ _ _ _ _ _ (hv _ _ _ q) (hv _ _ _ q')⟩
  · rw [e5, e7]
    exact a2 x h0 h1
  · have h9 := b2 n h0 h1
    unfold nOK at *
    rw [f0, f3]
    exact h9
theorem RBn.cls (h : RBn c X Y ln) (hF : Frm L X X1) (hH : Frm N Y Y1) (hd : ∀ q ∈ L, q < 4000) (hd2 : ∀ q ∈ [4, 1600, 2700, 2802, 2803, 2902, 3100], q ∉ L) (he : ∀ q ∈ [1501, 1700, 2801, 2804], q ∉ N) : RBn c X1 Y1 ln := by
  have e40 := hF.hi hd 40 (by decide)
  refine ⟨((h.1.m (hF.hi hd)).cc (hF 0 0 3 (hd2 4 (by decide))) (hF.arr 16 (by decide +kernel) (hd2 1600 (by decide))) (hF.arr 27 (by decide +kernel) (hd2 2700 (by decide))) (hF.arr 31 (by decide +kernel) (hd2 3100 (by decide))) (fun n => hF 28 n 1 (hd2 2802 (by decide))) (fun n => hF 28 n 2 (hd2 2803 (by decide)))).y (fun x => hH 15 x 0 (he 1501 (by decide))) (hH.arr 17 (by decide +kernel) (he 1700 (by decide))) (fun n => hH 28 n 0 (he 2801 (by decide))) (fun n => hH 28 n 3 (he 2804 (by decide))), ?_⟩
  rw [hF 29 0 1 (hd2 2902 (by decide)), e40]
  exact h.2
theorem RBn.mdl (h : RBn c X Y ln) (hF : Frm L X X1) (hd : ∀ q ∈ L, 4000 < q) (hd2 : ∀ q ∈ [4014, 4021, 4023, 4400, 4600, 5500, 5600, 5700, 5800, 5900, 6200, 6400, 6500, 6600, 6700, 6800], q ∉ L) : RBn c X1 Y ln := by
  have nl : ∀ q, q < 4000 → q ∉ L := fun q hq hm => by
    have := hd q hm
    omega
  have k : ∀ κ, (lay κ).1 = 0 → κ * 100 ∈ [4400, 4600, 5500, 5600, 5700, 5800, 5900, 6200, 6400, 6500, 6600, 6700, 6800] → X1 κ = X κ := fun κ h0 hm => hF.arr κ h0 (hd2 _ (by simp only [List.mem_cons, List.not_mem_nil, or_false] at hm ⊢; omega))
  have e44 := k 44 (by decide +kernel) (by decide)
  have e46 := k 46 (by decide +kernel) (by decide)
  have e55 := k 55 (by decide +kernel) (by decide)
  have e56 := k 56 (by decide +kernel) (by decide)
  have e57 := k 57 (by decide +kernel) (by decide)
  have e58 := k 58 (by decide +kernel) (by decide)
  have e59 := k 59 (by decide +kernel) (by decide)
  have e62 := k 62 (by decide +kernel) (by decide)
  have e64 := k 64 (by decide +kernel) (by decide)
  have e65 := k 65 (by decide +kernel) (by decide)
  have e66 := k 66 (by decide +kernel) (by decide)
  have e67 := k 67 (by decide +kernel) (by decide)
  have e68 := k 68 (by decide +kernel) (by decide)
  have a13 := hF 40 0 13 (hd2 4014 (by decide))
  have a20 := hF 40 0 20 (hd2 4021 (by decide))
  have a22 := hF 40 0 22 (hd2 4023 (by decide))
  have h1 : RB c X1 Y ln X := h.1.mdl hF hd
  refine ⟨?_, by rw [hF 29 0 1 (nl 2902 (by decide)), a22]; exact h.2⟩
  unfold RB rH rN nOK rR Lv LvF LvN LvI lnM fcM at *
  simp only [a13, a20, a22, e44, e46, e55, e56, e57, e58, e59, e62, e64, e65, e66, e67, e68]
  exact h1
end FR
theorem fc28 (j : Int) : fcode 28 j = 2801 + j.toNat := by
  unfold fcode
  rw [if_neg (by decide +kernel)]
section JW
variable {X X1 X2 : Nat → Int → Int → Int} {Y Y1 : Nat → Int → Int → Option Int} {ln ln1 : Int → Int} {c c1 : Int} {L L0 N0 : List Nat}
/-- a row comes to a place -/
theorem J_rw {x k v r0 g0 : Int} {ro : Option Int} (hB : RB c X Y ln X) (hn : X 29 0 1 = X 40 0 22) (hm : X 29 0 3 = X 40 0 20) (hR : Rng X) (hp : 0 ≤ x ∧ x < X 40 0 13 ∧ 0 ≤ k ∧ k < X 44 0 (X 55 0 x)) (hl3 : 3 ≤ X 46 0 (5 * X 55 0 x + k))
    (hF : Frm L0 X X1) (hL0 : ∀ q ∈ L0, q < 4000) (hL1 : ∀ q ∈ [4, 3100], q ∉ L0) (hH : Frm N0 Y Y1) (hN0 : 1501 ∉ N0) (eC : eNoteC X X1 Y Y1 (some x) k v (Y 17 x k)) (hv : Y1 17 x k = ro) (ho : ∀ y j, ¬ (y = x ∧ j = k) → Y1 17 y j = Y 17 y j) (h16 : ∀ y j, X1 16 y j = X 16 y j)
    (hG : Frm L X1 X2) (hd : ∀ q ∈ L, 4000 < q) (hd2 : ∀ q ∈ [4400, 4600, 5500, 6200, 4014, 4021], q ∉ L) (eM : eNoteM X1 X2 x k (if 3 ≤ X1 46 0 (5 * X1 55 0 x + k) then X1 56 0 (5 * x + k) else -1) (-1) (X1 56 0 (5 * x + k))) (hv2 : X2 56 0 (5 * x + k) = r0) (ho2 : ∀ p, p ≠ 5 * x + k → X2 56 0 p = X1 56 0 p) (hnone : ro = none ↔ r0 < 0)
    (hc : 0 ≤ c ∧ c ≤ c1) (hkp : ∀ g r l, Lv Y X1 g r l → X2 57 0 r = l ∧ ln1 g = X2 58 0 r ∧ ∀ i, 0 ≤ i → i < ln1 g → X1 27 g i = X2 59 0 (12 * r + i)) (h57' : ∀ n, 0 ≤ n → n < X1 40 0 22 → 0 ≤ X1 67 0 n → X2 57 0 (X1 66 0 n) = X1 57 0 (X1 66 0 n))
    (hcase : ro = none ∨ (ro = some g0 ∧ Lv Y X1 g0 r0 (lnM X1 x k)) ∨ (ro = some g0 ∧ (c ≤ g0 ∧ g0 < c1) ∧ (0 ≤ r0 ∧ r0 ≤ 399) ∧ (∀ g r l, Lv Y X1 g r l → r ≠ r0) ∧ X2 57 0 r0 = lnM X1 x k ∧ ln1 g0 = X2 58 0 r0 ∧ ∀ i, 0 ≤ i → i < ln1 g0 → X1 27 g0 i = X2 59 0 (12 * r0 + i))) : RBn c1 X2 Y1 ln1 := by
  have hi := hF.hi hL0
  have h1 : RB c X Y ln X1 := hB.m hi
  have e40 := hi 40 (by decide)
  have e44 := hi 44 (by decide)
  have e46 := hi 46 (by decide)
  have e55 := hi 55 (by decide)
  rw [if_pos (by rw [e46, e55]; exact hl3)] at eM
  have hN := RB_row (M1 := X2) (g0 := g0) h1 (by rw [e40]; exact hn) (by rw [e40]; exact hm) (KpC.of hF hH hL1 hN0) (KpM.of hG hd2) (fun y => by unfold fcM; rw [e44]; exact (hR 44 0 _).2) (by unfold fcM; rw [e40, e44, e55]; exact hp) (by unfold lnM; rw [e46, e55]; exact hl3) eC hv ho h16 eM hv2 ho2 hnone hc hkp h57' hcase
  refine ⟨hN.1.mdl hG hd, ?_⟩
  have e9 : X2 29 0 1 = X1 29 0 1 := hG 29 0 1 (fun q => by
    have := hd 2902 q
    omega)
  rw [e9]
  exact hN.2
end JW
theorem RB_rn {C C1 M M1 : Nat → Int → Int → Int} {Y : Nat → Int → Int → Option Int} {ln : Int → Int} {c : Int} (h : RB c C Y ln M) (hrn : rN C1 Y M1) (e3 : C1 0 0 3 = C 0 0 3) (e16 : C1 16 = C 16) (e27 : C1 27 = C 27) (a13 : M1 40 0 13 = M 40 0 13) (a22 : M1 40 0 22 = M 40 0 22) (k : ∀ κ ∈ [44, 46, 55, 56, 57, 58, 59, 64, 65, 66, 67, 68], M1 κ = M κ) : RB c C1 Y ln M1 := by
  obtain ⟨h1, -, h3⟩ := h
  refine ⟨?_, hrn, ?_⟩
  · unfold rH lnM fcM at *
    rw [e3, e16, a13, k 44 (by decide), k 46 (by decide), k 55 (by decide), k 56 (by decide)]
    exact h1
  · unfold rR Lv LvF LvN LvI lnM fcM at *
    rw [e27, a13, a22, k 44 (by decide), k 46 (by decide), k 55 (by decide), k 56 (by decide), k 57 (by decide), k 58 (by decide), k 59 (by decide), k 64 (by decide), k 65 (by decide), k 66 (by decide), k 67 (by decide), k 68 (by decide)]
    exact h3
theorem RB.c2 {C C1 M : Nat → Int → Int → Int} {Y : Nat → Int → Int → Option Int} {ln : Int → Int} {c : Int} (h : RB c C Y ln M) (e3 : C1 0 0 3 = C 0 0 3) (e16 : C1 16 = C 16) (e27 : ∀ g, 0 ≤ g → g < c → C1 27 g = C 27 g) (e31 : C1 31 = C 31) (e1 : ∀ n, C1 28 n 1 = C 28 n 1) (e2 : ∀ n, C1 28 n 2 = C 28 n 2) : RB c C1 Y ln M := by
  obtain ⟨⟨a1, a2⟩, ⟨b1, b2⟩, d1, d2⟩ := h
  refine ⟨⟨by rw [e3]; exact a1, fun x h0 h1 => ?_⟩, ⟨fun m h0 h1 => by rw [e31]; exact b1 m h0 h1, fun n h0 h1 => ?_⟩, fun g r l q => ?_, d2⟩
  · rw [e16]
    exact a2 x h0 h1
  · have h9 := b2 n h0 h1
    unfold nOK at *
    rw [e1, e2]
    exact h9
  · obtain ⟨f1, f2, f3, f4, f5, f6, f7⟩ := d1 g r l q
    rw [e27 g f1 f2]
    exact ⟨f1, f2, f3, f4, f5, f6, f7⟩
end
section
/-! each call, both sides -/
section JS
variable {cnt cnt1 : Nat → Int} {X X1 X2 : Nat → Int → Int → Int} {Y Y1 : Nat → Int → Int → Option Int} {ln ln1 : Int → Int} {c c1 : Int} {L N K : List Nat}
theorem RC_of (h : RC cnt X Y ln) (hF : Frm L X X1) (hH : Frm N Y Y1) (hG : Frm K X1 X2) (hd : ∀ q ∈ [2, 4003, 2904, 4021, 300, 4200, 1907, 4900, 1902, 2000, 2100, 2200, 2300, 4400, 4500, 4600, 4700, 4800, 5000, 5100, 5200, 5300, 2501, 2502, 2503, 2504, 701, 707, 800, 900, 1000, 1100, 1200, 1300, 1400, 7000, 7100, 7200, 7300, 7400, 7500, 7600, 7700, 7800, 7900], q ∉ L) (he : ∀ q ∈ [2400, 400, 7, 8], q ∉ N) (hk : ∀ q ∈ [2, 4003, 2904, 4021, 300, 4200, 1907, 4900, 1902, 2000, 2100, 2200, 2300, 4400, 4500, 4600, 4700, 4800, 5000, 5100, 5200, 5300, 2501, 2502, 2503, 2504, 701, 707, 800, 900, 1000, 1100, 1200, 1300, 1400, 7000, 7100, 7200, 7300, 7400, 7500, 7600, 7700, 7800, 7900], q ∉ K) (hc : cnt 25 ≤ cnt1 25) (hB : RBn (cnt1 26) X2 Y1 ln1) : RC cnt1 X2 Y1 ln1 := by
  obtain ⟨⟨hT, hM, hW, hC, hf⟩, -, hK, hS, h6, hN⟩ := h
  have sb : ∀ (l : List Nat) (P : List Nat), (∀ q ∈ [2, 4003, 2904, 4021, 300, 4200, 1907, 4900, 1902, 2000, 2100, 2200, 2300, 4400, 4500, 4600, 4700, 4800, 5000, 5100, 5200, 5300, 2501, 2502, 2503, 2504, 701, 707, 800, 900, 1000, 1100, 1200, 1300, 1400, 7000, 7100, 7200, 7300, 7400, 7500, 7600, 7700, 7800, 7900], q ∉ P) → (∀ q ∈ l, q ∈ [2, 4003, 2904, 4021, 300, 4200, 1907, 4900, 1902, 2000, 2100, 2200, 2300, 4400, 4500, 4600, 4700, 4800, 5000, 5100, 5200, 5300, 2501, 2502, 2503, 2504, 701, 707, 800, 900, 1000, 1100, 1200, 1300, 1400, 7000, 7100, 7200, 7300, 7400, 7500, 7600, 7700, 7800, 7900]) → ∀ q ∈ l, q ∉ P := fun l P a b q hq => a q (b q hq)
  refine ⟨⟨(hT.frm hF (sb _ _ hd (by decide))).frm hG (sb _ _ hk (by decide)), (hM.frm hF (sb _ _ hd (by decide))).frm hG (sb _ _ hk (by decide)), (hW.frm hF (sb _ _ hd (by decide))).frm hG (sb _ _ hk (by decide)), (hC.frm hF (sb _ _ hd (by decide))).frm hG (sb _ _ hk (by decide)), (hf.frm hF (sb _ _ hd (by decide))).frm hG (sb _ _ hk (by decide))⟩, hB, ?_, ?_, h6.frm hH (fun q hq => he q (by simp only [List.mem_cons, List.not_mem_nil, or_false] at hq ⊢; omega)), (hN.frm hF (sb _ _ hd (by decide))).frm hG (sb _ _ hk (by decide))⟩
  · exact (hK.frm hF hH (sb _ _ hd (by decide)) (he 2400 (by decide)) hc).frm (N := []) hG Frm.rf (sb _ _ hk (by decide)) (by decide) (Int.le_refl _)
  · exact (hS.frm hF hH (sb _ _ hd (by decide)) (he 400 (by decide))).frm (N := []) hG Frm.rf (sb _ _ hk (by decide)) (by decide)
/-! calls that change nothing that both sides tell of -/
theorem J_told {z z2 x what : Int} (h : RC cnt X Y ln) (hMI : MInv X) (hR : Rng X) (hR1 : Rng X1) (hLn : LnL ln) (hN9 : 0 ≤ cnt 25 ∧ 0 ≤ cnt 26) (hF : Frm [] X X1) (p : ((¬ (0 ≤ x ∧ x < X 0 0 3) ∧ z = -1) ∨ ((0 ≤ x ∧ x < X 0 0 3) ∧ what = 0 ∧ z = tyo (Y 15 x 0)) ∨ ((0 ≤ x ∧ x < X 0 0 3) ∧ what = 1 ∧ z = X 19 (tyo (Y 15 x 0)) 1) ∨ ((0 ≤ x ∧ x < X 0 0 3) ∧ what ≠ 0 ∧ what ≠ 1 ∧ z = -2)) ∧ X1 = X) (hG : Frm [4001] X1 X2) (hM2 : MInv X2) (q : ((¬ (0 ≤ x ∧ x < X1 40 0 13) ∧ z2 = -1) ∨ ((0 ≤ x ∧ x < X1 40 0 13) ∧ what = 0 ∧ z2 = X1 55 0 x) ∨ ((0 ≤ x ∧ x < X1 40 0 13) ∧ what = 1 ∧ z2 = X1 44 0 (X1 55 0 x)) ∨ ((0 ≤ x ∧ x < X1 40 0 13) ∧ what ≠ 0 ∧ what ≠ 1 ∧ z2 = -2))) : RC cnt X2 Y ln ∧ z = z2 := by
  obtain ⟨⟨hT, hM, hW, hC, hf⟩, hB, hK, hS, h6, hN⟩ := id h
  have e40 := hF.hi (by decide) 40 (by decide)
  have e44 := hF.hi (by decide) 44 (by decide)
  have e55 := hF.hi (by decide) 55 (by decide)
  refine ⟨RC_of (N := []) h hF Frm.rf hG (by decide) (by decide) (by decide) (Int.le_refl _) ((hB.cls (N := []) hF Frm.rf (by decide) (by decide) (by decide)).mdl hG (by decide) (by decide)), ?_⟩
  have h3 := hB.1.1.1
  simp only [e40, e44, e55] at q
  have p := p.1
  by_cases hx : 0 ≤ x ∧ x < X 40 0 13
  · obtain ⟨b1, b2, b3, b4⟩ := bridge hB.1.1 hT hf hMI hR hx.1 hx.2
    rw [b1] at p
    omega
  · omega
theorem J_count {z z2 what : Int} (h : RC cnt X Y ln) (hMI : MInv X) (hR : Rng X) (hR1 : Rng X1) (hLn : LnL ln) (hN9 : 0 ≤ cnt 25 ∧ 0 ≤ cnt 26) (hF : Frm [] X X1) (p : ((what = 0 ∧ z = X 0 0 1) ∨ (what = 1 ∧ z = X 0 0 3) ∨ (what = 2 ∧ z = X 29 0 3) ∨ (what = 3 ∧ z = X 29 0 1) ∨ (¬ (0 ≤ what ∧ what ≤ 3) ∧ z = -2)) ∧ X1 = X) (hG : Frm [4001] X1 X2) (hM2 : MInv X2) (q : ((what = 0 ∧ z2 = X1 40 0 2) ∨ (what = 1 ∧ z2 = X1 40 0 13) ∨ (what = 2 ∧ z2 = X1 40 0 20) ∨ (what = 3 ∧ z2 = X1 40 0 22) ∨ (¬ (0 ≤ what ∧ what ≤ 3) ∧ z2 = -2))) : RC cnt X2 Y ln ∧ z = z2 := by
  obtain ⟨⟨hT, hM, hW, hC, hf⟩, hB, hK, hS, h6, hN⟩ := id h
  have e40 := hF.hi (by decide) 40 (by decide)
  refine ⟨RC_of (N := []) h hF Frm.rf hG (by decide) (by decide) (by decide) (Int.le_refl _) ((hB.cls (N := []) hF Frm.rf (by decide) (by decide) (by decide)).mdl hG (by decide) (by decide)), ?_⟩
  have h3 := hB.1.1.1
  have h4 := hB.2
  unfold rT at hT
  unfold rM at hM
  rw [e40] at q
  have p := p.1
  omega
theorem J_saved {z z2 sv what : Int} (h : RC cnt X Y ln) (hMI : MInv X) (hR : Rng X) (hR1 : Rng X1) (hLn : LnL ln) (hN9 : 0 ≤ cnt 25 ∧ 0 ≤ cnt 26) (hF : Frm [] X X1) (p : ((¬ (0 ≤ sv ∧ sv < 4) ∧ z = -1) ∨ ((0 ≤ sv ∧ sv < 4) ∧ what = 0 ∧ z = X 7 (tyo (Y 4 0 sv)) 0) ∨ ((0 ≤ sv ∧ sv < 4) ∧ what = 1 ∧ z = X 7 (tyo (Y 4 0 sv)) 6) ∨ ((0 ≤ sv ∧ sv < 4) ∧ what ≠ 0 ∧ what ≠ 1 ∧ z = -2)) ∧ X1 = X) (hG : Frm [4001] X1 X2) (hM2 : MInv X2) (q : ((¬ (0 ≤ sv ∧ sv < 4) ∧ z2 = -1) ∨ ((0 ≤ sv ∧ sv < 4) ∧ what = 0 ∧ z2 = X1 70 0 sv) ∨ ((0 ≤ sv ∧ sv < 4) ∧ what = 1 ∧ X1 70 0 sv = 0 ∧ z2 = 0) ∨ ((0 ≤ sv ∧ sv < 4) ∧ what = 1 ∧ X1 70 0 sv ≠ 0 ∧ z2 = X1 76 0 sv) ∨ ((0 ≤ sv ∧ sv < 4) ∧ what ≠ 0 ∧ what ≠ 1 ∧ z2 = -2))) : RC cnt X2 Y ln ∧ z = z2 := by
  obtain ⟨⟨hT, hM, hW, hC, hf⟩, hB, hK, hS, h6, hN⟩ := id h
  have e70 := hF.hi (by decide) 70 (by decide)
  have e76 := hF.hi (by decide) 76 (by decide)
  refine ⟨RC_of (N := []) h hF Frm.rf hG (by decide) (by decide) (by decide) (Int.le_refl _) ((hB.cls (N := []) hF Frm.rf (by decide) (by decide) (by decide)).mdl hG (by decide) (by decide)), ?_⟩
  rw [e70, e76] at q
  have p := p.1
  by_cases hs : 0 ≤ sv ∧ sv < 4
  · obtain ⟨g, g1, g2⟩ := h6.1 sv hs.1 (by omega)
    unfold sl6 at g1
    rw [if_pos hs.2] at g1
    obtain ⟨s1, s2, s3, -⟩ := hS sv g hs.1 hs.2 g1
    rw [tyo_some g1] at p
    have r0 : 0 ≤ X 70 0 sv ∧ X 70 0 sv ≤ 30 := hR 70 0 sv
    by_cases h0 : X 70 0 sv = 0
    · have s4 := s3 h0
      omega
    · have s4 := s2 (by omega)
      omega
  · omega
/-! things -/
theorem J_forget {z z2 : Int} (h : RC cnt X Y ln) (hMI : MInv X) (hR : Rng X) (hR1 : Rng X1) (hLn : LnL ln) (hN9 : 0 ≤ cnt 25 ∧ 0 ≤ cnt 26) (hF : Frm [4] X X1) (p : ((0 < X 29 0 3 ∧ z = -3 ∧ X1 0 0 3 = X 0 0 3) ∨ (X 29 0 3 = 0 ∧ z = X 0 0 3 ∧ X1 0 0 3 = 0))) (hG : Frm [4001, 4014] X1 X2) (hM2 : MInv X2) (q : ((0 < X1 40 0 20 ∧ z2 = -3 ∧ X2 40 0 13 = X1 40 0 13) ∨ (X1 40 0 20 = 0 ∧ z2 = X1 40 0 13 ∧ X2 40 0 13 = 0))) : RC cnt X2 Y ln ∧ z = z2 := by
  obtain ⟨⟨hT, hM, hW, hC, hf⟩, hB, hK, hS, h6, hN⟩ := id h
  have hi := hF.hi (by decide)
  have e40 := hi 40 (by decide)
  unfold rM at hM
  have h3 := hB.1.1.1
  rw [e40] at q
  have r13 : 0 ≤ X 40 0 13 ∧ X 40 0 13 ≤ 30 := hR 40 0 13
  have hz : z = z2 ∧ X1 0 0 3 = X2 40 0 13 ∧ (0 ≤ X2 40 0 13 ∧ X2 40 0 13 ≤ X 40 0 13) := by omega
  refine ⟨RC_of (N := []) h hF Frm.rf hG (by decide) (by decide) (by decide) (Int.le_refl _) ⟨?_, ?_⟩, hz.1⟩
  · have k1 : RB (cnt 26) X Y ln X1 := hB.1.m hi
    have k2 : RB (cnt 26) X1 Y ln X2 := RB_less (N := X2 40 0 13) k1 (KpN.of (N := []) hF Frm.rf hG (by decide) (fun j => by rw [fc28]; simp; omega) (fun j => by simp) (by decide)) hLn (by rw [e40]; exact hz.2.2) hz.2.1 rfl (hG.arr 44 (by decide +kernel) (by decide)) (hG.arr 46 (by decide +kernel) (by decide)) (hG.arr 55 (by decide +kernel) (by decide)) (hG.arr 56 (by decide +kernel) (by decide)) (hF.arr 16 (by decide +kernel) (by decide)) rfl rfl
    exact k2.mdl hG (by decide)
  · rw [hG 29 0 1 (show 2902 ∉ _ by decide), hG 40 0 22 (show 4023 ∉ _ by decide), hF 29 0 1 (show 2902 ∉ _ by decide), e40]
    exact hB.2
theorem J_thing {z z2 t : Int} (h : RC cnt X Y ln) (hMI : MInv X) (hR : Rng X) (hR1 : Rng X1) (hLn : LnL ln) (hN9 : 0 ≤ cnt 25 ∧ 0 ≤ cnt 26) (hF : Frm [4, 1600] X X1) (hH : Frm [1501, 1700] Y Y1) (p : ((¬ (0 ≤ t ∧ t < X 0 0 1) ∧ z = -1) ∨ ((0 ≤ t ∧ t < X 0 0 1) ∧ 30 ≤ X 0 0 3 ∧ z = -4) ∨ ((0 ≤ t ∧ t < X 0 0 1) ∧ X 0 0 3 < 30 ∧ z = X 0 0 3)) ∧ (z < 0 → X1 = X ∧ Y1 = Y) ∧ (0 ≤ z → X1 0 0 3 = X 0 0 3 + 1 ∧ Y1 15 (X 0 0 3) 0 = some t ∧ (∀ y, y ≠ X 0 0 3 → Y1 15 y 0 = Y 15 y 0) ∧ (∀ j, 0 ≤ j → j < X 19 t 1 → X1 16 (X 0 0 3) j = X 22 t j ∧ Y1 17 (X 0 0 3) j = none) ∧ ∀ y j, y ≠ X 0 0 3 → X1 16 y j = X 16 y j ∧ Y1 17 y j = Y 17 y j)) (hG : Frm [4001, 5500, 5600, 4014] X1 X2) (hM2 : MInv X2) (q : ((¬ (0 ≤ t ∧ t < X1 40 0 2) ∧ z2 = -1) ∨ ((0 ≤ t ∧ t < X1 40 0 2) ∧ X1 40 0 13 = 30 ∧ z2 = -4) ∨ ((0 ≤ t ∧ t < X1 40 0 2) ∧ X1 40 0 13 < 30 ∧ z2 = X1 40 0 13)) ∧ (z2 < 0 → Frm [4001] X1 X2) ∧ (0 ≤ z2 → X2 40 0 13 = X1 40 0 13 + 1 ∧ X2 55 0 z2 = t ∧ (∀ y, y ≠ z2 → X2 55 0 y = X1 55 0 y) ∧ (∀ q, 0 ≤ q → q < X1 44 0 t → X2 56 0 (5 * z2 + q) = X1 47 0 (5 * t + q)) ∧ ∀ j, j < 5 * z2 → X2 56 0 j = X1 56 0 j)) : RC cnt X2 Y1 ln ∧ z = z2 := by
  obtain ⟨⟨hT, hM, hW, hC, hf⟩, hB, hK, hS, h6, hN⟩ := id h
  obtain ⟨p, p1, p2⟩ := p
  obtain ⟨q, q1, q2⟩ := q
  have hi := hF.hi (by decide)
  have e40 := hi 40 (by decide)
  have e44 := hi 44 (by decide)
  have e46 := hi 46 (by decide)
  have e47 := hi 47 (by decide)
  have e55 := hi 55 (by decide)
  have e56 := hi 56 (by decide)
  have e64 := hi 64 (by decide)
  have e67 := hi 67 (by decide)
  unfold rT at hT
  have h3 := hB.1.1.1
  rw [e40] at q
  have r13 : 0 ≤ X 40 0 13 ∧ X 40 0 13 ≤ 30 := hR 40 0 13
  have hz : z = z2 ∧ (0 ≤ z → z = X 40 0 13 ∧ 0 ≤ t ∧ t < X 0 0 1) ∧ (¬ 0 ≤ z → z < 0) := by omega
  refine ⟨RC_of h hF hH hG (by decide) (by decide) (by decide) (Int.le_refl _) ⟨?_, ?_⟩, hz.1⟩
  · by_cases h0 : 0 ≤ z
    · obtain ⟨z1, t0, t1⟩ := hz.2.1 h0
      obtain ⟨a1, a2, a3, a4, a5⟩ := p2 h0
      obtain ⟨b1, b2, b3, b4, b5⟩ := q2 (by omega)
      have hft := hf t t0 t1
      have k1 : RB (cnt 26) X Y ln X1 := hB.1.m hi
      rw [← hz.1, z1] at b2 b3 b4 b5
      rw [h3] at a1 a2 a3 a4 a5
      rw [e40] at b1
      rw [e55] at b3
      rw [e44, e47] at b4
      rw [e56] at b5
      have k2 : RB (cnt 26) X1 Y1 ln X2 := RB_things (N := 1) (T := fun _ => t) k1 (KpN.of hF hH hG (by decide) (fun j => by rw [fc28]; simp; omega) (fun j => by rw [fc28]; simp; omega) (by decide)) hLn (by decide) (by rw [a1, h3]) (fun y y0 y1 => by rw [e40] at y0 y1; rw [show y = X 40 0 13 by omega]; exact a2) (fun y y0 => by rw [e40] at y0; exact a3 y (by omega)) (fun y k y0 y1 k0 k1' => by rw [e40] at y0 y1; rw [e44] at k1'; rw [show y = X 40 0 13 by omega]; exact a4 k k0 (by rw [hft.1]; exact k1')) (fun y k y0 => by rw [e40] at y0; exact a5 y k (by omega)) (by rw [b1, e40]) (hG.arr 44 (by decide +kernel) (by decide)) (hG.arr 46 (by decide +kernel) (by decide)) (fun y y0 y1 => by rw [e40] at y0 y1; rw [show y = X 40 0 13 by omega]; exact b2) (fun y y0 => by rw [e40] at y0; rw [e55]; exact b3 y (by omega)) (fun y k y0 y1 k0 k1' => by rw [e40] at y0 y1; rw [e44] at k1'; rw [e47, show y = X 40 0 13 by omega]; exact b4 k k0 k1') (fun j hj => by rw [e40] at hj; rw [e56]; exact b5 j hj) (fun t => by rw [e44]; exact (hR 44 0 t).2) (fun y k y0 y1 k0 k1' => by rw [e44] at k1'; rw [e47, e46]; exact ⟨(hft.2 k k0 (by rw [hft.1]; exact k1')).2.2.1, fun ne => hMI.2.1 t k t0 (by have r1 : X 40 0 2 ≤ 8 := (hR 40 0 2).2; omega) k0 k1' ne⟩) (fun n n0 n1 n2 => by rw [e40] at n1 ⊢; rw [e67] at n2; rw [e64]; exact ((hMI.2.2.2.1 n n0 n1).1 n2).1)
      exact k2.mdl hG (by decide)
    · obtain ⟨a1, a2⟩ := p1 (by omega)
      have b1 := q1 (by omega)
      rw [a1] at b1
      rw [a2]
      exact (hB.mdl b1 (by decide) (by decide)).1
  · rw [hG 29 0 1 (show 2902 ∉ _ by decide), hG 40 0 22 (show 4023 ∉ _ by decide), hF 29 0 1 (show 2902 ∉ _ by decide), e40]
    exact hB.2
/-! values -/
theorem J_put {z z2 x k v : Int} (h : RC cnt X Y ln) (hMI : MInv X) (hR : Rng X) (hR1 : Rng X1) (hLn : LnL ln) (hN9 : 0 ≤ cnt 25 ∧ 0 ≤ cnt 26) (hF : Frm [2802, 2803, 2902, 1600] X X1) (hH : Frm [2801, 2804] Y Y1) (p : ((¬ (0 ≤ x ∧ x < X 0 0 3 ∧ 0 ≤ k ∧ k < X 19 (tyo (Y 15 x 0)) 1) ∧ z = -1) ∨ ((0 ≤ x ∧ x < X 0 0 3 ∧ 0 ≤ k ∧ k < X 19 (tyo (Y 15 x 0)) 1) ∧ 1 < X 21 (tyo (Y 15 x 0)) k ∧ z = -14) ∨ ((0 ≤ x ∧ x < X 0 0 3 ∧ 0 ≤ k ∧ k < X 19 (tyo (Y 15 x 0)) 1) ∧ X 21 (tyo (Y 15 x 0)) k = 1 ∧ v ≠ -1 ∧ ¬ (0 ≤ v ∧ v < 16 ∧ X 3 0 v = 1) ∧ z = -17) ∨ ((0 ≤ x ∧ x < X 0 0 3 ∧ 0 ≤ k ∧ k < X 19 (tyo (Y 15 x 0)) 1) ∧ X 21 (tyo (Y 15 x 0)) k ≤ 1 ∧ (X 21 (tyo (Y 15 x 0)) k = 1 → v = -1 ∨ (0 ≤ v ∧ v < 16 ∧ X 3 0 v = 1)) ∧ 80 ≤ X 29 0 1 ∧ z = -4) ∨ ((0 ≤ x ∧ x < X 0 0 3 ∧ 0 ≤ k ∧ k < X 19 (tyo (Y 15 x 0)) 1) ∧ X 21 (tyo (Y 15 x 0)) k ≤ 1 ∧ (X 21 (tyo (Y 15 x 0)) k = 1 → v = -1 ∨ (0 ≤ v ∧ v < 16 ∧ X 3 0 v = 1)) ∧ X 29 0 1 ≤ 79 ∧ z = 1)) ∧ (z < 0 → X1 = X ∧ Y1 = Y) ∧ (z = 1 → eNoteC X X1 Y Y1 (some x) k (X 16 x k) (Y 17 x k) ∧ X1 16 x k = v ∧ (∀ y j, ¬ (y = x ∧ j = k) → X1 16 y j = X 16 y j) ∧ ∀ y j, Y1 17 y j = Y 17 y j)) (hG : Frm [4001, 6400, 6500, 6700, 6800, 6600, 4023, 5600] X1 X2) (hM2 : MInv X2) (q : ((¬ (0 ≤ x ∧ x < X1 40 0 13 ∧ 0 ≤ k ∧ k < X1 44 0 (X1 55 0 x)) ∧ z2 = -1) ∨ ((0 ≤ x ∧ x < X1 40 0 13 ∧ 0 ≤ k ∧ k < X1 44 0 (X1 55 0 x)) ∧ 1 < X1 46 0 (5 * X1 55 0 x + k) ∧ z2 = -14) ∨ ((0 ≤ x ∧ x < X1 40 0 13 ∧ 0 ≤ k ∧ k < X1 44 0 (X1 55 0 x)) ∧ X1 46 0 (5 * X1 55 0 x + k) = 1 ∧ v ≠ -1 ∧ ¬ (0 ≤ v ∧ v < 16 ∧ X1 42 0 v = 0) ∧ z2 = -17) ∨ ((0 ≤ x ∧ x < X1 40 0 13 ∧ 0 ≤ k ∧ k < X1 44 0 (X1 55 0 x)) ∧ X1 46 0 (5 * X1 55 0 x + k) ≤ 1 ∧ (X1 46 0 (5 * X1 55 0 x + k) = 1 → v = -1 ∨ (0 ≤ v ∧ v < 16 ∧ X1 42 0 v = 0)) ∧ (0 < X1 40 0 20 ∧ X1 40 0 22 = 80) ∧ z2 = -4) ∨ ((0 ≤ x ∧ x < X1 40 0 13 ∧ 0 ≤ k ∧ k < X1 44 0 (X1 55 0 x)) ∧ X1 46 0 (5 * X1 55 0 x + k) ≤ 1 ∧ (X1 46 0 (5 * X1 55 0 x + k) = 1 → v = -1 ∨ (0 ≤ v ∧ v < 16 ∧ X1 42 0 v = 0)) ∧ (X1 40 0 20 = 0 ∨ X1 40 0 22 ≤ 79) ∧ z2 = 1)) ∧ (z2 < 0 → Frm [4001] X1 X2) ∧ (z2 = 1 → eNoteM X1 X2 x k (if 3 ≤ X1 46 0 (5 * X1 55 0 x + k) then X1 56 0 (5 * x + k) else -1) (-1) (X1 56 0 (5 * x + k)) ∧ X2 56 0 (5 * x + k) = v ∧ ∀ p, p ≠ 5 * x + k → X2 56 0 p = X1 56 0 p)) : RC cnt X2 Y1 ln ∧ z = z2 := by
  obtain ⟨⟨hT, hM, hW, hC, hf⟩, hB, hK, hS, h6, hN⟩ := id h
  obtain ⟨p, p1, p2⟩ := p
  obtain ⟨q, q1, q2⟩ := q
  have hi := hF.hi (by decide)
  have e40 := hi 40 (by decide)
  have e42 := hi 42 (by decide)
  have e44 := hi 44 (by decide)
  have e46 := hi 46 (by decide)
  have e55 := hi 55 (by decide)
  simp only [e40, e42, e44, e46, e55] at q
  unfold rM at hM
  have h3 := hB.1.1.1
  have h4 := hB.2
  have hE := hMI.2.2.2.2.1.1
  have r22 : 0 ≤ X 40 0 22 ∧ X 40 0 22 ≤ 80 := hR 40 0 22
  have r20 : 0 ≤ X 40 0 20 ∧ X 40 0 20 ≤ 4 := hR 40 0 20
  have hw : 0 ≤ v ∧ v < 16 → X 3 0 v = 1 - X 42 0 v := fun w => hW v w.1 w.2
  have hz : z = z2 ∧ (z = 1 → (0 ≤ x ∧ x < X 40 0 13 ∧ 0 ≤ k ∧ k < X 44 0 (X 55 0 x)) ∧ X 46 0 (5 * X 55 0 x + k) < 3) ∧ (z ≠ 1 → z < 0) := by
    by_cases hx : 0 ≤ x ∧ x < X 40 0 13
    · obtain ⟨b1, b2, b3, b4⟩ := bridge hB.1.1 hT hf hMI hR hx.1 hx.2
      rw [b1] at p
      by_cases hk : 0 ≤ k ∧ k < X 44 0 (X 55 0 x)
      · have b5 := (b4 k hk.1 hk.2).2.1
        rcases p with p | p | p | p | p <;> rcases q with q | q | q | q | q <;> refine ⟨?_, fun u => ⟨?_, ?_⟩, fun u => ?_⟩ <;> omega
      · rcases p with p | p | p | p | p <;> rcases q with q | q | q | q | q <;> refine ⟨?_, fun u => ⟨?_, ?_⟩, fun u => ?_⟩ <;> omega
    · rcases p with p | p | p | p | p <;> rcases q with q | q | q | q | q <;> refine ⟨?_, fun u => ⟨?_, ?_⟩, fun u => ?_⟩ <;> omega
  refine ⟨RC_of h hF hH hG (by decide) (by decide) (by decide) (Int.le_refl _) ?_, hz.1⟩
  by_cases h1 : z = 1
  · obtain ⟨hp, hl⟩ := hz.2.1 h1
    obtain ⟨a1, a2, a3, a4⟩ := p2 h1
    obtain ⟨b1, b2, b3⟩ := q2 (by omega)
    exact J_val hB.1 h4 hM hR hLn hp hl hF hH a1 a2 a3 a4 hG (by decide) (by decide) b1 b2 b3
  · obtain ⟨a1, a2⟩ := p1 (hz.2.2 h1)
    have b1 := q1 (by have := hz.2.2 h1; omega)
    rw [a1] at b1
    rw [a2]
    exact hB.mdl b1 (by decide) (by decide)
theorem J_refer {z z2 x k y : Int} (h : RC cnt X Y ln) (hMI : MInv X) (hR : Rng X) (hR1 : Rng X1) (hLn : LnL ln) (hN9 : 0 ≤ cnt 25 ∧ 0 ≤ cnt 26) (hF : Frm [2802, 2803, 2902, 1600] X X1) (hH : Frm [2801, 2804] Y Y1) (p : ((¬ ((0 ≤ x ∧ x < X 0 0 3 ∧ 0 ≤ k ∧ k < X 19 (tyo (Y 15 x 0)) 1) ∧ (y = -1 ∨ (0 ≤ y ∧ y < X 0 0 3))) ∧ z = -1) ∨ ((0 ≤ x ∧ x < X 0 0 3 ∧ 0 ≤ k ∧ k < X 19 (tyo (Y 15 x 0)) 1) ∧ (y = -1 ∨ (0 ≤ y ∧ y < X 0 0 3)) ∧ X 21 (tyo (Y 15 x 0)) k ≠ 2 ∧ z = -14) ∨ ((0 ≤ x ∧ x < X 0 0 3 ∧ 0 ≤ k ∧ k < X 19 (tyo (Y 15 x 0)) 1) ∧ (y = -1 ∨ (0 ≤ y ∧ y < X 0 0 3)) ∧ X 21 (tyo (Y 15 x 0)) k = 2 ∧ 80 ≤ X 29 0 1 ∧ z = -4) ∨ ((0 ≤ x ∧ x < X 0 0 3 ∧ 0 ≤ k ∧ k < X 19 (tyo (Y 15 x 0)) 1) ∧ (y = -1 ∨ (0 ≤ y ∧ y < X 0 0 3)) ∧ X 21 (tyo (Y 15 x 0)) k = 2 ∧ X 29 0 1 ≤ 79 ∧ z = 1)) ∧ (z < 0 → X1 = X ∧ Y1 = Y) ∧ (z = 1 → eNoteC X X1 Y Y1 (some x) k (X 16 x k) (Y 17 x k) ∧ X1 16 x k = y ∧ (∀ p j, ¬ (p = x ∧ j = k) → X1 16 p j = X 16 p j) ∧ ∀ p j, Y1 17 p j = Y 17 p j)) (hG : Frm [4001, 6400, 6500, 6700, 6800, 6600, 4023, 5600] X1 X2) (hM2 : MInv X2) (q : ((¬ ((0 ≤ x ∧ x < X1 40 0 13 ∧ 0 ≤ k ∧ k < X1 44 0 (X1 55 0 x)) ∧ (y = -1 ∨ (0 ≤ y ∧ y < X1 40 0 13))) ∧ z2 = -1) ∨ ((0 ≤ x ∧ x < X1 40 0 13 ∧ 0 ≤ k ∧ k < X1 44 0 (X1 55 0 x)) ∧ (y = -1 ∨ (0 ≤ y ∧ y < X1 40 0 13)) ∧ X1 46 0 (5 * X1 55 0 x + k) ≠ 2 ∧ z2 = -14) ∨ ((0 ≤ x ∧ x < X1 40 0 13 ∧ 0 ≤ k ∧ k < X1 44 0 (X1 55 0 x)) ∧ (y = -1 ∨ (0 ≤ y ∧ y < X1 40 0 13)) ∧ X1 46 0 (5 * X1 55 0 x + k) = 2 ∧ (0 < X1 40 0 20 ∧ X1 40 0 22 = 80) ∧ z2 = -4) ∨ ((0 ≤ x ∧ x < X1 40 0 13 ∧ 0 ≤ k ∧ k < X1 44 0 (X1 55 0 x)) ∧ (y = -1 ∨ (0 ≤ y ∧ y < X1 40 0 13)) ∧ X1 46 0 (5 * X1 55 0 x + k) = 2 ∧ (X1 40 0 20 = 0 ∨ X1 40 0 22 ≤ 79) ∧ z2 = 1)) ∧ (z2 < 0 → Frm [4001] X1 X2) ∧ (z2 = 1 → eNoteM X1 X2 x k (if 3 ≤ X1 46 0 (5 * X1 55 0 x + k) then X1 56 0 (5 * x + k) else -1) (-1) (X1 56 0 (5 * x + k)) ∧ X2 56 0 (5 * x + k) = y ∧ ∀ p, p ≠ 5 * x + k → X2 56 0 p = X1 56 0 p)) : RC cnt X2 Y1 ln ∧ z = z2 := by
  obtain ⟨⟨hT, hM, hW, hC, hf⟩, hB, hK, hS, h6, hN⟩ := id h
  obtain ⟨p, p1, p2⟩ := p
  obtain ⟨q, q1, q2⟩ := q
  have hi := hF.hi (by decide)
  have e40 := hi 40 (by decide)
  have e44 := hi 44 (by decide)
  have e46 := hi 46 (by decide)
  have e55 := hi 55 (by decide)
  simp only [e40, e44, e46, e55] at q
  unfold rM at hM
  have h3 := hB.1.1.1
  have h4 := hB.2
  have hE := hMI.2.2.2.2.1.1
  have r22 : 0 ≤ X 40 0 22 ∧ X 40 0 22 ≤ 80 := hR 40 0 22
  have r20 : 0 ≤ X 40 0 20 ∧ X 40 0 20 ≤ 4 := hR 40 0 20
  have hz : z = z2 ∧ (z = 1 → (0 ≤ x ∧ x < X 40 0 13 ∧ 0 ≤ k ∧ k < X 44 0 (X 55 0 x)) ∧ X 46 0 (5 * X 55 0 x + k) < 3) ∧ (z ≠ 1 → z < 0) := by
    by_cases hx : 0 ≤ x ∧ x < X 40 0 13
    · obtain ⟨b1, b2, b3, b4⟩ := bridge hB.1.1 hT hf hMI hR hx.1 hx.2
      rw [b1] at p
      by_cases hk : 0 ≤ k ∧ k < X 44 0 (X 55 0 x)
      · have b5 := (b4 k hk.1 hk.2).2.1
        rcases p with p | p | p | p <;> rcases q with q | q | q | q <;> refine ⟨?_, fun u => ⟨?_, ?_⟩, fun u => ?_⟩ <;> omega
      · rcases p with p | p | p | p <;> rcases q with q | q | q | q <;> refine ⟨?_, fun u => ⟨?_, ?_⟩, fun u => ?_⟩ <;> omega
    · rcases p with p | p | p | p <;> rcases q with q | q | q | q <;> refine ⟨?_, fun u => ⟨?_, ?_⟩, fun u => ?_⟩ <;> omega
  refine ⟨RC_of h hF hH hG (by decide) (by decide) (by decide) (Int.le_refl _) ?_, hz.1⟩
  by_cases h1 : z = 1
  · obtain ⟨hp, hl⟩ := hz.2.1 h1
    obtain ⟨a1, a2, a3, a4⟩ := p2 h1
    obtain ⟨b1, b2, b3⟩ := q2 (by omega)
    exact J_val hB.1 h4 hM hR hLn hp hl hF hH a1 a2 a3 a4 hG (by decide) (by decide) b1 b2 b3
  · obtain ⟨a1, a2⟩ := p1 (hz.2.2 h1)
    have b1 := q1 (by have := hz.2.2 h1; omega)
    rw [a1] at b1
    rw [a2]
    exact hB.mdl b1 (by decide) (by decide)
theorem J_share {z z2 x k y j : Int} (h : RC cnt X Y ln) (hMI : MInv X) (hR : Rng X) (hR1 : Rng X1) (hLn : LnL ln) (hN9 : 0 ≤ cnt 25 ∧ 0 ≤ cnt 26) (hF : Frm [2802, 2803, 2902] X X1) (hH : Frm [2801, 2804, 1700] Y Y1) (p : ((¬ ((0 ≤ x ∧ x < X 0 0 3 ∧ 0 ≤ k ∧ k < X 19 (tyo (Y 15 x 0)) 1) ∧ (0 ≤ y ∧ y < X 0 0 3 ∧ 0 ≤ j ∧ j < X 19 (tyo (Y 15 y 0)) 1)) ∧ z = -1) ∨ (((0 ≤ x ∧ x < X 0 0 3 ∧ 0 ≤ k ∧ k < X 19 (tyo (Y 15 x 0)) 1) ∧ (0 ≤ y ∧ y < X 0 0 3 ∧ 0 ≤ j ∧ j < X 19 (tyo (Y 15 y 0)) 1)) ∧ (X 21 (tyo (Y 15 x 0)) k < 3 ∨ X 21 (tyo (Y 15 x 0)) k ≠ X 21 (tyo (Y 15 y 0)) j) ∧ z = -14) ∨ (((0 ≤ x ∧ x < X 0 0 3 ∧ 0 ≤ k ∧ k < X 19 (tyo (Y 15 x 0)) 1) ∧ (0 ≤ y ∧ y < X 0 0 3 ∧ 0 ≤ j ∧ j < X 19 (tyo (Y 15 y 0)) 1)) ∧ 3 ≤ X 21 (tyo (Y 15 x 0)) k ∧ X 21 (tyo (Y 15 x 0)) k = X 21 (tyo (Y 15 y 0)) j ∧ 80 ≤ X 29 0 1 ∧ z = -4) ∨ (((0 ≤ x ∧ x < X 0 0 3 ∧ 0 ≤ k ∧ k < X 19 (tyo (Y 15 x 0)) 1) ∧ (0 ≤ y ∧ y < X 0 0 3 ∧ 0 ≤ j ∧ j < X 19 (tyo (Y 15 y 0)) 1)) ∧ 3 ≤ X 21 (tyo (Y 15 x 0)) k ∧ X 21 (tyo (Y 15 x 0)) k = X 21 (tyo (Y 15 y 0)) j ∧ X 29 0 1 ≤ 79 ∧ z = 1)) ∧ (z < 0 → X1 = X ∧ Y1 = Y) ∧ (z = 1 → eNoteC X X1 Y Y1 (some x) k (X 16 x k) (Y 17 x k) ∧ Y1 17 x k = Y 17 y j ∧ (∀ p q, ¬ (p = x ∧ q = k) → Y1 17 p q = Y 17 p q) ∧ ∀ p q, X1 16 p q = X 16 p q)) (hG : Frm [4001, 6400, 6500, 6700, 6800, 6600, 4023, 5600] X1 X2) (hM2 : MInv X2) (q : ((¬ ((0 ≤ x ∧ x < X1 40 0 13 ∧ 0 ≤ k ∧ k < X1 44 0 (X1 55 0 x)) ∧ (0 ≤ y ∧ y < X1 40 0 13 ∧ 0 ≤ j ∧ j < X1 44 0 (X1 55 0 y))) ∧ z2 = -1) ∨ (((0 ≤ x ∧ x < X1 40 0 13 ∧ 0 ≤ k ∧ k < X1 44 0 (X1 55 0 x)) ∧ (0 ≤ y ∧ y < X1 40 0 13 ∧ 0 ≤ j ∧ j < X1 44 0 (X1 55 0 y))) ∧ (X1 46 0 (5 * X1 55 0 x + k) < 3 ∨ X1 46 0 (5 * X1 55 0 x + k) ≠ X1 46 0 (5 * X1 55 0 y + j)) ∧ z2 = -14) ∨ (((0 ≤ x ∧ x < X1 40 0 13 ∧ 0 ≤ k ∧ k < X1 44 0 (X1 55 0 x)) ∧ (0 ≤ y ∧ y < X1 40 0 13 ∧ 0 ≤ j ∧ j < X1 44 0 (X1 55 0 y))) ∧ 3 ≤ X1 46 0 (5 * X1 55 0 x + k) ∧ X1 46 0 (5 * X1 55 0 x + k) = X1 46 0 (5 * X1 55 0 y + j) ∧ (0 < X1 40 0 20 ∧ X1 40 0 22 = 80) ∧ z2 = -4) ∨ (((0 ≤ x ∧ x < X1 40 0 13 ∧ 0 ≤ k ∧ k < X1 44 0 (X1 55 0 x)) ∧ (0 ≤ y ∧ y < X1 40 0 13 ∧ 0 ≤ j ∧ j < X1 44 0 (X1 55 0 y))) ∧ 3 ≤ X1 46 0 (5 * X1 55 0 x + k) ∧ X1 46 0 (5 * X1 55 0 x + k) = X1 46 0 (5 * X1 55 0 y + j) ∧ (X1 40 0 20 = 0 ∨ X1 40 0 22 ≤ 79) ∧ z2 = 1)) ∧ (z2 < 0 → Frm [4001] X1 X2) ∧ (z2 = 1 → eNoteM X1 X2 x k (if 3 ≤ X1 46 0 (5 * X1 55 0 x + k) then X1 56 0 (5 * x + k) else -1) (-1) (X1 56 0 (5 * x + k)) ∧ X2 56 0 (5 * x + k) = X1 56 0 (5 * y + j) ∧ ∀ p, p ≠ 5 * x + k → X2 56 0 p = X1 56 0 p)) : RC cnt X2 Y1 ln ∧ z = z2 := by
  obtain ⟨⟨hT, hM, hW, hC, hf⟩, hB, hK, hS, h6, hN⟩ := id h
  obtain ⟨p, p1, p2⟩ := p
  obtain ⟨q, q1, q2⟩ := q
  have hi := hF.hi (by decide)
  have e40 := hi 40 (by decide)
  have e44 := hi 44 (by decide)
  have e46 := hi 46 (by decide)
  have e55 := hi 55 (by decide)
  have e56 := hi 56 (by decide)
  simp only [e40, e44, e46, e55] at q
  unfold rM at hM
  have h3 := hB.1.1.1
  have h4 := hB.2
  have hE := hMI.2.2.2.2.1.1
  have r22 : 0 ≤ X 40 0 22 ∧ X 40 0 22 ≤ 80 := hR 40 0 22
  have r20 : 0 ≤ X 40 0 20 ∧ X 40 0 20 ≤ 4 := hR 40 0 20
  have hz : z = z2 ∧ (z = 1 → ((0 ≤ x ∧ x < X 40 0 13 ∧ 0 ≤ k ∧ k < X 44 0 (X 55 0 x)) ∧ (0 ≤ y ∧ y < X 40 0 13 ∧ 0 ≤ j ∧ j < X 44 0 (X 55 0 y))) ∧ 3 ≤ X 46 0 (5 * X 55 0 x + k) ∧ X 46 0 (5 * X 55 0 x + k) = X 46 0 (5 * X 55 0 y + j)) ∧ (z ≠ 1 → z < 0) := by
    by_cases hx : 0 ≤ x ∧ x < X 40 0 13
    · by_cases hy : 0 ≤ y ∧ y < X 40 0 13
      · obtain ⟨b1, b2, b3, b4⟩ := bridge hB.1.1 hT hf hMI hR hx.1 hx.2
        obtain ⟨d1, d2, d3, d4⟩ := bridge hB.1.1 hT hf hMI hR hy.1 hy.2
        rw [b1, d1] at p
        by_cases hk : 0 ≤ k ∧ k < X 44 0 (X 55 0 x)
        · by_cases hj : 0 ≤ j ∧ j < X 44 0 (X 55 0 y)
          · have b5 := (b4 k hk.1 hk.2).2.1
            have d5 := (d4 j hj.1 hj.2).2.1
            rcases p with p | p | p | p <;> rcases q with q | q | q | q <;> refine ⟨?_, fun u => ⟨⟨?_, ?_⟩, ?_, ?_⟩, fun u => ?_⟩ <;> omega
          · rcases p with p | p | p | p <;> rcases q with q | q | q | q <;> refine ⟨?_, fun u => ⟨⟨?_, ?_⟩, ?_, ?_⟩, fun u => ?_⟩ <;> omega
        · rcases p with p | p | p | p <;> rcases q with q | q | q | q <;> refine ⟨?_, fun u => ⟨⟨?_, ?_⟩, ?_, ?_⟩, fun u => ?_⟩ <;> omega
      · rcases p with p | p | p | p <;> rcases q with q | q | q | q <;> refine ⟨?_, fun u => ⟨⟨?_, ?_⟩, ?_, ?_⟩, fun u => ?_⟩ <;> omega
    · rcases p with p | p | p | p <;> rcases q with q | q | q | q <;> refine ⟨?_, fun u => ⟨⟨?_, ?_⟩, ?_, ?_⟩, fun u => ?_⟩ <;> omega
  refine ⟨RC_of h hF hH hG (by decide) (by decide) (by decide) (Int.le_refl _) ?_, hz.1⟩
  by_cases h1 : z = 1
  · obtain ⟨⟨hp, hp2⟩, hl, hl2⟩ := hz.2.1 h1
    obtain ⟨a1, a2, a3, a4⟩ := p2 h1
    obtain ⟨b1, b2, b3⟩ := q2 (by omega)
    have hmm : RB (cnt 26) X Y ln X1 := hB.1.m hi
    have hpl := (hB.1.1.2 y hp2.1 hp2.2.1).2 j hp2.2.2.1 hp2.2.2.2
    have hnn := hpl.2 (by unfold lnM; omega)
    have hsame := rR_same (C1 := X1) (M1 := X2) (ln1 := ln) hmm.2.2 (fun g _ _ => by rw [hF.arr 27 (by decide +kernel) (by decide)]) (fun _ _ _ => rfl) (fun g r l _ => ⟨by rw [hG.arr 57 (by decide +kernel) (by decide)], by rw [hG.arr 58 (by decide +kernel) (by decide)], fun i _ _ => by rw [hG.arr 59 (by decide +kernel) (by decide)]⟩) hLn
    have hc0 : 0 ≤ cnt 26 := hN9.2
    cases e : Y 17 y j with
    | none =>
      exact J_rw (g0 := 0) hB.1 h4 hM hR hp hl hF (by decide) (by decide) hH (by decide) a1 (a2.trans e) a3 a4 hG (by decide) (by decide) b1 b2 b3 (by rw [e56]; exact ⟨fun _ => hnn.mp e, fun _ => rfl⟩) ⟨hc0, Int.le_refl _⟩ hsame (fun n _ _ _ => by rw [hG.arr 57 (by decide +kernel) (by decide)]) (Or.inl rfl)
    | some g =>
      refine J_rw (g0 := g) hB.1 h4 hM hR hp hl hF (by decide) (by decide) hH (by decide) a1 (a2.trans e) a3 a4 hG (by decide) (by decide) b1 b2 b3 ⟨fun w => (by cases w), fun w => ?_⟩ ⟨hc0, Int.le_refl _⟩ hsame (fun n _ _ _ => by rw [hG.arr 57 (by decide +kernel) (by decide)]) (Or.inr (Or.inl ⟨rfl, Or.inl ⟨y, j, hp2.1, by rw [e40]; exact hp2.2.1, hp2.2.2.1, by unfold fcM; rw [e44, e55]; exact hp2.2.2.2, by unfold lnM; rw [e46, e55]; exact hl2.symm, by unfold lnM; rw [e46, e55]; exact hl, e, rfl⟩⟩))
      rw [e56] at w
      rw [hnn.mpr w] at e
      cases e
  · obtain ⟨a1, a2⟩ := p1 (hz.2.2 h1)
    have b1 := q1 (by have := hz.2.2 h1; omega)
    rw [a1] at b1
    rw [a2]
    exact hB.mdl b1 (by decide) (by decide)
theorem J_item {z z2 x k i v : Int} (h : RC cnt X Y ln) (hMI : MInv X) (hR : Rng X) (hR1 : Rng X1) (hLn : LnL ln) (hN9 : 0 ≤ cnt 25 ∧ 0 ≤ cnt 26) (hF : Frm [2802, 2803, 2902, 2700] X X1) (hH : Frm [2801, 2804] Y Y1) (p : ((¬ (0 ≤ x ∧ x < X 0 0 3 ∧ 0 ≤ k ∧ k < X 19 (tyo (Y 15 x 0)) 1) ∧ z = -1) ∨ ((0 ≤ x ∧ x < X 0 0 3 ∧ 0 ≤ k ∧ k < X 19 (tyo (Y 15 x 0)) 1) ∧ X 21 (tyo (Y 15 x 0)) k < 3 ∧ z = -14) ∨ ((0 ≤ x ∧ x < X 0 0 3 ∧ 0 ≤ k ∧ k < X 19 (tyo (Y 15 x 0)) 1) ∧ 3 ≤ X 21 (tyo (Y 15 x 0)) k ∧ (rlen ln (Y 17 x k) < 0) ∧ z = -11) ∨ ((0 ≤ x ∧ x < X 0 0 3 ∧ 0 ≤ k ∧ k < X 19 (tyo (Y 15 x 0)) 1) ∧ 3 ≤ X 21 (tyo (Y 15 x 0)) k ∧ ¬ (rlen ln (Y 17 x k) < 0) ∧ ¬ (0 ≤ i ∧ i < rlen ln (Y 17 x k)) ∧ z = -12) ∨ ((0 ≤ x ∧ x < X 0 0 3 ∧ 0 ≤ k ∧ k < X 19 (tyo (Y 15 x 0)) 1) ∧ 3 ≤ X 21 (tyo (Y 15 x 0)) k ∧ ¬ (rlen ln (Y 17 x k) < 0) ∧ (0 ≤ i ∧ i < rlen ln (Y 17 x k)) ∧ 80 ≤ X 29 0 1 ∧ z = -4) ∨ ((0 ≤ x ∧ x < X 0 0 3 ∧ 0 ≤ k ∧ k < X 19 (tyo (Y 15 x 0)) 1) ∧ 3 ≤ X 21 (tyo (Y 15 x 0)) k ∧ ¬ (rlen ln (Y 17 x k) < 0) ∧ (0 ≤ i ∧ i < rlen ln (Y 17 x k)) ∧ X 29 0 1 ≤ 79 ∧ z = 1)) ∧ (z < 0 → X1 = X ∧ Y1 = Y) ∧ (z = 1 → ∃ g, Y 17 x k = some g ∧ eNoteC X X1 Y Y1 none i (X 27 g i) (some g) ∧ X1 27 g i = cutZ (X 21 (tyo (Y 15 x 0)) k) v ∧ ∀ y j, ¬ (y = g ∧ j = i) → X1 27 y j = X 27 y j)) (hG : Frm [4001, 6600, 6700, 6800, 4023, 5900] X1 X2) (hM2 : MInv X2) (q : ((¬ (0 ≤ x ∧ x < X1 40 0 13 ∧ 0 ≤ k ∧ k < X1 44 0 (X1 55 0 x)) ∧ z2 = -1) ∨ ((0 ≤ x ∧ x < X1 40 0 13 ∧ 0 ≤ k ∧ k < X1 44 0 (X1 55 0 x)) ∧ X1 46 0 (5 * X1 55 0 x + k) < 3 ∧ z2 = -14) ∨ ((0 ≤ x ∧ x < X1 40 0 13 ∧ 0 ≤ k ∧ k < X1 44 0 (X1 55 0 x)) ∧ 3 ≤ X1 46 0 (5 * X1 55 0 x + k) ∧ (X1 56 0 (5 * x + k) < 0) ∧ z2 = -11) ∨ ((0 ≤ x ∧ x < X1 40 0 13 ∧ 0 ≤ k ∧ k < X1 44 0 (X1 55 0 x)) ∧ 3 ≤ X1 46 0 (5 * X1 55 0 x + k) ∧ ¬ (X1 56 0 (5 * x + k) < 0) ∧ ¬ (0 ≤ i ∧ i < X1 58 0 (X1 56 0 (5 * x + k))) ∧ z2 = -12) ∨ ((0 ≤ x ∧ x < X1 40 0 13 ∧ 0 ≤ k ∧ k < X1 44 0 (X1 55 0 x)) ∧ 3 ≤ X1 46 0 (5 * X1 55 0 x + k) ∧ ¬ (X1 56 0 (5 * x + k) < 0) ∧ (0 ≤ i ∧ i < X1 58 0 (X1 56 0 (5 * x + k))) ∧ (0 < X1 40 0 20 ∧ X1 40 0 22 = 80) ∧ z2 = -4) ∨ ((0 ≤ x ∧ x < X1 40 0 13 ∧ 0 ≤ k ∧ k < X1 44 0 (X1 55 0 x)) ∧ 3 ≤ X1 46 0 (5 * X1 55 0 x + k) ∧ ¬ (X1 56 0 (5 * x + k) < 0) ∧ (0 ≤ i ∧ i < X1 58 0 (X1 56 0 (5 * x + k))) ∧ (X1 40 0 20 = 0 ∨ X1 40 0 22 ≤ 79) ∧ z2 = 1)) ∧ (z2 < 0 → Frm [4001] X1 X2) ∧ (z2 = 1 → eNoteM X1 X2 (X1 64 0 (X1 40 0 22)) (X1 65 0 (X1 40 0 22)) (X1 56 0 (5 * x + k)) i (X1 59 0 (12 * X1 56 0 (5 * x + k) + i)) ∧ X2 59 0 (12 * X1 56 0 (5 * x + k) + i) = cutZ (X1 57 0 (X1 56 0 (5 * x + k))) v ∧ ∀ p, p ≠ 12 * X1 56 0 (5 * x + k) + i → X2 59 0 p = X1 59 0 p)) : RC cnt X2 Y1 ln ∧ z = z2 := by
  obtain ⟨⟨hT, hM, hW, hC, hf⟩, hB, hK, hS, h6, hN⟩ := id h
  obtain ⟨p, p1, p2⟩ := p
  obtain ⟨q, q1, q2⟩ := q
  have hi := hF.hi (by decide)
  have e40 := hi 40 (by decide)
  have e44 := hi 44 (by decide)
  have e46 := hi 46 (by decide)
  have e55 := hi 55 (by decide)
  have e56 := hi 56 (by decide)
  have e57 := hi 57 (by decide)
  have e58 := hi 58 (by decide)
  simp only [e40, e44, e46, e55, e56, e58] at q
  unfold rM at hM
  have h3 := hB.1.1.1
  have h4 := hB.2
  have hE := hMI.2.2.2.2.1.1
  have r22 : 0 ≤ X 40 0 22 ∧ X 40 0 22 ≤ 80 := hR 40 0 22
  have r20 : 0 ≤ X 40 0 20 ∧ X 40 0 20 ≤ 4 := hR 40 0 20
  have hrl : (0 ≤ x ∧ x < X 40 0 13) → (0 ≤ k ∧ k < X 44 0 (X 55 0 x)) → 3 ≤ X 46 0 (5 * X 55 0 x + k) → (rlen ln (Y 17 x k) < 0 ↔ X 56 0 (5 * x + k) < 0) ∧ (0 ≤ X 56 0 (5 * x + k) → rlen ln (Y 17 x k) = X 58 0 (X 56 0 (5 * x + k)) ∧ X 57 0 (X 56 0 (5 * x + k)) = X 46 0 (5 * X 55 0 x + k) ∧ ∃ g, Y 17 x k = some g) := by
    intro hx hk hl
    have hpl := ((hB.1.1.2 x hx.1 hx.2).2 k hk.1 hk.2).2 hl
    cases e : Y 17 x k with
    | none =>
      have h9 := hpl.mp e
      rw [rlen_n]
      exact ⟨⟨fun _ => h9, fun _ => by omega⟩, fun w => by omega⟩
    | some g =>
      have h8 : Lv Y X g (X 56 0 (5 * x + k)) (X 46 0 (5 * X 55 0 x + k)) := Or.inl ⟨x, k, hx.1, hx.2, hk.1, hk.2, rfl, hl, e, rfl⟩
      obtain ⟨c1, c2, c3, c4, c5, c6, -⟩ := hB.1.2.2.1 _ _ _ h8
      have l1 := hLn g
      rw [rlen_s]
      exact ⟨⟨fun w => by omega, fun w => by omega⟩, fun w => ⟨c6, c5, g, rfl⟩⟩
  have hz : z = z2 ∧ (z = 1 → (0 ≤ x ∧ x < X 40 0 13 ∧ 0 ≤ k ∧ k < X 44 0 (X 55 0 x)) ∧ 3 ≤ X 46 0 (5 * X 55 0 x + k) ∧ 0 ≤ X 56 0 (5 * x + k) ∧ (0 ≤ i ∧ i < X 58 0 (X 56 0 (5 * x + k)))) ∧ (z ≠ 1 → z < 0) := by
    by_cases hx : 0 ≤ x ∧ x < X 40 0 13
    · obtain ⟨b1, b2, b3, b4⟩ := bridge hB.1.1 hT hf hMI hR hx.1 hx.2
      rw [b1] at p
      by_cases hk : 0 ≤ k ∧ k < X 44 0 (X 55 0 x)
      · have b5 := (b4 k hk.1 hk.2).2.1
        by_cases hl : 3 ≤ X 46 0 (5 * X 55 0 x + k)
        · obtain ⟨r1, r2⟩ := hrl hx hk hl
          by_cases hn : X 56 0 (5 * x + k) < 0
          · rcases p with p | p | p | p | p | p <;> rcases q with q | q | q | q | q | q <;> refine ⟨?_, fun u => ⟨?_, ?_, ?_, ?_⟩, fun u => ?_⟩ <;> omega
          · have r3 := (r2 (by omega)).1
            rcases p with p | p | p | p | p | p <;> rcases q with q | q | q | q | q | q <;> refine ⟨?_, fun u => ⟨?_, ?_, ?_, ?_⟩, fun u => ?_⟩ <;> omega
        · rcases p with p | p | p | p | p | p <;> rcases q with q | q | q | q | q | q <;> refine ⟨?_, fun u => ⟨?_, ?_, ?_, ?_⟩, fun u => ?_⟩ <;> omega
      · rcases p with p | p | p | p | p | p <;> rcases q with q | q | q | q | q | q <;> refine ⟨?_, fun u => ⟨?_, ?_, ?_, ?_⟩, fun u => ?_⟩ <;> omega
    · rcases p with p | p | p | p | p | p <;> rcases q with q | q | q | q | q | q <;> refine ⟨?_, fun u => ⟨?_, ?_, ?_, ?_⟩, fun u => ?_⟩ <;> omega
  refine ⟨RC_of h hF hH hG (by decide) (by decide) (by decide) (Int.le_refl _) ?_, hz.1⟩
  by_cases h1 : z = 1
  · obtain ⟨hp, hl, hv0, hi0⟩ := hz.2.1 h1
    obtain ⟨g, a0, a1, a2, a3⟩ := p2 h1
    obtain ⟨b1, b2, b3⟩ := q2 (by omega)
    obtain ⟨r1, r2⟩ := hrl ⟨hp.1, hp.2.1⟩ ⟨hp.2.2.1, hp.2.2.2⟩ hl
    obtain ⟨r3, r4, -⟩ := r2 hv0
    rw [a0, rlen_s] at r3
    have l1 := hLn g
    obtain ⟨c1, c2, c3, c4⟩ := bridge hB.1.1 hT hf hMI hR hp.1 hp.2.1
    have c5 := (c4 k hp.2.2.1 hp.2.2.2).2.1
    rw [c1, c5] at a2
    rw [e57, e56, r4] at b2
    rw [e56] at b1 b3
    have hmm : RB (cnt 26) X Y ln X1 := hB.1.m hi
    have hN9 := RB_item (M1 := X2) (x := x) (k := k) (g := g) (r := X 56 0 (5 * x + k)) (i := i) hmm (by rw [e40]; exact h4) (by rw [e40]; exact hM) (KpC.of hF hH (by decide) (by decide)) (KpM.of hG (by decide)) (by unfold fcM; rw [e40, e44, e55]; exact hp) (by unfold lnM; rw [e46, e55]; exact hl) a0 (by rw [e56]) ⟨hi0.1, by omega⟩ a1 a2 a3 (hF.arr 16 (by decide +kernel) (by decide)) (hH.arr 17 (by decide +kernel) (by decide)) b1 b2 b3 (hG.arr 56 (by decide +kernel) (by decide)) (hG.arr 57 (by decide +kernel) (by decide)) (hG.arr 58 (by decide +kernel) (by decide)) (by omega) hLn
    refine ⟨hN9.1.mdl hG (by decide), ?_⟩
    rw [hG 29 0 1 (show 2902 ∉ _ by decide)]
    exact hN9.2
  · obtain ⟨a1, a2⟩ := p1 (hz.2.2 h1)
    have b1 := q1 (by have := hz.2.2 h1; omega)
    rw [a1] at b1
    rw [a2]
    exact hB.mdl b1 (by decide) (by decide)
theorem J_mark {z z2 : Int} (h : RC cnt X Y ln) (hMI : MInv X) (hR : Rng X) (hR1 : Rng X1) (hLn : LnL ln) (hN9 : 0 ≤ cnt 25 ∧ 0 ≤ cnt 26) (hF : Frm [2904, 3100] X X1) (p : ((4 ≤ X 29 0 3 ∧ z = -4 ∧ X1 29 0 3 = X 29 0 3) ∨ (X 29 0 3 < 4 ∧ z = X 29 0 3 + 1 ∧ X1 29 0 3 = X 29 0 3 + 1)) ∧ (0 ≤ z → X1 31 0 (X 29 0 3) = X 29 0 1) ∧ (∀ j, j ≠ X 29 0 3 → X1 31 0 j = X 31 0 j) ∧ (z < 0 → X1 = X)) (hG : Frm [4001, 6200, 4021] X1 X2) (hM2 : MInv X2) (q : ((X1 40 0 20 = 4 ∧ z2 = -4 ∧ X2 40 0 20 = X1 40 0 20) ∨ (X1 40 0 20 < 4 ∧ z2 = X1 40 0 20 + 1 ∧ X2 40 0 20 = X1 40 0 20 + 1)) ∧ (0 ≤ z2 → X2 62 0 (X1 40 0 20) = X1 40 0 22) ∧ (∀ j, j ≠ X1 40 0 20 → X2 62 0 j = X1 62 0 j) ∧ (z2 < 0 → Frm [4001] X1 X2)) : RC cnt X2 Y ln ∧ z = z2 := by
  obtain ⟨⟨hT, hM, hW, hC, hf⟩, hB, hK, hS, h6, hN⟩ := id h
  obtain ⟨p, p1, p2, p3⟩ := p
  obtain ⟨q, q1, q2, q3⟩ := q
  have hi := hF.hi (by decide)
  have e40 := hi 40 (by decide)
  have hmk := rM_mark hM hF p hG q hR
  have hzz := hmk.2
  unfold rM at hM
  rw [e40] at q q1 q2
  have h4 := hB.2
  have sb : ∀ (P : List Nat) (l : List Nat), (∀ q ∈ l, q ∉ P) → ∀ q ∈ l, q ∉ P := fun _ _ a => a
  refine ⟨⟨⟨(hT.frm hF (by decide)).frm hG (by decide), hmk.1, (hW.frm hF (by decide)).frm hG (by decide), (hC.frm hF (by decide)).frm hG (by decide), (hf.frm hF (by decide)).frm hG (by decide)⟩, ⟨?_, ?_⟩, (hK.frm (N := []) hF Frm.rf (by decide) (by decide) (Int.le_refl _)).frm (N := []) hG Frm.rf (by decide) (by decide) (Int.le_refl _), (hS.frm (N := []) hF Frm.rf (by decide) (by decide)).frm (N := []) hG Frm.rf (by decide) (by decide), h6, (hN.frm hF (by decide)).frm hG (by decide)⟩, hmk.2⟩
  · have hmm : RB (cnt 26) X Y ln X1 := hB.1.m hi
    have g22 : X2 40 0 22 = X1 40 0 22 := hG 40 0 22 (show 4023 ∉ _ by decide)
    have g13 : X2 40 0 13 = X1 40 0 13 := hG 40 0 13 (show 4014 ∉ _ by decide)
    by_cases h0 : 0 ≤ z
    · have hl : lnM X2 = lnM X1 := by
        funext a b
        unfold lnM
        rw [hG.arr 46 (by decide +kernel) (by decide), hG.arr 55 (by decide +kernel) (by decide)]
      have hk : ∀ k ∈ [57, 64, 65, 66, 67, 68], X2 k = X1 k := by
        intro k hk
        simp only [List.mem_cons, List.not_mem_nil, or_false] at hk
        rcases hk with rfl | rfl | rfl | rfl | rfl | rfl <;> exact hG.arr _ (by decide +kernel) (by decide)
      have hrn := rN_mark (C1 := X1) (M1 := X2) hmm.2.1 (by rw [e40]; exact h4) (by rw [e40]; exact hM) (fun n => ⟨hF 28 n 1 (show 2802 ∉ _ by decide), hF 28 n 2 (show 2803 ∉ _ by decide)⟩) (p1 h0) p2 (by rw [e40]; exact q1 (by omega)) (by rw [e40]; exact q2) (by rw [e40]; omega) g22 hl hk
      have k2 : RB (cnt 26) X1 Y ln X2 := RB_rn hmm hrn (hF 0 0 3 (show 4 ∉ _ by decide)) (hF.arr 16 (by decide +kernel) (by decide)) (hF.arr 27 (by decide +kernel) (by decide)) g13 g22 (fun κ hκ => by
        simp only [List.mem_cons, List.not_mem_nil, or_false] at hκ
        rcases hκ with rfl | rfl | rfl | rfl | rfl | rfl | rfl | rfl | rfl | rfl | rfl | rfl <;> exact hG.arr _ (by decide +kernel) (by decide))
      exact k2.mdl hG (by decide)
    · have b1 := q3 (by omega)
      rw [p3 (by omega)] at b1
      exact (hB.mdl b1 (by decide) (by decide)).1
  · rw [hG 29 0 1 (show 2902 ∉ _ by decide), hG 40 0 22 (show 4023 ∉ _ by decide), hF 29 0 1 (show 2902 ∉ _ by decide), e40]
    exact h4
theorem J_undo {z z2 : Int} (h : RC cnt X Y ln) (hMI : MInv X) (hR : Rng X) (hR1 : Rng X1) (hLn : LnL ln) (hN9 : 0 ≤ cnt 25 ∧ 0 ≤ cnt 26) (hF : Frm [2904, 2902, 1600, 2700] X X1) (hH : Frm [1700] Y Y1) (p : ((X 29 0 3 = 0 ∧ X1 29 0 3 = 0) ∨ (1 ≤ X 29 0 3 ∧ X1 29 0 3 = X 29 0 3 - 1)) ∧ (X 29 0 3 = 0 → X1 = X ∧ Y1 = Y ∧ z = -3) ∧ (1 ≤ X 29 0 3 → ∃ (V Xa : Nat → Int → Int → Int) (iz : Int), Frm [2904] X V ∧ uTrC (X 29 0 1) ((X 29 0 1 - 1 - iz).toNat) V Y Xa Y1 ∧ (X 31 0 (X 29 0 3 - 1) - 1 ≤ iz ∨ iz = X 29 0 1 - 1) ∧ iz < X 31 0 (X 29 0 3 - 1) ∧ (-1 ≤ iz ∧ iz < X 29 0 1 ∨ iz = -1) ∧ Frm [2902] Xa X1 ∧ X1 29 0 1 = X 31 0 (X 29 0 3 - 1) ∧ z = X 29 0 1 - X 31 0 (X 29 0 3 - 1))) (hG : Frm [4001, 4021, 4023, 5600, 5900] X1 X2) (hM2 : MInv X2) (q : ((X1 40 0 20 = 0 ∧ X2 40 0 20 = 0) ∨ (1 ≤ X1 40 0 20 ∧ X2 40 0 20 = X1 40 0 20 - 1)) ∧ (X1 40 0 20 = 0 → Frm [4001] X1 X2 ∧ z2 = -3) ∧ (1 ≤ X1 40 0 20 → ∃ V : Nat → Int → Int → Int, Frm [4001, 4021] X1 V ∧ V 40 0 20 = X1 40 0 20 - 1 ∧ X2 40 0 22 ≤ X1 62 0 (X1 40 0 20 - 1) ∧ (X2 40 0 22 = X1 40 0 22 ∨ X1 62 0 (X1 40 0 20 - 1) ≤ X2 40 0 22) ∧ z2 = X1 40 0 22 - X1 62 0 (X1 40 0 20 - 1) ∧ uTrM (X1 40 0 22) ((X1 40 0 22 - X2 40 0 22).toNat) V X2)) : RC cnt X2 Y1 ln ∧ z = z2 := by
  obtain ⟨⟨hT, hM, hW, hC, hf⟩, hB, hK, hS, h6, hN⟩ := id h
  obtain ⟨p, p1, p2⟩ := p
  obtain ⟨q, q1, q2⟩ := q
  have hi := hF.hi (by decide)
  have e40 := hi 40 (by decide)
  have e62 := hi 62 (by decide)
  have hmk := rM_undo hM hF p hG q
  have hm3 := hM
  unfold rM at hm3
  have h4 := hB.2
  have r20 : 0 ≤ X 40 0 20 ∧ X 40 0 20 ≤ 4 := hR 40 0 20
  have hfr : RC cnt X2 Y1 ln ↔ RBn (cnt 26) X2 Y1 ln := by
    constructor
    · exact fun w => w.2.1
    · intro w
      exact ⟨⟨(hT.frm hF (by decide)).frm hG (by decide), hmk, (hW.frm hF (by decide)).frm hG (by decide), (hC.frm hF (by decide)).frm hG (by decide), (hf.frm hF (by decide)).frm hG (by decide)⟩, w, (hK.frm hF hH (by decide) (by decide) (Int.le_refl _)).frm (N := []) hG Frm.rf (by decide) (by decide) (Int.le_refl _), (hS.frm hF hH (by decide) (by decide)).frm (N := []) hG Frm.rf (by decide) (by decide), h6.frm hH (by decide), (hN.frm hF (by decide)).frm hG (by decide)⟩
  rw [hfr]
  by_cases h0 : X 40 0 20 = 0
  · obtain ⟨a1, a2, a3⟩ := p1 (by omega)
    obtain ⟨b1, b2⟩ := q1 (by rw [e40]; exact h0)
    rw [a1] at b1
    rw [a2]
    exact ⟨hB.mdl b1 (by decide) (by decide), by omega⟩
  · obtain ⟨V, Xa, iz, a1, a2, a3, a4, a5, a6, a7, a8⟩ := p2 (by omega)
    obtain ⟨W, b1, b2, b3, b4, b5, b6⟩ := q2 (by rw [e40]; omega)
    have hst := (hB.1.2.1.1 (X 40 0 20 - 1) (by omega) (by omega))
    rw [hm3] at a3 a4 a7 a8
    rw [h4] at a2 a3 a5 a8
    simp only [e40, e62] at b3 b4 b5 b6
    have r22 : 0 ≤ X 40 0 22 ∧ X 40 0 22 ≤ 80 := hR 40 0 22
    have r62 : 0 ≤ X 62 0 (X 40 0 20 - 1) ∧ X 62 0 (X 40 0 20 - 1) ≤ 80 := hR 62 0 _
    rw [e40] at b2
    have f22 : X2 40 0 22 = X 62 0 (X 40 0 20 - 1) := by omega
    have fiz : iz = X 62 0 (X 40 0 20 - 1) - 1 := by omega
    -- both begin with a mark less
    have hlo : ∀ κ, 40 ≤ κ → κ ≠ 40 → W κ = X κ := fun κ hk hn => (b1.fn κ (fun j hj => by
      have := fc_ge κ j
      simp only [List.mem_cons, List.not_mem_nil, or_false] at hj
      have h9 : 41 * 100 ≤ κ * 100 := by omega
      omega)).trans (hi κ hk)
    have w13 : W 40 0 13 = X 40 0 13 := (b1 40 0 13 (show 4014 ∉ _ by decide)).trans (by rw [e40])
    have w22 : W 40 0 22 = X 40 0 22 := (b1 40 0 22 (show 4023 ∉ _ by decide)).trans (by rw [e40])
    have hRV : RB (cnt 26) V Y ln X := hB.1.cc (a1 0 0 3 (show 4 ∉ _ by decide)) (a1.arr 16 (by decide +kernel) (by decide)) (a1.arr 27 (by decide +kernel) (by decide)) (a1.arr 31 (by decide +kernel) (by decide)) (fun n => a1 28 n 1 (show 2802 ∉ _ by decide)) (fun n => a1 28 n 2 (show 2803 ∉ _ by decide))
    have hl : lnM W = lnM X := by
      funext a b
      unfold lnM
      rw [hlo 46 (by decide) (by decide), hlo 55 (by decide) (by decide)]
    have hrn : rN V Y W := by
      obtain ⟨n1, n2⟩ := hRV.2.1
      refine ⟨fun m m0 m1 => ?_, fun n n0 n1' => ?_⟩
      · rw [hlo 62 (by decide) (by decide), w22]
        exact n1 m m0 (by omega)
      · have h9 := n2 n n0 (by omega)
        unfold nOK at *
        rw [hl, hlo 57 (by decide) (by decide), hlo 64 (by decide) (by decide), hlo 65 (by decide) (by decide), hlo 66 (by decide) (by decide), hlo 67 (by decide) (by decide), hlo 68 (by decide) (by decide)]
        exact h9
    have hRW : RB (cnt 26) V Y ln W := RB_rn hRV hrn rfl rfl rfl w13 w22 (fun κ hκ => by
      simp only [List.mem_cons, List.not_mem_nil, or_false] at hκ
      exact hlo κ (by omega) (by omega))
    have hfc : fcM W = fcM X := by
      funext a
      unfold fcM
      rw [hlo 44 (by decide) (by decide), hlo 55 (by decide) (by decide)]
    have hj : (X 40 0 22 - 1 - iz).toNat = (X 40 0 22 - X2 40 0 22).toNat := by omega
    rw [hj] at a2
    have hu := RB_undo (M := W) w22 hRW (fun n n0 n1 => ⟨by rw [hlo 67 (by decide) (by decide)]; have r67 : -1 ≤ X 67 0 n ∧ X 67 0 n ≤ 11 := hR 67 0 n; omega, fun n2 => by
      rw [hlo 67 (by decide) (by decide)] at n2
      rw [hlo 64 (by decide) (by decide), hlo 65 (by decide) (by decide), w13, hfc]
      obtain ⟨c1, c2, c3⟩ := (hMI.2.2.2.1 n n0 n1).1 n2
      exact ⟨(hR 64 0 n).1, c1, (hR 65 0 n).1, c2⟩⟩) (fun y => by rw [hfc]; exact (hR 44 0 _).2) hLn (X 40 0 22 - X2 40 0 22).toNat Xa X2 Y1 (by omega) (fun m m0 m1 => by
      rw [hlo 62 (by decide) (by decide)]
      have := hst.2.2 m m0 (by omega)
      omega) a2 b6
    refine ⟨⟨?_, ?_⟩, by omega⟩
    · have k1 : RB (cnt 26) X1 Y1 ln X2 := hu.1.cc (a6 0 0 3 (show 4 ∉ _ by decide)) (a6.arr 16 (by decide +kernel) (by decide)) (a6.arr 27 (by decide +kernel) (by decide)) (a6.arr 31 (by decide +kernel) (by decide)) (fun n => a6 28 n 1 (show 2802 ∉ _ by decide)) (fun n => a6 28 n 2 (show 2803 ∉ _ by decide))
      exact k1.mdl hG (by decide)
    · rw [hG 29 0 1 (show 2902 ∉ _ by decide), a7, f22]
      exact hst.1
/-! types -/
theorem J_word {z z2 w on : Int} (h : RC cnt X Y ln) (hMI : MInv X) (hR : Rng X) (hR1 : Rng X1) (hLn : LnL ln) (hN9 : 0 ≤ cnt 25 ∧ 0 ≤ cnt 26) (hF : Frm [300] X X1) (p : ((0 ≤ w ∧ w < 16 ∧ z = X 3 0 w ∧ X1 3 0 w = on) ∨ (¬ (0 ≤ w ∧ w < 16) ∧ z = -1 ∧ X1 3 0 w = X 3 0 w)) ∧ ∀ y, y ≠ w → X1 3 0 y = X 3 0 y) (hG : Frm [4001, 4200] X1 X2) (hM2 : MInv X2) (q : ((0 ≤ w ∧ w < 16 ∧ z2 = 1 - X1 42 0 w ∧ X2 42 0 w = 1 - on) ∨ (¬ (0 ≤ w ∧ w < 16) ∧ z2 = -1 ∧ X2 42 0 w = X1 42 0 w)) ∧ ∀ y, y ≠ w → X2 42 0 y = X1 42 0 y) : RC cnt X2 Y ln ∧ z = z2 := by
  obtain ⟨⟨hT, hM, hW, hC, hf⟩, hB, hK, hS, h6, hN⟩ := id h
  have hw := rW_word hW hF p.1 p.2 hG q.1 q.2 rfl
  exact ⟨⟨⟨(hT.frm hF (by decide)).frm hG (by decide), (hM.frm hF (by decide)).frm hG (by decide), hw.1, (hC.frm hF (by decide)).frm hG (by decide), (hf.frm hF (by decide)).frm hG (by decide)⟩, (hB.cls (N := []) hF Frm.rf (by decide) (by decide) (by decide)).mdl hG (by decide) (by decide), (hK.frm (N := []) hF Frm.rf (by decide) (by decide) (Int.le_refl _)).frm (N := []) hG Frm.rf (by decide) (by decide) (Int.le_refl _), (hS.frm (N := []) hF Frm.rf (by decide) (by decide)).frm (N := []) hG Frm.rf (by decide) (by decide), h6, (hN.frm hF (by decide)).frm hG (by decide)⟩, hw.2⟩
theorem J_shut {z z2 t k on : Int} (h : RC cnt X Y ln) (hMI : MInv X) (hR : Rng X) (hR1 : Rng X1) (hLn : LnL ln) (hN9 : 0 ≤ cnt 25 ∧ 0 ≤ cnt 26) (hF : Frm [2300] X X1) (p : ((0 ≤ t ∧ t < X 0 0 1 ∧ 0 ≤ k ∧ k < X 19 t 1 ∧ z = X 23 t k ∧ X1 23 t k = on) ∨ (¬ (0 ≤ t ∧ t < X 0 0 1 ∧ 0 ≤ k ∧ k < X 19 t 1) ∧ z = -1 ∧ X1 23 t k = X 23 t k)) ∧ ∀ y j, ¬ (y = t ∧ j = k) → X1 23 y j = X 23 y j) (hG : Frm [4001, 4800] X1 X2) (hM2 : MInv X2) (q : ((0 ≤ t ∧ t < X1 40 0 2 ∧ 0 ≤ k ∧ k < X1 44 0 t ∧ z2 = X1 48 0 (5 * t + k) ∧ X2 48 0 (5 * t + k) = on) ∨ (¬ (0 ≤ t ∧ t < X1 40 0 2 ∧ 0 ≤ k ∧ k < X1 44 0 t) ∧ z2 = -1 ∧ X2 48 0 (5 * t + k) = X1 48 0 (5 * t + k))) ∧ ∀ y, y ≠ 5 * t + k → X2 48 0 y = X1 48 0 y) : RC cnt X2 Y ln ∧ z = z2 := by
  obtain ⟨⟨hT, hM, hW, hC, hf⟩, hB, hK, hS, h6, hN⟩ := id h
  have hw := rF_shut hT hf hF p.1 p.2 hG q.1 q.2 rfl hR
  exact ⟨⟨⟨(hT.frm hF (by decide)).frm hG (by decide), (hM.frm hF (by decide)).frm hG (by decide), (hW.frm hF (by decide)).frm hG (by decide), (hC.frm hF (by decide)).frm hG (by decide), hw.1⟩, (hB.cls (N := []) hF Frm.rf (by decide) (by decide) (by decide)).mdl hG (by decide) (by decide), (hK.frm (N := []) hF Frm.rf (by decide) (by decide) (Int.le_refl _)).frm (N := []) hG Frm.rf (by decide) (by decide) (Int.le_refl _), (hS.frm (N := []) hF Frm.rf (by decide) (by decide)).frm (N := []) hG Frm.rf (by decide) (by decide), h6, (hN.frm hF (by decide)).frm hG (by decide)⟩, hw.2⟩
theorem J_unchecked {z z2 t : Int} (h : RC cnt X Y ln) (hMI : MInv X) (hR : Rng X) (hR1 : Rng X1) (hLn : LnL ln) (hN9 : 0 ≤ cnt 25 ∧ 0 ≤ cnt 26) (hF : Frm [1907] X X1) (p : ((0 ≤ t ∧ t < X 0 0 1 ∧ z = X 19 t 6 ∧ X1 19 t 6 = 0) ∨ (¬ (0 ≤ t ∧ t < X 0 0 1) ∧ z = -1 ∧ X1 19 t 6 = X 19 t 6)) ∧ ∀ y, y ≠ t → X1 19 y 6 = X 19 y 6) (hG : Frm [4001, 4900] X1 X2) (hM2 : MInv X2) (q : ((0 ≤ t ∧ t < X1 40 0 2 ∧ z2 = X1 49 0 t ∧ X2 49 0 t = 0) ∨ (¬ (0 ≤ t ∧ t < X1 40 0 2) ∧ z2 = -1 ∧ X2 49 0 t = X1 49 0 t)) ∧ ∀ y, y ≠ t → X2 49 0 y = X1 49 0 y) : RC cnt X2 Y ln ∧ z = z2 := by
  obtain ⟨⟨hT, hM, hW, hC, hf⟩, hB, hK, hS, h6, hN⟩ := id h
  have hw := rC_unchecked hT hC hF p.1 p.2 hG q.1 q.2 hR
  refine ⟨⟨⟨(hT.frm hF (by decide)).frm hG (by decide), (hM.frm hF (by decide)).frm hG (by decide), (hW.frm hF (by decide)).frm hG (by decide), hw.1, (hf.frm hF (by decide)).frm hG (by decide)⟩, (hB.cls (N := []) hF Frm.rf (by decide) (by decide) (by decide)).mdl hG (by decide) (by decide), ?_, (hS.frm (N := []) hF Frm.rf (by decide) (by decide)).frm (N := []) hG Frm.rf (by decide) (by decide), h6, (hN.frm hF (by decide)).frm hG (by decide)⟩, hw.2⟩
  have k1 := hK.frm (N := []) hF Frm.rf (by decide) (by decide) (Int.le_refl _)
  intro t' q' t0 t1 q0 q1
  have e2 : X2 40 0 2 = X1 40 0 2 := hG 40 0 2 (show 4003 ∉ _ by decide)
  have hlt : q' < X1 49 0 t' := by
    by_cases e : t' = t
    · rw [e] at q1 ⊢
      rcases q.1 with ⟨-, -, -, q5⟩ | ⟨-, -, q5⟩ <;> omega
    · rw [← q.2 t' e]
      exact q1
  obtain ⟨g, g1, g2, g3, g4, g5, g6⟩ := k1 t' q' t0 (by omega) q0 hlt
  refine ⟨g, g1, g2, ?_, ?_, ?_, ?_⟩
  · rw [hG 25 g 0 (show 2501 ∉ _ by decide), hG 50 0 _ (show 5000 ∉ _ by decide)]; exact g3
  · rw [hG 25 g 1 (show 2502 ∉ _ by decide), hG 51 0 _ (show 5100 ∉ _ by decide)]; exact g4
  · rw [hG 25 g 2 (show 2503 ∉ _ by decide), hG 52 0 _ (show 5200 ∉ _ by decide)]; exact g5
  · rw [hG 25 g 3 (show 2504 ∉ _ by decide), hG 53 0 _ (show 5300 ∉ _ by decide)]; exact g6
theorem J_check {z z2 t kd a b v : Int} (h : RC cnt X Y ln) (hMI : MInv X) (hR : Rng X) (hR1 : Rng X1) (hLn : LnL ln) (hN9 : 0 ≤ cnt 25 ∧ 0 ≤ cnt 26) (hF : Frm [2501, 2502, 2503, 2504, 1907] X X1) (hH : Frm [2400] Y Y1) (hc : ∀ k, cnt k ≤ cnt1 k) (hl : ∀ i, 0 ≤ i → i < cnt 26 → ln1 i = ln i) (hLn1 : LnL ln1) (p : ((¬ (0 ≤ t ∧ t < X 0 0 1) ∧ z = -1 ∧ X1 19 t 6 = X 19 t 6) ∨ (0 ≤ t ∧ t < X 0 0 1 ∧ ¬ (0 ≤ kd ∧ kd < 6 ∧ 0 ≤ a ∧ a < 5 ∧ 0 ≤ b ∧ b < 5) ∧ z = -2 ∧ X1 19 t 6 = X 19 t 6) ∨ (0 ≤ t ∧ t < X 0 0 1 ∧ (0 ≤ kd ∧ kd < 6 ∧ 0 ≤ a ∧ a < 5 ∧ 0 ≤ b ∧ b < 5) ∧ 4 ≤ X 19 t 6 ∧ z = -4 ∧ X1 19 t 6 = X 19 t 6) ∨ (0 ≤ t ∧ t < X 0 0 1 ∧ (0 ≤ kd ∧ kd < 6 ∧ 0 ≤ a ∧ a < 5 ∧ 0 ≤ b ∧ b < 5) ∧ X 19 t 6 ≤ 3 ∧ z = X 19 t 6 + 1 ∧ X1 19 t 6 = X 19 t 6 + 1)) ∧ (∀ y, y ≠ t → X1 19 y 6 = X 19 y 6) ∧ (0 ≤ z → ∃ g, Y1 24 t (X 19 t 6) = some g ∧ cnt 25 ≤ g ∧ g < cnt1 25 ∧ X1 25 g 0 = kd ∧ X1 25 g 1 = a ∧ X1 25 g 2 = b ∧ X1 25 g 3 = v) ∧ (∀ g, 0 ≤ g → g < cnt 25 → ∀ j, X1 25 g j = X 25 g j) ∧ ∀ y j, ¬ (0 ≤ z ∧ y = t ∧ j = X 19 t 6) → Y1 24 y j = Y 24 y j) (hG : Frm [4001, 5000, 5100, 5200, 5300, 4900] X1 X2) (hM2 : MInv X2) (q : ((¬ (0 ≤ t ∧ t < X1 40 0 2) ∧ z2 = -1 ∧ X2 49 0 t = X1 49 0 t) ∨ (0 ≤ t ∧ t < X1 40 0 2 ∧ ¬ (0 ≤ kd ∧ kd < 6 ∧ 0 ≤ a ∧ a < 5 ∧ 0 ≤ b ∧ b < 5) ∧ z2 = -2 ∧ X2 49 0 t = X1 49 0 t) ∨ (0 ≤ t ∧ t < X1 40 0 2 ∧ (0 ≤ kd ∧ kd < 6 ∧ 0 ≤ a ∧ a < 5 ∧ 0 ≤ b ∧ b < 5) ∧ 4 ≤ X1 49 0 t ∧ z2 = -4 ∧ X2 49 0 t = X1 49 0 t) ∨ (0 ≤ t ∧ t < X1 40 0 2 ∧ (0 ≤ kd ∧ kd < 6 ∧ 0 ≤ a ∧ a < 5 ∧ 0 ≤ b ∧ b < 5) ∧ X1 49 0 t ≤ 3 ∧ z2 = X1 49 0 t + 1 ∧ X2 49 0 t = X1 49 0 t + 1)) ∧ (∀ y, y ≠ t → X2 49 0 y = X1 49 0 y) ∧ (0 ≤ z2 → X2 50 0 (4 * t + X1 49 0 t) = kd ∧ X2 51 0 (4 * t + X1 49 0 t) = a ∧ X2 52 0 (4 * t + X1 49 0 t) = b ∧ X2 53 0 (4 * t + X1 49 0 t) = v) ∧ ∀ y, ¬ (0 ≤ z2 ∧ y = (4 * t + X1 49 0 t)) → X2 50 0 y = X1 50 0 y ∧ X2 51 0 y = X1 51 0 y ∧ X2 52 0 y = X1 52 0 y ∧ X2 53 0 y = X1 53 0 y) : RC cnt1 X2 Y1 ln1 ∧ z = z2 := by
  obtain ⟨⟨hT, hM, hW, hC, hf⟩, hB, hK, hS, h6, hN⟩ := id h
  obtain ⟨p, p2, p3, p4, p5⟩ := p
  obtain ⟨q, q2, q3, q4⟩ := q
  have hw := rC_check hT hC hF p p2 hG q q2 hR
  have hT2 := (hT.frm hF (by decide)).frm hG (by decide)
  refine ⟨⟨⟨hT2, (hM.frm hF (by decide)).frm hG (by decide), (hW.frm hF (by decide)).frm hG (by decide), hw.1, (hf.frm hF (by decide)).frm hG (by decide)⟩, ?_, ?_, (hS.frm hF hH (by decide) (by decide)).frm (N := []) hG Frm.rf (by decide) (by decide), h6.frm hH (by decide), (hN.frm hF (by decide)).frm hG (by decide)⟩, hw.2⟩
  · have k1 := hB.cls hF hH (by decide) (by decide) (by decide)
    exact RBn.mdl (⟨k1.1.grow (hc 26) hl, k1.2⟩ : RBn (cnt1 26) X1 Y1 ln1) hG (by decide) (by decide)
  · have hi := hF.hi (by decide)
    have e40 := hi 40 (by decide)
    have e49 := hi 49 (by decide)
    have e50 := hi 50 (by decide)
    have e51 := hi 51 (by decide)
    have e52 := hi 52 (by decide)
    have e53 := hi 53 (by decide)
    have e2 : X2 40 0 2 = X1 40 0 2 := hG 40 0 2 (show 4003 ∉ _ by decide)
    unfold rT at hT
    have r19 : 0 ≤ X 19 t 6 ∧ X 19 t 6 ≤ 4 := hR 19 t 6
    have c25 := hc 25
    have hq8 : 0 ≤ z2 → 0 ≤ t ∧ t < X 0 0 1 ∧ X1 49 0 t ≤ 3 := fun w => by
      have hz9 := hw.2
      clear p2 p3 p4 p5 q2 q3 q4
      omega
    intro t' q' t0 t1 q0 q1
    by_cases hnew : 0 ≤ z ∧ t' = t ∧ q' = X 19 t 6
    · obtain ⟨z0, et, eq⟩ := hnew
      obtain ⟨g, g1, g2, g3, g4, g5, g6, g7⟩ := p3 z0
      obtain ⟨m1, m2, m3, m4⟩ := q3 (by omega)
      have ht : 0 ≤ t ∧ t < X 0 0 1 := by omega
      have h49 : X 49 0 t = X 19 t 6 := (hC t ht.1 ht.2).symm
      rw [e49, h49] at m1 m2 m3 m4
      subst et
      subst eq
      refine ⟨g, g1, ⟨by omega, g3⟩, ?_, ?_, ?_, ?_⟩
      · rw [hG 25 g 0 (show 2501 ∉ _ by decide), g4, m1]
      · rw [hG 25 g 1 (show 2502 ∉ _ by decide), g5, m2]
      · rw [hG 25 g 2 (show 2503 ∉ _ by decide), g6, m3]
      · rw [hG 25 g 3 (show 2504 ∉ _ by decide), g7, m4]
    · have hlt : q' < X 49 0 t' := by
        by_cases e : t' = t
        · subst e
          have ht : 0 ≤ t' ∧ t' < X 0 0 1 := by rw [e2, e40] at t1; omega
          have h49 : X 49 0 t' = X 19 t' 6 := (hC t' ht.1 ht.2).symm
          rw [e49, e40] at q
          have hz9 := hw.2
          rcases q with q | q | q | q <;> omega
        · rw [q2 t' e, e49] at q1
          exact q1
      obtain ⟨g, g1, g2, g3, g4, g5, g6⟩ := hK t' q' t0 (by rw [e2, e40] at t1; exact t1) q0 hlt
      have hne : ¬ (0 ≤ z2 ∧ 4 * t' + q' = 4 * t + X1 49 0 t) := by
        rintro ⟨w1, w2⟩
        have h8 := hq8 w1
        rw [e49] at w2 h8
        have h49 : X 49 0 t = X 19 t 6 := (hC t h8.1 h8.2.1).symm
        have h50 : X 49 0 t' ≤ 4 := (hR 49 0 t').2
        have hz9 := hw.2
        clear p p2 p3 p4 p5 q q2 q3 q4
        exact hnew ⟨by omega, by omega, by omega⟩
      obtain ⟨m1, m2, m3, m4⟩ := q4 (4 * t' + q') hne
      refine ⟨g, by rw [p5 t' q' hnew]; exact g1, ⟨g2.1, by omega⟩, ?_, ?_, ?_, ?_⟩
      · rw [hG 25 g 0 (show 2501 ∉ _ by decide), p4 g g2.1 g2.2, m1, e50]; exact g3
      · rw [hG 25 g 1 (show 2502 ∉ _ by decide), p4 g g2.1 g2.2, m2, e51]; exact g4
      · rw [hG 25 g 2 (show 2503 ∉ _ by decide), p4 g g2.1 g2.2, m3, e52]; exact g5
      · rw [hG 25 g 3 (show 2504 ∉ _ by decide), p4 g g2.1 g2.2, m4, e53]; exact g6
theorem J_type {z z2 : Int} (h : RC cnt X Y ln) (hMI : MInv X) (hR : Rng X) (hR1 : Rng X1) (hLn : LnL ln) (hN9 : 0 ≤ cnt 25 ∧ 0 ≤ cnt 26) (hF : Frm [1901, 1902, 1907, 2000, 2100, 2200, 2300, 2] X X1) (hH : Frm [2400, 100] Y Y1) (hc : ∀ k, cnt k ≤ cnt1 k) (hl : ∀ i, 0 ≤ i → i < cnt 26 → ln1 i = ln i) (hLn1 : LnL ln1) (p : ((8 ≤ X 0 0 1 ∧ z = -4 ∧ X1 0 0 1 = X 0 0 1) ∨ (X 0 0 1 < 8 ∧ z = X 0 0 1 ∧ X1 0 0 1 = X 0 0 1 + 1 ∧ X1 19 (X 0 0 1) 1 = 0 ∧ X1 19 (X 0 0 1) 6 = 0)) ∧ (∀ y, y ≠ X 0 0 1 → X1 19 y = X 19 y ∧ X1 20 y = X 20 y ∧ X1 21 y = X 21 y ∧ X1 22 y = X 22 y ∧ X1 23 y = X 23 y) ∧ (∀ y, y ≠ X 0 0 1 → Y1 24 y = Y 24 y)) (hG : Frm [4001, 4400, 4900, 4003] X1 X2) (hM2 : MInv X2) (q : ((X1 40 0 2 = 8 ∧ z2 = -4 ∧ X2 40 0 2 = 8) ∨ (X1 40 0 2 < 8 ∧ z2 = X1 40 0 2 ∧ X2 40 0 2 = X1 40 0 2 + 1 ∧ X2 44 0 (X1 40 0 2) = 0 ∧ X2 49 0 (X1 40 0 2) = 0)) ∧ (∀ y, y ≠ X1 40 0 2 → X2 44 0 y = X1 44 0 y) ∧ ∀ y, y ≠ X1 40 0 2 → X2 49 0 y = X1 49 0 y) : RC cnt1 X2 Y1 ln1 ∧ z = z2 := by
  obtain ⟨⟨hT, hM, hW, hC, hf⟩, hB, hK, hS, h6, hN⟩ := id h
  obtain ⟨p, p2, p3⟩ := p
  obtain ⟨q, q2, q3⟩ := q
  have hw := r_type hT hC hf hF p p2 hG q q2 q3 hR
  have hi := hF.hi (by decide)
  have e40 := hi 40 (by decide)
  have e44 := hi 44 (by decide)
  have e45 := hi 45 (by decide)
  have e46 := hi 46 (by decide)
  have e49 := hi 49 (by decide)
  have hT0 := hT
  unfold rT at hT0
  have r2 : 0 ≤ X 40 0 2 ∧ X 40 0 2 ≤ 8 := hR 40 0 2
  rw [e40] at q q2 q3
  have hty : ∀ y, y < X 40 0 2 → X2 44 0 y = X 44 0 y := fun y hy => by rw [q2 y (by omega), e44]
  refine ⟨⟨⟨hw.1, (hM.frm hF (by decide)).frm hG (by decide), (hW.frm hF (by decide)).frm hG (by decide), hw.2.1, hw.2.2.1⟩, ⟨?_, ?_⟩, ?_, (hS.frm hF hH (by decide) (by decide)).frm (N := []) hG Frm.rf (by decide) (by decide), h6.frm hH (by decide), ?_⟩, hw.2.2.2⟩
  · have k1 : RB (cnt 26) X Y ln X1 := hB.1.m hi
    have k2 : RB (cnt1 26) X1 Y1 ln1 X2 := RB_keep k1 (KpN.of hF hH hG (by decide) (fun j => by rw [fc28]; simp; omega) (fun j => by rw [fc28]; simp; omega) (by decide)) (hc 26) hl hLn (hF 0 0 3 (show 4 ∉ _ by decide)) (hG 40 0 13 (show 4014 ∉ _ by decide)) (hG.arr 55 (by decide +kernel) (by decide)) (hG.arr 56 (by decide +kernel) (by decide)) (hF.arr 16 (by decide +kernel) (by decide)) (fun x => hH 15 x 0 (show 1501 ∉ _ by decide)) (hH.arr 17 (by decide +kernel) (by decide)) (fun y y0 y1 => by
      rw [e40] at y1
      have h9 := hMI.2.2.2.2.2 y y0 y1
      refine ⟨?_, fun k _ _ => ?_⟩
      · unfold fcM
        rw [hG.arr 55 (by decide +kernel) (by decide), hi 55 (by decide), hty _ h9, e44]
      · unfold lnM
        rw [hG.arr 55 (by decide +kernel) (by decide), hG.arr 46 (by decide +kernel) (by decide)]) (fun n n0 n1 n2 => by
      rw [e40] at n1
      rw [hi 67 (by decide)] at n2
      have h9 := (hMI.2.2.2.1 n n0 n1).1 n2
      rw [hi 64 (by decide), hi 65 (by decide), e40]
      unfold fcM
      rw [e44, hi 55 (by decide)]
      exact ⟨⟨(hR 64 0 n).1, h9.1⟩, (hR 65 0 n).1, h9.2.1⟩)
    exact k2.mdl hG (by decide)
  · rw [hG 29 0 1 (show 2902 ∉ _ by decide), hG 40 0 22 (show 4023 ∉ _ by decide), hF 29 0 1 (show 2902 ∉ _ by decide), e40]
    exact hB.2
  · intro t' q' t0 t1 q0 q1
    have hlt : t' < X 40 0 2 := by
      by_cases e : t' = X 40 0 2
      · rw [e] at q1
        omega
      · omega
    rw [q3 t' (by omega), e49] at q1
    obtain ⟨g, g1, g2, g3, g4, g5, g6⟩ := hK t' q' t0 hlt q0 q1
    have c25 := hc 25
    refine ⟨g, by rw [p3 t' (by omega)]; exact g1, ⟨g2.1, by omega⟩, ?_, ?_, ?_, ?_⟩
    · rw [hG 25 g 0 (show 2501 ∉ _ by decide), hF 25 g 0 (show 2501 ∉ _ by decide), hG 50 0 _ (show 5000 ∉ _ by decide), hi 50 (by decide)]; exact g3
    · rw [hG 25 g 1 (show 2502 ∉ _ by decide), hF 25 g 1 (show 2502 ∉ _ by decide), hG 51 0 _ (show 5100 ∉ _ by decide), hi 51 (by decide)]; exact g4
    · rw [hG 25 g 2 (show 2503 ∉ _ by decide), hF 25 g 2 (show 2503 ∉ _ by decide), hG 52 0 _ (show 5200 ∉ _ by decide), hi 52 (by decide)]; exact g5
    · rw [hG 25 g 3 (show 2504 ∉ _ by decide), hF 25 g 3 (show 2504 ∉ _ by decide), hG 53 0 _ (show 5300 ∉ _ by decide), hi 53 (by decide)]; exact g6
  · intro t' k k' t0 t1 k0 k1 k2
    rw [hG.arr 45 (by decide +kernel) (by decide), e45]
    by_cases e : t' = X 40 0 2
    · rw [e] at k2
      omega
    · rw [q2 t' e, e44] at k2
      exact hN t' k k' t0 (by omega) k0 k1 k2
theorem J_row {z z2 x k n : Int} (h : RC cnt X Y ln) (hMI : MInv X) (hR : Rng X) (hR1 : Rng X1) (hLn : LnL ln) (hN9 : 0 ≤ cnt 25 ∧ 0 ≤ cnt 26) (hF : Frm [2802, 2803, 2902, 2602, 2700] X X1) (hH : Frm [2801, 2804, 1700] Y Y1) (hc : ∀ k, cnt k ≤ cnt1 k) (hl : ∀ i, 0 ≤ i → i < cnt 26 → ln1 i = ln i) (hLn1 : LnL ln1) (p : ((¬ (0 ≤ x ∧ x < X 0 0 3 ∧ 0 ≤ k ∧ k < X 19 (tyo (Y 15 x 0)) 1) ∧ z = -1) ∨ ((0 ≤ x ∧ x < X 0 0 3 ∧ 0 ≤ k ∧ k < X 19 (tyo (Y 15 x 0)) 1) ∧ 12 < n ∧ z = -2) ∨ ((0 ≤ x ∧ x < X 0 0 3 ∧ 0 ≤ k ∧ k < X 19 (tyo (Y 15 x 0)) 1) ∧ n ≤ 12 ∧ X 21 (tyo (Y 15 x 0)) k < 3 ∧ z = -14) ∨ ((0 ≤ x ∧ x < X 0 0 3 ∧ 0 ≤ k ∧ k < X 19 (tyo (Y 15 x 0)) 1) ∧ n ≤ 12 ∧ 3 ≤ X 21 (tyo (Y 15 x 0)) k ∧ n < -1 ∧ z = -13) ∨ ((0 ≤ x ∧ x < X 0 0 3 ∧ 0 ≤ k ∧ k < X 19 (tyo (Y 15 x 0)) 1) ∧ n ≤ 12 ∧ 3 ≤ X 21 (tyo (Y 15 x 0)) k ∧ -1 ≤ n ∧ 80 ≤ X 29 0 1 ∧ z = -4) ∨ ((0 ≤ x ∧ x < X 0 0 3 ∧ 0 ≤ k ∧ k < X 19 (tyo (Y 15 x 0)) 1) ∧ n ≤ 12 ∧ 3 ≤ X 21 (tyo (Y 15 x 0)) k ∧ -1 ≤ n ∧ X 29 0 1 ≤ 79 ∧ z = 1)) ∧ (∀ g, 0 ≤ g → g < cnt 26 → X1 27 g = X 27 g) ∧ (z < 0 → Frm [2602, 2700] X X1 ∧ Y1 = Y) ∧ (z = 1 → eNoteC X X1 Y Y1 (some x) k (X 16 x k) (Y 17 x k) ∧ (∀ p q, ¬ (p = x ∧ q = k) → Y1 17 p q = Y 17 p q) ∧ (∀ p q, X1 16 p q = X 16 p q) ∧ ((n = -1 ∧ Y1 17 x k = none) ∨ (0 ≤ n ∧ ∃ g, Y1 17 x k = some g ∧ cnt 26 ≤ g ∧ g < cnt1 26 ∧ ln1 g = n ∧ ∀ i, X1 27 g i = 0)))) (hG : Frm [4001, 6400, 6500, 6700, 6800, 6600, 4023, 5600, 6000, 5700, 5800, 5900] X1 X2) (hM2 : MInv X2) (q : ((¬ (0 ≤ x ∧ x < X1 40 0 13 ∧ 0 ≤ k ∧ k < X1 44 0 (X1 55 0 x)) ∧ z2 = -1) ∨ ((0 ≤ x ∧ x < X1 40 0 13 ∧ 0 ≤ k ∧ k < X1 44 0 (X1 55 0 x)) ∧ 12 < n ∧ z2 = -2) ∨ ((0 ≤ x ∧ x < X1 40 0 13 ∧ 0 ≤ k ∧ k < X1 44 0 (X1 55 0 x)) ∧ n ≤ 12 ∧ X1 46 0 (5 * X1 55 0 x + k) < 3 ∧ z2 = -14) ∨ ((0 ≤ x ∧ x < X1 40 0 13 ∧ 0 ≤ k ∧ k < X1 44 0 (X1 55 0 x)) ∧ n ≤ 12 ∧ 3 ≤ X1 46 0 (5 * X1 55 0 x + k) ∧ n < -1 ∧ z2 = -13) ∨ ((0 ≤ x ∧ x < X1 40 0 13 ∧ 0 ≤ k ∧ k < X1 44 0 (X1 55 0 x)) ∧ n ≤ 12 ∧ 3 ≤ X1 46 0 (5 * X1 55 0 x + k) ∧ -1 ≤ n ∧ (0 < X1 40 0 20 ∧ X1 40 0 22 = 80) ∧ z2 = -4) ∨ ((0 ≤ x ∧ x < X1 40 0 13 ∧ 0 ≤ k ∧ k < X1 44 0 (X1 55 0 x)) ∧ n ≤ 12 ∧ 3 ≤ X1 46 0 (5 * X1 55 0 x + k) ∧ -1 ≤ n ∧ (X1 40 0 20 = 0 ∨ X1 40 0 22 ≤ 79) ∧ z2 = 1)) ∧ (z2 < 0 → Frm [4001] X1 X2) ∧ (z2 = 1 → ∃ r, (eNoteM X1 X2 x k (if 3 ≤ X1 46 0 (5 * X1 55 0 x + k) then X1 56 0 (5 * x + k) else -1) (-1) (X1 56 0 (5 * x + k)) ∧ X2 56 0 (5 * x + k) = r ∧ ∀ p, p ≠ 5 * x + k → X2 56 0 p = X1 56 0 p) ∧ ((n < 0 ∧ r = -1 ∧ X2 57 = X1 57 ∧ X2 58 = X1 58 ∧ X2 59 = X1 59) ∨ (0 ≤ n ∧ 0 ≤ r ∧ r ≤ 399 ∧ nwM X1 X2 (X1 46 0 (5 * X1 55 0 x + k)) n r)))) : RC cnt1 X2 Y1 ln1 ∧ z = z2 := by
  obtain ⟨⟨hT, hM, hW, hC, hf⟩, hB, hK, hS, h6, hN⟩ := id h
  obtain ⟨p, p0, p1, p2⟩ := p
  obtain ⟨q, q1, q2⟩ := q
  have hi := hF.hi (by decide)
  have e40 := hi 40 (by decide)
  have e44 := hi 44 (by decide)
  have e46 := hi 46 (by decide)
  have e55 := hi 55 (by decide)
  simp only [e40, e44, e46, e55] at q
  unfold rM at hM
  have h3 := hB.1.1.1
  have h4 := hB.2
  have hE := hMI.2.2.2.2.1.1
  have r22 : 0 ≤ X 40 0 22 ∧ X 40 0 22 ≤ 80 := hR 40 0 22
  have r20 : 0 ≤ X 40 0 20 ∧ X 40 0 20 ≤ 4 := hR 40 0 20
  have hz : z = z2 ∧ (z = 1 → (0 ≤ x ∧ x < X 40 0 13 ∧ 0 ≤ k ∧ k < X 44 0 (X 55 0 x)) ∧ 3 ≤ X 46 0 (5 * X 55 0 x + k) ∧ -1 ≤ n ∧ n ≤ 12) ∧ (z ≠ 1 → z < 0) := by
    by_cases hx : 0 ≤ x ∧ x < X 40 0 13
    · obtain ⟨b1, b2, b3, b4⟩ := bridge hB.1.1 hT hf hMI hR hx.1 hx.2
      rw [b1] at p
      by_cases hk : 0 ≤ k ∧ k < X 44 0 (X 55 0 x)
      · have b5 := (b4 k hk.1 hk.2).2.1
        rcases p with p | p | p | p | p | p <;> rcases q with q | q | q | q | q | q <;> refine ⟨?_, fun u => ⟨?_, ?_, ?_, ?_⟩, fun u => ?_⟩ <;> omega
      · rcases p with p | p | p | p | p | p <;> rcases q with q | q | q | q | q | q <;> refine ⟨?_, fun u => ⟨?_, ?_, ?_, ?_⟩, fun u => ?_⟩ <;> omega
    · rcases p with p | p | p | p | p | p <;> rcases q with q | q | q | q | q | q <;> refine ⟨?_, fun u => ⟨?_, ?_, ?_, ?_⟩, fun u => ?_⟩ <;> omega
  refine ⟨RC_of h hF hH hG (by decide) (by decide) (by decide) (hc 25) ?_, hz.1⟩
  have hmm : RB (cnt 26) X Y ln X1 := hB.1.m hi
  by_cases h1 : z = 1
  · obtain ⟨hp, hl3, hn1, hn2⟩ := hz.2.1 h1
    obtain ⟨a1, a3, a4, a5⟩ := p2 h1
    obtain ⟨r, ⟨b1, b2, b3⟩, b4⟩ := q2 (by omega)
    rcases b4 with ⟨n1, n2, n3, n4, n5⟩ | ⟨n1, n2, n3, n4⟩
    · rcases a5 with ⟨-, a6⟩ | ⟨a6, -⟩
      · refine J_rw (g0 := 0) hB.1 h4 hM hR hp hl3 hF (by decide) (by decide) hH (by decide) a1 a6 a3 a4 hG (by decide) (by decide) b1 b2 b3 ⟨fun _ => by omega, fun _ => rfl⟩ ⟨hN9.2, hc 26⟩ (rR_same hmm.2.2 p0 hl (fun g r l _ => ⟨by rw [n3], by rw [n4], fun i _ _ => by rw [n5]⟩) hLn) (fun n _ _ _ => by rw [n3]) (Or.inl rfl)
      · omega
    · rcases a5 with ⟨a6, -⟩ | ⟨-, g, a6, a7, a8, a9, a10⟩
      · omega
      · have hfr := nwM.fresh n4 hmm.2.1
        obtain ⟨m1, m2, m3, m4, m5, m6, m7⟩ := n4
        refine J_rw (g0 := g) hB.1 h4 hM hR hp hl3 hF (by decide) (by decide) hH (by decide) a1 a6 a3 a4 hG (by decide) (by decide) b1 b2 b3 ⟨fun w => (by cases w), fun w => by omega⟩ ⟨hN9.2, hc 26⟩ (rR_same hmm.2.2 p0 hl (fun g r' l hv => ?_) hLn) (fun n n0 n1 _ => (m5 _ (m2 n n0 n1)).1) (Or.inr (Or.inr ⟨rfl, ⟨a7, a8⟩, ⟨n2, n3⟩, hfr, m3, by rw [m4]; exact a9, fun i i0 i1 => ?_⟩))
        · have hne := hfr g r' l hv
          refine ⟨(m5 r' hne).1, (m5 r' hne).2, fun i i0 i1 => m7 _ (fun w => ?_)⟩
          omega
        · have l1 := hLn1 g
          rw [a10, m6 i i0 (by omega)]
  · obtain ⟨a1, a2⟩ := p1 (hz.2.2 h1)
    have b1 := q1 (by have := hz.2.2 h1; omega)
    rw [a2]
    have k1 : RB (cnt 26) X1 Y ln X1 := hmm.c2 (a1 0 0 3 (show 4 ∉ _ by decide)) (a1.arr 16 (by decide +kernel) (by decide)) p0 (a1.arr 31 (by decide +kernel) (by decide)) (fun n => a1 28 n 1 (show 2802 ∉ _ by decide)) (fun n => a1 28 n 2 (show 2803 ∉ _ by decide))
    have k2 : RBn (cnt1 26) X1 Y ln1 := ⟨k1.grow (hc 26) hl, by rw [a1 29 0 1 (show 2902 ∉ _ by decide), e40]; exact h4⟩
    exact k2.mdl b1 (by decide) (by decide)
theorem J_field {z z2 t name lane v : Int} (h : RC cnt X Y ln) (hMI : MInv X) (hR : Rng X) (hR1 : Rng X1) (hLn : LnL ln) (hN9 : 0 ≤ cnt 25 ∧ 0 ≤ cnt 26) (hF : Frm [1902, 2000, 2100, 2200, 2300, 1600] X X1) (hH : Frm [1700] Y Y1) (p : ((¬ (0 ≤ t ∧ t < X 0 0 1) ∧ z = -1 ∧ X1 19 t 1 = X 19 t 1) ∨ (0 ≤ t ∧ t < X 0 0 1 ∧ ¬ (0 ≤ name ∧ name < 20 ∧ nmAt (X 20 t) name (X 19 t 1).toNat = -1 ∧ 0 ≤ lane ∧ lane < 6) ∧ z = -2 ∧ X1 19 t 1 = X 19 t 1) ∨ (0 ≤ t ∧ t < X 0 0 1 ∧ (0 ≤ name ∧ name < 20 ∧ nmAt (X 20 t) name (X 19 t 1).toNat = -1 ∧ 0 ≤ lane ∧ lane < 6) ∧ 0 < X 29 0 3 ∧ z = -3 ∧ X1 19 t 1 = X 19 t 1) ∨ (0 ≤ t ∧ t < X 0 0 1 ∧ (0 ≤ name ∧ name < 20 ∧ nmAt (X 20 t) name (X 19 t 1).toNat = -1 ∧ 0 ≤ lane ∧ lane < 6) ∧ X 29 0 3 = 0 ∧ 5 ≤ X 19 t 1 ∧ z = -4 ∧ X1 19 t 1 = X 19 t 1) ∨ (0 ≤ t ∧ t < X 0 0 1 ∧ (0 ≤ name ∧ name < 20 ∧ nmAt (X 20 t) name (X 19 t 1).toNat = -1 ∧ 0 ≤ lane ∧ lane < 6) ∧ X 29 0 3 = 0 ∧ X 19 t 1 ≤ 4 ∧ z = X 19 t 1 ∧ X1 19 t 1 = X 19 t 1 + 1)) ∧ (0 ≤ z → X1 20 t z = name ∧ X1 21 t z = lane ∧ X1 22 t z = (if lane = 0 then v else -1) ∧ X1 23 t z = 0) ∧ (∀ y j, ¬ (0 ≤ z ∧ y = t ∧ j = z) → X1 20 y j = X 20 y j ∧ X1 21 y j = X 21 y j ∧ X1 22 y j = X 22 y j ∧ X1 23 y j = X 23 y j) ∧ (∀ y, y ≠ t → X1 19 y 1 = X 19 y 1) ∧ (0 ≤ z → (∀ y, 0 ≤ y → y < X 0 0 3 → Y 15 y 0 = some t → X1 16 y z = (if lane = 0 then v else -1) ∧ Y1 17 y z = none) ∧ ∀ y j, 0 ≤ y → y < X 0 0 3 → ¬ (Y 15 y 0 = some t ∧ j = z) → X1 16 y j = X 16 y j ∧ Y1 17 y j = Y 17 y j) ∧ (z < 0 → X1 = X ∧ Y1 = Y)) (hG : Frm [4001, 4500, 4600, 4700, 4800, 4400, 5600] X1 X2) (hM2 : MInv X2) (q : ((¬ (0 ≤ t ∧ t < X1 40 0 2) ∧ z2 = -1 ∧ X2 44 0 t = X1 44 0 t) ∨ (0 ≤ t ∧ t < X1 40 0 2 ∧ ¬ (0 ≤ name ∧ name < 20 ∧ nmAt (fun j => X1 45 0 (5 * t + j)) name (X1 44 0 t).toNat = -1 ∧ 0 ≤ lane ∧ lane < 6) ∧ z2 = -2 ∧ X2 44 0 t = X1 44 0 t) ∨ (0 ≤ t ∧ t < X1 40 0 2 ∧ (0 ≤ name ∧ name < 20 ∧ nmAt (fun j => X1 45 0 (5 * t + j)) name (X1 44 0 t).toNat = -1 ∧ 0 ≤ lane ∧ lane < 6) ∧ 0 < X1 40 0 20 ∧ z2 = -3 ∧ X2 44 0 t = X1 44 0 t) ∨ (0 ≤ t ∧ t < X1 40 0 2 ∧ (0 ≤ name ∧ name < 20 ∧ nmAt (fun j => X1 45 0 (5 * t + j)) name (X1 44 0 t).toNat = -1 ∧ 0 ≤ lane ∧ lane < 6) ∧ X1 40 0 20 = 0 ∧ 5 ≤ X1 44 0 t ∧ z2 = -4 ∧ X2 44 0 t = X1 44 0 t) ∨ (0 ≤ t ∧ t < X1 40 0 2 ∧ (0 ≤ name ∧ name < 20 ∧ nmAt (fun j => X1 45 0 (5 * t + j)) name (X1 44 0 t).toNat = -1 ∧ 0 ≤ lane ∧ lane < 6) ∧ X1 40 0 20 = 0 ∧ X1 44 0 t ≤ 4 ∧ z2 = X1 44 0 t ∧ X2 44 0 t = X1 44 0 t + 1)) ∧ (0 ≤ z2 → X2 45 0 (5 * t + z2) = name ∧ X2 46 0 (5 * t + z2) = lane ∧ X2 47 0 (5 * t + z2) = (if lane = 0 then v else -1) ∧ X2 48 0 (5 * t + z2) = 0) ∧ (∀ y, ¬ (0 ≤ z2 ∧ y = 5 * t + z2) → X2 45 0 y = X1 45 0 y ∧ X2 46 0 y = X1 46 0 y ∧ X2 47 0 y = X1 47 0 y ∧ X2 48 0 y = X1 48 0 y) ∧ (∀ y, y ≠ t → X2 44 0 y = X1 44 0 y) ∧ (0 ≤ z2 → (∀ y, 0 ≤ y → y < X1 40 0 13 → X1 55 0 y = t → X2 56 0 (5 * y + z2) = (if lane = 0 then v else -1)) ∧ ∀ y j, 0 ≤ y → y < X1 40 0 13 → 0 ≤ j → j ≤ 4 → ¬ (X1 55 0 y = t ∧ j = z2) → X2 56 0 (5 * y + j) = X1 56 0 (5 * y + j)) ∧ (z2 < 0 → Frm [4001] X1 X2)) : RC cnt X2 Y1 ln ∧ z = z2 := by
  obtain ⟨⟨hT, hM, hW, hC, hf⟩, hB, hK, hS, h6, hN⟩ := id h
  obtain ⟨p, p2, p3, p4, p5, p6⟩ := p
  obtain ⟨q, q2, q3, q4, q5, q6⟩ := q
  have hw := rF_field hT hM hf hF p p2 p3 p4 hG q q2 q3 q4 hR hR1
  have hi := hF.hi (by decide)
  have e40 := hi 40 (by decide)
  have e44 := hi 44 (by decide)
  have e45 := hi 45 (by decide)
  have e46 := hi 46 (by decide)
  have e55 := hi 55 (by decide)
  have e56 := hi 56 (by decide)
  have hT0 := hT
  have hM0 := hM
  unfold rT at hT0
  unfold rM at hM0
  have h3 := hB.1.1.1
  have g2 : X2 40 0 2 = X1 40 0 2 := hG 40 0 2 (show 4003 ∉ _ by decide)
  have hz2 := hw.2
  have r44 : 0 ≤ X 44 0 t ∧ X 44 0 t ≤ 5 := hR 44 0 t
  simp only [e40, e44, e45] at q
  have hq : (0 ≤ z → (0 ≤ t ∧ t < X 40 0 2) ∧ nmAt (fun j => X 45 0 (5 * t + j)) name (X 44 0 t).toNat = -1 ∧ X 40 0 20 = 0 ∧ X 44 0 t ≤ 4 ∧ z = X 44 0 t ∧ X2 44 0 t = X 44 0 t + 1 ∧ (0 ≤ lane ∧ lane < 6)) ∧ (z < 0 → X2 44 0 t = X 44 0 t) := by
    rcases q with q | q | q | q | q <;> refine ⟨fun u => ⟨?_, ?_, ?_, ?_, ?_, ?_, ?_⟩, fun u => ?_⟩ <;> omega
  have hE := hMI.2.2.2.2.1.1
  refine ⟨⟨⟨(hT.frm hF (by decide)).frm hG (by decide), (hM.frm hF (by decide)).frm hG (by decide), (hW.frm hF (by decide)).frm hG (by decide), (hC.frm hF (by decide)).frm hG (by decide), hw.1⟩, ⟨?_, ?_⟩, (hK.frm hF hH (by decide) (by decide) (Int.le_refl _)).frm (N := []) hG Frm.rf (by decide) (by decide) (Int.le_refl _), (hS.frm hF hH (by decide) (by decide)).frm (N := []) hG Frm.rf (by decide) (by decide), h6.frm hH (by decide), ?_⟩, hw.2⟩
  · have hmm : RB (cnt 26) X Y ln X1 := hB.1.m hi
    have kN : KpN X X1 Y Y1 X1 X2 := KpN.of hF hH hG (by decide) (fun j => by rw [fc28]; simp; omega) (fun j => by rw [fc28]; simp; omega) (by decide)
    by_cases h0 : 0 ≤ z
    · obtain ⟨c1, c2, c3, c4, c5, c6, c7⟩ := hq.1 h0
      obtain ⟨a1, a2⟩ := p5 h0
      obtain ⟨b1, b2⟩ := q5 (by omega)
      obtain ⟨d1, d2, d3, d4⟩ := q2 (by omega)
      rw [← hz2] at b1 b2 d2
      have k2 : RB (cnt 26) X1 Y1 ln X2 := RB_field (t := t) (kk := z) (dv := if lane = 0 then v else -1) hmm kN hLn (by rw [e40]; omega) (by rw [e44]; exact c5) ⟨h0, by omega⟩ (hF 0 0 3 (show 4 ∉ _ by decide)) (fun x => hH 15 x 0 (show 1501 ∉ _ by decide)) (hG 40 0 13 (show 4014 ∉ _ by decide)) (hG.arr 55 (by decide +kernel) (by decide)) (by omega) (fun y hy => q4 y hy) (fun y hy => (q3 y (fun w => hy (by omega))).2.1) (fun t => by rw [e44]; exact (hR 44 0 t).2) (fun x x0 x1 hx => a1 x x0 x1 hx) (fun x k x0 x1 hx => a2 x k x0 x1 hx) (fun x x0 x1 hx => b1 x x0 x1 hx) (fun x k x0 x1 k0 k1 hx => b2 x k x0 x1 k0 k1 hx) (fun w => by rw [d2] at w; rw [if_neg (by omega)])
      exact k2.mdl hG (by decide)
    · obtain ⟨a1, a2⟩ := p6 (by omega)
      have b1 := q6 (by omega)
      rw [a1] at b1
      rw [a2]
      exact (hB.mdl b1 (by decide) (by decide)).1
  · rw [hG 29 0 1 (show 2902 ∉ _ by decide), hG 40 0 22 (show 4023 ∉ _ by decide), hF 29 0 1 (show 2902 ∉ _ by decide), e40]
    exact hB.2
  · intro t' k k' t0 t1 k0 k1 k2
    rw [g2, e40] at t1
    have r44' : X 44 0 t' ≤ 5 := (hR 44 0 t').2
    by_cases e : t' = t ∧ 0 ≤ z
    · obtain ⟨e1, h0⟩ := e
      subst e1
      obtain ⟨c1, c2, c3, c4, c5, c6, c7⟩ := hq.1 h0
      have d1 := (q2 (by omega)).1
      rw [← hz2, c5] at d1
      rw [c6] at k2
      have hns := nmAt_spec (fun j => X 45 0 (5 * t' + j)) name (X 44 0 t').toNat
      rw [c2] at hns
      rcases hns with ⟨-, hns⟩ | ⟨hns, -⟩
      · have old : ∀ j, 0 ≤ j → j < X 44 0 t' → X2 45 0 (5 * t' + j) = X 45 0 (5 * t' + j) := fun j j0 j1 => by rw [(q3 (5 * t' + j) (fun w => by omega)).1, e45]
        by_cases e2 : k' = X 44 0 t'
        · rw [e2, d1, old k k0 (by omega)]
          exact hns k k0 (by omega)
        · rw [old k k0 (by omega), old k' (by omega) (by omega)]
          exact hN t' k k' t0 t1 k0 k1 (by omega)
      · omega
    · have h44 : X2 44 0 t' = X 44 0 t' := by
        by_cases e1 : t' = t
        · rw [e1]
          exact hq.2 (by have : ¬ 0 ≤ z := fun w => e ⟨e1, w⟩; omega)
        · rw [q4 t' e1, e44]
      rw [h44] at k2
      have old : ∀ j, 0 ≤ j → j < X 44 0 t' → X2 45 0 (5 * t' + j) = X 45 0 (5 * t' + j) := fun j j0 j1 => by
        rw [(q3 (5 * t' + j) (fun w => ?_)).1, e45]
        have hz0 : 0 ≤ z := by omega
        have c5 := (hq.1 hz0).2.2.2.2.1
        have c4 := (hq.1 hz0).2.2.2.1
        exact e ⟨by omega, hz0⟩
      rw [old k k0 (by omega), old k' (by omega) k2]
      exact hN t' k k' t0 t1 k0 k1 k2
theorem J_drop {z z2 t k : Int} (h : RC cnt X Y ln) (hMI : MInv X) (hR : Rng X) (hR1 : Rng X1) (hLn : LnL ln) (hN9 : 0 ≤ cnt 25 ∧ 0 ≤ cnt 26) (hF : Frm [1902, 2000, 2100, 2200, 2300, 1600] X X1) (hH : Frm [1700] Y Y1) (p : ((¬ (0 ≤ t ∧ t < X 0 0 1 ∧ 0 ≤ k ∧ k < X 19 t 1) ∧ z = -1 ∧ X1 19 t 1 = X 19 t 1) ∨ (0 ≤ t ∧ t < X 0 0 1 ∧ 0 ≤ k ∧ k < X 19 t 1 ∧ 0 < X 29 0 3 ∧ z = -3 ∧ X1 19 t 1 = X 19 t 1) ∨ (0 ≤ t ∧ t < X 0 0 1 ∧ 0 ≤ k ∧ k < X 19 t 1 ∧ X 29 0 3 = 0 ∧ z = X 19 t 1 - 1 ∧ X1 19 t 1 = X 19 t 1 - 1)) ∧ (0 ≤ z → Sh 20 X X1 t k (X 19 t 1 - 1) ∧ Sh 21 X X1 t k (X 19 t 1 - 1) ∧ Sh 22 X X1 t k (X 19 t 1 - 1) ∧ Sh 23 X X1 t k (X 19 t 1 - 1)) ∧ (z < 0 → ∀ y j, X1 20 y j = X 20 y j ∧ X1 21 y j = X 21 y j ∧ X1 22 y j = X 22 y j ∧ X1 23 y j = X 23 y j) ∧ (∀ y, y ≠ t → X1 19 y 1 = X 19 y 1) ∧ (0 ≤ z → (∀ y, 0 ≤ y → y < X 0 0 3 → Y 15 y 0 = some t → ∀ j, X1 16 y j = (if k ≤ j ∧ j < 4 then X 16 y (j + 1) else X 16 y j) ∧ Y1 17 y j = (if k ≤ j ∧ j < 4 then Y 17 y (j + 1) else Y 17 y j)) ∧ ∀ y j, 0 ≤ y → y < X 0 0 3 → ¬ (Y 15 y 0 = some t) → X1 16 y j = X 16 y j ∧ Y1 17 y j = Y 17 y j) ∧ (z < 0 → X1 = X ∧ Y1 = Y)) (hG : Frm [4001, 4500, 4600, 4700, 4800, 4400, 5600] X1 X2) (hM2 : MInv X2) (q : ((¬ (0 ≤ t ∧ t < X1 40 0 2 ∧ 0 ≤ k ∧ k < X1 44 0 t) ∧ z2 = -1 ∧ X2 44 0 t = X1 44 0 t) ∨ (0 ≤ t ∧ t < X1 40 0 2 ∧ 0 ≤ k ∧ k < X1 44 0 t ∧ 0 < X1 40 0 20 ∧ z2 = -3 ∧ X2 44 0 t = X1 44 0 t) ∨ (0 ≤ t ∧ t < X1 40 0 2 ∧ 0 ≤ k ∧ k < X1 44 0 t ∧ X1 40 0 20 = 0 ∧ z2 = X1 44 0 t - 1 ∧ X2 44 0 t = X1 44 0 t - 1)) ∧ (0 ≤ z2 → Sh 45 X1 X2 0 (5 * t + k) (5 * t + (X1 44 0 t - 1)) ∧ Sh 46 X1 X2 0 (5 * t + k) (5 * t + (X1 44 0 t - 1)) ∧ Sh 47 X1 X2 0 (5 * t + k) (5 * t + (X1 44 0 t - 1)) ∧ Sh 48 X1 X2 0 (5 * t + k) (5 * t + (X1 44 0 t - 1))) ∧ (z2 < 0 → ∀ y, X2 45 0 y = X1 45 0 y ∧ X2 46 0 y = X1 46 0 y ∧ X2 47 0 y = X1 47 0 y ∧ X2 48 0 y = X1 48 0 y) ∧ (∀ y, y ≠ t → X2 44 0 y = X1 44 0 y) ∧ (0 ≤ z2 → (∀ y j, 0 ≤ y → y < X1 40 0 13 → X1 55 0 y = t → k ≤ j → j < X1 44 0 t - 1 → X2 56 0 (5 * y + j) = X1 56 0 (5 * y + j + 1)) ∧ ∀ y j, 0 ≤ y → y < X1 40 0 13 → 0 ≤ j → j ≤ 4 → ¬ (X1 55 0 y = t ∧ k ≤ j) → X2 56 0 (5 * y + j) = X1 56 0 (5 * y + j)) ∧ (z2 < 0 → Frm [4001] X1 X2)) : RC cnt X2 Y1 ln ∧ z = z2 := by
  obtain ⟨⟨hT, hM, hW, hC, hf⟩, hB, hK, hS, h6, hN⟩ := id h
  obtain ⟨p, p2, p3, p4, p5, p6⟩ := p
  obtain ⟨q, q2, q3, q4, q5, q6⟩ := q
  have hw := rF_drop hT hM hf hF p p2 p3 p4 hG q q2 q3 q4 hR hR1
  have hi := hF.hi (by decide)
  have e40 := hi 40 (by decide)
  have e44 := hi 44 (by decide)
  have e45 := hi 45 (by decide)
  have hT0 := hT
  have hM0 := hM
  unfold rT at hT0
  unfold rM at hM0
  have h3 := hB.1.1.1
  have g2 : X2 40 0 2 = X1 40 0 2 := hG 40 0 2 (show 4003 ∉ _ by decide)
  have hz2 := hw.2
  have r44 : 0 ≤ X 44 0 t ∧ X 44 0 t ≤ 5 := hR 44 0 t
  rw [e40, e44] at q
  have hq : (0 ≤ z → (0 ≤ t ∧ t < X 40 0 2) ∧ (0 ≤ k ∧ k < X 44 0 t) ∧ X 40 0 20 = 0 ∧ X2 44 0 t = X 44 0 t - 1) ∧ (z < 0 → X2 44 0 t = X 44 0 t) := by
    rcases q with q | q | q <;> refine ⟨fun u => ⟨?_, ?_, ?_, ?_⟩, fun u => ?_⟩ <;> omega
  have hE := hMI.2.2.2.2.1.1
  refine ⟨⟨⟨(hT.frm hF (by decide)).frm hG (by decide), (hM.frm hF (by decide)).frm hG (by decide), (hW.frm hF (by decide)).frm hG (by decide), (hC.frm hF (by decide)).frm hG (by decide), hw.1⟩, ⟨?_, ?_⟩, (hK.frm hF hH (by decide) (by decide) (Int.le_refl _)).frm (N := []) hG Frm.rf (by decide) (by decide) (Int.le_refl _), (hS.frm hF hH (by decide) (by decide)).frm (N := []) hG Frm.rf (by decide) (by decide), h6.frm hH (by decide), ?_⟩, hw.2⟩
  · have hmm : RB (cnt 26) X Y ln X1 := hB.1.m hi
    have kN : KpN X X1 Y Y1 X1 X2 := KpN.of hF hH hG (by decide) (fun j => by rw [fc28]; simp; omega) (fun j => by rw [fc28]; simp; omega) (by decide)
    by_cases h0 : 0 ≤ z
    · obtain ⟨c1, c2, c3, c4⟩ := hq.1 h0
      obtain ⟨a1, a2⟩ := p5 h0
      obtain ⟨b1, b2⟩ := q5 (by omega)
      have d2 := (q2 (by omega)).2.1
      have k2 : RB (cnt 26) X1 Y1 ln X2 := RB_drop (t := t) (kk := k) hmm kN hLn (by rw [e40]; omega) (by rw [e44]; exact c2) (hF 0 0 3 (show 4 ∉ _ by decide)) (fun x => hH 15 x 0 (show 1501 ∉ _ by decide)) (hG 40 0 13 (show 4014 ∉ _ by decide)) (hG.arr 55 (by decide +kernel) (by decide)) (by rw [e44]; exact c4) (fun y hy => q4 y hy) d2 (fun t => by rw [e44]; exact (hR 44 0 t).2) (fun x j x0 x1 hx j0 j1 => by
        have h9 := a1 x x0 x1 hx j
        rw [if_pos ⟨j0, j1⟩, if_pos ⟨j0, j1⟩] at h9
        exact h9) (fun x j x0 x1 hx => by
        by_cases hxt : Y 15 x 0 = some t
        · have h9 := a1 x x0 x1 hxt j
          have hn : ¬ (k ≤ j ∧ j < 4) := fun w => hx ⟨hxt, w.1⟩
          rw [if_neg hn, if_neg hn] at h9
          exact h9
        · exact a2 x j x0 x1 hxt) (fun x j x0 x1 hx j0 j1 => b1 x j x0 x1 hx j0 j1) (fun x j x0 x1 j0 j1 hx => b2 x j x0 x1 j0 j1 hx)
      exact k2.mdl hG (by decide)
    · obtain ⟨a1, a2⟩ := p6 (by omega)
      have b1 := q6 (by omega)
      rw [a1] at b1
      rw [a2]
      exact (hB.mdl b1 (by decide) (by decide)).1
  · rw [hG 29 0 1 (show 2902 ∉ _ by decide), hG 40 0 22 (show 4023 ∉ _ by decide), hF 29 0 1 (show 2902 ∉ _ by decide), e40]
    exact hB.2
  · intro t' j j' t0 t1 j0 j1 j2
    rw [g2, e40] at t1
    have r44' : X 44 0 t' ≤ 5 := (hR 44 0 t').2
    by_cases h0 : 0 ≤ z
    · obtain ⟨c1, c2, c3, c4⟩ := hq.1 h0
      have d1 := (q2 (by omega)).1
      rw [e44] at d1
      -- where a field behind stood before
      have key : ∀ i, 0 ≤ i → i < X2 44 0 t' → ∃ i', 0 ≤ i' ∧ i' < X 44 0 t' ∧ X2 45 0 (5 * t' + i) = X 45 0 (5 * t' + i') ∧ i' = (if t' = t ∧ k ≤ i then i + 1 else i) := by
        intro i i0 i1
        by_cases e : t' = t
        · subst e
          rw [c4] at i1
          by_cases hk : k ≤ i
          · refine ⟨i + 1, by omega, by omega, ?_, by rw [if_pos ⟨rfl, hk⟩]⟩
            rw [d1, if_pos ⟨rfl, by omega, by omega⟩, e45, show 5 * t' + i + 1 = 5 * t' + (i + 1) by omega]
          · refine ⟨i, i0, by omega, ?_, by rw [if_neg (fun w => hk w.2)]⟩
            rw [d1, if_neg (fun w => by omega), e45]
        · rw [q4 t' e, e44] at i1
          refine ⟨i, i0, i1, ?_, by rw [if_neg (fun w => e w.1)]⟩
          rw [d1, if_neg (fun w => by omega), e45]
      obtain ⟨a, a0, a1, a2, a3⟩ := key j j0 (by omega)
      obtain ⟨b, b0, b1, b2, b3⟩ := key j' (by omega) j2
      rw [a2, b2]
      refine hN t' a b t0 t1 a0 ?_ b1
      by_cases w1 : t' = t ∧ k ≤ j
      · rw [if_pos w1] at a3
        rw [if_pos ⟨w1.1, by omega⟩] at b3
        omega
      · rw [if_neg w1] at a3
        split at b3 <;> omega
    · have h44 : X2 44 0 t' = X 44 0 t' := by
        by_cases e1 : t' = t
        · rw [e1]
          exact hq.2 (by omega)
        · rw [q4 t' e1, e44]
      rw [h44] at j2
      have old : ∀ i, X2 45 0 i = X 45 0 i := fun i => by rw [(q3 (by omega) i).1, e45]
      rw [old, old]
      exact hN t' j j' t0 t1 j0 j1 j2

end JS
end
