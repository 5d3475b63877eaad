/-! class and reference together: what each call leaves the same -/
theorem fc_ge (κ : Nat) (j : Int) : κ * 100 ≤ fcode κ j := by
  unfold fcode
  split <;> omega
theorem Frm.hi {α : Type} {L : List Nat} {X X1 : Nat → Int → Int → α} (h : Frm L X X1) (hd : ∀ q ∈ L, q < 4000) : ∀ κ, 40 ≤ κ → X1 κ = X κ := fun κ hk => h.fn κ (fun j hj => by
  have h1 := hd _ hj
  have h2 := fc_ge κ j
  omega)
theorem Frm.lo {α : Type} {L : List Nat} {X X1 : Nat → Int → Int → α} (h : Frm L X X1) (hd : ∀ q ∈ L, 4000 < q) : ∀ κ, κ < 40 → (lay κ).1 = 0 → X1 κ = X κ := fun κ hk h0 => h.arr κ h0 (fun hj => by
  have h1 := hd _ hj
  omega)
section JR
variable {C C1 M M1 X X1 X2 : Nat → Int → Int → Int} {Y Y1 : Nat → Int → Int → Option Int} {ln ln1 : Int → Int} {c c1 : Int} {L : List Nat}
theorem RB.m (h : RB c C Y ln M) (e : ∀ κ, 40 ≤ κ → M1 κ = M κ) : RB c C Y ln M1 := by
  have e40 := e 40 (by decide)
  have e44 := e 44 (by decide)
  have e46 := e 46 (by decide)
  have e55 := e 55 (by decide)
  have e56 := e 56 (by decide)
  have e57 := e 57 (by decide)
  have e58 := e 58 (by decide)
  have e59 := e 59 (by decide)
  have e62 := e 62 (by decide)
  have e64 := e 64 (by decide)
  have e65 := e 65 (by decide)
  have e66 := e 66 (by decide)
  have e67 := e 67 (by decide)
  have e68 := e 68 (by decide)
  unfold RB rH rN nOK rR Lv LvF LvN LvI lnM fcM at *
  rw [e40, e44, e46, e55, e56, e57, e58, e59, e62, e64, e65, e66, e67, e68]
  exact h
theorem RB.cc (h : RB c C Y ln M) (e3 : C1 0 0 3 = C 0 0 3) (e16 : C1 16 = C 16) (e27 : C1 27 = C 27) (e31 : C1 31 = C 31) (e1 : ∀ n, C1 28 n 1 = C 28 n 1) (e2 : ∀ n, C1 28 n 2 = C 28 n 2) : RB c C1 Y ln M := by
  obtain ⟨⟨a1, a2⟩, ⟨b1, b2⟩, d1, d2⟩ := h
  refine ⟨⟨by rw [e3]; exact a1, fun x h0 h1 => ?_⟩, ⟨fun m h0 h1 => by rw [e31]; exact b1 m h0 h1, fun n h0 h1 => ?_⟩, fun g r l q => ?_, d2⟩
  · rw [e16]
    exact a2 x h0 h1
  · have h9 := b2 n h0 h1
    unfold nOK at *
    rw [e1, e2]
    exact h9
  · rw [e27]
    exact d1 g r l q
theorem RB.mdl (h : RB c C Y ln M) (hF : Frm L C C1) (hd : ∀ q ∈ L, 4000 < q) : RB c C1 Y ln M := by
  have nl : ∀ q, q < 4000 → q ∉ L := fun q hq hm => by
    have := hd q hm
    omega
  exact h.cc (hF 0 0 3 (nl 4 (by decide))) (hF.lo hd 16 (by decide) (by decide +kernel)) (hF.lo hd 27 (by decide) (by decide +kernel)) (hF.lo hd 31 (by decide) (by decide +kernel)) (fun n => hF 28 n 1 (nl 2802 (by decide))) (fun n => hF 28 n 2 (nl 2803 (by decide)))
/-- the types and lanes of things, seen from both sides -/
theorem bridge (hH : rH X Y X) (hT : rT X) (hF : rF X) (hMI : MInv X) (hR : Rng X) {x : Int} (h0 : 0 ≤ x) (h1 : x < X 40 0 13) : tyo (Y 15 x 0) = X 55 0 x ∧ X 19 (X 55 0 x) 1 = X 44 0 (X 55 0 x) ∧ (0 ≤ X 44 0 (X 55 0 x) ∧ X 44 0 (X 55 0 x) ≤ 5) ∧ ∀ k, 0 ≤ k → k < X 44 0 (X 55 0 x) → X 20 (X 55 0 x) k = X 45 0 (5 * X 55 0 x + k) ∧ X 21 (X 55 0 x) k = X 46 0 (5 * X 55 0 x + k) ∧ X 22 (X 55 0 x) k = X 47 0 (5 * X 55 0 x + k) ∧ X 23 (X 55 0 x) k = X 48 0 (5 * X 55 0 x + k) := by
  have a := (hH.2 x h0 h1).1
  have b := hMI.2.2.2.2.2 x h0 h1
  unfold rT at hT
  have r55 : 0 ≤ X 55 0 x ∧ X 55 0 x ≤ 7 := hR 55 0 x
  obtain ⟨d1, d2⟩ := hF (X 55 0 x) r55.1 (by omega)
  refine ⟨tyo_some a, d1, hR 44 0 _, fun k k0 k1 => d2 k k0 (by omega)⟩
/-! values and references -/
theorem J_val {x k v rw : Int} (hB : RB c X Y ln X) (hn : X 29 0 1 = X 40 0 22) (hm : X 29 0 3 = X 40 0 20) (hR : Rng X) (hl12 : LnL ln) (hp : 0 ≤ x ∧ x < X 40 0 13 ∧ 0 ≤ k ∧ k < X 44 0 (X 55 0 x)) (hl3 : X 46 0 (5 * X 55 0 x + k) < 3)
    (hF : Frm [2802, 2803, 2902, 1600] X X1) (hH : Frm [2801, 2804] Y Y1) (eC : eNoteC X X1 Y Y1 (some x) k (X 16 x k) (Y 17 x k)) (hv : X1 16 x k = v) (ho : ∀ y j, ¬ (y = x ∧ j = k) → X1 16 y j = X 16 y j) (h17 : ∀ y j, Y1 17 y j = Y 17 y j)
    (hG : Frm L X1 X2) (hd : ∀ q ∈ L, 4000 < q) (hd2 : ∀ q ∈ [4400, 4600, 5500, 6200, 4014, 4021, 5700, 5800, 5900], q ∉ L) (eM : eNoteM X1 X2 x k rw (-1) (X1 56 0 (5 * x + k))) (hv2 : X2 56 0 (5 * x + k) = v) (ho2 : ∀ p, p ≠ 5 * x + k → X2 56 0 p = X1 56 0 p) : RB c X2 Y1 ln X2 ∧ X2 29 0 1 = X2 40 0 22 := by
  have hi := hF.hi (by decide)
  have h1 : RB c X Y ln X1 := hB.m hi
  have e40 := hi 40 (by decide)
  have e44 := hi 44 (by decide)
  have e46 := hi 46 (by decide)
  have e55 := hi 55 (by decide)
  have hN := RB_val (M1 := X2) h1 (by rw [e40]; exact hn) (by rw [e40]; exact hm) (KpC.of hF hH (by decide) (by decide)) (KpM.of hG (fun q hq => hd2 q (by simp only [List.mem_cons, List.not_mem_nil, or_false] at hq ⊢; omega))) (fun y => by unfold fcM; rw [e44]; exact (hR 44 0 _).2) (by unfold fcM; rw [e40, e44, e55]; exact hp) (by unfold lnM; rw [e46, e55]; exact hl3) eC hv ho h17 (hF.arr 27 (by decide +kernel) (by decide)) eM hv2 ho2 (hG.arr 57 (by decide +kernel) (hd2 5700 (by decide))) (hG.arr 58 (by decide +kernel) (hd2 5800 (by decide))) (hG.arr 59 (by decide +kernel) (hd2 5900 (by decide))) hl12
  refine ⟨hN.1.mdl hG hd, ?_⟩
  have e9 : X2 29 0 1 = X1 29 0 1 := hG 29 0 1 (fun q => by
    have := hd 2902 q
    omega)
  rw [e9]
  exact hN.2

/-! the rest of the relation: checks, saves, records apart, names -/
end JR
def rK (c : Int) (C : Nat → Int → Int → Int) (Y : Nat → Int → Int → Option Int) (M : Nat → Int → Int → Int) : Prop := ∀ t q, 0 ≤ t → t < M 40 0 2 → 0 ≤ q → q < M 49 0 t → ∃ g, Y 24 t q = some g ∧ (0 ≤ g ∧ g < c) ∧ C 25 g 0 = M 50 0 (4 * t + q) ∧ C 25 g 1 = M 51 0 (4 * t + q) ∧ C 25 g 2 = M 52 0 (4 * t + q) ∧ C 25 g 3 = M 53 0 (4 * t + q)
def rSf (C M : Nat → Int → Int → Int) (g s r k : Int) : Prop := C 10 g (5 * r + k) = M 73 0 (5 * (30 * s + r) + k) ∧ C 11 g (5 * r + k) = M 74 0 (5 * (30 * s + r) + k) ∧ C 12 g (5 * r + k) = M 75 0 (5 * (30 * s + r) + k) ∧ (3 ≤ M 74 0 (5 * (30 * s + r) + k) → 0 ≤ M 75 0 (5 * (30 * s + r) + k) → M 75 0 (5 * (30 * s + r) + k) < M 76 0 s ∧ M 77 0 (150 * s + M 75 0 (5 * (30 * s + r) + k)) = M 74 0 (5 * (30 * s + r) + k))
def rSv (C M : Nat → Int → Int → Int) (g s : Int) : Prop := C 7 g 0 = M 70 0 s ∧ (0 < M 70 0 s → C 7 g 6 = M 76 0 s) ∧ (M 70 0 s = 0 → C 7 g 6 = 0) ∧ (∀ r, 0 ≤ r → r < M 70 0 s → C 8 g r = M 71 0 (30 * s + r) ∧ C 9 g r = M 72 0 (30 * s + r) ∧ (∀ k, 0 ≤ k → k < M 72 0 (30 * s + r) → rSf C M g s r k) ∧ ∀ k k', 0 ≤ k → k < k' → k' < M 72 0 (30 * s + r) → M 73 0 (5 * (30 * s + r) + k) ≠ M 73 0 (5 * (30 * s + r) + k')) ∧ ∀ w, 0 < M 70 0 s → 0 ≤ w → w < M 76 0 s → C 13 g w = M 78 0 (150 * s + w) ∧ ∀ i, 0 ≤ i → i < C 13 g w → C 14 g (12 * w + i) = M 79 0 (12 * (150 * s + w) + i)
def rS (C : Nat → Int → Int → Int) (Y : Nat → Int → Int → Option Int) (M : Nat → Int → Int → Int) : Prop := ∀ s g, 0 ≤ s → s < 4 → Y 4 0 s = some g → rSv C M g s
def sl6 (Y : Nat → Int → Int → Option Int) (i : Int) : Option Int := if i < 4 then Y 4 0 i else if i = 4 then Y 0 0 6 else Y 0 0 7
def rA6 (Y : Nat → Int → Int → Option Int) : Prop := (∀ i, 0 ≤ i → i < 6 → ∃ g, sl6 Y i = some g ∧ 0 ≤ g ∧ g < 6) ∧ ∀ i j, 0 ≤ i → i < 6 → 0 ≤ j → j < 6 → sl6 Y i = sl6 Y j → i = j
def mNm (M : Nat → Int → Int → Int) : Prop := ∀ t k k', 0 ≤ t → t < M 40 0 2 → 0 ≤ k → k < k' → k' < M 44 0 t → M 45 0 (5 * t + k) ≠ M 45 0 (5 * t + k')
def RBn (c : Int) (X : Nat → Int → Int → Int) (Y : Nat → Int → Int → Option Int) (ln : Int → Int) : Prop := RB c X Y ln X ∧ X 29 0 1 = X 40 0 22
def RC (cnt : Nat → Int) (X : Nat → Int → Int → Int) (Y : Nat → Int → Int → Option Int) (ln : Int → Int) : Prop := (rT X ∧ rM X ∧ rW X ∧ rC X ∧ rF X) ∧ RBn (cnt 26) X Y ln ∧ rK (cnt 25) X Y X ∧ rS X Y X ∧ rA6 Y ∧ mNm X
section FR
variable {C C1 M M1 X X1 X2 : Nat → Int → Int → Int} {Y Y1 : Nat → Int → Int → Option Int} {ln ln1 : Int → Int} {c c1 : Int} {L N : List Nat}
theorem rK.frm (h : rK c X Y X) (hF : Frm L X X1) (hH : Frm N Y Y1) (hd : ∀ q ∈ [4003, 4900, 5000, 5100, 5200, 5300, 2501, 2502, 2503, 2504], q ∉ L) (he : 2400 ∉ N) (hc : c ≤ c1) : rK c1 X1 Y1 X1 := by
  intro t q t0 t1 q0 q1
  rw [hF 40 0 2 (hd 4003 (by decide))] at t1
  rw [hF 49 0 t (hd 4900 (by decide))] at q1
  obtain ⟨g, g1, g2, g3, g4, g5, g6⟩ := h t q t0 t1 q0 q1
  refine ⟨g, by rw [hH 24 t q he]; exact g1, ⟨g2.1, by omega⟩, ?_, ?_, ?_, ?_⟩
  · rw [hF 25 g 0 (hd 2501 (by decide)), hF 50 0 _ (hd 5000 (by decide))]; exact g3
  · rw [hF 25 g 1 (hd 2502 (by decide)), hF 51 0 _ (hd 5100 (by decide))]; exact g4
  · rw [hF 25 g 2 (hd 2503 (by decide)), hF 52 0 _ (hd 5200 (by decide))]; exact g5
  · rw [hF 25 g 3 (hd 2504 (by decide)), hF 53 0 _ (hd 5300 (by decide))]; exact g6
theorem rSv.of {g s : Int} (h : rSv C M g s) (e0 : C1 7 g 0 = C 7 g 0) (e6 : C1 7 g 6 = C 7 g 6) (e : ∀ κ ∈ [8, 9, 10, 11, 12, 13, 14], C1 κ g = C κ g) (f : ∀ κ ∈ [70, 71, 72, 73, 74, 75, 76, 77, 78, 79], M1 κ = M κ) : rSv C1 M1 g s := by
  unfold rSv rSf at *
  rw [e0, e6, e 8 (by decide), e 9 (by decide), e 10 (by decide), e 11 (by decide), e 12 (by decide), e 13 (by decide), e 14 (by decide), f 70 (by decide), f 71 (by decide), f 72 (by decide), f 73 (by decide), f 74 (by decide), f 75 (by decide), f 76 (by decide), f 77 (by decide), f 78 (by decide), f 79 (by decide)]
  exact h
theorem mem_imp {L : List Nat} {l : List Nat} (h : ∀ q ∈ l, q ∉ L) (k : Nat) (hk : k ∈ l) : k ∉ L := h k hk
theorem rS.frm (h : rS X Y X) (hF : Frm L X X1) (hH : Frm N Y Y1) (hd : ∀ q ∈ [701, 707, 800, 900, 1000, 1100, 1200, 1300, 1400, 7000, 7100, 7200, 7300, 7400, 7500, 7600, 7700, 7800, 7900], q ∉ L) (he : 400 ∉ N) : rS X1 Y1 X1 := by
  intro s g s0 s1 e
  rw [hH 4 0 s he] at e
  refine (h s g s0 s1 e).of (hF 7 g 0 (hd 701 (by decide))) (hF 7 g 6 (hd 707 (by decide))) (fun κ hκ => ?_) (fun κ hκ => ?_)
  · simp only [List.mem_cons, List.not_mem_nil, or_false] at hκ
    rcases hκ with rfl | rfl | rfl | rfl | rfl | rfl | rfl
    · exact congrFun (hF.arr 8 (by decide +kernel) (hd 800 (by decide))) g
    · exact congrFun (hF.arr 9 (by decide +kernel) (hd 900 (by decide))) g
    · exact congrFun (hF.arr 10 (by decide +kernel) (hd 1000 (by decide))) g
    · exact congrFun (hF.arr 11 (by decide +kernel) (hd 1100 (by decide))) g
    · exact congrFun (hF.arr 12 (by decide +kernel) (hd 1200 (by decide))) g
    · exact congrFun (hF.arr 13 (by decide +kernel) (hd 1300 (by decide))) g
    · exact congrFun (hF.arr 14 (by decide +kernel) (hd 1400 (by decide))) g
  · simp only [List.mem_cons, List.not_mem_nil, or_false] at hκ
    rcases hκ with rfl | rfl | rfl | rfl | rfl | rfl | rfl | rfl | rfl | rfl
    · exact hF.arr 70 (by decide +kernel) (hd 7000 (by decide))
    · exact hF.arr 71 (by decide +kernel) (hd 7100 (by decide))
    · exact hF.arr 72 (by decide +kernel) (hd 7200 (by decide))
    · exact hF.arr 73 (by decide +kernel) (hd 7300 (by decide))
    · exact hF.arr 74 (by decide +kernel) (hd 7400 (by decide))
    · exact hF.arr 75 (by decide +kernel) (hd 7500 (by decide))
    · exact hF.arr 76 (by decide +kernel) (hd 7600 (by decide))
    · exact hF.arr 77 (by decide +kernel) (hd 7700 (by decide))
    · exact hF.arr 78 (by decide +kernel) (hd 7800 (by decide))
    · exact hF.arr 79 (by decide +kernel) (hd 7900 (by decide))
theorem rA6.frm (h : rA6 Y) (hH : Frm N Y Y1) (he : ∀ q ∈ [400, 7, 8], q ∉ N) : rA6 Y1 := by
  have e : sl6 Y1 = sl6 Y := by
    funext i
    unfold sl6
    rw [hH 4 0 i (he 400 (by decide)), hH 0 0 6 (he 7 (by decide)), hH 0 0 7 (he 8 (by decide))]
  unfold rA6 at *
  rw [e]
  exact h
theorem mNm.frm (h : mNm X) (hF : Frm L X X1) (hd : ∀ q ∈ [4003, 4400, 4500], q ∉ L) : mNm X1 := by
  unfold mNm at *
  rw [hF 40 0 2 (hd 4003 (by decide)), hF.arr 44 (by decide +kernel) (hd 4400 (by decide)), hF.arr 45 (by decide +kernel) (hd 4500 (by decide))]
  exact h
theorem RB.grow (h : RB c C Y ln M) (hc : c ≤ c1) (hl : ∀ i, 0 ≤ i → i < c → ln1 i = ln i) : RB c1 C Y ln1 M := by
  refine ⟨h.1, h.2.1, fun g r l q => ?_, h.2.2.2⟩
  obtain ⟨a1, a2, a3, a4, a5, a6, a7⟩ := h.2.2.1 g r l q
  rw [hl g a1 a2]
  exact ⟨a1, by omega, a3, a4, a5, a6, a7⟩
theorem RB.y (h : RB c C Y ln M) (e5 : ∀ x, Y1 15 x 0 = Y 15 x 0) (e7 : Y1 17 = Y 17) (f0 : ∀ n, Y1 28 n 0 = Y 28 n 0) (f3 : ∀ n, Y1 28 n 3 = Y 28 n 3) : RB c C Y1 ln M := by
  obtain ⟨⟨a1, a2⟩, ⟨b1, b2⟩, d1, d2⟩ := h
  have hv : ∀ g r l, Lv Y1 M g r l → Lv Y M g r l := fun g r l q => by
    unfold Lv LvF LvN LvI at *
    simp only [e7, f3] at q
    exact q
  refine ⟨⟨a1, fun x h0 h1 => ?_⟩, ⟨b1, fun n h0 h1 => ?_⟩, fun g r l q => d1 g r l (hv g r l q), fun g r l g' r' l' q q' => d2 _ _ _ _ _ _ (hv _ _ _ q) (hv _ _ _ q')⟩
  · rw [e5, e7]
    exact a2 x h0 h1
  · have h9 := b2 n h0 h1
    unfold nOK at *
    rw [f0, f3]
    exact h9
theorem RBn.cls (h : RBn c X Y ln) (hF : Frm L X X1) (hH : Frm N Y Y1) (hd : ∀ q ∈ L, q < 4000) (hd2 : ∀ q ∈ [4, 1600, 2700, 2802, 2803, 2902, 3100], q ∉ L) (he : ∀ q ∈ [1501, 1700, 2801, 2804], q ∉ N) : RBn c X1 Y1 ln := by
  have e40 := hF.hi hd 40 (by decide)
  refine ⟨((h.1.m (hF.hi hd)).cc (hF 0 0 3 (hd2 4 (by decide))) (hF.arr 16 (by decide +kernel) (hd2 1600 (by decide))) (hF.arr 27 (by decide +kernel) (hd2 2700 (by decide))) (hF.arr 31 (by decide +kernel) (hd2 3100 (by decide))) (fun n => hF 28 n 1 (hd2 2802 (by decide))) (fun n => hF 28 n 2 (hd2 2803 (by decide)))).y (fun x => hH 15 x 0 (he 1501 (by decide))) (hH.arr 17 (by decide +kernel) (he 1700 (by decide))) (fun n => hH 28 n 0 (he 2801 (by decide))) (fun n => hH 28 n 3 (he 2804 (by decide))), ?_⟩
  rw [hF 29 0 1 (hd2 2902 (by decide)), e40]
  exact h.2
theorem RBn.mdl (h : RBn c X Y ln) (hF : Frm L X X1) (hd : ∀ q ∈ L, 4000 < q) (hd2 : ∀ q ∈ [4014, 4021, 4023, 4400, 4600, 5500, 5600, 5700, 5800, 5900, 6200, 6400, 6500, 6600, 6700, 6800], q ∉ L) : RBn c X1 Y ln := by
  have nl : ∀ q, q < 4000 → q ∉ L := fun q hq hm => by
    have := hd q hm
    omega
  have k : ∀ κ, (lay κ).1 = 0 → κ * 100 ∈ [4400, 4600, 5500, 5600, 5700, 5800, 5900, 6200, 6400, 6500, 6600, 6700, 6800] → X1 κ = X κ := fun κ h0 hm => hF.arr κ h0 (hd2 _ (by simp only [List.mem_cons, List.not_mem_nil, or_false] at hm ⊢; omega))
  have e44 := k 44 (by decide +kernel) (by decide)
  have e46 := k 46 (by decide +kernel) (by decide)
  have e55 := k 55 (by decide +kernel) (by decide)
  have e56 := k 56 (by decide +kernel) (by decide)
  have e57 := k 57 (by decide +kernel) (by decide)
  have e58 := k 58 (by decide +kernel) (by decide)
  have e59 := k 59 (by decide +kernel) (by decide)
  have e62 := k 62 (by decide +kernel) (by decide)
  have e64 := k 64 (by decide +kernel) (by decide)
  have e65 := k 65 (by decide +kernel) (by decide)
  have e66 := k 66 (by decide +kernel) (by decide)
  have e67 := k 67 (by decide +kernel) (by decide)
  have e68 := k 68 (by decide +kernel) (by decide)
  have a13 := hF 40 0 13 (hd2 4014 (by decide))
  have a20 := hF 40 0 20 (hd2 4021 (by decide))
  have a22 := hF 40 0 22 (hd2 4023 (by decide))
  have h1 : RB c X1 Y ln X := h.1.mdl hF hd
  refine ⟨?_, by rw [hF 29 0 1 (nl 2902 (by decide)), a22]; exact h.2⟩
  unfold RB rH rN nOK rR Lv LvF LvN LvI lnM fcM at *
  simp only [a13, a20, a22, e44, e46, e55, e56, e57, e58, e59, e62, e64, e65, e66, e67, e68]
  exact h1
end FR
theorem fc28 (j : Int) : fcode 28 j = 2801 + j.toNat := by
  unfold fcode
  rw [if_neg (by decide +kernel)]
section JW
variable {X X1 X2 : Nat → Int → Int → Int} {Y Y1 : Nat → Int → Int → Option Int} {ln ln1 : Int → Int} {c c1 : Int} {L L0 N0 : List Nat}
/-- a row comes to a place -/
theorem J_rw {x k v r0 g0 : Int} {ro : Option Int} (hB : RB c X Y ln X) (hn : X 29 0 1 = X 40 0 22) (hm : X 29 0 3 = X 40 0 20) (hR : Rng X) (hp : 0 ≤ x ∧ x < X 40 0 13 ∧ 0 ≤ k ∧ k < X 44 0 (X 55 0 x)) (hl3 : 3 ≤ X 46 0 (5 * X 55 0 x + k))
    (hF : Frm L0 X X1) (hL0 : ∀ q ∈ L0, q < 4000) (hL1 : ∀ q ∈ [4, 3100], q ∉ L0) (hH : Frm N0 Y Y1) (hN0 : 1501 ∉ N0) (eC : eNoteC X X1 Y Y1 (some x) k v (Y 17 x k)) (hv : Y1 17 x k = ro) (ho : ∀ y j, ¬ (y = x ∧ j = k) → Y1 17 y j = Y 17 y j) (h16 : ∀ y j, X1 16 y j = X 16 y j)
    (hG : Frm L X1 X2) (hd : ∀ q ∈ L, 4000 < q) (hd2 : ∀ q ∈ [4400, 4600, 5500, 6200, 4014, 4021], q ∉ L) (eM : eNoteM X1 X2 x k (if 3 ≤ X1 46 0 (5 * X1 55 0 x + k) then X1 56 0 (5 * x + k) else -1) (-1) (X1 56 0 (5 * x + k))) (hv2 : X2 56 0 (5 * x + k) = r0) (ho2 : ∀ p, p ≠ 5 * x + k → X2 56 0 p = X1 56 0 p) (hnone : ro = none ↔ r0 < 0)
    (hc : 0 ≤ c ∧ c ≤ c1) (hkp : ∀ g r l, Lv Y X1 g r l → X2 57 0 r = l ∧ ln1 g = X2 58 0 r ∧ ∀ i, 0 ≤ i → i < ln1 g → X1 27 g i = X2 59 0 (12 * r + i)) (h57' : ∀ n, 0 ≤ n → n < X1 40 0 22 → 0 ≤ X1 67 0 n → X2 57 0 (X1 66 0 n) = X1 57 0 (X1 66 0 n))
    (hcase : ro = none ∨ (ro = some g0 ∧ Lv Y X1 g0 r0 (lnM X1 x k)) ∨ (ro = some g0 ∧ (c ≤ g0 ∧ g0 < c1) ∧ (0 ≤ r0 ∧ r0 ≤ 399) ∧ (∀ g r l, Lv Y X1 g r l → r ≠ r0) ∧ X2 57 0 r0 = lnM X1 x k ∧ ln1 g0 = X2 58 0 r0 ∧ ∀ i, 0 ≤ i → i < ln1 g0 → X1 27 g0 i = X2 59 0 (12 * r0 + i))) : RBn c1 X2 Y1 ln1 := by
  have hi := hF.hi hL0
  have h1 : RB c X Y ln X1 := hB.m hi
  have e40 := hi 40 (by decide)
  have e44 := hi 44 (by decide)
  have e46 := hi 46 (by decide)
  have e55 := hi 55 (by decide)
  rw [if_pos (by rw [e46, e55]; exact hl3)] at eM
  have hN := RB_row (M1 := X2) (g0 := g0) h1 (by rw [e40]; exact hn) (by rw [e40]; exact hm) (KpC.of hF hH hL1 hN0) (KpM.of hG hd2) (fun y => by unfold fcM; rw [e44]; exact (hR 44 0 _).2) (by unfold fcM; rw [e40, e44, e55]; exact hp) (by unfold lnM; rw [e46, e55]; exact hl3) eC hv ho h16 eM hv2 ho2 hnone hc hkp h57' hcase
  refine ⟨hN.1.mdl hG hd, ?_⟩
  have e9 : X2 29 0 1 = X1 29 0 1 := hG 29 0 1 (fun q => by
    have := hd 2902 q
    omega)
  rw [e9]
  exact hN.2
end JW
theorem RB_rn {C C1 M M1 : Nat → Int → Int → Int} {Y : Nat → Int → Int → Option Int} {ln : Int → Int} {c : Int} (h : RB c C Y ln M) (hrn : rN C1 Y M1) (e3 : C1 0 0 3 = C 0 0 3) (e16 : C1 16 = C 16) (e27 : C1 27 = C 27) (a13 : M1 40 0 13 = M 40 0 13) (a22 : M1 40 0 22 = M 40 0 22) (k : ∀ κ ∈ [44, 46, 55, 56, 57, 58, 59, 64, 65, 66, 67, 68], M1 κ = M κ) : RB c C1 Y ln M1 := by
  obtain ⟨h1, -, h3⟩ := h
  refine ⟨?_, hrn, ?_⟩
  · unfold rH lnM fcM at *
    rw [e3, e16, a13, k 44 (by decide), k 46 (by decide), k 55 (by decide), k 56 (by decide)]
    exact h1
  · unfold rR Lv LvF LvN LvI lnM fcM at *
    rw [e27, a13, a22, k 44 (by decide), k 46 (by decide), k 55 (by decide), k 56 (by decide), k 57 (by decide), k 58 (by decide), k 59 (by decide), k 64 (by decide), k 65 (by decide), k 66 (by decide), k 67 (by decide), k 68 (by decide)]
    exact h3
theorem RB.c2 {C C1 M : Nat → Int → Int → Int} {Y : Nat → Int → Int → Option Int} {ln : Int → Int} {c : Int} (h : RB c C Y ln M) (e3 : C1 0 0 3 = C 0 0 3) (e16 : C1 16 = C 16) (e27 : ∀ g, 0 ≤ g → g < c → C1 27 g = C 27 g) (e31 : C1 31 = C 31) (e1 : ∀ n, C1 28 n 1 = C 28 n 1) (e2 : ∀ n, C1 28 n 2 = C 28 n 2) : RB c C1 Y ln M := by
  obtain ⟨⟨a1, a2⟩, ⟨b1, b2⟩, d1, d2⟩ := h
  refine ⟨⟨by rw [e3]; exact a1, fun x h0 h1 => ?_⟩, ⟨fun m h0 h1 => by rw [e31]; exact b1 m h0 h1, fun n h0 h1 => ?_⟩, fun g r l q => ?_, d2⟩
  · rw [e16]
    exact a2 x h0 h1
  · have h9 := b2 n h0 h1
    unfold nOK at *
    rw [e1, e2]
    exact h9
  · obtain ⟨f1, f2, f3, f4, f5, f6, f7⟩ := d1 g r l q
    rw [e27 g f1 f2]
    exact ⟨f1, f2, f3, f4, f5, f6, f7⟩
