theorem u3_ij2 {α : Type} {Z : Nat → Int → Int → α} {k : Nat} {i j i1 j1 : Int} {v : α} (h : ¬ (i1 = i ∧ j1 = j)) : u3 Z k i j v k i1 j1 = Z k i1 j1 := by
  simp only [u3]
  rw [if_neg (fun q => h q.2)]
/-! an item changes, notes are taken back, things come and go, types change -/
section RO
variable {C C1 M M1 : Nat → Int → Int → Int} {Y Y1 : Nat → Int → Int → Option Int} {ln ln1 : Int → Int} {c c1 : Int}
theorem rN_item {g i v ws r th fd : Int} (h : rN C Y M) (hn : C 29 0 1 = M 40 0 22) (hm : C 29 0 3 = M 40 0 20) (eC : eNoteC C C1 Y Y1 none i v (some g)) (eM : eNoteM M M1 th fd r i ws) (hl : lnM M1 = lnM M) (h31 : C1 31 = C 31) (h62 : M1 62 = M 62) (h20 : M1 40 0 20 = M 40 0 20) (h57 : M1 57 = M 57) (hi : 0 ≤ i) (hv : v = ws) (h3 : 3 ≤ M 57 0 r) : rN C1 Y1 M1 ∧ C1 29 0 1 = M1 40 0 22 := by
  obtain ⟨n2, n3⟩ := h
  have hge : M 40 0 22 ≤ M1 40 0 22 := by rcases eM with ⟨-, d1, -⟩ | ⟨-, d1, -⟩ <;> omega
  refine ⟨⟨fun m a b => by
    obtain ⟨q1, q2, q3⟩ := n2 m a (by rw [← h20]; exact b)
    rw [h31, h62]
    exact ⟨q1, by omega, q3⟩, fun n a b => ?_⟩, ?_⟩
  · rcases eC with ⟨c0, c1, c2, c3⟩ | ⟨c0, c1, c2, c3⟩
    · rcases eM with ⟨d0, d1, d2⟩ | ⟨d0, d1, -⟩
      · have h9 := n3 n a (by omega)
        obtain ⟨e1, e2, e3, e4, e5⟩ := d2 n
        unfold nOK at *
        rw [e1, e2, e3, e4, e5, hl, c2, c3, h57]
        exact h9
      · omega
    · rcases eM with ⟨d0, -⟩ | ⟨d0, d1, d2, d3⟩
      · omega
      · by_cases hn9 : n = M 40 0 22
        · obtain ⟨e1, e2, e3, e4, e5⟩ := d2
          obtain ⟨f1, f2, f3, f4⟩ := c2
          rw [hn] at f1 f2 f3 f4
          subst hn9
          unfold nOK
          rw [e3, e4, e5, f1, f2, f3, f4, h57]
          exact ⟨fun q => by omega, fun _ => ⟨rfl, fun q => (by cases q), rfl, hv, h3⟩⟩
        · have h9 := n3 n a (by omega)
          obtain ⟨e1, e2, e3, e4, e5⟩ := d3 n hn9
          obtain ⟨f1, f2⟩ := c3 n (by rw [hn]; exact hn9)
          unfold nOK at *
          rw [e1, e2, e3, e4, e5, hl, f1 1, f1 2, f2 0, f2 3, h57]
          exact h9
  · rcases eC with ⟨c0, c1, -, -⟩ | ⟨c0, c1, -, -⟩ <;> rcases eM with ⟨d0, d1, -⟩ | ⟨d0, d1, -⟩ <;> omega
theorem Lv_item {g i v ws r th fd : Int} (hn : C 29 0 1 = M 40 0 22) (hm : C 29 0 3 = M 40 0 20) (eC : eNoteC C C1 Y Y1 none i v (some g)) (eM : eNoteM M M1 th fd r i ws) (hl : lnM M1 = lnM M) (h57 : M1 57 = M 57) (hi : 0 ≤ i) (hL : Lv Y M g r (M 57 0 r)) (g' r' l' : Int) (hv : LvN Y1 M1 g' r' l' ∨ LvI Y1 M1 g' r' l') : Lv Y M g' r' l' := by
  rcases hv with ⟨n, a, b, q67, ql, q3, qy, q68⟩ | ⟨n, a, b, q67, ql, q3, qy, q66⟩
  · rcases eC with ⟨c0, c1, c2, c3⟩ | ⟨c0, c1, c2, c3⟩
    · rcases eM with ⟨d0, d1, d2⟩ | ⟨d0, d1, -⟩
      · obtain ⟨e1, e2, e3, e4, e5⟩ := d2 n
        rw [e1, e2, hl] at ql
        rw [e4] at q67
        rw [c3] at qy
        rw [e5] at q68
        exact Or.inr (Or.inl ⟨n, a, by omega, q67, ql, q3, qy, q68⟩)
      · omega
    · rcases eM with ⟨d0, -⟩ | ⟨d0, d1, d2, d3⟩
      · omega
      · by_cases hn9 : n = M 40 0 22
        · obtain ⟨e1, e2, e3, e4, e5⟩ := d2
          subst hn9
          omega
        · obtain ⟨e1, e2, e3, e4, e5⟩ := d3 n hn9
          obtain ⟨f1, f2⟩ := c3 n (by rw [hn]; exact hn9)
          rw [e1, e2, hl] at ql
          rw [e4] at q67
          rw [f2] at qy
          rw [e5] at q68
          exact Or.inr (Or.inl ⟨n, a, by omega, q67, ql, q3, qy, q68⟩)
  · rw [h57] at ql
    rcases eC with ⟨c0, c1, c2, c3⟩ | ⟨c0, c1, c2, c3⟩
    · rcases eM with ⟨d0, d1, d2⟩ | ⟨d0, d1, -⟩
      · obtain ⟨e1, e2, e3, e4, e5⟩ := d2 n
        rw [e3] at q66
        rw [e4] at q67
        rw [c3] at qy
        exact Or.inr (Or.inr ⟨n, a, by omega, q67, ql, q3, qy, q66⟩)
      · omega
    · rcases eM with ⟨d0, -⟩ | ⟨d0, d1, d2, d3⟩
      · omega
      · by_cases hn9 : n = M 40 0 22
        · obtain ⟨e1, e2, e3, e4, e5⟩ := d2
          obtain ⟨f1, f2, f3, f4⟩ := c2
          rw [hn] at f4
          subst hn9
          rw [f4] at qy
          rw [e3] at q66
          cases qy
          subst q66
          rw [← ql]
          exact hL
        · obtain ⟨e1, e2, e3, e4, e5⟩ := d3 n hn9
          obtain ⟨f1, f2⟩ := c3 n (by rw [hn]; exact hn9)
          rw [e3] at q66
          rw [e4] at q67
          rw [f2] at qy
          exact Or.inr (Or.inr ⟨n, a, by omega, q67, ql, q3, qy, q66⟩)
/-- rows of which one item became the same on both sides -/
theorem rR_one {g r i w l0 : Int} (h : rR c C Y ln M) (hL : Lv Y M g r l0) (hi : 0 ≤ i ∧ i < 12) (hw : C1 27 g i = w) (ho : ∀ y j, ¬ (y = g ∧ j = i) → C1 27 y j = C 27 y j) (hw2 : M1 59 0 (12 * r + i) = w) (ho2 : ∀ p, p ≠ 12 * r + i → M1 59 0 p = M 59 0 p) (h57 : M1 57 = M 57) (h58 : M1 58 = M 58) (hl12 : LnL ln) : ∀ g r l, Lv Y M g r l → M1 57 0 r = l ∧ ln g = M1 58 0 r ∧ ∀ i, 0 ≤ i → i < ln g → C1 27 g i = M1 59 0 (12 * r + i) := by
  intro g' r' l' hv
  obtain ⟨a1, a2, a3, a4, a5, a6, a7⟩ := h.1 g' r' l' hv
  have hio := h.2 _ _ _ _ _ _ hv hL
  rw [h57, h58]
  refine ⟨a5, a6, fun j j0 j1 => ?_⟩
  have := hl12 g'
  by_cases e : g' = g
  · have er := hio.mp e
    subst e
    subst er
    by_cases ej : j = i
    · rw [ej, hw, hw2]
    · rw [ho _ _ (fun q => ej q.2), ho2 _ (by omega)]
      exact a7 j j0 j1
  · have er : r' ≠ r := fun q => e (hio.mpr q)
    rw [ho _ _ (fun q => e q.1), ho2 _ (by omega)]
    exact a7 j j0 j1
theorem RB_item {x k g r i w th fd : Int} (h : RB c C Y ln M) (hn : C 29 0 1 = M 40 0 22) (hm : C 29 0 3 = M 40 0 20) (kC : KpC C C1 Y Y1) (kM : KpM M M1) (hp : 0 ≤ x ∧ x < M 40 0 13 ∧ 0 ≤ k ∧ k < fcM M x) (hl3 : 3 ≤ lnM M x k) (hg : Y 17 x k = some g) (hr : M 56 0 (5 * x + k) = r) (hi : 0 ≤ i ∧ i < 12)
    (eC : eNoteC C C1 Y Y1 none i (C 27 g i) (some g)) (hw : C1 27 g i = w) (ho : ∀ y j, ¬ (y = g ∧ j = i) → C1 27 y j = C 27 y j) (h16 : C1 16 = C 16) (h17 : Y1 17 = Y 17)
    (eM : eNoteM M M1 th fd r i (M 59 0 (12 * r + i))) (hw2 : M1 59 0 (12 * r + i) = w) (ho2 : ∀ p, p ≠ 12 * r + i → M1 59 0 p = M 59 0 p) (h56 : M1 56 = M 56) (h57 : M1 57 = M 57) (h58 : M1 58 = M 58) (hil : i < ln g) (hl12 : LnL ln) : RB c C1 Y1 ln M1 ∧ C1 29 0 1 = M1 40 0 22 := by
  obtain ⟨h1, h2, h3⟩ := h
  have hl := kM.lnE
  have hcf := kM.fcE
  obtain ⟨-, -, k55, k62, k13, k20⟩ := id kM
  obtain ⟨kc3, k31, k15⟩ := kC
  have hL : Lv Y M g r (lnM M x k) := Or.inl ⟨x, k, hp.1, hp.2.1, hp.2.2.1, hp.2.2.2, rfl, hl3, hg, hr⟩
  obtain ⟨a1, a2, a3, a4, a5, a6, a7⟩ := h3.1 _ _ _ hL
  have hN := rN_item h2 hn hm eC eM hl k31 k62 k20 h57 hi.1 (a7 i hi.1 hil) (by rw [a5]; exact hl3)
  refine ⟨⟨⟨by rw [kc3, k13]; exact h1.1, fun y y0 y1 => ?_⟩, hN.1, ?_⟩, hN.2⟩
  · rw [k13] at y1
    rw [k15, k55, hl, hcf, h16, h17, h56]
    exact h1.2 y y0 y1
  · refine rR_sub h3 (Int.le_refl _) (fun g' r' l' hv => ?_) (rR_one h3 hL hi hw ho hw2 ho2 h57 h58 hl12)
    rcases hv with ⟨y, j, y0, y1, j0, j1, jl, l3, jy, jr⟩ | hv
    · rw [k13] at y1
      rw [hcf] at j1
      rw [hl] at jl
      rw [h17] at jy
      rw [h56] at jr
      exact Or.inl ⟨y, j, y0, y1, j0, j1, jl, l3, jy, jr⟩
    · exact Lv_item hn hm eC eM hl h57 hi.1 (by rw [a5]; exact hL) g' r' l' hv
/-! taking back -/
def uStC (n : Int) (C C1 : Nat → Int → Int → Int) (Y Y1 : Nat → Int → Int → Option Int) : Prop := (∃ x, Y 28 n 0 = some x ∧ C1 = u3 C 16 x (C 28 n 1) (C 28 n 2) ∧ Y1 = u3 Y 17 x (C 28 n 1) (Y 28 n 3)) ∨ (Y 28 n 0 = none ∧ ∃ g, Y 28 n 3 = some g ∧ C1 = u3 C 27 g (C 28 n 1) (C 28 n 2) ∧ Y1 = Y) ∨ (Y 28 n 0 = none ∧ Y 28 n 3 = none ∧ C1 = C ∧ Y1 = Y)
def uStM (n : Int) (M M1 : Nat → Int → Int → Int) : Prop := M 40 0 22 = n + 1 ∧ ((M 67 0 n < 0 ∧ M1 = u3 (u3 M 40 0 22 n) 56 0 (5 * M 64 0 n + M 65 0 n) (M 68 0 n)) ∨ (0 ≤ M 67 0 n ∧ M1 = u3 (u3 M 40 0 22 n) 59 0 (12 * M 66 0 n + M 67 0 n) (M 68 0 n)))
def uTrC (N : Int) : Nat → (Nat → Int → Int → Int) → (Nat → Int → Int → Option Int) → (Nat → Int → Int → Int) → (Nat → Int → Int → Option Int) → Prop
  | 0, C, Y, C1, Y1 => C1 = C ∧ Y1 = Y
  | j + 1, C, Y, C1, Y1 => ∃ C' Y', uTrC N j C Y C' Y' ∧ uStC (N - 1 - (j : Int)) C' C1 Y' Y1
def uTrM (N : Int) : Nat → (Nat → Int → Int → Int) → (Nat → Int → Int → Int) → Prop
  | 0, M, M1 => M1 = M
  | j + 1, M, M1 => ∃ M', uTrM N j M M' ∧ uStM (N - 1 - (j : Int)) M' M1
/-- what undoing leaves as it is -/
def uKp (C C1 : Nat → Int → Int → Int) (Y Y1 : Nat → Int → Int → Option Int) (M M1 : Nat → Int → Int → Int) : Prop := C1 28 = C 28 ∧ Y1 28 = Y 28 ∧ KpC C C1 Y Y1 ∧ KpM M M1 ∧ M1 64 = M 64 ∧ M1 65 = M 65 ∧ M1 66 = M 66 ∧ M1 67 = M 67 ∧ M1 68 = M 68 ∧ M1 57 = M 57 ∧ M1 58 = M 58
theorem RB_undo1 {n : Int} (h : RB c C Y ln M) (h0 : 0 ≤ n) (eC : uStC n C C1 Y Y1) (eM : uStM n M M1) (hp : M 67 0 n < 0 → 0 ≤ M 64 0 n ∧ M 64 0 n < M 40 0 13 ∧ 0 ≤ M 65 0 n ∧ M 65 0 n < fcM M (M 64 0 n)) (hi : M 67 0 n < 12) (hf : ∀ y, fcM M y ≤ 5) (hl12 : LnL ln) (hms : ∀ m, 0 ≤ m → m < M 40 0 20 → M 62 0 m ≤ n) : RB c C1 Y1 ln M1 ∧ M1 40 0 22 = n ∧ uKp C C1 Y Y1 M M1 := by
  obtain ⟨h1, h2, h3⟩ := h
  obtain ⟨e0, eM⟩ := eM
  have hnk := h2.2 n h0 (by omega)
  have kk : ∀ {α : Type} (Z : Nat → Int → Int → α) (k k' : Nat) (i j : Int) (v : α), k' ≠ k → u3 Z k i j v k' = Z k' := fun Z k k' i j v hk => u3_k _ _ _ _ hk
  rcases eM with ⟨q67, eM⟩ | ⟨q67, eM⟩
  · obtain ⟨p0, p1, p2, p3⟩ := hp q67
    obtain ⟨t1, t2, t3, t4⟩ := hnk.1 q67
    rcases eC with ⟨x, ex, eC, eY⟩ | ⟨ex, -⟩ | ⟨ex, -⟩
    · rw [t1] at ex
      cases ex
      rw [t2] at eC eY
      have m56 : ∀ j, j ≠ 5 * M 64 0 n + M 65 0 n → M1 56 0 j = M 56 0 j := fun j hj => by rw [eM, u3_j _ _ _ _ hj, u3_k _ _ _ _ (by decide)]
      have m56s : M1 56 0 (5 * M 64 0 n + M 65 0 n) = M 68 0 n := by rw [eM, u3_s]
      have mk : ∀ k' : Nat, k' ≠ 40 → k' ≠ 56 → M1 k' = M k' := fun k' a b => by rw [eM, u3_k _ _ _ _ b, u3_k _ _ _ _ a]
      have m22 : M1 40 0 22 = n := by rw [eM, u3_k _ _ _ _ (by decide), u3_s]
      have m13 : M1 40 0 13 = M 40 0 13 := by rw [eM, u3_k _ _ _ _ (by decide), u3_j _ _ _ _ (by decide)]
      have m20 : M1 40 0 20 = M 40 0 20 := by rw [eM, u3_k _ _ _ _ (by decide), u3_j _ _ _ _ (by decide)]
      have ck : ∀ k' : Nat, k' ≠ 16 → C1 k' = C k' := fun k' a => by rw [eC, u3_k _ _ _ _ a]
      have yk : ∀ k' : Nat, k' ≠ 17 → Y1 k' = Y k' := fun k' a => by rw [eY, u3_k _ _ _ _ a]
      have kM : KpM M M1 := ⟨mk 44 (by decide) (by decide), mk 46 (by decide) (by decide), mk 55 (by decide) (by decide), mk 62 (by decide) (by decide), m13, m20⟩
      have kC : KpC C C1 Y Y1 := ⟨by rw [ck 0 (by decide)], ck 31 (by decide), fun x => by rw [yk 15 (by decide)]⟩
      have hl := kM.lnE
      have hcf := kM.fcE
      refine ⟨⟨⟨by rw [kC.1, m13]; exact h1.1, fun y y0 y1 => ?_⟩, ⟨fun m a b => ?_, fun m a b => ?_⟩, ?_⟩, m22, ck 28 (by decide), yk 28 (by decide), kC, kM, mk 64 (by decide) (by decide), mk 65 (by decide) (by decide), mk 66 (by decide) (by decide), mk 67 (by decide) (by decide), mk 68 (by decide) (by decide), mk 57 (by decide) (by decide), mk 58 (by decide) (by decide)⟩
      · rw [m13] at y1
        obtain ⟨a1, a2⟩ := h1.2 y y0 y1
        rw [kC.2.2, kM.2.2.1, hl, hcf]
        refine ⟨a1, fun j j0 j1 => ?_⟩
        have := hf y
        have := hf (M 64 0 n)
        by_cases e : y = M 64 0 n ∧ j = M 65 0 n
        · obtain ⟨rfl, rfl⟩ := e
          rw [m56s, eC, u3_s, eY, u3_s]
          exact ⟨t3, fun q => (t4 q).1⟩
        · rw [m56 _ (by omega), eC, u3_ij2 e, eY, u3_ij2 e]
          exact a2 j j0 j1
      · rw [m20] at b
        rw [kC.2.1, kM.2.2.2.1, m22]
        obtain ⟨w1, w2, w3⟩ := h2.1 m a b
        exact ⟨w1, hms m a b, w3⟩
      · have h9 := h2.2 m a (by omega)
        unfold nOK at *
        rw [mk 64 (by decide) (by decide), mk 65 (by decide) (by decide), mk 66 (by decide) (by decide), mk 67 (by decide) (by decide), mk 68 (by decide) (by decide), mk 57 (by decide) (by decide), hl, ck 28 (by decide), yk 28 (by decide)]
        exact h9
      · refine rR_sub h3 (Int.le_refl _) (fun g r l hv => ?_) (rR_same h3 (fun g _ _ => by rw [ck 27 (by decide)]) (fun _ _ _ => rfl) (fun g r l _ => ⟨by rw [mk 57 (by decide) (by decide)], by rw [mk 58 (by decide) (by decide)], fun i _ _ => by rw [mk 59 (by decide) (by decide)]⟩) hl12)
        rcases hv with ⟨y, j, y0, y1, j0, j1, jl, l3, jy, jr⟩ | ⟨m, a, b, q, ql, q3, qy, q68⟩ | ⟨m, a, b, q, ql, q3, qy, q66⟩
        · rw [m13] at y1
          rw [hcf] at j1
          rw [hl] at jl
          have := hf y
          have := hf (M 64 0 n)
          by_cases e : y = M 64 0 n ∧ j = M 65 0 n
          · obtain ⟨rfl, rfl⟩ := e
            rw [m56s] at jr
            rw [eY, u3_s] at jy
            exact Or.inr (Or.inl ⟨n, h0, by omega, q67, jl, l3, jy, jr⟩)
          · rw [m56 _ (by omega)] at jr
            rw [eY, u3_ij2 e] at jy
            exact Or.inl ⟨y, j, y0, y1, j0, j1, jl, l3, jy, jr⟩
        · rw [mk 67 (by decide) (by decide)] at q
          rw [mk 64 (by decide) (by decide), mk 65 (by decide) (by decide), hl] at ql
          rw [yk 28 (by decide)] at qy
          rw [mk 68 (by decide) (by decide)] at q68
          exact Or.inr (Or.inl ⟨m, a, by omega, q, ql, q3, qy, q68⟩)
        · rw [mk 67 (by decide) (by decide)] at q
          rw [mk 57 (by decide) (by decide)] at ql
          rw [yk 28 (by decide)] at qy
          rw [mk 66 (by decide) (by decide)] at q66
          exact Or.inr (Or.inr ⟨m, a, by omega, q, ql, q3, qy, q66⟩)
    · rw [t1] at ex
      cases ex
    · rw [t1] at ex
      cases ex
  · obtain ⟨t1, t2, t3, t4, t5⟩ := hnk.2 q67
    rcases eC with ⟨x, ex, -⟩ | ⟨-, g, ex, eC, eY⟩ | ⟨-, ex, -⟩
    · rw [t1] at ex
      cases ex
    · rw [t3, t4] at eC
      have mk : ∀ k' : Nat, k' ≠ 40 → k' ≠ 59 → M1 k' = M k' := fun k' a b => by rw [eM, u3_k _ _ _ _ b, u3_k _ _ _ _ a]
      have m22 : M1 40 0 22 = n := by rw [eM, u3_k _ _ _ _ (by decide), u3_s]
      have m13 : M1 40 0 13 = M 40 0 13 := by rw [eM, u3_k _ _ _ _ (by decide), u3_j _ _ _ _ (by decide)]
      have m20 : M1 40 0 20 = M 40 0 20 := by rw [eM, u3_k _ _ _ _ (by decide), u3_j _ _ _ _ (by decide)]
      have ck : ∀ k' : Nat, k' ≠ 27 → C1 k' = C k' := fun k' a => by rw [eC, u3_k _ _ _ _ a]
      have kM : KpM M M1 := ⟨mk 44 (by decide) (by decide), mk 46 (by decide) (by decide), mk 55 (by decide) (by decide), mk 62 (by decide) (by decide), m13, m20⟩
      have kC : KpC C C1 Y Y1 := ⟨by rw [ck 0 (by decide)], ck 31 (by decide), fun x => by rw [eY]⟩
      have hl := kM.lnE
      have hcf := kM.fcE
      have hL : Lv Y M g (M 66 0 n) (M 57 0 (M 66 0 n)) := Or.inr (Or.inr ⟨n, h0, by omega, q67, rfl, t5, ex, rfl⟩)
      refine ⟨⟨⟨by rw [kC.1, m13]; exact h1.1, fun y y0 y1 => ?_⟩, ⟨fun m a b => ?_, fun m a b => ?_⟩, ?_⟩, m22, ck 28 (by decide), by rw [eY], kC, kM, mk 64 (by decide) (by decide), mk 65 (by decide) (by decide), mk 66 (by decide) (by decide), mk 67 (by decide) (by decide), mk 68 (by decide) (by decide), mk 57 (by decide) (by decide), mk 58 (by decide) (by decide)⟩
      · rw [m13] at y1
        rw [kM.2.2.1, hl, hcf, mk 56 (by decide) (by decide), ck 16 (by decide), eY]
        exact h1.2 y y0 y1
      · rw [m20] at b
        rw [kC.2.1, kM.2.2.2.1, m22]
        obtain ⟨w1, w2, w3⟩ := h2.1 m a b
        exact ⟨w1, hms m a b, w3⟩
      · have h9 := h2.2 m a (by omega)
        unfold nOK at *
        rw [mk 64 (by decide) (by decide), mk 65 (by decide) (by decide), mk 66 (by decide) (by decide), mk 67 (by decide) (by decide), mk 68 (by decide) (by decide), mk 57 (by decide) (by decide), hl, ck 28 (by decide), eY]
        exact h9
      · refine rR_sub h3 (Int.le_refl _) (fun g' r l hv => ?_) (rR_one (w := M 68 0 n) h3 hL ⟨q67, hi⟩ (by rw [eC, u3_s]) (fun y j e => by rw [eC, u3_ij2 e]) (by rw [eM, u3_s]) (fun p e => by rw [eM, u3_j _ _ _ _ e, u3_k _ _ _ _ (by decide)]) (mk 57 (by decide) (by decide)) (mk 58 (by decide) (by decide)) hl12)
        rcases hv with ⟨y, j, y0, y1, j0, j1, jl, l3, jy, jr⟩ | ⟨m, a, b, q, ql, q3, qy, q68⟩ | ⟨m, a, b, q, ql, q3, qy, q66⟩
        · rw [m13] at y1
          rw [hcf] at j1
          rw [hl] at jl
          rw [mk 56 (by decide) (by decide)] at jr
          rw [eY] at jy
          exact Or.inl ⟨y, j, y0, y1, j0, j1, jl, l3, jy, jr⟩
        · rw [mk 67 (by decide) (by decide)] at q
          rw [mk 64 (by decide) (by decide), mk 65 (by decide) (by decide), hl] at ql
          rw [eY] at qy
          rw [mk 68 (by decide) (by decide)] at q68
          exact Or.inr (Or.inl ⟨m, a, by omega, q, ql, q3, qy, q68⟩)
        · rw [mk 67 (by decide) (by decide)] at q
          rw [mk 57 (by decide) (by decide)] at ql
          rw [eY] at qy
          rw [mk 66 (by decide) (by decide)] at q66
          exact Or.inr (Or.inr ⟨m, a, by omega, q, ql, q3, qy, q66⟩)
    · exact absurd ex t2
theorem uKp.rf : uKp C C Y Y M M := ⟨rfl, rfl, ⟨rfl, rfl, fun _ => rfl⟩, ⟨rfl, rfl, rfl, rfl, rfl, rfl⟩, rfl, rfl, rfl, rfl, rfl, rfl, rfl⟩
theorem uKp.tr {C2 M2 : Nat → Int → Int → Int} {Y2 : Nat → Int → Int → Option Int} (h : uKp C C1 Y Y1 M M1) (g : uKp C1 C2 Y1 Y2 M1 M2) : uKp C C2 Y Y2 M M2 := by
  obtain ⟨a1, a2, ⟨a3, a4, a5⟩, ⟨b1, b2, b3, b4, b5, b6⟩, c1, c2, c3, c4, c5, c6, c7⟩ := h
  obtain ⟨d1, d2, ⟨d3, d4, d5⟩, ⟨f1, f2, f3, f4, f5, f6⟩, g1, g2, g3, g4, g5, g6, g7⟩ := g
  exact ⟨d1.trans a1, d2.trans a2, ⟨d3.trans a3, d4.trans a4, fun x => (d5 x).trans (a5 x)⟩, ⟨f1.trans b1, f2.trans b2, f3.trans b3, f4.trans b4, f5.trans b5, f6.trans b6⟩, g1.trans c1, g2.trans c2, g3.trans c3, g4.trans c4, g5.trans c5, g6.trans c6, g7.trans c7⟩
theorem RB_undo {N : Int} (hN : M 40 0 22 = N) (h : RB c C Y ln M) (hp : ∀ n, 0 ≤ n → n < N → M 67 0 n < 12 ∧ (M 67 0 n < 0 → 0 ≤ M 64 0 n ∧ M 64 0 n < M 40 0 13 ∧ 0 ≤ M 65 0 n ∧ M 65 0 n < fcM M (M 64 0 n))) (hf : ∀ y, fcM M y ≤ 5) (hl12 : LnL ln) : ∀ (j : Nat) (C1 M1 : Nat → Int → Int → Int) (Y1 : Nat → Int → Int → Option Int), (j : Int) ≤ N → (∀ m, 0 ≤ m → m < M 40 0 20 → M 62 0 m ≤ N - (j : Int)) → uTrC N j C Y C1 Y1 → uTrM N j M M1 → RB c C1 Y1 ln M1 ∧ M1 40 0 22 = N - (j : Int) ∧ uKp C C1 Y Y1 M M1 := by
  intro j
  induction j with
  | zero =>
    intro C1 M1 Y1 _ _ a b
    obtain ⟨rfl, rfl⟩ := a
    obtain rfl := b
    exact ⟨h, by rw [hN]; simp, uKp.rf⟩
  | succ j ih =>
    intro C1 M1 Y1 hj hst a b
    obtain ⟨C', Y', a1, a2⟩ := a
    obtain ⟨M', b1, b2⟩ := b
    obtain ⟨i1, i2, i3⟩ := ih C' M' Y' (by omega) (fun m m0 m1 => by have := hst m m0 m1; omega) a1 b1
    obtain ⟨k1, k2, kC, kM, k64, k65, k66, k67, k68, k57, k58⟩ := id i3
    have h9 := hp (N - 1 - (j : Int)) (by omega) (by omega)
    rw [← k67, ← k64, ← k65, ← kM.fcE, ← kM.2.2.2.2.1] at h9
    have h8 := RB_undo1 i1 (by omega) a2 b2 h9.2 h9.1 (by rw [kM.fcE]; exact hf) hl12 (fun m m0 m1 => by
      rw [kM.2.2.2.2.2] at m1
      rw [kM.2.2.2.1]
      have := hst m m0 m1
      omega)
    exact ⟨h8.1, by rw [h8.2.1]; omega, i3.tr h8.2.2⟩
/-- a mark more -/
theorem rN_mark (h : rN C Y M) (hn : C 29 0 1 = M 40 0 22) (hm : C 29 0 3 = M 40 0 20) (h28 : ∀ n, C1 28 n 1 = C 28 n 1 ∧ C1 28 n 2 = C 28 n 2) (hs : C1 31 0 (C 29 0 3) = C 29 0 1) (ho : ∀ j, j ≠ C 29 0 3 → C1 31 0 j = C 31 0 j) (ms : M1 62 0 (M 40 0 20) = M 40 0 22) (mo : ∀ j, j ≠ M 40 0 20 → M1 62 0 j = M 62 0 j) (m20 : M1 40 0 20 = M 40 0 20 + 1) (m22 : M1 40 0 22 = M 40 0 22) (hl : lnM M1 = lnM M) (hk : ∀ k ∈ [57, 64, 65, 66, 67, 68], M1 k = M k) : rN C1 Y M1 := by
  refine ⟨fun m a b => ?_, fun n a b => ?_⟩
  · by_cases e : m = M 40 0 20
    · rw [e, ms, m22, ← hm, hs]
      refine ⟨hn, Int.le_refl _, fun m' a' b' => ?_⟩
      rw [hm] at b'
      by_cases e' : m' = M 40 0 20
      · rw [e', ms]
        exact Int.le_refl _
      · rw [mo m' e']
        exact (h.1 m' a' (by omega)).2.1
    · rw [mo m e, ho m (by rw [hm]; exact e), m22]
      obtain ⟨q1, q2, q3⟩ := h.1 m a (by omega)
      exact ⟨q1, q2, fun m' a' b' => by rw [mo m' (by omega)]; exact q3 m' a' b'⟩
  · have h9 := h.2 n a (by omega)
    unfold nOK at *
    rw [hk 64 (by decide), hk 65 (by decide), hk 66 (by decide), hk 67 (by decide), hk 68 (by decide), hk 57 (by decide), hl, (h28 n).1, (h28 n).2]
    exact h9
end RO
