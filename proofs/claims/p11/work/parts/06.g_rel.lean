/-! class and reference in full: C, Y, ln, c (how many rows there are) of the class, M of the reference -/
def lnM (M : Nat → Int → Int → Int) (x k : Int) : Int := M 46 0 (5 * M 55 0 x + k)
def fcM (M : Nat → Int → Int → Int) (x : Int) : Int := M 44 0 (M 55 0 x)
def LvF (Y : Nat → Int → Int → Option Int) (M : Nat → Int → Int → Int) (g r l : Int) : Prop := ∃ x k, 0 ≤ x ∧ x < M 40 0 13 ∧ 0 ≤ k ∧ k < fcM M x ∧ lnM M x k = l ∧ 3 ≤ l ∧ Y 17 x k = some g ∧ M 56 0 (5 * x + k) = r
def LvN (Y : Nat → Int → Int → Option Int) (M : Nat → Int → Int → Int) (g r l : Int) : Prop := ∃ n, 0 ≤ n ∧ n < M 40 0 22 ∧ M 67 0 n < 0 ∧ lnM M (M 64 0 n) (M 65 0 n) = l ∧ 3 ≤ l ∧ Y 28 n 3 = some g ∧ M 68 0 n = r
def LvI (Y : Nat → Int → Int → Option Int) (M : Nat → Int → Int → Int) (g r l : Int) : Prop := ∃ n, 0 ≤ n ∧ n < M 40 0 22 ∧ 0 ≤ M 67 0 n ∧ M 57 0 r = l ∧ 3 ≤ l ∧ Y 28 n 3 = some g ∧ M 66 0 n = r
def Lv (Y : Nat → Int → Int → Option Int) (M : Nat → Int → Int → Int) (g r l : Int) : Prop := LvF Y M g r l ∨ LvN Y M g r l ∨ LvI Y M g r l
def rH (C : Nat → Int → Int → Int) (Y : Nat → Int → Int → Option Int) (M : Nat → Int → Int → Int) : Prop := C 0 0 3 = M 40 0 13 ∧ ∀ x, 0 ≤ x → x < M 40 0 13 → Y 15 x 0 = some (M 55 0 x) ∧ ∀ k, 0 ≤ k → k < fcM M x → (lnM M x k < 3 → C 16 x k = M 56 0 (5 * x + k)) ∧ (3 ≤ lnM M x k → (Y 17 x k = none ↔ M 56 0 (5 * x + k) < 0))
def nOK (C : Nat → Int → Int → Int) (Y : Nat → Int → Int → Option Int) (M : Nat → Int → Int → Int) (n : Int) : Prop := (M 67 0 n < 0 → Y 28 n 0 = some (M 64 0 n) ∧ C 28 n 1 = M 65 0 n ∧ (lnM M (M 64 0 n) (M 65 0 n) < 3 → C 28 n 2 = M 68 0 n) ∧ (3 ≤ lnM M (M 64 0 n) (M 65 0 n) → (Y 28 n 3 = none ↔ M 68 0 n < 0) ∧ M 66 0 n = M 68 0 n)) ∧ (0 ≤ M 67 0 n → Y 28 n 0 = none ∧ Y 28 n 3 ≠ none ∧ C 28 n 1 = M 67 0 n ∧ C 28 n 2 = M 68 0 n ∧ 3 ≤ M 57 0 (M 66 0 n))
def rN (C : Nat → Int → Int → Int) (Y : Nat → Int → Int → Option Int) (M : Nat → Int → Int → Int) : Prop := (∀ m, 0 ≤ m → m < M 40 0 20 → C 31 0 m = M 62 0 m ∧ M 62 0 m ≤ M 40 0 22 ∧ ∀ m', 0 ≤ m' → m' ≤ m → M 62 0 m' ≤ M 62 0 m) ∧ ∀ n, 0 ≤ n → n < M 40 0 22 → nOK C Y M n
def rR (c : Int) (C : Nat → Int → Int → Int) (Y : Nat → Int → Int → Option Int) (ln : Int → Int) (M : Nat → Int → Int → Int) : Prop := (∀ g r l, Lv Y M g r l → 0 ≤ g ∧ g < c ∧ 0 ≤ r ∧ r ≤ 399 ∧ M 57 0 r = l ∧ ln g = M 58 0 r ∧ ∀ i, 0 ≤ i → i < ln g → C 27 g i = M 59 0 (12 * r + i)) ∧ ∀ g r l g' r' l', Lv Y M g r l → Lv Y M g' r' l' → (g = g' ↔ r = r')
def RB (c : Int) (C : Nat → Int → Int → Int) (Y : Nat → Int → Int → Option Int) (ln : Int → Int) (M : Nat → Int → Int → Int) : Prop := rH C Y M ∧ rN C Y M ∧ rR c C Y ln M
/-! what a change leaves as it is -/
def LnL (ln : Int → Int) : Prop := ∀ i, 0 ≤ ln i ∧ ln i ≤ 12
def KpC (C C1 : Nat → Int → Int → Int) (Y Y1 : Nat → Int → Int → Option Int) : Prop := C1 0 0 3 = C 0 0 3 ∧ C1 31 = C 31 ∧ ∀ x, Y1 15 x 0 = Y 15 x 0
def KpM (M M1 : Nat → Int → Int → Int) : Prop := M1 44 = M 44 ∧ M1 46 = M 46 ∧ M1 55 = M 55 ∧ M1 62 = M 62 ∧ M1 40 0 13 = M 40 0 13 ∧ M1 40 0 20 = M 40 0 20
section RL
variable {C C1 M M1 : Nat → Int → Int → Int} {Y Y1 : Nat → Int → Int → Option Int} {ln ln1 : Int → Int} {c c1 : Int}
theorem Frm.fn {α : Type} {L : List Nat} {X X1 : Nat → Int → Int → α} (h : Frm L X X1) (κ : Nat) (hd : ∀ j, fcode κ j ∉ L) : X1 κ = X κ := funext fun i => funext fun j => h κ i j (hd j)
theorem fc_a (κ : Nat) (h : (lay κ).1 = 0) (j : Int) : fcode κ j = κ * 100 := by
  unfold fcode
  rw [if_pos h]
theorem Frm.arr {α : Type} {L : List Nat} {X X1 : Nat → Int → Int → α} (h : Frm L X X1) (κ : Nat) (h0 : (lay κ).1 = 0) (hd : κ * 100 ∉ L) : X1 κ = X κ := h.fn κ (fun j => by rw [fc_a κ h0]; exact hd)
theorem KpM.of {L : List Nat} (h : Frm L M M1) (hd : ∀ q ∈ [4400, 4600, 5500, 6200, 4014, 4021], q ∉ L) : KpM M M1 :=
  ⟨h.arr 44 (by decide +kernel) (hd 4400 (by decide)), h.arr 46 (by decide +kernel) (hd 4600 (by decide)), h.arr 55 (by decide +kernel) (hd 5500 (by decide)), h.arr 62 (by decide +kernel) (hd 6200 (by decide)), h 40 0 13 (hd 4014 (by decide)), h 40 0 20 (hd 4021 (by decide))⟩
theorem KpC.of {L N : List Nat} (h : Frm L C C1) (g : Frm N Y Y1) (hd : ∀ q ∈ [4, 3100], q ∉ L) (he : 1501 ∉ N) : KpC C C1 Y Y1 :=
  ⟨h 0 0 3 (hd 4 (by decide)), h.arr 31 (by decide +kernel) (hd 3100 (by decide)), fun x => g 15 x 0 he⟩
theorem KpM.lnE (h : KpM M M1) : lnM M1 = lnM M := by
  funext x k
  simp only [lnM, h.2.1, h.2.2.1]
theorem KpM.fcE (h : KpM M M1) : fcM M1 = fcM M := by
  funext x
  simp only [fcM, h.1, h.2.2.1]
theorem rR_sub (h : rR c C Y ln M) (hc : c ≤ c1) (hs : ∀ g r l, Lv Y1 M1 g r l → Lv Y M g r l) (hk : ∀ g r l, Lv Y M g r l → M1 57 0 r = l ∧ ln1 g = M1 58 0 r ∧ ∀ i, 0 ≤ i → i < ln1 g → C1 27 g i = M1 59 0 (12 * r + i)) : rR c1 C1 Y1 ln1 M1 := by
  refine ⟨fun g r l hl => ?_, fun g r l g' r' l' h1 h2 => h.2 _ _ _ _ _ _ (hs _ _ _ h1) (hs _ _ _ h2)⟩
  have h1 := hs g r l hl
  obtain ⟨a1, a2, a3, a4, -⟩ := h.1 g r l h1
  obtain ⟨b1, b2, b3⟩ := hk g r l h1
  exact ⟨a1, by omega, a3, a4, b1, b2, b3⟩
theorem rR_new {g0 r0 l0 : Int} (h : rR c C Y ln M) (hc : c ≤ c1) (hs : ∀ g r l, Lv Y1 M1 g r l → Lv Y M g r l ∨ (g = g0 ∧ r = r0 ∧ l = l0)) (hk : ∀ g r l, Lv Y M g r l → M1 57 0 r = l ∧ ln1 g = M1 58 0 r ∧ ∀ i, 0 ≤ i → i < ln1 g → C1 27 g i = M1 59 0 (12 * r + i))
    (hg : 0 ≤ g0 ∧ c ≤ g0 ∧ g0 < c1) (hr : 0 ≤ r0 ∧ r0 ≤ 399) (hfr : ∀ g r l, Lv Y M g r l → r ≠ r0) (hn : M1 57 0 r0 = l0 ∧ ln1 g0 = M1 58 0 r0 ∧ ∀ i, 0 ≤ i → i < ln1 g0 → C1 27 g0 i = M1 59 0 (12 * r0 + i)) : rR c1 C1 Y1 ln1 M1 := by
  refine ⟨fun g r l hl => ?_, fun g r l g' r' l' h1 h2 => ?_⟩
  · rcases hs g r l hl with h1 | ⟨rfl, rfl, rfl⟩
    · obtain ⟨a1, a2, a3, a4, -⟩ := h.1 g r l h1
      obtain ⟨b1, b2, b3⟩ := hk g r l h1
      exact ⟨a1, by omega, a3, a4, b1, b2, b3⟩
    · exact ⟨hg.1, hg.2.2, hr.1, hr.2, hn.1, hn.2.1, hn.2.2⟩
  · rcases hs g r l h1 with a | ⟨rfl, rfl, rfl⟩ <;> rcases hs g' r' l' h2 with b | ⟨rfl, rfl, rfl⟩
    · exact h.2 _ _ _ _ _ _ a b
    · have a2 := (h.1 g r l a).2.1
      have a3 := hfr g r l a
      exact ⟨fun q => by omega, fun q => absurd q a3⟩
    · have a2 := (h.1 g' r' l' b).2.1
      have a3 := hfr g' r' l' b
      exact ⟨fun q => by omega, fun q => absurd q.symm a3⟩
    · exact ⟨fun _ => rfl, fun _ => rfl⟩
/-- rows as they are: what hk of the two lemmas wants, where nothing of a row changed -/
theorem rR_same (h : rR c C Y ln M) (h27 : ∀ g, 0 ≤ g → g < c → C1 27 g = C 27 g) (hln : ∀ g, 0 ≤ g → g < c → ln1 g = ln g) (hm : ∀ g r l, Lv Y M g r l → M1 57 0 r = M 57 0 r ∧ M1 58 0 r = M 58 0 r ∧ ∀ i, 0 ≤ i → i < 12 → M1 59 0 (12 * r + i) = M 59 0 (12 * r + i)) (hl12 : LnL ln) : ∀ g r l, Lv Y M g r l → M1 57 0 r = l ∧ ln1 g = M1 58 0 r ∧ ∀ i, 0 ≤ i → i < ln1 g → C1 27 g i = M1 59 0 (12 * r + i) := by
  intro g r l hv
  obtain ⟨a1, a2, a3, a4, a5, a6, a7⟩ := h.1 g r l hv
  obtain ⟨b1, b2, b3⟩ := hm g r l hv
  rw [hln g a1 a2, h27 g a1 a2]
  refine ⟨by rw [b1]; exact a5, by rw [b2]; exact a6, fun i i0 i1 => ?_⟩
  have := hl12 g
  rw [b3 i i0 (by omega)]
  exact a7 i i0 i1
/-! notes -/
theorem rN_note {x k v ws rw : Int} {ro : Option Int} (h : rN C Y M) (hn : C 29 0 1 = M 40 0 22) (hm : C 29 0 3 = M 40 0 20) (eC : eNoteC C C1 Y Y1 (some x) k v ro) (eM : eNoteM M M1 x k rw (-1) ws) (hl : lnM M1 = lnM M) (h31 : C1 31 = C 31) (h62 : M1 62 = M 62) (h20 : M1 40 0 20 = M 40 0 20) (h57 : ∀ n, 0 ≤ n → n < M 40 0 22 → 0 ≤ M 67 0 n → M1 57 0 (M 66 0 n) = M 57 0 (M 66 0 n)) (hv : lnM M x k < 3 → v = ws) (hr : 3 ≤ lnM M x k → (ro = none ↔ ws < 0) ∧ rw = ws) : rN C1 Y1 M1 ∧ C1 29 0 1 = M1 40 0 22 := by
  obtain ⟨n2, n3⟩ := h
  have hge : M 40 0 22 ≤ M1 40 0 22 := by rcases eM with ⟨-, d1, -⟩ | ⟨-, d1, -⟩ <;> omega
  refine ⟨⟨fun m a b => by
    obtain ⟨q1, q2, q3⟩ := n2 m a (by rw [← h20]; exact b)
    rw [h31, h62]
    exact ⟨q1, by omega, q3⟩, fun n a b => ?_⟩, ?_⟩
  · rcases eC with ⟨c0, c1, c2, c3⟩ | ⟨c0, c1, c2, c3⟩
    · rcases eM with ⟨d0, d1, d2⟩ | ⟨d0, d1, -⟩
      · have h9 := n3 n a (by omega)
        obtain ⟨e1, e2, e3, e4, e5⟩ := d2 n
        have h8 := h57 n a (by omega)
        unfold nOK at *
        rw [e1, e2, e3, e4, e5, hl, c2, c3]
        exact ⟨h9.1, fun q => by rw [h8 q]; exact h9.2 q⟩
      · omega
    · rcases eM with ⟨d0, -⟩ | ⟨d0, d1, d2, d3⟩
      · omega
      · by_cases hn9 : n = M 40 0 22
        · obtain ⟨e1, e2, e3, e4, e5⟩ := d2
          obtain ⟨f1, f2, f3, f4⟩ := c2
          rw [hn] at f1 f2 f3 f4
          subst hn9
          unfold nOK
          rw [e1, e2, e3, e4, e5, f1, f2, f3, f4, hl]
          exact ⟨fun _ => ⟨rfl, rfl, hv, hr⟩, fun q => by omega⟩
        · have h9 := n3 n a (by omega)
          have h8 := h57 n a (by omega)
          obtain ⟨e1, e2, e3, e4, e5⟩ := d3 n hn9
          obtain ⟨f1, f2⟩ := c3 n (by rw [hn]; exact hn9)
          unfold nOK at *
          rw [e1, e2, e3, e4, e5, hl, f1 1, f1 2, f2 0, f2 3]
          exact ⟨h9.1, fun q => by rw [h8 q]; exact h9.2 q⟩
  · rcases eC with ⟨c0, c1, -, -⟩ | ⟨c0, c1, -, -⟩ <;> rcases eM with ⟨d0, d1, -⟩ | ⟨d0, d1, -⟩ <;> omega
/-- the rows of the notes: those of before, or the row that stood at the place -/
theorem Lv_note {x k v rw : Int} (hn : C 29 0 1 = M 40 0 22) (hm : C 29 0 3 = M 40 0 20) (eC : eNoteC C C1 Y Y1 (some x) k v (Y 17 x k)) (eM : eNoteM M M1 x k rw (-1) (M 56 0 (5 * x + k))) (hl : lnM M1 = lnM M) (h57 : ∀ n, 0 ≤ n → n < M 40 0 22 → 0 ≤ M 67 0 n → M1 57 0 (M 66 0 n) = M 57 0 (M 66 0 n)) (hp : 0 ≤ x ∧ x < M 40 0 13 ∧ 0 ≤ k ∧ k < fcM M x) (g r l : Int) (hv : LvN Y1 M1 g r l ∨ LvI Y1 M1 g r l) : Lv Y M g r l := by
  rcases hv with ⟨n, a, b, q67, ql, q3, qy, q68⟩ | ⟨n, a, b, q67, ql, q3, qy, q66⟩
  · rcases eC with ⟨c0, c1, c2, c3⟩ | ⟨c0, c1, c2, c3⟩
    · rcases eM with ⟨d0, d1, d2⟩ | ⟨d0, d1, -⟩
      · obtain ⟨e1, e2, e3, e4, e5⟩ := d2 n
        rw [e1, e2, hl] at ql
        rw [e4] at q67
        rw [c3] at qy
        rw [e5] at q68
        exact Or.inr (Or.inl ⟨n, a, by omega, q67, ql, q3, qy, q68⟩)
      · omega
    · rcases eM with ⟨d0, -⟩ | ⟨d0, d1, d2, d3⟩
      · omega
      · by_cases hn9 : n = M 40 0 22
        · obtain ⟨e1, e2, e3, e4, e5⟩ := d2
          obtain ⟨f1, f2, f3, f4⟩ := c2
          rw [hn] at f4
          subst hn9
          rw [e1, e2, hl] at ql
          rw [e5] at q68
          rw [f4] at qy
          exact Or.inl ⟨x, k, hp.1, hp.2.1, hp.2.2.1, hp.2.2.2, ql, q3, qy, q68⟩
        · obtain ⟨e1, e2, e3, e4, e5⟩ := d3 n hn9
          obtain ⟨f1, f2⟩ := c3 n (by rw [hn]; exact hn9)
          rw [e1, e2, hl] at ql
          rw [e4] at q67
          rw [f2] at qy
          rw [e5] at q68
          exact Or.inr (Or.inl ⟨n, a, by omega, q67, ql, q3, qy, q68⟩)
  · rcases eC with ⟨c0, c1, c2, c3⟩ | ⟨c0, c1, c2, c3⟩
    · rcases eM with ⟨d0, d1, d2⟩ | ⟨d0, d1, -⟩
      · obtain ⟨e1, e2, e3, e4, e5⟩ := d2 n
        rw [e3] at q66
        rw [e4] at q67
        rw [c3] at qy
        have h8 := h57 n a (by omega) q67
        rw [q66] at h8
        exact Or.inr (Or.inr ⟨n, a, by omega, q67, by rw [← h8]; exact ql, q3, qy, q66⟩)
      · omega
    · rcases eM with ⟨d0, -⟩ | ⟨d0, d1, d2, d3⟩
      · omega
      · by_cases hn9 : n = M 40 0 22
        · obtain ⟨e1, e2, e3, e4, e5⟩ := d2
          subst hn9
          omega
        · obtain ⟨e1, e2, e3, e4, e5⟩ := d3 n hn9
          obtain ⟨f1, f2⟩ := c3 n (by rw [hn]; exact hn9)
          rw [e3] at q66
          rw [e4] at q67
          rw [f2] at qy
          have h8 := h57 n a (by omega) q67
          rw [q66] at h8
          exact Or.inr (Or.inr ⟨n, a, by omega, q67, by rw [← h8]; exact ql, q3, qy, q66⟩)
/-- a value changes that is no row -/
theorem RB_val {x k v rw : Int} (h : RB c C Y ln M) (hn : C 29 0 1 = M 40 0 22) (hm : C 29 0 3 = M 40 0 20) (kC : KpC C C1 Y Y1) (kM : KpM M M1) (hf : ∀ y, fcM M y ≤ 5) (hp : 0 ≤ x ∧ x < M 40 0 13 ∧ 0 ≤ k ∧ k < fcM M x) (hl3 : lnM M x k < 3)
    (eC : eNoteC C C1 Y Y1 (some x) k (C 16 x k) (Y 17 x k)) (hv : C1 16 x k = v) (ho : ∀ y j, ¬ (y = x ∧ j = k) → C1 16 y j = C 16 y j) (h17 : ∀ y j, Y1 17 y j = Y 17 y j) (h27 : C1 27 = C 27)
    (eM : eNoteM M M1 x k rw (-1) (M 56 0 (5 * x + k))) (hv2 : M1 56 0 (5 * x + k) = v) (ho2 : ∀ p, p ≠ 5 * x + k → M1 56 0 p = M 56 0 p) (h57 : M1 57 = M 57) (h58 : M1 58 = M 58) (h59 : M1 59 = M 59) (hl12 : LnL ln) : RB c C1 Y1 ln M1 ∧ C1 29 0 1 = M1 40 0 22 := by
  obtain ⟨h1, h2, h3⟩ := h
  have hl := kM.lnE
  have hc := kM.fcE
  obtain ⟨-, -, k55, k62, k13, k20⟩ := id kM
  obtain ⟨kc3, k31, k15⟩ := kC
  have hq := (h1.2 x hp.1 hp.2.1).2 k hp.2.2.1 hp.2.2.2
  have h57' : ∀ n, 0 ≤ n → n < M 40 0 22 → 0 ≤ M 67 0 n → M1 57 0 (M 66 0 n) = M 57 0 (M 66 0 n) := fun n _ _ _ => by rw [h57]
  have hN := rN_note h2 hn hm eC eM hl k31 k62 k20 h57' (fun q => hq.1 q) (fun q => by omega)
  refine ⟨⟨⟨by rw [kc3, k13]; exact h1.1, fun y y0 y1 => ?_⟩, hN.1, ?_⟩, hN.2⟩
  · rw [k13] at y1
    obtain ⟨a1, a2⟩ := h1.2 y y0 y1
    rw [k15, k55, hl, hc]
    refine ⟨a1, fun j j0 j1 => ?_⟩
    obtain ⟨b1, b2⟩ := a2 j j0 j1
    have := hf y
    have := hf x
    rw [h17]
    by_cases e : y = x ∧ j = k
    · obtain ⟨rfl, rfl⟩ := e
      exact ⟨fun _ => by rw [hv, hv2], fun q => by omega⟩
    · rw [ho y j e, ho2 _ (by omega)]
      exact ⟨b1, b2⟩
  · refine rR_sub h3 (Int.le_refl _) (fun g r l hg => ?_) (rR_same h3 (fun g _ _ => by rw [h27]) (fun _ _ _ => rfl) (fun g r l _ => ⟨by rw [h57], by rw [h58], fun i _ _ => by rw [h59]⟩) hl12)
    rcases hg with ⟨y, j, y0, y1, j0, j1, jl, l3, jy, jr⟩ | hg
    · rw [k13] at y1
      rw [hc] at j1
      rw [hl] at jl
      rw [h17] at jy
      have := hf y
      have := hf x
      have e : ¬ (y = x ∧ j = k) := fun e => by
        obtain ⟨rfl, rfl⟩ := e
        omega
      rw [ho2 _ (by omega)] at jr
      exact Or.inl ⟨y, j, y0, y1, j0, j1, jl, l3, jy, jr⟩
    · exact Lv_note hn hm eC eM hl h57' hp g r l hg
/-- a row comes to a place of rows: one that lived, a new one, or none -/
theorem RB_row {x k v c1 g0 r0 : Int} {ro : Option Int} (h : RB c C Y ln M) (hn : C 29 0 1 = M 40 0 22) (hm : C 29 0 3 = M 40 0 20) (kC : KpC C C1 Y Y1) (kM : KpM M M1) (hf : ∀ y, fcM M y ≤ 5) (hp : 0 ≤ x ∧ x < M 40 0 13 ∧ 0 ≤ k ∧ k < fcM M x) (hl3 : 3 ≤ lnM M x k)
    (eC : eNoteC C C1 Y Y1 (some x) k v (Y 17 x k)) (hv : Y1 17 x k = ro) (ho : ∀ y j, ¬ (y = x ∧ j = k) → Y1 17 y j = Y 17 y j) (h16 : ∀ y j, C1 16 y j = C 16 y j)
    (eM : eNoteM M M1 x k (M 56 0 (5 * x + k)) (-1) (M 56 0 (5 * x + k))) (hv2 : M1 56 0 (5 * x + k) = r0) (ho2 : ∀ p, p ≠ 5 * x + k → M1 56 0 p = M 56 0 p) (hnone : ro = none ↔ r0 < 0)
    (hc : 0 ≤ c ∧ c ≤ c1) (hkp : ∀ g r l, Lv Y M g r l → M1 57 0 r = l ∧ ln1 g = M1 58 0 r ∧ ∀ i, 0 ≤ i → i < ln1 g → C1 27 g i = M1 59 0 (12 * r + i)) (h57' : ∀ n, 0 ≤ n → n < M 40 0 22 → 0 ≤ M 67 0 n → M1 57 0 (M 66 0 n) = M 57 0 (M 66 0 n))
    (hcase : ro = none ∨ (ro = some g0 ∧ Lv Y M g0 r0 (lnM M x k)) ∨ (ro = some g0 ∧ (c ≤ g0 ∧ g0 < c1) ∧ (0 ≤ r0 ∧ r0 ≤ 399) ∧ (∀ g r l, Lv Y M g r l → r ≠ r0) ∧ M1 57 0 r0 = lnM M x k ∧ ln1 g0 = M1 58 0 r0 ∧ ∀ i, 0 ≤ i → i < ln1 g0 → C1 27 g0 i = M1 59 0 (12 * r0 + i))) : RB c1 C1 Y1 ln1 M1 ∧ C1 29 0 1 = M1 40 0 22 := by
  obtain ⟨h1, h2, h3⟩ := h
  have hl := kM.lnE
  have hcf := kM.fcE
  obtain ⟨-, -, k55, k62, k13, k20⟩ := id kM
  obtain ⟨kc3, k31, k15⟩ := kC
  have hq := (h1.2 x hp.1 hp.2.1).2 k hp.2.2.1 hp.2.2.2
  have hN := rN_note h2 hn hm eC eM hl k31 k62 k20 h57' (fun q => by omega) (fun q => ⟨hq.2 q, rfl⟩)
  have hsub : ∀ g r l, Lv Y1 M1 g r l → Lv Y M g r l ∨ (ro = some g ∧ r = r0 ∧ l = lnM M x k) := by
    intro g r l hg
    rcases hg with ⟨y, j, y0, y1, j0, j1, jl, l3, jy, jr⟩ | hg
    · rw [k13] at y1
      rw [hcf] at j1
      rw [hl] at jl
      have := hf y
      have := hf x
      by_cases e : y = x ∧ j = k
      · obtain ⟨rfl, rfl⟩ := e
        exact Or.inr ⟨by rw [← hv]; exact jy, by rw [← hv2]; exact jr.symm, jl.symm⟩
      · rw [ho y j e] at jy
        rw [ho2 _ (by omega)] at jr
        exact Or.inl (Or.inl ⟨y, j, y0, y1, j0, j1, jl, l3, jy, jr⟩)
    · exact Or.inl (Lv_note hn hm eC eM hl h57' hp g r l hg)
  refine ⟨⟨⟨by rw [kc3, k13]; exact h1.1, fun y y0 y1 => ?_⟩, hN.1, ?_⟩, hN.2⟩
  · rw [k13] at y1
    obtain ⟨a1, a2⟩ := h1.2 y y0 y1
    rw [k15, k55, hl, hcf]
    refine ⟨a1, fun j j0 j1 => ?_⟩
    obtain ⟨b1, b2⟩ := a2 j j0 j1
    have := hf y
    have := hf x
    rw [h16]
    by_cases e : y = x ∧ j = k
    · obtain ⟨rfl, rfl⟩ := e
      exact ⟨fun q => by omega, fun _ => by rw [hv, hv2]; exact hnone⟩
    · rw [ho y j e, ho2 _ (by omega)]
      exact ⟨b1, b2⟩
  · rcases hcase with e | ⟨e, hL⟩ | ⟨e, hg0, hr0, hfr, hn1, hn2, hn3⟩
    · refine rR_sub h3 hc.2 (fun g r l hg => ?_) hkp
      rcases hsub g r l hg with q | ⟨q, -, -⟩
      · exact q
      · rw [e] at q
        cases q
    · refine rR_sub h3 hc.2 (fun g r l hg => ?_) hkp
      rcases hsub g r l hg with q | ⟨q, q1, q2⟩
      · exact q
      · rw [e] at q
        cases q
        rw [q1, q2]
        exact hL
    · refine rR_new (g0 := g0) (r0 := r0) (l0 := lnM M x k) h3 hc.2 (fun g r l hg => ?_) hkp ⟨by omega, hg0.1, hg0.2⟩ hr0 hfr ⟨hn1, hn2, hn3⟩
      rcases hsub g r l hg with q | ⟨q, q1, q2⟩
      · exact Or.inl q
      · rw [e] at q
        cases q
        exact Or.inr ⟨rfl, q1, q2⟩
end RL
