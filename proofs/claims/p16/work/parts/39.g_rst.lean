/-! putting back, both sides -/
section PB
variable {A B C C1 M M1 : Nat → Int → Int → Int} {Y Y1 YA : Nat → Int → Int → Option Int} {ln ln1 : Int → Int} {c c1 sv g bs rule : Int}
/-- a value comes to a place, no note of it -/
theorem RB_putv {x k v : Int} (h : RB c C Y ln M) (hf : ∀ y, fcM M y ≤ 5) (hp : 0 ≤ x ∧ x < M 40 0 13 ∧ 0 ≤ k ∧ k < fcM M x) (hl3 : lnM M x k < 3) (hl12 : LnL ln) : RB c (u3 C 16 x k v) Y ln (u3 M 56 0 (5 * x + k) v) := by
  have eM : ∀ κ, κ ≠ 56 → u3 M 56 0 (5 * x + k) v κ = M κ := fun κ hκ => u3_k _ _ _ _ hκ
  have eC : ∀ κ, κ ≠ 16 → u3 C 16 x k v κ = C κ := fun κ hκ => u3_k _ _ _ _ hκ
  have hl : lnM (u3 M 56 0 (5 * x + k) v) = lnM M := by
    funext a b
    unfold lnM
    rw [eM 46 (by decide), eM 55 (by decide)]
  have hcf : fcM (u3 M 56 0 (5 * x + k) v) = fcM M := by
    funext a
    unfold fcM
    rw [eM 44 (by decide), eM 55 (by decide)]
  have e13 : u3 M 56 0 (5 * x + k) v 40 0 13 = M 40 0 13 := by rw [eM 40 (by decide)]
  refine RB_of h ⟨eC 28 (by decide), rfl, eC 31 (by decide), eC 27 (by decide), fun q hq => eM q (by simp only [List.mem_cons, List.not_mem_nil, or_false] at hq; omega), by rw [eM 40 (by decide)], by rw [eM 40 (by decide)]⟩ (Int.le_refl _) (fun _ _ _ => rfl) hl12 (fun n _ _ _ => by rw [hl]) ⟨by rw [eC 0 (by decide), e13]; exact h.1.1, fun y y0 y1 => ?_⟩ (fun g r l q => ?_)
  · rw [e13] at y1
    obtain ⟨a1, a2⟩ := h.1.2 y y0 y1
    rw [eM 55 (by decide), hcf, hl]
    refine ⟨a1, fun j j0 j1 => ?_⟩
    obtain ⟨b1, b2⟩ := a2 j j0 j1
    have := hf y
    have := hf x
    by_cases e : y = x ∧ j = k
    · obtain ⟨rfl, rfl⟩ := e
      rw [u3_s, u3_s]
      exact ⟨fun _ => rfl, fun q => by omega⟩
    · rw [u3_ij2 e, u3_at (fun w => e (by omega))]
      exact ⟨b1, b2⟩
  · obtain ⟨y, j, y0, y1, j0, j1, jl, l3, jy, jr⟩ := q
    rw [e13] at y1
    rw [hcf] at j1
    rw [hl] at jl
    have := hf y
    have := hf x
    have e : ¬ (y = x ∧ j = k) := fun e => by
      obtain ⟨rfl, rfl⟩ := e
      omega
    rw [u3_at (fun w => e (by omega))] at jr
    exact Or.inl ⟨y, j, y0, y1, j0, j1, jl, l3, jy, jr⟩
/-- a row comes to a place, no note of it -/
theorem RB_putr {x k g0 r0 : Int} {ro : Option Int} (h : RB c C Y ln M) (kC : KpC C C1 Y Y1) (h28 : ∀ n, C1 28 n 1 = C 28 n 1 ∧ C1 28 n 2 = C 28 n 2) (y28 : Y1 28 = Y 28) (kM : KpM M M1) (k22 : M1 40 0 22 = M 40 0 22) (kk : ∀ q ∈ [64, 65, 66, 67, 68], M1 q = M q) (hf : ∀ y, fcM M y ≤ 5) (hp : 0 ≤ x ∧ x < M 40 0 13 ∧ 0 ≤ k ∧ k < fcM M x) (hl3 : 3 ≤ lnM M x k)
    (hv : Y1 17 x k = ro) (ho : ∀ y j, ¬ (y = x ∧ j = k) → Y1 17 y j = Y 17 y j) (h16 : ∀ y j, C1 16 y j = C 16 y j) (hv2 : M1 56 0 (5 * x + k) = r0) (ho2 : ∀ p, p ≠ 5 * x + k → M1 56 0 p = M 56 0 p) (hnone : ro = none ↔ r0 < 0)
    (hc : 0 ≤ c ∧ c ≤ c1) (hkp : ∀ g r l, Lv Y M g r l → M1 57 0 r = l ∧ ln1 g = M1 58 0 r ∧ ∀ i, 0 ≤ i → i < ln1 g → C1 27 g i = M1 59 0 (12 * r + i)) (h57' : ∀ n, 0 ≤ n → n < M 40 0 22 → 0 ≤ M 67 0 n → M1 57 0 (M 66 0 n) = M 57 0 (M 66 0 n))
    (hcase : ro = none ∨ (ro = some g0 ∧ Lv Y M g0 r0 (lnM M x k)) ∨ (ro = some g0 ∧ (c ≤ g0 ∧ g0 < c1) ∧ (0 ≤ r0 ∧ r0 ≤ 399) ∧ (∀ g r l, Lv Y M g r l → r ≠ r0) ∧ M1 57 0 r0 = lnM M x k ∧ ln1 g0 = M1 58 0 r0 ∧ ∀ i, 0 ≤ i → i < ln1 g0 → C1 27 g0 i = M1 59 0 (12 * r0 + i))) : RB c1 C1 Y1 ln1 M1 := by
  obtain ⟨h1, h2, h3⟩ := h
  have hl := kM.lnE
  have hcf := kM.fcE
  obtain ⟨-, -, k55, k62, k13, k20⟩ := id kM
  obtain ⟨kc3, k31, k15⟩ := kC
  have hN : rN C1 Y1 M1 := ⟨fun m a b => by
      obtain ⟨q1, q2, q3⟩ := h2.1 m a (by rw [← k20]; exact b)
      rw [k31, k62, k22]
      exact ⟨q1, q2, q3⟩, fun n a b => by
      have h9 := h2.2 n a (by rw [← k22]; exact b)
      have h8 := h57' n a (by rw [← k22]; exact b)
      unfold nOK at *
      rw [kk 64 (by decide), kk 65 (by decide), kk 66 (by decide), kk 67 (by decide), kk 68 (by decide), hl, (h28 n).1, (h28 n).2, y28]
      exact ⟨h9.1, fun q => by rw [h8 q]; exact h9.2 q⟩⟩
  have hsub : ∀ g r l, Lv Y1 M1 g r l → Lv Y M g r l ∨ (ro = some g ∧ r = r0 ∧ l = lnM M x k) := by
    intro g r l hg
    rcases hg with ⟨y, j, y0, y1, j0, j1, jl, l3, jy, jr⟩ | ⟨n, a, b, q67, ql, q3, qy, q68⟩ | ⟨n, a, b, q67, ql, q3, qy, q66⟩
    · rw [k13] at y1
      rw [hcf] at j1
      rw [hl] at jl
      have := hf y
      have := hf x
      by_cases e : y = x ∧ j = k
      · obtain ⟨rfl, rfl⟩ := e
        exact Or.inr ⟨by rw [← hv]; exact jy, by rw [← hv2]; exact jr.symm, jl.symm⟩
      · rw [ho y j e] at jy
        rw [ho2 _ (by omega)] at jr
        exact Or.inl (Or.inl ⟨y, j, y0, y1, j0, j1, jl, l3, jy, jr⟩)
    · rw [k22] at b
      rw [kk 67 (by decide)] at q67
      rw [kk 64 (by decide), kk 65 (by decide), hl] at ql
      rw [y28] at qy
      rw [kk 68 (by decide)] at q68
      exact Or.inl (Or.inr (Or.inl ⟨n, a, b, q67, ql, q3, qy, q68⟩))
    · rw [k22] at b
      rw [kk 67 (by decide)] at q67
      rw [kk 66 (by decide)] at q66
      rw [y28] at qy
      have h8 := h57' n a b q67
      rw [q66] at h8
      exact Or.inl (Or.inr (Or.inr ⟨n, a, b, q67, by rw [← h8]; exact ql, q3, qy, q66⟩))
  refine ⟨⟨by rw [kc3, k13]; exact h1.1, fun y y0 y1 => ?_⟩, hN, ?_⟩
  · rw [k13] at y1
    obtain ⟨a1, a2⟩ := h1.2 y y0 y1
    rw [k15, k55, hl, hcf]
    refine ⟨a1, fun j j0 j1 => ?_⟩
    obtain ⟨b1, b2⟩ := a2 j j0 j1
    have := hf y
    have := hf x
    rw [h16]
    by_cases e : y = x ∧ j = k
    · obtain ⟨rfl, rfl⟩ := e
      exact ⟨fun q => by omega, fun _ => by rw [hv, hv2]; exact hnone⟩
    · rw [ho y j e, ho2 _ (by omega)]
      exact ⟨b1, b2⟩
  · rcases hcase with e | ⟨e, hL⟩ | ⟨e, hg0, hr0, hfr, hn1, hn2, hn3⟩
    · refine rR_sub h3 hc.2 (fun g r l hg => ?_) hkp
      rcases hsub g r l hg with q | ⟨q, -, -⟩
      · exact q
      · rw [e] at q
        cases q
    · refine rR_sub h3 hc.2 (fun g r l hg => ?_) hkp
      rcases hsub g r l hg with q | ⟨q, q1, q2⟩
      · exact q
      · rw [e] at q
        cases q
        rw [q1, q2]
        exact hL
    · refine rR_new (g0 := g0) (r0 := r0) (l0 := lnM M x k) h3 hc.2 (fun g r l hg => ?_) hkp ⟨by omega, hg0.1, hg0.2⟩ hr0 hfr ⟨hn1, hn2, hn3⟩
      rcases hsub g r l hg with q | ⟨q, q1, q2⟩
      · exact Or.inl q
      · rw [e] at q
        cases q
        exact Or.inr ⟨rfl, q1, q2⟩
/-- what stays all along -/
def JS0 (A B : Nat → Int → Int → Int) (YA : Nat → Int → Int → Option Int) (sv g bs : Int) : Prop :=
  (rSv A B g sv ∧ 0 < B 70 0 sv) ∧ (0 ≤ sv ∧ sv < 4) ∧ (0 ≤ bs ∧ B 40 0 13 = bs + B 70 0 sv) ∧
  (∀ r, 0 ≤ r → r < B 70 0 sv → YA 15 (bs + r) 0 = some (B 71 0 (30 * sv + r)) ∧ B 55 0 (bs + r) = B 71 0 (30 * sv + r) ∧ A 19 (B 71 0 (30 * sv + r)) 1 = B 44 0 (B 71 0 (30 * sv + r)) ∧ ∀ j, 0 ≤ j → j < B 44 0 (B 71 0 (30 * sv + r)) → A 20 (B 71 0 (30 * sv + r)) j = B 45 0 (5 * B 71 0 (30 * sv + r) + j) ∧ A 21 (B 71 0 (30 * sv + r)) j = B 46 0 (5 * B 71 0 (30 * sv + r) + j)) ∧
  (∀ v, 0 ≤ v → v < 16 → A 3 0 v = 1 - B 42 0 v ∧ (B 42 0 v = 0 ∨ B 42 0 v = 1)) ∧ (∀ t, B 44 0 t ≤ 5) ∧ (∀ i, 0 ≤ B 78 0 i ∧ B 78 0 i ≤ 12) ∧ (∀ i, B 46 0 i ≤ 5) ∧
  ∀ r k, 0 ≤ r → r < B 70 0 sv → 0 ≤ k → k < B 72 0 (30 * sv + r) → (B 74 0 (5 * (30 * sv + r) + k) = 1 → -1 ≤ B 75 0 (5 * (30 * sv + r) + k) ∧ B 75 0 (5 * (30 * sv + r) + k) ≤ 15) ∧ (B 74 0 (5 * (30 * sv + r) + k) = 2 → -1 ≤ B 75 0 (5 * (30 * sv + r) + k) ∧ B 75 0 (5 * (30 * sv + r) + k) < B 70 0 sv) ∧ (3 ≤ B 74 0 (5 * (30 * sv + r) + k) → -1 ≤ B 75 0 (5 * (30 * sv + r) + k) ∧ B 75 0 (5 * (30 * sv + r) + k) ≤ 149)
section ST
variable {r k : Int}
theorem to_eq (hs : JS0 A B YA sv g bs) (hr : 0 ≤ r ∧ r < B 70 0 sv) (hk : 0 ≤ k ∧ k < B 72 0 (30 * sv + r)) : toC A YA (bs + r) g (5 * r + k) = toM B sv r k := by
  obtain ⟨⟨hS, hp⟩, h2, h3, h4, -⟩ := hs
  obtain ⟨a1, a2, a3, a4⟩ := h4 r hr.1 hr.2
  obtain ⟨-, -, b3, -⟩ := hS.2.2.2.1 r hr.1 hr.2
  obtain ⟨c1, -⟩ := b3 k hk.1 hk.2
  unfold toC toM
  rw [a1, tyo_s, a3, c1]
  exact nmAt_congr (fun j j0 j1 => (a4 j j0 (by omega)).1)
theorem to_lt (hs : JS0 A B YA sv g bs) (hr : 0 ≤ r ∧ r < B 70 0 sv) (hk : 0 ≤ k ∧ k < B 72 0 (30 * sv + r)) : toM B sv r k < B 44 0 (B 71 0 (30 * sv + r)) ∨ toM B sv r k = -1 := by
  unfold toM
  rcases nmAt_spec (fun j => B 45 0 (5 * B 71 0 (30 * sv + r) + j)) (B 73 0 (5 * (30 * sv + r) + k)) (B 44 0 (B 71 0 (30 * sv + r))).toNat with ⟨q, -⟩ | ⟨q1, q2, -⟩
  · exact Or.inr q
  · exact Or.inl (by omega)
theorem tl_eq (hs : JS0 A B YA sv g bs) (hr : 0 ≤ r ∧ r < B 70 0 sv) (hk : 0 ≤ k ∧ k < B 72 0 (30 * sv + r)) (h0 : 0 ≤ toM B sv r k) : tlC A YA (bs + r) g (5 * r + k) = tlM B sv r k := by
  have h9 := to_lt hs hr hk
  have h8 := to_eq hs hr hk
  obtain ⟨⟨hS, hp⟩, h2, h3, h4, -⟩ := hs
  obtain ⟨a1, a2, a3, a4⟩ := h4 r hr.1 hr.2
  unfold tlC tlM
  rw [h8, a1, tyo_s]
  exact (a4 _ h0 (by omega)).2
theorem fl_eq (hs : JS0 A B YA sv g bs) (hr : 0 ≤ r ∧ r < B 70 0 sv) (hk : 0 ≤ k ∧ k < B 72 0 (30 * sv + r)) : A 11 g (5 * r + k) = B 74 0 (5 * (30 * sv + r) + k) ∧ A 12 g (5 * r + k) = tvM B sv r k ∧ (3 ≤ B 74 0 (5 * (30 * sv + r) + k) → 0 ≤ tvM B sv r k → tvM B sv r k < B 76 0 sv) := by
  obtain ⟨⟨hS, hp⟩, h2, h3, h4, -⟩ := hs
  obtain ⟨-, -, b3, -⟩ := hS.2.2.2.1 r hr.1 hr.2
  obtain ⟨c1, c2, c3, c4⟩ := b3 k hk.1 hk.2
  exact ⟨c2, c3, fun a b => (c4 a b).1⟩
theorem bd_eq (hs : JS0 A B YA sv g bs) (hr : 0 ≤ r ∧ r < B 70 0 sv) (hk : 0 ≤ k ∧ k < B 72 0 (30 * sv + r)) (h1 : B 74 0 (5 * (30 * sv + r) + k) = 1) : (bdC A (A 12 g (5 * r + k)) = 1 ↔ (0 ≤ tvM B sv r k ∧ B 42 0 (tvM B sv r k) = 1)) ∧ (bdC A (A 12 g (5 * r + k)) = 0 ∨ bdC A (A 12 g (5 * r + k)) = 1) := by
  obtain ⟨c2, c3, c4⟩ := fl_eq hs hr hk
  obtain ⟨-, -, -, -, h5, -, -, -, h8⟩ := hs
  have h9 := (h8 r k hr.1 hr.2 hk.1 hk.2).1 h1
  have h7 : tvM B sv r k = B 75 0 (5 * (30 * sv + r) + k) := rfl
  rw [← h7] at h9
  rw [c3]
  unfold bdC
  by_cases hv : tvM B sv r k = -1
  · rw [if_neg (fun q => q.1 hv)]
    exact ⟨⟨fun q => by omega, fun q => by omega⟩, Or.inl rfl⟩
  · obtain ⟨w1, w2⟩ := h5 (tvM B sv r k) (by omega) (by omega)
    by_cases ho : B 42 0 (tvM B sv r k) = 1
    · rw [if_pos ⟨hv, fun q => by omega⟩]
      exact ⟨⟨fun _ => ⟨by omega, ho⟩, fun _ => rfl⟩, Or.inr rfl⟩
    · rw [if_neg (fun q => q.2 ⟨by omega, by omega, by omega⟩)]
      exact ⟨⟨fun q => by omega, fun q => absurd q.2 ho⟩, Or.inl rfl⟩
theorem fv_eq (hs : JS0 A B YA sv g bs) (hr : 0 ≤ r ∧ r < B 70 0 sv) (hk : 0 ≤ k ∧ k < B 72 0 (30 * sv + r)) : fvC A YA (bs + r) g (5 * r + k) rule = fvM B sv r k rule := by
  have t1 := to_eq hs hr hk
  obtain ⟨f1, f2, -⟩ := fl_eq hs hr hk
  unfold fvC fvM
  rw [t1, f1]
  by_cases h0 : toM B sv r k < 0
  · unfold fvF
    rw [if_pos h0, if_pos h0]
  · rw [tl_eq hs hr hk (by omega)]
    by_cases hl : B 74 0 (5 * (30 * sv + r) + k) = tlM B sv r k ∨ (B 74 0 (5 * (30 * sv + r) + k) = 1 ∧ tlM B sv r k = 0) ∨ (B 74 0 (5 * (30 * sv + r) + k) = 3 ∧ 3 < tlM B sv r k) ∨ (B 74 0 (5 * (30 * sv + r) + k) = 4 ∧ tlM B sv r k = 5)
    · by_cases h1 : tlM B sv r k = 1
      · obtain ⟨d1, d2⟩ := bd_eq hs hr hk (by omega)
        by_cases hw : 0 ≤ tvM B sv r k ∧ B 42 0 (tvM B sv r k) = 1
        · by_cases h2 : andZ rule 2 = 0
          · rw [fvF_w (by omega) hl ⟨h1, by omega, d1.mpr hw, h2⟩, fvF_w (by omega) hl ⟨h1, hw.1, hw.2, h2⟩]
          · rw [fvF_0 (by omega) hl (fun q => h2 q.2.2.2), fvF_0 (by omega) hl (fun q => h2 q.2.2.2)]
        · rw [fvF_0 (by omega) hl (fun q => hw (d1.mp q.2.2.1)), fvF_0 (by omega) hl (fun q => hw ⟨q.2.1, q.2.2.1⟩)]
      · rw [fvF_0 (by omega) hl (fun q => h1 q.1), fvF_0 (by omega) hl (fun q => h1 q.1)]
    · rw [fvF_l (by omega) hl, fvF_l (by omega) hl]
/-- a field that goes back -/
theorem tw_eq (hs : JS0 A B YA sv g bs) (hr : 0 ≤ r ∧ r < B 70 0 sv) (hk : 0 ≤ k ∧ k < B 72 0 (30 * sv + r)) (h0 : 0 ≤ toM B sv r k) (hv : fvM B sv r k rule = 0) : twC A YA (bs + r) g (5 * r + k) = twM B sv r k ∧ (tlM B sv r k = 2 → -1 ≤ twM B sv r k) ∧ (3 ≤ tlM B sv r k → (-1 ≤ twM B sv r k ∧ twM B sv r k ≤ 149) ∧ (0 ≤ twM B sv r k → twM B sv r k < B 76 0 sv)) := by
  have t1 := to_eq hs hr hk
  obtain ⟨f1, f2, f3⟩ := fl_eq hs hr hk
  have tl := tl_eq hs hr hk h0
  have hl : B 74 0 (5 * (30 * sv + r) + k) = tlM B sv r k ∨ (B 74 0 (5 * (30 * sv + r) + k) = 1 ∧ tlM B sv r k = 0) ∨ (B 74 0 (5 * (30 * sv + r) + k) = 3 ∧ 3 < tlM B sv r k) ∨ (B 74 0 (5 * (30 * sv + r) + k) = 4 ∧ tlM B sv r k = 5) := Classical.byContradiction fun q => by
    unfold fvM at hv
    rw [fvF_l h0 q] at hv
    omega
  have hm := hs.2.2.2.2.2.2.2.2 r k hr.1 hr.2 hk.1 hk.2
  have h7 : tvM B sv r k = B 75 0 (5 * (30 * sv + r) + k) := rfl
  rw [← h7] at hm
  by_cases h1 : tlM B sv r k = 1
  · obtain ⟨d1, d2⟩ := bd_eq hs hr hk (by omega)
    refine ⟨?_, fun q => by omega, fun q => by omega⟩
    unfold twC twM
    rw [tl, f2]
    rw [f2] at d1 d2
    by_cases hw : 0 ≤ tvM B sv r k ∧ B 42 0 (tvM B sv r k) = 1
    · rw [if_pos ⟨h1, d1.mpr hw⟩, if_pos ⟨h1, hw.1, hw.2⟩]
    · rw [if_neg (fun q => hw (d1.mp q.2)), if_neg (fun q => hw q.2)]
  · have e2 : twM B sv r k = tvM B sv r k := by
      unfold twM
      rw [if_neg (fun q => h1 q.1)]
    refine ⟨?_, fun q => ?_, fun q => ?_⟩
    · unfold twC
      rw [tl, f2, e2, if_neg (fun q => h1 q.1)]
    · rw [e2]
      exact (hm.2.1 (by omega)).1
    · rw [e2]
      exact ⟨hm.2.2 (by omega), fun w => f3 (by omega) w⟩
/-- fields that went back stay where they are -/
theorem to_ne {k' : Int} (hs : JS0 A B YA sv g bs) (hr : 0 ≤ r ∧ r < B 70 0 sv) (hk : 0 ≤ k ∧ k < B 72 0 (30 * sv + r)) (hk' : 0 ≤ k' ∧ k' < k) (h0 : 0 ≤ toM B sv r k) : toM B sv r k' ≠ toM B sv r k := fun w => by
  obtain ⟨⟨hS, hp⟩, -⟩ := hs
  obtain ⟨-, -, -, b4⟩ := hS.2.2.2.1 r hr.1 hr.2
  have hne := b4 k' k hk'.1 hk'.2 hk.2
  have sp : ∀ q, 0 ≤ toM B sv r q → B 45 0 (5 * B 71 0 (30 * sv + r) + toM B sv r q) = B 73 0 (5 * (30 * sv + r) + q) := fun q hq => by
    unfold toM at hq ⊢
    rcases nmAt_spec (fun j => B 45 0 (5 * B 71 0 (30 * sv + r) + j)) (B 73 0 (5 * (30 * sv + r) + q)) (B 44 0 (B 71 0 (30 * sv + r))).toNat with ⟨u, -⟩ | ⟨-, -, u, -⟩
    · omega
    · exact u
  have s1 := sp k h0
  have s2 := sp k' (by rw [w]; exact h0)
  rw [w, s1] at s2
  exact hne s2.symm
end ST
/-- the places that went back before place m of record n -/
def dn (B : Nat → Int → Int → Int) (sv bs n m x k : Int) : Prop := ∃ r0 k0, 0 ≤ r0 ∧ 0 ≤ k0 ∧ (r0 < n ∨ (r0 = n ∧ k0 < m)) ∧ x = bs + r0 ∧ k = toM B sv r0 k0
def Bk (B : Nat → Int → Int → Int) (sv bs n m : Int) (Y : Nat → Int → Int → Option Int) (M : Nat → Int → Int → Int) : Prop := ∀ j, 0 ≤ j → j < 3 * B 76 0 sv → (Y 6 0 j = none ∧ M 85 0 j < 0) ∨ ∃ x k g, dn B sv bs n m x k ∧ Y 6 0 j = some g ∧ 0 ≤ M 85 0 j ∧ M 56 0 (5 * x + k) = M 85 0 j ∧ Y 17 x k = some g ∧ (0 ≤ x ∧ x < M 40 0 13 ∧ 0 ≤ k ∧ k < fcM M x) ∧ lnM M x k = j % 3 + 3
def JIv (A B : Nat → Int → Int → Int) (YA : Nat → Int → Int → Option Int) (sv bs n m c : Int) (C : Nat → Int → Int → Int) (Y : Nat → Int → Int → Option Int) (ln : Int → Int) (M : Nat → Int → Int → Int) : Prop := RB c C Y ln M ∧ (∀ i, 0 ≤ i → i < c → 0 ≤ ln i ∧ ln i ≤ 12) ∧ 0 ≤ c ∧ Frm [1600, 2602, 2700] A C ∧ Frm [1700, 600] YA Y ∧ Frm [5600, 6000, 5700, 5800, 5900, 8500] B M ∧ Bk B sv bs n m Y M
theorem dn.up {n m n' m' x k : Int} (h : dn B sv bs n m x k) (hu : n < n' ∨ (n = n' ∧ m ≤ m')) : dn B sv bs n' m' x k := by
  obtain ⟨r0, k0, a, b, d, e⟩ := h
  exact ⟨r0, k0, a, b, by omega, e⟩
theorem Bk.up {n m n' m' : Int} (h : Bk B sv bs n m Y M) (hu : n < n' ∨ (n = n' ∧ m ≤ m')) : Bk B sv bs n' m' Y M := fun j a b => by
  rcases h j a b with q | ⟨x, k, g, d, q⟩
  · exact Or.inl q
  · exact Or.inr ⟨x, k, g, d.up hu, q⟩
theorem JIv.up {n m n' m' : Int} (h : JIv A B YA sv bs n m c C Y ln M) (hu : n < n' ∨ (n = n' ∧ m ≤ m')) : JIv A B YA sv bs n' m' c C Y ln M := ⟨h.1, h.2.1, h.2.2.1, h.2.2.2.1, h.2.2.2.2.1, h.2.2.2.2.2.1, h.2.2.2.2.2.2.up hu⟩
/-- what a change at one place leaves of them -/
theorem Bk.at_ {n m x k : Int} (h : Bk B sv bs n m Y M) (hn : ¬ dn B sv bs n m x k) (hf : ∀ y, fcM M y ≤ 5) (hk : 0 ≤ k ∧ k < 5) (e6 : Y1 6 = Y 6) (e17 : ∀ y j, ¬ (y = x ∧ j = k) → Y1 17 y j = Y 17 y j) (e85 : M1 85 = M 85) (e56 : ∀ p, p ≠ 5 * x + k → M1 56 0 p = M 56 0 p) (e13 : M1 40 0 13 = M 40 0 13) (hl : lnM M1 = lnM M) (hc : fcM M1 = fcM M) : Bk B sv bs n m Y1 M1 := fun j a b => by
  rcases h j a b with q | ⟨x0, k0, g, d, q1, q2, q3, q4, q5, q6⟩
  · rw [e6, e85]
    exact Or.inl q
  · have ne : ¬ (x0 = x ∧ k0 = k) := fun w => hn (by rw [← w.1, ← w.2]; exact d)
    have := hf x0
    refine Or.inr ⟨x0, k0, g, d, by rw [e6]; exact q1, by rw [e85]; exact q2, ?_, by rw [e17 x0 k0 ne]; exact q4, by rw [e13, hc]; exact q5, by rw [hl]; exact q6⟩
    rw [e56 _ (fun w => ne (by omega)), e85]
    exact q3
theorem stC_eq {L N : List Nat} {X X0 : Nat → Int → Int → Int} {Z Z0 : Nat → Int → Int → Option Int} (hF : Frm L X X0) (hH : Frm N Z Z0) (hd : ∀ q ∈ [300, 1000, 1100, 1200, 1902, 2000, 2100], q ∉ L) (he : 1501 ∉ N) : toC X0 Z0 = toC X Z ∧ tlC X0 Z0 = tlC X Z ∧ twC X0 Z0 = twC X Z ∧ fvC X0 Z0 = fvC X Z := by
  have e3 := hF.arr 3 (by decide +kernel) (hd 300 (by decide))
  have e10 := hF.arr 10 (by decide +kernel) (hd 1000 (by decide))
  have e11 := hF.arr 11 (by decide +kernel) (hd 1100 (by decide))
  have e12 := hF.arr 12 (by decide +kernel) (hd 1200 (by decide))
  have e19 : ∀ i, X0 19 i 1 = X 19 i 1 := fun i => hF 19 i 1 (hd 1902 (by decide))
  have e20 := hF.arr 20 (by decide +kernel) (hd 2000 (by decide))
  have e21 := hF.arr 21 (by decide +kernel) (hd 2100 (by decide))
  have y15 : ∀ i, Z0 15 i 0 = Z 15 i 0 := fun i => hH 15 i 0 he
  have g1 : toC X0 Z0 = toC X Z := by
    funext x g i
    simp only [toC, e10, e19, e20, y15]
  have g2 : tlC X0 Z0 = tlC X Z := by
    funext x g i
    simp only [tlC, g1, e21, y15]
  have e9 : bdC X0 = bdC X := by
    funext v
    unfold bdC
    rw [e3]
  have g3 : twC X0 Z0 = twC X Z := by
    funext x g i
    unfold twC
    rw [g2, e9, e12]
  refine ⟨g1, g2, g3, ?_⟩
  funext x g i rule
  unfold fvC
  rw [g1, g2, e9, e11, e12]
theorem KpM.tr {M2 : Nat → Int → Int → Int} (h : KpM M M1) (k : KpM M1 M2) : KpM M M2 := ⟨k.1.trans h.1, k.2.1.trans h.2.1, k.2.2.1.trans h.2.2.1, k.2.2.2.1.trans h.2.2.2.1, k.2.2.2.2.1.trans h.2.2.2.2.1, k.2.2.2.2.2.trans h.2.2.2.2.2⟩
theorem KpM.s56 {p v : Int} : KpM M (u3 M 56 0 p v) := ⟨u3_k _ _ _ _ (by decide), u3_k _ _ _ _ (by decide), u3_k _ _ _ _ (by decide), u3_k _ _ _ _ (by decide), by rw [u3_k _ _ _ _ (by decide)], by rw [u3_k _ _ _ _ (by decide)]⟩
theorem JIv_step {r k : Int} (hs : JS0 A B YA sv g bs) (hr : 0 ≤ r ∧ r < B 70 0 sv) (hk : 0 ≤ k ∧ k < B 72 0 (30 * sv + r)) (h : JIv A B YA sv bs r k c C Y ln M) (hv : fvM B sv r k rule = 0) (sc : fStC g (bs + r) (5 * r + k) bs c C Y ln c1 C1 Y1 ln1) (sm : fStM sv r bs k M M1) : JIv A B YA sv bs r (k + 1) c1 C1 Y1 ln1 M1 := by
  obtain ⟨hB, hLb, hc0, fA, fY, fB, hbk⟩ := id h
  obtain ⟨mT, mL, mV, mW, -⟩ := stM_eq fB (by decide)
  obtain ⟨cT, cL, cW, -⟩ := stC_eq fA fY (by decide) (by decide)
  unfold fStC at sc
  unfold fStM at sm
  rw [cT, cL, cW, to_eq hs hr hk] at sc
  rw [mT, mL, mW] at sm
  obtain ⟨⟨hS, hp0⟩, hsv, ⟨hbs0, h13⟩, hty, hwd, h5, h12, h46, hmc⟩ := id hs
  obtain ⟨a1, a2, a3, a4⟩ := hty r hr.1 hr.2
  have e44 := fB.arr 44 (by decide +kernel) (by decide)
  have e46 := fB.arr 46 (by decide +kernel) (by decide)
  have e55 := fB.arr 55 (by decide +kernel) (by decide)
  have m13 : M 40 0 13 = B 40 0 13 := fB 40 0 13 (show 4014 ∉ _ by decide)
  have hfc : ∀ y, fcM M y ≤ 5 := fun y => by
    unfold fcM
    rw [e44]
    exact h5 _
  have fce : fcM M (bs + r) = B 44 0 (B 71 0 (30 * sv + r)) := by
    unfold fcM
    rw [e44, e55, a2]
  have tlt := to_lt hs hr hk
  by_cases h0 : toM B sv r k < 0
  · rcases sc with ⟨-, e1, e2, e3, e4⟩ | ⟨q, -⟩ | ⟨q, -⟩ | ⟨q, -⟩
    · rcases sm with ⟨-, e⟩ | ⟨q, -⟩ | ⟨q, -⟩ | ⟨q, -⟩
      · rw [e1, e2, e3, e4, e]
        exact h.up (Or.inr ⟨rfl, by omega⟩)
      · omega
      · omega
      · omega
    · omega
    · omega
    · omega
  · have h0' : 0 ≤ toM B sv r k := by omega
    obtain ⟨w1, w2, w3⟩ := tw_eq hs hr hk h0' hv
    rw [w1, tl_eq hs hr hk h0'] at sc
    have h5' := h5 (B 71 0 (30 * sv + r))
    have hpl : 0 ≤ bs + r ∧ bs + r < M 40 0 13 ∧ 0 ≤ toM B sv r k ∧ toM B sv r k < fcM M (bs + r) := ⟨by omega, by omega, h0', by rw [fce]; omega⟩
    have hlt : lnM M (bs + r) (toM B sv r k) = tlM B sv r k := by
      unfold lnM
      rw [e46, e55, a2]
      rfl
    have L5 : tlM B sv r k ≤ 5 := h46 _
    have hnd : ¬ dn B sv bs r k (bs + r) (toM B sv r k) := by
      rintro ⟨r0, k0, q0, q1, q2, q3, q4⟩
      have er : r0 = r := by omega
      rw [er] at q4 q2
      exact to_ne hs hr hk ⟨q1, by omega⟩ h0' q4.symm
    have T5 : 0 ≤ toM B sv r k ∧ toM B sv r k < 5 := ⟨h0', by omega⟩
    obtain ⟨T, eT⟩ : ∃ q, q = toM B sv r k := ⟨_, rfl⟩
    obtain ⟨W, eW⟩ : ∃ q, q = twM B sv r k := ⟨_, rfl⟩
    obtain ⟨Ln, eL⟩ : ∃ q, q = tlM B sv r k := ⟨_, rfl⟩
    rw [← eT, ← eL, ← eW] at sc sm
    rw [← eT] at h0' hpl hlt hnd T5
    rw [← eL] at hlt L5 w2 w3
    rw [← eW] at w2 w3
    by_cases hL : Ln < 3
    · rcases sc with ⟨q, -⟩ | ⟨-, -, e1, e2, e3, e4⟩ | ⟨-, q, -⟩ | ⟨-, q, -⟩
      · omega
      · have hval : ∃ v, C1 = u3 C 16 (bs + r) T v ∧ M1 = u3 M 56 0 (5 * (bs + r) + T) v := by
          rcases sm with ⟨q, -⟩ | ⟨-, u, e⟩ | ⟨-, u, uw, e⟩ | ⟨-, q, -⟩
          · omega
          · refine ⟨W, ?_, e⟩
            rw [e2, if_neg (fun q => by have := w2 q.1; omega)]
          · refine ⟨bs + W, ?_, e⟩
            rw [e2, if_pos ⟨u, by omega⟩]
          · omega
        obtain ⟨v, ec, em⟩ := hval
        have hLn : LnL (fun i => if 0 ≤ i ∧ i < c then ln i else 0) := fun i => by
          show 0 ≤ (if 0 ≤ i ∧ i < c then ln i else 0) ∧ (if 0 ≤ i ∧ i < c then ln i else 0) ≤ 12
          by_cases q : 0 ≤ i ∧ i < c
          · rw [if_pos q]
            exact hLb i q.1 q.2
          · rw [if_neg q]
            exact ⟨by decide, by decide⟩
        have hB2 := RB_putv (v := v) (hB.grow (ln1 := fun i => if 0 ≤ i ∧ i < c then ln i else 0) (Int.le_refl _) (fun i i0 i1 => if_pos ⟨i0, i1⟩)) hfc hpl (by rw [hlt]; exact hL) hLn
        have hB3 := hB2.grow (ln1 := ln) (Int.le_refl _) (fun i i0 i1 => (if_pos (show 0 ≤ i ∧ i < c from ⟨i0, i1⟩)).symm)
        rw [e1, e3, e4, ec, em]
        exact ⟨hB3, hLb, hc0, Frm.set fA (show 1600 ∈ [1600, 2602, 2700] by decide), fY, Frm.set fB (show 5600 ∈ [5600, 6000, 5700, 5800, 5900, 8500] by decide), (hbk.at_ hnd hfc T5 rfl (fun _ _ _ => rfl) (u3_k _ _ _ _ (by decide)) (fun p hp => u3_j _ _ _ _ hp) (by rw [u3_k _ _ _ _ (by decide)]) KpM.s56.lnE KpM.s56.fcE).up (Or.inr ⟨rfl, by omega⟩)⟩
      · omega
      · omega
    · have hl3 : 3 ≤ lnM M (bs + r) T := by
        rw [hlt]
        omega
      by_cases hW : W = -1
      · rcases sc with ⟨q, -⟩ | ⟨-, q, -⟩ | ⟨-, -, -, e1, e2, e3, e4⟩ | ⟨-, -, q, -⟩
        · omega
        · omega
        · rcases sm with ⟨q, -⟩ | ⟨-, -, e⟩ | ⟨-, q, -⟩ | ⟨-, -, q, -⟩
          · omega
          · rw [e1, e2, e3, e4, e]
            have hB2 : RB c C (u3 Y 17 (bs + r) T none) ln (u3 M 56 0 (5 * (bs + r) + T) W) := RB_putr (g0 := 0) (r0 := W) (ro := none) hB ⟨rfl, rfl, fun x => by rw [u3_k _ _ _ _ (by decide)]⟩ (fun n => ⟨rfl, rfl⟩) (u3_k _ _ _ _ (by decide)) KpM.s56 (by rw [u3_k _ _ _ _ (by decide)]) (fun q hq => u3_k _ _ _ _ (by simp only [List.mem_cons, List.not_mem_nil, or_false] at hq; omega)) hfc hpl hl3 (u3_s _ _ _ _ _) (fun y j e => u3_ij2 e) (fun _ _ => rfl) (u3_s _ _ _ _ _) (fun p hp => u3_j _ _ _ _ hp) ⟨fun _ => by omega, fun _ => rfl⟩ ⟨hc0, Int.le_refl _⟩ (fun g' r' l' hv' => by
              obtain ⟨b1, b2, b3, b4, b5, b6, b7⟩ := hB.2.2.1 _ _ _ hv'
              rw [u3_k _ _ _ _ (show (57 : Nat) ≠ 56 by decide), u3_k _ _ _ _ (show (58 : Nat) ≠ 56 by decide), u3_k _ _ _ _ (show (59 : Nat) ≠ 56 by decide)]
              exact ⟨b5, b6, b7⟩) (fun n _ _ _ => by rw [u3_k _ _ _ _ (by decide)]) (Or.inl rfl)
            exact ⟨hB2, hLb, hc0, fA, Frm.set fY (show 1700 ∈ [1700, 600] by decide), Frm.set fB (show 5600 ∈ [5600, 6000, 5700, 5800, 5900, 8500] by decide), (hbk.at_ hnd hfc T5 (u3_k _ _ _ _ (by decide)) (fun y j e => u3_ij2 e) (u3_k _ _ _ _ (by decide)) (fun p hp => u3_j _ _ _ _ hp) (by rw [u3_k _ _ _ _ (by decide)]) KpM.s56.lnE KpM.s56.fcE).up (Or.inr ⟨rfl, by omega⟩)⟩
          · omega
          · omega
        · exact absurd hW q
      · obtain ⟨wb, w76⟩ := w3 (by omega)
        have W0 : 0 ≤ W := by omega
        have w77 := w76 W0
        rcases sc with ⟨q, -⟩ | ⟨-, q, -⟩ | ⟨-, -, q, -⟩ | ⟨-, -, -, Y', q, rp, eY⟩
        · omega
        · omega
        · exact absurd q hW
        rcases sm with ⟨u, -⟩ | ⟨-, u, -⟩ | ⟨-, u, -⟩ | ⟨-, -, -, X', row, rb, e⟩
        · omega
        · omega
        · omega
        rcases hbk (3 * W + Ln - 3) (by omega) (by omega) with ⟨yn, mn⟩ | ⟨x0, k0, g', d, y6, m85, q56, q17, q5, q6⟩
        · rcases rp with ⟨y, -⟩ | ⟨-, eq, ec, el, elo, e27, e27o, eF, eY'⟩
          · rw [yn] at y
            cases y
          rcases rb with ⟨m, -⟩ | ⟨-, hrow, ⟨fr1, fr2⟩, ⟨n57, n58⟩, no, n59, n59o, n85, n85o, nF⟩
          · omega
          have hfr : ∀ g' r' l', Lv Y M g' r' l' → r' ≠ row := by
            rintro g' r' l' (⟨y, j, y0, y1, j0, j1, jl, l3, jy, jr⟩ | ⟨n, a, b, q67, ql, q3, qy, q68⟩ | ⟨n, a, b, q67, ql, q3, qy, q66⟩)
            · rw [← jr]
              exact fr1 y j y0 y1 j0 j1 (by rw [← jl] at l3; exact l3)
            · have h9 := (((hB.2.1.2 n a b).1 q67).2.2.2 (by rw [ql]; exact q3)).2
              rw [← q68, ← h9]
              exact fr2 n a b
            · rw [← q66]
              exact fr2 n a b
          have kM : KpM M M1 := by
            rw [e]
            exact (KpM.of nF (by decide)).tr KpM.s56
          have mk : ∀ κ, κ ≠ 56 → M1 κ = X' κ := fun κ hκ => by rw [e, u3_k _ _ _ _ hκ]
          have s13 := fA.arr 13 (by decide +kernel) (by decide)
          have s14 := fA.arr 14 (by decide +kernel) (by decide)
          have s78 := fB.arr 78 (by decide +kernel) (by decide)
          have s79 := fB.arr 79 (by decide +kernel) (by decide)
          obtain ⟨t1, t2⟩ := hS.2.2.2.2 W hp0 W0 (w76 W0)
          have t12 := h12 (150 * sv + W)
          rw [s13, t1] at el
          rw [s78] at n58 n59
          rw [s79] at n59
          rw [s13, s14, t1] at e27
          have hy17 : Y1 17 (bs + r) T = some c := by rw [eY, u3_s, eq]
          have hy6 : ∀ j, Y1 6 0 j = if j = 3 * W + Ln - 3 then some c else Y 6 0 j := fun j => by
            rw [eY, u3_k _ _ _ _ (by decide), eY']
            by_cases ej : j = 3 * W + Ln - 3
            · rw [if_pos ej, ej, u3_s]
            · rw [if_neg ej, u3_j _ _ _ _ ej]
          have ho : ∀ y j, ¬ (y = bs + r ∧ j = T) → Y1 17 y j = Y 17 y j := fun y j w => by rw [eY, u3_ij2 w, eY', u3_k _ _ _ _ (by decide)]
          have hv2 : M1 56 0 (5 * (bs + r) + T) = row := by rw [e, u3_s]
          have ho2 : ∀ p, p ≠ 5 * (bs + r) + T → M1 56 0 p = M 56 0 p := fun p hp => by rw [e, u3_j _ _ _ _ hp, nF.arr 56 (by decide +kernel) (by decide)]
          have hB2 : RB c1 C1 Y1 ln1 M1 := RB_putr (g0 := c) (r0 := row) (ro := some c) hB ⟨eF 0 0 3 (show 4 ∉ _ by decide), eF.arr 31 (by decide +kernel) (by decide), fun x => by rw [eY, u3_k _ _ _ _ (by decide), eY', u3_k _ _ _ _ (by decide)]⟩ (fun n => ⟨eF 28 n 1 (show 2802 ∉ _ by decide), eF 28 n 2 (show 2803 ∉ _ by decide)⟩) (by rw [eY, u3_k _ _ _ _ (by decide), eY', u3_k _ _ _ _ (by decide)]) kM (by rw [mk 40 (by decide)]; exact nF 40 0 22 (show 4023 ∉ _ by decide)) (fun q hq => by
              simp only [List.mem_cons, List.not_mem_nil, or_false] at hq
              rcases hq with rfl | rfl | rfl | rfl | rfl <;> rw [mk _ (by decide)] <;> exact nF.arr _ (by decide +kernel) (by decide)) hfc hpl hl3 hy17 ho (fun y j => by rw [eF.arr 16 (by decide +kernel) (by decide)]) hv2 ho2 ⟨fun w => (by cases w), fun w => (by omega)⟩ ⟨hc0, by omega⟩ (fun g' r' l' hv' => by
              obtain ⟨b1, b2, b3, b4, b5, b6, b7⟩ := hB.2.2.1 _ _ _ hv'
              have hne := hfr g' r' l' hv'
              have l9 := hLb g' b1 b2
              rw [mk 57 (by decide), mk 58 (by decide), mk 59 (by decide), elo g' b1 b2, e27o g' (by omega), (no r' hne).1, (no r' hne).2]
              refine ⟨b5, b6, fun i i0 i1 => ?_⟩
              rw [n59o _ (fun w => by omega)]
              exact b7 i i0 i1) (fun n a b _ => by rw [mk 57 (by decide)]; exact (no _ (fr2 n a b)).1) (Or.inr (Or.inr ⟨rfl, ⟨Int.le_refl _, by omega⟩, hrow, hfr, by rw [mk 57 (by decide), n57, hlt], by rw [mk 58 (by decide), n58, el], fun i i0 i1 => by
              rw [el] at i1
              rw [mk 59 (by decide), n59 i i0 i1, e27 i i0 i1]
              exact t2 i i0 (by rw [t1]; exact i1)⟩))
          refine ⟨hB2, fun i i0 i1 => ?_, by omega, fA.tr (eF.mono (by decide)), by rw [eY, eY']; exact Frm.set (Frm.set fY (show 600 ∈ [1700, 600] by decide)) (show 1700 ∈ [1700, 600] by decide), by rw [e]; exact Frm.set (fB.tr (nF.mono (by decide))) (show 5600 ∈ [5600, 6000, 5700, 5800, 5900, 8500] by decide), fun j j0 j1 => ?_⟩
          · by_cases ei : i = c
            · rw [ei, el]
              exact t12
            · rw [elo i i0 (by omega)]
              exact hLb i i0 (by omega)
          · by_cases ej : j = 3 * W + Ln - 3
            · refine Or.inr ⟨bs + r, T, c, ⟨r, k, hr.1, hk.1, Or.inr ⟨rfl, by omega⟩, rfl, eT⟩, by rw [hy6, if_pos ej], ?_, ?_, hy17, ?_, ?_⟩
              · rw [mk 85 (by decide), ej, n85]
                exact hrow.1
              · rw [hv2, mk 85 (by decide), ej, n85]
              · rw [kM.2.2.2.2.1, kM.fcE]
                exact hpl
              · rw [kM.lnE, hlt]
                omega
            · have y6' : Y1 6 0 j = Y 6 0 j := by rw [hy6, if_neg ej]
              have m85' : M1 85 0 j = M 85 0 j := by rw [mk 85 (by decide), n85o j ej]
              rcases hbk j j0 j1 with u | ⟨x0, k0, g', d, q1, q2, q3, q4, q5, q6⟩
              · rw [y6', m85']
                exact Or.inl u
              · have ne : ¬ (x0 = bs + r ∧ k0 = T) := fun w => hnd (by rw [← w.1, ← w.2]; exact d)
                have := hfc x0
                refine Or.inr ⟨x0, k0, g', d.up (Or.inr ⟨rfl, by omega⟩), by rw [y6']; exact q1, by rw [m85']; exact q2, ?_, by rw [ho x0 k0 ne]; exact q4, by rw [kM.2.2.2.2.1, kM.fcE]; exact q5, by rw [kM.lnE]; exact q6⟩
                rw [ho2 _ (fun w => ne (by omega)), m85']
                exact q3
        · rcases rp with ⟨y, e1, e2, e3, e4⟩ | ⟨y, -⟩
          · rcases rb with ⟨m, er, eX⟩ | ⟨m, -⟩
            · have eg : g' = q := Option.some.inj (y6.symm.trans y)
              rw [eg] at q17
              rw [← er] at q56
              rw [e1, e2, e4, eY, e3, e, eX]
              have hB2 : RB c C (u3 Y 17 (bs + r) T (some q)) ln (u3 M 56 0 (5 * (bs + r) + T) row) := RB_putr (g0 := q) (r0 := row) (ro := some q) hB ⟨rfl, rfl, fun x => by rw [u3_k _ _ _ _ (by decide)]⟩ (fun n => ⟨rfl, rfl⟩) (u3_k _ _ _ _ (by decide)) KpM.s56 (by rw [u3_k _ _ _ _ (by decide)]) (fun q hq => u3_k _ _ _ _ (by simp only [List.mem_cons, List.not_mem_nil, or_false] at hq; omega)) hfc hpl hl3 (u3_s _ _ _ _ _) (fun y j e => u3_ij2 e) (fun _ _ => rfl) (u3_s _ _ _ _ _) (fun p hp => u3_j _ _ _ _ hp) ⟨fun w => (by cases w), fun w => (by omega)⟩ ⟨hc0, Int.le_refl _⟩ (fun g' r' l' hv' => by
                obtain ⟨b1, b2, b3, b4, b5, b6, b7⟩ := hB.2.2.1 _ _ _ hv'
                rw [u3_k _ _ _ _ (show (57 : Nat) ≠ 56 by decide), u3_k _ _ _ _ (show (58 : Nat) ≠ 56 by decide), u3_k _ _ _ _ (show (59 : Nat) ≠ 56 by decide)]
                exact ⟨b5, b6, b7⟩) (fun n _ _ _ => by rw [u3_k _ _ _ _ (by decide)]) (Or.inr (Or.inl ⟨rfl, Or.inl ⟨x0, k0, q5.1, q5.2.1, q5.2.2.1, q5.2.2.2, by rw [q6, hlt]; omega, hl3, q17, q56⟩⟩))
              exact ⟨hB2, hLb, hc0, fA, Frm.set fY (show 1700 ∈ [1700, 600] by decide), Frm.set fB (show 5600 ∈ [5600, 6000, 5700, 5800, 5900, 8500] by decide), (hbk.at_ hnd hfc T5 (u3_k _ _ _ _ (by decide)) (fun y j e => u3_ij2 e) (u3_k _ _ _ _ (by decide)) (fun p hp => u3_j _ _ _ _ hp) (by rw [u3_k _ _ _ _ (by decide)]) KpM.s56.lnE KpM.s56.fcE).up (Or.inr ⟨rfl, by omega⟩)⟩
            · omega
          · rw [y6] at y
            cases y
/-! the runs -/
theorem JIv_f {r : Int} (hs : JS0 A B YA sv g bs) (hr : 0 ≤ r ∧ r < B 70 0 sv) (h : JIv A B YA sv bs r 0 c C Y ln M) (n : Nat) : ∀ (c1 : Int) (C1 : Nat → Int → Int → Int) (Y1 : Nat → Int → Int → Option Int) (ln1 : Int → Int) (M1 : Nat → Int → Int → Int), (n : Int) ≤ B 72 0 (30 * sv + r) → fTrC g r bs rule n c C Y ln c1 C1 Y1 ln1 → fTrM sv r rule bs n M M1 → JIv A B YA sv bs r (n : Int) c1 C1 Y1 ln1 M1 := by
  induction n with
  | zero =>
    rintro c1 C1 Y1 ln1 M1 - ⟨rfl, rfl, rfl, rfl⟩ rfl
    exact h
  | succ n ih =>
    rintro c1 C1 Y1 ln1 M1 hn ⟨c', X', Y', l', t, v, st⟩ ⟨M', tm, vm, sm⟩
    have i := ih c' X' Y' l' M' (by omega) t tm
    have e := (stM_eq i.2.2.2.2.2.1 (by decide)).2.2.2.2
    rw [e] at vm
    have h9 := JIv_step hs hr ⟨by omega, by omega⟩ i vm st sm
    have e1 : ((n + 1 : Nat) : Int) = (n : Int) + 1 := by omega
    rw [e1]
    exact h9
theorem JIv_r (hs : JS0 A B YA sv g bs) (h : JIv A B YA sv bs 0 0 c C Y ln M) (n : Nat) : ∀ (c1 : Int) (C1 : Nat → Int → Int → Int) (Y1 : Nat → Int → Int → Option Int) (ln1 : Int → Int) (M1 : Nat → Int → Int → Int), (n : Int) ≤ B 70 0 sv → rTrC g bs rule n c C Y ln c1 C1 Y1 ln1 → rTrM sv rule bs n M M1 → JIv A B YA sv bs (n : Int) 0 c1 C1 Y1 ln1 M1 := by
  induction n with
  | zero =>
    rintro c1 C1 Y1 ln1 M1 - ⟨rfl, rfl, rfl, rfl⟩ rfl
    exact h
  | succ n ih =>
    rintro c1 C1 Y1 ln1 M1 hn ⟨c', X', Y', l', t, st⟩ ⟨M', tm, sm⟩
    have i := ih c' X' Y' l' M' (by omega) t tm
    have e9 : X' 9 g (n : Int) = B 72 0 (30 * sv + (n : Int)) := by
      rw [i.2.2.2.1.arr 9 (by decide +kernel) (by decide)]
      exact (hs.1.1.2.2.2.1 (n : Int) (by omega) (by omega)).2.1
    have e72 : M' 72 0 (30 * sv + (n : Int)) = B 72 0 (30 * sv + (n : Int)) := by rw [i.2.2.2.2.2.1.arr 72 (by decide +kernel) (by decide)]
    rw [e9] at st
    rw [e72] at sm
    by_cases hp : 0 ≤ B 72 0 (30 * sv + (n : Int))
    · have h9 := JIv_f hs ⟨by omega, by omega⟩ i _ c1 C1 Y1 ln1 M1 (by omega) st sm
      exact h9.up (Or.inl (by omega))
    · have ez : (B 72 0 (30 * sv + (n : Int))).toNat = 0 := by omega
      rw [ez] at st sm
      obtain ⟨rfl, rfl, rfl, rfl⟩ := st
      obtain rfl := sm
      exact i.up (Or.inl (by omega))
/-! each side alone: what it leaves, and that each field it went past may go back -/
theorem fStC.frm {x i f : Int} (h : fStC g x i f c C Y ln c1 C1 Y1 ln1) : Frm [1600, 2602, 2700] C C1 ∧ Frm [1700, 600] Y Y1 := by
  rcases h with ⟨-, -, e2, e3, -⟩ | ⟨-, -, -, e2, e3, -⟩ | ⟨-, -, -, -, e2, e3, -⟩ | ⟨-, -, -, Y', q, rp, eY⟩
  · rw [e2, e3]
    exact ⟨Frm.rf, Frm.rf⟩
  · rw [e2, e3]
    exact ⟨Frm.set Frm.rf (show 1600 ∈ [1600, 2602, 2700] by decide), Frm.rf⟩
  · rw [e2, e3]
    exact ⟨Frm.rf, Frm.set Frm.rf (show 1700 ∈ [1700, 600] by decide)⟩
  · rcases rp with ⟨-, -, e2, e3, -⟩ | ⟨-, -, -, -, -, -, -, eF, e3⟩
    · rw [e2, eY, e3]
      exact ⟨Frm.rf, Frm.set Frm.rf (show 1700 ∈ [1700, 600] by decide)⟩
    · rw [eY, e3]
      exact ⟨eF.mono (by decide), Frm.set (Frm.set Frm.rf (show 600 ∈ [1700, 600] by decide)) (show 1700 ∈ [1700, 600] by decide)⟩
theorem fStM.frm {r k : Int} (h : fStM sv r bs k M M1) : Frm [5600, 6000, 5700, 5800, 5900, 8500] M M1 := by
  rcases h with ⟨-, e⟩ | ⟨-, -, e⟩ | ⟨-, -, -, e⟩ | ⟨-, -, -, X', row, rb, e⟩
  · rw [e]
    exact Frm.rf
  · rw [e]
    exact Frm.set Frm.rf (show 5600 ∈ [5600, 6000, 5700, 5800, 5900, 8500] by decide)
  · rw [e]
    exact Frm.set Frm.rf (show 5600 ∈ [5600, 6000, 5700, 5800, 5900, 8500] by decide)
  · rw [e]
    rcases rb with ⟨-, -, eX⟩ | ⟨-, -, -, -, -, -, -, -, -, nF⟩
    · rw [eX]
      exact Frm.set Frm.rf (show 5600 ∈ [5600, 6000, 5700, 5800, 5900, 8500] by decide)
    · exact Frm.set (nF.mono (by decide)) (show 5600 ∈ [5600, 6000, 5700, 5800, 5900, 8500] by decide)
theorem fTrC.all {r : Int} (n : Nat) : ∀ (c1 : Int) (C1 : Nat → Int → Int → Int) (Y1 : Nat → Int → Int → Option Int) (ln1 : Int → Int), fTrC g r bs rule n c C Y ln c1 C1 Y1 ln1 → (Frm [1600, 2602, 2700] C C1 ∧ Frm [1700, 600] Y Y1) ∧ ∀ k, 0 ≤ k → k < (n : Int) → fvC C Y (bs + r) g (5 * r + k) rule = 0 := by
  induction n with
  | zero =>
    rintro c1 C1 Y1 ln1 ⟨-, rfl, rfl, -⟩
    exact ⟨⟨Frm.rf, Frm.rf⟩, fun k a b => by omega⟩
  | succ n ih =>
    rintro c1 C1 Y1 ln1 ⟨c', X', Y', l', t, v, st⟩
    obtain ⟨⟨i1, i2⟩, i3⟩ := ih c' X' Y' l' t
    obtain ⟨s1, s2⟩ := st.frm
    rw [(stC_eq i1 i2 (by decide) (by decide)).2.2.2] at v
    refine ⟨⟨i1.tr s1, i2.tr s2⟩, fun k a b => ?_⟩
    by_cases e : k = (n : Int)
    · rw [e]
      exact v
    · exact i3 k a (by omega)
theorem rTrC.all (n : Nat) : ∀ (c1 : Int) (C1 : Nat → Int → Int → Int) (Y1 : Nat → Int → Int → Option Int) (ln1 : Int → Int), rTrC g bs rule n c C Y ln c1 C1 Y1 ln1 → (Frm [1600, 2602, 2700] C C1 ∧ Frm [1700, 600] Y Y1) ∧ ∀ r k, 0 ≤ r → r < (n : Int) → 0 ≤ k → k < C 9 g r → fvC C Y (bs + r) g (5 * r + k) rule = 0 := by
  induction n with
  | zero =>
    rintro c1 C1 Y1 ln1 ⟨-, rfl, rfl, -⟩
    exact ⟨⟨Frm.rf, Frm.rf⟩, fun r k a b => by omega⟩
  | succ n ih =>
    rintro c1 C1 Y1 ln1 ⟨c', X', Y', l', t, st⟩
    obtain ⟨⟨i1, i2⟩, i3⟩ := ih c' X' Y' l' t
    obtain ⟨⟨s1, s2⟩, s3⟩ := fTrC.all _ _ _ _ _ st
    rw [(stC_eq i1 i2 (by decide) (by decide)).2.2.2, i1.arr 9 (by decide +kernel) (by decide)] at s3
    refine ⟨⟨i1.tr s1, i2.tr s2⟩, fun r k a b k0 k1 => ?_⟩
    by_cases e : r = (n : Int)
    · rw [e] at k1 ⊢
      exact s3 k k0 (by omega)
    · exact i3 r k a (by omega) k0 k1
theorem fTrM.all {r : Int} (n : Nat) : ∀ (M1 : Nat → Int → Int → Int), fTrM sv r rule bs n M M1 → Frm [5600, 6000, 5700, 5800, 5900, 8500] M M1 ∧ ∀ k, 0 ≤ k → k < (n : Int) → fvM M sv r k rule = 0 := by
  induction n with
  | zero =>
    rintro M1 rfl
    exact ⟨Frm.rf, fun k a b => by omega⟩
  | succ n ih =>
    rintro M1 ⟨M', tm, vm, sm⟩
    obtain ⟨i1, i3⟩ := ih M' tm
    rw [(stM_eq i1 (by decide)).2.2.2.2] at vm
    refine ⟨i1.tr sm.frm, fun k a b => ?_⟩
    by_cases e : k = (n : Int)
    · rw [e]
      exact vm
    · exact i3 k a (by omega)
theorem rTrM.all (n : Nat) : ∀ (M1 : Nat → Int → Int → Int), rTrM sv rule bs n M M1 → Frm [5600, 6000, 5700, 5800, 5900, 8500] M M1 ∧ ∀ r k, 0 ≤ r → r < (n : Int) → 0 ≤ k → k < M 72 0 (30 * sv + r) → fvM M sv r k rule = 0 := by
  induction n with
  | zero =>
    rintro M1 rfl
    exact ⟨Frm.rf, fun r k a b => by omega⟩
  | succ n ih =>
    rintro M1 ⟨M', tm, sm⟩
    obtain ⟨i1, i3⟩ := ih M' tm
    obtain ⟨s1, s3⟩ := fTrM.all _ _ sm
    rw [(stM_eq i1 (by decide)).2.2.2.2, i1.arr 72 (by decide +kernel) (by decide)] at s3
    refine ⟨i1.tr s1, fun r k a b k0 k1 => ?_⟩
    by_cases e : r = (n : Int)
    · rw [e] at k1 ⊢
      exact s3 k k0 (by omega)
    · exact i3 r k a (by omega) k0 k1
/-! ends -/
theorem RB.mp (h : RB c C Y ln M) (a13 : M1 40 0 13 = M 40 0 13) (a20 : M1 40 0 20 = M 40 0 20) (a22 : M1 40 0 22 = M 40 0 22) (e : ∀ κ ∈ [44, 46, 55, 56, 57, 58, 59, 62, 64, 65, 66, 67, 68], M1 κ = M κ) : RB c C Y ln M1 := by
  have e44 := e 44 (by decide)
  have e46 := e 46 (by decide)
  have e55 := e 55 (by decide)
  have e56 := e 56 (by decide)
  have e57 := e 57 (by decide)
  have e58 := e 58 (by decide)
  have e59 := e 59 (by decide)
  have e62 := e 62 (by decide)
  have e64 := e 64 (by decide)
  have e65 := e 65 (by decide)
  have e66 := e 66 (by decide)
  have e67 := e 67 (by decide)
  have e68 := e 68 (by decide)
  unfold RB rH rN nOK rR Lv LvF LvN LvI lnM fcM at *
  simp only [a13, a20, a22, e44, e46, e55, e56, e57, e58, e59, e62, e64, e65, e66, e67, e68]
  exact h
theorem RB.mfr {L : List Nat} (h : RB c C Y ln M) (hF : Frm L M M1) (hd : ∀ q ∈ [4014, 4021, 4023, 4400, 4600, 5500, 5600, 5700, 5800, 5900, 6200, 6400, 6500, 6600, 6700, 6800], q ∉ L) : RB c C Y ln M1 := h.mp (hF 40 0 13 (hd 4014 (by decide))) (hF 40 0 20 (hd 4021 (by decide))) (hF 40 0 22 (hd 4023 (by decide))) (fun κ hκ => by
  simp only [List.mem_cons, List.not_mem_nil, or_false] at hκ
  rcases hκ with rfl | rfl | rfl | rfl | rfl | rfl | rfl | rfl | rfl | rfl | rfl | rfl | rfl
  · exact hF.arr 44 (by decide +kernel) (hd 4400 (by decide))
  · exact hF.arr 46 (by decide +kernel) (hd 4600 (by decide))
  · exact hF.arr 55 (by decide +kernel) (hd 5500 (by decide))
  · exact hF.arr 56 (by decide +kernel) (hd 5600 (by decide))
  · exact hF.arr 57 (by decide +kernel) (hd 5700 (by decide))
  · exact hF.arr 58 (by decide +kernel) (hd 5800 (by decide))
  · exact hF.arr 59 (by decide +kernel) (hd 5900 (by decide))
  · exact hF.arr 62 (by decide +kernel) (hd 6200 (by decide))
  · exact hF.arr 64 (by decide +kernel) (hd 6400 (by decide))
  · exact hF.arr 65 (by decide +kernel) (hd 6500 (by decide))
  · exact hF.arr 66 (by decide +kernel) (hd 6600 (by decide))
  · exact hF.arr 67 (by decide +kernel) (hd 6700 (by decide))
  · exact hF.arr 68 (by decide +kernel) (hd 6800 (by decide)))
/-- the class's words that the relation speaks of, but for the number of things -/
theorem RB.cf {L : List Nat} (h : RB c C Y ln M) (e3 : C1 0 0 3 = C 0 0 3) (hF : Frm L C C1) (hd : ∀ q ∈ [1600, 2700, 3100, 2802, 2803], q ∉ L) : RB c C1 Y ln M := h.cc e3 (hF.arr 16 (by decide +kernel) (hd 1600 (by decide))) (hF.arr 27 (by decide +kernel) (hd 2700 (by decide))) (hF.arr 31 (by decide +kernel) (hd 3100 (by decide))) (fun n => hF 28 n 1 (hd 2802 (by decide))) (fun n => hF 28 n 2 (hd 2803 (by decide)))
/-- the new things go again, on both sides -/
theorem RB.cut {L K : List Nat} {N : Int} (h : RB c C Y ln M) (hN : 0 ≤ N ∧ N ≤ M 40 0 13) (hl : ∀ i, 0 ≤ i → i < c → 0 ≤ ln i ∧ ln i ≤ 12) (hF : Frm L C C1) (hd : ∀ q ∈ [1600, 2700, 3100, 2802, 2803], q ∉ L) (c3 : C1 0 0 3 = N) (hG : Frm K M M1) (hk : ∀ q ∈ [4021, 4023, 4400, 4600, 5500, 5600, 5700, 5800, 5900, 6200, 6400, 6500, 6600, 6700, 6800], q ∉ K) (m13 : M1 40 0 13 = N) : RB c C1 Y ln M1 := by
  have hLn : LnL (fun i => if 0 ≤ i ∧ i < c then ln i else 0) := fun i => by
    show 0 ≤ (if 0 ≤ i ∧ i < c then ln i else 0) ∧ (if 0 ≤ i ∧ i < c then ln i else 0) ≤ 12
    by_cases q : 0 ≤ i ∧ i < c
    · rw [if_pos q]
      exact hl i q.1 q.2
    · rw [if_neg q]
      exact ⟨by decide, by decide⟩
  have k1 := h.grow (ln1 := fun i => if 0 ≤ i ∧ i < c then ln i else 0) (Int.le_refl _) (fun i i0 i1 => if_pos ⟨i0, i1⟩)
  have k2 : RB c (u3 C 0 0 3 N) Y (fun i => if 0 ≤ i ∧ i < c then ln i else 0) (u3 M 40 0 13 N) := RB_less k1 ⟨u3_k _ _ _ _ (by decide), rfl, u3_k _ _ _ _ (by decide), u3_k _ _ _ _ (by decide), fun q hq => u3_k _ _ _ _ (by simp only [List.mem_cons, List.not_mem_nil, or_false] at hq; omega), u3_j _ _ _ _ (by decide), u3_j _ _ _ _ (by decide)⟩ hLn hN (u3_s _ _ _ _ _) (u3_s _ _ _ _ _) (u3_k _ _ _ _ (by decide)) (u3_k _ _ _ _ (by decide)) (u3_k _ _ _ _ (by decide)) (u3_k _ _ _ _ (by decide)) (u3_k _ _ _ _ (by decide)) rfl rfl
  have k3 := k2.grow (ln1 := ln) (Int.le_refl _) (fun i i0 i1 => (if_pos (show 0 ≤ i ∧ i < c from ⟨i0, i1⟩)).symm)
  have k4 : RB c C1 Y ln (u3 M 40 0 13 N) := k3.cc (by rw [c3, u3_s]) (by rw [u3_k _ _ _ _ (by decide)]; exact hF.arr 16 (by decide +kernel) (hd 1600 (by decide))) (by rw [u3_k _ _ _ _ (by decide)]; exact hF.arr 27 (by decide +kernel) (hd 2700 (by decide))) (by rw [u3_k _ _ _ _ (by decide)]; exact hF.arr 31 (by decide +kernel) (hd 3100 (by decide))) (fun n => by rw [u3_k _ _ _ _ (by decide)]; exact hF 28 n 1 (hd 2802 (by decide))) (fun n => by rw [u3_k _ _ _ _ (by decide)]; exact hF 28 n 2 (hd 2803 (by decide)))
  refine k4.mp (by rw [m13, u3_s]) (by rw [u3_j _ _ _ _ (by decide)]; exact hG 40 0 20 (hk 4021 (by decide))) (by rw [u3_j _ _ _ _ (by decide)]; exact hG 40 0 22 (hk 4023 (by decide))) (fun κ hκ => ?_)
  simp only [List.mem_cons, List.not_mem_nil, or_false] at hκ
  rcases hκ with rfl | rfl | rfl | rfl | rfl | rfl | rfl | rfl | rfl | rfl | rfl | rfl | rfl <;> rw [u3_k _ _ _ _ (by decide)]
  · exact hG.arr 44 (by decide +kernel) (hk 4400 (by decide))
  · exact hG.arr 46 (by decide +kernel) (hk 4600 (by decide))
  · exact hG.arr 55 (by decide +kernel) (hk 5500 (by decide))
  · exact hG.arr 56 (by decide +kernel) (hk 5600 (by decide))
  · exact hG.arr 57 (by decide +kernel) (hk 5700 (by decide))
  · exact hG.arr 58 (by decide +kernel) (hk 5800 (by decide))
  · exact hG.arr 59 (by decide +kernel) (hk 5900 (by decide))
  · exact hG.arr 62 (by decide +kernel) (hk 6200 (by decide))
  · exact hG.arr 64 (by decide +kernel) (hk 6400 (by decide))
  · exact hG.arr 65 (by decide +kernel) (hk 6500 (by decide))
  · exact hG.arr 66 (by decide +kernel) (hk 6600 (by decide))
  · exact hG.arr 67 (by decide +kernel) (hk 6700 (by decide))
  · exact hG.arr 68 (by decide +kernel) (hk 6800 (by decide))
theorem jdC_pt (a0 : C1 0 0 3 = C 0 0 3) (a1 : C1 16 = C 16) (a2 : ∀ i, C1 19 i 0 = C 19 i 0) (a3 : ∀ i, C1 19 i 1 = C 19 i 1) (a4 : C1 20 = C 20) (a5 : C1 21 = C 21) (a6 : ∀ i, C1 25 i 0 = C 25 i 0) (a7 : ∀ i, C1 25 i 1 = C 25 i 1) (a8 : ∀ i, C1 25 i 2 = C 25 i 2) (a9 : ∀ i, C1 25 i 3 = C 25 i 3) (b0 : C1 27 = C 27) (c3 : ∀ i, C1 19 i 6 = C 19 i 6) : jdC C1 Y ln = jdC C Y ln := by
  have e : ckC C1 Y ln = ckC C Y ln := by
    funext x g
    simp only [ckC, ldC, a0, a1, a2, a3, a4, a5, a6, a7, a8, a9, b0]
  funext x z
  simp only [jdC, e, c3]
end PB
