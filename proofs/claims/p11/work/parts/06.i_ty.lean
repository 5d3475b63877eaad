/-! things come, fields come and go -/
section RT
variable {C C1 M M1 : Nat → Int → Int → Int} {Y Y1 : Nat → Int → Int → Option Int} {ln ln1 : Int → Int} {c c1 : Int}
/-- the notes and rows as they are -/
def KpN (C C1 : Nat → Int → Int → Int) (Y Y1 : Nat → Int → Int → Option Int) (M M1 : Nat → Int → Int → Int) : Prop := C1 28 = C 28 ∧ Y1 28 = Y 28 ∧ C1 31 = C 31 ∧ C1 27 = C 27 ∧ (∀ k ∈ [57, 58, 59, 62, 64, 65, 66, 67, 68], M1 k = M k) ∧ M1 40 0 20 = M 40 0 20 ∧ M1 40 0 22 = M 40 0 22
theorem KpN.of {L N K : List Nat} (h : Frm L C C1) (g : Frm N Y Y1) (k : Frm K M M1) (hd : ∀ q ∈ [2801, 2802, 2803, 2804, 3100, 2700], q ∉ L) (hx : ∀ j, fcode 28 j ∉ L) (hy : ∀ j, fcode 28 j ∉ N) (hk : ∀ q ∈ [5700, 5800, 5900, 6200, 6400, 6500, 6600, 6700, 6800, 4021, 4023], q ∉ K) : KpN C C1 Y Y1 M M1 := by
  refine ⟨h.fn 28 hx, g.fn 28 hy, h.arr 31 (by decide +kernel) (hd 3100 (by decide)), h.arr 27 (by decide +kernel) (hd 2700 (by decide)), fun q hq => ?_, k 40 0 20 (hk 4021 (by decide)), k 40 0 22 (hk 4023 (by decide))⟩
  simp only [List.mem_cons, List.not_mem_nil, or_false] at hq
  rcases hq with rfl | rfl | rfl | rfl | rfl | rfl | rfl | rfl | rfl
  · exact k.arr 57 (by decide +kernel) (hk 5700 (by decide))
  · exact k.arr 58 (by decide +kernel) (hk 5800 (by decide))
  · exact k.arr 59 (by decide +kernel) (hk 5900 (by decide))
  · exact k.arr 62 (by decide +kernel) (hk 6200 (by decide))
  · exact k.arr 64 (by decide +kernel) (hk 6400 (by decide))
  · exact k.arr 65 (by decide +kernel) (hk 6500 (by decide))
  · exact k.arr 66 (by decide +kernel) (hk 6600 (by decide))
  · exact k.arr 67 (by decide +kernel) (hk 6700 (by decide))
  · exact k.arr 68 (by decide +kernel) (hk 6800 (by decide))
theorem KpN.nok {n : Int} (h : KpN C C1 Y Y1 M M1) (hl : M 67 0 n < 0 → lnM M1 (M 64 0 n) (M 65 0 n) = lnM M (M 64 0 n) (M 65 0 n)) (h9 : nOK C Y M n) : nOK C1 Y1 M1 n := by
  obtain ⟨k1, k2, k3, k4, k5, k6, k7⟩ := h
  unfold nOK at *
  rw [k5 64 (by decide), k5 65 (by decide), k5 66 (by decide), k5 67 (by decide), k5 68 (by decide), k5 57 (by decide), k1, k2]
  refine ⟨fun q => ?_, h9.2⟩
  rw [hl q]
  exact h9.1 q
theorem KpN.lv {g r l : Int} (h : KpN C C1 Y Y1 M M1) (hl : ∀ n, 0 ≤ n → n < M 40 0 22 → M 67 0 n < 0 → lnM M1 (M 64 0 n) (M 65 0 n) = lnM M (M 64 0 n) (M 65 0 n)) (hv : LvN Y1 M1 g r l ∨ LvI Y1 M1 g r l) : Lv Y M g r l := by
  obtain ⟨k1, k2, k3, k4, k5, k6, k7⟩ := h
  rcases hv with ⟨n, a, b, q67, ql, q3, qy, q68⟩ | ⟨n, a, b, q67, ql, q3, qy, q66⟩
  · rw [k7] at b
    rw [k5 67 (by decide)] at q67
    rw [k5 64 (by decide), k5 65 (by decide), hl n a b q67] at ql
    rw [k2] at qy
    rw [k5 68 (by decide)] at q68
    exact Or.inr (Or.inl ⟨n, a, b, q67, ql, q3, qy, q68⟩)
  · rw [k7] at b
    rw [k5 67 (by decide)] at q67
    rw [k5 57 (by decide)] at ql
    rw [k2] at qy
    rw [k5 66 (by decide)] at q66
    exact Or.inr (Or.inr ⟨n, a, b, q67, ql, q3, qy, q66⟩)
/-- the notes and the rows behind a change that is none of theirs: what is left to show is the places -/
theorem RB_of (h : RB c C Y ln M) (kN : KpN C C1 Y Y1 M M1) (hc : c ≤ c1) (hln : ∀ g, 0 ≤ g → g < c → ln1 g = ln g) (hl12 : LnL ln) (hl : ∀ n, 0 ≤ n → n < M 40 0 22 → M 67 0 n < 0 → lnM M1 (M 64 0 n) (M 65 0 n) = lnM M (M 64 0 n) (M 65 0 n)) (hH : rH C1 Y1 M1) (hv : ∀ g r l, LvF Y1 M1 g r l → Lv Y M g r l) : RB c1 C1 Y1 ln1 M1 := by
  obtain ⟨h1, h2, h3⟩ := h
  obtain ⟨k1, k2, k3, k4, k5, k6, k7⟩ := id kN
  refine ⟨hH, ⟨fun m a b => ?_, fun n a b => kN.nok (hl n a (by omega)) (h2.2 n a (by omega))⟩, ?_⟩
  · rw [k3, k5 62 (by decide), k7]
    exact h2.1 m a (by omega)
  · refine rR_sub h3 hc (fun g r l q => ?_) (rR_same h3 (fun g _ _ => by rw [k4]) hln (fun g r l _ => ⟨by rw [k5 57 (by decide)], by rw [k5 58 (by decide)], fun i _ _ => by rw [k5 59 (by decide)]⟩) hl12)
    rcases q with q | q
    · exact hv g r l q
    · exact kN.lv hl q
/-- N things come, the types T, all their fields as at first -/
theorem RB_things {N : Int} {T : Int → Int} (h : RB c C Y ln M) (kN : KpN C C1 Y Y1 M M1) (hl12 : LnL ln) (hN : 0 ≤ N)
    (c3 : C1 0 0 3 = C 0 0 3 + N) (c15 : ∀ y, M 40 0 13 ≤ y → y < M 40 0 13 + N → Y1 15 y 0 = some (T y)) (c15o : ∀ y, y < M 40 0 13 → Y1 15 y 0 = Y 15 y 0)
    (cn : ∀ y k, M 40 0 13 ≤ y → y < M 40 0 13 + N → 0 ≤ k → k < M 44 0 (T y) → C1 16 y k = C 22 (T y) k ∧ Y1 17 y k = none) (co : ∀ y k, y < M 40 0 13 → C1 16 y k = C 16 y k ∧ Y1 17 y k = Y 17 y k)
    (m13 : M1 40 0 13 = M 40 0 13 + N) (m44 : M1 44 = M 44) (m46 : M1 46 = M 46) (m55 : ∀ y, M 40 0 13 ≤ y → y < M 40 0 13 + N → M1 55 0 y = T y) (m55o : ∀ y, y < M 40 0 13 → M1 55 0 y = M 55 0 y)
    (mn : ∀ y k, M 40 0 13 ≤ y → y < M 40 0 13 + N → 0 ≤ k → k < M 44 0 (T y) → M1 56 0 (5 * y + k) = M 47 0 (5 * T y + k)) (mo : ∀ j, j < 5 * M 40 0 13 → M1 56 0 j = M 56 0 j) (hf : ∀ t, M 44 0 t ≤ 5)
    (hd : ∀ y k, M 40 0 13 ≤ y → y < M 40 0 13 + N → 0 ≤ k → k < M 44 0 (T y) → C 22 (T y) k = M 47 0 (5 * T y + k) ∧ (M 46 0 (5 * T y + k) ≠ 0 → M 47 0 (5 * T y + k) = -1))
    (hnt : ∀ n, 0 ≤ n → n < M 40 0 22 → M 67 0 n < 0 → M 64 0 n < M 40 0 13) : RB c C1 Y1 ln M1 := by
  have hl : ∀ y k, y < M 40 0 13 → lnM M1 y k = lnM M y k := fun y k hy => by simp only [lnM, m46, m55o y hy]
  have hc : ∀ y, y < M 40 0 13 → fcM M1 y = fcM M y := fun y hy => by simp only [fcM, m44, m55o y hy]
  have hln : ∀ y k, M 40 0 13 ≤ y → y < M 40 0 13 + N → lnM M1 y k = M 46 0 (5 * T y + k) := fun y k h0 h1 => by simp only [lnM, m46, m55 y h0 h1]
  have hcn : ∀ y, M 40 0 13 ≤ y → y < M 40 0 13 + N → fcM M1 y = M 44 0 (T y) := fun y h0 h1 => by simp only [fcM, m44, m55 y h0 h1]
  refine RB_of h kN (Int.le_refl _) (fun _ _ _ => rfl) hl12 (fun n a b q => hl _ _ (hnt n a b q)) ⟨by rw [c3, m13, h.1.1], fun y y0 y1 => ?_⟩ (fun g r l q => ?_)
  · rw [m13] at y1
    by_cases hy : y < M 40 0 13
    · obtain ⟨a1, a2⟩ := h.1.2 y y0 hy
      rw [c15o y hy, m55o y hy, hc y hy]
      refine ⟨a1, fun k k0 k1 => ?_⟩
      have hf1 : fcM M y ≤ 5 := hf _
      rw [hl y k hy, (co y k hy).1, (co y k hy).2, mo _ (by omega)]
      exact a2 k k0 k1
    · rw [c15 y (by omega) y1, m55 y (by omega) y1, hcn y (by omega) y1]
      refine ⟨rfl, fun k k0 k1 => ?_⟩
      have e1 := cn y k (by omega) y1 k0 k1
      have e2 := hd y k (by omega) y1 k0 k1
      rw [hln y k (by omega) y1, e1.1, e1.2, mn y k (by omega) y1 k0 k1]
      exact ⟨fun _ => e2.1, fun q => ⟨fun _ => by rw [e2.2 (by omega)]; decide, fun _ => rfl⟩⟩
  · obtain ⟨y, k, y0, y1, k0, k1, kl, l3, ky, kr⟩ := q
    rw [m13] at y1
    by_cases hy : y < M 40 0 13
    · have hf1 : fcM M y ≤ 5 := hf _
      rw [hc y hy] at k1
      rw [hl y k hy] at kl
      rw [(co y k hy).2] at ky
      rw [mo _ (by omega)] at kr
      exact Or.inl ⟨y, k, y0, hy, k0, k1, kl, l3, ky, kr⟩
    · rw [hcn y (by omega) y1] at k1
      rw [(cn y k (by omega) y1 k0 k1).2] at ky
      cases ky
/-- things go: the last ones, that no other and no note speaks of -/
theorem RB_less {N : Int} (h : RB c C Y ln M) (kN : KpN C C1 Y Y1 M M1) (hl12 : LnL ln) (hN : 0 ≤ N ∧ N ≤ M 40 0 13) (c3 : C1 0 0 3 = N) (m13 : M1 40 0 13 = N) (m44 : M1 44 = M 44) (m46 : M1 46 = M 46) (m55 : M1 55 = M 55) (m56 : M1 56 = M 56) (c16 : C1 16 = C 16) (y15 : Y1 15 = Y 15) (y17 : Y1 17 = Y 17) : RB c C1 Y1 ln M1 := by
  have hl : lnM M1 = lnM M := by
    funext y k
    simp only [lnM, m46, m55]
  have hc : fcM M1 = fcM M := by
    funext y
    simp only [fcM, m44, m55]
  refine RB_of h kN (Int.le_refl _) (fun _ _ _ => rfl) hl12 (fun n a b q => by rw [hl]) ⟨by rw [c3, m13], fun y y0 y1 => ?_⟩ (fun g r l q => ?_)
  · rw [hl, hc, m55, m56, c16, y15, y17]
    exact h.1.2 y y0 (by omega)
  · obtain ⟨y, k, y0, y1, k0, k1, kl, l3, ky, kr⟩ := q
    rw [hc] at k1
    rw [hl] at kl
    rw [y17] at ky
    rw [m56] at kr
    exact Or.inl ⟨y, k, y0, by omega, k0, k1, kl, l3, ky, kr⟩
/-- the things' types, their fields and lanes as they are -/
theorem RB_keep (h : RB c C Y ln M) (kN : KpN C C1 Y Y1 M M1) (hc1 : c ≤ c1) (hlN : ∀ g, 0 ≤ g → g < c → ln1 g = ln g) (hl12 : LnL ln) (c3 : C1 0 0 3 = C 0 0 3) (m13 : M1 40 0 13 = M 40 0 13) (m55 : M1 55 = M 55) (m56 : M1 56 = M 56) (c16 : C1 16 = C 16) (y15 : ∀ x, Y1 15 x 0 = Y 15 x 0) (y17 : Y1 17 = Y 17) (hf : ∀ y, 0 ≤ y → y < M 40 0 13 → fcM M1 y = fcM M y ∧ ∀ k, 0 ≤ k → k < fcM M y → lnM M1 y k = lnM M y k)
    (hnt : ∀ n, 0 ≤ n → n < M 40 0 22 → M 67 0 n < 0 → (0 ≤ M 64 0 n ∧ M 64 0 n < M 40 0 13) ∧ 0 ≤ M 65 0 n ∧ M 65 0 n < fcM M (M 64 0 n)) : RB c1 C1 Y1 ln1 M1 := by
  refine RB_of h kN hc1 hlN hl12 (fun n a b q => ?_) ⟨by rw [c3, m13]; exact h.1.1, fun y y0 y1 => ?_⟩ (fun g r l q => ?_)
  · obtain ⟨q1, q2⟩ := hnt n a b q
    exact (hf _ q1.1 q1.2).2 _ q2.1 q2.2
  · rw [m13] at y1
    obtain ⟨f1, f2⟩ := hf y y0 y1
    obtain ⟨a1, a2⟩ := h.1.2 y y0 y1
    rw [m55, m56, c16, y15, y17, f1]
    refine ⟨a1, fun k k0 k1 => ?_⟩
    rw [f2 k k0 k1]
    exact a2 k k0 k1
  · obtain ⟨y, k, y0, y1, k0, k1, kl, l3, ky, kr⟩ := q
    rw [m13] at y1
    obtain ⟨f1, f2⟩ := hf y y0 y1
    rw [f1] at k1
    rw [f2 k k0 k1] at kl
    rw [y17] at ky
    rw [m56] at kr
    exact Or.inl ⟨y, k, y0, y1, k0, k1, kl, l3, ky, kr⟩
/-- a field comes to type t: no mark stands, so no note -/
theorem RB_field {t kk dv : Int} (h : RB c C Y ln M) (kN : KpN C C1 Y Y1 M M1) (hl12 : LnL ln) (h0 : M 40 0 22 = 0) (hkk : kk = M 44 0 t) (hk4 : 0 ≤ kk ∧ kk ≤ 4) (c3 : C1 0 0 3 = C 0 0 3) (y15 : ∀ x, Y1 15 x 0 = Y 15 x 0) (m13 : M1 40 0 13 = M 40 0 13) (m55 : M1 55 = M 55) (m44 : M1 44 0 t = kk + 1) (m44o : ∀ y, y ≠ t → M1 44 0 y = M 44 0 y) (m46o : ∀ y, y ≠ 5 * t + kk → M1 46 0 y = M 46 0 y) (hf : ∀ t, M 44 0 t ≤ 5)
    (cn : ∀ x, 0 ≤ x → x < C 0 0 3 → Y 15 x 0 = some t → C1 16 x kk = dv ∧ Y1 17 x kk = none) (co : ∀ x k, 0 ≤ x → x < C 0 0 3 → ¬ (Y 15 x 0 = some t ∧ k = kk) → C1 16 x k = C 16 x k ∧ Y1 17 x k = Y 17 x k)
    (mn : ∀ x, 0 ≤ x → x < M 40 0 13 → M 55 0 x = t → M1 56 0 (5 * x + kk) = dv) (mo : ∀ x k, 0 ≤ x → x < M 40 0 13 → 0 ≤ k → k ≤ 4 → ¬ (M 55 0 x = t ∧ k = kk) → M1 56 0 (5 * x + k) = M 56 0 (5 * x + k)) (hdv : 3 ≤ M1 46 0 (5 * t + kk) → dv = -1) : RB c C1 Y1 ln M1 := by
  have hx : ∀ x, 0 ≤ x → x < M 40 0 13 → Y 15 x 0 = some (M 55 0 x) := fun x a b => (h.1.2 x a b).1
  have hc3 := h.1.1
  have hl : ∀ y k, 0 ≤ k → k < fcM M y → lnM M1 y k = lnM M y k := fun y k k0 k1 => by
    have := hf (M 55 0 y)
    simp only [fcM] at k1
    simp only [lnM, m55]
    refine m46o _ (fun q => ?_)
    by_cases e : M 55 0 y = t
    · rw [e] at q k1
      omega
    · omega
  refine RB_of h kN (Int.le_refl _) (fun _ _ _ => rfl) hl12 (fun n a b q => by omega) ⟨by rw [c3, m13]; exact hc3, fun y y0 y1 => ?_⟩ (fun g r l q => ?_)
  · rw [m13] at y1
    obtain ⟨a1, a2⟩ := h.1.2 y y0 y1
    rw [y15, m55]
    refine ⟨a1, fun k k0 k1 => ?_⟩
    by_cases e : M 55 0 y = t ∧ k = kk
    · obtain ⟨e1, e2⟩ := e
      have e3 := cn y y0 (by omega) (by rw [a1, e1])
      have e4 := mn y y0 y1 e1
      have e5 : lnM M1 y kk = M1 46 0 (5 * t + kk) := by simp only [lnM, m55, e1]
      rw [e2, e3.1, e3.2, e4, e5]
      exact ⟨fun _ => rfl, fun q => ⟨fun _ => by rw [hdv q]; decide, fun _ => rfl⟩⟩
    · have hk : k < fcM M y := by
        simp only [fcM, m55] at k1 ⊢
        by_cases e1 : M 55 0 y = t
        · rw [e1, m44] at k1
          rw [e1]
          have : k ≠ kk := fun q => e ⟨e1, q⟩
          omega
        · rw [m44o _ e1] at k1
          exact k1
      have hf1 := hf (M 55 0 y)
      have hk4' : k ≤ 4 := by
        simp only [fcM] at hk
        omega
      have e3 := co y k y0 (by omega) (fun q => e ⟨by have q1 := q.1; rw [a1] at q1; cases q1; rfl, q.2⟩)
      rw [e3.1, e3.2, mo y k y0 y1 k0 hk4' e, hl y k k0 hk]
      exact a2 k k0 hk
  · obtain ⟨y, k, y0, y1, k0, k1, kl, l3, ky, kr⟩ := q
    rw [m13] at y1
    have a1 := hx y y0 y1
    by_cases e : M 55 0 y = t ∧ k = kk
    · obtain ⟨e1, e2⟩ := e
      rw [e2, (cn y y0 (by omega) (by rw [a1, e1])).2] at ky
      cases ky
    · have hk : k < fcM M y := by
        simp only [fcM, m55] at k1 ⊢
        by_cases e1 : M 55 0 y = t
        · rw [e1, m44] at k1
          rw [e1]
          have : k ≠ kk := fun q => e ⟨e1, q⟩
          omega
        · rw [m44o _ e1] at k1
          exact k1
      have hf1 := hf (M 55 0 y)
      have hk4' : k ≤ 4 := by
        simp only [fcM] at hk
        omega
      have e3 := co y k y0 (by omega) (fun q => e ⟨by have q1 := q.1; rw [a1] at q1; cases q1; rfl, q.2⟩)
      rw [e3.2] at ky
      rw [mo y k y0 y1 k0 hk4' e] at kr
      rw [hl y k k0 hk] at kl
      exact Or.inl ⟨y, k, y0, y1, k0, hk, kl, l3, ky, kr⟩
/-- the field kk of type t goes -/
theorem RB_drop {t kk : Int} (h : RB c C Y ln M) (kN : KpN C C1 Y Y1 M M1) (hl12 : LnL ln) (h0 : M 40 0 22 = 0) (hkk : 0 ≤ kk ∧ kk < M 44 0 t) (c3 : C1 0 0 3 = C 0 0 3) (y15 : ∀ x, Y1 15 x 0 = Y 15 x 0) (m13 : M1 40 0 13 = M 40 0 13) (m55 : M1 55 = M 55) (m44 : M1 44 0 t = M 44 0 t - 1) (m44o : ∀ y, y ≠ t → M1 44 0 y = M 44 0 y) (m46 : Sh 46 M M1 0 (5 * t + kk) (5 * t + (M 44 0 t - 1))) (hf : ∀ t, M 44 0 t ≤ 5)
    (cn : ∀ x k, 0 ≤ x → x < C 0 0 3 → Y 15 x 0 = some t → kk ≤ k → k < 4 → C1 16 x k = C 16 x (k + 1) ∧ Y1 17 x k = Y 17 x (k + 1)) (co : ∀ x k, 0 ≤ x → x < C 0 0 3 → ¬ (Y 15 x 0 = some t ∧ kk ≤ k) → C1 16 x k = C 16 x k ∧ Y1 17 x k = Y 17 x k)
    (mn : ∀ x k, 0 ≤ x → x < M 40 0 13 → M 55 0 x = t → kk ≤ k → k < M 44 0 t - 1 → M1 56 0 (5 * x + k) = M 56 0 (5 * x + k + 1)) (mo : ∀ x k, 0 ≤ x → x < M 40 0 13 → 0 ≤ k → k ≤ 4 → ¬ (M 55 0 x = t ∧ kk ≤ k) → M1 56 0 (5 * x + k) = M 56 0 (5 * x + k)) : RB c C1 Y1 ln M1 := by
  have hc3 := h.1.1
  have hft := hf t
  -- a field behind is one of before
  have key : ∀ y k, 0 ≤ y → y < M 40 0 13 → 0 ≤ k → k < fcM M1 y → ∃ k', 0 ≤ k' ∧ k' < fcM M y ∧ lnM M1 y k = lnM M y k' ∧ C1 16 y k = C 16 y k' ∧ Y1 17 y k = Y 17 y k' ∧ M1 56 0 (5 * y + k) = M 56 0 (5 * y + k') := by
    intro y k y0 y1 k0 k1
    have a1 := (h.1.2 y y0 y1).1
    have hfy := hf (M 55 0 y)
    simp only [fcM, m55] at k1
    by_cases e : M 55 0 y = t ∧ kk ≤ k
    · obtain ⟨e1, e2⟩ := e
      rw [e1, m44] at k1
      have e3 := cn y k y0 (by omega) (by rw [a1, e1]) e2 (by omega)
      refine ⟨k + 1, by omega, by simp only [fcM, e1]; omega, ?_, e3.1, e3.2, by rw [mn y k y0 y1 e1 e2 k1, show 5 * y + k + 1 = 5 * y + (k + 1) by omega]⟩
      simp only [lnM, m55, e1]
      rw [m46, if_pos ⟨rfl, by omega, by omega⟩, show 5 * t + k + 1 = 5 * t + (k + 1) by omega]
    · have hk : k < M 44 0 (M 55 0 y) := by
        by_cases e1 : M 55 0 y = t
        · rw [e1, m44] at k1
          rw [e1]
          omega
        · rw [m44o _ e1] at k1
          exact k1
      have e3 := co y k y0 (by omega) (fun q => e ⟨by have q1 := q.1; rw [a1] at q1; cases q1; rfl, q.2⟩)
      refine ⟨k, k0, hk, ?_, e3.1, e3.2, mo y k y0 y1 k0 (by omega) e⟩
      simp only [lnM, m55]
      rw [m46, if_neg (fun q => ?_)]
      by_cases e1 : M 55 0 y = t
      · rw [e1] at q
        exact e ⟨e1, by omega⟩
      · omega
  refine RB_of h kN (Int.le_refl _) (fun _ _ _ => rfl) hl12 (fun n a b q => by omega) ⟨by rw [c3, m13]; exact hc3, fun y y0 y1 => ?_⟩ (fun g r l q => ?_)
  · rw [m13] at y1
    obtain ⟨a1, a2⟩ := h.1.2 y y0 y1
    rw [y15, m55]
    refine ⟨a1, fun k k0 k1 => ?_⟩
    obtain ⟨k', p1, p2, p3, p4, p5, p6⟩ := key y k y0 y1 k0 k1
    rw [p3, p4, p5, p6]
    exact a2 k' p1 p2
  · obtain ⟨y, k, y0, y1, k0, k1, kl, l3, ky, kr⟩ := q
    rw [m13] at y1
    obtain ⟨k', p1, p2, p3, p4, p5, p6⟩ := key y k y0 y1 k0 k1
    rw [p3] at kl
    rw [p5] at ky
    rw [p6] at kr
    exact Or.inl ⟨y, k', y0, y1, p1, p2, kl, l3, ky, kr⟩
end RT
