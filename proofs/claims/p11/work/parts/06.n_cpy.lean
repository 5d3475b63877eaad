/-! blocks that are copied; saves that are the same; the first difference -/
def andZ (a b : Int) : Int := (jI a &&& jI b).toInt
def CpK (κ : Nat) (E X : Nat → Int → Int → Int) (d s0 n : Int) : Prop := ∀ j, X κ 0 j = if d ≤ j ∧ j < d + n then E κ 0 (s0 + (j - d)) else E κ 0 j
section CP
variable {κ : Nat} {E Xa Xb Xc : Nat → Int → Int → Int} {d s0 n a b v : Int}
theorem CpK.in_ (h : Xa κ = E κ) : CpK κ E Xa d s0 0 := fun j => by rw [if_neg (fun q => by omega), h]
theorem CpK.of (h : CpK κ E Xa d s0 n) (e : Xb κ = Xa κ) : CpK κ E Xb d s0 n := fun j => by rw [e]; exact h j
theorem CpK.len {m : Int} (h : CpK κ E Xa d s0 n) (e : n = m) : CpK κ E Xa d s0 m := by rw [← e]; exact h
theorem CpK.step (h : CpK κ E Xa d s0 n) (hn : 0 ≤ n) (hd : d + n ≤ s0) (e0 : Xc κ = Xa κ) (e : Xb κ = u3 Xc κ 0 a v κ) (ha : a = d + n) (hv : v = Xa κ 0 b) (hb : b = s0 + n) : CpK κ E Xb d s0 (n + 1) := fun j => by
  rw [e]
  by_cases hc : j = a
  · rw [hc, u3_s, hv, h, if_neg (fun q => by omega), if_pos ⟨by omega, by omega⟩]
    congr 1
    omega
  · rw [u3_j _ _ _ _ hc, e0, h]
    by_cases q : d ≤ j ∧ j < d + n
    · rw [if_pos q, if_pos ⟨q.1, by omega⟩]
    · rw [if_neg q, if_neg (fun q2 => q ⟨q2.1, by omega⟩)]
theorem CpK.at_ (h : CpK κ E Xa d s0 n) {i : Int} (h0 : 0 ≤ i) (h1 : i < n) : Xa κ 0 (d + i) = E κ 0 (s0 + i) := by
  rw [h, if_pos ⟨by omega, by omega⟩]
  congr 1
  omega
theorem CpK.out (h : CpK κ E Xa d s0 n) {j : Int} (hj : ¬ (d ≤ j ∧ j < d + n)) : Xa κ 0 j = E κ 0 j := by rw [h, if_neg hj]
end CP
/-- what of the first four saves stays when the fifth is written -/
def S5 (X X1 : Nat → Int → Int → Int) : Prop := (∀ j, j ≤ 3 → X1 76 0 j = X 76 0 j) ∧ (∀ j, j < 600 → X1 73 0 j = X 73 0 j ∧ X1 77 0 j = X 77 0 j ∧ X1 78 0 j = X 78 0 j) ∧ ∀ j, j < 7200 → X1 79 0 j = X 79 0 j
section SF
variable {X X1 X2 : Nat → Int → Int → Int} {M : List Nat}
theorem S5.rf : S5 X X := ⟨fun _ _ => rfl, fun _ _ => ⟨rfl, rfl, rfl⟩, fun _ _ => rfl⟩
theorem S5.tr (h : S5 X X1) (g : S5 X1 X2) : S5 X X2 := ⟨fun j q => (g.1 j q).trans (h.1 j q), fun j q => ⟨(g.2.1 j q).1.trans (h.2.1 j q).1, (g.2.1 j q).2.1.trans (h.2.1 j q).2.1, (g.2.1 j q).2.2.trans (h.2.1 j q).2.2⟩, fun j q => (g.2.2 j q).trans (h.2.2 j q)⟩
theorem S5.set {k : Nat} {i z v : Int} (h : S5 X X1) (hk : (k = 76 → 4 ≤ z) ∧ (k = 73 → 600 ≤ z) ∧ (k = 77 → 600 ≤ z) ∧ (k = 78 → 600 ≤ z) ∧ (k = 79 → 7200 ≤ z)) : S5 X (u3 X1 k i z v) :=
  ⟨fun j q => (u3_at (by omega)).trans (h.1 j q), fun j q => ⟨(u3_at (by omega)).trans (h.2.1 j q).1, (u3_at (by omega)).trans (h.2.1 j q).2.1, (u3_at (by omega)).trans (h.2.1 j q).2.2⟩, fun j q => (u3_at (by omega)).trans (h.2.2 j q)⟩
theorem S5.frm (hF : Frm M X X1) (hd : ∀ c ∈ [7300, 7600, 7700, 7800, 7900], c ∉ M) : S5 X X1 := ⟨fun j _ => hF 76 0 j (hd 7600 (by decide)), fun j _ => ⟨hF 73 0 j (hd 7300 (by decide)), hF 77 0 j (hd 7700 (by decide)), hF 78 0 j (hd 7800 (by decide))⟩, fun j _ => hF 79 0 j (hd 7900 (by decide))⟩
end SF
/-- rows of saves that are the same -/
def rdE (X : Nat → Int → Int → Int) (a b : Int) : Prop := X 77 0 a = X 77 0 b ∧ X 78 0 a = X 78 0 b ∧ ∀ k, 0 ≤ k → k < X 78 0 a → X 79 0 (12 * a + k) = X 79 0 (12 * b + k)
def dfP (n : Int) (sh : Int → Prop) (fc : Int → Int) (vq : Int → Int → Prop) (nm : Int → Int → Int) (z : Int) : Prop := (z = -1 ∧ ∀ r, 0 ≤ r → r < n → sh r ∧ ∀ f, 0 ≤ f → f < fc r → vq r f) ∨ ∃ r, 0 ≤ r ∧ r < n ∧ (∀ r', 0 ≤ r' → r' < r → sh r' ∧ ∀ f, 0 ≤ f → f < fc r' → vq r' f) ∧ ((¬ sh r ∧ z = 100 * r + 99) ∨ (sh r ∧ ∃ f, 0 ≤ f ∧ f < fc r ∧ (∀ f', 0 ≤ f' → f' < f → vq r f') ∧ ¬ vq r f ∧ z = 100 * r + nm r f))
theorem dfP_uniq {n : Int} {sh sh' : Int → Prop} {fc fc' : Int → Int} {vq vq' : Int → Int → Prop} {nm nm' : Int → Int → Int} {z z' : Int} (h : dfP n sh fc vq nm z) (h' : dfP n sh' fc' vq' nm' z') (e : ∀ r, 0 ≤ r → r < n → (sh r ↔ sh' r) ∧ (sh r → fc r = fc' r ∧ ∀ f, 0 ≤ f → f < fc r → (vq r f ↔ vq' r f) ∧ nm r f = nm' r f)) : z = z' := by
  have ok : ∀ r, 0 ≤ r → r < n → (sh r ∧ ∀ f, 0 ≤ f → f < fc r → vq r f) → (sh' r ∧ ∀ f, 0 ≤ f → f < fc' r → vq' r f) := fun r a b q => by
    obtain ⟨e1, e2⟩ := e r a b
    obtain ⟨e3, e4⟩ := e2 q.1
    exact ⟨e1.mp q.1, fun f f0 f1 => (e4 f f0 (by omega)).1.mp (q.2 f f0 (by omega))⟩
  have ko : ∀ r, 0 ≤ r → r < n → (sh' r ∧ ∀ f, 0 ≤ f → f < fc' r → vq' r f) → (sh r ∧ ∀ f, 0 ≤ f → f < fc r → vq r f) := fun r a b q => by
    obtain ⟨e1, e2⟩ := e r a b
    have q1 := e1.mpr q.1
    obtain ⟨e3, e4⟩ := e2 q1
    exact ⟨q1, fun f f0 f1 => (e4 f f0 f1).1.mpr (q.2 f f0 (by omega))⟩
  -- a difference at r is none where all are the same
  have bad : ∀ r, 0 ≤ r → r < n → ((¬ sh r ∧ z = 100 * r + 99) ∨ (sh r ∧ ∃ f, 0 ≤ f ∧ f < fc r ∧ (∀ f', 0 ≤ f' → f' < f → vq r f') ∧ ¬ vq r f ∧ z = 100 * r + nm r f)) → ¬ (sh r ∧ ∀ f, 0 ≤ f → f < fc r → vq r f) := fun r a b q w => by
    rcases q with ⟨q, -⟩ | ⟨-, f, f0, f1, -, q, -⟩
    · exact q w.1
    · exact q (w.2 f f0 f1)
  have bad' : ∀ r, 0 ≤ r → r < n → ((¬ sh' r ∧ z' = 100 * r + 99) ∨ (sh' r ∧ ∃ f, 0 ≤ f ∧ f < fc' r ∧ (∀ f', 0 ≤ f' → f' < f → vq' r f') ∧ ¬ vq' r f ∧ z' = 100 * r + nm' r f)) → ¬ (sh' r ∧ ∀ f, 0 ≤ f → f < fc' r → vq' r f) := fun r a b q w => by
    rcases q with ⟨q, -⟩ | ⟨-, f, f0, f1, -, q, -⟩
    · exact q w.1
    · exact q (w.2 f f0 f1)
  rcases h with ⟨z1, a1⟩ | ⟨r, r0, r1, a1, d1⟩ <;> rcases h' with ⟨z2, a2⟩ | ⟨r', r0', r1', a2, d2⟩
  · omega
  · exact absurd (ok r' r0' r1' (a1 r' r0' r1')) (bad' r' r0' r1' d2)
  · exact absurd (ko r r0 r1 (a2 r r0 r1)) (bad r r0 r1 d1)
  · have hr : r = r' := by
      by_cases h1 : r < r'
      · exact absurd (ko r r0 r1 (a2 r r0 h1)) (bad r r0 r1 d1)
      · by_cases h2 : r' < r
        · exact absurd (ok r' r0' r1' (a1 r' r0' h2)) (bad' r' r0' r1' d2)
        · omega
    subst hr
    obtain ⟨e1, e2⟩ := e r r0 r1
    rcases d1 with ⟨q1, z1⟩ | ⟨q1, f, f0, f1, p1, n1, z1⟩ <;> rcases d2 with ⟨q2, z2⟩ | ⟨q2, f', f0', f1', p2, n2, z2⟩
    · omega
    · exact absurd (e1.mpr q2) q1
    · exact absurd (e1.mp q1) q2
    · obtain ⟨e3, e4⟩ := e2 q1
      have hf : f = f' := by
        by_cases h1 : f < f'
        · exact absurd ((e4 f f0 f1).1.mpr (p2 f f0 h1)) n1
        · by_cases h2 : f' < f
          · exact absurd ((e4 f' f0' (by omega)).1.mp (p1 f' f0' h2)) n2
          · omega
      subst hf
      have := (e4 f f0 f1).2
      omega
theorem rdr_eq {L : List Nat} {X X0 : Nat → Int → Int → Int} (hF : Frm L X X0) (hd : ∀ q ∈ [4400, 4600, 5500, 5600], q ∉ L) : fcM X0 = fcM X ∧ lnM X0 = lnM X ∧ mRid X0 = mRid X := by
  have e4 := hF.arr 44 (by decide +kernel) (hd 4400 (by decide))
  have e6 := hF.arr 46 (by decide +kernel) (hd 4600 (by decide))
  have e5 := hF.arr 55 (by decide +kernel) (hd 5500 (by decide))
  have f6 := hF.arr 56 (by decide +kernel) (hd 5600 (by decide))
  refine ⟨?_, ?_, ?_⟩
  · funext y
    simp only [fcM, e4, e5]
  · funext y k
    simp only [lnM, e6, e5]
  · funext y k
    simp only [mRid, f6]
def svC (E X1 : Nat → Int → Int → Int) (sv : Int) : Prop := X1 70 0 sv = E 70 0 4 ∧ X1 76 0 sv = E 76 0 4 ∧ (∀ j, j ≠ sv → X1 70 0 j = E 70 0 j ∧ X1 76 0 j = E 76 0 j) ∧ CpK 71 E X1 (30 * sv) 120 (E 70 0 4) ∧ CpK 72 E X1 (30 * sv) 120 (E 70 0 4) ∧ CpK 73 E X1 (150 * sv) 600 (5 * E 70 0 4) ∧ CpK 74 E X1 (150 * sv) 600 (5 * E 70 0 4) ∧ CpK 75 E X1 (150 * sv) 600 (5 * E 70 0 4) ∧ CpK 77 E X1 (150 * sv) 600 (E 76 0 4) ∧ CpK 78 E X1 (150 * sv) 600 (E 76 0 4) ∧ CpK 79 E X1 (1800 * sv) 7200 (12 * E 76 0 4)
def shM (X : Nat → Int → Int → Int) (sv r : Int) : Prop := r < X 70 0 sv ∧ r < X 70 0 4 ∧ X 71 0 (30 * sv + r) = X 71 0 (120 + r) ∧ X 72 0 (30 * sv + r) = X 72 0 (120 + r) ∧ ∀ k, 0 ≤ k → k < X 72 0 (30 * sv + r) → X 73 0 (5 * (30 * sv + r) + k) = X 73 0 (5 * (120 + r) + k) ∧ X 74 0 (5 * (30 * sv + r) + k) = X 74 0 (5 * (120 + r) + k)
def vqM (X : Nat → Int → Int → Int) (sv r f : Int) : Prop := X 75 0 (5 * (30 * sv + r) + f) = X 75 0 (5 * (120 + r) + f) ∧ (2 < X 74 0 (5 * (30 * sv + r) + f) → 0 ≤ X 75 0 (5 * (30 * sv + r) + f) → rdE X (150 * sv + X 75 0 (5 * (30 * sv + r) + f)) (600 + X 75 0 (5 * (30 * sv + r) + f)))
def mxM (X : Nat → Int → Int → Int) (sv : Int) : Int := if X 70 0 4 < X 70 0 sv then X 70 0 sv else X 70 0 4
