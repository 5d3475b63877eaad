/-! the class's verdicts -/
theorem tyo_s {q : Int} : tyo (some q) = q := rfl
def jdC (X : Nat → Int → Int → Int) (Y : Nat → Int → Int → Option Int) (ln : Int → Int) (x z : Int) : Prop := (z = 0 ∧ ∀ c, 0 ≤ c → c < X 19 (tyo (Y 15 x 0)) 6 → ckC X Y ln x (tyo (Y 24 (tyo (Y 15 x 0)) c)) = 0) ∨ (z ≠ 0 ∧ ∃ c, 0 ≤ c ∧ c < X 19 (tyo (Y 15 x 0)) 6 ∧ (∀ c', 0 ≤ c' → c' < c → ckC X Y ln x (tyo (Y 24 (tyo (Y 15 x 0)) c')) = 0) ∧ z = ckC X Y ln x (tyo (Y 24 (tyo (Y 15 x 0)) c)))
/-- a row of references whose end moved down by one -/
def ShY (κ : Nat) (Y Ya : Nat → Int → Int → Option Int) (q k i : Int) : Prop := ∀ y j, Ya κ y j = if y = q ∧ k ≤ j ∧ j < i then Y κ y (j + 1) else Y κ y j
theorem ShY.in_ {κ : Nat} {Y Ya : Nat → Int → Int → Option Int} {q k : Int} (h : Ya κ = Y κ) : ShY κ Y Ya q k k := fun y j => by rw [if_neg (fun g => by omega), h]
theorem ShY.step {κ : Nat} {Y Ya Yb : Nat → Int → Int → Option Int} {q k i : Int} {v : Option Int} (h : ShY κ Y Ya q k i) (hk : k ≤ i) (e : Yb κ = u3 Ya κ q i v κ) (hv : v = Ya κ q (i + 1)) : ShY κ Y Yb q k (i + 1) := fun y j => by
  rw [e]
  by_cases hc : y = q ∧ j = i
  · obtain ⟨rfl, rfl⟩ := hc
    rw [u3_s, hv, h, if_neg (fun g => by omega), if_pos ⟨rfl, hk, by omega⟩]
  · have e2 : u3 Ya κ q i v κ y j = Ya κ y j := by
      simp only [u3]
      rw [if_neg (fun g => hc g.2)]
    rw [e2, h]
    by_cases hd : y = q ∧ k ≤ j ∧ j < i
    · rw [if_pos hd, if_pos ⟨hd.1, hd.2.1, by omega⟩]
    · rw [if_neg hd, if_neg (fun g => hd ⟨g.1, g.2.1, by
        have : j ≠ i := fun q9 => hc ⟨g.1, q9⟩
        omega⟩)]
/-! a field comes to, or goes from, the things of a type, in the class -/
def FdC (X Xa : Nat → Int → Int → Int) (Y Ya : Nat → Int → Int → Option Int) (t K dv x : Int) : Prop := (∀ y, 0 ≤ y → y < x → Y 15 y 0 = some t → Xa 16 y K = dv ∧ Ya 17 y K = none) ∧ ∀ y j, ¬ (0 ≤ y ∧ y < x ∧ Y 15 y 0 = some t ∧ j = K) → Xa 16 y j = X 16 y j ∧ Ya 17 y j = Y 17 y j
def DrC (X Xa : Nat → Int → Int → Int) (Y Ya : Nat → Int → Int → Option Int) (t k x : Int) : Prop := (∀ y, 0 ≤ y → y < x → Y 15 y 0 = some t → ∀ j, Xa 16 y j = (if k ≤ j ∧ j < 4 then X 16 y (j + 1) else X 16 y j) ∧ Ya 17 y j = (if k ≤ j ∧ j < 4 then Y 17 y (j + 1) else Y 17 y j)) ∧ ∀ y, ¬ (0 ≤ y ∧ y < x ∧ Y 15 y 0 = some t) → ∀ j, Xa 16 y j = X 16 y j ∧ Ya 17 y j = Y 17 y j
section FC
variable {X Xa Xo Xe : Nat → Int → Int → Int} {Y Ya Yo Ye : Nat → Int → Int → Option Int} {t K dv x k : Int}
theorem FdC.in_ (e : ∀ y j, Xa 16 y j = X 16 y j) (f : ∀ y j, Ya 17 y j = Y 17 y j) : FdC X Xa Y Ya t K dv 0 := ⟨fun y a b => by omega, fun y j _ => ⟨e y j, f y j⟩⟩
theorem FdC.yes (h : FdC X Xa Y Ya t K dv x) (s1 : Xe 16 x K = dv) (s2 : ∀ y j, ¬ (y = x ∧ j = K) → Xe 16 y j = Xa 16 y j) (s3 : Ye 17 x K = none) (s4 : ∀ y j, ¬ (y = x ∧ j = K) → Ye 17 y j = Ya 17 y j) (hx : 0 ≤ x) (ht : Y 15 x 0 = some t) : FdC X Xe Y Ye t K dv (x + 1) := by
  refine ⟨fun y a b c => ?_, fun y j n => ?_⟩
  · by_cases e : y = x
    · rw [e]
      exact ⟨s1, s3⟩
    · rw [s2 y K (fun q => e q.1), s4 y K (fun q => e q.1)]
      exact h.1 y a (by omega) c
  · have e : ¬ (y = x ∧ j = K) := fun q => n ⟨by omega, by omega, by rw [q.1]; exact ht, q.2⟩
    rw [s2 y j e, s4 y j e]
    exact h.2 y j (fun q => n ⟨q.1, by omega, q.2.2.1, q.2.2.2⟩)
theorem FdC.no (h : FdC X Xa Y Ya t K dv x) (ht : Y 15 x 0 ≠ some t) : FdC X Xa Y Ya t K dv (x + 1) := by
  refine ⟨fun y a b c => ?_, fun y j n => h.2 y j (fun q => n ⟨q.1, by omega, q.2.2.1, q.2.2.2⟩)⟩
  exact h.1 y a (by
    have : y ≠ x := fun q => ht (by rw [← q]; exact c)
    omega) c
theorem DrC.in_ (e : ∀ y j, Xa 16 y j = X 16 y j) (f : ∀ y j, Ya 17 y j = Y 17 y j) : DrC X Xa Y Ya t k 0 := ⟨fun y a b => by omega, fun y _ j => ⟨e y j, f y j⟩⟩
theorem DrC.yes (h : DrC X Xa Y Ya t k x) (s1 : Sh 16 Xo Xe x k 4) (s2 : ShY 17 Yo Ye x k 4) (e1 : ∀ y j, Xo 16 y j = Xa 16 y j) (e2 : ∀ y j, Yo 17 y j = Ya 17 y j) (hx : 0 ≤ x) (ht : Y 15 x 0 = some t) : DrC X Xe Y Ye t k (x + 1) := by
  refine ⟨fun y a b c j => ?_, fun y n j => ?_⟩
  · rw [s1, s2, e1, e1, e2, e2]
    by_cases e : y = x
    · subst e
      have h9 := fun j => h.2 y (fun q => by omega) j
      by_cases q : k ≤ j ∧ j < 4
      · have q2 : y = y ∧ k ≤ j ∧ j < 4 := ⟨rfl, q.1, q.2⟩
        rw [if_pos q2, if_pos q2, if_pos q, if_pos q]
        exact h9 (j + 1)
      · have q2 : ¬ (y = y ∧ k ≤ j ∧ j < 4) := fun w => q w.2
        rw [if_neg q2, if_neg q2, if_neg q, if_neg q]
        exact h9 j
    · have q2 : ¬ (y = x ∧ k ≤ j ∧ j < 4) := fun w => e w.1
      rw [if_neg q2, if_neg q2]
      exact h.1 y a (by omega) c j
  · have e : y ≠ x := fun q => n ⟨by omega, by omega, by rw [q]; exact ht⟩
    rw [s1, s2, if_neg (fun w => e w.1), if_neg (fun w => e w.1), e1, e2]
    exact h.2 y (fun q => n ⟨q.1, by omega, q.2.2⟩) j
theorem DrC.no (h : DrC X Xa Y Ya t k x) (ht : Y 15 x 0 ≠ some t) : DrC X Xa Y Ya t k (x + 1) := by
  refine ⟨fun y a b c => ?_, fun y n => h.2 y (fun q => n ⟨q.1, by omega, q.2.2⟩)⟩
  exact h.1 y a (by
    have : y ≠ x := fun q => ht (by rw [← q]; exact c)
    omega) c
end FC
/-- verdicts over versions, in the class -/
theorem ckC_frm {M N : List Nat} {X X1 : Nat → Int → Int → Int} {Y Y1 : Nat → Int → Int → Option Int} {ln : Int → Int} (hF : Frm M X X1) (hH : Frm N Y Y1) (hd : ∀ c ∈ [4, 1600, 1901, 1902, 2000, 2100, 2501, 2502, 2503, 2504, 2700], c ∉ M) (he : ∀ c ∈ [1501, 1700], c ∉ N) : ckC X1 Y1 ln = ckC X Y ln := by
  have a0 : X1 0 0 3 = X 0 0 3 := hF 0 0 3 (hd 4 (by decide))
  have a1 : X1 16 = X 16 := hF.arr 16 (by decide +kernel) (hd 1600 (by decide))
  have a2 : ∀ i, X1 19 i 0 = X 19 i 0 := fun i => hF 19 i 0 (hd 1901 (by decide))
  have a3 : ∀ i, X1 19 i 1 = X 19 i 1 := fun i => hF 19 i 1 (hd 1902 (by decide))
  have a4 : X1 20 = X 20 := hF.arr 20 (by decide +kernel) (hd 2000 (by decide))
  have a5 : X1 21 = X 21 := hF.arr 21 (by decide +kernel) (hd 2100 (by decide))
  have a6 : ∀ i, X1 25 i 0 = X 25 i 0 := fun i => hF 25 i 0 (hd 2501 (by decide))
  have a7 : ∀ i, X1 25 i 1 = X 25 i 1 := fun i => hF 25 i 1 (hd 2502 (by decide))
  have a8 : ∀ i, X1 25 i 2 = X 25 i 2 := fun i => hF 25 i 2 (hd 2503 (by decide))
  have a9 : ∀ i, X1 25 i 3 = X 25 i 3 := fun i => hF 25 i 3 (hd 2504 (by decide))
  have b0 : X1 27 = X 27 := hF.arr 27 (by decide +kernel) (hd 2700 (by decide))
  have c1 : ∀ i, Y1 15 i 0 = Y 15 i 0 := fun i => hH 15 i 0 (he 1501 (by decide))
  have c2 : Y1 17 = Y 17 := hH.arr 17 (by decide +kernel) (he 1700 (by decide))
  funext x g
  simp only [ckC, ldC, a0, a1, a2, a3, a4, a5, a6, a7, a8, a9, b0, c1, c2]
theorem jdC_frm {M N : List Nat} {X X1 : Nat → Int → Int → Int} {Y Y1 : Nat → Int → Int → Option Int} {ln : Int → Int} (hF : Frm M X X1) (hH : Frm N Y Y1) (hd : ∀ c ∈ [4, 1600, 1901, 1902, 1907, 2000, 2100, 2501, 2502, 2503, 2504, 2700], c ∉ M) (he : ∀ c ∈ [1501, 1700, 2400], c ∉ N) : jdC X1 Y1 ln = jdC X Y ln := by
  have e := ckC_frm (ln := ln) hF hH (fun c hc => hd c (by simp only [List.mem_cons, List.not_mem_nil, or_false] at hc ⊢; omega)) (fun c hc => he c (by simp only [List.mem_cons, List.not_mem_nil, or_false] at hc ⊢; omega))
  have c1 : ∀ i, Y1 15 i 0 = Y 15 i 0 := fun i => hH 15 i 0 (he 1501 (by decide))
  have c2 : Y1 24 = Y 24 := hH.arr 24 (by decide +kernel) (he 2400 (by decide))
  have c3 : ∀ i, X1 19 i 6 = X 19 i 6 := fun i => hF 19 i 6 (hd 1907 (by decide))
  funext x z
  simp only [jdC, e, c1, c2, c3]
