/-! a check's verdict, out of what it reads -/
def rlen (ln : Int → Int) : Option Int → Int
  | none => -1
  | some q => ln q
theorem rlen_n {ln : Int → Int} : rlen ln none = -1 := rfl
theorem rlen_s {ln : Int → Int} {q : Int} : rlen ln (some q) = ln q := rfl
def ckF (kd a b v fc la lb va vb rn it mt ld : Int) : Int :=
  if kd = 0 then (if ¬ (a < fc ∧ la = 0 ∧ b < fc ∧ lb = 0) then 4 else if vb = 0 then 5 else 0)
  else if kd = 1 then (if ¬ (a < fc ∧ la = 2) then 4 else if mt < 0 then 1 else if mt = v then 0 else 4)
  else if kd = 2 then (if ¬ (a < fc ∧ 3 ≤ la ∧ b < fc ∧ lb = 0) then 4 else if rn < 0 then 1 else if vb < 0 ∨ rn ≤ vb then 2 else if v < it then 0 else 6)
  else if kd = 3 then (if ¬ (a < fc ∧ la = 0) then 4 else if 12 < va then 6 else if va < 0 then 3 else 0)
  else if kd = 4 then (if ¬ (a < fc ∧ la = 0) then 4 else if va < v then 6 else 0)
  else (if ¬ (a < fc ∧ la = 2) then 4 else if mt < 0 then 1 else if ld < -1 then 4 else if ld < 0 then 1 else 0)
def ldM (X : Nat → Int → Int → Int) (x y a : Int) : Int := if nmAt (fun j => X 45 0 (5 * X 55 0 y + j)) (X 45 0 (5 * X 55 0 x + a)) (X 44 0 (X 55 0 y)).toNat < 0 then -2 else if X 46 0 (5 * X 55 0 y + nmAt (fun j => X 45 0 (5 * X 55 0 y + j)) (X 45 0 (5 * X 55 0 x + a)) (X 44 0 (X 55 0 y)).toNat) ≠ 2 then -2 else X 56 0 (5 * y + nmAt (fun j => X 45 0 (5 * X 55 0 y + j)) (X 45 0 (5 * X 55 0 x + a)) (X 44 0 (X 55 0 y)).toNat)
def ckM (X : Nat → Int → Int → Int) (x c : Int) : Int := ckF (X 50 0 c) (X 51 0 c) (X 52 0 c) (X 53 0 c) (X 44 0 (X 55 0 x)) (X 46 0 (5 * X 55 0 x + X 51 0 c)) (X 46 0 (5 * X 55 0 x + X 52 0 c)) (X 56 0 (5 * x + X 51 0 c)) (X 56 0 (5 * x + X 52 0 c)) (if X 56 0 (5 * x + X 51 0 c) < 0 then -1 else X 58 0 (X 56 0 (5 * x + X 51 0 c))) (X 59 0 (12 * X 56 0 (5 * x + X 51 0 c) + X 56 0 (5 * x + X 52 0 c))) (if X 56 0 (5 * x + X 51 0 c) < 0 then -1 else X 55 0 (X 56 0 (5 * x + X 51 0 c))) (ldM X x (X 56 0 (5 * x + X 51 0 c)) (X 51 0 c))
def ldC (X : Nat → Int → Int → Int) (Y : Nat → Int → Int → Option Int) (x y a : Int) : Int := if nmAt (X 20 (tyo (Y 15 y 0))) (X 20 (tyo (Y 15 x 0)) a) (X 19 (tyo (Y 15 y 0)) 1).toNat < 0 then -2 else if X 21 (tyo (Y 15 y 0)) (nmAt (X 20 (tyo (Y 15 y 0))) (X 20 (tyo (Y 15 x 0)) a) (X 19 (tyo (Y 15 y 0)) 1).toNat) ≠ 2 then -2 else if 0 ≤ X 16 y (nmAt (X 20 (tyo (Y 15 y 0))) (X 20 (tyo (Y 15 x 0)) a) (X 19 (tyo (Y 15 y 0)) 1).toNat) ∧ X 16 y (nmAt (X 20 (tyo (Y 15 y 0))) (X 20 (tyo (Y 15 x 0)) a) (X 19 (tyo (Y 15 y 0)) 1).toNat) < X 0 0 3 then X 16 y (nmAt (X 20 (tyo (Y 15 y 0))) (X 20 (tyo (Y 15 x 0)) a) (X 19 (tyo (Y 15 y 0)) 1).toNat) else -1
def ckC (X : Nat → Int → Int → Int) (Y : Nat → Int → Int → Option Int) (ln : Int → Int) (x g : Int) : Int := ckF (X 25 g 0) (X 25 g 1) (X 25 g 2) (X 25 g 3) (X 19 (tyo (Y 15 x 0)) 1) (X 21 (tyo (Y 15 x 0)) (X 25 g 1)) (X 21 (tyo (Y 15 x 0)) (X 25 g 2)) (X 16 x (X 25 g 1)) (X 16 x (X 25 g 2)) (rlen ln (Y 17 x (X 25 g 1))) (X 27 (tyo (Y 17 x (X 25 g 1))) (X 16 x (X 25 g 2))) (if 0 ≤ X 16 x (X 25 g 1) ∧ X 16 x (X 25 g 1) < X 0 0 3 then X 19 (tyo (Y 15 (X 16 x (X 25 g 1)) 0)) 0 else -1) (ldC X Y x (X 16 x (X 25 g 1)) (X 25 g 1))
theorem u3_own {α : Type} (Z : Nat → Int → Int → α) (k : Nat) (i j : Int) : u3 Z k i j (Z k i j) = Z := by
  funext k' i' j'
  simp only [u3]
  split
  · rename_i h
    obtain ⟨rfl, rfl, rfl⟩ := h
    rfl
  · rfl
/-! the reference's drop over the things -/
def DrI (X Xb : Nat → Int → Int → Int) (t k j x : Int) : Prop := ∀ y i, 0 ≤ y → y < X 40 0 13 → 0 ≤ i → i ≤ 4 → Xb 56 0 (5 * y + i) = if X 55 0 y = t ∧ k ≤ i ∧ (i < j ∨ (i = j ∧ y < x)) then X 56 0 (5 * y + i + 1) else X 56 0 (5 * y + i)
section DI
variable {X Xa Xb Xc : Nat → Int → Int → Int} {t k j x v : Int}
theorem DrI.in_ (h : ∀ p, Xa 56 0 p = X 56 0 p) : DrI X Xa t k k 0 := fun y i y0 y1 i0 i1 => by rw [if_neg (fun q => by omega), h]
theorem DrI.of (h : DrI X Xa t k j x) (e : ∀ p, Xb 56 0 p = Xa 56 0 p) : DrI X Xb t k j x := fun y i y0 y1 i0 i1 => by rw [e]; exact h y i y0 y1 i0 i1
theorem DrI.yes (h : DrI X Xb t k j x) (hx : 0 ≤ x ∧ x < X 40 0 13) (hj : 0 ≤ j ∧ j ≤ 3) (hk : k ≤ j) (ht : X 55 0 x = t) (e : Xc = u3 Xb 56 0 (5 * x + j) v) (hv : v = Xb 56 0 (5 * x + j + 1)) : DrI X Xc t k j (x + 1) := fun y i y0 y1 i0 i1 => by
  by_cases q : y = x ∧ i = j
  · obtain ⟨rfl, rfl⟩ := q
    have h9 := h y (i + 1) y0 y1 (by omega) (by omega)
    rw [if_neg (fun q => by omega), show 5 * y + (i + 1) = 5 * y + i + 1 by omega] at h9
    rw [e, u3_s, hv, h9, if_pos ⟨ht, hk, Or.inr ⟨rfl, by omega⟩⟩]
  · rw [e, u3_j _ _ _ _ (by omega), h y i y0 y1 i0 i1]
    by_cases c : X 55 0 y = t ∧ k ≤ i ∧ (i < j ∨ (i = j ∧ y < x))
    · rw [if_pos c, if_pos ⟨c.1, c.2.1, by omega⟩]
    · rw [if_neg c, if_neg (fun c2 => c ⟨c2.1, c2.2.1, by omega⟩)]
theorem DrI.no (h : DrI X Xb t k j x) (ht : X 55 0 x ≠ t) (e : Xc = u3 Xb 56 0 (5 * x + j) (Xb 56 0 (5 * x + j))) : DrI X Xc t k j (x + 1) := fun y i y0 y1 i0 i1 => by
  rw [e, u3_own, h y i y0 y1 i0 i1]
  by_cases c : X 55 0 y = t ∧ k ≤ i ∧ (i < j ∨ (i = j ∧ y < x))
  · rw [if_pos c, if_pos ⟨c.1, c.2.1, by omega⟩]
  · rw [if_neg c, if_neg (fun c2 => c ⟨c2.1, c2.2.1, by
      rcases c2.2.2 with q | ⟨q1, q2⟩
      · exact Or.inl q
      · have : y ≠ x := fun q => ht (by rw [← q]; exact c2.1)
        exact Or.inr ⟨q1, by omega⟩⟩)]
theorem DrI.out (h : DrI X Xb t k j x) (hx : X 40 0 13 ≤ x) : DrI X Xb t k (j + 1) 0 := fun y i y0 y1 i0 i1 => by
  rw [h y i y0 y1 i0 i1]
  by_cases c : X 55 0 y = t ∧ k ≤ i ∧ (i < j ∨ (i = j ∧ y < x))
  · rw [if_pos c, if_pos ⟨c.1, c.2.1, by omega⟩]
  · rw [if_neg c, if_neg (fun c2 => c ⟨c2.1, c2.2.1, by omega⟩)]
theorem DrI.fin (h : DrI X Xb t k j 0) : (∀ y i, 0 ≤ y → y < X 40 0 13 → X 55 0 y = t → k ≤ i → i < j → 0 ≤ i → i ≤ 4 → Xb 56 0 (5 * y + i) = X 56 0 (5 * y + i + 1)) ∧ ∀ y i, 0 ≤ y → y < X 40 0 13 → 0 ≤ i → i ≤ 4 → ¬ (X 55 0 y = t ∧ k ≤ i) → Xb 56 0 (5 * y + i) = X 56 0 (5 * y + i) :=
  ⟨fun y i y0 y1 e a b c d => by rw [h y i y0 y1 c d, if_pos ⟨e, a, Or.inl b⟩], fun y i y0 y1 c d n => by rw [h y i y0 y1 c d, if_neg (fun q => n ⟨q.1, q.2.1⟩)]⟩
end DI
/-! the reference's undoing, a step more -/
theorem uTrM.push {N : Int} {V Xa Xn : Nat → Int → Int → Int} (h : uTrM N (N - Xa 40 0 22).toNat V Xa) (hN : Xa 40 0 22 ≤ N) (hs : uStM (Xa 40 0 22 - 1) Xa Xn) (e : Xn 40 0 22 = Xa 40 0 22 - 1) : uTrM N (N - Xn 40 0 22).toNat V Xn := by
  rw [show (N - Xn 40 0 22).toNat = (N - Xa 40 0 22).toNat + 1 by omega]
  refine ⟨Xa, h, ?_⟩
  rw [show N - 1 - (((N - Xa 40 0 22).toNat : Nat) : Int) = Xa 40 0 22 - 1 by omega]
  exact hs
theorem uTrC.push {N iz : Int} {X Xa Xn : Nat → Int → Int → Int} {Y Ya Yn : Nat → Int → Int → Option Int} (h : uTrC N (N - 1 - iz).toNat X Y Xa Ya) (hN : iz ≤ N - 1) (hs : uStC iz Xa Xn Ya Yn) : uTrC N (N - 1 - (iz - 1)).toNat X Y Xn Yn := by
  rw [show (N - 1 - (iz - 1)).toNat = (N - 1 - iz).toNat + 1 by omega]
  refine ⟨Xa, Ya, h, ?_⟩
  rw [show N - 1 - (((N - 1 - iz).toNat : Nat) : Int) = iz by omega]
  exact hs
