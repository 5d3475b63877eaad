/-! what has been recorded: each thing once, with a number -/
def rcOK (X : Nat → Int → Int → Int) (Y : Nat → Int → Int → Option Int) (g : Int) : Prop := (∀ r, 0 ≤ r → r < X 7 g 0 → ∃ x, Y 5 0 r = some x ∧ 0 ≤ x ∧ x < X 0 0 3 ∧ 0 ≤ X 15 x 3) ∧ ∀ r q x, 0 ≤ r → r < X 7 g 0 → 0 ≤ q → q < X 7 g 0 → Y 5 0 r = some x → Y 5 0 q = some x → r = q
theorem rcOK.room {X : Nat → Int → Int → Int} {Y : Nat → Int → Int → Option Int} {g x : Int} (h : rcOK X Y g) (hR : Rng X) (h0 : 0 ≤ x) (hx : x < X 0 0 3) (hn : X 15 x 3 < 0) : X 7 g 0 ≤ 29 := by
  have h1 : 0 ≤ X 7 g 0 ∧ X 7 g 0 ≤ 30 := hR 7 g 0
  have h2 : 0 ≤ X 0 0 3 ∧ X 0 0 3 ≤ 30 := hR 0 0 3
  have hat : ∀ r : Nat, (r : Int) < X 7 g 0 → ∃ y, Y 5 0 r = some y ∧ 0 ≤ y ∧ y < X 0 0 3 ∧ 0 ≤ X 15 y 3 := fun r hr => h.1 r (by omega) hr
  have h3 := pgn2 ((X 7 g 0).toNat + 1) (fun r => if (r : Int) < X 7 g 0 then (Y 5 0 r).getD 0 else x) 30 (fun r hr => by
    split
    · rename_i hc
      obtain ⟨y, e, y0, y1, -⟩ := hat r hc
      rw [e, Option.getD_some]
      omega
    · omega) (fun r q hr hq e => by
    split at e <;> split at e
    · rename_i hc hd
      obtain ⟨y, e1, -⟩ := hat r hc
      obtain ⟨y', e2, -⟩ := hat q hd
      rw [e1, e2, Option.getD_some, Option.getD_some] at e
      subst e
      have := h.2 r q y (by omega) hc (by omega) hd e1 e2
      omega
    · rename_i hc hd
      obtain ⟨y, e1, -, -, y3⟩ := hat r hc
      rw [e1, Option.getD_some] at e
      subst e
      omega
    · rename_i hc hd
      obtain ⟨y, e1, -, -, y3⟩ := hat q hd
      rw [e1, Option.getD_some] at e
      subst e
      omega
    · omega)
  omega
section RC
variable {M N : List Nat} {X X1 : Nat → Int → Int → Int} {Y Y1 : Nat → Int → Int → Option Int} {g x : Int}
theorem rcOK.frm (h : rcOK X Y g) (hF : Frm M X X1) (hH : Frm N Y Y1) (hd : ∀ c ∈ [701, 4, 1504], c ∉ M) (he : 500 ∉ N) : rcOK X1 Y1 g := by
  have a1 : X1 7 g 0 = X 7 g 0 := hF 7 g 0 (hd 701 (by decide))
  have a2 : X1 0 0 3 = X 0 0 3 := hF 0 0 3 (hd 4 (by decide))
  have a3 : ∀ i, X1 15 i 3 = X 15 i 3 := fun i => hF 15 i 3 (hd 1504 (by decide))
  have b1 : ∀ j, Y1 5 0 j = Y 5 0 j := fun j => hH 5 0 j he
  unfold rcOK at *
  simp only [a1, a2, a3, b1]
  exact h
theorem rcOK.nil (h : X 7 g 0 = 0) : rcOK X Y g := ⟨fun r h0 h1 => by omega, fun r q x h0 h1 => by omega⟩
theorem rcOK.push (h : rcOK X Y g) (h0 : 0 ≤ x ∧ x < X 0 0 3) (hn : X 15 x 3 < 0) (hp : 0 ≤ X 7 g 0) (e1 : X1 7 g 0 = X 7 g 0 + 1) (e2 : X1 0 0 3 = X 0 0 3) (e3 : X1 15 x 3 = X 7 g 0) (e4 : ∀ i, i ≠ x → X1 15 i 3 = X 15 i 3) (e5 : Y1 5 0 (X 7 g 0) = some x) (e6 : ∀ j, j ≠ X 7 g 0 → Y1 5 0 j = Y 5 0 j) : rcOK X1 Y1 g := by
  have hne : ∀ r y, 0 ≤ r → r < X 7 g 0 → Y 5 0 r = some y → y ≠ x := fun r y r0 r1 e q => by
    obtain ⟨y', f1, f2, f3, f4⟩ := h.1 r r0 r1
    rw [f1] at e
    cases e
    rw [q] at f4
    omega
  refine ⟨fun r r0 r1 => ?_, fun r q y r0 r1 q0 q1 f1 f2 => ?_⟩
  · by_cases hr : r = X 7 g 0
    · rw [hr]; exact ⟨x, e5, h0.1, by omega, by omega⟩
    · obtain ⟨y, f1, f2, f3, f4⟩ := h.1 r r0 (by omega)
      exact ⟨y, by rw [e6 r hr]; exact f1, f2, by omega, by rw [e4 y (hne r y r0 (by omega) f1)]; exact f4⟩
  · by_cases hr : r = X 7 g 0 <;> by_cases hq : q = X 7 g 0
    · omega
    · rw [hr, e5] at f1
      cases f1
      rw [e6 q hq] at f2
      exact absurd rfl (hne q x q0 (by omega) f2)
    · rw [hq, e5] at f2
      cases f2
      rw [e6 r hr] at f1
      exact absurd rfl (hne r x r0 (by omega) f1)
    · rw [e6 r hr] at f1
      rw [e6 q hq] at f2
      exact h.2 r q y r0 (by omega) q0 (by omega) f1 f2
end RC
theorem mmaxZ {a b : Int} (ha : -2147483648 ≤ a ∧ a ≤ 2147483647) (hb : -2147483648 ≤ b ∧ b ≤ 2147483647) : (if jI a < jI b then jI b else jI a) = jI (if a < b then b else a) := by
  by_cases h : a < b
  · rw [if_pos ((jI_lt ha hb).mpr h), if_pos h]
  · rw [if_neg (fun q => h ((jI_lt ha hb).mp q)), if_neg h]
