/-! what has been recorded: each thing once, with a number -/
def rcOK (X : Nat → Int → Int → Int) (Y : Nat → Int → Int → Option Int) (g : Int) : Prop := (∀ r, 0 ≤ r → r < X 7 g 0 → ∃ x, Y 5 0 r = some x ∧ 0 ≤ x ∧ x < X 0 0 3 ∧ 0 ≤ X 15 x 3) ∧ ∀ r q x, 0 ≤ r → r < X 7 g 0 → 0 ≤ q → q < X 7 g 0 → Y 5 0 r = some x → Y 5 0 q = some x → r = q
theorem rcOK.room {X : Nat → Int → Int → Int} {Y : Nat → Int → Int → Option Int} {g x : Int} (h : rcOK X Y g) (hR : Rng X) (h0 : 0 ≤ x) (hx : x < X 0 0 3) (hn : X 15 x 3 < 0) : X 7 g 0 ≤ 29 := by
  have h1 : 0 ≤ X 7 g 0 ∧ X 7 g 0 ≤ 30 := hR 7 g 0
  have h2 : 0 ≤ X 0 0 3 ∧ X 0 0 3 ≤ 30 := hR 0 0 3
  have hat : ∀ r : Nat, (r : Int) < X 7 g 0 → ∃ y, Y 5 0 r = some y ∧ 0 ≤ y ∧ y < X 0 0 3 ∧ 0 ≤ X 15 y 3 := fun r hr => h.1 r (by omega) hr
  have h3 := pgn2 ((X 7 g 0).toNat + 1) (fun r => if (r : Int) < X 7 g 0 then (Y 5 0 r).getD 0 else x) 30 (fun r hr => by
    split
    · rename_i hc
      obtain ⟨y, e, y0, y1, -⟩ := hat r hc
      rw [e, Option.getD_some]
      omega
    · omega) (fun r q hr hq e => by
    split at e <;> split at e
    · rename_i hc hd
      obtain ⟨y, e1, -⟩ := hat r hc
      obtain ⟨y', e2, -⟩ := hat q hd
      rw [e1, e2, Option.getD_some, Option.getD_some] at e
      subst e
      have := h.2 r q y (by omega) hc (by omega) hd e1 e2
      omega
    · rename_i hc hd
      obtain ⟨y, e1, -, -, y3⟩ := hat r hc
      rw [e1, Option.getD_some] at e
      subst e
      omega
    · rename_i hc hd
      obtain ⟨y, e1, -, -, y3⟩ := hat q hd
      rw [e1, Option.getD_some] at e
      subst e
      omega
    · omega)
  omega
theorem mmaxZ {a b : Int} (ha : -2147483648 ≤ a ∧ a ≤ 2147483647) (hb : -2147483648 ≤ b ∧ b ≤ 2147483647) : (if jI a < jI b then jI b else jI a) = jI (if a < b then b else a) := by
  by_cases h : a < b
  · rw [if_pos ((jI_lt ha hb).mpr h), if_pos h]
  · rw [if_neg (fun q => h ((jI_lt ha hb).mp q)), if_neg h]
