/-! new cells hold nothing: what is there before anything was written -/
def Zr (cnt : Nat → Int) (X : Nat → Int → Int → Int) (Y : Nat → Int → Int → Option Int) : Prop := ∀ k i j, (i < 0 ∨ cnt k ≤ i) → X k i j = 0 ∧ Y k i j = none
def rawV (g : Nat → Nat) (c : Nat × Nat) : Value := if c.1 = 0 then .int 0 else if c.1 = 1 then .long 0 else if c.1 = 3 then .ref (g c.2) else .null
def rawE (tc : Nat → ClassId) (g : Nat → Nat) (k : Nat) : va_E :=
  if (lay k).1 = 0 then
    (if (lay k).2.2.1.1 = 0 then .inl (tc (lay k).2.2.1.2.1, ((lay k).2.2.2).toNat, .inl (fun _ => 0))
    else if (lay k).2.2.1.1 = 1 then .inl (tc (lay k).2.2.1.2.1, ((lay k).2.2.2).toNat, .inr (.inl (fun _ => 0)))
    else .inl (tc (lay k).2.2.1.2.1, ((lay k).2.2.2).toNat, .inr (.inr (.inr (.inr (fun _ => none))))))
  else .inr ((lay k).1 - 1, (List.range (lay k).2.1.length).map (fun j => rawV g (slo k j)))
section RW
variable {D : va_G} {tc : Nat → ClassId} {base : Nat} {E F : va_W} {H : Heap} {ad ad1 : Nat → Int → Nat} {cnt : Nat → Int} {X : Nat → Int → Int → Int} {Y : Nat → Int → Int → Option Int} {ln : Int → Int} {KS : List Nat} {n : Int} {f : Nat → Nat} {k : Nat}
theorem ceE_raw (hk : k ≠ 27) (hX : ∀ j, X k n j = 0) (hY : ∀ j, Y k n j = none) : ceE tc ad X Y ln k n = rawE tc (fun t => ad t n) k := by
  have hX2 : X k n = fun _ => 0 := funext hX
  have hY2 : Y k n = fun _ => none := funext hY
  unfold ceE rawE lenE
  rw [if_neg hk, hX2, hY2]
  split
  · split
    · rfl
    · split
      · rfl
      · rfl
  · congr 2
    refine List.map_congr_left (fun j hj => ?_)
    unfold slV rawV
    rw [hX2, hY2]
    rfl
theorem growz (hw : wx D tc base (ad, cnt, X, Y, ln) (E ++ F) H) (h0 : 0 ≤ n) (hn : ∀ k ∈ KS, cnt k = n) (h27 : 27 ∉ KS) (ho : Own cnt) (hz : Zr cnt X Y) (hF : F = KS.map fun k => (f k, rawE tc (fun t => up2 ad KS n f t n) k)) : wx D tc base (up2 ad KS n f, upc cnt KS, X, Y, ln) E H := by
  have hrf := wd_ref (wx_wd hw)
  refine adopt (NL := KS.map fun k => (k, n)) hw ?_ (fun k i g0 g1 => ?_) ho (fun k i => ?_) ?_
  · rw [hF]
    unfold wlE
    rw [List.map_map]
    refine List.map_congr_left (fun k hk => ?_)
    have h1 := hz k n
    rw [Function.comp]
    show (f k, rawE tc (fun t => up2 ad KS n f t n) k) = (up2 ad KS n f k n, ceE tc (up2 ad KS n f) X Y ln k n)
    rw [ceE_raw (fun q => h27 (q ▸ hk)) (fun j => (h1 j (Or.inr (by rw [hn k hk]; omega))).1) (fun j => (h1 j (Or.inr (by rw [hn k hk]; omega))).2), up2_s hk]
  · have hne : ¬ (k ∈ KS ∧ i = n) := fun q => by have := hn k q.1; omega
    exact ⟨by simp only [up2, if_neg hne], rfl, rfl, fun _ => rfl⟩
  · simp only [upc]
    by_cases hk : k ∈ KS
    · have := hn k hk
      rw [if_pos hk]
      constructor
      · intro h
        by_cases hi : i = n
        · exact Or.inr (List.mem_map.mpr ⟨k, hk, by rw [hi]⟩)
        · exact Or.inl (by omega)
      · rintro (h | h)
        · omega
        · obtain ⟨k', -, e⟩ := List.mem_map.mp h
          cases e
          omega
    · rw [if_neg hk]
      constructor
      · exact fun h => Or.inl h
      · rintro (h | h)
        · exact h
        · obtain ⟨k', hk', e⟩ := List.mem_map.mp h
          cases e
          exact absurd hk' hk
  · intro k i j t r g0 g1 hr e
    by_cases hm : k ∈ KS
    · by_cases hi : i = n
      · have := (hz k i j (Or.inr (by rw [hn k hm]; omega))).2
        rw [this] at e
        cases e
      · rw [upc_s hm] at g1
        have h5 := hn k hm
        have := hrf k i j t r g0 (by omega) hr e
        have h2 : cnt t ≤ upc cnt KS t := upc_le
        omega
    · rw [upc_k hm] at g1
      have := hrf k i j t r g0 g1 hr e
      have h2 : cnt t ≤ upc cnt KS t := upc_le
      omega
theorem Zr.up (hz : Zr cnt X Y) : Zr (upc cnt KS) X Y := fun k i j h => hz k i j (by have : cnt k ≤ upc cnt KS k := upc_le; omega)
theorem Zr.setX {i j v : Int} (hz : Zr cnt X Y) (h0 : 0 ≤ i) (h1 : i < cnt k) : Zr cnt (u3 X k i j v) Y := fun k' i' j' h => by
  refine ⟨?_, (hz k' i' j' h).2⟩
  simp only [u3]
  rw [if_neg (fun q => by obtain ⟨rfl, rfl, rfl⟩ := q; omega)]
  exact (hz k' i' j' h).1
theorem Zr.setY {i j : Int} {v : Option Int} (hz : Zr cnt X Y) (h0 : 0 ≤ i) (h1 : i < cnt k) : Zr cnt X (u3 Y k i j v) := fun k' i' j' h => by
  refine ⟨(hz k' i' j' h).1, ?_⟩
  simp only [u3]
  rw [if_neg (fun q => by obtain ⟨rfl, rfl, rfl⟩ := q; omega)]
  exact (hz k' i' j' h).2
theorem Own.up (h : Own cnt) (h1 : ∀ p ∈ ownL, p.1 ∈ KS → p.2 ∈ KS) (h2 : ∀ k ∈ KS, ¬ ((lay k).1 = 0 ∧ (lay k).2.2.1.1 = 9)) : Own (upc cnt KS) := by
  refine ⟨fun p hp => ?_, fun k g1 g2 => by rw [upc_k (fun q => h2 k q ⟨g1, g2⟩)]; exact h.2 k g1 g2⟩
  have h3 := h.1 p hp
  by_cases hm : p.1 ∈ KS
  · rw [upc_s hm, upc_s (h1 p hp hm)]
    omega
  · rw [upc_k hm]
    have : cnt p.2 ≤ upc cnt KS p.2 := upc_le
    omega
end RW
