/-! new cells, told by their own addresses -/
section RW2
variable {D : va_G} {tc : Nat → ClassId} {base : Nat} {E F : va_W} {H : Heap} {ad : Nat → Int → Nat} {cnt : Nat → Int} {X : Nat → Int → Int → Int} {Y : Nat → Int → Int → Option Int} {ln : Int → Int} {KS : List Nat} {n : Int} {f : Nat → Nat} {k : Nat}
theorem rawE_congr {g g' : Nat → Nat} (h : ∀ t, (k, t) ∈ ownL → g t = g' t) : rawE tc g k = rawE tc g' k := by
  unfold rawE
  split
  · rfl
  · congr 2
    refine List.map_congr_left (fun j hj => ?_)
    unfold rawV
    split
    · rfl
    · split
      · rfl
      · split
        · rename_i h3
          rw [h (slo k j).2 (own_mem (j := j) (by rw [← h3]))]
        · rfl
theorem growz2 (hw : wx D tc base (ad, cnt, X, Y, ln) (E ++ F) H) (h0 : 0 ≤ n) (hn : ∀ k ∈ KS, cnt k = n) (h27 : 27 ∉ KS) (ho : Own cnt) (hz : Zr cnt X Y) (hcl : ∀ p ∈ ownL, p.1 ∈ KS → p.2 ∈ KS) (hF : F = KS.map fun k => (f k, rawE tc f k)) : wx D tc base (up2 ad KS n f, upc cnt KS, X, Y, ln) E H := by
  refine growz hw h0 hn h27 ho hz ?_
  rw [hF]
  refine List.map_congr_left (fun k hk => ?_)
  rw [rawE_congr (g' := fun t => up2 ad KS n f t n) (fun t ht => (up2_s (hcl (k, t) ht hk)).symm)]
end RW2
