/-! numbers cut to a lane; a new row of the reference; a mark of a used row -/
def cutZ (lane v : Int) : Int := if lane = 3 then ((jI v).toInt8.toInt32).toInt else if lane = 4 then (jI v).toInt else v
theorem x_eqi {p : Program} {l : Launch} {e : Env} {R : Room} {s : State} {m : MethodId} {args : Array Value} {below : List Frame} {meth : Method} {c : Code} {H : Heap} {locs : List Loc} {cells slots : Nat} {Q : State → Prop} {pc : Nat} {ls : Array Slot} {rest : List Value} {x : Int32} (k : ∀ z : Int, (-2147483648 ≤ z ∧ z ≤ 2147483647) → z = x.toInt → W p l e R s m args below meth c H locs cells slots Q (F0 m pc ls (.int (jI z) :: rest))) : W p l e R s m args below meth c H locs cells slots Q (F0 m pc ls (.int x :: rest)) := by
  obtain ⟨z, hz, rfl⟩ := jI_of x
  exact k z hz (jI_toInt hz).symm
theorem us1 {X : Nat → Int → Int → Int} {w z : Int} (h : X 60 0 w = 1) : u3 X 60 0 z 1 60 0 w = 1 := by
  by_cases e : w = z
  · rw [e, u3_s]
  · rw [u3_j _ _ _ _ e]
    exact h
def nwM (X X1 : Nat → Int → Int → Int) (lane n r : Int) : Prop := (∀ x k, 0 ≤ x → x < X 40 0 13 → 0 ≤ k → k < X 44 0 (X 55 0 x) → 3 ≤ X 46 0 (5 * X 55 0 x + k) → X 56 0 (5 * x + k) ≠ r) ∧ (∀ m, 0 ≤ m → m < X 40 0 22 → X 66 0 m ≠ r) ∧ X1 57 0 r = lane ∧ X1 58 0 r = n ∧ (∀ y, y ≠ r → X1 57 0 y = X 57 0 y ∧ X1 58 0 y = X 58 0 y) ∧ (∀ j, 0 ≤ j → j < 12 → X1 59 0 (12 * r + j) = 0) ∧ ∀ p, ¬ (12 * r ≤ p ∧ p < 12 * r + 12) → X1 59 0 p = X 59 0 p
section NW
variable {X X0 X1 X2 : Nat → Int → Int → Int} {lane n r : Int} {L : List Nat}
theorem nwM.to (h : nwM X X1 lane n r) (e57 : X2 57 = X1 57) (e58 : X2 58 = X1 58) (e59 : X2 59 = X1 59) : nwM X X2 lane n r := by
  unfold nwM at *
  rw [e57, e58, e59]
  exact h
theorem nwM.from (h : nwM X0 X1 lane n r) (hF : Frm L X X0) (hd : ∀ q ∈ [4014, 4023, 4400, 4600, 5500, 5600, 5700, 5800, 5900, 6600], q ∉ L) : nwM X X1 lane n r := by
  unfold nwM at *
  rw [hF.arr 44 (by decide +kernel) (hd 4400 (by decide)), hF.arr 46 (by decide +kernel) (hd 4600 (by decide)), hF.arr 55 (by decide +kernel) (hd 5500 (by decide)), hF.arr 56 (by decide +kernel) (hd 5600 (by decide)), hF.arr 57 (by decide +kernel) (hd 5700 (by decide)), hF.arr 58 (by decide +kernel) (hd 5800 (by decide)), hF.arr 59 (by decide +kernel) (hd 5900 (by decide)), hF.arr 66 (by decide +kernel) (hd 6600 (by decide)), hF 40 0 13 (hd 4014 (by decide)), hF 40 0 22 (hd 4023 (by decide))] at h
  exact h
theorem nwM.fresh {C : Nat → Int → Int → Int} {Y : Nat → Int → Int → Option Int} (h : nwM X X1 lane n r) (hN : rN C Y X) : ∀ g r' l, Lv Y X g r' l → r' ≠ r := by
  intro g r' l hv
  rcases hv with ⟨x, k, x0, x1, k0, k1, kl, l3, ky, kr⟩ | ⟨m, a, b, q67, ql, q3, qy, q68⟩ | ⟨m, a, b, q67, ql, q3, qy, q66⟩
  · rw [← kr]
    unfold lnM at kl
    exact h.1 x k x0 x1 k0 k1 (by omega)
  · have h9 := ((hN.2 m a b).1 q67).2.2.2 (by omega)
    rw [← q68, ← h9.2]
    exact h.2.1 m a b
  · rw [← q66]
    exact h.2.1 m a b
end NW
