/-! a verdict by its kind -/
section CK
variable {kd a b v fc la lb va vb rn it mt ld : Int}
theorem ckF_c (hk : 0 ≤ kd ∧ kd ≤ 5) (h : ¬ (a < fc ∧ (kd = 2 → 3 ≤ la) ∧ ((kd = 1 ∨ kd = 5) → la = 2) ∧ ((kd = 0 ∨ kd = 3 ∨ kd = 4) → la = 0)) ∨ ((kd = 0 ∨ kd = 2) ∧ ¬ (b < fc ∧ lb = 0))) : ckF kd a b v fc la lb va vb rn it mt ld = 4 := by
  unfold ckF
  (repeat' split) <;> omega
theorem ckF_0 (hk : kd = 0) (h : a < fc ∧ la = 0 ∧ b < fc ∧ lb = 0) : ckF kd a b v fc la lb va vb rn it mt ld = if vb = 0 then 5 else 0 := by
  unfold ckF
  rw [if_pos hk, if_neg (fun q => q h)]
theorem ckF_1 (hk : kd = 1) (h : a < fc ∧ la = 2) : ckF kd a b v fc la lb va vb rn it mt ld = if mt < 0 then 1 else if mt = v then 0 else 4 := by
  unfold ckF
  rw [if_neg (by omega), if_pos hk, if_neg (fun q => q h)]
theorem ckF_2 (hk : kd = 2) (h : a < fc ∧ 3 ≤ la ∧ b < fc ∧ lb = 0) : ckF kd a b v fc la lb va vb rn it mt ld = if rn < 0 then 1 else if vb < 0 ∨ rn ≤ vb then 2 else if v < it then 0 else 6 := by
  unfold ckF
  rw [if_neg (by omega), if_neg (by omega), if_pos hk, if_neg (fun q => q h)]
theorem ckF_3 (hk : kd = 3) (h : a < fc ∧ la = 0) : ckF kd a b v fc la lb va vb rn it mt ld = if 12 < va then 6 else if va < 0 then 3 else 0 := by
  unfold ckF
  rw [if_neg (by omega), if_neg (by omega), if_neg (by omega), if_pos hk, if_neg (fun q => q h)]
theorem ckF_4 (hk : kd = 4) (h : a < fc ∧ la = 0) : ckF kd a b v fc la lb va vb rn it mt ld = if va < v then 6 else 0 := by
  unfold ckF
  rw [if_neg (by omega), if_neg (by omega), if_neg (by omega), if_neg (by omega), if_pos hk, if_neg (fun q => q h)]
theorem ckF_5 (hk : kd = 5) (h : a < fc ∧ la = 2) : ckF kd a b v fc la lb va vb rn it mt ld = if mt < 0 then 1 else if ld < -1 then 4 else if ld < 0 then 1 else 0 := by
  unfold ckF
  rw [if_neg (by omega), if_neg (by omega), if_neg (by omega), if_neg (by omega), if_neg (by omega), if_neg (fun q => q h)]
end CK
