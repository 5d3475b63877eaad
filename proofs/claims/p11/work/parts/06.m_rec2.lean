/-! the pure run: more of it -/
section RR
variable {fc : Int → Int} {la vl rid : Int → Int → Int} {x : Int}
theorem recR_ms (n : Nat) : recR fc la vl rid x n 0 0 ≤ recR fc la vl rid x (n + 1) 0 0 := by
  simp only [recR]
  by_cases c : (n : Int) < recR fc la vl rid x n 0 0
  · rw [if_pos c]
    exact recK_m _
  · rw [if_neg c]
    exact Int.le_refl _
theorem recR_os (n : Nat) {q : Int} (hq : 0 ≤ q ∧ q < recR fc la vl rid x n 0 0) : recR fc la vl rid x (n + 1) 1 q = recR fc la vl rid x n 1 q := by
  simp only [recR]
  by_cases c : (n : Int) < recR fc la vl rid x n 0 0
  · rw [if_pos c]
    exact recK_o _ hq
  · rw [if_neg c]
theorem recR_m (n d : Nat) : recR fc la vl rid x n 0 0 ≤ recR fc la vl rid x (n + d) 0 0 := by
  induction d with
  | zero => exact Int.le_refl _
  | succ d ih => exact Int.le_trans ih (recR_ms (n + d))
theorem recR_o (n d : Nat) {q : Int} (hq : 0 ≤ q ∧ q < recR fc la vl rid x n 0 0) : recR fc la vl rid x (n + d) 1 q = recR fc la vl rid x n 1 q := by
  induction d with
  | zero => rfl
  | succ d ih =>
    have := recR_m (fc := fc) (la := la) (vl := vl) (rid := rid) (x := x) n d
    rw [show n + (d + 1) = n + d + 1 by omega, recR_os (n + d) ⟨hq.1, by omega⟩]
    exact ih
theorem recR_stop (n d : Nat) (h : ¬ (n : Int) < recR fc la vl rid x n 0 0) : recR fc la vl rid x (n + d) = recR fc la vl rid x n := by
  induction d with
  | zero => rfl
  | succ d ih =>
    rw [show n + (d + 1) = n + d + 1 by omega]
    simp only [recR]
    rw [ih, if_neg (by omega)]
theorem recR_up (n : Nat) (h : (n : Int) < recR fc la vl rid x n 0 0) : recR fc la vl rid x (n + 1) = recK la vl rid (recR fc la vl rid x n) (n : Int) (fc (recR fc la vl rid x n 1 (n : Int))).toNat := by
  simp only [recR]
  rw [if_pos h]
theorem recR_z : recR fc la vl rid x 0 = u2 (u2 (u2 (fun _ _ => 0) 1 0 x) 0 0 1) 2 0 0 := rfl
theorem recK_z {s : Nat → Int → Int} {r : Int} : recK la vl rid s r 0 = s := rfl
theorem recK_s {s : Nat → Int → Int} {r k : Int} (hk : 0 ≤ k) : recK la vl rid s r (k + 1).toNat = recP la vl rid (s 1 r) k (5 * r + k) (recK la vl rid s r k.toNat) := by
  rw [show (k + 1).toNat = k.toNat + 1 by omega]
  simp only [recK]
  rw [show ((k.toNat : Nat) : Int) = k by omega]
end RR
/-! the reference, one position -/
section MS
variable {X X1 : Nat → Int → Int → Int} {s s' : Nat → Int → Int} {la vl rid : Int → Int → Int} {y k p v : Int}
def mStp (la vl rid : Int → Int → Int) (y k p : Int) (X1 : Nat → Int → Int → Int) (s : Nat → Int → Int) (v : Int) : Prop := rmT X1 (recP la vl rid y k p s) ∧ rmR X1 (recP la vl rid y k p s) ∧ v = recP la vl rid y k p s 5 p
theorem u2_f2 (s : Nat → Int → Int) {κ κ' : Nat} (i v : Int) (h : κ' ≠ κ) : u2 s κ i v κ' = s κ' := funext fun j => u2_k s i v j h
theorem mStp_v (hT : rmT X s) (hR : rmR X s) (e : recP la vl rid y k p s = u2 s 5 p v) : mStp la vl rid y k p X s v := by
  unfold mStp
  rw [e]
  refine ⟨hT.of rfl rfl (u2_k _ _ _ _ (by decide)) (u2_f2 _ _ _ (by decide)), hR.of rfl (fun _ _ => rfl) (u2_k _ _ _ _ (by decide)) (u2_f2 _ _ _ (by decide)) (u2_f2 _ _ _ (by decide)), (u2_s _ _ _ _).symm⟩
theorem mStp_t (hl : la y k = 2) (hv : 0 ≤ vl y k) (hT : rmT X1 (if nmAt (s 1) (vl y k) (s 0 0).toNat = -1 then u2 (u2 s 1 (s 0 0) (vl y k)) 0 0 (s 0 0 + 1) else s)) (hR : rmR X1 s) (hz : v = if nmAt (s 1) (vl y k) (s 0 0).toNat = -1 then s 0 0 else nmAt (s 1) (vl y k) (s 0 0).toNat) : mStp la vl rid y k p X1 s v := by
  unfold mStp
  by_cases c : nmAt (s 1) (vl y k) (s 0 0).toNat = -1
  · rw [if_pos c] at hT hz
    rw [recP_2w hl hv c]
    refine ⟨hT.of rfl rfl (by rw [u2_s, u2_s]) ?_, hR.of rfl (fun _ _ => rfl) ?_ ?_ ?_, ?_⟩
    · rw [u2_f2 (κ := 0) _ _ _ (by decide), u2_f2 (κ := 5) _ _ _ (by decide), u2_f2 (κ := 0) _ _ _ (by decide)]
    · rw [u2_k _ _ _ _ (by decide), u2_k _ _ _ _ (by decide), u2_k _ _ _ _ (by decide)]
    · rw [u2_f2 _ _ _ (by decide), u2_f2 _ _ _ (by decide), u2_f2 _ _ _ (by decide)]
    · rw [u2_f2 _ _ _ (by decide), u2_f2 _ _ _ (by decide), u2_f2 _ _ _ (by decide)]
    · rw [u2_k _ _ _ _ (by decide), u2_s]
      exact hz
  · rw [if_neg c] at hT hz
    rw [hz]
    exact mStp_v hT hR (recP_2o hl hv c)
theorem mStp_r (hl : 3 ≤ la y k) (hv : 0 ≤ rid y k) (hT : rmT X1 s) (hR : rmR X1 (if nmAt (fun q => rid (s 3 q) (s 4 q)) (rid y k) (s 2 0).toNat = -1 then u2 (u2 (u2 s 3 (s 2 0) y) 4 (s 2 0) k) 2 0 (s 2 0 + 1) else s)) (hz : v = if nmAt (fun q => rid (s 3 q) (s 4 q)) (rid y k) (s 2 0).toNat = -1 then s 2 0 else nmAt (fun q => rid (s 3 q) (s 4 q)) (rid y k) (s 2 0).toNat) : mStp la vl rid y k p X1 s v := by
  unfold mStp
  by_cases c : nmAt (fun q => rid (s 3 q) (s 4 q)) (rid y k) (s 2 0).toNat = -1
  · rw [if_pos c] at hR hz
    rw [recP_3w hl hv c]
    refine ⟨hT.of rfl rfl ?_ ?_, hR.of rfl (fun _ _ => rfl) (by rw [u2_s, u2_s]) ?_ ?_, ?_⟩
    · rw [u2_k _ _ _ _ (by decide), u2_k _ _ _ _ (by decide), u2_k _ _ _ _ (by decide), u2_k _ _ _ _ (by decide)]
    · rw [u2_f2 _ _ _ (by decide), u2_f2 _ _ _ (by decide), u2_f2 _ _ _ (by decide), u2_f2 _ _ _ (by decide)]
    · rw [u2_f2 (κ := 2) _ _ _ (by decide), u2_f2 (κ := 5) _ _ _ (by decide), u2_f2 (κ := 4) _ _ _ (by decide), u2_f2 (κ := 2) _ _ _ (by decide), u2_f2 (κ := 4) _ _ _ (by decide)]
    · rw [u2_f2 (κ := 2) _ _ _ (by decide), u2_f2 (κ := 5) _ _ _ (by decide), u2_f2 (κ := 2) _ _ _ (by decide)]
    · rw [u2_k _ _ _ _ (by decide), u2_s]
      exact hz
  · rw [if_neg c] at hR hz
    rw [hz]
    exact mStp_v hT hR (recP_3o hl hv c)
/-- what the slots speak of beside their own rows -/
def mSt (X X1 : Nat → Int → Int → Int) : Prop := X1 44 = X 44 ∧ X1 45 = X 45 ∧ X1 46 = X 46 ∧ X1 55 = X 55
theorem mSt.of {L : List Nat} (h : Frm L X X1) (hd : ∀ q ∈ [4400, 4500, 4600, 5500], q ∉ L) : mSt X X1 := ⟨h.arr 44 (by decide +kernel) (hd 4400 (by decide)), h.arr 45 (by decide +kernel) (hd 4500 (by decide)), h.arr 46 (by decide +kernel) (hd 4600 (by decide)), h.arr 55 (by decide +kernel) (hd 5500 (by decide))⟩
theorem rmL.of {r k : Int} (h : rmL X s r k) (hs : mSt X X1) (e3 : X1 73 0 (5 * (120 + r) + k) = X 73 0 (5 * (120 + r) + k)) (e4 : X1 74 0 (5 * (120 + r) + k) = X 74 0 (5 * (120 + r) + k)) (e5 : X1 75 0 (5 * (120 + r) + k) = X 75 0 (5 * (120 + r) + k)) (f1 : s' 1 r = s 1 r) (f5 : s' 5 (5 * r + k) = s 5 (5 * r + k)) : rmL X1 s' r k := by
  obtain ⟨h4, h5, h6, h7⟩ := hs
  unfold rmL lnM at *
  rw [e3, e4, e5, f1, f5, h5, h6, h7]
  exact h
theorem rmV.push {r k : Int} (h : rmV X s r k) (hs : mSt X X1) (hk : 0 ≤ k ∧ k ≤ 4) (hr : 0 ≤ r) (hf : ∀ t, X 44 0 t ≤ 5) (o71 : X1 71 = X 71) (o72 : X1 72 = X 72) (o3 : ∀ j, j ≠ 5 * (120 + r) + k → X1 73 0 j = X 73 0 j) (o4 : ∀ j, j ≠ 5 * (120 + r) + k → X1 74 0 j = X 74 0 j) (o5 : ∀ j, j ≠ 5 * (120 + r) + k → X1 75 0 j = X 75 0 j) (f1 : ∀ q, 0 ≤ q → q ≤ r → s' 1 q = s 1 q) (f5 : ∀ q, q ≠ 5 * r + k → s' 5 q = s 5 q) (hn : rmL X1 s' r k) : rmV X1 s' r (k + 1) := by
  obtain ⟨h1, h2⟩ := h
  refine ⟨fun r' a b => ?_, fun k' a b => ?_⟩
  · obtain ⟨g1, g2, g3⟩ := h1 r' a b
    have e := f1 r' a (by omega)
    have hfc : ∀ q, fcM X1 q = fcM X q := fun q => by simp only [fcM, hs.1, hs.2.2.2]
    rw [o71, o72, e, hfc, hs.2.2.2]
    refine ⟨g1, g2, fun k' a' b' => ?_⟩
    have h5 : fcM X (s 1 r') ≤ 5 := hf _
    exact (g3 k' a' b').of hs (o3 _ (by omega)) (o4 _ (by omega)) (o5 _ (by omega)) e (f5 _ (by omega))
  · by_cases e : k' = k
    · rw [e]
      exact hn
    · exact (h2 k' a (by omega)).of hs (o3 _ (by omega)) (o4 _ (by omega)) (o5 _ (by omega)) (f1 r hr (Int.le_refl _)) (f5 _ (by omega))
theorem rmV.next {r : Int} (h : rmV X s r (fcM X (s 1 r))) (h1 : X 71 0 (120 + r) = X 55 0 (s 1 r)) (h2 : X 72 0 (120 + r) = fcM X (s 1 r)) : rmV X s (r + 1) 0 := by
  refine ⟨fun r' a b => ?_, fun k' a b => by omega⟩
  by_cases e : r' = r
  · rw [e]
    exact ⟨h1, h2, h.2⟩
  · exact h.1 r' a (by omega)
theorem rmV.in_ {r : Int} (h : rmV X s r 0) (hs : mSt X X1) (hr : 0 ≤ r) (hf : ∀ t, X 44 0 t ≤ 5) (o71 : ∀ j, j ≠ 120 + r → X1 71 0 j = X 71 0 j) (o72 : ∀ j, j ≠ 120 + r → X1 72 0 j = X 72 0 j) (o3 : X1 73 = X 73) (o4 : X1 74 = X 74) (o5 : X1 75 = X 75) : rmV X1 s r 0 := by
  refine ⟨fun r' a b => ?_, fun k' a b => by omega⟩
  obtain ⟨g1, g2, g3⟩ := h.1 r' a b
  have hfc : ∀ q, fcM X1 q = fcM X q := fun q => by simp only [fcM, hs.1, hs.2.2.2]
  rw [o71 _ (by omega), o72 _ (by omega), hfc, hs.2.2.2]
  exact ⟨g1, g2, fun k' a' b' => (g3 k' a' b').of hs (by rw [o3]) (by rw [o4]) (by rw [o5]) rfl rfl⟩
end MS
/-! verdicts over versions -/
def jdM (X : Nat → Int → Int → Int) (x z : Int) : Prop := (z = 0 ∧ ∀ c, 0 ≤ c → c < X 49 0 (X 55 0 x) → ckM X x (4 * X 55 0 x + c) = 0) ∨ (z ≠ 0 ∧ ∃ c, 0 ≤ c ∧ c < X 49 0 (X 55 0 x) ∧ (∀ c', 0 ≤ c' → c' < c → ckM X x (4 * X 55 0 x + c') = 0) ∧ z = ckM X x (4 * X 55 0 x + c))
theorem jdM.from {L : List Nat} {X X0 : Nat → Int → Int → Int} {x z : Int} (h : jdM X0 x z) (hF : Frm L X X0) (hd : ∀ q ∈ [4400, 4500, 4600, 4900, 5000, 5100, 5200, 5300, 5500, 5600, 5800, 5900], q ∉ L) : jdM X x z := by
  have e4 := hF.arr 44 (by decide +kernel) (hd 4400 (by decide))
  have e5 := hF.arr 45 (by decide +kernel) (hd 4500 (by decide))
  have e6 := hF.arr 46 (by decide +kernel) (hd 4600 (by decide))
  have e9 := hF.arr 49 (by decide +kernel) (hd 4900 (by decide))
  have f0 := hF.arr 50 (by decide +kernel) (hd 5000 (by decide))
  have f1 := hF.arr 51 (by decide +kernel) (hd 5100 (by decide))
  have f2 := hF.arr 52 (by decide +kernel) (hd 5200 (by decide))
  have f3 := hF.arr 53 (by decide +kernel) (hd 5300 (by decide))
  have f5 := hF.arr 55 (by decide +kernel) (hd 5500 (by decide))
  have f6 := hF.arr 56 (by decide +kernel) (hd 5600 (by decide))
  have f8 := hF.arr 58 (by decide +kernel) (hd 5800 (by decide))
  have f9 := hF.arr 59 (by decide +kernel) (hd 5900 (by decide))
  have e : ckM X0 = ckM X := by
    funext x c
    simp only [ckM, ldM, e4, e5, e6, f0, f1, f2, f3, f5, f6, f8, f9]
  unfold jdM at *
  rw [e, e9, f5] at h
  exact h
def sg0 : Nat → Int → Int := fun _ _ => 0
section RI
variable {fc : Int → Int} {la vl rid : Int → Int → Int} {x r k q : Int} {V : Nat → Int → Int → Int}
theorem rmT.init (h : rmT V (if nmAt (sg0 1) x (sg0 0 0).toNat = -1 then u2 (u2 sg0 1 (sg0 0 0) x) 0 0 (sg0 0 0 + 1) else sg0)) : rmT V (recR fc la vl rid x 0) := by
  have c : nmAt (sg0 1) x (sg0 0 0).toNat = -1 := rfl
  rw [if_pos c] at h
  refine h.of rfl rfl ?_ ?_
  · rw [recR_z, u2_k _ _ _ _ (by decide), u2_s, u2_s]
    rfl
  · rw [recR_z, u2_f2 (κ := 2) _ _ _ (by decide), u2_f2 (κ := 0) _ _ _ (by decide), u2_f2 (κ := 0) _ _ _ (by decide)]
    rfl
theorem rmR.init (h : V 76 0 4 = 0) : rmR V (recR fc la vl rid x 0) := by
  have e : recR fc la vl rid x 0 2 0 = 0 := by rw [recR_z, u2_s]
  refine ⟨by rw [h, e], fun i a b => ?_⟩
  rw [e] at b
  omega
theorem recR_next (hr : 0 ≤ r) (hlt : r < recR fc la vl rid x r.toNat 0 0) (hk : k = fc (recR fc la vl rid x r.toNat 1 r)) : recR fc la vl rid x (r + 1).toNat = recK la vl rid (recR fc la vl rid x r.toNat) r k.toNat := by
  have e : ((r.toNat : Nat) : Int) = r := by omega
  rw [show (r + 1).toNat = r.toNat + 1 by omega, recR_up r.toNat (by rw [e]; exact hlt), e, hk]
theorem recR_at (hr : 0 ≤ r ∧ r ≤ 30) (hq : 0 ≤ q ∧ q < recR fc la vl rid x r.toNat 0 0) : recR fc la vl rid x 30 1 q = recR fc la vl rid x r.toNat 1 q ∧ q < recR fc la vl rid x 30 0 0 := by
  have e : r.toNat + (30 - r.toNat) = 30 := by omega
  have h1 := recR_o (fc := fc) (la := la) (vl := vl) (rid := rid) (x := x) r.toNat (30 - r.toNat) hq
  have h2 := recR_m (fc := fc) (la := la) (vl := vl) (rid := rid) (x := x) r.toNat (30 - r.toNat)
  rw [e] at h1 h2
  exact ⟨h1, by omega⟩
theorem recR_end (hr : 0 ≤ r ∧ r ≤ 30) (hs : recR fc la vl rid x r.toNat 0 0 ≤ r) : recR fc la vl rid x 30 = recR fc la vl rid x r.toNat := by
  have e : r.toNat + (30 - r.toNat) = 30 := by omega
  have h1 := recR_stop (fc := fc) (la := la) (vl := vl) (rid := rid) (x := x) r.toNat (30 - r.toNat) (by omega)
  rw [e] at h1
  exact h1
end RI
theorem rmV.upto {X : Nat → Int → Int → Int} {s : Nat → Int → Int} {r r' : Int} (h : rmV X s r 0) (hr : r' ≤ r) : rmV X s r' 0 := ⟨fun q a b => h.1 q a (by omega), fun k' a b => by omega⟩
theorem recR_pos {fc : Int → Int} {la vl rid : Int → Int → Int} {x : Int} (n : Nat) : 1 ≤ recR fc la vl rid x n 0 0 := by
  have h := recR_m (fc := fc) (la := la) (vl := vl) (rid := rid) (x := x) 0 n
  rw [Nat.zero_add] at h
  have e : recR fc la vl rid x 0 0 0 = 1 := by rw [recR_z, u2_k _ _ _ _ (by decide), u2_s]
  omega
