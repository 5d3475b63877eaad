/-! the class, one position of recording; the other records stay -/
def gK (g : Int) (X X1 : Nat → Int → Int → Int) : Prop := ∀ y, y ≠ g → (X1 7 y 0 = X 7 y 0 ∧ X1 7 y 6 = X 7 y 6) ∧ X1 8 y = X 8 y ∧ X1 9 y = X 9 y ∧ X1 10 y = X 10 y ∧ X1 11 y = X 11 y ∧ X1 12 y = X 12 y ∧ X1 13 y = X 13 y ∧ X1 14 y = X 14 y
section GK
variable {X X1 X2 : Nat → Int → Int → Int} {g : Int} {M : List Nat}
theorem gK.rf : gK g X X := fun _ _ => ⟨⟨rfl, rfl⟩, rfl, rfl, rfl, rfl, rfl, rfl, rfl⟩
theorem gK.tr (h : gK g X X1) (k : gK g X1 X2) : gK g X X2 := fun y hy => by
  obtain ⟨⟨a1, a2⟩, a3, a4, a5, a6, a7, a8, a9⟩ := h y hy
  obtain ⟨⟨b1, b2⟩, b3, b4, b5, b6, b7, b8, b9⟩ := k y hy
  exact ⟨⟨b1.trans a1, b2.trans a2⟩, b3.trans a3, b4.trans a4, b5.trans a5, b6.trans a6, b7.trans a7, b8.trans a8, b9.trans a9⟩
theorem gK.set {κ : Nat} {i j v : Int} (h : gK g X X1) (hk : 7 ≤ κ ∧ κ ≤ 14 → i = g) : gK g X (u3 X1 κ i j v) := fun y hy => by
  have e : ∀ q : Nat, 7 ≤ q → q ≤ 14 → u3 X1 κ i j v q y = X1 q y := fun q h1 h2 => u3_ne _ _ _ _ _ _ _ (fun w => hy (by
    have := hk ⟨by omega, by omega⟩
    rw [w.2, this]))
  obtain ⟨⟨a1, a2⟩, a3, a4, a5, a6, a7, a8, a9⟩ := h y hy
  rw [e 7 (by decide) (by decide), e 8 (by decide) (by decide), e 9 (by decide) (by decide), e 10 (by decide) (by decide), e 11 (by decide) (by decide), e 12 (by decide) (by decide), e 13 (by decide) (by decide), e 14 (by decide) (by decide)]
  exact ⟨⟨a1, a2⟩, a3, a4, a5, a6, a7, a8, a9⟩
theorem gK.frm (hF : Frm M X X1) (hd : ∀ c ∈ [701, 707, 800, 900, 1000, 1100, 1200, 1300, 1400], c ∉ M) : gK g X X1 := fun y _ =>
  ⟨⟨hF 7 y 0 (hd 701 (by decide)), hF 7 y 6 (hd 707 (by decide))⟩, congrFun (hF.arr 8 (by decide +kernel) (hd 800 (by decide))) y, congrFun (hF.arr 9 (by decide +kernel) (hd 900 (by decide))) y, congrFun (hF.arr 10 (by decide +kernel) (hd 1000 (by decide))) y, congrFun (hF.arr 11 (by decide +kernel) (hd 1100 (by decide))) y, congrFun (hF.arr 12 (by decide +kernel) (hd 1200 (by decide))) y, congrFun (hF.arr 13 (by decide +kernel) (hd 1300 (by decide))) y, congrFun (hF.arr 14 (by decide +kernel) (hd 1400 (by decide))) y⟩
end GK
section CS
variable {X X1 : Nat → Int → Int → Int} {Y Y1 : Nat → Int → Int → Option Int} {ln : Int → Int} {g : Int} {s s' : Nat → Int → Int} {la vl rid : Int → Int → Int} {y k p v : Int}
def cStp (la vl rid : Int → Int → Int) (y k p : Int) (X1 : Nat → Int → Int → Int) (Y1 : Nat → Int → Int → Option Int) (ln : Int → Int) (g : Int) (s : Nat → Int → Int) (v : Int) : Prop := rcT X1 Y1 g (recP la vl rid y k p s) ∧ rcR X1 Y1 ln g (recP la vl rid y k p s) ∧ v = recP la vl rid y k p s 5 p
theorem cStp_v (hT : rcT X Y g s) (hR : rcR X Y ln g s) (e : recP la vl rid y k p s = u2 s 5 p v) : cStp la vl rid y k p X Y ln g s v := by
  unfold cStp
  rw [e]
  exact ⟨hT.cong (u2_k _ _ _ _ (by decide)) (u2_f2 _ _ _ (by decide)), hR.cong (u2_k _ _ _ _ (by decide)) (u2_f2 _ _ _ (by decide)) (u2_f2 _ _ _ (by decide)), (u2_s _ _ _ _).symm⟩
theorem cStp_t (hl : la y k = 2) (hv : 0 ≤ vl y k) (hT : rcT X1 Y1 g (if nmAt (s 1) (vl y k) (s 0 0).toNat = -1 then u2 (u2 s 1 (s 0 0) (vl y k)) 0 0 (s 0 0 + 1) else s)) (hR : rcR X1 Y1 ln g s) (hz : v = if nmAt (s 1) (vl y k) (s 0 0).toNat = -1 then s 0 0 else nmAt (s 1) (vl y k) (s 0 0).toNat) : cStp la vl rid y k p X1 Y1 ln g s v := by
  unfold cStp
  by_cases c : nmAt (s 1) (vl y k) (s 0 0).toNat = -1
  · rw [if_pos c] at hT hz
    rw [recP_2w hl hv c]
    refine ⟨hT.cong (by rw [u2_s, u2_s]) ?_, hR.cong ?_ ?_ ?_, ?_⟩
    · rw [u2_f2 (κ := 0) _ _ _ (by decide), u2_f2 (κ := 5) _ _ _ (by decide), u2_f2 (κ := 0) _ _ _ (by decide)]
    · rw [u2_k _ _ _ _ (by decide), u2_k _ _ _ _ (by decide), u2_k _ _ _ _ (by decide)]
    · rw [u2_f2 _ _ _ (by decide), u2_f2 _ _ _ (by decide), u2_f2 _ _ _ (by decide)]
    · rw [u2_f2 _ _ _ (by decide), u2_f2 _ _ _ (by decide), u2_f2 _ _ _ (by decide)]
    · rw [u2_k _ _ _ _ (by decide), u2_s]
      exact hz
  · rw [if_neg c] at hT hz
    rw [hz]
    exact cStp_v hT hR (recP_2o hl hv c)
theorem cStp_r (hl : 3 ≤ la y k) (hv : 0 ≤ rid y k) (hT : rcT X1 Y1 g s) (hR : rcR X1 Y1 ln g (if nmAt (fun q => rid (s 3 q) (s 4 q)) (rid y k) (s 2 0).toNat = -1 then u2 (u2 (u2 s 3 (s 2 0) y) 4 (s 2 0) k) 2 0 (s 2 0 + 1) else s)) (hz : v = if nmAt (fun q => rid (s 3 q) (s 4 q)) (rid y k) (s 2 0).toNat = -1 then s 2 0 else nmAt (fun q => rid (s 3 q) (s 4 q)) (rid y k) (s 2 0).toNat) : cStp la vl rid y k p X1 Y1 ln g s v := by
  unfold cStp
  by_cases c : nmAt (fun q => rid (s 3 q) (s 4 q)) (rid y k) (s 2 0).toNat = -1
  · rw [if_pos c] at hR hz
    rw [recP_3w hl hv c]
    refine ⟨hT.cong ?_ ?_, hR.cong (by rw [u2_s, u2_s]) ?_ ?_, ?_⟩
    · rw [u2_k _ _ _ _ (by decide), u2_k _ _ _ _ (by decide), u2_k _ _ _ _ (by decide), u2_k _ _ _ _ (by decide)]
    · rw [u2_f2 _ _ _ (by decide), u2_f2 _ _ _ (by decide), u2_f2 _ _ _ (by decide), u2_f2 _ _ _ (by decide)]
    · rw [u2_f2 (κ := 2) _ _ _ (by decide), u2_f2 (κ := 5) _ _ _ (by decide), u2_f2 (κ := 4) _ _ _ (by decide), u2_f2 (κ := 2) _ _ _ (by decide), u2_f2 (κ := 4) _ _ _ (by decide)]
    · rw [u2_f2 (κ := 2) _ _ _ (by decide), u2_f2 (κ := 5) _ _ _ (by decide), u2_f2 (κ := 2) _ _ _ (by decide)]
    · rw [u2_k _ _ _ _ (by decide), u2_s]
      exact hz
  · rw [if_neg c] at hR hz
    rw [hz]
    exact cStp_v hT hR (recP_3o hl hv c)
/-- what the slots speak of beside their own rows -/
def cSt (X X1 : Nat → Int → Int → Int) (Y Y1 : Nat → Int → Int → Option Int) : Prop := (∀ i, X1 19 i 1 = X 19 i 1) ∧ X1 20 = X 20 ∧ X1 21 = X 21 ∧ ∀ i, Y1 15 i 0 = Y 15 i 0
theorem cSt.of {L N : List Nat} (h : Frm L X X1) (k : Frm N Y Y1) (hd : ∀ q ∈ [1902, 2000, 2100], q ∉ L) (he : 1501 ∉ N) : cSt X X1 Y Y1 := ⟨fun i => h 19 i 1 (hd 1902 (by decide)), h.arr 20 (by decide +kernel) (hd 2000 (by decide)), h.arr 21 (by decide +kernel) (hd 2100 (by decide)), fun i => k 15 i 0 he⟩
theorem rcL.of {r k : Int} (h : rcL X Y g s r k) (hs : cSt X X1 Y Y1) (e3 : X1 10 g (5 * r + k) = X 10 g (5 * r + k)) (e4 : X1 11 g (5 * r + k) = X 11 g (5 * r + k)) (e5 : X1 12 g (5 * r + k) = X 12 g (5 * r + k)) (f1 : s' 1 r = s 1 r) (f5 : s' 5 (5 * r + k) = s 5 (5 * r + k)) : rcL X1 Y1 g s' r k := by
  obtain ⟨h4, h5, h6, h7⟩ := hs
  unfold rcL cLa at *
  rw [e3, e4, e5, f1, f5, h5, h6, h7]
  exact h
theorem cSt.fc (hs : cSt X X1 Y Y1) (q : Int) : cFc X1 Y1 q = cFc X Y q := by
  unfold cFc
  rw [hs.2.2.2, hs.1]
theorem rcV.push {r k : Int} (h : rcV X Y g s r k) (hs : cSt X X1 Y Y1) (hk : 0 ≤ k ∧ k ≤ 4) (hr : 0 ≤ r) (hf : ∀ t, X 19 t 1 ≤ 5) (o3 : ∀ j, j ≠ 5 * r + k → X1 10 g j = X 10 g j) (o4 : ∀ j, j ≠ 5 * r + k → X1 11 g j = X 11 g j) (o5 : ∀ j, j ≠ 5 * r + k → X1 12 g j = X 12 g j) (f1 : ∀ q, 0 ≤ q → q ≤ r → s' 1 q = s 1 q) (f5 : ∀ q, q ≠ 5 * r + k → s' 5 q = s 5 q) (hn : rcL X1 Y1 g s' r k) : rcV X1 Y1 g s' r (k + 1) := by
  obtain ⟨h1, h2⟩ := h
  refine ⟨fun r' k' a b c d => ?_, fun k' a b => ?_⟩
  · have e := f1 r' a (by omega)
    rw [e, hs.fc] at d
    have h5 : cFc X Y (s 1 r') ≤ 5 := hf _
    exact (h1 r' k' a b c d).of hs (o3 _ (by omega)) (o4 _ (by omega)) (o5 _ (by omega)) e (f5 _ (by omega))
  · by_cases e : k' = k
    · rw [e]
      exact hn
    · exact (h2 k' a (by omega)).of hs (o3 _ (by omega)) (o4 _ (by omega)) (o5 _ (by omega)) (f1 r hr (Int.le_refl _)) (f5 _ (by omega))
theorem rcV.next {r : Int} (h : rcV X Y g s r (cFc X Y (s 1 r))) : rcV X Y g s (r + 1) 0 := by
  refine ⟨fun r' k' a b c d => ?_, fun k' a b => by omega⟩
  by_cases e : r' = r
  · rw [e] at d ⊢
    exact h.2 k' c d
  · exact h.1 r' k' a (by omega) c d
theorem rcV.frm (h : rcV X Y g s y k) (hs : cSt X X1 Y Y1) (e3 : X1 10 = X 10) (e4 : X1 11 = X 11) (e5 : X1 12 = X 12) : rcV X1 Y1 g s y k := by
  refine ⟨fun r' k' a b c d => ?_, fun k' a b => ?_⟩
  · rw [hs.fc] at d
    exact (h.1 r' k' a b c d).of hs (by rw [e3]) (by rw [e4]) (by rw [e5]) rfl rfl
  · exact (h.2 k' a b).of hs (by rw [e3]) (by rw [e4]) (by rw [e5]) rfl rfl
theorem rcV.upto {r r' : Int} (h : rcV X Y g s r 0) (hr : r' ≤ r) : rcV X Y g s r' 0 := ⟨fun q k' a b => h.1 q k' a (by omega), fun k' a b => by omega⟩
theorem rcT.init {fc : Int → Int} {x : Int} (h : rcT X Y g (if nmAt (sg0 1) x (sg0 0 0).toNat = -1 then u2 (u2 sg0 1 (sg0 0 0) x) 0 0 (sg0 0 0 + 1) else sg0)) : rcT X Y g (recR fc la vl rid x 0) := by
  have c : nmAt (sg0 1) x (sg0 0 0).toNat = -1 := rfl
  rw [if_pos c] at h
  refine h.cong ?_ ?_
  · rw [recR_z, u2_k _ _ _ _ (by decide), u2_s, u2_s]
    rfl
  · rw [recR_z, u2_f2 (κ := 2) _ _ _ (by decide), u2_f2 (κ := 0) _ _ _ (by decide), u2_f2 (κ := 0) _ _ _ (by decide)]
    rfl
theorem rcR.init {fc : Int → Int} {x : Int} (h : X 7 g 6 = 0) (hn : ∀ y k w, 0 ≤ y → y < X 0 0 3 → 0 ≤ k → k < cFc X Y y → Y 17 y k = some w → X 26 w 1 = -1) : rcR X Y ln g (recR fc la vl rid x 0) := by
  have e : recR fc la vl rid x 0 2 0 = 0 := by rw [recR_z, u2_s]
  refine ⟨by rw [h, e], fun i a b => ?_, fun y k w a b c d f => ?_⟩
  · rw [e] at b
    omega
  · rw [e]
    exact hn y k w a b c d f
end CS
/-! records that are the same, in the class -/
def itE (X : Nat → Int → Int → Int) (g o i : Int) : Prop := X 13 g i = X 13 o i ∧ ∀ k, 0 ≤ k → k < X 13 g i → X 14 g (12 * i + k) = X 14 o (12 * i + k)
def vqC (X : Nat → Int → Int → Int) (g o i : Int) : Prop := X 12 g i = X 12 o i ∧ (3 ≤ X 11 g i → X 12 g i ≠ -1 → itE X g o (X 12 g i))
def shC (X : Nat → Int → Int → Int) (g o r : Int) : Prop := r < X 7 g 0 ∧ r < X 7 o 0 ∧ X 8 g r = X 8 o r ∧ X 9 g r = X 9 o r ∧ ∀ k, 0 ≤ k → k < X 9 g r → X 10 g (5 * r + k) = X 10 o (5 * r + k) ∧ X 11 g (5 * r + k) = X 11 o (5 * r + k)
def mxC (X : Nat → Int → Int → Int) (g o : Int) : Int := if X 7 g 0 < X 7 o 0 then X 7 o 0 else X 7 g 0
