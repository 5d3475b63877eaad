/-! what holds of the reference between calls: printed by wip/tools/minv.py -/
def tyv (th lane v : Int) : Prop := (lane = 1 → -1 ≤ v ∧ v ≤ 15) ∧ (lane = 2 → -1 ≤ v ∧ v < th) ∧ (3 ≤ lane → -1 ≤ v ∧ v ≤ 399)
def mA (X : Nat → Int → Int → Int) : Prop := ∀ x k : Int, 0 ≤ x → x < X 40 0 13 → 0 ≤ k → k < X 44 0 (X 55 0 x) → tyv (X 40 0 13) (X 46 0 (5 * X 55 0 x + k)) (X 56 0 (5 * x + k))
def mB (X : Nat → Int → Int → Int) : Prop := ∀ t k : Int, 0 ≤ t → t ≤ 7 → 0 ≤ k → k < X 44 0 t → X 46 0 (5 * t + k) ≠ 0 → X 47 0 (5 * t + k) = -1
def mC (X : Nat → Int → Int → Int) : Prop := ∀ s r : Int, 0 ≤ s → s ≤ 3 → 0 ≤ r → r < X 70 0 s → X 71 0 (30 * s + r) < X 40 0 2 ∧ ∀ k : Int, 0 ≤ k → k < X 72 0 (30 * s + r) → (X 74 0 (5 * (30 * s + r) + k) = 1 → -1 ≤ X 75 0 (5 * (30 * s + r) + k) ∧ X 75 0 (5 * (30 * s + r) + k) ≤ 15) ∧ (X 74 0 (5 * (30 * s + r) + k) = 2 → -1 ≤ X 75 0 (5 * (30 * s + r) + k) ∧ X 75 0 (5 * (30 * s + r) + k) < X 70 0 s) ∧ (3 ≤ X 74 0 (5 * (30 * s + r) + k) → -1 ≤ X 75 0 (5 * (30 * s + r) + k) ∧ X 75 0 (5 * (30 * s + r) + k) ≤ 149)
def mD (X : Nat → Int → Int → Int) : Prop := ∀ n : Int, 0 ≤ n → n < X 40 0 22 → (X 67 0 n < 0 → X 64 0 n < X 40 0 13 ∧ X 65 0 n < X 44 0 (X 55 0 (X 64 0 n)) ∧ tyv (X 40 0 13) (X 46 0 (5 * X 55 0 (X 64 0 n) + X 65 0 n)) (X 68 0 n)) ∧ (0 ≤ X 67 0 n → 0 ≤ X 66 0 n)
def mE (X : Nat → Int → Int → Int) : Prop := (X 40 0 20 = 0 → X 40 0 22 = 0) ∧ (0 < X 40 0 20 → X 62 0 0 = 0)
def mF (X : Nat → Int → Int → Int) : Prop := ∀ x : Int, 0 ≤ x → x < X 40 0 13 → X 55 0 x < X 40 0 2
def MInv (X : Nat → Int → Int → Int) : Prop := mA X ∧ mB X ∧ mC X ∧ mD X ∧ mE X ∧ mF X
def mDep : List Nat := [4400, 4600, 4700, 5500, 5600, 6200, 6400, 6500, 6600, 6700, 6800, 7000, 7100, 7200, 7400, 7500, 4003, 4014, 4021, 4023]
theorem minv_frm {M : List Nat} {X X1 : Nat → Int → Int → Int} (h : MInv X) (hF : Frm M X X1) (hd : ∀ c ∈ mDep, c ∉ M) : MInv X1 := by
  have efMany : ∀ j, X1 44 0 j = X 44 0 j := fun j => hF 44 0 j (hd 4400 (by decide))
  have efLane : ∀ j, X1 46 0 j = X 46 0 j := fun j => hF 46 0 j (hd 4600 (by decide))
  have efFirst : ∀ j, X1 47 0 j = X 47 0 j := fun j => hF 47 0 j (hd 4700 (by decide))
  have exType : ∀ j, X1 55 0 j = X 55 0 j := fun j => hF 55 0 j (hd 5500 (by decide))
  have exVal : ∀ j, X1 56 0 j = X 56 0 j := fun j => hF 56 0 j (hd 5600 (by decide))
  have emarkAt : ∀ j, X1 62 0 j = X 62 0 j := fun j => hF 62 0 j (hd 6200 (by decide))
  have enoteThing : ∀ j, X1 64 0 j = X 64 0 j := fun j => hF 64 0 j (hd 6400 (by decide))
  have enoteField : ∀ j, X1 65 0 j = X 65 0 j := fun j => hF 65 0 j (hd 6500 (by decide))
  have enoteRow : ∀ j, X1 66 0 j = X 66 0 j := fun j => hF 66 0 j (hd 6600 (by decide))
  have enoteItem : ∀ j, X1 67 0 j = X 67 0 j := fun j => hF 67 0 j (hd 6700 (by decide))
  have enoteWas : ∀ j, X1 68 0 j = X 68 0 j := fun j => hF 68 0 j (hd 6800 (by decide))
  have esMany : ∀ j, X1 70 0 j = X 70 0 j := fun j => hF 70 0 j (hd 7000 (by decide))
  have esType : ∀ j, X1 71 0 j = X 71 0 j := fun j => hF 71 0 j (hd 7100 (by decide))
  have esFields : ∀ j, X1 72 0 j = X 72 0 j := fun j => hF 72 0 j (hd 7200 (by decide))
  have esLane : ∀ j, X1 74 0 j = X 74 0 j := fun j => hF 74 0 j (hd 7400 (by decide))
  have esVal : ∀ j, X1 75 0 j = X 75 0 j := fun j => hF 75 0 j (hd 7500 (by decide))
  have etypes : X1 40 0 2 = X 40 0 2 := hF 40 0 2 (hd 4003 (by decide))
  have ethings : X1 40 0 13 = X 40 0 13 := hF 40 0 13 (hd 4014 (by decide))
  have emarks : X1 40 0 20 = X 40 0 20 := hF 40 0 20 (hd 4021 (by decide))
  have enotes : X1 40 0 22 = X 40 0 22 := hF 40 0 22 (hd 4023 (by decide))
  unfold MInv mA mB mC mD mE mF at *
  simp only [efMany, efLane, efFirst, exType, exVal, emarkAt, enoteThing, enoteField, enoteRow, enoteItem, enoteWas, esMany, esType, esFields, esLane, esVal, etypes, ethings, emarks, enotes]
  exact h
/-! what has a place in the order: each thing once -/
def ordOK (X : Nat → Int → Int → Int) : Prop := (∀ r, 0 ≤ r → r < X 70 0 4 → X 80 0 r < X 40 0 13) ∧ ∀ r q, 0 ≤ r → r < X 70 0 4 → 0 ≤ q → q < X 70 0 4 → X 80 0 r = X 80 0 q → r = q
theorem pgn2 : ∀ (n : Nat) (g : Nat → Int) (N : Nat), (∀ r, r < n → 0 ≤ g r ∧ g r < N) → (∀ r q, r < n → q < n → g r = g q → r = q) → n ≤ N := by
  intro n g N hb hi
  have key : ∀ m, m ≤ n → ((List.range m).map g).length = m ∧ ∀ v, v ∈ (List.range m).map g → 0 ≤ v ∧ v < N := by
    intro m hm
    refine ⟨by simp, fun v hv => ?_⟩
    obtain ⟨r, hr, rfl⟩ := List.mem_map.mp hv
    exact hb r (by have := List.mem_range.mp hr; omega)
  have h2 : ∀ (N : Nat) (Lk : List Int), Lk.Nodup → (∀ v, v ∈ Lk → 0 ≤ v ∧ v < N) → Lk.length ≤ N := by
    intro N
    induction N with
    | zero =>
      intro Lk _ h
      cases Lk with
      | nil => simp
      | cons a t => have := h a List.mem_cons_self; omega
    | succ N ih =>
      intro Lk hn h
      have h3 := ih (Lk.erase (N : Int)) (hn.erase _) (fun v hv => by
        have h4 := h v (List.mem_of_mem_erase hv)
        have h5 : v ≠ (N : Int) := fun e => by rw [e] at hv; exact (hn.not_mem_erase hv)
        omega)
      by_cases hm : (N : Int) ∈ Lk
      · have h6 := List.length_erase_of_mem hm
        omega
      · rw [List.erase_of_not_mem hm] at h3
        omega
  have h7 : ((List.range n).map g).Nodup := by
    refine List.pairwise_map.mpr (List.Pairwise.imp_of_mem ?_ List.nodup_range)
    intro a b ha hb' hn e
    exact hn (hi a b (List.mem_range.mp ha) (List.mem_range.mp hb') e)
  have := h2 N _ h7 (key n (Nat.le_refl n)).2
  rw [(key n (Nat.le_refl n)).1] at this
  exact this
theorem ordOK.room {X : Nat → Int → Int → Int} {x : Int} (h : ordOK X) (hR : Rng X) (h0 : 0 ≤ x) (hx : x < X 40 0 13) (hne : ∀ j, 0 ≤ j → j < X 70 0 4 → X 80 0 j ≠ x) : X 70 0 4 ≤ 29 := by
  have h1 : 0 ≤ X 70 0 4 ∧ X 70 0 4 ≤ 30 := hR 70 0 4
  have h2 : 0 ≤ X 40 0 13 ∧ X 40 0 13 ≤ 30 := hR 40 0 13
  have h3 := pgn2 ((X 70 0 4).toNat + 1) (fun r => if (r : Int) < X 70 0 4 then X 80 0 r else x) 30 (fun r hr => by
    split
    · rename_i hc
      have h4 : 0 ≤ X 80 0 r ∧ X 80 0 r ≤ 29 := hR 80 0 r
      omega
    · omega) (fun r q hr hq e => by
    split at e <;> split at e
    · have := h.2 r q (by omega) (by omega) (by omega) (by omega) e
      omega
    · exact absurd e (hne r (by omega) (by omega))
    · exact absurd e.symm (hne q (by omega) (by omega))
    · omega)
  omega
theorem ordOK.push {X X1 X2 : Nat → Int → Int → Int} {x : Int} (h : ordOK X) (hx : x < X 40 0 13) (hne : ∀ j, 0 ≤ j → j < X 70 0 4 → X 80 0 j ≠ x) (e1 : X1 = u3 X 80 0 (X 70 0 4) x) (e2 : X2 = u3 X1 70 0 4 (X 70 0 4 + 1)) : ordOK X2 := by
  have k1 : X2 70 0 4 = X 70 0 4 + 1 := by rw [e2]; exact u3_s _ _ _ _ _
  have k2 : X2 40 0 13 = X 40 0 13 := by rw [e2, e1, u3_k _ _ _ _ (by decide), u3_k _ _ _ _ (by decide)]
  have k3 : X2 80 0 (X 70 0 4) = x := by rw [e2, e1, u3_k _ _ _ _ (by decide)]; exact u3_s _ _ _ _ _
  have k4 : ∀ r, r ≠ X 70 0 4 → X2 80 0 r = X 80 0 r := fun r hr => by rw [e2, e1, u3_k _ _ _ _ (by decide), u3_j _ _ _ _ hr]
  refine ⟨fun r h0 h1 => ?_, fun r q h0 h1 h2 h3 e => ?_⟩
  · rw [k2]
    by_cases hr : r = X 70 0 4
    · rw [hr, k3]; exact hx
    · rw [k4 r hr]; exact h.1 r h0 (by omega)
  · by_cases hr : r = X 70 0 4 <;> by_cases hq : q = X 70 0 4
    · omega
    · rw [hr, k3, k4 q hq] at e; exact absurd e.symm (hne q h2 (by omega))
    · rw [hq, k3, k4 r hr] at e; exact absurd e (hne r h0 (by omega))
    · rw [k4 r hr, k4 q hq] at e; exact h.2 r q h0 (by omega) h2 (by omega) e
theorem ordOK.of {M : List Nat} {X X1 : Nat → Int → Int → Int} (h : ordOK X) (hF : Frm M X X1) (hd : ∀ c ∈ [7000, 8000, 4014], c ∉ M) : ordOK X1 := by
  have k1 : X1 70 0 4 = X 70 0 4 := hF 70 0 4 (hd 7000 (by decide))
  have k2 : X1 40 0 13 = X 40 0 13 := hF 40 0 13 (hd 4014 (by decide))
  have k3 : ∀ r, X1 80 0 r = X 80 0 r := fun r => hF 80 0 r (hd 8000 (by decide))
  unfold ordOK at *
  simp only [k1, k2, k3]
  exact h
theorem ordOK.nil {X : Nat → Int → Int → Int} (h : X 70 0 4 = 0) : ordOK X := ⟨fun r h0 h1 => by omega, fun r q h0 h1 => by omega⟩
/-! what the fifth save holds up to record r, field k -/
def ty4 (X : Nat → Int → Int → Int) (r k : Int) : Prop := (X 74 0 (5 * (120 + r) + k) = 1 → -1 ≤ X 75 0 (5 * (120 + r) + k) ∧ X 75 0 (5 * (120 + r) + k) ≤ 15) ∧ (X 74 0 (5 * (120 + r) + k) = 2 → -1 ≤ X 75 0 (5 * (120 + r) + k) ∧ X 75 0 (5 * (120 + r) + k) < X 70 0 4) ∧ (3 ≤ X 74 0 (5 * (120 + r) + k) → -1 ≤ X 75 0 (5 * (120 + r) + k) ∧ X 75 0 (5 * (120 + r) + k) ≤ 149)
def cOK (X : Nat → Int → Int → Int) (r k : Int) : Prop := (∀ r', 0 ≤ r' → r' < r → X 71 0 (120 + r') < X 40 0 2 ∧ ∀ k', 0 ≤ k' → k' < X 72 0 (120 + r') → ty4 X r' k') ∧ ∀ k', 0 ≤ k' → k' < k → ty4 X r k'
/-! the four saves stay: what is written is of the fifth -/
def S4 (X X1 : Nat → Int → Int → Int) : Prop := (∀ j, j ≤ 3 → X1 70 0 j = X 70 0 j) ∧ (∀ j, j < 120 → X1 71 0 j = X 71 0 j ∧ X1 72 0 j = X 72 0 j) ∧ (∀ j, j < 600 → X1 74 0 j = X 74 0 j ∧ X1 75 0 j = X 75 0 j)
theorem S4.rf {X : Nat → Int → Int → Int} : S4 X X := ⟨fun _ _ => rfl, fun _ _ => ⟨rfl, rfl⟩, fun _ _ => ⟨rfl, rfl⟩⟩
theorem S4.tr {X X1 X2 : Nat → Int → Int → Int} (h : S4 X X1) (g : S4 X1 X2) : S4 X X2 := ⟨fun j q => (g.1 j q).trans (h.1 j q), fun j q => ⟨(g.2.1 j q).1.trans (h.2.1 j q).1, (g.2.1 j q).2.trans (h.2.1 j q).2⟩, fun j q => ⟨(g.2.2 j q).1.trans (h.2.2 j q).1, (g.2.2 j q).2.trans (h.2.2 j q).2⟩⟩
theorem u3_at {X : Nat → Int → Int → Int} {k k1 : Nat} {i j j1 v : Int} (h : ¬ (k1 = k ∧ j1 = j)) : u3 X k i j v k1 0 j1 = X k1 0 j1 := by
  simp only [u3]
  rw [if_neg (fun q => h ⟨q.1, q.2.2⟩)]
theorem S4.set {X X1 : Nat → Int → Int → Int} {k : Nat} {i z v : Int} (h : S4 X X1) (hk : (k = 70 → 4 ≤ z) ∧ (k = 71 → 120 ≤ z) ∧ (k = 72 → 120 ≤ z) ∧ (k = 74 → 600 ≤ z) ∧ (k = 75 → 600 ≤ z)) : S4 X (u3 X1 k i z v) :=
  ⟨fun j q => (u3_at (by omega)).trans (h.1 j q), fun j q => ⟨(u3_at (by omega)).trans (h.2.1 j q).1, (u3_at (by omega)).trans (h.2.1 j q).2⟩, fun j q => ⟨(u3_at (by omega)).trans (h.2.2 j q).1, (u3_at (by omega)).trans (h.2.2 j q).2⟩⟩
theorem S4.frm {M : List Nat} {X X1 : Nat → Int → Int → Int} (hF : Frm M X X1) (hd : ∀ c ∈ [7000, 7100, 7200, 7400, 7500], c ∉ M) : S4 X X1 := ⟨fun j _ => hF 70 0 j (hd 7000 (by decide)), fun j _ => ⟨hF 71 0 j (hd 7100 (by decide)), hF 72 0 j (hd 7200 (by decide))⟩, fun j _ => ⟨hF 74 0 j (hd 7400 (by decide)), hF 75 0 j (hd 7500 (by decide))⟩⟩
theorem minv_s4 {M : List Nat} {X X1 : Nat → Int → Int → Int} (h : MInv X) (hR1 : Rng X1) (hF : Frm M X X1) (h4 : S4 X X1) (hd : ∀ c ∈ mDep, c ∉ [7000, 7100, 7200, 7400, 7500] → c ∉ M) : MInv X1 := by
  have efMany : ∀ j, X1 44 0 j = X 44 0 j := fun j => hF 44 0 j (hd 4400 (by decide) (by decide))
  have efLane : ∀ j, X1 46 0 j = X 46 0 j := fun j => hF 46 0 j (hd 4600 (by decide) (by decide))
  have efFirst : ∀ j, X1 47 0 j = X 47 0 j := fun j => hF 47 0 j (hd 4700 (by decide) (by decide))
  have exType : ∀ j, X1 55 0 j = X 55 0 j := fun j => hF 55 0 j (hd 5500 (by decide) (by decide))
  have exVal : ∀ j, X1 56 0 j = X 56 0 j := fun j => hF 56 0 j (hd 5600 (by decide) (by decide))
  have emarkAt : ∀ j, X1 62 0 j = X 62 0 j := fun j => hF 62 0 j (hd 6200 (by decide) (by decide))
  have enoteThing : ∀ j, X1 64 0 j = X 64 0 j := fun j => hF 64 0 j (hd 6400 (by decide) (by decide))
  have enoteField : ∀ j, X1 65 0 j = X 65 0 j := fun j => hF 65 0 j (hd 6500 (by decide) (by decide))
  have enoteRow : ∀ j, X1 66 0 j = X 66 0 j := fun j => hF 66 0 j (hd 6600 (by decide) (by decide))
  have enoteItem : ∀ j, X1 67 0 j = X 67 0 j := fun j => hF 67 0 j (hd 6700 (by decide) (by decide))
  have enoteWas : ∀ j, X1 68 0 j = X 68 0 j := fun j => hF 68 0 j (hd 6800 (by decide) (by decide))
  have etypes : X1 40 0 2 = X 40 0 2 := hF 40 0 2 (hd 4003 (by decide) (by decide))
  have ethings : X1 40 0 13 = X 40 0 13 := hF 40 0 13 (hd 4014 (by decide) (by decide))
  have emarks : X1 40 0 20 = X 40 0 20 := hF 40 0 20 (hd 4021 (by decide) (by decide))
  have enotes : X1 40 0 22 = X 40 0 22 := hF 40 0 22 (hd 4023 (by decide) (by decide))
  obtain ⟨hA, hB, hC, hD, hE, hG⟩ := h
  refine ⟨?_, ?_, ?_, ?_, ?_, ?_⟩
  · unfold mA at *; simp only [efMany, efLane, efFirst, exType, exVal, emarkAt, enoteThing, enoteField, enoteRow, enoteItem, enoteWas, etypes, ethings, emarks, enotes]; exact hA
  · unfold mB at *; simp only [efMany, efLane, efFirst, exType, exVal, emarkAt, enoteThing, enoteField, enoteRow, enoteItem, enoteWas, etypes, ethings, emarks, enotes]; exact hB
  · intro s0 r h1 h2 h3 h5
    rw [h4.1 s0 (by omega)] at h5
    have hz : X 70 0 s0 ≤ 30 := by have := hR1 70 0 s0; rw [h4.1 s0 (by omega)] at this; exact this.2
    obtain ⟨c1, c2⟩ := hC s0 r h1 h2 h3 h5
    refine ⟨by rw [(h4.2.1 _ (by omega)).1, etypes]; exact c1, fun k k0 k1 => ?_⟩
    have hf : X1 72 0 (30 * s0 + r) ≤ 5 := (hR1 72 0 (30 * s0 + r)).2
    rw [(h4.2.1 _ (by omega)).2] at k1 hf
    rw [(h4.2.2 _ (by omega)).1, (h4.2.2 _ (by omega)).2, h4.1 s0 (by omega)]
    exact c2 k k0 k1
  · unfold mD at *; simp only [efMany, efLane, efFirst, exType, exVal, emarkAt, enoteThing, enoteField, enoteRow, enoteItem, enoteWas, etypes, ethings, emarks, enotes]; exact hD
  · unfold mE at *; simp only [efMany, efLane, efFirst, exType, exVal, emarkAt, enoteThing, enoteField, enoteRow, enoteItem, enoteWas, etypes, ethings, emarks, enotes]; exact hE
  · unfold mF at *; simp only [efMany, efLane, efFirst, exType, exVal, emarkAt, enoteThing, enoteField, enoteRow, enoteItem, enoteWas, etypes, ethings, emarks, enotes]; exact hG
/-- a value of a field's lane is put there -/
theorem minv_xval {X : Nat → Int → Int → Int} {x k v : Int} (h : MInv X) (hR : Rng X) (h0 : 0 ≤ x) (h1 : x < X 40 0 13) (k0 : 0 ≤ k) (k1 : k < X 44 0 (X 55 0 x)) (hv : tyv (X 40 0 13) (X 46 0 (5 * X 55 0 x + k)) v) : MInv (u3 X 56 0 (5 * x + k) v) := by
  obtain ⟨hA, hB, hC, hD, hE, hG⟩ := h
  have e : ∀ (k' : Nat) (i j : Int), k' ≠ 56 → u3 X 56 0 (5 * x + k) v k' i j = X k' i j := fun k' i j hk => by rw [u3_k _ _ _ _ hk]
  have hf : ∀ t, X 44 0 t ≤ 5 := fun t => (hR 44 0 t).2
  refine ⟨?_, ?_, ?_, ?_, ?_, ?_⟩
  · intro x' k' h0' h1' k0' k1'
    simp only [e 40 _ _ (by decide), e 44 _ _ (by decide), e 46 _ _ (by decide), e 55 _ _ (by decide)] at *
    have := hf (X 55 0 x); have := hf (X 55 0 x')
    by_cases hx : x' = x ∧ k' = k
    · obtain ⟨rfl, rfl⟩ := hx
      rw [u3_s]; exact hv
    · rw [u3_j _ _ _ _ (by omega)]; exact hA x' k' h0' h1' k0' k1'
  · unfold mB at *; simp only [e 44 _ _ (by decide), e 46 _ _ (by decide), e 47 _ _ (by decide)]; exact hB
  · unfold mC at *; simp only [e 70 _ _ (by decide), e 71 _ _ (by decide), e 72 _ _ (by decide), e 74 _ _ (by decide), e 75 _ _ (by decide), e 40 _ _ (by decide)]; exact hC
  · unfold mD at *; simp only [e 40 _ _ (by decide), e 44 _ _ (by decide), e 46 _ _ (by decide), e 55 _ _ (by decide), e 64 _ _ (by decide), e 65 _ _ (by decide), e 66 _ _ (by decide), e 67 _ _ (by decide), e 68 _ _ (by decide)]; exact hD
  · unfold mE at *; simp only [e 40 _ _ (by decide), e 62 _ _ (by decide)]; exact hE
  · unfold mF at *; simp only [e 40 _ _ (by decide), e 55 _ _ (by decide)]; exact hG
/-! whom the queue has: each once, with a mate -/
def qOK (X : Nat → Int → Int → Int) : Prop := (∀ q, 0 ≤ q → q < X 40 0 50 → 0 ≤ X 86 0 (X 90 0 q) ∧ X 86 0 (X 90 0 q) < X 40 0 13 ∧ X 90 0 q < X 40 0 13) ∧ ∀ r q, 0 ≤ r → r < X 40 0 50 → 0 ≤ q → q < X 40 0 50 → X 90 0 r = X 90 0 q → r = q
theorem qOK.nil {X : Nat → Int → Int → Int} (h : X 40 0 50 = 0) : qOK X := ⟨fun r h0 h1 => by omega, fun r q h0 h1 => by omega⟩
theorem qOK.room {X : Nat → Int → Int → Int} {x : Int} (h : qOK X) (hR : Rng X) (h0 : 0 ≤ x ∧ x ≤ 29) (hx : X 86 0 x < 0) : X 40 0 50 ≤ 29 := by
  have h1 : 0 ≤ X 40 0 50 ∧ X 40 0 50 ≤ 30 := hR 40 0 50
  have hne : ∀ j, 0 ≤ j → j < X 40 0 50 → X 90 0 j ≠ x := fun j a b e => by have := h.1 j a b; rw [e] at this; omega
  have h3 := pgn2 ((X 40 0 50).toNat + 1) (fun r => if (r : Int) < X 40 0 50 then X 90 0 r else x) 30 (fun r hr => by
    split
    · have h4 : 0 ≤ X 90 0 r ∧ X 90 0 r ≤ 29 := hR 90 0 r
      omega
    · omega) (fun r q hr hq e => by
    split at e <;> split at e
    · have := h.2 r q (by omega) (by omega) (by omega) (by omega) e
      omega
    · exact absurd e (hne r (by omega) (by omega))
    · exact absurd e.symm (hne q (by omega) (by omega))
    · omega)
  omega
theorem qOK.push {X X1 X2 X3 X4 : Nat → Int → Int → Int} {x y : Int} (h : qOK X) (hy : 0 ≤ y ∧ y < X 40 0 13) (hxt : x < X 40 0 13) (hx : X 86 0 x < 0) (e1 : X1 = u3 X 86 0 x y) (e2 : X2 = u3 X1 87 0 y x) (e3 : X3 = u3 X2 90 0 (X 40 0 50) x) (e4 : X4 = u3 X3 40 0 50 (X 40 0 50 + 1)) : qOK X4 := by
  have hne : ∀ j, 0 ≤ j → j < X 40 0 50 → X 90 0 j ≠ x := fun j a b e => by have := h.1 j a b; rw [e] at this; omega
  have k1 : X4 40 0 50 = X 40 0 50 + 1 := by rw [e4]; exact u3_s _ _ _ _ _
  have k0 : X4 40 0 13 = X 40 0 13 := by rw [e4, e3, e2, e1, u3_j _ _ _ _ (by decide), u3_k _ _ _ _ (by decide), u3_k _ _ _ _ (by decide), u3_k _ _ _ _ (by decide)]
  have k3 : X4 90 0 (X 40 0 50) = x := by rw [e4, e3, u3_k _ _ _ _ (by decide)]; exact u3_s _ _ _ _ _
  have k4 : ∀ r, r ≠ X 40 0 50 → X4 90 0 r = X 90 0 r := fun r hr => by rw [e4, e3, e2, e1, u3_k _ _ _ _ (by decide), u3_j _ _ _ _ hr, u3_k _ _ _ _ (by decide), u3_k _ _ _ _ (by decide)]
  have k5 : X4 86 0 x = y := by rw [e4, e3, e2, e1, u3_k _ _ _ _ (by decide), u3_k _ _ _ _ (by decide), u3_k _ _ _ _ (by decide)]; exact u3_s _ _ _ _ _
  have k6 : ∀ r, r ≠ x → X4 86 0 r = X 86 0 r := fun r hr => by rw [e4, e3, e2, e1, u3_k _ _ _ _ (by decide), u3_k _ _ _ _ (by decide), u3_k _ _ _ _ (by decide), u3_j _ _ _ _ hr]
  refine ⟨fun r h0 h1 => ?_, fun r q h0 h1 h2 h3 e => ?_⟩
  · by_cases hr : r = X 40 0 50
    · rw [hr, k3, k5, k0]; exact ⟨hy.1, hy.2, hxt⟩
    · rw [k4 r hr, k6 _ (hne r h0 (by omega)), k0]; exact h.1 r h0 (by omega)
  · by_cases hr : r = X 40 0 50 <;> by_cases hq : q = X 40 0 50
    · omega
    · rw [hr, k3, k4 q hq] at e; exact absurd e.symm (hne q h2 (by omega))
    · rw [hq, k3, k4 r hr] at e; exact absurd e (hne r h0 (by omega))
    · rw [k4 r hr, k4 q hq] at e; exact h.2 r q h0 (by omega) h2 (by omega) e
theorem qOK.of {M : List Nat} {X X1 : Nat → Int → Int → Int} (h : qOK X) (hF : Frm M X X1) (hd : ∀ c ∈ [8600, 9000, 4051, 4014], c ∉ M) : qOK X1 := by
  have k0 : X1 40 0 13 = X 40 0 13 := hF 40 0 13 (hd 4014 (by decide))
  have k1 : X1 40 0 50 = X 40 0 50 := hF 40 0 50 (hd 4051 (by decide))
  have k2 : ∀ r, X1 86 0 r = X 86 0 r := fun r => hF 86 0 r (hd 8600 (by decide))
  have k3 : ∀ r, X1 90 0 r = X 90 0 r := fun r => hF 90 0 r (hd 9000 (by decide))
  unfold qOK at *
  simp only [k0, k1, k2, k3]
  exact h
/-! how many rows are taken -/
def Ucov (X : Nat → Int → Int → Int) (c : Int) : Prop := ∃ Lk : List Int, (Lk.length : Int) ≤ c ∧ ∀ j, 0 ≤ j → j < 400 → X 60 0 j = 1 → j ∈ Lk
theorem Ucov.mono {X : Nat → Int → Int → Int} {c c' : Int} (h : Ucov X c) (hc : c ≤ c') : Ucov X c' := by
  obtain ⟨Lk, h1, h2⟩ := h
  exact ⟨Lk, by omega, h2⟩
theorem Ucov.set {X : Nat → Int → Int → Int} {c z v : Int} (h : Ucov X c) : Ucov (u3 X 60 0 z v) (c + 1) := by
  obtain ⟨Lk, h1, h2⟩ := h
  refine ⟨z :: Lk, by simp only [List.length_cons]; omega, fun j j0 j1 e => ?_⟩
  by_cases hj : j = z
  · rw [hj]; exact List.mem_cons_self
  · rw [u3_j _ _ _ _ hj] at e
    exact List.mem_cons_of_mem _ (h2 j j0 j1 e)
theorem pgn : ∀ (r : Nat) (Lk : List Int), (∀ j : Nat, j < r → ((j : Nat) : Int) ∈ Lk) → r ≤ Lk.length := by
  intro r
  induction r with
  | zero => intro Lk _; exact Nat.zero_le _
  | succ r ih =>
    intro Lk h
    have hm := h r (Nat.lt_succ_self r)
    have h2 := ih (Lk.erase (r : Int)) (fun j hj => (List.mem_erase_of_ne (by omega)).mpr (h j (by omega)))
    have h3 := List.length_erase_of_mem hm
    have h4 : 0 < Lk.length := List.length_pos_of_mem hm
    omega
theorem Ucov.fin {X : Nat → Int → Int → Int} {c r : Int} (h : Ucov X c) (hr : 0 ≤ r ∧ r ≤ 400) (hu : ∀ j, 0 ≤ j → j < r → X 60 0 j = 1) : r ≤ c := by
  obtain ⟨Lk, h1, h2⟩ := h
  have := pgn r.toNat Lk (fun j hj => h2 j (by omega) (by omega) (hu j (by omega) (by omega)))
  omega

