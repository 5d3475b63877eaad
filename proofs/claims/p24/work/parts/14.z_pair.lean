/-! likeness: two recordings that run beside each other, and the pairing off -/
section PR
variable {fc ty : Int → Int} {la vl rid : Int → Int → Int} {s t s' t' : Nat → Int → Int} {rl : Int → Int} {ri : Int → Int → Int} {mt bk qu rm rb mt' bk' qu' rm' rb' : Int → Int} {v w y y' k p : Int}
def rowEq (rl : Int → Int) (ri : Int → Int → Int) (a b : Int) : Prop := rl a = rl b ∧ ∀ j, 0 ≤ j → j < rl a → ri a j = ri b j
def RR (rid : Int → Int → Int) (s : Nat → Int → Int) (i : Int) : Int := rid (s 3 i) (s 4 i)
def PT (s t : Nat → Int → Int) (mt bk qu : Int → Int) : Prop := 0 ≤ s 0 0 ∧ t 0 0 = s 0 0 ∧ (∀ i, 0 ≤ i → i < s 0 0 → qu i = s 1 i ∧ mt (s 1 i) = t 1 i ∧ bk (t 1 i) = s 1 i ∧ 0 ≤ s 1 i ∧ 0 ≤ t 1 i) ∧ (∀ a, 0 ≤ a → a < 30 → 0 ≤ mt a → ∃ i, 0 ≤ i ∧ i < s 0 0 ∧ s 1 i = a) ∧ ∀ b, 0 ≤ b → b < 30 → 0 ≤ bk b → ∃ i, 0 ≤ i ∧ i < s 0 0 ∧ t 1 i = b
def PW (rid : Int → Int → Int) (rl : Int → Int) (ri : Int → Int → Int) (s t : Nat → Int → Int) (rm rb : Int → Int) : Prop := 0 ≤ s 2 0 ∧ t 2 0 = s 2 0 ∧ (∀ i, 0 ≤ i → i < s 2 0 → rm (RR rid s i) = RR rid t i ∧ rb (RR rid t i) = RR rid s i ∧ 0 ≤ RR rid s i ∧ 0 ≤ RR rid t i ∧ rowEq rl ri (RR rid s i) (RR rid t i)) ∧ (∀ a, 0 ≤ a → a < 400 → 0 ≤ rm a → ∃ i, 0 ≤ i ∧ i < s 2 0 ∧ RR rid s i = a) ∧ ∀ b, 0 ≤ b → b < 400 → 0 ≤ rb b → ∃ i, 0 ≤ i ∧ i < s 2 0 ∧ RR rid t i = b
theorem PT.of (h : PT s t mt bk qu) (e0 : s' 0 0 = s 0 0) (e1 : s' 1 = s 1) (f0 : t' 0 0 = t 0 0) (f1 : t' 1 = t 1) : PT s' t' mt bk qu := by
  unfold PT; rw [e0, e1, f0, f1]; exact h
theorem PW.of (h : PW rid rl ri s t rm rb) (e2 : s' 2 0 = s 2 0) (e3 : s' 3 = s 3) (e4 : s' 4 = s 4) (f2 : t' 2 0 = t 2 0) (f3 : t' 3 = t 3) (f4 : t' 4 = t 4) : PW rid rl ri s' t' rm rb := by
  have a : RR rid s' = RR rid s := by funext i; unfold RR; rw [e3, e4]
  have b : RR rid t' = RR rid t := by funext i; unfold RR; rw [f3, f4]
  unfold PW; rw [e2, f2, a, b]; exact h
theorem PT.push (h : PT s t mt bk qu) (e0 : s' 0 0 = s 0 0 + 1) (e1 : s' 1 (s 0 0) = v) (e1' : ∀ i, i ≠ s 0 0 → s' 1 i = s 1 i) (f0 : t' 0 0 = t 0 0 + 1) (f1 : t' 1 (t 0 0) = w) (f1' : ∀ i, i ≠ t 0 0 → t' 1 i = t 1 i) (v0 : 0 ≤ v) (w0 : 0 ≤ w) (nv : ∀ i, 0 ≤ i → i < s 0 0 → s 1 i ≠ v) (nw : ∀ i, 0 ≤ i → i < s 0 0 → t 1 i ≠ w)
    (m : mt' v = w) (m' : ∀ a, a ≠ v → mt' a = mt a) (b : bk' w = v) (b' : ∀ a, a ≠ w → bk' a = bk a) (q : qu' (s 0 0) = v) (q' : ∀ j, j ≠ s 0 0 → qu' j = qu j) : PT s' t' mt' bk' qu' := by
  obtain ⟨h0, h1, h2, h3, h4⟩ := h
  rw [h1] at f0 f1 f1'
  refine ⟨by omega, by omega, fun i i0 i1 => ?_, fun a a0 a30 a1 => ?_, fun c c0 c30 c1 => ?_⟩
  · by_cases hi : i = s 0 0
    · rw [hi, e1, f1, m, b, q]; exact ⟨rfl, rfl, rfl, v0, w0⟩
    · have hlt : i < s 0 0 := by omega
      rw [e1' i hi, f1' i hi, q' i hi, m' _ (nv i i0 hlt), b' _ (nw i i0 hlt)]
      exact h2 i i0 hlt
  · by_cases ha : a = v
    · exact ⟨s 0 0, h0, by omega, by rw [e1, ha]⟩
    · rw [m' a ha] at a1
      obtain ⟨i, i0, i1, i2⟩ := h3 a a0 a30 a1
      exact ⟨i, i0, by omega, by rw [e1' i (by omega)]; exact i2⟩
  · by_cases hc : c = w
    · exact ⟨s 0 0, h0, by omega, by rw [f1, hc]⟩
    · rw [b' c hc] at c1
      obtain ⟨i, i0, i1, i2⟩ := h4 c c0 c30 c1
      exact ⟨i, i0, by omega, by rw [f1' i (by omega)]; exact i2⟩
theorem PW.push (h : PW rid rl ri s t rm rb) (e2 : s' 2 0 = s 2 0 + 1) (e : RR rid s' (s 2 0) = v) (e' : ∀ i, i ≠ s 2 0 → RR rid s' i = RR rid s i) (f2 : t' 2 0 = t 2 0 + 1) (f : RR rid t' (t 2 0) = w) (f' : ∀ i, i ≠ t 2 0 → RR rid t' i = RR rid t i) (v0 : 0 ≤ v) (w0 : 0 ≤ w) (nv : ∀ i, 0 ≤ i → i < s 2 0 → RR rid s i ≠ v) (nw : ∀ i, 0 ≤ i → i < s 2 0 → RR rid t i ≠ w)
    (m : rm' v = w) (m' : ∀ a, a ≠ v → rm' a = rm a) (b : rb' w = v) (b' : ∀ a, a ≠ w → rb' a = rb a) (g : rowEq rl ri v w) : PW rid rl ri s' t' rm' rb' := by
  obtain ⟨h0, h1, h2, h3, h4⟩ := h
  rw [h1] at f2 f f'
  refine ⟨by omega, by omega, fun i i0 i1 => ?_, fun a a0 a30 a1 => ?_, fun c c0 c30 c1 => ?_⟩
  · by_cases hi : i = s 2 0
    · rw [hi, e, f, m, b]; exact ⟨rfl, rfl, v0, w0, g⟩
    · have hlt : i < s 2 0 := by omega
      rw [e' i hi, f' i hi, m' _ (nv i i0 hlt), b' _ (nw i i0 hlt)]
      exact h2 i i0 hlt
  · by_cases ha : a = v
    · exact ⟨s 2 0, h0, by omega, by rw [e, ha]⟩
    · rw [m' a ha] at a1
      obtain ⟨i, i0, i1, i2⟩ := h3 a a0 a30 a1
      exact ⟨i, i0, by omega, by rw [e' i (by omega)]; exact i2⟩
  · by_cases hc : c = w
    · exact ⟨s 2 0, h0, by omega, by rw [f, hc]⟩
    · rw [b' c hc] at c1
      obtain ⟨i, i0, i1, i2⟩ := h4 c c0 c30 c1
      exact ⟨i, i0, by omega, by rw [f' i (by omega)]; exact i2⟩
/-- one place on both sides: the answer there is the same, rows and all -/
def Sm (la rid : Int → Int → Int) (rl : Int → Int) (ri : Int → Int → Int) (y k p : Int) (s t : Nat → Int → Int) : Prop := s 5 p = t 5 p ∧ (3 ≤ la y k → 0 ≤ s 5 p → rowEq rl ri (RR rid s (s 5 p)) (RR rid t (s 5 p)))
def Pr (rid : Int → Int → Int) (rl : Int → Int) (ri : Int → Int → Int) (s t : Nat → Int → Int) (mt bk qu rm rb : Int → Int) : Prop := PT s t mt bk qu ∧ PW rid rl ri s t rm rb
def StpL (la rid : Int → Int → Int) (rl : Int → Int) (ri : Int → Int → Int) (y k p : Int) (s t : Nat → Int → Int) (mt bk qu rm rb : Int → Int) (n z : Int) : Prop := (z = 1 ∧ Pr rid rl ri s t mt bk qu rm rb ∧ Sm la rid rl ri y k p s t ∧ n = s 0 0) ∨ (z = 0 ∧ ¬ Sm la rid rl ri y k p s t)
theorem Pr.val {a b : Int} (h : Pr rid rl ri s t mt bk qu rm rb) : Pr rid rl ri (u2 s 5 p a) (u2 t 5 p b) mt bk qu rm rb :=
  ⟨h.1.of (u2_k _ _ _ _ (by decide)) (u2_f2 _ _ _ (by decide)) (u2_k _ _ _ _ (by decide)) (u2_f2 _ _ _ (by decide)), h.2.of (u2_k _ _ _ _ (by decide)) (u2_f2 _ _ _ (by decide)) (u2_f2 _ _ _ (by decide)) (u2_k _ _ _ _ (by decide)) (u2_f2 _ _ _ (by decide)) (u2_f2 _ _ _ (by decide))⟩
/-- plain values -/
theorem stp_1 {n z : Int} (h : Pr rid rl ri s t mt bk qu rm rb) (hn : n = s 0 0) (hl : la y k < 2) (hl' : la y' k < 2) (hz : (z = 1 ∧ vl y k = vl y' k) ∨ (z = 0 ∧ vl y k ≠ vl y' k)) : StpL la rid rl ri y k p (recP la vl rid y k p s) (recP la vl rid y' k p t) mt bk qu rm rb n z := by
  rw [recP_1 hl, recP_1 hl']
  rcases hz with ⟨hz, e⟩ | ⟨hz, e⟩
  · exact Or.inl ⟨hz, h.val, ⟨by rw [u2_s, u2_s]; exact e, fun w => by omega⟩, by rw [u2_k _ _ _ _ (by decide)]; exact hn⟩
  · exact Or.inr ⟨hz, fun q => e (by have := q.1; rw [u2_s, u2_s] at this; exact this)⟩
/-- none on one side -/
theorem recP_neg (hl : 2 ≤ la y k) (h2 : la y k = 2 → vl y k < 0) (h3 : 3 ≤ la y k → rid y k < 0) : recP la vl rid y k p s = u2 s 5 p (-1) := by
  by_cases a : la y k = 2
  · exact recP_2n a (h2 a)
  · exact recP_3n (by omega) (h3 (by omega))
theorem recP_pos (hs : 0 ≤ s 0 0) (hs2 : 0 ≤ s 2 0) (hl : 2 ≤ la y k) (h2 : la y k = 2 → 0 ≤ vl y k) (h3 : 3 ≤ la y k → 0 ≤ rid y k) : 0 ≤ recP la vl rid y k p s 5 p := by
  by_cases a : la y k = 2
  · rcases nmAt_spec (s 1) (vl y k) (s 0 0).toNat with ⟨q1, -⟩ | ⟨q1, q2, q3, -⟩
    · rw [recP_2w a (h2 a) q1, u2_k _ _ _ _ (by decide), u2_s]; exact hs
    · rw [recP_2o a (h2 a) (by omega), u2_s]; exact q1
  · rcases nmAt_spec (fun q => rid (s 3 q) (s 4 q)) (rid y k) (s 2 0).toNat with ⟨q1, -⟩ | ⟨q1, q2, q3, -⟩
    · rw [recP_3w (by omega) (h3 (by omega)) q1, u2_k _ _ _ _ (by decide), u2_s]; exact hs2
    · rw [recP_3o (by omega) (h3 (by omega)) (by omega), u2_s]; exact q1
theorem stp_n {n z : Int} (h : Pr rid rl ri s t mt bk qu rm rb) (hc : n = s 0 0) (hl : 2 ≤ la y k) (hl' : la y' k = la y k) (ev : vl = rid) (b1 : -1 ≤ rid y k) (b2 : -1 ≤ rid y' k) (hn : rid y k < 0 ∨ rid y' k < 0) (hz : (z = 1 ∧ rid y k = rid y' k) ∨ (z = 0 ∧ rid y k ≠ rid y' k)) : StpL la rid rl ri y k p (recP la vl rid y k p s) (recP la vl rid y' k p t) mt bk qu rm rb n z := by
  subst ev
  have s0 := h.1.1; have s2 := h.2.1; have t0 := h.1.2.1; have t2 := h.2.2.1
  rcases hz with ⟨hz, e⟩ | ⟨hz, e⟩
  · rw [recP_neg hl (fun _ => by omega) (fun _ => by omega), recP_neg (by omega) (fun _ => by omega) (fun _ => by omega)]
    exact Or.inl ⟨hz, h.val, ⟨by rw [u2_s, u2_s], fun _ w => by rw [u2_s] at w; omega⟩, by rw [u2_k _ _ _ _ (by decide)]; exact hc⟩
  · refine Or.inr ⟨hz, fun q => ?_⟩
    have q1 := q.1
    by_cases c : vl y k < 0
    · rw [recP_neg (s := s) hl (fun _ => c) (fun _ => c), u2_s] at q1
      have := recP_pos (la := la) (vl := vl) (rid := vl) (y := y') (k := k) (p := p) (s := t) (by omega) (by omega) (by omega) (fun _ => by omega) (fun _ => by omega)
      omega
    · rw [recP_neg (s := t) (y := y') (by omega) (fun _ => by omega) (fun _ => by omega), u2_s] at q1
      have := recP_pos (la := la) (vl := vl) (rid := vl) (y := y) (k := k) (p := p) (s := s) (by omega) (by omega) (by omega) (fun _ => by omega) (fun _ => by omega)
      omega
/-- a thing that stands on one side at least -/
theorem stp_to {n z : Int} (h : Pr rid rl ri s t mt bk qu rm rb) (hn : n = s 0 0) (hl : la y k = 2) (hl' : la y' k = 2) (v0 : 0 ≤ vl y k) (w0 : 0 ≤ vl y' k) (v1 : vl y k < 30) (w1 : vl y' k < 30) (ho : 0 ≤ mt (vl y k) ∨ 0 ≤ bk (vl y' k)) (hz : (z = 1 ∧ mt (vl y k) = vl y' k ∧ bk (vl y' k) = vl y k) ∨ (z = 0 ∧ ¬ (mt (vl y k) = vl y' k ∧ bk (vl y' k) = vl y k))) : StpL la rid rl ri y k p (recP la vl rid y k p s) (recP la vl rid y' k p t) mt bk qu rm rb n z := by
  obtain ⟨⟨h0, h1, h2, h3, h4⟩, hW⟩ := id h
  have S1 := nmAt_spec (s 1) (vl y k) (s 0 0).toNat
  have T1 := nmAt_spec (t 1) (vl y' k) (t 0 0).toNat
  rcases hz with ⟨hz, e1, e2⟩ | ⟨hz, e⟩
  · have hnm : nmAt (s 1) (vl y k) (s 0 0).toNat = nmAt (t 1) (vl y' k) (t 0 0).toNat := by
      rw [h1]
      refine nmAt_alike (fun j j0 j1 => ⟨fun q => ?_, fun q => ?_⟩)
      · have := (h2 j j0 (by omega)).2.1; rw [q, e1] at this; exact this.symm
      · have := (h2 j j0 (by omega)).2.2.1; rw [q, e2] at this; exact this.symm
    have hs : nmAt (s 1) (vl y k) (s 0 0).toNat ≠ -1 := by
      obtain ⟨i, i0, i1, i2⟩ := h3 (vl y k) v0 v1 (by omega)
      rcases S1 with ⟨-, q⟩ | ⟨q, -⟩
      · exact absurd i2 (q i i0 (by omega))
      · omega
    rw [recP_2o hl v0 hs, recP_2o hl' w0 (by rw [← hnm]; exact hs)]
    exact Or.inl ⟨hz, h.val, ⟨by rw [u2_s, u2_s]; exact hnm, fun w => by omega⟩, by rw [u2_k _ _ _ _ (by decide)]; exact hn⟩
  · refine Or.inr ⟨hz, fun q => ?_⟩
    have q1 := q.1
    rcases S1 with ⟨a1, a2⟩ | ⟨a1, a2, a3, -⟩
    · rcases T1 with ⟨b1, b2⟩ | ⟨b1, b2, b3, -⟩
      · rcases ho with o | o
        · obtain ⟨i, i0, i1, i2⟩ := h3 _ v0 v1 o
          exact a2 i i0 (by omega) i2
        · obtain ⟨i, i0, i1, i2⟩ := h4 _ w0 w1 o
          exact b2 i i0 (by omega) i2
      · rw [recP_2w hl v0 a1, recP_2o hl' w0 (by omega), u2_k _ _ _ _ (by decide), u2_s, u2_s] at q1
        omega
    · rcases T1 with ⟨b1, b2⟩ | ⟨b1, b2, b3, -⟩
      · rw [recP_2o hl v0 (by omega), recP_2w hl' w0 b1, u2_s, u2_k _ _ _ _ (by decide), u2_s] at q1
        omega
      · rw [recP_2o hl v0 (by omega), recP_2o hl' w0 (by omega), u2_s, u2_s] at q1
        have g := h2 _ a1 (by omega)
        rw [a3, q1, b3] at g
        exact e ⟨g.2.1, g.2.2.1⟩
/-- a thing that is new on both sides -/
theorem stp_tw {n : Int} (h : Pr rid rl ri s t mt bk qu rm rb) (hl : la y k = 2) (hl' : la y' k = 2) (v0 : 0 ≤ vl y k) (w0 : 0 ≤ vl y' k) (m0 : mt (vl y k) < 0) (b0 : bk (vl y' k) < 0) (hn : n = s 0 0)
    (m : mt' (vl y k) = vl y' k) (m' : ∀ a, a ≠ vl y k → mt' a = mt a) (b : bk' (vl y' k) = vl y k) (b' : ∀ a, a ≠ vl y' k → bk' a = bk a) (q : qu' n = vl y k) (q' : ∀ j, j ≠ n → qu' j = qu j) : StpL la rid rl ri y k p (recP la vl rid y k p s) (recP la vl rid y' k p t) mt' bk' qu' rm rb (n + 1) 1 := by
  obtain ⟨hT, hW⟩ := id h
  obtain ⟨h0, h1, h2, h3, h4⟩ := id hT
  subst hn
  have nv : ∀ i, 0 ≤ i → i < s 0 0 → s 1 i ≠ vl y k := fun i i0 i1 e => by
    have := h2 i i0 i1; rw [e] at this; omega
  have nw : ∀ i, 0 ≤ i → i < s 0 0 → t 1 i ≠ vl y' k := fun i i0 i1 e => by
    have := h2 i i0 i1; rw [e] at this; omega
  rw [recP_2w hl v0 (nmAt_no nv h0), recP_2w hl' w0 (nmAt_no (by rw [h1]; exact nw) (by omega))]
  have E : ∀ (u : Nat → Int → Int) (a b c : Int) (κ : Nat), κ ≠ 0 → κ ≠ 5 → κ ≠ 1 → u2 (u2 (u2 u 1 (u 0 0) a) 5 p b) 0 0 c κ = u κ := fun u a b c κ k0 k5 k1 => by rw [u2_f2 _ _ _ k0, u2_f2 _ _ _ k5, u2_f2 _ _ _ k1]
  have E1 : ∀ (u : Nat → Int → Int) (a b c : Int), u2 (u2 (u2 u 1 (u 0 0) a) 5 p b) 0 0 c 1 = u2 u 1 (u 0 0) a 1 := fun u a b c => by rw [u2_f2 _ _ _ (by decide), u2_f2 _ _ _ (by decide)]
  refine Or.inl ⟨rfl, ⟨hT.push (v := vl y k) (w := vl y' k) ?_ ?_ ?_ ?_ ?_ ?_ v0 w0 nv nw m m' b b' q q', hW.of ?_ ?_ ?_ ?_ ?_ ?_⟩, ⟨?_, fun w => by omega⟩, ?_⟩
  · rw [u2_s]
  · rw [E1, u2_s]
  · intro i hi; rw [E1, u2_i _ _ _ hi]
  · rw [u2_s]
  · rw [E1, u2_s]
  · intro i hi; rw [E1, u2_i _ _ _ hi]
  · rw [E _ _ _ _ 2 (by decide) (by decide) (by decide)]
  · exact E _ _ _ _ 3 (by decide) (by decide) (by decide)
  · exact E _ _ _ _ 4 (by decide) (by decide) (by decide)
  · rw [E _ _ _ _ 2 (by decide) (by decide) (by decide)]
  · exact E _ _ _ _ 3 (by decide) (by decide) (by decide)
  · exact E _ _ _ _ 4 (by decide) (by decide) (by decide)
  · have v5 : ∀ (u : Nat → Int → Int) (a b c : Int), u2 (u2 (u2 u 1 (u 0 0) a) 5 p b) 0 0 c 5 p = b := fun u a b c => by rw [u2_k _ _ _ _ (by decide), u2_s]
    rw [v5, v5, h1]
  · rw [u2_s]
/-- a row that stands on one side at least -/
theorem stp_ro {n z : Int} (h : Pr rid rl ri s t mt bk qu rm rb) (hn : n = s 0 0) (hl : 3 ≤ la y k) (hl' : 3 ≤ la y' k) (v0 : 0 ≤ rid y k) (w0 : 0 ≤ rid y' k) (v1 : rid y k < 400) (w1 : rid y' k < 400) (ho : 0 ≤ rm (rid y k) ∨ 0 ≤ rb (rid y' k)) (hz : (z = 1 ∧ rm (rid y k) = rid y' k ∧ rb (rid y' k) = rid y k) ∨ (z = 0 ∧ ¬ (rm (rid y k) = rid y' k ∧ rb (rid y' k) = rid y k))) : StpL la rid rl ri y k p (recP la vl rid y k p s) (recP la vl rid y' k p t) mt bk qu rm rb n z := by
  obtain ⟨hT, ⟨h0, h1, h2, h3, h4⟩⟩ := id h
  have S1 := nmAt_spec (fun q => rid (s 3 q) (s 4 q)) (rid y k) (s 2 0).toNat
  have T1 := nmAt_spec (fun q => rid (t 3 q) (t 4 q)) (rid y' k) (t 2 0).toNat
  rcases hz with ⟨hz, e1, e2⟩ | ⟨hz, e⟩
  · have hnm : nmAt (fun q => rid (s 3 q) (s 4 q)) (rid y k) (s 2 0).toNat = nmAt (fun q => rid (t 3 q) (t 4 q)) (rid y' k) (t 2 0).toNat := by
      rw [h1]
      refine nmAt_alike (fun j j0 j1 => ⟨fun q => ?_, fun q => ?_⟩)
      · have := (h2 j j0 (by omega)).1; rw [show RR rid s j = rid y k from q, e1] at this; exact this.symm
      · have := (h2 j j0 (by omega)).2.1; rw [show RR rid t j = rid y' k from q, e2] at this; exact this.symm
    obtain ⟨i, i0, i1, i2⟩ := h3 (rid y k) v0 v1 (by omega)
    rcases S1 with ⟨-, q⟩ | ⟨q, q2, q3, -⟩
    · exact absurd i2 (q i i0 (by omega))
    rw [recP_3o hl v0 (by omega), recP_3o hl' w0 (by rw [← hnm]; omega)]
    refine Or.inl ⟨hz, h.val, ⟨by rw [u2_s, u2_s]; exact hnm, fun _ _ => ?_⟩, by rw [u2_k _ _ _ _ (by decide)]; exact hn⟩
    have g := (h2 _ q (by omega)).2.2.2.2
    rw [u2_s]
    unfold RR at g ⊢
    rw [u2_f2 _ _ _ (by decide), u2_f2 _ _ _ (by decide), u2_f2 _ _ _ (by decide), u2_f2 _ _ _ (by decide)]
    exact g
  · refine Or.inr ⟨hz, fun q => ?_⟩
    have q1 := q.1
    rcases S1 with ⟨a1, a2⟩ | ⟨a1, a2, a3, -⟩
    · rcases T1 with ⟨b1, b2⟩ | ⟨b1, b2, b3, -⟩
      · rcases ho with o | o
        · obtain ⟨i, i0, i1, i2⟩ := h3 _ v0 v1 o
          exact a2 i i0 (by omega) i2
        · obtain ⟨i, i0, i1, i2⟩ := h4 _ w0 w1 o
          exact b2 i i0 (by omega) i2
      · rw [recP_3w hl v0 a1, recP_3o hl' w0 (by omega), u2_k _ _ _ _ (by decide), u2_s, u2_s] at q1
        omega
    · rcases T1 with ⟨b1, b2⟩ | ⟨b1, b2, b3, -⟩
      · rw [recP_3o hl v0 (by omega), recP_3w hl' w0 b1, u2_s, u2_k _ _ _ _ (by decide), u2_s] at q1
        omega
      · rw [recP_3o hl v0 (by omega), recP_3o hl' w0 (by omega), u2_s, u2_s] at q1
        have g := h2 _ a1 (by omega)
        rw [show RR rid s _ = rid y k from a3, q1, show RR rid t _ = rid y' k from b3] at g
        exact e ⟨g.1, g.2.1⟩
/-- a row that is new on both sides -/
theorem stp_rw {n z : Int} (h : Pr rid rl ri s t mt bk qu rm rb) (hn : n = s 0 0) (hl : 3 ≤ la y k) (hl' : 3 ≤ la y' k) (v0 : 0 ≤ rid y k) (w0 : 0 ≤ rid y' k) (m0 : rm (rid y k) < 0) (b0 : rb (rid y' k) < 0)
    (m : rm' (rid y k) = rid y' k) (m' : ∀ a, a ≠ rid y k → rm' a = rm a) (b : rb' (rid y' k) = rid y k) (b' : ∀ a, a ≠ rid y' k → rb' a = rb a) (hz : (z = 1 ∧ rowEq rl ri (rid y k) (rid y' k)) ∨ (z = 0 ∧ ¬ rowEq rl ri (rid y k) (rid y' k))) : StpL la rid rl ri y k p (recP la vl rid y k p s) (recP la vl rid y' k p t) mt bk qu rm' rb' n z := by
  obtain ⟨hT, hW⟩ := id h
  obtain ⟨h0, h1, h2, h3, h4⟩ := id hW
  have nv : ∀ i, 0 ≤ i → i < s 2 0 → RR rid s i ≠ rid y k := fun i i0 i1 e => by
    have := h2 i i0 i1; rw [e] at this; omega
  have nw : ∀ i, 0 ≤ i → i < s 2 0 → RR rid t i ≠ rid y' k := fun i i0 i1 e => by
    have := h2 i i0 i1; rw [e] at this; omega
  rw [recP_3w hl v0 (nmAt_no nv h0), recP_3w hl' w0 (nmAt_no (by rw [h1]; exact nw) (by omega))]
  have E : ∀ (u : Nat → Int → Int) (a b c d : Int) (κ : Nat), κ ≠ 2 → κ ≠ 5 → κ ≠ 4 → κ ≠ 3 → u2 (u2 (u2 (u2 u 3 (u 2 0) a) 4 (u 2 0) b) 5 p c) 2 0 d κ = u κ := fun u a b c d κ k2 k5 k4 k3 => by rw [u2_f2 _ _ _ k2, u2_f2 _ _ _ k5, u2_f2 _ _ _ k4, u2_f2 _ _ _ k3]
  have E3 : ∀ (u : Nat → Int → Int) (a b c d : Int), u2 (u2 (u2 (u2 u 3 (u 2 0) a) 4 (u 2 0) b) 5 p c) 2 0 d 3 = u2 u 3 (u 2 0) a 3 := fun u a b c d => by rw [u2_f2 _ _ _ (by decide), u2_f2 _ _ _ (by decide), u2_f2 _ _ _ (by decide)]
  have E4 : ∀ (u : Nat → Int → Int) (a b c d : Int), u2 (u2 (u2 (u2 u 3 (u 2 0) a) 4 (u 2 0) b) 5 p c) 2 0 d 4 = u2 (u2 u 3 (u 2 0) a) 4 (u 2 0) b 4 := fun u a b c d => by rw [u2_f2 _ _ _ (by decide), u2_f2 _ _ _ (by decide)]
  have Rn : ∀ (u : Nat → Int → Int) (a b c d : Int), RR rid (u2 (u2 (u2 (u2 u 3 (u 2 0) a) 4 (u 2 0) b) 5 p c) 2 0 d) (u 2 0) = rid a b := fun u a b c d => by unfold RR; rw [E3, E4, u2_s, u2_s]
  have Ro : ∀ (u : Nat → Int → Int) (a b c d i : Int), i ≠ u 2 0 → RR rid (u2 (u2 (u2 (u2 u 3 (u 2 0) a) 4 (u 2 0) b) 5 p c) 2 0 d) i = RR rid u i := fun u a b c d i hi => by unfold RR; rw [E3, E4, u2_i _ _ _ hi, u2_i _ _ _ hi, u2_k _ _ _ _ (by decide)]
  have v5 : ∀ (u : Nat → Int → Int) (a b c d : Int), u2 (u2 (u2 (u2 u 3 (u 2 0) a) 4 (u 2 0) b) 5 p c) 2 0 d 5 p = c := fun u a b c d => by rw [u2_k _ _ _ _ (by decide), u2_s]
  rcases hz with ⟨hz, g⟩ | ⟨hz, g⟩
  · refine Or.inl ⟨hz, ⟨hT.of ?_ ?_ ?_ ?_, hW.push (v := rid y k) (w := rid y' k) ?_ (Rn _ _ _ _ _) (fun i hi => Ro _ _ _ _ _ i hi) ?_ (Rn _ _ _ _ _) (fun i hi => Ro _ _ _ _ _ i hi) v0 w0 nv nw m m' b b' g⟩, ⟨?_, fun _ _ => ?_⟩, ?_⟩
    · rw [E _ _ _ _ _ 0 (by decide) (by decide) (by decide) (by decide)]
    · exact E _ _ _ _ _ 1 (by decide) (by decide) (by decide) (by decide)
    · rw [E _ _ _ _ _ 0 (by decide) (by decide) (by decide) (by decide)]
    · exact E _ _ _ _ _ 1 (by decide) (by decide) (by decide) (by decide)
    · rw [u2_s]
    · rw [u2_s]
    · rw [v5, v5, h1]
    · rw [v5, Rn]
      have e := Rn t y' k (t 2 0) (t 2 0 + 1)
      rw [h1] at e ⊢
      rw [e]; exact g
    · rw [E _ _ _ _ _ 0 (by decide) (by decide) (by decide) (by decide)]; exact hn
  · refine Or.inr ⟨hz, fun q => g ?_⟩
    have q2 := q.2 hl (by rw [v5]; exact h0)
    rw [v5, Rn] at q2
    have e := Rn t y' k (t 2 0) (t 2 0 + 1)
    rw [h1] at e q2
    rw [e] at q2; exact q2
end PR
/-! what stays of a recording while it goes on -/
section KP
variable {fc ty : Int → Int} {la vl rid : Int → Int → Int} {s t u v w : Nat → Int → Int} {rl : Int → Int} {ri : Int → Int → Int} {y k p p' x r q : Int}
def Kp (p : Int) (u v : Nat → Int → Int) : Prop := 0 ≤ u 2 0 ∧ u 2 0 ≤ v 2 0 ∧ (∀ i, i < u 2 0 → v 3 i = u 3 i ∧ v 4 i = u 4 i) ∧ ∀ q, q < p → v 5 q = u 5 q
theorem Kp.rf (h : 0 ≤ u 2 0) : Kp p u u := ⟨h, Int.le_refl _, fun _ _ => ⟨rfl, rfl⟩, fun _ _ => rfl⟩
theorem Kp.tr (h : Kp p u v) (g : Kp p v w) : Kp p u w := by
  obtain ⟨a1, a2, a3, a4⟩ := h
  obtain ⟨b1, b2, b3, b4⟩ := g
  exact ⟨a1, by omega, fun i hi => ⟨((b3 i (by omega)).1).trans (a3 i hi).1, ((b3 i (by omega)).2).trans (a3 i hi).2⟩, fun q hq => (b4 q hq).trans (a4 q hq)⟩
theorem Kp.le (h : Kp p u v) (hp : p' ≤ p) : Kp p' u v := ⟨h.1, h.2.1, h.2.2.1, fun q hq => h.2.2.2 q (by omega)⟩
theorem recP_kp (h2 : 0 ≤ s 2 0) (hp : p ≤ p') : Kp p s (recP la vl rid y k p' s) := by
  have hh : s 2 0 ≤ recP la vl rid y k p' s 2 0 ∧ ∀ i, i < s 2 0 → recP la vl rid y k p' s 3 i = s 3 i ∧ recP la vl rid y k p' s 4 i = s 4 i := by
    unfold recP
    split
    · simp [u2]
    · split
      · split
        · simp [u2]
        · split <;> simp [u2]
      · split
        · simp [u2]
        · split
          · refine ⟨by simp [u2]; omega, fun i hi => ?_⟩
            have hn : i ≠ s 2 0 := by omega
            simp [u2, hn]
          · simp [u2]
  exact ⟨h2, hh.1, hh.2, fun q hq => recP_5 (by omega)⟩
theorem recK_kp (h2 : 0 ≤ s 2 0) (n d : Nat) : Kp (5 * r + (n : Int)) (recK la vl rid s r n) (recK la vl rid s r (n + d)) ∧ 0 ≤ recK la vl rid s r n 2 0 := by
  have h0 : ∀ m : Nat, 0 ≤ recK la vl rid s r m 2 0 := fun m => by
    induction m with
    | zero => exact h2
    | succ m ih =>
      have h9 := (recP_kp (la := la) (vl := vl) (rid := rid) (y := s 1 r) (k := (m : Int)) (p := 5 * r + (m : Int)) (p' := 5 * r + (m : Int)) ih (by omega)).2.1
      show 0 ≤ recP la vl rid (s 1 r) (m : Int) (5 * r + (m : Int)) (recK la vl rid s r m) 2 0
      omega
  refine ⟨?_, h0 n⟩
  induction d with
  | zero => exact Kp.rf (h0 n)
  | succ d ih =>
    refine ih.tr ?_
    show Kp _ _ (recP la vl rid (s 1 r) ((n + d : Nat) : Int) (5 * r + ((n + d : Nat) : Int)) (recK la vl rid s r (n + d)))
    exact recP_kp (h0 _) (by omega)
theorem recR_kp (n d : Nat) : Kp (5 * (n : Int)) (recR fc la vl rid x n) (recR fc la vl rid x (n + d)) ∧ 0 ≤ recR fc la vl rid x n 2 0 := by
  have st : ∀ m : Nat, 0 ≤ recR fc la vl rid x m 2 0 → Kp (5 * (m : Int)) (recR fc la vl rid x m) (recR fc la vl rid x (m + 1)) := fun m hm => by
    by_cases c : (m : Int) < recR fc la vl rid x m 0 0
    · rw [recR_up m c]
      have := (recK_kp (la := la) (vl := vl) (rid := rid) (r := (m : Int)) hm 0 (fc (recR fc la vl rid x m 1 (m : Int))).toNat).1
      rw [Nat.zero_add] at this
      exact this.le (by omega)
    · rw [recR_stop m 1 c]; exact Kp.rf hm
  have h0 : ∀ m : Nat, 0 ≤ recR fc la vl rid x m 2 0 := fun m => by
    induction m with
    | zero => rw [recR_z, u2_s]; exact Int.le_refl _
    | succ m ih => have := (st m ih).2.1; omega
  refine ⟨?_, h0 n⟩
  induction d with
  | zero => exact Kp.rf (h0 n)
  | succ d ih => exact ih.tr ((st (n + d) (h0 _)).le (by omega))
/-- from the middle of a record to the end -/
theorem rec_kp (hf : ∀ y, fc y ≤ 5) (hr : 0 ≤ r ∧ r < 30) (hlt : r < recR fc la vl rid x r.toNat 0 0) (hk : 0 ≤ k ∧ k ≤ fc (recR fc la vl rid x r.toNat 1 r)) : Kp (5 * r + k) (recK la vl rid (recR fc la vl rid x r.toNat) r k.toNat) (recR fc la vl rid x 30) := by
  have f5 := hf (recR fc la vl rid x r.toNat 1 r)
  have a := (recK_kp (la := la) (vl := vl) (rid := rid) (r := r) (recR_kp (fc := fc) (la := la) (vl := vl) (rid := rid) (x := x) r.toNat 0).2 k.toNat ((fc (recR fc la vl rid x r.toNat 1 r)).toNat - k.toNat)).1
  rw [show k.toNat + ((fc (recR fc la vl rid x r.toNat 1 r)).toNat - k.toNat) = (fc (recR fc la vl rid x r.toNat 1 r)).toNat by omega, ← recR_next hr.1 hlt rfl] at a
  have b := (recR_kp (fc := fc) (la := la) (vl := vl) (rid := rid) (x := x) (r + 1).toNat (30 - (r + 1).toNat)).1
  rw [show (r + 1).toNat + (30 - (r + 1).toNat) = 30 by omega] at b
  exact (a.le (by omega)).tr (b.le (by omega))
theorem recP_b (h2 : 0 ≤ s 2 0) (hl : 3 ≤ la y k) (hv : 0 ≤ recP la vl rid y k p s 5 p) : recP la vl rid y k p s 5 p < recP la vl rid y k p s 2 0 := by
  by_cases b1 : rid y k < 0
  · rw [recP_3n hl b1, u2_s] at hv; omega
  · rcases nmAt_spec (fun q => rid (s 3 q) (s 4 q)) (rid y k) (s 2 0).toNat with ⟨q1, -⟩ | ⟨q1, q2, q3, -⟩
    · rw [recP_3w hl (by omega) q1, u2_k _ _ _ _ (by decide), u2_s, u2_s]; omega
    · rw [recP_3o hl (by omega) (by omega), u2_s, u2_k _ _ _ _ (by decide)]; omega
theorem Sm.kp (hu : Kp (p + 1) u s) (hv : Kp (p + 1) v t) (bu : 3 ≤ la y k → 0 ≤ u 5 p → u 5 p < u 2 0) (bv : 3 ≤ la y k → 0 ≤ v 5 p → v 5 p < v 2 0) : Sm la rid rl ri y k p s t ↔ Sm la rid rl ri y k p u v := by
  have e1 := hu.2.2.2 p (by omega)
  have e2 := hv.2.2.2 p (by omega)
  unfold Sm
  rw [e1, e2]
  have rr : u 5 p = v 5 p → 3 ≤ la y k → 0 ≤ u 5 p → RR rid s (u 5 p) = RR rid u (u 5 p) ∧ RR rid t (u 5 p) = RR rid v (u 5 p) := fun e l z => by
    have c1 := hu.2.2.1 _ (bu l z)
    have c2 := hv.2.2.1 _ (bv l (by omega))
    rw [← e] at c2
    unfold RR
    rw [c1.1, c1.2, c2.1, c2.2]; exact ⟨rfl, rfl⟩
  constructor
  · rintro ⟨a, b⟩
    refine ⟨a, fun l z => ?_⟩
    have := rr a l z
    rw [← this.1, ← this.2]; exact b l z
  · rintro ⟨a, b⟩
    refine ⟨a, fun l z => ?_⟩
    have := rr a l z
    rw [this.1, this.2]; exact b l z
def EQ (fc ty : Int → Int) (la rid : Int → Int → Int) (rl : Int → Int) (ri : Int → Int → Int) (S T : Nat → Int → Int) : Prop := S 0 0 = T 0 0 ∧ ∀ r, 0 ≤ r → r < S 0 0 → ty (S 1 r) = ty (T 1 r) ∧ ∀ k, 0 ≤ k → k < fc (S 1 r) → Sm la rid rl ri (S 1 r) k (5 * r + k) S T
/-- all that lies ahead of a place is the same -/
def AG (fc ty : Int → Int) (la rid : Int → Int → Int) (rl : Int → Int) (ri : Int → Int → Int) (S T : Nat → Int → Int) (q k : Int) : Prop := (∀ r, 0 ≤ r → r < q → ty (S 1 r) = ty (T 1 r) ∧ ∀ k', 0 ≤ k' → k' < fc (S 1 r) → Sm la rid rl ri (S 1 r) k' (5 * r + k') S T) ∧ ∀ k', 0 ≤ k' → k' < k → Sm la rid rl ri (S 1 q) k' (5 * q + k') S T
end KP
section LK
variable {fc ty : Int → Int} {la rid : Int → Int → Int} {rl : Int → Int} {ri : Int → Int → Int} {mt bk qu rm rb mt' bk' qu' rm' rb' : Int → Int} {k x y q n n' a b : Int}
/-- the run of like at a place -/
def LkI (fc ty : Int → Int) (la rid : Int → Int → Int) (rl : Int → Int) (ri : Int → Int → Int) (x y q k n : Int) (mt bk qu rm rb : Int → Int) : Prop := n = recK la rid rid (recR fc la rid rid x q.toNat) q k.toNat 0 0 ∧ Pr rid rl ri (recK la rid rid (recR fc la rid rid x q.toNat) q k.toNat) (recK la rid rid (recR fc la rid rid y q.toNat) q k.toNat) mt bk qu rm rb ∧ AG fc ty la rid rl ri (recR fc la rid rid x 30) (recR fc la rid rid y 30) q k
/-- the head of a record: both sides -/
def LkH (fc : Int → Int) (la rid : Int → Int → Int) (x y q a b : Int) : Prop := (q < recR fc la rid rid x q.toNat 0 0 ∧ q < recR fc la rid rid y q.toNat 0 0) ∧ a = recR fc la rid rid x q.toNat 1 q ∧ b = recR fc la rid rid y q.toNat 1 q
theorem LkI.init (hx : 0 ≤ x) (hy : 0 ≤ y) (hn : n = 1) (hm : ∀ a, 0 ≤ a → a < 30 → a ≠ x → mt a < 0) (hb : ∀ a, 0 ≤ a → a < 30 → a ≠ y → bk a < 0) (hmx : mt x = y) (hby : bk y = x) (hq : qu 0 = x) (hr : ∀ a, 0 ≤ a → a < 400 → rm a < 0) (hs : ∀ a, 0 ≤ a → a < 400 → rb a < 0) : LkI fc ty la rid rl ri x y 0 0 n mt bk qu rm rb := by
  have e : ∀ z : Int, recK la rid rid (recR fc la rid rid z (0 : Int).toNat) 0 (0 : Int).toNat = u2 (u2 (u2 (fun _ _ => 0) 1 0 z) 0 0 1) 2 0 0 := fun z => rfl
  have e0 : ∀ z : Int, u2 (u2 (u2 (fun _ _ => 0) 1 0 z) 0 0 1) 2 0 0 0 0 = (1 : Int) := fun z => by rw [u2_k _ _ _ _ (by decide), u2_s]
  have e1 : ∀ z : Int, u2 (u2 (u2 (fun _ _ => 0) 1 0 z) 0 0 1) 2 0 0 1 0 = z := fun z => by rw [u2_k _ _ _ _ (by decide), u2_k _ _ _ _ (by decide), u2_s]
  have e2 : ∀ z : Int, u2 (u2 (u2 (fun _ _ => 0) 1 0 z) 0 0 1) 2 0 0 2 0 = (0 : Int) := fun z => by rw [u2_s]
  unfold LkI
  rw [e, e]
  refine ⟨by rw [e0]; exact hn, ⟨⟨by rw [e0]; decide, by rw [e0, e0], fun i i0 i1 => ?_, fun a a0 a30 a1 => ⟨0, by omega, by rw [e0]; decide, ?_⟩, fun a a0 a30 a1 => ⟨0, by omega, by rw [e0]; decide, ?_⟩⟩, ⟨by rw [e2]; decide, by rw [e2, e2], fun i i0 i1 => ?_, fun a a0 a40 a1 => ?_, fun a a0 a40 a1 => ?_⟩⟩, fun r r0 r1 => by omega, fun k' a b => by omega⟩
  · rw [e0] at i1
    obtain rfl : i = 0 := by omega
    rw [e1, e1]
    exact ⟨hq, hmx, hby, hx, hy⟩
  · rw [e1]
    by_cases c : a = x
    · exact c.symm
    · have := hm a a0 a30 c; omega
  · rw [e1]
    by_cases c : a = y
    · exact c.symm
    · have := hb a a0 a30 c; omega
  · rw [e2] at i1; omega
  · have := hr a a0 a40; omega
  · have := hs a a0 a40; omega
theorem LkI.head (h : LkI fc ty la rid rl ri x y q 0 n mt bk qu rm rb) (hq : 0 ≤ q) (hlt : q < n) : LkH fc la rid x y q (qu q) (mt (qu q)) := by
  obtain ⟨h0, ⟨⟨-, h1, h2, -⟩, -⟩, -⟩ := h
  have z : ∀ w : Int, recK la rid rid (recR fc la rid rid w q.toNat) q (0 : Int).toNat = recR fc la rid rid w q.toNat := fun w => rfl
  rw [z] at h0
  rw [z, z] at h1 h2
  have g := h2 q hq (by omega)
  exact ⟨⟨by omega, by omega⟩, g.1, by rw [g.1]; exact g.2.1⟩
theorem LkI.fin (h : LkI fc ty la rid rl ri x y q 0 n mt bk qu rm rb) (hq : 0 ≤ q ∧ q ≤ 30) (hn : n ≤ q) : EQ fc ty la rid rl ri (recR fc la rid rid x 30) (recR fc la rid rid y 30) := by
  obtain ⟨h0, ⟨⟨-, h1, -⟩, -⟩, hA⟩ := h
  have z : ∀ w : Int, recK la rid rid (recR fc la rid rid w q.toNat) q (0 : Int).toNat = recR fc la rid rid w q.toNat := fun w => rfl
  rw [z] at h0
  rw [z, z] at h1
  have a := recR_end (fc := fc) (la := la) (vl := rid) (rid := rid) (x := x) hq (by omega)
  have b := recR_end (fc := fc) (la := la) (vl := rid) (rid := rid) (x := y) hq (by omega)
  refine ⟨by rw [a, b]; exact h1.symm, fun r r0 r1 => hA.1 r r0 ?_⟩
  rw [a] at r1; omega
theorem LkH.at (h : LkH fc la rid x y q a b) (hq : 0 ≤ q ∧ q ≤ 30) : (recR fc la rid rid x 30 1 q = a ∧ q < recR fc la rid rid x 30 0 0) ∧ recR fc la rid rid y 30 1 q = b ∧ q < recR fc la rid rid y 30 0 0 := by
  obtain ⟨⟨h1, h2⟩, e1, e2⟩ := h
  have A := recR_at (fc := fc) (la := la) (vl := rid) (rid := rid) (x := x) hq ⟨hq.1, h1⟩
  have B := recR_at (fc := fc) (la := la) (vl := rid) (rid := rid) (x := y) hq ⟨hq.1, h2⟩
  rw [e1, e2]
  exact ⟨A, B⟩
theorem LkH.tyn (h : LkH fc la rid x y q a b) (hq : 0 ≤ q ∧ q ≤ 30) (hn : ty a ≠ ty b) : ¬ EQ fc ty la rid rl ri (recR fc la rid rid x 30) (recR fc la rid rid y 30) := fun e => by
  obtain ⟨⟨a1, a2⟩, b1, b2⟩ := h.at hq
  have := (e.2 q hq.1 a2).1
  rw [a1, b1] at this
  exact hn this
/-- one place further -/
theorem LkI.step {z : Int} (h : LkI fc ty la rid rl ri x y q k n mt bk qu rm rb) (hH : LkH fc la rid x y q a b) (hf : ∀ y, fc y ≤ 5) (hq : 0 ≤ q ∧ q < 30) (hk : 0 ≤ k ∧ k < fc a) (hk' : k < fc b) (hl : la b k = la a k)
    (hS : StpL la rid rl ri a k (5 * q + k) (recP la rid rid a k (5 * q + k) (recK la rid rid (recR fc la rid rid x q.toNat) q k.toNat)) (recP la rid rid b k (5 * q + k) (recK la rid rid (recR fc la rid rid y q.toNat) q k.toNat)) mt' bk' qu' rm' rb' n' z) :
    (z = 1 ∧ LkI fc ty la rid rl ri x y q (k + 1) n' mt' bk' qu' rm' rb') ∨ (z = 0 ∧ ¬ EQ fc ty la rid rl ri (recR fc la rid rid x 30) (recR fc la rid rid y 30)) := by
  obtain ⟨⟨A1, A2⟩, B1, B2⟩ := hH.at ⟨hq.1, by omega⟩
  obtain ⟨⟨l1, l2⟩, e1, e2⟩ := id hH
  have ku := recK_s (la := la) (vl := rid) (rid := rid) (s := recR fc la rid rid x q.toNat) (r := q) hk.1
  have kv := recK_s (la := la) (vl := rid) (rid := rid) (s := recR fc la rid rid y q.toNat) (r := q) hk.1
  rw [← e1] at ku
  rw [← e2] at kv
  rw [← ku, ← kv] at hS
  have ru := rec_kp (la := la) (vl := rid) (rid := rid) (x := x) (k := k + 1) hf hq l1 ⟨by omega, by rw [← e1]; omega⟩
  have rv := rec_kp (la := la) (vl := rid) (rid := rid) (x := y) (k := k + 1) hf hq l2 ⟨by omega, by rw [← e2]; omega⟩
  rw [show 5 * q + (k + 1) = 5 * q + k + 1 by omega] at ru rv
  have s2u := (recK_kp (la := la) (vl := rid) (rid := rid) (r := q) (recR_kp (fc := fc) (la := la) (vl := rid) (rid := rid) (x := x) q.toNat 0).2 k.toNat 0).2
  have s2v := (recK_kp (la := la) (vl := rid) (rid := rid) (r := q) (recR_kp (fc := fc) (la := la) (vl := rid) (rid := rid) (x := y) q.toNat 0).2 k.toNat 0).2
  have hB : Sm la rid rl ri a k (5 * q + k) (recR fc la rid rid x 30) (recR fc la rid rid y 30) ↔ Sm la rid rl ri a k (5 * q + k) (recK la rid rid (recR fc la rid rid x q.toNat) q (k + 1).toNat) (recK la rid rid (recR fc la rid rid y q.toNat) q (k + 1).toNat) :=
    Sm.kp ru rv (fun l v => by rw [ku] at v ⊢; exact recP_b s2u l v) (fun l v => by rw [kv] at v ⊢; exact recP_b s2v (by rw [hl]; exact l) v)
  rcases hS with ⟨hz, hP, hm, hn⟩ | ⟨hz, hm⟩
  · refine Or.inl ⟨hz, hn, hP, h.2.2.1, fun k' k0 k1 => ?_⟩
    by_cases c : k' = k
    · rw [c, A1]; exact hB.mpr hm
    · exact h.2.2.2 k' k0 (by omega)
  · refine Or.inr ⟨hz, fun e => hm (hB.mp ?_)⟩
    have g := (e.2 q hq.1 A2).2 k hk.1 (by rw [A1]; exact hk.2)
    rw [A1] at g; exact g
theorem LkI.next (h : LkI fc ty la rid rl ri x y q k n mt bk qu rm rb) (hH : LkH fc la rid x y q a b) (hq : 0 ≤ q ∧ q < 30) (hk : k = fc a) (hk' : k = fc b) (hty : ty a = ty b) : LkI fc ty la rid rl ri x y (q + 1) 0 n mt bk qu rm rb := by
  obtain ⟨⟨A1, A2⟩, B1, B2⟩ := hH.at ⟨hq.1, by omega⟩
  obtain ⟨⟨l1, l2⟩, e1, e2⟩ := id hH
  have nu := recR_next (fc := fc) (la := la) (vl := rid) (rid := rid) (x := x) hq.1 l1 (show k = _ by rw [← e1]; exact hk)
  have nv := recR_next (fc := fc) (la := la) (vl := rid) (rid := rid) (x := y) hq.1 l2 (show k = _ by rw [← e2]; exact hk')
  obtain ⟨h0, h1, h2, h3⟩ := h
  rw [← nu] at h0
  rw [← nu, ← nv] at h1
  refine ⟨h0, h1, fun r r0 r1 => ?_, fun k' a0 a1 => by omega⟩
  by_cases c : r = q
  · rw [c]
    exact ⟨by rw [A1, B1]; exact hty, fun k' k0 k1 => h3 k' k0 (by rw [A1] at k1; omega)⟩
  · exact h2 r r0 (by omega)
end LK
/-! the same over the reference's cells -/
section LX
variable {X X1 X2 X3 X4 Xc Xd : Nat → Int → Int → Int} {x y q k a b z : Int}
def LkX (X Xc : Nat → Int → Int → Int) (x y q k : Int) : Prop := LkI (fcM X) (fun a => X 55 0 a) (lnM X) (mRid X) (fun a => X 58 0 a) (fun a j => X 59 0 (12 * a + j)) x y q k (Xc 40 0 50) (fun a => Xc 86 0 a) (fun a => Xc 87 0 a) (fun a => Xc 90 0 a) (fun a => Xc 88 0 a) (fun a => Xc 89 0 a)
def LkHX (X : Nat → Int → Int → Int) (x y q a b : Int) : Prop := LkH (fcM X) (lnM X) (mRid X) x y q a b
def EQX (X : Nat → Int → Int → Int) (x y : Int) : Prop := EQ (fcM X) (fun a => X 55 0 a) (lnM X) (mRid X) (fun a => X 58 0 a) (fun a j => X 59 0 (12 * a + j)) (recR (fcM X) (lnM X) (mRid X) (mRid X) x 30) (recR (fcM X) (lnM X) (mRid X) (mRid X) y 30)
def rwX (X : Nat → Int → Int → Int) (a b : Int) : Prop := X 58 0 a = X 58 0 b ∧ ∀ j, 0 ≤ j → j < X 58 0 a → X 59 0 (12 * a + j) = X 59 0 (12 * b + j)
def mtP (X X1 : Nat → Int → Int → Int) (x y z : Int) : Prop := ((X 86 0 x < 0 ∧ X 87 0 y < 0) ∧ z = 1 ∧ X1 86 0 x = y ∧ (∀ j, j ≠ x → X1 86 0 j = X 86 0 j) ∧ X1 87 0 y = x ∧ (∀ j, j ≠ y → X1 87 0 j = X 87 0 j) ∧ X1 90 0 (X 40 0 50) = x ∧ (∀ j, j ≠ X 40 0 50 → X1 90 0 j = X 90 0 j) ∧ X1 40 0 50 = X 40 0 50 + 1) ∨ ((0 ≤ X 86 0 x ∨ 0 ≤ X 87 0 y) ∧ X1 = X ∧ ((z = 1 ∧ X 86 0 x = y ∧ X 87 0 y = x) ∨ (z = 0 ∧ ¬ (X 86 0 x = y ∧ X 87 0 y = x))))
def rmP (X X1 : Nat → Int → Int → Int) (a b z : Int) : Prop := ((X 88 0 a < 0 ∧ X 89 0 b < 0) ∧ X1 88 0 a = b ∧ (∀ j, j ≠ a → X1 88 0 j = X 88 0 j) ∧ X1 89 0 b = a ∧ (∀ j, j ≠ b → X1 89 0 j = X 89 0 j) ∧ ((z = 1 ∧ rwX X a b) ∨ (z = 0 ∧ ¬ rwX X a b))) ∨ ((0 ≤ X 88 0 a ∨ 0 ≤ X 89 0 b) ∧ X1 = X ∧ ((z = 1 ∧ X 88 0 a = b ∧ X 89 0 b = a) ∨ (z = 0 ∧ ¬ (X 88 0 a = b ∧ X 89 0 b = a))))
theorem mtP.new (m : X 86 0 x < 0) (n : X 87 0 y < 0) (e1 : X1 = u3 X 86 0 x y) (e2 : X2 = u3 X1 87 0 y x) (e3 : X3 = u3 X2 90 0 (X 40 0 50) x) (e4 : X4 = u3 X3 40 0 50 (X 40 0 50 + 1)) (hz : z = 1) : mtP X X4 x y z := by
  have a86 : X4 86 = u3 X 86 0 x y 86 := by rw [e4, u3_k _ _ _ _ (by first | exact Nat.ne_of_beq_eq_false rfl | decide), e3, u3_k _ _ _ _ (by first | exact Nat.ne_of_beq_eq_false rfl | decide), e2, u3_k _ _ _ _ (by first | exact Nat.ne_of_beq_eq_false rfl | decide), e1]
  have a87 : X4 87 = u3 X1 87 0 y x 87 := by rw [e4, u3_k _ _ _ _ (by first | exact Nat.ne_of_beq_eq_false rfl | decide), e3, u3_k _ _ _ _ (by first | exact Nat.ne_of_beq_eq_false rfl | decide), e2]
  have b87 : X1 87 = X 87 := by rw [e1, u3_k _ _ _ _ (by first | exact Nat.ne_of_beq_eq_false rfl | decide)]
  have a90 : X4 90 = u3 X2 90 0 (X 40 0 50) x 90 := by rw [e4, u3_k _ _ _ _ (by first | exact Nat.ne_of_beq_eq_false rfl | decide), e3]
  have b90 : X2 90 = X 90 := by rw [e2, u3_k _ _ _ _ (by first | exact Nat.ne_of_beq_eq_false rfl | decide), e1, u3_k _ _ _ _ (by first | exact Nat.ne_of_beq_eq_false rfl | decide)]
  refine Or.inl ⟨⟨m, n⟩, hz, ?_, fun j hj => ?_, ?_, fun j hj => ?_, ?_, fun j hj => ?_, ?_⟩
  · rw [a86, u3_s]
  · rw [a86, u3_j _ _ _ _ hj]
  · rw [a87, u3_s]
  · rw [a87, u3_j _ _ _ _ hj, b87]
  · rw [a90, u3_s]
  · rw [a90, u3_j _ _ _ _ hj, b90]
  · rw [e4, u3_s]
/-- the step of a thing -/
theorem LkX.thing (h : LkX X Xc x y q k) (hH : LkHX X x y q a b) (hf : ∀ t, X 44 0 t ≤ 5) (hq : 0 ≤ q ∧ q < 30) (hk : 0 ≤ k ∧ k < X 44 0 (X 55 0 a)) (ht : X 55 0 a = X 55 0 b) (hl : X 46 0 (5 * X 55 0 a + k) = 2) (v0 : 0 ≤ X 56 0 (5 * a + k)) (w0 : 0 ≤ X 56 0 (5 * b + k)) (v1 : X 56 0 (5 * a + k) < 30) (w1 : X 56 0 (5 * b + k) < 30) (hP : mtP Xc X1 (X 56 0 (5 * a + k)) (X 56 0 (5 * b + k)) z) (e88 : X1 88 = Xc 88) (e89 : X1 89 = Xc 89) :
    (z = 1 ∧ LkX X X1 x y q (k + 1)) ∨ (z = 0 ∧ ¬ EQX X x y) := by
  have hl' : lnM X b k = lnM X a k := by unfold lnM; rw [ht]
  have r1 : (fun a => X1 88 0 a) = fun a => Xc 88 0 a := by rw [e88]
  have r2 : (fun a => X1 89 0 a) = fun a => Xc 89 0 a := by rw [e89]
  refine LkI.step h hH (fun y => hf _) hq hk (by show k < X 44 0 (X 55 0 b); rw [← ht]; exact hk.2) hl' ?_
  rw [r1, r2]
  rcases hP with ⟨⟨m0, b0⟩, hz, m, m', c, c', d, d', e⟩ | ⟨ho, he, hz⟩
  · rw [hz, e]
    exact stp_tw (vl := mRid X) h.2.1 hl (by rw [hl']; exact hl) v0 w0 m0 b0 h.1 m m' c c' d d'
  · rw [he]
    exact stp_to (vl := mRid X) h.2.1 h.1 hl (by rw [hl']; exact hl) v0 w0 v1 w1 ho hz
theorem LkX.row (h : LkX X Xc x y q k) (hH : LkHX X x y q a b) (hf : ∀ t, X 44 0 t ≤ 5) (hq : 0 ≤ q ∧ q < 30) (hk : 0 ≤ k ∧ k < X 44 0 (X 55 0 a)) (ht : X 55 0 a = X 55 0 b) (hl : 3 ≤ X 46 0 (5 * X 55 0 a + k)) (v0 : 0 ≤ X 56 0 (5 * a + k)) (w0 : 0 ≤ X 56 0 (5 * b + k)) (v1 : X 56 0 (5 * a + k) < 400) (w1 : X 56 0 (5 * b + k) < 400) (hP : rmP Xc X1 (X 56 0 (5 * a + k)) (X 56 0 (5 * b + k)) z) (e58 : Xc 58 = X 58) (e59 : Xc 59 = X 59) (e86 : X1 86 = Xc 86) (e87 : X1 87 = Xc 87) (e90 : X1 90 = Xc 90) (en : X1 40 0 50 = Xc 40 0 50) :
    (z = 1 ∧ LkX X X1 x y q (k + 1)) ∨ (z = 0 ∧ ¬ EQX X x y) := by
  have hl' : lnM X b k = lnM X a k := by unfold lnM; rw [ht]
  have r1 : (fun a => X1 86 0 a) = fun a => Xc 86 0 a := by rw [e86]
  have r2 : (fun a => X1 87 0 a) = fun a => Xc 87 0 a := by rw [e87]
  have r3 : (fun a => X1 90 0 a) = fun a => Xc 90 0 a := by rw [e90]
  refine LkI.step h hH (fun y => hf _) hq hk (by show k < X 44 0 (X 55 0 b); rw [← ht]; exact hk.2) hl' ?_
  rw [r1, r2, r3, en]
  rcases hP with ⟨⟨m0, b0⟩, m, m', c, c', hz⟩ | ⟨ho, he, hz⟩
  · unfold rwX at hz
    rw [e58, e59] at hz
    exact stp_rw (vl := mRid X) h.2.1 h.1 hl (by rw [hl']; exact hl) v0 w0 m0 b0 m m' c c' hz
  · rw [he]
    exact stp_ro (vl := mRid X) h.2.1 h.1 hl (by rw [hl']; exact hl) v0 w0 v1 w1 ho hz
theorem LkX.val (h : LkX X Xc x y q k) (hH : LkHX X x y q a b) (hf : ∀ t, X 44 0 t ≤ 5) (hq : 0 ≤ q ∧ q < 30) (hk : 0 ≤ k ∧ k < X 44 0 (X 55 0 a)) (ht : X 55 0 a = X 55 0 b) (hv : X 46 0 (5 * X 55 0 a + k) < 2 ∨ (-1 ≤ X 56 0 (5 * a + k) ∧ -1 ≤ X 56 0 (5 * b + k) ∧ (X 56 0 (5 * a + k) < 0 ∨ X 56 0 (5 * b + k) < 0))) (hz : (z = 1 ∧ X 56 0 (5 * a + k) = X 56 0 (5 * b + k)) ∨ (z = 0 ∧ X 56 0 (5 * a + k) ≠ X 56 0 (5 * b + k))) :
    (z = 1 ∧ LkX X Xc x y q (k + 1)) ∨ (z = 0 ∧ ¬ EQX X x y) := by
  have hl' : lnM X b k = lnM X a k := by unfold lnM; rw [ht]
  refine LkI.step h hH (fun y => hf _) hq hk (by show k < X 44 0 (X 55 0 b); rw [← ht]; exact hk.2) hl' ?_
  by_cases c : lnM X a k < 2
  · exact stp_1 (vl := mRid X) h.2.1 h.1 c (by rw [hl']; exact c) hz
  · rcases hv with hv | ⟨b1, b2, hv⟩
    · exact absurd hv c
    · exact stp_n (vl := mRid X) h.2.1 h.1 (by omega) hl' rfl b1 b2 hv hz
theorem rmP.new (m : X 88 0 a < 0) (n : X 89 0 b < 0) (e1 : X1 = u3 X 88 0 a b) (e2 : X2 = u3 X1 89 0 b a) (hz : (z = 1 ∧ rwX X a b) ∨ (z = 0 ∧ ¬ rwX X a b)) : rmP X X2 a b z := by
  have a88 : X2 88 = u3 X 88 0 a b 88 := by rw [e2, u3_k _ _ _ _ (by first | exact Nat.ne_of_beq_eq_false rfl | decide), e1]
  have a89 : X2 89 = u3 X1 89 0 b a 89 := by rw [e2]
  have b89 : X1 89 = X 89 := by rw [e1, u3_k _ _ _ _ (by first | exact Nat.ne_of_beq_eq_false rfl | decide)]
  refine Or.inl ⟨⟨m, n⟩, ?_, fun j hj => ?_, ?_, fun j hj => ?_, hz⟩
  · rw [a88, u3_s]
  · rw [a88, u3_j _ _ _ _ hj]
  · rw [a89, u3_s]
  · rw [a89, u3_j _ _ _ _ hj, b89]
theorem LkX.init (h67 : ∀ j, 0 ≤ j → j < 30 → Xc 86 0 j < 0 ∧ Xc 87 0 j < 0) (h89 : ∀ j, 0 ≤ j → j < 400 → Xc 88 0 j < 0 ∧ Xc 89 0 j < 0) (hn : Xc 40 0 50 = 0) (hx : 0 ≤ x ∧ x < 30) (hy : 0 ≤ y ∧ y < 30) (hP : mtP Xc X1 x y z) (e88 : X1 88 = Xc 88) (e89 : X1 89 = Xc 89) : LkX X X1 x y 0 0 := by
  have m0 := (h67 x hx.1 hx.2).1
  have b0 := (h67 y hy.1 hy.2).2
  rcases hP with ⟨-, -, m, m', c, c', d, d', e⟩ | ⟨ho, -, -⟩
  · rw [hn] at d e
    refine LkI.init hx.1 hy.1 (by rw [e]; decide) (fun a a0 a1 ne => ?_) (fun a a0 a1 ne => ?_) m c d (fun a a0 a1 => ?_) (fun a a0 a1 => ?_)
    · show X1 86 0 a < 0
      rw [m' a ne]; exact (h67 a a0 a1).1
    · show X1 87 0 a < 0
      rw [c' a ne]; exact (h67 a a0 a1).2
    · show X1 88 0 a < 0
      rw [e88]; exact (h89 a a0 a1).1
    · show X1 89 0 a < 0
      rw [e89]; exact (h89 a a0 a1).2
  · omega
end LX
