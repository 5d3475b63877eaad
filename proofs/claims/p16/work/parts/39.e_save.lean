/-! recordings, both sides -/
theorem tyo_n : tyo none = -1 := rfl
section RS
variable {fc : Int → Int} {la vl rid : Int → Int → Int} {s : Nat → Int → Int} {y k p n x : Int}
/-- the rows that the places lead to -/
theorem recP_34 (h2 : 0 ≤ s 2 0) : s 2 0 ≤ recP la vl rid y k p s 2 0 ∧ (∀ i, i < s 2 0 → recP la vl rid y k p s 3 i = s 3 i ∧ recP la vl rid y k p s 4 i = s 4 i) ∧ (3 ≤ la y k → 0 ≤ recP la vl rid y k p s 5 p → recP la vl rid y k p s 5 p < recP la vl rid y k p s 2 0 ∧ rid (recP la vl rid y k p s 3 (recP la vl rid y k p s 5 p)) (recP la vl rid y k p s 4 (recP la vl rid y k p s 5 p)) = rid y k) := by
  have k5 : ∀ v i, u2 s 5 p v 2 i = s 2 i ∧ u2 s 5 p v 3 i = s 3 i ∧ u2 s 5 p v 4 i = s 4 i := fun v i => ⟨u2_k _ _ _ _ (by decide), u2_k _ _ _ _ (by decide), u2_k _ _ _ _ (by decide)⟩
  by_cases a1 : la y k < 2
  · rw [recP_1 a1]
    exact ⟨by rw [(k5 _ _).1]; exact Int.le_refl _, fun i _ => ⟨(k5 _ i).2.1, (k5 _ i).2.2⟩, fun w => by omega⟩
  · by_cases a2 : la y k = 2
    · by_cases b1 : vl y k < 0
      · rw [recP_2n a2 b1]
        exact ⟨by rw [(k5 _ _).1]; exact Int.le_refl _, fun i _ => ⟨(k5 _ i).2.1, (k5 _ i).2.2⟩, fun w => by omega⟩
      · by_cases b2 : nmAt (s 1) (vl y k) (s 0 0).toNat = -1
        · rw [recP_2w a2 (by omega) b2]
          have e2 : ∀ κ i, κ ≠ 0 → κ ≠ 5 → κ ≠ 1 → u2 (u2 (u2 s 1 (s 0 0) (vl y k)) 5 p (s 0 0)) 0 0 (s 0 0 + 1) κ i = s κ i := fun κ i h0 h5 h1 => by
            rw [u2_k _ _ _ _ h0, u2_k _ _ _ _ h5, u2_k _ _ _ _ h1]
          exact ⟨by rw [e2 2 0 (by decide) (by decide) (by decide)]; exact Int.le_refl _, fun i _ => ⟨e2 3 i (by decide) (by decide) (by decide), e2 4 i (by decide) (by decide) (by decide)⟩, fun w => by omega⟩
        · rw [recP_2o a2 (by omega) b2]
          exact ⟨by rw [(k5 _ _).1]; exact Int.le_refl _, fun i _ => ⟨(k5 _ i).2.1, (k5 _ i).2.2⟩, fun w => by omega⟩
    · have a3 : 3 ≤ la y k := by omega
      by_cases b1 : rid y k < 0
      · rw [recP_3n a3 b1]
        exact ⟨by rw [(k5 _ _).1]; exact Int.le_refl _, fun i _ => ⟨(k5 _ i).2.1, (k5 _ i).2.2⟩, fun _ w => by rw [u2_s] at w; omega⟩
      · by_cases b2 : nmAt (fun q => rid (s 3 q) (s 4 q)) (rid y k) (s 2 0).toNat = -1
        · rw [recP_3w a3 (by omega) b2]
          obtain ⟨U, hU⟩ : ∃ U, U = u2 (u2 (u2 (u2 s 3 (s 2 0) y) 4 (s 2 0) k) 5 p (s 2 0)) 2 0 (s 2 0 + 1) := ⟨_, rfl⟩
          rw [← hU]
          have f2 : U 2 0 = s 2 0 + 1 := by rw [hU, u2_s]
          have f3 : ∀ i, U 3 i = u2 s 3 (s 2 0) y 3 i := fun i => by rw [hU, u2_k _ _ _ _ (by decide), u2_k _ _ _ _ (by decide), u2_k _ _ _ _ (by decide)]
          have f4 : ∀ i, U 4 i = u2 (u2 s 3 (s 2 0) y) 4 (s 2 0) k 4 i := fun i => by rw [hU, u2_k _ _ _ _ (by decide), u2_k _ _ _ _ (by decide)]
          have f5 : U 5 p = s 2 0 := by rw [hU, u2_k _ _ _ _ (by decide), u2_s]
          refine ⟨by omega, fun i hi => ⟨?_, ?_⟩, fun _ _ => ⟨by omega, ?_⟩⟩
          · rw [f3, u2_i _ _ _ (by omega)]
          · rw [f4, u2_i _ _ _ (by omega), u2_k _ _ _ _ (by decide)]
          · rw [f5, f3, f4, u2_s, u2_s]
        · rw [recP_3o a3 (by omega) b2]
          refine ⟨by rw [(k5 _ _).1]; exact Int.le_refl _, fun i _ => ⟨(k5 _ i).2.1, (k5 _ i).2.2⟩, fun _ _ => ?_⟩
          rw [u2_s, (k5 _ _).1, (k5 _ _).2.1, (k5 _ _).2.2]
          rcases nmAt_spec (fun q => rid (s 3 q) (s 4 q)) (rid y k) (s 2 0).toNat with ⟨q1, -⟩ | ⟨q1, q2, q3, -⟩
          · exact absurd q1 b2
          · exact ⟨by omega, q3⟩
def rQ (fc : Int → Int) (la rid : Int → Int → Int) (s : Nat → Int → Int) (n k : Int) : Prop := ∀ r' k', 0 ≤ r' → r' < s 0 0 → 0 ≤ k' → k' < fc (s 1 r') → (r' < n ∨ (r' = n ∧ k' < k)) → 3 ≤ la (s 1 r') k' → 0 ≤ s 5 (5 * r' + k') → s 5 (5 * r' + k') < s 2 0 ∧ rid (s 3 (s 5 (5 * r' + k'))) (s 4 (s 5 (5 * r' + k'))) = rid (s 1 r') k'
theorem recP_q (h : rQ fc la rid s n k) (hf : ∀ y, fc y ≤ 5) (hn : 0 ≤ n ∧ n < s 0 0) (hk : 0 ≤ k) (h2 : 0 ≤ s 2 0) : rQ fc la rid (recP la vl rid (s 1 n) k (5 * n + k) s) n (k + 1) := by
  obtain ⟨a1, a2, a3⟩ := recP_34 (la := la) (vl := vl) (rid := rid) (y := s 1 n) (k := k) (p := 5 * n + k) h2
  intro r k' r0 r1 k0 k1 hc l v
  have hr : r < s 0 0 := by omega
  have e1 : recP la vl rid (s 1 n) k (5 * n + k) s 1 r = s 1 r := recP_o ⟨r0, hr⟩
  rw [e1] at k1 l ⊢
  have f5 := hf (s 1 r)
  by_cases he : r = n ∧ k' = k
  · obtain ⟨rfl, rfl⟩ := he
    exact a3 l v
  · have e5 : recP la vl rid (s 1 n) k (5 * n + k) s 5 (5 * r + k') = s 5 (5 * r + k') := recP_5 (by omega)
    rw [e5] at v ⊢
    obtain ⟨b1, b2⟩ := h r k' r0 hr k0 k1 (by omega) l v
    rw [(a2 _ b1).1, (a2 _ b1).2]
    exact ⟨by omega, b2⟩
theorem recK_q {r : Int} (h : rQ fc la rid s r 0) (hf : ∀ y, fc y ≤ 5) (hr : 0 ≤ r ∧ r < s 0 0) (h2 : 0 ≤ s 2 0) (n : Nat) : rQ fc la rid (recK la vl rid s r n) r (n : Int) ∧ 0 ≤ recK la vl rid s r n 2 0 := by
  induction n with
  | zero => exact ⟨h, h2⟩
  | succ n ih =>
    obtain ⟨i1, i2⟩ := ih
    have e1 : recK la vl rid s r n 1 r = s 1 r := recK_o n hr
    have e0 : s 0 0 ≤ recK la vl rid s r n 0 0 := recK_m n
    have e9 : recK la vl rid s r (n + 1) = recP la vl rid (s 1 r) (n : Int) (5 * r + (n : Int)) (recK la vl rid s r n) := rfl
    have h9 := recP_q (vl := vl) i1 hf ⟨hr.1, by omega⟩ (by omega) i2
    rw [e1] at h9
    rw [e9]
    refine ⟨?_, ?_⟩
    · have e : ((n + 1 : Nat) : Int) = (n : Int) + 1 := by omega
      rw [e]
      exact h9
    · have := (recP_34 (la := la) (vl := vl) (rid := rid) (y := s 1 r) (k := (n : Int)) (p := 5 * r + (n : Int)) i2).1
      omega
theorem recR_q (hf : ∀ y, fc y ≤ 5) (n : Nat) : rQ fc la rid (recR fc la vl rid x n) (n : Int) 0 ∧ 0 ≤ recR fc la vl rid x n 2 0 := by
  induction n with
  | zero =>
    refine ⟨fun r' k' r0 r1 k0 k1 hc => by omega, ?_⟩
    rw [recR_z, u2_s]
    exact Int.le_refl _
  | succ n ih =>
    obtain ⟨i1, i2⟩ := ih
    have e : ((n + 1 : Nat) : Int) = (n : Int) + 1 := by omega
    by_cases hlt : (n : Int) < recR fc la vl rid x n 0 0
    · rw [recR_up n hlt]
      obtain ⟨j1, j2⟩ := recK_q (vl := vl) i1 hf ⟨by omega, hlt⟩ i2 (fc (recR fc la vl rid x n 1 (n : Int))).toNat
      refine ⟨fun r' k' r0 r1 k0 k1 hc => j1 r' k' r0 r1 k0 k1 ?_, j2⟩
      by_cases h9 : r' = (n : Int)
      · rw [h9, recK_o _ ⟨by omega, hlt⟩] at k1
        exact Or.inr ⟨h9, by omega⟩
      · exact Or.inl (by omega)
    · rw [recR_stop n 1 hlt]
      exact ⟨fun r' k' r0 r1 k0 k1 hc => i1 r' k' r0 r1 k0 k1 (Or.inl (by omega)), i2⟩
end RS
section RT
variable {X X1 X2 W E M M1 M2 C C1 : Nat → Int → Int → Int} {Y Y1 V : Nat → Int → Int → Option Int} {ln : Int → Int} {c q x : Int} {S : Nat → Int → Int}
theorem rw17 (hB : RB c X Y ln X) {y k : Int} (y0 : 0 ≤ y) (y1 : y < X 40 0 13) (k0 : 0 ≤ k) (k1 : k < fcM X y) (l : 3 ≤ lnM X y k) (v : 0 ≤ mRid X y k) : ∃ g, Y 17 y k = some g ∧ Lv Y X g (mRid X y k) (lnM X y k) := by
  have h9 := ((hB.1.2 y y0 y1).2 k k0 k1).2 l
  unfold mRid at *
  cases e : Y 17 y k with
  | none =>
    have := h9.mp e
    omega
  | some g => exact ⟨g, rfl, Or.inl ⟨y, k, y0, y1, k0, k1, rfl, l, e, rfl⟩⟩
theorem alkX (hB : RB c X Y ln X) (hT : rT X) (hf : rF X) (hMI : MInv X) (hR : Rng X) : Alk (X 40 0 13) (fcM X) (cFc X Y) (lnM X) (cLa X Y) (mRid X) (cVl X Y) (mRid X) (cRid Y) := by
  have h3 := hB.1.1
  refine ⟨fun y y0 y1 => ?_, fun y k y' k' y0 y1 y0' y1' k0 k1 k0' k1' l l' v v' => ?_⟩
  · obtain ⟨b1, b2, b3, b4⟩ := bridge hB.1 hT hf hMI hR y0 y1
    refine ⟨by unfold fcM cFc; rw [b1, b2], fun k k0 k1 => ?_⟩
    have hl : lnM X y k = cLa X Y y k := by
      unfold lnM cLa
      rw [b1, (b4 k k0 k1).2.1]
    have hm := hMI.1 y k y0 y1 k0 k1
    have hv := (hB.1.2 y y0 y1).2 k k0 k1
    refine ⟨hl, fun u => ?_, fun u => (hm.2.1 u).2, fun u => ?_⟩
    · have e := hv.1 u
      unfold cVl mRid
      rw [← hl, e]
      by_cases h2 : lnM X y k = 2
      · have h9 := hm.2.1 h2
        rw [if_pos h2]
        by_cases h8 : 0 ≤ X 56 0 (5 * y + k)
        · rw [if_pos ⟨h8, by omega⟩]
        · rw [if_neg (fun w => h8 w.1)]
          omega
      · rw [if_neg h2]
    · have h9 := hv.2 u
      unfold mRid cRid
      cases e : Y 17 y k with
      | none => exact ⟨fun _ => by rw [tyo_n]; decide, fun _ => h9.mp e⟩
      | some g =>
        obtain ⟨f1, f2, f3, -⟩ := hB.2.2.1 g (X 56 0 (5 * y + k)) (lnM X y k) (Or.inl ⟨y, k, y0, y1, k0, k1, rfl, u, e, rfl⟩)
        rw [tyo_s]
        constructor <;> intro w <;> omega
  · obtain ⟨g, e, hL⟩ := rw17 hB y0 y1 k0 k1 l v
    obtain ⟨g', e', hL'⟩ := rw17 hB y0' y1' k0' k1' l' v'
    unfold cRid
    rw [e, e', tyo_s, tyo_s]
    exact (hB.2.2.2 _ _ _ _ _ _ hL hL').symm
/-- a recording, made on both sides -/
theorem rec_sv (hB : RB c X Y ln X) (hT : rT X) (hf : rF X) (hMI : MInv X) (hR : Rng X) (hLn : LnL ln) (hN : mNm X) (hx : 0 ≤ x ∧ x < X 40 0 13) (hS : S = recR (fcM X) (lnM X) (mRid X) (mRid X) x 30)
    (cT : rcT W V q S) (cR : rcR W V ln q S) (cV : rcV W V q S (S 0 0) 0) (cS : cSt X W Y V) (e27 : W 27 = X 27) (f17 : V 17 = Y 17)
    (mT : rmT E S) (mR : rmR E S) (mV : rmV E S (S 0 0) 0) (mS : mSt X E) (e56 : E 56 = X 56) (e57 : E 57 = X 57) (e58 : E 58 = X 58) (e59 : E 59 = X 59) (h30 : S 0 0 ≤ 30) : rSv W E q 4 := by
  have hI : rInv (X 40 0 13) (fcM X) (lnM X) (mRid X) S := by
    rw [hS]
    exact (recR_alk (alkX hB hT hf hMI hR) (fun y _ _ => (hR 44 0 _).1) hx 30).2
  obtain ⟨i0, i1, i2, i3⟩ := hI
  have hQ : rQ (fcM X) (lnM X) (mRid X) S 30 0 := by
    rw [hS]
    exact (recR_q (fun y => (hR 44 0 _).2) 30).1
  have hp : 1 ≤ S 0 0 := by
    rw [hS]
    exact recR_pos 30
  obtain ⟨s19, s20, s21, s15⟩ := cS
  obtain ⟨m44, m45, m46, m55⟩ := mS
  have hfE : fcM E = fcM X := by
    funext y
    unfold fcM
    rw [m44, m55]
  have hlE : lnM E = lnM X := by
    funext y k
    unfold lnM
    rw [m46, m55]
  have hrE : mRid E = mRid X := by
    funext y k
    unfold mRid
    rw [e56]
  have hty : ∀ r, 0 ≤ r → r < S 0 0 → tyo (V 15 (S 1 r) 0) = X 55 0 (S 1 r) := fun r r0 r1 => by
    rw [s15]
    exact (bridge hB.1 hT hf hMI hR (i1 r r0 r1).1 (i1 r r0 r1).2).1
  have hcf : ∀ r, 0 ≤ r → r < S 0 0 → cFc W V (S 1 r) = fcM X (S 1 r) := fun r r0 r1 => by
    unfold cFc
    rw [hty r r0 r1, s19]
    exact (bridge hB.1 hT hf hMI hR (i1 r r0 r1).1 (i1 r r0 r1).2).2.1
  refine ⟨by rw [cT.1, mT.1], fun _ => by rw [cR.1, mR.1], fun w => by rw [mT.1] at w; omega, fun r r0 r1 => ?_, fun w _ w0 w1 => ?_⟩
  · rw [mT.1] at r1
    obtain ⟨b1, b2, b3, b4⟩ := bridge hB.1 hT hf hMI hR (i1 r r0 r1).1 (i1 r r0 r1).2
    obtain ⟨t1, t2, t3, t4⟩ := cT.2.1 r r0 r1
    obtain ⟨v1, v2, v3⟩ := mV.1 r r0 r1
    rw [hfE] at v2 v3
    have h120 : (30 * 4 + r : Int) = 120 + r := by omega
    rw [h120]
    refine ⟨by rw [t3, hty r r0 r1, v1, m55], by rw [t4, hcf r r0 r1, v2], fun k k0 k1 => ?_, fun k k' k0 kk k1 => ?_⟩
    · rw [v2] at k1
      obtain ⟨g1, g2, g3⟩ := cV.1 r k r0 r1 k0 (by rw [hcf r r0 r1]; exact k1)
      obtain ⟨n1, n2, n3⟩ := v3 k k0 k1
      rw [hlE] at n2
      have b5 := b4 k k0 k1
      unfold rSf
      rw [h120]
      refine ⟨?_, ?_, by rw [g3, n3], fun u v => ?_⟩
      · rw [g1, n1, hty r r0 r1, s20, m45, m55]
        exact b5.1
      · rw [g2, n2]
        unfold cLa lnM
        rw [hty r r0 r1, s21]
        exact b5.2.1
      · rw [n2] at u
        rw [n3] at v
        rw [n2, n3]
        obtain ⟨y1, y2⟩ := hQ r k r0 r1 k0 k1 (Or.inl (by omega)) u v
        obtain ⟨o1, o2, -⟩ := mR.2 (S 5 (5 * r + k)) v y1
        obtain ⟨-, -, -, j6⟩ := i3 (S 5 (5 * r + k)) v y1
        rw [y2] at j6
        obtain ⟨g', -, hL⟩ := rw17 hB (i1 r r0 r1).1 (i1 r r0 r1).2 k0 k1 u j6
        obtain ⟨-, -, -, -, f5, -⟩ := hB.2.2.1 _ _ _ hL
        rw [mR.1]
        refine ⟨y1, ?_⟩
        rw [show (150 * 4 + S 5 (5 * r + k) : Int) = 600 + S 5 (5 * r + k) by omega, o2, o1, hrE, y2, e57]
        exact f5
    · rw [v2] at k1
      rw [(v3 k k0 (by omega)).1, (v3 k' (by omega) k1).1, m45, m55]
      exact hN (X 55 0 (S 1 r)) k k' (hR 55 0 _).1 (hMI.2.2.2.2.2 _ (i1 r r0 r1).1 (i1 r r0 r1).2) k0 kk k1
  · rw [mR.1] at w1
    obtain ⟨⟨j1, j2⟩, ⟨j3, j4⟩, j5, j6⟩ := i3 w w0 w1
    obtain ⟨g', hg', hL⟩ := rw17 hB j1 j2 j3 j4 j5 j6
    obtain ⟨f1, f2, f3, f4, f5, f6, f7⟩ := hB.2.2.1 _ _ _ hL
    obtain ⟨c1, c2⟩ := cR.2.1 w w0 w1
    obtain ⟨d1, d2, d3, d4⟩ := mR.2 w w0 w1
    have hri : cRid V (S 3 w) (S 4 w) = g' := by
      unfold cRid
      rw [f17, hg']
      rfl
    rw [hri] at c1 c2
    rw [show (150 * 4 + w : Int) = 600 + w by omega]
    refine ⟨by rw [c1, d3, d1, hrE, e58]; exact f6, fun i i0 i1' => ?_⟩
    have l12 := (hLn g').2
    have i2' : i < ln g' := by
      rw [c1] at i1'
      exact i1'
    rw [c2 i i0 i1', d4 i i0 (by omega), d1, hrE, e59, e27]
    exact f7 i i0 i2'
/-- a save's words in one place and in another -/
def sl2 (s s' : Int) (M M1 : Nat → Int → Int → Int) : Prop := (M1 70 0 s' = M 70 0 s ∧ M1 76 0 s' = M 76 0 s) ∧ (∀ j, 0 ≤ j → j < M 70 0 s → M1 71 0 (30 * s' + j) = M 71 0 (30 * s + j) ∧ M1 72 0 (30 * s' + j) = M 72 0 (30 * s + j)) ∧ (∀ j, 0 ≤ j → j < 5 * M 70 0 s → M1 73 0 (150 * s' + j) = M 73 0 (150 * s + j) ∧ M1 74 0 (150 * s' + j) = M 74 0 (150 * s + j) ∧ M1 75 0 (150 * s' + j) = M 75 0 (150 * s + j)) ∧ (∀ j, 0 ≤ j → j < M 76 0 s → M1 77 0 (150 * s' + j) = M 77 0 (150 * s + j) ∧ M1 78 0 (150 * s' + j) = M 78 0 (150 * s + j)) ∧ ∀ j, 0 ≤ j → j < 12 * M 76 0 s → M1 79 0 (1800 * s' + j) = M 79 0 (1800 * s + j)
/-- a save of the class as it was -/
def KE (X X1 : Nat → Int → Int → Int) (y : Int) : Prop := (X1 7 y 0 = X 7 y 0 ∧ X1 7 y 6 = X 7 y 6) ∧ ∀ κ ∈ [8, 9, 10, 11, 12, 13, 14], X1 κ y = X κ y
theorem KE.rf {y : Int} : KE X X y := ⟨⟨rfl, rfl⟩, fun _ _ => rfl⟩
theorem KE.tr {y : Int} (h : KE X X1 y) (k : KE X1 X2 y) : KE X X2 y := ⟨⟨k.1.1.trans h.1.1, k.1.2.trans h.1.2⟩, fun κ hκ => (k.2 κ hκ).trans (h.2 κ hκ)⟩
theorem rSv.mv {g s s' : Int} (h : rSv C M g s) (hs : sl2 s s' M M1) (hR : Rng M1) (hk : KE C C1 g) : rSv C1 M1 g s' := by
  obtain ⟨⟨e0, e6⟩, e⟩ := hk
  obtain ⟨a1, a2, a3, a4, a5⟩ := h
  obtain ⟨⟨s1, s2⟩, s3, s4, s5, s6⟩ := hs
  refine ⟨by rw [e0, s1]; exact a1, by rw [e6, s1, s2]; exact a2, by rw [e6, s1]; exact a3, fun r r0 r1 => ?_, fun w p w0 w1 => ?_⟩
  · rw [s1] at r1
    obtain ⟨b1, b2, b3, b4⟩ := a4 r r0 r1
    obtain ⟨t1, t2⟩ := s3 r r0 r1
    have r72 : 0 ≤ M1 72 0 (30 * s' + r) ∧ M1 72 0 (30 * s' + r) ≤ 5 := hR 72 0 _
    rw [t2] at r72
    have x73 : ∀ k, 0 ≤ k → k < 5 → M1 73 0 (5 * (30 * s' + r) + k) = M 73 0 (5 * (30 * s + r) + k) ∧ M1 74 0 (5 * (30 * s' + r) + k) = M 74 0 (5 * (30 * s + r) + k) ∧ M1 75 0 (5 * (30 * s' + r) + k) = M 75 0 (5 * (30 * s + r) + k) := fun k k0 k1 => by
      have h9 := s4 (5 * r + k) (by omega) (by omega)
      rw [show (150 * s + (5 * r + k) : Int) = 5 * (30 * s + r) + k by omega, show (150 * s' + (5 * r + k) : Int) = 5 * (30 * s' + r) + k by omega] at h9
      exact h9
    rw [t1, t2, e 8 (by decide), e 9 (by decide)]
    refine ⟨b1, b2, fun k k0 k1 => ?_, fun k k' k0 kk k1 => ?_⟩
    · obtain ⟨c1, c2, c3, c4⟩ := b3 k k0 k1
      obtain ⟨y1, y2, y3⟩ := x73 k k0 (by omega)
      unfold rSf
      rw [y1, y2, y3, s2, e 10 (by decide), e 11 (by decide), e 12 (by decide)]
      refine ⟨c1, c2, c3, fun u v => ?_⟩
      obtain ⟨d1, d2⟩ := c4 u v
      refine ⟨d1, ?_⟩
      rw [(s5 _ v d1).1]
      exact d2
    · rw [(x73 k k0 (by omega)).1, (x73 k' (by omega) (by omega)).1]
      exact b4 k k' k0 kk k1
  · rw [s1] at p
    rw [s2] at w1
    obtain ⟨b1, b2⟩ := a5 w p w0 w1
    have r78 : 0 ≤ M1 78 0 (150 * s' + w) ∧ M1 78 0 (150 * s' + w) ≤ 12 := hR 78 0 _
    have t8 := (s5 w w0 w1).2
    rw [t8] at r78
    rw [e 13 (by decide), e 14 (by decide), t8]
    refine ⟨b1, fun i i0 i1 => ?_⟩
    have h9 := s6 (12 * w + i) (by omega) (by omega)
    rw [show (1800 * s + (12 * w + i) : Int) = 12 * (150 * s + w) + i by omega, show (1800 * s' + (12 * w + i) : Int) = 12 * (150 * s' + w) + i by omega] at h9
    rw [h9]
    exact b2 i i0 i1
theorem sl2.of45 {s : Int} (h4 : S4 M M1) (h5 : S5 M M1) (hs : 0 ≤ s ∧ s < 4) (hR : Rng M) : sl2 s s M M1 := by
  have r70 : 0 ≤ M 70 0 s ∧ M 70 0 s ≤ 30 := hR 70 0 s
  have r76 : 0 ≤ M 76 0 s ∧ M 76 0 s ≤ 150 := hR 76 0 s
  exact ⟨⟨h4.1 s (by omega), h5.1 s (by omega)⟩, fun j a b => h4.2.1 _ (by omega), fun j a b => ⟨(h5.2.1 _ (by omega)).1, (h4.2.2 _ (by omega)).1, (h4.2.2 _ (by omega)).2⟩, fun j a b => ⟨(h5.2.1 _ (by omega)).2.1, (h5.2.1 _ (by omega)).2.2⟩, fun j a b => h5.2.2 _ (by omega)⟩
theorem sl2.tr {s : Int} (h : sl2 s s M M1) (k : sl2 s s M1 M2) : sl2 s s M M2 := by
  obtain ⟨⟨a1, a2⟩, a3, a4, a5, a6⟩ := h
  obtain ⟨⟨b1, b2⟩, b3, b4, b5, b6⟩ := k
  rw [a1] at b1 b3 b4
  rw [a2] at b2 b5 b6
  refine ⟨⟨b1, b2⟩, fun j x y => ?_, fun j x y => ?_, fun j x y => ?_, fun j x y => (b6 j x y).trans (a6 j x y)⟩
  · exact ⟨(b3 j x y).1.trans (a3 j x y).1, (b3 j x y).2.trans (a3 j x y).2⟩
  · exact ⟨(b4 j x y).1.trans (a4 j x y).1, (b4 j x y).2.1.trans (a4 j x y).2.1, (b4 j x y).2.2.trans (a4 j x y).2.2⟩
  · exact ⟨(b5 j x y).1.trans (a5 j x y).1, (b5 j x y).2.trans (a5 j x y).2⟩
theorem sl2.svn {sv : Int} (h : svC E M1 sv) : sl2 4 sv E M1 := by
  obtain ⟨a1, a2, -, h71, h72, h73, h74, h75, h77, h78, h79⟩ := h
  refine ⟨⟨a1, a2⟩, fun j a b => ?_, fun j a b => ?_, fun j a b => ?_, fun j a b => ?_⟩
  · rw [show (30 * 4 + j : Int) = 120 + j by omega]
    exact ⟨h71.at_ a b, h72.at_ a b⟩
  · rw [show (150 * 4 + j : Int) = 600 + j by omega]
    exact ⟨h73.at_ a b, h74.at_ a b, h75.at_ a b⟩
  · rw [show (150 * 4 + j : Int) = 600 + j by omega]
    exact ⟨h77.at_ a b, h78.at_ a b⟩
  · rw [show (1800 * 4 + j : Int) = 7200 + j by omega]
    exact h79.at_ a b
theorem sl2.svo {s sv : Int} (h : svC E M1 sv) (h30 : E 70 0 4 ≤ 30) (h150 : E 76 0 4 ≤ 150) (r70 : E 70 0 s ≤ 30) (r76 : E 76 0 s ≤ 150) (hn : s ≠ sv) : sl2 s s E M1 := by
  obtain ⟨-, -, ao, h71, h72, h73, h74, h75, h77, h78, h79⟩ := h
  exact ⟨ao s hn, fun j a b => ⟨h71.out (by omega), h72.out (by omega)⟩, fun j a b => ⟨h73.out (by omega), h74.out (by omega), h75.out (by omega)⟩, fun j a b => ⟨h77.out (by omega), h78.out (by omega)⟩, fun j a b => h79.out (by omega)⟩
/-- the saves' places are six, no two the same -/
theorem sl6_ne (h : rA6 Y) {s g g' : Int} (hs : 0 ≤ s ∧ s < 4) (e : Y 4 0 s = some g) (e' : Y 0 0 6 = some g') : g ≠ g' := fun w => by
  have h9 := h.2 s 4 hs.1 (by omega) (by decide) (by decide) (by unfold sl6; rw [if_pos hs.2, if_neg (by decide), if_pos rfl, e, e', w])
  omega
theorem sl6_ne7 (h : rA6 Y) {s g g' : Int} (hs : 0 ≤ s ∧ s < 4) (e : Y 4 0 s = some g) (e' : Y 0 0 7 = some g') : g ≠ g' := fun w => by
  have h9 := h.2 s 5 hs.1 (by omega) (by decide) (by decide) (by unfold sl6; rw [if_pos hs.2, if_neg (by decide), if_neg (by decide), e, e', w])
  omega
theorem gK.e {g y : Int} (h : gK g X X1) (hy : y ≠ g) : KE X X1 y := by
  obtain ⟨a, b8, b9, b10, b11, b12, b13, b14⟩ := h y hy
  refine ⟨a, fun κ hκ => ?_⟩
  simp only [List.mem_cons, List.not_mem_nil, or_false] at hκ
  rcases hκ with rfl | rfl | rfl | rfl | rfl | rfl | rfl
  · exact b8
  · exact b9
  · exact b10
  · exact b11
  · exact b12
  · exact b13
  · exact b14
theorem KE.frm {L : List Nat} (h : Frm L X X1) (hd : ∀ c ∈ [701, 707, 800, 900, 1000, 1100, 1200, 1300, 1400], c ∉ L) (y : Int) : KE X X1 y := gK.e (g := y + 1) (gK.frm h hd) (by omega)
theorem sl2.hi {s : Int} (h : sl2 s s X1 X2) (hi : ∀ κ, 40 ≤ κ → X1 κ = X κ) : sl2 s s X X2 := by
  unfold sl2 at *
  rw [hi 70 (by decide), hi 71 (by decide), hi 72 (by decide), hi 73 (by decide), hi 74 (by decide), hi 75 (by decide), hi 76 (by decide), hi 77 (by decide), hi 78 (by decide), hi 79 (by decide)] at h
  exact h
theorem sl2.frm {L : List Nat} {s : Int} (h : Frm L M M1) (hd : ∀ c ∈ [7000, 7100, 7200, 7300, 7400, 7500, 7600, 7700, 7800, 7900], c ∉ L) : sl2 s s M M1 := ⟨⟨h 70 0 _ (hd 7000 (by decide)), h 76 0 _ (hd 7600 (by decide))⟩, fun j _ _ => ⟨h 71 0 _ (hd 7100 (by decide)), h 72 0 _ (hd 7200 (by decide))⟩, fun j _ _ => ⟨h 73 0 _ (hd 7300 (by decide)), h 74 0 _ (hd 7400 (by decide)), h 75 0 _ (hd 7500 (by decide))⟩, fun j _ _ => ⟨h 77 0 _ (hd 7700 (by decide)), h 78 0 _ (hd 7800 (by decide))⟩, fun j _ _ => h 79 0 _ (hd 7900 (by decide))⟩
/-- the save's place and the spare one change places -/
theorem rA6.swap (h : rA6 Y) {sv a b : Int} (hs : 0 ≤ sv ∧ sv < 4) (ea : Y 4 0 sv = some a) (eb : Y 0 0 6 = some b) (f4 : ∀ i, i ≠ sv → Y1 4 0 i = Y 4 0 i) (f4s : Y1 4 0 sv = some b) (f6 : Y1 0 0 6 = some a) (f7 : Y1 0 0 7 = Y 0 0 7) : rA6 Y1 := by
  have tr : ∀ i, 0 ≤ i → i < 6 → ∃ j, (0 ≤ j ∧ j < 6) ∧ sl6 Y1 i = sl6 Y j ∧ (j = if i = sv then 4 else if i = 4 then sv else i) := fun i i0 i1 => by
    by_cases e1 : i = sv
    · refine ⟨4, ⟨by decide, by decide⟩, ?_, by rw [if_pos e1]⟩
      unfold sl6
      rw [e1, if_pos hs.2, if_neg (by decide), if_pos rfl, f4s, eb]
    · by_cases e2 : i = 4
      · refine ⟨sv, ⟨hs.1, by omega⟩, ?_, by rw [if_neg e1, if_pos e2]⟩
        unfold sl6
        rw [e2, if_pos hs.2, if_neg (by decide), if_pos rfl, f6, ea]
      · refine ⟨i, ⟨i0, i1⟩, ?_, by rw [if_neg e1, if_neg e2]⟩
        unfold sl6
        by_cases e3 : i < 4
        · rw [if_pos e3, if_pos e3, f4 i e1]
        · rw [if_neg e3, if_neg e3, if_neg e2, if_neg e2, f7]
  refine ⟨fun i i0 i1 => ?_, fun i j i0 i1 j0 j1 e => ?_⟩
  · obtain ⟨i', p, q, -⟩ := tr i i0 i1
    rw [q]
    exact h.1 i' p.1 p.2
  · obtain ⟨i', p, q, u⟩ := tr i i0 i1
    obtain ⟨j', p2, q2, u2⟩ := tr j j0 j1
    rw [q, q2] at e
    have h9 := h.2 i' j' p.1 p.2 p2.1 p2.2 e
    rw [u, u2] at h9
    split at h9 <;> (try split at h9) <;> (try split at h9) <;> (try split at h9) <;> omega
/-- the first difference, both sides -/
theorem row_eq {g o v sv : Int} (r1 : rSv C M g sv) (r2 : rSv C M o 4) (p1 : 0 < M 70 0 sv) (p2 : 0 < M 70 0 4) (v0 : 0 ≤ v) (v1 : v < M 76 0 sv) (v2 : v < M 76 0 4) (h77 : M 77 0 (150 * sv + v) = M 77 0 (600 + v)) : itE C g o v ↔ rdE M (150 * sv + v) (600 + v) := by
  obtain ⟨a1, a2⟩ := r1.2.2.2.2 v p1 v0 v1
  obtain ⟨b1, b2⟩ := r2.2.2.2.2 v p2 v0 v2
  rw [show (150 * 4 + v : Int) = 600 + v by omega] at b1 b2
  constructor
  · rintro ⟨t1, t2⟩
    refine ⟨h77, by rw [← a1, ← b1]; exact t1, fun k k0 k1 => ?_⟩
    rw [← a1] at k1
    rw [← a2 k k0 k1, ← b2 k k0 (by rw [← t1]; exact k1)]
    exact t2 k k0 k1
  · rintro ⟨-, t1, t2⟩
    rw [← a1, ← b1] at t1
    refine ⟨t1, fun k k0 k1 => ?_⟩
    rw [a2 k k0 k1, b2 k k0 (by rw [← t1]; exact k1)]
    exact t2 k k0 (by rw [← a1]; exact k1)
theorem df_eq {g o sv z z2 : Int} (r1 : rSv C M g sv) (r2 : rSv C M o 4) (hs : 0 ≤ sv ∧ sv < 4) (hMI : MInv M) (p1 : 0 < M 70 0 sv) (p2 : 0 < M 70 0 4) (d1 : dfP (mxC C g o) (shC C g o) (fun r => C 9 g r) (fun r f => vqC C g o (5 * r + f)) (fun r f => C 10 g (5 * r + f)) z) (d2 : dfP (mxM M sv) (shM M sv) (fun r => M 72 0 (30 * sv + r)) (vqM M sv) (fun r f => M 73 0 (5 * (30 * sv + r) + f)) z2) : z = z2 := by
  have emx : mxM M sv = mxC C g o := by
    unfold mxM mxC
    rw [r1.1, r2.1]
    (repeat' split) <;> omega
  rw [emx] at d2
  have ab : ∀ r, 0 ≤ r → r < M 70 0 sv → r < M 70 0 4 → (C 8 g r = M 71 0 (30 * sv + r) ∧ C 9 g r = M 72 0 (30 * sv + r) ∧ ∀ k, 0 ≤ k → k < M 72 0 (30 * sv + r) → C 10 g (5 * r + k) = M 73 0 (5 * (30 * sv + r) + k) ∧ C 11 g (5 * r + k) = M 74 0 (5 * (30 * sv + r) + k) ∧ C 12 g (5 * r + k) = M 75 0 (5 * (30 * sv + r) + k) ∧ (3 ≤ M 74 0 (5 * (30 * sv + r) + k) → 0 ≤ M 75 0 (5 * (30 * sv + r) + k) → M 75 0 (5 * (30 * sv + r) + k) < M 76 0 sv ∧ M 77 0 (150 * sv + M 75 0 (5 * (30 * sv + r) + k)) = M 74 0 (5 * (30 * sv + r) + k))) ∧ (C 8 o r = M 71 0 (120 + r) ∧ C 9 o r = M 72 0 (120 + r) ∧ ∀ k, 0 ≤ k → k < M 72 0 (120 + r) → C 10 o (5 * r + k) = M 73 0 (5 * (120 + r) + k) ∧ C 11 o (5 * r + k) = M 74 0 (5 * (120 + r) + k) ∧ C 12 o (5 * r + k) = M 75 0 (5 * (120 + r) + k) ∧ (3 ≤ M 74 0 (5 * (120 + r) + k) → 0 ≤ M 75 0 (5 * (120 + r) + k) → M 75 0 (5 * (120 + r) + k) < M 76 0 4 ∧ M 77 0 (600 + M 75 0 (5 * (120 + r) + k)) = M 74 0 (5 * (120 + r) + k))) := fun r r0 h1 h2 => by
    obtain ⟨a1, a2, a3, -⟩ := r1.2.2.2.1 r r0 h1
    obtain ⟨b1, b2, b3, -⟩ := r2.2.2.2.1 r r0 h2
    have h120 : (30 * 4 + r : Int) = 120 + r := by omega
    rw [h120] at b1 b2 b3
    refine ⟨⟨a1, a2, a3⟩, b1, b2, fun k k0 k1 => ?_⟩
    obtain ⟨c1, c2, c3, c4⟩ := b3 k k0 k1
    rw [h120] at c1 c2 c3 c4
    refine ⟨c1, c2, c3, fun u v => ?_⟩
    have c5 := c4 u v
    rw [show (150 * 4 + M 75 0 (5 * (120 + r) + k) : Int) = 600 + M 75 0 (5 * (120 + r) + k) by omega] at c5
    exact c5
  refine dfP_uniq d1 d2 (fun r r0 _ => ⟨⟨?_, ?_⟩, fun hsh => ?_⟩)
  · rintro ⟨h1, h2, h3, h4, h5⟩
    rw [r1.1] at h1
    rw [r2.1] at h2
    obtain ⟨⟨a1, a2, a3⟩, b1, b2, b3⟩ := ab r r0 h1 h2
    refine ⟨h1, h2, by rw [← a1, ← b1]; exact h3, by rw [← a2, ← b2]; exact h4, fun k k0 k1 => ?_⟩
    obtain ⟨c1, c2, -⟩ := a3 k k0 k1
    obtain ⟨e1, e2, -⟩ := b3 k k0 (by rw [← b2, ← h4, a2]; exact k1)
    obtain ⟨u1, u2⟩ := h5 k k0 (by rw [a2]; exact k1)
    exact ⟨by rw [← c1, ← e1]; exact u1, by rw [← c2, ← e2]; exact u2⟩
  · rintro ⟨h1, h2, h3, h4, h5⟩
    obtain ⟨⟨a1, a2, a3⟩, b1, b2, b3⟩ := ab r r0 h1 h2
    refine ⟨by rw [r1.1]; exact h1, by rw [r2.1]; exact h2, by rw [a1, b1]; exact h3, by rw [a2, b2]; exact h4, fun k k0 k1 => ?_⟩
    rw [a2] at k1
    obtain ⟨c1, c2, -⟩ := a3 k k0 k1
    obtain ⟨e1, e2, -⟩ := b3 k k0 (by rw [← h4]; exact k1)
    obtain ⟨u1, u2⟩ := h5 k k0 k1
    exact ⟨by rw [c1, e1]; exact u1, by rw [c2, e2]; exact u2⟩
  · obtain ⟨h1, h2, h3, h4, h5⟩ := hsh
    rw [r1.1] at h1
    rw [r2.1] at h2
    obtain ⟨⟨a1, a2, a3⟩, b1, b2, b3⟩ := ab r r0 h1 h2
    refine ⟨a2, fun f f0 f1 => ?_⟩
    have f1' : f < M 72 0 (30 * sv + r) := by
      rw [← a2]
      exact f1
    obtain ⟨c1, c2, c3, c4⟩ := a3 f f0 f1'
    obtain ⟨e1, e2, e3, e4⟩ := b3 f f0 (by rw [← b2, ← h4]; exact f1)
    obtain ⟨-, u2⟩ := h5 f f0 f1
    rw [c2, e2] at u2
    obtain ⟨-, -, m3⟩ := (hMI.2.2.1 sv r hs.1 (by omega) r0 h1).2 f f0 f1'
    refine ⟨⟨fun hq => ?_, fun hq => ?_⟩, c1⟩
    · obtain ⟨w1, w2⟩ := hq
      rw [c3, e3] at w1
      refine ⟨w1, fun l3 v0 => ?_⟩
      have it := w2 (by rw [c2]; omega) (by rw [c3]; omega)
      rw [c3] at it
      obtain ⟨t1, t2⟩ := c4 (by omega) v0
      obtain ⟨t3, t4⟩ := e4 (by omega) (by omega)
      rw [← w1] at t3 t4
      exact (row_eq r1 r2 p1 p2 v0 t1 t3 (by rw [t2, t4]; exact u2)).mp it
    · obtain ⟨w1, w2⟩ := hq
      refine ⟨by rw [c3, e3]; exact w1, fun l3 v0 => ?_⟩
      rw [c2] at l3
      rw [c3] at v0 ⊢
      have v1 := (m3 l3).1
      have v2 : 0 ≤ M 75 0 (5 * (30 * sv + r) + f) := by omega
      obtain ⟨t1, t2⟩ := c4 l3 v2
      obtain ⟨t3, t4⟩ := e4 (by omega) (by omega)
      rw [← w1] at t3 t4
      exact (row_eq r1 r2 p1 p2 v2 t1 t3 (by rw [t2, t4]; exact u2)).mpr (w2 (by omega) v2)
end RT
