/-! likeness: the class's two recordings against the run of both -/
section LKE
variable {X W C M : Nat → Int → Int → Int} {Y V : Nat → Int → Int → Option Int} {ln : Int → Int} {c q q2 x z : Int} {S T : Nat → Int → Int}
/-- a recording of the class, told by the reference's words -/
def rcW (X W : Nat → Int → Int → Int) (q : Int) (S : Nat → Int → Int) : Prop := W 7 q 0 = S 0 0 ∧ (∀ r, 0 ≤ r → r < S 0 0 → W 8 q r = X 55 0 (S 1 r) ∧ W 9 q r = fcM X (S 1 r) ∧ ∀ k, 0 ≤ k → k < fcM X (S 1 r) → W 10 q (5 * r + k) = X 45 0 (5 * X 55 0 (S 1 r) + k) ∧ W 11 q (5 * r + k) = lnM X (S 1 r) k ∧ W 12 q (5 * r + k) = S 5 (5 * r + k) ∧ (3 ≤ lnM X (S 1 r) k → 0 ≤ S 5 (5 * r + k) → S 5 (5 * r + k) < S 2 0)) ∧ ∀ w, 0 ≤ w → w < S 2 0 → W 13 q w = X 58 0 (RR (mRid X) S w) ∧ ∀ i, 0 ≤ i → i < X 58 0 (RR (mRid X) S w) → W 14 q (12 * w + i) = X 59 0 (12 * RR (mRid X) S w + i)
theorem rec_cv (hB : RB c X Y ln X) (hT : rT X) (hf : rF X) (hMI : MInv X) (hR : Rng X) (hx : 0 ≤ x ∧ x < X 40 0 13) (hS : S = recR (fcM X) (lnM X) (mRid X) (mRid X) x 30)
    (cT : rcT W V q S) (cR : rcR W V ln q S) (cV : rcV W V q S (S 0 0) 0) (cS : cSt X W Y V) (e27 : W 27 = X 27) (f17 : V 17 = Y 17) (h30 : S 0 0 ≤ 30) : rcW X W q S := by
  have hI : rInv (X 40 0 13) (fcM X) (lnM X) (mRid X) S := by
    rw [hS]
    exact (recR_alk (alkX hB hT hf hMI hR) (fun y _ _ => (hR 44 0 _).1) hx 30).2
  obtain ⟨i0, i1, i2, i3⟩ := hI
  have hQ : rQ (fcM X) (lnM X) (mRid X) S 30 0 := by
    rw [hS]
    exact (recR_q (fun y => (hR 44 0 _).2) 30).1
  obtain ⟨s19, s20, s21, s15⟩ := cS
  have hty : ∀ r, 0 ≤ r → r < S 0 0 → tyo (V 15 (S 1 r) 0) = X 55 0 (S 1 r) := fun r r0 r1 => by
    rw [s15]
    exact (bridge hB.1 hT hf hMI hR (i1 r r0 r1).1 (i1 r r0 r1).2).1
  have hcf : ∀ r, 0 ≤ r → r < S 0 0 → cFc W V (S 1 r) = fcM X (S 1 r) := fun r r0 r1 => by
    unfold cFc
    rw [hty r r0 r1, s19]
    exact (bridge hB.1 hT hf hMI hR (i1 r r0 r1).1 (i1 r r0 r1).2).2.1
  refine ⟨cT.1, fun r r0 r1 => ?_, fun w w0 w1 => ?_⟩
  · obtain ⟨b1, b2, b3, b4⟩ := bridge hB.1 hT hf hMI hR (i1 r r0 r1).1 (i1 r r0 r1).2
    obtain ⟨t1, t2, t3, t4⟩ := cT.2.1 r r0 r1
    refine ⟨by rw [t3, hty r r0 r1], by rw [t4, hcf r r0 r1], fun k k0 k1 => ?_⟩
    obtain ⟨g1, g2, g3⟩ := cV.1 r k r0 r1 k0 (by rw [hcf r r0 r1]; exact k1)
    have b5 := b4 k k0 k1
    refine ⟨?_, ?_, g3, fun u v => (hQ r k r0 r1 k0 k1 (Or.inl (by omega)) u v).1⟩
    · rw [g1, hty r r0 r1, s20]
      exact b5.1
    · rw [g2]
      unfold cLa lnM
      rw [hty r r0 r1, s21]
      exact b5.2.1
  · obtain ⟨⟨j1, j2⟩, ⟨j3, j4⟩, j5, j6⟩ := i3 w w0 w1
    obtain ⟨g', hg', hL⟩ := rw17 hB j1 j2 j3 j4 j5 j6
    obtain ⟨f1, f2, f3, f4, f5, f6, f7⟩ := hB.2.2.1 _ _ _ hL
    obtain ⟨c1, c2⟩ := cR.2.1 w w0 w1
    have hri : cRid V (S 3 w) (S 4 w) = g' := by
      unfold cRid
      rw [f17, hg']
      rfl
    rw [hri] at c1 c2
    refine ⟨by rw [c1]; exact f6, fun i i0 i1' => ?_⟩
    have i2' : i < ln g' := by
      rw [f6]; exact i1'
    rw [c2 i i0 (by rw [c1]; exact i2'), e27]
    exact f7 i i0 i2'
theorem rcW.mv {W' : Nat → Int → Int → Int} (h : rcW X W q S) (k : KE W W' q) : rcW X W' q S := by
  obtain ⟨⟨k0, -⟩, k1⟩ := k
  unfold rcW
  rw [k0, k1 8 (by first | decide +kernel | decide), k1 9 (by first | decide +kernel | decide), k1 10 (by first | decide +kernel | decide), k1 11 (by first | decide +kernel | decide), k1 12 (by first | decide +kernel | decide), k1 13 (by first | decide +kernel | decide), k1 14 (by first | decide +kernel | decide)]
  exact h
theorem like_eq (a : rcW X W q S) (b : rcW X W q2 T) (hn : ∀ i, 0 ≤ W 10 q i) (hv : ∀ i, 0 ≤ i → i ≤ 149 → 3 ≤ W 11 q i → -1 ≤ W 12 q i) (hf : ∀ t, X 44 0 t ≤ 5) (h30 : S 0 0 ≤ 30) (s1 : 1 ≤ S 0 0) (t1 : 1 ≤ T 0 0)
    (d : dfP (mxC W q q2) (shC W q q2) (fun r => W 9 q r) (fun r f => vqC W q q2 (5 * r + f)) (fun r f => W 10 q (5 * r + f)) z) : z = -1 ↔ EQ (fcM X) (fun a => X 55 0 a) (lnM X) (mRid X) (fun a => X 58 0 a) (fun a j => X 59 0 (12 * a + j)) S T := by
  obtain ⟨a0, a1, a2⟩ := a
  obtain ⟨b0, b1, b2⟩ := b
  have A : ∀ r, 0 ≤ r → r < S 0 0 → r < T 0 0 → (shC W q q2 r ↔ X 55 0 (S 1 r) = X 55 0 (T 1 r)) := fun r r0 rs rt => by
    obtain ⟨u1, u2, u3⟩ := a1 r r0 rs
    obtain ⟨v1, v2, v3⟩ := b1 r r0 rt
    constructor
    · rintro ⟨-, -, e, -⟩
      rw [u1, v1] at e; exact e
    · intro e
      have ef : fcM X (T 1 r) = fcM X (S 1 r) := by unfold fcM; rw [e]
      refine ⟨by omega, by omega, by rw [u1, v1]; exact e, by rw [u2, v2, ef], fun k k0 k1 => ?_⟩
      rw [u2] at k1
      obtain ⟨x1, x2, -⟩ := u3 k k0 k1
      obtain ⟨y1, y2, -⟩ := v3 k k0 (by rw [ef]; exact k1)
      rw [x1, x2, y1, y2]
      unfold lnM
      rw [e]; exact ⟨rfl, rfl⟩
  have B : ∀ r k, 0 ≤ r → r < S 0 0 → r < T 0 0 → X 55 0 (S 1 r) = X 55 0 (T 1 r) → 0 ≤ k → k < fcM X (S 1 r) → (vqC W q q2 (5 * r + k) ↔ Sm (lnM X) (mRid X) (fun a => X 58 0 a) (fun a j => X 59 0 (12 * a + j)) (S 1 r) k (5 * r + k) S T) := fun r k r0 rs rt e k0 k1 => by
    have f5 : fcM X (S 1 r) ≤ 5 := hf _
    have ef : fcM X (T 1 r) = fcM X (S 1 r) := by unfold fcM; rw [e]
    have el : lnM X (T 1 r) k = lnM X (S 1 r) k := by unfold lnM; rw [e]
    obtain ⟨-, x2, x3, x4⟩ := (a1 r r0 rs).2.2 k k0 k1
    obtain ⟨-, y2, y3, y4⟩ := (b1 r r0 rt).2.2 k k0 (by rw [ef]; exact k1)
    have hv' := hv (5 * r + k) (by omega) (by omega)
    unfold vqC Sm
    rw [x2, x3] at hv' ⊢
    rw [y3]
    have I : S 5 (5 * r + k) = T 5 (5 * r + k) → 3 ≤ lnM X (S 1 r) k → 0 ≤ S 5 (5 * r + k) → (itE W q q2 (S 5 (5 * r + k)) ↔ rowEq (fun a => X 58 0 a) (fun a j => X 59 0 (12 * a + j)) (RR (mRid X) S (S 5 (5 * r + k))) (RR (mRid X) T (S 5 (5 * r + k)))) := fun ev l v => by
      obtain ⟨p1, p2⟩ := a2 _ v (x4 l v)
      obtain ⟨w1, w2⟩ := b2 (S 5 (5 * r + k)) v (by rw [ev]; exact y4 (by rw [el]; exact l) (by omega))
      unfold itE rowEq
      rw [p1, w1]
      constructor
      · rintro ⟨g1, g2⟩
        refine ⟨g1, fun j j0 j1 => ?_⟩
        have := g2 j j0 j1
        rw [p2 j j0 j1, w2 j j0 (by rw [← g1]; exact j1)] at this
        exact this
      · rintro ⟨g1, g2⟩
        refine ⟨g1, fun j j0 j1 => ?_⟩
        rw [p2 j j0 j1, w2 j j0 (by have h9 : X 58 0 (RR (mRid X) S (S 5 (5 * r + k))) = X 58 0 (RR (mRid X) T (S 5 (5 * r + k))) := g1; omega)]
        exact g2 j j0 j1
    constructor
    · rintro ⟨g1, g2⟩
      exact ⟨g1, fun l v => (I g1 l v).mp (g2 l (by omega))⟩
    · rintro ⟨g1, g2⟩
      exact ⟨g1, fun l v => (I g1 l (by have := hv' l; omega)).mpr (g2 l (by have := hv' l; omega))⟩
  have hm : S 0 0 ≤ mxC W q q2 ∧ T 0 0 ≤ mxC W q q2 ∧ (mxC W q q2 = S 0 0 ∨ mxC W q q2 = T 0 0) := by
    unfold mxC
    rw [a0, b0]
    split <;> omega
  constructor
  · intro hz
    have all : ∀ r, 0 ≤ r → r < mxC W q q2 → shC W q q2 r ∧ ∀ f, 0 ≤ f → f < W 9 q r → vqC W q q2 (5 * r + f) := by
      rcases d with ⟨-, d⟩ | ⟨r, r0, r1, -, ⟨-, e⟩ | ⟨-, f, f0, f1, -, -, e⟩⟩
      · exact d
      · omega
      · have := hn (5 * r + f)
        have e' : z = 100 * r + W 10 q (5 * r + f) := e
        omega
    have hST : S 0 0 = T 0 0 := by
      by_cases c1 : S 0 0 < T 0 0
      · have := (all (S 0 0) (by omega) (by omega)).1.1; omega
      · by_cases c2 : T 0 0 < S 0 0
        · have := (all (T 0 0) (by omega) (by omega)).1.2.1; omega
        · omega
    refine ⟨hST, fun r r0 r1 => ?_⟩
    obtain ⟨g1, g2⟩ := all r r0 (by omega)
    have e := (A r r0 r1 (by omega)).mp g1
    exact ⟨e, fun k k0 k1 => (B r k r0 r1 (by omega) e k0 k1).mp (g2 k k0 (by rw [(a1 r r0 r1).2.1]; exact k1))⟩
  · rintro ⟨hST, hE⟩
    rcases d with ⟨d, -⟩ | ⟨r, r0, r1, -, ⟨n, -⟩ | ⟨-, f, f0, f1, -, n, -⟩⟩
    · exact d
    · have rs : r < S 0 0 := by omega
      exact absurd ((A r r0 rs (by omega)).mpr (hE r r0 rs).1) n
    · have rs : r < S 0 0 := by omega
      have f1' : f < W 9 q r := f1
      rw [(a1 r r0 rs).2.1] at f1'
      exact absurd ((B r f r0 rs (by omega) (hE r r0 rs).1 f0 f1').mpr ((hE r r0 rs).2 f f0 f1')) n
end LKE
