/-! the object is made -/
def K8 : List Nat := [0, 1, 2, 3, 4, 5, 6, 7, 8, 9, 10, 11, 12, 13, 14, 15, 16, 17, 28, 29, 30, 31, 32]
def SI (a7 a15 a28 a29 a32 a0 : Int) (cnt : Nat → Int) : Prop := (∀ k ∈ [7, 8, 9, 10, 11, 12, 13, 14], cnt k = a7) ∧ (∀ k ∈ [15, 16, 17], cnt k = a15) ∧ cnt 28 = a28 ∧ (∀ k ∈ [29, 30, 31], cnt k = a29) ∧ cnt 32 = a32 ∧ (∀ k ∈ [0, 1, 2, 3, 4, 5, 6], cnt k = a0) ∧ (∀ k, k ∉ K8 → cnt k = 0)
section SIx
variable {a7 a15 a28 a29 a32 a0 : Int} {cnt : Nat → Int}
theorem mem_sub {L M : List Nat} (h : ∀ k ∈ L, k ∈ M) {k : Nat} (hk : k ∈ L) : k ∈ M := h k hk
theorem mem_ne {L M : List Nat} (h : ∀ k ∈ L, k ∉ M) {k : Nat} (hk : k ∈ L) : k ∉ M := h k hk
theorem SI.up7 (h : SI a7 a15 a28 a29 a32 a0 cnt) : SI (a7 + 1) a15 a28 a29 a32 a0 (upc cnt [7, 8, 9, 10, 11, 12, 13, 14]) := by
  obtain ⟨h1, h2, h3, h4, h5, h6, h7⟩ := h
  exact ⟨fun k hk => by rw [upc_s hk, h1 k hk], fun k hk => by rw [upc_k (mem_ne (by decide) hk), h2 k hk], by rw [upc_k (by decide), h3], fun k hk => by rw [upc_k (mem_ne (by decide) hk), h4 k hk], by rw [upc_k (by decide), h5], fun k hk => by rw [upc_k (mem_ne (by decide) hk), h6 k hk], fun k hk => by rw [upc_k (fun q => hk (mem_sub (by decide) q)), h7 k hk]⟩
theorem SI.up15 (h : SI a7 a15 a28 a29 a32 a0 cnt) : SI a7 (a15 + 1) a28 a29 a32 a0 (upc cnt [15, 16, 17]) := by
  obtain ⟨h1, h2, h3, h4, h5, h6, h7⟩ := h
  exact ⟨fun k hk => by rw [upc_k (mem_ne (by decide) hk), h1 k hk], fun k hk => by rw [upc_s hk, h2 k hk], by rw [upc_k (by decide), h3], fun k hk => by rw [upc_k (mem_ne (by decide) hk), h4 k hk], by rw [upc_k (by decide), h5], fun k hk => by rw [upc_k (mem_ne (by decide) hk), h6 k hk], fun k hk => by rw [upc_k (fun q => hk (mem_sub (by decide) q)), h7 k hk]⟩
theorem SI.up32 (h : SI a7 a15 a28 a29 a32 a0 cnt) : SI a7 a15 a28 a29 (a32 + 1) a0 (upc cnt [32]) := by
  obtain ⟨h1, h2, h3, h4, h5, h6, h7⟩ := h
  exact ⟨fun k hk => by rw [upc_k (mem_ne (by decide) hk), h1 k hk], fun k hk => by rw [upc_k (mem_ne (by decide) hk), h2 k hk], by rw [upc_k (by decide), h3], fun k hk => by rw [upc_k (mem_ne (by decide) hk), h4 k hk], by rw [upc_s (by decide), h5], fun k hk => by rw [upc_k (mem_ne (by decide) hk), h6 k hk], fun k hk => by rw [upc_k (fun q => hk (mem_sub (by decide) q)), h7 k hk]⟩
theorem SI.up0 (h : SI a7 a15 a28 a29 a32 a0 cnt) : SI a7 a15 a28 a29 a32 (a0 + 1) (upc cnt [0, 1, 2, 3, 4, 5, 6]) := by
  obtain ⟨h1, h2, h3, h4, h5, h6, h7⟩ := h
  exact ⟨fun k hk => by rw [upc_k (mem_ne (by decide) hk), h1 k hk], fun k hk => by rw [upc_k (mem_ne (by decide) hk), h2 k hk], by rw [upc_k (by decide), h3], fun k hk => by rw [upc_k (mem_ne (by decide) hk), h4 k hk], by rw [upc_k (by decide), h5], fun k hk => by rw [upc_s hk, h6 k hk], fun k hk => by rw [upc_k (fun q => hk (mem_sub (by decide) q)), h7 k hk]⟩
end SIx
/-- what holds while the object is made, behind its fields: t things, w words, v saves -/
def OI (t w v : Int) (h0 : Nat) (ad : Nat → Int → Nat) (cnt : Nat → Int) (X : Nat → Int → Int → Int) (Y : Nat → Int → Int → Option Int) : Prop :=
  ad 0 0 = h0 ∧ SI (2 + v) t 80 1 1 1 cnt ∧ (∀ q, 0 ≤ q → q < t → Y 2 0 q = some q) ∧ (∀ k i j, X k i j = if k = 3 ∧ i = 0 ∧ 0 ≤ j ∧ j < w then 1 else 0) ∧ (∀ q, 0 ≤ q → q < v → Y 4 0 q = some (2 + q)) ∧ (Y 0 0 6 = some 0 ∧ Y 0 0 7 = some 1) ∧ (∀ q, 0 ≤ q → q < 80 → Y 30 0 q = some q) ∧ Own cnt ∧ Zr cnt X Y
set_option maxHeartbeats 2000000 in
theorem born_obj {D : va_G} {tc : Nat → ClassId} {base : Nat} {H : Heap} {ad : Nat → Int → Nat} {cnt : Nat → Int} {X : Nat → Int → Int → Int} {Y : Nat → Int → Int → Option Int} {ln : Int → Int} {h0 q1 q2 q3 q4 q5 q6 r1 r2 jq fq : Nat} (hw : wx D tc base (ad, cnt, X, Y, ln) ([(h0, .inr (8, [.ref q1, .int 0, .ref q2, .int 0, .ref q3, .ref q4, .ref r1, .ref r2, .ref q5, .ref q6, .ref jq, .ref fq])), (q1, .inl (tc 8, (8 : Int).toNat, .inr (.inr (.inr (.inr (fun _ => none)))))), (q2, .inl (tc 7, (30 : Int).toNat, .inr (.inr (.inr (.inr (fun _ => none)))))), (q3, .inl (tc 2, (16 : Int).toNat, .inl (fun _ => 0))), (q4, .inl (tc 5, (4 : Int).toNat, .inr (.inr (.inr (.inr (fun _ => none)))))), (q5, .inl (tc 7, (30 : Int).toNat, .inr (.inr (.inr (.inr (fun _ => none)))))), (q6, .inl (tc 6, (450 : Int).toNat, .inr (.inr (.inr (.inr (fun _ => none))))))]) H) (hX : ∀ k i j, X k i j = 0) (hY : ∀ k i j, k ≠ 30 → Y k i j = none) (h30 : ∀ q, 0 ≤ q → q < 80 → Y 30 0 q = some q) (hSI : SI 2 0 80 1 1 0 cnt) (hOw : Own cnt) (hz : Zr cnt X Y) (har1 : ad 7 0 = r1) (har2 : ad 7 1 = r2) (hajq : ad 29 0 = jq) (hafq : ad 32 0 = fq) :
    ∃ (ad1 : Nat → Int → Nat) (cnt1 : Nat → Int) (Y1 : Nat → Int → Int → Option Int), wx D tc base (ad1, cnt1, X, Y1, ln) [] H ∧ OI 0 0 0 h0 ad1 cnt1 X Y1 := by
  have hrf := wd_ref (wx_wd hw)
  have hKn : ∀ k ∈ [0, 1, 2, 3, 4, 5, 6], cnt k = 0 := hSI.2.2.2.2.2.1
  have hSI1 := hSI.up0
  have hzu : Zr (upc cnt [0, 1, 2, 3, 4, 5, 6]) X Y := hz.up
  have hu0 : upc cnt [0, 1, 2, 3, 4, 5, 6] 0 = 1 := hSI1.2.2.2.2.2.1 0 (by decide)
  have hu7 : upc cnt [0, 1, 2, 3, 4, 5, 6] 7 = 2 := hSI1.1 7 (by decide)
  have hz1 : Zr (upc cnt [0, 1, 2, 3, 4, 5, 6]) X (u3 (u3 Y 0 0 6 (some 0)) 0 0 7 (some 1)) := (hzu.setY (by omega) (by omega)).setY (by omega) (by omega)
  have hOw1 : Own (upc cnt [0, 1, 2, 3, 4, 5, 6]) := by
    refine ⟨fun p hp => ?_, fun k g1 g2 => by rw [upc_k (fun q => absurd g2 ((show ∀ k ∈ [0, 1, 2, 3, 4, 5, 6], (lay k).1 = 0 → (lay k).2.2.1.1 ≠ 9 by decide +kernel) k q g1))]; exact hOw.2 k g1 g2⟩
    have h3 := hOw.1 p hp
    by_cases hm : p.1 ∈ [0, 1, 2, 3, 4, 5, 6]
    · have h4 : ∀ p ∈ ownL, p.1 ∈ [0, 1, 2, 3, 4, 5, 6] → p.2 ∈ [0, 1, 2, 3, 4, 5, 6] ∨ p.2 = 29 ∨ p.2 = 32 := by decide +kernel
      rw [upc_s hm, hKn p.1 hm]
      rcases h4 p hp hm with h5 | h5 | h5
      · rw [upc_s h5, hKn p.2 h5]; omega
      · rw [h5, upc_k (by decide), hSI.2.2.2.1 29 (by decide)]; omega
      · rw [h5, upc_k (by decide), hSI.2.2.2.2.1]; omega
    · rw [upc_k hm]
      have : cnt p.2 ≤ upc cnt [0, 1, 2, 3, 4, 5, 6] p.2 := upc_le
      omega
  refine ⟨up2 ad [0, 1, 2, 3, 4, 5, 6] 0 (fun k => if k = 0 then h0 else if k = 1 then q1 else if k = 2 then q2 else if k = 3 then q3 else if k = 4 then q4 else if k = 5 then q5 else q6), upc cnt [0, 1, 2, 3, 4, 5, 6], u3 (u3 Y 0 0 6 (some 0)) 0 0 7 (some 1), adopt (E := []) (NL := [0, 1, 2, 3, 4, 5, 6].map fun k => (k, (0 : Int))) hw ?_ (fun k i g0 g1 => ?_) hOw (fun k i => ?_) ?_, by rw [up2_s (by decide)]; rfl, hSI1, fun q g0 g1 => by omega, fun k i j => by rw [hX, if_neg (fun q => by omega)], fun q g0 g1 => by omega, ⟨by rw [u3_j _ _ _ _ (by decide)]; exact u3_s _ _ _ _ _, u3_s _ _ _ _ _⟩, fun q g0 g1 => by rw [u3_k _ _ _ _ (by decide), u3_k _ _ _ _ (by decide)]; exact h30 q g0 g1, hOw1, hz1⟩
  · have e0 : ceE tc (up2 ad [0, 1, 2, 3, 4, 5, 6] 0 (fun k => if k = 0 then h0 else if k = 1 then q1 else if k = 2 then q2 else if k = 3 then q3 else if k = 4 then q4 else if k = 5 then q5 else q6)) X (u3 (u3 Y 0 0 6 (some 0)) 0 0 7 (some 1)) ln 0 0 = .inr (8, [.ref q1, .int 0, .ref q2, .int 0, .ref q3, .ref q4, .ref r1, .ref r2, .ref q5, .ref q6, .ref jq, .ref fq]) := by
      rw [ob_E sl_0_0]
      have t0 : slo 0 0 = (3, 1) := sl_0_0.2.2.1
      have t1 : slo 0 1 = (0, 0) := sl_0_1.2.2.1
      have t2 : slo 0 2 = (3, 2) := sl_0_2.2.2.1
      have t3 : slo 0 3 = (0, 0) := sl_0_3.2.2.1
      have t4 : slo 0 4 = (3, 3) := sl_0_4.2.2.1
      have t5 : slo 0 5 = (3, 4) := sl_0_5.2.2.1
      have t6 : slo 0 6 = (4, 7) := sl_0_6.2.2.1
      have t7 : slo 0 7 = (4, 7) := sl_0_7.2.2.1
      have t8 : slo 0 8 = (3, 5) := sl_0_8.2.2.1
      have t9 : slo 0 9 = (3, 6) := sl_0_9.2.2.1
      have t10 : slo 0 10 = (3, 29) := sl_0_10.2.2.1
      have t11 : slo 0 11 = (3, 32) := sl_0_11.2.2.1
      have x0 : X 0 0 = fun _ => 0 := funext (hX 0 0)
      simp only [List.range, List.range.loop, List.map, slV, t0, t1, t2, t3, t4, t5, t6, t7, t8, t9, t10, t11]
      have y6 : (u3 (u3 Y 0 0 6 (some 0)) 0 0 7 (some 1)) 0 0 6 = some 0 := by rw [u3_j _ _ _ _ (by decide)]; exact u3_s _ _ _ _ _
      have y7 : (u3 (u3 Y 0 0 6 (some 0)) 0 0 7 (some 1)) 0 0 7 = some 1 := u3_s _ _ _ _ _
      have a7 : (up2 ad [0, 1, 2, 3, 4, 5, 6] 0 (fun k => if k = 0 then h0 else if k = 1 then q1 else if k = 2 then q2 else if k = 3 then q3 else if k = 4 then q4 else if k = 5 then q5 else q6)) 7 0 = r1 := by rw [up2_k (by decide)]; exact har1
      have a71 : (up2 ad [0, 1, 2, 3, 4, 5, 6] 0 (fun k => if k = 0 then h0 else if k = 1 then q1 else if k = 2 then q2 else if k = 3 then q3 else if k = 4 then q4 else if k = 5 then q5 else q6)) 7 1 = r2 := by rw [up2_k (by decide)]; exact har2
      have a29 : (up2 ad [0, 1, 2, 3, 4, 5, 6] 0 (fun k => if k = 0 then h0 else if k = 1 then q1 else if k = 2 then q2 else if k = 3 then q3 else if k = 4 then q4 else if k = 5 then q5 else q6)) 29 0 = jq := by rw [up2_k (by decide)]; exact hajq
      have a32 : (up2 ad [0, 1, 2, 3, 4, 5, 6] 0 (fun k => if k = 0 then h0 else if k = 1 then q1 else if k = 2 then q2 else if k = 3 then q3 else if k = 4 then q4 else if k = 5 then q5 else q6)) 32 0 = fq := by rw [up2_k (by decide)]; exact hafq
      simp [y6, y7, a7, a71, a29, a32, x0, va_rf, up2_s]
      decide
    have e1 : ceE tc (up2 ad [0, 1, 2, 3, 4, 5, 6] 0 (fun k => if k = 0 then h0 else if k = 1 then q1 else if k = 2 then q2 else if k = 3 then q3 else if k = 4 then q4 else if k = 5 then q5 else q6)) X (u3 (u3 Y 0 0 6 (some 0)) 0 0 7 (some 1)) ln 1 0 = .inl (tc 8, (8 : Int).toNat, .inr (.inr (.inr (.inr (fun _ => none))))) := by
      rw [ceE_raw (by decide) (hX 1 0) (fun j => by rw [u3_k _ _ _ _ (by decide), u3_k _ _ _ _ (by decide)]; exact hY 1 0 j (by decide))]
      rfl
    have e2 : ceE tc (up2 ad [0, 1, 2, 3, 4, 5, 6] 0 (fun k => if k = 0 then h0 else if k = 1 then q1 else if k = 2 then q2 else if k = 3 then q3 else if k = 4 then q4 else if k = 5 then q5 else q6)) X (u3 (u3 Y 0 0 6 (some 0)) 0 0 7 (some 1)) ln 2 0 = .inl (tc 7, (30 : Int).toNat, .inr (.inr (.inr (.inr (fun _ => none))))) := by
      rw [ceE_raw (by decide) (hX 2 0) (fun j => by rw [u3_k _ _ _ _ (by decide), u3_k _ _ _ _ (by decide)]; exact hY 2 0 j (by decide))]
      rfl
    have e3 : ceE tc (up2 ad [0, 1, 2, 3, 4, 5, 6] 0 (fun k => if k = 0 then h0 else if k = 1 then q1 else if k = 2 then q2 else if k = 3 then q3 else if k = 4 then q4 else if k = 5 then q5 else q6)) X (u3 (u3 Y 0 0 6 (some 0)) 0 0 7 (some 1)) ln 3 0 = .inl (tc 2, (16 : Int).toNat, .inl (fun _ => 0)) := by
      rw [ceE_raw (by decide) (hX 3 0) (fun j => by rw [u3_k _ _ _ _ (by decide), u3_k _ _ _ _ (by decide)]; exact hY 3 0 j (by decide))]
      rfl
    have e4 : ceE tc (up2 ad [0, 1, 2, 3, 4, 5, 6] 0 (fun k => if k = 0 then h0 else if k = 1 then q1 else if k = 2 then q2 else if k = 3 then q3 else if k = 4 then q4 else if k = 5 then q5 else q6)) X (u3 (u3 Y 0 0 6 (some 0)) 0 0 7 (some 1)) ln 4 0 = .inl (tc 5, (4 : Int).toNat, .inr (.inr (.inr (.inr (fun _ => none))))) := by
      rw [ceE_raw (by decide) (hX 4 0) (fun j => by rw [u3_k _ _ _ _ (by decide), u3_k _ _ _ _ (by decide)]; exact hY 4 0 j (by decide))]
      rfl
    have e5 : ceE tc (up2 ad [0, 1, 2, 3, 4, 5, 6] 0 (fun k => if k = 0 then h0 else if k = 1 then q1 else if k = 2 then q2 else if k = 3 then q3 else if k = 4 then q4 else if k = 5 then q5 else q6)) X (u3 (u3 Y 0 0 6 (some 0)) 0 0 7 (some 1)) ln 5 0 = .inl (tc 7, (30 : Int).toNat, .inr (.inr (.inr (.inr (fun _ => none))))) := by
      rw [ceE_raw (by decide) (hX 5 0) (fun j => by rw [u3_k _ _ _ _ (by decide), u3_k _ _ _ _ (by decide)]; exact hY 5 0 j (by decide))]
      rfl
    have e6 : ceE tc (up2 ad [0, 1, 2, 3, 4, 5, 6] 0 (fun k => if k = 0 then h0 else if k = 1 then q1 else if k = 2 then q2 else if k = 3 then q3 else if k = 4 then q4 else if k = 5 then q5 else q6)) X (u3 (u3 Y 0 0 6 (some 0)) 0 0 7 (some 1)) ln 6 0 = .inl (tc 6, (450 : Int).toNat, .inr (.inr (.inr (.inr (fun _ => none))))) := by
      rw [ceE_raw (by decide) (hX 6 0) (fun j => by rw [u3_k _ _ _ _ (by decide), u3_k _ _ _ _ (by decide)]; exact hY 6 0 j (by decide))]
      rfl
    simp only [wlE, List.map, e0, e1, e2, e3, e4, e5, e6]
    rw [up2_s (by decide), up2_s (by decide), up2_s (by decide), up2_s (by decide), up2_s (by decide), up2_s (by decide), up2_s (by decide)]
    rfl
  · have hne : ¬ (k ∈ [0, 1, 2, 3, 4, 5, 6] ∧ i = 0) := fun q => by have := hKn k q.1; omega
    have hk0 : k ≠ 0 := fun q => by rw [q, hKn 0 (by decide)] at g1; omega
    exact ⟨by simp only [up2, if_neg hne], rfl, by rw [u3_k _ _ _ _ hk0, u3_k _ _ _ _ hk0], fun _ => rfl⟩
  · simp only [upc]
    by_cases hk : k ∈ [0, 1, 2, 3, 4, 5, 6]
    · have := hKn k hk
      rw [if_pos hk]
      constructor
      · intro h
        by_cases hi : i = 0
        · exact Or.inr (List.mem_map.mpr ⟨k, hk, by rw [hi]⟩)
        · exact Or.inl (by omega)
      · rintro (h | h)
        · omega
        · obtain ⟨k', -, e⟩ := List.mem_map.mp h
          cases e
          omega
    · rw [if_neg hk]
      constructor
      · exact fun h => Or.inl h
      · rintro (h | h)
        · exact h
        · obtain ⟨k', hk', e⟩ := List.mem_map.mp h
          cases e
          exact absurd hk' hk
  · intro k i j t r g0 g1 hr e
    have hlow : ∀ k i (j : Nat) r, Y k i j = some r → rfK k j t → 0 ≤ i → i < upc cnt [0, 1, 2, 3, 4, 5, 6] k → 0 ≤ r ∧ r < upc cnt [0, 1, 2, 3, 4, 5, 6] t := by
      intro k i j r e hr g0 g1
      by_cases hm : k ∈ [0, 1, 2, 3, 4, 5, 6]
      · rw [hY k i j (fun q => by rw [q] at hm; exact absurd hm (by decide))] at e
        cases e
      · rw [upc_k hm] at g1
        have := hrf k i j t r g0 g1 hr e
        have h2 : cnt t ≤ upc cnt [0, 1, 2, 3, 4, 5, 6] t := upc_le
        omega
    simp only [u3] at e
    split at e
    · rename_i h
      obtain ⟨rfl, rfl, h7⟩ := h
      have hj7 : j = 7 := by omega
      subst hj7
      cases e
      have ht : t = 7 := by
        rcases hr with ⟨h1, -⟩ | ⟨-, h2⟩
        · exact absurd h1 (by decide +kernel)
        · rw [show slo 0 7 = (4, 7) from sl_0_7.2.2.1] at h2
          exact (congrArg Prod.snd h2).symm
      subst ht
      omega
    · split at e
      · rename_i h
        obtain ⟨rfl, rfl, h7⟩ := h
        have hj7 : j = 6 := by omega
        subst hj7
        cases e
        have ht : t = 7 := by
          rcases hr with ⟨h1, -⟩ | ⟨-, h2⟩
          · exact absurd h1 (by decide +kernel)
          · rw [show slo 0 6 = (4, 7) from sl_0_6.2.2.1] at h2
            exact (congrArg Prod.snd h2).symm
        subst ht
        omega
      · exact hlow k i j r e hr g0 g1
set_option maxHeartbeats 8000000 in
set_option maxRecDepth 100000 in
theorem c_X8_init (l : Launch) (D : va_G) (tc : Nat → ClassId) (base : Nat) (ad : Nat → Int → Nat) (cnt : Nat → Int) (X : Nat → Int → Int → Int) (Y : Nat → Int → Int → Option Int) (ln : Int → Int) (h0 : Nat) (hc : ∀ k, cnt k = 0) (hX : ∀ k i j, X k i j = 0) (hY : ∀ k i j, Y k i j = none) : KC l D tc base yX8_init wsX8_init ({ frames := 3, cells := 228, slots := 16184, locals := 60 } : Room) [.ref h0] (ad, cnt, X, Y, ln) [(h0, .inr (8, [.null, .int 0, .null, .int 0, .null, .null, .null, .null, .null, .null, .null, .null]))] 228 16184 (fun u' E' => ∃ (ad1 : Nat → Int → Nat) (cnt1 : Nat → Int) (X1 : Nat → Int → Int → Int) (Y1 : Nat → Int → Int → Option Int), u' = (ad1, cnt1, X1, Y1, ln) ∧ E' = [] ∧ OI 30 16 4 h0 ad1 cnt1 X1 Y1) := by
  refine KC_of (cc := cX8_init) (maxL := 2) (ret := none) (by decide) rfl (Nat.le_of_ble_eq_true rfl) ?_
  intro p e s m below meth c ls hx hb hr hml hown hts hlocks hnm hl hK hw hS
  have hnm : meth.name = "<init>" := hnm
  have hown : s.vm.findClass RX8 = some m.cls := hown
  have hbs : base ≤ s.heap.size := hw.2.2
  have hi8 : ∀ w ∈ wsX80, w ∈ wsX8_init := fun w h => List.mem_cons_of_mem _ (List.mem_append_left _ (List.mem_append_left _ (List.mem_append_left _ (List.mem_append_left _ (List.mem_append_left _ (List.mem_append_right _ h))))))
  have hf8 : fctx s m _ RX8 wsX8_init D tc RX8 TX8 12 8 := ⟨hts, hi8, hown, hK.1, rfl⟩
  have hi4 : ∀ w ∈ wsX40, w ∈ wsX8_init := fun w h => List.mem_cons_of_mem _ (List.mem_append_left _ (List.mem_append_left _ (List.mem_append_left _ (List.mem_append_left _ (List.mem_append_right _ h)))))
  have hf4 : fctx s m _ RX8 wsX8_init D tc RX4 TX4 9 4 := ⟨hts, hi4, hown, hK.1, rfl⟩
  have hi2 : ∀ w ∈ wsX20, w ∈ wsX8_init := fun w h => List.mem_cons_of_mem _ (List.mem_append_left _ (List.mem_append_left _ (List.mem_append_left _ (List.mem_append_right _ h))))
  have hf2 : fctx s m _ RX8 wsX8_init D tc RX2 TX2 4 2 := ⟨hts, hi2, hown, hK.1, rfl⟩
  have hi1 : ∀ w ∈ wsX10, w ∈ wsX8_init := fun w h => List.mem_cons_of_mem _ (List.mem_append_left _ (List.mem_append_left _ (List.mem_append_right _ h)))
  have hf1 : fctx s m _ RX8 wsX8_init D tc RX1 TX1 4 1 := ⟨hts, hi1, hown, hK.1, rfl⟩
  have hi6 : ∀ w ∈ wsX60, w ∈ wsX8_init := fun w h => List.mem_cons_of_mem _ (List.mem_append_left _ (List.mem_append_right _ h))
  have hf6 : fctx s m _ RX8 wsX8_init D tc RX6 TX6 4 6 := ⟨hts, hi6, hown, hK.1, rfl⟩
  have lk11 := hts (.fieldLink RX8 11 (TX8 0).1 (TX8 0).2.1 (TX8 0).2.2.1) (gj_X8_init_0 _ (gp_4 gp_h))
  have lk17 := hts (.fieldLink RX8 17 (TX8 2).1 (TX8 2).2.1 (TX8 2).2.2.1) (gj_X8_init_0 _ (gp_4 (gp_1 (gp_1 gp_h))))
  have lk21 := hts (.fieldLink RX8 21 (TX8 4).1 (TX8 4).2.1 (TX8 4).2.2.1) (gj_X8_init_0 _ (gp_4 (gp_4 gp_h)))
  have lk27 := hts (.fieldLink RX8 27 (TX8 5).1 (TX8 5).2.1 (TX8 5).2.2.1) (gj_X8_init_0 _ (gp_4 (gp_4 (gp_1 (gp_1 gp_h)))))
  have lk32 := hts (.fieldLink RX8 32 (TX8 6).1 (TX8 6).2.1 (TX8 6).2.2.1) (gj_X8_init_0 _ (gp_4 (gp_4 (gp_4 (gp_1 gp_h)))))
  have lk36 := hts (.fieldLink RX8 36 (TX8 7).1 (TX8 7).2.1 (TX8 7).2.2.1) (gj_X8_init_0 _ (gp_4 (gp_4 (gp_4 (gp_1 (gp_1 gp_h))))))
  have lk39 := hts (.fieldLink RX8 39 (TX8 8).1 (TX8 8).2.1 (TX8 8).2.2.1) (gj_X8_init_0 _ (gp_4 (gp_4 (gp_4 (gp_1 (gp_1 (gp_1 gp_h)))))))
  have lk44 := hts (.fieldLink RX8 44 (TX8 9).1 (TX8 9).2.1 (TX8 9).2.2.1) (gj_X8_init_0 _ (gp_16 (gp_1 gp_h)))
  have lk51 := hts (.fieldLink RX8 51 (TX8 10).1 (TX8 10).2.1 (TX8 10).2.2.1) (gj_X8_init_0 _ (gp_16 (gp_4 (gp_1 gp_h))))
  have lk58 := hts (.fieldLink RX8 58 (TX8 11).1 (TX8 11).2.1 (TX8 11).2.2.1) (gj_X8_init_1 _ (gp_1 gp_h))
  have hl : lv_has ls 2 [(0, .ref h0)] := hl
  have hOw : Own cnt := ⟨fun p _ => by rw [hc, hc]; omega, fun k _ _ => by rw [hc]; omega⟩
  have hz : Zr cnt X Y := fun k i j _ => ⟨hX k i j, hY k i j⟩
  have hSI : SI 0 0 0 0 0 0 cnt := ⟨fun k _ => hc k, fun k _ => hc k, hc 28, fun k _ => hc k, hc 32, fun k _ => hc k, fun k _ => hc k⟩
  refine lv_aload_n hx hb dX8_init_0 rfl (lv_at hl 0 rfl) ?_
  refine W.objInit hx hb hown (hts (.methodLink RX8 3 objectInit) (by first | exact gj_X8_init_0 _ (gp_h) | decide +kernel)) (hts (.instanceMethod objectInit) (by first | exact gj_X8_init_0 _ (gp_1 gp_h) | decide +kernel)) (hts _ (List.mem_cons_of_mem _ (List.mem_append_left _ (List.mem_append_left _ (List.mem_append_left _ (List.mem_append_left _ (List.mem_append_left _ (List.mem_append_left _ (List.mem_append_left _ (List.mem_of_getElem? (i := 2) rfl)))))))))) rfl (by rw [hml]; exact hl.1) rfl dX8_init_1 (Nat.le_of_ble_eq_true rfl) (Nat.le_of_ble_eq_true rfl) ?_
  refine W.eq (g2 := F0 m 4 ls []) rfl ?_
  refine lv_aload_n hx hb dX8_init_4 rfl (lv_at hl 0 rfl) ?_
  refine lv_bipush (v := jI 8) hx hb dX8_init_5 (by decide) ?_
  refine nx_newq (t := 8) (z := 8) hx hb hown (hts (.classLink RX8 9 RX7) (by first | exact gj_X8_init_0 _ (gp_1 (gp_1 (gp_1 gp_h))) | decide +kernel)) hK.2.2.2.2.2.2.2.2.2.2 hK.1 rfl hw hS hbs (by omega) (by omega) (show 0 + 1 ≤ 228 by omega) (show 0 + (8 : Int).toNat ≤ 16184 by omega) dX8_init_7 (fun q1 H hw hS => ?_)
  have hw : wx D tc base (ad, cnt, X, Y, ln) ([(h0, .inr (8, [.null, .int 0, .null, .int 0, .null, .null, .null, .null, .null, .null, .null, .null])), (q1, .inl (tc 8, (8 : Int).toNat, .inr (.inr (.inr (.inr (fun _ => none))))))]) H := hw
  refine W.widen (k := 1) (n := 8) (by omega) (by omega) ?_
  refine nx_putF (ci := 8) hx hb hf8 ⟨tyX8_ok, nmX8⟩ hw hS 0 rfl 0 (by decide) lk11 rfl hnm rfl (tyX8_ok 0 (by decide)) rfl rfl (Nat.le_of_ble_eq_true rfl) dX8_init_10 (fun H locs hw hS => ?_)
  have hw : wx D tc base (ad, cnt, X, Y, ln) ([(h0, .inr (8, [.ref q1, .int 0, .null, .int 0, .null, .null, .null, .null, .null, .null, .null, .null])), (q1, .inl (tc 8, (8 : Int).toNat, .inr (.inr (.inr (.inr (fun _ => none))))))]) H := hw
  refine lv_aload_n hx hb dX8_init_13 rfl (lv_at hl 0 rfl) ?_
  refine lv_bipush (v := jI 30) hx hb dX8_init_14 (by decide) ?_
  refine nx_newq (t := 7) (z := 30) hx hb hown (hts (.classLink RX8 15 RX6) (by first | exact gj_X8_init_0 _ (gp_4 (gp_1 gp_h)) | decide +kernel)) hK.2.2.2.2.2.2.2.2.2.1 hK.1 rfl hw hS hbs (by omega) (by omega) (show 1 + 1 ≤ 228 by omega) (show 8 + (30 : Int).toNat ≤ 16184 by omega) dX8_init_16 (fun q2 H hw hS => ?_)
  have hw : wx D tc base (ad, cnt, X, Y, ln) ([(h0, .inr (8, [.ref q1, .int 0, .null, .int 0, .null, .null, .null, .null, .null, .null, .null, .null])), (q1, .inl (tc 8, (8 : Int).toNat, .inr (.inr (.inr (.inr (fun _ => none)))))), (q2, .inl (tc 7, (30 : Int).toNat, .inr (.inr (.inr (.inr (fun _ => none))))))]) H := hw
  refine W.widen (k := 2) (n := 38) (by omega) (by omega) ?_
  refine nx_putF (ci := 8) hx hb hf8 ⟨tyX8_ok, nmX8⟩ hw hS 0 rfl 2 (by decide) lk17 rfl hnm rfl (tyX8_ok 2 (by decide)) rfl rfl (Nat.le_of_ble_eq_true rfl) dX8_init_19 (fun H locs hw hS => ?_)
  have hw : wx D tc base (ad, cnt, X, Y, ln) ([(h0, .inr (8, [.ref q1, .int 0, .ref q2, .int 0, .null, .null, .null, .null, .null, .null, .null, .null])), (q1, .inl (tc 8, (8 : Int).toNat, .inr (.inr (.inr (.inr (fun _ => none)))))), (q2, .inl (tc 7, (30 : Int).toNat, .inr (.inr (.inr (.inr (fun _ => none))))))]) H := hw
  refine lv_aload_n hx hb dX8_init_22 rfl (lv_at hl 0 rfl) ?_
  refine lv_bipush (v := jI 16) hx hb dX8_init_23 (by decide) ?_
  refine nx_newa (t := 2) (z := 16) (a0 := ((16 : Int).toNat, .inl (fun _ => 0))) (atype := .boolean) hx hb (hts (.arrayClass .boolean) (by first | exact gj_X8_init_0 _ (gp_4 (gp_1 (gp_1 (gp_1 gp_h)))) | decide +kernel)) rfl hK.1 rfl hw hS hbs (fun _ => rfl) (by omega) (by omega) (by decide) (show 2 + 1 ≤ 228 by omega) (show 38 + (16 : Int).toNat ≤ 16184 by omega) dX8_init_25 (fun q3 H hw hS => ?_)
  have hw : wx D tc base (ad, cnt, X, Y, ln) ([(h0, .inr (8, [.ref q1, .int 0, .ref q2, .int 0, .null, .null, .null, .null, .null, .null, .null, .null])), (q1, .inl (tc 8, (8 : Int).toNat, .inr (.inr (.inr (.inr (fun _ => none)))))), (q2, .inl (tc 7, (30 : Int).toNat, .inr (.inr (.inr (.inr (fun _ => none)))))), (q3, .inl (tc 2, (16 : Int).toNat, .inl (fun _ => 0)))]) H := hw
  refine W.widen (k := 3) (n := 54) (by omega) (by omega) ?_
  refine nx_putF (ci := 8) hx hb hf8 ⟨tyX8_ok, nmX8⟩ hw hS 0 rfl 4 (by decide) lk21 rfl hnm rfl (tyX8_ok 4 (by decide)) rfl rfl (Nat.le_of_ble_eq_true rfl) dX8_init_27 (fun H locs hw hS => ?_)
  have hw : wx D tc base (ad, cnt, X, Y, ln) ([(h0, .inr (8, [.ref q1, .int 0, .ref q2, .int 0, .ref q3, .null, .null, .null, .null, .null, .null, .null])), (q1, .inl (tc 8, (8 : Int).toNat, .inr (.inr (.inr (.inr (fun _ => none)))))), (q2, .inl (tc 7, (30 : Int).toNat, .inr (.inr (.inr (.inr (fun _ => none)))))), (q3, .inl (tc 2, (16 : Int).toNat, .inl (fun _ => 0)))]) H := hw
  refine lv_aload_n hx hb dX8_init_30 rfl (lv_at hl 0 rfl) ?_
  refine lv_iconst (v := jI 4) hx hb dX8_init_31 rfl ?_
  refine nx_newq (t := 5) (z := 4) hx hb hown (hts (.classLink RX8 25 RX4) (by first | exact gj_X8_init_0 _ (gp_4 (gp_4 (gp_1 gp_h))) | decide +kernel)) hK.2.2.2.2.2.2.2.1 hK.1 rfl hw hS hbs (by omega) (by omega) (show 3 + 1 ≤ 228 by omega) (show 54 + (4 : Int).toNat ≤ 16184 by omega) dX8_init_32 (fun q4 H hw hS => ?_)
  have hw : wx D tc base (ad, cnt, X, Y, ln) ([(h0, .inr (8, [.ref q1, .int 0, .ref q2, .int 0, .ref q3, .null, .null, .null, .null, .null, .null, .null])), (q1, .inl (tc 8, (8 : Int).toNat, .inr (.inr (.inr (.inr (fun _ => none)))))), (q2, .inl (tc 7, (30 : Int).toNat, .inr (.inr (.inr (.inr (fun _ => none)))))), (q3, .inl (tc 2, (16 : Int).toNat, .inl (fun _ => 0))), (q4, .inl (tc 5, (4 : Int).toNat, .inr (.inr (.inr (.inr (fun _ => none))))))]) H := hw
  refine W.widen (k := 4) (n := 58) (by omega) (by omega) ?_
  refine nx_putF (ci := 8) hx hb hf8 ⟨tyX8_ok, nmX8⟩ hw hS 0 rfl 5 (by decide) lk27 rfl hnm rfl (tyX8_ok 5 (by decide)) rfl rfl (Nat.le_of_ble_eq_true rfl) dX8_init_35 (fun H locs hw hS => ?_)
  have hw : wx D tc base (ad, cnt, X, Y, ln) ([(h0, .inr (8, [.ref q1, .int 0, .ref q2, .int 0, .ref q3, .ref q4, .null, .null, .null, .null, .null, .null])), (q1, .inl (tc 8, (8 : Int).toNat, .inr (.inr (.inr (.inr (fun _ => none)))))), (q2, .inl (tc 7, (30 : Int).toNat, .inr (.inr (.inr (.inr (fun _ => none)))))), (q3, .inl (tc 2, (16 : Int).toNat, .inl (fun _ => 0))), (q4, .inl (tc 5, (4 : Int).toNat, .inr (.inr (.inr (.inr (fun _ => none))))))]) H := hw
  refine lv_aload_n hx hb dX8_init_38 rfl (lv_at hl 0 rfl) ?_
  refine nx_new (ci := 4) (fs := [.int 0, .null, .null, .null, .null, .null, .int 0, .null, .null]) hx hb hf4 ⟨tyX4_ok, nmX4⟩ (hts (.classLink RX8 25 RX4) (by first | exact gj_X8_init_0 _ (gp_4 (gp_4 (gp_1 gp_h))) | decide +kernel)) (hts (.instantiable RX4 9) (by first | exact gj_X8_init_0 _ (gp_4 (gp_4 (gp_1 (gp_1 (gp_1 gp_h))))) | decide +kernel)) (hts (.initialized RX4) (by first | exact gj_X8_init_0 _ (gp_4 (gp_4 (gp_4 gp_h))) | decide +kernel)) hw hS hbs (fun j hj => by rcases (show j = 0 ∨ j = 1 ∨ j = 2 ∨ j = 3 ∨ j = 4 ∨ j = 5 ∨ j = 6 ∨ j = 7 ∨ j = 8 by omega) with rfl | rfl | rfl | rfl | rfl | rfl | rfl | rfl | rfl <;> rfl) (by show _ ≤ (228 : Nat); omega) (by show _ ≤ (16184 : Nat); omega) dX8_init_39 (fun r1 H hw hS => ?_)
  refine lv_dup hx hb dX8_init_42 rfl ?_
  refine gos_x (run_IN (As := []) (rest := [.ref r1, .ref h0]) (host := RX8) hx hb hml hown hts (c_X4_init l D tc base (ad, cnt, X, Y, ln) ([(h0, .inr (8, [.ref q1, .int 0, .ref q2, .int 0, .ref q3, .ref q4, .null, .null, .null, .null, .null, .null])), (q1, .inl (tc 8, (8 : Int).toNat, .inr (.inr (.inr (.inr (fun _ => none)))))), (q2, .inl (tc 7, (30 : Int).toNat, .inr (.inr (.inr (.inr (fun _ => none)))))), (q3, .inl (tc 2, (16 : Int).toNat, .inl (fun _ => 0))), (q4, .inl (tc 5, (4 : Int).toNat, .inr (.inr (.inr (.inr (fun _ => none))))))]) r1) ⟨va_cnB 0 hts gX8_init_X4_init_n31 rfl rfl rfl hK.2.2.2.2.1.1 (hts (.initialized RX4) (by first | exact gj_X8_init_0 _ (gp_4 (gp_4 (gp_4 gp_h))) | decide +kernel)) (by decide +kernel) ⟨Nat.le_of_ble_eq_true rfl, Nat.le_of_ble_eq_true rfl⟩, rfl, hts (.instanceMethod yX4_init) (by first | exact gj_X8_init_1 _ (gp_4 gp_h) | decide +kernel)⟩ hK hw rfl hl.1 rfl (Nat.le_of_ble_eq_true rfl) dX8_init_43 ⟨by show _ ≤ (228 : Nat); omega, by show _ ≤ (16184 : Nat); omega⟩) hS (fun u9 E9 H locs p9 hw hS => ?_)
  obtain ⟨rfl, b1, b2, b3, b4, b5, b6, b7, rfl⟩ := p9
  refine W.widen (k := 12) (n := 2527) (by omega) (by omega) ?_
  have hw := growz (KS := [7, 8, 9, 10, 11, 12, 13, 14]) (n := 0) (f := fun k => if k = 7 then r1 else if k = 8 then b1 else if k = 9 then b2 else if k = 10 then b3 else if k = 11 then b4 else if k = 12 then b5 else if k = 13 then b6 else b7) hw (by omega) hSI.1 (by decide) hOw hz rfl
  have har1 : up2 ad [7, 8, 9, 10, 11, 12, 13, 14] 0 (fun k => if k = 7 then r1 else if k = 8 then b1 else if k = 9 then b2 else if k = 10 then b3 else if k = 11 then b4 else if k = 12 then b5 else if k = 13 then b6 else b7) 7 0 = r1 := by rw [up2_s (by decide)]; rfl
  have hSI := hSI.up7
  have hOw := hOw.up (KS := [7, 8, 9, 10, 11, 12, 13, 14]) (by decide +kernel) (by decide +kernel)
  have hz := hz.up (KS := [7, 8, 9, 10, 11, 12, 13, 14])
  generalize hg1 : up2 ad [7, 8, 9, 10, 11, 12, 13, 14] 0 (fun k => if k = 7 then r1 else if k = 8 then b1 else if k = 9 then b2 else if k = 10 then b3 else if k = 11 then b4 else if k = 12 then b5 else if k = 13 then b6 else b7) = ad1 at hw har1
  generalize upc cnt [7, 8, 9, 10, 11, 12, 13, 14] = cnt1 at hw hSI hOw hz
  clear hg1
  skip
  obtain ⟨ad, had⟩ : ∃ a, a = ad1 := ⟨_, rfl⟩
  obtain ⟨cnt, hcnt⟩ : ∃ a, a = cnt1 := ⟨_, rfl⟩
  rw [← had] at hw har1
  rw [← hcnt] at hw hSI hOw hz
  clear had hcnt
  have hw : wx D tc base (ad, cnt, X, Y, ln) ([(h0, .inr (8, [.ref q1, .int 0, .ref q2, .int 0, .ref q3, .ref q4, .null, .null, .null, .null, .null, .null])), (q1, .inl (tc 8, (8 : Int).toNat, .inr (.inr (.inr (.inr (fun _ => none)))))), (q2, .inl (tc 7, (30 : Int).toNat, .inr (.inr (.inr (.inr (fun _ => none)))))), (q3, .inl (tc 2, (16 : Int).toNat, .inl (fun _ => 0))), (q4, .inl (tc 5, (4 : Int).toNat, .inr (.inr (.inr (.inr (fun _ => none))))))]) H := hw
  refine nx_put (ci := 8) hx hb hf8 ⟨tyX8_ok, nmX8⟩ hw hS 0 rfl 6 (by decide) lk32 rfl (tyX8_ok 6 (by decide)) rfl rfl (Nat.le_of_ble_eq_true rfl) dX8_init_46 (fun H locs hw hS => ?_)
  have hw : wx D tc base (ad, cnt, X, Y, ln) ([(h0, .inr (8, [.ref q1, .int 0, .ref q2, .int 0, .ref q3, .ref q4, .ref r1, .null, .null, .null, .null, .null])), (q1, .inl (tc 8, (8 : Int).toNat, .inr (.inr (.inr (.inr (fun _ => none)))))), (q2, .inl (tc 7, (30 : Int).toNat, .inr (.inr (.inr (.inr (fun _ => none)))))), (q3, .inl (tc 2, (16 : Int).toNat, .inl (fun _ => 0))), (q4, .inl (tc 5, (4 : Int).toNat, .inr (.inr (.inr (.inr (fun _ => none))))))]) H := hw
  refine lv_aload_n hx hb dX8_init_49 rfl (lv_at hl 0 rfl) ?_
  refine nx_new (ci := 4) (fs := [.int 0, .null, .null, .null, .null, .null, .int 0, .null, .null]) hx hb hf4 ⟨tyX4_ok, nmX4⟩ (hts (.classLink RX8 25 RX4) (by first | exact gj_X8_init_0 _ (gp_4 (gp_4 (gp_1 gp_h))) | decide +kernel)) (hts (.instantiable RX4 9) (by first | exact gj_X8_init_0 _ (gp_4 (gp_4 (gp_1 (gp_1 (gp_1 gp_h))))) | decide +kernel)) (hts (.initialized RX4) (by first | exact gj_X8_init_0 _ (gp_4 (gp_4 (gp_4 gp_h))) | decide +kernel)) hw hS hbs (fun j hj => by rcases (show j = 0 ∨ j = 1 ∨ j = 2 ∨ j = 3 ∨ j = 4 ∨ j = 5 ∨ j = 6 ∨ j = 7 ∨ j = 8 by omega) with rfl | rfl | rfl | rfl | rfl | rfl | rfl | rfl | rfl <;> rfl) (by show _ ≤ (228 : Nat); omega) (by show _ ≤ (16184 : Nat); omega) dX8_init_50 (fun r2 H hw hS => ?_)
  refine lv_dup hx hb dX8_init_53 rfl ?_
  refine gos_x (run_IN (As := []) (rest := [.ref r2, .ref h0]) (host := RX8) hx hb hml hown hts (c_X4_init l D tc base (ad, cnt, X, Y, ln) ([(h0, .inr (8, [.ref q1, .int 0, .ref q2, .int 0, .ref q3, .ref q4, .ref r1, .null, .null, .null, .null, .null])), (q1, .inl (tc 8, (8 : Int).toNat, .inr (.inr (.inr (.inr (fun _ => none)))))), (q2, .inl (tc 7, (30 : Int).toNat, .inr (.inr (.inr (.inr (fun _ => none)))))), (q3, .inl (tc 2, (16 : Int).toNat, .inl (fun _ => 0))), (q4, .inl (tc 5, (4 : Int).toNat, .inr (.inr (.inr (.inr (fun _ => none))))))]) r2) ⟨va_cnB 0 hts gX8_init_X4_init_n31 rfl rfl rfl hK.2.2.2.2.1.1 (hts (.initialized RX4) (by first | exact gj_X8_init_0 _ (gp_4 (gp_4 (gp_4 gp_h))) | decide +kernel)) (by decide +kernel) ⟨Nat.le_of_ble_eq_true rfl, Nat.le_of_ble_eq_true rfl⟩, rfl, hts (.instanceMethod yX4_init) (by first | exact gj_X8_init_1 _ (gp_4 gp_h) | decide +kernel)⟩ hK hw rfl hl.1 rfl (Nat.le_of_ble_eq_true rfl) dX8_init_54 ⟨by show _ ≤ (228 : Nat); omega, by show _ ≤ (16184 : Nat); omega⟩) hS (fun u9 E9 H locs p9 hw hS => ?_)
  obtain ⟨rfl, b1, b2, b3, b4, b5, b6, b7, rfl⟩ := p9
  refine W.widen (k := 20) (n := 4996) (by omega) (by omega) ?_
  have hw := growz (KS := [7, 8, 9, 10, 11, 12, 13, 14]) (n := 1) (f := fun k => if k = 7 then r2 else if k = 8 then b1 else if k = 9 then b2 else if k = 10 then b3 else if k = 11 then b4 else if k = 12 then b5 else if k = 13 then b6 else b7) hw (by omega) hSI.1 (by decide) hOw hz rfl
  have har2 : up2 ad [7, 8, 9, 10, 11, 12, 13, 14] 1 (fun k => if k = 7 then r2 else if k = 8 then b1 else if k = 9 then b2 else if k = 10 then b3 else if k = 11 then b4 else if k = 12 then b5 else if k = 13 then b6 else b7) 7 1 = r2 := by rw [up2_s (by decide)]; rfl
  have har1 : up2 ad [7, 8, 9, 10, 11, 12, 13, 14] 1 (fun k => if k = 7 then r2 else if k = 8 then b1 else if k = 9 then b2 else if k = 10 then b3 else if k = 11 then b4 else if k = 12 then b5 else if k = 13 then b6 else b7) 7 0 = r1 := by rw [up2_n (by decide)]; exact har1
  have hSI := hSI.up7
  have hOw := hOw.up (KS := [7, 8, 9, 10, 11, 12, 13, 14]) (by decide +kernel) (by decide +kernel)
  have hz := hz.up (KS := [7, 8, 9, 10, 11, 12, 13, 14])
  generalize hg1 : up2 ad [7, 8, 9, 10, 11, 12, 13, 14] 1 (fun k => if k = 7 then r2 else if k = 8 then b1 else if k = 9 then b2 else if k = 10 then b3 else if k = 11 then b4 else if k = 12 then b5 else if k = 13 then b6 else b7) = ad1 at hw har1 har2
  generalize upc cnt [7, 8, 9, 10, 11, 12, 13, 14] = cnt1 at hw hSI hOw hz
  clear hg1
  skip
  obtain ⟨ad, had⟩ : ∃ a, a = ad1 := ⟨_, rfl⟩
  obtain ⟨cnt, hcnt⟩ : ∃ a, a = cnt1 := ⟨_, rfl⟩
  rw [← had] at hw har1 har2
  rw [← hcnt] at hw hSI hOw hz
  clear had hcnt
  have hw : wx D tc base (ad, cnt, X, Y, ln) ([(h0, .inr (8, [.ref q1, .int 0, .ref q2, .int 0, .ref q3, .ref q4, .ref r1, .null, .null, .null, .null, .null])), (q1, .inl (tc 8, (8 : Int).toNat, .inr (.inr (.inr (.inr (fun _ => none)))))), (q2, .inl (tc 7, (30 : Int).toNat, .inr (.inr (.inr (.inr (fun _ => none)))))), (q3, .inl (tc 2, (16 : Int).toNat, .inl (fun _ => 0))), (q4, .inl (tc 5, (4 : Int).toNat, .inr (.inr (.inr (.inr (fun _ => none))))))]) H := hw
  refine nx_putF (ci := 8) hx hb hf8 ⟨tyX8_ok, nmX8⟩ hw hS 0 rfl 7 (by decide) lk36 rfl hnm rfl (tyX8_ok 7 (by decide)) rfl rfl (Nat.le_of_ble_eq_true rfl) dX8_init_57 (fun H locs hw hS => ?_)
  have hw : wx D tc base (ad, cnt, X, Y, ln) ([(h0, .inr (8, [.ref q1, .int 0, .ref q2, .int 0, .ref q3, .ref q4, .ref r1, .ref r2, .null, .null, .null, .null])), (q1, .inl (tc 8, (8 : Int).toNat, .inr (.inr (.inr (.inr (fun _ => none)))))), (q2, .inl (tc 7, (30 : Int).toNat, .inr (.inr (.inr (.inr (fun _ => none)))))), (q3, .inl (tc 2, (16 : Int).toNat, .inl (fun _ => 0))), (q4, .inl (tc 5, (4 : Int).toNat, .inr (.inr (.inr (.inr (fun _ => none))))))]) H := hw
  refine lv_aload_n hx hb dX8_init_60 rfl (lv_at hl 0 rfl) ?_
  refine lv_bipush (v := jI 30) hx hb dX8_init_61 (by decide) ?_
  refine nx_newq (t := 7) (z := 30) hx hb hown (hts (.classLink RX8 15 RX6) (by first | exact gj_X8_init_0 _ (gp_4 (gp_1 gp_h)) | decide +kernel)) hK.2.2.2.2.2.2.2.2.2.1 hK.1 rfl hw hS hbs (by omega) (by omega) (show 20 + 1 ≤ 228 by omega) (show 4996 + (30 : Int).toNat ≤ 16184 by omega) dX8_init_63 (fun q5 H hw hS => ?_)
  have hw : wx D tc base (ad, cnt, X, Y, ln) ([(h0, .inr (8, [.ref q1, .int 0, .ref q2, .int 0, .ref q3, .ref q4, .ref r1, .ref r2, .null, .null, .null, .null])), (q1, .inl (tc 8, (8 : Int).toNat, .inr (.inr (.inr (.inr (fun _ => none)))))), (q2, .inl (tc 7, (30 : Int).toNat, .inr (.inr (.inr (.inr (fun _ => none)))))), (q3, .inl (tc 2, (16 : Int).toNat, .inl (fun _ => 0))), (q4, .inl (tc 5, (4 : Int).toNat, .inr (.inr (.inr (.inr (fun _ => none)))))), (q5, .inl (tc 7, (30 : Int).toNat, .inr (.inr (.inr (.inr (fun _ => none))))))]) H := hw
  refine W.widen (k := 21) (n := 5026) (by omega) (by omega) ?_
  refine nx_putF (ci := 8) hx hb hf8 ⟨tyX8_ok, nmX8⟩ hw hS 0 rfl 8 (by decide) lk39 rfl hnm rfl (tyX8_ok 8 (by decide)) rfl rfl (Nat.le_of_ble_eq_true rfl) dX8_init_66 (fun H locs hw hS => ?_)
  have hw : wx D tc base (ad, cnt, X, Y, ln) ([(h0, .inr (8, [.ref q1, .int 0, .ref q2, .int 0, .ref q3, .ref q4, .ref r1, .ref r2, .ref q5, .null, .null, .null])), (q1, .inl (tc 8, (8 : Int).toNat, .inr (.inr (.inr (.inr (fun _ => none)))))), (q2, .inl (tc 7, (30 : Int).toNat, .inr (.inr (.inr (.inr (fun _ => none)))))), (q3, .inl (tc 2, (16 : Int).toNat, .inl (fun _ => 0))), (q4, .inl (tc 5, (4 : Int).toNat, .inr (.inr (.inr (.inr (fun _ => none)))))), (q5, .inl (tc 7, (30 : Int).toNat, .inr (.inr (.inr (.inr (fun _ => none))))))]) H := hw
  refine lv_aload_n hx hb dX8_init_69 rfl (lv_at hl 0 rfl) ?_
  refine lv_sipush (v := jI 450) hx hb dX8_init_70 (by decide) ?_
  refine nx_newq (t := 6) (z := 450) hx hb hown (hts (.classLink RX8 42 RX5) (by first | exact gj_X8_init_0 _ (gp_16 gp_h) | decide +kernel)) hK.2.2.2.2.2.2.2.2.1 hK.1 rfl hw hS hbs (by omega) (by omega) (show 21 + 1 ≤ 228 by omega) (show 5026 + (450 : Int).toNat ≤ 16184 by omega) dX8_init_73 (fun q6 H hw hS => ?_)
  have hw : wx D tc base (ad, cnt, X, Y, ln) ([(h0, .inr (8, [.ref q1, .int 0, .ref q2, .int 0, .ref q3, .ref q4, .ref r1, .ref r2, .ref q5, .null, .null, .null])), (q1, .inl (tc 8, (8 : Int).toNat, .inr (.inr (.inr (.inr (fun _ => none)))))), (q2, .inl (tc 7, (30 : Int).toNat, .inr (.inr (.inr (.inr (fun _ => none)))))), (q3, .inl (tc 2, (16 : Int).toNat, .inl (fun _ => 0))), (q4, .inl (tc 5, (4 : Int).toNat, .inr (.inr (.inr (.inr (fun _ => none)))))), (q5, .inl (tc 7, (30 : Int).toNat, .inr (.inr (.inr (.inr (fun _ => none)))))), (q6, .inl (tc 6, (450 : Int).toNat, .inr (.inr (.inr (.inr (fun _ => none))))))]) H := hw
  refine W.widen (k := 22) (n := 5476) (by omega) (by omega) ?_
  refine nx_putF (ci := 8) hx hb hf8 ⟨tyX8_ok, nmX8⟩ hw hS 0 rfl 9 (by decide) lk44 rfl hnm rfl (tyX8_ok 9 (by decide)) rfl rfl (Nat.le_of_ble_eq_true rfl) dX8_init_76 (fun H locs hw hS => ?_)
  have hw : wx D tc base (ad, cnt, X, Y, ln) ([(h0, .inr (8, [.ref q1, .int 0, .ref q2, .int 0, .ref q3, .ref q4, .ref r1, .ref r2, .ref q5, .ref q6, .null, .null])), (q1, .inl (tc 8, (8 : Int).toNat, .inr (.inr (.inr (.inr (fun _ => none)))))), (q2, .inl (tc 7, (30 : Int).toNat, .inr (.inr (.inr (.inr (fun _ => none)))))), (q3, .inl (tc 2, (16 : Int).toNat, .inl (fun _ => 0))), (q4, .inl (tc 5, (4 : Int).toNat, .inr (.inr (.inr (.inr (fun _ => none)))))), (q5, .inl (tc 7, (30 : Int).toNat, .inr (.inr (.inr (.inr (fun _ => none)))))), (q6, .inl (tc 6, (450 : Int).toNat, .inr (.inr (.inr (.inr (fun _ => none))))))]) H := hw
  refine lv_aload_n hx hb dX8_init_79 rfl (lv_at hl 0 rfl) ?_
  refine nx_new (ci := 2) (fs := [.null, .int 0, .null, .int 0]) hx hb hf2 ⟨tyX2_ok, nmX2⟩ (hts (.classLink RX8 48 RX2) (by first | exact gj_X8_init_0 _ (gp_16 (gp_1 (gp_1 gp_h))) | decide +kernel)) (hts (.instantiable RX2 4) (by first | exact gj_X8_init_0 _ (gp_16 (gp_1 (gp_1 (gp_1 gp_h)))) | decide +kernel)) (hts (.initialized RX2) (by first | exact gj_X8_init_0 _ (gp_16 (gp_4 gp_h)) | decide +kernel)) hw hS hbs (fun j hj => by rcases (show j = 0 ∨ j = 1 ∨ j = 2 ∨ j = 3 by omega) with rfl | rfl | rfl | rfl <;> rfl) (by show _ ≤ (228 : Nat); omega) (by show _ ≤ (16184 : Nat); omega) dX8_init_80 (fun jq H hw hS => ?_)
  refine lv_dup hx hb dX8_init_83 rfl ?_
  refine gos_x (run_I (As := []) (rest := [.ref jq, .ref h0]) hx hb hml hown hts (c_X2_init l D tc base ad cnt X Y ln ([(h0, .inr (8, [.ref q1, .int 0, .ref q2, .int 0, .ref q3, .ref q4, .ref r1, .ref r2, .ref q5, .ref q6, .null, .null])), (q1, .inl (tc 8, (8 : Int).toNat, .inr (.inr (.inr (.inr (fun _ => none)))))), (q2, .inl (tc 7, (30 : Int).toNat, .inr (.inr (.inr (.inr (fun _ => none)))))), (q3, .inl (tc 2, (16 : Int).toNat, .inl (fun _ => 0))), (q4, .inl (tc 5, (4 : Int).toNat, .inr (.inr (.inr (.inr (fun _ => none)))))), (q5, .inl (tc 7, (30 : Int).toNat, .inr (.inr (.inr (.inr (fun _ => none)))))), (q6, .inl (tc 6, (450 : Int).toNat, .inr (.inr (.inr (.inr (fun _ => none))))))]) jq hOw hz hSI.2.2.1 (hSI.2.2.2.1 29 (by decide)) (hSI.2.2.2.1 30 (by decide)) (hSI.2.2.2.1 31 (by decide))) (cwI 0 hts gX8_init_X2_init rfl rfl rfl (hts (.initialized RX2) (by first | exact gj_X8_init_0 _ (gp_16 (gp_4 gp_h)) | decide +kernel)) (hts (.methodLink RX8 50 yX2_init) (by first | exact gj_X8_init_1 _ (gp_16 gp_h) | decide +kernel)) (hts (.instanceMethod yX2_init) (by first | exact gj_X8_init_1 _ (gp_16 (gp_1 gp_h)) | decide +kernel)) rfl (by decide +kernel) ⟨Nat.le_of_ble_eq_true rfl, Nat.le_of_ble_eq_true rfl⟩) hK hw rfl hl.1 rfl (Nat.le_of_ble_eq_true rfl) dX8_init_84 ⟨by show _ ≤ (228 : Nat); omega, by show _ ≤ (16184 : Nat); omega⟩) hS (fun u9 E9 H locs p9 hw hS => ?_)
  obtain ⟨ad1, cnt1, Y1, rfl, rfl, hajq, j2, ⟨c28, c29, c30, c31⟩, j4, j5, j6, hOw, hz⟩ := p9
  refine W.widen (k := 105) (n := 5884) (by omega) (by omega) ?_
  have har1 : ad1 7 0 = r1 := by rw [j2 _ _ (by decide)]; exact har1
  have har2 : ad1 7 1 = r2 := by rw [j2 _ _ (by decide)]; exact har2
  have hSI : SI 2 0 80 1 0 0 cnt1 := ⟨fun k hk => by rw [j4 k (mem_ne (by decide) hk)]; exact hSI.1 k hk, fun k hk => by rw [j4 k (mem_ne (by decide) hk)]; exact hSI.2.1 k hk, c28, fun k hk => by simp only [List.mem_cons, List.not_mem_nil, or_false] at hk; rcases hk with rfl | rfl | rfl <;> assumption, by rw [j4 32 (by decide)]; exact hSI.2.2.2.2.1, fun k hk => by rw [j4 k (mem_ne (by decide) hk)]; exact hSI.2.2.2.2.2.1 k hk, fun k hk => by rw [j4 k (fun q => hk (mem_sub (by decide) q))]; exact hSI.2.2.2.2.2.2 k hk⟩
  have hY : ∀ k i j, k ≠ 30 → Y1 k i j = none := fun k i j h => by rw [j6 k i j h]; exact hY k i j
  obtain ⟨ad, had⟩ : ∃ a, a = ad1 := ⟨_, rfl⟩
  obtain ⟨cnt, hcnt⟩ : ∃ a, a = cnt1 := ⟨_, rfl⟩
  obtain ⟨Y, hY9⟩ : ∃ a, a = Y1 := ⟨_, rfl⟩
  rw [← had] at hw har1 har2 hajq
  rw [← hcnt] at hw hSI hOw hz
  rw [← hY9] at hw hY hz j5
  clear had hcnt hY9 j2 j4 j6 c28 c29 c30 c31
  have hw : wx D tc base (ad, cnt, X, Y, ln) ([(h0, .inr (8, [.ref q1, .int 0, .ref q2, .int 0, .ref q3, .ref q4, .ref r1, .ref r2, .ref q5, .ref q6, .null, .null])), (q1, .inl (tc 8, (8 : Int).toNat, .inr (.inr (.inr (.inr (fun _ => none)))))), (q2, .inl (tc 7, (30 : Int).toNat, .inr (.inr (.inr (.inr (fun _ => none)))))), (q3, .inl (tc 2, (16 : Int).toNat, .inl (fun _ => 0))), (q4, .inl (tc 5, (4 : Int).toNat, .inr (.inr (.inr (.inr (fun _ => none)))))), (q5, .inl (tc 7, (30 : Int).toNat, .inr (.inr (.inr (.inr (fun _ => none)))))), (q6, .inl (tc 6, (450 : Int).toNat, .inr (.inr (.inr (.inr (fun _ => none))))))]) H := hw
  refine nx_putF (ci := 8) hx hb hf8 ⟨tyX8_ok, nmX8⟩ hw hS 0 rfl 10 (by decide) lk51 rfl hnm rfl (tyX8_ok 10 (by decide)) rfl rfl (Nat.le_of_ble_eq_true rfl) dX8_init_87 (fun H locs hw hS => ?_)
  have hw : wx D tc base (ad, cnt, X, Y, ln) ([(h0, .inr (8, [.ref q1, .int 0, .ref q2, .int 0, .ref q3, .ref q4, .ref r1, .ref r2, .ref q5, .ref q6, .ref jq, .null])), (q1, .inl (tc 8, (8 : Int).toNat, .inr (.inr (.inr (.inr (fun _ => none)))))), (q2, .inl (tc 7, (30 : Int).toNat, .inr (.inr (.inr (.inr (fun _ => none)))))), (q3, .inl (tc 2, (16 : Int).toNat, .inl (fun _ => 0))), (q4, .inl (tc 5, (4 : Int).toNat, .inr (.inr (.inr (.inr (fun _ => none)))))), (q5, .inl (tc 7, (30 : Int).toNat, .inr (.inr (.inr (.inr (fun _ => none)))))), (q6, .inl (tc 6, (450 : Int).toNat, .inr (.inr (.inr (.inr (fun _ => none))))))]) H := hw
  refine lv_aload_n hx hb dX8_init_90 rfl (lv_at hl 0 rfl) ?_
  refine nx_new (ci := 1) (fs := [.int 0, .int 0, .int 0, .int 0]) hx hb hf1 ⟨tyX1_ok, nmX1⟩ (hts (.classLink RX8 55 RX1) (by first | exact gj_X8_init_0 _ (gp_16 (gp_4 (gp_1 (gp_1 gp_h)))) | decide +kernel)) (hts (.instantiable RX1 4) (by first | exact gj_X8_init_0 _ (gp_16 (gp_4 (gp_1 (gp_1 (gp_1 gp_h))))) | decide +kernel)) (hts (.initialized RX1) (by first | exact gj_X8_init_1 _ (gp_h) | decide +kernel)) hw hS hbs (fun j hj => by rcases (show j = 0 ∨ j = 1 ∨ j = 2 ∨ j = 3 by omega) with rfl | rfl | rfl | rfl <;> rfl) (by show _ ≤ (228 : Nat); omega) (by show _ ≤ (16184 : Nat); omega) dX8_init_91 (fun fq H hw hS => ?_)
  refine lv_dup hx hb dX8_init_94 rfl ?_
  refine gos_x (run_IN (As := []) (rest := [.ref fq, .ref h0]) (host := RX8) hx hb hml hown hts (c_X1_init l D tc base (ad, cnt, X, Y, ln) ([(h0, .inr (8, [.ref q1, .int 0, .ref q2, .int 0, .ref q3, .ref q4, .ref r1, .ref r2, .ref q5, .ref q6, .ref jq, .null])), (q1, .inl (tc 8, (8 : Int).toNat, .inr (.inr (.inr (.inr (fun _ => none)))))), (q2, .inl (tc 7, (30 : Int).toNat, .inr (.inr (.inr (.inr (fun _ => none)))))), (q3, .inl (tc 2, (16 : Int).toNat, .inl (fun _ => 0))), (q4, .inl (tc 5, (4 : Int).toNat, .inr (.inr (.inr (.inr (fun _ => none)))))), (q5, .inl (tc 7, (30 : Int).toNat, .inr (.inr (.inr (.inr (fun _ => none)))))), (q6, .inl (tc 6, (450 : Int).toNat, .inr (.inr (.inr (.inr (fun _ => none))))))]) fq) ⟨va_cnB 0 hts gX8_init_X1_init_n57 rfl rfl rfl hK.2.2.2.2.1.2.1 (hts (.initialized RX1) (by first | exact gj_X8_init_1 _ (gp_h) | decide +kernel)) (by decide +kernel) ⟨Nat.le_of_ble_eq_true rfl, Nat.le_of_ble_eq_true rfl⟩, rfl, hts (.instanceMethod yX1_init) (by first | exact gj_X8_init_2 _ (gp_4 gp_h) | decide +kernel)⟩ hK hw rfl hl.1 rfl (Nat.le_of_ble_eq_true rfl) dX8_init_95 ⟨by show _ ≤ (228 : Nat); omega, by show _ ≤ (16184 : Nat); omega⟩) hS (fun u9 E9 H locs p9 hw hS => ?_)
  obtain ⟨rfl, rfl⟩ := p9
  refine W.widen (k := 106) (n := 5888) (by omega) (by omega) ?_
  have hw := growz (KS := [32]) (n := 0) (f := fun _ => fq) hw (by omega) (fun k hk => by rw [List.mem_singleton.mp hk]; exact hSI.2.2.2.2.1) (by decide) hOw hz rfl
  have hafq : up2 ad [32] 0 (fun _ => fq) 32 0 = fq := up2_s (by decide)
  have har1 : up2 ad [32] 0 (fun _ => fq) 7 0 = r1 := by rw [up2_k (by decide)]; exact har1
  have har2 : up2 ad [32] 0 (fun _ => fq) 7 1 = r2 := by rw [up2_k (by decide)]; exact har2
  have hajq : up2 ad [32] 0 (fun _ => fq) 29 0 = jq := by rw [up2_k (by decide)]; exact hajq
  have hSI := hSI.up32
  have hOw := hOw.up (KS := [32]) (by decide +kernel) (by decide +kernel)
  have hz := hz.up (KS := [32])
  generalize up2 ad [32] 0 (fun _ => fq) = ad1 at hw har1 har2 hajq hafq
  generalize upc cnt [32] = cnt1 at hw hSI hOw hz
  obtain ⟨ad, had⟩ : ∃ a, a = ad1 := ⟨_, rfl⟩
  obtain ⟨cnt, hcnt⟩ : ∃ a, a = cnt1 := ⟨_, rfl⟩
  rw [← had] at hw har1 har2 hajq hafq
  rw [← hcnt] at hw hSI hOw hz
  clear had hcnt
  have hw : wx D tc base (ad, cnt, X, Y, ln) ([(h0, .inr (8, [.ref q1, .int 0, .ref q2, .int 0, .ref q3, .ref q4, .ref r1, .ref r2, .ref q5, .ref q6, .ref jq, .null])), (q1, .inl (tc 8, (8 : Int).toNat, .inr (.inr (.inr (.inr (fun _ => none)))))), (q2, .inl (tc 7, (30 : Int).toNat, .inr (.inr (.inr (.inr (fun _ => none)))))), (q3, .inl (tc 2, (16 : Int).toNat, .inl (fun _ => 0))), (q4, .inl (tc 5, (4 : Int).toNat, .inr (.inr (.inr (.inr (fun _ => none)))))), (q5, .inl (tc 7, (30 : Int).toNat, .inr (.inr (.inr (.inr (fun _ => none)))))), (q6, .inl (tc 6, (450 : Int).toNat, .inr (.inr (.inr (.inr (fun _ => none))))))]) H := hw
  refine nx_putF (ci := 8) hx hb hf8 ⟨tyX8_ok, nmX8⟩ hw hS 0 rfl 11 (by decide) lk58 rfl hnm rfl (tyX8_ok 11 (by decide)) rfl rfl (Nat.le_of_ble_eq_true rfl) dX8_init_98 (fun H locs hw hS => ?_)
  have hw : wx D tc base (ad, cnt, X, Y, ln) ([(h0, .inr (8, [.ref q1, .int 0, .ref q2, .int 0, .ref q3, .ref q4, .ref r1, .ref r2, .ref q5, .ref q6, .ref jq, .ref fq])), (q1, .inl (tc 8, (8 : Int).toNat, .inr (.inr (.inr (.inr (fun _ => none)))))), (q2, .inl (tc 7, (30 : Int).toNat, .inr (.inr (.inr (.inr (fun _ => none)))))), (q3, .inl (tc 2, (16 : Int).toNat, .inl (fun _ => 0))), (q4, .inl (tc 5, (4 : Int).toNat, .inr (.inr (.inr (.inr (fun _ => none)))))), (q5, .inl (tc 7, (30 : Int).toNat, .inr (.inr (.inr (.inr (fun _ => none)))))), (q6, .inl (tc 6, (450 : Int).toNat, .inr (.inr (.inr (.inr (fun _ => none))))))]) H := hw
  obtain ⟨ad1, cnt1, Y1, hw, hO⟩ := born_obj hw hX hY j5 hSI hOw hz har1 har2 hajq hafq
  have lp3 : ∀ (nn : Nat) (n : Int) (ad : Nat → Int → Nat) (cnt : Nat → Int) (X : Nat → Int → Int → Int) (Y : Nat → Int → Int → Option Int) (cl sl : Nat) (H : Heap) (locs : List Loc) (ls : Array Slot), 4 - n < (nn : Int) → 0 ≤ n ∧ n ≤ 4 → OI 30 16 n h0 ad cnt X Y → (cl : Int) ≤ 196 + 8 * n ∧ (sl : Int) ≤ 6308 + 2469 * n → wx D tc base (ad, cnt, X, Y, ln) [] H → va_S (frA base) s.heap H locs → lv_has ls 2 [(1, .int (jI n)), (0, .ref h0)] → W p l e ({ frames := 3, cells := 228, slots := 16184, locals := 60 } : Room) s m ([.ref h0] : List Value).toArray below meth c H locs cl sl (MQ below (QX D tc base (fun u' E' => ∃ (ad1 : Nat → Int → Nat) (cnt1 : Nat → Int) (X1 : Nat → Int → Int → Int) (Y1 : Nat → Int → Int → Option Int), u' = (ad1, cnt1, X1, Y1, ln) ∧ E' = [] ∧ OI 30 16 4 h0 ad1 cnt1 X1 Y1)) ([.ref h0] : List Value).toArray s 228 16184 (frA base)) (F0 m 151 ls []) := by
    intro nn
    induction nn with
    | zero => intro n ad cnt X Y cl sl H locs ls hm hn; exfalso; omega
    | succ nn ih =>
      intro n ad cnt X Y cl sl H locs ls hm hn hO hcl hw hS hl
      obtain ⟨o1, hSI, o3, o4, o5, o6, o7, hOw, hz⟩ := hO
      refine lv_iload_n hx hb dX8_init_151 rfl (lv_at hl 0 rfl) ?_
      refine lv_iconst (v := jI 4) hx hb dX8_init_152 rfl ?_
      refine x_icmp_ge (tgt := 175) hx hb (by omega) (by omega) dX8_init_153 (by decide) (fun hc => ?_) (fun hc => ?_)
      · have e4 : n = 4 := by omega
        subst e4
        exact ret_x hx hb hr hlocks hw hS (by omega) (by omega) dX8_init_175 ⟨ad, cnt, X, Y, rfl, rfl, o1, hSI, o3, o4, o5, o6, o7, hOw, hz⟩
      · have c0 : cnt 0 = 1 := hSI.2.2.2.2.2.1 0 (by decide)
        have c4 : cnt 4 = 1 := hSI.2.2.2.2.2.1 4 (by decide)
        refine lv_aload_n hx hb dX8_init_156 rfl (lv_at hl 1 rfl) ?_
        refine W.eq (g2 := F0 m 157 ls [.ref (ad 0 0)]) (by rw [o1]) ?_
        refine x_geto hx hb hf8 (wx_wd hw) (by omega) (by omega) sl_0_5 lk27 dX8_init_157 ?_
        refine lv_iload_n hx hb dX8_init_160 rfl (lv_at hl 0 rfl) ?_
        refine nx_new (ci := 4) (fs := [.int 0, .null, .null, .null, .null, .null, .int 0, .null, .null]) hx hb hf4 ⟨tyX4_ok, nmX4⟩ (hts (.classLink RX8 25 RX4) (by first | exact gj_X8_init_0 _ (gp_4 (gp_4 (gp_1 gp_h))) | decide +kernel)) (hts (.instantiable RX4 9) (by first | exact gj_X8_init_0 _ (gp_4 (gp_4 (gp_1 (gp_1 (gp_1 gp_h))))) | decide +kernel)) (hts (.initialized RX4) (by first | exact gj_X8_init_0 _ (gp_4 (gp_4 (gp_4 gp_h))) | decide +kernel)) hw hS hbs (fun j hj => by rcases (show j = 0 ∨ j = 1 ∨ j = 2 ∨ j = 3 ∨ j = 4 ∨ j = 5 ∨ j = 6 ∨ j = 7 ∨ j = 8 by omega) with rfl | rfl | rfl | rfl | rfl | rfl | rfl | rfl | rfl <;> rfl) (by show _ ≤ (228 : Nat); omega) (by show _ ≤ (16184 : Nat); omega) dX8_init_161 (fun q H hw hS => ?_)
        refine lv_dup hx hb dX8_init_164 rfl ?_
        refine gos_x (run_IN (As := []) (rest := [.ref q, .int (jI n), .ref (ad 4 0)]) (host := RX8) hx hb hml hown hts (c_X4_init l D tc base (ad, cnt, X, Y, ln) [] q) ⟨va_cnB 0 hts gX8_init_X4_init_n31 rfl rfl rfl hK.2.2.2.2.1.1 (hts (.initialized RX4) (by first | exact gj_X8_init_0 _ (gp_4 (gp_4 (gp_4 gp_h))) | decide +kernel)) (by decide +kernel) ⟨Nat.le_of_ble_eq_true rfl, Nat.le_of_ble_eq_true rfl⟩, rfl, hts (.instanceMethod yX4_init) (by first | exact gj_X8_init_1 _ (gp_4 gp_h) | decide +kernel)⟩ hK hw rfl hl.1 rfl (Nat.le_of_ble_eq_true rfl) dX8_init_165 ⟨by show _ ≤ (228 : Nat); omega, by show _ ≤ (16184 : Nat); omega⟩) hS (fun u9 E9 H locs p9 hw hS => ?_)
        obtain ⟨rfl, b1, b2, b3, b4, b5, b6, b7, rfl⟩ := p9
        have hw := growz2 (KS := [7, 8, 9, 10, 11, 12, 13, 14]) (n := 2 + n) (f := fun k => if k = 7 then q else if k = 8 then b1 else if k = 9 then b2 else if k = 10 then b3 else if k = 11 then b4 else if k = 12 then b5 else if k = 13 then b6 else b7) hw (by omega) hSI.1 (by decide) hOw hz (by decide +kernel) rfl
        have ha7 : up2 ad [7, 8, 9, 10, 11, 12, 13, 14] (2 + n) (fun k => if k = 7 then q else if k = 8 then b1 else if k = 9 then b2 else if k = 10 then b3 else if k = 11 then b4 else if k = 12 then b5 else if k = 13 then b6 else b7) 7 (2 + n) = q := by rw [up2_s (by decide)]; rfl
        have ha4 : up2 ad [7, 8, 9, 10, 11, 12, 13, 14] (2 + n) (fun k => if k = 7 then q else if k = 8 then b1 else if k = 9 then b2 else if k = 10 then b3 else if k = 11 then b4 else if k = 12 then b5 else if k = 13 then b6 else b7) 4 0 = ad 4 0 := by rw [up2_k (by decide)]
        have ha0 : up2 ad [7, 8, 9, 10, 11, 12, 13, 14] (2 + n) (fun k => if k = 7 then q else if k = 8 then b1 else if k = 9 then b2 else if k = 10 then b3 else if k = 11 then b4 else if k = 12 then b5 else if k = 13 then b6 else b7) 0 0 = h0 := by rw [up2_k (by decide)]; exact o1
        have hSI := hSI.up7
        have hOw := hOw.up (KS := [7, 8, 9, 10, 11, 12, 13, 14]) (by decide +kernel) (by decide +kernel)
        have hz := hz.up (KS := [7, 8, 9, 10, 11, 12, 13, 14])
        generalize up2 ad [7, 8, 9, 10, 11, 12, 13, 14] (2 + n) (fun k => if k = 7 then q else if k = 8 then b1 else if k = 9 then b2 else if k = 10 then b3 else if k = 11 then b4 else if k = 12 then b5 else if k = 13 then b6 else b7) = ad1 at hw ha7 ha4 ha0
        generalize upc cnt [7, 8, 9, 10, 11, 12, 13, 14] = cnt1 at hw hSI hOw hz
        refine W.eq (g2 := F0 m 168 ls [.ref (ad1 7 (2 + n)), .int (jI n), .ref (ad1 4 0)]) (by rw [ha7, ha4]) ?_
        have c4 : cnt1 4 = 1 := hSI.2.2.2.2.2.1 4 (by decide)
        have c7 : cnt1 7 = 2 + n + 1 := hSI.1 7 (by decide)
        refine nx_aast hx hb hK.1 hw hS hbs (by omega) (by omega) ar_4 rfl rfl sl_7_0 (len_E ar_4 (by decide)) (by omega) (by omega) (by omega) (by omega) (by omega) dX8_init_168 (fun H locs hw hS => ?_)
        refine lv_iinc (v := jI (n + 1)) (lv' := [(1, .int (jI (n + 1))), (0, .ref h0)]) hx hb dX8_init_169 hl (k := 0) rfl (jI_add _ _) (by decide) rfl (fun ls hl => ?_)
        refine lv_goto (tgt := 151) hx hb dX8_init_172 (by decide) ?_
        refine ih (n + 1) _ _ _ _ _ _ _ _ _ (by omega) (by omega) ⟨ha0, by rw [show 2 + (n + 1) = 2 + n + 1 by omega]; exact hSI, fun q g0 g1 => by rw [u3_k _ _ _ _ (by decide)]; exact o3 q g0 g1, o4, fun q g0 g1 => ?_, by rw [u3_k _ _ _ _ (by decide)]; exact o6, fun q g0 g1 => by rw [u3_k _ _ _ _ (by decide)]; exact o7 q g0 g1, hOw, hz.setY (by omega) (by omega)⟩ (by omega) hw hS hl
        by_cases hq : q = n
        · rw [hq]; exact u3_s _ _ _ _ _
        · rw [u3_j _ _ _ _ hq]; exact o5 q g0 (by omega)
  have lp2 : ∀ (nn : Nat) (n : Int) (ad : Nat → Int → Nat) (cnt : Nat → Int) (X : Nat → Int → Int → Int) (Y : Nat → Int → Int → Option Int) (cl sl : Nat) (H : Heap) (locs : List Loc) (ls : Array Slot), 16 - n < (nn : Int) → 0 ≤ n ∧ n ≤ 16 → OI 30 n 0 h0 ad cnt X Y → (cl : Int) ≤ 196 ∧ (sl : Int) ≤ 6308 → wx D tc base (ad, cnt, X, Y, ln) [] H → va_S (frA base) s.heap H locs → lv_has ls 2 [(1, .int (jI n)), (0, .ref h0)] → W p l e ({ frames := 3, cells := 228, slots := 16184, locals := 60 } : Room) s m ([.ref h0] : List Value).toArray below meth c H locs cl sl (MQ below (QX D tc base (fun u' E' => ∃ (ad1 : Nat → Int → Nat) (cnt1 : Nat → Int) (X1 : Nat → Int → Int → Int) (Y1 : Nat → Int → Int → Option Int), u' = (ad1, cnt1, X1, Y1, ln) ∧ E' = [] ∧ OI 30 16 4 h0 ad1 cnt1 X1 Y1)) ([.ref h0] : List Value).toArray s 228 16184 (frA base)) (F0 m 130 ls []) := by
    intro nn
    induction nn with
    | zero => intro n ad cnt X Y cl sl H locs ls hm hn; exfalso; omega
    | succ nn ih =>
      intro n ad cnt X Y cl sl H locs ls hm hn hO hcl hw hS hl
      obtain ⟨o1, hSI, o3, o4, o5, o6, o7, hOw, hz⟩ := hO
      refine lv_iload_n hx hb dX8_init_130 rfl (lv_at hl 0 rfl) ?_
      refine lv_bipush (v := jI 16) hx hb dX8_init_131 (by decide) ?_
      refine x_icmp_ge (tgt := 149) hx hb (by omega) (by omega) dX8_init_133 (by decide) (fun hc => ?_) (fun hc => ?_)
      · have e4 : n = 16 := by omega
        subst e4
        refine lv_iconst (v := jI 0) hx hb dX8_init_149 rfl ?_
        refine lv_istore_n (lv' := [(1, .int (jI 0)), (0, .ref h0)]) hx hb dX8_init_150 rfl hl (by decide) rfl (fun ls hl => ?_)
        exact lp3 5 0 ad cnt X Y cl sl _ _ _ (by omega) (by omega) ⟨o1, hSI, o3, o4, o5, o6, o7, hOw, hz⟩ (by omega) hw hS hl
      · have c0 : cnt 0 = 1 := hSI.2.2.2.2.2.1 0 (by decide)
        have c3 : cnt 3 = 1 := hSI.2.2.2.2.2.1 3 (by decide)
        refine lv_aload_n hx hb dX8_init_136 rfl (lv_at hl 1 rfl) ?_
        refine W.eq (g2 := F0 m 137 ls [.ref (ad 0 0)]) (by rw [o1]) ?_
        refine x_geto hx hb hf8 (wx_wd hw) (by omega) (by omega) sl_0_4 lk21 dX8_init_137 ?_
        refine lv_iload_n hx hb dX8_init_140 rfl (lv_at hl 0 rfl) ?_
        refine lv_iconst (v := jI 1) hx hb dX8_init_141 rfl ?_
        refine x_zast hx hb hK.1 (wx_wd hw) hS (by omega) (by omega) ar_3 (len_E ar_3 (by decide)) (by omega) (by omega) (by omega) (by omega) (by omega) dX8_init_142 (fun H locs hw hS => ?_)
        refine lv_iinc (v := jI (n + 1)) (lv' := [(1, .int (jI (n + 1))), (0, .ref h0)]) hx hb dX8_init_143 hl (k := 0) rfl (jI_add _ _) (by decide) rfl (fun ls hl => ?_)
        refine lv_goto (tgt := 130) hx hb dX8_init_146 (by decide) ?_
        refine ih (n + 1) _ _ _ _ _ _ _ _ _ (by omega) (by omega) ⟨o1, hSI, o3, fun k i j => ?_, o5, o6, o7, hOw, hz.setX (by omega) (by omega)⟩ (by omega) (wx_of hw) hS hl
        simp only [u3]
        rw [o4 k i j]
        by_cases h3 : k = 3 ∧ i = 0
        · obtain ⟨rfl, rfl⟩ := h3
          by_cases hj : j = n
          · subst hj; rw [if_pos ⟨rfl, rfl, rfl⟩, if_pos ⟨rfl, rfl, by omega, by omega⟩]
          · rw [if_neg (fun q => hj q.2.2)]
            by_cases hr9 : 0 ≤ j ∧ j < n
            · rw [if_pos ⟨rfl, rfl, hr9⟩, if_pos ⟨rfl, rfl, by omega, by omega⟩]
            · rw [if_neg (fun q => hr9 q.2.2), if_neg (fun q => hr9 (by omega))]
        · rw [if_neg (fun q => h3 ⟨q.1, q.2.1⟩), if_neg (fun q => h3 ⟨q.1, q.2.1⟩), if_neg (fun q => h3 ⟨q.1, q.2.1⟩)]
  have lp1 : ∀ (nn : Nat) (n : Int) (ad : Nat → Int → Nat) (cnt : Nat → Int) (X : Nat → Int → Int → Int) (Y : Nat → Int → Int → Option Int) (cl sl : Nat) (H : Heap) (locs : List Loc) (ls : Array Slot), 30 - n < (nn : Int) → 0 ≤ n ∧ n ≤ 30 → OI n 0 0 h0 ad cnt X Y → (cl : Int) ≤ 106 + 3 * n ∧ (sl : Int) ≤ 5888 + 14 * n → wx D tc base (ad, cnt, X, Y, ln) [] H → va_S (frA base) s.heap H locs → lv_has ls 2 [(1, .int (jI n)), (0, .ref h0)] → W p l e ({ frames := 3, cells := 228, slots := 16184, locals := 60 } : Room) s m ([.ref h0] : List Value).toArray below meth c H locs cl sl (MQ below (QX D tc base (fun u' E' => ∃ (ad1 : Nat → Int → Nat) (cnt1 : Nat → Int) (X1 : Nat → Int → Int → Int) (Y1 : Nat → Int → Int → Option Int), u' = (ad1, cnt1, X1, Y1, ln) ∧ E' = [] ∧ OI 30 16 4 h0 ad1 cnt1 X1 Y1)) ([.ref h0] : List Value).toArray s 228 16184 (frA base)) (F0 m 103 ls []) := by
    intro nn
    induction nn with
    | zero => intro n ad cnt X Y cl sl H locs ls hm hn; exfalso; omega
    | succ nn ih =>
      intro n ad cnt X Y cl sl H locs ls hm hn hO hcl hw hS hl
      obtain ⟨o1, hSI, o3, o4, o5, o6, o7, hOw, hz⟩ := hO
      refine lv_iload_n hx hb dX8_init_103 rfl (lv_at hl 0 rfl) ?_
      refine lv_bipush (v := jI 30) hx hb dX8_init_104 (by decide) ?_
      refine x_icmp_ge (tgt := 128) hx hb (by omega) (by omega) dX8_init_106 (by decide) (fun hc => ?_) (fun hc => ?_)
      · have e4 : n = 30 := by omega
        subst e4
        refine lv_iconst (v := jI 0) hx hb dX8_init_128 rfl ?_
        refine lv_istore_n (lv' := [(1, .int (jI 0)), (0, .ref h0)]) hx hb dX8_init_129 rfl hl (by decide) rfl (fun ls hl => ?_)
        exact lp2 17 0 ad cnt X Y cl sl _ _ _ (by omega) (by omega) ⟨o1, hSI, o3, o4, o5, o6, o7, hOw, hz⟩ (by omega) hw hS hl
      · have c0 : cnt 0 = 1 := hSI.2.2.2.2.2.1 0 (by decide)
        have c2 : cnt 2 = 1 := hSI.2.2.2.2.2.1 2 (by decide)
        refine lv_aload_n hx hb dX8_init_109 rfl (lv_at hl 1 rfl) ?_
        refine W.eq (g2 := F0 m 110 ls [.ref (ad 0 0)]) (by rw [o1]) ?_
        refine x_geto hx hb hf8 (wx_wd hw) (by omega) (by omega) sl_0_2 lk17 dX8_init_110 ?_
        refine lv_iload_n hx hb dX8_init_113 rfl (lv_at hl 0 rfl) ?_
        refine nx_new (ci := 6) (fs := [.null, .null, .null, .int 0]) hx hb hf6 ⟨tyX6_ok, nmX6⟩ (hts (.classLink RX8 15 RX6) (by first | exact gj_X8_init_0 _ (gp_4 (gp_1 gp_h)) | decide +kernel)) (hts (.instantiable RX6 4) (by first | exact gj_X8_init_1 _ (gp_1 (gp_1 gp_h)) | decide +kernel)) (hts (.initialized RX6) (by first | exact gj_X8_init_1 _ (gp_1 (gp_1 (gp_1 gp_h))) | decide +kernel)) hw hS hbs (fun j hj => by rcases (show j = 0 ∨ j = 1 ∨ j = 2 ∨ j = 3 by omega) with rfl | rfl | rfl | rfl <;> rfl) (by show _ ≤ (228 : Nat); omega) (by show _ ≤ (16184 : Nat); omega) dX8_init_114 (fun q H hw hS => ?_)
        refine lv_dup hx hb dX8_init_117 rfl ?_
        refine gos_x (run_IN (As := []) (rest := [.ref q, .int (jI n), .ref (ad 2 0)]) (host := RX8) hx hb hml hown hts (c_X6_init l D tc base (ad, cnt, X, Y, ln) [] q) ⟨va_cnB 0 hts gX8_init_X6_init_n62 rfl rfl rfl hK.2.2.2.2.1.2.2.1 (hts (.initialized RX6) (by first | exact gj_X8_init_1 _ (gp_1 (gp_1 (gp_1 gp_h))) | decide +kernel)) (by decide +kernel) ⟨Nat.le_of_ble_eq_true rfl, Nat.le_of_ble_eq_true rfl⟩, rfl, hts (.instanceMethod yX6_init) (by first | exact gj_X8_init_2 _ (gp_4 (gp_1 (gp_1 (gp_1 gp_h)))) | decide +kernel)⟩ hK hw rfl hl.1 rfl (Nat.le_of_ble_eq_true rfl) dX8_init_118 ⟨by show _ ≤ (228 : Nat); omega, by show _ ≤ (16184 : Nat); omega⟩) hS (fun u9 E9 H locs p9 hw hS => ?_)
        obtain ⟨rfl, b1, b2, rfl⟩ := p9
        have hw := growz2 (KS := [15, 16, 17]) (n := n) (f := fun k => if k = 15 then q else if k = 16 then b1 else b2) hw (by omega) hSI.2.1 (by decide) hOw hz (by decide +kernel) rfl
        have ha7 : up2 ad [15, 16, 17] n (fun k => if k = 15 then q else if k = 16 then b1 else b2) 15 n = q := by rw [up2_s (by decide)]; rfl
        have ha4 : up2 ad [15, 16, 17] n (fun k => if k = 15 then q else if k = 16 then b1 else b2) 2 0 = ad 2 0 := by rw [up2_k (by decide)]
        have ha0 : up2 ad [15, 16, 17] n (fun k => if k = 15 then q else if k = 16 then b1 else b2) 0 0 = h0 := by rw [up2_k (by decide)]; exact o1
        have hSI := hSI.up15
        have hOw := hOw.up (KS := [15, 16, 17]) (by decide +kernel) (by decide +kernel)
        have hz := hz.up (KS := [15, 16, 17])
        generalize up2 ad [15, 16, 17] n (fun k => if k = 15 then q else if k = 16 then b1 else b2) = ad1 at hw ha7 ha4 ha0
        generalize upc cnt [15, 16, 17] = cnt1 at hw hSI hOw hz
        refine W.eq (g2 := F0 m 121 ls [.ref (ad1 15 n), .int (jI n), .ref (ad1 2 0)]) (by rw [ha7, ha4]) ?_
        have c4 : cnt1 2 = 1 := hSI.2.2.2.2.2.1 2 (by decide)
        have c7 : cnt1 15 = n + 1 := hSI.2.1 15 (by decide)
        refine nx_aast hx hb hK.1 hw hS hbs (by omega) (by omega) ar_2 rfl rfl sl_15_0 (len_E ar_2 (by decide)) (by omega) (by omega) (by omega) (by omega) (by omega) dX8_init_121 (fun H locs hw hS => ?_)
        refine lv_iinc (v := jI (n + 1)) (lv' := [(1, .int (jI (n + 1))), (0, .ref h0)]) hx hb dX8_init_122 hl (k := 0) rfl (jI_add _ _) (by decide) rfl (fun ls hl => ?_)
        refine lv_goto (tgt := 103) hx hb dX8_init_125 (by decide) ?_
        refine ih (n + 1) _ _ _ _ _ _ _ _ _ (by omega) (by omega) ⟨ha0, hSI, fun q g0 g1 => ?_, o4, fun q g0 g1 => by omega, by rw [u3_k _ _ _ _ (by decide)]; exact o6, fun q g0 g1 => by rw [u3_k _ _ _ _ (by decide)]; exact o7 q g0 g1, hOw, hz.setY (by omega) (by omega)⟩ (by omega) hw hS hl
        by_cases hq : q = n
        · rw [hq]; exact u3_s _ _ _ _ _
        · rw [u3_j _ _ _ _ hq]; exact o3 q g0 (by omega)
  refine lv_iconst (v := jI 0) hx hb dX8_init_101 rfl ?_
  refine lv_istore_n (lv' := [(1, .int (jI 0)), (0, .ref h0)]) hx hb dX8_init_102 rfl hl (by decide) rfl (fun ls hl => ?_)
  exact lp1 31 0 ad1 cnt1 X Y1 _ _ _ _ _ (by omega) (by omega) hO (by omega) hw hS hl

