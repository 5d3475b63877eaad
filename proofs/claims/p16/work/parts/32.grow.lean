/-! the world grows -/
def up2 {α : Type} (f : Nat → Int → α) (KS : List Nat) (n : Int) (g : Nat → α) : Nat → Int → α := fun k i => if k ∈ KS ∧ i = n then g k else f k i
def upc (cnt : Nat → Int) (KS : List Nat) : Nat → Int := fun k => if k ∈ KS then cnt k + 1 else cnt k
theorem up2_s {α : Type} {f : Nat → Int → α} {KS : List Nat} {n : Int} {g : Nat → α} {k : Nat} (h : k ∈ KS) : up2 f KS n g k n = g k := by simp [up2, h]
theorem up2_k {α : Type} {f : Nat → Int → α} {KS : List Nat} {n : Int} {g : Nat → α} {k : Nat} (h : k ∉ KS) : up2 f KS n g k = f k := by funext i; simp [up2, h]
theorem up2_n {α : Type} {f : Nat → Int → α} {KS : List Nat} {n i : Int} {g : Nat → α} {k : Nat} (h : i ≠ n) : up2 f KS n g k i = f k i := by simp [up2, h]
theorem upc_s {cnt : Nat → Int} {KS : List Nat} {k : Nat} (h : k ∈ KS) : upc cnt KS k = cnt k + 1 := by simp [upc, h]
theorem upc_k {cnt : Nat → Int} {KS : List Nat} {k : Nat} (h : k ∉ KS) : upc cnt KS k = cnt k := by simp [upc, h]
theorem upc_le {cnt : Nat → Int} {KS : List Nat} {k : Nat} : cnt k ≤ upc cnt KS k := by unfold upc; split <;> omega
section GR
variable {D : va_G} {tc : Nat → ClassId} {base : Nat} {E F : va_W} {H : Heap} {ad ad1 ad2 : Nat → Int → Nat} {cnt cnt1 cnt2 : Nat → Int} {X X1 : Nat → Int → Int → Int} {Y Y1 : Nat → Int → Int → Option Int} {ln ln1 ln2 : Int → Int} {KS : List Nat} {n : Int} {f : Nat → Nat} {V : Nat → Int → Int}
theorem grow (hw : wx D tc base (ad, cnt, X, Y, ln) (E ++ F) H) (h0 : 0 ≤ n) (hn : ∀ k ∈ KS, cnt k = n) (ho : Own cnt) (hln : ∀ i, 0 ≤ i → i < cnt 27 → ln1 i = ln i) (hY : ∀ k i, 0 ≤ i → i < cnt k → Y1 k i = Y k i) (hrf : RefOK (upc cnt KS) Y1)
    (hF : F = wlE tc (up2 ad KS n f) (up2 X KS n V) Y1 ln1 (KS.map fun k => (k, n))) : wx D tc base (up2 ad KS n f, upc cnt KS, up2 X KS n V, Y1, ln1) E H := by
  refine adopt hw hF (fun k i g0 g1 => ?_) ho (fun k i => ?_) hrf
  · have hne : ¬ (k ∈ KS ∧ i = n) := fun q => by have := hn k q.1; omega
    exact ⟨by simp only [up2, if_neg hne], by simp only [up2, if_neg hne], hY k i g0 g1, fun e => hln i g0 (e ▸ g1)⟩
  · simp only [upc]
    by_cases hk : k ∈ KS
    · have := hn k hk
      rw [if_pos hk]
      constructor
      · intro h
        by_cases hi : i = n
        · exact Or.inr (List.mem_map.mpr ⟨k, hk, by rw [hi]⟩)
        · exact Or.inl (by omega)
      · rintro (h | h)
        · omega
        · obtain ⟨k', -, e⟩ := List.mem_map.mp h
          cases e
          omega
    · rw [if_neg hk]
      constructor
      · exact fun h => Or.inl h
      · rintro (h | h)
        · exact h
        · obtain ⟨k', hk', e⟩ := List.mem_map.mp h
          cases e
          exact absurd hk' hk
theorem refOK_up (h : RefOK cnt Y) (hk : ∀ k ∈ KS, ∀ j t, ¬ rfK k j t) : RefOK (upc cnt KS) Y := by
  intro k i j t r g0 g1 hr e
  by_cases hm : k ∈ KS
  · exact absurd hr (hk k hm j t)
  · rw [upc_k hm] at g1
    have := h k i j t r g0 g1 hr e
    have h2 : cnt t ≤ upc cnt KS t := upc_le
    omega
def Ext (ad : Nat → Int → Nat) (cnt : Nat → Int) (ln : Int → Int) (ad1 : Nat → Int → Nat) (cnt1 : Nat → Int) (ln1 : Int → Int) : Prop := (∀ k i, 0 ≤ i → i < cnt k → ad1 k i = ad k i) ∧ (∀ k, cnt k ≤ cnt1 k) ∧ (∀ i, 0 ≤ i → i < cnt 26 → ln1 i = ln i)
theorem Ext.rf : Ext ad cnt ln ad cnt ln := ⟨fun _ _ _ _ => rfl, fun _ => Int.le_refl _, fun _ _ _ => rfl⟩
theorem Ext.tr (h : Ext ad cnt ln ad1 cnt1 ln1) (g : Ext ad1 cnt1 ln1 ad2 cnt2 ln2) : Ext ad cnt ln ad2 cnt2 ln2 :=
  ⟨fun k i g0 g1 => (g.1 k i g0 (by have := h.2.1 k; omega)).trans (h.1 k i g0 g1), fun k => Int.le_trans (h.2.1 k) (g.2.1 k), fun i g0 g1 => (g.2.2 i g0 (by have := h.2.1 26; omega)).trans (h.2.2 i g0 g1)⟩
theorem ext_up (hn : ∀ k ∈ KS, cnt k = n) (hln : ∀ i, 0 ≤ i → i < cnt 26 → ln1 i = ln i) : Ext ad cnt ln (up2 ad KS n f) (upc cnt KS) ln1 := by
  refine ⟨fun k i g0 g1 => ?_, fun k => upc_le, hln⟩
  have hne : ¬ (k ∈ KS ∧ i = n) := fun q => by have := hn k q.1; omega
  simp only [up2, if_neg hne]
theorem rng_up (h : Rng X) (hV : ∀ k ∈ KS, ∀ j, (rg k j).1 ≤ V k j ∧ V k j ≤ (rg k j).2) : Rng (up2 X KS n V) := by
  intro k i j
  by_cases hc : k ∈ KS ∧ i = n
  · obtain ⟨h1, rfl⟩ := hc
    rw [up2_s h1]
    exact hV k h1 j
  · simp only [up2, if_neg hc]
    exact h k i j
theorem frm_up {M : List Nat} (hV : ∀ k ∈ KS, ∀ j, fcode k j ∉ M → V k j = X k n j) : Frm M X (up2 X KS n V) := by
  intro k i j hm
  by_cases hc : k ∈ KS ∧ i = n
  · obtain ⟨h1, rfl⟩ := hc
    rw [up2_s h1]
    exact hV k h1 j hm
  · simp only [up2, if_neg hc]
theorem fx_up (h : Fx cnt) (h1 : ∀ q ∈ fxL, q.1 ∉ KS) (h2 : (19 ∈ KS ↔ 20 ∈ KS) ∧ (19 ∈ KS ↔ 21 ∈ KS) ∧ (19 ∈ KS ↔ 22 ∈ KS) ∧ (19 ∈ KS ↔ 23 ∈ KS) ∧ (19 ∈ KS ↔ 24 ∈ KS) ∧ (26 ∈ KS ↔ 27 ∈ KS)) : Fx (upc cnt KS) := by
  refine ⟨fun q hq => by rw [upc_k (h1 q hq)]; exact h.1 q hq, fun k hk => ?_, ?_⟩
  · have h3 := h.2.1 k hk
    have h4 : 19 ∈ KS ↔ k ∈ KS := by
      simp only [List.mem_cons, List.not_mem_nil, or_false] at hk
      rcases hk with rfl | rfl | rfl | rfl | rfl
      · exact h2.1
      · exact h2.2.1
      · exact h2.2.2.1
      · exact h2.2.2.2.1
      · exact h2.2.2.2.2.1
    unfold upc
    by_cases hm : k ∈ KS
    · rw [if_pos hm, if_pos (h4.mpr hm), h3]
    · rw [if_neg hm, if_neg (fun q => hm (h4.mp q)), h3]
  · have h3 := h.2.2
    unfold upc
    by_cases hm : 27 ∈ KS
    · rw [if_pos hm, if_pos (h2.2.2.2.2.2.mpr hm), h3]
    · rw [if_neg hm, if_neg (fun q => hm (h2.2.2.2.2.2.mp q)), h3]
theorem own_up (h : Own cnt) (hFx : Fx (upc cnt KS)) (h1 : ∀ k ∈ KS, ¬ ((lay k).1 = 0 ∧ (lay k).2.2.1.1 = 9)) : Own (upc cnt KS) :=
  ⟨hFx.own, fun k g1 g2 => by rw [upc_k (fun q => h1 k q ⟨g1, g2⟩)]; exact h.2 k g1 g2⟩
theorem cinv_ext (h : CInv cnt X Y ln) (hFx : Fx cnt) (hR : Rng X) (hrf : RefOK cnt Y) (h19 : cnt1 19 = cnt 19) (hln : ∀ i, 0 ≤ i → i < cnt 26 → ln1 i = ln i) : CInv cnt1 X Y ln1 := by
  obtain ⟨a1, a2, a3, a4, a5, a6, a7, a8⟩ := h
  refine ⟨a1, a2, a3, ⟨by rw [h19]; exact a4.1, a4.2⟩, a5, a6, a7, fun n n0 n1 => ?_⟩
  obtain ⟨b1, b2⟩ := a8 n n0 n1
  refine ⟨b1, fun hy w hw => ?_⟩
  have h80 : 0 ≤ X 29 0 1 ∧ X 29 0 1 ≤ 80 := hR 29 0 1
  have hc : cnt 28 = 80 := hFx.at 28 80 (by decide)
  obtain ⟨g0, g1⟩ := hrf 28 n 3 26 w n0 (by omega) (Or.inr ⟨by decide +kernel, by decide +kernel⟩) hw
  rw [hln w g0 g1]
  exact b2 hy w hw
end GR
theorem rf26 : ∀ k ∈ [26, 27], ∀ j t, ¬ rfK k j t := by
  intro k hk j t h
  simp only [List.mem_cons, List.not_mem_nil, or_false] at hk
  rcases hk with rfl | rfl
  · rcases h with ⟨h1, -⟩ | ⟨-, h2⟩
    · exact absurd h1 (by decide +kernel)
    · have h3 : ∀ c ∈ (lay 26).2.1, c.1 ≠ 4 := by decide +kernel
      unfold slo at h2
      by_cases hj : j < (lay 26).2.1.length
      · rw [List.getD_eq_getElem?_getD, List.getElem?_eq_getElem hj, Option.getD_some] at h2
        exact h3 _ (List.getElem_mem hj) (by rw [h2])
      · rw [List.getD_eq_getElem?_getD, List.getElem?_eq_none (by omega)] at h2
        cases h2
  · rcases h with ⟨-, h2, -⟩ | ⟨h1, -⟩
    · exact absurd h2 (by decide +kernel)
    · exact absurd (by decide +kernel) h1
theorem rf25 : ∀ k ∈ [25], ∀ j t, ¬ rfK k j t := by
  intro k hk j t h
  simp only [List.mem_cons, List.not_mem_nil, or_false] at hk
  subst hk
  rcases h with ⟨h1, -⟩ | ⟨-, h2⟩
  · exact absurd h1 (by decide +kernel)
  · have h3 : ∀ c ∈ (lay 25).2.1, c.1 ≠ 4 := by decide +kernel
    unfold slo at h2
    by_cases hj : j < (lay 25).2.1.length
    · rw [List.getD_eq_getElem?_getD, List.getElem?_eq_getElem hj, Option.getD_some] at h2
      exact h3 _ (List.getElem_mem hj) (by rw [h2])
    · rw [List.getD_eq_getElem?_getD, List.getElem?_eq_none (by omega)] at h2
      cases h2
theorem fcode26 (j : Int) : fcode 26 j = 2600 + 1 + j.toNat := by
  unfold fcode
  rw [if_neg (by decide +kernel)]
theorem fcode25 (j : Int) : fcode 25 j = 2500 + 1 + j.toNat := by
  unfold fcode
  rw [if_neg (by decide +kernel)]
theorem fcode28 (j : Int) : fcode 28 j = 2800 + 1 + j.toNat := by
  unfold fcode
  rw [if_neg (by decide +kernel)]
theorem fcode27 (j : Int) : fcode 27 j = 2700 := by
  unfold fcode
  rw [if_pos (by decide +kernel)]
theorem born_row {D : va_G} {tc : Nat → ClassId} {base : Nat} {H : Heap} {ad : Nat → Int → Nat} {cnt : Nat → Int} {X : Nat → Int → Int → Int} {Y : Nat → Int → Int → Option Int} {ln : Int → Int} {h0 q : Nat} {n : Int}
    (hw : wx D tc base (ad, cnt, X, Y, ln) [(h0, .inr (5, [.ref q, .int 0])), (q, .inl (tc 1, (n : Int).toNat, .inr (.inl (fun _ => 0))))] H) (hn : 0 ≤ n ∧ n ≤ 12) (hFx : Fx cnt) (hOw : Own cnt) (hc0 : 0 ≤ cnt 26) (hR : Rng X) (hLn : LnOK ln) (hCI : CInv cnt X Y ln) :
    ∃ (ad1 : Nat → Int → Nat) (cnt1 : Nat → Int) (X1 : Nat → Int → Int → Int) (ln1 : Int → Int), wd D tc base (ad1, cnt1, X1, Y, ln1) H ∧ Ext ad cnt ln ad1 cnt1 ln1 ∧ Fx cnt1 ∧ Own cnt1 ∧ LnOK ln1 ∧ Rng X1 ∧ Frm [2602, 2700] X X1 ∧ CInv cnt1 X1 Y ln1 ∧ cnt1 26 = cnt 26 + 1 ∧ ad1 26 (cnt 26) = h0 ∧ ln1 (cnt 26) = n ∧ (∀ j, X1 27 (cnt 26) j = 0) ∧ (∀ (k : Nat) (i : Int), i ≠ cnt 26 → X1 k i = X k i) := by
  have hrf := wd_ref (wx_wd hw)
  have h27 := hFx.2.2
  have hKn : ∀ k ∈ [26, 27], cnt k = cnt 26 := by
    intro k hk
    simp only [List.mem_cons, List.not_mem_nil, or_false] at hk
    rcases hk with rfl | rfl
    · rfl
    · exact h27
  have hl1 : ∀ i, 0 ≤ i → i < cnt 26 → (fun i => if i = cnt 26 then n else ln i) i = ln i := fun i g0 g1 => by simp only [if_neg (show ¬ i = cnt 26 by omega)]
  have hFx1 : Fx (upc cnt [26, 27]) := fx_up hFx (by decide) (by decide)
  have hF1 : Frm [2602, 2700] X (up2 X [26, 27] (cnt 26) (fun k j => if k = 26 ∧ j ≠ 1 then X 26 (cnt 26) j else 0)) := frm_up (fun k hk j hm => by
    simp only [List.mem_cons, List.not_mem_nil, or_false] at hk hm
    rcases hk with rfl | rfl
    · rw [fcode26] at hm
      by_cases hj : j = 1
      · subst hj
        exact absurd (Or.inl (by decide)) hm
      · simp only [if_pos (And.intro trivial hj), true_and, if_pos hj, ne_eq, hj, not_false_eq_true, ite_true]
    · rw [fcode27] at hm
      exact absurd (Or.inr rfl) hm)
  have hR1 : Rng (up2 X [26, 27] (cnt 26) (fun k j => if k = 26 ∧ j ≠ 1 then X 26 (cnt 26) j else 0)) := rng_up hR (fun k hk j => by
    simp only [List.mem_cons, List.not_mem_nil, or_false] at hk
    rcases hk with rfl | rfl
    · by_cases hj : j = 1
      · subst hj
        have h1 : (rg 26 1).1 ≤ 0 ∧ 0 ≤ (rg 26 1).2 := by decide +kernel
        simpa using h1
      · simp only [true_and, ne_eq, hj, not_false_eq_true, ite_true]
        exact hR 26 (cnt 26) j
    · have h1 : ∀ j, rg 27 j = rg 27 0 := fun j => by
        unfold rg
        rw [if_pos (by decide +kernel), if_pos (by decide +kernel)]
      have h2 : (rg 27 0).1 ≤ 0 ∧ 0 ≤ (rg 27 0).2 := by decide +kernel
      rw [h1 j]
      simpa using h2)
  refine ⟨up2 ad [26, 27] (cnt 26) (fun k => if k = 26 then h0 else q), upc cnt [26, 27], up2 X [26, 27] (cnt 26) (fun k j => if k = 26 ∧ j ≠ 1 then X 26 (cnt 26) j else 0), (fun i => if i = cnt 26 then n else ln i), wx_wd (grow (E := []) hw hc0 hKn hOw (fun i g0 g1 => hl1 i g0 (by omega)) (fun _ _ _ _ => rfl) (refOK_up hrf rf26) ?_), ext_up hKn hl1, hFx1, own_up hOw hFx1 (by decide +kernel), ?_, hR1, hF1, ?_, upc_s (by decide), by rw [up2_s (by decide)]; rfl, by simp, fun j => by rw [up2_s (by decide)]; simp, fun k i hi => up2_n hi⟩
  · have e1 : ceE tc (up2 ad [26, 27] (cnt 26) (fun k => if k = 26 then h0 else q)) (up2 X [26, 27] (cnt 26) (fun k j => if k = 26 ∧ j ≠ 1 then X 26 (cnt 26) j else 0)) Y (fun i => if i = cnt 26 then n else ln i) 26 (cnt 26) = .inr (5, [.ref q, .int 0]) := by
      rw [ob_E sl_26_0]
      have t0 : slo 26 0 = (3, 27) := sl_26_0.2.2.1
      have t1 : slo 26 1 = (0, 0) := sl_26_1.2.2.1
      simp only [List.range, List.range.loop, List.map, slV, t0, t1]
      rw [up2_s (by decide)]
      simp [up2]
      rfl
    have e2 : ceE tc (up2 ad [26, 27] (cnt 26) (fun k => if k = 26 then h0 else q)) (up2 X [26, 27] (cnt 26) (fun k j => if k = 26 ∧ j ≠ 1 then X 26 (cnt 26) j else 0)) Y (fun i => if i = cnt 26 then n else ln i) 27 (cnt 26) = .inl (tc 1, n.toNat, .inr (.inl (fun _ => 0))) := by
      rw [ar_lE ar_27]
      rw [up2_s (by decide)]
      simp [lenE]
      funext q
      rfl
    simp only [wlE, List.map, e1, e2]
    rw [up2_s (by decide), up2_s (by decide)]
    rfl
  · intro i
    dsimp only
    split
    · exact hn
    · exact hLn i
  · exact cinv_ext (cinv_frm (M := [2602, 2700]) (N := []) hCI hF1 Frm.rf (by decide) (by decide)) hFx hR1 hrf (upc_k (by decide)) hl1
