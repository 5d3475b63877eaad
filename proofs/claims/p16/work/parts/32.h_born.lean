/-! a check, a type -/
theorem no_rf (k : Nat) (h1 : (lay k).1 ≠ 0 ∨ (lay k).2.2.1.1 ≠ 4) (h2 : ∀ c ∈ (lay k).2.1, c.1 ≠ 4) : ∀ j t, ¬ rfK k j t := by
  intro j t h
  rcases h with ⟨g1, g2, -⟩ | ⟨-, g2⟩
  · rcases h1 with h1 | h1
    · exact h1 g1
    · exact h1 g2
  · unfold slo at g2
    by_cases hj : j < (lay k).2.1.length
    · rw [List.getD_eq_getElem?_getD, List.getElem?_eq_getElem hj, Option.getD_some] at g2
      exact h2 _ (List.getElem_mem hj) (by rw [g2])
    · rw [List.getD_eq_getElem?_getD, List.getElem?_eq_none (by omega)] at g2
      cases g2
theorem rg_arr (k : Nat) (h : (rgL.getD k []).length = 1) (j : Int) : rg k j = rg k 0 := by
  unfold rg
  rw [if_pos h, if_pos h]
theorem fc_arr (k : Nat) (h : (lay k).1 = 0) (j : Int) : fcode k j = k * 100 := by
  unfold fcode
  rw [if_pos h]
theorem fc_obj (k : Nat) (h : (lay k).1 ≠ 0) (j : Int) : fcode k j = k * 100 + 1 + j.toNat := by
  unfold fcode
  rw [if_neg h]
theorem born_check {D : va_G} {tc : Nat → ClassId} {base : Nat} {H : Heap} {ad : Nat → Int → Nat} {cnt : Nat → Int} {X : Nat → Int → Int → Int} {Y : Nat → Int → Int → Option Int} {ln : Int → Int} {h0 : Nat} {kd a b v : Int}
    (hw : wx D tc base (ad, cnt, X, Y, ln) [(h0, .inr (0, [.int (jI kd), .int (jI a), .int (jI b), .long (jL v)]))] H) (hk : 0 ≤ kd ∧ kd ≤ 5) (ha : 0 ≤ a ∧ a ≤ 4) (hb : 0 ≤ b ∧ b ≤ 4) (hv : -9223372036854775808 ≤ v ∧ v ≤ 9223372036854775807) (hFx : Fx cnt) (hOw : Own cnt) (hc0 : 0 ≤ cnt 25) (hR : Rng X) (hLn : LnOK ln) (hCI : CInv cnt X Y ln) :
    ∃ (ad1 : Nat → Int → Nat) (cnt1 : Nat → Int) (X1 : Nat → Int → Int → Int) (ln1 : Int → Int), wd D tc base (ad1, cnt1, X1, Y, ln1) H ∧ Ext ad cnt ln ad1 cnt1 ln1 ∧ Fx cnt1 ∧ Own cnt1 ∧ LnOK ln1 ∧ Rng X1 ∧ Frm [2501, 2502, 2503, 2504] X X1 ∧ CInv cnt1 X1 Y ln1 ∧ cnt1 25 = cnt 25 + 1 ∧ ad1 25 (cnt 25) = h0 ∧ (X1 25 (cnt 25) 0 = kd ∧ X1 25 (cnt 25) 1 = a ∧ X1 25 (cnt 25) 2 = b ∧ X1 25 (cnt 25) 3 = v) ∧ (∀ (k : Nat) (i : Int), i ≠ cnt 25 → X1 k i = X k i) := by
  have hrf := wd_ref (wx_wd hw)
  have hKn : ∀ k ∈ [25], cnt k = cnt 25 := by
    intro k hk
    simp only [List.mem_cons, List.not_mem_nil, or_false] at hk
    subst hk
    rfl
  have hFx1 : Fx (upc cnt [25]) := fx_up hFx (by decide) (by decide)
  have h4 : ∀ j : Int, j = 0 ∨ j = 1 ∨ j = 2 ∨ j = 3 ∨ (j ≠ 0 ∧ j ≠ 1 ∧ j ≠ 2 ∧ j ≠ 3) := fun j => by omega
  have hF1 : Frm [2501, 2502, 2503, 2504] X (up2 X [25] (cnt 25) (fun _ j => if j = 0 then kd else if j = 1 then a else if j = 2 then b else if j = 3 then v else X 25 (cnt 25) j)) := frm_up (fun k hk j hm => by
    simp only [List.mem_cons, List.not_mem_nil, or_false] at hk hm
    subst hk
    rw [fc_obj 25 (by decide +kernel)] at hm
    rcases h4 j with rfl | rfl | rfl | rfl | ⟨g0, g1, g2, g3⟩
    · exact absurd (by decide) hm
    · exact absurd (by decide) hm
    · exact absurd (by decide) hm
    · exact absurd (by decide) hm
    · simp only [g0, g1, g2, g3, if_false])
  have hR1 : Rng (up2 X [25] (cnt 25) (fun _ j => if j = 0 then kd else if j = 1 then a else if j = 2 then b else if j = 3 then v else X 25 (cnt 25) j)) := rng_up hR (fun k hk1 j => by
    simp only [List.mem_cons, List.not_mem_nil, or_false] at hk1
    subst hk1
    rcases h4 j with rfl | rfl | rfl | rfl | ⟨g0, g1, g2, g3⟩
    · exact (show (0 : Int) ≤ kd ∧ kd ≤ 5 from hk)
    · exact (show (0 : Int) ≤ a ∧ a ≤ 4 from ha)
    · exact (show (0 : Int) ≤ b ∧ b ≤ 4 from hb)
    · exact hv
    · simp only [g0, g1, g2, g3, if_false]
      exact hR 25 (cnt 25) j)
  refine ⟨up2 ad [25] (cnt 25) (fun _ => h0), upc cnt [25], up2 X [25] (cnt 25) (fun _ j => if j = 0 then kd else if j = 1 then a else if j = 2 then b else if j = 3 then v else X 25 (cnt 25) j), ln, wx_wd (grow (E := []) hw hc0 hKn hOw (fun _ _ _ => rfl) (fun _ _ _ _ => rfl) (refOK_up hrf rf25) ?_), ext_up hKn (fun _ _ _ => rfl), hFx1, own_up hOw hFx1 (by decide +kernel), hLn, hR1, hF1, ?_, upc_s (by decide), by rw [up2_s (by decide)], ⟨by rw [up2_s (by decide)]; rfl, by rw [up2_s (by decide)]; rfl, by rw [up2_s (by decide)]; rfl, by rw [up2_s (by decide)]; rfl⟩, fun k i hi => up2_n hi⟩
  · have e1 : ceE tc (up2 ad [25] (cnt 25) (fun _ => h0)) (up2 X [25] (cnt 25) (fun _ j => if j = 0 then kd else if j = 1 then a else if j = 2 then b else if j = 3 then v else X 25 (cnt 25) j)) Y ln 25 (cnt 25) = .inr (0, [.int (jI kd), .int (jI a), .int (jI b), .long (jL v)]) := by
      rw [ob_E sl_25_0]
      have t0 : slo 25 0 = (0, 0) := sl_25_0.2.2.1
      have t1 : slo 25 1 = (0, 0) := sl_25_1.2.2.1
      have t2 : slo 25 2 = (0, 0) := sl_25_2.2.2.1
      have t3 : slo 25 3 = (1, 0) := sl_25_3.2.2.1
      simp only [List.range, List.range.loop, List.map, slV, t0, t1, t2, t3]
      rw [up2_s (by decide)]
      rfl
    simp only [wlE, List.map, e1]
    rw [up2_s (by decide)]
  · exact cinv_ext (cinv_frm (M := [2501, 2502, 2503, 2504]) (N := []) hCI hF1 Frm.rf (by decide) (by decide)) hFx hR1 hrf (upc_k (by decide)) (fun _ _ _ => rfl)
theorem born_type {D : va_G} {tc : Nat → ClassId} {base : Nat} {H : Heap} {ad : Nat → Int → Nat} {cnt : Nat → Int} {X : Nat → Int → Int → Int} {Y : Nat → Int → Int → Option Int} {ln : Int → Int} {h0 q1 q2 q3 q4 q5 : Nat} {n : Int}
    (hw : wx D tc base (ad, cnt, X, Y, ln) [(h0, .inr (7, [.int (jI n), .int 0, .ref q1, .ref q2, .ref q3, .ref q4, .int 0, .ref q5])), (q1, .inl (tc 0, (5 : Int).toNat, .inl (fun _ => 0))), (q2, .inl (tc 0, (5 : Int).toNat, .inl (fun _ => 0))), (q3, .inl (tc 1, (5 : Int).toNat, .inr (.inl (fun _ => 0)))), (q4, .inl (tc 2, (5 : Int).toNat, .inl (fun _ => 0))), (q5, .inl (tc 3, (4 : Int).toNat, .inr (.inr (.inr (.inr (fun _ => none))))))] H) (hn : 0 ≤ n ∧ n ≤ 7) (hFx : Fx cnt) (hOw : Own cnt) (hc0 : 0 ≤ cnt 19) (hR : Rng X) (hLn : LnOK ln) :
    ∃ (ad1 : Nat → Int → Nat) (cnt1 : Nat → Int) (X1 : Nat → Int → Int → Int) (Y1 : Nat → Int → Int → Option Int) (ln1 : Int → Int), wd D tc base (ad1, cnt1, X1, Y1, ln1) H ∧ Ext ad cnt ln ad1 cnt1 ln1 ∧ Fx cnt1 ∧ Own cnt1 ∧ LnOK ln1 ∧ Rng X1 ∧ Frm [1901, 1902, 1907, 2000, 2100, 2200, 2300] X X1 ∧ Frm [2400] Y Y1 ∧ cnt1 19 = cnt 19 + 1 ∧ ad1 19 (cnt 19) = h0 ∧ X1 19 (cnt 19) 0 = n ∧ X1 19 (cnt 19) 6 = 0 ∧ (∀ i, i ≠ cnt 19 → X1 19 i = X 19 i) ∧ (∀ i, i ≠ cnt 19 → Y1 24 i = Y 24 i) ∧ (∀ w, ln1 w = ln w) ∧ X1 19 (cnt 19) 1 = 0 ∧ (∀ k i, i ≠ cnt 19 → X1 k i = X k i) := by
  have hrf := wd_ref (wx_wd hw)
  have hKn : ∀ k ∈ [19, 20, 21, 22, 23, 24], cnt k = cnt 19 := by
    intro k hk
    by_cases h19 : k = 19
    · rw [h19]
    · refine hFx.2.1 k ?_
      simp only [List.mem_cons, List.not_mem_nil, or_false] at hk ⊢
      omega
  have hFx1 : Fx (upc cnt [19, 20, 21, 22, 23, 24]) := fx_up hFx (by decide) (by decide)
  have hF1 : Frm [1901, 1902, 1907, 2000, 2100, 2200, 2300] X (up2 X [19, 20, 21, 22, 23, 24] (cnt 19) (fun k j => if k = 19 then (if j = 0 then n else if j = 1 ∨ j = 6 then 0 else X 19 (cnt 19) j) else if k = 24 then X 24 (cnt 19) j else 0)) := frm_up (fun k hk j hm => by
    simp only [List.mem_cons, List.not_mem_nil, or_false] at hk hm
    rcases hk with rfl | rfl | rfl | rfl | rfl | rfl
    · rw [fc_obj 19 (by decide +kernel)] at hm
      have h4 : j = 0 ∨ j = 1 ∨ j = 6 ∨ (j ≠ 0 ∧ j ≠ 1 ∧ j ≠ 6) := by omega
      rcases h4 with rfl | rfl | rfl | ⟨g0, g1, g2⟩
      · exact absurd (by decide) hm
      · exact absurd (by decide) hm
      · exact absurd (by decide) hm
      · simp [g0, g1, g2]
    · rw [fc_arr 20 (by decide +kernel)] at hm; exact absurd (by decide) hm
    · rw [fc_arr 21 (by decide +kernel)] at hm; exact absurd (by decide) hm
    · rw [fc_arr 22 (by decide +kernel)] at hm; exact absurd (by decide) hm
    · rw [fc_arr 23 (by decide +kernel)] at hm; exact absurd (by decide) hm
    · simp)
  have hR1 : Rng (up2 X [19, 20, 21, 22, 23, 24] (cnt 19) (fun k j => if k = 19 then (if j = 0 then n else if j = 1 ∨ j = 6 then 0 else X 19 (cnt 19) j) else if k = 24 then X 24 (cnt 19) j else 0)) := rng_up hR (fun k hk1 j => by
    simp only [List.mem_cons, List.not_mem_nil, or_false] at hk1
    rcases hk1 with rfl | rfl | rfl | rfl | rfl | rfl
    · have h4 : j = 0 ∨ j = 1 ∨ j = 6 ∨ (j ≠ 0 ∧ j ≠ 1 ∧ j ≠ 6) := by omega
      rcases h4 with rfl | rfl | rfl | ⟨g0, g1, g2⟩
      · exact (show (0 : Int) ≤ n ∧ n ≤ 7 from hn)
      · exact (show (rg 19 1).1 ≤ 0 ∧ 0 ≤ (rg 19 1).2 by decide +kernel)
      · exact (show (rg 19 6).1 ≤ 0 ∧ 0 ≤ (rg 19 6).2 by decide +kernel)
      · simpa [g0, g1, g2] using hR 19 (cnt 19) j
    · rw [rg_arr 20 (by decide +kernel)]; exact (show (rg 20 0).1 ≤ 0 ∧ 0 ≤ (rg 20 0).2 by decide +kernel)
    · rw [rg_arr 21 (by decide +kernel)]; exact (show (rg 21 0).1 ≤ 0 ∧ 0 ≤ (rg 21 0).2 by decide +kernel)
    · rw [rg_arr 22 (by decide +kernel)]; exact (show (rg 22 0).1 ≤ 0 ∧ 0 ≤ (rg 22 0).2 by decide +kernel)
    · rw [rg_arr 23 (by decide +kernel)]; exact (show (rg 23 0).1 ≤ 0 ∧ 0 ≤ (rg 23 0).2 by decide +kernel)
    · exact hR 24 (cnt 19) j)
  have hrf1 : RefOK (upc cnt [19, 20, 21, 22, 23, 24]) (up2 Y [24] (cnt 19) (fun _ _ => none)) := by
    intro k i j t r g0 g1 hr e
    by_cases hc : k ∈ [24] ∧ i = cnt 19
    · simp only [up2, if_pos hc] at e
      cases e
    · have e2 : Y k i j = some r := by simpa only [up2, if_neg hc] using e
      have hlt : i < cnt k := by
        by_cases hm : k ∈ [19, 20, 21, 22, 23, 24]
        · rw [upc_s hm] at g1
          have h5 := hKn k hm
          by_cases h24 : k = 24
          · have : i ≠ cnt 19 := fun q => hc ⟨by rw [h24]; decide, q⟩
            omega
          · exfalso
            have h6 : ∀ k ∈ [19, 20, 21, 22, 23], ∀ j t, ¬ rfK k j t := fun k hk => no_rf k (by
              have h7 : ∀ k ∈ [19, 20, 21, 22, 23], (lay k).1 ≠ 0 ∨ (lay k).2.2.1.1 ≠ 4 := by decide +kernel
              exact h7 k hk) (by
              have h7 : ∀ k ∈ [19, 20, 21, 22, 23], ∀ c ∈ (lay k).2.1, c.1 ≠ 4 := by decide +kernel
              exact h7 k hk)
            refine h6 k ?_ j t hr
            simp only [List.mem_cons, List.not_mem_nil, or_false] at hm ⊢
            omega
        · rw [upc_k hm] at g1
          exact g1
      have := hrf k i j t r g0 hlt hr e2
      have h2 : cnt t ≤ upc cnt [19, 20, 21, 22, 23, 24] t := upc_le
      omega
  refine ⟨up2 ad [19, 20, 21, 22, 23, 24] (cnt 19) (fun k => if k = 19 then h0 else if k = 20 then q1 else if k = 21 then q2 else if k = 22 then q3 else if k = 23 then q4 else q5), upc cnt [19, 20, 21, 22, 23, 24], up2 X [19, 20, 21, 22, 23, 24] (cnt 19) (fun k j => if k = 19 then (if j = 0 then n else if j = 1 ∨ j = 6 then 0 else X 19 (cnt 19) j) else if k = 24 then X 24 (cnt 19) j else 0), up2 Y [24] (cnt 19) (fun _ _ => none), ln, wx_wd (grow (E := []) hw hc0 hKn hOw (fun _ _ _ => rfl) (fun k i g0 g1 => ?_) hrf1 ?_), ext_up hKn (fun _ _ _ => rfl), hFx1, own_up hOw hFx1 (by decide +kernel), hLn, hR1, hF1, fun k i j hm => ?_, upc_s (by decide), by rw [up2_s (by decide)]; rfl, by rw [up2_s (by decide)]; rfl, by rw [up2_s (by decide)]; rfl, fun i hi => up2_n hi, fun i hi => up2_n hi, fun _ => rfl, by rw [up2_s (by decide)]; rfl, fun k i hi => up2_n hi⟩
  · have hne : ¬ (k ∈ [24] ∧ i = cnt 19) := fun q => by
      have h1 : k = 24 := by simpa using q.1
      have := hKn k (by rw [h1]; decide)
      omega
    simp only [up2, if_neg hne]
  · have e0 : ceE tc (up2 ad [19, 20, 21, 22, 23, 24] (cnt 19) (fun k => if k = 19 then h0 else if k = 20 then q1 else if k = 21 then q2 else if k = 22 then q3 else if k = 23 then q4 else q5)) (up2 X [19, 20, 21, 22, 23, 24] (cnt 19) (fun k j => if k = 19 then (if j = 0 then n else if j = 1 ∨ j = 6 then 0 else X 19 (cnt 19) j) else if k = 24 then X 24 (cnt 19) j else 0)) (up2 Y [24] (cnt 19) (fun _ _ => none)) ln 19 (cnt 19) = .inr (7, [.int (jI n), .int 0, .ref q1, .ref q2, .ref q3, .ref q4, .int 0, .ref q5]) := by
      rw [ob_E sl_19_0]
      have t0 : slo 19 0 = (0, 0) := sl_19_0.2.2.1
      have t1 : slo 19 1 = (0, 0) := sl_19_1.2.2.1
      have t2 : slo 19 2 = (3, 20) := sl_19_2.2.2.1
      have t3 : slo 19 3 = (3, 21) := sl_19_3.2.2.1
      have t4 : slo 19 4 = (3, 22) := sl_19_4.2.2.1
      have t5 : slo 19 5 = (3, 23) := sl_19_5.2.2.1
      have t6 : slo 19 6 = (0, 0) := sl_19_6.2.2.1
      have t7 : slo 19 7 = (3, 24) := sl_19_7.2.2.1
      simp only [List.range, List.range.loop, List.map, slV, t0, t1, t2, t3, t4, t5, t6, t7]
      simp [up2]
      decide
    have e20 : ceE tc (up2 ad [19, 20, 21, 22, 23, 24] (cnt 19) (fun k => if k = 19 then h0 else if k = 20 then q1 else if k = 21 then q2 else if k = 22 then q3 else if k = 23 then q4 else q5)) (up2 X [19, 20, 21, 22, 23, 24] (cnt 19) (fun k j => if k = 19 then (if j = 0 then n else if j = 1 ∨ j = 6 then 0 else X 19 (cnt 19) j) else if k = 24 then X 24 (cnt 19) j else 0)) (up2 Y [24] (cnt 19) (fun _ _ => none)) ln 20 (cnt 19) = .inl (tc 0, (5 : Int).toNat, .inl (fun _ => 0)) := by
      rw [ar_iE ar_20, up2_s (by decide)]
      rw [show lenE ln 20 (cnt 19) = 5 from len_E ar_20 (by decide)]
      rfl
    have e21 : ceE tc (up2 ad [19, 20, 21, 22, 23, 24] (cnt 19) (fun k => if k = 19 then h0 else if k = 20 then q1 else if k = 21 then q2 else if k = 22 then q3 else if k = 23 then q4 else q5)) (up2 X [19, 20, 21, 22, 23, 24] (cnt 19) (fun k j => if k = 19 then (if j = 0 then n else if j = 1 ∨ j = 6 then 0 else X 19 (cnt 19) j) else if k = 24 then X 24 (cnt 19) j else 0)) (up2 Y [24] (cnt 19) (fun _ _ => none)) ln 21 (cnt 19) = .inl (tc 0, (5 : Int).toNat, .inl (fun _ => 0)) := by
      rw [ar_iE ar_21, up2_s (by decide)]
      rw [show lenE ln 21 (cnt 19) = 5 from len_E ar_21 (by decide)]
      rfl
    have e22 : ceE tc (up2 ad [19, 20, 21, 22, 23, 24] (cnt 19) (fun k => if k = 19 then h0 else if k = 20 then q1 else if k = 21 then q2 else if k = 22 then q3 else if k = 23 then q4 else q5)) (up2 X [19, 20, 21, 22, 23, 24] (cnt 19) (fun k j => if k = 19 then (if j = 0 then n else if j = 1 ∨ j = 6 then 0 else X 19 (cnt 19) j) else if k = 24 then X 24 (cnt 19) j else 0)) (up2 Y [24] (cnt 19) (fun _ _ => none)) ln 22 (cnt 19) = .inl (tc 1, (5 : Int).toNat, .inr (.inl (fun _ => 0))) := by
      rw [ar_lE ar_22, up2_s (by decide)]
      rw [show lenE ln 22 (cnt 19) = 5 from len_E ar_22 (by decide)]
      rfl
    have e23 : ceE tc (up2 ad [19, 20, 21, 22, 23, 24] (cnt 19) (fun k => if k = 19 then h0 else if k = 20 then q1 else if k = 21 then q2 else if k = 22 then q3 else if k = 23 then q4 else q5)) (up2 X [19, 20, 21, 22, 23, 24] (cnt 19) (fun k j => if k = 19 then (if j = 0 then n else if j = 1 ∨ j = 6 then 0 else X 19 (cnt 19) j) else if k = 24 then X 24 (cnt 19) j else 0)) (up2 Y [24] (cnt 19) (fun _ _ => none)) ln 23 (cnt 19) = .inl (tc 2, (5 : Int).toNat, .inl (fun _ => 0)) := by
      rw [ar_iE ar_23, up2_s (by decide)]
      rw [show lenE ln 23 (cnt 19) = 5 from len_E ar_23 (by decide)]
      rfl
    have e24 : ceE tc (up2 ad [19, 20, 21, 22, 23, 24] (cnt 19) (fun k => if k = 19 then h0 else if k = 20 then q1 else if k = 21 then q2 else if k = 22 then q3 else if k = 23 then q4 else q5)) (up2 X [19, 20, 21, 22, 23, 24] (cnt 19) (fun k j => if k = 19 then (if j = 0 then n else if j = 1 ∨ j = 6 then 0 else X 19 (cnt 19) j) else if k = 24 then X 24 (cnt 19) j else 0)) (up2 Y [24] (cnt 19) (fun _ _ => none)) ln 24 (cnt 19) = .inl (tc 3, (4 : Int).toNat, .inr (.inr (.inr (.inr (fun _ => none))))) := by
      rw [ar_rE ar_24, up2_s (by decide)]
      rw [show lenE ln 24 (cnt 19) = 4 from len_E ar_24 (by decide)]
      rfl
    simp only [wlE, List.map, e0, e20, e21, e22, e23, e24]
    rw [up2_s (by decide), up2_s (by decide), up2_s (by decide), up2_s (by decide), up2_s (by decide), up2_s (by decide)]
    rfl
  · by_cases hc : k ∈ [24] ∧ i = cnt 19
    · exfalso
      have h1 : k = 24 := by simpa using hc.1
      rw [h1, fc_arr 24 (by decide +kernel)] at hm
      exact hm (by decide)
    · simp only [up2, if_neg hc]
