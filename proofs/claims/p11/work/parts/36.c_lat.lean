set_option maxHeartbeats 4000000 in
set_option maxRecDepth 100000 in
theorem c_L_at (l : Launch) (hlT : l.stackTraces = false) (D : va_G) (tc : Nat → ClassId) (base : Nat) (ad : Nat → Int → Nat) (cnt : Nat → Int) (X : Nat → Int → Int → Int) (Y : Nat → Int → Int → Option Int) (ln : Int → Int) (hR : Rng X) (hFx : Fx cnt) (hLn : LnOK ln) (hCI : CInv cnt X Y ln) (x k : Int) (hqx : -2147483648 ≤ x ∧ x ≤ 2147483647) (hqk : -2147483648 ≤ k ∧ k ≤ 2147483647) : vx_Met l yL_at wsL_at ({ frames := 7, cells := 1, slots := 6, locals := 106 } : Room) (PcT D tc base (ad, cnt, X, Y, ln) [.ref (ad 0 0), .int (jI x), .int (jI k), .ref (ad 100 0)]) (QI D tc base (fun z u => ∃ X1 : Nat → Int → Int → Int, u = (ad, cnt, X1, Y, ln) ∧ Rng X1 ∧ Frm [10000] X X1 ∧ (0 ≤ z ∧ z ≤ 3))) (XF base) 1 6 (frA base) := by
  refine KH_of (cc := cL_at) (maxL := 5) (ret := some .int) (hh := [(0, 9, 12, 13), (0, 9, 16, 15)]) (by decide) rfl (Nat.le_of_ble_eq_true rfl) ?_
  intro p e s m below meth c ls hx hb hr hml hown hts hlocks htab hl hK hT hw hS
  have hown : s.vm.findClass RL = some m.cls := hown
  have hl : lv_has ls 5 [(0, .ref (ad 0 0)), (1, .int (jI x)), (2, .int (jI k)), (3, .ref (ad 100 0))] := hl
  have hc0 : cnt 0 = 1 := hFx.at 0 1 (by decide)
  have hc100 : cnt 100 = 1 := hFx.at 100 1 (by decide)
  refine lv_aload_n hx hb dL_at_0 rfl (lv_at hl 3 rfl) ?_
  refine lv_iconst (v := jI 0) hx hb dL_at_1 rfl ?_
  refine lv_aload_n hx hb dL_at_2 rfl (lv_at hl 0 rfl) ?_
  refine lv_iload_n hx hb dL_at_3 rfl (lv_at hl 1 rfl) ?_
  refine lv_iload_n hx hb dL_at_4 rfl (lv_at hl 2 rfl) ?_
  refine vx_calll (run_T (As := [.int (jI x), .int (jI k)]) (rest := [.int (jI 0), .ref (ad 100 0)]) hx hb hml hown hts (c_X8_at l hlT D tc base ad cnt X Y ln hR hFx hLn hCI x k hqx hqk) (cwV 2 hts gL_at_X8_at rfl rfl rfl (by decide +kernel) ⟨Nat.le_of_ble_eq_true rfl, Nat.le_of_ble_eq_true rfl⟩) hK hT hS hw (by omega) (by omega) sl_0_0 rfl rfl hl.1 rfl (Nat.le_of_ble_eq_true rfl) dL_at_5 ⟨Nat.le_of_ble_eq_true rfl, Nat.le_of_ble_eq_true rfl⟩) hS (fun q _ h => h) (fun q h => h) (fun q _ h => h) ?_ ?_
  · intro E ce q9 u9 t H1 locs1 ht hvm hp hB hz hk1 hS1 hcell hv hcl
    obtain ⟨hE, hw1⟩ := hB
    rw [ht] at hw1
    simp only [List.mem_cons, List.not_mem_nil, or_false] at hE
    rcases hE with rfl | rfl
    · refine vx_catch (name := eA) hown [] ⟨0, 9, 12, 13⟩ [⟨0, 9, 16, 15⟩] (by rw [htab]; rfl) (fun z hz => nomatch hz) (by decide) (by decide) (hts (.classLink RL 13 eA) (by decide +kernel)) (va_Nw.use rfl hT.2.2.1.1) hcell hv hcl ?_
      refine lv_astore (lv' := [(4, .ref q9), (0, .ref (ad 0 0)), (1, .int (jI x)), (2, .int (jI k)), (3, .ref (ad 100 0))]) hx hb dL_at_12 hl (by decide) rfl (fun ls hl => ?_)
      refine lv_iconst (v := jI 1) hx hb dL_at_14 rfl ?_
      refine vx_ret ?_
      exact ret_i (mc := 1) (ms := 6) (z := 1) hx hb hr hlocks hw1 hS1 (by omega) (by omega) dL_at_15 ⟨X, rfl, hR, Frm.rf, by omega⟩
    · refine vx_catch (name := eI) hown [⟨0, 9, 12, 13⟩] ⟨0, 9, 16, 15⟩ [] (by rw [htab]; rfl) (fun z hz => by rw [List.mem_singleton.mp hz]; exact Or.inr ⟨by decide, eA, hts (.classLink RL 13 eA) (by decide +kernel), hT.2.2.2.1.1⟩) (by decide) (by decide) (hts (.classLink RL 15 eI) (by decide +kernel)) (va_Nw.use rfl hT.2.2.1.2.1) hcell hv hcl ?_
      refine lv_astore (lv' := [(4, .ref q9), (0, .ref (ad 0 0)), (1, .int (jI x)), (2, .int (jI k)), (3, .ref (ad 100 0))]) hx hb dL_at_16 hl (by decide) rfl (fun ls hl => ?_)
      refine lv_iconst (v := jI 2) hx hb dL_at_18 rfl ?_
      refine vx_ret ?_
      exact ret_i (mc := 1) (ms := 6) (z := 2) hx hb hr hlocks hw1 hS1 (by omega) (by omega) dL_at_19 ⟨X, rfl, hR, Frm.rf, by omega⟩
  · intro r u9 t H1 locs1 ht hvm hp hB hz hk1 hS1
    obtain ⟨z, rfl, rfl, hz9⟩ := hp
    rw [ht] at hB
    refine x_last hx hb hK.1 hB hS1 (by omega) (by omega) ar_100 (len_E ar_100 (by decide)) (by omega) (by omega) (by omega) dL_at_8 (fun H locs hw hS => ?_)
    refine lv_goto (tgt := 20) hx hb dL_at_9 (by decide) ?_
    refine lv_iconst (v := jI 0) hx hb dL_at_20 rfl ?_
    refine vx_ret ?_
    exact ret_i (mc := 1) (ms := 6) (z := 0) hx hb hr hlocks hw hS (by omega) (by omega) dL_at_21 ⟨_, rfl, rng_set hR (show (-9223372036854775808) ≤ z ∧ z ≤ 9223372036854775807 by omega), Frm.set Frm.rf (by decide), by omega⟩

set_option maxHeartbeats 4000000 in
set_option maxRecDepth 100000 in
theorem c_L_itemAt (l : Launch) (hlT : l.stackTraces = false) (D : va_G) (tc : Nat → ClassId) (base : Nat) (ad : Nat → Int → Nat) (cnt : Nat → Int) (X : Nat → Int → Int → Int) (Y : Nat → Int → Int → Option Int) (ln : Int → Int) (hR : Rng X) (hFx : Fx cnt) (hLn : LnOK ln) (hCI : CInv cnt X Y ln) (x k i : Int) (hqx : -2147483648 ≤ x ∧ x ≤ 2147483647) (hqk : -2147483648 ≤ k ∧ k ≤ 2147483647) (hqi : -2147483648 ≤ i ∧ i ≤ 2147483647) : vx_Met l yL_itemAt wsL_itemAt ({ frames := 7, cells := 1, slots := 6, locals := 107 } : Room) (PcT D tc base (ad, cnt, X, Y, ln) [.ref (ad 0 0), .int (jI x), .int (jI k), .int (jI i), .ref (ad 100 0)]) (QI D tc base (fun z u => ∃ X1 : Nat → Int → Int → Int, u = (ad, cnt, X1, Y, ln) ∧ Rng X1 ∧ Frm [10000] X X1 ∧ (0 ≤ z ∧ z ≤ 3))) (XF base) 1 6 (frA base) := by
  refine KH_of (cc := cL_itemAt) (maxL := 6) (ret := some .int) (hh := [(0, 11, 14, 13), (0, 11, 18, 21), (0, 11, 22, 15)]) (by decide) rfl (Nat.le_of_ble_eq_true rfl) ?_
  intro p e s m below meth c ls hx hb hr hml hown hts hlocks htab hl hK hT hw hS
  have hown : s.vm.findClass RL = some m.cls := hown
  have hl : lv_has ls 6 [(0, .ref (ad 0 0)), (1, .int (jI x)), (2, .int (jI k)), (3, .int (jI i)), (4, .ref (ad 100 0))] := hl
  have hc0 : cnt 0 = 1 := hFx.at 0 1 (by decide)
  have hc100 : cnt 100 = 1 := hFx.at 100 1 (by decide)
  refine lv_aload hx hb dL_itemAt_0 (lv_at hl 4 rfl) ?_
  refine lv_iconst (v := jI 0) hx hb dL_itemAt_2 rfl ?_
  refine lv_aload_n hx hb dL_itemAt_3 rfl (lv_at hl 0 rfl) ?_
  refine lv_iload_n hx hb dL_itemAt_4 rfl (lv_at hl 1 rfl) ?_
  refine lv_iload_n hx hb dL_itemAt_5 rfl (lv_at hl 2 rfl) ?_
  refine lv_iload_n hx hb dL_itemAt_6 rfl (lv_at hl 3 rfl) ?_
  refine vx_calll (run_T (As := [.int (jI x), .int (jI k), .int (jI i)]) (rest := [.int (jI 0), .ref (ad 100 0)]) hx hb hml hown hts (c_X8_itemAt l hlT D tc base ad cnt X Y ln hR hFx hLn hCI x k i hqx hqk hqi) (cwV 3 hts gL_itemAt_X8_itemAt rfl rfl rfl (by decide +kernel) ⟨Nat.le_of_ble_eq_true rfl, Nat.le_of_ble_eq_true rfl⟩) hK hT hS hw (by omega) (by omega) sl_0_0 rfl rfl hl.1 rfl (Nat.le_of_ble_eq_true rfl) dL_itemAt_7 ⟨Nat.le_of_ble_eq_true rfl, Nat.le_of_ble_eq_true rfl⟩) hS (fun q _ h => h) (fun q h => h) (fun q _ h => h) ?_ ?_
  · intro E ce q9 u9 t H1 locs1 ht hvm hp hB hz hk1 hS1 hcell hv hcl
    obtain ⟨hE, hw1⟩ := hB
    rw [ht] at hw1
    simp only [List.mem_cons, List.not_mem_nil, or_false] at hE
    rcases hE with rfl | rfl | rfl
    · refine vx_catch (name := eA) hown [] ⟨0, 11, 14, 13⟩ [⟨0, 11, 18, 21⟩, ⟨0, 11, 22, 15⟩] (by rw [htab]; rfl) (fun z hz => nomatch hz) (by decide) (by decide) (hts (.classLink RL 13 eA) (by decide +kernel)) (va_Nw.use rfl hT.2.2.1.1) hcell hv hcl ?_
      refine lv_astore (lv' := [(5, .ref q9), (0, .ref (ad 0 0)), (1, .int (jI x)), (2, .int (jI k)), (3, .int (jI i)), (4, .ref (ad 100 0))]) hx hb dL_itemAt_14 hl (by decide) rfl (fun ls hl => ?_)
      refine lv_iconst (v := jI 1) hx hb dL_itemAt_16 rfl ?_
      refine vx_ret ?_
      exact ret_i (mc := 1) (ms := 6) (z := 1) hx hb hr hlocks hw1 hS1 (by omega) (by omega) dL_itemAt_17 ⟨X, rfl, hR, Frm.rf, by omega⟩
    · refine vx_catch (name := eI) hown [⟨0, 11, 14, 13⟩, ⟨0, 11, 18, 21⟩] ⟨0, 11, 22, 15⟩ [] (by rw [htab]; rfl) (fun z hz => by exact (List.mem_cons.mp hz).elim (fun h => by rw [h]; exact Or.inr ⟨by decide, eA, hts (.classLink RL 13 eA) (by decide +kernel), hT.2.2.2.1.1⟩) (fun h => by rw [List.mem_singleton.mp h]; exact Or.inr ⟨by decide, eS, hts (.classLink RL 21 eS) (by decide +kernel), hT.2.2.2.1.2.2⟩)) (by decide) (by decide) (hts (.classLink RL 15 eI) (by decide +kernel)) (va_Nw.use rfl hT.2.2.1.2.1) hcell hv hcl ?_
      refine lv_astore (lv' := [(5, .ref q9), (0, .ref (ad 0 0)), (1, .int (jI x)), (2, .int (jI k)), (3, .int (jI i)), (4, .ref (ad 100 0))]) hx hb dL_itemAt_22 hl (by decide) rfl (fun ls hl => ?_)
      refine lv_iconst (v := jI 3) hx hb dL_itemAt_24 rfl ?_
      refine vx_ret ?_
      exact ret_i (mc := 1) (ms := 6) (z := 3) hx hb hr hlocks hw1 hS1 (by omega) (by omega) dL_itemAt_25 ⟨X, rfl, hR, Frm.rf, by omega⟩
    · refine vx_catch (name := eS) hown [⟨0, 11, 14, 13⟩] ⟨0, 11, 18, 21⟩ [⟨0, 11, 22, 15⟩] (by rw [htab]; rfl) (fun z hz => by rw [List.mem_singleton.mp hz]; exact Or.inr ⟨by decide, eA, hts (.classLink RL 13 eA) (by decide +kernel), hT.2.2.2.1.2.1⟩) (by decide) (by decide) (hts (.classLink RL 21 eS) (by decide +kernel)) (va_Nw.use rfl hT.2.2.1.2.2) hcell hv hcl ?_
      refine lv_astore (lv' := [(5, .ref q9), (0, .ref (ad 0 0)), (1, .int (jI x)), (2, .int (jI k)), (3, .int (jI i)), (4, .ref (ad 100 0))]) hx hb dL_itemAt_18 hl (by decide) rfl (fun ls hl => ?_)
      refine lv_iconst (v := jI 2) hx hb dL_itemAt_20 rfl ?_
      refine vx_ret ?_
      exact ret_i (mc := 1) (ms := 6) (z := 2) hx hb hr hlocks hw1 hS1 (by omega) (by omega) dL_itemAt_21 ⟨X, rfl, hR, Frm.rf, by omega⟩
  · intro r u9 t H1 locs1 ht hvm hp hB hz hk1 hS1
    obtain ⟨z, rfl, rfl, hz9⟩ := hp
    rw [ht] at hB
    refine x_last hx hb hK.1 hB hS1 (by omega) (by omega) ar_100 (len_E ar_100 (by decide)) (by omega) (by omega) (by omega) dL_itemAt_10 (fun H locs hw hS => ?_)
    refine lv_goto (tgt := 26) hx hb dL_itemAt_11 (by decide) ?_
    refine lv_iconst (v := jI 0) hx hb dL_itemAt_26 rfl ?_
    refine vx_ret ?_
    exact ret_i (mc := 1) (ms := 6) (z := 0) hx hb hr hlocks hw hS (by omega) (by omega) dL_itemAt_27 ⟨_, rfl, rng_set hR (show (-9223372036854775808) ≤ z ∧ z ≤ 9223372036854775807 by omega), Frm.set Frm.rf (by decide), by omega⟩

