set_option maxHeartbeats 4000000 in
set_option maxRecDepth 100000 in
theorem c_X8_recordNumberOf (l : Launch) (D : va_G) (tc : Nat → ClassId) (base : Nat) (ad : Nat → Int → Nat) (cnt : Nat → Int) (X : Nat → Int → Int → Int) (Y : Nat → Int → Int → Option Int) (ln : Int → Int) (hR : Rng X) (hFx : Fx cnt) (hLn : LnOK ln) (hCI : CInv cnt X Y ln) (x g : Int) (hx0 : 0 ≤ x ∧ x ≤ 29) (hxt : x < X 0 0 3) (hg : 0 ≤ g ∧ g < 6) (hO : rcOK X Y g) : KI l D tc base yX8_recordNumberOf wsX8_recordNumberOf ({ frames := 0, cells := 0, slots := 0, locals := 0 } : Room) [.ref (ad 0 0), .ref (ad 15 x), .ref (ad 7 g)] (ad, cnt, X, Y, ln) 0 0 (fun z u => ∃ (X1 : Nat → Int → Int → Int) (Y1 : Nat → Int → Int → Option Int), u = (ad, cnt, X1, Y1, ln) ∧ Rng X1 ∧ Frm [1504, 701, 800, 900] X X1 ∧ Frm [500] Y Y1 ∧ CInv cnt X1 Y1 ln ∧ (0 ≤ z ∧ z ≤ 29) ∧ rcOK X1 Y1 g ∧ X 7 g 0 ≤ X1 7 g 0) := by
  refine K_of (cc := cX8_recordNumberOf) (maxL := 3) (ret := (some .int)) (by decide) rfl (Nat.le_of_ble_eq_true rfl) ?_
  intro p e s m below meth c ls hx hb hr hml hown hts hlocks hl hK hw hS
  have hown : s.vm.findClass RX8 = some m.cls := hown
  have hi4 : ∀ w ∈ wsX40, w ∈ wsX8_recordNumberOf := fun w h => List.mem_cons_of_mem _ (List.mem_append_left _ (List.mem_append_left _ (List.mem_append_right _ h)))
  have hf4 : fctx s m _ RX8 wsX8_recordNumberOf D tc RX4 TX4 9 4 := ⟨hts, hi4, hown, hK.1, rfl⟩
  have hi6 : ∀ w ∈ wsX60, w ∈ wsX8_recordNumberOf := fun w h => List.mem_cons_of_mem _ (List.mem_append_left _ (List.mem_append_left _ (List.mem_append_left _ (List.mem_append_right _ h))))
  have hf6 : fctx s m _ RX8 wsX8_recordNumberOf D tc RX6 TX6 4 6 := ⟨hts, hi6, hown, hK.1, rfl⟩
  have hi7 : ∀ w ∈ wsX70, w ∈ wsX8_recordNumberOf := fun w h => List.mem_cons_of_mem _ (List.mem_append_right _ h)
  have hf7 : fctx s m _ RX8 wsX8_recordNumberOf D tc RX7 TX7 8 7 := ⟨hts, hi7, hown, hK.1, rfl⟩
  have hi8 : ∀ w ∈ wsX80, w ∈ wsX8_recordNumberOf := fun w h => List.mem_cons_of_mem _ (List.mem_append_left _ (List.mem_append_right _ h))
  have hf8 : fctx s m _ RX8 wsX8_recordNumberOf D tc RX8 TX8 12 8 := ⟨hts, hi8, hown, hK.1, rfl⟩
  have lk39 := hts (.fieldLink RX8 39 "StateRecords" "recorded" "[LStateRecords$Thing;") (by decide +kernel)
  have lk85 := hts (.fieldLink RX8 85 "StateRecords$Type" "fieldCount" "I") (by decide +kernel)
  have lk97 := hts (.fieldLink RX8 97 "StateRecords$Thing" "type" "LStateRecords$Type;") (by decide +kernel)
  have lk205 := hts (.fieldLink RX8 205 "StateRecords$Type" "number" "I") (by decide +kernel)
  have lk231 := hts (.fieldLink RX8 231 "StateRecords$Records" "recordCount" "I") (by decide +kernel)
  have lk333 := hts (.fieldLink RX8 333 "StateRecords$Thing" "recordNumber" "I") (by decide +kernel)
  have lk336 := hts (.fieldLink RX8 336 "StateRecords$Records" "types" "[I") (by decide +kernel)
  have lk338 := hts (.fieldLink RX8 338 "StateRecords$Records" "fieldCounts" "[I") (by decide +kernel)
  have hc0 : cnt 0 = 1 := hFx.at 0 1 (by decide)
  have hc5 : cnt 5 = 1 := hFx.at 5 1 (by decide)
  have hc7 : cnt 7 = 6 := hFx.at 7 6 (by decide)
  have hc8 : cnt 8 = 6 := hFx.at 8 6 (by decide)
  have hc9 : cnt 9 = 6 := hFx.at 9 6 (by decide)
  have hc15 : cnt 15 = 30 := hFx.at 15 30 (by decide)
  have hl : lv_has ls 3 [(0, .ref (ad 0 0)), (1, .ref (ad 15 x)), (2, .ref (ad 7 g))] := hl
  have ftc : 0 ≤ X 0 0 3 ∧ X 0 0 3 ≤ 30 := hR 0 0 3
  have fty : 0 ≤ X 0 0 1 ∧ X 0 0 1 ≤ 8 := hR 0 0 1
  have hct : cnt 19 = X 0 0 1 := hCI.2.2.2.1.1
  have hfj : 0 ≤ X 29 0 3 ∧ X 29 0 3 ≤ 4 := hR 29 0 3
  have hfn : 0 ≤ X 29 0 1 ∧ X 29 0 1 ≤ 80 := hR 29 0 1
  refine lv_aload_n hx hb dX8_recordNumberOf_0 rfl (lv_at hl 1 rfl) ?_
  refine x_geti (jz := 3) hx hb hf6 hw (by omega) (by omega) sl_15_3 rfl lk333 dX8_recordNumberOf_1 ?_
  have f1 : (-1) ≤ X 15 x 3 ∧ X 15 x 3 ≤ 29 := hR 15 x 3
  refine lv_iconst (v := jI (-1)) hx hb dX8_recordNumberOf_4 rfl ?_
  refine x_icmp_ne (tgt := 68) hx hb (by omega) (by omega) dX8_recordNumberOf_5 (by decide) (fun c2 => ?_) (fun c2 => ?_)
  · refine lv_aload_n hx hb dX8_recordNumberOf_68 rfl (lv_at hl 1 rfl) ?_
    skip
    refine x_geti (jz := 3) hx hb hf6 hw (by omega) (by omega) sl_15_3 rfl lk333 dX8_recordNumberOf_69 ?_
    have f3 : (-1) ≤ X 15 x 3 ∧ X 15 x 3 ≤ 29 := hR 15 x 3
    refine ret_i (mc := 0) (ms := 0) hx hb hr hlocks hw hS (by omega) (by omega) dX8_recordNumberOf_72 ?_
    exact ⟨X, Y, rfl, hR, Frm.rf, Frm.rf, hCI, by omega, hO, Int.le_refl _⟩
  · have hrc : X 7 g 0 ≤ 29 := hO.room hR (by omega) hxt (by omega)
    refine lv_aload_n hx hb dX8_recordNumberOf_8 rfl (lv_at hl 1 rfl) ?_
    refine lv_aload_n hx hb dX8_recordNumberOf_9 rfl (lv_at hl 2 rfl) ?_
    refine x_geti (jz := 0) hx hb hf4 hw (by omega) (by omega) sl_7_0 rfl lk231 dX8_recordNumberOf_10 ?_
    have f4 : 0 ≤ X 7 g 0 ∧ X 7 g 0 ≤ 30 := hR 7 g 0
    refine x_puti (jz := 3) hx hb hf6 ⟨tyX6_ok, nmX6⟩ hw hS (by omega) (by omega) sl_15_3 rfl lk333 rfl (tyX6_ok 3 (by decide)) rfl rfl dX8_recordNumberOf_13 (fun H locs hw hS => ?_)
    obtain ⟨X5, hX5⟩ : ∃ Xq, Xq = u3 X 15 x 3 (X 7 g 0) := ⟨_, rfl⟩
    rw [← hX5] at hw
    have hRX5 : Rng X5 := by rw [hX5]; exact rng_set hR (show (-1) ≤ (X 7 g 0) ∧ (X 7 g 0) ≤ 29 by omega)
    have hVX5 : X5 15 x 3 = (X 7 g 0) := by rw [hX5]; exact u3_s _ _ _ _ _
    have hFX5 : Frm [1504, 701, 800, 900] X X5 := by rw [hX5]; exact Frm.set Frm.rf (show 1504 ∈ [1504, 701, 800, 900] by decide)
    refine lv_aload_n hx hb dX8_recordNumberOf_16 rfl (lv_at hl 0 rfl) ?_
    refine x_geto hx hb hf8 hw (by omega) (by omega) sl_0_8 lk39 dX8_recordNumberOf_17 ?_
    refine lv_aload_n hx hb dX8_recordNumberOf_20 rfl (lv_at hl 2 rfl) ?_
    refine x_geti (jz := 0) hx hb hf4 hw (by omega) (by omega) sl_7_0 rfl lk231 dX8_recordNumberOf_21 ?_
    have e6 : X5 7 g 0 = X 7 g 0 := by rw [hX5, u3_k _ _ _ _ (by decide)]
    rw [e6]
    have f7 : 0 ≤ X 7 g 0 ∧ X 7 g 0 ≤ 30 := hR 7 g 0
    refine lv_aload_n hx hb dX8_recordNumberOf_24 rfl (lv_at hl 1 rfl) ?_
    refine x_aast hx hb hK.1 hw hS (by omega) (by omega) ar_5 rfl rfl sl_15_0 (len_E ar_5 (by decide)) (by omega) (by omega) (by omega) (by omega) (by omega) dX8_recordNumberOf_25 (fun H locs hw hS => ?_)
    obtain ⟨Y8, hY8⟩ : ∃ Yq, Yq = u3 Y 5 0 (X 7 g 0) (some x) := ⟨_, rfl⟩
    rw [← hY8] at hw
    have hVY8 : Y8 5 0 (X 7 g 0) = (some x) := by rw [hY8]; exact u3_s _ _ _ _ _
    have hHY8 : Frm [500] Y Y8 := by rw [hY8]; exact Frm.set Frm.rf (show 500 ∈ [500] by decide)
    refine lv_aload_n hx hb dX8_recordNumberOf_26 rfl (lv_at hl 2 rfl) ?_
    refine x_geto hx hb hf4 hw (by omega) (by omega) sl_7_1 lk336 dX8_recordNumberOf_27 ?_
    refine lv_aload_n hx hb dX8_recordNumberOf_30 rfl (lv_at hl 2 rfl) ?_
    refine x_geti (jz := 0) hx hb hf4 hw (by omega) (by omega) sl_7_0 rfl lk231 dX8_recordNumberOf_31 ?_
    have e9 : X5 7 g 0 = X 7 g 0 := by rw [hX5, u3_k _ _ _ _ (by decide)]
    rw [e9]
    have f10 : 0 ≤ X 7 g 0 ∧ X 7 g 0 ≤ 30 := hR 7 g 0
    refine lv_aload_n hx hb dX8_recordNumberOf_34 rfl (lv_at hl 1 rfl) ?_
    refine x_getr (jz := 0) hx hb hf6 hw (by omega) (by omega) sl_15_0 rfl lk97 dX8_recordNumberOf_35 (fun y11 => ?_) (fun r12 y11 gr12 lr12 => ?_)
    · exfalso
      have e13 : Y8 15 x 0 = Y 15 x 0 := by rw [hY8, u3_k _ _ _ _ (by decide)]
      rw [e13] at y11
      exact absurd y11 (hCI.2.2.2.2.1 x (by omega) (by omega))
    · have e14 : Y8 15 x 0 = Y 15 x 0 := by rw [hY8, u3_k _ _ _ _ (by decide)]
      rw [e14] at y11
      refine x_geti (jz := 0) hx hb hf7 hw (by omega) (by omega) sl_19_0 rfl lk205 dX8_recordNumberOf_38 ?_
      have e15 : X5 19 r12 0 = X 19 r12 0 := by rw [hX5, u3_k _ _ _ _ (by decide)]
      rw [e15]
      have f16 : 0 ≤ X 19 r12 0 ∧ X 19 r12 0 ≤ 7 := hR 19 r12 0
      refine x_iast hx hb hK.1 hw hS (by omega) (by omega) ar_8 (len_E ar_8 (by decide)) (by omega) (by omega) (by omega) dX8_recordNumberOf_41 (fun H locs hw hS => ?_)
      obtain ⟨X17, hX17⟩ : ∃ Xq, Xq = u3 X5 8 g (X 7 g 0) (X 19 r12 0) := ⟨_, rfl⟩
      rw [← hX17] at hw
      have hRX17 : Rng X17 := by rw [hX17]; exact rng_set hRX5 (show 0 ≤ (X 19 r12 0) ∧ (X 19 r12 0) ≤ 7 by omega)
      have hVX17 : X17 8 g (X 7 g 0) = (X 19 r12 0) := by rw [hX17]; exact u3_s _ _ _ _ _
      have hFX17 : Frm [1504, 701, 800, 900] X X17 := by rw [hX17]; exact Frm.set hFX5 (show 800 ∈ [1504, 701, 800, 900] by decide)
      refine lv_aload_n hx hb dX8_recordNumberOf_42 rfl (lv_at hl 2 rfl) ?_
      refine x_geto hx hb hf4 hw (by omega) (by omega) sl_7_2 lk338 dX8_recordNumberOf_43 ?_
      refine lv_aload_n hx hb dX8_recordNumberOf_46 rfl (lv_at hl 2 rfl) ?_
      refine x_geti (jz := 0) hx hb hf4 hw (by omega) (by omega) sl_7_0 rfl lk231 dX8_recordNumberOf_47 ?_
      have e18 : X17 7 g 0 = X 7 g 0 := by rw [hX17, u3_k _ _ _ _ (by decide), hX5, u3_k _ _ _ _ (by decide)]
      rw [e18]
      have f19 : 0 ≤ X 7 g 0 ∧ X 7 g 0 ≤ 30 := hR 7 g 0
      refine lv_aload_n hx hb dX8_recordNumberOf_50 rfl (lv_at hl 1 rfl) ?_
      refine x_getr (jz := 0) hx hb hf6 hw (by omega) (by omega) sl_15_0 rfl lk97 dX8_recordNumberOf_51 (fun y20 => ?_) (fun r21 y20 gr21 lr21 => ?_)
      · exfalso
        have e22 : Y8 15 x 0 = Y 15 x 0 := by rw [hY8, u3_k _ _ _ _ (by decide)]
        rw [e22] at y20
        rw [y11] at y20; cases y20
      · have e23 : Y8 15 x 0 = Y 15 x 0 := by rw [hY8, u3_k _ _ _ _ (by decide)]
        rw [e23] at y20
        have er21 : r21 = r12 := by rw [y11] at y20; cases y20; rfl
        rw [er21]
        refine x_geti (jz := 1) hx hb hf7 hw (by omega) (by omega) sl_19_1 rfl lk85 dX8_recordNumberOf_54 ?_
        have e24 : X17 19 r12 1 = X 19 r12 1 := by rw [hX17, u3_k _ _ _ _ (by decide), hX5, u3_k _ _ _ _ (by decide)]
        rw [e24]
        have f25 : 0 ≤ X 19 r12 1 ∧ X 19 r12 1 ≤ 5 := hR 19 r12 1
        refine x_iast hx hb hK.1 hw hS (by omega) (by omega) ar_9 (len_E ar_9 (by decide)) (by omega) (by omega) (by omega) dX8_recordNumberOf_57 (fun H locs hw hS => ?_)
        obtain ⟨X26, hX26⟩ : ∃ Xq, Xq = u3 X17 9 g (X 7 g 0) (X 19 r12 1) := ⟨_, rfl⟩
        rw [← hX26] at hw
        have hRX26 : Rng X26 := by rw [hX26]; exact rng_set hRX17 (show 0 ≤ (X 19 r12 1) ∧ (X 19 r12 1) ≤ 5 by omega)
        have hVX26 : X26 9 g (X 7 g 0) = (X 19 r12 1) := by rw [hX26]; exact u3_s _ _ _ _ _
        have hFX26 : Frm [1504, 701, 800, 900] X X26 := by rw [hX26]; exact Frm.set hFX17 (show 900 ∈ [1504, 701, 800, 900] by decide)
        refine lv_aload_n hx hb dX8_recordNumberOf_58 rfl (lv_at hl 2 rfl) ?_
        refine lv_dup hx hb dX8_recordNumberOf_59 rfl ?_
        refine x_geti (jz := 0) hx hb hf4 hw (by omega) (by omega) sl_7_0 rfl lk231 dX8_recordNumberOf_60 ?_
        have e27 : X26 7 g 0 = X 7 g 0 := by rw [hX26, u3_k _ _ _ _ (by decide), hX17, u3_k _ _ _ _ (by decide), hX5, u3_k _ _ _ _ (by decide)]
        rw [e27]
        have f28 : 0 ≤ X 7 g 0 ∧ X 7 g 0 ≤ 30 := hR 7 g 0
        refine lv_iconst (v := jI 1) hx hb dX8_recordNumberOf_63 rfl ?_
        refine x_iadd hx hb dX8_recordNumberOf_64 ?_
        refine x_puti (jz := 0) hx hb hf4 ⟨tyX4_ok, nmX4⟩ hw hS (by omega) (by omega) sl_7_0 rfl lk231 rfl (tyX4_ok 0 (by decide)) rfl rfl dX8_recordNumberOf_65 (fun H locs hw hS => ?_)
        obtain ⟨X29, hX29⟩ : ∃ Xq, Xq = u3 X26 7 g 0 ((X 7 g 0) + 1) := ⟨_, rfl⟩
        rw [← hX29] at hw
        have hRX29 : Rng X29 := by rw [hX29]; exact rng_set hRX26 (show 0 ≤ ((X 7 g 0) + 1) ∧ ((X 7 g 0) + 1) ≤ 30 by omega)
        have hVX29 : X29 7 g 0 = ((X 7 g 0) + 1) := by rw [hX29]; exact u3_s _ _ _ _ _
        have hFX29 : Frm [1504, 701, 800, 900] X X29 := by rw [hX29]; exact Frm.set hFX26 (show 701 ∈ [1504, 701, 800, 900] by decide)
        refine lv_aload_n hx hb dX8_recordNumberOf_68 rfl (lv_at hl 1 rfl) ?_
        skip
        refine x_geti (jz := 3) hx hb hf6 hw (by omega) (by omega) sl_15_3 rfl lk333 dX8_recordNumberOf_69 ?_
        have e30 : X29 15 x 3 = X5 15 x 3 := by rw [hX29, u3_k _ _ _ _ (by decide), hX26, u3_k _ _ _ _ (by decide), hX17, u3_k _ _ _ _ (by decide)]
        rw [e30]
        rw [hVX5]
        refine ret_i (mc := 0) (ms := 0) hx hb hr hlocks hw hS (by omega) (by omega) dX8_recordNumberOf_72 ?_
        have q31 : Frm [1504, 701, 800, 900, 707] X X5 := by rw [hX5]; exact Frm.set Frm.rf (show 1504 ∈ [1504, 701, 800, 900, 707] by decide)
        have q32 : Frm [1504, 701, 800, 900, 707] X X17 := by rw [hX17]; exact Frm.set q31 (show 800 ∈ [1504, 701, 800, 900, 707] by decide)
        have q33 : Frm [1504, 701, 800, 900, 707] X X26 := by rw [hX26]; exact Frm.set q32 (show 900 ∈ [1504, 701, 800, 900, 707] by decide)
        have q34 : Frm [1504, 701, 800, 900, 707] X X29 := by rw [hX29]; exact Frm.set q33 (show 701 ∈ [1504, 701, 800, 900, 707] by decide)
        have h35 : X 19 r12 0 = r12 := (hCI.2.2.2.1.2 r12 (by omega) (by omega)).2
        have e36 : X29 8 g (X 7 g 0) < X 0 0 1 := (by rw [hX29, u3_k _ _ _ _ (by decide), hX26, u3_k _ _ _ _ (by decide)]; rw [hVX17]; omega)
        exact ⟨X29, Y8, rfl, hRX29, hFX29, hHY8, cinv_record (g := g) hCI q34 hHY8 (fun i hi => ⟨(by rw [hX29, u3_ij (by omega), hX26, u3_k _ _ _ _ (by decide), hX17, u3_k _ _ _ _ (by decide), hX5, u3_k _ _ _ _ (by decide)]), fun j => (by rw [hX29, u3_k _ _ _ _ (by decide), hX26, u3_k _ _ _ _ (by decide), hX17, u3_ij (by omega), hX5, u3_k _ _ _ _ (by decide)])⟩) (fun r a b => if hr9 : r = X 7 g 0 then (by rw [hr9]; exact e36) else (by rw [hVX29] at b; rw [hX29, u3_k _ _ _ _ (by decide), hX26, u3_k _ _ _ _ (by decide), hX17, u3_ij (by omega), hX5, u3_k _ _ _ _ (by decide)]; exact hCI.2.2.2.2.2.2.1 g r (by omega) (by omega) a (by omega))), by omega, hO.push (x := x) (by omega) (by omega) (by omega) hVX29 (by rw [hX29, u3_k _ _ _ _ (by decide), hX26, u3_k _ _ _ _ (by decide), hX17, u3_k _ _ _ _ (by decide), hX5, u3_k _ _ _ _ (by decide)]) (by rw [hX29, u3_k _ _ _ _ (by decide), hX26, u3_k _ _ _ _ (by decide), hX17, u3_k _ _ _ _ (by decide)]; exact hVX5) (fun i hi => (by rw [hX29, u3_k _ _ _ _ (by decide), hX26, u3_k _ _ _ _ (by decide), hX17, u3_k _ _ _ _ (by decide), hX5, u3_ij (by omega)])) (by exact hVY8) (fun j hj => (by rw [hY8, u3_ij (by omega)])), (by rw [hVX29]; omega)⟩

set_option maxHeartbeats 4000000 in
set_option maxRecDepth 100000 in
theorem c_X4_numberOf (l : Launch) (D : va_G) (tc : Nat → ClassId) (base : Nat) (ad : Nat → Int → Nat) (cnt : Nat → Int) (X : Nat → Int → Int → Int) (Y : Nat → Int → Int → Option Int) (ln : Int → Int) (hR : Rng X) (hFx : Fx cnt) (hLn : LnOK ln) (hCI : CInv cnt X Y ln) (g r : Int) (hg : 0 ≤ g ∧ g < 6) (hr0 : 0 ≤ r ∧ r < cnt 26) (hrc : X 7 g 6 ≤ 149) : KI l D tc base yX4_numberOf wsX4_numberOf ({ frames := 0, cells := 0, slots := 0, locals := 0 } : Room) [.ref (ad 7 g), .ref (ad 26 r)] (ad, cnt, X, Y, ln) 0 0 (fun z u => ∃ (X1 : Nat → Int → Int → Int), u = (ad, cnt, X1, Y, ln) ∧ Rng X1 ∧ Frm [2602, 1300, 1400, 707] X X1 ∧ CInv cnt X1 Y ln ∧ (-1 ≤ z ∧ z ≤ 149) ∧ X1 7 g 6 ≤ X 7 g 6 + 1) := by
  refine K_of (cc := cX4_numberOf) (maxL := 3) (ret := (some .int)) (by decide) rfl (Nat.le_of_ble_eq_true rfl) ?_
  intro p e s m below meth c ls hx hb hr hml hown hts hlocks hl hK hw hS
  have hown : s.vm.findClass RX4 = some m.cls := hown
  have hi4 : ∀ w ∈ wsX40, w ∈ wsX4_numberOf := fun w h => List.mem_cons_of_mem _ (List.mem_append_right _ h)
  have hf4 : fctx s m _ RX4 wsX4_numberOf D tc RX4 TX4 9 4 := ⟨hts, hi4, hown, hK.1, rfl⟩
  have hi5 : ∀ w ∈ wsX50, w ∈ wsX4_numberOf := fun w h => List.mem_cons_of_mem _ (List.mem_append_left _ (List.mem_append_right _ h))
  have hf5 : fctx s m _ RX4 wsX4_numberOf D tc RX5 TX5 2 5 := ⟨hts, hi5, hown, hK.1, rfl⟩
  have lk28 := hts (.fieldLink RX4 28 "StateRecords$Records" "rowLengths" "[I") (by decide +kernel)
  have lk31 := hts (.fieldLink RX4 31 "StateRecords$Records" "items" "[J") (by decide +kernel)
  have lk34 := hts (.fieldLink RX4 34 "StateRecords$Row" "number" "I") (by decide +kernel)
  have lk40 := hts (.fieldLink RX4 40 "StateRecords$Records" "rowCount" "I") (by decide +kernel)
  have lk43 := hts (.fieldLink RX4 43 "StateRecords$Row" "items" "[J") (by decide +kernel)
  have hc7 : cnt 7 = 6 := hFx.at 7 6 (by decide)
  have hc13 : cnt 13 = 6 := hFx.at 13 6 (by decide)
  have hc14 : cnt 14 = 6 := hFx.at 14 6 (by decide)
  have hc27 : cnt 27 = cnt 26 := hFx.2.2
  have hl : lv_has ls 3 [(0, .ref (ad 7 g)), (1, .ref (ad 26 r))] := hl
  have ftc : 0 ≤ X 0 0 3 ∧ X 0 0 3 ≤ 30 := hR 0 0 3
  have fty : 0 ≤ X 0 0 1 ∧ X 0 0 1 ≤ 8 := hR 0 0 1
  have hct : cnt 19 = X 0 0 1 := hCI.2.2.2.1.1
  have hfj : 0 ≤ X 29 0 3 ∧ X 29 0 3 ≤ 4 := hR 29 0 3
  have hfn : 0 ≤ X 29 0 1 ∧ X 29 0 1 ≤ 80 := hR 29 0 1
  refine lv_aload_n hx hb dX4_numberOf_0 rfl (lv_at hl 1 rfl) ?_
  refine x_geti (jz := 1) hx hb hf5 hw (by omega) (by omega) sl_26_1 rfl lk34 dX4_numberOf_1 ?_
  have f1 : (-1) ≤ X 26 r 1 ∧ X 26 r 1 ≤ 149 := hR 26 r 1
  refine lv_iconst (v := jI (-1)) hx hb dX4_numberOf_4 rfl ?_
  refine x_icmp_ne (tgt := 77) hx hb (by omega) (by omega) dX4_numberOf_5 (by decide) (fun c2 => ?_) (fun c2 => ?_)
  · refine lv_aload_n hx hb dX4_numberOf_77 rfl (lv_at hl 1 rfl) ?_
    refine x_geti (jz := 1) hx hb hf5 hw (by omega) (by omega) sl_26_1 rfl lk34 dX4_numberOf_78 ?_
    have f3 : (-1) ≤ X 26 r 1 ∧ X 26 r 1 ≤ 149 := hR 26 r 1
    refine ret_i (mc := 0) (ms := 0) hx hb hr hlocks hw hS (by omega) (by omega) dX4_numberOf_81 ?_
    exact ⟨X, rfl, hR, Frm.rf, hCI, by omega, by omega⟩
  · refine lv_aload_n hx hb dX4_numberOf_8 rfl (lv_at hl 1 rfl) ?_
    refine lv_aload_n hx hb dX4_numberOf_9 rfl (lv_at hl 0 rfl) ?_
    refine x_geti (jz := 6) hx hb hf4 hw (by omega) (by omega) sl_7_6 rfl lk40 dX4_numberOf_10 ?_
    have f4 : 0 ≤ X 7 g 6 ∧ X 7 g 6 ≤ 150 := hR 7 g 6
    refine x_puti (jz := 1) hx hb hf5 ⟨tyX5_ok, nmX5⟩ hw hS (by omega) (by omega) sl_26_1 rfl lk34 rfl (tyX5_ok 1 (by decide)) rfl rfl dX4_numberOf_13 (fun H locs hw hS => ?_)
    obtain ⟨X5, hX5⟩ : ∃ Xq, Xq = u3 X 26 r 1 (X 7 g 6) := ⟨_, rfl⟩
    rw [← hX5] at hw
    have hRX5 : Rng X5 := by rw [hX5]; exact rng_set hR (show (-1) ≤ (X 7 g 6) ∧ (X 7 g 6) ≤ 149 by omega)
    have hVX5 : X5 26 r 1 = (X 7 g 6) := by rw [hX5]; exact u3_s _ _ _ _ _
    have hFX5 : Frm [2602, 1300, 1400, 707] X X5 := by rw [hX5]; exact Frm.set Frm.rf (show 2602 ∈ [2602, 1300, 1400, 707] by decide)
    refine lv_aload_n hx hb dX4_numberOf_16 rfl (lv_at hl 0 rfl) ?_
    refine x_geto hx hb hf4 hw (by omega) (by omega) sl_7_7 lk28 dX4_numberOf_17 ?_
    refine lv_aload_n hx hb dX4_numberOf_20 rfl (lv_at hl 0 rfl) ?_
    refine x_geti (jz := 6) hx hb hf4 hw (by omega) (by omega) sl_7_6 rfl lk40 dX4_numberOf_21 ?_
    have e6 : X5 7 g 6 = X 7 g 6 := by rw [hX5, u3_k _ _ _ _ (by decide)]
    rw [e6]
    have f7 : 0 ≤ X 7 g 6 ∧ X 7 g 6 ≤ 150 := hR 7 g 6
    refine lv_aload_n hx hb dX4_numberOf_24 rfl (lv_at hl 1 rfl) ?_
    refine x_geto hx hb hf5 hw (by omega) (by omega) sl_26_0 lk43 dX4_numberOf_25 ?_
    have f8 : 0 ≤ ln r ∧ ln r ≤ 12 := hLn r
    refine x_alenl hx hb hK.1 hw (by omega) (by omega) ar_27 (show lenE ln 27 r = ln r from rfl) (by omega) dX4_numberOf_28 ?_
    refine x_iast hx hb hK.1 hw hS (by omega) (by omega) ar_13 (len_E ar_13 (by decide)) (by omega) (by omega) (by omega) dX4_numberOf_29 (fun H locs hw hS => ?_)
    obtain ⟨X9, hX9⟩ : ∃ Xq, Xq = u3 X5 13 g (X 7 g 6) (ln r) := ⟨_, rfl⟩
    rw [← hX9] at hw
    have hRX9 : Rng X9 := by rw [hX9]; exact rng_set hRX5 (show 0 ≤ (ln r) ∧ (ln r) ≤ 12 by omega)
    have hVX9 : X9 13 g (X 7 g 6) = (ln r) := by rw [hX9]; exact u3_s _ _ _ _ _
    have hFX9 : Frm [2602, 1300, 1400, 707] X X9 := by rw [hX9]; exact Frm.set hFX5 (show 1300 ∈ [2602, 1300, 1400, 707] by decide)
    refine lv_iconst (v := jI 0) hx hb dX4_numberOf_30 rfl ?_
    refine lv_istore_n (lv' := [(2, .int (jI 0)), (0, .ref (ad 7 g)), (1, .ref (ad 26 r))]) hx hb dX4_numberOf_31 rfl hl (by decide) rfl (fun ls hl => ?_)
    have lp32 : ∀ (nn : Nat) (iz : Int) (Xa : Nat → Int → Int → Int) (H : Heap) (locs : List Loc) (ls : Array Slot), (12 - iz) < (nn : Int) → (Rng Xa) → (Frm [1400] X9 Xa) → (0 ≤ iz ∧ iz ≤ 12) → wd D tc base (ad, cnt, Xa, Y, ln) H → va_S (frA base) s.heap H locs → lv_has ls 3 [(0, .ref (ad 7 g)), (1, .ref (ad 26 r)), (2, .int (jI iz))] → W p l e ({ frames := 0, cells := 0, slots := 0, locals := 0 } : Room) s m ([.ref (ad 7 g), .ref (ad 26 r)] : List Value).toArray below meth c H locs 0 0 (MQ below (QI D tc base (fun z u => ∃ (X1 : Nat → Int → Int → Int), u = (ad, cnt, X1, Y, ln) ∧ Rng X1 ∧ Frm [2602, 1300, 1400, 707] X X1 ∧ CInv cnt X1 Y ln ∧ (-1 ≤ z ∧ z ≤ 149) ∧ X1 7 g 6 ≤ X 7 g 6 + 1)) ([.ref (ad 7 g), .ref (ad 26 r)] : List Value).toArray s 0 0 (frA base)) (F0 m 32 ls []) := by
      intro nn
      induction nn with
      | zero => intro iz Xa H locs ls hm hRXa hGXa hiz hw hS hl; exfalso; omega
      | succ nn ih32 =>
        intro iz Xa H locs ls hm hRXa hGXa hiz hw hS hl
        have hFXa : Frm [2602, 1300, 1400, 707] X Xa := Frm.tr hFX9 (Frm.mono hGXa (by decide))
        refine lv_iload_n hx hb dX4_numberOf_32 rfl (lv_at hl 2 rfl) ?_
        refine lv_aload_n hx hb dX4_numberOf_33 rfl (lv_at hl 1 rfl) ?_
        refine x_geto hx hb hf5 hw (by omega) (by omega) sl_26_0 lk43 dX4_numberOf_34 ?_
        have f10 : 0 ≤ ln r ∧ ln r ≤ 12 := hLn r
        refine x_alenl hx hb hK.1 hw (by omega) (by omega) ar_27 (show lenE ln 27 r = ln r from rfl) (by omega) dX4_numberOf_37 ?_
        refine x_icmp_ge (tgt := 67) hx hb (by omega) (by omega) dX4_numberOf_38 (by decide) (fun c11 => ?_) (fun c11 => ?_)
        · refine lv_aload_n hx hb dX4_numberOf_67 rfl (lv_at hl 0 rfl) ?_
          refine lv_dup hx hb dX4_numberOf_68 rfl ?_
          refine x_geti (jz := 6) hx hb hf4 hw (by omega) (by omega) sl_7_6 rfl lk40 dX4_numberOf_69 ?_
          have e12 : Xa 7 g 6 = X 7 g 6 := by rw [hGXa 7 g 6 (show 707 ∉ [1400] by decide), hX9, u3_k _ _ _ _ (by decide), hX5, u3_k _ _ _ _ (by decide)]
          rw [e12]
          have f13 : 0 ≤ X 7 g 6 ∧ X 7 g 6 ≤ 150 := hR 7 g 6
          refine lv_iconst (v := jI 1) hx hb dX4_numberOf_72 rfl ?_
          refine x_iadd hx hb dX4_numberOf_73 ?_
          refine x_puti (jz := 6) hx hb hf4 ⟨tyX4_ok, nmX4⟩ hw hS (by omega) (by omega) sl_7_6 rfl lk40 rfl (tyX4_ok 6 (by decide)) rfl rfl dX4_numberOf_74 (fun H locs hw hS => ?_)
          obtain ⟨X14, hX14⟩ : ∃ Xq, Xq = u3 Xa 7 g 6 ((X 7 g 6) + 1) := ⟨_, rfl⟩
          rw [← hX14] at hw
          have hRX14 : Rng X14 := by rw [hX14]; exact rng_set hRXa (show 0 ≤ ((X 7 g 6) + 1) ∧ ((X 7 g 6) + 1) ≤ 150 by omega)
          have hVX14 : X14 7 g 6 = ((X 7 g 6) + 1) := by rw [hX14]; exact u3_s _ _ _ _ _
          have hFX14 : Frm [2602, 1300, 1400, 707] X X14 := by rw [hX14]; exact Frm.set hFXa (show 707 ∈ [2602, 1300, 1400, 707] by decide)
          refine lv_aload_n hx hb dX4_numberOf_77 rfl (lv_at hl 1 rfl) ?_
          refine x_geti (jz := 1) hx hb hf5 hw (by omega) (by omega) sl_26_1 rfl lk34 dX4_numberOf_78 ?_
          have e15 : X14 26 r 1 = X5 26 r 1 := by rw [hX14, u3_k _ _ _ _ (by decide), hGXa 26 r 1 (show 2602 ∉ [1400] by decide), hX9, u3_k _ _ _ _ (by decide)]
          rw [e15]
          rw [hVX5]
          refine ret_i (mc := 0) (ms := 0) hx hb hr hlocks hw hS (by omega) (by omega) dX4_numberOf_81 ?_
          have q16 : Frm [707, 1300, 1400, 2602] X X5 := by rw [hX5]; exact Frm.set Frm.rf (show 2602 ∈ [707, 1300, 1400, 2602] by decide)
          have q17 : Frm [707, 1300, 1400, 2602] X X9 := by rw [hX9]; exact Frm.set q16 (show 1300 ∈ [707, 1300, 1400, 2602] by decide)
          have q18 : Frm [707, 1300, 1400, 2602] X Xa := Frm.tr q17 (Frm.mono hGXa (by decide))
          have q19 : Frm [707, 1300, 1400, 2602] X X14 := by rw [hX14]; exact Frm.set q18 (show 707 ∈ [707, 1300, 1400, 2602] by decide)
          have hCq20 : CInv cnt X14 Y ln := cinv_frm (M := [707, 1300, 1400, 2602]) (N := []) hCI q19 Frm.rf (by decide) (by decide)
          exact ⟨X14, rfl, hRX14, hFX14, hCq20, by omega, (by rw [hVX14]; omega)⟩
        · refine lv_aload_n hx hb dX4_numberOf_41 rfl (lv_at hl 0 rfl) ?_
          refine x_geto hx hb hf4 hw (by omega) (by omega) sl_7_8 lk31 dX4_numberOf_42 ?_
          refine lv_aload_n hx hb dX4_numberOf_45 rfl (lv_at hl 0 rfl) ?_
          refine x_geti (jz := 6) hx hb hf4 hw (by omega) (by omega) sl_7_6 rfl lk40 dX4_numberOf_46 ?_
          have e21 : Xa 7 g 6 = X 7 g 6 := by rw [hGXa 7 g 6 (show 707 ∉ [1400] by decide), hX9, u3_k _ _ _ _ (by decide), hX5, u3_k _ _ _ _ (by decide)]
          rw [e21]
          have f22 : 0 ≤ X 7 g 6 ∧ X 7 g 6 ≤ 150 := hR 7 g 6
          refine lv_bipush (v := jI 12) hx hb dX4_numberOf_49 (by decide) ?_
          refine x_imul hx hb dX4_numberOf_51 ?_
          refine lv_iload_n hx hb dX4_numberOf_52 rfl (lv_at hl 2 rfl) ?_
          refine x_iadd hx hb dX4_numberOf_53 ?_
          refine lv_aload_n hx hb dX4_numberOf_54 rfl (lv_at hl 1 rfl) ?_
          refine x_geto hx hb hf5 hw (by omega) (by omega) sl_26_0 lk43 dX4_numberOf_55 ?_
          refine lv_iload_n hx hb dX4_numberOf_58 rfl (lv_at hl 2 rfl) ?_
          have f23 : 0 ≤ ln r ∧ ln r ≤ 12 := hLn r
          refine x_lald hx hb hK.1 hw (by omega) (by omega) ar_27 (show lenE ln 27 r = ln r from rfl) (by omega) (by omega) (by omega) dX4_numberOf_59 ?_
          have e24 : ∀ p9 q9 : Int, Xa 27 p9 q9 = X 27 p9 q9 := fun p9 q9 => by rw [hGXa 27 p9 q9 (show 2700 ∉ [1400] by decide), hX9, u3_k _ _ _ _ (by decide), hX5, u3_k _ _ _ _ (by decide)]
          rw [e24 r iz]
          have f25 : (-9223372036854775808) ≤ X 27 r iz ∧ X 27 r iz ≤ 9223372036854775807 := hR 27 r iz
          refine x_last hx hb hK.1 hw hS (by omega) (by omega) ar_14 (len_E ar_14 (by decide)) (by omega) (by omega) (by omega) dX4_numberOf_60 (fun H locs hw hS => ?_)
          obtain ⟨X26, hX26⟩ : ∃ Xq, Xq = u3 Xa 14 g (((X 7 g 6) * 12) + iz) (X 27 r iz) := ⟨_, rfl⟩
          rw [← hX26] at hw
          have hRX26 : Rng X26 := by rw [hX26]; exact rng_set hRXa (show (-9223372036854775808) ≤ (X 27 r iz) ∧ (X 27 r iz) ≤ 9223372036854775807 by omega)
          have hVX26 : X26 14 g (((X 7 g 6) * 12) + iz) = (X 27 r iz) := by rw [hX26]; exact u3_s _ _ _ _ _
          have hFX26 : Frm [2602, 1300, 1400, 707] X X26 := by rw [hX26]; exact Frm.set hFXa (show 1400 ∈ [2602, 1300, 1400, 707] by decide)
          refine lv_iinc (v := jI (iz + 1)) (lv' := [(2, .int (jI (iz + 1))), (0, .ref (ad 7 g)), (1, .ref (ad 26 r))]) hx hb dX4_numberOf_61 hl (k := 2) rfl (jI_add _ _) (by decide) rfl (fun ls hl => ?_)
          refine lv_goto (tgt := 32) hx hb dX4_numberOf_64 (by decide) ?_
          have q27 : Frm [1400] X9 Xa := Frm.tr Frm.rf (Frm.mono hGXa (by decide))
          have q28 : Frm [1400] X9 X26 := by rw [hX26]; exact Frm.set q27 (show 1400 ∈ [1400] by decide)
          exact ih32 (iz + 1) X26 _ _ _ (by omega) hRX26 q28 (by omega) hw hS (lv_sub hl [1, 2, 0] rfl)
    exact lp32 (12 - 0 : Int).toNat.succ 0 X9 _ _ _ (by omega) hRX9 Frm.rf (by omega) hw hS (lv_sub hl [1, 2, 0] rfl)

set_option maxHeartbeats 4000000 in
set_option maxRecDepth 100000 in
theorem c_X8_recordedValue (l : Launch) (D : va_G) (tc : Nat → ClassId) (base : Nat) (ad : Nat → Int → Nat) (cnt : Nat → Int) (X : Nat → Int → Int → Int) (Y : Nat → Int → Int → Option Int) (ln : Int → Int) (hR : Rng X) (hFx : Fx cnt) (hLn : LnOK ln) (hCI : CInv cnt X Y ln) (x k g : Int) (hx0 : 0 ≤ x ∧ x ≤ 29) (hxt : x < X 0 0 3) (hk0 : 0 ≤ k ∧ k ≤ 4) (hg : 0 ≤ g ∧ g < 6) (hO : rcOK X Y g) (hrc : X 7 g 6 ≤ 149) : KL l D tc base yX8_recordedValue wsX8_recordedValue ({ frames := 1, cells := 0, slots := 0, locals := 22 } : Room) [.ref (ad 0 0), .ref (ad 15 x), .int (jI k), .ref (ad 7 g)] (ad, cnt, X, Y, ln) 0 0 (fun z u => ∃ (X1 : Nat → Int → Int → Int) (Y1 : Nat → Int → Int → Option Int), u = (ad, cnt, X1, Y1, ln) ∧ Rng X1 ∧ Frm [701, 707, 800, 900, 1300, 1400, 1504, 2602] X X1 ∧ Frm [500] Y Y1 ∧ CInv cnt X1 Y1 ln ∧ (-9223372036854775808 ≤ z ∧ z ≤ 9223372036854775807) ∧ rcOK X1 Y1 g ∧ X 7 g 0 ≤ X1 7 g 0 ∧ X1 7 g 6 ≤ X 7 g 6 + 1 ∧ ∀ t, Y 15 x 0 = some t → 2 ≤ X 21 t k → -1 ≤ z ∧ z ≤ 149) := by
  refine K_of (cc := cX8_recordedValue) (maxL := 6) (ret := (some .long)) (by decide) rfl (Nat.le_of_ble_eq_true rfl) ?_
  intro p e s m below meth c ls hx hb hr hml hown hts hlocks hl hK hw hS
  have hown : s.vm.findClass RX8 = some m.cls := hown
  have hi6 : ∀ w ∈ wsX60, w ∈ wsX8_recordedValue := fun w h => List.mem_cons_of_mem _ (List.mem_append_left _ (List.mem_append_left _ (List.mem_append_left _ (List.mem_append_left _ (List.mem_append_right _ h)))))
  have hf6 : fctx s m _ RX8 wsX8_recordedValue D tc RX6 TX6 4 6 := ⟨hts, hi6, hown, hK.1, rfl⟩
  have hi7 : ∀ w ∈ wsX70, w ∈ wsX8_recordedValue := fun w h => List.mem_cons_of_mem _ (List.mem_append_left _ (List.mem_append_left _ (List.mem_append_left _ (List.mem_append_right _ h))))
  have hf7 : fctx s m _ RX8 wsX8_recordedValue D tc RX7 TX7 8 7 := ⟨hts, hi7, hown, hK.1, rfl⟩
  have lk97 := hts (.fieldLink RX8 97 "StateRecords$Thing" "type" "LStateRecords$Type;") (by decide +kernel)
  have lk135 := hts (.fieldLink RX8 135 "StateRecords$Type" "lanes" "[I") (by decide +kernel)
  have lk158 := hts (.fieldLink RX8 158 "StateRecords$Thing" "rows" "[LStateRecords$Row;") (by decide +kernel)
  have lk193 := hts (.fieldLink RX8 193 "StateRecords$Thing" "values" "[J") (by decide +kernel)
  have hc0 : cnt 0 = 1 := hFx.at 0 1 (by decide)
  have hc7 : cnt 7 = 6 := hFx.at 7 6 (by decide)
  have hc15 : cnt 15 = 30 := hFx.at 15 30 (by decide)
  have hc16 : cnt 16 = 30 := hFx.at 16 30 (by decide)
  have hc17 : cnt 17 = 30 := hFx.at 17 30 (by decide)
  have hc21 : cnt 21 = cnt 19 := hFx.2.1 21 (by decide)
  have hl : lv_has ls 6 [(0, .ref (ad 0 0)), (1, .ref (ad 15 x)), (2, .int (jI k)), (3, .ref (ad 7 g))] := hl
  have ftc : 0 ≤ X 0 0 3 ∧ X 0 0 3 ≤ 30 := hR 0 0 3
  have fty : 0 ≤ X 0 0 1 ∧ X 0 0 1 ≤ 8 := hR 0 0 1
  have hct : cnt 19 = X 0 0 1 := hCI.2.2.2.1.1
  have hfj : 0 ≤ X 29 0 3 ∧ X 29 0 3 ≤ 4 := hR 29 0 3
  have hfn : 0 ≤ X 29 0 1 ∧ X 29 0 1 ≤ 80 := hR 29 0 1
  refine lv_aload_n hx hb dX8_recordedValue_0 rfl (lv_at hl 1 rfl) ?_
  refine x_getr (jz := 0) hx hb hf6 hw (by omega) (by omega) sl_15_0 rfl lk97 dX8_recordedValue_1 (fun y1 => ?_) (fun r2 y1 gr2 lr2 => ?_)
  · exfalso
    exact absurd y1 (hCI.2.2.2.2.1 x (by omega) (by omega))
  · refine x_geto hx hb hf7 hw (by omega) (by omega) sl_19_3 lk135 dX8_recordedValue_4 ?_
    refine lv_iload_n hx hb dX8_recordedValue_7 rfl (lv_at hl 2 rfl) ?_
    refine x_iald hx hb hK.1 hw (by omega) (by omega) ar_21 (len_E ar_21 (by decide)) (by omega) (by omega) (by omega) dX8_recordedValue_8 ?_
    have f3 : 0 ≤ X 21 r2 k ∧ X 21 r2 k ≤ 5 := hR 21 r2 k
    refine lv_istore (lv' := [(4, .int (jI (X 21 r2 k))), (0, .ref (ad 0 0)), (1, .ref (ad 15 x)), (2, .int (jI k)), (3, .ref (ad 7 g))]) hx hb dX8_recordedValue_9 hl (by decide) rfl (fun ls hl => ?_)
    refine lv_iload hx hb dX8_recordedValue_11 (lv_at hl 0 rfl) ?_
    refine gos_i (run_S (As := [.int (jI (X 21 r2 k))]) (rest := []) hx hb hml hown hts (c_X8_isRowLane l D tc base ad cnt X Y ln (X 21 r2 k) (by omega)) (cwS 1 hts gX8_recordedValue_X8_isRowLane rfl rfl rfl (by decide +kernel) ⟨Nat.le_of_ble_eq_true rfl, Nat.le_of_ble_eq_true rfl⟩) hK hw rfl hl.1 rfl (Nat.le_of_ble_eq_true rfl) dX8_recordedValue_13 ⟨Nat.le_of_ble_eq_true rfl, Nat.le_of_ble_eq_true rfl⟩) hS (fun z4 u5 H locs p6 hw hS => ?_)
    obtain ⟨eu5, p6⟩ := p6
    subst eu5
    rcases p6 with ⟨ez4, p6⟩ | ⟨ez4, p6⟩
    · subst ez4
      refine x_if_eqF (tgt := 46) hx hb (by omega) (by decide) dX8_recordedValue_16 (by decide) ?_
      refine lv_aload_n hx hb dX8_recordedValue_19 rfl (lv_at hl 2 rfl) ?_
      refine x_geto hx hb hf6 hw (by omega) (by omega) sl_15_2 lk158 dX8_recordedValue_20 ?_
      refine lv_iload_n hx hb dX8_recordedValue_23 rfl (lv_at hl 3 rfl) ?_
      refine x_aald hx hb hK.1 hw (by omega) (by omega) ar_17 rfl (len_E ar_17 (by decide)) (by omega) (by omega) (by omega) dX8_recordedValue_24 (fun y7 => ?_) (fun r8 y7 gr8 lr8 => ?_)
      · refine lv_ifnonnullN hx hb dX8_recordedValue_25 ?_
        refine lv_ldc2 (v := jL (-1)) hx hb hown (hts (.constantLong RX8 88 (-1)) (by decide +kernel)) dX8_recordedValue_28 ?_
        refine lv_goto (tgt := 45) hx hb dX8_recordedValue_31 (by decide) ?_
        refine ret_l (mc := 0) (ms := 0) hx hb hr hlocks hw hS (by omega) (by omega) dX8_recordedValue_45 ?_
        exact ⟨X, Y, rfl, hR, Frm.rf, Frm.rf, hCI, by omega, hO, (by omega), (by omega), fun t9 ht hl9 => by rw [y1] at ht; cases ht; (try simp only [Hid] at *); omega⟩
      · refine lv_ifnonnull (tgt := 34) hx hb dX8_recordedValue_25 (by decide) ?_
        refine lv_aload_n hx hb dX8_recordedValue_34 rfl (lv_at hl 4 rfl) ?_
        refine lv_aload_n hx hb dX8_recordedValue_35 rfl (lv_at hl 2 rfl) ?_
        refine x_geto hx hb hf6 hw (by omega) (by omega) sl_15_2 lk158 dX8_recordedValue_36 ?_
        refine lv_iload_n hx hb dX8_recordedValue_39 rfl (lv_at hl 3 rfl) ?_
        refine x_aald hx hb hK.1 hw (by omega) (by omega) ar_17 rfl (len_E ar_17 (by decide)) (by omega) (by omega) (by omega) dX8_recordedValue_40 (fun y9 => ?_) (fun r10 y9 gr10 lr10 => ?_)
        · exfalso
          rw [y7] at y9; cases y9
        · have er10 : r10 = r8 := by rw [y7] at y9; cases y9; rfl
          rw [er10]
          refine gos_i (run_V (As := [.ref (ad 26 r8)]) (rest := []) hx hb hml hown hts (c_X4_numberOf l D tc base ad cnt X Y ln hR hFx hLn hCI g r8 (by omega) (by omega) (by omega)) (cwV 1 hts gX8_recordedValue_X4_numberOf rfl rfl rfl (by decide +kernel) ⟨Nat.le_of_ble_eq_true rfl, Nat.le_of_ble_eq_true rfl⟩) hK hw (by omega) (by omega) sl_7_0 rfl rfl hl.1 rfl (Nat.le_of_ble_eq_true rfl) dX8_recordedValue_41 ⟨Nat.le_of_ble_eq_true rfl, Nat.le_of_ble_eq_true rfl⟩) hS (fun z11 u12 H locs p13 hw hS => ?_)
          obtain ⟨X14, eu12, hRX14, hG15, hCIX14, p13, hnrX14⟩ := p13
          subst eu12
          have hFX14 : Frm [701, 707, 800, 900, 1300, 1400, 1504, 2602] X X14 := Frm.tr Frm.rf (Frm.mono hG15 (by decide))
          refine x_i2l hx hb (by omega) dX8_recordedValue_44 ?_
          refine ret_l (mc := 0) (ms := 0) hx hb hr hlocks hw hS (by omega) (by omega) dX8_recordedValue_45 ?_
          have q16 : Frm [707, 1300, 1400, 2602] X X14 := Frm.tr Frm.rf (Frm.mono hG15 (by decide))
          have hO17 : rcOK X14 Y g := rcOK.frm (M := [707, 1300, 1400, 2602]) (N := []) hO q16 Frm.rf (by decide) (by decide)
          have e18 : X14 7 g 0 = X 7 g 0 := by rw [hG15 7 g 0 (show 701 ∉ [2602, 1300, 1400, 707] by decide)]
          exact ⟨X14, Y, rfl, hRX14, hFX14, Frm.rf, hCIX14, by omega, hO17, (by first | omega | (simp only [e18]; omega)), (by omega), fun t9 ht hl9 => by rw [y1] at ht; cases ht; (try simp only [Hid] at *); omega⟩
    · subst ez4
      refine x_if_eqT (tgt := 46) hx hb (by omega) (by decide) dX8_recordedValue_16 (by decide) ?_
      refine lv_iload hx hb dX8_recordedValue_46 (lv_at hl 0 rfl) ?_
      refine lv_iconst (v := jI 2) hx hb dX8_recordedValue_48 rfl ?_
      refine x_icmp_ne (tgt := 84) hx hb (by omega) (by omega) dX8_recordedValue_49 (by decide) (fun c19 => ?_) (fun c19 => ?_)
      · refine lv_aload_n hx hb dX8_recordedValue_84 rfl (lv_at hl 2 rfl) ?_
        refine x_geto hx hb hf6 hw (by omega) (by omega) sl_15_1 lk193 dX8_recordedValue_85 ?_
        refine lv_iload_n hx hb dX8_recordedValue_88 rfl (lv_at hl 3 rfl) ?_
        refine x_lald hx hb hK.1 hw (by omega) (by omega) ar_16 (len_E ar_16 (by decide)) (by omega) (by omega) (by omega) dX8_recordedValue_89 ?_
        have f20 : (-9223372036854775808) ≤ X 16 x k ∧ X 16 x k ≤ 9223372036854775807 := hR 16 x k
        refine ret_l (mc := 0) (ms := 0) hx hb hr hlocks hw hS (by omega) (by omega) dX8_recordedValue_90 ?_
        exact ⟨X, Y, rfl, hR, Frm.rf, Frm.rf, hCI, by omega, hO, (by omega), (by omega), fun t9 ht hl9 => by rw [y1] at ht; cases ht; (try simp only [Hid] at *); omega⟩
      · refine lv_aload_n hx hb dX8_recordedValue_52 rfl (lv_at hl 1 rfl) ?_
        refine lv_aload_n hx hb dX8_recordedValue_53 rfl (lv_at hl 2 rfl) ?_
        refine x_geto hx hb hf6 hw (by omega) (by omega) sl_15_1 lk193 dX8_recordedValue_54 ?_
        refine lv_iload_n hx hb dX8_recordedValue_57 rfl (lv_at hl 3 rfl) ?_
        refine x_lald hx hb hK.1 hw (by omega) (by omega) ar_16 (len_E ar_16 (by decide)) (by omega) (by omega) (by omega) dX8_recordedValue_58 ?_
        have f21 : (-9223372036854775808) ≤ X 16 x k ∧ X 16 x k ≤ 9223372036854775807 := hR 16 x k
        refine gos_r (run_V (As := [.long (jL (X 16 x k))]) (rest := []) hx hb hml hown hts (c_X8_thingNumbered l D tc base ad cnt X Y ln hR hFx hLn hCI (X 16 x k) (by omega)) (cwV 1 hts gX8_recordedValue_X8_thingNumbered rfl rfl rfl (by decide +kernel) ⟨Nat.le_of_ble_eq_true rfl, Nat.le_of_ble_eq_true rfl⟩) hK hw (by omega) (by omega) sl_0_0 rfl rfl hl.1 rfl (Nat.le_of_ble_eq_true rfl) dX8_recordedValue_59 ⟨Nat.le_of_ble_eq_true rfl, Nat.le_of_ble_eq_true rfl⟩) hS (fun u23 H locs p24 hw hS => ?_) (fun z22 u23 H locs p24 hw hS => ?_)
        · obtain ⟨eu23, hsp24, hnp24⟩ := p24
          subst eu23
          refine lv_astoreN (lv' := [(5, .null), (4, .int (jI (X 21 r2 k))), (0, .ref (ad 0 0)), (1, .ref (ad 15 x)), (2, .int (jI k)), (3, .ref (ad 7 g))]) hx hb dX8_recordedValue_62 hl (by decide) rfl (fun ls hl => ?_)
          refine lv_aloadN hx hb dX8_recordedValue_64 (lv_at hl 0 rfl) ?_
          refine lv_ifnonnullN hx hb dX8_recordedValue_66 ?_
          refine lv_ldc2 (v := jL (-1)) hx hb hown (hts (.constantLong RX8 88 (-1)) (by decide +kernel)) dX8_recordedValue_69 ?_
          refine lv_goto (tgt := 83) hx hb dX8_recordedValue_72 (by decide) ?_
          refine ret_l (mc := 0) (ms := 0) hx hb hr hlocks hw hS (by omega) (by omega) dX8_recordedValue_83 ?_
          exact ⟨X, Y, rfl, hR, Frm.rf, Frm.rf, hCI, by omega, hO, (by omega), (by omega), fun t9 ht hl9 => by rw [y1] at ht; cases ht; (try simp only [Hid] at *); omega⟩
        · obtain ⟨eu23, hsp24, hnp24⟩ := p24
          subst eu23
          obtain ⟨ezz22, p24⟩ := hsp24 z22 rfl
          refine lv_astore (lv' := [(5, .ref (ad 15 z22)), (4, .int (jI (X 21 r2 k))), (0, .ref (ad 0 0)), (1, .ref (ad 15 x)), (2, .int (jI k)), (3, .ref (ad 7 g))]) hx hb dX8_recordedValue_62 hl (by decide) rfl (fun ls hl => ?_)
          refine lv_aload hx hb dX8_recordedValue_64 (lv_at hl 0 rfl) ?_
          refine lv_ifnonnull (tgt := 75) hx hb dX8_recordedValue_66 (by decide) ?_
          refine lv_aload_n hx hb dX8_recordedValue_75 rfl (lv_at hl 2 rfl) ?_
          refine lv_aload hx hb dX8_recordedValue_76 (lv_at hl 0 rfl) ?_
          refine lv_aload_n hx hb dX8_recordedValue_78 rfl (lv_at hl 5 rfl) ?_
          refine gos_i (run_V (As := [.ref (ad 15 z22), .ref (ad 7 g)]) (rest := []) hx hb hml hown hts (c_X8_recordNumberOf l D tc base ad cnt X Y ln hR hFx hLn hCI z22 g (by omega) (by omega) (by omega) hO) (cwV 2 hts gX8_recordedValue_X8_recordNumberOf rfl rfl rfl (by decide +kernel) ⟨Nat.le_of_ble_eq_true rfl, Nat.le_of_ble_eq_true rfl⟩) hK hw (by omega) (by omega) sl_0_0 rfl rfl hl.1 rfl (Nat.le_of_ble_eq_true rfl) dX8_recordedValue_79 ⟨Nat.le_of_ble_eq_true rfl, Nat.le_of_ble_eq_true rfl⟩) hS (fun z25 u26 H locs p27 hw hS => ?_)
          obtain ⟨X28, Y29, eu26, hRX28, hG30, hJ31, hCIX28, p27, hOX28, hleX28⟩ := p27
          subst eu26
          have hFX28 : Frm [701, 707, 800, 900, 1300, 1400, 1504, 2602] X X28 := Frm.tr Frm.rf (Frm.mono hG30 (by decide))
          have hHY29 : Frm [500] Y Y29 := Frm.tr Frm.rf (Frm.mono hJ31 (by decide))
          refine x_i2l hx hb (by omega) dX8_recordedValue_82 ?_
          refine ret_l (mc := 0) (ms := 0) hx hb hr hlocks hw hS (by omega) (by omega) dX8_recordedValue_83 ?_
          have e32 : X28 7 g 6 = X 7 g 6 := by rw [hG30 7 g 6 (show 707 ∉ [1504, 701, 800, 900] by decide)]
          exact ⟨X28, Y29, rfl, hRX28, hFX28, hHY29, hCIX28, by omega, hOX28, (by omega), (by first | omega | (simp only [e32]; omega)), fun t9 ht hl9 => by rw [y1] at ht; cases ht; (try simp only [Hid] at *); omega⟩

set_option maxHeartbeats 4000000 in
set_option maxRecDepth 100000 in
theorem c_X8_recordFields (l : Launch) (D : va_G) (tc : Nat → ClassId) (base : Nat) (ad : Nat → Int → Nat) (cnt : Nat → Int) (X : Nat → Int → Int → Int) (Y : Nat → Int → Int → Option Int) (ln : Int → Int) (hR : Rng X) (hFx : Fx cnt) (hLn : LnOK ln) (hCI : CInv cnt X Y ln) (x r g : Int) (hx0 : 0 ≤ x ∧ x ≤ 29) (hxt : x < X 0 0 3) (hr0 : 0 ≤ r ∧ r ≤ 29) (hg : 0 ≤ g ∧ g < 6) (hO : rcOK X Y g) (hrc : X 7 g 6 ≤ 5 * r) (hRv : cRv X) : KV l D tc base yX8_recordFields wsX8_recordFields ({ frames := 2, cells := 0, slots := 0, locals := 47 } : Room) [.ref (ad 0 0), .ref (ad 15 x), .int (jI r), .ref (ad 7 g)] (ad, cnt, X, Y, ln) 0 0 (fun u => ∃ (X1 : Nat → Int → Int → Int) (Y1 : Nat → Int → Int → Option Int), u = (ad, cnt, X1, Y1, ln) ∧ Rng X1 ∧ Frm [701, 707, 800, 900, 1000, 1100, 1200, 1300, 1400, 1504, 2602] X X1 ∧ Frm [500] Y Y1 ∧ CInv cnt X1 Y1 ln ∧ (0 : Int) ≤ 0 ∧ rcOK X1 Y1 g ∧ X 7 g 0 ≤ X1 7 g 0 ∧ X1 7 g 6 ≤ 5 * r + 5 ∧ cRv X1) := by
  refine K_of (cc := cX8_recordFields) (maxL := 6) (ret := none) (by decide) rfl (Nat.le_of_ble_eq_true rfl) ?_
  intro p e s m below meth c ls hx hb hr hml hown hts hlocks hl hK hw hS
  have hown : s.vm.findClass RX8 = some m.cls := hown
  have hi4 : ∀ w ∈ wsX40, w ∈ wsX8_recordFields := fun w h => List.mem_cons_of_mem _ (List.mem_append_left _ (List.mem_append_left _ (List.mem_append_right _ h)))
  have hf4 : fctx s m _ RX8 wsX8_recordFields D tc RX4 TX4 9 4 := ⟨hts, hi4, hown, hK.1, rfl⟩
  have hi6 : ∀ w ∈ wsX60, w ∈ wsX8_recordFields := fun w h => List.mem_cons_of_mem _ (List.mem_append_left _ (List.mem_append_left _ (List.mem_append_left _ (List.mem_append_left _ (List.mem_append_right _ h)))))
  have hf6 : fctx s m _ RX8 wsX8_recordFields D tc RX6 TX6 4 6 := ⟨hts, hi6, hown, hK.1, rfl⟩
  have hi7 : ∀ w ∈ wsX70, w ∈ wsX8_recordFields := fun w h => List.mem_cons_of_mem _ (List.mem_append_left _ (List.mem_append_left _ (List.mem_append_left _ (List.mem_append_right _ h))))
  have hf7 : fctx s m _ RX8 wsX8_recordFields D tc RX7 TX7 8 7 := ⟨hts, hi7, hown, hK.1, rfl⟩
  have lk85 := hts (.fieldLink RX8 85 "StateRecords$Type" "fieldCount" "I") (by decide +kernel)
  have lk97 := hts (.fieldLink RX8 97 "StateRecords$Thing" "type" "LStateRecords$Type;") (by decide +kernel)
  have lk135 := hts (.fieldLink RX8 135 "StateRecords$Type" "lanes" "[I") (by decide +kernel)
  have lk224 := hts (.fieldLink RX8 224 "StateRecords$Records" "names" "[I") (by decide +kernel)
  have lk320 := hts (.fieldLink RX8 320 "StateRecords$Type" "names" "[I") (by decide +kernel)
  have lk341 := hts (.fieldLink RX8 341 "StateRecords$Records" "lanes" "[I") (by decide +kernel)
  have lk342 := hts (.fieldLink RX8 342 "StateRecords$Records" "values" "[J") (by decide +kernel)
  have hc0 : cnt 0 = 1 := hFx.at 0 1 (by decide)
  have hc7 : cnt 7 = 6 := hFx.at 7 6 (by decide)
  have hc10 : cnt 10 = 6 := hFx.at 10 6 (by decide)
  have hc11 : cnt 11 = 6 := hFx.at 11 6 (by decide)
  have hc12 : cnt 12 = 6 := hFx.at 12 6 (by decide)
  have hc15 : cnt 15 = 30 := hFx.at 15 30 (by decide)
  have hc20 : cnt 20 = cnt 19 := hFx.2.1 20 (by decide)
  have hc21 : cnt 21 = cnt 19 := hFx.2.1 21 (by decide)
  have hl : lv_has ls 6 [(0, .ref (ad 0 0)), (1, .ref (ad 15 x)), (2, .int (jI r)), (3, .ref (ad 7 g))] := hl
  have ftc : 0 ≤ X 0 0 3 ∧ X 0 0 3 ≤ 30 := hR 0 0 3
  have fty : 0 ≤ X 0 0 1 ∧ X 0 0 1 ≤ 8 := hR 0 0 1
  have hct : cnt 19 = X 0 0 1 := hCI.2.2.2.1.1
  have hfj : 0 ≤ X 29 0 3 ∧ X 29 0 3 ≤ 4 := hR 29 0 3
  have hfn : 0 ≤ X 29 0 1 ∧ X 29 0 1 ≤ 80 := hR 29 0 1
  refine lv_iconst (v := jI 0) hx hb dX8_recordFields_0 rfl ?_
  refine lv_istore (lv' := [(4, .int (jI 0)), (0, .ref (ad 0 0)), (1, .ref (ad 15 x)), (2, .int (jI r)), (3, .ref (ad 7 g))]) hx hb dX8_recordFields_1 hl (by decide) rfl (fun ls hl => ?_)
  have lp3 : ∀ (nn : Nat) (k : Int) (Xa : Nat → Int → Int → Int) (Ya : Nat → Int → Int → Option Int) (H : Heap) (locs : List Loc) (ls : Array Slot), (5 - k) < (nn : Int) → (Rng Xa) → (Frm [701, 707, 800, 900, 1000, 1100, 1200, 1300, 1400, 1504, 2602] X Xa) → (Frm [500] Y Ya) → (0 ≤ k ∧ k ≤ 5) → (CInv cnt Xa Ya ln) → (rcOK Xa Ya g) → (X 7 g 0 ≤ Xa 7 g 0) → (Xa 7 g 6 ≤ 5 * r + k) → (cRv Xa) → wd D tc base (ad, cnt, Xa, Ya, ln) H → va_S (frA base) s.heap H locs → lv_has ls 6 [(0, .ref (ad 0 0)), (1, .ref (ad 15 x)), (2, .int (jI r)), (3, .ref (ad 7 g)), (4, .int (jI k))] → W p l e ({ frames := 2, cells := 0, slots := 0, locals := 47 } : Room) s m ([.ref (ad 0 0), .ref (ad 15 x), .int (jI r), .ref (ad 7 g)] : List Value).toArray below meth c H locs 0 0 (MQ below (QV D tc base (fun u => ∃ (X1 : Nat → Int → Int → Int) (Y1 : Nat → Int → Int → Option Int), u = (ad, cnt, X1, Y1, ln) ∧ Rng X1 ∧ Frm [701, 707, 800, 900, 1000, 1100, 1200, 1300, 1400, 1504, 2602] X X1 ∧ Frm [500] Y Y1 ∧ CInv cnt X1 Y1 ln ∧ (0 : Int) ≤ 0 ∧ rcOK X1 Y1 g ∧ X 7 g 0 ≤ X1 7 g 0 ∧ X1 7 g 6 ≤ 5 * r + 5 ∧ cRv X1)) ([.ref (ad 0 0), .ref (ad 15 x), .int (jI r), .ref (ad 7 g)] : List Value).toArray s 0 0 (frA base)) (F0 m 3 ls []) := by
    intro nn
    induction nn with
    | zero => intro k Xa Ya H locs ls hm hRXa hGXa hGYa hk hCIXa hOa hla hna hRa hw hS hl; exfalso; omega
    | succ nn ih3 =>
      intro k Xa Ya H locs ls hm hRXa hGXa hGYa hk hCIXa hOa hla hna hRa hw hS hl
      have hHYa : Frm [500] Y Ya := Frm.tr Frm.rf (Frm.mono hGYa (by decide))
      have hFXa : Frm [701, 707, 800, 900, 1000, 1100, 1200, 1300, 1400, 1504, 2602] X Xa := Frm.tr Frm.rf (Frm.mono hGXa (by decide))
      skip
      refine lv_iload hx hb dX8_recordFields_3 (lv_at hl 4 rfl) ?_
      refine lv_aload_n hx hb dX8_recordFields_5 rfl (lv_at hl 1 rfl) ?_
      refine x_getr (jz := 0) hx hb hf6 hw (by omega) (by omega) sl_15_0 rfl lk97 dX8_recordFields_6 (fun y1 => ?_) (fun r2 y1 gr2 lr2 => ?_)
      · exfalso
        have e3 : Ya 15 x 0 = Y 15 x 0 := by rw [hGYa 15 x 0 (show 1501 ∉ [500] by decide)]
        rw [e3] at y1
        exact absurd y1 (hCI.2.2.2.2.1 x (by omega) (by omega))
      · have e4 : Ya 15 x 0 = Y 15 x 0 := by rw [hGYa 15 x 0 (show 1501 ∉ [500] by decide)]
        rw [e4] at y1
        refine x_geti (jz := 1) hx hb hf7 hw (by omega) (by omega) sl_19_1 rfl lk85 dX8_recordFields_9 ?_
        have e5 : Xa 19 r2 1 = X 19 r2 1 := by rw [hGXa 19 r2 1 (show 1902 ∉ [701, 707, 800, 900, 1000, 1100, 1200, 1300, 1400, 1504, 2602] by decide)]
        rw [e5]
        have f6 : 0 ≤ X 19 r2 1 ∧ X 19 r2 1 ≤ 5 := hR 19 r2 1
        refine x_icmp_ge (tgt := 78) hx hb (by omega) (by omega) dX8_recordFields_12 (by decide) (fun c7 => ?_) (fun c7 => ?_)
        · refine ret_v (mc := 0) (ms := 0) hx hb hr hlocks hw hS (by omega) (by omega) dX8_recordFields_78 ?_
          exact ⟨Xa, Ya, rfl, hRXa, hFXa, hHYa, hCIXa, by omega, hOa, hla, (by omega), hRa⟩
        · refine lv_iload_n hx hb dX8_recordFields_15 rfl (lv_at hl 2 rfl) ?_
          refine lv_iconst (v := jI 5) hx hb dX8_recordFields_16 rfl ?_
          refine x_imul hx hb dX8_recordFields_17 ?_
          refine lv_iload hx hb dX8_recordFields_18 (lv_at hl 4 rfl) ?_
          refine x_iadd hx hb dX8_recordFields_20 ?_
          refine lv_istore (lv' := [(5, .int (jI ((r * 5) + k))), (0, .ref (ad 0 0)), (1, .ref (ad 15 x)), (2, .int (jI r)), (3, .ref (ad 7 g)), (4, .int (jI k))]) hx hb dX8_recordFields_21 hl (by decide) rfl (fun ls hl => ?_)
          refine lv_aload_n hx hb dX8_recordFields_23 rfl (lv_at hl 4 rfl) ?_
          refine x_geto hx hb hf4 hw (by omega) (by omega) sl_7_3 lk224 dX8_recordFields_24 ?_
          refine lv_iload hx hb dX8_recordFields_27 (lv_at hl 0 rfl) ?_
          refine lv_aload_n hx hb dX8_recordFields_29 rfl (lv_at hl 2 rfl) ?_
          refine x_getr (jz := 0) hx hb hf6 hw (by omega) (by omega) sl_15_0 rfl lk97 dX8_recordFields_30 (fun y8 => ?_) (fun r9 y8 gr9 lr9 => ?_)
          · exfalso
            have e10 : Ya 15 x 0 = Y 15 x 0 := by rw [hGYa 15 x 0 (show 1501 ∉ [500] by decide)]
            rw [e10] at y8
            rw [y1] at y8; cases y8
          · have e11 : Ya 15 x 0 = Y 15 x 0 := by rw [hGYa 15 x 0 (show 1501 ∉ [500] by decide)]
            rw [e11] at y8
            have er9 : r9 = r2 := by rw [y1] at y8; cases y8; rfl
            rw [er9]
            refine x_geto hx hb hf7 hw (by omega) (by omega) sl_19_2 lk320 dX8_recordFields_33 ?_
            refine lv_iload hx hb dX8_recordFields_36 (lv_at hl 5 rfl) ?_
            refine x_iald hx hb hK.1 hw (by omega) (by omega) ar_20 (len_E ar_20 (by decide)) (by omega) (by omega) (by omega) dX8_recordFields_38 ?_
            have e12 : ∀ p9 q9 : Int, Xa 20 p9 q9 = X 20 p9 q9 := fun p9 q9 => by rw [hGXa 20 p9 q9 (show 2000 ∉ [701, 707, 800, 900, 1000, 1100, 1200, 1300, 1400, 1504, 2602] by decide)]
            rw [e12 r2 k]
            have f13 : 0 ≤ X 20 r2 k ∧ X 20 r2 k ≤ 19 := hR 20 r2 k
            refine x_iast hx hb hK.1 hw hS (by omega) (by omega) ar_10 (len_E ar_10 (by decide)) (by omega) (by omega) (by omega) dX8_recordFields_39 (fun H locs hw hS => ?_)
            obtain ⟨X14, hX14⟩ : ∃ Xq, Xq = u3 Xa 10 g ((r * 5) + k) (X 20 r2 k) := ⟨_, rfl⟩
            rw [← hX14] at hw
            have hRX14 : Rng X14 := by rw [hX14]; exact rng_set hRXa (show 0 ≤ (X 20 r2 k) ∧ (X 20 r2 k) ≤ 19 by omega)
            have hVX14 : X14 10 g ((r * 5) + k) = (X 20 r2 k) := by rw [hX14]; exact u3_s _ _ _ _ _
            have hFX14 : Frm [701, 707, 800, 900, 1000, 1100, 1200, 1300, 1400, 1504, 2602] X X14 := by rw [hX14]; exact Frm.set hFXa (show 1000 ∈ [701, 707, 800, 900, 1000, 1100, 1200, 1300, 1400, 1504, 2602] by decide)
            refine lv_aload_n hx hb dX8_recordFields_40 rfl (lv_at hl 4 rfl) ?_
            refine x_geto hx hb hf4 hw (by omega) (by omega) sl_7_4 lk341 dX8_recordFields_41 ?_
            refine lv_iload hx hb dX8_recordFields_44 (lv_at hl 0 rfl) ?_
            refine lv_aload_n hx hb dX8_recordFields_46 rfl (lv_at hl 2 rfl) ?_
            refine x_getr (jz := 0) hx hb hf6 hw (by omega) (by omega) sl_15_0 rfl lk97 dX8_recordFields_47 (fun y15 => ?_) (fun r16 y15 gr16 lr16 => ?_)
            · exfalso
              have e17 : Ya 15 x 0 = Y 15 x 0 := by rw [hGYa 15 x 0 (show 1501 ∉ [500] by decide)]
              rw [e17] at y15
              rw [y1] at y15; cases y15
            · have e18 : Ya 15 x 0 = Y 15 x 0 := by rw [hGYa 15 x 0 (show 1501 ∉ [500] by decide)]
              rw [e18] at y15
              have er16 : r16 = r2 := by rw [y1] at y15; cases y15; rfl
              rw [er16]
              refine x_geto hx hb hf7 hw (by omega) (by omega) sl_19_3 lk135 dX8_recordFields_50 ?_
              refine lv_iload hx hb dX8_recordFields_53 (lv_at hl 5 rfl) ?_
              refine x_iald hx hb hK.1 hw (by omega) (by omega) ar_21 (len_E ar_21 (by decide)) (by omega) (by omega) (by omega) dX8_recordFields_55 ?_
              have e19 : ∀ p9 q9 : Int, X14 21 p9 q9 = X 21 p9 q9 := fun p9 q9 => by rw [hX14, u3_k _ _ _ _ (by decide), hGXa 21 p9 q9 (show 2100 ∉ [701, 707, 800, 900, 1000, 1100, 1200, 1300, 1400, 1504, 2602] by decide)]
              rw [e19 r2 k]
              have f20 : 0 ≤ X 21 r2 k ∧ X 21 r2 k ≤ 5 := hR 21 r2 k
              refine x_iast hx hb hK.1 hw hS (by omega) (by omega) ar_11 (len_E ar_11 (by decide)) (by omega) (by omega) (by omega) dX8_recordFields_56 (fun H locs hw hS => ?_)
              obtain ⟨X21, hX21⟩ : ∃ Xq, Xq = u3 X14 11 g ((r * 5) + k) (X 21 r2 k) := ⟨_, rfl⟩
              rw [← hX21] at hw
              have hRX21 : Rng X21 := by rw [hX21]; exact rng_set hRX14 (show 0 ≤ (X 21 r2 k) ∧ (X 21 r2 k) ≤ 5 by omega)
              have hVX21 : X21 11 g ((r * 5) + k) = (X 21 r2 k) := by rw [hX21]; exact u3_s _ _ _ _ _
              have hFX21 : Frm [701, 707, 800, 900, 1000, 1100, 1200, 1300, 1400, 1504, 2602] X X21 := by rw [hX21]; exact Frm.set hFX14 (show 1100 ∈ [701, 707, 800, 900, 1000, 1100, 1200, 1300, 1400, 1504, 2602] by decide)
              refine lv_aload_n hx hb dX8_recordFields_57 rfl (lv_at hl 4 rfl) ?_
              refine x_geto hx hb hf4 hw (by omega) (by omega) sl_7_5 lk342 dX8_recordFields_58 ?_
              refine lv_iload hx hb dX8_recordFields_61 (lv_at hl 0 rfl) ?_
              refine lv_aload_n hx hb dX8_recordFields_63 rfl (lv_at hl 1 rfl) ?_
              refine lv_aload_n hx hb dX8_recordFields_64 rfl (lv_at hl 2 rfl) ?_
              refine lv_iload hx hb dX8_recordFields_65 (lv_at hl 5 rfl) ?_
              refine lv_aload_n hx hb dX8_recordFields_67 rfl (lv_at hl 4 rfl) ?_
              have q22 : Frm [1000, 1100] Xa X14 := by rw [hX14]; exact Frm.set Frm.rf (show 1000 ∈ [1000, 1100] by decide)
              have q23 : Frm [1000, 1100] Xa X21 := by rw [hX21]; exact Frm.set q22 (show 1100 ∈ [1000, 1100] by decide)
              have hO24 : rcOK X21 Ya g := rcOK.frm (M := [1000, 1100]) (N := []) hOa q23 Frm.rf (by decide) (by decide)
              have e25 : X21 7 g 6 = Xa 7 g 6 := by rw [hX21, u3_k _ _ _ _ (by decide), hX14, u3_k _ _ _ _ (by decide)]
              have e26 : X21 7 g 0 = Xa 7 g 0 := by rw [hX21, u3_k _ _ _ _ (by decide), hX14, u3_k _ _ _ _ (by decide)]
              have q27 : Frm [1000, 1100] Xa X14 := by rw [hX14]; exact Frm.set Frm.rf (show 1000 ∈ [1000, 1100] by decide)
              have q28 : Frm [1000, 1100] Xa X21 := by rw [hX21]; exact Frm.set q27 (show 1100 ∈ [1000, 1100] by decide)
              have hCq29 : CInv cnt X21 Ya ln := cinv_frm (M := [1000, 1100]) (N := []) hCIXa q28 Frm.rf (by decide) (by decide)
              have e30 : X21 0 0 3 = X 0 0 3 := by rw [hX21, u3_k _ _ _ _ (by decide), hX14, u3_k _ _ _ _ (by decide), hGXa 0 0 3 (show 4 ∉ [701, 707, 800, 900, 1000, 1100, 1200, 1300, 1400, 1504, 2602] by decide)]
              refine gos_l (run_V (As := [.ref (ad 15 x), .int (jI k), .ref (ad 7 g)]) (rest := [.int (jI ((r * 5) + k)), .ref (ad 12 g)]) hx hb hml hown hts (c_X8_recordedValue l D tc base ad cnt X21 Ya ln hRX21 hFx hLn hCq29 x k g (by omega) (by simp only [e30]; omega) (by omega) (by omega) hO24 (by simp only [e25]; omega)) (cwV 3 hts gX8_recordFields_X8_recordedValue rfl rfl rfl (by decide +kernel) ⟨Nat.le_of_ble_eq_true rfl, Nat.le_of_ble_eq_true rfl⟩) hK hw (by omega) (by omega) sl_0_0 rfl rfl hl.1 rfl (Nat.le_of_ble_eq_true rfl) dX8_recordFields_68 ⟨Nat.le_of_ble_eq_true rfl, Nat.le_of_ble_eq_true rfl⟩) hS (fun z31 u32 H locs p33 hw hS => ?_)
              obtain ⟨X34, Y35, eu32, hRX34, hG36, hJ37, hCIX34, p33, hOX34, hleX34, hnrX34, htvX34⟩ := p33
              subst eu32
              have hFX34 : Frm [701, 707, 800, 900, 1000, 1100, 1200, 1300, 1400, 1504, 2602] X X34 := Frm.tr hFX21 (Frm.mono hG36 (by decide))
              have hHY35 : Frm [500] Y Y35 := Frm.tr hHYa (Frm.mono hJ37 (by decide))
              rw [e26] at hleX34
              rw [e25] at hnrX34
              refine x_last hx hb hK.1 hw hS (by omega) (by omega) ar_12 (len_E ar_12 (by decide)) (by omega) (by omega) (by omega) dX8_recordFields_71 (fun H locs hw hS => ?_)
              obtain ⟨X38, hX38⟩ : ∃ Xq, Xq = u3 X34 12 g ((r * 5) + k) z31 := ⟨_, rfl⟩
              rw [← hX38] at hw
              have hRX38 : Rng X38 := by rw [hX38]; exact rng_set hRX34 (show (-9223372036854775808) ≤ z31 ∧ z31 ≤ 9223372036854775807 by omega)
              have hVX38 : X38 12 g ((r * 5) + k) = z31 := by rw [hX38]; exact u3_s _ _ _ _ _
              have hFX38 : Frm [701, 707, 800, 900, 1000, 1100, 1200, 1300, 1400, 1504, 2602] X X38 := by rw [hX38]; exact Frm.set hFX34 (show 1200 ∈ [701, 707, 800, 900, 1000, 1100, 1200, 1300, 1400, 1504, 2602] by decide)
              refine lv_iinc (v := jI (k + 1)) (lv' := [(4, .int (jI (k + 1))), (5, .int (jI ((r * 5) + k))), (0, .ref (ad 0 0)), (1, .ref (ad 15 x)), (2, .int (jI r)), (3, .ref (ad 7 g))]) hx hb dX8_recordFields_72 hl (k := 5) rfl (jI_add _ _) (by decide) rfl (fun ls hl => ?_)
              refine lv_goto (tgt := 3) hx hb dX8_recordFields_75 (by decide) ?_
              have q39 : Frm [701, 707, 800, 900, 1000, 1100, 1200, 1300, 1400, 1504, 2602] X Xa := Frm.tr Frm.rf (Frm.mono hGXa (by decide))
              have q40 : Frm [701, 707, 800, 900, 1000, 1100, 1200, 1300, 1400, 1504, 2602] X X14 := by rw [hX14]; exact Frm.set q39 (show 1000 ∈ [701, 707, 800, 900, 1000, 1100, 1200, 1300, 1400, 1504, 2602] by decide)
              have q41 : Frm [701, 707, 800, 900, 1000, 1100, 1200, 1300, 1400, 1504, 2602] X X21 := by rw [hX21]; exact Frm.set q40 (show 1100 ∈ [701, 707, 800, 900, 1000, 1100, 1200, 1300, 1400, 1504, 2602] by decide)
              have q42 : Frm [701, 707, 800, 900, 1000, 1100, 1200, 1300, 1400, 1504, 2602] X X34 := Frm.tr q41 (Frm.mono hG36 (by decide))
              have q43 : Frm [701, 707, 800, 900, 1000, 1100, 1200, 1300, 1400, 1504, 2602] X X38 := by rw [hX38]; exact Frm.set q42 (show 1200 ∈ [701, 707, 800, 900, 1000, 1100, 1200, 1300, 1400, 1504, 2602] by decide)
              have q44 : Frm [500] Y Ya := Frm.tr Frm.rf (Frm.mono hGYa (by decide))
              have q45 : Frm [500] Y Y35 := Frm.tr q44 (Frm.mono hJ37 (by decide))
              have q46 : Frm [1200] X34 X38 := by rw [hX38]; exact Frm.set Frm.rf (show 1200 ∈ [1200] by decide)
              have hCq47 : CInv cnt X38 Y35 ln := cinv_frm (M := [1200]) (N := []) hCIX34 q46 Frm.rf (by decide) (by decide)
              have q48 : Frm [1200] X34 X38 := by rw [hX38]; exact Frm.set Frm.rf (show 1200 ∈ [1200] by decide)
              have hO49 : rcOK X38 Y35 g := rcOK.frm (M := [1200]) (N := []) hOX34 q48 Frm.rf (by decide) (by decide)
              have e50 : X38 7 g 0 = X34 7 g 0 := by rw [hX38, u3_k _ _ _ _ (by decide)]
              have e51 : X38 7 g 6 = X34 7 g 6 := by rw [hX38, u3_k _ _ _ _ (by decide)]
              have q52 : Frm [1000] Xa X14 := by rw [hX14]; exact Frm.set Frm.rf (show 1000 ∈ [1000] by decide)
              have q53 : Frm [701, 707, 800, 900, 1300, 1400, 1504, 2602] X21 X34 := Frm.tr Frm.rf (Frm.mono hG36 (by decide))
              have e54 : X34 11 g (r * 5 + k) = (X 21 r2 k) := (by rw [hG36 11 g (r * 5 + k) (show 1100 ∉ [701, 707, 800, 900, 1300, 1400, 1504, 2602] by decide)]; exact hVX21)
              have e55 : ∀ p9 q9 : Int, X21 21 p9 q9 = X 21 p9 q9 := fun p9 q9 => by rw [hX21, u3_k _ _ _ _ (by decide), hX14, u3_k _ _ _ _ (by decide), hGXa 21 p9 q9 (show 2100 ∉ [701, 707, 800, 900, 1000, 1100, 1200, 1300, 1400, 1504, 2602] by decide)]
              exact ih3 (k + 1) X38 Y35 _ _ _ (by omega) hRX38 q43 q45 (by omega) (hCq47) (hO49) ((by first | omega | (simp only [e50]; omega))) ((by first | omega | (simp only [e51]; omega))) ((by rw [hX38]; exact cRx.val (cRx.frm (by rw [hX21]; exact cRv.lane (cRv.frm hRa q52 (by decide))) q53 (by decide)) (fun h9 => by rw [e54] at h9; exact htvX34 r2 (by rw [hGYa 15 x 0 (show 1501 ∉ [500] by decide)]; exact y1) (by rw [e55]; exact h9)))) hw hS (lv_sub hl [2, 3, 4, 5, 0] rfl)
  exact lp3 (5 - 0 : Int).toNat.succ 0 X Y _ _ _ (by omega) hR Frm.rf Frm.rf (by omega) (hCI) (hO) (Int.le_refl _) ((by omega)) (hRv) hw hS (lv_sub hl [1, 2, 3, 4, 0] rfl)

set_option maxHeartbeats 4000000 in
set_option maxRecDepth 100000 in
theorem c_X8_recordFrom (l : Launch) (D : va_G) (tc : Nat → ClassId) (base : Nat) (ad : Nat → Int → Nat) (cnt : Nat → Int) (X : Nat → Int → Int → Int) (Y : Nat → Int → Int → Option Int) (ln : Int → Int) (hR : Rng X) (hFx : Fx cnt) (hLn : LnOK ln) (hCI : CInv cnt X Y ln) (x g : Int) (hx0 : 0 ≤ x ∧ x ≤ 29) (hxt : x < X 0 0 3) (hg : 0 ≤ g ∧ g < 6) (hRv : cRv X) : KV l D tc base yX8_recordFrom wsX8_recordFrom ({ frames := 3, cells := 0, slots := 0, locals := 72 } : Room) [.ref (ad 0 0), .ref (ad 15 x), .ref (ad 7 g)] (ad, cnt, X, Y, ln) 0 0 (fun u => ∃ (X1 : Nat → Int → Int → Int) (Y1 : Nat → Int → Int → Option Int), u = (ad, cnt, X1, Y1, ln) ∧ Rng X1 ∧ Frm [701, 707, 800, 900, 1000, 1100, 1200, 1300, 1400, 1504, 2602] X X1 ∧ Frm [500] Y Y1 ∧ CInv cnt X1 Y1 ln ∧ (0 : Int) ≤ 0 ∧ rcOK X1 Y1 g ∧ cRv X1) := by
  refine K_of (cc := cX8_recordFrom) (maxL := 4) (ret := none) (by decide) rfl (Nat.le_of_ble_eq_true rfl) ?_
  intro p e s m below meth c ls hx hb hr hml hown hts hlocks hl hK hw hS
  have hown : s.vm.findClass RX8 = some m.cls := hown
  have hi4 : ∀ w ∈ wsX40, w ∈ wsX8_recordFrom := fun w h => List.mem_cons_of_mem _ (List.mem_append_left _ (List.mem_append_left _ (List.mem_append_left _ (List.mem_append_left _ (List.mem_append_right _ h)))))
  have hf4 : fctx s m _ RX8 wsX8_recordFrom D tc RX4 TX4 9 4 := ⟨hts, hi4, hown, hK.1, rfl⟩
  have hi8 : ∀ w ∈ wsX80, w ∈ wsX8_recordFrom := fun w h => List.mem_cons_of_mem _ (List.mem_append_left _ (List.mem_append_left _ (List.mem_append_left _ (List.mem_append_right _ h))))
  have hf8 : fctx s m _ RX8 wsX8_recordFrom D tc RX8 TX8 12 8 := ⟨hts, hi8, hown, hK.1, rfl⟩
  have lk39 := hts (.fieldLink RX8 39 "StateRecords" "recorded" "[LStateRecords$Thing;") (by decide +kernel)
  have lk231 := hts (.fieldLink RX8 231 "StateRecords$Records" "recordCount" "I") (by decide +kernel)
  have lk234 := hts (.fieldLink RX8 234 "StateRecords$Records" "rowCount" "I") (by decide +kernel)
  have hc0 : cnt 0 = 1 := hFx.at 0 1 (by decide)
  have hc5 : cnt 5 = 1 := hFx.at 5 1 (by decide)
  have hc7 : cnt 7 = 6 := hFx.at 7 6 (by decide)
  have hc15 : cnt 15 = 30 := hFx.at 15 30 (by decide)
  have hl : lv_has ls 4 [(0, .ref (ad 0 0)), (1, .ref (ad 15 x)), (2, .ref (ad 7 g))] := hl
  have ftc : 0 ≤ X 0 0 3 ∧ X 0 0 3 ≤ 30 := hR 0 0 3
  have fty : 0 ≤ X 0 0 1 ∧ X 0 0 1 ≤ 8 := hR 0 0 1
  have hct : cnt 19 = X 0 0 1 := hCI.2.2.2.1.1
  have hfj : 0 ≤ X 29 0 3 ∧ X 29 0 3 ≤ 4 := hR 29 0 3
  have hfn : 0 ≤ X 29 0 1 ∧ X 29 0 1 ≤ 80 := hR 29 0 1
  refine lv_aload_n hx hb dX8_recordFrom_0 rfl (lv_at hl 0 rfl) ?_
  refine gos_v (run_V (As := []) (rest := []) hx hb hml hown hts (c_X8_forgetNumbers l D tc base ad cnt X Y ln hR hFx hLn hCI) (cwV 0 hts gX8_recordFrom_X8_forgetNumbers rfl rfl rfl (by decide +kernel) ⟨Nat.le_of_ble_eq_true rfl, Nat.le_of_ble_eq_true rfl⟩) hK hw (by omega) (by omega) sl_0_0 rfl rfl hl.1 rfl (Nat.le_of_ble_eq_true rfl) dX8_recordFrom_1 ⟨Nat.le_of_ble_eq_true rfl, Nat.le_of_ble_eq_true rfl⟩) hS (fun u2 H locs p3 hw hS => ?_)
  obtain ⟨X4, eu2, hRX4, hG5, hCIX4, p3, hfaX4⟩ := p3
  subst eu2
  have hFX4 : Frm [701, 707, 800, 900, 1000, 1100, 1200, 1300, 1400, 1504, 2602] X X4 := Frm.tr Frm.rf (Frm.mono hG5 (by decide))
  refine lv_aload_n hx hb dX8_recordFrom_4 rfl (lv_at hl 2 rfl) ?_
  refine lv_iconst (v := jI 0) hx hb dX8_recordFrom_5 rfl ?_
  refine x_puti (jz := 0) hx hb hf4 ⟨tyX4_ok, nmX4⟩ hw hS (by omega) (by omega) sl_7_0 rfl lk231 rfl (tyX4_ok 0 (by decide)) rfl rfl dX8_recordFrom_6 (fun H locs hw hS => ?_)
  obtain ⟨X6, hX6⟩ : ∃ Xq, Xq = u3 X4 7 g 0 0 := ⟨_, rfl⟩
  rw [← hX6] at hw
  have hRX6 : Rng X6 := by rw [hX6]; exact rng_set hRX4 (show 0 ≤ 0 ∧ 0 ≤ 30 by omega)
  have hVX6 : X6 7 g 0 = 0 := by rw [hX6]; exact u3_s _ _ _ _ _
  have hFX6 : Frm [701, 707, 800, 900, 1000, 1100, 1200, 1300, 1400, 1504, 2602] X X6 := by rw [hX6]; exact Frm.set hFX4 (show 701 ∈ [701, 707, 800, 900, 1000, 1100, 1200, 1300, 1400, 1504, 2602] by decide)
  refine lv_aload_n hx hb dX8_recordFrom_9 rfl (lv_at hl 2 rfl) ?_
  refine lv_iconst (v := jI 0) hx hb dX8_recordFrom_10 rfl ?_
  refine x_puti (jz := 6) hx hb hf4 ⟨tyX4_ok, nmX4⟩ hw hS (by omega) (by omega) sl_7_6 rfl lk234 rfl (tyX4_ok 6 (by decide)) rfl rfl dX8_recordFrom_11 (fun H locs hw hS => ?_)
  obtain ⟨X7, hX7⟩ : ∃ Xq, Xq = u3 X6 7 g 6 0 := ⟨_, rfl⟩
  rw [← hX7] at hw
  have hRX7 : Rng X7 := by rw [hX7]; exact rng_set hRX6 (show 0 ≤ 0 ∧ 0 ≤ 150 by omega)
  have hVX7 : X7 7 g 6 = 0 := by rw [hX7]; exact u3_s _ _ _ _ _
  have hFX7 : Frm [701, 707, 800, 900, 1000, 1100, 1200, 1300, 1400, 1504, 2602] X X7 := by rw [hX7]; exact Frm.set hFX6 (show 707 ∈ [701, 707, 800, 900, 1000, 1100, 1200, 1300, 1400, 1504, 2602] by decide)
  have q8 : Frm [701, 707] X4 X6 := by rw [hX6]; exact Frm.set Frm.rf (show 701 ∈ [701, 707] by decide)
  have q9 : Frm [701, 707] X4 X7 := by rw [hX7]; exact Frm.set q8 (show 707 ∈ [701, 707] by decide)
  have hO0 : rcOK X7 Y g := rcOK.nil (by rw [hX7, u3_ij (by omega)]; exact hVX6)
  have hCI0 : CInv cnt X7 Y ln := cinv_record (g := g) hCIX4 (Frm.mono q9 (by decide)) Frm.rf (fun i hi => ⟨(by rw [hX7, u3_ij (by omega), hX6, u3_ij (by omega)]), fun j => (by rw [hX7, u3_k _ _ _ _ (by decide), hX6, u3_k _ _ _ _ (by decide)])⟩) (fun r9 a b => by rw [hX7, u3_ij (by omega)] at b; rw [hVX6] at b; omega)
  refine lv_aload_n hx hb dX8_recordFrom_14 rfl (lv_at hl 0 rfl) ?_
  refine lv_aload_n hx hb dX8_recordFrom_15 rfl (lv_at hl 1 rfl) ?_
  refine lv_aload_n hx hb dX8_recordFrom_16 rfl (lv_at hl 2 rfl) ?_
  have e10 : X7 0 0 3 = X 0 0 3 := by rw [hX7, u3_k _ _ _ _ (by decide), hX6, u3_k _ _ _ _ (by decide), hG5 0 0 3 (show 4 ∉ [1504, 2602] by decide)]
  refine gos_i (run_V (As := [.ref (ad 15 x), .ref (ad 7 g)]) (rest := []) hx hb hml hown hts (c_X8_recordNumberOf l D tc base ad cnt X7 Y ln hRX7 hFx hLn hCI0 x g (by omega) (by simp only [e10]; omega) (by omega) hO0) (cwV 2 hts gX8_recordFrom_X8_recordNumberOf rfl rfl rfl (by decide +kernel) ⟨Nat.le_of_ble_eq_true rfl, Nat.le_of_ble_eq_true rfl⟩) hK hw (by omega) (by omega) sl_0_0 rfl rfl hl.1 rfl (Nat.le_of_ble_eq_true rfl) dX8_recordFrom_17 ⟨Nat.le_of_ble_eq_true rfl, Nat.le_of_ble_eq_true rfl⟩) hS (fun z11 u12 H locs p13 hw hS => ?_)
  obtain ⟨X14, Y15, eu12, hRX14, hG16, hJ17, hCIX14, p13, hOX14, hleX14⟩ := p13
  subst eu12
  have hFX14 : Frm [701, 707, 800, 900, 1000, 1100, 1200, 1300, 1400, 1504, 2602] X X14 := Frm.tr hFX7 (Frm.mono hG16 (by decide))
  have hHY15 : Frm [500] Y Y15 := Frm.tr Frm.rf (Frm.mono hJ17 (by decide))
  refine lv_pop hx hb dX8_recordFrom_20 rfl ?_
  refine lv_iconst (v := jI 0) hx hb dX8_recordFrom_21 rfl ?_
  refine lv_istore_n (lv' := [(3, .int (jI 0)), (0, .ref (ad 0 0)), (1, .ref (ad 15 x)), (2, .ref (ad 7 g))]) hx hb dX8_recordFrom_22 rfl hl (by decide) rfl (fun ls hl => ?_)
  have lp23 : ∀ (nn : Nat) (r : Int) (Xa : Nat → Int → Int → Int) (Ya : Nat → Int → Int → Option Int) (H : Heap) (locs : List Loc) (ls : Array Slot), (30 - r) < (nn : Int) → (Rng Xa) → (Frm [701, 707, 800, 900, 1000, 1100, 1200, 1300, 1400, 1504, 2602] X14 Xa) → (Frm [500] Y15 Ya) → (0 ≤ r ∧ r ≤ 30) → (CInv cnt Xa Ya ln) → (rcOK Xa Ya g) → (Xa 7 g 6 ≤ 5 * r) → (cRv Xa) → wd D tc base (ad, cnt, Xa, Ya, ln) H → va_S (frA base) s.heap H locs → lv_has ls 4 [(0, .ref (ad 0 0)), (1, .ref (ad 15 x)), (2, .ref (ad 7 g)), (3, .int (jI r))] → W p l e ({ frames := 3, cells := 0, slots := 0, locals := 72 } : Room) s m ([.ref (ad 0 0), .ref (ad 15 x), .ref (ad 7 g)] : List Value).toArray below meth c H locs 0 0 (MQ below (QV D tc base (fun u => ∃ (X1 : Nat → Int → Int → Int) (Y1 : Nat → Int → Int → Option Int), u = (ad, cnt, X1, Y1, ln) ∧ Rng X1 ∧ Frm [701, 707, 800, 900, 1000, 1100, 1200, 1300, 1400, 1504, 2602] X X1 ∧ Frm [500] Y Y1 ∧ CInv cnt X1 Y1 ln ∧ (0 : Int) ≤ 0 ∧ rcOK X1 Y1 g ∧ cRv X1)) ([.ref (ad 0 0), .ref (ad 15 x), .ref (ad 7 g)] : List Value).toArray s 0 0 (frA base)) (F0 m 23 ls []) := by
    intro nn
    induction nn with
    | zero => intro r Xa Ya H locs ls hm hRXa hGXa hGYa hr0 hCIXa hOa hna hRa hw hS hl; exfalso; omega
    | succ nn ih23 =>
      intro r Xa Ya H locs ls hm hRXa hGXa hGYa hr0 hCIXa hOa hna hRa hw hS hl
      have hHYa : Frm [500] Y Ya := Frm.tr hHY15 (Frm.mono hGYa (by decide))
      have hFXa : Frm [701, 707, 800, 900, 1000, 1100, 1200, 1300, 1400, 1504, 2602] X Xa := Frm.tr hFX14 (Frm.mono hGXa (by decide))
      skip
      refine lv_iload_n hx hb dX8_recordFrom_23 rfl (lv_at hl 3 rfl) ?_
      refine lv_bipush (v := jI 30) hx hb dX8_recordFrom_24 (by decide) ?_
      refine x_icmp_ge (tgt := 55) hx hb (by omega) (by omega) dX8_recordFrom_26 (by decide) (fun c18 => ?_) (fun c18 => ?_)
      · refine ret_v (mc := 0) (ms := 0) hx hb hr hlocks hw hS (by omega) (by omega) dX8_recordFrom_55 ?_
        exact ⟨Xa, Ya, rfl, hRXa, hFXa, hHYa, hCIXa, by omega, hOa, hRa⟩
      · refine lv_iload_n hx hb dX8_recordFrom_29 rfl (lv_at hl 3 rfl) ?_
        refine lv_aload_n hx hb dX8_recordFrom_30 rfl (lv_at hl 2 rfl) ?_
        refine x_geti (jz := 0) hx hb hf4 hw (by omega) (by omega) sl_7_0 rfl lk231 dX8_recordFrom_31 ?_
        have f19 : 0 ≤ Xa 7 g 0 ∧ Xa 7 g 0 ≤ 30 := hRXa 7 g 0
        refine x_icmp_ge (tgt := 55) hx hb (by omega) (by omega) dX8_recordFrom_34 (by decide) (fun c20 => ?_) (fun c20 => ?_)
        · refine ret_v (mc := 0) (ms := 0) hx hb hr hlocks hw hS (by omega) (by omega) dX8_recordFrom_55 ?_
          exact ⟨Xa, Ya, rfl, hRXa, hFXa, hHYa, hCIXa, by omega, hOa, hRa⟩
        · refine lv_aload_n hx hb dX8_recordFrom_37 rfl (lv_at hl 0 rfl) ?_
          refine lv_aload_n hx hb dX8_recordFrom_38 rfl (lv_at hl 0 rfl) ?_
          refine x_geto hx hb hf8 hw (by omega) (by omega) sl_0_8 lk39 dX8_recordFrom_39 ?_
          refine lv_iload_n hx hb dX8_recordFrom_42 rfl (lv_at hl 3 rfl) ?_
          refine x_aald hx hb hK.1 hw (by omega) (by omega) ar_5 rfl (len_E ar_5 (by decide)) (by omega) (by omega) (by omega) dX8_recordFrom_43 (fun y21 => ?_) (fun r22 y21 gr22 lr22 => ?_)
          · exfalso
            obtain ⟨x9, e9, -⟩ := hOa.1 r (by omega) (by omega); rw [e9] at y21; cases y21
          · have e23 : Xa 0 0 3 = X 0 0 3 := by rw [hGXa 0 0 3 (show 4 ∉ [701, 707, 800, 900, 1000, 1100, 1200, 1300, 1400, 1504, 2602] by decide), hG16 0 0 3 (show 4 ∉ [1504, 701, 800, 900] by decide), hX7, u3_k _ _ _ _ (by decide), hX6, u3_k _ _ _ _ (by decide), hG5 0 0 3 (show 4 ∉ [1504, 2602] by decide)]
            have hb8 : r22 < X 0 0 3 := by obtain ⟨x9, e9, a9, b9, -⟩ := hOa.1 r (by omega) (by omega); rw [e9] at y21; cases y21; simp only [e23] at b9; exact b9
            refine lv_iload_n hx hb dX8_recordFrom_44 rfl (lv_at hl 3 rfl) ?_
            refine lv_aload_n hx hb dX8_recordFrom_45 rfl (lv_at hl 2 rfl) ?_
            have e24 : Xa 0 0 3 = X 0 0 3 := by rw [hGXa 0 0 3 (show 4 ∉ [701, 707, 800, 900, 1000, 1100, 1200, 1300, 1400, 1504, 2602] by decide), hG16 0 0 3 (show 4 ∉ [1504, 701, 800, 900] by decide), hX7, u3_k _ _ _ _ (by decide), hX6, u3_k _ _ _ _ (by decide), hG5 0 0 3 (show 4 ∉ [1504, 2602] by decide)]
            refine gos_v (run_V (As := [.ref (ad 15 r22), .int (jI r), .ref (ad 7 g)]) (rest := []) hx hb hml hown hts (c_X8_recordFields l D tc base ad cnt Xa Ya ln hRXa hFx hLn hCIXa r22 r g (by omega) (by simp only [e24]; omega) (by omega) (by omega) hOa (by omega) hRa) (cwV 3 hts gX8_recordFrom_X8_recordFields rfl rfl rfl (by decide +kernel) ⟨Nat.le_of_ble_eq_true rfl, Nat.le_of_ble_eq_true rfl⟩) hK hw (by omega) (by omega) sl_0_0 rfl rfl hl.1 rfl (Nat.le_of_ble_eq_true rfl) dX8_recordFrom_46 ⟨Nat.le_of_ble_eq_true rfl, Nat.le_of_ble_eq_true rfl⟩) hS (fun u26 H locs p27 hw hS => ?_)
            obtain ⟨X28, Y29, eu26, hRX28, hG30, hJ31, hCIX28, p27, hOX28, hleX28, hnrX28, hRvX28⟩ := p27
            subst eu26
            have hFX28 : Frm [701, 707, 800, 900, 1000, 1100, 1200, 1300, 1400, 1504, 2602] X X28 := Frm.tr hFXa (Frm.mono hG30 (by decide))
            have hHY29 : Frm [500] Y Y29 := Frm.tr hHYa (Frm.mono hJ31 (by decide))
            refine lv_iinc (v := jI (r + 1)) (lv' := [(3, .int (jI (r + 1))), (0, .ref (ad 0 0)), (1, .ref (ad 15 x)), (2, .ref (ad 7 g))]) hx hb dX8_recordFrom_49 hl (k := 3) rfl (jI_add _ _) (by decide) rfl (fun ls hl => ?_)
            refine lv_goto (tgt := 23) hx hb dX8_recordFrom_52 (by decide) ?_
            have q32 : Frm [701, 707, 800, 900, 1000, 1100, 1200, 1300, 1400, 1504, 2602] X14 Xa := Frm.tr Frm.rf (Frm.mono hGXa (by decide))
            have q33 : Frm [701, 707, 800, 900, 1000, 1100, 1200, 1300, 1400, 1504, 2602] X14 X28 := Frm.tr q32 (Frm.mono hG30 (by decide))
            have q34 : Frm [500] Y15 Ya := Frm.tr Frm.rf (Frm.mono hGYa (by decide))
            have q35 : Frm [500] Y15 Y29 := Frm.tr q34 (Frm.mono hJ31 (by decide))
            exact ih23 (r + 1) X28 Y29 _ _ _ (by omega) hRX28 q33 q35 (by omega) (hCIX28) (hOX28) ((by omega)) (hRvX28) hw hS (lv_sub hl [1, 2, 3, 0] rfl)
  have e36 : X14 7 g 6 = X7 7 g 6 := by rw [hG16 7 g 6 (show 707 ∉ [1504, 701, 800, 900] by decide)]
  have q37 : Frm [701, 707, 800, 900, 1504, 2602] X X4 := Frm.tr Frm.rf (Frm.mono hG5 (by decide))
  have q38 : Frm [701, 707, 800, 900, 1504, 2602] X X6 := by rw [hX6]; exact Frm.set q37 (show 701 ∈ [701, 707, 800, 900, 1504, 2602] by decide)
  have q39 : Frm [701, 707, 800, 900, 1504, 2602] X X7 := by rw [hX7]; exact Frm.set q38 (show 707 ∈ [701, 707, 800, 900, 1504, 2602] by decide)
  have q40 : Frm [701, 707, 800, 900, 1504, 2602] X X14 := Frm.tr q39 (Frm.mono hG16 (by decide))
  exact lp23 (30 - 0 : Int).toNat.succ 0 X14 Y15 _ _ _ (by omega) hRX14 Frm.rf Frm.rf (by omega) (hCIX14) (hOX14) ((by simp only [e36]; omega)) (hRv.frm q40 (by decide)) hw hS (lv_sub hl [1, 2, 3, 0] rfl)

