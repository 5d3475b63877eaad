set_option maxHeartbeats 4000000 in
set_option maxRecDepth 100000 in
theorem c_X8_type (l : Launch) (D : va_G) (tc : Nat → ClassId) (base : Nat) (ad : Nat → Int → Nat) (cnt : Nat → Int) (X : Nat → Int → Int → Int) (Y : Nat → Int → Int → Option Int) (ln : Int → Int) (hR : Rng X) (hFx : Fx cnt) (hLn : LnOK ln) (hCI : CInv cnt X Y ln) (hOw : Own cnt) (hN : 0 ≤ cnt 25 ∧ 0 ≤ cnt 26)  : KI l D tc base yX8_type wsX8_type ({ frames := 2, cells := 6, slots := 32, locals := 33 } : Room) [.ref (ad 0 0)] (ad, cnt, X, Y, ln) 6 32 (fun z u => ∃ (ad1 : Nat → Int → Nat) (cnt1 : Nat → Int) (X1 : Nat → Int → Int → Int) (Y1 : Nat → Int → Int → Option Int) (ln1 : Int → Int), u = (ad1, cnt1, X1, Y1, ln1) ∧ Ext ad cnt ln ad1 cnt1 ln1 ∧ Fx cnt1 ∧ Own cnt1 ∧ LnOK ln1 ∧ Rng X1 ∧ Frm [1901, 1902, 1907, 2000, 2100, 2200, 2300, 2] X X1 ∧ Frm [2400, 100] Y Y1 ∧ CInv cnt1 X1 Y1 ln1 ∧ (-4 ≤ z ∧ z ≤ 7) ∧ ((8 ≤ X 0 0 1 ∧ z = -4 ∧ X1 0 0 1 = X 0 0 1) ∨ (X 0 0 1 < 8 ∧ z = X 0 0 1 ∧ X1 0 0 1 = X 0 0 1 + 1 ∧ X1 19 (X 0 0 1) 1 = 0 ∧ X1 19 (X 0 0 1) 6 = 0)) ∧ (∀ y, y ≠ X 0 0 1 → X1 19 y = X 19 y ∧ X1 20 y = X 20 y ∧ X1 21 y = X 21 y ∧ X1 22 y = X 22 y ∧ X1 23 y = X 23 y)) := by
  refine K_of (cc := cX8_type) (maxL := 1) (ret := (some .int)) (by decide) rfl (Nat.le_of_ble_eq_true rfl) ?_
  intro p e s m below meth c ls hx hb hr hml hown hts hlocks hl hK hw hS
  have hown : s.vm.findClass RX8 = some m.cls := hown
  have hbs : base ≤ s.heap.size := wd_size hw
  obtain ⟨av9, hav9⟩ : ∃ a9 : Array Value, a9 = ([.ref (ad 0 0)] : List Value).toArray := ⟨_, rfl⟩
  rw [← hav9] at hts ⊢
  obtain ⟨Q9, hQ9⟩ : ∃ q : State → Prop, q = MQ below (QI D tc base (fun z u => ∃ (ad1 : Nat → Int → Nat) (cnt1 : Nat → Int) (X1 : Nat → Int → Int → Int) (Y1 : Nat → Int → Int → Option Int) (ln1 : Int → Int), u = (ad1, cnt1, X1, Y1, ln1) ∧ Ext ad cnt ln ad1 cnt1 ln1 ∧ Fx cnt1 ∧ Own cnt1 ∧ LnOK ln1 ∧ Rng X1 ∧ Frm [1901, 1902, 1907, 2000, 2100, 2200, 2300, 2] X X1 ∧ Frm [2400, 100] Y Y1 ∧ CInv cnt1 X1 Y1 ln1 ∧ (-4 ≤ z ∧ z ≤ 7) ∧ ((8 ≤ X 0 0 1 ∧ z = -4 ∧ X1 0 0 1 = X 0 0 1) ∨ (X 0 0 1 < 8 ∧ z = X 0 0 1 ∧ X1 0 0 1 = X 0 0 1 + 1 ∧ X1 19 (X 0 0 1) 1 = 0 ∧ X1 19 (X 0 0 1) 6 = 0)) ∧ (∀ y, y ≠ X 0 0 1 → X1 19 y = X 19 y ∧ X1 20 y = X 20 y ∧ X1 21 y = X 21 y ∧ X1 22 y = X 22 y ∧ X1 23 y = X 23 y))) av9 s 6 32 (frA base) := ⟨_, rfl⟩
  rw [← hQ9]
  obtain ⟨ad0, ha0⟩ : ∃ a, a = ad := ⟨_, rfl⟩
  obtain ⟨cnt0, hc0⟩ : ∃ a, a = cnt := ⟨_, rfl⟩
  obtain ⟨ln0, hl0⟩ : ∃ a, a = ln := ⟨_, rfl⟩
  have hE9 : ∀ a c n, Ext ad0 cnt0 ln0 a c n → Ext ad cnt ln a c n := by rw [ha0, hc0, hl0]; exact fun _ _ _ h => h
  have hE : Ext ad0 cnt0 ln0 ad cnt ln := by rw [ha0, hc0, hl0]; exact Ext.rf
  clear ha0 hc0 hl0
  have hi7 : ∀ w ∈ wsX70, w ∈ wsX8_type := fun w h => List.mem_cons_of_mem _ (List.mem_append_right _ h)
  have hf7 : fctx s m _ RX8 wsX8_type D tc RX7 TX7 8 7 := ⟨hts, hi7, hown, hK.1, rfl⟩
  have hi8 : ∀ w ∈ wsX80, w ∈ wsX8_type := fun w h => List.mem_cons_of_mem _ (List.mem_append_left _ (List.mem_append_right _ h))
  have hf8 : fctx s m _ RX8 wsX8_type D tc RX8 TX8 12 8 := ⟨hts, hi8, hown, hK.1, rfl⟩
  have lk11 := hts (.fieldLink RX8 11 "StateRecords" "types" "[LStateRecords$Type;") (by decide +kernel)
  have lk63 := hts (.fieldLink RX8 63 "StateRecords" "typeCount" "I") (by decide +kernel)
  have hc0 : cnt 0 = 1 := hFx.at 0 1 (by decide)
  have hc1 : cnt 1 = 1 := hFx.at 1 1 (by decide)
  have hc20 : cnt 20 = cnt 19 := hFx.2.1 20 (by decide)
  have hc21 : cnt 21 = cnt 19 := hFx.2.1 21 (by decide)
  have hc22 : cnt 22 = cnt 19 := hFx.2.1 22 (by decide)
  have hc23 : cnt 23 = cnt 19 := hFx.2.1 23 (by decide)
  have hc24 : cnt 24 = cnt 19 := hFx.2.1 24 (by decide)
  have hl : lv_has ls 1 [(0, .ref (ad 0 0))] := hl
  have ftc : 0 ≤ X 0 0 3 ∧ X 0 0 3 ≤ 30 := hR 0 0 3
  have fty : 0 ≤ X 0 0 1 ∧ X 0 0 1 ≤ 8 := hR 0 0 1
  have hct : cnt 19 = X 0 0 1 := hCI.2.2.2.1.1
  have hfj : 0 ≤ X 29 0 3 ∧ X 29 0 3 ≤ 4 := hR 29 0 3
  have hfn : 0 ≤ X 29 0 1 ∧ X 29 0 1 ≤ 80 := hR 29 0 1
  refine lv_aload_n hx hb dX8_type_0 rfl (lv_at hl 0 rfl) ?_
  refine x_geti (jz := 1) hx hb hf8 hw (by omega) (by omega) sl_0_1 rfl lk63 dX8_type_1 ?_
  have f1 : 0 ≤ X 0 0 1 ∧ X 0 0 1 ≤ 8 := hR 0 0 1
  refine lv_bipush (v := jI 8) hx hb dX8_type_4 (by decide) ?_
  refine x_icmp_lt (tgt := 12) hx hb (by omega) (by omega) dX8_type_6 (by decide) (fun c2 => ?_) (fun c2 => ?_)
  · refine lv_aload_n hx hb dX8_type_12 rfl (lv_at hl 0 rfl) ?_
    refine x_geto hx hb hf8 hw (by omega) (by omega) sl_0_0 lk11 dX8_type_13 ?_
    refine lv_aload_n hx hb dX8_type_16 rfl (lv_at hl 0 rfl) ?_
    refine x_geti (jz := 1) hx hb hf8 hw (by omega) (by omega) sl_0_1 rfl lk63 dX8_type_17 ?_
    have f3 : 0 ≤ X 0 0 1 ∧ X 0 0 1 ≤ 8 := hR 0 0 1
    refine g_new (E := []) (G := []) (ci := 7) (fs := [.int 0, .int 0, .null, .null, .null, .null, .int 0, .null]) hx hb hf7 ⟨tyX7_ok, nmX7⟩ (hts (.classLink RX8 9 RX7) (by decide +kernel)) (hts (.instantiable RX7 8) (by decide +kernel)) (hts (.initialized RX7) (by decide +kernel)) (wx_of hw) hS hbs (fun j hj => by rcases (show j = 0 ∨ j = 1 ∨ j = 2 ∨ j = 3 ∨ j = 4 ∨ j = 5 ∨ j = 6 ∨ j = 7 by omega) with rfl | rfl | rfl | rfl | rfl | rfl | rfl | rfl <;> rfl) (by show _ ≤ (6 : Nat); omega) (by show _ ≤ (32 : Nat); omega) dX8_type_20 (fun q4 H hwx hS => ?_)
    have hwx : wx D tc base (ad, cnt, X, Y, ln) ([] ++ [(q4, .inr (7, [.int 0, .int 0, .null, .null, .null, .null, .int 0, .null]))]) H := hwx
    have hw := wx_wd hwx
    refine lv_dup hx hb dX8_type_23 rfl ?_
    refine lv_aload_n hx hb dX8_type_24 rfl (lv_at hl 0 rfl) ?_
    refine x_geti (jz := 1) hx hb hf8 hw (by omega) (by omega) sl_0_1 rfl lk63 dX8_type_25 ?_
    have f5 : 0 ≤ X 0 0 1 ∧ X 0 0 1 ≤ 8 := hR 0 0 1
    refine gos_x (run_I (As := [.int (jI (X 0 0 1))]) (rest := [.ref q4, .int (jI (X 0 0 1)), .ref (ad 1 0)]) hx hb hml hown hts (c_X7_init l D tc base (ad, cnt, X, Y, ln) [] q4 (X 0 0 1)) (cwI 1 hts gX8_type_X7_init rfl rfl rfl (hts (.initialized RX7) (by decide +kernel)) (hts (.methodLink RX8 67 yX7_init) (by decide +kernel)) (hts (.instanceMethod yX7_init) (by decide +kernel)) rfl (by decide +kernel) ⟨Nat.le_of_ble_eq_true rfl, Nat.le_of_ble_eq_true rfl⟩) hK hwx rfl hl.1 rfl (Nat.le_of_ble_eq_true rfl) dX8_type_28 ⟨by show _ ≤ (6 : Nat); omega, by show _ ≤ (32 : Nat); omega⟩) hS (fun u9 E6 H locs p7 hwx hS => ?_)
    obtain ⟨g8, hg8⟩ : ∃ g, g = cnt 19 := ⟨_, rfl⟩
    obtain ⟨rfl, q1, q2, q3, q4, q5, rfl⟩ := p7
    have hwx := (show wx D tc base (ad, cnt, X, Y, ln) ([] ++ _) H from hwx)
    obtain ⟨ad, cnt, X9, Y10, ln, hw, hE11, hFx, hOw, hLn, hRX9, hG12, hJ13, hkg8, hag8, hty1, hty2, hty3, hty4, hty5, hty6, hty7⟩ := born_type hwx (by omega) hFx hOw (by omega) hR hLn
    rw [← hg8] at hkg8 hag8 hty1 hty2 hty3 hty4 hty6 hty7
    have hFX9 : Frm [1901, 1902, 1907, 2000, 2100, 2200, 2300, 2] X X9 := Frm.tr Frm.rf (Frm.mono hG12 (by decide))
    have hHY10 : Frm [2400, 100] Y Y10 := Frm.tr Frm.rf (Frm.mono hJ13 (by decide))
    have hE := Ext.tr hE hE11
    have hm14 := hE11.2.1 19
    have hm15 := hE11.2.1 25
    have hm16 := hE11.2.1 26
    have hN : 0 ≤ cnt 25 ∧ 0 ≤ cnt 26 := by omega
    have ha17 := hE11.1 0 0 (by omega) (by omega)
    have ha18 := hE11.1 1 0 (by omega) (by omega)
    have hc0 : cnt 0 = 1 := hFx.at 0 1 (by decide)
    have hc1 : cnt 1 = 1 := hFx.at 1 1 (by decide)
    have hc20 : cnt 20 = cnt 19 := hFx.2.1 20 (by decide)
    have hc21 : cnt 21 = cnt 19 := hFx.2.1 21 (by decide)
    have hc22 : cnt 22 = cnt 19 := hFx.2.1 22 (by decide)
    have hc23 : cnt 23 = cnt 19 := hFx.2.1 23 (by decide)
    have hc24 : cnt 24 = cnt 19 := hFx.2.1 24 (by decide)
    have hl : lv_has ls 1 [(0, .ref (ad 0 0))] := by rw [ha17]; exact hl
    refine W.eq (g2 := F0 m 31 ls [.ref (ad 19 g8), .int (jI (X 0 0 1)), .ref (ad 1 0)]) (by first | rfl | (rw [ha18, hag8]; done) | (rw [ha18, hag8]; rfl)) ?_
    refine x_aast hx hb hK.1 hw hS (by omega) (by omega) ar_1 rfl rfl sl_19_0 (len_E ar_1 (by decide)) (by omega) (by omega) (by omega) (by omega) (by omega) dX8_type_31 (fun H locs hw hS => ?_)
    obtain ⟨Y19, hY19⟩ : ∃ Yq, Yq = u3 Y10 1 0 (X 0 0 1) (some g8) := ⟨_, rfl⟩
    rw [← hY19] at hw
    have hVY19 : Y19 1 0 (X 0 0 1) = (some g8) := by rw [hY19]; exact u3_s _ _ _ _ _
    have hHY19 : Frm [2400, 100] Y Y19 := by rw [hY19]; exact Frm.set hHY10 (show 100 ∈ [2400, 100] by decide)
    refine lv_aload_n hx hb dX8_type_32 rfl (lv_at hl 0 rfl) ?_
    refine lv_dup hx hb dX8_type_33 rfl ?_
    refine x_geti (jz := 1) hx hb hf8 hw (by omega) (by omega) sl_0_1 rfl lk63 dX8_type_34 ?_
    have e20 : X9 0 0 1 = X 0 0 1 := by rw [hG12 0 0 1 (show 2 ∉ [1901, 1902, 1907, 2000, 2100, 2200, 2300] by decide)]
    rw [e20]
    have f21 : 0 ≤ X 0 0 1 ∧ X 0 0 1 ≤ 8 := hR 0 0 1
    refine lv_iconst (v := jI 1) hx hb dX8_type_37 rfl ?_
    refine x_iadd hx hb dX8_type_38 ?_
    refine x_puti (jz := 1) hx hb hf8 ⟨tyX8_ok, nmX8⟩ hw hS (by omega) (by omega) sl_0_1 rfl lk63 rfl (tyX8_ok 1 (by decide)) rfl rfl dX8_type_39 (fun H locs hw hS => ?_)
    obtain ⟨X22, hX22⟩ : ∃ Xq, Xq = u3 X9 0 0 1 ((X 0 0 1) + 1) := ⟨_, rfl⟩
    rw [← hX22] at hw
    have hRX22 : Rng X22 := by rw [hX22]; exact rng_set hRX9 (show 0 ≤ ((X 0 0 1) + 1) ∧ ((X 0 0 1) + 1) ≤ 8 by omega)
    have hVX22 : X22 0 0 1 = ((X 0 0 1) + 1) := by rw [hX22]; exact u3_s _ _ _ _ _
    have hFX22 : Frm [1901, 1902, 1907, 2000, 2100, 2200, 2300, 2] X X22 := by rw [hX22]; exact Frm.set hFX9 (show 2 ∈ [1901, 1902, 1907, 2000, 2100, 2200, 2300, 2] by decide)
    refine lv_aload_n hx hb dX8_type_42 rfl (lv_at hl 0 rfl) ?_
    refine x_geti (jz := 1) hx hb hf8 hw (by omega) (by omega) sl_0_1 rfl lk63 dX8_type_43 ?_
    rw [hVX22]
    refine lv_iconst (v := jI 1) hx hb dX8_type_46 rfl ?_
    refine x_isub hx hb dX8_type_47 ?_
    rw [hQ9]
    refine ret_i (mc := 6) (ms := 32) hx hb hr hlocks hw hS (by omega) (by omega) dX8_type_48 ?_
    have hT9 : X 0 0 1 = g8 := by omega
    have hx7 : ∀ (k : Nat) (y : Int), k ≠ 0 → y ≠ g8 → X22 k y = X k y := fun k y hk hy => by rw [hX22, u3_k _ _ _ _ hk]; exact hty7 k y hy
    have hx8 : ∀ y : Int, y ≠ X 0 0 1 → X22 19 y = X 19 y ∧ X22 20 y = X 20 y ∧ X22 21 y = X 21 y ∧ X22 22 y = X 22 y ∧ X22 23 y = X 23 y := by
      intro y hy
      have h9 : y ≠ g8 := fun q => hy (by rw [q]; omega)
      exact ⟨hx7 19 y (by decide) h9, hx7 20 y (by decide) h9, hx7 21 y (by decide) h9, hx7 22 y (by decide) h9, hx7 23 y (by decide) h9⟩
    exact ⟨ad, cnt, X22, Y19, ln, rfl, hE9 _ _ _ hE, hFx, hOw, hLn, hRX22, hFX22, hHY19, cinv_type (T := X 0 0 1) hCI rfl (by omega) hFX22 hHY19 hVX22 (fun i hi => ⟨by rw [hX22, u3_k _ _ _ _ (by decide), hty3 i (by omega)], by rw [hX22, u3_k _ _ _ _ (by decide), hty3 i (by omega)], fun j => by rw [hY19, u3_k _ _ _ _ (by decide), hty4 i (by omega)], by rw [hY19, u3_ij (by omega), hJ13 1 0 i (show 100 ∉ [2400] by decide)]⟩) ⟨by rw [hX22, u3_k _ _ _ _ (by decide), hT9]; rw [hT9] at hty1; exact hty1, by rw [hX22, u3_k _ _ _ _ (by decide), hT9]; exact hty2, by rw [hVY19, hT9]⟩ (funext hty5), by omega, Or.inr ⟨by omega, by omega, by omega, (by rw [hX22, u3_k _ _ _ _ (by decide), hT9]; exact hty6), (by rw [hX22, u3_k _ _ _ _ (by decide), hT9]; exact hty2)⟩, hx8⟩
  · refine lv_bipush (v := jI (-4)) hx hb dX8_type_9 (by decide) ?_
    rw [hQ9]
    refine ret_i (mc := 6) (ms := 32) hx hb hr hlocks hw hS (by omega) (by omega) dX8_type_11 ?_
    exact ⟨ad, cnt, X, Y, ln, rfl, hE9 _ _ _ hE, hFx, hOw, hLn, hR, Frm.rf, Frm.rf, hCI, by omega, Or.inl ⟨by omega, by omega, rfl⟩, fun y hy => ⟨rfl, rfl, rfl, rfl, rfl⟩⟩

