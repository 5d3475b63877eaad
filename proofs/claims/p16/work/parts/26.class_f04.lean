set_option maxHeartbeats 4000000 in
set_option maxRecDepth 100000 in
theorem c_X8_fault (l : Launch) (D : va_G) (tc : Nat → ClassId) (base : Nat) (ad : Nat → Int → Nat) (cnt : Nat → Int) (X : Nat → Int → Int → Int) (Y : Nat → Int → Int → Option Int) (ln : Int → Int) (hR : Rng X) (hFx : Fx cnt) (hLn : LnOK ln) (hCI : CInv cnt X Y ln) (what : Int) (hwhat : -2147483648 ≤ what ∧ what ≤ 2147483647) : KI l D tc base yX8_fault wsX8_fault ({ frames := 0, cells := 0, slots := 0, locals := 0 } : Room) [.ref (ad 0 0), .int (jI what)] (ad, cnt, X, Y, ln) 0 0 (fun z u => ∃ (X1 : Nat → Int → Int → Int), u = (ad, cnt, X1, Y, ln) ∧ Rng X1 ∧ Frm [] X X1 ∧ CInv cnt X1 Y ln ∧ (-2147483648 ≤ z ∧ z ≤ 2147483647)) := by
  refine K_of (cc := cX8_fault) (maxL := 2) (ret := (some .int)) (by decide) rfl (Nat.le_of_ble_eq_true rfl) ?_
  intro p e s m below meth c ls hx hb hr hml hown hts hlocks hl hK hw hS
  have hown : s.vm.findClass RX8 = some m.cls := hown
  obtain ⟨av9, hav9⟩ : ∃ a9 : Array Value, a9 = ([.ref (ad 0 0), .int (jI what)] : List Value).toArray := ⟨_, rfl⟩
  rw [← hav9] at hts ⊢
  obtain ⟨Q9, hQ9⟩ : ∃ q9Q : State → Prop, q9Q = MQ below (QI D tc base (fun z u => ∃ (X1 : Nat → Int → Int → Int), u = (ad, cnt, X1, Y, ln) ∧ Rng X1 ∧ Frm [] X X1 ∧ CInv cnt X1 Y ln ∧ (-2147483648 ≤ z ∧ z ≤ 2147483647))) av9 s 0 0 (frA base) := ⟨_, rfl⟩
  rw [← hQ9]
  have hi1 : ∀ w ∈ wsX10, w ∈ wsX8_fault := fun w h => List.mem_cons_of_mem _ (List.mem_append_right _ h)
  have hf1 : fctx s m _ RX8 wsX8_fault D tc RX1 TX1 4 1 := ⟨hts, hi1, hown, hK.1, rfl⟩
  have hi8 : ∀ w ∈ wsX80, w ∈ wsX8_fault := fun w h => List.mem_cons_of_mem _ (List.mem_append_left _ (List.mem_append_right _ h))
  have hf8 : fctx s m _ RX8 wsX8_fault D tc RX8 TX8 12 8 := ⟨hts, hi8, hown, hK.1, rfl⟩
  have lk58 := hts (.fieldLink RX8 58 (TX8 11).1 (TX8 11).2.1 (TX8 11).2.2.1) (gj_X8_fault_0 _ (gp_h))
  have lk248 := hts (.fieldLink RX8 248 (TX1 0).1 (TX1 0).2.1 (TX1 0).2.2.1) (gj_X8_fault_0 _ (gp_1 gp_h))
  have lk252 := hts (.fieldLink RX8 252 (TX1 1).1 (TX1 1).2.1 (TX1 1).2.2.1) (gj_X8_fault_0 _ (gp_1 (gp_1 gp_h)))
  have lk255 := hts (.fieldLink RX8 255 (TX1 2).1 (TX1 2).2.1 (TX1 2).2.2.1) (gj_X8_fault_0 _ (gp_1 (gp_1 (gp_1 gp_h))))
  have lk258 := hts (.fieldLink RX8 258 (TX1 3).1 (TX1 3).2.1 (TX1 3).2.2.1) (gj_X8_fault_0 _ (gp_4 gp_h))
  have hc0 : cnt 0 = 1 := hFx.at 0 1 (by decide)
  have hc32 : cnt 32 = 1 := hFx.at 32 1 (by decide)
  have hl : lv_has ls 2 [(0, .ref (ad 0 0)), (1, .int (jI what))] := hl
  have ftc : 0 ≤ X 0 0 3 ∧ X 0 0 3 ≤ 30 := hR 0 0 3
  have fty : 0 ≤ X 0 0 1 ∧ X 0 0 1 ≤ 8 := hR 0 0 1
  have hct : cnt 19 = X 0 0 1 := hCI.2.2.2.1.1
  have hfj : 0 ≤ X 29 0 3 ∧ X 29 0 3 ≤ 4 := hR 29 0 3
  have hfn : 0 ≤ X 29 0 1 ∧ X 29 0 1 ≤ 80 := hR 29 0 1
  refine lv_aload_n hx hb dX8_fault_0 rfl (lv_at hl 0 rfl) ?_
  refine x_geto hx hb hf8 hw (by first | exact Int.le_refl 0 | omega) (by first | exact zlt hc0 | omega) sl_0_11 lk58 dX8_fault_1 ?_
  refine x_geti (jz := 0) hx hb hf1 hw (by first | exact Int.le_refl 0 | omega) (by first | exact zlt hc32 | omega) sl_32_0 rfl lk248 dX8_fault_4 ?_
  have f1 : 0 ≤ X 32 0 0 ∧ X 32 0 0 ≤ 1 := hR 32 0 0
  refine x_if_ne (tgt := 13) hx hb (by omega) dX8_fault_7 (by decide) (fun c2 => ?_) (fun c2 => ?_)
  · refine lv_iload_n hx hb dX8_fault_13 rfl (lv_at hl 1 rfl) ?_
    have tc3 : (jI what).toInt = what := jI_toInt (by omega)
    by_cases c3 : what < 0 ∨ 2 < what
    · refine lv_tableOut (tgt := 64) hx hb dX8_fault_14 (by rw [tc3]; exact c3) (by decide) ?_
      refine lv_bipush (v := jI (-2)) hx hb dX8_fault_64 (by decide) ?_
      rw [hQ9]
      refine ret_i (mc := 0) (ms := 0) hx hb hr hlocks hw hS (by first | exact Nat.le_of_ble_eq_true rfl | omega) (by first | exact Nat.le_of_ble_eq_true rfl | omega) dX8_fault_66 ?_
      exact ⟨X, rfl, hR, Frm.rf, hCI, by omega⟩
    by_cases c4 : what = 0
    · refine lv_tableIn (off := 26) (tgt := 40) hx hb dX8_fault_14 (by rw [tc3]; omega) (by rw [tc3]; omega) (by rw [tc3, c4]; rfl) (by decide) ?_
      refine lv_aload_n hx hb dX8_fault_40 rfl (lv_at hl 0 rfl) ?_
      refine x_geto hx hb hf8 hw (by first | exact Int.le_refl 0 | omega) (by first | exact zlt hc0 | omega) sl_0_11 lk58 dX8_fault_41 ?_
      refine x_geti (jz := 1) hx hb hf1 hw (by first | exact Int.le_refl 0 | omega) (by first | exact zlt hc32 | omega) sl_32_1 rfl lk252 dX8_fault_44 ?_
      have f5 : (-2147483648) ≤ X 32 0 1 ∧ X 32 0 1 ≤ 2147483647 := hR 32 0 1
      rw [hQ9]
      refine ret_i (mc := 0) (ms := 0) hx hb hr hlocks hw hS (by first | exact Nat.le_of_ble_eq_true rfl | omega) (by first | exact Nat.le_of_ble_eq_true rfl | omega) dX8_fault_47 ?_
      exact ⟨X, rfl, hR, Frm.rf, hCI, by omega⟩
    by_cases c6 : what = 1
    · refine lv_tableIn (off := 34) (tgt := 48) hx hb dX8_fault_14 (by rw [tc3]; omega) (by rw [tc3]; omega) (by rw [tc3, c6]; rfl) (by decide) ?_
      refine lv_aload_n hx hb dX8_fault_48 rfl (lv_at hl 0 rfl) ?_
      refine x_geto hx hb hf8 hw (by first | exact Int.le_refl 0 | omega) (by first | exact zlt hc0 | omega) sl_0_11 lk58 dX8_fault_49 ?_
      refine x_geti (jz := 2) hx hb hf1 hw (by first | exact Int.le_refl 0 | omega) (by first | exact zlt hc32 | omega) sl_32_2 rfl lk255 dX8_fault_52 ?_
      have f7 : (-2147483648) ≤ X 32 0 2 ∧ X 32 0 2 ≤ 2147483647 := hR 32 0 2
      rw [hQ9]
      refine ret_i (mc := 0) (ms := 0) hx hb hr hlocks hw hS (by first | exact Nat.le_of_ble_eq_true rfl | omega) (by first | exact Nat.le_of_ble_eq_true rfl | omega) dX8_fault_55 ?_
      exact ⟨X, rfl, hR, Frm.rf, hCI, by omega⟩
    have c8 : what = 2 := by omega
    refine lv_tableIn (off := 42) (tgt := 56) hx hb dX8_fault_14 (by rw [tc3]; omega) (by rw [tc3]; omega) (by rw [tc3, c8]; rfl) (by decide) ?_
    refine lv_aload_n hx hb dX8_fault_56 rfl (lv_at hl 0 rfl) ?_
    refine x_geto hx hb hf8 hw (by first | exact Int.le_refl 0 | omega) (by first | exact zlt hc0 | omega) sl_0_11 lk58 dX8_fault_57 ?_
    refine x_geti (jz := 3) hx hb hf1 hw (by first | exact Int.le_refl 0 | omega) (by first | exact zlt hc32 | omega) sl_32_3 rfl lk258 dX8_fault_60 ?_
    have f9 : (-2147483648) ≤ X 32 0 3 ∧ X 32 0 3 ≤ 2147483647 := hR 32 0 3
    rw [hQ9]
    refine ret_i (mc := 0) (ms := 0) hx hb hr hlocks hw hS (by first | exact Nat.le_of_ble_eq_true rfl | omega) (by first | exact Nat.le_of_ble_eq_true rfl | omega) dX8_fault_63 ?_
    exact ⟨X, rfl, hR, Frm.rf, hCI, by omega⟩
  · refine lv_bipush (v := jI (-9)) hx hb dX8_fault_10 (by decide) ?_
    rw [hQ9]
    refine ret_i (mc := 0) (ms := 0) hx hb hr hlocks hw hS (by first | exact Nat.le_of_ble_eq_true rfl | omega) (by first | exact Nat.le_of_ble_eq_true rfl | omega) dX8_fault_12 ?_
    exact ⟨X, rfl, hR, Frm.rf, hCI, by omega⟩
