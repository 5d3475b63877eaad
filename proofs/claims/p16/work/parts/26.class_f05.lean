set_option maxHeartbeats 4000000 in
set_option maxRecDepth 100000 in
theorem c_X8_count (l : Launch) (D : va_G) (tc : Nat → ClassId) (base : Nat) (ad : Nat → Int → Nat) (cnt : Nat → Int) (X : Nat → Int → Int → Int) (Y : Nat → Int → Int → Option Int) (ln : Int → Int) (hR : Rng X) (hFx : Fx cnt) (hLn : LnOK ln) (hCI : CInv cnt X Y ln) (what : Int) (hwhat : -2147483648 ≤ what ∧ what ≤ 2147483647) : KI l D tc base yX8_count wsX8_count ({ frames := 0, cells := 0, slots := 0, locals := 0 } : Room) [.ref (ad 0 0), .int (jI what)] (ad, cnt, X, Y, ln) 0 0 (fun z u => ∃ (X1 : Nat → Int → Int → Int), u = (ad, cnt, X1, Y, ln) ∧ Rng X1 ∧ Frm [] X X1 ∧ CInv cnt X1 Y ln ∧ (-2147483648 ≤ z ∧ z ≤ 2147483647) ∧ ((what = 0 ∧ z = X 0 0 1) ∨ (what = 1 ∧ z = X 0 0 3) ∨ (what = 2 ∧ z = X 29 0 3) ∨ (what = 3 ∧ z = X 29 0 1) ∨ (¬ (0 ≤ what ∧ what ≤ 3) ∧ z = -2)) ∧ X1 = X) := by
  refine K_of (cc := cX8_count) (maxL := 2) (ret := (some .int)) (by decide) rfl (Nat.le_of_ble_eq_true rfl) ?_
  intro p e s m below meth c ls hx hb hr hml hown hts hlocks hl hK hw hS
  have hown : s.vm.findClass RX8 = some m.cls := hown
  obtain ⟨av9, hav9⟩ : ∃ a9 : Array Value, a9 = ([.ref (ad 0 0), .int (jI what)] : List Value).toArray := ⟨_, rfl⟩
  rw [← hav9] at hts ⊢
  obtain ⟨Q9, hQ9⟩ : ∃ q9Q : State → Prop, q9Q = MQ below (QI D tc base (fun z u => ∃ (X1 : Nat → Int → Int → Int), u = (ad, cnt, X1, Y, ln) ∧ Rng X1 ∧ Frm [] X X1 ∧ CInv cnt X1 Y ln ∧ (-2147483648 ≤ z ∧ z ≤ 2147483647) ∧ ((what = 0 ∧ z = X 0 0 1) ∨ (what = 1 ∧ z = X 0 0 3) ∨ (what = 2 ∧ z = X 29 0 3) ∨ (what = 3 ∧ z = X 29 0 1) ∨ (¬ (0 ≤ what ∧ what ≤ 3) ∧ z = -2)) ∧ X1 = X)) av9 s 0 0 (frA base) := ⟨_, rfl⟩
  rw [← hQ9]
  have hi2 : ∀ w ∈ wsX20, w ∈ wsX8_count := fun w h => List.mem_cons_of_mem _ (List.mem_append_right _ h)
  have hf2 : fctx s m _ RX8 wsX8_count D tc RX2 TX2 4 2 := ⟨hts, hi2, hown, hK.1, rfl⟩
  have hi8 : ∀ w ∈ wsX80, w ∈ wsX8_count := fun w h => List.mem_cons_of_mem _ (List.mem_append_left _ (List.mem_append_right _ h))
  have hf8 : fctx s m _ RX8 wsX8_count D tc RX8 TX8 12 8 := ⟨hts, hi8, hown, hK.1, rfl⟩
  have lk51 := hts (.fieldLink RX8 51 (TX8 10).1 (TX8 10).2.1 (TX8 10).2.2.1) (gj_X8_count_0 _ (gp_1 (gp_1 gp_h)))
  have lk63 := hts (.fieldLink RX8 63 (TX8 1).1 (TX8 1).2.1 (TX8 1).2.2.1) (gj_X8_count_0 _ (gp_h))
  have lk82 := hts (.fieldLink RX8 82 (TX2 3).1 (TX2 3).2.1 (TX2 3).2.2.1) (gj_X8_count_0 _ (gp_1 (gp_1 (gp_1 gp_h))))
  have lk94 := hts (.fieldLink RX8 94 (TX8 3).1 (TX8 3).2.1 (TX8 3).2.2.1) (gj_X8_count_0 _ (gp_1 gp_h))
  have lk272 := hts (.fieldLink RX8 272 (TX2 1).1 (TX2 1).2.1 (TX2 1).2.2.1) (gj_X8_count_0 _ (gp_4 gp_h))
  have hc0 : cnt 0 = 1 := hFx.at 0 1 (by decide)
  have hc29 : cnt 29 = 1 := hFx.at 29 1 (by decide)
  have hl : lv_has ls 2 [(0, .ref (ad 0 0)), (1, .int (jI what))] := hl
  have ftc : 0 ≤ X 0 0 3 ∧ X 0 0 3 ≤ 30 := hR 0 0 3
  have fty : 0 ≤ X 0 0 1 ∧ X 0 0 1 ≤ 8 := hR 0 0 1
  have hct : cnt 19 = X 0 0 1 := hCI.2.2.2.1.1
  have hfj : 0 ≤ X 29 0 3 ∧ X 29 0 3 ≤ 4 := hR 29 0 3
  have hfn : 0 ≤ X 29 0 1 ∧ X 29 0 1 ≤ 80 := hR 29 0 1
  refine lv_iload_n hx hb dX8_count_0 rfl (lv_at hl 1 rfl) ?_
  have tc1 : (jI what).toInt = what := jI_toInt (by omega)
  by_cases c1 : what < 0 ∨ 3 < what
  · refine lv_tableOut (tgt := 58) hx hb dX8_count_1 (by rw [tc1]; exact c1) (by decide) ?_
    refine lv_bipush (v := jI (-2)) hx hb dX8_count_58 (by decide) ?_
    rw [hQ9]
    refine ret_i (mc := 0) (ms := 0) hx hb hr hlocks hw hS (by first | exact Nat.le_of_ble_eq_true rfl | omega) (by first | exact Nat.le_of_ble_eq_true rfl | omega) dX8_count_60 ?_
    exact ⟨X, rfl, hR, Frm.rf, hCI, by omega, (by first | exact Or.inr (Or.inr (Or.inr (Or.inr (⟨(fun q => by (try delta Hid at *); omega), by omega⟩)))) | exact Or.inl ⟨by omega, by omega⟩ | exact Or.inr (Or.inl ⟨by omega, by omega⟩) | exact Or.inr (Or.inr (Or.inl ⟨by omega, by omega⟩)) | exact Or.inr (Or.inr (Or.inr (Or.inl ⟨by omega, by omega⟩)))), rfl⟩
  by_cases c2 : what = 0
  · refine lv_tableIn (off := 31) (tgt := 32) hx hb dX8_count_1 (by rw [tc1]; omega) (by rw [tc1]; omega) (by rw [tc1, c2]; rfl) (by decide) ?_
    refine lv_aload_n hx hb dX8_count_32 rfl (lv_at hl 0 rfl) ?_
    refine x_geti (jz := 1) hx hb hf8 hw (by first | exact Int.le_refl 0 | omega) (by first | exact zlt hc0 | omega) sl_0_1 rfl lk63 dX8_count_33 ?_
    have f3 : 0 ≤ X 0 0 1 ∧ X 0 0 1 ≤ 8 := hR 0 0 1
    rw [hQ9]
    refine ret_i (mc := 0) (ms := 0) hx hb hr hlocks hw hS (by first | exact Nat.le_of_ble_eq_true rfl | omega) (by first | exact Nat.le_of_ble_eq_true rfl | omega) dX8_count_36 ?_
    exact ⟨X, rfl, hR, Frm.rf, hCI, by omega, (by first | exact Or.inl ⟨by omega, by omega⟩ | exact Or.inr (Or.inl ⟨by omega, by omega⟩) | exact Or.inr (Or.inr (Or.inl ⟨by omega, by omega⟩)) | exact Or.inr (Or.inr (Or.inr (Or.inl ⟨by omega, by omega⟩))) | exact Or.inr (Or.inr (Or.inr (Or.inr (⟨(fun q => by (try delta Hid at *); omega), by omega⟩))))), rfl⟩
  by_cases c4 : what = 1
  · refine lv_tableIn (off := 36) (tgt := 37) hx hb dX8_count_1 (by rw [tc1]; omega) (by rw [tc1]; omega) (by rw [tc1, c4]; rfl) (by decide) ?_
    refine lv_aload_n hx hb dX8_count_37 rfl (lv_at hl 0 rfl) ?_
    refine x_geti (jz := 3) hx hb hf8 hw (by first | exact Int.le_refl 0 | omega) (by first | exact zlt hc0 | omega) sl_0_3 rfl lk94 dX8_count_38 ?_
    have f5 : 0 ≤ X 0 0 3 ∧ X 0 0 3 ≤ 30 := hR 0 0 3
    rw [hQ9]
    refine ret_i (mc := 0) (ms := 0) hx hb hr hlocks hw hS (by first | exact Nat.le_of_ble_eq_true rfl | omega) (by first | exact Nat.le_of_ble_eq_true rfl | omega) dX8_count_41 ?_
    exact ⟨X, rfl, hR, Frm.rf, hCI, by omega, (by first | exact Or.inr (Or.inl ⟨by omega, by omega⟩) | exact Or.inl ⟨by omega, by omega⟩ | exact Or.inr (Or.inr (Or.inl ⟨by omega, by omega⟩)) | exact Or.inr (Or.inr (Or.inr (Or.inl ⟨by omega, by omega⟩))) | exact Or.inr (Or.inr (Or.inr (Or.inr (⟨(fun q => by (try delta Hid at *); omega), by omega⟩))))), rfl⟩
  by_cases c6 : what = 2
  · refine lv_tableIn (off := 41) (tgt := 42) hx hb dX8_count_1 (by rw [tc1]; omega) (by rw [tc1]; omega) (by rw [tc1, c6]; rfl) (by decide) ?_
    refine lv_aload_n hx hb dX8_count_42 rfl (lv_at hl 0 rfl) ?_
    refine x_geto hx hb hf8 hw (by first | exact Int.le_refl 0 | omega) (by first | exact zlt hc0 | omega) sl_0_10 lk51 dX8_count_43 ?_
    refine x_geti (jz := 3) hx hb hf2 hw (by first | exact Int.le_refl 0 | omega) (by first | exact zlt hc29 | omega) sl_29_3 rfl lk82 dX8_count_46 ?_
    have f7 : 0 ≤ X 29 0 3 ∧ X 29 0 3 ≤ 4 := hR 29 0 3
    rw [hQ9]
    refine ret_i (mc := 0) (ms := 0) hx hb hr hlocks hw hS (by first | exact Nat.le_of_ble_eq_true rfl | omega) (by first | exact Nat.le_of_ble_eq_true rfl | omega) dX8_count_49 ?_
    exact ⟨X, rfl, hR, Frm.rf, hCI, by omega, (by first | exact Or.inr (Or.inr (Or.inl ⟨by omega, by omega⟩)) | exact Or.inl ⟨by omega, by omega⟩ | exact Or.inr (Or.inl ⟨by omega, by omega⟩) | exact Or.inr (Or.inr (Or.inr (Or.inl ⟨by omega, by omega⟩))) | exact Or.inr (Or.inr (Or.inr (Or.inr (⟨(fun q => by (try delta Hid at *); omega), by omega⟩))))), rfl⟩
  have c8 : what = 3 := by omega
  refine lv_tableIn (off := 49) (tgt := 50) hx hb dX8_count_1 (by rw [tc1]; omega) (by rw [tc1]; omega) (by rw [tc1, c8]; rfl) (by decide) ?_
  refine lv_aload_n hx hb dX8_count_50 rfl (lv_at hl 0 rfl) ?_
  refine x_geto hx hb hf8 hw (by first | exact Int.le_refl 0 | omega) (by first | exact zlt hc0 | omega) sl_0_10 lk51 dX8_count_51 ?_
  refine x_geti (jz := 1) hx hb hf2 hw (by first | exact Int.le_refl 0 | omega) (by first | exact zlt hc29 | omega) sl_29_1 rfl lk272 dX8_count_54 ?_
  have f9 : 0 ≤ X 29 0 1 ∧ X 29 0 1 ≤ 80 := hR 29 0 1
  rw [hQ9]
  refine ret_i (mc := 0) (ms := 0) hx hb hr hlocks hw hS (by first | exact Nat.le_of_ble_eq_true rfl | omega) (by first | exact Nat.le_of_ble_eq_true rfl | omega) dX8_count_57 ?_
  exact ⟨X, rfl, hR, Frm.rf, hCI, by omega, (by first | exact Or.inr (Or.inr (Or.inr (Or.inl ⟨by omega, by omega⟩))) | exact Or.inl ⟨by omega, by omega⟩ | exact Or.inr (Or.inl ⟨by omega, by omega⟩) | exact Or.inr (Or.inr (Or.inl ⟨by omega, by omega⟩)) | exact Or.inr (Or.inr (Or.inr (Or.inr (⟨(fun q => by (try delta Hid at *); omega), by omega⟩))))), rfl⟩
