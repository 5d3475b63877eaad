set_option maxHeartbeats 4000000 in
set_option maxRecDepth 100000 in
theorem c_X8_told (l : Launch) (D : va_G) (tc : Nat → ClassId) (base : Nat) (ad : Nat → Int → Nat) (cnt : Nat → Int) (X : Nat → Int → Int → Int) (Y : Nat → Int → Int → Option Int) (ln : Int → Int) (hR : Rng X) (hFx : Fx cnt) (hLn : LnOK ln) (hCI : CInv cnt X Y ln) (x what : Int) (hx : -2147483648 ≤ x ∧ x ≤ 2147483647) (hwhat : -2147483648 ≤ what ∧ what ≤ 2147483647) : KI l D tc base yX8_told wsX8_told ({ frames := 1, cells := 0, slots := 0, locals := 22 } : Room) [.ref (ad 0 0), .int (jI x), .int (jI what)] (ad, cnt, X, Y, ln) 0 0 (fun z u => ∃ (X1 : Nat → Int → Int → Int), u = (ad, cnt, X1, Y, ln) ∧ Rng X1 ∧ Frm [] X X1 ∧ CInv cnt X1 Y ln ∧ (-2147483648 ≤ z ∧ z ≤ 2147483647) ∧ ((¬ (0 ≤ x ∧ x < X 0 0 3) ∧ z = -1) ∨ ((0 ≤ x ∧ x < X 0 0 3) ∧ what = 0 ∧ z = tyo (Y 15 x 0)) ∨ ((0 ≤ x ∧ x < X 0 0 3) ∧ what = 1 ∧ z = X 19 (tyo (Y 15 x 0)) 1) ∨ ((0 ≤ x ∧ x < X 0 0 3) ∧ what ≠ 0 ∧ what ≠ 1 ∧ z = -2)) ∧ X1 = X) := by
  refine K_of (cc := cX8_told) (maxL := 4) (ret := (some .int)) (by decide) rfl (Nat.le_of_ble_eq_true rfl) ?_
  intro p e s m below meth c ls hx hb hr hml hown hts hlocks hl hK hw hS
  have hown : s.vm.findClass RX8 = some m.cls := hown
  obtain ⟨av9, hav9⟩ : ∃ a9 : Array Value, a9 = ([.ref (ad 0 0), .int (jI x), .int (jI what)] : List Value).toArray := ⟨_, rfl⟩
  rw [← hav9] at hts ⊢
  obtain ⟨Q9, hQ9⟩ : ∃ q9Q : State → Prop, q9Q = MQ below (QI D tc base (fun z u => ∃ (X1 : Nat → Int → Int → Int), u = (ad, cnt, X1, Y, ln) ∧ Rng X1 ∧ Frm [] X X1 ∧ CInv cnt X1 Y ln ∧ (-2147483648 ≤ z ∧ z ≤ 2147483647) ∧ ((¬ (0 ≤ x ∧ x < X 0 0 3) ∧ z = -1) ∨ ((0 ≤ x ∧ x < X 0 0 3) ∧ what = 0 ∧ z = tyo (Y 15 x 0)) ∨ ((0 ≤ x ∧ x < X 0 0 3) ∧ what = 1 ∧ z = X 19 (tyo (Y 15 x 0)) 1) ∨ ((0 ≤ x ∧ x < X 0 0 3) ∧ what ≠ 0 ∧ what ≠ 1 ∧ z = -2)) ∧ X1 = X)) av9 s 0 0 (frA base) := ⟨_, rfl⟩
  rw [← hQ9]
  have hi6 : ∀ w ∈ wsX60, w ∈ wsX8_told := fun w h => List.mem_cons_of_mem _ (List.mem_append_left _ (List.mem_append_left _ (List.mem_append_right _ h)))
  have hf6 : fctx s m _ RX8 wsX8_told D tc RX6 TX6 4 6 := ⟨hts, hi6, hown, hK.1, rfl⟩
  have hi7 : ∀ w ∈ wsX70, w ∈ wsX8_told := fun w h => List.mem_cons_of_mem _ (List.mem_append_left _ (List.mem_append_right _ h))
  have hf7 : fctx s m _ RX8 wsX8_told D tc RX7 TX7 8 7 := ⟨hts, hi7, hown, hK.1, rfl⟩
  have lk85 := hts (.fieldLink RX8 85 (TX7 1).1 (TX7 1).2.1 (TX7 1).2.2.1) (gj_X8_told_0 _ (gp_1 (gp_1 gp_h)))
  have lk97 := hts (.fieldLink RX8 97 (TX6 0).1 (TX6 0).2.1 (TX6 0).2.2.1) (gj_X8_told_0 _ (gp_h))
  have lk205 := hts (.fieldLink RX8 205 (TX7 0).1 (TX7 0).2.1 (TX7 0).2.2.1) (gj_X8_told_0 _ (gp_1 gp_h))
  have hc0 : cnt 0 = 1 := hFx.at 0 1 (by decide)
  have hc15 : cnt 15 = 30 := hFx.at 15 30 (by decide)
  have hl : lv_has ls 4 [(0, .ref (ad 0 0)), (1, .int (jI x)), (2, .int (jI what))] := hl
  have ftc : 0 ≤ X 0 0 3 ∧ X 0 0 3 ≤ 30 := hR 0 0 3
  have fty : 0 ≤ X 0 0 1 ∧ X 0 0 1 ≤ 8 := hR 0 0 1
  have hct : cnt 19 = X 0 0 1 := hCI.2.2.2.1.1
  have hfj : 0 ≤ X 29 0 3 ∧ X 29 0 3 ≤ 4 := hR 29 0 3
  have hfn : 0 ≤ X 29 0 1 ∧ X 29 0 1 ≤ 80 := hR 29 0 1
  refine lv_aload_n hx hb dX8_told_0 rfl (lv_at hl 0 rfl) ?_
  refine lv_iload_n hx hb dX8_told_1 rfl (lv_at hl 1 rfl) ?_
  refine x_i2l hx hb (by omega) dX8_told_2 ?_
  refine gos_r (run_V (As := [.long (jL x)]) (rest := []) hx hb hml hown hts (c_X8_thingNumbered l D tc base ad cnt X Y ln hR hFx hLn hCI x (by omega)) (cwV 1 hts gX8_told_X8_thingNumbered rfl rfl rfl (by first | exact hd_X8_thingNumbered | decide +kernel) ⟨Nat.le_of_ble_eq_true rfl, Nat.le_of_ble_eq_true rfl⟩) hK hw (by first | exact Int.le_refl 0 | omega) (by first | exact zlt hc0 | omega) sl_0_0 rfl rfl hl.1 rfl (Nat.le_of_ble_eq_true rfl) dX8_told_3 ⟨Nat.le_of_ble_eq_true rfl, Nat.le_of_ble_eq_true rfl⟩) hS (fun u2 H locs p3 hw hS => ?_) (fun z1 u2 H locs p3 hw hS => ?_)
  · obtain ⟨eu2, hsp3, hnp3⟩ := p3
    subst eu2
    refine lv_astore_nN (lv' := [(3, .null), (0, .ref (ad 0 0)), (1, .int (jI x)), (2, .int (jI what))]) hx hb dX8_told_6 rfl hl (by decide) rfl (fun ls hl => ?_)
    refine lv_aload_nN hx hb dX8_told_7 rfl (lv_at hl 0 rfl) ?_
    refine lv_ifnonnullN hx hb dX8_told_8 ?_
    refine lv_iconst (v := jI (-1)) hx hb dX8_told_11 rfl ?_
    rw [hQ9]
    refine ret_i (mc := 0) (ms := 0) hx hb hr hlocks hw hS (by first | exact Nat.le_of_ble_eq_true rfl | omega) (by first | exact Nat.le_of_ble_eq_true rfl | omega) dX8_told_12 ?_
    have h9n4 : ¬ (0 ≤ x ∧ x < X 0 0 3) := hnp3 rfl
    exact ⟨X, rfl, hR, Frm.rf, hCI, by omega, (by first | exact Or.inl ⟨(fun q => by (try delta Hid at *); omega), by omega⟩ | exact Or.inr (Or.inl ⟨(by (try delta Hid at *); omega), by omega, by omega⟩) | exact Or.inr (Or.inr (Or.inl ⟨(by (try delta Hid at *); omega), by omega, by omega⟩))), rfl⟩
  · obtain ⟨eu2, hsp3, hnp3⟩ := p3
    subst eu2
    obtain ⟨ezz1, p3⟩ := hsp3 z1 rfl
    refine lv_astore_n (lv' := [(3, .ref (ad 15 z1)), (0, .ref (ad 0 0)), (1, .int (jI x)), (2, .int (jI what))]) hx hb dX8_told_6 rfl hl (by decide) rfl (fun ls hl => ?_)
    refine lv_aload_n hx hb dX8_told_7 rfl (lv_at hl 0 rfl) ?_
    refine lv_ifnonnull (tgt := 13) hx hb dX8_told_8 (by decide) ?_
    refine lv_iload_n hx hb dX8_told_13 rfl (lv_at hl 3 rfl) ?_
    have tc5 : (jI what).toInt = what := jI_toInt (by omega)
    by_cases c6 : what = 0
    · refine lv_lookup (off := 26) (tgt := 40) hx hb dX8_told_14 (by decide) (by rw [tc5, c6]; rfl) (by decide) ?_
      refine lv_aload_n hx hb dX8_told_40 rfl (lv_at hl 0 rfl) ?_
      refine x_getr (jz := 0) hx hb hf6 hw (by omega) (by omega) sl_15_0 rfl lk97 dX8_told_41 (fun y7 => ?_) (fun r8 y7 gr8 lr8 => ?_)
      · exfalso
        exact absurd y7 (hCI.2.2.2.2.1 z1 (by omega) (by omega))
      · refine x_geti (jz := 0) hx hb hf7 hw (by omega) (by omega) sl_19_0 rfl lk205 dX8_told_44 ?_
        have f9 : 0 ≤ X 19 r8 0 ∧ X 19 r8 0 ≤ 7 := hR 19 r8 0
        rw [hQ9]
        refine ret_i (mc := 0) (ms := 0) hx hb hr hlocks hw hS (by first | exact Nat.le_of_ble_eq_true rfl | omega) (by first | exact Nat.le_of_ble_eq_true rfl | omega) dX8_told_47 ?_
        have hT10 : tyo (Y 15 x 0) = r8 := by rw [← ezz1]; exact tyo_some y7
        have hnum11 := (hCI.2.2.2.1.2 r8 (by omega) (by omega)).2
        exact ⟨X, rfl, hR, Frm.rf, hCI, by omega, (by rw [hT10]; first | exact Or.inr (Or.inl ⟨(by (try delta Hid at *); omega), by omega, by omega⟩) | exact Or.inr (Or.inr (Or.inl ⟨(by (try delta Hid at *); omega), by omega, by omega⟩)) | exact Or.inl ⟨(fun q => by (try delta Hid at *); omega), by omega⟩ | exact Or.inr (Or.inr (Or.inr (⟨(by (try delta Hid at *); omega), by omega, by omega, by omega⟩)))), rfl⟩
    by_cases c12 : what = 1
    · refine lv_lookup (off := 34) (tgt := 48) hx hb dX8_told_14 (by decide) (by rw [tc5, c12]; rfl) (by decide) ?_
      refine lv_aload_n hx hb dX8_told_48 rfl (lv_at hl 0 rfl) ?_
      refine x_getr (jz := 0) hx hb hf6 hw (by omega) (by omega) sl_15_0 rfl lk97 dX8_told_49 (fun y13 => ?_) (fun r14 y13 gr14 lr14 => ?_)
      · exfalso
        exact absurd y13 (hCI.2.2.2.2.1 z1 (by omega) (by omega))
      · refine x_geti (jz := 1) hx hb hf7 hw (by omega) (by omega) sl_19_1 rfl lk85 dX8_told_52 ?_
        have f15 : 0 ≤ X 19 r14 1 ∧ X 19 r14 1 ≤ 5 := hR 19 r14 1
        rw [hQ9]
        refine ret_i (mc := 0) (ms := 0) hx hb hr hlocks hw hS (by first | exact Nat.le_of_ble_eq_true rfl | omega) (by first | exact Nat.le_of_ble_eq_true rfl | omega) dX8_told_55 ?_
        have hT16 : tyo (Y 15 x 0) = r14 := by rw [← ezz1]; exact tyo_some y13
        have hnum17 := (hCI.2.2.2.1.2 r14 (by omega) (by omega)).2
        exact ⟨X, rfl, hR, Frm.rf, hCI, by omega, (by rw [hT16]; first | exact Or.inr (Or.inl ⟨(by (try delta Hid at *); omega), by omega, by omega⟩) | exact Or.inr (Or.inr (Or.inl ⟨(by (try delta Hid at *); omega), by omega, by omega⟩)) | exact Or.inl ⟨(fun q => by (try delta Hid at *); omega), by omega⟩ | exact Or.inr (Or.inr (Or.inr (⟨(by (try delta Hid at *); omega), by omega, by omega, by omega⟩)))), rfl⟩
    refine lv_lookup (off := 42) (tgt := 56) hx hb dX8_told_14 (by decide) (by rw [tc5]; simp [Op.lookupswitch.offset, Ne.symm c6, c6, Ne.symm c12, c12]) (by decide) ?_
    refine lv_bipush (v := jI (-2)) hx hb dX8_told_56 (by decide) ?_
    rw [hQ9]
    refine ret_i (mc := 0) (ms := 0) hx hb hr hlocks hw hS (by first | exact Nat.le_of_ble_eq_true rfl | omega) (by first | exact Nat.le_of_ble_eq_true rfl | omega) dX8_told_58 ?_
    exact ⟨X, rfl, hR, Frm.rf, hCI, by omega, (by first | exact Or.inr (Or.inr (Or.inr (⟨(by (try delta Hid at *); omega), by omega, by omega, by omega⟩))) | exact Or.inr (Or.inl ⟨(by (try delta Hid at *); omega), by omega, by omega⟩) | exact Or.inr (Or.inr (Or.inl ⟨(by (try delta Hid at *); omega), by omega, by omega⟩))), rfl⟩
