set_option maxHeartbeats 4000000 in
set_option maxRecDepth 100000 in
theorem c_X8_saved (l : Launch) (D : va_G) (tc : Nat → ClassId) (base : Nat) (ad : Nat → Int → Nat) (cnt : Nat → Int) (X : Nat → Int → Int → Int) (Y : Nat → Int → Int → Option Int) (ln : Int → Int) (hR : Rng X) (hFx : Fx cnt) (hLn : LnOK ln) (hCI : CInv cnt X Y ln) (sv what : Int) (hsv : -2147483648 ≤ sv ∧ sv ≤ 2147483647) (hwhat : -2147483648 ≤ what ∧ what ≤ 2147483647) : KI l D tc base yX8_saved wsX8_saved ({ frames := 1, cells := 0, slots := 0, locals := 21 } : Room) [.ref (ad 0 0), .int (jI sv), .int (jI what)] (ad, cnt, X, Y, ln) 0 0 (fun z u => ∃ (X1 : Nat → Int → Int → Int), u = (ad, cnt, X1, Y, ln) ∧ Rng X1 ∧ Frm [] X X1 ∧ CInv cnt X1 Y ln ∧ (-2147483648 ≤ z ∧ z ≤ 2147483647) ∧ ((¬ (0 ≤ sv ∧ sv < 4) ∧ z = -1) ∨ ((0 ≤ sv ∧ sv < 4) ∧ what = 0 ∧ z = X 7 (tyo (Y 4 0 sv)) 0) ∨ ((0 ≤ sv ∧ sv < 4) ∧ what = 1 ∧ z = X 7 (tyo (Y 4 0 sv)) 6) ∨ ((0 ≤ sv ∧ sv < 4) ∧ what ≠ 0 ∧ what ≠ 1 ∧ z = -2)) ∧ X1 = X) := by
  refine K_of (cc := cX8_saved) (maxL := 3) (ret := (some .int)) (by decide) rfl (Nat.le_of_ble_eq_true rfl) ?_
  intro p e s m below meth c ls hx hb hr hml hown hts hlocks hl hK hw hS
  have hown : s.vm.findClass RX8 = some m.cls := hown
  obtain ⟨av9, hav9⟩ : ∃ a9 : Array Value, a9 = ([.ref (ad 0 0), .int (jI sv), .int (jI what)] : List Value).toArray := ⟨_, rfl⟩
  rw [← hav9] at hts ⊢
  obtain ⟨Q9, hQ9⟩ : ∃ q9Q : State → Prop, q9Q = MQ below (QI D tc base (fun z u => ∃ (X1 : Nat → Int → Int → Int), u = (ad, cnt, X1, Y, ln) ∧ Rng X1 ∧ Frm [] X X1 ∧ CInv cnt X1 Y ln ∧ (-2147483648 ≤ z ∧ z ≤ 2147483647) ∧ ((¬ (0 ≤ sv ∧ sv < 4) ∧ z = -1) ∨ ((0 ≤ sv ∧ sv < 4) ∧ what = 0 ∧ z = X 7 (tyo (Y 4 0 sv)) 0) ∨ ((0 ≤ sv ∧ sv < 4) ∧ what = 1 ∧ z = X 7 (tyo (Y 4 0 sv)) 6) ∨ ((0 ≤ sv ∧ sv < 4) ∧ what ≠ 0 ∧ what ≠ 1 ∧ z = -2)) ∧ X1 = X)) av9 s 0 0 (frA base) := ⟨_, rfl⟩
  rw [← hQ9]
  have hi4 : ∀ w ∈ wsX40, w ∈ wsX8_saved := fun w h => List.mem_cons_of_mem _ (List.mem_append_right _ h)
  have hf4 : fctx s m _ RX8 wsX8_saved D tc RX4 TX4 9 4 := ⟨hts, hi4, hown, hK.1, rfl⟩
  have hi8 : ∀ w ∈ wsX80, w ∈ wsX8_saved := fun w h => List.mem_cons_of_mem _ (List.mem_append_left _ (List.mem_append_right _ h))
  have hf8 : fctx s m _ RX8 wsX8_saved D tc RX8 TX8 12 8 := ⟨hts, hi8, hown, hK.1, rfl⟩
  have lk27 := hts (.fieldLink RX8 27 (TX8 5).1 (TX8 5).2.1 (TX8 5).2.2.1) (gj_X8_saved_0 _ (gp_h))
  have lk231 := hts (.fieldLink RX8 231 (TX4 0).1 (TX4 0).2.1 (TX4 0).2.2.1) (gj_X8_saved_0 _ (gp_1 gp_h))
  have lk234 := hts (.fieldLink RX8 234 (TX4 6).1 (TX4 6).2.1 (TX4 6).2.2.1) (gj_X8_saved_0 _ (gp_1 (gp_1 gp_h)))
  have hc0 : cnt 0 = 1 := hFx.at 0 1 (by decide)
  have hc4 : cnt 4 = 1 := hFx.at 4 1 (by decide)
  have hc7 : cnt 7 = 6 := hFx.at 7 6 (by decide)
  have hl : lv_has ls 3 [(0, .ref (ad 0 0)), (1, .int (jI sv)), (2, .int (jI what))] := hl
  have ftc : 0 ≤ X 0 0 3 ∧ X 0 0 3 ≤ 30 := hR 0 0 3
  have fty : 0 ≤ X 0 0 1 ∧ X 0 0 1 ≤ 8 := hR 0 0 1
  have hct : cnt 19 = X 0 0 1 := hCI.2.2.2.1.1
  have hfj : 0 ≤ X 29 0 3 ∧ X 29 0 3 ≤ 4 := hR 29 0 3
  have hfn : 0 ≤ X 29 0 1 ∧ X 29 0 1 ≤ 80 := hR 29 0 1
  refine lv_iload_n hx hb dX8_saved_0 rfl (lv_at hl 1 rfl) ?_
  refine lv_iconst (v := jI 4) hx hb dX8_saved_1 rfl ?_
  refine gos_i (run_S (As := [.int (jI sv), .int (jI 4)]) (rest := []) hx hb hml hown hts (c_X8_isBelow l D tc base ad cnt X Y ln sv 4 (by omega) (by omega)) (cwS 2 hts gX8_saved_X8_isBelow rfl rfl rfl (by first | exact hd_X8_isBelow | decide +kernel) ⟨Nat.le_of_ble_eq_true rfl, Nat.le_of_ble_eq_true rfl⟩) hK hw rfl hl.1 rfl (Nat.le_of_ble_eq_true rfl) dX8_saved_2 ⟨Nat.le_of_ble_eq_true rfl, Nat.le_of_ble_eq_true rfl⟩) hS (fun z1 u2 H locs p3 hw hS => ?_)
  obtain ⟨eu2, p3⟩ := p3
  subst eu2
  rcases p3 with ⟨ez1, p3⟩ | ⟨ez1, p3⟩
  · subst ez1
    refine x_if_neT (tgt := 10) hx hb (by omega) (by decide) dX8_saved_5 (by decide) ?_
    refine lv_iload_n hx hb dX8_saved_10 rfl (lv_at hl 2 rfl) ?_
    have tc4 : (jI what).toInt = what := jI_toInt (by omega)
    by_cases c5 : what = 0
    · refine lv_lookup (off := 25) (tgt := 36) hx hb dX8_saved_11 (by decide) (by rw [tc4, c5]; rfl) (by decide) ?_
      refine lv_aload_n hx hb dX8_saved_36 rfl (lv_at hl 0 rfl) ?_
      refine x_geto hx hb hf8 hw (by first | exact Int.le_refl 0 | omega) (by first | exact zlt hc0 | omega) sl_0_5 lk27 dX8_saved_37 ?_
      refine lv_iload_n hx hb dX8_saved_40 rfl (lv_at hl 1 rfl) ?_
      refine x_aald hx hb hK.1 hw (by first | exact Int.le_refl 0 | omega) (by first | exact zlt hc4 | omega) ar_4 rfl (len_E ar_4 (by decide)) (by omega) (by omega) (by omega) dX8_saved_41 (fun y6 => ?_) (fun r7 y6 gr7 lr7 => ?_)
      · exfalso
        exact absurd y6 (hCI.2.2.1.1 sv (by omega) (by omega))
      · refine x_geti (jz := 0) hx hb hf4 hw (by omega) (by omega) sl_7_0 rfl lk231 dX8_saved_42 ?_
        have f8 : 0 ≤ X 7 r7 0 ∧ X 7 r7 0 ≤ 30 := hR 7 r7 0
        rw [hQ9]
        refine ret_i (mc := 0) (ms := 0) hx hb hr hlocks hw hS (by first | exact Nat.le_of_ble_eq_true rfl | omega) (by first | exact Nat.le_of_ble_eq_true rfl | omega) dX8_saved_45 ?_
        have hT9 : tyo (Y 4 0 sv) = r7 := tyo_some y6
        exact ⟨X, rfl, hR, Frm.rf, hCI, by omega, (by rw [hT9]; first | exact Or.inr (Or.inl ⟨(by (try delta Hid at *); omega), by omega, by omega⟩) | exact Or.inr (Or.inr (Or.inl ⟨(by (try delta Hid at *); omega), by omega, by omega⟩)) | exact Or.inl ⟨(fun q => by (try delta Hid at *); omega), by omega⟩ | exact Or.inr (Or.inr (Or.inr (⟨(by (try delta Hid at *); omega), by omega, by omega, by omega⟩)))), rfl⟩
    by_cases c10 : what = 1
    · refine lv_lookup (off := 35) (tgt := 46) hx hb dX8_saved_11 (by decide) (by rw [tc4, c10]; rfl) (by decide) ?_
      refine lv_aload_n hx hb dX8_saved_46 rfl (lv_at hl 0 rfl) ?_
      refine x_geto hx hb hf8 hw (by first | exact Int.le_refl 0 | omega) (by first | exact zlt hc0 | omega) sl_0_5 lk27 dX8_saved_47 ?_
      refine lv_iload_n hx hb dX8_saved_50 rfl (lv_at hl 1 rfl) ?_
      refine x_aald hx hb hK.1 hw (by first | exact Int.le_refl 0 | omega) (by first | exact zlt hc4 | omega) ar_4 rfl (len_E ar_4 (by decide)) (by omega) (by omega) (by omega) dX8_saved_51 (fun y11 => ?_) (fun r12 y11 gr12 lr12 => ?_)
      · exfalso
        exact absurd y11 (hCI.2.2.1.1 sv (by omega) (by omega))
      · refine x_geti (jz := 6) hx hb hf4 hw (by omega) (by omega) sl_7_6 rfl lk234 dX8_saved_52 ?_
        have f13 : 0 ≤ X 7 r12 6 ∧ X 7 r12 6 ≤ 150 := hR 7 r12 6
        rw [hQ9]
        refine ret_i (mc := 0) (ms := 0) hx hb hr hlocks hw hS (by first | exact Nat.le_of_ble_eq_true rfl | omega) (by first | exact Nat.le_of_ble_eq_true rfl | omega) dX8_saved_55 ?_
        have hT14 : tyo (Y 4 0 sv) = r12 := tyo_some y11
        exact ⟨X, rfl, hR, Frm.rf, hCI, by omega, (by rw [hT14]; first | exact Or.inr (Or.inl ⟨(by (try delta Hid at *); omega), by omega, by omega⟩) | exact Or.inr (Or.inr (Or.inl ⟨(by (try delta Hid at *); omega), by omega, by omega⟩)) | exact Or.inl ⟨(fun q => by (try delta Hid at *); omega), by omega⟩ | exact Or.inr (Or.inr (Or.inr (⟨(by (try delta Hid at *); omega), by omega, by omega, by omega⟩)))), rfl⟩
    refine lv_lookup (off := 45) (tgt := 56) hx hb dX8_saved_11 (by decide) (by rw [tc4]; simp [Op.lookupswitch.offset, Ne.symm c5, c5, Ne.symm c10, c10]) (by decide) ?_
    refine lv_bipush (v := jI (-2)) hx hb dX8_saved_56 (by decide) ?_
    rw [hQ9]
    refine ret_i (mc := 0) (ms := 0) hx hb hr hlocks hw hS (by first | exact Nat.le_of_ble_eq_true rfl | omega) (by first | exact Nat.le_of_ble_eq_true rfl | omega) dX8_saved_58 ?_
    exact ⟨X, rfl, hR, Frm.rf, hCI, by omega, (by first | exact Or.inr (Or.inr (Or.inr (⟨(by (try delta Hid at *); omega), by omega, by omega, by omega⟩))) | exact Or.inr (Or.inl ⟨(by (try delta Hid at *); omega), by omega, by omega⟩) | exact Or.inr (Or.inr (Or.inl ⟨(by (try delta Hid at *); omega), by omega, by omega⟩))), rfl⟩
  · subst ez1
    refine x_if_neF (tgt := 10) hx hb (by omega) (by decide) dX8_saved_5 (by decide) ?_
    refine lv_iconst (v := jI (-1)) hx hb dX8_saved_8 rfl ?_
    rw [hQ9]
    refine ret_i (mc := 0) (ms := 0) hx hb hr hlocks hw hS (by first | exact Nat.le_of_ble_eq_true rfl | omega) (by first | exact Nat.le_of_ble_eq_true rfl | omega) dX8_saved_9 ?_
    exact ⟨X, rfl, hR, Frm.rf, hCI, by omega, (by first | exact Or.inl ⟨(fun q => by (try delta Hid at *); omega), by omega⟩ | exact Or.inr (Or.inl ⟨(by (try delta Hid at *); omega), by omega, by omega⟩) | exact Or.inr (Or.inr (Or.inl ⟨(by (try delta Hid at *); omega), by omega, by omega⟩))), rfl⟩
