set_option maxHeartbeats 4000000 in
set_option maxRecDepth 100000 in
theorem c_X8_field (l : Launch) (D : va_G) (tc : Nat → ClassId) (base : Nat) (ad : Nat → Int → Nat) (cnt : Nat → Int) (X : Nat → Int → Int → Int) (Y : Nat → Int → Int → Option Int) (ln : Int → Int) (hR : Rng X) (hFx : Fx cnt) (hLn : LnOK ln) (hCI : CInv cnt X Y ln) (t name lane v : Int) (ht : -2147483648 ≤ t ∧ t ≤ 2147483647) (hname : -2147483648 ≤ name ∧ name ≤ 2147483647) (hlane : -2147483648 ≤ lane ∧ lane ≤ 2147483647) (hv : -9223372036854775808 ≤ v ∧ v ≤ 9223372036854775807) : KI l D tc base yX8_field wsX8_field ({ frames := 2, cells := 0, slots := 0, locals := 42 } : Room) [.ref (ad 0 0), .int (jI t), .int (jI name), .int (jI lane), .long (jL v)] (ad, cnt, X, Y, ln) 0 0 (fun z u => ∃ (X1 : Nat → Int → Int → Int) (Y1 : Nat → Int → Int → Option Int), u = (ad, cnt, X1, Y1, ln) ∧ Rng X1 ∧ Frm [1902, 2000, 2100, 2200, 2300, 1600] X X1 ∧ Frm [1700] Y Y1 ∧ CInv cnt X1 Y1 ln ∧ (-2147483648 ≤ z ∧ z ≤ 2147483647) ∧ ((¬ (0 ≤ t ∧ t < X 0 0 1) ∧ z = -1 ∧ X1 19 t 1 = X 19 t 1) ∨ (0 ≤ t ∧ t < X 0 0 1 ∧ ¬ (0 ≤ name ∧ name < 20 ∧ nmAt (X 20 t) name (X 19 t 1).toNat = -1 ∧ 0 ≤ lane ∧ lane < 6) ∧ z = -2 ∧ X1 19 t 1 = X 19 t 1) ∨ (0 ≤ t ∧ t < X 0 0 1 ∧ (0 ≤ name ∧ name < 20 ∧ nmAt (X 20 t) name (X 19 t 1).toNat = -1 ∧ 0 ≤ lane ∧ lane < 6) ∧ 0 < X 29 0 3 ∧ z = -3 ∧ X1 19 t 1 = X 19 t 1) ∨ (0 ≤ t ∧ t < X 0 0 1 ∧ (0 ≤ name ∧ name < 20 ∧ nmAt (X 20 t) name (X 19 t 1).toNat = -1 ∧ 0 ≤ lane ∧ lane < 6) ∧ X 29 0 3 = 0 ∧ 5 ≤ X 19 t 1 ∧ z = -4 ∧ X1 19 t 1 = X 19 t 1) ∨ (0 ≤ t ∧ t < X 0 0 1 ∧ (0 ≤ name ∧ name < 20 ∧ nmAt (X 20 t) name (X 19 t 1).toNat = -1 ∧ 0 ≤ lane ∧ lane < 6) ∧ X 29 0 3 = 0 ∧ X 19 t 1 ≤ 4 ∧ z = X 19 t 1 ∧ X1 19 t 1 = X 19 t 1 + 1)) ∧ (0 ≤ z → X1 20 t z = name ∧ X1 21 t z = lane ∧ X1 22 t z = (if lane = 0 then v else -1) ∧ X1 23 t z = 0) ∧ (∀ y j, ¬ (0 ≤ z ∧ y = t ∧ j = z) → X1 20 y j = X 20 y j ∧ X1 21 y j = X 21 y j ∧ X1 22 y j = X 22 y j ∧ X1 23 y j = X 23 y j) ∧ (∀ y, y ≠ t → X1 19 y 1 = X 19 y 1) ∧ (0 ≤ z → (∀ y, 0 ≤ y → y < X 0 0 3 → Y 15 y 0 = some t → X1 16 y z = (if lane = 0 then v else -1) ∧ Y1 17 y z = none) ∧ ∀ y j, 0 ≤ y → y < X 0 0 3 → ¬ (Y 15 y 0 = some t ∧ j = z) → X1 16 y j = X 16 y j ∧ Y1 17 y j = Y 17 y j) ∧ (z < 0 → X1 = X ∧ Y1 = Y)) := by
  refine K_of (cc := cX8_field) (maxL := 9) (ret := (some .int)) (by decide) rfl (Nat.le_of_ble_eq_true rfl) ?_
  intro p e s m below meth c ls hx hb hr hml hown hts hlocks hl hK hw hS
  have hown : s.vm.findClass RX8 = some m.cls := hown
  obtain ⟨av9, hav9⟩ : ∃ a9 : Array Value, a9 = ([.ref (ad 0 0), .int (jI t), .int (jI name), .int (jI lane), .long (jL v)] : List Value).toArray := ⟨_, rfl⟩
  rw [← hav9] at hts ⊢
  obtain ⟨Q9, hQ9⟩ : ∃ q9Q : State → Prop, q9Q = MQ below (QI D tc base (fun z u => ∃ (X1 : Nat → Int → Int → Int) (Y1 : Nat → Int → Int → Option Int), u = (ad, cnt, X1, Y1, ln) ∧ Rng X1 ∧ Frm [1902, 2000, 2100, 2200, 2300, 1600] X X1 ∧ Frm [1700] Y Y1 ∧ CInv cnt X1 Y1 ln ∧ (-2147483648 ≤ z ∧ z ≤ 2147483647) ∧ ((¬ (0 ≤ t ∧ t < X 0 0 1) ∧ z = -1 ∧ X1 19 t 1 = X 19 t 1) ∨ (0 ≤ t ∧ t < X 0 0 1 ∧ ¬ (0 ≤ name ∧ name < 20 ∧ nmAt (X 20 t) name (X 19 t 1).toNat = -1 ∧ 0 ≤ lane ∧ lane < 6) ∧ z = -2 ∧ X1 19 t 1 = X 19 t 1) ∨ (0 ≤ t ∧ t < X 0 0 1 ∧ (0 ≤ name ∧ name < 20 ∧ nmAt (X 20 t) name (X 19 t 1).toNat = -1 ∧ 0 ≤ lane ∧ lane < 6) ∧ 0 < X 29 0 3 ∧ z = -3 ∧ X1 19 t 1 = X 19 t 1) ∨ (0 ≤ t ∧ t < X 0 0 1 ∧ (0 ≤ name ∧ name < 20 ∧ nmAt (X 20 t) name (X 19 t 1).toNat = -1 ∧ 0 ≤ lane ∧ lane < 6) ∧ X 29 0 3 = 0 ∧ 5 ≤ X 19 t 1 ∧ z = -4 ∧ X1 19 t 1 = X 19 t 1) ∨ (0 ≤ t ∧ t < X 0 0 1 ∧ (0 ≤ name ∧ name < 20 ∧ nmAt (X 20 t) name (X 19 t 1).toNat = -1 ∧ 0 ≤ lane ∧ lane < 6) ∧ X 29 0 3 = 0 ∧ X 19 t 1 ≤ 4 ∧ z = X 19 t 1 ∧ X1 19 t 1 = X 19 t 1 + 1)) ∧ (0 ≤ z → X1 20 t z = name ∧ X1 21 t z = lane ∧ X1 22 t z = (if lane = 0 then v else -1) ∧ X1 23 t z = 0) ∧ (∀ y j, ¬ (0 ≤ z ∧ y = t ∧ j = z) → X1 20 y j = X 20 y j ∧ X1 21 y j = X 21 y j ∧ X1 22 y j = X 22 y j ∧ X1 23 y j = X 23 y j) ∧ (∀ y, y ≠ t → X1 19 y 1 = X 19 y 1) ∧ (0 ≤ z → (∀ y, 0 ≤ y → y < X 0 0 3 → Y 15 y 0 = some t → X1 16 y z = (if lane = 0 then v else -1) ∧ Y1 17 y z = none) ∧ ∀ y j, 0 ≤ y → y < X 0 0 3 → ¬ (Y 15 y 0 = some t ∧ j = z) → X1 16 y j = X 16 y j ∧ Y1 17 y j = Y 17 y j) ∧ (z < 0 → X1 = X ∧ Y1 = Y))) av9 s 0 0 (frA base) := ⟨_, rfl⟩
  rw [← hQ9]
  have hi2 : ∀ w ∈ wsX20, w ∈ wsX8_field := fun w h => List.mem_cons_of_mem _ (List.mem_append_left _ (List.mem_append_left _ (List.mem_append_right _ h)))
  have hf2 : fctx s m _ RX8 wsX8_field D tc RX2 TX2 4 2 := ⟨hts, hi2, hown, hK.1, rfl⟩
  have hi6 : ∀ w ∈ wsX60, w ∈ wsX8_field := fun w h => List.mem_cons_of_mem _ (List.mem_append_right _ h)
  have hf6 : fctx s m _ RX8 wsX8_field D tc RX6 TX6 4 6 := ⟨hts, hi6, hown, hK.1, rfl⟩
  have hi7 : ∀ w ∈ wsX70, w ∈ wsX8_field := fun w h => List.mem_cons_of_mem _ (List.mem_append_left _ (List.mem_append_right _ h))
  have hf7 : fctx s m _ RX8 wsX8_field D tc RX7 TX7 8 7 := ⟨hts, hi7, hown, hK.1, rfl⟩
  have hi8 : ∀ w ∈ wsX80, w ∈ wsX8_field := fun w h => List.mem_cons_of_mem _ (List.mem_append_left _ (List.mem_append_left _ (List.mem_append_left _ (List.mem_append_right _ h))))
  have hf8 : fctx s m _ RX8 wsX8_field D tc RX8 TX8 12 8 := ⟨hts, hi8, hown, hK.1, rfl⟩
  have lk17 := hts (.fieldLink RX8 17 (TX8 2).1 (TX8 2).2.1 (TX8 2).2.2.1) (gj_X8_field_0 _ (gp_4 (gp_1 gp_h)))
  have lk51 := hts (.fieldLink RX8 51 (TX8 10).1 (TX8 10).2.1 (TX8 10).2.2.1) (gj_X8_field_0 _ (gp_h))
  have lk82 := hts (.fieldLink RX8 82 (TX2 3).1 (TX2 3).2.1 (TX2 3).2.2.1) (gj_X8_field_0 _ (gp_1 gp_h))
  have lk85 := hts (.fieldLink RX8 85 (TX7 1).1 (TX7 1).2.1 (TX7 1).2.2.1) (gj_X8_field_0 _ (gp_1 (gp_1 gp_h)))
  have lk94 := hts (.fieldLink RX8 94 (TX8 3).1 (TX8 3).2.1 (TX8 3).2.2.1) (gj_X8_field_0 _ (gp_4 gp_h))
  have lk97 := hts (.fieldLink RX8 97 (TX6 0).1 (TX6 0).2.1 (TX6 0).2.2.1) (gj_X8_field_0 _ (gp_4 (gp_1 (gp_1 gp_h))))
  have hc0 : cnt 0 = 1 := hFx.at 0 1 (by decide)
  have hc2 : cnt 2 = 1 := hFx.at 2 1 (by decide)
  have hc15 : cnt 15 = 30 := hFx.at 15 30 (by decide)
  have hc29 : cnt 29 = 1 := hFx.at 29 1 (by decide)
  have hl : lv_has ls 9 [(0, .ref (ad 0 0)), (1, .int (jI t)), (2, .int (jI name)), (3, .int (jI lane)), (4, .long (jL v))] := hl
  have ftc : 0 ≤ X 0 0 3 ∧ X 0 0 3 ≤ 30 := hR 0 0 3
  have fty : 0 ≤ X 0 0 1 ∧ X 0 0 1 ≤ 8 := hR 0 0 1
  have hct : cnt 19 = X 0 0 1 := hCI.2.2.2.1.1
  have hfj : 0 ≤ X 29 0 3 ∧ X 29 0 3 ≤ 4 := hR 29 0 3
  have hfn : 0 ≤ X 29 0 1 ∧ X 29 0 1 ≤ 80 := hR 29 0 1
  refine lv_aload_n hx hb dX8_field_0 rfl (lv_at hl 0 rfl) ?_
  refine lv_iload_n hx hb dX8_field_1 rfl (lv_at hl 1 rfl) ?_
  refine gos_r (run_V (As := [.int (jI t)]) (rest := []) hx hb hml hown hts (c_X8_typeNumbered l D tc base ad cnt X Y ln hR hFx hLn hCI t (by omega)) (cwV 1 hts gX8_field_X8_typeNumbered rfl rfl rfl (by first | exact hd_X8_typeNumbered | decide +kernel) ⟨Nat.le_of_ble_eq_true rfl, Nat.le_of_ble_eq_true rfl⟩) hK hw (by first | exact Int.le_refl 0 | omega) (by first | exact zlt hc0 | omega) sl_0_0 rfl rfl hl.1 rfl (Nat.le_of_ble_eq_true rfl) dX8_field_2 ⟨Nat.le_of_ble_eq_true rfl, Nat.le_of_ble_eq_true rfl⟩) hS (fun u2 H locs p3 hw hS => ?_) (fun z1 u2 H locs p3 hw hS => ?_)
  · obtain ⟨eu2, hsp3, hnp3⟩ := p3
    subst eu2
    refine lv_astoreN (lv' := [(6, .null), (0, .ref (ad 0 0)), (1, .int (jI t)), (2, .int (jI name)), (3, .int (jI lane)), (4, .long (jL v))]) hx hb dX8_field_5 hl (by decide) rfl (fun ls hl => ?_)
    refine lv_aloadN hx hb dX8_field_7 (lv_at hl 0 rfl) ?_
    refine lv_ifnonnullN hx hb dX8_field_9 ?_
    refine lv_iconst (v := jI (-1)) hx hb dX8_field_12 rfl ?_
    rw [hQ9]
    refine ret_i (mc := 0) (ms := 0) hx hb hr hlocks hw hS (by first | exact Nat.le_of_ble_eq_true rfl | omega) (by first | exact Nat.le_of_ble_eq_true rfl | omega) dX8_field_13 ?_
    exact ⟨X, Y, rfl, hR, Frm.rf, Frm.rf, hCI, by omega, (by have h9n : ¬ (0 ≤ t ∧ t < X 0 0 1) := hnp3 rfl; (try delta Hid at *); omega), fun h => (by exfalso; omega), fun y j h => ⟨rfl, rfl, rfl, rfl⟩, fun y h => rfl, fun q => (by exfalso; omega), fun _ => ⟨rfl, rfl⟩⟩
  · obtain ⟨eu2, hsp3, hnp3⟩ := p3
    subst eu2
    obtain ⟨ezz1, p3⟩ := hsp3 z1 rfl
    refine lv_astore (lv' := [(6, .ref (ad 19 z1)), (0, .ref (ad 0 0)), (1, .int (jI t)), (2, .int (jI name)), (3, .int (jI lane)), (4, .long (jL v))]) hx hb dX8_field_5 hl (by decide) rfl (fun ls hl => ?_)
    refine lv_aload hx hb dX8_field_7 (lv_at hl 0 rfl) ?_
    refine lv_ifnonnull (tgt := 14) hx hb dX8_field_9 (by decide) ?_
    refine lv_iload_n hx hb dX8_field_14 rfl (lv_at hl 3 rfl) ?_
    refine lv_bipush (v := jI 20) hx hb dX8_field_15 (by decide) ?_
    refine gos_i (run_S (As := [.int (jI name), .int (jI 20)]) (rest := []) hx hb hml hown hts (c_X8_isBelow l D tc base ad cnt X Y ln name 20 (by omega) (by omega)) (cwS 2 hts gX8_field_X8_isBelow rfl rfl rfl (by first | exact hd_X8_isBelow | decide +kernel) ⟨Nat.le_of_ble_eq_true rfl, Nat.le_of_ble_eq_true rfl⟩) hK hw rfl hl.1 rfl (Nat.le_of_ble_eq_true rfl) dX8_field_17 ⟨Nat.le_of_ble_eq_true rfl, Nat.le_of_ble_eq_true rfl⟩) hS (fun z4 u5 H locs p6 hw hS => ?_)
    obtain ⟨eu5, p6⟩ := p6
    subst eu5
    rcases p6 with ⟨ez4, p6⟩ | ⟨ez4, p6⟩
    · subst ez4
      refine x_if_eqF (tgt := 42) hx hb (by omega) (by decide) dX8_field_20 (by decide) ?_
      refine lv_aload hx hb dX8_field_23 (lv_at hl 0 rfl) ?_
      refine lv_iload_n hx hb dX8_field_25 rfl (lv_at hl 3 rfl) ?_
      refine gos_i (run_V (As := [.int (jI name)]) (rest := []) hx hb hml hown hts (c_X7_fieldNamed l D tc base ad cnt X Y ln hR hFx hLn z1 name (by omega) (by omega)) (cwV 1 hts gX8_field_X7_fieldNamed rfl rfl rfl (by first | exact hd_X7_fieldNamed | decide +kernel) ⟨Nat.le_of_ble_eq_true rfl, Nat.le_of_ble_eq_true rfl⟩) hK hw (by first | exact Int.le_refl 0 | omega) (by first | exact zlt hc19 | omega) sl_19_0 rfl rfl hl.1 rfl (Nat.le_of_ble_eq_true rfl) dX8_field_26 ⟨Nat.le_of_ble_eq_true rfl, Nat.le_of_ble_eq_true rfl⟩) hS (fun z7 u8 H locs p9 hw hS => ?_)
      obtain ⟨eu8, p9⟩ := p9
      subst eu8
      refine lv_iconst (v := jI (-1)) hx hb dX8_field_29 rfl ?_
      refine x_icmp_ne (tgt := 42) hx hb (by omega) (by omega) dX8_field_30 (by decide) (fun c10 => ?_) (fun c10 => ?_)
      · refine lv_bipush (v := jI (-2)) hx hb dX8_field_42 (by decide) ?_
        rw [hQ9]
        refine ret_i (mc := 0) (ms := 0) hx hb hr hlocks hw hS (by first | exact Nat.le_of_ble_eq_true rfl | omega) (by first | exact Nat.le_of_ble_eq_true rfl | omega) dX8_field_44 ?_
        exact ⟨X, Y, rfl, hR, Frm.rf, Frm.rf, hCI, by omega, (by rw [← ezz1]; (try delta Hid at *); omega), fun h => (by exfalso; omega), fun y j h => ⟨rfl, rfl, rfl, rfl⟩, fun y h => rfl, fun q => (by exfalso; omega), fun _ => ⟨rfl, rfl⟩⟩
      · refine lv_iload_n hx hb dX8_field_33 rfl (lv_at hl 4 rfl) ?_
        refine lv_bipush (v := jI 6) hx hb dX8_field_34 (by decide) ?_
        refine gos_i (run_S (As := [.int (jI lane), .int (jI 6)]) (rest := []) hx hb hml hown hts (c_X8_isBelow l D tc base ad cnt X Y ln lane 6 (by omega) (by omega)) (cwS 2 hts gX8_field_X8_isBelow rfl rfl rfl (by first | exact hd_X8_isBelow | decide +kernel) ⟨Nat.le_of_ble_eq_true rfl, Nat.le_of_ble_eq_true rfl⟩) hK hw rfl hl.1 rfl (Nat.le_of_ble_eq_true rfl) dX8_field_36 ⟨Nat.le_of_ble_eq_true rfl, Nat.le_of_ble_eq_true rfl⟩) hS (fun z11 u12 H locs p13 hw hS => ?_)
        obtain ⟨eu12, p13⟩ := p13
        subst eu12
        rcases p13 with ⟨ez11, p13⟩ | ⟨ez11, p13⟩
        · subst ez11
          refine x_if_neT (tgt := 45) hx hb (by omega) (by decide) dX8_field_39 (by decide) ?_
          refine lv_aload_n hx hb dX8_field_45 rfl (lv_at hl 1 rfl) ?_
          refine x_geto hx hb hf8 hw (by first | exact Int.le_refl 0 | omega) (by first | exact zlt hc0 | omega) sl_0_10 lk51 dX8_field_46 ?_
          refine x_geti (jz := 3) hx hb hf2 hw (by first | exact Int.le_refl 0 | omega) (by first | exact zlt hc29 | omega) sl_29_3 rfl lk82 dX8_field_49 ?_
          have f14 : 0 ≤ X 29 0 3 ∧ X 29 0 3 ≤ 4 := hR 29 0 3
          refine x_if_le (tgt := 58) hx hb (by omega) dX8_field_52 (by decide) (fun c15 => ?_) (fun c15 => ?_)
          · refine lv_aload hx hb dX8_field_58 (lv_at hl 0 rfl) ?_
            refine x_geti (jz := 1) hx hb hf7 hw (by omega) (by omega) sl_19_1 rfl lk85 dX8_field_60 ?_
            have f16 : 0 ≤ X 19 z1 1 ∧ X 19 z1 1 ≤ 5 := hR 19 z1 1
            refine lv_iconst (v := jI 5) hx hb dX8_field_63 rfl ?_
            refine x_icmp_lt (tgt := 70) hx hb (by omega) (by omega) dX8_field_64 (by decide) (fun c17 => ?_) (fun c17 => ?_)
            · refine lv_aload hx hb dX8_field_70 (lv_at hl 0 rfl) ?_
              refine lv_iload_n hx hb dX8_field_72 rfl (lv_at hl 3 rfl) ?_
              refine lv_iload_n hx hb dX8_field_73 rfl (lv_at hl 4 rfl) ?_
              refine lv_iload_n hx hb dX8_field_74 rfl (lv_at hl 4 rfl) ?_
              refine x_if_ne (tgt := 83) hx hb (by omega) dX8_field_75 (by decide) (fun c18 => ?_) (fun c18 => ?_)
              · refine lv_ldc2 (v := jL (-1)) hx hb hown (hts (.constantLong RX8 88 (-1)) (by first | exact gj_X8_field_0 _ (gp_1 (gp_1 (gp_1 gp_h))) | decide +kernel)) dX8_field_83 ?_
                refine gos_i (run_V (As := [.int (jI name), .int (jI lane), .long (jL (-1))]) (rest := []) hx hb hml hown hts (c_X7_addField l D tc base ad cnt X Y ln hR hFx hLn hCI z1 name lane (-1) (by omega) (by omega) (by omega) (by omega) (by omega)) (cwV 3 hts gX8_field_X7_addField rfl rfl rfl (by first | exact hd_X7_addField | decide +kernel) ⟨Nat.le_of_ble_eq_true rfl, Nat.le_of_ble_eq_true rfl⟩) hK hw (by first | exact Int.le_refl 0 | omega) (by first | exact zlt hc19 | omega) sl_19_0 rfl rfl hl.1 rfl (Nat.le_of_ble_eq_true rfl) dX8_field_86 ⟨Nat.le_of_ble_eq_true rfl, Nat.le_of_ble_eq_true rfl⟩) hS (fun z19 u20 H locs p21 hw hS => ?_)
                obtain ⟨X22, eu20, hRX22, hG23, hCIX22, p21, hazX22, hafX22, hayX22, hacX22, haoX22⟩ := p21
                subst eu20
                have hFX22 : Frm [1902, 2000, 2100, 2200, 2300, 1600] X X22 := Frm.tr Frm.rf (Frm.mono hG23 (by decide))
                refine lv_istore (lv' := [(7, .int (jI z19)), (6, .ref (ad 19 z1)), (0, .ref (ad 0 0)), (1, .int (jI t)), (2, .int (jI name)), (3, .int (jI lane)), (4, .long (jL v))]) hx hb dX8_field_89 hl (by decide) rfl (fun ls hl => ?_)
                refine lv_iconst (v := jI 0) hx hb dX8_field_91 rfl ?_
                refine lv_istore (lv' := [(8, .int (jI 0)), (7, .int (jI z19)), (6, .ref (ad 19 z1)), (0, .ref (ad 0 0)), (1, .int (jI t)), (2, .int (jI name)), (3, .int (jI lane)), (4, .long (jL v))]) hx hb dX8_field_92 hl (by decide) rfl (fun ls hl => ?_)
                have lp94 : ∀ (nn : Nat) (x : Int) (Xa : Nat → Int → Int → Int) (Ya : Nat → Int → Int → Option Int) (H : Heap) (locs : List Loc) (ls : Array Slot), (30 - x) < (nn : Int) → (Rng Xa) → (Frm [1600] X22 Xa) → (Frm [1700] Y Ya) → (0 ≤ x ∧ x ≤ 30) → (CInv cnt Xa Ya ln) → (FdC X Xa Y Ya z1 z19 (if lane = 0 then v else -1) x) → wd D tc base (ad, cnt, Xa, Ya, ln) H → va_S (frA base) s.heap H locs → lv_has ls 9 [(0, .ref (ad 0 0)), (6, .ref (ad 19 z1)), (7, .int (jI z19)), (8, .int (jI x))] → W p l e ({ frames := 2, cells := 0, slots := 0, locals := 42 } : Room) s m av9 below meth c H locs 0 0 Q9 (F0 m 94 ls []) := by
                  intro nn
                  induction nn with
                  | zero => intro x Xa Ya H locs ls hm hRXa hGXa hGYa hx8 hCIXa hFd hw hS hl; exfalso; omega
                  | succ nn ih94 =>
                    intro x Xa Ya H locs ls hm hRXa hGXa hGYa hx8 hCIXa hFd hw hS hl
                    have hHYa : Frm [1700] Y Ya := Frm.tr Frm.rf (Frm.mono hGYa (by decide))
                    have hFXa : Frm [1902, 2000, 2100, 2200, 2300, 1600] X Xa := Frm.tr hFX22 (Frm.mono hGXa (by decide))
                    refine lv_iload hx hb dX8_field_94 (lv_at hl 3 rfl) ?_
                    refine lv_aload_n hx hb dX8_field_96 rfl (lv_at hl 0 rfl) ?_
                    refine x_geti (jz := 3) hx hb hf8 hw (by first | exact Int.le_refl 0 | omega) (by first | exact zlt hc0 | omega) sl_0_3 rfl lk94 dX8_field_97 ?_
                    have e24 : Xa 0 0 3 = X 0 0 3 := by rw [hGXa 0 0 3 (show 4 ∉ [1600] by decide), hG23 0 0 3 (show 4 ∉ [1902, 2000, 2100, 2200, 2300] by decide)]
                    rw [e24]
                    have f25 : 0 ≤ X 0 0 3 ∧ X 0 0 3 ≤ 30 := hR 0 0 3
                    refine x_icmp_ge (tgt := 136) hx hb (by omega) (by omega) dX8_field_100 (by decide) (fun c26 => ?_) (fun c26 => ?_)
                    · refine lv_iload hx hb dX8_field_136 (lv_at hl 2 rfl) ?_
                      rw [hQ9]
                      refine ret_i (mc := 0) (ms := 0) hx hb hr hlocks hw hS (by first | exact Nat.le_of_ble_eq_true rfl | omega) (by first | exact Nat.le_of_ble_eq_true rfl | omega) dX8_field_138 ?_
                      have e27 : Xa 19 z1 1 = X22 19 z1 1 := (by rw [hGXa 19 z1 1 (show 1902 ∉ [1600] by decide)])
                      exact ⟨Xa, Ya, rfl, hRXa, hFXa, hHYa, hCIXa, by omega, (by rw [← ezz1]; (try delta Hid at *); omega), fun h => ⟨(by rw [← ezz1, hazX22]; rw [hGXa 20 z1 (X 19 z1 1) (show 2000 ∉ [1600] by decide)]; exact hacX22.1), (by rw [← ezz1, hazX22]; rw [hGXa 21 z1 (X 19 z1 1) (show 2100 ∉ [1600] by decide)]; exact hacX22.2.1), (by rw [← ezz1, hazX22]; rw [hGXa 22 z1 (X 19 z1 1) (show 2200 ∉ [1600] by decide), hacX22.2.2.1]; split <;> omega), (by rw [← ezz1, hazX22]; rw [hGXa 23 z1 (X 19 z1 1) (show 2300 ∉ [1600] by decide)]; exact hacX22.2.2.2)⟩, fun y j h => ⟨(by rw [hGXa 20 y j (show 2000 ∉ [1600] by decide)]; exact (haoX22 y j (by omega)).1), (by rw [hGXa 21 y j (show 2100 ∉ [1600] by decide)]; exact (haoX22 y j (by omega)).2.1), (by rw [hGXa 22 y j (show 2200 ∉ [1600] by decide)]; exact (haoX22 y j (by omega)).2.2.1), (by rw [hGXa 23 y j (show 2300 ∉ [1600] by decide)]; exact (haoX22 y j (by omega)).2.2.2)⟩, fun y h => (by rw [hGXa 19 y 1 (show 1902 ∉ [1600] by decide)]; exact hayX22 y (by omega)), fun _ => (by rw [← ezz1]; exact ⟨fun y a b c => hFd.1 y a (by omega) c, fun y j a b c => hFd.2 y j (fun q9 => c ⟨q9.2.2.1, q9.2.2.2⟩)⟩), fun q => (by exfalso; omega)⟩
                    · refine lv_aload_n hx hb dX8_field_103 rfl (lv_at hl 0 rfl) ?_
                      refine x_geto hx hb hf8 hw (by first | exact Int.le_refl 0 | omega) (by first | exact zlt hc0 | omega) sl_0_2 lk17 dX8_field_104 ?_
                      refine lv_iload hx hb dX8_field_107 (lv_at hl 3 rfl) ?_
                      refine x_aald hx hb hK.1 hw (by first | exact Int.le_refl 0 | omega) (by first | exact zlt hc2 | omega) ar_2 rfl (len_E ar_2 (by decide)) (by omega) (by omega) (by omega) dX8_field_109 (fun y28 => ?_) (fun r29 y28 gr29 lr29 => ?_)
                      · exfalso
                        have e30 : ∀ p9 q9 : Int, Ya 2 p9 q9 = Y 2 p9 q9 := fun p9 q9 => by rw [hGYa 2 p9 q9 (show 200 ∉ [1700] by decide)]
                        rw [e30] at y28
                        have h9 := hCI.1 x (by omega) (by omega); rw [h9] at y28; cases y28
                      · have e31 : ∀ p9 q9 : Int, Ya 2 p9 q9 = Y 2 p9 q9 := fun p9 q9 => by rw [hGYa 2 p9 q9 (show 200 ∉ [1700] by decide)]
                        rw [e31] at y28
                        have er29 : r29 = x := by have h9 := hCI.1 x (by omega) (by omega); rw [h9] at y28; cases y28; rfl
                        rw [er29]
                        refine x_getr (jz := 0) hx hb hf6 hw (by omega) (by omega) sl_15_0 rfl lk97 dX8_field_110 (fun y32 => ?_) (fun r33 y32 gr33 lr33 => ?_)
                        · exfalso
                          have e34 : Ya 15 x 0 = Y 15 x 0 := by rw [hGYa 15 x 0 (show 1501 ∉ [1700] by decide)]
                          rw [e34] at y32
                          exact absurd y32 (hCI.2.2.2.2.1 x (by omega) (by omega))
                        · have e35 : Ya 15 x 0 = Y 15 x 0 := by rw [hGYa 15 x 0 (show 1501 ∉ [1700] by decide)]
                          rw [e35] at y32
                          refine lv_aload hx hb dX8_field_113 (lv_at hl 1 rfl) ?_
                          refine lv_acmp_ne (rx := some (ad 19 r33)) (ry := some (ad 19 z1)) (tgt := 130) hx hb dX8_field_115 (by decide) (fun c36 => ?_) (fun c36 => ?_)
                          · have c36 : ¬ r33 = z1 := fun q => c36 (by rw [q])
                            refine lv_iinc (v := jI (x + 1)) (lv' := [(8, .int (jI (x + 1))), (0, .ref (ad 0 0)), (6, .ref (ad 19 z1)), (7, .int (jI z19))]) hx hb dX8_field_130 hl (k := 3) rfl (jI_add _ _) (by decide) rfl (fun ls hl => ?_)
                            refine lv_goto (tgt := 94) hx hb dX8_field_133 (by decide) ?_
                            have q37 : Frm [1600] X22 Xa := Frm.tr Frm.rf (Frm.mono hGXa (by decide))
                            have q38 : Frm [1700] Y Ya := Frm.tr Frm.rf (Frm.mono hGYa (by decide))
                            exact ih94 (x + 1) Xa Ya _ _ _ (by omega) hRXa q37 q38 (by omega) (hCIXa) (FdC.no hFd (by rw [y32]; exact fun q9 => (by have h9 := Option.some.inj q9; omega))) hw hS (lv_sub hl [1, 2, 3, 0] rfl)
                          · have c36 : r33 = z1 := (wd_inj hw (by omega) (by omega) (by omega) (by omega) (Option.some.inj c36)).2
                            refine lv_aload_n hx hb dX8_field_118 rfl (lv_at hl 0 rfl) ?_
                            refine x_geto hx hb hf8 hw (by first | exact Int.le_refl 0 | omega) (by first | exact zlt hc0 | omega) sl_0_2 lk17 dX8_field_119 ?_
                            refine lv_iload hx hb dX8_field_122 (lv_at hl 3 rfl) ?_
                            refine x_aald hx hb hK.1 hw (by first | exact Int.le_refl 0 | omega) (by first | exact zlt hc2 | omega) ar_2 rfl (len_E ar_2 (by decide)) (by omega) (by omega) (by omega) dX8_field_124 (fun y39 => ?_) (fun r40 y39 gr40 lr40 => ?_)
                            · exfalso
                              have e41 : ∀ p9 q9 : Int, Ya 2 p9 q9 = Y 2 p9 q9 := fun p9 q9 => by rw [hGYa 2 p9 q9 (show 200 ∉ [1700] by decide)]
                              rw [e41] at y39
                              have h9 := hCI.1 x (by omega) (by omega); rw [h9] at y39; cases y39
                            · have e42 : ∀ p9 q9 : Int, Ya 2 p9 q9 = Y 2 p9 q9 := fun p9 q9 => by rw [hGYa 2 p9 q9 (show 200 ∉ [1700] by decide)]
                              rw [e42] at y39
                              have er40 : r40 = x := by have h9 := hCI.1 x (by omega) (by omega); rw [h9] at y39; cases y39; rfl
                              rw [er40]
                              refine lv_iload hx hb dX8_field_125 (lv_at hl 2 rfl) ?_
                              refine gos_v (run_V (As := [.int (jI z19)]) (rest := []) hx hb hml hown hts (c_X6_setDefault l D tc base ad cnt Xa Ya ln hRXa hFx hLn hCIXa x z19 (by omega) (by omega) (by rw [hGYa 15 x 0 (show 1501 ∉ [1700] by decide), y32]; exact fun q => by cases q)) (cwV 1 hts gX8_field_X6_setDefault rfl rfl rfl (by first | exact hd_X6_setDefault | decide +kernel) ⟨Nat.le_of_ble_eq_true rfl, Nat.le_of_ble_eq_true rfl⟩) hK hw (by first | exact Int.le_refl 0 | omega) (by first | exact zlt hc15 | omega) sl_15_0 rfl rfl hl.1 rfl (Nat.le_of_ble_eq_true rfl) dX8_field_127 ⟨Nat.le_of_ble_eq_true rfl, Nat.le_of_ble_eq_true rfl⟩) hS (fun u44 H locs p45 hw hS => ?_)
                              obtain ⟨X46, Y47, eu44, hRX46, hG48, hJ49, hCIX46, p45, hs1X46, hs2X46, hs3X46, hs4X46⟩ := p45
                              subst eu44
                              have hFX46 : Frm [1902, 2000, 2100, 2200, 2300, 1600] X X46 := Frm.tr hFXa (Frm.mono hG48 (by decide))
                              have hHY47 : Frm [1700] Y Y47 := Frm.tr hHYa (Frm.mono hJ49 (by decide))
                              refine lv_iinc (v := jI (x + 1)) (lv' := [(8, .int (jI (x + 1))), (0, .ref (ad 0 0)), (6, .ref (ad 19 z1)), (7, .int (jI z19))]) hx hb dX8_field_130 hl (k := 3) rfl (jI_add _ _) (by decide) rfl (fun ls hl => ?_)
                              refine lv_goto (tgt := 94) hx hb dX8_field_133 (by decide) ?_
                              have q50 : Frm [1600] X22 Xa := Frm.tr Frm.rf (Frm.mono hGXa (by decide))
                              have q51 : Frm [1600] X22 X46 := Frm.tr q50 (Frm.mono hG48 (by decide))
                              have q52 : Frm [1700] Y Ya := Frm.tr Frm.rf (Frm.mono hGYa (by decide))
                              have q53 : Frm [1700] Y Y47 := Frm.tr q52 (Frm.mono hJ49 (by decide))
                              have hty954 : tyo (Ya 15 x 0) = z1 := by rw [tyo_some (show Ya 15 x 0 = some r33 from (by rw [hGYa 15 x 0 (show 1501 ∉ [1700] by decide)]; exact y32))]; omega
                              have hdv55 : Xa 22 z1 z19 = (if lane = 0 then v else -1) := by rw [hGXa 22 z1 z19 (show 2200 ∉ [1600] by decide), hazX22, hacX22.2.2.1]; split <;> omega
                              exact ih94 (x + 1) X46 Y47 _ _ _ (by omega) hRX46 q51 q53 (by omega) (hCIX46) (FdC.yes hFd (by rw [hs1X46, hty954]; exact hdv55) (fun y j hy => (by rw [hs2X46 y j hy])) hs3X46 (fun y j hy => (by rw [hs4X46 y j hy])) (by omega) (by rw [y32, show r33 = z1 by omega])) hw hS (lv_sub hl [1, 2, 3, 0] rfl)
                exact lp94 (30 - 0 : Int).toNat.succ 0 X22 Y _ _ _ (by omega) hRX22 Frm.rf Frm.rf (by omega) (hCIX22) (FdC.in_ (fun y j => (by rw [hG23 16 y j (show 1600 ∉ [1902, 2000, 2100, 2200, 2300] by decide)])) (fun y j => (by rfl))) hw hS (lv_sub hl [3, 2, 1, 0] rfl)
              · refine lv_lload hx hb dX8_field_78 (lv_at hl 5 rfl) ?_
                refine lv_goto (tgt := 86) hx hb dX8_field_80 (by decide) ?_
                refine gos_i (run_V (As := [.int (jI name), .int (jI lane), .long (jL v)]) (rest := []) hx hb hml hown hts (c_X7_addField l D tc base ad cnt X Y ln hR hFx hLn hCI z1 name lane v (by omega) (by omega) (by omega) (by omega) (by omega)) (cwV 3 hts gX8_field_X7_addField rfl rfl rfl (by first | exact hd_X7_addField | decide +kernel) ⟨Nat.le_of_ble_eq_true rfl, Nat.le_of_ble_eq_true rfl⟩) hK hw (by first | exact Int.le_refl 0 | omega) (by first | exact zlt hc19 | omega) sl_19_0 rfl rfl hl.1 rfl (Nat.le_of_ble_eq_true rfl) dX8_field_86 ⟨Nat.le_of_ble_eq_true rfl, Nat.le_of_ble_eq_true rfl⟩) hS (fun z56 u57 H locs p58 hw hS => ?_)
                obtain ⟨X59, eu57, hRX59, hG60, hCIX59, p58, hazX59, hafX59, hayX59, hacX59, haoX59⟩ := p58
                subst eu57
                have hFX59 : Frm [1902, 2000, 2100, 2200, 2300, 1600] X X59 := Frm.tr Frm.rf (Frm.mono hG60 (by decide))
                refine lv_istore (lv' := [(7, .int (jI z56)), (6, .ref (ad 19 z1)), (0, .ref (ad 0 0)), (1, .int (jI t)), (2, .int (jI name)), (3, .int (jI lane)), (4, .long (jL v))]) hx hb dX8_field_89 hl (by decide) rfl (fun ls hl => ?_)
                refine lv_iconst (v := jI 0) hx hb dX8_field_91 rfl ?_
                refine lv_istore (lv' := [(8, .int (jI 0)), (7, .int (jI z56)), (6, .ref (ad 19 z1)), (0, .ref (ad 0 0)), (1, .int (jI t)), (2, .int (jI name)), (3, .int (jI lane)), (4, .long (jL v))]) hx hb dX8_field_92 hl (by decide) rfl (fun ls hl => ?_)
                have lp94 : ∀ (nn : Nat) (x : Int) (Xa : Nat → Int → Int → Int) (Ya : Nat → Int → Int → Option Int) (H : Heap) (locs : List Loc) (ls : Array Slot), (30 - x) < (nn : Int) → (Rng Xa) → (Frm [1600] X59 Xa) → (Frm [1700] Y Ya) → (0 ≤ x ∧ x ≤ 30) → (CInv cnt Xa Ya ln) → (FdC X Xa Y Ya z1 z56 (if lane = 0 then v else -1) x) → wd D tc base (ad, cnt, Xa, Ya, ln) H → va_S (frA base) s.heap H locs → lv_has ls 9 [(0, .ref (ad 0 0)), (6, .ref (ad 19 z1)), (7, .int (jI z56)), (8, .int (jI x))] → W p l e ({ frames := 2, cells := 0, slots := 0, locals := 42 } : Room) s m av9 below meth c H locs 0 0 Q9 (F0 m 94 ls []) := by
                  intro nn
                  induction nn with
                  | zero => intro x Xa Ya H locs ls hm hRXa hGXa hGYa hx8 hCIXa hFd hw hS hl; exfalso; omega
                  | succ nn ih94 =>
                    intro x Xa Ya H locs ls hm hRXa hGXa hGYa hx8 hCIXa hFd hw hS hl
                    have hHYa : Frm [1700] Y Ya := Frm.tr Frm.rf (Frm.mono hGYa (by decide))
                    have hFXa : Frm [1902, 2000, 2100, 2200, 2300, 1600] X Xa := Frm.tr hFX59 (Frm.mono hGXa (by decide))
                    refine lv_iload hx hb dX8_field_94 (lv_at hl 3 rfl) ?_
                    refine lv_aload_n hx hb dX8_field_96 rfl (lv_at hl 0 rfl) ?_
                    refine x_geti (jz := 3) hx hb hf8 hw (by first | exact Int.le_refl 0 | omega) (by first | exact zlt hc0 | omega) sl_0_3 rfl lk94 dX8_field_97 ?_
                    have e61 : Xa 0 0 3 = X 0 0 3 := by rw [hGXa 0 0 3 (show 4 ∉ [1600] by decide), hG60 0 0 3 (show 4 ∉ [1902, 2000, 2100, 2200, 2300] by decide)]
                    rw [e61]
                    have f62 : 0 ≤ X 0 0 3 ∧ X 0 0 3 ≤ 30 := hR 0 0 3
                    refine x_icmp_ge (tgt := 136) hx hb (by omega) (by omega) dX8_field_100 (by decide) (fun c63 => ?_) (fun c63 => ?_)
                    · refine lv_iload hx hb dX8_field_136 (lv_at hl 2 rfl) ?_
                      rw [hQ9]
                      refine ret_i (mc := 0) (ms := 0) hx hb hr hlocks hw hS (by first | exact Nat.le_of_ble_eq_true rfl | omega) (by first | exact Nat.le_of_ble_eq_true rfl | omega) dX8_field_138 ?_
                      have e64 : Xa 19 z1 1 = X59 19 z1 1 := (by rw [hGXa 19 z1 1 (show 1902 ∉ [1600] by decide)])
                      exact ⟨Xa, Ya, rfl, hRXa, hFXa, hHYa, hCIXa, by omega, (by rw [← ezz1]; (try delta Hid at *); omega), fun h => ⟨(by rw [← ezz1, hazX59]; rw [hGXa 20 z1 (X 19 z1 1) (show 2000 ∉ [1600] by decide)]; exact hacX59.1), (by rw [← ezz1, hazX59]; rw [hGXa 21 z1 (X 19 z1 1) (show 2100 ∉ [1600] by decide)]; exact hacX59.2.1), (by rw [← ezz1, hazX59]; rw [hGXa 22 z1 (X 19 z1 1) (show 2200 ∉ [1600] by decide), hacX59.2.2.1]; split <;> omega), (by rw [← ezz1, hazX59]; rw [hGXa 23 z1 (X 19 z1 1) (show 2300 ∉ [1600] by decide)]; exact hacX59.2.2.2)⟩, fun y j h => ⟨(by rw [hGXa 20 y j (show 2000 ∉ [1600] by decide)]; exact (haoX59 y j (by omega)).1), (by rw [hGXa 21 y j (show 2100 ∉ [1600] by decide)]; exact (haoX59 y j (by omega)).2.1), (by rw [hGXa 22 y j (show 2200 ∉ [1600] by decide)]; exact (haoX59 y j (by omega)).2.2.1), (by rw [hGXa 23 y j (show 2300 ∉ [1600] by decide)]; exact (haoX59 y j (by omega)).2.2.2)⟩, fun y h => (by rw [hGXa 19 y 1 (show 1902 ∉ [1600] by decide)]; exact hayX59 y (by omega)), fun _ => (by rw [← ezz1]; exact ⟨fun y a b c => hFd.1 y a (by omega) c, fun y j a b c => hFd.2 y j (fun q9 => c ⟨q9.2.2.1, q9.2.2.2⟩)⟩), fun q => (by exfalso; omega)⟩
                    · refine lv_aload_n hx hb dX8_field_103 rfl (lv_at hl 0 rfl) ?_
                      refine x_geto hx hb hf8 hw (by first | exact Int.le_refl 0 | omega) (by first | exact zlt hc0 | omega) sl_0_2 lk17 dX8_field_104 ?_
                      refine lv_iload hx hb dX8_field_107 (lv_at hl 3 rfl) ?_
                      refine x_aald hx hb hK.1 hw (by first | exact Int.le_refl 0 | omega) (by first | exact zlt hc2 | omega) ar_2 rfl (len_E ar_2 (by decide)) (by omega) (by omega) (by omega) dX8_field_109 (fun y65 => ?_) (fun r66 y65 gr66 lr66 => ?_)
                      · exfalso
                        have e67 : ∀ p9 q9 : Int, Ya 2 p9 q9 = Y 2 p9 q9 := fun p9 q9 => by rw [hGYa 2 p9 q9 (show 200 ∉ [1700] by decide)]
                        rw [e67] at y65
                        have h9 := hCI.1 x (by omega) (by omega); rw [h9] at y65; cases y65
                      · have e68 : ∀ p9 q9 : Int, Ya 2 p9 q9 = Y 2 p9 q9 := fun p9 q9 => by rw [hGYa 2 p9 q9 (show 200 ∉ [1700] by decide)]
                        rw [e68] at y65
                        have er66 : r66 = x := by have h9 := hCI.1 x (by omega) (by omega); rw [h9] at y65; cases y65; rfl
                        rw [er66]
                        refine x_getr (jz := 0) hx hb hf6 hw (by omega) (by omega) sl_15_0 rfl lk97 dX8_field_110 (fun y69 => ?_) (fun r70 y69 gr70 lr70 => ?_)
                        · exfalso
                          have e71 : Ya 15 x 0 = Y 15 x 0 := by rw [hGYa 15 x 0 (show 1501 ∉ [1700] by decide)]
                          rw [e71] at y69
                          exact absurd y69 (hCI.2.2.2.2.1 x (by omega) (by omega))
                        · have e72 : Ya 15 x 0 = Y 15 x 0 := by rw [hGYa 15 x 0 (show 1501 ∉ [1700] by decide)]
                          rw [e72] at y69
                          refine lv_aload hx hb dX8_field_113 (lv_at hl 1 rfl) ?_
                          refine lv_acmp_ne (rx := some (ad 19 r70)) (ry := some (ad 19 z1)) (tgt := 130) hx hb dX8_field_115 (by decide) (fun c73 => ?_) (fun c73 => ?_)
                          · have c73 : ¬ r70 = z1 := fun q => c73 (by rw [q])
                            refine lv_iinc (v := jI (x + 1)) (lv' := [(8, .int (jI (x + 1))), (0, .ref (ad 0 0)), (6, .ref (ad 19 z1)), (7, .int (jI z56))]) hx hb dX8_field_130 hl (k := 3) rfl (jI_add _ _) (by decide) rfl (fun ls hl => ?_)
                            refine lv_goto (tgt := 94) hx hb dX8_field_133 (by decide) ?_
                            have q74 : Frm [1600] X59 Xa := Frm.tr Frm.rf (Frm.mono hGXa (by decide))
                            have q75 : Frm [1700] Y Ya := Frm.tr Frm.rf (Frm.mono hGYa (by decide))
                            exact ih94 (x + 1) Xa Ya _ _ _ (by omega) hRXa q74 q75 (by omega) (hCIXa) (FdC.no hFd (by rw [y69]; exact fun q9 => (by have h9 := Option.some.inj q9; omega))) hw hS (lv_sub hl [1, 2, 3, 0] rfl)
                          · have c73 : r70 = z1 := (wd_inj hw (by omega) (by omega) (by omega) (by omega) (Option.some.inj c73)).2
                            refine lv_aload_n hx hb dX8_field_118 rfl (lv_at hl 0 rfl) ?_
                            refine x_geto hx hb hf8 hw (by first | exact Int.le_refl 0 | omega) (by first | exact zlt hc0 | omega) sl_0_2 lk17 dX8_field_119 ?_
                            refine lv_iload hx hb dX8_field_122 (lv_at hl 3 rfl) ?_
                            refine x_aald hx hb hK.1 hw (by first | exact Int.le_refl 0 | omega) (by first | exact zlt hc2 | omega) ar_2 rfl (len_E ar_2 (by decide)) (by omega) (by omega) (by omega) dX8_field_124 (fun y76 => ?_) (fun r77 y76 gr77 lr77 => ?_)
                            · exfalso
                              have e78 : ∀ p9 q9 : Int, Ya 2 p9 q9 = Y 2 p9 q9 := fun p9 q9 => by rw [hGYa 2 p9 q9 (show 200 ∉ [1700] by decide)]
                              rw [e78] at y76
                              have h9 := hCI.1 x (by omega) (by omega); rw [h9] at y76; cases y76
                            · have e79 : ∀ p9 q9 : Int, Ya 2 p9 q9 = Y 2 p9 q9 := fun p9 q9 => by rw [hGYa 2 p9 q9 (show 200 ∉ [1700] by decide)]
                              rw [e79] at y76
                              have er77 : r77 = x := by have h9 := hCI.1 x (by omega) (by omega); rw [h9] at y76; cases y76; rfl
                              rw [er77]
                              refine lv_iload hx hb dX8_field_125 (lv_at hl 2 rfl) ?_
                              refine gos_v (run_V (As := [.int (jI z56)]) (rest := []) hx hb hml hown hts (c_X6_setDefault l D tc base ad cnt Xa Ya ln hRXa hFx hLn hCIXa x z56 (by omega) (by omega) (by rw [hGYa 15 x 0 (show 1501 ∉ [1700] by decide), y69]; exact fun q => by cases q)) (cwV 1 hts gX8_field_X6_setDefault rfl rfl rfl (by first | exact hd_X6_setDefault | decide +kernel) ⟨Nat.le_of_ble_eq_true rfl, Nat.le_of_ble_eq_true rfl⟩) hK hw (by first | exact Int.le_refl 0 | omega) (by first | exact zlt hc15 | omega) sl_15_0 rfl rfl hl.1 rfl (Nat.le_of_ble_eq_true rfl) dX8_field_127 ⟨Nat.le_of_ble_eq_true rfl, Nat.le_of_ble_eq_true rfl⟩) hS (fun u81 H locs p82 hw hS => ?_)
                              obtain ⟨X83, Y84, eu81, hRX83, hG85, hJ86, hCIX83, p82, hs1X83, hs2X83, hs3X83, hs4X83⟩ := p82
                              subst eu81
                              have hFX83 : Frm [1902, 2000, 2100, 2200, 2300, 1600] X X83 := Frm.tr hFXa (Frm.mono hG85 (by decide))
                              have hHY84 : Frm [1700] Y Y84 := Frm.tr hHYa (Frm.mono hJ86 (by decide))
                              refine lv_iinc (v := jI (x + 1)) (lv' := [(8, .int (jI (x + 1))), (0, .ref (ad 0 0)), (6, .ref (ad 19 z1)), (7, .int (jI z56))]) hx hb dX8_field_130 hl (k := 3) rfl (jI_add _ _) (by decide) rfl (fun ls hl => ?_)
                              refine lv_goto (tgt := 94) hx hb dX8_field_133 (by decide) ?_
                              have q87 : Frm [1600] X59 Xa := Frm.tr Frm.rf (Frm.mono hGXa (by decide))
                              have q88 : Frm [1600] X59 X83 := Frm.tr q87 (Frm.mono hG85 (by decide))
                              have q89 : Frm [1700] Y Ya := Frm.tr Frm.rf (Frm.mono hGYa (by decide))
                              have q90 : Frm [1700] Y Y84 := Frm.tr q89 (Frm.mono hJ86 (by decide))
                              have hty991 : tyo (Ya 15 x 0) = z1 := by rw [tyo_some (show Ya 15 x 0 = some r70 from (by rw [hGYa 15 x 0 (show 1501 ∉ [1700] by decide)]; exact y69))]; omega
                              have hdv92 : Xa 22 z1 z56 = (if lane = 0 then v else -1) := by rw [hGXa 22 z1 z56 (show 2200 ∉ [1600] by decide), hazX59, hacX59.2.2.1]; split <;> omega
                              exact ih94 (x + 1) X83 Y84 _ _ _ (by omega) hRX83 q88 q90 (by omega) (hCIX83) (FdC.yes hFd (by rw [hs1X83, hty991]; exact hdv92) (fun y j hy => (by rw [hs2X83 y j hy])) hs3X83 (fun y j hy => (by rw [hs4X83 y j hy])) (by omega) (by rw [y69, show r70 = z1 by omega])) hw hS (lv_sub hl [1, 2, 3, 0] rfl)
                exact lp94 (30 - 0 : Int).toNat.succ 0 X59 Y _ _ _ (by omega) hRX59 Frm.rf Frm.rf (by omega) (hCIX59) (FdC.in_ (fun y j => (by rw [hG60 16 y j (show 1600 ∉ [1902, 2000, 2100, 2200, 2300] by decide)])) (fun y j => (by rfl))) hw hS (lv_sub hl [3, 2, 1, 0] rfl)
            · refine lv_bipush (v := jI (-4)) hx hb dX8_field_67 (by decide) ?_
              rw [hQ9]
              refine ret_i (mc := 0) (ms := 0) hx hb hr hlocks hw hS (by first | exact Nat.le_of_ble_eq_true rfl | omega) (by first | exact Nat.le_of_ble_eq_true rfl | omega) dX8_field_69 ?_
              exact ⟨X, Y, rfl, hR, Frm.rf, Frm.rf, hCI, by omega, (by rw [← ezz1]; (try delta Hid at *); omega), fun h => (by exfalso; omega), fun y j h => ⟨rfl, rfl, rfl, rfl⟩, fun y h => rfl, fun q => (by exfalso; omega), fun _ => ⟨rfl, rfl⟩⟩
          · refine lv_bipush (v := jI (-3)) hx hb dX8_field_55 (by decide) ?_
            rw [hQ9]
            refine ret_i (mc := 0) (ms := 0) hx hb hr hlocks hw hS (by first | exact Nat.le_of_ble_eq_true rfl | omega) (by first | exact Nat.le_of_ble_eq_true rfl | omega) dX8_field_57 ?_
            exact ⟨X, Y, rfl, hR, Frm.rf, Frm.rf, hCI, by omega, (by rw [← ezz1]; (try delta Hid at *); omega), fun h => (by exfalso; omega), fun y j h => ⟨rfl, rfl, rfl, rfl⟩, fun y h => rfl, fun q => (by exfalso; omega), fun _ => ⟨rfl, rfl⟩⟩
        · subst ez11
          refine x_if_neF (tgt := 45) hx hb (by omega) (by decide) dX8_field_39 (by decide) ?_
          refine lv_bipush (v := jI (-2)) hx hb dX8_field_42 (by decide) ?_
          rw [hQ9]
          refine ret_i (mc := 0) (ms := 0) hx hb hr hlocks hw hS (by first | exact Nat.le_of_ble_eq_true rfl | omega) (by first | exact Nat.le_of_ble_eq_true rfl | omega) dX8_field_44 ?_
          exact ⟨X, Y, rfl, hR, Frm.rf, Frm.rf, hCI, by omega, (by rw [← ezz1]; (try delta Hid at *); omega), fun h => (by exfalso; omega), fun y j h => ⟨rfl, rfl, rfl, rfl⟩, fun y h => rfl, fun q => (by exfalso; omega), fun _ => ⟨rfl, rfl⟩⟩
    · subst ez4
      refine x_if_eqT (tgt := 42) hx hb (by omega) (by decide) dX8_field_20 (by decide) ?_
      refine lv_bipush (v := jI (-2)) hx hb dX8_field_42 (by decide) ?_
      rw [hQ9]
      refine ret_i (mc := 0) (ms := 0) hx hb hr hlocks hw hS (by first | exact Nat.le_of_ble_eq_true rfl | omega) (by first | exact Nat.le_of_ble_eq_true rfl | omega) dX8_field_44 ?_
      exact ⟨X, Y, rfl, hR, Frm.rf, Frm.rf, hCI, by omega, (by rw [← ezz1]; (try delta Hid at *); omega), fun h => (by exfalso; omega), fun y j h => ⟨rfl, rfl, rfl, rfl⟩, fun y h => rfl, fun q => (by exfalso; omega), fun _ => ⟨rfl, rfl⟩⟩
