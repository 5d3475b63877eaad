set_option maxHeartbeats 4000000 in
set_option maxRecDepth 100000 in
theorem c_X8_judge (l : Launch) (D : va_G) (tc : Nat → ClassId) (base : Nat) (ad : Nat → Int → Nat) (cnt : Nat → Int) (X : Nat → Int → Int → Int) (Y : Nat → Int → Int → Option Int) (ln : Int → Int) (hR : Rng X) (hFx : Fx cnt) (hLn : LnOK ln) (hCI : CInv cnt X Y ln) (x : Int) (hx : -2147483648 ≤ x ∧ x ≤ 2147483647) : KI l D tc base yX8_judge wsX8_judge ({ frames := 6, cells := 0, slots := 0, locals := 132 } : Room) [.ref (ad 0 0), .int (jI x)] (ad, cnt, X, Y, ln) 0 0 (fun z u => ∃ (X1 : Nat → Int → Int → Int), u = (ad, cnt, X1, Y, ln) ∧ Rng X1 ∧ Frm [] X X1 ∧ CInv cnt X1 Y ln ∧ (-2147483648 ≤ z ∧ z ≤ 2147483647) ∧ ((¬ (0 ≤ x ∧ x < X 0 0 3) ∧ z = -1) ∨ ((0 ≤ x ∧ x < X 0 0 3) ∧ ∃ how, jdC X Y ln x how ∧ ((how = 0 ∧ z = 1) ∨ (how ≠ 0 ∧ z = -10 - how)))) ∧ X1 = X) := by
  refine K_of (cc := cX8_judge) (maxL := 4) (ret := (some .int)) (by decide) rfl (Nat.le_of_ble_eq_true rfl) ?_
  intro p e s m below meth c ls hx hb hr hml hown hts hlocks hl hK hw hS
  have hown : s.vm.findClass RX8 = some m.cls := hown
  obtain ⟨av9, hav9⟩ : ∃ a9 : Array Value, a9 = ([.ref (ad 0 0), .int (jI x)] : List Value).toArray := ⟨_, rfl⟩
  rw [← hav9] at hts ⊢
  obtain ⟨Q9, hQ9⟩ : ∃ q9Q : State → Prop, q9Q = MQ below (QI D tc base (fun z u => ∃ (X1 : Nat → Int → Int → Int), u = (ad, cnt, X1, Y, ln) ∧ Rng X1 ∧ Frm [] X X1 ∧ CInv cnt X1 Y ln ∧ (-2147483648 ≤ z ∧ z ≤ 2147483647) ∧ ((¬ (0 ≤ x ∧ x < X 0 0 3) ∧ z = -1) ∨ ((0 ≤ x ∧ x < X 0 0 3) ∧ ∃ how, jdC X Y ln x how ∧ ((how = 0 ∧ z = 1) ∨ (how ≠ 0 ∧ z = -10 - how)))) ∧ X1 = X)) av9 s 0 0 (frA base) := ⟨_, rfl⟩
  rw [← hQ9]
  have hi6 : ∀ w ∈ wsX60, w ∈ wsX8_judge := fun w h => List.mem_cons_of_mem _ (List.mem_append_left _ (List.mem_append_left _ (List.mem_append_left _ (List.mem_append_left _ (List.mem_append_right _ h)))))
  have hf6 : fctx s m _ RX8 wsX8_judge D tc RX6 TX6 4 6 := ⟨hts, hi6, hown, hK.1, rfl⟩
  have hi7 : ∀ w ∈ wsX70, w ∈ wsX8_judge := fun w h => List.mem_cons_of_mem _ (List.mem_append_left _ (List.mem_append_left _ (List.mem_append_left _ (List.mem_append_right _ h))))
  have hf7 : fctx s m _ RX8 wsX8_judge D tc RX7 TX7 8 7 := ⟨hts, hi7, hown, hK.1, rfl⟩
  have lk97 := hts (.fieldLink RX8 97 (TX6 0).1 (TX6 0).2.1 (TX6 0).2.2.1) (gj_X8_judge_0 _ (gp_h))
  have lk118 := hts (.fieldLink RX8 118 (TX7 7).1 (TX7 7).2.1 (TX7 7).2.2.1) (gj_X8_judge_0 _ (gp_1 gp_h))
  have hc0 : cnt 0 = 1 := hFx.at 0 1 (by decide)
  have hc15 : cnt 15 = 30 := hFx.at 15 30 (by decide)
  have hc24 : cnt 24 = cnt 19 := hFx.2.1 24 (by decide)
  have hl : lv_has ls 4 [(0, .ref (ad 0 0)), (1, .int (jI x))] := hl
  have ftc : 0 ≤ X 0 0 3 ∧ X 0 0 3 ≤ 30 := hR 0 0 3
  have fty : 0 ≤ X 0 0 1 ∧ X 0 0 1 ≤ 8 := hR 0 0 1
  have hct : cnt 19 = X 0 0 1 := hCI.2.2.2.1.1
  have hfj : 0 ≤ X 29 0 3 ∧ X 29 0 3 ≤ 4 := hR 29 0 3
  have hfn : 0 ≤ X 29 0 1 ∧ X 29 0 1 ≤ 80 := hR 29 0 1
  refine lv_aload_n hx hb dX8_judge_0 rfl (lv_at hl 0 rfl) ?_
  refine lv_iload_n hx hb dX8_judge_1 rfl (lv_at hl 1 rfl) ?_
  refine x_i2l hx hb (by omega) dX8_judge_2 ?_
  refine gos_r (run_V (As := [.long (jL x)]) (rest := []) hx hb hml hown hts (c_X8_thingNumbered l D tc base ad cnt X Y ln hR hFx hLn hCI x (by omega)) (cwV 1 hts gX8_judge_X8_thingNumbered rfl rfl rfl (by first | exact hd_X8_thingNumbered | decide +kernel) ⟨Nat.le_of_ble_eq_true rfl, Nat.le_of_ble_eq_true rfl⟩) hK hw (by first | exact Int.le_refl 0 | omega) (by first | exact zlt hc0 | omega) sl_0_0 rfl rfl hl.1 rfl (Nat.le_of_ble_eq_true rfl) dX8_judge_3 ⟨Nat.le_of_ble_eq_true rfl, Nat.le_of_ble_eq_true rfl⟩) hS (fun u2 H locs p3 hw hS => ?_) (fun z1 u2 H locs p3 hw hS => ?_)
  · obtain ⟨eu2, hsp3, hnp3⟩ := p3
    subst eu2
    refine lv_astore_nN (lv' := [(2, .null), (0, .ref (ad 0 0)), (1, .int (jI x))]) hx hb dX8_judge_6 rfl hl (by decide) rfl (fun ls hl => ?_)
    refine lv_aload_nN hx hb dX8_judge_7 rfl (lv_at hl 0 rfl) ?_
    refine lv_ifnonnullN hx hb dX8_judge_8 ?_
    refine lv_iconst (v := jI (-1)) hx hb dX8_judge_11 rfl ?_
    rw [hQ9]
    refine ret_i (mc := 0) (ms := 0) hx hb hr hlocks hw hS (by first | exact Nat.le_of_ble_eq_true rfl | omega) (by first | exact Nat.le_of_ble_eq_true rfl | omega) dX8_judge_12 ?_
    exact ⟨X, rfl, hR, Frm.rf, hCI, by omega, Or.inl ⟨hnp3 rfl, by omega⟩, rfl⟩
  · obtain ⟨eu2, hsp3, hnp3⟩ := p3
    subst eu2
    obtain ⟨ezz1, p3⟩ := hsp3 z1 rfl
    refine lv_astore_n (lv' := [(2, .ref (ad 15 z1)), (0, .ref (ad 0 0)), (1, .int (jI x))]) hx hb dX8_judge_6 rfl hl (by decide) rfl (fun ls hl => ?_)
    refine lv_aload_n hx hb dX8_judge_7 rfl (lv_at hl 0 rfl) ?_
    refine lv_ifnonnull (tgt := 13) hx hb dX8_judge_8 (by decide) ?_
    refine lv_aload_n hx hb dX8_judge_13 rfl (lv_at hl 1 rfl) ?_
    refine lv_aload_n hx hb dX8_judge_14 rfl (lv_at hl 0 rfl) ?_
    refine gos_i (run_V (As := [.ref (ad 15 z1)]) (rest := []) hx hb hml hown hts (c_X8_firstFailingCheck l D tc base ad cnt X Y ln hR hFx hLn hCI z1 (by omega) (by omega)) (cwV 1 hts gX8_judge_X8_firstFailingCheck rfl rfl rfl (by first | exact hd_X8_firstFailingCheck | decide +kernel) ⟨Nat.le_of_ble_eq_true rfl, Nat.le_of_ble_eq_true rfl⟩) hK hw (by first | exact Int.le_refl 0 | omega) (by first | exact zlt hc0 | omega) sl_0_0 rfl rfl hl.1 rfl (Nat.le_of_ble_eq_true rfl) dX8_judge_15 ⟨Nat.le_of_ble_eq_true rfl, Nat.le_of_ble_eq_true rfl⟩) hS (fun z4 u5 H locs p6 hw hS => ?_)
    obtain ⟨eu5, p6, hAz4, hBz4⟩ := p6
    subst eu5
    refine lv_istore_n (lv' := [(3, .int (jI z4)), (2, .ref (ad 15 z1)), (0, .ref (ad 0 0)), (1, .int (jI x))]) hx hb dX8_judge_18 rfl hl (by decide) rfl (fun ls hl => ?_)
    refine lv_iload_n hx hb dX8_judge_19 rfl (lv_at hl 0 rfl) ?_
    refine lv_iconst (v := jI (-1)) hx hb dX8_judge_20 rfl ?_
    refine x_icmp_ne (tgt := 28) hx hb (by omega) (by omega) dX8_judge_21 (by decide) (fun c7 => ?_) (fun c7 => ?_)
    · refine lv_aload_n hx hb dX8_judge_28 rfl (lv_at hl 2 rfl) ?_
      refine lv_aload_n hx hb dX8_judge_29 rfl (lv_at hl 1 rfl) ?_
      refine lv_aload_n hx hb dX8_judge_30 rfl (lv_at hl 1 rfl) ?_
      refine x_getr (jz := 0) hx hb hf6 hw (by omega) (by omega) sl_15_0 rfl lk97 dX8_judge_31 (fun y8 => ?_) (fun r9 y8 gr9 lr9 => ?_)
      · exfalso
        exact absurd y8 (hCI.2.2.2.2.1 z1 (by omega) (by omega))
      · refine x_geto hx hb hf7 hw (by omega) (by omega) sl_19_7 lk118 dX8_judge_34 ?_
        refine lv_iload_n hx hb dX8_judge_37 rfl (lv_at hl 0 rfl) ?_
        have hlt := hAz4 r9 y8
        refine x_aald hx hb hK.1 hw (by omega) (by omega) ar_24 rfl (len_E ar_24 (by decide)) (by omega) (by omega) (by omega) dX8_judge_38 (fun y10 => ?_) (fun r11 y10 gr11 lr11 => ?_)
        · exfalso
          exact absurd y10 (hCI.2.2.2.2.2.1 r9 z4 (by omega) (by omega) (by omega) (by omega))
        · refine gos_i (run_V (As := [.ref (ad 15 z1), .ref (ad 25 r11)]) (rest := []) hx hb hml hown hts (c_X8_failureOf l D tc base ad cnt X Y ln hR hFx hLn hCI z1 r11 (by omega) (by omega) (by omega)) (cwV 2 hts gX8_judge_X8_failureOf rfl rfl rfl (by first | exact hd_X8_failureOf | decide +kernel) ⟨Nat.le_of_ble_eq_true rfl, Nat.le_of_ble_eq_true rfl⟩) hK hw (by first | exact Int.le_refl 0 | omega) (by first | exact zlt hc0 | omega) sl_0_0 rfl rfl hl.1 rfl (Nat.le_of_ble_eq_true rfl) dX8_judge_39 ⟨Nat.le_of_ble_eq_true rfl, Nat.le_of_ble_eq_true rfl⟩) hS (fun z12 u13 H locs p14 hw hS => ?_)
          obtain ⟨eu13, p14⟩ := p14
          subst eu13
          refine gos_i (run_S (As := [.int (jI z12)]) (rest := []) hx hb hml hown hts (c_X8_failed l D tc base ad cnt X Y ln z12 (by omega)) (cwS 1 hts gX8_judge_X8_failed rfl rfl rfl (by first | exact hd_X8_failed | decide +kernel) ⟨Nat.le_of_ble_eq_true rfl, Nat.le_of_ble_eq_true rfl⟩) hK hw rfl hl.1 rfl (Nat.le_of_ble_eq_true rfl) dX8_judge_42 ⟨Nat.le_of_ble_eq_true rfl, Nat.le_of_ble_eq_true rfl⟩) hS (fun z15 u16 H locs p17 hw hS => ?_)
          obtain ⟨eu16, p17⟩ := p17
          subst eu16
          rw [hQ9]
          refine ret_i (mc := 0) (ms := 0) hx hb hr hlocks hw hS (by first | exact Nat.le_of_ble_eq_true rfl | omega) (by first | exact Nat.le_of_ble_eq_true rfl | omega) dX8_judge_45 ?_
          exact ⟨X, rfl, hR, Frm.rf, hCI, by omega, Or.inr ⟨⟨by omega, by omega⟩, z12, (by rw [← ezz1]; rcases hBz4 with ⟨q1, -⟩ | ⟨q1, q2, q3, q4⟩; exfalso; omega; exact Or.inr ⟨(by rw [tyo_some y8, tyo_some y10] at q4; omega), z4, q1, q2, q3, (by rw [tyo_some y8, tyo_some y10]; omega)⟩), Or.inr ⟨(by rcases hBz4 with ⟨q1, -⟩ | ⟨q1, q2, q3, q4⟩; exfalso; omega; rw [tyo_some y8, tyo_some y10] at q4; omega), by omega⟩⟩, rfl⟩
    · refine lv_iconst (v := jI 1) hx hb dX8_judge_24 rfl ?_
      refine lv_goto (tgt := 45) hx hb dX8_judge_25 (by decide) ?_
      rw [hQ9]
      refine ret_i (mc := 0) (ms := 0) hx hb hr hlocks hw hS (by first | exact Nat.le_of_ble_eq_true rfl | omega) (by first | exact Nat.le_of_ble_eq_true rfl | omega) dX8_judge_45 ?_
      exact ⟨X, rfl, hR, Frm.rf, hCI, by omega, Or.inr ⟨⟨by omega, by omega⟩, 0, (by rw [← ezz1]; rcases hBz4 with ⟨q1, q2⟩ | ⟨q1, -⟩; exact Or.inl ⟨rfl, q2⟩; exfalso; omega), Or.inl ⟨rfl, by omega⟩⟩, rfl⟩
